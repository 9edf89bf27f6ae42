theorem lf_X11_rivet_1 (a : Nat → Nat) (ap : Int32) (sn : Nat) (sk : Nat) (scu : Int32) (sch : Int32) (g0 : Nat → Int32) (g1 : Nat → Int32) (g2 : Nat → Int32) (g3 : Nat → Int32) (n1 : Int32) (n2 : Int32) (n3 : Int32) (n4 : Int32) (hsn : sn ≤ 24) (hsk : sk ≤ 8) : sn ≤ 24 := by
  first | assumption | omega | decide
theorem lf_X11_rivet_2 (a : Nat → Nat) (ap : Int32) (sn : Nat) (sk : Nat) (scu : Int32) (sch : Int32) (g0 : Nat → Int32) (g1 : Nat → Int32) (g2 : Nat → Int32) (g3 : Nat → Int32) (n1 : Int32) (n2 : Int32) (n3 : Int32) (n4 : Int32) (hsn : sn ≤ 24) (hsk : sk ≤ 8) : sk ≤ 8 := by
  first | assumption | omega | decide
theorem lf_X11_rivet_4 (a : Nat → Nat) (ap : Int32) (sn : Nat) (sk : Nat) (scu : Int32) (sch : Int32) (g0 : Nat → Int32) (g1 : Nat → Int32) (g2 : Nat → Int32) (g3 : Nat → Int32) (n1 : Int32) (n2 : Int32) (n3 : Int32) (n4 : Int32) (hsn : sn ≤ 24) (hsk : sk ≤ 8) (ff3 : Nat) (ss3 : Nat) (dd3 : Nat) (hff3 : ff3 < sn) (hss3 : ss3 < sk) (hdd3 : dd3 < 2) : 0 ≤ nI ((ff3 * 8 + ss3) * 2 + dd3) := by
  first | exact nI_pos (by omega) | exact nI_pos' (by omega)
theorem lf_X11_rivet_6 (a : Nat → Nat) (ap : Int32) (sn : Nat) (sk : Nat) (scu : Int32) (sch : Int32) (g0 : Nat → Int32) (g1 : Nat → Int32) (g2 : Nat → Int32) (g3 : Nat → Int32) (n1 : Int32) (n2 : Int32) (n3 : Int32) (n4 : Int32) (hsn : sn ≤ 24) (hsk : sk ≤ 8) (ff3 : Nat) (ss3 : Nat) (dd3 : Nat) (hff3 : ff3 < sn) (hss3 : ss3 < sk) (hdd3 : dd3 < 2) (c_5 : n4 = 0) : vp_in (nI ((ff3 * 8 + ss3) * 2 + dd3)) 384 := by
  first | exact vp_in_nI (by omega) (by decide) | (unfold vp_in; decide)
theorem lf_X11_rivet_9 (a : Nat → Nat) (ap : Int32) (sn : Nat) (sk : Nat) (scu : Int32) (sch : Int32) (g0 : Nat → Int32) (g1 : Nat → Int32) (g2 : Nat → Int32) (g3 : Nat → Int32) (n1 : Int32) (n2 : Int32) (n3 : Int32) (n4 : Int32) (hsn : sn ≤ 24) (hsk : sk ≤ 8) (ff3 : Nat) (ss3 : Nat) (dd3 : Nat) (hff3 : ff3 < sn) (hss3 : ss3 < sk) (hdd3 : dd3 < 2) (c_5 : ¬ n4 = 0) (c_8 : n4 = 1) : vp_in (nI ((ff3 * 8 + ss3) * 2 + dd3)) 384 := by
  first | exact vp_in_nI (by omega) (by decide) | (unfold vp_in; decide)
theorem lf_X11_rivet_12 (a : Nat → Nat) (ap : Int32) (sn : Nat) (sk : Nat) (scu : Int32) (sch : Int32) (g0 : Nat → Int32) (g1 : Nat → Int32) (g2 : Nat → Int32) (g3 : Nat → Int32) (n1 : Int32) (n2 : Int32) (n3 : Int32) (n4 : Int32) (hsn : sn ≤ 24) (hsk : sk ≤ 8) (ff3 : Nat) (ss3 : Nat) (dd3 : Nat) (hff3 : ff3 < sn) (hss3 : ss3 < sk) (hdd3 : dd3 < 2) (c_5 : ¬ n4 = 0) (c_8 : ¬ n4 = 1) (c_11 : n4 = 2) : vp_in (nI ((ff3 * 8 + ss3) * 2 + dd3)) 384 := by
  first | exact vp_in_nI (by omega) (by decide) | (unfold vp_in; decide)
theorem lf_X11_rivet_16 (a : Nat → Nat) (ap : Int32) (sn : Nat) (sk : Nat) (scu : Int32) (sch : Int32) (g0 : Nat → Int32) (g1 : Nat → Int32) (g2 : Nat → Int32) (g3 : Nat → Int32) (n1 : Int32) (n2 : Int32) (n3 : Int32) (n4 : Int32) (hsn : sn ≤ 24) (hsk : sk ≤ 8) (ff3 : Nat) (ss3 : Nat) (dd3 : Nat) (hff3 : ff3 < sn) (hss3 : ss3 < sk) (hdd3 : dd3 < 2) (c_5 : ¬ n4 = 0) (c_8 : ¬ n4 = 1) (c_11 : ¬ n4 = 2) (c_15 : n4 = 3) : vp_in (nI ((ff3 * 8 + ss3) * 2 + dd3)) 384 := by
  first | exact vp_in_nI (by omega) (by decide) | (unfold vp_in; decide)
theorem lf_X11_rivet_19 (a : Nat → Nat) (ap : Int32) (sn : Nat) (sk : Nat) (scu : Int32) (sch : Int32) (g0 : Nat → Int32) (g1 : Nat → Int32) (g2 : Nat → Int32) (g3 : Nat → Int32) (n1 : Int32) (n2 : Int32) (n3 : Int32) (n4 : Int32) (hsn : sn ≤ 24) (hsk : sk ≤ 8) (ff3 : Nat) (ss3 : Nat) (dd3 : Nat) (hff3 : ff3 < sn) (hss3 : ss3 < sk) (hdd3 : dd3 < 2) (c_5 : ¬ n4 = 0) (c_8 : ¬ n4 = 1) (c_11 : ¬ n4 = 2) (c_15 : ¬ n4 = 3) (c_18 : n4 = 4) : ((ff3 * 8 + ss3) * 2 + dd3) < 384 := by
  first | assumption | omega | decide
theorem lf_X11_rivet_22 (a : Nat → Nat) (ap : Int32) (sn : Nat) (sk : Nat) (scu : Int32) (sch : Int32) (g0 : Nat → Int32) (g1 : Nat → Int32) (g2 : Nat → Int32) (g3 : Nat → Int32) (n1 : Int32) (n2 : Int32) (n3 : Int32) (n4 : Int32) (hsn : sn ≤ 24) (hsk : sk ≤ 8) (ff3 : Nat) (ss3 : Nat) (dd3 : Nat) (hff3 : ff3 < sn) (hss3 : ss3 < sk) (hdd3 : dd3 < 2) (c_5 : ¬ n4 = 0) (c_8 : ¬ n4 = 1) (c_11 : ¬ n4 = 2) (c_15 : ¬ n4 = 3) (c_18 : ¬ n4 = 4) : n4.toInt < 0 ∨ 4 < n4.toInt := by
  have e : ∀ k : Int32, ¬ n4 = k → n4.toInt ≠ k.toInt := fun k h q => h (Int32.toInt_inj.mp q)
  have e0 := e 0 ‹¬ n4 = 0›
  have z0 : (0 : Int32).toInt = 0 := by decide
  have e1 := e 1 ‹¬ n4 = 1›
  have z1 : (1 : Int32).toInt = 1 := by decide
  have e2 := e 2 ‹¬ n4 = 2›
  have z2 : (2 : Int32).toInt = 2 := by decide
  have e3 := e 3 ‹¬ n4 = 3›
  have z3 : (3 : Int32).toInt = 3 := by decide
  have e4 := e 4 ‹¬ n4 = 4›
  have z4 : (4 : Int32).toInt = 4 := by decide
  omega
set_option maxHeartbeats 4000000 in
set_option maxRecDepth 100000 in
theorem c_X11_rivet (l : Launch) (D : va_G) (cI cB cZ cJ : ClassId) (tx : List (ClassId × FieldType)) (a : Nat → Nat) (ap : Int32) (sn : Nat) (sk : Nat) (scu : Int32) (sch : Int32) (g0 : Nat → Int32) (g1 : Nat → Int32) (g2 : Nat → Int32) (g3 : Nat → Int32) (n1 : Int32) (n2 : Int32) (n3 : Int32) (n4 : Int32) (hsn : sn ≤ 24) (hsk : sk ≤ 8) : RdI l D cI cB cZ cJ tx yX11_rivet cX11_rivet 6 (some .int) 2 [.ref (a 0), .int n1, .int n2, .int n3, .int n4] [(a 0, .inr (11, [.ref (a 1), .ref (a 2), .ref (a 3), .ref (a 4), .ref (a 5), .ref (a 6), .ref (a 7), .ref (a 8), .ref (a 9), .ref (a 10), .ref (a 11), .ref (a 12), .int ap])), (a 5, .inr (4, [.ref (a 18), .ref (a 19), .ref (a 20), .ref (a 21), .ref (a 22), .ref (a 23), .ref (a 24), .int (nI sn), .int (nI sk), .int scu, .int sch])), (a 18, .inl (cI, 384, .inl g0)), (a 19, .inl (cI, 384, .inl g1)), (a 20, .inl (cI, 384, .inl g2)), (a 21, .inl (cZ, 384, .inl g3))] (fun r => True) := by
  refine rdi_of2 (by decide) (Nat.le_of_ble_eq_true rfl) ?_
  intro p e s m below meth c A ls H locs hC hK hP hD hA hS hl
  obtain ⟨hx, hb, hr, hml, hown, hts, hlocks, hin⟩ := hC
  have hown : s.vm.findClass RX11 = some m.cls := hown
  have hl : lv_has ls 6 [(0, .ref (a 0)), (1, .int n1), (2, .int n2), (3, .int n3), (4, .int n4)] := hl
  refine lv_aload_n hx hb dX11_rivet_0 rfl (lv_at hl 0 rfl) ?_
  refine va_get (D := D) (ci := 11) (v := .ref (a 5)) (C := RX11) (T := TX11) (N := 13) hx hb hts inT_X11 hown hK.1 hP 0 rfl rfl 4 (by decide) (hts _ k_487) (fun _ h9 => h9) rfl dX11_rivet_1 ?_
  refine lv_iload_n hx hb dX11_rivet_4 rfl (lv_at hl 1 rfl) ?_
  refine lv_iload_n hx hb dX11_rivet_5 rfl (lv_at hl 2 rfl) ?_
  refine lv_iload_n hx hb dX11_rivet_6 rfl (lv_at hl 3 rfl) ?_
  refine eRi (va_runV (As := [.int n1, .int n2, .int n3]) (rest := []) ⟨hx, hb, hml, hown, hts⟩ (c_X4_rivetAt_a l D cI cB cZ cJ tx a sn sk scu sch n1 n2 n3 (lf_X11_rivet_1 a ap sn sk scu sch g0 g1 g2 g3 n1 n2 n3 n4 hsn hsk) (lf_X11_rivet_2 a ap sn sk scu sch g0 g1 g2 g3 n1 n2 n3 n4 hsn hsk) H.size) (zV hts k_850 v_X4_rivetAt ⟨Nat.le_of_ble_eq_true rfl, Nat.le_of_ble_eq_true rfl⟩) (pV (px1 hK hP 1 rfl) hK hP 1 rfl rfl) rfl rfl hl.1 rfl (lv_room (Nat.le_of_ble_eq_true rfl)) dX11_rivet_7 ⟨Nat.le_of_ble_eq_true rfl, Nat.le_of_ble_eq_true rfl⟩) hP hS hA (fun r_3 H locs wr_3 hP hS => ?_)
  rcases wr_3 with rfl | ⟨ff3, ss3, dd3, hff3, hss3, hdd3, rfl, rfl, rfl, rfl⟩
  · refine lv_istore (lv' := [(5, .int (-1)), (0, .ref (a 0)), (1, .int n1), (2, .int n2), (3, .int n3), (4, .int n4)]) hx hb dX11_rivet_10 hl (by decide) rfl (fun ls hl => ?_)
    refine lv_iload hx hb dX11_rivet_12 (lv_at hl 0 rfl) ?_
    refine lv_if_ge (tgt := 21) hx hb dX11_rivet_14 (by decide) (fun c => absurd c (by decide)) (fun _ => ?_)
    refine lv_sipush (v := (-10000)) hx hb dX11_rivet_17 (by decide) ?_
    exact W.iret (v := (-10000)) hx hb hr (fun tt9 ht hW => ⟨⟨((-10000) : Int32), (), rfl, trivial, trivial⟩, hS.F ht⟩) hS.2.2 dX11_rivet_20 hlocks
  · refine lv_istore (lv' := [(5, .int (nI ((ff3 * 8 + ss3) * 2 + dd3))), (0, .ref (a 0)), (1, .int (nI ff3)), (2, .int (nI ss3)), (3, .int (nI dd3)), (4, .int n4)]) hx hb dX11_rivet_10 hl (by decide) rfl (fun ls hl => ?_)
    refine lv_iload hx hb dX11_rivet_12 (lv_at hl 0 rfl) ?_
    refine lv_if_ge (tgt := 21) hx hb dX11_rivet_14 (by decide) (fun _ => ?_) (fun c => absurd (lf_X11_rivet_4 a ap sn sk scu sch g0 g1 g2 g3 (nI ff3) (nI ss3) (nI dd3) n4 hsn hsk ff3 ss3 dd3 hff3 hss3 hdd3) c)
    refine lv_iload hx hb dX11_rivet_21 (lv_at hl 5 rfl) ?_
    by_cases c_5 : n4 = 0
    · subst c_5
      refine lv_tableIn (off := 33) (tgt := 56) hx hb dX11_rivet_23 (by decide) (by decide) rfl (by decide) ?_
      refine lv_aload_n hx hb dX11_rivet_56 rfl (lv_at hl 1 rfl) ?_
      refine va_get (D := D) (ci := 11) (v := .ref (a 5)) (C := RX11) (T := TX11) (N := 13) hx hb hts inT_X11 hown hK.1 hP 0 rfl rfl 4 (by decide) (hts _ k_487) (fun _ h9 => h9) rfl dX11_rivet_57 ?_
      refine va_getN (D := D) (ci := 4) (v := .ref (a 18)) (C := RX4) (T := TX4) (N := 11) hx hb hts inT_X4 hown hK.1 hP 1 rfl rfl 0 (by decide) (va_Nw.use rfl (hK.2.2.1 _ n_234)) (fun _ h9 => h9) rfl dX11_rivet_60 ?_
      refine lv_iload hx hb dX11_rivet_63 (lv_at hl 0 rfl) ?_
      refine ld_i hx hb hK hP 2 rfl (lf_X11_rivet_6 a ap sn sk scu sch g0 g1 g2 g3 (nI ff3) (nI ss3) (nI dd3) 0 hsn hsk ff3 ss3 dd3 hff3 hss3 hdd3 rfl) dX11_rivet_65 (fun x_7 => ?_)
      exact W.iret (v := x_7) hx hb hr (fun tt9 ht hW => ⟨⟨(x_7 : Int32), (), rfl, trivial, trivial⟩, hS.F ht⟩) hS.2.2 dX11_rivet_66 hlocks
    by_cases c_8 : n4 = 1
    · subst c_8
      refine lv_tableIn (off := 44) (tgt := 67) hx hb dX11_rivet_23 (by decide) (by decide) rfl (by decide) ?_
      refine lv_aload_n hx hb dX11_rivet_67 rfl (lv_at hl 1 rfl) ?_
      refine va_get (D := D) (ci := 11) (v := .ref (a 5)) (C := RX11) (T := TX11) (N := 13) hx hb hts inT_X11 hown hK.1 hP 0 rfl rfl 4 (by decide) (hts _ k_487) (fun _ h9 => h9) rfl dX11_rivet_68 ?_
      refine va_getN (D := D) (ci := 4) (v := .ref (a 19)) (C := RX4) (T := TX4) (N := 11) hx hb hts inT_X4 hown hK.1 hP 1 rfl rfl 1 (by decide) (va_Nw.use rfl (hK.2.2.1 _ n_237)) (fun _ h9 => h9) rfl dX11_rivet_71 ?_
      refine lv_iload hx hb dX11_rivet_74 (lv_at hl 0 rfl) ?_
      refine ld_i hx hb hK hP 3 rfl (lf_X11_rivet_9 a ap sn sk scu sch g0 g1 g2 g3 (nI ff3) (nI ss3) (nI dd3) 1 hsn hsk ff3 ss3 dd3 hff3 hss3 hdd3 c_5 rfl) dX11_rivet_76 (fun x_10 => ?_)
      exact W.iret (v := x_10) hx hb hr (fun tt9 ht hW => ⟨⟨(x_10 : Int32), (), rfl, trivial, trivial⟩, hS.F ht⟩) hS.2.2 dX11_rivet_77 hlocks
    by_cases c_11 : n4 = 2
    · subst c_11
      refine lv_tableIn (off := 55) (tgt := 78) hx hb dX11_rivet_23 (by decide) (by decide) rfl (by decide) ?_
      refine lv_aload_n hx hb dX11_rivet_78 rfl (lv_at hl 1 rfl) ?_
      refine va_get (D := D) (ci := 11) (v := .ref (a 5)) (C := RX11) (T := TX11) (N := 13) hx hb hts inT_X11 hown hK.1 hP 0 rfl rfl 4 (by decide) (hts _ k_487) (fun _ h9 => h9) rfl dX11_rivet_79 ?_
      refine va_getN (D := D) (ci := 4) (v := .ref (a 21)) (C := RX4) (T := TX4) (N := 11) hx hb hts inT_X4 hown hK.1 hP 1 rfl rfl 3 (by decide) (va_Nw.use rfl (hK.2.2.1 _ n_242)) (fun _ h9 => h9) rfl dX11_rivet_82 ?_
      refine lv_iload hx hb dX11_rivet_85 (lv_at hl 0 rfl) ?_
      refine ld_z hx hb hK hP 5 rfl (lf_X11_rivet_12 a ap sn sk scu sch g0 g1 g2 g3 (nI ff3) (nI ss3) (nI dd3) 2 hsn hsk ff3 ss3 dd3 hff3 hss3 hdd3 c_5 c_8 rfl) dX11_rivet_87 (fun x_13 => ?_)
      refine lv_if_eq (tgt := 95) hx hb dX11_rivet_88 (by decide) (fun c_14 => ?_) (fun c_14 => ?_)
      · refine lv_iconst (v := 0) hx hb dX11_rivet_95 (by decide) ?_
        exact W.iret (v := 0) hx hb hr (fun tt9 ht hW => ⟨⟨(0 : Int32), (), rfl, trivial, trivial⟩, hS.F ht⟩) hS.2.2 dX11_rivet_96 hlocks
      · refine lv_iconst (v := 1) hx hb dX11_rivet_91 (by decide) ?_
        refine lv_goto (tgt := 96) hx hb dX11_rivet_92 (by decide) ?_
        exact W.iret (v := 1) hx hb hr (fun tt9 ht hW => ⟨⟨(1 : Int32), (), rfl, trivial, trivial⟩, hS.F ht⟩) hS.2.2 dX11_rivet_96 hlocks
    by_cases c_15 : n4 = 3
    · subst c_15
      refine lv_tableIn (off := 74) (tgt := 97) hx hb dX11_rivet_23 (by decide) (by decide) rfl (by decide) ?_
      refine lv_aload_n hx hb dX11_rivet_97 rfl (lv_at hl 1 rfl) ?_
      refine va_get (D := D) (ci := 11) (v := .ref (a 5)) (C := RX11) (T := TX11) (N := 13) hx hb hts inT_X11 hown hK.1 hP 0 rfl rfl 4 (by decide) (hts _ k_487) (fun _ h9 => h9) rfl dX11_rivet_98 ?_
      refine va_getN (D := D) (ci := 4) (v := .ref (a 20)) (C := RX4) (T := TX4) (N := 11) hx hb hts inT_X4 hown hK.1 hP 1 rfl rfl 2 (by decide) (va_Nw.use rfl (hK.2.2.1 _ n_240)) (fun _ h9 => h9) rfl dX11_rivet_101 ?_
      refine lv_iload hx hb dX11_rivet_104 (lv_at hl 0 rfl) ?_
      refine ld_i hx hb hK hP 4 rfl (lf_X11_rivet_16 a ap sn sk scu sch g0 g1 g2 g3 (nI ff3) (nI ss3) (nI dd3) 3 hsn hsk ff3 ss3 dd3 hff3 hss3 hdd3 c_5 c_8 c_11 rfl) dX11_rivet_106 (fun x_17 => ?_)
      exact W.iret (v := x_17) hx hb hr (fun tt9 ht hW => ⟨⟨(x_17 : Int32), (), rfl, trivial, trivial⟩, hS.F ht⟩) hS.2.2 dX11_rivet_107 hlocks
    by_cases c_18 : n4 = 4
    · subst c_18
      refine lv_tableIn (off := 85) (tgt := 108) hx hb dX11_rivet_23 (by decide) (by decide) rfl (by decide) ?_
      refine lv_aload_n hx hb dX11_rivet_108 rfl (lv_at hl 1 rfl) ?_
      refine va_get (D := D) (ci := 11) (v := .ref (a 5)) (C := RX11) (T := TX11) (N := 13) hx hb hts inT_X11 hown hK.1 hP 0 rfl rfl 4 (by decide) (hts _ k_487) (fun _ h9 => h9) rfl dX11_rivet_109 ?_
      refine lv_iload hx hb dX11_rivet_112 (lv_at hl 0 rfl) ?_
      refine lv_iload_n hx hb dX11_rivet_114 rfl (lv_at hl 2 rfl) ?_
      refine eRi (va_runV (As := [.int (nI ((ff3 * 8 + ss3) * 2 + dd3)), .int (nI ff3)]) (rest := []) ⟨hx, hb, hml, hown, hts⟩ (c_X4_isSeen l D cI cB cZ cJ tx a sn sk scu sch g3 ((ff3 * 8 + ss3) * 2 + dd3) (nI ff3) (lf_X11_rivet_19 a ap sn sk scu sch g0 g1 g2 g3 (nI ff3) (nI ss3) (nI dd3) 4 hsn hsk ff3 ss3 dd3 hff3 hss3 hdd3 c_5 c_8 c_11 c_15 rfl) H.size) (zV hts k_867 v_X4_isSeen ⟨Nat.le_of_ble_eq_true rfl, Nat.le_of_ble_eq_true rfl⟩) (pV (pxS hK hP hD [1, 5] (by decide) rfl) hK hP 1 rfl rfl) rfl rfl hl.1 rfl (lv_room (Nat.le_of_ble_eq_true rfl)) dX11_rivet_115 ⟨Nat.le_of_ble_eq_true rfl, Nat.le_of_ble_eq_true rfl⟩) hP hS hA (fun r_20 H locs wr_20 hP hS => ?_)
      refine lv_if_eq (tgt := 125) hx hb dX11_rivet_118 (by decide) (fun c_21 => ?_) (fun c_21 => ?_)
      · refine lv_iconst (v := 0) hx hb dX11_rivet_125 (by decide) ?_
        exact W.iret (v := 0) hx hb hr (fun tt9 ht hW => ⟨⟨(0 : Int32), (), rfl, trivial, trivial⟩, hS.F ht⟩) hS.2.2 dX11_rivet_126 hlocks
      · refine lv_iconst (v := 1) hx hb dX11_rivet_121 (by decide) ?_
        refine lv_goto (tgt := 126) hx hb dX11_rivet_122 (by decide) ?_
        exact W.iret (v := 1) hx hb hr (fun tt9 ht hW => ⟨⟨(1 : Int32), (), rfl, trivial, trivial⟩, hS.F ht⟩) hS.2.2 dX11_rivet_126 hlocks
    refine lv_tableOut (tgt := 127) hx hb dX11_rivet_23 (lf_X11_rivet_22 a ap sn sk scu sch g0 g1 g2 g3 (nI ff3) (nI ss3) (nI dd3) n4 hsn hsk ff3 ss3 dd3 hff3 hss3 hdd3 c_5 c_8 c_11 c_15 c_18) (by decide) ?_
    refine lv_sipush (v := (-10000)) hx hb dX11_rivet_127 (by decide) ?_
    exact W.iret (v := (-10000)) hx hb hr (fun tt9 ht hW => ⟨⟨((-10000) : Int32), (), rfl, trivial, trivial⟩, hS.F ht⟩) hS.2.2 dX11_rivet_130 hlocks

theorem lf_X11_drawing_1 (a : Nat → Nat) (ap : Int32) (sn : Nat) (sk : Nat) (scu : Int32) (sch : Int32) (dm : Nat) (d2 : Nat → Int32) (n1 : Int32) (hsn : sn ≤ 24) (hsk : sk ≤ 8) (hdm : dm ≤ 4) : sn ≤ 24 := by
  first | assumption | omega | decide
theorem lf_X11_drawing_2 (a : Nat → Nat) (ap : Int32) (sn : Nat) (sk : Nat) (scu : Int32) (sch : Int32) (dm : Nat) (d2 : Nat → Int32) (n1 : Int32) (hsn : sn ≤ 24) (hsk : sk ≤ 8) (hdm : dm ≤ 4) : sk ≤ 8 := by
  first | assumption | omega | decide
theorem lf_X11_drawing_4 (a : Nat → Nat) (ap : Int32) (sn : Nat) (sk : Nat) (scu : Int32) (sch : Int32) (dm : Nat) (d2 : Nat → Int32) (n1 : Int32) (hsn : sn ≤ 24) (hsk : sk ≤ 8) (hdm : dm ≤ 4) : ((dm : Nat) ≤ 4) := by
  first | omega | assumption | trivial
theorem lf_X11_drawing_7 (a : Nat → Nat) (ap : Int32) (sn : Nat) (sk : Nat) (scu : Int32) (sch : Int32) (dm : Nat) (d2 : Nat → Int32) (n1 : Int32) (hsn : sn ≤ 24) (hsk : sk ≤ 8) (hdm : dm ≤ 4) (hst3 : 0 < sn) (c_6 : (0 : Int32) ≤ n1 ∧ n1 ≤ 2100) (tn1 : Nat) (tn1a : 0 ≤ tn1) (tn1b : tn1 ≤ 2100) (tn1e : n1 = nI tn1) : dm ≤ 4 := by
  first | assumption | omega | decide
theorem lf_X11_drawing_10 (a : Nat → Nat) (ap : Int32) (sn : Nat) (sk : Nat) (scu : Int32) (sch : Int32) (dm : Nat) (d2 : Nat → Int32) (n1 : Int32) (hsn : sn ≤ 24) (hsk : sk ≤ 8) (hdm : dm ≤ 4) (hst3 : 0 < sn) (c_6 : (0 : Int32) ≤ n1 ∧ n1 ≤ 2100) (tn1 : Nat) (tn1a : 0 ≤ tn1) (tn1b : tn1 ≤ 2100) (tn1e : n1 = nI tn1) (dm_9 : Nat) (d2_9 : Nat → Int32) (hz_9_0 : dm_9 ≤ 4) (r_8 : Int32) : ((dm_9 : Nat) ≤ 4) := by
  first | omega | assumption | trivial
theorem lf_X11_drawing_11 (a : Nat → Nat) (ap : Int32) (sn : Nat) (sk : Nat) (scu : Int32) (sch : Int32) (dm : Nat) (d2 : Nat → Int32) (n1 : Int32) (hsn : sn ≤ 24) (hsk : sk ≤ 8) (hdm : dm ≤ 4) (hst3 : 0 < sn) (c_6 : ¬ ((0 : Int32) ≤ n1 ∧ n1 ≤ 2100)) : ((dm : Nat) ≤ 4) := by
  first | omega | assumption | trivial
set_option maxHeartbeats 4000000 in
set_option maxRecDepth 100000 in
theorem c_X11_drawing (l : Launch) (D : va_G) (cI cB cZ cJ : ClassId) (tx : List (ClassId × FieldType)) (a : Nat → Nat) (ap : Int32) (sn : Nat) (sk : Nat) (scu : Int32) (sch : Int32) (dm : Nat) (d2 : Nat → Int32) (n1 : Int32) (hsn : sn ≤ 24) (hsk : sk ≤ 8) (hdm : dm ≤ 4) : WrI l D cI cB cZ cJ tx yX11_drawing cX11_drawing 2 (some .int) 2 0 0 [.ref (a 0), .int n1] [(a 0, .inr (11, [.ref (a 1), .ref (a 2), .ref (a 3), .ref (a 4), .ref (a 5), .ref (a 6), .ref (a 7), .ref (a 8), .ref (a 9), .ref (a 10), .ref (a 11), .ref (a 12), .int ap])), (a 5, .inr (4, [.ref (a 18), .ref (a 19), .ref (a 20), .ref (a 21), .ref (a 22), .ref (a 23), .ref (a 24), .int (nI sn), .int (nI sk), .int scu, .int sch])), (a 6, .inr (0, [.ref (a 5), .ref (a 25), .ref (a 26), .ref (a 27), .ref (a 28), .ref (a 29), .int (nI dm)])), (a 27, .inl (cZ, 1536, .inl d2))] (fun (r : Int32) (v : (Nat) × (Nat → Int32)) => (v.1 ≤ 4)) (fun v => [(a 0, .inr (11, [.ref (a 1), .ref (a 2), .ref (a 3), .ref (a 4), .ref (a 5), .ref (a 6), .ref (a 7), .ref (a 8), .ref (a 9), .ref (a 10), .ref (a 11), .ref (a 12), .int ap])), (a 5, .inr (4, [.ref (a 18), .ref (a 19), .ref (a 20), .ref (a 21), .ref (a 22), .ref (a 23), .ref (a 24), .int (nI sn), .int (nI sk), .int scu, .int sch])), (a 6, .inr (0, [.ref (a 5), .ref (a 25), .ref (a 26), .ref (a 27), .ref (a 28), .ref (a 29), .int (nI (v.1))])), (a 27, .inl (cZ, 1536, .inl v.2))]) := by
  refine wri_of2 (by decide) (Nat.le_of_ble_eq_true rfl) ?_
  intro p e s m below meth c A ls H locs hC hK hP hD hA hS hl
  obtain ⟨hx, hb, hr, hml, hown, hts, hlocks, hin⟩ := hC
  have hown : s.vm.findClass RX11 = some m.cls := hown
  have hl : lv_has ls 2 [(0, .ref (a 0)), (1, .int n1)] := hl
  refine lv_aload_n hx hb dX11_drawing_0 rfl (lv_at hl 0 rfl) ?_
  refine va_get (D := D) (ci := 11) (v := .ref (a 5)) (C := RX11) (T := TX11) (N := 13) hx hb hts inT_X11 hown hK.1 hP 0 rfl rfl 4 (by decide) (hts _ k_487) (fun _ h9 => h9) rfl dX11_drawing_1 ?_
  refine eRi (va_runV (As := []) (rest := []) ⟨hx, hb, hml, hown, hts⟩ (c_X4_stands l D cI cB cZ cJ tx a sn sk scu sch (lf_X11_drawing_1 a ap sn sk scu sch dm d2 n1 hsn hsk hdm) (lf_X11_drawing_2 a ap sn sk scu sch dm d2 n1 hsn hsk hdm) H.size) (zV hts k_824 v_X4_stands ⟨Nat.le_of_ble_eq_true rfl, Nat.le_of_ble_eq_true rfl⟩) (pV (px1 hK hP 1 rfl) hK hP 1 rfl rfl) rfl rfl hl.1 rfl (lv_room (Nat.le_of_ble_eq_true rfl)) dX11_drawing_4 ⟨Nat.le_of_ble_eq_true rfl, Nat.le_of_ble_eq_true rfl⟩) hP hS hA (fun r_3 H locs wr_3 hP hS => ?_)
  rcases wr_3 with ⟨rfl, _⟩ | ⟨rfl, hst3⟩
  · refine lv_if_eq (tgt := 21) hx hb dX11_drawing_7 (by decide) (fun _ => ?_) (fun c => absurd c (by decide))
    refine lv_iconst (v := (-1)) hx hb dX11_drawing_21 (by decide) ?_
    exact W.iret (v := (-1)) hx hb hr (fun tt9 ht hW => ⟨⟨((-1) : Int32), ((dm : Nat), (d2 : Nat → Int32)), rfl, (lf_X11_drawing_4 a ap sn sk scu sch dm d2 n1 hsn hsk hdm), ⟨by rw [ht]; exact hP, hD⟩⟩, hS.F ht⟩) hS.2.2 dX11_drawing_22 hlocks
  · refine lv_if_eq (tgt := 21) hx hb dX11_drawing_7 (by decide) (fun c => absurd c (by decide)) (fun _ => ?_)
    refine lv_iload_n hx hb dX11_drawing_10 rfl (lv_at hl 1 rfl) ?_
    refine lv_iconst (v := 0) hx hb dX11_drawing_11 (by decide) ?_
    refine lv_sipush (v := 2100) hx hb dX11_drawing_12 (by decide) ?_
    refine eRi (va_runS (As := [.int n1, .int 0, .int 2100]) (rest := []) ⟨hx, hb, hml, hown, hts⟩ (c_X11_within l D cI cB cZ cJ tx n1 0 2100 H.size) (zS hts k_527 v_X11_within ⟨Nat.le_of_ble_eq_true rfl, Nat.le_of_ble_eq_true rfl⟩) (px0 hK) rfl rfl hl.1 rfl (lv_room (Nat.le_of_ble_eq_true rfl)) dX11_drawing_15 ⟨Nat.le_of_ble_eq_true rfl, Nat.le_of_ble_eq_true rfl⟩) hP hS hA (fun r_5 H locs wr_5 hP hS => ?_)
    subst wr_5
    refine lv_bi_ne (tgt := 23) hx hb dX11_drawing_18 (by decide) (fun c_6 => ?_) (fun c_6 => ?_)
    · obtain ⟨tn1, tn1a, tn1b, tn1e⟩ := of_rng 0 2100 rfl rfl c_6
      subst tn1e
      refine lv_aload_n hx hb dX11_drawing_23 rfl (lv_at hl 0 rfl) ?_
      refine va_get (D := D) (ci := 11) (v := .ref (a 6)) (C := RX11) (T := TX11) (N := 13) hx hb hts inT_X11 hown hK.1 hP 0 rfl rfl 5 (by decide) (hts _ k_488) (fun _ h9 => h9) rfl dX11_drawing_24 ?_
      refine eWi (wr := [(a 0, .inr (11, [.ref (a 1), .ref (a 2), .ref (a 3), .ref (a 4), .ref (a 5), .ref (a 6), .ref (a 7), .ref (a 8), .ref (a 9), .ref (a 10), .ref (a 11), .ref (a 12), .int ap])), (a 5, .inr (4, [.ref (a 18), .ref (a 19), .ref (a 20), .ref (a 21), .ref (a 22), .ref (a 23), .ref (a 24), .int (nI sn), .int (nI sk), .int scu, .int sch]))]) (va_runV (As := []) (rest := []) ⟨hx, hb, hml, hown, hts⟩ (c_X0_begin l D cI cB cZ cJ tx a dm d2 (lf_X11_drawing_7 a ap sn sk scu sch dm d2 (nI tn1) hsn hsk hdm hst3 c_6 tn1 tn1a tn1b rfl) H.size) (zV hts k_891 v_X0_begin ⟨Nat.le_of_ble_eq_true rfl, Nat.le_of_ble_eq_true rfl⟩) (pV (pxS hK hP hD [2, 3] (by decide) rfl) hK hP 2 rfl rfl) rfl rfl hl.1 rfl (lv_room (Nat.le_of_ble_eq_true rfl)) dX11_drawing_27 ⟨Nat.le_of_ble_eq_true rfl, Nat.le_of_ble_eq_true rfl⟩) hP hD hS hA [2, 3] [0, 1] rfl rfl (by decide) (by decide) (fun r_8 u_9 H locs wr_8 hP hD hS => ?_)
      obtain ⟨dm_9, d2_9⟩ := u_9
      have hz_9_0 : dm_9 ≤ 4 := wr_8
      have hP : va_P D vwCl [(a 0, .inr (11, [.ref (a 1), .ref (a 2), .ref (a 3), .ref (a 4), .ref (a 5), .ref (a 6), .ref (a 7), .ref (a 8), .ref (a 9), .ref (a 10), .ref (a 11), .ref (a 12), .int ap])), (a 5, .inr (4, [.ref (a 18), .ref (a 19), .ref (a 20), .ref (a 21), .ref (a 22), .ref (a 23), .ref (a 24), .int (nI sn), .int (nI sk), .int scu, .int sch])), (a 6, .inr (0, [.ref (a 5), .ref (a 25), .ref (a 26), .ref (a 27), .ref (a 28), .ref (a 29), .int (nI dm_9)])), (a 27, .inl (cZ, 1536, .inl d2_9))] H := hP
      have hD : va_D A [(a 0, .inr (11, [.ref (a 1), .ref (a 2), .ref (a 3), .ref (a 4), .ref (a 5), .ref (a 6), .ref (a 7), .ref (a 8), .ref (a 9), .ref (a 10), .ref (a 11), .ref (a 12), .int ap])), (a 5, .inr (4, [.ref (a 18), .ref (a 19), .ref (a 20), .ref (a 21), .ref (a 22), .ref (a 23), .ref (a 24), .int (nI sn), .int (nI sk), .int scu, .int sch])), (a 6, .inr (0, [.ref (a 5), .ref (a 25), .ref (a 26), .ref (a 27), .ref (a 28), .ref (a 29), .int (nI dm_9)])), (a 27, .inl (cZ, 1536, .inl d2_9))] := hD
      exact W.iret (v := r_8) hx hb hr (fun tt9 ht hW => ⟨⟨(r_8 : Int32), ((dm_9 : Nat), (d2_9 : Nat → Int32)), rfl, (lf_X11_drawing_10 a ap sn sk scu sch dm d2 (nI tn1) hsn hsk hdm hst3 c_6 tn1 tn1a tn1b rfl dm_9 d2_9 hz_9_0 r_8), ⟨by rw [ht]; exact hP, hD⟩⟩, hS.F ht⟩) hS.2.2 dX11_drawing_30 hlocks
    · refine lv_iconst (v := (-1)) hx hb dX11_drawing_21 (by decide) ?_
      exact W.iret (v := (-1)) hx hb hr (fun tt9 ht hW => ⟨⟨((-1) : Int32), ((dm : Nat), (d2 : Nat → Int32)), rfl, (lf_X11_drawing_11 a ap sn sk scu sch dm d2 n1 hsn hsk hdm hst3 c_6), ⟨by rw [ht]; exact hP, hD⟩⟩, hS.F ht⟩) hS.2.2 dX11_drawing_22 hlocks

theorem lf_X11_mark_1 (a : Nat → Nat) (ap : Int32) (sn : Nat) (sk : Nat) (scu : Int32) (sch : Int32) (dm : Nat) (d0 : Nat → Int32) (d1 : Nat → Int32) (d2 : Nat → Int32) (n1 : Int32) (n2 : Int32) (n3 : Int32) (n4 : Int32) (n5 : Int32) (n6 : Int32) (hsn : sn ≤ 24) (hsk : sk ≤ 8) (hdm : dm ≤ 4) : sn ≤ 24 := by
  first | assumption | omega | decide
theorem lf_X11_mark_2 (a : Nat → Nat) (ap : Int32) (sn : Nat) (sk : Nat) (scu : Int32) (sch : Int32) (dm : Nat) (d0 : Nat → Int32) (d1 : Nat → Int32) (d2 : Nat → Int32) (n1 : Int32) (n2 : Int32) (n3 : Int32) (n4 : Int32) (n5 : Int32) (n6 : Int32) (hsn : sn ≤ 24) (hsk : sk ≤ 8) (hdm : dm ≤ 4) : sk ≤ 8 := by
  first | assumption | omega | decide
theorem lf_X11_mark_4 (a : Nat → Nat) (ap : Int32) (sn : Nat) (sk : Nat) (scu : Int32) (sch : Int32) (dm : Nat) (d0 : Nat → Int32) (d1 : Nat → Int32) (d2 : Nat → Int32) (n1 : Int32) (n2 : Int32) (n3 : Int32) (n4 : Int32) (n5 : Int32) (n6 : Int32) (hsn : sn ≤ 24) (hsk : sk ≤ 8) (hdm : dm ≤ 4) (ff3 : Nat) (ss3 : Nat) (dd3 : Nat) (hff3 : ff3 < sn) (hss3 : ss3 < sk) (hdd3 : dd3 < 2) : ¬ nI ((ff3 * 8 + ss3) * 2 + dd3) < 0 := by
  first | exact nI_pos (by omega) | exact nI_pos' (by omega)
theorem lf_X11_mark_7 (a : Nat → Nat) (ap : Int32) (sn : Nat) (sk : Nat) (scu : Int32) (sch : Int32) (dm : Nat) (d0 : Nat → Int32) (d1 : Nat → Int32) (d2 : Nat → Int32) (n1 : Int32) (n2 : Int32) (n3 : Int32) (n4 : Int32) (n5 : Int32) (n6 : Int32) (hsn : sn ≤ 24) (hsk : sk ≤ 8) (hdm : dm ≤ 4) (ff3 : Nat) (ss3 : Nat) (dd3 : Nat) (hff3 : ff3 < sn) (hss3 : ss3 < sk) (hdd3 : dd3 < 2) (c_6 : (0 : Int32) ≤ n1 ∧ n1 ≤ nI dm - 1) : dm < 2 ^ 31 := by
  omega
theorem lf_X11_mark_12 (a : Nat → Nat) (ap : Int32) (sn : Nat) (sk : Nat) (scu : Int32) (sch : Int32) (dm : Nat) (d0 : Nat → Int32) (d1 : Nat → Int32) (d2 : Nat → Int32) (n1 : Int32) (n2 : Int32) (n3 : Int32) (n4 : Int32) (n5 : Int32) (n6 : Int32) (hsn : sn ≤ 24) (hsk : sk ≤ 8) (hdm : dm ≤ 4) (ff3 : Nat) (ss3 : Nat) (dd3 : Nat) (hff3 : ff3 < sn) (hss3 : ss3 < sk) (hdd3 : dd3 < 2) (c_6 : (0 : Int32) ≤ n1 ∧ n1 ≤ nI dm - 1) (tn1 : Nat) (tn1a : tn1 < dm) (tn1e : n1 = nI tn1) (c_9 : ((-6000) : Int32) ≤ n5 ∧ n5 ≤ 6000) (c_11 : ((-6000) : Int32) ≤ n6 ∧ n6 ≤ 6000) : tn1 < 4 := by
  first | assumption | omega | decide
theorem lf_X11_mark_13 (a : Nat → Nat) (ap : Int32) (sn : Nat) (sk : Nat) (scu : Int32) (sch : Int32) (dm : Nat) (d0 : Nat → Int32) (d1 : Nat → Int32) (d2 : Nat → Int32) (n1 : Int32) (n2 : Int32) (n3 : Int32) (n4 : Int32) (n5 : Int32) (n6 : Int32) (hsn : sn ≤ 24) (hsk : sk ≤ 8) (hdm : dm ≤ 4) (ff3 : Nat) (ss3 : Nat) (dd3 : Nat) (hff3 : ff3 < sn) (hss3 : ss3 < sk) (hdd3 : dd3 < 2) (c_6 : (0 : Int32) ≤ n1 ∧ n1 ≤ nI dm - 1) (tn1 : Nat) (tn1a : tn1 < dm) (tn1e : n1 = nI tn1) (c_9 : ((-6000) : Int32) ≤ n5 ∧ n5 ≤ 6000) (c_11 : ((-6000) : Int32) ≤ n6 ∧ n6 ≤ 6000) : ((ff3 * 8 + ss3) * 2 + dd3) < 384 := by
  first | assumption | omega | decide
set_option maxHeartbeats 4000000 in
set_option maxRecDepth 100000 in
theorem c_X11_mark (l : Launch) (D : va_G) (cI cB cZ cJ : ClassId) (tx : List (ClassId × FieldType)) (a : Nat → Nat) (ap : Int32) (sn : Nat) (sk : Nat) (scu : Int32) (sch : Int32) (dm : Nat) (d0 : Nat → Int32) (d1 : Nat → Int32) (d2 : Nat → Int32) (n1 : Int32) (n2 : Int32) (n3 : Int32) (n4 : Int32) (n5 : Int32) (n6 : Int32) (hsn : sn ≤ 24) (hsk : sk ≤ 8) (hdm : dm ≤ 4) : WrI l D cI cB cZ cJ tx yX11_mark cX11_mark 8 (some .boolean) 2 0 0 [.ref (a 0), .int n1, .int n2, .int n3, .int n4, .int n5, .int n6] [(a 0, .inr (11, [.ref (a 1), .ref (a 2), .ref (a 3), .ref (a 4), .ref (a 5), .ref (a 6), .ref (a 7), .ref (a 8), .ref (a 9), .ref (a 10), .ref (a 11), .ref (a 12), .int ap])), (a 5, .inr (4, [.ref (a 18), .ref (a 19), .ref (a 20), .ref (a 21), .ref (a 22), .ref (a 23), .ref (a 24), .int (nI sn), .int (nI sk), .int scu, .int sch])), (a 6, .inr (0, [.ref (a 5), .ref (a 25), .ref (a 26), .ref (a 27), .ref (a 28), .ref (a 29), .int (nI dm)])), (a 25, .inl (cI, 1536, .inl d0)), (a 26, .inl (cI, 1536, .inl d1)), (a 27, .inl (cZ, 1536, .inl d2))] (fun (r : Int32) (v : (Nat → Int32) × (Nat → Int32) × (Nat → Int32)) => True) (fun v => [(a 0, .inr (11, [.ref (a 1), .ref (a 2), .ref (a 3), .ref (a 4), .ref (a 5), .ref (a 6), .ref (a 7), .ref (a 8), .ref (a 9), .ref (a 10), .ref (a 11), .ref (a 12), .int ap])), (a 5, .inr (4, [.ref (a 18), .ref (a 19), .ref (a 20), .ref (a 21), .ref (a 22), .ref (a 23), .ref (a 24), .int (nI sn), .int (nI sk), .int scu, .int sch])), (a 6, .inr (0, [.ref (a 5), .ref (a 25), .ref (a 26), .ref (a 27), .ref (a 28), .ref (a 29), .int (nI dm)])), (a 25, .inl (cI, 1536, .inl v.1)), (a 26, .inl (cI, 1536, .inl v.2.1)), (a 27, .inl (cZ, 1536, .inl v.2.2))]) := by
  refine wri_of2 (by decide) (Nat.le_of_ble_eq_true rfl) ?_
  intro p e s m below meth c A ls H locs hC hK hP hD hA hS hl
  obtain ⟨hx, hb, hr, hml, hown, hts, hlocks, hin⟩ := hC
  have hown : s.vm.findClass RX11 = some m.cls := hown
  have hl : lv_has ls 8 [(0, .ref (a 0)), (1, .int n1), (2, .int n2), (3, .int n3), (4, .int n4), (5, .int n5), (6, .int n6)] := hl
  refine lv_aload_n hx hb dX11_mark_0 rfl (lv_at hl 0 rfl) ?_
  refine va_get (D := D) (ci := 11) (v := .ref (a 5)) (C := RX11) (T := TX11) (N := 13) hx hb hts inT_X11 hown hK.1 hP 0 rfl rfl 4 (by decide) (hts _ k_487) (fun _ h9 => h9) rfl dX11_mark_1 ?_
  refine lv_iload_n hx hb dX11_mark_4 rfl (lv_at hl 2 rfl) ?_
  refine lv_iload_n hx hb dX11_mark_5 rfl (lv_at hl 3 rfl) ?_
  refine lv_iload hx hb dX11_mark_6 (lv_at hl 4 rfl) ?_
  refine eRi (va_runV (As := [.int n2, .int n3, .int n4]) (rest := []) ⟨hx, hb, hml, hown, hts⟩ (c_X4_rivetAt_a l D cI cB cZ cJ tx a sn sk scu sch n2 n3 n4 (lf_X11_mark_1 a ap sn sk scu sch dm d0 d1 d2 n1 n2 n3 n4 n5 n6 hsn hsk hdm) (lf_X11_mark_2 a ap sn sk scu sch dm d0 d1 d2 n1 n2 n3 n4 n5 n6 hsn hsk hdm) H.size) (zV hts k_850 v_X4_rivetAt ⟨Nat.le_of_ble_eq_true rfl, Nat.le_of_ble_eq_true rfl⟩) (pV (px1 hK hP 1 rfl) hK hP 1 rfl rfl) rfl rfl hl.1 rfl (lv_room (Nat.le_of_ble_eq_true rfl)) dX11_mark_8 ⟨Nat.le_of_ble_eq_true rfl, Nat.le_of_ble_eq_true rfl⟩) hP hS hA (fun r_3 H locs wr_3 hP hS => ?_)
  rcases wr_3 with rfl | ⟨ff3, ss3, dd3, hff3, hss3, hdd3, rfl, rfl, rfl, rfl⟩
  · refine lv_istore (lv' := [(7, .int (-1)), (0, .ref (a 0)), (1, .int n1), (2, .int n2), (3, .int n3), (4, .int n4), (5, .int n5), (6, .int n6)]) hx hb dX11_mark_11 hl (by decide) rfl (fun ls hl => ?_)
    refine lv_iload hx hb dX11_mark_13 (lv_at hl 0 rfl) ?_
    refine lv_if_lt (tgt := 57) hx hb dX11_mark_15 (by decide) (fun _ => ?_) (fun c => absurd c (by decide))
    refine lv_iconst (v := 0) hx hb dX11_mark_57 (by decide) ?_
    exact W.zret (v := 0) hx hb hr (by decide) (fun tt9 ht hW => ⟨⟨(0 : Int32), ((d0 : Nat → Int32), (d1 : Nat → Int32), (d2 : Nat → Int32)), rfl, trivial, ⟨by rw [ht]; exact hP, hD⟩⟩, hS.F ht⟩) hS.2.2 dX11_mark_58 hlocks
  · refine lv_istore (lv' := [(7, .int (nI ((ff3 * 8 + ss3) * 2 + dd3))), (0, .ref (a 0)), (1, .int n1), (2, .int (nI ff3)), (3, .int (nI ss3)), (4, .int (nI dd3)), (5, .int n5), (6, .int n6)]) hx hb dX11_mark_11 hl (by decide) rfl (fun ls hl => ?_)
    refine lv_iload hx hb dX11_mark_13 (lv_at hl 0 rfl) ?_
    refine lv_if_lt (tgt := 57) hx hb dX11_mark_15 (by decide) (fun c => absurd c (lf_X11_mark_4 a ap sn sk scu sch dm d0 d1 d2 n1 (nI ff3) (nI ss3) (nI dd3) n5 n6 hsn hsk hdm ff3 ss3 dd3 hff3 hss3 hdd3)) (fun _ => ?_)
    refine lv_aload_n hx hb dX11_mark_18 rfl (lv_at hl 1 rfl) ?_
    refine va_get (D := D) (ci := 11) (v := .ref (a 6)) (C := RX11) (T := TX11) (N := 13) hx hb hts inT_X11 hown hK.1 hP 0 rfl rfl 5 (by decide) (hts _ k_488) (fun _ h9 => h9) rfl dX11_mark_19 ?_
    refine lv_iload_n hx hb dX11_mark_22 rfl (lv_at hl 2 rfl) ?_
    refine eRi (va_runV (As := [.int n1]) (rest := []) ⟨hx, hb, hml, hown, hts⟩ (c_X0_has l D cI cB cZ cJ tx a dm n1 H.size) (zV hts k_899 v_X0_has ⟨Nat.le_of_ble_eq_true rfl, Nat.le_of_ble_eq_true rfl⟩) (pV (px1 hK hP 2 rfl) hK hP 2 rfl rfl) rfl rfl hl.1 rfl (lv_room (Nat.le_of_ble_eq_true rfl)) dX11_mark_23 ⟨Nat.le_of_ble_eq_true rfl, Nat.le_of_ble_eq_true rfl⟩) hP hS hA (fun r_5 H locs wr_5 hP hS => ?_)
    subst wr_5
    refine lv_bi_eq (tgt := 57) hx hb dX11_mark_26 (by decide) (fun c_6 => ?_) (fun c_6 => ?_)
    · refine lv_iconst (v := 0) hx hb dX11_mark_57 (by decide) ?_
      exact W.zret (v := 0) hx hb hr (by decide) (fun tt9 ht hW => ⟨⟨(0 : Int32), ((d0 : Nat → Int32), (d1 : Nat → Int32), (d2 : Nat → Int32)), rfl, trivial, ⟨by rw [ht]; exact hP, hD⟩⟩, hS.F ht⟩) hS.2.2 dX11_mark_58 hlocks
    · obtain ⟨tn1, tn1a, tn1e⟩ := of_within (lf_X11_mark_7 a ap sn sk scu sch dm d0 d1 d2 n1 (nI ff3) (nI ss3) (nI dd3) n5 n6 hsn hsk hdm ff3 ss3 dd3 hff3 hss3 hdd3 c_6) c_6
      subst tn1e
      refine lv_iload hx hb dX11_mark_29 (lv_at hl 6 rfl) ?_
      refine lv_sipush (v := (-6000)) hx hb dX11_mark_31 (by decide) ?_
      refine lv_sipush (v := 6000) hx hb dX11_mark_34 (by decide) ?_
      refine eRi (va_runS (As := [.int n5, .int (-6000), .int 6000]) (rest := []) ⟨hx, hb, hml, hown, hts⟩ (c_X11_within l D cI cB cZ cJ tx n5 (-6000) 6000 H.size) (zS hts k_527 v_X11_within ⟨Nat.le_of_ble_eq_true rfl, Nat.le_of_ble_eq_true rfl⟩) (px0 hK) rfl rfl hl.1 rfl (lv_room (Nat.le_of_ble_eq_true rfl)) dX11_mark_37 ⟨Nat.le_of_ble_eq_true rfl, Nat.le_of_ble_eq_true rfl⟩) hP hS hA (fun r_8 H locs wr_8 hP hS => ?_)
      subst wr_8
      refine lv_bi_eq (tgt := 57) hx hb dX11_mark_40 (by decide) (fun c_9 => ?_) (fun c_9 => ?_)
      · refine lv_iconst (v := 0) hx hb dX11_mark_57 (by decide) ?_
        exact W.zret (v := 0) hx hb hr (by decide) (fun tt9 ht hW => ⟨⟨(0 : Int32), ((d0 : Nat → Int32), (d1 : Nat → Int32), (d2 : Nat → Int32)), rfl, trivial, ⟨by rw [ht]; exact hP, hD⟩⟩, hS.F ht⟩) hS.2.2 dX11_mark_58 hlocks
      · refine lv_iload hx hb dX11_mark_43 (lv_at hl 7 rfl) ?_
        refine lv_sipush (v := (-6000)) hx hb dX11_mark_45 (by decide) ?_
        refine lv_sipush (v := 6000) hx hb dX11_mark_48 (by decide) ?_
        refine eRi (va_runS (As := [.int n6, .int (-6000), .int 6000]) (rest := []) ⟨hx, hb, hml, hown, hts⟩ (c_X11_within l D cI cB cZ cJ tx n6 (-6000) 6000 H.size) (zS hts k_527 v_X11_within ⟨Nat.le_of_ble_eq_true rfl, Nat.le_of_ble_eq_true rfl⟩) (px0 hK) rfl rfl hl.1 rfl (lv_room (Nat.le_of_ble_eq_true rfl)) dX11_mark_51 ⟨Nat.le_of_ble_eq_true rfl, Nat.le_of_ble_eq_true rfl⟩) hP hS hA (fun r_10 H locs wr_10 hP hS => ?_)
        subst wr_10
        refine lv_bi_ne (tgt := 59) hx hb dX11_mark_54 (by decide) (fun c_11 => ?_) (fun c_11 => ?_)
        · refine lv_aload_n hx hb dX11_mark_59 rfl (lv_at hl 1 rfl) ?_
          refine va_get (D := D) (ci := 11) (v := .ref (a 6)) (C := RX11) (T := TX11) (N := 13) hx hb hts inT_X11 hown hK.1 hP 0 rfl rfl 5 (by decide) (hts _ k_488) (fun _ h9 => h9) rfl dX11_mark_60 ?_
          refine lv_iload_n hx hb dX11_mark_63 rfl (lv_at hl 2 rfl) ?_
          refine lv_iload hx hb dX11_mark_64 (lv_at hl 0 rfl) ?_
          refine lv_iload hx hb dX11_mark_66 (lv_at hl 6 rfl) ?_
          refine lv_iload hx hb dX11_mark_68 (lv_at hl 7 rfl) ?_
          refine eWv (wr := [(a 0, .inr (11, [.ref (a 1), .ref (a 2), .ref (a 3), .ref (a 4), .ref (a 5), .ref (a 6), .ref (a 7), .ref (a 8), .ref (a 9), .ref (a 10), .ref (a 11), .ref (a 12), .int ap])), (a 5, .inr (4, [.ref (a 18), .ref (a 19), .ref (a 20), .ref (a 21), .ref (a 22), .ref (a 23), .ref (a 24), .int (nI sn), .int (nI sk), .int scu, .int sch]))]) (va_runV (As := [.int (nI tn1), .int (nI ((ff3 * 8 + ss3) * 2 + dd3)), .int n5, .int n6]) (rest := []) ⟨hx, hb, hml, hown, hts⟩ (c_X0_put l D cI cB cZ cJ tx a dm d0 d1 d2 tn1 ((ff3 * 8 + ss3) * 2 + dd3) n5 n6 (lf_X11_mark_12 a ap sn sk scu sch dm d0 d1 d2 (nI tn1) (nI ff3) (nI ss3) (nI dd3) n5 n6 hsn hsk hdm ff3 ss3 dd3 hff3 hss3 hdd3 c_6 tn1 tn1a rfl c_9 c_11) (lf_X11_mark_13 a ap sn sk scu sch dm d0 d1 d2 (nI tn1) (nI ff3) (nI ss3) (nI dd3) n5 n6 hsn hsk hdm ff3 ss3 dd3 hff3 hss3 hdd3 c_6 tn1 tn1a rfl c_9 c_11) H.size) (zV hts k_904 v_X0_put ⟨Nat.le_of_ble_eq_true rfl, Nat.le_of_ble_eq_true rfl⟩) (pV (pxS hK hP hD [2, 3, 4, 5] (by decide) rfl) hK hP 2 rfl rfl) rfl rfl hl.1 rfl (lv_room (Nat.le_of_ble_eq_true rfl)) dX11_mark_70 ⟨Nat.le_of_ble_eq_true rfl, Nat.le_of_ble_eq_true rfl⟩) hP hD hS hA [2, 3, 4, 5] [0, 1] rfl rfl (by decide) (by decide) (fun u_15 H locs wr_14 hP hD hS => ?_)
          obtain ⟨d0_15, d1_15, d2_15⟩ := u_15
          have hP : va_P D vwCl [(a 0, .inr (11, [.ref (a 1), .ref (a 2), .ref (a 3), .ref (a 4), .ref (a 5), .ref (a 6), .ref (a 7), .ref (a 8), .ref (a 9), .ref (a 10), .ref (a 11), .ref (a 12), .int ap])), (a 5, .inr (4, [.ref (a 18), .ref (a 19), .ref (a 20), .ref (a 21), .ref (a 22), .ref (a 23), .ref (a 24), .int (nI sn), .int (nI sk), .int scu, .int sch])), (a 6, .inr (0, [.ref (a 5), .ref (a 25), .ref (a 26), .ref (a 27), .ref (a 28), .ref (a 29), .int (nI dm)])), (a 25, .inl (cI, 1536, .inl d0_15)), (a 26, .inl (cI, 1536, .inl d1_15)), (a 27, .inl (cZ, 1536, .inl d2_15))] H := hP
          have hD : va_D A [(a 0, .inr (11, [.ref (a 1), .ref (a 2), .ref (a 3), .ref (a 4), .ref (a 5), .ref (a 6), .ref (a 7), .ref (a 8), .ref (a 9), .ref (a 10), .ref (a 11), .ref (a 12), .int ap])), (a 5, .inr (4, [.ref (a 18), .ref (a 19), .ref (a 20), .ref (a 21), .ref (a 22), .ref (a 23), .ref (a 24), .int (nI sn), .int (nI sk), .int scu, .int sch])), (a 6, .inr (0, [.ref (a 5), .ref (a 25), .ref (a 26), .ref (a 27), .ref (a 28), .ref (a 29), .int (nI dm)])), (a 25, .inl (cI, 1536, .inl d0_15)), (a 26, .inl (cI, 1536, .inl d1_15)), (a 27, .inl (cZ, 1536, .inl d2_15))] := hD
          refine lv_iconst (v := 1) hx hb dX11_mark_73 (by decide) ?_
          exact W.zret (v := 1) hx hb hr (by decide) (fun tt9 ht hW => ⟨⟨(1 : Int32), ((d0_15 : Nat → Int32), (d1_15 : Nat → Int32), (d2_15 : Nat → Int32)), rfl, trivial, ⟨by rw [ht]; exact hP, hD⟩⟩, hS.F ht⟩) hS.2.2 dX11_mark_74 hlocks
        · refine lv_iconst (v := 0) hx hb dX11_mark_57 (by decide) ?_
          exact W.zret (v := 0) hx hb hr (by decide) (fun tt9 ht hW => ⟨⟨(0 : Int32), ((d0 : Nat → Int32), (d1 : Nat → Int32), (d2 : Nat → Int32)), rfl, trivial, ⟨by rw [ht]; exact hP, hD⟩⟩, hS.F ht⟩) hS.2.2 dX11_mark_58 hlocks

theorem lf_X11_draw_3 (a : Nat → Nat) (ap : Int32) (sn : Nat) (sk : Nat) (scu : Int32) (sch : Int32) (g0 : Nat → Int32) (g1 : Nat → Int32) (g3 : Nat → Int32) (dm : Nat) (d0 : Nat → Int32) (d1 : Nat → Int32) (d2 : Nat → Int32) (n1 : Int32) (n2 : Int32) (n3 : Int32) (n4 : Int32) (hsn : sn ≤ 24) (hsk : sk ≤ 8) (hdm : dm ≤ 4) (c_2 : (0 : Int32) ≤ n1 ∧ n1 ≤ nI dm - 1) : dm < 2 ^ 31 := by
  omega
theorem lf_X11_draw_10 (a : Nat → Nat) (ap : Int32) (sn : Nat) (sk : Nat) (scu : Int32) (sch : Int32) (g0 : Nat → Int32) (g1 : Nat → Int32) (g3 : Nat → Int32) (dm : Nat) (d0 : Nat → Int32) (d1 : Nat → Int32) (d2 : Nat → Int32) (n1 : Int32) (n2 : Int32) (n3 : Int32) (n4 : Int32) (hsn : sn ≤ 24) (hsk : sk ≤ 8) (hdm : dm ≤ 4) (c_2 : (0 : Int32) ≤ n1 ∧ n1 ≤ nI dm - 1) (tn1 : Nat) (tn1a : tn1 < dm) (tn1e : n1 = nI tn1) (c_5 : ((-2000) : Int32) ≤ n2 ∧ n2 ≤ 2000) (c_7 : ((-2000) : Int32) ≤ n3 ∧ n3 ≤ 2000) (c_9 : (0 : Int32) ≤ n4 ∧ n4 ≤ 1000) (tn4 : Nat) (tn4a : 0 ≤ tn4) (tn4b : tn4 ≤ 1000) (tn4e : n4 = nI tn4) : dm ≤ 4 := by
  first | assumption | omega | decide
theorem lf_X11_draw_11 (a : Nat → Nat) (ap : Int32) (sn : Nat) (sk : Nat) (scu : Int32) (sch : Int32) (g0 : Nat → Int32) (g1 : Nat → Int32) (g3 : Nat → Int32) (dm : Nat) (d0 : Nat → Int32) (d1 : Nat → Int32) (d2 : Nat → Int32) (n1 : Int32) (n2 : Int32) (n3 : Int32) (n4 : Int32) (hsn : sn ≤ 24) (hsk : sk ≤ 8) (hdm : dm ≤ 4) (c_2 : (0 : Int32) ≤ n1 ∧ n1 ≤ nI dm - 1) (tn1 : Nat) (tn1a : tn1 < dm) (tn1e : n1 = nI tn1) (c_5 : ((-2000) : Int32) ≤ n2 ∧ n2 ≤ 2000) (c_7 : ((-2000) : Int32) ≤ n3 ∧ n3 ≤ 2000) (c_9 : (0 : Int32) ≤ n4 ∧ n4 ≤ 1000) (tn4 : Nat) (tn4a : 0 ≤ tn4) (tn4b : tn4 ≤ 1000) (tn4e : n4 = nI tn4) : tn1 < dm := by
  first | assumption | omega | decide
theorem lf_X11_draw_12 (a : Nat → Nat) (ap : Int32) (sn : Nat) (sk : Nat) (scu : Int32) (sch : Int32) (g0 : Nat → Int32) (g1 : Nat → Int32) (g3 : Nat → Int32) (dm : Nat) (d0 : Nat → Int32) (d1 : Nat → Int32) (d2 : Nat → Int32) (n1 : Int32) (n2 : Int32) (n3 : Int32) (n4 : Int32) (hsn : sn ≤ 24) (hsk : sk ≤ 8) (hdm : dm ≤ 4) (c_2 : (0 : Int32) ≤ n1 ∧ n1 ≤ nI dm - 1) (tn1 : Nat) (tn1a : tn1 < dm) (tn1e : n1 = nI tn1) (c_5 : ((-2000) : Int32) ≤ n2 ∧ n2 ≤ 2000) (c_7 : ((-2000) : Int32) ≤ n3 ∧ n3 ≤ 2000) (c_9 : (0 : Int32) ≤ n4 ∧ n4 ≤ 1000) (tn4 : Nat) (tn4a : 0 ≤ tn4) (tn4b : tn4 ≤ 1000) (tn4e : n4 = nI tn4) : sn ≤ 24 := by
  first | assumption | omega | decide
theorem lf_X11_draw_13 (a : Nat → Nat) (ap : Int32) (sn : Nat) (sk : Nat) (scu : Int32) (sch : Int32) (g0 : Nat → Int32) (g1 : Nat → Int32) (g3 : Nat → Int32) (dm : Nat) (d0 : Nat → Int32) (d1 : Nat → Int32) (d2 : Nat → Int32) (n1 : Int32) (n2 : Int32) (n3 : Int32) (n4 : Int32) (hsn : sn ≤ 24) (hsk : sk ≤ 8) (hdm : dm ≤ 4) (c_2 : (0 : Int32) ≤ n1 ∧ n1 ≤ nI dm - 1) (tn1 : Nat) (tn1a : tn1 < dm) (tn1e : n1 = nI tn1) (c_5 : ((-2000) : Int32) ≤ n2 ∧ n2 ≤ 2000) (c_7 : ((-2000) : Int32) ≤ n3 ∧ n3 ≤ 2000) (c_9 : (0 : Int32) ≤ n4 ∧ n4 ≤ 1000) (tn4 : Nat) (tn4a : 0 ≤ tn4) (tn4b : tn4 ≤ 1000) (tn4e : n4 = nI tn4) : sk ≤ 8 := by
  first | assumption | omega | decide
theorem lf_X11_draw_16 (a : Nat → Nat) (ap : Int32) (sn : Nat) (sk : Nat) (scu : Int32) (sch : Int32) (g0 : Nat → Int32) (g1 : Nat → Int32) (g3 : Nat → Int32) (dm : Nat) (d0 : Nat → Int32) (d1 : Nat → Int32) (d2 : Nat → Int32) (n1 : Int32) (n2 : Int32) (n3 : Int32) (n4 : Int32) (hsn : sn ≤ 24) (hsk : sk ≤ 8) (hdm : dm ≤ 4) (c_2 : (0 : Int32) ≤ n1 ∧ n1 ≤ nI dm - 1) (tn1 : Nat) (tn1a : tn1 < dm) (tn1e : n1 = nI tn1) (c_5 : ((-2000) : Int32) ≤ n2 ∧ n2 ≤ 2000) (c_7 : ((-2000) : Int32) ≤ n3 ∧ n3 ≤ 2000) (c_9 : (0 : Int32) ≤ n4 ∧ n4 ≤ 1000) (tn4 : Nat) (tn4a : 0 ≤ tn4) (tn4b : tn4 ≤ 1000) (tn4e : n4 = nI tn4) (d0_15 : Nat → Int32) (d1_15 : Nat → Int32) (d2_15 : Nat → Int32) (sch_15 : Int32) : dm ≤ 4 := by
  first | assumption | omega | decide
theorem lf_X11_draw_17 (a : Nat → Nat) (ap : Int32) (sn : Nat) (sk : Nat) (scu : Int32) (sch : Int32) (g0 : Nat → Int32) (g1 : Nat → Int32) (g3 : Nat → Int32) (dm : Nat) (d0 : Nat → Int32) (d1 : Nat → Int32) (d2 : Nat → Int32) (n1 : Int32) (n2 : Int32) (n3 : Int32) (n4 : Int32) (hsn : sn ≤ 24) (hsk : sk ≤ 8) (hdm : dm ≤ 4) (c_2 : (0 : Int32) ≤ n1 ∧ n1 ≤ nI dm - 1) (tn1 : Nat) (tn1a : tn1 < dm) (tn1e : n1 = nI tn1) (c_5 : ((-2000) : Int32) ≤ n2 ∧ n2 ≤ 2000) (c_7 : ((-2000) : Int32) ≤ n3 ∧ n3 ≤ 2000) (c_9 : (0 : Int32) ≤ n4 ∧ n4 ≤ 1000) (tn4 : Nat) (tn4a : 0 ≤ tn4) (tn4b : tn4 ≤ 1000) (tn4e : n4 = nI tn4) (d0_15 : Nat → Int32) (d1_15 : Nat → Int32) (d2_15 : Nat → Int32) (sch_15 : Int32) : tn1 < dm := by
  first | assumption | omega | decide
set_option maxHeartbeats 4000000 in
set_option maxRecDepth 100000 in
theorem c_X11_draw (l : Launch) (D : va_G) (cI cB cZ cJ : ClassId) (tx : List (ClassId × FieldType)) (a : Nat → Nat) (ap : Int32) (sn : Nat) (sk : Nat) (scu : Int32) (sch : Int32) (g0 : Nat → Int32) (g1 : Nat → Int32) (g3 : Nat → Int32) (dm : Nat) (d0 : Nat → Int32) (d1 : Nat → Int32) (d2 : Nat → Int32) (n1 : Int32) (n2 : Int32) (n3 : Int32) (n4 : Int32) (hsn : sn ≤ 24) (hsk : sk ≤ 8) (hdm : dm ≤ 4) : WrI l D cI cB cZ cJ tx yX11_draw cX11_draw 5 (some .int) 4 0 0 [.ref (a 0), .int n1, .int n2, .int n3, .int n4] [(a 0, .inr (11, [.ref (a 1), .ref (a 2), .ref (a 3), .ref (a 4), .ref (a 5), .ref (a 6), .ref (a 7), .ref (a 8), .ref (a 9), .ref (a 10), .ref (a 11), .ref (a 12), .int ap])), (a 5, .inr (4, [.ref (a 18), .ref (a 19), .ref (a 20), .ref (a 21), .ref (a 22), .ref (a 23), .ref (a 24), .int (nI sn), .int (nI sk), .int scu, .int sch])), (a 18, .inl (cI, 384, .inl g0)), (a 19, .inl (cI, 384, .inl g1)), (a 21, .inl (cZ, 384, .inl g3)), (a 6, .inr (0, [.ref (a 5), .ref (a 25), .ref (a 26), .ref (a 27), .ref (a 28), .ref (a 29), .int (nI dm)])), (a 25, .inl (cI, 1536, .inl d0)), (a 26, .inl (cI, 1536, .inl d1)), (a 27, .inl (cZ, 1536, .inl d2))] (fun (r : Int32) (v : (Nat → Int32) × (Nat → Int32) × (Nat → Int32) × (Int32)) => True) (fun v => [(a 0, .inr (11, [.ref (a 1), .ref (a 2), .ref (a 3), .ref (a 4), .ref (a 5), .ref (a 6), .ref (a 7), .ref (a 8), .ref (a 9), .ref (a 10), .ref (a 11), .ref (a 12), .int ap])), (a 5, .inr (4, [.ref (a 18), .ref (a 19), .ref (a 20), .ref (a 21), .ref (a 22), .ref (a 23), .ref (a 24), .int (nI sn), .int (nI sk), .int scu, .int v.2.2.2])), (a 18, .inl (cI, 384, .inl g0)), (a 19, .inl (cI, 384, .inl g1)), (a 21, .inl (cZ, 384, .inl g3)), (a 6, .inr (0, [.ref (a 5), .ref (a 25), .ref (a 26), .ref (a 27), .ref (a 28), .ref (a 29), .int (nI dm)])), (a 25, .inl (cI, 1536, .inl v.1)), (a 26, .inl (cI, 1536, .inl v.2.1)), (a 27, .inl (cZ, 1536, .inl v.2.2.1))]) := by
  refine wri_of2 (by decide) (Nat.le_of_ble_eq_true rfl) ?_
  intro p e s m below meth c A ls H locs hC hK hP hD hA hS hl
  obtain ⟨hx, hb, hr, hml, hown, hts, hlocks, hin⟩ := hC
  have hown : s.vm.findClass RX11 = some m.cls := hown
  have hl : lv_has ls 5 [(0, .ref (a 0)), (1, .int n1), (2, .int n2), (3, .int n3), (4, .int n4)] := hl
  refine lv_aload_n hx hb dX11_draw_0 rfl (lv_at hl 0 rfl) ?_
  refine va_get (D := D) (ci := 11) (v := .ref (a 6)) (C := RX11) (T := TX11) (N := 13) hx hb hts inT_X11 hown hK.1 hP 0 rfl rfl 5 (by decide) (hts _ k_488) (fun _ h9 => h9) rfl dX11_draw_1 ?_
  refine lv_iload_n hx hb dX11_draw_4 rfl (lv_at hl 1 rfl) ?_
  refine eRi (va_runV (As := [.int n1]) (rest := []) ⟨hx, hb, hml, hown, hts⟩ (c_X0_has l D cI cB cZ cJ tx a dm n1 H.size) (zV hts k_899 v_X0_has ⟨Nat.le_of_ble_eq_true rfl, Nat.le_of_ble_eq_true rfl⟩) (pV (px1 hK hP 5 rfl) hK hP 5 rfl rfl) rfl rfl hl.1 rfl (lv_room (Nat.le_of_ble_eq_true rfl)) dX11_draw_5 ⟨Nat.le_of_ble_eq_true rfl, Nat.le_of_ble_eq_true rfl⟩) hP hS hA (fun r_1 H locs wr_1 hP hS => ?_)
  subst wr_1
  refine lv_bi_eq (tgt := 49) hx hb dX11_draw_8 (by decide) (fun c_2 => ?_) (fun c_2 => ?_)
  · refine lv_iconst (v := (-1)) hx hb dX11_draw_49 (by decide) ?_
    exact W.iret (v := (-1)) hx hb hr (fun tt9 ht hW => ⟨⟨((-1) : Int32), ((d0 : Nat → Int32), (d1 : Nat → Int32), (d2 : Nat → Int32), (sch : Int32)), rfl, trivial, ⟨by rw [ht]; exact hP, hD⟩⟩, hS.F ht⟩) hS.2.2 dX11_draw_50 hlocks
  · obtain ⟨tn1, tn1a, tn1e⟩ := of_within (lf_X11_draw_3 a ap sn sk scu sch g0 g1 g3 dm d0 d1 d2 n1 n2 n3 n4 hsn hsk hdm c_2) c_2
    subst tn1e
    refine lv_iload_n hx hb dX11_draw_11 rfl (lv_at hl 2 rfl) ?_
    refine lv_sipush (v := (-2000)) hx hb dX11_draw_12 (by decide) ?_
    refine lv_sipush (v := 2000) hx hb dX11_draw_15 (by decide) ?_
    refine eRi (va_runS (As := [.int n2, .int (-2000), .int 2000]) (rest := []) ⟨hx, hb, hml, hown, hts⟩ (c_X11_within l D cI cB cZ cJ tx n2 (-2000) 2000 H.size) (zS hts k_527 v_X11_within ⟨Nat.le_of_ble_eq_true rfl, Nat.le_of_ble_eq_true rfl⟩) (px0 hK) rfl rfl hl.1 rfl (lv_room (Nat.le_of_ble_eq_true rfl)) dX11_draw_18 ⟨Nat.le_of_ble_eq_true rfl, Nat.le_of_ble_eq_true rfl⟩) hP hS hA (fun r_4 H locs wr_4 hP hS => ?_)
    subst wr_4
    refine lv_bi_eq (tgt := 49) hx hb dX11_draw_21 (by decide) (fun c_5 => ?_) (fun c_5 => ?_)
    · refine lv_iconst (v := (-1)) hx hb dX11_draw_49 (by decide) ?_
      exact W.iret (v := (-1)) hx hb hr (fun tt9 ht hW => ⟨⟨((-1) : Int32), ((d0 : Nat → Int32), (d1 : Nat → Int32), (d2 : Nat → Int32), (sch : Int32)), rfl, trivial, ⟨by rw [ht]; exact hP, hD⟩⟩, hS.F ht⟩) hS.2.2 dX11_draw_50 hlocks
    · refine lv_iload_n hx hb dX11_draw_24 rfl (lv_at hl 3 rfl) ?_
      refine lv_sipush (v := (-2000)) hx hb dX11_draw_25 (by decide) ?_
      refine lv_sipush (v := 2000) hx hb dX11_draw_28 (by decide) ?_
      refine eRi (va_runS (As := [.int n3, .int (-2000), .int 2000]) (rest := []) ⟨hx, hb, hml, hown, hts⟩ (c_X11_within l D cI cB cZ cJ tx n3 (-2000) 2000 H.size) (zS hts k_527 v_X11_within ⟨Nat.le_of_ble_eq_true rfl, Nat.le_of_ble_eq_true rfl⟩) (px0 hK) rfl rfl hl.1 rfl (lv_room (Nat.le_of_ble_eq_true rfl)) dX11_draw_31 ⟨Nat.le_of_ble_eq_true rfl, Nat.le_of_ble_eq_true rfl⟩) hP hS hA (fun r_6 H locs wr_6 hP hS => ?_)
      subst wr_6
      refine lv_bi_eq (tgt := 49) hx hb dX11_draw_34 (by decide) (fun c_7 => ?_) (fun c_7 => ?_)
      · refine lv_iconst (v := (-1)) hx hb dX11_draw_49 (by decide) ?_
        exact W.iret (v := (-1)) hx hb hr (fun tt9 ht hW => ⟨⟨((-1) : Int32), ((d0 : Nat → Int32), (d1 : Nat → Int32), (d2 : Nat → Int32), (sch : Int32)), rfl, trivial, ⟨by rw [ht]; exact hP, hD⟩⟩, hS.F ht⟩) hS.2.2 dX11_draw_50 hlocks
      · refine lv_iload hx hb dX11_draw_37 (lv_at hl 4 rfl) ?_
        refine lv_iconst (v := 0) hx hb dX11_draw_39 (by decide) ?_
        refine lv_sipush (v := 1000) hx hb dX11_draw_40 (by decide) ?_
        refine eRi (va_runS (As := [.int n4, .int 0, .int 1000]) (rest := []) ⟨hx, hb, hml, hown, hts⟩ (c_X11_within l D cI cB cZ cJ tx n4 0 1000 H.size) (zS hts k_527 v_X11_within ⟨Nat.le_of_ble_eq_true rfl, Nat.le_of_ble_eq_true rfl⟩) (px0 hK) rfl rfl hl.1 rfl (lv_room (Nat.le_of_ble_eq_true rfl)) dX11_draw_43 ⟨Nat.le_of_ble_eq_true rfl, Nat.le_of_ble_eq_true rfl⟩) hP hS hA (fun r_8 H locs wr_8 hP hS => ?_)
        subst wr_8
        refine lv_bi_ne (tgt := 51) hx hb dX11_draw_46 (by decide) (fun c_9 => ?_) (fun c_9 => ?_)
        · obtain ⟨tn4, tn4a, tn4b, tn4e⟩ := of_rng 0 1000 rfl rfl c_9
          subst tn4e
          refine lv_aload_n hx hb dX11_draw_51 rfl (lv_at hl 0 rfl) ?_
          refine va_get (D := D) (ci := 11) (v := .ref (a 6)) (C := RX11) (T := TX11) (N := 13) hx hb hts inT_X11 hown hK.1 hP 0 rfl rfl 5 (by decide) (hts _ k_488) (fun _ h9 => h9) rfl dX11_draw_52 ?_
          refine lv_iload_n hx hb dX11_draw_55 rfl (lv_at hl 1 rfl) ?_
          refine lv_iload_n hx hb dX11_draw_56 rfl (lv_at hl 2 rfl) ?_
          refine lv_iload_n hx hb dX11_draw_57 rfl (lv_at hl 3 rfl) ?_
          refine lv_iload hx hb dX11_draw_58 (lv_at hl 4 rfl) ?_
          refine eWv (wr := [(a 0, .inr (11, [.ref (a 1), .ref (a 2), .ref (a 3), .ref (a 4), .ref (a 5), .ref (a 6), .ref (a 7), .ref (a 8), .ref (a 9), .ref (a 10), .ref (a 11), .ref (a 12), .int ap]))]) (va_runV (As := [.int (nI tn1), .int n2, .int n3, .int (nI tn4)]) (rest := []) ⟨hx, hb, hml, hown, hts⟩ (c_X0_take l D cI cB cZ cJ tx a dm d0 d1 d2 sn sk scu sch g0 g1 g3 tn1 n2 n3 (nI tn4) (lf_X11_draw_10 a ap sn sk scu sch g0 g1 g3 dm d0 d1 d2 (nI tn1) n2 n3 (nI tn4) hsn hsk hdm c_2 tn1 tn1a rfl c_5 c_7 c_9 tn4 tn4a tn4b rfl) (lf_X11_draw_11 a ap sn sk scu sch g0 g1 g3 dm d0 d1 d2 (nI tn1) n2 n3 (nI tn4) hsn hsk hdm c_2 tn1 tn1a rfl c_5 c_7 c_9 tn4 tn4a tn4b rfl) (lf_X11_draw_12 a ap sn sk scu sch g0 g1 g3 dm d0 d1 d2 (nI tn1) n2 n3 (nI tn4) hsn hsk hdm c_2 tn1 tn1a rfl c_5 c_7 c_9 tn4 tn4a tn4b rfl) (lf_X11_draw_13 a ap sn sk scu sch g0 g1 g3 dm d0 d1 d2 (nI tn1) n2 n3 (nI tn4) hsn hsk hdm c_2 tn1 tn1a rfl c_5 c_7 c_9 tn4 tn4a tn4b rfl) H.size) (zV hts k_912 v_X0_take ⟨Nat.le_of_ble_eq_true rfl, Nat.le_of_ble_eq_true rfl⟩) (pV (pxS hK hP hD [5, 6, 7, 8, 1, 2, 3, 4] (by decide) rfl) hK hP 5 rfl rfl) rfl rfl hl.1 rfl (lv_room (Nat.le_of_ble_eq_true rfl)) dX11_draw_60 ⟨Nat.le_of_ble_eq_true rfl, Nat.le_of_ble_eq_true rfl⟩) hP hD hS hA [5, 6, 7, 8, 1, 2, 3, 4] [0] rfl rfl (by decide) (by decide) (fun u_15 H locs wr_14 hP hD hS => ?_)
          obtain ⟨d0_15, d1_15, d2_15, sch_15⟩ := u_15
          have hP : va_P D vwCl [(a 0, .inr (11, [.ref (a 1), .ref (a 2), .ref (a 3), .ref (a 4), .ref (a 5), .ref (a 6), .ref (a 7), .ref (a 8), .ref (a 9), .ref (a 10), .ref (a 11), .ref (a 12), .int ap])), (a 6, .inr (0, [.ref (a 5), .ref (a 25), .ref (a 26), .ref (a 27), .ref (a 28), .ref (a 29), .int (nI dm)])), (a 25, .inl (cI, 1536, .inl d0_15)), (a 26, .inl (cI, 1536, .inl d1_15)), (a 27, .inl (cZ, 1536, .inl d2_15)), (a 5, .inr (4, [.ref (a 18), .ref (a 19), .ref (a 20), .ref (a 21), .ref (a 22), .ref (a 23), .ref (a 24), .int (nI sn), .int (nI sk), .int scu, .int sch_15])), (a 18, .inl (cI, 384, .inl g0)), (a 19, .inl (cI, 384, .inl g1)), (a 21, .inl (cZ, 384, .inl g3))] H := hP
          have hD : va_D A [(a 0, .inr (11, [.ref (a 1), .ref (a 2), .ref (a 3), .ref (a 4), .ref (a 5), .ref (a 6), .ref (a 7), .ref (a 8), .ref (a 9), .ref (a 10), .ref (a 11), .ref (a 12), .int ap])), (a 6, .inr (0, [.ref (a 5), .ref (a 25), .ref (a 26), .ref (a 27), .ref (a 28), .ref (a 29), .int (nI dm)])), (a 25, .inl (cI, 1536, .inl d0_15)), (a 26, .inl (cI, 1536, .inl d1_15)), (a 27, .inl (cZ, 1536, .inl d2_15)), (a 5, .inr (4, [.ref (a 18), .ref (a 19), .ref (a 20), .ref (a 21), .ref (a 22), .ref (a 23), .ref (a 24), .int (nI sn), .int (nI sk), .int scu, .int sch_15])), (a 18, .inl (cI, 384, .inl g0)), (a 19, .inl (cI, 384, .inl g1)), (a 21, .inl (cZ, 384, .inl g3))] := hD
          refine lv_aload_n hx hb dX11_draw_63 rfl (lv_at hl 0 rfl) ?_
          refine va_get (D := D) (ci := 11) (v := .ref (a 6)) (C := RX11) (T := TX11) (N := 13) hx hb hts inT_X11 hown hK.1 hP 0 rfl rfl 5 (by decide) (hts _ k_488) (fun _ h9 => h9) rfl dX11_draw_64 ?_
          refine lv_iload_n hx hb dX11_draw_67 rfl (lv_at hl 1 rfl) ?_
          refine eRi (va_runV (As := [.int (nI tn1)]) (rest := []) ⟨hx, hb, hml, hown, hts⟩ (c_X0_marksOf l D cI cB cZ cJ tx a dm d2_15 tn1 (lf_X11_draw_16 a ap sn sk scu sch g0 g1 g3 dm d0 d1 d2 (nI tn1) n2 n3 (nI tn4) hsn hsk hdm c_2 tn1 tn1a rfl c_5 c_7 c_9 tn4 tn4a tn4b rfl d0_15 d1_15 d2_15 sch_15) (lf_X11_draw_17 a ap sn sk scu sch g0 g1 g3 dm d0 d1 d2 (nI tn1) n2 n3 (nI tn4) hsn hsk hdm c_2 tn1 tn1a rfl c_5 c_7 c_9 tn4 tn4a tn4b rfl d0_15 d1_15 d2_15 sch_15) H.size) (zV hts k_920 v_X0_marksOf ⟨Nat.le_of_ble_eq_true rfl, Nat.le_of_ble_eq_true rfl⟩) (pV (pxS hK hP hD [1, 4] (by decide) rfl) hK hP 1 rfl rfl) rfl rfl hl.1 rfl (lv_room (Nat.le_of_ble_eq_true rfl)) dX11_draw_68 ⟨Nat.le_of_ble_eq_true rfl, Nat.le_of_ble_eq_true rfl⟩) hP hS hA (fun r_18 H locs wr_18 hP hS => ?_)
          have hP := hP.sub (ws' := [(a 0, .inr (11, [.ref (a 1), .ref (a 2), .ref (a 3), .ref (a 4), .ref (a 5), .ref (a 6), .ref (a 7), .ref (a 8), .ref (a 9), .ref (a 10), .ref (a 11), .ref (a 12), .int ap])), (a 5, .inr (4, [.ref (a 18), .ref (a 19), .ref (a 20), .ref (a 21), .ref (a 22), .ref (a 23), .ref (a 24), .int (nI sn), .int (nI sk), .int scu, .int sch_15])), (a 18, .inl (cI, 384, .inl g0)), (a 19, .inl (cI, 384, .inl g1)), (a 21, .inl (cZ, 384, .inl g3)), (a 6, .inr (0, [.ref (a 5), .ref (a 25), .ref (a 26), .ref (a 27), .ref (a 28), .ref (a 29), .int (nI dm)])), (a 25, .inl (cI, 1536, .inl d0_15)), (a 26, .inl (cI, 1536, .inl d1_15)), (a 27, .inl (cZ, 1536, .inl d2_15))]) [0, 5, 6, 7, 8, 1, 2, 3, 4] rfl
          have hD := hD.sub (ws' := [(a 0, .inr (11, [.ref (a 1), .ref (a 2), .ref (a 3), .ref (a 4), .ref (a 5), .ref (a 6), .ref (a 7), .ref (a 8), .ref (a 9), .ref (a 10), .ref (a 11), .ref (a 12), .int ap])), (a 5, .inr (4, [.ref (a 18), .ref (a 19), .ref (a 20), .ref (a 21), .ref (a 22), .ref (a 23), .ref (a 24), .int (nI sn), .int (nI sk), .int scu, .int sch_15])), (a 18, .inl (cI, 384, .inl g0)), (a 19, .inl (cI, 384, .inl g1)), (a 21, .inl (cZ, 384, .inl g3)), (a 6, .inr (0, [.ref (a 5), .ref (a 25), .ref (a 26), .ref (a 27), .ref (a 28), .ref (a 29), .int (nI dm)])), (a 25, .inl (cI, 1536, .inl d0_15)), (a 26, .inl (cI, 1536, .inl d1_15)), (a 27, .inl (cZ, 1536, .inl d2_15))]) [0, 5, 6, 7, 8, 1, 2, 3, 4] (by decide) rfl
          exact W.iret (v := r_18) hx hb hr (fun tt9 ht hW => ⟨⟨(r_18 : Int32), ((d0_15 : Nat → Int32), (d1_15 : Nat → Int32), (d2_15 : Nat → Int32), (sch_15 : Int32)), rfl, trivial, ⟨by rw [ht]; exact hP, hD⟩⟩, hS.F ht⟩) hS.2.2 dX11_draw_71 hlocks
        · refine lv_iconst (v := (-1)) hx hb dX11_draw_49 (by decide) ?_
          exact W.iret (v := (-1)) hx hb hr (fun tt9 ht hW => ⟨⟨((-1) : Int32), ((d0 : Nat → Int32), (d1 : Nat → Int32), (d2 : Nat → Int32), (sch : Int32)), rfl, trivial, ⟨by rw [ht]; exact hP, hD⟩⟩, hS.F ht⟩) hS.2.2 dX11_draw_50 hlocks

theorem lf_X11_joined_1 (a : Nat → Nat) (ap : Int32) (dm : Nat) (d0 : Nat → Int32) (d1 : Nat → Int32) (d2 : Nat → Int32) (d3 : Nat → Int32) (n1 : Int32) (n2 : Int32) (n3 : Int32) (hdm : dm ≤ 4) : dm ≤ 4 := by
  first | assumption | omega | decide
theorem lf_X11_joined_5 (a : Nat → Nat) (ap : Int32) (dm : Nat) (d0 : Nat → Int32) (d1 : Nat → Int32) (d2 : Nat → Int32) (d3 : Nat → Int32) (n1 : Int32) (n2 : Int32) (n3 : Int32) (hdm : dm ≤ 4) (ff2 : Nat) (gg2 : Nat) (hff2 : ff2 < dm) (hgg2 : gg2 < dm) (c_4 : (0 : Int32) ≤ n3 ∧ n3 ≤ 4) (tn3 : Nat) (tn3a : 0 ≤ tn3) (tn3b : tn3 ≤ 4) (tn3e : n3 = nI tn3) : dm ≤ 4 := by
  first | assumption | omega | decide
theorem lf_X11_joined_6 (a : Nat → Nat) (ap : Int32) (dm : Nat) (d0 : Nat → Int32) (d1 : Nat → Int32) (d2 : Nat → Int32) (d3 : Nat → Int32) (n1 : Int32) (n2 : Int32) (n3 : Int32) (hdm : dm ≤ 4) (ff2 : Nat) (gg2 : Nat) (hff2 : ff2 < dm) (hgg2 : gg2 < dm) (c_4 : (0 : Int32) ≤ n3 ∧ n3 ≤ 4) (tn3 : Nat) (tn3a : 0 ≤ tn3) (tn3b : tn3 ≤ 4) (tn3e : n3 = nI tn3) : ff2 < dm := by
  first | assumption | omega | decide
theorem lf_X11_joined_7 (a : Nat → Nat) (ap : Int32) (dm : Nat) (d0 : Nat → Int32) (d1 : Nat → Int32) (d2 : Nat → Int32) (d3 : Nat → Int32) (n1 : Int32) (n2 : Int32) (n3 : Int32) (hdm : dm ≤ 4) (ff2 : Nat) (gg2 : Nat) (hff2 : ff2 < dm) (hgg2 : gg2 < dm) (c_4 : (0 : Int32) ≤ n3 ∧ n3 ≤ 4) (tn3 : Nat) (tn3a : 0 ≤ tn3) (tn3b : tn3 ≤ 4) (tn3e : n3 = nI tn3) : gg2 < dm := by
  first | assumption | omega | decide
theorem lf_X11_joined_13 (a : Nat → Nat) (ap : Int32) (dm : Nat) (d0 : Nat → Int32) (d1 : Nat → Int32) (d2 : Nat → Int32) (d3 : Nat → Int32) (n1 : Int32) (n2 : Int32) (n3 : Int32) (hdm : dm ≤ 4) (ff2 : Nat) (gg2 : Nat) (hff2 : ff2 < dm) (hgg2 : gg2 < dm) (c_4 : (0 : Int32) ≤ n3 ∧ n3 ≤ 4) (tn3 : Nat) (tn3a : 0 ≤ tn3) (tn3b : tn3 ≤ 4) (tn3e : n3 = nI tn3) (d3_9 : Nat → Int32) (mm_10 : Nat) (hmm_10 : mm_10 ≤ 384) (c_11 : ¬ nI tn3 = 2) : tn3 ≠ 2 := by
  exact fun q => c_11 ((nI_eq (a := tn3) (b := 2) (by omega) (by omega)).mpr q)
theorem lf_X11_joined_16 (a : Nat → Nat) (ap : Int32) (dm : Nat) (d0 : Nat → Int32) (d1 : Nat → Int32) (d2 : Nat → Int32) (d3 : Nat → Int32) (n1 : Int32) (n2 : Int32) (n3 : Int32) (hdm : dm ≤ 4) (ff2 : Nat) (gg2 : Nat) (hff2 : ff2 < dm) (hgg2 : gg2 < dm) (c_4 : (0 : Int32) ≤ n3 ∧ n3 ≤ 4) (tn3 : Nat) (tn3a : 0 ≤ tn3) (tn3b : tn3 ≤ 4) (tn3e : n3 = nI tn3) (d3_9 : Nat → Int32) (mm_10 : Nat) (hmm_10 : mm_10 ≤ 384) (c_11 : ¬ nI tn3 = 2) (n_12 : tn3 ≠ 2) (c_14 : ¬ nI mm_10 = 0) : mm_10 ≠ 0 := by
  exact fun q => c_14 ((nI_eq (a := mm_10) (b := 0) (by omega) (by omega)).mpr q)
theorem lf_X11_joined_19 (a : Nat → Nat) (ap : Int32) (dm : Nat) (d0 : Nat → Int32) (d1 : Nat → Int32) (d2 : Nat → Int32) (d3 : Nat → Int32) (n1 : Int32) (n2 : Int32) (n3 : Int32) (hdm : dm ≤ 4) (ff2 : Nat) (gg2 : Nat) (hff2 : ff2 < dm) (hgg2 : gg2 < dm) (c_4 : (0 : Int32) ≤ n3 ∧ n3 ≤ 4) (tn3 : Nat) (tn3a : 0 ≤ tn3) (tn3b : tn3 ≤ 4) (tn3e : n3 = nI tn3) (d3_9 : Nat → Int32) (mm_10 : Nat) (hmm_10 : mm_10 ≤ 384) (c_11 : ¬ nI tn3 = 2) (n_12 : tn3 ≠ 2) (c_14 : ¬ nI mm_10 = 0) (n_15 : mm_10 ≠ 0) (c_17 : 2 ≤ nI tn3) : 2 ≤ tn3 := by
  exact (nI_leI (a := 2) (b := tn3) (by omega) (by omega)).mp c_17
theorem lf_X11_joined_21 (a : Nat → Nat) (ap : Int32) (dm : Nat) (d0 : Nat → Int32) (d1 : Nat → Int32) (d2 : Nat → Int32) (d3 : Nat → Int32) (n1 : Int32) (n2 : Int32) (n3 : Int32) (hdm : dm ≤ 4) (ff2 : Nat) (gg2 : Nat) (hff2 : ff2 < dm) (hgg2 : gg2 < dm) (c_4 : (0 : Int32) ≤ n3 ∧ n3 ≤ 4) (tn3 : Nat) (tn3a : 0 ≤ tn3) (tn3b : tn3 ≤ 4) (tn3e : n3 = nI tn3) (d3_9 : Nat → Int32) (mm_10 : Nat) (hmm_10 : mm_10 ≤ 384) (c_11 : ¬ nI tn3 = 2) (n_12 : tn3 ≠ 2) (c_14 : ¬ nI mm_10 = 0) (n_15 : mm_10 ≠ 0) (c_17 : 2 ≤ nI tn3) (n_18 : 2 ≤ tn3) (x_20 : Int32) (ex_20 : x_20 = nI tn3 - 3) : dm ≤ 4 := by
  first | assumption | omega | decide
theorem lf_X11_joined_22 (a : Nat → Nat) (ap : Int32) (dm : Nat) (d0 : Nat → Int32) (d1 : Nat → Int32) (d2 : Nat → Int32) (d3 : Nat → Int32) (n1 : Int32) (n2 : Int32) (n3 : Int32) (hdm : dm ≤ 4) (ff2 : Nat) (gg2 : Nat) (hff2 : ff2 < dm) (hgg2 : gg2 < dm) (c_4 : (0 : Int32) ≤ n3 ∧ n3 ≤ 4) (tn3 : Nat) (tn3a : 0 ≤ tn3) (tn3b : tn3 ≤ 4) (tn3e : n3 = nI tn3) (d3_9 : Nat → Int32) (mm_10 : Nat) (hmm_10 : mm_10 ≤ 384) (c_11 : ¬ nI tn3 = 2) (n_12 : tn3 ≠ 2) (c_14 : ¬ nI mm_10 = 0) (n_15 : mm_10 ≠ 0) (c_17 : 2 ≤ nI tn3) (n_18 : 2 ≤ tn3) (x_20 : Int32) (ex_20 : x_20 = nI tn3 - 3) : ff2 < dm := by
  first | assumption | omega | decide
theorem lf_X11_joined_23 (a : Nat → Nat) (ap : Int32) (dm : Nat) (d0 : Nat → Int32) (d1 : Nat → Int32) (d2 : Nat → Int32) (d3 : Nat → Int32) (n1 : Int32) (n2 : Int32) (n3 : Int32) (hdm : dm ≤ 4) (ff2 : Nat) (gg2 : Nat) (hff2 : ff2 < dm) (hgg2 : gg2 < dm) (c_4 : (0 : Int32) ≤ n3 ∧ n3 ≤ 4) (tn3 : Nat) (tn3a : 0 ≤ tn3) (tn3b : tn3 ≤ 4) (tn3e : n3 = nI tn3) (d3_9 : Nat → Int32) (mm_10 : Nat) (hmm_10 : mm_10 ≤ 384) (c_11 : ¬ nI tn3 = 2) (n_12 : tn3 ≠ 2) (c_14 : ¬ nI mm_10 = 0) (n_15 : mm_10 ≠ 0) (c_17 : 2 ≤ nI tn3) (n_18 : 2 ≤ tn3) (x_20 : Int32) (ex_20 : x_20 = nI tn3 - 3) : gg2 < dm := by
  first | assumption | omega | decide
theorem lf_X11_joined_27 (a : Nat → Nat) (ap : Int32) (dm : Nat) (d0 : Nat → Int32) (d1 : Nat → Int32) (d2 : Nat → Int32) (d3 : Nat → Int32) (n1 : Int32) (n2 : Int32) (n3 : Int32) (hdm : dm ≤ 4) (ff2 : Nat) (gg2 : Nat) (hff2 : ff2 < dm) (hgg2 : gg2 < dm) (c_4 : (0 : Int32) ≤ n3 ∧ n3 ≤ 4) (tn3 : Nat) (tn3a : 0 ≤ tn3) (tn3b : tn3 ≤ 4) (tn3e : n3 = nI tn3) (d3_9 : Nat → Int32) (mm_10 : Nat) (hmm_10 : mm_10 ≤ 384) (c_11 : ¬ nI tn3 = 2) (n_12 : tn3 ≠ 2) (c_14 : ¬ nI mm_10 = 0) (n_15 : mm_10 ≠ 0) (c_17 : ¬ 2 ≤ nI tn3) : tn3 < 2 := by
  exact Nat.lt_of_not_le (fun q => c_17 ((nI_leI (a := 2) (b := tn3) (by omega) (by omega)).mpr q))
theorem lf_X11_joined_28 (a : Nat → Nat) (ap : Int32) (dm : Nat) (d0 : Nat → Int32) (d1 : Nat → Int32) (d2 : Nat → Int32) (d3 : Nat → Int32) (n1 : Int32) (n2 : Int32) (n3 : Int32) (hdm : dm ≤ 4) (ff2 : Nat) (gg2 : Nat) (hff2 : ff2 < dm) (hgg2 : gg2 < dm) (c_4 : (0 : Int32) ≤ n3 ∧ n3 ≤ 4) (tn3 : Nat) (tn3a : 0 ≤ tn3) (tn3b : tn3 ≤ 4) (tn3e : n3 = nI tn3) (d3_9 : Nat → Int32) (mm_10 : Nat) (hmm_10 : mm_10 ≤ 384) (c_11 : ¬ nI tn3 = 2) (n_12 : tn3 ≠ 2) (c_14 : ¬ nI mm_10 = 0) (n_15 : mm_10 ≠ 0) (c_17 : ¬ 2 ≤ nI tn3) (n_26 : tn3 < 2) : dm ≤ 4 := by
  first | assumption | omega | decide
theorem lf_X11_joined_29 (a : Nat → Nat) (ap : Int32) (dm : Nat) (d0 : Nat → Int32) (d1 : Nat → Int32) (d2 : Nat → Int32) (d3 : Nat → Int32) (n1 : Int32) (n2 : Int32) (n3 : Int32) (hdm : dm ≤ 4) (ff2 : Nat) (gg2 : Nat) (hff2 : ff2 < dm) (hgg2 : gg2 < dm) (c_4 : (0 : Int32) ≤ n3 ∧ n3 ≤ 4) (tn3 : Nat) (tn3a : 0 ≤ tn3) (tn3b : tn3 ≤ 4) (tn3e : n3 = nI tn3) (d3_9 : Nat → Int32) (mm_10 : Nat) (hmm_10 : mm_10 ≤ 384) (c_11 : ¬ nI tn3 = 2) (n_12 : tn3 ≠ 2) (c_14 : ¬ nI mm_10 = 0) (n_15 : mm_10 ≠ 0) (c_17 : ¬ 2 ≤ nI tn3) (n_26 : tn3 < 2) : ff2 < dm := by
  first | assumption | omega | decide
theorem lf_X11_joined_30 (a : Nat → Nat) (ap : Int32) (dm : Nat) (d0 : Nat → Int32) (d1 : Nat → Int32) (d2 : Nat → Int32) (d3 : Nat → Int32) (n1 : Int32) (n2 : Int32) (n3 : Int32) (hdm : dm ≤ 4) (ff2 : Nat) (gg2 : Nat) (hff2 : ff2 < dm) (hgg2 : gg2 < dm) (c_4 : (0 : Int32) ≤ n3 ∧ n3 ≤ 4) (tn3 : Nat) (tn3a : 0 ≤ tn3) (tn3b : tn3 ≤ 4) (tn3e : n3 = nI tn3) (d3_9 : Nat → Int32) (mm_10 : Nat) (hmm_10 : mm_10 ≤ 384) (c_11 : ¬ nI tn3 = 2) (n_12 : tn3 ≠ 2) (c_14 : ¬ nI mm_10 = 0) (n_15 : mm_10 ≠ 0) (c_17 : ¬ 2 ≤ nI tn3) (n_26 : tn3 < 2) : gg2 < dm := by
  first | assumption | omega | decide
theorem lf_X11_joined_34 (a : Nat → Nat) (ap : Int32) (dm : Nat) (d0 : Nat → Int32) (d1 : Nat → Int32) (d2 : Nat → Int32) (d3 : Nat → Int32) (n1 : Int32) (n2 : Int32) (n3 : Int32) (hdm : dm ≤ 4) (ff2 : Nat) (gg2 : Nat) (hff2 : ff2 < dm) (hgg2 : gg2 < dm) (c_4 : (0 : Int32) ≤ n3 ∧ n3 ≤ 4) (tn3 : Nat) (tn3a : 0 ≤ tn3) (tn3b : tn3 ≤ 4) (tn3e : n3 = nI tn3) (d3_9 : Nat → Int32) (mm_10 : Nat) (hmm_10 : mm_10 ≤ 384) (c_11 : ¬ nI tn3 = 2) (n_12 : tn3 ≠ 2) (c_14 : nI mm_10 = 0) : mm_10 = 0 := by
  exact (nI_eq (a := mm_10) (b := 0) (by omega) (by omega)).mp c_14
theorem lf_X11_joined_36 (a : Nat → Nat) (ap : Int32) (dm : Nat) (d0 : Nat → Int32) (d1 : Nat → Int32) (d2 : Nat → Int32) (d3 : Nat → Int32) (n1 : Int32) (n2 : Int32) (n3 : Int32) (hdm : dm ≤ 4) (ff2 : Nat) (gg2 : Nat) (hff2 : ff2 < dm) (hgg2 : gg2 < dm) (c_4 : (0 : Int32) ≤ n3 ∧ n3 ≤ 4) (tn3 : Nat) (tn3a : 0 ≤ tn3) (tn3b : tn3 ≤ 4) (tn3e : n3 = nI tn3) (d3_9 : Nat → Int32) (mm_10 : Nat) (hmm_10 : mm_10 ≤ 384) (c_11 : nI tn3 = 2) : tn3 = 2 := by
  exact (nI_eq (a := tn3) (b := 2) (by omega) (by omega)).mp c_11
set_option maxHeartbeats 4000000 in
set_option maxRecDepth 100000 in
theorem c_X11_joined (l : Launch) (D : va_G) (cI cB cZ cJ : ClassId) (tx : List (ClassId × FieldType)) (a : Nat → Nat) (ap : Int32) (dm : Nat) (d0 : Nat → Int32) (d1 : Nat → Int32) (d2 : Nat → Int32) (d3 : Nat → Int32) (n1 : Int32) (n2 : Int32) (n3 : Int32) (hdm : dm ≤ 4) : WrI l D cI cB cZ cJ tx yX11_joined cX11_joined 5 (some .int) 5 0 0 [.ref (a 0), .int n1, .int n2, .int n3] [(a 0, .inr (11, [.ref (a 1), .ref (a 2), .ref (a 3), .ref (a 4), .ref (a 5), .ref (a 6), .ref (a 7), .ref (a 8), .ref (a 9), .ref (a 10), .ref (a 11), .ref (a 12), .int ap])), (a 6, .inr (0, [.ref (a 5), .ref (a 25), .ref (a 26), .ref (a 27), .ref (a 28), .ref (a 29), .int (nI dm)])), (a 25, .inl (cI, 1536, .inl d0)), (a 26, .inl (cI, 1536, .inl d1)), (a 27, .inl (cZ, 1536, .inl d2)), (a 28, .inl (cI, 384, .inl d3))] (fun (r : Int32) (v : (Nat → Int32)) => True) (fun v => [(a 0, .inr (11, [.ref (a 1), .ref (a 2), .ref (a 3), .ref (a 4), .ref (a 5), .ref (a 6), .ref (a 7), .ref (a 8), .ref (a 9), .ref (a 10), .ref (a 11), .ref (a 12), .int ap])), (a 6, .inr (0, [.ref (a 5), .ref (a 25), .ref (a 26), .ref (a 27), .ref (a 28), .ref (a 29), .int (nI dm)])), (a 25, .inl (cI, 1536, .inl d0)), (a 26, .inl (cI, 1536, .inl d1)), (a 27, .inl (cZ, 1536, .inl d2)), (a 28, .inl (cI, 384, .inl v))]) := by
  refine wri_of2 (by decide) (Nat.le_of_ble_eq_true rfl) ?_
  intro p e s m below meth c A ls H locs hC hK hP hD hA hS hl
  obtain ⟨hx, hb, hr, hml, hown, hts, hlocks, hin⟩ := hC
  have hown : s.vm.findClass RX11 = some m.cls := hown
  have hl : lv_has ls 5 [(0, .ref (a 0)), (1, .int n1), (2, .int n2), (3, .int n3)] := hl
  refine lv_aload_n hx hb dX11_joined_0 rfl (lv_at hl 0 rfl) ?_
  refine va_get (D := D) (ci := 11) (v := .ref (a 6)) (C := RX11) (T := TX11) (N := 13) hx hb hts inT_X11 hown hK.1 hP 0 rfl rfl 5 (by decide) (hts _ k_488) (fun _ h9 => h9) rfl dX11_joined_1 ?_
  refine lv_iload_n hx hb dX11_joined_4 rfl (lv_at hl 1 rfl) ?_
  refine lv_iload_n hx hb dX11_joined_5 rfl (lv_at hl 2 rfl) ?_
  refine eRi (va_runV (As := [.int n1, .int n2]) (rest := []) ⟨hx, hb, hml, hown, hts⟩ (c_X0_areTwo l D cI cB cZ cJ tx a dm n1 n2 (lf_X11_joined_1 a ap dm d0 d1 d2 d3 n1 n2 n3 hdm) H.size) (zV hts k_942 v_X0_areTwo ⟨Nat.le_of_ble_eq_true rfl, Nat.le_of_ble_eq_true rfl⟩) (pV (px1 hK hP 1 rfl) hK hP 1 rfl rfl) rfl rfl hl.1 rfl (lv_room (Nat.le_of_ble_eq_true rfl)) dX11_joined_6 ⟨Nat.le_of_ble_eq_true rfl, Nat.le_of_ble_eq_true rfl⟩) hP hS hA (fun r_2 H locs wr_2 hP hS => ?_)
  rcases wr_2 with rfl | ⟨ff2, gg2, hff2, hgg2, rfl, rfl, rfl⟩
  · refine lv_if_eq (tgt := 21) hx hb dX11_joined_9 (by decide) (fun _ => ?_) (fun c => absurd c (by decide))
    refine lv_ldc (v := (-1000000)) hx hb hown (hts _ k_946) dX11_joined_21 ?_
    exact W.iret (v := (-1000000)) hx hb hr (fun tt9 ht hW => ⟨⟨((-1000000) : Int32), ((d3 : Nat → Int32)), rfl, trivial, ⟨by rw [ht]; exact hP, hD⟩⟩, hS.F ht⟩) hS.2.2 dX11_joined_23 hlocks
  · refine lv_if_eq (tgt := 21) hx hb dX11_joined_9 (by decide) (fun c => absurd c (by decide)) (fun _ => ?_)
    refine lv_iload_n hx hb dX11_joined_12 rfl (lv_at hl 3 rfl) ?_
    refine lv_iconst (v := 0) hx hb dX11_joined_13 (by decide) ?_
    refine lv_iconst (v := 4) hx hb dX11_joined_14 (by decide) ?_
    refine eRi (va_runS (As := [.int n3, .int 0, .int 4]) (rest := []) ⟨hx, hb, hml, hown, hts⟩ (c_X11_within l D cI cB cZ cJ tx n3 0 4 H.size) (zS hts k_527 v_X11_within ⟨Nat.le_of_ble_eq_true rfl, Nat.le_of_ble_eq_true rfl⟩) (px0 hK) rfl rfl hl.1 rfl (lv_room (Nat.le_of_ble_eq_true rfl)) dX11_joined_15 ⟨Nat.le_of_ble_eq_true rfl, Nat.le_of_ble_eq_true rfl⟩) hP hS hA (fun r_3 H locs wr_3 hP hS => ?_)
    subst wr_3
    refine lv_bi_ne (tgt := 24) hx hb dX11_joined_18 (by decide) (fun c_4 => ?_) (fun c_4 => ?_)
    · obtain ⟨tn3, tn3a, tn3b, tn3e⟩ := of_rng 0 4 rfl rfl c_4
      subst tn3e
      refine lv_aload_n hx hb dX11_joined_24 rfl (lv_at hl 0 rfl) ?_
      refine va_get (D := D) (ci := 11) (v := .ref (a 6)) (C := RX11) (T := TX11) (N := 13) hx hb hts inT_X11 hown hK.1 hP 0 rfl rfl 5 (by decide) (hts _ k_488) (fun _ h9 => h9) rfl dX11_joined_25 ?_
      refine lv_iload_n hx hb dX11_joined_28 rfl (lv_at hl 1 rfl) ?_
      refine lv_iload_n hx hb dX11_joined_29 rfl (lv_at hl 2 rfl) ?_
      refine eWi (wr := [(a 0, .inr (11, [.ref (a 1), .ref (a 2), .ref (a 3), .ref (a 4), .ref (a 5), .ref (a 6), .ref (a 7), .ref (a 8), .ref (a 9), .ref (a 10), .ref (a 11), .ref (a 12), .int ap]))]) (va_runV (As := [.int (nI ff2), .int (nI gg2)]) (rest := []) ⟨hx, hb, hml, hown, hts⟩ (c_X0_common l D cI cB cZ cJ tx a dm d0 d1 d2 d3 ff2 gg2 (lf_X11_joined_5 a ap dm d0 d1 d2 d3 (nI ff2) (nI gg2) (nI tn3) hdm ff2 gg2 hff2 hgg2 c_4 tn3 tn3a tn3b rfl) (lf_X11_joined_6 a ap dm d0 d1 d2 d3 (nI ff2) (nI gg2) (nI tn3) hdm ff2 gg2 hff2 hgg2 c_4 tn3 tn3a tn3b rfl) (lf_X11_joined_7 a ap dm d0 d1 d2 d3 (nI ff2) (nI gg2) (nI tn3) hdm ff2 gg2 hff2 hgg2 c_4 tn3 tn3a tn3b rfl) H.size) (zV hts k_947 v_X0_common ⟨Nat.le_of_ble_eq_true rfl, Nat.le_of_ble_eq_true rfl⟩) (pV (pxS hK hP hD [1, 2, 3, 4, 5] (by decide) rfl) hK hP 1 rfl rfl) rfl rfl hl.1 rfl (lv_room (Nat.le_of_ble_eq_true rfl)) dX11_joined_30 ⟨Nat.le_of_ble_eq_true rfl, Nat.le_of_ble_eq_true rfl⟩) hP hD hS hA [1, 2, 3, 4, 5] [0] rfl rfl (by decide) (by decide) (fun r_8 u_9 H locs wr_8 hP hD hS => ?_)
      obtain ⟨d3_9, rfl⟩ : ∃ z, z = u_9 := ⟨_, rfl⟩
      have hP : va_P D vwCl [(a 0, .inr (11, [.ref (a 1), .ref (a 2), .ref (a 3), .ref (a 4), .ref (a 5), .ref (a 6), .ref (a 7), .ref (a 8), .ref (a 9), .ref (a 10), .ref (a 11), .ref (a 12), .int ap])), (a 6, .inr (0, [.ref (a 5), .ref (a 25), .ref (a 26), .ref (a 27), .ref (a 28), .ref (a 29), .int (nI dm)])), (a 25, .inl (cI, 1536, .inl d0)), (a 26, .inl (cI, 1536, .inl d1)), (a 27, .inl (cZ, 1536, .inl d2)), (a 28, .inl (cI, 384, .inl d3_9))] H := hP
      have hD : va_D A [(a 0, .inr (11, [.ref (a 1), .ref (a 2), .ref (a 3), .ref (a 4), .ref (a 5), .ref (a 6), .ref (a 7), .ref (a 8), .ref (a 9), .ref (a 10), .ref (a 11), .ref (a 12), .int ap])), (a 6, .inr (0, [.ref (a 5), .ref (a 25), .ref (a 26), .ref (a 27), .ref (a 28), .ref (a 29), .int (nI dm)])), (a 25, .inl (cI, 1536, .inl d0)), (a 26, .inl (cI, 1536, .inl d1)), (a 27, .inl (cZ, 1536, .inl d2)), (a 28, .inl (cI, 384, .inl d3_9))] := hD
      rcases wr_8 with ⟨mm_10, hmm_10, rfl⟩
      · refine lv_istore (lv' := [(4, .int (nI mm_10)), (0, .ref (a 0)), (1, .int (nI ff2)), (2, .int (nI gg2)), (3, .int (nI tn3))]) hx hb dX11_joined_33 hl (by decide) rfl (fun ls hl => ?_)
        refine lv_iload_n hx hb dX11_joined_35 rfl (lv_at hl 4 rfl) ?_
        refine lv_iconst (v := 2) hx hb dX11_joined_36 (by decide) ?_
        refine lv_icmp_ne (tgt := 43) hx hb dX11_joined_37 (by decide) (fun c_11 => ?_) (fun c_11 => ?_)
        · have n_12 : tn3 ≠ 2 := (lf_X11_joined_13 a ap dm d0 d1 d2 d3 (nI ff2) (nI gg2) (nI tn3) hdm ff2 gg2 hff2 hgg2 c_4 tn3 tn3a tn3b rfl d3_9 mm_10 hmm_10 c_11)
          refine lv_iload hx hb dX11_joined_43 (lv_at hl 0 rfl) ?_
          refine lv_if_ne (tgt := 51) hx hb dX11_joined_45 (by decide) (fun c_14 => ?_) (fun c_14 => ?_)
          · have n_15 : mm_10 ≠ 0 := (lf_X11_joined_16 a ap dm d0 d1 d2 d3 (nI ff2) (nI gg2) (nI tn3) hdm ff2 gg2 hff2 hgg2 c_4 tn3 tn3a tn3b rfl d3_9 mm_10 hmm_10 c_11 n_12 c_14)
            refine lv_iload_n hx hb dX11_joined_51 rfl (lv_at hl 4 rfl) ?_
            refine lv_iconst (v := 2) hx hb dX11_joined_52 (by decide) ?_
            refine lv_icmp_ge (tgt := 67) hx hb dX11_joined_53 (by decide) (fun c_17 => ?_) (fun c_17 => ?_)
            · have n_18 : 2 ≤ tn3 := (lf_X11_joined_19 a ap dm d0 d1 d2 d3 (nI ff2) (nI gg2) (nI tn3) hdm ff2 gg2 hff2 hgg2 c_4 tn3 tn3a tn3b rfl d3_9 mm_10 hmm_10 c_11 n_12 c_14 n_15 c_17)
              refine lv_aload_n hx hb dX11_joined_67 rfl (lv_at hl 1 rfl) ?_
              refine va_get (D := D) (ci := 11) (v := .ref (a 6)) (C := RX11) (T := TX11) (N := 13) hx hb hts inT_X11 hown hK.1 hP 0 rfl rfl 5 (by decide) (hts _ k_488) (fun _ h9 => h9) rfl dX11_joined_68 ?_
              refine lv_iload_n hx hb dX11_joined_71 rfl (lv_at hl 2 rfl) ?_
              refine lv_iload_n hx hb dX11_joined_72 rfl (lv_at hl 3 rfl) ?_
              refine lv_iload_n hx hb dX11_joined_73 rfl (lv_at hl 4 rfl) ?_
              refine lv_iconst (v := 3) hx hb dX11_joined_74 (by decide) ?_
              refine lv_isub hx hb dX11_joined_75 ?_
              refine lv_topi (fun x_20 ex_20 => ?_)
              refine eWi (wr := [(a 0, .inr (11, [.ref (a 1), .ref (a 2), .ref (a 3), .ref (a 4), .ref (a 5), .ref (a 6), .ref (a 7), .ref (a 8), .ref (a 9), .ref (a 10), .ref (a 11), .ref (a 12), .int ap]))]) (va_runV (As := [.int (nI ff2), .int (nI gg2), .int x_20]) (rest := []) ⟨hx, hb, hml, hown, hts⟩ (c_X0_rest l D cI cB cZ cJ tx a dm d0 d1 d2 d3_9 ff2 gg2 x_20 (lf_X11_joined_21 a ap dm d0 d1 d2 d3 (nI ff2) (nI gg2) (nI tn3) hdm ff2 gg2 hff2 hgg2 c_4 tn3 tn3a tn3b rfl d3_9 mm_10 hmm_10 c_11 n_12 c_14 n_15 c_17 n_18 x_20 ex_20) (lf_X11_joined_22 a ap dm d0 d1 d2 d3 (nI ff2) (nI gg2) (nI tn3) hdm ff2 gg2 hff2 hgg2 c_4 tn3 tn3a tn3b rfl d3_9 mm_10 hmm_10 c_11 n_12 c_14 n_15 c_17 n_18 x_20 ex_20) (lf_X11_joined_23 a ap dm d0 d1 d2 d3 (nI ff2) (nI gg2) (nI tn3) hdm ff2 gg2 hff2 hgg2 c_4 tn3 tn3a tn3b rfl d3_9 mm_10 hmm_10 c_11 n_12 c_14 n_15 c_17 n_18 x_20 ex_20) H.size) (zV hts k_966 v_X0_rest ⟨Nat.le_of_ble_eq_true rfl, Nat.le_of_ble_eq_true rfl⟩) (pV (pxS hK hP hD [1, 2, 3, 4, 5] (by decide) rfl) hK hP 1 rfl rfl) rfl rfl hl.1 rfl (lv_room (Nat.le_of_ble_eq_true rfl)) dX11_joined_76 ⟨Nat.le_of_ble_eq_true rfl, Nat.le_of_ble_eq_true rfl⟩) hP hD hS hA [1, 2, 3, 4, 5] [0] rfl rfl (by decide) (by decide) (fun r_24 u_25 H locs wr_24 hP hD hS => ?_)
              obtain ⟨d3_25, rfl⟩ : ∃ z, z = u_25 := ⟨_, rfl⟩
              have hP : va_P D vwCl [(a 0, .inr (11, [.ref (a 1), .ref (a 2), .ref (a 3), .ref (a 4), .ref (a 5), .ref (a 6), .ref (a 7), .ref (a 8), .ref (a 9), .ref (a 10), .ref (a 11), .ref (a 12), .int ap])), (a 6, .inr (0, [.ref (a 5), .ref (a 25), .ref (a 26), .ref (a 27), .ref (a 28), .ref (a 29), .int (nI dm)])), (a 25, .inl (cI, 1536, .inl d0)), (a 26, .inl (cI, 1536, .inl d1)), (a 27, .inl (cZ, 1536, .inl d2)), (a 28, .inl (cI, 384, .inl d3_25))] H := hP
              have hD : va_D A [(a 0, .inr (11, [.ref (a 1), .ref (a 2), .ref (a 3), .ref (a 4), .ref (a 5), .ref (a 6), .ref (a 7), .ref (a 8), .ref (a 9), .ref (a 10), .ref (a 11), .ref (a 12), .int ap])), (a 6, .inr (0, [.ref (a 5), .ref (a 25), .ref (a 26), .ref (a 27), .ref (a 28), .ref (a 29), .int (nI dm)])), (a 25, .inl (cI, 1536, .inl d0)), (a 26, .inl (cI, 1536, .inl d1)), (a 27, .inl (cZ, 1536, .inl d2)), (a 28, .inl (cI, 384, .inl d3_25))] := hD
              exact W.iret (v := r_24) hx hb hr (fun tt9 ht hW => ⟨⟨(r_24 : Int32), ((d3_25 : Nat → Int32)), rfl, trivial, ⟨by rw [ht]; exact hP, hD⟩⟩, hS.F ht⟩) hS.2.2 dX11_joined_79 hlocks
            · have n_26 : tn3 < 2 := (lf_X11_joined_27 a ap dm d0 d1 d2 d3 (nI ff2) (nI gg2) (nI tn3) hdm ff2 gg2 hff2 hgg2 c_4 tn3 tn3a tn3b rfl d3_9 mm_10 hmm_10 c_11 n_12 c_14 n_15 c_17)
              refine lv_aload_n hx hb dX11_joined_56 rfl (lv_at hl 1 rfl) ?_
              refine va_get (D := D) (ci := 11) (v := .ref (a 6)) (C := RX11) (T := TX11) (N := 13) hx hb hts inT_X11 hown hK.1 hP 0 rfl rfl 5 (by decide) (hts _ k_488) (fun _ h9 => h9) rfl dX11_joined_57 ?_
              refine lv_iload_n hx hb dX11_joined_60 rfl (lv_at hl 2 rfl) ?_
              refine lv_iload_n hx hb dX11_joined_61 rfl (lv_at hl 3 rfl) ?_
              refine lv_iload_n hx hb dX11_joined_62 rfl (lv_at hl 4 rfl) ?_
              refine eWi (wr := [(a 0, .inr (11, [.ref (a 1), .ref (a 2), .ref (a 3), .ref (a 4), .ref (a 5), .ref (a 6), .ref (a 7), .ref (a 8), .ref (a 9), .ref (a 10), .ref (a 11), .ref (a 12), .int ap]))]) (va_runV (As := [.int (nI ff2), .int (nI gg2), .int (nI tn3)]) (rest := []) ⟨hx, hb, hml, hown, hts⟩ (c_X0_shift l D cI cB cZ cJ tx a dm d0 d1 d2 d3_9 ff2 gg2 (nI tn3) (lf_X11_joined_28 a ap dm d0 d1 d2 d3 (nI ff2) (nI gg2) (nI tn3) hdm ff2 gg2 hff2 hgg2 c_4 tn3 tn3a tn3b rfl d3_9 mm_10 hmm_10 c_11 n_12 c_14 n_15 c_17 n_26) (lf_X11_joined_29 a ap dm d0 d1 d2 d3 (nI ff2) (nI gg2) (nI tn3) hdm ff2 gg2 hff2 hgg2 c_4 tn3 tn3a tn3b rfl d3_9 mm_10 hmm_10 c_11 n_12 c_14 n_15 c_17 n_26) (lf_X11_joined_30 a ap dm d0 d1 d2 d3 (nI ff2) (nI gg2) (nI tn3) hdm ff2 gg2 hff2 hgg2 c_4 tn3 tn3a tn3b rfl d3_9 mm_10 hmm_10 c_11 n_12 c_14 n_15 c_17 n_26) H.size) (zV hts k_956 v_X0_shift ⟨Nat.le_of_ble_eq_true rfl, Nat.le_of_ble_eq_true rfl⟩) (pV (pxS hK hP hD [1, 2, 3, 4, 5] (by decide) rfl) hK hP 1 rfl rfl) rfl rfl hl.1 rfl (lv_room (Nat.le_of_ble_eq_true rfl)) dX11_joined_63 ⟨Nat.le_of_ble_eq_true rfl, Nat.le_of_ble_eq_true rfl⟩) hP hD hS hA [1, 2, 3, 4, 5] [0] rfl rfl (by decide) (by decide) (fun r_31 u_32 H locs wr_31 hP hD hS => ?_)
              obtain ⟨d3_32, rfl⟩ : ∃ z, z = u_32 := ⟨_, rfl⟩
              have hP : va_P D vwCl [(a 0, .inr (11, [.ref (a 1), .ref (a 2), .ref (a 3), .ref (a 4), .ref (a 5), .ref (a 6), .ref (a 7), .ref (a 8), .ref (a 9), .ref (a 10), .ref (a 11), .ref (a 12), .int ap])), (a 6, .inr (0, [.ref (a 5), .ref (a 25), .ref (a 26), .ref (a 27), .ref (a 28), .ref (a 29), .int (nI dm)])), (a 25, .inl (cI, 1536, .inl d0)), (a 26, .inl (cI, 1536, .inl d1)), (a 27, .inl (cZ, 1536, .inl d2)), (a 28, .inl (cI, 384, .inl d3_32))] H := hP
              have hD : va_D A [(a 0, .inr (11, [.ref (a 1), .ref (a 2), .ref (a 3), .ref (a 4), .ref (a 5), .ref (a 6), .ref (a 7), .ref (a 8), .ref (a 9), .ref (a 10), .ref (a 11), .ref (a 12), .int ap])), (a 6, .inr (0, [.ref (a 5), .ref (a 25), .ref (a 26), .ref (a 27), .ref (a 28), .ref (a 29), .int (nI dm)])), (a 25, .inl (cI, 1536, .inl d0)), (a 26, .inl (cI, 1536, .inl d1)), (a 27, .inl (cZ, 1536, .inl d2)), (a 28, .inl (cI, 384, .inl d3_32))] := hD
              exact W.iret (v := r_31) hx hb hr (fun tt9 ht hW => ⟨⟨(r_31 : Int32), ((d3_32 : Nat → Int32)), rfl, trivial, ⟨by rw [ht]; exact hP, hD⟩⟩, hS.F ht⟩) hS.2.2 dX11_joined_66 hlocks
          · have n_33 : mm_10 = 0 := (lf_X11_joined_34 a ap dm d0 d1 d2 d3 (nI ff2) (nI gg2) (nI tn3) hdm ff2 gg2 hff2 hgg2 c_4 tn3 tn3a tn3b rfl d3_9 mm_10 hmm_10 c_11 n_12 c_14)
            refine lv_ldc (v := (-1000000)) hx hb hown (hts _ k_946) dX11_joined_48 ?_
            exact W.iret (v := (-1000000)) hx hb hr (fun tt9 ht hW => ⟨⟨((-1000000) : Int32), ((d3_9 : Nat → Int32)), rfl, trivial, ⟨by rw [ht]; exact hP, hD⟩⟩, hS.F ht⟩) hS.2.2 dX11_joined_50 hlocks
        · have n_35 : tn3 = 2 := (lf_X11_joined_36 a ap dm d0 d1 d2 d3 (nI ff2) (nI gg2) (nI tn3) hdm ff2 gg2 hff2 hgg2 c_4 tn3 tn3a tn3b rfl d3_9 mm_10 hmm_10 c_11)
          refine lv_iload hx hb dX11_joined_40 (lv_at hl 0 rfl) ?_
          exact W.iret (v := nI mm_10) hx hb hr (fun tt9 ht hW => ⟨⟨(nI mm_10 : Int32), ((d3_9 : Nat → Int32)), rfl, trivial, ⟨by rw [ht]; exact hP, hD⟩⟩, hS.F ht⟩) hS.2.2 dX11_joined_42 hlocks
    · refine lv_ldc (v := (-1000000)) hx hb hown (hts _ k_946) dX11_joined_21 ?_
      exact W.iret (v := (-1000000)) hx hb hr (fun tt9 ht hW => ⟨⟨((-1000000) : Int32), ((d3 : Nat → Int32)), rfl, trivial, ⟨by rw [ht]; exact hP, hD⟩⟩, hS.F ht⟩) hS.2.2 dX11_joined_23 hlocks

theorem lf_X11_off_1 (a : Nat → Nat) (ap : Int32) (dm : Nat) (d0 : Nat → Int32) (d1 : Nat → Int32) (d2 : Nat → Int32) (d3 : Nat → Int32) (d4 : Nat → Int32) (n1 : Int32) (n2 : Int32) (n3 : Int32) (hdm : dm ≤ 4) : dm ≤ 4 := by
  first | assumption | omega | decide
theorem lf_X11_off_5 (a : Nat → Nat) (ap : Int32) (dm : Nat) (d0 : Nat → Int32) (d1 : Nat → Int32) (d2 : Nat → Int32) (d3 : Nat → Int32) (d4 : Nat → Int32) (n1 : Int32) (n2 : Int32) (n3 : Int32) (hdm : dm ≤ 4) (ff2 : Nat) (gg2 : Nat) (hff2 : ff2 < dm) (hgg2 : gg2 < dm) (c_4 : (0 : Int32) ≤ n3 ∧ n3 ≤ 12000) (tn3 : Nat) (tn3a : 0 ≤ tn3) (tn3b : tn3 ≤ 12000) (tn3e : n3 = nI tn3) : dm ≤ 4 := by
  first | assumption | omega | decide
theorem lf_X11_off_6 (a : Nat → Nat) (ap : Int32) (dm : Nat) (d0 : Nat → Int32) (d1 : Nat → Int32) (d2 : Nat → Int32) (d3 : Nat → Int32) (d4 : Nat → Int32) (n1 : Int32) (n2 : Int32) (n3 : Int32) (hdm : dm ≤ 4) (ff2 : Nat) (gg2 : Nat) (hff2 : ff2 < dm) (hgg2 : gg2 < dm) (c_4 : (0 : Int32) ≤ n3 ∧ n3 ≤ 12000) (tn3 : Nat) (tn3a : 0 ≤ tn3) (tn3b : tn3 ≤ 12000) (tn3e : n3 = nI tn3) : ff2 < dm := by
  first | assumption | omega | decide
theorem lf_X11_off_7 (a : Nat → Nat) (ap : Int32) (dm : Nat) (d0 : Nat → Int32) (d1 : Nat → Int32) (d2 : Nat → Int32) (d3 : Nat → Int32) (d4 : Nat → Int32) (n1 : Int32) (n2 : Int32) (n3 : Int32) (hdm : dm ≤ 4) (ff2 : Nat) (gg2 : Nat) (hff2 : ff2 < dm) (hgg2 : gg2 < dm) (c_4 : (0 : Int32) ≤ n3 ∧ n3 ≤ 12000) (tn3 : Nat) (tn3a : 0 ≤ tn3) (tn3b : tn3 ≤ 12000) (tn3e : n3 = nI tn3) : gg2 < dm := by
  first | assumption | omega | decide
theorem lf_X11_off_13 (a : Nat → Nat) (ap : Int32) (dm : Nat) (d0 : Nat → Int32) (d1 : Nat → Int32) (d2 : Nat → Int32) (d3 : Nat → Int32) (d4 : Nat → Int32) (n1 : Int32) (n2 : Int32) (n3 : Int32) (hdm : dm ≤ 4) (ff2 : Nat) (gg2 : Nat) (hff2 : ff2 < dm) (hgg2 : gg2 < dm) (c_4 : (0 : Int32) ≤ n3 ∧ n3 ≤ 12000) (tn3 : Nat) (tn3a : 0 ≤ tn3) (tn3b : tn3 ≤ 12000) (tn3e : n3 = nI tn3) (d3_9 : Nat → Int32) (mm_10 : Nat) (hmm_10 : mm_10 ≤ 384) (c_11 : ¬ nI mm_10 = 0) : mm_10 ≠ 0 := by
  exact fun q => c_11 ((nI_eq (a := mm_10) (b := 0) (by omega) (by omega)).mpr q)
theorem lf_X11_off_14 (a : Nat → Nat) (ap : Int32) (dm : Nat) (d0 : Nat → Int32) (d1 : Nat → Int32) (d2 : Nat → Int32) (d3 : Nat → Int32) (d4 : Nat → Int32) (n1 : Int32) (n2 : Int32) (n3 : Int32) (hdm : dm ≤ 4) (ff2 : Nat) (gg2 : Nat) (hff2 : ff2 < dm) (hgg2 : gg2 < dm) (c_4 : (0 : Int32) ≤ n3 ∧ n3 ≤ 12000) (tn3 : Nat) (tn3a : 0 ≤ tn3) (tn3b : tn3 ≤ 12000) (tn3e : n3 = nI tn3) (d3_9 : Nat → Int32) (mm_10 : Nat) (hmm_10 : mm_10 ≤ 384) (c_11 : ¬ nI mm_10 = 0) (n_12 : mm_10 ≠ 0) : dm ≤ 4 := by
  first | assumption | omega | decide
theorem lf_X11_off_15 (a : Nat → Nat) (ap : Int32) (dm : Nat) (d0 : Nat → Int32) (d1 : Nat → Int32) (d2 : Nat → Int32) (d3 : Nat → Int32) (d4 : Nat → Int32) (n1 : Int32) (n2 : Int32) (n3 : Int32) (hdm : dm ≤ 4) (ff2 : Nat) (gg2 : Nat) (hff2 : ff2 < dm) (hgg2 : gg2 < dm) (c_4 : (0 : Int32) ≤ n3 ∧ n3 ≤ 12000) (tn3 : Nat) (tn3a : 0 ≤ tn3) (tn3b : tn3 ≤ 12000) (tn3e : n3 = nI tn3) (d3_9 : Nat → Int32) (mm_10 : Nat) (hmm_10 : mm_10 ≤ 384) (c_11 : ¬ nI mm_10 = 0) (n_12 : mm_10 ≠ 0) : ff2 < dm := by
  first | assumption | omega | decide
theorem lf_X11_off_16 (a : Nat → Nat) (ap : Int32) (dm : Nat) (d0 : Nat → Int32) (d1 : Nat → Int32) (d2 : Nat → Int32) (d3 : Nat → Int32) (d4 : Nat → Int32) (n1 : Int32) (n2 : Int32) (n3 : Int32) (hdm : dm ≤ 4) (ff2 : Nat) (gg2 : Nat) (hff2 : ff2 < dm) (hgg2 : gg2 < dm) (c_4 : (0 : Int32) ≤ n3 ∧ n3 ≤ 12000) (tn3 : Nat) (tn3a : 0 ≤ tn3) (tn3b : tn3 ≤ 12000) (tn3e : n3 = nI tn3) (d3_9 : Nat → Int32) (mm_10 : Nat) (hmm_10 : mm_10 ≤ 384) (c_11 : ¬ nI mm_10 = 0) (n_12 : mm_10 ≠ 0) : gg2 < dm := by
  first | assumption | omega | decide
theorem lf_X11_off_20 (a : Nat → Nat) (ap : Int32) (dm : Nat) (d0 : Nat → Int32) (d1 : Nat → Int32) (d2 : Nat → Int32) (d3 : Nat → Int32) (d4 : Nat → Int32) (n1 : Int32) (n2 : Int32) (n3 : Int32) (hdm : dm ≤ 4) (ff2 : Nat) (gg2 : Nat) (hff2 : ff2 < dm) (hgg2 : gg2 < dm) (c_4 : (0 : Int32) ≤ n3 ∧ n3 ≤ 12000) (tn3 : Nat) (tn3a : 0 ≤ tn3) (tn3b : tn3 ≤ 12000) (tn3e : n3 = nI tn3) (d3_9 : Nat → Int32) (mm_10 : Nat) (hmm_10 : mm_10 ≤ 384) (c_11 : nI mm_10 = 0) : mm_10 = 0 := by
  exact (nI_eq (a := mm_10) (b := 0) (by omega) (by omega)).mp c_11
set_option maxHeartbeats 4000000 in
set_option maxRecDepth 100000 in
theorem c_X11_off (l : Launch) (D : va_G) (cI cB cZ cJ : ClassId) (tx : List (ClassId × FieldType)) (a : Nat → Nat) (ap : Int32) (dm : Nat) (d0 : Nat → Int32) (d1 : Nat → Int32) (d2 : Nat → Int32) (d3 : Nat → Int32) (d4 : Nat → Int32) (n1 : Int32) (n2 : Int32) (n3 : Int32) (hdm : dm ≤ 4) : WrI l D cI cB cZ cJ tx yX11_off cX11_off 4 (some .int) 5 0 0 [.ref (a 0), .int n1, .int n2, .int n3] [(a 0, .inr (11, [.ref (a 1), .ref (a 2), .ref (a 3), .ref (a 4), .ref (a 5), .ref (a 6), .ref (a 7), .ref (a 8), .ref (a 9), .ref (a 10), .ref (a 11), .ref (a 12), .int ap])), (a 6, .inr (0, [.ref (a 5), .ref (a 25), .ref (a 26), .ref (a 27), .ref (a 28), .ref (a 29), .int (nI dm)])), (a 25, .inl (cI, 1536, .inl d0)), (a 26, .inl (cI, 1536, .inl d1)), (a 27, .inl (cZ, 1536, .inl d2)), (a 28, .inl (cI, 384, .inl d3)), (a 29, .inl (cI, 384, .inl d4))] (fun (r : Int32) (v : (Nat → Int32) × (Nat → Int32)) => True) (fun v => [(a 0, .inr (11, [.ref (a 1), .ref (a 2), .ref (a 3), .ref (a 4), .ref (a 5), .ref (a 6), .ref (a 7), .ref (a 8), .ref (a 9), .ref (a 10), .ref (a 11), .ref (a 12), .int ap])), (a 6, .inr (0, [.ref (a 5), .ref (a 25), .ref (a 26), .ref (a 27), .ref (a 28), .ref (a 29), .int (nI dm)])), (a 25, .inl (cI, 1536, .inl d0)), (a 26, .inl (cI, 1536, .inl d1)), (a 27, .inl (cZ, 1536, .inl d2)), (a 28, .inl (cI, 384, .inl v.1)), (a 29, .inl (cI, 384, .inl v.2))]) := by
  refine wri_of2 (by decide) (Nat.le_of_ble_eq_true rfl) ?_
  intro p e s m below meth c A ls H locs hC hK hP hD hA hS hl
  obtain ⟨hx, hb, hr, hml, hown, hts, hlocks, hin⟩ := hC
  have hown : s.vm.findClass RX11 = some m.cls := hown
  have hl : lv_has ls 4 [(0, .ref (a 0)), (1, .int n1), (2, .int n2), (3, .int n3)] := hl
  refine lv_aload_n hx hb dX11_off_0 rfl (lv_at hl 0 rfl) ?_
  refine va_get (D := D) (ci := 11) (v := .ref (a 6)) (C := RX11) (T := TX11) (N := 13) hx hb hts inT_X11 hown hK.1 hP 0 rfl rfl 5 (by decide) (hts _ k_488) (fun _ h9 => h9) rfl dX11_off_1 ?_
  refine lv_iload_n hx hb dX11_off_4 rfl (lv_at hl 1 rfl) ?_
  refine lv_iload_n hx hb dX11_off_5 rfl (lv_at hl 2 rfl) ?_
  refine eRi (va_runV (As := [.int n1, .int n2]) (rest := []) ⟨hx, hb, hml, hown, hts⟩ (c_X0_areTwo l D cI cB cZ cJ tx a dm n1 n2 (lf_X11_off_1 a ap dm d0 d1 d2 d3 d4 n1 n2 n3 hdm) H.size) (zV hts k_942 v_X0_areTwo ⟨Nat.le_of_ble_eq_true rfl, Nat.le_of_ble_eq_true rfl⟩) (pV (px1 hK hP 1 rfl) hK hP 1 rfl rfl) rfl rfl hl.1 rfl (lv_room (Nat.le_of_ble_eq_true rfl)) dX11_off_6 ⟨Nat.le_of_ble_eq_true rfl, Nat.le_of_ble_eq_true rfl⟩) hP hS hA (fun r_2 H locs wr_2 hP hS => ?_)
  rcases wr_2 with rfl | ⟨ff2, gg2, hff2, hgg2, rfl, rfl, rfl⟩
  · refine lv_if_eq (tgt := 35) hx hb dX11_off_9 (by decide) (fun _ => ?_) (fun c => absurd c (by decide))
    refine lv_iconst (v := (-1)) hx hb dX11_off_35 (by decide) ?_
    exact W.iret (v := (-1)) hx hb hr (fun tt9 ht hW => ⟨⟨((-1) : Int32), ((d3 : Nat → Int32), (d4 : Nat → Int32)), rfl, trivial, ⟨by rw [ht]; exact hP, hD⟩⟩, hS.F ht⟩) hS.2.2 dX11_off_36 hlocks
  · refine lv_if_eq (tgt := 35) hx hb dX11_off_9 (by decide) (fun c => absurd c (by decide)) (fun _ => ?_)
    refine lv_iload_n hx hb dX11_off_12 rfl (lv_at hl 3 rfl) ?_
    refine lv_iconst (v := 0) hx hb dX11_off_13 (by decide) ?_
    refine lv_sipush (v := 12000) hx hb dX11_off_14 (by decide) ?_
    refine eRi (va_runS (As := [.int n3, .int 0, .int 12000]) (rest := []) ⟨hx, hb, hml, hown, hts⟩ (c_X11_within l D cI cB cZ cJ tx n3 0 12000 H.size) (zS hts k_527 v_X11_within ⟨Nat.le_of_ble_eq_true rfl, Nat.le_of_ble_eq_true rfl⟩) (px0 hK) rfl rfl hl.1 rfl (lv_room (Nat.le_of_ble_eq_true rfl)) dX11_off_17 ⟨Nat.le_of_ble_eq_true rfl, Nat.le_of_ble_eq_true rfl⟩) hP hS hA (fun r_3 H locs wr_3 hP hS => ?_)
    subst wr_3
    refine lv_bi_eq (tgt := 35) hx hb dX11_off_20 (by decide) (fun c_4 => ?_) (fun c_4 => ?_)
    · refine lv_iconst (v := (-1)) hx hb dX11_off_35 (by decide) ?_
      exact W.iret (v := (-1)) hx hb hr (fun tt9 ht hW => ⟨⟨((-1) : Int32), ((d3 : Nat → Int32), (d4 : Nat → Int32)), rfl, trivial, ⟨by rw [ht]; exact hP, hD⟩⟩, hS.F ht⟩) hS.2.2 dX11_off_36 hlocks
    · obtain ⟨tn3, tn3a, tn3b, tn3e⟩ := of_rng 0 12000 rfl rfl c_4
      subst tn3e
      refine lv_aload_n hx hb dX11_off_23 rfl (lv_at hl 0 rfl) ?_
      refine va_get (D := D) (ci := 11) (v := .ref (a 6)) (C := RX11) (T := TX11) (N := 13) hx hb hts inT_X11 hown hK.1 hP 0 rfl rfl 5 (by decide) (hts _ k_488) (fun _ h9 => h9) rfl dX11_off_24 ?_
      refine lv_iload_n hx hb dX11_off_27 rfl (lv_at hl 1 rfl) ?_
      refine lv_iload_n hx hb dX11_off_28 rfl (lv_at hl 2 rfl) ?_
      refine eWi (wr := [(a 0, .inr (11, [.ref (a 1), .ref (a 2), .ref (a 3), .ref (a 4), .ref (a 5), .ref (a 6), .ref (a 7), .ref (a 8), .ref (a 9), .ref (a 10), .ref (a 11), .ref (a 12), .int ap])), (a 29, .inl (cI, 384, .inl d4))]) (va_runV (As := [.int (nI ff2), .int (nI gg2)]) (rest := []) ⟨hx, hb, hml, hown, hts⟩ (c_X0_common l D cI cB cZ cJ tx a dm d0 d1 d2 d3 ff2 gg2 (lf_X11_off_5 a ap dm d0 d1 d2 d3 d4 (nI ff2) (nI gg2) (nI tn3) hdm ff2 gg2 hff2 hgg2 c_4 tn3 tn3a tn3b rfl) (lf_X11_off_6 a ap dm d0 d1 d2 d3 d4 (nI ff2) (nI gg2) (nI tn3) hdm ff2 gg2 hff2 hgg2 c_4 tn3 tn3a tn3b rfl) (lf_X11_off_7 a ap dm d0 d1 d2 d3 d4 (nI ff2) (nI gg2) (nI tn3) hdm ff2 gg2 hff2 hgg2 c_4 tn3 tn3a tn3b rfl) H.size) (zV hts k_947 v_X0_common ⟨Nat.le_of_ble_eq_true rfl, Nat.le_of_ble_eq_true rfl⟩) (pV (pxS hK hP hD [1, 2, 3, 4, 5] (by decide) rfl) hK hP 1 rfl rfl) rfl rfl hl.1 rfl (lv_room (Nat.le_of_ble_eq_true rfl)) dX11_off_29 ⟨Nat.le_of_ble_eq_true rfl, Nat.le_of_ble_eq_true rfl⟩) hP hD hS hA [1, 2, 3, 4, 5] [0, 6] rfl rfl (by decide) (by decide) (fun r_8 u_9 H locs wr_8 hP hD hS => ?_)
      obtain ⟨d3_9, rfl⟩ : ∃ z, z = u_9 := ⟨_, rfl⟩
      have hP : va_P D vwCl [(a 0, .inr (11, [.ref (a 1), .ref (a 2), .ref (a 3), .ref (a 4), .ref (a 5), .ref (a 6), .ref (a 7), .ref (a 8), .ref (a 9), .ref (a 10), .ref (a 11), .ref (a 12), .int ap])), (a 29, .inl (cI, 384, .inl d4)), (a 6, .inr (0, [.ref (a 5), .ref (a 25), .ref (a 26), .ref (a 27), .ref (a 28), .ref (a 29), .int (nI dm)])), (a 25, .inl (cI, 1536, .inl d0)), (a 26, .inl (cI, 1536, .inl d1)), (a 27, .inl (cZ, 1536, .inl d2)), (a 28, .inl (cI, 384, .inl d3_9))] H := hP
      have hD : va_D A [(a 0, .inr (11, [.ref (a 1), .ref (a 2), .ref (a 3), .ref (a 4), .ref (a 5), .ref (a 6), .ref (a 7), .ref (a 8), .ref (a 9), .ref (a 10), .ref (a 11), .ref (a 12), .int ap])), (a 29, .inl (cI, 384, .inl d4)), (a 6, .inr (0, [.ref (a 5), .ref (a 25), .ref (a 26), .ref (a 27), .ref (a 28), .ref (a 29), .int (nI dm)])), (a 25, .inl (cI, 1536, .inl d0)), (a 26, .inl (cI, 1536, .inl d1)), (a 27, .inl (cZ, 1536, .inl d2)), (a 28, .inl (cI, 384, .inl d3_9))] := hD
      rcases wr_8 with ⟨mm_10, hmm_10, rfl⟩
      · refine lv_if_ne (tgt := 37) hx hb dX11_off_32 (by decide) (fun c_11 => ?_) (fun c_11 => ?_)
        · have n_12 : mm_10 ≠ 0 := (lf_X11_off_13 a ap dm d0 d1 d2 d3 d4 (nI ff2) (nI gg2) (nI tn3) hdm ff2 gg2 hff2 hgg2 c_4 tn3 tn3a tn3b rfl d3_9 mm_10 hmm_10 c_11)
          refine lv_aload_n hx hb dX11_off_37 rfl (lv_at hl 0 rfl) ?_
          refine va_get (D := D) (ci := 11) (v := .ref (a 6)) (C := RX11) (T := TX11) (N := 13) hx hb hts inT_X11 hown hK.1 hP 0 rfl rfl 5 (by decide) (hts _ k_488) (fun _ h9 => h9) rfl dX11_off_38 ?_
          refine lv_iload_n hx hb dX11_off_41 rfl (lv_at hl 1 rfl) ?_
          refine lv_iload_n hx hb dX11_off_42 rfl (lv_at hl 2 rfl) ?_
          refine lv_iload_n hx hb dX11_off_43 rfl (lv_at hl 3 rfl) ?_
          refine eWi (wr := [(a 0, .inr (11, [.ref (a 1), .ref (a 2), .ref (a 3), .ref (a 4), .ref (a 5), .ref (a 6), .ref (a 7), .ref (a 8), .ref (a 9), .ref (a 10), .ref (a 11), .ref (a 12), .int ap]))]) (va_runV (As := [.int (nI ff2), .int (nI gg2), .int (nI tn3)]) (rest := []) ⟨hx, hb, hml, hown, hts⟩ (c_X0_farther l D cI cB cZ cJ tx a dm d0 d1 d2 d3_9 d4 ff2 gg2 (nI tn3) (lf_X11_off_14 a ap dm d0 d1 d2 d3 d4 (nI ff2) (nI gg2) (nI tn3) hdm ff2 gg2 hff2 hgg2 c_4 tn3 tn3a tn3b rfl d3_9 mm_10 hmm_10 c_11 n_12) (lf_X11_off_15 a ap dm d0 d1 d2 d3 d4 (nI ff2) (nI gg2) (nI tn3) hdm ff2 gg2 hff2 hgg2 c_4 tn3 tn3a tn3b rfl d3_9 mm_10 hmm_10 c_11 n_12) (lf_X11_off_16 a ap dm d0 d1 d2 d3 d4 (nI ff2) (nI gg2) (nI tn3) hdm ff2 gg2 hff2 hgg2 c_4 tn3 tn3a tn3b rfl d3_9 mm_10 hmm_10 c_11 n_12) H.size) (zV hts k_977 v_X0_farther ⟨Nat.le_of_ble_eq_true rfl, Nat.le_of_ble_eq_true rfl⟩) (pV (pxS hK hP hD [2, 3, 4, 5, 6, 1] (by decide) rfl) hK hP 2 rfl rfl) rfl rfl hl.1 rfl (lv_room (Nat.le_of_ble_eq_true rfl)) dX11_off_44 ⟨Nat.le_of_ble_eq_true rfl, Nat.le_of_ble_eq_true rfl⟩) hP hD hS hA [2, 3, 4, 5, 6, 1] [0] rfl rfl (by decide) (by decide) (fun r_17 u_18 H locs wr_17 hP hD hS => ?_)
          obtain ⟨d3_18, d4_18⟩ := u_18
          have hP : va_P D vwCl [(a 0, .inr (11, [.ref (a 1), .ref (a 2), .ref (a 3), .ref (a 4), .ref (a 5), .ref (a 6), .ref (a 7), .ref (a 8), .ref (a 9), .ref (a 10), .ref (a 11), .ref (a 12), .int ap])), (a 6, .inr (0, [.ref (a 5), .ref (a 25), .ref (a 26), .ref (a 27), .ref (a 28), .ref (a 29), .int (nI dm)])), (a 25, .inl (cI, 1536, .inl d0)), (a 26, .inl (cI, 1536, .inl d1)), (a 27, .inl (cZ, 1536, .inl d2)), (a 28, .inl (cI, 384, .inl d3_18)), (a 29, .inl (cI, 384, .inl d4_18))] H := hP
          have hD : va_D A [(a 0, .inr (11, [.ref (a 1), .ref (a 2), .ref (a 3), .ref (a 4), .ref (a 5), .ref (a 6), .ref (a 7), .ref (a 8), .ref (a 9), .ref (a 10), .ref (a 11), .ref (a 12), .int ap])), (a 6, .inr (0, [.ref (a 5), .ref (a 25), .ref (a 26), .ref (a 27), .ref (a 28), .ref (a 29), .int (nI dm)])), (a 25, .inl (cI, 1536, .inl d0)), (a 26, .inl (cI, 1536, .inl d1)), (a 27, .inl (cZ, 1536, .inl d2)), (a 28, .inl (cI, 384, .inl d3_18)), (a 29, .inl (cI, 384, .inl d4_18))] := hD
          exact W.iret (v := r_17) hx hb hr (fun tt9 ht hW => ⟨⟨(r_17 : Int32), ((d3_18 : Nat → Int32), (d4_18 : Nat → Int32)), rfl, trivial, ⟨by rw [ht]; exact hP, hD⟩⟩, hS.F ht⟩) hS.2.2 dX11_off_47 hlocks
        · have n_19 : mm_10 = 0 := (lf_X11_off_20 a ap dm d0 d1 d2 d3 d4 (nI ff2) (nI gg2) (nI tn3) hdm ff2 gg2 hff2 hgg2 c_4 tn3 tn3a tn3b rfl d3_9 mm_10 hmm_10 c_11)
          refine lv_iconst (v := (-1)) hx hb dX11_off_35 (by decide) ?_
          have hP := hP.sub (ws' := [(a 0, .inr (11, [.ref (a 1), .ref (a 2), .ref (a 3), .ref (a 4), .ref (a 5), .ref (a 6), .ref (a 7), .ref (a 8), .ref (a 9), .ref (a 10), .ref (a 11), .ref (a 12), .int ap])), (a 6, .inr (0, [.ref (a 5), .ref (a 25), .ref (a 26), .ref (a 27), .ref (a 28), .ref (a 29), .int (nI dm)])), (a 25, .inl (cI, 1536, .inl d0)), (a 26, .inl (cI, 1536, .inl d1)), (a 27, .inl (cZ, 1536, .inl d2)), (a 28, .inl (cI, 384, .inl d3_9)), (a 29, .inl (cI, 384, .inl d4))]) [0, 2, 3, 4, 5, 6, 1] rfl
          have hD := hD.sub (ws' := [(a 0, .inr (11, [.ref (a 1), .ref (a 2), .ref (a 3), .ref (a 4), .ref (a 5), .ref (a 6), .ref (a 7), .ref (a 8), .ref (a 9), .ref (a 10), .ref (a 11), .ref (a 12), .int ap])), (a 6, .inr (0, [.ref (a 5), .ref (a 25), .ref (a 26), .ref (a 27), .ref (a 28), .ref (a 29), .int (nI dm)])), (a 25, .inl (cI, 1536, .inl d0)), (a 26, .inl (cI, 1536, .inl d1)), (a 27, .inl (cZ, 1536, .inl d2)), (a 28, .inl (cI, 384, .inl d3_9)), (a 29, .inl (cI, 384, .inl d4))]) [0, 2, 3, 4, 5, 6, 1] (by decide) rfl
          exact W.iret (v := (-1)) hx hb hr (fun tt9 ht hW => ⟨⟨((-1) : Int32), ((d3_9 : Nat → Int32), (d4 : Nat → Int32)), rfl, trivial, ⟨by rw [ht]; exact hP, hD⟩⟩, hS.F ht⟩) hS.2.2 dX11_off_36 hlocks

theorem lf_X11_odds_4 (a : Nat → Nat) (ap : Int32) (y0 : Nat → Int32) (y1 : Nat → Int32) (y2 : Nat → Int32) (n1 : Int32) (c_1 : ¬ n1 = (-1)) (c_3 : (0 : Int32) ≤ n1 ∧ n1 ≤ 5) (tn1 : Nat) (tn1a : 0 ≤ tn1) (tn1b : tn1 ≤ 5) (tn1e : n1 = nI tn1) : vp_in (nI tn1) 6 := by
  first | exact vp_in_nI (by omega) (by decide) | (unfold vp_in; decide)
theorem lf_X11_odds_7 (a : Nat → Nat) (ap : Int32) (y0 : Nat → Int32) (y1 : Nat → Int32) (y2 : Nat → Int32) (n1 : Int32) (c_1 : ¬ n1 = (-1)) (c_3 : (0 : Int32) ≤ n1 ∧ n1 ≤ 5) (tn1 : Nat) (tn1a : 0 ≤ tn1) (tn1b : tn1 ≤ 5) (tn1e : n1 = nI tn1) (x_5 : Int32) (c_6 : ¬ x_5 = 0) : tn1 < 6 := by
  first | assumption | omega | decide
set_option maxHeartbeats 4000000 in
set_option maxRecDepth 100000 in
theorem c_X11_odds (l : Launch) (D : va_G) (cI cB cZ cJ : ClassId) (tx : List (ClassId × FieldType)) (a : Nat → Nat) (ap : Int32) (y0 : Nat → Int32) (y1 : Nat → Int32) (y2 : Nat → Int32) (n1 : Int32) : RdL l D cI cB cZ cJ tx yX11_odds cX11_odds 2 (some .long) 2 [.ref (a 0), .int n1] [(a 0, .inr (11, [.ref (a 1), .ref (a 2), .ref (a 3), .ref (a 4), .ref (a 5), .ref (a 6), .ref (a 7), .ref (a 8), .ref (a 9), .ref (a 10), .ref (a 11), .ref (a 12), .int ap])), (a 12, .inr (7, [.ref (a 48), .ref (a 49), .ref (a 50)])), (a 48, .inl (cI, 36, .inl y0)), (a 49, .inl (cZ, 6, .inl y1)), (a 50, .inl (cI, 6, .inl y2))] (fun r => True) := by
  refine rdl_of2 (by decide) (Nat.le_of_ble_eq_true rfl) ?_
  intro p e s m below meth c A ls H locs hC hK hP hD hA hS hl
  obtain ⟨hx, hb, hr, hml, hown, hts, hlocks, hin⟩ := hC
  have hown : s.vm.findClass RX11 = some m.cls := hown
  have hl : lv_has ls 2 [(0, .ref (a 0)), (1, .int n1)] := hl
  refine lv_iload_n hx hb dX11_odds_0 rfl (lv_at hl 1 rfl) ?_
  refine lv_iconst (v := (-1)) hx hb dX11_odds_1 (by decide) ?_
  refine lv_icmp_ne (tgt := 13) hx hb dX11_odds_2 (by decide) (fun c_1 => ?_) (fun c_1 => ?_)
  · refine lv_iload_n hx hb dX11_odds_13 rfl (lv_at hl 1 rfl) ?_
    refine lv_iconst (v := 0) hx hb dX11_odds_14 (by decide) ?_
    refine lv_iconst (v := 5) hx hb dX11_odds_15 (by decide) ?_
    refine eRi (va_runS (As := [.int n1, .int 0, .int 5]) (rest := []) ⟨hx, hb, hml, hown, hts⟩ (c_X11_within l D cI cB cZ cJ tx n1 0 5 H.size) (zS hts k_527 v_X11_within ⟨Nat.le_of_ble_eq_true rfl, Nat.le_of_ble_eq_true rfl⟩) (px0 hK) rfl rfl hl.1 rfl (lv_room (Nat.le_of_ble_eq_true rfl)) dX11_odds_16 ⟨Nat.le_of_ble_eq_true rfl, Nat.le_of_ble_eq_true rfl⟩) hP hS hA (fun r_2 H locs wr_2 hP hS => ?_)
    subst wr_2
    refine lv_bi_eq (tgt := 34) hx hb dX11_odds_19 (by decide) (fun c_3 => ?_) (fun c_3 => ?_)
    · refine lv_ldc2 (v := (-1)) hx hb hown (hts _ k_1074) dX11_odds_34 ?_
      exact W.lret (v := (-1)) hx hb hr (fun tt9 ht hW => ⟨⟨((-1) : Int64), (), rfl, trivial, trivial⟩, hS.F ht⟩) hS.2.2 dX11_odds_37 hlocks
    · obtain ⟨tn1, tn1a, tn1b, tn1e⟩ := of_rng 0 5 rfl rfl c_3
      subst tn1e
      refine lv_aload_n hx hb dX11_odds_22 rfl (lv_at hl 0 rfl) ?_
      refine va_get (D := D) (ci := 11) (v := .ref (a 12)) (C := RX11) (T := TX11) (N := 13) hx hb hts inT_X11 hown hK.1 hP 0 rfl rfl 11 (by decide) (hts _ k_494) (fun _ h9 => h9) rfl dX11_odds_23 ?_
      refine va_getN (D := D) (ci := 7) (v := .ref (a 49)) (C := RX7) (T := TX7) (N := 3) hx hb hts inT_X7 hown hK.1 hP 1 rfl rfl 1 (by decide) (va_Nw.use rfl (hK.2.2.1 _ n_473)) (fun _ h9 => h9) rfl dX11_odds_26 ?_
      refine lv_iload_n hx hb dX11_odds_29 rfl (lv_at hl 1 rfl) ?_
      refine ld_z hx hb hK hP 3 rfl (lf_X11_odds_4 a ap y0 y1 y2 (nI tn1) c_1 c_3 tn1 tn1a tn1b rfl) dX11_odds_30 (fun x_5 => ?_)
      refine lv_if_ne (tgt := 38) hx hb dX11_odds_31 (by decide) (fun c_6 => ?_) (fun c_6 => ?_)
      · refine lv_aload_n hx hb dX11_odds_38 rfl (lv_at hl 0 rfl) ?_
        refine va_get (D := D) (ci := 11) (v := .ref (a 12)) (C := RX11) (T := TX11) (N := 13) hx hb hts inT_X11 hown hK.1 hP 0 rfl rfl 11 (by decide) (hts _ k_494) (fun _ h9 => h9) rfl dX11_odds_39 ?_
        refine lv_iload_n hx hb dX11_odds_42 rfl (lv_at hl 1 rfl) ?_
        refine eRl (va_runV (As := [.int (nI tn1)]) (rest := []) ⟨hx, hb, hml, hown, hts⟩ (c_X7_product l D cI cB cZ cJ tx a y0 y2 tn1 (lf_X11_odds_7 a ap y0 y1 y2 (nI tn1) c_1 c_3 tn1 tn1a tn1b rfl x_5 c_6) H.size) (zV hts k_1213 v_X7_product ⟨Nat.le_of_ble_eq_true rfl, Nat.le_of_ble_eq_true rfl⟩) (pV (pxS hK hP hD [1, 2, 4] (by decide) rfl) hK hP 1 rfl rfl) rfl rfl hl.1 rfl (lv_room (Nat.le_of_ble_eq_true rfl)) dX11_odds_43 ⟨Nat.le_of_ble_eq_true rfl, Nat.le_of_ble_eq_true rfl⟩) hP hS hA (fun r_8 H locs wr_8 hP hS => ?_)
        exact W.lret (v := r_8) hx hb hr (fun tt9 ht hW => ⟨⟨(r_8 : Int64), (), rfl, trivial, trivial⟩, hS.F ht⟩) hS.2.2 dX11_odds_46 hlocks
      · refine lv_ldc2 (v := (-1)) hx hb hown (hts _ k_1074) dX11_odds_34 ?_
        exact W.lret (v := (-1)) hx hb hr (fun tt9 ht hW => ⟨⟨((-1) : Int64), (), rfl, trivial, trivial⟩, hS.F ht⟩) hS.2.2 dX11_odds_37 hlocks
  · refine lv_aload_n hx hb dX11_odds_5 rfl (lv_at hl 0 rfl) ?_
    refine va_get (D := D) (ci := 11) (v := .ref (a 12)) (C := RX11) (T := TX11) (N := 13) hx hb hts inT_X11 hown hK.1 hP 0 rfl rfl 11 (by decide) (hts _ k_494) (fun _ h9 => h9) rfl dX11_odds_6 ?_
    refine eRl (va_runV (As := []) (rest := []) ⟨hx, hb, hml, hown, hts⟩ (c_X7_together l D cI cB cZ cJ tx a y0 y1 y2 H.size) (zV hts k_1205 v_X7_together ⟨Nat.le_of_ble_eq_true rfl, Nat.le_of_ble_eq_true rfl⟩) (pV (pxS hK hP hD [1, 2, 3, 4] (by decide) rfl) hK hP 1 rfl rfl) rfl rfl hl.1 rfl (lv_room (Nat.le_of_ble_eq_true rfl)) dX11_odds_9 ⟨Nat.le_of_ble_eq_true rfl, Nat.le_of_ble_eq_true rfl⟩) hP hS hA (fun r_9 H locs wr_9 hP hS => ?_)
    exact W.lret (v := r_9) hx hb hr (fun tt9 ht hW => ⟨⟨(r_9 : Int64), (), rfl, trivial, trivial⟩, hS.F ht⟩) hS.2.2 dX11_odds_12 hlocks

theorem lf_X11_next_6 (a : Nat → Nat) (ap : Int32) (y0 : Nat → Int32) (y1 : Nat → Int32) (y2 : Nat → Int32) (n1 : Int32) (c_2 : (0 : Int32) ≤ n1 ∧ n1 ≤ 1) (tn1 : Nat) (tn1a : 0 ≤ tn1) (tn1b : tn1 ≤ 1) (tn1e : n1 = nI tn1) (r_3 : Int32) (c_4 : ¬ r_3 = 0) (kb5 : Nat) (hkb5 : kb5 < 6) : 0 ≤ nI kb5 := by
  first | exact nI_pos (by omega) | exact nI_pos' (by omega)
theorem lf_X11_next_9 (a : Nat → Nat) (ap : Int32) (y0 : Nat → Int32) (y1 : Nat → Int32) (y2 : Nat → Int32) (n1 : Int32) (c_2 : (0 : Int32) ≤ n1 ∧ n1 ≤ 1) (tn1 : Nat) (tn1a : 0 ≤ tn1) (tn1b : tn1 ≤ 1) (tn1e : n1 = nI tn1) (r_3 : Int32) (c_4 : ¬ r_3 = 0) (kb5 : Nat) (hkb5 : kb5 < 6) (c_7 : ¬ nI tn1 = 0) : tn1 ≠ 0 := by
  exact fun q => c_7 ((nI_eq (a := tn1) (b := 0) (by omega) (by omega)).mpr q)
theorem lf_X11_next_10 (a : Nat → Nat) (ap : Int32) (y0 : Nat → Int32) (y1 : Nat → Int32) (y2 : Nat → Int32) (n1 : Int32) (c_2 : (0 : Int32) ≤ n1 ∧ n1 ≤ 1) (tn1 : Nat) (tn1a : 0 ≤ tn1) (tn1b : tn1 ≤ 1) (tn1e : n1 = nI tn1) (r_3 : Int32) (c_4 : ¬ r_3 = 0) (kb5 : Nat) (hkb5 : kb5 < 6) (c_7 : ¬ nI tn1 = 0) (n_8 : tn1 ≠ 0) : kb5 < 6 := by
  first | assumption | omega | decide
theorem lf_X11_next_13 (a : Nat → Nat) (ap : Int32) (y0 : Nat → Int32) (y1 : Nat → Int32) (y2 : Nat → Int32) (n1 : Int32) (c_2 : (0 : Int32) ≤ n1 ∧ n1 ≤ 1) (tn1 : Nat) (tn1a : 0 ≤ tn1) (tn1b : tn1 ≤ 1) (tn1e : n1 = nI tn1) (r_3 : Int32) (c_4 : ¬ r_3 = 0) (kb5 : Nat) (hkb5 : kb5 < 6) (c_7 : nI tn1 = 0) : tn1 = 0 := by
  exact (nI_eq (a := tn1) (b := 0) (by omega) (by omega)).mp c_7
set_option maxHeartbeats 4000000 in
set_option maxRecDepth 100000 in
theorem c_X11_next (l : Launch) (D : va_G) (cI cB cZ cJ : ClassId) (tx : List (ClassId × FieldType)) (a : Nat → Nat) (ap : Int32) (y0 : Nat → Int32) (y1 : Nat → Int32) (y2 : Nat → Int32) (n1 : Int32) : RdI l D cI cB cZ cJ tx yX11_next cX11_next 3 (some .int) 4 [.ref (a 0), .int n1] [(a 0, .inr (11, [.ref (a 1), .ref (a 2), .ref (a 3), .ref (a 4), .ref (a 5), .ref (a 6), .ref (a 7), .ref (a 8), .ref (a 9), .ref (a 10), .ref (a 11), .ref (a 12), .int ap])), (a 12, .inr (7, [.ref (a 48), .ref (a 49), .ref (a 50)])), (a 48, .inl (cI, 36, .inl y0)), (a 49, .inl (cZ, 6, .inl y1)), (a 50, .inl (cI, 6, .inl y2))] (fun r => True) := by
  refine rdi_of2 (by decide) (Nat.le_of_ble_eq_true rfl) ?_
  intro p e s m below meth c A ls H locs hC hK hP hD hA hS hl
  obtain ⟨hx, hb, hr, hml, hown, hts, hlocks, hin⟩ := hC
  have hown : s.vm.findClass RX11 = some m.cls := hown
  have hl : lv_has ls 3 [(0, .ref (a 0)), (1, .int n1)] := hl
  refine lv_iload_n hx hb dX11_next_0 rfl (lv_at hl 1 rfl) ?_
  refine lv_iconst (v := 0) hx hb dX11_next_1 (by decide) ?_
  refine lv_iconst (v := 1) hx hb dX11_next_2 (by decide) ?_
  refine eRi (va_runS (As := [.int n1, .int 0, .int 1]) (rest := []) ⟨hx, hb, hml, hown, hts⟩ (c_X11_within l D cI cB cZ cJ tx n1 0 1 H.size) (zS hts k_527 v_X11_within ⟨Nat.le_of_ble_eq_true rfl, Nat.le_of_ble_eq_true rfl⟩) (px0 hK) rfl rfl hl.1 rfl (lv_room (Nat.le_of_ble_eq_true rfl)) dX11_next_3 ⟨Nat.le_of_ble_eq_true rfl, Nat.le_of_ble_eq_true rfl⟩) hP hS hA (fun r_1 H locs wr_1 hP hS => ?_)
  subst wr_1
  refine lv_bi_eq (tgt := 19) hx hb dX11_next_6 (by decide) (fun c_2 => ?_) (fun c_2 => ?_)
  · refine lv_iconst (v := (-1)) hx hb dX11_next_19 (by decide) ?_
    exact W.iret (v := (-1)) hx hb hr (fun tt9 ht hW => ⟨⟨((-1) : Int32), (), rfl, trivial, trivial⟩, hS.F ht⟩) hS.2.2 dX11_next_20 hlocks
  · obtain ⟨tn1, tn1a, tn1b, tn1e⟩ := of_rng 0 1 rfl rfl c_2
    subst tn1e
    refine lv_aload_n hx hb dX11_next_9 rfl (lv_at hl 0 rfl) ?_
    refine va_get (D := D) (ci := 11) (v := .ref (a 12)) (C := RX11) (T := TX11) (N := 13) hx hb hts inT_X11 hown hK.1 hP 0 rfl rfl 11 (by decide) (hts _ k_494) (fun _ h9 => h9) rfl dX11_next_10 ?_
    refine eRi (va_runV (As := []) (rest := []) ⟨hx, hb, hml, hown, hts⟩ (c_X7_told l D cI cB cZ cJ tx a y1 H.size) (zV hts k_1218 v_X7_told ⟨Nat.le_of_ble_eq_true rfl, Nat.le_of_ble_eq_true rfl⟩) (pV (pxS hK hP hD [1, 3] (by decide) rfl) hK hP 1 rfl rfl) rfl rfl hl.1 rfl (lv_room (Nat.le_of_ble_eq_true rfl)) dX11_next_13 ⟨Nat.le_of_ble_eq_true rfl, Nat.le_of_ble_eq_true rfl⟩) hP hS hA (fun r_3 H locs wr_3 hP hS => ?_)
    refine lv_if_ne (tgt := 21) hx hb dX11_next_16 (by decide) (fun c_4 => ?_) (fun c_4 => ?_)
    · refine lv_aload_n hx hb dX11_next_21 rfl (lv_at hl 0 rfl) ?_
      refine va_get (D := D) (ci := 11) (v := .ref (a 12)) (C := RX11) (T := TX11) (N := 13) hx hb hts inT_X11 hown hK.1 hP 0 rfl rfl 11 (by decide) (hts _ k_494) (fun _ h9 => h9) rfl dX11_next_22 ?_
      refine eRi (va_runV (As := []) (rest := []) ⟨hx, hb, hml, hown, hts⟩ (c_X7_partingMost l D cI cB cZ cJ tx a y0 y1 y2 H.size) (zV hts k_1222 v_X7_partingMost ⟨Nat.le_of_ble_eq_true rfl, Nat.le_of_ble_eq_true rfl⟩) (pV (pxS hK hP hD [1, 2, 3, 4] (by decide) rfl) hK hP 1 rfl rfl) rfl rfl hl.1 rfl (lv_room (Nat.le_of_ble_eq_true rfl)) dX11_next_25 ⟨Nat.le_of_ble_eq_true rfl, Nat.le_of_ble_eq_true rfl⟩) hP hS hA (fun r_5 H locs wr_5 hP hS => ?_)
      rcases wr_5 with rfl | ⟨kb5, hkb5, rfl⟩
      · refine lv_istore_n (lv' := [(2, .int (-1)), (0, .ref (a 0)), (1, .int (nI tn1))]) hx hb dX11_next_28 rfl hl (by decide) rfl (fun ls hl => ?_)
        refine lv_iload_n hx hb dX11_next_29 rfl (lv_at hl 0 rfl) ?_
        refine lv_if_ge (tgt := 35) hx hb dX11_next_30 (by decide) (fun c => absurd c (by decide)) (fun _ => ?_)
        refine lv_iconst (v := (-1)) hx hb dX11_next_33 (by decide) ?_
        exact W.iret (v := (-1)) hx hb hr (fun tt9 ht hW => ⟨⟨((-1) : Int32), (), rfl, trivial, trivial⟩, hS.F ht⟩) hS.2.2 dX11_next_34 hlocks
      · refine lv_istore_n (lv' := [(2, .int (nI kb5)), (0, .ref (a 0)), (1, .int (nI tn1))]) hx hb dX11_next_28 rfl hl (by decide) rfl (fun ls hl => ?_)
        refine lv_iload_n hx hb dX11_next_29 rfl (lv_at hl 0 rfl) ?_
        refine lv_if_ge (tgt := 35) hx hb dX11_next_30 (by decide) (fun _ => ?_) (fun c => absurd (lf_X11_next_6 a ap y0 y1 y2 (nI tn1) c_2 tn1 tn1a tn1b rfl r_3 c_4 kb5 hkb5) c)
        refine lv_iload_n hx hb dX11_next_35 rfl (lv_at hl 2 rfl) ?_
        refine lv_if_ne (tgt := 43) hx hb dX11_next_36 (by decide) (fun c_7 => ?_) (fun c_7 => ?_)
        · have n_8 : tn1 ≠ 0 := (lf_X11_next_9 a ap y0 y1 y2 (nI tn1) c_2 tn1 tn1a tn1b rfl r_3 c_4 kb5 hkb5 c_7)
          refine lv_aload_n hx hb dX11_next_43 rfl (lv_at hl 1 rfl) ?_
          refine va_get (D := D) (ci := 11) (v := .ref (a 12)) (C := RX11) (T := TX11) (N := 13) hx hb hts inT_X11 hown hK.1 hP 0 rfl rfl 11 (by decide) (hts _ k_494) (fun _ h9 => h9) rfl dX11_next_44 ?_
          refine lv_iload_n hx hb dX11_next_47 rfl (lv_at hl 0 rfl) ?_
          refine eRi (va_runV (As := [.int (nI kb5)]) (rest := []) ⟨hx, hb, hml, hown, hts⟩ (c_X7_parted l D cI cB cZ cJ tx a y0 y1 y2 kb5 (lf_X11_next_10 a ap y0 y1 y2 (nI tn1) c_2 tn1 tn1a tn1b rfl r_3 c_4 kb5 hkb5 c_7 n_8) H.size) (zV hts k_1235 v_X7_parted ⟨Nat.le_of_ble_eq_true rfl, Nat.le_of_ble_eq_true rfl⟩) (pV (pxS hK hP hD [1, 2, 3, 4] (by decide) rfl) hK hP 1 rfl rfl) rfl rfl hl.1 rfl (lv_room (Nat.le_of_ble_eq_true rfl)) dX11_next_48 ⟨Nat.le_of_ble_eq_true rfl, Nat.le_of_ble_eq_true rfl⟩) hP hS hA (fun r_11 H locs wr_11 hP hS => ?_)
          exact W.iret (v := r_11) hx hb hr (fun tt9 ht hW => ⟨⟨(r_11 : Int32), (), rfl, trivial, trivial⟩, hS.F ht⟩) hS.2.2 dX11_next_51 hlocks
        · have n_12 : tn1 = 0 := (lf_X11_next_13 a ap y0 y1 y2 (nI tn1) c_2 tn1 tn1a tn1b rfl r_3 c_4 kb5 hkb5 c_7)
          refine lv_iload_n hx hb dX11_next_39 rfl (lv_at hl 0 rfl) ?_
          refine lv_goto (tgt := 51) hx hb dX11_next_40 (by decide) ?_
          exact W.iret (v := nI kb5) hx hb hr (fun tt9 ht hW => ⟨⟨(nI kb5 : Int32), (), rfl, trivial, trivial⟩, hS.F ht⟩) hS.2.2 dX11_next_51 hlocks
    · refine lv_iconst (v := (-1)) hx hb dX11_next_19 (by decide) ?_
      exact W.iret (v := (-1)) hx hb hr (fun tt9 ht hW => ⟨⟨((-1) : Int32), (), rfl, trivial, trivial⟩, hS.F ht⟩) hS.2.2 dX11_next_20 hlocks

theorem lf_X11_oars_1 (a : Nat → Nat) (ap : Int32) (sn : Nat) (sk : Nat) (scu : Int32) (sch : Int32) (ot : Nat → Int32) (n1 : Int32) (hsn : sn ≤ 24) (hsk : sk ≤ 8) : sn ≤ 24 := by
  first | assumption | omega | decide
theorem lf_X11_oars_2 (a : Nat → Nat) (ap : Int32) (sn : Nat) (sk : Nat) (scu : Int32) (sch : Int32) (ot : Nat → Int32) (n1 : Int32) (hsn : sn ≤ 24) (hsk : sk ≤ 8) : sk ≤ 8 := by
  first | assumption | omega | decide
theorem lf_X11_oars_5 (a : Nat → Nat) (ap : Int32) (sn : Nat) (sk : Nat) (scu : Int32) (sch : Int32) (ot : Nat → Int32) (n1 : Int32) (hsn : sn ≤ 24) (hsk : sk ≤ 8) (hst3 : 0 < sn) (c_4 : n1 = 0) : sn ≤ 24 := by
  first | assumption | omega | decide
theorem lf_X11_oars_6 (a : Nat → Nat) (ap : Int32) (sn : Nat) (sk : Nat) (scu : Int32) (sch : Int32) (ot : Nat → Int32) (n1 : Int32) (hsn : sn ≤ 24) (hsk : sk ≤ 8) (hst3 : 0 < sn) (c_4 : n1 = 0) : sk ≤ 8 := by
  first | assumption | omega | decide
theorem lf_X11_oars_9 (a : Nat → Nat) (ap : Int32) (sn : Nat) (sk : Nat) (scu : Int32) (sch : Int32) (ot : Nat → Int32) (n1 : Int32) (hsn : sn ≤ 24) (hsk : sk ≤ 8) (hst3 : 0 < sn) (c_4 : ¬ n1 = 0) (c_8 : n1 = 1) : sn ≤ 24 := by
  first | assumption | omega | decide
theorem lf_X11_oars_10 (a : Nat → Nat) (ap : Int32) (sn : Nat) (sk : Nat) (scu : Int32) (sch : Int32) (ot : Nat → Int32) (n1 : Int32) (hsn : sn ≤ 24) (hsk : sk ≤ 8) (hst3 : 0 < sn) (c_4 : ¬ n1 = 0) (c_8 : n1 = 1) : sk ≤ 8 := by
  first | assumption | omega | decide
theorem lf_X11_oars_13 (a : Nat → Nat) (ap : Int32) (sn : Nat) (sk : Nat) (scu : Int32) (sch : Int32) (ot : Nat → Int32) (n1 : Int32) (hsn : sn ≤ 24) (hsk : sk ≤ 8) (hst3 : 0 < sn) (c_4 : ¬ n1 = 0) (c_8 : ¬ n1 = 1) (c_12 : n1 = 2) : sn ≤ 24 := by
  first | assumption | omega | decide
theorem lf_X11_oars_14 (a : Nat → Nat) (ap : Int32) (sn : Nat) (sk : Nat) (scu : Int32) (sch : Int32) (ot : Nat → Int32) (n1 : Int32) (hsn : sn ≤ 24) (hsk : sk ≤ 8) (hst3 : 0 < sn) (c_4 : ¬ n1 = 0) (c_8 : ¬ n1 = 1) (c_12 : n1 = 2) : sk ≤ 8 := by
  first | assumption | omega | decide
theorem lf_X11_oars_17 (a : Nat → Nat) (ap : Int32) (sn : Nat) (sk : Nat) (scu : Int32) (sch : Int32) (ot : Nat → Int32) (n1 : Int32) (hsn : sn ≤ 24) (hsk : sk ≤ 8) (hst3 : 0 < sn) (c_4 : ¬ n1 = 0) (c_8 : ¬ n1 = 1) (c_12 : ¬ n1 = 2) (c_16 : n1 = 3) : sn ≤ 24 := by
  first | assumption | omega | decide
theorem lf_X11_oars_18 (a : Nat → Nat) (ap : Int32) (sn : Nat) (sk : Nat) (scu : Int32) (sch : Int32) (ot : Nat → Int32) (n1 : Int32) (hsn : sn ≤ 24) (hsk : sk ≤ 8) (hst3 : 0 < sn) (c_4 : ¬ n1 = 0) (c_8 : ¬ n1 = 1) (c_12 : ¬ n1 = 2) (c_16 : n1 = 3) : sk ≤ 8 := by
  first | assumption | omega | decide
theorem lf_X11_oars_20 (a : Nat → Nat) (ap : Int32) (sn : Nat) (sk : Nat) (scu : Int32) (sch : Int32) (ot : Nat → Int32) (n1 : Int32) (hsn : sn ≤ 24) (hsk : sk ≤ 8) (hst3 : 0 < sn) (c_4 : ¬ n1 = 0) (c_8 : ¬ n1 = 1) (c_12 : ¬ n1 = 2) (c_16 : ¬ n1 = 3) : n1.toInt < 0 ∨ 3 < n1.toInt := by
  have e : ∀ k : Int32, ¬ n1 = k → n1.toInt ≠ k.toInt := fun k h q => h (Int32.toInt_inj.mp q)
  have e0 := e 0 ‹¬ n1 = 0›
  have z0 : (0 : Int32).toInt = 0 := by decide
  have e1 := e 1 ‹¬ n1 = 1›
  have z1 : (1 : Int32).toInt = 1 := by decide
  have e2 := e 2 ‹¬ n1 = 2›
  have z2 : (2 : Int32).toInt = 2 := by decide
  have e3 := e 3 ‹¬ n1 = 3›
  have z3 : (3 : Int32).toInt = 3 := by decide
  omega
set_option maxHeartbeats 4000000 in
set_option maxRecDepth 100000 in
theorem c_X11_oars (l : Launch) (D : va_G) (cI cB cZ cJ : ClassId) (tx : List (ClassId × FieldType)) (a : Nat → Nat) (ap : Int32) (sn : Nat) (sk : Nat) (scu : Int32) (sch : Int32) (ot : Nat → Int32) (n1 : Int32) (hsn : sn ≤ 24) (hsk : sk ≤ 8) : RdI l D cI cB cZ cJ tx yX11_oars cX11_oars 2 (some .int) 4 [.ref (a 0), .int n1] [(a 0, .inr (11, [.ref (a 1), .ref (a 2), .ref (a 3), .ref (a 4), .ref (a 5), .ref (a 6), .ref (a 7), .ref (a 8), .ref (a 9), .ref (a 10), .ref (a 11), .ref (a 12), .int ap])), (a 10, .inr (10, [.ref (a 5), .ref (a 46)])), (a 5, .inr (4, [.ref (a 18), .ref (a 19), .ref (a 20), .ref (a 21), .ref (a 22), .ref (a 23), .ref (a 24), .int (nI sn), .int (nI sk), .int scu, .int sch])), (a 46, .inl (cI, 48, .inl ot))] (fun r => True) := by
  refine rdi_of2 (by decide) (Nat.le_of_ble_eq_true rfl) ?_
  intro p e s m below meth c A ls H locs hC hK hP hD hA hS hl
  obtain ⟨hx, hb, hr, hml, hown, hts, hlocks, hin⟩ := hC
  have hown : s.vm.findClass RX11 = some m.cls := hown
  have hl : lv_has ls 2 [(0, .ref (a 0)), (1, .int n1)] := hl
  refine lv_aload_n hx hb dX11_oars_0 rfl (lv_at hl 0 rfl) ?_
  refine va_get (D := D) (ci := 11) (v := .ref (a 5)) (C := RX11) (T := TX11) (N := 13) hx hb hts inT_X11 hown hK.1 hP 0 rfl rfl 4 (by decide) (hts _ k_487) (fun _ h9 => h9) rfl dX11_oars_1 ?_
  refine eRi (va_runV (As := []) (rest := []) ⟨hx, hb, hml, hown, hts⟩ (c_X4_stands l D cI cB cZ cJ tx a sn sk scu sch (lf_X11_oars_1 a ap sn sk scu sch ot n1 hsn hsk) (lf_X11_oars_2 a ap sn sk scu sch ot n1 hsn hsk) H.size) (zV hts k_824 v_X4_stands ⟨Nat.le_of_ble_eq_true rfl, Nat.le_of_ble_eq_true rfl⟩) (pV (px1 hK hP 2 rfl) hK hP 2 rfl rfl) rfl rfl hl.1 rfl (lv_room (Nat.le_of_ble_eq_true rfl)) dX11_oars_4 ⟨Nat.le_of_ble_eq_true rfl, Nat.le_of_ble_eq_true rfl⟩) hP hS hA (fun r_3 H locs wr_3 hP hS => ?_)
  rcases wr_3 with ⟨rfl, _⟩ | ⟨rfl, hst3⟩
  · refine lv_if_ne (tgt := 12) hx hb dX11_oars_7 (by decide) (fun c => absurd c (by decide)) (fun _ => ?_)
    refine lv_iconst (v := (-1)) hx hb dX11_oars_10 (by decide) ?_
    exact W.iret (v := (-1)) hx hb hr (fun tt9 ht hW => ⟨⟨((-1) : Int32), (), rfl, trivial, trivial⟩, hS.F ht⟩) hS.2.2 dX11_oars_11 hlocks
  · refine lv_if_ne (tgt := 12) hx hb dX11_oars_7 (by decide) (fun _ => ?_) (fun c => absurd c (by decide))
    refine lv_iload_n hx hb dX11_oars_12 rfl (lv_at hl 1 rfl) ?_
    by_cases c_4 : n1 = 0
    · subst c_4
      refine lv_tableIn (off := 31) (tgt := 44) hx hb dX11_oars_13 (by decide) (by decide) rfl (by decide) ?_
      refine lv_aload_n hx hb dX11_oars_44 rfl (lv_at hl 0 rfl) ?_
      refine va_get (D := D) (ci := 11) (v := .ref (a 10)) (C := RX11) (T := TX11) (N := 13) hx hb hts inT_X11 hown hK.1 hP 0 rfl rfl 9 (by decide) (hts _ k_492) (fun _ h9 => h9) rfl dX11_oars_45 ?_
      refine eRi (va_runV (As := []) (rest := []) ⟨hx, hb, hml, hown, hts⟩ (c_X10_pairsSeen l D cI cB cZ cJ tx a sn sk scu sch ot (lf_X11_oars_5 a ap sn sk scu sch ot 0 hsn hsk hst3 rfl) (lf_X11_oars_6 a ap sn sk scu sch ot 0 hsn hsk hst3 rfl) H.size) (zV hts k_1121 v_X10_pairsSeen ⟨Nat.le_of_ble_eq_true rfl, Nat.le_of_ble_eq_true rfl⟩) (pV (pxS hK hP hD [1, 2, 3] (by decide) rfl) hK hP 1 rfl rfl) rfl rfl hl.1 rfl (lv_room (Nat.le_of_ble_eq_true rfl)) dX11_oars_48 ⟨Nat.le_of_ble_eq_true rfl, Nat.le_of_ble_eq_true rfl⟩) hP hS hA (fun r_7 H locs wr_7 hP hS => ?_)
      exact W.iret (v := r_7) hx hb hr (fun tt9 ht hW => ⟨⟨(r_7 : Int32), (), rfl, trivial, trivial⟩, hS.F ht⟩) hS.2.2 dX11_oars_51 hlocks
    by_cases c_8 : n1 = 1
    · subst c_8
      refine lv_tableIn (off := 39) (tgt := 52) hx hb dX11_oars_13 (by decide) (by decide) rfl (by decide) ?_
      refine lv_aload_n hx hb dX11_oars_52 rfl (lv_at hl 0 rfl) ?_
      refine va_get (D := D) (ci := 11) (v := .ref (a 10)) (C := RX11) (T := TX11) (N := 13) hx hb hts inT_X11 hown hK.1 hP 0 rfl rfl 9 (by decide) (hts _ k_492) (fun _ h9 => h9) rfl dX11_oars_53 ?_
      refine eRi (va_runV (As := []) (rest := []) ⟨hx, hb, hml, hown, hts⟩ (c_X10_pairsThatMayBe l D cI cB cZ cJ tx a sn sk scu sch ot (lf_X11_oars_9 a ap sn sk scu sch ot 1 hsn hsk hst3 c_4 rfl) (lf_X11_oars_10 a ap sn sk scu sch ot 1 hsn hsk hst3 c_4 rfl) H.size) (zV hts k_1134 v_X10_pairsThatMayBe ⟨Nat.le_of_ble_eq_true rfl, Nat.le_of_ble_eq_true rfl⟩) (pV (pxS hK hP hD [1, 2, 3] (by decide) rfl) hK hP 1 rfl rfl) rfl rfl hl.1 rfl (lv_room (Nat.le_of_ble_eq_true rfl)) dX11_oars_56 ⟨Nat.le_of_ble_eq_true rfl, Nat.le_of_ble_eq_true rfl⟩) hP hS hA (fun r_11 H locs wr_11 hP hS => ?_)
      exact W.iret (v := r_11) hx hb hr (fun tt9 ht hW => ⟨⟨(r_11 : Int32), (), rfl, trivial, trivial⟩, hS.F ht⟩) hS.2.2 dX11_oars_59 hlocks
    by_cases c_12 : n1 = 2
    · subst c_12
      refine lv_tableIn (off := 47) (tgt := 60) hx hb dX11_oars_13 (by decide) (by decide) rfl (by decide) ?_
      refine lv_aload_n hx hb dX11_oars_60 rfl (lv_at hl 0 rfl) ?_
      refine va_get (D := D) (ci := 11) (v := .ref (a 10)) (C := RX11) (T := TX11) (N := 13) hx hb hts inT_X11 hown hK.1 hP 0 rfl rfl 9 (by decide) (hts _ k_492) (fun _ h9 => h9) rfl dX11_oars_61 ?_
      refine eRi (va_runV (As := []) (rest := []) ⟨hx, hb, hml, hown, hts⟩ (c_X10_known l D cI cB cZ cJ tx a sn sk scu sch ot (lf_X11_oars_13 a ap sn sk scu sch ot 2 hsn hsk hst3 c_4 c_8 rfl) (lf_X11_oars_14 a ap sn sk scu sch ot 2 hsn hsk hst3 c_4 c_8 rfl) H.size) (zV hts k_1138 v_X10_known ⟨Nat.le_of_ble_eq_true rfl, Nat.le_of_ble_eq_true rfl⟩) (pV (pxS hK hP hD [1, 2, 3] (by decide) rfl) hK hP 1 rfl rfl) rfl rfl hl.1 rfl (lv_room (Nat.le_of_ble_eq_true rfl)) dX11_oars_64 ⟨Nat.le_of_ble_eq_true rfl, Nat.le_of_ble_eq_true rfl⟩) hP hS hA (fun r_15 H locs wr_15 hP hS => ?_)
      exact W.iret (v := r_15) hx hb hr (fun tt9 ht hW => ⟨⟨(r_15 : Int32), (), rfl, trivial, trivial⟩, hS.F ht⟩) hS.2.2 dX11_oars_67 hlocks
    by_cases c_16 : n1 = 3
    · subst c_16
      refine lv_tableIn (off := 55) (tgt := 68) hx hb dX11_oars_13 (by decide) (by decide) rfl (by decide) ?_
      refine lv_aload_n hx hb dX11_oars_68 rfl (lv_at hl 0 rfl) ?_
      refine va_get (D := D) (ci := 11) (v := .ref (a 10)) (C := RX11) (T := TX11) (N := 13) hx hb hts inT_X11 hown hK.1 hP 0 rfl rfl 9 (by decide) (hts _ k_492) (fun _ h9 => h9) rfl dX11_oars_69 ?_
      refine eRi (va_runV (As := []) (rest := []) ⟨hx, hb, hml, hown, hts⟩ (c_X10_seen l D cI cB cZ cJ tx a sn sk scu sch ot (lf_X11_oars_17 a ap sn sk scu sch ot 3 hsn hsk hst3 c_4 c_8 c_12 rfl) (lf_X11_oars_18 a ap sn sk scu sch ot 3 hsn hsk hst3 c_4 c_8 c_12 rfl) H.size) (zV hts k_1146 v_X10_seen ⟨Nat.le_of_ble_eq_true rfl, Nat.le_of_ble_eq_true rfl⟩) (pV (pxS hK hP hD [1, 2, 3] (by decide) rfl) hK hP 1 rfl rfl) rfl rfl hl.1 rfl (lv_room (Nat.le_of_ble_eq_true rfl)) dX11_oars_72 ⟨Nat.le_of_ble_eq_true rfl, Nat.le_of_ble_eq_true rfl⟩) hP hS hA (fun r_19 H locs wr_19 hP hS => ?_)
      exact W.iret (v := r_19) hx hb hr (fun tt9 ht hW => ⟨⟨(r_19 : Int32), (), rfl, trivial, trivial⟩, hS.F ht⟩) hS.2.2 dX11_oars_75 hlocks
    refine lv_tableOut (tgt := 76) hx hb dX11_oars_13 (lf_X11_oars_20 a ap sn sk scu sch ot n1 hsn hsk hst3 c_4 c_8 c_12 c_16) (by decide) ?_
    refine lv_iconst (v := (-1)) hx hb dX11_oars_76 (by decide) ?_
    exact W.iret (v := (-1)) hx hb hr (fun tt9 ht hW => ⟨⟨((-1) : Int32), (), rfl, trivial, trivial⟩, hS.F ht⟩) hS.2.2 dX11_oars_77 hlocks

theorem lf_X11_size_1 (a : Nat → Nat) (ap : Int32) (sn : Nat) (sk : Nat) (scu : Int32) (sch : Int32) (zs : Nat) (zo : Nat) (zh : Nat) (zx : Nat) (g2 : Nat → Int32) (n1 : Int32) (n2 : Int32) (n3 : Int32) (n4 : Int32) (hsn : sn ≤ 24) (hsk : sk ≤ 8) : sn ≤ 24 := by
  first | assumption | omega | decide
theorem lf_X11_size_2 (a : Nat → Nat) (ap : Int32) (sn : Nat) (sk : Nat) (scu : Int32) (sch : Int32) (zs : Nat) (zo : Nat) (zh : Nat) (zx : Nat) (g2 : Nat → Int32) (n1 : Int32) (n2 : Int32) (n3 : Int32) (n4 : Int32) (hsn : sn ≤ 24) (hsk : sk ≤ 8) : sk ≤ 8 := by
  first | assumption | omega | decide
theorem lf_X11_size_4 (a : Nat → Nat) (ap : Int32) (sn : Nat) (sk : Nat) (scu : Int32) (sch : Int32) (zs : Nat) (zo : Nat) (zh : Nat) (zx : Nat) (g2 : Nat → Int32) (n1 : Int32) (n2 : Int32) (n3 : Int32) (n4 : Int32) (hsn : sn ≤ 24) (hsk : sk ≤ 8) (ff3 : Nat) (ss3 : Nat) (dd3 : Nat) (hff3 : ff3 < sn) (hss3 : ss3 < sk) (hdd3 : dd3 < 2) : ¬ nI ((ff3 * 8 + ss3) * 2 + dd3) < 0 := by
  first | exact nI_pos (by omega) | exact nI_pos' (by omega)
theorem lf_X11_size_10 (a : Nat → Nat) (ap : Int32) (sn : Nat) (sk : Nat) (scu : Int32) (sch : Int32) (zs : Nat) (zo : Nat) (zh : Nat) (zx : Nat) (g2 : Nat → Int32) (n1 : Int32) (n2 : Int32) (n3 : Int32) (n4 : Int32) (hsn : sn ≤ 24) (hsk : sk ≤ 8) (ff3 : Nat) (ss3 : Nat) (dd3 : Nat) (hff3 : ff3 < sn) (hss3 : ss3 < sk) (hdd3 : dd3 < 2) (c_6 : (0 : Int32) ≤ n4 ∧ n4 ≤ 99) (tn4 : Nat) (tn4a : 0 ≤ tn4) (tn4b : tn4 ≤ 99) (tn4e : n4 = nI tn4) (r_7 : Int32) (c_8 : r_7 < 60) : vp_in (nI ((ff3 * 8 + ss3) * 2 + dd3)) 384 := by
  first | exact vp_in_nI (by omega) (by decide) | (unfold vp_in; decide)
set_option maxHeartbeats 4000000 in
set_option maxRecDepth 100000 in
theorem c_X11_size (l : Launch) (D : va_G) (cI cB cZ cJ : ClassId) (tx : List (ClassId × FieldType)) (a : Nat → Nat) (ap : Int32) (sn : Nat) (sk : Nat) (scu : Int32) (sch : Int32) (zs : Nat) (zo : Nat) (zh : Nat) (zx : Nat) (g2 : Nat → Int32) (n1 : Int32) (n2 : Int32) (n3 : Int32) (n4 : Int32) (hsn : sn ≤ 24) (hsk : sk ≤ 8) : WrI l D cI cB cZ cJ tx yX11_size cX11_size 6 (some .boolean) 2 0 0 [.ref (a 0), .int n1, .int n2, .int n3, .int n4] [(a 0, .inr (11, [.ref (a 1), .ref (a 2), .ref (a 3), .ref (a 4), .ref (a 5), .ref (a 6), .ref (a 7), .ref (a 8), .ref (a 9), .ref (a 10), .ref (a 11), .ref (a 12), .int ap])), (a 5, .inr (4, [.ref (a 18), .ref (a 19), .ref (a 20), .ref (a 21), .ref (a 22), .ref (a 23), .ref (a 24), .int (nI sn), .int (nI sk), .int scu, .int sch])), (a 9, .inr (5, [.ref (a 5), .ref (a 45), .int (nI zs), .int (nI zo), .int (nI zh), .int (nI zx)])), (a 20, .inl (cI, 384, .inl g2))] (fun (r : Int32) (v : (Nat → Int32)) => True) (fun v => [(a 0, .inr (11, [.ref (a 1), .ref (a 2), .ref (a 3), .ref (a 4), .ref (a 5), .ref (a 6), .ref (a 7), .ref (a 8), .ref (a 9), .ref (a 10), .ref (a 11), .ref (a 12), .int ap])), (a 5, .inr (4, [.ref (a 18), .ref (a 19), .ref (a 20), .ref (a 21), .ref (a 22), .ref (a 23), .ref (a 24), .int (nI sn), .int (nI sk), .int scu, .int sch])), (a 9, .inr (5, [.ref (a 5), .ref (a 45), .int (nI zs), .int (nI zo), .int (nI zh), .int (nI zx)])), (a 20, .inl (cI, 384, .inl v))]) := by
  refine wri_of2 (by decide) (Nat.le_of_ble_eq_true rfl) ?_
  intro p e s m below meth c A ls H locs hC hK hP hD hA hS hl
  obtain ⟨hx, hb, hr, hml, hown, hts, hlocks, hin⟩ := hC
  have hown : s.vm.findClass RX11 = some m.cls := hown
  have hl : lv_has ls 6 [(0, .ref (a 0)), (1, .int n1), (2, .int n2), (3, .int n3), (4, .int n4)] := hl
  refine lv_aload_n hx hb dX11_size_0 rfl (lv_at hl 0 rfl) ?_
  refine va_get (D := D) (ci := 11) (v := .ref (a 5)) (C := RX11) (T := TX11) (N := 13) hx hb hts inT_X11 hown hK.1 hP 0 rfl rfl 4 (by decide) (hts _ k_487) (fun _ h9 => h9) rfl dX11_size_1 ?_
  refine lv_iload_n hx hb dX11_size_4 rfl (lv_at hl 1 rfl) ?_
  refine lv_iload_n hx hb dX11_size_5 rfl (lv_at hl 2 rfl) ?_
  refine lv_iload_n hx hb dX11_size_6 rfl (lv_at hl 3 rfl) ?_
  refine eRi (va_runV (As := [.int n1, .int n2, .int n3]) (rest := []) ⟨hx, hb, hml, hown, hts⟩ (c_X4_rivetAt_a l D cI cB cZ cJ tx a sn sk scu sch n1 n2 n3 (lf_X11_size_1 a ap sn sk scu sch zs zo zh zx g2 n1 n2 n3 n4 hsn hsk) (lf_X11_size_2 a ap sn sk scu sch zs zo zh zx g2 n1 n2 n3 n4 hsn hsk) H.size) (zV hts k_850 v_X4_rivetAt ⟨Nat.le_of_ble_eq_true rfl, Nat.le_of_ble_eq_true rfl⟩) (pV (px1 hK hP 1 rfl) hK hP 1 rfl rfl) rfl rfl hl.1 rfl (lv_room (Nat.le_of_ble_eq_true rfl)) dX11_size_7 ⟨Nat.le_of_ble_eq_true rfl, Nat.le_of_ble_eq_true rfl⟩) hP hS hA (fun r_3 H locs wr_3 hP hS => ?_)
  rcases wr_3 with rfl | ⟨ff3, ss3, dd3, hff3, hss3, hdd3, rfl, rfl, rfl, rfl⟩
  · refine lv_istore (lv' := [(5, .int (-1)), (0, .ref (a 0)), (1, .int n1), (2, .int n2), (3, .int n3), (4, .int n4)]) hx hb dX11_size_10 hl (by decide) rfl (fun ls hl => ?_)
    refine lv_iload hx hb dX11_size_12 (lv_at hl 0 rfl) ?_
    refine lv_if_lt (tgt := 42) hx hb dX11_size_14 (by decide) (fun _ => ?_) (fun c => absurd c (by decide))
    refine lv_iconst (v := 0) hx hb dX11_size_42 (by decide) ?_
    exact W.zret (v := 0) hx hb hr (by decide) (fun tt9 ht hW => ⟨⟨(0 : Int32), ((g2 : Nat → Int32)), rfl, trivial, ⟨by rw [ht]; exact hP, hD⟩⟩, hS.F ht⟩) hS.2.2 dX11_size_43 hlocks
  · refine lv_istore (lv' := [(5, .int (nI ((ff3 * 8 + ss3) * 2 + dd3))), (0, .ref (a 0)), (1, .int (nI ff3)), (2, .int (nI ss3)), (3, .int (nI dd3)), (4, .int n4)]) hx hb dX11_size_10 hl (by decide) rfl (fun ls hl => ?_)
    refine lv_iload hx hb dX11_size_12 (lv_at hl 0 rfl) ?_
    refine lv_if_lt (tgt := 42) hx hb dX11_size_14 (by decide) (fun c => absurd c (lf_X11_size_4 a ap sn sk scu sch zs zo zh zx g2 (nI ff3) (nI ss3) (nI dd3) n4 hsn hsk ff3 ss3 dd3 hff3 hss3 hdd3)) (fun _ => ?_)
    refine lv_iload hx hb dX11_size_17 (lv_at hl 5 rfl) ?_
    refine lv_iconst (v := 0) hx hb dX11_size_19 (by decide) ?_
    refine lv_bipush (v := 99) hx hb dX11_size_20 (by decide) ?_
    refine eRi (va_runS (As := [.int n4, .int 0, .int 99]) (rest := []) ⟨hx, hb, hml, hown, hts⟩ (c_X11_within l D cI cB cZ cJ tx n4 0 99 H.size) (zS hts k_527 v_X11_within ⟨Nat.le_of_ble_eq_true rfl, Nat.le_of_ble_eq_true rfl⟩) (px0 hK) rfl rfl hl.1 rfl (lv_room (Nat.le_of_ble_eq_true rfl)) dX11_size_22 ⟨Nat.le_of_ble_eq_true rfl, Nat.le_of_ble_eq_true rfl⟩) hP hS hA (fun r_5 H locs wr_5 hP hS => ?_)
    subst wr_5
    refine lv_bi_eq (tgt := 42) hx hb dX11_size_25 (by decide) (fun c_6 => ?_) (fun c_6 => ?_)
    · refine lv_iconst (v := 0) hx hb dX11_size_42 (by decide) ?_
      exact W.zret (v := 0) hx hb hr (by decide) (fun tt9 ht hW => ⟨⟨(0 : Int32), ((g2 : Nat → Int32)), rfl, trivial, ⟨by rw [ht]; exact hP, hD⟩⟩, hS.F ht⟩) hS.2.2 dX11_size_43 hlocks
    · obtain ⟨tn4, tn4a, tn4b, tn4e⟩ := of_rng 0 99 rfl rfl c_6
      subst tn4e
      refine lv_aload_n hx hb dX11_size_28 rfl (lv_at hl 1 rfl) ?_
      refine va_get (D := D) (ci := 11) (v := .ref (a 9)) (C := RX11) (T := TX11) (N := 13) hx hb hts inT_X11 hown hK.1 hP 0 rfl rfl 8 (by decide) (hts _ k_491) (fun _ h9 => h9) rfl dX11_size_29 ?_
      refine lv_iload hx hb dX11_size_32 (lv_at hl 0 rfl) ?_
      refine eRi (va_runV (As := [.int (nI ((ff3 * 8 + ss3) * 2 + dd3))]) (rest := []) ⟨hx, hb, hml, hown, hts⟩ (c_X5_othersWith l D cI cB cZ cJ tx a zs zo zh zx sn sk scu sch g2 (nI ((ff3 * 8 + ss3) * 2 + dd3)) H.size) (zV hts k_1066 v_X5_othersWith ⟨Nat.le_of_ble_eq_true rfl, Nat.le_of_ble_eq_true rfl⟩) (pV (pxS hK hP hD [2, 1, 3] (by decide) rfl) hK hP 2 rfl rfl) rfl rfl hl.1 rfl (lv_room (Nat.le_of_ble_eq_true rfl)) dX11_size_34 ⟨Nat.le_of_ble_eq_true rfl, Nat.le_of_ble_eq_true rfl⟩) hP hS hA (fun r_7 H locs wr_7 hP hS => ?_)
      refine lv_bipush (v := 60) hx hb dX11_size_37 (by decide) ?_
      refine lv_icmp_lt (tgt := 44) hx hb dX11_size_39 (by decide) (fun c_8 => ?_) (fun c_8 => ?_)
      · refine lv_aload_n hx hb dX11_size_44 rfl (lv_at hl 1 rfl) ?_
        refine va_get (D := D) (ci := 11) (v := .ref (a 5)) (C := RX11) (T := TX11) (N := 13) hx hb hts inT_X11 hown hK.1 hP 0 rfl rfl 4 (by decide) (hts _ k_487) (fun _ h9 => h9) rfl dX11_size_45 ?_
        refine va_getN (D := D) (ci := 4) (v := .ref (a 20)) (C := RX4) (T := TX4) (N := 11) hx hb hts inT_X4 hown hK.1 hP 1 rfl rfl 2 (by decide) (va_Nw.use rfl (hK.2.2.1 _ n_240)) (fun _ h9 => h9) rfl dX11_size_48 ?_
        refine lv_iload hx hb dX11_size_51 (lv_at hl 0 rfl) ?_
        refine lv_iload hx hb dX11_size_53 (lv_at hl 5 rfl) ?_
        refine st_i hx hb hK hP hD hS 3 rfl (lf_X11_size_10 a ap sn sk scu sch zs zo zh zx g2 (nI ff3) (nI ss3) (nI dd3) (nI tn4) hsn hsk ff3 ss3 dd3 hff3 hss3 hdd3 c_6 tn4 tn4a tn4b rfl r_7 c_8) dX11_size_55 (fun f_9 H locs hP hD hS => ?_)
        have hP : va_P D vwCl [(a 0, .inr (11, [.ref (a 1), .ref (a 2), .ref (a 3), .ref (a 4), .ref (a 5), .ref (a 6), .ref (a 7), .ref (a 8), .ref (a 9), .ref (a 10), .ref (a 11), .ref (a 12), .int ap])), (a 5, .inr (4, [.ref (a 18), .ref (a 19), .ref (a 20), .ref (a 21), .ref (a 22), .ref (a 23), .ref (a 24), .int (nI sn), .int (nI sk), .int scu, .int sch])), (a 9, .inr (5, [.ref (a 5), .ref (a 45), .int (nI zs), .int (nI zo), .int (nI zh), .int (nI zx)])), (a 20, .inl (cI, 384, .inl f_9))] H := hP
        have hD : va_D A [(a 0, .inr (11, [.ref (a 1), .ref (a 2), .ref (a 3), .ref (a 4), .ref (a 5), .ref (a 6), .ref (a 7), .ref (a 8), .ref (a 9), .ref (a 10), .ref (a 11), .ref (a 12), .int ap])), (a 5, .inr (4, [.ref (a 18), .ref (a 19), .ref (a 20), .ref (a 21), .ref (a 22), .ref (a 23), .ref (a 24), .int (nI sn), .int (nI sk), .int scu, .int sch])), (a 9, .inr (5, [.ref (a 5), .ref (a 45), .int (nI zs), .int (nI zo), .int (nI zh), .int (nI zx)])), (a 20, .inl (cI, 384, .inl f_9))] := hD
        refine lv_iconst (v := 1) hx hb dX11_size_56 (by decide) ?_
        exact W.zret (v := 1) hx hb hr (by decide) (fun tt9 ht hW => ⟨⟨(1 : Int32), ((f_9 : Nat → Int32)), rfl, trivial, ⟨by rw [ht]; exact hP, hD⟩⟩, hS.F ht⟩) hS.2.2 dX11_size_57 hlocks
      · refine lv_iconst (v := 0) hx hb dX11_size_42 (by decide) ?_
        exact W.zret (v := 0) hx hb hr (by decide) (fun tt9 ht hW => ⟨⟨(0 : Int32), ((g2 : Nat → Int32)), rfl, trivial, ⟨by rw [ht]; exact hP, hD⟩⟩, hS.F ht⟩) hS.2.2 dX11_size_43 hlocks
