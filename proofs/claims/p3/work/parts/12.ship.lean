set_option maxHeartbeats 4000000 in
set_option maxRecDepth 100000 in
theorem c_X4_luck (l : Launch) (D : va_G) (cI cB cZ cJ : ClassId) (tx : List (ClassId × FieldType)) (a : Nat → Nat) (sn : Nat) (sk : Nat) (scu : Int32) (sch : Int32) : WrI l D cI cB cZ cJ tx yX4_luck cX4_luck 1 (some .int) 0 0 0 [.ref (a 5)] [(a 5, .inr (4, [.ref (a 18), .ref (a 19), .ref (a 20), .ref (a 21), .ref (a 22), .ref (a 23), .ref (a 24), .int (nI sn), .int (nI sk), .int scu, .int sch]))] (fun (r : Int32) (v : (Int32)) => True) (fun v => [(a 5, .inr (4, [.ref (a 18), .ref (a 19), .ref (a 20), .ref (a 21), .ref (a 22), .ref (a 23), .ref (a 24), .int (nI sn), .int (nI sk), .int scu, .int v]))]) := by
  refine wri_of2 (by decide) (Nat.le_of_ble_eq_true rfl) ?_
  intro p e s m below meth c A ls H locs hC hK hP hD hA hS hl
  obtain ⟨hx, hb, hr, hml, hown, hts, hlocks, hin⟩ := hC
  have hown : s.vm.findClass RX4 = some m.cls := hown
  have hl : lv_has ls 1 [(0, .ref (a 5))] := hl
  refine lv_aload_n hx hb dX4_luck_0 rfl (lv_at hl 0 rfl) ?_
  refine lv_sipush (v := 25173) hx hb dX4_luck_1 (by decide) ?_
  refine lv_aload_n hx hb dX4_luck_4 rfl (lv_at hl 0 rfl) ?_
  refine va_get (D := D) (ci := 4) (v := .int sch) (C := RX4) (T := TX4) (N := 11) hx hb hts inT_X4 hown hK.1 hP 0 rfl rfl 10 (by decide) (hts _ k_262) (fun _ h9 => h9) rfl dX4_luck_5 ?_
  refine lv_imul hx hb dX4_luck_8 ?_
  refine lv_topi (fun x_1 ex_1 => ?_)
  refine lv_sipush (v := 13849) hx hb dX4_luck_9 (by decide) ?_
  refine lv_iadd hx hb dX4_luck_12 ?_
  refine lv_topi (fun x_2 ex_2 => ?_)
  refine lv_ldc (v := 65536) hx hb hown (hts _ k_840) dX4_luck_13 ?_
  refine lv_irem hx hb dX4_luck_15 (by decide) ?_
  refine lv_topi (fun x_3 _ => ?_)
  refine va_put (D := D) (ci := 4) (v := .int x_3) (ty := .int) (C := RX4) (T := TX4) (N := 11) hx hb hts inT_X4 tyX4 tyX4_ok nmX4 hown hK.1 hP hD hS 0 rfl rfl 10 (by decide) (hts _ k_262) (fun _ h9 => h9) rfl (by decide +kernel) rfl rfl (Nat.le_of_ble_eq_true rfl) dX4_luck_16 (fun H locs hP hD hS => ?_)
  have hP : va_P D vwCl [(a 5, .inr (4, [.ref (a 18), .ref (a 19), .ref (a 20), .ref (a 21), .ref (a 22), .ref (a 23), .ref (a 24), .int (nI sn), .int (nI sk), .int scu, .int x_3]))] H := hP
  have hD : va_D A [(a 5, .inr (4, [.ref (a 18), .ref (a 19), .ref (a 20), .ref (a 21), .ref (a 22), .ref (a 23), .ref (a 24), .int (nI sn), .int (nI sk), .int scu, .int x_3]))] := hD
  refine lv_aload_n hx hb dX4_luck_19 rfl (lv_at hl 0 rfl) ?_
  refine va_get (D := D) (ci := 4) (v := .int x_3) (C := RX4) (T := TX4) (N := 11) hx hb hts inT_X4 hown hK.1 hP 0 rfl rfl 10 (by decide) (hts _ k_262) (fun _ h9 => h9) rfl dX4_luck_20 ?_
  refine lv_sipush (v := 1000) hx hb dX4_luck_23 (by decide) ?_
  refine lv_irem hx hb dX4_luck_26 (by decide) ?_
  refine lv_topi (fun x_4 _ => ?_)
  exact W.iret (v := x_4) hx hb hr (fun tt9 ht hW => ⟨⟨(x_4 : Int32), ((x_3 : Int32)), rfl, trivial, ⟨by rw [ht]; exact hP, hD⟩⟩, hS.F ht⟩) hS.2.2 dX4_luck_27 hlocks

set_option maxHeartbeats 4000000 in
set_option maxRecDepth 100000 in
theorem c_X4_isCut (l : Launch) (D : va_G) (cI cB cZ cJ : ClassId) (tx : List (ClassId × FieldType)) (a : Nat → Nat) (sn : Nat) (sk : Nat) (scu : Int32) (sch : Int32) (n1 : Int32) : RdI l D cI cB cZ cJ tx yX4_isCut cX4_isCut 2 (some .boolean) 0 [.ref (a 5), .int n1] [(a 5, .inr (4, [.ref (a 18), .ref (a 19), .ref (a 20), .ref (a 21), .ref (a 22), .ref (a 23), .ref (a 24), .int (nI sn), .int (nI sk), .int scu, .int sch]))] (fun r => True) := by
  refine rdi_of2 (by decide) (Nat.le_of_ble_eq_true rfl) ?_
  intro p e s m below meth c A ls H locs hC hK hP hD hA hS hl
  obtain ⟨hx, hb, hr, hml, hown, hts, hlocks, hin⟩ := hC
  have hown : s.vm.findClass RX4 = some m.cls := hown
  have hl : lv_has ls 2 [(0, .ref (a 5)), (1, .int n1)] := hl
  refine lv_aload_n hx hb dX4_isCut_0 rfl (lv_at hl 0 rfl) ?_
  refine va_get (D := D) (ci := 4) (v := .int scu) (C := RX4) (T := TX4) (N := 11) hx hb hts inT_X4 hown hK.1 hP 0 rfl rfl 9 (by decide) (hts _ k_261) (fun _ h9 => h9) rfl dX4_isCut_1 ?_
  refine lv_iload_n hx hb dX4_isCut_4 rfl (lv_at hl 1 rfl) ?_
  refine lv_ishr hx hb dX4_isCut_5 ?_
  refine lv_topi (fun x_1 ex_1 => ?_)
  refine lv_iconst (v := 1) hx hb dX4_isCut_6 (by decide) ?_
  refine lv_iand hx hb dX4_isCut_7 ?_
  refine lv_topi (fun x_2 ex_2 => ?_)
  refine lv_if_eq (tgt := 15) hx hb dX4_isCut_8 (by decide) (fun c_3 => ?_) (fun c_3 => ?_)
  · refine lv_iconst (v := 0) hx hb dX4_isCut_15 (by decide) ?_
    exact W.zret (v := 0) hx hb hr (by decide) (fun tt9 ht hW => ⟨⟨(0 : Int32), (), rfl, trivial, trivial⟩, hS.F ht⟩) hS.2.2 dX4_isCut_16 hlocks
  · refine lv_iconst (v := 1) hx hb dX4_isCut_11 (by decide) ?_
    refine lv_goto (tgt := 16) hx hb dX4_isCut_12 (by decide) ?_
    exact W.zret (v := 1) hx hb hr (by decide) (fun tt9 ht hW => ⟨⟨(1 : Int32), (), rfl, trivial, trivial⟩, hS.F ht⟩) hS.2.2 dX4_isCut_16 hlocks

set_option maxHeartbeats 4000000 in
set_option maxRecDepth 100000 in
theorem c_X4_allStations (l : Launch) (D : va_G) (cI cB cZ cJ : ClassId) (tx : List (ClassId × FieldType)) (a : Nat → Nat) (sn : Nat) (sk : Nat) (scu : Int32) (sch : Int32) : RdI l D cI cB cZ cJ tx yX4_allStations cX4_allStations 1 (some .int) 0 [.ref (a 5)] [(a 5, .inr (4, [.ref (a 18), .ref (a 19), .ref (a 20), .ref (a 21), .ref (a 22), .ref (a 23), .ref (a 24), .int (nI sn), .int (nI sk), .int scu, .int sch]))] (fun r => True) := by
  refine rdi_of2 (by decide) (Nat.le_of_ble_eq_true rfl) ?_
  intro p e s m below meth c A ls H locs hC hK hP hD hA hS hl
  obtain ⟨hx, hb, hr, hml, hown, hts, hlocks, hin⟩ := hC
  have hown : s.vm.findClass RX4 = some m.cls := hown
  have hl : lv_has ls 1 [(0, .ref (a 5))] := hl
  refine lv_iconst (v := 1) hx hb dX4_allStations_0 (by decide) ?_
  refine lv_aload_n hx hb dX4_allStations_1 rfl (lv_at hl 0 rfl) ?_
  refine va_get (D := D) (ci := 4) (v := .int (nI sn)) (C := RX4) (T := TX4) (N := 11) hx hb hts inT_X4 hown hK.1 hP 0 rfl rfl 7 (by decide) (hts _ k_248) (fun _ h9 => h9) rfl dX4_allStations_2 ?_
  refine lv_ishl hx hb dX4_allStations_5 ?_
  refine lv_topi (fun x_1 ex_1 => ?_)
  refine lv_iconst (v := 1) hx hb dX4_allStations_6 (by decide) ?_
  refine lv_isub hx hb dX4_allStations_7 ?_
  refine lv_topi (fun x_2 ex_2 => ?_)
  exact W.iret (v := x_2) hx hb hr (fun tt9 ht hW => ⟨⟨(x_2 : Int32), (), rfl, trivial, trivial⟩, hS.F ht⟩) hS.2.2 dX4_allStations_8 hlocks

set_option maxHeartbeats 4000000 in
set_option maxRecDepth 100000 in
theorem c_X4_touchAll (l : Launch) (D : va_G) (cI cB cZ cJ : ClassId) (tx : List (ClassId × FieldType)) (a : Nat → Nat) (sn : Nat) (sk : Nat) (scu : Int32) (sch : Int32) (g5 : Nat → Int32) : WrV l D cI cB cZ cJ tx yX4_touchAll cX4_touchAll 2 none 0 0 0 [.ref (a 5)] [(a 5, .inr (4, [.ref (a 18), .ref (a 19), .ref (a 20), .ref (a 21), .ref (a 22), .ref (a 23), .ref (a 24), .int (nI sn), .int (nI sk), .int scu, .int sch])), (a 23, .inl (cI, 8, .inl g5))] (fun (v : (Nat → Int32)) => True) (fun v => [(a 5, .inr (4, [.ref (a 18), .ref (a 19), .ref (a 20), .ref (a 21), .ref (a 22), .ref (a 23), .ref (a 24), .int (nI sn), .int (nI sk), .int scu, .int sch])), (a 23, .inl (cI, 8, .inl v))]) := by
  refine wrv_of2 (by decide) (Nat.le_of_ble_eq_true rfl) ?_
  intro p e s m below meth c A ls H locs hC hK hP hD hA hS hl
  obtain ⟨hx, hb, hr, hml, hown, hts, hlocks, hin⟩ := hC
  have hown : s.vm.findClass RX4 = some m.cls := hown
  have hl : lv_has ls 2 [(0, .ref (a 5))] := hl
  refine lv_iconst (v := 0) hx hb dX4_touchAll_0 (by decide) ?_
  refine lv_istore_n (lv' := [(1, .int 0), (0, .ref (a 5))]) hx hb dX4_touchAll_1 rfl hl (by decide) rfl (fun ls hl => ?_)
  refine lv_iload_n hx hb dX4_touchAll_2 rfl (lv_at hl 0 rfl) ?_
  refine lv_bipush (v := 8) hx hb dX4_touchAll_3 (by decide) ?_
  refine lv_icmp_ge (tgt := 24) hx hb dX4_touchAll_5 (by decide) (fun c => absurd c (by decide)) (fun _ => ?_)
  refine lv_aload_n hx hb dX4_touchAll_8 rfl (lv_at hl 1 rfl) ?_
  refine va_get (D := D) (ci := 4) (v := .ref (a 23)) (C := RX4) (T := TX4) (N := 11) hx hb hts inT_X4 hown hK.1 hP 0 rfl rfl 5 (by decide) (hts _ k_245) (fun _ h9 => h9) rfl dX4_touchAll_9 ?_
  refine lv_iload_n hx hb dX4_touchAll_12 rfl (lv_at hl 0 rfl) ?_
  refine lv_dup2_11 hx hb dX4_touchAll_13 rfl rfl ?_
  refine ld_i hx hb hK hP 1 rfl (by unfold vp_in; decide) dX4_touchAll_14 (fun x_1 => ?_)
  refine lv_iconst (v := 1) hx hb dX4_touchAll_15 (by decide) ?_
  refine lv_iadd hx hb dX4_touchAll_16 ?_
  refine lv_topi (fun x_2 ex_2 => ?_)
  refine st_i hx hb hK hP hD hS 1 rfl (by unfold vp_in; decide) dX4_touchAll_17 (fun f_3 H locs hP hD hS => ?_)
  have hP : va_P D vwCl [(a 5, .inr (4, [.ref (a 18), .ref (a 19), .ref (a 20), .ref (a 21), .ref (a 22), .ref (a 23), .ref (a 24), .int (nI sn), .int (nI sk), .int scu, .int sch])), (a 23, .inl (cI, 8, .inl f_3))] H := hP
  have hD : va_D A [(a 5, .inr (4, [.ref (a 18), .ref (a 19), .ref (a 20), .ref (a 21), .ref (a 22), .ref (a 23), .ref (a 24), .int (nI sn), .int (nI sk), .int scu, .int sch])), (a 23, .inl (cI, 8, .inl f_3))] := hD
  refine lv_iinc (v := 1) (lv' := [(1, .int 1), (0, .ref (a 5))]) hx hb dX4_touchAll_18 hl (k := 0) rfl (by decide) (by decide) rfl (fun ls hl => ?_)
  refine lv_goto (tgt := 2) hx hb dX4_touchAll_21 (by decide) ?_
  refine lv_iload_n hx hb dX4_touchAll_2 rfl (lv_at hl 0 rfl) ?_
  refine lv_bipush (v := 8) hx hb dX4_touchAll_3 (by decide) ?_
  refine lv_icmp_ge (tgt := 24) hx hb dX4_touchAll_5 (by decide) (fun c => absurd c (by decide)) (fun _ => ?_)
  refine lv_aload_n hx hb dX4_touchAll_8 rfl (lv_at hl 1 rfl) ?_
  refine va_get (D := D) (ci := 4) (v := .ref (a 23)) (C := RX4) (T := TX4) (N := 11) hx hb hts inT_X4 hown hK.1 hP 0 rfl rfl 5 (by decide) (hts _ k_245) (fun _ h9 => h9) rfl dX4_touchAll_9 ?_
  refine lv_iload_n hx hb dX4_touchAll_12 rfl (lv_at hl 0 rfl) ?_
  refine lv_dup2_11 hx hb dX4_touchAll_13 rfl rfl ?_
  refine ld_i hx hb hK hP 1 rfl (by unfold vp_in; decide) dX4_touchAll_14 (fun x_4 => ?_)
  refine lv_iconst (v := 1) hx hb dX4_touchAll_15 (by decide) ?_
  refine lv_iadd hx hb dX4_touchAll_16 ?_
  refine lv_topi (fun x_5 ex_5 => ?_)
  refine st_i hx hb hK hP hD hS 1 rfl (by unfold vp_in; decide) dX4_touchAll_17 (fun f_6 H locs hP hD hS => ?_)
  have hP : va_P D vwCl [(a 5, .inr (4, [.ref (a 18), .ref (a 19), .ref (a 20), .ref (a 21), .ref (a 22), .ref (a 23), .ref (a 24), .int (nI sn), .int (nI sk), .int scu, .int sch])), (a 23, .inl (cI, 8, .inl f_6))] H := hP
  have hD : va_D A [(a 5, .inr (4, [.ref (a 18), .ref (a 19), .ref (a 20), .ref (a 21), .ref (a 22), .ref (a 23), .ref (a 24), .int (nI sn), .int (nI sk), .int scu, .int sch])), (a 23, .inl (cI, 8, .inl f_6))] := hD
  refine lv_iinc (v := 2) (lv' := [(1, .int 2), (0, .ref (a 5))]) hx hb dX4_touchAll_18 hl (k := 0) rfl (by decide) (by decide) rfl (fun ls hl => ?_)
  refine lv_goto (tgt := 2) hx hb dX4_touchAll_21 (by decide) ?_
  refine lv_iload_n hx hb dX4_touchAll_2 rfl (lv_at hl 0 rfl) ?_
  refine lv_bipush (v := 8) hx hb dX4_touchAll_3 (by decide) ?_
  refine lv_icmp_ge (tgt := 24) hx hb dX4_touchAll_5 (by decide) (fun c => absurd c (by decide)) (fun _ => ?_)
  refine lv_aload_n hx hb dX4_touchAll_8 rfl (lv_at hl 1 rfl) ?_
  refine va_get (D := D) (ci := 4) (v := .ref (a 23)) (C := RX4) (T := TX4) (N := 11) hx hb hts inT_X4 hown hK.1 hP 0 rfl rfl 5 (by decide) (hts _ k_245) (fun _ h9 => h9) rfl dX4_touchAll_9 ?_
  refine lv_iload_n hx hb dX4_touchAll_12 rfl (lv_at hl 0 rfl) ?_
  refine lv_dup2_11 hx hb dX4_touchAll_13 rfl rfl ?_
  refine ld_i hx hb hK hP 1 rfl (by unfold vp_in; decide) dX4_touchAll_14 (fun x_7 => ?_)
  refine lv_iconst (v := 1) hx hb dX4_touchAll_15 (by decide) ?_
  refine lv_iadd hx hb dX4_touchAll_16 ?_
  refine lv_topi (fun x_8 ex_8 => ?_)
  refine st_i hx hb hK hP hD hS 1 rfl (by unfold vp_in; decide) dX4_touchAll_17 (fun f_9 H locs hP hD hS => ?_)
  have hP : va_P D vwCl [(a 5, .inr (4, [.ref (a 18), .ref (a 19), .ref (a 20), .ref (a 21), .ref (a 22), .ref (a 23), .ref (a 24), .int (nI sn), .int (nI sk), .int scu, .int sch])), (a 23, .inl (cI, 8, .inl f_9))] H := hP
  have hD : va_D A [(a 5, .inr (4, [.ref (a 18), .ref (a 19), .ref (a 20), .ref (a 21), .ref (a 22), .ref (a 23), .ref (a 24), .int (nI sn), .int (nI sk), .int scu, .int sch])), (a 23, .inl (cI, 8, .inl f_9))] := hD
  refine lv_iinc (v := 3) (lv' := [(1, .int 3), (0, .ref (a 5))]) hx hb dX4_touchAll_18 hl (k := 0) rfl (by decide) (by decide) rfl (fun ls hl => ?_)
  refine lv_goto (tgt := 2) hx hb dX4_touchAll_21 (by decide) ?_
  refine lv_iload_n hx hb dX4_touchAll_2 rfl (lv_at hl 0 rfl) ?_
  refine lv_bipush (v := 8) hx hb dX4_touchAll_3 (by decide) ?_
  refine lv_icmp_ge (tgt := 24) hx hb dX4_touchAll_5 (by decide) (fun c => absurd c (by decide)) (fun _ => ?_)
  refine lv_aload_n hx hb dX4_touchAll_8 rfl (lv_at hl 1 rfl) ?_
  refine va_get (D := D) (ci := 4) (v := .ref (a 23)) (C := RX4) (T := TX4) (N := 11) hx hb hts inT_X4 hown hK.1 hP 0 rfl rfl 5 (by decide) (hts _ k_245) (fun _ h9 => h9) rfl dX4_touchAll_9 ?_
  refine lv_iload_n hx hb dX4_touchAll_12 rfl (lv_at hl 0 rfl) ?_
  refine lv_dup2_11 hx hb dX4_touchAll_13 rfl rfl ?_
  refine ld_i hx hb hK hP 1 rfl (by unfold vp_in; decide) dX4_touchAll_14 (fun x_10 => ?_)
  refine lv_iconst (v := 1) hx hb dX4_touchAll_15 (by decide) ?_
  refine lv_iadd hx hb dX4_touchAll_16 ?_
  refine lv_topi (fun x_11 ex_11 => ?_)
  refine st_i hx hb hK hP hD hS 1 rfl (by unfold vp_in; decide) dX4_touchAll_17 (fun f_12 H locs hP hD hS => ?_)
  have hP : va_P D vwCl [(a 5, .inr (4, [.ref (a 18), .ref (a 19), .ref (a 20), .ref (a 21), .ref (a 22), .ref (a 23), .ref (a 24), .int (nI sn), .int (nI sk), .int scu, .int sch])), (a 23, .inl (cI, 8, .inl f_12))] H := hP
  have hD : va_D A [(a 5, .inr (4, [.ref (a 18), .ref (a 19), .ref (a 20), .ref (a 21), .ref (a 22), .ref (a 23), .ref (a 24), .int (nI sn), .int (nI sk), .int scu, .int sch])), (a 23, .inl (cI, 8, .inl f_12))] := hD
  refine lv_iinc (v := 4) (lv' := [(1, .int 4), (0, .ref (a 5))]) hx hb dX4_touchAll_18 hl (k := 0) rfl (by decide) (by decide) rfl (fun ls hl => ?_)
  refine lv_goto (tgt := 2) hx hb dX4_touchAll_21 (by decide) ?_
  refine lv_iload_n hx hb dX4_touchAll_2 rfl (lv_at hl 0 rfl) ?_
  refine lv_bipush (v := 8) hx hb dX4_touchAll_3 (by decide) ?_
  refine lv_icmp_ge (tgt := 24) hx hb dX4_touchAll_5 (by decide) (fun c => absurd c (by decide)) (fun _ => ?_)
  refine lv_aload_n hx hb dX4_touchAll_8 rfl (lv_at hl 1 rfl) ?_
  refine va_get (D := D) (ci := 4) (v := .ref (a 23)) (C := RX4) (T := TX4) (N := 11) hx hb hts inT_X4 hown hK.1 hP 0 rfl rfl 5 (by decide) (hts _ k_245) (fun _ h9 => h9) rfl dX4_touchAll_9 ?_
  refine lv_iload_n hx hb dX4_touchAll_12 rfl (lv_at hl 0 rfl) ?_
  refine lv_dup2_11 hx hb dX4_touchAll_13 rfl rfl ?_
  refine ld_i hx hb hK hP 1 rfl (by unfold vp_in; decide) dX4_touchAll_14 (fun x_13 => ?_)
  refine lv_iconst (v := 1) hx hb dX4_touchAll_15 (by decide) ?_
  refine lv_iadd hx hb dX4_touchAll_16 ?_
  refine lv_topi (fun x_14 ex_14 => ?_)
  refine st_i hx hb hK hP hD hS 1 rfl (by unfold vp_in; decide) dX4_touchAll_17 (fun f_15 H locs hP hD hS => ?_)
  have hP : va_P D vwCl [(a 5, .inr (4, [.ref (a 18), .ref (a 19), .ref (a 20), .ref (a 21), .ref (a 22), .ref (a 23), .ref (a 24), .int (nI sn), .int (nI sk), .int scu, .int sch])), (a 23, .inl (cI, 8, .inl f_15))] H := hP
  have hD : va_D A [(a 5, .inr (4, [.ref (a 18), .ref (a 19), .ref (a 20), .ref (a 21), .ref (a 22), .ref (a 23), .ref (a 24), .int (nI sn), .int (nI sk), .int scu, .int sch])), (a 23, .inl (cI, 8, .inl f_15))] := hD
  refine lv_iinc (v := 5) (lv' := [(1, .int 5), (0, .ref (a 5))]) hx hb dX4_touchAll_18 hl (k := 0) rfl (by decide) (by decide) rfl (fun ls hl => ?_)
  refine lv_goto (tgt := 2) hx hb dX4_touchAll_21 (by decide) ?_
  refine lv_iload_n hx hb dX4_touchAll_2 rfl (lv_at hl 0 rfl) ?_
  refine lv_bipush (v := 8) hx hb dX4_touchAll_3 (by decide) ?_
  refine lv_icmp_ge (tgt := 24) hx hb dX4_touchAll_5 (by decide) (fun c => absurd c (by decide)) (fun _ => ?_)
  refine lv_aload_n hx hb dX4_touchAll_8 rfl (lv_at hl 1 rfl) ?_
  refine va_get (D := D) (ci := 4) (v := .ref (a 23)) (C := RX4) (T := TX4) (N := 11) hx hb hts inT_X4 hown hK.1 hP 0 rfl rfl 5 (by decide) (hts _ k_245) (fun _ h9 => h9) rfl dX4_touchAll_9 ?_
  refine lv_iload_n hx hb dX4_touchAll_12 rfl (lv_at hl 0 rfl) ?_
  refine lv_dup2_11 hx hb dX4_touchAll_13 rfl rfl ?_
  refine ld_i hx hb hK hP 1 rfl (by unfold vp_in; decide) dX4_touchAll_14 (fun x_16 => ?_)
  refine lv_iconst (v := 1) hx hb dX4_touchAll_15 (by decide) ?_
  refine lv_iadd hx hb dX4_touchAll_16 ?_
  refine lv_topi (fun x_17 ex_17 => ?_)
  refine st_i hx hb hK hP hD hS 1 rfl (by unfold vp_in; decide) dX4_touchAll_17 (fun f_18 H locs hP hD hS => ?_)
  have hP : va_P D vwCl [(a 5, .inr (4, [.ref (a 18), .ref (a 19), .ref (a 20), .ref (a 21), .ref (a 22), .ref (a 23), .ref (a 24), .int (nI sn), .int (nI sk), .int scu, .int sch])), (a 23, .inl (cI, 8, .inl f_18))] H := hP
  have hD : va_D A [(a 5, .inr (4, [.ref (a 18), .ref (a 19), .ref (a 20), .ref (a 21), .ref (a 22), .ref (a 23), .ref (a 24), .int (nI sn), .int (nI sk), .int scu, .int sch])), (a 23, .inl (cI, 8, .inl f_18))] := hD
  refine lv_iinc (v := 6) (lv' := [(1, .int 6), (0, .ref (a 5))]) hx hb dX4_touchAll_18 hl (k := 0) rfl (by decide) (by decide) rfl (fun ls hl => ?_)
  refine lv_goto (tgt := 2) hx hb dX4_touchAll_21 (by decide) ?_
  refine lv_iload_n hx hb dX4_touchAll_2 rfl (lv_at hl 0 rfl) ?_
  refine lv_bipush (v := 8) hx hb dX4_touchAll_3 (by decide) ?_
  refine lv_icmp_ge (tgt := 24) hx hb dX4_touchAll_5 (by decide) (fun c => absurd c (by decide)) (fun _ => ?_)
  refine lv_aload_n hx hb dX4_touchAll_8 rfl (lv_at hl 1 rfl) ?_
  refine va_get (D := D) (ci := 4) (v := .ref (a 23)) (C := RX4) (T := TX4) (N := 11) hx hb hts inT_X4 hown hK.1 hP 0 rfl rfl 5 (by decide) (hts _ k_245) (fun _ h9 => h9) rfl dX4_touchAll_9 ?_
  refine lv_iload_n hx hb dX4_touchAll_12 rfl (lv_at hl 0 rfl) ?_
  refine lv_dup2_11 hx hb dX4_touchAll_13 rfl rfl ?_
  refine ld_i hx hb hK hP 1 rfl (by unfold vp_in; decide) dX4_touchAll_14 (fun x_19 => ?_)
  refine lv_iconst (v := 1) hx hb dX4_touchAll_15 (by decide) ?_
  refine lv_iadd hx hb dX4_touchAll_16 ?_
  refine lv_topi (fun x_20 ex_20 => ?_)
  refine st_i hx hb hK hP hD hS 1 rfl (by unfold vp_in; decide) dX4_touchAll_17 (fun f_21 H locs hP hD hS => ?_)
  have hP : va_P D vwCl [(a 5, .inr (4, [.ref (a 18), .ref (a 19), .ref (a 20), .ref (a 21), .ref (a 22), .ref (a 23), .ref (a 24), .int (nI sn), .int (nI sk), .int scu, .int sch])), (a 23, .inl (cI, 8, .inl f_21))] H := hP
  have hD : va_D A [(a 5, .inr (4, [.ref (a 18), .ref (a 19), .ref (a 20), .ref (a 21), .ref (a 22), .ref (a 23), .ref (a 24), .int (nI sn), .int (nI sk), .int scu, .int sch])), (a 23, .inl (cI, 8, .inl f_21))] := hD
  refine lv_iinc (v := 7) (lv' := [(1, .int 7), (0, .ref (a 5))]) hx hb dX4_touchAll_18 hl (k := 0) rfl (by decide) (by decide) rfl (fun ls hl => ?_)
  refine lv_goto (tgt := 2) hx hb dX4_touchAll_21 (by decide) ?_
  refine lv_iload_n hx hb dX4_touchAll_2 rfl (lv_at hl 0 rfl) ?_
  refine lv_bipush (v := 8) hx hb dX4_touchAll_3 (by decide) ?_
  refine lv_icmp_ge (tgt := 24) hx hb dX4_touchAll_5 (by decide) (fun c => absurd c (by decide)) (fun _ => ?_)
  refine lv_aload_n hx hb dX4_touchAll_8 rfl (lv_at hl 1 rfl) ?_
  refine va_get (D := D) (ci := 4) (v := .ref (a 23)) (C := RX4) (T := TX4) (N := 11) hx hb hts inT_X4 hown hK.1 hP 0 rfl rfl 5 (by decide) (hts _ k_245) (fun _ h9 => h9) rfl dX4_touchAll_9 ?_
  refine lv_iload_n hx hb dX4_touchAll_12 rfl (lv_at hl 0 rfl) ?_
  refine lv_dup2_11 hx hb dX4_touchAll_13 rfl rfl ?_
  refine ld_i hx hb hK hP 1 rfl (by unfold vp_in; decide) dX4_touchAll_14 (fun x_22 => ?_)
  refine lv_iconst (v := 1) hx hb dX4_touchAll_15 (by decide) ?_
  refine lv_iadd hx hb dX4_touchAll_16 ?_
  refine lv_topi (fun x_23 ex_23 => ?_)
  refine st_i hx hb hK hP hD hS 1 rfl (by unfold vp_in; decide) dX4_touchAll_17 (fun f_24 H locs hP hD hS => ?_)
  have hP : va_P D vwCl [(a 5, .inr (4, [.ref (a 18), .ref (a 19), .ref (a 20), .ref (a 21), .ref (a 22), .ref (a 23), .ref (a 24), .int (nI sn), .int (nI sk), .int scu, .int sch])), (a 23, .inl (cI, 8, .inl f_24))] H := hP
  have hD : va_D A [(a 5, .inr (4, [.ref (a 18), .ref (a 19), .ref (a 20), .ref (a 21), .ref (a 22), .ref (a 23), .ref (a 24), .int (nI sn), .int (nI sk), .int scu, .int sch])), (a 23, .inl (cI, 8, .inl f_24))] := hD
  refine lv_iinc (v := 8) (lv' := [(1, .int 8), (0, .ref (a 5))]) hx hb dX4_touchAll_18 hl (k := 0) rfl (by decide) (by decide) rfl (fun ls hl => ?_)
  refine lv_goto (tgt := 2) hx hb dX4_touchAll_21 (by decide) ?_
  refine lv_iload_n hx hb dX4_touchAll_2 rfl (lv_at hl 0 rfl) ?_
  refine lv_bipush (v := 8) hx hb dX4_touchAll_3 (by decide) ?_
  refine lv_icmp_ge (tgt := 24) hx hb dX4_touchAll_5 (by decide) (fun _ => ?_) (fun c => absurd c (by decide))
  exact W.vret hx hb hr (fun tt9 ht hW => ⟨⟨((f_24 : Nat → Int32)), rfl, trivial, ⟨by rw [ht]; exact hP, hD⟩⟩, hS.F ht⟩) hS.2.2 dX4_touchAll_24 hlocks

set_option maxHeartbeats 4000000 in
set_option maxRecDepth 100000 in
theorem c_X4_cutAway (l : Launch) (D : va_G) (cI cB cZ cJ : ClassId) (tx : List (ClassId × FieldType)) (a : Nat → Nat) (sn : Nat) (sk : Nat) (scu : Int32) (sch : Int32) (g5 : Nat → Int32) (n1 : Int32) : WrV l D cI cB cZ cJ tx yX4_cutAway cX4_cutAway 2 none 1 0 0 [.ref (a 5), .int n1] [(a 5, .inr (4, [.ref (a 18), .ref (a 19), .ref (a 20), .ref (a 21), .ref (a 22), .ref (a 23), .ref (a 24), .int (nI sn), .int (nI sk), .int scu, .int sch])), (a 23, .inl (cI, 8, .inl g5))] (fun (v : (Int32) × (Nat → Int32)) => True) (fun v => [(a 5, .inr (4, [.ref (a 18), .ref (a 19), .ref (a 20), .ref (a 21), .ref (a 22), .ref (a 23), .ref (a 24), .int (nI sn), .int (nI sk), .int v.1, .int sch])), (a 23, .inl (cI, 8, .inl v.2))]) := by
  refine wrv_of2 (by decide) (Nat.le_of_ble_eq_true rfl) ?_
  intro p e s m below meth c A ls H locs hC hK hP hD hA hS hl
  obtain ⟨hx, hb, hr, hml, hown, hts, hlocks, hin⟩ := hC
  have hown : s.vm.findClass RX4 = some m.cls := hown
  have hl : lv_has ls 2 [(0, .ref (a 5)), (1, .int n1)] := hl
  refine lv_aload_n hx hb dX4_cutAway_0 rfl (lv_at hl 0 rfl) ?_
  refine lv_iload_n hx hb dX4_cutAway_1 rfl (lv_at hl 1 rfl) ?_
  refine va_put (D := D) (ci := 4) (v := .int n1) (ty := .int) (C := RX4) (T := TX4) (N := 11) hx hb hts inT_X4 tyX4 tyX4_ok nmX4 hown hK.1 hP hD hS 0 rfl rfl 9 (by decide) (hts _ k_261) (fun _ h9 => h9) rfl (by decide +kernel) rfl rfl (Nat.le_of_ble_eq_true rfl) dX4_cutAway_2 (fun H locs hP hD hS => ?_)
  have hP : va_P D vwCl [(a 5, .inr (4, [.ref (a 18), .ref (a 19), .ref (a 20), .ref (a 21), .ref (a 22), .ref (a 23), .ref (a 24), .int (nI sn), .int (nI sk), .int n1, .int sch])), (a 23, .inl (cI, 8, .inl g5))] H := hP
  have hD : va_D A [(a 5, .inr (4, [.ref (a 18), .ref (a 19), .ref (a 20), .ref (a 21), .ref (a 22), .ref (a 23), .ref (a 24), .int (nI sn), .int (nI sk), .int n1, .int sch])), (a 23, .inl (cI, 8, .inl g5))] := hD
  refine lv_aload_n hx hb dX4_cutAway_5 rfl (lv_at hl 0 rfl) ?_
  refine eWv (wr := []) (va_runV (As := []) (rest := []) ⟨hx, hb, hml, hown, hts⟩ (c_X4_touchAll l D cI cB cZ cJ tx a sn sk n1 sch g5 H.size) (zV hts k_812 v_X4_touchAll ⟨Nat.le_of_ble_eq_true rfl, Nat.le_of_ble_eq_true rfl⟩) (pV (pxS hK hP hD [0, 1] (by decide) rfl) hK hP 0 rfl rfl) rfl rfl hl.1 rfl (lv_room (Nat.le_of_ble_eq_true rfl)) dX4_cutAway_6 ⟨Nat.le_of_ble_eq_true rfl, Nat.le_of_ble_eq_true rfl⟩) hP hD hS hA [0, 1] [] rfl rfl (by decide) (by decide) (fun u_2 H locs wr_1 hP hD hS => ?_)
  obtain ⟨g5_2, rfl⟩ : ∃ z, z = u_2 := ⟨_, rfl⟩
  have hP : va_P D vwCl [(a 5, .inr (4, [.ref (a 18), .ref (a 19), .ref (a 20), .ref (a 21), .ref (a 22), .ref (a 23), .ref (a 24), .int (nI sn), .int (nI sk), .int n1, .int sch])), (a 23, .inl (cI, 8, .inl g5_2))] H := hP
  have hD : va_D A [(a 5, .inr (4, [.ref (a 18), .ref (a 19), .ref (a 20), .ref (a 21), .ref (a 22), .ref (a 23), .ref (a 24), .int (nI sn), .int (nI sk), .int n1, .int sch])), (a 23, .inl (cI, 8, .inl g5_2))] := hD
  exact W.vret hx hb hr (fun tt9 ht hW => ⟨⟨((n1 : Int32), (g5_2 : Nat → Int32)), rfl, trivial, ⟨by rw [ht]; exact hP, hD⟩⟩, hS.F ht⟩) hS.2.2 dX4_cutAway_9 hlocks

theorem lf_X4_tell_2 (a : Nat → Nat) (sn : Nat) (sk : Nat) (scu : Int32) (sch : Int32) (g0 : Nat → Int32) (g1 : Nat → Int32) (g3 : Nat → Int32) (g5 : Nat → Int32) (x1 : Nat) (x2 : Nat) (n3 : Int32) (n4 : Int32) (hx1 : x1 < 384) (hx2 : x2 < 8) : vp_in (nI x1) 384 := by
  first | exact vp_in_nI (by omega) (by decide) | (unfold vp_in; decide)
theorem lf_X4_tell_4 (a : Nat → Nat) (sn : Nat) (sk : Nat) (scu : Int32) (sch : Int32) (g0 : Nat → Int32) (g1 : Nat → Int32) (g3 : Nat → Int32) (g5 : Nat → Int32) (x1 : Nat) (x2 : Nat) (n3 : Int32) (n4 : Int32) (hx1 : x1 < 384) (hx2 : x2 < 8) (f_1 : Nat → Int32) : vp_in (nI x1) 384 := by
  first | exact vp_in_nI (by omega) (by decide) | (unfold vp_in; decide)
theorem lf_X4_tell_6 (a : Nat → Nat) (sn : Nat) (sk : Nat) (scu : Int32) (sch : Int32) (g0 : Nat → Int32) (g1 : Nat → Int32) (g3 : Nat → Int32) (g5 : Nat → Int32) (x1 : Nat) (x2 : Nat) (n3 : Int32) (n4 : Int32) (hx1 : x1 < 384) (hx2 : x2 < 8) (f_1 : Nat → Int32) (f_3 : Nat → Int32) : vp_in (nI x1) 384 := by
  first | exact vp_in_nI (by omega) (by decide) | (unfold vp_in; decide)
theorem lf_X4_tell_7 (a : Nat → Nat) (sn : Nat) (sk : Nat) (scu : Int32) (sch : Int32) (g0 : Nat → Int32) (g1 : Nat → Int32) (g3 : Nat → Int32) (g5 : Nat → Int32) (x1 : Nat) (x2 : Nat) (n3 : Int32) (n4 : Int32) (hx1 : x1 < 384) (hx2 : x2 < 8) (f_1 : Nat → Int32) (f_3 : Nat → Int32) (f_5 : Nat → Int32) : vp_in (nI x2) 8 := by
  first | exact vp_in_nI (by omega) (by decide) | (unfold vp_in; decide)
theorem lf_X4_tell_11 (a : Nat → Nat) (sn : Nat) (sk : Nat) (scu : Int32) (sch : Int32) (g0 : Nat → Int32) (g1 : Nat → Int32) (g3 : Nat → Int32) (g5 : Nat → Int32) (x1 : Nat) (x2 : Nat) (n3 : Int32) (n4 : Int32) (hx1 : x1 < 384) (hx2 : x2 < 8) (f_1 : Nat → Int32) (f_3 : Nat → Int32) (f_5 : Nat → Int32) (x_8 : Int32) (x_9 : Int32) (ex_9 : x_9 = x_8 + 1) : vp_in (nI x2) 8 := by
  first | exact vp_in_nI (by omega) (by decide) | (unfold vp_in; decide)
set_option maxHeartbeats 4000000 in
set_option maxRecDepth 100000 in
theorem c_X4_tell (l : Launch) (D : va_G) (cI cB cZ cJ : ClassId) (tx : List (ClassId × FieldType)) (a : Nat → Nat) (sn : Nat) (sk : Nat) (scu : Int32) (sch : Int32) (g0 : Nat → Int32) (g1 : Nat → Int32) (g3 : Nat → Int32) (g5 : Nat → Int32) (x1 : Nat) (x2 : Nat) (n3 : Int32) (n4 : Int32) (hx1 : x1 < 384) (hx2 : x2 < 8) : WrV l D cI cB cZ cJ tx yX4_tell cX4_tell 5 none 0 0 0 [.ref (a 5), .int (nI x1), .int (nI x2), .int n3, .int n4] [(a 5, .inr (4, [.ref (a 18), .ref (a 19), .ref (a 20), .ref (a 21), .ref (a 22), .ref (a 23), .ref (a 24), .int (nI sn), .int (nI sk), .int scu, .int sch])), (a 18, .inl (cI, 384, .inl g0)), (a 19, .inl (cI, 384, .inl g1)), (a 21, .inl (cZ, 384, .inl g3)), (a 23, .inl (cI, 8, .inl g5))] (fun (v : (Nat → Int32) × (Nat → Int32) × (Nat → Int32) × (Nat → Int32)) => True) (fun v => [(a 5, .inr (4, [.ref (a 18), .ref (a 19), .ref (a 20), .ref (a 21), .ref (a 22), .ref (a 23), .ref (a 24), .int (nI sn), .int (nI sk), .int scu, .int sch])), (a 18, .inl (cI, 384, .inl v.1)), (a 19, .inl (cI, 384, .inl v.2.1)), (a 21, .inl (cZ, 384, .inl v.2.2.1)), (a 23, .inl (cI, 8, .inl v.2.2.2))]) := by
  refine wrv_of2 (by decide) (Nat.le_of_ble_eq_true rfl) ?_
  intro p e s m below meth c A ls H locs hC hK hP hD hA hS hl
  obtain ⟨hx, hb, hr, hml, hown, hts, hlocks, hin⟩ := hC
  have hown : s.vm.findClass RX4 = some m.cls := hown
  have hl : lv_has ls 5 [(0, .ref (a 5)), (1, .int (nI x1)), (2, .int (nI x2)), (3, .int n3), (4, .int n4)] := hl
  refine lv_aload_n hx hb dX4_tell_0 rfl (lv_at hl 0 rfl) ?_
  refine va_get (D := D) (ci := 4) (v := .ref (a 18)) (C := RX4) (T := TX4) (N := 11) hx hb hts inT_X4 hown hK.1 hP 0 rfl rfl 0 (by decide) (hts _ k_231) (fun _ h9 => h9) rfl dX4_tell_1 ?_
  refine lv_iload_n hx hb dX4_tell_4 rfl (lv_at hl 1 rfl) ?_
  refine lv_iload_n hx hb dX4_tell_5 rfl (lv_at hl 3 rfl) ?_
  refine st_i hx hb hK hP hD hS 1 rfl (lf_X4_tell_2 a sn sk scu sch g0 g1 g3 g5 x1 x2 n3 n4 hx1 hx2) dX4_tell_6 (fun f_1 H locs hP hD hS => ?_)
  have hP : va_P D vwCl [(a 5, .inr (4, [.ref (a 18), .ref (a 19), .ref (a 20), .ref (a 21), .ref (a 22), .ref (a 23), .ref (a 24), .int (nI sn), .int (nI sk), .int scu, .int sch])), (a 18, .inl (cI, 384, .inl f_1)), (a 19, .inl (cI, 384, .inl g1)), (a 21, .inl (cZ, 384, .inl g3)), (a 23, .inl (cI, 8, .inl g5))] H := hP
  have hD : va_D A [(a 5, .inr (4, [.ref (a 18), .ref (a 19), .ref (a 20), .ref (a 21), .ref (a 22), .ref (a 23), .ref (a 24), .int (nI sn), .int (nI sk), .int scu, .int sch])), (a 18, .inl (cI, 384, .inl f_1)), (a 19, .inl (cI, 384, .inl g1)), (a 21, .inl (cZ, 384, .inl g3)), (a 23, .inl (cI, 8, .inl g5))] := hD
  refine lv_aload_n hx hb dX4_tell_7 rfl (lv_at hl 0 rfl) ?_
  refine va_get (D := D) (ci := 4) (v := .ref (a 19)) (C := RX4) (T := TX4) (N := 11) hx hb hts inT_X4 hown hK.1 hP 0 rfl rfl 1 (by decide) (hts _ k_235) (fun _ h9 => h9) rfl dX4_tell_8 ?_
  refine lv_iload_n hx hb dX4_tell_11 rfl (lv_at hl 1 rfl) ?_
  refine lv_iload hx hb dX4_tell_12 (lv_at hl 4 rfl) ?_
  refine st_i hx hb hK hP hD hS 2 rfl (lf_X4_tell_4 a sn sk scu sch g0 g1 g3 g5 x1 x2 n3 n4 hx1 hx2 f_1) dX4_tell_14 (fun f_3 H locs hP hD hS => ?_)
  have hP : va_P D vwCl [(a 5, .inr (4, [.ref (a 18), .ref (a 19), .ref (a 20), .ref (a 21), .ref (a 22), .ref (a 23), .ref (a 24), .int (nI sn), .int (nI sk), .int scu, .int sch])), (a 18, .inl (cI, 384, .inl f_1)), (a 19, .inl (cI, 384, .inl f_3)), (a 21, .inl (cZ, 384, .inl g3)), (a 23, .inl (cI, 8, .inl g5))] H := hP
  have hD : va_D A [(a 5, .inr (4, [.ref (a 18), .ref (a 19), .ref (a 20), .ref (a 21), .ref (a 22), .ref (a 23), .ref (a 24), .int (nI sn), .int (nI sk), .int scu, .int sch])), (a 18, .inl (cI, 384, .inl f_1)), (a 19, .inl (cI, 384, .inl f_3)), (a 21, .inl (cZ, 384, .inl g3)), (a 23, .inl (cI, 8, .inl g5))] := hD
  refine lv_aload_n hx hb dX4_tell_15 rfl (lv_at hl 0 rfl) ?_
  refine va_get (D := D) (ci := 4) (v := .ref (a 21)) (C := RX4) (T := TX4) (N := 11) hx hb hts inT_X4 hown hK.1 hP 0 rfl rfl 3 (by decide) (hts _ k_241) (fun _ h9 => h9) rfl dX4_tell_16 ?_
  refine lv_iload_n hx hb dX4_tell_19 rfl (lv_at hl 1 rfl) ?_
  refine lv_iconst (v := 0) hx hb dX4_tell_20 (by decide) ?_
  refine st_z hx hb hK hP hD hS 3 rfl (lf_X4_tell_6 a sn sk scu sch g0 g1 g3 g5 x1 x2 n3 n4 hx1 hx2 f_1 f_3) dX4_tell_21 (fun f_5 H locs hP hD hS => ?_)
  have hP : va_P D vwCl [(a 5, .inr (4, [.ref (a 18), .ref (a 19), .ref (a 20), .ref (a 21), .ref (a 22), .ref (a 23), .ref (a 24), .int (nI sn), .int (nI sk), .int scu, .int sch])), (a 18, .inl (cI, 384, .inl f_1)), (a 19, .inl (cI, 384, .inl f_3)), (a 21, .inl (cZ, 384, .inl f_5)), (a 23, .inl (cI, 8, .inl g5))] H := hP
  have hD : va_D A [(a 5, .inr (4, [.ref (a 18), .ref (a 19), .ref (a 20), .ref (a 21), .ref (a 22), .ref (a 23), .ref (a 24), .int (nI sn), .int (nI sk), .int scu, .int sch])), (a 18, .inl (cI, 384, .inl f_1)), (a 19, .inl (cI, 384, .inl f_3)), (a 21, .inl (cZ, 384, .inl f_5)), (a 23, .inl (cI, 8, .inl g5))] := hD
  refine lv_aload_n hx hb dX4_tell_22 rfl (lv_at hl 0 rfl) ?_
  refine va_get (D := D) (ci := 4) (v := .ref (a 23)) (C := RX4) (T := TX4) (N := 11) hx hb hts inT_X4 hown hK.1 hP 0 rfl rfl 5 (by decide) (hts _ k_245) (fun _ h9 => h9) rfl dX4_tell_23 ?_
  refine lv_iload_n hx hb dX4_tell_26 rfl (lv_at hl 2 rfl) ?_
  refine lv_dup2_11 hx hb dX4_tell_27 rfl rfl ?_
  refine ld_i hx hb hK hP 4 rfl (lf_X4_tell_7 a sn sk scu sch g0 g1 g3 g5 x1 x2 n3 n4 hx1 hx2 f_1 f_3 f_5) dX4_tell_28 (fun x_8 => ?_)
  refine lv_iconst (v := 1) hx hb dX4_tell_29 (by decide) ?_
  refine lv_iadd hx hb dX4_tell_30 ?_
  refine lv_topi (fun x_9 ex_9 => ?_)
  refine st_i hx hb hK hP hD hS 4 rfl (lf_X4_tell_11 a sn sk scu sch g0 g1 g3 g5 x1 x2 n3 n4 hx1 hx2 f_1 f_3 f_5 x_8 x_9 ex_9) dX4_tell_31 (fun f_10 H locs hP hD hS => ?_)
  have hP : va_P D vwCl [(a 5, .inr (4, [.ref (a 18), .ref (a 19), .ref (a 20), .ref (a 21), .ref (a 22), .ref (a 23), .ref (a 24), .int (nI sn), .int (nI sk), .int scu, .int sch])), (a 18, .inl (cI, 384, .inl f_1)), (a 19, .inl (cI, 384, .inl f_3)), (a 21, .inl (cZ, 384, .inl f_5)), (a 23, .inl (cI, 8, .inl f_10))] H := hP
  have hD : va_D A [(a 5, .inr (4, [.ref (a 18), .ref (a 19), .ref (a 20), .ref (a 21), .ref (a 22), .ref (a 23), .ref (a 24), .int (nI sn), .int (nI sk), .int scu, .int sch])), (a 18, .inl (cI, 384, .inl f_1)), (a 19, .inl (cI, 384, .inl f_3)), (a 21, .inl (cZ, 384, .inl f_5)), (a 23, .inl (cI, 8, .inl f_10))] := hD
  exact W.vret hx hb hr (fun tt9 ht hW => ⟨⟨((f_1 : Nat → Int32), (f_3 : Nat → Int32), (f_5 : Nat → Int32), (f_10 : Nat → Int32)), rfl, trivial, ⟨by rw [ht]; exact hP, hD⟩⟩, hS.F ht⟩) hS.2.2 dX4_tell_32 hlocks

theorem lf_X4_lose_2 (a : Nat → Nat) (sn : Nat) (sk : Nat) (scu : Int32) (sch : Int32) (g3 : Nat → Int32) (g5 : Nat → Int32) (x1 : Nat) (x2 : Nat) (hx1 : x1 < 384) (hx2 : x2 < 8) : vp_in (nI x1) 384 := by
  first | exact vp_in_nI (by omega) (by decide) | (unfold vp_in; decide)
theorem lf_X4_lose_3 (a : Nat → Nat) (sn : Nat) (sk : Nat) (scu : Int32) (sch : Int32) (g3 : Nat → Int32) (g5 : Nat → Int32) (x1 : Nat) (x2 : Nat) (hx1 : x1 < 384) (hx2 : x2 < 8) (f_1 : Nat → Int32) : vp_in (nI x2) 8 := by
  first | exact vp_in_nI (by omega) (by decide) | (unfold vp_in; decide)
theorem lf_X4_lose_7 (a : Nat → Nat) (sn : Nat) (sk : Nat) (scu : Int32) (sch : Int32) (g3 : Nat → Int32) (g5 : Nat → Int32) (x1 : Nat) (x2 : Nat) (hx1 : x1 < 384) (hx2 : x2 < 8) (f_1 : Nat → Int32) (x_4 : Int32) (x_5 : Int32) (ex_5 : x_5 = x_4 + 1) : vp_in (nI x2) 8 := by
  first | exact vp_in_nI (by omega) (by decide) | (unfold vp_in; decide)
set_option maxHeartbeats 4000000 in
set_option maxRecDepth 100000 in
theorem c_X4_lose (l : Launch) (D : va_G) (cI cB cZ cJ : ClassId) (tx : List (ClassId × FieldType)) (a : Nat → Nat) (sn : Nat) (sk : Nat) (scu : Int32) (sch : Int32) (g3 : Nat → Int32) (g5 : Nat → Int32) (x1 : Nat) (x2 : Nat) (hx1 : x1 < 384) (hx2 : x2 < 8) : WrV l D cI cB cZ cJ tx yX4_lose cX4_lose 3 none 0 0 0 [.ref (a 5), .int (nI x1), .int (nI x2)] [(a 5, .inr (4, [.ref (a 18), .ref (a 19), .ref (a 20), .ref (a 21), .ref (a 22), .ref (a 23), .ref (a 24), .int (nI sn), .int (nI sk), .int scu, .int sch])), (a 21, .inl (cZ, 384, .inl g3)), (a 23, .inl (cI, 8, .inl g5))] (fun (v : (Nat → Int32) × (Nat → Int32)) => True) (fun v => [(a 5, .inr (4, [.ref (a 18), .ref (a 19), .ref (a 20), .ref (a 21), .ref (a 22), .ref (a 23), .ref (a 24), .int (nI sn), .int (nI sk), .int scu, .int sch])), (a 21, .inl (cZ, 384, .inl v.1)), (a 23, .inl (cI, 8, .inl v.2))]) := by
  refine wrv_of2 (by decide) (Nat.le_of_ble_eq_true rfl) ?_
  intro p e s m below meth c A ls H locs hC hK hP hD hA hS hl
  obtain ⟨hx, hb, hr, hml, hown, hts, hlocks, hin⟩ := hC
  have hown : s.vm.findClass RX4 = some m.cls := hown
  have hl : lv_has ls 3 [(0, .ref (a 5)), (1, .int (nI x1)), (2, .int (nI x2))] := hl
  refine lv_aload_n hx hb dX4_lose_0 rfl (lv_at hl 0 rfl) ?_
  refine va_get (D := D) (ci := 4) (v := .ref (a 21)) (C := RX4) (T := TX4) (N := 11) hx hb hts inT_X4 hown hK.1 hP 0 rfl rfl 3 (by decide) (hts _ k_241) (fun _ h9 => h9) rfl dX4_lose_1 ?_
  refine lv_iload_n hx hb dX4_lose_4 rfl (lv_at hl 1 rfl) ?_
  refine lv_iconst (v := 1) hx hb dX4_lose_5 (by decide) ?_
  refine st_z hx hb hK hP hD hS 1 rfl (lf_X4_lose_2 a sn sk scu sch g3 g5 x1 x2 hx1 hx2) dX4_lose_6 (fun f_1 H locs hP hD hS => ?_)
  have hP : va_P D vwCl [(a 5, .inr (4, [.ref (a 18), .ref (a 19), .ref (a 20), .ref (a 21), .ref (a 22), .ref (a 23), .ref (a 24), .int (nI sn), .int (nI sk), .int scu, .int sch])), (a 21, .inl (cZ, 384, .inl f_1)), (a 23, .inl (cI, 8, .inl g5))] H := hP
  have hD : va_D A [(a 5, .inr (4, [.ref (a 18), .ref (a 19), .ref (a 20), .ref (a 21), .ref (a 22), .ref (a 23), .ref (a 24), .int (nI sn), .int (nI sk), .int scu, .int sch])), (a 21, .inl (cZ, 384, .inl f_1)), (a 23, .inl (cI, 8, .inl g5))] := hD
  refine lv_aload_n hx hb dX4_lose_7 rfl (lv_at hl 0 rfl) ?_
  refine va_get (D := D) (ci := 4) (v := .ref (a 23)) (C := RX4) (T := TX4) (N := 11) hx hb hts inT_X4 hown hK.1 hP 0 rfl rfl 5 (by decide) (hts _ k_245) (fun _ h9 => h9) rfl dX4_lose_8 ?_
  refine lv_iload_n hx hb dX4_lose_11 rfl (lv_at hl 2 rfl) ?_
  refine lv_dup2_11 hx hb dX4_lose_12 rfl rfl ?_
  refine ld_i hx hb hK hP 2 rfl (lf_X4_lose_3 a sn sk scu sch g3 g5 x1 x2 hx1 hx2 f_1) dX4_lose_13 (fun x_4 => ?_)
  refine lv_iconst (v := 1) hx hb dX4_lose_14 (by decide) ?_
  refine lv_iadd hx hb dX4_lose_15 ?_
  refine lv_topi (fun x_5 ex_5 => ?_)
  refine st_i hx hb hK hP hD hS 2 rfl (lf_X4_lose_7 a sn sk scu sch g3 g5 x1 x2 hx1 hx2 f_1 x_4 x_5 ex_5) dX4_lose_16 (fun f_6 H locs hP hD hS => ?_)
  have hP : va_P D vwCl [(a 5, .inr (4, [.ref (a 18), .ref (a 19), .ref (a 20), .ref (a 21), .ref (a 22), .ref (a 23), .ref (a 24), .int (nI sn), .int (nI sk), .int scu, .int sch])), (a 21, .inl (cZ, 384, .inl f_1)), (a 23, .inl (cI, 8, .inl f_6))] H := hP
  have hD : va_D A [(a 5, .inr (4, [.ref (a 18), .ref (a 19), .ref (a 20), .ref (a 21), .ref (a 22), .ref (a 23), .ref (a 24), .int (nI sn), .int (nI sk), .int scu, .int sch])), (a 21, .inl (cZ, 384, .inl f_1)), (a 23, .inl (cI, 8, .inl f_6))] := hD
  exact W.vret hx hb hr (fun tt9 ht hW => ⟨⟨((f_1 : Nat → Int32), (f_6 : Nat → Int32)), rfl, trivial, ⟨by rw [ht]; exact hP, hD⟩⟩, hS.F ht⟩) hS.2.2 dX4_lose_17 hlocks

theorem lf_X4_isSeen_1 (a : Nat → Nat) (sn : Nat) (sk : Nat) (scu : Int32) (sch : Int32) (g3 : Nat → Int32) (x1 : Nat) (n2 : Int32) (hx1 : x1 < 384) : vp_in (nI x1) 384 := by
  first | exact vp_in_nI (by omega) (by decide) | (unfold vp_in; decide)
set_option maxHeartbeats 4000000 in
set_option maxRecDepth 100000 in
theorem c_X4_isSeen (l : Launch) (D : va_G) (cI cB cZ cJ : ClassId) (tx : List (ClassId × FieldType)) (a : Nat → Nat) (sn : Nat) (sk : Nat) (scu : Int32) (sch : Int32) (g3 : Nat → Int32) (x1 : Nat) (n2 : Int32) (hx1 : x1 < 384) : RdI l D cI cB cZ cJ tx yX4_isSeen cX4_isSeen 3 (some .boolean) 1 [.ref (a 5), .int (nI x1), .int n2] [(a 5, .inr (4, [.ref (a 18), .ref (a 19), .ref (a 20), .ref (a 21), .ref (a 22), .ref (a 23), .ref (a 24), .int (nI sn), .int (nI sk), .int scu, .int sch])), (a 21, .inl (cZ, 384, .inl g3))] (fun r => True) := by
  refine rdi_of2 (by decide) (Nat.le_of_ble_eq_true rfl) ?_
  intro p e s m below meth c A ls H locs hC hK hP hD hA hS hl
  obtain ⟨hx, hb, hr, hml, hown, hts, hlocks, hin⟩ := hC
  have hown : s.vm.findClass RX4 = some m.cls := hown
  have hl : lv_has ls 3 [(0, .ref (a 5)), (1, .int (nI x1)), (2, .int n2)] := hl
  refine lv_aload_n hx hb dX4_isSeen_0 rfl (lv_at hl 0 rfl) ?_
  refine va_get (D := D) (ci := 4) (v := .ref (a 21)) (C := RX4) (T := TX4) (N := 11) hx hb hts inT_X4 hown hK.1 hP 0 rfl rfl 3 (by decide) (hts _ k_241) (fun _ h9 => h9) rfl dX4_isSeen_1 ?_
  refine lv_iload_n hx hb dX4_isSeen_4 rfl (lv_at hl 1 rfl) ?_
  refine ld_z hx hb hK hP 1 rfl (lf_X4_isSeen_1 a sn sk scu sch g3 x1 n2 hx1) dX4_isSeen_5 (fun x_2 => ?_)
  refine lv_if_ne (tgt := 21) hx hb dX4_isSeen_6 (by decide) (fun c_3 => ?_) (fun c_3 => ?_)
  · refine lv_iconst (v := 0) hx hb dX4_isSeen_21 (by decide) ?_
    exact W.zret (v := 0) hx hb hr (by decide) (fun tt9 ht hW => ⟨⟨(0 : Int32), (), rfl, trivial, trivial⟩, hS.F ht⟩) hS.2.2 dX4_isSeen_22 hlocks
  · refine lv_aload_n hx hb dX4_isSeen_9 rfl (lv_at hl 0 rfl) ?_
    refine lv_iload_n hx hb dX4_isSeen_10 rfl (lv_at hl 2 rfl) ?_
    refine eRi (va_runV (As := [.int n2]) (rest := []) ⟨hx, hb, hml, hown, hts⟩ (c_X4_isCut l D cI cB cZ cJ tx a sn sk scu sch n2 H.size) (zV hts k_871 v_X4_isCut ⟨Nat.le_of_ble_eq_true rfl, Nat.le_of_ble_eq_true rfl⟩) (pV (px1 hK hP 0 rfl) hK hP 0 rfl rfl) rfl rfl hl.1 rfl (lv_room (Nat.le_of_ble_eq_true rfl)) dX4_isSeen_11 ⟨Nat.le_of_ble_eq_true rfl, Nat.le_of_ble_eq_true rfl⟩) hP hS hA (fun r_4 H locs wr_4 hP hS => ?_)
    refine lv_if_ne (tgt := 21) hx hb dX4_isSeen_14 (by decide) (fun c_5 => ?_) (fun c_5 => ?_)
    · refine lv_iconst (v := 0) hx hb dX4_isSeen_21 (by decide) ?_
      exact W.zret (v := 0) hx hb hr (by decide) (fun tt9 ht hW => ⟨⟨(0 : Int32), (), rfl, trivial, trivial⟩, hS.F ht⟩) hS.2.2 dX4_isSeen_22 hlocks
    · refine lv_iconst (v := 1) hx hb dX4_isSeen_17 (by decide) ?_
      refine lv_goto (tgt := 22) hx hb dX4_isSeen_18 (by decide) ?_
      exact W.zret (v := 1) hx hb hr (by decide) (fun tt9 ht hW => ⟨⟨(1 : Int32), (), rfl, trivial, trivial⟩, hS.F ht⟩) hS.2.2 dX4_isSeen_22 hlocks

theorem lf_X4_rivetAt_g_3 (a : Nat → Nat) (sn : Nat) (sk : Nat) (scu : Int32) (sch : Int32) (f1 : Nat) (s1 : Nat) (d1 : Nat) (hsn : sn ≤ 24) (hsk : sk ≤ 8) (hf : f1 < sn) (hs : s1 < sk) (hd : d1 < 2) (c_2 : ¬ ((0 : Int32) ≤ nI f1 ∧ nI f1 ≤ nI sn - 1)) : False := by
  exact absurd (in_nI hf (by omega)) (by assumption)
theorem lf_X4_rivetAt_g_6 (a : Nat → Nat) (sn : Nat) (sk : Nat) (scu : Int32) (sch : Int32) (f1 : Nat) (s1 : Nat) (d1 : Nat) (hsn : sn ≤ 24) (hsk : sk ≤ 8) (hf : f1 < sn) (hs : s1 < sk) (hd : d1 < 2) (c_2 : (0 : Int32) ≤ nI f1 ∧ nI f1 ≤ nI sn - 1) (c_5 : ¬ ((0 : Int32) ≤ nI s1 ∧ nI s1 ≤ nI sk - 1)) : False := by
  exact absurd (in_nI hs (by omega)) (by assumption)
theorem lf_X4_rivetAt_g_9 (a : Nat → Nat) (sn : Nat) (sk : Nat) (scu : Int32) (sch : Int32) (f1 : Nat) (s1 : Nat) (d1 : Nat) (hsn : sn ≤ 24) (hsk : sk ≤ 8) (hf : f1 < sn) (hs : s1 < sk) (hd : d1 < 2) (c_2 : (0 : Int32) ≤ nI f1 ∧ nI f1 ≤ nI sn - 1) (c_5 : (0 : Int32) ≤ nI s1 ∧ nI s1 ≤ nI sk - 1) (c_8 : ¬ ((0 : Int32) ≤ nI d1 ∧ nI d1 ≤ 1)) : False := by
  exact absurd (in_nI1 hd) (by assumption)
theorem lf_X4_rivetAt_g_10 (a : Nat → Nat) (sn : Nat) (sk : Nat) (scu : Int32) (sch : Int32) (f1 : Nat) (s1 : Nat) (d1 : Nat) (hsn : sn ≤ 24) (hsk : sk ≤ 8) (hf : f1 < sn) (hs : s1 < sk) (hd : d1 < 2) (c_2 : (0 : Int32) ≤ nI f1 ∧ nI f1 ≤ nI sn - 1) (c_5 : (0 : Int32) ≤ nI s1 ∧ nI s1 ≤ nI sk - 1) (c_8 : (0 : Int32) ≤ nI d1 ∧ nI d1 ≤ 1) : (nI ((((f1 * 8) + s1) * 2) + d1) : Int32) = nI ((f1 * 8 + s1) * 2 + d1) := by
  rfl
set_option maxHeartbeats 4000000 in
set_option maxRecDepth 100000 in
theorem c_X4_rivetAt_g (l : Launch) (D : va_G) (cI cB cZ cJ : ClassId) (tx : List (ClassId × FieldType)) (a : Nat → Nat) (sn : Nat) (sk : Nat) (scu : Int32) (sch : Int32) (f1 : Nat) (s1 : Nat) (d1 : Nat) (hsn : sn ≤ 24) (hsk : sk ≤ 8) (hf : f1 < sn) (hs : s1 < sk) (hd : d1 < 2) : RdI l D cI cB cZ cJ tx yX4_rivetAt cX4_rivetAt 4 (some .int) 1 [.ref (a 5), .int (nI f1), .int (nI s1), .int (nI d1)] [(a 5, .inr (4, [.ref (a 18), .ref (a 19), .ref (a 20), .ref (a 21), .ref (a 22), .ref (a 23), .ref (a 24), .int (nI sn), .int (nI sk), .int scu, .int sch]))] (fun r => r = nI ((f1 * 8 + s1) * 2 + d1)) := by
  refine rdi_of2 (by decide) (Nat.le_of_ble_eq_true rfl) ?_
  intro p e s m below meth c A ls H locs hC hK hP hD hA hS hl
  obtain ⟨hx, hb, hr, hml, hown, hts, hlocks, hin⟩ := hC
  have hown : s.vm.findClass RX4 = some m.cls := hown
  have hl : lv_has ls 4 [(0, .ref (a 5)), (1, .int (nI f1)), (2, .int (nI s1)), (3, .int (nI d1))] := hl
  refine lv_iload_n hx hb dX4_rivetAt_0 rfl (lv_at hl 1 rfl) ?_
  refine lv_iconst (v := 0) hx hb dX4_rivetAt_1 (by decide) ?_
  refine lv_aload_n hx hb dX4_rivetAt_2 rfl (lv_at hl 0 rfl) ?_
  refine va_get (D := D) (ci := 4) (v := .int (nI sn)) (C := RX4) (T := TX4) (N := 11) hx hb hts inT_X4 hown hK.1 hP 0 rfl rfl 7 (by decide) (hts _ k_248) (fun _ h9 => h9) rfl dX4_rivetAt_3 ?_
  refine lv_iconst (v := 1) hx hb dX4_rivetAt_6 (by decide) ?_
  refine lv_isub hx hb dX4_rivetAt_7 ?_
  refine eRi (va_runSN (As := [.int (nI f1), .int 0, .int (nI sn - 1)]) (rest := []) ⟨hx, hb, hml, hown, hts⟩ (c_X11_within l D cI cB cZ cJ tx (nI f1) 0 (nI sn - 1) H.size) (zSN hts hK n_777 v_X11_within ⟨Nat.le_of_ble_eq_true rfl, Nat.le_of_ble_eq_true rfl⟩) (px0 hK) rfl rfl hl.1 rfl (lv_room (Nat.le_of_ble_eq_true rfl)) dX4_rivetAt_8 ⟨Nat.le_of_ble_eq_true rfl, Nat.le_of_ble_eq_true rfl⟩) hP hS hA (fun r_1 H locs wr_1 hP hS => ?_)
  subst wr_1
  refine lv_bi_eq (tgt := 37) hx hb dX4_rivetAt_11 (by decide) (fun c_2 => absurd (lf_X4_rivetAt_g_3 a sn sk scu sch f1 s1 d1 hsn hsk hf hs hd c_2) id) (fun c_2 => ?_)
  refine lv_iload_n hx hb dX4_rivetAt_14 rfl (lv_at hl 2 rfl) ?_
  refine lv_iconst (v := 0) hx hb dX4_rivetAt_15 (by decide) ?_
  refine lv_aload_n hx hb dX4_rivetAt_16 rfl (lv_at hl 0 rfl) ?_
  refine va_get (D := D) (ci := 4) (v := .int (nI sk)) (C := RX4) (T := TX4) (N := 11) hx hb hts inT_X4 hown hK.1 hP 0 rfl rfl 8 (by decide) (hts _ k_257) (fun _ h9 => h9) rfl dX4_rivetAt_17 ?_
  refine lv_iconst (v := 1) hx hb dX4_rivetAt_20 (by decide) ?_
  refine lv_isub hx hb dX4_rivetAt_21 ?_
  refine eRi (va_runSN (As := [.int (nI s1), .int 0, .int (nI sk - 1)]) (rest := []) ⟨hx, hb, hml, hown, hts⟩ (c_X11_within l D cI cB cZ cJ tx (nI s1) 0 (nI sk - 1) H.size) (zSN hts hK n_777 v_X11_within ⟨Nat.le_of_ble_eq_true rfl, Nat.le_of_ble_eq_true rfl⟩) (px0 hK) rfl rfl hl.1 rfl (lv_room (Nat.le_of_ble_eq_true rfl)) dX4_rivetAt_22 ⟨Nat.le_of_ble_eq_true rfl, Nat.le_of_ble_eq_true rfl⟩) hP hS hA (fun r_4 H locs wr_4 hP hS => ?_)
  subst wr_4
  refine lv_bi_eq (tgt := 37) hx hb dX4_rivetAt_25 (by decide) (fun c_5 => absurd (lf_X4_rivetAt_g_6 a sn sk scu sch f1 s1 d1 hsn hsk hf hs hd c_2 c_5) id) (fun c_5 => ?_)
  refine lv_iload_n hx hb dX4_rivetAt_28 rfl (lv_at hl 3 rfl) ?_
  refine lv_iconst (v := 0) hx hb dX4_rivetAt_29 (by decide) ?_
  refine lv_iconst (v := 1) hx hb dX4_rivetAt_30 (by decide) ?_
  refine eRi (va_runSN (As := [.int (nI d1), .int 0, .int 1]) (rest := []) ⟨hx, hb, hml, hown, hts⟩ (c_X11_within l D cI cB cZ cJ tx (nI d1) 0 1 H.size) (zSN hts hK n_777 v_X11_within ⟨Nat.le_of_ble_eq_true rfl, Nat.le_of_ble_eq_true rfl⟩) (px0 hK) rfl rfl hl.1 rfl (lv_room (Nat.le_of_ble_eq_true rfl)) dX4_rivetAt_31 ⟨Nat.le_of_ble_eq_true rfl, Nat.le_of_ble_eq_true rfl⟩) hP hS hA (fun r_7 H locs wr_7 hP hS => ?_)
  subst wr_7
  refine lv_bi_ne (tgt := 39) hx hb dX4_rivetAt_34 (by decide) (fun c_8 => ?_) (fun c_8 => absurd (lf_X4_rivetAt_g_9 a sn sk scu sch f1 s1 d1 hsn hsk hf hs hd c_2 c_5 c_8) id)
  refine lv_iload_n hx hb dX4_rivetAt_39 rfl (lv_at hl 1 rfl) ?_
  refine lv_bipush (v := 8) hx hb dX4_rivetAt_40 (by decide) ?_
  refine lv_imul hx hb dX4_rivetAt_42 ?_
  refine lv_topv (y := nI (f1 * 8)) (pk_mul f1 8) ?_
  refine lv_iload_n hx hb dX4_rivetAt_43 rfl (lv_at hl 2 rfl) ?_
  refine lv_iadd hx hb dX4_rivetAt_44 ?_
  refine lv_topv (y := nI ((f1 * 8) + s1)) (nI_add (f1 * 8) s1) ?_
  refine lv_iconst (v := 2) hx hb dX4_rivetAt_45 (by decide) ?_
  refine lv_imul hx hb dX4_rivetAt_46 ?_
  refine lv_topv (y := nI (((f1 * 8) + s1) * 2)) (pk_mul ((f1 * 8) + s1) 2) ?_
  refine lv_iload_n hx hb dX4_rivetAt_47 rfl (lv_at hl 3 rfl) ?_
  refine lv_iadd hx hb dX4_rivetAt_48 ?_
  refine lv_topv (y := nI ((((f1 * 8) + s1) * 2) + d1)) (nI_add (((f1 * 8) + s1) * 2) d1) ?_
  exact W.iret (v := nI ((((f1 * 8) + s1) * 2) + d1)) hx hb hr (fun tt9 ht hW => ⟨⟨(nI ((((f1 * 8) + s1) * 2) + d1) : Int32), (), rfl, (lf_X4_rivetAt_g_10 a sn sk scu sch f1 s1 d1 hsn hsk hf hs hd c_2 c_5 c_8), trivial⟩, hS.F ht⟩) hS.2.2 dX4_rivetAt_49 hlocks

set_option maxHeartbeats 4000000 in
set_option maxRecDepth 100000 in
theorem c_X4_standAt (l : Launch) (D : va_G) (cI cB cZ cJ : ClassId) (tx : List (ClassId × FieldType)) (a : Nat → Nat) (sn : Nat) (sk : Nat) (scu : Int32) (sch : Int32) (g6 : Nat → Int32) (n1 : Int32) (n2 : Int32) (n3 : Int32) : WrV l D cI cB cZ cJ tx yX4_standAt cX4_standAt 4 none 1 0 0 [.ref (a 5), .int n1, .int n2, .int n3] [(a 5, .inr (4, [.ref (a 18), .ref (a 19), .ref (a 20), .ref (a 21), .ref (a 22), .ref (a 23), .ref (a 24), .int (nI sn), .int (nI sk), .int scu, .int sch])), (a 24, .inl (cI, 26, .inl g6))] (fun (v : (Nat → Int32)) => True) (fun v => [(a 5, .inr (4, [.ref (a 18), .ref (a 19), .ref (a 20), .ref (a 21), .ref (a 22), .ref (a 23), .ref (a 24), .int (nI sn), .int (nI sk), .int scu, .int sch])), (a 24, .inl (cI, 26, .inl v))]) := by
  refine wrv_of2 (by decide) (Nat.le_of_ble_eq_true rfl) ?_
  intro p e s m below meth c A ls H locs hC hK hP hD hA hS hl
  obtain ⟨hx, hb, hr, hml, hown, hts, hlocks, hin⟩ := hC
  have hown : s.vm.findClass RX4 = some m.cls := hown
  have hl : lv_has ls 4 [(0, .ref (a 5)), (1, .int n1), (2, .int n2), (3, .int n3)] := hl
  refine lv_aload_n hx hb dX4_standAt_0 rfl (lv_at hl 0 rfl) ?_
  refine va_get (D := D) (ci := 4) (v := .ref (a 24)) (C := RX4) (T := TX4) (N := 11) hx hb hts inT_X4 hown hK.1 hP 0 rfl rfl 6 (by decide) (hts _ k_247) (fun _ h9 => h9) rfl dX4_standAt_1 ?_
  refine lv_iconst (v := 5) hx hb dX4_standAt_4 (by decide) ?_
  refine lv_iload_n hx hb dX4_standAt_5 rfl (lv_at hl 1 rfl) ?_
  refine st_i hx hb hK hP hD hS 1 rfl (by unfold vp_in; decide) dX4_standAt_6 (fun f_1 H locs hP hD hS => ?_)
  have hP : va_P D vwCl [(a 5, .inr (4, [.ref (a 18), .ref (a 19), .ref (a 20), .ref (a 21), .ref (a 22), .ref (a 23), .ref (a 24), .int (nI sn), .int (nI sk), .int scu, .int sch])), (a 24, .inl (cI, 26, .inl f_1))] H := hP
  have hD : va_D A [(a 5, .inr (4, [.ref (a 18), .ref (a 19), .ref (a 20), .ref (a 21), .ref (a 22), .ref (a 23), .ref (a 24), .int (nI sn), .int (nI sk), .int scu, .int sch])), (a 24, .inl (cI, 26, .inl f_1))] := hD
  refine lv_aload_n hx hb dX4_standAt_7 rfl (lv_at hl 0 rfl) ?_
  refine va_get (D := D) (ci := 4) (v := .ref (a 24)) (C := RX4) (T := TX4) (N := 11) hx hb hts inT_X4 hown hK.1 hP 0 rfl rfl 6 (by decide) (hts _ k_247) (fun _ h9 => h9) rfl dX4_standAt_8 ?_
  refine lv_bipush (v := 18) hx hb dX4_standAt_11 (by decide) ?_
  refine lv_iload_n hx hb dX4_standAt_13 rfl (lv_at hl 2 rfl) ?_
  refine st_i hx hb hK hP hD hS 1 rfl (by unfold vp_in; decide) dX4_standAt_14 (fun f_2 H locs hP hD hS => ?_)
  have hP : va_P D vwCl [(a 5, .inr (4, [.ref (a 18), .ref (a 19), .ref (a 20), .ref (a 21), .ref (a 22), .ref (a 23), .ref (a 24), .int (nI sn), .int (nI sk), .int scu, .int sch])), (a 24, .inl (cI, 26, .inl f_2))] H := hP
  have hD : va_D A [(a 5, .inr (4, [.ref (a 18), .ref (a 19), .ref (a 20), .ref (a 21), .ref (a 22), .ref (a 23), .ref (a 24), .int (nI sn), .int (nI sk), .int scu, .int sch])), (a 24, .inl (cI, 26, .inl f_2))] := hD
  refine lv_aload_n hx hb dX4_standAt_15 rfl (lv_at hl 0 rfl) ?_
  refine va_get (D := D) (ci := 4) (v := .ref (a 24)) (C := RX4) (T := TX4) (N := 11) hx hb hts inT_X4 hown hK.1 hP 0 rfl rfl 6 (by decide) (hts _ k_247) (fun _ h9 => h9) rfl dX4_standAt_16 ?_
  refine lv_iconst (v := 3) hx hb dX4_standAt_19 (by decide) ?_
  refine lv_iload_n hx hb dX4_standAt_20 rfl (lv_at hl 3 rfl) ?_
  refine st_i hx hb hK hP hD hS 1 rfl (by unfold vp_in; decide) dX4_standAt_21 (fun f_3 H locs hP hD hS => ?_)
  have hP : va_P D vwCl [(a 5, .inr (4, [.ref (a 18), .ref (a 19), .ref (a 20), .ref (a 21), .ref (a 22), .ref (a 23), .ref (a 24), .int (nI sn), .int (nI sk), .int scu, .int sch])), (a 24, .inl (cI, 26, .inl f_3))] H := hP
  have hD : va_D A [(a 5, .inr (4, [.ref (a 18), .ref (a 19), .ref (a 20), .ref (a 21), .ref (a 22), .ref (a 23), .ref (a 24), .int (nI sn), .int (nI sk), .int scu, .int sch])), (a 24, .inl (cI, 26, .inl f_3))] := hD
  refine lv_aload_n hx hb dX4_standAt_22 rfl (lv_at hl 0 rfl) ?_
  refine va_get (D := D) (ci := 4) (v := .ref (a 24)) (C := RX4) (T := TX4) (N := 11) hx hb hts inT_X4 hown hK.1 hP 0 rfl rfl 6 (by decide) (hts _ k_247) (fun _ h9 => h9) rfl dX4_standAt_23 ?_
  refine lv_bipush (v := 13) hx hb dX4_standAt_26 (by decide) ?_
  refine lv_aload_n hx hb dX4_standAt_28 rfl (lv_at hl 0 rfl) ?_
  refine va_get (D := D) (ci := 4) (v := .int (nI sn)) (C := RX4) (T := TX4) (N := 11) hx hb hts inT_X4 hown hK.1 hP 0 rfl rfl 7 (by decide) (hts _ k_248) (fun _ h9 => h9) rfl dX4_standAt_29 ?_
  refine st_i hx hb hK hP hD hS 1 rfl (by unfold vp_in; decide) dX4_standAt_32 (fun f_4 H locs hP hD hS => ?_)
  have hP : va_P D vwCl [(a 5, .inr (4, [.ref (a 18), .ref (a 19), .ref (a 20), .ref (a 21), .ref (a 22), .ref (a 23), .ref (a 24), .int (nI sn), .int (nI sk), .int scu, .int sch])), (a 24, .inl (cI, 26, .inl f_4))] H := hP
  have hD : va_D A [(a 5, .inr (4, [.ref (a 18), .ref (a 19), .ref (a 20), .ref (a 21), .ref (a 22), .ref (a 23), .ref (a 24), .int (nI sn), .int (nI sk), .int scu, .int sch])), (a 24, .inl (cI, 26, .inl f_4))] := hD
  refine lv_aload_n hx hb dX4_standAt_33 rfl (lv_at hl 0 rfl) ?_
  refine va_get (D := D) (ci := 4) (v := .ref (a 24)) (C := RX4) (T := TX4) (N := 11) hx hb hts inT_X4 hown hK.1 hP 0 rfl rfl 6 (by decide) (hts _ k_247) (fun _ h9 => h9) rfl dX4_standAt_34 ?_
  refine lv_iconst (v := 2) hx hb dX4_standAt_37 (by decide) ?_
  refine lv_iload_n hx hb dX4_standAt_38 rfl (lv_at hl 1 rfl) ?_
  refine lv_aload_n hx hb dX4_standAt_39 rfl (lv_at hl 0 rfl) ?_
  refine va_get (D := D) (ci := 4) (v := .int (nI sn)) (C := RX4) (T := TX4) (N := 11) hx hb hts inT_X4 hown hK.1 hP 0 rfl rfl 7 (by decide) (hts _ k_248) (fun _ h9 => h9) rfl dX4_standAt_40 ?_
  refine lv_iconst (v := 1) hx hb dX4_standAt_43 (by decide) ?_
  refine lv_isub hx hb dX4_standAt_44 ?_
  refine lv_iload_n hx hb dX4_standAt_45 rfl (lv_at hl 1 rfl) ?_
  refine lv_isub hx hb dX4_standAt_46 ?_
  refine lv_topi (fun x_5 ex_5 => ?_)
  refine va_mmin hx hb (by rw [hml]; exact hl.1.symm) hown (hts _ k_782) (hts _ k_608) (hts _ k_131) (hts _ k_609) (Nat.le_of_ble_eq_true rfl) (Nat.le_of_ble_eq_true rfl) (Nat.le_of_ble_eq_true rfl) (Nat.le_of_ble_eq_true rfl) dX4_standAt_47 ?_
  refine lv_topi (fun x_6 _ => ?_)
  refine st_i hx hb hK hP hD hS 1 rfl (by unfold vp_in; decide) dX4_standAt_50 (fun f_7 H locs hP hD hS => ?_)
  have hP : va_P D vwCl [(a 5, .inr (4, [.ref (a 18), .ref (a 19), .ref (a 20), .ref (a 21), .ref (a 22), .ref (a 23), .ref (a 24), .int (nI sn), .int (nI sk), .int scu, .int sch])), (a 24, .inl (cI, 26, .inl f_7))] H := hP
  have hD : va_D A [(a 5, .inr (4, [.ref (a 18), .ref (a 19), .ref (a 20), .ref (a 21), .ref (a 22), .ref (a 23), .ref (a 24), .int (nI sn), .int (nI sk), .int scu, .int sch])), (a 24, .inl (cI, 26, .inl f_7))] := hD
  refine lv_aload_n hx hb dX4_standAt_51 rfl (lv_at hl 0 rfl) ?_
  refine va_get (D := D) (ci := 4) (v := .ref (a 24)) (C := RX4) (T := TX4) (N := 11) hx hb hts inT_X4 hown hK.1 hP 0 rfl rfl 6 (by decide) (hts _ k_247) (fun _ h9 => h9) rfl dX4_standAt_52 ?_
  refine lv_bipush (v := 10) hx hb dX4_standAt_55 (by decide) ?_
  refine lv_aload_n hx hb dX4_standAt_57 rfl (lv_at hl 0 rfl) ?_
  refine va_get (D := D) (ci := 4) (v := .int (nI sk)) (C := RX4) (T := TX4) (N := 11) hx hb hts inT_X4 hown hK.1 hP 0 rfl rfl 8 (by decide) (hts _ k_257) (fun _ h9 => h9) rfl dX4_standAt_58 ?_
  refine st_i hx hb hK hP hD hS 1 rfl (by unfold vp_in; decide) dX4_standAt_61 (fun f_8 H locs hP hD hS => ?_)
  have hP : va_P D vwCl [(a 5, .inr (4, [.ref (a 18), .ref (a 19), .ref (a 20), .ref (a 21), .ref (a 22), .ref (a 23), .ref (a 24), .int (nI sn), .int (nI sk), .int scu, .int sch])), (a 24, .inl (cI, 26, .inl f_8))] H := hP
  have hD : va_D A [(a 5, .inr (4, [.ref (a 18), .ref (a 19), .ref (a 20), .ref (a 21), .ref (a 22), .ref (a 23), .ref (a 24), .int (nI sn), .int (nI sk), .int scu, .int sch])), (a 24, .inl (cI, 26, .inl f_8))] := hD
  exact W.vret hx hb hr (fun tt9 ht hW => ⟨⟨((f_8 : Nat → Int32)), rfl, trivial, ⟨by rw [ht]; exact hP, hD⟩⟩, hS.F ht⟩) hS.2.2 dX4_standAt_62 hlocks

theorem lf_X4_left_3 (a : Nat → Nat) (sn : Nat) (sk : Nat) (scu : Int32) (sch : Int32) (g3 : Nat → Int32) (hsn : sn ≤ 24) (hsk : sk ≤ 8) (j1 : Nat) (w1 : Int32) (k4 : Nat) (hj4 : j1 ≤ sn) (hk4 : sn < j1 + (k4 + 1)) (c_1 : nI sn ≤ nI j1) : sn ≤ j1 := by
  exact (nI_leI (a := sn) (b := j1) (by omega) (by omega)).mp c_1
theorem lf_X4_left_5 (a : Nat → Nat) (sn : Nat) (sk : Nat) (scu : Int32) (sch : Int32) (g3 : Nat → Int32) (hsn : sn ≤ 24) (hsk : sk ≤ 8) (j1 : Nat) (w1 : Int32) (k4 : Nat) (hj4 : j1 ≤ sn) (hk4 : sn < j1 + (k4 + 1)) (c_1 : ¬ nI sn ≤ nI j1) : j1 < sn := by
  exact Nat.lt_of_not_le (fun q => c_1 ((nI_leI (a := sn) (b := j1) (by omega) (by omega)).mpr q))
theorem lf_X4_left_8 (a : Nat → Nat) (sn : Nat) (sk : Nat) (scu : Int32) (sch : Int32) (g3 : Nat → Int32) (hsn : sn ≤ 24) (hsk : sk ≤ 8) (j1 : Nat) (w1 : Int32) (k4 : Nat) (hj4 : j1 ≤ sn) (hk4 : sn < j1 + (k4 + 1)) (c_1 : ¬ nI sn ≤ nI j1) (n_4 : j1 < sn) (j2 : Nat) (w2 : Int32) (k14 : Nat) (hj14 : j2 ≤ sk) (hk14 : sk < j2 + (k14 + 1)) (c_6 : nI sk ≤ nI j2) : sk ≤ j2 := by
  exact (nI_leI (a := sk) (b := j2) (by omega) (by omega)).mp c_6
theorem lf_X4_left_10 (a : Nat → Nat) (sn : Nat) (sk : Nat) (scu : Int32) (sch : Int32) (g3 : Nat → Int32) (hsn : sn ≤ 24) (hsk : sk ≤ 8) (j1 : Nat) (w1 : Int32) (k4 : Nat) (hj4 : j1 ≤ sn) (hk4 : sn < j1 + (k4 + 1)) (c_1 : ¬ nI sn ≤ nI j1) (n_4 : j1 < sn) (j2 : Nat) (w2 : Int32) (k14 : Nat) (hj14 : j2 ≤ sk) (hk14 : sk < j2 + (k14 + 1)) (c_6 : ¬ nI sk ≤ nI j2) : j2 < sk := by
  exact Nat.lt_of_not_le (fun q => c_6 ((nI_leI (a := sk) (b := j2) (by omega) (by omega)).mpr q))
theorem lf_X4_left_13 (a : Nat → Nat) (sn : Nat) (sk : Nat) (scu : Int32) (sch : Int32) (g3 : Nat → Int32) (hsn : sn ≤ 24) (hsk : sk ≤ 8) (j1 : Nat) (w1 : Int32) (k4 : Nat) (hj4 : j1 ≤ sn) (hk4 : sn < j1 + (k4 + 1)) (c_1 : ¬ nI sn ≤ nI j1) (n_4 : j1 < sn) (j2 : Nat) (w2 : Int32) (k14 : Nat) (hj14 : j2 ≤ sk) (hk14 : sk < j2 + (k14 + 1)) (c_6 : ¬ nI sk ≤ nI j2) (n_9 : j2 < sk) (j3 : Nat) (w3 : Int32) (k25 : Nat) (hj25 : j3 ≤ 2) (hk25 : 2 < j3 + (k25 + 1)) (c_11 : 2 ≤ nI j3) : 2 ≤ j3 := by
  exact (nI_leI (a := 2) (b := j3) (by omega) (by omega)).mp c_11
theorem lf_X4_left_15 (a : Nat → Nat) (sn : Nat) (sk : Nat) (scu : Int32) (sch : Int32) (g3 : Nat → Int32) (hsn : sn ≤ 24) (hsk : sk ≤ 8) (j1 : Nat) (w1 : Int32) (k4 : Nat) (hj4 : j1 ≤ sn) (hk4 : sn < j1 + (k4 + 1)) (c_1 : ¬ nI sn ≤ nI j1) (n_4 : j1 < sn) (j2 : Nat) (w2 : Int32) (k14 : Nat) (hj14 : j2 ≤ sk) (hk14 : sk < j2 + (k14 + 1)) (c_6 : ¬ nI sk ≤ nI j2) (n_9 : j2 < sk) (j3 : Nat) (w3 : Int32) (k25 : Nat) (hj25 : j3 ≤ 2) (hk25 : 2 < j3 + (k25 + 1)) (c_11 : ¬ 2 ≤ nI j3) : j3 < 2 := by
  exact Nat.lt_of_not_le (fun q => c_11 ((nI_leI (a := 2) (b := j3) (by omega) (by omega)).mpr q))
theorem lf_X4_left_16 (a : Nat → Nat) (sn : Nat) (sk : Nat) (scu : Int32) (sch : Int32) (g3 : Nat → Int32) (hsn : sn ≤ 24) (hsk : sk ≤ 8) (j1 : Nat) (w1 : Int32) (k4 : Nat) (hj4 : j1 ≤ sn) (hk4 : sn < j1 + (k4 + 1)) (c_1 : ¬ nI sn ≤ nI j1) (n_4 : j1 < sn) (j2 : Nat) (w2 : Int32) (k14 : Nat) (hj14 : j2 ≤ sk) (hk14 : sk < j2 + (k14 + 1)) (c_6 : ¬ nI sk ≤ nI j2) (n_9 : j2 < sk) (j3 : Nat) (w3 : Int32) (k25 : Nat) (hj25 : j3 ≤ 2) (hk25 : 2 < j3 + (k25 + 1)) (c_11 : ¬ 2 ≤ nI j3) (n_14 : j3 < 2) : sn ≤ 24 := by
  first | assumption | omega | decide
theorem lf_X4_left_17 (a : Nat → Nat) (sn : Nat) (sk : Nat) (scu : Int32) (sch : Int32) (g3 : Nat → Int32) (hsn : sn ≤ 24) (hsk : sk ≤ 8) (j1 : Nat) (w1 : Int32) (k4 : Nat) (hj4 : j1 ≤ sn) (hk4 : sn < j1 + (k4 + 1)) (c_1 : ¬ nI sn ≤ nI j1) (n_4 : j1 < sn) (j2 : Nat) (w2 : Int32) (k14 : Nat) (hj14 : j2 ≤ sk) (hk14 : sk < j2 + (k14 + 1)) (c_6 : ¬ nI sk ≤ nI j2) (n_9 : j2 < sk) (j3 : Nat) (w3 : Int32) (k25 : Nat) (hj25 : j3 ≤ 2) (hk25 : 2 < j3 + (k25 + 1)) (c_11 : ¬ 2 ≤ nI j3) (n_14 : j3 < 2) : sk ≤ 8 := by
  first | assumption | omega | decide
theorem lf_X4_left_18 (a : Nat → Nat) (sn : Nat) (sk : Nat) (scu : Int32) (sch : Int32) (g3 : Nat → Int32) (hsn : sn ≤ 24) (hsk : sk ≤ 8) (j1 : Nat) (w1 : Int32) (k4 : Nat) (hj4 : j1 ≤ sn) (hk4 : sn < j1 + (k4 + 1)) (c_1 : ¬ nI sn ≤ nI j1) (n_4 : j1 < sn) (j2 : Nat) (w2 : Int32) (k14 : Nat) (hj14 : j2 ≤ sk) (hk14 : sk < j2 + (k14 + 1)) (c_6 : ¬ nI sk ≤ nI j2) (n_9 : j2 < sk) (j3 : Nat) (w3 : Int32) (k25 : Nat) (hj25 : j3 ≤ 2) (hk25 : 2 < j3 + (k25 + 1)) (c_11 : ¬ 2 ≤ nI j3) (n_14 : j3 < 2) : j1 < sn := by
  first | assumption | omega | decide
theorem lf_X4_left_19 (a : Nat → Nat) (sn : Nat) (sk : Nat) (scu : Int32) (sch : Int32) (g3 : Nat → Int32) (hsn : sn ≤ 24) (hsk : sk ≤ 8) (j1 : Nat) (w1 : Int32) (k4 : Nat) (hj4 : j1 ≤ sn) (hk4 : sn < j1 + (k4 + 1)) (c_1 : ¬ nI sn ≤ nI j1) (n_4 : j1 < sn) (j2 : Nat) (w2 : Int32) (k14 : Nat) (hj14 : j2 ≤ sk) (hk14 : sk < j2 + (k14 + 1)) (c_6 : ¬ nI sk ≤ nI j2) (n_9 : j2 < sk) (j3 : Nat) (w3 : Int32) (k25 : Nat) (hj25 : j3 ≤ 2) (hk25 : 2 < j3 + (k25 + 1)) (c_11 : ¬ 2 ≤ nI j3) (n_14 : j3 < 2) : j2 < sk := by
  first | assumption | omega | decide
theorem lf_X4_left_20 (a : Nat → Nat) (sn : Nat) (sk : Nat) (scu : Int32) (sch : Int32) (g3 : Nat → Int32) (hsn : sn ≤ 24) (hsk : sk ≤ 8) (j1 : Nat) (w1 : Int32) (k4 : Nat) (hj4 : j1 ≤ sn) (hk4 : sn < j1 + (k4 + 1)) (c_1 : ¬ nI sn ≤ nI j1) (n_4 : j1 < sn) (j2 : Nat) (w2 : Int32) (k14 : Nat) (hj14 : j2 ≤ sk) (hk14 : sk < j2 + (k14 + 1)) (c_6 : ¬ nI sk ≤ nI j2) (n_9 : j2 < sk) (j3 : Nat) (w3 : Int32) (k25 : Nat) (hj25 : j3 ≤ 2) (hk25 : 2 < j3 + (k25 + 1)) (c_11 : ¬ 2 ≤ nI j3) (n_14 : j3 < 2) : j3 < 2 := by
  first | assumption | omega | decide
theorem lf_X4_left_22 (a : Nat → Nat) (sn : Nat) (sk : Nat) (scu : Int32) (sch : Int32) (g3 : Nat → Int32) (hsn : sn ≤ 24) (hsk : sk ≤ 8) (j1 : Nat) (w1 : Int32) (k4 : Nat) (hj4 : j1 ≤ sn) (hk4 : sn < j1 + (k4 + 1)) (c_1 : ¬ nI sn ≤ nI j1) (n_4 : j1 < sn) (j2 : Nat) (w2 : Int32) (k14 : Nat) (hj14 : j2 ≤ sk) (hk14 : sk < j2 + (k14 + 1)) (c_6 : ¬ nI sk ≤ nI j2) (n_9 : j2 < sk) (j3 : Nat) (w3 : Int32) (k25 : Nat) (hj25 : j3 ≤ 2) (hk25 : 2 < j3 + (k25 + 1)) (c_11 : ¬ 2 ≤ nI j3) (n_14 : j3 < 2) : ¬ nI ((j1 * 8 + j2) * 2 + j3) < 0 := by
  first | exact nI_pos (by omega) | exact nI_pos' (by omega)
theorem lf_X4_left_23 (a : Nat → Nat) (sn : Nat) (sk : Nat) (scu : Int32) (sch : Int32) (g3 : Nat → Int32) (hsn : sn ≤ 24) (hsk : sk ≤ 8) (j1 : Nat) (w1 : Int32) (k4 : Nat) (hj4 : j1 ≤ sn) (hk4 : sn < j1 + (k4 + 1)) (c_1 : ¬ nI sn ≤ nI j1) (n_4 : j1 < sn) (j2 : Nat) (w2 : Int32) (k14 : Nat) (hj14 : j2 ≤ sk) (hk14 : sk < j2 + (k14 + 1)) (c_6 : ¬ nI sk ≤ nI j2) (n_9 : j2 < sk) (j3 : Nat) (w3 : Int32) (k25 : Nat) (hj25 : j3 ≤ 2) (hk25 : 2 < j3 + (k25 + 1)) (c_11 : ¬ 2 ≤ nI j3) (n_14 : j3 < 2) : vp_in (nI ((j1 * 8 + j2) * 2 + j3)) 384 := by
  first | exact vp_in_nI (by omega) (by decide) | (unfold vp_in; decide)
set_option maxHeartbeats 4000000 in
set_option maxRecDepth 100000 in
theorem c_X4_left (l : Launch) (D : va_G) (cI cB cZ cJ : ClassId) (tx : List (ClassId × FieldType)) (a : Nat → Nat) (sn : Nat) (sk : Nat) (scu : Int32) (sch : Int32) (g3 : Nat → Int32) (hsn : sn ≤ 24) (hsk : sk ≤ 8) : RdI l D cI cB cZ cJ tx yX4_left cX4_left 6 (some .int) 2 [.ref (a 5)] [(a 5, .inr (4, [.ref (a 18), .ref (a 19), .ref (a 20), .ref (a 21), .ref (a 22), .ref (a 23), .ref (a 24), .int (nI sn), .int (nI sk), .int scu, .int sch])), (a 21, .inl (cZ, 384, .inl g3))] (fun r => True) := by
  refine rdi_of2 (by decide) (Nat.le_of_ble_eq_true rfl) ?_
  intro p e s m below meth c A ls H locs hC hK hP hD hA hS hl
  obtain ⟨hx, hb, hr, hml, hown, hts, hlocks, hin⟩ := hC
  have hown : s.vm.findClass RX4 = some m.cls := hown
  have hl : lv_has ls 6 [(0, .ref (a 5))] := hl
  refine lv_iconst (v := 0) hx hb dX4_left_0 (by decide) ?_
  refine lv_istore_n (lv' := [(1, .int 0), (0, .ref (a 5))]) hx hb dX4_left_1 rfl hl (by decide) rfl (fun ls hl => ?_)
  refine lv_iconst (v := 0) hx hb dX4_left_2 (by decide) ?_
  refine lv_istore_n (lv' := [(2, .int 0), (1, .int 0), (0, .ref (a 5))]) hx hb dX4_left_3 rfl hl (by decide) rfl (fun ls hl => ?_)
  have lp4 : ∀ (k4 : Nat) (j1 : Nat) (w1 : Int32) (H : Heap) (locs : List Loc) (ls : Array Slot), j1 ≤ sn → sn < j1 + k4 → va_P D vwCl [(a 5, .inr (4, [.ref (a 18), .ref (a 19), .ref (a 20), .ref (a 21), .ref (a 22), .ref (a 23), .ref (a 24), .int (nI sn), .int (nI sk), .int scu, .int sch])), (a 21, .inl (cZ, 384, .inl g3))] H → va_S A s.heap H locs → lv_has ls 6 [(2, .int (nI j1)), (1, .int w1), (0, .ref (a 5))] → W p l e (rmX 2 0 0) s m ([.ref (a 5)] : List Value).toArray below meth c H locs 0 0 (MQ below (va_Qi (fun r (_ : Unit) => (fun r => True) r) (fun _ _ => True) A) ([.ref (a 5)] : List Value).toArray s 0 0 A) (F0 m 4 ls []) := by
    intro k4
    induction k4 with
    | zero =>
      intro j1 w1 H locs ls hj4 hk4  hP hS hl
      exact absurd hk4 (by omega)
    | succ k4 ih4 =>
      intro j1 w1 H locs ls hj4 hk4  hP hS hl
      refine lv_iload_n hx hb dX4_left_4 rfl (lv_at hl 0 rfl) ?_
      refine lv_aload_n hx hb dX4_left_5 rfl (lv_at hl 2 rfl) ?_
      refine va_get (D := D) (ci := 4) (v := .int (nI sn)) (C := RX4) (T := TX4) (N := 11) hx hb hts inT_X4 hown hK.1 hP 0 rfl rfl 7 (by decide) (hts _ k_248) (fun _ h9 => h9) rfl dX4_left_6 ?_
      refine lv_icmp_ge (tgt := 82) hx hb dX4_left_9 (by decide) (fun c_1 => ?_) (fun c_1 => ?_)
      · have n_2 : sn ≤ j1 := (lf_X4_left_3 a sn sk scu sch g3 hsn hsk j1 w1 k4 hj4 hk4 c_1)
        refine lv_iload_n hx hb dX4_left_82 rfl (lv_at hl 1 rfl) ?_
        exact W.iret (v := w1) hx hb hr (fun tt9 ht hW => ⟨⟨(w1 : Int32), (), rfl, trivial, trivial⟩, hS.F ht⟩) hS.2.2 dX4_left_83 hlocks
      · have n_4 : j1 < sn := (lf_X4_left_5 a sn sk scu sch g3 hsn hsk j1 w1 k4 hj4 hk4 c_1)
        refine lv_iconst (v := 0) hx hb dX4_left_12 (by decide) ?_
        refine lv_istore_n (lv' := [(3, .int 0), (2, .int (nI j1)), (1, .int w1), (0, .ref (a 5))]) hx hb dX4_left_13 rfl hl (by decide) rfl (fun ls hl => ?_)
        have lp14 : ∀ (k14 : Nat) (j2 : Nat) (w2 : Int32) (H : Heap) (locs : List Loc) (ls : Array Slot), j2 ≤ sk → sk < j2 + k14 → va_P D vwCl [(a 5, .inr (4, [.ref (a 18), .ref (a 19), .ref (a 20), .ref (a 21), .ref (a 22), .ref (a 23), .ref (a 24), .int (nI sn), .int (nI sk), .int scu, .int sch])), (a 21, .inl (cZ, 384, .inl g3))] H → va_S A s.heap H locs → lv_has ls 6 [(3, .int (nI j2)), (2, .int (nI j1)), (1, .int w2), (0, .ref (a 5))] → W p l e (rmX 2 0 0) s m ([.ref (a 5)] : List Value).toArray below meth c H locs 0 0 (MQ below (va_Qi (fun r (_ : Unit) => (fun r => True) r) (fun _ _ => True) A) ([.ref (a 5)] : List Value).toArray s 0 0 A) (F0 m 14 ls []) := by
          intro k14
          induction k14 with
          | zero =>
            intro j2 w2 H locs ls hj14 hk14  hP hS hl
            exact absurd hk14 (by omega)
          | succ k14 ih14 =>
            intro j2 w2 H locs ls hj14 hk14  hP hS hl
            refine lv_iload_n hx hb dX4_left_14 rfl (lv_at hl 0 rfl) ?_
            refine lv_aload_n hx hb dX4_left_15 rfl (lv_at hl 3 rfl) ?_
            refine va_get (D := D) (ci := 4) (v := .int (nI sk)) (C := RX4) (T := TX4) (N := 11) hx hb hts inT_X4 hown hK.1 hP 0 rfl rfl 8 (by decide) (hts _ k_257) (fun _ h9 => h9) rfl dX4_left_16 ?_
            refine lv_icmp_ge (tgt := 76) hx hb dX4_left_19 (by decide) (fun c_6 => ?_) (fun c_6 => ?_)
            · have n_7 : sk ≤ j2 := (lf_X4_left_8 a sn sk scu sch g3 hsn hsk j1 w1 k4 hj4 hk4 c_1 n_4 j2 w2 k14 hj14 hk14 c_6)
              refine lv_iinc (v := nI (j1 + 1)) (lv' := [(2, .int (nI (j1 + 1))), (3, .int (nI j2)), (1, .int w2), (0, .ref (a 5))]) hx hb dX4_left_76 hl (k := 1) rfl (nI_1 j1) (by decide) rfl (fun ls hl => ?_)
              refine lv_goto (tgt := 4) hx hb dX4_left_79 (by decide) ?_
              exact ih4 (j1 + 1) w2 H locs ls (by omega) (by omega)  (hP.sub [0, 1] rfl)  hS (lv_sub hl [0, 2, 3] rfl)
            · have n_9 : j2 < sk := (lf_X4_left_10 a sn sk scu sch g3 hsn hsk j1 w1 k4 hj4 hk4 c_1 n_4 j2 w2 k14 hj14 hk14 c_6)
              refine lv_iconst (v := 0) hx hb dX4_left_22 (by decide) ?_
              refine lv_istore (lv' := [(4, .int 0), (3, .int (nI j2)), (2, .int (nI j1)), (1, .int w2), (0, .ref (a 5))]) hx hb dX4_left_23 hl (by decide) rfl (fun ls hl => ?_)
              have lp25 : ∀ (k25 : Nat) (j3 : Nat) (w3 : Int32) (H : Heap) (locs : List Loc) (ls : Array Slot), j3 ≤ 2 → 2 < j3 + k25 → va_P D vwCl [(a 5, .inr (4, [.ref (a 18), .ref (a 19), .ref (a 20), .ref (a 21), .ref (a 22), .ref (a 23), .ref (a 24), .int (nI sn), .int (nI sk), .int scu, .int sch])), (a 21, .inl (cZ, 384, .inl g3))] H → va_S A s.heap H locs → lv_has ls 6 [(4, .int (nI j3)), (3, .int (nI j2)), (2, .int (nI j1)), (1, .int w3), (0, .ref (a 5))] → W p l e (rmX 2 0 0) s m ([.ref (a 5)] : List Value).toArray below meth c H locs 0 0 (MQ below (va_Qi (fun r (_ : Unit) => (fun r => True) r) (fun _ _ => True) A) ([.ref (a 5)] : List Value).toArray s 0 0 A) (F0 m 25 ls []) := by
                intro k25
                induction k25 with
                | zero =>
                  intro j3 w3 H locs ls hj25 hk25  hP hS hl
                  exact absurd hk25 (by omega)
                | succ k25 ih25 =>
                  intro j3 w3 H locs ls hj25 hk25  hP hS hl
                  refine lv_iload hx hb dX4_left_25 (lv_at hl 0 rfl) ?_
                  refine lv_iconst (v := 2) hx hb dX4_left_27 (by decide) ?_
                  refine lv_icmp_ge (tgt := 70) hx hb dX4_left_28 (by decide) (fun c_11 => ?_) (fun c_11 => ?_)
                  · have n_12 : 2 ≤ j3 := (lf_X4_left_13 a sn sk scu sch g3 hsn hsk j1 w1 k4 hj4 hk4 c_1 n_4 j2 w2 k14 hj14 hk14 c_6 n_9 j3 w3 k25 hj25 hk25 c_11)
                    refine lv_iinc (v := nI (j2 + 1)) (lv' := [(3, .int (nI (j2 + 1))), (4, .int (nI j3)), (2, .int (nI j1)), (1, .int w3), (0, .ref (a 5))]) hx hb dX4_left_70 hl (k := 1) rfl (nI_1 j2) (by decide) rfl (fun ls hl => ?_)
                    refine lv_goto (tgt := 14) hx hb dX4_left_73 (by decide) ?_
                    exact ih14 (j2 + 1) w3 H locs ls (by omega) (by omega)  (hP.sub [0, 1] rfl)  hS (lv_sub hl [0, 2, 3, 4] rfl)
                  · have n_14 : j3 < 2 := (lf_X4_left_15 a sn sk scu sch g3 hsn hsk j1 w1 k4 hj4 hk4 c_1 n_4 j2 w2 k14 hj14 hk14 c_6 n_9 j3 w3 k25 hj25 hk25 c_11)
                    refine lv_aload_n hx hb dX4_left_31 rfl (lv_at hl 4 rfl) ?_
                    refine lv_iload_n hx hb dX4_left_32 rfl (lv_at hl 2 rfl) ?_
                    refine lv_iload_n hx hb dX4_left_33 rfl (lv_at hl 1 rfl) ?_
                    refine lv_iload hx hb dX4_left_34 (lv_at hl 0 rfl) ?_
                    refine eRi (va_runV (As := [.int (nI j1), .int (nI j2), .int (nI j3)]) (rest := []) ⟨hx, hb, hml, hown, hts⟩ (c_X4_rivetAt_g l D cI cB cZ cJ tx a sn sk scu sch j1 j2 j3 (lf_X4_left_16 a sn sk scu sch g3 hsn hsk j1 w1 k4 hj4 hk4 c_1 n_4 j2 w2 k14 hj14 hk14 c_6 n_9 j3 w3 k25 hj25 hk25 c_11 n_14) (lf_X4_left_17 a sn sk scu sch g3 hsn hsk j1 w1 k4 hj4 hk4 c_1 n_4 j2 w2 k14 hj14 hk14 c_6 n_9 j3 w3 k25 hj25 hk25 c_11 n_14) (lf_X4_left_18 a sn sk scu sch g3 hsn hsk j1 w1 k4 hj4 hk4 c_1 n_4 j2 w2 k14 hj14 hk14 c_6 n_9 j3 w3 k25 hj25 hk25 c_11 n_14) (lf_X4_left_19 a sn sk scu sch g3 hsn hsk j1 w1 k4 hj4 hk4 c_1 n_4 j2 w2 k14 hj14 hk14 c_6 n_9 j3 w3 k25 hj25 hk25 c_11 n_14) (lf_X4_left_20 a sn sk scu sch g3 hsn hsk j1 w1 k4 hj4 hk4 c_1 n_4 j2 w2 k14 hj14 hk14 c_6 n_9 j3 w3 k25 hj25 hk25 c_11 n_14) H.size) (zV hts k_773 v_X4_rivetAt ⟨Nat.le_of_ble_eq_true rfl, Nat.le_of_ble_eq_true rfl⟩) (pV (px1 hK hP 0 rfl) hK hP 0 rfl rfl) rfl rfl hl.1 rfl (lv_room (Nat.le_of_ble_eq_true rfl)) dX4_left_36 ⟨Nat.le_of_ble_eq_true rfl, Nat.le_of_ble_eq_true rfl⟩) hP hS hA (fun r_21 H locs wr_21 hP hS => ?_)
                    subst wr_21
                    refine lv_istore (lv' := [(5, .int (nI ((j1 * 8 + j2) * 2 + j3))), (4, .int (nI j3)), (3, .int (nI j2)), (2, .int (nI j1)), (1, .int w3), (0, .ref (a 5))]) hx hb dX4_left_39 hl (by decide) rfl (fun ls hl => ?_)
                    refine lv_iload_n hx hb dX4_left_41 rfl (lv_at hl 4 rfl) ?_
                    refine lv_iload hx hb dX4_left_42 (lv_at hl 0 rfl) ?_
                    refine lv_if_lt (tgt := 57) hx hb dX4_left_44 (by decide) (fun c => absurd c (lf_X4_left_22 a sn sk scu sch g3 hsn hsk j1 w1 k4 hj4 hk4 c_1 n_4 j2 w2 k14 hj14 hk14 c_6 n_9 j3 w3 k25 hj25 hk25 c_11 n_14)) (fun _ => ?_)
                    refine lv_aload_n hx hb dX4_left_47 rfl (lv_at hl 5 rfl) ?_
                    refine va_get (D := D) (ci := 4) (v := .ref (a 21)) (C := RX4) (T := TX4) (N := 11) hx hb hts inT_X4 hown hK.1 hP 0 rfl rfl 3 (by decide) (hts _ k_241) (fun _ h9 => h9) rfl dX4_left_48 ?_
                    refine lv_iload hx hb dX4_left_51 (lv_at hl 0 rfl) ?_
                    refine ld_z hx hb hK hP 1 rfl (lf_X4_left_23 a sn sk scu sch g3 hsn hsk j1 w1 k4 hj4 hk4 c_1 n_4 j2 w2 k14 hj14 hk14 c_6 n_9 j3 w3 k25 hj25 hk25 c_11 n_14) dX4_left_53 (fun x_24 => ?_)
                    refine lv_if_eq (tgt := 61) hx hb dX4_left_54 (by decide) (fun c_25 => ?_) (fun c_25 => ?_)
                    · refine lv_iconst (v := 1) hx hb dX4_left_61 (by decide) ?_
                      refine lv_iadd hx hb dX4_left_62 ?_
                      refine lv_topi (fun x_26 ex_26 => ?_)
                      refine lv_istore_n (lv' := [(1, .int x_26), (5, .int (nI ((j1 * 8 + j2) * 2 + j3))), (4, .int (nI j3)), (3, .int (nI j2)), (2, .int (nI j1)), (0, .ref (a 5))]) hx hb dX4_left_63 rfl hl (by decide) rfl (fun ls hl => ?_)
                      refine lv_iinc (v := nI (j3 + 1)) (lv' := [(4, .int (nI (j3 + 1))), (1, .int x_26), (5, .int (nI ((j1 * 8 + j2) * 2 + j3))), (3, .int (nI j2)), (2, .int (nI j1)), (0, .ref (a 5))]) hx hb dX4_left_64 hl (k := 2) rfl (nI_1 j3) (by decide) rfl (fun ls hl => ?_)
                      refine lv_goto (tgt := 25) hx hb dX4_left_67 (by decide) ?_
                      exact ih25 (j3 + 1) x_26 H locs ls (by omega) (by omega)  (hP.sub [0, 1] rfl)  hS (lv_sub hl [0, 3, 4, 1, 5] rfl)
                    · refine lv_iconst (v := 0) hx hb dX4_left_57 (by decide) ?_
                      refine lv_goto (tgt := 62) hx hb dX4_left_58 (by decide) ?_
                      refine lv_iadd hx hb dX4_left_62 ?_
                      refine lv_topi (fun x_27 ex_27 => ?_)
                      refine lv_istore_n (lv' := [(1, .int x_27), (5, .int (nI ((j1 * 8 + j2) * 2 + j3))), (4, .int (nI j3)), (3, .int (nI j2)), (2, .int (nI j1)), (0, .ref (a 5))]) hx hb dX4_left_63 rfl hl (by decide) rfl (fun ls hl => ?_)
                      refine lv_iinc (v := nI (j3 + 1)) (lv' := [(4, .int (nI (j3 + 1))), (1, .int x_27), (5, .int (nI ((j1 * 8 + j2) * 2 + j3))), (3, .int (nI j2)), (2, .int (nI j1)), (0, .ref (a 5))]) hx hb dX4_left_64 hl (k := 2) rfl (nI_1 j3) (by decide) rfl (fun ls hl => ?_)
                      refine lv_goto (tgt := 25) hx hb dX4_left_67 (by decide) ?_
                      exact ih25 (j3 + 1) x_27 H locs ls (by omega) (by omega)  (hP.sub [0, 1] rfl)  hS (lv_sub hl [0, 3, 4, 1, 5] rfl)
              exact lp25 (2 + 1) 0 w2 H locs ls (by omega) (by omega)  (hP.sub [0, 1] rfl)  hS (lv_sub hl [0, 1, 2, 3, 4] rfl)
        exact lp14 (sk + 1) 0 w1 H locs ls (by omega) (by omega)  (hP.sub [0, 1] rfl)  hS (lv_sub hl [0, 1, 2, 3] rfl)
  exact lp4 (sn + 1) 0 0 H locs ls (by omega) (by omega)  (hP.sub [0, 1] rfl)  hS (lv_sub hl [0, 1, 2] rfl)

theorem lf_X4_set_1 (a : Nat → Nat) (t : Nat → Nat) (sn : Nat) (sk : Nat) (scu : Int32) (sch : Int32) (g0 : Nat → Int32) (g1 : Nat → Int32) (g3 : Nat → Int32) (g6 : Nat → Int32) (un : Nat) (k1 : Nat) (p1 : Nat) (rf : Int32) (fs : Nat → Int32) (fk : Nat → Int32) (fa3 : Nat → Int32) (fa4 : Nat → Int32) (fa5 : Nat → Int32) (f1 : Nat) (s1 : Nat) (d1 : Nat) (hsn : sn ≤ 24) (hsk : sk ≤ 8) (hf : f1 < sn) (hs : s1 < sk) (hd : d1 < 2) (hp : p1 ≤ 32) (hst : ∀ j, j < 200 → 0 ≤ fs j) (hun : un ≤ 200) (hk1 : k1 ≤ 14) : sn ≤ 24 := by
  first | assumption | omega | decide
theorem lf_X4_set_2 (a : Nat → Nat) (t : Nat → Nat) (sn : Nat) (sk : Nat) (scu : Int32) (sch : Int32) (g0 : Nat → Int32) (g1 : Nat → Int32) (g3 : Nat → Int32) (g6 : Nat → Int32) (un : Nat) (k1 : Nat) (p1 : Nat) (rf : Int32) (fs : Nat → Int32) (fk : Nat → Int32) (fa3 : Nat → Int32) (fa4 : Nat → Int32) (fa5 : Nat → Int32) (f1 : Nat) (s1 : Nat) (d1 : Nat) (hsn : sn ≤ 24) (hsk : sk ≤ 8) (hf : f1 < sn) (hs : s1 < sk) (hd : d1 < 2) (hp : p1 ≤ 32) (hst : ∀ j, j < 200 → 0 ≤ fs j) (hun : un ≤ 200) (hk1 : k1 ≤ 14) : sk ≤ 8 := by
  first | assumption | omega | decide
theorem lf_X4_set_3 (a : Nat → Nat) (t : Nat → Nat) (sn : Nat) (sk : Nat) (scu : Int32) (sch : Int32) (g0 : Nat → Int32) (g1 : Nat → Int32) (g3 : Nat → Int32) (g6 : Nat → Int32) (un : Nat) (k1 : Nat) (p1 : Nat) (rf : Int32) (fs : Nat → Int32) (fk : Nat → Int32) (fa3 : Nat → Int32) (fa4 : Nat → Int32) (fa5 : Nat → Int32) (f1 : Nat) (s1 : Nat) (d1 : Nat) (hsn : sn ≤ 24) (hsk : sk ≤ 8) (hf : f1 < sn) (hs : s1 < sk) (hd : d1 < 2) (hp : p1 ≤ 32) (hst : ∀ j, j < 200 → 0 ≤ fs j) (hun : un ≤ 200) (hk1 : k1 ≤ 14) : f1 < sn := by
  first | assumption | omega | decide
theorem lf_X4_set_4 (a : Nat → Nat) (t : Nat → Nat) (sn : Nat) (sk : Nat) (scu : Int32) (sch : Int32) (g0 : Nat → Int32) (g1 : Nat → Int32) (g3 : Nat → Int32) (g6 : Nat → Int32) (un : Nat) (k1 : Nat) (p1 : Nat) (rf : Int32) (fs : Nat → Int32) (fk : Nat → Int32) (fa3 : Nat → Int32) (fa4 : Nat → Int32) (fa5 : Nat → Int32) (f1 : Nat) (s1 : Nat) (d1 : Nat) (hsn : sn ≤ 24) (hsk : sk ≤ 8) (hf : f1 < sn) (hs : s1 < sk) (hd : d1 < 2) (hp : p1 ≤ 32) (hst : ∀ j, j < 200 → 0 ≤ fs j) (hun : un ≤ 200) (hk1 : k1 ≤ 14) : s1 < sk := by
  first | assumption | omega | decide
theorem lf_X4_set_5 (a : Nat → Nat) (t : Nat → Nat) (sn : Nat) (sk : Nat) (scu : Int32) (sch : Int32) (g0 : Nat → Int32) (g1 : Nat → Int32) (g3 : Nat → Int32) (g6 : Nat → Int32) (un : Nat) (k1 : Nat) (p1 : Nat) (rf : Int32) (fs : Nat → Int32) (fk : Nat → Int32) (fa3 : Nat → Int32) (fa4 : Nat → Int32) (fa5 : Nat → Int32) (f1 : Nat) (s1 : Nat) (d1 : Nat) (hsn : sn ≤ 24) (hsk : sk ≤ 8) (hf : f1 < sn) (hs : s1 < sk) (hd : d1 < 2) (hp : p1 ≤ 32) (hst : ∀ j, j < 200 → 0 ≤ fs j) (hun : un ≤ 200) (hk1 : k1 ≤ 14) : d1 < 2 := by
  first | assumption | omega | decide
theorem lf_X4_set_7 (a : Nat → Nat) (t : Nat → Nat) (sn : Nat) (sk : Nat) (scu : Int32) (sch : Int32) (g0 : Nat → Int32) (g1 : Nat → Int32) (g3 : Nat → Int32) (g6 : Nat → Int32) (un : Nat) (k1 : Nat) (p1 : Nat) (rf : Int32) (fs : Nat → Int32) (fk : Nat → Int32) (fa3 : Nat → Int32) (fa4 : Nat → Int32) (fa5 : Nat → Int32) (f1 : Nat) (s1 : Nat) (d1 : Nat) (hsn : sn ≤ 24) (hsk : sk ≤ 8) (hf : f1 < sn) (hs : s1 < sk) (hd : d1 < 2) (hp : p1 ≤ 32) (hst : ∀ j, j < 200 → 0 ≤ fs j) (hun : un ≤ 200) (hk1 : k1 ≤ 14) : 0 ≤ nI ((f1 * 8 + s1) * 2 + d1) := by
  first | exact nI_pos (by omega) | exact nI_pos' (by omega)
theorem lf_X4_set_10 (a : Nat → Nat) (t : Nat → Nat) (sn : Nat) (sk : Nat) (scu : Int32) (sch : Int32) (g0 : Nat → Int32) (g1 : Nat → Int32) (g3 : Nat → Int32) (g6 : Nat → Int32) (un : Nat) (k1 : Nat) (p1 : Nat) (rf : Int32) (fs : Nat → Int32) (fk : Nat → Int32) (fa3 : Nat → Int32) (fa4 : Nat → Int32) (fa5 : Nat → Int32) (f1 : Nat) (s1 : Nat) (d1 : Nat) (hsn : sn ≤ 24) (hsk : sk ≤ 8) (hf : f1 < sn) (hs : s1 < sk) (hd : d1 < 2) (hp : p1 ≤ 32) (hst : ∀ j, j < 200 → 0 ≤ fs j) (hun : un ≤ 200) (hk1 : k1 ≤ 14) (g6_9 : Nat → Int32) : p1 ≤ 32 := by
  first | assumption | omega | decide
theorem lf_X4_set_11 (a : Nat → Nat) (t : Nat → Nat) (sn : Nat) (sk : Nat) (scu : Int32) (sch : Int32) (g0 : Nat → Int32) (g1 : Nat → Int32) (g3 : Nat → Int32) (g6 : Nat → Int32) (un : Nat) (k1 : Nat) (p1 : Nat) (rf : Int32) (fs : Nat → Int32) (fk : Nat → Int32) (fa3 : Nat → Int32) (fa4 : Nat → Int32) (fa5 : Nat → Int32) (f1 : Nat) (s1 : Nat) (d1 : Nat) (hsn : sn ≤ 24) (hsk : sk ≤ 8) (hf : f1 < sn) (hs : s1 < sk) (hd : d1 < 2) (hp : p1 ≤ 32) (hst : ∀ j, j < 200 → 0 ≤ fs j) (hun : un ≤ 200) (hk1 : k1 ≤ 14) (g6_9 : Nat → Int32) : ∀ j, j < 200 → 0 ≤ fs j := by
  first | assumption | omega | decide
theorem lf_X4_set_12 (a : Nat → Nat) (t : Nat → Nat) (sn : Nat) (sk : Nat) (scu : Int32) (sch : Int32) (g0 : Nat → Int32) (g1 : Nat → Int32) (g3 : Nat → Int32) (g6 : Nat → Int32) (un : Nat) (k1 : Nat) (p1 : Nat) (rf : Int32) (fs : Nat → Int32) (fk : Nat → Int32) (fa3 : Nat → Int32) (fa4 : Nat → Int32) (fa5 : Nat → Int32) (f1 : Nat) (s1 : Nat) (d1 : Nat) (hsn : sn ≤ 24) (hsk : sk ≤ 8) (hf : f1 < sn) (hs : s1 < sk) (hd : d1 < 2) (hp : p1 ≤ 32) (hst : ∀ j, j < 200 → 0 ≤ fs j) (hun : un ≤ 200) (hk1 : k1 ≤ 14) (g6_9 : Nat → Int32) : un ≤ 200 := by
  first | assumption | omega | decide
theorem lf_X4_set_13 (a : Nat → Nat) (t : Nat → Nat) (sn : Nat) (sk : Nat) (scu : Int32) (sch : Int32) (g0 : Nat → Int32) (g1 : Nat → Int32) (g3 : Nat → Int32) (g6 : Nat → Int32) (un : Nat) (k1 : Nat) (p1 : Nat) (rf : Int32) (fs : Nat → Int32) (fk : Nat → Int32) (fa3 : Nat → Int32) (fa4 : Nat → Int32) (fa5 : Nat → Int32) (f1 : Nat) (s1 : Nat) (d1 : Nat) (hsn : sn ≤ 24) (hsk : sk ≤ 8) (hf : f1 < sn) (hs : s1 < sk) (hd : d1 < 2) (hp : p1 ≤ 32) (hst : ∀ j, j < 200 → 0 ≤ fs j) (hun : un ≤ 200) (hk1 : k1 ≤ 14) (g6_9 : Nat → Int32) : k1 ≤ 14 := by
  first | assumption | omega | decide
theorem lf_X4_set_17 (a : Nat → Nat) (t : Nat → Nat) (sn : Nat) (sk : Nat) (scu : Int32) (sch : Int32) (g0 : Nat → Int32) (g1 : Nat → Int32) (g3 : Nat → Int32) (g6 : Nat → Int32) (un : Nat) (k1 : Nat) (p1 : Nat) (rf : Int32) (fs : Nat → Int32) (fk : Nat → Int32) (fa3 : Nat → Int32) (fa4 : Nat → Int32) (fa5 : Nat → Int32) (f1 : Nat) (s1 : Nat) (d1 : Nat) (hsn : sn ≤ 24) (hsk : sk ≤ 8) (hf : f1 < sn) (hs : s1 < sk) (hd : d1 < 2) (hp : p1 ≤ 32) (hst : ∀ j, j < 200 → 0 ≤ fs j) (hun : un ≤ 200) (hk1 : k1 ≤ 14) (g6_9 : Nat → Int32) (pa_15 : Nat) (ra_15 : Int32) (fa_15 : Nat → Int32) (hz_15 : pa_15 ≤ 32) (r_14 : Int32) : vp_in (nI ((f1 * 8 + s1) * 2 + d1)) 384 := by
  first | exact vp_in_nI (by omega) (by decide) | (unfold vp_in; decide)
theorem lf_X4_set_18 (a : Nat → Nat) (t : Nat → Nat) (sn : Nat) (sk : Nat) (scu : Int32) (sch : Int32) (g0 : Nat → Int32) (g1 : Nat → Int32) (g3 : Nat → Int32) (g6 : Nat → Int32) (un : Nat) (k1 : Nat) (p1 : Nat) (rf : Int32) (fs : Nat → Int32) (fk : Nat → Int32) (fa3 : Nat → Int32) (fa4 : Nat → Int32) (fa5 : Nat → Int32) (f1 : Nat) (s1 : Nat) (d1 : Nat) (hsn : sn ≤ 24) (hsk : sk ≤ 8) (hf : f1 < sn) (hs : s1 < sk) (hd : d1 < 2) (hp : p1 ≤ 32) (hst : ∀ j, j < 200 → 0 ≤ fs j) (hun : un ≤ 200) (hk1 : k1 ≤ 14) (g6_9 : Nat → Int32) (pa_15 : Nat) (ra_15 : Int32) (fa_15 : Nat → Int32) (hz_15 : pa_15 ≤ 32) (r_14 : Int32) (f_16 : Nat → Int32) : pa_15 ≤ 32 := by
  first | assumption | omega | decide
theorem lf_X4_set_19 (a : Nat → Nat) (t : Nat → Nat) (sn : Nat) (sk : Nat) (scu : Int32) (sch : Int32) (g0 : Nat → Int32) (g1 : Nat → Int32) (g3 : Nat → Int32) (g6 : Nat → Int32) (un : Nat) (k1 : Nat) (p1 : Nat) (rf : Int32) (fs : Nat → Int32) (fk : Nat → Int32) (fa3 : Nat → Int32) (fa4 : Nat → Int32) (fa5 : Nat → Int32) (f1 : Nat) (s1 : Nat) (d1 : Nat) (hsn : sn ≤ 24) (hsk : sk ≤ 8) (hf : f1 < sn) (hs : s1 < sk) (hd : d1 < 2) (hp : p1 ≤ 32) (hst : ∀ j, j < 200 → 0 ≤ fs j) (hun : un ≤ 200) (hk1 : k1 ≤ 14) (g6_9 : Nat → Int32) (pa_15 : Nat) (ra_15 : Int32) (fa_15 : Nat → Int32) (hz_15 : pa_15 ≤ 32) (r_14 : Int32) (f_16 : Nat → Int32) : ∀ j, j < 200 → 0 ≤ fs j := by
  first | assumption | omega | decide
theorem lf_X4_set_20 (a : Nat → Nat) (t : Nat → Nat) (sn : Nat) (sk : Nat) (scu : Int32) (sch : Int32) (g0 : Nat → Int32) (g1 : Nat → Int32) (g3 : Nat → Int32) (g6 : Nat → Int32) (un : Nat) (k1 : Nat) (p1 : Nat) (rf : Int32) (fs : Nat → Int32) (fk : Nat → Int32) (fa3 : Nat → Int32) (fa4 : Nat → Int32) (fa5 : Nat → Int32) (f1 : Nat) (s1 : Nat) (d1 : Nat) (hsn : sn ≤ 24) (hsk : sk ≤ 8) (hf : f1 < sn) (hs : s1 < sk) (hd : d1 < 2) (hp : p1 ≤ 32) (hst : ∀ j, j < 200 → 0 ≤ fs j) (hun : un ≤ 200) (hk1 : k1 ≤ 14) (g6_9 : Nat → Int32) (pa_15 : Nat) (ra_15 : Int32) (fa_15 : Nat → Int32) (hz_15 : pa_15 ≤ 32) (r_14 : Int32) (f_16 : Nat → Int32) : un ≤ 200 := by
  first | assumption | omega | decide
theorem lf_X4_set_21 (a : Nat → Nat) (t : Nat → Nat) (sn : Nat) (sk : Nat) (scu : Int32) (sch : Int32) (g0 : Nat → Int32) (g1 : Nat → Int32) (g3 : Nat → Int32) (g6 : Nat → Int32) (un : Nat) (k1 : Nat) (p1 : Nat) (rf : Int32) (fs : Nat → Int32) (fk : Nat → Int32) (fa3 : Nat → Int32) (fa4 : Nat → Int32) (fa5 : Nat → Int32) (f1 : Nat) (s1 : Nat) (d1 : Nat) (hsn : sn ≤ 24) (hsk : sk ≤ 8) (hf : f1 < sn) (hs : s1 < sk) (hd : d1 < 2) (hp : p1 ≤ 32) (hst : ∀ j, j < 200 → 0 ≤ fs j) (hun : un ≤ 200) (hk1 : k1 ≤ 14) (g6_9 : Nat → Int32) (pa_15 : Nat) (ra_15 : Int32) (fa_15 : Nat → Int32) (hz_15 : pa_15 ≤ 32) (r_14 : Int32) (f_16 : Nat → Int32) : k1 ≤ 14 := by
  first | assumption | omega | decide
theorem lf_X4_set_25 (a : Nat → Nat) (t : Nat → Nat) (sn : Nat) (sk : Nat) (scu : Int32) (sch : Int32) (g0 : Nat → Int32) (g1 : Nat → Int32) (g3 : Nat → Int32) (g6 : Nat → Int32) (un : Nat) (k1 : Nat) (p1 : Nat) (rf : Int32) (fs : Nat → Int32) (fk : Nat → Int32) (fa3 : Nat → Int32) (fa4 : Nat → Int32) (fa5 : Nat → Int32) (f1 : Nat) (s1 : Nat) (d1 : Nat) (hsn : sn ≤ 24) (hsk : sk ≤ 8) (hf : f1 < sn) (hs : s1 < sk) (hd : d1 < 2) (hp : p1 ≤ 32) (hst : ∀ j, j < 200 → 0 ≤ fs j) (hun : un ≤ 200) (hk1 : k1 ≤ 14) (g6_9 : Nat → Int32) (pa_15 : Nat) (ra_15 : Int32) (fa_15 : Nat → Int32) (hz_15 : pa_15 ≤ 32) (r_14 : Int32) (f_16 : Nat → Int32) (pa_23 : Nat) (ra_23 : Int32) (fa_23 : Nat → Int32) (hz_23 : pa_23 ≤ 32) (r_22 : Int32) : vp_in (nI ((f1 * 8 + s1) * 2 + d1)) 384 := by
  first | exact vp_in_nI (by omega) (by decide) | (unfold vp_in; decide)
theorem lf_X4_set_27 (a : Nat → Nat) (t : Nat → Nat) (sn : Nat) (sk : Nat) (scu : Int32) (sch : Int32) (g0 : Nat → Int32) (g1 : Nat → Int32) (g3 : Nat → Int32) (g6 : Nat → Int32) (un : Nat) (k1 : Nat) (p1 : Nat) (rf : Int32) (fs : Nat → Int32) (fk : Nat → Int32) (fa3 : Nat → Int32) (fa4 : Nat → Int32) (fa5 : Nat → Int32) (f1 : Nat) (s1 : Nat) (d1 : Nat) (hsn : sn ≤ 24) (hsk : sk ≤ 8) (hf : f1 < sn) (hs : s1 < sk) (hd : d1 < 2) (hp : p1 ≤ 32) (hst : ∀ j, j < 200 → 0 ≤ fs j) (hun : un ≤ 200) (hk1 : k1 ≤ 14) (g6_9 : Nat → Int32) (pa_15 : Nat) (ra_15 : Int32) (fa_15 : Nat → Int32) (hz_15 : pa_15 ≤ 32) (r_14 : Int32) (f_16 : Nat → Int32) (pa_23 : Nat) (ra_23 : Int32) (fa_23 : Nat → Int32) (hz_23 : pa_23 ≤ 32) (r_22 : Int32) (f_24 : Nat → Int32) : vp_in (nI ((f1 * 8 + s1) * 2 + d1)) 384 := by
  first | exact vp_in_nI (by omega) (by decide) | (unfold vp_in; decide)
theorem lf_X4_set_28 (a : Nat → Nat) (t : Nat → Nat) (sn : Nat) (sk : Nat) (scu : Int32) (sch : Int32) (g0 : Nat → Int32) (g1 : Nat → Int32) (g3 : Nat → Int32) (g6 : Nat → Int32) (un : Nat) (k1 : Nat) (p1 : Nat) (rf : Int32) (fs : Nat → Int32) (fk : Nat → Int32) (fa3 : Nat → Int32) (fa4 : Nat → Int32) (fa5 : Nat → Int32) (f1 : Nat) (s1 : Nat) (d1 : Nat) (hsn : sn ≤ 24) (hsk : sk ≤ 8) (hf : f1 < sn) (hs : s1 < sk) (hd : d1 < 2) (hp : p1 ≤ 32) (hst : ∀ j, j < 200 → 0 ≤ fs j) (hun : un ≤ 200) (hk1 : k1 ≤ 14) (g6_9 : Nat → Int32) (pa_15 : Nat) (ra_15 : Int32) (fa_15 : Nat → Int32) (hz_15 : pa_15 ≤ 32) (r_14 : Int32) (f_16 : Nat → Int32) (pa_23 : Nat) (ra_23 : Int32) (fa_23 : Nat → Int32) (hz_23 : pa_23 ≤ 32) (r_22 : Int32) (f_24 : Nat → Int32) (f_26 : Nat → Int32) : ((pa_23 : Nat) ≤ 32) := by
  first | omega | assumption | trivial
set_option maxHeartbeats 4000000 in
set_option maxRecDepth 100000 in
theorem c_X4_set (l : Launch) (D : va_G) (cI cB cZ cJ : ClassId) (tx : List (ClassId × FieldType)) (a : Nat → Nat) (t : Nat → Nat) (sn : Nat) (sk : Nat) (scu : Int32) (sch : Int32) (g0 : Nat → Int32) (g1 : Nat → Int32) (g3 : Nat → Int32) (g6 : Nat → Int32) (un : Nat) (k1 : Nat) (p1 : Nat) (rf : Int32) (fs : Nat → Int32) (fk : Nat → Int32) (fa3 : Nat → Int32) (fa4 : Nat → Int32) (fa5 : Nat → Int32) (f1 : Nat) (s1 : Nat) (d1 : Nat) (hsn : sn ≤ 24) (hsk : sk ≤ 8) (hf : f1 < sn) (hs : s1 < sk) (hd : d1 < 2) (hp : p1 ≤ 32) (hst : ∀ j, j < 200 → 0 ≤ fs j) (hun : un ≤ 200) (hk1 : k1 ≤ 14) : WrV l D cI cB cZ cJ tx yX4_set cX4_set 6 none 4 0 0 [.ref (a 5), .int (nI f1), .int (nI s1), .int (nI d1), .ref (t 0)] [(a 5, .inr (4, [.ref (a 18), .ref (a 19), .ref (a 20), .ref (a 21), .ref (a 22), .ref (a 23), .ref (a 24), .int (nI sn), .int (nI sk), .int scu, .int sch])), (a 18, .inl (cI, 384, .inl g0)), (a 19, .inl (cI, 384, .inl g1)), (a 21, .inl (cZ, 384, .inl g3)), (a 24, .inl (cI, 26, .inl g6)), (t 0, .inr (9, [.ref (t 1), .ref (t 2), .ref (t 3), .ref (t 4), .ref (t 5), .int (nI un), .int (nI k1), .int (nI p1), .int rf])), (t 1, .inl (cI, 200, .inl fs)), (t 2, .inl (cI, 32, .inl fk)), (t 3, .inl (cI, 14, .inl fa3)), (t 4, .inl (cI, 14, .inl fa4)), (t 5, .inl (cI, 14, .inl fa5))] (fun (v : (Nat → Int32) × (Nat → Int32) × (Nat → Int32) × (Nat → Int32) × (Nat) × (Int32) × (Nat → Int32)) => (v.2.2.2.2.1 ≤ 32)) (fun v => [(a 5, .inr (4, [.ref (a 18), .ref (a 19), .ref (a 20), .ref (a 21), .ref (a 22), .ref (a 23), .ref (a 24), .int (nI sn), .int (nI sk), .int scu, .int sch])), (a 18, .inl (cI, 384, .inl v.1)), (a 19, .inl (cI, 384, .inl v.2.1)), (a 21, .inl (cZ, 384, .inl v.2.2.1)), (a 24, .inl (cI, 26, .inl v.2.2.2.1)), (t 0, .inr (9, [.ref (t 1), .ref (t 2), .ref (t 3), .ref (t 4), .ref (t 5), .int (nI un), .int (nI k1), .int (nI (v.2.2.2.2.1)), .int v.2.2.2.2.2.1])), (t 1, .inl (cI, 200, .inl fs)), (t 2, .inl (cI, 32, .inl v.2.2.2.2.2.2)), (t 3, .inl (cI, 14, .inl fa3)), (t 4, .inl (cI, 14, .inl fa4)), (t 5, .inl (cI, 14, .inl fa5))]) := by
  refine wrv_of2 (by decide) (Nat.le_of_ble_eq_true rfl) ?_
  intro p e s m below meth c A ls H locs hC hK hP hD hA hS hl
  obtain ⟨hx, hb, hr, hml, hown, hts, hlocks, hin⟩ := hC
  have hown : s.vm.findClass RX4 = some m.cls := hown
  have hl : lv_has ls 6 [(0, .ref (a 5)), (1, .int (nI f1)), (2, .int (nI s1)), (3, .int (nI d1)), (4, .ref (t 0))] := hl
  refine lv_aload_n hx hb dX4_set_0 rfl (lv_at hl 0 rfl) ?_
  refine lv_iload_n hx hb dX4_set_1 rfl (lv_at hl 1 rfl) ?_
  refine lv_iload_n hx hb dX4_set_2 rfl (lv_at hl 2 rfl) ?_
  refine lv_iload_n hx hb dX4_set_3 rfl (lv_at hl 3 rfl) ?_
  refine eRi (va_runV (As := [.int (nI f1), .int (nI s1), .int (nI d1)]) (rest := []) ⟨hx, hb, hml, hown, hts⟩ (c_X4_rivetAt_g l D cI cB cZ cJ tx a sn sk scu sch f1 s1 d1 (lf_X4_set_1 a t sn sk scu sch g0 g1 g3 g6 un k1 p1 rf fs fk fa3 fa4 fa5 f1 s1 d1 hsn hsk hf hs hd hp hst hun hk1) (lf_X4_set_2 a t sn sk scu sch g0 g1 g3 g6 un k1 p1 rf fs fk fa3 fa4 fa5 f1 s1 d1 hsn hsk hf hs hd hp hst hun hk1) (lf_X4_set_3 a t sn sk scu sch g0 g1 g3 g6 un k1 p1 rf fs fk fa3 fa4 fa5 f1 s1 d1 hsn hsk hf hs hd hp hst hun hk1) (lf_X4_set_4 a t sn sk scu sch g0 g1 g3 g6 un k1 p1 rf fs fk fa3 fa4 fa5 f1 s1 d1 hsn hsk hf hs hd hp hst hun hk1) (lf_X4_set_5 a t sn sk scu sch g0 g1 g3 g6 un k1 p1 rf fs fk fa3 fa4 fa5 f1 s1 d1 hsn hsk hf hs hd hp hst hun hk1) H.size) (zV hts k_773 v_X4_rivetAt ⟨Nat.le_of_ble_eq_true rfl, Nat.le_of_ble_eq_true rfl⟩) (pV (px1 hK hP 0 rfl) hK hP 0 rfl rfl) rfl rfl hl.1 rfl (lv_room (Nat.le_of_ble_eq_true rfl)) dX4_set_4 ⟨Nat.le_of_ble_eq_true rfl, Nat.le_of_ble_eq_true rfl⟩) hP hS hA (fun r_6 H locs wr_6 hP hS => ?_)
  subst wr_6
  refine lv_istore (lv' := [(5, .int (nI ((f1 * 8 + s1) * 2 + d1))), (0, .ref (a 5)), (1, .int (nI f1)), (2, .int (nI s1)), (3, .int (nI d1)), (4, .ref (t 0))]) hx hb dX4_set_7 hl (by decide) rfl (fun ls hl => ?_)
  refine lv_iload hx hb dX4_set_9 (lv_at hl 0 rfl) ?_
  refine lv_if_ge (tgt := 15) hx hb dX4_set_11 (by decide) (fun _ => ?_) (fun c => absurd (lf_X4_set_7 a t sn sk scu sch g0 g1 g3 g6 un k1 p1 rf fs fk fa3 fa4 fa5 f1 s1 d1 hsn hsk hf hs hd hp hst hun hk1) c)
  refine lv_aload_n hx hb dX4_set_15 rfl (lv_at hl 1 rfl) ?_
  refine lv_iload_n hx hb dX4_set_16 rfl (lv_at hl 2 rfl) ?_
  refine lv_iload_n hx hb dX4_set_17 rfl (lv_at hl 3 rfl) ?_
  refine lv_iload_n hx hb dX4_set_18 rfl (lv_at hl 4 rfl) ?_
  refine eWv (wr := [(a 18, .inl (cI, 384, .inl g0)), (a 19, .inl (cI, 384, .inl g1)), (a 21, .inl (cZ, 384, .inl g3)), (t 0, .inr (9, [.ref (t 1), .ref (t 2), .ref (t 3), .ref (t 4), .ref (t 5), .int (nI un), .int (nI k1), .int (nI p1), .int rf])), (t 1, .inl (cI, 200, .inl fs)), (t 2, .inl (cI, 32, .inl fk)), (t 3, .inl (cI, 14, .inl fa3)), (t 4, .inl (cI, 14, .inl fa4)), (t 5, .inl (cI, 14, .inl fa5))]) (va_runV (As := [.int (nI f1), .int (nI s1), .int (nI d1)]) (rest := []) ⟨hx, hb, hml, hown, hts⟩ (c_X4_standAt l D cI cB cZ cJ tx a sn sk scu sch g6 (nI f1) (nI s1) (nI d1) H.size) (zV hts k_778 v_X4_standAt ⟨Nat.le_of_ble_eq_true rfl, Nat.le_of_ble_eq_true rfl⟩) (pV (pxS hK hP hD [0, 4] (by decide) rfl) hK hP 0 rfl rfl) rfl rfl hl.1 rfl (lv_room (Nat.le_of_ble_eq_true rfl)) dX4_set_19 ⟨Nat.le_of_ble_eq_true rfl, Nat.le_of_ble_eq_true rfl⟩) hP hD hS hA [0, 4] [1, 2, 3, 5, 6, 7, 8, 9, 10] rfl rfl (by decide) (by decide) (fun u_9 H locs wr_8 hP hD hS => ?_)
  obtain ⟨g6_9, rfl⟩ : ∃ z, z = u_9 := ⟨_, rfl⟩
  have hP : va_P D vwCl [(a 18, .inl (cI, 384, .inl g0)), (a 19, .inl (cI, 384, .inl g1)), (a 21, .inl (cZ, 384, .inl g3)), (t 0, .inr (9, [.ref (t 1), .ref (t 2), .ref (t 3), .ref (t 4), .ref (t 5), .int (nI un), .int (nI k1), .int (nI p1), .int rf])), (t 1, .inl (cI, 200, .inl fs)), (t 2, .inl (cI, 32, .inl fk)), (t 3, .inl (cI, 14, .inl fa3)), (t 4, .inl (cI, 14, .inl fa4)), (t 5, .inl (cI, 14, .inl fa5)), (a 5, .inr (4, [.ref (a 18), .ref (a 19), .ref (a 20), .ref (a 21), .ref (a 22), .ref (a 23), .ref (a 24), .int (nI sn), .int (nI sk), .int scu, .int sch])), (a 24, .inl (cI, 26, .inl g6_9))] H := hP
  have hD : va_D A [(a 18, .inl (cI, 384, .inl g0)), (a 19, .inl (cI, 384, .inl g1)), (a 21, .inl (cZ, 384, .inl g3)), (t 0, .inr (9, [.ref (t 1), .ref (t 2), .ref (t 3), .ref (t 4), .ref (t 5), .int (nI un), .int (nI k1), .int (nI p1), .int rf])), (t 1, .inl (cI, 200, .inl fs)), (t 2, .inl (cI, 32, .inl fk)), (t 3, .inl (cI, 14, .inl fa3)), (t 4, .inl (cI, 14, .inl fa4)), (t 5, .inl (cI, 14, .inl fa5)), (a 5, .inr (4, [.ref (a 18), .ref (a 19), .ref (a 20), .ref (a 21), .ref (a 22), .ref (a 23), .ref (a 24), .int (nI sn), .int (nI sk), .int scu, .int sch])), (a 24, .inl (cI, 26, .inl g6_9))] := hD
  refine lv_aload_n hx hb dX4_set_22 rfl (lv_at hl 1 rfl) ?_
  refine va_get (D := D) (ci := 4) (v := .ref (a 18)) (C := RX4) (T := TX4) (N := 11) hx hb hts inT_X4 hown hK.1 hP 9 rfl rfl 0 (by decide) (hts _ k_231) (fun _ h9 => h9) rfl dX4_set_23 ?_
  refine lv_iload hx hb dX4_set_26 (lv_at hl 0 rfl) ?_
  refine lv_aload hx hb dX4_set_28 (lv_at hl 5 rfl) ?_
  refine lv_bipush (v := 121) hx hb dX4_set_30 (by decide) ?_
  refine lv_aload_n hx hb dX4_set_32 rfl (lv_at hl 1 rfl) ?_
  refine va_get (D := D) (ci := 4) (v := .ref (a 24)) (C := RX4) (T := TX4) (N := 11) hx hb hts inT_X4 hown hK.1 hP 9 rfl rfl 6 (by decide) (hts _ k_247) (fun _ h9 => h9) rfl dX4_set_33 ?_
  refine lv_sipush (v := (-3000)) hx hb dX4_set_36 (by decide) ?_
  refine lv_sipush (v := 3000) hx hb dX4_set_39 (by decide) ?_
  refine eWi (wr := [(a 18, .inl (cI, 384, .inl g0)), (a 19, .inl (cI, 384, .inl g1)), (a 21, .inl (cZ, 384, .inl g3)), (a 5, .inr (4, [.ref (a 18), .ref (a 19), .ref (a 20), .ref (a 21), .ref (a 22), .ref (a 23), .ref (a 24), .int (nI sn), .int (nI sk), .int scu, .int sch]))]) (va_runV (As := [.int 121, .ref (a 24), .int (-3000), .int 3000]) (rest := [.int (nI ((f1 * 8 + s1) * 2 + d1)), .ref (a 18)]) ⟨hx, hb, hml, hown, hts⟩ (c_X9_value l D cI cB cZ cJ tx t un k1 rf p1 fs fk fa3 fa4 fa5 g6_9 (a 24) 121 (-3000) 3000 (lf_X4_set_10 a t sn sk scu sch g0 g1 g3 g6 un k1 p1 rf fs fk fa3 fa4 fa5 f1 s1 d1 hsn hsk hf hs hd hp hst hun hk1 g6_9) (lf_X4_set_11 a t sn sk scu sch g0 g1 g3 g6 un k1 p1 rf fs fk fa3 fa4 fa5 f1 s1 d1 hsn hsk hf hs hd hp hst hun hk1 g6_9) (lf_X4_set_12 a t sn sk scu sch g0 g1 g3 g6 un k1 p1 rf fs fk fa3 fa4 fa5 f1 s1 d1 hsn hsk hf hs hd hp hst hun hk1 g6_9) (lf_X4_set_13 a t sn sk scu sch g0 g1 g3 g6 un k1 p1 rf fs fk fa3 fa4 fa5 f1 s1 d1 hsn hsk hf hs hd hp hst hun hk1 g6_9) H.size) (zV hts k_783 v_X9_value ⟨Nat.le_of_ble_eq_true rfl, Nat.le_of_ble_eq_true rfl⟩) (pV (pxS hK hP hD [3, 4, 5, 6, 7, 8, 10] (by decide) rfl) hK hP 3 rfl rfl) rfl rfl hl.1 rfl (lv_room (Nat.le_of_ble_eq_true rfl)) dX4_set_42 ⟨Nat.le_of_ble_eq_true rfl, Nat.le_of_ble_eq_true rfl⟩) hP hD hS hA [3, 4, 5, 6, 7, 8, 10] [0, 1, 2, 9] rfl rfl (by decide) (by decide) (fun r_14 u_15 H locs wr_14 hP hD hS => ?_)
  obtain ⟨pa_15, ra_15, fa_15⟩ := u_15
  have hz_15 : pa_15 ≤ 32 := wr_14
  have hP : va_P D vwCl [(a 18, .inl (cI, 384, .inl g0)), (a 19, .inl (cI, 384, .inl g1)), (a 21, .inl (cZ, 384, .inl g3)), (a 5, .inr (4, [.ref (a 18), .ref (a 19), .ref (a 20), .ref (a 21), .ref (a 22), .ref (a 23), .ref (a 24), .int (nI sn), .int (nI sk), .int scu, .int sch])), (t 0, .inr (9, [.ref (t 1), .ref (t 2), .ref (t 3), .ref (t 4), .ref (t 5), .int (nI un), .int (nI k1), .int (nI pa_15), .int ra_15])), (t 1, .inl (cI, 200, .inl fs)), (t 2, .inl (cI, 32, .inl fa_15)), (t 3, .inl (cI, 14, .inl fa3)), (t 4, .inl (cI, 14, .inl fa4)), (t 5, .inl (cI, 14, .inl fa5)), (a 24, .inl (cI, 26, .inl g6_9))] H := hP
  have hD : va_D A [(a 18, .inl (cI, 384, .inl g0)), (a 19, .inl (cI, 384, .inl g1)), (a 21, .inl (cZ, 384, .inl g3)), (a 5, .inr (4, [.ref (a 18), .ref (a 19), .ref (a 20), .ref (a 21), .ref (a 22), .ref (a 23), .ref (a 24), .int (nI sn), .int (nI sk), .int scu, .int sch])), (t 0, .inr (9, [.ref (t 1), .ref (t 2), .ref (t 3), .ref (t 4), .ref (t 5), .int (nI un), .int (nI k1), .int (nI pa_15), .int ra_15])), (t 1, .inl (cI, 200, .inl fs)), (t 2, .inl (cI, 32, .inl fa_15)), (t 3, .inl (cI, 14, .inl fa3)), (t 4, .inl (cI, 14, .inl fa4)), (t 5, .inl (cI, 14, .inl fa5)), (a 24, .inl (cI, 26, .inl g6_9))] := hD
  refine st_i hx hb hK hP hD hS 0 rfl (lf_X4_set_17 a t sn sk scu sch g0 g1 g3 g6 un k1 p1 rf fs fk fa3 fa4 fa5 f1 s1 d1 hsn hsk hf hs hd hp hst hun hk1 g6_9 pa_15 ra_15 fa_15 hz_15 r_14) dX4_set_45 (fun f_16 H locs hP hD hS => ?_)
  have hP : va_P D vwCl [(a 18, .inl (cI, 384, .inl f_16)), (a 19, .inl (cI, 384, .inl g1)), (a 21, .inl (cZ, 384, .inl g3)), (a 5, .inr (4, [.ref (a 18), .ref (a 19), .ref (a 20), .ref (a 21), .ref (a 22), .ref (a 23), .ref (a 24), .int (nI sn), .int (nI sk), .int scu, .int sch])), (t 0, .inr (9, [.ref (t 1), .ref (t 2), .ref (t 3), .ref (t 4), .ref (t 5), .int (nI un), .int (nI k1), .int (nI pa_15), .int ra_15])), (t 1, .inl (cI, 200, .inl fs)), (t 2, .inl (cI, 32, .inl fa_15)), (t 3, .inl (cI, 14, .inl fa3)), (t 4, .inl (cI, 14, .inl fa4)), (t 5, .inl (cI, 14, .inl fa5)), (a 24, .inl (cI, 26, .inl g6_9))] H := hP
  have hD : va_D A [(a 18, .inl (cI, 384, .inl f_16)), (a 19, .inl (cI, 384, .inl g1)), (a 21, .inl (cZ, 384, .inl g3)), (a 5, .inr (4, [.ref (a 18), .ref (a 19), .ref (a 20), .ref (a 21), .ref (a 22), .ref (a 23), .ref (a 24), .int (nI sn), .int (nI sk), .int scu, .int sch])), (t 0, .inr (9, [.ref (t 1), .ref (t 2), .ref (t 3), .ref (t 4), .ref (t 5), .int (nI un), .int (nI k1), .int (nI pa_15), .int ra_15])), (t 1, .inl (cI, 200, .inl fs)), (t 2, .inl (cI, 32, .inl fa_15)), (t 3, .inl (cI, 14, .inl fa3)), (t 4, .inl (cI, 14, .inl fa4)), (t 5, .inl (cI, 14, .inl fa5)), (a 24, .inl (cI, 26, .inl g6_9))] := hD
  refine lv_aload_n hx hb dX4_set_46 rfl (lv_at hl 1 rfl) ?_
  refine va_get (D := D) (ci := 4) (v := .ref (a 19)) (C := RX4) (T := TX4) (N := 11) hx hb hts inT_X4 hown hK.1 hP 3 rfl rfl 1 (by decide) (hts _ k_235) (fun _ h9 => h9) rfl dX4_set_47 ?_
  refine lv_iload hx hb dX4_set_50 (lv_at hl 0 rfl) ?_
  refine lv_aload hx hb dX4_set_52 (lv_at hl 5 rfl) ?_
  refine lv_bipush (v := 122) hx hb dX4_set_54 (by decide) ?_
  refine lv_aload_n hx hb dX4_set_56 rfl (lv_at hl 1 rfl) ?_
  refine va_get (D := D) (ci := 4) (v := .ref (a 24)) (C := RX4) (T := TX4) (N := 11) hx hb hts inT_X4 hown hK.1 hP 3 rfl rfl 6 (by decide) (hts _ k_247) (fun _ h9 => h9) rfl dX4_set_57 ?_
  refine lv_sipush (v := (-3000)) hx hb dX4_set_60 (by decide) ?_
  refine lv_sipush (v := 3000) hx hb dX4_set_63 (by decide) ?_
  refine eWi (wr := [(a 18, .inl (cI, 384, .inl f_16)), (a 19, .inl (cI, 384, .inl g1)), (a 21, .inl (cZ, 384, .inl g3)), (a 5, .inr (4, [.ref (a 18), .ref (a 19), .ref (a 20), .ref (a 21), .ref (a 22), .ref (a 23), .ref (a 24), .int (nI sn), .int (nI sk), .int scu, .int sch]))]) (va_runV (As := [.int 122, .ref (a 24), .int (-3000), .int 3000]) (rest := [.int (nI ((f1 * 8 + s1) * 2 + d1)), .ref (a 19)]) ⟨hx, hb, hml, hown, hts⟩ (c_X9_value l D cI cB cZ cJ tx t un k1 ra_15 pa_15 fs fa_15 fa3 fa4 fa5 g6_9 (a 24) 122 (-3000) 3000 (lf_X4_set_18 a t sn sk scu sch g0 g1 g3 g6 un k1 p1 rf fs fk fa3 fa4 fa5 f1 s1 d1 hsn hsk hf hs hd hp hst hun hk1 g6_9 pa_15 ra_15 fa_15 hz_15 r_14 f_16) (lf_X4_set_19 a t sn sk scu sch g0 g1 g3 g6 un k1 p1 rf fs fk fa3 fa4 fa5 f1 s1 d1 hsn hsk hf hs hd hp hst hun hk1 g6_9 pa_15 ra_15 fa_15 hz_15 r_14 f_16) (lf_X4_set_20 a t sn sk scu sch g0 g1 g3 g6 un k1 p1 rf fs fk fa3 fa4 fa5 f1 s1 d1 hsn hsk hf hs hd hp hst hun hk1 g6_9 pa_15 ra_15 fa_15 hz_15 r_14 f_16) (lf_X4_set_21 a t sn sk scu sch g0 g1 g3 g6 un k1 p1 rf fs fk fa3 fa4 fa5 f1 s1 d1 hsn hsk hf hs hd hp hst hun hk1 g6_9 pa_15 ra_15 fa_15 hz_15 r_14 f_16) H.size) (zV hts k_783 v_X9_value ⟨Nat.le_of_ble_eq_true rfl, Nat.le_of_ble_eq_true rfl⟩) (pV (pxS hK hP hD [4, 5, 6, 7, 8, 9, 10] (by decide) rfl) hK hP 4 rfl rfl) rfl rfl hl.1 rfl (lv_room (Nat.le_of_ble_eq_true rfl)) dX4_set_66 ⟨Nat.le_of_ble_eq_true rfl, Nat.le_of_ble_eq_true rfl⟩) hP hD hS hA [4, 5, 6, 7, 8, 9, 10] [0, 1, 2, 3] rfl rfl (by decide) (by decide) (fun r_22 u_23 H locs wr_22 hP hD hS => ?_)
  obtain ⟨pa_23, ra_23, fa_23⟩ := u_23
  have hz_23 : pa_23 ≤ 32 := wr_22
  have hP : va_P D vwCl [(a 18, .inl (cI, 384, .inl f_16)), (a 19, .inl (cI, 384, .inl g1)), (a 21, .inl (cZ, 384, .inl g3)), (a 5, .inr (4, [.ref (a 18), .ref (a 19), .ref (a 20), .ref (a 21), .ref (a 22), .ref (a 23), .ref (a 24), .int (nI sn), .int (nI sk), .int scu, .int sch])), (t 0, .inr (9, [.ref (t 1), .ref (t 2), .ref (t 3), .ref (t 4), .ref (t 5), .int (nI un), .int (nI k1), .int (nI pa_23), .int ra_23])), (t 1, .inl (cI, 200, .inl fs)), (t 2, .inl (cI, 32, .inl fa_23)), (t 3, .inl (cI, 14, .inl fa3)), (t 4, .inl (cI, 14, .inl fa4)), (t 5, .inl (cI, 14, .inl fa5)), (a 24, .inl (cI, 26, .inl g6_9))] H := hP
  have hD : va_D A [(a 18, .inl (cI, 384, .inl f_16)), (a 19, .inl (cI, 384, .inl g1)), (a 21, .inl (cZ, 384, .inl g3)), (a 5, .inr (4, [.ref (a 18), .ref (a 19), .ref (a 20), .ref (a 21), .ref (a 22), .ref (a 23), .ref (a 24), .int (nI sn), .int (nI sk), .int scu, .int sch])), (t 0, .inr (9, [.ref (t 1), .ref (t 2), .ref (t 3), .ref (t 4), .ref (t 5), .int (nI un), .int (nI k1), .int (nI pa_23), .int ra_23])), (t 1, .inl (cI, 200, .inl fs)), (t 2, .inl (cI, 32, .inl fa_23)), (t 3, .inl (cI, 14, .inl fa3)), (t 4, .inl (cI, 14, .inl fa4)), (t 5, .inl (cI, 14, .inl fa5)), (a 24, .inl (cI, 26, .inl g6_9))] := hD
  refine st_i hx hb hK hP hD hS 1 rfl (lf_X4_set_25 a t sn sk scu sch g0 g1 g3 g6 un k1 p1 rf fs fk fa3 fa4 fa5 f1 s1 d1 hsn hsk hf hs hd hp hst hun hk1 g6_9 pa_15 ra_15 fa_15 hz_15 r_14 f_16 pa_23 ra_23 fa_23 hz_23 r_22) dX4_set_69 (fun f_24 H locs hP hD hS => ?_)
  have hP : va_P D vwCl [(a 18, .inl (cI, 384, .inl f_16)), (a 19, .inl (cI, 384, .inl f_24)), (a 21, .inl (cZ, 384, .inl g3)), (a 5, .inr (4, [.ref (a 18), .ref (a 19), .ref (a 20), .ref (a 21), .ref (a 22), .ref (a 23), .ref (a 24), .int (nI sn), .int (nI sk), .int scu, .int sch])), (t 0, .inr (9, [.ref (t 1), .ref (t 2), .ref (t 3), .ref (t 4), .ref (t 5), .int (nI un), .int (nI k1), .int (nI pa_23), .int ra_23])), (t 1, .inl (cI, 200, .inl fs)), (t 2, .inl (cI, 32, .inl fa_23)), (t 3, .inl (cI, 14, .inl fa3)), (t 4, .inl (cI, 14, .inl fa4)), (t 5, .inl (cI, 14, .inl fa5)), (a 24, .inl (cI, 26, .inl g6_9))] H := hP
  have hD : va_D A [(a 18, .inl (cI, 384, .inl f_16)), (a 19, .inl (cI, 384, .inl f_24)), (a 21, .inl (cZ, 384, .inl g3)), (a 5, .inr (4, [.ref (a 18), .ref (a 19), .ref (a 20), .ref (a 21), .ref (a 22), .ref (a 23), .ref (a 24), .int (nI sn), .int (nI sk), .int scu, .int sch])), (t 0, .inr (9, [.ref (t 1), .ref (t 2), .ref (t 3), .ref (t 4), .ref (t 5), .int (nI un), .int (nI k1), .int (nI pa_23), .int ra_23])), (t 1, .inl (cI, 200, .inl fs)), (t 2, .inl (cI, 32, .inl fa_23)), (t 3, .inl (cI, 14, .inl fa3)), (t 4, .inl (cI, 14, .inl fa4)), (t 5, .inl (cI, 14, .inl fa5)), (a 24, .inl (cI, 26, .inl g6_9))] := hD
  refine lv_aload_n hx hb dX4_set_70 rfl (lv_at hl 1 rfl) ?_
  refine va_get (D := D) (ci := 4) (v := .ref (a 21)) (C := RX4) (T := TX4) (N := 11) hx hb hts inT_X4 hown hK.1 hP 3 rfl rfl 3 (by decide) (hts _ k_241) (fun _ h9 => h9) rfl dX4_set_71 ?_
  refine lv_iload hx hb dX4_set_74 (lv_at hl 0 rfl) ?_
  refine lv_iconst (v := 0) hx hb dX4_set_76 (by decide) ?_
  refine st_z hx hb hK hP hD hS 2 rfl (lf_X4_set_27 a t sn sk scu sch g0 g1 g3 g6 un k1 p1 rf fs fk fa3 fa4 fa5 f1 s1 d1 hsn hsk hf hs hd hp hst hun hk1 g6_9 pa_15 ra_15 fa_15 hz_15 r_14 f_16 pa_23 ra_23 fa_23 hz_23 r_22 f_24) dX4_set_77 (fun f_26 H locs hP hD hS => ?_)
  have hP : va_P D vwCl [(a 18, .inl (cI, 384, .inl f_16)), (a 19, .inl (cI, 384, .inl f_24)), (a 21, .inl (cZ, 384, .inl f_26)), (a 5, .inr (4, [.ref (a 18), .ref (a 19), .ref (a 20), .ref (a 21), .ref (a 22), .ref (a 23), .ref (a 24), .int (nI sn), .int (nI sk), .int scu, .int sch])), (t 0, .inr (9, [.ref (t 1), .ref (t 2), .ref (t 3), .ref (t 4), .ref (t 5), .int (nI un), .int (nI k1), .int (nI pa_23), .int ra_23])), (t 1, .inl (cI, 200, .inl fs)), (t 2, .inl (cI, 32, .inl fa_23)), (t 3, .inl (cI, 14, .inl fa3)), (t 4, .inl (cI, 14, .inl fa4)), (t 5, .inl (cI, 14, .inl fa5)), (a 24, .inl (cI, 26, .inl g6_9))] H := hP
  have hD : va_D A [(a 18, .inl (cI, 384, .inl f_16)), (a 19, .inl (cI, 384, .inl f_24)), (a 21, .inl (cZ, 384, .inl f_26)), (a 5, .inr (4, [.ref (a 18), .ref (a 19), .ref (a 20), .ref (a 21), .ref (a 22), .ref (a 23), .ref (a 24), .int (nI sn), .int (nI sk), .int scu, .int sch])), (t 0, .inr (9, [.ref (t 1), .ref (t 2), .ref (t 3), .ref (t 4), .ref (t 5), .int (nI un), .int (nI k1), .int (nI pa_23), .int ra_23])), (t 1, .inl (cI, 200, .inl fs)), (t 2, .inl (cI, 32, .inl fa_23)), (t 3, .inl (cI, 14, .inl fa3)), (t 4, .inl (cI, 14, .inl fa4)), (t 5, .inl (cI, 14, .inl fa5)), (a 24, .inl (cI, 26, .inl g6_9))] := hD
  have hP := hP.sub (ws' := [(a 5, .inr (4, [.ref (a 18), .ref (a 19), .ref (a 20), .ref (a 21), .ref (a 22), .ref (a 23), .ref (a 24), .int (nI sn), .int (nI sk), .int scu, .int sch])), (a 18, .inl (cI, 384, .inl f_16)), (a 19, .inl (cI, 384, .inl f_24)), (a 21, .inl (cZ, 384, .inl f_26)), (a 24, .inl (cI, 26, .inl g6_9)), (t 0, .inr (9, [.ref (t 1), .ref (t 2), .ref (t 3), .ref (t 4), .ref (t 5), .int (nI un), .int (nI k1), .int (nI pa_23), .int ra_23])), (t 1, .inl (cI, 200, .inl fs)), (t 2, .inl (cI, 32, .inl fa_23)), (t 3, .inl (cI, 14, .inl fa3)), (t 4, .inl (cI, 14, .inl fa4)), (t 5, .inl (cI, 14, .inl fa5))]) [3, 0, 1, 2, 10, 4, 5, 6, 7, 8, 9] rfl
  have hD := hD.sub (ws' := [(a 5, .inr (4, [.ref (a 18), .ref (a 19), .ref (a 20), .ref (a 21), .ref (a 22), .ref (a 23), .ref (a 24), .int (nI sn), .int (nI sk), .int scu, .int sch])), (a 18, .inl (cI, 384, .inl f_16)), (a 19, .inl (cI, 384, .inl f_24)), (a 21, .inl (cZ, 384, .inl f_26)), (a 24, .inl (cI, 26, .inl g6_9)), (t 0, .inr (9, [.ref (t 1), .ref (t 2), .ref (t 3), .ref (t 4), .ref (t 5), .int (nI un), .int (nI k1), .int (nI pa_23), .int ra_23])), (t 1, .inl (cI, 200, .inl fs)), (t 2, .inl (cI, 32, .inl fa_23)), (t 3, .inl (cI, 14, .inl fa3)), (t 4, .inl (cI, 14, .inl fa4)), (t 5, .inl (cI, 14, .inl fa5))]) [3, 0, 1, 2, 10, 4, 5, 6, 7, 8, 9] (by decide) rfl
  exact W.vret hx hb hr (fun tt9 ht hW => ⟨⟨((f_16 : Nat → Int32), (f_24 : Nat → Int32), (f_26 : Nat → Int32), (g6_9 : Nat → Int32), (pa_23 : Nat), (ra_23 : Int32), (fa_23 : Nat → Int32)), rfl, (lf_X4_set_28 a t sn sk scu sch g0 g1 g3 g6 un k1 p1 rf fs fk fa3 fa4 fa5 f1 s1 d1 hsn hsk hf hs hd hp hst hun hk1 g6_9 pa_15 ra_15 fa_15 hz_15 r_14 f_16 pa_23 ra_23 fa_23 hz_23 r_22 f_24 f_26), ⟨by rw [ht]; exact hP, hD⟩⟩, hS.F ht⟩) hS.2.2 dX4_set_78 hlocks
