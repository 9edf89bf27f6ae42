set_option maxHeartbeats 4000000 in
set_option maxRecDepth 100000 in
theorem c_X8_init (l : Launch) (D : va_G) (cI cB cZ cJ : ClassId) (tx : List (ClassId × FieldType)) (b0 : Nat) : WrV l D cI cB cZ cJ tx yX8_init cX8_init 1 none 1 1 220 [.ref b0] [(b0, .inr (8, [.null, .int 0]))] (fun (_ : Nat → Nat) => True) (fun u => [(b0, .inr (8, [.ref (u 0), .int 0])), (u 0, .inl (cB, 220, .inl (fun _ => 0)))]) := by
  refine wrv_of2 (by decide) (Nat.le_of_ble_eq_true rfl) ?_
  intro p e s m below meth c A ls H locs hC hK hP hD hA hS hl
  obtain ⟨hx, hb, hr, hml, hown, hts, hlocks, hin⟩ := hC
  have hown : s.vm.findClass RX8 = some m.cls := hown
  have hl : lv_has ls 1 [(0, .ref b0)] := hl
  refine lv_aload_n hx hb dX8_init_0 rfl (lv_at hl 0 rfl) ?_
  refine W.objInit hx hb hown (hts _ k_149) (hts _ k_142) (hts _ k_143) rfl (by rw [hml]; exact hl.1) rfl dX8_init_1 (Nat.le_of_ble_eq_true rfl) (Nat.le_of_ble_eq_true rfl) ?_
  refine W.eq (g2 := F0 m 4 ls []) rfl ?_
  refine lv_aload_n hx hb dX8_init_4 rfl (lv_at hl 0 rfl) ?_
  refine lv_sipush (v := 220) hx hb dX8_init_5 (by decide) ?_
  refine nw_a (atype := .byte) (ty := .byte) (cA := cB) (N' := 220) (a0 := (220, .inl (fun _ => 0))) hx hb (hts _ k_158) rfl hK.2.1.2.1 hP hD hS hA (fun _ => rfl) (by decide) (by decide) (Nat.le_of_ble_eq_true rfl) (Nat.le_of_ble_eq_true rfl) (Nat.le_of_ble_eq_true rfl) dX8_init_8 (fun q_1 H hP hD hS => ?_)
  have hP : va_P D vwCl [(b0, .inr (8, [.null, .int 0])), (q_1, .inl (cB, 220, .inl (fun _ => 0)))] H := hP
  have hD : va_D A [(b0, .inr (8, [.null, .int 0])), (q_1, .inl (cB, 220, .inl (fun _ => 0)))] := hD
  refine W.widen (k := 1) (n := 220) (Nat.le_of_ble_eq_true rfl) (Nat.le_of_ble_eq_true rfl) ?_
  refine va_putF (D := D) (ci := 8) (v := .ref q_1) (ty := .array .byte) (C := RX8) (T := TX8) (N := 2) hx hb hts inT_X8 tyX8 tyX8_ok nmX8 hown hK.1 hP hD hS 0 rfl rfl 0 (by decide) (hts _ k_150) (fun _ h9 => h9) rfl hin rfl (by decide +kernel) rfl rfl (Nat.le_of_ble_eq_true rfl) dX8_init_10 (fun H locs hP hD hS => ?_)
  have hP : va_P D vwCl [(b0, .inr (8, [.ref q_1, .int 0])), (q_1, .inl (cB, 220, .inl (fun _ => 0)))] H := hP
  have hD : va_D A [(b0, .inr (8, [.ref q_1, .int 0])), (q_1, .inl (cB, 220, .inl (fun _ => 0)))] := hD
  refine W.widen (k := 1) (n := 220) (Nat.le_of_ble_eq_true rfl) (Nat.le_of_ble_eq_true rfl) ?_
  have hP := hP.sub (ws' := [(b0, .inr (8, [.ref q_1, .int 0])), (q_1, .inl (cB, 220, .inl (fun _ => 0)))]) [0, 1] rfl
  have hD := hD.sub (ws' := [(b0, .inr (8, [.ref q_1, .int 0])), (q_1, .inl (cB, 220, .inl (fun _ => 0)))]) [0, 1] (by decide) rfl
  exact W.vret hx hb hr (fun tt9 ht hW => ⟨⟨(fun j => ([q_1] : List Nat).getD j 0), rfl, trivial, ⟨by rw [ht]; exact hP, hD⟩⟩, hS.F ht⟩) hS.2.2 dX8_init_13 hlocks

set_option maxHeartbeats 4000000 in
set_option maxRecDepth 100000 in
theorem c_X3_init (l : Launch) (D : va_G) (cI cB cZ cJ : ClassId) (tx : List (ClassId × FieldType)) (b0 : Nat) (c0 : Nat) : WrV l D cI cB cZ cJ tx yX3_init cX3_init 2 none 1 0 0 [.ref b0, .ref c0] [(b0, .inr (3, [.null, .null, .int 0, .int 0, .int 0, .int 0, .int 0]))] (fun (_ : Nat → Nat) => True) (fun u => [(b0, .inr (3, [.ref c0, .null, .int 0, .int 0, .int 0, .int 0, .int 0]))]) := by
  refine wrv_of2 (by decide) (Nat.le_of_ble_eq_true rfl) ?_
  intro p e s m below meth c A ls H locs hC hK hP hD hA hS hl
  obtain ⟨hx, hb, hr, hml, hown, hts, hlocks, hin⟩ := hC
  have hown : s.vm.findClass RX3 = some m.cls := hown
  have hl : lv_has ls 2 [(0, .ref b0), (1, .ref c0)] := hl
  refine lv_aload_n hx hb dX3_init_0 rfl (lv_at hl 0 rfl) ?_
  refine W.objInit hx hb hown (hts _ k_164) (hts _ k_142) (hts _ k_143) rfl (by rw [hml]; exact hl.1) rfl dX3_init_1 (Nat.le_of_ble_eq_true rfl) (Nat.le_of_ble_eq_true rfl) ?_
  refine W.eq (g2 := F0 m 4 ls []) rfl ?_
  refine lv_aload_n hx hb dX3_init_4 rfl (lv_at hl 0 rfl) ?_
  refine lv_aload_n hx hb dX3_init_5 rfl (lv_at hl 1 rfl) ?_
  refine va_putF (D := D) (ci := 3) (v := .ref c0) (ty := .object "NailStain$Tape") (C := RX3) (T := TX3) (N := 7) hx hb hts inT_X3 tyX3 tyX3_ok nmX3 hown hK.1 hP hD hS 0 rfl rfl 0 (by decide) (hts _ k_165) (fun _ h9 => h9) rfl hin rfl (by decide +kernel) rfl rfl (Nat.le_of_ble_eq_true rfl) dX3_init_6 (fun H locs hP hD hS => ?_)
  have hP : va_P D vwCl [(b0, .inr (3, [.ref c0, .null, .int 0, .int 0, .int 0, .int 0, .int 0]))] H := hP
  have hD : va_D A [(b0, .inr (3, [.ref c0, .null, .int 0, .int 0, .int 0, .int 0, .int 0]))] := hD
  have hP := hP.sub (ws' := [(b0, .inr (3, [.ref c0, .null, .int 0, .int 0, .int 0, .int 0, .int 0]))]) [0] rfl
  have hD := hD.sub (ws' := [(b0, .inr (3, [.ref c0, .null, .int 0, .int 0, .int 0, .int 0, .int 0]))]) [0] (by decide) rfl
  exact W.vret hx hb hr (fun tt9 ht hW => ⟨⟨(fun j => ([] : List Nat).getD j 0), rfl, trivial, ⟨by rw [ht]; exact hP, hD⟩⟩, hS.F ht⟩) hS.2.2 dX3_init_9 hlocks

set_option maxHeartbeats 4000000 in
set_option maxRecDepth 100000 in
theorem c_X9_init (l : Launch) (D : va_G) (cI cB cZ cJ : ClassId) (tx : List (ClassId × FieldType)) (b0 : Nat) : WrV l D cI cB cZ cJ tx yX9_init cX9_init 1 none 1 5 274 [.ref b0] [(b0, .inr (9, [.null, .null, .null, .null, .null, .int 0, .int 0, .int 0, .int 0]))] (fun (_ : Nat → Nat) => True) (fun u => [(b0, .inr (9, [.ref (u 0), .ref (u 1), .ref (u 2), .ref (u 3), .ref (u 4), .int 0, .int 0, .int 0, .int 0])), (u 0, .inl (cI, 200, .inl (fun _ => 0))), (u 1, .inl (cI, 32, .inl (fun _ => 0))), (u 2, .inl (cI, 14, .inl (fun _ => 0))), (u 3, .inl (cI, 14, .inl (fun _ => 0))), (u 4, .inl (cI, 14, .inl (fun _ => 0)))]) := by
  refine wrv_of2 (by decide) (Nat.le_of_ble_eq_true rfl) ?_
  intro p e s m below meth c A ls H locs hC hK hP hD hA hS hl
  obtain ⟨hx, hb, hr, hml, hown, hts, hlocks, hin⟩ := hC
  have hown : s.vm.findClass RX9 = some m.cls := hown
  have hl : lv_has ls 1 [(0, .ref b0)] := hl
  refine lv_aload_n hx hb dX9_init_0 rfl (lv_at hl 0 rfl) ?_
  refine W.objInit hx hb hown (hts _ k_193) (hts _ k_142) (hts _ k_143) rfl (by rw [hml]; exact hl.1) rfl dX9_init_1 (Nat.le_of_ble_eq_true rfl) (Nat.le_of_ble_eq_true rfl) ?_
  refine W.eq (g2 := F0 m 4 ls []) rfl ?_
  refine lv_aload_n hx hb dX9_init_4 rfl (lv_at hl 0 rfl) ?_
  refine lv_sipush (v := 200) hx hb dX9_init_5 (by decide) ?_
  refine nw_a (atype := .int) (ty := .int) (cA := cI) (N' := 200) (a0 := (200, .inl (fun _ => 0))) hx hb (hts _ k_224) rfl hK.2.1.1 hP hD hS hA (fun _ => rfl) (by decide) (by decide) (Nat.le_of_ble_eq_true rfl) (Nat.le_of_ble_eq_true rfl) (Nat.le_of_ble_eq_true rfl) dX9_init_8 (fun q_1 H hP hD hS => ?_)
  have hP : va_P D vwCl [(b0, .inr (9, [.null, .null, .null, .null, .null, .int 0, .int 0, .int 0, .int 0])), (q_1, .inl (cI, 200, .inl (fun _ => 0)))] H := hP
  have hD : va_D A [(b0, .inr (9, [.null, .null, .null, .null, .null, .int 0, .int 0, .int 0, .int 0])), (q_1, .inl (cI, 200, .inl (fun _ => 0)))] := hD
  refine W.widen (k := 1) (n := 200) (Nat.le_of_ble_eq_true rfl) (Nat.le_of_ble_eq_true rfl) ?_
  refine va_putF (D := D) (ci := 9) (v := .ref q_1) (ty := .array .int) (C := RX9) (T := TX9) (N := 9) hx hb hts inT_X9 tyX9 tyX9_ok nmX9 hown hK.1 hP hD hS 0 rfl rfl 0 (by decide) (hts _ k_194) (fun _ h9 => h9) rfl hin rfl (by decide +kernel) rfl rfl (Nat.le_of_ble_eq_true rfl) dX9_init_10 (fun H locs hP hD hS => ?_)
  have hP : va_P D vwCl [(b0, .inr (9, [.ref q_1, .null, .null, .null, .null, .int 0, .int 0, .int 0, .int 0])), (q_1, .inl (cI, 200, .inl (fun _ => 0)))] H := hP
  have hD : va_D A [(b0, .inr (9, [.ref q_1, .null, .null, .null, .null, .int 0, .int 0, .int 0, .int 0])), (q_1, .inl (cI, 200, .inl (fun _ => 0)))] := hD
  refine lv_aload_n hx hb dX9_init_13 rfl (lv_at hl 0 rfl) ?_
  refine lv_bipush (v := 32) hx hb dX9_init_14 (by decide) ?_
  refine nw_a (atype := .int) (ty := .int) (cA := cI) (N' := 32) (a0 := (32, .inl (fun _ => 0))) hx hb (hts _ k_224) rfl hK.2.1.1 hP hD hS hA (fun _ => rfl) (by decide) (by decide) (Nat.le_of_ble_eq_true rfl) (Nat.le_of_ble_eq_true rfl) (Nat.le_of_ble_eq_true rfl) dX9_init_16 (fun q_2 H hP hD hS => ?_)
  have hP : va_P D vwCl [(b0, .inr (9, [.ref q_1, .null, .null, .null, .null, .int 0, .int 0, .int 0, .int 0])), (q_1, .inl (cI, 200, .inl (fun _ => 0))), (q_2, .inl (cI, 32, .inl (fun _ => 0)))] H := hP
  have hD : va_D A [(b0, .inr (9, [.ref q_1, .null, .null, .null, .null, .int 0, .int 0, .int 0, .int 0])), (q_1, .inl (cI, 200, .inl (fun _ => 0))), (q_2, .inl (cI, 32, .inl (fun _ => 0)))] := hD
  refine W.widen (k := 2) (n := 232) (Nat.le_of_ble_eq_true rfl) (Nat.le_of_ble_eq_true rfl) ?_
  refine va_putF (D := D) (ci := 9) (v := .ref q_2) (ty := .array .int) (C := RX9) (T := TX9) (N := 9) hx hb hts inT_X9 tyX9 tyX9_ok nmX9 hown hK.1 hP hD hS 0 rfl rfl 1 (by decide) (hts _ k_195) (fun _ h9 => h9) rfl hin rfl (by decide +kernel) rfl rfl (Nat.le_of_ble_eq_true rfl) dX9_init_18 (fun H locs hP hD hS => ?_)
  have hP : va_P D vwCl [(b0, .inr (9, [.ref q_1, .ref q_2, .null, .null, .null, .int 0, .int 0, .int 0, .int 0])), (q_1, .inl (cI, 200, .inl (fun _ => 0))), (q_2, .inl (cI, 32, .inl (fun _ => 0)))] H := hP
  have hD : va_D A [(b0, .inr (9, [.ref q_1, .ref q_2, .null, .null, .null, .int 0, .int 0, .int 0, .int 0])), (q_1, .inl (cI, 200, .inl (fun _ => 0))), (q_2, .inl (cI, 32, .inl (fun _ => 0)))] := hD
  refine lv_aload_n hx hb dX9_init_21 rfl (lv_at hl 0 rfl) ?_
  refine lv_bipush (v := 14) hx hb dX9_init_22 (by decide) ?_
  refine nw_a (atype := .int) (ty := .int) (cA := cI) (N' := 14) (a0 := (14, .inl (fun _ => 0))) hx hb (hts _ k_224) rfl hK.2.1.1 hP hD hS hA (fun _ => rfl) (by decide) (by decide) (Nat.le_of_ble_eq_true rfl) (Nat.le_of_ble_eq_true rfl) (Nat.le_of_ble_eq_true rfl) dX9_init_24 (fun q_3 H hP hD hS => ?_)
  have hP : va_P D vwCl [(b0, .inr (9, [.ref q_1, .ref q_2, .null, .null, .null, .int 0, .int 0, .int 0, .int 0])), (q_1, .inl (cI, 200, .inl (fun _ => 0))), (q_2, .inl (cI, 32, .inl (fun _ => 0))), (q_3, .inl (cI, 14, .inl (fun _ => 0)))] H := hP
  have hD : va_D A [(b0, .inr (9, [.ref q_1, .ref q_2, .null, .null, .null, .int 0, .int 0, .int 0, .int 0])), (q_1, .inl (cI, 200, .inl (fun _ => 0))), (q_2, .inl (cI, 32, .inl (fun _ => 0))), (q_3, .inl (cI, 14, .inl (fun _ => 0)))] := hD
  refine W.widen (k := 3) (n := 246) (Nat.le_of_ble_eq_true rfl) (Nat.le_of_ble_eq_true rfl) ?_
  refine va_putF (D := D) (ci := 9) (v := .ref q_3) (ty := .array .int) (C := RX9) (T := TX9) (N := 9) hx hb hts inT_X9 tyX9 tyX9_ok nmX9 hown hK.1 hP hD hS 0 rfl rfl 2 (by decide) (hts _ k_196) (fun _ h9 => h9) rfl hin rfl (by decide +kernel) rfl rfl (Nat.le_of_ble_eq_true rfl) dX9_init_26 (fun H locs hP hD hS => ?_)
  have hP : va_P D vwCl [(b0, .inr (9, [.ref q_1, .ref q_2, .ref q_3, .null, .null, .int 0, .int 0, .int 0, .int 0])), (q_1, .inl (cI, 200, .inl (fun _ => 0))), (q_2, .inl (cI, 32, .inl (fun _ => 0))), (q_3, .inl (cI, 14, .inl (fun _ => 0)))] H := hP
  have hD : va_D A [(b0, .inr (9, [.ref q_1, .ref q_2, .ref q_3, .null, .null, .int 0, .int 0, .int 0, .int 0])), (q_1, .inl (cI, 200, .inl (fun _ => 0))), (q_2, .inl (cI, 32, .inl (fun _ => 0))), (q_3, .inl (cI, 14, .inl (fun _ => 0)))] := hD
  refine lv_aload_n hx hb dX9_init_29 rfl (lv_at hl 0 rfl) ?_
  refine lv_bipush (v := 14) hx hb dX9_init_30 (by decide) ?_
  refine nw_a (atype := .int) (ty := .int) (cA := cI) (N' := 14) (a0 := (14, .inl (fun _ => 0))) hx hb (hts _ k_224) rfl hK.2.1.1 hP hD hS hA (fun _ => rfl) (by decide) (by decide) (Nat.le_of_ble_eq_true rfl) (Nat.le_of_ble_eq_true rfl) (Nat.le_of_ble_eq_true rfl) dX9_init_32 (fun q_4 H hP hD hS => ?_)
  have hP : va_P D vwCl [(b0, .inr (9, [.ref q_1, .ref q_2, .ref q_3, .null, .null, .int 0, .int 0, .int 0, .int 0])), (q_1, .inl (cI, 200, .inl (fun _ => 0))), (q_2, .inl (cI, 32, .inl (fun _ => 0))), (q_3, .inl (cI, 14, .inl (fun _ => 0))), (q_4, .inl (cI, 14, .inl (fun _ => 0)))] H := hP
  have hD : va_D A [(b0, .inr (9, [.ref q_1, .ref q_2, .ref q_3, .null, .null, .int 0, .int 0, .int 0, .int 0])), (q_1, .inl (cI, 200, .inl (fun _ => 0))), (q_2, .inl (cI, 32, .inl (fun _ => 0))), (q_3, .inl (cI, 14, .inl (fun _ => 0))), (q_4, .inl (cI, 14, .inl (fun _ => 0)))] := hD
  refine W.widen (k := 4) (n := 260) (Nat.le_of_ble_eq_true rfl) (Nat.le_of_ble_eq_true rfl) ?_
  refine va_putF (D := D) (ci := 9) (v := .ref q_4) (ty := .array .int) (C := RX9) (T := TX9) (N := 9) hx hb hts inT_X9 tyX9 tyX9_ok nmX9 hown hK.1 hP hD hS 0 rfl rfl 3 (by decide) (hts _ k_197) (fun _ h9 => h9) rfl hin rfl (by decide +kernel) rfl rfl (Nat.le_of_ble_eq_true rfl) dX9_init_34 (fun H locs hP hD hS => ?_)
  have hP : va_P D vwCl [(b0, .inr (9, [.ref q_1, .ref q_2, .ref q_3, .ref q_4, .null, .int 0, .int 0, .int 0, .int 0])), (q_1, .inl (cI, 200, .inl (fun _ => 0))), (q_2, .inl (cI, 32, .inl (fun _ => 0))), (q_3, .inl (cI, 14, .inl (fun _ => 0))), (q_4, .inl (cI, 14, .inl (fun _ => 0)))] H := hP
  have hD : va_D A [(b0, .inr (9, [.ref q_1, .ref q_2, .ref q_3, .ref q_4, .null, .int 0, .int 0, .int 0, .int 0])), (q_1, .inl (cI, 200, .inl (fun _ => 0))), (q_2, .inl (cI, 32, .inl (fun _ => 0))), (q_3, .inl (cI, 14, .inl (fun _ => 0))), (q_4, .inl (cI, 14, .inl (fun _ => 0)))] := hD
  refine lv_aload_n hx hb dX9_init_37 rfl (lv_at hl 0 rfl) ?_
  refine lv_bipush (v := 14) hx hb dX9_init_38 (by decide) ?_
  refine nw_a (atype := .int) (ty := .int) (cA := cI) (N' := 14) (a0 := (14, .inl (fun _ => 0))) hx hb (hts _ k_224) rfl hK.2.1.1 hP hD hS hA (fun _ => rfl) (by decide) (by decide) (Nat.le_of_ble_eq_true rfl) (Nat.le_of_ble_eq_true rfl) (Nat.le_of_ble_eq_true rfl) dX9_init_40 (fun q_5 H hP hD hS => ?_)
  have hP : va_P D vwCl [(b0, .inr (9, [.ref q_1, .ref q_2, .ref q_3, .ref q_4, .null, .int 0, .int 0, .int 0, .int 0])), (q_1, .inl (cI, 200, .inl (fun _ => 0))), (q_2, .inl (cI, 32, .inl (fun _ => 0))), (q_3, .inl (cI, 14, .inl (fun _ => 0))), (q_4, .inl (cI, 14, .inl (fun _ => 0))), (q_5, .inl (cI, 14, .inl (fun _ => 0)))] H := hP
  have hD : va_D A [(b0, .inr (9, [.ref q_1, .ref q_2, .ref q_3, .ref q_4, .null, .int 0, .int 0, .int 0, .int 0])), (q_1, .inl (cI, 200, .inl (fun _ => 0))), (q_2, .inl (cI, 32, .inl (fun _ => 0))), (q_3, .inl (cI, 14, .inl (fun _ => 0))), (q_4, .inl (cI, 14, .inl (fun _ => 0))), (q_5, .inl (cI, 14, .inl (fun _ => 0)))] := hD
  refine W.widen (k := 5) (n := 274) (Nat.le_of_ble_eq_true rfl) (Nat.le_of_ble_eq_true rfl) ?_
  refine va_putF (D := D) (ci := 9) (v := .ref q_5) (ty := .array .int) (C := RX9) (T := TX9) (N := 9) hx hb hts inT_X9 tyX9 tyX9_ok nmX9 hown hK.1 hP hD hS 0 rfl rfl 4 (by decide) (hts _ k_198) (fun _ h9 => h9) rfl hin rfl (by decide +kernel) rfl rfl (Nat.le_of_ble_eq_true rfl) dX9_init_42 (fun H locs hP hD hS => ?_)
  have hP : va_P D vwCl [(b0, .inr (9, [.ref q_1, .ref q_2, .ref q_3, .ref q_4, .ref q_5, .int 0, .int 0, .int 0, .int 0])), (q_1, .inl (cI, 200, .inl (fun _ => 0))), (q_2, .inl (cI, 32, .inl (fun _ => 0))), (q_3, .inl (cI, 14, .inl (fun _ => 0))), (q_4, .inl (cI, 14, .inl (fun _ => 0))), (q_5, .inl (cI, 14, .inl (fun _ => 0)))] H := hP
  have hD : va_D A [(b0, .inr (9, [.ref q_1, .ref q_2, .ref q_3, .ref q_4, .ref q_5, .int 0, .int 0, .int 0, .int 0])), (q_1, .inl (cI, 200, .inl (fun _ => 0))), (q_2, .inl (cI, 32, .inl (fun _ => 0))), (q_3, .inl (cI, 14, .inl (fun _ => 0))), (q_4, .inl (cI, 14, .inl (fun _ => 0))), (q_5, .inl (cI, 14, .inl (fun _ => 0)))] := hD
  refine W.widen (k := 5) (n := 274) (Nat.le_of_ble_eq_true rfl) (Nat.le_of_ble_eq_true rfl) ?_
  have hP := hP.sub (ws' := [(b0, .inr (9, [.ref q_1, .ref q_2, .ref q_3, .ref q_4, .ref q_5, .int 0, .int 0, .int 0, .int 0])), (q_1, .inl (cI, 200, .inl (fun _ => 0))), (q_2, .inl (cI, 32, .inl (fun _ => 0))), (q_3, .inl (cI, 14, .inl (fun _ => 0))), (q_4, .inl (cI, 14, .inl (fun _ => 0))), (q_5, .inl (cI, 14, .inl (fun _ => 0)))]) [0, 1, 2, 3, 4, 5] rfl
  have hD := hD.sub (ws' := [(b0, .inr (9, [.ref q_1, .ref q_2, .ref q_3, .ref q_4, .ref q_5, .int 0, .int 0, .int 0, .int 0])), (q_1, .inl (cI, 200, .inl (fun _ => 0))), (q_2, .inl (cI, 32, .inl (fun _ => 0))), (q_3, .inl (cI, 14, .inl (fun _ => 0))), (q_4, .inl (cI, 14, .inl (fun _ => 0))), (q_5, .inl (cI, 14, .inl (fun _ => 0)))]) [0, 1, 2, 3, 4, 5] (by decide) rfl
  exact W.vret hx hb hr (fun tt9 ht hW => ⟨⟨(fun j => ([q_1, q_2, q_3, q_4, q_5] : List Nat).getD j 0), rfl, trivial, ⟨by rw [ht]; exact hP, hD⟩⟩, hS.F ht⟩) hS.2.2 dX9_init_45 hlocks

set_option maxHeartbeats 4000000 in
set_option maxRecDepth 100000 in
theorem c_X4_init (l : Launch) (D : va_G) (cI cB cZ cJ : ClassId) (tx : List (ClassId × FieldType)) (b0 : Nat) : WrV l D cI cB cZ cJ tx yX4_init cX4_init 1 none 1 7 1594 [.ref b0] [(b0, .inr (4, [.null, .null, .null, .null, .null, .null, .null, .int 0, .int 0, .int 0, .int 0]))] (fun (_ : Nat → Nat) => True) (fun u => [(b0, .inr (4, [.ref (u 0), .ref (u 1), .ref (u 2), .ref (u 3), .ref (u 4), .ref (u 5), .ref (u 6), .int 0, .int 0, .int 0, .int 1])), (u 0, .inl (cI, 384, .inl (fun _ => 0))), (u 1, .inl (cI, 384, .inl (fun _ => 0))), (u 2, .inl (cI, 384, .inl (fun _ => 0))), (u 3, .inl (cZ, 384, .inl (fun _ => 0))), (u 4, .inl (cI, 24, .inl (fun _ => 0))), (u 5, .inl (cI, 8, .inl (fun _ => 0))), (u 6, .inl (cI, 26, .inl (fun _ => 0)))]) := by
  refine wrv_of2 (by decide) (Nat.le_of_ble_eq_true rfl) ?_
  intro p e s m below meth c A ls H locs hC hK hP hD hA hS hl
  obtain ⟨hx, hb, hr, hml, hown, hts, hlocks, hin⟩ := hC
  have hown : s.vm.findClass RX4 = some m.cls := hown
  have hl : lv_has ls 1 [(0, .ref b0)] := hl
  refine lv_aload_n hx hb dX4_init_0 rfl (lv_at hl 0 rfl) ?_
  refine W.objInit hx hb hown (hts _ k_230) (hts _ k_142) (hts _ k_143) rfl (by rw [hml]; exact hl.1) rfl dX4_init_1 (Nat.le_of_ble_eq_true rfl) (Nat.le_of_ble_eq_true rfl) ?_
  refine W.eq (g2 := F0 m 4 ls []) rfl ?_
  refine lv_aload_n hx hb dX4_init_4 rfl (lv_at hl 0 rfl) ?_
  refine lv_sipush (v := 384) hx hb dX4_init_5 (by decide) ?_
  refine nw_a (atype := .int) (ty := .int) (cA := cI) (N' := 384) (a0 := (384, .inl (fun _ => 0))) hx hb (hts _ k_224) rfl hK.2.1.1 hP hD hS hA (fun _ => rfl) (by decide) (by decide) (Nat.le_of_ble_eq_true rfl) (Nat.le_of_ble_eq_true rfl) (Nat.le_of_ble_eq_true rfl) dX4_init_8 (fun q_1 H hP hD hS => ?_)
  have hP : va_P D vwCl [(b0, .inr (4, [.null, .null, .null, .null, .null, .null, .null, .int 0, .int 0, .int 0, .int 0])), (q_1, .inl (cI, 384, .inl (fun _ => 0)))] H := hP
  have hD : va_D A [(b0, .inr (4, [.null, .null, .null, .null, .null, .null, .null, .int 0, .int 0, .int 0, .int 0])), (q_1, .inl (cI, 384, .inl (fun _ => 0)))] := hD
  refine W.widen (k := 1) (n := 384) (Nat.le_of_ble_eq_true rfl) (Nat.le_of_ble_eq_true rfl) ?_
  refine va_putF (D := D) (ci := 4) (v := .ref q_1) (ty := .array .int) (C := RX4) (T := TX4) (N := 11) hx hb hts inT_X4 tyX4 tyX4_ok nmX4 hown hK.1 hP hD hS 0 rfl rfl 0 (by decide) (hts _ k_231) (fun _ h9 => h9) rfl hin rfl (by decide +kernel) rfl rfl (Nat.le_of_ble_eq_true rfl) dX4_init_10 (fun H locs hP hD hS => ?_)
  have hP : va_P D vwCl [(b0, .inr (4, [.ref q_1, .null, .null, .null, .null, .null, .null, .int 0, .int 0, .int 0, .int 0])), (q_1, .inl (cI, 384, .inl (fun _ => 0)))] H := hP
  have hD : va_D A [(b0, .inr (4, [.ref q_1, .null, .null, .null, .null, .null, .null, .int 0, .int 0, .int 0, .int 0])), (q_1, .inl (cI, 384, .inl (fun _ => 0)))] := hD
  refine lv_aload_n hx hb dX4_init_13 rfl (lv_at hl 0 rfl) ?_
  refine lv_sipush (v := 384) hx hb dX4_init_14 (by decide) ?_
  refine nw_a (atype := .int) (ty := .int) (cA := cI) (N' := 384) (a0 := (384, .inl (fun _ => 0))) hx hb (hts _ k_224) rfl hK.2.1.1 hP hD hS hA (fun _ => rfl) (by decide) (by decide) (Nat.le_of_ble_eq_true rfl) (Nat.le_of_ble_eq_true rfl) (Nat.le_of_ble_eq_true rfl) dX4_init_17 (fun q_2 H hP hD hS => ?_)
  have hP : va_P D vwCl [(b0, .inr (4, [.ref q_1, .null, .null, .null, .null, .null, .null, .int 0, .int 0, .int 0, .int 0])), (q_1, .inl (cI, 384, .inl (fun _ => 0))), (q_2, .inl (cI, 384, .inl (fun _ => 0)))] H := hP
  have hD : va_D A [(b0, .inr (4, [.ref q_1, .null, .null, .null, .null, .null, .null, .int 0, .int 0, .int 0, .int 0])), (q_1, .inl (cI, 384, .inl (fun _ => 0))), (q_2, .inl (cI, 384, .inl (fun _ => 0)))] := hD
  refine W.widen (k := 2) (n := 768) (Nat.le_of_ble_eq_true rfl) (Nat.le_of_ble_eq_true rfl) ?_
  refine va_putF (D := D) (ci := 4) (v := .ref q_2) (ty := .array .int) (C := RX4) (T := TX4) (N := 11) hx hb hts inT_X4 tyX4 tyX4_ok nmX4 hown hK.1 hP hD hS 0 rfl rfl 1 (by decide) (hts _ k_235) (fun _ h9 => h9) rfl hin rfl (by decide +kernel) rfl rfl (Nat.le_of_ble_eq_true rfl) dX4_init_19 (fun H locs hP hD hS => ?_)
  have hP : va_P D vwCl [(b0, .inr (4, [.ref q_1, .ref q_2, .null, .null, .null, .null, .null, .int 0, .int 0, .int 0, .int 0])), (q_1, .inl (cI, 384, .inl (fun _ => 0))), (q_2, .inl (cI, 384, .inl (fun _ => 0)))] H := hP
  have hD : va_D A [(b0, .inr (4, [.ref q_1, .ref q_2, .null, .null, .null, .null, .null, .int 0, .int 0, .int 0, .int 0])), (q_1, .inl (cI, 384, .inl (fun _ => 0))), (q_2, .inl (cI, 384, .inl (fun _ => 0)))] := hD
  refine lv_aload_n hx hb dX4_init_22 rfl (lv_at hl 0 rfl) ?_
  refine lv_sipush (v := 384) hx hb dX4_init_23 (by decide) ?_
  refine nw_a (atype := .int) (ty := .int) (cA := cI) (N' := 384) (a0 := (384, .inl (fun _ => 0))) hx hb (hts _ k_224) rfl hK.2.1.1 hP hD hS hA (fun _ => rfl) (by decide) (by decide) (Nat.le_of_ble_eq_true rfl) (Nat.le_of_ble_eq_true rfl) (Nat.le_of_ble_eq_true rfl) dX4_init_26 (fun q_3 H hP hD hS => ?_)
  have hP : va_P D vwCl [(b0, .inr (4, [.ref q_1, .ref q_2, .null, .null, .null, .null, .null, .int 0, .int 0, .int 0, .int 0])), (q_1, .inl (cI, 384, .inl (fun _ => 0))), (q_2, .inl (cI, 384, .inl (fun _ => 0))), (q_3, .inl (cI, 384, .inl (fun _ => 0)))] H := hP
  have hD : va_D A [(b0, .inr (4, [.ref q_1, .ref q_2, .null, .null, .null, .null, .null, .int 0, .int 0, .int 0, .int 0])), (q_1, .inl (cI, 384, .inl (fun _ => 0))), (q_2, .inl (cI, 384, .inl (fun _ => 0))), (q_3, .inl (cI, 384, .inl (fun _ => 0)))] := hD
  refine W.widen (k := 3) (n := 1152) (Nat.le_of_ble_eq_true rfl) (Nat.le_of_ble_eq_true rfl) ?_
  refine va_putF (D := D) (ci := 4) (v := .ref q_3) (ty := .array .int) (C := RX4) (T := TX4) (N := 11) hx hb hts inT_X4 tyX4 tyX4_ok nmX4 hown hK.1 hP hD hS 0 rfl rfl 2 (by decide) (hts _ k_238) (fun _ h9 => h9) rfl hin rfl (by decide +kernel) rfl rfl (Nat.le_of_ble_eq_true rfl) dX4_init_28 (fun H locs hP hD hS => ?_)
  have hP : va_P D vwCl [(b0, .inr (4, [.ref q_1, .ref q_2, .ref q_3, .null, .null, .null, .null, .int 0, .int 0, .int 0, .int 0])), (q_1, .inl (cI, 384, .inl (fun _ => 0))), (q_2, .inl (cI, 384, .inl (fun _ => 0))), (q_3, .inl (cI, 384, .inl (fun _ => 0)))] H := hP
  have hD : va_D A [(b0, .inr (4, [.ref q_1, .ref q_2, .ref q_3, .null, .null, .null, .null, .int 0, .int 0, .int 0, .int 0])), (q_1, .inl (cI, 384, .inl (fun _ => 0))), (q_2, .inl (cI, 384, .inl (fun _ => 0))), (q_3, .inl (cI, 384, .inl (fun _ => 0)))] := hD
  refine lv_aload_n hx hb dX4_init_31 rfl (lv_at hl 0 rfl) ?_
  refine lv_sipush (v := 384) hx hb dX4_init_32 (by decide) ?_
  refine nw_a (atype := .boolean) (ty := .boolean) (cA := cZ) (N' := 384) (a0 := (384, .inl (fun _ => 0))) hx hb (hts _ k_287) rfl hK.2.1.2.2.1 hP hD hS hA (fun _ => rfl) (by decide) (by decide) (Nat.le_of_ble_eq_true rfl) (Nat.le_of_ble_eq_true rfl) (Nat.le_of_ble_eq_true rfl) dX4_init_35 (fun q_4 H hP hD hS => ?_)
  have hP : va_P D vwCl [(b0, .inr (4, [.ref q_1, .ref q_2, .ref q_3, .null, .null, .null, .null, .int 0, .int 0, .int 0, .int 0])), (q_1, .inl (cI, 384, .inl (fun _ => 0))), (q_2, .inl (cI, 384, .inl (fun _ => 0))), (q_3, .inl (cI, 384, .inl (fun _ => 0))), (q_4, .inl (cZ, 384, .inl (fun _ => 0)))] H := hP
  have hD : va_D A [(b0, .inr (4, [.ref q_1, .ref q_2, .ref q_3, .null, .null, .null, .null, .int 0, .int 0, .int 0, .int 0])), (q_1, .inl (cI, 384, .inl (fun _ => 0))), (q_2, .inl (cI, 384, .inl (fun _ => 0))), (q_3, .inl (cI, 384, .inl (fun _ => 0))), (q_4, .inl (cZ, 384, .inl (fun _ => 0)))] := hD
  refine W.widen (k := 4) (n := 1536) (Nat.le_of_ble_eq_true rfl) (Nat.le_of_ble_eq_true rfl) ?_
  refine va_putF (D := D) (ci := 4) (v := .ref q_4) (ty := .array .boolean) (C := RX4) (T := TX4) (N := 11) hx hb hts inT_X4 tyX4 tyX4_ok nmX4 hown hK.1 hP hD hS 0 rfl rfl 3 (by decide) (hts _ k_241) (fun _ h9 => h9) rfl hin rfl (by decide +kernel) rfl rfl (Nat.le_of_ble_eq_true rfl) dX4_init_37 (fun H locs hP hD hS => ?_)
  have hP : va_P D vwCl [(b0, .inr (4, [.ref q_1, .ref q_2, .ref q_3, .ref q_4, .null, .null, .null, .int 0, .int 0, .int 0, .int 0])), (q_1, .inl (cI, 384, .inl (fun _ => 0))), (q_2, .inl (cI, 384, .inl (fun _ => 0))), (q_3, .inl (cI, 384, .inl (fun _ => 0))), (q_4, .inl (cZ, 384, .inl (fun _ => 0)))] H := hP
  have hD : va_D A [(b0, .inr (4, [.ref q_1, .ref q_2, .ref q_3, .ref q_4, .null, .null, .null, .int 0, .int 0, .int 0, .int 0])), (q_1, .inl (cI, 384, .inl (fun _ => 0))), (q_2, .inl (cI, 384, .inl (fun _ => 0))), (q_3, .inl (cI, 384, .inl (fun _ => 0))), (q_4, .inl (cZ, 384, .inl (fun _ => 0)))] := hD
  refine lv_aload_n hx hb dX4_init_40 rfl (lv_at hl 0 rfl) ?_
  refine lv_bipush (v := 24) hx hb dX4_init_41 (by decide) ?_
  refine nw_a (atype := .int) (ty := .int) (cA := cI) (N' := 24) (a0 := (24, .inl (fun _ => 0))) hx hb (hts _ k_224) rfl hK.2.1.1 hP hD hS hA (fun _ => rfl) (by decide) (by decide) (Nat.le_of_ble_eq_true rfl) (Nat.le_of_ble_eq_true rfl) (Nat.le_of_ble_eq_true rfl) dX4_init_43 (fun q_5 H hP hD hS => ?_)
  have hP : va_P D vwCl [(b0, .inr (4, [.ref q_1, .ref q_2, .ref q_3, .ref q_4, .null, .null, .null, .int 0, .int 0, .int 0, .int 0])), (q_1, .inl (cI, 384, .inl (fun _ => 0))), (q_2, .inl (cI, 384, .inl (fun _ => 0))), (q_3, .inl (cI, 384, .inl (fun _ => 0))), (q_4, .inl (cZ, 384, .inl (fun _ => 0))), (q_5, .inl (cI, 24, .inl (fun _ => 0)))] H := hP
  have hD : va_D A [(b0, .inr (4, [.ref q_1, .ref q_2, .ref q_3, .ref q_4, .null, .null, .null, .int 0, .int 0, .int 0, .int 0])), (q_1, .inl (cI, 384, .inl (fun _ => 0))), (q_2, .inl (cI, 384, .inl (fun _ => 0))), (q_3, .inl (cI, 384, .inl (fun _ => 0))), (q_4, .inl (cZ, 384, .inl (fun _ => 0))), (q_5, .inl (cI, 24, .inl (fun _ => 0)))] := hD
  refine W.widen (k := 5) (n := 1560) (Nat.le_of_ble_eq_true rfl) (Nat.le_of_ble_eq_true rfl) ?_
  refine va_putF (D := D) (ci := 4) (v := .ref q_5) (ty := .array .int) (C := RX4) (T := TX4) (N := 11) hx hb hts inT_X4 tyX4 tyX4_ok nmX4 hown hK.1 hP hD hS 0 rfl rfl 4 (by decide) (hts _ k_243) (fun _ h9 => h9) rfl hin rfl (by decide +kernel) rfl rfl (Nat.le_of_ble_eq_true rfl) dX4_init_45 (fun H locs hP hD hS => ?_)
  have hP : va_P D vwCl [(b0, .inr (4, [.ref q_1, .ref q_2, .ref q_3, .ref q_4, .ref q_5, .null, .null, .int 0, .int 0, .int 0, .int 0])), (q_1, .inl (cI, 384, .inl (fun _ => 0))), (q_2, .inl (cI, 384, .inl (fun _ => 0))), (q_3, .inl (cI, 384, .inl (fun _ => 0))), (q_4, .inl (cZ, 384, .inl (fun _ => 0))), (q_5, .inl (cI, 24, .inl (fun _ => 0)))] H := hP
  have hD : va_D A [(b0, .inr (4, [.ref q_1, .ref q_2, .ref q_3, .ref q_4, .ref q_5, .null, .null, .int 0, .int 0, .int 0, .int 0])), (q_1, .inl (cI, 384, .inl (fun _ => 0))), (q_2, .inl (cI, 384, .inl (fun _ => 0))), (q_3, .inl (cI, 384, .inl (fun _ => 0))), (q_4, .inl (cZ, 384, .inl (fun _ => 0))), (q_5, .inl (cI, 24, .inl (fun _ => 0)))] := hD
  refine lv_aload_n hx hb dX4_init_48 rfl (lv_at hl 0 rfl) ?_
  refine lv_bipush (v := 8) hx hb dX4_init_49 (by decide) ?_
  refine nw_a (atype := .int) (ty := .int) (cA := cI) (N' := 8) (a0 := (8, .inl (fun _ => 0))) hx hb (hts _ k_224) rfl hK.2.1.1 hP hD hS hA (fun _ => rfl) (by decide) (by decide) (Nat.le_of_ble_eq_true rfl) (Nat.le_of_ble_eq_true rfl) (Nat.le_of_ble_eq_true rfl) dX4_init_51 (fun q_6 H hP hD hS => ?_)
  have hP : va_P D vwCl [(b0, .inr (4, [.ref q_1, .ref q_2, .ref q_3, .ref q_4, .ref q_5, .null, .null, .int 0, .int 0, .int 0, .int 0])), (q_1, .inl (cI, 384, .inl (fun _ => 0))), (q_2, .inl (cI, 384, .inl (fun _ => 0))), (q_3, .inl (cI, 384, .inl (fun _ => 0))), (q_4, .inl (cZ, 384, .inl (fun _ => 0))), (q_5, .inl (cI, 24, .inl (fun _ => 0))), (q_6, .inl (cI, 8, .inl (fun _ => 0)))] H := hP
  have hD : va_D A [(b0, .inr (4, [.ref q_1, .ref q_2, .ref q_3, .ref q_4, .ref q_5, .null, .null, .int 0, .int 0, .int 0, .int 0])), (q_1, .inl (cI, 384, .inl (fun _ => 0))), (q_2, .inl (cI, 384, .inl (fun _ => 0))), (q_3, .inl (cI, 384, .inl (fun _ => 0))), (q_4, .inl (cZ, 384, .inl (fun _ => 0))), (q_5, .inl (cI, 24, .inl (fun _ => 0))), (q_6, .inl (cI, 8, .inl (fun _ => 0)))] := hD
  refine W.widen (k := 6) (n := 1568) (Nat.le_of_ble_eq_true rfl) (Nat.le_of_ble_eq_true rfl) ?_
  refine va_putF (D := D) (ci := 4) (v := .ref q_6) (ty := .array .int) (C := RX4) (T := TX4) (N := 11) hx hb hts inT_X4 tyX4 tyX4_ok nmX4 hown hK.1 hP hD hS 0 rfl rfl 5 (by decide) (hts _ k_245) (fun _ h9 => h9) rfl hin rfl (by decide +kernel) rfl rfl (Nat.le_of_ble_eq_true rfl) dX4_init_53 (fun H locs hP hD hS => ?_)
  have hP : va_P D vwCl [(b0, .inr (4, [.ref q_1, .ref q_2, .ref q_3, .ref q_4, .ref q_5, .ref q_6, .null, .int 0, .int 0, .int 0, .int 0])), (q_1, .inl (cI, 384, .inl (fun _ => 0))), (q_2, .inl (cI, 384, .inl (fun _ => 0))), (q_3, .inl (cI, 384, .inl (fun _ => 0))), (q_4, .inl (cZ, 384, .inl (fun _ => 0))), (q_5, .inl (cI, 24, .inl (fun _ => 0))), (q_6, .inl (cI, 8, .inl (fun _ => 0)))] H := hP
  have hD : va_D A [(b0, .inr (4, [.ref q_1, .ref q_2, .ref q_3, .ref q_4, .ref q_5, .ref q_6, .null, .int 0, .int 0, .int 0, .int 0])), (q_1, .inl (cI, 384, .inl (fun _ => 0))), (q_2, .inl (cI, 384, .inl (fun _ => 0))), (q_3, .inl (cI, 384, .inl (fun _ => 0))), (q_4, .inl (cZ, 384, .inl (fun _ => 0))), (q_5, .inl (cI, 24, .inl (fun _ => 0))), (q_6, .inl (cI, 8, .inl (fun _ => 0)))] := hD
  refine lv_aload_n hx hb dX4_init_56 rfl (lv_at hl 0 rfl) ?_
  refine lv_bipush (v := 26) hx hb dX4_init_57 (by decide) ?_
  refine nw_a (atype := .int) (ty := .int) (cA := cI) (N' := 26) (a0 := (26, .inl (fun _ => 0))) hx hb (hts _ k_224) rfl hK.2.1.1 hP hD hS hA (fun _ => rfl) (by decide) (by decide) (Nat.le_of_ble_eq_true rfl) (Nat.le_of_ble_eq_true rfl) (Nat.le_of_ble_eq_true rfl) dX4_init_59 (fun q_7 H hP hD hS => ?_)
  have hP : va_P D vwCl [(b0, .inr (4, [.ref q_1, .ref q_2, .ref q_3, .ref q_4, .ref q_5, .ref q_6, .null, .int 0, .int 0, .int 0, .int 0])), (q_1, .inl (cI, 384, .inl (fun _ => 0))), (q_2, .inl (cI, 384, .inl (fun _ => 0))), (q_3, .inl (cI, 384, .inl (fun _ => 0))), (q_4, .inl (cZ, 384, .inl (fun _ => 0))), (q_5, .inl (cI, 24, .inl (fun _ => 0))), (q_6, .inl (cI, 8, .inl (fun _ => 0))), (q_7, .inl (cI, 26, .inl (fun _ => 0)))] H := hP
  have hD : va_D A [(b0, .inr (4, [.ref q_1, .ref q_2, .ref q_3, .ref q_4, .ref q_5, .ref q_6, .null, .int 0, .int 0, .int 0, .int 0])), (q_1, .inl (cI, 384, .inl (fun _ => 0))), (q_2, .inl (cI, 384, .inl (fun _ => 0))), (q_3, .inl (cI, 384, .inl (fun _ => 0))), (q_4, .inl (cZ, 384, .inl (fun _ => 0))), (q_5, .inl (cI, 24, .inl (fun _ => 0))), (q_6, .inl (cI, 8, .inl (fun _ => 0))), (q_7, .inl (cI, 26, .inl (fun _ => 0)))] := hD
  refine W.widen (k := 7) (n := 1594) (Nat.le_of_ble_eq_true rfl) (Nat.le_of_ble_eq_true rfl) ?_
  refine va_putF (D := D) (ci := 4) (v := .ref q_7) (ty := .array .int) (C := RX4) (T := TX4) (N := 11) hx hb hts inT_X4 tyX4 tyX4_ok nmX4 hown hK.1 hP hD hS 0 rfl rfl 6 (by decide) (hts _ k_247) (fun _ h9 => h9) rfl hin rfl (by decide +kernel) rfl rfl (Nat.le_of_ble_eq_true rfl) dX4_init_61 (fun H locs hP hD hS => ?_)
  have hP : va_P D vwCl [(b0, .inr (4, [.ref q_1, .ref q_2, .ref q_3, .ref q_4, .ref q_5, .ref q_6, .ref q_7, .int 0, .int 0, .int 0, .int 0])), (q_1, .inl (cI, 384, .inl (fun _ => 0))), (q_2, .inl (cI, 384, .inl (fun _ => 0))), (q_3, .inl (cI, 384, .inl (fun _ => 0))), (q_4, .inl (cZ, 384, .inl (fun _ => 0))), (q_5, .inl (cI, 24, .inl (fun _ => 0))), (q_6, .inl (cI, 8, .inl (fun _ => 0))), (q_7, .inl (cI, 26, .inl (fun _ => 0)))] H := hP
  have hD : va_D A [(b0, .inr (4, [.ref q_1, .ref q_2, .ref q_3, .ref q_4, .ref q_5, .ref q_6, .ref q_7, .int 0, .int 0, .int 0, .int 0])), (q_1, .inl (cI, 384, .inl (fun _ => 0))), (q_2, .inl (cI, 384, .inl (fun _ => 0))), (q_3, .inl (cI, 384, .inl (fun _ => 0))), (q_4, .inl (cZ, 384, .inl (fun _ => 0))), (q_5, .inl (cI, 24, .inl (fun _ => 0))), (q_6, .inl (cI, 8, .inl (fun _ => 0))), (q_7, .inl (cI, 26, .inl (fun _ => 0)))] := hD
  refine lv_aload_n hx hb dX4_init_64 rfl (lv_at hl 0 rfl) ?_
  refine lv_iconst (v := 1) hx hb dX4_init_65 (by decide) ?_
  refine va_put (D := D) (ci := 4) (v := .int 1) (ty := .int) (C := RX4) (T := TX4) (N := 11) hx hb hts inT_X4 tyX4 tyX4_ok nmX4 hown hK.1 hP hD hS 0 rfl rfl 10 (by decide) (hts _ k_262) (fun _ h9 => h9) rfl (by decide +kernel) rfl rfl (Nat.le_of_ble_eq_true rfl) dX4_init_66 (fun H locs hP hD hS => ?_)
  have hP : va_P D vwCl [(b0, .inr (4, [.ref q_1, .ref q_2, .ref q_3, .ref q_4, .ref q_5, .ref q_6, .ref q_7, .int 0, .int 0, .int 0, .int 1])), (q_1, .inl (cI, 384, .inl (fun _ => 0))), (q_2, .inl (cI, 384, .inl (fun _ => 0))), (q_3, .inl (cI, 384, .inl (fun _ => 0))), (q_4, .inl (cZ, 384, .inl (fun _ => 0))), (q_5, .inl (cI, 24, .inl (fun _ => 0))), (q_6, .inl (cI, 8, .inl (fun _ => 0))), (q_7, .inl (cI, 26, .inl (fun _ => 0)))] H := hP
  have hD : va_D A [(b0, .inr (4, [.ref q_1, .ref q_2, .ref q_3, .ref q_4, .ref q_5, .ref q_6, .ref q_7, .int 0, .int 0, .int 0, .int 1])), (q_1, .inl (cI, 384, .inl (fun _ => 0))), (q_2, .inl (cI, 384, .inl (fun _ => 0))), (q_3, .inl (cI, 384, .inl (fun _ => 0))), (q_4, .inl (cZ, 384, .inl (fun _ => 0))), (q_5, .inl (cI, 24, .inl (fun _ => 0))), (q_6, .inl (cI, 8, .inl (fun _ => 0))), (q_7, .inl (cI, 26, .inl (fun _ => 0)))] := hD
  refine W.widen (k := 7) (n := 1594) (Nat.le_of_ble_eq_true rfl) (Nat.le_of_ble_eq_true rfl) ?_
  have hP := hP.sub (ws' := [(b0, .inr (4, [.ref q_1, .ref q_2, .ref q_3, .ref q_4, .ref q_5, .ref q_6, .ref q_7, .int 0, .int 0, .int 0, .int 1])), (q_1, .inl (cI, 384, .inl (fun _ => 0))), (q_2, .inl (cI, 384, .inl (fun _ => 0))), (q_3, .inl (cI, 384, .inl (fun _ => 0))), (q_4, .inl (cZ, 384, .inl (fun _ => 0))), (q_5, .inl (cI, 24, .inl (fun _ => 0))), (q_6, .inl (cI, 8, .inl (fun _ => 0))), (q_7, .inl (cI, 26, .inl (fun _ => 0)))]) [0, 1, 2, 3, 4, 5, 6, 7] rfl
  have hD := hD.sub (ws' := [(b0, .inr (4, [.ref q_1, .ref q_2, .ref q_3, .ref q_4, .ref q_5, .ref q_6, .ref q_7, .int 0, .int 0, .int 0, .int 1])), (q_1, .inl (cI, 384, .inl (fun _ => 0))), (q_2, .inl (cI, 384, .inl (fun _ => 0))), (q_3, .inl (cI, 384, .inl (fun _ => 0))), (q_4, .inl (cZ, 384, .inl (fun _ => 0))), (q_5, .inl (cI, 24, .inl (fun _ => 0))), (q_6, .inl (cI, 8, .inl (fun _ => 0))), (q_7, .inl (cI, 26, .inl (fun _ => 0)))]) [0, 1, 2, 3, 4, 5, 6, 7] (by decide) rfl
  exact W.vret hx hb hr (fun tt9 ht hW => ⟨⟨(fun j => ([q_1, q_2, q_3, q_4, q_5, q_6, q_7] : List Nat).getD j 0), rfl, trivial, ⟨by rw [ht]; exact hP, hD⟩⟩, hS.F ht⟩) hS.2.2 dX4_init_69 hlocks

set_option maxHeartbeats 4000000 in
set_option maxRecDepth 100000 in
theorem c_X0_init (l : Launch) (D : va_G) (cI cB cZ cJ : ClassId) (tx : List (ClassId × FieldType)) (b0 : Nat) (c0 : Nat) : WrV l D cI cB cZ cJ tx yX0_init cX0_init 2 none 1 5 5376 [.ref b0, .ref c0] [(b0, .inr (0, [.null, .null, .null, .null, .null, .null, .int 0]))] (fun (_ : Nat → Nat) => True) (fun u => [(b0, .inr (0, [.ref c0, .ref (u 0), .ref (u 1), .ref (u 2), .ref (u 3), .ref (u 4), .int 0])), (u 0, .inl (cI, 1536, .inl (fun _ => 0))), (u 1, .inl (cI, 1536, .inl (fun _ => 0))), (u 2, .inl (cZ, 1536, .inl (fun _ => 0))), (u 3, .inl (cI, 384, .inl (fun _ => 0))), (u 4, .inl (cI, 384, .inl (fun _ => 0)))]) := by
  refine wrv_of2 (by decide) (Nat.le_of_ble_eq_true rfl) ?_
  intro p e s m below meth c A ls H locs hC hK hP hD hA hS hl
  obtain ⟨hx, hb, hr, hml, hown, hts, hlocks, hin⟩ := hC
  have hown : s.vm.findClass RX0 = some m.cls := hown
  have hl : lv_has ls 2 [(0, .ref b0), (1, .ref c0)] := hl
  refine lv_aload_n hx hb dX0_init_0 rfl (lv_at hl 0 rfl) ?_
  refine W.objInit hx hb hown (hts _ k_293) (hts _ k_142) (hts _ k_143) rfl (by rw [hml]; exact hl.1) rfl dX0_init_1 (Nat.le_of_ble_eq_true rfl) (Nat.le_of_ble_eq_true rfl) ?_
  refine W.eq (g2 := F0 m 4 ls []) rfl ?_
  refine lv_aload_n hx hb dX0_init_4 rfl (lv_at hl 0 rfl) ?_
  refine lv_sipush (v := 1536) hx hb dX0_init_5 (by decide) ?_
  refine nw_a (atype := .int) (ty := .int) (cA := cI) (N' := 1536) (a0 := (1536, .inl (fun _ => 0))) hx hb (hts _ k_224) rfl hK.2.1.1 hP hD hS hA (fun _ => rfl) (by decide) (by decide) (Nat.le_of_ble_eq_true rfl) (Nat.le_of_ble_eq_true rfl) (Nat.le_of_ble_eq_true rfl) dX0_init_8 (fun q_1 H hP hD hS => ?_)
  have hP : va_P D vwCl [(b0, .inr (0, [.null, .null, .null, .null, .null, .null, .int 0])), (q_1, .inl (cI, 1536, .inl (fun _ => 0)))] H := hP
  have hD : va_D A [(b0, .inr (0, [.null, .null, .null, .null, .null, .null, .int 0])), (q_1, .inl (cI, 1536, .inl (fun _ => 0)))] := hD
  refine W.widen (k := 1) (n := 1536) (Nat.le_of_ble_eq_true rfl) (Nat.le_of_ble_eq_true rfl) ?_
  refine va_putF (D := D) (ci := 0) (v := .ref q_1) (ty := .array .int) (C := RX0) (T := TX0) (N := 7) hx hb hts inT_X0 tyX0 tyX0_ok nmX0 hown hK.1 hP hD hS 0 rfl rfl 1 (by decide) (hts _ k_295) (fun _ h9 => h9) rfl hin rfl (by decide +kernel) rfl rfl (Nat.le_of_ble_eq_true rfl) dX0_init_10 (fun H locs hP hD hS => ?_)
  have hP : va_P D vwCl [(b0, .inr (0, [.null, .ref q_1, .null, .null, .null, .null, .int 0])), (q_1, .inl (cI, 1536, .inl (fun _ => 0)))] H := hP
  have hD : va_D A [(b0, .inr (0, [.null, .ref q_1, .null, .null, .null, .null, .int 0])), (q_1, .inl (cI, 1536, .inl (fun _ => 0)))] := hD
  refine lv_aload_n hx hb dX0_init_13 rfl (lv_at hl 0 rfl) ?_
  refine lv_sipush (v := 1536) hx hb dX0_init_14 (by decide) ?_
  refine nw_a (atype := .int) (ty := .int) (cA := cI) (N' := 1536) (a0 := (1536, .inl (fun _ => 0))) hx hb (hts _ k_224) rfl hK.2.1.1 hP hD hS hA (fun _ => rfl) (by decide) (by decide) (Nat.le_of_ble_eq_true rfl) (Nat.le_of_ble_eq_true rfl) (Nat.le_of_ble_eq_true rfl) dX0_init_17 (fun q_2 H hP hD hS => ?_)
  have hP : va_P D vwCl [(b0, .inr (0, [.null, .ref q_1, .null, .null, .null, .null, .int 0])), (q_1, .inl (cI, 1536, .inl (fun _ => 0))), (q_2, .inl (cI, 1536, .inl (fun _ => 0)))] H := hP
  have hD : va_D A [(b0, .inr (0, [.null, .ref q_1, .null, .null, .null, .null, .int 0])), (q_1, .inl (cI, 1536, .inl (fun _ => 0))), (q_2, .inl (cI, 1536, .inl (fun _ => 0)))] := hD
  refine W.widen (k := 2) (n := 3072) (Nat.le_of_ble_eq_true rfl) (Nat.le_of_ble_eq_true rfl) ?_
  refine va_putF (D := D) (ci := 0) (v := .ref q_2) (ty := .array .int) (C := RX0) (T := TX0) (N := 7) hx hb hts inT_X0 tyX0 tyX0_ok nmX0 hown hK.1 hP hD hS 0 rfl rfl 2 (by decide) (hts _ k_296) (fun _ h9 => h9) rfl hin rfl (by decide +kernel) rfl rfl (Nat.le_of_ble_eq_true rfl) dX0_init_19 (fun H locs hP hD hS => ?_)
  have hP : va_P D vwCl [(b0, .inr (0, [.null, .ref q_1, .ref q_2, .null, .null, .null, .int 0])), (q_1, .inl (cI, 1536, .inl (fun _ => 0))), (q_2, .inl (cI, 1536, .inl (fun _ => 0)))] H := hP
  have hD : va_D A [(b0, .inr (0, [.null, .ref q_1, .ref q_2, .null, .null, .null, .int 0])), (q_1, .inl (cI, 1536, .inl (fun _ => 0))), (q_2, .inl (cI, 1536, .inl (fun _ => 0)))] := hD
  refine lv_aload_n hx hb dX0_init_22 rfl (lv_at hl 0 rfl) ?_
  refine lv_sipush (v := 1536) hx hb dX0_init_23 (by decide) ?_
  refine nw_a (atype := .boolean) (ty := .boolean) (cA := cZ) (N' := 1536) (a0 := (1536, .inl (fun _ => 0))) hx hb (hts _ k_287) rfl hK.2.1.2.2.1 hP hD hS hA (fun _ => rfl) (by decide) (by decide) (Nat.le_of_ble_eq_true rfl) (Nat.le_of_ble_eq_true rfl) (Nat.le_of_ble_eq_true rfl) dX0_init_26 (fun q_3 H hP hD hS => ?_)
  have hP : va_P D vwCl [(b0, .inr (0, [.null, .ref q_1, .ref q_2, .null, .null, .null, .int 0])), (q_1, .inl (cI, 1536, .inl (fun _ => 0))), (q_2, .inl (cI, 1536, .inl (fun _ => 0))), (q_3, .inl (cZ, 1536, .inl (fun _ => 0)))] H := hP
  have hD : va_D A [(b0, .inr (0, [.null, .ref q_1, .ref q_2, .null, .null, .null, .int 0])), (q_1, .inl (cI, 1536, .inl (fun _ => 0))), (q_2, .inl (cI, 1536, .inl (fun _ => 0))), (q_3, .inl (cZ, 1536, .inl (fun _ => 0)))] := hD
  refine W.widen (k := 3) (n := 4608) (Nat.le_of_ble_eq_true rfl) (Nat.le_of_ble_eq_true rfl) ?_
  refine va_putF (D := D) (ci := 0) (v := .ref q_3) (ty := .array .boolean) (C := RX0) (T := TX0) (N := 7) hx hb hts inT_X0 tyX0 tyX0_ok nmX0 hown hK.1 hP hD hS 0 rfl rfl 3 (by decide) (hts _ k_297) (fun _ h9 => h9) rfl hin rfl (by decide +kernel) rfl rfl (Nat.le_of_ble_eq_true rfl) dX0_init_28 (fun H locs hP hD hS => ?_)
  have hP : va_P D vwCl [(b0, .inr (0, [.null, .ref q_1, .ref q_2, .ref q_3, .null, .null, .int 0])), (q_1, .inl (cI, 1536, .inl (fun _ => 0))), (q_2, .inl (cI, 1536, .inl (fun _ => 0))), (q_3, .inl (cZ, 1536, .inl (fun _ => 0)))] H := hP
  have hD : va_D A [(b0, .inr (0, [.null, .ref q_1, .ref q_2, .ref q_3, .null, .null, .int 0])), (q_1, .inl (cI, 1536, .inl (fun _ => 0))), (q_2, .inl (cI, 1536, .inl (fun _ => 0))), (q_3, .inl (cZ, 1536, .inl (fun _ => 0)))] := hD
  refine lv_aload_n hx hb dX0_init_31 rfl (lv_at hl 0 rfl) ?_
  refine lv_sipush (v := 384) hx hb dX0_init_32 (by decide) ?_
  refine nw_a (atype := .int) (ty := .int) (cA := cI) (N' := 384) (a0 := (384, .inl (fun _ => 0))) hx hb (hts _ k_224) rfl hK.2.1.1 hP hD hS hA (fun _ => rfl) (by decide) (by decide) (Nat.le_of_ble_eq_true rfl) (Nat.le_of_ble_eq_true rfl) (Nat.le_of_ble_eq_true rfl) dX0_init_35 (fun q_4 H hP hD hS => ?_)
  have hP : va_P D vwCl [(b0, .inr (0, [.null, .ref q_1, .ref q_2, .ref q_3, .null, .null, .int 0])), (q_1, .inl (cI, 1536, .inl (fun _ => 0))), (q_2, .inl (cI, 1536, .inl (fun _ => 0))), (q_3, .inl (cZ, 1536, .inl (fun _ => 0))), (q_4, .inl (cI, 384, .inl (fun _ => 0)))] H := hP
  have hD : va_D A [(b0, .inr (0, [.null, .ref q_1, .ref q_2, .ref q_3, .null, .null, .int 0])), (q_1, .inl (cI, 1536, .inl (fun _ => 0))), (q_2, .inl (cI, 1536, .inl (fun _ => 0))), (q_3, .inl (cZ, 1536, .inl (fun _ => 0))), (q_4, .inl (cI, 384, .inl (fun _ => 0)))] := hD
  refine W.widen (k := 4) (n := 4992) (Nat.le_of_ble_eq_true rfl) (Nat.le_of_ble_eq_true rfl) ?_
  refine va_putF (D := D) (ci := 0) (v := .ref q_4) (ty := .array .int) (C := RX0) (T := TX0) (N := 7) hx hb hts inT_X0 tyX0 tyX0_ok nmX0 hown hK.1 hP hD hS 0 rfl rfl 4 (by decide) (hts _ k_298) (fun _ h9 => h9) rfl hin rfl (by decide +kernel) rfl rfl (Nat.le_of_ble_eq_true rfl) dX0_init_37 (fun H locs hP hD hS => ?_)
  have hP : va_P D vwCl [(b0, .inr (0, [.null, .ref q_1, .ref q_2, .ref q_3, .ref q_4, .null, .int 0])), (q_1, .inl (cI, 1536, .inl (fun _ => 0))), (q_2, .inl (cI, 1536, .inl (fun _ => 0))), (q_3, .inl (cZ, 1536, .inl (fun _ => 0))), (q_4, .inl (cI, 384, .inl (fun _ => 0)))] H := hP
  have hD : va_D A [(b0, .inr (0, [.null, .ref q_1, .ref q_2, .ref q_3, .ref q_4, .null, .int 0])), (q_1, .inl (cI, 1536, .inl (fun _ => 0))), (q_2, .inl (cI, 1536, .inl (fun _ => 0))), (q_3, .inl (cZ, 1536, .inl (fun _ => 0))), (q_4, .inl (cI, 384, .inl (fun _ => 0)))] := hD
  refine lv_aload_n hx hb dX0_init_40 rfl (lv_at hl 0 rfl) ?_
  refine lv_sipush (v := 384) hx hb dX0_init_41 (by decide) ?_
  refine nw_a (atype := .int) (ty := .int) (cA := cI) (N' := 384) (a0 := (384, .inl (fun _ => 0))) hx hb (hts _ k_224) rfl hK.2.1.1 hP hD hS hA (fun _ => rfl) (by decide) (by decide) (Nat.le_of_ble_eq_true rfl) (Nat.le_of_ble_eq_true rfl) (Nat.le_of_ble_eq_true rfl) dX0_init_44 (fun q_5 H hP hD hS => ?_)
  have hP : va_P D vwCl [(b0, .inr (0, [.null, .ref q_1, .ref q_2, .ref q_3, .ref q_4, .null, .int 0])), (q_1, .inl (cI, 1536, .inl (fun _ => 0))), (q_2, .inl (cI, 1536, .inl (fun _ => 0))), (q_3, .inl (cZ, 1536, .inl (fun _ => 0))), (q_4, .inl (cI, 384, .inl (fun _ => 0))), (q_5, .inl (cI, 384, .inl (fun _ => 0)))] H := hP
  have hD : va_D A [(b0, .inr (0, [.null, .ref q_1, .ref q_2, .ref q_3, .ref q_4, .null, .int 0])), (q_1, .inl (cI, 1536, .inl (fun _ => 0))), (q_2, .inl (cI, 1536, .inl (fun _ => 0))), (q_3, .inl (cZ, 1536, .inl (fun _ => 0))), (q_4, .inl (cI, 384, .inl (fun _ => 0))), (q_5, .inl (cI, 384, .inl (fun _ => 0)))] := hD
  refine W.widen (k := 5) (n := 5376) (Nat.le_of_ble_eq_true rfl) (Nat.le_of_ble_eq_true rfl) ?_
  refine va_putF (D := D) (ci := 0) (v := .ref q_5) (ty := .array .int) (C := RX0) (T := TX0) (N := 7) hx hb hts inT_X0 tyX0 tyX0_ok nmX0 hown hK.1 hP hD hS 0 rfl rfl 5 (by decide) (hts _ k_299) (fun _ h9 => h9) rfl hin rfl (by decide +kernel) rfl rfl (Nat.le_of_ble_eq_true rfl) dX0_init_46 (fun H locs hP hD hS => ?_)
  have hP : va_P D vwCl [(b0, .inr (0, [.null, .ref q_1, .ref q_2, .ref q_3, .ref q_4, .ref q_5, .int 0])), (q_1, .inl (cI, 1536, .inl (fun _ => 0))), (q_2, .inl (cI, 1536, .inl (fun _ => 0))), (q_3, .inl (cZ, 1536, .inl (fun _ => 0))), (q_4, .inl (cI, 384, .inl (fun _ => 0))), (q_5, .inl (cI, 384, .inl (fun _ => 0)))] H := hP
  have hD : va_D A [(b0, .inr (0, [.null, .ref q_1, .ref q_2, .ref q_3, .ref q_4, .ref q_5, .int 0])), (q_1, .inl (cI, 1536, .inl (fun _ => 0))), (q_2, .inl (cI, 1536, .inl (fun _ => 0))), (q_3, .inl (cZ, 1536, .inl (fun _ => 0))), (q_4, .inl (cI, 384, .inl (fun _ => 0))), (q_5, .inl (cI, 384, .inl (fun _ => 0)))] := hD
  refine lv_aload_n hx hb dX0_init_49 rfl (lv_at hl 0 rfl) ?_
  refine lv_aload_n hx hb dX0_init_50 rfl (lv_at hl 1 rfl) ?_
  refine va_putF (D := D) (ci := 0) (v := .ref c0) (ty := .object "NailStain$Ship") (C := RX0) (T := TX0) (N := 7) hx hb hts inT_X0 tyX0 tyX0_ok nmX0 hown hK.1 hP hD hS 0 rfl rfl 0 (by decide) (hts _ k_294) (fun _ h9 => h9) rfl hin rfl (by decide +kernel) rfl rfl (Nat.le_of_ble_eq_true rfl) dX0_init_51 (fun H locs hP hD hS => ?_)
  have hP : va_P D vwCl [(b0, .inr (0, [.ref c0, .ref q_1, .ref q_2, .ref q_3, .ref q_4, .ref q_5, .int 0])), (q_1, .inl (cI, 1536, .inl (fun _ => 0))), (q_2, .inl (cI, 1536, .inl (fun _ => 0))), (q_3, .inl (cZ, 1536, .inl (fun _ => 0))), (q_4, .inl (cI, 384, .inl (fun _ => 0))), (q_5, .inl (cI, 384, .inl (fun _ => 0)))] H := hP
  have hD : va_D A [(b0, .inr (0, [.ref c0, .ref q_1, .ref q_2, .ref q_3, .ref q_4, .ref q_5, .int 0])), (q_1, .inl (cI, 1536, .inl (fun _ => 0))), (q_2, .inl (cI, 1536, .inl (fun _ => 0))), (q_3, .inl (cZ, 1536, .inl (fun _ => 0))), (q_4, .inl (cI, 384, .inl (fun _ => 0))), (q_5, .inl (cI, 384, .inl (fun _ => 0)))] := hD
  refine W.widen (k := 5) (n := 5376) (Nat.le_of_ble_eq_true rfl) (Nat.le_of_ble_eq_true rfl) ?_
  have hP := hP.sub (ws' := [(b0, .inr (0, [.ref c0, .ref q_1, .ref q_2, .ref q_3, .ref q_4, .ref q_5, .int 0])), (q_1, .inl (cI, 1536, .inl (fun _ => 0))), (q_2, .inl (cI, 1536, .inl (fun _ => 0))), (q_3, .inl (cZ, 1536, .inl (fun _ => 0))), (q_4, .inl (cI, 384, .inl (fun _ => 0))), (q_5, .inl (cI, 384, .inl (fun _ => 0)))]) [0, 1, 2, 3, 4, 5] rfl
  have hD := hD.sub (ws' := [(b0, .inr (0, [.ref c0, .ref q_1, .ref q_2, .ref q_3, .ref q_4, .ref q_5, .int 0])), (q_1, .inl (cI, 1536, .inl (fun _ => 0))), (q_2, .inl (cI, 1536, .inl (fun _ => 0))), (q_3, .inl (cZ, 1536, .inl (fun _ => 0))), (q_4, .inl (cI, 384, .inl (fun _ => 0))), (q_5, .inl (cI, 384, .inl (fun _ => 0)))]) [0, 1, 2, 3, 4, 5] (by decide) rfl
  exact W.vret hx hb hr (fun tt9 ht hW => ⟨⟨(fun j => ([q_1, q_2, q_3, q_4, q_5] : List Nat).getD j 0), rfl, trivial, ⟨by rw [ht]; exact hP, hD⟩⟩, hS.F ht⟩) hS.2.2 dX0_init_54 hlocks

set_option maxHeartbeats 4000000 in
set_option maxRecDepth 100000 in
theorem c_X2_init (l : Launch) (D : va_G) (cI cB cZ cJ : ClassId) (tx : List (ClassId × FieldType)) (b0 : Nat) (c0 : Nat) : WrV l D cI cB cZ cJ tx yX2_init cX2_init 2 none 1 11 89600 [.ref b0, .ref c0] [(b0, .inr (2, [.null, .null, .null, .null, .null, .null, .null, .null, .null, .null, .null, .null]))] (fun (_ : Nat → Nat) => True) (fun u => [(b0, .inr (2, [.ref c0, .ref (u 0), .ref (u 1), .ref (u 2), .ref (u 3), .ref (u 4), .ref (u 5), .ref (u 6), .ref (u 7), .ref (u 8), .ref (u 9), .ref (u 10)])), (u 0, .inl (cI, 24, .inl (fun _ => 0))), (u 1, .inl (cI, 24, .inl (fun _ => 0))), (u 2, .inl (cZ, 24, .inl (fun _ => 0))), (u 3, .inl (cI, 192, .inl (fun _ => 0))), (u 4, .inl (cJ, 8, .inr (.inl (fun _ => 0)))), (u 5, .inl (cZ, 8, .inl (fun _ => 0))), (u 6, .inl (cI, 8, .inl (fun _ => 0))), (u 7, .inl (cI, 8, .inl (fun _ => 0))), (u 8, .inl (cB, 81862, .inl (fun _ => 0))), (u 9, .inl (cJ, 3721, .inr (.inl (fun _ => 0)))), (u 10, .inl (cJ, 3721, .inr (.inl (fun _ => 0))))]) := by
  refine wrv_of2 (by decide) (Nat.le_of_ble_eq_true rfl) ?_
  intro p e s m below meth c A ls H locs hC hK hP hD hA hS hl
  obtain ⟨hx, hb, hr, hml, hown, hts, hlocks, hin⟩ := hC
  have hown : s.vm.findClass RX2 = some m.cls := hown
  have hl : lv_has ls 2 [(0, .ref b0), (1, .ref c0)] := hl
  refine lv_aload_n hx hb dX2_init_0 rfl (lv_at hl 0 rfl) ?_
  refine W.objInit hx hb hown (hts _ k_322) (hts _ k_142) (hts _ k_143) rfl (by rw [hml]; exact hl.1) rfl dX2_init_1 (Nat.le_of_ble_eq_true rfl) (Nat.le_of_ble_eq_true rfl) ?_
  refine W.eq (g2 := F0 m 4 ls []) rfl ?_
  refine lv_aload_n hx hb dX2_init_4 rfl (lv_at hl 0 rfl) ?_
  refine lv_bipush (v := 24) hx hb dX2_init_5 (by decide) ?_
  refine nw_a (atype := .int) (ty := .int) (cA := cI) (N' := 24) (a0 := (24, .inl (fun _ => 0))) hx hb (hts _ k_224) rfl hK.2.1.1 hP hD hS hA (fun _ => rfl) (by decide) (by decide) (Nat.le_of_ble_eq_true rfl) (Nat.le_of_ble_eq_true rfl) (Nat.le_of_ble_eq_true rfl) dX2_init_7 (fun q_1 H hP hD hS => ?_)
  have hP : va_P D vwCl [(b0, .inr (2, [.null, .null, .null, .null, .null, .null, .null, .null, .null, .null, .null, .null])), (q_1, .inl (cI, 24, .inl (fun _ => 0)))] H := hP
  have hD : va_D A [(b0, .inr (2, [.null, .null, .null, .null, .null, .null, .null, .null, .null, .null, .null, .null])), (q_1, .inl (cI, 24, .inl (fun _ => 0)))] := hD
  refine W.widen (k := 1) (n := 24) (Nat.le_of_ble_eq_true rfl) (Nat.le_of_ble_eq_true rfl) ?_
  refine va_putF (D := D) (ci := 2) (v := .ref q_1) (ty := .array .int) (C := RX2) (T := TX2) (N := 12) hx hb hts inT_X2 tyX2 tyX2_ok nmX2 hown hK.1 hP hD hS 0 rfl rfl 1 (by decide) (hts _ k_325) (fun _ h9 => h9) rfl hin rfl (by decide +kernel) rfl rfl (Nat.le_of_ble_eq_true rfl) dX2_init_9 (fun H locs hP hD hS => ?_)
  have hP : va_P D vwCl [(b0, .inr (2, [.null, .ref q_1, .null, .null, .null, .null, .null, .null, .null, .null, .null, .null])), (q_1, .inl (cI, 24, .inl (fun _ => 0)))] H := hP
  have hD : va_D A [(b0, .inr (2, [.null, .ref q_1, .null, .null, .null, .null, .null, .null, .null, .null, .null, .null])), (q_1, .inl (cI, 24, .inl (fun _ => 0)))] := hD
  refine lv_aload_n hx hb dX2_init_12 rfl (lv_at hl 0 rfl) ?_
  refine lv_bipush (v := 24) hx hb dX2_init_13 (by decide) ?_
  refine nw_a (atype := .int) (ty := .int) (cA := cI) (N' := 24) (a0 := (24, .inl (fun _ => 0))) hx hb (hts _ k_224) rfl hK.2.1.1 hP hD hS hA (fun _ => rfl) (by decide) (by decide) (Nat.le_of_ble_eq_true rfl) (Nat.le_of_ble_eq_true rfl) (Nat.le_of_ble_eq_true rfl) dX2_init_15 (fun q_2 H hP hD hS => ?_)
  have hP : va_P D vwCl [(b0, .inr (2, [.null, .ref q_1, .null, .null, .null, .null, .null, .null, .null, .null, .null, .null])), (q_1, .inl (cI, 24, .inl (fun _ => 0))), (q_2, .inl (cI, 24, .inl (fun _ => 0)))] H := hP
  have hD : va_D A [(b0, .inr (2, [.null, .ref q_1, .null, .null, .null, .null, .null, .null, .null, .null, .null, .null])), (q_1, .inl (cI, 24, .inl (fun _ => 0))), (q_2, .inl (cI, 24, .inl (fun _ => 0)))] := hD
  refine W.widen (k := 2) (n := 48) (Nat.le_of_ble_eq_true rfl) (Nat.le_of_ble_eq_true rfl) ?_
  refine va_putF (D := D) (ci := 2) (v := .ref q_2) (ty := .array .int) (C := RX2) (T := TX2) (N := 12) hx hb hts inT_X2 tyX2 tyX2_ok nmX2 hown hK.1 hP hD hS 0 rfl rfl 2 (by decide) (hts _ k_327) (fun _ h9 => h9) rfl hin rfl (by decide +kernel) rfl rfl (Nat.le_of_ble_eq_true rfl) dX2_init_17 (fun H locs hP hD hS => ?_)
  have hP : va_P D vwCl [(b0, .inr (2, [.null, .ref q_1, .ref q_2, .null, .null, .null, .null, .null, .null, .null, .null, .null])), (q_1, .inl (cI, 24, .inl (fun _ => 0))), (q_2, .inl (cI, 24, .inl (fun _ => 0)))] H := hP
  have hD : va_D A [(b0, .inr (2, [.null, .ref q_1, .ref q_2, .null, .null, .null, .null, .null, .null, .null, .null, .null])), (q_1, .inl (cI, 24, .inl (fun _ => 0))), (q_2, .inl (cI, 24, .inl (fun _ => 0)))] := hD
  refine lv_aload_n hx hb dX2_init_20 rfl (lv_at hl 0 rfl) ?_
  refine lv_bipush (v := 24) hx hb dX2_init_21 (by decide) ?_
  refine nw_a (atype := .boolean) (ty := .boolean) (cA := cZ) (N' := 24) (a0 := (24, .inl (fun _ => 0))) hx hb (hts _ k_287) rfl hK.2.1.2.2.1 hP hD hS hA (fun _ => rfl) (by decide) (by decide) (Nat.le_of_ble_eq_true rfl) (Nat.le_of_ble_eq_true rfl) (Nat.le_of_ble_eq_true rfl) dX2_init_23 (fun q_3 H hP hD hS => ?_)
  have hP : va_P D vwCl [(b0, .inr (2, [.null, .ref q_1, .ref q_2, .null, .null, .null, .null, .null, .null, .null, .null, .null])), (q_1, .inl (cI, 24, .inl (fun _ => 0))), (q_2, .inl (cI, 24, .inl (fun _ => 0))), (q_3, .inl (cZ, 24, .inl (fun _ => 0)))] H := hP
  have hD : va_D A [(b0, .inr (2, [.null, .ref q_1, .ref q_2, .null, .null, .null, .null, .null, .null, .null, .null, .null])), (q_1, .inl (cI, 24, .inl (fun _ => 0))), (q_2, .inl (cI, 24, .inl (fun _ => 0))), (q_3, .inl (cZ, 24, .inl (fun _ => 0)))] := hD
  refine W.widen (k := 3) (n := 72) (Nat.le_of_ble_eq_true rfl) (Nat.le_of_ble_eq_true rfl) ?_
  refine va_putF (D := D) (ci := 2) (v := .ref q_3) (ty := .array .boolean) (C := RX2) (T := TX2) (N := 12) hx hb hts inT_X2 tyX2 tyX2_ok nmX2 hown hK.1 hP hD hS 0 rfl rfl 3 (by decide) (hts _ k_329) (fun _ h9 => h9) rfl hin rfl (by decide +kernel) rfl rfl (Nat.le_of_ble_eq_true rfl) dX2_init_25 (fun H locs hP hD hS => ?_)
  have hP : va_P D vwCl [(b0, .inr (2, [.null, .ref q_1, .ref q_2, .ref q_3, .null, .null, .null, .null, .null, .null, .null, .null])), (q_1, .inl (cI, 24, .inl (fun _ => 0))), (q_2, .inl (cI, 24, .inl (fun _ => 0))), (q_3, .inl (cZ, 24, .inl (fun _ => 0)))] H := hP
  have hD : va_D A [(b0, .inr (2, [.null, .ref q_1, .ref q_2, .ref q_3, .null, .null, .null, .null, .null, .null, .null, .null])), (q_1, .inl (cI, 24, .inl (fun _ => 0))), (q_2, .inl (cI, 24, .inl (fun _ => 0))), (q_3, .inl (cZ, 24, .inl (fun _ => 0)))] := hD
  refine lv_aload_n hx hb dX2_init_28 rfl (lv_at hl 0 rfl) ?_
  refine lv_sipush (v := 192) hx hb dX2_init_29 (by decide) ?_
  refine nw_a (atype := .int) (ty := .int) (cA := cI) (N' := 192) (a0 := (192, .inl (fun _ => 0))) hx hb (hts _ k_224) rfl hK.2.1.1 hP hD hS hA (fun _ => rfl) (by decide) (by decide) (Nat.le_of_ble_eq_true rfl) (Nat.le_of_ble_eq_true rfl) (Nat.le_of_ble_eq_true rfl) dX2_init_32 (fun q_4 H hP hD hS => ?_)
  have hP : va_P D vwCl [(b0, .inr (2, [.null, .ref q_1, .ref q_2, .ref q_3, .null, .null, .null, .null, .null, .null, .null, .null])), (q_1, .inl (cI, 24, .inl (fun _ => 0))), (q_2, .inl (cI, 24, .inl (fun _ => 0))), (q_3, .inl (cZ, 24, .inl (fun _ => 0))), (q_4, .inl (cI, 192, .inl (fun _ => 0)))] H := hP
  have hD : va_D A [(b0, .inr (2, [.null, .ref q_1, .ref q_2, .ref q_3, .null, .null, .null, .null, .null, .null, .null, .null])), (q_1, .inl (cI, 24, .inl (fun _ => 0))), (q_2, .inl (cI, 24, .inl (fun _ => 0))), (q_3, .inl (cZ, 24, .inl (fun _ => 0))), (q_4, .inl (cI, 192, .inl (fun _ => 0)))] := hD
  refine W.widen (k := 4) (n := 264) (Nat.le_of_ble_eq_true rfl) (Nat.le_of_ble_eq_true rfl) ?_
  refine va_putF (D := D) (ci := 2) (v := .ref q_4) (ty := .array .int) (C := RX2) (T := TX2) (N := 12) hx hb hts inT_X2 tyX2 tyX2_ok nmX2 hown hK.1 hP hD hS 0 rfl rfl 4 (by decide) (hts _ k_330) (fun _ h9 => h9) rfl hin rfl (by decide +kernel) rfl rfl (Nat.le_of_ble_eq_true rfl) dX2_init_34 (fun H locs hP hD hS => ?_)
  have hP : va_P D vwCl [(b0, .inr (2, [.null, .ref q_1, .ref q_2, .ref q_3, .ref q_4, .null, .null, .null, .null, .null, .null, .null])), (q_1, .inl (cI, 24, .inl (fun _ => 0))), (q_2, .inl (cI, 24, .inl (fun _ => 0))), (q_3, .inl (cZ, 24, .inl (fun _ => 0))), (q_4, .inl (cI, 192, .inl (fun _ => 0)))] H := hP
  have hD : va_D A [(b0, .inr (2, [.null, .ref q_1, .ref q_2, .ref q_3, .ref q_4, .null, .null, .null, .null, .null, .null, .null])), (q_1, .inl (cI, 24, .inl (fun _ => 0))), (q_2, .inl (cI, 24, .inl (fun _ => 0))), (q_3, .inl (cZ, 24, .inl (fun _ => 0))), (q_4, .inl (cI, 192, .inl (fun _ => 0)))] := hD
  refine lv_aload_n hx hb dX2_init_37 rfl (lv_at hl 0 rfl) ?_
  refine lv_bipush (v := 8) hx hb dX2_init_38 (by decide) ?_
  refine nw_a (atype := .long) (ty := .long) (cA := cJ) (N' := 8) (a0 := (8, .inr (.inl (fun _ => 0)))) hx hb (hts _ k_364) rfl hK.2.1.2.2.2 hP hD hS hA (fun _ => rfl) (by decide) (by decide) (Nat.le_of_ble_eq_true rfl) (Nat.le_of_ble_eq_true rfl) (Nat.le_of_ble_eq_true rfl) dX2_init_40 (fun q_5 H hP hD hS => ?_)
  have hP : va_P D vwCl [(b0, .inr (2, [.null, .ref q_1, .ref q_2, .ref q_3, .ref q_4, .null, .null, .null, .null, .null, .null, .null])), (q_1, .inl (cI, 24, .inl (fun _ => 0))), (q_2, .inl (cI, 24, .inl (fun _ => 0))), (q_3, .inl (cZ, 24, .inl (fun _ => 0))), (q_4, .inl (cI, 192, .inl (fun _ => 0))), (q_5, .inl (cJ, 8, .inr (.inl (fun _ => 0))))] H := hP
  have hD : va_D A [(b0, .inr (2, [.null, .ref q_1, .ref q_2, .ref q_3, .ref q_4, .null, .null, .null, .null, .null, .null, .null])), (q_1, .inl (cI, 24, .inl (fun _ => 0))), (q_2, .inl (cI, 24, .inl (fun _ => 0))), (q_3, .inl (cZ, 24, .inl (fun _ => 0))), (q_4, .inl (cI, 192, .inl (fun _ => 0))), (q_5, .inl (cJ, 8, .inr (.inl (fun _ => 0))))] := hD
  refine W.widen (k := 5) (n := 272) (Nat.le_of_ble_eq_true rfl) (Nat.le_of_ble_eq_true rfl) ?_
  refine va_putF (D := D) (ci := 2) (v := .ref q_5) (ty := .array .long) (C := RX2) (T := TX2) (N := 12) hx hb hts inT_X2 tyX2 tyX2_ok nmX2 hown hK.1 hP hD hS 0 rfl rfl 5 (by decide) (hts _ k_331) (fun _ h9 => h9) rfl hin rfl (by decide +kernel) rfl rfl (Nat.le_of_ble_eq_true rfl) dX2_init_42 (fun H locs hP hD hS => ?_)
  have hP : va_P D vwCl [(b0, .inr (2, [.null, .ref q_1, .ref q_2, .ref q_3, .ref q_4, .ref q_5, .null, .null, .null, .null, .null, .null])), (q_1, .inl (cI, 24, .inl (fun _ => 0))), (q_2, .inl (cI, 24, .inl (fun _ => 0))), (q_3, .inl (cZ, 24, .inl (fun _ => 0))), (q_4, .inl (cI, 192, .inl (fun _ => 0))), (q_5, .inl (cJ, 8, .inr (.inl (fun _ => 0))))] H := hP
  have hD : va_D A [(b0, .inr (2, [.null, .ref q_1, .ref q_2, .ref q_3, .ref q_4, .ref q_5, .null, .null, .null, .null, .null, .null])), (q_1, .inl (cI, 24, .inl (fun _ => 0))), (q_2, .inl (cI, 24, .inl (fun _ => 0))), (q_3, .inl (cZ, 24, .inl (fun _ => 0))), (q_4, .inl (cI, 192, .inl (fun _ => 0))), (q_5, .inl (cJ, 8, .inr (.inl (fun _ => 0))))] := hD
  refine lv_aload_n hx hb dX2_init_45 rfl (lv_at hl 0 rfl) ?_
  refine lv_bipush (v := 8) hx hb dX2_init_46 (by decide) ?_
  refine nw_a (atype := .boolean) (ty := .boolean) (cA := cZ) (N' := 8) (a0 := (8, .inl (fun _ => 0))) hx hb (hts _ k_287) rfl hK.2.1.2.2.1 hP hD hS hA (fun _ => rfl) (by decide) (by decide) (Nat.le_of_ble_eq_true rfl) (Nat.le_of_ble_eq_true rfl) (Nat.le_of_ble_eq_true rfl) dX2_init_48 (fun q_6 H hP hD hS => ?_)
  have hP : va_P D vwCl [(b0, .inr (2, [.null, .ref q_1, .ref q_2, .ref q_3, .ref q_4, .ref q_5, .null, .null, .null, .null, .null, .null])), (q_1, .inl (cI, 24, .inl (fun _ => 0))), (q_2, .inl (cI, 24, .inl (fun _ => 0))), (q_3, .inl (cZ, 24, .inl (fun _ => 0))), (q_4, .inl (cI, 192, .inl (fun _ => 0))), (q_5, .inl (cJ, 8, .inr (.inl (fun _ => 0)))), (q_6, .inl (cZ, 8, .inl (fun _ => 0)))] H := hP
  have hD : va_D A [(b0, .inr (2, [.null, .ref q_1, .ref q_2, .ref q_3, .ref q_4, .ref q_5, .null, .null, .null, .null, .null, .null])), (q_1, .inl (cI, 24, .inl (fun _ => 0))), (q_2, .inl (cI, 24, .inl (fun _ => 0))), (q_3, .inl (cZ, 24, .inl (fun _ => 0))), (q_4, .inl (cI, 192, .inl (fun _ => 0))), (q_5, .inl (cJ, 8, .inr (.inl (fun _ => 0)))), (q_6, .inl (cZ, 8, .inl (fun _ => 0)))] := hD
  refine W.widen (k := 6) (n := 280) (Nat.le_of_ble_eq_true rfl) (Nat.le_of_ble_eq_true rfl) ?_
  refine va_putF (D := D) (ci := 2) (v := .ref q_6) (ty := .array .boolean) (C := RX2) (T := TX2) (N := 12) hx hb hts inT_X2 tyX2 tyX2_ok nmX2 hown hK.1 hP hD hS 0 rfl rfl 6 (by decide) (hts _ k_333) (fun _ h9 => h9) rfl hin rfl (by decide +kernel) rfl rfl (Nat.le_of_ble_eq_true rfl) dX2_init_50 (fun H locs hP hD hS => ?_)
  have hP : va_P D vwCl [(b0, .inr (2, [.null, .ref q_1, .ref q_2, .ref q_3, .ref q_4, .ref q_5, .ref q_6, .null, .null, .null, .null, .null])), (q_1, .inl (cI, 24, .inl (fun _ => 0))), (q_2, .inl (cI, 24, .inl (fun _ => 0))), (q_3, .inl (cZ, 24, .inl (fun _ => 0))), (q_4, .inl (cI, 192, .inl (fun _ => 0))), (q_5, .inl (cJ, 8, .inr (.inl (fun _ => 0)))), (q_6, .inl (cZ, 8, .inl (fun _ => 0)))] H := hP
  have hD : va_D A [(b0, .inr (2, [.null, .ref q_1, .ref q_2, .ref q_3, .ref q_4, .ref q_5, .ref q_6, .null, .null, .null, .null, .null])), (q_1, .inl (cI, 24, .inl (fun _ => 0))), (q_2, .inl (cI, 24, .inl (fun _ => 0))), (q_3, .inl (cZ, 24, .inl (fun _ => 0))), (q_4, .inl (cI, 192, .inl (fun _ => 0))), (q_5, .inl (cJ, 8, .inr (.inl (fun _ => 0)))), (q_6, .inl (cZ, 8, .inl (fun _ => 0)))] := hD
  refine lv_aload_n hx hb dX2_init_53 rfl (lv_at hl 0 rfl) ?_
  refine lv_bipush (v := 8) hx hb dX2_init_54 (by decide) ?_
  refine nw_a (atype := .int) (ty := .int) (cA := cI) (N' := 8) (a0 := (8, .inl (fun _ => 0))) hx hb (hts _ k_224) rfl hK.2.1.1 hP hD hS hA (fun _ => rfl) (by decide) (by decide) (Nat.le_of_ble_eq_true rfl) (Nat.le_of_ble_eq_true rfl) (Nat.le_of_ble_eq_true rfl) dX2_init_56 (fun q_7 H hP hD hS => ?_)
  have hP : va_P D vwCl [(b0, .inr (2, [.null, .ref q_1, .ref q_2, .ref q_3, .ref q_4, .ref q_5, .ref q_6, .null, .null, .null, .null, .null])), (q_1, .inl (cI, 24, .inl (fun _ => 0))), (q_2, .inl (cI, 24, .inl (fun _ => 0))), (q_3, .inl (cZ, 24, .inl (fun _ => 0))), (q_4, .inl (cI, 192, .inl (fun _ => 0))), (q_5, .inl (cJ, 8, .inr (.inl (fun _ => 0)))), (q_6, .inl (cZ, 8, .inl (fun _ => 0))), (q_7, .inl (cI, 8, .inl (fun _ => 0)))] H := hP
  have hD : va_D A [(b0, .inr (2, [.null, .ref q_1, .ref q_2, .ref q_3, .ref q_4, .ref q_5, .ref q_6, .null, .null, .null, .null, .null])), (q_1, .inl (cI, 24, .inl (fun _ => 0))), (q_2, .inl (cI, 24, .inl (fun _ => 0))), (q_3, .inl (cZ, 24, .inl (fun _ => 0))), (q_4, .inl (cI, 192, .inl (fun _ => 0))), (q_5, .inl (cJ, 8, .inr (.inl (fun _ => 0)))), (q_6, .inl (cZ, 8, .inl (fun _ => 0))), (q_7, .inl (cI, 8, .inl (fun _ => 0)))] := hD
  refine W.widen (k := 7) (n := 288) (Nat.le_of_ble_eq_true rfl) (Nat.le_of_ble_eq_true rfl) ?_
  refine va_putF (D := D) (ci := 2) (v := .ref q_7) (ty := .array .int) (C := RX2) (T := TX2) (N := 12) hx hb hts inT_X2 tyX2 tyX2_ok nmX2 hown hK.1 hP hD hS 0 rfl rfl 7 (by decide) (hts _ k_334) (fun _ h9 => h9) rfl hin rfl (by decide +kernel) rfl rfl (Nat.le_of_ble_eq_true rfl) dX2_init_58 (fun H locs hP hD hS => ?_)
  have hP : va_P D vwCl [(b0, .inr (2, [.null, .ref q_1, .ref q_2, .ref q_3, .ref q_4, .ref q_5, .ref q_6, .ref q_7, .null, .null, .null, .null])), (q_1, .inl (cI, 24, .inl (fun _ => 0))), (q_2, .inl (cI, 24, .inl (fun _ => 0))), (q_3, .inl (cZ, 24, .inl (fun _ => 0))), (q_4, .inl (cI, 192, .inl (fun _ => 0))), (q_5, .inl (cJ, 8, .inr (.inl (fun _ => 0)))), (q_6, .inl (cZ, 8, .inl (fun _ => 0))), (q_7, .inl (cI, 8, .inl (fun _ => 0)))] H := hP
  have hD : va_D A [(b0, .inr (2, [.null, .ref q_1, .ref q_2, .ref q_3, .ref q_4, .ref q_5, .ref q_6, .ref q_7, .null, .null, .null, .null])), (q_1, .inl (cI, 24, .inl (fun _ => 0))), (q_2, .inl (cI, 24, .inl (fun _ => 0))), (q_3, .inl (cZ, 24, .inl (fun _ => 0))), (q_4, .inl (cI, 192, .inl (fun _ => 0))), (q_5, .inl (cJ, 8, .inr (.inl (fun _ => 0)))), (q_6, .inl (cZ, 8, .inl (fun _ => 0))), (q_7, .inl (cI, 8, .inl (fun _ => 0)))] := hD
  refine lv_aload_n hx hb dX2_init_61 rfl (lv_at hl 0 rfl) ?_
  refine lv_bipush (v := 8) hx hb dX2_init_62 (by decide) ?_
  refine nw_a (atype := .int) (ty := .int) (cA := cI) (N' := 8) (a0 := (8, .inl (fun _ => 0))) hx hb (hts _ k_224) rfl hK.2.1.1 hP hD hS hA (fun _ => rfl) (by decide) (by decide) (Nat.le_of_ble_eq_true rfl) (Nat.le_of_ble_eq_true rfl) (Nat.le_of_ble_eq_true rfl) dX2_init_64 (fun q_8 H hP hD hS => ?_)
  have hP : va_P D vwCl [(b0, .inr (2, [.null, .ref q_1, .ref q_2, .ref q_3, .ref q_4, .ref q_5, .ref q_6, .ref q_7, .null, .null, .null, .null])), (q_1, .inl (cI, 24, .inl (fun _ => 0))), (q_2, .inl (cI, 24, .inl (fun _ => 0))), (q_3, .inl (cZ, 24, .inl (fun _ => 0))), (q_4, .inl (cI, 192, .inl (fun _ => 0))), (q_5, .inl (cJ, 8, .inr (.inl (fun _ => 0)))), (q_6, .inl (cZ, 8, .inl (fun _ => 0))), (q_7, .inl (cI, 8, .inl (fun _ => 0))), (q_8, .inl (cI, 8, .inl (fun _ => 0)))] H := hP
  have hD : va_D A [(b0, .inr (2, [.null, .ref q_1, .ref q_2, .ref q_3, .ref q_4, .ref q_5, .ref q_6, .ref q_7, .null, .null, .null, .null])), (q_1, .inl (cI, 24, .inl (fun _ => 0))), (q_2, .inl (cI, 24, .inl (fun _ => 0))), (q_3, .inl (cZ, 24, .inl (fun _ => 0))), (q_4, .inl (cI, 192, .inl (fun _ => 0))), (q_5, .inl (cJ, 8, .inr (.inl (fun _ => 0)))), (q_6, .inl (cZ, 8, .inl (fun _ => 0))), (q_7, .inl (cI, 8, .inl (fun _ => 0))), (q_8, .inl (cI, 8, .inl (fun _ => 0)))] := hD
  refine W.widen (k := 8) (n := 296) (Nat.le_of_ble_eq_true rfl) (Nat.le_of_ble_eq_true rfl) ?_
  refine va_putF (D := D) (ci := 2) (v := .ref q_8) (ty := .array .int) (C := RX2) (T := TX2) (N := 12) hx hb hts inT_X2 tyX2 tyX2_ok nmX2 hown hK.1 hP hD hS 0 rfl rfl 8 (by decide) (hts _ k_335) (fun _ h9 => h9) rfl hin rfl (by decide +kernel) rfl rfl (Nat.le_of_ble_eq_true rfl) dX2_init_66 (fun H locs hP hD hS => ?_)
  have hP : va_P D vwCl [(b0, .inr (2, [.null, .ref q_1, .ref q_2, .ref q_3, .ref q_4, .ref q_5, .ref q_6, .ref q_7, .ref q_8, .null, .null, .null])), (q_1, .inl (cI, 24, .inl (fun _ => 0))), (q_2, .inl (cI, 24, .inl (fun _ => 0))), (q_3, .inl (cZ, 24, .inl (fun _ => 0))), (q_4, .inl (cI, 192, .inl (fun _ => 0))), (q_5, .inl (cJ, 8, .inr (.inl (fun _ => 0)))), (q_6, .inl (cZ, 8, .inl (fun _ => 0))), (q_7, .inl (cI, 8, .inl (fun _ => 0))), (q_8, .inl (cI, 8, .inl (fun _ => 0)))] H := hP
  have hD : va_D A [(b0, .inr (2, [.null, .ref q_1, .ref q_2, .ref q_3, .ref q_4, .ref q_5, .ref q_6, .ref q_7, .ref q_8, .null, .null, .null])), (q_1, .inl (cI, 24, .inl (fun _ => 0))), (q_2, .inl (cI, 24, .inl (fun _ => 0))), (q_3, .inl (cZ, 24, .inl (fun _ => 0))), (q_4, .inl (cI, 192, .inl (fun _ => 0))), (q_5, .inl (cJ, 8, .inr (.inl (fun _ => 0)))), (q_6, .inl (cZ, 8, .inl (fun _ => 0))), (q_7, .inl (cI, 8, .inl (fun _ => 0))), (q_8, .inl (cI, 8, .inl (fun _ => 0)))] := hD
  refine lv_aload_n hx hb dX2_init_69 rfl (lv_at hl 0 rfl) ?_
  refine lv_ldc (v := 81862) hx hb hown (hts _ k_323) dX2_init_70 ?_
  refine nw_a (atype := .byte) (ty := .byte) (cA := cB) (N' := 81862) (a0 := (81862, .inl (fun _ => 0))) hx hb (hts _ k_158) rfl hK.2.1.2.1 hP hD hS hA (fun _ => rfl) (by decide) (by decide) (Nat.le_of_ble_eq_true rfl) (Nat.le_of_ble_eq_true rfl) (Nat.le_of_ble_eq_true rfl) dX2_init_72 (fun q_9 H hP hD hS => ?_)
  have hP : va_P D vwCl [(b0, .inr (2, [.null, .ref q_1, .ref q_2, .ref q_3, .ref q_4, .ref q_5, .ref q_6, .ref q_7, .ref q_8, .null, .null, .null])), (q_1, .inl (cI, 24, .inl (fun _ => 0))), (q_2, .inl (cI, 24, .inl (fun _ => 0))), (q_3, .inl (cZ, 24, .inl (fun _ => 0))), (q_4, .inl (cI, 192, .inl (fun _ => 0))), (q_5, .inl (cJ, 8, .inr (.inl (fun _ => 0)))), (q_6, .inl (cZ, 8, .inl (fun _ => 0))), (q_7, .inl (cI, 8, .inl (fun _ => 0))), (q_8, .inl (cI, 8, .inl (fun _ => 0))), (q_9, .inl (cB, 81862, .inl (fun _ => 0)))] H := hP
  have hD : va_D A [(b0, .inr (2, [.null, .ref q_1, .ref q_2, .ref q_3, .ref q_4, .ref q_5, .ref q_6, .ref q_7, .ref q_8, .null, .null, .null])), (q_1, .inl (cI, 24, .inl (fun _ => 0))), (q_2, .inl (cI, 24, .inl (fun _ => 0))), (q_3, .inl (cZ, 24, .inl (fun _ => 0))), (q_4, .inl (cI, 192, .inl (fun _ => 0))), (q_5, .inl (cJ, 8, .inr (.inl (fun _ => 0)))), (q_6, .inl (cZ, 8, .inl (fun _ => 0))), (q_7, .inl (cI, 8, .inl (fun _ => 0))), (q_8, .inl (cI, 8, .inl (fun _ => 0))), (q_9, .inl (cB, 81862, .inl (fun _ => 0)))] := hD
  refine W.widen (k := 9) (n := 82158) (Nat.le_of_ble_eq_true rfl) (Nat.le_of_ble_eq_true rfl) ?_
  refine va_putF (D := D) (ci := 2) (v := .ref q_9) (ty := .array .byte) (C := RX2) (T := TX2) (N := 12) hx hb hts inT_X2 tyX2 tyX2_ok nmX2 hown hK.1 hP hD hS 0 rfl rfl 9 (by decide) (hts _ k_336) (fun _ h9 => h9) rfl hin rfl (by decide +kernel) rfl rfl (Nat.le_of_ble_eq_true rfl) dX2_init_74 (fun H locs hP hD hS => ?_)
  have hP : va_P D vwCl [(b0, .inr (2, [.null, .ref q_1, .ref q_2, .ref q_3, .ref q_4, .ref q_5, .ref q_6, .ref q_7, .ref q_8, .ref q_9, .null, .null])), (q_1, .inl (cI, 24, .inl (fun _ => 0))), (q_2, .inl (cI, 24, .inl (fun _ => 0))), (q_3, .inl (cZ, 24, .inl (fun _ => 0))), (q_4, .inl (cI, 192, .inl (fun _ => 0))), (q_5, .inl (cJ, 8, .inr (.inl (fun _ => 0)))), (q_6, .inl (cZ, 8, .inl (fun _ => 0))), (q_7, .inl (cI, 8, .inl (fun _ => 0))), (q_8, .inl (cI, 8, .inl (fun _ => 0))), (q_9, .inl (cB, 81862, .inl (fun _ => 0)))] H := hP
  have hD : va_D A [(b0, .inr (2, [.null, .ref q_1, .ref q_2, .ref q_3, .ref q_4, .ref q_5, .ref q_6, .ref q_7, .ref q_8, .ref q_9, .null, .null])), (q_1, .inl (cI, 24, .inl (fun _ => 0))), (q_2, .inl (cI, 24, .inl (fun _ => 0))), (q_3, .inl (cZ, 24, .inl (fun _ => 0))), (q_4, .inl (cI, 192, .inl (fun _ => 0))), (q_5, .inl (cJ, 8, .inr (.inl (fun _ => 0)))), (q_6, .inl (cZ, 8, .inl (fun _ => 0))), (q_7, .inl (cI, 8, .inl (fun _ => 0))), (q_8, .inl (cI, 8, .inl (fun _ => 0))), (q_9, .inl (cB, 81862, .inl (fun _ => 0)))] := hD
  refine lv_aload_n hx hb dX2_init_77 rfl (lv_at hl 0 rfl) ?_
  refine lv_sipush (v := 3721) hx hb dX2_init_78 (by decide) ?_
  refine nw_a (atype := .long) (ty := .long) (cA := cJ) (N' := 3721) (a0 := (3721, .inr (.inl (fun _ => 0)))) hx hb (hts _ k_364) rfl hK.2.1.2.2.2 hP hD hS hA (fun _ => rfl) (by decide) (by decide) (Nat.le_of_ble_eq_true rfl) (Nat.le_of_ble_eq_true rfl) (Nat.le_of_ble_eq_true rfl) dX2_init_81 (fun q_10 H hP hD hS => ?_)
  have hP : va_P D vwCl [(b0, .inr (2, [.null, .ref q_1, .ref q_2, .ref q_3, .ref q_4, .ref q_5, .ref q_6, .ref q_7, .ref q_8, .ref q_9, .null, .null])), (q_1, .inl (cI, 24, .inl (fun _ => 0))), (q_2, .inl (cI, 24, .inl (fun _ => 0))), (q_3, .inl (cZ, 24, .inl (fun _ => 0))), (q_4, .inl (cI, 192, .inl (fun _ => 0))), (q_5, .inl (cJ, 8, .inr (.inl (fun _ => 0)))), (q_6, .inl (cZ, 8, .inl (fun _ => 0))), (q_7, .inl (cI, 8, .inl (fun _ => 0))), (q_8, .inl (cI, 8, .inl (fun _ => 0))), (q_9, .inl (cB, 81862, .inl (fun _ => 0))), (q_10, .inl (cJ, 3721, .inr (.inl (fun _ => 0))))] H := hP
  have hD : va_D A [(b0, .inr (2, [.null, .ref q_1, .ref q_2, .ref q_3, .ref q_4, .ref q_5, .ref q_6, .ref q_7, .ref q_8, .ref q_9, .null, .null])), (q_1, .inl (cI, 24, .inl (fun _ => 0))), (q_2, .inl (cI, 24, .inl (fun _ => 0))), (q_3, .inl (cZ, 24, .inl (fun _ => 0))), (q_4, .inl (cI, 192, .inl (fun _ => 0))), (q_5, .inl (cJ, 8, .inr (.inl (fun _ => 0)))), (q_6, .inl (cZ, 8, .inl (fun _ => 0))), (q_7, .inl (cI, 8, .inl (fun _ => 0))), (q_8, .inl (cI, 8, .inl (fun _ => 0))), (q_9, .inl (cB, 81862, .inl (fun _ => 0))), (q_10, .inl (cJ, 3721, .inr (.inl (fun _ => 0))))] := hD
  refine W.widen (k := 10) (n := 85879) (Nat.le_of_ble_eq_true rfl) (Nat.le_of_ble_eq_true rfl) ?_
  refine va_put (D := D) (ci := 2) (v := .ref q_10) (ty := .array .long) (C := RX2) (T := TX2) (N := 12) hx hb hts inT_X2 tyX2 tyX2_ok nmX2 hown hK.1 hP hD hS 0 rfl rfl 10 (by decide) (hts _ k_337) (fun _ h9 => h9) rfl (by decide +kernel) rfl rfl (Nat.le_of_ble_eq_true rfl) dX2_init_83 (fun H locs hP hD hS => ?_)
  have hP : va_P D vwCl [(b0, .inr (2, [.null, .ref q_1, .ref q_2, .ref q_3, .ref q_4, .ref q_5, .ref q_6, .ref q_7, .ref q_8, .ref q_9, .ref q_10, .null])), (q_1, .inl (cI, 24, .inl (fun _ => 0))), (q_2, .inl (cI, 24, .inl (fun _ => 0))), (q_3, .inl (cZ, 24, .inl (fun _ => 0))), (q_4, .inl (cI, 192, .inl (fun _ => 0))), (q_5, .inl (cJ, 8, .inr (.inl (fun _ => 0)))), (q_6, .inl (cZ, 8, .inl (fun _ => 0))), (q_7, .inl (cI, 8, .inl (fun _ => 0))), (q_8, .inl (cI, 8, .inl (fun _ => 0))), (q_9, .inl (cB, 81862, .inl (fun _ => 0))), (q_10, .inl (cJ, 3721, .inr (.inl (fun _ => 0))))] H := hP
  have hD : va_D A [(b0, .inr (2, [.null, .ref q_1, .ref q_2, .ref q_3, .ref q_4, .ref q_5, .ref q_6, .ref q_7, .ref q_8, .ref q_9, .ref q_10, .null])), (q_1, .inl (cI, 24, .inl (fun _ => 0))), (q_2, .inl (cI, 24, .inl (fun _ => 0))), (q_3, .inl (cZ, 24, .inl (fun _ => 0))), (q_4, .inl (cI, 192, .inl (fun _ => 0))), (q_5, .inl (cJ, 8, .inr (.inl (fun _ => 0)))), (q_6, .inl (cZ, 8, .inl (fun _ => 0))), (q_7, .inl (cI, 8, .inl (fun _ => 0))), (q_8, .inl (cI, 8, .inl (fun _ => 0))), (q_9, .inl (cB, 81862, .inl (fun _ => 0))), (q_10, .inl (cJ, 3721, .inr (.inl (fun _ => 0))))] := hD
  refine lv_aload_n hx hb dX2_init_86 rfl (lv_at hl 0 rfl) ?_
  refine lv_sipush (v := 3721) hx hb dX2_init_87 (by decide) ?_
  refine nw_a (atype := .long) (ty := .long) (cA := cJ) (N' := 3721) (a0 := (3721, .inr (.inl (fun _ => 0)))) hx hb (hts _ k_364) rfl hK.2.1.2.2.2 hP hD hS hA (fun _ => rfl) (by decide) (by decide) (Nat.le_of_ble_eq_true rfl) (Nat.le_of_ble_eq_true rfl) (Nat.le_of_ble_eq_true rfl) dX2_init_90 (fun q_11 H hP hD hS => ?_)
  have hP : va_P D vwCl [(b0, .inr (2, [.null, .ref q_1, .ref q_2, .ref q_3, .ref q_4, .ref q_5, .ref q_6, .ref q_7, .ref q_8, .ref q_9, .ref q_10, .null])), (q_1, .inl (cI, 24, .inl (fun _ => 0))), (q_2, .inl (cI, 24, .inl (fun _ => 0))), (q_3, .inl (cZ, 24, .inl (fun _ => 0))), (q_4, .inl (cI, 192, .inl (fun _ => 0))), (q_5, .inl (cJ, 8, .inr (.inl (fun _ => 0)))), (q_6, .inl (cZ, 8, .inl (fun _ => 0))), (q_7, .inl (cI, 8, .inl (fun _ => 0))), (q_8, .inl (cI, 8, .inl (fun _ => 0))), (q_9, .inl (cB, 81862, .inl (fun _ => 0))), (q_10, .inl (cJ, 3721, .inr (.inl (fun _ => 0)))), (q_11, .inl (cJ, 3721, .inr (.inl (fun _ => 0))))] H := hP
  have hD : va_D A [(b0, .inr (2, [.null, .ref q_1, .ref q_2, .ref q_3, .ref q_4, .ref q_5, .ref q_6, .ref q_7, .ref q_8, .ref q_9, .ref q_10, .null])), (q_1, .inl (cI, 24, .inl (fun _ => 0))), (q_2, .inl (cI, 24, .inl (fun _ => 0))), (q_3, .inl (cZ, 24, .inl (fun _ => 0))), (q_4, .inl (cI, 192, .inl (fun _ => 0))), (q_5, .inl (cJ, 8, .inr (.inl (fun _ => 0)))), (q_6, .inl (cZ, 8, .inl (fun _ => 0))), (q_7, .inl (cI, 8, .inl (fun _ => 0))), (q_8, .inl (cI, 8, .inl (fun _ => 0))), (q_9, .inl (cB, 81862, .inl (fun _ => 0))), (q_10, .inl (cJ, 3721, .inr (.inl (fun _ => 0)))), (q_11, .inl (cJ, 3721, .inr (.inl (fun _ => 0))))] := hD
  refine W.widen (k := 11) (n := 89600) (Nat.le_of_ble_eq_true rfl) (Nat.le_of_ble_eq_true rfl) ?_
  refine va_put (D := D) (ci := 2) (v := .ref q_11) (ty := .array .long) (C := RX2) (T := TX2) (N := 12) hx hb hts inT_X2 tyX2 tyX2_ok nmX2 hown hK.1 hP hD hS 0 rfl rfl 11 (by decide) (hts _ k_338) (fun _ h9 => h9) rfl (by decide +kernel) rfl rfl (Nat.le_of_ble_eq_true rfl) dX2_init_92 (fun H locs hP hD hS => ?_)
  have hP : va_P D vwCl [(b0, .inr (2, [.null, .ref q_1, .ref q_2, .ref q_3, .ref q_4, .ref q_5, .ref q_6, .ref q_7, .ref q_8, .ref q_9, .ref q_10, .ref q_11])), (q_1, .inl (cI, 24, .inl (fun _ => 0))), (q_2, .inl (cI, 24, .inl (fun _ => 0))), (q_3, .inl (cZ, 24, .inl (fun _ => 0))), (q_4, .inl (cI, 192, .inl (fun _ => 0))), (q_5, .inl (cJ, 8, .inr (.inl (fun _ => 0)))), (q_6, .inl (cZ, 8, .inl (fun _ => 0))), (q_7, .inl (cI, 8, .inl (fun _ => 0))), (q_8, .inl (cI, 8, .inl (fun _ => 0))), (q_9, .inl (cB, 81862, .inl (fun _ => 0))), (q_10, .inl (cJ, 3721, .inr (.inl (fun _ => 0)))), (q_11, .inl (cJ, 3721, .inr (.inl (fun _ => 0))))] H := hP
  have hD : va_D A [(b0, .inr (2, [.null, .ref q_1, .ref q_2, .ref q_3, .ref q_4, .ref q_5, .ref q_6, .ref q_7, .ref q_8, .ref q_9, .ref q_10, .ref q_11])), (q_1, .inl (cI, 24, .inl (fun _ => 0))), (q_2, .inl (cI, 24, .inl (fun _ => 0))), (q_3, .inl (cZ, 24, .inl (fun _ => 0))), (q_4, .inl (cI, 192, .inl (fun _ => 0))), (q_5, .inl (cJ, 8, .inr (.inl (fun _ => 0)))), (q_6, .inl (cZ, 8, .inl (fun _ => 0))), (q_7, .inl (cI, 8, .inl (fun _ => 0))), (q_8, .inl (cI, 8, .inl (fun _ => 0))), (q_9, .inl (cB, 81862, .inl (fun _ => 0))), (q_10, .inl (cJ, 3721, .inr (.inl (fun _ => 0)))), (q_11, .inl (cJ, 3721, .inr (.inl (fun _ => 0))))] := hD
  refine lv_aload_n hx hb dX2_init_95 rfl (lv_at hl 0 rfl) ?_
  refine lv_aload_n hx hb dX2_init_96 rfl (lv_at hl 1 rfl) ?_
  refine va_putF (D := D) (ci := 2) (v := .ref c0) (ty := .object "NailStain$Ship") (C := RX2) (T := TX2) (N := 12) hx hb hts inT_X2 tyX2 tyX2_ok nmX2 hown hK.1 hP hD hS 0 rfl rfl 0 (by decide) (hts _ k_324) (fun _ h9 => h9) rfl hin rfl (by decide +kernel) rfl rfl (Nat.le_of_ble_eq_true rfl) dX2_init_97 (fun H locs hP hD hS => ?_)
  have hP : va_P D vwCl [(b0, .inr (2, [.ref c0, .ref q_1, .ref q_2, .ref q_3, .ref q_4, .ref q_5, .ref q_6, .ref q_7, .ref q_8, .ref q_9, .ref q_10, .ref q_11])), (q_1, .inl (cI, 24, .inl (fun _ => 0))), (q_2, .inl (cI, 24, .inl (fun _ => 0))), (q_3, .inl (cZ, 24, .inl (fun _ => 0))), (q_4, .inl (cI, 192, .inl (fun _ => 0))), (q_5, .inl (cJ, 8, .inr (.inl (fun _ => 0)))), (q_6, .inl (cZ, 8, .inl (fun _ => 0))), (q_7, .inl (cI, 8, .inl (fun _ => 0))), (q_8, .inl (cI, 8, .inl (fun _ => 0))), (q_9, .inl (cB, 81862, .inl (fun _ => 0))), (q_10, .inl (cJ, 3721, .inr (.inl (fun _ => 0)))), (q_11, .inl (cJ, 3721, .inr (.inl (fun _ => 0))))] H := hP
  have hD : va_D A [(b0, .inr (2, [.ref c0, .ref q_1, .ref q_2, .ref q_3, .ref q_4, .ref q_5, .ref q_6, .ref q_7, .ref q_8, .ref q_9, .ref q_10, .ref q_11])), (q_1, .inl (cI, 24, .inl (fun _ => 0))), (q_2, .inl (cI, 24, .inl (fun _ => 0))), (q_3, .inl (cZ, 24, .inl (fun _ => 0))), (q_4, .inl (cI, 192, .inl (fun _ => 0))), (q_5, .inl (cJ, 8, .inr (.inl (fun _ => 0)))), (q_6, .inl (cZ, 8, .inl (fun _ => 0))), (q_7, .inl (cI, 8, .inl (fun _ => 0))), (q_8, .inl (cI, 8, .inl (fun _ => 0))), (q_9, .inl (cB, 81862, .inl (fun _ => 0))), (q_10, .inl (cJ, 3721, .inr (.inl (fun _ => 0)))), (q_11, .inl (cJ, 3721, .inr (.inl (fun _ => 0))))] := hD
  refine W.widen (k := 11) (n := 89600) (Nat.le_of_ble_eq_true rfl) (Nat.le_of_ble_eq_true rfl) ?_
  have hP := hP.sub (ws' := [(b0, .inr (2, [.ref c0, .ref q_1, .ref q_2, .ref q_3, .ref q_4, .ref q_5, .ref q_6, .ref q_7, .ref q_8, .ref q_9, .ref q_10, .ref q_11])), (q_1, .inl (cI, 24, .inl (fun _ => 0))), (q_2, .inl (cI, 24, .inl (fun _ => 0))), (q_3, .inl (cZ, 24, .inl (fun _ => 0))), (q_4, .inl (cI, 192, .inl (fun _ => 0))), (q_5, .inl (cJ, 8, .inr (.inl (fun _ => 0)))), (q_6, .inl (cZ, 8, .inl (fun _ => 0))), (q_7, .inl (cI, 8, .inl (fun _ => 0))), (q_8, .inl (cI, 8, .inl (fun _ => 0))), (q_9, .inl (cB, 81862, .inl (fun _ => 0))), (q_10, .inl (cJ, 3721, .inr (.inl (fun _ => 0)))), (q_11, .inl (cJ, 3721, .inr (.inl (fun _ => 0))))]) [0, 1, 2, 3, 4, 5, 6, 7, 8, 9, 10, 11] rfl
  have hD := hD.sub (ws' := [(b0, .inr (2, [.ref c0, .ref q_1, .ref q_2, .ref q_3, .ref q_4, .ref q_5, .ref q_6, .ref q_7, .ref q_8, .ref q_9, .ref q_10, .ref q_11])), (q_1, .inl (cI, 24, .inl (fun _ => 0))), (q_2, .inl (cI, 24, .inl (fun _ => 0))), (q_3, .inl (cZ, 24, .inl (fun _ => 0))), (q_4, .inl (cI, 192, .inl (fun _ => 0))), (q_5, .inl (cJ, 8, .inr (.inl (fun _ => 0)))), (q_6, .inl (cZ, 8, .inl (fun _ => 0))), (q_7, .inl (cI, 8, .inl (fun _ => 0))), (q_8, .inl (cI, 8, .inl (fun _ => 0))), (q_9, .inl (cB, 81862, .inl (fun _ => 0))), (q_10, .inl (cJ, 3721, .inr (.inl (fun _ => 0)))), (q_11, .inl (cJ, 3721, .inr (.inl (fun _ => 0))))]) [0, 1, 2, 3, 4, 5, 6, 7, 8, 9, 10, 11] (by decide) rfl
  exact W.vret hx hb hr (fun tt9 ht hW => ⟨⟨(fun j => ([q_1, q_2, q_3, q_4, q_5, q_6, q_7, q_8, q_9, q_10, q_11] : List Nat).getD j 0), rfl, trivial, ⟨by rw [ht]; exact hP, hD⟩⟩, hS.F ht⟩) hS.2.2 dX2_init_100 hlocks

set_option maxHeartbeats 4000000 in
set_option maxRecDepth 100000 in
theorem c_X1_init (l : Launch) (D : va_G) (cI cB cZ cJ : ClassId) (tx : List (ClassId × FieldType)) (b0 : Nat) (c0 : Nat) (c1 : Nat) : WrV l D cI cB cZ cJ tx yX1_init cX1_init 3 none 1 4 96 [.ref b0, .ref c0, .ref c1] [(b0, .inr (1, [.null, .null, .null, .null, .null, .null, .int 0]))] (fun (_ : Nat → Nat) => True) (fun u => [(b0, .inr (1, [.ref c0, .ref c1, .ref (u 0), .ref (u 1), .ref (u 2), .ref (u 3), .int 0])), (u 0, .inl (cI, 24, .inl (fun _ => 0))), (u 1, .inl (cI, 24, .inl (fun _ => 0))), (u 2, .inl (cZ, 24, .inl (fun _ => 0))), (u 3, .inl (cI, 24, .inl (fun _ => 0)))]) := by
  refine wrv_of2 (by decide) (Nat.le_of_ble_eq_true rfl) ?_
  intro p e s m below meth c A ls H locs hC hK hP hD hA hS hl
  obtain ⟨hx, hb, hr, hml, hown, hts, hlocks, hin⟩ := hC
  have hown : s.vm.findClass RX1 = some m.cls := hown
  have hl : lv_has ls 3 [(0, .ref b0), (1, .ref c0), (2, .ref c1)] := hl
  refine lv_aload_n hx hb dX1_init_0 rfl (lv_at hl 0 rfl) ?_
  refine W.objInit hx hb hown (hts _ k_370) (hts _ k_142) (hts _ k_143) rfl (by rw [hml]; exact hl.1) rfl dX1_init_1 (Nat.le_of_ble_eq_true rfl) (Nat.le_of_ble_eq_true rfl) ?_
  refine W.eq (g2 := F0 m 4 ls []) rfl ?_
  refine lv_aload_n hx hb dX1_init_4 rfl (lv_at hl 0 rfl) ?_
  refine lv_bipush (v := 24) hx hb dX1_init_5 (by decide) ?_
  refine nw_a (atype := .int) (ty := .int) (cA := cI) (N' := 24) (a0 := (24, .inl (fun _ => 0))) hx hb (hts _ k_224) rfl hK.2.1.1 hP hD hS hA (fun _ => rfl) (by decide) (by decide) (Nat.le_of_ble_eq_true rfl) (Nat.le_of_ble_eq_true rfl) (Nat.le_of_ble_eq_true rfl) dX1_init_7 (fun q_1 H hP hD hS => ?_)
  have hP : va_P D vwCl [(b0, .inr (1, [.null, .null, .null, .null, .null, .null, .int 0])), (q_1, .inl (cI, 24, .inl (fun _ => 0)))] H := hP
  have hD : va_D A [(b0, .inr (1, [.null, .null, .null, .null, .null, .null, .int 0])), (q_1, .inl (cI, 24, .inl (fun _ => 0)))] := hD
  refine W.widen (k := 1) (n := 24) (Nat.le_of_ble_eq_true rfl) (Nat.le_of_ble_eq_true rfl) ?_
  refine va_putF (D := D) (ci := 1) (v := .ref q_1) (ty := .array .int) (C := RX1) (T := TX1) (N := 7) hx hb hts inT_X1 tyX1 tyX1_ok nmX1 hown hK.1 hP hD hS 0 rfl rfl 2 (by decide) (hts _ k_373) (fun _ h9 => h9) rfl hin rfl (by decide +kernel) rfl rfl (Nat.le_of_ble_eq_true rfl) dX1_init_9 (fun H locs hP hD hS => ?_)
  have hP : va_P D vwCl [(b0, .inr (1, [.null, .null, .ref q_1, .null, .null, .null, .int 0])), (q_1, .inl (cI, 24, .inl (fun _ => 0)))] H := hP
  have hD : va_D A [(b0, .inr (1, [.null, .null, .ref q_1, .null, .null, .null, .int 0])), (q_1, .inl (cI, 24, .inl (fun _ => 0)))] := hD
  refine lv_aload_n hx hb dX1_init_12 rfl (lv_at hl 0 rfl) ?_
  refine lv_bipush (v := 24) hx hb dX1_init_13 (by decide) ?_
  refine nw_a (atype := .int) (ty := .int) (cA := cI) (N' := 24) (a0 := (24, .inl (fun _ => 0))) hx hb (hts _ k_224) rfl hK.2.1.1 hP hD hS hA (fun _ => rfl) (by decide) (by decide) (Nat.le_of_ble_eq_true rfl) (Nat.le_of_ble_eq_true rfl) (Nat.le_of_ble_eq_true rfl) dX1_init_15 (fun q_2 H hP hD hS => ?_)
  have hP : va_P D vwCl [(b0, .inr (1, [.null, .null, .ref q_1, .null, .null, .null, .int 0])), (q_1, .inl (cI, 24, .inl (fun _ => 0))), (q_2, .inl (cI, 24, .inl (fun _ => 0)))] H := hP
  have hD : va_D A [(b0, .inr (1, [.null, .null, .ref q_1, .null, .null, .null, .int 0])), (q_1, .inl (cI, 24, .inl (fun _ => 0))), (q_2, .inl (cI, 24, .inl (fun _ => 0)))] := hD
  refine W.widen (k := 2) (n := 48) (Nat.le_of_ble_eq_true rfl) (Nat.le_of_ble_eq_true rfl) ?_
  refine va_putF (D := D) (ci := 1) (v := .ref q_2) (ty := .array .int) (C := RX1) (T := TX1) (N := 7) hx hb hts inT_X1 tyX1 tyX1_ok nmX1 hown hK.1 hP hD hS 0 rfl rfl 3 (by decide) (hts _ k_374) (fun _ h9 => h9) rfl hin rfl (by decide +kernel) rfl rfl (Nat.le_of_ble_eq_true rfl) dX1_init_17 (fun H locs hP hD hS => ?_)
  have hP : va_P D vwCl [(b0, .inr (1, [.null, .null, .ref q_1, .ref q_2, .null, .null, .int 0])), (q_1, .inl (cI, 24, .inl (fun _ => 0))), (q_2, .inl (cI, 24, .inl (fun _ => 0)))] H := hP
  have hD : va_D A [(b0, .inr (1, [.null, .null, .ref q_1, .ref q_2, .null, .null, .int 0])), (q_1, .inl (cI, 24, .inl (fun _ => 0))), (q_2, .inl (cI, 24, .inl (fun _ => 0)))] := hD
  refine lv_aload_n hx hb dX1_init_20 rfl (lv_at hl 0 rfl) ?_
  refine lv_bipush (v := 24) hx hb dX1_init_21 (by decide) ?_
  refine nw_a (atype := .boolean) (ty := .boolean) (cA := cZ) (N' := 24) (a0 := (24, .inl (fun _ => 0))) hx hb (hts _ k_287) rfl hK.2.1.2.2.1 hP hD hS hA (fun _ => rfl) (by decide) (by decide) (Nat.le_of_ble_eq_true rfl) (Nat.le_of_ble_eq_true rfl) (Nat.le_of_ble_eq_true rfl) dX1_init_23 (fun q_3 H hP hD hS => ?_)
  have hP : va_P D vwCl [(b0, .inr (1, [.null, .null, .ref q_1, .ref q_2, .null, .null, .int 0])), (q_1, .inl (cI, 24, .inl (fun _ => 0))), (q_2, .inl (cI, 24, .inl (fun _ => 0))), (q_3, .inl (cZ, 24, .inl (fun _ => 0)))] H := hP
  have hD : va_D A [(b0, .inr (1, [.null, .null, .ref q_1, .ref q_2, .null, .null, .int 0])), (q_1, .inl (cI, 24, .inl (fun _ => 0))), (q_2, .inl (cI, 24, .inl (fun _ => 0))), (q_3, .inl (cZ, 24, .inl (fun _ => 0)))] := hD
  refine W.widen (k := 3) (n := 72) (Nat.le_of_ble_eq_true rfl) (Nat.le_of_ble_eq_true rfl) ?_
  refine va_putF (D := D) (ci := 1) (v := .ref q_3) (ty := .array .boolean) (C := RX1) (T := TX1) (N := 7) hx hb hts inT_X1 tyX1 tyX1_ok nmX1 hown hK.1 hP hD hS 0 rfl rfl 4 (by decide) (hts _ k_375) (fun _ h9 => h9) rfl hin rfl (by decide +kernel) rfl rfl (Nat.le_of_ble_eq_true rfl) dX1_init_25 (fun H locs hP hD hS => ?_)
  have hP : va_P D vwCl [(b0, .inr (1, [.null, .null, .ref q_1, .ref q_2, .ref q_3, .null, .int 0])), (q_1, .inl (cI, 24, .inl (fun _ => 0))), (q_2, .inl (cI, 24, .inl (fun _ => 0))), (q_3, .inl (cZ, 24, .inl (fun _ => 0)))] H := hP
  have hD : va_D A [(b0, .inr (1, [.null, .null, .ref q_1, .ref q_2, .ref q_3, .null, .int 0])), (q_1, .inl (cI, 24, .inl (fun _ => 0))), (q_2, .inl (cI, 24, .inl (fun _ => 0))), (q_3, .inl (cZ, 24, .inl (fun _ => 0)))] := hD
  refine lv_aload_n hx hb dX1_init_28 rfl (lv_at hl 0 rfl) ?_
  refine lv_bipush (v := 24) hx hb dX1_init_29 (by decide) ?_
  refine nw_a (atype := .int) (ty := .int) (cA := cI) (N' := 24) (a0 := (24, .inl (fun _ => 0))) hx hb (hts _ k_224) rfl hK.2.1.1 hP hD hS hA (fun _ => rfl) (by decide) (by decide) (Nat.le_of_ble_eq_true rfl) (Nat.le_of_ble_eq_true rfl) (Nat.le_of_ble_eq_true rfl) dX1_init_31 (fun q_4 H hP hD hS => ?_)
  have hP : va_P D vwCl [(b0, .inr (1, [.null, .null, .ref q_1, .ref q_2, .ref q_3, .null, .int 0])), (q_1, .inl (cI, 24, .inl (fun _ => 0))), (q_2, .inl (cI, 24, .inl (fun _ => 0))), (q_3, .inl (cZ, 24, .inl (fun _ => 0))), (q_4, .inl (cI, 24, .inl (fun _ => 0)))] H := hP
  have hD : va_D A [(b0, .inr (1, [.null, .null, .ref q_1, .ref q_2, .ref q_3, .null, .int 0])), (q_1, .inl (cI, 24, .inl (fun _ => 0))), (q_2, .inl (cI, 24, .inl (fun _ => 0))), (q_3, .inl (cZ, 24, .inl (fun _ => 0))), (q_4, .inl (cI, 24, .inl (fun _ => 0)))] := hD
  refine W.widen (k := 4) (n := 96) (Nat.le_of_ble_eq_true rfl) (Nat.le_of_ble_eq_true rfl) ?_
  refine va_putF (D := D) (ci := 1) (v := .ref q_4) (ty := .array .int) (C := RX1) (T := TX1) (N := 7) hx hb hts inT_X1 tyX1 tyX1_ok nmX1 hown hK.1 hP hD hS 0 rfl rfl 5 (by decide) (hts _ k_376) (fun _ h9 => h9) rfl hin rfl (by decide +kernel) rfl rfl (Nat.le_of_ble_eq_true rfl) dX1_init_33 (fun H locs hP hD hS => ?_)
  have hP : va_P D vwCl [(b0, .inr (1, [.null, .null, .ref q_1, .ref q_2, .ref q_3, .ref q_4, .int 0])), (q_1, .inl (cI, 24, .inl (fun _ => 0))), (q_2, .inl (cI, 24, .inl (fun _ => 0))), (q_3, .inl (cZ, 24, .inl (fun _ => 0))), (q_4, .inl (cI, 24, .inl (fun _ => 0)))] H := hP
  have hD : va_D A [(b0, .inr (1, [.null, .null, .ref q_1, .ref q_2, .ref q_3, .ref q_4, .int 0])), (q_1, .inl (cI, 24, .inl (fun _ => 0))), (q_2, .inl (cI, 24, .inl (fun _ => 0))), (q_3, .inl (cZ, 24, .inl (fun _ => 0))), (q_4, .inl (cI, 24, .inl (fun _ => 0)))] := hD
  refine lv_aload_n hx hb dX1_init_36 rfl (lv_at hl 0 rfl) ?_
  refine lv_aload_n hx hb dX1_init_37 rfl (lv_at hl 1 rfl) ?_
  refine va_putF (D := D) (ci := 1) (v := .ref c0) (ty := .object "NailStain$Ship") (C := RX1) (T := TX1) (N := 7) hx hb hts inT_X1 tyX1 tyX1_ok nmX1 hown hK.1 hP hD hS 0 rfl rfl 0 (by decide) (hts _ k_371) (fun _ h9 => h9) rfl hin rfl (by decide +kernel) rfl rfl (Nat.le_of_ble_eq_true rfl) dX1_init_38 (fun H locs hP hD hS => ?_)
  have hP : va_P D vwCl [(b0, .inr (1, [.ref c0, .null, .ref q_1, .ref q_2, .ref q_3, .ref q_4, .int 0])), (q_1, .inl (cI, 24, .inl (fun _ => 0))), (q_2, .inl (cI, 24, .inl (fun _ => 0))), (q_3, .inl (cZ, 24, .inl (fun _ => 0))), (q_4, .inl (cI, 24, .inl (fun _ => 0)))] H := hP
  have hD : va_D A [(b0, .inr (1, [.ref c0, .null, .ref q_1, .ref q_2, .ref q_3, .ref q_4, .int 0])), (q_1, .inl (cI, 24, .inl (fun _ => 0))), (q_2, .inl (cI, 24, .inl (fun _ => 0))), (q_3, .inl (cZ, 24, .inl (fun _ => 0))), (q_4, .inl (cI, 24, .inl (fun _ => 0)))] := hD
  refine lv_aload_n hx hb dX1_init_41 rfl (lv_at hl 0 rfl) ?_
  refine lv_aload_n hx hb dX1_init_42 rfl (lv_at hl 2 rfl) ?_
  refine va_putF (D := D) (ci := 1) (v := .ref c1) (ty := .object "NailStain$Lines") (C := RX1) (T := TX1) (N := 7) hx hb hts inT_X1 tyX1 tyX1_ok nmX1 hown hK.1 hP hD hS 0 rfl rfl 1 (by decide) (hts _ k_372) (fun _ h9 => h9) rfl hin rfl (by decide +kernel) rfl rfl (Nat.le_of_ble_eq_true rfl) dX1_init_43 (fun H locs hP hD hS => ?_)
  have hP : va_P D vwCl [(b0, .inr (1, [.ref c0, .ref c1, .ref q_1, .ref q_2, .ref q_3, .ref q_4, .int 0])), (q_1, .inl (cI, 24, .inl (fun _ => 0))), (q_2, .inl (cI, 24, .inl (fun _ => 0))), (q_3, .inl (cZ, 24, .inl (fun _ => 0))), (q_4, .inl (cI, 24, .inl (fun _ => 0)))] H := hP
  have hD : va_D A [(b0, .inr (1, [.ref c0, .ref c1, .ref q_1, .ref q_2, .ref q_3, .ref q_4, .int 0])), (q_1, .inl (cI, 24, .inl (fun _ => 0))), (q_2, .inl (cI, 24, .inl (fun _ => 0))), (q_3, .inl (cZ, 24, .inl (fun _ => 0))), (q_4, .inl (cI, 24, .inl (fun _ => 0)))] := hD
  refine W.widen (k := 4) (n := 96) (Nat.le_of_ble_eq_true rfl) (Nat.le_of_ble_eq_true rfl) ?_
  have hP := hP.sub (ws' := [(b0, .inr (1, [.ref c0, .ref c1, .ref q_1, .ref q_2, .ref q_3, .ref q_4, .int 0])), (q_1, .inl (cI, 24, .inl (fun _ => 0))), (q_2, .inl (cI, 24, .inl (fun _ => 0))), (q_3, .inl (cZ, 24, .inl (fun _ => 0))), (q_4, .inl (cI, 24, .inl (fun _ => 0)))]) [0, 1, 2, 3, 4] rfl
  have hD := hD.sub (ws' := [(b0, .inr (1, [.ref c0, .ref c1, .ref q_1, .ref q_2, .ref q_3, .ref q_4, .int 0])), (q_1, .inl (cI, 24, .inl (fun _ => 0))), (q_2, .inl (cI, 24, .inl (fun _ => 0))), (q_3, .inl (cZ, 24, .inl (fun _ => 0))), (q_4, .inl (cI, 24, .inl (fun _ => 0)))]) [0, 1, 2, 3, 4] (by decide) rfl
  exact W.vret hx hb hr (fun tt9 ht hW => ⟨⟨(fun j => ([q_1, q_2, q_3, q_4] : List Nat).getD j 0), rfl, trivial, ⟨by rw [ht]; exact hP, hD⟩⟩, hS.F ht⟩) hS.2.2 dX1_init_46 hlocks

set_option maxHeartbeats 4000000 in
set_option maxRecDepth 100000 in
theorem c_X5_init (l : Launch) (D : va_G) (cI cB cZ cJ : ClassId) (tx : List (ClassId × FieldType)) (b0 : Nat) (c0 : Nat) : WrV l D cI cB cZ cJ tx yX5_init cX5_init 2 none 1 1 100 [.ref b0, .ref c0] [(b0, .inr (5, [.null, .null, .int 0, .int 0, .int 0, .int 0]))] (fun (_ : Nat → Nat) => True) (fun u => [(b0, .inr (5, [.ref c0, .ref (u 0), .int 0, .int 0, .int 0, .int 0])), (u 0, .inl (cI, 100, .inl (fun _ => 0)))]) := by
  refine wrv_of2 (by decide) (Nat.le_of_ble_eq_true rfl) ?_
  intro p e s m below meth c A ls H locs hC hK hP hD hA hS hl
  obtain ⟨hx, hb, hr, hml, hown, hts, hlocks, hin⟩ := hC
  have hown : s.vm.findClass RX5 = some m.cls := hown
  have hl : lv_has ls 2 [(0, .ref b0), (1, .ref c0)] := hl
  refine lv_aload_n hx hb dX5_init_0 rfl (lv_at hl 0 rfl) ?_
  refine W.objInit hx hb hown (hts _ k_400) (hts _ k_142) (hts _ k_143) rfl (by rw [hml]; exact hl.1) rfl dX5_init_1 (Nat.le_of_ble_eq_true rfl) (Nat.le_of_ble_eq_true rfl) ?_
  refine W.eq (g2 := F0 m 4 ls []) rfl ?_
  refine lv_aload_n hx hb dX5_init_4 rfl (lv_at hl 0 rfl) ?_
  refine lv_bipush (v := 100) hx hb dX5_init_5 (by decide) ?_
  refine nw_a (atype := .int) (ty := .int) (cA := cI) (N' := 100) (a0 := (100, .inl (fun _ => 0))) hx hb (hts _ k_224) rfl hK.2.1.1 hP hD hS hA (fun _ => rfl) (by decide) (by decide) (Nat.le_of_ble_eq_true rfl) (Nat.le_of_ble_eq_true rfl) (Nat.le_of_ble_eq_true rfl) dX5_init_7 (fun q_1 H hP hD hS => ?_)
  have hP : va_P D vwCl [(b0, .inr (5, [.null, .null, .int 0, .int 0, .int 0, .int 0])), (q_1, .inl (cI, 100, .inl (fun _ => 0)))] H := hP
  have hD : va_D A [(b0, .inr (5, [.null, .null, .int 0, .int 0, .int 0, .int 0])), (q_1, .inl (cI, 100, .inl (fun _ => 0)))] := hD
  refine W.widen (k := 1) (n := 100) (Nat.le_of_ble_eq_true rfl) (Nat.le_of_ble_eq_true rfl) ?_
  refine va_putF (D := D) (ci := 5) (v := .ref q_1) (ty := .array .int) (C := RX5) (T := TX5) (N := 6) hx hb hts inT_X5 tyX5 tyX5_ok nmX5 hown hK.1 hP hD hS 0 rfl rfl 1 (by decide) (hts _ k_402) (fun _ h9 => h9) rfl hin rfl (by decide +kernel) rfl rfl (Nat.le_of_ble_eq_true rfl) dX5_init_9 (fun H locs hP hD hS => ?_)
  have hP : va_P D vwCl [(b0, .inr (5, [.null, .ref q_1, .int 0, .int 0, .int 0, .int 0])), (q_1, .inl (cI, 100, .inl (fun _ => 0)))] H := hP
  have hD : va_D A [(b0, .inr (5, [.null, .ref q_1, .int 0, .int 0, .int 0, .int 0])), (q_1, .inl (cI, 100, .inl (fun _ => 0)))] := hD
  refine lv_aload_n hx hb dX5_init_12 rfl (lv_at hl 0 rfl) ?_
  refine lv_aload_n hx hb dX5_init_13 rfl (lv_at hl 1 rfl) ?_
  refine va_putF (D := D) (ci := 5) (v := .ref c0) (ty := .object "NailStain$Ship") (C := RX5) (T := TX5) (N := 6) hx hb hts inT_X5 tyX5 tyX5_ok nmX5 hown hK.1 hP hD hS 0 rfl rfl 0 (by decide) (hts _ k_401) (fun _ h9 => h9) rfl hin rfl (by decide +kernel) rfl rfl (Nat.le_of_ble_eq_true rfl) dX5_init_14 (fun H locs hP hD hS => ?_)
  have hP : va_P D vwCl [(b0, .inr (5, [.ref c0, .ref q_1, .int 0, .int 0, .int 0, .int 0])), (q_1, .inl (cI, 100, .inl (fun _ => 0)))] H := hP
  have hD : va_D A [(b0, .inr (5, [.ref c0, .ref q_1, .int 0, .int 0, .int 0, .int 0])), (q_1, .inl (cI, 100, .inl (fun _ => 0)))] := hD
  refine W.widen (k := 1) (n := 100) (Nat.le_of_ble_eq_true rfl) (Nat.le_of_ble_eq_true rfl) ?_
  have hP := hP.sub (ws' := [(b0, .inr (5, [.ref c0, .ref q_1, .int 0, .int 0, .int 0, .int 0])), (q_1, .inl (cI, 100, .inl (fun _ => 0)))]) [0, 1] rfl
  have hD := hD.sub (ws' := [(b0, .inr (5, [.ref c0, .ref q_1, .int 0, .int 0, .int 0, .int 0])), (q_1, .inl (cI, 100, .inl (fun _ => 0)))]) [0, 1] (by decide) rfl
  exact W.vret hx hb hr (fun tt9 ht hW => ⟨⟨(fun j => ([q_1] : List Nat).getD j 0), rfl, trivial, ⟨by rw [ht]; exact hP, hD⟩⟩, hS.F ht⟩) hS.2.2 dX5_init_17 hlocks

set_option maxHeartbeats 4000000 in
set_option maxRecDepth 100000 in
theorem c_X10_init (l : Launch) (D : va_G) (cI cB cZ cJ : ClassId) (tx : List (ClassId × FieldType)) (b0 : Nat) (c0 : Nat) : WrV l D cI cB cZ cJ tx yX10_init cX10_init 2 none 1 1 48 [.ref b0, .ref c0] [(b0, .inr (10, [.null, .null]))] (fun (_ : Nat → Nat) => True) (fun u => [(b0, .inr (10, [.ref c0, .ref (u 0)])), (u 0, .inl (cI, 48, .inl (fun _ => 0)))]) := by
  refine wrv_of2 (by decide) (Nat.le_of_ble_eq_true rfl) ?_
  intro p e s m below meth c A ls H locs hC hK hP hD hA hS hl
  obtain ⟨hx, hb, hr, hml, hown, hts, hlocks, hin⟩ := hC
  have hown : s.vm.findClass RX10 = some m.cls := hown
  have hl : lv_has ls 2 [(0, .ref b0), (1, .ref c0)] := hl
  refine lv_aload_n hx hb dX10_init_0 rfl (lv_at hl 0 rfl) ?_
  refine W.objInit hx hb hown (hts _ k_427) (hts _ k_142) (hts _ k_143) rfl (by rw [hml]; exact hl.1) rfl dX10_init_1 (Nat.le_of_ble_eq_true rfl) (Nat.le_of_ble_eq_true rfl) ?_
  refine W.eq (g2 := F0 m 4 ls []) rfl ?_
  refine lv_aload_n hx hb dX10_init_4 rfl (lv_at hl 0 rfl) ?_
  refine lv_bipush (v := 48) hx hb dX10_init_5 (by decide) ?_
  refine nw_a (atype := .int) (ty := .int) (cA := cI) (N' := 48) (a0 := (48, .inl (fun _ => 0))) hx hb (hts _ k_224) rfl hK.2.1.1 hP hD hS hA (fun _ => rfl) (by decide) (by decide) (Nat.le_of_ble_eq_true rfl) (Nat.le_of_ble_eq_true rfl) (Nat.le_of_ble_eq_true rfl) dX10_init_7 (fun q_1 H hP hD hS => ?_)
  have hP : va_P D vwCl [(b0, .inr (10, [.null, .null])), (q_1, .inl (cI, 48, .inl (fun _ => 0)))] H := hP
  have hD : va_D A [(b0, .inr (10, [.null, .null])), (q_1, .inl (cI, 48, .inl (fun _ => 0)))] := hD
  refine W.widen (k := 1) (n := 48) (Nat.le_of_ble_eq_true rfl) (Nat.le_of_ble_eq_true rfl) ?_
  refine va_putF (D := D) (ci := 10) (v := .ref q_1) (ty := .array .int) (C := RX10) (T := TX10) (N := 2) hx hb hts inT_X10 tyX10 tyX10_ok nmX10 hown hK.1 hP hD hS 0 rfl rfl 1 (by decide) (hts _ k_429) (fun _ h9 => h9) rfl hin rfl (by decide +kernel) rfl rfl (Nat.le_of_ble_eq_true rfl) dX10_init_9 (fun H locs hP hD hS => ?_)
  have hP : va_P D vwCl [(b0, .inr (10, [.null, .ref q_1])), (q_1, .inl (cI, 48, .inl (fun _ => 0)))] H := hP
  have hD : va_D A [(b0, .inr (10, [.null, .ref q_1])), (q_1, .inl (cI, 48, .inl (fun _ => 0)))] := hD
  refine lv_aload_n hx hb dX10_init_12 rfl (lv_at hl 0 rfl) ?_
  refine lv_aload_n hx hb dX10_init_13 rfl (lv_at hl 1 rfl) ?_
  refine va_putF (D := D) (ci := 10) (v := .ref c0) (ty := .object "NailStain$Ship") (C := RX10) (T := TX10) (N := 2) hx hb hts inT_X10 tyX10 tyX10_ok nmX10 hown hK.1 hP hD hS 0 rfl rfl 0 (by decide) (hts _ k_428) (fun _ h9 => h9) rfl hin rfl (by decide +kernel) rfl rfl (Nat.le_of_ble_eq_true rfl) dX10_init_14 (fun H locs hP hD hS => ?_)
  have hP : va_P D vwCl [(b0, .inr (10, [.ref c0, .ref q_1])), (q_1, .inl (cI, 48, .inl (fun _ => 0)))] H := hP
  have hD : va_D A [(b0, .inr (10, [.ref c0, .ref q_1])), (q_1, .inl (cI, 48, .inl (fun _ => 0)))] := hD
  refine W.widen (k := 1) (n := 48) (Nat.le_of_ble_eq_true rfl) (Nat.le_of_ble_eq_true rfl) ?_
  have hP := hP.sub (ws' := [(b0, .inr (10, [.ref c0, .ref q_1])), (q_1, .inl (cI, 48, .inl (fun _ => 0)))]) [0, 1] rfl
  have hD := hD.sub (ws' := [(b0, .inr (10, [.ref c0, .ref q_1])), (q_1, .inl (cI, 48, .inl (fun _ => 0)))]) [0, 1] (by decide) rfl
  exact W.vret hx hb hr (fun tt9 ht hW => ⟨⟨(fun j => ([q_1] : List Nat).getD j 0), rfl, trivial, ⟨by rw [ht]; exact hP, hD⟩⟩, hS.F ht⟩) hS.2.2 dX10_init_17 hlocks

set_option maxHeartbeats 4000000 in
set_option maxRecDepth 100000 in
theorem c_X6_init (l : Launch) (D : va_G) (cI cB cZ cJ : ClassId) (tx : List (ClassId × FieldType)) (b0 : Nat) : WrV l D cI cB cZ cJ tx yX6_init cX6_init 1 none 1 1 72 [.ref b0] [(b0, .inr (6, [.null, .int 0, .int 0, .int 0, .int 0, .int 0]))] (fun (_ : Nat → Nat) => True) (fun u => [(b0, .inr (6, [.ref (u 0), .int 0, .int 0, .int 0, .int 0, .int 0])), (u 0, .inl (cI, 72, .inl (fun _ => 0)))]) := by
  refine wrv_of2 (by decide) (Nat.le_of_ble_eq_true rfl) ?_
  intro p e s m below meth c A ls H locs hC hK hP hD hA hS hl
  obtain ⟨hx, hb, hr, hml, hown, hts, hlocks, hin⟩ := hC
  have hown : s.vm.findClass RX6 = some m.cls := hown
  have hl : lv_has ls 1 [(0, .ref b0)] := hl
  refine lv_aload_n hx hb dX6_init_0 rfl (lv_at hl 0 rfl) ?_
  refine W.objInit hx hb hown (hts _ k_440) (hts _ k_142) (hts _ k_143) rfl (by rw [hml]; exact hl.1) rfl dX6_init_1 (Nat.le_of_ble_eq_true rfl) (Nat.le_of_ble_eq_true rfl) ?_
  refine W.eq (g2 := F0 m 4 ls []) rfl ?_
  refine lv_aload_n hx hb dX6_init_4 rfl (lv_at hl 0 rfl) ?_
  refine lv_bipush (v := 72) hx hb dX6_init_5 (by decide) ?_
  refine nw_a (atype := .int) (ty := .int) (cA := cI) (N' := 72) (a0 := (72, .inl (fun _ => 0))) hx hb (hts _ k_224) rfl hK.2.1.1 hP hD hS hA (fun _ => rfl) (by decide) (by decide) (Nat.le_of_ble_eq_true rfl) (Nat.le_of_ble_eq_true rfl) (Nat.le_of_ble_eq_true rfl) dX6_init_7 (fun q_1 H hP hD hS => ?_)
  have hP : va_P D vwCl [(b0, .inr (6, [.null, .int 0, .int 0, .int 0, .int 0, .int 0])), (q_1, .inl (cI, 72, .inl (fun _ => 0)))] H := hP
  have hD : va_D A [(b0, .inr (6, [.null, .int 0, .int 0, .int 0, .int 0, .int 0])), (q_1, .inl (cI, 72, .inl (fun _ => 0)))] := hD
  refine W.widen (k := 1) (n := 72) (Nat.le_of_ble_eq_true rfl) (Nat.le_of_ble_eq_true rfl) ?_
  refine va_putF (D := D) (ci := 6) (v := .ref q_1) (ty := .array .int) (C := RX6) (T := TX6) (N := 6) hx hb hts inT_X6 tyX6 tyX6_ok nmX6 hown hK.1 hP hD hS 0 rfl rfl 0 (by decide) (hts _ k_441) (fun _ h9 => h9) rfl hin rfl (by decide +kernel) rfl rfl (Nat.le_of_ble_eq_true rfl) dX6_init_9 (fun H locs hP hD hS => ?_)
  have hP : va_P D vwCl [(b0, .inr (6, [.ref q_1, .int 0, .int 0, .int 0, .int 0, .int 0])), (q_1, .inl (cI, 72, .inl (fun _ => 0)))] H := hP
  have hD : va_D A [(b0, .inr (6, [.ref q_1, .int 0, .int 0, .int 0, .int 0, .int 0])), (q_1, .inl (cI, 72, .inl (fun _ => 0)))] := hD
  refine W.widen (k := 1) (n := 72) (Nat.le_of_ble_eq_true rfl) (Nat.le_of_ble_eq_true rfl) ?_
  have hP := hP.sub (ws' := [(b0, .inr (6, [.ref q_1, .int 0, .int 0, .int 0, .int 0, .int 0])), (q_1, .inl (cI, 72, .inl (fun _ => 0)))]) [0, 1] rfl
  have hD := hD.sub (ws' := [(b0, .inr (6, [.ref q_1, .int 0, .int 0, .int 0, .int 0, .int 0])), (q_1, .inl (cI, 72, .inl (fun _ => 0)))]) [0, 1] (by decide) rfl
  exact W.vret hx hb hr (fun tt9 ht hW => ⟨⟨(fun j => ([q_1] : List Nat).getD j 0), rfl, trivial, ⟨by rw [ht]; exact hP, hD⟩⟩, hS.F ht⟩) hS.2.2 dX6_init_12 hlocks

set_option maxHeartbeats 4000000 in
set_option maxRecDepth 100000 in
theorem c_X7_init (l : Launch) (D : va_G) (cI cB cZ cJ : ClassId) (tx : List (ClassId × FieldType)) (b0 : Nat) : WrV l D cI cB cZ cJ tx yX7_init cX7_init 1 none 1 3 48 [.ref b0] [(b0, .inr (7, [.null, .null, .null]))] (fun (_ : (Nat → Nat) × (Nat → Int32)) => True) (fun u => [(b0, .inr (7, [.ref (u.1 0), .ref (u.1 1), .ref (u.1 2)])), (u.1 0, .inl (cI, 36, .inl (fun _ => 0))), (u.1 1, .inl (cZ, 6, .inl (fun _ => 0))), (u.1 2, .inl (cI, 6, .inl u.2))]) := by
  refine wrv_of2 (by decide) (Nat.le_of_ble_eq_true rfl) ?_
  intro p e s m below meth c A ls H locs hC hK hP hD hA hS hl
  obtain ⟨hx, hb, hr, hml, hown, hts, hlocks, hin⟩ := hC
  have hown : s.vm.findClass RX7 = some m.cls := hown
  have hl : lv_has ls 1 [(0, .ref b0)] := hl
  refine lv_aload_n hx hb dX7_init_0 rfl (lv_at hl 0 rfl) ?_
  refine W.objInit hx hb hown (hts _ k_470) (hts _ k_142) (hts _ k_143) rfl (by rw [hml]; exact hl.1) rfl dX7_init_1 (Nat.le_of_ble_eq_true rfl) (Nat.le_of_ble_eq_true rfl) ?_
  refine W.eq (g2 := F0 m 4 ls []) rfl ?_
  refine lv_aload_n hx hb dX7_init_4 rfl (lv_at hl 0 rfl) ?_
  refine lv_bipush (v := 36) hx hb dX7_init_5 (by decide) ?_
  refine nw_a (atype := .int) (ty := .int) (cA := cI) (N' := 36) (a0 := (36, .inl (fun _ => 0))) hx hb (hts _ k_224) rfl hK.2.1.1 hP hD hS hA (fun _ => rfl) (by decide) (by decide) (Nat.le_of_ble_eq_true rfl) (Nat.le_of_ble_eq_true rfl) (Nat.le_of_ble_eq_true rfl) dX7_init_7 (fun q_1 H hP hD hS => ?_)
  have hP : va_P D vwCl [(b0, .inr (7, [.null, .null, .null])), (q_1, .inl (cI, 36, .inl (fun _ => 0)))] H := hP
  have hD : va_D A [(b0, .inr (7, [.null, .null, .null])), (q_1, .inl (cI, 36, .inl (fun _ => 0)))] := hD
  refine W.widen (k := 1) (n := 36) (Nat.le_of_ble_eq_true rfl) (Nat.le_of_ble_eq_true rfl) ?_
  refine va_putF (D := D) (ci := 7) (v := .ref q_1) (ty := .array .int) (C := RX7) (T := TX7) (N := 3) hx hb hts inT_X7 tyX7 tyX7_ok nmX7 hown hK.1 hP hD hS 0 rfl rfl 0 (by decide) (hts _ k_471) (fun _ h9 => h9) rfl hin rfl (by decide +kernel) rfl rfl (Nat.le_of_ble_eq_true rfl) dX7_init_9 (fun H locs hP hD hS => ?_)
  have hP : va_P D vwCl [(b0, .inr (7, [.ref q_1, .null, .null])), (q_1, .inl (cI, 36, .inl (fun _ => 0)))] H := hP
  have hD : va_D A [(b0, .inr (7, [.ref q_1, .null, .null])), (q_1, .inl (cI, 36, .inl (fun _ => 0)))] := hD
  refine lv_aload_n hx hb dX7_init_12 rfl (lv_at hl 0 rfl) ?_
  refine lv_bipush (v := 6) hx hb dX7_init_13 (by decide) ?_
  refine nw_a (atype := .boolean) (ty := .boolean) (cA := cZ) (N' := 6) (a0 := (6, .inl (fun _ => 0))) hx hb (hts _ k_287) rfl hK.2.1.2.2.1 hP hD hS hA (fun _ => rfl) (by decide) (by decide) (Nat.le_of_ble_eq_true rfl) (Nat.le_of_ble_eq_true rfl) (Nat.le_of_ble_eq_true rfl) dX7_init_15 (fun q_2 H hP hD hS => ?_)
  have hP : va_P D vwCl [(b0, .inr (7, [.ref q_1, .null, .null])), (q_1, .inl (cI, 36, .inl (fun _ => 0))), (q_2, .inl (cZ, 6, .inl (fun _ => 0)))] H := hP
  have hD : va_D A [(b0, .inr (7, [.ref q_1, .null, .null])), (q_1, .inl (cI, 36, .inl (fun _ => 0))), (q_2, .inl (cZ, 6, .inl (fun _ => 0)))] := hD
  refine W.widen (k := 2) (n := 42) (Nat.le_of_ble_eq_true rfl) (Nat.le_of_ble_eq_true rfl) ?_
  refine va_putF (D := D) (ci := 7) (v := .ref q_2) (ty := .array .boolean) (C := RX7) (T := TX7) (N := 3) hx hb hts inT_X7 tyX7 tyX7_ok nmX7 hown hK.1 hP hD hS 0 rfl rfl 1 (by decide) (hts _ k_472) (fun _ h9 => h9) rfl hin rfl (by decide +kernel) rfl rfl (Nat.le_of_ble_eq_true rfl) dX7_init_17 (fun H locs hP hD hS => ?_)
  have hP : va_P D vwCl [(b0, .inr (7, [.ref q_1, .ref q_2, .null])), (q_1, .inl (cI, 36, .inl (fun _ => 0))), (q_2, .inl (cZ, 6, .inl (fun _ => 0)))] H := hP
  have hD : va_D A [(b0, .inr (7, [.ref q_1, .ref q_2, .null])), (q_1, .inl (cI, 36, .inl (fun _ => 0))), (q_2, .inl (cZ, 6, .inl (fun _ => 0)))] := hD
  refine lv_aload_n hx hb dX7_init_20 rfl (lv_at hl 0 rfl) ?_
  refine lv_bipush (v := 6) hx hb dX7_init_21 (by decide) ?_
  refine nw_a (atype := .int) (ty := .int) (cA := cI) (N' := 6) (a0 := (6, .inl (fun _ => 0))) hx hb (hts _ k_224) rfl hK.2.1.1 hP hD hS hA (fun _ => rfl) (by decide) (by decide) (Nat.le_of_ble_eq_true rfl) (Nat.le_of_ble_eq_true rfl) (Nat.le_of_ble_eq_true rfl) dX7_init_23 (fun q_3 H hP hD hS => ?_)
  have hP : va_P D vwCl [(b0, .inr (7, [.ref q_1, .ref q_2, .null])), (q_1, .inl (cI, 36, .inl (fun _ => 0))), (q_2, .inl (cZ, 6, .inl (fun _ => 0))), (q_3, .inl (cI, 6, .inl (fun _ => 0)))] H := hP
  have hD : va_D A [(b0, .inr (7, [.ref q_1, .ref q_2, .null])), (q_1, .inl (cI, 36, .inl (fun _ => 0))), (q_2, .inl (cZ, 6, .inl (fun _ => 0))), (q_3, .inl (cI, 6, .inl (fun _ => 0)))] := hD
  refine W.widen (k := 3) (n := 48) (Nat.le_of_ble_eq_true rfl) (Nat.le_of_ble_eq_true rfl) ?_
  refine lv_dup hx hb dX7_init_25 rfl ?_
  refine lv_iconst (v := 0) hx hb dX7_init_26 (by decide) ?_
  refine lv_iconst (v := (-1)) hx hb dX7_init_27 (by decide) ?_
  refine st_i hx hb hK hP hD hS 3 rfl (by unfold vp_in; decide) dX7_init_28 (fun f_4 H locs hP hD hS => ?_)
  have hP : va_P D vwCl [(b0, .inr (7, [.ref q_1, .ref q_2, .null])), (q_1, .inl (cI, 36, .inl (fun _ => 0))), (q_2, .inl (cZ, 6, .inl (fun _ => 0))), (q_3, .inl (cI, 6, .inl f_4))] H := hP
  have hD : va_D A [(b0, .inr (7, [.ref q_1, .ref q_2, .null])), (q_1, .inl (cI, 36, .inl (fun _ => 0))), (q_2, .inl (cZ, 6, .inl (fun _ => 0))), (q_3, .inl (cI, 6, .inl f_4))] := hD
  refine lv_dup hx hb dX7_init_29 rfl ?_
  refine lv_iconst (v := 1) hx hb dX7_init_30 (by decide) ?_
  refine lv_iconst (v := (-1)) hx hb dX7_init_31 (by decide) ?_
  refine st_i hx hb hK hP hD hS 3 rfl (by unfold vp_in; decide) dX7_init_32 (fun f_5 H locs hP hD hS => ?_)
  have hP : va_P D vwCl [(b0, .inr (7, [.ref q_1, .ref q_2, .null])), (q_1, .inl (cI, 36, .inl (fun _ => 0))), (q_2, .inl (cZ, 6, .inl (fun _ => 0))), (q_3, .inl (cI, 6, .inl f_5))] H := hP
  have hD : va_D A [(b0, .inr (7, [.ref q_1, .ref q_2, .null])), (q_1, .inl (cI, 36, .inl (fun _ => 0))), (q_2, .inl (cZ, 6, .inl (fun _ => 0))), (q_3, .inl (cI, 6, .inl f_5))] := hD
  refine lv_dup hx hb dX7_init_33 rfl ?_
  refine lv_iconst (v := 2) hx hb dX7_init_34 (by decide) ?_
  refine lv_iconst (v := (-1)) hx hb dX7_init_35 (by decide) ?_
  refine st_i hx hb hK hP hD hS 3 rfl (by unfold vp_in; decide) dX7_init_36 (fun f_6 H locs hP hD hS => ?_)
  have hP : va_P D vwCl [(b0, .inr (7, [.ref q_1, .ref q_2, .null])), (q_1, .inl (cI, 36, .inl (fun _ => 0))), (q_2, .inl (cZ, 6, .inl (fun _ => 0))), (q_3, .inl (cI, 6, .inl f_6))] H := hP
  have hD : va_D A [(b0, .inr (7, [.ref q_1, .ref q_2, .null])), (q_1, .inl (cI, 36, .inl (fun _ => 0))), (q_2, .inl (cZ, 6, .inl (fun _ => 0))), (q_3, .inl (cI, 6, .inl f_6))] := hD
  refine lv_dup hx hb dX7_init_37 rfl ?_
  refine lv_iconst (v := 3) hx hb dX7_init_38 (by decide) ?_
  refine lv_iconst (v := (-1)) hx hb dX7_init_39 (by decide) ?_
  refine st_i hx hb hK hP hD hS 3 rfl (by unfold vp_in; decide) dX7_init_40 (fun f_7 H locs hP hD hS => ?_)
  have hP : va_P D vwCl [(b0, .inr (7, [.ref q_1, .ref q_2, .null])), (q_1, .inl (cI, 36, .inl (fun _ => 0))), (q_2, .inl (cZ, 6, .inl (fun _ => 0))), (q_3, .inl (cI, 6, .inl f_7))] H := hP
  have hD : va_D A [(b0, .inr (7, [.ref q_1, .ref q_2, .null])), (q_1, .inl (cI, 36, .inl (fun _ => 0))), (q_2, .inl (cZ, 6, .inl (fun _ => 0))), (q_3, .inl (cI, 6, .inl f_7))] := hD
  refine lv_dup hx hb dX7_init_41 rfl ?_
  refine lv_iconst (v := 4) hx hb dX7_init_42 (by decide) ?_
  refine lv_iconst (v := (-1)) hx hb dX7_init_43 (by decide) ?_
  refine st_i hx hb hK hP hD hS 3 rfl (by unfold vp_in; decide) dX7_init_44 (fun f_8 H locs hP hD hS => ?_)
  have hP : va_P D vwCl [(b0, .inr (7, [.ref q_1, .ref q_2, .null])), (q_1, .inl (cI, 36, .inl (fun _ => 0))), (q_2, .inl (cZ, 6, .inl (fun _ => 0))), (q_3, .inl (cI, 6, .inl f_8))] H := hP
  have hD : va_D A [(b0, .inr (7, [.ref q_1, .ref q_2, .null])), (q_1, .inl (cI, 36, .inl (fun _ => 0))), (q_2, .inl (cZ, 6, .inl (fun _ => 0))), (q_3, .inl (cI, 6, .inl f_8))] := hD
  refine lv_dup hx hb dX7_init_45 rfl ?_
  refine lv_iconst (v := 5) hx hb dX7_init_46 (by decide) ?_
  refine lv_iconst (v := (-1)) hx hb dX7_init_47 (by decide) ?_
  refine st_i hx hb hK hP hD hS 3 rfl (by unfold vp_in; decide) dX7_init_48 (fun f_9 H locs hP hD hS => ?_)
  have hP : va_P D vwCl [(b0, .inr (7, [.ref q_1, .ref q_2, .null])), (q_1, .inl (cI, 36, .inl (fun _ => 0))), (q_2, .inl (cZ, 6, .inl (fun _ => 0))), (q_3, .inl (cI, 6, .inl f_9))] H := hP
  have hD : va_D A [(b0, .inr (7, [.ref q_1, .ref q_2, .null])), (q_1, .inl (cI, 36, .inl (fun _ => 0))), (q_2, .inl (cZ, 6, .inl (fun _ => 0))), (q_3, .inl (cI, 6, .inl f_9))] := hD
  refine va_putF (D := D) (ci := 7) (v := .ref q_3) (ty := .array .int) (C := RX7) (T := TX7) (N := 3) hx hb hts inT_X7 tyX7 tyX7_ok nmX7 hown hK.1 hP hD hS 0 rfl rfl 2 (by decide) (hts _ k_474) (fun _ h9 => h9) rfl hin rfl (by decide +kernel) rfl rfl (Nat.le_of_ble_eq_true rfl) dX7_init_49 (fun H locs hP hD hS => ?_)
  have hP : va_P D vwCl [(b0, .inr (7, [.ref q_1, .ref q_2, .ref q_3])), (q_1, .inl (cI, 36, .inl (fun _ => 0))), (q_2, .inl (cZ, 6, .inl (fun _ => 0))), (q_3, .inl (cI, 6, .inl f_9))] H := hP
  have hD : va_D A [(b0, .inr (7, [.ref q_1, .ref q_2, .ref q_3])), (q_1, .inl (cI, 36, .inl (fun _ => 0))), (q_2, .inl (cZ, 6, .inl (fun _ => 0))), (q_3, .inl (cI, 6, .inl f_9))] := hD
  refine W.widen (k := 3) (n := 48) (Nat.le_of_ble_eq_true rfl) (Nat.le_of_ble_eq_true rfl) ?_
  have hP := hP.sub (ws' := [(b0, .inr (7, [.ref q_1, .ref q_2, .ref q_3])), (q_1, .inl (cI, 36, .inl (fun _ => 0))), (q_2, .inl (cZ, 6, .inl (fun _ => 0))), (q_3, .inl (cI, 6, .inl f_9))]) [0, 1, 2, 3] rfl
  have hD := hD.sub (ws' := [(b0, .inr (7, [.ref q_1, .ref q_2, .ref q_3])), (q_1, .inl (cI, 36, .inl (fun _ => 0))), (q_2, .inl (cZ, 6, .inl (fun _ => 0))), (q_3, .inl (cI, 6, .inl f_9))]) [0, 1, 2, 3] (by decide) rfl
  exact W.vret hx hb hr (fun tt9 ht hW => ⟨⟨((fun j => ([q_1, q_2, q_3] : List Nat).getD j 0), f_9), rfl, trivial, ⟨by rw [ht]; exact hP, hD⟩⟩, hS.F ht⟩) hS.2.2 dX7_init_52 hlocks
