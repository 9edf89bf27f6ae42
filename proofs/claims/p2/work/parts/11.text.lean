theorem lf_X9_push_3 (t : Nat → Nat) (u : Int32) (cl : Int32) (rf : Int32) (p1 : Nat) (fk : Nat → Int32) (n1 : Int32) (hp : p1 ≤ 32) (c_1 : 32 ≤ nI p1) : 32 ≤ p1 := by
  exact (nI_leI (a := 32) (b := p1) (by omega) (by omega)).mp c_1
theorem lf_X9_push_4 (t : Nat → Nat) (u : Int32) (cl : Int32) (rf : Int32) (p1 : Nat) (fk : Nat → Int32) (n1 : Int32) (hp : p1 ≤ 32) (c_1 : 32 ≤ nI p1) (n_2 : 32 ≤ p1) : p1 ≤ 32 := by
  omega
theorem lf_X9_push_6 (t : Nat → Nat) (u : Int32) (cl : Int32) (rf : Int32) (p1 : Nat) (fk : Nat → Int32) (n1 : Int32) (hp : p1 ≤ 32) (c_1 : ¬ 32 ≤ nI p1) : p1 < 32 := by
  exact Nat.lt_of_not_le (fun q => c_1 ((nI_leI (a := 32) (b := p1) (by omega) (by omega)).mpr q))
theorem lf_X9_push_7 (t : Nat → Nat) (u : Int32) (cl : Int32) (rf : Int32) (p1 : Nat) (fk : Nat → Int32) (n1 : Int32) (hp : p1 ≤ 32) (c_1 : ¬ 32 ≤ nI p1) (n_5 : p1 < 32) : vp_in (nI p1) 32 := by
  first | exact vp_in_nI (by omega) (by decide) | (unfold vp_in; decide)
theorem lf_X9_push_9 (t : Nat → Nat) (u : Int32) (cl : Int32) (rf : Int32) (p1 : Nat) (fk : Nat → Int32) (n1 : Int32) (hp : p1 ≤ 32) (c_1 : ¬ 32 ≤ nI p1) (n_5 : p1 < 32) : (p1 + 1) ≤ 32 := by
  omega
set_option maxHeartbeats 4000000 in
set_option maxRecDepth 100000 in
theorem c_X9_push (l : Launch) (D : va_G) (cI cB cZ cJ : ClassId) (tx : List (ClassId × FieldType)) (t : Nat → Nat) (u : Int32) (cl : Int32) (rf : Int32) (p1 : Nat) (fk : Nat → Int32) (n1 : Int32) (hp : p1 ≤ 32) : WrV l D cI cB cZ cJ tx yX9_push cX9_push 2 none 0 0 0 [.ref (t 0), .int n1] [(t 0, .inr (9, [.ref (t 1), .ref (t 2), .ref (t 3), .ref (t 4), .ref (t 5), .int u, .int cl, .int (nI p1), .int rf])), (t 2, .inl (cI, 32, .inl fk))] (fun (v : Nat × (Nat → Int32)) => v.1 ≤ 32) (fun v => [(t 0, .inr (9, [.ref (t 1), .ref (t 2), .ref (t 3), .ref (t 4), .ref (t 5), .int u, .int cl, .int (nI v.1), .int rf])), (t 2, .inl (cI, 32, .inl v.2))]) := by
  refine wrv_of2 (by decide) (Nat.le_of_ble_eq_true rfl) ?_
  intro p e s m below meth c A ls H locs hC hK hP hD hA hS hl
  obtain ⟨hx, hb, hr, hml, hown, hts, hlocks, hin⟩ := hC
  have hown : s.vm.findClass RX9 = some m.cls := hown
  have hl : lv_has ls 2 [(0, .ref (t 0)), (1, .int n1)] := hl
  refine lv_aload_n hx hb dX9_push_0 rfl (lv_at hl 0 rfl) ?_
  refine va_get (D := D) (ci := 9) (v := .int (nI p1)) (C := RX9) (T := TX9) (N := 9) hx hb hts inT_X9 hown hK.1 hP 0 rfl rfl 7 (by decide) (hts _ k_203) (fun _ h9 => h9) rfl dX9_push_1 ?_
  refine lv_aload_n hx hb dX9_push_4 rfl (lv_at hl 0 rfl) ?_
  refine va_get (D := D) (ci := 9) (v := .ref (t 2)) (C := RX9) (T := TX9) (N := 9) hx hb hts inT_X9 hown hK.1 hP 0 rfl rfl 1 (by decide) (hts _ k_195) (fun _ h9 => h9) rfl dX9_push_5 ?_
  refine ln_x (v := 32) hx hb hK hP 1 0 rfl rfl (show Int32.ofNat 32 = 32 from by decide) dX9_push_8 ?_
  refine lv_icmp_ge (tgt := 32) hx hb dX9_push_9 (by decide) (fun c_1 => ?_) (fun c_1 => ?_)
  · have n_2 : 32 ≤ p1 := (lf_X9_push_3 t u cl rf p1 fk n1 hp c_1)
    exact W.vret hx hb hr (fun t ht hW => ⟨⟨(p1, fk), rfl, (lf_X9_push_4 t u cl rf p1 fk n1 hp c_1 n_2), ⟨by rw [ht]; exact hP, hD⟩⟩, hS.F ht⟩) hS.2.2 dX9_push_32 hlocks
  · have n_5 : p1 < 32 := (lf_X9_push_6 t u cl rf p1 fk n1 hp c_1)
    refine lv_aload_n hx hb dX9_push_12 rfl (lv_at hl 0 rfl) ?_
    refine va_get (D := D) (ci := 9) (v := .ref (t 2)) (C := RX9) (T := TX9) (N := 9) hx hb hts inT_X9 hown hK.1 hP 0 rfl rfl 1 (by decide) (hts _ k_195) (fun _ h9 => h9) rfl dX9_push_13 ?_
    refine lv_aload_n hx hb dX9_push_16 rfl (lv_at hl 0 rfl) ?_
    refine va_get (D := D) (ci := 9) (v := .int (nI p1)) (C := RX9) (T := TX9) (N := 9) hx hb hts inT_X9 hown hK.1 hP 0 rfl rfl 7 (by decide) (hts _ k_203) (fun _ h9 => h9) rfl dX9_push_17 ?_
    refine lv_iload_n hx hb dX9_push_20 rfl (lv_at hl 1 rfl) ?_
    refine st_i hx hb hK hP hD hS 1 rfl (lf_X9_push_7 t u cl rf p1 fk n1 hp c_1 n_5) dX9_push_21 (fun f_8 H locs hP hD hS => ?_)
    have hP : va_P D vwCl [(t 0, .inr (9, [.ref (t 1), .ref (t 2), .ref (t 3), .ref (t 4), .ref (t 5), .int u, .int cl, .int (nI p1), .int rf])), (t 2, .inl (cI, 32, .inl f_8))] H := hP
    have hD : va_D A [(t 0, .inr (9, [.ref (t 1), .ref (t 2), .ref (t 3), .ref (t 4), .ref (t 5), .int u, .int cl, .int (nI p1), .int rf])), (t 2, .inl (cI, 32, .inl f_8))] := hD
    refine lv_aload_n hx hb dX9_push_22 rfl (lv_at hl 0 rfl) ?_
    refine lv_dup hx hb dX9_push_23 rfl ?_
    refine va_get (D := D) (ci := 9) (v := .int (nI p1)) (C := RX9) (T := TX9) (N := 9) hx hb hts inT_X9 hown hK.1 hP 0 rfl rfl 7 (by decide) (hts _ k_203) (fun _ h9 => h9) rfl dX9_push_24 ?_
    refine lv_iconst (v := 1) hx hb dX9_push_27 (by decide) ?_
    refine lv_iadd hx hb dX9_push_28 ?_
    refine lv_topv (y := nI (p1 + 1)) (nI_add p1 1) ?_
    refine va_put (D := D) (ci := 9) (v := .int (nI (p1 + 1))) (ty := .int) (C := RX9) (T := TX9) (N := 9) hx hb hts inT_X9 tyX9 tyX9_ok nmX9 hown hK.1 hP hD hS 0 rfl rfl 7 (by decide) (hts _ k_203) (fun _ h9 => h9) rfl (by decide +kernel) rfl rfl (Nat.le_of_ble_eq_true rfl) dX9_push_29 (fun H locs hP hD hS => ?_)
    have hP : va_P D vwCl [(t 0, .inr (9, [.ref (t 1), .ref (t 2), .ref (t 3), .ref (t 4), .ref (t 5), .int u, .int cl, .int (nI (p1 + 1)), .int rf])), (t 2, .inl (cI, 32, .inl f_8))] H := hP
    have hD : va_D A [(t 0, .inr (9, [.ref (t 1), .ref (t 2), .ref (t 3), .ref (t 4), .ref (t 5), .int u, .int cl, .int (nI (p1 + 1)), .int rf])), (t 2, .inl (cI, 32, .inl f_8))] := hD
    exact W.vret hx hb hr (fun t ht hW => ⟨⟨((p1 + 1), f_8), rfl, (lf_X9_push_9 t u cl rf p1 fk n1 hp c_1 n_5), ⟨by rw [ht]; exact hP, hD⟩⟩, hS.F ht⟩) hS.2.2 dX9_push_32 hlocks

theorem lf_X9_pop_3 (t : Nat → Nat) (u : Int32) (cl : Int32) (rf : Int32) (p1 : Nat) (fk : Nat → Int32) (hp : p1 ≤ 32) (c_1 : ¬ nI p1 = 0) : p1 ≠ 0 := by
  exact fun q => c_1 ((nI_eq (a := p1) (b := 0) (by omega) (by omega)).mpr q)
theorem lf_X9_pop_4 (t : Nat → Nat) (u : Int32) (cl : Int32) (rf : Int32) (p1 : Nat) (fk : Nat → Int32) (hp : p1 ≤ 32) (c_1 : ¬ nI p1 = 0) (n_2 : p1 ≠ 0) : 1 ≤ p1 := by
  omega
theorem lf_X9_pop_5 (t : Nat → Nat) (u : Int32) (cl : Int32) (rf : Int32) (p1 : Nat) (fk : Nat → Int32) (hp : p1 ≤ 32) (c_1 : ¬ nI p1 = 0) (n_2 : p1 ≠ 0) : vp_in (nI (p1 - 1)) 32 := by
  first | exact vp_in_nI (by omega) (by decide) | (unfold vp_in; decide)
theorem lf_X9_pop_7 (t : Nat → Nat) (u : Int32) (cl : Int32) (rf : Int32) (p1 : Nat) (fk : Nat → Int32) (hp : p1 ≤ 32) (c_1 : ¬ nI p1 = 0) (n_2 : p1 ≠ 0) (x_6 : Int32) : (p1 - 1) ≤ 32 := by
  omega
theorem lf_X9_pop_9 (t : Nat → Nat) (u : Int32) (cl : Int32) (rf : Int32) (p1 : Nat) (fk : Nat → Int32) (hp : p1 ≤ 32) (c_1 : nI p1 = 0) : p1 = 0 := by
  exact (nI_eq (a := p1) (b := 0) (by omega) (by omega)).mp c_1
theorem lf_X9_pop_10 (t : Nat → Nat) (u : Int32) (cl : Int32) (rf : Int32) (p1 : Nat) (fk : Nat → Int32) (hp : p1 ≤ 32) (c_1 : nI p1 = 0) (n_8 : p1 = 0) : p1 ≤ 32 := by
  omega
set_option maxHeartbeats 4000000 in
set_option maxRecDepth 100000 in
theorem c_X9_pop (l : Launch) (D : va_G) (cI cB cZ cJ : ClassId) (tx : List (ClassId × FieldType)) (t : Nat → Nat) (u : Int32) (cl : Int32) (rf : Int32) (p1 : Nat) (fk : Nat → Int32) (hp : p1 ≤ 32) : WrI l D cI cB cZ cJ tx yX9_pop cX9_pop 1 (some .int) 0 0 0 [.ref (t 0)] [(t 0, .inr (9, [.ref (t 1), .ref (t 2), .ref (t 3), .ref (t 4), .ref (t 5), .int u, .int cl, .int (nI p1), .int rf])), (t 2, .inl (cI, 32, .inl fk))] (fun (_ : Int32) (v : Nat) => v ≤ 32) (fun v => [(t 0, .inr (9, [.ref (t 1), .ref (t 2), .ref (t 3), .ref (t 4), .ref (t 5), .int u, .int cl, .int (nI v), .int rf])), (t 2, .inl (cI, 32, .inl fk))]) := by
  refine wri_of2 (by decide) (Nat.le_of_ble_eq_true rfl) ?_
  intro p e s m below meth c A ls H locs hC hK hP hD hA hS hl
  obtain ⟨hx, hb, hr, hml, hown, hts, hlocks, hin⟩ := hC
  have hown : s.vm.findClass RX9 = some m.cls := hown
  have hl : lv_has ls 1 [(0, .ref (t 0))] := hl
  refine lv_aload_n hx hb dX9_pop_0 rfl (lv_at hl 0 rfl) ?_
  refine va_get (D := D) (ci := 9) (v := .int (nI p1)) (C := RX9) (T := TX9) (N := 9) hx hb hts inT_X9 hown hK.1 hP 0 rfl rfl 7 (by decide) (hts _ k_203) (fun _ h9 => h9) rfl dX9_pop_1 ?_
  refine lv_if_ne (tgt := 9) hx hb dX9_pop_4 (by decide) (fun c_1 => ?_) (fun c_1 => ?_)
  · have n_2 : p1 ≠ 0 := (lf_X9_pop_3 t u cl rf p1 fk hp c_1)
    refine lv_aload_n hx hb dX9_pop_9 rfl (lv_at hl 0 rfl) ?_
    refine lv_dup hx hb dX9_pop_10 rfl ?_
    refine va_get (D := D) (ci := 9) (v := .int (nI p1)) (C := RX9) (T := TX9) (N := 9) hx hb hts inT_X9 hown hK.1 hP 0 rfl rfl 7 (by decide) (hts _ k_203) (fun _ h9 => h9) rfl dX9_pop_11 ?_
    refine lv_iconst (v := 1) hx hb dX9_pop_14 (by decide) ?_
    refine lv_isub hx hb dX9_pop_15 ?_
    refine lv_topv (y := nI (p1 - 1)) (pk_sub (lf_X9_pop_4 t u cl rf p1 fk hp c_1 n_2)) ?_
    refine va_put (D := D) (ci := 9) (v := .int (nI (p1 - 1))) (ty := .int) (C := RX9) (T := TX9) (N := 9) hx hb hts inT_X9 tyX9 tyX9_ok nmX9 hown hK.1 hP hD hS 0 rfl rfl 7 (by decide) (hts _ k_203) (fun _ h9 => h9) rfl (by decide +kernel) rfl rfl (Nat.le_of_ble_eq_true rfl) dX9_pop_16 (fun H locs hP hD hS => ?_)
    have hP : va_P D vwCl [(t 0, .inr (9, [.ref (t 1), .ref (t 2), .ref (t 3), .ref (t 4), .ref (t 5), .int u, .int cl, .int (nI (p1 - 1)), .int rf])), (t 2, .inl (cI, 32, .inl fk))] H := hP
    have hD : va_D A [(t 0, .inr (9, [.ref (t 1), .ref (t 2), .ref (t 3), .ref (t 4), .ref (t 5), .int u, .int cl, .int (nI (p1 - 1)), .int rf])), (t 2, .inl (cI, 32, .inl fk))] := hD
    refine lv_aload_n hx hb dX9_pop_19 rfl (lv_at hl 0 rfl) ?_
    refine va_get (D := D) (ci := 9) (v := .ref (t 2)) (C := RX9) (T := TX9) (N := 9) hx hb hts inT_X9 hown hK.1 hP 0 rfl rfl 1 (by decide) (hts _ k_195) (fun _ h9 => h9) rfl dX9_pop_20 ?_
    refine lv_aload_n hx hb dX9_pop_23 rfl (lv_at hl 0 rfl) ?_
    refine va_get (D := D) (ci := 9) (v := .int (nI (p1 - 1))) (C := RX9) (T := TX9) (N := 9) hx hb hts inT_X9 hown hK.1 hP 0 rfl rfl 7 (by decide) (hts _ k_203) (fun _ h9 => h9) rfl dX9_pop_24 ?_
    refine ld_i hx hb hK hP 1 rfl (lf_X9_pop_5 t u cl rf p1 fk hp c_1 n_2) dX9_pop_27 (fun x_6 => ?_)
    exact W.iret (v := x_6) hx hb hr (fun t ht hW => ⟨⟨(x_6 : Int32), (p1 - 1), rfl, (lf_X9_pop_7 t u cl rf p1 fk hp c_1 n_2 x_6), ⟨by rw [ht]; exact hP, hD⟩⟩, hS.F ht⟩) hS.2.2 dX9_pop_28 hlocks
  · have n_8 : p1 = 0 := (lf_X9_pop_9 t u cl rf p1 fk hp c_1)
    refine lv_iconst (v := 0) hx hb dX9_pop_7 (by decide) ?_
    exact W.iret (v := 0) hx hb hr (fun t ht hW => ⟨⟨(0 : Int32), p1, rfl, (lf_X9_pop_10 t u cl rf p1 fk hp c_1 n_8), ⟨by rw [ht]; exact hP, hD⟩⟩, hS.F ht⟩) hS.2.2 dX9_pop_8 hlocks

theorem lf_X9_reckon_9 (t : Nat → Nat) (u : Int32) (cl : Int32) (tp : Int32) (rf : Int32) (n1 : Int32) (n2 : Int32) (n3 : Int32) (c_1 : ¬ n1 = 3) (c_3 : ¬ n1 = 4) (c_5 : ¬ n1 = 5) (c_7 : n1 = 6) (c_8 : ¬ n3 = 0) : ¬ n3 = 0 := by
  assumption
theorem lf_X9_reckon_13 (t : Nat → Nat) (u : Int32) (cl : Int32) (tp : Int32) (rf : Int32) (n1 : Int32) (n2 : Int32) (n3 : Int32) (c_1 : ¬ n1 = 3) (c_3 : ¬ n1 = 4) (c_5 : ¬ n1 = 5) (c_7 : ¬ n1 = 6) (c_11 : n1 = 7) (c_12 : ¬ n3 = 0) : ¬ n3 = 0 := by
  assumption
theorem lf_X9_reckon_21 (t : Nat → Nat) (u : Int32) (cl : Int32) (tp : Int32) (rf : Int32) (n1 : Int32) (n2 : Int32) (n3 : Int32) (c_1 : ¬ n1 = 3) (c_3 : ¬ n1 = 4) (c_5 : ¬ n1 = 5) (c_7 : ¬ n1 = 6) (c_11 : ¬ n1 = 7) (c_15 : ¬ n1 = 8) (c_17 : ¬ n1 = 9) (c_19 : ¬ n1 = 10) : n1.toInt < 3 ∨ 10 < n1.toInt := by
  have e : ∀ k : Int32, ¬ n1 = k → n1.toInt ≠ k.toInt := fun k h q => h (Int32.toInt_inj.mp q)
  have e3 := e 3 ‹¬ n1 = 3›
  have z3 : (3 : Int32).toInt = 3 := by decide
  have e4 := e 4 ‹¬ n1 = 4›
  have z4 : (4 : Int32).toInt = 4 := by decide
  have e5 := e 5 ‹¬ n1 = 5›
  have z5 : (5 : Int32).toInt = 5 := by decide
  have e6 := e 6 ‹¬ n1 = 6›
  have z6 : (6 : Int32).toInt = 6 := by decide
  have e7 := e 7 ‹¬ n1 = 7›
  have z7 : (7 : Int32).toInt = 7 := by decide
  have e8 := e 8 ‹¬ n1 = 8›
  have z8 : (8 : Int32).toInt = 8 := by decide
  have e9 := e 9 ‹¬ n1 = 9›
  have z9 : (9 : Int32).toInt = 9 := by decide
  have e10 := e 10 ‹¬ n1 = 10›
  have z10 : (10 : Int32).toInt = 10 := by decide
  omega
theorem lf_X9_reckon_24 (t : Nat → Nat) (u : Int32) (cl : Int32) (tp : Int32) (rf : Int32) (n1 : Int32) (n2 : Int32) (n3 : Int32) (c_1 : ¬ n1 = 3) (c_3 : ¬ n1 = 4) (c_5 : ¬ n1 = 5) (c_7 : ¬ n1 = 6) (c_11 : ¬ n1 = 7) (c_15 : ¬ n1 = 8) (c_17 : ¬ n1 = 9) (c_19 : ¬ n1 = 10) (c_22 : ¬ n3 = 0) (c_23 : ¬ n1 = 6) : ¬ n3 = 0 := by
  assumption
theorem lf_X9_reckon_26 (t : Nat → Nat) (u : Int32) (cl : Int32) (tp : Int32) (rf : Int32) (n1 : Int32) (n2 : Int32) (n3 : Int32) (c_1 : ¬ n1 = 3) (c_3 : ¬ n1 = 4) (c_5 : ¬ n1 = 5) (c_7 : ¬ n1 = 6) (c_11 : ¬ n1 = 7) (c_15 : ¬ n1 = 8) (c_17 : ¬ n1 = 9) (c_19 : ¬ n1 = 10) (c_22 : ¬ n3 = 0) (c_23 : n1 = 6) : ¬ n3 = 0 := by
  assumption
set_option maxHeartbeats 4000000 in
set_option maxRecDepth 100000 in
theorem c_X9_reckon (l : Launch) (D : va_G) (cI cB cZ cJ : ClassId) (tx : List (ClassId × FieldType)) (t : Nat → Nat) (u : Int32) (cl : Int32) (tp : Int32) (rf : Int32) (n1 : Int32) (n2 : Int32) (n3 : Int32) : WrI l D cI cB cZ cJ tx yX9_reckon cX9_reckon 4 (some .int) 0 0 0 [.ref (t 0), .int n1, .int n2, .int n3] [(t 0, .inr (9, [.ref (t 1), .ref (t 2), .ref (t 3), .ref (t 4), .ref (t 5), .int u, .int cl, .int tp, .int rf]))] (fun (_ : Int32) (_ : Int32) => True) (fun v => [(t 0, .inr (9, [.ref (t 1), .ref (t 2), .ref (t 3), .ref (t 4), .ref (t 5), .int u, .int cl, .int tp, .int v]))]) := by
  refine wri_of2 (by decide) (Nat.le_of_ble_eq_true rfl) ?_
  intro p e s m below meth c A ls H locs hC hK hP hD hA hS hl
  obtain ⟨hx, hb, hr, hml, hown, hts, hlocks, hin⟩ := hC
  have hown : s.vm.findClass RX9 = some m.cls := hown
  have hl : lv_has ls 4 [(0, .ref (t 0)), (1, .int n1), (2, .int n2), (3, .int n3)] := hl
  refine lv_iload_n hx hb dX9_reckon_0 rfl (lv_at hl 1 rfl) ?_
  by_cases c_1 : n1 = 3
  · subst c_1
    refine lv_tableIn (off := 47) (tgt := 48) hx hb dX9_reckon_1 (by decide) (by decide) rfl (by decide) ?_
    refine lv_iload_n hx hb dX9_reckon_48 rfl (lv_at hl 2 rfl) ?_
    refine lv_iload_n hx hb dX9_reckon_49 rfl (lv_at hl 3 rfl) ?_
    refine lv_iadd hx hb dX9_reckon_50 ?_
    refine lv_topi (fun x_2 ex_2 => ?_)
    exact W.iret (v := x_2) hx hb hr (fun t ht hW => ⟨⟨(x_2 : Int32), (rf : Int32), rfl, trivial, ⟨by rw [ht]; exact hP, hD⟩⟩, hS.F ht⟩) hS.2.2 dX9_reckon_51 hlocks
  by_cases c_3 : n1 = 4
  · subst c_3
    refine lv_tableIn (off := 51) (tgt := 52) hx hb dX9_reckon_1 (by decide) (by decide) rfl (by decide) ?_
    refine lv_iload_n hx hb dX9_reckon_52 rfl (lv_at hl 2 rfl) ?_
    refine lv_iload_n hx hb dX9_reckon_53 rfl (lv_at hl 3 rfl) ?_
    refine lv_isub hx hb dX9_reckon_54 ?_
    refine lv_topi (fun x_4 ex_4 => ?_)
    exact W.iret (v := x_4) hx hb hr (fun t ht hW => ⟨⟨(x_4 : Int32), (rf : Int32), rfl, trivial, ⟨by rw [ht]; exact hP, hD⟩⟩, hS.F ht⟩) hS.2.2 dX9_reckon_55 hlocks
  by_cases c_5 : n1 = 5
  · subst c_5
    refine lv_tableIn (off := 55) (tgt := 56) hx hb dX9_reckon_1 (by decide) (by decide) rfl (by decide) ?_
    refine lv_iload_n hx hb dX9_reckon_56 rfl (lv_at hl 2 rfl) ?_
    refine lv_iload_n hx hb dX9_reckon_57 rfl (lv_at hl 3 rfl) ?_
    refine lv_imul hx hb dX9_reckon_58 ?_
    refine lv_topi (fun x_6 ex_6 => ?_)
    exact W.iret (v := x_6) hx hb hr (fun t ht hW => ⟨⟨(x_6 : Int32), (rf : Int32), rfl, trivial, ⟨by rw [ht]; exact hP, hD⟩⟩, hS.F ht⟩) hS.2.2 dX9_reckon_59 hlocks
  by_cases c_7 : n1 = 6
  · subst c_7
    refine lv_tableIn (off := 92) (tgt := 93) hx hb dX9_reckon_1 (by decide) (by decide) rfl (by decide) ?_
    refine lv_iload_n hx hb dX9_reckon_93 rfl (lv_at hl 3 rfl) ?_
    refine lv_if_ne (tgt := 104) hx hb dX9_reckon_94 (by decide) (fun c_8 => ?_) (fun c_8 => ?_)
    · refine lv_iload_n hx hb dX9_reckon_104 rfl (lv_at hl 1 rfl) ?_
      refine lv_bipush (v := 6) hx hb dX9_reckon_105 (by decide) ?_
      refine lv_icmp_ne (tgt := 116) hx hb dX9_reckon_107 (by decide) (fun c => absurd c (by decide)) (fun _ => ?_)
      refine lv_iload_n hx hb dX9_reckon_110 rfl (lv_at hl 2 rfl) ?_
      refine lv_iload_n hx hb dX9_reckon_111 rfl (lv_at hl 3 rfl) ?_
      refine lv_idiv hx hb dX9_reckon_112 (lf_X9_reckon_9 t u cl tp rf 6 n2 n3 c_1 c_3 c_5 rfl c_8) ?_
      refine lv_topi (fun x_10 _ => ?_)
      refine lv_goto (tgt := 119) hx hb dX9_reckon_113 (by decide) ?_
      exact W.iret (v := x_10) hx hb hr (fun t ht hW => ⟨⟨(x_10 : Int32), (rf : Int32), rfl, trivial, ⟨by rw [ht]; exact hP, hD⟩⟩, hS.F ht⟩) hS.2.2 dX9_reckon_119 hlocks
    · refine lv_aload_n hx hb dX9_reckon_97 rfl (lv_at hl 0 rfl) ?_
      refine lv_iconst (v := 1) hx hb dX9_reckon_98 (by decide) ?_
      refine va_put (D := D) (ci := 9) (v := .int 1) (ty := .boolean) (C := RX9) (T := TX9) (N := 9) hx hb hts inT_X9 tyX9 tyX9_ok nmX9 hown hK.1 hP hD hS 0 rfl rfl 8 (by decide) (hts _ k_204) (fun _ h9 => h9) rfl (by decide +kernel) rfl rfl (Nat.le_of_ble_eq_true rfl) dX9_reckon_99 (fun H locs hP hD hS => ?_)
      have hP : va_P D vwCl [(t 0, .inr (9, [.ref (t 1), .ref (t 2), .ref (t 3), .ref (t 4), .ref (t 5), .int u, .int cl, .int tp, .int 1]))] H := hP
      have hD : va_D A [(t 0, .inr (9, [.ref (t 1), .ref (t 2), .ref (t 3), .ref (t 4), .ref (t 5), .int u, .int cl, .int tp, .int 1]))] := hD
      refine lv_iconst (v := 0) hx hb dX9_reckon_102 (by decide) ?_
      exact W.iret (v := 0) hx hb hr (fun t ht hW => ⟨⟨(0 : Int32), (1 : Int32), rfl, trivial, ⟨by rw [ht]; exact hP, hD⟩⟩, hS.F ht⟩) hS.2.2 dX9_reckon_103 hlocks
  by_cases c_11 : n1 = 7
  · subst c_11
    refine lv_tableIn (off := 92) (tgt := 93) hx hb dX9_reckon_1 (by decide) (by decide) rfl (by decide) ?_
    refine lv_iload_n hx hb dX9_reckon_93 rfl (lv_at hl 3 rfl) ?_
    refine lv_if_ne (tgt := 104) hx hb dX9_reckon_94 (by decide) (fun c_12 => ?_) (fun c_12 => ?_)
    · refine lv_iload_n hx hb dX9_reckon_104 rfl (lv_at hl 1 rfl) ?_
      refine lv_bipush (v := 6) hx hb dX9_reckon_105 (by decide) ?_
      refine lv_icmp_ne (tgt := 116) hx hb dX9_reckon_107 (by decide) (fun _ => ?_) (fun c => absurd c (by decide))
      refine lv_iload_n hx hb dX9_reckon_116 rfl (lv_at hl 2 rfl) ?_
      refine lv_iload_n hx hb dX9_reckon_117 rfl (lv_at hl 3 rfl) ?_
      refine lv_irem hx hb dX9_reckon_118 (lf_X9_reckon_13 t u cl tp rf 7 n2 n3 c_1 c_3 c_5 c_7 rfl c_12) ?_
      refine lv_topi (fun x_14 _ => ?_)
      exact W.iret (v := x_14) hx hb hr (fun t ht hW => ⟨⟨(x_14 : Int32), (rf : Int32), rfl, trivial, ⟨by rw [ht]; exact hP, hD⟩⟩, hS.F ht⟩) hS.2.2 dX9_reckon_119 hlocks
    · refine lv_aload_n hx hb dX9_reckon_97 rfl (lv_at hl 0 rfl) ?_
      refine lv_iconst (v := 1) hx hb dX9_reckon_98 (by decide) ?_
      refine va_put (D := D) (ci := 9) (v := .int 1) (ty := .boolean) (C := RX9) (T := TX9) (N := 9) hx hb hts inT_X9 tyX9 tyX9_ok nmX9 hown hK.1 hP hD hS 0 rfl rfl 8 (by decide) (hts _ k_204) (fun _ h9 => h9) rfl (by decide +kernel) rfl rfl (Nat.le_of_ble_eq_true rfl) dX9_reckon_99 (fun H locs hP hD hS => ?_)
      have hP : va_P D vwCl [(t 0, .inr (9, [.ref (t 1), .ref (t 2), .ref (t 3), .ref (t 4), .ref (t 5), .int u, .int cl, .int tp, .int 1]))] H := hP
      have hD : va_D A [(t 0, .inr (9, [.ref (t 1), .ref (t 2), .ref (t 3), .ref (t 4), .ref (t 5), .int u, .int cl, .int tp, .int 1]))] := hD
      refine lv_iconst (v := 0) hx hb dX9_reckon_102 (by decide) ?_
      exact W.iret (v := 0) hx hb hr (fun t ht hW => ⟨⟨(0 : Int32), (1 : Int32), rfl, trivial, ⟨by rw [ht]; exact hP, hD⟩⟩, hS.F ht⟩) hS.2.2 dX9_reckon_103 hlocks
  by_cases c_15 : n1 = 8
  · subst c_15
    refine lv_tableIn (off := 59) (tgt := 60) hx hb dX9_reckon_1 (by decide) (by decide) rfl (by decide) ?_
    refine lv_iload_n hx hb dX9_reckon_60 rfl (lv_at hl 2 rfl) ?_
    refine lv_iload_n hx hb dX9_reckon_61 rfl (lv_at hl 3 rfl) ?_
    refine lv_icmp_ge (tgt := 69) hx hb dX9_reckon_62 (by decide) (fun c_16 => ?_) (fun c_16 => ?_)
    · refine lv_iconst (v := 0) hx hb dX9_reckon_69 (by decide) ?_
      exact W.iret (v := 0) hx hb hr (fun t ht hW => ⟨⟨(0 : Int32), (rf : Int32), rfl, trivial, ⟨by rw [ht]; exact hP, hD⟩⟩, hS.F ht⟩) hS.2.2 dX9_reckon_70 hlocks
    · refine lv_iconst (v := 1) hx hb dX9_reckon_65 (by decide) ?_
      refine lv_goto (tgt := 70) hx hb dX9_reckon_66 (by decide) ?_
      exact W.iret (v := 1) hx hb hr (fun t ht hW => ⟨⟨(1 : Int32), (rf : Int32), rfl, trivial, ⟨by rw [ht]; exact hP, hD⟩⟩, hS.F ht⟩) hS.2.2 dX9_reckon_70 hlocks
  by_cases c_17 : n1 = 9
  · subst c_17
    refine lv_tableIn (off := 70) (tgt := 71) hx hb dX9_reckon_1 (by decide) (by decide) rfl (by decide) ?_
    refine lv_iload_n hx hb dX9_reckon_71 rfl (lv_at hl 2 rfl) ?_
    refine lv_iload_n hx hb dX9_reckon_72 rfl (lv_at hl 3 rfl) ?_
    refine lv_icmp_le (tgt := 80) hx hb dX9_reckon_73 (by decide) (fun c_18 => ?_) (fun c_18 => ?_)
    · refine lv_iconst (v := 0) hx hb dX9_reckon_80 (by decide) ?_
      exact W.iret (v := 0) hx hb hr (fun t ht hW => ⟨⟨(0 : Int32), (rf : Int32), rfl, trivial, ⟨by rw [ht]; exact hP, hD⟩⟩, hS.F ht⟩) hS.2.2 dX9_reckon_81 hlocks
    · refine lv_iconst (v := 1) hx hb dX9_reckon_76 (by decide) ?_
      refine lv_goto (tgt := 81) hx hb dX9_reckon_77 (by decide) ?_
      exact W.iret (v := 1) hx hb hr (fun t ht hW => ⟨⟨(1 : Int32), (rf : Int32), rfl, trivial, ⟨by rw [ht]; exact hP, hD⟩⟩, hS.F ht⟩) hS.2.2 dX9_reckon_81 hlocks
  by_cases c_19 : n1 = 10
  · subst c_19
    refine lv_tableIn (off := 81) (tgt := 82) hx hb dX9_reckon_1 (by decide) (by decide) rfl (by decide) ?_
    refine lv_iload_n hx hb dX9_reckon_82 rfl (lv_at hl 2 rfl) ?_
    refine lv_iload_n hx hb dX9_reckon_83 rfl (lv_at hl 3 rfl) ?_
    refine lv_icmp_ne (tgt := 91) hx hb dX9_reckon_84 (by decide) (fun c_20 => ?_) (fun c_20 => ?_)
    · refine lv_iconst (v := 0) hx hb dX9_reckon_91 (by decide) ?_
      exact W.iret (v := 0) hx hb hr (fun t ht hW => ⟨⟨(0 : Int32), (rf : Int32), rfl, trivial, ⟨by rw [ht]; exact hP, hD⟩⟩, hS.F ht⟩) hS.2.2 dX9_reckon_92 hlocks
    · refine lv_iconst (v := 1) hx hb dX9_reckon_87 (by decide) ?_
      refine lv_goto (tgt := 92) hx hb dX9_reckon_88 (by decide) ?_
      exact W.iret (v := 1) hx hb hr (fun t ht hW => ⟨⟨(1 : Int32), (rf : Int32), rfl, trivial, ⟨by rw [ht]; exact hP, hD⟩⟩, hS.F ht⟩) hS.2.2 dX9_reckon_92 hlocks
  refine lv_tableOut (tgt := 93) hx hb dX9_reckon_1 (lf_X9_reckon_21 t u cl tp rf n1 n2 n3 c_1 c_3 c_5 c_7 c_11 c_15 c_17 c_19) (by decide) ?_
  refine lv_iload_n hx hb dX9_reckon_93 rfl (lv_at hl 3 rfl) ?_
  refine lv_if_ne (tgt := 104) hx hb dX9_reckon_94 (by decide) (fun c_22 => ?_) (fun c_22 => ?_)
  · refine lv_iload_n hx hb dX9_reckon_104 rfl (lv_at hl 1 rfl) ?_
    refine lv_bipush (v := 6) hx hb dX9_reckon_105 (by decide) ?_
    refine lv_icmp_ne (tgt := 116) hx hb dX9_reckon_107 (by decide) (fun c_23 => ?_) (fun c_23 => ?_)
    · refine lv_iload_n hx hb dX9_reckon_116 rfl (lv_at hl 2 rfl) ?_
      refine lv_iload_n hx hb dX9_reckon_117 rfl (lv_at hl 3 rfl) ?_
      refine lv_irem hx hb dX9_reckon_118 (lf_X9_reckon_24 t u cl tp rf n1 n2 n3 c_1 c_3 c_5 c_7 c_11 c_15 c_17 c_19 c_22 c_23) ?_
      refine lv_topi (fun x_25 _ => ?_)
      exact W.iret (v := x_25) hx hb hr (fun t ht hW => ⟨⟨(x_25 : Int32), (rf : Int32), rfl, trivial, ⟨by rw [ht]; exact hP, hD⟩⟩, hS.F ht⟩) hS.2.2 dX9_reckon_119 hlocks
    · refine lv_iload_n hx hb dX9_reckon_110 rfl (lv_at hl 2 rfl) ?_
      refine lv_iload_n hx hb dX9_reckon_111 rfl (lv_at hl 3 rfl) ?_
      refine lv_idiv hx hb dX9_reckon_112 (lf_X9_reckon_26 t u cl tp rf n1 n2 n3 c_1 c_3 c_5 c_7 c_11 c_15 c_17 c_19 c_22 c_23) ?_
      refine lv_topi (fun x_27 _ => ?_)
      refine lv_goto (tgt := 119) hx hb dX9_reckon_113 (by decide) ?_
      exact W.iret (v := x_27) hx hb hr (fun t ht hW => ⟨⟨(x_27 : Int32), (rf : Int32), rfl, trivial, ⟨by rw [ht]; exact hP, hD⟩⟩, hS.F ht⟩) hS.2.2 dX9_reckon_119 hlocks
  · refine lv_aload_n hx hb dX9_reckon_97 rfl (lv_at hl 0 rfl) ?_
    refine lv_iconst (v := 1) hx hb dX9_reckon_98 (by decide) ?_
    refine va_put (D := D) (ci := 9) (v := .int 1) (ty := .boolean) (C := RX9) (T := TX9) (N := 9) hx hb hts inT_X9 tyX9 tyX9_ok nmX9 hown hK.1 hP hD hS 0 rfl rfl 8 (by decide) (hts _ k_204) (fun _ h9 => h9) rfl (by decide +kernel) rfl rfl (Nat.le_of_ble_eq_true rfl) dX9_reckon_99 (fun H locs hP hD hS => ?_)
    have hP : va_P D vwCl [(t 0, .inr (9, [.ref (t 1), .ref (t 2), .ref (t 3), .ref (t 4), .ref (t 5), .int u, .int cl, .int tp, .int 1]))] H := hP
    have hD : va_D A [(t 0, .inr (9, [.ref (t 1), .ref (t 2), .ref (t 3), .ref (t 4), .ref (t 5), .int u, .int cl, .int tp, .int 1]))] := hD
    refine lv_iconst (v := 0) hx hb dX9_reckon_102 (by decide) ?_
    exact W.iret (v := 0) hx hb hr (fun t ht hW => ⟨⟨(0 : Int32), (1 : Int32), rfl, trivial, ⟨by rw [ht]; exact hP, hD⟩⟩, hS.F ht⟩) hS.2.2 dX9_reckon_103 hlocks

theorem lf_X11_held_3 (n1 : Int32) (n2 : Int32) (n3 : Int32) (x_1 : Int32) (x_2 : Int32) : True := by
  trivial
set_option maxHeartbeats 4000000 in
set_option maxRecDepth 100000 in
theorem c_X11_held (l : Launch) (D : va_G) (cI cB cZ cJ : ClassId) (tx : List (ClassId × FieldType)) (n1 : Int32) (n2 : Int32) (n3 : Int32) : RdI l D cI cB cZ cJ tx yX11_held cX11_held 3 (some .int) 1 [.int n1, .int n2, .int n3] [] (fun r => True) := by
  refine rdi_of2 (by decide) (Nat.le_of_ble_eq_true rfl) ?_
  intro p e s m below meth c A ls H locs hC hK hP hD hA hS hl
  obtain ⟨hx, hb, hr, hml, hown, hts, hlocks, hin⟩ := hC
  have hown : s.vm.findClass RX11 = some m.cls := hown
  have hl : lv_has ls 3 [(0, .int n1), (1, .int n2), (2, .int n3)] := hl
  refine lv_iload_n hx hb dX11_held_0 rfl (lv_at hl 1 rfl) ?_
  refine lv_iload_n hx hb dX11_held_1 rfl (lv_at hl 2 rfl) ?_
  refine lv_iload_n hx hb dX11_held_2 rfl (lv_at hl 0 rfl) ?_
  refine va_mmin hx hb (by rw [hml]; exact hl.1.symm) hown (hts _ k_810) (hts _ k_608) (hts _ k_131) (hts _ k_609) (Nat.le_of_ble_eq_true rfl) (Nat.le_of_ble_eq_true rfl) (Nat.le_of_ble_eq_true rfl) (Nat.le_of_ble_eq_true rfl) dX11_held_3 ?_
  refine lv_topi (fun x_1 _ => ?_)
  refine va_mmax hx hb (by rw [hml]; exact hl.1.symm) hown (hts _ k_811) (hts _ k_605) (hts _ k_131) (hts _ k_606) (Nat.le_of_ble_eq_true rfl) (Nat.le_of_ble_eq_true rfl) (Nat.le_of_ble_eq_true rfl) (Nat.le_of_ble_eq_true rfl) dX11_held_6 ?_
  refine lv_topi (fun x_2 _ => ?_)
  exact W.iret (v := x_2) hx hb hr (fun t ht hW => ⟨⟨(x_2 : Int32), (), rfl, (lf_X11_held_3 n1 n2 n3 x_1 x_2), trivial⟩, hS.F ht⟩) hS.2.2 dX11_held_9 hlocks

theorem lf_X9_stepOn_1 (t : Nat → Nat) (u : Int32) (cl : Int32) (rf : Int32) (p1 : Nat) (fs : Nat → Int32) (fk : Nat → Int32) (fl : Nat → Int32) (b1 : Nat) (j0 : Nat) (hp : p1 ≤ 32) (hst : ∀ j, j < 200 → 0 ≤ fs j) (hj : j0 < 200) : vp_in (nI j0) 200 := by
  exact shr_in (hst j0 hj) (by assumption) (by assumption)
theorem lf_X9_stepOn_2 (t : Nat → Nat) (u : Int32) (cl : Int32) (rf : Int32) (p1 : Nat) (fs : Nat → Int32) (fk : Nat → Int32) (fl : Nat → Int32) (b1 : Nat) (j0 : Nat) (hp : p1 ≤ 32) (hst : ∀ j, j < 200 → 0 ≤ fs j) (hj : j0 < 200) : j0 < 200 := by
  omega
theorem lf_X9_stepOn_4 (t : Nat → Nat) (u : Int32) (cl : Int32) (rf : Int32) (p1 : Nat) (fs : Nat → Int32) (fk : Nat → Int32) (fl : Nat → Int32) (b1 : Nat) (j0 : Nat) (hp : p1 ≤ 32) (hst : ∀ j, j < 200 → 0 ≤ fs j) (hj : j0 < 200) (x_3 : Int32) (ex_3 : x_3 = fs j0 &&& 15) : vp_in (nI j0) 200 := by
  exact shr_in (hst j0 hj) (by assumption) (by assumption)
theorem lf_X9_stepOn_5 (t : Nat → Nat) (u : Int32) (cl : Int32) (rf : Int32) (p1 : Nat) (fs : Nat → Int32) (fk : Nat → Int32) (fl : Nat → Int32) (b1 : Nat) (j0 : Nat) (hp : p1 ≤ 32) (hst : ∀ j, j < 200 → 0 ≤ fs j) (hj : j0 < 200) (x_3 : Int32) (ex_3 : x_3 = fs j0 &&& 15) : j0 < 200 := by
  omega
theorem lf_X9_stepOn_8 (t : Nat → Nat) (u : Int32) (cl : Int32) (rf : Int32) (p1 : Nat) (fs : Nat → Int32) (fk : Nat → Int32) (fl : Nat → Int32) (b1 : Nat) (j0 : Nat) (hp : p1 ≤ 32) (hst : ∀ j, j < 200 → 0 ≤ fs j) (hj : j0 < 200) (x_3 : Int32) (ex_3 : x_3 = fs j0 &&& 15) (x_6 : Int32) (ex_6 : x_6 = fs j0 >>> (4 &&& 31)) (c_7 : x_3 = 1) : p1 ≤ 32 := by
  first | assumption | omega
theorem lf_X9_stepOn_11 (t : Nat → Nat) (u : Int32) (cl : Int32) (rf : Int32) (p1 : Nat) (fs : Nat → Int32) (fk : Nat → Int32) (fl : Nat → Int32) (b1 : Nat) (j0 : Nat) (hp : p1 ≤ 32) (hst : ∀ j, j < 200 → 0 ≤ fs j) (hj : j0 < 200) (x_3 : Int32) (ex_3 : x_3 = fs j0 &&& 15) (x_6 : Int32) (ex_6 : x_6 = fs j0 >>> (4 &&& 31)) (c_7 : x_3 = 1) (pa_10 : Nat) (fa_10 : Nat → Int32) (hz_10 : pa_10 ≤ 32) : pa_10 ≤ 32 := by
  omega
theorem lf_X9_stepOn_14 (t : Nat → Nat) (u : Int32) (cl : Int32) (rf : Int32) (p1 : Nat) (fs : Nat → Int32) (fk : Nat → Int32) (fl : Nat → Int32) (b1 : Nat) (j0 : Nat) (hp : p1 ≤ 32) (hst : ∀ j, j < 200 → 0 ≤ fs j) (hj : j0 < 200) (x_3 : Int32) (ex_3 : x_3 = fs j0 &&& 15) (x_6 : Int32) (ex_6 : x_6 = fs j0 >>> (4 &&& 31)) (c_7 : ¬ x_3 = 1) (c_12 : x_3 = 2) (c_13 : 26 ≤ x_6) : p1 ≤ 32 := by
  first | assumption | omega
theorem lf_X9_stepOn_17 (t : Nat → Nat) (u : Int32) (cl : Int32) (rf : Int32) (p1 : Nat) (fs : Nat → Int32) (fk : Nat → Int32) (fl : Nat → Int32) (b1 : Nat) (j0 : Nat) (hp : p1 ≤ 32) (hst : ∀ j, j < 200 → 0 ≤ fs j) (hj : j0 < 200) (x_3 : Int32) (ex_3 : x_3 = fs j0 &&& 15) (x_6 : Int32) (ex_6 : x_6 = fs j0 >>> (4 &&& 31)) (c_7 : ¬ x_3 = 1) (c_12 : x_3 = 2) (c_13 : 26 ≤ x_6) (pa_16 : Nat) (fa_16 : Nat → Int32) (hz_16 : pa_16 ≤ 32) : pa_16 ≤ 32 := by
  omega
theorem lf_X9_stepOn_18 (t : Nat → Nat) (u : Int32) (cl : Int32) (rf : Int32) (p1 : Nat) (fs : Nat → Int32) (fk : Nat → Int32) (fl : Nat → Int32) (b1 : Nat) (j0 : Nat) (hp : p1 ≤ 32) (hst : ∀ j, j < 200 → 0 ≤ fs j) (hj : j0 < 200) (x_3 : Int32) (ex_3 : x_3 = fs j0 &&& 15) (x_6 : Int32) (ex_6 : x_6 = fs j0 >>> (4 &&& 31)) (c_7 : ¬ x_3 = 1) (c_12 : x_3 = 2) (c_13 : ¬ 26 ≤ x_6) : vp_in x_6 26 := by
  exact shr_in (hst j0 hj) (by assumption) (by assumption)
theorem lf_X9_stepOn_20 (t : Nat → Nat) (u : Int32) (cl : Int32) (rf : Int32) (p1 : Nat) (fs : Nat → Int32) (fk : Nat → Int32) (fl : Nat → Int32) (b1 : Nat) (j0 : Nat) (hp : p1 ≤ 32) (hst : ∀ j, j < 200 → 0 ≤ fs j) (hj : j0 < 200) (x_3 : Int32) (ex_3 : x_3 = fs j0 &&& 15) (x_6 : Int32) (ex_6 : x_6 = fs j0 >>> (4 &&& 31)) (c_7 : ¬ x_3 = 1) (c_12 : x_3 = 2) (c_13 : ¬ 26 ≤ x_6) (x_19 : Int32) : p1 ≤ 32 := by
  first | assumption | omega
theorem lf_X9_stepOn_23 (t : Nat → Nat) (u : Int32) (cl : Int32) (rf : Int32) (p1 : Nat) (fs : Nat → Int32) (fk : Nat → Int32) (fl : Nat → Int32) (b1 : Nat) (j0 : Nat) (hp : p1 ≤ 32) (hst : ∀ j, j < 200 → 0 ≤ fs j) (hj : j0 < 200) (x_3 : Int32) (ex_3 : x_3 = fs j0 &&& 15) (x_6 : Int32) (ex_6 : x_6 = fs j0 >>> (4 &&& 31)) (c_7 : ¬ x_3 = 1) (c_12 : x_3 = 2) (c_13 : ¬ 26 ≤ x_6) (x_19 : Int32) (pa_22 : Nat) (fa_22 : Nat → Int32) (hz_22 : pa_22 ≤ 32) : pa_22 ≤ 32 := by
  omega
theorem lf_X9_stepOn_25 (t : Nat → Nat) (u : Int32) (cl : Int32) (rf : Int32) (p1 : Nat) (fs : Nat → Int32) (fk : Nat → Int32) (fl : Nat → Int32) (b1 : Nat) (j0 : Nat) (hp : p1 ≤ 32) (hst : ∀ j, j < 200 → 0 ≤ fs j) (hj : j0 < 200) (x_3 : Int32) (ex_3 : x_3 = fs j0 &&& 15) (x_6 : Int32) (ex_6 : x_6 = fs j0 >>> (4 &&& 31)) (c_7 : ¬ x_3 = 1) (c_12 : ¬ x_3 = 2) (c_24 : x_3 = 3) : p1 ≤ 32 := by
  first | assumption | omega
theorem lf_X9_stepOn_28 (t : Nat → Nat) (u : Int32) (cl : Int32) (rf : Int32) (p1 : Nat) (fs : Nat → Int32) (fk : Nat → Int32) (fl : Nat → Int32) (b1 : Nat) (j0 : Nat) (hp : p1 ≤ 32) (hst : ∀ j, j < 200 → 0 ≤ fs j) (hj : j0 < 200) (x_3 : Int32) (ex_3 : x_3 = fs j0 &&& 15) (x_6 : Int32) (ex_6 : x_6 = fs j0 >>> (4 &&& 31)) (c_7 : ¬ x_3 = 1) (c_12 : ¬ x_3 = 2) (c_24 : x_3 = 3) (pa_27 : Nat) (hz_27 : pa_27 ≤ 32) (r_26 : Int32) (wr_26 : True) : pa_27 ≤ 32 := by
  first | assumption | omega
theorem lf_X9_stepOn_33 (t : Nat → Nat) (u : Int32) (cl : Int32) (rf : Int32) (p1 : Nat) (fs : Nat → Int32) (fk : Nat → Int32) (fl : Nat → Int32) (b1 : Nat) (j0 : Nat) (hp : p1 ≤ 32) (hst : ∀ j, j < 200 → 0 ≤ fs j) (hj : j0 < 200) (x_3 : Int32) (ex_3 : x_3 = fs j0 &&& 15) (x_6 : Int32) (ex_6 : x_6 = fs j0 >>> (4 &&& 31)) (c_7 : ¬ x_3 = 1) (c_12 : ¬ x_3 = 2) (c_24 : x_3 = 3) (pa_27 : Nat) (hz_27 : pa_27 ≤ 32) (r_26 : Int32) (wr_26 : True) (pa_30 : Nat) (hz_30 : pa_30 ≤ 32) (r_29 : Int32) (wr_29 : True) (ra_32 : Int32) (hz_32 : True) (r_31 : Int32) (wr_31 : True) : pa_30 ≤ 32 := by
  first | assumption | omega
theorem lf_X9_stepOn_36 (t : Nat → Nat) (u : Int32) (cl : Int32) (rf : Int32) (p1 : Nat) (fs : Nat → Int32) (fk : Nat → Int32) (fl : Nat → Int32) (b1 : Nat) (j0 : Nat) (hp : p1 ≤ 32) (hst : ∀ j, j < 200 → 0 ≤ fs j) (hj : j0 < 200) (x_3 : Int32) (ex_3 : x_3 = fs j0 &&& 15) (x_6 : Int32) (ex_6 : x_6 = fs j0 >>> (4 &&& 31)) (c_7 : ¬ x_3 = 1) (c_12 : ¬ x_3 = 2) (c_24 : x_3 = 3) (pa_27 : Nat) (hz_27 : pa_27 ≤ 32) (r_26 : Int32) (wr_26 : True) (pa_30 : Nat) (hz_30 : pa_30 ≤ 32) (r_29 : Int32) (wr_29 : True) (ra_32 : Int32) (hz_32 : True) (r_31 : Int32) (wr_31 : True) (pa_35 : Nat) (fa_35 : Nat → Int32) (hz_35 : pa_35 ≤ 32) : pa_35 ≤ 32 := by
  omega
theorem lf_X9_stepOn_38 (t : Nat → Nat) (u : Int32) (cl : Int32) (rf : Int32) (p1 : Nat) (fs : Nat → Int32) (fk : Nat → Int32) (fl : Nat → Int32) (b1 : Nat) (j0 : Nat) (hp : p1 ≤ 32) (hst : ∀ j, j < 200 → 0 ≤ fs j) (hj : j0 < 200) (x_3 : Int32) (ex_3 : x_3 = fs j0 &&& 15) (x_6 : Int32) (ex_6 : x_6 = fs j0 >>> (4 &&& 31)) (c_7 : ¬ x_3 = 1) (c_12 : ¬ x_3 = 2) (c_24 : ¬ x_3 = 3) (c_37 : x_3 = 4) : p1 ≤ 32 := by
  first | assumption | omega
theorem lf_X9_stepOn_41 (t : Nat → Nat) (u : Int32) (cl : Int32) (rf : Int32) (p1 : Nat) (fs : Nat → Int32) (fk : Nat → Int32) (fl : Nat → Int32) (b1 : Nat) (j0 : Nat) (hp : p1 ≤ 32) (hst : ∀ j, j < 200 → 0 ≤ fs j) (hj : j0 < 200) (x_3 : Int32) (ex_3 : x_3 = fs j0 &&& 15) (x_6 : Int32) (ex_6 : x_6 = fs j0 >>> (4 &&& 31)) (c_7 : ¬ x_3 = 1) (c_12 : ¬ x_3 = 2) (c_24 : ¬ x_3 = 3) (c_37 : x_3 = 4) (pa_40 : Nat) (hz_40 : pa_40 ≤ 32) (r_39 : Int32) (wr_39 : True) : pa_40 ≤ 32 := by
  first | assumption | omega
theorem lf_X9_stepOn_46 (t : Nat → Nat) (u : Int32) (cl : Int32) (rf : Int32) (p1 : Nat) (fs : Nat → Int32) (fk : Nat → Int32) (fl : Nat → Int32) (b1 : Nat) (j0 : Nat) (hp : p1 ≤ 32) (hst : ∀ j, j < 200 → 0 ≤ fs j) (hj : j0 < 200) (x_3 : Int32) (ex_3 : x_3 = fs j0 &&& 15) (x_6 : Int32) (ex_6 : x_6 = fs j0 >>> (4 &&& 31)) (c_7 : ¬ x_3 = 1) (c_12 : ¬ x_3 = 2) (c_24 : ¬ x_3 = 3) (c_37 : x_3 = 4) (pa_40 : Nat) (hz_40 : pa_40 ≤ 32) (r_39 : Int32) (wr_39 : True) (pa_43 : Nat) (hz_43 : pa_43 ≤ 32) (r_42 : Int32) (wr_42 : True) (ra_45 : Int32) (hz_45 : True) (r_44 : Int32) (wr_44 : True) : pa_43 ≤ 32 := by
  first | assumption | omega
theorem lf_X9_stepOn_49 (t : Nat → Nat) (u : Int32) (cl : Int32) (rf : Int32) (p1 : Nat) (fs : Nat → Int32) (fk : Nat → Int32) (fl : Nat → Int32) (b1 : Nat) (j0 : Nat) (hp : p1 ≤ 32) (hst : ∀ j, j < 200 → 0 ≤ fs j) (hj : j0 < 200) (x_3 : Int32) (ex_3 : x_3 = fs j0 &&& 15) (x_6 : Int32) (ex_6 : x_6 = fs j0 >>> (4 &&& 31)) (c_7 : ¬ x_3 = 1) (c_12 : ¬ x_3 = 2) (c_24 : ¬ x_3 = 3) (c_37 : x_3 = 4) (pa_40 : Nat) (hz_40 : pa_40 ≤ 32) (r_39 : Int32) (wr_39 : True) (pa_43 : Nat) (hz_43 : pa_43 ≤ 32) (r_42 : Int32) (wr_42 : True) (ra_45 : Int32) (hz_45 : True) (r_44 : Int32) (wr_44 : True) (pa_48 : Nat) (fa_48 : Nat → Int32) (hz_48 : pa_48 ≤ 32) : pa_48 ≤ 32 := by
  omega
theorem lf_X9_stepOn_51 (t : Nat → Nat) (u : Int32) (cl : Int32) (rf : Int32) (p1 : Nat) (fs : Nat → Int32) (fk : Nat → Int32) (fl : Nat → Int32) (b1 : Nat) (j0 : Nat) (hp : p1 ≤ 32) (hst : ∀ j, j < 200 → 0 ≤ fs j) (hj : j0 < 200) (x_3 : Int32) (ex_3 : x_3 = fs j0 &&& 15) (x_6 : Int32) (ex_6 : x_6 = fs j0 >>> (4 &&& 31)) (c_7 : ¬ x_3 = 1) (c_12 : ¬ x_3 = 2) (c_24 : ¬ x_3 = 3) (c_37 : ¬ x_3 = 4) (c_50 : x_3 = 5) : p1 ≤ 32 := by
  first | assumption | omega
theorem lf_X9_stepOn_54 (t : Nat → Nat) (u : Int32) (cl : Int32) (rf : Int32) (p1 : Nat) (fs : Nat → Int32) (fk : Nat → Int32) (fl : Nat → Int32) (b1 : Nat) (j0 : Nat) (hp : p1 ≤ 32) (hst : ∀ j, j < 200 → 0 ≤ fs j) (hj : j0 < 200) (x_3 : Int32) (ex_3 : x_3 = fs j0 &&& 15) (x_6 : Int32) (ex_6 : x_6 = fs j0 >>> (4 &&& 31)) (c_7 : ¬ x_3 = 1) (c_12 : ¬ x_3 = 2) (c_24 : ¬ x_3 = 3) (c_37 : ¬ x_3 = 4) (c_50 : x_3 = 5) (pa_53 : Nat) (hz_53 : pa_53 ≤ 32) (r_52 : Int32) (wr_52 : True) : pa_53 ≤ 32 := by
  first | assumption | omega
theorem lf_X9_stepOn_59 (t : Nat → Nat) (u : Int32) (cl : Int32) (rf : Int32) (p1 : Nat) (fs : Nat → Int32) (fk : Nat → Int32) (fl : Nat → Int32) (b1 : Nat) (j0 : Nat) (hp : p1 ≤ 32) (hst : ∀ j, j < 200 → 0 ≤ fs j) (hj : j0 < 200) (x_3 : Int32) (ex_3 : x_3 = fs j0 &&& 15) (x_6 : Int32) (ex_6 : x_6 = fs j0 >>> (4 &&& 31)) (c_7 : ¬ x_3 = 1) (c_12 : ¬ x_3 = 2) (c_24 : ¬ x_3 = 3) (c_37 : ¬ x_3 = 4) (c_50 : x_3 = 5) (pa_53 : Nat) (hz_53 : pa_53 ≤ 32) (r_52 : Int32) (wr_52 : True) (pa_56 : Nat) (hz_56 : pa_56 ≤ 32) (r_55 : Int32) (wr_55 : True) (ra_58 : Int32) (hz_58 : True) (r_57 : Int32) (wr_57 : True) : pa_56 ≤ 32 := by
  first | assumption | omega
theorem lf_X9_stepOn_62 (t : Nat → Nat) (u : Int32) (cl : Int32) (rf : Int32) (p1 : Nat) (fs : Nat → Int32) (fk : Nat → Int32) (fl : Nat → Int32) (b1 : Nat) (j0 : Nat) (hp : p1 ≤ 32) (hst : ∀ j, j < 200 → 0 ≤ fs j) (hj : j0 < 200) (x_3 : Int32) (ex_3 : x_3 = fs j0 &&& 15) (x_6 : Int32) (ex_6 : x_6 = fs j0 >>> (4 &&& 31)) (c_7 : ¬ x_3 = 1) (c_12 : ¬ x_3 = 2) (c_24 : ¬ x_3 = 3) (c_37 : ¬ x_3 = 4) (c_50 : x_3 = 5) (pa_53 : Nat) (hz_53 : pa_53 ≤ 32) (r_52 : Int32) (wr_52 : True) (pa_56 : Nat) (hz_56 : pa_56 ≤ 32) (r_55 : Int32) (wr_55 : True) (ra_58 : Int32) (hz_58 : True) (r_57 : Int32) (wr_57 : True) (pa_61 : Nat) (fa_61 : Nat → Int32) (hz_61 : pa_61 ≤ 32) : pa_61 ≤ 32 := by
  omega
theorem lf_X9_stepOn_64 (t : Nat → Nat) (u : Int32) (cl : Int32) (rf : Int32) (p1 : Nat) (fs : Nat → Int32) (fk : Nat → Int32) (fl : Nat → Int32) (b1 : Nat) (j0 : Nat) (hp : p1 ≤ 32) (hst : ∀ j, j < 200 → 0 ≤ fs j) (hj : j0 < 200) (x_3 : Int32) (ex_3 : x_3 = fs j0 &&& 15) (x_6 : Int32) (ex_6 : x_6 = fs j0 >>> (4 &&& 31)) (c_7 : ¬ x_3 = 1) (c_12 : ¬ x_3 = 2) (c_24 : ¬ x_3 = 3) (c_37 : ¬ x_3 = 4) (c_50 : ¬ x_3 = 5) (c_63 : x_3 = 6) : p1 ≤ 32 := by
  first | assumption | omega
theorem lf_X9_stepOn_67 (t : Nat → Nat) (u : Int32) (cl : Int32) (rf : Int32) (p1 : Nat) (fs : Nat → Int32) (fk : Nat → Int32) (fl : Nat → Int32) (b1 : Nat) (j0 : Nat) (hp : p1 ≤ 32) (hst : ∀ j, j < 200 → 0 ≤ fs j) (hj : j0 < 200) (x_3 : Int32) (ex_3 : x_3 = fs j0 &&& 15) (x_6 : Int32) (ex_6 : x_6 = fs j0 >>> (4 &&& 31)) (c_7 : ¬ x_3 = 1) (c_12 : ¬ x_3 = 2) (c_24 : ¬ x_3 = 3) (c_37 : ¬ x_3 = 4) (c_50 : ¬ x_3 = 5) (c_63 : x_3 = 6) (pa_66 : Nat) (hz_66 : pa_66 ≤ 32) (r_65 : Int32) (wr_65 : True) : pa_66 ≤ 32 := by
  first | assumption | omega
theorem lf_X9_stepOn_72 (t : Nat → Nat) (u : Int32) (cl : Int32) (rf : Int32) (p1 : Nat) (fs : Nat → Int32) (fk : Nat → Int32) (fl : Nat → Int32) (b1 : Nat) (j0 : Nat) (hp : p1 ≤ 32) (hst : ∀ j, j < 200 → 0 ≤ fs j) (hj : j0 < 200) (x_3 : Int32) (ex_3 : x_3 = fs j0 &&& 15) (x_6 : Int32) (ex_6 : x_6 = fs j0 >>> (4 &&& 31)) (c_7 : ¬ x_3 = 1) (c_12 : ¬ x_3 = 2) (c_24 : ¬ x_3 = 3) (c_37 : ¬ x_3 = 4) (c_50 : ¬ x_3 = 5) (c_63 : x_3 = 6) (pa_66 : Nat) (hz_66 : pa_66 ≤ 32) (r_65 : Int32) (wr_65 : True) (pa_69 : Nat) (hz_69 : pa_69 ≤ 32) (r_68 : Int32) (wr_68 : True) (ra_71 : Int32) (hz_71 : True) (r_70 : Int32) (wr_70 : True) : pa_69 ≤ 32 := by
  first | assumption | omega
theorem lf_X9_stepOn_75 (t : Nat → Nat) (u : Int32) (cl : Int32) (rf : Int32) (p1 : Nat) (fs : Nat → Int32) (fk : Nat → Int32) (fl : Nat → Int32) (b1 : Nat) (j0 : Nat) (hp : p1 ≤ 32) (hst : ∀ j, j < 200 → 0 ≤ fs j) (hj : j0 < 200) (x_3 : Int32) (ex_3 : x_3 = fs j0 &&& 15) (x_6 : Int32) (ex_6 : x_6 = fs j0 >>> (4 &&& 31)) (c_7 : ¬ x_3 = 1) (c_12 : ¬ x_3 = 2) (c_24 : ¬ x_3 = 3) (c_37 : ¬ x_3 = 4) (c_50 : ¬ x_3 = 5) (c_63 : x_3 = 6) (pa_66 : Nat) (hz_66 : pa_66 ≤ 32) (r_65 : Int32) (wr_65 : True) (pa_69 : Nat) (hz_69 : pa_69 ≤ 32) (r_68 : Int32) (wr_68 : True) (ra_71 : Int32) (hz_71 : True) (r_70 : Int32) (wr_70 : True) (pa_74 : Nat) (fa_74 : Nat → Int32) (hz_74 : pa_74 ≤ 32) : pa_74 ≤ 32 := by
  omega
theorem lf_X9_stepOn_77 (t : Nat → Nat) (u : Int32) (cl : Int32) (rf : Int32) (p1 : Nat) (fs : Nat → Int32) (fk : Nat → Int32) (fl : Nat → Int32) (b1 : Nat) (j0 : Nat) (hp : p1 ≤ 32) (hst : ∀ j, j < 200 → 0 ≤ fs j) (hj : j0 < 200) (x_3 : Int32) (ex_3 : x_3 = fs j0 &&& 15) (x_6 : Int32) (ex_6 : x_6 = fs j0 >>> (4 &&& 31)) (c_7 : ¬ x_3 = 1) (c_12 : ¬ x_3 = 2) (c_24 : ¬ x_3 = 3) (c_37 : ¬ x_3 = 4) (c_50 : ¬ x_3 = 5) (c_63 : ¬ x_3 = 6) (c_76 : x_3 = 7) : p1 ≤ 32 := by
  first | assumption | omega
theorem lf_X9_stepOn_80 (t : Nat → Nat) (u : Int32) (cl : Int32) (rf : Int32) (p1 : Nat) (fs : Nat → Int32) (fk : Nat → Int32) (fl : Nat → Int32) (b1 : Nat) (j0 : Nat) (hp : p1 ≤ 32) (hst : ∀ j, j < 200 → 0 ≤ fs j) (hj : j0 < 200) (x_3 : Int32) (ex_3 : x_3 = fs j0 &&& 15) (x_6 : Int32) (ex_6 : x_6 = fs j0 >>> (4 &&& 31)) (c_7 : ¬ x_3 = 1) (c_12 : ¬ x_3 = 2) (c_24 : ¬ x_3 = 3) (c_37 : ¬ x_3 = 4) (c_50 : ¬ x_3 = 5) (c_63 : ¬ x_3 = 6) (c_76 : x_3 = 7) (pa_79 : Nat) (hz_79 : pa_79 ≤ 32) (r_78 : Int32) (wr_78 : True) : pa_79 ≤ 32 := by
  first | assumption | omega
theorem lf_X9_stepOn_85 (t : Nat → Nat) (u : Int32) (cl : Int32) (rf : Int32) (p1 : Nat) (fs : Nat → Int32) (fk : Nat → Int32) (fl : Nat → Int32) (b1 : Nat) (j0 : Nat) (hp : p1 ≤ 32) (hst : ∀ j, j < 200 → 0 ≤ fs j) (hj : j0 < 200) (x_3 : Int32) (ex_3 : x_3 = fs j0 &&& 15) (x_6 : Int32) (ex_6 : x_6 = fs j0 >>> (4 &&& 31)) (c_7 : ¬ x_3 = 1) (c_12 : ¬ x_3 = 2) (c_24 : ¬ x_3 = 3) (c_37 : ¬ x_3 = 4) (c_50 : ¬ x_3 = 5) (c_63 : ¬ x_3 = 6) (c_76 : x_3 = 7) (pa_79 : Nat) (hz_79 : pa_79 ≤ 32) (r_78 : Int32) (wr_78 : True) (pa_82 : Nat) (hz_82 : pa_82 ≤ 32) (r_81 : Int32) (wr_81 : True) (ra_84 : Int32) (hz_84 : True) (r_83 : Int32) (wr_83 : True) : pa_82 ≤ 32 := by
  first | assumption | omega
theorem lf_X9_stepOn_88 (t : Nat → Nat) (u : Int32) (cl : Int32) (rf : Int32) (p1 : Nat) (fs : Nat → Int32) (fk : Nat → Int32) (fl : Nat → Int32) (b1 : Nat) (j0 : Nat) (hp : p1 ≤ 32) (hst : ∀ j, j < 200 → 0 ≤ fs j) (hj : j0 < 200) (x_3 : Int32) (ex_3 : x_3 = fs j0 &&& 15) (x_6 : Int32) (ex_6 : x_6 = fs j0 >>> (4 &&& 31)) (c_7 : ¬ x_3 = 1) (c_12 : ¬ x_3 = 2) (c_24 : ¬ x_3 = 3) (c_37 : ¬ x_3 = 4) (c_50 : ¬ x_3 = 5) (c_63 : ¬ x_3 = 6) (c_76 : x_3 = 7) (pa_79 : Nat) (hz_79 : pa_79 ≤ 32) (r_78 : Int32) (wr_78 : True) (pa_82 : Nat) (hz_82 : pa_82 ≤ 32) (r_81 : Int32) (wr_81 : True) (ra_84 : Int32) (hz_84 : True) (r_83 : Int32) (wr_83 : True) (pa_87 : Nat) (fa_87 : Nat → Int32) (hz_87 : pa_87 ≤ 32) : pa_87 ≤ 32 := by
  omega
theorem lf_X9_stepOn_90 (t : Nat → Nat) (u : Int32) (cl : Int32) (rf : Int32) (p1 : Nat) (fs : Nat → Int32) (fk : Nat → Int32) (fl : Nat → Int32) (b1 : Nat) (j0 : Nat) (hp : p1 ≤ 32) (hst : ∀ j, j < 200 → 0 ≤ fs j) (hj : j0 < 200) (x_3 : Int32) (ex_3 : x_3 = fs j0 &&& 15) (x_6 : Int32) (ex_6 : x_6 = fs j0 >>> (4 &&& 31)) (c_7 : ¬ x_3 = 1) (c_12 : ¬ x_3 = 2) (c_24 : ¬ x_3 = 3) (c_37 : ¬ x_3 = 4) (c_50 : ¬ x_3 = 5) (c_63 : ¬ x_3 = 6) (c_76 : ¬ x_3 = 7) (c_89 : x_3 = 8) : p1 ≤ 32 := by
  first | assumption | omega
theorem lf_X9_stepOn_93 (t : Nat → Nat) (u : Int32) (cl : Int32) (rf : Int32) (p1 : Nat) (fs : Nat → Int32) (fk : Nat → Int32) (fl : Nat → Int32) (b1 : Nat) (j0 : Nat) (hp : p1 ≤ 32) (hst : ∀ j, j < 200 → 0 ≤ fs j) (hj : j0 < 200) (x_3 : Int32) (ex_3 : x_3 = fs j0 &&& 15) (x_6 : Int32) (ex_6 : x_6 = fs j0 >>> (4 &&& 31)) (c_7 : ¬ x_3 = 1) (c_12 : ¬ x_3 = 2) (c_24 : ¬ x_3 = 3) (c_37 : ¬ x_3 = 4) (c_50 : ¬ x_3 = 5) (c_63 : ¬ x_3 = 6) (c_76 : ¬ x_3 = 7) (c_89 : x_3 = 8) (pa_92 : Nat) (hz_92 : pa_92 ≤ 32) (r_91 : Int32) (wr_91 : True) : pa_92 ≤ 32 := by
  first | assumption | omega
theorem lf_X9_stepOn_98 (t : Nat → Nat) (u : Int32) (cl : Int32) (rf : Int32) (p1 : Nat) (fs : Nat → Int32) (fk : Nat → Int32) (fl : Nat → Int32) (b1 : Nat) (j0 : Nat) (hp : p1 ≤ 32) (hst : ∀ j, j < 200 → 0 ≤ fs j) (hj : j0 < 200) (x_3 : Int32) (ex_3 : x_3 = fs j0 &&& 15) (x_6 : Int32) (ex_6 : x_6 = fs j0 >>> (4 &&& 31)) (c_7 : ¬ x_3 = 1) (c_12 : ¬ x_3 = 2) (c_24 : ¬ x_3 = 3) (c_37 : ¬ x_3 = 4) (c_50 : ¬ x_3 = 5) (c_63 : ¬ x_3 = 6) (c_76 : ¬ x_3 = 7) (c_89 : x_3 = 8) (pa_92 : Nat) (hz_92 : pa_92 ≤ 32) (r_91 : Int32) (wr_91 : True) (pa_95 : Nat) (hz_95 : pa_95 ≤ 32) (r_94 : Int32) (wr_94 : True) (ra_97 : Int32) (hz_97 : True) (r_96 : Int32) (wr_96 : True) : pa_95 ≤ 32 := by
  first | assumption | omega
theorem lf_X9_stepOn_101 (t : Nat → Nat) (u : Int32) (cl : Int32) (rf : Int32) (p1 : Nat) (fs : Nat → Int32) (fk : Nat → Int32) (fl : Nat → Int32) (b1 : Nat) (j0 : Nat) (hp : p1 ≤ 32) (hst : ∀ j, j < 200 → 0 ≤ fs j) (hj : j0 < 200) (x_3 : Int32) (ex_3 : x_3 = fs j0 &&& 15) (x_6 : Int32) (ex_6 : x_6 = fs j0 >>> (4 &&& 31)) (c_7 : ¬ x_3 = 1) (c_12 : ¬ x_3 = 2) (c_24 : ¬ x_3 = 3) (c_37 : ¬ x_3 = 4) (c_50 : ¬ x_3 = 5) (c_63 : ¬ x_3 = 6) (c_76 : ¬ x_3 = 7) (c_89 : x_3 = 8) (pa_92 : Nat) (hz_92 : pa_92 ≤ 32) (r_91 : Int32) (wr_91 : True) (pa_95 : Nat) (hz_95 : pa_95 ≤ 32) (r_94 : Int32) (wr_94 : True) (ra_97 : Int32) (hz_97 : True) (r_96 : Int32) (wr_96 : True) (pa_100 : Nat) (fa_100 : Nat → Int32) (hz_100 : pa_100 ≤ 32) : pa_100 ≤ 32 := by
  omega
theorem lf_X9_stepOn_103 (t : Nat → Nat) (u : Int32) (cl : Int32) (rf : Int32) (p1 : Nat) (fs : Nat → Int32) (fk : Nat → Int32) (fl : Nat → Int32) (b1 : Nat) (j0 : Nat) (hp : p1 ≤ 32) (hst : ∀ j, j < 200 → 0 ≤ fs j) (hj : j0 < 200) (x_3 : Int32) (ex_3 : x_3 = fs j0 &&& 15) (x_6 : Int32) (ex_6 : x_6 = fs j0 >>> (4 &&& 31)) (c_7 : ¬ x_3 = 1) (c_12 : ¬ x_3 = 2) (c_24 : ¬ x_3 = 3) (c_37 : ¬ x_3 = 4) (c_50 : ¬ x_3 = 5) (c_63 : ¬ x_3 = 6) (c_76 : ¬ x_3 = 7) (c_89 : ¬ x_3 = 8) (c_102 : x_3 = 9) : p1 ≤ 32 := by
  first | assumption | omega
theorem lf_X9_stepOn_106 (t : Nat → Nat) (u : Int32) (cl : Int32) (rf : Int32) (p1 : Nat) (fs : Nat → Int32) (fk : Nat → Int32) (fl : Nat → Int32) (b1 : Nat) (j0 : Nat) (hp : p1 ≤ 32) (hst : ∀ j, j < 200 → 0 ≤ fs j) (hj : j0 < 200) (x_3 : Int32) (ex_3 : x_3 = fs j0 &&& 15) (x_6 : Int32) (ex_6 : x_6 = fs j0 >>> (4 &&& 31)) (c_7 : ¬ x_3 = 1) (c_12 : ¬ x_3 = 2) (c_24 : ¬ x_3 = 3) (c_37 : ¬ x_3 = 4) (c_50 : ¬ x_3 = 5) (c_63 : ¬ x_3 = 6) (c_76 : ¬ x_3 = 7) (c_89 : ¬ x_3 = 8) (c_102 : x_3 = 9) (pa_105 : Nat) (hz_105 : pa_105 ≤ 32) (r_104 : Int32) (wr_104 : True) : pa_105 ≤ 32 := by
  first | assumption | omega
theorem lf_X9_stepOn_111 (t : Nat → Nat) (u : Int32) (cl : Int32) (rf : Int32) (p1 : Nat) (fs : Nat → Int32) (fk : Nat → Int32) (fl : Nat → Int32) (b1 : Nat) (j0 : Nat) (hp : p1 ≤ 32) (hst : ∀ j, j < 200 → 0 ≤ fs j) (hj : j0 < 200) (x_3 : Int32) (ex_3 : x_3 = fs j0 &&& 15) (x_6 : Int32) (ex_6 : x_6 = fs j0 >>> (4 &&& 31)) (c_7 : ¬ x_3 = 1) (c_12 : ¬ x_3 = 2) (c_24 : ¬ x_3 = 3) (c_37 : ¬ x_3 = 4) (c_50 : ¬ x_3 = 5) (c_63 : ¬ x_3 = 6) (c_76 : ¬ x_3 = 7) (c_89 : ¬ x_3 = 8) (c_102 : x_3 = 9) (pa_105 : Nat) (hz_105 : pa_105 ≤ 32) (r_104 : Int32) (wr_104 : True) (pa_108 : Nat) (hz_108 : pa_108 ≤ 32) (r_107 : Int32) (wr_107 : True) (ra_110 : Int32) (hz_110 : True) (r_109 : Int32) (wr_109 : True) : pa_108 ≤ 32 := by
  first | assumption | omega
theorem lf_X9_stepOn_114 (t : Nat → Nat) (u : Int32) (cl : Int32) (rf : Int32) (p1 : Nat) (fs : Nat → Int32) (fk : Nat → Int32) (fl : Nat → Int32) (b1 : Nat) (j0 : Nat) (hp : p1 ≤ 32) (hst : ∀ j, j < 200 → 0 ≤ fs j) (hj : j0 < 200) (x_3 : Int32) (ex_3 : x_3 = fs j0 &&& 15) (x_6 : Int32) (ex_6 : x_6 = fs j0 >>> (4 &&& 31)) (c_7 : ¬ x_3 = 1) (c_12 : ¬ x_3 = 2) (c_24 : ¬ x_3 = 3) (c_37 : ¬ x_3 = 4) (c_50 : ¬ x_3 = 5) (c_63 : ¬ x_3 = 6) (c_76 : ¬ x_3 = 7) (c_89 : ¬ x_3 = 8) (c_102 : x_3 = 9) (pa_105 : Nat) (hz_105 : pa_105 ≤ 32) (r_104 : Int32) (wr_104 : True) (pa_108 : Nat) (hz_108 : pa_108 ≤ 32) (r_107 : Int32) (wr_107 : True) (ra_110 : Int32) (hz_110 : True) (r_109 : Int32) (wr_109 : True) (pa_113 : Nat) (fa_113 : Nat → Int32) (hz_113 : pa_113 ≤ 32) : pa_113 ≤ 32 := by
  omega
theorem lf_X9_stepOn_116 (t : Nat → Nat) (u : Int32) (cl : Int32) (rf : Int32) (p1 : Nat) (fs : Nat → Int32) (fk : Nat → Int32) (fl : Nat → Int32) (b1 : Nat) (j0 : Nat) (hp : p1 ≤ 32) (hst : ∀ j, j < 200 → 0 ≤ fs j) (hj : j0 < 200) (x_3 : Int32) (ex_3 : x_3 = fs j0 &&& 15) (x_6 : Int32) (ex_6 : x_6 = fs j0 >>> (4 &&& 31)) (c_7 : ¬ x_3 = 1) (c_12 : ¬ x_3 = 2) (c_24 : ¬ x_3 = 3) (c_37 : ¬ x_3 = 4) (c_50 : ¬ x_3 = 5) (c_63 : ¬ x_3 = 6) (c_76 : ¬ x_3 = 7) (c_89 : ¬ x_3 = 8) (c_102 : ¬ x_3 = 9) (c_115 : x_3 = 10) : p1 ≤ 32 := by
  first | assumption | omega
theorem lf_X9_stepOn_119 (t : Nat → Nat) (u : Int32) (cl : Int32) (rf : Int32) (p1 : Nat) (fs : Nat → Int32) (fk : Nat → Int32) (fl : Nat → Int32) (b1 : Nat) (j0 : Nat) (hp : p1 ≤ 32) (hst : ∀ j, j < 200 → 0 ≤ fs j) (hj : j0 < 200) (x_3 : Int32) (ex_3 : x_3 = fs j0 &&& 15) (x_6 : Int32) (ex_6 : x_6 = fs j0 >>> (4 &&& 31)) (c_7 : ¬ x_3 = 1) (c_12 : ¬ x_3 = 2) (c_24 : ¬ x_3 = 3) (c_37 : ¬ x_3 = 4) (c_50 : ¬ x_3 = 5) (c_63 : ¬ x_3 = 6) (c_76 : ¬ x_3 = 7) (c_89 : ¬ x_3 = 8) (c_102 : ¬ x_3 = 9) (c_115 : x_3 = 10) (pa_118 : Nat) (hz_118 : pa_118 ≤ 32) (r_117 : Int32) (wr_117 : True) : pa_118 ≤ 32 := by
  first | assumption | omega
theorem lf_X9_stepOn_124 (t : Nat → Nat) (u : Int32) (cl : Int32) (rf : Int32) (p1 : Nat) (fs : Nat → Int32) (fk : Nat → Int32) (fl : Nat → Int32) (b1 : Nat) (j0 : Nat) (hp : p1 ≤ 32) (hst : ∀ j, j < 200 → 0 ≤ fs j) (hj : j0 < 200) (x_3 : Int32) (ex_3 : x_3 = fs j0 &&& 15) (x_6 : Int32) (ex_6 : x_6 = fs j0 >>> (4 &&& 31)) (c_7 : ¬ x_3 = 1) (c_12 : ¬ x_3 = 2) (c_24 : ¬ x_3 = 3) (c_37 : ¬ x_3 = 4) (c_50 : ¬ x_3 = 5) (c_63 : ¬ x_3 = 6) (c_76 : ¬ x_3 = 7) (c_89 : ¬ x_3 = 8) (c_102 : ¬ x_3 = 9) (c_115 : x_3 = 10) (pa_118 : Nat) (hz_118 : pa_118 ≤ 32) (r_117 : Int32) (wr_117 : True) (pa_121 : Nat) (hz_121 : pa_121 ≤ 32) (r_120 : Int32) (wr_120 : True) (ra_123 : Int32) (hz_123 : True) (r_122 : Int32) (wr_122 : True) : pa_121 ≤ 32 := by
  first | assumption | omega
theorem lf_X9_stepOn_127 (t : Nat → Nat) (u : Int32) (cl : Int32) (rf : Int32) (p1 : Nat) (fs : Nat → Int32) (fk : Nat → Int32) (fl : Nat → Int32) (b1 : Nat) (j0 : Nat) (hp : p1 ≤ 32) (hst : ∀ j, j < 200 → 0 ≤ fs j) (hj : j0 < 200) (x_3 : Int32) (ex_3 : x_3 = fs j0 &&& 15) (x_6 : Int32) (ex_6 : x_6 = fs j0 >>> (4 &&& 31)) (c_7 : ¬ x_3 = 1) (c_12 : ¬ x_3 = 2) (c_24 : ¬ x_3 = 3) (c_37 : ¬ x_3 = 4) (c_50 : ¬ x_3 = 5) (c_63 : ¬ x_3 = 6) (c_76 : ¬ x_3 = 7) (c_89 : ¬ x_3 = 8) (c_102 : ¬ x_3 = 9) (c_115 : x_3 = 10) (pa_118 : Nat) (hz_118 : pa_118 ≤ 32) (r_117 : Int32) (wr_117 : True) (pa_121 : Nat) (hz_121 : pa_121 ≤ 32) (r_120 : Int32) (wr_120 : True) (ra_123 : Int32) (hz_123 : True) (r_122 : Int32) (wr_122 : True) (pa_126 : Nat) (fa_126 : Nat → Int32) (hz_126 : pa_126 ≤ 32) : pa_126 ≤ 32 := by
  omega
theorem lf_X9_stepOn_129 (t : Nat → Nat) (u : Int32) (cl : Int32) (rf : Int32) (p1 : Nat) (fs : Nat → Int32) (fk : Nat → Int32) (fl : Nat → Int32) (b1 : Nat) (j0 : Nat) (hp : p1 ≤ 32) (hst : ∀ j, j < 200 → 0 ≤ fs j) (hj : j0 < 200) (x_3 : Int32) (ex_3 : x_3 = fs j0 &&& 15) (x_6 : Int32) (ex_6 : x_6 = fs j0 >>> (4 &&& 31)) (c_7 : ¬ x_3 = 1) (c_12 : ¬ x_3 = 2) (c_24 : ¬ x_3 = 3) (c_37 : ¬ x_3 = 4) (c_50 : ¬ x_3 = 5) (c_63 : ¬ x_3 = 6) (c_76 : ¬ x_3 = 7) (c_89 : ¬ x_3 = 8) (c_102 : ¬ x_3 = 9) (c_115 : ¬ x_3 = 10) (c_128 : x_3 = 11) : p1 ≤ 32 := by
  first | assumption | omega
theorem lf_X9_stepOn_133 (t : Nat → Nat) (u : Int32) (cl : Int32) (rf : Int32) (p1 : Nat) (fs : Nat → Int32) (fk : Nat → Int32) (fl : Nat → Int32) (b1 : Nat) (j0 : Nat) (hp : p1 ≤ 32) (hst : ∀ j, j < 200 → 0 ≤ fs j) (hj : j0 < 200) (x_3 : Int32) (ex_3 : x_3 = fs j0 &&& 15) (x_6 : Int32) (ex_6 : x_6 = fs j0 >>> (4 &&& 31)) (c_7 : ¬ x_3 = 1) (c_12 : ¬ x_3 = 2) (c_24 : ¬ x_3 = 3) (c_37 : ¬ x_3 = 4) (c_50 : ¬ x_3 = 5) (c_63 : ¬ x_3 = 6) (c_76 : ¬ x_3 = 7) (c_89 : ¬ x_3 = 8) (c_102 : ¬ x_3 = 9) (c_115 : ¬ x_3 = 10) (c_128 : x_3 = 11) (pa_131 : Nat) (hz_131 : pa_131 ≤ 32) (r_130 : Int32) (wr_130 : True) (x_132 : Int32) (ex_132 : x_132 = 1 - r_130) : pa_131 ≤ 32 := by
  first | assumption | omega
theorem lf_X9_stepOn_136 (t : Nat → Nat) (u : Int32) (cl : Int32) (rf : Int32) (p1 : Nat) (fs : Nat → Int32) (fk : Nat → Int32) (fl : Nat → Int32) (b1 : Nat) (j0 : Nat) (hp : p1 ≤ 32) (hst : ∀ j, j < 200 → 0 ≤ fs j) (hj : j0 < 200) (x_3 : Int32) (ex_3 : x_3 = fs j0 &&& 15) (x_6 : Int32) (ex_6 : x_6 = fs j0 >>> (4 &&& 31)) (c_7 : ¬ x_3 = 1) (c_12 : ¬ x_3 = 2) (c_24 : ¬ x_3 = 3) (c_37 : ¬ x_3 = 4) (c_50 : ¬ x_3 = 5) (c_63 : ¬ x_3 = 6) (c_76 : ¬ x_3 = 7) (c_89 : ¬ x_3 = 8) (c_102 : ¬ x_3 = 9) (c_115 : ¬ x_3 = 10) (c_128 : x_3 = 11) (pa_131 : Nat) (hz_131 : pa_131 ≤ 32) (r_130 : Int32) (wr_130 : True) (x_132 : Int32) (ex_132 : x_132 = 1 - r_130) (pa_135 : Nat) (fa_135 : Nat → Int32) (hz_135 : pa_135 ≤ 32) : pa_135 ≤ 32 := by
  omega
theorem lf_X9_stepOn_138 (t : Nat → Nat) (u : Int32) (cl : Int32) (rf : Int32) (p1 : Nat) (fs : Nat → Int32) (fk : Nat → Int32) (fl : Nat → Int32) (b1 : Nat) (j0 : Nat) (hp : p1 ≤ 32) (hst : ∀ j, j < 200 → 0 ≤ fs j) (hj : j0 < 200) (x_3 : Int32) (ex_3 : x_3 = fs j0 &&& 15) (x_6 : Int32) (ex_6 : x_6 = fs j0 >>> (4 &&& 31)) (c_7 : ¬ x_3 = 1) (c_12 : ¬ x_3 = 2) (c_24 : ¬ x_3 = 3) (c_37 : ¬ x_3 = 4) (c_50 : ¬ x_3 = 5) (c_63 : ¬ x_3 = 6) (c_76 : ¬ x_3 = 7) (c_89 : ¬ x_3 = 8) (c_102 : ¬ x_3 = 9) (c_115 : ¬ x_3 = 10) (c_128 : ¬ x_3 = 11) (c_137 : x_3 = 12) : p1 ≤ 32 := by
  first | assumption | omega
theorem lf_X9_stepOn_142 (t : Nat → Nat) (u : Int32) (cl : Int32) (rf : Int32) (p1 : Nat) (fs : Nat → Int32) (fk : Nat → Int32) (fl : Nat → Int32) (b1 : Nat) (j0 : Nat) (hp : p1 ≤ 32) (hst : ∀ j, j < 200 → 0 ≤ fs j) (hj : j0 < 200) (x_3 : Int32) (ex_3 : x_3 = fs j0 &&& 15) (x_6 : Int32) (ex_6 : x_6 = fs j0 >>> (4 &&& 31)) (c_7 : ¬ x_3 = 1) (c_12 : ¬ x_3 = 2) (c_24 : ¬ x_3 = 3) (c_37 : ¬ x_3 = 4) (c_50 : ¬ x_3 = 5) (c_63 : ¬ x_3 = 6) (c_76 : ¬ x_3 = 7) (c_89 : ¬ x_3 = 8) (c_102 : ¬ x_3 = 9) (c_115 : ¬ x_3 = 10) (c_128 : ¬ x_3 = 11) (c_137 : x_3 = 12) (pa_140 : Nat) (hz_140 : pa_140 ≤ 32) (r_139 : Int32) (wr_139 : True) (c_141 : ¬ r_139 = 0) : pa_140 ≤ 32 := by
  omega
theorem lf_X9_stepOn_143 (t : Nat → Nat) (u : Int32) (cl : Int32) (rf : Int32) (p1 : Nat) (fs : Nat → Int32) (fk : Nat → Int32) (fl : Nat → Int32) (b1 : Nat) (j0 : Nat) (hp : p1 ≤ 32) (hst : ∀ j, j < 200 → 0 ≤ fs j) (hj : j0 < 200) (x_3 : Int32) (ex_3 : x_3 = fs j0 &&& 15) (x_6 : Int32) (ex_6 : x_6 = fs j0 >>> (4 &&& 31)) (c_7 : ¬ x_3 = 1) (c_12 : ¬ x_3 = 2) (c_24 : ¬ x_3 = 3) (c_37 : ¬ x_3 = 4) (c_50 : ¬ x_3 = 5) (c_63 : ¬ x_3 = 6) (c_76 : ¬ x_3 = 7) (c_89 : ¬ x_3 = 8) (c_102 : ¬ x_3 = 9) (c_115 : ¬ x_3 = 10) (c_128 : ¬ x_3 = 11) (c_137 : x_3 = 12) (pa_140 : Nat) (hz_140 : pa_140 ≤ 32) (r_139 : Int32) (wr_139 : True) (c_141 : r_139 = 0) : pa_140 ≤ 32 := by
  first | assumption | omega
theorem lf_X9_stepOn_146 (t : Nat → Nat) (u : Int32) (cl : Int32) (rf : Int32) (p1 : Nat) (fs : Nat → Int32) (fk : Nat → Int32) (fl : Nat → Int32) (b1 : Nat) (j0 : Nat) (hp : p1 ≤ 32) (hst : ∀ j, j < 200 → 0 ≤ fs j) (hj : j0 < 200) (x_3 : Int32) (ex_3 : x_3 = fs j0 &&& 15) (x_6 : Int32) (ex_6 : x_6 = fs j0 >>> (4 &&& 31)) (c_7 : ¬ x_3 = 1) (c_12 : ¬ x_3 = 2) (c_24 : ¬ x_3 = 3) (c_37 : ¬ x_3 = 4) (c_50 : ¬ x_3 = 5) (c_63 : ¬ x_3 = 6) (c_76 : ¬ x_3 = 7) (c_89 : ¬ x_3 = 8) (c_102 : ¬ x_3 = 9) (c_115 : ¬ x_3 = 10) (c_128 : ¬ x_3 = 11) (c_137 : x_3 = 12) (pa_140 : Nat) (hz_140 : pa_140 ≤ 32) (r_139 : Int32) (wr_139 : True) (c_141 : r_139 = 0) (pa_145 : Nat) (fa_145 : Nat → Int32) (hz_145 : pa_145 ≤ 32) : pa_145 ≤ 32 := by
  omega
theorem lf_X9_stepOn_148 (t : Nat → Nat) (u : Int32) (cl : Int32) (rf : Int32) (p1 : Nat) (fs : Nat → Int32) (fk : Nat → Int32) (fl : Nat → Int32) (b1 : Nat) (j0 : Nat) (hp : p1 ≤ 32) (hst : ∀ j, j < 200 → 0 ≤ fs j) (hj : j0 < 200) (x_3 : Int32) (ex_3 : x_3 = fs j0 &&& 15) (x_6 : Int32) (ex_6 : x_6 = fs j0 >>> (4 &&& 31)) (c_7 : ¬ x_3 = 1) (c_12 : ¬ x_3 = 2) (c_24 : ¬ x_3 = 3) (c_37 : ¬ x_3 = 4) (c_50 : ¬ x_3 = 5) (c_63 : ¬ x_3 = 6) (c_76 : ¬ x_3 = 7) (c_89 : ¬ x_3 = 8) (c_102 : ¬ x_3 = 9) (c_115 : ¬ x_3 = 10) (c_128 : ¬ x_3 = 11) (c_137 : ¬ x_3 = 12) (c_147 : x_3 = 13) : p1 ≤ 32 := by
  first | assumption | omega
theorem lf_X9_stepOn_152 (t : Nat → Nat) (u : Int32) (cl : Int32) (rf : Int32) (p1 : Nat) (fs : Nat → Int32) (fk : Nat → Int32) (fl : Nat → Int32) (b1 : Nat) (j0 : Nat) (hp : p1 ≤ 32) (hst : ∀ j, j < 200 → 0 ≤ fs j) (hj : j0 < 200) (x_3 : Int32) (ex_3 : x_3 = fs j0 &&& 15) (x_6 : Int32) (ex_6 : x_6 = fs j0 >>> (4 &&& 31)) (c_7 : ¬ x_3 = 1) (c_12 : ¬ x_3 = 2) (c_24 : ¬ x_3 = 3) (c_37 : ¬ x_3 = 4) (c_50 : ¬ x_3 = 5) (c_63 : ¬ x_3 = 6) (c_76 : ¬ x_3 = 7) (c_89 : ¬ x_3 = 8) (c_102 : ¬ x_3 = 9) (c_115 : ¬ x_3 = 10) (c_128 : ¬ x_3 = 11) (c_137 : ¬ x_3 = 12) (c_147 : x_3 = 13) (pa_150 : Nat) (hz_150 : pa_150 ≤ 32) (r_149 : Int32) (wr_149 : True) (c_151 : ¬ r_149 = 1) : pa_150 ≤ 32 := by
  omega
theorem lf_X9_stepOn_153 (t : Nat → Nat) (u : Int32) (cl : Int32) (rf : Int32) (p1 : Nat) (fs : Nat → Int32) (fk : Nat → Int32) (fl : Nat → Int32) (b1 : Nat) (j0 : Nat) (hp : p1 ≤ 32) (hst : ∀ j, j < 200 → 0 ≤ fs j) (hj : j0 < 200) (x_3 : Int32) (ex_3 : x_3 = fs j0 &&& 15) (x_6 : Int32) (ex_6 : x_6 = fs j0 >>> (4 &&& 31)) (c_7 : ¬ x_3 = 1) (c_12 : ¬ x_3 = 2) (c_24 : ¬ x_3 = 3) (c_37 : ¬ x_3 = 4) (c_50 : ¬ x_3 = 5) (c_63 : ¬ x_3 = 6) (c_76 : ¬ x_3 = 7) (c_89 : ¬ x_3 = 8) (c_102 : ¬ x_3 = 9) (c_115 : ¬ x_3 = 10) (c_128 : ¬ x_3 = 11) (c_137 : ¬ x_3 = 12) (c_147 : x_3 = 13) (pa_150 : Nat) (hz_150 : pa_150 ≤ 32) (r_149 : Int32) (wr_149 : True) (c_151 : r_149 = 1) : pa_150 ≤ 32 := by
  first | assumption | omega
theorem lf_X9_stepOn_156 (t : Nat → Nat) (u : Int32) (cl : Int32) (rf : Int32) (p1 : Nat) (fs : Nat → Int32) (fk : Nat → Int32) (fl : Nat → Int32) (b1 : Nat) (j0 : Nat) (hp : p1 ≤ 32) (hst : ∀ j, j < 200 → 0 ≤ fs j) (hj : j0 < 200) (x_3 : Int32) (ex_3 : x_3 = fs j0 &&& 15) (x_6 : Int32) (ex_6 : x_6 = fs j0 >>> (4 &&& 31)) (c_7 : ¬ x_3 = 1) (c_12 : ¬ x_3 = 2) (c_24 : ¬ x_3 = 3) (c_37 : ¬ x_3 = 4) (c_50 : ¬ x_3 = 5) (c_63 : ¬ x_3 = 6) (c_76 : ¬ x_3 = 7) (c_89 : ¬ x_3 = 8) (c_102 : ¬ x_3 = 9) (c_115 : ¬ x_3 = 10) (c_128 : ¬ x_3 = 11) (c_137 : ¬ x_3 = 12) (c_147 : x_3 = 13) (pa_150 : Nat) (hz_150 : pa_150 ≤ 32) (r_149 : Int32) (wr_149 : True) (c_151 : r_149 = 1) (pa_155 : Nat) (fa_155 : Nat → Int32) (hz_155 : pa_155 ≤ 32) : pa_155 ≤ 32 := by
  omega
theorem lf_X9_stepOn_157 (t : Nat → Nat) (u : Int32) (cl : Int32) (rf : Int32) (p1 : Nat) (fs : Nat → Int32) (fk : Nat → Int32) (fl : Nat → Int32) (b1 : Nat) (j0 : Nat) (hp : p1 ≤ 32) (hst : ∀ j, j < 200 → 0 ≤ fs j) (hj : j0 < 200) (x_3 : Int32) (ex_3 : x_3 = fs j0 &&& 15) (x_6 : Int32) (ex_6 : x_6 = fs j0 >>> (4 &&& 31)) (c_7 : ¬ x_3 = 1) (c_12 : ¬ x_3 = 2) (c_24 : ¬ x_3 = 3) (c_37 : ¬ x_3 = 4) (c_50 : ¬ x_3 = 5) (c_63 : ¬ x_3 = 6) (c_76 : ¬ x_3 = 7) (c_89 : ¬ x_3 = 8) (c_102 : ¬ x_3 = 9) (c_115 : ¬ x_3 = 10) (c_128 : ¬ x_3 = 11) (c_137 : ¬ x_3 = 12) (c_147 : ¬ x_3 = 13) : x_3.toInt < 1 ∨ 13 < x_3.toInt := by
  have e : ∀ k : Int32, ¬ x_3 = k → x_3.toInt ≠ k.toInt := fun k h q => h (Int32.toInt_inj.mp q)
  have e1 := e 1 ‹¬ x_3 = 1›
  have z1 : (1 : Int32).toInt = 1 := by decide
  have e2 := e 2 ‹¬ x_3 = 2›
  have z2 : (2 : Int32).toInt = 2 := by decide
  have e3 := e 3 ‹¬ x_3 = 3›
  have z3 : (3 : Int32).toInt = 3 := by decide
  have e4 := e 4 ‹¬ x_3 = 4›
  have z4 : (4 : Int32).toInt = 4 := by decide
  have e5 := e 5 ‹¬ x_3 = 5›
  have z5 : (5 : Int32).toInt = 5 := by decide
  have e6 := e 6 ‹¬ x_3 = 6›
  have z6 : (6 : Int32).toInt = 6 := by decide
  have e7 := e 7 ‹¬ x_3 = 7›
  have z7 : (7 : Int32).toInt = 7 := by decide
  have e8 := e 8 ‹¬ x_3 = 8›
  have z8 : (8 : Int32).toInt = 8 := by decide
  have e9 := e 9 ‹¬ x_3 = 9›
  have z9 : (9 : Int32).toInt = 9 := by decide
  have e10 := e 10 ‹¬ x_3 = 10›
  have z10 : (10 : Int32).toInt = 10 := by decide
  have e11 := e 11 ‹¬ x_3 = 11›
  have z11 : (11 : Int32).toInt = 11 := by decide
  have e12 := e 12 ‹¬ x_3 = 12›
  have z12 : (12 : Int32).toInt = 12 := by decide
  have e13 := e 13 ‹¬ x_3 = 13›
  have z13 : (13 : Int32).toInt = 13 := by decide
  omega
theorem lf_X9_stepOn_158 (t : Nat → Nat) (u : Int32) (cl : Int32) (rf : Int32) (p1 : Nat) (fs : Nat → Int32) (fk : Nat → Int32) (fl : Nat → Int32) (b1 : Nat) (j0 : Nat) (hp : p1 ≤ 32) (hst : ∀ j, j < 200 → 0 ≤ fs j) (hj : j0 < 200) (x_3 : Int32) (ex_3 : x_3 = fs j0 &&& 15) (x_6 : Int32) (ex_6 : x_6 = fs j0 >>> (4 &&& 31)) (c_7 : ¬ x_3 = 1) (c_12 : ¬ x_3 = 2) (c_24 : ¬ x_3 = 3) (c_37 : ¬ x_3 = 4) (c_50 : ¬ x_3 = 5) (c_63 : ¬ x_3 = 6) (c_76 : ¬ x_3 = 7) (c_89 : ¬ x_3 = 8) (c_102 : ¬ x_3 = 9) (c_115 : ¬ x_3 = 10) (c_128 : ¬ x_3 = 11) (c_137 : ¬ x_3 = 12) (c_147 : ¬ x_3 = 13) : p1 ≤ 32 := by
  first | assumption | omega
theorem lf_X9_stepOn_161 (t : Nat → Nat) (u : Int32) (cl : Int32) (rf : Int32) (p1 : Nat) (fs : Nat → Int32) (fk : Nat → Int32) (fl : Nat → Int32) (b1 : Nat) (j0 : Nat) (hp : p1 ≤ 32) (hst : ∀ j, j < 200 → 0 ≤ fs j) (hj : j0 < 200) (x_3 : Int32) (ex_3 : x_3 = fs j0 &&& 15) (x_6 : Int32) (ex_6 : x_6 = fs j0 >>> (4 &&& 31)) (c_7 : ¬ x_3 = 1) (c_12 : ¬ x_3 = 2) (c_24 : ¬ x_3 = 3) (c_37 : ¬ x_3 = 4) (c_50 : ¬ x_3 = 5) (c_63 : ¬ x_3 = 6) (c_76 : ¬ x_3 = 7) (c_89 : ¬ x_3 = 8) (c_102 : ¬ x_3 = 9) (c_115 : ¬ x_3 = 10) (c_128 : ¬ x_3 = 11) (c_137 : ¬ x_3 = 12) (c_147 : ¬ x_3 = 13) (pa_160 : Nat) (hz_160 : pa_160 ≤ 32) (r_159 : Int32) (wr_159 : True) : pa_160 ≤ 32 := by
  first | assumption | omega
theorem lf_X9_stepOn_166 (t : Nat → Nat) (u : Int32) (cl : Int32) (rf : Int32) (p1 : Nat) (fs : Nat → Int32) (fk : Nat → Int32) (fl : Nat → Int32) (b1 : Nat) (j0 : Nat) (hp : p1 ≤ 32) (hst : ∀ j, j < 200 → 0 ≤ fs j) (hj : j0 < 200) (x_3 : Int32) (ex_3 : x_3 = fs j0 &&& 15) (x_6 : Int32) (ex_6 : x_6 = fs j0 >>> (4 &&& 31)) (c_7 : ¬ x_3 = 1) (c_12 : ¬ x_3 = 2) (c_24 : ¬ x_3 = 3) (c_37 : ¬ x_3 = 4) (c_50 : ¬ x_3 = 5) (c_63 : ¬ x_3 = 6) (c_76 : ¬ x_3 = 7) (c_89 : ¬ x_3 = 8) (c_102 : ¬ x_3 = 9) (c_115 : ¬ x_3 = 10) (c_128 : ¬ x_3 = 11) (c_137 : ¬ x_3 = 12) (c_147 : ¬ x_3 = 13) (pa_160 : Nat) (hz_160 : pa_160 ≤ 32) (r_159 : Int32) (wr_159 : True) (pa_163 : Nat) (hz_163 : pa_163 ≤ 32) (r_162 : Int32) (wr_162 : True) (ra_165 : Int32) (hz_165 : True) (r_164 : Int32) (wr_164 : True) : pa_163 ≤ 32 := by
  first | assumption | omega
theorem lf_X9_stepOn_169 (t : Nat → Nat) (u : Int32) (cl : Int32) (rf : Int32) (p1 : Nat) (fs : Nat → Int32) (fk : Nat → Int32) (fl : Nat → Int32) (b1 : Nat) (j0 : Nat) (hp : p1 ≤ 32) (hst : ∀ j, j < 200 → 0 ≤ fs j) (hj : j0 < 200) (x_3 : Int32) (ex_3 : x_3 = fs j0 &&& 15) (x_6 : Int32) (ex_6 : x_6 = fs j0 >>> (4 &&& 31)) (c_7 : ¬ x_3 = 1) (c_12 : ¬ x_3 = 2) (c_24 : ¬ x_3 = 3) (c_37 : ¬ x_3 = 4) (c_50 : ¬ x_3 = 5) (c_63 : ¬ x_3 = 6) (c_76 : ¬ x_3 = 7) (c_89 : ¬ x_3 = 8) (c_102 : ¬ x_3 = 9) (c_115 : ¬ x_3 = 10) (c_128 : ¬ x_3 = 11) (c_137 : ¬ x_3 = 12) (c_147 : ¬ x_3 = 13) (pa_160 : Nat) (hz_160 : pa_160 ≤ 32) (r_159 : Int32) (wr_159 : True) (pa_163 : Nat) (hz_163 : pa_163 ≤ 32) (r_162 : Int32) (wr_162 : True) (ra_165 : Int32) (hz_165 : True) (r_164 : Int32) (wr_164 : True) (pa_168 : Nat) (fa_168 : Nat → Int32) (hz_168 : pa_168 ≤ 32) : pa_168 ≤ 32 := by
  omega
set_option maxHeartbeats 4000000 in
set_option maxRecDepth 100000 in
theorem c_X9_stepOn (l : Launch) (D : va_G) (cI cB cZ cJ : ClassId) (tx : List (ClassId × FieldType)) (t : Nat → Nat) (u : Int32) (cl : Int32) (rf : Int32) (p1 : Nat) (fs : Nat → Int32) (fk : Nat → Int32) (fl : Nat → Int32) (b1 : Nat) (j0 : Nat) (hp : p1 ≤ 32) (hst : ∀ j, j < 200 → 0 ≤ fs j) (hj : j0 < 200) : WrI l D cI cB cZ cJ tx yX9_stepOn cX9_stepOn 6 (some .int) 1 0 0 [.ref (t 0), .int (nI j0), .ref b1] [(t 0, .inr (9, [.ref (t 1), .ref (t 2), .ref (t 3), .ref (t 4), .ref (t 5), .int u, .int cl, .int (nI p1), .int rf])), (t 1, .inl (cI, 200, .inl fs)), (t 2, .inl (cI, 32, .inl fk)), (b1, .inl (cI, 26, .inl fl))] (fun (_ : Int32) (v : Nat × Int32 × (Nat → Int32)) => v.1 ≤ 32) (fun v => [(t 0, .inr (9, [.ref (t 1), .ref (t 2), .ref (t 3), .ref (t 4), .ref (t 5), .int u, .int cl, .int (nI v.1), .int v.2.1])), (t 1, .inl (cI, 200, .inl fs)), (t 2, .inl (cI, 32, .inl v.2.2)), (b1, .inl (cI, 26, .inl fl))]) := by
  refine wri_of2 (by decide) (Nat.le_of_ble_eq_true rfl) ?_
  intro p e s m below meth c A ls H locs hC hK hP hD hA hS hl
  obtain ⟨hx, hb, hr, hml, hown, hts, hlocks, hin⟩ := hC
  have hown : s.vm.findClass RX9 = some m.cls := hown
  have hl : lv_has ls 6 [(0, .ref (t 0)), (1, .int (nI j0)), (2, .ref b1)] := hl
  refine lv_aload_n hx hb dX9_stepOn_0 rfl (lv_at hl 0 rfl) ?_
  refine va_get (D := D) (ci := 9) (v := .ref (t 1)) (C := RX9) (T := TX9) (N := 9) hx hb hts inT_X9 hown hK.1 hP 0 rfl rfl 0 (by decide) (hts _ k_194) (fun _ h9 => h9) rfl dX9_stepOn_1 ?_
  refine lv_iload_n hx hb dX9_stepOn_4 rfl (lv_at hl 1 rfl) ?_
  refine lt_i (j := j0) hx hb hK hP 1 rfl (lf_X9_stepOn_2 t u cl rf p1 fs fk fl b1 j0 hp hst hj) (by decide) dX9_stepOn_5 ?_
  refine lv_bipush (v := 15) hx hb dX9_stepOn_6 (by decide) ?_
  refine lv_iand hx hb dX9_stepOn_8 ?_
  refine lv_topi (fun x_3 ex_3 => ?_)
  refine lv_istore_n (lv' := [(3, .int x_3), (0, .ref (t 0)), (1, .int (nI j0)), (2, .ref b1)]) hx hb dX9_stepOn_9 rfl hl (by decide) rfl (fun ls hl => ?_)
  refine lv_aload_n hx hb dX9_stepOn_10 rfl (lv_at hl 1 rfl) ?_
  refine va_get (D := D) (ci := 9) (v := .ref (t 1)) (C := RX9) (T := TX9) (N := 9) hx hb hts inT_X9 hown hK.1 hP 0 rfl rfl 0 (by decide) (hts _ k_194) (fun _ h9 => h9) rfl dX9_stepOn_11 ?_
  refine lv_iload_n hx hb dX9_stepOn_14 rfl (lv_at hl 2 rfl) ?_
  refine lt_i (j := j0) hx hb hK hP 1 rfl (lf_X9_stepOn_5 t u cl rf p1 fs fk fl b1 j0 hp hst hj x_3 ex_3) (by decide) dX9_stepOn_15 ?_
  refine lv_iconst (v := 4) hx hb dX9_stepOn_16 (by decide) ?_
  refine lv_ishr hx hb dX9_stepOn_17 ?_
  refine lv_topi (fun x_6 ex_6 => ?_)
  refine lv_istore (lv' := [(4, .int x_6), (3, .int x_3), (0, .ref (t 0)), (1, .int (nI j0)), (2, .ref b1)]) hx hb dX9_stepOn_18 hl (by decide) rfl (fun ls hl => ?_)
  refine lv_iload_n hx hb dX9_stepOn_20 rfl (lv_at hl 1 rfl) ?_
  by_cases c_7 : x_3 = 1
  · subst c_7
    refine lv_tableIn (off := 67) (tgt := 88) hx hb dX9_stepOn_21 (by decide) (by decide) rfl (by decide) ?_
    refine lv_aload_n hx hb dX9_stepOn_88 rfl (lv_at hl 2 rfl) ?_
    refine lv_iload hx hb dX9_stepOn_89 (lv_at hl 0 rfl) ?_
    refine eWv (wr := [(t 1, .inl (cI, 200, .inl fs)), (b1, .inl (cI, 26, .inl fl))]) (va_runV (As := [.int x_6]) (rest := []) ⟨hx, hb, hml, hown, hts⟩ (c_X9_push l D cI cB cZ cJ tx t u cl rf p1 fk x_6 (lf_X9_stepOn_8 t u cl rf p1 fs fk fl b1 j0 hp hst hj 1 ex_3 x_6 ex_6 rfl) H.size) (zV hts k_795 v_X9_push ⟨Nat.le_of_ble_eq_true rfl, Nat.le_of_ble_eq_true rfl⟩) (pV (pxS hK hP hD [0, 2] (by decide) rfl) hK hP 0 rfl rfl) rfl rfl hl.1 rfl (lv_room (Nat.le_of_ble_eq_true rfl)) dX9_stepOn_91 ⟨Nat.le_of_ble_eq_true rfl, Nat.le_of_ble_eq_true rfl⟩) hP hD hS hA [0, 2] [1, 3] rfl rfl (by decide) (by decide) (fun u_10 H locs wr_9 hP hD hS => ?_)
    obtain ⟨pa_10, fa_10⟩ := u_10
    have hz_10 : pa_10 ≤ 32 := wr_9
    have hP : va_P D vwCl [(t 1, .inl (cI, 200, .inl fs)), (b1, .inl (cI, 26, .inl fl)), (t 0, .inr (9, [.ref (t 1), .ref (t 2), .ref (t 3), .ref (t 4), .ref (t 5), .int u, .int cl, .int (nI pa_10), .int rf])), (t 2, .inl (cI, 32, .inl fa_10))] H := hP
    have hD : va_D A [(t 1, .inl (cI, 200, .inl fs)), (b1, .inl (cI, 26, .inl fl)), (t 0, .inr (9, [.ref (t 1), .ref (t 2), .ref (t 3), .ref (t 4), .ref (t 5), .int u, .int cl, .int (nI pa_10), .int rf])), (t 2, .inl (cI, 32, .inl fa_10))] := hD
    refine lv_iload_n hx hb dX9_stepOn_94 rfl (lv_at hl 3 rfl) ?_
    refine lv_iconst (v := 1) hx hb dX9_stepOn_95 (by decide) ?_
    refine lv_iadd hx hb dX9_stepOn_96 ?_
    refine lv_topv (y := nI (j0 + 1)) (nI_add j0 1) ?_
    have hP := hP.sub (ws' := [(t 0, .inr (9, [.ref (t 1), .ref (t 2), .ref (t 3), .ref (t 4), .ref (t 5), .int u, .int cl, .int (nI pa_10), .int rf])), (t 1, .inl (cI, 200, .inl fs)), (t 2, .inl (cI, 32, .inl fa_10)), (b1, .inl (cI, 26, .inl fl))]) [2, 0, 3, 1] rfl
    have hD := hD.sub (ws' := [(t 0, .inr (9, [.ref (t 1), .ref (t 2), .ref (t 3), .ref (t 4), .ref (t 5), .int u, .int cl, .int (nI pa_10), .int rf])), (t 1, .inl (cI, 200, .inl fs)), (t 2, .inl (cI, 32, .inl fa_10)), (b1, .inl (cI, 26, .inl fl))]) [2, 0, 3, 1] (by decide) rfl
    exact W.iret (v := nI (j0 + 1)) hx hb hr (fun t ht hW => ⟨⟨(nI (j0 + 1) : Int32), (pa_10, (rf : Int32), fa_10), rfl, (lf_X9_stepOn_11 t u cl rf p1 fs fk fl b1 j0 hp hst hj 1 ex_3 x_6 ex_6 rfl pa_10 fa_10 hz_10), ⟨by rw [ht]; exact hP, hD⟩⟩, hS.F ht⟩) hS.2.2 dX9_stepOn_97 hlocks
  by_cases c_12 : x_3 = 2
  · subst c_12
    refine lv_tableIn (off := 77) (tgt := 98) hx hb dX9_stepOn_21 (by decide) (by decide) rfl (by decide) ?_
    refine lv_aload_n hx hb dX9_stepOn_98 rfl (lv_at hl 2 rfl) ?_
    refine lv_iload hx hb dX9_stepOn_99 (lv_at hl 0 rfl) ?_
    refine lv_aload_n hx hb dX9_stepOn_101 rfl (lv_at hl 4 rfl) ?_
    refine ln_x (v := 26) hx hb hK hP 3 0 rfl rfl (show Int32.ofNat 26 = 26 from by decide) dX9_stepOn_102 ?_
    refine lv_icmp_ge (tgt := 113) hx hb dX9_stepOn_103 (by decide) (fun c_13 => ?_) (fun c_13 => ?_)
    · refine lv_iconst (v := 0) hx hb dX9_stepOn_113 (by decide) ?_
      refine eWv (wr := [(t 1, .inl (cI, 200, .inl fs)), (b1, .inl (cI, 26, .inl fl))]) (va_runV (As := [.int 0]) (rest := []) ⟨hx, hb, hml, hown, hts⟩ (c_X9_push l D cI cB cZ cJ tx t u cl rf p1 fk 0 (lf_X9_stepOn_14 t u cl rf p1 fs fk fl b1 j0 hp hst hj 2 ex_3 x_6 ex_6 c_7 rfl c_13) H.size) (zV hts k_795 v_X9_push ⟨Nat.le_of_ble_eq_true rfl, Nat.le_of_ble_eq_true rfl⟩) (pV (pxS hK hP hD [0, 2] (by decide) rfl) hK hP 0 rfl rfl) rfl rfl hl.1 rfl (lv_room (Nat.le_of_ble_eq_true rfl)) dX9_stepOn_114 ⟨Nat.le_of_ble_eq_true rfl, Nat.le_of_ble_eq_true rfl⟩) hP hD hS hA [0, 2] [1, 3] rfl rfl (by decide) (by decide) (fun u_16 H locs wr_15 hP hD hS => ?_)
      obtain ⟨pa_16, fa_16⟩ := u_16
      have hz_16 : pa_16 ≤ 32 := wr_15
      have hP : va_P D vwCl [(t 1, .inl (cI, 200, .inl fs)), (b1, .inl (cI, 26, .inl fl)), (t 0, .inr (9, [.ref (t 1), .ref (t 2), .ref (t 3), .ref (t 4), .ref (t 5), .int u, .int cl, .int (nI pa_16), .int rf])), (t 2, .inl (cI, 32, .inl fa_16))] H := hP
      have hD : va_D A [(t 1, .inl (cI, 200, .inl fs)), (b1, .inl (cI, 26, .inl fl)), (t 0, .inr (9, [.ref (t 1), .ref (t 2), .ref (t 3), .ref (t 4), .ref (t 5), .int u, .int cl, .int (nI pa_16), .int rf])), (t 2, .inl (cI, 32, .inl fa_16))] := hD
      refine lv_iload_n hx hb dX9_stepOn_117 rfl (lv_at hl 3 rfl) ?_
      refine lv_iconst (v := 1) hx hb dX9_stepOn_118 (by decide) ?_
      refine lv_iadd hx hb dX9_stepOn_119 ?_
      refine lv_topv (y := nI (j0 + 1)) (nI_add j0 1) ?_
      have hP := hP.sub (ws' := [(t 0, .inr (9, [.ref (t 1), .ref (t 2), .ref (t 3), .ref (t 4), .ref (t 5), .int u, .int cl, .int (nI pa_16), .int rf])), (t 1, .inl (cI, 200, .inl fs)), (t 2, .inl (cI, 32, .inl fa_16)), (b1, .inl (cI, 26, .inl fl))]) [2, 0, 3, 1] rfl
      have hD := hD.sub (ws' := [(t 0, .inr (9, [.ref (t 1), .ref (t 2), .ref (t 3), .ref (t 4), .ref (t 5), .int u, .int cl, .int (nI pa_16), .int rf])), (t 1, .inl (cI, 200, .inl fs)), (t 2, .inl (cI, 32, .inl fa_16)), (b1, .inl (cI, 26, .inl fl))]) [2, 0, 3, 1] (by decide) rfl
      exact W.iret (v := nI (j0 + 1)) hx hb hr (fun t ht hW => ⟨⟨(nI (j0 + 1) : Int32), (pa_16, (rf : Int32), fa_16), rfl, (lf_X9_stepOn_17 t u cl rf p1 fs fk fl b1 j0 hp hst hj 2 ex_3 x_6 ex_6 c_7 rfl c_13 pa_16 fa_16 hz_16), ⟨by rw [ht]; exact hP, hD⟩⟩, hS.F ht⟩) hS.2.2 dX9_stepOn_120 hlocks
    · refine lv_aload_n hx hb dX9_stepOn_106 rfl (lv_at hl 4 rfl) ?_
      refine lv_iload hx hb dX9_stepOn_107 (lv_at hl 0 rfl) ?_
      refine ld_i hx hb hK hP 3 rfl (lf_X9_stepOn_18 t u cl rf p1 fs fk fl b1 j0 hp hst hj 2 ex_3 x_6 ex_6 c_7 rfl c_13) dX9_stepOn_109 (fun x_19 => ?_)
      refine lv_goto (tgt := 114) hx hb dX9_stepOn_110 (by decide) ?_
      refine eWv (wr := [(t 1, .inl (cI, 200, .inl fs)), (b1, .inl (cI, 26, .inl fl))]) (va_runV (As := [.int x_19]) (rest := []) ⟨hx, hb, hml, hown, hts⟩ (c_X9_push l D cI cB cZ cJ tx t u cl rf p1 fk x_19 (lf_X9_stepOn_20 t u cl rf p1 fs fk fl b1 j0 hp hst hj 2 ex_3 x_6 ex_6 c_7 rfl c_13 x_19) H.size) (zV hts k_795 v_X9_push ⟨Nat.le_of_ble_eq_true rfl, Nat.le_of_ble_eq_true rfl⟩) (pV (pxS hK hP hD [0, 2] (by decide) rfl) hK hP 0 rfl rfl) rfl rfl hl.1 rfl (lv_room (Nat.le_of_ble_eq_true rfl)) dX9_stepOn_114 ⟨Nat.le_of_ble_eq_true rfl, Nat.le_of_ble_eq_true rfl⟩) hP hD hS hA [0, 2] [1, 3] rfl rfl (by decide) (by decide) (fun u_22 H locs wr_21 hP hD hS => ?_)
      obtain ⟨pa_22, fa_22⟩ := u_22
      have hz_22 : pa_22 ≤ 32 := wr_21
      have hP : va_P D vwCl [(t 1, .inl (cI, 200, .inl fs)), (b1, .inl (cI, 26, .inl fl)), (t 0, .inr (9, [.ref (t 1), .ref (t 2), .ref (t 3), .ref (t 4), .ref (t 5), .int u, .int cl, .int (nI pa_22), .int rf])), (t 2, .inl (cI, 32, .inl fa_22))] H := hP
      have hD : va_D A [(t 1, .inl (cI, 200, .inl fs)), (b1, .inl (cI, 26, .inl fl)), (t 0, .inr (9, [.ref (t 1), .ref (t 2), .ref (t 3), .ref (t 4), .ref (t 5), .int u, .int cl, .int (nI pa_22), .int rf])), (t 2, .inl (cI, 32, .inl fa_22))] := hD
      refine lv_iload_n hx hb dX9_stepOn_117 rfl (lv_at hl 3 rfl) ?_
      refine lv_iconst (v := 1) hx hb dX9_stepOn_118 (by decide) ?_
      refine lv_iadd hx hb dX9_stepOn_119 ?_
      refine lv_topv (y := nI (j0 + 1)) (nI_add j0 1) ?_
      have hP := hP.sub (ws' := [(t 0, .inr (9, [.ref (t 1), .ref (t 2), .ref (t 3), .ref (t 4), .ref (t 5), .int u, .int cl, .int (nI pa_22), .int rf])), (t 1, .inl (cI, 200, .inl fs)), (t 2, .inl (cI, 32, .inl fa_22)), (b1, .inl (cI, 26, .inl fl))]) [2, 0, 3, 1] rfl
      have hD := hD.sub (ws' := [(t 0, .inr (9, [.ref (t 1), .ref (t 2), .ref (t 3), .ref (t 4), .ref (t 5), .int u, .int cl, .int (nI pa_22), .int rf])), (t 1, .inl (cI, 200, .inl fs)), (t 2, .inl (cI, 32, .inl fa_22)), (b1, .inl (cI, 26, .inl fl))]) [2, 0, 3, 1] (by decide) rfl
      exact W.iret (v := nI (j0 + 1)) hx hb hr (fun t ht hW => ⟨⟨(nI (j0 + 1) : Int32), (pa_22, (rf : Int32), fa_22), rfl, (lf_X9_stepOn_23 t u cl rf p1 fs fk fl b1 j0 hp hst hj 2 ex_3 x_6 ex_6 c_7 rfl c_13 x_19 pa_22 fa_22 hz_22), ⟨by rw [ht]; exact hP, hD⟩⟩, hS.F ht⟩) hS.2.2 dX9_stepOn_120 hlocks
  by_cases c_24 : x_3 = 3
  · subst c_24
    refine lv_tableIn (off := 149) (tgt := 170) hx hb dX9_stepOn_21 (by decide) (by decide) rfl (by decide) ?_
    refine lv_aload_n hx hb dX9_stepOn_170 rfl (lv_at hl 2 rfl) ?_
    refine eWi (wr := [(t 1, .inl (cI, 200, .inl fs)), (b1, .inl (cI, 26, .inl fl))]) (va_runV (As := []) (rest := []) ⟨hx, hb, hml, hown, hts⟩ (c_X9_pop l D cI cB cZ cJ tx t u cl rf p1 fk (lf_X9_stepOn_25 t u cl rf p1 fs fk fl b1 j0 hp hst hj 3 ex_3 x_6 ex_6 c_7 c_12 rfl) H.size) (zV hts k_799 v_X9_pop ⟨Nat.le_of_ble_eq_true rfl, Nat.le_of_ble_eq_true rfl⟩) (pV (pxS hK hP hD [0, 2] (by decide) rfl) hK hP 0 rfl rfl) rfl rfl hl.1 rfl (lv_room (Nat.le_of_ble_eq_true rfl)) dX9_stepOn_171 ⟨Nat.le_of_ble_eq_true rfl, Nat.le_of_ble_eq_true rfl⟩) hP hD hS hA [0, 2] [1, 3] rfl rfl (by decide) (by decide) (fun r_26 u_27 H locs wr_26 hP hD hS => ?_)
    obtain ⟨pa_27, rfl⟩ : ∃ z, z = u_27 := ⟨_, rfl⟩
    have hz_27 : pa_27 ≤ 32 := wr_26
    have hP : va_P D vwCl [(t 1, .inl (cI, 200, .inl fs)), (b1, .inl (cI, 26, .inl fl)), (t 0, .inr (9, [.ref (t 1), .ref (t 2), .ref (t 3), .ref (t 4), .ref (t 5), .int u, .int cl, .int (nI pa_27), .int rf])), (t 2, .inl (cI, 32, .inl fk))] H := hP
    have hD : va_D A [(t 1, .inl (cI, 200, .inl fs)), (b1, .inl (cI, 26, .inl fl)), (t 0, .inr (9, [.ref (t 1), .ref (t 2), .ref (t 3), .ref (t 4), .ref (t 5), .int u, .int cl, .int (nI pa_27), .int rf])), (t 2, .inl (cI, 32, .inl fk))] := hD
    refine lv_istore (lv' := [(5, .int r_26), (4, .int x_6), (3, .int 3), (0, .ref (t 0)), (1, .int (nI j0)), (2, .ref b1)]) hx hb dX9_stepOn_174 hl (by decide) rfl (fun ls hl => ?_)
    refine lv_aload_n hx hb dX9_stepOn_176 rfl (lv_at hl 3 rfl) ?_
    refine lv_aload_n hx hb dX9_stepOn_177 rfl (lv_at hl 3 rfl) ?_
    refine lv_iload_n hx hb dX9_stepOn_178 rfl (lv_at hl 2 rfl) ?_
    refine lv_aload_n hx hb dX9_stepOn_179 rfl (lv_at hl 3 rfl) ?_
    refine eWi (wr := [(t 1, .inl (cI, 200, .inl fs)), (b1, .inl (cI, 26, .inl fl))]) (va_runV (As := []) (rest := [.int 3, .ref (t 0), .ref (t 0)]) ⟨hx, hb, hml, hown, hts⟩ (c_X9_pop l D cI cB cZ cJ tx t u cl rf pa_27 fk (lf_X9_stepOn_28 t u cl rf p1 fs fk fl b1 j0 hp hst hj 3 ex_3 x_6 ex_6 c_7 c_12 rfl pa_27 hz_27 r_26 wr_26) H.size) (zV hts k_799 v_X9_pop ⟨Nat.le_of_ble_eq_true rfl, Nat.le_of_ble_eq_true rfl⟩) (pV (pxS hK hP hD [2, 3] (by decide) rfl) hK hP 2 rfl rfl) rfl rfl hl.1 rfl (lv_room (Nat.le_of_ble_eq_true rfl)) dX9_stepOn_180 ⟨Nat.le_of_ble_eq_true rfl, Nat.le_of_ble_eq_true rfl⟩) hP hD hS hA [2, 3] [0, 1] rfl rfl (by decide) (by decide) (fun r_29 u_30 H locs wr_29 hP hD hS => ?_)
    obtain ⟨pa_30, rfl⟩ : ∃ z, z = u_30 := ⟨_, rfl⟩
    have hz_30 : pa_30 ≤ 32 := wr_29
    have hP : va_P D vwCl [(t 1, .inl (cI, 200, .inl fs)), (b1, .inl (cI, 26, .inl fl)), (t 0, .inr (9, [.ref (t 1), .ref (t 2), .ref (t 3), .ref (t 4), .ref (t 5), .int u, .int cl, .int (nI pa_30), .int rf])), (t 2, .inl (cI, 32, .inl fk))] H := hP
    have hD : va_D A [(t 1, .inl (cI, 200, .inl fs)), (b1, .inl (cI, 26, .inl fl)), (t 0, .inr (9, [.ref (t 1), .ref (t 2), .ref (t 3), .ref (t 4), .ref (t 5), .int u, .int cl, .int (nI pa_30), .int rf])), (t 2, .inl (cI, 32, .inl fk))] := hD
    refine lv_iload hx hb dX9_stepOn_183 (lv_at hl 0 rfl) ?_
    refine eWi (wr := [(t 1, .inl (cI, 200, .inl fs)), (b1, .inl (cI, 26, .inl fl)), (t 2, .inl (cI, 32, .inl fk))]) (va_runV (As := [.int 3, .int r_29, .int r_26]) (rest := [.ref (t 0)]) ⟨hx, hb, hml, hown, hts⟩ (c_X9_reckon l D cI cB cZ cJ tx t u cl (nI pa_30) rf 3 r_29 r_26 H.size) (zV hts k_803 v_X9_reckon ⟨Nat.le_of_ble_eq_true rfl, Nat.le_of_ble_eq_true rfl⟩) (pV (pxS hK hP hD [2] (by decide) rfl) hK hP 2 rfl rfl) rfl rfl hl.1 rfl (lv_room (Nat.le_of_ble_eq_true rfl)) dX9_stepOn_185 ⟨Nat.le_of_ble_eq_true rfl, Nat.le_of_ble_eq_true rfl⟩) hP hD hS hA [2] [0, 1, 3] rfl rfl (by decide) (by decide) (fun r_31 u_32 H locs wr_31 hP hD hS => ?_)
    obtain ⟨ra_32, rfl⟩ : ∃ z, z = u_32 := ⟨_, rfl⟩
    have hz_32 : True := wr_31
    have hP : va_P D vwCl [(t 1, .inl (cI, 200, .inl fs)), (b1, .inl (cI, 26, .inl fl)), (t 2, .inl (cI, 32, .inl fk)), (t 0, .inr (9, [.ref (t 1), .ref (t 2), .ref (t 3), .ref (t 4), .ref (t 5), .int u, .int cl, .int (nI pa_30), .int ra_32]))] H := hP
    have hD : va_D A [(t 1, .inl (cI, 200, .inl fs)), (b1, .inl (cI, 26, .inl fl)), (t 2, .inl (cI, 32, .inl fk)), (t 0, .inr (9, [.ref (t 1), .ref (t 2), .ref (t 3), .ref (t 4), .ref (t 5), .int u, .int cl, .int (nI pa_30), .int ra_32]))] := hD
    refine eWv (wr := [(t 1, .inl (cI, 200, .inl fs)), (b1, .inl (cI, 26, .inl fl))]) (va_runV (As := [.int r_31]) (rest := []) ⟨hx, hb, hml, hown, hts⟩ (c_X9_push l D cI cB cZ cJ tx t u cl ra_32 pa_30 fk r_31 (lf_X9_stepOn_33 t u cl rf p1 fs fk fl b1 j0 hp hst hj 3 ex_3 x_6 ex_6 c_7 c_12 rfl pa_27 hz_27 r_26 wr_26 pa_30 hz_30 r_29 wr_29 ra_32 hz_32 r_31 wr_31) H.size) (zV hts k_795 v_X9_push ⟨Nat.le_of_ble_eq_true rfl, Nat.le_of_ble_eq_true rfl⟩) (pV (pxS hK hP hD [3, 2] (by decide) rfl) hK hP 3 rfl rfl) rfl rfl hl.1 rfl (lv_room (Nat.le_of_ble_eq_true rfl)) dX9_stepOn_188 ⟨Nat.le_of_ble_eq_true rfl, Nat.le_of_ble_eq_true rfl⟩) hP hD hS hA [3, 2] [0, 1] rfl rfl (by decide) (by decide) (fun u_35 H locs wr_34 hP hD hS => ?_)
    obtain ⟨pa_35, fa_35⟩ := u_35
    have hz_35 : pa_35 ≤ 32 := wr_34
    have hP : va_P D vwCl [(t 1, .inl (cI, 200, .inl fs)), (b1, .inl (cI, 26, .inl fl)), (t 0, .inr (9, [.ref (t 1), .ref (t 2), .ref (t 3), .ref (t 4), .ref (t 5), .int u, .int cl, .int (nI pa_35), .int ra_32])), (t 2, .inl (cI, 32, .inl fa_35))] H := hP
    have hD : va_D A [(t 1, .inl (cI, 200, .inl fs)), (b1, .inl (cI, 26, .inl fl)), (t 0, .inr (9, [.ref (t 1), .ref (t 2), .ref (t 3), .ref (t 4), .ref (t 5), .int u, .int cl, .int (nI pa_35), .int ra_32])), (t 2, .inl (cI, 32, .inl fa_35))] := hD
    refine lv_iload_n hx hb dX9_stepOn_191 rfl (lv_at hl 4 rfl) ?_
    refine lv_iconst (v := 1) hx hb dX9_stepOn_192 (by decide) ?_
    refine lv_iadd hx hb dX9_stepOn_193 ?_
    refine lv_topv (y := nI (j0 + 1)) (nI_add j0 1) ?_
    have hP := hP.sub (ws' := [(t 0, .inr (9, [.ref (t 1), .ref (t 2), .ref (t 3), .ref (t 4), .ref (t 5), .int u, .int cl, .int (nI pa_35), .int ra_32])), (t 1, .inl (cI, 200, .inl fs)), (t 2, .inl (cI, 32, .inl fa_35)), (b1, .inl (cI, 26, .inl fl))]) [2, 0, 3, 1] rfl
    have hD := hD.sub (ws' := [(t 0, .inr (9, [.ref (t 1), .ref (t 2), .ref (t 3), .ref (t 4), .ref (t 5), .int u, .int cl, .int (nI pa_35), .int ra_32])), (t 1, .inl (cI, 200, .inl fs)), (t 2, .inl (cI, 32, .inl fa_35)), (b1, .inl (cI, 26, .inl fl))]) [2, 0, 3, 1] (by decide) rfl
    exact W.iret (v := nI (j0 + 1)) hx hb hr (fun t ht hW => ⟨⟨(nI (j0 + 1) : Int32), (pa_35, (ra_32 : Int32), fa_35), rfl, (lf_X9_stepOn_36 t u cl rf p1 fs fk fl b1 j0 hp hst hj 3 ex_3 x_6 ex_6 c_7 c_12 rfl pa_27 hz_27 r_26 wr_26 pa_30 hz_30 r_29 wr_29 ra_32 hz_32 r_31 wr_31 pa_35 fa_35 hz_35), ⟨by rw [ht]; exact hP, hD⟩⟩, hS.F ht⟩) hS.2.2 dX9_stepOn_194 hlocks
  by_cases c_37 : x_3 = 4
  · subst c_37
    refine lv_tableIn (off := 149) (tgt := 170) hx hb dX9_stepOn_21 (by decide) (by decide) rfl (by decide) ?_
    refine lv_aload_n hx hb dX9_stepOn_170 rfl (lv_at hl 2 rfl) ?_
    refine eWi (wr := [(t 1, .inl (cI, 200, .inl fs)), (b1, .inl (cI, 26, .inl fl))]) (va_runV (As := []) (rest := []) ⟨hx, hb, hml, hown, hts⟩ (c_X9_pop l D cI cB cZ cJ tx t u cl rf p1 fk (lf_X9_stepOn_38 t u cl rf p1 fs fk fl b1 j0 hp hst hj 4 ex_3 x_6 ex_6 c_7 c_12 c_24 rfl) H.size) (zV hts k_799 v_X9_pop ⟨Nat.le_of_ble_eq_true rfl, Nat.le_of_ble_eq_true rfl⟩) (pV (pxS hK hP hD [0, 2] (by decide) rfl) hK hP 0 rfl rfl) rfl rfl hl.1 rfl (lv_room (Nat.le_of_ble_eq_true rfl)) dX9_stepOn_171 ⟨Nat.le_of_ble_eq_true rfl, Nat.le_of_ble_eq_true rfl⟩) hP hD hS hA [0, 2] [1, 3] rfl rfl (by decide) (by decide) (fun r_39 u_40 H locs wr_39 hP hD hS => ?_)
    obtain ⟨pa_40, rfl⟩ : ∃ z, z = u_40 := ⟨_, rfl⟩
    have hz_40 : pa_40 ≤ 32 := wr_39
    have hP : va_P D vwCl [(t 1, .inl (cI, 200, .inl fs)), (b1, .inl (cI, 26, .inl fl)), (t 0, .inr (9, [.ref (t 1), .ref (t 2), .ref (t 3), .ref (t 4), .ref (t 5), .int u, .int cl, .int (nI pa_40), .int rf])), (t 2, .inl (cI, 32, .inl fk))] H := hP
    have hD : va_D A [(t 1, .inl (cI, 200, .inl fs)), (b1, .inl (cI, 26, .inl fl)), (t 0, .inr (9, [.ref (t 1), .ref (t 2), .ref (t 3), .ref (t 4), .ref (t 5), .int u, .int cl, .int (nI pa_40), .int rf])), (t 2, .inl (cI, 32, .inl fk))] := hD
    refine lv_istore (lv' := [(5, .int r_39), (4, .int x_6), (3, .int 4), (0, .ref (t 0)), (1, .int (nI j0)), (2, .ref b1)]) hx hb dX9_stepOn_174 hl (by decide) rfl (fun ls hl => ?_)
    refine lv_aload_n hx hb dX9_stepOn_176 rfl (lv_at hl 3 rfl) ?_
    refine lv_aload_n hx hb dX9_stepOn_177 rfl (lv_at hl 3 rfl) ?_
    refine lv_iload_n hx hb dX9_stepOn_178 rfl (lv_at hl 2 rfl) ?_
    refine lv_aload_n hx hb dX9_stepOn_179 rfl (lv_at hl 3 rfl) ?_
    refine eWi (wr := [(t 1, .inl (cI, 200, .inl fs)), (b1, .inl (cI, 26, .inl fl))]) (va_runV (As := []) (rest := [.int 4, .ref (t 0), .ref (t 0)]) ⟨hx, hb, hml, hown, hts⟩ (c_X9_pop l D cI cB cZ cJ tx t u cl rf pa_40 fk (lf_X9_stepOn_41 t u cl rf p1 fs fk fl b1 j0 hp hst hj 4 ex_3 x_6 ex_6 c_7 c_12 c_24 rfl pa_40 hz_40 r_39 wr_39) H.size) (zV hts k_799 v_X9_pop ⟨Nat.le_of_ble_eq_true rfl, Nat.le_of_ble_eq_true rfl⟩) (pV (pxS hK hP hD [2, 3] (by decide) rfl) hK hP 2 rfl rfl) rfl rfl hl.1 rfl (lv_room (Nat.le_of_ble_eq_true rfl)) dX9_stepOn_180 ⟨Nat.le_of_ble_eq_true rfl, Nat.le_of_ble_eq_true rfl⟩) hP hD hS hA [2, 3] [0, 1] rfl rfl (by decide) (by decide) (fun r_42 u_43 H locs wr_42 hP hD hS => ?_)
    obtain ⟨pa_43, rfl⟩ : ∃ z, z = u_43 := ⟨_, rfl⟩
    have hz_43 : pa_43 ≤ 32 := wr_42
    have hP : va_P D vwCl [(t 1, .inl (cI, 200, .inl fs)), (b1, .inl (cI, 26, .inl fl)), (t 0, .inr (9, [.ref (t 1), .ref (t 2), .ref (t 3), .ref (t 4), .ref (t 5), .int u, .int cl, .int (nI pa_43), .int rf])), (t 2, .inl (cI, 32, .inl fk))] H := hP
    have hD : va_D A [(t 1, .inl (cI, 200, .inl fs)), (b1, .inl (cI, 26, .inl fl)), (t 0, .inr (9, [.ref (t 1), .ref (t 2), .ref (t 3), .ref (t 4), .ref (t 5), .int u, .int cl, .int (nI pa_43), .int rf])), (t 2, .inl (cI, 32, .inl fk))] := hD
    refine lv_iload hx hb dX9_stepOn_183 (lv_at hl 0 rfl) ?_
    refine eWi (wr := [(t 1, .inl (cI, 200, .inl fs)), (b1, .inl (cI, 26, .inl fl)), (t 2, .inl (cI, 32, .inl fk))]) (va_runV (As := [.int 4, .int r_42, .int r_39]) (rest := [.ref (t 0)]) ⟨hx, hb, hml, hown, hts⟩ (c_X9_reckon l D cI cB cZ cJ tx t u cl (nI pa_43) rf 4 r_42 r_39 H.size) (zV hts k_803 v_X9_reckon ⟨Nat.le_of_ble_eq_true rfl, Nat.le_of_ble_eq_true rfl⟩) (pV (pxS hK hP hD [2] (by decide) rfl) hK hP 2 rfl rfl) rfl rfl hl.1 rfl (lv_room (Nat.le_of_ble_eq_true rfl)) dX9_stepOn_185 ⟨Nat.le_of_ble_eq_true rfl, Nat.le_of_ble_eq_true rfl⟩) hP hD hS hA [2] [0, 1, 3] rfl rfl (by decide) (by decide) (fun r_44 u_45 H locs wr_44 hP hD hS => ?_)
    obtain ⟨ra_45, rfl⟩ : ∃ z, z = u_45 := ⟨_, rfl⟩
    have hz_45 : True := wr_44
    have hP : va_P D vwCl [(t 1, .inl (cI, 200, .inl fs)), (b1, .inl (cI, 26, .inl fl)), (t 2, .inl (cI, 32, .inl fk)), (t 0, .inr (9, [.ref (t 1), .ref (t 2), .ref (t 3), .ref (t 4), .ref (t 5), .int u, .int cl, .int (nI pa_43), .int ra_45]))] H := hP
    have hD : va_D A [(t 1, .inl (cI, 200, .inl fs)), (b1, .inl (cI, 26, .inl fl)), (t 2, .inl (cI, 32, .inl fk)), (t 0, .inr (9, [.ref (t 1), .ref (t 2), .ref (t 3), .ref (t 4), .ref (t 5), .int u, .int cl, .int (nI pa_43), .int ra_45]))] := hD
    refine eWv (wr := [(t 1, .inl (cI, 200, .inl fs)), (b1, .inl (cI, 26, .inl fl))]) (va_runV (As := [.int r_44]) (rest := []) ⟨hx, hb, hml, hown, hts⟩ (c_X9_push l D cI cB cZ cJ tx t u cl ra_45 pa_43 fk r_44 (lf_X9_stepOn_46 t u cl rf p1 fs fk fl b1 j0 hp hst hj 4 ex_3 x_6 ex_6 c_7 c_12 c_24 rfl pa_40 hz_40 r_39 wr_39 pa_43 hz_43 r_42 wr_42 ra_45 hz_45 r_44 wr_44) H.size) (zV hts k_795 v_X9_push ⟨Nat.le_of_ble_eq_true rfl, Nat.le_of_ble_eq_true rfl⟩) (pV (pxS hK hP hD [3, 2] (by decide) rfl) hK hP 3 rfl rfl) rfl rfl hl.1 rfl (lv_room (Nat.le_of_ble_eq_true rfl)) dX9_stepOn_188 ⟨Nat.le_of_ble_eq_true rfl, Nat.le_of_ble_eq_true rfl⟩) hP hD hS hA [3, 2] [0, 1] rfl rfl (by decide) (by decide) (fun u_48 H locs wr_47 hP hD hS => ?_)
    obtain ⟨pa_48, fa_48⟩ := u_48
    have hz_48 : pa_48 ≤ 32 := wr_47
    have hP : va_P D vwCl [(t 1, .inl (cI, 200, .inl fs)), (b1, .inl (cI, 26, .inl fl)), (t 0, .inr (9, [.ref (t 1), .ref (t 2), .ref (t 3), .ref (t 4), .ref (t 5), .int u, .int cl, .int (nI pa_48), .int ra_45])), (t 2, .inl (cI, 32, .inl fa_48))] H := hP
    have hD : va_D A [(t 1, .inl (cI, 200, .inl fs)), (b1, .inl (cI, 26, .inl fl)), (t 0, .inr (9, [.ref (t 1), .ref (t 2), .ref (t 3), .ref (t 4), .ref (t 5), .int u, .int cl, .int (nI pa_48), .int ra_45])), (t 2, .inl (cI, 32, .inl fa_48))] := hD
    refine lv_iload_n hx hb dX9_stepOn_191 rfl (lv_at hl 4 rfl) ?_
    refine lv_iconst (v := 1) hx hb dX9_stepOn_192 (by decide) ?_
    refine lv_iadd hx hb dX9_stepOn_193 ?_
    refine lv_topv (y := nI (j0 + 1)) (nI_add j0 1) ?_
    have hP := hP.sub (ws' := [(t 0, .inr (9, [.ref (t 1), .ref (t 2), .ref (t 3), .ref (t 4), .ref (t 5), .int u, .int cl, .int (nI pa_48), .int ra_45])), (t 1, .inl (cI, 200, .inl fs)), (t 2, .inl (cI, 32, .inl fa_48)), (b1, .inl (cI, 26, .inl fl))]) [2, 0, 3, 1] rfl
    have hD := hD.sub (ws' := [(t 0, .inr (9, [.ref (t 1), .ref (t 2), .ref (t 3), .ref (t 4), .ref (t 5), .int u, .int cl, .int (nI pa_48), .int ra_45])), (t 1, .inl (cI, 200, .inl fs)), (t 2, .inl (cI, 32, .inl fa_48)), (b1, .inl (cI, 26, .inl fl))]) [2, 0, 3, 1] (by decide) rfl
    exact W.iret (v := nI (j0 + 1)) hx hb hr (fun t ht hW => ⟨⟨(nI (j0 + 1) : Int32), (pa_48, (ra_45 : Int32), fa_48), rfl, (lf_X9_stepOn_49 t u cl rf p1 fs fk fl b1 j0 hp hst hj 4 ex_3 x_6 ex_6 c_7 c_12 c_24 rfl pa_40 hz_40 r_39 wr_39 pa_43 hz_43 r_42 wr_42 ra_45 hz_45 r_44 wr_44 pa_48 fa_48 hz_48), ⟨by rw [ht]; exact hP, hD⟩⟩, hS.F ht⟩) hS.2.2 dX9_stepOn_194 hlocks
  by_cases c_50 : x_3 = 5
  · subst c_50
    refine lv_tableIn (off := 149) (tgt := 170) hx hb dX9_stepOn_21 (by decide) (by decide) rfl (by decide) ?_
    refine lv_aload_n hx hb dX9_stepOn_170 rfl (lv_at hl 2 rfl) ?_
    refine eWi (wr := [(t 1, .inl (cI, 200, .inl fs)), (b1, .inl (cI, 26, .inl fl))]) (va_runV (As := []) (rest := []) ⟨hx, hb, hml, hown, hts⟩ (c_X9_pop l D cI cB cZ cJ tx t u cl rf p1 fk (lf_X9_stepOn_51 t u cl rf p1 fs fk fl b1 j0 hp hst hj 5 ex_3 x_6 ex_6 c_7 c_12 c_24 c_37 rfl) H.size) (zV hts k_799 v_X9_pop ⟨Nat.le_of_ble_eq_true rfl, Nat.le_of_ble_eq_true rfl⟩) (pV (pxS hK hP hD [0, 2] (by decide) rfl) hK hP 0 rfl rfl) rfl rfl hl.1 rfl (lv_room (Nat.le_of_ble_eq_true rfl)) dX9_stepOn_171 ⟨Nat.le_of_ble_eq_true rfl, Nat.le_of_ble_eq_true rfl⟩) hP hD hS hA [0, 2] [1, 3] rfl rfl (by decide) (by decide) (fun r_52 u_53 H locs wr_52 hP hD hS => ?_)
    obtain ⟨pa_53, rfl⟩ : ∃ z, z = u_53 := ⟨_, rfl⟩
    have hz_53 : pa_53 ≤ 32 := wr_52
    have hP : va_P D vwCl [(t 1, .inl (cI, 200, .inl fs)), (b1, .inl (cI, 26, .inl fl)), (t 0, .inr (9, [.ref (t 1), .ref (t 2), .ref (t 3), .ref (t 4), .ref (t 5), .int u, .int cl, .int (nI pa_53), .int rf])), (t 2, .inl (cI, 32, .inl fk))] H := hP
    have hD : va_D A [(t 1, .inl (cI, 200, .inl fs)), (b1, .inl (cI, 26, .inl fl)), (t 0, .inr (9, [.ref (t 1), .ref (t 2), .ref (t 3), .ref (t 4), .ref (t 5), .int u, .int cl, .int (nI pa_53), .int rf])), (t 2, .inl (cI, 32, .inl fk))] := hD
    refine lv_istore (lv' := [(5, .int r_52), (4, .int x_6), (3, .int 5), (0, .ref (t 0)), (1, .int (nI j0)), (2, .ref b1)]) hx hb dX9_stepOn_174 hl (by decide) rfl (fun ls hl => ?_)
    refine lv_aload_n hx hb dX9_stepOn_176 rfl (lv_at hl 3 rfl) ?_
    refine lv_aload_n hx hb dX9_stepOn_177 rfl (lv_at hl 3 rfl) ?_
    refine lv_iload_n hx hb dX9_stepOn_178 rfl (lv_at hl 2 rfl) ?_
    refine lv_aload_n hx hb dX9_stepOn_179 rfl (lv_at hl 3 rfl) ?_
    refine eWi (wr := [(t 1, .inl (cI, 200, .inl fs)), (b1, .inl (cI, 26, .inl fl))]) (va_runV (As := []) (rest := [.int 5, .ref (t 0), .ref (t 0)]) ⟨hx, hb, hml, hown, hts⟩ (c_X9_pop l D cI cB cZ cJ tx t u cl rf pa_53 fk (lf_X9_stepOn_54 t u cl rf p1 fs fk fl b1 j0 hp hst hj 5 ex_3 x_6 ex_6 c_7 c_12 c_24 c_37 rfl pa_53 hz_53 r_52 wr_52) H.size) (zV hts k_799 v_X9_pop ⟨Nat.le_of_ble_eq_true rfl, Nat.le_of_ble_eq_true rfl⟩) (pV (pxS hK hP hD [2, 3] (by decide) rfl) hK hP 2 rfl rfl) rfl rfl hl.1 rfl (lv_room (Nat.le_of_ble_eq_true rfl)) dX9_stepOn_180 ⟨Nat.le_of_ble_eq_true rfl, Nat.le_of_ble_eq_true rfl⟩) hP hD hS hA [2, 3] [0, 1] rfl rfl (by decide) (by decide) (fun r_55 u_56 H locs wr_55 hP hD hS => ?_)
    obtain ⟨pa_56, rfl⟩ : ∃ z, z = u_56 := ⟨_, rfl⟩
    have hz_56 : pa_56 ≤ 32 := wr_55
    have hP : va_P D vwCl [(t 1, .inl (cI, 200, .inl fs)), (b1, .inl (cI, 26, .inl fl)), (t 0, .inr (9, [.ref (t 1), .ref (t 2), .ref (t 3), .ref (t 4), .ref (t 5), .int u, .int cl, .int (nI pa_56), .int rf])), (t 2, .inl (cI, 32, .inl fk))] H := hP
    have hD : va_D A [(t 1, .inl (cI, 200, .inl fs)), (b1, .inl (cI, 26, .inl fl)), (t 0, .inr (9, [.ref (t 1), .ref (t 2), .ref (t 3), .ref (t 4), .ref (t 5), .int u, .int cl, .int (nI pa_56), .int rf])), (t 2, .inl (cI, 32, .inl fk))] := hD
    refine lv_iload hx hb dX9_stepOn_183 (lv_at hl 0 rfl) ?_
    refine eWi (wr := [(t 1, .inl (cI, 200, .inl fs)), (b1, .inl (cI, 26, .inl fl)), (t 2, .inl (cI, 32, .inl fk))]) (va_runV (As := [.int 5, .int r_55, .int r_52]) (rest := [.ref (t 0)]) ⟨hx, hb, hml, hown, hts⟩ (c_X9_reckon l D cI cB cZ cJ tx t u cl (nI pa_56) rf 5 r_55 r_52 H.size) (zV hts k_803 v_X9_reckon ⟨Nat.le_of_ble_eq_true rfl, Nat.le_of_ble_eq_true rfl⟩) (pV (pxS hK hP hD [2] (by decide) rfl) hK hP 2 rfl rfl) rfl rfl hl.1 rfl (lv_room (Nat.le_of_ble_eq_true rfl)) dX9_stepOn_185 ⟨Nat.le_of_ble_eq_true rfl, Nat.le_of_ble_eq_true rfl⟩) hP hD hS hA [2] [0, 1, 3] rfl rfl (by decide) (by decide) (fun r_57 u_58 H locs wr_57 hP hD hS => ?_)
    obtain ⟨ra_58, rfl⟩ : ∃ z, z = u_58 := ⟨_, rfl⟩
    have hz_58 : True := wr_57
    have hP : va_P D vwCl [(t 1, .inl (cI, 200, .inl fs)), (b1, .inl (cI, 26, .inl fl)), (t 2, .inl (cI, 32, .inl fk)), (t 0, .inr (9, [.ref (t 1), .ref (t 2), .ref (t 3), .ref (t 4), .ref (t 5), .int u, .int cl, .int (nI pa_56), .int ra_58]))] H := hP
    have hD : va_D A [(t 1, .inl (cI, 200, .inl fs)), (b1, .inl (cI, 26, .inl fl)), (t 2, .inl (cI, 32, .inl fk)), (t 0, .inr (9, [.ref (t 1), .ref (t 2), .ref (t 3), .ref (t 4), .ref (t 5), .int u, .int cl, .int (nI pa_56), .int ra_58]))] := hD
    refine eWv (wr := [(t 1, .inl (cI, 200, .inl fs)), (b1, .inl (cI, 26, .inl fl))]) (va_runV (As := [.int r_57]) (rest := []) ⟨hx, hb, hml, hown, hts⟩ (c_X9_push l D cI cB cZ cJ tx t u cl ra_58 pa_56 fk r_57 (lf_X9_stepOn_59 t u cl rf p1 fs fk fl b1 j0 hp hst hj 5 ex_3 x_6 ex_6 c_7 c_12 c_24 c_37 rfl pa_53 hz_53 r_52 wr_52 pa_56 hz_56 r_55 wr_55 ra_58 hz_58 r_57 wr_57) H.size) (zV hts k_795 v_X9_push ⟨Nat.le_of_ble_eq_true rfl, Nat.le_of_ble_eq_true rfl⟩) (pV (pxS hK hP hD [3, 2] (by decide) rfl) hK hP 3 rfl rfl) rfl rfl hl.1 rfl (lv_room (Nat.le_of_ble_eq_true rfl)) dX9_stepOn_188 ⟨Nat.le_of_ble_eq_true rfl, Nat.le_of_ble_eq_true rfl⟩) hP hD hS hA [3, 2] [0, 1] rfl rfl (by decide) (by decide) (fun u_61 H locs wr_60 hP hD hS => ?_)
    obtain ⟨pa_61, fa_61⟩ := u_61
    have hz_61 : pa_61 ≤ 32 := wr_60
    have hP : va_P D vwCl [(t 1, .inl (cI, 200, .inl fs)), (b1, .inl (cI, 26, .inl fl)), (t 0, .inr (9, [.ref (t 1), .ref (t 2), .ref (t 3), .ref (t 4), .ref (t 5), .int u, .int cl, .int (nI pa_61), .int ra_58])), (t 2, .inl (cI, 32, .inl fa_61))] H := hP
    have hD : va_D A [(t 1, .inl (cI, 200, .inl fs)), (b1, .inl (cI, 26, .inl fl)), (t 0, .inr (9, [.ref (t 1), .ref (t 2), .ref (t 3), .ref (t 4), .ref (t 5), .int u, .int cl, .int (nI pa_61), .int ra_58])), (t 2, .inl (cI, 32, .inl fa_61))] := hD
    refine lv_iload_n hx hb dX9_stepOn_191 rfl (lv_at hl 4 rfl) ?_
    refine lv_iconst (v := 1) hx hb dX9_stepOn_192 (by decide) ?_
    refine lv_iadd hx hb dX9_stepOn_193 ?_
    refine lv_topv (y := nI (j0 + 1)) (nI_add j0 1) ?_
    have hP := hP.sub (ws' := [(t 0, .inr (9, [.ref (t 1), .ref (t 2), .ref (t 3), .ref (t 4), .ref (t 5), .int u, .int cl, .int (nI pa_61), .int ra_58])), (t 1, .inl (cI, 200, .inl fs)), (t 2, .inl (cI, 32, .inl fa_61)), (b1, .inl (cI, 26, .inl fl))]) [2, 0, 3, 1] rfl
    have hD := hD.sub (ws' := [(t 0, .inr (9, [.ref (t 1), .ref (t 2), .ref (t 3), .ref (t 4), .ref (t 5), .int u, .int cl, .int (nI pa_61), .int ra_58])), (t 1, .inl (cI, 200, .inl fs)), (t 2, .inl (cI, 32, .inl fa_61)), (b1, .inl (cI, 26, .inl fl))]) [2, 0, 3, 1] (by decide) rfl
    exact W.iret (v := nI (j0 + 1)) hx hb hr (fun t ht hW => ⟨⟨(nI (j0 + 1) : Int32), (pa_61, (ra_58 : Int32), fa_61), rfl, (lf_X9_stepOn_62 t u cl rf p1 fs fk fl b1 j0 hp hst hj 5 ex_3 x_6 ex_6 c_7 c_12 c_24 c_37 rfl pa_53 hz_53 r_52 wr_52 pa_56 hz_56 r_55 wr_55 ra_58 hz_58 r_57 wr_57 pa_61 fa_61 hz_61), ⟨by rw [ht]; exact hP, hD⟩⟩, hS.F ht⟩) hS.2.2 dX9_stepOn_194 hlocks
  by_cases c_63 : x_3 = 6
  · subst c_63
    refine lv_tableIn (off := 149) (tgt := 170) hx hb dX9_stepOn_21 (by decide) (by decide) rfl (by decide) ?_
    refine lv_aload_n hx hb dX9_stepOn_170 rfl (lv_at hl 2 rfl) ?_
    refine eWi (wr := [(t 1, .inl (cI, 200, .inl fs)), (b1, .inl (cI, 26, .inl fl))]) (va_runV (As := []) (rest := []) ⟨hx, hb, hml, hown, hts⟩ (c_X9_pop l D cI cB cZ cJ tx t u cl rf p1 fk (lf_X9_stepOn_64 t u cl rf p1 fs fk fl b1 j0 hp hst hj 6 ex_3 x_6 ex_6 c_7 c_12 c_24 c_37 c_50 rfl) H.size) (zV hts k_799 v_X9_pop ⟨Nat.le_of_ble_eq_true rfl, Nat.le_of_ble_eq_true rfl⟩) (pV (pxS hK hP hD [0, 2] (by decide) rfl) hK hP 0 rfl rfl) rfl rfl hl.1 rfl (lv_room (Nat.le_of_ble_eq_true rfl)) dX9_stepOn_171 ⟨Nat.le_of_ble_eq_true rfl, Nat.le_of_ble_eq_true rfl⟩) hP hD hS hA [0, 2] [1, 3] rfl rfl (by decide) (by decide) (fun r_65 u_66 H locs wr_65 hP hD hS => ?_)
    obtain ⟨pa_66, rfl⟩ : ∃ z, z = u_66 := ⟨_, rfl⟩
    have hz_66 : pa_66 ≤ 32 := wr_65
    have hP : va_P D vwCl [(t 1, .inl (cI, 200, .inl fs)), (b1, .inl (cI, 26, .inl fl)), (t 0, .inr (9, [.ref (t 1), .ref (t 2), .ref (t 3), .ref (t 4), .ref (t 5), .int u, .int cl, .int (nI pa_66), .int rf])), (t 2, .inl (cI, 32, .inl fk))] H := hP
    have hD : va_D A [(t 1, .inl (cI, 200, .inl fs)), (b1, .inl (cI, 26, .inl fl)), (t 0, .inr (9, [.ref (t 1), .ref (t 2), .ref (t 3), .ref (t 4), .ref (t 5), .int u, .int cl, .int (nI pa_66), .int rf])), (t 2, .inl (cI, 32, .inl fk))] := hD
    refine lv_istore (lv' := [(5, .int r_65), (4, .int x_6), (3, .int 6), (0, .ref (t 0)), (1, .int (nI j0)), (2, .ref b1)]) hx hb dX9_stepOn_174 hl (by decide) rfl (fun ls hl => ?_)
    refine lv_aload_n hx hb dX9_stepOn_176 rfl (lv_at hl 3 rfl) ?_
    refine lv_aload_n hx hb dX9_stepOn_177 rfl (lv_at hl 3 rfl) ?_
    refine lv_iload_n hx hb dX9_stepOn_178 rfl (lv_at hl 2 rfl) ?_
    refine lv_aload_n hx hb dX9_stepOn_179 rfl (lv_at hl 3 rfl) ?_
    refine eWi (wr := [(t 1, .inl (cI, 200, .inl fs)), (b1, .inl (cI, 26, .inl fl))]) (va_runV (As := []) (rest := [.int 6, .ref (t 0), .ref (t 0)]) ⟨hx, hb, hml, hown, hts⟩ (c_X9_pop l D cI cB cZ cJ tx t u cl rf pa_66 fk (lf_X9_stepOn_67 t u cl rf p1 fs fk fl b1 j0 hp hst hj 6 ex_3 x_6 ex_6 c_7 c_12 c_24 c_37 c_50 rfl pa_66 hz_66 r_65 wr_65) H.size) (zV hts k_799 v_X9_pop ⟨Nat.le_of_ble_eq_true rfl, Nat.le_of_ble_eq_true rfl⟩) (pV (pxS hK hP hD [2, 3] (by decide) rfl) hK hP 2 rfl rfl) rfl rfl hl.1 rfl (lv_room (Nat.le_of_ble_eq_true rfl)) dX9_stepOn_180 ⟨Nat.le_of_ble_eq_true rfl, Nat.le_of_ble_eq_true rfl⟩) hP hD hS hA [2, 3] [0, 1] rfl rfl (by decide) (by decide) (fun r_68 u_69 H locs wr_68 hP hD hS => ?_)
    obtain ⟨pa_69, rfl⟩ : ∃ z, z = u_69 := ⟨_, rfl⟩
    have hz_69 : pa_69 ≤ 32 := wr_68
    have hP : va_P D vwCl [(t 1, .inl (cI, 200, .inl fs)), (b1, .inl (cI, 26, .inl fl)), (t 0, .inr (9, [.ref (t 1), .ref (t 2), .ref (t 3), .ref (t 4), .ref (t 5), .int u, .int cl, .int (nI pa_69), .int rf])), (t 2, .inl (cI, 32, .inl fk))] H := hP
    have hD : va_D A [(t 1, .inl (cI, 200, .inl fs)), (b1, .inl (cI, 26, .inl fl)), (t 0, .inr (9, [.ref (t 1), .ref (t 2), .ref (t 3), .ref (t 4), .ref (t 5), .int u, .int cl, .int (nI pa_69), .int rf])), (t 2, .inl (cI, 32, .inl fk))] := hD
    refine lv_iload hx hb dX9_stepOn_183 (lv_at hl 0 rfl) ?_
    refine eWi (wr := [(t 1, .inl (cI, 200, .inl fs)), (b1, .inl (cI, 26, .inl fl)), (t 2, .inl (cI, 32, .inl fk))]) (va_runV (As := [.int 6, .int r_68, .int r_65]) (rest := [.ref (t 0)]) ⟨hx, hb, hml, hown, hts⟩ (c_X9_reckon l D cI cB cZ cJ tx t u cl (nI pa_69) rf 6 r_68 r_65 H.size) (zV hts k_803 v_X9_reckon ⟨Nat.le_of_ble_eq_true rfl, Nat.le_of_ble_eq_true rfl⟩) (pV (pxS hK hP hD [2] (by decide) rfl) hK hP 2 rfl rfl) rfl rfl hl.1 rfl (lv_room (Nat.le_of_ble_eq_true rfl)) dX9_stepOn_185 ⟨Nat.le_of_ble_eq_true rfl, Nat.le_of_ble_eq_true rfl⟩) hP hD hS hA [2] [0, 1, 3] rfl rfl (by decide) (by decide) (fun r_70 u_71 H locs wr_70 hP hD hS => ?_)
    obtain ⟨ra_71, rfl⟩ : ∃ z, z = u_71 := ⟨_, rfl⟩
    have hz_71 : True := wr_70
    have hP : va_P D vwCl [(t 1, .inl (cI, 200, .inl fs)), (b1, .inl (cI, 26, .inl fl)), (t 2, .inl (cI, 32, .inl fk)), (t 0, .inr (9, [.ref (t 1), .ref (t 2), .ref (t 3), .ref (t 4), .ref (t 5), .int u, .int cl, .int (nI pa_69), .int ra_71]))] H := hP
    have hD : va_D A [(t 1, .inl (cI, 200, .inl fs)), (b1, .inl (cI, 26, .inl fl)), (t 2, .inl (cI, 32, .inl fk)), (t 0, .inr (9, [.ref (t 1), .ref (t 2), .ref (t 3), .ref (t 4), .ref (t 5), .int u, .int cl, .int (nI pa_69), .int ra_71]))] := hD
    refine eWv (wr := [(t 1, .inl (cI, 200, .inl fs)), (b1, .inl (cI, 26, .inl fl))]) (va_runV (As := [.int r_70]) (rest := []) ⟨hx, hb, hml, hown, hts⟩ (c_X9_push l D cI cB cZ cJ tx t u cl ra_71 pa_69 fk r_70 (lf_X9_stepOn_72 t u cl rf p1 fs fk fl b1 j0 hp hst hj 6 ex_3 x_6 ex_6 c_7 c_12 c_24 c_37 c_50 rfl pa_66 hz_66 r_65 wr_65 pa_69 hz_69 r_68 wr_68 ra_71 hz_71 r_70 wr_70) H.size) (zV hts k_795 v_X9_push ⟨Nat.le_of_ble_eq_true rfl, Nat.le_of_ble_eq_true rfl⟩) (pV (pxS hK hP hD [3, 2] (by decide) rfl) hK hP 3 rfl rfl) rfl rfl hl.1 rfl (lv_room (Nat.le_of_ble_eq_true rfl)) dX9_stepOn_188 ⟨Nat.le_of_ble_eq_true rfl, Nat.le_of_ble_eq_true rfl⟩) hP hD hS hA [3, 2] [0, 1] rfl rfl (by decide) (by decide) (fun u_74 H locs wr_73 hP hD hS => ?_)
    obtain ⟨pa_74, fa_74⟩ := u_74
    have hz_74 : pa_74 ≤ 32 := wr_73
    have hP : va_P D vwCl [(t 1, .inl (cI, 200, .inl fs)), (b1, .inl (cI, 26, .inl fl)), (t 0, .inr (9, [.ref (t 1), .ref (t 2), .ref (t 3), .ref (t 4), .ref (t 5), .int u, .int cl, .int (nI pa_74), .int ra_71])), (t 2, .inl (cI, 32, .inl fa_74))] H := hP
    have hD : va_D A [(t 1, .inl (cI, 200, .inl fs)), (b1, .inl (cI, 26, .inl fl)), (t 0, .inr (9, [.ref (t 1), .ref (t 2), .ref (t 3), .ref (t 4), .ref (t 5), .int u, .int cl, .int (nI pa_74), .int ra_71])), (t 2, .inl (cI, 32, .inl fa_74))] := hD
    refine lv_iload_n hx hb dX9_stepOn_191 rfl (lv_at hl 4 rfl) ?_
    refine lv_iconst (v := 1) hx hb dX9_stepOn_192 (by decide) ?_
    refine lv_iadd hx hb dX9_stepOn_193 ?_
    refine lv_topv (y := nI (j0 + 1)) (nI_add j0 1) ?_
    have hP := hP.sub (ws' := [(t 0, .inr (9, [.ref (t 1), .ref (t 2), .ref (t 3), .ref (t 4), .ref (t 5), .int u, .int cl, .int (nI pa_74), .int ra_71])), (t 1, .inl (cI, 200, .inl fs)), (t 2, .inl (cI, 32, .inl fa_74)), (b1, .inl (cI, 26, .inl fl))]) [2, 0, 3, 1] rfl
    have hD := hD.sub (ws' := [(t 0, .inr (9, [.ref (t 1), .ref (t 2), .ref (t 3), .ref (t 4), .ref (t 5), .int u, .int cl, .int (nI pa_74), .int ra_71])), (t 1, .inl (cI, 200, .inl fs)), (t 2, .inl (cI, 32, .inl fa_74)), (b1, .inl (cI, 26, .inl fl))]) [2, 0, 3, 1] (by decide) rfl
    exact W.iret (v := nI (j0 + 1)) hx hb hr (fun t ht hW => ⟨⟨(nI (j0 + 1) : Int32), (pa_74, (ra_71 : Int32), fa_74), rfl, (lf_X9_stepOn_75 t u cl rf p1 fs fk fl b1 j0 hp hst hj 6 ex_3 x_6 ex_6 c_7 c_12 c_24 c_37 c_50 rfl pa_66 hz_66 r_65 wr_65 pa_69 hz_69 r_68 wr_68 ra_71 hz_71 r_70 wr_70 pa_74 fa_74 hz_74), ⟨by rw [ht]; exact hP, hD⟩⟩, hS.F ht⟩) hS.2.2 dX9_stepOn_194 hlocks
  by_cases c_76 : x_3 = 7
  · subst c_76
    refine lv_tableIn (off := 149) (tgt := 170) hx hb dX9_stepOn_21 (by decide) (by decide) rfl (by decide) ?_
    refine lv_aload_n hx hb dX9_stepOn_170 rfl (lv_at hl 2 rfl) ?_
    refine eWi (wr := [(t 1, .inl (cI, 200, .inl fs)), (b1, .inl (cI, 26, .inl fl))]) (va_runV (As := []) (rest := []) ⟨hx, hb, hml, hown, hts⟩ (c_X9_pop l D cI cB cZ cJ tx t u cl rf p1 fk (lf_X9_stepOn_77 t u cl rf p1 fs fk fl b1 j0 hp hst hj 7 ex_3 x_6 ex_6 c_7 c_12 c_24 c_37 c_50 c_63 rfl) H.size) (zV hts k_799 v_X9_pop ⟨Nat.le_of_ble_eq_true rfl, Nat.le_of_ble_eq_true rfl⟩) (pV (pxS hK hP hD [0, 2] (by decide) rfl) hK hP 0 rfl rfl) rfl rfl hl.1 rfl (lv_room (Nat.le_of_ble_eq_true rfl)) dX9_stepOn_171 ⟨Nat.le_of_ble_eq_true rfl, Nat.le_of_ble_eq_true rfl⟩) hP hD hS hA [0, 2] [1, 3] rfl rfl (by decide) (by decide) (fun r_78 u_79 H locs wr_78 hP hD hS => ?_)
    obtain ⟨pa_79, rfl⟩ : ∃ z, z = u_79 := ⟨_, rfl⟩
    have hz_79 : pa_79 ≤ 32 := wr_78
    have hP : va_P D vwCl [(t 1, .inl (cI, 200, .inl fs)), (b1, .inl (cI, 26, .inl fl)), (t 0, .inr (9, [.ref (t 1), .ref (t 2), .ref (t 3), .ref (t 4), .ref (t 5), .int u, .int cl, .int (nI pa_79), .int rf])), (t 2, .inl (cI, 32, .inl fk))] H := hP
    have hD : va_D A [(t 1, .inl (cI, 200, .inl fs)), (b1, .inl (cI, 26, .inl fl)), (t 0, .inr (9, [.ref (t 1), .ref (t 2), .ref (t 3), .ref (t 4), .ref (t 5), .int u, .int cl, .int (nI pa_79), .int rf])), (t 2, .inl (cI, 32, .inl fk))] := hD
    refine lv_istore (lv' := [(5, .int r_78), (4, .int x_6), (3, .int 7), (0, .ref (t 0)), (1, .int (nI j0)), (2, .ref b1)]) hx hb dX9_stepOn_174 hl (by decide) rfl (fun ls hl => ?_)
    refine lv_aload_n hx hb dX9_stepOn_176 rfl (lv_at hl 3 rfl) ?_
    refine lv_aload_n hx hb dX9_stepOn_177 rfl (lv_at hl 3 rfl) ?_
    refine lv_iload_n hx hb dX9_stepOn_178 rfl (lv_at hl 2 rfl) ?_
    refine lv_aload_n hx hb dX9_stepOn_179 rfl (lv_at hl 3 rfl) ?_
    refine eWi (wr := [(t 1, .inl (cI, 200, .inl fs)), (b1, .inl (cI, 26, .inl fl))]) (va_runV (As := []) (rest := [.int 7, .ref (t 0), .ref (t 0)]) ⟨hx, hb, hml, hown, hts⟩ (c_X9_pop l D cI cB cZ cJ tx t u cl rf pa_79 fk (lf_X9_stepOn_80 t u cl rf p1 fs fk fl b1 j0 hp hst hj 7 ex_3 x_6 ex_6 c_7 c_12 c_24 c_37 c_50 c_63 rfl pa_79 hz_79 r_78 wr_78) H.size) (zV hts k_799 v_X9_pop ⟨Nat.le_of_ble_eq_true rfl, Nat.le_of_ble_eq_true rfl⟩) (pV (pxS hK hP hD [2, 3] (by decide) rfl) hK hP 2 rfl rfl) rfl rfl hl.1 rfl (lv_room (Nat.le_of_ble_eq_true rfl)) dX9_stepOn_180 ⟨Nat.le_of_ble_eq_true rfl, Nat.le_of_ble_eq_true rfl⟩) hP hD hS hA [2, 3] [0, 1] rfl rfl (by decide) (by decide) (fun r_81 u_82 H locs wr_81 hP hD hS => ?_)
    obtain ⟨pa_82, rfl⟩ : ∃ z, z = u_82 := ⟨_, rfl⟩
    have hz_82 : pa_82 ≤ 32 := wr_81
    have hP : va_P D vwCl [(t 1, .inl (cI, 200, .inl fs)), (b1, .inl (cI, 26, .inl fl)), (t 0, .inr (9, [.ref (t 1), .ref (t 2), .ref (t 3), .ref (t 4), .ref (t 5), .int u, .int cl, .int (nI pa_82), .int rf])), (t 2, .inl (cI, 32, .inl fk))] H := hP
    have hD : va_D A [(t 1, .inl (cI, 200, .inl fs)), (b1, .inl (cI, 26, .inl fl)), (t 0, .inr (9, [.ref (t 1), .ref (t 2), .ref (t 3), .ref (t 4), .ref (t 5), .int u, .int cl, .int (nI pa_82), .int rf])), (t 2, .inl (cI, 32, .inl fk))] := hD
    refine lv_iload hx hb dX9_stepOn_183 (lv_at hl 0 rfl) ?_
    refine eWi (wr := [(t 1, .inl (cI, 200, .inl fs)), (b1, .inl (cI, 26, .inl fl)), (t 2, .inl (cI, 32, .inl fk))]) (va_runV (As := [.int 7, .int r_81, .int r_78]) (rest := [.ref (t 0)]) ⟨hx, hb, hml, hown, hts⟩ (c_X9_reckon l D cI cB cZ cJ tx t u cl (nI pa_82) rf 7 r_81 r_78 H.size) (zV hts k_803 v_X9_reckon ⟨Nat.le_of_ble_eq_true rfl, Nat.le_of_ble_eq_true rfl⟩) (pV (pxS hK hP hD [2] (by decide) rfl) hK hP 2 rfl rfl) rfl rfl hl.1 rfl (lv_room (Nat.le_of_ble_eq_true rfl)) dX9_stepOn_185 ⟨Nat.le_of_ble_eq_true rfl, Nat.le_of_ble_eq_true rfl⟩) hP hD hS hA [2] [0, 1, 3] rfl rfl (by decide) (by decide) (fun r_83 u_84 H locs wr_83 hP hD hS => ?_)
    obtain ⟨ra_84, rfl⟩ : ∃ z, z = u_84 := ⟨_, rfl⟩
    have hz_84 : True := wr_83
    have hP : va_P D vwCl [(t 1, .inl (cI, 200, .inl fs)), (b1, .inl (cI, 26, .inl fl)), (t 2, .inl (cI, 32, .inl fk)), (t 0, .inr (9, [.ref (t 1), .ref (t 2), .ref (t 3), .ref (t 4), .ref (t 5), .int u, .int cl, .int (nI pa_82), .int ra_84]))] H := hP
    have hD : va_D A [(t 1, .inl (cI, 200, .inl fs)), (b1, .inl (cI, 26, .inl fl)), (t 2, .inl (cI, 32, .inl fk)), (t 0, .inr (9, [.ref (t 1), .ref (t 2), .ref (t 3), .ref (t 4), .ref (t 5), .int u, .int cl, .int (nI pa_82), .int ra_84]))] := hD
    refine eWv (wr := [(t 1, .inl (cI, 200, .inl fs)), (b1, .inl (cI, 26, .inl fl))]) (va_runV (As := [.int r_83]) (rest := []) ⟨hx, hb, hml, hown, hts⟩ (c_X9_push l D cI cB cZ cJ tx t u cl ra_84 pa_82 fk r_83 (lf_X9_stepOn_85 t u cl rf p1 fs fk fl b1 j0 hp hst hj 7 ex_3 x_6 ex_6 c_7 c_12 c_24 c_37 c_50 c_63 rfl pa_79 hz_79 r_78 wr_78 pa_82 hz_82 r_81 wr_81 ra_84 hz_84 r_83 wr_83) H.size) (zV hts k_795 v_X9_push ⟨Nat.le_of_ble_eq_true rfl, Nat.le_of_ble_eq_true rfl⟩) (pV (pxS hK hP hD [3, 2] (by decide) rfl) hK hP 3 rfl rfl) rfl rfl hl.1 rfl (lv_room (Nat.le_of_ble_eq_true rfl)) dX9_stepOn_188 ⟨Nat.le_of_ble_eq_true rfl, Nat.le_of_ble_eq_true rfl⟩) hP hD hS hA [3, 2] [0, 1] rfl rfl (by decide) (by decide) (fun u_87 H locs wr_86 hP hD hS => ?_)
    obtain ⟨pa_87, fa_87⟩ := u_87
    have hz_87 : pa_87 ≤ 32 := wr_86
    have hP : va_P D vwCl [(t 1, .inl (cI, 200, .inl fs)), (b1, .inl (cI, 26, .inl fl)), (t 0, .inr (9, [.ref (t 1), .ref (t 2), .ref (t 3), .ref (t 4), .ref (t 5), .int u, .int cl, .int (nI pa_87), .int ra_84])), (t 2, .inl (cI, 32, .inl fa_87))] H := hP
    have hD : va_D A [(t 1, .inl (cI, 200, .inl fs)), (b1, .inl (cI, 26, .inl fl)), (t 0, .inr (9, [.ref (t 1), .ref (t 2), .ref (t 3), .ref (t 4), .ref (t 5), .int u, .int cl, .int (nI pa_87), .int ra_84])), (t 2, .inl (cI, 32, .inl fa_87))] := hD
    refine lv_iload_n hx hb dX9_stepOn_191 rfl (lv_at hl 4 rfl) ?_
    refine lv_iconst (v := 1) hx hb dX9_stepOn_192 (by decide) ?_
    refine lv_iadd hx hb dX9_stepOn_193 ?_
    refine lv_topv (y := nI (j0 + 1)) (nI_add j0 1) ?_
    have hP := hP.sub (ws' := [(t 0, .inr (9, [.ref (t 1), .ref (t 2), .ref (t 3), .ref (t 4), .ref (t 5), .int u, .int cl, .int (nI pa_87), .int ra_84])), (t 1, .inl (cI, 200, .inl fs)), (t 2, .inl (cI, 32, .inl fa_87)), (b1, .inl (cI, 26, .inl fl))]) [2, 0, 3, 1] rfl
    have hD := hD.sub (ws' := [(t 0, .inr (9, [.ref (t 1), .ref (t 2), .ref (t 3), .ref (t 4), .ref (t 5), .int u, .int cl, .int (nI pa_87), .int ra_84])), (t 1, .inl (cI, 200, .inl fs)), (t 2, .inl (cI, 32, .inl fa_87)), (b1, .inl (cI, 26, .inl fl))]) [2, 0, 3, 1] (by decide) rfl
    exact W.iret (v := nI (j0 + 1)) hx hb hr (fun t ht hW => ⟨⟨(nI (j0 + 1) : Int32), (pa_87, (ra_84 : Int32), fa_87), rfl, (lf_X9_stepOn_88 t u cl rf p1 fs fk fl b1 j0 hp hst hj 7 ex_3 x_6 ex_6 c_7 c_12 c_24 c_37 c_50 c_63 rfl pa_79 hz_79 r_78 wr_78 pa_82 hz_82 r_81 wr_81 ra_84 hz_84 r_83 wr_83 pa_87 fa_87 hz_87), ⟨by rw [ht]; exact hP, hD⟩⟩, hS.F ht⟩) hS.2.2 dX9_stepOn_194 hlocks
  by_cases c_89 : x_3 = 8
  · subst c_89
    refine lv_tableIn (off := 149) (tgt := 170) hx hb dX9_stepOn_21 (by decide) (by decide) rfl (by decide) ?_
    refine lv_aload_n hx hb dX9_stepOn_170 rfl (lv_at hl 2 rfl) ?_
    refine eWi (wr := [(t 1, .inl (cI, 200, .inl fs)), (b1, .inl (cI, 26, .inl fl))]) (va_runV (As := []) (rest := []) ⟨hx, hb, hml, hown, hts⟩ (c_X9_pop l D cI cB cZ cJ tx t u cl rf p1 fk (lf_X9_stepOn_90 t u cl rf p1 fs fk fl b1 j0 hp hst hj 8 ex_3 x_6 ex_6 c_7 c_12 c_24 c_37 c_50 c_63 c_76 rfl) H.size) (zV hts k_799 v_X9_pop ⟨Nat.le_of_ble_eq_true rfl, Nat.le_of_ble_eq_true rfl⟩) (pV (pxS hK hP hD [0, 2] (by decide) rfl) hK hP 0 rfl rfl) rfl rfl hl.1 rfl (lv_room (Nat.le_of_ble_eq_true rfl)) dX9_stepOn_171 ⟨Nat.le_of_ble_eq_true rfl, Nat.le_of_ble_eq_true rfl⟩) hP hD hS hA [0, 2] [1, 3] rfl rfl (by decide) (by decide) (fun r_91 u_92 H locs wr_91 hP hD hS => ?_)
    obtain ⟨pa_92, rfl⟩ : ∃ z, z = u_92 := ⟨_, rfl⟩
    have hz_92 : pa_92 ≤ 32 := wr_91
    have hP : va_P D vwCl [(t 1, .inl (cI, 200, .inl fs)), (b1, .inl (cI, 26, .inl fl)), (t 0, .inr (9, [.ref (t 1), .ref (t 2), .ref (t 3), .ref (t 4), .ref (t 5), .int u, .int cl, .int (nI pa_92), .int rf])), (t 2, .inl (cI, 32, .inl fk))] H := hP
    have hD : va_D A [(t 1, .inl (cI, 200, .inl fs)), (b1, .inl (cI, 26, .inl fl)), (t 0, .inr (9, [.ref (t 1), .ref (t 2), .ref (t 3), .ref (t 4), .ref (t 5), .int u, .int cl, .int (nI pa_92), .int rf])), (t 2, .inl (cI, 32, .inl fk))] := hD
    refine lv_istore (lv' := [(5, .int r_91), (4, .int x_6), (3, .int 8), (0, .ref (t 0)), (1, .int (nI j0)), (2, .ref b1)]) hx hb dX9_stepOn_174 hl (by decide) rfl (fun ls hl => ?_)
    refine lv_aload_n hx hb dX9_stepOn_176 rfl (lv_at hl 3 rfl) ?_
    refine lv_aload_n hx hb dX9_stepOn_177 rfl (lv_at hl 3 rfl) ?_
    refine lv_iload_n hx hb dX9_stepOn_178 rfl (lv_at hl 2 rfl) ?_
    refine lv_aload_n hx hb dX9_stepOn_179 rfl (lv_at hl 3 rfl) ?_
    refine eWi (wr := [(t 1, .inl (cI, 200, .inl fs)), (b1, .inl (cI, 26, .inl fl))]) (va_runV (As := []) (rest := [.int 8, .ref (t 0), .ref (t 0)]) ⟨hx, hb, hml, hown, hts⟩ (c_X9_pop l D cI cB cZ cJ tx t u cl rf pa_92 fk (lf_X9_stepOn_93 t u cl rf p1 fs fk fl b1 j0 hp hst hj 8 ex_3 x_6 ex_6 c_7 c_12 c_24 c_37 c_50 c_63 c_76 rfl pa_92 hz_92 r_91 wr_91) H.size) (zV hts k_799 v_X9_pop ⟨Nat.le_of_ble_eq_true rfl, Nat.le_of_ble_eq_true rfl⟩) (pV (pxS hK hP hD [2, 3] (by decide) rfl) hK hP 2 rfl rfl) rfl rfl hl.1 rfl (lv_room (Nat.le_of_ble_eq_true rfl)) dX9_stepOn_180 ⟨Nat.le_of_ble_eq_true rfl, Nat.le_of_ble_eq_true rfl⟩) hP hD hS hA [2, 3] [0, 1] rfl rfl (by decide) (by decide) (fun r_94 u_95 H locs wr_94 hP hD hS => ?_)
    obtain ⟨pa_95, rfl⟩ : ∃ z, z = u_95 := ⟨_, rfl⟩
    have hz_95 : pa_95 ≤ 32 := wr_94
    have hP : va_P D vwCl [(t 1, .inl (cI, 200, .inl fs)), (b1, .inl (cI, 26, .inl fl)), (t 0, .inr (9, [.ref (t 1), .ref (t 2), .ref (t 3), .ref (t 4), .ref (t 5), .int u, .int cl, .int (nI pa_95), .int rf])), (t 2, .inl (cI, 32, .inl fk))] H := hP
    have hD : va_D A [(t 1, .inl (cI, 200, .inl fs)), (b1, .inl (cI, 26, .inl fl)), (t 0, .inr (9, [.ref (t 1), .ref (t 2), .ref (t 3), .ref (t 4), .ref (t 5), .int u, .int cl, .int (nI pa_95), .int rf])), (t 2, .inl (cI, 32, .inl fk))] := hD
    refine lv_iload hx hb dX9_stepOn_183 (lv_at hl 0 rfl) ?_
    refine eWi (wr := [(t 1, .inl (cI, 200, .inl fs)), (b1, .inl (cI, 26, .inl fl)), (t 2, .inl (cI, 32, .inl fk))]) (va_runV (As := [.int 8, .int r_94, .int r_91]) (rest := [.ref (t 0)]) ⟨hx, hb, hml, hown, hts⟩ (c_X9_reckon l D cI cB cZ cJ tx t u cl (nI pa_95) rf 8 r_94 r_91 H.size) (zV hts k_803 v_X9_reckon ⟨Nat.le_of_ble_eq_true rfl, Nat.le_of_ble_eq_true rfl⟩) (pV (pxS hK hP hD [2] (by decide) rfl) hK hP 2 rfl rfl) rfl rfl hl.1 rfl (lv_room (Nat.le_of_ble_eq_true rfl)) dX9_stepOn_185 ⟨Nat.le_of_ble_eq_true rfl, Nat.le_of_ble_eq_true rfl⟩) hP hD hS hA [2] [0, 1, 3] rfl rfl (by decide) (by decide) (fun r_96 u_97 H locs wr_96 hP hD hS => ?_)
    obtain ⟨ra_97, rfl⟩ : ∃ z, z = u_97 := ⟨_, rfl⟩
    have hz_97 : True := wr_96
    have hP : va_P D vwCl [(t 1, .inl (cI, 200, .inl fs)), (b1, .inl (cI, 26, .inl fl)), (t 2, .inl (cI, 32, .inl fk)), (t 0, .inr (9, [.ref (t 1), .ref (t 2), .ref (t 3), .ref (t 4), .ref (t 5), .int u, .int cl, .int (nI pa_95), .int ra_97]))] H := hP
    have hD : va_D A [(t 1, .inl (cI, 200, .inl fs)), (b1, .inl (cI, 26, .inl fl)), (t 2, .inl (cI, 32, .inl fk)), (t 0, .inr (9, [.ref (t 1), .ref (t 2), .ref (t 3), .ref (t 4), .ref (t 5), .int u, .int cl, .int (nI pa_95), .int ra_97]))] := hD
    refine eWv (wr := [(t 1, .inl (cI, 200, .inl fs)), (b1, .inl (cI, 26, .inl fl))]) (va_runV (As := [.int r_96]) (rest := []) ⟨hx, hb, hml, hown, hts⟩ (c_X9_push l D cI cB cZ cJ tx t u cl ra_97 pa_95 fk r_96 (lf_X9_stepOn_98 t u cl rf p1 fs fk fl b1 j0 hp hst hj 8 ex_3 x_6 ex_6 c_7 c_12 c_24 c_37 c_50 c_63 c_76 rfl pa_92 hz_92 r_91 wr_91 pa_95 hz_95 r_94 wr_94 ra_97 hz_97 r_96 wr_96) H.size) (zV hts k_795 v_X9_push ⟨Nat.le_of_ble_eq_true rfl, Nat.le_of_ble_eq_true rfl⟩) (pV (pxS hK hP hD [3, 2] (by decide) rfl) hK hP 3 rfl rfl) rfl rfl hl.1 rfl (lv_room (Nat.le_of_ble_eq_true rfl)) dX9_stepOn_188 ⟨Nat.le_of_ble_eq_true rfl, Nat.le_of_ble_eq_true rfl⟩) hP hD hS hA [3, 2] [0, 1] rfl rfl (by decide) (by decide) (fun u_100 H locs wr_99 hP hD hS => ?_)
    obtain ⟨pa_100, fa_100⟩ := u_100
    have hz_100 : pa_100 ≤ 32 := wr_99
    have hP : va_P D vwCl [(t 1, .inl (cI, 200, .inl fs)), (b1, .inl (cI, 26, .inl fl)), (t 0, .inr (9, [.ref (t 1), .ref (t 2), .ref (t 3), .ref (t 4), .ref (t 5), .int u, .int cl, .int (nI pa_100), .int ra_97])), (t 2, .inl (cI, 32, .inl fa_100))] H := hP
    have hD : va_D A [(t 1, .inl (cI, 200, .inl fs)), (b1, .inl (cI, 26, .inl fl)), (t 0, .inr (9, [.ref (t 1), .ref (t 2), .ref (t 3), .ref (t 4), .ref (t 5), .int u, .int cl, .int (nI pa_100), .int ra_97])), (t 2, .inl (cI, 32, .inl fa_100))] := hD
    refine lv_iload_n hx hb dX9_stepOn_191 rfl (lv_at hl 4 rfl) ?_
    refine lv_iconst (v := 1) hx hb dX9_stepOn_192 (by decide) ?_
    refine lv_iadd hx hb dX9_stepOn_193 ?_
    refine lv_topv (y := nI (j0 + 1)) (nI_add j0 1) ?_
    have hP := hP.sub (ws' := [(t 0, .inr (9, [.ref (t 1), .ref (t 2), .ref (t 3), .ref (t 4), .ref (t 5), .int u, .int cl, .int (nI pa_100), .int ra_97])), (t 1, .inl (cI, 200, .inl fs)), (t 2, .inl (cI, 32, .inl fa_100)), (b1, .inl (cI, 26, .inl fl))]) [2, 0, 3, 1] rfl
    have hD := hD.sub (ws' := [(t 0, .inr (9, [.ref (t 1), .ref (t 2), .ref (t 3), .ref (t 4), .ref (t 5), .int u, .int cl, .int (nI pa_100), .int ra_97])), (t 1, .inl (cI, 200, .inl fs)), (t 2, .inl (cI, 32, .inl fa_100)), (b1, .inl (cI, 26, .inl fl))]) [2, 0, 3, 1] (by decide) rfl
    exact W.iret (v := nI (j0 + 1)) hx hb hr (fun t ht hW => ⟨⟨(nI (j0 + 1) : Int32), (pa_100, (ra_97 : Int32), fa_100), rfl, (lf_X9_stepOn_101 t u cl rf p1 fs fk fl b1 j0 hp hst hj 8 ex_3 x_6 ex_6 c_7 c_12 c_24 c_37 c_50 c_63 c_76 rfl pa_92 hz_92 r_91 wr_91 pa_95 hz_95 r_94 wr_94 ra_97 hz_97 r_96 wr_96 pa_100 fa_100 hz_100), ⟨by rw [ht]; exact hP, hD⟩⟩, hS.F ht⟩) hS.2.2 dX9_stepOn_194 hlocks
  by_cases c_102 : x_3 = 9
  · subst c_102
    refine lv_tableIn (off := 149) (tgt := 170) hx hb dX9_stepOn_21 (by decide) (by decide) rfl (by decide) ?_
    refine lv_aload_n hx hb dX9_stepOn_170 rfl (lv_at hl 2 rfl) ?_
    refine eWi (wr := [(t 1, .inl (cI, 200, .inl fs)), (b1, .inl (cI, 26, .inl fl))]) (va_runV (As := []) (rest := []) ⟨hx, hb, hml, hown, hts⟩ (c_X9_pop l D cI cB cZ cJ tx t u cl rf p1 fk (lf_X9_stepOn_103 t u cl rf p1 fs fk fl b1 j0 hp hst hj 9 ex_3 x_6 ex_6 c_7 c_12 c_24 c_37 c_50 c_63 c_76 c_89 rfl) H.size) (zV hts k_799 v_X9_pop ⟨Nat.le_of_ble_eq_true rfl, Nat.le_of_ble_eq_true rfl⟩) (pV (pxS hK hP hD [0, 2] (by decide) rfl) hK hP 0 rfl rfl) rfl rfl hl.1 rfl (lv_room (Nat.le_of_ble_eq_true rfl)) dX9_stepOn_171 ⟨Nat.le_of_ble_eq_true rfl, Nat.le_of_ble_eq_true rfl⟩) hP hD hS hA [0, 2] [1, 3] rfl rfl (by decide) (by decide) (fun r_104 u_105 H locs wr_104 hP hD hS => ?_)
    obtain ⟨pa_105, rfl⟩ : ∃ z, z = u_105 := ⟨_, rfl⟩
    have hz_105 : pa_105 ≤ 32 := wr_104
    have hP : va_P D vwCl [(t 1, .inl (cI, 200, .inl fs)), (b1, .inl (cI, 26, .inl fl)), (t 0, .inr (9, [.ref (t 1), .ref (t 2), .ref (t 3), .ref (t 4), .ref (t 5), .int u, .int cl, .int (nI pa_105), .int rf])), (t 2, .inl (cI, 32, .inl fk))] H := hP
    have hD : va_D A [(t 1, .inl (cI, 200, .inl fs)), (b1, .inl (cI, 26, .inl fl)), (t 0, .inr (9, [.ref (t 1), .ref (t 2), .ref (t 3), .ref (t 4), .ref (t 5), .int u, .int cl, .int (nI pa_105), .int rf])), (t 2, .inl (cI, 32, .inl fk))] := hD
    refine lv_istore (lv' := [(5, .int r_104), (4, .int x_6), (3, .int 9), (0, .ref (t 0)), (1, .int (nI j0)), (2, .ref b1)]) hx hb dX9_stepOn_174 hl (by decide) rfl (fun ls hl => ?_)
    refine lv_aload_n hx hb dX9_stepOn_176 rfl (lv_at hl 3 rfl) ?_
    refine lv_aload_n hx hb dX9_stepOn_177 rfl (lv_at hl 3 rfl) ?_
    refine lv_iload_n hx hb dX9_stepOn_178 rfl (lv_at hl 2 rfl) ?_
    refine lv_aload_n hx hb dX9_stepOn_179 rfl (lv_at hl 3 rfl) ?_
    refine eWi (wr := [(t 1, .inl (cI, 200, .inl fs)), (b1, .inl (cI, 26, .inl fl))]) (va_runV (As := []) (rest := [.int 9, .ref (t 0), .ref (t 0)]) ⟨hx, hb, hml, hown, hts⟩ (c_X9_pop l D cI cB cZ cJ tx t u cl rf pa_105 fk (lf_X9_stepOn_106 t u cl rf p1 fs fk fl b1 j0 hp hst hj 9 ex_3 x_6 ex_6 c_7 c_12 c_24 c_37 c_50 c_63 c_76 c_89 rfl pa_105 hz_105 r_104 wr_104) H.size) (zV hts k_799 v_X9_pop ⟨Nat.le_of_ble_eq_true rfl, Nat.le_of_ble_eq_true rfl⟩) (pV (pxS hK hP hD [2, 3] (by decide) rfl) hK hP 2 rfl rfl) rfl rfl hl.1 rfl (lv_room (Nat.le_of_ble_eq_true rfl)) dX9_stepOn_180 ⟨Nat.le_of_ble_eq_true rfl, Nat.le_of_ble_eq_true rfl⟩) hP hD hS hA [2, 3] [0, 1] rfl rfl (by decide) (by decide) (fun r_107 u_108 H locs wr_107 hP hD hS => ?_)
    obtain ⟨pa_108, rfl⟩ : ∃ z, z = u_108 := ⟨_, rfl⟩
    have hz_108 : pa_108 ≤ 32 := wr_107
    have hP : va_P D vwCl [(t 1, .inl (cI, 200, .inl fs)), (b1, .inl (cI, 26, .inl fl)), (t 0, .inr (9, [.ref (t 1), .ref (t 2), .ref (t 3), .ref (t 4), .ref (t 5), .int u, .int cl, .int (nI pa_108), .int rf])), (t 2, .inl (cI, 32, .inl fk))] H := hP
    have hD : va_D A [(t 1, .inl (cI, 200, .inl fs)), (b1, .inl (cI, 26, .inl fl)), (t 0, .inr (9, [.ref (t 1), .ref (t 2), .ref (t 3), .ref (t 4), .ref (t 5), .int u, .int cl, .int (nI pa_108), .int rf])), (t 2, .inl (cI, 32, .inl fk))] := hD
    refine lv_iload hx hb dX9_stepOn_183 (lv_at hl 0 rfl) ?_
    refine eWi (wr := [(t 1, .inl (cI, 200, .inl fs)), (b1, .inl (cI, 26, .inl fl)), (t 2, .inl (cI, 32, .inl fk))]) (va_runV (As := [.int 9, .int r_107, .int r_104]) (rest := [.ref (t 0)]) ⟨hx, hb, hml, hown, hts⟩ (c_X9_reckon l D cI cB cZ cJ tx t u cl (nI pa_108) rf 9 r_107 r_104 H.size) (zV hts k_803 v_X9_reckon ⟨Nat.le_of_ble_eq_true rfl, Nat.le_of_ble_eq_true rfl⟩) (pV (pxS hK hP hD [2] (by decide) rfl) hK hP 2 rfl rfl) rfl rfl hl.1 rfl (lv_room (Nat.le_of_ble_eq_true rfl)) dX9_stepOn_185 ⟨Nat.le_of_ble_eq_true rfl, Nat.le_of_ble_eq_true rfl⟩) hP hD hS hA [2] [0, 1, 3] rfl rfl (by decide) (by decide) (fun r_109 u_110 H locs wr_109 hP hD hS => ?_)
    obtain ⟨ra_110, rfl⟩ : ∃ z, z = u_110 := ⟨_, rfl⟩
    have hz_110 : True := wr_109
    have hP : va_P D vwCl [(t 1, .inl (cI, 200, .inl fs)), (b1, .inl (cI, 26, .inl fl)), (t 2, .inl (cI, 32, .inl fk)), (t 0, .inr (9, [.ref (t 1), .ref (t 2), .ref (t 3), .ref (t 4), .ref (t 5), .int u, .int cl, .int (nI pa_108), .int ra_110]))] H := hP
    have hD : va_D A [(t 1, .inl (cI, 200, .inl fs)), (b1, .inl (cI, 26, .inl fl)), (t 2, .inl (cI, 32, .inl fk)), (t 0, .inr (9, [.ref (t 1), .ref (t 2), .ref (t 3), .ref (t 4), .ref (t 5), .int u, .int cl, .int (nI pa_108), .int ra_110]))] := hD
    refine eWv (wr := [(t 1, .inl (cI, 200, .inl fs)), (b1, .inl (cI, 26, .inl fl))]) (va_runV (As := [.int r_109]) (rest := []) ⟨hx, hb, hml, hown, hts⟩ (c_X9_push l D cI cB cZ cJ tx t u cl ra_110 pa_108 fk r_109 (lf_X9_stepOn_111 t u cl rf p1 fs fk fl b1 j0 hp hst hj 9 ex_3 x_6 ex_6 c_7 c_12 c_24 c_37 c_50 c_63 c_76 c_89 rfl pa_105 hz_105 r_104 wr_104 pa_108 hz_108 r_107 wr_107 ra_110 hz_110 r_109 wr_109) H.size) (zV hts k_795 v_X9_push ⟨Nat.le_of_ble_eq_true rfl, Nat.le_of_ble_eq_true rfl⟩) (pV (pxS hK hP hD [3, 2] (by decide) rfl) hK hP 3 rfl rfl) rfl rfl hl.1 rfl (lv_room (Nat.le_of_ble_eq_true rfl)) dX9_stepOn_188 ⟨Nat.le_of_ble_eq_true rfl, Nat.le_of_ble_eq_true rfl⟩) hP hD hS hA [3, 2] [0, 1] rfl rfl (by decide) (by decide) (fun u_113 H locs wr_112 hP hD hS => ?_)
    obtain ⟨pa_113, fa_113⟩ := u_113
    have hz_113 : pa_113 ≤ 32 := wr_112
    have hP : va_P D vwCl [(t 1, .inl (cI, 200, .inl fs)), (b1, .inl (cI, 26, .inl fl)), (t 0, .inr (9, [.ref (t 1), .ref (t 2), .ref (t 3), .ref (t 4), .ref (t 5), .int u, .int cl, .int (nI pa_113), .int ra_110])), (t 2, .inl (cI, 32, .inl fa_113))] H := hP
    have hD : va_D A [(t 1, .inl (cI, 200, .inl fs)), (b1, .inl (cI, 26, .inl fl)), (t 0, .inr (9, [.ref (t 1), .ref (t 2), .ref (t 3), .ref (t 4), .ref (t 5), .int u, .int cl, .int (nI pa_113), .int ra_110])), (t 2, .inl (cI, 32, .inl fa_113))] := hD
    refine lv_iload_n hx hb dX9_stepOn_191 rfl (lv_at hl 4 rfl) ?_
    refine lv_iconst (v := 1) hx hb dX9_stepOn_192 (by decide) ?_
    refine lv_iadd hx hb dX9_stepOn_193 ?_
    refine lv_topv (y := nI (j0 + 1)) (nI_add j0 1) ?_
    have hP := hP.sub (ws' := [(t 0, .inr (9, [.ref (t 1), .ref (t 2), .ref (t 3), .ref (t 4), .ref (t 5), .int u, .int cl, .int (nI pa_113), .int ra_110])), (t 1, .inl (cI, 200, .inl fs)), (t 2, .inl (cI, 32, .inl fa_113)), (b1, .inl (cI, 26, .inl fl))]) [2, 0, 3, 1] rfl
    have hD := hD.sub (ws' := [(t 0, .inr (9, [.ref (t 1), .ref (t 2), .ref (t 3), .ref (t 4), .ref (t 5), .int u, .int cl, .int (nI pa_113), .int ra_110])), (t 1, .inl (cI, 200, .inl fs)), (t 2, .inl (cI, 32, .inl fa_113)), (b1, .inl (cI, 26, .inl fl))]) [2, 0, 3, 1] (by decide) rfl
    exact W.iret (v := nI (j0 + 1)) hx hb hr (fun t ht hW => ⟨⟨(nI (j0 + 1) : Int32), (pa_113, (ra_110 : Int32), fa_113), rfl, (lf_X9_stepOn_114 t u cl rf p1 fs fk fl b1 j0 hp hst hj 9 ex_3 x_6 ex_6 c_7 c_12 c_24 c_37 c_50 c_63 c_76 c_89 rfl pa_105 hz_105 r_104 wr_104 pa_108 hz_108 r_107 wr_107 ra_110 hz_110 r_109 wr_109 pa_113 fa_113 hz_113), ⟨by rw [ht]; exact hP, hD⟩⟩, hS.F ht⟩) hS.2.2 dX9_stepOn_194 hlocks
  by_cases c_115 : x_3 = 10
  · subst c_115
    refine lv_tableIn (off := 149) (tgt := 170) hx hb dX9_stepOn_21 (by decide) (by decide) rfl (by decide) ?_
    refine lv_aload_n hx hb dX9_stepOn_170 rfl (lv_at hl 2 rfl) ?_
    refine eWi (wr := [(t 1, .inl (cI, 200, .inl fs)), (b1, .inl (cI, 26, .inl fl))]) (va_runV (As := []) (rest := []) ⟨hx, hb, hml, hown, hts⟩ (c_X9_pop l D cI cB cZ cJ tx t u cl rf p1 fk (lf_X9_stepOn_116 t u cl rf p1 fs fk fl b1 j0 hp hst hj 10 ex_3 x_6 ex_6 c_7 c_12 c_24 c_37 c_50 c_63 c_76 c_89 c_102 rfl) H.size) (zV hts k_799 v_X9_pop ⟨Nat.le_of_ble_eq_true rfl, Nat.le_of_ble_eq_true rfl⟩) (pV (pxS hK hP hD [0, 2] (by decide) rfl) hK hP 0 rfl rfl) rfl rfl hl.1 rfl (lv_room (Nat.le_of_ble_eq_true rfl)) dX9_stepOn_171 ⟨Nat.le_of_ble_eq_true rfl, Nat.le_of_ble_eq_true rfl⟩) hP hD hS hA [0, 2] [1, 3] rfl rfl (by decide) (by decide) (fun r_117 u_118 H locs wr_117 hP hD hS => ?_)
    obtain ⟨pa_118, rfl⟩ : ∃ z, z = u_118 := ⟨_, rfl⟩
    have hz_118 : pa_118 ≤ 32 := wr_117
    have hP : va_P D vwCl [(t 1, .inl (cI, 200, .inl fs)), (b1, .inl (cI, 26, .inl fl)), (t 0, .inr (9, [.ref (t 1), .ref (t 2), .ref (t 3), .ref (t 4), .ref (t 5), .int u, .int cl, .int (nI pa_118), .int rf])), (t 2, .inl (cI, 32, .inl fk))] H := hP
    have hD : va_D A [(t 1, .inl (cI, 200, .inl fs)), (b1, .inl (cI, 26, .inl fl)), (t 0, .inr (9, [.ref (t 1), .ref (t 2), .ref (t 3), .ref (t 4), .ref (t 5), .int u, .int cl, .int (nI pa_118), .int rf])), (t 2, .inl (cI, 32, .inl fk))] := hD
    refine lv_istore (lv' := [(5, .int r_117), (4, .int x_6), (3, .int 10), (0, .ref (t 0)), (1, .int (nI j0)), (2, .ref b1)]) hx hb dX9_stepOn_174 hl (by decide) rfl (fun ls hl => ?_)
    refine lv_aload_n hx hb dX9_stepOn_176 rfl (lv_at hl 3 rfl) ?_
    refine lv_aload_n hx hb dX9_stepOn_177 rfl (lv_at hl 3 rfl) ?_
    refine lv_iload_n hx hb dX9_stepOn_178 rfl (lv_at hl 2 rfl) ?_
    refine lv_aload_n hx hb dX9_stepOn_179 rfl (lv_at hl 3 rfl) ?_
    refine eWi (wr := [(t 1, .inl (cI, 200, .inl fs)), (b1, .inl (cI, 26, .inl fl))]) (va_runV (As := []) (rest := [.int 10, .ref (t 0), .ref (t 0)]) ⟨hx, hb, hml, hown, hts⟩ (c_X9_pop l D cI cB cZ cJ tx t u cl rf pa_118 fk (lf_X9_stepOn_119 t u cl rf p1 fs fk fl b1 j0 hp hst hj 10 ex_3 x_6 ex_6 c_7 c_12 c_24 c_37 c_50 c_63 c_76 c_89 c_102 rfl pa_118 hz_118 r_117 wr_117) H.size) (zV hts k_799 v_X9_pop ⟨Nat.le_of_ble_eq_true rfl, Nat.le_of_ble_eq_true rfl⟩) (pV (pxS hK hP hD [2, 3] (by decide) rfl) hK hP 2 rfl rfl) rfl rfl hl.1 rfl (lv_room (Nat.le_of_ble_eq_true rfl)) dX9_stepOn_180 ⟨Nat.le_of_ble_eq_true rfl, Nat.le_of_ble_eq_true rfl⟩) hP hD hS hA [2, 3] [0, 1] rfl rfl (by decide) (by decide) (fun r_120 u_121 H locs wr_120 hP hD hS => ?_)
    obtain ⟨pa_121, rfl⟩ : ∃ z, z = u_121 := ⟨_, rfl⟩
    have hz_121 : pa_121 ≤ 32 := wr_120
    have hP : va_P D vwCl [(t 1, .inl (cI, 200, .inl fs)), (b1, .inl (cI, 26, .inl fl)), (t 0, .inr (9, [.ref (t 1), .ref (t 2), .ref (t 3), .ref (t 4), .ref (t 5), .int u, .int cl, .int (nI pa_121), .int rf])), (t 2, .inl (cI, 32, .inl fk))] H := hP
    have hD : va_D A [(t 1, .inl (cI, 200, .inl fs)), (b1, .inl (cI, 26, .inl fl)), (t 0, .inr (9, [.ref (t 1), .ref (t 2), .ref (t 3), .ref (t 4), .ref (t 5), .int u, .int cl, .int (nI pa_121), .int rf])), (t 2, .inl (cI, 32, .inl fk))] := hD
    refine lv_iload hx hb dX9_stepOn_183 (lv_at hl 0 rfl) ?_
    refine eWi (wr := [(t 1, .inl (cI, 200, .inl fs)), (b1, .inl (cI, 26, .inl fl)), (t 2, .inl (cI, 32, .inl fk))]) (va_runV (As := [.int 10, .int r_120, .int r_117]) (rest := [.ref (t 0)]) ⟨hx, hb, hml, hown, hts⟩ (c_X9_reckon l D cI cB cZ cJ tx t u cl (nI pa_121) rf 10 r_120 r_117 H.size) (zV hts k_803 v_X9_reckon ⟨Nat.le_of_ble_eq_true rfl, Nat.le_of_ble_eq_true rfl⟩) (pV (pxS hK hP hD [2] (by decide) rfl) hK hP 2 rfl rfl) rfl rfl hl.1 rfl (lv_room (Nat.le_of_ble_eq_true rfl)) dX9_stepOn_185 ⟨Nat.le_of_ble_eq_true rfl, Nat.le_of_ble_eq_true rfl⟩) hP hD hS hA [2] [0, 1, 3] rfl rfl (by decide) (by decide) (fun r_122 u_123 H locs wr_122 hP hD hS => ?_)
    obtain ⟨ra_123, rfl⟩ : ∃ z, z = u_123 := ⟨_, rfl⟩
    have hz_123 : True := wr_122
    have hP : va_P D vwCl [(t 1, .inl (cI, 200, .inl fs)), (b1, .inl (cI, 26, .inl fl)), (t 2, .inl (cI, 32, .inl fk)), (t 0, .inr (9, [.ref (t 1), .ref (t 2), .ref (t 3), .ref (t 4), .ref (t 5), .int u, .int cl, .int (nI pa_121), .int ra_123]))] H := hP
    have hD : va_D A [(t 1, .inl (cI, 200, .inl fs)), (b1, .inl (cI, 26, .inl fl)), (t 2, .inl (cI, 32, .inl fk)), (t 0, .inr (9, [.ref (t 1), .ref (t 2), .ref (t 3), .ref (t 4), .ref (t 5), .int u, .int cl, .int (nI pa_121), .int ra_123]))] := hD
    refine eWv (wr := [(t 1, .inl (cI, 200, .inl fs)), (b1, .inl (cI, 26, .inl fl))]) (va_runV (As := [.int r_122]) (rest := []) ⟨hx, hb, hml, hown, hts⟩ (c_X9_push l D cI cB cZ cJ tx t u cl ra_123 pa_121 fk r_122 (lf_X9_stepOn_124 t u cl rf p1 fs fk fl b1 j0 hp hst hj 10 ex_3 x_6 ex_6 c_7 c_12 c_24 c_37 c_50 c_63 c_76 c_89 c_102 rfl pa_118 hz_118 r_117 wr_117 pa_121 hz_121 r_120 wr_120 ra_123 hz_123 r_122 wr_122) H.size) (zV hts k_795 v_X9_push ⟨Nat.le_of_ble_eq_true rfl, Nat.le_of_ble_eq_true rfl⟩) (pV (pxS hK hP hD [3, 2] (by decide) rfl) hK hP 3 rfl rfl) rfl rfl hl.1 rfl (lv_room (Nat.le_of_ble_eq_true rfl)) dX9_stepOn_188 ⟨Nat.le_of_ble_eq_true rfl, Nat.le_of_ble_eq_true rfl⟩) hP hD hS hA [3, 2] [0, 1] rfl rfl (by decide) (by decide) (fun u_126 H locs wr_125 hP hD hS => ?_)
    obtain ⟨pa_126, fa_126⟩ := u_126
    have hz_126 : pa_126 ≤ 32 := wr_125
    have hP : va_P D vwCl [(t 1, .inl (cI, 200, .inl fs)), (b1, .inl (cI, 26, .inl fl)), (t 0, .inr (9, [.ref (t 1), .ref (t 2), .ref (t 3), .ref (t 4), .ref (t 5), .int u, .int cl, .int (nI pa_126), .int ra_123])), (t 2, .inl (cI, 32, .inl fa_126))] H := hP
    have hD : va_D A [(t 1, .inl (cI, 200, .inl fs)), (b1, .inl (cI, 26, .inl fl)), (t 0, .inr (9, [.ref (t 1), .ref (t 2), .ref (t 3), .ref (t 4), .ref (t 5), .int u, .int cl, .int (nI pa_126), .int ra_123])), (t 2, .inl (cI, 32, .inl fa_126))] := hD
    refine lv_iload_n hx hb dX9_stepOn_191 rfl (lv_at hl 4 rfl) ?_
    refine lv_iconst (v := 1) hx hb dX9_stepOn_192 (by decide) ?_
    refine lv_iadd hx hb dX9_stepOn_193 ?_
    refine lv_topv (y := nI (j0 + 1)) (nI_add j0 1) ?_
    have hP := hP.sub (ws' := [(t 0, .inr (9, [.ref (t 1), .ref (t 2), .ref (t 3), .ref (t 4), .ref (t 5), .int u, .int cl, .int (nI pa_126), .int ra_123])), (t 1, .inl (cI, 200, .inl fs)), (t 2, .inl (cI, 32, .inl fa_126)), (b1, .inl (cI, 26, .inl fl))]) [2, 0, 3, 1] rfl
    have hD := hD.sub (ws' := [(t 0, .inr (9, [.ref (t 1), .ref (t 2), .ref (t 3), .ref (t 4), .ref (t 5), .int u, .int cl, .int (nI pa_126), .int ra_123])), (t 1, .inl (cI, 200, .inl fs)), (t 2, .inl (cI, 32, .inl fa_126)), (b1, .inl (cI, 26, .inl fl))]) [2, 0, 3, 1] (by decide) rfl
    exact W.iret (v := nI (j0 + 1)) hx hb hr (fun t ht hW => ⟨⟨(nI (j0 + 1) : Int32), (pa_126, (ra_123 : Int32), fa_126), rfl, (lf_X9_stepOn_127 t u cl rf p1 fs fk fl b1 j0 hp hst hj 10 ex_3 x_6 ex_6 c_7 c_12 c_24 c_37 c_50 c_63 c_76 c_89 c_102 rfl pa_118 hz_118 r_117 wr_117 pa_121 hz_121 r_120 wr_120 ra_123 hz_123 r_122 wr_122 pa_126 fa_126 hz_126), ⟨by rw [ht]; exact hP, hD⟩⟩, hS.F ht⟩) hS.2.2 dX9_stepOn_194 hlocks
  by_cases c_128 : x_3 = 11
  · subst c_128
    refine lv_tableIn (off := 100) (tgt := 121) hx hb dX9_stepOn_21 (by decide) (by decide) rfl (by decide) ?_
    refine lv_aload_n hx hb dX9_stepOn_121 rfl (lv_at hl 2 rfl) ?_
    refine lv_iconst (v := 1) hx hb dX9_stepOn_122 (by decide) ?_
    refine lv_aload_n hx hb dX9_stepOn_123 rfl (lv_at hl 2 rfl) ?_
    refine eWi (wr := [(t 1, .inl (cI, 200, .inl fs)), (b1, .inl (cI, 26, .inl fl))]) (va_runV (As := []) (rest := [.int 1, .ref (t 0)]) ⟨hx, hb, hml, hown, hts⟩ (c_X9_pop l D cI cB cZ cJ tx t u cl rf p1 fk (lf_X9_stepOn_129 t u cl rf p1 fs fk fl b1 j0 hp hst hj 11 ex_3 x_6 ex_6 c_7 c_12 c_24 c_37 c_50 c_63 c_76 c_89 c_102 c_115 rfl) H.size) (zV hts k_799 v_X9_pop ⟨Nat.le_of_ble_eq_true rfl, Nat.le_of_ble_eq_true rfl⟩) (pV (pxS hK hP hD [0, 2] (by decide) rfl) hK hP 0 rfl rfl) rfl rfl hl.1 rfl (lv_room (Nat.le_of_ble_eq_true rfl)) dX9_stepOn_124 ⟨Nat.le_of_ble_eq_true rfl, Nat.le_of_ble_eq_true rfl⟩) hP hD hS hA [0, 2] [1, 3] rfl rfl (by decide) (by decide) (fun r_130 u_131 H locs wr_130 hP hD hS => ?_)
    obtain ⟨pa_131, rfl⟩ : ∃ z, z = u_131 := ⟨_, rfl⟩
    have hz_131 : pa_131 ≤ 32 := wr_130
    have hP : va_P D vwCl [(t 1, .inl (cI, 200, .inl fs)), (b1, .inl (cI, 26, .inl fl)), (t 0, .inr (9, [.ref (t 1), .ref (t 2), .ref (t 3), .ref (t 4), .ref (t 5), .int u, .int cl, .int (nI pa_131), .int rf])), (t 2, .inl (cI, 32, .inl fk))] H := hP
    have hD : va_D A [(t 1, .inl (cI, 200, .inl fs)), (b1, .inl (cI, 26, .inl fl)), (t 0, .inr (9, [.ref (t 1), .ref (t 2), .ref (t 3), .ref (t 4), .ref (t 5), .int u, .int cl, .int (nI pa_131), .int rf])), (t 2, .inl (cI, 32, .inl fk))] := hD
    refine lv_isub hx hb dX9_stepOn_127 ?_
    refine lv_topi (fun x_132 ex_132 => ?_)
    refine eWv (wr := [(t 1, .inl (cI, 200, .inl fs)), (b1, .inl (cI, 26, .inl fl))]) (va_runV (As := [.int x_132]) (rest := []) ⟨hx, hb, hml, hown, hts⟩ (c_X9_push l D cI cB cZ cJ tx t u cl rf pa_131 fk x_132 (lf_X9_stepOn_133 t u cl rf p1 fs fk fl b1 j0 hp hst hj 11 ex_3 x_6 ex_6 c_7 c_12 c_24 c_37 c_50 c_63 c_76 c_89 c_102 c_115 rfl pa_131 hz_131 r_130 wr_130 x_132 ex_132) H.size) (zV hts k_795 v_X9_push ⟨Nat.le_of_ble_eq_true rfl, Nat.le_of_ble_eq_true rfl⟩) (pV (pxS hK hP hD [2, 3] (by decide) rfl) hK hP 2 rfl rfl) rfl rfl hl.1 rfl (lv_room (Nat.le_of_ble_eq_true rfl)) dX9_stepOn_128 ⟨Nat.le_of_ble_eq_true rfl, Nat.le_of_ble_eq_true rfl⟩) hP hD hS hA [2, 3] [0, 1] rfl rfl (by decide) (by decide) (fun u_135 H locs wr_134 hP hD hS => ?_)
    obtain ⟨pa_135, fa_135⟩ := u_135
    have hz_135 : pa_135 ≤ 32 := wr_134
    have hP : va_P D vwCl [(t 1, .inl (cI, 200, .inl fs)), (b1, .inl (cI, 26, .inl fl)), (t 0, .inr (9, [.ref (t 1), .ref (t 2), .ref (t 3), .ref (t 4), .ref (t 5), .int u, .int cl, .int (nI pa_135), .int rf])), (t 2, .inl (cI, 32, .inl fa_135))] H := hP
    have hD : va_D A [(t 1, .inl (cI, 200, .inl fs)), (b1, .inl (cI, 26, .inl fl)), (t 0, .inr (9, [.ref (t 1), .ref (t 2), .ref (t 3), .ref (t 4), .ref (t 5), .int u, .int cl, .int (nI pa_135), .int rf])), (t 2, .inl (cI, 32, .inl fa_135))] := hD
    refine lv_iload_n hx hb dX9_stepOn_131 rfl (lv_at hl 3 rfl) ?_
    refine lv_iconst (v := 1) hx hb dX9_stepOn_132 (by decide) ?_
    refine lv_iadd hx hb dX9_stepOn_133 ?_
    refine lv_topv (y := nI (j0 + 1)) (nI_add j0 1) ?_
    have hP := hP.sub (ws' := [(t 0, .inr (9, [.ref (t 1), .ref (t 2), .ref (t 3), .ref (t 4), .ref (t 5), .int u, .int cl, .int (nI pa_135), .int rf])), (t 1, .inl (cI, 200, .inl fs)), (t 2, .inl (cI, 32, .inl fa_135)), (b1, .inl (cI, 26, .inl fl))]) [2, 0, 3, 1] rfl
    have hD := hD.sub (ws' := [(t 0, .inr (9, [.ref (t 1), .ref (t 2), .ref (t 3), .ref (t 4), .ref (t 5), .int u, .int cl, .int (nI pa_135), .int rf])), (t 1, .inl (cI, 200, .inl fs)), (t 2, .inl (cI, 32, .inl fa_135)), (b1, .inl (cI, 26, .inl fl))]) [2, 0, 3, 1] (by decide) rfl
    exact W.iret (v := nI (j0 + 1)) hx hb hr (fun t ht hW => ⟨⟨(nI (j0 + 1) : Int32), (pa_135, (rf : Int32), fa_135), rfl, (lf_X9_stepOn_136 t u cl rf p1 fs fk fl b1 j0 hp hst hj 11 ex_3 x_6 ex_6 c_7 c_12 c_24 c_37 c_50 c_63 c_76 c_89 c_102 c_115 rfl pa_131 hz_131 r_130 wr_130 x_132 ex_132 pa_135 fa_135 hz_135), ⟨by rw [ht]; exact hP, hD⟩⟩, hS.F ht⟩) hS.2.2 dX9_stepOn_134 hlocks
  by_cases c_137 : x_3 = 12
  · subst c_137
    refine lv_tableIn (off := 114) (tgt := 135) hx hb dX9_stepOn_21 (by decide) (by decide) rfl (by decide) ?_
    refine lv_aload_n hx hb dX9_stepOn_135 rfl (lv_at hl 2 rfl) ?_
    refine eWi (wr := [(t 1, .inl (cI, 200, .inl fs)), (b1, .inl (cI, 26, .inl fl))]) (va_runV (As := []) (rest := []) ⟨hx, hb, hml, hown, hts⟩ (c_X9_pop l D cI cB cZ cJ tx t u cl rf p1 fk (lf_X9_stepOn_138 t u cl rf p1 fs fk fl b1 j0 hp hst hj 12 ex_3 x_6 ex_6 c_7 c_12 c_24 c_37 c_50 c_63 c_76 c_89 c_102 c_115 c_128 rfl) H.size) (zV hts k_799 v_X9_pop ⟨Nat.le_of_ble_eq_true rfl, Nat.le_of_ble_eq_true rfl⟩) (pV (pxS hK hP hD [0, 2] (by decide) rfl) hK hP 0 rfl rfl) rfl rfl hl.1 rfl (lv_room (Nat.le_of_ble_eq_true rfl)) dX9_stepOn_136 ⟨Nat.le_of_ble_eq_true rfl, Nat.le_of_ble_eq_true rfl⟩) hP hD hS hA [0, 2] [1, 3] rfl rfl (by decide) (by decide) (fun r_139 u_140 H locs wr_139 hP hD hS => ?_)
    obtain ⟨pa_140, rfl⟩ : ∃ z, z = u_140 := ⟨_, rfl⟩
    have hz_140 : pa_140 ≤ 32 := wr_139
    have hP : va_P D vwCl [(t 1, .inl (cI, 200, .inl fs)), (b1, .inl (cI, 26, .inl fl)), (t 0, .inr (9, [.ref (t 1), .ref (t 2), .ref (t 3), .ref (t 4), .ref (t 5), .int u, .int cl, .int (nI pa_140), .int rf])), (t 2, .inl (cI, 32, .inl fk))] H := hP
    have hD : va_D A [(t 1, .inl (cI, 200, .inl fs)), (b1, .inl (cI, 26, .inl fl)), (t 0, .inr (9, [.ref (t 1), .ref (t 2), .ref (t 3), .ref (t 4), .ref (t 5), .int u, .int cl, .int (nI pa_140), .int rf])), (t 2, .inl (cI, 32, .inl fk))] := hD
    refine lv_istore (lv' := [(5, .int r_139), (4, .int x_6), (3, .int 12), (0, .ref (t 0)), (1, .int (nI j0)), (2, .ref b1)]) hx hb dX9_stepOn_139 hl (by decide) rfl (fun ls hl => ?_)
    refine lv_iload hx hb dX9_stepOn_141 (lv_at hl 0 rfl) ?_
    refine lv_iload_n hx hb dX9_stepOn_143 rfl (lv_at hl 2 rfl) ?_
    refine lv_bipush (v := 13) hx hb dX9_stepOn_144 (by decide) ?_
    refine lv_icmp_ne (tgt := 153) hx hb dX9_stepOn_146 (by decide) (fun _ => ?_) (fun c => absurd c (by decide))
    refine lv_iconst (v := 0) hx hb dX9_stepOn_153 (by decide) ?_
    refine lv_icmp_ne (tgt := 166) hx hb dX9_stepOn_154 (by decide) (fun c_141 => ?_) (fun c_141 => ?_)
    · refine lv_iload_n hx hb dX9_stepOn_166 rfl (lv_at hl 4 rfl) ?_
      refine lv_iconst (v := 1) hx hb dX9_stepOn_167 (by decide) ?_
      refine lv_iadd hx hb dX9_stepOn_168 ?_
      refine lv_topv (y := nI (j0 + 1)) (nI_add j0 1) ?_
      have hP := hP.sub (ws' := [(t 0, .inr (9, [.ref (t 1), .ref (t 2), .ref (t 3), .ref (t 4), .ref (t 5), .int u, .int cl, .int (nI pa_140), .int rf])), (t 1, .inl (cI, 200, .inl fs)), (t 2, .inl (cI, 32, .inl fk)), (b1, .inl (cI, 26, .inl fl))]) [2, 0, 3, 1] rfl
      have hD := hD.sub (ws' := [(t 0, .inr (9, [.ref (t 1), .ref (t 2), .ref (t 3), .ref (t 4), .ref (t 5), .int u, .int cl, .int (nI pa_140), .int rf])), (t 1, .inl (cI, 200, .inl fs)), (t 2, .inl (cI, 32, .inl fk)), (b1, .inl (cI, 26, .inl fl))]) [2, 0, 3, 1] (by decide) rfl
      exact W.iret (v := nI (j0 + 1)) hx hb hr (fun t ht hW => ⟨⟨(nI (j0 + 1) : Int32), (pa_140, (rf : Int32), fk), rfl, (lf_X9_stepOn_142 t u cl rf p1 fs fk fl b1 j0 hp hst hj 12 ex_3 x_6 ex_6 c_7 c_12 c_24 c_37 c_50 c_63 c_76 c_89 c_102 c_115 c_128 rfl pa_140 hz_140 r_139 wr_139 c_141), ⟨by rw [ht]; exact hP, hD⟩⟩, hS.F ht⟩) hS.2.2 dX9_stepOn_169 hlocks
    · refine lv_aload_n hx hb dX9_stepOn_157 rfl (lv_at hl 3 rfl) ?_
      refine lv_iload hx hb dX9_stepOn_158 (lv_at hl 0 rfl) ?_
      refine eWv (wr := [(t 1, .inl (cI, 200, .inl fs)), (b1, .inl (cI, 26, .inl fl))]) (va_runV (As := [.int r_139]) (rest := []) ⟨hx, hb, hml, hown, hts⟩ (c_X9_push l D cI cB cZ cJ tx t u cl rf pa_140 fk r_139 (lf_X9_stepOn_143 t u cl rf p1 fs fk fl b1 j0 hp hst hj 12 ex_3 x_6 ex_6 c_7 c_12 c_24 c_37 c_50 c_63 c_76 c_89 c_102 c_115 c_128 rfl pa_140 hz_140 r_139 wr_139 c_141) H.size) (zV hts k_795 v_X9_push ⟨Nat.le_of_ble_eq_true rfl, Nat.le_of_ble_eq_true rfl⟩) (pV (pxS hK hP hD [2, 3] (by decide) rfl) hK hP 2 rfl rfl) rfl rfl hl.1 rfl (lv_room (Nat.le_of_ble_eq_true rfl)) dX9_stepOn_160 ⟨Nat.le_of_ble_eq_true rfl, Nat.le_of_ble_eq_true rfl⟩) hP hD hS hA [2, 3] [0, 1] rfl rfl (by decide) (by decide) (fun u_145 H locs wr_144 hP hD hS => ?_)
      obtain ⟨pa_145, fa_145⟩ := u_145
      have hz_145 : pa_145 ≤ 32 := wr_144
      have hP : va_P D vwCl [(t 1, .inl (cI, 200, .inl fs)), (b1, .inl (cI, 26, .inl fl)), (t 0, .inr (9, [.ref (t 1), .ref (t 2), .ref (t 3), .ref (t 4), .ref (t 5), .int u, .int cl, .int (nI pa_145), .int rf])), (t 2, .inl (cI, 32, .inl fa_145))] H := hP
      have hD : va_D A [(t 1, .inl (cI, 200, .inl fs)), (b1, .inl (cI, 26, .inl fl)), (t 0, .inr (9, [.ref (t 1), .ref (t 2), .ref (t 3), .ref (t 4), .ref (t 5), .int u, .int cl, .int (nI pa_145), .int rf])), (t 2, .inl (cI, 32, .inl fa_145))] := hD
      refine lv_iload hx hb dX9_stepOn_163 (lv_at hl 1 rfl) ?_
      have hP := hP.sub (ws' := [(t 0, .inr (9, [.ref (t 1), .ref (t 2), .ref (t 3), .ref (t 4), .ref (t 5), .int u, .int cl, .int (nI pa_145), .int rf])), (t 1, .inl (cI, 200, .inl fs)), (t 2, .inl (cI, 32, .inl fa_145)), (b1, .inl (cI, 26, .inl fl))]) [2, 0, 3, 1] rfl
      have hD := hD.sub (ws' := [(t 0, .inr (9, [.ref (t 1), .ref (t 2), .ref (t 3), .ref (t 4), .ref (t 5), .int u, .int cl, .int (nI pa_145), .int rf])), (t 1, .inl (cI, 200, .inl fs)), (t 2, .inl (cI, 32, .inl fa_145)), (b1, .inl (cI, 26, .inl fl))]) [2, 0, 3, 1] (by decide) rfl
      exact W.iret (v := x_6) hx hb hr (fun t ht hW => ⟨⟨(x_6 : Int32), (pa_145, (rf : Int32), fa_145), rfl, (lf_X9_stepOn_146 t u cl rf p1 fs fk fl b1 j0 hp hst hj 12 ex_3 x_6 ex_6 c_7 c_12 c_24 c_37 c_50 c_63 c_76 c_89 c_102 c_115 c_128 rfl pa_140 hz_140 r_139 wr_139 c_141 pa_145 fa_145 hz_145), ⟨by rw [ht]; exact hP, hD⟩⟩, hS.F ht⟩) hS.2.2 dX9_stepOn_165 hlocks
  by_cases c_147 : x_3 = 13
  · subst c_147
    refine lv_tableIn (off := 114) (tgt := 135) hx hb dX9_stepOn_21 (by decide) (by decide) rfl (by decide) ?_
    refine lv_aload_n hx hb dX9_stepOn_135 rfl (lv_at hl 2 rfl) ?_
    refine eWi (wr := [(t 1, .inl (cI, 200, .inl fs)), (b1, .inl (cI, 26, .inl fl))]) (va_runV (As := []) (rest := []) ⟨hx, hb, hml, hown, hts⟩ (c_X9_pop l D cI cB cZ cJ tx t u cl rf p1 fk (lf_X9_stepOn_148 t u cl rf p1 fs fk fl b1 j0 hp hst hj 13 ex_3 x_6 ex_6 c_7 c_12 c_24 c_37 c_50 c_63 c_76 c_89 c_102 c_115 c_128 c_137 rfl) H.size) (zV hts k_799 v_X9_pop ⟨Nat.le_of_ble_eq_true rfl, Nat.le_of_ble_eq_true rfl⟩) (pV (pxS hK hP hD [0, 2] (by decide) rfl) hK hP 0 rfl rfl) rfl rfl hl.1 rfl (lv_room (Nat.le_of_ble_eq_true rfl)) dX9_stepOn_136 ⟨Nat.le_of_ble_eq_true rfl, Nat.le_of_ble_eq_true rfl⟩) hP hD hS hA [0, 2] [1, 3] rfl rfl (by decide) (by decide) (fun r_149 u_150 H locs wr_149 hP hD hS => ?_)
    obtain ⟨pa_150, rfl⟩ : ∃ z, z = u_150 := ⟨_, rfl⟩
    have hz_150 : pa_150 ≤ 32 := wr_149
    have hP : va_P D vwCl [(t 1, .inl (cI, 200, .inl fs)), (b1, .inl (cI, 26, .inl fl)), (t 0, .inr (9, [.ref (t 1), .ref (t 2), .ref (t 3), .ref (t 4), .ref (t 5), .int u, .int cl, .int (nI pa_150), .int rf])), (t 2, .inl (cI, 32, .inl fk))] H := hP
    have hD : va_D A [(t 1, .inl (cI, 200, .inl fs)), (b1, .inl (cI, 26, .inl fl)), (t 0, .inr (9, [.ref (t 1), .ref (t 2), .ref (t 3), .ref (t 4), .ref (t 5), .int u, .int cl, .int (nI pa_150), .int rf])), (t 2, .inl (cI, 32, .inl fk))] := hD
    refine lv_istore (lv' := [(5, .int r_149), (4, .int x_6), (3, .int 13), (0, .ref (t 0)), (1, .int (nI j0)), (2, .ref b1)]) hx hb dX9_stepOn_139 hl (by decide) rfl (fun ls hl => ?_)
    refine lv_iload hx hb dX9_stepOn_141 (lv_at hl 0 rfl) ?_
    refine lv_iload_n hx hb dX9_stepOn_143 rfl (lv_at hl 2 rfl) ?_
    refine lv_bipush (v := 13) hx hb dX9_stepOn_144 (by decide) ?_
    refine lv_icmp_ne (tgt := 153) hx hb dX9_stepOn_146 (by decide) (fun c => absurd c (by decide)) (fun _ => ?_)
    refine lv_iconst (v := 1) hx hb dX9_stepOn_149 (by decide) ?_
    refine lv_goto (tgt := 154) hx hb dX9_stepOn_150 (by decide) ?_
    refine lv_icmp_ne (tgt := 166) hx hb dX9_stepOn_154 (by decide) (fun c_151 => ?_) (fun c_151 => ?_)
    · refine lv_iload_n hx hb dX9_stepOn_166 rfl (lv_at hl 4 rfl) ?_
      refine lv_iconst (v := 1) hx hb dX9_stepOn_167 (by decide) ?_
      refine lv_iadd hx hb dX9_stepOn_168 ?_
      refine lv_topv (y := nI (j0 + 1)) (nI_add j0 1) ?_
      have hP := hP.sub (ws' := [(t 0, .inr (9, [.ref (t 1), .ref (t 2), .ref (t 3), .ref (t 4), .ref (t 5), .int u, .int cl, .int (nI pa_150), .int rf])), (t 1, .inl (cI, 200, .inl fs)), (t 2, .inl (cI, 32, .inl fk)), (b1, .inl (cI, 26, .inl fl))]) [2, 0, 3, 1] rfl
      have hD := hD.sub (ws' := [(t 0, .inr (9, [.ref (t 1), .ref (t 2), .ref (t 3), .ref (t 4), .ref (t 5), .int u, .int cl, .int (nI pa_150), .int rf])), (t 1, .inl (cI, 200, .inl fs)), (t 2, .inl (cI, 32, .inl fk)), (b1, .inl (cI, 26, .inl fl))]) [2, 0, 3, 1] (by decide) rfl
      exact W.iret (v := nI (j0 + 1)) hx hb hr (fun t ht hW => ⟨⟨(nI (j0 + 1) : Int32), (pa_150, (rf : Int32), fk), rfl, (lf_X9_stepOn_152 t u cl rf p1 fs fk fl b1 j0 hp hst hj 13 ex_3 x_6 ex_6 c_7 c_12 c_24 c_37 c_50 c_63 c_76 c_89 c_102 c_115 c_128 c_137 rfl pa_150 hz_150 r_149 wr_149 c_151), ⟨by rw [ht]; exact hP, hD⟩⟩, hS.F ht⟩) hS.2.2 dX9_stepOn_169 hlocks
    · refine lv_aload_n hx hb dX9_stepOn_157 rfl (lv_at hl 3 rfl) ?_
      refine lv_iload hx hb dX9_stepOn_158 (lv_at hl 0 rfl) ?_
      refine eWv (wr := [(t 1, .inl (cI, 200, .inl fs)), (b1, .inl (cI, 26, .inl fl))]) (va_runV (As := [.int r_149]) (rest := []) ⟨hx, hb, hml, hown, hts⟩ (c_X9_push l D cI cB cZ cJ tx t u cl rf pa_150 fk r_149 (lf_X9_stepOn_153 t u cl rf p1 fs fk fl b1 j0 hp hst hj 13 ex_3 x_6 ex_6 c_7 c_12 c_24 c_37 c_50 c_63 c_76 c_89 c_102 c_115 c_128 c_137 rfl pa_150 hz_150 r_149 wr_149 c_151) H.size) (zV hts k_795 v_X9_push ⟨Nat.le_of_ble_eq_true rfl, Nat.le_of_ble_eq_true rfl⟩) (pV (pxS hK hP hD [2, 3] (by decide) rfl) hK hP 2 rfl rfl) rfl rfl hl.1 rfl (lv_room (Nat.le_of_ble_eq_true rfl)) dX9_stepOn_160 ⟨Nat.le_of_ble_eq_true rfl, Nat.le_of_ble_eq_true rfl⟩) hP hD hS hA [2, 3] [0, 1] rfl rfl (by decide) (by decide) (fun u_155 H locs wr_154 hP hD hS => ?_)
      obtain ⟨pa_155, fa_155⟩ := u_155
      have hz_155 : pa_155 ≤ 32 := wr_154
      have hP : va_P D vwCl [(t 1, .inl (cI, 200, .inl fs)), (b1, .inl (cI, 26, .inl fl)), (t 0, .inr (9, [.ref (t 1), .ref (t 2), .ref (t 3), .ref (t 4), .ref (t 5), .int u, .int cl, .int (nI pa_155), .int rf])), (t 2, .inl (cI, 32, .inl fa_155))] H := hP
      have hD : va_D A [(t 1, .inl (cI, 200, .inl fs)), (b1, .inl (cI, 26, .inl fl)), (t 0, .inr (9, [.ref (t 1), .ref (t 2), .ref (t 3), .ref (t 4), .ref (t 5), .int u, .int cl, .int (nI pa_155), .int rf])), (t 2, .inl (cI, 32, .inl fa_155))] := hD
      refine lv_iload hx hb dX9_stepOn_163 (lv_at hl 1 rfl) ?_
      have hP := hP.sub (ws' := [(t 0, .inr (9, [.ref (t 1), .ref (t 2), .ref (t 3), .ref (t 4), .ref (t 5), .int u, .int cl, .int (nI pa_155), .int rf])), (t 1, .inl (cI, 200, .inl fs)), (t 2, .inl (cI, 32, .inl fa_155)), (b1, .inl (cI, 26, .inl fl))]) [2, 0, 3, 1] rfl
      have hD := hD.sub (ws' := [(t 0, .inr (9, [.ref (t 1), .ref (t 2), .ref (t 3), .ref (t 4), .ref (t 5), .int u, .int cl, .int (nI pa_155), .int rf])), (t 1, .inl (cI, 200, .inl fs)), (t 2, .inl (cI, 32, .inl fa_155)), (b1, .inl (cI, 26, .inl fl))]) [2, 0, 3, 1] (by decide) rfl
      exact W.iret (v := x_6) hx hb hr (fun t ht hW => ⟨⟨(x_6 : Int32), (pa_155, (rf : Int32), fa_155), rfl, (lf_X9_stepOn_156 t u cl rf p1 fs fk fl b1 j0 hp hst hj 13 ex_3 x_6 ex_6 c_7 c_12 c_24 c_37 c_50 c_63 c_76 c_89 c_102 c_115 c_128 c_137 rfl pa_150 hz_150 r_149 wr_149 c_151 pa_155 fa_155 hz_155), ⟨by rw [ht]; exact hP, hD⟩⟩, hS.F ht⟩) hS.2.2 dX9_stepOn_165 hlocks
  refine lv_tableOut (tgt := 170) hx hb dX9_stepOn_21 (lf_X9_stepOn_157 t u cl rf p1 fs fk fl b1 j0 hp hst hj x_3 ex_3 x_6 ex_6 c_7 c_12 c_24 c_37 c_50 c_63 c_76 c_89 c_102 c_115 c_128 c_137 c_147) (by decide) ?_
  refine lv_aload_n hx hb dX9_stepOn_170 rfl (lv_at hl 2 rfl) ?_
  refine eWi (wr := [(t 1, .inl (cI, 200, .inl fs)), (b1, .inl (cI, 26, .inl fl))]) (va_runV (As := []) (rest := []) ⟨hx, hb, hml, hown, hts⟩ (c_X9_pop l D cI cB cZ cJ tx t u cl rf p1 fk (lf_X9_stepOn_158 t u cl rf p1 fs fk fl b1 j0 hp hst hj x_3 ex_3 x_6 ex_6 c_7 c_12 c_24 c_37 c_50 c_63 c_76 c_89 c_102 c_115 c_128 c_137 c_147) H.size) (zV hts k_799 v_X9_pop ⟨Nat.le_of_ble_eq_true rfl, Nat.le_of_ble_eq_true rfl⟩) (pV (pxS hK hP hD [0, 2] (by decide) rfl) hK hP 0 rfl rfl) rfl rfl hl.1 rfl (lv_room (Nat.le_of_ble_eq_true rfl)) dX9_stepOn_171 ⟨Nat.le_of_ble_eq_true rfl, Nat.le_of_ble_eq_true rfl⟩) hP hD hS hA [0, 2] [1, 3] rfl rfl (by decide) (by decide) (fun r_159 u_160 H locs wr_159 hP hD hS => ?_)
  obtain ⟨pa_160, rfl⟩ : ∃ z, z = u_160 := ⟨_, rfl⟩
  have hz_160 : pa_160 ≤ 32 := wr_159
  have hP : va_P D vwCl [(t 1, .inl (cI, 200, .inl fs)), (b1, .inl (cI, 26, .inl fl)), (t 0, .inr (9, [.ref (t 1), .ref (t 2), .ref (t 3), .ref (t 4), .ref (t 5), .int u, .int cl, .int (nI pa_160), .int rf])), (t 2, .inl (cI, 32, .inl fk))] H := hP
  have hD : va_D A [(t 1, .inl (cI, 200, .inl fs)), (b1, .inl (cI, 26, .inl fl)), (t 0, .inr (9, [.ref (t 1), .ref (t 2), .ref (t 3), .ref (t 4), .ref (t 5), .int u, .int cl, .int (nI pa_160), .int rf])), (t 2, .inl (cI, 32, .inl fk))] := hD
  refine lv_istore (lv' := [(5, .int r_159), (4, .int x_6), (3, .int x_3), (0, .ref (t 0)), (1, .int (nI j0)), (2, .ref b1)]) hx hb dX9_stepOn_174 hl (by decide) rfl (fun ls hl => ?_)
  refine lv_aload_n hx hb dX9_stepOn_176 rfl (lv_at hl 3 rfl) ?_
  refine lv_aload_n hx hb dX9_stepOn_177 rfl (lv_at hl 3 rfl) ?_
  refine lv_iload_n hx hb dX9_stepOn_178 rfl (lv_at hl 2 rfl) ?_
  refine lv_aload_n hx hb dX9_stepOn_179 rfl (lv_at hl 3 rfl) ?_
  refine eWi (wr := [(t 1, .inl (cI, 200, .inl fs)), (b1, .inl (cI, 26, .inl fl))]) (va_runV (As := []) (rest := [.int x_3, .ref (t 0), .ref (t 0)]) ⟨hx, hb, hml, hown, hts⟩ (c_X9_pop l D cI cB cZ cJ tx t u cl rf pa_160 fk (lf_X9_stepOn_161 t u cl rf p1 fs fk fl b1 j0 hp hst hj x_3 ex_3 x_6 ex_6 c_7 c_12 c_24 c_37 c_50 c_63 c_76 c_89 c_102 c_115 c_128 c_137 c_147 pa_160 hz_160 r_159 wr_159) H.size) (zV hts k_799 v_X9_pop ⟨Nat.le_of_ble_eq_true rfl, Nat.le_of_ble_eq_true rfl⟩) (pV (pxS hK hP hD [2, 3] (by decide) rfl) hK hP 2 rfl rfl) rfl rfl hl.1 rfl (lv_room (Nat.le_of_ble_eq_true rfl)) dX9_stepOn_180 ⟨Nat.le_of_ble_eq_true rfl, Nat.le_of_ble_eq_true rfl⟩) hP hD hS hA [2, 3] [0, 1] rfl rfl (by decide) (by decide) (fun r_162 u_163 H locs wr_162 hP hD hS => ?_)
  obtain ⟨pa_163, rfl⟩ : ∃ z, z = u_163 := ⟨_, rfl⟩
  have hz_163 : pa_163 ≤ 32 := wr_162
  have hP : va_P D vwCl [(t 1, .inl (cI, 200, .inl fs)), (b1, .inl (cI, 26, .inl fl)), (t 0, .inr (9, [.ref (t 1), .ref (t 2), .ref (t 3), .ref (t 4), .ref (t 5), .int u, .int cl, .int (nI pa_163), .int rf])), (t 2, .inl (cI, 32, .inl fk))] H := hP
  have hD : va_D A [(t 1, .inl (cI, 200, .inl fs)), (b1, .inl (cI, 26, .inl fl)), (t 0, .inr (9, [.ref (t 1), .ref (t 2), .ref (t 3), .ref (t 4), .ref (t 5), .int u, .int cl, .int (nI pa_163), .int rf])), (t 2, .inl (cI, 32, .inl fk))] := hD
  refine lv_iload hx hb dX9_stepOn_183 (lv_at hl 0 rfl) ?_
  refine eWi (wr := [(t 1, .inl (cI, 200, .inl fs)), (b1, .inl (cI, 26, .inl fl)), (t 2, .inl (cI, 32, .inl fk))]) (va_runV (As := [.int x_3, .int r_162, .int r_159]) (rest := [.ref (t 0)]) ⟨hx, hb, hml, hown, hts⟩ (c_X9_reckon l D cI cB cZ cJ tx t u cl (nI pa_163) rf x_3 r_162 r_159 H.size) (zV hts k_803 v_X9_reckon ⟨Nat.le_of_ble_eq_true rfl, Nat.le_of_ble_eq_true rfl⟩) (pV (pxS hK hP hD [2] (by decide) rfl) hK hP 2 rfl rfl) rfl rfl hl.1 rfl (lv_room (Nat.le_of_ble_eq_true rfl)) dX9_stepOn_185 ⟨Nat.le_of_ble_eq_true rfl, Nat.le_of_ble_eq_true rfl⟩) hP hD hS hA [2] [0, 1, 3] rfl rfl (by decide) (by decide) (fun r_164 u_165 H locs wr_164 hP hD hS => ?_)
  obtain ⟨ra_165, rfl⟩ : ∃ z, z = u_165 := ⟨_, rfl⟩
  have hz_165 : True := wr_164
  have hP : va_P D vwCl [(t 1, .inl (cI, 200, .inl fs)), (b1, .inl (cI, 26, .inl fl)), (t 2, .inl (cI, 32, .inl fk)), (t 0, .inr (9, [.ref (t 1), .ref (t 2), .ref (t 3), .ref (t 4), .ref (t 5), .int u, .int cl, .int (nI pa_163), .int ra_165]))] H := hP
  have hD : va_D A [(t 1, .inl (cI, 200, .inl fs)), (b1, .inl (cI, 26, .inl fl)), (t 2, .inl (cI, 32, .inl fk)), (t 0, .inr (9, [.ref (t 1), .ref (t 2), .ref (t 3), .ref (t 4), .ref (t 5), .int u, .int cl, .int (nI pa_163), .int ra_165]))] := hD
  refine eWv (wr := [(t 1, .inl (cI, 200, .inl fs)), (b1, .inl (cI, 26, .inl fl))]) (va_runV (As := [.int r_164]) (rest := []) ⟨hx, hb, hml, hown, hts⟩ (c_X9_push l D cI cB cZ cJ tx t u cl ra_165 pa_163 fk r_164 (lf_X9_stepOn_166 t u cl rf p1 fs fk fl b1 j0 hp hst hj x_3 ex_3 x_6 ex_6 c_7 c_12 c_24 c_37 c_50 c_63 c_76 c_89 c_102 c_115 c_128 c_137 c_147 pa_160 hz_160 r_159 wr_159 pa_163 hz_163 r_162 wr_162 ra_165 hz_165 r_164 wr_164) H.size) (zV hts k_795 v_X9_push ⟨Nat.le_of_ble_eq_true rfl, Nat.le_of_ble_eq_true rfl⟩) (pV (pxS hK hP hD [3, 2] (by decide) rfl) hK hP 3 rfl rfl) rfl rfl hl.1 rfl (lv_room (Nat.le_of_ble_eq_true rfl)) dX9_stepOn_188 ⟨Nat.le_of_ble_eq_true rfl, Nat.le_of_ble_eq_true rfl⟩) hP hD hS hA [3, 2] [0, 1] rfl rfl (by decide) (by decide) (fun u_168 H locs wr_167 hP hD hS => ?_)
  obtain ⟨pa_168, fa_168⟩ := u_168
  have hz_168 : pa_168 ≤ 32 := wr_167
  have hP : va_P D vwCl [(t 1, .inl (cI, 200, .inl fs)), (b1, .inl (cI, 26, .inl fl)), (t 0, .inr (9, [.ref (t 1), .ref (t 2), .ref (t 3), .ref (t 4), .ref (t 5), .int u, .int cl, .int (nI pa_168), .int ra_165])), (t 2, .inl (cI, 32, .inl fa_168))] H := hP
  have hD : va_D A [(t 1, .inl (cI, 200, .inl fs)), (b1, .inl (cI, 26, .inl fl)), (t 0, .inr (9, [.ref (t 1), .ref (t 2), .ref (t 3), .ref (t 4), .ref (t 5), .int u, .int cl, .int (nI pa_168), .int ra_165])), (t 2, .inl (cI, 32, .inl fa_168))] := hD
  refine lv_iload_n hx hb dX9_stepOn_191 rfl (lv_at hl 4 rfl) ?_
  refine lv_iconst (v := 1) hx hb dX9_stepOn_192 (by decide) ?_
  refine lv_iadd hx hb dX9_stepOn_193 ?_
  refine lv_topv (y := nI (j0 + 1)) (nI_add j0 1) ?_
  have hP := hP.sub (ws' := [(t 0, .inr (9, [.ref (t 1), .ref (t 2), .ref (t 3), .ref (t 4), .ref (t 5), .int u, .int cl, .int (nI pa_168), .int ra_165])), (t 1, .inl (cI, 200, .inl fs)), (t 2, .inl (cI, 32, .inl fa_168)), (b1, .inl (cI, 26, .inl fl))]) [2, 0, 3, 1] rfl
  have hD := hD.sub (ws' := [(t 0, .inr (9, [.ref (t 1), .ref (t 2), .ref (t 3), .ref (t 4), .ref (t 5), .int u, .int cl, .int (nI pa_168), .int ra_165])), (t 1, .inl (cI, 200, .inl fs)), (t 2, .inl (cI, 32, .inl fa_168)), (b1, .inl (cI, 26, .inl fl))]) [2, 0, 3, 1] (by decide) rfl
  exact W.iret (v := nI (j0 + 1)) hx hb hr (fun t ht hW => ⟨⟨(nI (j0 + 1) : Int32), (pa_168, (ra_165 : Int32), fa_168), rfl, (lf_X9_stepOn_169 t u cl rf p1 fs fk fl b1 j0 hp hst hj x_3 ex_3 x_6 ex_6 c_7 c_12 c_24 c_37 c_50 c_63 c_76 c_89 c_102 c_115 c_128 c_137 c_147 pa_160 hz_160 r_159 wr_159 pa_163 hz_163 r_162 wr_162 ra_165 hz_165 r_164 wr_164 pa_168 fa_168 hz_168), ⟨by rw [ht]; exact hP, hD⟩⟩, hS.F ht⟩) hS.2.2 dX9_stepOn_194 hlocks

theorem lf_X9_run_3 (t : Nat → Nat) (un : Nat) (cl : Int32) (rf : Int32) (p1 : Nat) (fs : Nat → Int32) (fk : Nat → Int32) (fl : Nat → Int32) (b1 : Nat) (n1 : Int32) (hp : p1 ≤ 32) (hst : ∀ j, j < 200 → 0 ≤ fs j) (hun : un ≤ 200) (j : Nat) (av : Int32) (y15_t2 : Nat → Int32) (rv : Int32) (pv : Nat) (k15 : Nat) (hj15 : j ≤ 200) (hk15 : 200 < j + (k15 + 1)) (hpv : pv ≤ 32) (c_1 : 200 ≤ nI j) : 200 ≤ j := by
  exact (nI_leI (a := 200) (b := j) (by omega) (by omega)).mp c_1
theorem lf_X9_run_5 (t : Nat → Nat) (un : Nat) (cl : Int32) (rf : Int32) (p1 : Nat) (fs : Nat → Int32) (fk : Nat → Int32) (fl : Nat → Int32) (b1 : Nat) (n1 : Int32) (hp : p1 ≤ 32) (hst : ∀ j, j < 200 → 0 ≤ fs j) (hun : un ≤ 200) (j : Nat) (av : Int32) (y15_t2 : Nat → Int32) (rv : Int32) (pv : Nat) (k15 : Nat) (hj15 : j ≤ 200) (hk15 : 200 < j + (k15 + 1)) (hpv : pv ≤ 32) (c_1 : 200 ≤ nI j) (n_2 : 200 ≤ j) (c_4 : rv = 0) : pv ≤ 32 := by
  first | assumption | omega | decide
theorem lf_X9_run_8 (t : Nat → Nat) (un : Nat) (cl : Int32) (rf : Int32) (p1 : Nat) (fs : Nat → Int32) (fk : Nat → Int32) (fl : Nat → Int32) (b1 : Nat) (n1 : Int32) (hp : p1 ≤ 32) (hst : ∀ j, j < 200 → 0 ≤ fs j) (hun : un ≤ 200) (j : Nat) (av : Int32) (y15_t2 : Nat → Int32) (rv : Int32) (pv : Nat) (k15 : Nat) (hj15 : j ≤ 200) (hk15 : 200 < j + (k15 + 1)) (hpv : pv ≤ 32) (c_1 : 200 ≤ nI j) (n_2 : 200 ≤ j) (c_4 : rv = 0) (pa_7 : Nat) (hz_7 : pa_7 ≤ 32) (r_6 : Int32) (wr_6 : True) : pa_7 ≤ 32 := by
  omega
theorem lf_X9_run_9 (t : Nat → Nat) (un : Nat) (cl : Int32) (rf : Int32) (p1 : Nat) (fs : Nat → Int32) (fk : Nat → Int32) (fl : Nat → Int32) (b1 : Nat) (n1 : Int32) (hp : p1 ≤ 32) (hst : ∀ j, j < 200 → 0 ≤ fs j) (hun : un ≤ 200) (j : Nat) (av : Int32) (y15_t2 : Nat → Int32) (rv : Int32) (pv : Nat) (k15 : Nat) (hj15 : j ≤ 200) (hk15 : 200 < j + (k15 + 1)) (hpv : pv ≤ 32) (c_1 : 200 ≤ nI j) (n_2 : 200 ≤ j) (c_4 : ¬ rv = 0) : pv ≤ 32 := by
  omega
theorem lf_X9_run_11 (t : Nat → Nat) (un : Nat) (cl : Int32) (rf : Int32) (p1 : Nat) (fs : Nat → Int32) (fk : Nat → Int32) (fl : Nat → Int32) (b1 : Nat) (n1 : Int32) (hp : p1 ≤ 32) (hst : ∀ j, j < 200 → 0 ≤ fs j) (hun : un ≤ 200) (j : Nat) (av : Int32) (y15_t2 : Nat → Int32) (rv : Int32) (pv : Nat) (k15 : Nat) (hj15 : j ≤ 200) (hk15 : 200 < j + (k15 + 1)) (hpv : pv ≤ 32) (c_1 : ¬ 200 ≤ nI j) : j < 200 := by
  exact Nat.lt_of_not_le (fun q => c_1 ((nI_leI (a := 200) (b := j) (by omega) (by omega)).mpr q))
theorem lf_X9_run_14 (t : Nat → Nat) (un : Nat) (cl : Int32) (rf : Int32) (p1 : Nat) (fs : Nat → Int32) (fk : Nat → Int32) (fl : Nat → Int32) (b1 : Nat) (n1 : Int32) (hp : p1 ≤ 32) (hst : ∀ j, j < 200 → 0 ≤ fs j) (hun : un ≤ 200) (j : Nat) (av : Int32) (y15_t2 : Nat → Int32) (rv : Int32) (pv : Nat) (k15 : Nat) (hj15 : j ≤ 200) (hk15 : 200 < j + (k15 + 1)) (hpv : pv ≤ 32) (c_1 : ¬ 200 ≤ nI j) (n_10 : j < 200) (c_12 : av < 0) (c_13 : rv = 0) : pv ≤ 32 := by
  first | assumption | omega | decide
theorem lf_X9_run_17 (t : Nat → Nat) (un : Nat) (cl : Int32) (rf : Int32) (p1 : Nat) (fs : Nat → Int32) (fk : Nat → Int32) (fl : Nat → Int32) (b1 : Nat) (n1 : Int32) (hp : p1 ≤ 32) (hst : ∀ j, j < 200 → 0 ≤ fs j) (hun : un ≤ 200) (j : Nat) (av : Int32) (y15_t2 : Nat → Int32) (rv : Int32) (pv : Nat) (k15 : Nat) (hj15 : j ≤ 200) (hk15 : 200 < j + (k15 + 1)) (hpv : pv ≤ 32) (c_1 : ¬ 200 ≤ nI j) (n_10 : j < 200) (c_12 : av < 0) (c_13 : rv = 0) (pa_16 : Nat) (hz_16 : pa_16 ≤ 32) (r_15 : Int32) (wr_15 : True) : pa_16 ≤ 32 := by
  omega
theorem lf_X9_run_18 (t : Nat → Nat) (un : Nat) (cl : Int32) (rf : Int32) (p1 : Nat) (fs : Nat → Int32) (fk : Nat → Int32) (fl : Nat → Int32) (b1 : Nat) (n1 : Int32) (hp : p1 ≤ 32) (hst : ∀ j, j < 200 → 0 ≤ fs j) (hun : un ≤ 200) (j : Nat) (av : Int32) (y15_t2 : Nat → Int32) (rv : Int32) (pv : Nat) (k15 : Nat) (hj15 : j ≤ 200) (hk15 : 200 < j + (k15 + 1)) (hpv : pv ≤ 32) (c_1 : ¬ 200 ≤ nI j) (n_10 : j < 200) (c_12 : av < 0) (c_13 : ¬ rv = 0) : pv ≤ 32 := by
  omega
theorem lf_X9_run_21 (t : Nat → Nat) (un : Nat) (cl : Int32) (rf : Int32) (p1 : Nat) (fs : Nat → Int32) (fk : Nat → Int32) (fl : Nat → Int32) (b1 : Nat) (n1 : Int32) (hp : p1 ≤ 32) (hst : ∀ j, j < 200 → 0 ≤ fs j) (hun : un ≤ 200) (j : Nat) (av : Int32) (y15_t2 : Nat → Int32) (rv : Int32) (pv : Nat) (k15 : Nat) (hj15 : j ≤ 200) (hk15 : 200 < j + (k15 + 1)) (hpv : pv ≤ 32) (c_1 : ¬ 200 ≤ nI j) (n_10 : j < 200) (c_12 : ¬ av < 0) (c_19 : nI un ≤ av) (c_20 : rv = 0) : pv ≤ 32 := by
  first | assumption | omega | decide
theorem lf_X9_run_24 (t : Nat → Nat) (un : Nat) (cl : Int32) (rf : Int32) (p1 : Nat) (fs : Nat → Int32) (fk : Nat → Int32) (fl : Nat → Int32) (b1 : Nat) (n1 : Int32) (hp : p1 ≤ 32) (hst : ∀ j, j < 200 → 0 ≤ fs j) (hun : un ≤ 200) (j : Nat) (av : Int32) (y15_t2 : Nat → Int32) (rv : Int32) (pv : Nat) (k15 : Nat) (hj15 : j ≤ 200) (hk15 : 200 < j + (k15 + 1)) (hpv : pv ≤ 32) (c_1 : ¬ 200 ≤ nI j) (n_10 : j < 200) (c_12 : ¬ av < 0) (c_19 : nI un ≤ av) (c_20 : rv = 0) (pa_23 : Nat) (hz_23 : pa_23 ≤ 32) (r_22 : Int32) (wr_22 : True) : pa_23 ≤ 32 := by
  omega
theorem lf_X9_run_25 (t : Nat → Nat) (un : Nat) (cl : Int32) (rf : Int32) (p1 : Nat) (fs : Nat → Int32) (fk : Nat → Int32) (fl : Nat → Int32) (b1 : Nat) (n1 : Int32) (hp : p1 ≤ 32) (hst : ∀ j, j < 200 → 0 ≤ fs j) (hun : un ≤ 200) (j : Nat) (av : Int32) (y15_t2 : Nat → Int32) (rv : Int32) (pv : Nat) (k15 : Nat) (hj15 : j ≤ 200) (hk15 : 200 < j + (k15 + 1)) (hpv : pv ≤ 32) (c_1 : ¬ 200 ≤ nI j) (n_10 : j < 200) (c_12 : ¬ av < 0) (c_19 : nI un ≤ av) (c_20 : ¬ rv = 0) : pv ≤ 32 := by
  omega
theorem lf_X9_run_28 (t : Nat → Nat) (un : Nat) (cl : Int32) (rf : Int32) (p1 : Nat) (fs : Nat → Int32) (fk : Nat → Int32) (fl : Nat → Int32) (b1 : Nat) (n1 : Int32) (hp : p1 ≤ 32) (hst : ∀ j, j < 200 → 0 ≤ fs j) (hun : un ≤ 200) (j : Nat) (av : Int32) (y15_t2 : Nat → Int32) (rv : Int32) (pv : Nat) (k15 : Nat) (hj15 : j ≤ 200) (hk15 : 200 < j + (k15 + 1)) (hpv : pv ≤ 32) (c_1 : ¬ 200 ≤ nI j) (n_10 : j < 200) (c_12 : ¬ av < 0) (c_19 : ¬ nI un ≤ av) (kk : Nat) (hkk : kk < un) (ekk : av = nI kk) (c_26 : ¬ rv = 0) (c_27 : rv = 0) : pv ≤ 32 := by
  first | assumption | omega | decide
theorem lf_X9_run_31 (t : Nat → Nat) (un : Nat) (cl : Int32) (rf : Int32) (p1 : Nat) (fs : Nat → Int32) (fk : Nat → Int32) (fl : Nat → Int32) (b1 : Nat) (n1 : Int32) (hp : p1 ≤ 32) (hst : ∀ j, j < 200 → 0 ≤ fs j) (hun : un ≤ 200) (j : Nat) (av : Int32) (y15_t2 : Nat → Int32) (rv : Int32) (pv : Nat) (k15 : Nat) (hj15 : j ≤ 200) (hk15 : 200 < j + (k15 + 1)) (hpv : pv ≤ 32) (c_1 : ¬ 200 ≤ nI j) (n_10 : j < 200) (c_12 : ¬ av < 0) (c_19 : ¬ nI un ≤ av) (kk : Nat) (hkk : kk < un) (ekk : av = nI kk) (c_26 : ¬ rv = 0) (c_27 : rv = 0) (pa_30 : Nat) (hz_30 : pa_30 ≤ 32) (r_29 : Int32) (wr_29 : True) : pa_30 ≤ 32 := by
  omega
theorem lf_X9_run_32 (t : Nat → Nat) (un : Nat) (cl : Int32) (rf : Int32) (p1 : Nat) (fs : Nat → Int32) (fk : Nat → Int32) (fl : Nat → Int32) (b1 : Nat) (n1 : Int32) (hp : p1 ≤ 32) (hst : ∀ j, j < 200 → 0 ≤ fs j) (hun : un ≤ 200) (j : Nat) (av : Int32) (y15_t2 : Nat → Int32) (rv : Int32) (pv : Nat) (k15 : Nat) (hj15 : j ≤ 200) (hk15 : 200 < j + (k15 + 1)) (hpv : pv ≤ 32) (c_1 : ¬ 200 ≤ nI j) (n_10 : j < 200) (c_12 : ¬ av < 0) (c_19 : ¬ nI un ≤ av) (kk : Nat) (hkk : kk < un) (ekk : av = nI kk) (c_26 : ¬ rv = 0) (c_27 : ¬ rv = 0) : pv ≤ 32 := by
  omega
theorem lf_X9_run_33 (t : Nat → Nat) (un : Nat) (cl : Int32) (rf : Int32) (p1 : Nat) (fs : Nat → Int32) (fk : Nat → Int32) (fl : Nat → Int32) (b1 : Nat) (n1 : Int32) (hp : p1 ≤ 32) (hst : ∀ j, j < 200 → 0 ≤ fs j) (hun : un ≤ 200) (j : Nat) (av : Int32) (y15_t2 : Nat → Int32) (rv : Int32) (pv : Nat) (k15 : Nat) (hj15 : j ≤ 200) (hk15 : 200 < j + (k15 + 1)) (hpv : pv ≤ 32) (c_1 : ¬ 200 ≤ nI j) (n_10 : j < 200) (c_12 : ¬ av < 0) (c_19 : ¬ nI un ≤ av) (kk : Nat) (hkk : kk < un) (ekk : av = nI kk) (c_26 : rv = 0) : vp_in (nI kk) 200 := by
  first | exact vp_in_nI (by omega) (by decide) | (unfold vp_in; decide)
theorem lf_X9_run_34 (t : Nat → Nat) (un : Nat) (cl : Int32) (rf : Int32) (p1 : Nat) (fs : Nat → Int32) (fk : Nat → Int32) (fl : Nat → Int32) (b1 : Nat) (n1 : Int32) (hp : p1 ≤ 32) (hst : ∀ j, j < 200 → 0 ≤ fs j) (hun : un ≤ 200) (j : Nat) (av : Int32) (y15_t2 : Nat → Int32) (rv : Int32) (pv : Nat) (k15 : Nat) (hj15 : j ≤ 200) (hk15 : 200 < j + (k15 + 1)) (hpv : pv ≤ 32) (c_1 : ¬ 200 ≤ nI j) (n_10 : j < 200) (c_12 : ¬ av < 0) (c_19 : ¬ nI un ≤ av) (kk : Nat) (hkk : kk < un) (ekk : av = nI kk) (c_26 : rv = 0) : kk < 200 := by
  omega
theorem lf_X9_run_37 (t : Nat → Nat) (un : Nat) (cl : Int32) (rf : Int32) (p1 : Nat) (fs : Nat → Int32) (fk : Nat → Int32) (fl : Nat → Int32) (b1 : Nat) (n1 : Int32) (hp : p1 ≤ 32) (hst : ∀ j, j < 200 → 0 ≤ fs j) (hun : un ≤ 200) (j : Nat) (av : Int32) (y15_t2 : Nat → Int32) (rv : Int32) (pv : Nat) (k15 : Nat) (hj15 : j ≤ 200) (hk15 : 200 < j + (k15 + 1)) (hpv : pv ≤ 32) (c_1 : ¬ 200 ≤ nI j) (n_10 : j < 200) (c_12 : ¬ av < 0) (c_19 : ¬ nI un ≤ av) (kk : Nat) (hkk : kk < un) (ekk : av = nI kk) (c_26 : rv = 0) (x_35 : Int32) (ex_35 : x_35 = fs kk &&& 15) (c_36 : ¬ x_35 = 0) : pv ≤ 32 := by
  first | assumption | omega | decide
theorem lf_X9_run_38 (t : Nat → Nat) (un : Nat) (cl : Int32) (rf : Int32) (p1 : Nat) (fs : Nat → Int32) (fk : Nat → Int32) (fl : Nat → Int32) (b1 : Nat) (n1 : Int32) (hp : p1 ≤ 32) (hst : ∀ j, j < 200 → 0 ≤ fs j) (hun : un ≤ 200) (j : Nat) (av : Int32) (y15_t2 : Nat → Int32) (rv : Int32) (pv : Nat) (k15 : Nat) (hj15 : j ≤ 200) (hk15 : 200 < j + (k15 + 1)) (hpv : pv ≤ 32) (c_1 : ¬ 200 ≤ nI j) (n_10 : j < 200) (c_12 : ¬ av < 0) (c_19 : ¬ nI un ≤ av) (kk : Nat) (hkk : kk < un) (ekk : av = nI kk) (c_26 : rv = 0) (x_35 : Int32) (ex_35 : x_35 = fs kk &&& 15) (c_36 : ¬ x_35 = 0) : ∀ j, j < 200 → 0 ≤ fs j := by
  first | assumption | omega | decide
theorem lf_X9_run_39 (t : Nat → Nat) (un : Nat) (cl : Int32) (rf : Int32) (p1 : Nat) (fs : Nat → Int32) (fk : Nat → Int32) (fl : Nat → Int32) (b1 : Nat) (n1 : Int32) (hp : p1 ≤ 32) (hst : ∀ j, j < 200 → 0 ≤ fs j) (hun : un ≤ 200) (j : Nat) (av : Int32) (y15_t2 : Nat → Int32) (rv : Int32) (pv : Nat) (k15 : Nat) (hj15 : j ≤ 200) (hk15 : 200 < j + (k15 + 1)) (hpv : pv ≤ 32) (c_1 : ¬ 200 ≤ nI j) (n_10 : j < 200) (c_12 : ¬ av < 0) (c_19 : ¬ nI un ≤ av) (kk : Nat) (hkk : kk < un) (ekk : av = nI kk) (c_26 : rv = 0) (x_35 : Int32) (ex_35 : x_35 = fs kk &&& 15) (c_36 : ¬ x_35 = 0) : kk < 200 := by
  first | assumption | omega | decide
theorem lf_X9_run_42 (t : Nat → Nat) (un : Nat) (cl : Int32) (rf : Int32) (p1 : Nat) (fs : Nat → Int32) (fk : Nat → Int32) (fl : Nat → Int32) (b1 : Nat) (n1 : Int32) (hp : p1 ≤ 32) (hst : ∀ j, j < 200 → 0 ≤ fs j) (hun : un ≤ 200) (j : Nat) (av : Int32) (y15_t2 : Nat → Int32) (rv : Int32) (pv : Nat) (k15 : Nat) (hj15 : j ≤ 200) (hk15 : 200 < j + (k15 + 1)) (hpv : pv ≤ 32) (c_1 : ¬ 200 ≤ nI j) (n_10 : j < 200) (c_12 : ¬ av < 0) (c_19 : ¬ nI un ≤ av) (kk : Nat) (hkk : kk < un) (ekk : av = nI kk) (c_26 : rv = 0) (x_35 : Int32) (ex_35 : x_35 = fs kk &&& 15) (c_36 : ¬ x_35 = 0) (pa_41 : Nat) (ra_41 : Int32) (fa_41 : Nat → Int32) (hz_41 : pa_41 ≤ 32) (r_40 : Int32) (wr_40 : True) : pa_41 ≤ 32 := by
  first | assumption | omega
theorem lf_X9_run_44 (t : Nat → Nat) (un : Nat) (cl : Int32) (rf : Int32) (p1 : Nat) (fs : Nat → Int32) (fk : Nat → Int32) (fl : Nat → Int32) (b1 : Nat) (n1 : Int32) (hp : p1 ≤ 32) (hst : ∀ j, j < 200 → 0 ≤ fs j) (hun : un ≤ 200) (j : Nat) (av : Int32) (y15_t2 : Nat → Int32) (rv : Int32) (pv : Nat) (k15 : Nat) (hj15 : j ≤ 200) (hk15 : 200 < j + (k15 + 1)) (hpv : pv ≤ 32) (c_1 : ¬ 200 ≤ nI j) (n_10 : j < 200) (c_12 : ¬ av < 0) (c_19 : ¬ nI un ≤ av) (kk : Nat) (hkk : kk < un) (ekk : av = nI kk) (c_26 : rv = 0) (x_35 : Int32) (ex_35 : x_35 = fs kk &&& 15) (c_36 : x_35 = 0) (c_43 : rv = 0) : pv ≤ 32 := by
  first | assumption | omega | decide
theorem lf_X9_run_47 (t : Nat → Nat) (un : Nat) (cl : Int32) (rf : Int32) (p1 : Nat) (fs : Nat → Int32) (fk : Nat → Int32) (fl : Nat → Int32) (b1 : Nat) (n1 : Int32) (hp : p1 ≤ 32) (hst : ∀ j, j < 200 → 0 ≤ fs j) (hun : un ≤ 200) (j : Nat) (av : Int32) (y15_t2 : Nat → Int32) (rv : Int32) (pv : Nat) (k15 : Nat) (hj15 : j ≤ 200) (hk15 : 200 < j + (k15 + 1)) (hpv : pv ≤ 32) (c_1 : ¬ 200 ≤ nI j) (n_10 : j < 200) (c_12 : ¬ av < 0) (c_19 : ¬ nI un ≤ av) (kk : Nat) (hkk : kk < un) (ekk : av = nI kk) (c_26 : rv = 0) (x_35 : Int32) (ex_35 : x_35 = fs kk &&& 15) (c_36 : x_35 = 0) (c_43 : rv = 0) (pa_46 : Nat) (hz_46 : pa_46 ≤ 32) (r_45 : Int32) (wr_45 : True) : pa_46 ≤ 32 := by
  omega
theorem lf_X9_run_48 (t : Nat → Nat) (un : Nat) (cl : Int32) (rf : Int32) (p1 : Nat) (fs : Nat → Int32) (fk : Nat → Int32) (fl : Nat → Int32) (b1 : Nat) (n1 : Int32) (hp : p1 ≤ 32) (hst : ∀ j, j < 200 → 0 ≤ fs j) (hun : un ≤ 200) (j : Nat) (av : Int32) (y15_t2 : Nat → Int32) (rv : Int32) (pv : Nat) (k15 : Nat) (hj15 : j ≤ 200) (hk15 : 200 < j + (k15 + 1)) (hpv : pv ≤ 32) (c_1 : ¬ 200 ≤ nI j) (n_10 : j < 200) (c_12 : ¬ av < 0) (c_19 : ¬ nI un ≤ av) (kk : Nat) (hkk : kk < un) (ekk : av = nI kk) (c_26 : rv = 0) (x_35 : Int32) (ex_35 : x_35 = fs kk &&& 15) (c_36 : x_35 = 0) (c_43 : ¬ rv = 0) : pv ≤ 32 := by
  omega
theorem lf_X9_run_49 (t : Nat → Nat) (un : Nat) (cl : Int32) (rf : Int32) (p1 : Nat) (fs : Nat → Int32) (fk : Nat → Int32) (fl : Nat → Int32) (b1 : Nat) (n1 : Int32) (hp : p1 ≤ 32) (hst : ∀ j, j < 200 → 0 ≤ fs j) (hun : un ≤ 200) : 0 ≤ 32 := by
  first | assumption | omega
set_option maxHeartbeats 4000000 in
set_option maxRecDepth 100000 in
theorem c_X9_run (l : Launch) (D : va_G) (cI cB cZ cJ : ClassId) (tx : List (ClassId × FieldType)) (t : Nat → Nat) (un : Nat) (cl : Int32) (rf : Int32) (p1 : Nat) (fs : Nat → Int32) (fk : Nat → Int32) (fl : Nat → Int32) (b1 : Nat) (n1 : Int32) (hp : p1 ≤ 32) (hst : ∀ j, j < 200 → 0 ≤ fs j) (hun : un ≤ 200) : WrI l D cI cB cZ cJ tx yX9_run cX9_run 5 (some .int) 2 0 0 [.ref (t 0), .int n1, .ref b1] [(t 0, .inr (9, [.ref (t 1), .ref (t 2), .ref (t 3), .ref (t 4), .ref (t 5), .int (nI un), .int cl, .int (nI p1), .int rf])), (t 1, .inl (cI, 200, .inl fs)), (t 2, .inl (cI, 32, .inl fk)), (b1, .inl (cI, 26, .inl fl))] (fun (_ : Int32) (v : Nat × Int32 × (Nat → Int32)) => v.1 ≤ 32) (fun v => [(t 0, .inr (9, [.ref (t 1), .ref (t 2), .ref (t 3), .ref (t 4), .ref (t 5), .int (nI un), .int cl, .int (nI v.1), .int v.2.1])), (t 1, .inl (cI, 200, .inl fs)), (t 2, .inl (cI, 32, .inl v.2.2)), (b1, .inl (cI, 26, .inl fl))]) := by
  refine wri_of2 (by decide) (Nat.le_of_ble_eq_true rfl) ?_
  intro p e s m below meth c A ls H locs hC hK hP hD hA hS hl
  obtain ⟨hx, hb, hr, hml, hown, hts, hlocks, hin⟩ := hC
  have hown : s.vm.findClass RX9 = some m.cls := hown
  have hl : lv_has ls 5 [(0, .ref (t 0)), (1, .int n1), (2, .ref b1)] := hl
  refine lv_aload_n hx hb dX9_run_0 rfl (lv_at hl 0 rfl) ?_
  refine lv_iconst (v := 0) hx hb dX9_run_1 (by decide) ?_
  refine va_put (D := D) (ci := 9) (v := .int 0) (ty := .boolean) (C := RX9) (T := TX9) (N := 9) hx hb hts inT_X9 tyX9 tyX9_ok nmX9 hown hK.1 hP hD hS 0 rfl rfl 8 (by decide) (hts _ k_204) (fun _ h9 => h9) rfl (by decide +kernel) rfl rfl (Nat.le_of_ble_eq_true rfl) dX9_run_2 (fun H locs hP hD hS => ?_)
  have hP : va_P D vwCl [(t 0, .inr (9, [.ref (t 1), .ref (t 2), .ref (t 3), .ref (t 4), .ref (t 5), .int (nI un), .int cl, .int (nI p1), .int 0])), (t 1, .inl (cI, 200, .inl fs)), (t 2, .inl (cI, 32, .inl fk)), (b1, .inl (cI, 26, .inl fl))] H := hP
  have hD : va_D A [(t 0, .inr (9, [.ref (t 1), .ref (t 2), .ref (t 3), .ref (t 4), .ref (t 5), .int (nI un), .int cl, .int (nI p1), .int 0])), (t 1, .inl (cI, 200, .inl fs)), (t 2, .inl (cI, 32, .inl fk)), (b1, .inl (cI, 26, .inl fl))] := hD
  refine lv_aload_n hx hb dX9_run_5 rfl (lv_at hl 0 rfl) ?_
  refine lv_iconst (v := 0) hx hb dX9_run_6 (by decide) ?_
  refine va_put (D := D) (ci := 9) (v := .int 0) (ty := .int) (C := RX9) (T := TX9) (N := 9) hx hb hts inT_X9 tyX9 tyX9_ok nmX9 hown hK.1 hP hD hS 0 rfl rfl 7 (by decide) (hts _ k_203) (fun _ h9 => h9) rfl (by decide +kernel) rfl rfl (Nat.le_of_ble_eq_true rfl) dX9_run_7 (fun H locs hP hD hS => ?_)
  have hP : va_P D vwCl [(t 0, .inr (9, [.ref (t 1), .ref (t 2), .ref (t 3), .ref (t 4), .ref (t 5), .int (nI un), .int cl, .int 0, .int 0])), (t 1, .inl (cI, 200, .inl fs)), (t 2, .inl (cI, 32, .inl fk)), (b1, .inl (cI, 26, .inl fl))] H := hP
  have hD : va_D A [(t 0, .inr (9, [.ref (t 1), .ref (t 2), .ref (t 3), .ref (t 4), .ref (t 5), .int (nI un), .int cl, .int 0, .int 0])), (t 1, .inl (cI, 200, .inl fs)), (t 2, .inl (cI, 32, .inl fk)), (b1, .inl (cI, 26, .inl fl))] := hD
  refine lv_iload_n hx hb dX9_run_10 rfl (lv_at hl 1 rfl) ?_
  refine lv_istore_n (lv' := [(3, .int n1), (0, .ref (t 0)), (1, .int n1), (2, .ref b1)]) hx hb dX9_run_11 rfl hl (by decide) rfl (fun ls hl => ?_)
  refine lv_iconst (v := 0) hx hb dX9_run_12 (by decide) ?_
  refine lv_istore (lv' := [(4, .int 0), (3, .int n1), (0, .ref (t 0)), (1, .int n1), (2, .ref b1)]) hx hb dX9_run_13 hl (by decide) rfl (fun ls hl => ?_)
  have lp15 : ∀ (k15 : Nat) (j : Nat) (av : Int32) (y15_t2 : Nat → Int32) (rv : Int32) (pv : Nat) (H : Heap) (locs : List Loc) (ls : Array Slot), j ≤ 200 → 200 < j + k15 → (pv ≤ 32) → va_P D vwCl [(t 0, .inr (9, [.ref (t 1), .ref (t 2), .ref (t 3), .ref (t 4), .ref (t 5), .int (nI un), .int cl, .int (nI pv), .int rv])), (t 1, .inl (cI, 200, .inl fs)), (t 2, .inl (cI, 32, .inl y15_t2)), (b1, .inl (cI, 26, .inl fl))] H → va_D A [(t 0, .inr (9, [.ref (t 1), .ref (t 2), .ref (t 3), .ref (t 4), .ref (t 5), .int (nI un), .int cl, .int (nI pv), .int rv])), (t 1, .inl (cI, 200, .inl fs)), (t 2, .inl (cI, 32, .inl y15_t2)), (b1, .inl (cI, 26, .inl fl))] → va_S A s.heap H locs → lv_has ls 5 [(4, .int (nI j)), (3, .int av), (0, .ref (t 0)), (1, .int n1), (2, .ref b1)] → W p l e (rmX 2 0 0) s m ([.ref (t 0), .int n1, .ref b1] : List Value).toArray below meth c H locs 0 0 (MQ below (va_Qi (fun (_ : Int32) (v : Nat × Int32 × (Nat → Int32)) => v.1 ≤ 32) (fun u => BX D A ((fun v => [(t 0, .inr (9, [.ref (t 1), .ref (t 2), .ref (t 3), .ref (t 4), .ref (t 5), .int (nI un), .int cl, .int (nI v.1), .int v.2.1])), (t 1, .inl (cI, 200, .inl fs)), (t 2, .inl (cI, 32, .inl v.2.2)), (b1, .inl (cI, 26, .inl fl))]) u)) A) ([.ref (t 0), .int n1, .ref b1] : List Value).toArray s 0 0 A) (F0 m 15 ls []) := by
    intro k15
    induction k15 with
    | zero =>
      intro j av y15_t2 rv pv H locs ls hj15 hk15 hpv hP hD hS hl
      exact absurd hk15 (by omega)
    | succ k15 ih15 =>
      intro j av y15_t2 rv pv H locs ls hj15 hk15 hpv hP hD hS hl
      refine lv_iload hx hb dX9_run_15 (lv_at hl 0 rfl) ?_
      refine lv_aload_n hx hb dX9_run_17 rfl (lv_at hl 2 rfl) ?_
      refine va_get (D := D) (ci := 9) (v := .ref (t 1)) (C := RX9) (T := TX9) (N := 9) hx hb hts inT_X9 hown hK.1 hP 0 rfl rfl 0 (by decide) (hts _ k_194) (fun _ h9 => h9) rfl dX9_run_18 ?_
      refine ln_x (v := 200) hx hb hK hP 1 0 rfl rfl (show Int32.ofNat 200 = 200 from by decide) dX9_run_21 ?_
      refine lv_icmp_ge (tgt := 72) hx hb dX9_run_22 (by decide) (fun c_1 => ?_) (fun c_1 => ?_)
      · have n_2 : 200 ≤ j := (lf_X9_run_3 t un cl rf p1 fs fk fl b1 n1 hp hst hun j av y15_t2 rv pv k15 hj15 hk15 hpv c_1)
        refine lv_aload_n hx hb dX9_run_72 rfl (lv_at hl 2 rfl) ?_
        refine va_get (D := D) (ci := 9) (v := .int rv) (C := RX9) (T := TX9) (N := 9) hx hb hts inT_X9 hown hK.1 hP 0 rfl rfl 8 (by decide) (hts _ k_204) (fun _ h9 => h9) rfl dX9_run_73 ?_
        refine lv_if_eq (tgt := 83) hx hb dX9_run_76 (by decide) (fun c_4 => ?_) (fun c_4 => ?_)
        · refine lv_aload_n hx hb dX9_run_83 rfl (lv_at hl 2 rfl) ?_
          refine eWi (wr := [(t 1, .inl (cI, 200, .inl fs)), (b1, .inl (cI, 26, .inl fl))]) (va_runV (As := []) (rest := []) ⟨hx, hb, hml, hown, hts⟩ (c_X9_pop l D cI cB cZ cJ tx t (nI un) cl rv pv y15_t2 (lf_X9_run_5 t un cl rf p1 fs fk fl b1 n1 hp hst hun j av y15_t2 rv pv k15 hj15 hk15 hpv c_1 n_2 c_4) H.size) (zV hts k_799 v_X9_pop ⟨Nat.le_of_ble_eq_true rfl, Nat.le_of_ble_eq_true rfl⟩) (pV (pxS hK hP hD [0, 2] (by decide) rfl) hK hP 0 rfl rfl) rfl rfl hl.1 rfl (lv_room (Nat.le_of_ble_eq_true rfl)) dX9_run_84 ⟨Nat.le_of_ble_eq_true rfl, Nat.le_of_ble_eq_true rfl⟩) hP hD hS hA [0, 2] [1, 3] rfl rfl (by decide) (by decide) (fun r_6 u_7 H locs wr_6 hP hD hS => ?_)
          obtain ⟨pa_7, rfl⟩ : ∃ z, z = u_7 := ⟨_, rfl⟩
          have hz_7 : pa_7 ≤ 32 := wr_6
          have hP : va_P D vwCl [(t 1, .inl (cI, 200, .inl fs)), (b1, .inl (cI, 26, .inl fl)), (t 0, .inr (9, [.ref (t 1), .ref (t 2), .ref (t 3), .ref (t 4), .ref (t 5), .int (nI un), .int cl, .int (nI pa_7), .int rv])), (t 2, .inl (cI, 32, .inl y15_t2))] H := hP
          have hD : va_D A [(t 1, .inl (cI, 200, .inl fs)), (b1, .inl (cI, 26, .inl fl)), (t 0, .inr (9, [.ref (t 1), .ref (t 2), .ref (t 3), .ref (t 4), .ref (t 5), .int (nI un), .int cl, .int (nI pa_7), .int rv])), (t 2, .inl (cI, 32, .inl y15_t2))] := hD
          have hP := hP.sub (ws' := [(t 0, .inr (9, [.ref (t 1), .ref (t 2), .ref (t 3), .ref (t 4), .ref (t 5), .int (nI un), .int cl, .int (nI pa_7), .int rv])), (t 1, .inl (cI, 200, .inl fs)), (t 2, .inl (cI, 32, .inl y15_t2)), (b1, .inl (cI, 26, .inl fl))]) [2, 0, 3, 1] rfl
          have hD := hD.sub (ws' := [(t 0, .inr (9, [.ref (t 1), .ref (t 2), .ref (t 3), .ref (t 4), .ref (t 5), .int (nI un), .int cl, .int (nI pa_7), .int rv])), (t 1, .inl (cI, 200, .inl fs)), (t 2, .inl (cI, 32, .inl y15_t2)), (b1, .inl (cI, 26, .inl fl))]) [2, 0, 3, 1] (by decide) rfl
          exact W.iret (v := r_6) hx hb hr (fun t ht hW => ⟨⟨(r_6 : Int32), (pa_7, (rv : Int32), y15_t2), rfl, (lf_X9_run_8 t un cl rf p1 fs fk fl b1 n1 hp hst hun j av y15_t2 rv pv k15 hj15 hk15 hpv c_1 n_2 c_4 pa_7 hz_7 r_6 wr_6), ⟨by rw [ht]; exact hP, hD⟩⟩, hS.F ht⟩) hS.2.2 dX9_run_87 hlocks
        · refine lv_iconst (v := 0) hx hb dX9_run_79 (by decide) ?_
          refine lv_goto (tgt := 87) hx hb dX9_run_80 (by decide) ?_
          have hP := hP.sub (ws' := [(t 0, .inr (9, [.ref (t 1), .ref (t 2), .ref (t 3), .ref (t 4), .ref (t 5), .int (nI un), .int cl, .int (nI pv), .int rv])), (t 1, .inl (cI, 200, .inl fs)), (t 2, .inl (cI, 32, .inl y15_t2)), (b1, .inl (cI, 26, .inl fl))]) [0, 1, 2, 3] rfl
          have hD := hD.sub (ws' := [(t 0, .inr (9, [.ref (t 1), .ref (t 2), .ref (t 3), .ref (t 4), .ref (t 5), .int (nI un), .int cl, .int (nI pv), .int rv])), (t 1, .inl (cI, 200, .inl fs)), (t 2, .inl (cI, 32, .inl y15_t2)), (b1, .inl (cI, 26, .inl fl))]) [0, 1, 2, 3] (by decide) rfl
          exact W.iret (v := 0) hx hb hr (fun t ht hW => ⟨⟨(0 : Int32), (pv, (rv : Int32), y15_t2), rfl, (lf_X9_run_9 t un cl rf p1 fs fk fl b1 n1 hp hst hun j av y15_t2 rv pv k15 hj15 hk15 hpv c_1 n_2 c_4), ⟨by rw [ht]; exact hP, hD⟩⟩, hS.F ht⟩) hS.2.2 dX9_run_87 hlocks
      · have n_10 : j < 200 := (lf_X9_run_11 t un cl rf p1 fs fk fl b1 n1 hp hst hun j av y15_t2 rv pv k15 hj15 hk15 hpv c_1)
        refine lv_iload_n hx hb dX9_run_25 rfl (lv_at hl 1 rfl) ?_
        refine lv_if_lt (tgt := 72) hx hb dX9_run_26 (by decide) (fun c_12 => ?_) (fun c_12 => ?_)
        · refine lv_aload_n hx hb dX9_run_72 rfl (lv_at hl 2 rfl) ?_
          refine va_get (D := D) (ci := 9) (v := .int rv) (C := RX9) (T := TX9) (N := 9) hx hb hts inT_X9 hown hK.1 hP 0 rfl rfl 8 (by decide) (hts _ k_204) (fun _ h9 => h9) rfl dX9_run_73 ?_
          refine lv_if_eq (tgt := 83) hx hb dX9_run_76 (by decide) (fun c_13 => ?_) (fun c_13 => ?_)
          · refine lv_aload_n hx hb dX9_run_83 rfl (lv_at hl 2 rfl) ?_
            refine eWi (wr := [(t 1, .inl (cI, 200, .inl fs)), (b1, .inl (cI, 26, .inl fl))]) (va_runV (As := []) (rest := []) ⟨hx, hb, hml, hown, hts⟩ (c_X9_pop l D cI cB cZ cJ tx t (nI un) cl rv pv y15_t2 (lf_X9_run_14 t un cl rf p1 fs fk fl b1 n1 hp hst hun j av y15_t2 rv pv k15 hj15 hk15 hpv c_1 n_10 c_12 c_13) H.size) (zV hts k_799 v_X9_pop ⟨Nat.le_of_ble_eq_true rfl, Nat.le_of_ble_eq_true rfl⟩) (pV (pxS hK hP hD [0, 2] (by decide) rfl) hK hP 0 rfl rfl) rfl rfl hl.1 rfl (lv_room (Nat.le_of_ble_eq_true rfl)) dX9_run_84 ⟨Nat.le_of_ble_eq_true rfl, Nat.le_of_ble_eq_true rfl⟩) hP hD hS hA [0, 2] [1, 3] rfl rfl (by decide) (by decide) (fun r_15 u_16 H locs wr_15 hP hD hS => ?_)
            obtain ⟨pa_16, rfl⟩ : ∃ z, z = u_16 := ⟨_, rfl⟩
            have hz_16 : pa_16 ≤ 32 := wr_15
            have hP : va_P D vwCl [(t 1, .inl (cI, 200, .inl fs)), (b1, .inl (cI, 26, .inl fl)), (t 0, .inr (9, [.ref (t 1), .ref (t 2), .ref (t 3), .ref (t 4), .ref (t 5), .int (nI un), .int cl, .int (nI pa_16), .int rv])), (t 2, .inl (cI, 32, .inl y15_t2))] H := hP
            have hD : va_D A [(t 1, .inl (cI, 200, .inl fs)), (b1, .inl (cI, 26, .inl fl)), (t 0, .inr (9, [.ref (t 1), .ref (t 2), .ref (t 3), .ref (t 4), .ref (t 5), .int (nI un), .int cl, .int (nI pa_16), .int rv])), (t 2, .inl (cI, 32, .inl y15_t2))] := hD
            have hP := hP.sub (ws' := [(t 0, .inr (9, [.ref (t 1), .ref (t 2), .ref (t 3), .ref (t 4), .ref (t 5), .int (nI un), .int cl, .int (nI pa_16), .int rv])), (t 1, .inl (cI, 200, .inl fs)), (t 2, .inl (cI, 32, .inl y15_t2)), (b1, .inl (cI, 26, .inl fl))]) [2, 0, 3, 1] rfl
            have hD := hD.sub (ws' := [(t 0, .inr (9, [.ref (t 1), .ref (t 2), .ref (t 3), .ref (t 4), .ref (t 5), .int (nI un), .int cl, .int (nI pa_16), .int rv])), (t 1, .inl (cI, 200, .inl fs)), (t 2, .inl (cI, 32, .inl y15_t2)), (b1, .inl (cI, 26, .inl fl))]) [2, 0, 3, 1] (by decide) rfl
            exact W.iret (v := r_15) hx hb hr (fun t ht hW => ⟨⟨(r_15 : Int32), (pa_16, (rv : Int32), y15_t2), rfl, (lf_X9_run_17 t un cl rf p1 fs fk fl b1 n1 hp hst hun j av y15_t2 rv pv k15 hj15 hk15 hpv c_1 n_10 c_12 c_13 pa_16 hz_16 r_15 wr_15), ⟨by rw [ht]; exact hP, hD⟩⟩, hS.F ht⟩) hS.2.2 dX9_run_87 hlocks
          · refine lv_iconst (v := 0) hx hb dX9_run_79 (by decide) ?_
            refine lv_goto (tgt := 87) hx hb dX9_run_80 (by decide) ?_
            have hP := hP.sub (ws' := [(t 0, .inr (9, [.ref (t 1), .ref (t 2), .ref (t 3), .ref (t 4), .ref (t 5), .int (nI un), .int cl, .int (nI pv), .int rv])), (t 1, .inl (cI, 200, .inl fs)), (t 2, .inl (cI, 32, .inl y15_t2)), (b1, .inl (cI, 26, .inl fl))]) [0, 1, 2, 3] rfl
            have hD := hD.sub (ws' := [(t 0, .inr (9, [.ref (t 1), .ref (t 2), .ref (t 3), .ref (t 4), .ref (t 5), .int (nI un), .int cl, .int (nI pv), .int rv])), (t 1, .inl (cI, 200, .inl fs)), (t 2, .inl (cI, 32, .inl y15_t2)), (b1, .inl (cI, 26, .inl fl))]) [0, 1, 2, 3] (by decide) rfl
            exact W.iret (v := 0) hx hb hr (fun t ht hW => ⟨⟨(0 : Int32), (pv, (rv : Int32), y15_t2), rfl, (lf_X9_run_18 t un cl rf p1 fs fk fl b1 n1 hp hst hun j av y15_t2 rv pv k15 hj15 hk15 hpv c_1 n_10 c_12 c_13), ⟨by rw [ht]; exact hP, hD⟩⟩, hS.F ht⟩) hS.2.2 dX9_run_87 hlocks
        · refine lv_iload_n hx hb dX9_run_29 rfl (lv_at hl 1 rfl) ?_
          refine lv_aload_n hx hb dX9_run_30 rfl (lv_at hl 2 rfl) ?_
          refine va_get (D := D) (ci := 9) (v := .int (nI un)) (C := RX9) (T := TX9) (N := 9) hx hb hts inT_X9 hown hK.1 hP 0 rfl rfl 5 (by decide) (hts _ k_199) (fun _ h9 => h9) rfl dX9_run_31 ?_
          refine lv_icmp_ge (tgt := 72) hx hb dX9_run_34 (by decide) (fun c_19 => ?_) (fun c_19 => ?_)
          · refine lv_aload_n hx hb dX9_run_72 rfl (lv_at hl 2 rfl) ?_
            refine va_get (D := D) (ci := 9) (v := .int rv) (C := RX9) (T := TX9) (N := 9) hx hb hts inT_X9 hown hK.1 hP 0 rfl rfl 8 (by decide) (hts _ k_204) (fun _ h9 => h9) rfl dX9_run_73 ?_
            refine lv_if_eq (tgt := 83) hx hb dX9_run_76 (by decide) (fun c_20 => ?_) (fun c_20 => ?_)
            · refine lv_aload_n hx hb dX9_run_83 rfl (lv_at hl 2 rfl) ?_
              refine eWi (wr := [(t 1, .inl (cI, 200, .inl fs)), (b1, .inl (cI, 26, .inl fl))]) (va_runV (As := []) (rest := []) ⟨hx, hb, hml, hown, hts⟩ (c_X9_pop l D cI cB cZ cJ tx t (nI un) cl rv pv y15_t2 (lf_X9_run_21 t un cl rf p1 fs fk fl b1 n1 hp hst hun j av y15_t2 rv pv k15 hj15 hk15 hpv c_1 n_10 c_12 c_19 c_20) H.size) (zV hts k_799 v_X9_pop ⟨Nat.le_of_ble_eq_true rfl, Nat.le_of_ble_eq_true rfl⟩) (pV (pxS hK hP hD [0, 2] (by decide) rfl) hK hP 0 rfl rfl) rfl rfl hl.1 rfl (lv_room (Nat.le_of_ble_eq_true rfl)) dX9_run_84 ⟨Nat.le_of_ble_eq_true rfl, Nat.le_of_ble_eq_true rfl⟩) hP hD hS hA [0, 2] [1, 3] rfl rfl (by decide) (by decide) (fun r_22 u_23 H locs wr_22 hP hD hS => ?_)
              obtain ⟨pa_23, rfl⟩ : ∃ z, z = u_23 := ⟨_, rfl⟩
              have hz_23 : pa_23 ≤ 32 := wr_22
              have hP : va_P D vwCl [(t 1, .inl (cI, 200, .inl fs)), (b1, .inl (cI, 26, .inl fl)), (t 0, .inr (9, [.ref (t 1), .ref (t 2), .ref (t 3), .ref (t 4), .ref (t 5), .int (nI un), .int cl, .int (nI pa_23), .int rv])), (t 2, .inl (cI, 32, .inl y15_t2))] H := hP
              have hD : va_D A [(t 1, .inl (cI, 200, .inl fs)), (b1, .inl (cI, 26, .inl fl)), (t 0, .inr (9, [.ref (t 1), .ref (t 2), .ref (t 3), .ref (t 4), .ref (t 5), .int (nI un), .int cl, .int (nI pa_23), .int rv])), (t 2, .inl (cI, 32, .inl y15_t2))] := hD
              have hP := hP.sub (ws' := [(t 0, .inr (9, [.ref (t 1), .ref (t 2), .ref (t 3), .ref (t 4), .ref (t 5), .int (nI un), .int cl, .int (nI pa_23), .int rv])), (t 1, .inl (cI, 200, .inl fs)), (t 2, .inl (cI, 32, .inl y15_t2)), (b1, .inl (cI, 26, .inl fl))]) [2, 0, 3, 1] rfl
              have hD := hD.sub (ws' := [(t 0, .inr (9, [.ref (t 1), .ref (t 2), .ref (t 3), .ref (t 4), .ref (t 5), .int (nI un), .int cl, .int (nI pa_23), .int rv])), (t 1, .inl (cI, 200, .inl fs)), (t 2, .inl (cI, 32, .inl y15_t2)), (b1, .inl (cI, 26, .inl fl))]) [2, 0, 3, 1] (by decide) rfl
              exact W.iret (v := r_22) hx hb hr (fun t ht hW => ⟨⟨(r_22 : Int32), (pa_23, (rv : Int32), y15_t2), rfl, (lf_X9_run_24 t un cl rf p1 fs fk fl b1 n1 hp hst hun j av y15_t2 rv pv k15 hj15 hk15 hpv c_1 n_10 c_12 c_19 c_20 pa_23 hz_23 r_22 wr_22), ⟨by rw [ht]; exact hP, hD⟩⟩, hS.F ht⟩) hS.2.2 dX9_run_87 hlocks
            · refine lv_iconst (v := 0) hx hb dX9_run_79 (by decide) ?_
              refine lv_goto (tgt := 87) hx hb dX9_run_80 (by decide) ?_
              have hP := hP.sub (ws' := [(t 0, .inr (9, [.ref (t 1), .ref (t 2), .ref (t 3), .ref (t 4), .ref (t 5), .int (nI un), .int cl, .int (nI pv), .int rv])), (t 1, .inl (cI, 200, .inl fs)), (t 2, .inl (cI, 32, .inl y15_t2)), (b1, .inl (cI, 26, .inl fl))]) [0, 1, 2, 3] rfl
              have hD := hD.sub (ws' := [(t 0, .inr (9, [.ref (t 1), .ref (t 2), .ref (t 3), .ref (t 4), .ref (t 5), .int (nI un), .int cl, .int (nI pv), .int rv])), (t 1, .inl (cI, 200, .inl fs)), (t 2, .inl (cI, 32, .inl y15_t2)), (b1, .inl (cI, 26, .inl fl))]) [0, 1, 2, 3] (by decide) rfl
              exact W.iret (v := 0) hx hb hr (fun t ht hW => ⟨⟨(0 : Int32), (pv, (rv : Int32), y15_t2), rfl, (lf_X9_run_25 t un cl rf p1 fs fk fl b1 n1 hp hst hun j av y15_t2 rv pv k15 hj15 hk15 hpv c_1 n_10 c_12 c_19 c_20), ⟨by rw [ht]; exact hP, hD⟩⟩, hS.F ht⟩) hS.2.2 dX9_run_87 hlocks
          · obtain ⟨kk, hkk, ekk⟩ := nat_of c_12 c_19
            subst ekk
            refine lv_aload_n hx hb dX9_run_37 rfl (lv_at hl 2 rfl) ?_
            refine va_get (D := D) (ci := 9) (v := .int rv) (C := RX9) (T := TX9) (N := 9) hx hb hts inT_X9 hown hK.1 hP 0 rfl rfl 8 (by decide) (hts _ k_204) (fun _ h9 => h9) rfl dX9_run_38 ?_
            refine lv_if_ne (tgt := 72) hx hb dX9_run_41 (by decide) (fun c_26 => ?_) (fun c_26 => ?_)
            · refine lv_aload_n hx hb dX9_run_72 rfl (lv_at hl 2 rfl) ?_
              refine va_get (D := D) (ci := 9) (v := .int rv) (C := RX9) (T := TX9) (N := 9) hx hb hts inT_X9 hown hK.1 hP 0 rfl rfl 8 (by decide) (hts _ k_204) (fun _ h9 => h9) rfl dX9_run_73 ?_
              refine lv_if_eq (tgt := 83) hx hb dX9_run_76 (by decide) (fun c_27 => ?_) (fun c_27 => ?_)
              · refine lv_aload_n hx hb dX9_run_83 rfl (lv_at hl 2 rfl) ?_
                refine eWi (wr := [(t 1, .inl (cI, 200, .inl fs)), (b1, .inl (cI, 26, .inl fl))]) (va_runV (As := []) (rest := []) ⟨hx, hb, hml, hown, hts⟩ (c_X9_pop l D cI cB cZ cJ tx t (nI un) cl rv pv y15_t2 (lf_X9_run_28 t un cl rf p1 fs fk fl b1 n1 hp hst hun j (nI kk) y15_t2 rv pv k15 hj15 hk15 hpv c_1 n_10 c_12 c_19 kk hkk rfl c_26 c_27) H.size) (zV hts k_799 v_X9_pop ⟨Nat.le_of_ble_eq_true rfl, Nat.le_of_ble_eq_true rfl⟩) (pV (pxS hK hP hD [0, 2] (by decide) rfl) hK hP 0 rfl rfl) rfl rfl hl.1 rfl (lv_room (Nat.le_of_ble_eq_true rfl)) dX9_run_84 ⟨Nat.le_of_ble_eq_true rfl, Nat.le_of_ble_eq_true rfl⟩) hP hD hS hA [0, 2] [1, 3] rfl rfl (by decide) (by decide) (fun r_29 u_30 H locs wr_29 hP hD hS => ?_)
                obtain ⟨pa_30, rfl⟩ : ∃ z, z = u_30 := ⟨_, rfl⟩
                have hz_30 : pa_30 ≤ 32 := wr_29
                have hP : va_P D vwCl [(t 1, .inl (cI, 200, .inl fs)), (b1, .inl (cI, 26, .inl fl)), (t 0, .inr (9, [.ref (t 1), .ref (t 2), .ref (t 3), .ref (t 4), .ref (t 5), .int (nI un), .int cl, .int (nI pa_30), .int rv])), (t 2, .inl (cI, 32, .inl y15_t2))] H := hP
                have hD : va_D A [(t 1, .inl (cI, 200, .inl fs)), (b1, .inl (cI, 26, .inl fl)), (t 0, .inr (9, [.ref (t 1), .ref (t 2), .ref (t 3), .ref (t 4), .ref (t 5), .int (nI un), .int cl, .int (nI pa_30), .int rv])), (t 2, .inl (cI, 32, .inl y15_t2))] := hD
                have hP := hP.sub (ws' := [(t 0, .inr (9, [.ref (t 1), .ref (t 2), .ref (t 3), .ref (t 4), .ref (t 5), .int (nI un), .int cl, .int (nI pa_30), .int rv])), (t 1, .inl (cI, 200, .inl fs)), (t 2, .inl (cI, 32, .inl y15_t2)), (b1, .inl (cI, 26, .inl fl))]) [2, 0, 3, 1] rfl
                have hD := hD.sub (ws' := [(t 0, .inr (9, [.ref (t 1), .ref (t 2), .ref (t 3), .ref (t 4), .ref (t 5), .int (nI un), .int cl, .int (nI pa_30), .int rv])), (t 1, .inl (cI, 200, .inl fs)), (t 2, .inl (cI, 32, .inl y15_t2)), (b1, .inl (cI, 26, .inl fl))]) [2, 0, 3, 1] (by decide) rfl
                exact W.iret (v := r_29) hx hb hr (fun t ht hW => ⟨⟨(r_29 : Int32), (pa_30, (rv : Int32), y15_t2), rfl, (lf_X9_run_31 t un cl rf p1 fs fk fl b1 n1 hp hst hun j (nI kk) y15_t2 rv pv k15 hj15 hk15 hpv c_1 n_10 c_12 c_19 kk hkk rfl c_26 c_27 pa_30 hz_30 r_29 wr_29), ⟨by rw [ht]; exact hP, hD⟩⟩, hS.F ht⟩) hS.2.2 dX9_run_87 hlocks
              · refine lv_iconst (v := 0) hx hb dX9_run_79 (by decide) ?_
                refine lv_goto (tgt := 87) hx hb dX9_run_80 (by decide) ?_
                have hP := hP.sub (ws' := [(t 0, .inr (9, [.ref (t 1), .ref (t 2), .ref (t 3), .ref (t 4), .ref (t 5), .int (nI un), .int cl, .int (nI pv), .int rv])), (t 1, .inl (cI, 200, .inl fs)), (t 2, .inl (cI, 32, .inl y15_t2)), (b1, .inl (cI, 26, .inl fl))]) [0, 1, 2, 3] rfl
                have hD := hD.sub (ws' := [(t 0, .inr (9, [.ref (t 1), .ref (t 2), .ref (t 3), .ref (t 4), .ref (t 5), .int (nI un), .int cl, .int (nI pv), .int rv])), (t 1, .inl (cI, 200, .inl fs)), (t 2, .inl (cI, 32, .inl y15_t2)), (b1, .inl (cI, 26, .inl fl))]) [0, 1, 2, 3] (by decide) rfl
                exact W.iret (v := 0) hx hb hr (fun t ht hW => ⟨⟨(0 : Int32), (pv, (rv : Int32), y15_t2), rfl, (lf_X9_run_32 t un cl rf p1 fs fk fl b1 n1 hp hst hun j (nI kk) y15_t2 rv pv k15 hj15 hk15 hpv c_1 n_10 c_12 c_19 kk hkk rfl c_26 c_27), ⟨by rw [ht]; exact hP, hD⟩⟩, hS.F ht⟩) hS.2.2 dX9_run_87 hlocks
            · refine lv_aload_n hx hb dX9_run_44 rfl (lv_at hl 2 rfl) ?_
              refine va_get (D := D) (ci := 9) (v := .ref (t 1)) (C := RX9) (T := TX9) (N := 9) hx hb hts inT_X9 hown hK.1 hP 0 rfl rfl 0 (by decide) (hts _ k_194) (fun _ h9 => h9) rfl dX9_run_45 ?_
              refine lv_iload_n hx hb dX9_run_48 rfl (lv_at hl 1 rfl) ?_
              refine lt_i (j := kk) hx hb hK hP 1 rfl (lf_X9_run_34 t un cl rf p1 fs fk fl b1 n1 hp hst hun j (nI kk) y15_t2 rv pv k15 hj15 hk15 hpv c_1 n_10 c_12 c_19 kk hkk rfl c_26) (by decide) dX9_run_49 ?_
              refine lv_bipush (v := 15) hx hb dX9_run_50 (by decide) ?_
              refine lv_iand hx hb dX9_run_52 ?_
              refine lv_topi (fun x_35 ex_35 => ?_)
              refine lv_if_ne (tgt := 59) hx hb dX9_run_53 (by decide) (fun c_36 => ?_) (fun c_36 => ?_)
              · refine lv_aload_n hx hb dX9_run_59 rfl (lv_at hl 2 rfl) ?_
                refine lv_iload_n hx hb dX9_run_60 rfl (lv_at hl 1 rfl) ?_
                refine lv_aload_n hx hb dX9_run_61 rfl (lv_at hl 4 rfl) ?_
                refine eWi (wr := []) (va_runV (As := [.int (nI kk), .ref b1]) (rest := []) ⟨hx, hb, hml, hown, hts⟩ (c_X9_stepOn l D cI cB cZ cJ tx t (nI un) cl rv pv fs y15_t2 fl b1 kk (lf_X9_run_37 t un cl rf p1 fs fk fl b1 n1 hp hst hun j (nI kk) y15_t2 rv pv k15 hj15 hk15 hpv c_1 n_10 c_12 c_19 kk hkk rfl c_26 x_35 ex_35 c_36) (lf_X9_run_38 t un cl rf p1 fs fk fl b1 n1 hp hst hun j (nI kk) y15_t2 rv pv k15 hj15 hk15 hpv c_1 n_10 c_12 c_19 kk hkk rfl c_26 x_35 ex_35 c_36) (lf_X9_run_39 t un cl rf p1 fs fk fl b1 n1 hp hst hun j (nI kk) y15_t2 rv pv k15 hj15 hk15 hpv c_1 n_10 c_12 c_19 kk hkk rfl c_26 x_35 ex_35 c_36) H.size) (zV hts k_791 v_X9_stepOn ⟨Nat.le_of_ble_eq_true rfl, Nat.le_of_ble_eq_true rfl⟩) (pV (pxS hK hP hD [0, 1, 2, 3] (by decide) rfl) hK hP 0 rfl rfl) rfl rfl hl.1 rfl (lv_room (Nat.le_of_ble_eq_true rfl)) dX9_run_62 ⟨Nat.le_of_ble_eq_true rfl, Nat.le_of_ble_eq_true rfl⟩) hP hD hS hA [0, 1, 2, 3] [] rfl rfl (by decide) (by decide) (fun r_40 u_41 H locs wr_40 hP hD hS => ?_)
                obtain ⟨pa_41, ra_41, fa_41⟩ := u_41
                have hz_41 : pa_41 ≤ 32 := wr_40
                have hP : va_P D vwCl [(t 0, .inr (9, [.ref (t 1), .ref (t 2), .ref (t 3), .ref (t 4), .ref (t 5), .int (nI un), .int cl, .int (nI pa_41), .int ra_41])), (t 1, .inl (cI, 200, .inl fs)), (t 2, .inl (cI, 32, .inl fa_41)), (b1, .inl (cI, 26, .inl fl))] H := hP
                have hD : va_D A [(t 0, .inr (9, [.ref (t 1), .ref (t 2), .ref (t 3), .ref (t 4), .ref (t 5), .int (nI un), .int cl, .int (nI pa_41), .int ra_41])), (t 1, .inl (cI, 200, .inl fs)), (t 2, .inl (cI, 32, .inl fa_41)), (b1, .inl (cI, 26, .inl fl))] := hD
                refine lv_istore_n (lv' := [(3, .int r_40), (4, .int (nI j)), (0, .ref (t 0)), (1, .int n1), (2, .ref b1)]) hx hb dX9_run_65 rfl hl (by decide) rfl (fun ls hl => ?_)
                refine lv_iinc (v := nI (j + 1)) (lv' := [(4, .int (nI (j + 1))), (3, .int r_40), (0, .ref (t 0)), (1, .int n1), (2, .ref b1)]) hx hb dX9_run_66 hl (k := 1) rfl (nI_1 j) (by decide) rfl (fun ls hl => ?_)
                refine lv_goto (tgt := 15) hx hb dX9_run_69 (by decide) ?_
                exact ih15 (j + 1) r_40 fa_41 ra_41 pa_41 H locs ls (by omega) (by omega) (lf_X9_run_42 t un cl rf p1 fs fk fl b1 n1 hp hst hun j (nI kk) y15_t2 rv pv k15 hj15 hk15 hpv c_1 n_10 c_12 c_19 kk hkk rfl c_26 x_35 ex_35 c_36 pa_41 ra_41 fa_41 hz_41 r_40 wr_40) (hP.sub [0, 1, 2, 3] rfl) (hD.sub [0, 1, 2, 3] (by decide) rfl) hS (lv_sub hl [0, 1, 2, 3, 4] rfl)
              · refine lv_goto (tgt := 72) hx hb dX9_run_56 (by decide) ?_
                refine lv_aload_n hx hb dX9_run_72 rfl (lv_at hl 2 rfl) ?_
                refine va_get (D := D) (ci := 9) (v := .int rv) (C := RX9) (T := TX9) (N := 9) hx hb hts inT_X9 hown hK.1 hP 0 rfl rfl 8 (by decide) (hts _ k_204) (fun _ h9 => h9) rfl dX9_run_73 ?_
                refine lv_if_eq (tgt := 83) hx hb dX9_run_76 (by decide) (fun c_43 => ?_) (fun c_43 => ?_)
                · refine lv_aload_n hx hb dX9_run_83 rfl (lv_at hl 2 rfl) ?_
                  refine eWi (wr := [(t 1, .inl (cI, 200, .inl fs)), (b1, .inl (cI, 26, .inl fl))]) (va_runV (As := []) (rest := []) ⟨hx, hb, hml, hown, hts⟩ (c_X9_pop l D cI cB cZ cJ tx t (nI un) cl rv pv y15_t2 (lf_X9_run_44 t un cl rf p1 fs fk fl b1 n1 hp hst hun j (nI kk) y15_t2 rv pv k15 hj15 hk15 hpv c_1 n_10 c_12 c_19 kk hkk rfl c_26 x_35 ex_35 c_36 c_43) H.size) (zV hts k_799 v_X9_pop ⟨Nat.le_of_ble_eq_true rfl, Nat.le_of_ble_eq_true rfl⟩) (pV (pxS hK hP hD [0, 2] (by decide) rfl) hK hP 0 rfl rfl) rfl rfl hl.1 rfl (lv_room (Nat.le_of_ble_eq_true rfl)) dX9_run_84 ⟨Nat.le_of_ble_eq_true rfl, Nat.le_of_ble_eq_true rfl⟩) hP hD hS hA [0, 2] [1, 3] rfl rfl (by decide) (by decide) (fun r_45 u_46 H locs wr_45 hP hD hS => ?_)
                  obtain ⟨pa_46, rfl⟩ : ∃ z, z = u_46 := ⟨_, rfl⟩
                  have hz_46 : pa_46 ≤ 32 := wr_45
                  have hP : va_P D vwCl [(t 1, .inl (cI, 200, .inl fs)), (b1, .inl (cI, 26, .inl fl)), (t 0, .inr (9, [.ref (t 1), .ref (t 2), .ref (t 3), .ref (t 4), .ref (t 5), .int (nI un), .int cl, .int (nI pa_46), .int rv])), (t 2, .inl (cI, 32, .inl y15_t2))] H := hP
                  have hD : va_D A [(t 1, .inl (cI, 200, .inl fs)), (b1, .inl (cI, 26, .inl fl)), (t 0, .inr (9, [.ref (t 1), .ref (t 2), .ref (t 3), .ref (t 4), .ref (t 5), .int (nI un), .int cl, .int (nI pa_46), .int rv])), (t 2, .inl (cI, 32, .inl y15_t2))] := hD
                  have hP := hP.sub (ws' := [(t 0, .inr (9, [.ref (t 1), .ref (t 2), .ref (t 3), .ref (t 4), .ref (t 5), .int (nI un), .int cl, .int (nI pa_46), .int rv])), (t 1, .inl (cI, 200, .inl fs)), (t 2, .inl (cI, 32, .inl y15_t2)), (b1, .inl (cI, 26, .inl fl))]) [2, 0, 3, 1] rfl
                  have hD := hD.sub (ws' := [(t 0, .inr (9, [.ref (t 1), .ref (t 2), .ref (t 3), .ref (t 4), .ref (t 5), .int (nI un), .int cl, .int (nI pa_46), .int rv])), (t 1, .inl (cI, 200, .inl fs)), (t 2, .inl (cI, 32, .inl y15_t2)), (b1, .inl (cI, 26, .inl fl))]) [2, 0, 3, 1] (by decide) rfl
                  exact W.iret (v := r_45) hx hb hr (fun t ht hW => ⟨⟨(r_45 : Int32), (pa_46, (rv : Int32), y15_t2), rfl, (lf_X9_run_47 t un cl rf p1 fs fk fl b1 n1 hp hst hun j (nI kk) y15_t2 rv pv k15 hj15 hk15 hpv c_1 n_10 c_12 c_19 kk hkk rfl c_26 x_35 ex_35 c_36 c_43 pa_46 hz_46 r_45 wr_45), ⟨by rw [ht]; exact hP, hD⟩⟩, hS.F ht⟩) hS.2.2 dX9_run_87 hlocks
                · refine lv_iconst (v := 0) hx hb dX9_run_79 (by decide) ?_
                  refine lv_goto (tgt := 87) hx hb dX9_run_80 (by decide) ?_
                  have hP := hP.sub (ws' := [(t 0, .inr (9, [.ref (t 1), .ref (t 2), .ref (t 3), .ref (t 4), .ref (t 5), .int (nI un), .int cl, .int (nI pv), .int rv])), (t 1, .inl (cI, 200, .inl fs)), (t 2, .inl (cI, 32, .inl y15_t2)), (b1, .inl (cI, 26, .inl fl))]) [0, 1, 2, 3] rfl
                  have hD := hD.sub (ws' := [(t 0, .inr (9, [.ref (t 1), .ref (t 2), .ref (t 3), .ref (t 4), .ref (t 5), .int (nI un), .int cl, .int (nI pv), .int rv])), (t 1, .inl (cI, 200, .inl fs)), (t 2, .inl (cI, 32, .inl y15_t2)), (b1, .inl (cI, 26, .inl fl))]) [0, 1, 2, 3] (by decide) rfl
                  exact W.iret (v := 0) hx hb hr (fun t ht hW => ⟨⟨(0 : Int32), (pv, (rv : Int32), y15_t2), rfl, (lf_X9_run_48 t un cl rf p1 fs fk fl b1 n1 hp hst hun j (nI kk) y15_t2 rv pv k15 hj15 hk15 hpv c_1 n_10 c_12 c_19 kk hkk rfl c_26 x_35 ex_35 c_36 c_43), ⟨by rw [ht]; exact hP, hD⟩⟩, hS.F ht⟩) hS.2.2 dX9_run_87 hlocks
  exact lp15 (200 + 1) 0 n1 fk 0 0 H locs ls (by omega) (by omega) (lf_X9_run_49 t un cl rf p1 fs fk fl b1 n1 hp hst hun) (hP.sub [0, 1, 2, 3] rfl) (hD.sub [0, 1, 2, 3] (by decide) rfl) hS (lv_sub hl [0, 1, 2, 3, 4] rfl)

theorem lf_X9_value_3 (t : Nat → Nat) (un : Nat) (k1 : Nat) (rf : Int32) (p1 : Nat) (fs : Nat → Int32) (fk : Nat → Int32) (fa3 : Nat → Int32) (fa4 : Nat → Int32) (fa5 : Nat → Int32) (fl : Nat → Int32) (b1 : Nat) (n1 : Int32) (n2 : Int32) (n3 : Int32) (hp : p1 ≤ 32) (hst : ∀ j, j < 200 → 0 ≤ fs j) (hun : un ≤ 200) (hk1 : k1 ≤ 14) (j : Nat) (y3_t2 : Nat → Int32) (rv : Int32) (pv : Nat) (k3 : Nat) (hj3 : j ≤ k1) (hk3 : k1 < j + (k3 + 1)) (hpv : pv ≤ 32) (c_1 : nI k1 ≤ nI j) : k1 ≤ j := by
  exact (nI_leI (a := k1) (b := j) (by omega) (by omega)).mp c_1
theorem lf_X9_value_4 (t : Nat → Nat) (un : Nat) (k1 : Nat) (rf : Int32) (p1 : Nat) (fs : Nat → Int32) (fk : Nat → Int32) (fa3 : Nat → Int32) (fa4 : Nat → Int32) (fa5 : Nat → Int32) (fl : Nat → Int32) (b1 : Nat) (n1 : Int32) (n2 : Int32) (n3 : Int32) (hp : p1 ≤ 32) (hst : ∀ j, j < 200 → 0 ≤ fs j) (hun : un ≤ 200) (hk1 : k1 ≤ 14) (j : Nat) (y3_t2 : Nat → Int32) (rv : Int32) (pv : Nat) (k3 : Nat) (hj3 : j ≤ k1) (hk3 : k1 < j + (k3 + 1)) (hpv : pv ≤ 32) (c_1 : nI k1 ≤ nI j) (n_2 : k1 ≤ j) : pv ≤ 32 := by
  omega
theorem lf_X9_value_6 (t : Nat → Nat) (un : Nat) (k1 : Nat) (rf : Int32) (p1 : Nat) (fs : Nat → Int32) (fk : Nat → Int32) (fa3 : Nat → Int32) (fa4 : Nat → Int32) (fa5 : Nat → Int32) (fl : Nat → Int32) (b1 : Nat) (n1 : Int32) (n2 : Int32) (n3 : Int32) (hp : p1 ≤ 32) (hst : ∀ j, j < 200 → 0 ≤ fs j) (hun : un ≤ 200) (hk1 : k1 ≤ 14) (j : Nat) (y3_t2 : Nat → Int32) (rv : Int32) (pv : Nat) (k3 : Nat) (hj3 : j ≤ k1) (hk3 : k1 < j + (k3 + 1)) (hpv : pv ≤ 32) (c_1 : ¬ nI k1 ≤ nI j) : j < k1 := by
  exact Nat.lt_of_not_le (fun q => c_1 ((nI_leI (a := k1) (b := j) (by omega) (by omega)).mpr q))
theorem lf_X9_value_7 (t : Nat → Nat) (un : Nat) (k1 : Nat) (rf : Int32) (p1 : Nat) (fs : Nat → Int32) (fk : Nat → Int32) (fa3 : Nat → Int32) (fa4 : Nat → Int32) (fa5 : Nat → Int32) (fl : Nat → Int32) (b1 : Nat) (n1 : Int32) (n2 : Int32) (n3 : Int32) (hp : p1 ≤ 32) (hst : ∀ j, j < 200 → 0 ≤ fs j) (hun : un ≤ 200) (hk1 : k1 ≤ 14) (j : Nat) (y3_t2 : Nat → Int32) (rv : Int32) (pv : Nat) (k3 : Nat) (hj3 : j ≤ k1) (hk3 : k1 < j + (k3 + 1)) (hpv : pv ≤ 32) (c_1 : ¬ nI k1 ≤ nI j) (n_5 : j < k1) : vp_in (nI j) 14 := by
  first | exact vp_in_nI (by omega) (by decide) | (unfold vp_in; decide)
theorem lf_X9_value_10 (t : Nat → Nat) (un : Nat) (k1 : Nat) (rf : Int32) (p1 : Nat) (fs : Nat → Int32) (fk : Nat → Int32) (fa3 : Nat → Int32) (fa4 : Nat → Int32) (fa5 : Nat → Int32) (fl : Nat → Int32) (b1 : Nat) (n1 : Int32) (n2 : Int32) (n3 : Int32) (hp : p1 ≤ 32) (hst : ∀ j, j < 200 → 0 ≤ fs j) (hun : un ≤ 200) (hk1 : k1 ≤ 14) (j : Nat) (y3_t2 : Nat → Int32) (rv : Int32) (pv : Nat) (k3 : Nat) (hj3 : j ≤ k1) (hk3 : k1 < j + (k3 + 1)) (hpv : pv ≤ 32) (c_1 : ¬ nI k1 ≤ nI j) (n_5 : j < k1) (x_8 : Int32) (c_9 : ¬ x_8 = n1) : pv ≤ 32 := by
  first | assumption | omega
theorem lf_X9_value_11 (t : Nat → Nat) (un : Nat) (k1 : Nat) (rf : Int32) (p1 : Nat) (fs : Nat → Int32) (fk : Nat → Int32) (fa3 : Nat → Int32) (fa4 : Nat → Int32) (fa5 : Nat → Int32) (fl : Nat → Int32) (b1 : Nat) (n1 : Int32) (n2 : Int32) (n3 : Int32) (hp : p1 ≤ 32) (hst : ∀ j, j < 200 → 0 ≤ fs j) (hun : un ≤ 200) (hk1 : k1 ≤ 14) (j : Nat) (y3_t2 : Nat → Int32) (rv : Int32) (pv : Nat) (k3 : Nat) (hj3 : j ≤ k1) (hk3 : k1 < j + (k3 + 1)) (hpv : pv ≤ 32) (c_1 : ¬ nI k1 ≤ nI j) (n_5 : j < k1) (x_8 : Int32) (c_9 : x_8 = n1) : vp_in (nI j) 14 := by
  first | exact vp_in_nI (by omega) (by decide) | (unfold vp_in; decide)
theorem lf_X9_value_13 (t : Nat → Nat) (un : Nat) (k1 : Nat) (rf : Int32) (p1 : Nat) (fs : Nat → Int32) (fk : Nat → Int32) (fa3 : Nat → Int32) (fa4 : Nat → Int32) (fa5 : Nat → Int32) (fl : Nat → Int32) (b1 : Nat) (n1 : Int32) (n2 : Int32) (n3 : Int32) (hp : p1 ≤ 32) (hst : ∀ j, j < 200 → 0 ≤ fs j) (hun : un ≤ 200) (hk1 : k1 ≤ 14) (j : Nat) (y3_t2 : Nat → Int32) (rv : Int32) (pv : Nat) (k3 : Nat) (hj3 : j ≤ k1) (hk3 : k1 < j + (k3 + 1)) (hpv : pv ≤ 32) (c_1 : ¬ nI k1 ≤ nI j) (n_5 : j < k1) (x_8 : Int32) (c_9 : x_8 = n1) (x_12 : Int32) : pv ≤ 32 := by
  first | assumption | omega | decide
theorem lf_X9_value_14 (t : Nat → Nat) (un : Nat) (k1 : Nat) (rf : Int32) (p1 : Nat) (fs : Nat → Int32) (fk : Nat → Int32) (fa3 : Nat → Int32) (fa4 : Nat → Int32) (fa5 : Nat → Int32) (fl : Nat → Int32) (b1 : Nat) (n1 : Int32) (n2 : Int32) (n3 : Int32) (hp : p1 ≤ 32) (hst : ∀ j, j < 200 → 0 ≤ fs j) (hun : un ≤ 200) (hk1 : k1 ≤ 14) (j : Nat) (y3_t2 : Nat → Int32) (rv : Int32) (pv : Nat) (k3 : Nat) (hj3 : j ≤ k1) (hk3 : k1 < j + (k3 + 1)) (hpv : pv ≤ 32) (c_1 : ¬ nI k1 ≤ nI j) (n_5 : j < k1) (x_8 : Int32) (c_9 : x_8 = n1) (x_12 : Int32) : ∀ j, j < 200 → 0 ≤ fs j := by
  first | assumption | omega | decide
theorem lf_X9_value_15 (t : Nat → Nat) (un : Nat) (k1 : Nat) (rf : Int32) (p1 : Nat) (fs : Nat → Int32) (fk : Nat → Int32) (fa3 : Nat → Int32) (fa4 : Nat → Int32) (fa5 : Nat → Int32) (fl : Nat → Int32) (b1 : Nat) (n1 : Int32) (n2 : Int32) (n3 : Int32) (hp : p1 ≤ 32) (hst : ∀ j, j < 200 → 0 ≤ fs j) (hun : un ≤ 200) (hk1 : k1 ≤ 14) (j : Nat) (y3_t2 : Nat → Int32) (rv : Int32) (pv : Nat) (k3 : Nat) (hj3 : j ≤ k1) (hk3 : k1 < j + (k3 + 1)) (hpv : pv ≤ 32) (c_1 : ¬ nI k1 ≤ nI j) (n_5 : j < k1) (x_8 : Int32) (c_9 : x_8 = n1) (x_12 : Int32) : un ≤ 200 := by
  first | assumption | omega | decide
theorem lf_X9_value_19 (t : Nat → Nat) (un : Nat) (k1 : Nat) (rf : Int32) (p1 : Nat) (fs : Nat → Int32) (fk : Nat → Int32) (fa3 : Nat → Int32) (fa4 : Nat → Int32) (fa5 : Nat → Int32) (fl : Nat → Int32) (b1 : Nat) (n1 : Int32) (n2 : Int32) (n3 : Int32) (hp : p1 ≤ 32) (hst : ∀ j, j < 200 → 0 ≤ fs j) (hun : un ≤ 200) (hk1 : k1 ≤ 14) (j : Nat) (y3_t2 : Nat → Int32) (rv : Int32) (pv : Nat) (k3 : Nat) (hj3 : j ≤ k1) (hk3 : k1 < j + (k3 + 1)) (hpv : pv ≤ 32) (c_1 : ¬ nI k1 ≤ nI j) (n_5 : j < k1) (x_8 : Int32) (c_9 : x_8 = n1) (x_12 : Int32) (pa_17 : Nat) (ra_17 : Int32) (fa_17 : Nat → Int32) (hz_17 : pa_17 ≤ 32) (r_16 : Int32) (wr_16 : True) (c_18 : r_16 = 0) : pa_17 ≤ 32 := by
  first | assumption | omega
theorem lf_X9_value_20 (t : Nat → Nat) (un : Nat) (k1 : Nat) (rf : Int32) (p1 : Nat) (fs : Nat → Int32) (fk : Nat → Int32) (fa3 : Nat → Int32) (fa4 : Nat → Int32) (fa5 : Nat → Int32) (fl : Nat → Int32) (b1 : Nat) (n1 : Int32) (n2 : Int32) (n3 : Int32) (hp : p1 ≤ 32) (hst : ∀ j, j < 200 → 0 ≤ fs j) (hun : un ≤ 200) (hk1 : k1 ≤ 14) (j : Nat) (y3_t2 : Nat → Int32) (rv : Int32) (pv : Nat) (k3 : Nat) (hj3 : j ≤ k1) (hk3 : k1 < j + (k3 + 1)) (hpv : pv ≤ 32) (c_1 : ¬ nI k1 ≤ nI j) (n_5 : j < k1) (x_8 : Int32) (c_9 : x_8 = n1) (x_12 : Int32) (pa_17 : Nat) (ra_17 : Int32) (fa_17 : Nat → Int32) (hz_17 : pa_17 ≤ 32) (r_16 : Int32) (wr_16 : True) (c_18 : ¬ r_16 = 0) : vp_in (nI j) 14 := by
  first | exact vp_in_nI (by omega) (by decide) | (unfold vp_in; decide)
theorem lf_X9_value_22 (t : Nat → Nat) (un : Nat) (k1 : Nat) (rf : Int32) (p1 : Nat) (fs : Nat → Int32) (fk : Nat → Int32) (fa3 : Nat → Int32) (fa4 : Nat → Int32) (fa5 : Nat → Int32) (fl : Nat → Int32) (b1 : Nat) (n1 : Int32) (n2 : Int32) (n3 : Int32) (hp : p1 ≤ 32) (hst : ∀ j, j < 200 → 0 ≤ fs j) (hun : un ≤ 200) (hk1 : k1 ≤ 14) (j : Nat) (y3_t2 : Nat → Int32) (rv : Int32) (pv : Nat) (k3 : Nat) (hj3 : j ≤ k1) (hk3 : k1 < j + (k3 + 1)) (hpv : pv ≤ 32) (c_1 : ¬ nI k1 ≤ nI j) (n_5 : j < k1) (x_8 : Int32) (c_9 : x_8 = n1) (x_12 : Int32) (pa_17 : Nat) (ra_17 : Int32) (fa_17 : Nat → Int32) (hz_17 : pa_17 ≤ 32) (r_16 : Int32) (wr_16 : True) (c_18 : ¬ r_16 = 0) (x_21 : Int32) : pa_17 ≤ 32 := by
  first | assumption | omega | decide
theorem lf_X9_value_23 (t : Nat → Nat) (un : Nat) (k1 : Nat) (rf : Int32) (p1 : Nat) (fs : Nat → Int32) (fk : Nat → Int32) (fa3 : Nat → Int32) (fa4 : Nat → Int32) (fa5 : Nat → Int32) (fl : Nat → Int32) (b1 : Nat) (n1 : Int32) (n2 : Int32) (n3 : Int32) (hp : p1 ≤ 32) (hst : ∀ j, j < 200 → 0 ≤ fs j) (hun : un ≤ 200) (hk1 : k1 ≤ 14) (j : Nat) (y3_t2 : Nat → Int32) (rv : Int32) (pv : Nat) (k3 : Nat) (hj3 : j ≤ k1) (hk3 : k1 < j + (k3 + 1)) (hpv : pv ≤ 32) (c_1 : ¬ nI k1 ≤ nI j) (n_5 : j < k1) (x_8 : Int32) (c_9 : x_8 = n1) (x_12 : Int32) (pa_17 : Nat) (ra_17 : Int32) (fa_17 : Nat → Int32) (hz_17 : pa_17 ≤ 32) (r_16 : Int32) (wr_16 : True) (c_18 : ¬ r_16 = 0) (x_21 : Int32) : ∀ j, j < 200 → 0 ≤ fs j := by
  first | assumption | omega | decide
theorem lf_X9_value_24 (t : Nat → Nat) (un : Nat) (k1 : Nat) (rf : Int32) (p1 : Nat) (fs : Nat → Int32) (fk : Nat → Int32) (fa3 : Nat → Int32) (fa4 : Nat → Int32) (fa5 : Nat → Int32) (fl : Nat → Int32) (b1 : Nat) (n1 : Int32) (n2 : Int32) (n3 : Int32) (hp : p1 ≤ 32) (hst : ∀ j, j < 200 → 0 ≤ fs j) (hun : un ≤ 200) (hk1 : k1 ≤ 14) (j : Nat) (y3_t2 : Nat → Int32) (rv : Int32) (pv : Nat) (k3 : Nat) (hj3 : j ≤ k1) (hk3 : k1 < j + (k3 + 1)) (hpv : pv ≤ 32) (c_1 : ¬ nI k1 ≤ nI j) (n_5 : j < k1) (x_8 : Int32) (c_9 : x_8 = n1) (x_12 : Int32) (pa_17 : Nat) (ra_17 : Int32) (fa_17 : Nat → Int32) (hz_17 : pa_17 ≤ 32) (r_16 : Int32) (wr_16 : True) (c_18 : ¬ r_16 = 0) (x_21 : Int32) : un ≤ 200 := by
  first | assumption | omega | decide
theorem lf_X9_value_28 (t : Nat → Nat) (un : Nat) (k1 : Nat) (rf : Int32) (p1 : Nat) (fs : Nat → Int32) (fk : Nat → Int32) (fa3 : Nat → Int32) (fa4 : Nat → Int32) (fa5 : Nat → Int32) (fl : Nat → Int32) (b1 : Nat) (n1 : Int32) (n2 : Int32) (n3 : Int32) (hp : p1 ≤ 32) (hst : ∀ j, j < 200 → 0 ≤ fs j) (hun : un ≤ 200) (hk1 : k1 ≤ 14) (j : Nat) (y3_t2 : Nat → Int32) (rv : Int32) (pv : Nat) (k3 : Nat) (hj3 : j ≤ k1) (hk3 : k1 < j + (k3 + 1)) (hpv : pv ≤ 32) (c_1 : ¬ nI k1 ≤ nI j) (n_5 : j < k1) (x_8 : Int32) (c_9 : x_8 = n1) (x_12 : Int32) (pa_17 : Nat) (ra_17 : Int32) (fa_17 : Nat → Int32) (hz_17 : pa_17 ≤ 32) (r_16 : Int32) (wr_16 : True) (c_18 : ¬ r_16 = 0) (x_21 : Int32) (pa_26 : Nat) (ra_26 : Int32) (fa_26 : Nat → Int32) (hz_26 : pa_26 ≤ 32) (r_25 : Int32) (wr_25 : True) (r_27 : Int32) (wr_27 : True) : pa_26 ≤ 32 := by
  omega
theorem lf_X9_value_29 (t : Nat → Nat) (un : Nat) (k1 : Nat) (rf : Int32) (p1 : Nat) (fs : Nat → Int32) (fk : Nat → Int32) (fa3 : Nat → Int32) (fa4 : Nat → Int32) (fa5 : Nat → Int32) (fl : Nat → Int32) (b1 : Nat) (n1 : Int32) (n2 : Int32) (n3 : Int32) (hp : p1 ≤ 32) (hst : ∀ j, j < 200 → 0 ≤ fs j) (hun : un ≤ 200) (hk1 : k1 ≤ 14) : p1 ≤ 32 := by
  first | assumption | omega
set_option maxHeartbeats 4000000 in
set_option maxRecDepth 100000 in
theorem c_X9_value (l : Launch) (D : va_G) (cI cB cZ cJ : ClassId) (tx : List (ClassId × FieldType)) (t : Nat → Nat) (un : Nat) (k1 : Nat) (rf : Int32) (p1 : Nat) (fs : Nat → Int32) (fk : Nat → Int32) (fa3 : Nat → Int32) (fa4 : Nat → Int32) (fa5 : Nat → Int32) (fl : Nat → Int32) (b1 : Nat) (n1 : Int32) (n2 : Int32) (n3 : Int32) (hp : p1 ≤ 32) (hst : ∀ j, j < 200 → 0 ≤ fs j) (hun : un ≤ 200) (hk1 : k1 ≤ 14) : WrI l D cI cB cZ cJ tx yX9_value cX9_value 6 (some .int) 3 0 0 [.ref (t 0), .int n1, .ref b1, .int n2, .int n3] [(t 0, .inr (9, [.ref (t 1), .ref (t 2), .ref (t 3), .ref (t 4), .ref (t 5), .int (nI un), .int (nI k1), .int (nI p1), .int rf])), (t 1, .inl (cI, 200, .inl fs)), (t 2, .inl (cI, 32, .inl fk)), (t 3, .inl (cI, 14, .inl fa3)), (t 4, .inl (cI, 14, .inl fa4)), (t 5, .inl (cI, 14, .inl fa5)), (b1, .inl (cI, 26, .inl fl))] (fun (_ : Int32) (v : Nat × Int32 × (Nat → Int32)) => v.1 ≤ 32) (fun v => [(t 0, .inr (9, [.ref (t 1), .ref (t 2), .ref (t 3), .ref (t 4), .ref (t 5), .int (nI un), .int (nI k1), .int (nI v.1), .int v.2.1])), (t 1, .inl (cI, 200, .inl fs)), (t 2, .inl (cI, 32, .inl v.2.2)), (t 3, .inl (cI, 14, .inl fa3)), (t 4, .inl (cI, 14, .inl fa4)), (t 5, .inl (cI, 14, .inl fa5)), (b1, .inl (cI, 26, .inl fl))]) := by
  refine wri_of2 (by decide) (Nat.le_of_ble_eq_true rfl) ?_
  intro p e s m below meth c A ls H locs hC hK hP hD hA hS hl
  obtain ⟨hx, hb, hr, hml, hown, hts, hlocks, hin⟩ := hC
  have hown : s.vm.findClass RX9 = some m.cls := hown
  have hl : lv_has ls 6 [(0, .ref (t 0)), (1, .int n1), (2, .ref b1), (3, .int n2), (4, .int n3)] := hl
  refine lv_iconst (v := 0) hx hb dX9_value_0 (by decide) ?_
  refine lv_istore (lv' := [(5, .int 0), (0, .ref (t 0)), (1, .int n1), (2, .ref b1), (3, .int n2), (4, .int n3)]) hx hb dX9_value_1 hl (by decide) rfl (fun ls hl => ?_)
  have lp3 : ∀ (k3 : Nat) (j : Nat) (y3_t2 : Nat → Int32) (rv : Int32) (pv : Nat) (H : Heap) (locs : List Loc) (ls : Array Slot), j ≤ k1 → k1 < j + k3 → (pv ≤ 32) → va_P D vwCl [(t 0, .inr (9, [.ref (t 1), .ref (t 2), .ref (t 3), .ref (t 4), .ref (t 5), .int (nI un), .int (nI k1), .int (nI pv), .int rv])), (t 1, .inl (cI, 200, .inl fs)), (t 2, .inl (cI, 32, .inl y3_t2)), (t 3, .inl (cI, 14, .inl fa3)), (t 4, .inl (cI, 14, .inl fa4)), (t 5, .inl (cI, 14, .inl fa5)), (b1, .inl (cI, 26, .inl fl))] H → va_D A [(t 0, .inr (9, [.ref (t 1), .ref (t 2), .ref (t 3), .ref (t 4), .ref (t 5), .int (nI un), .int (nI k1), .int (nI pv), .int rv])), (t 1, .inl (cI, 200, .inl fs)), (t 2, .inl (cI, 32, .inl y3_t2)), (t 3, .inl (cI, 14, .inl fa3)), (t 4, .inl (cI, 14, .inl fa4)), (t 5, .inl (cI, 14, .inl fa5)), (b1, .inl (cI, 26, .inl fl))] → va_S A s.heap H locs → lv_has ls 6 [(5, .int (nI j)), (0, .ref (t 0)), (1, .int n1), (2, .ref b1), (3, .int n2), (4, .int n3)] → W p l e (rmX 3 0 0) s m ([.ref (t 0), .int n1, .ref b1, .int n2, .int n3] : List Value).toArray below meth c H locs 0 0 (MQ below (va_Qi (fun (_ : Int32) (v : Nat × Int32 × (Nat → Int32)) => v.1 ≤ 32) (fun u => BX D A ((fun v => [(t 0, .inr (9, [.ref (t 1), .ref (t 2), .ref (t 3), .ref (t 4), .ref (t 5), .int (nI un), .int (nI k1), .int (nI v.1), .int v.2.1])), (t 1, .inl (cI, 200, .inl fs)), (t 2, .inl (cI, 32, .inl v.2.2)), (t 3, .inl (cI, 14, .inl fa3)), (t 4, .inl (cI, 14, .inl fa4)), (t 5, .inl (cI, 14, .inl fa5)), (b1, .inl (cI, 26, .inl fl))]) u)) A) ([.ref (t 0), .int n1, .ref b1, .int n2, .int n3] : List Value).toArray s 0 0 A) (F0 m 3 ls []) := by
    intro k3
    induction k3 with
    | zero =>
      intro j y3_t2 rv pv H locs ls hj3 hk3 hpv hP hD hS hl
      exact absurd hk3 (by omega)
    | succ k3 ih3 =>
      intro j y3_t2 rv pv H locs ls hj3 hk3 hpv hP hD hS hl
      refine lv_iload hx hb dX9_value_3 (lv_at hl 0 rfl) ?_
      refine lv_aload_n hx hb dX9_value_5 rfl (lv_at hl 1 rfl) ?_
      refine va_get (D := D) (ci := 9) (v := .int (nI k1)) (C := RX9) (T := TX9) (N := 9) hx hb hts inT_X9 hown hK.1 hP 0 rfl rfl 6 (by decide) (hts _ k_200) (fun _ h9 => h9) rfl dX9_value_6 ?_
      refine lv_icmp_ge (tgt := 63) hx hb dX9_value_9 (by decide) (fun c_1 => ?_) (fun c_1 => ?_)
      · have n_2 : k1 ≤ j := (lf_X9_value_3 t un k1 rf p1 fs fk fa3 fa4 fa5 fl b1 n1 n2 n3 hp hst hun hk1 j y3_t2 rv pv k3 hj3 hk3 hpv c_1)
        refine lv_iconst (v := 0) hx hb dX9_value_63 (by decide) ?_
        have hP := hP.sub (ws' := [(t 0, .inr (9, [.ref (t 1), .ref (t 2), .ref (t 3), .ref (t 4), .ref (t 5), .int (nI un), .int (nI k1), .int (nI pv), .int rv])), (t 1, .inl (cI, 200, .inl fs)), (t 2, .inl (cI, 32, .inl y3_t2)), (t 3, .inl (cI, 14, .inl fa3)), (t 4, .inl (cI, 14, .inl fa4)), (t 5, .inl (cI, 14, .inl fa5)), (b1, .inl (cI, 26, .inl fl))]) [0, 1, 2, 3, 4, 5, 6] rfl
        have hD := hD.sub (ws' := [(t 0, .inr (9, [.ref (t 1), .ref (t 2), .ref (t 3), .ref (t 4), .ref (t 5), .int (nI un), .int (nI k1), .int (nI pv), .int rv])), (t 1, .inl (cI, 200, .inl fs)), (t 2, .inl (cI, 32, .inl y3_t2)), (t 3, .inl (cI, 14, .inl fa3)), (t 4, .inl (cI, 14, .inl fa4)), (t 5, .inl (cI, 14, .inl fa5)), (b1, .inl (cI, 26, .inl fl))]) [0, 1, 2, 3, 4, 5, 6] (by decide) rfl
        exact W.iret (v := 0) hx hb hr (fun t ht hW => ⟨⟨(0 : Int32), (pv, (rv : Int32), y3_t2), rfl, (lf_X9_value_4 t un k1 rf p1 fs fk fa3 fa4 fa5 fl b1 n1 n2 n3 hp hst hun hk1 j y3_t2 rv pv k3 hj3 hk3 hpv c_1 n_2), ⟨by rw [ht]; exact hP, hD⟩⟩, hS.F ht⟩) hS.2.2 dX9_value_64 hlocks
      · have n_5 : j < k1 := (lf_X9_value_6 t un k1 rf p1 fs fk fa3 fa4 fa5 fl b1 n1 n2 n3 hp hst hun hk1 j y3_t2 rv pv k3 hj3 hk3 hpv c_1)
        refine lv_aload_n hx hb dX9_value_12 rfl (lv_at hl 1 rfl) ?_
        refine va_get (D := D) (ci := 9) (v := .ref (t 3)) (C := RX9) (T := TX9) (N := 9) hx hb hts inT_X9 hown hK.1 hP 0 rfl rfl 2 (by decide) (hts _ k_196) (fun _ h9 => h9) rfl dX9_value_13 ?_
        refine lv_iload hx hb dX9_value_16 (lv_at hl 0 rfl) ?_
        refine ld_i hx hb hK hP 3 rfl (lf_X9_value_7 t un k1 rf p1 fs fk fa3 fa4 fa5 fl b1 n1 n2 n3 hp hst hun hk1 j y3_t2 rv pv k3 hj3 hk3 hpv c_1 n_5) dX9_value_18 (fun x_8 => ?_)
        refine lv_iload_n hx hb dX9_value_19 rfl (lv_at hl 2 rfl) ?_
        refine lv_icmp_ne (tgt := 57) hx hb dX9_value_20 (by decide) (fun c_9 => ?_) (fun c_9 => ?_)
        · refine lv_iinc (v := nI (j + 1)) (lv' := [(5, .int (nI (j + 1))), (0, .ref (t 0)), (1, .int n1), (2, .ref b1), (3, .int n2), (4, .int n3)]) hx hb dX9_value_57 hl (k := 0) rfl (nI_1 j) (by decide) rfl (fun ls hl => ?_)
          refine lv_goto (tgt := 3) hx hb dX9_value_60 (by decide) ?_
          exact ih3 (j + 1) y3_t2 rv pv H locs ls (by omega) (by omega) (lf_X9_value_10 t un k1 rf p1 fs fk fa3 fa4 fa5 fl b1 n1 n2 n3 hp hst hun hk1 j y3_t2 rv pv k3 hj3 hk3 hpv c_1 n_5 x_8 c_9) (hP.sub [0, 1, 2, 3, 4, 5, 6] rfl) (hD.sub [0, 1, 2, 3, 4, 5, 6] (by decide) rfl) hS (lv_sub hl [0, 1, 2, 3, 4, 5] rfl)
        · refine lv_aload_n hx hb dX9_value_23 rfl (lv_at hl 1 rfl) ?_
          refine lv_aload_n hx hb dX9_value_24 rfl (lv_at hl 1 rfl) ?_
          refine va_get (D := D) (ci := 9) (v := .ref (t 5)) (C := RX9) (T := TX9) (N := 9) hx hb hts inT_X9 hown hK.1 hP 0 rfl rfl 4 (by decide) (hts _ k_198) (fun _ h9 => h9) rfl dX9_value_25 ?_
          refine lv_iload hx hb dX9_value_28 (lv_at hl 0 rfl) ?_
          refine ld_i hx hb hK hP 5 rfl (lf_X9_value_11 t un k1 rf p1 fs fk fa3 fa4 fa5 fl b1 n1 n2 n3 hp hst hun hk1 j y3_t2 rv pv k3 hj3 hk3 hpv c_1 n_5 x_8 c_9) dX9_value_30 (fun x_12 => ?_)
          refine lv_aload_n hx hb dX9_value_31 rfl (lv_at hl 3 rfl) ?_
          refine eWi (wr := [(t 3, .inl (cI, 14, .inl fa3)), (t 4, .inl (cI, 14, .inl fa4)), (t 5, .inl (cI, 14, .inl fa5))]) (va_runV (As := [.int x_12, .ref b1]) (rest := []) ⟨hx, hb, hml, hown, hts⟩ (c_X9_run l D cI cB cZ cJ tx t un (nI k1) rv pv fs y3_t2 fl b1 x_12 (lf_X9_value_13 t un k1 rf p1 fs fk fa3 fa4 fa5 fl b1 n1 n2 n3 hp hst hun hk1 j y3_t2 rv pv k3 hj3 hk3 hpv c_1 n_5 x_8 c_9 x_12) (lf_X9_value_14 t un k1 rf p1 fs fk fa3 fa4 fa5 fl b1 n1 n2 n3 hp hst hun hk1 j y3_t2 rv pv k3 hj3 hk3 hpv c_1 n_5 x_8 c_9 x_12) (lf_X9_value_15 t un k1 rf p1 fs fk fa3 fa4 fa5 fl b1 n1 n2 n3 hp hst hun hk1 j y3_t2 rv pv k3 hj3 hk3 hpv c_1 n_5 x_8 c_9 x_12) H.size) (zV hts k_787 v_X9_run ⟨Nat.le_of_ble_eq_true rfl, Nat.le_of_ble_eq_true rfl⟩) (pV (pxS hK hP hD [0, 1, 2, 6] (by decide) rfl) hK hP 0 rfl rfl) rfl rfl hl.1 rfl (lv_room (Nat.le_of_ble_eq_true rfl)) dX9_value_32 ⟨Nat.le_of_ble_eq_true rfl, Nat.le_of_ble_eq_true rfl⟩) hP hD hS hA [0, 1, 2, 6] [3, 4, 5] rfl rfl (by decide) (by decide) (fun r_16 u_17 H locs wr_16 hP hD hS => ?_)
          obtain ⟨pa_17, ra_17, fa_17⟩ := u_17
          have hz_17 : pa_17 ≤ 32 := wr_16
          have hP : va_P D vwCl [(t 3, .inl (cI, 14, .inl fa3)), (t 4, .inl (cI, 14, .inl fa4)), (t 5, .inl (cI, 14, .inl fa5)), (t 0, .inr (9, [.ref (t 1), .ref (t 2), .ref (t 3), .ref (t 4), .ref (t 5), .int (nI un), .int (nI k1), .int (nI pa_17), .int ra_17])), (t 1, .inl (cI, 200, .inl fs)), (t 2, .inl (cI, 32, .inl fa_17)), (b1, .inl (cI, 26, .inl fl))] H := hP
          have hD : va_D A [(t 3, .inl (cI, 14, .inl fa3)), (t 4, .inl (cI, 14, .inl fa4)), (t 5, .inl (cI, 14, .inl fa5)), (t 0, .inr (9, [.ref (t 1), .ref (t 2), .ref (t 3), .ref (t 4), .ref (t 5), .int (nI un), .int (nI k1), .int (nI pa_17), .int ra_17])), (t 1, .inl (cI, 200, .inl fs)), (t 2, .inl (cI, 32, .inl fa_17)), (b1, .inl (cI, 26, .inl fl))] := hD
          refine lv_if_eq (tgt := 57) hx hb dX9_value_35 (by decide) (fun c_18 => ?_) (fun c_18 => ?_)
          · refine lv_iinc (v := nI (j + 1)) (lv' := [(5, .int (nI (j + 1))), (0, .ref (t 0)), (1, .int n1), (2, .ref b1), (3, .int n2), (4, .int n3)]) hx hb dX9_value_57 hl (k := 0) rfl (nI_1 j) (by decide) rfl (fun ls hl => ?_)
            refine lv_goto (tgt := 3) hx hb dX9_value_60 (by decide) ?_
            exact ih3 (j + 1) fa_17 ra_17 pa_17 H locs ls (by omega) (by omega) (lf_X9_value_19 t un k1 rf p1 fs fk fa3 fa4 fa5 fl b1 n1 n2 n3 hp hst hun hk1 j y3_t2 rv pv k3 hj3 hk3 hpv c_1 n_5 x_8 c_9 x_12 pa_17 ra_17 fa_17 hz_17 r_16 wr_16 c_18) (hP.sub [3, 4, 5, 0, 1, 2, 6] rfl) (hD.sub [3, 4, 5, 0, 1, 2, 6] (by decide) rfl) hS (lv_sub hl [0, 1, 2, 3, 4, 5] rfl)
          · refine lv_aload_n hx hb dX9_value_38 rfl (lv_at hl 1 rfl) ?_
            refine lv_aload_n hx hb dX9_value_39 rfl (lv_at hl 1 rfl) ?_
            refine va_get (D := D) (ci := 9) (v := .ref (t 4)) (C := RX9) (T := TX9) (N := 9) hx hb hts inT_X9 hown hK.1 hP 3 rfl rfl 3 (by decide) (hts _ k_197) (fun _ h9 => h9) rfl dX9_value_40 ?_
            refine lv_iload hx hb dX9_value_43 (lv_at hl 0 rfl) ?_
            refine ld_i hx hb hK hP 1 rfl (lf_X9_value_20 t un k1 rf p1 fs fk fa3 fa4 fa5 fl b1 n1 n2 n3 hp hst hun hk1 j y3_t2 rv pv k3 hj3 hk3 hpv c_1 n_5 x_8 c_9 x_12 pa_17 ra_17 fa_17 hz_17 r_16 wr_16 c_18) dX9_value_45 (fun x_21 => ?_)
            refine lv_aload_n hx hb dX9_value_46 rfl (lv_at hl 3 rfl) ?_
            refine eWi (wr := [(t 3, .inl (cI, 14, .inl fa3)), (t 4, .inl (cI, 14, .inl fa4)), (t 5, .inl (cI, 14, .inl fa5))]) (va_runV (As := [.int x_21, .ref b1]) (rest := []) ⟨hx, hb, hml, hown, hts⟩ (c_X9_run l D cI cB cZ cJ tx t un (nI k1) ra_17 pa_17 fs fa_17 fl b1 x_21 (lf_X9_value_22 t un k1 rf p1 fs fk fa3 fa4 fa5 fl b1 n1 n2 n3 hp hst hun hk1 j y3_t2 rv pv k3 hj3 hk3 hpv c_1 n_5 x_8 c_9 x_12 pa_17 ra_17 fa_17 hz_17 r_16 wr_16 c_18 x_21) (lf_X9_value_23 t un k1 rf p1 fs fk fa3 fa4 fa5 fl b1 n1 n2 n3 hp hst hun hk1 j y3_t2 rv pv k3 hj3 hk3 hpv c_1 n_5 x_8 c_9 x_12 pa_17 ra_17 fa_17 hz_17 r_16 wr_16 c_18 x_21) (lf_X9_value_24 t un k1 rf p1 fs fk fa3 fa4 fa5 fl b1 n1 n2 n3 hp hst hun hk1 j y3_t2 rv pv k3 hj3 hk3 hpv c_1 n_5 x_8 c_9 x_12 pa_17 ra_17 fa_17 hz_17 r_16 wr_16 c_18 x_21) H.size) (zV hts k_787 v_X9_run ⟨Nat.le_of_ble_eq_true rfl, Nat.le_of_ble_eq_true rfl⟩) (pV (pxS hK hP hD [3, 4, 5, 6] (by decide) rfl) hK hP 3 rfl rfl) rfl rfl hl.1 rfl (lv_room (Nat.le_of_ble_eq_true rfl)) dX9_value_47 ⟨Nat.le_of_ble_eq_true rfl, Nat.le_of_ble_eq_true rfl⟩) hP hD hS hA [3, 4, 5, 6] [0, 1, 2] rfl rfl (by decide) (by decide) (fun r_25 u_26 H locs wr_25 hP hD hS => ?_)
            obtain ⟨pa_26, ra_26, fa_26⟩ := u_26
            have hz_26 : pa_26 ≤ 32 := wr_25
            have hP : va_P D vwCl [(t 3, .inl (cI, 14, .inl fa3)), (t 4, .inl (cI, 14, .inl fa4)), (t 5, .inl (cI, 14, .inl fa5)), (t 0, .inr (9, [.ref (t 1), .ref (t 2), .ref (t 3), .ref (t 4), .ref (t 5), .int (nI un), .int (nI k1), .int (nI pa_26), .int ra_26])), (t 1, .inl (cI, 200, .inl fs)), (t 2, .inl (cI, 32, .inl fa_26)), (b1, .inl (cI, 26, .inl fl))] H := hP
            have hD : va_D A [(t 3, .inl (cI, 14, .inl fa3)), (t 4, .inl (cI, 14, .inl fa4)), (t 5, .inl (cI, 14, .inl fa5)), (t 0, .inr (9, [.ref (t 1), .ref (t 2), .ref (t 3), .ref (t 4), .ref (t 5), .int (nI un), .int (nI k1), .int (nI pa_26), .int ra_26])), (t 1, .inl (cI, 200, .inl fs)), (t 2, .inl (cI, 32, .inl fa_26)), (b1, .inl (cI, 26, .inl fl))] := hD
            refine lv_iload_n hx hb dX9_value_50 rfl (lv_at hl 4 rfl) ?_
            refine lv_iload hx hb dX9_value_51 (lv_at hl 5 rfl) ?_
            refine eRi (va_runSN (As := [.int r_25, .int n2, .int n3]) (rest := []) ⟨hx, hb, hml, hown, hts⟩ (c_X11_held l D cI cB cZ cJ tx r_25 n2 n3 H.size) (zSN hts hK n_807 v_X11_held ⟨Nat.le_of_ble_eq_true rfl, Nat.le_of_ble_eq_true rfl⟩) (px0 hK) rfl rfl hl.1 rfl (lv_room (Nat.le_of_ble_eq_true rfl)) dX9_value_53 ⟨Nat.le_of_ble_eq_true rfl, Nat.le_of_ble_eq_true rfl⟩) hP hS hA (fun r_27 H locs wr_27 hP hS => ?_)
            have hP := hP.sub (ws' := [(t 0, .inr (9, [.ref (t 1), .ref (t 2), .ref (t 3), .ref (t 4), .ref (t 5), .int (nI un), .int (nI k1), .int (nI pa_26), .int ra_26])), (t 1, .inl (cI, 200, .inl fs)), (t 2, .inl (cI, 32, .inl fa_26)), (t 3, .inl (cI, 14, .inl fa3)), (t 4, .inl (cI, 14, .inl fa4)), (t 5, .inl (cI, 14, .inl fa5)), (b1, .inl (cI, 26, .inl fl))]) [3, 4, 5, 0, 1, 2, 6] rfl
            have hD := hD.sub (ws' := [(t 0, .inr (9, [.ref (t 1), .ref (t 2), .ref (t 3), .ref (t 4), .ref (t 5), .int (nI un), .int (nI k1), .int (nI pa_26), .int ra_26])), (t 1, .inl (cI, 200, .inl fs)), (t 2, .inl (cI, 32, .inl fa_26)), (t 3, .inl (cI, 14, .inl fa3)), (t 4, .inl (cI, 14, .inl fa4)), (t 5, .inl (cI, 14, .inl fa5)), (b1, .inl (cI, 26, .inl fl))]) [3, 4, 5, 0, 1, 2, 6] (by decide) rfl
            exact W.iret (v := r_27) hx hb hr (fun t ht hW => ⟨⟨(r_27 : Int32), (pa_26, (ra_26 : Int32), fa_26), rfl, (lf_X9_value_28 t un k1 rf p1 fs fk fa3 fa4 fa5 fl b1 n1 n2 n3 hp hst hun hk1 j y3_t2 rv pv k3 hj3 hk3 hpv c_1 n_5 x_8 c_9 x_12 pa_17 ra_17 fa_17 hz_17 r_16 wr_16 c_18 x_21 pa_26 ra_26 fa_26 hz_26 r_25 wr_25 r_27 wr_27), ⟨by rw [ht]; exact hP, hD⟩⟩, hS.F ht⟩) hS.2.2 dX9_value_56 hlocks
  exact lp3 (k1 + 1) 0 fk rf p1 H locs ls (by omega) (by omega) (lf_X9_value_29 t un k1 rf p1 fs fk fa3 fa4 fa5 fl b1 n1 n2 n3 hp hst hun hk1) (hP.sub [0, 1, 2, 3, 4, 5, 6] rfl) (hD.sub [0, 1, 2, 3, 4, 5, 6] (by decide) rfl) hS (lv_sub hl [0, 1, 2, 3, 4, 5] rfl)
