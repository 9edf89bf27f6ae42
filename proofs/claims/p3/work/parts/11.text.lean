theorem lf_X9_push_3 (t : Nat → Nat) (u : Int32) (cl : Int32) (rf : Int32) (p1 : Nat) (fk : Nat → Int32) (n1 : Int32) (hp : p1 ≤ 32) (c_1 : 32 ≤ nI p1) : 32 ≤ p1 := by
  exact (nI_leI (a := 32) (b := p1) (by omega) (by omega)).mp c_1
theorem lf_X9_push_4 (t : Nat → Nat) (u : Int32) (cl : Int32) (rf : Int32) (p1 : Nat) (fk : Nat → Int32) (n1 : Int32) (hp : p1 ≤ 32) (c_1 : 32 ≤ nI p1) (n_2 : 32 ≤ p1) : p1 ≤ 32 := by
  omega
theorem lf_X9_push_6 (t : Nat → Nat) (u : Int32) (cl : Int32) (rf : Int32) (p1 : Nat) (fk : Nat → Int32) (n1 : Int32) (hp : p1 ≤ 32) (c_1 : ¬ 32 ≤ nI p1) : p1 < 32 := by
  exact Nat.lt_of_not_le (fun q => c_1 ((nI_leI (a := 32) (b := p1) (by omega) (by omega)).mpr q))
theorem lf_X9_push_8 (t : Nat → Nat) (u : Int32) (cl : Int32) (rf : Int32) (p1 : Nat) (fk : Nat → Int32) (n1 : Int32) (hp : p1 ≤ 32) (c_1 : ¬ 32 ≤ nI p1) (n_5 : p1 < 32) : vp_in (nI p1) 32 := by
  first | exact vp_in_nI (by omega) (by decide) | (unfold vp_in; decide)
theorem lf_X9_push_9 (t : Nat → Nat) (u : Int32) (cl : Int32) (rf : Int32) (p1 : Nat) (fk : Nat → Int32) (n1 : Int32) (hp : p1 ≤ 32) (c_1 : ¬ 32 ≤ nI p1) (n_5 : p1 < 32) (f_7 : Nat → Int32) : (p1 + 1) ≤ 32 := by
  omega
set_option maxHeartbeats 4000000 in
set_option maxRecDepth 100000 in
theorem c_X9_push (l : Launch) (D : va_G) (cI cB cZ cJ : ClassId) (tx : List (ClassId × FieldType)) (t : Nat → Nat) (u : Int32) (cl : Int32) (rf : Int32) (p1 : Nat) (fk : Nat → Int32) (n1 : Int32) (hp : p1 ≤ 32) : WrV l D cI cB cZ cJ tx yX9_push cX9_push 2 none 0 0 0 [.ref (t 0), .int n1] [(t 0, .inr (9, [.ref (t 1), .ref (t 2), .ref (t 3), .ref (t 4), .ref (t 5), .int u, .int cl, .int (nI p1), .int rf])), (t 2, .inl (cI, 32, .inl fk))] (fun (v : Nat × (Nat → Int32)) => v.1 ≤ 32) (fun v => [(t 0, .inr (9, [.ref (t 1), .ref (t 2), .ref (t 3), .ref (t 4), .ref (t 5), .int u, .int cl, .int (nI v.1), .int rf])), (t 2, .inl (cI, 32, .inl v.2))]) := by
  refine wrv_of2 (by decide) (Nat.le_of_ble_eq_true rfl) ?_
  intro p e s m below meth c A ls H locs hC hK hP hD hA hS hl
  obtain ⟨hx, hb, hr, hml, hown, hts, hlocks, hin⟩ := hC
  have hown : s.vm.findClass RX9 = some m.cls := hown
  have hl : lv_has ls 2 [(0, .ref (t 0)), (1, .int n1)] := hl
  refine lv_aload_n hx hb dX9_push_0 rfl (lv_at hl 0 rfl) ?_
  refine va_get (D := D) (ci := 9) (v := .int (nI p1)) (C := RX9) (T := TX9) (N := 9) hx hb hts inT_X9 hown hK.1 hP 0 rfl rfl 7 (by decide) (hts _ k_203) (fun _ h9 => h9) rfl dX9_push_1 ?_
  refine lv_aload_n hx hb dX9_push_4 rfl (lv_at hl 0 rfl) ?_
  refine va_get (D := D) (ci := 9) (v := .ref (t 2)) (C := RX9) (T := TX9) (N := 9) hx hb hts inT_X9 hown hK.1 hP 0 rfl rfl 1 (by decide) (hts _ k_195) (fun _ h9 => h9) rfl dX9_push_5 ?_
  refine ln_x (v := 32) hx hb hK hP 1 0 rfl rfl (show Int32.ofNat 32 = 32 from by decide) dX9_push_8 ?_
  refine lv_icmp_ge (tgt := 32) hx hb dX9_push_9 (by decide) (fun c_1 => ?_) (fun c_1 => ?_)
  · have n_2 : 32 ≤ p1 := (lf_X9_push_3 t u cl rf p1 fk n1 hp c_1)
    exact W.vret hx hb hr (fun tt9 ht hW => ⟨⟨(p1, fk), rfl, (lf_X9_push_4 t u cl rf p1 fk n1 hp c_1 n_2), ⟨by rw [ht]; exact hP, hD⟩⟩, hS.F ht⟩) hS.2.2 dX9_push_32 hlocks
  · have n_5 : p1 < 32 := (lf_X9_push_6 t u cl rf p1 fk n1 hp c_1)
    refine lv_aload_n hx hb dX9_push_12 rfl (lv_at hl 0 rfl) ?_
    refine va_get (D := D) (ci := 9) (v := .ref (t 2)) (C := RX9) (T := TX9) (N := 9) hx hb hts inT_X9 hown hK.1 hP 0 rfl rfl 1 (by decide) (hts _ k_195) (fun _ h9 => h9) rfl dX9_push_13 ?_
    refine lv_aload_n hx hb dX9_push_16 rfl (lv_at hl 0 rfl) ?_
    refine va_get (D := D) (ci := 9) (v := .int (nI p1)) (C := RX9) (T := TX9) (N := 9) hx hb hts inT_X9 hown hK.1 hP 0 rfl rfl 7 (by decide) (hts _ k_203) (fun _ h9 => h9) rfl dX9_push_17 ?_
    refine lv_iload_n hx hb dX9_push_20 rfl (lv_at hl 1 rfl) ?_
    refine st_i hx hb hK hP hD hS 1 rfl (lf_X9_push_8 t u cl rf p1 fk n1 hp c_1 n_5) dX9_push_21 (fun f_7 H locs hP hD hS => ?_)
    have hP : va_P D vwCl [(t 0, .inr (9, [.ref (t 1), .ref (t 2), .ref (t 3), .ref (t 4), .ref (t 5), .int u, .int cl, .int (nI p1), .int rf])), (t 2, .inl (cI, 32, .inl f_7))] H := hP
    have hD : va_D A [(t 0, .inr (9, [.ref (t 1), .ref (t 2), .ref (t 3), .ref (t 4), .ref (t 5), .int u, .int cl, .int (nI p1), .int rf])), (t 2, .inl (cI, 32, .inl f_7))] := hD
    refine lv_aload_n hx hb dX9_push_22 rfl (lv_at hl 0 rfl) ?_
    refine lv_dup hx hb dX9_push_23 rfl ?_
    refine va_get (D := D) (ci := 9) (v := .int (nI p1)) (C := RX9) (T := TX9) (N := 9) hx hb hts inT_X9 hown hK.1 hP 0 rfl rfl 7 (by decide) (hts _ k_203) (fun _ h9 => h9) rfl dX9_push_24 ?_
    refine lv_iconst (v := 1) hx hb dX9_push_27 (by decide) ?_
    refine lv_iadd hx hb dX9_push_28 ?_
    refine lv_topv (y := nI (p1 + 1)) (nI_add p1 1) ?_
    refine va_put (D := D) (ci := 9) (v := .int (nI (p1 + 1))) (ty := .int) (C := RX9) (T := TX9) (N := 9) hx hb hts inT_X9 tyX9 tyX9_ok nmX9 hown hK.1 hP hD hS 0 rfl rfl 7 (by decide) (hts _ k_203) (fun _ h9 => h9) rfl (by decide +kernel) rfl rfl (Nat.le_of_ble_eq_true rfl) dX9_push_29 (fun H locs hP hD hS => ?_)
    have hP : va_P D vwCl [(t 0, .inr (9, [.ref (t 1), .ref (t 2), .ref (t 3), .ref (t 4), .ref (t 5), .int u, .int cl, .int (nI (p1 + 1)), .int rf])), (t 2, .inl (cI, 32, .inl f_7))] H := hP
    have hD : va_D A [(t 0, .inr (9, [.ref (t 1), .ref (t 2), .ref (t 3), .ref (t 4), .ref (t 5), .int u, .int cl, .int (nI (p1 + 1)), .int rf])), (t 2, .inl (cI, 32, .inl f_7))] := hD
    exact W.vret hx hb hr (fun tt9 ht hW => ⟨⟨((p1 + 1), f_7), rfl, (lf_X9_push_9 t u cl rf p1 fk n1 hp c_1 n_5 f_7), ⟨by rw [ht]; exact hP, hD⟩⟩, hS.F ht⟩) hS.2.2 dX9_push_32 hlocks

theorem lf_X9_pop_3 (t : Nat → Nat) (u : Int32) (cl : Int32) (rf : Int32) (p1 : Nat) (fk : Nat → Int32) (hp : p1 ≤ 32) (c_1 : ¬ nI p1 = 0) : p1 ≠ 0 := by
  exact fun q => c_1 ((nI_eq (a := p1) (b := 0) (by omega) (by omega)).mpr q)
theorem lf_X9_pop_4 (t : Nat → Nat) (u : Int32) (cl : Int32) (rf : Int32) (p1 : Nat) (fk : Nat → Int32) (hp : p1 ≤ 32) (c_1 : ¬ nI p1 = 0) (n_2 : p1 ≠ 0) : 1 ≤ p1 := by
  omega
theorem lf_X9_pop_5 (t : Nat → Nat) (u : Int32) (cl : Int32) (rf : Int32) (p1 : Nat) (fk : Nat → Int32) (hp : p1 ≤ 32) (c_1 : ¬ nI p1 = 0) (n_2 : p1 ≠ 0) : vp_in (nI (p1 - 1)) 32 := by
  first | exact vp_in_nI (by omega) (by decide) | (unfold vp_in; decide)
theorem lf_X9_pop_7 (t : Nat → Nat) (u : Int32) (cl : Int32) (rf : Int32) (p1 : Nat) (fk : Nat → Int32) (hp : p1 ≤ 32) (c_1 : ¬ nI p1 = 0) (n_2 : p1 ≠ 0) (x_6 : Int32) : (p1 - 1) ≤ 32 := by
  omega
theorem lf_X9_pop_9 (t : Nat → Nat) (u : Int32) (cl : Int32) (rf : Int32) (p1 : Nat) (fk : Nat → Int32) (hp : p1 ≤ 32) (c_1 : nI p1 = 0) : p1 = 0 := by
  exact (nI_eq (a := p1) (b := 0) (by omega) (by omega)).mp c_1
theorem lf_X9_pop_10 (t : Nat → Nat) (u : Int32) (cl : Int32) (rf : Int32) (p1 : Nat) (fk : Nat → Int32) (hp : p1 ≤ 32) (c_1 : nI p1 = 0) (n_8 : p1 = 0) : p1 ≤ 32 := by
  omega
set_option maxHeartbeats 4000000 in
set_option maxRecDepth 100000 in
theorem c_X9_pop (l : Launch) (D : va_G) (cI cB cZ cJ : ClassId) (tx : List (ClassId × FieldType)) (t : Nat → Nat) (u : Int32) (cl : Int32) (rf : Int32) (p1 : Nat) (fk : Nat → Int32) (hp : p1 ≤ 32) : WrI l D cI cB cZ cJ tx yX9_pop cX9_pop 1 (some .int) 0 0 0 [.ref (t 0)] [(t 0, .inr (9, [.ref (t 1), .ref (t 2), .ref (t 3), .ref (t 4), .ref (t 5), .int u, .int cl, .int (nI p1), .int rf])), (t 2, .inl (cI, 32, .inl fk))] (fun (_ : Int32) (v : Nat) => v ≤ 32) (fun v => [(t 0, .inr (9, [.ref (t 1), .ref (t 2), .ref (t 3), .ref (t 4), .ref (t 5), .int u, .int cl, .int (nI v), .int rf])), (t 2, .inl (cI, 32, .inl fk))]) := by
  refine wri_of2 (by decide) (Nat.le_of_ble_eq_true rfl) ?_
  intro p e s m below meth c A ls H locs hC hK hP hD hA hS hl
  obtain ⟨hx, hb, hr, hml, hown, hts, hlocks, hin⟩ := hC
  have hown : s.vm.findClass RX9 = some m.cls := hown
  have hl : lv_has ls 1 [(0, .ref (t 0))] := hl
  refine lv_aload_n hx hb dX9_pop_0 rfl (lv_at hl 0 rfl) ?_
  refine va_get (D := D) (ci := 9) (v := .int (nI p1)) (C := RX9) (T := TX9) (N := 9) hx hb hts inT_X9 hown hK.1 hP 0 rfl rfl 7 (by decide) (hts _ k_203) (fun _ h9 => h9) rfl dX9_pop_1 ?_
  refine lv_if_ne (tgt := 9) hx hb dX9_pop_4 (by decide) (fun c_1 => ?_) (fun c_1 => ?_)
  · have n_2 : p1 ≠ 0 := (lf_X9_pop_3 t u cl rf p1 fk hp c_1)
    refine lv_aload_n hx hb dX9_pop_9 rfl (lv_at hl 0 rfl) ?_
    refine lv_dup hx hb dX9_pop_10 rfl ?_
    refine va_get (D := D) (ci := 9) (v := .int (nI p1)) (C := RX9) (T := TX9) (N := 9) hx hb hts inT_X9 hown hK.1 hP 0 rfl rfl 7 (by decide) (hts _ k_203) (fun _ h9 => h9) rfl dX9_pop_11 ?_
    refine lv_iconst (v := 1) hx hb dX9_pop_14 (by decide) ?_
    refine lv_isub hx hb dX9_pop_15 ?_
    refine lv_topv (y := nI (p1 - 1)) (pk_sub (lf_X9_pop_4 t u cl rf p1 fk hp c_1 n_2)) ?_
    refine va_put (D := D) (ci := 9) (v := .int (nI (p1 - 1))) (ty := .int) (C := RX9) (T := TX9) (N := 9) hx hb hts inT_X9 tyX9 tyX9_ok nmX9 hown hK.1 hP hD hS 0 rfl rfl 7 (by decide) (hts _ k_203) (fun _ h9 => h9) rfl (by decide +kernel) rfl rfl (Nat.le_of_ble_eq_true rfl) dX9_pop_16 (fun H locs hP hD hS => ?_)
    have hP : va_P D vwCl [(t 0, .inr (9, [.ref (t 1), .ref (t 2), .ref (t 3), .ref (t 4), .ref (t 5), .int u, .int cl, .int (nI (p1 - 1)), .int rf])), (t 2, .inl (cI, 32, .inl fk))] H := hP
    have hD : va_D A [(t 0, .inr (9, [.ref (t 1), .ref (t 2), .ref (t 3), .ref (t 4), .ref (t 5), .int u, .int cl, .int (nI (p1 - 1)), .int rf])), (t 2, .inl (cI, 32, .inl fk))] := hD
    refine lv_aload_n hx hb dX9_pop_19 rfl (lv_at hl 0 rfl) ?_
    refine va_get (D := D) (ci := 9) (v := .ref (t 2)) (C := RX9) (T := TX9) (N := 9) hx hb hts inT_X9 hown hK.1 hP 0 rfl rfl 1 (by decide) (hts _ k_195) (fun _ h9 => h9) rfl dX9_pop_20 ?_
    refine lv_aload_n hx hb dX9_pop_23 rfl (lv_at hl 0 rfl) ?_
    refine va_get (D := D) (ci := 9) (v := .int (nI (p1 - 1))) (C := RX9) (T := TX9) (N := 9) hx hb hts inT_X9 hown hK.1 hP 0 rfl rfl 7 (by decide) (hts _ k_203) (fun _ h9 => h9) rfl dX9_pop_24 ?_
    refine ld_i hx hb hK hP 1 rfl (lf_X9_pop_5 t u cl rf p1 fk hp c_1 n_2) dX9_pop_27 (fun x_6 => ?_)
    exact W.iret (v := x_6) hx hb hr (fun tt9 ht hW => ⟨⟨(x_6 : Int32), (p1 - 1), rfl, (lf_X9_pop_7 t u cl rf p1 fk hp c_1 n_2 x_6), ⟨by rw [ht]; exact hP, hD⟩⟩, hS.F ht⟩) hS.2.2 dX9_pop_28 hlocks
  · have n_8 : p1 = 0 := (lf_X9_pop_9 t u cl rf p1 fk hp c_1)
    refine lv_iconst (v := 0) hx hb dX9_pop_7 (by decide) ?_
    exact W.iret (v := 0) hx hb hr (fun tt9 ht hW => ⟨⟨(0 : Int32), p1, rfl, (lf_X9_pop_10 t u cl rf p1 fk hp c_1 n_8), ⟨by rw [ht]; exact hP, hD⟩⟩, hS.F ht⟩) hS.2.2 dX9_pop_8 hlocks

theorem lf_X9_reckon_9 (t : Nat → Nat) (u : Int32) (cl : Int32) (tp : Int32) (rf : Int32) (n1 : Int32) (n2 : Int32) (n3 : Int32) (c_1 : ¬ n1 = 3) (c_3 : ¬ n1 = 4) (c_5 : ¬ n1 = 5) (c_7 : n1 = 6) (c_8 : ¬ n3 = 0) : ¬ n3 = 0 := by
  assumption
theorem lf_X9_reckon_13 (t : Nat → Nat) (u : Int32) (cl : Int32) (tp : Int32) (rf : Int32) (n1 : Int32) (n2 : Int32) (n3 : Int32) (c_1 : ¬ n1 = 3) (c_3 : ¬ n1 = 4) (c_5 : ¬ n1 = 5) (c_7 : ¬ n1 = 6) (c_11 : n1 = 7) (c_12 : ¬ n3 = 0) : ¬ n3 = 0 := by
  assumption
theorem lf_X9_reckon_21 (t : Nat → Nat) (u : Int32) (cl : Int32) (tp : Int32) (rf : Int32) (n1 : Int32) (n2 : Int32) (n3 : Int32) (c_1 : ¬ n1 = 3) (c_3 : ¬ n1 = 4) (c_5 : ¬ n1 = 5) (c_7 : ¬ n1 = 6) (c_11 : ¬ n1 = 7) (c_15 : ¬ n1 = 8) (c_17 : ¬ n1 = 9) (c_19 : ¬ n1 = 10) : n1.toInt < 3 ∨ 10 < n1.toInt := by
  have e : ∀ k : Int32, ¬ n1 = k → n1.toInt ≠ k.toInt := fun k h q => h (Int32.toInt_inj.mp q)
  have e3 := e 3 ‹¬ n1 = 3›
  have z3 : (3 : Int32).toInt = 3 := by decide
  have e4 := e 4 ‹¬ n1 = 4›
  have z4 : (4 : Int32).toInt = 4 := by decide
  have e5 := e 5 ‹¬ n1 = 5›
  have z5 : (5 : Int32).toInt = 5 := by decide
  have e6 := e 6 ‹¬ n1 = 6›
  have z6 : (6 : Int32).toInt = 6 := by decide
  have e7 := e 7 ‹¬ n1 = 7›
  have z7 : (7 : Int32).toInt = 7 := by decide
  have e8 := e 8 ‹¬ n1 = 8›
  have z8 : (8 : Int32).toInt = 8 := by decide
  have e9 := e 9 ‹¬ n1 = 9›
  have z9 : (9 : Int32).toInt = 9 := by decide
  have e10 := e 10 ‹¬ n1 = 10›
  have z10 : (10 : Int32).toInt = 10 := by decide
  omega
theorem lf_X9_reckon_24 (t : Nat → Nat) (u : Int32) (cl : Int32) (tp : Int32) (rf : Int32) (n1 : Int32) (n2 : Int32) (n3 : Int32) (c_1 : ¬ n1 = 3) (c_3 : ¬ n1 = 4) (c_5 : ¬ n1 = 5) (c_7 : ¬ n1 = 6) (c_11 : ¬ n1 = 7) (c_15 : ¬ n1 = 8) (c_17 : ¬ n1 = 9) (c_19 : ¬ n1 = 10) (c_22 : ¬ n3 = 0) (c_23 : ¬ n1 = 6) : ¬ n3 = 0 := by
  assumption
theorem lf_X9_reckon_26 (t : Nat → Nat) (u : Int32) (cl : Int32) (tp : Int32) (rf : Int32) (n1 : Int32) (n2 : Int32) (n3 : Int32) (c_1 : ¬ n1 = 3) (c_3 : ¬ n1 = 4) (c_5 : ¬ n1 = 5) (c_7 : ¬ n1 = 6) (c_11 : ¬ n1 = 7) (c_15 : ¬ n1 = 8) (c_17 : ¬ n1 = 9) (c_19 : ¬ n1 = 10) (c_22 : ¬ n3 = 0) (c_23 : n1 = 6) : ¬ n3 = 0 := by
  assumption
set_option maxHeartbeats 4000000 in
set_option maxRecDepth 100000 in
theorem c_X9_reckon (l : Launch) (D : va_G) (cI cB cZ cJ : ClassId) (tx : List (ClassId × FieldType)) (t : Nat → Nat) (u : Int32) (cl : Int32) (tp : Int32) (rf : Int32) (n1 : Int32) (n2 : Int32) (n3 : Int32) : WrI l D cI cB cZ cJ tx yX9_reckon cX9_reckon 4 (some .int) 0 0 0 [.ref (t 0), .int n1, .int n2, .int n3] [(t 0, .inr (9, [.ref (t 1), .ref (t 2), .ref (t 3), .ref (t 4), .ref (t 5), .int u, .int cl, .int tp, .int rf]))] (fun (_ : Int32) (_ : Int32) => True) (fun v => [(t 0, .inr (9, [.ref (t 1), .ref (t 2), .ref (t 3), .ref (t 4), .ref (t 5), .int u, .int cl, .int tp, .int v]))]) := by
  refine wri_of2 (by decide) (Nat.le_of_ble_eq_true rfl) ?_
  intro p e s m below meth c A ls H locs hC hK hP hD hA hS hl
  obtain ⟨hx, hb, hr, hml, hown, hts, hlocks, hin⟩ := hC
  have hown : s.vm.findClass RX9 = some m.cls := hown
  have hl : lv_has ls 4 [(0, .ref (t 0)), (1, .int n1), (2, .int n2), (3, .int n3)] := hl
  refine lv_iload_n hx hb dX9_reckon_0 rfl (lv_at hl 1 rfl) ?_
  by_cases c_1 : n1 = 3
  · subst c_1
    refine lv_tableIn (off := 47) (tgt := 48) hx hb dX9_reckon_1 (by decide) (by decide) rfl (by decide) ?_
    refine lv_iload_n hx hb dX9_reckon_48 rfl (lv_at hl 2 rfl) ?_
    refine lv_iload_n hx hb dX9_reckon_49 rfl (lv_at hl 3 rfl) ?_
    refine lv_iadd hx hb dX9_reckon_50 ?_
    refine lv_topi (fun x_2 ex_2 => ?_)
    exact W.iret (v := x_2) hx hb hr (fun tt9 ht hW => ⟨⟨(x_2 : Int32), (rf : Int32), rfl, trivial, ⟨by rw [ht]; exact hP, hD⟩⟩, hS.F ht⟩) hS.2.2 dX9_reckon_51 hlocks
  by_cases c_3 : n1 = 4
  · subst c_3
    refine lv_tableIn (off := 51) (tgt := 52) hx hb dX9_reckon_1 (by decide) (by decide) rfl (by decide) ?_
    refine lv_iload_n hx hb dX9_reckon_52 rfl (lv_at hl 2 rfl) ?_
    refine lv_iload_n hx hb dX9_reckon_53 rfl (lv_at hl 3 rfl) ?_
    refine lv_isub hx hb dX9_reckon_54 ?_
    refine lv_topi (fun x_4 ex_4 => ?_)
    exact W.iret (v := x_4) hx hb hr (fun tt9 ht hW => ⟨⟨(x_4 : Int32), (rf : Int32), rfl, trivial, ⟨by rw [ht]; exact hP, hD⟩⟩, hS.F ht⟩) hS.2.2 dX9_reckon_55 hlocks
  by_cases c_5 : n1 = 5
  · subst c_5
    refine lv_tableIn (off := 55) (tgt := 56) hx hb dX9_reckon_1 (by decide) (by decide) rfl (by decide) ?_
    refine lv_iload_n hx hb dX9_reckon_56 rfl (lv_at hl 2 rfl) ?_
    refine lv_iload_n hx hb dX9_reckon_57 rfl (lv_at hl 3 rfl) ?_
    refine lv_imul hx hb dX9_reckon_58 ?_
    refine lv_topi (fun x_6 ex_6 => ?_)
    exact W.iret (v := x_6) hx hb hr (fun tt9 ht hW => ⟨⟨(x_6 : Int32), (rf : Int32), rfl, trivial, ⟨by rw [ht]; exact hP, hD⟩⟩, hS.F ht⟩) hS.2.2 dX9_reckon_59 hlocks
  by_cases c_7 : n1 = 6
  · subst c_7
    refine lv_tableIn (off := 92) (tgt := 93) hx hb dX9_reckon_1 (by decide) (by decide) rfl (by decide) ?_
    refine lv_iload_n hx hb dX9_reckon_93 rfl (lv_at hl 3 rfl) ?_
    refine lv_if_ne (tgt := 104) hx hb dX9_reckon_94 (by decide) (fun c_8 => ?_) (fun c_8 => ?_)
    · refine lv_iload_n hx hb dX9_reckon_104 rfl (lv_at hl 1 rfl) ?_
      refine lv_bipush (v := 6) hx hb dX9_reckon_105 (by decide) ?_
      refine lv_icmp_ne (tgt := 116) hx hb dX9_reckon_107 (by decide) (fun c => absurd c (by decide)) (fun _ => ?_)
      refine lv_iload_n hx hb dX9_reckon_110 rfl (lv_at hl 2 rfl) ?_
      refine lv_iload_n hx hb dX9_reckon_111 rfl (lv_at hl 3 rfl) ?_
      refine lv_idiv hx hb dX9_reckon_112 (lf_X9_reckon_9 t u cl tp rf 6 n2 n3 c_1 c_3 c_5 rfl c_8) ?_
      refine lv_topi (fun x_10 _ => ?_)
      refine lv_goto (tgt := 119) hx hb dX9_reckon_113 (by decide) ?_
      exact W.iret (v := x_10) hx hb hr (fun tt9 ht hW => ⟨⟨(x_10 : Int32), (rf : Int32), rfl, trivial, ⟨by rw [ht]; exact hP, hD⟩⟩, hS.F ht⟩) hS.2.2 dX9_reckon_119 hlocks
    · refine lv_aload_n hx hb dX9_reckon_97 rfl (lv_at hl 0 rfl) ?_
      refine lv_iconst (v := 1) hx hb dX9_reckon_98 (by decide) ?_
      refine va_put (D := D) (ci := 9) (v := .int 1) (ty := .boolean) (C := RX9) (T := TX9) (N := 9) hx hb hts inT_X9 tyX9 tyX9_ok nmX9 hown hK.1 hP hD hS 0 rfl rfl 8 (by decide) (hts _ k_204) (fun _ h9 => h9) rfl (by decide +kernel) rfl rfl (Nat.le_of_ble_eq_true rfl) dX9_reckon_99 (fun H locs hP hD hS => ?_)
      have hP : va_P D vwCl [(t 0, .inr (9, [.ref (t 1), .ref (t 2), .ref (t 3), .ref (t 4), .ref (t 5), .int u, .int cl, .int tp, .int 1]))] H := hP
      have hD : va_D A [(t 0, .inr (9, [.ref (t 1), .ref (t 2), .ref (t 3), .ref (t 4), .ref (t 5), .int u, .int cl, .int tp, .int 1]))] := hD
      refine lv_iconst (v := 0) hx hb dX9_reckon_102 (by decide) ?_
      exact W.iret (v := 0) hx hb hr (fun tt9 ht hW => ⟨⟨(0 : Int32), (1 : Int32), rfl, trivial, ⟨by rw [ht]; exact hP, hD⟩⟩, hS.F ht⟩) hS.2.2 dX9_reckon_103 hlocks
  by_cases c_11 : n1 = 7
  · subst c_11
    refine lv_tableIn (off := 92) (tgt := 93) hx hb dX9_reckon_1 (by decide) (by decide) rfl (by decide) ?_
    refine lv_iload_n hx hb dX9_reckon_93 rfl (lv_at hl 3 rfl) ?_
    refine lv_if_ne (tgt := 104) hx hb dX9_reckon_94 (by decide) (fun c_12 => ?_) (fun c_12 => ?_)
    · refine lv_iload_n hx hb dX9_reckon_104 rfl (lv_at hl 1 rfl) ?_
      refine lv_bipush (v := 6) hx hb dX9_reckon_105 (by decide) ?_
      refine lv_icmp_ne (tgt := 116) hx hb dX9_reckon_107 (by decide) (fun _ => ?_) (fun c => absurd c (by decide))
      refine lv_iload_n hx hb dX9_reckon_116 rfl (lv_at hl 2 rfl) ?_
      refine lv_iload_n hx hb dX9_reckon_117 rfl (lv_at hl 3 rfl) ?_
      refine lv_irem hx hb dX9_reckon_118 (lf_X9_reckon_13 t u cl tp rf 7 n2 n3 c_1 c_3 c_5 c_7 rfl c_12) ?_
      refine lv_topi (fun x_14 _ => ?_)
      exact W.iret (v := x_14) hx hb hr (fun tt9 ht hW => ⟨⟨(x_14 : Int32), (rf : Int32), rfl, trivial, ⟨by rw [ht]; exact hP, hD⟩⟩, hS.F ht⟩) hS.2.2 dX9_reckon_119 hlocks
    · refine lv_aload_n hx hb dX9_reckon_97 rfl (lv_at hl 0 rfl) ?_
      refine lv_iconst (v := 1) hx hb dX9_reckon_98 (by decide) ?_
      refine va_put (D := D) (ci := 9) (v := .int 1) (ty := .boolean) (C := RX9) (T := TX9) (N := 9) hx hb hts inT_X9 tyX9 tyX9_ok nmX9 hown hK.1 hP hD hS 0 rfl rfl 8 (by decide) (hts _ k_204) (fun _ h9 => h9) rfl (by decide +kernel) rfl rfl (Nat.le_of_ble_eq_true rfl) dX9_reckon_99 (fun H locs hP hD hS => ?_)
      have hP : va_P D vwCl [(t 0, .inr (9, [.ref (t 1), .ref (t 2), .ref (t 3), .ref (t 4), .ref (t 5), .int u, .int cl, .int tp, .int 1]))] H := hP
      have hD : va_D A [(t 0, .inr (9, [.ref (t 1), .ref (t 2), .ref (t 3), .ref (t 4), .ref (t 5), .int u, .int cl, .int tp, .int 1]))] := hD
      refine lv_iconst (v := 0) hx hb dX9_reckon_102 (by decide) ?_
      exact W.iret (v := 0) hx hb hr (fun tt9 ht hW => ⟨⟨(0 : Int32), (1 : Int32), rfl, trivial, ⟨by rw [ht]; exact hP, hD⟩⟩, hS.F ht⟩) hS.2.2 dX9_reckon_103 hlocks
  by_cases c_15 : n1 = 8
  · subst c_15
    refine lv_tableIn (off := 59) (tgt := 60) hx hb dX9_reckon_1 (by decide) (by decide) rfl (by decide) ?_
    refine lv_iload_n hx hb dX9_reckon_60 rfl (lv_at hl 2 rfl) ?_
    refine lv_iload_n hx hb dX9_reckon_61 rfl (lv_at hl 3 rfl) ?_
    refine lv_icmp_ge (tgt := 69) hx hb dX9_reckon_62 (by decide) (fun c_16 => ?_) (fun c_16 => ?_)
    · refine lv_iconst (v := 0) hx hb dX9_reckon_69 (by decide) ?_
      exact W.iret (v := 0) hx hb hr (fun tt9 ht hW => ⟨⟨(0 : Int32), (rf : Int32), rfl, trivial, ⟨by rw [ht]; exact hP, hD⟩⟩, hS.F ht⟩) hS.2.2 dX9_reckon_70 hlocks
    · refine lv_iconst (v := 1) hx hb dX9_reckon_65 (by decide) ?_
      refine lv_goto (tgt := 70) hx hb dX9_reckon_66 (by decide) ?_
      exact W.iret (v := 1) hx hb hr (fun tt9 ht hW => ⟨⟨(1 : Int32), (rf : Int32), rfl, trivial, ⟨by rw [ht]; exact hP, hD⟩⟩, hS.F ht⟩) hS.2.2 dX9_reckon_70 hlocks
  by_cases c_17 : n1 = 9
  · subst c_17
    refine lv_tableIn (off := 70) (tgt := 71) hx hb dX9_reckon_1 (by decide) (by decide) rfl (by decide) ?_
    refine lv_iload_n hx hb dX9_reckon_71 rfl (lv_at hl 2 rfl) ?_
    refine lv_iload_n hx hb dX9_reckon_72 rfl (lv_at hl 3 rfl) ?_
    refine lv_icmp_le (tgt := 80) hx hb dX9_reckon_73 (by decide) (fun c_18 => ?_) (fun c_18 => ?_)
    · refine lv_iconst (v := 0) hx hb dX9_reckon_80 (by decide) ?_
      exact W.iret (v := 0) hx hb hr (fun tt9 ht hW => ⟨⟨(0 : Int32), (rf : Int32), rfl, trivial, ⟨by rw [ht]; exact hP, hD⟩⟩, hS.F ht⟩) hS.2.2 dX9_reckon_81 hlocks
    · refine lv_iconst (v := 1) hx hb dX9_reckon_76 (by decide) ?_
      refine lv_goto (tgt := 81) hx hb dX9_reckon_77 (by decide) ?_
      exact W.iret (v := 1) hx hb hr (fun tt9 ht hW => ⟨⟨(1 : Int32), (rf : Int32), rfl, trivial, ⟨by rw [ht]; exact hP, hD⟩⟩, hS.F ht⟩) hS.2.2 dX9_reckon_81 hlocks
  by_cases c_19 : n1 = 10
  · subst c_19
    refine lv_tableIn (off := 81) (tgt := 82) hx hb dX9_reckon_1 (by decide) (by decide) rfl (by decide) ?_
    refine lv_iload_n hx hb dX9_reckon_82 rfl (lv_at hl 2 rfl) ?_
    refine lv_iload_n hx hb dX9_reckon_83 rfl (lv_at hl 3 rfl) ?_
    refine lv_icmp_ne (tgt := 91) hx hb dX9_reckon_84 (by decide) (fun c_20 => ?_) (fun c_20 => ?_)
    · refine lv_iconst (v := 0) hx hb dX9_reckon_91 (by decide) ?_
      exact W.iret (v := 0) hx hb hr (fun tt9 ht hW => ⟨⟨(0 : Int32), (rf : Int32), rfl, trivial, ⟨by rw [ht]; exact hP, hD⟩⟩, hS.F ht⟩) hS.2.2 dX9_reckon_92 hlocks
    · refine lv_iconst (v := 1) hx hb dX9_reckon_87 (by decide) ?_
      refine lv_goto (tgt := 92) hx hb dX9_reckon_88 (by decide) ?_
      exact W.iret (v := 1) hx hb hr (fun tt9 ht hW => ⟨⟨(1 : Int32), (rf : Int32), rfl, trivial, ⟨by rw [ht]; exact hP, hD⟩⟩, hS.F ht⟩) hS.2.2 dX9_reckon_92 hlocks
  refine lv_tableOut (tgt := 93) hx hb dX9_reckon_1 (lf_X9_reckon_21 t u cl tp rf n1 n2 n3 c_1 c_3 c_5 c_7 c_11 c_15 c_17 c_19) (by decide) ?_
  refine lv_iload_n hx hb dX9_reckon_93 rfl (lv_at hl 3 rfl) ?_
  refine lv_if_ne (tgt := 104) hx hb dX9_reckon_94 (by decide) (fun c_22 => ?_) (fun c_22 => ?_)
  · refine lv_iload_n hx hb dX9_reckon_104 rfl (lv_at hl 1 rfl) ?_
    refine lv_bipush (v := 6) hx hb dX9_reckon_105 (by decide) ?_
    refine lv_icmp_ne (tgt := 116) hx hb dX9_reckon_107 (by decide) (fun c_23 => ?_) (fun c_23 => ?_)
    · refine lv_iload_n hx hb dX9_reckon_116 rfl (lv_at hl 2 rfl) ?_
      refine lv_iload_n hx hb dX9_reckon_117 rfl (lv_at hl 3 rfl) ?_
      refine lv_irem hx hb dX9_reckon_118 (lf_X9_reckon_24 t u cl tp rf n1 n2 n3 c_1 c_3 c_5 c_7 c_11 c_15 c_17 c_19 c_22 c_23) ?_
      refine lv_topi (fun x_25 _ => ?_)
      exact W.iret (v := x_25) hx hb hr (fun tt9 ht hW => ⟨⟨(x_25 : Int32), (rf : Int32), rfl, trivial, ⟨by rw [ht]; exact hP, hD⟩⟩, hS.F ht⟩) hS.2.2 dX9_reckon_119 hlocks
    · refine lv_iload_n hx hb dX9_reckon_110 rfl (lv_at hl 2 rfl) ?_
      refine lv_iload_n hx hb dX9_reckon_111 rfl (lv_at hl 3 rfl) ?_
      refine lv_idiv hx hb dX9_reckon_112 (lf_X9_reckon_26 t u cl tp rf n1 n2 n3 c_1 c_3 c_5 c_7 c_11 c_15 c_17 c_19 c_22 c_23) ?_
      refine lv_topi (fun x_27 _ => ?_)
      refine lv_goto (tgt := 119) hx hb dX9_reckon_113 (by decide) ?_
      exact W.iret (v := x_27) hx hb hr (fun tt9 ht hW => ⟨⟨(x_27 : Int32), (rf : Int32), rfl, trivial, ⟨by rw [ht]; exact hP, hD⟩⟩, hS.F ht⟩) hS.2.2 dX9_reckon_119 hlocks
  · refine lv_aload_n hx hb dX9_reckon_97 rfl (lv_at hl 0 rfl) ?_
    refine lv_iconst (v := 1) hx hb dX9_reckon_98 (by decide) ?_
    refine va_put (D := D) (ci := 9) (v := .int 1) (ty := .boolean) (C := RX9) (T := TX9) (N := 9) hx hb hts inT_X9 tyX9 tyX9_ok nmX9 hown hK.1 hP hD hS 0 rfl rfl 8 (by decide) (hts _ k_204) (fun _ h9 => h9) rfl (by decide +kernel) rfl rfl (Nat.le_of_ble_eq_true rfl) dX9_reckon_99 (fun H locs hP hD hS => ?_)
    have hP : va_P D vwCl [(t 0, .inr (9, [.ref (t 1), .ref (t 2), .ref (t 3), .ref (t 4), .ref (t 5), .int u, .int cl, .int tp, .int 1]))] H := hP
    have hD : va_D A [(t 0, .inr (9, [.ref (t 1), .ref (t 2), .ref (t 3), .ref (t 4), .ref (t 5), .int u, .int cl, .int tp, .int 1]))] := hD
    refine lv_iconst (v := 0) hx hb dX9_reckon_102 (by decide) ?_
    exact W.iret (v := 0) hx hb hr (fun tt9 ht hW => ⟨⟨(0 : Int32), (1 : Int32), rfl, trivial, ⟨by rw [ht]; exact hP, hD⟩⟩, hS.F ht⟩) hS.2.2 dX9_reckon_103 hlocks

theorem lf_X11_held_3 (n1 : Int32) (n2 : Int32) (n3 : Int32) (x_1 : Int32) (x_2 : Int32) : True := by
  trivial
set_option maxHeartbeats 4000000 in
set_option maxRecDepth 100000 in
theorem c_X11_held (l : Launch) (D : va_G) (cI cB cZ cJ : ClassId) (tx : List (ClassId × FieldType)) (n1 : Int32) (n2 : Int32) (n3 : Int32) : RdI l D cI cB cZ cJ tx yX11_held cX11_held 3 (some .int) 1 [.int n1, .int n2, .int n3] [] (fun r => True) := by
  refine rdi_of2 (by decide) (Nat.le_of_ble_eq_true rfl) ?_
  intro p e s m below meth c A ls H locs hC hK hP hD hA hS hl
  obtain ⟨hx, hb, hr, hml, hown, hts, hlocks, hin⟩ := hC
  have hown : s.vm.findClass RX11 = some m.cls := hown
  have hl : lv_has ls 3 [(0, .int n1), (1, .int n2), (2, .int n3)] := hl
  refine lv_iload_n hx hb dX11_held_0 rfl (lv_at hl 1 rfl) ?_
  refine lv_iload_n hx hb dX11_held_1 rfl (lv_at hl 2 rfl) ?_
  refine lv_iload_n hx hb dX11_held_2 rfl (lv_at hl 0 rfl) ?_
  refine va_mmin hx hb (by rw [hml]; exact hl.1.symm) hown (hts _ k_810) (hts _ k_608) (hts _ k_131) (hts _ k_609) (Nat.le_of_ble_eq_true rfl) (Nat.le_of_ble_eq_true rfl) (Nat.le_of_ble_eq_true rfl) (Nat.le_of_ble_eq_true rfl) dX11_held_3 ?_
  refine lv_topi (fun x_1 _ => ?_)
  refine va_mmax hx hb (by rw [hml]; exact hl.1.symm) hown (hts _ k_811) (hts _ k_605) (hts _ k_131) (hts _ k_606) (Nat.le_of_ble_eq_true rfl) (Nat.le_of_ble_eq_true rfl) (Nat.le_of_ble_eq_true rfl) (Nat.le_of_ble_eq_true rfl) dX11_held_6 ?_
  refine lv_topi (fun x_2 _ => ?_)
  exact W.iret (v := x_2) hx hb hr (fun tt9 ht hW => ⟨⟨(x_2 : Int32), (), rfl, (lf_X11_held_3 n1 n2 n3 x_1 x_2), trivial⟩, hS.F ht⟩) hS.2.2 dX11_held_9 hlocks

theorem lf_X9_stepOn_1 (t : Nat → Nat) (u : Int32) (cl : Int32) (rf : Int32) (p1 : Nat) (fs : Nat → Int32) (fk : Nat → Int32) (fl : Nat → Int32) (b1 : Nat) (j0 : Nat) (hp : p1 ≤ 32) (hst : ∀ j, j < 200 → 0 ≤ fs j) (hj : j0 < 200) : j0 < 200 := by
  omega
theorem lf_X9_stepOn_3 (t : Nat → Nat) (u : Int32) (cl : Int32) (rf : Int32) (p1 : Nat) (fs : Nat → Int32) (fk : Nat → Int32) (fl : Nat → Int32) (b1 : Nat) (j0 : Nat) (hp : p1 ≤ 32) (hst : ∀ j, j < 200 → 0 ≤ fs j) (hj : j0 < 200) (x_2 : Int32) (ex_2 : x_2 = fs j0 &&& 15) : j0 < 200 := by
  omega
theorem lf_X9_stepOn_6 (t : Nat → Nat) (u : Int32) (cl : Int32) (rf : Int32) (p1 : Nat) (fs : Nat → Int32) (fk : Nat → Int32) (fl : Nat → Int32) (b1 : Nat) (j0 : Nat) (hp : p1 ≤ 32) (hst : ∀ j, j < 200 → 0 ≤ fs j) (hj : j0 < 200) (x_2 : Int32) (ex_2 : x_2 = fs j0 &&& 15) (x_4 : Int32) (ex_4 : x_4 = fs j0 >>> (4 &&& 31)) (c_5 : x_2 = 1) : p1 ≤ 32 := by
  first | assumption | omega
theorem lf_X9_stepOn_9 (t : Nat → Nat) (u : Int32) (cl : Int32) (rf : Int32) (p1 : Nat) (fs : Nat → Int32) (fk : Nat → Int32) (fl : Nat → Int32) (b1 : Nat) (j0 : Nat) (hp : p1 ≤ 32) (hst : ∀ j, j < 200 → 0 ≤ fs j) (hj : j0 < 200) (x_2 : Int32) (ex_2 : x_2 = fs j0 &&& 15) (x_4 : Int32) (ex_4 : x_4 = fs j0 >>> (4 &&& 31)) (c_5 : x_2 = 1) (pa_8 : Nat) (fa_8 : Nat → Int32) (hz_8 : pa_8 ≤ 32) : pa_8 ≤ 32 := by
  omega
theorem lf_X9_stepOn_12 (t : Nat → Nat) (u : Int32) (cl : Int32) (rf : Int32) (p1 : Nat) (fs : Nat → Int32) (fk : Nat → Int32) (fl : Nat → Int32) (b1 : Nat) (j0 : Nat) (hp : p1 ≤ 32) (hst : ∀ j, j < 200 → 0 ≤ fs j) (hj : j0 < 200) (x_2 : Int32) (ex_2 : x_2 = fs j0 &&& 15) (x_4 : Int32) (ex_4 : x_4 = fs j0 >>> (4 &&& 31)) (c_5 : ¬ x_2 = 1) (c_10 : x_2 = 2) (c_11 : 26 ≤ x_4) : p1 ≤ 32 := by
  first | assumption | omega
theorem lf_X9_stepOn_15 (t : Nat → Nat) (u : Int32) (cl : Int32) (rf : Int32) (p1 : Nat) (fs : Nat → Int32) (fk : Nat → Int32) (fl : Nat → Int32) (b1 : Nat) (j0 : Nat) (hp : p1 ≤ 32) (hst : ∀ j, j < 200 → 0 ≤ fs j) (hj : j0 < 200) (x_2 : Int32) (ex_2 : x_2 = fs j0 &&& 15) (x_4 : Int32) (ex_4 : x_4 = fs j0 >>> (4 &&& 31)) (c_5 : ¬ x_2 = 1) (c_10 : x_2 = 2) (c_11 : 26 ≤ x_4) (pa_14 : Nat) (fa_14 : Nat → Int32) (hz_14 : pa_14 ≤ 32) : pa_14 ≤ 32 := by
  omega
theorem lf_X9_stepOn_16 (t : Nat → Nat) (u : Int32) (cl : Int32) (rf : Int32) (p1 : Nat) (fs : Nat → Int32) (fk : Nat → Int32) (fl : Nat → Int32) (b1 : Nat) (j0 : Nat) (hp : p1 ≤ 32) (hst : ∀ j, j < 200 → 0 ≤ fs j) (hj : j0 < 200) (x_2 : Int32) (ex_2 : x_2 = fs j0 &&& 15) (x_4 : Int32) (ex_4 : x_4 = fs j0 >>> (4 &&& 31)) (c_5 : ¬ x_2 = 1) (c_10 : x_2 = 2) (c_11 : ¬ 26 ≤ x_4) : vp_in x_4 26 := by
  exact shr_in (hst j0 hj) (by assumption) (by assumption)
theorem lf_X9_stepOn_18 (t : Nat → Nat) (u : Int32) (cl : Int32) (rf : Int32) (p1 : Nat) (fs : Nat → Int32) (fk : Nat → Int32) (fl : Nat → Int32) (b1 : Nat) (j0 : Nat) (hp : p1 ≤ 32) (hst : ∀ j, j < 200 → 0 ≤ fs j) (hj : j0 < 200) (x_2 : Int32) (ex_2 : x_2 = fs j0 &&& 15) (x_4 : Int32) (ex_4 : x_4 = fs j0 >>> (4 &&& 31)) (c_5 : ¬ x_2 = 1) (c_10 : x_2 = 2) (c_11 : ¬ 26 ≤ x_4) (x_17 : Int32) : p1 ≤ 32 := by
  first | assumption | omega
theorem lf_X9_stepOn_21 (t : Nat → Nat) (u : Int32) (cl : Int32) (rf : Int32) (p1 : Nat) (fs : Nat → Int32) (fk : Nat → Int32) (fl : Nat → Int32) (b1 : Nat) (j0 : Nat) (hp : p1 ≤ 32) (hst : ∀ j, j < 200 → 0 ≤ fs j) (hj : j0 < 200) (x_2 : Int32) (ex_2 : x_2 = fs j0 &&& 15) (x_4 : Int32) (ex_4 : x_4 = fs j0 >>> (4 &&& 31)) (c_5 : ¬ x_2 = 1) (c_10 : x_2 = 2) (c_11 : ¬ 26 ≤ x_4) (x_17 : Int32) (pa_20 : Nat) (fa_20 : Nat → Int32) (hz_20 : pa_20 ≤ 32) : pa_20 ≤ 32 := by
  omega
theorem lf_X9_stepOn_23 (t : Nat → Nat) (u : Int32) (cl : Int32) (rf : Int32) (p1 : Nat) (fs : Nat → Int32) (fk : Nat → Int32) (fl : Nat → Int32) (b1 : Nat) (j0 : Nat) (hp : p1 ≤ 32) (hst : ∀ j, j < 200 → 0 ≤ fs j) (hj : j0 < 200) (x_2 : Int32) (ex_2 : x_2 = fs j0 &&& 15) (x_4 : Int32) (ex_4 : x_4 = fs j0 >>> (4 &&& 31)) (c_5 : ¬ x_2 = 1) (c_10 : ¬ x_2 = 2) (c_22 : x_2 = 3) : p1 ≤ 32 := by
  first | assumption | omega
theorem lf_X9_stepOn_26 (t : Nat → Nat) (u : Int32) (cl : Int32) (rf : Int32) (p1 : Nat) (fs : Nat → Int32) (fk : Nat → Int32) (fl : Nat → Int32) (b1 : Nat) (j0 : Nat) (hp : p1 ≤ 32) (hst : ∀ j, j < 200 → 0 ≤ fs j) (hj : j0 < 200) (x_2 : Int32) (ex_2 : x_2 = fs j0 &&& 15) (x_4 : Int32) (ex_4 : x_4 = fs j0 >>> (4 &&& 31)) (c_5 : ¬ x_2 = 1) (c_10 : ¬ x_2 = 2) (c_22 : x_2 = 3) (pa_25 : Nat) (hz_25 : pa_25 ≤ 32) (r_24 : Int32) : pa_25 ≤ 32 := by
  first | assumption | omega
theorem lf_X9_stepOn_31 (t : Nat → Nat) (u : Int32) (cl : Int32) (rf : Int32) (p1 : Nat) (fs : Nat → Int32) (fk : Nat → Int32) (fl : Nat → Int32) (b1 : Nat) (j0 : Nat) (hp : p1 ≤ 32) (hst : ∀ j, j < 200 → 0 ≤ fs j) (hj : j0 < 200) (x_2 : Int32) (ex_2 : x_2 = fs j0 &&& 15) (x_4 : Int32) (ex_4 : x_4 = fs j0 >>> (4 &&& 31)) (c_5 : ¬ x_2 = 1) (c_10 : ¬ x_2 = 2) (c_22 : x_2 = 3) (pa_25 : Nat) (hz_25 : pa_25 ≤ 32) (r_24 : Int32) (pa_28 : Nat) (hz_28 : pa_28 ≤ 32) (r_27 : Int32) (ra_30 : Int32) (hz_30 : True) (r_29 : Int32) : pa_28 ≤ 32 := by
  first | assumption | omega
theorem lf_X9_stepOn_34 (t : Nat → Nat) (u : Int32) (cl : Int32) (rf : Int32) (p1 : Nat) (fs : Nat → Int32) (fk : Nat → Int32) (fl : Nat → Int32) (b1 : Nat) (j0 : Nat) (hp : p1 ≤ 32) (hst : ∀ j, j < 200 → 0 ≤ fs j) (hj : j0 < 200) (x_2 : Int32) (ex_2 : x_2 = fs j0 &&& 15) (x_4 : Int32) (ex_4 : x_4 = fs j0 >>> (4 &&& 31)) (c_5 : ¬ x_2 = 1) (c_10 : ¬ x_2 = 2) (c_22 : x_2 = 3) (pa_25 : Nat) (hz_25 : pa_25 ≤ 32) (r_24 : Int32) (pa_28 : Nat) (hz_28 : pa_28 ≤ 32) (r_27 : Int32) (ra_30 : Int32) (hz_30 : True) (r_29 : Int32) (pa_33 : Nat) (fa_33 : Nat → Int32) (hz_33 : pa_33 ≤ 32) : pa_33 ≤ 32 := by
  omega
theorem lf_X9_stepOn_36 (t : Nat → Nat) (u : Int32) (cl : Int32) (rf : Int32) (p1 : Nat) (fs : Nat → Int32) (fk : Nat → Int32) (fl : Nat → Int32) (b1 : Nat) (j0 : Nat) (hp : p1 ≤ 32) (hst : ∀ j, j < 200 → 0 ≤ fs j) (hj : j0 < 200) (x_2 : Int32) (ex_2 : x_2 = fs j0 &&& 15) (x_4 : Int32) (ex_4 : x_4 = fs j0 >>> (4 &&& 31)) (c_5 : ¬ x_2 = 1) (c_10 : ¬ x_2 = 2) (c_22 : ¬ x_2 = 3) (c_35 : x_2 = 4) : p1 ≤ 32 := by
  first | assumption | omega
theorem lf_X9_stepOn_39 (t : Nat → Nat) (u : Int32) (cl : Int32) (rf : Int32) (p1 : Nat) (fs : Nat → Int32) (fk : Nat → Int32) (fl : Nat → Int32) (b1 : Nat) (j0 : Nat) (hp : p1 ≤ 32) (hst : ∀ j, j < 200 → 0 ≤ fs j) (hj : j0 < 200) (x_2 : Int32) (ex_2 : x_2 = fs j0 &&& 15) (x_4 : Int32) (ex_4 : x_4 = fs j0 >>> (4 &&& 31)) (c_5 : ¬ x_2 = 1) (c_10 : ¬ x_2 = 2) (c_22 : ¬ x_2 = 3) (c_35 : x_2 = 4) (pa_38 : Nat) (hz_38 : pa_38 ≤ 32) (r_37 : Int32) : pa_38 ≤ 32 := by
  first | assumption | omega
theorem lf_X9_stepOn_44 (t : Nat → Nat) (u : Int32) (cl : Int32) (rf : Int32) (p1 : Nat) (fs : Nat → Int32) (fk : Nat → Int32) (fl : Nat → Int32) (b1 : Nat) (j0 : Nat) (hp : p1 ≤ 32) (hst : ∀ j, j < 200 → 0 ≤ fs j) (hj : j0 < 200) (x_2 : Int32) (ex_2 : x_2 = fs j0 &&& 15) (x_4 : Int32) (ex_4 : x_4 = fs j0 >>> (4 &&& 31)) (c_5 : ¬ x_2 = 1) (c_10 : ¬ x_2 = 2) (c_22 : ¬ x_2 = 3) (c_35 : x_2 = 4) (pa_38 : Nat) (hz_38 : pa_38 ≤ 32) (r_37 : Int32) (pa_41 : Nat) (hz_41 : pa_41 ≤ 32) (r_40 : Int32) (ra_43 : Int32) (hz_43 : True) (r_42 : Int32) : pa_41 ≤ 32 := by
  first | assumption | omega
theorem lf_X9_stepOn_47 (t : Nat → Nat) (u : Int32) (cl : Int32) (rf : Int32) (p1 : Nat) (fs : Nat → Int32) (fk : Nat → Int32) (fl : Nat → Int32) (b1 : Nat) (j0 : Nat) (hp : p1 ≤ 32) (hst : ∀ j, j < 200 → 0 ≤ fs j) (hj : j0 < 200) (x_2 : Int32) (ex_2 : x_2 = fs j0 &&& 15) (x_4 : Int32) (ex_4 : x_4 = fs j0 >>> (4 &&& 31)) (c_5 : ¬ x_2 = 1) (c_10 : ¬ x_2 = 2) (c_22 : ¬ x_2 = 3) (c_35 : x_2 = 4) (pa_38 : Nat) (hz_38 : pa_38 ≤ 32) (r_37 : Int32) (pa_41 : Nat) (hz_41 : pa_41 ≤ 32) (r_40 : Int32) (ra_43 : Int32) (hz_43 : True) (r_42 : Int32) (pa_46 : Nat) (fa_46 : Nat → Int32) (hz_46 : pa_46 ≤ 32) : pa_46 ≤ 32 := by
  omega
theorem lf_X9_stepOn_49 (t : Nat → Nat) (u : Int32) (cl : Int32) (rf : Int32) (p1 : Nat) (fs : Nat → Int32) (fk : Nat → Int32) (fl : Nat → Int32) (b1 : Nat) (j0 : Nat) (hp : p1 ≤ 32) (hst : ∀ j, j < 200 → 0 ≤ fs j) (hj : j0 < 200) (x_2 : Int32) (ex_2 : x_2 = fs j0 &&& 15) (x_4 : Int32) (ex_4 : x_4 = fs j0 >>> (4 &&& 31)) (c_5 : ¬ x_2 = 1) (c_10 : ¬ x_2 = 2) (c_22 : ¬ x_2 = 3) (c_35 : ¬ x_2 = 4) (c_48 : x_2 = 5) : p1 ≤ 32 := by
  first | assumption | omega
theorem lf_X9_stepOn_52 (t : Nat → Nat) (u : Int32) (cl : Int32) (rf : Int32) (p1 : Nat) (fs : Nat → Int32) (fk : Nat → Int32) (fl : Nat → Int32) (b1 : Nat) (j0 : Nat) (hp : p1 ≤ 32) (hst : ∀ j, j < 200 → 0 ≤ fs j) (hj : j0 < 200) (x_2 : Int32) (ex_2 : x_2 = fs j0 &&& 15) (x_4 : Int32) (ex_4 : x_4 = fs j0 >>> (4 &&& 31)) (c_5 : ¬ x_2 = 1) (c_10 : ¬ x_2 = 2) (c_22 : ¬ x_2 = 3) (c_35 : ¬ x_2 = 4) (c_48 : x_2 = 5) (pa_51 : Nat) (hz_51 : pa_51 ≤ 32) (r_50 : Int32) : pa_51 ≤ 32 := by
  first | assumption | omega
theorem lf_X9_stepOn_57 (t : Nat → Nat) (u : Int32) (cl : Int32) (rf : Int32) (p1 : Nat) (fs : Nat → Int32) (fk : Nat → Int32) (fl : Nat → Int32) (b1 : Nat) (j0 : Nat) (hp : p1 ≤ 32) (hst : ∀ j, j < 200 → 0 ≤ fs j) (hj : j0 < 200) (x_2 : Int32) (ex_2 : x_2 = fs j0 &&& 15) (x_4 : Int32) (ex_4 : x_4 = fs j0 >>> (4 &&& 31)) (c_5 : ¬ x_2 = 1) (c_10 : ¬ x_2 = 2) (c_22 : ¬ x_2 = 3) (c_35 : ¬ x_2 = 4) (c_48 : x_2 = 5) (pa_51 : Nat) (hz_51 : pa_51 ≤ 32) (r_50 : Int32) (pa_54 : Nat) (hz_54 : pa_54 ≤ 32) (r_53 : Int32) (ra_56 : Int32) (hz_56 : True) (r_55 : Int32) : pa_54 ≤ 32 := by
  first | assumption | omega
theorem lf_X9_stepOn_60 (t : Nat → Nat) (u : Int32) (cl : Int32) (rf : Int32) (p1 : Nat) (fs : Nat → Int32) (fk : Nat → Int32) (fl : Nat → Int32) (b1 : Nat) (j0 : Nat) (hp : p1 ≤ 32) (hst : ∀ j, j < 200 → 0 ≤ fs j) (hj : j0 < 200) (x_2 : Int32) (ex_2 : x_2 = fs j0 &&& 15) (x_4 : Int32) (ex_4 : x_4 = fs j0 >>> (4 &&& 31)) (c_5 : ¬ x_2 = 1) (c_10 : ¬ x_2 = 2) (c_22 : ¬ x_2 = 3) (c_35 : ¬ x_2 = 4) (c_48 : x_2 = 5) (pa_51 : Nat) (hz_51 : pa_51 ≤ 32) (r_50 : Int32) (pa_54 : Nat) (hz_54 : pa_54 ≤ 32) (r_53 : Int32) (ra_56 : Int32) (hz_56 : True) (r_55 : Int32) (pa_59 : Nat) (fa_59 : Nat → Int32) (hz_59 : pa_59 ≤ 32) : pa_59 ≤ 32 := by
  omega
theorem lf_X9_stepOn_62 (t : Nat → Nat) (u : Int32) (cl : Int32) (rf : Int32) (p1 : Nat) (fs : Nat → Int32) (fk : Nat → Int32) (fl : Nat → Int32) (b1 : Nat) (j0 : Nat) (hp : p1 ≤ 32) (hst : ∀ j, j < 200 → 0 ≤ fs j) (hj : j0 < 200) (x_2 : Int32) (ex_2 : x_2 = fs j0 &&& 15) (x_4 : Int32) (ex_4 : x_4 = fs j0 >>> (4 &&& 31)) (c_5 : ¬ x_2 = 1) (c_10 : ¬ x_2 = 2) (c_22 : ¬ x_2 = 3) (c_35 : ¬ x_2 = 4) (c_48 : ¬ x_2 = 5) (c_61 : x_2 = 6) : p1 ≤ 32 := by
  first | assumption | omega
theorem lf_X9_stepOn_65 (t : Nat → Nat) (u : Int32) (cl : Int32) (rf : Int32) (p1 : Nat) (fs : Nat → Int32) (fk : Nat → Int32) (fl : Nat → Int32) (b1 : Nat) (j0 : Nat) (hp : p1 ≤ 32) (hst : ∀ j, j < 200 → 0 ≤ fs j) (hj : j0 < 200) (x_2 : Int32) (ex_2 : x_2 = fs j0 &&& 15) (x_4 : Int32) (ex_4 : x_4 = fs j0 >>> (4 &&& 31)) (c_5 : ¬ x_2 = 1) (c_10 : ¬ x_2 = 2) (c_22 : ¬ x_2 = 3) (c_35 : ¬ x_2 = 4) (c_48 : ¬ x_2 = 5) (c_61 : x_2 = 6) (pa_64 : Nat) (hz_64 : pa_64 ≤ 32) (r_63 : Int32) : pa_64 ≤ 32 := by
  first | assumption | omega
theorem lf_X9_stepOn_70 (t : Nat → Nat) (u : Int32) (cl : Int32) (rf : Int32) (p1 : Nat) (fs : Nat → Int32) (fk : Nat → Int32) (fl : Nat → Int32) (b1 : Nat) (j0 : Nat) (hp : p1 ≤ 32) (hst : ∀ j, j < 200 → 0 ≤ fs j) (hj : j0 < 200) (x_2 : Int32) (ex_2 : x_2 = fs j0 &&& 15) (x_4 : Int32) (ex_4 : x_4 = fs j0 >>> (4 &&& 31)) (c_5 : ¬ x_2 = 1) (c_10 : ¬ x_2 = 2) (c_22 : ¬ x_2 = 3) (c_35 : ¬ x_2 = 4) (c_48 : ¬ x_2 = 5) (c_61 : x_2 = 6) (pa_64 : Nat) (hz_64 : pa_64 ≤ 32) (r_63 : Int32) (pa_67 : Nat) (hz_67 : pa_67 ≤ 32) (r_66 : Int32) (ra_69 : Int32) (hz_69 : True) (r_68 : Int32) : pa_67 ≤ 32 := by
  first | assumption | omega
theorem lf_X9_stepOn_73 (t : Nat → Nat) (u : Int32) (cl : Int32) (rf : Int32) (p1 : Nat) (fs : Nat → Int32) (fk : Nat → Int32) (fl : Nat → Int32) (b1 : Nat) (j0 : Nat) (hp : p1 ≤ 32) (hst : ∀ j, j < 200 → 0 ≤ fs j) (hj : j0 < 200) (x_2 : Int32) (ex_2 : x_2 = fs j0 &&& 15) (x_4 : Int32) (ex_4 : x_4 = fs j0 >>> (4 &&& 31)) (c_5 : ¬ x_2 = 1) (c_10 : ¬ x_2 = 2) (c_22 : ¬ x_2 = 3) (c_35 : ¬ x_2 = 4) (c_48 : ¬ x_2 = 5) (c_61 : x_2 = 6) (pa_64 : Nat) (hz_64 : pa_64 ≤ 32) (r_63 : Int32) (pa_67 : Nat) (hz_67 : pa_67 ≤ 32) (r_66 : Int32) (ra_69 : Int32) (hz_69 : True) (r_68 : Int32) (pa_72 : Nat) (fa_72 : Nat → Int32) (hz_72 : pa_72 ≤ 32) : pa_72 ≤ 32 := by
  omega
theorem lf_X9_stepOn_75 (t : Nat → Nat) (u : Int32) (cl : Int32) (rf : Int32) (p1 : Nat) (fs : Nat → Int32) (fk : Nat → Int32) (fl : Nat → Int32) (b1 : Nat) (j0 : Nat) (hp : p1 ≤ 32) (hst : ∀ j, j < 200 → 0 ≤ fs j) (hj : j0 < 200) (x_2 : Int32) (ex_2 : x_2 = fs j0 &&& 15) (x_4 : Int32) (ex_4 : x_4 = fs j0 >>> (4 &&& 31)) (c_5 : ¬ x_2 = 1) (c_10 : ¬ x_2 = 2) (c_22 : ¬ x_2 = 3) (c_35 : ¬ x_2 = 4) (c_48 : ¬ x_2 = 5) (c_61 : ¬ x_2 = 6) (c_74 : x_2 = 7) : p1 ≤ 32 := by
  first | assumption | omega
theorem lf_X9_stepOn_78 (t : Nat → Nat) (u : Int32) (cl : Int32) (rf : Int32) (p1 : Nat) (fs : Nat → Int32) (fk : Nat → Int32) (fl : Nat → Int32) (b1 : Nat) (j0 : Nat) (hp : p1 ≤ 32) (hst : ∀ j, j < 200 → 0 ≤ fs j) (hj : j0 < 200) (x_2 : Int32) (ex_2 : x_2 = fs j0 &&& 15) (x_4 : Int32) (ex_4 : x_4 = fs j0 >>> (4 &&& 31)) (c_5 : ¬ x_2 = 1) (c_10 : ¬ x_2 = 2) (c_22 : ¬ x_2 = 3) (c_35 : ¬ x_2 = 4) (c_48 : ¬ x_2 = 5) (c_61 : ¬ x_2 = 6) (c_74 : x_2 = 7) (pa_77 : Nat) (hz_77 : pa_77 ≤ 32) (r_76 : Int32) : pa_77 ≤ 32 := by
  first | assumption | omega
theorem lf_X9_stepOn_83 (t : Nat → Nat) (u : Int32) (cl : Int32) (rf : Int32) (p1 : Nat) (fs : Nat → Int32) (fk : Nat → Int32) (fl : Nat → Int32) (b1 : Nat) (j0 : Nat) (hp : p1 ≤ 32) (hst : ∀ j, j < 200 → 0 ≤ fs j) (hj : j0 < 200) (x_2 : Int32) (ex_2 : x_2 = fs j0 &&& 15) (x_4 : Int32) (ex_4 : x_4 = fs j0 >>> (4 &&& 31)) (c_5 : ¬ x_2 = 1) (c_10 : ¬ x_2 = 2) (c_22 : ¬ x_2 = 3) (c_35 : ¬ x_2 = 4) (c_48 : ¬ x_2 = 5) (c_61 : ¬ x_2 = 6) (c_74 : x_2 = 7) (pa_77 : Nat) (hz_77 : pa_77 ≤ 32) (r_76 : Int32) (pa_80 : Nat) (hz_80 : pa_80 ≤ 32) (r_79 : Int32) (ra_82 : Int32) (hz_82 : True) (r_81 : Int32) : pa_80 ≤ 32 := by
  first | assumption | omega
theorem lf_X9_stepOn_86 (t : Nat → Nat) (u : Int32) (cl : Int32) (rf : Int32) (p1 : Nat) (fs : Nat → Int32) (fk : Nat → Int32) (fl : Nat → Int32) (b1 : Nat) (j0 : Nat) (hp : p1 ≤ 32) (hst : ∀ j, j < 200 → 0 ≤ fs j) (hj : j0 < 200) (x_2 : Int32) (ex_2 : x_2 = fs j0 &&& 15) (x_4 : Int32) (ex_4 : x_4 = fs j0 >>> (4 &&& 31)) (c_5 : ¬ x_2 = 1) (c_10 : ¬ x_2 = 2) (c_22 : ¬ x_2 = 3) (c_35 : ¬ x_2 = 4) (c_48 : ¬ x_2 = 5) (c_61 : ¬ x_2 = 6) (c_74 : x_2 = 7) (pa_77 : Nat) (hz_77 : pa_77 ≤ 32) (r_76 : Int32) (pa_80 : Nat) (hz_80 : pa_80 ≤ 32) (r_79 : Int32) (ra_82 : Int32) (hz_82 : True) (r_81 : Int32) (pa_85 : Nat) (fa_85 : Nat → Int32) (hz_85 : pa_85 ≤ 32) : pa_85 ≤ 32 := by
  omega
theorem lf_X9_stepOn_88 (t : Nat → Nat) (u : Int32) (cl : Int32) (rf : Int32) (p1 : Nat) (fs : Nat → Int32) (fk : Nat → Int32) (fl : Nat → Int32) (b1 : Nat) (j0 : Nat) (hp : p1 ≤ 32) (hst : ∀ j, j < 200 → 0 ≤ fs j) (hj : j0 < 200) (x_2 : Int32) (ex_2 : x_2 = fs j0 &&& 15) (x_4 : Int32) (ex_4 : x_4 = fs j0 >>> (4 &&& 31)) (c_5 : ¬ x_2 = 1) (c_10 : ¬ x_2 = 2) (c_22 : ¬ x_2 = 3) (c_35 : ¬ x_2 = 4) (c_48 : ¬ x_2 = 5) (c_61 : ¬ x_2 = 6) (c_74 : ¬ x_2 = 7) (c_87 : x_2 = 8) : p1 ≤ 32 := by
  first | assumption | omega
theorem lf_X9_stepOn_91 (t : Nat → Nat) (u : Int32) (cl : Int32) (rf : Int32) (p1 : Nat) (fs : Nat → Int32) (fk : Nat → Int32) (fl : Nat → Int32) (b1 : Nat) (j0 : Nat) (hp : p1 ≤ 32) (hst : ∀ j, j < 200 → 0 ≤ fs j) (hj : j0 < 200) (x_2 : Int32) (ex_2 : x_2 = fs j0 &&& 15) (x_4 : Int32) (ex_4 : x_4 = fs j0 >>> (4 &&& 31)) (c_5 : ¬ x_2 = 1) (c_10 : ¬ x_2 = 2) (c_22 : ¬ x_2 = 3) (c_35 : ¬ x_2 = 4) (c_48 : ¬ x_2 = 5) (c_61 : ¬ x_2 = 6) (c_74 : ¬ x_2 = 7) (c_87 : x_2 = 8) (pa_90 : Nat) (hz_90 : pa_90 ≤ 32) (r_89 : Int32) : pa_90 ≤ 32 := by
  first | assumption | omega
theorem lf_X9_stepOn_96 (t : Nat → Nat) (u : Int32) (cl : Int32) (rf : Int32) (p1 : Nat) (fs : Nat → Int32) (fk : Nat → Int32) (fl : Nat → Int32) (b1 : Nat) (j0 : Nat) (hp : p1 ≤ 32) (hst : ∀ j, j < 200 → 0 ≤ fs j) (hj : j0 < 200) (x_2 : Int32) (ex_2 : x_2 = fs j0 &&& 15) (x_4 : Int32) (ex_4 : x_4 = fs j0 >>> (4 &&& 31)) (c_5 : ¬ x_2 = 1) (c_10 : ¬ x_2 = 2) (c_22 : ¬ x_2 = 3) (c_35 : ¬ x_2 = 4) (c_48 : ¬ x_2 = 5) (c_61 : ¬ x_2 = 6) (c_74 : ¬ x_2 = 7) (c_87 : x_2 = 8) (pa_90 : Nat) (hz_90 : pa_90 ≤ 32) (r_89 : Int32) (pa_93 : Nat) (hz_93 : pa_93 ≤ 32) (r_92 : Int32) (ra_95 : Int32) (hz_95 : True) (r_94 : Int32) : pa_93 ≤ 32 := by
  first | assumption | omega
theorem lf_X9_stepOn_99 (t : Nat → Nat) (u : Int32) (cl : Int32) (rf : Int32) (p1 : Nat) (fs : Nat → Int32) (fk : Nat → Int32) (fl : Nat → Int32) (b1 : Nat) (j0 : Nat) (hp : p1 ≤ 32) (hst : ∀ j, j < 200 → 0 ≤ fs j) (hj : j0 < 200) (x_2 : Int32) (ex_2 : x_2 = fs j0 &&& 15) (x_4 : Int32) (ex_4 : x_4 = fs j0 >>> (4 &&& 31)) (c_5 : ¬ x_2 = 1) (c_10 : ¬ x_2 = 2) (c_22 : ¬ x_2 = 3) (c_35 : ¬ x_2 = 4) (c_48 : ¬ x_2 = 5) (c_61 : ¬ x_2 = 6) (c_74 : ¬ x_2 = 7) (c_87 : x_2 = 8) (pa_90 : Nat) (hz_90 : pa_90 ≤ 32) (r_89 : Int32) (pa_93 : Nat) (hz_93 : pa_93 ≤ 32) (r_92 : Int32) (ra_95 : Int32) (hz_95 : True) (r_94 : Int32) (pa_98 : Nat) (fa_98 : Nat → Int32) (hz_98 : pa_98 ≤ 32) : pa_98 ≤ 32 := by
  omega
theorem lf_X9_stepOn_101 (t : Nat → Nat) (u : Int32) (cl : Int32) (rf : Int32) (p1 : Nat) (fs : Nat → Int32) (fk : Nat → Int32) (fl : Nat → Int32) (b1 : Nat) (j0 : Nat) (hp : p1 ≤ 32) (hst : ∀ j, j < 200 → 0 ≤ fs j) (hj : j0 < 200) (x_2 : Int32) (ex_2 : x_2 = fs j0 &&& 15) (x_4 : Int32) (ex_4 : x_4 = fs j0 >>> (4 &&& 31)) (c_5 : ¬ x_2 = 1) (c_10 : ¬ x_2 = 2) (c_22 : ¬ x_2 = 3) (c_35 : ¬ x_2 = 4) (c_48 : ¬ x_2 = 5) (c_61 : ¬ x_2 = 6) (c_74 : ¬ x_2 = 7) (c_87 : ¬ x_2 = 8) (c_100 : x_2 = 9) : p1 ≤ 32 := by
  first | assumption | omega
theorem lf_X9_stepOn_104 (t : Nat → Nat) (u : Int32) (cl : Int32) (rf : Int32) (p1 : Nat) (fs : Nat → Int32) (fk : Nat → Int32) (fl : Nat → Int32) (b1 : Nat) (j0 : Nat) (hp : p1 ≤ 32) (hst : ∀ j, j < 200 → 0 ≤ fs j) (hj : j0 < 200) (x_2 : Int32) (ex_2 : x_2 = fs j0 &&& 15) (x_4 : Int32) (ex_4 : x_4 = fs j0 >>> (4 &&& 31)) (c_5 : ¬ x_2 = 1) (c_10 : ¬ x_2 = 2) (c_22 : ¬ x_2 = 3) (c_35 : ¬ x_2 = 4) (c_48 : ¬ x_2 = 5) (c_61 : ¬ x_2 = 6) (c_74 : ¬ x_2 = 7) (c_87 : ¬ x_2 = 8) (c_100 : x_2 = 9) (pa_103 : Nat) (hz_103 : pa_103 ≤ 32) (r_102 : Int32) : pa_103 ≤ 32 := by
  first | assumption | omega
theorem lf_X9_stepOn_109 (t : Nat → Nat) (u : Int32) (cl : Int32) (rf : Int32) (p1 : Nat) (fs : Nat → Int32) (fk : Nat → Int32) (fl : Nat → Int32) (b1 : Nat) (j0 : Nat) (hp : p1 ≤ 32) (hst : ∀ j, j < 200 → 0 ≤ fs j) (hj : j0 < 200) (x_2 : Int32) (ex_2 : x_2 = fs j0 &&& 15) (x_4 : Int32) (ex_4 : x_4 = fs j0 >>> (4 &&& 31)) (c_5 : ¬ x_2 = 1) (c_10 : ¬ x_2 = 2) (c_22 : ¬ x_2 = 3) (c_35 : ¬ x_2 = 4) (c_48 : ¬ x_2 = 5) (c_61 : ¬ x_2 = 6) (c_74 : ¬ x_2 = 7) (c_87 : ¬ x_2 = 8) (c_100 : x_2 = 9) (pa_103 : Nat) (hz_103 : pa_103 ≤ 32) (r_102 : Int32) (pa_106 : Nat) (hz_106 : pa_106 ≤ 32) (r_105 : Int32) (ra_108 : Int32) (hz_108 : True) (r_107 : Int32) : pa_106 ≤ 32 := by
  first | assumption | omega
theorem lf_X9_stepOn_112 (t : Nat → Nat) (u : Int32) (cl : Int32) (rf : Int32) (p1 : Nat) (fs : Nat → Int32) (fk : Nat → Int32) (fl : Nat → Int32) (b1 : Nat) (j0 : Nat) (hp : p1 ≤ 32) (hst : ∀ j, j < 200 → 0 ≤ fs j) (hj : j0 < 200) (x_2 : Int32) (ex_2 : x_2 = fs j0 &&& 15) (x_4 : Int32) (ex_4 : x_4 = fs j0 >>> (4 &&& 31)) (c_5 : ¬ x_2 = 1) (c_10 : ¬ x_2 = 2) (c_22 : ¬ x_2 = 3) (c_35 : ¬ x_2 = 4) (c_48 : ¬ x_2 = 5) (c_61 : ¬ x_2 = 6) (c_74 : ¬ x_2 = 7) (c_87 : ¬ x_2 = 8) (c_100 : x_2 = 9) (pa_103 : Nat) (hz_103 : pa_103 ≤ 32) (r_102 : Int32) (pa_106 : Nat) (hz_106 : pa_106 ≤ 32) (r_105 : Int32) (ra_108 : Int32) (hz_108 : True) (r_107 : Int32) (pa_111 : Nat) (fa_111 : Nat → Int32) (hz_111 : pa_111 ≤ 32) : pa_111 ≤ 32 := by
  omega
theorem lf_X9_stepOn_114 (t : Nat → Nat) (u : Int32) (cl : Int32) (rf : Int32) (p1 : Nat) (fs : Nat → Int32) (fk : Nat → Int32) (fl : Nat → Int32) (b1 : Nat) (j0 : Nat) (hp : p1 ≤ 32) (hst : ∀ j, j < 200 → 0 ≤ fs j) (hj : j0 < 200) (x_2 : Int32) (ex_2 : x_2 = fs j0 &&& 15) (x_4 : Int32) (ex_4 : x_4 = fs j0 >>> (4 &&& 31)) (c_5 : ¬ x_2 = 1) (c_10 : ¬ x_2 = 2) (c_22 : ¬ x_2 = 3) (c_35 : ¬ x_2 = 4) (c_48 : ¬ x_2 = 5) (c_61 : ¬ x_2 = 6) (c_74 : ¬ x_2 = 7) (c_87 : ¬ x_2 = 8) (c_100 : ¬ x_2 = 9) (c_113 : x_2 = 10) : p1 ≤ 32 := by
  first | assumption | omega
theorem lf_X9_stepOn_117 (t : Nat → Nat) (u : Int32) (cl : Int32) (rf : Int32) (p1 : Nat) (fs : Nat → Int32) (fk : Nat → Int32) (fl : Nat → Int32) (b1 : Nat) (j0 : Nat) (hp : p1 ≤ 32) (hst : ∀ j, j < 200 → 0 ≤ fs j) (hj : j0 < 200) (x_2 : Int32) (ex_2 : x_2 = fs j0 &&& 15) (x_4 : Int32) (ex_4 : x_4 = fs j0 >>> (4 &&& 31)) (c_5 : ¬ x_2 = 1) (c_10 : ¬ x_2 = 2) (c_22 : ¬ x_2 = 3) (c_35 : ¬ x_2 = 4) (c_48 : ¬ x_2 = 5) (c_61 : ¬ x_2 = 6) (c_74 : ¬ x_2 = 7) (c_87 : ¬ x_2 = 8) (c_100 : ¬ x_2 = 9) (c_113 : x_2 = 10) (pa_116 : Nat) (hz_116 : pa_116 ≤ 32) (r_115 : Int32) : pa_116 ≤ 32 := by
  first | assumption | omega
theorem lf_X9_stepOn_122 (t : Nat → Nat) (u : Int32) (cl : Int32) (rf : Int32) (p1 : Nat) (fs : Nat → Int32) (fk : Nat → Int32) (fl : Nat → Int32) (b1 : Nat) (j0 : Nat) (hp : p1 ≤ 32) (hst : ∀ j, j < 200 → 0 ≤ fs j) (hj : j0 < 200) (x_2 : Int32) (ex_2 : x_2 = fs j0 &&& 15) (x_4 : Int32) (ex_4 : x_4 = fs j0 >>> (4 &&& 31)) (c_5 : ¬ x_2 = 1) (c_10 : ¬ x_2 = 2) (c_22 : ¬ x_2 = 3) (c_35 : ¬ x_2 = 4) (c_48 : ¬ x_2 = 5) (c_61 : ¬ x_2 = 6) (c_74 : ¬ x_2 = 7) (c_87 : ¬ x_2 = 8) (c_100 : ¬ x_2 = 9) (c_113 : x_2 = 10) (pa_116 : Nat) (hz_116 : pa_116 ≤ 32) (r_115 : Int32) (pa_119 : Nat) (hz_119 : pa_119 ≤ 32) (r_118 : Int32) (ra_121 : Int32) (hz_121 : True) (r_120 : Int32) : pa_119 ≤ 32 := by
  first | assumption | omega
theorem lf_X9_stepOn_125 (t : Nat → Nat) (u : Int32) (cl : Int32) (rf : Int32) (p1 : Nat) (fs : Nat → Int32) (fk : Nat → Int32) (fl : Nat → Int32) (b1 : Nat) (j0 : Nat) (hp : p1 ≤ 32) (hst : ∀ j, j < 200 → 0 ≤ fs j) (hj : j0 < 200) (x_2 : Int32) (ex_2 : x_2 = fs j0 &&& 15) (x_4 : Int32) (ex_4 : x_4 = fs j0 >>> (4 &&& 31)) (c_5 : ¬ x_2 = 1) (c_10 : ¬ x_2 = 2) (c_22 : ¬ x_2 = 3) (c_35 : ¬ x_2 = 4) (c_48 : ¬ x_2 = 5) (c_61 : ¬ x_2 = 6) (c_74 : ¬ x_2 = 7) (c_87 : ¬ x_2 = 8) (c_100 : ¬ x_2 = 9) (c_113 : x_2 = 10) (pa_116 : Nat) (hz_116 : pa_116 ≤ 32) (r_115 : Int32) (pa_119 : Nat) (hz_119 : pa_119 ≤ 32) (r_118 : Int32) (ra_121 : Int32) (hz_121 : True) (r_120 : Int32) (pa_124 : Nat) (fa_124 : Nat → Int32) (hz_124 : pa_124 ≤ 32) : pa_124 ≤ 32 := by
  omega
theorem lf_X9_stepOn_127 (t : Nat → Nat) (u : Int32) (cl : Int32) (rf : Int32) (p1 : Nat) (fs : Nat → Int32) (fk : Nat → Int32) (fl : Nat → Int32) (b1 : Nat) (j0 : Nat) (hp : p1 ≤ 32) (hst : ∀ j, j < 200 → 0 ≤ fs j) (hj : j0 < 200) (x_2 : Int32) (ex_2 : x_2 = fs j0 &&& 15) (x_4 : Int32) (ex_4 : x_4 = fs j0 >>> (4 &&& 31)) (c_5 : ¬ x_2 = 1) (c_10 : ¬ x_2 = 2) (c_22 : ¬ x_2 = 3) (c_35 : ¬ x_2 = 4) (c_48 : ¬ x_2 = 5) (c_61 : ¬ x_2 = 6) (c_74 : ¬ x_2 = 7) (c_87 : ¬ x_2 = 8) (c_100 : ¬ x_2 = 9) (c_113 : ¬ x_2 = 10) (c_126 : x_2 = 11) : p1 ≤ 32 := by
  first | assumption | omega
theorem lf_X9_stepOn_131 (t : Nat → Nat) (u : Int32) (cl : Int32) (rf : Int32) (p1 : Nat) (fs : Nat → Int32) (fk : Nat → Int32) (fl : Nat → Int32) (b1 : Nat) (j0 : Nat) (hp : p1 ≤ 32) (hst : ∀ j, j < 200 → 0 ≤ fs j) (hj : j0 < 200) (x_2 : Int32) (ex_2 : x_2 = fs j0 &&& 15) (x_4 : Int32) (ex_4 : x_4 = fs j0 >>> (4 &&& 31)) (c_5 : ¬ x_2 = 1) (c_10 : ¬ x_2 = 2) (c_22 : ¬ x_2 = 3) (c_35 : ¬ x_2 = 4) (c_48 : ¬ x_2 = 5) (c_61 : ¬ x_2 = 6) (c_74 : ¬ x_2 = 7) (c_87 : ¬ x_2 = 8) (c_100 : ¬ x_2 = 9) (c_113 : ¬ x_2 = 10) (c_126 : x_2 = 11) (pa_129 : Nat) (hz_129 : pa_129 ≤ 32) (r_128 : Int32) (x_130 : Int32) (ex_130 : x_130 = 1 - r_128) : pa_129 ≤ 32 := by
  first | assumption | omega
theorem lf_X9_stepOn_134 (t : Nat → Nat) (u : Int32) (cl : Int32) (rf : Int32) (p1 : Nat) (fs : Nat → Int32) (fk : Nat → Int32) (fl : Nat → Int32) (b1 : Nat) (j0 : Nat) (hp : p1 ≤ 32) (hst : ∀ j, j < 200 → 0 ≤ fs j) (hj : j0 < 200) (x_2 : Int32) (ex_2 : x_2 = fs j0 &&& 15) (x_4 : Int32) (ex_4 : x_4 = fs j0 >>> (4 &&& 31)) (c_5 : ¬ x_2 = 1) (c_10 : ¬ x_2 = 2) (c_22 : ¬ x_2 = 3) (c_35 : ¬ x_2 = 4) (c_48 : ¬ x_2 = 5) (c_61 : ¬ x_2 = 6) (c_74 : ¬ x_2 = 7) (c_87 : ¬ x_2 = 8) (c_100 : ¬ x_2 = 9) (c_113 : ¬ x_2 = 10) (c_126 : x_2 = 11) (pa_129 : Nat) (hz_129 : pa_129 ≤ 32) (r_128 : Int32) (x_130 : Int32) (ex_130 : x_130 = 1 - r_128) (pa_133 : Nat) (fa_133 : Nat → Int32) (hz_133 : pa_133 ≤ 32) : pa_133 ≤ 32 := by
  omega
theorem lf_X9_stepOn_136 (t : Nat → Nat) (u : Int32) (cl : Int32) (rf : Int32) (p1 : Nat) (fs : Nat → Int32) (fk : Nat → Int32) (fl : Nat → Int32) (b1 : Nat) (j0 : Nat) (hp : p1 ≤ 32) (hst : ∀ j, j < 200 → 0 ≤ fs j) (hj : j0 < 200) (x_2 : Int32) (ex_2 : x_2 = fs j0 &&& 15) (x_4 : Int32) (ex_4 : x_4 = fs j0 >>> (4 &&& 31)) (c_5 : ¬ x_2 = 1) (c_10 : ¬ x_2 = 2) (c_22 : ¬ x_2 = 3) (c_35 : ¬ x_2 = 4) (c_48 : ¬ x_2 = 5) (c_61 : ¬ x_2 = 6) (c_74 : ¬ x_2 = 7) (c_87 : ¬ x_2 = 8) (c_100 : ¬ x_2 = 9) (c_113 : ¬ x_2 = 10) (c_126 : ¬ x_2 = 11) (c_135 : x_2 = 12) : p1 ≤ 32 := by
  first | assumption | omega
theorem lf_X9_stepOn_140 (t : Nat → Nat) (u : Int32) (cl : Int32) (rf : Int32) (p1 : Nat) (fs : Nat → Int32) (fk : Nat → Int32) (fl : Nat → Int32) (b1 : Nat) (j0 : Nat) (hp : p1 ≤ 32) (hst : ∀ j, j < 200 → 0 ≤ fs j) (hj : j0 < 200) (x_2 : Int32) (ex_2 : x_2 = fs j0 &&& 15) (x_4 : Int32) (ex_4 : x_4 = fs j0 >>> (4 &&& 31)) (c_5 : ¬ x_2 = 1) (c_10 : ¬ x_2 = 2) (c_22 : ¬ x_2 = 3) (c_35 : ¬ x_2 = 4) (c_48 : ¬ x_2 = 5) (c_61 : ¬ x_2 = 6) (c_74 : ¬ x_2 = 7) (c_87 : ¬ x_2 = 8) (c_100 : ¬ x_2 = 9) (c_113 : ¬ x_2 = 10) (c_126 : ¬ x_2 = 11) (c_135 : x_2 = 12) (pa_138 : Nat) (hz_138 : pa_138 ≤ 32) (r_137 : Int32) (c_139 : ¬ r_137 = 0) : pa_138 ≤ 32 := by
  omega
theorem lf_X9_stepOn_141 (t : Nat → Nat) (u : Int32) (cl : Int32) (rf : Int32) (p1 : Nat) (fs : Nat → Int32) (fk : Nat → Int32) (fl : Nat → Int32) (b1 : Nat) (j0 : Nat) (hp : p1 ≤ 32) (hst : ∀ j, j < 200 → 0 ≤ fs j) (hj : j0 < 200) (x_2 : Int32) (ex_2 : x_2 = fs j0 &&& 15) (x_4 : Int32) (ex_4 : x_4 = fs j0 >>> (4 &&& 31)) (c_5 : ¬ x_2 = 1) (c_10 : ¬ x_2 = 2) (c_22 : ¬ x_2 = 3) (c_35 : ¬ x_2 = 4) (c_48 : ¬ x_2 = 5) (c_61 : ¬ x_2 = 6) (c_74 : ¬ x_2 = 7) (c_87 : ¬ x_2 = 8) (c_100 : ¬ x_2 = 9) (c_113 : ¬ x_2 = 10) (c_126 : ¬ x_2 = 11) (c_135 : x_2 = 12) (pa_138 : Nat) (hz_138 : pa_138 ≤ 32) (r_137 : Int32) (c_139 : r_137 = 0) : pa_138 ≤ 32 := by
  first | assumption | omega
theorem lf_X9_stepOn_144 (t : Nat → Nat) (u : Int32) (cl : Int32) (rf : Int32) (p1 : Nat) (fs : Nat → Int32) (fk : Nat → Int32) (fl : Nat → Int32) (b1 : Nat) (j0 : Nat) (hp : p1 ≤ 32) (hst : ∀ j, j < 200 → 0 ≤ fs j) (hj : j0 < 200) (x_2 : Int32) (ex_2 : x_2 = fs j0 &&& 15) (x_4 : Int32) (ex_4 : x_4 = fs j0 >>> (4 &&& 31)) (c_5 : ¬ x_2 = 1) (c_10 : ¬ x_2 = 2) (c_22 : ¬ x_2 = 3) (c_35 : ¬ x_2 = 4) (c_48 : ¬ x_2 = 5) (c_61 : ¬ x_2 = 6) (c_74 : ¬ x_2 = 7) (c_87 : ¬ x_2 = 8) (c_100 : ¬ x_2 = 9) (c_113 : ¬ x_2 = 10) (c_126 : ¬ x_2 = 11) (c_135 : x_2 = 12) (pa_138 : Nat) (hz_138 : pa_138 ≤ 32) (r_137 : Int32) (c_139 : r_137 = 0) (pa_143 : Nat) (fa_143 : Nat → Int32) (hz_143 : pa_143 ≤ 32) : pa_143 ≤ 32 := by
  omega
theorem lf_X9_stepOn_146 (t : Nat → Nat) (u : Int32) (cl : Int32) (rf : Int32) (p1 : Nat) (fs : Nat → Int32) (fk : Nat → Int32) (fl : Nat → Int32) (b1 : Nat) (j0 : Nat) (hp : p1 ≤ 32) (hst : ∀ j, j < 200 → 0 ≤ fs j) (hj : j0 < 200) (x_2 : Int32) (ex_2 : x_2 = fs j0 &&& 15) (x_4 : Int32) (ex_4 : x_4 = fs j0 >>> (4 &&& 31)) (c_5 : ¬ x_2 = 1) (c_10 : ¬ x_2 = 2) (c_22 : ¬ x_2 = 3) (c_35 : ¬ x_2 = 4) (c_48 : ¬ x_2 = 5) (c_61 : ¬ x_2 = 6) (c_74 : ¬ x_2 = 7) (c_87 : ¬ x_2 = 8) (c_100 : ¬ x_2 = 9) (c_113 : ¬ x_2 = 10) (c_126 : ¬ x_2 = 11) (c_135 : ¬ x_2 = 12) (c_145 : x_2 = 13) : p1 ≤ 32 := by
  first | assumption | omega
theorem lf_X9_stepOn_150 (t : Nat → Nat) (u : Int32) (cl : Int32) (rf : Int32) (p1 : Nat) (fs : Nat → Int32) (fk : Nat → Int32) (fl : Nat → Int32) (b1 : Nat) (j0 : Nat) (hp : p1 ≤ 32) (hst : ∀ j, j < 200 → 0 ≤ fs j) (hj : j0 < 200) (x_2 : Int32) (ex_2 : x_2 = fs j0 &&& 15) (x_4 : Int32) (ex_4 : x_4 = fs j0 >>> (4 &&& 31)) (c_5 : ¬ x_2 = 1) (c_10 : ¬ x_2 = 2) (c_22 : ¬ x_2 = 3) (c_35 : ¬ x_2 = 4) (c_48 : ¬ x_2 = 5) (c_61 : ¬ x_2 = 6) (c_74 : ¬ x_2 = 7) (c_87 : ¬ x_2 = 8) (c_100 : ¬ x_2 = 9) (c_113 : ¬ x_2 = 10) (c_126 : ¬ x_2 = 11) (c_135 : ¬ x_2 = 12) (c_145 : x_2 = 13) (pa_148 : Nat) (hz_148 : pa_148 ≤ 32) (r_147 : Int32) (c_149 : ¬ r_147 = 1) : pa_148 ≤ 32 := by
  omega
theorem lf_X9_stepOn_151 (t : Nat → Nat) (u : Int32) (cl : Int32) (rf : Int32) (p1 : Nat) (fs : Nat → Int32) (fk : Nat → Int32) (fl : Nat → Int32) (b1 : Nat) (j0 : Nat) (hp : p1 ≤ 32) (hst : ∀ j, j < 200 → 0 ≤ fs j) (hj : j0 < 200) (x_2 : Int32) (ex_2 : x_2 = fs j0 &&& 15) (x_4 : Int32) (ex_4 : x_4 = fs j0 >>> (4 &&& 31)) (c_5 : ¬ x_2 = 1) (c_10 : ¬ x_2 = 2) (c_22 : ¬ x_2 = 3) (c_35 : ¬ x_2 = 4) (c_48 : ¬ x_2 = 5) (c_61 : ¬ x_2 = 6) (c_74 : ¬ x_2 = 7) (c_87 : ¬ x_2 = 8) (c_100 : ¬ x_2 = 9) (c_113 : ¬ x_2 = 10) (c_126 : ¬ x_2 = 11) (c_135 : ¬ x_2 = 12) (c_145 : x_2 = 13) (pa_148 : Nat) (hz_148 : pa_148 ≤ 32) (r_147 : Int32) (c_149 : r_147 = 1) : pa_148 ≤ 32 := by
  first | assumption | omega
theorem lf_X9_stepOn_154 (t : Nat → Nat) (u : Int32) (cl : Int32) (rf : Int32) (p1 : Nat) (fs : Nat → Int32) (fk : Nat → Int32) (fl : Nat → Int32) (b1 : Nat) (j0 : Nat) (hp : p1 ≤ 32) (hst : ∀ j, j < 200 → 0 ≤ fs j) (hj : j0 < 200) (x_2 : Int32) (ex_2 : x_2 = fs j0 &&& 15) (x_4 : Int32) (ex_4 : x_4 = fs j0 >>> (4 &&& 31)) (c_5 : ¬ x_2 = 1) (c_10 : ¬ x_2 = 2) (c_22 : ¬ x_2 = 3) (c_35 : ¬ x_2 = 4) (c_48 : ¬ x_2 = 5) (c_61 : ¬ x_2 = 6) (c_74 : ¬ x_2 = 7) (c_87 : ¬ x_2 = 8) (c_100 : ¬ x_2 = 9) (c_113 : ¬ x_2 = 10) (c_126 : ¬ x_2 = 11) (c_135 : ¬ x_2 = 12) (c_145 : x_2 = 13) (pa_148 : Nat) (hz_148 : pa_148 ≤ 32) (r_147 : Int32) (c_149 : r_147 = 1) (pa_153 : Nat) (fa_153 : Nat → Int32) (hz_153 : pa_153 ≤ 32) : pa_153 ≤ 32 := by
  omega
theorem lf_X9_stepOn_155 (t : Nat → Nat) (u : Int32) (cl : Int32) (rf : Int32) (p1 : Nat) (fs : Nat → Int32) (fk : Nat → Int32) (fl : Nat → Int32) (b1 : Nat) (j0 : Nat) (hp : p1 ≤ 32) (hst : ∀ j, j < 200 → 0 ≤ fs j) (hj : j0 < 200) (x_2 : Int32) (ex_2 : x_2 = fs j0 &&& 15) (x_4 : Int32) (ex_4 : x_4 = fs j0 >>> (4 &&& 31)) (c_5 : ¬ x_2 = 1) (c_10 : ¬ x_2 = 2) (c_22 : ¬ x_2 = 3) (c_35 : ¬ x_2 = 4) (c_48 : ¬ x_2 = 5) (c_61 : ¬ x_2 = 6) (c_74 : ¬ x_2 = 7) (c_87 : ¬ x_2 = 8) (c_100 : ¬ x_2 = 9) (c_113 : ¬ x_2 = 10) (c_126 : ¬ x_2 = 11) (c_135 : ¬ x_2 = 12) (c_145 : ¬ x_2 = 13) : x_2.toInt < 1 ∨ 13 < x_2.toInt := by
  have e : ∀ k : Int32, ¬ x_2 = k → x_2.toInt ≠ k.toInt := fun k h q => h (Int32.toInt_inj.mp q)
  have e1 := e 1 ‹¬ x_2 = 1›
  have z1 : (1 : Int32).toInt = 1 := by decide
  have e2 := e 2 ‹¬ x_2 = 2›
  have z2 : (2 : Int32).toInt = 2 := by decide
  have e3 := e 3 ‹¬ x_2 = 3›
  have z3 : (3 : Int32).toInt = 3 := by decide
  have e4 := e 4 ‹¬ x_2 = 4›
  have z4 : (4 : Int32).toInt = 4 := by decide
  have e5 := e 5 ‹¬ x_2 = 5›
  have z5 : (5 : Int32).toInt = 5 := by decide
  have e6 := e 6 ‹¬ x_2 = 6›
  have z6 : (6 : Int32).toInt = 6 := by decide
  have e7 := e 7 ‹¬ x_2 = 7›
  have z7 : (7 : Int32).toInt = 7 := by decide
  have e8 := e 8 ‹¬ x_2 = 8›
  have z8 : (8 : Int32).toInt = 8 := by decide
  have e9 := e 9 ‹¬ x_2 = 9›
  have z9 : (9 : Int32).toInt = 9 := by decide
  have e10 := e 10 ‹¬ x_2 = 10›
  have z10 : (10 : Int32).toInt = 10 := by decide
  have e11 := e 11 ‹¬ x_2 = 11›
  have z11 : (11 : Int32).toInt = 11 := by decide
  have e12 := e 12 ‹¬ x_2 = 12›
  have z12 : (12 : Int32).toInt = 12 := by decide
  have e13 := e 13 ‹¬ x_2 = 13›
  have z13 : (13 : Int32).toInt = 13 := by decide
  omega
theorem lf_X9_stepOn_156 (t : Nat → Nat) (u : Int32) (cl : Int32) (rf : Int32) (p1 : Nat) (fs : Nat → Int32) (fk : Nat → Int32) (fl : Nat → Int32) (b1 : Nat) (j0 : Nat) (hp : p1 ≤ 32) (hst : ∀ j, j < 200 → 0 ≤ fs j) (hj : j0 < 200) (x_2 : Int32) (ex_2 : x_2 = fs j0 &&& 15) (x_4 : Int32) (ex_4 : x_4 = fs j0 >>> (4 &&& 31)) (c_5 : ¬ x_2 = 1) (c_10 : ¬ x_2 = 2) (c_22 : ¬ x_2 = 3) (c_35 : ¬ x_2 = 4) (c_48 : ¬ x_2 = 5) (c_61 : ¬ x_2 = 6) (c_74 : ¬ x_2 = 7) (c_87 : ¬ x_2 = 8) (c_100 : ¬ x_2 = 9) (c_113 : ¬ x_2 = 10) (c_126 : ¬ x_2 = 11) (c_135 : ¬ x_2 = 12) (c_145 : ¬ x_2 = 13) : p1 ≤ 32 := by
  first | assumption | omega
theorem lf_X9_stepOn_159 (t : Nat → Nat) (u : Int32) (cl : Int32) (rf : Int32) (p1 : Nat) (fs : Nat → Int32) (fk : Nat → Int32) (fl : Nat → Int32) (b1 : Nat) (j0 : Nat) (hp : p1 ≤ 32) (hst : ∀ j, j < 200 → 0 ≤ fs j) (hj : j0 < 200) (x_2 : Int32) (ex_2 : x_2 = fs j0 &&& 15) (x_4 : Int32) (ex_4 : x_4 = fs j0 >>> (4 &&& 31)) (c_5 : ¬ x_2 = 1) (c_10 : ¬ x_2 = 2) (c_22 : ¬ x_2 = 3) (c_35 : ¬ x_2 = 4) (c_48 : ¬ x_2 = 5) (c_61 : ¬ x_2 = 6) (c_74 : ¬ x_2 = 7) (c_87 : ¬ x_2 = 8) (c_100 : ¬ x_2 = 9) (c_113 : ¬ x_2 = 10) (c_126 : ¬ x_2 = 11) (c_135 : ¬ x_2 = 12) (c_145 : ¬ x_2 = 13) (pa_158 : Nat) (hz_158 : pa_158 ≤ 32) (r_157 : Int32) : pa_158 ≤ 32 := by
  first | assumption | omega
theorem lf_X9_stepOn_164 (t : Nat → Nat) (u : Int32) (cl : Int32) (rf : Int32) (p1 : Nat) (fs : Nat → Int32) (fk : Nat → Int32) (fl : Nat → Int32) (b1 : Nat) (j0 : Nat) (hp : p1 ≤ 32) (hst : ∀ j, j < 200 → 0 ≤ fs j) (hj : j0 < 200) (x_2 : Int32) (ex_2 : x_2 = fs j0 &&& 15) (x_4 : Int32) (ex_4 : x_4 = fs j0 >>> (4 &&& 31)) (c_5 : ¬ x_2 = 1) (c_10 : ¬ x_2 = 2) (c_22 : ¬ x_2 = 3) (c_35 : ¬ x_2 = 4) (c_48 : ¬ x_2 = 5) (c_61 : ¬ x_2 = 6) (c_74 : ¬ x_2 = 7) (c_87 : ¬ x_2 = 8) (c_100 : ¬ x_2 = 9) (c_113 : ¬ x_2 = 10) (c_126 : ¬ x_2 = 11) (c_135 : ¬ x_2 = 12) (c_145 : ¬ x_2 = 13) (pa_158 : Nat) (hz_158 : pa_158 ≤ 32) (r_157 : Int32) (pa_161 : Nat) (hz_161 : pa_161 ≤ 32) (r_160 : Int32) (ra_163 : Int32) (hz_163 : True) (r_162 : Int32) : pa_161 ≤ 32 := by
  first | assumption | omega
theorem lf_X9_stepOn_167 (t : Nat → Nat) (u : Int32) (cl : Int32) (rf : Int32) (p1 : Nat) (fs : Nat → Int32) (fk : Nat → Int32) (fl : Nat → Int32) (b1 : Nat) (j0 : Nat) (hp : p1 ≤ 32) (hst : ∀ j, j < 200 → 0 ≤ fs j) (hj : j0 < 200) (x_2 : Int32) (ex_2 : x_2 = fs j0 &&& 15) (x_4 : Int32) (ex_4 : x_4 = fs j0 >>> (4 &&& 31)) (c_5 : ¬ x_2 = 1) (c_10 : ¬ x_2 = 2) (c_22 : ¬ x_2 = 3) (c_35 : ¬ x_2 = 4) (c_48 : ¬ x_2 = 5) (c_61 : ¬ x_2 = 6) (c_74 : ¬ x_2 = 7) (c_87 : ¬ x_2 = 8) (c_100 : ¬ x_2 = 9) (c_113 : ¬ x_2 = 10) (c_126 : ¬ x_2 = 11) (c_135 : ¬ x_2 = 12) (c_145 : ¬ x_2 = 13) (pa_158 : Nat) (hz_158 : pa_158 ≤ 32) (r_157 : Int32) (pa_161 : Nat) (hz_161 : pa_161 ≤ 32) (r_160 : Int32) (ra_163 : Int32) (hz_163 : True) (r_162 : Int32) (pa_166 : Nat) (fa_166 : Nat → Int32) (hz_166 : pa_166 ≤ 32) : pa_166 ≤ 32 := by
  omega
set_option maxHeartbeats 4000000 in
set_option maxRecDepth 100000 in
theorem c_X9_stepOn (l : Launch) (D : va_G) (cI cB cZ cJ : ClassId) (tx : List (ClassId × FieldType)) (t : Nat → Nat) (u : Int32) (cl : Int32) (rf : Int32) (p1 : Nat) (fs : Nat → Int32) (fk : Nat → Int32) (fl : Nat → Int32) (b1 : Nat) (j0 : Nat) (hp : p1 ≤ 32) (hst : ∀ j, j < 200 → 0 ≤ fs j) (hj : j0 < 200) : WrI l D cI cB cZ cJ tx yX9_stepOn cX9_stepOn 6 (some .int) 1 0 0 [.ref (t 0), .int (nI j0), .ref b1] [(t 0, .inr (9, [.ref (t 1), .ref (t 2), .ref (t 3), .ref (t 4), .ref (t 5), .int u, .int cl, .int (nI p1), .int rf])), (t 1, .inl (cI, 200, .inl fs)), (t 2, .inl (cI, 32, .inl fk)), (b1, .inl (cI, 26, .inl fl))] (fun (_ : Int32) (v : Nat × Int32 × (Nat → Int32)) => v.1 ≤ 32) (fun v => [(t 0, .inr (9, [.ref (t 1), .ref (t 2), .ref (t 3), .ref (t 4), .ref (t 5), .int u, .int cl, .int (nI v.1), .int v.2.1])), (t 1, .inl (cI, 200, .inl fs)), (t 2, .inl (cI, 32, .inl v.2.2)), (b1, .inl (cI, 26, .inl fl))]) := by
  refine wri_of2 (by decide) (Nat.le_of_ble_eq_true rfl) ?_
  intro p e s m below meth c A ls H locs hC hK hP hD hA hS hl
  obtain ⟨hx, hb, hr, hml, hown, hts, hlocks, hin⟩ := hC
  have hown : s.vm.findClass RX9 = some m.cls := hown
  have hl : lv_has ls 6 [(0, .ref (t 0)), (1, .int (nI j0)), (2, .ref b1)] := hl
  refine lv_aload_n hx hb dX9_stepOn_0 rfl (lv_at hl 0 rfl) ?_
  refine va_get (D := D) (ci := 9) (v := .ref (t 1)) (C := RX9) (T := TX9) (N := 9) hx hb hts inT_X9 hown hK.1 hP 0 rfl rfl 0 (by decide) (hts _ k_194) (fun _ h9 => h9) rfl dX9_stepOn_1 ?_
  refine lv_iload_n hx hb dX9_stepOn_4 rfl (lv_at hl 1 rfl) ?_
  refine lt_i (j := j0) hx hb hK hP 1 rfl (lf_X9_stepOn_1 t u cl rf p1 fs fk fl b1 j0 hp hst hj) (by decide) dX9_stepOn_5 ?_
  refine lv_bipush (v := 15) hx hb dX9_stepOn_6 (by decide) ?_
  refine lv_iand hx hb dX9_stepOn_8 ?_
  refine lv_topi (fun x_2 ex_2 => ?_)
  refine lv_istore_n (lv' := [(3, .int x_2), (0, .ref (t 0)), (1, .int (nI j0)), (2, .ref b1)]) hx hb dX9_stepOn_9 rfl hl (by decide) rfl (fun ls hl => ?_)
  refine lv_aload_n hx hb dX9_stepOn_10 rfl (lv_at hl 1 rfl) ?_
  refine va_get (D := D) (ci := 9) (v := .ref (t 1)) (C := RX9) (T := TX9) (N := 9) hx hb hts inT_X9 hown hK.1 hP 0 rfl rfl 0 (by decide) (hts _ k_194) (fun _ h9 => h9) rfl dX9_stepOn_11 ?_
  refine lv_iload_n hx hb dX9_stepOn_14 rfl (lv_at hl 2 rfl) ?_
  refine lt_i (j := j0) hx hb hK hP 1 rfl (lf_X9_stepOn_3 t u cl rf p1 fs fk fl b1 j0 hp hst hj x_2 ex_2) (by decide) dX9_stepOn_15 ?_
  refine lv_iconst (v := 4) hx hb dX9_stepOn_16 (by decide) ?_
  refine lv_ishr hx hb dX9_stepOn_17 ?_
  refine lv_topi (fun x_4 ex_4 => ?_)
  refine lv_istore (lv' := [(4, .int x_4), (3, .int x_2), (0, .ref (t 0)), (1, .int (nI j0)), (2, .ref b1)]) hx hb dX9_stepOn_18 hl (by decide) rfl (fun ls hl => ?_)
  refine lv_iload_n hx hb dX9_stepOn_20 rfl (lv_at hl 1 rfl) ?_
  by_cases c_5 : x_2 = 1
  · subst c_5
    refine lv_tableIn (off := 67) (tgt := 88) hx hb dX9_stepOn_21 (by decide) (by decide) rfl (by decide) ?_
    refine lv_aload_n hx hb dX9_stepOn_88 rfl (lv_at hl 2 rfl) ?_
    refine lv_iload hx hb dX9_stepOn_89 (lv_at hl 0 rfl) ?_
    refine eWv (wr := [(t 1, .inl (cI, 200, .inl fs)), (b1, .inl (cI, 26, .inl fl))]) (va_runV (As := [.int x_4]) (rest := []) ⟨hx, hb, hml, hown, hts⟩ (c_X9_push l D cI cB cZ cJ tx t u cl rf p1 fk x_4 (lf_X9_stepOn_6 t u cl rf p1 fs fk fl b1 j0 hp hst hj 1 ex_2 x_4 ex_4 rfl) H.size) (zV hts k_795 v_X9_push ⟨Nat.le_of_ble_eq_true rfl, Nat.le_of_ble_eq_true rfl⟩) (pV (pxS hK hP hD [0, 2] (by decide) rfl) hK hP 0 rfl rfl) rfl rfl hl.1 rfl (lv_room (Nat.le_of_ble_eq_true rfl)) dX9_stepOn_91 ⟨Nat.le_of_ble_eq_true rfl, Nat.le_of_ble_eq_true rfl⟩) hP hD hS hA [0, 2] [1, 3] rfl rfl (by decide) (by decide) (fun u_8 H locs wr_7 hP hD hS => ?_)
    obtain ⟨pa_8, fa_8⟩ := u_8
    have hz_8 : pa_8 ≤ 32 := wr_7
    have hP : va_P D vwCl [(t 1, .inl (cI, 200, .inl fs)), (b1, .inl (cI, 26, .inl fl)), (t 0, .inr (9, [.ref (t 1), .ref (t 2), .ref (t 3), .ref (t 4), .ref (t 5), .int u, .int cl, .int (nI pa_8), .int rf])), (t 2, .inl (cI, 32, .inl fa_8))] H := hP
    have hD : va_D A [(t 1, .inl (cI, 200, .inl fs)), (b1, .inl (cI, 26, .inl fl)), (t 0, .inr (9, [.ref (t 1), .ref (t 2), .ref (t 3), .ref (t 4), .ref (t 5), .int u, .int cl, .int (nI pa_8), .int rf])), (t 2, .inl (cI, 32, .inl fa_8))] := hD
    refine lv_iload_n hx hb dX9_stepOn_94 rfl (lv_at hl 3 rfl) ?_
    refine lv_iconst (v := 1) hx hb dX9_stepOn_95 (by decide) ?_
    refine lv_iadd hx hb dX9_stepOn_96 ?_
    refine lv_topv (y := nI (j0 + 1)) (nI_add j0 1) ?_
    have hP := hP.sub (ws' := [(t 0, .inr (9, [.ref (t 1), .ref (t 2), .ref (t 3), .ref (t 4), .ref (t 5), .int u, .int cl, .int (nI pa_8), .int rf])), (t 1, .inl (cI, 200, .inl fs)), (t 2, .inl (cI, 32, .inl fa_8)), (b1, .inl (cI, 26, .inl fl))]) [2, 0, 3, 1] rfl
    have hD := hD.sub (ws' := [(t 0, .inr (9, [.ref (t 1), .ref (t 2), .ref (t 3), .ref (t 4), .ref (t 5), .int u, .int cl, .int (nI pa_8), .int rf])), (t 1, .inl (cI, 200, .inl fs)), (t 2, .inl (cI, 32, .inl fa_8)), (b1, .inl (cI, 26, .inl fl))]) [2, 0, 3, 1] (by decide) rfl
    exact W.iret (v := nI (j0 + 1)) hx hb hr (fun tt9 ht hW => ⟨⟨(nI (j0 + 1) : Int32), (pa_8, (rf : Int32), fa_8), rfl, (lf_X9_stepOn_9 t u cl rf p1 fs fk fl b1 j0 hp hst hj 1 ex_2 x_4 ex_4 rfl pa_8 fa_8 hz_8), ⟨by rw [ht]; exact hP, hD⟩⟩, hS.F ht⟩) hS.2.2 dX9_stepOn_97 hlocks
  by_cases c_10 : x_2 = 2
  · subst c_10
    refine lv_tableIn (off := 77) (tgt := 98) hx hb dX9_stepOn_21 (by decide) (by decide) rfl (by decide) ?_
    refine lv_aload_n hx hb dX9_stepOn_98 rfl (lv_at hl 2 rfl) ?_
    refine lv_iload hx hb dX9_stepOn_99 (lv_at hl 0 rfl) ?_
    refine lv_aload_n hx hb dX9_stepOn_101 rfl (lv_at hl 4 rfl) ?_
    refine ln_x (v := 26) hx hb hK hP 3 0 rfl rfl (show Int32.ofNat 26 = 26 from by decide) dX9_stepOn_102 ?_
    refine lv_icmp_ge (tgt := 113) hx hb dX9_stepOn_103 (by decide) (fun c_11 => ?_) (fun c_11 => ?_)
    · refine lv_iconst (v := 0) hx hb dX9_stepOn_113 (by decide) ?_
      refine eWv (wr := [(t 1, .inl (cI, 200, .inl fs)), (b1, .inl (cI, 26, .inl fl))]) (va_runV (As := [.int 0]) (rest := []) ⟨hx, hb, hml, hown, hts⟩ (c_X9_push l D cI cB cZ cJ tx t u cl rf p1 fk 0 (lf_X9_stepOn_12 t u cl rf p1 fs fk fl b1 j0 hp hst hj 2 ex_2 x_4 ex_4 c_5 rfl c_11) H.size) (zV hts k_795 v_X9_push ⟨Nat.le_of_ble_eq_true rfl, Nat.le_of_ble_eq_true rfl⟩) (pV (pxS hK hP hD [0, 2] (by decide) rfl) hK hP 0 rfl rfl) rfl rfl hl.1 rfl (lv_room (Nat.le_of_ble_eq_true rfl)) dX9_stepOn_114 ⟨Nat.le_of_ble_eq_true rfl, Nat.le_of_ble_eq_true rfl⟩) hP hD hS hA [0, 2] [1, 3] rfl rfl (by decide) (by decide) (fun u_14 H locs wr_13 hP hD hS => ?_)
      obtain ⟨pa_14, fa_14⟩ := u_14
      have hz_14 : pa_14 ≤ 32 := wr_13
      have hP : va_P D vwCl [(t 1, .inl (cI, 200, .inl fs)), (b1, .inl (cI, 26, .inl fl)), (t 0, .inr (9, [.ref (t 1), .ref (t 2), .ref (t 3), .ref (t 4), .ref (t 5), .int u, .int cl, .int (nI pa_14), .int rf])), (t 2, .inl (cI, 32, .inl fa_14))] H := hP
      have hD : va_D A [(t 1, .inl (cI, 200, .inl fs)), (b1, .inl (cI, 26, .inl fl)), (t 0, .inr (9, [.ref (t 1), .ref (t 2), .ref (t 3), .ref (t 4), .ref (t 5), .int u, .int cl, .int (nI pa_14), .int rf])), (t 2, .inl (cI, 32, .inl fa_14))] := hD
      refine lv_iload_n hx hb dX9_stepOn_117 rfl (lv_at hl 3 rfl) ?_
      refine lv_iconst (v := 1) hx hb dX9_stepOn_118 (by decide) ?_
      refine lv_iadd hx hb dX9_stepOn_119 ?_
      refine lv_topv (y := nI (j0 + 1)) (nI_add j0 1) ?_
      have hP := hP.sub (ws' := [(t 0, .inr (9, [.ref (t 1), .ref (t 2), .ref (t 3), .ref (t 4), .ref (t 5), .int u, .int cl, .int (nI pa_14), .int rf])), (t 1, .inl (cI, 200, .inl fs)), (t 2, .inl (cI, 32, .inl fa_14)), (b1, .inl (cI, 26, .inl fl))]) [2, 0, 3, 1] rfl
      have hD := hD.sub (ws' := [(t 0, .inr (9, [.ref (t 1), .ref (t 2), .ref (t 3), .ref (t 4), .ref (t 5), .int u, .int cl, .int (nI pa_14), .int rf])), (t 1, .inl (cI, 200, .inl fs)), (t 2, .inl (cI, 32, .inl fa_14)), (b1, .inl (cI, 26, .inl fl))]) [2, 0, 3, 1] (by decide) rfl
      exact W.iret (v := nI (j0 + 1)) hx hb hr (fun tt9 ht hW => ⟨⟨(nI (j0 + 1) : Int32), (pa_14, (rf : Int32), fa_14), rfl, (lf_X9_stepOn_15 t u cl rf p1 fs fk fl b1 j0 hp hst hj 2 ex_2 x_4 ex_4 c_5 rfl c_11 pa_14 fa_14 hz_14), ⟨by rw [ht]; exact hP, hD⟩⟩, hS.F ht⟩) hS.2.2 dX9_stepOn_120 hlocks
    · refine lv_aload_n hx hb dX9_stepOn_106 rfl (lv_at hl 4 rfl) ?_
      refine lv_iload hx hb dX9_stepOn_107 (lv_at hl 0 rfl) ?_
      refine ld_i hx hb hK hP 3 rfl (lf_X9_stepOn_16 t u cl rf p1 fs fk fl b1 j0 hp hst hj 2 ex_2 x_4 ex_4 c_5 rfl c_11) dX9_stepOn_109 (fun x_17 => ?_)
      refine lv_goto (tgt := 114) hx hb dX9_stepOn_110 (by decide) ?_
      refine eWv (wr := [(t 1, .inl (cI, 200, .inl fs)), (b1, .inl (cI, 26, .inl fl))]) (va_runV (As := [.int x_17]) (rest := []) ⟨hx, hb, hml, hown, hts⟩ (c_X9_push l D cI cB cZ cJ tx t u cl rf p1 fk x_17 (lf_X9_stepOn_18 t u cl rf p1 fs fk fl b1 j0 hp hst hj 2 ex_2 x_4 ex_4 c_5 rfl c_11 x_17) H.size) (zV hts k_795 v_X9_push ⟨Nat.le_of_ble_eq_true rfl, Nat.le_of_ble_eq_true rfl⟩) (pV (pxS hK hP hD [0, 2] (by decide) rfl) hK hP 0 rfl rfl) rfl rfl hl.1 rfl (lv_room (Nat.le_of_ble_eq_true rfl)) dX9_stepOn_114 ⟨Nat.le_of_ble_eq_true rfl, Nat.le_of_ble_eq_true rfl⟩) hP hD hS hA [0, 2] [1, 3] rfl rfl (by decide) (by decide) (fun u_20 H locs wr_19 hP hD hS => ?_)
      obtain ⟨pa_20, fa_20⟩ := u_20
      have hz_20 : pa_20 ≤ 32 := wr_19
      have hP : va_P D vwCl [(t 1, .inl (cI, 200, .inl fs)), (b1, .inl (cI, 26, .inl fl)), (t 0, .inr (9, [.ref (t 1), .ref (t 2), .ref (t 3), .ref (t 4), .ref (t 5), .int u, .int cl, .int (nI pa_20), .int rf])), (t 2, .inl (cI, 32, .inl fa_20))] H := hP
      have hD : va_D A [(t 1, .inl (cI, 200, .inl fs)), (b1, .inl (cI, 26, .inl fl)), (t 0, .inr (9, [.ref (t 1), .ref (t 2), .ref (t 3), .ref (t 4), .ref (t 5), .int u, .int cl, .int (nI pa_20), .int rf])), (t 2, .inl (cI, 32, .inl fa_20))] := hD
      refine lv_iload_n hx hb dX9_stepOn_117 rfl (lv_at hl 3 rfl) ?_
      refine lv_iconst (v := 1) hx hb dX9_stepOn_118 (by decide) ?_
      refine lv_iadd hx hb dX9_stepOn_119 ?_
      refine lv_topv (y := nI (j0 + 1)) (nI_add j0 1) ?_
      have hP := hP.sub (ws' := [(t 0, .inr (9, [.ref (t 1), .ref (t 2), .ref (t 3), .ref (t 4), .ref (t 5), .int u, .int cl, .int (nI pa_20), .int rf])), (t 1, .inl (cI, 200, .inl fs)), (t 2, .inl (cI, 32, .inl fa_20)), (b1, .inl (cI, 26, .inl fl))]) [2, 0, 3, 1] rfl
      have hD := hD.sub (ws' := [(t 0, .inr (9, [.ref (t 1), .ref (t 2), .ref (t 3), .ref (t 4), .ref (t 5), .int u, .int cl, .int (nI pa_20), .int rf])), (t 1, .inl (cI, 200, .inl fs)), (t 2, .inl (cI, 32, .inl fa_20)), (b1, .inl (cI, 26, .inl fl))]) [2, 0, 3, 1] (by decide) rfl
      exact W.iret (v := nI (j0 + 1)) hx hb hr (fun tt9 ht hW => ⟨⟨(nI (j0 + 1) : Int32), (pa_20, (rf : Int32), fa_20), rfl, (lf_X9_stepOn_21 t u cl rf p1 fs fk fl b1 j0 hp hst hj 2 ex_2 x_4 ex_4 c_5 rfl c_11 x_17 pa_20 fa_20 hz_20), ⟨by rw [ht]; exact hP, hD⟩⟩, hS.F ht⟩) hS.2.2 dX9_stepOn_120 hlocks
  by_cases c_22 : x_2 = 3
  · subst c_22
    refine lv_tableIn (off := 149) (tgt := 170) hx hb dX9_stepOn_21 (by decide) (by decide) rfl (by decide) ?_
    refine lv_aload_n hx hb dX9_stepOn_170 rfl (lv_at hl 2 rfl) ?_
    refine eWi (wr := [(t 1, .inl (cI, 200, .inl fs)), (b1, .inl (cI, 26, .inl fl))]) (va_runV (As := []) (rest := []) ⟨hx, hb, hml, hown, hts⟩ (c_X9_pop l D cI cB cZ cJ tx t u cl rf p1 fk (lf_X9_stepOn_23 t u cl rf p1 fs fk fl b1 j0 hp hst hj 3 ex_2 x_4 ex_4 c_5 c_10 rfl) H.size) (zV hts k_799 v_X9_pop ⟨Nat.le_of_ble_eq_true rfl, Nat.le_of_ble_eq_true rfl⟩) (pV (pxS hK hP hD [0, 2] (by decide) rfl) hK hP 0 rfl rfl) rfl rfl hl.1 rfl (lv_room (Nat.le_of_ble_eq_true rfl)) dX9_stepOn_171 ⟨Nat.le_of_ble_eq_true rfl, Nat.le_of_ble_eq_true rfl⟩) hP hD hS hA [0, 2] [1, 3] rfl rfl (by decide) (by decide) (fun r_24 u_25 H locs wr_24 hP hD hS => ?_)
    obtain ⟨pa_25, rfl⟩ : ∃ z, z = u_25 := ⟨_, rfl⟩
    have hz_25 : pa_25 ≤ 32 := wr_24
    have hP : va_P D vwCl [(t 1, .inl (cI, 200, .inl fs)), (b1, .inl (cI, 26, .inl fl)), (t 0, .inr (9, [.ref (t 1), .ref (t 2), .ref (t 3), .ref (t 4), .ref (t 5), .int u, .int cl, .int (nI pa_25), .int rf])), (t 2, .inl (cI, 32, .inl fk))] H := hP
    have hD : va_D A [(t 1, .inl (cI, 200, .inl fs)), (b1, .inl (cI, 26, .inl fl)), (t 0, .inr (9, [.ref (t 1), .ref (t 2), .ref (t 3), .ref (t 4), .ref (t 5), .int u, .int cl, .int (nI pa_25), .int rf])), (t 2, .inl (cI, 32, .inl fk))] := hD
    refine lv_istore (lv' := [(5, .int r_24), (4, .int x_4), (3, .int 3), (0, .ref (t 0)), (1, .int (nI j0)), (2, .ref b1)]) hx hb dX9_stepOn_174 hl (by decide) rfl (fun ls hl => ?_)
    refine lv_aload_n hx hb dX9_stepOn_176 rfl (lv_at hl 3 rfl) ?_
    refine lv_aload_n hx hb dX9_stepOn_177 rfl (lv_at hl 3 rfl) ?_
    refine lv_iload_n hx hb dX9_stepOn_178 rfl (lv_at hl 2 rfl) ?_
    refine lv_aload_n hx hb dX9_stepOn_179 rfl (lv_at hl 3 rfl) ?_
    refine eWi (wr := [(t 1, .inl (cI, 200, .inl fs)), (b1, .inl (cI, 26, .inl fl))]) (va_runV (As := []) (rest := [.int 3, .ref (t 0), .ref (t 0)]) ⟨hx, hb, hml, hown, hts⟩ (c_X9_pop l D cI cB cZ cJ tx t u cl rf pa_25 fk (lf_X9_stepOn_26 t u cl rf p1 fs fk fl b1 j0 hp hst hj 3 ex_2 x_4 ex_4 c_5 c_10 rfl pa_25 hz_25 r_24) H.size) (zV hts k_799 v_X9_pop ⟨Nat.le_of_ble_eq_true rfl, Nat.le_of_ble_eq_true rfl⟩) (pV (pxS hK hP hD [2, 3] (by decide) rfl) hK hP 2 rfl rfl) rfl rfl hl.1 rfl (lv_room (Nat.le_of_ble_eq_true rfl)) dX9_stepOn_180 ⟨Nat.le_of_ble_eq_true rfl, Nat.le_of_ble_eq_true rfl⟩) hP hD hS hA [2, 3] [0, 1] rfl rfl (by decide) (by decide) (fun r_27 u_28 H locs wr_27 hP hD hS => ?_)
    obtain ⟨pa_28, rfl⟩ : ∃ z, z = u_28 := ⟨_, rfl⟩
    have hz_28 : pa_28 ≤ 32 := wr_27
    have hP : va_P D vwCl [(t 1, .inl (cI, 200, .inl fs)), (b1, .inl (cI, 26, .inl fl)), (t 0, .inr (9, [.ref (t 1), .ref (t 2), .ref (t 3), .ref (t 4), .ref (t 5), .int u, .int cl, .int (nI pa_28), .int rf])), (t 2, .inl (cI, 32, .inl fk))] H := hP
    have hD : va_D A [(t 1, .inl (cI, 200, .inl fs)), (b1, .inl (cI, 26, .inl fl)), (t 0, .inr (9, [.ref (t 1), .ref (t 2), .ref (t 3), .ref (t 4), .ref (t 5), .int u, .int cl, .int (nI pa_28), .int rf])), (t 2, .inl (cI, 32, .inl fk))] := hD
    refine lv_iload hx hb dX9_stepOn_183 (lv_at hl 0 rfl) ?_
    refine eWi (wr := [(t 1, .inl (cI, 200, .inl fs)), (b1, .inl (cI, 26, .inl fl)), (t 2, .inl (cI, 32, .inl fk))]) (va_runV (As := [.int 3, .int r_27, .int r_24]) (rest := [.ref (t 0)]) ⟨hx, hb, hml, hown, hts⟩ (c_X9_reckon l D cI cB cZ cJ tx t u cl (nI pa_28) rf 3 r_27 r_24 H.size) (zV hts k_803 v_X9_reckon ⟨Nat.le_of_ble_eq_true rfl, Nat.le_of_ble_eq_true rfl⟩) (pV (pxS hK hP hD [2] (by decide) rfl) hK hP 2 rfl rfl) rfl rfl hl.1 rfl (lv_room (Nat.le_of_ble_eq_true rfl)) dX9_stepOn_185 ⟨Nat.le_of_ble_eq_true rfl, Nat.le_of_ble_eq_true rfl⟩) hP hD hS hA [2] [0, 1, 3] rfl rfl (by decide) (by decide) (fun r_29 u_30 H locs wr_29 hP hD hS => ?_)
    obtain ⟨ra_30, rfl⟩ : ∃ z, z = u_30 := ⟨_, rfl⟩
    have hz_30 : True := wr_29
    have hP : va_P D vwCl [(t 1, .inl (cI, 200, .inl fs)), (b1, .inl (cI, 26, .inl fl)), (t 2, .inl (cI, 32, .inl fk)), (t 0, .inr (9, [.ref (t 1), .ref (t 2), .ref (t 3), .ref (t 4), .ref (t 5), .int u, .int cl, .int (nI pa_28), .int ra_30]))] H := hP
    have hD : va_D A [(t 1, .inl (cI, 200, .inl fs)), (b1, .inl (cI, 26, .inl fl)), (t 2, .inl (cI, 32, .inl fk)), (t 0, .inr (9, [.ref (t 1), .ref (t 2), .ref (t 3), .ref (t 4), .ref (t 5), .int u, .int cl, .int (nI pa_28), .int ra_30]))] := hD
    refine eWv (wr := [(t 1, .inl (cI, 200, .inl fs)), (b1, .inl (cI, 26, .inl fl))]) (va_runV (As := [.int r_29]) (rest := []) ⟨hx, hb, hml, hown, hts⟩ (c_X9_push l D cI cB cZ cJ tx t u cl ra_30 pa_28 fk r_29 (lf_X9_stepOn_31 t u cl rf p1 fs fk fl b1 j0 hp hst hj 3 ex_2 x_4 ex_4 c_5 c_10 rfl pa_25 hz_25 r_24 pa_28 hz_28 r_27 ra_30 hz_30 r_29) H.size) (zV hts k_795 v_X9_push ⟨Nat.le_of_ble_eq_true rfl, Nat.le_of_ble_eq_true rfl⟩) (pV (pxS hK hP hD [3, 2] (by decide) rfl) hK hP 3 rfl rfl) rfl rfl hl.1 rfl (lv_room (Nat.le_of_ble_eq_true rfl)) dX9_stepOn_188 ⟨Nat.le_of_ble_eq_true rfl, Nat.le_of_ble_eq_true rfl⟩) hP hD hS hA [3, 2] [0, 1] rfl rfl (by decide) (by decide) (fun u_33 H locs wr_32 hP hD hS => ?_)
    obtain ⟨pa_33, fa_33⟩ := u_33
    have hz_33 : pa_33 ≤ 32 := wr_32
    have hP : va_P D vwCl [(t 1, .inl (cI, 200, .inl fs)), (b1, .inl (cI, 26, .inl fl)), (t 0, .inr (9, [.ref (t 1), .ref (t 2), .ref (t 3), .ref (t 4), .ref (t 5), .int u, .int cl, .int (nI pa_33), .int ra_30])), (t 2, .inl (cI, 32, .inl fa_33))] H := hP
    have hD : va_D A [(t 1, .inl (cI, 200, .inl fs)), (b1, .inl (cI, 26, .inl fl)), (t 0, .inr (9, [.ref (t 1), .ref (t 2), .ref (t 3), .ref (t 4), .ref (t 5), .int u, .int cl, .int (nI pa_33), .int ra_30])), (t 2, .inl (cI, 32, .inl fa_33))] := hD
    refine lv_iload_n hx hb dX9_stepOn_191 rfl (lv_at hl 4 rfl) ?_
    refine lv_iconst (v := 1) hx hb dX9_stepOn_192 (by decide) ?_
    refine lv_iadd hx hb dX9_stepOn_193 ?_
    refine lv_topv (y := nI (j0 + 1)) (nI_add j0 1) ?_
    have hP := hP.sub (ws' := [(t 0, .inr (9, [.ref (t 1), .ref (t 2), .ref (t 3), .ref (t 4), .ref (t 5), .int u, .int cl, .int (nI pa_33), .int ra_30])), (t 1, .inl (cI, 200, .inl fs)), (t 2, .inl (cI, 32, .inl fa_33)), (b1, .inl (cI, 26, .inl fl))]) [2, 0, 3, 1] rfl
    have hD := hD.sub (ws' := [(t 0, .inr (9, [.ref (t 1), .ref (t 2), .ref (t 3), .ref (t 4), .ref (t 5), .int u, .int cl, .int (nI pa_33), .int ra_30])), (t 1, .inl (cI, 200, .inl fs)), (t 2, .inl (cI, 32, .inl fa_33)), (b1, .inl (cI, 26, .inl fl))]) [2, 0, 3, 1] (by decide) rfl
    exact W.iret (v := nI (j0 + 1)) hx hb hr (fun tt9 ht hW => ⟨⟨(nI (j0 + 1) : Int32), (pa_33, (ra_30 : Int32), fa_33), rfl, (lf_X9_stepOn_34 t u cl rf p1 fs fk fl b1 j0 hp hst hj 3 ex_2 x_4 ex_4 c_5 c_10 rfl pa_25 hz_25 r_24 pa_28 hz_28 r_27 ra_30 hz_30 r_29 pa_33 fa_33 hz_33), ⟨by rw [ht]; exact hP, hD⟩⟩, hS.F ht⟩) hS.2.2 dX9_stepOn_194 hlocks
  by_cases c_35 : x_2 = 4
  · subst c_35
    refine lv_tableIn (off := 149) (tgt := 170) hx hb dX9_stepOn_21 (by decide) (by decide) rfl (by decide) ?_
    refine lv_aload_n hx hb dX9_stepOn_170 rfl (lv_at hl 2 rfl) ?_
    refine eWi (wr := [(t 1, .inl (cI, 200, .inl fs)), (b1, .inl (cI, 26, .inl fl))]) (va_runV (As := []) (rest := []) ⟨hx, hb, hml, hown, hts⟩ (c_X9_pop l D cI cB cZ cJ tx t u cl rf p1 fk (lf_X9_stepOn_36 t u cl rf p1 fs fk fl b1 j0 hp hst hj 4 ex_2 x_4 ex_4 c_5 c_10 c_22 rfl) H.size) (zV hts k_799 v_X9_pop ⟨Nat.le_of_ble_eq_true rfl, Nat.le_of_ble_eq_true rfl⟩) (pV (pxS hK hP hD [0, 2] (by decide) rfl) hK hP 0 rfl rfl) rfl rfl hl.1 rfl (lv_room (Nat.le_of_ble_eq_true rfl)) dX9_stepOn_171 ⟨Nat.le_of_ble_eq_true rfl, Nat.le_of_ble_eq_true rfl⟩) hP hD hS hA [0, 2] [1, 3] rfl rfl (by decide) (by decide) (fun r_37 u_38 H locs wr_37 hP hD hS => ?_)
    obtain ⟨pa_38, rfl⟩ : ∃ z, z = u_38 := ⟨_, rfl⟩
    have hz_38 : pa_38 ≤ 32 := wr_37
    have hP : va_P D vwCl [(t 1, .inl (cI, 200, .inl fs)), (b1, .inl (cI, 26, .inl fl)), (t 0, .inr (9, [.ref (t 1), .ref (t 2), .ref (t 3), .ref (t 4), .ref (t 5), .int u, .int cl, .int (nI pa_38), .int rf])), (t 2, .inl (cI, 32, .inl fk))] H := hP
    have hD : va_D A [(t 1, .inl (cI, 200, .inl fs)), (b1, .inl (cI, 26, .inl fl)), (t 0, .inr (9, [.ref (t 1), .ref (t 2), .ref (t 3), .ref (t 4), .ref (t 5), .int u, .int cl, .int (nI pa_38), .int rf])), (t 2, .inl (cI, 32, .inl fk))] := hD
    refine lv_istore (lv' := [(5, .int r_37), (4, .int x_4), (3, .int 4), (0, .ref (t 0)), (1, .int (nI j0)), (2, .ref b1)]) hx hb dX9_stepOn_174 hl (by decide) rfl (fun ls hl => ?_)
    refine lv_aload_n hx hb dX9_stepOn_176 rfl (lv_at hl 3 rfl) ?_
    refine lv_aload_n hx hb dX9_stepOn_177 rfl (lv_at hl 3 rfl) ?_
    refine lv_iload_n hx hb dX9_stepOn_178 rfl (lv_at hl 2 rfl) ?_
    refine lv_aload_n hx hb dX9_stepOn_179 rfl (lv_at hl 3 rfl) ?_
    refine eWi (wr := [(t 1, .inl (cI, 200, .inl fs)), (b1, .inl (cI, 26, .inl fl))]) (va_runV (As := []) (rest := [.int 4, .ref (t 0), .ref (t 0)]) ⟨hx, hb, hml, hown, hts⟩ (c_X9_pop l D cI cB cZ cJ tx t u cl rf pa_38 fk (lf_X9_stepOn_39 t u cl rf p1 fs fk fl b1 j0 hp hst hj 4 ex_2 x_4 ex_4 c_5 c_10 c_22 rfl pa_38 hz_38 r_37) H.size) (zV hts k_799 v_X9_pop ⟨Nat.le_of_ble_eq_true rfl, Nat.le_of_ble_eq_true rfl⟩) (pV (pxS hK hP hD [2, 3] (by decide) rfl) hK hP 2 rfl rfl) rfl rfl hl.1 rfl (lv_room (Nat.le_of_ble_eq_true rfl)) dX9_stepOn_180 ⟨Nat.le_of_ble_eq_true rfl, Nat.le_of_ble_eq_true rfl⟩) hP hD hS hA [2, 3] [0, 1] rfl rfl (by decide) (by decide) (fun r_40 u_41 H locs wr_40 hP hD hS => ?_)
    obtain ⟨pa_41, rfl⟩ : ∃ z, z = u_41 := ⟨_, rfl⟩
    have hz_41 : pa_41 ≤ 32 := wr_40
    have hP : va_P D vwCl [(t 1, .inl (cI, 200, .inl fs)), (b1, .inl (cI, 26, .inl fl)), (t 0, .inr (9, [.ref (t 1), .ref (t 2), .ref (t 3), .ref (t 4), .ref (t 5), .int u, .int cl, .int (nI pa_41), .int rf])), (t 2, .inl (cI, 32, .inl fk))] H := hP
    have hD : va_D A [(t 1, .inl (cI, 200, .inl fs)), (b1, .inl (cI, 26, .inl fl)), (t 0, .inr (9, [.ref (t 1), .ref (t 2), .ref (t 3), .ref (t 4), .ref (t 5), .int u, .int cl, .int (nI pa_41), .int rf])), (t 2, .inl (cI, 32, .inl fk))] := hD
    refine lv_iload hx hb dX9_stepOn_183 (lv_at hl 0 rfl) ?_
    refine eWi (wr := [(t 1, .inl (cI, 200, .inl fs)), (b1, .inl (cI, 26, .inl fl)), (t 2, .inl (cI, 32, .inl fk))]) (va_runV (As := [.int 4, .int r_40, .int r_37]) (rest := [.ref (t 0)]) ⟨hx, hb, hml, hown, hts⟩ (c_X9_reckon l D cI cB cZ cJ tx t u cl (nI pa_41) rf 4 r_40 r_37 H.size) (zV hts k_803 v_X9_reckon ⟨Nat.le_of_ble_eq_true rfl, Nat.le_of_ble_eq_true rfl⟩) (pV (pxS hK hP hD [2] (by decide) rfl) hK hP 2 rfl rfl) rfl rfl hl.1 rfl (lv_room (Nat.le_of_ble_eq_true rfl)) dX9_stepOn_185 ⟨Nat.le_of_ble_eq_true rfl, Nat.le_of_ble_eq_true rfl⟩) hP hD hS hA [2] [0, 1, 3] rfl rfl (by decide) (by decide) (fun r_42 u_43 H locs wr_42 hP hD hS => ?_)
    obtain ⟨ra_43, rfl⟩ : ∃ z, z = u_43 := ⟨_, rfl⟩
    have hz_43 : True := wr_42
    have hP : va_P D vwCl [(t 1, .inl (cI, 200, .inl fs)), (b1, .inl (cI, 26, .inl fl)), (t 2, .inl (cI, 32, .inl fk)), (t 0, .inr (9, [.ref (t 1), .ref (t 2), .ref (t 3), .ref (t 4), .ref (t 5), .int u, .int cl, .int (nI pa_41), .int ra_43]))] H := hP
    have hD : va_D A [(t 1, .inl (cI, 200, .inl fs)), (b1, .inl (cI, 26, .inl fl)), (t 2, .inl (cI, 32, .inl fk)), (t 0, .inr (9, [.ref (t 1), .ref (t 2), .ref (t 3), .ref (t 4), .ref (t 5), .int u, .int cl, .int (nI pa_41), .int ra_43]))] := hD
    refine eWv (wr := [(t 1, .inl (cI, 200, .inl fs)), (b1, .inl (cI, 26, .inl fl))]) (va_runV (As := [.int r_42]) (rest := []) ⟨hx, hb, hml, hown, hts⟩ (c_X9_push l D cI cB cZ cJ tx t u cl ra_43 pa_41 fk r_42 (lf_X9_stepOn_44 t u cl rf p1 fs fk fl b1 j0 hp hst hj 4 ex_2 x_4 ex_4 c_5 c_10 c_22 rfl pa_38 hz_38 r_37 pa_41 hz_41 r_40 ra_43 hz_43 r_42) H.size) (zV hts k_795 v_X9_push ⟨Nat.le_of_ble_eq_true rfl, Nat.le_of_ble_eq_true rfl⟩) (pV (pxS hK hP hD [3, 2] (by decide) rfl) hK hP 3 rfl rfl) rfl rfl hl.1 rfl (lv_room (Nat.le_of_ble_eq_true rfl)) dX9_stepOn_188 ⟨Nat.le_of_ble_eq_true rfl, Nat.le_of_ble_eq_true rfl⟩) hP hD hS hA [3, 2] [0, 1] rfl rfl (by decide) (by decide) (fun u_46 H locs wr_45 hP hD hS => ?_)
    obtain ⟨pa_46, fa_46⟩ := u_46
    have hz_46 : pa_46 ≤ 32 := wr_45
    have hP : va_P D vwCl [(t 1, .inl (cI, 200, .inl fs)), (b1, .inl (cI, 26, .inl fl)), (t 0, .inr (9, [.ref (t 1), .ref (t 2), .ref (t 3), .ref (t 4), .ref (t 5), .int u, .int cl, .int (nI pa_46), .int ra_43])), (t 2, .inl (cI, 32, .inl fa_46))] H := hP
    have hD : va_D A [(t 1, .inl (cI, 200, .inl fs)), (b1, .inl (cI, 26, .inl fl)), (t 0, .inr (9, [.ref (t 1), .ref (t 2), .ref (t 3), .ref (t 4), .ref (t 5), .int u, .int cl, .int (nI pa_46), .int ra_43])), (t 2, .inl (cI, 32, .inl fa_46))] := hD
    refine lv_iload_n hx hb dX9_stepOn_191 rfl (lv_at hl 4 rfl) ?_
    refine lv_iconst (v := 1) hx hb dX9_stepOn_192 (by decide) ?_
    refine lv_iadd hx hb dX9_stepOn_193 ?_
    refine lv_topv (y := nI (j0 + 1)) (nI_add j0 1) ?_
    have hP := hP.sub (ws' := [(t 0, .inr (9, [.ref (t 1), .ref (t 2), .ref (t 3), .ref (t 4), .ref (t 5), .int u, .int cl, .int (nI pa_46), .int ra_43])), (t 1, .inl (cI, 200, .inl fs)), (t 2, .inl (cI, 32, .inl fa_46)), (b1, .inl (cI, 26, .inl fl))]) [2, 0, 3, 1] rfl
    have hD := hD.sub (ws' := [(t 0, .inr (9, [.ref (t 1), .ref (t 2), .ref (t 3), .ref (t 4), .ref (t 5), .int u, .int cl, .int (nI pa_46), .int ra_43])), (t 1, .inl (cI, 200, .inl fs)), (t 2, .inl (cI, 32, .inl fa_46)), (b1, .inl (cI, 26, .inl fl))]) [2, 0, 3, 1] (by decide) rfl
    exact W.iret (v := nI (j0 + 1)) hx hb hr (fun tt9 ht hW => ⟨⟨(nI (j0 + 1) : Int32), (pa_46, (ra_43 : Int32), fa_46), rfl, (lf_X9_stepOn_47 t u cl rf p1 fs fk fl b1 j0 hp hst hj 4 ex_2 x_4 ex_4 c_5 c_10 c_22 rfl pa_38 hz_38 r_37 pa_41 hz_41 r_40 ra_43 hz_43 r_42 pa_46 fa_46 hz_46), ⟨by rw [ht]; exact hP, hD⟩⟩, hS.F ht⟩) hS.2.2 dX9_stepOn_194 hlocks
  by_cases c_48 : x_2 = 5
  · subst c_48
    refine lv_tableIn (off := 149) (tgt := 170) hx hb dX9_stepOn_21 (by decide) (by decide) rfl (by decide) ?_
    refine lv_aload_n hx hb dX9_stepOn_170 rfl (lv_at hl 2 rfl) ?_
    refine eWi (wr := [(t 1, .inl (cI, 200, .inl fs)), (b1, .inl (cI, 26, .inl fl))]) (va_runV (As := []) (rest := []) ⟨hx, hb, hml, hown, hts⟩ (c_X9_pop l D cI cB cZ cJ tx t u cl rf p1 fk (lf_X9_stepOn_49 t u cl rf p1 fs fk fl b1 j0 hp hst hj 5 ex_2 x_4 ex_4 c_5 c_10 c_22 c_35 rfl) H.size) (zV hts k_799 v_X9_pop ⟨Nat.le_of_ble_eq_true rfl, Nat.le_of_ble_eq_true rfl⟩) (pV (pxS hK hP hD [0, 2] (by decide) rfl) hK hP 0 rfl rfl) rfl rfl hl.1 rfl (lv_room (Nat.le_of_ble_eq_true rfl)) dX9_stepOn_171 ⟨Nat.le_of_ble_eq_true rfl, Nat.le_of_ble_eq_true rfl⟩) hP hD hS hA [0, 2] [1, 3] rfl rfl (by decide) (by decide) (fun r_50 u_51 H locs wr_50 hP hD hS => ?_)
    obtain ⟨pa_51, rfl⟩ : ∃ z, z = u_51 := ⟨_, rfl⟩
    have hz_51 : pa_51 ≤ 32 := wr_50
    have hP : va_P D vwCl [(t 1, .inl (cI, 200, .inl fs)), (b1, .inl (cI, 26, .inl fl)), (t 0, .inr (9, [.ref (t 1), .ref (t 2), .ref (t 3), .ref (t 4), .ref (t 5), .int u, .int cl, .int (nI pa_51), .int rf])), (t 2, .inl (cI, 32, .inl fk))] H := hP
    have hD : va_D A [(t 1, .inl (cI, 200, .inl fs)), (b1, .inl (cI, 26, .inl fl)), (t 0, .inr (9, [.ref (t 1), .ref (t 2), .ref (t 3), .ref (t 4), .ref (t 5), .int u, .int cl, .int (nI pa_51), .int rf])), (t 2, .inl (cI, 32, .inl fk))] := hD
    refine lv_istore (lv' := [(5, .int r_50), (4, .int x_4), (3, .int 5), (0, .ref (t 0)), (1, .int (nI j0)), (2, .ref b1)]) hx hb dX9_stepOn_174 hl (by decide) rfl (fun ls hl => ?_)
    refine lv_aload_n hx hb dX9_stepOn_176 rfl (lv_at hl 3 rfl) ?_
    refine lv_aload_n hx hb dX9_stepOn_177 rfl (lv_at hl 3 rfl) ?_
    refine lv_iload_n hx hb dX9_stepOn_178 rfl (lv_at hl 2 rfl) ?_
    refine lv_aload_n hx hb dX9_stepOn_179 rfl (lv_at hl 3 rfl) ?_
    refine eWi (wr := [(t 1, .inl (cI, 200, .inl fs)), (b1, .inl (cI, 26, .inl fl))]) (va_runV (As := []) (rest := [.int 5, .ref (t 0), .ref (t 0)]) ⟨hx, hb, hml, hown, hts⟩ (c_X9_pop l D cI cB cZ cJ tx t u cl rf pa_51 fk (lf_X9_stepOn_52 t u cl rf p1 fs fk fl b1 j0 hp hst hj 5 ex_2 x_4 ex_4 c_5 c_10 c_22 c_35 rfl pa_51 hz_51 r_50) H.size) (zV hts k_799 v_X9_pop ⟨Nat.le_of_ble_eq_true rfl, Nat.le_of_ble_eq_true rfl⟩) (pV (pxS hK hP hD [2, 3] (by decide) rfl) hK hP 2 rfl rfl) rfl rfl hl.1 rfl (lv_room (Nat.le_of_ble_eq_true rfl)) dX9_stepOn_180 ⟨Nat.le_of_ble_eq_true rfl, Nat.le_of_ble_eq_true rfl⟩) hP hD hS hA [2, 3] [0, 1] rfl rfl (by decide) (by decide) (fun r_53 u_54 H locs wr_53 hP hD hS => ?_)
    obtain ⟨pa_54, rfl⟩ : ∃ z, z = u_54 := ⟨_, rfl⟩
    have hz_54 : pa_54 ≤ 32 := wr_53
    have hP : va_P D vwCl [(t 1, .inl (cI, 200, .inl fs)), (b1, .inl (cI, 26, .inl fl)), (t 0, .inr (9, [.ref (t 1), .ref (t 2), .ref (t 3), .ref (t 4), .ref (t 5), .int u, .int cl, .int (nI pa_54), .int rf])), (t 2, .inl (cI, 32, .inl fk))] H := hP
    have hD : va_D A [(t 1, .inl (cI, 200, .inl fs)), (b1, .inl (cI, 26, .inl fl)), (t 0, .inr (9, [.ref (t 1), .ref (t 2), .ref (t 3), .ref (t 4), .ref (t 5), .int u, .int cl, .int (nI pa_54), .int rf])), (t 2, .inl (cI, 32, .inl fk))] := hD
    refine lv_iload hx hb dX9_stepOn_183 (lv_at hl 0 rfl) ?_
    refine eWi (wr := [(t 1, .inl (cI, 200, .inl fs)), (b1, .inl (cI, 26, .inl fl)), (t 2, .inl (cI, 32, .inl fk))]) (va_runV (As := [.int 5, .int r_53, .int r_50]) (rest := [.ref (t 0)]) ⟨hx, hb, hml, hown, hts⟩ (c_X9_reckon l D cI cB cZ cJ tx t u cl (nI pa_54) rf 5 r_53 r_50 H.size) (zV hts k_803 v_X9_reckon ⟨Nat.le_of_ble_eq_true rfl, Nat.le_of_ble_eq_true rfl⟩) (pV (pxS hK hP hD [2] (by decide) rfl) hK hP 2 rfl rfl) rfl rfl hl.1 rfl (lv_room (Nat.le_of_ble_eq_true rfl)) dX9_stepOn_185 ⟨Nat.le_of_ble_eq_true rfl, Nat.le_of_ble_eq_true rfl⟩) hP hD hS hA [2] [0, 1, 3] rfl rfl (by decide) (by decide) (fun r_55 u_56 H locs wr_55 hP hD hS => ?_)
    obtain ⟨ra_56, rfl⟩ : ∃ z, z = u_56 := ⟨_, rfl⟩
    have hz_56 : True := wr_55
    have hP : va_P D vwCl [(t 1, .inl (cI, 200, .inl fs)), (b1, .inl (cI, 26, .inl fl)), (t 2, .inl (cI, 32, .inl fk)), (t 0, .inr (9, [.ref (t 1), .ref (t 2), .ref (t 3), .ref (t 4), .ref (t 5), .int u, .int cl, .int (nI pa_54), .int ra_56]))] H := hP
    have hD : va_D A [(t 1, .inl (cI, 200, .inl fs)), (b1, .inl (cI, 26, .inl fl)), (t 2, .inl (cI, 32, .inl fk)), (t 0, .inr (9, [.ref (t 1), .ref (t 2), .ref (t 3), .ref (t 4), .ref (t 5), .int u, .int cl, .int (nI pa_54), .int ra_56]))] := hD
    refine eWv (wr := [(t 1, .inl (cI, 200, .inl fs)), (b1, .inl (cI, 26, .inl fl))]) (va_runV (As := [.int r_55]) (rest := []) ⟨hx, hb, hml, hown, hts⟩ (c_X9_push l D cI cB cZ cJ tx t u cl ra_56 pa_54 fk r_55 (lf_X9_stepOn_57 t u cl rf p1 fs fk fl b1 j0 hp hst hj 5 ex_2 x_4 ex_4 c_5 c_10 c_22 c_35 rfl pa_51 hz_51 r_50 pa_54 hz_54 r_53 ra_56 hz_56 r_55) H.size) (zV hts k_795 v_X9_push ⟨Nat.le_of_ble_eq_true rfl, Nat.le_of_ble_eq_true rfl⟩) (pV (pxS hK hP hD [3, 2] (by decide) rfl) hK hP 3 rfl rfl) rfl rfl hl.1 rfl (lv_room (Nat.le_of_ble_eq_true rfl)) dX9_stepOn_188 ⟨Nat.le_of_ble_eq_true rfl, Nat.le_of_ble_eq_true rfl⟩) hP hD hS hA [3, 2] [0, 1] rfl rfl (by decide) (by decide) (fun u_59 H locs wr_58 hP hD hS => ?_)
    obtain ⟨pa_59, fa_59⟩ := u_59
    have hz_59 : pa_59 ≤ 32 := wr_58
    have hP : va_P D vwCl [(t 1, .inl (cI, 200, .inl fs)), (b1, .inl (cI, 26, .inl fl)), (t 0, .inr (9, [.ref (t 1), .ref (t 2), .ref (t 3), .ref (t 4), .ref (t 5), .int u, .int cl, .int (nI pa_59), .int ra_56])), (t 2, .inl (cI, 32, .inl fa_59))] H := hP
    have hD : va_D A [(t 1, .inl (cI, 200, .inl fs)), (b1, .inl (cI, 26, .inl fl)), (t 0, .inr (9, [.ref (t 1), .ref (t 2), .ref (t 3), .ref (t 4), .ref (t 5), .int u, .int cl, .int (nI pa_59), .int ra_56])), (t 2, .inl (cI, 32, .inl fa_59))] := hD
    refine lv_iload_n hx hb dX9_stepOn_191 rfl (lv_at hl 4 rfl) ?_
    refine lv_iconst (v := 1) hx hb dX9_stepOn_192 (by decide) ?_
    refine lv_iadd hx hb dX9_stepOn_193 ?_
    refine lv_topv (y := nI (j0 + 1)) (nI_add j0 1) ?_
    have hP := hP.sub (ws' := [(t 0, .inr (9, [.ref (t 1), .ref (t 2), .ref (t 3), .ref (t 4), .ref (t 5), .int u, .int cl, .int (nI pa_59), .int ra_56])), (t 1, .inl (cI, 200, .inl fs)), (t 2, .inl (cI, 32, .inl fa_59)), (b1, .inl (cI, 26, .inl fl))]) [2, 0, 3, 1] rfl
    have hD := hD.sub (ws' := [(t 0, .inr (9, [.ref (t 1), .ref (t 2), .ref (t 3), .ref (t 4), .ref (t 5), .int u, .int cl, .int (nI pa_59), .int ra_56])), (t 1, .inl (cI, 200, .inl fs)), (t 2, .inl (cI, 32, .inl fa_59)), (b1, .inl (cI, 26, .inl fl))]) [2, 0, 3, 1] (by decide) rfl
    exact W.iret (v := nI (j0 + 1)) hx hb hr (fun tt9 ht hW => ⟨⟨(nI (j0 + 1) : Int32), (pa_59, (ra_56 : Int32), fa_59), rfl, (lf_X9_stepOn_60 t u cl rf p1 fs fk fl b1 j0 hp hst hj 5 ex_2 x_4 ex_4 c_5 c_10 c_22 c_35 rfl pa_51 hz_51 r_50 pa_54 hz_54 r_53 ra_56 hz_56 r_55 pa_59 fa_59 hz_59), ⟨by rw [ht]; exact hP, hD⟩⟩, hS.F ht⟩) hS.2.2 dX9_stepOn_194 hlocks
  by_cases c_61 : x_2 = 6
  · subst c_61
    refine lv_tableIn (off := 149) (tgt := 170) hx hb dX9_stepOn_21 (by decide) (by decide) rfl (by decide) ?_
    refine lv_aload_n hx hb dX9_stepOn_170 rfl (lv_at hl 2 rfl) ?_
    refine eWi (wr := [(t 1, .inl (cI, 200, .inl fs)), (b1, .inl (cI, 26, .inl fl))]) (va_runV (As := []) (rest := []) ⟨hx, hb, hml, hown, hts⟩ (c_X9_pop l D cI cB cZ cJ tx t u cl rf p1 fk (lf_X9_stepOn_62 t u cl rf p1 fs fk fl b1 j0 hp hst hj 6 ex_2 x_4 ex_4 c_5 c_10 c_22 c_35 c_48 rfl) H.size) (zV hts k_799 v_X9_pop ⟨Nat.le_of_ble_eq_true rfl, Nat.le_of_ble_eq_true rfl⟩) (pV (pxS hK hP hD [0, 2] (by decide) rfl) hK hP 0 rfl rfl) rfl rfl hl.1 rfl (lv_room (Nat.le_of_ble_eq_true rfl)) dX9_stepOn_171 ⟨Nat.le_of_ble_eq_true rfl, Nat.le_of_ble_eq_true rfl⟩) hP hD hS hA [0, 2] [1, 3] rfl rfl (by decide) (by decide) (fun r_63 u_64 H locs wr_63 hP hD hS => ?_)
    obtain ⟨pa_64, rfl⟩ : ∃ z, z = u_64 := ⟨_, rfl⟩
    have hz_64 : pa_64 ≤ 32 := wr_63
    have hP : va_P D vwCl [(t 1, .inl (cI, 200, .inl fs)), (b1, .inl (cI, 26, .inl fl)), (t 0, .inr (9, [.ref (t 1), .ref (t 2), .ref (t 3), .ref (t 4), .ref (t 5), .int u, .int cl, .int (nI pa_64), .int rf])), (t 2, .inl (cI, 32, .inl fk))] H := hP
    have hD : va_D A [(t 1, .inl (cI, 200, .inl fs)), (b1, .inl (cI, 26, .inl fl)), (t 0, .inr (9, [.ref (t 1), .ref (t 2), .ref (t 3), .ref (t 4), .ref (t 5), .int u, .int cl, .int (nI pa_64), .int rf])), (t 2, .inl (cI, 32, .inl fk))] := hD
    refine lv_istore (lv' := [(5, .int r_63), (4, .int x_4), (3, .int 6), (0, .ref (t 0)), (1, .int (nI j0)), (2, .ref b1)]) hx hb dX9_stepOn_174 hl (by decide) rfl (fun ls hl => ?_)
    refine lv_aload_n hx hb dX9_stepOn_176 rfl (lv_at hl 3 rfl) ?_
    refine lv_aload_n hx hb dX9_stepOn_177 rfl (lv_at hl 3 rfl) ?_
    refine lv_iload_n hx hb dX9_stepOn_178 rfl (lv_at hl 2 rfl) ?_
    refine lv_aload_n hx hb dX9_stepOn_179 rfl (lv_at hl 3 rfl) ?_
    refine eWi (wr := [(t 1, .inl (cI, 200, .inl fs)), (b1, .inl (cI, 26, .inl fl))]) (va_runV (As := []) (rest := [.int 6, .ref (t 0), .ref (t 0)]) ⟨hx, hb, hml, hown, hts⟩ (c_X9_pop l D cI cB cZ cJ tx t u cl rf pa_64 fk (lf_X9_stepOn_65 t u cl rf p1 fs fk fl b1 j0 hp hst hj 6 ex_2 x_4 ex_4 c_5 c_10 c_22 c_35 c_48 rfl pa_64 hz_64 r_63) H.size) (zV hts k_799 v_X9_pop ⟨Nat.le_of_ble_eq_true rfl, Nat.le_of_ble_eq_true rfl⟩) (pV (pxS hK hP hD [2, 3] (by decide) rfl) hK hP 2 rfl rfl) rfl rfl hl.1 rfl (lv_room (Nat.le_of_ble_eq_true rfl)) dX9_stepOn_180 ⟨Nat.le_of_ble_eq_true rfl, Nat.le_of_ble_eq_true rfl⟩) hP hD hS hA [2, 3] [0, 1] rfl rfl (by decide) (by decide) (fun r_66 u_67 H locs wr_66 hP hD hS => ?_)
    obtain ⟨pa_67, rfl⟩ : ∃ z, z = u_67 := ⟨_, rfl⟩
    have hz_67 : pa_67 ≤ 32 := wr_66
    have hP : va_P D vwCl [(t 1, .inl (cI, 200, .inl fs)), (b1, .inl (cI, 26, .inl fl)), (t 0, .inr (9, [.ref (t 1), .ref (t 2), .ref (t 3), .ref (t 4), .ref (t 5), .int u, .int cl, .int (nI pa_67), .int rf])), (t 2, .inl (cI, 32, .inl fk))] H := hP
    have hD : va_D A [(t 1, .inl (cI, 200, .inl fs)), (b1, .inl (cI, 26, .inl fl)), (t 0, .inr (9, [.ref (t 1), .ref (t 2), .ref (t 3), .ref (t 4), .ref (t 5), .int u, .int cl, .int (nI pa_67), .int rf])), (t 2, .inl (cI, 32, .inl fk))] := hD
    refine lv_iload hx hb dX9_stepOn_183 (lv_at hl 0 rfl) ?_
    refine eWi (wr := [(t 1, .inl (cI, 200, .inl fs)), (b1, .inl (cI, 26, .inl fl)), (t 2, .inl (cI, 32, .inl fk))]) (va_runV (As := [.int 6, .int r_66, .int r_63]) (rest := [.ref (t 0)]) ⟨hx, hb, hml, hown, hts⟩ (c_X9_reckon l D cI cB cZ cJ tx t u cl (nI pa_67) rf 6 r_66 r_63 H.size) (zV hts k_803 v_X9_reckon ⟨Nat.le_of_ble_eq_true rfl, Nat.le_of_ble_eq_true rfl⟩) (pV (pxS hK hP hD [2] (by decide) rfl) hK hP 2 rfl rfl) rfl rfl hl.1 rfl (lv_room (Nat.le_of_ble_eq_true rfl)) dX9_stepOn_185 ⟨Nat.le_of_ble_eq_true rfl, Nat.le_of_ble_eq_true rfl⟩) hP hD hS hA [2] [0, 1, 3] rfl rfl (by decide) (by decide) (fun r_68 u_69 H locs wr_68 hP hD hS => ?_)
    obtain ⟨ra_69, rfl⟩ : ∃ z, z = u_69 := ⟨_, rfl⟩
    have hz_69 : True := wr_68
    have hP : va_P D vwCl [(t 1, .inl (cI, 200, .inl fs)), (b1, .inl (cI, 26, .inl fl)), (t 2, .inl (cI, 32, .inl fk)), (t 0, .inr (9, [.ref (t 1), .ref (t 2), .ref (t 3), .ref (t 4), .ref (t 5), .int u, .int cl, .int (nI pa_67), .int ra_69]))] H := hP
    have hD : va_D A [(t 1, .inl (cI, 200, .inl fs)), (b1, .inl (cI, 26, .inl fl)), (t 2, .inl (cI, 32, .inl fk)), (t 0, .inr (9, [.ref (t 1), .ref (t 2), .ref (t 3), .ref (t 4), .ref (t 5), .int u, .int cl, .int (nI pa_67), .int ra_69]))] := hD
    refine eWv (wr := [(t 1, .inl (cI, 200, .inl fs)), (b1, .inl (cI, 26, .inl fl))]) (va_runV (As := [.int r_68]) (rest := []) ⟨hx, hb, hml, hown, hts⟩ (c_X9_push l D cI cB cZ cJ tx t u cl ra_69 pa_67 fk r_68 (lf_X9_stepOn_70 t u cl rf p1 fs fk fl b1 j0 hp hst hj 6 ex_2 x_4 ex_4 c_5 c_10 c_22 c_35 c_48 rfl pa_64 hz_64 r_63 pa_67 hz_67 r_66 ra_69 hz_69 r_68) H.size) (zV hts k_795 v_X9_push ⟨Nat.le_of_ble_eq_true rfl, Nat.le_of_ble_eq_true rfl⟩) (pV (pxS hK hP hD [3, 2] (by decide) rfl) hK hP 3 rfl rfl) rfl rfl hl.1 rfl (lv_room (Nat.le_of_ble_eq_true rfl)) dX9_stepOn_188 ⟨Nat.le_of_ble_eq_true rfl, Nat.le_of_ble_eq_true rfl⟩) hP hD hS hA [3, 2] [0, 1] rfl rfl (by decide) (by decide) (fun u_72 H locs wr_71 hP hD hS => ?_)
    obtain ⟨pa_72, fa_72⟩ := u_72
    have hz_72 : pa_72 ≤ 32 := wr_71
    have hP : va_P D vwCl [(t 1, .inl (cI, 200, .inl fs)), (b1, .inl (cI, 26, .inl fl)), (t 0, .inr (9, [.ref (t 1), .ref (t 2), .ref (t 3), .ref (t 4), .ref (t 5), .int u, .int cl, .int (nI pa_72), .int ra_69])), (t 2, .inl (cI, 32, .inl fa_72))] H := hP
    have hD : va_D A [(t 1, .inl (cI, 200, .inl fs)), (b1, .inl (cI, 26, .inl fl)), (t 0, .inr (9, [.ref (t 1), .ref (t 2), .ref (t 3), .ref (t 4), .ref (t 5), .int u, .int cl, .int (nI pa_72), .int ra_69])), (t 2, .inl (cI, 32, .inl fa_72))] := hD
    refine lv_iload_n hx hb dX9_stepOn_191 rfl (lv_at hl 4 rfl) ?_
    refine lv_iconst (v := 1) hx hb dX9_stepOn_192 (by decide) ?_
    refine lv_iadd hx hb dX9_stepOn_193 ?_
    refine lv_topv (y := nI (j0 + 1)) (nI_add j0 1) ?_
    have hP := hP.sub (ws' := [(t 0, .inr (9, [.ref (t 1), .ref (t 2), .ref (t 3), .ref (t 4), .ref (t 5), .int u, .int cl, .int (nI pa_72), .int ra_69])), (t 1, .inl (cI, 200, .inl fs)), (t 2, .inl (cI, 32, .inl fa_72)), (b1, .inl (cI, 26, .inl fl))]) [2, 0, 3, 1] rfl
    have hD := hD.sub (ws' := [(t 0, .inr (9, [.ref (t 1), .ref (t 2), .ref (t 3), .ref (t 4), .ref (t 5), .int u, .int cl, .int (nI pa_72), .int ra_69])), (t 1, .inl (cI, 200, .inl fs)), (t 2, .inl (cI, 32, .inl fa_72)), (b1, .inl (cI, 26, .inl fl))]) [2, 0, 3, 1] (by decide) rfl
    exact W.iret (v := nI (j0 + 1)) hx hb hr (fun tt9 ht hW => ⟨⟨(nI (j0 + 1) : Int32), (pa_72, (ra_69 : Int32), fa_72), rfl, (lf_X9_stepOn_73 t u cl rf p1 fs fk fl b1 j0 hp hst hj 6 ex_2 x_4 ex_4 c_5 c_10 c_22 c_35 c_48 rfl pa_64 hz_64 r_63 pa_67 hz_67 r_66 ra_69 hz_69 r_68 pa_72 fa_72 hz_72), ⟨by rw [ht]; exact hP, hD⟩⟩, hS.F ht⟩) hS.2.2 dX9_stepOn_194 hlocks
  by_cases c_74 : x_2 = 7
  · subst c_74
    refine lv_tableIn (off := 149) (tgt := 170) hx hb dX9_stepOn_21 (by decide) (by decide) rfl (by decide) ?_
    refine lv_aload_n hx hb dX9_stepOn_170 rfl (lv_at hl 2 rfl) ?_
    refine eWi (wr := [(t 1, .inl (cI, 200, .inl fs)), (b1, .inl (cI, 26, .inl fl))]) (va_runV (As := []) (rest := []) ⟨hx, hb, hml, hown, hts⟩ (c_X9_pop l D cI cB cZ cJ tx t u cl rf p1 fk (lf_X9_stepOn_75 t u cl rf p1 fs fk fl b1 j0 hp hst hj 7 ex_2 x_4 ex_4 c_5 c_10 c_22 c_35 c_48 c_61 rfl) H.size) (zV hts k_799 v_X9_pop ⟨Nat.le_of_ble_eq_true rfl, Nat.le_of_ble_eq_true rfl⟩) (pV (pxS hK hP hD [0, 2] (by decide) rfl) hK hP 0 rfl rfl) rfl rfl hl.1 rfl (lv_room (Nat.le_of_ble_eq_true rfl)) dX9_stepOn_171 ⟨Nat.le_of_ble_eq_true rfl, Nat.le_of_ble_eq_true rfl⟩) hP hD hS hA [0, 2] [1, 3] rfl rfl (by decide) (by decide) (fun r_76 u_77 H locs wr_76 hP hD hS => ?_)
    obtain ⟨pa_77, rfl⟩ : ∃ z, z = u_77 := ⟨_, rfl⟩
    have hz_77 : pa_77 ≤ 32 := wr_76
    have hP : va_P D vwCl [(t 1, .inl (cI, 200, .inl fs)), (b1, .inl (cI, 26, .inl fl)), (t 0, .inr (9, [.ref (t 1), .ref (t 2), .ref (t 3), .ref (t 4), .ref (t 5), .int u, .int cl, .int (nI pa_77), .int rf])), (t 2, .inl (cI, 32, .inl fk))] H := hP
    have hD : va_D A [(t 1, .inl (cI, 200, .inl fs)), (b1, .inl (cI, 26, .inl fl)), (t 0, .inr (9, [.ref (t 1), .ref (t 2), .ref (t 3), .ref (t 4), .ref (t 5), .int u, .int cl, .int (nI pa_77), .int rf])), (t 2, .inl (cI, 32, .inl fk))] := hD
    refine lv_istore (lv' := [(5, .int r_76), (4, .int x_4), (3, .int 7), (0, .ref (t 0)), (1, .int (nI j0)), (2, .ref b1)]) hx hb dX9_stepOn_174 hl (by decide) rfl (fun ls hl => ?_)
    refine lv_aload_n hx hb dX9_stepOn_176 rfl (lv_at hl 3 rfl) ?_
    refine lv_aload_n hx hb dX9_stepOn_177 rfl (lv_at hl 3 rfl) ?_
    refine lv_iload_n hx hb dX9_stepOn_178 rfl (lv_at hl 2 rfl) ?_
    refine lv_aload_n hx hb dX9_stepOn_179 rfl (lv_at hl 3 rfl) ?_
    refine eWi (wr := [(t 1, .inl (cI, 200, .inl fs)), (b1, .inl (cI, 26, .inl fl))]) (va_runV (As := []) (rest := [.int 7, .ref (t 0), .ref (t 0)]) ⟨hx, hb, hml, hown, hts⟩ (c_X9_pop l D cI cB cZ cJ tx t u cl rf pa_77 fk (lf_X9_stepOn_78 t u cl rf p1 fs fk fl b1 j0 hp hst hj 7 ex_2 x_4 ex_4 c_5 c_10 c_22 c_35 c_48 c_61 rfl pa_77 hz_77 r_76) H.size) (zV hts k_799 v_X9_pop ⟨Nat.le_of_ble_eq_true rfl, Nat.le_of_ble_eq_true rfl⟩) (pV (pxS hK hP hD [2, 3] (by decide) rfl) hK hP 2 rfl rfl) rfl rfl hl.1 rfl (lv_room (Nat.le_of_ble_eq_true rfl)) dX9_stepOn_180 ⟨Nat.le_of_ble_eq_true rfl, Nat.le_of_ble_eq_true rfl⟩) hP hD hS hA [2, 3] [0, 1] rfl rfl (by decide) (by decide) (fun r_79 u_80 H locs wr_79 hP hD hS => ?_)
    obtain ⟨pa_80, rfl⟩ : ∃ z, z = u_80 := ⟨_, rfl⟩
    have hz_80 : pa_80 ≤ 32 := wr_79
    have hP : va_P D vwCl [(t 1, .inl (cI, 200, .inl fs)), (b1, .inl (cI, 26, .inl fl)), (t 0, .inr (9, [.ref (t 1), .ref (t 2), .ref (t 3), .ref (t 4), .ref (t 5), .int u, .int cl, .int (nI pa_80), .int rf])), (t 2, .inl (cI, 32, .inl fk))] H := hP
    have hD : va_D A [(t 1, .inl (cI, 200, .inl fs)), (b1, .inl (cI, 26, .inl fl)), (t 0, .inr (9, [.ref (t 1), .ref (t 2), .ref (t 3), .ref (t 4), .ref (t 5), .int u, .int cl, .int (nI pa_80), .int rf])), (t 2, .inl (cI, 32, .inl fk))] := hD
    refine lv_iload hx hb dX9_stepOn_183 (lv_at hl 0 rfl) ?_
    refine eWi (wr := [(t 1, .inl (cI, 200, .inl fs)), (b1, .inl (cI, 26, .inl fl)), (t 2, .inl (cI, 32, .inl fk))]) (va_runV (As := [.int 7, .int r_79, .int r_76]) (rest := [.ref (t 0)]) ⟨hx, hb, hml, hown, hts⟩ (c_X9_reckon l D cI cB cZ cJ tx t u cl (nI pa_80) rf 7 r_79 r_76 H.size) (zV hts k_803 v_X9_reckon ⟨Nat.le_of_ble_eq_true rfl, Nat.le_of_ble_eq_true rfl⟩) (pV (pxS hK hP hD [2] (by decide) rfl) hK hP 2 rfl rfl) rfl rfl hl.1 rfl (lv_room (Nat.le_of_ble_eq_true rfl)) dX9_stepOn_185 ⟨Nat.le_of_ble_eq_true rfl, Nat.le_of_ble_eq_true rfl⟩) hP hD hS hA [2] [0, 1, 3] rfl rfl (by decide) (by decide) (fun r_81 u_82 H locs wr_81 hP hD hS => ?_)
    obtain ⟨ra_82, rfl⟩ : ∃ z, z = u_82 := ⟨_, rfl⟩
    have hz_82 : True := wr_81
    have hP : va_P D vwCl [(t 1, .inl (cI, 200, .inl fs)), (b1, .inl (cI, 26, .inl fl)), (t 2, .inl (cI, 32, .inl fk)), (t 0, .inr (9, [.ref (t 1), .ref (t 2), .ref (t 3), .ref (t 4), .ref (t 5), .int u, .int cl, .int (nI pa_80), .int ra_82]))] H := hP
    have hD : va_D A [(t 1, .inl (cI, 200, .inl fs)), (b1, .inl (cI, 26, .inl fl)), (t 2, .inl (cI, 32, .inl fk)), (t 0, .inr (9, [.ref (t 1), .ref (t 2), .ref (t 3), .ref (t 4), .ref (t 5), .int u, .int cl, .int (nI pa_80), .int ra_82]))] := hD
    refine eWv (wr := [(t 1, .inl (cI, 200, .inl fs)), (b1, .inl (cI, 26, .inl fl))]) (va_runV (As := [.int r_81]) (rest := []) ⟨hx, hb, hml, hown, hts⟩ (c_X9_push l D cI cB cZ cJ tx t u cl ra_82 pa_80 fk r_81 (lf_X9_stepOn_83 t u cl rf p1 fs fk fl b1 j0 hp hst hj 7 ex_2 x_4 ex_4 c_5 c_10 c_22 c_35 c_48 c_61 rfl pa_77 hz_77 r_76 pa_80 hz_80 r_79 ra_82 hz_82 r_81) H.size) (zV hts k_795 v_X9_push ⟨Nat.le_of_ble_eq_true rfl, Nat.le_of_ble_eq_true rfl⟩) (pV (pxS hK hP hD [3, 2] (by decide) rfl) hK hP 3 rfl rfl) rfl rfl hl.1 rfl (lv_room (Nat.le_of_ble_eq_true rfl)) dX9_stepOn_188 ⟨Nat.le_of_ble_eq_true rfl, Nat.le_of_ble_eq_true rfl⟩) hP hD hS hA [3, 2] [0, 1] rfl rfl (by decide) (by decide) (fun u_85 H locs wr_84 hP hD hS => ?_)
    obtain ⟨pa_85, fa_85⟩ := u_85
    have hz_85 : pa_85 ≤ 32 := wr_84
    have hP : va_P D vwCl [(t 1, .inl (cI, 200, .inl fs)), (b1, .inl (cI, 26, .inl fl)), (t 0, .inr (9, [.ref (t 1), .ref (t 2), .ref (t 3), .ref (t 4), .ref (t 5), .int u, .int cl, .int (nI pa_85), .int ra_82])), (t 2, .inl (cI, 32, .inl fa_85))] H := hP
    have hD : va_D A [(t 1, .inl (cI, 200, .inl fs)), (b1, .inl (cI, 26, .inl fl)), (t 0, .inr (9, [.ref (t 1), .ref (t 2), .ref (t 3), .ref (t 4), .ref (t 5), .int u, .int cl, .int (nI pa_85), .int ra_82])), (t 2, .inl (cI, 32, .inl fa_85))] := hD
    refine lv_iload_n hx hb dX9_stepOn_191 rfl (lv_at hl 4 rfl) ?_
    refine lv_iconst (v := 1) hx hb dX9_stepOn_192 (by decide) ?_
    refine lv_iadd hx hb dX9_stepOn_193 ?_
    refine lv_topv (y := nI (j0 + 1)) (nI_add j0 1) ?_
    have hP := hP.sub (ws' := [(t 0, .inr (9, [.ref (t 1), .ref (t 2), .ref (t 3), .ref (t 4), .ref (t 5), .int u, .int cl, .int (nI pa_85), .int ra_82])), (t 1, .inl (cI, 200, .inl fs)), (t 2, .inl (cI, 32, .inl fa_85)), (b1, .inl (cI, 26, .inl fl))]) [2, 0, 3, 1] rfl
    have hD := hD.sub (ws' := [(t 0, .inr (9, [.ref (t 1), .ref (t 2), .ref (t 3), .ref (t 4), .ref (t 5), .int u, .int cl, .int (nI pa_85), .int ra_82])), (t 1, .inl (cI, 200, .inl fs)), (t 2, .inl (cI, 32, .inl fa_85)), (b1, .inl (cI, 26, .inl fl))]) [2, 0, 3, 1] (by decide) rfl
    exact W.iret (v := nI (j0 + 1)) hx hb hr (fun tt9 ht hW => ⟨⟨(nI (j0 + 1) : Int32), (pa_85, (ra_82 : Int32), fa_85), rfl, (lf_X9_stepOn_86 t u cl rf p1 fs fk fl b1 j0 hp hst hj 7 ex_2 x_4 ex_4 c_5 c_10 c_22 c_35 c_48 c_61 rfl pa_77 hz_77 r_76 pa_80 hz_80 r_79 ra_82 hz_82 r_81 pa_85 fa_85 hz_85), ⟨by rw [ht]; exact hP, hD⟩⟩, hS.F ht⟩) hS.2.2 dX9_stepOn_194 hlocks
  by_cases c_87 : x_2 = 8
  · subst c_87
    refine lv_tableIn (off := 149) (tgt := 170) hx hb dX9_stepOn_21 (by decide) (by decide) rfl (by decide) ?_
    refine lv_aload_n hx hb dX9_stepOn_170 rfl (lv_at hl 2 rfl) ?_
    refine eWi (wr := [(t 1, .inl (cI, 200, .inl fs)), (b1, .inl (cI, 26, .inl fl))]) (va_runV (As := []) (rest := []) ⟨hx, hb, hml, hown, hts⟩ (c_X9_pop l D cI cB cZ cJ tx t u cl rf p1 fk (lf_X9_stepOn_88 t u cl rf p1 fs fk fl b1 j0 hp hst hj 8 ex_2 x_4 ex_4 c_5 c_10 c_22 c_35 c_48 c_61 c_74 rfl) H.size) (zV hts k_799 v_X9_pop ⟨Nat.le_of_ble_eq_true rfl, Nat.le_of_ble_eq_true rfl⟩) (pV (pxS hK hP hD [0, 2] (by decide) rfl) hK hP 0 rfl rfl) rfl rfl hl.1 rfl (lv_room (Nat.le_of_ble_eq_true rfl)) dX9_stepOn_171 ⟨Nat.le_of_ble_eq_true rfl, Nat.le_of_ble_eq_true rfl⟩) hP hD hS hA [0, 2] [1, 3] rfl rfl (by decide) (by decide) (fun r_89 u_90 H locs wr_89 hP hD hS => ?_)
    obtain ⟨pa_90, rfl⟩ : ∃ z, z = u_90 := ⟨_, rfl⟩
    have hz_90 : pa_90 ≤ 32 := wr_89
    have hP : va_P D vwCl [(t 1, .inl (cI, 200, .inl fs)), (b1, .inl (cI, 26, .inl fl)), (t 0, .inr (9, [.ref (t 1), .ref (t 2), .ref (t 3), .ref (t 4), .ref (t 5), .int u, .int cl, .int (nI pa_90), .int rf])), (t 2, .inl (cI, 32, .inl fk))] H := hP
    have hD : va_D A [(t 1, .inl (cI, 200, .inl fs)), (b1, .inl (cI, 26, .inl fl)), (t 0, .inr (9, [.ref (t 1), .ref (t 2), .ref (t 3), .ref (t 4), .ref (t 5), .int u, .int cl, .int (nI pa_90), .int rf])), (t 2, .inl (cI, 32, .inl fk))] := hD
    refine lv_istore (lv' := [(5, .int r_89), (4, .int x_4), (3, .int 8), (0, .ref (t 0)), (1, .int (nI j0)), (2, .ref b1)]) hx hb dX9_stepOn_174 hl (by decide) rfl (fun ls hl => ?_)
    refine lv_aload_n hx hb dX9_stepOn_176 rfl (lv_at hl 3 rfl) ?_
    refine lv_aload_n hx hb dX9_stepOn_177 rfl (lv_at hl 3 rfl) ?_
    refine lv_iload_n hx hb dX9_stepOn_178 rfl (lv_at hl 2 rfl) ?_
    refine lv_aload_n hx hb dX9_stepOn_179 rfl (lv_at hl 3 rfl) ?_
    refine eWi (wr := [(t 1, .inl (cI, 200, .inl fs)), (b1, .inl (cI, 26, .inl fl))]) (va_runV (As := []) (rest := [.int 8, .ref (t 0), .ref (t 0)]) ⟨hx, hb, hml, hown, hts⟩ (c_X9_pop l D cI cB cZ cJ tx t u cl rf pa_90 fk (lf_X9_stepOn_91 t u cl rf p1 fs fk fl b1 j0 hp hst hj 8 ex_2 x_4 ex_4 c_5 c_10 c_22 c_35 c_48 c_61 c_74 rfl pa_90 hz_90 r_89) H.size) (zV hts k_799 v_X9_pop ⟨Nat.le_of_ble_eq_true rfl, Nat.le_of_ble_eq_true rfl⟩) (pV (pxS hK hP hD [2, 3] (by decide) rfl) hK hP 2 rfl rfl) rfl rfl hl.1 rfl (lv_room (Nat.le_of_ble_eq_true rfl)) dX9_stepOn_180 ⟨Nat.le_of_ble_eq_true rfl, Nat.le_of_ble_eq_true rfl⟩) hP hD hS hA [2, 3] [0, 1] rfl rfl (by decide) (by decide) (fun r_92 u_93 H locs wr_92 hP hD hS => ?_)
    obtain ⟨pa_93, rfl⟩ : ∃ z, z = u_93 := ⟨_, rfl⟩
    have hz_93 : pa_93 ≤ 32 := wr_92
    have hP : va_P D vwCl [(t 1, .inl (cI, 200, .inl fs)), (b1, .inl (cI, 26, .inl fl)), (t 0, .inr (9, [.ref (t 1), .ref (t 2), .ref (t 3), .ref (t 4), .ref (t 5), .int u, .int cl, .int (nI pa_93), .int rf])), (t 2, .inl (cI, 32, .inl fk))] H := hP
    have hD : va_D A [(t 1, .inl (cI, 200, .inl fs)), (b1, .inl (cI, 26, .inl fl)), (t 0, .inr (9, [.ref (t 1), .ref (t 2), .ref (t 3), .ref (t 4), .ref (t 5), .int u, .int cl, .int (nI pa_93), .int rf])), (t 2, .inl (cI, 32, .inl fk))] := hD
    refine lv_iload hx hb dX9_stepOn_183 (lv_at hl 0 rfl) ?_
    refine eWi (wr := [(t 1, .inl (cI, 200, .inl fs)), (b1, .inl (cI, 26, .inl fl)), (t 2, .inl (cI, 32, .inl fk))]) (va_runV (As := [.int 8, .int r_92, .int r_89]) (rest := [.ref (t 0)]) ⟨hx, hb, hml, hown, hts⟩ (c_X9_reckon l D cI cB cZ cJ tx t u cl (nI pa_93) rf 8 r_92 r_89 H.size) (zV hts k_803 v_X9_reckon ⟨Nat.le_of_ble_eq_true rfl, Nat.le_of_ble_eq_true rfl⟩) (pV (pxS hK hP hD [2] (by decide) rfl) hK hP 2 rfl rfl) rfl rfl hl.1 rfl (lv_room (Nat.le_of_ble_eq_true rfl)) dX9_stepOn_185 ⟨Nat.le_of_ble_eq_true rfl, Nat.le_of_ble_eq_true rfl⟩) hP hD hS hA [2] [0, 1, 3] rfl rfl (by decide) (by decide) (fun r_94 u_95 H locs wr_94 hP hD hS => ?_)
    obtain ⟨ra_95, rfl⟩ : ∃ z, z = u_95 := ⟨_, rfl⟩
    have hz_95 : True := wr_94
    have hP : va_P D vwCl [(t 1, .inl (cI, 200, .inl fs)), (b1, .inl (cI, 26, .inl fl)), (t 2, .inl (cI, 32, .inl fk)), (t 0, .inr (9, [.ref (t 1), .ref (t 2), .ref (t 3), .ref (t 4), .ref (t 5), .int u, .int cl, .int (nI pa_93), .int ra_95]))] H := hP
    have hD : va_D A [(t 1, .inl (cI, 200, .inl fs)), (b1, .inl (cI, 26, .inl fl)), (t 2, .inl (cI, 32, .inl fk)), (t 0, .inr (9, [.ref (t 1), .ref (t 2), .ref (t 3), .ref (t 4), .ref (t 5), .int u, .int cl, .int (nI pa_93), .int ra_95]))] := hD
    refine eWv (wr := [(t 1, .inl (cI, 200, .inl fs)), (b1, .inl (cI, 26, .inl fl))]) (va_runV (As := [.int r_94]) (rest := []) ⟨hx, hb, hml, hown, hts⟩ (c_X9_push l D cI cB cZ cJ tx t u cl ra_95 pa_93 fk r_94 (lf_X9_stepOn_96 t u cl rf p1 fs fk fl b1 j0 hp hst hj 8 ex_2 x_4 ex_4 c_5 c_10 c_22 c_35 c_48 c_61 c_74 rfl pa_90 hz_90 r_89 pa_93 hz_93 r_92 ra_95 hz_95 r_94) H.size) (zV hts k_795 v_X9_push ⟨Nat.le_of_ble_eq_true rfl, Nat.le_of_ble_eq_true rfl⟩) (pV (pxS hK hP hD [3, 2] (by decide) rfl) hK hP 3 rfl rfl) rfl rfl hl.1 rfl (lv_room (Nat.le_of_ble_eq_true rfl)) dX9_stepOn_188 ⟨Nat.le_of_ble_eq_true rfl, Nat.le_of_ble_eq_true rfl⟩) hP hD hS hA [3, 2] [0, 1] rfl rfl (by decide) (by decide) (fun u_98 H locs wr_97 hP hD hS => ?_)
    obtain ⟨pa_98, fa_98⟩ := u_98
    have hz_98 : pa_98 ≤ 32 := wr_97
    have hP : va_P D vwCl [(t 1, .inl (cI, 200, .inl fs)), (b1, .inl (cI, 26, .inl fl)), (t 0, .inr (9, [.ref (t 1), .ref (t 2), .ref (t 3), .ref (t 4), .ref (t 5), .int u, .int cl, .int (nI pa_98), .int ra_95])), (t 2, .inl (cI, 32, .inl fa_98))] H := hP
    have hD : va_D A [(t 1, .inl (cI, 200, .inl fs)), (b1, .inl (cI, 26, .inl fl)), (t 0, .inr (9, [.ref (t 1), .ref (t 2), .ref (t 3), .ref (t 4), .ref (t 5), .int u, .int cl, .int (nI pa_98), .int ra_95])), (t 2, .inl (cI, 32, .inl fa_98))] := hD
    refine lv_iload_n hx hb dX9_stepOn_191 rfl (lv_at hl 4 rfl) ?_
    refine lv_iconst (v := 1) hx hb dX9_stepOn_192 (by decide) ?_
    refine lv_iadd hx hb dX9_stepOn_193 ?_
    refine lv_topv (y := nI (j0 + 1)) (nI_add j0 1) ?_
    have hP := hP.sub (ws' := [(t 0, .inr (9, [.ref (t 1), .ref (t 2), .ref (t 3), .ref (t 4), .ref (t 5), .int u, .int cl, .int (nI pa_98), .int ra_95])), (t 1, .inl (cI, 200, .inl fs)), (t 2, .inl (cI, 32, .inl fa_98)), (b1, .inl (cI, 26, .inl fl))]) [2, 0, 3, 1] rfl
    have hD := hD.sub (ws' := [(t 0, .inr (9, [.ref (t 1), .ref (t 2), .ref (t 3), .ref (t 4), .ref (t 5), .int u, .int cl, .int (nI pa_98), .int ra_95])), (t 1, .inl (cI, 200, .inl fs)), (t 2, .inl (cI, 32, .inl fa_98)), (b1, .inl (cI, 26, .inl fl))]) [2, 0, 3, 1] (by decide) rfl
    exact W.iret (v := nI (j0 + 1)) hx hb hr (fun tt9 ht hW => ⟨⟨(nI (j0 + 1) : Int32), (pa_98, (ra_95 : Int32), fa_98), rfl, (lf_X9_stepOn_99 t u cl rf p1 fs fk fl b1 j0 hp hst hj 8 ex_2 x_4 ex_4 c_5 c_10 c_22 c_35 c_48 c_61 c_74 rfl pa_90 hz_90 r_89 pa_93 hz_93 r_92 ra_95 hz_95 r_94 pa_98 fa_98 hz_98), ⟨by rw [ht]; exact hP, hD⟩⟩, hS.F ht⟩) hS.2.2 dX9_stepOn_194 hlocks
  by_cases c_100 : x_2 = 9
  · subst c_100
    refine lv_tableIn (off := 149) (tgt := 170) hx hb dX9_stepOn_21 (by decide) (by decide) rfl (by decide) ?_
    refine lv_aload_n hx hb dX9_stepOn_170 rfl (lv_at hl 2 rfl) ?_
    refine eWi (wr := [(t 1, .inl (cI, 200, .inl fs)), (b1, .inl (cI, 26, .inl fl))]) (va_runV (As := []) (rest := []) ⟨hx, hb, hml, hown, hts⟩ (c_X9_pop l D cI cB cZ cJ tx t u cl rf p1 fk (lf_X9_stepOn_101 t u cl rf p1 fs fk fl b1 j0 hp hst hj 9 ex_2 x_4 ex_4 c_5 c_10 c_22 c_35 c_48 c_61 c_74 c_87 rfl) H.size) (zV hts k_799 v_X9_pop ⟨Nat.le_of_ble_eq_true rfl, Nat.le_of_ble_eq_true rfl⟩) (pV (pxS hK hP hD [0, 2] (by decide) rfl) hK hP 0 rfl rfl) rfl rfl hl.1 rfl (lv_room (Nat.le_of_ble_eq_true rfl)) dX9_stepOn_171 ⟨Nat.le_of_ble_eq_true rfl, Nat.le_of_ble_eq_true rfl⟩) hP hD hS hA [0, 2] [1, 3] rfl rfl (by decide) (by decide) (fun r_102 u_103 H locs wr_102 hP hD hS => ?_)
    obtain ⟨pa_103, rfl⟩ : ∃ z, z = u_103 := ⟨_, rfl⟩
    have hz_103 : pa_103 ≤ 32 := wr_102
    have hP : va_P D vwCl [(t 1, .inl (cI, 200, .inl fs)), (b1, .inl (cI, 26, .inl fl)), (t 0, .inr (9, [.ref (t 1), .ref (t 2), .ref (t 3), .ref (t 4), .ref (t 5), .int u, .int cl, .int (nI pa_103), .int rf])), (t 2, .inl (cI, 32, .inl fk))] H := hP
    have hD : va_D A [(t 1, .inl (cI, 200, .inl fs)), (b1, .inl (cI, 26, .inl fl)), (t 0, .inr (9, [.ref (t 1), .ref (t 2), .ref (t 3), .ref (t 4), .ref (t 5), .int u, .int cl, .int (nI pa_103), .int rf])), (t 2, .inl (cI, 32, .inl fk))] := hD
    refine lv_istore (lv' := [(5, .int r_102), (4, .int x_4), (3, .int 9), (0, .ref (t 0)), (1, .int (nI j0)), (2, .ref b1)]) hx hb dX9_stepOn_174 hl (by decide) rfl (fun ls hl => ?_)
    refine lv_aload_n hx hb dX9_stepOn_176 rfl (lv_at hl 3 rfl) ?_
    refine lv_aload_n hx hb dX9_stepOn_177 rfl (lv_at hl 3 rfl) ?_
    refine lv_iload_n hx hb dX9_stepOn_178 rfl (lv_at hl 2 rfl) ?_
    refine lv_aload_n hx hb dX9_stepOn_179 rfl (lv_at hl 3 rfl) ?_
    refine eWi (wr := [(t 1, .inl (cI, 200, .inl fs)), (b1, .inl (cI, 26, .inl fl))]) (va_runV (As := []) (rest := [.int 9, .ref (t 0), .ref (t 0)]) ⟨hx, hb, hml, hown, hts⟩ (c_X9_pop l D cI cB cZ cJ tx t u cl rf pa_103 fk (lf_X9_stepOn_104 t u cl rf p1 fs fk fl b1 j0 hp hst hj 9 ex_2 x_4 ex_4 c_5 c_10 c_22 c_35 c_48 c_61 c_74 c_87 rfl pa_103 hz_103 r_102) H.size) (zV hts k_799 v_X9_pop ⟨Nat.le_of_ble_eq_true rfl, Nat.le_of_ble_eq_true rfl⟩) (pV (pxS hK hP hD [2, 3] (by decide) rfl) hK hP 2 rfl rfl) rfl rfl hl.1 rfl (lv_room (Nat.le_of_ble_eq_true rfl)) dX9_stepOn_180 ⟨Nat.le_of_ble_eq_true rfl, Nat.le_of_ble_eq_true rfl⟩) hP hD hS hA [2, 3] [0, 1] rfl rfl (by decide) (by decide) (fun r_105 u_106 H locs wr_105 hP hD hS => ?_)
    obtain ⟨pa_106, rfl⟩ : ∃ z, z = u_106 := ⟨_, rfl⟩
    have hz_106 : pa_106 ≤ 32 := wr_105
    have hP : va_P D vwCl [(t 1, .inl (cI, 200, .inl fs)), (b1, .inl (cI, 26, .inl fl)), (t 0, .inr (9, [.ref (t 1), .ref (t 2), .ref (t 3), .ref (t 4), .ref (t 5), .int u, .int cl, .int (nI pa_106), .int rf])), (t 2, .inl (cI, 32, .inl fk))] H := hP
    have hD : va_D A [(t 1, .inl (cI, 200, .inl fs)), (b1, .inl (cI, 26, .inl fl)), (t 0, .inr (9, [.ref (t 1), .ref (t 2), .ref (t 3), .ref (t 4), .ref (t 5), .int u, .int cl, .int (nI pa_106), .int rf])), (t 2, .inl (cI, 32, .inl fk))] := hD
    refine lv_iload hx hb dX9_stepOn_183 (lv_at hl 0 rfl) ?_
    refine eWi (wr := [(t 1, .inl (cI, 200, .inl fs)), (b1, .inl (cI, 26, .inl fl)), (t 2, .inl (cI, 32, .inl fk))]) (va_runV (As := [.int 9, .int r_105, .int r_102]) (rest := [.ref (t 0)]) ⟨hx, hb, hml, hown, hts⟩ (c_X9_reckon l D cI cB cZ cJ tx t u cl (nI pa_106) rf 9 r_105 r_102 H.size) (zV hts k_803 v_X9_reckon ⟨Nat.le_of_ble_eq_true rfl, Nat.le_of_ble_eq_true rfl⟩) (pV (pxS hK hP hD [2] (by decide) rfl) hK hP 2 rfl rfl) rfl rfl hl.1 rfl (lv_room (Nat.le_of_ble_eq_true rfl)) dX9_stepOn_185 ⟨Nat.le_of_ble_eq_true rfl, Nat.le_of_ble_eq_true rfl⟩) hP hD hS hA [2] [0, 1, 3] rfl rfl (by decide) (by decide) (fun r_107 u_108 H locs wr_107 hP hD hS => ?_)
    obtain ⟨ra_108, rfl⟩ : ∃ z, z = u_108 := ⟨_, rfl⟩
    have hz_108 : True := wr_107
    have hP : va_P D vwCl [(t 1, .inl (cI, 200, .inl fs)), (b1, .inl (cI, 26, .inl fl)), (t 2, .inl (cI, 32, .inl fk)), (t 0, .inr (9, [.ref (t 1), .ref (t 2), .ref (t 3), .ref (t 4), .ref (t 5), .int u, .int cl, .int (nI pa_106), .int ra_108]))] H := hP
    have hD : va_D A [(t 1, .inl (cI, 200, .inl fs)), (b1, .inl (cI, 26, .inl fl)), (t 2, .inl (cI, 32, .inl fk)), (t 0, .inr (9, [.ref (t 1), .ref (t 2), .ref (t 3), .ref (t 4), .ref (t 5), .int u, .int cl, .int (nI pa_106), .int ra_108]))] := hD
    refine eWv (wr := [(t 1, .inl (cI, 200, .inl fs)), (b1, .inl (cI, 26, .inl fl))]) (va_runV (As := [.int r_107]) (rest := []) ⟨hx, hb, hml, hown, hts⟩ (c_X9_push l D cI cB cZ cJ tx t u cl ra_108 pa_106 fk r_107 (lf_X9_stepOn_109 t u cl rf p1 fs fk fl b1 j0 hp hst hj 9 ex_2 x_4 ex_4 c_5 c_10 c_22 c_35 c_48 c_61 c_74 c_87 rfl pa_103 hz_103 r_102 pa_106 hz_106 r_105 ra_108 hz_108 r_107) H.size) (zV hts k_795 v_X9_push ⟨Nat.le_of_ble_eq_true rfl, Nat.le_of_ble_eq_true rfl⟩) (pV (pxS hK hP hD [3, 2] (by decide) rfl) hK hP 3 rfl rfl) rfl rfl hl.1 rfl (lv_room (Nat.le_of_ble_eq_true rfl)) dX9_stepOn_188 ⟨Nat.le_of_ble_eq_true rfl, Nat.le_of_ble_eq_true rfl⟩) hP hD hS hA [3, 2] [0, 1] rfl rfl (by decide) (by decide) (fun u_111 H locs wr_110 hP hD hS => ?_)
    obtain ⟨pa_111, fa_111⟩ := u_111
    have hz_111 : pa_111 ≤ 32 := wr_110
    have hP : va_P D vwCl [(t 1, .inl (cI, 200, .inl fs)), (b1, .inl (cI, 26, .inl fl)), (t 0, .inr (9, [.ref (t 1), .ref (t 2), .ref (t 3), .ref (t 4), .ref (t 5), .int u, .int cl, .int (nI pa_111), .int ra_108])), (t 2, .inl (cI, 32, .inl fa_111))] H := hP
    have hD : va_D A [(t 1, .inl (cI, 200, .inl fs)), (b1, .inl (cI, 26, .inl fl)), (t 0, .inr (9, [.ref (t 1), .ref (t 2), .ref (t 3), .ref (t 4), .ref (t 5), .int u, .int cl, .int (nI pa_111), .int ra_108])), (t 2, .inl (cI, 32, .inl fa_111))] := hD
    refine lv_iload_n hx hb dX9_stepOn_191 rfl (lv_at hl 4 rfl) ?_
    refine lv_iconst (v := 1) hx hb dX9_stepOn_192 (by decide) ?_
    refine lv_iadd hx hb dX9_stepOn_193 ?_
    refine lv_topv (y := nI (j0 + 1)) (nI_add j0 1) ?_
    have hP := hP.sub (ws' := [(t 0, .inr (9, [.ref (t 1), .ref (t 2), .ref (t 3), .ref (t 4), .ref (t 5), .int u, .int cl, .int (nI pa_111), .int ra_108])), (t 1, .inl (cI, 200, .inl fs)), (t 2, .inl (cI, 32, .inl fa_111)), (b1, .inl (cI, 26, .inl fl))]) [2, 0, 3, 1] rfl
    have hD := hD.sub (ws' := [(t 0, .inr (9, [.ref (t 1), .ref (t 2), .ref (t 3), .ref (t 4), .ref (t 5), .int u, .int cl, .int (nI pa_111), .int ra_108])), (t 1, .inl (cI, 200, .inl fs)), (t 2, .inl (cI, 32, .inl fa_111)), (b1, .inl (cI, 26, .inl fl))]) [2, 0, 3, 1] (by decide) rfl
    exact W.iret (v := nI (j0 + 1)) hx hb hr (fun tt9 ht hW => ⟨⟨(nI (j0 + 1) : Int32), (pa_111, (ra_108 : Int32), fa_111), rfl, (lf_X9_stepOn_112 t u cl rf p1 fs fk fl b1 j0 hp hst hj 9 ex_2 x_4 ex_4 c_5 c_10 c_22 c_35 c_48 c_61 c_74 c_87 rfl pa_103 hz_103 r_102 pa_106 hz_106 r_105 ra_108 hz_108 r_107 pa_111 fa_111 hz_111), ⟨by rw [ht]; exact hP, hD⟩⟩, hS.F ht⟩) hS.2.2 dX9_stepOn_194 hlocks
  by_cases c_113 : x_2 = 10
  · subst c_113
    refine lv_tableIn (off := 149) (tgt := 170) hx hb dX9_stepOn_21 (by decide) (by decide) rfl (by decide) ?_
    refine lv_aload_n hx hb dX9_stepOn_170 rfl (lv_at hl 2 rfl) ?_
    refine eWi (wr := [(t 1, .inl (cI, 200, .inl fs)), (b1, .inl (cI, 26, .inl fl))]) (va_runV (As := []) (rest := []) ⟨hx, hb, hml, hown, hts⟩ (c_X9_pop l D cI cB cZ cJ tx t u cl rf p1 fk (lf_X9_stepOn_114 t u cl rf p1 fs fk fl b1 j0 hp hst hj 10 ex_2 x_4 ex_4 c_5 c_10 c_22 c_35 c_48 c_61 c_74 c_87 c_100 rfl) H.size) (zV hts k_799 v_X9_pop ⟨Nat.le_of_ble_eq_true rfl, Nat.le_of_ble_eq_true rfl⟩) (pV (pxS hK hP hD [0, 2] (by decide) rfl) hK hP 0 rfl rfl) rfl rfl hl.1 rfl (lv_room (Nat.le_of_ble_eq_true rfl)) dX9_stepOn_171 ⟨Nat.le_of_ble_eq_true rfl, Nat.le_of_ble_eq_true rfl⟩) hP hD hS hA [0, 2] [1, 3] rfl rfl (by decide) (by decide) (fun r_115 u_116 H locs wr_115 hP hD hS => ?_)
    obtain ⟨pa_116, rfl⟩ : ∃ z, z = u_116 := ⟨_, rfl⟩
    have hz_116 : pa_116 ≤ 32 := wr_115
    have hP : va_P D vwCl [(t 1, .inl (cI, 200, .inl fs)), (b1, .inl (cI, 26, .inl fl)), (t 0, .inr (9, [.ref (t 1), .ref (t 2), .ref (t 3), .ref (t 4), .ref (t 5), .int u, .int cl, .int (nI pa_116), .int rf])), (t 2, .inl (cI, 32, .inl fk))] H := hP
    have hD : va_D A [(t 1, .inl (cI, 200, .inl fs)), (b1, .inl (cI, 26, .inl fl)), (t 0, .inr (9, [.ref (t 1), .ref (t 2), .ref (t 3), .ref (t 4), .ref (t 5), .int u, .int cl, .int (nI pa_116), .int rf])), (t 2, .inl (cI, 32, .inl fk))] := hD
    refine lv_istore (lv' := [(5, .int r_115), (4, .int x_4), (3, .int 10), (0, .ref (t 0)), (1, .int (nI j0)), (2, .ref b1)]) hx hb dX9_stepOn_174 hl (by decide) rfl (fun ls hl => ?_)
    refine lv_aload_n hx hb dX9_stepOn_176 rfl (lv_at hl 3 rfl) ?_
    refine lv_aload_n hx hb dX9_stepOn_177 rfl (lv_at hl 3 rfl) ?_
    refine lv_iload_n hx hb dX9_stepOn_178 rfl (lv_at hl 2 rfl) ?_
    refine lv_aload_n hx hb dX9_stepOn_179 rfl (lv_at hl 3 rfl) ?_
    refine eWi (wr := [(t 1, .inl (cI, 200, .inl fs)), (b1, .inl (cI, 26, .inl fl))]) (va_runV (As := []) (rest := [.int 10, .ref (t 0), .ref (t 0)]) ⟨hx, hb, hml, hown, hts⟩ (c_X9_pop l D cI cB cZ cJ tx t u cl rf pa_116 fk (lf_X9_stepOn_117 t u cl rf p1 fs fk fl b1 j0 hp hst hj 10 ex_2 x_4 ex_4 c_5 c_10 c_22 c_35 c_48 c_61 c_74 c_87 c_100 rfl pa_116 hz_116 r_115) H.size) (zV hts k_799 v_X9_pop ⟨Nat.le_of_ble_eq_true rfl, Nat.le_of_ble_eq_true rfl⟩) (pV (pxS hK hP hD [2, 3] (by decide) rfl) hK hP 2 rfl rfl) rfl rfl hl.1 rfl (lv_room (Nat.le_of_ble_eq_true rfl)) dX9_stepOn_180 ⟨Nat.le_of_ble_eq_true rfl, Nat.le_of_ble_eq_true rfl⟩) hP hD hS hA [2, 3] [0, 1] rfl rfl (by decide) (by decide) (fun r_118 u_119 H locs wr_118 hP hD hS => ?_)
    obtain ⟨pa_119, rfl⟩ : ∃ z, z = u_119 := ⟨_, rfl⟩
    have hz_119 : pa_119 ≤ 32 := wr_118
    have hP : va_P D vwCl [(t 1, .inl (cI, 200, .inl fs)), (b1, .inl (cI, 26, .inl fl)), (t 0, .inr (9, [.ref (t 1), .ref (t 2), .ref (t 3), .ref (t 4), .ref (t 5), .int u, .int cl, .int (nI pa_119), .int rf])), (t 2, .inl (cI, 32, .inl fk))] H := hP
    have hD : va_D A [(t 1, .inl (cI, 200, .inl fs)), (b1, .inl (cI, 26, .inl fl)), (t 0, .inr (9, [.ref (t 1), .ref (t 2), .ref (t 3), .ref (t 4), .ref (t 5), .int u, .int cl, .int (nI pa_119), .int rf])), (t 2, .inl (cI, 32, .inl fk))] := hD
    refine lv_iload hx hb dX9_stepOn_183 (lv_at hl 0 rfl) ?_
    refine eWi (wr := [(t 1, .inl (cI, 200, .inl fs)), (b1, .inl (cI, 26, .inl fl)), (t 2, .inl (cI, 32, .inl fk))]) (va_runV (As := [.int 10, .int r_118, .int r_115]) (rest := [.ref (t 0)]) ⟨hx, hb, hml, hown, hts⟩ (c_X9_reckon l D cI cB cZ cJ tx t u cl (nI pa_119) rf 10 r_118 r_115 H.size) (zV hts k_803 v_X9_reckon ⟨Nat.le_of_ble_eq_true rfl, Nat.le_of_ble_eq_true rfl⟩) (pV (pxS hK hP hD [2] (by decide) rfl) hK hP 2 rfl rfl) rfl rfl hl.1 rfl (lv_room (Nat.le_of_ble_eq_true rfl)) dX9_stepOn_185 ⟨Nat.le_of_ble_eq_true rfl, Nat.le_of_ble_eq_true rfl⟩) hP hD hS hA [2] [0, 1, 3] rfl rfl (by decide) (by decide) (fun r_120 u_121 H locs wr_120 hP hD hS => ?_)
    obtain ⟨ra_121, rfl⟩ : ∃ z, z = u_121 := ⟨_, rfl⟩
    have hz_121 : True := wr_120
    have hP : va_P D vwCl [(t 1, .inl (cI, 200, .inl fs)), (b1, .inl (cI, 26, .inl fl)), (t 2, .inl (cI, 32, .inl fk)), (t 0, .inr (9, [.ref (t 1), .ref (t 2), .ref (t 3), .ref (t 4), .ref (t 5), .int u, .int cl, .int (nI pa_119), .int ra_121]))] H := hP
    have hD : va_D A [(t 1, .inl (cI, 200, .inl fs)), (b1, .inl (cI, 26, .inl fl)), (t 2, .inl (cI, 32, .inl fk)), (t 0, .inr (9, [.ref (t 1), .ref (t 2), .ref (t 3), .ref (t 4), .ref (t 5), .int u, .int cl, .int (nI pa_119), .int ra_121]))] := hD
    refine eWv (wr := [(t 1, .inl (cI, 200, .inl fs)), (b1, .inl (cI, 26, .inl fl))]) (va_runV (As := [.int r_120]) (rest := []) ⟨hx, hb, hml, hown, hts⟩ (c_X9_push l D cI cB cZ cJ tx t u cl ra_121 pa_119 fk r_120 (lf_X9_stepOn_122 t u cl rf p1 fs fk fl b1 j0 hp hst hj 10 ex_2 x_4 ex_4 c_5 c_10 c_22 c_35 c_48 c_61 c_74 c_87 c_100 rfl pa_116 hz_116 r_115 pa_119 hz_119 r_118 ra_121 hz_121 r_120) H.size) (zV hts k_795 v_X9_push ⟨Nat.le_of_ble_eq_true rfl, Nat.le_of_ble_eq_true rfl⟩) (pV (pxS hK hP hD [3, 2] (by decide) rfl) hK hP 3 rfl rfl) rfl rfl hl.1 rfl (lv_room (Nat.le_of_ble_eq_true rfl)) dX9_stepOn_188 ⟨Nat.le_of_ble_eq_true rfl, Nat.le_of_ble_eq_true rfl⟩) hP hD hS hA [3, 2] [0, 1] rfl rfl (by decide) (by decide) (fun u_124 H locs wr_123 hP hD hS => ?_)
    obtain ⟨pa_124, fa_124⟩ := u_124
    have hz_124 : pa_124 ≤ 32 := wr_123
    have hP : va_P D vwCl [(t 1, .inl (cI, 200, .inl fs)), (b1, .inl (cI, 26, .inl fl)), (t 0, .inr (9, [.ref (t 1), .ref (t 2), .ref (t 3), .ref (t 4), .ref (t 5), .int u, .int cl, .int (nI pa_124), .int ra_121])), (t 2, .inl (cI, 32, .inl fa_124))] H := hP
    have hD : va_D A [(t 1, .inl (cI, 200, .inl fs)), (b1, .inl (cI, 26, .inl fl)), (t 0, .inr (9, [.ref (t 1), .ref (t 2), .ref (t 3), .ref (t 4), .ref (t 5), .int u, .int cl, .int (nI pa_124), .int ra_121])), (t 2, .inl (cI, 32, .inl fa_124))] := hD
    refine lv_iload_n hx hb dX9_stepOn_191 rfl (lv_at hl 4 rfl) ?_
    refine lv_iconst (v := 1) hx hb dX9_stepOn_192 (by decide) ?_
    refine lv_iadd hx hb dX9_stepOn_193 ?_
    refine lv_topv (y := nI (j0 + 1)) (nI_add j0 1) ?_
    have hP := hP.sub (ws' := [(t 0, .inr (9, [.ref (t 1), .ref (t 2), .ref (t 3), .ref (t 4), .ref (t 5), .int u, .int cl, .int (nI pa_124), .int ra_121])), (t 1, .inl (cI, 200, .inl fs)), (t 2, .inl (cI, 32, .inl fa_124)), (b1, .inl (cI, 26, .inl fl))]) [2, 0, 3, 1] rfl
    have hD := hD.sub (ws' := [(t 0, .inr (9, [.ref (t 1), .ref (t 2), .ref (t 3), .ref (t 4), .ref (t 5), .int u, .int cl, .int (nI pa_124), .int ra_121])), (t 1, .inl (cI, 200, .inl fs)), (t 2, .inl (cI, 32, .inl fa_124)), (b1, .inl (cI, 26, .inl fl))]) [2, 0, 3, 1] (by decide) rfl
    exact W.iret (v := nI (j0 + 1)) hx hb hr (fun tt9 ht hW => ⟨⟨(nI (j0 + 1) : Int32), (pa_124, (ra_121 : Int32), fa_124), rfl, (lf_X9_stepOn_125 t u cl rf p1 fs fk fl b1 j0 hp hst hj 10 ex_2 x_4 ex_4 c_5 c_10 c_22 c_35 c_48 c_61 c_74 c_87 c_100 rfl pa_116 hz_116 r_115 pa_119 hz_119 r_118 ra_121 hz_121 r_120 pa_124 fa_124 hz_124), ⟨by rw [ht]; exact hP, hD⟩⟩, hS.F ht⟩) hS.2.2 dX9_stepOn_194 hlocks
  by_cases c_126 : x_2 = 11
  · subst c_126
    refine lv_tableIn (off := 100) (tgt := 121) hx hb dX9_stepOn_21 (by decide) (by decide) rfl (by decide) ?_
    refine lv_aload_n hx hb dX9_stepOn_121 rfl (lv_at hl 2 rfl) ?_
    refine lv_iconst (v := 1) hx hb dX9_stepOn_122 (by decide) ?_
    refine lv_aload_n hx hb dX9_stepOn_123 rfl (lv_at hl 2 rfl) ?_
    refine eWi (wr := [(t 1, .inl (cI, 200, .inl fs)), (b1, .inl (cI, 26, .inl fl))]) (va_runV (As := []) (rest := [.int 1, .ref (t 0)]) ⟨hx, hb, hml, hown, hts⟩ (c_X9_pop l D cI cB cZ cJ tx t u cl rf p1 fk (lf_X9_stepOn_127 t u cl rf p1 fs fk fl b1 j0 hp hst hj 11 ex_2 x_4 ex_4 c_5 c_10 c_22 c_35 c_48 c_61 c_74 c_87 c_100 c_113 rfl) H.size) (zV hts k_799 v_X9_pop ⟨Nat.le_of_ble_eq_true rfl, Nat.le_of_ble_eq_true rfl⟩) (pV (pxS hK hP hD [0, 2] (by decide) rfl) hK hP 0 rfl rfl) rfl rfl hl.1 rfl (lv_room (Nat.le_of_ble_eq_true rfl)) dX9_stepOn_124 ⟨Nat.le_of_ble_eq_true rfl, Nat.le_of_ble_eq_true rfl⟩) hP hD hS hA [0, 2] [1, 3] rfl rfl (by decide) (by decide) (fun r_128 u_129 H locs wr_128 hP hD hS => ?_)
    obtain ⟨pa_129, rfl⟩ : ∃ z, z = u_129 := ⟨_, rfl⟩
    have hz_129 : pa_129 ≤ 32 := wr_128
    have hP : va_P D vwCl [(t 1, .inl (cI, 200, .inl fs)), (b1, .inl (cI, 26, .inl fl)), (t 0, .inr (9, [.ref (t 1), .ref (t 2), .ref (t 3), .ref (t 4), .ref (t 5), .int u, .int cl, .int (nI pa_129), .int rf])), (t 2, .inl (cI, 32, .inl fk))] H := hP
    have hD : va_D A [(t 1, .inl (cI, 200, .inl fs)), (b1, .inl (cI, 26, .inl fl)), (t 0, .inr (9, [.ref (t 1), .ref (t 2), .ref (t 3), .ref (t 4), .ref (t 5), .int u, .int cl, .int (nI pa_129), .int rf])), (t 2, .inl (cI, 32, .inl fk))] := hD
    refine lv_isub hx hb dX9_stepOn_127 ?_
    refine lv_topi (fun x_130 ex_130 => ?_)
    refine eWv (wr := [(t 1, .inl (cI, 200, .inl fs)), (b1, .inl (cI, 26, .inl fl))]) (va_runV (As := [.int x_130]) (rest := []) ⟨hx, hb, hml, hown, hts⟩ (c_X9_push l D cI cB cZ cJ tx t u cl rf pa_129 fk x_130 (lf_X9_stepOn_131 t u cl rf p1 fs fk fl b1 j0 hp hst hj 11 ex_2 x_4 ex_4 c_5 c_10 c_22 c_35 c_48 c_61 c_74 c_87 c_100 c_113 rfl pa_129 hz_129 r_128 x_130 ex_130) H.size) (zV hts k_795 v_X9_push ⟨Nat.le_of_ble_eq_true rfl, Nat.le_of_ble_eq_true rfl⟩) (pV (pxS hK hP hD [2, 3] (by decide) rfl) hK hP 2 rfl rfl) rfl rfl hl.1 rfl (lv_room (Nat.le_of_ble_eq_true rfl)) dX9_stepOn_128 ⟨Nat.le_of_ble_eq_true rfl, Nat.le_of_ble_eq_true rfl⟩) hP hD hS hA [2, 3] [0, 1] rfl rfl (by decide) (by decide) (fun u_133 H locs wr_132 hP hD hS => ?_)
    obtain ⟨pa_133, fa_133⟩ := u_133
    have hz_133 : pa_133 ≤ 32 := wr_132
    have hP : va_P D vwCl [(t 1, .inl (cI, 200, .inl fs)), (b1, .inl (cI, 26, .inl fl)), (t 0, .inr (9, [.ref (t 1), .ref (t 2), .ref (t 3), .ref (t 4), .ref (t 5), .int u, .int cl, .int (nI pa_133), .int rf])), (t 2, .inl (cI, 32, .inl fa_133))] H := hP
    have hD : va_D A [(t 1, .inl (cI, 200, .inl fs)), (b1, .inl (cI, 26, .inl fl)), (t 0, .inr (9, [.ref (t 1), .ref (t 2), .ref (t 3), .ref (t 4), .ref (t 5), .int u, .int cl, .int (nI pa_133), .int rf])), (t 2, .inl (cI, 32, .inl fa_133))] := hD
    refine lv_iload_n hx hb dX9_stepOn_131 rfl (lv_at hl 3 rfl) ?_
    refine lv_iconst (v := 1) hx hb dX9_stepOn_132 (by decide) ?_
    refine lv_iadd hx hb dX9_stepOn_133 ?_
    refine lv_topv (y := nI (j0 + 1)) (nI_add j0 1) ?_
    have hP := hP.sub (ws' := [(t 0, .inr (9, [.ref (t 1), .ref (t 2), .ref (t 3), .ref (t 4), .ref (t 5), .int u, .int cl, .int (nI pa_133), .int rf])), (t 1, .inl (cI, 200, .inl fs)), (t 2, .inl (cI, 32, .inl fa_133)), (b1, .inl (cI, 26, .inl fl))]) [2, 0, 3, 1] rfl
    have hD := hD.sub (ws' := [(t 0, .inr (9, [.ref (t 1), .ref (t 2), .ref (t 3), .ref (t 4), .ref (t 5), .int u, .int cl, .int (nI pa_133), .int rf])), (t 1, .inl (cI, 200, .inl fs)), (t 2, .inl (cI, 32, .inl fa_133)), (b1, .inl (cI, 26, .inl fl))]) [2, 0, 3, 1] (by decide) rfl
    exact W.iret (v := nI (j0 + 1)) hx hb hr (fun tt9 ht hW => ⟨⟨(nI (j0 + 1) : Int32), (pa_133, (rf : Int32), fa_133), rfl, (lf_X9_stepOn_134 t u cl rf p1 fs fk fl b1 j0 hp hst hj 11 ex_2 x_4 ex_4 c_5 c_10 c_22 c_35 c_48 c_61 c_74 c_87 c_100 c_113 rfl pa_129 hz_129 r_128 x_130 ex_130 pa_133 fa_133 hz_133), ⟨by rw [ht]; exact hP, hD⟩⟩, hS.F ht⟩) hS.2.2 dX9_stepOn_134 hlocks
  by_cases c_135 : x_2 = 12
  · subst c_135
    refine lv_tableIn (off := 114) (tgt := 135) hx hb dX9_stepOn_21 (by decide) (by decide) rfl (by decide) ?_
    refine lv_aload_n hx hb dX9_stepOn_135 rfl (lv_at hl 2 rfl) ?_
    refine eWi (wr := [(t 1, .inl (cI, 200, .inl fs)), (b1, .inl (cI, 26, .inl fl))]) (va_runV (As := []) (rest := []) ⟨hx, hb, hml, hown, hts⟩ (c_X9_pop l D cI cB cZ cJ tx t u cl rf p1 fk (lf_X9_stepOn_136 t u cl rf p1 fs fk fl b1 j0 hp hst hj 12 ex_2 x_4 ex_4 c_5 c_10 c_22 c_35 c_48 c_61 c_74 c_87 c_100 c_113 c_126 rfl) H.size) (zV hts k_799 v_X9_pop ⟨Nat.le_of_ble_eq_true rfl, Nat.le_of_ble_eq_true rfl⟩) (pV (pxS hK hP hD [0, 2] (by decide) rfl) hK hP 0 rfl rfl) rfl rfl hl.1 rfl (lv_room (Nat.le_of_ble_eq_true rfl)) dX9_stepOn_136 ⟨Nat.le_of_ble_eq_true rfl, Nat.le_of_ble_eq_true rfl⟩) hP hD hS hA [0, 2] [1, 3] rfl rfl (by decide) (by decide) (fun r_137 u_138 H locs wr_137 hP hD hS => ?_)
    obtain ⟨pa_138, rfl⟩ : ∃ z, z = u_138 := ⟨_, rfl⟩
    have hz_138 : pa_138 ≤ 32 := wr_137
    have hP : va_P D vwCl [(t 1, .inl (cI, 200, .inl fs)), (b1, .inl (cI, 26, .inl fl)), (t 0, .inr (9, [.ref (t 1), .ref (t 2), .ref (t 3), .ref (t 4), .ref (t 5), .int u, .int cl, .int (nI pa_138), .int rf])), (t 2, .inl (cI, 32, .inl fk))] H := hP
    have hD : va_D A [(t 1, .inl (cI, 200, .inl fs)), (b1, .inl (cI, 26, .inl fl)), (t 0, .inr (9, [.ref (t 1), .ref (t 2), .ref (t 3), .ref (t 4), .ref (t 5), .int u, .int cl, .int (nI pa_138), .int rf])), (t 2, .inl (cI, 32, .inl fk))] := hD
    refine lv_istore (lv' := [(5, .int r_137), (4, .int x_4), (3, .int 12), (0, .ref (t 0)), (1, .int (nI j0)), (2, .ref b1)]) hx hb dX9_stepOn_139 hl (by decide) rfl (fun ls hl => ?_)
    refine lv_iload hx hb dX9_stepOn_141 (lv_at hl 0 rfl) ?_
    refine lv_iload_n hx hb dX9_stepOn_143 rfl (lv_at hl 2 rfl) ?_
    refine lv_bipush (v := 13) hx hb dX9_stepOn_144 (by decide) ?_
    refine lv_icmp_ne (tgt := 153) hx hb dX9_stepOn_146 (by decide) (fun _ => ?_) (fun c => absurd c (by decide))
    refine lv_iconst (v := 0) hx hb dX9_stepOn_153 (by decide) ?_
    refine lv_icmp_ne (tgt := 166) hx hb dX9_stepOn_154 (by decide) (fun c_139 => ?_) (fun c_139 => ?_)
    · refine lv_iload_n hx hb dX9_stepOn_166 rfl (lv_at hl 4 rfl) ?_
      refine lv_iconst (v := 1) hx hb dX9_stepOn_167 (by decide) ?_
      refine lv_iadd hx hb dX9_stepOn_168 ?_
      refine lv_topv (y := nI (j0 + 1)) (nI_add j0 1) ?_
      have hP := hP.sub (ws' := [(t 0, .inr (9, [.ref (t 1), .ref (t 2), .ref (t 3), .ref (t 4), .ref (t 5), .int u, .int cl, .int (nI pa_138), .int rf])), (t 1, .inl (cI, 200, .inl fs)), (t 2, .inl (cI, 32, .inl fk)), (b1, .inl (cI, 26, .inl fl))]) [2, 0, 3, 1] rfl
      have hD := hD.sub (ws' := [(t 0, .inr (9, [.ref (t 1), .ref (t 2), .ref (t 3), .ref (t 4), .ref (t 5), .int u, .int cl, .int (nI pa_138), .int rf])), (t 1, .inl (cI, 200, .inl fs)), (t 2, .inl (cI, 32, .inl fk)), (b1, .inl (cI, 26, .inl fl))]) [2, 0, 3, 1] (by decide) rfl
      exact W.iret (v := nI (j0 + 1)) hx hb hr (fun tt9 ht hW => ⟨⟨(nI (j0 + 1) : Int32), (pa_138, (rf : Int32), fk), rfl, (lf_X9_stepOn_140 t u cl rf p1 fs fk fl b1 j0 hp hst hj 12 ex_2 x_4 ex_4 c_5 c_10 c_22 c_35 c_48 c_61 c_74 c_87 c_100 c_113 c_126 rfl pa_138 hz_138 r_137 c_139), ⟨by rw [ht]; exact hP, hD⟩⟩, hS.F ht⟩) hS.2.2 dX9_stepOn_169 hlocks
    · refine lv_aload_n hx hb dX9_stepOn_157 rfl (lv_at hl 3 rfl) ?_
      refine lv_iload hx hb dX9_stepOn_158 (lv_at hl 0 rfl) ?_
      refine eWv (wr := [(t 1, .inl (cI, 200, .inl fs)), (b1, .inl (cI, 26, .inl fl))]) (va_runV (As := [.int r_137]) (rest := []) ⟨hx, hb, hml, hown, hts⟩ (c_X9_push l D cI cB cZ cJ tx t u cl rf pa_138 fk r_137 (lf_X9_stepOn_141 t u cl rf p1 fs fk fl b1 j0 hp hst hj 12 ex_2 x_4 ex_4 c_5 c_10 c_22 c_35 c_48 c_61 c_74 c_87 c_100 c_113 c_126 rfl pa_138 hz_138 r_137 c_139) H.size) (zV hts k_795 v_X9_push ⟨Nat.le_of_ble_eq_true rfl, Nat.le_of_ble_eq_true rfl⟩) (pV (pxS hK hP hD [2, 3] (by decide) rfl) hK hP 2 rfl rfl) rfl rfl hl.1 rfl (lv_room (Nat.le_of_ble_eq_true rfl)) dX9_stepOn_160 ⟨Nat.le_of_ble_eq_true rfl, Nat.le_of_ble_eq_true rfl⟩) hP hD hS hA [2, 3] [0, 1] rfl rfl (by decide) (by decide) (fun u_143 H locs wr_142 hP hD hS => ?_)
      obtain ⟨pa_143, fa_143⟩ := u_143
      have hz_143 : pa_143 ≤ 32 := wr_142
      have hP : va_P D vwCl [(t 1, .inl (cI, 200, .inl fs)), (b1, .inl (cI, 26, .inl fl)), (t 0, .inr (9, [.ref (t 1), .ref (t 2), .ref (t 3), .ref (t 4), .ref (t 5), .int u, .int cl, .int (nI pa_143), .int rf])), (t 2, .inl (cI, 32, .inl fa_143))] H := hP
      have hD : va_D A [(t 1, .inl (cI, 200, .inl fs)), (b1, .inl (cI, 26, .inl fl)), (t 0, .inr (9, [.ref (t 1), .ref (t 2), .ref (t 3), .ref (t 4), .ref (t 5), .int u, .int cl, .int (nI pa_143), .int rf])), (t 2, .inl (cI, 32, .inl fa_143))] := hD
      refine lv_iload hx hb dX9_stepOn_163 (lv_at hl 1 rfl) ?_
      have hP := hP.sub (ws' := [(t 0, .inr (9, [.ref (t 1), .ref (t 2), .ref (t 3), .ref (t 4), .ref (t 5), .int u, .int cl, .int (nI pa_143), .int rf])), (t 1, .inl (cI, 200, .inl fs)), (t 2, .inl (cI, 32, .inl fa_143)), (b1, .inl (cI, 26, .inl fl))]) [2, 0, 3, 1] rfl
      have hD := hD.sub (ws' := [(t 0, .inr (9, [.ref (t 1), .ref (t 2), .ref (t 3), .ref (t 4), .ref (t 5), .int u, .int cl, .int (nI pa_143), .int rf])), (t 1, .inl (cI, 200, .inl fs)), (t 2, .inl (cI, 32, .inl fa_143)), (b1, .inl (cI, 26, .inl fl))]) [2, 0, 3, 1] (by decide) rfl
      exact W.iret (v := x_4) hx hb hr (fun tt9 ht hW => ⟨⟨(x_4 : Int32), (pa_143, (rf : Int32), fa_143), rfl, (lf_X9_stepOn_144 t u cl rf p1 fs fk fl b1 j0 hp hst hj 12 ex_2 x_4 ex_4 c_5 c_10 c_22 c_35 c_48 c_61 c_74 c_87 c_100 c_113 c_126 rfl pa_138 hz_138 r_137 c_139 pa_143 fa_143 hz_143), ⟨by rw [ht]; exact hP, hD⟩⟩, hS.F ht⟩) hS.2.2 dX9_stepOn_165 hlocks
  by_cases c_145 : x_2 = 13
  · subst c_145
    refine lv_tableIn (off := 114) (tgt := 135) hx hb dX9_stepOn_21 (by decide) (by decide) rfl (by decide) ?_
    refine lv_aload_n hx hb dX9_stepOn_135 rfl (lv_at hl 2 rfl) ?_
    refine eWi (wr := [(t 1, .inl (cI, 200, .inl fs)), (b1, .inl (cI, 26, .inl fl))]) (va_runV (As := []) (rest := []) ⟨hx, hb, hml, hown, hts⟩ (c_X9_pop l D cI cB cZ cJ tx t u cl rf p1 fk (lf_X9_stepOn_146 t u cl rf p1 fs fk fl b1 j0 hp hst hj 13 ex_2 x_4 ex_4 c_5 c_10 c_22 c_35 c_48 c_61 c_74 c_87 c_100 c_113 c_126 c_135 rfl) H.size) (zV hts k_799 v_X9_pop ⟨Nat.le_of_ble_eq_true rfl, Nat.le_of_ble_eq_true rfl⟩) (pV (pxS hK hP hD [0, 2] (by decide) rfl) hK hP 0 rfl rfl) rfl rfl hl.1 rfl (lv_room (Nat.le_of_ble_eq_true rfl)) dX9_stepOn_136 ⟨Nat.le_of_ble_eq_true rfl, Nat.le_of_ble_eq_true rfl⟩) hP hD hS hA [0, 2] [1, 3] rfl rfl (by decide) (by decide) (fun r_147 u_148 H locs wr_147 hP hD hS => ?_)
    obtain ⟨pa_148, rfl⟩ : ∃ z, z = u_148 := ⟨_, rfl⟩
    have hz_148 : pa_148 ≤ 32 := wr_147
    have hP : va_P D vwCl [(t 1, .inl (cI, 200, .inl fs)), (b1, .inl (cI, 26, .inl fl)), (t 0, .inr (9, [.ref (t 1), .ref (t 2), .ref (t 3), .ref (t 4), .ref (t 5), .int u, .int cl, .int (nI pa_148), .int rf])), (t 2, .inl (cI, 32, .inl fk))] H := hP
    have hD : va_D A [(t 1, .inl (cI, 200, .inl fs)), (b1, .inl (cI, 26, .inl fl)), (t 0, .inr (9, [.ref (t 1), .ref (t 2), .ref (t 3), .ref (t 4), .ref (t 5), .int u, .int cl, .int (nI pa_148), .int rf])), (t 2, .inl (cI, 32, .inl fk))] := hD
    refine lv_istore (lv' := [(5, .int r_147), (4, .int x_4), (3, .int 13), (0, .ref (t 0)), (1, .int (nI j0)), (2, .ref b1)]) hx hb dX9_stepOn_139 hl (by decide) rfl (fun ls hl => ?_)
    refine lv_iload hx hb dX9_stepOn_141 (lv_at hl 0 rfl) ?_
    refine lv_iload_n hx hb dX9_stepOn_143 rfl (lv_at hl 2 rfl) ?_
    refine lv_bipush (v := 13) hx hb dX9_stepOn_144 (by decide) ?_
    refine lv_icmp_ne (tgt := 153) hx hb dX9_stepOn_146 (by decide) (fun c => absurd c (by decide)) (fun _ => ?_)
    refine lv_iconst (v := 1) hx hb dX9_stepOn_149 (by decide) ?_
    refine lv_goto (tgt := 154) hx hb dX9_stepOn_150 (by decide) ?_
    refine lv_icmp_ne (tgt := 166) hx hb dX9_stepOn_154 (by decide) (fun c_149 => ?_) (fun c_149 => ?_)
    · refine lv_iload_n hx hb dX9_stepOn_166 rfl (lv_at hl 4 rfl) ?_
      refine lv_iconst (v := 1) hx hb dX9_stepOn_167 (by decide) ?_
      refine lv_iadd hx hb dX9_stepOn_168 ?_
      refine lv_topv (y := nI (j0 + 1)) (nI_add j0 1) ?_
      have hP := hP.sub (ws' := [(t 0, .inr (9, [.ref (t 1), .ref (t 2), .ref (t 3), .ref (t 4), .ref (t 5), .int u, .int cl, .int (nI pa_148), .int rf])), (t 1, .inl (cI, 200, .inl fs)), (t 2, .inl (cI, 32, .inl fk)), (b1, .inl (cI, 26, .inl fl))]) [2, 0, 3, 1] rfl
      have hD := hD.sub (ws' := [(t 0, .inr (9, [.ref (t 1), .ref (t 2), .ref (t 3), .ref (t 4), .ref (t 5), .int u, .int cl, .int (nI pa_148), .int rf])), (t 1, .inl (cI, 200, .inl fs)), (t 2, .inl (cI, 32, .inl fk)), (b1, .inl (cI, 26, .inl fl))]) [2, 0, 3, 1] (by decide) rfl
      exact W.iret (v := nI (j0 + 1)) hx hb hr (fun tt9 ht hW => ⟨⟨(nI (j0 + 1) : Int32), (pa_148, (rf : Int32), fk), rfl, (lf_X9_stepOn_150 t u cl rf p1 fs fk fl b1 j0 hp hst hj 13 ex_2 x_4 ex_4 c_5 c_10 c_22 c_35 c_48 c_61 c_74 c_87 c_100 c_113 c_126 c_135 rfl pa_148 hz_148 r_147 c_149), ⟨by rw [ht]; exact hP, hD⟩⟩, hS.F ht⟩) hS.2.2 dX9_stepOn_169 hlocks
    · refine lv_aload_n hx hb dX9_stepOn_157 rfl (lv_at hl 3 rfl) ?_
      refine lv_iload hx hb dX9_stepOn_158 (lv_at hl 0 rfl) ?_
      refine eWv (wr := [(t 1, .inl (cI, 200, .inl fs)), (b1, .inl (cI, 26, .inl fl))]) (va_runV (As := [.int r_147]) (rest := []) ⟨hx, hb, hml, hown, hts⟩ (c_X9_push l D cI cB cZ cJ tx t u cl rf pa_148 fk r_147 (lf_X9_stepOn_151 t u cl rf p1 fs fk fl b1 j0 hp hst hj 13 ex_2 x_4 ex_4 c_5 c_10 c_22 c_35 c_48 c_61 c_74 c_87 c_100 c_113 c_126 c_135 rfl pa_148 hz_148 r_147 c_149) H.size) (zV hts k_795 v_X9_push ⟨Nat.le_of_ble_eq_true rfl, Nat.le_of_ble_eq_true rfl⟩) (pV (pxS hK hP hD [2, 3] (by decide) rfl) hK hP 2 rfl rfl) rfl rfl hl.1 rfl (lv_room (Nat.le_of_ble_eq_true rfl)) dX9_stepOn_160 ⟨Nat.le_of_ble_eq_true rfl, Nat.le_of_ble_eq_true rfl⟩) hP hD hS hA [2, 3] [0, 1] rfl rfl (by decide) (by decide) (fun u_153 H locs wr_152 hP hD hS => ?_)
      obtain ⟨pa_153, fa_153⟩ := u_153
      have hz_153 : pa_153 ≤ 32 := wr_152
      have hP : va_P D vwCl [(t 1, .inl (cI, 200, .inl fs)), (b1, .inl (cI, 26, .inl fl)), (t 0, .inr (9, [.ref (t 1), .ref (t 2), .ref (t 3), .ref (t 4), .ref (t 5), .int u, .int cl, .int (nI pa_153), .int rf])), (t 2, .inl (cI, 32, .inl fa_153))] H := hP
      have hD : va_D A [(t 1, .inl (cI, 200, .inl fs)), (b1, .inl (cI, 26, .inl fl)), (t 0, .inr (9, [.ref (t 1), .ref (t 2), .ref (t 3), .ref (t 4), .ref (t 5), .int u, .int cl, .int (nI pa_153), .int rf])), (t 2, .inl (cI, 32, .inl fa_153))] := hD
      refine lv_iload hx hb dX9_stepOn_163 (lv_at hl 1 rfl) ?_
      have hP := hP.sub (ws' := [(t 0, .inr (9, [.ref (t 1), .ref (t 2), .ref (t 3), .ref (t 4), .ref (t 5), .int u, .int cl, .int (nI pa_153), .int rf])), (t 1, .inl (cI, 200, .inl fs)), (t 2, .inl (cI, 32, .inl fa_153)), (b1, .inl (cI, 26, .inl fl))]) [2, 0, 3, 1] rfl
      have hD := hD.sub (ws' := [(t 0, .inr (9, [.ref (t 1), .ref (t 2), .ref (t 3), .ref (t 4), .ref (t 5), .int u, .int cl, .int (nI pa_153), .int rf])), (t 1, .inl (cI, 200, .inl fs)), (t 2, .inl (cI, 32, .inl fa_153)), (b1, .inl (cI, 26, .inl fl))]) [2, 0, 3, 1] (by decide) rfl
      exact W.iret (v := x_4) hx hb hr (fun tt9 ht hW => ⟨⟨(x_4 : Int32), (pa_153, (rf : Int32), fa_153), rfl, (lf_X9_stepOn_154 t u cl rf p1 fs fk fl b1 j0 hp hst hj 13 ex_2 x_4 ex_4 c_5 c_10 c_22 c_35 c_48 c_61 c_74 c_87 c_100 c_113 c_126 c_135 rfl pa_148 hz_148 r_147 c_149 pa_153 fa_153 hz_153), ⟨by rw [ht]; exact hP, hD⟩⟩, hS.F ht⟩) hS.2.2 dX9_stepOn_165 hlocks
  refine lv_tableOut (tgt := 170) hx hb dX9_stepOn_21 (lf_X9_stepOn_155 t u cl rf p1 fs fk fl b1 j0 hp hst hj x_2 ex_2 x_4 ex_4 c_5 c_10 c_22 c_35 c_48 c_61 c_74 c_87 c_100 c_113 c_126 c_135 c_145) (by decide) ?_
  refine lv_aload_n hx hb dX9_stepOn_170 rfl (lv_at hl 2 rfl) ?_
  refine eWi (wr := [(t 1, .inl (cI, 200, .inl fs)), (b1, .inl (cI, 26, .inl fl))]) (va_runV (As := []) (rest := []) ⟨hx, hb, hml, hown, hts⟩ (c_X9_pop l D cI cB cZ cJ tx t u cl rf p1 fk (lf_X9_stepOn_156 t u cl rf p1 fs fk fl b1 j0 hp hst hj x_2 ex_2 x_4 ex_4 c_5 c_10 c_22 c_35 c_48 c_61 c_74 c_87 c_100 c_113 c_126 c_135 c_145) H.size) (zV hts k_799 v_X9_pop ⟨Nat.le_of_ble_eq_true rfl, Nat.le_of_ble_eq_true rfl⟩) (pV (pxS hK hP hD [0, 2] (by decide) rfl) hK hP 0 rfl rfl) rfl rfl hl.1 rfl (lv_room (Nat.le_of_ble_eq_true rfl)) dX9_stepOn_171 ⟨Nat.le_of_ble_eq_true rfl, Nat.le_of_ble_eq_true rfl⟩) hP hD hS hA [0, 2] [1, 3] rfl rfl (by decide) (by decide) (fun r_157 u_158 H locs wr_157 hP hD hS => ?_)
  obtain ⟨pa_158, rfl⟩ : ∃ z, z = u_158 := ⟨_, rfl⟩
  have hz_158 : pa_158 ≤ 32 := wr_157
  have hP : va_P D vwCl [(t 1, .inl (cI, 200, .inl fs)), (b1, .inl (cI, 26, .inl fl)), (t 0, .inr (9, [.ref (t 1), .ref (t 2), .ref (t 3), .ref (t 4), .ref (t 5), .int u, .int cl, .int (nI pa_158), .int rf])), (t 2, .inl (cI, 32, .inl fk))] H := hP
  have hD : va_D A [(t 1, .inl (cI, 200, .inl fs)), (b1, .inl (cI, 26, .inl fl)), (t 0, .inr (9, [.ref (t 1), .ref (t 2), .ref (t 3), .ref (t 4), .ref (t 5), .int u, .int cl, .int (nI pa_158), .int rf])), (t 2, .inl (cI, 32, .inl fk))] := hD
  refine lv_istore (lv' := [(5, .int r_157), (4, .int x_4), (3, .int x_2), (0, .ref (t 0)), (1, .int (nI j0)), (2, .ref b1)]) hx hb dX9_stepOn_174 hl (by decide) rfl (fun ls hl => ?_)
  refine lv_aload_n hx hb dX9_stepOn_176 rfl (lv_at hl 3 rfl) ?_
  refine lv_aload_n hx hb dX9_stepOn_177 rfl (lv_at hl 3 rfl) ?_
  refine lv_iload_n hx hb dX9_stepOn_178 rfl (lv_at hl 2 rfl) ?_
  refine lv_aload_n hx hb dX9_stepOn_179 rfl (lv_at hl 3 rfl) ?_
  refine eWi (wr := [(t 1, .inl (cI, 200, .inl fs)), (b1, .inl (cI, 26, .inl fl))]) (va_runV (As := []) (rest := [.int x_2, .ref (t 0), .ref (t 0)]) ⟨hx, hb, hml, hown, hts⟩ (c_X9_pop l D cI cB cZ cJ tx t u cl rf pa_158 fk (lf_X9_stepOn_159 t u cl rf p1 fs fk fl b1 j0 hp hst hj x_2 ex_2 x_4 ex_4 c_5 c_10 c_22 c_35 c_48 c_61 c_74 c_87 c_100 c_113 c_126 c_135 c_145 pa_158 hz_158 r_157) H.size) (zV hts k_799 v_X9_pop ⟨Nat.le_of_ble_eq_true rfl, Nat.le_of_ble_eq_true rfl⟩) (pV (pxS hK hP hD [2, 3] (by decide) rfl) hK hP 2 rfl rfl) rfl rfl hl.1 rfl (lv_room (Nat.le_of_ble_eq_true rfl)) dX9_stepOn_180 ⟨Nat.le_of_ble_eq_true rfl, Nat.le_of_ble_eq_true rfl⟩) hP hD hS hA [2, 3] [0, 1] rfl rfl (by decide) (by decide) (fun r_160 u_161 H locs wr_160 hP hD hS => ?_)
  obtain ⟨pa_161, rfl⟩ : ∃ z, z = u_161 := ⟨_, rfl⟩
  have hz_161 : pa_161 ≤ 32 := wr_160
  have hP : va_P D vwCl [(t 1, .inl (cI, 200, .inl fs)), (b1, .inl (cI, 26, .inl fl)), (t 0, .inr (9, [.ref (t 1), .ref (t 2), .ref (t 3), .ref (t 4), .ref (t 5), .int u, .int cl, .int (nI pa_161), .int rf])), (t 2, .inl (cI, 32, .inl fk))] H := hP
  have hD : va_D A [(t 1, .inl (cI, 200, .inl fs)), (b1, .inl (cI, 26, .inl fl)), (t 0, .inr (9, [.ref (t 1), .ref (t 2), .ref (t 3), .ref (t 4), .ref (t 5), .int u, .int cl, .int (nI pa_161), .int rf])), (t 2, .inl (cI, 32, .inl fk))] := hD
  refine lv_iload hx hb dX9_stepOn_183 (lv_at hl 0 rfl) ?_
  refine eWi (wr := [(t 1, .inl (cI, 200, .inl fs)), (b1, .inl (cI, 26, .inl fl)), (t 2, .inl (cI, 32, .inl fk))]) (va_runV (As := [.int x_2, .int r_160, .int r_157]) (rest := [.ref (t 0)]) ⟨hx, hb, hml, hown, hts⟩ (c_X9_reckon l D cI cB cZ cJ tx t u cl (nI pa_161) rf x_2 r_160 r_157 H.size) (zV hts k_803 v_X9_reckon ⟨Nat.le_of_ble_eq_true rfl, Nat.le_of_ble_eq_true rfl⟩) (pV (pxS hK hP hD [2] (by decide) rfl) hK hP 2 rfl rfl) rfl rfl hl.1 rfl (lv_room (Nat.le_of_ble_eq_true rfl)) dX9_stepOn_185 ⟨Nat.le_of_ble_eq_true rfl, Nat.le_of_ble_eq_true rfl⟩) hP hD hS hA [2] [0, 1, 3] rfl rfl (by decide) (by decide) (fun r_162 u_163 H locs wr_162 hP hD hS => ?_)
  obtain ⟨ra_163, rfl⟩ : ∃ z, z = u_163 := ⟨_, rfl⟩
  have hz_163 : True := wr_162
  have hP : va_P D vwCl [(t 1, .inl (cI, 200, .inl fs)), (b1, .inl (cI, 26, .inl fl)), (t 2, .inl (cI, 32, .inl fk)), (t 0, .inr (9, [.ref (t 1), .ref (t 2), .ref (t 3), .ref (t 4), .ref (t 5), .int u, .int cl, .int (nI pa_161), .int ra_163]))] H := hP
  have hD : va_D A [(t 1, .inl (cI, 200, .inl fs)), (b1, .inl (cI, 26, .inl fl)), (t 2, .inl (cI, 32, .inl fk)), (t 0, .inr (9, [.ref (t 1), .ref (t 2), .ref (t 3), .ref (t 4), .ref (t 5), .int u, .int cl, .int (nI pa_161), .int ra_163]))] := hD
  refine eWv (wr := [(t 1, .inl (cI, 200, .inl fs)), (b1, .inl (cI, 26, .inl fl))]) (va_runV (As := [.int r_162]) (rest := []) ⟨hx, hb, hml, hown, hts⟩ (c_X9_push l D cI cB cZ cJ tx t u cl ra_163 pa_161 fk r_162 (lf_X9_stepOn_164 t u cl rf p1 fs fk fl b1 j0 hp hst hj x_2 ex_2 x_4 ex_4 c_5 c_10 c_22 c_35 c_48 c_61 c_74 c_87 c_100 c_113 c_126 c_135 c_145 pa_158 hz_158 r_157 pa_161 hz_161 r_160 ra_163 hz_163 r_162) H.size) (zV hts k_795 v_X9_push ⟨Nat.le_of_ble_eq_true rfl, Nat.le_of_ble_eq_true rfl⟩) (pV (pxS hK hP hD [3, 2] (by decide) rfl) hK hP 3 rfl rfl) rfl rfl hl.1 rfl (lv_room (Nat.le_of_ble_eq_true rfl)) dX9_stepOn_188 ⟨Nat.le_of_ble_eq_true rfl, Nat.le_of_ble_eq_true rfl⟩) hP hD hS hA [3, 2] [0, 1] rfl rfl (by decide) (by decide) (fun u_166 H locs wr_165 hP hD hS => ?_)
  obtain ⟨pa_166, fa_166⟩ := u_166
  have hz_166 : pa_166 ≤ 32 := wr_165
  have hP : va_P D vwCl [(t 1, .inl (cI, 200, .inl fs)), (b1, .inl (cI, 26, .inl fl)), (t 0, .inr (9, [.ref (t 1), .ref (t 2), .ref (t 3), .ref (t 4), .ref (t 5), .int u, .int cl, .int (nI pa_166), .int ra_163])), (t 2, .inl (cI, 32, .inl fa_166))] H := hP
  have hD : va_D A [(t 1, .inl (cI, 200, .inl fs)), (b1, .inl (cI, 26, .inl fl)), (t 0, .inr (9, [.ref (t 1), .ref (t 2), .ref (t 3), .ref (t 4), .ref (t 5), .int u, .int cl, .int (nI pa_166), .int ra_163])), (t 2, .inl (cI, 32, .inl fa_166))] := hD
  refine lv_iload_n hx hb dX9_stepOn_191 rfl (lv_at hl 4 rfl) ?_
  refine lv_iconst (v := 1) hx hb dX9_stepOn_192 (by decide) ?_
  refine lv_iadd hx hb dX9_stepOn_193 ?_
  refine lv_topv (y := nI (j0 + 1)) (nI_add j0 1) ?_
  have hP := hP.sub (ws' := [(t 0, .inr (9, [.ref (t 1), .ref (t 2), .ref (t 3), .ref (t 4), .ref (t 5), .int u, .int cl, .int (nI pa_166), .int ra_163])), (t 1, .inl (cI, 200, .inl fs)), (t 2, .inl (cI, 32, .inl fa_166)), (b1, .inl (cI, 26, .inl fl))]) [2, 0, 3, 1] rfl
  have hD := hD.sub (ws' := [(t 0, .inr (9, [.ref (t 1), .ref (t 2), .ref (t 3), .ref (t 4), .ref (t 5), .int u, .int cl, .int (nI pa_166), .int ra_163])), (t 1, .inl (cI, 200, .inl fs)), (t 2, .inl (cI, 32, .inl fa_166)), (b1, .inl (cI, 26, .inl fl))]) [2, 0, 3, 1] (by decide) rfl
  exact W.iret (v := nI (j0 + 1)) hx hb hr (fun tt9 ht hW => ⟨⟨(nI (j0 + 1) : Int32), (pa_166, (ra_163 : Int32), fa_166), rfl, (lf_X9_stepOn_167 t u cl rf p1 fs fk fl b1 j0 hp hst hj x_2 ex_2 x_4 ex_4 c_5 c_10 c_22 c_35 c_48 c_61 c_74 c_87 c_100 c_113 c_126 c_135 c_145 pa_158 hz_158 r_157 pa_161 hz_161 r_160 ra_163 hz_163 r_162 pa_166 fa_166 hz_166), ⟨by rw [ht]; exact hP, hD⟩⟩, hS.F ht⟩) hS.2.2 dX9_stepOn_194 hlocks

theorem lf_X9_run_3 (t : Nat → Nat) (un : Nat) (cl : Int32) (rf : Int32) (p1 : Nat) (fs : Nat → Int32) (fk : Nat → Int32) (fl : Nat → Int32) (b1 : Nat) (n1 : Int32) (hp : p1 ≤ 32) (hst : ∀ j, j < 200 → 0 ≤ fs j) (hun : un ≤ 200) (j : Nat) (av : Int32) (y15_t2 : Nat → Int32) (rv : Int32) (pv : Nat) (k15 : Nat) (hj15 : j ≤ 200) (hk15 : 200 < j + (k15 + 1)) (hpv : pv ≤ 32) (c_1 : 200 ≤ nI j) : 200 ≤ j := by
  exact (nI_leI (a := 200) (b := j) (by omega) (by omega)).mp c_1
theorem lf_X9_run_5 (t : Nat → Nat) (un : Nat) (cl : Int32) (rf : Int32) (p1 : Nat) (fs : Nat → Int32) (fk : Nat → Int32) (fl : Nat → Int32) (b1 : Nat) (n1 : Int32) (hp : p1 ≤ 32) (hst : ∀ j, j < 200 → 0 ≤ fs j) (hun : un ≤ 200) (j : Nat) (av : Int32) (y15_t2 : Nat → Int32) (rv : Int32) (pv : Nat) (k15 : Nat) (hj15 : j ≤ 200) (hk15 : 200 < j + (k15 + 1)) (hpv : pv ≤ 32) (c_1 : 200 ≤ nI j) (n_2 : 200 ≤ j) (c_4 : rv = 0) : pv ≤ 32 := by
  first | assumption | omega | decide
theorem lf_X9_run_8 (t : Nat → Nat) (un : Nat) (cl : Int32) (rf : Int32) (p1 : Nat) (fs : Nat → Int32) (fk : Nat → Int32) (fl : Nat → Int32) (b1 : Nat) (n1 : Int32) (hp : p1 ≤ 32) (hst : ∀ j, j < 200 → 0 ≤ fs j) (hun : un ≤ 200) (j : Nat) (av : Int32) (y15_t2 : Nat → Int32) (rv : Int32) (pv : Nat) (k15 : Nat) (hj15 : j ≤ 200) (hk15 : 200 < j + (k15 + 1)) (hpv : pv ≤ 32) (c_1 : 200 ≤ nI j) (n_2 : 200 ≤ j) (c_4 : rv = 0) (pa_7 : Nat) (hz_7 : pa_7 ≤ 32) (r_6 : Int32) : pa_7 ≤ 32 := by
  omega
theorem lf_X9_run_9 (t : Nat → Nat) (un : Nat) (cl : Int32) (rf : Int32) (p1 : Nat) (fs : Nat → Int32) (fk : Nat → Int32) (fl : Nat → Int32) (b1 : Nat) (n1 : Int32) (hp : p1 ≤ 32) (hst : ∀ j, j < 200 → 0 ≤ fs j) (hun : un ≤ 200) (j : Nat) (av : Int32) (y15_t2 : Nat → Int32) (rv : Int32) (pv : Nat) (k15 : Nat) (hj15 : j ≤ 200) (hk15 : 200 < j + (k15 + 1)) (hpv : pv ≤ 32) (c_1 : 200 ≤ nI j) (n_2 : 200 ≤ j) (c_4 : ¬ rv = 0) : pv ≤ 32 := by
  omega
theorem lf_X9_run_11 (t : Nat → Nat) (un : Nat) (cl : Int32) (rf : Int32) (p1 : Nat) (fs : Nat → Int32) (fk : Nat → Int32) (fl : Nat → Int32) (b1 : Nat) (n1 : Int32) (hp : p1 ≤ 32) (hst : ∀ j, j < 200 → 0 ≤ fs j) (hun : un ≤ 200) (j : Nat) (av : Int32) (y15_t2 : Nat → Int32) (rv : Int32) (pv : Nat) (k15 : Nat) (hj15 : j ≤ 200) (hk15 : 200 < j + (k15 + 1)) (hpv : pv ≤ 32) (c_1 : ¬ 200 ≤ nI j) : j < 200 := by
  exact Nat.lt_of_not_le (fun q => c_1 ((nI_leI (a := 200) (b := j) (by omega) (by omega)).mpr q))
theorem lf_X9_run_14 (t : Nat → Nat) (un : Nat) (cl : Int32) (rf : Int32) (p1 : Nat) (fs : Nat → Int32) (fk : Nat → Int32) (fl : Nat → Int32) (b1 : Nat) (n1 : Int32) (hp : p1 ≤ 32) (hst : ∀ j, j < 200 → 0 ≤ fs j) (hun : un ≤ 200) (j : Nat) (av : Int32) (y15_t2 : Nat → Int32) (rv : Int32) (pv : Nat) (k15 : Nat) (hj15 : j ≤ 200) (hk15 : 200 < j + (k15 + 1)) (hpv : pv ≤ 32) (c_1 : ¬ 200 ≤ nI j) (n_10 : j < 200) (c_12 : av < 0) (c_13 : rv = 0) : pv ≤ 32 := by
  first | assumption | omega | decide
theorem lf_X9_run_17 (t : Nat → Nat) (un : Nat) (cl : Int32) (rf : Int32) (p1 : Nat) (fs : Nat → Int32) (fk : Nat → Int32) (fl : Nat → Int32) (b1 : Nat) (n1 : Int32) (hp : p1 ≤ 32) (hst : ∀ j, j < 200 → 0 ≤ fs j) (hun : un ≤ 200) (j : Nat) (av : Int32) (y15_t2 : Nat → Int32) (rv : Int32) (pv : Nat) (k15 : Nat) (hj15 : j ≤ 200) (hk15 : 200 < j + (k15 + 1)) (hpv : pv ≤ 32) (c_1 : ¬ 200 ≤ nI j) (n_10 : j < 200) (c_12 : av < 0) (c_13 : rv = 0) (pa_16 : Nat) (hz_16 : pa_16 ≤ 32) (r_15 : Int32) : pa_16 ≤ 32 := by
  omega
theorem lf_X9_run_18 (t : Nat → Nat) (un : Nat) (cl : Int32) (rf : Int32) (p1 : Nat) (fs : Nat → Int32) (fk : Nat → Int32) (fl : Nat → Int32) (b1 : Nat) (n1 : Int32) (hp : p1 ≤ 32) (hst : ∀ j, j < 200 → 0 ≤ fs j) (hun : un ≤ 200) (j : Nat) (av : Int32) (y15_t2 : Nat → Int32) (rv : Int32) (pv : Nat) (k15 : Nat) (hj15 : j ≤ 200) (hk15 : 200 < j + (k15 + 1)) (hpv : pv ≤ 32) (c_1 : ¬ 200 ≤ nI j) (n_10 : j < 200) (c_12 : av < 0) (c_13 : ¬ rv = 0) : pv ≤ 32 := by
  omega
theorem lf_X9_run_21 (t : Nat → Nat) (un : Nat) (cl : Int32) (rf : Int32) (p1 : Nat) (fs : Nat → Int32) (fk : Nat → Int32) (fl : Nat → Int32) (b1 : Nat) (n1 : Int32) (hp : p1 ≤ 32) (hst : ∀ j, j < 200 → 0 ≤ fs j) (hun : un ≤ 200) (j : Nat) (av : Int32) (y15_t2 : Nat → Int32) (rv : Int32) (pv : Nat) (k15 : Nat) (hj15 : j ≤ 200) (hk15 : 200 < j + (k15 + 1)) (hpv : pv ≤ 32) (c_1 : ¬ 200 ≤ nI j) (n_10 : j < 200) (c_12 : ¬ av < 0) (c_19 : nI un ≤ av) (c_20 : rv = 0) : pv ≤ 32 := by
  first | assumption | omega | decide
theorem lf_X9_run_24 (t : Nat → Nat) (un : Nat) (cl : Int32) (rf : Int32) (p1 : Nat) (fs : Nat → Int32) (fk : Nat → Int32) (fl : Nat → Int32) (b1 : Nat) (n1 : Int32) (hp : p1 ≤ 32) (hst : ∀ j, j < 200 → 0 ≤ fs j) (hun : un ≤ 200) (j : Nat) (av : Int32) (y15_t2 : Nat → Int32) (rv : Int32) (pv : Nat) (k15 : Nat) (hj15 : j ≤ 200) (hk15 : 200 < j + (k15 + 1)) (hpv : pv ≤ 32) (c_1 : ¬ 200 ≤ nI j) (n_10 : j < 200) (c_12 : ¬ av < 0) (c_19 : nI un ≤ av) (c_20 : rv = 0) (pa_23 : Nat) (hz_23 : pa_23 ≤ 32) (r_22 : Int32) : pa_23 ≤ 32 := by
  omega
theorem lf_X9_run_25 (t : Nat → Nat) (un : Nat) (cl : Int32) (rf : Int32) (p1 : Nat) (fs : Nat → Int32) (fk : Nat → Int32) (fl : Nat → Int32) (b1 : Nat) (n1 : Int32) (hp : p1 ≤ 32) (hst : ∀ j, j < 200 → 0 ≤ fs j) (hun : un ≤ 200) (j : Nat) (av : Int32) (y15_t2 : Nat → Int32) (rv : Int32) (pv : Nat) (k15 : Nat) (hj15 : j ≤ 200) (hk15 : 200 < j + (k15 + 1)) (hpv : pv ≤ 32) (c_1 : ¬ 200 ≤ nI j) (n_10 : j < 200) (c_12 : ¬ av < 0) (c_19 : nI un ≤ av) (c_20 : ¬ rv = 0) : pv ≤ 32 := by
  omega
theorem lf_X9_run_28 (t : Nat → Nat) (un : Nat) (cl : Int32) (rf : Int32) (p1 : Nat) (fs : Nat → Int32) (fk : Nat → Int32) (fl : Nat → Int32) (b1 : Nat) (n1 : Int32) (hp : p1 ≤ 32) (hst : ∀ j, j < 200 → 0 ≤ fs j) (hun : un ≤ 200) (j : Nat) (av : Int32) (y15_t2 : Nat → Int32) (rv : Int32) (pv : Nat) (k15 : Nat) (hj15 : j ≤ 200) (hk15 : 200 < j + (k15 + 1)) (hpv : pv ≤ 32) (c_1 : ¬ 200 ≤ nI j) (n_10 : j < 200) (c_12 : ¬ av < 0) (c_19 : ¬ nI un ≤ av) (kk : Nat) (hkk : kk < un) (ekk : av = nI kk) (c_26 : ¬ rv = 0) (c_27 : rv = 0) : pv ≤ 32 := by
  first | assumption | omega | decide
theorem lf_X9_run_31 (t : Nat → Nat) (un : Nat) (cl : Int32) (rf : Int32) (p1 : Nat) (fs : Nat → Int32) (fk : Nat → Int32) (fl : Nat → Int32) (b1 : Nat) (n1 : Int32) (hp : p1 ≤ 32) (hst : ∀ j, j < 200 → 0 ≤ fs j) (hun : un ≤ 200) (j : Nat) (av : Int32) (y15_t2 : Nat → Int32) (rv : Int32) (pv : Nat) (k15 : Nat) (hj15 : j ≤ 200) (hk15 : 200 < j + (k15 + 1)) (hpv : pv ≤ 32) (c_1 : ¬ 200 ≤ nI j) (n_10 : j < 200) (c_12 : ¬ av < 0) (c_19 : ¬ nI un ≤ av) (kk : Nat) (hkk : kk < un) (ekk : av = nI kk) (c_26 : ¬ rv = 0) (c_27 : rv = 0) (pa_30 : Nat) (hz_30 : pa_30 ≤ 32) (r_29 : Int32) : pa_30 ≤ 32 := by
  omega
theorem lf_X9_run_32 (t : Nat → Nat) (un : Nat) (cl : Int32) (rf : Int32) (p1 : Nat) (fs : Nat → Int32) (fk : Nat → Int32) (fl : Nat → Int32) (b1 : Nat) (n1 : Int32) (hp : p1 ≤ 32) (hst : ∀ j, j < 200 → 0 ≤ fs j) (hun : un ≤ 200) (j : Nat) (av : Int32) (y15_t2 : Nat → Int32) (rv : Int32) (pv : Nat) (k15 : Nat) (hj15 : j ≤ 200) (hk15 : 200 < j + (k15 + 1)) (hpv : pv ≤ 32) (c_1 : ¬ 200 ≤ nI j) (n_10 : j < 200) (c_12 : ¬ av < 0) (c_19 : ¬ nI un ≤ av) (kk : Nat) (hkk : kk < un) (ekk : av = nI kk) (c_26 : ¬ rv = 0) (c_27 : ¬ rv = 0) : pv ≤ 32 := by
  omega
theorem lf_X9_run_33 (t : Nat → Nat) (un : Nat) (cl : Int32) (rf : Int32) (p1 : Nat) (fs : Nat → Int32) (fk : Nat → Int32) (fl : Nat → Int32) (b1 : Nat) (n1 : Int32) (hp : p1 ≤ 32) (hst : ∀ j, j < 200 → 0 ≤ fs j) (hun : un ≤ 200) (j : Nat) (av : Int32) (y15_t2 : Nat → Int32) (rv : Int32) (pv : Nat) (k15 : Nat) (hj15 : j ≤ 200) (hk15 : 200 < j + (k15 + 1)) (hpv : pv ≤ 32) (c_1 : ¬ 200 ≤ nI j) (n_10 : j < 200) (c_12 : ¬ av < 0) (c_19 : ¬ nI un ≤ av) (kk : Nat) (hkk : kk < un) (ekk : av = nI kk) (c_26 : rv = 0) : kk < 200 := by
  omega
theorem lf_X9_run_36 (t : Nat → Nat) (un : Nat) (cl : Int32) (rf : Int32) (p1 : Nat) (fs : Nat → Int32) (fk : Nat → Int32) (fl : Nat → Int32) (b1 : Nat) (n1 : Int32) (hp : p1 ≤ 32) (hst : ∀ j, j < 200 → 0 ≤ fs j) (hun : un ≤ 200) (j : Nat) (av : Int32) (y15_t2 : Nat → Int32) (rv : Int32) (pv : Nat) (k15 : Nat) (hj15 : j ≤ 200) (hk15 : 200 < j + (k15 + 1)) (hpv : pv ≤ 32) (c_1 : ¬ 200 ≤ nI j) (n_10 : j < 200) (c_12 : ¬ av < 0) (c_19 : ¬ nI un ≤ av) (kk : Nat) (hkk : kk < un) (ekk : av = nI kk) (c_26 : rv = 0) (x_34 : Int32) (ex_34 : x_34 = fs kk &&& 15) (c_35 : ¬ x_34 = 0) : pv ≤ 32 := by
  first | assumption | omega | decide
theorem lf_X9_run_37 (t : Nat → Nat) (un : Nat) (cl : Int32) (rf : Int32) (p1 : Nat) (fs : Nat → Int32) (fk : Nat → Int32) (fl : Nat → Int32) (b1 : Nat) (n1 : Int32) (hp : p1 ≤ 32) (hst : ∀ j, j < 200 → 0 ≤ fs j) (hun : un ≤ 200) (j : Nat) (av : Int32) (y15_t2 : Nat → Int32) (rv : Int32) (pv : Nat) (k15 : Nat) (hj15 : j ≤ 200) (hk15 : 200 < j + (k15 + 1)) (hpv : pv ≤ 32) (c_1 : ¬ 200 ≤ nI j) (n_10 : j < 200) (c_12 : ¬ av < 0) (c_19 : ¬ nI un ≤ av) (kk : Nat) (hkk : kk < un) (ekk : av = nI kk) (c_26 : rv = 0) (x_34 : Int32) (ex_34 : x_34 = fs kk &&& 15) (c_35 : ¬ x_34 = 0) : ∀ j, j < 200 → 0 ≤ fs j := by
  first | assumption | omega | decide
theorem lf_X9_run_38 (t : Nat → Nat) (un : Nat) (cl : Int32) (rf : Int32) (p1 : Nat) (fs : Nat → Int32) (fk : Nat → Int32) (fl : Nat → Int32) (b1 : Nat) (n1 : Int32) (hp : p1 ≤ 32) (hst : ∀ j, j < 200 → 0 ≤ fs j) (hun : un ≤ 200) (j : Nat) (av : Int32) (y15_t2 : Nat → Int32) (rv : Int32) (pv : Nat) (k15 : Nat) (hj15 : j ≤ 200) (hk15 : 200 < j + (k15 + 1)) (hpv : pv ≤ 32) (c_1 : ¬ 200 ≤ nI j) (n_10 : j < 200) (c_12 : ¬ av < 0) (c_19 : ¬ nI un ≤ av) (kk : Nat) (hkk : kk < un) (ekk : av = nI kk) (c_26 : rv = 0) (x_34 : Int32) (ex_34 : x_34 = fs kk &&& 15) (c_35 : ¬ x_34 = 0) : kk < 200 := by
  first | assumption | omega | decide
theorem lf_X9_run_41 (t : Nat → Nat) (un : Nat) (cl : Int32) (rf : Int32) (p1 : Nat) (fs : Nat → Int32) (fk : Nat → Int32) (fl : Nat → Int32) (b1 : Nat) (n1 : Int32) (hp : p1 ≤ 32) (hst : ∀ j, j < 200 → 0 ≤ fs j) (hun : un ≤ 200) (j : Nat) (av : Int32) (y15_t2 : Nat → Int32) (rv : Int32) (pv : Nat) (k15 : Nat) (hj15 : j ≤ 200) (hk15 : 200 < j + (k15 + 1)) (hpv : pv ≤ 32) (c_1 : ¬ 200 ≤ nI j) (n_10 : j < 200) (c_12 : ¬ av < 0) (c_19 : ¬ nI un ≤ av) (kk : Nat) (hkk : kk < un) (ekk : av = nI kk) (c_26 : rv = 0) (x_34 : Int32) (ex_34 : x_34 = fs kk &&& 15) (c_35 : ¬ x_34 = 0) (pa_40 : Nat) (ra_40 : Int32) (fa_40 : Nat → Int32) (hz_40 : pa_40 ≤ 32) (r_39 : Int32) : pa_40 ≤ 32 := by
  first | assumption | omega
theorem lf_X9_run_43 (t : Nat → Nat) (un : Nat) (cl : Int32) (rf : Int32) (p1 : Nat) (fs : Nat → Int32) (fk : Nat → Int32) (fl : Nat → Int32) (b1 : Nat) (n1 : Int32) (hp : p1 ≤ 32) (hst : ∀ j, j < 200 → 0 ≤ fs j) (hun : un ≤ 200) (j : Nat) (av : Int32) (y15_t2 : Nat → Int32) (rv : Int32) (pv : Nat) (k15 : Nat) (hj15 : j ≤ 200) (hk15 : 200 < j + (k15 + 1)) (hpv : pv ≤ 32) (c_1 : ¬ 200 ≤ nI j) (n_10 : j < 200) (c_12 : ¬ av < 0) (c_19 : ¬ nI un ≤ av) (kk : Nat) (hkk : kk < un) (ekk : av = nI kk) (c_26 : rv = 0) (x_34 : Int32) (ex_34 : x_34 = fs kk &&& 15) (c_35 : x_34 = 0) (c_42 : rv = 0) : pv ≤ 32 := by
  first | assumption | omega | decide
theorem lf_X9_run_46 (t : Nat → Nat) (un : Nat) (cl : Int32) (rf : Int32) (p1 : Nat) (fs : Nat → Int32) (fk : Nat → Int32) (fl : Nat → Int32) (b1 : Nat) (n1 : Int32) (hp : p1 ≤ 32) (hst : ∀ j, j < 200 → 0 ≤ fs j) (hun : un ≤ 200) (j : Nat) (av : Int32) (y15_t2 : Nat → Int32) (rv : Int32) (pv : Nat) (k15 : Nat) (hj15 : j ≤ 200) (hk15 : 200 < j + (k15 + 1)) (hpv : pv ≤ 32) (c_1 : ¬ 200 ≤ nI j) (n_10 : j < 200) (c_12 : ¬ av < 0) (c_19 : ¬ nI un ≤ av) (kk : Nat) (hkk : kk < un) (ekk : av = nI kk) (c_26 : rv = 0) (x_34 : Int32) (ex_34 : x_34 = fs kk &&& 15) (c_35 : x_34 = 0) (c_42 : rv = 0) (pa_45 : Nat) (hz_45 : pa_45 ≤ 32) (r_44 : Int32) : pa_45 ≤ 32 := by
  omega
theorem lf_X9_run_47 (t : Nat → Nat) (un : Nat) (cl : Int32) (rf : Int32) (p1 : Nat) (fs : Nat → Int32) (fk : Nat → Int32) (fl : Nat → Int32) (b1 : Nat) (n1 : Int32) (hp : p1 ≤ 32) (hst : ∀ j, j < 200 → 0 ≤ fs j) (hun : un ≤ 200) (j : Nat) (av : Int32) (y15_t2 : Nat → Int32) (rv : Int32) (pv : Nat) (k15 : Nat) (hj15 : j ≤ 200) (hk15 : 200 < j + (k15 + 1)) (hpv : pv ≤ 32) (c_1 : ¬ 200 ≤ nI j) (n_10 : j < 200) (c_12 : ¬ av < 0) (c_19 : ¬ nI un ≤ av) (kk : Nat) (hkk : kk < un) (ekk : av = nI kk) (c_26 : rv = 0) (x_34 : Int32) (ex_34 : x_34 = fs kk &&& 15) (c_35 : x_34 = 0) (c_42 : ¬ rv = 0) : pv ≤ 32 := by
  omega
theorem lf_X9_run_48 (t : Nat → Nat) (un : Nat) (cl : Int32) (rf : Int32) (p1 : Nat) (fs : Nat → Int32) (fk : Nat → Int32) (fl : Nat → Int32) (b1 : Nat) (n1 : Int32) (hp : p1 ≤ 32) (hst : ∀ j, j < 200 → 0 ≤ fs j) (hun : un ≤ 200) : 0 ≤ 32 := by
  first | assumption | omega
set_option maxHeartbeats 4000000 in
set_option maxRecDepth 100000 in
theorem c_X9_run (l : Launch) (D : va_G) (cI cB cZ cJ : ClassId) (tx : List (ClassId × FieldType)) (t : Nat → Nat) (un : Nat) (cl : Int32) (rf : Int32) (p1 : Nat) (fs : Nat → Int32) (fk : Nat → Int32) (fl : Nat → Int32) (b1 : Nat) (n1 : Int32) (hp : p1 ≤ 32) (hst : ∀ j, j < 200 → 0 ≤ fs j) (hun : un ≤ 200) : WrI l D cI cB cZ cJ tx yX9_run cX9_run 5 (some .int) 2 0 0 [.ref (t 0), .int n1, .ref b1] [(t 0, .inr (9, [.ref (t 1), .ref (t 2), .ref (t 3), .ref (t 4), .ref (t 5), .int (nI un), .int cl, .int (nI p1), .int rf])), (t 1, .inl (cI, 200, .inl fs)), (t 2, .inl (cI, 32, .inl fk)), (b1, .inl (cI, 26, .inl fl))] (fun (_ : Int32) (v : Nat × Int32 × (Nat → Int32)) => v.1 ≤ 32) (fun v => [(t 0, .inr (9, [.ref (t 1), .ref (t 2), .ref (t 3), .ref (t 4), .ref (t 5), .int (nI un), .int cl, .int (nI v.1), .int v.2.1])), (t 1, .inl (cI, 200, .inl fs)), (t 2, .inl (cI, 32, .inl v.2.2)), (b1, .inl (cI, 26, .inl fl))]) := by
  refine wri_of2 (by decide) (Nat.le_of_ble_eq_true rfl) ?_
  intro p e s m below meth c A ls H locs hC hK hP hD hA hS hl
  obtain ⟨hx, hb, hr, hml, hown, hts, hlocks, hin⟩ := hC
  have hown : s.vm.findClass RX9 = some m.cls := hown
  have hl : lv_has ls 5 [(0, .ref (t 0)), (1, .int n1), (2, .ref b1)] := hl
  refine lv_aload_n hx hb dX9_run_0 rfl (lv_at hl 0 rfl) ?_
  refine lv_iconst (v := 0) hx hb dX9_run_1 (by decide) ?_
  refine va_put (D := D) (ci := 9) (v := .int 0) (ty := .boolean) (C := RX9) (T := TX9) (N := 9) hx hb hts inT_X9 tyX9 tyX9_ok nmX9 hown hK.1 hP hD hS 0 rfl rfl 8 (by decide) (hts _ k_204) (fun _ h9 => h9) rfl (by decide +kernel) rfl rfl (Nat.le_of_ble_eq_true rfl) dX9_run_2 (fun H locs hP hD hS => ?_)
  have hP : va_P D vwCl [(t 0, .inr (9, [.ref (t 1), .ref (t 2), .ref (t 3), .ref (t 4), .ref (t 5), .int (nI un), .int cl, .int (nI p1), .int 0])), (t 1, .inl (cI, 200, .inl fs)), (t 2, .inl (cI, 32, .inl fk)), (b1, .inl (cI, 26, .inl fl))] H := hP
  have hD : va_D A [(t 0, .inr (9, [.ref (t 1), .ref (t 2), .ref (t 3), .ref (t 4), .ref (t 5), .int (nI un), .int cl, .int (nI p1), .int 0])), (t 1, .inl (cI, 200, .inl fs)), (t 2, .inl (cI, 32, .inl fk)), (b1, .inl (cI, 26, .inl fl))] := hD
  refine lv_aload_n hx hb dX9_run_5 rfl (lv_at hl 0 rfl) ?_
  refine lv_iconst (v := 0) hx hb dX9_run_6 (by decide) ?_
  refine va_put (D := D) (ci := 9) (v := .int 0) (ty := .int) (C := RX9) (T := TX9) (N := 9) hx hb hts inT_X9 tyX9 tyX9_ok nmX9 hown hK.1 hP hD hS 0 rfl rfl 7 (by decide) (hts _ k_203) (fun _ h9 => h9) rfl (by decide +kernel) rfl rfl (Nat.le_of_ble_eq_true rfl) dX9_run_7 (fun H locs hP hD hS => ?_)
  have hP : va_P D vwCl [(t 0, .inr (9, [.ref (t 1), .ref (t 2), .ref (t 3), .ref (t 4), .ref (t 5), .int (nI un), .int cl, .int 0, .int 0])), (t 1, .inl (cI, 200, .inl fs)), (t 2, .inl (cI, 32, .inl fk)), (b1, .inl (cI, 26, .inl fl))] H := hP
  have hD : va_D A [(t 0, .inr (9, [.ref (t 1), .ref (t 2), .ref (t 3), .ref (t 4), .ref (t 5), .int (nI un), .int cl, .int 0, .int 0])), (t 1, .inl (cI, 200, .inl fs)), (t 2, .inl (cI, 32, .inl fk)), (b1, .inl (cI, 26, .inl fl))] := hD
  refine lv_iload_n hx hb dX9_run_10 rfl (lv_at hl 1 rfl) ?_
  refine lv_istore_n (lv' := [(3, .int n1), (0, .ref (t 0)), (1, .int n1), (2, .ref b1)]) hx hb dX9_run_11 rfl hl (by decide) rfl (fun ls hl => ?_)
  refine lv_iconst (v := 0) hx hb dX9_run_12 (by decide) ?_
  refine lv_istore (lv' := [(4, .int 0), (3, .int n1), (0, .ref (t 0)), (1, .int n1), (2, .ref b1)]) hx hb dX9_run_13 hl (by decide) rfl (fun ls hl => ?_)
  have lp15 : ∀ (k15 : Nat) (j : Nat) (av : Int32) (y15_t2 : Nat → Int32) (rv : Int32) (pv : Nat) (H : Heap) (locs : List Loc) (ls : Array Slot), j ≤ 200 → 200 < j + k15 → (pv ≤ 32) → va_P D vwCl [(t 0, .inr (9, [.ref (t 1), .ref (t 2), .ref (t 3), .ref (t 4), .ref (t 5), .int (nI un), .int cl, .int (nI pv), .int rv])), (t 1, .inl (cI, 200, .inl fs)), (t 2, .inl (cI, 32, .inl y15_t2)), (b1, .inl (cI, 26, .inl fl))] H → va_D A [(t 0, .inr (9, [.ref (t 1), .ref (t 2), .ref (t 3), .ref (t 4), .ref (t 5), .int (nI un), .int cl, .int (nI pv), .int rv])), (t 1, .inl (cI, 200, .inl fs)), (t 2, .inl (cI, 32, .inl y15_t2)), (b1, .inl (cI, 26, .inl fl))] → va_S A s.heap H locs → lv_has ls 5 [(4, .int (nI j)), (3, .int av), (0, .ref (t 0)), (1, .int n1), (2, .ref b1)] → W p l e (rmX 2 0 0) s m ([.ref (t 0), .int n1, .ref b1] : List Value).toArray below meth c H locs 0 0 (MQ below (va_Qi (fun (_ : Int32) (v : Nat × Int32 × (Nat → Int32)) => v.1 ≤ 32) (fun u => BX D A ((fun v => [(t 0, .inr (9, [.ref (t 1), .ref (t 2), .ref (t 3), .ref (t 4), .ref (t 5), .int (nI un), .int cl, .int (nI v.1), .int v.2.1])), (t 1, .inl (cI, 200, .inl fs)), (t 2, .inl (cI, 32, .inl v.2.2)), (b1, .inl (cI, 26, .inl fl))]) u)) A) ([.ref (t 0), .int n1, .ref b1] : List Value).toArray s 0 0 A) (F0 m 15 ls []) := by
    intro k15
    induction k15 with
    | zero =>
      intro j av y15_t2 rv pv H locs ls hj15 hk15 hpv hP hD hS hl
      exact absurd hk15 (by omega)
    | succ k15 ih15 =>
      intro j av y15_t2 rv pv H locs ls hj15 hk15 hpv hP hD hS hl
      refine lv_iload hx hb dX9_run_15 (lv_at hl 0 rfl) ?_
      refine lv_aload_n hx hb dX9_run_17 rfl (lv_at hl 2 rfl) ?_
      refine va_get (D := D) (ci := 9) (v := .ref (t 1)) (C := RX9) (T := TX9) (N := 9) hx hb hts inT_X9 hown hK.1 hP 0 rfl rfl 0 (by decide) (hts _ k_194) (fun _ h9 => h9) rfl dX9_run_18 ?_
      refine ln_x (v := 200) hx hb hK hP 1 0 rfl rfl (show Int32.ofNat 200 = 200 from by decide) dX9_run_21 ?_
      refine lv_icmp_ge (tgt := 72) hx hb dX9_run_22 (by decide) (fun c_1 => ?_) (fun c_1 => ?_)
      · have n_2 : 200 ≤ j := (lf_X9_run_3 t un cl rf p1 fs fk fl b1 n1 hp hst hun j av y15_t2 rv pv k15 hj15 hk15 hpv c_1)
        refine lv_aload_n hx hb dX9_run_72 rfl (lv_at hl 2 rfl) ?_
        refine va_get (D := D) (ci := 9) (v := .int rv) (C := RX9) (T := TX9) (N := 9) hx hb hts inT_X9 hown hK.1 hP 0 rfl rfl 8 (by decide) (hts _ k_204) (fun _ h9 => h9) rfl dX9_run_73 ?_
        refine lv_if_eq (tgt := 83) hx hb dX9_run_76 (by decide) (fun c_4 => ?_) (fun c_4 => ?_)
        · refine lv_aload_n hx hb dX9_run_83 rfl (lv_at hl 2 rfl) ?_
          refine eWi (wr := [(t 1, .inl (cI, 200, .inl fs)), (b1, .inl (cI, 26, .inl fl))]) (va_runV (As := []) (rest := []) ⟨hx, hb, hml, hown, hts⟩ (c_X9_pop l D cI cB cZ cJ tx t (nI un) cl rv pv y15_t2 (lf_X9_run_5 t un cl rf p1 fs fk fl b1 n1 hp hst hun j av y15_t2 rv pv k15 hj15 hk15 hpv c_1 n_2 c_4) H.size) (zV hts k_799 v_X9_pop ⟨Nat.le_of_ble_eq_true rfl, Nat.le_of_ble_eq_true rfl⟩) (pV (pxS hK hP hD [0, 2] (by decide) rfl) hK hP 0 rfl rfl) rfl rfl hl.1 rfl (lv_room (Nat.le_of_ble_eq_true rfl)) dX9_run_84 ⟨Nat.le_of_ble_eq_true rfl, Nat.le_of_ble_eq_true rfl⟩) hP hD hS hA [0, 2] [1, 3] rfl rfl (by decide) (by decide) (fun r_6 u_7 H locs wr_6 hP hD hS => ?_)
          obtain ⟨pa_7, rfl⟩ : ∃ z, z = u_7 := ⟨_, rfl⟩
          have hz_7 : pa_7 ≤ 32 := wr_6
          have hP : va_P D vwCl [(t 1, .inl (cI, 200, .inl fs)), (b1, .inl (cI, 26, .inl fl)), (t 0, .inr (9, [.ref (t 1), .ref (t 2), .ref (t 3), .ref (t 4), .ref (t 5), .int (nI un), .int cl, .int (nI pa_7), .int rv])), (t 2, .inl (cI, 32, .inl y15_t2))] H := hP
          have hD : va_D A [(t 1, .inl (cI, 200, .inl fs)), (b1, .inl (cI, 26, .inl fl)), (t 0, .inr (9, [.ref (t 1), .ref (t 2), .ref (t 3), .ref (t 4), .ref (t 5), .int (nI un), .int cl, .int (nI pa_7), .int rv])), (t 2, .inl (cI, 32, .inl y15_t2))] := hD
          have hP := hP.sub (ws' := [(t 0, .inr (9, [.ref (t 1), .ref (t 2), .ref (t 3), .ref (t 4), .ref (t 5), .int (nI un), .int cl, .int (nI pa_7), .int rv])), (t 1, .inl (cI, 200, .inl fs)), (t 2, .inl (cI, 32, .inl y15_t2)), (b1, .inl (cI, 26, .inl fl))]) [2, 0, 3, 1] rfl
          have hD := hD.sub (ws' := [(t 0, .inr (9, [.ref (t 1), .ref (t 2), .ref (t 3), .ref (t 4), .ref (t 5), .int (nI un), .int cl, .int (nI pa_7), .int rv])), (t 1, .inl (cI, 200, .inl fs)), (t 2, .inl (cI, 32, .inl y15_t2)), (b1, .inl (cI, 26, .inl fl))]) [2, 0, 3, 1] (by decide) rfl
          exact W.iret (v := r_6) hx hb hr (fun tt9 ht hW => ⟨⟨(r_6 : Int32), (pa_7, (rv : Int32), y15_t2), rfl, (lf_X9_run_8 t un cl rf p1 fs fk fl b1 n1 hp hst hun j av y15_t2 rv pv k15 hj15 hk15 hpv c_1 n_2 c_4 pa_7 hz_7 r_6), ⟨by rw [ht]; exact hP, hD⟩⟩, hS.F ht⟩) hS.2.2 dX9_run_87 hlocks
        · refine lv_iconst (v := 0) hx hb dX9_run_79 (by decide) ?_
          refine lv_goto (tgt := 87) hx hb dX9_run_80 (by decide) ?_
          have hP := hP.sub (ws' := [(t 0, .inr (9, [.ref (t 1), .ref (t 2), .ref (t 3), .ref (t 4), .ref (t 5), .int (nI un), .int cl, .int (nI pv), .int rv])), (t 1, .inl (cI, 200, .inl fs)), (t 2, .inl (cI, 32, .inl y15_t2)), (b1, .inl (cI, 26, .inl fl))]) [0, 1, 2, 3] rfl
          have hD := hD.sub (ws' := [(t 0, .inr (9, [.ref (t 1), .ref (t 2), .ref (t 3), .ref (t 4), .ref (t 5), .int (nI un), .int cl, .int (nI pv), .int rv])), (t 1, .inl (cI, 200, .inl fs)), (t 2, .inl (cI, 32, .inl y15_t2)), (b1, .inl (cI, 26, .inl fl))]) [0, 1, 2, 3] (by decide) rfl
          exact W.iret (v := 0) hx hb hr (fun tt9 ht hW => ⟨⟨(0 : Int32), (pv, (rv : Int32), y15_t2), rfl, (lf_X9_run_9 t un cl rf p1 fs fk fl b1 n1 hp hst hun j av y15_t2 rv pv k15 hj15 hk15 hpv c_1 n_2 c_4), ⟨by rw [ht]; exact hP, hD⟩⟩, hS.F ht⟩) hS.2.2 dX9_run_87 hlocks
      · have n_10 : j < 200 := (lf_X9_run_11 t un cl rf p1 fs fk fl b1 n1 hp hst hun j av y15_t2 rv pv k15 hj15 hk15 hpv c_1)
        refine lv_iload_n hx hb dX9_run_25 rfl (lv_at hl 1 rfl) ?_
        refine lv_if_lt (tgt := 72) hx hb dX9_run_26 (by decide) (fun c_12 => ?_) (fun c_12 => ?_)
        · refine lv_aload_n hx hb dX9_run_72 rfl (lv_at hl 2 rfl) ?_
          refine va_get (D := D) (ci := 9) (v := .int rv) (C := RX9) (T := TX9) (N := 9) hx hb hts inT_X9 hown hK.1 hP 0 rfl rfl 8 (by decide) (hts _ k_204) (fun _ h9 => h9) rfl dX9_run_73 ?_
          refine lv_if_eq (tgt := 83) hx hb dX9_run_76 (by decide) (fun c_13 => ?_) (fun c_13 => ?_)
          · refine lv_aload_n hx hb dX9_run_83 rfl (lv_at hl 2 rfl) ?_
            refine eWi (wr := [(t 1, .inl (cI, 200, .inl fs)), (b1, .inl (cI, 26, .inl fl))]) (va_runV (As := []) (rest := []) ⟨hx, hb, hml, hown, hts⟩ (c_X9_pop l D cI cB cZ cJ tx t (nI un) cl rv pv y15_t2 (lf_X9_run_14 t un cl rf p1 fs fk fl b1 n1 hp hst hun j av y15_t2 rv pv k15 hj15 hk15 hpv c_1 n_10 c_12 c_13) H.size) (zV hts k_799 v_X9_pop ⟨Nat.le_of_ble_eq_true rfl, Nat.le_of_ble_eq_true rfl⟩) (pV (pxS hK hP hD [0, 2] (by decide) rfl) hK hP 0 rfl rfl) rfl rfl hl.1 rfl (lv_room (Nat.le_of_ble_eq_true rfl)) dX9_run_84 ⟨Nat.le_of_ble_eq_true rfl, Nat.le_of_ble_eq_true rfl⟩) hP hD hS hA [0, 2] [1, 3] rfl rfl (by decide) (by decide) (fun r_15 u_16 H locs wr_15 hP hD hS => ?_)
            obtain ⟨pa_16, rfl⟩ : ∃ z, z = u_16 := ⟨_, rfl⟩
            have hz_16 : pa_16 ≤ 32 := wr_15
            have hP : va_P D vwCl [(t 1, .inl (cI, 200, .inl fs)), (b1, .inl (cI, 26, .inl fl)), (t 0, .inr (9, [.ref (t 1), .ref (t 2), .ref (t 3), .ref (t 4), .ref (t 5), .int (nI un), .int cl, .int (nI pa_16), .int rv])), (t 2, .inl (cI, 32, .inl y15_t2))] H := hP
            have hD : va_D A [(t 1, .inl (cI, 200, .inl fs)), (b1, .inl (cI, 26, .inl fl)), (t 0, .inr (9, [.ref (t 1), .ref (t 2), .ref (t 3), .ref (t 4), .ref (t 5), .int (nI un), .int cl, .int (nI pa_16), .int rv])), (t 2, .inl (cI, 32, .inl y15_t2))] := hD
            have hP := hP.sub (ws' := [(t 0, .inr (9, [.ref (t 1), .ref (t 2), .ref (t 3), .ref (t 4), .ref (t 5), .int (nI un), .int cl, .int (nI pa_16), .int rv])), (t 1, .inl (cI, 200, .inl fs)), (t 2, .inl (cI, 32, .inl y15_t2)), (b1, .inl (cI, 26, .inl fl))]) [2, 0, 3, 1] rfl
            have hD := hD.sub (ws' := [(t 0, .inr (9, [.ref (t 1), .ref (t 2), .ref (t 3), .ref (t 4), .ref (t 5), .int (nI un), .int cl, .int (nI pa_16), .int rv])), (t 1, .inl (cI, 200, .inl fs)), (t 2, .inl (cI, 32, .inl y15_t2)), (b1, .inl (cI, 26, .inl fl))]) [2, 0, 3, 1] (by decide) rfl
            exact W.iret (v := r_15) hx hb hr (fun tt9 ht hW => ⟨⟨(r_15 : Int32), (pa_16, (rv : Int32), y15_t2), rfl, (lf_X9_run_17 t un cl rf p1 fs fk fl b1 n1 hp hst hun j av y15_t2 rv pv k15 hj15 hk15 hpv c_1 n_10 c_12 c_13 pa_16 hz_16 r_15), ⟨by rw [ht]; exact hP, hD⟩⟩, hS.F ht⟩) hS.2.2 dX9_run_87 hlocks
          · refine lv_iconst (v := 0) hx hb dX9_run_79 (by decide) ?_
            refine lv_goto (tgt := 87) hx hb dX9_run_80 (by decide) ?_
            have hP := hP.sub (ws' := [(t 0, .inr (9, [.ref (t 1), .ref (t 2), .ref (t 3), .ref (t 4), .ref (t 5), .int (nI un), .int cl, .int (nI pv), .int rv])), (t 1, .inl (cI, 200, .inl fs)), (t 2, .inl (cI, 32, .inl y15_t2)), (b1, .inl (cI, 26, .inl fl))]) [0, 1, 2, 3] rfl
            have hD := hD.sub (ws' := [(t 0, .inr (9, [.ref (t 1), .ref (t 2), .ref (t 3), .ref (t 4), .ref (t 5), .int (nI un), .int cl, .int (nI pv), .int rv])), (t 1, .inl (cI, 200, .inl fs)), (t 2, .inl (cI, 32, .inl y15_t2)), (b1, .inl (cI, 26, .inl fl))]) [0, 1, 2, 3] (by decide) rfl
            exact W.iret (v := 0) hx hb hr (fun tt9 ht hW => ⟨⟨(0 : Int32), (pv, (rv : Int32), y15_t2), rfl, (lf_X9_run_18 t un cl rf p1 fs fk fl b1 n1 hp hst hun j av y15_t2 rv pv k15 hj15 hk15 hpv c_1 n_10 c_12 c_13), ⟨by rw [ht]; exact hP, hD⟩⟩, hS.F ht⟩) hS.2.2 dX9_run_87 hlocks
        · refine lv_iload_n hx hb dX9_run_29 rfl (lv_at hl 1 rfl) ?_
          refine lv_aload_n hx hb dX9_run_30 rfl (lv_at hl 2 rfl) ?_
          refine va_get (D := D) (ci := 9) (v := .int (nI un)) (C := RX9) (T := TX9) (N := 9) hx hb hts inT_X9 hown hK.1 hP 0 rfl rfl 5 (by decide) (hts _ k_199) (fun _ h9 => h9) rfl dX9_run_31 ?_
          refine lv_icmp_ge (tgt := 72) hx hb dX9_run_34 (by decide) (fun c_19 => ?_) (fun c_19 => ?_)
          · refine lv_aload_n hx hb dX9_run_72 rfl (lv_at hl 2 rfl) ?_
            refine va_get (D := D) (ci := 9) (v := .int rv) (C := RX9) (T := TX9) (N := 9) hx hb hts inT_X9 hown hK.1 hP 0 rfl rfl 8 (by decide) (hts _ k_204) (fun _ h9 => h9) rfl dX9_run_73 ?_
            refine lv_if_eq (tgt := 83) hx hb dX9_run_76 (by decide) (fun c_20 => ?_) (fun c_20 => ?_)
            · refine lv_aload_n hx hb dX9_run_83 rfl (lv_at hl 2 rfl) ?_
              refine eWi (wr := [(t 1, .inl (cI, 200, .inl fs)), (b1, .inl (cI, 26, .inl fl))]) (va_runV (As := []) (rest := []) ⟨hx, hb, hml, hown, hts⟩ (c_X9_pop l D cI cB cZ cJ tx t (nI un) cl rv pv y15_t2 (lf_X9_run_21 t un cl rf p1 fs fk fl b1 n1 hp hst hun j av y15_t2 rv pv k15 hj15 hk15 hpv c_1 n_10 c_12 c_19 c_20) H.size) (zV hts k_799 v_X9_pop ⟨Nat.le_of_ble_eq_true rfl, Nat.le_of_ble_eq_true rfl⟩) (pV (pxS hK hP hD [0, 2] (by decide) rfl) hK hP 0 rfl rfl) rfl rfl hl.1 rfl (lv_room (Nat.le_of_ble_eq_true rfl)) dX9_run_84 ⟨Nat.le_of_ble_eq_true rfl, Nat.le_of_ble_eq_true rfl⟩) hP hD hS hA [0, 2] [1, 3] rfl rfl (by decide) (by decide) (fun r_22 u_23 H locs wr_22 hP hD hS => ?_)
              obtain ⟨pa_23, rfl⟩ : ∃ z, z = u_23 := ⟨_, rfl⟩
              have hz_23 : pa_23 ≤ 32 := wr_22
              have hP : va_P D vwCl [(t 1, .inl (cI, 200, .inl fs)), (b1, .inl (cI, 26, .inl fl)), (t 0, .inr (9, [.ref (t 1), .ref (t 2), .ref (t 3), .ref (t 4), .ref (t 5), .int (nI un), .int cl, .int (nI pa_23), .int rv])), (t 2, .inl (cI, 32, .inl y15_t2))] H := hP
              have hD : va_D A [(t 1, .inl (cI, 200, .inl fs)), (b1, .inl (cI, 26, .inl fl)), (t 0, .inr (9, [.ref (t 1), .ref (t 2), .ref (t 3), .ref (t 4), .ref (t 5), .int (nI un), .int cl, .int (nI pa_23), .int rv])), (t 2, .inl (cI, 32, .inl y15_t2))] := hD
              have hP := hP.sub (ws' := [(t 0, .inr (9, [.ref (t 1), .ref (t 2), .ref (t 3), .ref (t 4), .ref (t 5), .int (nI un), .int cl, .int (nI pa_23), .int rv])), (t 1, .inl (cI, 200, .inl fs)), (t 2, .inl (cI, 32, .inl y15_t2)), (b1, .inl (cI, 26, .inl fl))]) [2, 0, 3, 1] rfl
              have hD := hD.sub (ws' := [(t 0, .inr (9, [.ref (t 1), .ref (t 2), .ref (t 3), .ref (t 4), .ref (t 5), .int (nI un), .int cl, .int (nI pa_23), .int rv])), (t 1, .inl (cI, 200, .inl fs)), (t 2, .inl (cI, 32, .inl y15_t2)), (b1, .inl (cI, 26, .inl fl))]) [2, 0, 3, 1] (by decide) rfl
              exact W.iret (v := r_22) hx hb hr (fun tt9 ht hW => ⟨⟨(r_22 : Int32), (pa_23, (rv : Int32), y15_t2), rfl, (lf_X9_run_24 t un cl rf p1 fs fk fl b1 n1 hp hst hun j av y15_t2 rv pv k15 hj15 hk15 hpv c_1 n_10 c_12 c_19 c_20 pa_23 hz_23 r_22), ⟨by rw [ht]; exact hP, hD⟩⟩, hS.F ht⟩) hS.2.2 dX9_run_87 hlocks
            · refine lv_iconst (v := 0) hx hb dX9_run_79 (by decide) ?_
              refine lv_goto (tgt := 87) hx hb dX9_run_80 (by decide) ?_
              have hP := hP.sub (ws' := [(t 0, .inr (9, [.ref (t 1), .ref (t 2), .ref (t 3), .ref (t 4), .ref (t 5), .int (nI un), .int cl, .int (nI pv), .int rv])), (t 1, .inl (cI, 200, .inl fs)), (t 2, .inl (cI, 32, .inl y15_t2)), (b1, .inl (cI, 26, .inl fl))]) [0, 1, 2, 3] rfl
              have hD := hD.sub (ws' := [(t 0, .inr (9, [.ref (t 1), .ref (t 2), .ref (t 3), .ref (t 4), .ref (t 5), .int (nI un), .int cl, .int (nI pv), .int rv])), (t 1, .inl (cI, 200, .inl fs)), (t 2, .inl (cI, 32, .inl y15_t2)), (b1, .inl (cI, 26, .inl fl))]) [0, 1, 2, 3] (by decide) rfl
              exact W.iret (v := 0) hx hb hr (fun tt9 ht hW => ⟨⟨(0 : Int32), (pv, (rv : Int32), y15_t2), rfl, (lf_X9_run_25 t un cl rf p1 fs fk fl b1 n1 hp hst hun j av y15_t2 rv pv k15 hj15 hk15 hpv c_1 n_10 c_12 c_19 c_20), ⟨by rw [ht]; exact hP, hD⟩⟩, hS.F ht⟩) hS.2.2 dX9_run_87 hlocks
          · obtain ⟨kk, hkk, ekk⟩ := nat_of c_12 c_19
            subst ekk
            refine lv_aload_n hx hb dX9_run_37 rfl (lv_at hl 2 rfl) ?_
            refine va_get (D := D) (ci := 9) (v := .int rv) (C := RX9) (T := TX9) (N := 9) hx hb hts inT_X9 hown hK.1 hP 0 rfl rfl 8 (by decide) (hts _ k_204) (fun _ h9 => h9) rfl dX9_run_38 ?_
            refine lv_if_ne (tgt := 72) hx hb dX9_run_41 (by decide) (fun c_26 => ?_) (fun c_26 => ?_)
            · refine lv_aload_n hx hb dX9_run_72 rfl (lv_at hl 2 rfl) ?_
              refine va_get (D := D) (ci := 9) (v := .int rv) (C := RX9) (T := TX9) (N := 9) hx hb hts inT_X9 hown hK.1 hP 0 rfl rfl 8 (by decide) (hts _ k_204) (fun _ h9 => h9) rfl dX9_run_73 ?_
              refine lv_if_eq (tgt := 83) hx hb dX9_run_76 (by decide) (fun c_27 => ?_) (fun c_27 => ?_)
              · refine lv_aload_n hx hb dX9_run_83 rfl (lv_at hl 2 rfl) ?_
                refine eWi (wr := [(t 1, .inl (cI, 200, .inl fs)), (b1, .inl (cI, 26, .inl fl))]) (va_runV (As := []) (rest := []) ⟨hx, hb, hml, hown, hts⟩ (c_X9_pop l D cI cB cZ cJ tx t (nI un) cl rv pv y15_t2 (lf_X9_run_28 t un cl rf p1 fs fk fl b1 n1 hp hst hun j (nI kk) y15_t2 rv pv k15 hj15 hk15 hpv c_1 n_10 c_12 c_19 kk hkk rfl c_26 c_27) H.size) (zV hts k_799 v_X9_pop ⟨Nat.le_of_ble_eq_true rfl, Nat.le_of_ble_eq_true rfl⟩) (pV (pxS hK hP hD [0, 2] (by decide) rfl) hK hP 0 rfl rfl) rfl rfl hl.1 rfl (lv_room (Nat.le_of_ble_eq_true rfl)) dX9_run_84 ⟨Nat.le_of_ble_eq_true rfl, Nat.le_of_ble_eq_true rfl⟩) hP hD hS hA [0, 2] [1, 3] rfl rfl (by decide) (by decide) (fun r_29 u_30 H locs wr_29 hP hD hS => ?_)
                obtain ⟨pa_30, rfl⟩ : ∃ z, z = u_30 := ⟨_, rfl⟩
                have hz_30 : pa_30 ≤ 32 := wr_29
                have hP : va_P D vwCl [(t 1, .inl (cI, 200, .inl fs)), (b1, .inl (cI, 26, .inl fl)), (t 0, .inr (9, [.ref (t 1), .ref (t 2), .ref (t 3), .ref (t 4), .ref (t 5), .int (nI un), .int cl, .int (nI pa_30), .int rv])), (t 2, .inl (cI, 32, .inl y15_t2))] H := hP
                have hD : va_D A [(t 1, .inl (cI, 200, .inl fs)), (b1, .inl (cI, 26, .inl fl)), (t 0, .inr (9, [.ref (t 1), .ref (t 2), .ref (t 3), .ref (t 4), .ref (t 5), .int (nI un), .int cl, .int (nI pa_30), .int rv])), (t 2, .inl (cI, 32, .inl y15_t2))] := hD
                have hP := hP.sub (ws' := [(t 0, .inr (9, [.ref (t 1), .ref (t 2), .ref (t 3), .ref (t 4), .ref (t 5), .int (nI un), .int cl, .int (nI pa_30), .int rv])), (t 1, .inl (cI, 200, .inl fs)), (t 2, .inl (cI, 32, .inl y15_t2)), (b1, .inl (cI, 26, .inl fl))]) [2, 0, 3, 1] rfl
                have hD := hD.sub (ws' := [(t 0, .inr (9, [.ref (t 1), .ref (t 2), .ref (t 3), .ref (t 4), .ref (t 5), .int (nI un), .int cl, .int (nI pa_30), .int rv])), (t 1, .inl (cI, 200, .inl fs)), (t 2, .inl (cI, 32, .inl y15_t2)), (b1, .inl (cI, 26, .inl fl))]) [2, 0, 3, 1] (by decide) rfl
                exact W.iret (v := r_29) hx hb hr (fun tt9 ht hW => ⟨⟨(r_29 : Int32), (pa_30, (rv : Int32), y15_t2), rfl, (lf_X9_run_31 t un cl rf p1 fs fk fl b1 n1 hp hst hun j (nI kk) y15_t2 rv pv k15 hj15 hk15 hpv c_1 n_10 c_12 c_19 kk hkk rfl c_26 c_27 pa_30 hz_30 r_29), ⟨by rw [ht]; exact hP, hD⟩⟩, hS.F ht⟩) hS.2.2 dX9_run_87 hlocks
              · refine lv_iconst (v := 0) hx hb dX9_run_79 (by decide) ?_
                refine lv_goto (tgt := 87) hx hb dX9_run_80 (by decide) ?_
                have hP := hP.sub (ws' := [(t 0, .inr (9, [.ref (t 1), .ref (t 2), .ref (t 3), .ref (t 4), .ref (t 5), .int (nI un), .int cl, .int (nI pv), .int rv])), (t 1, .inl (cI, 200, .inl fs)), (t 2, .inl (cI, 32, .inl y15_t2)), (b1, .inl (cI, 26, .inl fl))]) [0, 1, 2, 3] rfl
                have hD := hD.sub (ws' := [(t 0, .inr (9, [.ref (t 1), .ref (t 2), .ref (t 3), .ref (t 4), .ref (t 5), .int (nI un), .int cl, .int (nI pv), .int rv])), (t 1, .inl (cI, 200, .inl fs)), (t 2, .inl (cI, 32, .inl y15_t2)), (b1, .inl (cI, 26, .inl fl))]) [0, 1, 2, 3] (by decide) rfl
                exact W.iret (v := 0) hx hb hr (fun tt9 ht hW => ⟨⟨(0 : Int32), (pv, (rv : Int32), y15_t2), rfl, (lf_X9_run_32 t un cl rf p1 fs fk fl b1 n1 hp hst hun j (nI kk) y15_t2 rv pv k15 hj15 hk15 hpv c_1 n_10 c_12 c_19 kk hkk rfl c_26 c_27), ⟨by rw [ht]; exact hP, hD⟩⟩, hS.F ht⟩) hS.2.2 dX9_run_87 hlocks
            · refine lv_aload_n hx hb dX9_run_44 rfl (lv_at hl 2 rfl) ?_
              refine va_get (D := D) (ci := 9) (v := .ref (t 1)) (C := RX9) (T := TX9) (N := 9) hx hb hts inT_X9 hown hK.1 hP 0 rfl rfl 0 (by decide) (hts _ k_194) (fun _ h9 => h9) rfl dX9_run_45 ?_
              refine lv_iload_n hx hb dX9_run_48 rfl (lv_at hl 1 rfl) ?_
              refine lt_i (j := kk) hx hb hK hP 1 rfl (lf_X9_run_33 t un cl rf p1 fs fk fl b1 n1 hp hst hun j (nI kk) y15_t2 rv pv k15 hj15 hk15 hpv c_1 n_10 c_12 c_19 kk hkk rfl c_26) (by decide) dX9_run_49 ?_
              refine lv_bipush (v := 15) hx hb dX9_run_50 (by decide) ?_
              refine lv_iand hx hb dX9_run_52 ?_
              refine lv_topi (fun x_34 ex_34 => ?_)
              refine lv_if_ne (tgt := 59) hx hb dX9_run_53 (by decide) (fun c_35 => ?_) (fun c_35 => ?_)
              · refine lv_aload_n hx hb dX9_run_59 rfl (lv_at hl 2 rfl) ?_
                refine lv_iload_n hx hb dX9_run_60 rfl (lv_at hl 1 rfl) ?_
                refine lv_aload_n hx hb dX9_run_61 rfl (lv_at hl 4 rfl) ?_
                refine eWi (wr := []) (va_runV (As := [.int (nI kk), .ref b1]) (rest := []) ⟨hx, hb, hml, hown, hts⟩ (c_X9_stepOn l D cI cB cZ cJ tx t (nI un) cl rv pv fs y15_t2 fl b1 kk (lf_X9_run_36 t un cl rf p1 fs fk fl b1 n1 hp hst hun j (nI kk) y15_t2 rv pv k15 hj15 hk15 hpv c_1 n_10 c_12 c_19 kk hkk rfl c_26 x_34 ex_34 c_35) (lf_X9_run_37 t un cl rf p1 fs fk fl b1 n1 hp hst hun j (nI kk) y15_t2 rv pv k15 hj15 hk15 hpv c_1 n_10 c_12 c_19 kk hkk rfl c_26 x_34 ex_34 c_35) (lf_X9_run_38 t un cl rf p1 fs fk fl b1 n1 hp hst hun j (nI kk) y15_t2 rv pv k15 hj15 hk15 hpv c_1 n_10 c_12 c_19 kk hkk rfl c_26 x_34 ex_34 c_35) H.size) (zV hts k_791 v_X9_stepOn ⟨Nat.le_of_ble_eq_true rfl, Nat.le_of_ble_eq_true rfl⟩) (pV (pxS hK hP hD [0, 1, 2, 3] (by decide) rfl) hK hP 0 rfl rfl) rfl rfl hl.1 rfl (lv_room (Nat.le_of_ble_eq_true rfl)) dX9_run_62 ⟨Nat.le_of_ble_eq_true rfl, Nat.le_of_ble_eq_true rfl⟩) hP hD hS hA [0, 1, 2, 3] [] rfl rfl (by decide) (by decide) (fun r_39 u_40 H locs wr_39 hP hD hS => ?_)
                obtain ⟨pa_40, ra_40, fa_40⟩ := u_40
                have hz_40 : pa_40 ≤ 32 := wr_39
                have hP : va_P D vwCl [(t 0, .inr (9, [.ref (t 1), .ref (t 2), .ref (t 3), .ref (t 4), .ref (t 5), .int (nI un), .int cl, .int (nI pa_40), .int ra_40])), (t 1, .inl (cI, 200, .inl fs)), (t 2, .inl (cI, 32, .inl fa_40)), (b1, .inl (cI, 26, .inl fl))] H := hP
                have hD : va_D A [(t 0, .inr (9, [.ref (t 1), .ref (t 2), .ref (t 3), .ref (t 4), .ref (t 5), .int (nI un), .int cl, .int (nI pa_40), .int ra_40])), (t 1, .inl (cI, 200, .inl fs)), (t 2, .inl (cI, 32, .inl fa_40)), (b1, .inl (cI, 26, .inl fl))] := hD
                refine lv_istore_n (lv' := [(3, .int r_39), (4, .int (nI j)), (0, .ref (t 0)), (1, .int n1), (2, .ref b1)]) hx hb dX9_run_65 rfl hl (by decide) rfl (fun ls hl => ?_)
                refine lv_iinc (v := nI (j + 1)) (lv' := [(4, .int (nI (j + 1))), (3, .int r_39), (0, .ref (t 0)), (1, .int n1), (2, .ref b1)]) hx hb dX9_run_66 hl (k := 1) rfl (nI_1 j) (by decide) rfl (fun ls hl => ?_)
                refine lv_goto (tgt := 15) hx hb dX9_run_69 (by decide) ?_
                exact ih15 (j + 1) r_39 fa_40 ra_40 pa_40 H locs ls (by omega) (by omega) (lf_X9_run_41 t un cl rf p1 fs fk fl b1 n1 hp hst hun j (nI kk) y15_t2 rv pv k15 hj15 hk15 hpv c_1 n_10 c_12 c_19 kk hkk rfl c_26 x_34 ex_34 c_35 pa_40 ra_40 fa_40 hz_40 r_39) (hP.sub [0, 1, 2, 3] rfl) (hD.sub [0, 1, 2, 3] (by decide) rfl) hS (lv_sub hl [0, 1, 2, 3, 4] rfl)
              · refine lv_goto (tgt := 72) hx hb dX9_run_56 (by decide) ?_
                refine lv_aload_n hx hb dX9_run_72 rfl (lv_at hl 2 rfl) ?_
                refine va_get (D := D) (ci := 9) (v := .int rv) (C := RX9) (T := TX9) (N := 9) hx hb hts inT_X9 hown hK.1 hP 0 rfl rfl 8 (by decide) (hts _ k_204) (fun _ h9 => h9) rfl dX9_run_73 ?_
                refine lv_if_eq (tgt := 83) hx hb dX9_run_76 (by decide) (fun c_42 => ?_) (fun c_42 => ?_)
                · refine lv_aload_n hx hb dX9_run_83 rfl (lv_at hl 2 rfl) ?_
                  refine eWi (wr := [(t 1, .inl (cI, 200, .inl fs)), (b1, .inl (cI, 26, .inl fl))]) (va_runV (As := []) (rest := []) ⟨hx, hb, hml, hown, hts⟩ (c_X9_pop l D cI cB cZ cJ tx t (nI un) cl rv pv y15_t2 (lf_X9_run_43 t un cl rf p1 fs fk fl b1 n1 hp hst hun j (nI kk) y15_t2 rv pv k15 hj15 hk15 hpv c_1 n_10 c_12 c_19 kk hkk rfl c_26 x_34 ex_34 c_35 c_42) H.size) (zV hts k_799 v_X9_pop ⟨Nat.le_of_ble_eq_true rfl, Nat.le_of_ble_eq_true rfl⟩) (pV (pxS hK hP hD [0, 2] (by decide) rfl) hK hP 0 rfl rfl) rfl rfl hl.1 rfl (lv_room (Nat.le_of_ble_eq_true rfl)) dX9_run_84 ⟨Nat.le_of_ble_eq_true rfl, Nat.le_of_ble_eq_true rfl⟩) hP hD hS hA [0, 2] [1, 3] rfl rfl (by decide) (by decide) (fun r_44 u_45 H locs wr_44 hP hD hS => ?_)
                  obtain ⟨pa_45, rfl⟩ : ∃ z, z = u_45 := ⟨_, rfl⟩
                  have hz_45 : pa_45 ≤ 32 := wr_44
                  have hP : va_P D vwCl [(t 1, .inl (cI, 200, .inl fs)), (b1, .inl (cI, 26, .inl fl)), (t 0, .inr (9, [.ref (t 1), .ref (t 2), .ref (t 3), .ref (t 4), .ref (t 5), .int (nI un), .int cl, .int (nI pa_45), .int rv])), (t 2, .inl (cI, 32, .inl y15_t2))] H := hP
                  have hD : va_D A [(t 1, .inl (cI, 200, .inl fs)), (b1, .inl (cI, 26, .inl fl)), (t 0, .inr (9, [.ref (t 1), .ref (t 2), .ref (t 3), .ref (t 4), .ref (t 5), .int (nI un), .int cl, .int (nI pa_45), .int rv])), (t 2, .inl (cI, 32, .inl y15_t2))] := hD
                  have hP := hP.sub (ws' := [(t 0, .inr (9, [.ref (t 1), .ref (t 2), .ref (t 3), .ref (t 4), .ref (t 5), .int (nI un), .int cl, .int (nI pa_45), .int rv])), (t 1, .inl (cI, 200, .inl fs)), (t 2, .inl (cI, 32, .inl y15_t2)), (b1, .inl (cI, 26, .inl fl))]) [2, 0, 3, 1] rfl
                  have hD := hD.sub (ws' := [(t 0, .inr (9, [.ref (t 1), .ref (t 2), .ref (t 3), .ref (t 4), .ref (t 5), .int (nI un), .int cl, .int (nI pa_45), .int rv])), (t 1, .inl (cI, 200, .inl fs)), (t 2, .inl (cI, 32, .inl y15_t2)), (b1, .inl (cI, 26, .inl fl))]) [2, 0, 3, 1] (by decide) rfl
                  exact W.iret (v := r_44) hx hb hr (fun tt9 ht hW => ⟨⟨(r_44 : Int32), (pa_45, (rv : Int32), y15_t2), rfl, (lf_X9_run_46 t un cl rf p1 fs fk fl b1 n1 hp hst hun j (nI kk) y15_t2 rv pv k15 hj15 hk15 hpv c_1 n_10 c_12 c_19 kk hkk rfl c_26 x_34 ex_34 c_35 c_42 pa_45 hz_45 r_44), ⟨by rw [ht]; exact hP, hD⟩⟩, hS.F ht⟩) hS.2.2 dX9_run_87 hlocks
                · refine lv_iconst (v := 0) hx hb dX9_run_79 (by decide) ?_
                  refine lv_goto (tgt := 87) hx hb dX9_run_80 (by decide) ?_
                  have hP := hP.sub (ws' := [(t 0, .inr (9, [.ref (t 1), .ref (t 2), .ref (t 3), .ref (t 4), .ref (t 5), .int (nI un), .int cl, .int (nI pv), .int rv])), (t 1, .inl (cI, 200, .inl fs)), (t 2, .inl (cI, 32, .inl y15_t2)), (b1, .inl (cI, 26, .inl fl))]) [0, 1, 2, 3] rfl
                  have hD := hD.sub (ws' := [(t 0, .inr (9, [.ref (t 1), .ref (t 2), .ref (t 3), .ref (t 4), .ref (t 5), .int (nI un), .int cl, .int (nI pv), .int rv])), (t 1, .inl (cI, 200, .inl fs)), (t 2, .inl (cI, 32, .inl y15_t2)), (b1, .inl (cI, 26, .inl fl))]) [0, 1, 2, 3] (by decide) rfl
                  exact W.iret (v := 0) hx hb hr (fun tt9 ht hW => ⟨⟨(0 : Int32), (pv, (rv : Int32), y15_t2), rfl, (lf_X9_run_47 t un cl rf p1 fs fk fl b1 n1 hp hst hun j (nI kk) y15_t2 rv pv k15 hj15 hk15 hpv c_1 n_10 c_12 c_19 kk hkk rfl c_26 x_34 ex_34 c_35 c_42), ⟨by rw [ht]; exact hP, hD⟩⟩, hS.F ht⟩) hS.2.2 dX9_run_87 hlocks
  exact lp15 (200 + 1) 0 n1 fk 0 0 H locs ls (by omega) (by omega) (lf_X9_run_48 t un cl rf p1 fs fk fl b1 n1 hp hst hun) (hP.sub [0, 1, 2, 3] rfl) (hD.sub [0, 1, 2, 3] (by decide) rfl) hS (lv_sub hl [0, 1, 2, 3, 4] rfl)

theorem lf_X9_value_3 (t : Nat → Nat) (un : Nat) (k1 : Nat) (rf : Int32) (p1 : Nat) (fs : Nat → Int32) (fk : Nat → Int32) (fa3 : Nat → Int32) (fa4 : Nat → Int32) (fa5 : Nat → Int32) (fl : Nat → Int32) (b1 : Nat) (n1 : Int32) (n2 : Int32) (n3 : Int32) (hp : p1 ≤ 32) (hst : ∀ j, j < 200 → 0 ≤ fs j) (hun : un ≤ 200) (hk1 : k1 ≤ 14) (j : Nat) (y3_t2 : Nat → Int32) (rv : Int32) (pv : Nat) (k3 : Nat) (hj3 : j ≤ k1) (hk3 : k1 < j + (k3 + 1)) (hpv : pv ≤ 32) (c_1 : nI k1 ≤ nI j) : k1 ≤ j := by
  exact (nI_leI (a := k1) (b := j) (by omega) (by omega)).mp c_1
theorem lf_X9_value_4 (t : Nat → Nat) (un : Nat) (k1 : Nat) (rf : Int32) (p1 : Nat) (fs : Nat → Int32) (fk : Nat → Int32) (fa3 : Nat → Int32) (fa4 : Nat → Int32) (fa5 : Nat → Int32) (fl : Nat → Int32) (b1 : Nat) (n1 : Int32) (n2 : Int32) (n3 : Int32) (hp : p1 ≤ 32) (hst : ∀ j, j < 200 → 0 ≤ fs j) (hun : un ≤ 200) (hk1 : k1 ≤ 14) (j : Nat) (y3_t2 : Nat → Int32) (rv : Int32) (pv : Nat) (k3 : Nat) (hj3 : j ≤ k1) (hk3 : k1 < j + (k3 + 1)) (hpv : pv ≤ 32) (c_1 : nI k1 ≤ nI j) (n_2 : k1 ≤ j) : pv ≤ 32 := by
  omega
theorem lf_X9_value_6 (t : Nat → Nat) (un : Nat) (k1 : Nat) (rf : Int32) (p1 : Nat) (fs : Nat → Int32) (fk : Nat → Int32) (fa3 : Nat → Int32) (fa4 : Nat → Int32) (fa5 : Nat → Int32) (fl : Nat → Int32) (b1 : Nat) (n1 : Int32) (n2 : Int32) (n3 : Int32) (hp : p1 ≤ 32) (hst : ∀ j, j < 200 → 0 ≤ fs j) (hun : un ≤ 200) (hk1 : k1 ≤ 14) (j : Nat) (y3_t2 : Nat → Int32) (rv : Int32) (pv : Nat) (k3 : Nat) (hj3 : j ≤ k1) (hk3 : k1 < j + (k3 + 1)) (hpv : pv ≤ 32) (c_1 : ¬ nI k1 ≤ nI j) : j < k1 := by
  exact Nat.lt_of_not_le (fun q => c_1 ((nI_leI (a := k1) (b := j) (by omega) (by omega)).mpr q))
theorem lf_X9_value_7 (t : Nat → Nat) (un : Nat) (k1 : Nat) (rf : Int32) (p1 : Nat) (fs : Nat → Int32) (fk : Nat → Int32) (fa3 : Nat → Int32) (fa4 : Nat → Int32) (fa5 : Nat → Int32) (fl : Nat → Int32) (b1 : Nat) (n1 : Int32) (n2 : Int32) (n3 : Int32) (hp : p1 ≤ 32) (hst : ∀ j, j < 200 → 0 ≤ fs j) (hun : un ≤ 200) (hk1 : k1 ≤ 14) (j : Nat) (y3_t2 : Nat → Int32) (rv : Int32) (pv : Nat) (k3 : Nat) (hj3 : j ≤ k1) (hk3 : k1 < j + (k3 + 1)) (hpv : pv ≤ 32) (c_1 : ¬ nI k1 ≤ nI j) (n_5 : j < k1) : vp_in (nI j) 14 := by
  first | exact vp_in_nI (by omega) (by decide) | (unfold vp_in; decide)
theorem lf_X9_value_10 (t : Nat → Nat) (un : Nat) (k1 : Nat) (rf : Int32) (p1 : Nat) (fs : Nat → Int32) (fk : Nat → Int32) (fa3 : Nat → Int32) (fa4 : Nat → Int32) (fa5 : Nat → Int32) (fl : Nat → Int32) (b1 : Nat) (n1 : Int32) (n2 : Int32) (n3 : Int32) (hp : p1 ≤ 32) (hst : ∀ j, j < 200 → 0 ≤ fs j) (hun : un ≤ 200) (hk1 : k1 ≤ 14) (j : Nat) (y3_t2 : Nat → Int32) (rv : Int32) (pv : Nat) (k3 : Nat) (hj3 : j ≤ k1) (hk3 : k1 < j + (k3 + 1)) (hpv : pv ≤ 32) (c_1 : ¬ nI k1 ≤ nI j) (n_5 : j < k1) (x_8 : Int32) (c_9 : ¬ x_8 = n1) : pv ≤ 32 := by
  first | assumption | omega
theorem lf_X9_value_11 (t : Nat → Nat) (un : Nat) (k1 : Nat) (rf : Int32) (p1 : Nat) (fs : Nat → Int32) (fk : Nat → Int32) (fa3 : Nat → Int32) (fa4 : Nat → Int32) (fa5 : Nat → Int32) (fl : Nat → Int32) (b1 : Nat) (n1 : Int32) (n2 : Int32) (n3 : Int32) (hp : p1 ≤ 32) (hst : ∀ j, j < 200 → 0 ≤ fs j) (hun : un ≤ 200) (hk1 : k1 ≤ 14) (j : Nat) (y3_t2 : Nat → Int32) (rv : Int32) (pv : Nat) (k3 : Nat) (hj3 : j ≤ k1) (hk3 : k1 < j + (k3 + 1)) (hpv : pv ≤ 32) (c_1 : ¬ nI k1 ≤ nI j) (n_5 : j < k1) (x_8 : Int32) (c_9 : x_8 = n1) : vp_in (nI j) 14 := by
  first | exact vp_in_nI (by omega) (by decide) | (unfold vp_in; decide)
theorem lf_X9_value_13 (t : Nat → Nat) (un : Nat) (k1 : Nat) (rf : Int32) (p1 : Nat) (fs : Nat → Int32) (fk : Nat → Int32) (fa3 : Nat → Int32) (fa4 : Nat → Int32) (fa5 : Nat → Int32) (fl : Nat → Int32) (b1 : Nat) (n1 : Int32) (n2 : Int32) (n3 : Int32) (hp : p1 ≤ 32) (hst : ∀ j, j < 200 → 0 ≤ fs j) (hun : un ≤ 200) (hk1 : k1 ≤ 14) (j : Nat) (y3_t2 : Nat → Int32) (rv : Int32) (pv : Nat) (k3 : Nat) (hj3 : j ≤ k1) (hk3 : k1 < j + (k3 + 1)) (hpv : pv ≤ 32) (c_1 : ¬ nI k1 ≤ nI j) (n_5 : j < k1) (x_8 : Int32) (c_9 : x_8 = n1) (x_12 : Int32) : pv ≤ 32 := by
  first | assumption | omega | decide
theorem lf_X9_value_14 (t : Nat → Nat) (un : Nat) (k1 : Nat) (rf : Int32) (p1 : Nat) (fs : Nat → Int32) (fk : Nat → Int32) (fa3 : Nat → Int32) (fa4 : Nat → Int32) (fa5 : Nat → Int32) (fl : Nat → Int32) (b1 : Nat) (n1 : Int32) (n2 : Int32) (n3 : Int32) (hp : p1 ≤ 32) (hst : ∀ j, j < 200 → 0 ≤ fs j) (hun : un ≤ 200) (hk1 : k1 ≤ 14) (j : Nat) (y3_t2 : Nat → Int32) (rv : Int32) (pv : Nat) (k3 : Nat) (hj3 : j ≤ k1) (hk3 : k1 < j + (k3 + 1)) (hpv : pv ≤ 32) (c_1 : ¬ nI k1 ≤ nI j) (n_5 : j < k1) (x_8 : Int32) (c_9 : x_8 = n1) (x_12 : Int32) : ∀ j, j < 200 → 0 ≤ fs j := by
  first | assumption | omega | decide
theorem lf_X9_value_15 (t : Nat → Nat) (un : Nat) (k1 : Nat) (rf : Int32) (p1 : Nat) (fs : Nat → Int32) (fk : Nat → Int32) (fa3 : Nat → Int32) (fa4 : Nat → Int32) (fa5 : Nat → Int32) (fl : Nat → Int32) (b1 : Nat) (n1 : Int32) (n2 : Int32) (n3 : Int32) (hp : p1 ≤ 32) (hst : ∀ j, j < 200 → 0 ≤ fs j) (hun : un ≤ 200) (hk1 : k1 ≤ 14) (j : Nat) (y3_t2 : Nat → Int32) (rv : Int32) (pv : Nat) (k3 : Nat) (hj3 : j ≤ k1) (hk3 : k1 < j + (k3 + 1)) (hpv : pv ≤ 32) (c_1 : ¬ nI k1 ≤ nI j) (n_5 : j < k1) (x_8 : Int32) (c_9 : x_8 = n1) (x_12 : Int32) : un ≤ 200 := by
  first | assumption | omega | decide
theorem lf_X9_value_19 (t : Nat → Nat) (un : Nat) (k1 : Nat) (rf : Int32) (p1 : Nat) (fs : Nat → Int32) (fk : Nat → Int32) (fa3 : Nat → Int32) (fa4 : Nat → Int32) (fa5 : Nat → Int32) (fl : Nat → Int32) (b1 : Nat) (n1 : Int32) (n2 : Int32) (n3 : Int32) (hp : p1 ≤ 32) (hst : ∀ j, j < 200 → 0 ≤ fs j) (hun : un ≤ 200) (hk1 : k1 ≤ 14) (j : Nat) (y3_t2 : Nat → Int32) (rv : Int32) (pv : Nat) (k3 : Nat) (hj3 : j ≤ k1) (hk3 : k1 < j + (k3 + 1)) (hpv : pv ≤ 32) (c_1 : ¬ nI k1 ≤ nI j) (n_5 : j < k1) (x_8 : Int32) (c_9 : x_8 = n1) (x_12 : Int32) (pa_17 : Nat) (ra_17 : Int32) (fa_17 : Nat → Int32) (hz_17 : pa_17 ≤ 32) (r_16 : Int32) (c_18 : r_16 = 0) : pa_17 ≤ 32 := by
  first | assumption | omega
theorem lf_X9_value_20 (t : Nat → Nat) (un : Nat) (k1 : Nat) (rf : Int32) (p1 : Nat) (fs : Nat → Int32) (fk : Nat → Int32) (fa3 : Nat → Int32) (fa4 : Nat → Int32) (fa5 : Nat → Int32) (fl : Nat → Int32) (b1 : Nat) (n1 : Int32) (n2 : Int32) (n3 : Int32) (hp : p1 ≤ 32) (hst : ∀ j, j < 200 → 0 ≤ fs j) (hun : un ≤ 200) (hk1 : k1 ≤ 14) (j : Nat) (y3_t2 : Nat → Int32) (rv : Int32) (pv : Nat) (k3 : Nat) (hj3 : j ≤ k1) (hk3 : k1 < j + (k3 + 1)) (hpv : pv ≤ 32) (c_1 : ¬ nI k1 ≤ nI j) (n_5 : j < k1) (x_8 : Int32) (c_9 : x_8 = n1) (x_12 : Int32) (pa_17 : Nat) (ra_17 : Int32) (fa_17 : Nat → Int32) (hz_17 : pa_17 ≤ 32) (r_16 : Int32) (c_18 : ¬ r_16 = 0) : vp_in (nI j) 14 := by
  first | exact vp_in_nI (by omega) (by decide) | (unfold vp_in; decide)
theorem lf_X9_value_22 (t : Nat → Nat) (un : Nat) (k1 : Nat) (rf : Int32) (p1 : Nat) (fs : Nat → Int32) (fk : Nat → Int32) (fa3 : Nat → Int32) (fa4 : Nat → Int32) (fa5 : Nat → Int32) (fl : Nat → Int32) (b1 : Nat) (n1 : Int32) (n2 : Int32) (n3 : Int32) (hp : p1 ≤ 32) (hst : ∀ j, j < 200 → 0 ≤ fs j) (hun : un ≤ 200) (hk1 : k1 ≤ 14) (j : Nat) (y3_t2 : Nat → Int32) (rv : Int32) (pv : Nat) (k3 : Nat) (hj3 : j ≤ k1) (hk3 : k1 < j + (k3 + 1)) (hpv : pv ≤ 32) (c_1 : ¬ nI k1 ≤ nI j) (n_5 : j < k1) (x_8 : Int32) (c_9 : x_8 = n1) (x_12 : Int32) (pa_17 : Nat) (ra_17 : Int32) (fa_17 : Nat → Int32) (hz_17 : pa_17 ≤ 32) (r_16 : Int32) (c_18 : ¬ r_16 = 0) (x_21 : Int32) : pa_17 ≤ 32 := by
  first | assumption | omega | decide
theorem lf_X9_value_23 (t : Nat → Nat) (un : Nat) (k1 : Nat) (rf : Int32) (p1 : Nat) (fs : Nat → Int32) (fk : Nat → Int32) (fa3 : Nat → Int32) (fa4 : Nat → Int32) (fa5 : Nat → Int32) (fl : Nat → Int32) (b1 : Nat) (n1 : Int32) (n2 : Int32) (n3 : Int32) (hp : p1 ≤ 32) (hst : ∀ j, j < 200 → 0 ≤ fs j) (hun : un ≤ 200) (hk1 : k1 ≤ 14) (j : Nat) (y3_t2 : Nat → Int32) (rv : Int32) (pv : Nat) (k3 : Nat) (hj3 : j ≤ k1) (hk3 : k1 < j + (k3 + 1)) (hpv : pv ≤ 32) (c_1 : ¬ nI k1 ≤ nI j) (n_5 : j < k1) (x_8 : Int32) (c_9 : x_8 = n1) (x_12 : Int32) (pa_17 : Nat) (ra_17 : Int32) (fa_17 : Nat → Int32) (hz_17 : pa_17 ≤ 32) (r_16 : Int32) (c_18 : ¬ r_16 = 0) (x_21 : Int32) : ∀ j, j < 200 → 0 ≤ fs j := by
  first | assumption | omega | decide
theorem lf_X9_value_24 (t : Nat → Nat) (un : Nat) (k1 : Nat) (rf : Int32) (p1 : Nat) (fs : Nat → Int32) (fk : Nat → Int32) (fa3 : Nat → Int32) (fa4 : Nat → Int32) (fa5 : Nat → Int32) (fl : Nat → Int32) (b1 : Nat) (n1 : Int32) (n2 : Int32) (n3 : Int32) (hp : p1 ≤ 32) (hst : ∀ j, j < 200 → 0 ≤ fs j) (hun : un ≤ 200) (hk1 : k1 ≤ 14) (j : Nat) (y3_t2 : Nat → Int32) (rv : Int32) (pv : Nat) (k3 : Nat) (hj3 : j ≤ k1) (hk3 : k1 < j + (k3 + 1)) (hpv : pv ≤ 32) (c_1 : ¬ nI k1 ≤ nI j) (n_5 : j < k1) (x_8 : Int32) (c_9 : x_8 = n1) (x_12 : Int32) (pa_17 : Nat) (ra_17 : Int32) (fa_17 : Nat → Int32) (hz_17 : pa_17 ≤ 32) (r_16 : Int32) (c_18 : ¬ r_16 = 0) (x_21 : Int32) : un ≤ 200 := by
  first | assumption | omega | decide
theorem lf_X9_value_28 (t : Nat → Nat) (un : Nat) (k1 : Nat) (rf : Int32) (p1 : Nat) (fs : Nat → Int32) (fk : Nat → Int32) (fa3 : Nat → Int32) (fa4 : Nat → Int32) (fa5 : Nat → Int32) (fl : Nat → Int32) (b1 : Nat) (n1 : Int32) (n2 : Int32) (n3 : Int32) (hp : p1 ≤ 32) (hst : ∀ j, j < 200 → 0 ≤ fs j) (hun : un ≤ 200) (hk1 : k1 ≤ 14) (j : Nat) (y3_t2 : Nat → Int32) (rv : Int32) (pv : Nat) (k3 : Nat) (hj3 : j ≤ k1) (hk3 : k1 < j + (k3 + 1)) (hpv : pv ≤ 32) (c_1 : ¬ nI k1 ≤ nI j) (n_5 : j < k1) (x_8 : Int32) (c_9 : x_8 = n1) (x_12 : Int32) (pa_17 : Nat) (ra_17 : Int32) (fa_17 : Nat → Int32) (hz_17 : pa_17 ≤ 32) (r_16 : Int32) (c_18 : ¬ r_16 = 0) (x_21 : Int32) (pa_26 : Nat) (ra_26 : Int32) (fa_26 : Nat → Int32) (hz_26 : pa_26 ≤ 32) (r_25 : Int32) (r_27 : Int32) : pa_26 ≤ 32 := by
  omega
theorem lf_X9_value_29 (t : Nat → Nat) (un : Nat) (k1 : Nat) (rf : Int32) (p1 : Nat) (fs : Nat → Int32) (fk : Nat → Int32) (fa3 : Nat → Int32) (fa4 : Nat → Int32) (fa5 : Nat → Int32) (fl : Nat → Int32) (b1 : Nat) (n1 : Int32) (n2 : Int32) (n3 : Int32) (hp : p1 ≤ 32) (hst : ∀ j, j < 200 → 0 ≤ fs j) (hun : un ≤ 200) (hk1 : k1 ≤ 14) : p1 ≤ 32 := by
  first | assumption | omega
set_option maxHeartbeats 4000000 in
set_option maxRecDepth 100000 in
theorem c_X9_value (l : Launch) (D : va_G) (cI cB cZ cJ : ClassId) (tx : List (ClassId × FieldType)) (t : Nat → Nat) (un : Nat) (k1 : Nat) (rf : Int32) (p1 : Nat) (fs : Nat → Int32) (fk : Nat → Int32) (fa3 : Nat → Int32) (fa4 : Nat → Int32) (fa5 : Nat → Int32) (fl : Nat → Int32) (b1 : Nat) (n1 : Int32) (n2 : Int32) (n3 : Int32) (hp : p1 ≤ 32) (hst : ∀ j, j < 200 → 0 ≤ fs j) (hun : un ≤ 200) (hk1 : k1 ≤ 14) : WrI l D cI cB cZ cJ tx yX9_value cX9_value 6 (some .int) 3 0 0 [.ref (t 0), .int n1, .ref b1, .int n2, .int n3] [(t 0, .inr (9, [.ref (t 1), .ref (t 2), .ref (t 3), .ref (t 4), .ref (t 5), .int (nI un), .int (nI k1), .int (nI p1), .int rf])), (t 1, .inl (cI, 200, .inl fs)), (t 2, .inl (cI, 32, .inl fk)), (t 3, .inl (cI, 14, .inl fa3)), (t 4, .inl (cI, 14, .inl fa4)), (t 5, .inl (cI, 14, .inl fa5)), (b1, .inl (cI, 26, .inl fl))] (fun (_ : Int32) (v : Nat × Int32 × (Nat → Int32)) => v.1 ≤ 32) (fun v => [(t 0, .inr (9, [.ref (t 1), .ref (t 2), .ref (t 3), .ref (t 4), .ref (t 5), .int (nI un), .int (nI k1), .int (nI v.1), .int v.2.1])), (t 1, .inl (cI, 200, .inl fs)), (t 2, .inl (cI, 32, .inl v.2.2)), (t 3, .inl (cI, 14, .inl fa3)), (t 4, .inl (cI, 14, .inl fa4)), (t 5, .inl (cI, 14, .inl fa5)), (b1, .inl (cI, 26, .inl fl))]) := by
  refine wri_of2 (by decide) (Nat.le_of_ble_eq_true rfl) ?_
  intro p e s m below meth c A ls H locs hC hK hP hD hA hS hl
  obtain ⟨hx, hb, hr, hml, hown, hts, hlocks, hin⟩ := hC
  have hown : s.vm.findClass RX9 = some m.cls := hown
  have hl : lv_has ls 6 [(0, .ref (t 0)), (1, .int n1), (2, .ref b1), (3, .int n2), (4, .int n3)] := hl
  refine lv_iconst (v := 0) hx hb dX9_value_0 (by decide) ?_
  refine lv_istore (lv' := [(5, .int 0), (0, .ref (t 0)), (1, .int n1), (2, .ref b1), (3, .int n2), (4, .int n3)]) hx hb dX9_value_1 hl (by decide) rfl (fun ls hl => ?_)
  have lp3 : ∀ (k3 : Nat) (j : Nat) (y3_t2 : Nat → Int32) (rv : Int32) (pv : Nat) (H : Heap) (locs : List Loc) (ls : Array Slot), j ≤ k1 → k1 < j + k3 → (pv ≤ 32) → va_P D vwCl [(t 0, .inr (9, [.ref (t 1), .ref (t 2), .ref (t 3), .ref (t 4), .ref (t 5), .int (nI un), .int (nI k1), .int (nI pv), .int rv])), (t 1, .inl (cI, 200, .inl fs)), (t 2, .inl (cI, 32, .inl y3_t2)), (t 3, .inl (cI, 14, .inl fa3)), (t 4, .inl (cI, 14, .inl fa4)), (t 5, .inl (cI, 14, .inl fa5)), (b1, .inl (cI, 26, .inl fl))] H → va_D A [(t 0, .inr (9, [.ref (t 1), .ref (t 2), .ref (t 3), .ref (t 4), .ref (t 5), .int (nI un), .int (nI k1), .int (nI pv), .int rv])), (t 1, .inl (cI, 200, .inl fs)), (t 2, .inl (cI, 32, .inl y3_t2)), (t 3, .inl (cI, 14, .inl fa3)), (t 4, .inl (cI, 14, .inl fa4)), (t 5, .inl (cI, 14, .inl fa5)), (b1, .inl (cI, 26, .inl fl))] → va_S A s.heap H locs → lv_has ls 6 [(5, .int (nI j)), (0, .ref (t 0)), (1, .int n1), (2, .ref b1), (3, .int n2), (4, .int n3)] → W p l e (rmX 3 0 0) s m ([.ref (t 0), .int n1, .ref b1, .int n2, .int n3] : List Value).toArray below meth c H locs 0 0 (MQ below (va_Qi (fun (_ : Int32) (v : Nat × Int32 × (Nat → Int32)) => v.1 ≤ 32) (fun u => BX D A ((fun v => [(t 0, .inr (9, [.ref (t 1), .ref (t 2), .ref (t 3), .ref (t 4), .ref (t 5), .int (nI un), .int (nI k1), .int (nI v.1), .int v.2.1])), (t 1, .inl (cI, 200, .inl fs)), (t 2, .inl (cI, 32, .inl v.2.2)), (t 3, .inl (cI, 14, .inl fa3)), (t 4, .inl (cI, 14, .inl fa4)), (t 5, .inl (cI, 14, .inl fa5)), (b1, .inl (cI, 26, .inl fl))]) u)) A) ([.ref (t 0), .int n1, .ref b1, .int n2, .int n3] : List Value).toArray s 0 0 A) (F0 m 3 ls []) := by
    intro k3
    induction k3 with
    | zero =>
      intro j y3_t2 rv pv H locs ls hj3 hk3 hpv hP hD hS hl
      exact absurd hk3 (by omega)
    | succ k3 ih3 =>
      intro j y3_t2 rv pv H locs ls hj3 hk3 hpv hP hD hS hl
      refine lv_iload hx hb dX9_value_3 (lv_at hl 0 rfl) ?_
      refine lv_aload_n hx hb dX9_value_5 rfl (lv_at hl 1 rfl) ?_
      refine va_get (D := D) (ci := 9) (v := .int (nI k1)) (C := RX9) (T := TX9) (N := 9) hx hb hts inT_X9 hown hK.1 hP 0 rfl rfl 6 (by decide) (hts _ k_200) (fun _ h9 => h9) rfl dX9_value_6 ?_
      refine lv_icmp_ge (tgt := 63) hx hb dX9_value_9 (by decide) (fun c_1 => ?_) (fun c_1 => ?_)
      · have n_2 : k1 ≤ j := (lf_X9_value_3 t un k1 rf p1 fs fk fa3 fa4 fa5 fl b1 n1 n2 n3 hp hst hun hk1 j y3_t2 rv pv k3 hj3 hk3 hpv c_1)
        refine lv_iconst (v := 0) hx hb dX9_value_63 (by decide) ?_
        have hP := hP.sub (ws' := [(t 0, .inr (9, [.ref (t 1), .ref (t 2), .ref (t 3), .ref (t 4), .ref (t 5), .int (nI un), .int (nI k1), .int (nI pv), .int rv])), (t 1, .inl (cI, 200, .inl fs)), (t 2, .inl (cI, 32, .inl y3_t2)), (t 3, .inl (cI, 14, .inl fa3)), (t 4, .inl (cI, 14, .inl fa4)), (t 5, .inl (cI, 14, .inl fa5)), (b1, .inl (cI, 26, .inl fl))]) [0, 1, 2, 3, 4, 5, 6] rfl
        have hD := hD.sub (ws' := [(t 0, .inr (9, [.ref (t 1), .ref (t 2), .ref (t 3), .ref (t 4), .ref (t 5), .int (nI un), .int (nI k1), .int (nI pv), .int rv])), (t 1, .inl (cI, 200, .inl fs)), (t 2, .inl (cI, 32, .inl y3_t2)), (t 3, .inl (cI, 14, .inl fa3)), (t 4, .inl (cI, 14, .inl fa4)), (t 5, .inl (cI, 14, .inl fa5)), (b1, .inl (cI, 26, .inl fl))]) [0, 1, 2, 3, 4, 5, 6] (by decide) rfl
        exact W.iret (v := 0) hx hb hr (fun tt9 ht hW => ⟨⟨(0 : Int32), (pv, (rv : Int32), y3_t2), rfl, (lf_X9_value_4 t un k1 rf p1 fs fk fa3 fa4 fa5 fl b1 n1 n2 n3 hp hst hun hk1 j y3_t2 rv pv k3 hj3 hk3 hpv c_1 n_2), ⟨by rw [ht]; exact hP, hD⟩⟩, hS.F ht⟩) hS.2.2 dX9_value_64 hlocks
      · have n_5 : j < k1 := (lf_X9_value_6 t un k1 rf p1 fs fk fa3 fa4 fa5 fl b1 n1 n2 n3 hp hst hun hk1 j y3_t2 rv pv k3 hj3 hk3 hpv c_1)
        refine lv_aload_n hx hb dX9_value_12 rfl (lv_at hl 1 rfl) ?_
        refine va_get (D := D) (ci := 9) (v := .ref (t 3)) (C := RX9) (T := TX9) (N := 9) hx hb hts inT_X9 hown hK.1 hP 0 rfl rfl 2 (by decide) (hts _ k_196) (fun _ h9 => h9) rfl dX9_value_13 ?_
        refine lv_iload hx hb dX9_value_16 (lv_at hl 0 rfl) ?_
        refine ld_i hx hb hK hP 3 rfl (lf_X9_value_7 t un k1 rf p1 fs fk fa3 fa4 fa5 fl b1 n1 n2 n3 hp hst hun hk1 j y3_t2 rv pv k3 hj3 hk3 hpv c_1 n_5) dX9_value_18 (fun x_8 => ?_)
        refine lv_iload_n hx hb dX9_value_19 rfl (lv_at hl 2 rfl) ?_
        refine lv_icmp_ne (tgt := 57) hx hb dX9_value_20 (by decide) (fun c_9 => ?_) (fun c_9 => ?_)
        · refine lv_iinc (v := nI (j + 1)) (lv' := [(5, .int (nI (j + 1))), (0, .ref (t 0)), (1, .int n1), (2, .ref b1), (3, .int n2), (4, .int n3)]) hx hb dX9_value_57 hl (k := 0) rfl (nI_1 j) (by decide) rfl (fun ls hl => ?_)
          refine lv_goto (tgt := 3) hx hb dX9_value_60 (by decide) ?_
          exact ih3 (j + 1) y3_t2 rv pv H locs ls (by omega) (by omega) (lf_X9_value_10 t un k1 rf p1 fs fk fa3 fa4 fa5 fl b1 n1 n2 n3 hp hst hun hk1 j y3_t2 rv pv k3 hj3 hk3 hpv c_1 n_5 x_8 c_9) (hP.sub [0, 1, 2, 3, 4, 5, 6] rfl) (hD.sub [0, 1, 2, 3, 4, 5, 6] (by decide) rfl) hS (lv_sub hl [0, 1, 2, 3, 4, 5] rfl)
        · refine lv_aload_n hx hb dX9_value_23 rfl (lv_at hl 1 rfl) ?_
          refine lv_aload_n hx hb dX9_value_24 rfl (lv_at hl 1 rfl) ?_
          refine va_get (D := D) (ci := 9) (v := .ref (t 5)) (C := RX9) (T := TX9) (N := 9) hx hb hts inT_X9 hown hK.1 hP 0 rfl rfl 4 (by decide) (hts _ k_198) (fun _ h9 => h9) rfl dX9_value_25 ?_
          refine lv_iload hx hb dX9_value_28 (lv_at hl 0 rfl) ?_
          refine ld_i hx hb hK hP 5 rfl (lf_X9_value_11 t un k1 rf p1 fs fk fa3 fa4 fa5 fl b1 n1 n2 n3 hp hst hun hk1 j y3_t2 rv pv k3 hj3 hk3 hpv c_1 n_5 x_8 c_9) dX9_value_30 (fun x_12 => ?_)
          refine lv_aload_n hx hb dX9_value_31 rfl (lv_at hl 3 rfl) ?_
          refine eWi (wr := [(t 3, .inl (cI, 14, .inl fa3)), (t 4, .inl (cI, 14, .inl fa4)), (t 5, .inl (cI, 14, .inl fa5))]) (va_runV (As := [.int x_12, .ref b1]) (rest := []) ⟨hx, hb, hml, hown, hts⟩ (c_X9_run l D cI cB cZ cJ tx t un (nI k1) rv pv fs y3_t2 fl b1 x_12 (lf_X9_value_13 t un k1 rf p1 fs fk fa3 fa4 fa5 fl b1 n1 n2 n3 hp hst hun hk1 j y3_t2 rv pv k3 hj3 hk3 hpv c_1 n_5 x_8 c_9 x_12) (lf_X9_value_14 t un k1 rf p1 fs fk fa3 fa4 fa5 fl b1 n1 n2 n3 hp hst hun hk1 j y3_t2 rv pv k3 hj3 hk3 hpv c_1 n_5 x_8 c_9 x_12) (lf_X9_value_15 t un k1 rf p1 fs fk fa3 fa4 fa5 fl b1 n1 n2 n3 hp hst hun hk1 j y3_t2 rv pv k3 hj3 hk3 hpv c_1 n_5 x_8 c_9 x_12) H.size) (zV hts k_787 v_X9_run ⟨Nat.le_of_ble_eq_true rfl, Nat.le_of_ble_eq_true rfl⟩) (pV (pxS hK hP hD [0, 1, 2, 6] (by decide) rfl) hK hP 0 rfl rfl) rfl rfl hl.1 rfl (lv_room (Nat.le_of_ble_eq_true rfl)) dX9_value_32 ⟨Nat.le_of_ble_eq_true rfl, Nat.le_of_ble_eq_true rfl⟩) hP hD hS hA [0, 1, 2, 6] [3, 4, 5] rfl rfl (by decide) (by decide) (fun r_16 u_17 H locs wr_16 hP hD hS => ?_)
          obtain ⟨pa_17, ra_17, fa_17⟩ := u_17
          have hz_17 : pa_17 ≤ 32 := wr_16
          have hP : va_P D vwCl [(t 3, .inl (cI, 14, .inl fa3)), (t 4, .inl (cI, 14, .inl fa4)), (t 5, .inl (cI, 14, .inl fa5)), (t 0, .inr (9, [.ref (t 1), .ref (t 2), .ref (t 3), .ref (t 4), .ref (t 5), .int (nI un), .int (nI k1), .int (nI pa_17), .int ra_17])), (t 1, .inl (cI, 200, .inl fs)), (t 2, .inl (cI, 32, .inl fa_17)), (b1, .inl (cI, 26, .inl fl))] H := hP
          have hD : va_D A [(t 3, .inl (cI, 14, .inl fa3)), (t 4, .inl (cI, 14, .inl fa4)), (t 5, .inl (cI, 14, .inl fa5)), (t 0, .inr (9, [.ref (t 1), .ref (t 2), .ref (t 3), .ref (t 4), .ref (t 5), .int (nI un), .int (nI k1), .int (nI pa_17), .int ra_17])), (t 1, .inl (cI, 200, .inl fs)), (t 2, .inl (cI, 32, .inl fa_17)), (b1, .inl (cI, 26, .inl fl))] := hD
          refine lv_if_eq (tgt := 57) hx hb dX9_value_35 (by decide) (fun c_18 => ?_) (fun c_18 => ?_)
          · refine lv_iinc (v := nI (j + 1)) (lv' := [(5, .int (nI (j + 1))), (0, .ref (t 0)), (1, .int n1), (2, .ref b1), (3, .int n2), (4, .int n3)]) hx hb dX9_value_57 hl (k := 0) rfl (nI_1 j) (by decide) rfl (fun ls hl => ?_)
            refine lv_goto (tgt := 3) hx hb dX9_value_60 (by decide) ?_
            exact ih3 (j + 1) fa_17 ra_17 pa_17 H locs ls (by omega) (by omega) (lf_X9_value_19 t un k1 rf p1 fs fk fa3 fa4 fa5 fl b1 n1 n2 n3 hp hst hun hk1 j y3_t2 rv pv k3 hj3 hk3 hpv c_1 n_5 x_8 c_9 x_12 pa_17 ra_17 fa_17 hz_17 r_16 c_18) (hP.sub [3, 4, 5, 0, 1, 2, 6] rfl) (hD.sub [3, 4, 5, 0, 1, 2, 6] (by decide) rfl) hS (lv_sub hl [0, 1, 2, 3, 4, 5] rfl)
          · refine lv_aload_n hx hb dX9_value_38 rfl (lv_at hl 1 rfl) ?_
            refine lv_aload_n hx hb dX9_value_39 rfl (lv_at hl 1 rfl) ?_
            refine va_get (D := D) (ci := 9) (v := .ref (t 4)) (C := RX9) (T := TX9) (N := 9) hx hb hts inT_X9 hown hK.1 hP 3 rfl rfl 3 (by decide) (hts _ k_197) (fun _ h9 => h9) rfl dX9_value_40 ?_
            refine lv_iload hx hb dX9_value_43 (lv_at hl 0 rfl) ?_
            refine ld_i hx hb hK hP 1 rfl (lf_X9_value_20 t un k1 rf p1 fs fk fa3 fa4 fa5 fl b1 n1 n2 n3 hp hst hun hk1 j y3_t2 rv pv k3 hj3 hk3 hpv c_1 n_5 x_8 c_9 x_12 pa_17 ra_17 fa_17 hz_17 r_16 c_18) dX9_value_45 (fun x_21 => ?_)
            refine lv_aload_n hx hb dX9_value_46 rfl (lv_at hl 3 rfl) ?_
            refine eWi (wr := [(t 3, .inl (cI, 14, .inl fa3)), (t 4, .inl (cI, 14, .inl fa4)), (t 5, .inl (cI, 14, .inl fa5))]) (va_runV (As := [.int x_21, .ref b1]) (rest := []) ⟨hx, hb, hml, hown, hts⟩ (c_X9_run l D cI cB cZ cJ tx t un (nI k1) ra_17 pa_17 fs fa_17 fl b1 x_21 (lf_X9_value_22 t un k1 rf p1 fs fk fa3 fa4 fa5 fl b1 n1 n2 n3 hp hst hun hk1 j y3_t2 rv pv k3 hj3 hk3 hpv c_1 n_5 x_8 c_9 x_12 pa_17 ra_17 fa_17 hz_17 r_16 c_18 x_21) (lf_X9_value_23 t un k1 rf p1 fs fk fa3 fa4 fa5 fl b1 n1 n2 n3 hp hst hun hk1 j y3_t2 rv pv k3 hj3 hk3 hpv c_1 n_5 x_8 c_9 x_12 pa_17 ra_17 fa_17 hz_17 r_16 c_18 x_21) (lf_X9_value_24 t un k1 rf p1 fs fk fa3 fa4 fa5 fl b1 n1 n2 n3 hp hst hun hk1 j y3_t2 rv pv k3 hj3 hk3 hpv c_1 n_5 x_8 c_9 x_12 pa_17 ra_17 fa_17 hz_17 r_16 c_18 x_21) H.size) (zV hts k_787 v_X9_run ⟨Nat.le_of_ble_eq_true rfl, Nat.le_of_ble_eq_true rfl⟩) (pV (pxS hK hP hD [3, 4, 5, 6] (by decide) rfl) hK hP 3 rfl rfl) rfl rfl hl.1 rfl (lv_room (Nat.le_of_ble_eq_true rfl)) dX9_value_47 ⟨Nat.le_of_ble_eq_true rfl, Nat.le_of_ble_eq_true rfl⟩) hP hD hS hA [3, 4, 5, 6] [0, 1, 2] rfl rfl (by decide) (by decide) (fun r_25 u_26 H locs wr_25 hP hD hS => ?_)
            obtain ⟨pa_26, ra_26, fa_26⟩ := u_26
            have hz_26 : pa_26 ≤ 32 := wr_25
            have hP : va_P D vwCl [(t 3, .inl (cI, 14, .inl fa3)), (t 4, .inl (cI, 14, .inl fa4)), (t 5, .inl (cI, 14, .inl fa5)), (t 0, .inr (9, [.ref (t 1), .ref (t 2), .ref (t 3), .ref (t 4), .ref (t 5), .int (nI un), .int (nI k1), .int (nI pa_26), .int ra_26])), (t 1, .inl (cI, 200, .inl fs)), (t 2, .inl (cI, 32, .inl fa_26)), (b1, .inl (cI, 26, .inl fl))] H := hP
            have hD : va_D A [(t 3, .inl (cI, 14, .inl fa3)), (t 4, .inl (cI, 14, .inl fa4)), (t 5, .inl (cI, 14, .inl fa5)), (t 0, .inr (9, [.ref (t 1), .ref (t 2), .ref (t 3), .ref (t 4), .ref (t 5), .int (nI un), .int (nI k1), .int (nI pa_26), .int ra_26])), (t 1, .inl (cI, 200, .inl fs)), (t 2, .inl (cI, 32, .inl fa_26)), (b1, .inl (cI, 26, .inl fl))] := hD
            refine lv_iload_n hx hb dX9_value_50 rfl (lv_at hl 4 rfl) ?_
            refine lv_iload hx hb dX9_value_51 (lv_at hl 5 rfl) ?_
            refine eRi (va_runSN (As := [.int r_25, .int n2, .int n3]) (rest := []) ⟨hx, hb, hml, hown, hts⟩ (c_X11_held l D cI cB cZ cJ tx r_25 n2 n3 H.size) (zSN hts hK n_807 v_X11_held ⟨Nat.le_of_ble_eq_true rfl, Nat.le_of_ble_eq_true rfl⟩) (px0 hK) rfl rfl hl.1 rfl (lv_room (Nat.le_of_ble_eq_true rfl)) dX9_value_53 ⟨Nat.le_of_ble_eq_true rfl, Nat.le_of_ble_eq_true rfl⟩) hP hS hA (fun r_27 H locs wr_27 hP hS => ?_)
            have hP := hP.sub (ws' := [(t 0, .inr (9, [.ref (t 1), .ref (t 2), .ref (t 3), .ref (t 4), .ref (t 5), .int (nI un), .int (nI k1), .int (nI pa_26), .int ra_26])), (t 1, .inl (cI, 200, .inl fs)), (t 2, .inl (cI, 32, .inl fa_26)), (t 3, .inl (cI, 14, .inl fa3)), (t 4, .inl (cI, 14, .inl fa4)), (t 5, .inl (cI, 14, .inl fa5)), (b1, .inl (cI, 26, .inl fl))]) [3, 4, 5, 0, 1, 2, 6] rfl
            have hD := hD.sub (ws' := [(t 0, .inr (9, [.ref (t 1), .ref (t 2), .ref (t 3), .ref (t 4), .ref (t 5), .int (nI un), .int (nI k1), .int (nI pa_26), .int ra_26])), (t 1, .inl (cI, 200, .inl fs)), (t 2, .inl (cI, 32, .inl fa_26)), (t 3, .inl (cI, 14, .inl fa3)), (t 4, .inl (cI, 14, .inl fa4)), (t 5, .inl (cI, 14, .inl fa5)), (b1, .inl (cI, 26, .inl fl))]) [3, 4, 5, 0, 1, 2, 6] (by decide) rfl
            exact W.iret (v := r_27) hx hb hr (fun tt9 ht hW => ⟨⟨(r_27 : Int32), (pa_26, (ra_26 : Int32), fa_26), rfl, (lf_X9_value_28 t un k1 rf p1 fs fk fa3 fa4 fa5 fl b1 n1 n2 n3 hp hst hun hk1 j y3_t2 rv pv k3 hj3 hk3 hpv c_1 n_5 x_8 c_9 x_12 pa_17 ra_17 fa_17 hz_17 r_16 c_18 x_21 pa_26 ra_26 fa_26 hz_26 r_25 r_27), ⟨by rw [ht]; exact hP, hD⟩⟩, hS.F ht⟩) hS.2.2 dX9_value_56 hlocks
  exact lp3 (k1 + 1) 0 fk rf p1 H locs ls (by omega) (by omega) (lf_X9_value_29 t un k1 rf p1 fs fk fa3 fa4 fa5 fl b1 n1 n2 n3 hp hst hun hk1) (hP.sub [0, 1, 2, 3, 4, 5, 6] rfl) (hD.sub [0, 1, 2, 3, 4, 5, 6] (by decide) rfl) hS (lv_sub hl [0, 1, 2, 3, 4, 5] rfl)
