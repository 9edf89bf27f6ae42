theorem in_nI {f n : Nat} (h : f < n) (hn : n < 2 ^ 31) : (0 : Int32) ≤ nI f ∧ nI f ≤ nI n - 1 := by
  refine ⟨nI_pos' (by omega), ?_⟩
  rw [show (1 : Int32) = nI 1 from rfl, pk_sub (by omega)]
  exact nI_le (by omega) (by omega)
theorem in_nI1 {d : Nat} (h : d < 2) : (0 : Int32) ≤ nI d ∧ nI d ≤ 1 := ⟨nI_pos' (by omega), nI_le (b := 1) (by omega) (by omega)⟩
theorem of_rng {x lo hi : Int32} (L U : Nat) (hl : lo.toInt = L) (hu : hi.toInt = U) (h : lo ≤ x ∧ x ≤ hi) : ∃ j : Nat, L ≤ j ∧ j ≤ U ∧ x = nI j := by
  have h1 := Int32.le_iff_toInt_le.mp h.1
  have h2 := Int32.le_iff_toInt_le.mp h.2
  obtain ⟨j, hj, e⟩ := nI_of (x := x) (fun q => by
    have h3 := Int32.lt_iff_toInt_lt.mp q
    have h4 : (0 : Int32).toInt = 0 := by decide
    omega)
  subst e
  rw [nI_toInt hj] at h1 h2
  exact ⟨j, by omega, by omega, rfl⟩
def sp_build (n k : Int32) : Int32 := if (3 ≤ n ∧ n ≤ 24) ∧ 1 ≤ k ∧ k ≤ 8 then n * k * 2 else -1
def sp_body (w h k : Int32) : Int32 := if (1 ≤ w ∧ w ≤ 12) ∧ (1 ≤ h ∧ h ≤ 6) ∧ 0 ≤ k ∧ k ≤ 4 then (if k ≤ 2 then 0 else (13 - w) * (7 - h)) else -1
def wg (mo ra pl bc br n1 n2 : Int32) (u : Int32 × Int32 × Int32 × Int32 × Int32) : Prop := (mo < 0 → u = (n1, n2, 0, 1, pl + 1)) ∧ (mo = 0 → u = (bc, br, 0, ra + 1, pl + 1))
theorem T_eq {w h : Nat} (hw : w ≤ 12) (hh : h ≤ 6) : nI ((7 - h) * (13 - w)) = (13 - nI w) * (7 - nI h) := by
  rw [show (13 : Int32) = nI 13 from rfl, show (7 : Int32) = nI 7 from rfl, pk_sub (by omega), pk_sub (by omega), pk_mul, Nat.mul_comm]
theorem T_eq2 {w h : Nat} (hw : w ≤ 12) (hh : h ≤ 6) : (13 - nI w) * (7 - nI h) = (12 - nI w + 1) * (6 - nI h + 1) := by
  rw [show (13 : Int32) = nI 13 from rfl, show (7 : Int32) = nI 7 from rfl, show (12 : Int32) = nI 12 from rfl, show (6 : Int32) = nI 6 from rfl, pk_sub (by omega), pk_sub (by omega), pk_sub (by omega), pk_sub (by omega), nI_1, nI_1, pk_mul, pk_mul]
  congr 2
  · omega
  · omega
theorem lf_X4_rivetAt_g_4 (a : Nat → Nat) (n : Nat) (kk : Nat) (cu : Int32) (ch : Int32) (f1 : Nat) (s1 : Nat) (d1 : Nat) (hn : n ≤ 24) (hkk : kk ≤ 8) (hf : f1 < n) (hs : s1 < kk) (hd : d1 < 2) (x_1 : Int32) (ex_1 : x_1 = nI n - 1) (c_3 : ¬ ((0 : Int32) ≤ nI f1 ∧ nI f1 ≤ x_1)) : False := by
  subst_vars; exact absurd (in_nI hf (by omega)) (by assumption)
theorem lf_X4_rivetAt_g_8 (a : Nat → Nat) (n : Nat) (kk : Nat) (cu : Int32) (ch : Int32) (f1 : Nat) (s1 : Nat) (d1 : Nat) (hn : n ≤ 24) (hkk : kk ≤ 8) (hf : f1 < n) (hs : s1 < kk) (hd : d1 < 2) (x_1 : Int32) (ex_1 : x_1 = nI n - 1) (c_3 : (0 : Int32) ≤ nI f1 ∧ nI f1 ≤ x_1) (x_5 : Int32) (ex_5 : x_5 = nI kk - 1) (c_7 : ¬ ((0 : Int32) ≤ nI s1 ∧ nI s1 ≤ x_5)) : False := by
  subst_vars; exact absurd (in_nI hs (by omega)) (by assumption)
theorem lf_X4_rivetAt_g_11 (a : Nat → Nat) (n : Nat) (kk : Nat) (cu : Int32) (ch : Int32) (f1 : Nat) (s1 : Nat) (d1 : Nat) (hn : n ≤ 24) (hkk : kk ≤ 8) (hf : f1 < n) (hs : s1 < kk) (hd : d1 < 2) (x_1 : Int32) (ex_1 : x_1 = nI n - 1) (c_3 : (0 : Int32) ≤ nI f1 ∧ nI f1 ≤ x_1) (x_5 : Int32) (ex_5 : x_5 = nI kk - 1) (c_7 : (0 : Int32) ≤ nI s1 ∧ nI s1 ≤ x_5) (c_10 : ¬ ((0 : Int32) ≤ nI d1 ∧ nI d1 ≤ 1)) : False := by
  subst_vars; exact absurd (in_nI1 hd) (by assumption)
theorem lf_X4_rivetAt_g_16 (a : Nat → Nat) (n : Nat) (kk : Nat) (cu : Int32) (ch : Int32) (f1 : Nat) (s1 : Nat) (d1 : Nat) (hn : n ≤ 24) (hkk : kk ≤ 8) (hf : f1 < n) (hs : s1 < kk) (hd : d1 < 2) (x_1 : Int32) (ex_1 : x_1 = nI n - 1) (c_3 : (0 : Int32) ≤ nI f1 ∧ nI f1 ≤ x_1) (x_5 : Int32) (ex_5 : x_5 = nI kk - 1) (c_7 : (0 : Int32) ≤ nI s1 ∧ nI s1 ≤ x_5) (c_10 : (0 : Int32) ≤ nI d1 ∧ nI d1 ≤ 1) (x_12 : Int32) (ex_12 : x_12 = nI f1 * 8) (x_13 : Int32) (ex_13 : x_13 = x_12 + nI s1) (x_14 : Int32) (ex_14 : x_14 = x_13 * 2) (x_15 : Int32) (ex_15 : x_15 = x_14 + nI d1) : (x_15 : Int32) = nI ((f1 * 8 + s1) * 2 + d1) := by
  subst_vars; rw [show (8 : Int32) = nI 8 from rfl, show (2 : Int32) = nI 2 from rfl, pk_mul, nI_add, pk_mul, nI_add]
set_option maxHeartbeats 4000000 in
set_option maxRecDepth 100000 in
theorem c_X4_rivetAt_g (l : Launch) (D : va_G) (cI cB cZ cJ : ClassId) (tx : List (ClassId × FieldType)) (a : Nat → Nat) (n : Nat) (kk : Nat) (cu : Int32) (ch : Int32) (f1 : Nat) (s1 : Nat) (d1 : Nat) (hn : n ≤ 24) (hkk : kk ≤ 8) (hf : f1 < n) (hs : s1 < kk) (hd : d1 < 2) : RdI l D cI cB cZ cJ tx yX4_rivetAt cX4_rivetAt 4 (some .int) 1 [.ref (a 5), .int (nI f1), .int (nI s1), .int (nI d1)] [(a 5, .inr (4, [.ref (a 18), .ref (a 19), .ref (a 20), .ref (a 21), .ref (a 22), .ref (a 23), .ref (a 24), .int (nI n), .int (nI kk), .int cu, .int ch]))] (fun r => r = nI ((f1 * 8 + s1) * 2 + d1)) := by
  refine rdi_of2 (by decide) (Nat.le_of_ble_eq_true rfl) ?_
  intro p e s m below meth c A ls H locs hC hK hP hA hS hl
  obtain ⟨hx, hb, hr, hml, hown, hts, hlocks, hin⟩ := hC
  have hown : s.vm.findClass RX4 = some m.cls := hown
  have hl : lv_has ls 4 [(0, .ref (a 5)), (1, .int (nI f1)), (2, .int (nI s1)), (3, .int (nI d1))] := hl
  refine lv_iload_n hx hb dX4_rivetAt_0 rfl (lv_at hl 1 rfl) ?_
  refine lv_iconst (v := 0) hx hb dX4_rivetAt_1 (by decide) ?_
  refine lv_aload_n hx hb dX4_rivetAt_2 rfl (lv_at hl 0 rfl) ?_
  refine va_get (D := D) (ci := 4) (v := .int (nI n)) (C := RX4) (T := TX4) (N := 11) hx hb hts inT_X4 hown hK.1 hP 0 rfl rfl 7 (by decide) (hts _ k_248) (fun _ h9 => h9) rfl dX4_rivetAt_3 ?_
  refine lv_iconst (v := 1) hx hb dX4_rivetAt_6 (by decide) ?_
  refine lv_isub hx hb dX4_rivetAt_7 ?_
  refine lv_topi (fun x_1 ex_1 => ?_)
  refine eRi (va_runSN (As := [.int (nI f1), .int 0, .int x_1]) (rest := []) ⟨hx, hb, hml, hown, hts⟩ (c_X11_within l D cI cB cZ cJ tx (nI f1) 0 x_1 H.size) (zSN hts hK n_777 v_X11_within ⟨Nat.le_of_ble_eq_true rfl, Nat.le_of_ble_eq_true rfl⟩) (px0 hK) rfl rfl hl.1 rfl (lv_room (Nat.le_of_ble_eq_true rfl)) dX4_rivetAt_8 ⟨Nat.le_of_ble_eq_true rfl, Nat.le_of_ble_eq_true rfl⟩) hP hS hA (fun r_2 H locs wr_2 hP hS => ?_)
  subst wr_2
  refine lv_bi_eq (tgt := 37) hx hb dX4_rivetAt_11 (by decide) (fun c_3 => absurd (lf_X4_rivetAt_g_4 a n kk cu ch f1 s1 d1 hn hkk hf hs hd x_1 ex_1 c_3) id) (fun c_3 => ?_)
  refine lv_iload_n hx hb dX4_rivetAt_14 rfl (lv_at hl 2 rfl) ?_
  refine lv_iconst (v := 0) hx hb dX4_rivetAt_15 (by decide) ?_
  refine lv_aload_n hx hb dX4_rivetAt_16 rfl (lv_at hl 0 rfl) ?_
  refine va_get (D := D) (ci := 4) (v := .int (nI kk)) (C := RX4) (T := TX4) (N := 11) hx hb hts inT_X4 hown hK.1 hP 0 rfl rfl 8 (by decide) (hts _ k_257) (fun _ h9 => h9) rfl dX4_rivetAt_17 ?_
  refine lv_iconst (v := 1) hx hb dX4_rivetAt_20 (by decide) ?_
  refine lv_isub hx hb dX4_rivetAt_21 ?_
  refine lv_topi (fun x_5 ex_5 => ?_)
  refine eRi (va_runSN (As := [.int (nI s1), .int 0, .int x_5]) (rest := []) ⟨hx, hb, hml, hown, hts⟩ (c_X11_within l D cI cB cZ cJ tx (nI s1) 0 x_5 H.size) (zSN hts hK n_777 v_X11_within ⟨Nat.le_of_ble_eq_true rfl, Nat.le_of_ble_eq_true rfl⟩) (px0 hK) rfl rfl hl.1 rfl (lv_room (Nat.le_of_ble_eq_true rfl)) dX4_rivetAt_22 ⟨Nat.le_of_ble_eq_true rfl, Nat.le_of_ble_eq_true rfl⟩) hP hS hA (fun r_6 H locs wr_6 hP hS => ?_)
  subst wr_6
  refine lv_bi_eq (tgt := 37) hx hb dX4_rivetAt_25 (by decide) (fun c_7 => absurd (lf_X4_rivetAt_g_8 a n kk cu ch f1 s1 d1 hn hkk hf hs hd x_1 ex_1 c_3 x_5 ex_5 c_7) id) (fun c_7 => ?_)
  refine lv_iload_n hx hb dX4_rivetAt_28 rfl (lv_at hl 3 rfl) ?_
  refine lv_iconst (v := 0) hx hb dX4_rivetAt_29 (by decide) ?_
  refine lv_iconst (v := 1) hx hb dX4_rivetAt_30 (by decide) ?_
  refine eRi (va_runSN (As := [.int (nI d1), .int 0, .int 1]) (rest := []) ⟨hx, hb, hml, hown, hts⟩ (c_X11_within l D cI cB cZ cJ tx (nI d1) 0 1 H.size) (zSN hts hK n_777 v_X11_within ⟨Nat.le_of_ble_eq_true rfl, Nat.le_of_ble_eq_true rfl⟩) (px0 hK) rfl rfl hl.1 rfl (lv_room (Nat.le_of_ble_eq_true rfl)) dX4_rivetAt_31 ⟨Nat.le_of_ble_eq_true rfl, Nat.le_of_ble_eq_true rfl⟩) hP hS hA (fun r_9 H locs wr_9 hP hS => ?_)
  subst wr_9
  refine lv_bi_ne (tgt := 39) hx hb dX4_rivetAt_34 (by decide) (fun c_10 => ?_) (fun c_10 => absurd (lf_X4_rivetAt_g_11 a n kk cu ch f1 s1 d1 hn hkk hf hs hd x_1 ex_1 c_3 x_5 ex_5 c_7 c_10) id)
  refine lv_iload_n hx hb dX4_rivetAt_39 rfl (lv_at hl 1 rfl) ?_
  refine lv_bipush (v := 8) hx hb dX4_rivetAt_40 (by decide) ?_
  refine lv_imul hx hb dX4_rivetAt_42 ?_
  refine lv_topi (fun x_12 ex_12 => ?_)
  refine lv_iload_n hx hb dX4_rivetAt_43 rfl (lv_at hl 2 rfl) ?_
  refine lv_iadd hx hb dX4_rivetAt_44 ?_
  refine lv_topi (fun x_13 ex_13 => ?_)
  refine lv_iconst (v := 2) hx hb dX4_rivetAt_45 (by decide) ?_
  refine lv_imul hx hb dX4_rivetAt_46 ?_
  refine lv_topi (fun x_14 ex_14 => ?_)
  refine lv_iload_n hx hb dX4_rivetAt_47 rfl (lv_at hl 3 rfl) ?_
  refine lv_iadd hx hb dX4_rivetAt_48 ?_
  refine lv_topi (fun x_15 ex_15 => ?_)
  exact W.iret (v := x_15) hx hb hr (fun t ht hW => ⟨⟨(x_15 : Int32), (), rfl, (lf_X4_rivetAt_g_16 a n kk cu ch f1 s1 d1 hn hkk hf hs hd x_1 ex_1 c_3 x_5 ex_5 c_7 c_10 x_12 ex_12 x_13 ex_13 x_14 ex_14 x_15 ex_15), trivial⟩, hS.F ht⟩) hS.2.2 dX4_rivetAt_49 hlocks

set_option maxHeartbeats 4000000 in
set_option maxRecDepth 100000 in
theorem c_X4_standAt (l : Launch) (D : va_G) (cI cB cZ cJ : ClassId) (tx : List (ClassId × FieldType)) (a : Nat → Nat) (st : Int32) (sk : Int32) (cu : Int32) (ch : Int32) (f : Nat → Int32) (n1 : Int32) (n2 : Int32) (n3 : Int32) : WrV l D cI cB cZ cJ tx yX4_standAt cX4_standAt 4 none 1 0 0 [.ref (a 5), .int n1, .int n2, .int n3] [(a 5, .inr (4, [.ref (a 18), .ref (a 19), .ref (a 20), .ref (a 21), .ref (a 22), .ref (a 23), .ref (a 24), .int st, .int sk, .int cu, .int ch])), (a 24, .inl (cI, 26, .inl f))] (fun (_ : Nat → Int32) => True) (fun g => [(a 5, .inr (4, [.ref (a 18), .ref (a 19), .ref (a 20), .ref (a 21), .ref (a 22), .ref (a 23), .ref (a 24), .int st, .int sk, .int cu, .int ch])), (a 24, .inl (cI, 26, .inl g))]) := by
  refine wrv_of2 (by decide) (Nat.le_of_ble_eq_true rfl) ?_
  intro p e s m below meth c A ls H locs hC hK hP hD hA hS hl
  obtain ⟨hx, hb, hr, hml, hown, hts, hlocks, hin⟩ := hC
  have hown : s.vm.findClass RX4 = some m.cls := hown
  have hl : lv_has ls 4 [(0, .ref (a 5)), (1, .int n1), (2, .int n2), (3, .int n3)] := hl
  refine lv_aload_n hx hb dX4_standAt_0 rfl (lv_at hl 0 rfl) ?_
  refine va_get (D := D) (ci := 4) (v := .ref (a 24)) (C := RX4) (T := TX4) (N := 11) hx hb hts inT_X4 hown hK.1 hP 0 rfl rfl 6 (by decide) (hts _ k_247) (fun _ h9 => h9) rfl dX4_standAt_1 ?_
  refine lv_iconst (v := 5) hx hb dX4_standAt_4 (by decide) ?_
  refine lv_iload_n hx hb dX4_standAt_5 rfl (lv_at hl 1 rfl) ?_
  refine st_i hx hb hK hP hD hS 1 rfl (by unfold vp_in; decide) dX4_standAt_6 (fun f_1 H locs hP hD hS => ?_)
  have hP : va_P D vwCl [(a 5, .inr (4, [.ref (a 18), .ref (a 19), .ref (a 20), .ref (a 21), .ref (a 22), .ref (a 23), .ref (a 24), .int st, .int sk, .int cu, .int ch])), (a 24, .inl (cI, 26, .inl f_1))] H := hP
  have hD : va_D A [(a 5, .inr (4, [.ref (a 18), .ref (a 19), .ref (a 20), .ref (a 21), .ref (a 22), .ref (a 23), .ref (a 24), .int st, .int sk, .int cu, .int ch])), (a 24, .inl (cI, 26, .inl f_1))] := hD
  refine lv_aload_n hx hb dX4_standAt_7 rfl (lv_at hl 0 rfl) ?_
  refine va_get (D := D) (ci := 4) (v := .ref (a 24)) (C := RX4) (T := TX4) (N := 11) hx hb hts inT_X4 hown hK.1 hP 0 rfl rfl 6 (by decide) (hts _ k_247) (fun _ h9 => h9) rfl dX4_standAt_8 ?_
  refine lv_bipush (v := 18) hx hb dX4_standAt_11 (by decide) ?_
  refine lv_iload_n hx hb dX4_standAt_13 rfl (lv_at hl 2 rfl) ?_
  refine st_i hx hb hK hP hD hS 1 rfl (by unfold vp_in; decide) dX4_standAt_14 (fun f_2 H locs hP hD hS => ?_)
  have hP : va_P D vwCl [(a 5, .inr (4, [.ref (a 18), .ref (a 19), .ref (a 20), .ref (a 21), .ref (a 22), .ref (a 23), .ref (a 24), .int st, .int sk, .int cu, .int ch])), (a 24, .inl (cI, 26, .inl f_2))] H := hP
  have hD : va_D A [(a 5, .inr (4, [.ref (a 18), .ref (a 19), .ref (a 20), .ref (a 21), .ref (a 22), .ref (a 23), .ref (a 24), .int st, .int sk, .int cu, .int ch])), (a 24, .inl (cI, 26, .inl f_2))] := hD
  refine lv_aload_n hx hb dX4_standAt_15 rfl (lv_at hl 0 rfl) ?_
  refine va_get (D := D) (ci := 4) (v := .ref (a 24)) (C := RX4) (T := TX4) (N := 11) hx hb hts inT_X4 hown hK.1 hP 0 rfl rfl 6 (by decide) (hts _ k_247) (fun _ h9 => h9) rfl dX4_standAt_16 ?_
  refine lv_iconst (v := 3) hx hb dX4_standAt_19 (by decide) ?_
  refine lv_iload_n hx hb dX4_standAt_20 rfl (lv_at hl 3 rfl) ?_
  refine st_i hx hb hK hP hD hS 1 rfl (by unfold vp_in; decide) dX4_standAt_21 (fun f_3 H locs hP hD hS => ?_)
  have hP : va_P D vwCl [(a 5, .inr (4, [.ref (a 18), .ref (a 19), .ref (a 20), .ref (a 21), .ref (a 22), .ref (a 23), .ref (a 24), .int st, .int sk, .int cu, .int ch])), (a 24, .inl (cI, 26, .inl f_3))] H := hP
  have hD : va_D A [(a 5, .inr (4, [.ref (a 18), .ref (a 19), .ref (a 20), .ref (a 21), .ref (a 22), .ref (a 23), .ref (a 24), .int st, .int sk, .int cu, .int ch])), (a 24, .inl (cI, 26, .inl f_3))] := hD
  refine lv_aload_n hx hb dX4_standAt_22 rfl (lv_at hl 0 rfl) ?_
  refine va_get (D := D) (ci := 4) (v := .ref (a 24)) (C := RX4) (T := TX4) (N := 11) hx hb hts inT_X4 hown hK.1 hP 0 rfl rfl 6 (by decide) (hts _ k_247) (fun _ h9 => h9) rfl dX4_standAt_23 ?_
  refine lv_bipush (v := 13) hx hb dX4_standAt_26 (by decide) ?_
  refine lv_aload_n hx hb dX4_standAt_28 rfl (lv_at hl 0 rfl) ?_
  refine va_get (D := D) (ci := 4) (v := .int st) (C := RX4) (T := TX4) (N := 11) hx hb hts inT_X4 hown hK.1 hP 0 rfl rfl 7 (by decide) (hts _ k_248) (fun _ h9 => h9) rfl dX4_standAt_29 ?_
  refine st_i hx hb hK hP hD hS 1 rfl (by unfold vp_in; decide) dX4_standAt_32 (fun f_4 H locs hP hD hS => ?_)
  have hP : va_P D vwCl [(a 5, .inr (4, [.ref (a 18), .ref (a 19), .ref (a 20), .ref (a 21), .ref (a 22), .ref (a 23), .ref (a 24), .int st, .int sk, .int cu, .int ch])), (a 24, .inl (cI, 26, .inl f_4))] H := hP
  have hD : va_D A [(a 5, .inr (4, [.ref (a 18), .ref (a 19), .ref (a 20), .ref (a 21), .ref (a 22), .ref (a 23), .ref (a 24), .int st, .int sk, .int cu, .int ch])), (a 24, .inl (cI, 26, .inl f_4))] := hD
  refine lv_aload_n hx hb dX4_standAt_33 rfl (lv_at hl 0 rfl) ?_
  refine va_get (D := D) (ci := 4) (v := .ref (a 24)) (C := RX4) (T := TX4) (N := 11) hx hb hts inT_X4 hown hK.1 hP 0 rfl rfl 6 (by decide) (hts _ k_247) (fun _ h9 => h9) rfl dX4_standAt_34 ?_
  refine lv_iconst (v := 2) hx hb dX4_standAt_37 (by decide) ?_
  refine lv_iload_n hx hb dX4_standAt_38 rfl (lv_at hl 1 rfl) ?_
  refine lv_aload_n hx hb dX4_standAt_39 rfl (lv_at hl 0 rfl) ?_
  refine va_get (D := D) (ci := 4) (v := .int st) (C := RX4) (T := TX4) (N := 11) hx hb hts inT_X4 hown hK.1 hP 0 rfl rfl 7 (by decide) (hts _ k_248) (fun _ h9 => h9) rfl dX4_standAt_40 ?_
  refine lv_iconst (v := 1) hx hb dX4_standAt_43 (by decide) ?_
  refine lv_isub hx hb dX4_standAt_44 ?_
  refine lv_topi (fun x_5 ex_5 => ?_)
  refine lv_iload_n hx hb dX4_standAt_45 rfl (lv_at hl 1 rfl) ?_
  refine lv_isub hx hb dX4_standAt_46 ?_
  refine lv_topi (fun x_6 ex_6 => ?_)
  refine va_mmin hx hb (by rw [hml]; exact hl.1.symm) hown (hts _ k_782) (hts _ k_608) (hts _ k_131) (hts _ k_609) (Nat.le_of_ble_eq_true rfl) (Nat.le_of_ble_eq_true rfl) (Nat.le_of_ble_eq_true rfl) (Nat.le_of_ble_eq_true rfl) dX4_standAt_47 ?_
  refine lv_topi (fun x_7 _ => ?_)
  refine st_i hx hb hK hP hD hS 1 rfl (by unfold vp_in; decide) dX4_standAt_50 (fun f_8 H locs hP hD hS => ?_)
  have hP : va_P D vwCl [(a 5, .inr (4, [.ref (a 18), .ref (a 19), .ref (a 20), .ref (a 21), .ref (a 22), .ref (a 23), .ref (a 24), .int st, .int sk, .int cu, .int ch])), (a 24, .inl (cI, 26, .inl f_8))] H := hP
  have hD : va_D A [(a 5, .inr (4, [.ref (a 18), .ref (a 19), .ref (a 20), .ref (a 21), .ref (a 22), .ref (a 23), .ref (a 24), .int st, .int sk, .int cu, .int ch])), (a 24, .inl (cI, 26, .inl f_8))] := hD
  refine lv_aload_n hx hb dX4_standAt_51 rfl (lv_at hl 0 rfl) ?_
  refine va_get (D := D) (ci := 4) (v := .ref (a 24)) (C := RX4) (T := TX4) (N := 11) hx hb hts inT_X4 hown hK.1 hP 0 rfl rfl 6 (by decide) (hts _ k_247) (fun _ h9 => h9) rfl dX4_standAt_52 ?_
  refine lv_bipush (v := 10) hx hb dX4_standAt_55 (by decide) ?_
  refine lv_aload_n hx hb dX4_standAt_57 rfl (lv_at hl 0 rfl) ?_
  refine va_get (D := D) (ci := 4) (v := .int sk) (C := RX4) (T := TX4) (N := 11) hx hb hts inT_X4 hown hK.1 hP 0 rfl rfl 8 (by decide) (hts _ k_257) (fun _ h9 => h9) rfl dX4_standAt_58 ?_
  refine st_i hx hb hK hP hD hS 1 rfl (by unfold vp_in; decide) dX4_standAt_61 (fun f_9 H locs hP hD hS => ?_)
  have hP : va_P D vwCl [(a 5, .inr (4, [.ref (a 18), .ref (a 19), .ref (a 20), .ref (a 21), .ref (a 22), .ref (a 23), .ref (a 24), .int st, .int sk, .int cu, .int ch])), (a 24, .inl (cI, 26, .inl f_9))] H := hP
  have hD : va_D A [(a 5, .inr (4, [.ref (a 18), .ref (a 19), .ref (a 20), .ref (a 21), .ref (a 22), .ref (a 23), .ref (a 24), .int st, .int sk, .int cu, .int ch])), (a 24, .inl (cI, 26, .inl f_9))] := hD
  exact W.vret hx hb hr (fun t ht hW => ⟨⟨f_9, rfl, trivial, ⟨by rw [ht]; exact hP, hD⟩⟩, hS.F ht⟩) hS.2.2 dX4_standAt_62 hlocks

theorem lf_X4_set_1 (a : Nat → Nat) (n : Nat) (kk : Nat) (cu : Int32) (ch : Int32) (f1 : Nat) (s1 : Nat) (d1 : Nat) (ya : Nat → Int32) (yb : Nat → Int32) (yc : Nat → Int32) (yd : Nat → Int32) (hn : n ≤ 24) (hkk : kk ≤ 8) (hf : f1 < n) (hs : s1 < kk) (hd : d1 < 2) : n ≤ 24 := by
  first | assumption | omega
theorem lf_X4_set_2 (a : Nat → Nat) (n : Nat) (kk : Nat) (cu : Int32) (ch : Int32) (f1 : Nat) (s1 : Nat) (d1 : Nat) (ya : Nat → Int32) (yb : Nat → Int32) (yc : Nat → Int32) (yd : Nat → Int32) (hn : n ≤ 24) (hkk : kk ≤ 8) (hf : f1 < n) (hs : s1 < kk) (hd : d1 < 2) : kk ≤ 8 := by
  first | assumption | omega
theorem lf_X4_set_3 (a : Nat → Nat) (n : Nat) (kk : Nat) (cu : Int32) (ch : Int32) (f1 : Nat) (s1 : Nat) (d1 : Nat) (ya : Nat → Int32) (yb : Nat → Int32) (yc : Nat → Int32) (yd : Nat → Int32) (hn : n ≤ 24) (hkk : kk ≤ 8) (hf : f1 < n) (hs : s1 < kk) (hd : d1 < 2) : f1 < n := by
  first | assumption | omega
theorem lf_X4_set_4 (a : Nat → Nat) (n : Nat) (kk : Nat) (cu : Int32) (ch : Int32) (f1 : Nat) (s1 : Nat) (d1 : Nat) (ya : Nat → Int32) (yb : Nat → Int32) (yc : Nat → Int32) (yd : Nat → Int32) (hn : n ≤ 24) (hkk : kk ≤ 8) (hf : f1 < n) (hs : s1 < kk) (hd : d1 < 2) : s1 < kk := by
  first | assumption | omega
theorem lf_X4_set_5 (a : Nat → Nat) (n : Nat) (kk : Nat) (cu : Int32) (ch : Int32) (f1 : Nat) (s1 : Nat) (d1 : Nat) (ya : Nat → Int32) (yb : Nat → Int32) (yc : Nat → Int32) (yd : Nat → Int32) (hn : n ≤ 24) (hkk : kk ≤ 8) (hf : f1 < n) (hs : s1 < kk) (hd : d1 < 2) : d1 < 2 := by
  first | assumption | omega
theorem lf_X4_set_8 (a : Nat → Nat) (n : Nat) (kk : Nat) (cu : Int32) (ch : Int32) (f1 : Nat) (s1 : Nat) (d1 : Nat) (ya : Nat → Int32) (yb : Nat → Int32) (yc : Nat → Int32) (yd : Nat → Int32) (hn : n ≤ 24) (hkk : kk ≤ 8) (hf : f1 < n) (hs : s1 < kk) (hd : d1 < 2) (c_7 : ¬ 0 ≤ nI ((f1 * 8 + s1) * 2 + d1)) : False := by
  exact absurd (nI_pos' (n := (f1 * 8 + s1) * 2 + d1) (by omega)) (by assumption)
theorem lf_X4_set_12 (a : Nat → Nat) (n : Nat) (kk : Nat) (cu : Int32) (ch : Int32) (f1 : Nat) (s1 : Nat) (d1 : Nat) (ya : Nat → Int32) (yb : Nat → Int32) (yc : Nat → Int32) (yd : Nat → Int32) (hn : n ≤ 24) (hkk : kk ≤ 8) (hf : f1 < n) (hs : s1 < kk) (hd : d1 < 2) (c_7 : 0 ≤ nI ((f1 * 8 + s1) * 2 + d1)) : vp_in (nI ((f1 * 8 + s1) * 2 + d1)) 384 := by
  first | (unfold vp_in; decide) | (exact vp_in_nI (by omega) (by decide))
theorem lf_X4_set_15 (a : Nat → Nat) (n : Nat) (kk : Nat) (cu : Int32) (ch : Int32) (f1 : Nat) (s1 : Nat) (d1 : Nat) (ya : Nat → Int32) (yb : Nat → Int32) (yc : Nat → Int32) (yd : Nat → Int32) (hn : n ≤ 24) (hkk : kk ≤ 8) (hf : f1 < n) (hs : s1 < kk) (hd : d1 < 2) (c_7 : 0 ≤ nI ((f1 * 8 + s1) * 2 + d1)) : vp_in (nI ((f1 * 8 + s1) * 2 + d1)) 384 := by
  first | (unfold vp_in; decide) | (exact vp_in_nI (by omega) (by decide))
theorem lf_X4_set_17 (a : Nat → Nat) (n : Nat) (kk : Nat) (cu : Int32) (ch : Int32) (f1 : Nat) (s1 : Nat) (d1 : Nat) (ya : Nat → Int32) (yb : Nat → Int32) (yc : Nat → Int32) (yd : Nat → Int32) (hn : n ≤ 24) (hkk : kk ≤ 8) (hf : f1 < n) (hs : s1 < kk) (hd : d1 < 2) (c_7 : 0 ≤ nI ((f1 * 8 + s1) * 2 + d1)) : vp_in (nI ((f1 * 8 + s1) * 2 + d1)) 384 := by
  first | (unfold vp_in; decide) | (exact vp_in_nI (by omega) (by decide))
set_option maxHeartbeats 4000000 in
set_option maxRecDepth 100000 in
theorem c_X4_set (l : Launch) (D : va_G) (cI cB cZ cJ : ClassId) (tx : List (ClassId × FieldType)) (a : Nat → Nat) (n : Nat) (kk : Nat) (cu : Int32) (ch : Int32) (f1 : Nat) (s1 : Nat) (d1 : Nat) (ya : Nat → Int32) (yb : Nat → Int32) (yc : Nat → Int32) (yd : Nat → Int32) (hn : n ≤ 24) (hkk : kk ≤ 8) (hf : f1 < n) (hs : s1 < kk) (hd : d1 < 2) : WrV l D cI cB cZ cJ tx yX4_set cX4_set 6 none 2 0 0 [.ref (a 5), .int (nI f1), .int (nI s1), .int (nI d1), .ref (a 13)] [(a 5, .inr (4, [.ref (a 18), .ref (a 19), .ref (a 20), .ref (a 21), .ref (a 22), .ref (a 23), .ref (a 24), .int (nI n), .int (nI kk), .int cu, .int ch])), (a 18, .inl (cI, 384, .inl ya)), (a 19, .inl (cI, 384, .inl yb)), (a 21, .inl (cZ, 384, .inl yc)), (a 24, .inl (cI, 26, .inl yd)), (a 13, .inr (9, [.ref (a 51), .ref (a 52), .ref (a 53), .ref (a 54), .ref (a 55), .int 0, .int 0, .int 0, .int 0]))] (fun (_ : (Nat → Int32) × (Nat → Int32) × (Nat → Int32) × (Nat → Int32)) => True) (fun u => [(a 5, .inr (4, [.ref (a 18), .ref (a 19), .ref (a 20), .ref (a 21), .ref (a 22), .ref (a 23), .ref (a 24), .int (nI n), .int (nI kk), .int cu, .int ch])), (a 18, .inl (cI, 384, .inl u.1)), (a 19, .inl (cI, 384, .inl u.2.1)), (a 21, .inl (cZ, 384, .inl u.2.2.1)), (a 24, .inl (cI, 26, .inl u.2.2.2)), (a 13, .inr (9, [.ref (a 51), .ref (a 52), .ref (a 53), .ref (a 54), .ref (a 55), .int 0, .int 0, .int 0, .int 0]))]) := by
  refine wrv_of2 (by decide) (Nat.le_of_ble_eq_true rfl) ?_
  intro p e s m below meth c A ls H locs hC hK hP hD hA hS hl
  obtain ⟨hx, hb, hr, hml, hown, hts, hlocks, hin⟩ := hC
  have hown : s.vm.findClass RX4 = some m.cls := hown
  have hl : lv_has ls 6 [(0, .ref (a 5)), (1, .int (nI f1)), (2, .int (nI s1)), (3, .int (nI d1)), (4, .ref (a 13))] := hl
  refine lv_aload_n hx hb dX4_set_0 rfl (lv_at hl 0 rfl) ?_
  refine lv_iload_n hx hb dX4_set_1 rfl (lv_at hl 1 rfl) ?_
  refine lv_iload_n hx hb dX4_set_2 rfl (lv_at hl 2 rfl) ?_
  refine lv_iload_n hx hb dX4_set_3 rfl (lv_at hl 3 rfl) ?_
  refine eRi (va_runV (As := [.int (nI f1), .int (nI s1), .int (nI d1)]) (rest := []) ⟨hx, hb, hml, hown, hts⟩ (c_X4_rivetAt_g l D cI cB cZ cJ tx a n kk cu ch f1 s1 d1 (lf_X4_set_1 a n kk cu ch f1 s1 d1 ya yb yc yd hn hkk hf hs hd) (lf_X4_set_2 a n kk cu ch f1 s1 d1 ya yb yc yd hn hkk hf hs hd) (lf_X4_set_3 a n kk cu ch f1 s1 d1 ya yb yc yd hn hkk hf hs hd) (lf_X4_set_4 a n kk cu ch f1 s1 d1 ya yb yc yd hn hkk hf hs hd) (lf_X4_set_5 a n kk cu ch f1 s1 d1 ya yb yc yd hn hkk hf hs hd) H.size) (zV hts k_773 v_X4_rivetAt ⟨Nat.le_of_ble_eq_true rfl, Nat.le_of_ble_eq_true rfl⟩) (pV (px1 hK hP 0 rfl) hK hP 0 rfl rfl) rfl rfl hl.1 rfl (lv_room (Nat.le_of_ble_eq_true rfl)) dX4_set_4 ⟨Nat.le_of_ble_eq_true rfl, Nat.le_of_ble_eq_true rfl⟩) hP hS hA (fun r_6 H locs wr_6 hP hS => ?_)
  subst wr_6
  refine lv_istore (lv' := [(5, .int (nI ((f1 * 8 + s1) * 2 + d1))), (0, .ref (a 5)), (1, .int (nI f1)), (2, .int (nI s1)), (3, .int (nI d1)), (4, .ref (a 13))]) hx hb dX4_set_7 hl (by decide) rfl (fun ls hl => ?_)
  refine lv_iload hx hb dX4_set_9 (lv_at hl 0 rfl) ?_
  refine lv_if_ge (tgt := 15) hx hb dX4_set_11 (by decide) (fun c_7 => ?_) (fun c_7 => absurd (lf_X4_set_8 a n kk cu ch f1 s1 d1 ya yb yc yd hn hkk hf hs hd c_7) id)
  refine lv_aload_n hx hb dX4_set_15 rfl (lv_at hl 1 rfl) ?_
  refine lv_iload_n hx hb dX4_set_16 rfl (lv_at hl 2 rfl) ?_
  refine lv_iload_n hx hb dX4_set_17 rfl (lv_at hl 3 rfl) ?_
  refine lv_iload_n hx hb dX4_set_18 rfl (lv_at hl 4 rfl) ?_
  refine eWv (wr := [(a 18, .inl (cI, 384, .inl ya)), (a 19, .inl (cI, 384, .inl yb)), (a 21, .inl (cZ, 384, .inl yc)), (a 13, .inr (9, [.ref (a 51), .ref (a 52), .ref (a 53), .ref (a 54), .ref (a 55), .int 0, .int 0, .int 0, .int 0]))]) (va_runV (As := [.int (nI f1), .int (nI s1), .int (nI d1)]) (rest := []) ⟨hx, hb, hml, hown, hts⟩ (c_X4_standAt l D cI cB cZ cJ tx a (nI n) (nI kk) cu ch yd (nI f1) (nI s1) (nI d1) H.size) (zV hts k_778 v_X4_standAt ⟨Nat.le_of_ble_eq_true rfl, Nat.le_of_ble_eq_true rfl⟩) (pV (pxS hK hP hD [0, 4] (by decide) rfl) hK hP 0 rfl rfl) rfl rfl hl.1 rfl (lv_room (Nat.le_of_ble_eq_true rfl)) dX4_set_19 ⟨Nat.le_of_ble_eq_true rfl, Nat.le_of_ble_eq_true rfl⟩) hP hD hS hA [0, 4] [1, 2, 3, 5] rfl rfl (by decide) (by decide) (fun u_10 H locs wr_9 hP hD hS => ?_)
  have hP : va_P D vwCl [(a 18, .inl (cI, 384, .inl ya)), (a 19, .inl (cI, 384, .inl yb)), (a 21, .inl (cZ, 384, .inl yc)), (a 13, .inr (9, [.ref (a 51), .ref (a 52), .ref (a 53), .ref (a 54), .ref (a 55), .int 0, .int 0, .int 0, .int 0])), (a 5, .inr (4, [.ref (a 18), .ref (a 19), .ref (a 20), .ref (a 21), .ref (a 22), .ref (a 23), .ref (a 24), .int (nI n), .int (nI kk), .int cu, .int ch])), (a 24, .inl (cI, 26, .inl u_10))] H := hP
  have hD : va_D A [(a 18, .inl (cI, 384, .inl ya)), (a 19, .inl (cI, 384, .inl yb)), (a 21, .inl (cZ, 384, .inl yc)), (a 13, .inr (9, [.ref (a 51), .ref (a 52), .ref (a 53), .ref (a 54), .ref (a 55), .int 0, .int 0, .int 0, .int 0])), (a 5, .inr (4, [.ref (a 18), .ref (a 19), .ref (a 20), .ref (a 21), .ref (a 22), .ref (a 23), .ref (a 24), .int (nI n), .int (nI kk), .int cu, .int ch])), (a 24, .inl (cI, 26, .inl u_10))] := hD
  refine lv_aload_n hx hb dX4_set_22 rfl (lv_at hl 1 rfl) ?_
  refine va_get (D := D) (ci := 4) (v := .ref (a 18)) (C := RX4) (T := TX4) (N := 11) hx hb hts inT_X4 hown hK.1 hP 4 rfl rfl 0 (by decide) (hts _ k_231) (fun _ h9 => h9) rfl dX4_set_23 ?_
  refine lv_iload hx hb dX4_set_26 (lv_at hl 0 rfl) ?_
  refine lv_aload hx hb dX4_set_28 (lv_at hl 5 rfl) ?_
  refine lv_bipush (v := 121) hx hb dX4_set_30 (by decide) ?_
  refine lv_aload_n hx hb dX4_set_32 rfl (lv_at hl 1 rfl) ?_
  refine va_get (D := D) (ci := 4) (v := .ref (a 24)) (C := RX4) (T := TX4) (N := 11) hx hb hts inT_X4 hown hK.1 hP 4 rfl rfl 6 (by decide) (hts _ k_247) (fun _ h9 => h9) rfl dX4_set_33 ?_
  refine lv_sipush (v := (-3000)) hx hb dX4_set_36 (by decide) ?_
  refine lv_sipush (v := 3000) hx hb dX4_set_39 (by decide) ?_
  refine eRi (va_runV (As := [.int 121, .ref (a 24), .int (-3000), .int 3000]) (rest := [.int (nI ((f1 * 8 + s1) * 2 + d1)), .ref (a 18)]) ⟨hx, hb, hml, hown, hts⟩ (c_X9_value_0 l D cI cB cZ cJ tx a 121 (a 24) (-3000) 3000 H.size) (zV hts k_783 v_X9_value ⟨Nat.le_of_ble_eq_true rfl, Nat.le_of_ble_eq_true rfl⟩) (pV (px1 hK hP 3 rfl) hK hP 3 rfl rfl) rfl rfl hl.1 rfl (lv_room (Nat.le_of_ble_eq_true rfl)) dX4_set_42 ⟨Nat.le_of_ble_eq_true rfl, Nat.le_of_ble_eq_true rfl⟩) hP hS hA (fun r_11 H locs wr_11 hP hS => ?_)
  subst wr_11
  refine st_i hx hb hK hP hD hS 0 rfl (lf_X4_set_12 a n kk cu ch f1 s1 d1 ya yb yc yd hn hkk hf hs hd c_7) dX4_set_45 (fun f_13 H locs hP hD hS => ?_)
  have hP : va_P D vwCl [(a 18, .inl (cI, 384, .inl f_13)), (a 19, .inl (cI, 384, .inl yb)), (a 21, .inl (cZ, 384, .inl yc)), (a 13, .inr (9, [.ref (a 51), .ref (a 52), .ref (a 53), .ref (a 54), .ref (a 55), .int 0, .int 0, .int 0, .int 0])), (a 5, .inr (4, [.ref (a 18), .ref (a 19), .ref (a 20), .ref (a 21), .ref (a 22), .ref (a 23), .ref (a 24), .int (nI n), .int (nI kk), .int cu, .int ch])), (a 24, .inl (cI, 26, .inl u_10))] H := hP
  have hD : va_D A [(a 18, .inl (cI, 384, .inl f_13)), (a 19, .inl (cI, 384, .inl yb)), (a 21, .inl (cZ, 384, .inl yc)), (a 13, .inr (9, [.ref (a 51), .ref (a 52), .ref (a 53), .ref (a 54), .ref (a 55), .int 0, .int 0, .int 0, .int 0])), (a 5, .inr (4, [.ref (a 18), .ref (a 19), .ref (a 20), .ref (a 21), .ref (a 22), .ref (a 23), .ref (a 24), .int (nI n), .int (nI kk), .int cu, .int ch])), (a 24, .inl (cI, 26, .inl u_10))] := hD
  refine lv_aload_n hx hb dX4_set_46 rfl (lv_at hl 1 rfl) ?_
  refine va_get (D := D) (ci := 4) (v := .ref (a 19)) (C := RX4) (T := TX4) (N := 11) hx hb hts inT_X4 hown hK.1 hP 4 rfl rfl 1 (by decide) (hts _ k_235) (fun _ h9 => h9) rfl dX4_set_47 ?_
  refine lv_iload hx hb dX4_set_50 (lv_at hl 0 rfl) ?_
  refine lv_aload hx hb dX4_set_52 (lv_at hl 5 rfl) ?_
  refine lv_bipush (v := 122) hx hb dX4_set_54 (by decide) ?_
  refine lv_aload_n hx hb dX4_set_56 rfl (lv_at hl 1 rfl) ?_
  refine va_get (D := D) (ci := 4) (v := .ref (a 24)) (C := RX4) (T := TX4) (N := 11) hx hb hts inT_X4 hown hK.1 hP 4 rfl rfl 6 (by decide) (hts _ k_247) (fun _ h9 => h9) rfl dX4_set_57 ?_
  refine lv_sipush (v := (-3000)) hx hb dX4_set_60 (by decide) ?_
  refine lv_sipush (v := 3000) hx hb dX4_set_63 (by decide) ?_
  refine eRi (va_runV (As := [.int 122, .ref (a 24), .int (-3000), .int 3000]) (rest := [.int (nI ((f1 * 8 + s1) * 2 + d1)), .ref (a 19)]) ⟨hx, hb, hml, hown, hts⟩ (c_X9_value_0 l D cI cB cZ cJ tx a 122 (a 24) (-3000) 3000 H.size) (zV hts k_783 v_X9_value ⟨Nat.le_of_ble_eq_true rfl, Nat.le_of_ble_eq_true rfl⟩) (pV (px1 hK hP 3 rfl) hK hP 3 rfl rfl) rfl rfl hl.1 rfl (lv_room (Nat.le_of_ble_eq_true rfl)) dX4_set_66 ⟨Nat.le_of_ble_eq_true rfl, Nat.le_of_ble_eq_true rfl⟩) hP hS hA (fun r_14 H locs wr_14 hP hS => ?_)
  subst wr_14
  refine st_i hx hb hK hP hD hS 1 rfl (lf_X4_set_15 a n kk cu ch f1 s1 d1 ya yb yc yd hn hkk hf hs hd c_7) dX4_set_69 (fun f_16 H locs hP hD hS => ?_)
  have hP : va_P D vwCl [(a 18, .inl (cI, 384, .inl f_13)), (a 19, .inl (cI, 384, .inl f_16)), (a 21, .inl (cZ, 384, .inl yc)), (a 13, .inr (9, [.ref (a 51), .ref (a 52), .ref (a 53), .ref (a 54), .ref (a 55), .int 0, .int 0, .int 0, .int 0])), (a 5, .inr (4, [.ref (a 18), .ref (a 19), .ref (a 20), .ref (a 21), .ref (a 22), .ref (a 23), .ref (a 24), .int (nI n), .int (nI kk), .int cu, .int ch])), (a 24, .inl (cI, 26, .inl u_10))] H := hP
  have hD : va_D A [(a 18, .inl (cI, 384, .inl f_13)), (a 19, .inl (cI, 384, .inl f_16)), (a 21, .inl (cZ, 384, .inl yc)), (a 13, .inr (9, [.ref (a 51), .ref (a 52), .ref (a 53), .ref (a 54), .ref (a 55), .int 0, .int 0, .int 0, .int 0])), (a 5, .inr (4, [.ref (a 18), .ref (a 19), .ref (a 20), .ref (a 21), .ref (a 22), .ref (a 23), .ref (a 24), .int (nI n), .int (nI kk), .int cu, .int ch])), (a 24, .inl (cI, 26, .inl u_10))] := hD
  refine lv_aload_n hx hb dX4_set_70 rfl (lv_at hl 1 rfl) ?_
  refine va_get (D := D) (ci := 4) (v := .ref (a 21)) (C := RX4) (T := TX4) (N := 11) hx hb hts inT_X4 hown hK.1 hP 4 rfl rfl 3 (by decide) (hts _ k_241) (fun _ h9 => h9) rfl dX4_set_71 ?_
  refine lv_iload hx hb dX4_set_74 (lv_at hl 0 rfl) ?_
  refine lv_iconst (v := 0) hx hb dX4_set_76 (by decide) ?_
  refine st_z hx hb hK hP hD hS 2 rfl (lf_X4_set_17 a n kk cu ch f1 s1 d1 ya yb yc yd hn hkk hf hs hd c_7) dX4_set_77 (fun f_18 H locs hP hD hS => ?_)
  have hP : va_P D vwCl [(a 18, .inl (cI, 384, .inl f_13)), (a 19, .inl (cI, 384, .inl f_16)), (a 21, .inl (cZ, 384, .inl f_18)), (a 13, .inr (9, [.ref (a 51), .ref (a 52), .ref (a 53), .ref (a 54), .ref (a 55), .int 0, .int 0, .int 0, .int 0])), (a 5, .inr (4, [.ref (a 18), .ref (a 19), .ref (a 20), .ref (a 21), .ref (a 22), .ref (a 23), .ref (a 24), .int (nI n), .int (nI kk), .int cu, .int ch])), (a 24, .inl (cI, 26, .inl u_10))] H := hP
  have hD : va_D A [(a 18, .inl (cI, 384, .inl f_13)), (a 19, .inl (cI, 384, .inl f_16)), (a 21, .inl (cZ, 384, .inl f_18)), (a 13, .inr (9, [.ref (a 51), .ref (a 52), .ref (a 53), .ref (a 54), .ref (a 55), .int 0, .int 0, .int 0, .int 0])), (a 5, .inr (4, [.ref (a 18), .ref (a 19), .ref (a 20), .ref (a 21), .ref (a 22), .ref (a 23), .ref (a 24), .int (nI n), .int (nI kk), .int cu, .int ch])), (a 24, .inl (cI, 26, .inl u_10))] := hD
  have hP := hP.sub (ws' := [(a 5, .inr (4, [.ref (a 18), .ref (a 19), .ref (a 20), .ref (a 21), .ref (a 22), .ref (a 23), .ref (a 24), .int (nI n), .int (nI kk), .int cu, .int ch])), (a 18, .inl (cI, 384, .inl f_13)), (a 19, .inl (cI, 384, .inl f_16)), (a 21, .inl (cZ, 384, .inl f_18)), (a 24, .inl (cI, 26, .inl u_10)), (a 13, .inr (9, [.ref (a 51), .ref (a 52), .ref (a 53), .ref (a 54), .ref (a 55), .int 0, .int 0, .int 0, .int 0]))]) [4, 0, 1, 2, 5, 3] rfl
  have hD := hD.sub (ws' := [(a 5, .inr (4, [.ref (a 18), .ref (a 19), .ref (a 20), .ref (a 21), .ref (a 22), .ref (a 23), .ref (a 24), .int (nI n), .int (nI kk), .int cu, .int ch])), (a 18, .inl (cI, 384, .inl f_13)), (a 19, .inl (cI, 384, .inl f_16)), (a 21, .inl (cZ, 384, .inl f_18)), (a 24, .inl (cI, 26, .inl u_10)), (a 13, .inr (9, [.ref (a 51), .ref (a 52), .ref (a 53), .ref (a 54), .ref (a 55), .int 0, .int 0, .int 0, .int 0]))]) [4, 0, 1, 2, 5, 3] (by decide) rfl
  exact W.vret hx hb hr (fun t ht hW => ⟨⟨(f_13, f_16, f_18, u_10), rfl, trivial, ⟨by rw [ht]; exact hP, hD⟩⟩, hS.F ht⟩) hS.2.2 dX4_set_78 hlocks

theorem lf_X4_raise_1 (a : Nat → Nat) (n : Nat) (kk : Nat) (hn : n ≤ 24) (hkk : kk ≤ 8) : 384 < 2 ^ 31 := by
  first | decide | assumption | omega
theorem lf_X4_raise_4 (a : Nat → Nat) (n : Nat) (kk : Nat) (hn : n ≤ 24) (hkk : kk ≤ 8) : 26 < 2 ^ 31 := by
  first | decide | assumption | omega
theorem lf_X4_raise_12 (a : Nat → Nat) (n : Nat) (kk : Nat) (hn : n ≤ 24) (hkk : kk ≤ 8) (j1 : Nat) (y34_a18 : Nat → Int32) (y34_a19 : Nat → Int32) (y34_a21 : Nat → Int32) (y34_a24 : Nat → Int32) (k34 : Nat) (hj34 : j1 ≤ n) (hk34 : n < j1 + (k34 + 1)) (c_7 : nI n ≤ nI j1) (x_10 : Int32) (ex_10 : x_10 = nI n * nI kk) (x_11 : Int32) (ex_11 : x_11 = x_10 * 2) : (x_11 : Int32) = nI n * nI kk * 2 := by
  subst_vars; rfl
theorem lf_X4_raise_13 (a : Nat → Nat) (n : Nat) (kk : Nat) (hn : n ≤ 24) (hkk : kk ≤ 8) (j1 : Nat) (y34_a18 : Nat → Int32) (y34_a19 : Nat → Int32) (y34_a21 : Nat → Int32) (y34_a24 : Nat → Int32) (k34 : Nat) (hj34 : j1 ≤ n) (hk34 : n < j1 + (k34 + 1)) (c_7 : ¬ nI n ≤ nI j1) : j1 < n := by
  rcases Nat.lt_or_ge j1 n with q | q
  · exact q
  · exact absurd (nI_le q (by omega)) (by assumption)
theorem lf_X4_raise_17 (a : Nat → Nat) (n : Nat) (kk : Nat) (hn : n ≤ 24) (hkk : kk ≤ 8) (j1 : Nat) (y34_a18 : Nat → Int32) (y34_a19 : Nat → Int32) (y34_a21 : Nat → Int32) (y34_a24 : Nat → Int32) (k34 : Nat) (hj34 : j1 ≤ n) (hk34 : n < j1 + (k34 + 1)) (c_7 : ¬ nI n ≤ nI j1) (hlt34 : j1 < n) (j2 : Nat) (y46_a18 : Nat → Int32) (y46_a19 : Nat → Int32) (y46_a21 : Nat → Int32) (y46_a24 : Nat → Int32) (k46 : Nat) (hj46 : j2 ≤ kk) (hk46 : kk < j2 + (k46 + 1)) (c_14 : ¬ nI kk ≤ nI j2) : j2 < kk := by
  rcases Nat.lt_or_ge j2 kk with q | q
  · exact q
  · exact absurd (nI_le q (by omega)) (by assumption)
theorem lf_X4_raise_21 (a : Nat → Nat) (n : Nat) (kk : Nat) (hn : n ≤ 24) (hkk : kk ≤ 8) (j1 : Nat) (y34_a18 : Nat → Int32) (y34_a19 : Nat → Int32) (y34_a21 : Nat → Int32) (y34_a24 : Nat → Int32) (k34 : Nat) (hj34 : j1 ≤ n) (hk34 : n < j1 + (k34 + 1)) (c_7 : ¬ nI n ≤ nI j1) (hlt34 : j1 < n) (j2 : Nat) (y46_a18 : Nat → Int32) (y46_a19 : Nat → Int32) (y46_a21 : Nat → Int32) (y46_a24 : Nat → Int32) (k46 : Nat) (hj46 : j2 ≤ kk) (hk46 : kk < j2 + (k46 + 1)) (c_14 : ¬ nI kk ≤ nI j2) (hlt46 : j2 < kk) (j3 : Nat) (y58_a18 : Nat → Int32) (y58_a19 : Nat → Int32) (y58_a21 : Nat → Int32) (y58_a24 : Nat → Int32) (k58 : Nat) (hj58 : j3 ≤ 2) (hk58 : 2 < j3 + (k58 + 1)) (c_18 : ¬ 2 ≤ nI j3) : j3 < 2 := by
  rcases Nat.lt_or_ge j3 2 with q | q
  · exact q
  · exact absurd (nI_le q (by omega)) (by assumption)
theorem lf_X4_raise_22 (a : Nat → Nat) (n : Nat) (kk : Nat) (hn : n ≤ 24) (hkk : kk ≤ 8) (j1 : Nat) (y34_a18 : Nat → Int32) (y34_a19 : Nat → Int32) (y34_a21 : Nat → Int32) (y34_a24 : Nat → Int32) (k34 : Nat) (hj34 : j1 ≤ n) (hk34 : n < j1 + (k34 + 1)) (c_7 : ¬ nI n ≤ nI j1) (hlt34 : j1 < n) (j2 : Nat) (y46_a18 : Nat → Int32) (y46_a19 : Nat → Int32) (y46_a21 : Nat → Int32) (y46_a24 : Nat → Int32) (k46 : Nat) (hj46 : j2 ≤ kk) (hk46 : kk < j2 + (k46 + 1)) (c_14 : ¬ nI kk ≤ nI j2) (hlt46 : j2 < kk) (j3 : Nat) (y58_a18 : Nat → Int32) (y58_a19 : Nat → Int32) (y58_a21 : Nat → Int32) (y58_a24 : Nat → Int32) (k58 : Nat) (hj58 : j3 ≤ 2) (hk58 : 2 < j3 + (k58 + 1)) (c_18 : ¬ 2 ≤ nI j3) (hlt58 : j3 < 2) : n ≤ 24 := by
  first | decide | assumption | omega
theorem lf_X4_raise_23 (a : Nat → Nat) (n : Nat) (kk : Nat) (hn : n ≤ 24) (hkk : kk ≤ 8) (j1 : Nat) (y34_a18 : Nat → Int32) (y34_a19 : Nat → Int32) (y34_a21 : Nat → Int32) (y34_a24 : Nat → Int32) (k34 : Nat) (hj34 : j1 ≤ n) (hk34 : n < j1 + (k34 + 1)) (c_7 : ¬ nI n ≤ nI j1) (hlt34 : j1 < n) (j2 : Nat) (y46_a18 : Nat → Int32) (y46_a19 : Nat → Int32) (y46_a21 : Nat → Int32) (y46_a24 : Nat → Int32) (k46 : Nat) (hj46 : j2 ≤ kk) (hk46 : kk < j2 + (k46 + 1)) (c_14 : ¬ nI kk ≤ nI j2) (hlt46 : j2 < kk) (j3 : Nat) (y58_a18 : Nat → Int32) (y58_a19 : Nat → Int32) (y58_a21 : Nat → Int32) (y58_a24 : Nat → Int32) (k58 : Nat) (hj58 : j3 ≤ 2) (hk58 : 2 < j3 + (k58 + 1)) (c_18 : ¬ 2 ≤ nI j3) (hlt58 : j3 < 2) : kk ≤ 8 := by
  first | decide | assumption | omega
theorem lf_X4_raise_24 (a : Nat → Nat) (n : Nat) (kk : Nat) (hn : n ≤ 24) (hkk : kk ≤ 8) (j1 : Nat) (y34_a18 : Nat → Int32) (y34_a19 : Nat → Int32) (y34_a21 : Nat → Int32) (y34_a24 : Nat → Int32) (k34 : Nat) (hj34 : j1 ≤ n) (hk34 : n < j1 + (k34 + 1)) (c_7 : ¬ nI n ≤ nI j1) (hlt34 : j1 < n) (j2 : Nat) (y46_a18 : Nat → Int32) (y46_a19 : Nat → Int32) (y46_a21 : Nat → Int32) (y46_a24 : Nat → Int32) (k46 : Nat) (hj46 : j2 ≤ kk) (hk46 : kk < j2 + (k46 + 1)) (c_14 : ¬ nI kk ≤ nI j2) (hlt46 : j2 < kk) (j3 : Nat) (y58_a18 : Nat → Int32) (y58_a19 : Nat → Int32) (y58_a21 : Nat → Int32) (y58_a24 : Nat → Int32) (k58 : Nat) (hj58 : j3 ≤ 2) (hk58 : 2 < j3 + (k58 + 1)) (c_18 : ¬ 2 ≤ nI j3) (hlt58 : j3 < 2) : j1 < n := by
  first | decide | assumption | omega
theorem lf_X4_raise_25 (a : Nat → Nat) (n : Nat) (kk : Nat) (hn : n ≤ 24) (hkk : kk ≤ 8) (j1 : Nat) (y34_a18 : Nat → Int32) (y34_a19 : Nat → Int32) (y34_a21 : Nat → Int32) (y34_a24 : Nat → Int32) (k34 : Nat) (hj34 : j1 ≤ n) (hk34 : n < j1 + (k34 + 1)) (c_7 : ¬ nI n ≤ nI j1) (hlt34 : j1 < n) (j2 : Nat) (y46_a18 : Nat → Int32) (y46_a19 : Nat → Int32) (y46_a21 : Nat → Int32) (y46_a24 : Nat → Int32) (k46 : Nat) (hj46 : j2 ≤ kk) (hk46 : kk < j2 + (k46 + 1)) (c_14 : ¬ nI kk ≤ nI j2) (hlt46 : j2 < kk) (j3 : Nat) (y58_a18 : Nat → Int32) (y58_a19 : Nat → Int32) (y58_a21 : Nat → Int32) (y58_a24 : Nat → Int32) (k58 : Nat) (hj58 : j3 ≤ 2) (hk58 : 2 < j3 + (k58 + 1)) (c_18 : ¬ 2 ≤ nI j3) (hlt58 : j3 < 2) : j2 < kk := by
  first | decide | assumption | omega
theorem lf_X4_raise_26 (a : Nat → Nat) (n : Nat) (kk : Nat) (hn : n ≤ 24) (hkk : kk ≤ 8) (j1 : Nat) (y34_a18 : Nat → Int32) (y34_a19 : Nat → Int32) (y34_a21 : Nat → Int32) (y34_a24 : Nat → Int32) (k34 : Nat) (hj34 : j1 ≤ n) (hk34 : n < j1 + (k34 + 1)) (c_7 : ¬ nI n ≤ nI j1) (hlt34 : j1 < n) (j2 : Nat) (y46_a18 : Nat → Int32) (y46_a19 : Nat → Int32) (y46_a21 : Nat → Int32) (y46_a24 : Nat → Int32) (k46 : Nat) (hj46 : j2 ≤ kk) (hk46 : kk < j2 + (k46 + 1)) (c_14 : ¬ nI kk ≤ nI j2) (hlt46 : j2 < kk) (j3 : Nat) (y58_a18 : Nat → Int32) (y58_a19 : Nat → Int32) (y58_a21 : Nat → Int32) (y58_a24 : Nat → Int32) (k58 : Nat) (hj58 : j3 ≤ 2) (hk58 : 2 < j3 + (k58 + 1)) (c_18 : ¬ 2 ≤ nI j3) (hlt58 : j3 < 2) : j3 < 2 := by
  first | decide | assumption | omega
set_option maxHeartbeats 4000000 in
set_option maxRecDepth 100000 in
theorem c_X4_raise (l : Launch) (D : va_G) (cI cB cZ cJ : ClassId) (tx : List (ClassId × FieldType)) (a : Nat → Nat) (n : Nat) (kk : Nat) (hn : n ≤ 24) (hkk : kk ≤ 8) : WrI l D cI cB cZ cJ tx yX4_raise cX4_raise 7 (some .int) 3 0 0 [.ref (a 5), .int (nI n), .int (nI kk), .ref (a 13)] [(a 5, .inr (4, [.ref (a 18), .ref (a 19), .ref (a 20), .ref (a 21), .ref (a 22), .ref (a 23), .ref (a 24), .int 0, .int 0, .int 0, .int 1])), (a 18, .inl (cI, 384, .inl (fun _ => 0))), (a 19, .inl (cI, 384, .inl (fun _ => 0))), (a 20, .inl (cI, 384, .inl (fun _ => 0))), (a 21, .inl (cZ, 384, .inl (fun _ => 0))), (a 23, .inl (cI, 8, .inl (fun _ => 0))), (a 24, .inl (cI, 26, .inl (fun _ => 0))), (a 13, .inr (9, [.ref (a 51), .ref (a 52), .ref (a 53), .ref (a 54), .ref (a 55), .int 0, .int 0, .int 0, .int 0]))] (fun (r : Int32) (_ : Unit) => r = nI n * nI kk * 2) (fun _ => []) := by
  refine wri_of2 (by decide) (Nat.le_of_ble_eq_true rfl) ?_
  intro p e s m below meth c A ls H locs hC hK hP hD hA hS hl
  obtain ⟨hx, hb, hr, hml, hown, hts, hlocks, hin⟩ := hC
  have hown : s.vm.findClass RX4 = some m.cls := hown
  have hl : lv_has ls 7 [(0, .ref (a 5)), (1, .int (nI n)), (2, .int (nI kk)), (3, .ref (a 13))] := hl
  refine lv_aload_n hx hb dX4_raise_0 rfl (lv_at hl 0 rfl) ?_
  refine lv_iload_n hx hb dX4_raise_1 rfl (lv_at hl 1 rfl) ?_
  refine va_put (D := D) (ci := 4) (v := .int (nI n)) (ty := .int) (C := RX4) (T := TX4) (N := 11) hx hb hts inT_X4 tyX4 tyX4_ok nmX4 hown hK.1 hP hD hS 0 rfl rfl 7 (by decide) (hts _ k_248) (fun _ h9 => h9) rfl (by decide +kernel) rfl rfl (Nat.le_of_ble_eq_true rfl) dX4_raise_2 (fun H locs hP hD hS => ?_)
  have hP : va_P D vwCl [(a 5, .inr (4, [.ref (a 18), .ref (a 19), .ref (a 20), .ref (a 21), .ref (a 22), .ref (a 23), .ref (a 24), .int (nI n), .int 0, .int 0, .int 1])), (a 18, .inl (cI, 384, .inl (fun _ => 0))), (a 19, .inl (cI, 384, .inl (fun _ => 0))), (a 20, .inl (cI, 384, .inl (fun _ => 0))), (a 21, .inl (cZ, 384, .inl (fun _ => 0))), (a 23, .inl (cI, 8, .inl (fun _ => 0))), (a 24, .inl (cI, 26, .inl (fun _ => 0))), (a 13, .inr (9, [.ref (a 51), .ref (a 52), .ref (a 53), .ref (a 54), .ref (a 55), .int 0, .int 0, .int 0, .int 0]))] H := hP
  have hD : va_D A [(a 5, .inr (4, [.ref (a 18), .ref (a 19), .ref (a 20), .ref (a 21), .ref (a 22), .ref (a 23), .ref (a 24), .int (nI n), .int 0, .int 0, .int 1])), (a 18, .inl (cI, 384, .inl (fun _ => 0))), (a 19, .inl (cI, 384, .inl (fun _ => 0))), (a 20, .inl (cI, 384, .inl (fun _ => 0))), (a 21, .inl (cZ, 384, .inl (fun _ => 0))), (a 23, .inl (cI, 8, .inl (fun _ => 0))), (a 24, .inl (cI, 26, .inl (fun _ => 0))), (a 13, .inr (9, [.ref (a 51), .ref (a 52), .ref (a 53), .ref (a 54), .ref (a 55), .int 0, .int 0, .int 0, .int 0]))] := hD
  refine lv_aload_n hx hb dX4_raise_5 rfl (lv_at hl 0 rfl) ?_
  refine lv_iload_n hx hb dX4_raise_6 rfl (lv_at hl 2 rfl) ?_
  refine va_put (D := D) (ci := 4) (v := .int (nI kk)) (ty := .int) (C := RX4) (T := TX4) (N := 11) hx hb hts inT_X4 tyX4 tyX4_ok nmX4 hown hK.1 hP hD hS 0 rfl rfl 8 (by decide) (hts _ k_257) (fun _ h9 => h9) rfl (by decide +kernel) rfl rfl (Nat.le_of_ble_eq_true rfl) dX4_raise_7 (fun H locs hP hD hS => ?_)
  have hP : va_P D vwCl [(a 5, .inr (4, [.ref (a 18), .ref (a 19), .ref (a 20), .ref (a 21), .ref (a 22), .ref (a 23), .ref (a 24), .int (nI n), .int (nI kk), .int 0, .int 1])), (a 18, .inl (cI, 384, .inl (fun _ => 0))), (a 19, .inl (cI, 384, .inl (fun _ => 0))), (a 20, .inl (cI, 384, .inl (fun _ => 0))), (a 21, .inl (cZ, 384, .inl (fun _ => 0))), (a 23, .inl (cI, 8, .inl (fun _ => 0))), (a 24, .inl (cI, 26, .inl (fun _ => 0))), (a 13, .inr (9, [.ref (a 51), .ref (a 52), .ref (a 53), .ref (a 54), .ref (a 55), .int 0, .int 0, .int 0, .int 0]))] H := hP
  have hD : va_D A [(a 5, .inr (4, [.ref (a 18), .ref (a 19), .ref (a 20), .ref (a 21), .ref (a 22), .ref (a 23), .ref (a 24), .int (nI n), .int (nI kk), .int 0, .int 1])), (a 18, .inl (cI, 384, .inl (fun _ => 0))), (a 19, .inl (cI, 384, .inl (fun _ => 0))), (a 20, .inl (cI, 384, .inl (fun _ => 0))), (a 21, .inl (cZ, 384, .inl (fun _ => 0))), (a 23, .inl (cI, 8, .inl (fun _ => 0))), (a 24, .inl (cI, 26, .inl (fun _ => 0))), (a 13, .inr (9, [.ref (a 51), .ref (a 52), .ref (a 53), .ref (a 54), .ref (a 55), .int 0, .int 0, .int 0, .int 0]))] := hD
  refine lv_aload_n hx hb dX4_raise_10 rfl (lv_at hl 0 rfl) ?_
  refine lv_iconst (v := 0) hx hb dX4_raise_11 (by decide) ?_
  refine va_put (D := D) (ci := 4) (v := .int 0) (ty := .int) (C := RX4) (T := TX4) (N := 11) hx hb hts inT_X4 tyX4 tyX4_ok nmX4 hown hK.1 hP hD hS 0 rfl rfl 9 (by decide) (hts _ k_261) (fun _ h9 => h9) rfl (by decide +kernel) rfl rfl (Nat.le_of_ble_eq_true rfl) dX4_raise_12 (fun H locs hP hD hS => ?_)
  have hP : va_P D vwCl [(a 5, .inr (4, [.ref (a 18), .ref (a 19), .ref (a 20), .ref (a 21), .ref (a 22), .ref (a 23), .ref (a 24), .int (nI n), .int (nI kk), .int 0, .int 1])), (a 18, .inl (cI, 384, .inl (fun _ => 0))), (a 19, .inl (cI, 384, .inl (fun _ => 0))), (a 20, .inl (cI, 384, .inl (fun _ => 0))), (a 21, .inl (cZ, 384, .inl (fun _ => 0))), (a 23, .inl (cI, 8, .inl (fun _ => 0))), (a 24, .inl (cI, 26, .inl (fun _ => 0))), (a 13, .inr (9, [.ref (a 51), .ref (a 52), .ref (a 53), .ref (a 54), .ref (a 55), .int 0, .int 0, .int 0, .int 0]))] H := hP
  have hD : va_D A [(a 5, .inr (4, [.ref (a 18), .ref (a 19), .ref (a 20), .ref (a 21), .ref (a 22), .ref (a 23), .ref (a 24), .int (nI n), .int (nI kk), .int 0, .int 1])), (a 18, .inl (cI, 384, .inl (fun _ => 0))), (a 19, .inl (cI, 384, .inl (fun _ => 0))), (a 20, .inl (cI, 384, .inl (fun _ => 0))), (a 21, .inl (cZ, 384, .inl (fun _ => 0))), (a 23, .inl (cI, 8, .inl (fun _ => 0))), (a 24, .inl (cI, 26, .inl (fun _ => 0))), (a 13, .inr (9, [.ref (a 51), .ref (a 52), .ref (a 53), .ref (a 54), .ref (a 55), .int 0, .int 0, .int 0, .int 0]))] := hD
  refine lv_aload_n hx hb dX4_raise_15 rfl (lv_at hl 0 rfl) ?_
  refine va_get (D := D) (ci := 4) (v := .ref (a 20)) (C := RX4) (T := TX4) (N := 11) hx hb hts inT_X4 hown hK.1 hP 0 rfl rfl 2 (by decide) (hts _ k_238) (fun _ h9 => h9) rfl dX4_raise_16 ?_
  refine lv_iconst (v := 0) hx hb dX4_raise_19 (by decide) ?_
  refine eWv (wr := [(a 5, .inr (4, [.ref (a 18), .ref (a 19), .ref (a 20), .ref (a 21), .ref (a 22), .ref (a 23), .ref (a 24), .int (nI n), .int (nI kk), .int 0, .int 1])), (a 18, .inl (cI, 384, .inl (fun _ => 0))), (a 19, .inl (cI, 384, .inl (fun _ => 0))), (a 21, .inl (cZ, 384, .inl (fun _ => 0))), (a 23, .inl (cI, 8, .inl (fun _ => 0))), (a 24, .inl (cI, 26, .inl (fun _ => 0))), (a 13, .inr (9, [.ref (a 51), .ref (a 52), .ref (a 53), .ref (a 54), .ref (a 55), .int 0, .int 0, .int 0, .int 0]))]) (va_runS (As := [.ref (a 20), .int 0]) (rest := []) ⟨hx, hb, hml, hown, hts⟩ (c_J7_fill l D cI cB cZ cJ tx (a 20) 384 (fun _ => 0) 0 (lf_X4_raise_1 a n kk hn hkk) H.size) (zS hts k_768 v_J7_fill_53178 ⟨Nat.le_of_ble_eq_true rfl, Nat.le_of_ble_eq_true rfl⟩) (pxS hK hP hD [3] (by decide) rfl) rfl rfl hl.1 rfl (lv_room (Nat.le_of_ble_eq_true rfl)) dX4_raise_20 ⟨Nat.le_of_ble_eq_true rfl, Nat.le_of_ble_eq_true rfl⟩) hP hD hS hA [3] [0, 1, 2, 4, 5, 6, 7] rfl rfl (by decide) (by decide) (fun u_3 H locs wr_2 hP hD hS => ?_)
  have hP : va_P D vwCl [(a 5, .inr (4, [.ref (a 18), .ref (a 19), .ref (a 20), .ref (a 21), .ref (a 22), .ref (a 23), .ref (a 24), .int (nI n), .int (nI kk), .int 0, .int 1])), (a 18, .inl (cI, 384, .inl (fun _ => 0))), (a 19, .inl (cI, 384, .inl (fun _ => 0))), (a 21, .inl (cZ, 384, .inl (fun _ => 0))), (a 23, .inl (cI, 8, .inl (fun _ => 0))), (a 24, .inl (cI, 26, .inl (fun _ => 0))), (a 13, .inr (9, [.ref (a 51), .ref (a 52), .ref (a 53), .ref (a 54), .ref (a 55), .int 0, .int 0, .int 0, .int 0])), (a 20, .inl (cI, 384, .inl u_3))] H := hP
  have hD : va_D A [(a 5, .inr (4, [.ref (a 18), .ref (a 19), .ref (a 20), .ref (a 21), .ref (a 22), .ref (a 23), .ref (a 24), .int (nI n), .int (nI kk), .int 0, .int 1])), (a 18, .inl (cI, 384, .inl (fun _ => 0))), (a 19, .inl (cI, 384, .inl (fun _ => 0))), (a 21, .inl (cZ, 384, .inl (fun _ => 0))), (a 23, .inl (cI, 8, .inl (fun _ => 0))), (a 24, .inl (cI, 26, .inl (fun _ => 0))), (a 13, .inr (9, [.ref (a 51), .ref (a 52), .ref (a 53), .ref (a 54), .ref (a 55), .int 0, .int 0, .int 0, .int 0])), (a 20, .inl (cI, 384, .inl u_3))] := hD
  refine lv_aload_n hx hb dX4_raise_23 rfl (lv_at hl 0 rfl) ?_
  refine va_get (D := D) (ci := 4) (v := .ref (a 24)) (C := RX4) (T := TX4) (N := 11) hx hb hts inT_X4 hown hK.1 hP 0 rfl rfl 6 (by decide) (hts _ k_247) (fun _ h9 => h9) rfl dX4_raise_24 ?_
  refine lv_iconst (v := 0) hx hb dX4_raise_27 (by decide) ?_
  refine eWv (wr := [(a 5, .inr (4, [.ref (a 18), .ref (a 19), .ref (a 20), .ref (a 21), .ref (a 22), .ref (a 23), .ref (a 24), .int (nI n), .int (nI kk), .int 0, .int 1])), (a 18, .inl (cI, 384, .inl (fun _ => 0))), (a 19, .inl (cI, 384, .inl (fun _ => 0))), (a 21, .inl (cZ, 384, .inl (fun _ => 0))), (a 23, .inl (cI, 8, .inl (fun _ => 0))), (a 13, .inr (9, [.ref (a 51), .ref (a 52), .ref (a 53), .ref (a 54), .ref (a 55), .int 0, .int 0, .int 0, .int 0])), (a 20, .inl (cI, 384, .inl u_3))]) (va_runS (As := [.ref (a 24), .int 0]) (rest := []) ⟨hx, hb, hml, hown, hts⟩ (c_J7_fill l D cI cB cZ cJ tx (a 24) 26 (fun _ => 0) 0 (lf_X4_raise_4 a n kk hn hkk) H.size) (zS hts k_768 v_J7_fill_53178 ⟨Nat.le_of_ble_eq_true rfl, Nat.le_of_ble_eq_true rfl⟩) (pxS hK hP hD [5] (by decide) rfl) rfl rfl hl.1 rfl (lv_room (Nat.le_of_ble_eq_true rfl)) dX4_raise_28 ⟨Nat.le_of_ble_eq_true rfl, Nat.le_of_ble_eq_true rfl⟩) hP hD hS hA [5] [0, 1, 2, 3, 4, 6, 7] rfl rfl (by decide) (by decide) (fun u_6 H locs wr_5 hP hD hS => ?_)
  have hP : va_P D vwCl [(a 5, .inr (4, [.ref (a 18), .ref (a 19), .ref (a 20), .ref (a 21), .ref (a 22), .ref (a 23), .ref (a 24), .int (nI n), .int (nI kk), .int 0, .int 1])), (a 18, .inl (cI, 384, .inl (fun _ => 0))), (a 19, .inl (cI, 384, .inl (fun _ => 0))), (a 21, .inl (cZ, 384, .inl (fun _ => 0))), (a 23, .inl (cI, 8, .inl (fun _ => 0))), (a 13, .inr (9, [.ref (a 51), .ref (a 52), .ref (a 53), .ref (a 54), .ref (a 55), .int 0, .int 0, .int 0, .int 0])), (a 20, .inl (cI, 384, .inl u_3)), (a 24, .inl (cI, 26, .inl u_6))] H := hP
  have hD : va_D A [(a 5, .inr (4, [.ref (a 18), .ref (a 19), .ref (a 20), .ref (a 21), .ref (a 22), .ref (a 23), .ref (a 24), .int (nI n), .int (nI kk), .int 0, .int 1])), (a 18, .inl (cI, 384, .inl (fun _ => 0))), (a 19, .inl (cI, 384, .inl (fun _ => 0))), (a 21, .inl (cZ, 384, .inl (fun _ => 0))), (a 23, .inl (cI, 8, .inl (fun _ => 0))), (a 13, .inr (9, [.ref (a 51), .ref (a 52), .ref (a 53), .ref (a 54), .ref (a 55), .int 0, .int 0, .int 0, .int 0])), (a 20, .inl (cI, 384, .inl u_3)), (a 24, .inl (cI, 26, .inl u_6))] := hD
  refine lv_iconst (v := 0) hx hb dX4_raise_31 (by decide) ?_
  refine lv_istore (lv' := [(4, .int 0), (0, .ref (a 5)), (1, .int (nI n)), (2, .int (nI kk)), (3, .ref (a 13))]) hx hb dX4_raise_32 hl (by decide) rfl (fun ls hl => ?_)
  have lp34 : ∀ (k34 : Nat) (j1 : Nat) (y34_a18 : Nat → Int32) (y34_a19 : Nat → Int32) (y34_a21 : Nat → Int32) (y34_a24 : Nat → Int32) (H : Heap) (locs : List Loc) (ls : Array Slot), j1 ≤ n → n < j1 + k34 → va_P D vwCl [(a 5, .inr (4, [.ref (a 18), .ref (a 19), .ref (a 20), .ref (a 21), .ref (a 22), .ref (a 23), .ref (a 24), .int (nI n), .int (nI kk), .int 0, .int 1])), (a 18, .inl (cI, 384, .inl y34_a18)), (a 19, .inl (cI, 384, .inl y34_a19)), (a 21, .inl (cZ, 384, .inl y34_a21)), (a 23, .inl (cI, 8, .inl (fun _ => 0))), (a 13, .inr (9, [.ref (a 51), .ref (a 52), .ref (a 53), .ref (a 54), .ref (a 55), .int 0, .int 0, .int 0, .int 0])), (a 20, .inl (cI, 384, .inl u_3)), (a 24, .inl (cI, 26, .inl y34_a24))] H → va_D A [(a 5, .inr (4, [.ref (a 18), .ref (a 19), .ref (a 20), .ref (a 21), .ref (a 22), .ref (a 23), .ref (a 24), .int (nI n), .int (nI kk), .int 0, .int 1])), (a 18, .inl (cI, 384, .inl y34_a18)), (a 19, .inl (cI, 384, .inl y34_a19)), (a 21, .inl (cZ, 384, .inl y34_a21)), (a 23, .inl (cI, 8, .inl (fun _ => 0))), (a 13, .inr (9, [.ref (a 51), .ref (a 52), .ref (a 53), .ref (a 54), .ref (a 55), .int 0, .int 0, .int 0, .int 0])), (a 20, .inl (cI, 384, .inl u_3)), (a 24, .inl (cI, 26, .inl y34_a24))] → va_S A s.heap H locs → lv_has ls 7 [(4, .int (nI j1)), (0, .ref (a 5)), (1, .int (nI n)), (2, .int (nI kk)), (3, .ref (a 13))] → W p l e (rmX 3 0 0) s m ([.ref (a 5), .int (nI n), .int (nI kk), .ref (a 13)] : List Value).toArray below meth c H locs 0 0 (MQ below (va_Qi (fun (r : Int32) (_ : Unit) => r = nI n * nI kk * 2) (fun u => BX D A ((fun _ => []) u)) A) ([.ref (a 5), .int (nI n), .int (nI kk), .ref (a 13)] : List Value).toArray s 0 0 A) (F0 m 34 ls []) := by
    intro k34
    induction k34 with
    | zero =>
      intro j1 y34_a18 y34_a19 y34_a21 y34_a24 H locs ls hj34 hk34  hP hD hS hl
      exact absurd hk34 (by omega)
    | succ k34 ih34 =>
      intro j1 y34_a18 y34_a19 y34_a21 y34_a24 H locs ls hj34 hk34  hP hD hS hl
      refine lv_iload hx hb dX4_raise_34 (lv_at hl 0 rfl) ?_
      refine lv_aload_n hx hb dX4_raise_36 rfl (lv_at hl 1 rfl) ?_
      refine va_get (D := D) (ci := 4) (v := .int (nI n)) (C := RX4) (T := TX4) (N := 11) hx hb hts inT_X4 hown hK.1 hP 0 rfl rfl 7 (by decide) (hts _ k_248) (fun _ h9 => h9) rfl dX4_raise_37 ?_
      refine lv_icmp_ge (tgt := 93) hx hb dX4_raise_40 (by decide) (fun c_7 => ?_) (fun c_7 => ?_)
      · refine lv_aload_n hx hb dX4_raise_93 rfl (lv_at hl 1 rfl) ?_
        refine eWv (wr := [(a 18, .inl (cI, 384, .inl y34_a18)), (a 19, .inl (cI, 384, .inl y34_a19)), (a 21, .inl (cZ, 384, .inl y34_a21)), (a 13, .inr (9, [.ref (a 51), .ref (a 52), .ref (a 53), .ref (a 54), .ref (a 55), .int 0, .int 0, .int 0, .int 0])), (a 20, .inl (cI, 384, .inl u_3)), (a 24, .inl (cI, 26, .inl y34_a24))]) (va_runV (As := []) (rest := []) ⟨hx, hb, hml, hown, hts⟩ (c_X4_touchAll l D cI cB cZ cJ tx a (nI n) (nI kk) 0 1 (fun _ => 0) H.size) (zV hts k_812 v_X4_touchAll ⟨Nat.le_of_ble_eq_true rfl, Nat.le_of_ble_eq_true rfl⟩) (pV (pxS hK hP hD [0, 4] (by decide) rfl) hK hP 0 rfl rfl) rfl rfl hl.1 rfl (lv_room (Nat.le_of_ble_eq_true rfl)) dX4_raise_94 ⟨Nat.le_of_ble_eq_true rfl, Nat.le_of_ble_eq_true rfl⟩) hP hD hS hA [0, 4] [1, 2, 3, 5, 6, 7] rfl rfl (by decide) (by decide) (fun u_9 H locs wr_8 hP hD hS => ?_)
        have hP : va_P D vwCl [(a 18, .inl (cI, 384, .inl y34_a18)), (a 19, .inl (cI, 384, .inl y34_a19)), (a 21, .inl (cZ, 384, .inl y34_a21)), (a 13, .inr (9, [.ref (a 51), .ref (a 52), .ref (a 53), .ref (a 54), .ref (a 55), .int 0, .int 0, .int 0, .int 0])), (a 20, .inl (cI, 384, .inl u_3)), (a 24, .inl (cI, 26, .inl y34_a24)), (a 5, .inr (4, [.ref (a 18), .ref (a 19), .ref (a 20), .ref (a 21), .ref (a 22), .ref (a 23), .ref (a 24), .int (nI n), .int (nI kk), .int 0, .int 1])), (a 23, .inl (cI, 8, .inl u_9))] H := hP
        have hD : va_D A [(a 18, .inl (cI, 384, .inl y34_a18)), (a 19, .inl (cI, 384, .inl y34_a19)), (a 21, .inl (cZ, 384, .inl y34_a21)), (a 13, .inr (9, [.ref (a 51), .ref (a 52), .ref (a 53), .ref (a 54), .ref (a 55), .int 0, .int 0, .int 0, .int 0])), (a 20, .inl (cI, 384, .inl u_3)), (a 24, .inl (cI, 26, .inl y34_a24)), (a 5, .inr (4, [.ref (a 18), .ref (a 19), .ref (a 20), .ref (a 21), .ref (a 22), .ref (a 23), .ref (a 24), .int (nI n), .int (nI kk), .int 0, .int 1])), (a 23, .inl (cI, 8, .inl u_9))] := hD
        refine lv_aload_n hx hb dX4_raise_97 rfl (lv_at hl 1 rfl) ?_
        refine va_get (D := D) (ci := 4) (v := .int (nI n)) (C := RX4) (T := TX4) (N := 11) hx hb hts inT_X4 hown hK.1 hP 6 rfl rfl 7 (by decide) (hts _ k_248) (fun _ h9 => h9) rfl dX4_raise_98 ?_
        refine lv_aload_n hx hb dX4_raise_101 rfl (lv_at hl 1 rfl) ?_
        refine va_get (D := D) (ci := 4) (v := .int (nI kk)) (C := RX4) (T := TX4) (N := 11) hx hb hts inT_X4 hown hK.1 hP 6 rfl rfl 8 (by decide) (hts _ k_257) (fun _ h9 => h9) rfl dX4_raise_102 ?_
        refine lv_imul hx hb dX4_raise_105 ?_
        refine lv_topi (fun x_10 ex_10 => ?_)
        refine lv_iconst (v := 2) hx hb dX4_raise_106 (by decide) ?_
        refine lv_imul hx hb dX4_raise_107 ?_
        refine lv_topi (fun x_11 ex_11 => ?_)
        exact W.iret (v := x_11) hx hb hr (fun t ht hW => ⟨⟨(x_11 : Int32), (), rfl, (lf_X4_raise_12 a n kk hn hkk j1 y34_a18 y34_a19 y34_a21 y34_a24 k34 hj34 hk34 c_7 x_10 ex_10 x_11 ex_11), bx0⟩, hS.F ht⟩) hS.2.2 dX4_raise_108 hlocks
      · have hlt34 : j1 < n := (lf_X4_raise_13 a n kk hn hkk j1 y34_a18 y34_a19 y34_a21 y34_a24 k34 hj34 hk34 c_7)
        refine lv_iconst (v := 0) hx hb dX4_raise_43 (by decide) ?_
        refine lv_istore (lv' := [(5, .int 0), (4, .int (nI j1)), (0, .ref (a 5)), (1, .int (nI n)), (2, .int (nI kk)), (3, .ref (a 13))]) hx hb dX4_raise_44 hl (by decide) rfl (fun ls hl => ?_)
        have lp46 : ∀ (k46 : Nat) (j2 : Nat) (y46_a18 : Nat → Int32) (y46_a19 : Nat → Int32) (y46_a21 : Nat → Int32) (y46_a24 : Nat → Int32) (H : Heap) (locs : List Loc) (ls : Array Slot), j2 ≤ kk → kk < j2 + k46 → va_P D vwCl [(a 5, .inr (4, [.ref (a 18), .ref (a 19), .ref (a 20), .ref (a 21), .ref (a 22), .ref (a 23), .ref (a 24), .int (nI n), .int (nI kk), .int 0, .int 1])), (a 18, .inl (cI, 384, .inl y46_a18)), (a 19, .inl (cI, 384, .inl y46_a19)), (a 21, .inl (cZ, 384, .inl y46_a21)), (a 23, .inl (cI, 8, .inl (fun _ => 0))), (a 13, .inr (9, [.ref (a 51), .ref (a 52), .ref (a 53), .ref (a 54), .ref (a 55), .int 0, .int 0, .int 0, .int 0])), (a 20, .inl (cI, 384, .inl u_3)), (a 24, .inl (cI, 26, .inl y46_a24))] H → va_D A [(a 5, .inr (4, [.ref (a 18), .ref (a 19), .ref (a 20), .ref (a 21), .ref (a 22), .ref (a 23), .ref (a 24), .int (nI n), .int (nI kk), .int 0, .int 1])), (a 18, .inl (cI, 384, .inl y46_a18)), (a 19, .inl (cI, 384, .inl y46_a19)), (a 21, .inl (cZ, 384, .inl y46_a21)), (a 23, .inl (cI, 8, .inl (fun _ => 0))), (a 13, .inr (9, [.ref (a 51), .ref (a 52), .ref (a 53), .ref (a 54), .ref (a 55), .int 0, .int 0, .int 0, .int 0])), (a 20, .inl (cI, 384, .inl u_3)), (a 24, .inl (cI, 26, .inl y46_a24))] → va_S A s.heap H locs → lv_has ls 7 [(5, .int (nI j2)), (4, .int (nI j1)), (0, .ref (a 5)), (1, .int (nI n)), (2, .int (nI kk)), (3, .ref (a 13))] → W p l e (rmX 3 0 0) s m ([.ref (a 5), .int (nI n), .int (nI kk), .ref (a 13)] : List Value).toArray below meth c H locs 0 0 (MQ below (va_Qi (fun (r : Int32) (_ : Unit) => r = nI n * nI kk * 2) (fun u => BX D A ((fun _ => []) u)) A) ([.ref (a 5), .int (nI n), .int (nI kk), .ref (a 13)] : List Value).toArray s 0 0 A) (F0 m 46 ls []) := by
          intro k46
          induction k46 with
          | zero =>
            intro j2 y46_a18 y46_a19 y46_a21 y46_a24 H locs ls hj46 hk46  hP hD hS hl
            exact absurd hk46 (by omega)
          | succ k46 ih46 =>
            intro j2 y46_a18 y46_a19 y46_a21 y46_a24 H locs ls hj46 hk46  hP hD hS hl
            refine lv_iload hx hb dX4_raise_46 (lv_at hl 0 rfl) ?_
            refine lv_aload_n hx hb dX4_raise_48 rfl (lv_at hl 2 rfl) ?_
            refine va_get (D := D) (ci := 4) (v := .int (nI kk)) (C := RX4) (T := TX4) (N := 11) hx hb hts inT_X4 hown hK.1 hP 0 rfl rfl 8 (by decide) (hts _ k_257) (fun _ h9 => h9) rfl dX4_raise_49 ?_
            refine lv_icmp_ge (tgt := 87) hx hb dX4_raise_52 (by decide) (fun c_14 => ?_) (fun c_14 => ?_)
            · obtain ⟨x_15, ex_15⟩ : ∃ z : Int32, z = nI j1 + Int32.ofInt 1 := ⟨_, rfl⟩
              refine lv_iinc (v := x_15) (lv' := [(4, .int x_15), (5, .int (nI j2)), (0, .ref (a 5)), (1, .int (nI n)), (2, .int (nI kk)), (3, .ref (a 13))]) hx hb dX4_raise_87 hl (k := 1) rfl (ex_15.symm) (by decide) rfl (fun ls hl => ?_)
              refine lv_goto (tgt := 34) hx hb dX4_raise_90 (by decide) ?_
              have ej_16 : x_15 = nI (j1 + 1) := ex_15.trans (nI_1 j1)
              rw [ej_16] at hl
              exact ih34 (j1 + 1) y46_a18 y46_a19 y46_a21 y46_a24 H locs ls (by omega) (by omega)  (hP.sub [0, 1, 2, 3, 4, 5, 6, 7] rfl) (hD.sub [0, 1, 2, 3, 4, 5, 6, 7] (by decide) rfl) hS (lv_sub hl [0, 2, 3, 4, 5] rfl)
            · have hlt46 : j2 < kk := (lf_X4_raise_17 a n kk hn hkk j1 y34_a18 y34_a19 y34_a21 y34_a24 k34 hj34 hk34 c_7 hlt34 j2 y46_a18 y46_a19 y46_a21 y46_a24 k46 hj46 hk46 c_14)
              refine lv_iconst (v := 0) hx hb dX4_raise_55 (by decide) ?_
              refine lv_istore (lv' := [(6, .int 0), (5, .int (nI j2)), (4, .int (nI j1)), (0, .ref (a 5)), (1, .int (nI n)), (2, .int (nI kk)), (3, .ref (a 13))]) hx hb dX4_raise_56 hl (by decide) rfl (fun ls hl => ?_)
              have lp58 : ∀ (k58 : Nat) (j3 : Nat) (y58_a18 : Nat → Int32) (y58_a19 : Nat → Int32) (y58_a21 : Nat → Int32) (y58_a24 : Nat → Int32) (H : Heap) (locs : List Loc) (ls : Array Slot), j3 ≤ 2 → 2 < j3 + k58 → va_P D vwCl [(a 5, .inr (4, [.ref (a 18), .ref (a 19), .ref (a 20), .ref (a 21), .ref (a 22), .ref (a 23), .ref (a 24), .int (nI n), .int (nI kk), .int 0, .int 1])), (a 18, .inl (cI, 384, .inl y58_a18)), (a 19, .inl (cI, 384, .inl y58_a19)), (a 21, .inl (cZ, 384, .inl y58_a21)), (a 23, .inl (cI, 8, .inl (fun _ => 0))), (a 13, .inr (9, [.ref (a 51), .ref (a 52), .ref (a 53), .ref (a 54), .ref (a 55), .int 0, .int 0, .int 0, .int 0])), (a 20, .inl (cI, 384, .inl u_3)), (a 24, .inl (cI, 26, .inl y58_a24))] H → va_D A [(a 5, .inr (4, [.ref (a 18), .ref (a 19), .ref (a 20), .ref (a 21), .ref (a 22), .ref (a 23), .ref (a 24), .int (nI n), .int (nI kk), .int 0, .int 1])), (a 18, .inl (cI, 384, .inl y58_a18)), (a 19, .inl (cI, 384, .inl y58_a19)), (a 21, .inl (cZ, 384, .inl y58_a21)), (a 23, .inl (cI, 8, .inl (fun _ => 0))), (a 13, .inr (9, [.ref (a 51), .ref (a 52), .ref (a 53), .ref (a 54), .ref (a 55), .int 0, .int 0, .int 0, .int 0])), (a 20, .inl (cI, 384, .inl u_3)), (a 24, .inl (cI, 26, .inl y58_a24))] → va_S A s.heap H locs → lv_has ls 7 [(6, .int (nI j3)), (5, .int (nI j2)), (4, .int (nI j1)), (0, .ref (a 5)), (1, .int (nI n)), (2, .int (nI kk)), (3, .ref (a 13))] → W p l e (rmX 3 0 0) s m ([.ref (a 5), .int (nI n), .int (nI kk), .ref (a 13)] : List Value).toArray below meth c H locs 0 0 (MQ below (va_Qi (fun (r : Int32) (_ : Unit) => r = nI n * nI kk * 2) (fun u => BX D A ((fun _ => []) u)) A) ([.ref (a 5), .int (nI n), .int (nI kk), .ref (a 13)] : List Value).toArray s 0 0 A) (F0 m 58 ls []) := by
                intro k58
                induction k58 with
                | zero =>
                  intro j3 y58_a18 y58_a19 y58_a21 y58_a24 H locs ls hj58 hk58  hP hD hS hl
                  exact absurd hk58 (by omega)
                | succ k58 ih58 =>
                  intro j3 y58_a18 y58_a19 y58_a21 y58_a24 H locs ls hj58 hk58  hP hD hS hl
                  refine lv_iload hx hb dX4_raise_58 (lv_at hl 0 rfl) ?_
                  refine lv_iconst (v := 2) hx hb dX4_raise_60 (by decide) ?_
                  refine lv_icmp_ge (tgt := 81) hx hb dX4_raise_61 (by decide) (fun c_18 => ?_) (fun c_18 => ?_)
                  · obtain ⟨x_19, ex_19⟩ : ∃ z : Int32, z = nI j2 + Int32.ofInt 1 := ⟨_, rfl⟩
                    refine lv_iinc (v := x_19) (lv' := [(5, .int x_19), (6, .int (nI j3)), (4, .int (nI j1)), (0, .ref (a 5)), (1, .int (nI n)), (2, .int (nI kk)), (3, .ref (a 13))]) hx hb dX4_raise_81 hl (k := 1) rfl (ex_19.symm) (by decide) rfl (fun ls hl => ?_)
                    refine lv_goto (tgt := 46) hx hb dX4_raise_84 (by decide) ?_
                    have ej_20 : x_19 = nI (j2 + 1) := ex_19.trans (nI_1 j2)
                    rw [ej_20] at hl
                    exact ih46 (j2 + 1) y58_a18 y58_a19 y58_a21 y58_a24 H locs ls (by omega) (by omega)  (hP.sub [0, 1, 2, 3, 4, 5, 6, 7] rfl) (hD.sub [0, 1, 2, 3, 4, 5, 6, 7] (by decide) rfl) hS (lv_sub hl [0, 2, 3, 4, 5, 6] rfl)
                  · have hlt58 : j3 < 2 := (lf_X4_raise_21 a n kk hn hkk j1 y34_a18 y34_a19 y34_a21 y34_a24 k34 hj34 hk34 c_7 hlt34 j2 y46_a18 y46_a19 y46_a21 y46_a24 k46 hj46 hk46 c_14 hlt46 j3 y58_a18 y58_a19 y58_a21 y58_a24 k58 hj58 hk58 c_18)
                    refine lv_aload_n hx hb dX4_raise_64 rfl (lv_at hl 3 rfl) ?_
                    refine lv_iload hx hb dX4_raise_65 (lv_at hl 2 rfl) ?_
                    refine lv_iload hx hb dX4_raise_67 (lv_at hl 1 rfl) ?_
                    refine lv_iload hx hb dX4_raise_69 (lv_at hl 0 rfl) ?_
                    refine lv_aload_n hx hb dX4_raise_71 rfl (lv_at hl 6 rfl) ?_
                    refine eWv (wr := [(a 23, .inl (cI, 8, .inl (fun _ => 0))), (a 20, .inl (cI, 384, .inl u_3))]) (va_runV (As := [.int (nI j1), .int (nI j2), .int (nI j3), .ref (a 13)]) (rest := []) ⟨hx, hb, hml, hown, hts⟩ (c_X4_set l D cI cB cZ cJ tx a n kk 0 1 j1 j2 j3 y58_a18 y58_a19 y58_a21 y58_a24 (lf_X4_raise_22 a n kk hn hkk j1 y34_a18 y34_a19 y34_a21 y34_a24 k34 hj34 hk34 c_7 hlt34 j2 y46_a18 y46_a19 y46_a21 y46_a24 k46 hj46 hk46 c_14 hlt46 j3 y58_a18 y58_a19 y58_a21 y58_a24 k58 hj58 hk58 c_18 hlt58) (lf_X4_raise_23 a n kk hn hkk j1 y34_a18 y34_a19 y34_a21 y34_a24 k34 hj34 hk34 c_7 hlt34 j2 y46_a18 y46_a19 y46_a21 y46_a24 k46 hj46 hk46 c_14 hlt46 j3 y58_a18 y58_a19 y58_a21 y58_a24 k58 hj58 hk58 c_18 hlt58) (lf_X4_raise_24 a n kk hn hkk j1 y34_a18 y34_a19 y34_a21 y34_a24 k34 hj34 hk34 c_7 hlt34 j2 y46_a18 y46_a19 y46_a21 y46_a24 k46 hj46 hk46 c_14 hlt46 j3 y58_a18 y58_a19 y58_a21 y58_a24 k58 hj58 hk58 c_18 hlt58) (lf_X4_raise_25 a n kk hn hkk j1 y34_a18 y34_a19 y34_a21 y34_a24 k34 hj34 hk34 c_7 hlt34 j2 y46_a18 y46_a19 y46_a21 y46_a24 k46 hj46 hk46 c_14 hlt46 j3 y58_a18 y58_a19 y58_a21 y58_a24 k58 hj58 hk58 c_18 hlt58) (lf_X4_raise_26 a n kk hn hkk j1 y34_a18 y34_a19 y34_a21 y34_a24 k34 hj34 hk34 c_7 hlt34 j2 y46_a18 y46_a19 y46_a21 y46_a24 k46 hj46 hk46 c_14 hlt46 j3 y58_a18 y58_a19 y58_a21 y58_a24 k58 hj58 hk58 c_18 hlt58) H.size) (zV hts k_769 v_X4_set ⟨Nat.le_of_ble_eq_true rfl, Nat.le_of_ble_eq_true rfl⟩) (pV (pxS hK hP hD [0, 1, 2, 3, 7, 5] (by decide) rfl) hK hP 0 rfl rfl) rfl rfl hl.1 rfl (lv_room (Nat.le_of_ble_eq_true rfl)) dX4_raise_72 ⟨Nat.le_of_ble_eq_true rfl, Nat.le_of_ble_eq_true rfl⟩) hP hD hS hA [0, 1, 2, 3, 7, 5] [4, 6] rfl rfl (by decide) (by decide) (fun u_28 H locs wr_27 hP hD hS => ?_)
                    have hP : va_P D vwCl [(a 23, .inl (cI, 8, .inl (fun _ => 0))), (a 20, .inl (cI, 384, .inl u_3)), (a 5, .inr (4, [.ref (a 18), .ref (a 19), .ref (a 20), .ref (a 21), .ref (a 22), .ref (a 23), .ref (a 24), .int (nI n), .int (nI kk), .int 0, .int 1])), (a 18, .inl (cI, 384, .inl u_28.1)), (a 19, .inl (cI, 384, .inl u_28.2.1)), (a 21, .inl (cZ, 384, .inl u_28.2.2.1)), (a 24, .inl (cI, 26, .inl u_28.2.2.2)), (a 13, .inr (9, [.ref (a 51), .ref (a 52), .ref (a 53), .ref (a 54), .ref (a 55), .int 0, .int 0, .int 0, .int 0]))] H := hP
                    have hD : va_D A [(a 23, .inl (cI, 8, .inl (fun _ => 0))), (a 20, .inl (cI, 384, .inl u_3)), (a 5, .inr (4, [.ref (a 18), .ref (a 19), .ref (a 20), .ref (a 21), .ref (a 22), .ref (a 23), .ref (a 24), .int (nI n), .int (nI kk), .int 0, .int 1])), (a 18, .inl (cI, 384, .inl u_28.1)), (a 19, .inl (cI, 384, .inl u_28.2.1)), (a 21, .inl (cZ, 384, .inl u_28.2.2.1)), (a 24, .inl (cI, 26, .inl u_28.2.2.2)), (a 13, .inr (9, [.ref (a 51), .ref (a 52), .ref (a 53), .ref (a 54), .ref (a 55), .int 0, .int 0, .int 0, .int 0]))] := hD
                    obtain ⟨x_29, ex_29⟩ : ∃ z : Int32, z = nI j3 + Int32.ofInt 1 := ⟨_, rfl⟩
                    refine lv_iinc (v := x_29) (lv' := [(6, .int x_29), (5, .int (nI j2)), (4, .int (nI j1)), (0, .ref (a 5)), (1, .int (nI n)), (2, .int (nI kk)), (3, .ref (a 13))]) hx hb dX4_raise_75 hl (k := 0) rfl (ex_29.symm) (by decide) rfl (fun ls hl => ?_)
                    refine lv_goto (tgt := 58) hx hb dX4_raise_78 (by decide) ?_
                    have ej_30 : x_29 = nI (j3 + 1) := ex_29.trans (nI_1 j3)
                    rw [ej_30] at hl
                    exact ih58 (j3 + 1) u_28.1 u_28.2.1 u_28.2.2.1 u_28.2.2.2 H locs ls (by omega) (by omega)  (hP.sub [2, 3, 4, 5, 0, 7, 1, 6] rfl) (hD.sub [2, 3, 4, 5, 0, 7, 1, 6] (by decide) rfl) hS (lv_sub hl [0, 1, 2, 3, 4, 5, 6] rfl)
              exact lp58 (2 + 1) 0 y46_a18 y46_a19 y46_a21 y46_a24 H locs ls (by omega) (by omega)  (hP.sub [0, 1, 2, 3, 4, 5, 6, 7] rfl) (hD.sub [0, 1, 2, 3, 4, 5, 6, 7] (by decide) rfl) hS (lv_sub hl [0, 1, 2, 3, 4, 5, 6] rfl)
        exact lp46 (kk + 1) 0 y34_a18 y34_a19 y34_a21 y34_a24 H locs ls (by omega) (by omega)  (hP.sub [0, 1, 2, 3, 4, 5, 6, 7] rfl) (hD.sub [0, 1, 2, 3, 4, 5, 6, 7] (by decide) rfl) hS (lv_sub hl [0, 1, 2, 3, 4, 5] rfl)
  exact lp34 (n + 1) 0 (fun _ => 0) (fun _ => 0) (fun _ => 0) u_6 H locs ls (by omega) (by omega)  (hP.sub [0, 1, 2, 3, 4, 5, 6, 7] rfl) (hD.sub [0, 1, 2, 3, 4, 5, 6, 7] (by decide) rfl) hS (lv_sub hl [0, 1, 2, 3, 4] rfl)

theorem lf_X11_build_3 (a : Nat → Nat) (n1 : Int32) (n2 : Int32) (c_2 : ¬ ((3 : Int32) ≤ n1 ∧ n1 ≤ 24)) : ((-1) : Int32) = sp_build n1 n2 := by
  subst_vars; unfold sp_build; first | (rw [if_pos ⟨by assumption, by assumption⟩]; done) | (rw [if_neg (by grind)]; done)
theorem lf_X11_build_10 (a : Nat → Nat) (n1 : Int32) (n2 : Int32) (c_2 : (3 : Int32) ≤ n1 ∧ n1 ≤ 24) (c_5 : (1 : Int32) ≤ n2 ∧ n2 ≤ 8) (n : Nat) (na : 3 ≤ n) (nb : n ≤ 24) (ne : n1 = nI n) (kk : Nat) (kka : 1 ≤ kk) (kkb : kk ≤ 8) (kke : n2 = nI kk) : n ≤ 24 := by
  first | assumption | omega
theorem lf_X11_build_11 (a : Nat → Nat) (n1 : Int32) (n2 : Int32) (c_2 : (3 : Int32) ≤ n1 ∧ n1 ≤ 24) (c_5 : (1 : Int32) ≤ n2 ∧ n2 ≤ 8) (n : Nat) (na : 3 ≤ n) (nb : n ≤ 24) (ne : n1 = nI n) (kk : Nat) (kka : 1 ≤ kk) (kkb : kk ≤ 8) (kke : n2 = nI kk) : kk ≤ 8 := by
  first | assumption | omega
theorem lf_X11_build_14 (a : Nat → Nat) (n1 : Int32) (n2 : Int32) (c_2 : (3 : Int32) ≤ n1 ∧ n1 ≤ 24) (c_5 : (1 : Int32) ≤ n2 ∧ n2 ≤ 8) (n : Nat) (na : 3 ≤ n) (nb : n ≤ 24) (ne : n1 = nI n) (kk : Nat) (kka : 1 ≤ kk) (kkb : kk ≤ 8) (kke : n2 = nI kk) : (nI n * nI kk * 2 : Int32) = sp_build n1 n2 := by
  subst_vars; unfold sp_build; first | (rw [if_pos ⟨by assumption, by assumption⟩]; done) | (rw [if_neg (by grind)]; done)
theorem lf_X11_build_15 (a : Nat → Nat) (n1 : Int32) (n2 : Int32) (c_2 : (3 : Int32) ≤ n1 ∧ n1 ≤ 24) (c_5 : ¬ ((1 : Int32) ≤ n2 ∧ n2 ≤ 8)) : ((-1) : Int32) = sp_build n1 n2 := by
  subst_vars; unfold sp_build; first | (rw [if_pos ⟨by assumption, by assumption⟩]; done) | (rw [if_neg (by grind)]; done)
set_option maxHeartbeats 4000000 in
set_option maxRecDepth 100000 in
theorem c_X11_build (l : Launch) (D : va_G) (cI cB cZ cJ : ClassId) (cT : ClassId) (a : Nat → Nat) (n1 : Int32) (n2 : Int32) : WrI l D cI cB cZ cJ [(cT, .object "NailStain$Text")] yX11_build cX11_build 3 (some .int) 4 0 0 [.ref (a 0), .int n1, .int n2] [(a 0, .inr (11, [.ref (a 1), .ref (a 2), .ref (a 3), .ref (a 4), .ref (a 5), .ref (a 6), .ref (a 7), .ref (a 8), .ref (a 9), .ref (a 10), .ref (a 11), .ref (a 12), .int 100])), (a 3, .inl (cT, 4, .inr (.inr (.inr (.inr (fun j => if j < 4 then some (a (13 + j)) else none)))))), (a 6, .inr (0, [.ref (a 5), .ref (a 25), .ref (a 26), .ref (a 27), .ref (a 28), .ref (a 29), .int 0])), (a 10, .inr (10, [.ref (a 5), .ref (a 46)])), (a 46, .inl (cI, 48, .inl (fun _ => 0))), (a 5, .inr (4, [.ref (a 18), .ref (a 19), .ref (a 20), .ref (a 21), .ref (a 22), .ref (a 23), .ref (a 24), .int 0, .int 0, .int 0, .int 1])), (a 18, .inl (cI, 384, .inl (fun _ => 0))), (a 19, .inl (cI, 384, .inl (fun _ => 0))), (a 20, .inl (cI, 384, .inl (fun _ => 0))), (a 21, .inl (cZ, 384, .inl (fun _ => 0))), (a 23, .inl (cI, 8, .inl (fun _ => 0))), (a 24, .inl (cI, 26, .inl (fun _ => 0))), (a 13, .inr (9, [.ref (a 51), .ref (a 52), .ref (a 53), .ref (a 54), .ref (a 55), .int 0, .int 0, .int 0, .int 0]))] (fun (r : Int32) (_ : Unit) => r = sp_build n1 n2) (fun _ => []) := by
  refine wri_of2 (by decide) (Nat.le_of_ble_eq_true rfl) ?_
  intro p e s m below meth c A ls H locs hC hK hP hD hA hS hl
  obtain ⟨hx, hb, hr, hml, hown, hts, hlocks, hin⟩ := hC
  have hown : s.vm.findClass RX11 = some m.cls := hown
  have hl : lv_has ls 3 [(0, .ref (a 0)), (1, .int n1), (2, .int n2)] := hl
  refine lv_iload_n hx hb dX11_build_0 rfl (lv_at hl 1 rfl) ?_
  refine lv_iconst (v := 3) hx hb dX11_build_1 (by decide) ?_
  refine lv_bipush (v := 24) hx hb dX11_build_2 (by decide) ?_
  refine eRi (va_runS (As := [.int n1, .int 3, .int 24]) (rest := []) ⟨hx, hb, hml, hown, hts⟩ (c_X11_within l D cI cB cZ cJ [(cT, .object "NailStain$Text")] n1 3 24 H.size) (zS hts k_527 v_X11_within ⟨Nat.le_of_ble_eq_true rfl, Nat.le_of_ble_eq_true rfl⟩) (px0 hK) rfl rfl hl.1 rfl (lv_room (Nat.le_of_ble_eq_true rfl)) dX11_build_4 ⟨Nat.le_of_ble_eq_true rfl, Nat.le_of_ble_eq_true rfl⟩) hP hS hA (fun r_1 H locs wr_1 hP hS => ?_)
  subst wr_1
  refine lv_bi_eq (tgt := 20) hx hb dX11_build_7 (by decide) (fun c_2 => ?_) (fun c_2 => ?_)
  · refine lv_iconst (v := (-1)) hx hb dX11_build_20 (by decide) ?_
    exact W.iret (v := (-1)) hx hb hr (fun t ht hW => ⟨⟨((-1) : Int32), (), rfl, (lf_X11_build_3 a n1 n2 c_2), bx0⟩, hS.F ht⟩) hS.2.2 dX11_build_21 hlocks
  · refine lv_iload_n hx hb dX11_build_10 rfl (lv_at hl 2 rfl) ?_
    refine lv_iconst (v := 1) hx hb dX11_build_11 (by decide) ?_
    refine lv_bipush (v := 8) hx hb dX11_build_12 (by decide) ?_
    refine eRi (va_runS (As := [.int n2, .int 1, .int 8]) (rest := []) ⟨hx, hb, hml, hown, hts⟩ (c_X11_within l D cI cB cZ cJ [(cT, .object "NailStain$Text")] n2 1 8 H.size) (zS hts k_527 v_X11_within ⟨Nat.le_of_ble_eq_true rfl, Nat.le_of_ble_eq_true rfl⟩) (px0 hK) rfl rfl hl.1 rfl (lv_room (Nat.le_of_ble_eq_true rfl)) dX11_build_14 ⟨Nat.le_of_ble_eq_true rfl, Nat.le_of_ble_eq_true rfl⟩) hP hS hA (fun r_4 H locs wr_4 hP hS => ?_)
    subst wr_4
    refine lv_bi_ne (tgt := 22) hx hb dX11_build_17 (by decide) (fun c_5 => ?_) (fun c_5 => ?_)
    · obtain ⟨n, na, nb, ne⟩ := of_rng 3 24 rfl rfl c_2
      subst ne
      obtain ⟨kk, kka, kkb, kke⟩ := of_rng 1 8 rfl rfl c_5
      subst kke
      refine lv_aload_n hx hb dX11_build_22 rfl (lv_at hl 0 rfl) ?_
      refine va_get (D := D) (ci := 11) (v := .ref (a 6)) (C := RX11) (T := TX11) (N := 13) hx hb hts inT_X11 hown hK.1 hP 0 rfl rfl 5 (by decide) (hts _ k_488) (fun _ h9 => h9) rfl dX11_build_23 ?_
      refine eWv (wr := [(a 0, .inr (11, [.ref (a 1), .ref (a 2), .ref (a 3), .ref (a 4), .ref (a 5), .ref (a 6), .ref (a 7), .ref (a 8), .ref (a 9), .ref (a 10), .ref (a 11), .ref (a 12), .int 100])), (a 3, .inl (cT, 4, .inr (.inr (.inr (.inr (fun j => if j < 4 then some (a (13 + j)) else none)))))), (a 10, .inr (10, [.ref (a 5), .ref (a 46)])), (a 46, .inl (cI, 48, .inl (fun _ => 0))), (a 5, .inr (4, [.ref (a 18), .ref (a 19), .ref (a 20), .ref (a 21), .ref (a 22), .ref (a 23), .ref (a 24), .int 0, .int 0, .int 0, .int 1])), (a 18, .inl (cI, 384, .inl (fun _ => 0))), (a 19, .inl (cI, 384, .inl (fun _ => 0))), (a 20, .inl (cI, 384, .inl (fun _ => 0))), (a 21, .inl (cZ, 384, .inl (fun _ => 0))), (a 23, .inl (cI, 8, .inl (fun _ => 0))), (a 24, .inl (cI, 26, .inl (fun _ => 0))), (a 13, .inr (9, [.ref (a 51), .ref (a 52), .ref (a 53), .ref (a 54), .ref (a 55), .int 0, .int 0, .int 0, .int 0]))]) (va_runV (As := []) (rest := []) ⟨hx, hb, hml, hown, hts⟩ (c_X0_fall l D cI cB cZ cJ [(cT, .object "NailStain$Text")] a H.size) (zV hts k_753 v_X0_fall ⟨Nat.le_of_ble_eq_true rfl, Nat.le_of_ble_eq_true rfl⟩) (pV (pxS hK hP hD [2] (by decide) rfl) hK hP 2 rfl rfl) rfl rfl hl.1 rfl (lv_room (Nat.le_of_ble_eq_true rfl)) dX11_build_26 ⟨Nat.le_of_ble_eq_true rfl, Nat.le_of_ble_eq_true rfl⟩) hP hD hS hA [2] [0, 1, 3, 4, 5, 6, 7, 8, 9, 10, 11, 12] rfl rfl (by decide) (by decide) (fun u_7 H locs wr_6 hP hD hS => ?_)
      have hP : va_P D vwCl [(a 0, .inr (11, [.ref (a 1), .ref (a 2), .ref (a 3), .ref (a 4), .ref (a 5), .ref (a 6), .ref (a 7), .ref (a 8), .ref (a 9), .ref (a 10), .ref (a 11), .ref (a 12), .int 100])), (a 3, .inl (cT, 4, .inr (.inr (.inr (.inr (fun j => if j < 4 then some (a (13 + j)) else none)))))), (a 10, .inr (10, [.ref (a 5), .ref (a 46)])), (a 46, .inl (cI, 48, .inl (fun _ => 0))), (a 5, .inr (4, [.ref (a 18), .ref (a 19), .ref (a 20), .ref (a 21), .ref (a 22), .ref (a 23), .ref (a 24), .int 0, .int 0, .int 0, .int 1])), (a 18, .inl (cI, 384, .inl (fun _ => 0))), (a 19, .inl (cI, 384, .inl (fun _ => 0))), (a 20, .inl (cI, 384, .inl (fun _ => 0))), (a 21, .inl (cZ, 384, .inl (fun _ => 0))), (a 23, .inl (cI, 8, .inl (fun _ => 0))), (a 24, .inl (cI, 26, .inl (fun _ => 0))), (a 13, .inr (9, [.ref (a 51), .ref (a 52), .ref (a 53), .ref (a 54), .ref (a 55), .int 0, .int 0, .int 0, .int 0]))] H := hP
      have hD : va_D A [(a 0, .inr (11, [.ref (a 1), .ref (a 2), .ref (a 3), .ref (a 4), .ref (a 5), .ref (a 6), .ref (a 7), .ref (a 8), .ref (a 9), .ref (a 10), .ref (a 11), .ref (a 12), .int 100])), (a 3, .inl (cT, 4, .inr (.inr (.inr (.inr (fun j => if j < 4 then some (a (13 + j)) else none)))))), (a 10, .inr (10, [.ref (a 5), .ref (a 46)])), (a 46, .inl (cI, 48, .inl (fun _ => 0))), (a 5, .inr (4, [.ref (a 18), .ref (a 19), .ref (a 20), .ref (a 21), .ref (a 22), .ref (a 23), .ref (a 24), .int 0, .int 0, .int 0, .int 1])), (a 18, .inl (cI, 384, .inl (fun _ => 0))), (a 19, .inl (cI, 384, .inl (fun _ => 0))), (a 20, .inl (cI, 384, .inl (fun _ => 0))), (a 21, .inl (cZ, 384, .inl (fun _ => 0))), (a 23, .inl (cI, 8, .inl (fun _ => 0))), (a 24, .inl (cI, 26, .inl (fun _ => 0))), (a 13, .inr (9, [.ref (a 51), .ref (a 52), .ref (a 53), .ref (a 54), .ref (a 55), .int 0, .int 0, .int 0, .int 0]))] := hD
      refine lv_aload_n hx hb dX11_build_29 rfl (lv_at hl 0 rfl) ?_
      refine va_get (D := D) (ci := 11) (v := .ref (a 10)) (C := RX11) (T := TX11) (N := 13) hx hb hts inT_X11 hown hK.1 hP 0 rfl rfl 9 (by decide) (hts _ k_492) (fun _ h9 => h9) rfl dX11_build_30 ?_
      refine eWv (wr := [(a 0, .inr (11, [.ref (a 1), .ref (a 2), .ref (a 3), .ref (a 4), .ref (a 5), .ref (a 6), .ref (a 7), .ref (a 8), .ref (a 9), .ref (a 10), .ref (a 11), .ref (a 12), .int 100])), (a 3, .inl (cT, 4, .inr (.inr (.inr (.inr (fun j => if j < 4 then some (a (13 + j)) else none)))))), (a 5, .inr (4, [.ref (a 18), .ref (a 19), .ref (a 20), .ref (a 21), .ref (a 22), .ref (a 23), .ref (a 24), .int 0, .int 0, .int 0, .int 1])), (a 18, .inl (cI, 384, .inl (fun _ => 0))), (a 19, .inl (cI, 384, .inl (fun _ => 0))), (a 20, .inl (cI, 384, .inl (fun _ => 0))), (a 21, .inl (cZ, 384, .inl (fun _ => 0))), (a 23, .inl (cI, 8, .inl (fun _ => 0))), (a 24, .inl (cI, 26, .inl (fun _ => 0))), (a 13, .inr (9, [.ref (a 51), .ref (a 52), .ref (a 53), .ref (a 54), .ref (a 55), .int 0, .int 0, .int 0, .int 0]))]) (va_runV (As := []) (rest := []) ⟨hx, hb, hml, hown, hts⟩ (c_X10_fall l D cI cB cZ cJ [(cT, .object "NailStain$Text")] a H.size) (zV hts k_757 v_X10_fall ⟨Nat.le_of_ble_eq_true rfl, Nat.le_of_ble_eq_true rfl⟩) (pV (pxS hK hP hD [2, 3] (by decide) rfl) hK hP 2 rfl rfl) rfl rfl hl.1 rfl (lv_room (Nat.le_of_ble_eq_true rfl)) dX11_build_33 ⟨Nat.le_of_ble_eq_true rfl, Nat.le_of_ble_eq_true rfl⟩) hP hD hS hA [2, 3] [0, 1, 4, 5, 6, 7, 8, 9, 10, 11] rfl rfl (by decide) (by decide) (fun u_9 H locs wr_8 hP hD hS => ?_)
      have hP : va_P D vwCl [(a 0, .inr (11, [.ref (a 1), .ref (a 2), .ref (a 3), .ref (a 4), .ref (a 5), .ref (a 6), .ref (a 7), .ref (a 8), .ref (a 9), .ref (a 10), .ref (a 11), .ref (a 12), .int 100])), (a 3, .inl (cT, 4, .inr (.inr (.inr (.inr (fun j => if j < 4 then some (a (13 + j)) else none)))))), (a 5, .inr (4, [.ref (a 18), .ref (a 19), .ref (a 20), .ref (a 21), .ref (a 22), .ref (a 23), .ref (a 24), .int 0, .int 0, .int 0, .int 1])), (a 18, .inl (cI, 384, .inl (fun _ => 0))), (a 19, .inl (cI, 384, .inl (fun _ => 0))), (a 20, .inl (cI, 384, .inl (fun _ => 0))), (a 21, .inl (cZ, 384, .inl (fun _ => 0))), (a 23, .inl (cI, 8, .inl (fun _ => 0))), (a 24, .inl (cI, 26, .inl (fun _ => 0))), (a 13, .inr (9, [.ref (a 51), .ref (a 52), .ref (a 53), .ref (a 54), .ref (a 55), .int 0, .int 0, .int 0, .int 0]))] H := hP
      have hD : va_D A [(a 0, .inr (11, [.ref (a 1), .ref (a 2), .ref (a 3), .ref (a 4), .ref (a 5), .ref (a 6), .ref (a 7), .ref (a 8), .ref (a 9), .ref (a 10), .ref (a 11), .ref (a 12), .int 100])), (a 3, .inl (cT, 4, .inr (.inr (.inr (.inr (fun j => if j < 4 then some (a (13 + j)) else none)))))), (a 5, .inr (4, [.ref (a 18), .ref (a 19), .ref (a 20), .ref (a 21), .ref (a 22), .ref (a 23), .ref (a 24), .int 0, .int 0, .int 0, .int 1])), (a 18, .inl (cI, 384, .inl (fun _ => 0))), (a 19, .inl (cI, 384, .inl (fun _ => 0))), (a 20, .inl (cI, 384, .inl (fun _ => 0))), (a 21, .inl (cZ, 384, .inl (fun _ => 0))), (a 23, .inl (cI, 8, .inl (fun _ => 0))), (a 24, .inl (cI, 26, .inl (fun _ => 0))), (a 13, .inr (9, [.ref (a 51), .ref (a 52), .ref (a 53), .ref (a 54), .ref (a 55), .int 0, .int 0, .int 0, .int 0]))] := hD
      refine lv_aload_n hx hb dX11_build_36 rfl (lv_at hl 0 rfl) ?_
      refine va_get (D := D) (ci := 11) (v := .ref (a 5)) (C := RX11) (T := TX11) (N := 13) hx hb hts inT_X11 hown hK.1 hP 0 rfl rfl 4 (by decide) (hts _ k_487) (fun _ h9 => h9) rfl dX11_build_37 ?_
      refine lv_iload_n hx hb dX11_build_40 rfl (lv_at hl 1 rfl) ?_
      refine lv_iload_n hx hb dX11_build_41 rfl (lv_at hl 2 rfl) ?_
      refine lv_aload_n hx hb dX11_build_42 rfl (lv_at hl 0 rfl) ?_
      refine va_get (D := D) (ci := 11) (v := .ref (a 3)) (C := RX11) (T := TX11) (N := 13) hx hb hts inT_X11 hown hK.1 hP 0 rfl rfl 2 (by decide) (hts _ k_485) (fun _ h9 => h9) rfl dX11_build_43 ?_
      refine lv_iconst (v := 0) hx hb dX11_build_46 (by decide) ?_
      refine va_aldq hx hb hK.1 hP 1 4 rfl rfl (by unfold vp_in; decide) dX11_build_47 ?_
      refine lv_topr (y := .ref (a 13)) rfl ?_
      refine eWi (wr := [(a 0, .inr (11, [.ref (a 1), .ref (a 2), .ref (a 3), .ref (a 4), .ref (a 5), .ref (a 6), .ref (a 7), .ref (a 8), .ref (a 9), .ref (a 10), .ref (a 11), .ref (a 12), .int 100])), (a 3, .inl (cT, 4, .inr (.inr (.inr (.inr (fun j => if j < 4 then some (a (13 + j)) else none))))))]) (va_runV (As := [.int (nI n), .int (nI kk), .ref (a 13)]) (rest := []) ⟨hx, hb, hml, hown, hts⟩ (c_X4_raise l D cI cB cZ cJ [(cT, .object "NailStain$Text")] a n kk (lf_X11_build_10 a (nI n) (nI kk) c_2 c_5 n na nb rfl kk kka kkb rfl) (lf_X11_build_11 a (nI n) (nI kk) c_2 c_5 n na nb rfl kk kka kkb rfl) H.size) (zV hts k_764 v_X4_raise ⟨Nat.le_of_ble_eq_true rfl, Nat.le_of_ble_eq_true rfl⟩) (pV (pxS hK hP hD [2, 3, 4, 5, 6, 7, 8, 9] (by decide) rfl) hK hP 2 rfl rfl) rfl rfl hl.1 rfl (lv_room (Nat.le_of_ble_eq_true rfl)) dX11_build_48 ⟨Nat.le_of_ble_eq_true rfl, Nat.le_of_ble_eq_true rfl⟩) hP hD hS hA [2, 3, 4, 5, 6, 7, 8, 9] [0, 1] rfl rfl (by decide) (by decide) (fun r_12 u_13 H locs wr_12 hP hD hS => ?_)
      have hP : va_P D vwCl [(a 0, .inr (11, [.ref (a 1), .ref (a 2), .ref (a 3), .ref (a 4), .ref (a 5), .ref (a 6), .ref (a 7), .ref (a 8), .ref (a 9), .ref (a 10), .ref (a 11), .ref (a 12), .int 100])), (a 3, .inl (cT, 4, .inr (.inr (.inr (.inr (fun j => if j < 4 then some (a (13 + j)) else none))))))] H := hP
      have hD : va_D A [(a 0, .inr (11, [.ref (a 1), .ref (a 2), .ref (a 3), .ref (a 4), .ref (a 5), .ref (a 6), .ref (a 7), .ref (a 8), .ref (a 9), .ref (a 10), .ref (a 11), .ref (a 12), .int 100])), (a 3, .inl (cT, 4, .inr (.inr (.inr (.inr (fun j => if j < 4 then some (a (13 + j)) else none))))))] := hD
      subst wr_12
      exact W.iret (v := nI n * nI kk * 2) hx hb hr (fun t ht hW => ⟨⟨(nI n * nI kk * 2 : Int32), (), rfl, (lf_X11_build_14 a (nI n) (nI kk) c_2 c_5 n na nb rfl kk kka kkb rfl), bx0⟩, hS.F ht⟩) hS.2.2 dX11_build_51 hlocks
    · refine lv_iconst (v := (-1)) hx hb dX11_build_20 (by decide) ?_
      exact W.iret (v := (-1)) hx hb hr (fun t ht hW => ⟨⟨((-1) : Int32), (), rfl, (lf_X11_build_15 a n1 n2 c_2 c_5), bx0⟩, hS.F ht⟩) hS.2.2 dX11_build_21 hlocks

theorem lf_X12_cellOf_5 (f1 : Nat) (s1 : Nat) (d1 : Nat) (x_1 : Int32) (ex_1 : x_1 = 16 * nI f1) (x_2 : Int32) (ex_2 : x_2 = 2 * nI s1) (x_3 : Int32) (ex_3 : x_3 = x_1 + x_2) (x_4 : Int32) (ex_4 : x_4 = x_3 + nI d1) : (x_4 : Int32) = nI (16 * f1 + 2 * s1 + d1) := by
  subst_vars; rw [show (16 : Int32) = nI 16 from rfl, show (2 : Int32) = nI 2 from rfl, pk_mul, pk_mul, nI_add, nI_add]
set_option maxHeartbeats 4000000 in
set_option maxRecDepth 100000 in
theorem c_X12_cellOf (l : Launch) (D : va_G) (cI cB cZ cJ : ClassId) (tx : List (ClassId × FieldType)) (f1 : Nat) (s1 : Nat) (d1 : Nat) : RdI l D cI cB cZ cJ tx yX12_cellOf cX12_cellOf 3 (some .int) 0 [.int (nI f1), .int (nI s1), .int (nI d1)] [] (fun r => r = nI (16 * f1 + 2 * s1 + d1)) := by
  refine rdi_of2 (by decide) (Nat.le_of_ble_eq_true rfl) ?_
  intro p e s m below meth c A ls H locs hC hK hP hA hS hl
  obtain ⟨hx, hb, hr, hml, hown, hts, hlocks, hin⟩ := hC
  have hown : s.vm.findClass RX12 = some m.cls := hown
  have hl : lv_has ls 3 [(0, .int (nI f1)), (1, .int (nI s1)), (2, .int (nI d1))] := hl
  refine lv_bipush (v := 16) hx hb dX12_cellOf_0 (by decide) ?_
  refine lv_iload_n hx hb dX12_cellOf_2 rfl (lv_at hl 0 rfl) ?_
  refine lv_imul hx hb dX12_cellOf_3 ?_
  refine lv_topi (fun x_1 ex_1 => ?_)
  refine lv_iconst (v := 2) hx hb dX12_cellOf_4 (by decide) ?_
  refine lv_iload_n hx hb dX12_cellOf_5 rfl (lv_at hl 1 rfl) ?_
  refine lv_imul hx hb dX12_cellOf_6 ?_
  refine lv_topi (fun x_2 ex_2 => ?_)
  refine lv_iadd hx hb dX12_cellOf_7 ?_
  refine lv_topi (fun x_3 ex_3 => ?_)
  refine lv_iload_n hx hb dX12_cellOf_8 rfl (lv_at hl 2 rfl) ?_
  refine lv_iadd hx hb dX12_cellOf_9 ?_
  refine lv_topi (fun x_4 ex_4 => ?_)
  exact W.iret (v := x_4) hx hb hr (fun t ht hW => ⟨⟨(x_4 : Int32), (), rfl, (lf_X12_cellOf_5 f1 s1 d1 x_1 ex_1 x_2 ex_2 x_3 ex_3 x_4 ex_4), trivial⟩, hS.F ht⟩) hS.2.2 dX12_cellOf_10 hlocks

set_option maxHeartbeats 4000000 in
set_option maxRecDepth 100000 in
theorem c_X12_stands (l : Launch) (D : va_G) (cI cB cZ cJ : ClassId) (tx : List (ClassId × FieldType)) (h : Nat) (q : Nat → Nat) (i : Nat → Int32) (v2 : Int32) (v3 : Int32) (n1 : Int32) (n2 : Int32) (n3 : Int32) (h2 : i 2 = v2) (h3 : i 3 = v3) : WrV l D cI cB cZ cJ tx yX12_stands cX12_stands 4 none 1 0 0 [.ref h, .int n1, .int n2, .int n3] [(h, .inr (12, mG q i))] (fun (u : Nat → Int32) => u 2 = v2 ∧ u 3 = v3) (fun u => [(h, .inr (12, mG q u))]) := by
  refine wrv_of2 (by decide) (Nat.le_of_ble_eq_true rfl) ?_
  intro p e s m below meth c A ls H locs hC hK hP hD hA hS hl
  obtain ⟨hx, hb, hr, hml, hown, hts, hlocks, hin⟩ := hC
  have hown : s.vm.findClass RX12 = some m.cls := hown
  have hl : lv_has ls 4 [(0, .ref h), (1, .int n1), (2, .int n2), (3, .int n3)] := hl
  refine lv_aload_n hx hb dX12_stands_0 rfl (lv_at hl 0 rfl) ?_
  refine eWv (wr := []) (va_runV (As := []) (rest := []) ⟨hx, hb, hml, hown, hts⟩ (c_X12_clears l D cI cB cZ cJ tx h q i v2 v3 h2 h3 H.size) (zV hts k_1742 v_X12_clears ⟨Nat.le_of_ble_eq_true rfl, Nat.le_of_ble_eq_true rfl⟩) (pV (pxS hK hP hD [0] (by decide) rfl) hK hP 0 rfl rfl) rfl rfl hl.1 rfl (lv_room (Nat.le_of_ble_eq_true rfl)) dX12_stands_1 ⟨Nat.le_of_ble_eq_true rfl, Nat.le_of_ble_eq_true rfl⟩) hP hD hS hA [0] [] rfl rfl (by decide) (by decide) (fun u_2 H locs wr_1 hP hD hS => ?_)
  have hz_u_2 := wr_1
  have hP : va_P D vwCl [(h, .inr (12, mG q u_2))] H := hP
  have hD : va_D A [(h, .inr (12, mG q u_2))] := hD
  refine lv_aload_n hx hb dX12_stands_4 rfl (lv_at hl 0 rfl) ?_
  refine lv_iload_n hx hb dX12_stands_5 rfl (lv_at hl 1 rfl) ?_
  refine va_put (D := D) (ci := 12) (v := .int n1) (ty := .int) (C := RX12) (T := TX12) (N := 81) hx hb hts inT_X12 tyX12 tyX12_ok nmX12 hown hK.1 hP hD hS 0 rfl rfl 29 (by decide) (hts _ k_1382) (fun _ h9 => h9) rfl (by decide +kernel) rfl rfl (Nat.le_of_ble_eq_true rfl) dX12_stands_6 (fun H locs hP hD hS => ?_)
  obtain ⟨i_3, ei_3⟩ : ∃ z : Nat → Int32, z = upd u_2 29 n1 := ⟨_, rfl⟩
  have hi_3_2 : i_3 2 = v2 := by rw [ei_3]; exact hz_u_2.1
  have hi_3_3 : i_3 3 = v3 := by rw [ei_3]; exact hz_u_2.2
  have hi_3_29 : i_3 29 = n1 := by rw [ei_3]; rfl
  have hP : va_P D vwCl [(h, .inr (12, mG q i_3))] H := by rw [ei_3, ← mG_29]; exact hP
  have hD : va_D A [(h, .inr (12, mG q i_3))] := by rw [ei_3, ← mG_29]; exact hD
  refine lv_aload_n hx hb dX12_stands_9 rfl (lv_at hl 0 rfl) ?_
  refine lv_iload_n hx hb dX12_stands_10 rfl (lv_at hl 2 rfl) ?_
  refine va_put (D := D) (ci := 12) (v := .int n2) (ty := .int) (C := RX12) (T := TX12) (N := 81) hx hb hts inT_X12 tyX12 tyX12_ok nmX12 hown hK.1 hP hD hS 0 rfl rfl 30 (by decide) (hts _ k_1383) (fun _ h9 => h9) rfl (by decide +kernel) rfl rfl (Nat.le_of_ble_eq_true rfl) dX12_stands_11 (fun H locs hP hD hS => ?_)
  obtain ⟨i_4, ei_4⟩ : ∃ z : Nat → Int32, z = upd i_3 30 n2 := ⟨_, rfl⟩
  have hi_4_2 : i_4 2 = v2 := by rw [ei_4]; exact hi_3_2
  have hi_4_3 : i_4 3 = v3 := by rw [ei_4]; exact hi_3_3
  have hi_4_29 : i_4 29 = n1 := by rw [ei_4]; exact hi_3_29
  have hi_4_30 : i_4 30 = n2 := by rw [ei_4]; rfl
  have hP : va_P D vwCl [(h, .inr (12, mG q i_4))] H := by rw [ei_4, ← mG_30]; exact hP
  have hD : va_D A [(h, .inr (12, mG q i_4))] := by rw [ei_4, ← mG_30]; exact hD
  refine lv_aload_n hx hb dX12_stands_14 rfl (lv_at hl 0 rfl) ?_
  refine lv_iload_n hx hb dX12_stands_15 rfl (lv_at hl 3 rfl) ?_
  refine va_put (D := D) (ci := 12) (v := .int n3) (ty := .int) (C := RX12) (T := TX12) (N := 81) hx hb hts inT_X12 tyX12 tyX12_ok nmX12 hown hK.1 hP hD hS 0 rfl rfl 31 (by decide) (hts _ k_1384) (fun _ h9 => h9) rfl (by decide +kernel) rfl rfl (Nat.le_of_ble_eq_true rfl) dX12_stands_16 (fun H locs hP hD hS => ?_)
  obtain ⟨i_5, ei_5⟩ : ∃ z : Nat → Int32, z = upd i_4 31 n3 := ⟨_, rfl⟩
  have hi_5_2 : i_5 2 = v2 := by rw [ei_5]; exact hi_4_2
  have hi_5_3 : i_5 3 = v3 := by rw [ei_5]; exact hi_4_3
  have hi_5_29 : i_5 29 = n1 := by rw [ei_5]; exact hi_4_29
  have hi_5_30 : i_5 30 = n2 := by rw [ei_5]; exact hi_4_30
  have hi_5_31 : i_5 31 = n3 := by rw [ei_5]; rfl
  have hP : va_P D vwCl [(h, .inr (12, mG q i_5))] H := by rw [ei_5, ← mG_31]; exact hP
  have hD : va_D A [(h, .inr (12, mG q i_5))] := by rw [ei_5, ← mG_31]; exact hD
  refine lv_aload_n hx hb dX12_stands_19 rfl (lv_at hl 0 rfl) ?_
  refine lv_aload_n hx hb dX12_stands_20 rfl (lv_at hl 0 rfl) ?_
  refine va_get (D := D) (ci := 12) (v := .int (i_5 2)) (C := RX12) (T := TX12) (N := 81) hx hb hts inT_X12 hown hK.1 hP 0 rfl rfl 2 (by decide) (hts _ k_1355) (fun _ h9 => h9) rfl dX12_stands_21 ?_
  refine lv_topv (y := v2) hi_5_2 ?_
  refine va_put (D := D) (ci := 12) (v := .int v2) (ty := .int) (C := RX12) (T := TX12) (N := 81) hx hb hts inT_X12 tyX12 tyX12_ok nmX12 hown hK.1 hP hD hS 0 rfl rfl 32 (by decide) (hts _ k_1385) (fun _ h9 => h9) rfl (by decide +kernel) rfl rfl (Nat.le_of_ble_eq_true rfl) dX12_stands_24 (fun H locs hP hD hS => ?_)
  obtain ⟨i_6, ei_6⟩ : ∃ z : Nat → Int32, z = upd i_5 32 v2 := ⟨_, rfl⟩
  have hi_6_2 : i_6 2 = v2 := by rw [ei_6]; exact hi_5_2
  have hi_6_3 : i_6 3 = v3 := by rw [ei_6]; exact hi_5_3
  have hi_6_29 : i_6 29 = n1 := by rw [ei_6]; exact hi_5_29
  have hi_6_30 : i_6 30 = n2 := by rw [ei_6]; exact hi_5_30
  have hi_6_31 : i_6 31 = n3 := by rw [ei_6]; exact hi_5_31
  have hi_6_32 : i_6 32 = v2 := by rw [ei_6]; rfl
  have hP : va_P D vwCl [(h, .inr (12, mG q i_6))] H := by rw [ei_6, ← mG_32]; exact hP
  have hD : va_D A [(h, .inr (12, mG q i_6))] := by rw [ei_6, ← mG_32]; exact hD
  refine lv_aload_n hx hb dX12_stands_27 rfl (lv_at hl 0 rfl) ?_
  refine lv_iload_n hx hb dX12_stands_28 rfl (lv_at hl 1 rfl) ?_
  refine lv_aload_n hx hb dX12_stands_29 rfl (lv_at hl 0 rfl) ?_
  refine va_get (D := D) (ci := 12) (v := .int (i_6 2)) (C := RX12) (T := TX12) (N := 81) hx hb hts inT_X12 hown hK.1 hP 0 rfl rfl 2 (by decide) (hts _ k_1355) (fun _ h9 => h9) rfl dX12_stands_30 ?_
  refine lv_topv (y := v2) hi_6_2 ?_
  refine lv_iconst (v := 1) hx hb dX12_stands_33 (by decide) ?_
  refine lv_isub hx hb dX12_stands_34 ?_
  refine lv_topi (fun x_7 ex_7 => ?_)
  refine lv_iload_n hx hb dX12_stands_35 rfl (lv_at hl 1 rfl) ?_
  refine lv_isub hx hb dX12_stands_36 ?_
  refine lv_topi (fun x_8 ex_8 => ?_)
  refine lv_icmp_ge (tgt := 44) hx hb dX12_stands_37 (by decide) (fun c_9 => ?_) (fun c_9 => ?_)
  · refine lv_aload_n hx hb dX12_stands_44 rfl (lv_at hl 0 rfl) ?_
    refine va_get (D := D) (ci := 12) (v := .int (i_6 2)) (C := RX12) (T := TX12) (N := 81) hx hb hts inT_X12 hown hK.1 hP 0 rfl rfl 2 (by decide) (hts _ k_1355) (fun _ h9 => h9) rfl dX12_stands_45 ?_
    refine lv_topv (y := v2) hi_6_2 ?_
    refine lv_iconst (v := 1) hx hb dX12_stands_48 (by decide) ?_
    refine lv_isub hx hb dX12_stands_49 ?_
    refine lv_topi (fun x_10 ex_10 => ?_)
    refine lv_iload_n hx hb dX12_stands_50 rfl (lv_at hl 1 rfl) ?_
    refine lv_isub hx hb dX12_stands_51 ?_
    refine lv_topi (fun x_11 ex_11 => ?_)
    refine va_put (D := D) (ci := 12) (v := .int x_11) (ty := .int) (C := RX12) (T := TX12) (N := 81) hx hb hts inT_X12 tyX12 tyX12_ok nmX12 hown hK.1 hP hD hS 0 rfl rfl 33 (by decide) (hts _ k_1386) (fun _ h9 => h9) rfl (by decide +kernel) rfl rfl (Nat.le_of_ble_eq_true rfl) dX12_stands_52 (fun H locs hP hD hS => ?_)
    obtain ⟨i_12, ei_12⟩ : ∃ z : Nat → Int32, z = upd i_6 33 x_11 := ⟨_, rfl⟩
    have hi_12_2 : i_12 2 = v2 := by rw [ei_12]; exact hi_6_2
    have hi_12_3 : i_12 3 = v3 := by rw [ei_12]; exact hi_6_3
    have hi_12_29 : i_12 29 = n1 := by rw [ei_12]; exact hi_6_29
    have hi_12_30 : i_12 30 = n2 := by rw [ei_12]; exact hi_6_30
    have hi_12_31 : i_12 31 = n3 := by rw [ei_12]; exact hi_6_31
    have hi_12_32 : i_12 32 = v2 := by rw [ei_12]; exact hi_6_32
    have hi_12_33 : i_12 33 = x_11 := by rw [ei_12]; rfl
    have hP : va_P D vwCl [(h, .inr (12, mG q i_12))] H := by rw [ei_12, ← mG_33]; exact hP
    have hD : va_D A [(h, .inr (12, mG q i_12))] := by rw [ei_12, ← mG_33]; exact hD
    refine lv_aload_n hx hb dX12_stands_55 rfl (lv_at hl 0 rfl) ?_
    refine lv_aload_n hx hb dX12_stands_56 rfl (lv_at hl 0 rfl) ?_
    refine va_get (D := D) (ci := 12) (v := .int (i_12 3)) (C := RX12) (T := TX12) (N := 81) hx hb hts inT_X12 hown hK.1 hP 0 rfl rfl 3 (by decide) (hts _ k_1356) (fun _ h9 => h9) rfl dX12_stands_57 ?_
    refine lv_topv (y := v3) hi_12_3 ?_
    refine va_put (D := D) (ci := 12) (v := .int v3) (ty := .int) (C := RX12) (T := TX12) (N := 81) hx hb hts inT_X12 tyX12 tyX12_ok nmX12 hown hK.1 hP hD hS 0 rfl rfl 34 (by decide) (hts _ k_1387) (fun _ h9 => h9) rfl (by decide +kernel) rfl rfl (Nat.le_of_ble_eq_true rfl) dX12_stands_60 (fun H locs hP hD hS => ?_)
    obtain ⟨i_13, ei_13⟩ : ∃ z : Nat → Int32, z = upd i_12 34 v3 := ⟨_, rfl⟩
    have hi_13_2 : i_13 2 = v2 := by rw [ei_13]; exact hi_12_2
    have hi_13_3 : i_13 3 = v3 := by rw [ei_13]; exact hi_12_3
    have hi_13_29 : i_13 29 = n1 := by rw [ei_13]; exact hi_12_29
    have hi_13_30 : i_13 30 = n2 := by rw [ei_13]; exact hi_12_30
    have hi_13_31 : i_13 31 = n3 := by rw [ei_13]; exact hi_12_31
    have hi_13_32 : i_13 32 = v2 := by rw [ei_13]; exact hi_12_32
    have hi_13_33 : i_13 33 = x_11 := by rw [ei_13]; exact hi_12_33
    have hi_13_34 : i_13 34 = v3 := by rw [ei_13]; rfl
    have hP : va_P D vwCl [(h, .inr (12, mG q i_13))] H := by rw [ei_13, ← mG_34]; exact hP
    have hD : va_D A [(h, .inr (12, mG q i_13))] := by rw [ei_13, ← mG_34]; exact hD
    exact W.vret hx hb hr (fun t ht hW => ⟨⟨i_13, rfl, ⟨hi_13_2, hi_13_3⟩, ⟨by rw [ht]; exact hP, hD⟩⟩, hS.F ht⟩) hS.2.2 dX12_stands_63 hlocks
  · refine lv_iload_n hx hb dX12_stands_40 rfl (lv_at hl 1 rfl) ?_
    refine lv_goto (tgt := 52) hx hb dX12_stands_41 (by decide) ?_
    refine va_put (D := D) (ci := 12) (v := .int n1) (ty := .int) (C := RX12) (T := TX12) (N := 81) hx hb hts inT_X12 tyX12 tyX12_ok nmX12 hown hK.1 hP hD hS 0 rfl rfl 33 (by decide) (hts _ k_1386) (fun _ h9 => h9) rfl (by decide +kernel) rfl rfl (Nat.le_of_ble_eq_true rfl) dX12_stands_52 (fun H locs hP hD hS => ?_)
    obtain ⟨i_14, ei_14⟩ : ∃ z : Nat → Int32, z = upd i_6 33 n1 := ⟨_, rfl⟩
    have hi_14_2 : i_14 2 = v2 := by rw [ei_14]; exact hi_6_2
    have hi_14_3 : i_14 3 = v3 := by rw [ei_14]; exact hi_6_3
    have hi_14_29 : i_14 29 = n1 := by rw [ei_14]; exact hi_6_29
    have hi_14_30 : i_14 30 = n2 := by rw [ei_14]; exact hi_6_30
    have hi_14_31 : i_14 31 = n3 := by rw [ei_14]; exact hi_6_31
    have hi_14_32 : i_14 32 = v2 := by rw [ei_14]; exact hi_6_32
    have hi_14_33 : i_14 33 = n1 := by rw [ei_14]; rfl
    have hP : va_P D vwCl [(h, .inr (12, mG q i_14))] H := by rw [ei_14, ← mG_33]; exact hP
    have hD : va_D A [(h, .inr (12, mG q i_14))] := by rw [ei_14, ← mG_33]; exact hD
    refine lv_aload_n hx hb dX12_stands_55 rfl (lv_at hl 0 rfl) ?_
    refine lv_aload_n hx hb dX12_stands_56 rfl (lv_at hl 0 rfl) ?_
    refine va_get (D := D) (ci := 12) (v := .int (i_14 3)) (C := RX12) (T := TX12) (N := 81) hx hb hts inT_X12 hown hK.1 hP 0 rfl rfl 3 (by decide) (hts _ k_1356) (fun _ h9 => h9) rfl dX12_stands_57 ?_
    refine lv_topv (y := v3) hi_14_3 ?_
    refine va_put (D := D) (ci := 12) (v := .int v3) (ty := .int) (C := RX12) (T := TX12) (N := 81) hx hb hts inT_X12 tyX12 tyX12_ok nmX12 hown hK.1 hP hD hS 0 rfl rfl 34 (by decide) (hts _ k_1387) (fun _ h9 => h9) rfl (by decide +kernel) rfl rfl (Nat.le_of_ble_eq_true rfl) dX12_stands_60 (fun H locs hP hD hS => ?_)
    obtain ⟨i_15, ei_15⟩ : ∃ z : Nat → Int32, z = upd i_14 34 v3 := ⟨_, rfl⟩
    have hi_15_2 : i_15 2 = v2 := by rw [ei_15]; exact hi_14_2
    have hi_15_3 : i_15 3 = v3 := by rw [ei_15]; exact hi_14_3
    have hi_15_29 : i_15 29 = n1 := by rw [ei_15]; exact hi_14_29
    have hi_15_30 : i_15 30 = n2 := by rw [ei_15]; exact hi_14_30
    have hi_15_31 : i_15 31 = n3 := by rw [ei_15]; exact hi_14_31
    have hi_15_32 : i_15 32 = v2 := by rw [ei_15]; exact hi_14_32
    have hi_15_33 : i_15 33 = n1 := by rw [ei_15]; exact hi_14_33
    have hi_15_34 : i_15 34 = v3 := by rw [ei_15]; rfl
    have hP : va_P D vwCl [(h, .inr (12, mG q i_15))] H := by rw [ei_15, ← mG_34]; exact hP
    have hD : va_D A [(h, .inr (12, mG q i_15))] := by rw [ei_15, ← mG_34]; exact hD
    exact W.vret hx hb hr (fun t ht hW => ⟨⟨i_15, rfl, ⟨hi_15_2, hi_15_3⟩, ⟨by rw [ht]; exact hP, hD⟩⟩, hS.F ht⟩) hS.2.2 dX12_stands_63 hlocks

theorem lf_X12_build_3 (h : Nat) (q : Nat → Nat) (i : Nat → Int32) (f : Nat → Int32) (n1 : Int32) (n2 : Int32) (c_2 : ¬ ((3 : Int32) ≤ n1 ∧ n1 ≤ 24)) : ((-1) : Int32) = sp_build n1 n2 := by
  subst_vars; unfold sp_build; first | (rw [if_pos ⟨by assumption, by assumption⟩, Int32.mul_comm 2, Int32.mul_assoc, Int32.mul_comm 2, ← Int32.mul_assoc]; done) | (rw [if_neg (by grind)]; done)
theorem lf_X12_build_17 (h : Nat) (q : Nat → Nat) (i : Nat → Int32) (f : Nat → Int32) (n1 : Int32) (n2 : Int32) (c_2 : (3 : Int32) ≤ n1 ∧ n1 ≤ 24) (c_5 : (1 : Int32) ≤ n2 ∧ n2 ≤ 8) (n : Nat) (na : 3 ≤ n) (nb : n ≤ 24) (ne : n1 = nI n) (kk : Nat) (kka : 1 ≤ kk) (kkb : kk ≤ 8) (kke : n2 = nI kk) (i_6 : Nat → Int32) (i_7 : Nat → Int32) (i_8 : Nat → Int32) (i_9 : Nat → Int32) (i_10 : Nat → Int32) (j0 : Nat) (y55_q73 : Nat → Int32) (k55 : Nat) (hj55 : j0 ≤ 48) (hk55 : 48 < j0 + (k55 + 1)) (c_11 : 48 ≤ nI j0) (j1 : Nat) (y76_q44 : Nat → Int32) (y76_q45 : Nat → Int32) (y76_q46 : Nat → Int32) (y76_q47 : Nat → Int32) (i76 : Nat → Int32) (k76 : Nat) (hj76 : j1 ≤ n) (hk76 : n < j1 + (k76 + 1)) (hi76_2 : i76 2 = nI n) (hi76_3 : i76 3 = nI kk) (c_12 : nI n ≤ nI j1) (x_15 : Int32) (ex_15 : x_15 = 2 * nI n) (x_16 : Int32) (ex_16 : x_16 = x_15 * nI kk) : (x_16 : Int32) = sp_build n1 n2 := by
  subst_vars; unfold sp_build; first | (rw [if_pos ⟨by assumption, by assumption⟩, Int32.mul_comm 2, Int32.mul_assoc, Int32.mul_comm 2, ← Int32.mul_assoc]; done) | (rw [if_neg (by grind)]; done)
theorem lf_X12_build_18 (h : Nat) (q : Nat → Nat) (i : Nat → Int32) (f : Nat → Int32) (n1 : Int32) (n2 : Int32) (c_2 : (3 : Int32) ≤ n1 ∧ n1 ≤ 24) (c_5 : (1 : Int32) ≤ n2 ∧ n2 ≤ 8) (n : Nat) (na : 3 ≤ n) (nb : n ≤ 24) (ne : n1 = nI n) (kk : Nat) (kka : 1 ≤ kk) (kkb : kk ≤ 8) (kke : n2 = nI kk) (i_6 : Nat → Int32) (i_7 : Nat → Int32) (i_8 : Nat → Int32) (i_9 : Nat → Int32) (i_10 : Nat → Int32) (j0 : Nat) (y55_q73 : Nat → Int32) (k55 : Nat) (hj55 : j0 ≤ 48) (hk55 : 48 < j0 + (k55 + 1)) (c_11 : 48 ≤ nI j0) (j1 : Nat) (y76_q44 : Nat → Int32) (y76_q45 : Nat → Int32) (y76_q46 : Nat → Int32) (y76_q47 : Nat → Int32) (i76 : Nat → Int32) (k76 : Nat) (hj76 : j1 ≤ n) (hk76 : n < j1 + (k76 + 1)) (hi76_2 : i76 2 = nI n) (hi76_3 : i76 3 = nI kk) (c_12 : ¬ nI n ≤ nI j1) : j1 < n := by
  rcases Nat.lt_or_ge j1 n with q | q
  · exact q
  · exact absurd (nI_le q (by omega)) (by assumption)
theorem lf_X12_build_22 (h : Nat) (q : Nat → Nat) (i : Nat → Int32) (f : Nat → Int32) (n1 : Int32) (n2 : Int32) (c_2 : (3 : Int32) ≤ n1 ∧ n1 ≤ 24) (c_5 : (1 : Int32) ≤ n2 ∧ n2 ≤ 8) (n : Nat) (na : 3 ≤ n) (nb : n ≤ 24) (ne : n1 = nI n) (kk : Nat) (kka : 1 ≤ kk) (kkb : kk ≤ 8) (kke : n2 = nI kk) (i_6 : Nat → Int32) (i_7 : Nat → Int32) (i_8 : Nat → Int32) (i_9 : Nat → Int32) (i_10 : Nat → Int32) (j0 : Nat) (y55_q73 : Nat → Int32) (k55 : Nat) (hj55 : j0 ≤ 48) (hk55 : 48 < j0 + (k55 + 1)) (c_11 : 48 ≤ nI j0) (j1 : Nat) (y76_q44 : Nat → Int32) (y76_q45 : Nat → Int32) (y76_q46 : Nat → Int32) (y76_q47 : Nat → Int32) (i76 : Nat → Int32) (k76 : Nat) (hj76 : j1 ≤ n) (hk76 : n < j1 + (k76 + 1)) (hi76_2 : i76 2 = nI n) (hi76_3 : i76 3 = nI kk) (c_12 : ¬ nI n ≤ nI j1) (hlt76 : j1 < n) (j2 : Nat) (y84_q44 : Nat → Int32) (y84_q45 : Nat → Int32) (y84_q46 : Nat → Int32) (y84_q47 : Nat → Int32) (i84 : Nat → Int32) (k84 : Nat) (hj84 : j2 ≤ kk) (hk84 : kk < j2 + (k84 + 1)) (hi84_2 : i84 2 = nI n) (hi84_3 : i84 3 = nI kk) (c_19 : ¬ nI kk ≤ nI j2) : j2 < kk := by
  rcases Nat.lt_or_ge j2 kk with q | q
  · exact q
  · exact absurd (nI_le q (by omega)) (by assumption)
theorem lf_X12_build_26 (h : Nat) (q : Nat → Nat) (i : Nat → Int32) (f : Nat → Int32) (n1 : Int32) (n2 : Int32) (c_2 : (3 : Int32) ≤ n1 ∧ n1 ≤ 24) (c_5 : (1 : Int32) ≤ n2 ∧ n2 ≤ 8) (n : Nat) (na : 3 ≤ n) (nb : n ≤ 24) (ne : n1 = nI n) (kk : Nat) (kka : 1 ≤ kk) (kkb : kk ≤ 8) (kke : n2 = nI kk) (i_6 : Nat → Int32) (i_7 : Nat → Int32) (i_8 : Nat → Int32) (i_9 : Nat → Int32) (i_10 : Nat → Int32) (j0 : Nat) (y55_q73 : Nat → Int32) (k55 : Nat) (hj55 : j0 ≤ 48) (hk55 : 48 < j0 + (k55 + 1)) (c_11 : 48 ≤ nI j0) (j1 : Nat) (y76_q44 : Nat → Int32) (y76_q45 : Nat → Int32) (y76_q46 : Nat → Int32) (y76_q47 : Nat → Int32) (i76 : Nat → Int32) (k76 : Nat) (hj76 : j1 ≤ n) (hk76 : n < j1 + (k76 + 1)) (hi76_2 : i76 2 = nI n) (hi76_3 : i76 3 = nI kk) (c_12 : ¬ nI n ≤ nI j1) (hlt76 : j1 < n) (j2 : Nat) (y84_q44 : Nat → Int32) (y84_q45 : Nat → Int32) (y84_q46 : Nat → Int32) (y84_q47 : Nat → Int32) (i84 : Nat → Int32) (k84 : Nat) (hj84 : j2 ≤ kk) (hk84 : kk < j2 + (k84 + 1)) (hi84_2 : i84 2 = nI n) (hi84_3 : i84 3 = nI kk) (c_19 : ¬ nI kk ≤ nI j2) (hlt84 : j2 < kk) (j3 : Nat) (y93_q44 : Nat → Int32) (y93_q45 : Nat → Int32) (y93_q46 : Nat → Int32) (y93_q47 : Nat → Int32) (i93 : Nat → Int32) (k93 : Nat) (hj93 : j3 ≤ 2) (hk93 : 2 < j3 + (k93 + 1)) (hi93_2 : i93 2 = nI n) (hi93_3 : i93 3 = nI kk) (c_23 : ¬ 2 ≤ nI j3) : j3 < 2 := by
  rcases Nat.lt_or_ge j3 2 with q | q
  · exact q
  · exact absurd (nI_le q (by omega)) (by assumption)
theorem lf_X12_build_31 (h : Nat) (q : Nat → Nat) (i : Nat → Int32) (f : Nat → Int32) (n1 : Int32) (n2 : Int32) (c_2 : (3 : Int32) ≤ n1 ∧ n1 ≤ 24) (c_5 : (1 : Int32) ≤ n2 ∧ n2 ≤ 8) (n : Nat) (na : 3 ≤ n) (nb : n ≤ 24) (ne : n1 = nI n) (kk : Nat) (kka : 1 ≤ kk) (kkb : kk ≤ 8) (kke : n2 = nI kk) (i_6 : Nat → Int32) (i_7 : Nat → Int32) (i_8 : Nat → Int32) (i_9 : Nat → Int32) (i_10 : Nat → Int32) (j0 : Nat) (y55_q73 : Nat → Int32) (k55 : Nat) (hj55 : j0 ≤ 48) (hk55 : 48 < j0 + (k55 + 1)) (c_11 : 48 ≤ nI j0) (j1 : Nat) (y76_q44 : Nat → Int32) (y76_q45 : Nat → Int32) (y76_q46 : Nat → Int32) (y76_q47 : Nat → Int32) (i76 : Nat → Int32) (k76 : Nat) (hj76 : j1 ≤ n) (hk76 : n < j1 + (k76 + 1)) (hi76_2 : i76 2 = nI n) (hi76_3 : i76 3 = nI kk) (c_12 : ¬ nI n ≤ nI j1) (hlt76 : j1 < n) (j2 : Nat) (y84_q44 : Nat → Int32) (y84_q45 : Nat → Int32) (y84_q46 : Nat → Int32) (y84_q47 : Nat → Int32) (i84 : Nat → Int32) (k84 : Nat) (hj84 : j2 ≤ kk) (hk84 : kk < j2 + (k84 + 1)) (hi84_2 : i84 2 = nI n) (hi84_3 : i84 3 = nI kk) (c_19 : ¬ nI kk ≤ nI j2) (hlt84 : j2 < kk) (j3 : Nat) (y93_q44 : Nat → Int32) (y93_q45 : Nat → Int32) (y93_q46 : Nat → Int32) (y93_q47 : Nat → Int32) (i93 : Nat → Int32) (k93 : Nat) (hj93 : j3 ≤ 2) (hk93 : 2 < j3 + (k93 + 1)) (hi93_2 : i93 2 = nI n) (hi93_3 : i93 3 = nI kk) (c_23 : ¬ 2 ≤ nI j3) (hlt93 : j3 < 2) : vp_in (nI (16 * j1 + 2 * j2 + j3)) 384 := by
  first | (unfold vp_in; decide) | (exact vp_in_nI (by omega) (by decide))
theorem lf_X12_build_34 (h : Nat) (q : Nat → Nat) (i : Nat → Int32) (f : Nat → Int32) (n1 : Int32) (n2 : Int32) (c_2 : (3 : Int32) ≤ n1 ∧ n1 ≤ 24) (c_5 : (1 : Int32) ≤ n2 ∧ n2 ≤ 8) (n : Nat) (na : 3 ≤ n) (nb : n ≤ 24) (ne : n1 = nI n) (kk : Nat) (kka : 1 ≤ kk) (kkb : kk ≤ 8) (kke : n2 = nI kk) (i_6 : Nat → Int32) (i_7 : Nat → Int32) (i_8 : Nat → Int32) (i_9 : Nat → Int32) (i_10 : Nat → Int32) (j0 : Nat) (y55_q73 : Nat → Int32) (k55 : Nat) (hj55 : j0 ≤ 48) (hk55 : 48 < j0 + (k55 + 1)) (c_11 : 48 ≤ nI j0) (j1 : Nat) (y76_q44 : Nat → Int32) (y76_q45 : Nat → Int32) (y76_q46 : Nat → Int32) (y76_q47 : Nat → Int32) (i76 : Nat → Int32) (k76 : Nat) (hj76 : j1 ≤ n) (hk76 : n < j1 + (k76 + 1)) (hi76_2 : i76 2 = nI n) (hi76_3 : i76 3 = nI kk) (c_12 : ¬ nI n ≤ nI j1) (hlt76 : j1 < n) (j2 : Nat) (y84_q44 : Nat → Int32) (y84_q45 : Nat → Int32) (y84_q46 : Nat → Int32) (y84_q47 : Nat → Int32) (i84 : Nat → Int32) (k84 : Nat) (hj84 : j2 ≤ kk) (hk84 : kk < j2 + (k84 + 1)) (hi84_2 : i84 2 = nI n) (hi84_3 : i84 3 = nI kk) (c_19 : ¬ nI kk ≤ nI j2) (hlt84 : j2 < kk) (j3 : Nat) (y93_q44 : Nat → Int32) (y93_q45 : Nat → Int32) (y93_q46 : Nat → Int32) (y93_q47 : Nat → Int32) (i93 : Nat → Int32) (k93 : Nat) (hj93 : j3 ≤ 2) (hk93 : 2 < j3 + (k93 + 1)) (hi93_2 : i93 2 = nI n) (hi93_3 : i93 3 = nI kk) (c_23 : ¬ 2 ≤ nI j3) (hlt93 : j3 < 2) : vp_in (nI (16 * j1 + 2 * j2 + j3)) 384 := by
  first | (unfold vp_in; decide) | (exact vp_in_nI (by omega) (by decide))
theorem lf_X12_build_36 (h : Nat) (q : Nat → Nat) (i : Nat → Int32) (f : Nat → Int32) (n1 : Int32) (n2 : Int32) (c_2 : (3 : Int32) ≤ n1 ∧ n1 ≤ 24) (c_5 : (1 : Int32) ≤ n2 ∧ n2 ≤ 8) (n : Nat) (na : 3 ≤ n) (nb : n ≤ 24) (ne : n1 = nI n) (kk : Nat) (kka : 1 ≤ kk) (kkb : kk ≤ 8) (kke : n2 = nI kk) (i_6 : Nat → Int32) (i_7 : Nat → Int32) (i_8 : Nat → Int32) (i_9 : Nat → Int32) (i_10 : Nat → Int32) (j0 : Nat) (y55_q73 : Nat → Int32) (k55 : Nat) (hj55 : j0 ≤ 48) (hk55 : 48 < j0 + (k55 + 1)) (c_11 : 48 ≤ nI j0) (j1 : Nat) (y76_q44 : Nat → Int32) (y76_q45 : Nat → Int32) (y76_q46 : Nat → Int32) (y76_q47 : Nat → Int32) (i76 : Nat → Int32) (k76 : Nat) (hj76 : j1 ≤ n) (hk76 : n < j1 + (k76 + 1)) (hi76_2 : i76 2 = nI n) (hi76_3 : i76 3 = nI kk) (c_12 : ¬ nI n ≤ nI j1) (hlt76 : j1 < n) (j2 : Nat) (y84_q44 : Nat → Int32) (y84_q45 : Nat → Int32) (y84_q46 : Nat → Int32) (y84_q47 : Nat → Int32) (i84 : Nat → Int32) (k84 : Nat) (hj84 : j2 ≤ kk) (hk84 : kk < j2 + (k84 + 1)) (hi84_2 : i84 2 = nI n) (hi84_3 : i84 3 = nI kk) (c_19 : ¬ nI kk ≤ nI j2) (hlt84 : j2 < kk) (j3 : Nat) (y93_q44 : Nat → Int32) (y93_q45 : Nat → Int32) (y93_q46 : Nat → Int32) (y93_q47 : Nat → Int32) (i93 : Nat → Int32) (k93 : Nat) (hj93 : j3 ≤ 2) (hk93 : 2 < j3 + (k93 + 1)) (hi93_2 : i93 2 = nI n) (hi93_3 : i93 3 = nI kk) (c_23 : ¬ 2 ≤ nI j3) (hlt93 : j3 < 2) : vp_in (nI (16 * j1 + 2 * j2 + j3)) 384 := by
  first | (unfold vp_in; decide) | (exact vp_in_nI (by omega) (by decide))
theorem lf_X12_build_38 (h : Nat) (q : Nat → Nat) (i : Nat → Int32) (f : Nat → Int32) (n1 : Int32) (n2 : Int32) (c_2 : (3 : Int32) ≤ n1 ∧ n1 ≤ 24) (c_5 : (1 : Int32) ≤ n2 ∧ n2 ≤ 8) (n : Nat) (na : 3 ≤ n) (nb : n ≤ 24) (ne : n1 = nI n) (kk : Nat) (kka : 1 ≤ kk) (kkb : kk ≤ 8) (kke : n2 = nI kk) (i_6 : Nat → Int32) (i_7 : Nat → Int32) (i_8 : Nat → Int32) (i_9 : Nat → Int32) (i_10 : Nat → Int32) (j0 : Nat) (y55_q73 : Nat → Int32) (k55 : Nat) (hj55 : j0 ≤ 48) (hk55 : 48 < j0 + (k55 + 1)) (c_11 : 48 ≤ nI j0) (j1 : Nat) (y76_q44 : Nat → Int32) (y76_q45 : Nat → Int32) (y76_q46 : Nat → Int32) (y76_q47 : Nat → Int32) (i76 : Nat → Int32) (k76 : Nat) (hj76 : j1 ≤ n) (hk76 : n < j1 + (k76 + 1)) (hi76_2 : i76 2 = nI n) (hi76_3 : i76 3 = nI kk) (c_12 : ¬ nI n ≤ nI j1) (hlt76 : j1 < n) (j2 : Nat) (y84_q44 : Nat → Int32) (y84_q45 : Nat → Int32) (y84_q46 : Nat → Int32) (y84_q47 : Nat → Int32) (i84 : Nat → Int32) (k84 : Nat) (hj84 : j2 ≤ kk) (hk84 : kk < j2 + (k84 + 1)) (hi84_2 : i84 2 = nI n) (hi84_3 : i84 3 = nI kk) (c_19 : ¬ nI kk ≤ nI j2) (hlt84 : j2 < kk) (j3 : Nat) (y93_q44 : Nat → Int32) (y93_q45 : Nat → Int32) (y93_q46 : Nat → Int32) (y93_q47 : Nat → Int32) (i93 : Nat → Int32) (k93 : Nat) (hj93 : j3 ≤ 2) (hk93 : 2 < j3 + (k93 + 1)) (hi93_2 : i93 2 = nI n) (hi93_3 : i93 3 = nI kk) (c_23 : ¬ 2 ≤ nI j3) (hlt93 : j3 < 2) : vp_in (nI (16 * j1 + 2 * j2 + j3)) 384 := by
  first | (unfold vp_in; decide) | (exact vp_in_nI (by omega) (by decide))
theorem lf_X12_build_42 (h : Nat) (q : Nat → Nat) (i : Nat → Int32) (f : Nat → Int32) (n1 : Int32) (n2 : Int32) (c_2 : (3 : Int32) ≤ n1 ∧ n1 ≤ 24) (c_5 : (1 : Int32) ≤ n2 ∧ n2 ≤ 8) (n : Nat) (na : 3 ≤ n) (nb : n ≤ 24) (ne : n1 = nI n) (kk : Nat) (kka : 1 ≤ kk) (kkb : kk ≤ 8) (kke : n2 = nI kk) (i_6 : Nat → Int32) (i_7 : Nat → Int32) (i_8 : Nat → Int32) (i_9 : Nat → Int32) (i_10 : Nat → Int32) (j0 : Nat) (y55_q73 : Nat → Int32) (k55 : Nat) (hj55 : j0 ≤ 48) (hk55 : 48 < j0 + (k55 + 1)) (c_11 : ¬ 48 ≤ nI j0) : j0 < 48 := by
  rcases Nat.lt_or_ge j0 48 with q | q
  · exact q
  · exact absurd (nI_le q (by omega)) (by assumption)
theorem lf_X12_build_43 (h : Nat) (q : Nat → Nat) (i : Nat → Int32) (f : Nat → Int32) (n1 : Int32) (n2 : Int32) (c_2 : (3 : Int32) ≤ n1 ∧ n1 ≤ 24) (c_5 : (1 : Int32) ≤ n2 ∧ n2 ≤ 8) (n : Nat) (na : 3 ≤ n) (nb : n ≤ 24) (ne : n1 = nI n) (kk : Nat) (kka : 1 ≤ kk) (kkb : kk ≤ 8) (kke : n2 = nI kk) (i_6 : Nat → Int32) (i_7 : Nat → Int32) (i_8 : Nat → Int32) (i_9 : Nat → Int32) (i_10 : Nat → Int32) (j0 : Nat) (y55_q73 : Nat → Int32) (k55 : Nat) (hj55 : j0 ≤ 48) (hk55 : 48 < j0 + (k55 + 1)) (c_11 : ¬ 48 ≤ nI j0) (hlt55 : j0 < 48) : vp_in (nI j0) 48 := by
  first | (unfold vp_in; decide) | (exact vp_in_nI (by omega) (by decide))
theorem lf_X12_build_47 (h : Nat) (q : Nat → Nat) (i : Nat → Int32) (f : Nat → Int32) (n1 : Int32) (n2 : Int32) (c_2 : (3 : Int32) ≤ n1 ∧ n1 ≤ 24) (c_5 : ¬ ((1 : Int32) ≤ n2 ∧ n2 ≤ 8)) : ((-1) : Int32) = sp_build n1 n2 := by
  subst_vars; unfold sp_build; first | (rw [if_pos ⟨by assumption, by assumption⟩, Int32.mul_comm 2, Int32.mul_assoc, Int32.mul_comm 2, ← Int32.mul_assoc]; done) | (rw [if_neg (by grind)]; done)
set_option maxHeartbeats 4000000 in
set_option maxRecDepth 100000 in
theorem c_X12_build (l : Launch) (D : va_G) (cI cB cZ cJ : ClassId) (tx : List (ClassId × FieldType)) (h : Nat) (q : Nat → Nat) (i : Nat → Int32) (f : Nat → Int32) (n1 : Int32) (n2 : Int32) : WrI l D cI cB cZ cJ tx yX12_build cX12_build 7 (some .int) 2 0 0 [.ref h, .int n1, .int n2] [(h, .inr (12, mG q i)), (q 73, .inl (cI, 48, .inl f)), (q 6, .inl (cI, 3, .inl (fun _ => 0))), (q 44, .inl (cI, 384, .inl (fun _ => 0))), (q 45, .inl (cI, 384, .inl (fun _ => 0))), (q 46, .inl (cZ, 384, .inl (fun _ => 0))), (q 47, .inl (cI, 384, .inl (fun _ => 0))), (q 66, .inl (cZ, 8, .inl (fun _ => 0)))] (fun (r : Int32) (_ : Unit) => r = sp_build n1 n2) (fun _ => []) := by
  refine wri_of2 (by decide) (Nat.le_of_ble_eq_true rfl) ?_
  intro p e s m below meth c A ls H locs hC hK hP hD hA hS hl
  obtain ⟨hx, hb, hr, hml, hown, hts, hlocks, hin⟩ := hC
  have hown : s.vm.findClass RX12 = some m.cls := hown
  have hl : lv_has ls 7 [(0, .ref h), (1, .int n1), (2, .int n2)] := hl
  refine lv_iload_n hx hb dX12_build_0 rfl (lv_at hl 1 rfl) ?_
  refine lv_i2l (v := n1.toInt64) hx hb dX12_build_1 rfl ?_
  refine lv_ldc2 (v := 3) hx hb hown (hts _ k_1732) dX12_build_2 ?_
  refine lv_ldc2 (v := 24) hx hb hown (hts _ k_1733) dX12_build_5 ?_
  refine eRi (va_runS (As := [.long n1.toInt64, .long 3, .long 24]) (rest := []) ⟨hx, hb, hml, hown, hts⟩ (c_X12_isIn l D cI cB cZ cJ tx n1.toInt64 3 24 H.size) (zS hts k_1602 v_X12_isIn ⟨Nat.le_of_ble_eq_true rfl, Nat.le_of_ble_eq_true rfl⟩) (px0 hK) rfl rfl hl.1 rfl (lv_room (Nat.le_of_ble_eq_true rfl)) dX12_build_8 ⟨Nat.le_of_ble_eq_true rfl, Nat.le_of_ble_eq_true rfl⟩) hP hS hA (fun r_1 H locs wr_1 hP hS => ?_)
  have wr_1 : r_1 = bi ((3 : Int32) ≤ n1 ∧ n1 ≤ 24) := isIn32 (lo := 3) (hi := 24) (by decide) (by decide) wr_1
  subst wr_1
  refine lv_bi_eq (tgt := 26) hx hb dX12_build_11 (by decide) (fun c_2 => ?_) (fun c_2 => ?_)
  · refine lv_iconst (v := (-1)) hx hb dX12_build_26 (by decide) ?_
    exact W.iret (v := (-1)) hx hb hr (fun t ht hW => ⟨⟨((-1) : Int32), (), rfl, (lf_X12_build_3 h q i f n1 n2 c_2), bx0⟩, hS.F ht⟩) hS.2.2 dX12_build_27 hlocks
  · refine lv_iload_n hx hb dX12_build_14 rfl (lv_at hl 2 rfl) ?_
    refine lv_i2l (v := n2.toInt64) hx hb dX12_build_15 rfl ?_
    refine lv_lconst (v := 1) hx hb dX12_build_16 (by decide) ?_
    refine lv_ldc2 (v := 8) hx hb hown (hts _ k_1734) dX12_build_17 ?_
    refine eRi (va_runS (As := [.long n2.toInt64, .long 1, .long 8]) (rest := []) ⟨hx, hb, hml, hown, hts⟩ (c_X12_isIn l D cI cB cZ cJ tx n2.toInt64 1 8 H.size) (zS hts k_1602 v_X12_isIn ⟨Nat.le_of_ble_eq_true rfl, Nat.le_of_ble_eq_true rfl⟩) (px0 hK) rfl rfl hl.1 rfl (lv_room (Nat.le_of_ble_eq_true rfl)) dX12_build_20 ⟨Nat.le_of_ble_eq_true rfl, Nat.le_of_ble_eq_true rfl⟩) hP hS hA (fun r_4 H locs wr_4 hP hS => ?_)
    have wr_4 : r_4 = bi ((1 : Int32) ≤ n2 ∧ n2 ≤ 8) := isIn32 (lo := 1) (hi := 8) (by decide) (by decide) wr_4
    subst wr_4
    refine lv_bi_ne (tgt := 28) hx hb dX12_build_23 (by decide) (fun c_5 => ?_) (fun c_5 => ?_)
    · obtain ⟨n, na, nb, ne⟩ := of_rng 3 24 rfl rfl c_2
      subst ne
      obtain ⟨kk, kka, kkb, kke⟩ := of_rng 1 8 rfl rfl c_5
      subst kke
      refine lv_aload_n hx hb dX12_build_28 rfl (lv_at hl 0 rfl) ?_
      refine lv_iload_n hx hb dX12_build_29 rfl (lv_at hl 1 rfl) ?_
      refine va_put (D := D) (ci := 12) (v := .int (nI n)) (ty := .int) (C := RX12) (T := TX12) (N := 81) hx hb hts inT_X12 tyX12 tyX12_ok nmX12 hown hK.1 hP hD hS 0 rfl rfl 2 (by decide) (hts _ k_1355) (fun _ h9 => h9) rfl (by decide +kernel) rfl rfl (Nat.le_of_ble_eq_true rfl) dX12_build_30 (fun H locs hP hD hS => ?_)
      obtain ⟨i_6, ei_6⟩ : ∃ z : Nat → Int32, z = upd i 2 (nI n) := ⟨_, rfl⟩
      have hi_6_2 : i_6 2 = nI n := by rw [ei_6]; rfl
      have hP : va_P D vwCl [(h, .inr (12, mG q i_6)), (q 73, .inl (cI, 48, .inl f)), (q 6, .inl (cI, 3, .inl (fun _ => 0))), (q 44, .inl (cI, 384, .inl (fun _ => 0))), (q 45, .inl (cI, 384, .inl (fun _ => 0))), (q 46, .inl (cZ, 384, .inl (fun _ => 0))), (q 47, .inl (cI, 384, .inl (fun _ => 0))), (q 66, .inl (cZ, 8, .inl (fun _ => 0)))] H := by rw [ei_6, ← mG_2]; exact hP
      have hD : va_D A [(h, .inr (12, mG q i_6)), (q 73, .inl (cI, 48, .inl f)), (q 6, .inl (cI, 3, .inl (fun _ => 0))), (q 44, .inl (cI, 384, .inl (fun _ => 0))), (q 45, .inl (cI, 384, .inl (fun _ => 0))), (q 46, .inl (cZ, 384, .inl (fun _ => 0))), (q 47, .inl (cI, 384, .inl (fun _ => 0))), (q 66, .inl (cZ, 8, .inl (fun _ => 0)))] := by rw [ei_6, ← mG_2]; exact hD
      refine lv_aload_n hx hb dX12_build_33 rfl (lv_at hl 0 rfl) ?_
      refine lv_iload_n hx hb dX12_build_34 rfl (lv_at hl 2 rfl) ?_
      refine va_put (D := D) (ci := 12) (v := .int (nI kk)) (ty := .int) (C := RX12) (T := TX12) (N := 81) hx hb hts inT_X12 tyX12 tyX12_ok nmX12 hown hK.1 hP hD hS 0 rfl rfl 3 (by decide) (hts _ k_1356) (fun _ h9 => h9) rfl (by decide +kernel) rfl rfl (Nat.le_of_ble_eq_true rfl) dX12_build_35 (fun H locs hP hD hS => ?_)
      obtain ⟨i_7, ei_7⟩ : ∃ z : Nat → Int32, z = upd i_6 3 (nI kk) := ⟨_, rfl⟩
      have hi_7_2 : i_7 2 = nI n := by rw [ei_7]; exact hi_6_2
      have hi_7_3 : i_7 3 = nI kk := by rw [ei_7]; rfl
      have hP : va_P D vwCl [(h, .inr (12, mG q i_7)), (q 73, .inl (cI, 48, .inl f)), (q 6, .inl (cI, 3, .inl (fun _ => 0))), (q 44, .inl (cI, 384, .inl (fun _ => 0))), (q 45, .inl (cI, 384, .inl (fun _ => 0))), (q 46, .inl (cZ, 384, .inl (fun _ => 0))), (q 47, .inl (cI, 384, .inl (fun _ => 0))), (q 66, .inl (cZ, 8, .inl (fun _ => 0)))] H := by rw [ei_7, ← mG_3]; exact hP
      have hD : va_D A [(h, .inr (12, mG q i_7)), (q 73, .inl (cI, 48, .inl f)), (q 6, .inl (cI, 3, .inl (fun _ => 0))), (q 44, .inl (cI, 384, .inl (fun _ => 0))), (q 45, .inl (cI, 384, .inl (fun _ => 0))), (q 46, .inl (cZ, 384, .inl (fun _ => 0))), (q 47, .inl (cI, 384, .inl (fun _ => 0))), (q 66, .inl (cZ, 8, .inl (fun _ => 0)))] := by rw [ei_7, ← mG_3]; exact hD
      refine lv_aload_n hx hb dX12_build_38 rfl (lv_at hl 0 rfl) ?_
      refine lv_iconst (v := 0) hx hb dX12_build_39 (by decide) ?_
      refine va_put (D := D) (ci := 12) (v := .int 0) (ty := .int) (C := RX12) (T := TX12) (N := 81) hx hb hts inT_X12 tyX12 tyX12_ok nmX12 hown hK.1 hP hD hS 0 rfl rfl 49 (by decide) (hts _ k_1402) (fun _ h9 => h9) rfl (by decide +kernel) rfl rfl (Nat.le_of_ble_eq_true rfl) dX12_build_40 (fun H locs hP hD hS => ?_)
      obtain ⟨i_8, ei_8⟩ : ∃ z : Nat → Int32, z = upd i_7 49 0 := ⟨_, rfl⟩
      have hi_8_2 : i_8 2 = nI n := by rw [ei_8]; exact hi_7_2
      have hi_8_3 : i_8 3 = nI kk := by rw [ei_8]; exact hi_7_3
      have hi_8_49 : i_8 49 = 0 := by rw [ei_8]; rfl
      have hP : va_P D vwCl [(h, .inr (12, mG q i_8)), (q 73, .inl (cI, 48, .inl f)), (q 6, .inl (cI, 3, .inl (fun _ => 0))), (q 44, .inl (cI, 384, .inl (fun _ => 0))), (q 45, .inl (cI, 384, .inl (fun _ => 0))), (q 46, .inl (cZ, 384, .inl (fun _ => 0))), (q 47, .inl (cI, 384, .inl (fun _ => 0))), (q 66, .inl (cZ, 8, .inl (fun _ => 0)))] H := by rw [ei_8, ← mG_49]; exact hP
      have hD : va_D A [(h, .inr (12, mG q i_8)), (q 73, .inl (cI, 48, .inl f)), (q 6, .inl (cI, 3, .inl (fun _ => 0))), (q 44, .inl (cI, 384, .inl (fun _ => 0))), (q 45, .inl (cI, 384, .inl (fun _ => 0))), (q 46, .inl (cZ, 384, .inl (fun _ => 0))), (q 47, .inl (cI, 384, .inl (fun _ => 0))), (q 66, .inl (cZ, 8, .inl (fun _ => 0)))] := by rw [ei_8, ← mG_49]; exact hD
      refine lv_aload_n hx hb dX12_build_43 rfl (lv_at hl 0 rfl) ?_
      refine lv_iconst (v := 0) hx hb dX12_build_44 (by decide) ?_
      refine va_put (D := D) (ci := 12) (v := .int 0) (ty := .int) (C := RX12) (T := TX12) (N := 81) hx hb hts inT_X12 tyX12 tyX12_ok nmX12 hown hK.1 hP hD hS 0 rfl rfl 50 (by decide) (hts _ k_1403) (fun _ h9 => h9) rfl (by decide +kernel) rfl rfl (Nat.le_of_ble_eq_true rfl) dX12_build_45 (fun H locs hP hD hS => ?_)
      obtain ⟨i_9, ei_9⟩ : ∃ z : Nat → Int32, z = upd i_8 50 0 := ⟨_, rfl⟩
      have hi_9_2 : i_9 2 = nI n := by rw [ei_9]; exact hi_8_2
      have hi_9_3 : i_9 3 = nI kk := by rw [ei_9]; exact hi_8_3
      have hi_9_49 : i_9 49 = 0 := by rw [ei_9]; exact hi_8_49
      have hi_9_50 : i_9 50 = 0 := by rw [ei_9]; rfl
      have hP : va_P D vwCl [(h, .inr (12, mG q i_9)), (q 73, .inl (cI, 48, .inl f)), (q 6, .inl (cI, 3, .inl (fun _ => 0))), (q 44, .inl (cI, 384, .inl (fun _ => 0))), (q 45, .inl (cI, 384, .inl (fun _ => 0))), (q 46, .inl (cZ, 384, .inl (fun _ => 0))), (q 47, .inl (cI, 384, .inl (fun _ => 0))), (q 66, .inl (cZ, 8, .inl (fun _ => 0)))] H := by rw [ei_9, ← mG_50]; exact hP
      have hD : va_D A [(h, .inr (12, mG q i_9)), (q 73, .inl (cI, 48, .inl f)), (q 6, .inl (cI, 3, .inl (fun _ => 0))), (q 44, .inl (cI, 384, .inl (fun _ => 0))), (q 45, .inl (cI, 384, .inl (fun _ => 0))), (q 46, .inl (cZ, 384, .inl (fun _ => 0))), (q 47, .inl (cI, 384, .inl (fun _ => 0))), (q 66, .inl (cZ, 8, .inl (fun _ => 0)))] := by rw [ei_9, ← mG_50]; exact hD
      refine lv_aload_n hx hb dX12_build_48 rfl (lv_at hl 0 rfl) ?_
      refine lv_iconst (v := 0) hx hb dX12_build_49 (by decide) ?_
      refine va_put (D := D) (ci := 12) (v := .int 0) (ty := .int) (C := RX12) (T := TX12) (N := 81) hx hb hts inT_X12 tyX12 tyX12_ok nmX12 hown hK.1 hP hD hS 0 rfl rfl 71 (by decide) (hts _ k_1424) (fun _ h9 => h9) rfl (by decide +kernel) rfl rfl (Nat.le_of_ble_eq_true rfl) dX12_build_50 (fun H locs hP hD hS => ?_)
      obtain ⟨i_10, ei_10⟩ : ∃ z : Nat → Int32, z = upd i_9 71 0 := ⟨_, rfl⟩
      have hi_10_2 : i_10 2 = nI n := by rw [ei_10]; exact hi_9_2
      have hi_10_3 : i_10 3 = nI kk := by rw [ei_10]; exact hi_9_3
      have hi_10_49 : i_10 49 = 0 := by rw [ei_10]; exact hi_9_49
      have hi_10_50 : i_10 50 = 0 := by rw [ei_10]; exact hi_9_50
      have hi_10_71 : i_10 71 = 0 := by rw [ei_10]; rfl
      have hP : va_P D vwCl [(h, .inr (12, mG q i_10)), (q 73, .inl (cI, 48, .inl f)), (q 6, .inl (cI, 3, .inl (fun _ => 0))), (q 44, .inl (cI, 384, .inl (fun _ => 0))), (q 45, .inl (cI, 384, .inl (fun _ => 0))), (q 46, .inl (cZ, 384, .inl (fun _ => 0))), (q 47, .inl (cI, 384, .inl (fun _ => 0))), (q 66, .inl (cZ, 8, .inl (fun _ => 0)))] H := by rw [ei_10, ← mG_71]; exact hP
      have hD : va_D A [(h, .inr (12, mG q i_10)), (q 73, .inl (cI, 48, .inl f)), (q 6, .inl (cI, 3, .inl (fun _ => 0))), (q 44, .inl (cI, 384, .inl (fun _ => 0))), (q 45, .inl (cI, 384, .inl (fun _ => 0))), (q 46, .inl (cZ, 384, .inl (fun _ => 0))), (q 47, .inl (cI, 384, .inl (fun _ => 0))), (q 66, .inl (cZ, 8, .inl (fun _ => 0)))] := by rw [ei_10, ← mG_71]; exact hD
      refine lv_iconst (v := 0) hx hb dX12_build_53 (by decide) ?_
      refine lv_istore_n (lv' := [(3, .int 0), (0, .ref h), (1, .int (nI n)), (2, .int (nI kk))]) hx hb dX12_build_54 rfl hl (by decide) rfl (fun ls hl => ?_)
      have lp55 : ∀ (k55 : Nat) (j0 : Nat) (y55_q73 : Nat → Int32) (H : Heap) (locs : List Loc) (ls : Array Slot), j0 ≤ 48 → 48 < j0 + k55 → va_P D vwCl [(h, .inr (12, mG q i_10)), (q 73, .inl (cI, 48, .inl y55_q73)), (q 6, .inl (cI, 3, .inl (fun _ => 0))), (q 44, .inl (cI, 384, .inl (fun _ => 0))), (q 45, .inl (cI, 384, .inl (fun _ => 0))), (q 46, .inl (cZ, 384, .inl (fun _ => 0))), (q 47, .inl (cI, 384, .inl (fun _ => 0))), (q 66, .inl (cZ, 8, .inl (fun _ => 0)))] H → va_D A [(h, .inr (12, mG q i_10)), (q 73, .inl (cI, 48, .inl y55_q73)), (q 6, .inl (cI, 3, .inl (fun _ => 0))), (q 44, .inl (cI, 384, .inl (fun _ => 0))), (q 45, .inl (cI, 384, .inl (fun _ => 0))), (q 46, .inl (cZ, 384, .inl (fun _ => 0))), (q 47, .inl (cI, 384, .inl (fun _ => 0))), (q 66, .inl (cZ, 8, .inl (fun _ => 0)))] → va_S A s.heap H locs → lv_has ls 7 [(3, .int (nI j0)), (0, .ref h), (1, .int (nI n)), (2, .int (nI kk))] → W p l e (rmX 2 0 0) s m ([.ref h, .int (nI n), .int (nI kk)] : List Value).toArray below meth c H locs 0 0 (MQ below (va_Qi (fun (r : Int32) (_ : Unit) => r = sp_build (nI n) (nI kk)) (fun u => BX D A ((fun _ => []) u)) A) ([.ref h, .int (nI n), .int (nI kk)] : List Value).toArray s 0 0 A) (F0 m 55 ls []) := by
        intro k55
        induction k55 with
        | zero =>
          intro j0 y55_q73 H locs ls hj55 hk55  hP hD hS hl
          exact absurd hk55 (by omega)
        | succ k55 ih55 =>
          intro j0 y55_q73 H locs ls hj55 hk55  hP hD hS hl
          refine lv_iload_n hx hb dX12_build_55 rfl (lv_at hl 0 rfl) ?_
          refine lv_bipush (v := 48) hx hb dX12_build_56 (by decide) ?_
          refine lv_icmp_ge (tgt := 74) hx hb dX12_build_58 (by decide) (fun c_11 => ?_) (fun c_11 => ?_)
          · refine lv_iconst (v := 0) hx hb dX12_build_74 (by decide) ?_
            refine lv_istore_n (lv' := [(3, .int 0), (0, .ref h), (1, .int (nI n)), (2, .int (nI kk))]) hx hb dX12_build_75 rfl hl (by decide) rfl (fun ls hl => ?_)
            have lp76 : ∀ (k76 : Nat) (j1 : Nat) (y76_q44 : Nat → Int32) (y76_q45 : Nat → Int32) (y76_q46 : Nat → Int32) (y76_q47 : Nat → Int32) (i76 : Nat → Int32) (H : Heap) (locs : List Loc) (ls : Array Slot), j1 ≤ n → n < j1 + k76 → (i76 2 = nI n) → (i76 3 = nI kk) → va_P D vwCl [(h, .inr (12, mG q i76)), (q 73, .inl (cI, 48, .inl y55_q73)), (q 6, .inl (cI, 3, .inl (fun _ => 0))), (q 44, .inl (cI, 384, .inl y76_q44)), (q 45, .inl (cI, 384, .inl y76_q45)), (q 46, .inl (cZ, 384, .inl y76_q46)), (q 47, .inl (cI, 384, .inl y76_q47)), (q 66, .inl (cZ, 8, .inl (fun _ => 0)))] H → va_D A [(h, .inr (12, mG q i76)), (q 73, .inl (cI, 48, .inl y55_q73)), (q 6, .inl (cI, 3, .inl (fun _ => 0))), (q 44, .inl (cI, 384, .inl y76_q44)), (q 45, .inl (cI, 384, .inl y76_q45)), (q 46, .inl (cZ, 384, .inl y76_q46)), (q 47, .inl (cI, 384, .inl y76_q47)), (q 66, .inl (cZ, 8, .inl (fun _ => 0)))] → va_S A s.heap H locs → lv_has ls 7 [(3, .int (nI j1)), (0, .ref h), (1, .int (nI n)), (2, .int (nI kk))] → W p l e (rmX 2 0 0) s m ([.ref h, .int (nI n), .int (nI kk)] : List Value).toArray below meth c H locs 0 0 (MQ below (va_Qi (fun (r : Int32) (_ : Unit) => r = sp_build (nI n) (nI kk)) (fun u => BX D A ((fun _ => []) u)) A) ([.ref h, .int (nI n), .int (nI kk)] : List Value).toArray s 0 0 A) (F0 m 76 ls []) := by
              intro k76
              induction k76 with
              | zero =>
                intro j1 y76_q44 y76_q45 y76_q46 y76_q47 i76 H locs ls hj76 hk76 hi76_2 hi76_3 hP hD hS hl
                exact absurd hk76 (by omega)
              | succ k76 ih76 =>
                intro j1 y76_q44 y76_q45 y76_q46 y76_q47 i76 H locs ls hj76 hk76 hi76_2 hi76_3 hP hD hS hl
                refine lv_iload_n hx hb dX12_build_76 rfl (lv_at hl 0 rfl) ?_
                refine lv_iload_n hx hb dX12_build_77 rfl (lv_at hl 2 rfl) ?_
                refine lv_icmp_ge (tgt := 192) hx hb dX12_build_78 (by decide) (fun c_12 => ?_) (fun c_12 => ?_)
                · refine lv_aload_n hx hb dX12_build_192 rfl (lv_at hl 1 rfl) ?_
                  refine eWv (wr := [(q 73, .inl (cI, 48, .inl y55_q73)), (q 6, .inl (cI, 3, .inl (fun _ => 0))), (q 44, .inl (cI, 384, .inl y76_q44)), (q 45, .inl (cI, 384, .inl y76_q45)), (q 46, .inl (cZ, 384, .inl y76_q46)), (q 47, .inl (cI, 384, .inl y76_q47))]) (va_runV (As := []) (rest := []) ⟨hx, hb, hml, hown, hts⟩ (c_X12_changes l D cI cB cZ cJ tx h q i76 (fun _ => 0) H.size) (zV hts k_1765 v_X12_changes ⟨Nat.le_of_ble_eq_true rfl, Nat.le_of_ble_eq_true rfl⟩) (pV (pxS hK hP hD [0, 7] (by decide) rfl) hK hP 0 rfl rfl) rfl rfl hl.1 rfl (lv_room (Nat.le_of_ble_eq_true rfl)) dX12_build_193 ⟨Nat.le_of_ble_eq_true rfl, Nat.le_of_ble_eq_true rfl⟩) hP hD hS hA [0, 7] [1, 2, 3, 4, 5, 6] rfl rfl (by decide) (by decide) (fun u_14 H locs wr_13 hP hD hS => ?_)
                  have hP : va_P D vwCl [(q 73, .inl (cI, 48, .inl y55_q73)), (q 6, .inl (cI, 3, .inl (fun _ => 0))), (q 44, .inl (cI, 384, .inl y76_q44)), (q 45, .inl (cI, 384, .inl y76_q45)), (q 46, .inl (cZ, 384, .inl y76_q46)), (q 47, .inl (cI, 384, .inl y76_q47))] H := hP
                  have hD : va_D A [(q 73, .inl (cI, 48, .inl y55_q73)), (q 6, .inl (cI, 3, .inl (fun _ => 0))), (q 44, .inl (cI, 384, .inl y76_q44)), (q 45, .inl (cI, 384, .inl y76_q45)), (q 46, .inl (cZ, 384, .inl y76_q46)), (q 47, .inl (cI, 384, .inl y76_q47))] := hD
                  refine lv_iconst (v := 2) hx hb dX12_build_196 (by decide) ?_
                  refine lv_iload_n hx hb dX12_build_197 rfl (lv_at hl 2 rfl) ?_
                  refine lv_imul hx hb dX12_build_198 ?_
                  refine lv_topi (fun x_15 ex_15 => ?_)
                  refine lv_iload_n hx hb dX12_build_199 rfl (lv_at hl 3 rfl) ?_
                  refine lv_imul hx hb dX12_build_200 ?_
                  refine lv_topi (fun x_16 ex_16 => ?_)
                  exact W.iret (v := x_16) hx hb hr (fun t ht hW => ⟨⟨(x_16 : Int32), (), rfl, (lf_X12_build_17 h q i f (nI n) (nI kk) c_2 c_5 n na nb rfl kk kka kkb rfl i_6 i_7 i_8 i_9 i_10 j0 y55_q73 k55 hj55 hk55 c_11 j1 y76_q44 y76_q45 y76_q46 y76_q47 i76 k76 hj76 hk76 hi76_2 hi76_3 c_12 x_15 ex_15 x_16 ex_16), bx0⟩, hS.F ht⟩) hS.2.2 dX12_build_201 hlocks
                · have hlt76 : j1 < n := (lf_X12_build_18 h q i f (nI n) (nI kk) c_2 c_5 n na nb rfl kk kka kkb rfl i_6 i_7 i_8 i_9 i_10 j0 y55_q73 k55 hj55 hk55 c_11 j1 y76_q44 y76_q45 y76_q46 y76_q47 i76 k76 hj76 hk76 hi76_2 hi76_3 c_12)
                  refine lv_iconst (v := 0) hx hb dX12_build_81 (by decide) ?_
                  refine lv_istore (lv' := [(4, .int 0), (3, .int (nI j1)), (0, .ref h), (1, .int (nI n)), (2, .int (nI kk))]) hx hb dX12_build_82 hl (by decide) rfl (fun ls hl => ?_)
                  have lp84 : ∀ (k84 : Nat) (j2 : Nat) (y84_q44 : Nat → Int32) (y84_q45 : Nat → Int32) (y84_q46 : Nat → Int32) (y84_q47 : Nat → Int32) (i84 : Nat → Int32) (H : Heap) (locs : List Loc) (ls : Array Slot), j2 ≤ kk → kk < j2 + k84 → (i84 2 = nI n) → (i84 3 = nI kk) → va_P D vwCl [(h, .inr (12, mG q i84)), (q 73, .inl (cI, 48, .inl y55_q73)), (q 6, .inl (cI, 3, .inl (fun _ => 0))), (q 44, .inl (cI, 384, .inl y84_q44)), (q 45, .inl (cI, 384, .inl y84_q45)), (q 46, .inl (cZ, 384, .inl y84_q46)), (q 47, .inl (cI, 384, .inl y84_q47)), (q 66, .inl (cZ, 8, .inl (fun _ => 0)))] H → va_D A [(h, .inr (12, mG q i84)), (q 73, .inl (cI, 48, .inl y55_q73)), (q 6, .inl (cI, 3, .inl (fun _ => 0))), (q 44, .inl (cI, 384, .inl y84_q44)), (q 45, .inl (cI, 384, .inl y84_q45)), (q 46, .inl (cZ, 384, .inl y84_q46)), (q 47, .inl (cI, 384, .inl y84_q47)), (q 66, .inl (cZ, 8, .inl (fun _ => 0)))] → va_S A s.heap H locs → lv_has ls 7 [(4, .int (nI j2)), (3, .int (nI j1)), (0, .ref h), (1, .int (nI n)), (2, .int (nI kk))] → W p l e (rmX 2 0 0) s m ([.ref h, .int (nI n), .int (nI kk)] : List Value).toArray below meth c H locs 0 0 (MQ below (va_Qi (fun (r : Int32) (_ : Unit) => r = sp_build (nI n) (nI kk)) (fun u => BX D A ((fun _ => []) u)) A) ([.ref h, .int (nI n), .int (nI kk)] : List Value).toArray s 0 0 A) (F0 m 84 ls []) := by
                    intro k84
                    induction k84 with
                    | zero =>
                      intro j2 y84_q44 y84_q45 y84_q46 y84_q47 i84 H locs ls hj84 hk84 hi84_2 hi84_3 hP hD hS hl
                      exact absurd hk84 (by omega)
                    | succ k84 ih84 =>
                      intro j2 y84_q44 y84_q45 y84_q46 y84_q47 i84 H locs ls hj84 hk84 hi84_2 hi84_3 hP hD hS hl
                      refine lv_iload hx hb dX12_build_84 (lv_at hl 0 rfl) ?_
                      refine lv_iload_n hx hb dX12_build_86 rfl (lv_at hl 4 rfl) ?_
                      refine lv_icmp_ge (tgt := 186) hx hb dX12_build_87 (by decide) (fun c_19 => ?_) (fun c_19 => ?_)
                      · obtain ⟨x_20, ex_20⟩ : ∃ z : Int32, z = nI j1 + Int32.ofInt 1 := ⟨_, rfl⟩
                        refine lv_iinc (v := x_20) (lv' := [(3, .int x_20), (4, .int (nI j2)), (0, .ref h), (1, .int (nI n)), (2, .int (nI kk))]) hx hb dX12_build_186 hl (k := 1) rfl (ex_20.symm) (by decide) rfl (fun ls hl => ?_)
                        refine lv_goto (tgt := 76) hx hb dX12_build_189 (by decide) ?_
                        have ej_21 : x_20 = nI (j1 + 1) := ex_20.trans (nI_1 j1)
                        rw [ej_21] at hl
                        exact ih76 (j1 + 1) y84_q44 y84_q45 y84_q46 y84_q47 i84 H locs ls (by omega) (by omega) hi84_2 hi84_3 (hP.sub [0, 1, 2, 3, 4, 5, 6, 7] rfl) (hD.sub [0, 1, 2, 3, 4, 5, 6, 7] (by decide) rfl) hS (lv_sub hl [0, 2, 3, 4] rfl)
                      · have hlt84 : j2 < kk := (lf_X12_build_22 h q i f (nI n) (nI kk) c_2 c_5 n na nb rfl kk kka kkb rfl i_6 i_7 i_8 i_9 i_10 j0 y55_q73 k55 hj55 hk55 c_11 j1 y76_q44 y76_q45 y76_q46 y76_q47 i76 k76 hj76 hk76 hi76_2 hi76_3 c_12 hlt76 j2 y84_q44 y84_q45 y84_q46 y84_q47 i84 k84 hj84 hk84 hi84_2 hi84_3 c_19)
                        refine lv_iconst (v := 0) hx hb dX12_build_90 (by decide) ?_
                        refine lv_istore (lv' := [(5, .int 0), (4, .int (nI j2)), (3, .int (nI j1)), (0, .ref h), (1, .int (nI n)), (2, .int (nI kk))]) hx hb dX12_build_91 hl (by decide) rfl (fun ls hl => ?_)
                        have lp93 : ∀ (k93 : Nat) (j3 : Nat) (y93_q44 : Nat → Int32) (y93_q45 : Nat → Int32) (y93_q46 : Nat → Int32) (y93_q47 : Nat → Int32) (i93 : Nat → Int32) (H : Heap) (locs : List Loc) (ls : Array Slot), j3 ≤ 2 → 2 < j3 + k93 → (i93 2 = nI n) → (i93 3 = nI kk) → va_P D vwCl [(h, .inr (12, mG q i93)), (q 73, .inl (cI, 48, .inl y55_q73)), (q 6, .inl (cI, 3, .inl (fun _ => 0))), (q 44, .inl (cI, 384, .inl y93_q44)), (q 45, .inl (cI, 384, .inl y93_q45)), (q 46, .inl (cZ, 384, .inl y93_q46)), (q 47, .inl (cI, 384, .inl y93_q47)), (q 66, .inl (cZ, 8, .inl (fun _ => 0)))] H → va_D A [(h, .inr (12, mG q i93)), (q 73, .inl (cI, 48, .inl y55_q73)), (q 6, .inl (cI, 3, .inl (fun _ => 0))), (q 44, .inl (cI, 384, .inl y93_q44)), (q 45, .inl (cI, 384, .inl y93_q45)), (q 46, .inl (cZ, 384, .inl y93_q46)), (q 47, .inl (cI, 384, .inl y93_q47)), (q 66, .inl (cZ, 8, .inl (fun _ => 0)))] → va_S A s.heap H locs → lv_has ls 7 [(5, .int (nI j3)), (4, .int (nI j2)), (3, .int (nI j1)), (0, .ref h), (1, .int (nI n)), (2, .int (nI kk))] → W p l e (rmX 2 0 0) s m ([.ref h, .int (nI n), .int (nI kk)] : List Value).toArray below meth c H locs 0 0 (MQ below (va_Qi (fun (r : Int32) (_ : Unit) => r = sp_build (nI n) (nI kk)) (fun u => BX D A ((fun _ => []) u)) A) ([.ref h, .int (nI n), .int (nI kk)] : List Value).toArray s 0 0 A) (F0 m 93 ls []) := by
                          intro k93
                          induction k93 with
                          | zero =>
                            intro j3 y93_q44 y93_q45 y93_q46 y93_q47 i93 H locs ls hj93 hk93 hi93_2 hi93_3 hP hD hS hl
                            exact absurd hk93 (by omega)
                          | succ k93 ih93 =>
                            intro j3 y93_q44 y93_q45 y93_q46 y93_q47 i93 H locs ls hj93 hk93 hi93_2 hi93_3 hP hD hS hl
                            refine lv_iload hx hb dX12_build_93 (lv_at hl 0 rfl) ?_
                            refine lv_iconst (v := 2) hx hb dX12_build_95 (by decide) ?_
                            refine lv_icmp_ge (tgt := 180) hx hb dX12_build_96 (by decide) (fun c_23 => ?_) (fun c_23 => ?_)
                            · obtain ⟨x_24, ex_24⟩ : ∃ z : Int32, z = nI j2 + Int32.ofInt 1 := ⟨_, rfl⟩
                              refine lv_iinc (v := x_24) (lv' := [(4, .int x_24), (5, .int (nI j3)), (3, .int (nI j1)), (0, .ref h), (1, .int (nI n)), (2, .int (nI kk))]) hx hb dX12_build_180 hl (k := 1) rfl (ex_24.symm) (by decide) rfl (fun ls hl => ?_)
                              refine lv_goto (tgt := 84) hx hb dX12_build_183 (by decide) ?_
                              have ej_25 : x_24 = nI (j2 + 1) := ex_24.trans (nI_1 j2)
                              rw [ej_25] at hl
                              exact ih84 (j2 + 1) y93_q44 y93_q45 y93_q46 y93_q47 i93 H locs ls (by omega) (by omega) hi93_2 hi93_3 (hP.sub [0, 1, 2, 3, 4, 5, 6, 7] rfl) (hD.sub [0, 1, 2, 3, 4, 5, 6, 7] (by decide) rfl) hS (lv_sub hl [0, 2, 3, 4, 5] rfl)
                            · have hlt93 : j3 < 2 := (lf_X12_build_26 h q i f (nI n) (nI kk) c_2 c_5 n na nb rfl kk kka kkb rfl i_6 i_7 i_8 i_9 i_10 j0 y55_q73 k55 hj55 hk55 c_11 j1 y76_q44 y76_q45 y76_q46 y76_q47 i76 k76 hj76 hk76 hi76_2 hi76_3 c_12 hlt76 j2 y84_q44 y84_q45 y84_q46 y84_q47 i84 k84 hj84 hk84 hi84_2 hi84_3 c_19 hlt84 j3 y93_q44 y93_q45 y93_q46 y93_q47 i93 k93 hj93 hk93 hi93_2 hi93_3 c_23)
                              refine lv_iload_n hx hb dX12_build_99 rfl (lv_at hl 2 rfl) ?_
                              refine lv_iload hx hb dX12_build_100 (lv_at hl 1 rfl) ?_
                              refine lv_iload hx hb dX12_build_102 (lv_at hl 0 rfl) ?_
                              refine eRi (va_runS (As := [.int (nI j1), .int (nI j2), .int (nI j3)]) (rest := []) ⟨hx, hb, hml, hown, hts⟩ (c_X12_cellOf l D cI cB cZ cJ tx j1 j2 j3 H.size) (zS hts k_1735 v_X12_cellOf ⟨Nat.le_of_ble_eq_true rfl, Nat.le_of_ble_eq_true rfl⟩) (px0 hK) rfl rfl hl.1 rfl (lv_room (Nat.le_of_ble_eq_true rfl)) dX12_build_104 ⟨Nat.le_of_ble_eq_true rfl, Nat.le_of_ble_eq_true rfl⟩) hP hS hA (fun r_27 H locs wr_27 hP hS => ?_)
                              subst wr_27
                              refine lv_istore (lv' := [(6, .int (nI (16 * j1 + 2 * j2 + j3))), (5, .int (nI j3)), (4, .int (nI j2)), (3, .int (nI j1)), (0, .ref h), (1, .int (nI n)), (2, .int (nI kk))]) hx hb dX12_build_107 hl (by decide) rfl (fun ls hl => ?_)
                              refine lv_aload_n hx hb dX12_build_109 rfl (lv_at hl 4 rfl) ?_
                              refine lv_iload_n hx hb dX12_build_110 rfl (lv_at hl 3 rfl) ?_
                              refine lv_iload hx hb dX12_build_111 (lv_at hl 2 rfl) ?_
                              refine lv_iload hx hb dX12_build_113 (lv_at hl 1 rfl) ?_
                              refine eWv (wr := [(q 73, .inl (cI, 48, .inl y55_q73)), (q 6, .inl (cI, 3, .inl (fun _ => 0))), (q 44, .inl (cI, 384, .inl y93_q44)), (q 45, .inl (cI, 384, .inl y93_q45)), (q 46, .inl (cZ, 384, .inl y93_q46)), (q 47, .inl (cI, 384, .inl y93_q47)), (q 66, .inl (cZ, 8, .inl (fun _ => 0)))]) (va_runV (As := [.int (nI j1), .int (nI j2), .int (nI j3)]) (rest := []) ⟨hx, hb, hml, hown, hts⟩ (c_X12_stands l D cI cB cZ cJ tx h q i93 (nI n) (nI kk) (nI j1) (nI j2) (nI j3) hi93_2 hi93_3 H.size) (zV hts k_1738 v_X12_stands ⟨Nat.le_of_ble_eq_true rfl, Nat.le_of_ble_eq_true rfl⟩) (pV (pxS hK hP hD [0] (by decide) rfl) hK hP 0 rfl rfl) rfl rfl hl.1 rfl (lv_room (Nat.le_of_ble_eq_true rfl)) dX12_build_115 ⟨Nat.le_of_ble_eq_true rfl, Nat.le_of_ble_eq_true rfl⟩) hP hD hS hA [0] [1, 2, 3, 4, 5, 6, 7] rfl rfl (by decide) (by decide) (fun u_29 H locs wr_28 hP hD hS => ?_)
                              have hz_u_29 := wr_28
                              have hP : va_P D vwCl [(q 73, .inl (cI, 48, .inl y55_q73)), (q 6, .inl (cI, 3, .inl (fun _ => 0))), (q 44, .inl (cI, 384, .inl y93_q44)), (q 45, .inl (cI, 384, .inl y93_q45)), (q 46, .inl (cZ, 384, .inl y93_q46)), (q 47, .inl (cI, 384, .inl y93_q47)), (q 66, .inl (cZ, 8, .inl (fun _ => 0))), (h, .inr (12, mG q u_29))] H := hP
                              have hD : va_D A [(q 73, .inl (cI, 48, .inl y55_q73)), (q 6, .inl (cI, 3, .inl (fun _ => 0))), (q 44, .inl (cI, 384, .inl y93_q44)), (q 45, .inl (cI, 384, .inl y93_q45)), (q 46, .inl (cZ, 384, .inl y93_q46)), (q 47, .inl (cI, 384, .inl y93_q47)), (q 66, .inl (cZ, 8, .inl (fun _ => 0))), (h, .inr (12, mG q u_29))] := hD
                              refine lv_aload_n hx hb dX12_build_118 rfl (lv_at hl 4 rfl) ?_
                              refine va_get (D := D) (ci := 12) (v := .ref (q 44)) (C := RX12) (T := TX12) (N := 81) hx hb hts inT_X12 hown hK.1 hP 7 rfl rfl 44 (by decide) (hts _ k_1397) (fun _ h9 => h9) rfl dX12_build_119 ?_
                              refine lv_iload hx hb dX12_build_122 (lv_at hl 0 rfl) ?_
                              refine lv_aload_n hx hb dX12_build_124 rfl (lv_at hl 4 rfl) ?_
                              refine lv_iconst (v := 0) hx hb dX12_build_125 (by decide) ?_
                              refine lv_bipush (v := 121) hx hb dX12_build_126 (by decide) ?_
                              refine lv_sipush (v := (-3000)) hx hb dX12_build_128 (by decide) ?_
                              refine lv_sipush (v := 3000) hx hb dX12_build_131 (by decide) ?_
                              refine eRi (va_runV (As := [.int 0, .int 121, .int (-3000), .int 3000]) (rest := [.int (nI (16 * j1 + 2 * j2 + j3)), .ref (q 44)]) ⟨hx, hb, hml, hown, hts⟩ (c_X12_tells_0 l D cI cB cZ cJ tx h q u_29 121 (-3000) 3000 H.size) (zV hts k_1746 v_X12_tells ⟨Nat.le_of_ble_eq_true rfl, Nat.le_of_ble_eq_true rfl⟩) (pV (pxS hK hP hD [7, 1] (by decide) rfl) hK hP 7 rfl rfl) rfl rfl hl.1 rfl (lv_room (Nat.le_of_ble_eq_true rfl)) dX12_build_134 ⟨Nat.le_of_ble_eq_true rfl, Nat.le_of_ble_eq_true rfl⟩) hP hS hA (fun r_30 H locs wr_30 hP hS => ?_)
                              subst wr_30
                              refine st_i hx hb hK hP hD hS 2 rfl (lf_X12_build_31 h q i f (nI n) (nI kk) c_2 c_5 n na nb rfl kk kka kkb rfl i_6 i_7 i_8 i_9 i_10 j0 y55_q73 k55 hj55 hk55 c_11 j1 y76_q44 y76_q45 y76_q46 y76_q47 i76 k76 hj76 hk76 hi76_2 hi76_3 c_12 hlt76 j2 y84_q44 y84_q45 y84_q46 y84_q47 i84 k84 hj84 hk84 hi84_2 hi84_3 c_19 hlt84 j3 y93_q44 y93_q45 y93_q46 y93_q47 i93 k93 hj93 hk93 hi93_2 hi93_3 c_23 hlt93) dX12_build_137 (fun f_32 H locs hP hD hS => ?_)
                              have hP : va_P D vwCl [(q 73, .inl (cI, 48, .inl y55_q73)), (q 6, .inl (cI, 3, .inl (fun _ => 0))), (q 44, .inl (cI, 384, .inl f_32)), (q 45, .inl (cI, 384, .inl y93_q45)), (q 46, .inl (cZ, 384, .inl y93_q46)), (q 47, .inl (cI, 384, .inl y93_q47)), (q 66, .inl (cZ, 8, .inl (fun _ => 0))), (h, .inr (12, mG q u_29))] H := hP
                              have hD : va_D A [(q 73, .inl (cI, 48, .inl y55_q73)), (q 6, .inl (cI, 3, .inl (fun _ => 0))), (q 44, .inl (cI, 384, .inl f_32)), (q 45, .inl (cI, 384, .inl y93_q45)), (q 46, .inl (cZ, 384, .inl y93_q46)), (q 47, .inl (cI, 384, .inl y93_q47)), (q 66, .inl (cZ, 8, .inl (fun _ => 0))), (h, .inr (12, mG q u_29))] := hD
                              refine lv_aload_n hx hb dX12_build_138 rfl (lv_at hl 4 rfl) ?_
                              refine va_get (D := D) (ci := 12) (v := .ref (q 45)) (C := RX12) (T := TX12) (N := 81) hx hb hts inT_X12 hown hK.1 hP 7 rfl rfl 45 (by decide) (hts _ k_1398) (fun _ h9 => h9) rfl dX12_build_139 ?_
                              refine lv_iload hx hb dX12_build_142 (lv_at hl 0 rfl) ?_
                              refine lv_aload_n hx hb dX12_build_144 rfl (lv_at hl 4 rfl) ?_
                              refine lv_iconst (v := 0) hx hb dX12_build_145 (by decide) ?_
                              refine lv_bipush (v := 122) hx hb dX12_build_146 (by decide) ?_
                              refine lv_sipush (v := (-3000)) hx hb dX12_build_148 (by decide) ?_
                              refine lv_sipush (v := 3000) hx hb dX12_build_151 (by decide) ?_
                              refine eRi (va_runV (As := [.int 0, .int 122, .int (-3000), .int 3000]) (rest := [.int (nI (16 * j1 + 2 * j2 + j3)), .ref (q 45)]) ⟨hx, hb, hml, hown, hts⟩ (c_X12_tells_0 l D cI cB cZ cJ tx h q u_29 122 (-3000) 3000 H.size) (zV hts k_1746 v_X12_tells ⟨Nat.le_of_ble_eq_true rfl, Nat.le_of_ble_eq_true rfl⟩) (pV (pxS hK hP hD [7, 1] (by decide) rfl) hK hP 7 rfl rfl) rfl rfl hl.1 rfl (lv_room (Nat.le_of_ble_eq_true rfl)) dX12_build_154 ⟨Nat.le_of_ble_eq_true rfl, Nat.le_of_ble_eq_true rfl⟩) hP hS hA (fun r_33 H locs wr_33 hP hS => ?_)
                              subst wr_33
                              refine st_i hx hb hK hP hD hS 3 rfl (lf_X12_build_34 h q i f (nI n) (nI kk) c_2 c_5 n na nb rfl kk kka kkb rfl i_6 i_7 i_8 i_9 i_10 j0 y55_q73 k55 hj55 hk55 c_11 j1 y76_q44 y76_q45 y76_q46 y76_q47 i76 k76 hj76 hk76 hi76_2 hi76_3 c_12 hlt76 j2 y84_q44 y84_q45 y84_q46 y84_q47 i84 k84 hj84 hk84 hi84_2 hi84_3 c_19 hlt84 j3 y93_q44 y93_q45 y93_q46 y93_q47 i93 k93 hj93 hk93 hi93_2 hi93_3 c_23 hlt93) dX12_build_157 (fun f_35 H locs hP hD hS => ?_)
                              have hP : va_P D vwCl [(q 73, .inl (cI, 48, .inl y55_q73)), (q 6, .inl (cI, 3, .inl (fun _ => 0))), (q 44, .inl (cI, 384, .inl f_32)), (q 45, .inl (cI, 384, .inl f_35)), (q 46, .inl (cZ, 384, .inl y93_q46)), (q 47, .inl (cI, 384, .inl y93_q47)), (q 66, .inl (cZ, 8, .inl (fun _ => 0))), (h, .inr (12, mG q u_29))] H := hP
                              have hD : va_D A [(q 73, .inl (cI, 48, .inl y55_q73)), (q 6, .inl (cI, 3, .inl (fun _ => 0))), (q 44, .inl (cI, 384, .inl f_32)), (q 45, .inl (cI, 384, .inl f_35)), (q 46, .inl (cZ, 384, .inl y93_q46)), (q 47, .inl (cI, 384, .inl y93_q47)), (q 66, .inl (cZ, 8, .inl (fun _ => 0))), (h, .inr (12, mG q u_29))] := hD
                              refine lv_aload_n hx hb dX12_build_158 rfl (lv_at hl 4 rfl) ?_
                              refine va_get (D := D) (ci := 12) (v := .ref (q 46)) (C := RX12) (T := TX12) (N := 81) hx hb hts inT_X12 hown hK.1 hP 7 rfl rfl 46 (by decide) (hts _ k_1399) (fun _ h9 => h9) rfl dX12_build_159 ?_
                              refine lv_iload hx hb dX12_build_162 (lv_at hl 0 rfl) ?_
                              refine lv_iconst (v := 0) hx hb dX12_build_164 (by decide) ?_
                              refine st_z hx hb hK hP hD hS 4 rfl (lf_X12_build_36 h q i f (nI n) (nI kk) c_2 c_5 n na nb rfl kk kka kkb rfl i_6 i_7 i_8 i_9 i_10 j0 y55_q73 k55 hj55 hk55 c_11 j1 y76_q44 y76_q45 y76_q46 y76_q47 i76 k76 hj76 hk76 hi76_2 hi76_3 c_12 hlt76 j2 y84_q44 y84_q45 y84_q46 y84_q47 i84 k84 hj84 hk84 hi84_2 hi84_3 c_19 hlt84 j3 y93_q44 y93_q45 y93_q46 y93_q47 i93 k93 hj93 hk93 hi93_2 hi93_3 c_23 hlt93) dX12_build_165 (fun f_37 H locs hP hD hS => ?_)
                              have hP : va_P D vwCl [(q 73, .inl (cI, 48, .inl y55_q73)), (q 6, .inl (cI, 3, .inl (fun _ => 0))), (q 44, .inl (cI, 384, .inl f_32)), (q 45, .inl (cI, 384, .inl f_35)), (q 46, .inl (cZ, 384, .inl f_37)), (q 47, .inl (cI, 384, .inl y93_q47)), (q 66, .inl (cZ, 8, .inl (fun _ => 0))), (h, .inr (12, mG q u_29))] H := hP
                              have hD : va_D A [(q 73, .inl (cI, 48, .inl y55_q73)), (q 6, .inl (cI, 3, .inl (fun _ => 0))), (q 44, .inl (cI, 384, .inl f_32)), (q 45, .inl (cI, 384, .inl f_35)), (q 46, .inl (cZ, 384, .inl f_37)), (q 47, .inl (cI, 384, .inl y93_q47)), (q 66, .inl (cZ, 8, .inl (fun _ => 0))), (h, .inr (12, mG q u_29))] := hD
                              refine lv_aload_n hx hb dX12_build_166 rfl (lv_at hl 4 rfl) ?_
                              refine va_get (D := D) (ci := 12) (v := .ref (q 47)) (C := RX12) (T := TX12) (N := 81) hx hb hts inT_X12 hown hK.1 hP 7 rfl rfl 47 (by decide) (hts _ k_1400) (fun _ h9 => h9) rfl dX12_build_167 ?_
                              refine lv_iload hx hb dX12_build_170 (lv_at hl 0 rfl) ?_
                              refine lv_iconst (v := 0) hx hb dX12_build_172 (by decide) ?_
                              refine st_i hx hb hK hP hD hS 5 rfl (lf_X12_build_38 h q i f (nI n) (nI kk) c_2 c_5 n na nb rfl kk kka kkb rfl i_6 i_7 i_8 i_9 i_10 j0 y55_q73 k55 hj55 hk55 c_11 j1 y76_q44 y76_q45 y76_q46 y76_q47 i76 k76 hj76 hk76 hi76_2 hi76_3 c_12 hlt76 j2 y84_q44 y84_q45 y84_q46 y84_q47 i84 k84 hj84 hk84 hi84_2 hi84_3 c_19 hlt84 j3 y93_q44 y93_q45 y93_q46 y93_q47 i93 k93 hj93 hk93 hi93_2 hi93_3 c_23 hlt93) dX12_build_173 (fun f_39 H locs hP hD hS => ?_)
                              have hP : va_P D vwCl [(q 73, .inl (cI, 48, .inl y55_q73)), (q 6, .inl (cI, 3, .inl (fun _ => 0))), (q 44, .inl (cI, 384, .inl f_32)), (q 45, .inl (cI, 384, .inl f_35)), (q 46, .inl (cZ, 384, .inl f_37)), (q 47, .inl (cI, 384, .inl f_39)), (q 66, .inl (cZ, 8, .inl (fun _ => 0))), (h, .inr (12, mG q u_29))] H := hP
                              have hD : va_D A [(q 73, .inl (cI, 48, .inl y55_q73)), (q 6, .inl (cI, 3, .inl (fun _ => 0))), (q 44, .inl (cI, 384, .inl f_32)), (q 45, .inl (cI, 384, .inl f_35)), (q 46, .inl (cZ, 384, .inl f_37)), (q 47, .inl (cI, 384, .inl f_39)), (q 66, .inl (cZ, 8, .inl (fun _ => 0))), (h, .inr (12, mG q u_29))] := hD
                              obtain ⟨x_40, ex_40⟩ : ∃ z : Int32, z = nI j3 + Int32.ofInt 1 := ⟨_, rfl⟩
                              refine lv_iinc (v := x_40) (lv' := [(5, .int x_40), (6, .int (nI (16 * j1 + 2 * j2 + j3))), (4, .int (nI j2)), (3, .int (nI j1)), (0, .ref h), (1, .int (nI n)), (2, .int (nI kk))]) hx hb dX12_build_174 hl (k := 1) rfl (ex_40.symm) (by decide) rfl (fun ls hl => ?_)
                              refine lv_goto (tgt := 93) hx hb dX12_build_177 (by decide) ?_
                              have ej_41 : x_40 = nI (j3 + 1) := ex_40.trans (nI_1 j3)
                              rw [ej_41] at hl
                              exact ih93 (j3 + 1) f_32 f_35 f_37 f_39 u_29 H locs ls (by omega) (by omega) hz_u_29.1 hz_u_29.2 (hP.sub [7, 0, 1, 2, 3, 4, 5, 6] rfl) (hD.sub [7, 0, 1, 2, 3, 4, 5, 6] (by decide) rfl) hS (lv_sub hl [0, 2, 3, 4, 5, 6] rfl)
                        exact lp93 (2 + 1) 0 y84_q44 y84_q45 y84_q46 y84_q47 i84 H locs ls (by omega) (by omega) hi84_2 hi84_3 (hP.sub [0, 1, 2, 3, 4, 5, 6, 7] rfl) (hD.sub [0, 1, 2, 3, 4, 5, 6, 7] (by decide) rfl) hS (lv_sub hl [0, 1, 2, 3, 4, 5] rfl)
                  exact lp84 (kk + 1) 0 y76_q44 y76_q45 y76_q46 y76_q47 i76 H locs ls (by omega) (by omega) hi76_2 hi76_3 (hP.sub [0, 1, 2, 3, 4, 5, 6, 7] rfl) (hD.sub [0, 1, 2, 3, 4, 5, 6, 7] (by decide) rfl) hS (lv_sub hl [0, 1, 2, 3, 4] rfl)
            exact lp76 (n + 1) 0 (fun _ => 0) (fun _ => 0) (fun _ => 0) (fun _ => 0) i_10 H locs ls (by omega) (by omega) hi_10_2 hi_10_3 (hP.sub [0, 1, 2, 3, 4, 5, 6, 7] rfl) (hD.sub [0, 1, 2, 3, 4, 5, 6, 7] (by decide) rfl) hS (lv_sub hl [0, 1, 2, 3] rfl)
          · have hlt55 : j0 < 48 := (lf_X12_build_42 h q i f (nI n) (nI kk) c_2 c_5 n na nb rfl kk kka kkb rfl i_6 i_7 i_8 i_9 i_10 j0 y55_q73 k55 hj55 hk55 c_11)
            refine lv_aload_n hx hb dX12_build_61 rfl (lv_at hl 1 rfl) ?_
            refine va_get (D := D) (ci := 12) (v := .ref (q 73)) (C := RX12) (T := TX12) (N := 81) hx hb hts inT_X12 hown hK.1 hP 0 rfl rfl 73 (by decide) (hts _ k_1426) (fun _ h9 => h9) rfl dX12_build_62 ?_
            refine lv_iload_n hx hb dX12_build_65 rfl (lv_at hl 0 rfl) ?_
            refine lv_iconst (v := (-1)) hx hb dX12_build_66 (by decide) ?_
            refine st_i hx hb hK hP hD hS 1 rfl (lf_X12_build_43 h q i f (nI n) (nI kk) c_2 c_5 n na nb rfl kk kka kkb rfl i_6 i_7 i_8 i_9 i_10 j0 y55_q73 k55 hj55 hk55 c_11 hlt55) dX12_build_67 (fun f_44 H locs hP hD hS => ?_)
            have hP : va_P D vwCl [(h, .inr (12, mG q i_10)), (q 73, .inl (cI, 48, .inl f_44)), (q 6, .inl (cI, 3, .inl (fun _ => 0))), (q 44, .inl (cI, 384, .inl (fun _ => 0))), (q 45, .inl (cI, 384, .inl (fun _ => 0))), (q 46, .inl (cZ, 384, .inl (fun _ => 0))), (q 47, .inl (cI, 384, .inl (fun _ => 0))), (q 66, .inl (cZ, 8, .inl (fun _ => 0)))] H := hP
            have hD : va_D A [(h, .inr (12, mG q i_10)), (q 73, .inl (cI, 48, .inl f_44)), (q 6, .inl (cI, 3, .inl (fun _ => 0))), (q 44, .inl (cI, 384, .inl (fun _ => 0))), (q 45, .inl (cI, 384, .inl (fun _ => 0))), (q 46, .inl (cZ, 384, .inl (fun _ => 0))), (q 47, .inl (cI, 384, .inl (fun _ => 0))), (q 66, .inl (cZ, 8, .inl (fun _ => 0)))] := hD
            obtain ⟨x_45, ex_45⟩ : ∃ z : Int32, z = nI j0 + Int32.ofInt 1 := ⟨_, rfl⟩
            refine lv_iinc (v := x_45) (lv' := [(3, .int x_45), (0, .ref h), (1, .int (nI n)), (2, .int (nI kk))]) hx hb dX12_build_68 hl (k := 0) rfl (ex_45.symm) (by decide) rfl (fun ls hl => ?_)
            refine lv_goto (tgt := 55) hx hb dX12_build_71 (by decide) ?_
            have ej_46 : x_45 = nI (j0 + 1) := ex_45.trans (nI_1 j0)
            rw [ej_46] at hl
            exact ih55 (j0 + 1) f_44 H locs ls (by omega) (by omega)  (hP.sub [0, 1, 2, 3, 4, 5, 6, 7] rfl) (hD.sub [0, 1, 2, 3, 4, 5, 6, 7] (by decide) rfl) hS (lv_sub hl [0, 1, 2, 3] rfl)
      exact lp55 (48 + 1) 0 f H locs ls (by omega) (by omega)  (hP.sub [0, 1, 2, 3, 4, 5, 6, 7] rfl) (hD.sub [0, 1, 2, 3, 4, 5, 6, 7] (by decide) rfl) hS (lv_sub hl [0, 1, 2, 3] rfl)
    · refine lv_iconst (v := (-1)) hx hb dX12_build_26 (by decide) ?_
      exact W.iret (v := (-1)) hx hb hr (fun t ht hW => ⟨⟨((-1) : Int32), (), rfl, (lf_X12_build_47 h q i f n1 n2 c_2 c_5), bx0⟩, hS.F ht⟩) hS.2.2 dX12_build_27 hlocks
