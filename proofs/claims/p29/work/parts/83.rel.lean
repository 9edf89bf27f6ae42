abbrev BOK (n k : Int32) : Prop := ((3 : Int32) ≤ n ∧ n ≤ 24) ∧ ((1 : Int32) ≤ k ∧ k ≤ 8)
def bN (n k : Int32) (s : Nat) : Nat := if BOK n k then n.toNatClampNeg else s
def bK (n k : Int32) (s : Nat) : Nat := if BOK n k then k.toNatClampNeg else s
def bD (n k : Int32) (d : Nat) : Nat := if BOK n k then 0 else d
def bA (n k : Int32) : Int32 := if BOK n k then n * k * 2 else -1
theorem bN_y {n k : Int32} {t s r : Nat} (h1 : (3 : Int32) ≤ n ∧ n ≤ 24) (h2 : (1 : Int32) ≤ k ∧ k ≤ 8) (e : n = nI t) (ht : t ≤ 24) (er : r = t) : r = bN n k s := by
  unfold bN
  rw [if_pos ⟨h1, h2⟩, e, nI_clamp (by omega)]
  exact er
theorem bN_1 {n k : Int32} {s : Nat} (h : ¬ ((3 : Int32) ≤ n ∧ n ≤ 24)) : s = bN n k s := by
  unfold bN
  rw [if_neg (fun w => h w.1)]
theorem bN_2 {n k : Int32} {s : Nat} (h : ¬ ((1 : Int32) ≤ k ∧ k ≤ 8)) : s = bN n k s := by
  unfold bN
  rw [if_neg (fun w => h w.2)]
theorem bK_y {n k : Int32} {t s r : Nat} (h1 : (3 : Int32) ≤ n ∧ n ≤ 24) (h2 : (1 : Int32) ≤ k ∧ k ≤ 8) (e : k = nI t) (ht : t ≤ 8) (er : r = t) : r = bK n k s := by
  unfold bK
  rw [if_pos ⟨h1, h2⟩, e, nI_clamp (by omega)]
  exact er
theorem bK_1 {n k : Int32} {s : Nat} (h : ¬ ((3 : Int32) ≤ n ∧ n ≤ 24)) : s = bK n k s := by
  unfold bK
  rw [if_neg (fun w => h w.1)]
theorem bK_2 {n k : Int32} {s : Nat} (h : ¬ ((1 : Int32) ≤ k ∧ k ≤ 8)) : s = bK n k s := by
  unfold bK
  rw [if_neg (fun w => h w.2)]
theorem bD_y {n k : Int32} {s r : Nat} (h1 : (3 : Int32) ≤ n ∧ n ≤ 24) (h2 : (1 : Int32) ≤ k ∧ k ≤ 8) (er : r = 0) : r = bD n k s := by
  unfold bD
  rw [if_pos ⟨h1, h2⟩]
  exact er
theorem bD_1 {n k : Int32} {s : Nat} (h : ¬ ((3 : Int32) ≤ n ∧ n ≤ 24)) : s = bD n k s := by
  unfold bD
  rw [if_neg (fun w => h w.1)]
theorem bD_2 {n k : Int32} {s : Nat} (h : ¬ ((1 : Int32) ≤ k ∧ k ≤ 8)) : s = bD n k s := by
  unfold bD
  rw [if_neg (fun w => h w.2)]
theorem bA_y {n k : Int32} {t u : Nat} (h1 : (3 : Int32) ≤ n ∧ n ≤ 24) (h2 : (1 : Int32) ≤ k ∧ k ≤ 8) (e : n = nI t) (e2 : k = nI u) : nI (t * u * 2) = bA n k := by
  unfold bA
  rw [if_pos ⟨h1, h2⟩, e, e2, ← pk_mul, ← pk_mul]
  rfl
theorem bA_z {n k : Int32} {t u : Nat} (h1 : (3 : Int32) ≤ n ∧ n ≤ 24) (h2 : (1 : Int32) ≤ k ∧ k ≤ 8) (e : n = nI t) (e2 : k = nI u) : nI (2 * t * u) = bA n k := by
  rw [← bA_y h1 h2 e e2]
  congr 1
  rw [Nat.mul_assoc, Nat.mul_comm]
theorem bA_1 {n k : Int32} (h : ¬ ((3 : Int32) ≤ n ∧ n ≤ 24)) : -1 = bA n k := by
  unfold bA
  rw [if_neg (fun w => h w.1)]
theorem bA_2 {n k : Int32} (h : ¬ ((1 : Int32) ≤ k ∧ k ≤ 8)) : -1 = bA n k := by
  unfold bA
  rw [if_neg (fun w => h w.2)]
abbrev RV (n k d : Int32) (s t : Nat) : Prop := ((0 : Int32) ≤ n ∧ n ≤ nI s - 1) ∧ ((0 : Int32) ≤ k ∧ k ≤ nI t - 1) ∧ ((0 : Int32) ≤ d ∧ d ≤ 1)
theorem RV_y {f s d n k : Nat} (h1 : f < n) (h2 : s < k) (h3 : d < 2) (hn : n ≤ 24) (hk : k ≤ 8) : RV (nI f) (nI s) (nI d) n k := ⟨in_nI h1 (by omega), in_nI h2 (by omega), in_nI1 h3⟩
theorem RV_e {n k d : Int32} {f s e a b : Nat} (e1 : n = nI f) (e2 : k = nI s) (e3 : d = nI e) (h1 : f < a) (h2 : s < b) (h3 : e < 2) (ha : a ≤ 24) (hb : b ≤ 8) : RV n k d a b := by
  subst e1 e2 e3
  exact RV_y h1 h2 h3 ha hb
theorem told_eq {α : Type} {a b c a' b' c' : Nat} (F : Nat → Nat → Nat → α) (h1 : a = a') (h2 : b = b') (h3 : c = c') : F a b c = F a' b' c' := by
  subst h1 h2 h3
  rfl
def gN (d : Nat) : Nat := if d < 4 then d + 1 else d
def gA (d : Nat) : Int32 := if d < 4 then nI d else -1
abbrev DOK (s : Nat) (y : Int32) : Prop := 0 < s ∧ ((0 : Int32) ≤ y ∧ y ≤ 2100)
def dN (s d : Nat) (y : Int32) : Nat := if DOK s y then gN d else d
def dA (s d : Nat) (y : Int32) : Int32 := if DOK s y then gA d else -1
theorem gA_y {d : Nat} (h : d < 4) : nI d = gA d := by
  unfold gA
  rw [if_pos h]
theorem gA_n {d : Nat} (h : ¬ d < 4) : -1 = gA d := by
  unfold gA
  rw [if_neg h]
theorem gN_y {d r : Nat} (h : d < 4) (e : r = d + 1) : r = gN d := by
  unfold gN
  rw [if_pos h]
  exact e
theorem gN_n {d : Nat} (h : ¬ d < 4) : d = gN d := by
  unfold gN
  rw [if_neg h]
theorem dA_y {s d : Nat} {y : Int32} (h : DOK s y) : gA d = dA s d y := by
  unfold dA
  rw [if_pos h]
theorem dN_y {s d r : Nat} {y : Int32} (h : DOK s y) (e : r = gN d) : r = dN s d y := by
  unfold dN
  rw [if_pos h]
  exact e
theorem dA_0 {s d : Nat} {y : Int32} (h : s = 0) : -1 = dA s d y := by
  unfold dA
  rw [if_neg (fun w => absurd w.1 (by omega))]
theorem dN_0 {s d : Nat} {y : Int32} (h : s = 0) : d = dN s d y := by
  unfold dN
  rw [if_neg (fun w => absurd w.1 (by omega))]
theorem dA_1 {s d : Nat} {y : Int32} (h : ¬ ((0 : Int32) ≤ y ∧ y ≤ 2100)) : -1 = dA s d y := by
  unfold dA
  rw [if_neg (fun w => h w.2)]
theorem dN_1 {s d : Nat} {y : Int32} (h : ¬ ((0 : Int32) ≤ y ∧ y ≤ 2100)) : d = dN s d y := by
  unfold dN
  rw [if_neg (fun w => h w.2)]
theorem dA_4 {s d : Nat} {y : Int32} (h : d = 4) : -1 = dA s d y := by
  unfold dA
  split
  · exact gA_n (by omega)
  · rfl
theorem dN_4 {s d : Nat} {y : Int32} (h : d = 4) : d = dN s d y := by
  unfold dN
  split
  · exact gN_n (by omega)
  · rfl
theorem nI_p1 (d : Nat) : nI (d + 1) - 1 = nI d := by
  rw [← nI_1]
  exact Int32.add_sub_cancel _ _
theorem gA_p {d : Nat} (h : d < 4) : nI (d + 1) - 1 = gA d := (nI_p1 d).trans (gA_y h)
theorem dA_z {s d : Nat} {y : Int32} (h : DOK s y) (hd : d < 4) : nI (d + 1) - 1 = dA s d y := (gA_p hd).trans (dA_y h)
theorem dN_z {s d r : Nat} {y : Int32} (h : DOK s y) (hd : d < 4) (e : r = d + 1) : r = dN s d y := dN_y h (gN_y hd e)
theorem lf_X0_fall_f_1 (a : Nat → Nat) (dm : Nat) : ((0 : Nat) = 0) := by
  rfl
set_option maxHeartbeats 4000000 in
set_option maxRecDepth 100000 in
theorem c_X0_fall_f (l : Launch) (D : va_G) (cI cB cZ cJ : ClassId) (tx : List (ClassId × FieldType)) (a : Nat → Nat) (dm : Nat) : WrV l D cI cB cZ cJ tx yX0_fall cX0_fall 1 none 0 0 0 [.ref (a 6)] [(a 6, .inr (0, [.ref (a 5), .ref (a 25), .ref (a 26), .ref (a 27), .ref (a 28), .ref (a 29), .int (nI dm)]))] (fun (v : (Nat)) => (v = 0)) (fun v => [(a 6, .inr (0, [.ref (a 5), .ref (a 25), .ref (a 26), .ref (a 27), .ref (a 28), .ref (a 29), .int (nI v)]))]) := by
  refine wrv_of2 (by decide) (Nat.le_of_ble_eq_true rfl) ?_
  intro p e s m below meth c A ls H locs hC hK hP hD hA hS hl
  obtain ⟨hx, hb, hr, hml, hown, hts, hlocks, hin⟩ := hC
  have hown : s.vm.findClass RX0 = some m.cls := hown
  have hl : lv_has ls 1 [(0, .ref (a 6))] := hl
  refine W_gQ (fun Q hQ => ?_)
  refine lv_aload_n hx hb dX0_fall_0 rfl (lv_at hl 0 rfl) ?_
  refine lv_iconst (v := 0) hx hb dX0_fall_1 (by decide) ?_
  refine va_put (D := D) (ci := 0) (v := .int 0) (ty := .int) (C := RX0) (T := TX0) (N := 7) hx hb hts inT_X0 tyX0 tyX0_ok nmX0 hown hK.1 hP hD hS 0 rfl rfl 6 (by decide) (hts _ k_300) (fun _ h9 => h9) rfl (by decide +kernel) rfl rfl (Nat.le_of_ble_eq_true rfl) dX0_fall_2 (fun H locs hP hD hS => ?_)
  have hPD := pd_mk (ws := [(a 6, .inr (0, [.ref (a 5), .ref (a 25), .ref (a 26), .ref (a 27), .ref (a 28), .ref (a 29), .int 0]))]) hP hD
  have hP := hPD.1
  have hD := hPD.2
  rw [hQ]
  exact W.vret hx hb hr (fun tt9 ht hW => ⟨⟨((0 : Nat)), rfl, (lf_X0_fall_f_1 a dm), ⟨by rw [ht]; exact hP, hD⟩⟩, hS.F ht⟩) hS.2.2 dX0_fall_5 hlocks

theorem lf_X0_begin_f_3 (a : Nat → Nat) (dm : Nat) (d2 : Nat → Int32) (hdm : dm ≤ 4) (c_1 : nI dm < 4) : dm < 4 := by
  exact (nI_ltI (a := dm) (b := 4) (by omega) (by omega)).mp c_1
theorem lf_X0_begin_f_6 (a : Nat → Nat) (dm : Nat) (d2 : Nat → Int32) (hdm : dm ≤ 4) (c_1 : nI dm < 4) (n_2 : dm < 4) (j1 : Nat) (y12_a27 : Nat → Int32) (k12 : Nat) (hj12 : j1 ≤ 384) (hk12 : 384 < j1 + (k12 + 1)) (c_4 : 384 ≤ nI j1) : 384 ≤ j1 := by
  exact (nI_leI (a := 384) (b := j1) (by omega) (by omega)).mp c_4
theorem lf_X0_begin_f_7 (a : Nat → Nat) (dm : Nat) (d2 : Nat → Int32) (hdm : dm ≤ 4) (c_1 : nI dm < 4) (n_2 : dm < 4) (j1 : Nat) (y12_a27 : Nat → Int32) (k12 : Nat) (hj12 : j1 ≤ 384) (hk12 : 384 < j1 + (k12 + 1)) (c_4 : 384 ≤ nI j1) (n_5 : 384 ≤ j1) : (nI (dm + 1) - 1 : Int32) = gA dm ∧ (((dm + 1) : Nat) ≤ 4) ∧ (((dm + 1) : Nat) = gN dm) := by
  refine ⟨?_, ?_, ?_⟩
  all_goals first | omega | assumption | exact gA_p (by omega) | exact gA_n (by omega) | exact gN_y (by omega) (by first | rfl | omega) | exact gN_n (by omega)
theorem lf_X0_begin_f_9 (a : Nat → Nat) (dm : Nat) (d2 : Nat → Int32) (hdm : dm ≤ 4) (c_1 : nI dm < 4) (n_2 : dm < 4) (j1 : Nat) (y12_a27 : Nat → Int32) (k12 : Nat) (hj12 : j1 ≤ 384) (hk12 : 384 < j1 + (k12 + 1)) (c_4 : ¬ 384 ≤ nI j1) : j1 < 384 := by
  exact Nat.lt_of_not_le (fun q => c_4 ((nI_leI (a := 384) (b := j1) (by omega) (by omega)).mpr q))
theorem lf_X0_begin_f_11 (a : Nat → Nat) (dm : Nat) (d2 : Nat → Int32) (hdm : dm ≤ 4) (c_1 : nI dm < 4) (n_2 : dm < 4) (j1 : Nat) (y12_a27 : Nat → Int32) (k12 : Nat) (hj12 : j1 ≤ 384) (hk12 : 384 < j1 + (k12 + 1)) (c_4 : ¬ 384 ≤ nI j1) (n_8 : j1 < 384) : vp_in (nI ((dm * 384) + j1)) 1536 := by
  first | exact vp_in_nI (by omega) (by decide) | (unfold vp_in; decide)
theorem lf_X0_begin_f_13 (a : Nat → Nat) (dm : Nat) (d2 : Nat → Int32) (hdm : dm ≤ 4) (c_1 : ¬ nI dm < 4) : 4 ≤ dm := by
  exact Nat.le_of_not_lt (fun q => c_1 ((nI_ltI (a := dm) (b := 4) (by omega) (by omega)).mpr q))
theorem lf_X0_begin_f_14 (a : Nat → Nat) (dm : Nat) (d2 : Nat → Int32) (hdm : dm ≤ 4) (c_1 : ¬ nI dm < 4) (n_12 : 4 ≤ dm) : ((-1) : Int32) = gA dm ∧ ((dm : Nat) ≤ 4) ∧ ((dm : Nat) = gN dm) := by
  refine ⟨?_, ?_, ?_⟩
  all_goals first | omega | assumption | exact gA_p (by omega) | exact gA_n (by omega) | exact gN_y (by omega) (by first | rfl | omega) | exact gN_n (by omega)
set_option maxHeartbeats 4000000 in
set_option maxRecDepth 100000 in
theorem c_X0_begin_f (l : Launch) (D : va_G) (cI cB cZ cJ : ClassId) (tx : List (ClassId × FieldType)) (a : Nat → Nat) (dm : Nat) (d2 : Nat → Int32) (hdm : dm ≤ 4) : WrI l D cI cB cZ cJ tx yX0_begin cX0_begin 2 (some .int) 0 0 0 [.ref (a 6)] [(a 6, .inr (0, [.ref (a 5), .ref (a 25), .ref (a 26), .ref (a 27), .ref (a 28), .ref (a 29), .int (nI dm)])), (a 27, .inl (cZ, 1536, .inl d2))] (fun (r : Int32) (v : (Nat) × (Nat → Int32)) => r = gA dm ∧ (v.1 ≤ 4) ∧ (v.1 = gN dm)) (fun v => [(a 6, .inr (0, [.ref (a 5), .ref (a 25), .ref (a 26), .ref (a 27), .ref (a 28), .ref (a 29), .int (nI (v.1))])), (a 27, .inl (cZ, 1536, .inl v.2))]) := by
  refine wri_of2 (by decide) (Nat.le_of_ble_eq_true rfl) ?_
  intro p e s m below meth c A ls H locs hC hK hP hD hA hS hl
  obtain ⟨hx, hb, hr, hml, hown, hts, hlocks, hin⟩ := hC
  have hown : s.vm.findClass RX0 = some m.cls := hown
  have hl : lv_has ls 2 [(0, .ref (a 6))] := hl
  refine W_gQ (fun Q hQ => ?_)
  refine lv_aload_n hx hb dX0_begin_0 rfl (lv_at hl 0 rfl) ?_
  refine va_get (D := D) (ci := 0) (v := .int (nI dm)) (C := RX0) (T := TX0) (N := 7) hx hb hts inT_X0 hown hK.1 hP 0 rfl rfl 6 (by decide) (hts _ k_300) (fun _ h9 => h9) rfl dX0_begin_1 ?_
  refine lv_iconst (v := 4) hx hb dX0_begin_4 (by decide) ?_
  refine lv_icmp_lt (tgt := 10) hx hb dX0_begin_5 (by decide) (fun c_1 => ?_) (fun c_1 => ?_)
  · have n_2 : dm < 4 := (lf_X0_begin_f_3 a dm d2 hdm c_1)
    refine lv_iconst (v := 0) hx hb dX0_begin_10 (by decide) ?_
    refine lv_istore_n (lv' := [(1, .int 0), (0, .ref (a 6))]) hx hb dX0_begin_11 rfl hl (by decide) rfl (fun ls hl => ?_)
    have lp12 : ∀ (k12 : Nat) (j1 : Nat) (y12_a27 : Nat → Int32) (H : Heap) (locs : List Loc) (ls : Array Slot), j1 ≤ 384 → 384 < j1 + k12 → va_P D vwCl [(a 6, .inr (0, [.ref (a 5), .ref (a 25), .ref (a 26), .ref (a 27), .ref (a 28), .ref (a 29), .int (nI dm)])), (a 27, .inl (cZ, 1536, .inl y12_a27))] H → va_D A [(a 6, .inr (0, [.ref (a 5), .ref (a 25), .ref (a 26), .ref (a 27), .ref (a 28), .ref (a 29), .int (nI dm)])), (a 27, .inl (cZ, 1536, .inl y12_a27))] → va_S A s.heap H locs → lv_has ls 2 [(1, .int (nI j1)), (0, .ref (a 6))] → W p l e (rmX 0 0 0) s m ([.ref (a 6)] : List Value).toArray below meth c H locs 0 0 Q (F0 m 12 ls []) := by
      intro k12
      induction k12 with
      | zero =>
        intro j1 y12_a27 H locs ls hj12 hk12  hP hD hS hl
        exact absurd hk12 (by omega)
      | succ k12 ih12 =>
        intro j1 y12_a27 H locs ls hj12 hk12  hP hD hS hl
        refine lv_iload_n hx hb dX0_begin_12 rfl (lv_at hl 0 rfl) ?_
        refine lv_sipush (v := 384) hx hb dX0_begin_13 (by decide) ?_
        refine lv_icmp_ge (tgt := 41) hx hb dX0_begin_16 (by decide) (fun c_4 => ?_) (fun c_4 => ?_)
        · have n_5 : 384 ≤ j1 := (lf_X0_begin_f_6 a dm d2 hdm c_1 n_2 j1 y12_a27 k12 hj12 hk12 c_4)
          refine lv_aload_n hx hb dX0_begin_41 rfl (lv_at hl 1 rfl) ?_
          refine lv_dup hx hb dX0_begin_42 rfl ?_
          refine va_get (D := D) (ci := 0) (v := .int (nI dm)) (C := RX0) (T := TX0) (N := 7) hx hb hts inT_X0 hown hK.1 hP 0 rfl rfl 6 (by decide) (hts _ k_300) (fun _ h9 => h9) rfl dX0_begin_43 ?_
          refine lv_iconst (v := 1) hx hb dX0_begin_46 (by decide) ?_
          refine lv_iadd hx hb dX0_begin_47 ?_
          refine lv_topv (y := nI (dm + 1)) (nI_add dm 1) ?_
          refine va_put (D := D) (ci := 0) (v := .int (nI (dm + 1))) (ty := .int) (C := RX0) (T := TX0) (N := 7) hx hb hts inT_X0 tyX0 tyX0_ok nmX0 hown hK.1 hP hD hS 0 rfl rfl 6 (by decide) (hts _ k_300) (fun _ h9 => h9) rfl (by decide +kernel) rfl rfl (Nat.le_of_ble_eq_true rfl) dX0_begin_48 (fun H locs hP hD hS => ?_)
          have hPD := pd_mk (ws := [(a 6, .inr (0, [.ref (a 5), .ref (a 25), .ref (a 26), .ref (a 27), .ref (a 28), .ref (a 29), .int (nI (dm + 1))])), (a 27, .inl (cZ, 1536, .inl y12_a27))]) hP hD
          have hP := hPD.1
          have hD := hPD.2
          refine lv_aload_n hx hb dX0_begin_51 rfl (lv_at hl 1 rfl) ?_
          refine va_get (D := D) (ci := 0) (v := .int (nI (dm + 1))) (C := RX0) (T := TX0) (N := 7) hx hb hts inT_X0 hown hK.1 hP 0 rfl rfl 6 (by decide) (hts _ k_300) (fun _ h9 => h9) rfl dX0_begin_52 ?_
          refine lv_iconst (v := 1) hx hb dX0_begin_55 (by decide) ?_
          refine lv_isub hx hb dX0_begin_56 ?_
          rw [hQ]
          exact W.iret (v := nI (dm + 1) - 1) hx hb hr (fun tt9 ht hW => ⟨⟨(nI (dm + 1) - 1 : Int32), (((dm + 1) : Nat), (y12_a27 : Nat → Int32)), rfl, (lf_X0_begin_f_7 a dm d2 hdm c_1 n_2 j1 y12_a27 k12 hj12 hk12 c_4 n_5), ⟨by rw [ht]; exact hP, hD⟩⟩, hS.F ht⟩) hS.2.2 dX0_begin_57 hlocks
        · have n_8 : j1 < 384 := (lf_X0_begin_f_9 a dm d2 hdm c_1 n_2 j1 y12_a27 k12 hj12 hk12 c_4)
          refine lv_aload_n hx hb dX0_begin_19 rfl (lv_at hl 1 rfl) ?_
          refine va_get (D := D) (ci := 0) (v := .ref (a 27)) (C := RX0) (T := TX0) (N := 7) hx hb hts inT_X0 hown hK.1 hP 0 rfl rfl 3 (by decide) (hts _ k_297) (fun _ h9 => h9) rfl dX0_begin_20 ?_
          refine lv_aload_n hx hb dX0_begin_23 rfl (lv_at hl 1 rfl) ?_
          refine va_get (D := D) (ci := 0) (v := .int (nI dm)) (C := RX0) (T := TX0) (N := 7) hx hb hts inT_X0 hown hK.1 hP 0 rfl rfl 6 (by decide) (hts _ k_300) (fun _ h9 => h9) rfl dX0_begin_24 ?_
          refine lv_sipush (v := 384) hx hb dX0_begin_27 (by decide) ?_
          refine lv_imul hx hb dX0_begin_30 ?_
          refine lv_topv (y := nI (dm * 384)) (pk_mul dm 384) ?_
          refine lv_iload_n hx hb dX0_begin_31 rfl (lv_at hl 0 rfl) ?_
          refine lv_iadd hx hb dX0_begin_32 ?_
          refine lv_topv (y := nI ((dm * 384) + j1)) (nI_add (dm * 384) j1) ?_
          refine lv_iconst (v := 0) hx hb dX0_begin_33 (by decide) ?_
          refine st_z hx hb hK hP hD hS 1 rfl (lf_X0_begin_f_11 a dm d2 hdm c_1 n_2 j1 y12_a27 k12 hj12 hk12 c_4 n_8) dX0_begin_34 (fun f_10 H locs hP hD hS => ?_)
          have hPD := pd_mk (ws := [(a 6, .inr (0, [.ref (a 5), .ref (a 25), .ref (a 26), .ref (a 27), .ref (a 28), .ref (a 29), .int (nI dm)])), (a 27, .inl (cZ, 1536, .inl f_10))]) hP hD
          have hP := hPD.1
          have hD := hPD.2
          refine lv_iinc (v := nI (j1 + 1)) (lv' := [(1, .int (nI (j1 + 1))), (0, .ref (a 6))]) hx hb dX0_begin_35 hl (k := 0) rfl (nI_1 j1) (by decide) rfl (fun ls hl => ?_)
          refine lv_goto (tgt := 12) hx hb dX0_begin_38 (by decide) ?_
          exact ih12 (j1 + 1) f_10 H locs ls (by omega) (by omega)  (hP.sub [0, 1] rfl) (hD.sub [0, 1] (by decide) rfl) hS (lv_sub hl [0, 1] rfl)
    exact lp12 (384 + 1) 0 d2 H locs ls (by omega) (by omega)  (hP.sub [0, 1] rfl) (hD.sub [0, 1] (by decide) rfl) hS (lv_sub hl [0, 1] rfl)
  · have n_12 : 4 ≤ dm := (lf_X0_begin_f_13 a dm d2 hdm c_1)
    refine lv_iconst (v := (-1)) hx hb dX0_begin_8 (by decide) ?_
    rw [hQ]
    exact W.iret (v := (-1)) hx hb hr (fun tt9 ht hW => ⟨⟨((-1) : Int32), ((dm : Nat), (d2 : Nat → Int32)), rfl, (lf_X0_begin_f_14 a dm d2 hdm c_1 n_12), ⟨by rw [ht]; exact hP, hD⟩⟩, hS.F ht⟩) hS.2.2 dX0_begin_9 hlocks

theorem lf_X4_stands_f_3 (a : Nat → Nat) (sn : Nat) (sk : Nat) (scu : Int32) (sch : Int32) (hsn : sn ≤ 24) (hsk : sk ≤ 8) (c_1 : nI sn ≤ 0) : sn ≤ 0 := by
  exact (nI_leI (a := sn) (b := 0) (by omega) (by omega)).mp c_1
theorem lf_X4_stands_f_4 (a : Nat → Nat) (sn : Nat) (sk : Nat) (scu : Int32) (sch : Int32) (hsn : sn ≤ 24) (hsk : sk ≤ 8) (c_1 : nI sn ≤ 0) (n_2 : sn ≤ 0) : ((0 : Int32) = 0 ∧ sn = 0) ∨ ((0 : Int32) = 1 ∧ 0 < sn) := by
  first | exact Or.inl ⟨rfl, by omega⟩ | exact Or.inr ⟨rfl, by omega⟩
theorem lf_X4_stands_f_6 (a : Nat → Nat) (sn : Nat) (sk : Nat) (scu : Int32) (sch : Int32) (hsn : sn ≤ 24) (hsk : sk ≤ 8) (c_1 : ¬ nI sn ≤ 0) : 0 < sn := by
  exact Nat.lt_of_not_le (fun q => c_1 ((nI_leI (a := sn) (b := 0) (by omega) (by omega)).mpr q))
theorem lf_X4_stands_f_7 (a : Nat → Nat) (sn : Nat) (sk : Nat) (scu : Int32) (sch : Int32) (hsn : sn ≤ 24) (hsk : sk ≤ 8) (c_1 : ¬ nI sn ≤ 0) (n_5 : 0 < sn) : ((1 : Int32) = 0 ∧ sn = 0) ∨ ((1 : Int32) = 1 ∧ 0 < sn) := by
  first | exact Or.inl ⟨rfl, by omega⟩ | exact Or.inr ⟨rfl, by omega⟩
set_option maxHeartbeats 4000000 in
set_option maxRecDepth 100000 in
theorem c_X4_stands_f (l : Launch) (D : va_G) (cI cB cZ cJ : ClassId) (tx : List (ClassId × FieldType)) (a : Nat → Nat) (sn : Nat) (sk : Nat) (scu : Int32) (sch : Int32) (hsn : sn ≤ 24) (hsk : sk ≤ 8) : RdI l D cI cB cZ cJ tx yX4_stands cX4_stands 1 (some .boolean) 0 [.ref (a 5)] [(a 5, .inr (4, [.ref (a 18), .ref (a 19), .ref (a 20), .ref (a 21), .ref (a 22), .ref (a 23), .ref (a 24), .int (nI sn), .int (nI sk), .int scu, .int sch]))] (fun r => (r = 0 ∧ sn = 0) ∨ (r = 1 ∧ 0 < sn)) := by
  refine rdi_of2 (by decide) (Nat.le_of_ble_eq_true rfl) ?_
  intro p e s m below meth c A ls H locs hC hK hP hD hA hS hl
  obtain ⟨hx, hb, hr, hml, hown, hts, hlocks, hin⟩ := hC
  have hown : s.vm.findClass RX4 = some m.cls := hown
  have hl : lv_has ls 1 [(0, .ref (a 5))] := hl
  refine W_gQ (fun Q hQ => ?_)
  refine lv_aload_n hx hb dX4_stands_0 rfl (lv_at hl 0 rfl) ?_
  refine va_get (D := D) (ci := 4) (v := .int (nI sn)) (C := RX4) (T := TX4) (N := 11) hx hb hts inT_X4 hown hK.1 hP 0 rfl rfl 7 (by decide) (hts _ k_248) (fun _ h9 => h9) rfl dX4_stands_1 ?_
  refine lv_if_le (tgt := 11) hx hb dX4_stands_4 (by decide) (fun c_1 => ?_) (fun c_1 => ?_)
  · have n_2 : sn ≤ 0 := (lf_X4_stands_f_3 a sn sk scu sch hsn hsk c_1)
    refine lv_iconst (v := 0) hx hb dX4_stands_11 (by decide) ?_
    rw [hQ]
    exact W.zret (v := 0) hx hb hr (by decide) (fun tt9 ht hW => ⟨⟨(0 : Int32), (), rfl, (lf_X4_stands_f_4 a sn sk scu sch hsn hsk c_1 n_2), trivial⟩, hS.F ht⟩) hS.2.2 dX4_stands_12 hlocks
  · have n_5 : 0 < sn := (lf_X4_stands_f_6 a sn sk scu sch hsn hsk c_1)
    refine lv_iconst (v := 1) hx hb dX4_stands_7 (by decide) ?_
    refine lv_goto (tgt := 12) hx hb dX4_stands_8 (by decide) ?_
    rw [hQ]
    exact W.zret (v := 1) hx hb hr (by decide) (fun tt9 ht hW => ⟨⟨(1 : Int32), (), rfl, (lf_X4_stands_f_7 a sn sk scu sch hsn hsk c_1 n_5), trivial⟩, hS.F ht⟩) hS.2.2 dX4_stands_12 hlocks

theorem lf_X11_drawing_f_1 (a : Nat → Nat) (ap : Int32) (sn : Nat) (sk : Nat) (scu : Int32) (sch : Int32) (dm : Nat) (d2 : Nat → Int32) (n1 : Int32) (hsn : sn ≤ 24) (hsk : sk ≤ 8) (hdm : dm ≤ 4) : sn ≤ 24 := by
  first | assumption | omega | decide
theorem lf_X11_drawing_f_2 (a : Nat → Nat) (ap : Int32) (sn : Nat) (sk : Nat) (scu : Int32) (sch : Int32) (dm : Nat) (d2 : Nat → Int32) (n1 : Int32) (hsn : sn ≤ 24) (hsk : sk ≤ 8) (hdm : dm ≤ 4) : sk ≤ 8 := by
  first | assumption | omega | decide
theorem lf_X11_drawing_f_4 (a : Nat → Nat) (ap : Int32) (sn : Nat) (sk : Nat) (scu : Int32) (sch : Int32) (dm : Nat) (d2 : Nat → Int32) (n1 : Int32) (hsn : sn ≤ 24) (hsk : sk ≤ 8) (hdm : dm ≤ 4) (hst3 : sn = 0) : ((-1) : Int32) = dA sn dm n1 ∧ ((dm : Nat) ≤ 4) ∧ ((dm : Nat) = dN sn dm n1) := by
  refine ⟨?_, ?_, ?_⟩
  all_goals first | omega | assumption | exact dA_y ⟨by omega, by assumption⟩ | exact dN_y ⟨by omega, by assumption⟩ (by assumption) | exact dA_0 (by omega) | exact dN_0 (by omega) | exact dA_1 (by assumption) | exact dN_1 (by assumption) | exact dA_4 (by omega) | exact dN_4 (by omega) | exact dA_z ⟨by omega, by assumption⟩ (by omega) | exact dN_z ⟨by omega, by assumption⟩ (by omega) (by first | rfl | omega)
theorem lf_X11_drawing_f_7 (a : Nat → Nat) (ap : Int32) (sn : Nat) (sk : Nat) (scu : Int32) (sch : Int32) (dm : Nat) (d2 : Nat → Int32) (n1 : Int32) (hsn : sn ≤ 24) (hsk : sk ≤ 8) (hdm : dm ≤ 4) (hst3 : 0 < sn) (c_6 : (0 : Int32) ≤ n1 ∧ n1 ≤ 2100) (tn1 : Nat) (tn1a : 0 ≤ tn1) (tn1b : tn1 ≤ 2100) (tn1e : n1 = nI tn1) : dm ≤ 4 := by
  first | assumption | omega | decide
theorem lf_X11_drawing_f_10 (a : Nat → Nat) (ap : Int32) (sn : Nat) (sk : Nat) (scu : Int32) (sch : Int32) (dm : Nat) (d2 : Nat → Int32) (n1 : Int32) (hsn : sn ≤ 24) (hsk : sk ≤ 8) (hdm : dm ≤ 4) (hst3 : 0 < sn) (c_6 : (0 : Int32) ≤ n1 ∧ n1 ≤ 2100) (tn1 : Nat) (tn1a : 0 ≤ tn1) (tn1b : tn1 ≤ 2100) (tn1e : n1 = nI tn1) (dm_9 : Nat) (d2_9 : Nat → Int32) (hz_9_0 : dm_9 ≤ 4) (hz_9_1 : dm_9 = gN dm) : (gA dm : Int32) = dA sn dm n1 ∧ ((dm_9 : Nat) ≤ 4) ∧ ((dm_9 : Nat) = dN sn dm n1) := by
  refine ⟨?_, ?_, ?_⟩
  all_goals first | omega | assumption | exact dA_y ⟨by omega, by assumption⟩ | exact dN_y ⟨by omega, by assumption⟩ (by assumption) | exact dA_0 (by omega) | exact dN_0 (by omega) | exact dA_1 (by assumption) | exact dN_1 (by assumption) | exact dA_4 (by omega) | exact dN_4 (by omega) | exact dA_z ⟨by omega, by assumption⟩ (by omega) | exact dN_z ⟨by omega, by assumption⟩ (by omega) (by first | rfl | omega)
theorem lf_X11_drawing_f_11 (a : Nat → Nat) (ap : Int32) (sn : Nat) (sk : Nat) (scu : Int32) (sch : Int32) (dm : Nat) (d2 : Nat → Int32) (n1 : Int32) (hsn : sn ≤ 24) (hsk : sk ≤ 8) (hdm : dm ≤ 4) (hst3 : 0 < sn) (c_6 : ¬ ((0 : Int32) ≤ n1 ∧ n1 ≤ 2100)) : ((-1) : Int32) = dA sn dm n1 ∧ ((dm : Nat) ≤ 4) ∧ ((dm : Nat) = dN sn dm n1) := by
  refine ⟨?_, ?_, ?_⟩
  all_goals first | omega | assumption | exact dA_y ⟨by omega, by assumption⟩ | exact dN_y ⟨by omega, by assumption⟩ (by assumption) | exact dA_0 (by omega) | exact dN_0 (by omega) | exact dA_1 (by assumption) | exact dN_1 (by assumption) | exact dA_4 (by omega) | exact dN_4 (by omega) | exact dA_z ⟨by omega, by assumption⟩ (by omega) | exact dN_z ⟨by omega, by assumption⟩ (by omega) (by first | rfl | omega)
set_option maxHeartbeats 4000000 in
set_option maxRecDepth 100000 in
theorem c_X11_drawing_f (l : Launch) (D : va_G) (cI cB cZ cJ : ClassId) (tx : List (ClassId × FieldType)) (a : Nat → Nat) (ap : Int32) (sn : Nat) (sk : Nat) (scu : Int32) (sch : Int32) (dm : Nat) (d2 : Nat → Int32) (n1 : Int32) (hsn : sn ≤ 24) (hsk : sk ≤ 8) (hdm : dm ≤ 4) : WrI l D cI cB cZ cJ tx yX11_drawing cX11_drawing 2 (some .int) 2 0 0 [.ref (a 0), .int n1] [(a 0, .inr (11, [.ref (a 1), .ref (a 2), .ref (a 3), .ref (a 4), .ref (a 5), .ref (a 6), .ref (a 7), .ref (a 8), .ref (a 9), .ref (a 10), .ref (a 11), .ref (a 12), .int ap])), (a 5, .inr (4, [.ref (a 18), .ref (a 19), .ref (a 20), .ref (a 21), .ref (a 22), .ref (a 23), .ref (a 24), .int (nI sn), .int (nI sk), .int scu, .int sch])), (a 6, .inr (0, [.ref (a 5), .ref (a 25), .ref (a 26), .ref (a 27), .ref (a 28), .ref (a 29), .int (nI dm)])), (a 27, .inl (cZ, 1536, .inl d2))] (fun (r : Int32) (v : (Nat) × (Nat → Int32)) => r = dA sn dm n1 ∧ (v.1 ≤ 4) ∧ (v.1 = dN sn dm n1)) (fun v => [(a 0, .inr (11, [.ref (a 1), .ref (a 2), .ref (a 3), .ref (a 4), .ref (a 5), .ref (a 6), .ref (a 7), .ref (a 8), .ref (a 9), .ref (a 10), .ref (a 11), .ref (a 12), .int ap])), (a 5, .inr (4, [.ref (a 18), .ref (a 19), .ref (a 20), .ref (a 21), .ref (a 22), .ref (a 23), .ref (a 24), .int (nI sn), .int (nI sk), .int scu, .int sch])), (a 6, .inr (0, [.ref (a 5), .ref (a 25), .ref (a 26), .ref (a 27), .ref (a 28), .ref (a 29), .int (nI (v.1))])), (a 27, .inl (cZ, 1536, .inl v.2))]) := by
  refine wri_of2 (by decide) (Nat.le_of_ble_eq_true rfl) ?_
  intro p e s m below meth c A ls H locs hC hK hP hD hA hS hl
  obtain ⟨hx, hb, hr, hml, hown, hts, hlocks, hin⟩ := hC
  have hown : s.vm.findClass RX11 = some m.cls := hown
  have hl : lv_has ls 2 [(0, .ref (a 0)), (1, .int n1)] := hl
  refine W_gQ (fun Q hQ => ?_)
  refine lv_aload_n hx hb dX11_drawing_0 rfl (lv_at hl 0 rfl) ?_
  refine va_get (D := D) (ci := 11) (v := .ref (a 5)) (C := RX11) (T := TX11) (N := 13) hx hb hts inT_X11 hown hK.1 hP 0 rfl rfl 4 (by decide) (hts _ k_487) (fun _ h9 => h9) rfl dX11_drawing_1 ?_
  refine eRi (va_runV (As := []) (rest := []) ⟨hx, hb, hml, hown, hts⟩ (c_X4_stands_f l D cI cB cZ cJ tx a sn sk scu sch (lf_X11_drawing_f_1 a ap sn sk scu sch dm d2 n1 hsn hsk hdm) (lf_X11_drawing_f_2 a ap sn sk scu sch dm d2 n1 hsn hsk hdm) H.size) (zV hts k_824 v_X4_stands ⟨Nat.le_of_ble_eq_true rfl, Nat.le_of_ble_eq_true rfl⟩) (pV (px1 hK hP 1 rfl) hK hP 1 rfl rfl) rfl rfl hl.1 rfl (lv_room (Nat.le_of_ble_eq_true rfl)) dX11_drawing_4 ⟨Nat.le_of_ble_eq_true rfl, Nat.le_of_ble_eq_true rfl⟩) hP hS hA (fun r_3 H locs wr_3 hP hS => ?_)
  rcases wr_3 with ⟨rfl, hst3⟩ | ⟨rfl, hst3⟩
  · refine lv_if_eq (tgt := 21) hx hb dX11_drawing_7 (by decide) (fun _ => ?_) (fun c => absurd c (by decide))
    refine lv_iconst (v := (-1)) hx hb dX11_drawing_21 (by decide) ?_
    rw [hQ]
    exact W.iret (v := (-1)) hx hb hr (fun tt9 ht hW => ⟨⟨((-1) : Int32), ((dm : Nat), (d2 : Nat → Int32)), rfl, (lf_X11_drawing_f_4 a ap sn sk scu sch dm d2 n1 hsn hsk hdm hst3), ⟨by rw [ht]; exact hP, hD⟩⟩, hS.F ht⟩) hS.2.2 dX11_drawing_22 hlocks
  · refine lv_if_eq (tgt := 21) hx hb dX11_drawing_7 (by decide) (fun c => absurd c (by decide)) (fun _ => ?_)
    refine lv_iload_n hx hb dX11_drawing_10 rfl (lv_at hl 1 rfl) ?_
    refine lv_iconst (v := 0) hx hb dX11_drawing_11 (by decide) ?_
    refine lv_sipush (v := 2100) hx hb dX11_drawing_12 (by decide) ?_
    refine eRi (va_runS (As := [.int n1, .int 0, .int 2100]) (rest := []) ⟨hx, hb, hml, hown, hts⟩ (c_X11_within l D cI cB cZ cJ tx n1 0 2100 H.size) (zS hts k_527 v_X11_within ⟨Nat.le_of_ble_eq_true rfl, Nat.le_of_ble_eq_true rfl⟩) (px0 hK) rfl rfl hl.1 rfl (lv_room (Nat.le_of_ble_eq_true rfl)) dX11_drawing_15 ⟨Nat.le_of_ble_eq_true rfl, Nat.le_of_ble_eq_true rfl⟩) hP hS hA (fun r_5 H locs wr_5 hP hS => ?_)
    subst wr_5
    refine lv_bi_ne (tgt := 23) hx hb dX11_drawing_18 (by decide) (fun c_6 => ?_) (fun c_6 => ?_)
    · obtain ⟨tn1, tn1a, tn1b, tn1e⟩ := of_rng 0 2100 rfl rfl c_6
      subst tn1e
      refine lv_aload_n hx hb dX11_drawing_23 rfl (lv_at hl 0 rfl) ?_
      refine va_get (D := D) (ci := 11) (v := .ref (a 6)) (C := RX11) (T := TX11) (N := 13) hx hb hts inT_X11 hown hK.1 hP 0 rfl rfl 5 (by decide) (hts _ k_488) (fun _ h9 => h9) rfl dX11_drawing_24 ?_
      refine eWiP (va_runV (As := []) (rest := []) ⟨hx, hb, hml, hown, hts⟩ (c_X0_begin_f l D cI cB cZ cJ tx a dm d2 (lf_X11_drawing_f_7 a ap sn sk scu sch dm d2 (nI tn1) hsn hsk hdm hst3 c_6 tn1 tn1a tn1b rfl) H.size) (zV hts k_891 v_X0_begin ⟨Nat.le_of_ble_eq_true rfl, Nat.le_of_ble_eq_true rfl⟩) (pV (pxS hK hP hD [2, 3] (by decide) rfl) hK hP 2 rfl rfl) rfl rfl hl.1 rfl (lv_room (Nat.le_of_ble_eq_true rfl)) dX11_drawing_27 ⟨Nat.le_of_ble_eq_true rfl, Nat.le_of_ble_eq_true rfl⟩) hP hD hS hA [2, 3] [none, none, some 0, some 1] rfl (by decide +kernel) (fun _ => rfl) (fun r_8 u_9 H locs wr_8 hP hD hS => ?_)
      obtain ⟨dm_9, d2_9⟩ := u_9
      have hz_9_0 : dm_9 ≤ 4 := wr_8.2.1
      have hz_9_1 : dm_9 = gN dm := wr_8.2.2
      have hPD := pd_mk (ws := [(a 0, .inr (11, [.ref (a 1), .ref (a 2), .ref (a 3), .ref (a 4), .ref (a 5), .ref (a 6), .ref (a 7), .ref (a 8), .ref (a 9), .ref (a 10), .ref (a 11), .ref (a 12), .int ap])), (a 5, .inr (4, [.ref (a 18), .ref (a 19), .ref (a 20), .ref (a 21), .ref (a 22), .ref (a 23), .ref (a 24), .int (nI sn), .int (nI sk), .int scu, .int sch])), (a 6, .inr (0, [.ref (a 5), .ref (a 25), .ref (a 26), .ref (a 27), .ref (a 28), .ref (a 29), .int (nI dm_9)])), (a 27, .inl (cZ, 1536, .inl d2_9))]) hP hD
      have hP := hPD.1
      have hD := hPD.2
      rcases wr_8 with ⟨rfl, _⟩
      · rw [hQ]
        exact W.iret (v := gA dm) hx hb hr (fun tt9 ht hW => ⟨⟨(gA dm : Int32), ((dm_9 : Nat), (d2_9 : Nat → Int32)), rfl, (lf_X11_drawing_f_10 a ap sn sk scu sch dm d2 (nI tn1) hsn hsk hdm hst3 c_6 tn1 tn1a tn1b rfl dm_9 d2_9 hz_9_0 hz_9_1), ⟨by rw [ht]; exact hP, hD⟩⟩, hS.F ht⟩) hS.2.2 dX11_drawing_30 hlocks
    · refine lv_iconst (v := (-1)) hx hb dX11_drawing_21 (by decide) ?_
      rw [hQ]
      exact W.iret (v := (-1)) hx hb hr (fun tt9 ht hW => ⟨⟨((-1) : Int32), ((dm : Nat), (d2 : Nat → Int32)), rfl, (lf_X11_drawing_f_11 a ap sn sk scu sch dm d2 n1 hsn hsk hdm hst3 c_6), ⟨by rw [ht]; exact hP, hD⟩⟩, hS.F ht⟩) hS.2.2 dX11_drawing_22 hlocks

theorem lf_X12_drawing_f_3 (h : Nat) (q : Nat → Nat) (im : Nat → Int32) (ms : Nat) (md : Nat) (m_hasMark : Nat → Int32) (n1 : Int32) (hf_ms : im 2 = nI ms) (hf_md : im 50 = nI md) (hms : ms ≤ 24) (hmd : md ≤ 4) (hsb : SB [50] im im) (c_1 : nI ms = 0) : ms = 0 := by
  exact (nI_eq (a := ms) (b := 0) (by omega) (by omega)).mp c_1
theorem lf_X12_drawing_f_4 (h : Nat) (q : Nat → Nat) (im : Nat → Int32) (ms : Nat) (md : Nat) (m_hasMark : Nat → Int32) (n1 : Int32) (hf_ms : im 2 = nI ms) (hf_md : im 50 = nI md) (hms : ms ≤ 24) (hmd : md ≤ 4) (hsb : SB [50] im im) (c_1 : nI ms = 0) (n_2 : ms = 0) : ((-1) : Int32) = dA ms md n1 ∧ (SB [50] im (im : Nat → Int32)) ∧ ((im : Nat → Int32) 50 = nI (md : Nat)) ∧ ((md : Nat) ≤ 4) ∧ ((md : Nat) = dN ms md n1) := by
  refine ⟨?_, ?_, ?_, ?_, ?_⟩
  all_goals first | rfl | first | omega | assumption | exact dA_y ⟨by omega, by assumption⟩ | exact dN_y ⟨by omega, by assumption⟩ (by assumption) | exact dA_0 (by omega) | exact dN_0 (by omega) | exact dA_1 (by assumption) | exact dN_1 (by assumption) | exact dA_4 (by omega) | exact dN_4 (by omega) | exact dA_z ⟨by omega, by assumption⟩ (by omega) | exact dN_z ⟨by omega, by assumption⟩ (by omega) (by first | rfl | omega)
theorem lf_X12_drawing_f_6 (h : Nat) (q : Nat → Nat) (im : Nat → Int32) (ms : Nat) (md : Nat) (m_hasMark : Nat → Int32) (n1 : Int32) (hf_ms : im 2 = nI ms) (hf_md : im 50 = nI md) (hms : ms ≤ 24) (hmd : md ≤ 4) (hsb : SB [50] im im) (c_1 : ¬ nI ms = 0) : ms ≠ 0 := by
  exact fun q => c_1 ((nI_eq (a := ms) (b := 0) (by omega) (by omega)).mpr q)
theorem lf_X12_drawing_f_9 (h : Nat) (q : Nat → Nat) (im : Nat → Int32) (ms : Nat) (md : Nat) (m_hasMark : Nat → Int32) (n1 : Int32) (hf_ms : im 2 = nI ms) (hf_md : im 50 = nI md) (hms : ms ≤ 24) (hmd : md ≤ 4) (hsb : SB [50] im im) (c_1 : ¬ nI ms = 0) (n_5 : ms ≠ 0) (c_7 : nI md = 4) : md = 4 := by
  exact (nI_eq (a := md) (b := 4) (by omega) (by omega)).mp c_7
theorem lf_X12_drawing_f_10 (h : Nat) (q : Nat → Nat) (im : Nat → Int32) (ms : Nat) (md : Nat) (m_hasMark : Nat → Int32) (n1 : Int32) (hf_ms : im 2 = nI ms) (hf_md : im 50 = nI md) (hms : ms ≤ 24) (hmd : md ≤ 4) (hsb : SB [50] im im) (c_1 : ¬ nI ms = 0) (n_5 : ms ≠ 0) (c_7 : nI md = 4) (n_8 : md = 4) : ((-1) : Int32) = dA ms md n1 ∧ (SB [50] im (im : Nat → Int32)) ∧ ((im : Nat → Int32) 50 = nI (md : Nat)) ∧ ((md : Nat) ≤ 4) ∧ ((md : Nat) = dN ms md n1) := by
  refine ⟨?_, ?_, ?_, ?_, ?_⟩
  all_goals first | rfl | first | omega | assumption | exact dA_y ⟨by omega, by assumption⟩ | exact dN_y ⟨by omega, by assumption⟩ (by assumption) | exact dA_0 (by omega) | exact dN_0 (by omega) | exact dA_1 (by assumption) | exact dN_1 (by assumption) | exact dA_4 (by omega) | exact dN_4 (by omega) | exact dA_z ⟨by omega, by assumption⟩ (by omega) | exact dN_z ⟨by omega, by assumption⟩ (by omega) (by first | rfl | omega)
theorem lf_X12_drawing_f_12 (h : Nat) (q : Nat → Nat) (im : Nat → Int32) (ms : Nat) (md : Nat) (m_hasMark : Nat → Int32) (n1 : Int32) (hf_ms : im 2 = nI ms) (hf_md : im 50 = nI md) (hms : ms ≤ 24) (hmd : md ≤ 4) (hsb : SB [50] im im) (c_1 : ¬ nI ms = 0) (n_5 : ms ≠ 0) (c_7 : ¬ nI md = 4) : md ≠ 4 := by
  exact fun q => c_7 ((nI_eq (a := md) (b := 4) (by omega) (by omega)).mpr q)
theorem lf_X12_drawing_f_17 (h : Nat) (q : Nat → Nat) (im : Nat → Int32) (ms : Nat) (md : Nat) (m_hasMark : Nat → Int32) (n1 : Int32) (hf_ms : im 2 = nI ms) (hf_md : im 50 = nI md) (hms : ms ≤ 24) (hmd : md ≤ 4) (hsb : SB [50] im im) (c_1 : ¬ nI ms = 0) (n_5 : ms ≠ 0) (c_7 : ¬ nI md = 4) (n_11 : md ≠ 4) (c_14 : (0 : Int32) ≤ n1 ∧ n1 ≤ 2100) (tn1 : Nat) (tn1a : 0 ≤ tn1) (tn1b : tn1 ≤ 2100) (tn1e : n1 = nI tn1) (j1 : Nat) (m_hasMark_j1 : Nat → Int32) (k31 : Nat) (hj31 : j1 ≤ 384) (hk31 : 384 < j1 + (k31 + 1)) (c_15 : 384 ≤ nI j1) : 384 ≤ j1 := by
  exact (nI_leI (a := 384) (b := j1) (by omega) (by omega)).mp c_15
theorem lf_X12_drawing_f_19 (h : Nat) (q : Nat → Nat) (im : Nat → Int32) (ms : Nat) (md : Nat) (m_hasMark : Nat → Int32) (n1 : Int32) (hf_ms : im 2 = nI ms) (hf_md : im 50 = nI md) (hms : ms ≤ 24) (hmd : md ≤ 4) (c_1 : ¬ nI ms = 0) (n_5 : ms ≠ 0) (c_7 : ¬ nI md = 4) (n_11 : md ≠ 4) (c_14 : (0 : Int32) ≤ n1 ∧ n1 ≤ 2100) (tn1 : Nat) (tn1a : 0 ≤ tn1) (tn1b : tn1 ≤ 2100) (tn1e : n1 = nI tn1) (j1 : Nat) (m_hasMark_j1 : Nat → Int32) (k31 : Nat) (hj31 : j1 ≤ 384) (hk31 : 384 < j1 + (k31 + 1)) (c_15 : 384 ≤ nI j1) (n_16 : 384 ≤ j1) (i_18 : Nat → Int32) (hsb : SB [50] im i_18) (hi_18_2 : i_18 2 = nI ms) (hi_18_50 : i_18 50 = nI (md + 1)) : (nI (md + 1) - 1 : Int32) = dA ms md n1 ∧ (SB [50] im (i_18 : Nat → Int32)) ∧ ((i_18 : Nat → Int32) 50 = nI ((md + 1) : Nat)) ∧ (((md + 1) : Nat) ≤ 4) ∧ (((md + 1) : Nat) = dN ms md n1) := by
  refine ⟨?_, ?_, ?_, ?_, ?_⟩
  all_goals first | rfl | first | omega | assumption | exact dA_y ⟨by omega, by assumption⟩ | exact dN_y ⟨by omega, by assumption⟩ (by assumption) | exact dA_0 (by omega) | exact dN_0 (by omega) | exact dA_1 (by assumption) | exact dN_1 (by assumption) | exact dA_4 (by omega) | exact dN_4 (by omega) | exact dA_z ⟨by omega, by assumption⟩ (by omega) | exact dN_z ⟨by omega, by assumption⟩ (by omega) (by first | rfl | omega)
theorem lf_X12_drawing_f_21 (h : Nat) (q : Nat → Nat) (im : Nat → Int32) (ms : Nat) (md : Nat) (m_hasMark : Nat → Int32) (n1 : Int32) (hf_ms : im 2 = nI ms) (hf_md : im 50 = nI md) (hms : ms ≤ 24) (hmd : md ≤ 4) (hsb : SB [50] im im) (c_1 : ¬ nI ms = 0) (n_5 : ms ≠ 0) (c_7 : ¬ nI md = 4) (n_11 : md ≠ 4) (c_14 : (0 : Int32) ≤ n1 ∧ n1 ≤ 2100) (tn1 : Nat) (tn1a : 0 ≤ tn1) (tn1b : tn1 ≤ 2100) (tn1e : n1 = nI tn1) (j1 : Nat) (m_hasMark_j1 : Nat → Int32) (k31 : Nat) (hj31 : j1 ≤ 384) (hk31 : 384 < j1 + (k31 + 1)) (c_15 : ¬ 384 ≤ nI j1) : j1 < 384 := by
  exact Nat.lt_of_not_le (fun q => c_15 ((nI_leI (a := 384) (b := j1) (by omega) (by omega)).mpr q))
theorem lf_X12_drawing_f_23 (h : Nat) (q : Nat → Nat) (im : Nat → Int32) (ms : Nat) (md : Nat) (m_hasMark : Nat → Int32) (n1 : Int32) (hf_ms : im 2 = nI ms) (hf_md : im 50 = nI md) (hms : ms ≤ 24) (hmd : md ≤ 4) (hsb : SB [50] im im) (c_1 : ¬ nI ms = 0) (n_5 : ms ≠ 0) (c_7 : ¬ nI md = 4) (n_11 : md ≠ 4) (c_14 : (0 : Int32) ≤ n1 ∧ n1 ≤ 2100) (tn1 : Nat) (tn1a : 0 ≤ tn1) (tn1b : tn1 ≤ 2100) (tn1e : n1 = nI tn1) (j1 : Nat) (m_hasMark_j1 : Nat → Int32) (k31 : Nat) (hj31 : j1 ≤ 384) (hk31 : 384 < j1 + (k31 + 1)) (c_15 : ¬ 384 ≤ nI j1) (n_20 : j1 < 384) : vp_in (nI ((384 * md) + j1)) 1536 := by
  first | exact vp_in_nI (by omega) (by decide) | (unfold vp_in; decide)
theorem lf_X12_drawing_f_24 (h : Nat) (q : Nat → Nat) (im : Nat → Int32) (ms : Nat) (md : Nat) (m_hasMark : Nat → Int32) (n1 : Int32) (hf_ms : im 2 = nI ms) (hf_md : im 50 = nI md) (hms : ms ≤ 24) (hmd : md ≤ 4) (hsb : SB [50] im im) (c_1 : ¬ nI ms = 0) (n_5 : ms ≠ 0) (c_7 : ¬ nI md = 4) (n_11 : md ≠ 4) (c_14 : ¬ ((0 : Int32) ≤ n1 ∧ n1 ≤ 2100)) : ((-1) : Int32) = dA ms md n1 ∧ (SB [50] im (im : Nat → Int32)) ∧ ((im : Nat → Int32) 50 = nI (md : Nat)) ∧ ((md : Nat) ≤ 4) ∧ ((md : Nat) = dN ms md n1) := by
  refine ⟨?_, ?_, ?_, ?_, ?_⟩
  all_goals first | rfl | first | omega | assumption | exact dA_y ⟨by omega, by assumption⟩ | exact dN_y ⟨by omega, by assumption⟩ (by assumption) | exact dA_0 (by omega) | exact dN_0 (by omega) | exact dA_1 (by assumption) | exact dN_1 (by assumption) | exact dA_4 (by omega) | exact dN_4 (by omega) | exact dA_z ⟨by omega, by assumption⟩ (by omega) | exact dN_z ⟨by omega, by assumption⟩ (by omega) (by first | rfl | omega)
set_option maxHeartbeats 4000000 in
set_option maxRecDepth 100000 in
theorem c_X12_drawing_f (l : Launch) (D : va_G) (cI cB cZ cJ : ClassId) (tx : List (ClassId × FieldType)) (h : Nat) (q : Nat → Nat) (im : Nat → Int32) (ms : Nat) (md : Nat) (m_hasMark : Nat → Int32) (n1 : Int32) (hf_ms : im 2 = nI ms) (hf_md : im 50 = nI md) (hms : ms ≤ 24) (hmd : md ≤ 4) : WrI l D cI cB cZ cJ tx yX12_drawing cX12_drawing 3 (some .int) 1 0 0 [.ref h, .int n1] [(h, .inr (12, mG q im)), (q 51, .inl (cZ, 1536, .inl m_hasMark))] (fun (r : Int32) (v : (Nat → Int32) × (Nat) × (Nat → Int32)) => r = dA ms md n1 ∧ (SB [50] im v.1) ∧ (v.1 50 = nI v.2.1) ∧ (v.2.1 ≤ 4) ∧ (v.2.1 = dN ms md n1)) (fun v => [(h, .inr (12, mG q v.1)), (q 51, .inl (cZ, 1536, .inl v.2.2))]) := by
  refine wri_of2 (by decide) (Nat.le_of_ble_eq_true rfl) ?_
  intro p e s m below meth c A ls H locs hC hK hP hD hA hS hl
  obtain ⟨hx, hb, hr, hml, hown, hts, hlocks, hin⟩ := hC
  have hown : s.vm.findClass RX12 = some m.cls := hown
  have hl : lv_has ls 3 [(0, .ref h), (1, .int n1)] := hl
  have hsb : SB [50] im im := SB.rf
  refine W_gQ (fun Q hQ => ?_)
  refine lv_aload_n hx hb dX12_drawing_0 rfl (lv_at hl 0 rfl) ?_
  refine va_get (D := D) (ci := 12) (v := .int (im 2)) (C := RX12) (T := TX12) (N := 81) hx hb hts inT_X12 hown hK.1 hP 0 rfl rfl 2 (by decide) (hts _ k_1355) (fun _ h9 => h9) rfl dX12_drawing_1 ?_
  refine lv_topv (y := nI ms) hf_ms ?_
  refine lv_if_eq (tgt := 27) hx hb dX12_drawing_4 (by decide) (fun c_1 => ?_) (fun c_1 => ?_)
  · have n_2 : ms = 0 := (lf_X12_drawing_f_3 h q im ms md m_hasMark n1 hf_ms hf_md hms hmd hsb c_1)
    refine lv_iconst (v := (-1)) hx hb dX12_drawing_27 (by decide) ?_
    rw [hQ]
    exact W.iret (v := (-1)) hx hb hr (fun tt9 ht hW => ⟨⟨((-1) : Int32), ((im : Nat → Int32), (md : Nat), (m_hasMark : Nat → Int32)), rfl, (lf_X12_drawing_f_4 h q im ms md m_hasMark n1 hf_ms hf_md hms hmd hsb c_1 n_2), ⟨by rw [ht]; exact hP, hD⟩⟩, hS.F ht⟩) hS.2.2 dX12_drawing_28 hlocks
  · have n_5 : ms ≠ 0 := (lf_X12_drawing_f_6 h q im ms md m_hasMark n1 hf_ms hf_md hms hmd hsb c_1)
    refine lv_aload_n hx hb dX12_drawing_7 rfl (lv_at hl 0 rfl) ?_
    refine va_get (D := D) (ci := 12) (v := .int (im 50)) (C := RX12) (T := TX12) (N := 81) hx hb hts inT_X12 hown hK.1 hP 0 rfl rfl 50 (by decide) (hts _ k_1403) (fun _ h9 => h9) rfl dX12_drawing_8 ?_
    refine lv_topv (y := nI md) hf_md ?_
    refine lv_iconst (v := 4) hx hb dX12_drawing_11 (by decide) ?_
    refine lv_icmp_eq (tgt := 27) hx hb dX12_drawing_12 (by decide) (fun c_7 => ?_) (fun c_7 => ?_)
    · have n_8 : md = 4 := (lf_X12_drawing_f_9 h q im ms md m_hasMark n1 hf_ms hf_md hms hmd hsb c_1 n_5 c_7)
      refine lv_iconst (v := (-1)) hx hb dX12_drawing_27 (by decide) ?_
      rw [hQ]
      exact W.iret (v := (-1)) hx hb hr (fun tt9 ht hW => ⟨⟨((-1) : Int32), ((im : Nat → Int32), (md : Nat), (m_hasMark : Nat → Int32)), rfl, (lf_X12_drawing_f_10 h q im ms md m_hasMark n1 hf_ms hf_md hms hmd hsb c_1 n_5 c_7 n_8), ⟨by rw [ht]; exact hP, hD⟩⟩, hS.F ht⟩) hS.2.2 dX12_drawing_28 hlocks
    · have n_11 : md ≠ 4 := (lf_X12_drawing_f_12 h q im ms md m_hasMark n1 hf_ms hf_md hms hmd hsb c_1 n_5 c_7)
      refine lv_iload_n hx hb dX12_drawing_15 rfl (lv_at hl 1 rfl) ?_
      refine lv_i2l (v := n1.toInt64) hx hb dX12_drawing_16 rfl ?_
      refine lv_lconst (v := 0) hx hb dX12_drawing_17 (by decide) ?_
      refine lv_ldc2 (v := 2100) hx hb hown (hts _ k_1836) dX12_drawing_18 ?_
      refine eRi (va_runS (As := [.long n1.toInt64, .long 0, .long 2100]) (rest := []) ⟨hx, hb, hml, hown, hts⟩ (c_X12_isIn l D cI cB cZ cJ tx n1.toInt64 0 2100 H.size) (zS hts k_1602 v_X12_isIn ⟨Nat.le_of_ble_eq_true rfl, Nat.le_of_ble_eq_true rfl⟩) (px0 hK) rfl rfl hl.1 rfl (lv_room (Nat.le_of_ble_eq_true rfl)) dX12_drawing_21 ⟨Nat.le_of_ble_eq_true rfl, Nat.le_of_ble_eq_true rfl⟩) hP hS hA (fun r_13 H locs wr_13 hP hS => ?_)
      have wr_13 : r_13 = bi ((0 : Int32) ≤ n1 ∧ n1 ≤ 2100) := isIn32 (lo := 0) (hi := 2100) (by decide) (by decide) wr_13
      subst wr_13
      refine lv_bi_ne (tgt := 29) hx hb dX12_drawing_24 (by decide) (fun c_14 => ?_) (fun c_14 => ?_)
      · obtain ⟨tn1, tn1a, tn1b, tn1e⟩ := of_rng 0 2100 rfl rfl c_14
        subst tn1e
        refine lv_iconst (v := 0) hx hb dX12_drawing_29 (by decide) ?_
        refine lv_istore_n (lv' := [(2, .int 0), (0, .ref h), (1, .int (nI tn1))]) hx hb dX12_drawing_30 rfl hl (by decide) rfl (fun ls hl => ?_)
        have lp31 : ∀ (k31 : Nat) (j1 : Nat) (m_hasMark_j1 : Nat → Int32) (H : Heap) (locs : List Loc) (ls : Array Slot), j1 ≤ 384 → 384 < j1 + k31 → va_P D vwCl [(h, .inr (12, mG q im)), (q 51, .inl (cZ, 1536, .inl m_hasMark_j1))] H → va_D A [(h, .inr (12, mG q im)), (q 51, .inl (cZ, 1536, .inl m_hasMark_j1))] → va_S A s.heap H locs → lv_has ls 3 [(2, .int (nI j1)), (0, .ref h), (1, .int (nI tn1))] → W p l e (rmX 1 0 0) s m ([.ref h, .int (nI tn1)] : List Value).toArray below meth c H locs 0 0 Q (F0 m 31 ls []) := by
          intro k31
          induction k31 with
          | zero =>
            intro j1 m_hasMark_j1 H locs ls hj31 hk31  hP hD hS hl
            exact absurd hk31 (by omega)
          | succ k31 ih31 =>
            intro j1 m_hasMark_j1 H locs ls hj31 hk31  hP hD hS hl
            refine lv_iload_n hx hb dX12_drawing_31 rfl (lv_at hl 0 rfl) ?_
            refine lv_sipush (v := 384) hx hb dX12_drawing_32 (by decide) ?_
            refine lv_icmp_ge (tgt := 60) hx hb dX12_drawing_35 (by decide) (fun c_15 => ?_) (fun c_15 => ?_)
            · have n_16 : 384 ≤ j1 := (lf_X12_drawing_f_17 h q im ms md m_hasMark (nI tn1) hf_ms hf_md hms hmd hsb c_1 n_5 c_7 n_11 c_14 tn1 tn1a tn1b rfl j1 m_hasMark_j1 k31 hj31 hk31 c_15)
              refine lv_aload_n hx hb dX12_drawing_60 rfl (lv_at hl 1 rfl) ?_
              refine lv_dup hx hb dX12_drawing_61 rfl ?_
              refine va_get (D := D) (ci := 12) (v := .int (im 50)) (C := RX12) (T := TX12) (N := 81) hx hb hts inT_X12 hown hK.1 hP 0 rfl rfl 50 (by decide) (hts _ k_1403) (fun _ h9 => h9) rfl dX12_drawing_62 ?_
              refine lv_topv (y := nI md) hf_md ?_
              refine lv_iconst (v := 1) hx hb dX12_drawing_65 (by decide) ?_
              refine lv_iadd hx hb dX12_drawing_66 ?_
              refine lv_topv (y := nI (md + 1)) (nI_add md 1) ?_
              refine va_put (D := D) (ci := 12) (v := .int (nI (md + 1))) (ty := .int) (C := RX12) (T := TX12) (N := 81) hx hb hts inT_X12 tyX12 tyX12_ok nmX12 hown hK.1 hP hD hS 0 rfl rfl 50 (by decide) (hts _ k_1403) (fun _ h9 => h9) rfl (by decide +kernel) rfl rfl (Nat.le_of_ble_eq_true rfl) dX12_drawing_67 (fun H locs hP hD hS => ?_)
              obtain ⟨i_18, ei_18⟩ : ∃ z : Nat → Int32, z = upd im 50 (nI (md + 1)) := ⟨_, rfl⟩
              have hi_18_2 : i_18 2 = nI ms := by rw [ei_18]; exact hf_ms
              have hi_18_50 : i_18 50 = nI (md + 1) := by rw [ei_18]; rfl
              have hsb := SB.put hsb ei_18 (by decide)
              have hP : va_P D vwCl [(h, .inr (12, mG q i_18)), (q 51, .inl (cZ, 1536, .inl m_hasMark_j1))] H := by rw [ei_18, ← mG_50]; exact hP
              have hD : va_D A [(h, .inr (12, mG q i_18)), (q 51, .inl (cZ, 1536, .inl m_hasMark_j1))] := by rw [ei_18, ← mG_50]; exact hD
              refine lv_aload_n hx hb dX12_drawing_70 rfl (lv_at hl 1 rfl) ?_
              refine va_get (D := D) (ci := 12) (v := .int (i_18 50)) (C := RX12) (T := TX12) (N := 81) hx hb hts inT_X12 hown hK.1 hP 0 rfl rfl 50 (by decide) (hts _ k_1403) (fun _ h9 => h9) rfl dX12_drawing_71 ?_
              refine lv_topv (y := nI (md + 1)) hi_18_50 ?_
              refine lv_iconst (v := 1) hx hb dX12_drawing_74 (by decide) ?_
              refine lv_isub hx hb dX12_drawing_75 ?_
              rw [hQ]
              exact W.iret (v := nI (md + 1) - 1) hx hb hr (fun tt9 ht hW => ⟨⟨(nI (md + 1) - 1 : Int32), ((i_18 : Nat → Int32), ((md + 1) : Nat), (m_hasMark_j1 : Nat → Int32)), rfl, (lf_X12_drawing_f_19 h q im ms md m_hasMark (nI tn1) hf_ms hf_md hms hmd c_1 n_5 c_7 n_11 c_14 tn1 tn1a tn1b rfl j1 m_hasMark_j1 k31 hj31 hk31 c_15 n_16 i_18 hsb hi_18_2 hi_18_50), ⟨by rw [ht]; exact hP, hD⟩⟩, hS.F ht⟩) hS.2.2 dX12_drawing_76 hlocks
            · have n_20 : j1 < 384 := (lf_X12_drawing_f_21 h q im ms md m_hasMark (nI tn1) hf_ms hf_md hms hmd hsb c_1 n_5 c_7 n_11 c_14 tn1 tn1a tn1b rfl j1 m_hasMark_j1 k31 hj31 hk31 c_15)
              refine lv_aload_n hx hb dX12_drawing_38 rfl (lv_at hl 1 rfl) ?_
              refine va_get (D := D) (ci := 12) (v := .ref (q 51)) (C := RX12) (T := TX12) (N := 81) hx hb hts inT_X12 hown hK.1 hP 0 rfl rfl 51 (by decide) (hts _ k_1404) (fun _ h9 => h9) rfl dX12_drawing_39 ?_
              refine lv_sipush (v := 384) hx hb dX12_drawing_42 (by decide) ?_
              refine lv_aload_n hx hb dX12_drawing_45 rfl (lv_at hl 1 rfl) ?_
              refine va_get (D := D) (ci := 12) (v := .int (im 50)) (C := RX12) (T := TX12) (N := 81) hx hb hts inT_X12 hown hK.1 hP 0 rfl rfl 50 (by decide) (hts _ k_1403) (fun _ h9 => h9) rfl dX12_drawing_46 ?_
              refine lv_topv (y := nI md) hf_md ?_
              refine lv_imul hx hb dX12_drawing_49 ?_
              refine lv_topv (y := nI (384 * md)) (pk_mul 384 md) ?_
              refine lv_iload_n hx hb dX12_drawing_50 rfl (lv_at hl 0 rfl) ?_
              refine lv_iadd hx hb dX12_drawing_51 ?_
              refine lv_topv (y := nI ((384 * md) + j1)) (nI_add (384 * md) j1) ?_
              refine lv_iconst (v := 0) hx hb dX12_drawing_52 (by decide) ?_
              refine st_z hx hb hK hP hD hS 1 rfl (lf_X12_drawing_f_23 h q im ms md m_hasMark (nI tn1) hf_ms hf_md hms hmd hsb c_1 n_5 c_7 n_11 c_14 tn1 tn1a tn1b rfl j1 m_hasMark_j1 k31 hj31 hk31 c_15 n_20) dX12_drawing_53 (fun f_22 H locs hP hD hS => ?_)
              have hPD := pd_mk (ws := [(h, .inr (12, mG q im)), (q 51, .inl (cZ, 1536, .inl f_22))]) hP hD
              have hP := hPD.1
              have hD := hPD.2
              refine lv_iinc (v := nI (j1 + 1)) (lv' := [(2, .int (nI (j1 + 1))), (0, .ref h), (1, .int (nI tn1))]) hx hb dX12_drawing_54 hl (k := 0) rfl (nI_1 j1) (by decide) rfl (fun ls hl => ?_)
              refine lv_goto (tgt := 31) hx hb dX12_drawing_57 (by decide) ?_
              exact ih31 (j1 + 1) f_22 H locs ls (by omega) (by omega)  (hP.sub [0, 1] rfl) (hD.sub [0, 1] (by decide) rfl) hS (lv_sub hl [0, 1, 2] rfl)
        exact lp31 (384 + 1) 0 m_hasMark H locs ls (by omega) (by omega)  (hP.sub [0, 1] rfl) (hD.sub [0, 1] (by decide) rfl) hS (lv_sub hl [0, 1, 2] rfl)
      · refine lv_iconst (v := (-1)) hx hb dX12_drawing_27 (by decide) ?_
        rw [hQ]
        exact W.iret (v := (-1)) hx hb hr (fun tt9 ht hW => ⟨⟨((-1) : Int32), ((im : Nat → Int32), (md : Nat), (m_hasMark : Nat → Int32)), rfl, (lf_X12_drawing_f_24 h q im ms md m_hasMark n1 hf_ms hf_md hms hmd hsb c_1 n_5 c_7 n_11 c_14), ⟨by rw [ht]; exact hP, hD⟩⟩, hS.F ht⟩) hS.2.2 dX12_drawing_28 hlocks

abbrev mkA (n : Nat) : Int32 := (1 <<< (nI n &&& 31)) - 1
theorem tb_hi (k i : Nat) (hk : k ≤ 32) : (2 ^ 32 - 2 ^ k).testBit i = (decide (i < 32) && !decide (i < k)) := by
  have hp : 0 < 2 ^ k := Nat.two_pow_pos k
  have hle : 2 ^ k ≤ 2 ^ 32 := Nat.pow_le_pow_right (by decide) hk
  have e : 2 ^ 32 - 2 ^ k = 2 ^ 32 - ((2 ^ k - 1) + 1) := by omega
  rw [e, Nat.testBit_two_pow_sub_succ (by omega), Nat.testBit_two_pow_sub_one]
theorem cutN (a k : Nat) (ha : a < 2 ^ 32) (hk : k ≤ 32) : a &&& (2 ^ 32 - 2 ^ k) = 0 ↔ a < 2 ^ k := by
  constructor
  · intro h
    apply Nat.lt_pow_two_of_testBit
    intro i hi
    by_cases h32 : i < 32
    · have q := congrArg (fun z => Nat.testBit z i) h
      simp only [Nat.testBit_and, tb_hi k i hk, Nat.zero_testBit] at q
      have d1 : decide (i < 32) = true := decide_eq_true h32
      have d2 : decide (i < k) = false := decide_eq_false (by omega)
      rw [d1, d2] at q
      simpa using q
    · exact Nat.testBit_lt_two_pow (Nat.lt_of_lt_of_le ha (Nat.pow_le_pow_right (by decide) (by omega)))
  · intro h
    apply Nat.eq_of_testBit_eq
    intro i
    rw [Nat.testBit_and, tb_hi k i hk, Nat.zero_testBit]
    by_cases hi : i < k
    · have d2 : decide (i < k) = true := decide_eq_true hi
      rw [d2]
      simp
    · have d : a.testBit i = false := Nat.testBit_lt_two_pow (Nat.lt_of_lt_of_le h (Nat.pow_le_pow_right (by decide) (by omega)))
      rw [d]
      rfl
theorem mkA_v : ∀ k : Nat, k ≤ 24 → ((mkA k ^^^ (-1)).toBitVec.toNat = 2 ^ 32 - 2 ^ k ∧ (mkA k).toInt = (2 ^ k - 1 : Nat)) := by
  intro k hk
  rcases (show k = 0 ∨ k = 1 ∨ k = 2 ∨ k = 3 ∨ k = 4 ∨ k = 5 ∨ k = 6 ∨ k = 7 ∨ k = 8 ∨ k = 9 ∨ k = 10 ∨ k = 11 ∨ k = 12 ∨ k = 13 ∨ k = 14 ∨ k = 15 ∨ k = 16 ∨ k = 17 ∨ k = 18 ∨ k = 19 ∨ k = 20 ∨ k = 21 ∨ k = 22 ∨ k = 23 ∨ k = 24 by omega) with rfl | rfl | rfl | rfl | rfl | rfl | rfl | rfl | rfl | rfl | rfl | rfl | rfl | rfl | rfl | rfl | rfl | rfl | rfl | rfl | rfl | rfl | rfl | rfl | rfl <;> exact ⟨by decide +kernel, by decide +kernel⟩
theorem cut_iff {n : Int32} {k : Nat} (hk : k ≤ 24) : n &&& (mkA k ^^^ (-1)) = 0 ↔ ((0 : Int32) ≤ n ∧ n ≤ mkA k) := by
  obtain ⟨e1, e2⟩ := mkA_v k hk
  have hlt : n.toBitVec.toNat < 2 ^ 32 := n.toBitVec.isLt
  have hpk : 2 ^ k ≤ 2 ^ 24 := Nat.pow_le_pow_right (by decide) hk
  have hp0 : 0 < 2 ^ k := Nat.two_pow_pos k
  have h1 : n &&& (mkA k ^^^ (-1)) = 0 ↔ n.toBitVec.toNat < 2 ^ k := by
    rw [← cutN _ k hlt (by omega), ← e1]
    constructor
    · intro h
      have q := congrArg (fun z : Int32 => z.toBitVec.toNat) h
      simpa using q
    · intro h
      apply Int32.toBitVec_inj.mp
      apply BitVec.eq_of_toNat_eq
      simpa using h
  rw [h1, Int32.le_iff_toInt_le, Int32.le_iff_toInt_le, e2]
  have e0 : (0 : Int32).toInt = 0 := by decide
  rw [e0]
  have et : n.toInt = if 2 * n.toBitVec.toNat < 2 ^ 32 then (n.toBitVec.toNat : Int) else (n.toBitVec.toNat : Int) - (2 ^ 32 : Nat) := by
    show n.toBitVec.toInt = _
    exact BitVec.toInt_eq_toNat_cond _
  rw [et]
  generalize hz : n.toBitVec.toNat = z at *
  generalize hw : 2 ^ k = w at *
  split <;> omega
abbrev COK (n : Int32) (s : Nat) : Prop := (0 : Int32) ≤ n ∧ n ≤ mkA s
def cuF (n : Int32) (s : Nat) (c : Int32) : Int32 := if COK n s then n else c
theorem cu_y {n x y : Int32} {s : Nat} (hs : s ≤ 24) (ex : x = mkA s ^^^ (-1)) (ey : y = n &&& x) (c : y = 0) : COK n s := (cut_iff hs).mp (by rw [← ex, ← ey]; exact c)
theorem cu_n {n x y : Int32} {s : Nat} (hs : s ≤ 24) (ex : x = mkA s ^^^ (-1)) (ey : y = n &&& x) (c : ¬ y = 0) : ¬ COK n s := fun w => c (by rw [ey, ex]; exact (cut_iff hs).mpr w)
theorem cuF_y {n c r : Int32} {s : Nat} (h : COK n s) (e : r = n) : r = cuF n s c := by
  unfold cuF
  rw [if_pos h]
  exact e
theorem cuF_n {n c : Int32} {s : Nat} (h : ¬ COK n s) : c = cuF n s c := by
  unfold cuF
  rw [if_neg h]
theorem lf_X4_allStations_f_3 (a : Nat → Nat) (sn : Nat) (sk : Nat) (scu : Int32) (sch : Int32) (x_1 : Int32) (ex_1 : x_1 = 1 <<< (nI sn &&& 31)) (x_2 : Int32) (ex_2 : x_2 = x_1 - 1) : (x_2 : Int32) = mkA sn := by
  subst_vars
  rfl
set_option maxHeartbeats 4000000 in
set_option maxRecDepth 100000 in
theorem c_X4_allStations_f (l : Launch) (D : va_G) (cI cB cZ cJ : ClassId) (tx : List (ClassId × FieldType)) (a : Nat → Nat) (sn : Nat) (sk : Nat) (scu : Int32) (sch : Int32) : RdI l D cI cB cZ cJ tx yX4_allStations cX4_allStations 1 (some .int) 0 [.ref (a 5)] [(a 5, .inr (4, [.ref (a 18), .ref (a 19), .ref (a 20), .ref (a 21), .ref (a 22), .ref (a 23), .ref (a 24), .int (nI sn), .int (nI sk), .int scu, .int sch]))] (fun r => r = mkA sn) := by
  refine rdi_of2 (by decide) (Nat.le_of_ble_eq_true rfl) ?_
  intro p e s m below meth c A ls H locs hC hK hP hD hA hS hl
  obtain ⟨hx, hb, hr, hml, hown, hts, hlocks, hin⟩ := hC
  have hown : s.vm.findClass RX4 = some m.cls := hown
  have hl : lv_has ls 1 [(0, .ref (a 5))] := hl
  refine W_gQ (fun Q hQ => ?_)
  refine lv_iconst (v := 1) hx hb dX4_allStations_0 (by decide) ?_
  refine lv_aload_n hx hb dX4_allStations_1 rfl (lv_at hl 0 rfl) ?_
  refine va_get (D := D) (ci := 4) (v := .int (nI sn)) (C := RX4) (T := TX4) (N := 11) hx hb hts inT_X4 hown hK.1 hP 0 rfl rfl 7 (by decide) (hts _ k_248) (fun _ h9 => h9) rfl dX4_allStations_2 ?_
  refine lv_ishl hx hb dX4_allStations_5 ?_
  refine lv_topi (fun x_1 ex_1 => ?_)
  refine lv_iconst (v := 1) hx hb dX4_allStations_6 (by decide) ?_
  refine lv_isub hx hb dX4_allStations_7 ?_
  refine lv_topi (fun x_2 ex_2 => ?_)
  rw [hQ]
  exact W.iret (v := x_2) hx hb hr (fun tt9 ht hW => ⟨⟨(x_2 : Int32), (), rfl, (lf_X4_allStations_f_3 a sn sk scu sch x_1 ex_1 x_2 ex_2), trivial⟩, hS.F ht⟩) hS.2.2 dX4_allStations_8 hlocks

theorem lf_X4_cutAway_f_3 (a : Nat → Nat) (sn : Nat) (sk : Nat) (scu : Int32) (sch : Int32) (g5 : Nat → Int32) (n1 : Int32) (g5_2 : Nat → Int32) : ((n1 : Int32) = n1) := by
  rfl
set_option maxHeartbeats 4000000 in
set_option maxRecDepth 100000 in
theorem c_X4_cutAway_f (l : Launch) (D : va_G) (cI cB cZ cJ : ClassId) (tx : List (ClassId × FieldType)) (a : Nat → Nat) (sn : Nat) (sk : Nat) (scu : Int32) (sch : Int32) (g5 : Nat → Int32) (n1 : Int32) : WrV l D cI cB cZ cJ tx yX4_cutAway cX4_cutAway 2 none 1 0 0 [.ref (a 5), .int n1] [(a 5, .inr (4, [.ref (a 18), .ref (a 19), .ref (a 20), .ref (a 21), .ref (a 22), .ref (a 23), .ref (a 24), .int (nI sn), .int (nI sk), .int scu, .int sch])), (a 23, .inl (cI, 8, .inl g5))] (fun (v : (Int32) × (Nat → Int32)) => (v.1 = n1)) (fun v => [(a 5, .inr (4, [.ref (a 18), .ref (a 19), .ref (a 20), .ref (a 21), .ref (a 22), .ref (a 23), .ref (a 24), .int (nI sn), .int (nI sk), .int v.1, .int sch])), (a 23, .inl (cI, 8, .inl v.2))]) := by
  refine wrv_of2 (by decide) (Nat.le_of_ble_eq_true rfl) ?_
  intro p e s m below meth c A ls H locs hC hK hP hD hA hS hl
  obtain ⟨hx, hb, hr, hml, hown, hts, hlocks, hin⟩ := hC
  have hown : s.vm.findClass RX4 = some m.cls := hown
  have hl : lv_has ls 2 [(0, .ref (a 5)), (1, .int n1)] := hl
  refine W_gQ (fun Q hQ => ?_)
  refine lv_aload_n hx hb dX4_cutAway_0 rfl (lv_at hl 0 rfl) ?_
  refine lv_iload_n hx hb dX4_cutAway_1 rfl (lv_at hl 1 rfl) ?_
  refine va_put (D := D) (ci := 4) (v := .int n1) (ty := .int) (C := RX4) (T := TX4) (N := 11) hx hb hts inT_X4 tyX4 tyX4_ok nmX4 hown hK.1 hP hD hS 0 rfl rfl 9 (by decide) (hts _ k_261) (fun _ h9 => h9) rfl (by decide +kernel) rfl rfl (Nat.le_of_ble_eq_true rfl) dX4_cutAway_2 (fun H locs hP hD hS => ?_)
  have hPD := pd_mk (ws := [(a 5, .inr (4, [.ref (a 18), .ref (a 19), .ref (a 20), .ref (a 21), .ref (a 22), .ref (a 23), .ref (a 24), .int (nI sn), .int (nI sk), .int n1, .int sch])), (a 23, .inl (cI, 8, .inl g5))]) hP hD
  have hP := hPD.1
  have hD := hPD.2
  refine lv_aload_n hx hb dX4_cutAway_5 rfl (lv_at hl 0 rfl) ?_
  refine eWvP (va_runV (As := []) (rest := []) ⟨hx, hb, hml, hown, hts⟩ (c_X4_touchAll l D cI cB cZ cJ tx a sn sk n1 sch g5 H.size) (zV hts k_812 v_X4_touchAll ⟨Nat.le_of_ble_eq_true rfl, Nat.le_of_ble_eq_true rfl⟩) (pV (pxS hK hP hD [0, 1] (by decide) rfl) hK hP 0 rfl rfl) rfl rfl hl.1 rfl (lv_room (Nat.le_of_ble_eq_true rfl)) dX4_cutAway_6 ⟨Nat.le_of_ble_eq_true rfl, Nat.le_of_ble_eq_true rfl⟩) hP hD hS hA [0, 1] [some 0, some 1] rfl (by decide +kernel) (fun _ => rfl) (fun u_2 H locs wr_1 hP hD hS => ?_)
  obtain ⟨g5_2, rfl⟩ : ∃ z, z = u_2 := ⟨_, rfl⟩
  have hPD := pd_mk (ws := [(a 5, .inr (4, [.ref (a 18), .ref (a 19), .ref (a 20), .ref (a 21), .ref (a 22), .ref (a 23), .ref (a 24), .int (nI sn), .int (nI sk), .int n1, .int sch])), (a 23, .inl (cI, 8, .inl g5_2))]) hP hD
  have hP := hPD.1
  have hD := hPD.2
  rw [hQ]
  exact W.vret hx hb hr (fun tt9 ht hW => ⟨⟨((n1 : Int32), (g5_2 : Nat → Int32)), rfl, (lf_X4_cutAway_f_3 a sn sk scu sch g5 n1 g5_2), ⟨by rw [ht]; exact hP, hD⟩⟩, hS.F ht⟩) hS.2.2 dX4_cutAway_9 hlocks

theorem lf_X11_cut_f_7 (a : Nat → Nat) (ap : Int32) (sn : Nat) (sk : Nat) (scu : Int32) (sch : Int32) (g5 : Nat → Int32) (n1 : Int32) (hsn : sn ≤ 24) (hsk : sk ≤ 8) (x_2 : Int32) (ex_2 : x_2 = mkA sn ^^^ (-1)) (x_3 : Int32) (ex_3 : x_3 = n1 &&& x_2) (c_4 : x_3 = 0) (scu_6 : Int32) (g5_6 : Nat → Int32) (hz_6_0 : scu_6 = n1) : (1 : Int32) = bi (COK n1 sn) ∧ ((scu_6 : Int32) = cuF n1 sn scu) := by
  refine ⟨?_, ?_⟩
  · first | exact (if_pos (cu_y (by assumption) (by assumption) (by assumption) (by assumption))).symm | exact (if_neg (cu_n (by assumption) (by assumption) (by assumption) (by assumption))).symm
  · first | exact cuF_y (cu_y (by assumption) (by assumption) (by assumption) (by assumption)) (by assumption) | exact cuF_n (cu_n (by assumption) (by assumption) (by assumption) (by assumption))
theorem lf_X11_cut_f_8 (a : Nat → Nat) (ap : Int32) (sn : Nat) (sk : Nat) (scu : Int32) (sch : Int32) (g5 : Nat → Int32) (n1 : Int32) (hsn : sn ≤ 24) (hsk : sk ≤ 8) (x_2 : Int32) (ex_2 : x_2 = mkA sn ^^^ (-1)) (x_3 : Int32) (ex_3 : x_3 = n1 &&& x_2) (c_4 : ¬ x_3 = 0) : (0 : Int32) = bi (COK n1 sn) ∧ ((scu : Int32) = cuF n1 sn scu) := by
  refine ⟨?_, ?_⟩
  · first | exact (if_pos (cu_y (by assumption) (by assumption) (by assumption) (by assumption))).symm | exact (if_neg (cu_n (by assumption) (by assumption) (by assumption) (by assumption))).symm
  · first | exact cuF_y (cu_y (by assumption) (by assumption) (by assumption) (by assumption)) (by assumption) | exact cuF_n (cu_n (by assumption) (by assumption) (by assumption) (by assumption))
set_option maxHeartbeats 4000000 in
set_option maxRecDepth 100000 in
theorem c_X11_cut_f (l : Launch) (D : va_G) (cI cB cZ cJ : ClassId) (tx : List (ClassId × FieldType)) (a : Nat → Nat) (ap : Int32) (sn : Nat) (sk : Nat) (scu : Int32) (sch : Int32) (g5 : Nat → Int32) (n1 : Int32) (hsn : sn ≤ 24) (hsk : sk ≤ 8) : WrI l D cI cB cZ cJ tx yX11_cut cX11_cut 2 (some .boolean) 2 0 0 [.ref (a 0), .int n1] [(a 0, .inr (11, [.ref (a 1), .ref (a 2), .ref (a 3), .ref (a 4), .ref (a 5), .ref (a 6), .ref (a 7), .ref (a 8), .ref (a 9), .ref (a 10), .ref (a 11), .ref (a 12), .int ap])), (a 5, .inr (4, [.ref (a 18), .ref (a 19), .ref (a 20), .ref (a 21), .ref (a 22), .ref (a 23), .ref (a 24), .int (nI sn), .int (nI sk), .int scu, .int sch])), (a 23, .inl (cI, 8, .inl g5))] (fun (r : Int32) (v : (Int32) × (Nat → Int32)) => r = bi (COK n1 sn) ∧ (v.1 = cuF n1 sn scu)) (fun v => [(a 0, .inr (11, [.ref (a 1), .ref (a 2), .ref (a 3), .ref (a 4), .ref (a 5), .ref (a 6), .ref (a 7), .ref (a 8), .ref (a 9), .ref (a 10), .ref (a 11), .ref (a 12), .int ap])), (a 5, .inr (4, [.ref (a 18), .ref (a 19), .ref (a 20), .ref (a 21), .ref (a 22), .ref (a 23), .ref (a 24), .int (nI sn), .int (nI sk), .int v.1, .int sch])), (a 23, .inl (cI, 8, .inl v.2))]) := by
  refine wri_of2 (by decide) (Nat.le_of_ble_eq_true rfl) ?_
  intro p e s m below meth c A ls H locs hC hK hP hD hA hS hl
  obtain ⟨hx, hb, hr, hml, hown, hts, hlocks, hin⟩ := hC
  have hown : s.vm.findClass RX11 = some m.cls := hown
  have hl : lv_has ls 2 [(0, .ref (a 0)), (1, .int n1)] := hl
  refine W_gQ (fun Q hQ => ?_)
  refine lv_iload_n hx hb dX11_cut_0 rfl (lv_at hl 1 rfl) ?_
  refine lv_aload_n hx hb dX11_cut_1 rfl (lv_at hl 0 rfl) ?_
  refine va_get (D := D) (ci := 11) (v := .ref (a 5)) (C := RX11) (T := TX11) (N := 13) hx hb hts inT_X11 hown hK.1 hP 0 rfl rfl 4 (by decide) (hts _ k_487) (fun _ h9 => h9) rfl dX11_cut_2 ?_
  refine eRi (va_runV (As := []) (rest := [.int n1]) ⟨hx, hb, hml, hown, hts⟩ (c_X4_allStations_f l D cI cB cZ cJ tx a sn sk scu sch H.size) (zV hts k_879 v_X4_allStations ⟨Nat.le_of_ble_eq_true rfl, Nat.le_of_ble_eq_true rfl⟩) (pV (px1 hK hP 1 rfl) hK hP 1 rfl rfl) rfl rfl hl.1 rfl (lv_room (Nat.le_of_ble_eq_true rfl)) dX11_cut_5 ⟨Nat.le_of_ble_eq_true rfl, Nat.le_of_ble_eq_true rfl⟩) hP hS hA (fun r_1 H locs wr_1 hP hS => ?_)
  subst wr_1
  refine lv_iconst (v := (-1)) hx hb dX11_cut_8 (by decide) ?_
  refine lv_ixor hx hb dX11_cut_9 ?_
  refine lv_topi (fun x_2 ex_2 => ?_)
  refine lv_iand hx hb dX11_cut_10 ?_
  refine lv_topi (fun x_3 ex_3 => ?_)
  refine lv_if_eq (tgt := 16) hx hb dX11_cut_11 (by decide) (fun c_4 => ?_) (fun c_4 => ?_)
  · refine lv_aload_n hx hb dX11_cut_16 rfl (lv_at hl 0 rfl) ?_
    refine va_get (D := D) (ci := 11) (v := .ref (a 5)) (C := RX11) (T := TX11) (N := 13) hx hb hts inT_X11 hown hK.1 hP 0 rfl rfl 4 (by decide) (hts _ k_487) (fun _ h9 => h9) rfl dX11_cut_17 ?_
    refine lv_iload_n hx hb dX11_cut_20 rfl (lv_at hl 1 rfl) ?_
    refine eWvP (va_runV (As := [.int n1]) (rest := []) ⟨hx, hb, hml, hown, hts⟩ (c_X4_cutAway_f l D cI cB cZ cJ tx a sn sk scu sch g5 n1 H.size) (zV hts k_883 v_X4_cutAway ⟨Nat.le_of_ble_eq_true rfl, Nat.le_of_ble_eq_true rfl⟩) (pV (pxS hK hP hD [1, 2] (by decide) rfl) hK hP 1 rfl rfl) rfl rfl hl.1 rfl (lv_room (Nat.le_of_ble_eq_true rfl)) dX11_cut_21 ⟨Nat.le_of_ble_eq_true rfl, Nat.le_of_ble_eq_true rfl⟩) hP hD hS hA [1, 2] [none, some 0, some 1] rfl (by decide +kernel) (fun _ => rfl) (fun u_6 H locs wr_5 hP hD hS => ?_)
    obtain ⟨scu_6, g5_6⟩ := u_6
    have hz_6_0 : scu_6 = n1 := wr_5
    have hPD := pd_mk (ws := [(a 0, .inr (11, [.ref (a 1), .ref (a 2), .ref (a 3), .ref (a 4), .ref (a 5), .ref (a 6), .ref (a 7), .ref (a 8), .ref (a 9), .ref (a 10), .ref (a 11), .ref (a 12), .int ap])), (a 5, .inr (4, [.ref (a 18), .ref (a 19), .ref (a 20), .ref (a 21), .ref (a 22), .ref (a 23), .ref (a 24), .int (nI sn), .int (nI sk), .int scu_6, .int sch])), (a 23, .inl (cI, 8, .inl g5_6))]) hP hD
    have hP := hPD.1
    have hD := hPD.2
    refine lv_iconst (v := 1) hx hb dX11_cut_24 (by decide) ?_
    rw [hQ]
    exact W.zret (v := 1) hx hb hr (by decide) (fun tt9 ht hW => ⟨⟨(1 : Int32), ((scu_6 : Int32), (g5_6 : Nat → Int32)), rfl, (lf_X11_cut_f_7 a ap sn sk scu sch g5 n1 hsn hsk x_2 ex_2 x_3 ex_3 c_4 scu_6 g5_6 hz_6_0), ⟨by rw [ht]; exact hP, hD⟩⟩, hS.F ht⟩) hS.2.2 dX11_cut_25 hlocks
  · refine lv_iconst (v := 0) hx hb dX11_cut_14 (by decide) ?_
    rw [hQ]
    exact W.zret (v := 0) hx hb hr (by decide) (fun tt9 ht hW => ⟨⟨(0 : Int32), ((scu : Int32), (g5 : Nat → Int32)), rfl, (lf_X11_cut_f_8 a ap sn sk scu sch g5 n1 hsn hsk x_2 ex_2 x_3 ex_3 c_4), ⟨by rw [ht]; exact hP, hD⟩⟩, hS.F ht⟩) hS.2.2 dX11_cut_15 hlocks

theorem lf_X12_cut_f_8 (h : Nat) (q : Nat → Nat) (im : Nat → Int32) (ms : Nat) (mc : Int32) (m_isKnown : Nat → Int32) (n1 : Int32) (hf_ms : im 2 = nI ms) (hf_mc : im 49 = mc) (hms : ms ≤ 24) (x_1 : Int32) (ex_1 : x_1 = 1 <<< (nI ms &&& 31)) (x_2 : Int32) (ex_2 : x_2 = x_1 - 1) (c_4 : (0 : Int32) ≤ n1 ∧ n1 ≤ x_2) (i_5 : Nat → Int32) (hsb : SB [49] im i_5) (m_isKnown_7 : Nat → Int32) (hi_5_2 : i_5 2 = nI ms) (hi_5_49 : i_5 49 = n1) : (1 : Int32) = bi (COK n1 ms) ∧ (SB [49] im (i_5 : Nat → Int32)) ∧ ((i_5 : Nat → Int32) 49 = (n1 : Int32)) ∧ ((n1 : Int32) = cuF n1 ms mc) := by
  refine ⟨?_, ?_, ?_, ?_⟩
  · subst_vars
    first | exact (if_pos (by assumption)).symm | exact (if_neg (by assumption)).symm
  · assumption
  · assumption
  · subst_vars
    first | exact cuF_y (by assumption) rfl | exact cuF_n (by assumption)
theorem lf_X12_cut_f_9 (h : Nat) (q : Nat → Nat) (im : Nat → Int32) (ms : Nat) (mc : Int32) (m_isKnown : Nat → Int32) (n1 : Int32) (hf_ms : im 2 = nI ms) (hf_mc : im 49 = mc) (hms : ms ≤ 24) (hsb : SB [49] im im) (x_1 : Int32) (ex_1 : x_1 = 1 <<< (nI ms &&& 31)) (x_2 : Int32) (ex_2 : x_2 = x_1 - 1) (c_4 : ¬ ((0 : Int32) ≤ n1 ∧ n1 ≤ x_2)) : (0 : Int32) = bi (COK n1 ms) ∧ (SB [49] im (im : Nat → Int32)) ∧ ((im : Nat → Int32) 49 = (mc : Int32)) ∧ ((mc : Int32) = cuF n1 ms mc) := by
  refine ⟨?_, ?_, ?_, ?_⟩
  · subst_vars
    first | exact (if_pos (by assumption)).symm | exact (if_neg (by assumption)).symm
  · assumption
  · assumption
  · subst_vars
    first | exact cuF_y (by assumption) rfl | exact cuF_n (by assumption)
set_option maxHeartbeats 4000000 in
set_option maxRecDepth 100000 in
theorem c_X12_cut_f (l : Launch) (D : va_G) (cI cB cZ cJ : ClassId) (tx : List (ClassId × FieldType)) (h : Nat) (q : Nat → Nat) (im : Nat → Int32) (ms : Nat) (mc : Int32) (m_isKnown : Nat → Int32) (n1 : Int32) (hf_ms : im 2 = nI ms) (hf_mc : im 49 = mc) (hms : ms ≤ 24) : WrI l D cI cB cZ cJ tx yX12_cut cX12_cut 2 (some .boolean) 1 0 0 [.ref h, .int n1] [(h, .inr (12, mG q im)), (q 66, .inl (cZ, 8, .inl m_isKnown))] (fun (r : Int32) (v : (Nat → Int32) × (Int32) × (Nat → Int32)) => r = bi (COK n1 ms) ∧ (SB [49] im v.1) ∧ (v.1 49 = v.2.1) ∧ (v.2.1 = cuF n1 ms mc)) (fun v => [(h, .inr (12, mG q v.1)), (q 66, .inl (cZ, 8, .inl v.2.2))]) := by
  refine wri_of2 (by decide) (Nat.le_of_ble_eq_true rfl) ?_
  intro p e s m below meth c A ls H locs hC hK hP hD hA hS hl
  obtain ⟨hx, hb, hr, hml, hown, hts, hlocks, hin⟩ := hC
  have hown : s.vm.findClass RX12 = some m.cls := hown
  have hl : lv_has ls 2 [(0, .ref h), (1, .int n1)] := hl
  have hsb : SB [49] im im := SB.rf
  refine W_gQ (fun Q hQ => ?_)
  refine lv_iload_n hx hb dX12_cut_0 rfl (lv_at hl 1 rfl) ?_
  refine lv_i2l (v := n1.toInt64) hx hb dX12_cut_1 rfl ?_
  refine lv_lconst (v := 0) hx hb dX12_cut_2 (by decide) ?_
  refine lv_iconst (v := 1) hx hb dX12_cut_3 (by decide) ?_
  refine lv_aload_n hx hb dX12_cut_4 rfl (lv_at hl 0 rfl) ?_
  refine va_get (D := D) (ci := 12) (v := .int (im 2)) (C := RX12) (T := TX12) (N := 81) hx hb hts inT_X12 hown hK.1 hP 0 rfl rfl 2 (by decide) (hts _ k_1355) (fun _ h9 => h9) rfl dX12_cut_5 ?_
  refine lv_topv (y := nI ms) hf_ms ?_
  refine lv_ishl hx hb dX12_cut_8 ?_
  refine lv_topi (fun x_1 ex_1 => ?_)
  refine lv_iconst (v := 1) hx hb dX12_cut_9 (by decide) ?_
  refine lv_isub hx hb dX12_cut_10 ?_
  refine lv_topi (fun x_2 ex_2 => ?_)
  refine lv_i2l (v := x_2.toInt64) hx hb dX12_cut_11 rfl ?_
  refine eRi (va_runS (As := [.long n1.toInt64, .long 0, .long x_2.toInt64]) (rest := []) ⟨hx, hb, hml, hown, hts⟩ (c_X12_isIn l D cI cB cZ cJ tx n1.toInt64 0 x_2.toInt64 H.size) (zS hts k_1602 v_X12_isIn ⟨Nat.le_of_ble_eq_true rfl, Nat.le_of_ble_eq_true rfl⟩) (px0 hK) rfl rfl hl.1 rfl (lv_room (Nat.le_of_ble_eq_true rfl)) dX12_cut_12 ⟨Nat.le_of_ble_eq_true rfl, Nat.le_of_ble_eq_true rfl⟩) hP hS hA (fun r_3 H locs wr_3 hP hS => ?_)
  have wr_3 : r_3 = bi ((0 : Int32) ≤ n1 ∧ n1 ≤ x_2) := isIn32 (lo := 0) (hi := x_2) (by decide) rfl wr_3
  subst wr_3
  refine lv_bi_ne (tgt := 20) hx hb dX12_cut_15 (by decide) (fun c_4 => ?_) (fun c_4 => ?_)
  · refine lv_aload_n hx hb dX12_cut_20 rfl (lv_at hl 0 rfl) ?_
    refine lv_iload_n hx hb dX12_cut_21 rfl (lv_at hl 1 rfl) ?_
    refine va_put (D := D) (ci := 12) (v := .int n1) (ty := .int) (C := RX12) (T := TX12) (N := 81) hx hb hts inT_X12 tyX12 tyX12_ok nmX12 hown hK.1 hP hD hS 0 rfl rfl 49 (by decide) (hts _ k_1402) (fun _ h9 => h9) rfl (by decide +kernel) rfl rfl (Nat.le_of_ble_eq_true rfl) dX12_cut_22 (fun H locs hP hD hS => ?_)
    obtain ⟨i_5, ei_5⟩ : ∃ z : Nat → Int32, z = upd im 49 n1 := ⟨_, rfl⟩
    have hi_5_2 : i_5 2 = nI ms := by rw [ei_5]; exact hf_ms
    have hi_5_49 : i_5 49 = n1 := by rw [ei_5]; rfl
    have hsb := SB.put hsb ei_5 (by decide)
    have hP : va_P D vwCl [(h, .inr (12, mG q i_5)), (q 66, .inl (cZ, 8, .inl m_isKnown))] H := by rw [ei_5, ← mG_49]; exact hP
    have hD : va_D A [(h, .inr (12, mG q i_5)), (q 66, .inl (cZ, 8, .inl m_isKnown))] := by rw [ei_5, ← mG_49]; exact hD
    refine lv_aload_n hx hb dX12_cut_25 rfl (lv_at hl 0 rfl) ?_
    refine eWvP (va_runV (As := []) (rest := []) ⟨hx, hb, hml, hown, hts⟩ (c_X12_changes l D cI cB cZ cJ tx h q i_5 m_isKnown H.size) (zV hts k_1765 v_X12_changes ⟨Nat.le_of_ble_eq_true rfl, Nat.le_of_ble_eq_true rfl⟩) (pV (pxS hK hP hD [0, 1] (by decide) rfl) hK hP 0 rfl rfl) rfl rfl hl.1 rfl (lv_room (Nat.le_of_ble_eq_true rfl)) dX12_cut_26 ⟨Nat.le_of_ble_eq_true rfl, Nat.le_of_ble_eq_true rfl⟩) hP hD hS hA [0, 1] [some 0, some 1] rfl (by decide +kernel) (fun _ => rfl) (fun u_7 H locs wr_6 hP hD hS => ?_)
    obtain ⟨m_isKnown_7, rfl⟩ : ∃ z, z = u_7 := ⟨_, rfl⟩
    have hPD := pd_mk (ws := [(h, .inr (12, mG q i_5)), (q 66, .inl (cZ, 8, .inl m_isKnown_7))]) hP hD
    have hP := hPD.1
    have hD := hPD.2
    refine lv_iconst (v := 1) hx hb dX12_cut_29 (by decide) ?_
    rw [hQ]
    exact W.zret (v := 1) hx hb hr (by decide) (fun tt9 ht hW => ⟨⟨(1 : Int32), ((i_5 : Nat → Int32), (n1 : Int32), (m_isKnown_7 : Nat → Int32)), rfl, (lf_X12_cut_f_8 h q im ms mc m_isKnown n1 hf_ms hf_mc hms x_1 ex_1 x_2 ex_2 c_4 i_5 hsb m_isKnown_7 hi_5_2 hi_5_49), ⟨by rw [ht]; exact hP, hD⟩⟩, hS.F ht⟩) hS.2.2 dX12_cut_30 hlocks
  · refine lv_iconst (v := 0) hx hb dX12_cut_18 (by decide) ?_
    rw [hQ]
    exact W.zret (v := 0) hx hb hr (by decide) (fun tt9 ht hW => ⟨⟨(0 : Int32), ((im : Nat → Int32), (mc : Int32), (m_isKnown : Nat → Int32)), rfl, (lf_X12_cut_f_9 h q im ms mc m_isKnown n1 hf_ms hf_mc hms hsb x_1 ex_1 x_2 ex_2 c_4), ⟨by rw [ht]; exact hP, hD⟩⟩, hS.F ht⟩) hS.2.2 dX12_cut_19 hlocks
