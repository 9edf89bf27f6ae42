abbrev BOK (n k : Int32) : Prop := ((3 : Int32) ≤ n ∧ n ≤ 24) ∧ ((1 : Int32) ≤ k ∧ k ≤ 8)
def bN (n k : Int32) (s : Nat) : Nat := if BOK n k then n.toNatClampNeg else s
def bK (n k : Int32) (s : Nat) : Nat := if BOK n k then k.toNatClampNeg else s
def bD (n k : Int32) (d : Nat) : Nat := if BOK n k then 0 else d
def bA (n k : Int32) : Int32 := if BOK n k then n * k * 2 else -1
theorem bN_y {n k : Int32} {t s r : Nat} (h1 : (3 : Int32) ≤ n ∧ n ≤ 24) (h2 : (1 : Int32) ≤ k ∧ k ≤ 8) (e : n = nI t) (ht : t ≤ 24) (er : r = t) : r = bN n k s := by
  unfold bN
  rw [if_pos ⟨h1, h2⟩, e, nI_clamp (by omega)]
  exact er
theorem bN_1 {n k : Int32} {s : Nat} (h : ¬ ((3 : Int32) ≤ n ∧ n ≤ 24)) : s = bN n k s := by
  unfold bN
  rw [if_neg (fun w => h w.1)]
theorem bN_2 {n k : Int32} {s : Nat} (h : ¬ ((1 : Int32) ≤ k ∧ k ≤ 8)) : s = bN n k s := by
  unfold bN
  rw [if_neg (fun w => h w.2)]
theorem bK_y {n k : Int32} {t s r : Nat} (h1 : (3 : Int32) ≤ n ∧ n ≤ 24) (h2 : (1 : Int32) ≤ k ∧ k ≤ 8) (e : k = nI t) (ht : t ≤ 8) (er : r = t) : r = bK n k s := by
  unfold bK
  rw [if_pos ⟨h1, h2⟩, e, nI_clamp (by omega)]
  exact er
theorem bK_1 {n k : Int32} {s : Nat} (h : ¬ ((3 : Int32) ≤ n ∧ n ≤ 24)) : s = bK n k s := by
  unfold bK
  rw [if_neg (fun w => h w.1)]
theorem bK_2 {n k : Int32} {s : Nat} (h : ¬ ((1 : Int32) ≤ k ∧ k ≤ 8)) : s = bK n k s := by
  unfold bK
  rw [if_neg (fun w => h w.2)]
theorem bD_y {n k : Int32} {s r : Nat} (h1 : (3 : Int32) ≤ n ∧ n ≤ 24) (h2 : (1 : Int32) ≤ k ∧ k ≤ 8) (er : r = 0) : r = bD n k s := by
  unfold bD
  rw [if_pos ⟨h1, h2⟩]
  exact er
theorem bD_1 {n k : Int32} {s : Nat} (h : ¬ ((3 : Int32) ≤ n ∧ n ≤ 24)) : s = bD n k s := by
  unfold bD
  rw [if_neg (fun w => h w.1)]
theorem bD_2 {n k : Int32} {s : Nat} (h : ¬ ((1 : Int32) ≤ k ∧ k ≤ 8)) : s = bD n k s := by
  unfold bD
  rw [if_neg (fun w => h w.2)]
theorem bA_y {n k : Int32} {t u : Nat} (h1 : (3 : Int32) ≤ n ∧ n ≤ 24) (h2 : (1 : Int32) ≤ k ∧ k ≤ 8) (e : n = nI t) (e2 : k = nI u) : nI (t * u * 2) = bA n k := by
  unfold bA
  rw [if_pos ⟨h1, h2⟩, e, e2, ← pk_mul, ← pk_mul]
  rfl
theorem bA_z {n k : Int32} {t u : Nat} (h1 : (3 : Int32) ≤ n ∧ n ≤ 24) (h2 : (1 : Int32) ≤ k ∧ k ≤ 8) (e : n = nI t) (e2 : k = nI u) : nI (2 * t * u) = bA n k := by
  rw [← bA_y h1 h2 e e2]
  congr 1
  rw [Nat.mul_assoc, Nat.mul_comm]
theorem bA_1 {n k : Int32} (h : ¬ ((3 : Int32) ≤ n ∧ n ≤ 24)) : -1 = bA n k := by
  unfold bA
  rw [if_neg (fun w => h w.1)]
theorem bA_2 {n k : Int32} (h : ¬ ((1 : Int32) ≤ k ∧ k ≤ 8)) : -1 = bA n k := by
  unfold bA
  rw [if_neg (fun w => h w.2)]
abbrev RV (n k d : Int32) (s t : Nat) : Prop := ((0 : Int32) ≤ n ∧ n ≤ nI s - 1) ∧ ((0 : Int32) ≤ k ∧ k ≤ nI t - 1) ∧ ((0 : Int32) ≤ d ∧ d ≤ 1)
theorem RV_y {f s d n k : Nat} (h1 : f < n) (h2 : s < k) (h3 : d < 2) (hn : n ≤ 24) (hk : k ≤ 8) : RV (nI f) (nI s) (nI d) n k := ⟨in_nI h1 (by omega), in_nI h2 (by omega), in_nI1 h3⟩
theorem RV_e {n k d : Int32} {f s e a b : Nat} (e1 : n = nI f) (e2 : k = nI s) (e3 : d = nI e) (h1 : f < a) (h2 : s < b) (h3 : e < 2) (ha : a ≤ 24) (hb : b ≤ 8) : RV n k d a b := by
  subst e1 e2 e3
  exact RV_y h1 h2 h3 ha hb
theorem told_eq {α : Type} {a b c a' b' c' : Nat} (F : Nat → Nat → Nat → α) (h1 : a = a') (h2 : b = b') (h3 : c = c') : F a b c = F a' b' c' := by
  subst h1 h2 h3
  rfl
def gN (d : Nat) : Nat := if d < 4 then d + 1 else d
def gA (d : Nat) : Int32 := if d < 4 then nI d else -1
abbrev DOK (s : Nat) (y : Int32) : Prop := 0 < s ∧ ((0 : Int32) ≤ y ∧ y ≤ 2100)
def dN (s d : Nat) (y : Int32) : Nat := if DOK s y then gN d else d
def dA (s d : Nat) (y : Int32) : Int32 := if DOK s y then gA d else -1
theorem gA_y {d : Nat} (h : d < 4) : nI d = gA d := by
  unfold gA
  rw [if_pos h]
theorem gA_n {d : Nat} (h : ¬ d < 4) : -1 = gA d := by
  unfold gA
  rw [if_neg h]
theorem gN_y {d r : Nat} (h : d < 4) (e : r = d + 1) : r = gN d := by
  unfold gN
  rw [if_pos h]
  exact e
theorem gN_n {d : Nat} (h : ¬ d < 4) : d = gN d := by
  unfold gN
  rw [if_neg h]
theorem dA_y {s d : Nat} {y : Int32} (h : DOK s y) : gA d = dA s d y := by
  unfold dA
  rw [if_pos h]
theorem dN_y {s d r : Nat} {y : Int32} (h : DOK s y) (e : r = gN d) : r = dN s d y := by
  unfold dN
  rw [if_pos h]
  exact e
theorem dA_0 {s d : Nat} {y : Int32} (h : s = 0) : -1 = dA s d y := by
  unfold dA
  rw [if_neg (fun w => absurd w.1 (by omega))]
theorem dN_0 {s d : Nat} {y : Int32} (h : s = 0) : d = dN s d y := by
  unfold dN
  rw [if_neg (fun w => absurd w.1 (by omega))]
theorem dA_1 {s d : Nat} {y : Int32} (h : ¬ ((0 : Int32) ≤ y ∧ y ≤ 2100)) : -1 = dA s d y := by
  unfold dA
  rw [if_neg (fun w => h w.2)]
theorem dN_1 {s d : Nat} {y : Int32} (h : ¬ ((0 : Int32) ≤ y ∧ y ≤ 2100)) : d = dN s d y := by
  unfold dN
  rw [if_neg (fun w => h w.2)]
theorem dA_4 {s d : Nat} {y : Int32} (h : d = 4) : -1 = dA s d y := by
  unfold dA
  split
  · exact gA_n (by omega)
  · rfl
theorem dN_4 {s d : Nat} {y : Int32} (h : d = 4) : d = dN s d y := by
  unfold dN
  split
  · exact gN_n (by omega)
  · rfl
theorem nI_p1 (d : Nat) : nI (d + 1) - 1 = nI d := by
  rw [← nI_1]
  exact Int32.add_sub_cancel _ _
theorem gA_p {d : Nat} (h : d < 4) : nI (d + 1) - 1 = gA d := (nI_p1 d).trans (gA_y h)
theorem dA_z {s d : Nat} {y : Int32} (h : DOK s y) (hd : d < 4) : nI (d + 1) - 1 = dA s d y := (gA_p hd).trans (dA_y h)
theorem dN_z {s d r : Nat} {y : Int32} (h : DOK s y) (hd : d < 4) (e : r = d + 1) : r = dN s d y := dN_y h (gN_y hd e)
theorem lf_X0_fall_f_1 (a : Nat → Nat) (dm : Nat) : ((0 : Nat) = 0) := by
  rfl
set_option maxHeartbeats 4000000 in
set_option maxRecDepth 100000 in
theorem c_X0_fall_f (l : Launch) (D : va_G) (cI cB cZ cJ : ClassId) (tx : List (ClassId × FieldType)) (a : Nat → Nat) (dm : Nat) : WrV l D cI cB cZ cJ tx yX0_fall cX0_fall 1 none 0 0 0 [.ref (a 6)] [(a 6, .inr (0, [.ref (a 5), .ref (a 25), .ref (a 26), .ref (a 27), .ref (a 28), .ref (a 29), .int (nI dm)]))] (fun (v : (Nat)) => (v = 0)) (fun v => [(a 6, .inr (0, [.ref (a 5), .ref (a 25), .ref (a 26), .ref (a 27), .ref (a 28), .ref (a 29), .int (nI v)]))]) := by
  refine wrv_of2 (by decide) (Nat.le_of_ble_eq_true rfl) ?_
  intro p e s m below meth c A ls H locs hC hK hP hD hA hS hl
  obtain ⟨hx, hb, hr, hml, hown, hts, hlocks, hin⟩ := hC
  have hown : s.vm.findClass RX0 = some m.cls := hown
  have hl : lv_has ls 1 [(0, .ref (a 6))] := hl
  refine W_gQ (fun Q hQ => ?_)
  refine lv_aload_n hx hb dX0_fall_0 rfl (lv_at hl 0 rfl) ?_
  refine lv_iconst (v := 0) hx hb dX0_fall_1 (by decide) ?_
  refine va_put (D := D) (ci := 0) (v := .int 0) (ty := .int) (C := RX0) (T := TX0) (N := 7) hx hb hts inT_X0 tyX0 tyX0_ok nmX0 hown hK.1 hP hD hS 0 rfl rfl 6 (by decide) (hts _ k_300) (fun _ h9 => h9) rfl (by decide +kernel) rfl rfl (Nat.le_of_ble_eq_true rfl) dX0_fall_2 (fun H locs hP hD hS => ?_)
  have hPD := pd_mk (ws := [(a 6, .inr (0, [.ref (a 5), .ref (a 25), .ref (a 26), .ref (a 27), .ref (a 28), .ref (a 29), .int 0]))]) hP hD
  have hP := hPD.1
  have hD := hPD.2
  rw [hQ]
  exact W.vret hx hb hr (fun tt9 ht hW => ⟨⟨((0 : Nat)), rfl, (lf_X0_fall_f_1 a dm), ⟨by rw [ht]; exact hP, hD⟩⟩, hS.F ht⟩) hS.2.2 dX0_fall_5 hlocks

theorem lf_X4_stands_f_3 (a : Nat → Nat) (sn : Nat) (sk : Nat) (scu : Int32) (sch : Int32) (hsn : sn ≤ 24) (hsk : sk ≤ 8) (c_1 : nI sn ≤ 0) : sn ≤ 0 := by
  exact (nI_leI (a := sn) (b := 0) (by omega) (by omega)).mp c_1
theorem lf_X4_stands_f_4 (a : Nat → Nat) (sn : Nat) (sk : Nat) (scu : Int32) (sch : Int32) (hsn : sn ≤ 24) (hsk : sk ≤ 8) (c_1 : nI sn ≤ 0) (n_2 : sn ≤ 0) : ((0 : Int32) = 0 ∧ sn = 0) ∨ ((0 : Int32) = 1 ∧ 0 < sn) := by
  first | exact Or.inl ⟨rfl, by omega⟩ | exact Or.inr ⟨rfl, by omega⟩
theorem lf_X4_stands_f_6 (a : Nat → Nat) (sn : Nat) (sk : Nat) (scu : Int32) (sch : Int32) (hsn : sn ≤ 24) (hsk : sk ≤ 8) (c_1 : ¬ nI sn ≤ 0) : 0 < sn := by
  exact Nat.lt_of_not_le (fun q => c_1 ((nI_leI (a := sn) (b := 0) (by omega) (by omega)).mpr q))
theorem lf_X4_stands_f_7 (a : Nat → Nat) (sn : Nat) (sk : Nat) (scu : Int32) (sch : Int32) (hsn : sn ≤ 24) (hsk : sk ≤ 8) (c_1 : ¬ nI sn ≤ 0) (n_5 : 0 < sn) : ((1 : Int32) = 0 ∧ sn = 0) ∨ ((1 : Int32) = 1 ∧ 0 < sn) := by
  first | exact Or.inl ⟨rfl, by omega⟩ | exact Or.inr ⟨rfl, by omega⟩
set_option maxHeartbeats 4000000 in
set_option maxRecDepth 100000 in
theorem c_X4_stands_f (l : Launch) (D : va_G) (cI cB cZ cJ : ClassId) (tx : List (ClassId × FieldType)) (a : Nat → Nat) (sn : Nat) (sk : Nat) (scu : Int32) (sch : Int32) (hsn : sn ≤ 24) (hsk : sk ≤ 8) : RdI l D cI cB cZ cJ tx yX4_stands cX4_stands 1 (some .boolean) 0 [.ref (a 5)] [(a 5, .inr (4, [.ref (a 18), .ref (a 19), .ref (a 20), .ref (a 21), .ref (a 22), .ref (a 23), .ref (a 24), .int (nI sn), .int (nI sk), .int scu, .int sch]))] (fun r => (r = 0 ∧ sn = 0) ∨ (r = 1 ∧ 0 < sn)) := by
  refine rdi_of2 (by decide) (Nat.le_of_ble_eq_true rfl) ?_
  intro p e s m below meth c A ls H locs hC hK hP hD hA hS hl
  obtain ⟨hx, hb, hr, hml, hown, hts, hlocks, hin⟩ := hC
  have hown : s.vm.findClass RX4 = some m.cls := hown
  have hl : lv_has ls 1 [(0, .ref (a 5))] := hl
  refine W_gQ (fun Q hQ => ?_)
  refine lv_aload_n hx hb dX4_stands_0 rfl (lv_at hl 0 rfl) ?_
  refine va_get (D := D) (ci := 4) (v := .int (nI sn)) (C := RX4) (T := TX4) (N := 11) hx hb hts inT_X4 hown hK.1 hP 0 rfl rfl 7 (by decide) (hts _ k_248) (fun _ h9 => h9) rfl dX4_stands_1 ?_
  refine lv_if_le (tgt := 11) hx hb dX4_stands_4 (by decide) (fun c_1 => ?_) (fun c_1 => ?_)
  · have n_2 : sn ≤ 0 := (lf_X4_stands_f_3 a sn sk scu sch hsn hsk c_1)
    refine lv_iconst (v := 0) hx hb dX4_stands_11 (by decide) ?_
    rw [hQ]
    exact W.zret (v := 0) hx hb hr (by decide) (fun tt9 ht hW => ⟨⟨(0 : Int32), (), rfl, (lf_X4_stands_f_4 a sn sk scu sch hsn hsk c_1 n_2), trivial⟩, hS.F ht⟩) hS.2.2 dX4_stands_12 hlocks
  · have n_5 : 0 < sn := (lf_X4_stands_f_6 a sn sk scu sch hsn hsk c_1)
    refine lv_iconst (v := 1) hx hb dX4_stands_7 (by decide) ?_
    refine lv_goto (tgt := 12) hx hb dX4_stands_8 (by decide) ?_
    rw [hQ]
    exact W.zret (v := 1) hx hb hr (by decide) (fun tt9 ht hW => ⟨⟨(1 : Int32), (), rfl, (lf_X4_stands_f_7 a sn sk scu sch hsn hsk c_1 n_5), trivial⟩, hS.F ht⟩) hS.2.2 dX4_stands_12 hlocks

theorem lf_X4_rivetAt_f_3 (a : Nat → Nat) (sn : Nat) (sk : Nat) (scu : Int32) (sch : Int32) (n1 : Int32) (n2 : Int32) (n3 : Int32) (hsn : sn ≤ 24) (hsk : sk ≤ 8) (c_2 : ¬ ((0 : Int32) ≤ n1 ∧ n1 ≤ nI sn - 1)) : (((-1) : Int32) = -1 ∧ ¬ RV n1 n2 n3 sn sk) ∨ (∃ f s d : Nat, f < sn ∧ s < sk ∧ d < 2 ∧ n1 = nI f ∧ n2 = nI s ∧ n3 = nI d ∧ ((-1) : Int32) = nI ((f * 8 + s) * 2 + d)) := by
  first | exact Or.inl ⟨rfl, fun w => absurd w.1 (by assumption)⟩ | exact Or.inl ⟨rfl, fun w => absurd w.2.1 (by assumption)⟩ | exact Or.inl ⟨rfl, fun w => absurd w.2.2 (by assumption)⟩ | exact Or.inr ⟨_, _, _, by assumption, by assumption, by omega, by assumption, by assumption, by assumption, rfl⟩
theorem lf_X4_rivetAt_f_4 (a : Nat → Nat) (sn : Nat) (sk : Nat) (scu : Int32) (sch : Int32) (n1 : Int32) (n2 : Int32) (n3 : Int32) (hsn : sn ≤ 24) (hsk : sk ≤ 8) (c_2 : (0 : Int32) ≤ n1 ∧ n1 ≤ nI sn - 1) : sn < 2 ^ 31 := by
  omega
theorem lf_X4_rivetAt_f_7 (a : Nat → Nat) (sn : Nat) (sk : Nat) (scu : Int32) (sch : Int32) (n1 : Int32) (n2 : Int32) (n3 : Int32) (hsn : sn ≤ 24) (hsk : sk ≤ 8) (c_2 : (0 : Int32) ≤ n1 ∧ n1 ≤ nI sn - 1) (tn1 : Nat) (tn1a : tn1 < sn) (tn1e : n1 = nI tn1) (c_6 : ¬ ((0 : Int32) ≤ n2 ∧ n2 ≤ nI sk - 1)) : (((-1) : Int32) = -1 ∧ ¬ RV n1 n2 n3 sn sk) ∨ (∃ f s d : Nat, f < sn ∧ s < sk ∧ d < 2 ∧ n1 = nI f ∧ n2 = nI s ∧ n3 = nI d ∧ ((-1) : Int32) = nI ((f * 8 + s) * 2 + d)) := by
  first | exact Or.inl ⟨rfl, fun w => absurd w.1 (by assumption)⟩ | exact Or.inl ⟨rfl, fun w => absurd w.2.1 (by assumption)⟩ | exact Or.inl ⟨rfl, fun w => absurd w.2.2 (by assumption)⟩ | exact Or.inr ⟨_, _, _, by assumption, by assumption, by omega, by assumption, by assumption, by assumption, rfl⟩
theorem lf_X4_rivetAt_f_8 (a : Nat → Nat) (sn : Nat) (sk : Nat) (scu : Int32) (sch : Int32) (n1 : Int32) (n2 : Int32) (n3 : Int32) (hsn : sn ≤ 24) (hsk : sk ≤ 8) (c_2 : (0 : Int32) ≤ n1 ∧ n1 ≤ nI sn - 1) (tn1 : Nat) (tn1a : tn1 < sn) (tn1e : n1 = nI tn1) (c_6 : (0 : Int32) ≤ n2 ∧ n2 ≤ nI sk - 1) : sk < 2 ^ 31 := by
  omega
theorem lf_X4_rivetAt_f_11 (a : Nat → Nat) (sn : Nat) (sk : Nat) (scu : Int32) (sch : Int32) (n1 : Int32) (n2 : Int32) (n3 : Int32) (hsn : sn ≤ 24) (hsk : sk ≤ 8) (c_2 : (0 : Int32) ≤ n1 ∧ n1 ≤ nI sn - 1) (tn1 : Nat) (tn1a : tn1 < sn) (tn1e : n1 = nI tn1) (c_6 : (0 : Int32) ≤ n2 ∧ n2 ≤ nI sk - 1) (tn2 : Nat) (tn2a : tn2 < sk) (tn2e : n2 = nI tn2) (c_10 : (0 : Int32) ≤ n3 ∧ n3 ≤ 1) (tn3 : Nat) (tn3a : 0 ≤ tn3) (tn3b : tn3 ≤ 1) (tn3e : n3 = nI tn3) : ((nI ((((tn1 * 8) + tn2) * 2) + tn3) : Int32) = -1 ∧ ¬ RV n1 n2 n3 sn sk) ∨ (∃ f s d : Nat, f < sn ∧ s < sk ∧ d < 2 ∧ n1 = nI f ∧ n2 = nI s ∧ n3 = nI d ∧ (nI ((((tn1 * 8) + tn2) * 2) + tn3) : Int32) = nI ((f * 8 + s) * 2 + d)) := by
  first | exact Or.inl ⟨rfl, fun w => absurd w.1 (by assumption)⟩ | exact Or.inl ⟨rfl, fun w => absurd w.2.1 (by assumption)⟩ | exact Or.inl ⟨rfl, fun w => absurd w.2.2 (by assumption)⟩ | exact Or.inr ⟨_, _, _, by assumption, by assumption, by omega, by assumption, by assumption, by assumption, rfl⟩
theorem lf_X4_rivetAt_f_12 (a : Nat → Nat) (sn : Nat) (sk : Nat) (scu : Int32) (sch : Int32) (n1 : Int32) (n2 : Int32) (n3 : Int32) (hsn : sn ≤ 24) (hsk : sk ≤ 8) (c_2 : (0 : Int32) ≤ n1 ∧ n1 ≤ nI sn - 1) (tn1 : Nat) (tn1a : tn1 < sn) (tn1e : n1 = nI tn1) (c_6 : (0 : Int32) ≤ n2 ∧ n2 ≤ nI sk - 1) (tn2 : Nat) (tn2a : tn2 < sk) (tn2e : n2 = nI tn2) (c_10 : ¬ ((0 : Int32) ≤ n3 ∧ n3 ≤ 1)) : (((-1) : Int32) = -1 ∧ ¬ RV n1 n2 n3 sn sk) ∨ (∃ f s d : Nat, f < sn ∧ s < sk ∧ d < 2 ∧ n1 = nI f ∧ n2 = nI s ∧ n3 = nI d ∧ ((-1) : Int32) = nI ((f * 8 + s) * 2 + d)) := by
  first | exact Or.inl ⟨rfl, fun w => absurd w.1 (by assumption)⟩ | exact Or.inl ⟨rfl, fun w => absurd w.2.1 (by assumption)⟩ | exact Or.inl ⟨rfl, fun w => absurd w.2.2 (by assumption)⟩ | exact Or.inr ⟨_, _, _, by assumption, by assumption, by omega, by assumption, by assumption, by assumption, rfl⟩
set_option maxHeartbeats 4000000 in
set_option maxRecDepth 100000 in
theorem c_X4_rivetAt_f (l : Launch) (D : va_G) (cI cB cZ cJ : ClassId) (tx : List (ClassId × FieldType)) (a : Nat → Nat) (sn : Nat) (sk : Nat) (scu : Int32) (sch : Int32) (n1 : Int32) (n2 : Int32) (n3 : Int32) (hsn : sn ≤ 24) (hsk : sk ≤ 8) : RdI l D cI cB cZ cJ tx yX4_rivetAt cX4_rivetAt 4 (some .int) 1 [.ref (a 5), .int n1, .int n2, .int n3] [(a 5, .inr (4, [.ref (a 18), .ref (a 19), .ref (a 20), .ref (a 21), .ref (a 22), .ref (a 23), .ref (a 24), .int (nI sn), .int (nI sk), .int scu, .int sch]))] (fun r => (r = -1 ∧ ¬ RV n1 n2 n3 sn sk) ∨ (∃ f s d : Nat, f < sn ∧ s < sk ∧ d < 2 ∧ n1 = nI f ∧ n2 = nI s ∧ n3 = nI d ∧ r = nI ((f * 8 + s) * 2 + d))) := by
  refine rdi_of2 (by decide) (Nat.le_of_ble_eq_true rfl) ?_
  intro p e s m below meth c A ls H locs hC hK hP hD hA hS hl
  obtain ⟨hx, hb, hr, hml, hown, hts, hlocks, hin⟩ := hC
  have hown : s.vm.findClass RX4 = some m.cls := hown
  have hl : lv_has ls 4 [(0, .ref (a 5)), (1, .int n1), (2, .int n2), (3, .int n3)] := hl
  refine W_gQ (fun Q hQ => ?_)
  refine lv_iload_n hx hb dX4_rivetAt_0 rfl (lv_at hl 1 rfl) ?_
  refine lv_iconst (v := 0) hx hb dX4_rivetAt_1 (by decide) ?_
  refine lv_aload_n hx hb dX4_rivetAt_2 rfl (lv_at hl 0 rfl) ?_
  refine va_get (D := D) (ci := 4) (v := .int (nI sn)) (C := RX4) (T := TX4) (N := 11) hx hb hts inT_X4 hown hK.1 hP 0 rfl rfl 7 (by decide) (hts _ k_248) (fun _ h9 => h9) rfl dX4_rivetAt_3 ?_
  refine lv_iconst (v := 1) hx hb dX4_rivetAt_6 (by decide) ?_
  refine lv_isub hx hb dX4_rivetAt_7 ?_
  refine eRi (va_runSN (As := [.int n1, .int 0, .int (nI sn - 1)]) (rest := []) ⟨hx, hb, hml, hown, hts⟩ (c_X11_within l D cI cB cZ cJ tx n1 0 (nI sn - 1) H.size) (zSN hts hK n_777 v_X11_within ⟨Nat.le_of_ble_eq_true rfl, Nat.le_of_ble_eq_true rfl⟩) (px0 hK) rfl rfl hl.1 rfl (lv_room (Nat.le_of_ble_eq_true rfl)) dX4_rivetAt_8 ⟨Nat.le_of_ble_eq_true rfl, Nat.le_of_ble_eq_true rfl⟩) hP hS hA (fun r_1 H locs wr_1 hP hS => ?_)
  subst wr_1
  refine lv_bi_eq (tgt := 37) hx hb dX4_rivetAt_11 (by decide) (fun c_2 => ?_) (fun c_2 => ?_)
  · refine lv_iconst (v := (-1)) hx hb dX4_rivetAt_37 (by decide) ?_
    rw [hQ]
    exact W.iret (v := (-1)) hx hb hr (fun tt9 ht hW => ⟨⟨((-1) : Int32), (), rfl, (lf_X4_rivetAt_f_3 a sn sk scu sch n1 n2 n3 hsn hsk c_2), trivial⟩, hS.F ht⟩) hS.2.2 dX4_rivetAt_38 hlocks
  · obtain ⟨tn1, tn1a, tn1e⟩ := of_within (lf_X4_rivetAt_f_4 a sn sk scu sch n1 n2 n3 hsn hsk c_2) c_2
    subst tn1e
    refine lv_iload_n hx hb dX4_rivetAt_14 rfl (lv_at hl 2 rfl) ?_
    refine lv_iconst (v := 0) hx hb dX4_rivetAt_15 (by decide) ?_
    refine lv_aload_n hx hb dX4_rivetAt_16 rfl (lv_at hl 0 rfl) ?_
    refine va_get (D := D) (ci := 4) (v := .int (nI sk)) (C := RX4) (T := TX4) (N := 11) hx hb hts inT_X4 hown hK.1 hP 0 rfl rfl 8 (by decide) (hts _ k_257) (fun _ h9 => h9) rfl dX4_rivetAt_17 ?_
    refine lv_iconst (v := 1) hx hb dX4_rivetAt_20 (by decide) ?_
    refine lv_isub hx hb dX4_rivetAt_21 ?_
    refine eRi (va_runSN (As := [.int n2, .int 0, .int (nI sk - 1)]) (rest := []) ⟨hx, hb, hml, hown, hts⟩ (c_X11_within l D cI cB cZ cJ tx n2 0 (nI sk - 1) H.size) (zSN hts hK n_777 v_X11_within ⟨Nat.le_of_ble_eq_true rfl, Nat.le_of_ble_eq_true rfl⟩) (px0 hK) rfl rfl hl.1 rfl (lv_room (Nat.le_of_ble_eq_true rfl)) dX4_rivetAt_22 ⟨Nat.le_of_ble_eq_true rfl, Nat.le_of_ble_eq_true rfl⟩) hP hS hA (fun r_5 H locs wr_5 hP hS => ?_)
    subst wr_5
    refine lv_bi_eq (tgt := 37) hx hb dX4_rivetAt_25 (by decide) (fun c_6 => ?_) (fun c_6 => ?_)
    · refine lv_iconst (v := (-1)) hx hb dX4_rivetAt_37 (by decide) ?_
      rw [hQ]
      exact W.iret (v := (-1)) hx hb hr (fun tt9 ht hW => ⟨⟨((-1) : Int32), (), rfl, (lf_X4_rivetAt_f_7 a sn sk scu sch (nI tn1) n2 n3 hsn hsk c_2 tn1 tn1a rfl c_6), trivial⟩, hS.F ht⟩) hS.2.2 dX4_rivetAt_38 hlocks
    · obtain ⟨tn2, tn2a, tn2e⟩ := of_within (lf_X4_rivetAt_f_8 a sn sk scu sch (nI tn1) n2 n3 hsn hsk c_2 tn1 tn1a rfl c_6) c_6
      subst tn2e
      refine lv_iload_n hx hb dX4_rivetAt_28 rfl (lv_at hl 3 rfl) ?_
      refine lv_iconst (v := 0) hx hb dX4_rivetAt_29 (by decide) ?_
      refine lv_iconst (v := 1) hx hb dX4_rivetAt_30 (by decide) ?_
      refine eRi (va_runSN (As := [.int n3, .int 0, .int 1]) (rest := []) ⟨hx, hb, hml, hown, hts⟩ (c_X11_within l D cI cB cZ cJ tx n3 0 1 H.size) (zSN hts hK n_777 v_X11_within ⟨Nat.le_of_ble_eq_true rfl, Nat.le_of_ble_eq_true rfl⟩) (px0 hK) rfl rfl hl.1 rfl (lv_room (Nat.le_of_ble_eq_true rfl)) dX4_rivetAt_31 ⟨Nat.le_of_ble_eq_true rfl, Nat.le_of_ble_eq_true rfl⟩) hP hS hA (fun r_9 H locs wr_9 hP hS => ?_)
      subst wr_9
      refine lv_bi_ne (tgt := 39) hx hb dX4_rivetAt_34 (by decide) (fun c_10 => ?_) (fun c_10 => ?_)
      · obtain ⟨tn3, tn3a, tn3b, tn3e⟩ := of_rng 0 1 rfl rfl c_10
        subst tn3e
        refine lv_iload_n hx hb dX4_rivetAt_39 rfl (lv_at hl 1 rfl) ?_
        refine lv_bipush (v := 8) hx hb dX4_rivetAt_40 (by decide) ?_
        refine lv_imul hx hb dX4_rivetAt_42 ?_
        refine lv_topv (y := nI (tn1 * 8)) (pk_mul tn1 8) ?_
        refine lv_iload_n hx hb dX4_rivetAt_43 rfl (lv_at hl 2 rfl) ?_
        refine lv_iadd hx hb dX4_rivetAt_44 ?_
        refine lv_topv (y := nI ((tn1 * 8) + tn2)) (nI_add (tn1 * 8) tn2) ?_
        refine lv_iconst (v := 2) hx hb dX4_rivetAt_45 (by decide) ?_
        refine lv_imul hx hb dX4_rivetAt_46 ?_
        refine lv_topv (y := nI (((tn1 * 8) + tn2) * 2)) (pk_mul ((tn1 * 8) + tn2) 2) ?_
        refine lv_iload_n hx hb dX4_rivetAt_47 rfl (lv_at hl 3 rfl) ?_
        refine lv_iadd hx hb dX4_rivetAt_48 ?_
        refine lv_topv (y := nI ((((tn1 * 8) + tn2) * 2) + tn3)) (nI_add (((tn1 * 8) + tn2) * 2) tn3) ?_
        rw [hQ]
        exact W.iret (v := nI ((((tn1 * 8) + tn2) * 2) + tn3)) hx hb hr (fun tt9 ht hW => ⟨⟨(nI ((((tn1 * 8) + tn2) * 2) + tn3) : Int32), (), rfl, (lf_X4_rivetAt_f_11 a sn sk scu sch (nI tn1) (nI tn2) (nI tn3) hsn hsk c_2 tn1 tn1a rfl c_6 tn2 tn2a rfl c_10 tn3 tn3a tn3b rfl), trivial⟩, hS.F ht⟩) hS.2.2 dX4_rivetAt_49 hlocks
      · refine lv_iconst (v := (-1)) hx hb dX4_rivetAt_37 (by decide) ?_
        rw [hQ]
        exact W.iret (v := (-1)) hx hb hr (fun tt9 ht hW => ⟨⟨((-1) : Int32), (), rfl, (lf_X4_rivetAt_f_12 a sn sk scu sch (nI tn1) (nI tn2) n3 hsn hsk c_2 tn1 tn1a rfl c_6 tn2 tn2a rfl c_10), trivial⟩, hS.F ht⟩) hS.2.2 dX4_rivetAt_38 hlocks

theorem lf_X12_isRivet_f_3 (h : Nat) (q : Nat → Nat) (im : Nat → Int32) (ms : Nat) (mk : Nat) (n1 : Int32) (n2 : Int32) (n3 : Int32) (hf_ms : im 2 = nI ms) (hf_mk : im 3 = nI mk) (hms : ms ≤ 24) (hmk : mk ≤ 8) (hm3 : mk = 0 ∨ 3 ≤ ms) (c_2 : ¬ ((0 : Int32) ≤ n1 ∧ n1 ≤ nI ms - 1)) : ((0 : Int32) = 0 ∧ ¬ RV n1 n2 n3 ms mk) ∨ (∃ f s d : Nat, f < ms ∧ s < mk ∧ d < 2 ∧ n1 = nI f ∧ n2 = nI s ∧ n3 = nI d ∧ (0 : Int32) = 1) := by
  first | exact Or.inl ⟨rfl, fun w => absurd w.1 (by assumption)⟩ | exact Or.inl ⟨rfl, fun w => absurd w.2.1 (by assumption)⟩ | exact Or.inl ⟨rfl, fun w => absurd w.2.2 (by assumption)⟩ | exact Or.inr ⟨tn1, tn2, tn3, tn1a, tn2a, by omega, tn1e, tn2e, tn3e, rfl⟩
theorem lf_X12_isRivet_f_4 (h : Nat) (q : Nat → Nat) (im : Nat → Int32) (ms : Nat) (mk : Nat) (n1 : Int32) (n2 : Int32) (n3 : Int32) (hf_ms : im 2 = nI ms) (hf_mk : im 3 = nI mk) (hms : ms ≤ 24) (hmk : mk ≤ 8) (hm3 : mk = 0 ∨ 3 ≤ ms) (c_2 : (0 : Int32) ≤ n1 ∧ n1 ≤ nI ms - 1) : ms < 2 ^ 31 := by
  omega
theorem lf_X12_isRivet_f_7 (h : Nat) (q : Nat → Nat) (im : Nat → Int32) (ms : Nat) (mk : Nat) (n1 : Int32) (n2 : Int32) (n3 : Int32) (hf_ms : im 2 = nI ms) (hf_mk : im 3 = nI mk) (hms : ms ≤ 24) (hmk : mk ≤ 8) (hm3 : mk = 0 ∨ 3 ≤ ms) (c_2 : (0 : Int32) ≤ n1 ∧ n1 ≤ nI ms - 1) (tn1 : Nat) (tn1a : tn1 < ms) (tn1e : n1 = nI tn1) (c_6 : ¬ ((0 : Int32) ≤ n2 ∧ n2 ≤ nI mk - 1)) : ((0 : Int32) = 0 ∧ ¬ RV n1 n2 n3 ms mk) ∨ (∃ f s d : Nat, f < ms ∧ s < mk ∧ d < 2 ∧ n1 = nI f ∧ n2 = nI s ∧ n3 = nI d ∧ (0 : Int32) = 1) := by
  first | exact Or.inl ⟨rfl, fun w => absurd w.1 (by assumption)⟩ | exact Or.inl ⟨rfl, fun w => absurd w.2.1 (by assumption)⟩ | exact Or.inl ⟨rfl, fun w => absurd w.2.2 (by assumption)⟩ | exact Or.inr ⟨tn1, tn2, tn3, tn1a, tn2a, by omega, tn1e, tn2e, tn3e, rfl⟩
theorem lf_X12_isRivet_f_8 (h : Nat) (q : Nat → Nat) (im : Nat → Int32) (ms : Nat) (mk : Nat) (n1 : Int32) (n2 : Int32) (n3 : Int32) (hf_ms : im 2 = nI ms) (hf_mk : im 3 = nI mk) (hms : ms ≤ 24) (hmk : mk ≤ 8) (hm3 : mk = 0 ∨ 3 ≤ ms) (c_2 : (0 : Int32) ≤ n1 ∧ n1 ≤ nI ms - 1) (tn1 : Nat) (tn1a : tn1 < ms) (tn1e : n1 = nI tn1) (c_6 : (0 : Int32) ≤ n2 ∧ n2 ≤ nI mk - 1) : mk < 2 ^ 31 := by
  omega
theorem lf_X12_isRivet_f_11 (h : Nat) (q : Nat → Nat) (im : Nat → Int32) (ms : Nat) (mk : Nat) (n1 : Int32) (n2 : Int32) (n3 : Int32) (hf_ms : im 2 = nI ms) (hf_mk : im 3 = nI mk) (hms : ms ≤ 24) (hmk : mk ≤ 8) (hm3 : mk = 0 ∨ 3 ≤ ms) (c_2 : (0 : Int32) ≤ n1 ∧ n1 ≤ nI ms - 1) (tn1 : Nat) (tn1a : tn1 < ms) (tn1e : n1 = nI tn1) (c_6 : (0 : Int32) ≤ n2 ∧ n2 ≤ nI mk - 1) (tn2 : Nat) (tn2a : tn2 < mk) (tn2e : n2 = nI tn2) (c_10 : ¬ ((0 : Int32) ≤ n3 ∧ n3 ≤ 1)) : ((0 : Int32) = 0 ∧ ¬ RV n1 n2 n3 ms mk) ∨ (∃ f s d : Nat, f < ms ∧ s < mk ∧ d < 2 ∧ n1 = nI f ∧ n2 = nI s ∧ n3 = nI d ∧ (0 : Int32) = 1) := by
  first | exact Or.inl ⟨rfl, fun w => absurd w.1 (by assumption)⟩ | exact Or.inl ⟨rfl, fun w => absurd w.2.1 (by assumption)⟩ | exact Or.inl ⟨rfl, fun w => absurd w.2.2 (by assumption)⟩ | exact Or.inr ⟨tn1, tn2, tn3, tn1a, tn2a, by omega, tn1e, tn2e, tn3e, rfl⟩
theorem lf_X12_isRivet_f_12 (h : Nat) (q : Nat → Nat) (im : Nat → Int32) (ms : Nat) (mk : Nat) (n1 : Int32) (n2 : Int32) (n3 : Int32) (hf_ms : im 2 = nI ms) (hf_mk : im 3 = nI mk) (hms : ms ≤ 24) (hmk : mk ≤ 8) (hm3 : mk = 0 ∨ 3 ≤ ms) (c_2 : (0 : Int32) ≤ n1 ∧ n1 ≤ nI ms - 1) (tn1 : Nat) (tn1a : tn1 < ms) (tn1e : n1 = nI tn1) (c_6 : (0 : Int32) ≤ n2 ∧ n2 ≤ nI mk - 1) (tn2 : Nat) (tn2a : tn2 < mk) (tn2e : n2 = nI tn2) (c_10 : (0 : Int32) ≤ n3 ∧ n3 ≤ 1) (tn3 : Nat) (tn3a : 0 ≤ tn3) (tn3b : tn3 ≤ 1) (tn3e : n3 = nI tn3) : ((1 : Int32) = 0 ∧ ¬ RV n1 n2 n3 ms mk) ∨ (∃ f s d : Nat, f < ms ∧ s < mk ∧ d < 2 ∧ n1 = nI f ∧ n2 = nI s ∧ n3 = nI d ∧ (1 : Int32) = 1) := by
  first | exact Or.inl ⟨rfl, fun w => absurd w.1 (by assumption)⟩ | exact Or.inl ⟨rfl, fun w => absurd w.2.1 (by assumption)⟩ | exact Or.inl ⟨rfl, fun w => absurd w.2.2 (by assumption)⟩ | exact Or.inr ⟨tn1, tn2, tn3, tn1a, tn2a, by omega, tn1e, tn2e, tn3e, rfl⟩
set_option maxHeartbeats 4000000 in
set_option maxRecDepth 100000 in
theorem c_X12_isRivet_f (l : Launch) (D : va_G) (cI cB cZ cJ : ClassId) (tx : List (ClassId × FieldType)) (h : Nat) (q : Nat → Nat) (im : Nat → Int32) (ms : Nat) (mk : Nat) (n1 : Int32) (n2 : Int32) (n3 : Int32) (hf_ms : im 2 = nI ms) (hf_mk : im 3 = nI mk) (hms : ms ≤ 24) (hmk : mk ≤ 8) (hm3 : mk = 0 ∨ 3 ≤ ms) : RdI l D cI cB cZ cJ tx yX12_isRivet cX12_isRivet 4 (some .boolean) 2 [.ref h, .int n1, .int n2, .int n3] [(h, .inr (12, mG q im))] (fun r => (r = 0 ∧ ¬ RV n1 n2 n3 ms mk) ∨ (∃ f s d : Nat, f < ms ∧ s < mk ∧ d < 2 ∧ n1 = nI f ∧ n2 = nI s ∧ n3 = nI d ∧ r = 1)) := by
  refine rdi_of2 (by decide) (Nat.le_of_ble_eq_true rfl) ?_
  intro p e s m below meth c A ls H locs hC hK hP hD hA hS hl
  obtain ⟨hx, hb, hr, hml, hown, hts, hlocks, hin⟩ := hC
  have hown : s.vm.findClass RX12 = some m.cls := hown
  have hl : lv_has ls 4 [(0, .ref h), (1, .int n1), (2, .int n2), (3, .int n3)] := hl
  refine W_gQ (fun Q hQ => ?_)
  refine lv_aload_n hx hb dX12_isRivet_0 rfl (lv_at hl 0 rfl) ?_
  refine lv_iload_n hx hb dX12_isRivet_1 rfl (lv_at hl 1 rfl) ?_
  refine eRi (va_runV (As := [.int n1]) (rest := []) ⟨hx, hb, hml, hown, hts⟩ (c_X12_isStation l D cI cB cZ cJ tx h q im ms n1 hf_ms H.size) (zV hts k_1803 v_X12_isStation ⟨Nat.le_of_ble_eq_true rfl, Nat.le_of_ble_eq_true rfl⟩) (pV (px1 hK hP 0 rfl) hK hP 0 rfl rfl) rfl rfl hl.1 rfl (lv_room (Nat.le_of_ble_eq_true rfl)) dX12_isRivet_2 ⟨Nat.le_of_ble_eq_true rfl, Nat.le_of_ble_eq_true rfl⟩) hP hS hA (fun r_1 H locs wr_1 hP hS => ?_)
  subst wr_1
  refine lv_bi_eq (tgt := 30) hx hb dX12_isRivet_5 (by decide) (fun c_2 => ?_) (fun c_2 => ?_)
  · refine lv_iconst (v := 0) hx hb dX12_isRivet_30 (by decide) ?_
    rw [hQ]
    exact W.zret (v := 0) hx hb hr (by decide) (fun tt9 ht hW => ⟨⟨(0 : Int32), (), rfl, (lf_X12_isRivet_f_3 h q im ms mk n1 n2 n3 hf_ms hf_mk hms hmk hm3 c_2), trivial⟩, hS.F ht⟩) hS.2.2 dX12_isRivet_31 hlocks
  · obtain ⟨tn1, tn1a, tn1e⟩ := of_within (lf_X12_isRivet_f_4 h q im ms mk n1 n2 n3 hf_ms hf_mk hms hmk hm3 c_2) c_2
    subst tn1e
    refine lv_aload_n hx hb dX12_isRivet_8 rfl (lv_at hl 0 rfl) ?_
    refine lv_iload_n hx hb dX12_isRivet_9 rfl (lv_at hl 2 rfl) ?_
    refine eRi (va_runV (As := [.int n2]) (rest := []) ⟨hx, hb, hml, hown, hts⟩ (c_X12_isStrake l D cI cB cZ cJ tx h q im mk n2 hf_mk H.size) (zV hts k_1807 v_X12_isStrake ⟨Nat.le_of_ble_eq_true rfl, Nat.le_of_ble_eq_true rfl⟩) (pV (px1 hK hP 0 rfl) hK hP 0 rfl rfl) rfl rfl hl.1 rfl (lv_room (Nat.le_of_ble_eq_true rfl)) dX12_isRivet_10 ⟨Nat.le_of_ble_eq_true rfl, Nat.le_of_ble_eq_true rfl⟩) hP hS hA (fun r_5 H locs wr_5 hP hS => ?_)
    subst wr_5
    refine lv_bi_eq (tgt := 30) hx hb dX12_isRivet_13 (by decide) (fun c_6 => ?_) (fun c_6 => ?_)
    · refine lv_iconst (v := 0) hx hb dX12_isRivet_30 (by decide) ?_
      rw [hQ]
      exact W.zret (v := 0) hx hb hr (by decide) (fun tt9 ht hW => ⟨⟨(0 : Int32), (), rfl, (lf_X12_isRivet_f_7 h q im ms mk (nI tn1) n2 n3 hf_ms hf_mk hms hmk hm3 c_2 tn1 tn1a rfl c_6), trivial⟩, hS.F ht⟩) hS.2.2 dX12_isRivet_31 hlocks
    · obtain ⟨tn2, tn2a, tn2e⟩ := of_within (lf_X12_isRivet_f_8 h q im ms mk (nI tn1) n2 n3 hf_ms hf_mk hms hmk hm3 c_2 tn1 tn1a rfl c_6) c_6
      subst tn2e
      refine lv_iload_n hx hb dX12_isRivet_16 rfl (lv_at hl 3 rfl) ?_
      refine lv_i2l (v := n3.toInt64) hx hb dX12_isRivet_17 rfl ?_
      refine lv_lconst (v := 0) hx hb dX12_isRivet_18 (by decide) ?_
      refine lv_lconst (v := 1) hx hb dX12_isRivet_19 (by decide) ?_
      refine eRi (va_runS (As := [.long n3.toInt64, .long 0, .long 1]) (rest := []) ⟨hx, hb, hml, hown, hts⟩ (c_X12_isIn l D cI cB cZ cJ tx n3.toInt64 0 1 H.size) (zS hts k_1602 v_X12_isIn ⟨Nat.le_of_ble_eq_true rfl, Nat.le_of_ble_eq_true rfl⟩) (px0 hK) rfl rfl hl.1 rfl (lv_room (Nat.le_of_ble_eq_true rfl)) dX12_isRivet_20 ⟨Nat.le_of_ble_eq_true rfl, Nat.le_of_ble_eq_true rfl⟩) hP hS hA (fun r_9 H locs wr_9 hP hS => ?_)
      have wr_9 : r_9 = bi ((0 : Int32) ≤ n3 ∧ n3 ≤ 1) := isIn32 (lo := 0) (hi := 1) (by decide) (by decide) wr_9
      subst wr_9
      refine lv_bi_eq (tgt := 30) hx hb dX12_isRivet_23 (by decide) (fun c_10 => ?_) (fun c_10 => ?_)
      · refine lv_iconst (v := 0) hx hb dX12_isRivet_30 (by decide) ?_
        rw [hQ]
        exact W.zret (v := 0) hx hb hr (by decide) (fun tt9 ht hW => ⟨⟨(0 : Int32), (), rfl, (lf_X12_isRivet_f_11 h q im ms mk (nI tn1) (nI tn2) n3 hf_ms hf_mk hms hmk hm3 c_2 tn1 tn1a rfl c_6 tn2 tn2a rfl c_10), trivial⟩, hS.F ht⟩) hS.2.2 dX12_isRivet_31 hlocks
      · obtain ⟨tn3, tn3a, tn3b, tn3e⟩ := of_rng 0 1 rfl rfl c_10
        subst tn3e
        refine lv_iconst (v := 1) hx hb dX12_isRivet_26 (by decide) ?_
        refine lv_goto (tgt := 31) hx hb dX12_isRivet_27 (by decide) ?_
        rw [hQ]
        exact W.zret (v := 1) hx hb hr (by decide) (fun tt9 ht hW => ⟨⟨(1 : Int32), (), rfl, (lf_X12_isRivet_f_12 h q im ms mk (nI tn1) (nI tn2) (nI tn3) hf_ms hf_mk hms hmk hm3 c_2 tn1 tn1a rfl c_6 tn2 tn2a rfl c_10 tn3 tn3a tn3b rfl), trivial⟩, hS.F ht⟩) hS.2.2 dX12_isRivet_31 hlocks

abbrev mkA (n : Nat) : Int32 := (1 <<< (nI n &&& 31)) - 1
theorem tb_hi (k i : Nat) (hk : k ≤ 32) : (2 ^ 32 - 2 ^ k).testBit i = (decide (i < 32) && !decide (i < k)) := by
  have hp : 0 < 2 ^ k := Nat.two_pow_pos k
  have hle : 2 ^ k ≤ 2 ^ 32 := Nat.pow_le_pow_right (by decide) hk
  have e : 2 ^ 32 - 2 ^ k = 2 ^ 32 - ((2 ^ k - 1) + 1) := by omega
  rw [e, Nat.testBit_two_pow_sub_succ (by omega), Nat.testBit_two_pow_sub_one]
theorem cutN (a k : Nat) (ha : a < 2 ^ 32) (hk : k ≤ 32) : a &&& (2 ^ 32 - 2 ^ k) = 0 ↔ a < 2 ^ k := by
  constructor
  · intro h
    apply Nat.lt_pow_two_of_testBit
    intro i hi
    by_cases h32 : i < 32
    · have q := congrArg (fun z => Nat.testBit z i) h
      simp only [Nat.testBit_and, tb_hi k i hk, Nat.zero_testBit] at q
      have d1 : decide (i < 32) = true := decide_eq_true h32
      have d2 : decide (i < k) = false := decide_eq_false (by omega)
      rw [d1, d2] at q
      simpa using q
    · exact Nat.testBit_lt_two_pow (Nat.lt_of_lt_of_le ha (Nat.pow_le_pow_right (by decide) (by omega)))
  · intro h
    apply Nat.eq_of_testBit_eq
    intro i
    rw [Nat.testBit_and, tb_hi k i hk, Nat.zero_testBit]
    by_cases hi : i < k
    · have d2 : decide (i < k) = true := decide_eq_true hi
      rw [d2]
      simp
    · have d : a.testBit i = false := Nat.testBit_lt_two_pow (Nat.lt_of_lt_of_le h (Nat.pow_le_pow_right (by decide) (by omega)))
      rw [d]
      rfl
theorem mkA_v : ∀ k : Nat, k ≤ 24 → ((mkA k ^^^ (-1)).toBitVec.toNat = 2 ^ 32 - 2 ^ k ∧ (mkA k).toInt = (2 ^ k - 1 : Nat)) := by
  intro k hk
  rcases (show k = 0 ∨ k = 1 ∨ k = 2 ∨ k = 3 ∨ k = 4 ∨ k = 5 ∨ k = 6 ∨ k = 7 ∨ k = 8 ∨ k = 9 ∨ k = 10 ∨ k = 11 ∨ k = 12 ∨ k = 13 ∨ k = 14 ∨ k = 15 ∨ k = 16 ∨ k = 17 ∨ k = 18 ∨ k = 19 ∨ k = 20 ∨ k = 21 ∨ k = 22 ∨ k = 23 ∨ k = 24 by omega) with rfl | rfl | rfl | rfl | rfl | rfl | rfl | rfl | rfl | rfl | rfl | rfl | rfl | rfl | rfl | rfl | rfl | rfl | rfl | rfl | rfl | rfl | rfl | rfl | rfl <;> exact ⟨by decide +kernel, by decide +kernel⟩
theorem cut_iff {n : Int32} {k : Nat} (hk : k ≤ 24) : n &&& (mkA k ^^^ (-1)) = 0 ↔ ((0 : Int32) ≤ n ∧ n ≤ mkA k) := by
  obtain ⟨e1, e2⟩ := mkA_v k hk
  have hlt : n.toBitVec.toNat < 2 ^ 32 := n.toBitVec.isLt
  have hpk : 2 ^ k ≤ 2 ^ 24 := Nat.pow_le_pow_right (by decide) hk
  have hp0 : 0 < 2 ^ k := Nat.two_pow_pos k
  have h1 : n &&& (mkA k ^^^ (-1)) = 0 ↔ n.toBitVec.toNat < 2 ^ k := by
    rw [← cutN _ k hlt (by omega), ← e1]
    constructor
    · intro h
      have q := congrArg (fun z : Int32 => z.toBitVec.toNat) h
      simpa using q
    · intro h
      apply Int32.toBitVec_inj.mp
      apply BitVec.eq_of_toNat_eq
      simpa using h
  rw [h1, Int32.le_iff_toInt_le, Int32.le_iff_toInt_le, e2]
  have e0 : (0 : Int32).toInt = 0 := by decide
  rw [e0]
  have et : n.toInt = if 2 * n.toBitVec.toNat < 2 ^ 32 then (n.toBitVec.toNat : Int) else (n.toBitVec.toNat : Int) - (2 ^ 32 : Nat) := by
    show n.toBitVec.toInt = _
    exact BitVec.toInt_eq_toNat_cond _
  rw [et]
  generalize hz : n.toBitVec.toNat = z at *
  generalize hw : 2 ^ k = w at *
  split <;> omega
abbrev COK (n : Int32) (s : Nat) : Prop := (0 : Int32) ≤ n ∧ n ≤ mkA s
def cuF (n : Int32) (s : Nat) (c : Int32) : Int32 := if COK n s then n else c
theorem cu_y {n x y : Int32} {s : Nat} (hs : s ≤ 24) (ex : x = mkA s ^^^ (-1)) (ey : y = n &&& x) (c : y = 0) : COK n s := (cut_iff hs).mp (by rw [← ex, ← ey]; exact c)
theorem cu_n {n x y : Int32} {s : Nat} (hs : s ≤ 24) (ex : x = mkA s ^^^ (-1)) (ey : y = n &&& x) (c : ¬ y = 0) : ¬ COK n s := fun w => c (by rw [ey, ex]; exact (cut_iff hs).mpr w)
theorem cuF_y {n c r : Int32} {s : Nat} (h : COK n s) (e : r = n) : r = cuF n s c := by
  unfold cuF
  rw [if_pos h]
  exact e
theorem cuF_n {n c : Int32} {s : Nat} (h : ¬ COK n s) : c = cuF n s c := by
  unfold cuF
  rw [if_neg h]
theorem lf_X4_allStations_f_3 (a : Nat → Nat) (sn : Nat) (sk : Nat) (scu : Int32) (sch : Int32) (x_1 : Int32) (ex_1 : x_1 = 1 <<< (nI sn &&& 31)) (x_2 : Int32) (ex_2 : x_2 = x_1 - 1) : (x_2 : Int32) = mkA sn := by
  subst_vars
  rfl
set_option maxHeartbeats 4000000 in
set_option maxRecDepth 100000 in
theorem c_X4_allStations_f (l : Launch) (D : va_G) (cI cB cZ cJ : ClassId) (tx : List (ClassId × FieldType)) (a : Nat → Nat) (sn : Nat) (sk : Nat) (scu : Int32) (sch : Int32) : RdI l D cI cB cZ cJ tx yX4_allStations cX4_allStations 1 (some .int) 0 [.ref (a 5)] [(a 5, .inr (4, [.ref (a 18), .ref (a 19), .ref (a 20), .ref (a 21), .ref (a 22), .ref (a 23), .ref (a 24), .int (nI sn), .int (nI sk), .int scu, .int sch]))] (fun r => r = mkA sn) := by
  refine rdi_of2 (by decide) (Nat.le_of_ble_eq_true rfl) ?_
  intro p e s m below meth c A ls H locs hC hK hP hD hA hS hl
  obtain ⟨hx, hb, hr, hml, hown, hts, hlocks, hin⟩ := hC
  have hown : s.vm.findClass RX4 = some m.cls := hown
  have hl : lv_has ls 1 [(0, .ref (a 5))] := hl
  refine W_gQ (fun Q hQ => ?_)
  refine lv_iconst (v := 1) hx hb dX4_allStations_0 (by decide) ?_
  refine lv_aload_n hx hb dX4_allStations_1 rfl (lv_at hl 0 rfl) ?_
  refine va_get (D := D) (ci := 4) (v := .int (nI sn)) (C := RX4) (T := TX4) (N := 11) hx hb hts inT_X4 hown hK.1 hP 0 rfl rfl 7 (by decide) (hts _ k_248) (fun _ h9 => h9) rfl dX4_allStations_2 ?_
  refine lv_ishl hx hb dX4_allStations_5 ?_
  refine lv_topi (fun x_1 ex_1 => ?_)
  refine lv_iconst (v := 1) hx hb dX4_allStations_6 (by decide) ?_
  refine lv_isub hx hb dX4_allStations_7 ?_
  refine lv_topi (fun x_2 ex_2 => ?_)
  rw [hQ]
  exact W.iret (v := x_2) hx hb hr (fun tt9 ht hW => ⟨⟨(x_2 : Int32), (), rfl, (lf_X4_allStations_f_3 a sn sk scu sch x_1 ex_1 x_2 ex_2), trivial⟩, hS.F ht⟩) hS.2.2 dX4_allStations_8 hlocks

abbrev CT (c : Int32) (f : Nat) : Prop := ¬ (c >>> (nI f &&& 31)) &&& 1 = 0
def TV (c : Int32) (g : Nat → Int32) (f d : Nat) : Int32 := if CT c f then -1 else g (f * 2 + d)
theorem TV_y {c : Int32} {g : Nat → Int32} {f d : Nat} (h : CT c f) : -1 = TV c g f d := by
  unfold TV
  rw [if_pos h]
theorem TV_n {c : Int32} {g : Nat → Int32} {f d : Nat} (h : ¬ CT c f) : g (f * 2 + d) = TV c g f d := by
  unfold TV
  rw [if_neg h]
theorem TV_n' {c : Int32} {g : Nat → Int32} {f d : Nat} (h : ¬ CT c f) : g (2 * f + d) = TV c g f d := by
  rw [Nat.mul_comm]
  exact TV_n h
def thF (V : Nat → Nat → Int32) (m : Int32) : Nat → Int32
  | 0 => 0
  | k + 1 => thF V m k + (if V k 0 < m then 0 else 1) + (if V k 1 < m then 0 else 1)
def ttF (V : Nat → Nat → Int32) (m : Int32) : Nat → Int32
  | 0 => 0
  | k + 1 => ttF V m k + ((if V k 0 = m then 1 else 0) + (if V k 1 = m then 1 else 0))
def pwF (V : Nat → Nat → Int32) (a b : Int32) : Nat → Int32
  | 0 => 0
  | k + 1 => pwF V a b k + (if V k 0 = a ∨ V k 0 = b ∨ V k 1 = a ∨ V k 1 = b then 0 else 1)
def leF (V : Nat → Nat → Int32) : Nat → Int32
  | 0 => 0
  | k + 1 => leF V k + (if V k 0 = 1 ∧ V k 1 = 1 then 1 else 0)
def moF (V : Nat → Nat → Int32) : Nat → Int32
  | 0 => 0
  | k + 1 => moF V k + (if ¬ V k 0 = 0 ∧ ¬ V k 1 = 0 then 1 else 0)
def al_v (g : Nat → Int32) (v : Int32) (n : Nat) : Prop := ∀ i, i < n → g i = v
theorem av_0 {g : Nat → Int32} {v : Int32} : al_v g v 0 := fun i h => absurd h (by omega)
theorem av_s {f g : Nat → Int32} {v : Int32} {j : Nat} (h : al_v g v j) (e : f = upd g j v) : al_v f v (j + 1) := by
  intro i hi
  rw [e]
  show (if i = j then v else g i) = v
  split
  · rfl
  · exact h i (by omega)
theorem av_e {g : Nat → Int32} {v : Int32} {j n : Nat} (h : al_v g v j) (hn : n ≤ j) : al_v g v n := fun i hi => h i (by omega)
def bC (n k c : Int32) : Int32 := if BOK n k then 0 else c
theorem bC_y {n k c r : Int32} (h1 : (3 : Int32) ≤ n ∧ n ≤ 24) (h2 : (1 : Int32) ≤ k ∧ k ≤ 8) (e : r = 0) : r = bC n k c := by
  unfold bC
  rw [if_pos ⟨h1, h2⟩]
  exact e
theorem bC_1 {n k c : Int32} (h : ¬ ((3 : Int32) ≤ n ∧ n ≤ 24)) : c = bC n k c := by
  unfold bC
  rw [if_neg (fun w => h w.1)]
theorem bC_2 {n k c : Int32} (h : ¬ ((1 : Int32) ≤ k ∧ k ≤ 8)) : c = bC n k c := by
  unfold bC
  rw [if_neg (fun w => h w.2)]
def OTB (n k : Int32) (f g : Nat → Int32) : Prop := if BOK n k then al_v g (-1) 48 else g = f
theorem OTB_y {n k : Int32} {f g : Nat → Int32} (h1 : (3 : Int32) ≤ n ∧ n ≤ 24) (h2 : (1 : Int32) ≤ k ∧ k ≤ 8) (h : al_v g (-1) 48) : OTB n k f g := by
  unfold OTB
  rw [if_pos ⟨h1, h2⟩]
  exact h
theorem OTB_1 {n k : Int32} {f : Nat → Int32} (h : ¬ ((3 : Int32) ≤ n ∧ n ≤ 24)) : OTB n k f f := by
  unfold OTB
  rw [if_neg (fun w => h w.1)]
theorem OTB_2 {n k : Int32} {f : Nat → Int32} (h : ¬ ((1 : Int32) ≤ k ∧ k ≤ 8)) : OTB n k f f := by
  unfold OTB
  rw [if_neg (fun w => h w.2)]
abbrev tg3 (x : Int32) : Prop := x = -1 ∨ x = 0 ∨ x = 1
def OTR (s : Nat) (f g : Nat → Int32) : Prop := s = 0 ∨ ∀ i, i < 48 → f i = g i ∧ tg3 (f i)
theorem OTR_b {n k : Int32} {s s' : Nat} {f f' g g' : Nat → Int32} (es : s' = bN n k s) (h1 : OTB n k f f') (h2 : OTB n k g g') (h : OTR s f g) : OTR s' f' g' := by
  unfold OTB at h1 h2
  unfold bN at es
  by_cases c : BOK n k
  · rw [if_pos c] at h1 h2
    right
    intro i hi
    exact ⟨(h1 i hi).trans (h2 i hi).symm, Or.inl (h1 i hi)⟩
  · rw [if_neg c] at h1 h2 es
    subst h1 h2 es
    exact h
abbrev TOK (n d v : Int32) (s : Nat) : Prop := ((0 : Int32) ≤ n ∧ n ≤ nI s - 1) ∧ ((0 : Int32) ≤ d ∧ d ≤ 1) ∧ (((-1) : Int32) ≤ v ∧ v ≤ 1)
def thoF (n d v : Int32) (s : Nat) (f : Nat → Int32) : Nat → Int32 := if TOK n d v s then upd f (n.toNatClampNeg * 2 + d.toNatClampNeg) v else f
theorem thoF_y {n d v : Int32} {s t u : Nat} {f r : Nat → Int32} (h1 : (0 : Int32) ≤ n ∧ n ≤ nI s - 1) (h2 : (0 : Int32) ≤ d ∧ d ≤ 1) (h3 : ((-1) : Int32) ≤ v ∧ v ≤ 1) (e1 : n = nI t) (e2 : d = nI u) (ht : t < s) (hs : s ≤ 24) (hu : u ≤ 1) (e : r = upd f (t * 2 + u) v) : r = thoF n d v s f := by
  have c1 : n.toNatClampNeg = t := by rw [e1, nI_clamp (by omega)]
  have c2 : d.toNatClampNeg = u := by rw [e2, nI_clamp (by omega)]
  unfold thoF
  rw [if_pos ⟨h1, h2, h3⟩, c1, c2, e]
theorem thoF_z {n d v : Int32} {s t u : Nat} {f r : Nat → Int32} (h1 : (0 : Int32) ≤ n ∧ n ≤ nI s - 1) (h2 : (0 : Int32) ≤ d ∧ d ≤ 1) (h3 : ((-1) : Int32) ≤ v ∧ v ≤ 1) (e1 : n = nI t) (e2 : d = nI u) (ht : t < s) (hs : s ≤ 24) (hu : u ≤ 1) (e : r = upd f (2 * t + u) v) : r = thoF n d v s f := thoF_y h1 h2 h3 e1 e2 ht hs hu (by rw [Nat.mul_comm]; exact e)
theorem thoF_n {n d v : Int32} {s : Nat} {f : Nat → Int32} (h : ¬ TOK n d v s) : f = thoF n d v s f := by
  unfold thoF
  rw [if_neg h]
theorem tg3_of {b : Int32} (h : ((-1) : Int32) ≤ b ∧ b ≤ 1) : tg3 b := by
  have h1 := Int32.le_iff_toInt_le.mp h.1
  have h2 := Int32.le_iff_toInt_le.mp h.2
  have e1 : ((-1) : Int32).toInt = -1 := by decide
  have e2 : (1 : Int32).toInt = 1 := by decide
  rw [e1] at h1
  rw [e2] at h2
  have e : b.toInt = -1 ∨ b.toInt = 0 ∨ b.toInt = 1 := by omega
  rcases e with e | e | e
  · exact Or.inl (Int32.toInt_inj.mp (e.trans (by decide)))
  · exact Or.inr (Or.inl (Int32.toInt_inj.mp (e.trans (by decide))))
  · exact Or.inr (Or.inr (Int32.toInt_inj.mp (e.trans (by decide))))
theorem OTR_t {n d v : Int32} {s m : Nat} {f f' g g' : Nat → Int32} (e1 : f' = thoF n d v s f) (e2 : g' = thoF n d v m g) (en : s = m) (h : OTR s f g) : OTR s f' g' := by
  subst en
  rcases h with h | h
  · exact Or.inl h
  · right
    intro i hi
    rw [e1, e2]
    unfold thoF
    split
    · rename_i w
      show (if i = n.toNatClampNeg * 2 + d.toNatClampNeg then v else f i) = (if i = n.toNatClampNeg * 2 + d.toNatClampNeg then v else g i) ∧ tg3 (if i = n.toNatClampNeg * 2 + d.toNatClampNeg then v else f i)
      split
      · exact ⟨rfl, tg3_of w.2.2⟩
      · exact h i hi
    · exact h i hi
/-! the bit of a station, by ints and by longs -/
theorem nI_a31 {f : Nat} (h : f < 32) : nI f &&& 31 = nI f := by
  rw [pk_andN (by omega) (m := 31) 5 (by decide), Nat.mod_eq_of_lt (by omega)]
theorem sm32 : ∀ f : Nat, f < 24 → ((nI f).toBitVec.smod 32).toNat = f := by decide +kernel
theorem sm64 : ∀ f : Nat, f < 24 → (((nI f).toInt64 &&& 63).toBitVec.smod 64).toNat = f := by decide +kernel
theorem lsh (a s : Int64) (k : Nat) (hs : (s.toBitVec.smod 64).toNat = k) : (a >>> s).toInt = a.toInt >>> k := by
  show (a.toBitVec.sshiftRight (s.toBitVec.smod 64).toNat).toInt = _
  rw [hs, BitVec.toInt_sshiftRight]
  rfl
theorem lshN {n : Nat} (h : n < 2 ^ 31) (s : Int64) (k : Nat) (hs : (s.toBitVec.smod 64).toNat = k) : lN n >>> s = lN (n / 2 ^ k) := by
  apply Int64.toInt_inj.mp
  have h2 : n / 2 ^ k ≤ n := Nat.div_le_self _ _
  rw [lsh _ _ k hs, lN_toInt h, lN_toInt (by omega), Int.shiftRight_eq_div_pow]
  rfl
theorem land1 {n : Nat} (h : n < 2 ^ 31) : lN n &&& 1 = lN (n % 2) := by
  apply Int64.toBitVec_inj.mp
  apply BitVec.eq_of_toNat_eq
  have e1 : (lN n).toBitVec.toNat = n := by
    show (BitVec.ofNat 64 n).toNat = n
    rw [BitVec.toNat_ofNat, Nat.mod_eq_of_lt (by omega)]
  have e2 : (lN (n % 2)).toBitVec.toNat = n % 2 := by
    show (BitVec.ofNat 64 (n % 2)).toNat = n % 2
    rw [BitVec.toNat_ofNat, Nat.mod_eq_of_lt (by omega)]
  have e3 : (1 : Int64).toBitVec.toNat = 1 := by decide
  rw [Int64.toBitVec_and, BitVec.toNat_and, e1, e2, e3, Nat.and_one_is_mod]
theorem c_nat {c : Int32} (h : (0 : Int32) ≤ c) : ∃ n : Nat, n < 2 ^ 31 ∧ c = nI n := by
  have h1 := Int32.le_iff_toInt_le.mp h
  have e0 : (0 : Int32).toInt = 0 := by decide
  rw [e0] at h1
  have h2 := Int32.toInt_lt c
  refine ⟨c.toInt.toNat, by omega, ?_⟩
  apply Int32.toInt_inj.mp
  rw [nI_toInt (by omega)]
  omega
theorem has_CT {c : Int32} {f : Nat} (hc : (0 : Int32) ≤ c) (hf : f < 24) : hasF c.toInt64 (nI f) = 1 ↔ CT c f := by
  obtain ⟨n, hn, rfl⟩ := c_nat hc
  have a : (nI n >>> (nI f &&& 31)) &&& 1 = nI (n / 2 ^ f % 2) := by
    have hd : n / 2 ^ f ≤ n := Nat.div_le_self _ _
    rw [nI_a31 (by omega), pk_shrN hn _ f (sm32 f hf), pk_andN (by omega) (m := 1) 1 (by decide)]
  have b : ((nI n).toInt64 >>> ((nI f).toInt64 &&& 63)) &&& 1 = lN (n / 2 ^ f % 2) := by
    have hd : n / 2 ^ f ≤ n := Nat.div_le_self _ _
    rw [nI_l hn, lshN hn _ f (sm64 f hf), land1 (by omega)]
  have l1 : (1 : Int64) = lN 1 := by decide
  have z0 : (0 : Int32) = nI 0 := by decide
  have hm : n / 2 ^ f % 2 = 0 ∨ n / 2 ^ f % 2 = 1 := by omega
  show (if lg_cmp (((nI n).toInt64 >>> ((nI f).toInt64 &&& 63)) &&& 1) 1 = 0 then (1 : Int32) else 0) = 1 ↔ ¬ (nI n >>> (nI f &&& 31)) &&& 1 = 0
  rw [a, b]
  rcases hm with e | e
  · rw [e]
    decide
  · rw [e]
    decide
theorem TV_r {c : Int32} {g : Nat → Int32} {f d : Nat} (hc : (0 : Int32) ≤ c) (hf : f < 24) (h : hasF c.toInt64 (nI f) = 1) : -1 = TV c g f d := TV_y ((has_CT hc hf).mp h)
theorem TV_s {c : Int32} {g : Nat → Int32} {f d : Nat} (hc : (0 : Int32) ≤ c) (hf : f < 24) (h : ¬ hasF c.toInt64 (nI f) = 1) : g (2 * f + d) = TV c g f d := TV_n' (fun w => h ((has_CT hc hf).mpr w))
theorem hasF_01 (v : Int64) (n : Int32) : hasF v n = 0 ∨ hasF v n = 1 := by
  unfold hasF
  split
  · exact Or.inr rfl
  · exact Or.inl rfl
theorem thF_s {V : Nat → Nat → Int32} {m w x y a b : Int32} {k : Nat} (hw : w = thF V m k) (ha : a = if V k 0 < m then 0 else 1) (hb : b = if V k 1 < m then 0 else 1) (ex : x = w + a) (ey : y = x + b) : y = thF V m (k + 1) := by
  show y = thF V m k + (if V k 0 < m then 0 else 1) + (if V k 1 < m then 0 else 1)
  rw [ey, ex, hw, ha, hb]
theorem ttF_s {V : Nat → Nat → Int32} {m w x y a b : Int32} {k : Nat} (hw : w = ttF V m k) (ha : a = if V k 0 = m then 1 else 0) (hb : b = if V k 1 = m then 1 else 0) (ex : x = a + b) (ey : y = w + x) : y = ttF V m (k + 1) := by
  show y = ttF V m k + ((if V k 0 = m then 1 else 0) + (if V k 1 = m then 1 else 0))
  rw [ey, ex, hw, ha, hb]
theorem pwF_y {V : Nat → Nat → Int32} {p q w x : Int32} {k : Nat} (hw : w = pwF V p q k) (h : V k 0 = p ∨ V k 0 = q ∨ V k 1 = p ∨ V k 1 = q) (ex : x = w + 0) : x = pwF V p q (k + 1) := by
  show x = pwF V p q k + (if V k 0 = p ∨ V k 0 = q ∨ V k 1 = p ∨ V k 1 = q then 0 else 1)
  rw [if_pos h, ex, hw]
theorem pwF_n {V : Nat → Nat → Int32} {p q w x : Int32} {k : Nat} (hw : w = pwF V p q k) (h1 : ¬ V k 0 = p) (h2 : ¬ V k 0 = q) (h3 : ¬ V k 1 = p) (h4 : ¬ V k 1 = q) (ex : x = w + 1) : x = pwF V p q (k + 1) := by
  show x = pwF V p q k + (if V k 0 = p ∨ V k 0 = q ∨ V k 1 = p ∨ V k 1 = q then 0 else 1)
  rw [if_neg (fun w => w.elim h1 (fun w => w.elim h2 (fun w => w.elim h3 h4))), ex, hw]
theorem leF_y {V : Nat → Nat → Int32} {w x : Int32} {k : Nat} (hw : w = leF V k) (h1 : V k 0 = 1) (h2 : V k 1 = 1) (ex : x = w + 1) : x = leF V (k + 1) := by
  show x = leF V k + (if V k 0 = 1 ∧ V k 1 = 1 then 1 else 0)
  rw [if_pos ⟨h1, h2⟩, ex, hw]
theorem leF_n {V : Nat → Nat → Int32} {w x : Int32} {k : Nat} (hw : w = leF V k) (h : ¬ (V k 0 = 1 ∧ V k 1 = 1)) (ex : x = w + 0) : x = leF V (k + 1) := by
  show x = leF V k + (if V k 0 = 1 ∧ V k 1 = 1 then 1 else 0)
  rw [if_neg h, ex, hw]
theorem moF_y {V : Nat → Nat → Int32} {w x : Int32} {k : Nat} (hw : w = moF V k) (h1 : ¬ V k 0 = 0) (h2 : ¬ V k 1 = 0) (ex : x = w + 1) : x = moF V (k + 1) := by
  show x = moF V k + (if ¬ V k 0 = 0 ∧ ¬ V k 1 = 0 then 1 else 0)
  rw [if_pos ⟨h1, h2⟩, ex, hw]
theorem moF_n {V : Nat → Nat → Int32} {w x : Int32} {k : Nat} (hw : w = moF V k) (h : ¬ (¬ V k 0 = 0 ∧ ¬ V k 1 = 0)) (ex : x = w + 0) : x = moF V (k + 1) := by
  show x = moF V k + (if ¬ V k 0 = 0 ∧ ¬ V k 1 = 0 then 1 else 0)
  rw [if_neg h, ex, hw]
abbrev SV (V : Nat → Nat → Int32) (n : Nat) : Prop := ∀ k d, k < n → d < 2 → tg3 (V k d)
theorem k_1' : ∀ a b : Int32, tg3 a → tg3 b → (if a < 1 then (0 : Int32) else 1) + (if b < 1 then 0 else 1) = (if a = 1 then 1 else 0) + (if b = 1 then 1 else 0) := by
  intro a b ha hb
  rcases ha with rfl | rfl | rfl <;> rcases hb with rfl | rfl | rfl <;> decide
theorem k_0' : ∀ a b : Int32, tg3 a → tg3 b → (if a < 0 then (0 : Int32) else 1) + (if b < 0 then 0 else 1) = ((if a = 0 then 1 else 0) + (if b = 0 then 1 else 0)) + ((if a = 1 then 1 else 0) + (if b = 1 then 1 else 0)) := by
  intro a b ha hb
  rcases ha with rfl | rfl | rfl <;> rcases hb with rfl | rfl | rfl <;> decide
theorem k_le : ∀ a b : Int32, tg3 a → tg3 b → (if a = 0 ∨ a = -1 ∨ b = 0 ∨ b = -1 then (0 : Int32) else 1) = (if a = 1 ∧ b = 1 then 1 else 0) := by
  intro a b ha hb
  rcases ha with rfl | rfl | rfl <;> rcases hb with rfl | rfl | rfl <;> decide
theorem k_mo : ∀ a b : Int32, tg3 a → tg3 b → (if a = 0 ∨ a = 0 ∨ b = 0 ∨ b = 0 then (0 : Int32) else 1) = (if ¬ a = 0 ∧ ¬ b = 0 then 1 else 0) := by
  intro a b ha hb
  rcases ha with rfl | rfl | rfl <;> rcases hb with rfl | rfl | rfl <;> decide
theorem th1 {V : Nat → Nat → Int32} (n : Nat) (h : SV V n) : thF V 1 n = ttF V 1 n := by
  induction n with
  | zero => rfl
  | succ n ih =>
    show thF V 1 n + (if V n 0 < 1 then 0 else 1) + (if V n 1 < 1 then 0 else 1) = ttF V 1 n + ((if V n 0 = 1 then 1 else 0) + (if V n 1 = 1 then 1 else 0))
    rw [ih (fun k d hk hd => h k d (by omega) hd), Int32.add_assoc, k_1' _ _ (h n 0 (by omega) (by omega)) (h n 1 (by omega) (by omega))]
theorem th0 {V : Nat → Nat → Int32} (n : Nat) (h : SV V n) : thF V 0 n = ttF V 0 n + ttF V 1 n := by
  induction n with
  | zero => rfl
  | succ n ih =>
    show thF V 0 n + (if V n 0 < 0 then 0 else 1) + (if V n 1 < 0 then 0 else 1) = (ttF V 0 n + ((if V n 0 = 0 then 1 else 0) + (if V n 1 = 0 then 1 else 0))) + (ttF V 1 n + ((if V n 0 = 1 then 1 else 0) + (if V n 1 = 1 then 1 else 0)))
    rw [ih (fun k d hk hd => h k d (by omega) hd), Int32.add_assoc, k_0' _ _ (h n 0 (by omega) (by omega)) (h n 1 (by omega) (by omega))]
    ac_rfl
theorem pw_le {V : Nat → Nat → Int32} (n : Nat) (h : SV V n) : pwF V 0 (-1) n = leF V n := by
  induction n with
  | zero => rfl
  | succ n ih =>
    show pwF V 0 (-1) n + (if V n 0 = 0 ∨ V n 0 = -1 ∨ V n 1 = 0 ∨ V n 1 = -1 then 0 else 1) = leF V n + (if V n 0 = 1 ∧ V n 1 = 1 then 1 else 0)
    rw [ih (fun k d hk hd => h k d (by omega) hd), k_le _ _ (h n 0 (by omega) (by omega)) (h n 1 (by omega) (by omega))]
theorem pw_mo {V : Nat → Nat → Int32} (n : Nat) (h : SV V n) : pwF V 0 0 n = moF V n := by
  induction n with
  | zero => rfl
  | succ n ih =>
    show pwF V 0 0 n + (if V n 0 = 0 ∨ V n 0 = 0 ∨ V n 1 = 0 ∨ V n 1 = 0 then 0 else 1) = moF V n + (if ¬ V n 0 = 0 ∧ ¬ V n 1 = 0 then 1 else 0)
    rw [ih (fun k d hk hd => h k d (by omega) hd), k_mo _ _ (h n 0 (by omega) (by omega)) (h n 1 (by omega) (by omega))]
abbrev SEv (V U : Nat → Nat → Int32) (n : Nat) : Prop := ∀ k d, k < n → d < 2 → V k d = U k d
theorem tt_e {V U : Nat → Nat → Int32} (m : Int32) (n : Nat) (h : SEv V U n) : ttF V m n = ttF U m n := by
  induction n with
  | zero => rfl
  | succ n ih =>
    show ttF V m n + ((if V n 0 = m then 1 else 0) + (if V n 1 = m then 1 else 0)) = ttF U m n + ((if U n 0 = m then 1 else 0) + (if U n 1 = m then 1 else 0))
    rw [ih (fun k d hk hd => h k d (by omega) hd), h n 0 (by omega) (by omega), h n 1 (by omega) (by omega)]
theorem le_e {V U : Nat → Nat → Int32} (n : Nat) (h : SEv V U n) : leF V n = leF U n := by
  induction n with
  | zero => rfl
  | succ n ih =>
    show leF V n + (if V n 0 = 1 ∧ V n 1 = 1 then 1 else 0) = leF U n + (if U n 0 = 1 ∧ U n 1 = 1 then 1 else 0)
    rw [ih (fun k d hk hd => h k d (by omega) hd), h n 0 (by omega) (by omega), h n 1 (by omega) (by omega)]
theorem mo_e {V U : Nat → Nat → Int32} (n : Nat) (h : SEv V U n) : moF V n = moF U n := by
  induction n with
  | zero => rfl
  | succ n ih =>
    show moF V n + (if ¬ V n 0 = 0 ∧ ¬ V n 1 = 0 then 1 else 0) = moF U n + (if ¬ U n 0 = 0 ∧ ¬ U n 1 = 0 then 1 else 0)
    rw [ih (fun k d hk hd => h k d (by omega) hd), h n 0 (by omega) (by omega), h n 1 (by omega) (by omega)]
theorem TV_g3 {c : Int32} {f g : Nat → Int32} {s : Nat} (hs : s ≤ 24) (h : ∀ i, i < 48 → f i = g i ∧ tg3 (f i)) : SV (TV c f) s := by
  intro k d hk hd
  unfold TV
  split
  · exact Or.inl rfl
  · exact (h _ (by omega)).2
theorem TV_ge {c : Int32} {f g : Nat → Int32} {s : Nat} (hs : s ≤ 24) (h : ∀ i, i < 48 → f i = g i ∧ tg3 (f i)) : SEv (TV c f) (TV c g) s := by
  intro k d hk hd
  unfold TV
  split
  · rfl
  · exact (h _ (by omega)).1
def oaF (V : Nat → Nat → Int32) (s : Nat) (n : Int32) : Int32 := if s = 0 then -1 else if n = 0 then pwF V 0 (-1) s else if n = 1 then pwF V 0 0 s else if n = 2 then thF V 0 s else if n = 3 then thF V 1 s else -1
def orF (V : Nat → Nat → Int32) (s : Nat) (n : Int32) : Int32 := if s = 0 then -1 else if n = 0 then leF V s else if n = 1 then moF V s else if n = 2 then ttF V 0 s + ttF V 1 s else if n = 3 then ttF V 1 s else -1
theorem oa_or {c e n : Int32} {f g : Nat → Int32} {s m : Nat} (hs : s ≤ 24) (en : s = m) (ec : c = e) (h : OTR s f g) : oaF (TV c f) s n = orF (TV e g) m n := by
  subst en ec
  rcases h with h | h
  · unfold oaF orF
    rw [if_pos h, if_pos h]
  · unfold oaF orF
    rw [pw_le s (TV_g3 hs h), pw_mo s (TV_g3 hs h), th0 s (TV_g3 hs h), th1 s (TV_g3 hs h), le_e s (TV_ge hs h), mo_e s (TV_ge hs h), tt_e 0 s (TV_ge hs h), tt_e 1 s (TV_ge hs h)]
theorem oa_0 {V : Nat → Nat → Int32} {s : Nat} {n : Int32} (h : s = 0) : -1 = oaF V s n := by
  unfold oaF
  rw [if_pos h]
theorem oa_v {V : Nat → Nat → Int32} {s : Nat} {n r : Int32} (h : 0 < s) (e : r = if n = 0 then pwF V 0 (-1) s else if n = 1 then pwF V 0 0 s else if n = 2 then thF V 0 s else if n = 3 then thF V 1 s else -1) : r = oaF V s n := by
  unfold oaF
  rw [if_neg (by omega)]
  exact e
theorem or_0 {V : Nat → Nat → Int32} {s : Nat} {n : Int32} (h : s = 0) : -1 = orF V s n := by
  unfold orF
  rw [if_pos h]
theorem or_n {V : Nat → Nat → Int32} {s : Nat} {n : Int32} (h : ¬ ((0 : Int32) ≤ n ∧ n ≤ 3)) : -1 = orF V s n := by
  have h0 : ¬ n = 0 := fun e => h (by rw [e]; decide)
  have h1 : ¬ n = 1 := fun e => h (by rw [e]; decide)
  have h2 : ¬ n = 2 := fun e => h (by rw [e]; decide)
  have h3 : ¬ n = 3 := fun e => h (by rw [e]; decide)
  unfold orF
  rw [if_neg h0, if_neg h1, if_neg h2, if_neg h3]
  split <;> rfl
theorem or_v {V : Nat → Nat → Int32} {s : Nat} {n r : Int32} (h : ¬ s = 0) (e : r = if n = 0 then leF V s else if n = 1 then moF V s else if n = 2 then ttF V 0 s + ttF V 1 s else if n = 3 then ttF V 1 s else -1) : r = orF V s n := by
  unfold orF
  rw [if_neg h]
  exact e
theorem bC_0 {n k c r : Int32} (e : r = bC n k c) (h : (0 : Int32) ≤ c) : (0 : Int32) ≤ r := by
  rw [e]
  unfold bC
  split
  · decide
  · exact h
theorem cuF_0 {n c r : Int32} {s : Nat} (e : r = cuF n s c) (h : (0 : Int32) ≤ c) : (0 : Int32) ≤ r := by
  rw [e]
  unfold cuF
  split
  · rename_i w
    exact w.1
  · exact h
theorem ct_n {c x y : Int32} {f : Nat} (e : x = c >>> (nI f &&& 31)) (e2 : y = x &&& 1) (h : y = 0) : ¬ CT c f := by
  subst e e2
  exact fun w => w h
theorem ct_y {c x y : Int32} {f : Nat} (e : x = c >>> (nI f &&& 31)) (e2 : y = x &&& 1) (h : ¬ y = 0) : CT c f := by
  subst e e2
  exact h
theorem TV_s0 {c : Int32} {g : Nat → Int32} {f d : Nat} (hc : (0 : Int32) ≤ c) (hf : f < 24) (h : hasF c.toInt64 (nI f) = 0) : g (2 * f + d) = TV c g f d := TV_s hc hf (fun w => by
  rw [h] at w
  exact absurd w (by decide))
theorem ttF_t {V : Nat → Nat → Int32} {m w x y a b : Int32} {k : Nat} (hw : w = ttF V m k) (ha : a = if V k 0 = m then 1 else 0) (hb : b = if V k 1 = m then 1 else 0) (ey : y = w + x) (ex : x = a + b) : y = ttF V m (k + 1) := ttF_s hw ha hb ex ey
theorem atn {α : Type} {F : Nat → α} {j n : Nat} {w : α} (h1 : j ≤ n) (h2 : n ≤ j) (hw : w = F j) : w = F n := by
  have e : j = n := by omega
  subst e
  exact hw
theorem lf_J7_fill_f_3 (b1 : Nat) (N : Nat) (f : Nat → Int32) (n1 : Int32) (hN : N < 2 ^ 31) (j : Nat) (y5_b1 : Nat → Int32) (k5 : Nat) (hj5 : j ≤ N) (hk5 : N < j + (k5 + 1)) (hal : al_v y5_b1 n1 j) (c_1 : nI N ≤ nI j) : N ≤ j := by
  exact (nI_leI (a := N) (b := j) (by omega) (by omega)).mp c_1
theorem lf_J7_fill_f_4 (b1 : Nat) (N : Nat) (f : Nat → Int32) (n1 : Int32) (hN : N < 2 ^ 31) (j : Nat) (y5_b1 : Nat → Int32) (k5 : Nat) (hj5 : j ≤ N) (hk5 : N < j + (k5 + 1)) (hal : al_v y5_b1 n1 j) (c_1 : nI N ≤ nI j) (n_2 : N ≤ j) : al_v y5_b1 n1 N := by
  exact av_e (by assumption) (by assumption)
theorem lf_J7_fill_f_6 (b1 : Nat) (N : Nat) (f : Nat → Int32) (n1 : Int32) (hN : N < 2 ^ 31) (j : Nat) (y5_b1 : Nat → Int32) (k5 : Nat) (hj5 : j ≤ N) (hk5 : N < j + (k5 + 1)) (hal : al_v y5_b1 n1 j) (c_1 : ¬ nI N ≤ nI j) : j < N := by
  exact Nat.lt_of_not_le (fun q => c_1 ((nI_leI (a := N) (b := j) (by omega) (by omega)).mpr q))
theorem lf_J7_fill_f_8 (b1 : Nat) (N : Nat) (f : Nat → Int32) (n1 : Int32) (hN : N < 2 ^ 31) (j : Nat) (y5_b1 : Nat → Int32) (k5 : Nat) (hj5 : j ≤ N) (hk5 : N < j + (k5 + 1)) (hal : al_v y5_b1 n1 j) (c_1 : ¬ nI N ≤ nI j) (n_5 : j < N) : j < N := by
  omega
theorem lf_J7_fill_f_9 (b1 : Nat) (N : Nat) (f : Nat → Int32) (n1 : Int32) (hN : N < 2 ^ 31) (j : Nat) (y5_b1 : Nat → Int32) (k5 : Nat) (hj5 : j ≤ N) (hk5 : N < j + (k5 + 1)) (hal : al_v y5_b1 n1 j) (c_1 : ¬ nI N ≤ nI j) (n_5 : j < N) (f_7 : Nat → Int32) (ef_7 : f_7 = upd y5_b1 j n1) : al_v f_7 n1 (j + 1) := by
  first | exact av_s (by assumption) (by assumption) | exact av_0
theorem lf_J7_fill_f_10 (b1 : Nat) (N : Nat) (f : Nat → Int32) (n1 : Int32) (hN : N < 2 ^ 31) : al_v f n1 0 := by
  first | exact av_s (by assumption) (by assumption) | exact av_0
set_option maxHeartbeats 4000000 in
set_option maxRecDepth 100000 in
theorem c_J7_fill_f (l : Launch) (D : va_G) (cI cB cZ cJ : ClassId) (tx : List (ClassId × FieldType)) (b1 : Nat) (N : Nat) (f : Nat → Int32) (n1 : Int32) (hN : N < 2 ^ 31) : WrV l D cI cB cZ cJ tx yJ7_fill_53178 cJ7_fill_53178 4 none 0 0 0 [.ref b1, .int n1] [(b1, .inl (cI, N, .inl f))] (fun (g : Nat → Int32) => al_v g n1 N) (fun g => [(b1, .inl (cI, N, .inl g))]) := by
  refine wrv_of2 (by decide) (Nat.le_of_ble_eq_true rfl) ?_
  intro p e s m below meth c A ls H locs hC hK hP hD hA hS hl
  obtain ⟨hx, hb, hr, hml, hown, hts, hlocks, hin⟩ := hC
  have hown : s.vm.findClass RJ7 = some m.cls := hown
  have hl : lv_has ls 4 [(0, .ref b1), (1, .int n1)] := hl
  refine W_gQ (fun Q hQ => ?_)
  refine lv_iconst (v := 0) hx hb dJ7_fill_53178_0 (by decide) ?_
  refine lv_istore_n (lv' := [(2, .int 0), (0, .ref b1), (1, .int n1)]) hx hb dJ7_fill_53178_1 rfl hl (by decide) rfl (fun ls hl => ?_)
  refine lv_aload_n hx hb dJ7_fill_53178_2 rfl (lv_at hl 1 rfl) ?_
  refine ln_x (v := nI N) hx hb hK hP 0 0 rfl rfl rfl dJ7_fill_53178_3 ?_
  refine lv_istore_n (lv' := [(3, .int (nI N)), (2, .int 0), (0, .ref b1), (1, .int n1)]) hx hb dJ7_fill_53178_4 rfl hl (by decide) rfl (fun ls hl => ?_)
  have lp5 : ∀ (k5 : Nat) (j : Nat) (y5_b1 : Nat → Int32) (H : Heap) (locs : List Loc) (ls : Array Slot), j ≤ N → N < j + k5 → (al_v y5_b1 n1 j) → va_P D vwCl [(b1, .inl (cI, N, .inl y5_b1))] H → va_D A [(b1, .inl (cI, N, .inl y5_b1))] → va_S A s.heap H locs → lv_has ls 4 [(3, .int (nI N)), (2, .int (nI j)), (0, .ref b1), (1, .int n1)] → W p l e (rmX 0 0 0) s m ([.ref b1, .int n1] : List Value).toArray below meth c H locs 0 0 Q (F0 m 5 ls []) := by
    intro k5
    induction k5 with
    | zero =>
      intro j y5_b1 H locs ls hj5 hk5 hal hP hD hS hl
      exact absurd hk5 (by omega)
    | succ k5 ih5 =>
      intro j y5_b1 H locs ls hj5 hk5 hal hP hD hS hl
      refine lv_iload_n hx hb dJ7_fill_53178_5 rfl (lv_at hl 1 rfl) ?_
      refine lv_iload_n hx hb dJ7_fill_53178_6 rfl (lv_at hl 0 rfl) ?_
      refine lv_icmp_ge (tgt := 20) hx hb dJ7_fill_53178_7 (by decide) (fun c_1 => ?_) (fun c_1 => ?_)
      · have n_2 : N ≤ j := (lf_J7_fill_f_3 b1 N f n1 hN j y5_b1 k5 hj5 hk5 hal c_1)
        rw [hQ]
        exact W.vret hx hb hr (fun tt9 ht hW => ⟨⟨y5_b1, rfl, (lf_J7_fill_f_4 b1 N f n1 hN j y5_b1 k5 hj5 hk5 hal c_1 n_2), ⟨by rw [ht]; exact hP, hD⟩⟩, hS.F ht⟩) hS.2.2 dJ7_fill_53178_20 hlocks
      · have n_5 : j < N := (lf_J7_fill_f_6 b1 N f n1 hN j y5_b1 k5 hj5 hk5 hal c_1)
        refine lv_aload_n hx hb dJ7_fill_53178_10 rfl (lv_at hl 2 rfl) ?_
        refine lv_iload_n hx hb dJ7_fill_53178_11 rfl (lv_at hl 1 rfl) ?_
        refine lv_iload_n hx hb dJ7_fill_53178_12 rfl (lv_at hl 3 rfl) ?_
        refine su_i (j := j) hx hb hK hP hD hS 0 rfl (lf_J7_fill_f_8 b1 N f n1 hN j y5_b1 k5 hj5 hk5 hal c_1 n_5) (by first | decide | assumption) dJ7_fill_53178_13 (fun f_7 H locs ef_7 hP hD hS => ?_)
        have hPD := pd_mk (ws := [(b1, .inl (cI, N, .inl f_7))]) hP hD
        have hP := hPD.1
        have hD := hPD.2
        refine lv_iinc (v := nI (j + 1)) (lv' := [(2, .int (nI (j + 1))), (3, .int (nI N)), (0, .ref b1), (1, .int n1)]) hx hb dJ7_fill_53178_14 hl (k := 1) rfl (nI_1 j) (by decide) rfl (fun ls hl => ?_)
        refine lv_goto (tgt := 5) hx hb dJ7_fill_53178_17 (by decide) ?_
        exact ih5 (j + 1) f_7 H locs ls (by omega) (by omega) (lf_J7_fill_f_9 b1 N f n1 hN j y5_b1 k5 hj5 hk5 hal c_1 n_5 f_7 ef_7) (hP.sub [0] rfl) (hD.sub [0] (by decide) rfl) hS (lv_sub hl [1, 0, 2, 3] rfl)
  exact lp5 (N + 1) 0 f H locs ls (by omega) (by omega) (lf_J7_fill_f_10 b1 N f n1 hN) (hP.sub [0] rfl) (hD.sub [0] (by decide) rfl) hS (lv_sub hl [0, 1, 2, 3] rfl)

theorem lf_X10_fall_f_1 (a : Nat → Nat) (ot : Nat → Int32) : 48 < 2 ^ 31 := by
  first | assumption | omega | decide
theorem lf_X10_fall_f_4 (a : Nat → Nat) (ot : Nat → Int32) (u_3 : Nat → Int32) (hal_3 : al_v u_3 (-1) 48) : (al_v (u_3 : Nat → Int32) (-1) 48) := by
  assumption
set_option maxHeartbeats 4000000 in
set_option maxRecDepth 100000 in
theorem c_X10_fall_f (l : Launch) (D : va_G) (cI cB cZ cJ : ClassId) (tx : List (ClassId × FieldType)) (a : Nat → Nat) (ot : Nat → Int32) : WrV l D cI cB cZ cJ tx yX10_fall cX10_fall 1 none 1 0 0 [.ref (a 10)] [(a 10, .inr (10, [.ref (a 5), .ref (a 46)])), (a 46, .inl (cI, 48, .inl ot))] (fun (v : (Nat → Int32)) => (al_v v (-1) 48)) (fun v => [(a 10, .inr (10, [.ref (a 5), .ref (a 46)])), (a 46, .inl (cI, 48, .inl v))]) := by
  refine wrv_of2 (by decide) (Nat.le_of_ble_eq_true rfl) ?_
  intro p e s m below meth c A ls H locs hC hK hP hD hA hS hl
  obtain ⟨hx, hb, hr, hml, hown, hts, hlocks, hin⟩ := hC
  have hown : s.vm.findClass RX10 = some m.cls := hown
  have hl : lv_has ls 1 [(0, .ref (a 10))] := hl
  refine W_gQ (fun Q hQ => ?_)
  refine lv_aload_n hx hb dX10_fall_0 rfl (lv_at hl 0 rfl) ?_
  refine va_get (D := D) (ci := 10) (v := .ref (a 46)) (C := RX10) (T := TX10) (N := 2) hx hb hts inT_X10 hown hK.1 hP 0 rfl rfl 1 (by decide) (hts _ k_429) (fun _ h9 => h9) rfl dX10_fall_1 ?_
  refine lv_iconst (v := (-1)) hx hb dX10_fall_4 (by decide) ?_
  refine eWvP (va_runS (As := [.ref (a 46), .int (-1)]) (rest := []) ⟨hx, hb, hml, hown, hts⟩ (c_J7_fill_f l D cI cB cZ cJ tx (a 46) 48 ot (-1) (lf_X10_fall_f_1 a ot) H.size) (zS hts k_761 v_J7_fill_53178 ⟨Nat.le_of_ble_eq_true rfl, Nat.le_of_ble_eq_true rfl⟩) (pxS hK hP hD [1] (by decide) rfl) rfl rfl hl.1 rfl (lv_room (Nat.le_of_ble_eq_true rfl)) dX10_fall_5 ⟨Nat.le_of_ble_eq_true rfl, Nat.le_of_ble_eq_true rfl⟩) hP hD hS hA [1] [none, some 0] rfl (by decide +kernel) (fun _ => rfl) (fun u_3 H locs wr_2 hP hD hS => ?_)
  have hal_3 : al_v u_3 (-1) 48 := wr_2
  have hPD := pd_mk (ws := [(a 10, .inr (10, [.ref (a 5), .ref (a 46)])), (a 46, .inl (cI, 48, .inl u_3))]) hP hD
  have hP := hPD.1
  have hD := hPD.2
  rw [hQ]
  exact W.vret hx hb hr (fun tt9 ht hW => ⟨⟨((u_3 : Nat → Int32)), rfl, (lf_X10_fall_f_4 a ot u_3 hal_3), ⟨by rw [ht]; exact hP, hD⟩⟩, hS.F ht⟩) hS.2.2 dX10_fall_8 hlocks

theorem lf_X10_tell_f_2 (a : Nat → Nat) (ot : Nat → Int32) (x1 : Nat) (x2 : Nat) (n3 : Int32) (hx1 : x1 < 24) (hx2 : x2 < 2) : ((x1 * 2) + x2) < 48 := by
  omega
theorem lf_X10_tell_f_3 (a : Nat → Nat) (ot : Nat → Int32) (x1 : Nat) (x2 : Nat) (n3 : Int32) (hx1 : x1 < 24) (hx2 : x2 < 2) (f_1 : Nat → Int32) (ef_1 : f_1 = upd ot ((x1 * 2) + x2) n3) : ((f_1 : Nat → Int32) = upd ot (x1 * 2 + x2) n3) := by
  assumption
set_option maxHeartbeats 4000000 in
set_option maxRecDepth 100000 in
theorem c_X10_tell_f (l : Launch) (D : va_G) (cI cB cZ cJ : ClassId) (tx : List (ClassId × FieldType)) (a : Nat → Nat) (ot : Nat → Int32) (x1 : Nat) (x2 : Nat) (n3 : Int32) (hx1 : x1 < 24) (hx2 : x2 < 2) : WrV l D cI cB cZ cJ tx yX10_tell cX10_tell 4 none 0 0 0 [.ref (a 10), .int (nI x1), .int (nI x2), .int n3] [(a 10, .inr (10, [.ref (a 5), .ref (a 46)])), (a 46, .inl (cI, 48, .inl ot))] (fun (v : (Nat → Int32)) => (v = upd ot (x1 * 2 + x2) n3)) (fun v => [(a 10, .inr (10, [.ref (a 5), .ref (a 46)])), (a 46, .inl (cI, 48, .inl v))]) := by
  refine wrv_of2 (by decide) (Nat.le_of_ble_eq_true rfl) ?_
  intro p e s m below meth c A ls H locs hC hK hP hD hA hS hl
  obtain ⟨hx, hb, hr, hml, hown, hts, hlocks, hin⟩ := hC
  have hown : s.vm.findClass RX10 = some m.cls := hown
  have hl : lv_has ls 4 [(0, .ref (a 10)), (1, .int (nI x1)), (2, .int (nI x2)), (3, .int n3)] := hl
  refine W_gQ (fun Q hQ => ?_)
  refine lv_aload_n hx hb dX10_tell_0 rfl (lv_at hl 0 rfl) ?_
  refine va_get (D := D) (ci := 10) (v := .ref (a 46)) (C := RX10) (T := TX10) (N := 2) hx hb hts inT_X10 hown hK.1 hP 0 rfl rfl 1 (by decide) (hts _ k_429) (fun _ h9 => h9) rfl dX10_tell_1 ?_
  refine lv_iload_n hx hb dX10_tell_4 rfl (lv_at hl 1 rfl) ?_
  refine lv_iconst (v := 2) hx hb dX10_tell_5 (by decide) ?_
  refine lv_imul hx hb dX10_tell_6 ?_
  refine lv_topv (y := nI (x1 * 2)) (pk_mul x1 2) ?_
  refine lv_iload_n hx hb dX10_tell_7 rfl (lv_at hl 2 rfl) ?_
  refine lv_iadd hx hb dX10_tell_8 ?_
  refine lv_topv (y := nI ((x1 * 2) + x2)) (nI_add (x1 * 2) x2) ?_
  refine lv_iload_n hx hb dX10_tell_9 rfl (lv_at hl 3 rfl) ?_
  refine su_i (j := ((x1 * 2) + x2)) hx hb hK hP hD hS 1 rfl (lf_X10_tell_f_2 a ot x1 x2 n3 hx1 hx2) (by first | decide | assumption) dX10_tell_10 (fun f_1 H locs ef_1 hP hD hS => ?_)
  have hPD := pd_mk (ws := [(a 10, .inr (10, [.ref (a 5), .ref (a 46)])), (a 46, .inl (cI, 48, .inl f_1))]) hP hD
  have hP := hPD.1
  have hD := hPD.2
  rw [hQ]
  exact W.vret hx hb hr (fun tt9 ht hW => ⟨⟨((f_1 : Nat → Int32)), rfl, (lf_X10_tell_f_3 a ot x1 x2 n3 hx1 hx2 f_1 ef_1), ⟨by rw [ht]; exact hP, hD⟩⟩, hS.F ht⟩) hS.2.2 dX10_tell_11 hlocks

theorem lf_X11_thole_g_3 (a : Nat → Nat) (ap : Int32) (sn : Nat) (sk : Nat) (scu : Int32) (sch : Int32) (ot : Nat → Int32) (n1 : Int32) (n2 : Int32) (n3 : Int32) (hsn : sn ≤ 24) (hsk : sk ≤ 8) (c_2 : ¬ ((0 : Int32) ≤ n1 ∧ n1 ≤ nI sn - 1)) : ((ot : Nat → Int32) = thoF n1 n2 n3 sn ot) := by
  first | exact thoF_y (by assumption) (by assumption) (by assumption) (by assumption) (by assumption) (by assumption) (by assumption) (by omega) (by first | assumption | (rw [tn3e]; assumption)) | exact thoF_z (by assumption) (by assumption) (by assumption) (by assumption) (by assumption) (by assumption) (by assumption) (by omega) (by first | assumption | (rw [tn3e]; assumption)) | exact thoF_n (fun w => absurd w.1 (by assumption)) | exact thoF_n (fun w => absurd w.2.1 (by assumption)) | exact thoF_n (fun w => absurd w.2.2 (by assumption))
theorem lf_X11_thole_g_4 (a : Nat → Nat) (ap : Int32) (sn : Nat) (sk : Nat) (scu : Int32) (sch : Int32) (ot : Nat → Int32) (n1 : Int32) (n2 : Int32) (n3 : Int32) (hsn : sn ≤ 24) (hsk : sk ≤ 8) (c_2 : (0 : Int32) ≤ n1 ∧ n1 ≤ nI sn - 1) : sn < 2 ^ 31 := by
  omega
theorem lf_X11_thole_g_7 (a : Nat → Nat) (ap : Int32) (sn : Nat) (sk : Nat) (scu : Int32) (sch : Int32) (ot : Nat → Int32) (n1 : Int32) (n2 : Int32) (n3 : Int32) (hsn : sn ≤ 24) (hsk : sk ≤ 8) (c_2 : (0 : Int32) ≤ n1 ∧ n1 ≤ nI sn - 1) (tn1 : Nat) (tn1a : tn1 < sn) (tn1e : n1 = nI tn1) (c_6 : ¬ ((0 : Int32) ≤ n2 ∧ n2 ≤ 1)) : ((ot : Nat → Int32) = thoF n1 n2 n3 sn ot) := by
  first | exact thoF_y (by assumption) (by assumption) (by assumption) (by assumption) (by assumption) (by assumption) (by assumption) (by omega) (by first | assumption | (rw [tn3e]; assumption)) | exact thoF_z (by assumption) (by assumption) (by assumption) (by assumption) (by assumption) (by assumption) (by assumption) (by omega) (by first | assumption | (rw [tn3e]; assumption)) | exact thoF_n (fun w => absurd w.1 (by assumption)) | exact thoF_n (fun w => absurd w.2.1 (by assumption)) | exact thoF_n (fun w => absurd w.2.2 (by assumption))
theorem lf_X11_thole_g_10 (a : Nat → Nat) (ap : Int32) (sn : Nat) (sk : Nat) (scu : Int32) (sch : Int32) (ot : Nat → Int32) (n1 : Int32) (n2 : Int32) (n3 : Int32) (hsn : sn ≤ 24) (hsk : sk ≤ 8) (c_2 : (0 : Int32) ≤ n1 ∧ n1 ≤ nI sn - 1) (tn1 : Nat) (tn1a : tn1 < sn) (tn1e : n1 = nI tn1) (c_6 : (0 : Int32) ≤ n2 ∧ n2 ≤ 1) (tn2 : Nat) (tn2a : 0 ≤ tn2) (tn2b : tn2 ≤ 1) (tn2e : n2 = nI tn2) (c_9 : ((-1) : Int32) ≤ n3 ∧ n3 ≤ 1) : tn1 < 24 := by
  first | assumption | omega | decide
theorem lf_X11_thole_g_11 (a : Nat → Nat) (ap : Int32) (sn : Nat) (sk : Nat) (scu : Int32) (sch : Int32) (ot : Nat → Int32) (n1 : Int32) (n2 : Int32) (n3 : Int32) (hsn : sn ≤ 24) (hsk : sk ≤ 8) (c_2 : (0 : Int32) ≤ n1 ∧ n1 ≤ nI sn - 1) (tn1 : Nat) (tn1a : tn1 < sn) (tn1e : n1 = nI tn1) (c_6 : (0 : Int32) ≤ n2 ∧ n2 ≤ 1) (tn2 : Nat) (tn2a : 0 ≤ tn2) (tn2b : tn2 ≤ 1) (tn2e : n2 = nI tn2) (c_9 : ((-1) : Int32) ≤ n3 ∧ n3 ≤ 1) : tn2 < 2 := by
  first | assumption | omega | decide
theorem lf_X11_thole_g_14 (a : Nat → Nat) (ap : Int32) (sn : Nat) (sk : Nat) (scu : Int32) (sch : Int32) (ot : Nat → Int32) (n1 : Int32) (n2 : Int32) (n3 : Int32) (hsn : sn ≤ 24) (hsk : sk ≤ 8) (c_2 : (0 : Int32) ≤ n1 ∧ n1 ≤ nI sn - 1) (tn1 : Nat) (tn1a : tn1 < sn) (tn1e : n1 = nI tn1) (c_6 : (0 : Int32) ≤ n2 ∧ n2 ≤ 1) (tn2 : Nat) (tn2a : 0 ≤ tn2) (tn2b : tn2 ≤ 1) (tn2e : n2 = nI tn2) (c_9 : ((-1) : Int32) ≤ n3 ∧ n3 ≤ 1) (ot_13 : Nat → Int32) (hz_13_0 : ot_13 = upd ot (tn1 * 2 + tn2) n3) : ((ot_13 : Nat → Int32) = thoF n1 n2 n3 sn ot) := by
  first | exact thoF_y (by assumption) (by assumption) (by assumption) (by assumption) (by assumption) (by assumption) (by assumption) (by omega) (by first | assumption | (rw [tn3e]; assumption)) | exact thoF_z (by assumption) (by assumption) (by assumption) (by assumption) (by assumption) (by assumption) (by assumption) (by omega) (by first | assumption | (rw [tn3e]; assumption)) | exact thoF_n (fun w => absurd w.1 (by assumption)) | exact thoF_n (fun w => absurd w.2.1 (by assumption)) | exact thoF_n (fun w => absurd w.2.2 (by assumption))
theorem lf_X11_thole_g_15 (a : Nat → Nat) (ap : Int32) (sn : Nat) (sk : Nat) (scu : Int32) (sch : Int32) (ot : Nat → Int32) (n1 : Int32) (n2 : Int32) (n3 : Int32) (hsn : sn ≤ 24) (hsk : sk ≤ 8) (c_2 : (0 : Int32) ≤ n1 ∧ n1 ≤ nI sn - 1) (tn1 : Nat) (tn1a : tn1 < sn) (tn1e : n1 = nI tn1) (c_6 : (0 : Int32) ≤ n2 ∧ n2 ≤ 1) (tn2 : Nat) (tn2a : 0 ≤ tn2) (tn2b : tn2 ≤ 1) (tn2e : n2 = nI tn2) (c_9 : ¬ (((-1) : Int32) ≤ n3 ∧ n3 ≤ 1)) : ((ot : Nat → Int32) = thoF n1 n2 n3 sn ot) := by
  first | exact thoF_y (by assumption) (by assumption) (by assumption) (by assumption) (by assumption) (by assumption) (by assumption) (by omega) (by first | assumption | (rw [tn3e]; assumption)) | exact thoF_z (by assumption) (by assumption) (by assumption) (by assumption) (by assumption) (by assumption) (by assumption) (by omega) (by first | assumption | (rw [tn3e]; assumption)) | exact thoF_n (fun w => absurd w.1 (by assumption)) | exact thoF_n (fun w => absurd w.2.1 (by assumption)) | exact thoF_n (fun w => absurd w.2.2 (by assumption))
set_option maxHeartbeats 4000000 in
set_option maxRecDepth 100000 in
theorem c_X11_thole_g (l : Launch) (D : va_G) (cI cB cZ cJ : ClassId) (tx : List (ClassId × FieldType)) (a : Nat → Nat) (ap : Int32) (sn : Nat) (sk : Nat) (scu : Int32) (sch : Int32) (ot : Nat → Int32) (n1 : Int32) (n2 : Int32) (n3 : Int32) (hsn : sn ≤ 24) (hsk : sk ≤ 8) : WrI l D cI cB cZ cJ tx yX11_thole cX11_thole 4 (some .boolean) 2 0 0 [.ref (a 0), .int n1, .int n2, .int n3] [(a 0, .inr (11, [.ref (a 1), .ref (a 2), .ref (a 3), .ref (a 4), .ref (a 5), .ref (a 6), .ref (a 7), .ref (a 8), .ref (a 9), .ref (a 10), .ref (a 11), .ref (a 12), .int ap])), (a 5, .inr (4, [.ref (a 18), .ref (a 19), .ref (a 20), .ref (a 21), .ref (a 22), .ref (a 23), .ref (a 24), .int (nI sn), .int (nI sk), .int scu, .int sch])), (a 10, .inr (10, [.ref (a 5), .ref (a 46)])), (a 46, .inl (cI, 48, .inl ot))] (fun (r : Int32) (v : (Nat → Int32)) => (v = thoF n1 n2 n3 sn ot)) (fun v => [(a 0, .inr (11, [.ref (a 1), .ref (a 2), .ref (a 3), .ref (a 4), .ref (a 5), .ref (a 6), .ref (a 7), .ref (a 8), .ref (a 9), .ref (a 10), .ref (a 11), .ref (a 12), .int ap])), (a 5, .inr (4, [.ref (a 18), .ref (a 19), .ref (a 20), .ref (a 21), .ref (a 22), .ref (a 23), .ref (a 24), .int (nI sn), .int (nI sk), .int scu, .int sch])), (a 10, .inr (10, [.ref (a 5), .ref (a 46)])), (a 46, .inl (cI, 48, .inl v))]) := by
  refine wri_of2 (by decide) (Nat.le_of_ble_eq_true rfl) ?_
  intro p e s m below meth c A ls H locs hC hK hP hD hA hS hl
  obtain ⟨hx, hb, hr, hml, hown, hts, hlocks, hin⟩ := hC
  have hown : s.vm.findClass RX11 = some m.cls := hown
  have hl : lv_has ls 4 [(0, .ref (a 0)), (1, .int n1), (2, .int n2), (3, .int n3)] := hl
  refine W_gQ (fun Q hQ => ?_)
  refine lv_iload_n hx hb dX11_thole_0 rfl (lv_at hl 1 rfl) ?_
  refine lv_iconst (v := 0) hx hb dX11_thole_1 (by decide) ?_
  refine lv_aload_n hx hb dX11_thole_2 rfl (lv_at hl 0 rfl) ?_
  refine va_get (D := D) (ci := 11) (v := .ref (a 5)) (C := RX11) (T := TX11) (N := 13) hx hb hts inT_X11 hown hK.1 hP 0 rfl rfl 4 (by decide) (hts _ k_487) (fun _ h9 => h9) rfl dX11_thole_3 ?_
  refine va_getN (D := D) (ci := 4) (v := .int (nI sn)) (C := RX4) (T := TX4) (N := 11) hx hb hts inT_X4 hown hK.1 hP 1 rfl rfl 7 (by decide) (va_Nw.use rfl (hK.2.2.1 _ n_254)) (fun _ h9 => h9) rfl dX11_thole_6 ?_
  refine lv_iconst (v := 1) hx hb dX11_thole_9 (by decide) ?_
  refine lv_isub hx hb dX11_thole_10 ?_
  refine eRi (va_runS (As := [.int n1, .int 0, .int (nI sn - 1)]) (rest := []) ⟨hx, hb, hml, hown, hts⟩ (c_X11_within l D cI cB cZ cJ tx n1 0 (nI sn - 1) H.size) (zS hts k_527 v_X11_within ⟨Nat.le_of_ble_eq_true rfl, Nat.le_of_ble_eq_true rfl⟩) (px0 hK) rfl rfl hl.1 rfl (lv_room (Nat.le_of_ble_eq_true rfl)) dX11_thole_11 ⟨Nat.le_of_ble_eq_true rfl, Nat.le_of_ble_eq_true rfl⟩) hP hS hA (fun r_1 H locs wr_1 hP hS => ?_)
  subst wr_1
  refine lv_bi_eq (tgt := 35) hx hb dX11_thole_14 (by decide) (fun c_2 => ?_) (fun c_2 => ?_)
  · refine lv_iconst (v := 0) hx hb dX11_thole_35 (by decide) ?_
    rw [hQ]
    exact W.zret (v := 0) hx hb hr (by decide) (fun tt9 ht hW => ⟨⟨(0 : Int32), ((ot : Nat → Int32)), rfl, (lf_X11_thole_g_3 a ap sn sk scu sch ot n1 n2 n3 hsn hsk c_2), ⟨by rw [ht]; exact hP, hD⟩⟩, hS.F ht⟩) hS.2.2 dX11_thole_36 hlocks
  · obtain ⟨tn1, tn1a, tn1e⟩ := of_within (lf_X11_thole_g_4 a ap sn sk scu sch ot n1 n2 n3 hsn hsk c_2) c_2
    subst tn1e
    refine lv_iload_n hx hb dX11_thole_17 rfl (lv_at hl 2 rfl) ?_
    refine lv_iconst (v := 0) hx hb dX11_thole_18 (by decide) ?_
    refine lv_iconst (v := 1) hx hb dX11_thole_19 (by decide) ?_
    refine eRi (va_runS (As := [.int n2, .int 0, .int 1]) (rest := []) ⟨hx, hb, hml, hown, hts⟩ (c_X11_within l D cI cB cZ cJ tx n2 0 1 H.size) (zS hts k_527 v_X11_within ⟨Nat.le_of_ble_eq_true rfl, Nat.le_of_ble_eq_true rfl⟩) (px0 hK) rfl rfl hl.1 rfl (lv_room (Nat.le_of_ble_eq_true rfl)) dX11_thole_20 ⟨Nat.le_of_ble_eq_true rfl, Nat.le_of_ble_eq_true rfl⟩) hP hS hA (fun r_5 H locs wr_5 hP hS => ?_)
    subst wr_5
    refine lv_bi_eq (tgt := 35) hx hb dX11_thole_23 (by decide) (fun c_6 => ?_) (fun c_6 => ?_)
    · refine lv_iconst (v := 0) hx hb dX11_thole_35 (by decide) ?_
      rw [hQ]
      exact W.zret (v := 0) hx hb hr (by decide) (fun tt9 ht hW => ⟨⟨(0 : Int32), ((ot : Nat → Int32)), rfl, (lf_X11_thole_g_7 a ap sn sk scu sch ot (nI tn1) n2 n3 hsn hsk c_2 tn1 tn1a rfl c_6), ⟨by rw [ht]; exact hP, hD⟩⟩, hS.F ht⟩) hS.2.2 dX11_thole_36 hlocks
    · obtain ⟨tn2, tn2a, tn2b, tn2e⟩ := of_rng 0 1 rfl rfl c_6
      subst tn2e
      refine lv_iload_n hx hb dX11_thole_26 rfl (lv_at hl 3 rfl) ?_
      refine lv_iconst (v := (-1)) hx hb dX11_thole_27 (by decide) ?_
      refine lv_iconst (v := 1) hx hb dX11_thole_28 (by decide) ?_
      refine eRi (va_runS (As := [.int n3, .int (-1), .int 1]) (rest := []) ⟨hx, hb, hml, hown, hts⟩ (c_X11_within l D cI cB cZ cJ tx n3 (-1) 1 H.size) (zS hts k_527 v_X11_within ⟨Nat.le_of_ble_eq_true rfl, Nat.le_of_ble_eq_true rfl⟩) (px0 hK) rfl rfl hl.1 rfl (lv_room (Nat.le_of_ble_eq_true rfl)) dX11_thole_29 ⟨Nat.le_of_ble_eq_true rfl, Nat.le_of_ble_eq_true rfl⟩) hP hS hA (fun r_8 H locs wr_8 hP hS => ?_)
      subst wr_8
      refine lv_bi_ne (tgt := 37) hx hb dX11_thole_32 (by decide) (fun c_9 => ?_) (fun c_9 => ?_)
      · refine lv_aload_n hx hb dX11_thole_37 rfl (lv_at hl 0 rfl) ?_
        refine va_get (D := D) (ci := 11) (v := .ref (a 10)) (C := RX11) (T := TX11) (N := 13) hx hb hts inT_X11 hown hK.1 hP 0 rfl rfl 9 (by decide) (hts _ k_492) (fun _ h9 => h9) rfl dX11_thole_38 ?_
        refine lv_iload_n hx hb dX11_thole_41 rfl (lv_at hl 1 rfl) ?_
        refine lv_iload_n hx hb dX11_thole_42 rfl (lv_at hl 2 rfl) ?_
        refine lv_iload_n hx hb dX11_thole_43 rfl (lv_at hl 3 rfl) ?_
        refine eWvP (va_runV (As := [.int (nI tn1), .int (nI tn2), .int n3]) (rest := []) ⟨hx, hb, hml, hown, hts⟩ (c_X10_tell_f l D cI cB cZ cJ tx a ot tn1 tn2 n3 (lf_X11_thole_g_10 a ap sn sk scu sch ot (nI tn1) (nI tn2) n3 hsn hsk c_2 tn1 tn1a rfl c_6 tn2 tn2a tn2b rfl c_9) (lf_X11_thole_g_11 a ap sn sk scu sch ot (nI tn1) (nI tn2) n3 hsn hsk c_2 tn1 tn1a rfl c_6 tn2 tn2a tn2b rfl c_9) H.size) (zV hts k_1113 v_X10_tell ⟨Nat.le_of_ble_eq_true rfl, Nat.le_of_ble_eq_true rfl⟩) (pV (pxS hK hP hD [2, 3] (by decide) rfl) hK hP 2 rfl rfl) rfl rfl hl.1 rfl (lv_room (Nat.le_of_ble_eq_true rfl)) dX11_thole_44 ⟨Nat.le_of_ble_eq_true rfl, Nat.le_of_ble_eq_true rfl⟩) hP hD hS hA [2, 3] [none, none, some 0, some 1] rfl (by decide +kernel) (fun _ => rfl) (fun u_13 H locs wr_12 hP hD hS => ?_)
        obtain ⟨ot_13, rfl⟩ : ∃ z, z = u_13 := ⟨_, rfl⟩
        have hz_13_0 : ot_13 = upd ot (tn1 * 2 + tn2) n3 := wr_12
        have hPD := pd_mk (ws := [(a 0, .inr (11, [.ref (a 1), .ref (a 2), .ref (a 3), .ref (a 4), .ref (a 5), .ref (a 6), .ref (a 7), .ref (a 8), .ref (a 9), .ref (a 10), .ref (a 11), .ref (a 12), .int ap])), (a 5, .inr (4, [.ref (a 18), .ref (a 19), .ref (a 20), .ref (a 21), .ref (a 22), .ref (a 23), .ref (a 24), .int (nI sn), .int (nI sk), .int scu, .int sch])), (a 10, .inr (10, [.ref (a 5), .ref (a 46)])), (a 46, .inl (cI, 48, .inl ot_13))]) hP hD
        have hP := hPD.1
        have hD := hPD.2
        refine lv_iconst (v := 1) hx hb dX11_thole_47 (by decide) ?_
        rw [hQ]
        exact W.zret (v := 1) hx hb hr (by decide) (fun tt9 ht hW => ⟨⟨(1 : Int32), ((ot_13 : Nat → Int32)), rfl, (lf_X11_thole_g_14 a ap sn sk scu sch ot (nI tn1) (nI tn2) n3 hsn hsk c_2 tn1 tn1a rfl c_6 tn2 tn2a tn2b rfl c_9 ot_13 hz_13_0), ⟨by rw [ht]; exact hP, hD⟩⟩, hS.F ht⟩) hS.2.2 dX11_thole_48 hlocks
      · refine lv_iconst (v := 0) hx hb dX11_thole_35 (by decide) ?_
        rw [hQ]
        exact W.zret (v := 0) hx hb hr (by decide) (fun tt9 ht hW => ⟨⟨(0 : Int32), ((ot : Nat → Int32)), rfl, (lf_X11_thole_g_15 a ap sn sk scu sch ot (nI tn1) (nI tn2) n3 hsn hsk c_2 tn1 tn1a rfl c_6 tn2 tn2a tn2b rfl c_9), ⟨by rw [ht]; exact hP, hD⟩⟩, hS.F ht⟩) hS.2.2 dX11_thole_36 hlocks

theorem lf_X12_thole_g_3 (h : Nat) (q : Nat → Nat) (im : Nat → Int32) (ms : Nat) (m_tholes : Nat → Int32) (n1 : Int32) (n2 : Int32) (n3 : Int32) (hf_ms : im 2 = nI ms) (hms : ms ≤ 24) (c_2 : ¬ ((0 : Int32) ≤ n1 ∧ n1 ≤ nI ms - 1)) : ((m_tholes : Nat → Int32) = thoF n1 n2 n3 ms m_tholes) := by
  first | exact thoF_y (by assumption) (by assumption) (by assumption) (by assumption) (by assumption) (by assumption) (by assumption) (by omega) (by first | assumption | (rw [tn3e]; assumption)) | exact thoF_z (by assumption) (by assumption) (by assumption) (by assumption) (by assumption) (by assumption) (by assumption) (by omega) (by first | assumption | (rw [tn3e]; assumption)) | exact thoF_n (fun w => absurd w.1 (by assumption)) | exact thoF_n (fun w => absurd w.2.1 (by assumption)) | exact thoF_n (fun w => absurd w.2.2 (by assumption))
theorem lf_X12_thole_g_4 (h : Nat) (q : Nat → Nat) (im : Nat → Int32) (ms : Nat) (m_tholes : Nat → Int32) (n1 : Int32) (n2 : Int32) (n3 : Int32) (hf_ms : im 2 = nI ms) (hms : ms ≤ 24) (c_2 : (0 : Int32) ≤ n1 ∧ n1 ≤ nI ms - 1) : ms < 2 ^ 31 := by
  omega
theorem lf_X12_thole_g_7 (h : Nat) (q : Nat → Nat) (im : Nat → Int32) (ms : Nat) (m_tholes : Nat → Int32) (n1 : Int32) (n2 : Int32) (n3 : Int32) (hf_ms : im 2 = nI ms) (hms : ms ≤ 24) (c_2 : (0 : Int32) ≤ n1 ∧ n1 ≤ nI ms - 1) (tn1 : Nat) (tn1a : tn1 < ms) (tn1e : n1 = nI tn1) (c_6 : ¬ ((0 : Int32) ≤ n2 ∧ n2 ≤ 1)) : ((m_tholes : Nat → Int32) = thoF n1 n2 n3 ms m_tholes) := by
  first | exact thoF_y (by assumption) (by assumption) (by assumption) (by assumption) (by assumption) (by assumption) (by assumption) (by omega) (by first | assumption | (rw [tn3e]; assumption)) | exact thoF_z (by assumption) (by assumption) (by assumption) (by assumption) (by assumption) (by assumption) (by assumption) (by omega) (by first | assumption | (rw [tn3e]; assumption)) | exact thoF_n (fun w => absurd w.1 (by assumption)) | exact thoF_n (fun w => absurd w.2.1 (by assumption)) | exact thoF_n (fun w => absurd w.2.2 (by assumption))
theorem lf_X12_thole_g_11 (h : Nat) (q : Nat → Nat) (im : Nat → Int32) (ms : Nat) (m_tholes : Nat → Int32) (n1 : Int32) (n2 : Int32) (n3 : Int32) (hf_ms : im 2 = nI ms) (hms : ms ≤ 24) (c_2 : (0 : Int32) ≤ n1 ∧ n1 ≤ nI ms - 1) (tn1 : Nat) (tn1a : tn1 < ms) (tn1e : n1 = nI tn1) (c_6 : (0 : Int32) ≤ n2 ∧ n2 ≤ 1) (tn2 : Nat) (tn2a : 0 ≤ tn2) (tn2b : tn2 ≤ 1) (tn2e : n2 = nI tn2) (c_9 : ((-1) : Int32) ≤ n3 ∧ n3 ≤ 1) : ((2 * tn1) + tn2) < 48 := by
  omega
theorem lf_X12_thole_g_12 (h : Nat) (q : Nat → Nat) (im : Nat → Int32) (ms : Nat) (m_tholes : Nat → Int32) (n1 : Int32) (n2 : Int32) (n3 : Int32) (hf_ms : im 2 = nI ms) (hms : ms ≤ 24) (c_2 : (0 : Int32) ≤ n1 ∧ n1 ≤ nI ms - 1) (tn1 : Nat) (tn1a : tn1 < ms) (tn1e : n1 = nI tn1) (c_6 : (0 : Int32) ≤ n2 ∧ n2 ≤ 1) (tn2 : Nat) (tn2a : 0 ≤ tn2) (tn2b : tn2 ≤ 1) (tn2e : n2 = nI tn2) (c_9 : ((-1) : Int32) ≤ n3 ∧ n3 ≤ 1) (f_10 : Nat → Int32) (ef_10 : f_10 = upd m_tholes ((2 * tn1) + tn2) n3) : ((f_10 : Nat → Int32) = thoF n1 n2 n3 ms m_tholes) := by
  first | exact thoF_y (by assumption) (by assumption) (by assumption) (by assumption) (by assumption) (by assumption) (by assumption) (by omega) (by first | assumption | (rw [tn3e]; assumption)) | exact thoF_z (by assumption) (by assumption) (by assumption) (by assumption) (by assumption) (by assumption) (by assumption) (by omega) (by first | assumption | (rw [tn3e]; assumption)) | exact thoF_n (fun w => absurd w.1 (by assumption)) | exact thoF_n (fun w => absurd w.2.1 (by assumption)) | exact thoF_n (fun w => absurd w.2.2 (by assumption))
theorem lf_X12_thole_g_13 (h : Nat) (q : Nat → Nat) (im : Nat → Int32) (ms : Nat) (m_tholes : Nat → Int32) (n1 : Int32) (n2 : Int32) (n3 : Int32) (hf_ms : im 2 = nI ms) (hms : ms ≤ 24) (c_2 : (0 : Int32) ≤ n1 ∧ n1 ≤ nI ms - 1) (tn1 : Nat) (tn1a : tn1 < ms) (tn1e : n1 = nI tn1) (c_6 : (0 : Int32) ≤ n2 ∧ n2 ≤ 1) (tn2 : Nat) (tn2a : 0 ≤ tn2) (tn2b : tn2 ≤ 1) (tn2e : n2 = nI tn2) (c_9 : ¬ (((-1) : Int32) ≤ n3 ∧ n3 ≤ 1)) : ((m_tholes : Nat → Int32) = thoF n1 n2 n3 ms m_tholes) := by
  first | exact thoF_y (by assumption) (by assumption) (by assumption) (by assumption) (by assumption) (by assumption) (by assumption) (by omega) (by first | assumption | (rw [tn3e]; assumption)) | exact thoF_z (by assumption) (by assumption) (by assumption) (by assumption) (by assumption) (by assumption) (by assumption) (by omega) (by first | assumption | (rw [tn3e]; assumption)) | exact thoF_n (fun w => absurd w.1 (by assumption)) | exact thoF_n (fun w => absurd w.2.1 (by assumption)) | exact thoF_n (fun w => absurd w.2.2 (by assumption))
set_option maxHeartbeats 4000000 in
set_option maxRecDepth 100000 in
theorem c_X12_thole_g (l : Launch) (D : va_G) (cI cB cZ cJ : ClassId) (tx : List (ClassId × FieldType)) (h : Nat) (q : Nat → Nat) (im : Nat → Int32) (ms : Nat) (m_tholes : Nat → Int32) (n1 : Int32) (n2 : Int32) (n3 : Int32) (hf_ms : im 2 = nI ms) (hms : ms ≤ 24) : WrI l D cI cB cZ cJ tx yX12_thole cX12_thole 4 (some .boolean) 2 0 0 [.ref h, .int n1, .int n2, .int n3] [(h, .inr (12, mG q im)), (q 73, .inl (cI, 48, .inl m_tholes))] (fun (r : Int32) (v : (Nat → Int32)) => (v = thoF n1 n2 n3 ms m_tholes)) (fun v => [(h, .inr (12, mG q im)), (q 73, .inl (cI, 48, .inl v))]) := by
  refine wri_of2 (by decide) (Nat.le_of_ble_eq_true rfl) ?_
  intro p e s m below meth c A ls H locs hC hK hP hD hA hS hl
  obtain ⟨hx, hb, hr, hml, hown, hts, hlocks, hin⟩ := hC
  have hown : s.vm.findClass RX12 = some m.cls := hown
  have hl : lv_has ls 4 [(0, .ref h), (1, .int n1), (2, .int n2), (3, .int n3)] := hl
  refine W_gQ (fun Q hQ => ?_)
  refine lv_aload_n hx hb dX12_thole_0 rfl (lv_at hl 0 rfl) ?_
  refine lv_iload_n hx hb dX12_thole_1 rfl (lv_at hl 1 rfl) ?_
  refine eRi (va_runV (As := [.int n1]) (rest := []) ⟨hx, hb, hml, hown, hts⟩ (c_X12_isStation l D cI cB cZ cJ tx h q im ms n1 hf_ms H.size) (zV hts k_1803 v_X12_isStation ⟨Nat.le_of_ble_eq_true rfl, Nat.le_of_ble_eq_true rfl⟩) (pV (px1 hK hP 0 rfl) hK hP 0 rfl rfl) rfl rfl hl.1 rfl (lv_room (Nat.le_of_ble_eq_true rfl)) dX12_thole_2 ⟨Nat.le_of_ble_eq_true rfl, Nat.le_of_ble_eq_true rfl⟩) hP hS hA (fun r_1 H locs wr_1 hP hS => ?_)
  subst wr_1
  refine lv_bi_eq (tgt := 30) hx hb dX12_thole_5 (by decide) (fun c_2 => ?_) (fun c_2 => ?_)
  · refine lv_iconst (v := 0) hx hb dX12_thole_30 (by decide) ?_
    rw [hQ]
    exact W.zret (v := 0) hx hb hr (by decide) (fun tt9 ht hW => ⟨⟨(0 : Int32), ((m_tholes : Nat → Int32)), rfl, (lf_X12_thole_g_3 h q im ms m_tholes n1 n2 n3 hf_ms hms c_2), ⟨by rw [ht]; exact hP, hD⟩⟩, hS.F ht⟩) hS.2.2 dX12_thole_31 hlocks
  · obtain ⟨tn1, tn1a, tn1e⟩ := of_within (lf_X12_thole_g_4 h q im ms m_tholes n1 n2 n3 hf_ms hms c_2) c_2
    subst tn1e
    refine lv_iload_n hx hb dX12_thole_8 rfl (lv_at hl 2 rfl) ?_
    refine lv_i2l (v := n2.toInt64) hx hb dX12_thole_9 rfl ?_
    refine lv_lconst (v := 0) hx hb dX12_thole_10 (by decide) ?_
    refine lv_lconst (v := 1) hx hb dX12_thole_11 (by decide) ?_
    refine eRi (va_runS (As := [.long n2.toInt64, .long 0, .long 1]) (rest := []) ⟨hx, hb, hml, hown, hts⟩ (c_X12_isIn l D cI cB cZ cJ tx n2.toInt64 0 1 H.size) (zS hts k_1602 v_X12_isIn ⟨Nat.le_of_ble_eq_true rfl, Nat.le_of_ble_eq_true rfl⟩) (px0 hK) rfl rfl hl.1 rfl (lv_room (Nat.le_of_ble_eq_true rfl)) dX12_thole_12 ⟨Nat.le_of_ble_eq_true rfl, Nat.le_of_ble_eq_true rfl⟩) hP hS hA (fun r_5 H locs wr_5 hP hS => ?_)
    have wr_5 : r_5 = bi ((0 : Int32) ≤ n2 ∧ n2 ≤ 1) := isIn32 (lo := 0) (hi := 1) (by decide) (by decide) wr_5
    subst wr_5
    refine lv_bi_eq (tgt := 30) hx hb dX12_thole_15 (by decide) (fun c_6 => ?_) (fun c_6 => ?_)
    · refine lv_iconst (v := 0) hx hb dX12_thole_30 (by decide) ?_
      rw [hQ]
      exact W.zret (v := 0) hx hb hr (by decide) (fun tt9 ht hW => ⟨⟨(0 : Int32), ((m_tholes : Nat → Int32)), rfl, (lf_X12_thole_g_7 h q im ms m_tholes (nI tn1) n2 n3 hf_ms hms c_2 tn1 tn1a rfl c_6), ⟨by rw [ht]; exact hP, hD⟩⟩, hS.F ht⟩) hS.2.2 dX12_thole_31 hlocks
    · obtain ⟨tn2, tn2a, tn2b, tn2e⟩ := of_rng 0 1 rfl rfl c_6
      subst tn2e
      refine lv_iload_n hx hb dX12_thole_18 rfl (lv_at hl 3 rfl) ?_
      refine lv_i2l (v := n3.toInt64) hx hb dX12_thole_19 rfl ?_
      refine lv_ldc2 (v := (-1)) hx hb hown (hts _ k_1950) dX12_thole_20 ?_
      refine lv_lconst (v := 1) hx hb dX12_thole_23 (by decide) ?_
      refine eRi (va_runS (As := [.long n3.toInt64, .long (-1), .long 1]) (rest := []) ⟨hx, hb, hml, hown, hts⟩ (c_X12_isIn l D cI cB cZ cJ tx n3.toInt64 (-1) 1 H.size) (zS hts k_1602 v_X12_isIn ⟨Nat.le_of_ble_eq_true rfl, Nat.le_of_ble_eq_true rfl⟩) (px0 hK) rfl rfl hl.1 rfl (lv_room (Nat.le_of_ble_eq_true rfl)) dX12_thole_24 ⟨Nat.le_of_ble_eq_true rfl, Nat.le_of_ble_eq_true rfl⟩) hP hS hA (fun r_8 H locs wr_8 hP hS => ?_)
      have wr_8 : r_8 = bi (((-1) : Int32) ≤ n3 ∧ n3 ≤ 1) := isIn32 (lo := (-1)) (hi := 1) (by decide) (by decide) wr_8
      subst wr_8
      refine lv_bi_ne (tgt := 32) hx hb dX12_thole_27 (by decide) (fun c_9 => ?_) (fun c_9 => ?_)
      · refine lv_aload_n hx hb dX12_thole_32 rfl (lv_at hl 0 rfl) ?_
        refine va_get (D := D) (ci := 12) (v := .ref (q 73)) (C := RX12) (T := TX12) (N := 81) hx hb hts inT_X12 hown hK.1 hP 0 rfl rfl 73 (by decide) (hts _ k_1426) (fun _ h9 => h9) rfl dX12_thole_33 ?_
        refine lv_iconst (v := 2) hx hb dX12_thole_36 (by decide) ?_
        refine lv_iload_n hx hb dX12_thole_37 rfl (lv_at hl 1 rfl) ?_
        refine lv_imul hx hb dX12_thole_38 ?_
        refine lv_topv (y := nI (2 * tn1)) (pk_mul 2 tn1) ?_
        refine lv_iload_n hx hb dX12_thole_39 rfl (lv_at hl 2 rfl) ?_
        refine lv_iadd hx hb dX12_thole_40 ?_
        refine lv_topv (y := nI ((2 * tn1) + tn2)) (nI_add (2 * tn1) tn2) ?_
        refine lv_iload_n hx hb dX12_thole_41 rfl (lv_at hl 3 rfl) ?_
        refine su_i (j := ((2 * tn1) + tn2)) hx hb hK hP hD hS 1 rfl (lf_X12_thole_g_11 h q im ms m_tholes (nI tn1) (nI tn2) n3 hf_ms hms c_2 tn1 tn1a rfl c_6 tn2 tn2a tn2b rfl c_9) (by first | decide | assumption) dX12_thole_42 (fun f_10 H locs ef_10 hP hD hS => ?_)
        have hPD := pd_mk (ws := [(h, .inr (12, mG q im)), (q 73, .inl (cI, 48, .inl f_10))]) hP hD
        have hP := hPD.1
        have hD := hPD.2
        refine lv_iconst (v := 1) hx hb dX12_thole_43 (by decide) ?_
        rw [hQ]
        exact W.zret (v := 1) hx hb hr (by decide) (fun tt9 ht hW => ⟨⟨(1 : Int32), ((f_10 : Nat → Int32)), rfl, (lf_X12_thole_g_12 h q im ms m_tholes (nI tn1) (nI tn2) n3 hf_ms hms c_2 tn1 tn1a rfl c_6 tn2 tn2a tn2b rfl c_9 f_10 ef_10), ⟨by rw [ht]; exact hP, hD⟩⟩, hS.F ht⟩) hS.2.2 dX12_thole_44 hlocks
      · refine lv_iconst (v := 0) hx hb dX12_thole_30 (by decide) ?_
        rw [hQ]
        exact W.zret (v := 0) hx hb hr (by decide) (fun tt9 ht hW => ⟨⟨(0 : Int32), ((m_tholes : Nat → Int32)), rfl, (lf_X12_thole_g_13 h q im ms m_tholes (nI tn1) (nI tn2) n3 hf_ms hms c_2 tn1 tn1a rfl c_6 tn2 tn2a tn2b rfl c_9), ⟨by rw [ht]; exact hP, hD⟩⟩, hS.F ht⟩) hS.2.2 dX12_thole_31 hlocks

theorem lf_X4_isCut_f_4 (a : Nat → Nat) (sn : Nat) (sk : Nat) (scu : Int32) (sch : Int32) (f1 : Nat) (hf1 : f1 < 24) (x_1 : Int32) (ex_1 : x_1 = scu >>> (nI f1 &&& 31)) (x_2 : Int32) (ex_2 : x_2 = x_1 &&& 1) (c_3 : x_2 = 0) : ((0 : Int32) = 0 ∧ ¬ CT scu f1) ∨ ((0 : Int32) = 1 ∧ CT scu f1) := by
  first | exact Or.inl ⟨rfl, ct_n (by assumption) (by assumption) (by assumption)⟩ | exact Or.inr ⟨rfl, ct_y (by assumption) (by assumption) (by assumption)⟩
theorem lf_X4_isCut_f_5 (a : Nat → Nat) (sn : Nat) (sk : Nat) (scu : Int32) (sch : Int32) (f1 : Nat) (hf1 : f1 < 24) (x_1 : Int32) (ex_1 : x_1 = scu >>> (nI f1 &&& 31)) (x_2 : Int32) (ex_2 : x_2 = x_1 &&& 1) (c_3 : ¬ x_2 = 0) : ((1 : Int32) = 0 ∧ ¬ CT scu f1) ∨ ((1 : Int32) = 1 ∧ CT scu f1) := by
  first | exact Or.inl ⟨rfl, ct_n (by assumption) (by assumption) (by assumption)⟩ | exact Or.inr ⟨rfl, ct_y (by assumption) (by assumption) (by assumption)⟩
set_option maxHeartbeats 4000000 in
set_option maxRecDepth 100000 in
theorem c_X4_isCut_f (l : Launch) (D : va_G) (cI cB cZ cJ : ClassId) (tx : List (ClassId × FieldType)) (a : Nat → Nat) (sn : Nat) (sk : Nat) (scu : Int32) (sch : Int32) (f1 : Nat) (hf1 : f1 < 24) : RdI l D cI cB cZ cJ tx yX4_isCut cX4_isCut 2 (some .boolean) 0 [.ref (a 5), .int (nI f1)] [(a 5, .inr (4, [.ref (a 18), .ref (a 19), .ref (a 20), .ref (a 21), .ref (a 22), .ref (a 23), .ref (a 24), .int (nI sn), .int (nI sk), .int scu, .int sch]))] (fun r => (r = 0 ∧ ¬ CT scu f1) ∨ (r = 1 ∧ CT scu f1)) := by
  refine rdi_of2 (by decide) (Nat.le_of_ble_eq_true rfl) ?_
  intro p e s m below meth c A ls H locs hC hK hP hD hA hS hl
  obtain ⟨hx, hb, hr, hml, hown, hts, hlocks, hin⟩ := hC
  have hown : s.vm.findClass RX4 = some m.cls := hown
  have hl : lv_has ls 2 [(0, .ref (a 5)), (1, .int (nI f1))] := hl
  refine W_gQ (fun Q hQ => ?_)
  refine lv_aload_n hx hb dX4_isCut_0 rfl (lv_at hl 0 rfl) ?_
  refine va_get (D := D) (ci := 4) (v := .int scu) (C := RX4) (T := TX4) (N := 11) hx hb hts inT_X4 hown hK.1 hP 0 rfl rfl 9 (by decide) (hts _ k_261) (fun _ h9 => h9) rfl dX4_isCut_1 ?_
  refine lv_iload_n hx hb dX4_isCut_4 rfl (lv_at hl 1 rfl) ?_
  refine lv_ishr hx hb dX4_isCut_5 ?_
  refine lv_topi (fun x_1 ex_1 => ?_)
  refine lv_iconst (v := 1) hx hb dX4_isCut_6 (by decide) ?_
  refine lv_iand hx hb dX4_isCut_7 ?_
  refine lv_topi (fun x_2 ex_2 => ?_)
  refine lv_if_eq (tgt := 15) hx hb dX4_isCut_8 (by decide) (fun c_3 => ?_) (fun c_3 => ?_)
  · refine lv_iconst (v := 0) hx hb dX4_isCut_15 (by decide) ?_
    rw [hQ]
    exact W.zret (v := 0) hx hb hr (by decide) (fun tt9 ht hW => ⟨⟨(0 : Int32), (), rfl, (lf_X4_isCut_f_4 a sn sk scu sch f1 hf1 x_1 ex_1 x_2 ex_2 c_3), trivial⟩, hS.F ht⟩) hS.2.2 dX4_isCut_16 hlocks
  · refine lv_iconst (v := 1) hx hb dX4_isCut_11 (by decide) ?_
    refine lv_goto (tgt := 16) hx hb dX4_isCut_12 (by decide) ?_
    rw [hQ]
    exact W.zret (v := 1) hx hb hr (by decide) (fun tt9 ht hW => ⟨⟨(1 : Int32), (), rfl, (lf_X4_isCut_f_5 a sn sk scu sch f1 hf1 x_1 ex_1 x_2 ex_2 c_3), trivial⟩, hS.F ht⟩) hS.2.2 dX4_isCut_16 hlocks

theorem lf_X10_at_f_1 (a : Nat → Nat) (sn : Nat) (sk : Nat) (scu : Int32) (sch : Int32) (ot : Nat → Int32) (x1 : Nat) (x2 : Nat) (hx1 : x1 < 24) (hx2 : x2 < 2) : x1 < 24 := by
  first | assumption | omega | decide
theorem lf_X10_at_f_3 (a : Nat → Nat) (sn : Nat) (sk : Nat) (scu : Int32) (sch : Int32) (ot : Nat → Int32) (x1 : Nat) (x2 : Nat) (hx1 : x1 < 24) (hx2 : x2 < 2) (hct2 : ¬ CT scu x1) : ((x1 * 2) + x2) < 48 := by
  omega
theorem lf_X10_at_f_4 (a : Nat → Nat) (sn : Nat) (sk : Nat) (scu : Int32) (sch : Int32) (ot : Nat → Int32) (x1 : Nat) (x2 : Nat) (hx1 : x1 < 24) (hx2 : x2 < 2) (hct2 : ¬ CT scu x1) : (ot ((x1 * 2) + x2) : Int32) = TV scu ot x1 x2 := by
  first | exact TV_y (by assumption) | exact TV_n (by assumption)
theorem lf_X10_at_f_5 (a : Nat → Nat) (sn : Nat) (sk : Nat) (scu : Int32) (sch : Int32) (ot : Nat → Int32) (x1 : Nat) (x2 : Nat) (hx1 : x1 < 24) (hx2 : x2 < 2) (hct2 : CT scu x1) : ((-1) : Int32) = TV scu ot x1 x2 := by
  first | exact TV_y (by assumption) | exact TV_n (by assumption)
set_option maxHeartbeats 4000000 in
set_option maxRecDepth 100000 in
theorem c_X10_at_f (l : Launch) (D : va_G) (cI cB cZ cJ : ClassId) (tx : List (ClassId × FieldType)) (a : Nat → Nat) (sn : Nat) (sk : Nat) (scu : Int32) (sch : Int32) (ot : Nat → Int32) (x1 : Nat) (x2 : Nat) (hx1 : x1 < 24) (hx2 : x2 < 2) : RdI l D cI cB cZ cJ tx yX10_at cX10_at 3 (some .int) 1 [.ref (a 10), .int (nI x1), .int (nI x2)] [(a 10, .inr (10, [.ref (a 5), .ref (a 46)])), (a 5, .inr (4, [.ref (a 18), .ref (a 19), .ref (a 20), .ref (a 21), .ref (a 22), .ref (a 23), .ref (a 24), .int (nI sn), .int (nI sk), .int scu, .int sch])), (a 46, .inl (cI, 48, .inl ot))] (fun r => r = TV scu ot x1 x2) := by
  refine rdi_of2 (by decide) (Nat.le_of_ble_eq_true rfl) ?_
  intro p e s m below meth c A ls H locs hC hK hP hD hA hS hl
  obtain ⟨hx, hb, hr, hml, hown, hts, hlocks, hin⟩ := hC
  have hown : s.vm.findClass RX10 = some m.cls := hown
  have hl : lv_has ls 3 [(0, .ref (a 10)), (1, .int (nI x1)), (2, .int (nI x2))] := hl
  refine W_gQ (fun Q hQ => ?_)
  refine lv_aload_n hx hb dX10_at_0 rfl (lv_at hl 0 rfl) ?_
  refine va_get (D := D) (ci := 10) (v := .ref (a 5)) (C := RX10) (T := TX10) (N := 2) hx hb hts inT_X10 hown hK.1 hP 0 rfl rfl 0 (by decide) (hts _ k_428) (fun _ h9 => h9) rfl dX10_at_1 ?_
  refine lv_iload_n hx hb dX10_at_4 rfl (lv_at hl 1 rfl) ?_
  refine eRi (va_runV (As := [.int (nI x1)]) (rest := []) ⟨hx, hb, hml, hown, hts⟩ (c_X4_isCut_f l D cI cB cZ cJ tx a sn sk scu sch x1 (lf_X10_at_f_1 a sn sk scu sch ot x1 x2 hx1 hx2) H.size) (zV hts k_1133 v_X4_isCut ⟨Nat.le_of_ble_eq_true rfl, Nat.le_of_ble_eq_true rfl⟩) (pV (px1 hK hP 1 rfl) hK hP 1 rfl rfl) rfl rfl hl.1 rfl (lv_room (Nat.le_of_ble_eq_true rfl)) dX10_at_5 ⟨Nat.le_of_ble_eq_true rfl, Nat.le_of_ble_eq_true rfl⟩) hP hS hA (fun r_2 H locs wr_2 hP hS => ?_)
  rcases wr_2 with ⟨rfl, hct2⟩ | ⟨rfl, hct2⟩
  · refine lv_if_eq (tgt := 15) hx hb dX10_at_8 (by decide) (fun _ => ?_) (fun c => absurd c (by decide))
    refine lv_aload_n hx hb dX10_at_15 rfl (lv_at hl 0 rfl) ?_
    refine va_get (D := D) (ci := 10) (v := .ref (a 46)) (C := RX10) (T := TX10) (N := 2) hx hb hts inT_X10 hown hK.1 hP 0 rfl rfl 1 (by decide) (hts _ k_429) (fun _ h9 => h9) rfl dX10_at_16 ?_
    refine lv_iload_n hx hb dX10_at_19 rfl (lv_at hl 1 rfl) ?_
    refine lv_iconst (v := 2) hx hb dX10_at_20 (by decide) ?_
    refine lv_imul hx hb dX10_at_21 ?_
    refine lv_topv (y := nI (x1 * 2)) (pk_mul x1 2) ?_
    refine lv_iload_n hx hb dX10_at_22 rfl (lv_at hl 2 rfl) ?_
    refine lv_iadd hx hb dX10_at_23 ?_
    refine lv_topv (y := nI ((x1 * 2) + x2)) (nI_add (x1 * 2) x2) ?_
    refine lt_i (j := ((x1 * 2) + x2)) hx hb hK hP 2 rfl (lf_X10_at_f_3 a sn sk scu sch ot x1 x2 hx1 hx2 hct2) (by decide) dX10_at_24 ?_
    rw [hQ]
    exact W.iret (v := ot ((x1 * 2) + x2)) hx hb hr (fun tt9 ht hW => ⟨⟨(ot ((x1 * 2) + x2) : Int32), (), rfl, (lf_X10_at_f_4 a sn sk scu sch ot x1 x2 hx1 hx2 hct2), trivial⟩, hS.F ht⟩) hS.2.2 dX10_at_25 hlocks
  · refine lv_if_eq (tgt := 15) hx hb dX10_at_8 (by decide) (fun c => absurd c (by decide)) (fun _ => ?_)
    refine lv_iconst (v := (-1)) hx hb dX10_at_11 (by decide) ?_
    refine lv_goto (tgt := 25) hx hb dX10_at_12 (by decide) ?_
    rw [hQ]
    exact W.iret (v := (-1)) hx hb hr (fun tt9 ht hW => ⟨⟨((-1) : Int32), (), rfl, (lf_X10_at_f_5 a sn sk scu sch ot x1 x2 hx1 hx2 hct2), trivial⟩, hS.F ht⟩) hS.2.2 dX10_at_25 hlocks

theorem lf_X10_pairsWithout_f_3 (a : Nat → Nat) (sn : Nat) (sk : Nat) (scu : Int32) (sch : Int32) (ot : Nat → Int32) (n1 : Int32) (n2 : Int32) (hsn : sn ≤ 24) (hsk : sk ≤ 8) (j1 : Nat) (w1 : Int32) (k5 : Nat) (hj5 : j1 ≤ sn) (hk5 : sn < j1 + (k5 + 1)) (hw : w1 = pwF (TV scu ot) n1 n2 j1) (c_1 : nI sn ≤ nI j1) : sn ≤ j1 := by
  exact (nI_leI (a := sn) (b := j1) (by omega) (by omega)).mp c_1
theorem lf_X10_pairsWithout_f_4 (a : Nat → Nat) (sn : Nat) (sk : Nat) (scu : Int32) (sch : Int32) (ot : Nat → Int32) (n1 : Int32) (n2 : Int32) (hsn : sn ≤ 24) (hsk : sk ≤ 8) (j1 : Nat) (w1 : Int32) (k5 : Nat) (hj5 : j1 ≤ sn) (hk5 : sn < j1 + (k5 + 1)) (hw : w1 = pwF (TV scu ot) n1 n2 j1) (c_1 : nI sn ≤ nI j1) (n_2 : sn ≤ j1) : (w1 : Int32) = pwF (TV scu ot) n1 n2 sn := by
  exact atn (F := fun i => pwF (TV scu ot) n1 n2 i) (by assumption) (by assumption) (by assumption)
theorem lf_X10_pairsWithout_f_6 (a : Nat → Nat) (sn : Nat) (sk : Nat) (scu : Int32) (sch : Int32) (ot : Nat → Int32) (n1 : Int32) (n2 : Int32) (hsn : sn ≤ 24) (hsk : sk ≤ 8) (j1 : Nat) (w1 : Int32) (k5 : Nat) (hj5 : j1 ≤ sn) (hk5 : sn < j1 + (k5 + 1)) (hw : w1 = pwF (TV scu ot) n1 n2 j1) (c_1 : ¬ nI sn ≤ nI j1) : j1 < sn := by
  exact Nat.lt_of_not_le (fun q => c_1 ((nI_leI (a := sn) (b := j1) (by omega) (by omega)).mpr q))
theorem lf_X10_pairsWithout_f_7 (a : Nat → Nat) (sn : Nat) (sk : Nat) (scu : Int32) (sch : Int32) (ot : Nat → Int32) (n1 : Int32) (n2 : Int32) (hsn : sn ≤ 24) (hsk : sk ≤ 8) (j1 : Nat) (w1 : Int32) (k5 : Nat) (hj5 : j1 ≤ sn) (hk5 : sn < j1 + (k5 + 1)) (hw : w1 = pwF (TV scu ot) n1 n2 j1) (c_1 : ¬ nI sn ≤ nI j1) (n_5 : j1 < sn) : j1 < 24 := by
  first | assumption | omega | decide
theorem lf_X10_pairsWithout_f_8 (a : Nat → Nat) (sn : Nat) (sk : Nat) (scu : Int32) (sch : Int32) (ot : Nat → Int32) (n1 : Int32) (n2 : Int32) (hsn : sn ≤ 24) (hsk : sk ≤ 8) (j1 : Nat) (w1 : Int32) (k5 : Nat) (hj5 : j1 ≤ sn) (hk5 : sn < j1 + (k5 + 1)) (hw : w1 = pwF (TV scu ot) n1 n2 j1) (c_1 : ¬ nI sn ≤ nI j1) (n_5 : j1 < sn) : 0 < 2 := by
  first | assumption | omega | decide
theorem lf_X10_pairsWithout_f_10 (a : Nat → Nat) (sn : Nat) (sk : Nat) (scu : Int32) (sch : Int32) (ot : Nat → Int32) (n1 : Int32) (n2 : Int32) (hsn : sn ≤ 24) (hsk : sk ≤ 8) (j1 : Nat) (w1 : Int32) (k5 : Nat) (hj5 : j1 ≤ sn) (hk5 : sn < j1 + (k5 + 1)) (hw : w1 = pwF (TV scu ot) n1 n2 j1) (c_1 : ¬ nI sn ≤ nI j1) (n_5 : j1 < sn) : j1 < 24 := by
  first | assumption | omega | decide
theorem lf_X10_pairsWithout_f_11 (a : Nat → Nat) (sn : Nat) (sk : Nat) (scu : Int32) (sch : Int32) (ot : Nat → Int32) (n1 : Int32) (n2 : Int32) (hsn : sn ≤ 24) (hsk : sk ≤ 8) (j1 : Nat) (w1 : Int32) (k5 : Nat) (hj5 : j1 ≤ sn) (hk5 : sn < j1 + (k5 + 1)) (hw : w1 = pwF (TV scu ot) n1 n2 j1) (c_1 : ¬ nI sn ≤ nI j1) (n_5 : j1 < sn) : 1 < 2 := by
  first | assumption | omega | decide
theorem lf_X10_pairsWithout_f_15 (a : Nat → Nat) (sn : Nat) (sk : Nat) (scu : Int32) (sch : Int32) (ot : Nat → Int32) (n1 : Int32) (n2 : Int32) (hsn : sn ≤ 24) (hsk : sk ≤ 8) (j1 : Nat) (w1 : Int32) (k5 : Nat) (hj5 : j1 ≤ sn) (hk5 : sn < j1 + (k5 + 1)) (hw : w1 = pwF (TV scu ot) n1 n2 j1) (c_1 : ¬ nI sn ≤ nI j1) (n_5 : j1 < sn) (c_13 : TV scu ot j1 0 = n1) (x_14 : Int32) (ex_14 : x_14 = w1 + 0) : x_14 = pwF (TV scu ot) n1 n2 (j1 + 1) := by
  first | rfl | exact pwF_y hw (Or.inl (by assumption)) (by assumption) | exact pwF_y hw (Or.inr (Or.inl (by assumption))) (by assumption) | exact pwF_y hw (Or.inr (Or.inr (Or.inl (by assumption)))) (by assumption) | exact pwF_y hw (Or.inr (Or.inr (Or.inr (by assumption)))) (by assumption) | exact pwF_n hw (by assumption) (by assumption) (by assumption) (by assumption) (by assumption)
theorem lf_X10_pairsWithout_f_18 (a : Nat → Nat) (sn : Nat) (sk : Nat) (scu : Int32) (sch : Int32) (ot : Nat → Int32) (n1 : Int32) (n2 : Int32) (hsn : sn ≤ 24) (hsk : sk ≤ 8) (j1 : Nat) (w1 : Int32) (k5 : Nat) (hj5 : j1 ≤ sn) (hk5 : sn < j1 + (k5 + 1)) (hw : w1 = pwF (TV scu ot) n1 n2 j1) (c_1 : ¬ nI sn ≤ nI j1) (n_5 : j1 < sn) (c_13 : ¬ TV scu ot j1 0 = n1) (c_16 : TV scu ot j1 0 = n2) (x_17 : Int32) (ex_17 : x_17 = w1 + 0) : x_17 = pwF (TV scu ot) n1 n2 (j1 + 1) := by
  first | rfl | exact pwF_y hw (Or.inl (by assumption)) (by assumption) | exact pwF_y hw (Or.inr (Or.inl (by assumption))) (by assumption) | exact pwF_y hw (Or.inr (Or.inr (Or.inl (by assumption)))) (by assumption) | exact pwF_y hw (Or.inr (Or.inr (Or.inr (by assumption)))) (by assumption) | exact pwF_n hw (by assumption) (by assumption) (by assumption) (by assumption) (by assumption)
theorem lf_X10_pairsWithout_f_21 (a : Nat → Nat) (sn : Nat) (sk : Nat) (scu : Int32) (sch : Int32) (ot : Nat → Int32) (n1 : Int32) (n2 : Int32) (hsn : sn ≤ 24) (hsk : sk ≤ 8) (j1 : Nat) (w1 : Int32) (k5 : Nat) (hj5 : j1 ≤ sn) (hk5 : sn < j1 + (k5 + 1)) (hw : w1 = pwF (TV scu ot) n1 n2 j1) (c_1 : ¬ nI sn ≤ nI j1) (n_5 : j1 < sn) (c_13 : ¬ TV scu ot j1 0 = n1) (c_16 : ¬ TV scu ot j1 0 = n2) (c_19 : TV scu ot j1 1 = n1) (x_20 : Int32) (ex_20 : x_20 = w1 + 0) : x_20 = pwF (TV scu ot) n1 n2 (j1 + 1) := by
  first | rfl | exact pwF_y hw (Or.inl (by assumption)) (by assumption) | exact pwF_y hw (Or.inr (Or.inl (by assumption))) (by assumption) | exact pwF_y hw (Or.inr (Or.inr (Or.inl (by assumption)))) (by assumption) | exact pwF_y hw (Or.inr (Or.inr (Or.inr (by assumption)))) (by assumption) | exact pwF_n hw (by assumption) (by assumption) (by assumption) (by assumption) (by assumption)
theorem lf_X10_pairsWithout_f_24 (a : Nat → Nat) (sn : Nat) (sk : Nat) (scu : Int32) (sch : Int32) (ot : Nat → Int32) (n1 : Int32) (n2 : Int32) (hsn : sn ≤ 24) (hsk : sk ≤ 8) (j1 : Nat) (w1 : Int32) (k5 : Nat) (hj5 : j1 ≤ sn) (hk5 : sn < j1 + (k5 + 1)) (hw : w1 = pwF (TV scu ot) n1 n2 j1) (c_1 : ¬ nI sn ≤ nI j1) (n_5 : j1 < sn) (c_13 : ¬ TV scu ot j1 0 = n1) (c_16 : ¬ TV scu ot j1 0 = n2) (c_19 : ¬ TV scu ot j1 1 = n1) (c_22 : ¬ TV scu ot j1 1 = n2) (x_23 : Int32) (ex_23 : x_23 = w1 + 1) : x_23 = pwF (TV scu ot) n1 n2 (j1 + 1) := by
  first | rfl | exact pwF_y hw (Or.inl (by assumption)) (by assumption) | exact pwF_y hw (Or.inr (Or.inl (by assumption))) (by assumption) | exact pwF_y hw (Or.inr (Or.inr (Or.inl (by assumption)))) (by assumption) | exact pwF_y hw (Or.inr (Or.inr (Or.inr (by assumption)))) (by assumption) | exact pwF_n hw (by assumption) (by assumption) (by assumption) (by assumption) (by assumption)
theorem lf_X10_pairsWithout_f_26 (a : Nat → Nat) (sn : Nat) (sk : Nat) (scu : Int32) (sch : Int32) (ot : Nat → Int32) (n1 : Int32) (n2 : Int32) (hsn : sn ≤ 24) (hsk : sk ≤ 8) (j1 : Nat) (w1 : Int32) (k5 : Nat) (hj5 : j1 ≤ sn) (hk5 : sn < j1 + (k5 + 1)) (hw : w1 = pwF (TV scu ot) n1 n2 j1) (c_1 : ¬ nI sn ≤ nI j1) (n_5 : j1 < sn) (c_13 : ¬ TV scu ot j1 0 = n1) (c_16 : ¬ TV scu ot j1 0 = n2) (c_19 : ¬ TV scu ot j1 1 = n1) (c_22 : TV scu ot j1 1 = n2) (x_25 : Int32) (ex_25 : x_25 = w1 + 0) : x_25 = pwF (TV scu ot) n1 n2 (j1 + 1) := by
  first | rfl | exact pwF_y hw (Or.inl (by assumption)) (by assumption) | exact pwF_y hw (Or.inr (Or.inl (by assumption))) (by assumption) | exact pwF_y hw (Or.inr (Or.inr (Or.inl (by assumption)))) (by assumption) | exact pwF_y hw (Or.inr (Or.inr (Or.inr (by assumption)))) (by assumption) | exact pwF_n hw (by assumption) (by assumption) (by assumption) (by assumption) (by assumption)
theorem lf_X10_pairsWithout_f_27 (a : Nat → Nat) (sn : Nat) (sk : Nat) (scu : Int32) (sch : Int32) (ot : Nat → Int32) (n1 : Int32) (n2 : Int32) (hsn : sn ≤ 24) (hsk : sk ≤ 8) : (0 : Int32) = pwF (TV scu ot) n1 n2 0 := by
  first | rfl | exact pwF_y hw (Or.inl (by assumption)) (by assumption) | exact pwF_y hw (Or.inr (Or.inl (by assumption))) (by assumption) | exact pwF_y hw (Or.inr (Or.inr (Or.inl (by assumption)))) (by assumption) | exact pwF_y hw (Or.inr (Or.inr (Or.inr (by assumption)))) (by assumption) | exact pwF_n hw (by assumption) (by assumption) (by assumption) (by assumption) (by assumption)
set_option maxHeartbeats 4000000 in
set_option maxRecDepth 100000 in
theorem c_X10_pairsWithout_f (l : Launch) (D : va_G) (cI cB cZ cJ : ClassId) (tx : List (ClassId × FieldType)) (a : Nat → Nat) (sn : Nat) (sk : Nat) (scu : Int32) (sch : Int32) (ot : Nat → Int32) (n1 : Int32) (n2 : Int32) (hsn : sn ≤ 24) (hsk : sk ≤ 8) : RdI l D cI cB cZ cJ tx yX10_pairsWithout cX10_pairsWithout 8 (some .int) 2 [.ref (a 10), .int n1, .int n2] [(a 10, .inr (10, [.ref (a 5), .ref (a 46)])), (a 5, .inr (4, [.ref (a 18), .ref (a 19), .ref (a 20), .ref (a 21), .ref (a 22), .ref (a 23), .ref (a 24), .int (nI sn), .int (nI sk), .int scu, .int sch])), (a 46, .inl (cI, 48, .inl ot))] (fun r => r = pwF (TV scu ot) n1 n2 sn) := by
  refine rdi_of2 (by decide) (Nat.le_of_ble_eq_true rfl) ?_
  intro p e s m below meth c A ls H locs hC hK hP hD hA hS hl
  obtain ⟨hx, hb, hr, hml, hown, hts, hlocks, hin⟩ := hC
  have hown : s.vm.findClass RX10 = some m.cls := hown
  have hl : lv_has ls 8 [(0, .ref (a 10)), (1, .int n1), (2, .int n2)] := hl
  refine W_gQ (fun Q hQ => ?_)
  refine lv_iconst (v := 0) hx hb dX10_pairsWithout_0 (by decide) ?_
  refine lv_istore_n (lv' := [(3, .int 0), (0, .ref (a 10)), (1, .int n1), (2, .int n2)]) hx hb dX10_pairsWithout_1 rfl hl (by decide) rfl (fun ls hl => ?_)
  refine lv_iconst (v := 0) hx hb dX10_pairsWithout_2 (by decide) ?_
  refine lv_istore (lv' := [(4, .int 0), (3, .int 0), (0, .ref (a 10)), (1, .int n1), (2, .int n2)]) hx hb dX10_pairsWithout_3 hl (by decide) rfl (fun ls hl => ?_)
  have lp5 : ∀ (k5 : Nat) (j1 : Nat) (w1 : Int32) (H : Heap) (locs : List Loc) (ls : Array Slot), j1 ≤ sn → sn < j1 + k5 → (w1 = pwF (TV scu ot) n1 n2 j1) → va_P D vwCl [(a 10, .inr (10, [.ref (a 5), .ref (a 46)])), (a 5, .inr (4, [.ref (a 18), .ref (a 19), .ref (a 20), .ref (a 21), .ref (a 22), .ref (a 23), .ref (a 24), .int (nI sn), .int (nI sk), .int scu, .int sch])), (a 46, .inl (cI, 48, .inl ot))] H → va_S A s.heap H locs → lv_has ls 8 [(4, .int (nI j1)), (3, .int w1), (0, .ref (a 10)), (1, .int n1), (2, .int n2)] → W p l e (rmX 2 0 0) s m ([.ref (a 10), .int n1, .int n2] : List Value).toArray below meth c H locs 0 0 Q (F0 m 5 ls []) := by
    intro k5
    induction k5 with
    | zero =>
      intro j1 w1 H locs ls hj5 hk5 hw hP hS hl
      exact absurd hk5 (by omega)
    | succ k5 ih5 =>
      intro j1 w1 H locs ls hj5 hk5 hw hP hS hl
      refine lv_iload hx hb dX10_pairsWithout_5 (lv_at hl 0 rfl) ?_
      refine lv_aload_n hx hb dX10_pairsWithout_7 rfl (lv_at hl 2 rfl) ?_
      refine va_get (D := D) (ci := 10) (v := .ref (a 5)) (C := RX10) (T := TX10) (N := 2) hx hb hts inT_X10 hown hK.1 hP 0 rfl rfl 0 (by decide) (hts _ k_428) (fun _ h9 => h9) rfl dX10_pairsWithout_8 ?_
      refine va_getN (D := D) (ci := 4) (v := .int (nI sn)) (C := RX4) (T := TX4) (N := 11) hx hb hts inT_X4 hown hK.1 hP 1 rfl rfl 7 (by decide) (va_Nw.use rfl (hK.2.2.1 _ n_251)) (fun _ h9 => h9) rfl dX10_pairsWithout_11 ?_
      refine lv_icmp_ge (tgt := 85) hx hb dX10_pairsWithout_14 (by decide) (fun c_1 => ?_) (fun c_1 => ?_)
      · have n_2 : sn ≤ j1 := (lf_X10_pairsWithout_f_3 a sn sk scu sch ot n1 n2 hsn hsk j1 w1 k5 hj5 hk5 hw c_1)
        refine lv_iload_n hx hb dX10_pairsWithout_85 rfl (lv_at hl 1 rfl) ?_
        rw [hQ]
        exact W.iret (v := w1) hx hb hr (fun tt9 ht hW => ⟨⟨(w1 : Int32), (), rfl, (lf_X10_pairsWithout_f_4 a sn sk scu sch ot n1 n2 hsn hsk j1 w1 k5 hj5 hk5 hw c_1 n_2), trivial⟩, hS.F ht⟩) hS.2.2 dX10_pairsWithout_86 hlocks
      · have n_5 : j1 < sn := (lf_X10_pairsWithout_f_6 a sn sk scu sch ot n1 n2 hsn hsk j1 w1 k5 hj5 hk5 hw c_1)
        refine lv_aload_n hx hb dX10_pairsWithout_17 rfl (lv_at hl 2 rfl) ?_
        refine lv_iload hx hb dX10_pairsWithout_18 (lv_at hl 0 rfl) ?_
        refine lv_iconst (v := 0) hx hb dX10_pairsWithout_20 (by decide) ?_
        refine eRi (va_runV (As := [.int (nI j1), .int 0]) (rest := []) ⟨hx, hb, hml, hown, hts⟩ (c_X10_at_f l D cI cB cZ cJ tx a sn sk scu sch ot j1 0 (lf_X10_pairsWithout_f_7 a sn sk scu sch ot n1 n2 hsn hsk j1 w1 k5 hj5 hk5 hw c_1 n_5) (lf_X10_pairsWithout_f_8 a sn sk scu sch ot n1 n2 hsn hsk j1 w1 k5 hj5 hk5 hw c_1 n_5) H.size) (zV hts k_1129 v_X10_at ⟨Nat.le_of_ble_eq_true rfl, Nat.le_of_ble_eq_true rfl⟩) (pV (pxS hK hP hD [0, 1, 2] (by decide) rfl) hK hP 0 rfl rfl) rfl rfl hl.1 rfl (lv_room (Nat.le_of_ble_eq_true rfl)) dX10_pairsWithout_21 ⟨Nat.le_of_ble_eq_true rfl, Nat.le_of_ble_eq_true rfl⟩) hP hS hA (fun r_9 H locs wr_9 hP hS => ?_)
        subst wr_9
        refine lv_istore (lv' := [(5, .int (TV scu ot j1 0)), (4, .int (nI j1)), (3, .int w1), (0, .ref (a 10)), (1, .int n1), (2, .int n2)]) hx hb dX10_pairsWithout_24 hl (by decide) rfl (fun ls hl => ?_)
        refine lv_aload_n hx hb dX10_pairsWithout_26 rfl (lv_at hl 3 rfl) ?_
        refine lv_iload hx hb dX10_pairsWithout_27 (lv_at hl 1 rfl) ?_
        refine lv_iconst (v := 1) hx hb dX10_pairsWithout_29 (by decide) ?_
        refine eRi (va_runV (As := [.int (nI j1), .int 1]) (rest := []) ⟨hx, hb, hml, hown, hts⟩ (c_X10_at_f l D cI cB cZ cJ tx a sn sk scu sch ot j1 1 (lf_X10_pairsWithout_f_10 a sn sk scu sch ot n1 n2 hsn hsk j1 w1 k5 hj5 hk5 hw c_1 n_5) (lf_X10_pairsWithout_f_11 a sn sk scu sch ot n1 n2 hsn hsk j1 w1 k5 hj5 hk5 hw c_1 n_5) H.size) (zV hts k_1129 v_X10_at ⟨Nat.le_of_ble_eq_true rfl, Nat.le_of_ble_eq_true rfl⟩) (pV (pxS hK hP hD [0, 1, 2] (by decide) rfl) hK hP 0 rfl rfl) rfl rfl hl.1 rfl (lv_room (Nat.le_of_ble_eq_true rfl)) dX10_pairsWithout_30 ⟨Nat.le_of_ble_eq_true rfl, Nat.le_of_ble_eq_true rfl⟩) hP hS hA (fun r_12 H locs wr_12 hP hS => ?_)
        subst wr_12
        refine lv_istore (lv' := [(6, .int (TV scu ot j1 1)), (5, .int (TV scu ot j1 0)), (4, .int (nI j1)), (3, .int w1), (0, .ref (a 10)), (1, .int n1), (2, .int n2)]) hx hb dX10_pairsWithout_33 hl (by decide) rfl (fun ls hl => ?_)
        refine lv_iload hx hb dX10_pairsWithout_35 (lv_at hl 1 rfl) ?_
        refine lv_iload_n hx hb dX10_pairsWithout_37 rfl (lv_at hl 5 rfl) ?_
        refine lv_icmp_eq (tgt := 59) hx hb dX10_pairsWithout_38 (by decide) (fun c_13 => ?_) (fun c_13 => ?_)
        · refine lv_iconst (v := 1) hx hb dX10_pairsWithout_59 (by decide) ?_
          refine lv_goto (tgt := 64) hx hb dX10_pairsWithout_60 (by decide) ?_
          refine lv_istore (lv' := [(7, .int 1), (6, .int (TV scu ot j1 1)), (5, .int (TV scu ot j1 0)), (4, .int (nI j1)), (3, .int w1), (0, .ref (a 10)), (1, .int n1), (2, .int n2)]) hx hb dX10_pairsWithout_64 hl (by decide) rfl (fun ls hl => ?_)
          refine lv_iload_n hx hb dX10_pairsWithout_66 rfl (lv_at hl 4 rfl) ?_
          refine lv_iload hx hb dX10_pairsWithout_67 (lv_at hl 0 rfl) ?_
          refine lv_if_eq (tgt := 76) hx hb dX10_pairsWithout_69 (by decide) (fun c => absurd c (by decide)) (fun _ => ?_)
          refine lv_iconst (v := 0) hx hb dX10_pairsWithout_72 (by decide) ?_
          refine lv_goto (tgt := 77) hx hb dX10_pairsWithout_73 (by decide) ?_
          refine lv_iadd hx hb dX10_pairsWithout_77 ?_
          refine lv_topi (fun x_14 ex_14 => ?_)
          refine lv_istore_n (lv' := [(3, .int x_14), (7, .int 1), (6, .int (TV scu ot j1 1)), (5, .int (TV scu ot j1 0)), (4, .int (nI j1)), (0, .ref (a 10)), (1, .int n1), (2, .int n2)]) hx hb dX10_pairsWithout_78 rfl hl (by decide) rfl (fun ls hl => ?_)
          refine lv_iinc (v := nI (j1 + 1)) (lv' := [(4, .int (nI (j1 + 1))), (3, .int x_14), (7, .int 1), (6, .int (TV scu ot j1 1)), (5, .int (TV scu ot j1 0)), (0, .ref (a 10)), (1, .int n1), (2, .int n2)]) hx hb dX10_pairsWithout_79 hl (k := 4) rfl (nI_1 j1) (by decide) rfl (fun ls hl => ?_)
          refine lv_goto (tgt := 5) hx hb dX10_pairsWithout_82 (by decide) ?_
          exact ih5 (j1 + 1) x_14 H locs ls (by omega) (by omega) (lf_X10_pairsWithout_f_15 a sn sk scu sch ot n1 n2 hsn hsk j1 w1 k5 hj5 hk5 hw c_1 n_5 c_13 x_14 ex_14) (hP.sub [0, 1, 2] rfl)  hS (lv_sub hl [0, 1, 5, 6, 7] rfl)
        · refine lv_iload hx hb dX10_pairsWithout_41 (lv_at hl 1 rfl) ?_
          refine lv_iload_n hx hb dX10_pairsWithout_43 rfl (lv_at hl 6 rfl) ?_
          refine lv_icmp_eq (tgt := 59) hx hb dX10_pairsWithout_44 (by decide) (fun c_16 => ?_) (fun c_16 => ?_)
          · refine lv_iconst (v := 1) hx hb dX10_pairsWithout_59 (by decide) ?_
            refine lv_goto (tgt := 64) hx hb dX10_pairsWithout_60 (by decide) ?_
            refine lv_istore (lv' := [(7, .int 1), (6, .int (TV scu ot j1 1)), (5, .int (TV scu ot j1 0)), (4, .int (nI j1)), (3, .int w1), (0, .ref (a 10)), (1, .int n1), (2, .int n2)]) hx hb dX10_pairsWithout_64 hl (by decide) rfl (fun ls hl => ?_)
            refine lv_iload_n hx hb dX10_pairsWithout_66 rfl (lv_at hl 4 rfl) ?_
            refine lv_iload hx hb dX10_pairsWithout_67 (lv_at hl 0 rfl) ?_
            refine lv_if_eq (tgt := 76) hx hb dX10_pairsWithout_69 (by decide) (fun c => absurd c (by decide)) (fun _ => ?_)
            refine lv_iconst (v := 0) hx hb dX10_pairsWithout_72 (by decide) ?_
            refine lv_goto (tgt := 77) hx hb dX10_pairsWithout_73 (by decide) ?_
            refine lv_iadd hx hb dX10_pairsWithout_77 ?_
            refine lv_topi (fun x_17 ex_17 => ?_)
            refine lv_istore_n (lv' := [(3, .int x_17), (7, .int 1), (6, .int (TV scu ot j1 1)), (5, .int (TV scu ot j1 0)), (4, .int (nI j1)), (0, .ref (a 10)), (1, .int n1), (2, .int n2)]) hx hb dX10_pairsWithout_78 rfl hl (by decide) rfl (fun ls hl => ?_)
            refine lv_iinc (v := nI (j1 + 1)) (lv' := [(4, .int (nI (j1 + 1))), (3, .int x_17), (7, .int 1), (6, .int (TV scu ot j1 1)), (5, .int (TV scu ot j1 0)), (0, .ref (a 10)), (1, .int n1), (2, .int n2)]) hx hb dX10_pairsWithout_79 hl (k := 4) rfl (nI_1 j1) (by decide) rfl (fun ls hl => ?_)
            refine lv_goto (tgt := 5) hx hb dX10_pairsWithout_82 (by decide) ?_
            exact ih5 (j1 + 1) x_17 H locs ls (by omega) (by omega) (lf_X10_pairsWithout_f_18 a sn sk scu sch ot n1 n2 hsn hsk j1 w1 k5 hj5 hk5 hw c_1 n_5 c_13 c_16 x_17 ex_17) (hP.sub [0, 1, 2] rfl)  hS (lv_sub hl [0, 1, 5, 6, 7] rfl)
          · refine lv_iload hx hb dX10_pairsWithout_47 (lv_at hl 0 rfl) ?_
            refine lv_iload_n hx hb dX10_pairsWithout_49 rfl (lv_at hl 5 rfl) ?_
            refine lv_icmp_eq (tgt := 59) hx hb dX10_pairsWithout_50 (by decide) (fun c_19 => ?_) (fun c_19 => ?_)
            · refine lv_iconst (v := 1) hx hb dX10_pairsWithout_59 (by decide) ?_
              refine lv_goto (tgt := 64) hx hb dX10_pairsWithout_60 (by decide) ?_
              refine lv_istore (lv' := [(7, .int 1), (6, .int (TV scu ot j1 1)), (5, .int (TV scu ot j1 0)), (4, .int (nI j1)), (3, .int w1), (0, .ref (a 10)), (1, .int n1), (2, .int n2)]) hx hb dX10_pairsWithout_64 hl (by decide) rfl (fun ls hl => ?_)
              refine lv_iload_n hx hb dX10_pairsWithout_66 rfl (lv_at hl 4 rfl) ?_
              refine lv_iload hx hb dX10_pairsWithout_67 (lv_at hl 0 rfl) ?_
              refine lv_if_eq (tgt := 76) hx hb dX10_pairsWithout_69 (by decide) (fun c => absurd c (by decide)) (fun _ => ?_)
              refine lv_iconst (v := 0) hx hb dX10_pairsWithout_72 (by decide) ?_
              refine lv_goto (tgt := 77) hx hb dX10_pairsWithout_73 (by decide) ?_
              refine lv_iadd hx hb dX10_pairsWithout_77 ?_
              refine lv_topi (fun x_20 ex_20 => ?_)
              refine lv_istore_n (lv' := [(3, .int x_20), (7, .int 1), (6, .int (TV scu ot j1 1)), (5, .int (TV scu ot j1 0)), (4, .int (nI j1)), (0, .ref (a 10)), (1, .int n1), (2, .int n2)]) hx hb dX10_pairsWithout_78 rfl hl (by decide) rfl (fun ls hl => ?_)
              refine lv_iinc (v := nI (j1 + 1)) (lv' := [(4, .int (nI (j1 + 1))), (3, .int x_20), (7, .int 1), (6, .int (TV scu ot j1 1)), (5, .int (TV scu ot j1 0)), (0, .ref (a 10)), (1, .int n1), (2, .int n2)]) hx hb dX10_pairsWithout_79 hl (k := 4) rfl (nI_1 j1) (by decide) rfl (fun ls hl => ?_)
              refine lv_goto (tgt := 5) hx hb dX10_pairsWithout_82 (by decide) ?_
              exact ih5 (j1 + 1) x_20 H locs ls (by omega) (by omega) (lf_X10_pairsWithout_f_21 a sn sk scu sch ot n1 n2 hsn hsk j1 w1 k5 hj5 hk5 hw c_1 n_5 c_13 c_16 c_19 x_20 ex_20) (hP.sub [0, 1, 2] rfl)  hS (lv_sub hl [0, 1, 5, 6, 7] rfl)
            · refine lv_iload hx hb dX10_pairsWithout_53 (lv_at hl 0 rfl) ?_
              refine lv_iload_n hx hb dX10_pairsWithout_55 rfl (lv_at hl 6 rfl) ?_
              refine lv_icmp_ne (tgt := 63) hx hb dX10_pairsWithout_56 (by decide) (fun c_22 => ?_) (fun c_22 => ?_)
              · refine lv_iconst (v := 0) hx hb dX10_pairsWithout_63 (by decide) ?_
                refine lv_istore (lv' := [(7, .int 0), (6, .int (TV scu ot j1 1)), (5, .int (TV scu ot j1 0)), (4, .int (nI j1)), (3, .int w1), (0, .ref (a 10)), (1, .int n1), (2, .int n2)]) hx hb dX10_pairsWithout_64 hl (by decide) rfl (fun ls hl => ?_)
                refine lv_iload_n hx hb dX10_pairsWithout_66 rfl (lv_at hl 4 rfl) ?_
                refine lv_iload hx hb dX10_pairsWithout_67 (lv_at hl 0 rfl) ?_
                refine lv_if_eq (tgt := 76) hx hb dX10_pairsWithout_69 (by decide) (fun _ => ?_) (fun c => absurd c (by decide))
                refine lv_iconst (v := 1) hx hb dX10_pairsWithout_76 (by decide) ?_
                refine lv_iadd hx hb dX10_pairsWithout_77 ?_
                refine lv_topi (fun x_23 ex_23 => ?_)
                refine lv_istore_n (lv' := [(3, .int x_23), (7, .int 0), (6, .int (TV scu ot j1 1)), (5, .int (TV scu ot j1 0)), (4, .int (nI j1)), (0, .ref (a 10)), (1, .int n1), (2, .int n2)]) hx hb dX10_pairsWithout_78 rfl hl (by decide) rfl (fun ls hl => ?_)
                refine lv_iinc (v := nI (j1 + 1)) (lv' := [(4, .int (nI (j1 + 1))), (3, .int x_23), (7, .int 0), (6, .int (TV scu ot j1 1)), (5, .int (TV scu ot j1 0)), (0, .ref (a 10)), (1, .int n1), (2, .int n2)]) hx hb dX10_pairsWithout_79 hl (k := 4) rfl (nI_1 j1) (by decide) rfl (fun ls hl => ?_)
                refine lv_goto (tgt := 5) hx hb dX10_pairsWithout_82 (by decide) ?_
                exact ih5 (j1 + 1) x_23 H locs ls (by omega) (by omega) (lf_X10_pairsWithout_f_24 a sn sk scu sch ot n1 n2 hsn hsk j1 w1 k5 hj5 hk5 hw c_1 n_5 c_13 c_16 c_19 c_22 x_23 ex_23) (hP.sub [0, 1, 2] rfl)  hS (lv_sub hl [0, 1, 5, 6, 7] rfl)
              · refine lv_iconst (v := 1) hx hb dX10_pairsWithout_59 (by decide) ?_
                refine lv_goto (tgt := 64) hx hb dX10_pairsWithout_60 (by decide) ?_
                refine lv_istore (lv' := [(7, .int 1), (6, .int (TV scu ot j1 1)), (5, .int (TV scu ot j1 0)), (4, .int (nI j1)), (3, .int w1), (0, .ref (a 10)), (1, .int n1), (2, .int n2)]) hx hb dX10_pairsWithout_64 hl (by decide) rfl (fun ls hl => ?_)
                refine lv_iload_n hx hb dX10_pairsWithout_66 rfl (lv_at hl 4 rfl) ?_
                refine lv_iload hx hb dX10_pairsWithout_67 (lv_at hl 0 rfl) ?_
                refine lv_if_eq (tgt := 76) hx hb dX10_pairsWithout_69 (by decide) (fun c => absurd c (by decide)) (fun _ => ?_)
                refine lv_iconst (v := 0) hx hb dX10_pairsWithout_72 (by decide) ?_
                refine lv_goto (tgt := 77) hx hb dX10_pairsWithout_73 (by decide) ?_
                refine lv_iadd hx hb dX10_pairsWithout_77 ?_
                refine lv_topi (fun x_25 ex_25 => ?_)
                refine lv_istore_n (lv' := [(3, .int x_25), (7, .int 1), (6, .int (TV scu ot j1 1)), (5, .int (TV scu ot j1 0)), (4, .int (nI j1)), (0, .ref (a 10)), (1, .int n1), (2, .int n2)]) hx hb dX10_pairsWithout_78 rfl hl (by decide) rfl (fun ls hl => ?_)
                refine lv_iinc (v := nI (j1 + 1)) (lv' := [(4, .int (nI (j1 + 1))), (3, .int x_25), (7, .int 1), (6, .int (TV scu ot j1 1)), (5, .int (TV scu ot j1 0)), (0, .ref (a 10)), (1, .int n1), (2, .int n2)]) hx hb dX10_pairsWithout_79 hl (k := 4) rfl (nI_1 j1) (by decide) rfl (fun ls hl => ?_)
                refine lv_goto (tgt := 5) hx hb dX10_pairsWithout_82 (by decide) ?_
                exact ih5 (j1 + 1) x_25 H locs ls (by omega) (by omega) (lf_X10_pairsWithout_f_26 a sn sk scu sch ot n1 n2 hsn hsk j1 w1 k5 hj5 hk5 hw c_1 n_5 c_13 c_16 c_19 c_22 x_25 ex_25) (hP.sub [0, 1, 2] rfl)  hS (lv_sub hl [0, 1, 5, 6, 7] rfl)
  exact lp5 (sn + 1) 0 0 H locs ls (by omega) (by omega) (lf_X10_pairsWithout_f_27 a sn sk scu sch ot n1 n2 hsn hsk) (hP.sub [0, 1, 2] rfl)  hS (lv_sub hl [0, 1, 2, 3, 4] rfl)

theorem lf_X10_those_f_3 (a : Nat → Nat) (sn : Nat) (sk : Nat) (scu : Int32) (sch : Int32) (ot : Nat → Int32) (n1 : Int32) (hsn : sn ≤ 24) (hsk : sk ≤ 8) (j1 : Nat) (w1 : Int32) (k4 : Nat) (hj4 : j1 ≤ sn) (hk4 : sn < j1 + (k4 + 1)) (hw : w1 = thF (TV scu ot) n1 j1) (c_1 : nI sn ≤ nI j1) : sn ≤ j1 := by
  exact (nI_leI (a := sn) (b := j1) (by omega) (by omega)).mp c_1
theorem lf_X10_those_f_4 (a : Nat → Nat) (sn : Nat) (sk : Nat) (scu : Int32) (sch : Int32) (ot : Nat → Int32) (n1 : Int32) (hsn : sn ≤ 24) (hsk : sk ≤ 8) (j1 : Nat) (w1 : Int32) (k4 : Nat) (hj4 : j1 ≤ sn) (hk4 : sn < j1 + (k4 + 1)) (hw : w1 = thF (TV scu ot) n1 j1) (c_1 : nI sn ≤ nI j1) (n_2 : sn ≤ j1) : (w1 : Int32) = thF (TV scu ot) n1 sn := by
  exact atn (F := fun i => thF (TV scu ot) n1 i) (by assumption) (by assumption) (by assumption)
theorem lf_X10_those_f_6 (a : Nat → Nat) (sn : Nat) (sk : Nat) (scu : Int32) (sch : Int32) (ot : Nat → Int32) (n1 : Int32) (hsn : sn ≤ 24) (hsk : sk ≤ 8) (j1 : Nat) (w1 : Int32) (k4 : Nat) (hj4 : j1 ≤ sn) (hk4 : sn < j1 + (k4 + 1)) (hw : w1 = thF (TV scu ot) n1 j1) (c_1 : ¬ nI sn ≤ nI j1) : j1 < sn := by
  exact Nat.lt_of_not_le (fun q => c_1 ((nI_leI (a := sn) (b := j1) (by omega) (by omega)).mpr q))
theorem lf_X10_those_f_7 (a : Nat → Nat) (sn : Nat) (sk : Nat) (scu : Int32) (sch : Int32) (ot : Nat → Int32) (n1 : Int32) (hsn : sn ≤ 24) (hsk : sk ≤ 8) (j1 : Nat) (w1 : Int32) (k4 : Nat) (hj4 : j1 ≤ sn) (hk4 : sn < j1 + (k4 + 1)) (hw : w1 = thF (TV scu ot) n1 j1) (c_1 : ¬ nI sn ≤ nI j1) (n_5 : j1 < sn) : j1 < 24 := by
  first | assumption | omega | decide
theorem lf_X10_those_f_8 (a : Nat → Nat) (sn : Nat) (sk : Nat) (scu : Int32) (sch : Int32) (ot : Nat → Int32) (n1 : Int32) (hsn : sn ≤ 24) (hsk : sk ≤ 8) (j1 : Nat) (w1 : Int32) (k4 : Nat) (hj4 : j1 ≤ sn) (hk4 : sn < j1 + (k4 + 1)) (hw : w1 = thF (TV scu ot) n1 j1) (c_1 : ¬ nI sn ≤ nI j1) (n_5 : j1 < sn) : 0 < 2 := by
  first | assumption | omega | decide
theorem lf_X10_those_f_12 (a : Nat → Nat) (sn : Nat) (sk : Nat) (scu : Int32) (sch : Int32) (ot : Nat → Int32) (n1 : Int32) (hsn : sn ≤ 24) (hsk : sk ≤ 8) (j1 : Nat) (w1 : Int32) (k4 : Nat) (hj4 : j1 ≤ sn) (hk4 : sn < j1 + (k4 + 1)) (hw : w1 = thF (TV scu ot) n1 j1) (c_1 : ¬ nI sn ≤ nI j1) (n_5 : j1 < sn) (c_10 : TV scu ot j1 0 < n1) (x_11 : Int32) (ex_11 : x_11 = w1 + 0) : j1 < 24 := by
  first | assumption | omega | decide
theorem lf_X10_those_f_13 (a : Nat → Nat) (sn : Nat) (sk : Nat) (scu : Int32) (sch : Int32) (ot : Nat → Int32) (n1 : Int32) (hsn : sn ≤ 24) (hsk : sk ≤ 8) (j1 : Nat) (w1 : Int32) (k4 : Nat) (hj4 : j1 ≤ sn) (hk4 : sn < j1 + (k4 + 1)) (hw : w1 = thF (TV scu ot) n1 j1) (c_1 : ¬ nI sn ≤ nI j1) (n_5 : j1 < sn) (c_10 : TV scu ot j1 0 < n1) (x_11 : Int32) (ex_11 : x_11 = w1 + 0) : 1 < 2 := by
  first | assumption | omega | decide
theorem lf_X10_those_f_17 (a : Nat → Nat) (sn : Nat) (sk : Nat) (scu : Int32) (sch : Int32) (ot : Nat → Int32) (n1 : Int32) (hsn : sn ≤ 24) (hsk : sk ≤ 8) (j1 : Nat) (w1 : Int32) (k4 : Nat) (hj4 : j1 ≤ sn) (hk4 : sn < j1 + (k4 + 1)) (hw : w1 = thF (TV scu ot) n1 j1) (c_1 : ¬ nI sn ≤ nI j1) (n_5 : j1 < sn) (c_10 : TV scu ot j1 0 < n1) (x_11 : Int32) (ex_11 : x_11 = w1 + 0) (c_15 : TV scu ot j1 1 < n1) (x_16 : Int32) (ex_16 : x_16 = x_11 + 0) : x_16 = thF (TV scu ot) n1 (j1 + 1) := by
  first | rfl | exact thF_s hw (by first | exact (if_pos (by assumption)).symm | exact (if_neg (by assumption)).symm) (by first | exact (if_pos (by assumption)).symm | exact (if_neg (by assumption)).symm) (by assumption) (by assumption)
theorem lf_X10_those_f_19 (a : Nat → Nat) (sn : Nat) (sk : Nat) (scu : Int32) (sch : Int32) (ot : Nat → Int32) (n1 : Int32) (hsn : sn ≤ 24) (hsk : sk ≤ 8) (j1 : Nat) (w1 : Int32) (k4 : Nat) (hj4 : j1 ≤ sn) (hk4 : sn < j1 + (k4 + 1)) (hw : w1 = thF (TV scu ot) n1 j1) (c_1 : ¬ nI sn ≤ nI j1) (n_5 : j1 < sn) (c_10 : TV scu ot j1 0 < n1) (x_11 : Int32) (ex_11 : x_11 = w1 + 0) (c_15 : ¬ TV scu ot j1 1 < n1) (x_18 : Int32) (ex_18 : x_18 = x_11 + 1) : x_18 = thF (TV scu ot) n1 (j1 + 1) := by
  first | rfl | exact thF_s hw (by first | exact (if_pos (by assumption)).symm | exact (if_neg (by assumption)).symm) (by first | exact (if_pos (by assumption)).symm | exact (if_neg (by assumption)).symm) (by assumption) (by assumption)
theorem lf_X10_those_f_21 (a : Nat → Nat) (sn : Nat) (sk : Nat) (scu : Int32) (sch : Int32) (ot : Nat → Int32) (n1 : Int32) (hsn : sn ≤ 24) (hsk : sk ≤ 8) (j1 : Nat) (w1 : Int32) (k4 : Nat) (hj4 : j1 ≤ sn) (hk4 : sn < j1 + (k4 + 1)) (hw : w1 = thF (TV scu ot) n1 j1) (c_1 : ¬ nI sn ≤ nI j1) (n_5 : j1 < sn) (c_10 : ¬ TV scu ot j1 0 < n1) (x_20 : Int32) (ex_20 : x_20 = w1 + 1) : j1 < 24 := by
  first | assumption | omega | decide
theorem lf_X10_those_f_22 (a : Nat → Nat) (sn : Nat) (sk : Nat) (scu : Int32) (sch : Int32) (ot : Nat → Int32) (n1 : Int32) (hsn : sn ≤ 24) (hsk : sk ≤ 8) (j1 : Nat) (w1 : Int32) (k4 : Nat) (hj4 : j1 ≤ sn) (hk4 : sn < j1 + (k4 + 1)) (hw : w1 = thF (TV scu ot) n1 j1) (c_1 : ¬ nI sn ≤ nI j1) (n_5 : j1 < sn) (c_10 : ¬ TV scu ot j1 0 < n1) (x_20 : Int32) (ex_20 : x_20 = w1 + 1) : 1 < 2 := by
  first | assumption | omega | decide
theorem lf_X10_those_f_26 (a : Nat → Nat) (sn : Nat) (sk : Nat) (scu : Int32) (sch : Int32) (ot : Nat → Int32) (n1 : Int32) (hsn : sn ≤ 24) (hsk : sk ≤ 8) (j1 : Nat) (w1 : Int32) (k4 : Nat) (hj4 : j1 ≤ sn) (hk4 : sn < j1 + (k4 + 1)) (hw : w1 = thF (TV scu ot) n1 j1) (c_1 : ¬ nI sn ≤ nI j1) (n_5 : j1 < sn) (c_10 : ¬ TV scu ot j1 0 < n1) (x_20 : Int32) (ex_20 : x_20 = w1 + 1) (c_24 : TV scu ot j1 1 < n1) (x_25 : Int32) (ex_25 : x_25 = x_20 + 0) : x_25 = thF (TV scu ot) n1 (j1 + 1) := by
  first | rfl | exact thF_s hw (by first | exact (if_pos (by assumption)).symm | exact (if_neg (by assumption)).symm) (by first | exact (if_pos (by assumption)).symm | exact (if_neg (by assumption)).symm) (by assumption) (by assumption)
theorem lf_X10_those_f_28 (a : Nat → Nat) (sn : Nat) (sk : Nat) (scu : Int32) (sch : Int32) (ot : Nat → Int32) (n1 : Int32) (hsn : sn ≤ 24) (hsk : sk ≤ 8) (j1 : Nat) (w1 : Int32) (k4 : Nat) (hj4 : j1 ≤ sn) (hk4 : sn < j1 + (k4 + 1)) (hw : w1 = thF (TV scu ot) n1 j1) (c_1 : ¬ nI sn ≤ nI j1) (n_5 : j1 < sn) (c_10 : ¬ TV scu ot j1 0 < n1) (x_20 : Int32) (ex_20 : x_20 = w1 + 1) (c_24 : ¬ TV scu ot j1 1 < n1) (x_27 : Int32) (ex_27 : x_27 = x_20 + 1) : x_27 = thF (TV scu ot) n1 (j1 + 1) := by
  first | rfl | exact thF_s hw (by first | exact (if_pos (by assumption)).symm | exact (if_neg (by assumption)).symm) (by first | exact (if_pos (by assumption)).symm | exact (if_neg (by assumption)).symm) (by assumption) (by assumption)
theorem lf_X10_those_f_29 (a : Nat → Nat) (sn : Nat) (sk : Nat) (scu : Int32) (sch : Int32) (ot : Nat → Int32) (n1 : Int32) (hsn : sn ≤ 24) (hsk : sk ≤ 8) : (0 : Int32) = thF (TV scu ot) n1 0 := by
  first | rfl | exact thF_s hw (by first | exact (if_pos (by assumption)).symm | exact (if_neg (by assumption)).symm) (by first | exact (if_pos (by assumption)).symm | exact (if_neg (by assumption)).symm) (by assumption) (by assumption)
set_option maxHeartbeats 4000000 in
set_option maxRecDepth 100000 in
theorem c_X10_those_f (l : Launch) (D : va_G) (cI cB cZ cJ : ClassId) (tx : List (ClassId × FieldType)) (a : Nat → Nat) (sn : Nat) (sk : Nat) (scu : Int32) (sch : Int32) (ot : Nat → Int32) (n1 : Int32) (hsn : sn ≤ 24) (hsk : sk ≤ 8) : RdI l D cI cB cZ cJ tx yX10_those cX10_those 4 (some .int) 2 [.ref (a 10), .int n1] [(a 10, .inr (10, [.ref (a 5), .ref (a 46)])), (a 5, .inr (4, [.ref (a 18), .ref (a 19), .ref (a 20), .ref (a 21), .ref (a 22), .ref (a 23), .ref (a 24), .int (nI sn), .int (nI sk), .int scu, .int sch])), (a 46, .inl (cI, 48, .inl ot))] (fun r => r = thF (TV scu ot) n1 sn) := by
  refine rdi_of2 (by decide) (Nat.le_of_ble_eq_true rfl) ?_
  intro p e s m below meth c A ls H locs hC hK hP hD hA hS hl
  obtain ⟨hx, hb, hr, hml, hown, hts, hlocks, hin⟩ := hC
  have hown : s.vm.findClass RX10 = some m.cls := hown
  have hl : lv_has ls 4 [(0, .ref (a 10)), (1, .int n1)] := hl
  refine W_gQ (fun Q hQ => ?_)
  refine lv_iconst (v := 0) hx hb dX10_those_0 (by decide) ?_
  refine lv_istore_n (lv' := [(2, .int 0), (0, .ref (a 10)), (1, .int n1)]) hx hb dX10_those_1 rfl hl (by decide) rfl (fun ls hl => ?_)
  refine lv_iconst (v := 0) hx hb dX10_those_2 (by decide) ?_
  refine lv_istore_n (lv' := [(3, .int 0), (2, .int 0), (0, .ref (a 10)), (1, .int n1)]) hx hb dX10_those_3 rfl hl (by decide) rfl (fun ls hl => ?_)
  have lp4 : ∀ (k4 : Nat) (j1 : Nat) (w1 : Int32) (H : Heap) (locs : List Loc) (ls : Array Slot), j1 ≤ sn → sn < j1 + k4 → (w1 = thF (TV scu ot) n1 j1) → va_P D vwCl [(a 10, .inr (10, [.ref (a 5), .ref (a 46)])), (a 5, .inr (4, [.ref (a 18), .ref (a 19), .ref (a 20), .ref (a 21), .ref (a 22), .ref (a 23), .ref (a 24), .int (nI sn), .int (nI sk), .int scu, .int sch])), (a 46, .inl (cI, 48, .inl ot))] H → va_S A s.heap H locs → lv_has ls 4 [(3, .int (nI j1)), (2, .int w1), (0, .ref (a 10)), (1, .int n1)] → W p l e (rmX 2 0 0) s m ([.ref (a 10), .int n1] : List Value).toArray below meth c H locs 0 0 Q (F0 m 4 ls []) := by
    intro k4
    induction k4 with
    | zero =>
      intro j1 w1 H locs ls hj4 hk4 hw hP hS hl
      exact absurd hk4 (by omega)
    | succ k4 ih4 =>
      intro j1 w1 H locs ls hj4 hk4 hw hP hS hl
      refine lv_iload_n hx hb dX10_those_4 rfl (lv_at hl 0 rfl) ?_
      refine lv_aload_n hx hb dX10_those_5 rfl (lv_at hl 2 rfl) ?_
      refine va_get (D := D) (ci := 10) (v := .ref (a 5)) (C := RX10) (T := TX10) (N := 2) hx hb hts inT_X10 hown hK.1 hP 0 rfl rfl 0 (by decide) (hts _ k_428) (fun _ h9 => h9) rfl dX10_those_6 ?_
      refine va_getN (D := D) (ci := 4) (v := .int (nI sn)) (C := RX4) (T := TX4) (N := 11) hx hb hts inT_X4 hown hK.1 hP 1 rfl rfl 7 (by decide) (va_Nw.use rfl (hK.2.2.1 _ n_251)) (fun _ h9 => h9) rfl dX10_those_9 ?_
      refine lv_icmp_ge (tgt := 57) hx hb dX10_those_12 (by decide) (fun c_1 => ?_) (fun c_1 => ?_)
      · have n_2 : sn ≤ j1 := (lf_X10_those_f_3 a sn sk scu sch ot n1 hsn hsk j1 w1 k4 hj4 hk4 hw c_1)
        refine lv_iload_n hx hb dX10_those_57 rfl (lv_at hl 1 rfl) ?_
        rw [hQ]
        exact W.iret (v := w1) hx hb hr (fun tt9 ht hW => ⟨⟨(w1 : Int32), (), rfl, (lf_X10_those_f_4 a sn sk scu sch ot n1 hsn hsk j1 w1 k4 hj4 hk4 hw c_1 n_2), trivial⟩, hS.F ht⟩) hS.2.2 dX10_those_58 hlocks
      · have n_5 : j1 < sn := (lf_X10_those_f_6 a sn sk scu sch ot n1 hsn hsk j1 w1 k4 hj4 hk4 hw c_1)
        refine lv_iload_n hx hb dX10_those_15 rfl (lv_at hl 1 rfl) ?_
        refine lv_aload_n hx hb dX10_those_16 rfl (lv_at hl 2 rfl) ?_
        refine lv_iload_n hx hb dX10_those_17 rfl (lv_at hl 0 rfl) ?_
        refine lv_iconst (v := 0) hx hb dX10_those_18 (by decide) ?_
        refine eRi (va_runV (As := [.int (nI j1), .int 0]) (rest := [.int w1]) ⟨hx, hb, hml, hown, hts⟩ (c_X10_at_f l D cI cB cZ cJ tx a sn sk scu sch ot j1 0 (lf_X10_those_f_7 a sn sk scu sch ot n1 hsn hsk j1 w1 k4 hj4 hk4 hw c_1 n_5) (lf_X10_those_f_8 a sn sk scu sch ot n1 hsn hsk j1 w1 k4 hj4 hk4 hw c_1 n_5) H.size) (zV hts k_1129 v_X10_at ⟨Nat.le_of_ble_eq_true rfl, Nat.le_of_ble_eq_true rfl⟩) (pV (pxS hK hP hD [0, 1, 2] (by decide) rfl) hK hP 0 rfl rfl) rfl rfl hl.1 rfl (lv_room (Nat.le_of_ble_eq_true rfl)) dX10_those_19 ⟨Nat.le_of_ble_eq_true rfl, Nat.le_of_ble_eq_true rfl⟩) hP hS hA (fun r_9 H locs wr_9 hP hS => ?_)
        subst wr_9
        refine lv_iload_n hx hb dX10_those_22 rfl (lv_at hl 3 rfl) ?_
        refine lv_icmp_lt (tgt := 30) hx hb dX10_those_23 (by decide) (fun c_10 => ?_) (fun c_10 => ?_)
        · refine lv_iconst (v := 0) hx hb dX10_those_30 (by decide) ?_
          refine lv_iadd hx hb dX10_those_31 ?_
          refine lv_topi (fun x_11 ex_11 => ?_)
          refine lv_istore_n (lv' := [(2, .int x_11), (3, .int (nI j1)), (0, .ref (a 10)), (1, .int n1)]) hx hb dX10_those_32 rfl hl (by decide) rfl (fun ls hl => ?_)
          refine lv_iload_n hx hb dX10_those_33 rfl (lv_at hl 0 rfl) ?_
          refine lv_aload_n hx hb dX10_those_34 rfl (lv_at hl 2 rfl) ?_
          refine lv_iload_n hx hb dX10_those_35 rfl (lv_at hl 1 rfl) ?_
          refine lv_iconst (v := 1) hx hb dX10_those_36 (by decide) ?_
          refine eRi (va_runV (As := [.int (nI j1), .int 1]) (rest := [.int x_11]) ⟨hx, hb, hml, hown, hts⟩ (c_X10_at_f l D cI cB cZ cJ tx a sn sk scu sch ot j1 1 (lf_X10_those_f_12 a sn sk scu sch ot n1 hsn hsk j1 w1 k4 hj4 hk4 hw c_1 n_5 c_10 x_11 ex_11) (lf_X10_those_f_13 a sn sk scu sch ot n1 hsn hsk j1 w1 k4 hj4 hk4 hw c_1 n_5 c_10 x_11 ex_11) H.size) (zV hts k_1129 v_X10_at ⟨Nat.le_of_ble_eq_true rfl, Nat.le_of_ble_eq_true rfl⟩) (pV (pxS hK hP hD [0, 1, 2] (by decide) rfl) hK hP 0 rfl rfl) rfl rfl hl.1 rfl (lv_room (Nat.le_of_ble_eq_true rfl)) dX10_those_37 ⟨Nat.le_of_ble_eq_true rfl, Nat.le_of_ble_eq_true rfl⟩) hP hS hA (fun r_14 H locs wr_14 hP hS => ?_)
          subst wr_14
          refine lv_iload_n hx hb dX10_those_40 rfl (lv_at hl 3 rfl) ?_
          refine lv_icmp_lt (tgt := 48) hx hb dX10_those_41 (by decide) (fun c_15 => ?_) (fun c_15 => ?_)
          · refine lv_iconst (v := 0) hx hb dX10_those_48 (by decide) ?_
            refine lv_iadd hx hb dX10_those_49 ?_
            refine lv_topi (fun x_16 ex_16 => ?_)
            refine lv_istore_n (lv' := [(2, .int x_16), (3, .int (nI j1)), (0, .ref (a 10)), (1, .int n1)]) hx hb dX10_those_50 rfl hl (by decide) rfl (fun ls hl => ?_)
            refine lv_iinc (v := nI (j1 + 1)) (lv' := [(3, .int (nI (j1 + 1))), (2, .int x_16), (0, .ref (a 10)), (1, .int n1)]) hx hb dX10_those_51 hl (k := 1) rfl (nI_1 j1) (by decide) rfl (fun ls hl => ?_)
            refine lv_goto (tgt := 4) hx hb dX10_those_54 (by decide) ?_
            exact ih4 (j1 + 1) x_16 H locs ls (by omega) (by omega) (lf_X10_those_f_17 a sn sk scu sch ot n1 hsn hsk j1 w1 k4 hj4 hk4 hw c_1 n_5 c_10 x_11 ex_11 c_15 x_16 ex_16) (hP.sub [0, 1, 2] rfl)  hS (lv_sub hl [0, 1, 2, 3] rfl)
          · refine lv_iconst (v := 1) hx hb dX10_those_44 (by decide) ?_
            refine lv_goto (tgt := 49) hx hb dX10_those_45 (by decide) ?_
            refine lv_iadd hx hb dX10_those_49 ?_
            refine lv_topi (fun x_18 ex_18 => ?_)
            refine lv_istore_n (lv' := [(2, .int x_18), (3, .int (nI j1)), (0, .ref (a 10)), (1, .int n1)]) hx hb dX10_those_50 rfl hl (by decide) rfl (fun ls hl => ?_)
            refine lv_iinc (v := nI (j1 + 1)) (lv' := [(3, .int (nI (j1 + 1))), (2, .int x_18), (0, .ref (a 10)), (1, .int n1)]) hx hb dX10_those_51 hl (k := 1) rfl (nI_1 j1) (by decide) rfl (fun ls hl => ?_)
            refine lv_goto (tgt := 4) hx hb dX10_those_54 (by decide) ?_
            exact ih4 (j1 + 1) x_18 H locs ls (by omega) (by omega) (lf_X10_those_f_19 a sn sk scu sch ot n1 hsn hsk j1 w1 k4 hj4 hk4 hw c_1 n_5 c_10 x_11 ex_11 c_15 x_18 ex_18) (hP.sub [0, 1, 2] rfl)  hS (lv_sub hl [0, 1, 2, 3] rfl)
        · refine lv_iconst (v := 1) hx hb dX10_those_26 (by decide) ?_
          refine lv_goto (tgt := 31) hx hb dX10_those_27 (by decide) ?_
          refine lv_iadd hx hb dX10_those_31 ?_
          refine lv_topi (fun x_20 ex_20 => ?_)
          refine lv_istore_n (lv' := [(2, .int x_20), (3, .int (nI j1)), (0, .ref (a 10)), (1, .int n1)]) hx hb dX10_those_32 rfl hl (by decide) rfl (fun ls hl => ?_)
          refine lv_iload_n hx hb dX10_those_33 rfl (lv_at hl 0 rfl) ?_
          refine lv_aload_n hx hb dX10_those_34 rfl (lv_at hl 2 rfl) ?_
          refine lv_iload_n hx hb dX10_those_35 rfl (lv_at hl 1 rfl) ?_
          refine lv_iconst (v := 1) hx hb dX10_those_36 (by decide) ?_
          refine eRi (va_runV (As := [.int (nI j1), .int 1]) (rest := [.int x_20]) ⟨hx, hb, hml, hown, hts⟩ (c_X10_at_f l D cI cB cZ cJ tx a sn sk scu sch ot j1 1 (lf_X10_those_f_21 a sn sk scu sch ot n1 hsn hsk j1 w1 k4 hj4 hk4 hw c_1 n_5 c_10 x_20 ex_20) (lf_X10_those_f_22 a sn sk scu sch ot n1 hsn hsk j1 w1 k4 hj4 hk4 hw c_1 n_5 c_10 x_20 ex_20) H.size) (zV hts k_1129 v_X10_at ⟨Nat.le_of_ble_eq_true rfl, Nat.le_of_ble_eq_true rfl⟩) (pV (pxS hK hP hD [0, 1, 2] (by decide) rfl) hK hP 0 rfl rfl) rfl rfl hl.1 rfl (lv_room (Nat.le_of_ble_eq_true rfl)) dX10_those_37 ⟨Nat.le_of_ble_eq_true rfl, Nat.le_of_ble_eq_true rfl⟩) hP hS hA (fun r_23 H locs wr_23 hP hS => ?_)
          subst wr_23
          refine lv_iload_n hx hb dX10_those_40 rfl (lv_at hl 3 rfl) ?_
          refine lv_icmp_lt (tgt := 48) hx hb dX10_those_41 (by decide) (fun c_24 => ?_) (fun c_24 => ?_)
          · refine lv_iconst (v := 0) hx hb dX10_those_48 (by decide) ?_
            refine lv_iadd hx hb dX10_those_49 ?_
            refine lv_topi (fun x_25 ex_25 => ?_)
            refine lv_istore_n (lv' := [(2, .int x_25), (3, .int (nI j1)), (0, .ref (a 10)), (1, .int n1)]) hx hb dX10_those_50 rfl hl (by decide) rfl (fun ls hl => ?_)
            refine lv_iinc (v := nI (j1 + 1)) (lv' := [(3, .int (nI (j1 + 1))), (2, .int x_25), (0, .ref (a 10)), (1, .int n1)]) hx hb dX10_those_51 hl (k := 1) rfl (nI_1 j1) (by decide) rfl (fun ls hl => ?_)
            refine lv_goto (tgt := 4) hx hb dX10_those_54 (by decide) ?_
            exact ih4 (j1 + 1) x_25 H locs ls (by omega) (by omega) (lf_X10_those_f_26 a sn sk scu sch ot n1 hsn hsk j1 w1 k4 hj4 hk4 hw c_1 n_5 c_10 x_20 ex_20 c_24 x_25 ex_25) (hP.sub [0, 1, 2] rfl)  hS (lv_sub hl [0, 1, 2, 3] rfl)
          · refine lv_iconst (v := 1) hx hb dX10_those_44 (by decide) ?_
            refine lv_goto (tgt := 49) hx hb dX10_those_45 (by decide) ?_
            refine lv_iadd hx hb dX10_those_49 ?_
            refine lv_topi (fun x_27 ex_27 => ?_)
            refine lv_istore_n (lv' := [(2, .int x_27), (3, .int (nI j1)), (0, .ref (a 10)), (1, .int n1)]) hx hb dX10_those_50 rfl hl (by decide) rfl (fun ls hl => ?_)
            refine lv_iinc (v := nI (j1 + 1)) (lv' := [(3, .int (nI (j1 + 1))), (2, .int x_27), (0, .ref (a 10)), (1, .int n1)]) hx hb dX10_those_51 hl (k := 1) rfl (nI_1 j1) (by decide) rfl (fun ls hl => ?_)
            refine lv_goto (tgt := 4) hx hb dX10_those_54 (by decide) ?_
            exact ih4 (j1 + 1) x_27 H locs ls (by omega) (by omega) (lf_X10_those_f_28 a sn sk scu sch ot n1 hsn hsk j1 w1 k4 hj4 hk4 hw c_1 n_5 c_10 x_20 ex_20 c_24 x_27 ex_27) (hP.sub [0, 1, 2] rfl)  hS (lv_sub hl [0, 1, 2, 3] rfl)
  exact lp4 (sn + 1) 0 0 H locs ls (by omega) (by omega) (lf_X10_those_f_29 a sn sk scu sch ot n1 hsn hsk) (hP.sub [0, 1, 2] rfl)  hS (lv_sub hl [0, 1, 2, 3] rfl)

theorem lf_X10_pairsSeen_f_1 (a : Nat → Nat) (sn : Nat) (sk : Nat) (scu : Int32) (sch : Int32) (ot : Nat → Int32) (hsn : sn ≤ 24) (hsk : sk ≤ 8) : sn ≤ 24 := by
  first | assumption | omega | decide
theorem lf_X10_pairsSeen_f_2 (a : Nat → Nat) (sn : Nat) (sk : Nat) (scu : Int32) (sch : Int32) (ot : Nat → Int32) (hsn : sn ≤ 24) (hsk : sk ≤ 8) : sk ≤ 8 := by
  first | assumption | omega | decide
theorem lf_X10_pairsSeen_f_4 (a : Nat → Nat) (sn : Nat) (sk : Nat) (scu : Int32) (sch : Int32) (ot : Nat → Int32) (hsn : sn ≤ 24) (hsk : sk ≤ 8) : (pwF (TV scu ot) 0 (-1) sn : Int32) = pwF (TV scu ot) 0 (-1) sn := by
  rfl
set_option maxHeartbeats 4000000 in
set_option maxRecDepth 100000 in
theorem c_X10_pairsSeen_f (l : Launch) (D : va_G) (cI cB cZ cJ : ClassId) (tx : List (ClassId × FieldType)) (a : Nat → Nat) (sn : Nat) (sk : Nat) (scu : Int32) (sch : Int32) (ot : Nat → Int32) (hsn : sn ≤ 24) (hsk : sk ≤ 8) : RdI l D cI cB cZ cJ tx yX10_pairsSeen cX10_pairsSeen 1 (some .int) 3 [.ref (a 10)] [(a 10, .inr (10, [.ref (a 5), .ref (a 46)])), (a 5, .inr (4, [.ref (a 18), .ref (a 19), .ref (a 20), .ref (a 21), .ref (a 22), .ref (a 23), .ref (a 24), .int (nI sn), .int (nI sk), .int scu, .int sch])), (a 46, .inl (cI, 48, .inl ot))] (fun r => r = pwF (TV scu ot) 0 (-1) sn) := by
  refine rdi_of2 (by decide) (Nat.le_of_ble_eq_true rfl) ?_
  intro p e s m below meth c A ls H locs hC hK hP hD hA hS hl
  obtain ⟨hx, hb, hr, hml, hown, hts, hlocks, hin⟩ := hC
  have hown : s.vm.findClass RX10 = some m.cls := hown
  have hl : lv_has ls 1 [(0, .ref (a 10))] := hl
  refine W_gQ (fun Q hQ => ?_)
  refine lv_aload_n hx hb dX10_pairsSeen_0 rfl (lv_at hl 0 rfl) ?_
  refine lv_iconst (v := 0) hx hb dX10_pairsSeen_1 (by decide) ?_
  refine lv_iconst (v := (-1)) hx hb dX10_pairsSeen_2 (by decide) ?_
  refine eRi (va_runV (As := [.int 0, .int (-1)]) (rest := []) ⟨hx, hb, hml, hown, hts⟩ (c_X10_pairsWithout_f l D cI cB cZ cJ tx a sn sk scu sch ot 0 (-1) (lf_X10_pairsSeen_f_1 a sn sk scu sch ot hsn hsk) (lf_X10_pairsSeen_f_2 a sn sk scu sch ot hsn hsk) H.size) (zV hts k_1125 v_X10_pairsWithout ⟨Nat.le_of_ble_eq_true rfl, Nat.le_of_ble_eq_true rfl⟩) (pV (pxS hK hP hD [0, 1, 2] (by decide) rfl) hK hP 0 rfl rfl) rfl rfl hl.1 rfl (lv_room (Nat.le_of_ble_eq_true rfl)) dX10_pairsSeen_3 ⟨Nat.le_of_ble_eq_true rfl, Nat.le_of_ble_eq_true rfl⟩) hP hS hA (fun r_3 H locs wr_3 hP hS => ?_)
  subst wr_3
  rw [hQ]
  exact W.iret (v := pwF (TV scu ot) 0 (-1) sn) hx hb hr (fun tt9 ht hW => ⟨⟨(pwF (TV scu ot) 0 (-1) sn : Int32), (), rfl, (lf_X10_pairsSeen_f_4 a sn sk scu sch ot hsn hsk), trivial⟩, hS.F ht⟩) hS.2.2 dX10_pairsSeen_6 hlocks

theorem lf_X10_pairsThatMayBe_f_1 (a : Nat → Nat) (sn : Nat) (sk : Nat) (scu : Int32) (sch : Int32) (ot : Nat → Int32) (hsn : sn ≤ 24) (hsk : sk ≤ 8) : sn ≤ 24 := by
  first | assumption | omega | decide
theorem lf_X10_pairsThatMayBe_f_2 (a : Nat → Nat) (sn : Nat) (sk : Nat) (scu : Int32) (sch : Int32) (ot : Nat → Int32) (hsn : sn ≤ 24) (hsk : sk ≤ 8) : sk ≤ 8 := by
  first | assumption | omega | decide
theorem lf_X10_pairsThatMayBe_f_4 (a : Nat → Nat) (sn : Nat) (sk : Nat) (scu : Int32) (sch : Int32) (ot : Nat → Int32) (hsn : sn ≤ 24) (hsk : sk ≤ 8) : (pwF (TV scu ot) 0 0 sn : Int32) = pwF (TV scu ot) 0 0 sn := by
  rfl
set_option maxHeartbeats 4000000 in
set_option maxRecDepth 100000 in
theorem c_X10_pairsThatMayBe_f (l : Launch) (D : va_G) (cI cB cZ cJ : ClassId) (tx : List (ClassId × FieldType)) (a : Nat → Nat) (sn : Nat) (sk : Nat) (scu : Int32) (sch : Int32) (ot : Nat → Int32) (hsn : sn ≤ 24) (hsk : sk ≤ 8) : RdI l D cI cB cZ cJ tx yX10_pairsThatMayBe cX10_pairsThatMayBe 1 (some .int) 3 [.ref (a 10)] [(a 10, .inr (10, [.ref (a 5), .ref (a 46)])), (a 5, .inr (4, [.ref (a 18), .ref (a 19), .ref (a 20), .ref (a 21), .ref (a 22), .ref (a 23), .ref (a 24), .int (nI sn), .int (nI sk), .int scu, .int sch])), (a 46, .inl (cI, 48, .inl ot))] (fun r => r = pwF (TV scu ot) 0 0 sn) := by
  refine rdi_of2 (by decide) (Nat.le_of_ble_eq_true rfl) ?_
  intro p e s m below meth c A ls H locs hC hK hP hD hA hS hl
  obtain ⟨hx, hb, hr, hml, hown, hts, hlocks, hin⟩ := hC
  have hown : s.vm.findClass RX10 = some m.cls := hown
  have hl : lv_has ls 1 [(0, .ref (a 10))] := hl
  refine W_gQ (fun Q hQ => ?_)
  refine lv_aload_n hx hb dX10_pairsThatMayBe_0 rfl (lv_at hl 0 rfl) ?_
  refine lv_iconst (v := 0) hx hb dX10_pairsThatMayBe_1 (by decide) ?_
  refine lv_iconst (v := 0) hx hb dX10_pairsThatMayBe_2 (by decide) ?_
  refine eRi (va_runV (As := [.int 0, .int 0]) (rest := []) ⟨hx, hb, hml, hown, hts⟩ (c_X10_pairsWithout_f l D cI cB cZ cJ tx a sn sk scu sch ot 0 0 (lf_X10_pairsThatMayBe_f_1 a sn sk scu sch ot hsn hsk) (lf_X10_pairsThatMayBe_f_2 a sn sk scu sch ot hsn hsk) H.size) (zV hts k_1125 v_X10_pairsWithout ⟨Nat.le_of_ble_eq_true rfl, Nat.le_of_ble_eq_true rfl⟩) (pV (pxS hK hP hD [0, 1, 2] (by decide) rfl) hK hP 0 rfl rfl) rfl rfl hl.1 rfl (lv_room (Nat.le_of_ble_eq_true rfl)) dX10_pairsThatMayBe_3 ⟨Nat.le_of_ble_eq_true rfl, Nat.le_of_ble_eq_true rfl⟩) hP hS hA (fun r_3 H locs wr_3 hP hS => ?_)
  subst wr_3
  rw [hQ]
  exact W.iret (v := pwF (TV scu ot) 0 0 sn) hx hb hr (fun tt9 ht hW => ⟨⟨(pwF (TV scu ot) 0 0 sn : Int32), (), rfl, (lf_X10_pairsThatMayBe_f_4 a sn sk scu sch ot hsn hsk), trivial⟩, hS.F ht⟩) hS.2.2 dX10_pairsThatMayBe_6 hlocks

theorem lf_X10_known_f_1 (a : Nat → Nat) (sn : Nat) (sk : Nat) (scu : Int32) (sch : Int32) (ot : Nat → Int32) (hsn : sn ≤ 24) (hsk : sk ≤ 8) : sn ≤ 24 := by
  first | assumption | omega | decide
theorem lf_X10_known_f_2 (a : Nat → Nat) (sn : Nat) (sk : Nat) (scu : Int32) (sch : Int32) (ot : Nat → Int32) (hsn : sn ≤ 24) (hsk : sk ≤ 8) : sk ≤ 8 := by
  first | assumption | omega | decide
theorem lf_X10_known_f_4 (a : Nat → Nat) (sn : Nat) (sk : Nat) (scu : Int32) (sch : Int32) (ot : Nat → Int32) (hsn : sn ≤ 24) (hsk : sk ≤ 8) : (thF (TV scu ot) 0 sn : Int32) = thF (TV scu ot) 0 sn := by
  rfl
set_option maxHeartbeats 4000000 in
set_option maxRecDepth 100000 in
theorem c_X10_known_f (l : Launch) (D : va_G) (cI cB cZ cJ : ClassId) (tx : List (ClassId × FieldType)) (a : Nat → Nat) (sn : Nat) (sk : Nat) (scu : Int32) (sch : Int32) (ot : Nat → Int32) (hsn : sn ≤ 24) (hsk : sk ≤ 8) : RdI l D cI cB cZ cJ tx yX10_known cX10_known 1 (some .int) 3 [.ref (a 10)] [(a 10, .inr (10, [.ref (a 5), .ref (a 46)])), (a 5, .inr (4, [.ref (a 18), .ref (a 19), .ref (a 20), .ref (a 21), .ref (a 22), .ref (a 23), .ref (a 24), .int (nI sn), .int (nI sk), .int scu, .int sch])), (a 46, .inl (cI, 48, .inl ot))] (fun r => r = thF (TV scu ot) 0 sn) := by
  refine rdi_of2 (by decide) (Nat.le_of_ble_eq_true rfl) ?_
  intro p e s m below meth c A ls H locs hC hK hP hD hA hS hl
  obtain ⟨hx, hb, hr, hml, hown, hts, hlocks, hin⟩ := hC
  have hown : s.vm.findClass RX10 = some m.cls := hown
  have hl : lv_has ls 1 [(0, .ref (a 10))] := hl
  refine W_gQ (fun Q hQ => ?_)
  refine lv_aload_n hx hb dX10_known_0 rfl (lv_at hl 0 rfl) ?_
  refine lv_iconst (v := 0) hx hb dX10_known_1 (by decide) ?_
  refine eRi (va_runV (As := [.int 0]) (rest := []) ⟨hx, hb, hml, hown, hts⟩ (c_X10_those_f l D cI cB cZ cJ tx a sn sk scu sch ot 0 (lf_X10_known_f_1 a sn sk scu sch ot hsn hsk) (lf_X10_known_f_2 a sn sk scu sch ot hsn hsk) H.size) (zV hts k_1142 v_X10_those ⟨Nat.le_of_ble_eq_true rfl, Nat.le_of_ble_eq_true rfl⟩) (pV (pxS hK hP hD [0, 1, 2] (by decide) rfl) hK hP 0 rfl rfl) rfl rfl hl.1 rfl (lv_room (Nat.le_of_ble_eq_true rfl)) dX10_known_2 ⟨Nat.le_of_ble_eq_true rfl, Nat.le_of_ble_eq_true rfl⟩) hP hS hA (fun r_3 H locs wr_3 hP hS => ?_)
  subst wr_3
  rw [hQ]
  exact W.iret (v := thF (TV scu ot) 0 sn) hx hb hr (fun tt9 ht hW => ⟨⟨(thF (TV scu ot) 0 sn : Int32), (), rfl, (lf_X10_known_f_4 a sn sk scu sch ot hsn hsk), trivial⟩, hS.F ht⟩) hS.2.2 dX10_known_5 hlocks

theorem lf_X10_seen_f_1 (a : Nat → Nat) (sn : Nat) (sk : Nat) (scu : Int32) (sch : Int32) (ot : Nat → Int32) (hsn : sn ≤ 24) (hsk : sk ≤ 8) : sn ≤ 24 := by
  first | assumption | omega | decide
theorem lf_X10_seen_f_2 (a : Nat → Nat) (sn : Nat) (sk : Nat) (scu : Int32) (sch : Int32) (ot : Nat → Int32) (hsn : sn ≤ 24) (hsk : sk ≤ 8) : sk ≤ 8 := by
  first | assumption | omega | decide
theorem lf_X10_seen_f_4 (a : Nat → Nat) (sn : Nat) (sk : Nat) (scu : Int32) (sch : Int32) (ot : Nat → Int32) (hsn : sn ≤ 24) (hsk : sk ≤ 8) : (thF (TV scu ot) 1 sn : Int32) = thF (TV scu ot) 1 sn := by
  rfl
set_option maxHeartbeats 4000000 in
set_option maxRecDepth 100000 in
theorem c_X10_seen_f (l : Launch) (D : va_G) (cI cB cZ cJ : ClassId) (tx : List (ClassId × FieldType)) (a : Nat → Nat) (sn : Nat) (sk : Nat) (scu : Int32) (sch : Int32) (ot : Nat → Int32) (hsn : sn ≤ 24) (hsk : sk ≤ 8) : RdI l D cI cB cZ cJ tx yX10_seen cX10_seen 1 (some .int) 3 [.ref (a 10)] [(a 10, .inr (10, [.ref (a 5), .ref (a 46)])), (a 5, .inr (4, [.ref (a 18), .ref (a 19), .ref (a 20), .ref (a 21), .ref (a 22), .ref (a 23), .ref (a 24), .int (nI sn), .int (nI sk), .int scu, .int sch])), (a 46, .inl (cI, 48, .inl ot))] (fun r => r = thF (TV scu ot) 1 sn) := by
  refine rdi_of2 (by decide) (Nat.le_of_ble_eq_true rfl) ?_
  intro p e s m below meth c A ls H locs hC hK hP hD hA hS hl
  obtain ⟨hx, hb, hr, hml, hown, hts, hlocks, hin⟩ := hC
  have hown : s.vm.findClass RX10 = some m.cls := hown
  have hl : lv_has ls 1 [(0, .ref (a 10))] := hl
  refine W_gQ (fun Q hQ => ?_)
  refine lv_aload_n hx hb dX10_seen_0 rfl (lv_at hl 0 rfl) ?_
  refine lv_iconst (v := 1) hx hb dX10_seen_1 (by decide) ?_
  refine eRi (va_runV (As := [.int 1]) (rest := []) ⟨hx, hb, hml, hown, hts⟩ (c_X10_those_f l D cI cB cZ cJ tx a sn sk scu sch ot 1 (lf_X10_seen_f_1 a sn sk scu sch ot hsn hsk) (lf_X10_seen_f_2 a sn sk scu sch ot hsn hsk) H.size) (zV hts k_1142 v_X10_those ⟨Nat.le_of_ble_eq_true rfl, Nat.le_of_ble_eq_true rfl⟩) (pV (pxS hK hP hD [0, 1, 2] (by decide) rfl) hK hP 0 rfl rfl) rfl rfl hl.1 rfl (lv_room (Nat.le_of_ble_eq_true rfl)) dX10_seen_2 ⟨Nat.le_of_ble_eq_true rfl, Nat.le_of_ble_eq_true rfl⟩) hP hS hA (fun r_3 H locs wr_3 hP hS => ?_)
  subst wr_3
  rw [hQ]
  exact W.iret (v := thF (TV scu ot) 1 sn) hx hb hr (fun tt9 ht hW => ⟨⟨(thF (TV scu ot) 1 sn : Int32), (), rfl, (lf_X10_seen_f_4 a sn sk scu sch ot hsn hsk), trivial⟩, hS.F ht⟩) hS.2.2 dX10_seen_5 hlocks

theorem lf_X11_oars_f_1 (a : Nat → Nat) (ap : Int32) (sn : Nat) (sk : Nat) (scu : Int32) (sch : Int32) (ot : Nat → Int32) (n1 : Int32) (hsn : sn ≤ 24) (hsk : sk ≤ 8) : sn ≤ 24 := by
  first | assumption | omega | decide
theorem lf_X11_oars_f_2 (a : Nat → Nat) (ap : Int32) (sn : Nat) (sk : Nat) (scu : Int32) (sch : Int32) (ot : Nat → Int32) (n1 : Int32) (hsn : sn ≤ 24) (hsk : sk ≤ 8) : sk ≤ 8 := by
  first | assumption | omega | decide
theorem lf_X11_oars_f_4 (a : Nat → Nat) (ap : Int32) (sn : Nat) (sk : Nat) (scu : Int32) (sch : Int32) (ot : Nat → Int32) (n1 : Int32) (hsn : sn ≤ 24) (hsk : sk ≤ 8) (hst3 : sn = 0) : ((-1) : Int32) = oaF (TV scu ot) sn n1 := by
  first | exact oa_0 (by assumption) | (refine oa_v (by assumption) ?_; first | rfl | (subst_vars; rfl) | (rw [if_neg (by assumption), if_neg (by assumption), if_neg (by assumption), if_neg (by assumption)]))
theorem lf_X11_oars_f_6 (a : Nat → Nat) (ap : Int32) (sn : Nat) (sk : Nat) (scu : Int32) (sch : Int32) (ot : Nat → Int32) (n1 : Int32) (hsn : sn ≤ 24) (hsk : sk ≤ 8) (hst3 : 0 < sn) (c_5 : n1 = 0) : sn ≤ 24 := by
  first | assumption | omega | decide
theorem lf_X11_oars_f_7 (a : Nat → Nat) (ap : Int32) (sn : Nat) (sk : Nat) (scu : Int32) (sch : Int32) (ot : Nat → Int32) (n1 : Int32) (hsn : sn ≤ 24) (hsk : sk ≤ 8) (hst3 : 0 < sn) (c_5 : n1 = 0) : sk ≤ 8 := by
  first | assumption | omega | decide
theorem lf_X11_oars_f_9 (a : Nat → Nat) (ap : Int32) (sn : Nat) (sk : Nat) (scu : Int32) (sch : Int32) (ot : Nat → Int32) (n1 : Int32) (hsn : sn ≤ 24) (hsk : sk ≤ 8) (hst3 : 0 < sn) (c_5 : n1 = 0) : (pwF (TV scu ot) 0 (-1) sn : Int32) = oaF (TV scu ot) sn n1 := by
  first | exact oa_0 (by assumption) | (refine oa_v (by assumption) ?_; first | rfl | (subst_vars; rfl) | (rw [if_neg (by assumption), if_neg (by assumption), if_neg (by assumption), if_neg (by assumption)]))
theorem lf_X11_oars_f_11 (a : Nat → Nat) (ap : Int32) (sn : Nat) (sk : Nat) (scu : Int32) (sch : Int32) (ot : Nat → Int32) (n1 : Int32) (hsn : sn ≤ 24) (hsk : sk ≤ 8) (hst3 : 0 < sn) (c_5 : ¬ n1 = 0) (c_10 : n1 = 1) : sn ≤ 24 := by
  first | assumption | omega | decide
theorem lf_X11_oars_f_12 (a : Nat → Nat) (ap : Int32) (sn : Nat) (sk : Nat) (scu : Int32) (sch : Int32) (ot : Nat → Int32) (n1 : Int32) (hsn : sn ≤ 24) (hsk : sk ≤ 8) (hst3 : 0 < sn) (c_5 : ¬ n1 = 0) (c_10 : n1 = 1) : sk ≤ 8 := by
  first | assumption | omega | decide
theorem lf_X11_oars_f_14 (a : Nat → Nat) (ap : Int32) (sn : Nat) (sk : Nat) (scu : Int32) (sch : Int32) (ot : Nat → Int32) (n1 : Int32) (hsn : sn ≤ 24) (hsk : sk ≤ 8) (hst3 : 0 < sn) (c_5 : ¬ n1 = 0) (c_10 : n1 = 1) : (pwF (TV scu ot) 0 0 sn : Int32) = oaF (TV scu ot) sn n1 := by
  first | exact oa_0 (by assumption) | (refine oa_v (by assumption) ?_; first | rfl | (subst_vars; rfl) | (rw [if_neg (by assumption), if_neg (by assumption), if_neg (by assumption), if_neg (by assumption)]))
theorem lf_X11_oars_f_16 (a : Nat → Nat) (ap : Int32) (sn : Nat) (sk : Nat) (scu : Int32) (sch : Int32) (ot : Nat → Int32) (n1 : Int32) (hsn : sn ≤ 24) (hsk : sk ≤ 8) (hst3 : 0 < sn) (c_5 : ¬ n1 = 0) (c_10 : ¬ n1 = 1) (c_15 : n1 = 2) : sn ≤ 24 := by
  first | assumption | omega | decide
theorem lf_X11_oars_f_17 (a : Nat → Nat) (ap : Int32) (sn : Nat) (sk : Nat) (scu : Int32) (sch : Int32) (ot : Nat → Int32) (n1 : Int32) (hsn : sn ≤ 24) (hsk : sk ≤ 8) (hst3 : 0 < sn) (c_5 : ¬ n1 = 0) (c_10 : ¬ n1 = 1) (c_15 : n1 = 2) : sk ≤ 8 := by
  first | assumption | omega | decide
theorem lf_X11_oars_f_19 (a : Nat → Nat) (ap : Int32) (sn : Nat) (sk : Nat) (scu : Int32) (sch : Int32) (ot : Nat → Int32) (n1 : Int32) (hsn : sn ≤ 24) (hsk : sk ≤ 8) (hst3 : 0 < sn) (c_5 : ¬ n1 = 0) (c_10 : ¬ n1 = 1) (c_15 : n1 = 2) : (thF (TV scu ot) 0 sn : Int32) = oaF (TV scu ot) sn n1 := by
  first | exact oa_0 (by assumption) | (refine oa_v (by assumption) ?_; first | rfl | (subst_vars; rfl) | (rw [if_neg (by assumption), if_neg (by assumption), if_neg (by assumption), if_neg (by assumption)]))
theorem lf_X11_oars_f_21 (a : Nat → Nat) (ap : Int32) (sn : Nat) (sk : Nat) (scu : Int32) (sch : Int32) (ot : Nat → Int32) (n1 : Int32) (hsn : sn ≤ 24) (hsk : sk ≤ 8) (hst3 : 0 < sn) (c_5 : ¬ n1 = 0) (c_10 : ¬ n1 = 1) (c_15 : ¬ n1 = 2) (c_20 : n1 = 3) : sn ≤ 24 := by
  first | assumption | omega | decide
theorem lf_X11_oars_f_22 (a : Nat → Nat) (ap : Int32) (sn : Nat) (sk : Nat) (scu : Int32) (sch : Int32) (ot : Nat → Int32) (n1 : Int32) (hsn : sn ≤ 24) (hsk : sk ≤ 8) (hst3 : 0 < sn) (c_5 : ¬ n1 = 0) (c_10 : ¬ n1 = 1) (c_15 : ¬ n1 = 2) (c_20 : n1 = 3) : sk ≤ 8 := by
  first | assumption | omega | decide
theorem lf_X11_oars_f_24 (a : Nat → Nat) (ap : Int32) (sn : Nat) (sk : Nat) (scu : Int32) (sch : Int32) (ot : Nat → Int32) (n1 : Int32) (hsn : sn ≤ 24) (hsk : sk ≤ 8) (hst3 : 0 < sn) (c_5 : ¬ n1 = 0) (c_10 : ¬ n1 = 1) (c_15 : ¬ n1 = 2) (c_20 : n1 = 3) : (thF (TV scu ot) 1 sn : Int32) = oaF (TV scu ot) sn n1 := by
  first | exact oa_0 (by assumption) | (refine oa_v (by assumption) ?_; first | rfl | (subst_vars; rfl) | (rw [if_neg (by assumption), if_neg (by assumption), if_neg (by assumption), if_neg (by assumption)]))
theorem lf_X11_oars_f_25 (a : Nat → Nat) (ap : Int32) (sn : Nat) (sk : Nat) (scu : Int32) (sch : Int32) (ot : Nat → Int32) (n1 : Int32) (hsn : sn ≤ 24) (hsk : sk ≤ 8) (hst3 : 0 < sn) (c_5 : ¬ n1 = 0) (c_10 : ¬ n1 = 1) (c_15 : ¬ n1 = 2) (c_20 : ¬ n1 = 3) : n1.toInt < 0 ∨ 3 < n1.toInt := by
  have e : ∀ k : Int32, ¬ n1 = k → n1.toInt ≠ k.toInt := fun k h q => h (Int32.toInt_inj.mp q)
  have e0 := e 0 ‹¬ n1 = 0›
  have z0 : (0 : Int32).toInt = 0 := by decide
  have e1 := e 1 ‹¬ n1 = 1›
  have z1 : (1 : Int32).toInt = 1 := by decide
  have e2 := e 2 ‹¬ n1 = 2›
  have z2 : (2 : Int32).toInt = 2 := by decide
  have e3 := e 3 ‹¬ n1 = 3›
  have z3 : (3 : Int32).toInt = 3 := by decide
  omega
theorem lf_X11_oars_f_26 (a : Nat → Nat) (ap : Int32) (sn : Nat) (sk : Nat) (scu : Int32) (sch : Int32) (ot : Nat → Int32) (n1 : Int32) (hsn : sn ≤ 24) (hsk : sk ≤ 8) (hst3 : 0 < sn) (c_5 : ¬ n1 = 0) (c_10 : ¬ n1 = 1) (c_15 : ¬ n1 = 2) (c_20 : ¬ n1 = 3) : ((-1) : Int32) = oaF (TV scu ot) sn n1 := by
  first | exact oa_0 (by assumption) | (refine oa_v (by assumption) ?_; first | rfl | (subst_vars; rfl) | (rw [if_neg (by assumption), if_neg (by assumption), if_neg (by assumption), if_neg (by assumption)]))
set_option maxHeartbeats 4000000 in
set_option maxRecDepth 100000 in
theorem c_X11_oars_f (l : Launch) (D : va_G) (cI cB cZ cJ : ClassId) (tx : List (ClassId × FieldType)) (a : Nat → Nat) (ap : Int32) (sn : Nat) (sk : Nat) (scu : Int32) (sch : Int32) (ot : Nat → Int32) (n1 : Int32) (hsn : sn ≤ 24) (hsk : sk ≤ 8) : RdI l D cI cB cZ cJ tx yX11_oars cX11_oars 2 (some .int) 4 [.ref (a 0), .int n1] [(a 0, .inr (11, [.ref (a 1), .ref (a 2), .ref (a 3), .ref (a 4), .ref (a 5), .ref (a 6), .ref (a 7), .ref (a 8), .ref (a 9), .ref (a 10), .ref (a 11), .ref (a 12), .int ap])), (a 10, .inr (10, [.ref (a 5), .ref (a 46)])), (a 5, .inr (4, [.ref (a 18), .ref (a 19), .ref (a 20), .ref (a 21), .ref (a 22), .ref (a 23), .ref (a 24), .int (nI sn), .int (nI sk), .int scu, .int sch])), (a 46, .inl (cI, 48, .inl ot))] (fun r => r = oaF (TV scu ot) sn n1) := by
  refine rdi_of2 (by decide) (Nat.le_of_ble_eq_true rfl) ?_
  intro p e s m below meth c A ls H locs hC hK hP hD hA hS hl
  obtain ⟨hx, hb, hr, hml, hown, hts, hlocks, hin⟩ := hC
  have hown : s.vm.findClass RX11 = some m.cls := hown
  have hl : lv_has ls 2 [(0, .ref (a 0)), (1, .int n1)] := hl
  refine W_gQ (fun Q hQ => ?_)
  refine lv_aload_n hx hb dX11_oars_0 rfl (lv_at hl 0 rfl) ?_
  refine va_get (D := D) (ci := 11) (v := .ref (a 5)) (C := RX11) (T := TX11) (N := 13) hx hb hts inT_X11 hown hK.1 hP 0 rfl rfl 4 (by decide) (hts _ k_487) (fun _ h9 => h9) rfl dX11_oars_1 ?_
  refine eRi (va_runV (As := []) (rest := []) ⟨hx, hb, hml, hown, hts⟩ (c_X4_stands_f l D cI cB cZ cJ tx a sn sk scu sch (lf_X11_oars_f_1 a ap sn sk scu sch ot n1 hsn hsk) (lf_X11_oars_f_2 a ap sn sk scu sch ot n1 hsn hsk) H.size) (zV hts k_824 v_X4_stands ⟨Nat.le_of_ble_eq_true rfl, Nat.le_of_ble_eq_true rfl⟩) (pV (px1 hK hP 2 rfl) hK hP 2 rfl rfl) rfl rfl hl.1 rfl (lv_room (Nat.le_of_ble_eq_true rfl)) dX11_oars_4 ⟨Nat.le_of_ble_eq_true rfl, Nat.le_of_ble_eq_true rfl⟩) hP hS hA (fun r_3 H locs wr_3 hP hS => ?_)
  rcases wr_3 with ⟨rfl, hst3⟩ | ⟨rfl, hst3⟩
  · refine lv_if_ne (tgt := 12) hx hb dX11_oars_7 (by decide) (fun c => absurd c (by decide)) (fun _ => ?_)
    refine lv_iconst (v := (-1)) hx hb dX11_oars_10 (by decide) ?_
    rw [hQ]
    exact W.iret (v := (-1)) hx hb hr (fun tt9 ht hW => ⟨⟨((-1) : Int32), (), rfl, (lf_X11_oars_f_4 a ap sn sk scu sch ot n1 hsn hsk hst3), trivial⟩, hS.F ht⟩) hS.2.2 dX11_oars_11 hlocks
  · refine lv_if_ne (tgt := 12) hx hb dX11_oars_7 (by decide) (fun _ => ?_) (fun c => absurd c (by decide))
    refine lv_iload_n hx hb dX11_oars_12 rfl (lv_at hl 1 rfl) ?_
    by_cases c_5 : n1 = 0
    · subst c_5
      refine lv_tableIn (off := 31) (tgt := 44) hx hb dX11_oars_13 (by decide) (by decide) rfl (by decide) ?_
      refine lv_aload_n hx hb dX11_oars_44 rfl (lv_at hl 0 rfl) ?_
      refine va_get (D := D) (ci := 11) (v := .ref (a 10)) (C := RX11) (T := TX11) (N := 13) hx hb hts inT_X11 hown hK.1 hP 0 rfl rfl 9 (by decide) (hts _ k_492) (fun _ h9 => h9) rfl dX11_oars_45 ?_
      refine eRi (va_runV (As := []) (rest := []) ⟨hx, hb, hml, hown, hts⟩ (c_X10_pairsSeen_f l D cI cB cZ cJ tx a sn sk scu sch ot (lf_X11_oars_f_6 a ap sn sk scu sch ot 0 hsn hsk hst3 rfl) (lf_X11_oars_f_7 a ap sn sk scu sch ot 0 hsn hsk hst3 rfl) H.size) (zV hts k_1121 v_X10_pairsSeen ⟨Nat.le_of_ble_eq_true rfl, Nat.le_of_ble_eq_true rfl⟩) (pV (pxS hK hP hD [1, 2, 3] (by decide) rfl) hK hP 1 rfl rfl) rfl rfl hl.1 rfl (lv_room (Nat.le_of_ble_eq_true rfl)) dX11_oars_48 ⟨Nat.le_of_ble_eq_true rfl, Nat.le_of_ble_eq_true rfl⟩) hP hS hA (fun r_8 H locs wr_8 hP hS => ?_)
      subst wr_8
      rw [hQ]
      exact W.iret (v := pwF (TV scu ot) 0 (-1) sn) hx hb hr (fun tt9 ht hW => ⟨⟨(pwF (TV scu ot) 0 (-1) sn : Int32), (), rfl, (lf_X11_oars_f_9 a ap sn sk scu sch ot 0 hsn hsk hst3 rfl), trivial⟩, hS.F ht⟩) hS.2.2 dX11_oars_51 hlocks
    by_cases c_10 : n1 = 1
    · subst c_10
      refine lv_tableIn (off := 39) (tgt := 52) hx hb dX11_oars_13 (by decide) (by decide) rfl (by decide) ?_
      refine lv_aload_n hx hb dX11_oars_52 rfl (lv_at hl 0 rfl) ?_
      refine va_get (D := D) (ci := 11) (v := .ref (a 10)) (C := RX11) (T := TX11) (N := 13) hx hb hts inT_X11 hown hK.1 hP 0 rfl rfl 9 (by decide) (hts _ k_492) (fun _ h9 => h9) rfl dX11_oars_53 ?_
      refine eRi (va_runV (As := []) (rest := []) ⟨hx, hb, hml, hown, hts⟩ (c_X10_pairsThatMayBe_f l D cI cB cZ cJ tx a sn sk scu sch ot (lf_X11_oars_f_11 a ap sn sk scu sch ot 1 hsn hsk hst3 c_5 rfl) (lf_X11_oars_f_12 a ap sn sk scu sch ot 1 hsn hsk hst3 c_5 rfl) H.size) (zV hts k_1134 v_X10_pairsThatMayBe ⟨Nat.le_of_ble_eq_true rfl, Nat.le_of_ble_eq_true rfl⟩) (pV (pxS hK hP hD [1, 2, 3] (by decide) rfl) hK hP 1 rfl rfl) rfl rfl hl.1 rfl (lv_room (Nat.le_of_ble_eq_true rfl)) dX11_oars_56 ⟨Nat.le_of_ble_eq_true rfl, Nat.le_of_ble_eq_true rfl⟩) hP hS hA (fun r_13 H locs wr_13 hP hS => ?_)
      subst wr_13
      rw [hQ]
      exact W.iret (v := pwF (TV scu ot) 0 0 sn) hx hb hr (fun tt9 ht hW => ⟨⟨(pwF (TV scu ot) 0 0 sn : Int32), (), rfl, (lf_X11_oars_f_14 a ap sn sk scu sch ot 1 hsn hsk hst3 c_5 rfl), trivial⟩, hS.F ht⟩) hS.2.2 dX11_oars_59 hlocks
    by_cases c_15 : n1 = 2
    · subst c_15
      refine lv_tableIn (off := 47) (tgt := 60) hx hb dX11_oars_13 (by decide) (by decide) rfl (by decide) ?_
      refine lv_aload_n hx hb dX11_oars_60 rfl (lv_at hl 0 rfl) ?_
      refine va_get (D := D) (ci := 11) (v := .ref (a 10)) (C := RX11) (T := TX11) (N := 13) hx hb hts inT_X11 hown hK.1 hP 0 rfl rfl 9 (by decide) (hts _ k_492) (fun _ h9 => h9) rfl dX11_oars_61 ?_
      refine eRi (va_runV (As := []) (rest := []) ⟨hx, hb, hml, hown, hts⟩ (c_X10_known_f l D cI cB cZ cJ tx a sn sk scu sch ot (lf_X11_oars_f_16 a ap sn sk scu sch ot 2 hsn hsk hst3 c_5 c_10 rfl) (lf_X11_oars_f_17 a ap sn sk scu sch ot 2 hsn hsk hst3 c_5 c_10 rfl) H.size) (zV hts k_1138 v_X10_known ⟨Nat.le_of_ble_eq_true rfl, Nat.le_of_ble_eq_true rfl⟩) (pV (pxS hK hP hD [1, 2, 3] (by decide) rfl) hK hP 1 rfl rfl) rfl rfl hl.1 rfl (lv_room (Nat.le_of_ble_eq_true rfl)) dX11_oars_64 ⟨Nat.le_of_ble_eq_true rfl, Nat.le_of_ble_eq_true rfl⟩) hP hS hA (fun r_18 H locs wr_18 hP hS => ?_)
      subst wr_18
      rw [hQ]
      exact W.iret (v := thF (TV scu ot) 0 sn) hx hb hr (fun tt9 ht hW => ⟨⟨(thF (TV scu ot) 0 sn : Int32), (), rfl, (lf_X11_oars_f_19 a ap sn sk scu sch ot 2 hsn hsk hst3 c_5 c_10 rfl), trivial⟩, hS.F ht⟩) hS.2.2 dX11_oars_67 hlocks
    by_cases c_20 : n1 = 3
    · subst c_20
      refine lv_tableIn (off := 55) (tgt := 68) hx hb dX11_oars_13 (by decide) (by decide) rfl (by decide) ?_
      refine lv_aload_n hx hb dX11_oars_68 rfl (lv_at hl 0 rfl) ?_
      refine va_get (D := D) (ci := 11) (v := .ref (a 10)) (C := RX11) (T := TX11) (N := 13) hx hb hts inT_X11 hown hK.1 hP 0 rfl rfl 9 (by decide) (hts _ k_492) (fun _ h9 => h9) rfl dX11_oars_69 ?_
      refine eRi (va_runV (As := []) (rest := []) ⟨hx, hb, hml, hown, hts⟩ (c_X10_seen_f l D cI cB cZ cJ tx a sn sk scu sch ot (lf_X11_oars_f_21 a ap sn sk scu sch ot 3 hsn hsk hst3 c_5 c_10 c_15 rfl) (lf_X11_oars_f_22 a ap sn sk scu sch ot 3 hsn hsk hst3 c_5 c_10 c_15 rfl) H.size) (zV hts k_1146 v_X10_seen ⟨Nat.le_of_ble_eq_true rfl, Nat.le_of_ble_eq_true rfl⟩) (pV (pxS hK hP hD [1, 2, 3] (by decide) rfl) hK hP 1 rfl rfl) rfl rfl hl.1 rfl (lv_room (Nat.le_of_ble_eq_true rfl)) dX11_oars_72 ⟨Nat.le_of_ble_eq_true rfl, Nat.le_of_ble_eq_true rfl⟩) hP hS hA (fun r_23 H locs wr_23 hP hS => ?_)
      subst wr_23
      rw [hQ]
      exact W.iret (v := thF (TV scu ot) 1 sn) hx hb hr (fun tt9 ht hW => ⟨⟨(thF (TV scu ot) 1 sn : Int32), (), rfl, (lf_X11_oars_f_24 a ap sn sk scu sch ot 3 hsn hsk hst3 c_5 c_10 c_15 rfl), trivial⟩, hS.F ht⟩) hS.2.2 dX11_oars_75 hlocks
    refine lv_tableOut (tgt := 76) hx hb dX11_oars_13 (lf_X11_oars_f_25 a ap sn sk scu sch ot n1 hsn hsk hst3 c_5 c_10 c_15 c_20) (by decide) ?_
    refine lv_iconst (v := (-1)) hx hb dX11_oars_76 (by decide) ?_
    rw [hQ]
    exact W.iret (v := (-1)) hx hb hr (fun tt9 ht hW => ⟨⟨((-1) : Int32), (), rfl, (lf_X11_oars_f_26 a ap sn sk scu sch ot n1 hsn hsk hst3 c_5 c_10 c_15 c_20), trivial⟩, hS.F ht⟩) hS.2.2 dX11_oars_77 hlocks

theorem lf_X12_tholeOf_f_3 (h : Nat) (q : Nat → Nat) (im : Nat → Int32) (mc : Int32) (m_tholes : Nat → Int32) (f1 : Nat) (d1 : Nat) (hf_mc : im 49 = mc) (hf1 : f1 < 24) (hd1 : d1 < 2) (hc0 : (0 : Int32) ≤ mc) (c_2 : hasF (mc.toInt64) (nI f1) = 0) : ((2 * f1) + d1) < 48 := by
  omega
theorem lf_X12_tholeOf_f_4 (h : Nat) (q : Nat → Nat) (im : Nat → Int32) (mc : Int32) (m_tholes : Nat → Int32) (f1 : Nat) (d1 : Nat) (hf_mc : im 49 = mc) (hf1 : f1 < 24) (hd1 : d1 < 2) (hc0 : (0 : Int32) ≤ mc) (c_2 : hasF (mc.toInt64) (nI f1) = 0) : (m_tholes ((2 * f1) + d1) : Int32) = TV mc m_tholes f1 d1 := by
  first | exact TV_r hc0 hf1 ((hasF_01 _ _).resolve_left (by assumption)) | exact TV_s0 hc0 hf1 (by assumption)
theorem lf_X12_tholeOf_f_5 (h : Nat) (q : Nat → Nat) (im : Nat → Int32) (mc : Int32) (m_tholes : Nat → Int32) (f1 : Nat) (d1 : Nat) (hf_mc : im 49 = mc) (hf1 : f1 < 24) (hd1 : d1 < 2) (hc0 : (0 : Int32) ≤ mc) (c_2 : ¬ hasF (mc.toInt64) (nI f1) = 0) : ((-1) : Int32) = TV mc m_tholes f1 d1 := by
  first | exact TV_r hc0 hf1 ((hasF_01 _ _).resolve_left (by assumption)) | exact TV_s0 hc0 hf1 (by assumption)
set_option maxHeartbeats 4000000 in
set_option maxRecDepth 100000 in
theorem c_X12_tholeOf_f (l : Launch) (D : va_G) (cI cB cZ cJ : ClassId) (tx : List (ClassId × FieldType)) (h : Nat) (q : Nat → Nat) (im : Nat → Int32) (mc : Int32) (m_tholes : Nat → Int32) (f1 : Nat) (d1 : Nat) (hf_mc : im 49 = mc) (hf1 : f1 < 24) (hd1 : d1 < 2) (hc0 : (0 : Int32) ≤ mc) : RdI l D cI cB cZ cJ tx yX12_tholeOf cX12_tholeOf 3 (some .int) 1 [.ref h, .int (nI f1), .int (nI d1)] [(h, .inr (12, mG q im)), (q 73, .inl (cI, 48, .inl m_tholes))] (fun r => r = TV mc m_tholes f1 d1) := by
  refine rdi_of2 (by decide) (Nat.le_of_ble_eq_true rfl) ?_
  intro p e s m below meth c A ls H locs hC hK hP hD hA hS hl
  obtain ⟨hx, hb, hr, hml, hown, hts, hlocks, hin⟩ := hC
  have hown : s.vm.findClass RX12 = some m.cls := hown
  have hl : lv_has ls 3 [(0, .ref h), (1, .int (nI f1)), (2, .int (nI d1))] := hl
  refine W_gQ (fun Q hQ => ?_)
  refine lv_aload_n hx hb dX12_tholeOf_0 rfl (lv_at hl 0 rfl) ?_
  refine va_get (D := D) (ci := 12) (v := .int (im 49)) (C := RX12) (T := TX12) (N := 81) hx hb hts inT_X12 hown hK.1 hP 0 rfl rfl 49 (by decide) (hts _ k_1402) (fun _ h9 => h9) rfl dX12_tholeOf_1 ?_
  refine lv_topv (y := mc) hf_mc ?_
  refine lv_i2l (v := mc.toInt64) hx hb dX12_tholeOf_4 rfl ?_
  refine lv_iload_n hx hb dX12_tholeOf_5 rfl (lv_at hl 1 rfl) ?_
  refine eRi (va_runS (As := [.long mc.toInt64, .int (nI f1)]) (rest := []) ⟨hx, hb, hml, hown, hts⟩ (c_X12_has_f l D cI cB cZ cJ tx mc.toInt64 (nI f1) H.size) (zS hts k_1825 v_X12_has ⟨Nat.le_of_ble_eq_true rfl, Nat.le_of_ble_eq_true rfl⟩) (px0 hK) rfl rfl hl.1 rfl (lv_room (Nat.le_of_ble_eq_true rfl)) dX12_tholeOf_6 ⟨Nat.le_of_ble_eq_true rfl, Nat.le_of_ble_eq_true rfl⟩) hP hS hA (fun r_1 H locs wr_1 hP hS => ?_)
  subst wr_1
  refine lv_if_eq (tgt := 16) hx hb dX12_tholeOf_9 (by decide) (fun c_2 => ?_) (fun c_2 => ?_)
  · refine lv_aload_n hx hb dX12_tholeOf_16 rfl (lv_at hl 0 rfl) ?_
    refine va_get (D := D) (ci := 12) (v := .ref (q 73)) (C := RX12) (T := TX12) (N := 81) hx hb hts inT_X12 hown hK.1 hP 0 rfl rfl 73 (by decide) (hts _ k_1426) (fun _ h9 => h9) rfl dX12_tholeOf_17 ?_
    refine lv_iconst (v := 2) hx hb dX12_tholeOf_20 (by decide) ?_
    refine lv_iload_n hx hb dX12_tholeOf_21 rfl (lv_at hl 1 rfl) ?_
    refine lv_imul hx hb dX12_tholeOf_22 ?_
    refine lv_topv (y := nI (2 * f1)) (pk_mul 2 f1) ?_
    refine lv_iload_n hx hb dX12_tholeOf_23 rfl (lv_at hl 2 rfl) ?_
    refine lv_iadd hx hb dX12_tholeOf_24 ?_
    refine lv_topv (y := nI ((2 * f1) + d1)) (nI_add (2 * f1) d1) ?_
    refine lt_i (j := ((2 * f1) + d1)) hx hb hK hP 1 rfl (lf_X12_tholeOf_f_3 h q im mc m_tholes f1 d1 hf_mc hf1 hd1 hc0 c_2) (by decide) dX12_tholeOf_25 ?_
    rw [hQ]
    exact W.iret (v := m_tholes ((2 * f1) + d1)) hx hb hr (fun tt9 ht hW => ⟨⟨(m_tholes ((2 * f1) + d1) : Int32), (), rfl, (lf_X12_tholeOf_f_4 h q im mc m_tholes f1 d1 hf_mc hf1 hd1 hc0 c_2), trivial⟩, hS.F ht⟩) hS.2.2 dX12_tholeOf_26 hlocks
  · refine lv_iconst (v := (-1)) hx hb dX12_tholeOf_12 (by decide) ?_
    refine lv_goto (tgt := 26) hx hb dX12_tholeOf_13 (by decide) ?_
    rw [hQ]
    exact W.iret (v := (-1)) hx hb hr (fun tt9 ht hW => ⟨⟨((-1) : Int32), (), rfl, (lf_X12_tholeOf_f_5 h q im mc m_tholes f1 d1 hf_mc hf1 hd1 hc0 c_2), trivial⟩, hS.F ht⟩) hS.2.2 dX12_tholeOf_26 hlocks

theorem lf_X12_tholesThat_f_3 (h : Nat) (q : Nat → Nat) (im : Nat → Int32) (ms : Nat) (mc : Int32) (m_tholes : Nat → Int32) (n1 : Int32) (hf_ms : im 2 = nI ms) (hf_mc : im 49 = mc) (hms : ms ≤ 24) (hc0 : (0 : Int32) ≤ mc) (j1 : Nat) (w1 : Int32) (k4 : Nat) (hj4 : j1 ≤ ms) (hk4 : ms < j1 + (k4 + 1)) (hw : w1 = ttF (TV mc m_tholes) n1 j1) (c_1 : nI ms ≤ nI j1) : ms ≤ j1 := by
  exact (nI_leI (a := ms) (b := j1) (by omega) (by omega)).mp c_1
theorem lf_X12_tholesThat_f_4 (h : Nat) (q : Nat → Nat) (im : Nat → Int32) (ms : Nat) (mc : Int32) (m_tholes : Nat → Int32) (n1 : Int32) (hf_ms : im 2 = nI ms) (hf_mc : im 49 = mc) (hms : ms ≤ 24) (hc0 : (0 : Int32) ≤ mc) (j1 : Nat) (w1 : Int32) (k4 : Nat) (hj4 : j1 ≤ ms) (hk4 : ms < j1 + (k4 + 1)) (hw : w1 = ttF (TV mc m_tholes) n1 j1) (c_1 : nI ms ≤ nI j1) (n_2 : ms ≤ j1) : (w1 : Int32) = ttF (TV mc m_tholes) n1 ms := by
  exact atn (F := fun i => ttF (TV mc m_tholes) n1 i) (by assumption) (by assumption) (by assumption)
theorem lf_X12_tholesThat_f_6 (h : Nat) (q : Nat → Nat) (im : Nat → Int32) (ms : Nat) (mc : Int32) (m_tholes : Nat → Int32) (n1 : Int32) (hf_ms : im 2 = nI ms) (hf_mc : im 49 = mc) (hms : ms ≤ 24) (hc0 : (0 : Int32) ≤ mc) (j1 : Nat) (w1 : Int32) (k4 : Nat) (hj4 : j1 ≤ ms) (hk4 : ms < j1 + (k4 + 1)) (hw : w1 = ttF (TV mc m_tholes) n1 j1) (c_1 : ¬ nI ms ≤ nI j1) : j1 < ms := by
  exact Nat.lt_of_not_le (fun q => c_1 ((nI_leI (a := ms) (b := j1) (by omega) (by omega)).mpr q))
theorem lf_X12_tholesThat_f_7 (h : Nat) (q : Nat → Nat) (im : Nat → Int32) (ms : Nat) (mc : Int32) (m_tholes : Nat → Int32) (n1 : Int32) (hf_ms : im 2 = nI ms) (hf_mc : im 49 = mc) (hms : ms ≤ 24) (hc0 : (0 : Int32) ≤ mc) (j1 : Nat) (w1 : Int32) (k4 : Nat) (hj4 : j1 ≤ ms) (hk4 : ms < j1 + (k4 + 1)) (hw : w1 = ttF (TV mc m_tholes) n1 j1) (c_1 : ¬ nI ms ≤ nI j1) (n_5 : j1 < ms) : j1 < 24 := by
  first | assumption | omega | decide | rfl
theorem lf_X12_tholesThat_f_8 (h : Nat) (q : Nat → Nat) (im : Nat → Int32) (ms : Nat) (mc : Int32) (m_tholes : Nat → Int32) (n1 : Int32) (hf_ms : im 2 = nI ms) (hf_mc : im 49 = mc) (hms : ms ≤ 24) (hc0 : (0 : Int32) ≤ mc) (j1 : Nat) (w1 : Int32) (k4 : Nat) (hj4 : j1 ≤ ms) (hk4 : ms < j1 + (k4 + 1)) (hw : w1 = ttF (TV mc m_tholes) n1 j1) (c_1 : ¬ nI ms ≤ nI j1) (n_5 : j1 < ms) : 0 < 2 := by
  first | assumption | omega | decide | rfl
theorem lf_X12_tholesThat_f_9 (h : Nat) (q : Nat → Nat) (im : Nat → Int32) (ms : Nat) (mc : Int32) (m_tholes : Nat → Int32) (n1 : Int32) (hf_ms : im 2 = nI ms) (hf_mc : im 49 = mc) (hms : ms ≤ 24) (hc0 : (0 : Int32) ≤ mc) (j1 : Nat) (w1 : Int32) (k4 : Nat) (hj4 : j1 ≤ ms) (hk4 : ms < j1 + (k4 + 1)) (hw : w1 = ttF (TV mc m_tholes) n1 j1) (c_1 : ¬ nI ms ≤ nI j1) (n_5 : j1 < ms) : (0 : Int32) ≤ mc := by
  first | assumption | omega | decide | rfl
theorem lf_X12_tholesThat_f_12 (h : Nat) (q : Nat → Nat) (im : Nat → Int32) (ms : Nat) (mc : Int32) (m_tholes : Nat → Int32) (n1 : Int32) (hf_ms : im 2 = nI ms) (hf_mc : im 49 = mc) (hms : ms ≤ 24) (hc0 : (0 : Int32) ≤ mc) (j1 : Nat) (w1 : Int32) (k4 : Nat) (hj4 : j1 ≤ ms) (hk4 : ms < j1 + (k4 + 1)) (hw : w1 = ttF (TV mc m_tholes) n1 j1) (c_1 : ¬ nI ms ≤ nI j1) (n_5 : j1 < ms) (c_11 : ¬ TV mc m_tholes j1 0 = n1) : j1 < 24 := by
  first | assumption | omega | decide | rfl
theorem lf_X12_tholesThat_f_13 (h : Nat) (q : Nat → Nat) (im : Nat → Int32) (ms : Nat) (mc : Int32) (m_tholes : Nat → Int32) (n1 : Int32) (hf_ms : im 2 = nI ms) (hf_mc : im 49 = mc) (hms : ms ≤ 24) (hc0 : (0 : Int32) ≤ mc) (j1 : Nat) (w1 : Int32) (k4 : Nat) (hj4 : j1 ≤ ms) (hk4 : ms < j1 + (k4 + 1)) (hw : w1 = ttF (TV mc m_tholes) n1 j1) (c_1 : ¬ nI ms ≤ nI j1) (n_5 : j1 < ms) (c_11 : ¬ TV mc m_tholes j1 0 = n1) : 1 < 2 := by
  first | assumption | omega | decide | rfl
theorem lf_X12_tholesThat_f_14 (h : Nat) (q : Nat → Nat) (im : Nat → Int32) (ms : Nat) (mc : Int32) (m_tholes : Nat → Int32) (n1 : Int32) (hf_ms : im 2 = nI ms) (hf_mc : im 49 = mc) (hms : ms ≤ 24) (hc0 : (0 : Int32) ≤ mc) (j1 : Nat) (w1 : Int32) (k4 : Nat) (hj4 : j1 ≤ ms) (hk4 : ms < j1 + (k4 + 1)) (hw : w1 = ttF (TV mc m_tholes) n1 j1) (c_1 : ¬ nI ms ≤ nI j1) (n_5 : j1 < ms) (c_11 : ¬ TV mc m_tholes j1 0 = n1) : (0 : Int32) ≤ mc := by
  first | assumption | omega | decide | rfl
theorem lf_X12_tholesThat_f_18 (h : Nat) (q : Nat → Nat) (im : Nat → Int32) (ms : Nat) (mc : Int32) (m_tholes : Nat → Int32) (n1 : Int32) (hf_ms : im 2 = nI ms) (hf_mc : im 49 = mc) (hms : ms ≤ 24) (hc0 : (0 : Int32) ≤ mc) (j1 : Nat) (w1 : Int32) (k4 : Nat) (hj4 : j1 ≤ ms) (hk4 : ms < j1 + (k4 + 1)) (hw : w1 = ttF (TV mc m_tholes) n1 j1) (c_1 : ¬ nI ms ≤ nI j1) (n_5 : j1 < ms) (c_11 : ¬ TV mc m_tholes j1 0 = n1) (c_16 : ¬ TV mc m_tholes j1 1 = n1) (x_17 : Int32) (ex_17 : x_17 = w1 + 0) : x_17 = ttF (TV mc m_tholes) n1 (j1 + 1) := by
  first | rfl | exact ttF_t hw (by first | exact (if_pos (by assumption)).symm | exact (if_neg (by assumption)).symm) (by first | exact (if_pos (by assumption)).symm | exact (if_neg (by assumption)).symm) (by assumption) (by first | assumption | decide)
theorem lf_X12_tholesThat_f_20 (h : Nat) (q : Nat → Nat) (im : Nat → Int32) (ms : Nat) (mc : Int32) (m_tholes : Nat → Int32) (n1 : Int32) (hf_ms : im 2 = nI ms) (hf_mc : im 49 = mc) (hms : ms ≤ 24) (hc0 : (0 : Int32) ≤ mc) (j1 : Nat) (w1 : Int32) (k4 : Nat) (hj4 : j1 ≤ ms) (hk4 : ms < j1 + (k4 + 1)) (hw : w1 = ttF (TV mc m_tholes) n1 j1) (c_1 : ¬ nI ms ≤ nI j1) (n_5 : j1 < ms) (c_11 : ¬ TV mc m_tholes j1 0 = n1) (c_16 : TV mc m_tholes j1 1 = n1) (x_19 : Int32) (ex_19 : x_19 = w1 + 1) : x_19 = ttF (TV mc m_tholes) n1 (j1 + 1) := by
  first | rfl | exact ttF_t hw (by first | exact (if_pos (by assumption)).symm | exact (if_neg (by assumption)).symm) (by first | exact (if_pos (by assumption)).symm | exact (if_neg (by assumption)).symm) (by assumption) (by first | assumption | decide)
theorem lf_X12_tholesThat_f_21 (h : Nat) (q : Nat → Nat) (im : Nat → Int32) (ms : Nat) (mc : Int32) (m_tholes : Nat → Int32) (n1 : Int32) (hf_ms : im 2 = nI ms) (hf_mc : im 49 = mc) (hms : ms ≤ 24) (hc0 : (0 : Int32) ≤ mc) (j1 : Nat) (w1 : Int32) (k4 : Nat) (hj4 : j1 ≤ ms) (hk4 : ms < j1 + (k4 + 1)) (hw : w1 = ttF (TV mc m_tholes) n1 j1) (c_1 : ¬ nI ms ≤ nI j1) (n_5 : j1 < ms) (c_11 : TV mc m_tholes j1 0 = n1) : j1 < 24 := by
  first | assumption | omega | decide | rfl
theorem lf_X12_tholesThat_f_22 (h : Nat) (q : Nat → Nat) (im : Nat → Int32) (ms : Nat) (mc : Int32) (m_tholes : Nat → Int32) (n1 : Int32) (hf_ms : im 2 = nI ms) (hf_mc : im 49 = mc) (hms : ms ≤ 24) (hc0 : (0 : Int32) ≤ mc) (j1 : Nat) (w1 : Int32) (k4 : Nat) (hj4 : j1 ≤ ms) (hk4 : ms < j1 + (k4 + 1)) (hw : w1 = ttF (TV mc m_tholes) n1 j1) (c_1 : ¬ nI ms ≤ nI j1) (n_5 : j1 < ms) (c_11 : TV mc m_tholes j1 0 = n1) : 1 < 2 := by
  first | assumption | omega | decide | rfl
theorem lf_X12_tholesThat_f_23 (h : Nat) (q : Nat → Nat) (im : Nat → Int32) (ms : Nat) (mc : Int32) (m_tholes : Nat → Int32) (n1 : Int32) (hf_ms : im 2 = nI ms) (hf_mc : im 49 = mc) (hms : ms ≤ 24) (hc0 : (0 : Int32) ≤ mc) (j1 : Nat) (w1 : Int32) (k4 : Nat) (hj4 : j1 ≤ ms) (hk4 : ms < j1 + (k4 + 1)) (hw : w1 = ttF (TV mc m_tholes) n1 j1) (c_1 : ¬ nI ms ≤ nI j1) (n_5 : j1 < ms) (c_11 : TV mc m_tholes j1 0 = n1) : (0 : Int32) ≤ mc := by
  first | assumption | omega | decide | rfl
theorem lf_X12_tholesThat_f_27 (h : Nat) (q : Nat → Nat) (im : Nat → Int32) (ms : Nat) (mc : Int32) (m_tholes : Nat → Int32) (n1 : Int32) (hf_ms : im 2 = nI ms) (hf_mc : im 49 = mc) (hms : ms ≤ 24) (hc0 : (0 : Int32) ≤ mc) (j1 : Nat) (w1 : Int32) (k4 : Nat) (hj4 : j1 ≤ ms) (hk4 : ms < j1 + (k4 + 1)) (hw : w1 = ttF (TV mc m_tholes) n1 j1) (c_1 : ¬ nI ms ≤ nI j1) (n_5 : j1 < ms) (c_11 : TV mc m_tholes j1 0 = n1) (c_25 : ¬ TV mc m_tholes j1 1 = n1) (x_26 : Int32) (ex_26 : x_26 = w1 + 1) : x_26 = ttF (TV mc m_tholes) n1 (j1 + 1) := by
  first | rfl | exact ttF_t hw (by first | exact (if_pos (by assumption)).symm | exact (if_neg (by assumption)).symm) (by first | exact (if_pos (by assumption)).symm | exact (if_neg (by assumption)).symm) (by assumption) (by first | assumption | decide)
theorem lf_X12_tholesThat_f_29 (h : Nat) (q : Nat → Nat) (im : Nat → Int32) (ms : Nat) (mc : Int32) (m_tholes : Nat → Int32) (n1 : Int32) (hf_ms : im 2 = nI ms) (hf_mc : im 49 = mc) (hms : ms ≤ 24) (hc0 : (0 : Int32) ≤ mc) (j1 : Nat) (w1 : Int32) (k4 : Nat) (hj4 : j1 ≤ ms) (hk4 : ms < j1 + (k4 + 1)) (hw : w1 = ttF (TV mc m_tholes) n1 j1) (c_1 : ¬ nI ms ≤ nI j1) (n_5 : j1 < ms) (c_11 : TV mc m_tholes j1 0 = n1) (c_25 : TV mc m_tholes j1 1 = n1) (x_28 : Int32) (ex_28 : x_28 = w1 + 2) : x_28 = ttF (TV mc m_tholes) n1 (j1 + 1) := by
  first | rfl | exact ttF_t hw (by first | exact (if_pos (by assumption)).symm | exact (if_neg (by assumption)).symm) (by first | exact (if_pos (by assumption)).symm | exact (if_neg (by assumption)).symm) (by assumption) (by first | assumption | decide)
theorem lf_X12_tholesThat_f_30 (h : Nat) (q : Nat → Nat) (im : Nat → Int32) (ms : Nat) (mc : Int32) (m_tholes : Nat → Int32) (n1 : Int32) (hf_ms : im 2 = nI ms) (hf_mc : im 49 = mc) (hms : ms ≤ 24) (hc0 : (0 : Int32) ≤ mc) : (0 : Int32) = ttF (TV mc m_tholes) n1 0 := by
  first | rfl | exact ttF_t hw (by first | exact (if_pos (by assumption)).symm | exact (if_neg (by assumption)).symm) (by first | exact (if_pos (by assumption)).symm | exact (if_neg (by assumption)).symm) (by assumption) (by first | assumption | decide)
set_option maxHeartbeats 4000000 in
set_option maxRecDepth 100000 in
theorem c_X12_tholesThat_f (l : Launch) (D : va_G) (cI cB cZ cJ : ClassId) (tx : List (ClassId × FieldType)) (h : Nat) (q : Nat → Nat) (im : Nat → Int32) (ms : Nat) (mc : Int32) (m_tholes : Nat → Int32) (n1 : Int32) (hf_ms : im 2 = nI ms) (hf_mc : im 49 = mc) (hms : ms ≤ 24) (hc0 : (0 : Int32) ≤ mc) : RdI l D cI cB cZ cJ tx yX12_tholesThat cX12_tholesThat 4 (some .int) 2 [.ref h, .int n1] [(h, .inr (12, mG q im)), (q 73, .inl (cI, 48, .inl m_tholes))] (fun r => r = ttF (TV mc m_tholes) n1 ms) := by
  refine rdi_of2 (by decide) (Nat.le_of_ble_eq_true rfl) ?_
  intro p e s m below meth c A ls H locs hC hK hP hD hA hS hl
  obtain ⟨hx, hb, hr, hml, hown, hts, hlocks, hin⟩ := hC
  have hown : s.vm.findClass RX12 = some m.cls := hown
  have hl : lv_has ls 4 [(0, .ref h), (1, .int n1)] := hl
  refine W_gQ (fun Q hQ => ?_)
  refine lv_iconst (v := 0) hx hb dX12_tholesThat_0 (by decide) ?_
  refine lv_istore_n (lv' := [(2, .int 0), (0, .ref h), (1, .int n1)]) hx hb dX12_tholesThat_1 rfl hl (by decide) rfl (fun ls hl => ?_)
  refine lv_iconst (v := 0) hx hb dX12_tholesThat_2 (by decide) ?_
  refine lv_istore_n (lv' := [(3, .int 0), (2, .int 0), (0, .ref h), (1, .int n1)]) hx hb dX12_tholesThat_3 rfl hl (by decide) rfl (fun ls hl => ?_)
  have lp4 : ∀ (k4 : Nat) (j1 : Nat) (w1 : Int32) (H : Heap) (locs : List Loc) (ls : Array Slot), j1 ≤ ms → ms < j1 + k4 → (w1 = ttF (TV mc m_tholes) n1 j1) → va_P D vwCl [(h, .inr (12, mG q im)), (q 73, .inl (cI, 48, .inl m_tholes))] H → va_S A s.heap H locs → lv_has ls 4 [(3, .int (nI j1)), (2, .int w1), (0, .ref h), (1, .int n1)] → W p l e (rmX 2 0 0) s m ([.ref h, .int n1] : List Value).toArray below meth c H locs 0 0 Q (F0 m 4 ls []) := by
    intro k4
    induction k4 with
    | zero =>
      intro j1 w1 H locs ls hj4 hk4 hw hP hS hl
      exact absurd hk4 (by omega)
    | succ k4 ih4 =>
      intro j1 w1 H locs ls hj4 hk4 hw hP hS hl
      refine lv_iload_n hx hb dX12_tholesThat_4 rfl (lv_at hl 0 rfl) ?_
      refine lv_aload_n hx hb dX12_tholesThat_5 rfl (lv_at hl 2 rfl) ?_
      refine va_get (D := D) (ci := 12) (v := .int (im 2)) (C := RX12) (T := TX12) (N := 81) hx hb hts inT_X12 hown hK.1 hP 0 rfl rfl 2 (by decide) (hts _ k_1355) (fun _ h9 => h9) rfl dX12_tholesThat_6 ?_
      refine lv_topv (y := nI ms) hf_ms ?_
      refine lv_icmp_ge (tgt := 52) hx hb dX12_tholesThat_9 (by decide) (fun c_1 => ?_) (fun c_1 => ?_)
      · have n_2 : ms ≤ j1 := (lf_X12_tholesThat_f_3 h q im ms mc m_tholes n1 hf_ms hf_mc hms hc0 j1 w1 k4 hj4 hk4 hw c_1)
        refine lv_iload_n hx hb dX12_tholesThat_52 rfl (lv_at hl 1 rfl) ?_
        rw [hQ]
        exact W.iret (v := w1) hx hb hr (fun tt9 ht hW => ⟨⟨(w1 : Int32), (), rfl, (lf_X12_tholesThat_f_4 h q im ms mc m_tholes n1 hf_ms hf_mc hms hc0 j1 w1 k4 hj4 hk4 hw c_1 n_2), trivial⟩, hS.F ht⟩) hS.2.2 dX12_tholesThat_53 hlocks
      · have n_5 : j1 < ms := (lf_X12_tholesThat_f_6 h q im ms mc m_tholes n1 hf_ms hf_mc hms hc0 j1 w1 k4 hj4 hk4 hw c_1)
        refine lv_iload_n hx hb dX12_tholesThat_12 rfl (lv_at hl 1 rfl) ?_
        refine lv_aload_n hx hb dX12_tholesThat_13 rfl (lv_at hl 2 rfl) ?_
        refine lv_iload_n hx hb dX12_tholesThat_14 rfl (lv_at hl 0 rfl) ?_
        refine lv_iconst (v := 0) hx hb dX12_tholesThat_15 (by decide) ?_
        refine eRi (va_runV (As := [.int (nI j1), .int 0]) (rest := [.int w1]) ⟨hx, hb, hml, hown, hts⟩ (c_X12_tholeOf_f l D cI cB cZ cJ tx h q im mc m_tholes j1 0 hf_mc (lf_X12_tholesThat_f_7 h q im ms mc m_tholes n1 hf_ms hf_mc hms hc0 j1 w1 k4 hj4 hk4 hw c_1 n_5) (lf_X12_tholesThat_f_8 h q im ms mc m_tholes n1 hf_ms hf_mc hms hc0 j1 w1 k4 hj4 hk4 hw c_1 n_5) (lf_X12_tholesThat_f_9 h q im ms mc m_tholes n1 hf_ms hf_mc hms hc0 j1 w1 k4 hj4 hk4 hw c_1 n_5) H.size) (zV hts k_1992 v_X12_tholeOf ⟨Nat.le_of_ble_eq_true rfl, Nat.le_of_ble_eq_true rfl⟩) (pV (pxS hK hP hD [0, 1] (by decide) rfl) hK hP 0 rfl rfl) rfl rfl hl.1 rfl (lv_room (Nat.le_of_ble_eq_true rfl)) dX12_tholesThat_16 ⟨Nat.le_of_ble_eq_true rfl, Nat.le_of_ble_eq_true rfl⟩) hP hS hA (fun r_10 H locs wr_10 hP hS => ?_)
        subst wr_10
        refine lv_iload_n hx hb dX12_tholesThat_19 rfl (lv_at hl 3 rfl) ?_
        refine lv_icmp_ne (tgt := 27) hx hb dX12_tholesThat_20 (by decide) (fun c_11 => ?_) (fun c_11 => ?_)
        · refine lv_iconst (v := 0) hx hb dX12_tholesThat_27 (by decide) ?_
          refine lv_aload_n hx hb dX12_tholesThat_28 rfl (lv_at hl 2 rfl) ?_
          refine lv_iload_n hx hb dX12_tholesThat_29 rfl (lv_at hl 0 rfl) ?_
          refine lv_iconst (v := 1) hx hb dX12_tholesThat_30 (by decide) ?_
          refine eRi (va_runV (As := [.int (nI j1), .int 1]) (rest := [.int 0, .int w1]) ⟨hx, hb, hml, hown, hts⟩ (c_X12_tholeOf_f l D cI cB cZ cJ tx h q im mc m_tholes j1 1 hf_mc (lf_X12_tholesThat_f_12 h q im ms mc m_tholes n1 hf_ms hf_mc hms hc0 j1 w1 k4 hj4 hk4 hw c_1 n_5 c_11) (lf_X12_tholesThat_f_13 h q im ms mc m_tholes n1 hf_ms hf_mc hms hc0 j1 w1 k4 hj4 hk4 hw c_1 n_5 c_11) (lf_X12_tholesThat_f_14 h q im ms mc m_tholes n1 hf_ms hf_mc hms hc0 j1 w1 k4 hj4 hk4 hw c_1 n_5 c_11) H.size) (zV hts k_1992 v_X12_tholeOf ⟨Nat.le_of_ble_eq_true rfl, Nat.le_of_ble_eq_true rfl⟩) (pV (pxS hK hP hD [0, 1] (by decide) rfl) hK hP 0 rfl rfl) rfl rfl hl.1 rfl (lv_room (Nat.le_of_ble_eq_true rfl)) dX12_tholesThat_31 ⟨Nat.le_of_ble_eq_true rfl, Nat.le_of_ble_eq_true rfl⟩) hP hS hA (fun r_15 H locs wr_15 hP hS => ?_)
          subst wr_15
          refine lv_iload_n hx hb dX12_tholesThat_34 rfl (lv_at hl 3 rfl) ?_
          refine lv_icmp_ne (tgt := 42) hx hb dX12_tholesThat_35 (by decide) (fun c_16 => ?_) (fun c_16 => ?_)
          · refine lv_iconst (v := 0) hx hb dX12_tholesThat_42 (by decide) ?_
            refine lv_iadd hx hb dX12_tholesThat_43 ?_
            refine lv_topv (y := 0) (by decide) ?_
            refine lv_iadd hx hb dX12_tholesThat_44 ?_
            refine lv_topi (fun x_17 ex_17 => ?_)
            refine lv_istore_n (lv' := [(2, .int x_17), (3, .int (nI j1)), (0, .ref h), (1, .int n1)]) hx hb dX12_tholesThat_45 rfl hl (by decide) rfl (fun ls hl => ?_)
            refine lv_iinc (v := nI (j1 + 1)) (lv' := [(3, .int (nI (j1 + 1))), (2, .int x_17), (0, .ref h), (1, .int n1)]) hx hb dX12_tholesThat_46 hl (k := 1) rfl (nI_1 j1) (by decide) rfl (fun ls hl => ?_)
            refine lv_goto (tgt := 4) hx hb dX12_tholesThat_49 (by decide) ?_
            exact ih4 (j1 + 1) x_17 H locs ls (by omega) (by omega) (lf_X12_tholesThat_f_18 h q im ms mc m_tholes n1 hf_ms hf_mc hms hc0 j1 w1 k4 hj4 hk4 hw c_1 n_5 c_11 c_16 x_17 ex_17) (hP.sub [0, 1] rfl)  hS (lv_sub hl [0, 1, 2, 3] rfl)
          · refine lv_iconst (v := 1) hx hb dX12_tholesThat_38 (by decide) ?_
            refine lv_goto (tgt := 43) hx hb dX12_tholesThat_39 (by decide) ?_
            refine lv_iadd hx hb dX12_tholesThat_43 ?_
            refine lv_topv (y := 1) (by decide) ?_
            refine lv_iadd hx hb dX12_tholesThat_44 ?_
            refine lv_topi (fun x_19 ex_19 => ?_)
            refine lv_istore_n (lv' := [(2, .int x_19), (3, .int (nI j1)), (0, .ref h), (1, .int n1)]) hx hb dX12_tholesThat_45 rfl hl (by decide) rfl (fun ls hl => ?_)
            refine lv_iinc (v := nI (j1 + 1)) (lv' := [(3, .int (nI (j1 + 1))), (2, .int x_19), (0, .ref h), (1, .int n1)]) hx hb dX12_tholesThat_46 hl (k := 1) rfl (nI_1 j1) (by decide) rfl (fun ls hl => ?_)
            refine lv_goto (tgt := 4) hx hb dX12_tholesThat_49 (by decide) ?_
            exact ih4 (j1 + 1) x_19 H locs ls (by omega) (by omega) (lf_X12_tholesThat_f_20 h q im ms mc m_tholes n1 hf_ms hf_mc hms hc0 j1 w1 k4 hj4 hk4 hw c_1 n_5 c_11 c_16 x_19 ex_19) (hP.sub [0, 1] rfl)  hS (lv_sub hl [0, 1, 2, 3] rfl)
        · refine lv_iconst (v := 1) hx hb dX12_tholesThat_23 (by decide) ?_
          refine lv_goto (tgt := 28) hx hb dX12_tholesThat_24 (by decide) ?_
          refine lv_aload_n hx hb dX12_tholesThat_28 rfl (lv_at hl 2 rfl) ?_
          refine lv_iload_n hx hb dX12_tholesThat_29 rfl (lv_at hl 0 rfl) ?_
          refine lv_iconst (v := 1) hx hb dX12_tholesThat_30 (by decide) ?_
          refine eRi (va_runV (As := [.int (nI j1), .int 1]) (rest := [.int 1, .int w1]) ⟨hx, hb, hml, hown, hts⟩ (c_X12_tholeOf_f l D cI cB cZ cJ tx h q im mc m_tholes j1 1 hf_mc (lf_X12_tholesThat_f_21 h q im ms mc m_tholes n1 hf_ms hf_mc hms hc0 j1 w1 k4 hj4 hk4 hw c_1 n_5 c_11) (lf_X12_tholesThat_f_22 h q im ms mc m_tholes n1 hf_ms hf_mc hms hc0 j1 w1 k4 hj4 hk4 hw c_1 n_5 c_11) (lf_X12_tholesThat_f_23 h q im ms mc m_tholes n1 hf_ms hf_mc hms hc0 j1 w1 k4 hj4 hk4 hw c_1 n_5 c_11) H.size) (zV hts k_1992 v_X12_tholeOf ⟨Nat.le_of_ble_eq_true rfl, Nat.le_of_ble_eq_true rfl⟩) (pV (pxS hK hP hD [0, 1] (by decide) rfl) hK hP 0 rfl rfl) rfl rfl hl.1 rfl (lv_room (Nat.le_of_ble_eq_true rfl)) dX12_tholesThat_31 ⟨Nat.le_of_ble_eq_true rfl, Nat.le_of_ble_eq_true rfl⟩) hP hS hA (fun r_24 H locs wr_24 hP hS => ?_)
          subst wr_24
          refine lv_iload_n hx hb dX12_tholesThat_34 rfl (lv_at hl 3 rfl) ?_
          refine lv_icmp_ne (tgt := 42) hx hb dX12_tholesThat_35 (by decide) (fun c_25 => ?_) (fun c_25 => ?_)
          · refine lv_iconst (v := 0) hx hb dX12_tholesThat_42 (by decide) ?_
            refine lv_iadd hx hb dX12_tholesThat_43 ?_
            refine lv_topv (y := 1) (by decide) ?_
            refine lv_iadd hx hb dX12_tholesThat_44 ?_
            refine lv_topi (fun x_26 ex_26 => ?_)
            refine lv_istore_n (lv' := [(2, .int x_26), (3, .int (nI j1)), (0, .ref h), (1, .int n1)]) hx hb dX12_tholesThat_45 rfl hl (by decide) rfl (fun ls hl => ?_)
            refine lv_iinc (v := nI (j1 + 1)) (lv' := [(3, .int (nI (j1 + 1))), (2, .int x_26), (0, .ref h), (1, .int n1)]) hx hb dX12_tholesThat_46 hl (k := 1) rfl (nI_1 j1) (by decide) rfl (fun ls hl => ?_)
            refine lv_goto (tgt := 4) hx hb dX12_tholesThat_49 (by decide) ?_
            exact ih4 (j1 + 1) x_26 H locs ls (by omega) (by omega) (lf_X12_tholesThat_f_27 h q im ms mc m_tholes n1 hf_ms hf_mc hms hc0 j1 w1 k4 hj4 hk4 hw c_1 n_5 c_11 c_25 x_26 ex_26) (hP.sub [0, 1] rfl)  hS (lv_sub hl [0, 1, 2, 3] rfl)
          · refine lv_iconst (v := 1) hx hb dX12_tholesThat_38 (by decide) ?_
            refine lv_goto (tgt := 43) hx hb dX12_tholesThat_39 (by decide) ?_
            refine lv_iadd hx hb dX12_tholesThat_43 ?_
            refine lv_topv (y := 2) (by decide) ?_
            refine lv_iadd hx hb dX12_tholesThat_44 ?_
            refine lv_topi (fun x_28 ex_28 => ?_)
            refine lv_istore_n (lv' := [(2, .int x_28), (3, .int (nI j1)), (0, .ref h), (1, .int n1)]) hx hb dX12_tholesThat_45 rfl hl (by decide) rfl (fun ls hl => ?_)
            refine lv_iinc (v := nI (j1 + 1)) (lv' := [(3, .int (nI (j1 + 1))), (2, .int x_28), (0, .ref h), (1, .int n1)]) hx hb dX12_tholesThat_46 hl (k := 1) rfl (nI_1 j1) (by decide) rfl (fun ls hl => ?_)
            refine lv_goto (tgt := 4) hx hb dX12_tholesThat_49 (by decide) ?_
            exact ih4 (j1 + 1) x_28 H locs ls (by omega) (by omega) (lf_X12_tholesThat_f_29 h q im ms mc m_tholes n1 hf_ms hf_mc hms hc0 j1 w1 k4 hj4 hk4 hw c_1 n_5 c_11 c_25 x_28 ex_28) (hP.sub [0, 1] rfl)  hS (lv_sub hl [0, 1, 2, 3] rfl)
  exact lp4 (ms + 1) 0 0 H locs ls (by omega) (by omega) (lf_X12_tholesThat_f_30 h q im ms mc m_tholes n1 hf_ms hf_mc hms hc0) (hP.sub [0, 1] rfl)  hS (lv_sub hl [0, 1, 2, 3] rfl)

theorem lf_X12_oars_f_3 (h : Nat) (q : Nat → Nat) (im : Nat → Int32) (ms : Nat) (mc : Int32) (m_tholes : Nat → Int32) (n1 : Int32) (hf_ms : im 2 = nI ms) (hf_mc : im 49 = mc) (hms : ms ≤ 24) (hc0 : (0 : Int32) ≤ mc) (c_1 : nI ms = 0) : ms = 0 := by
  exact (nI_eq (a := ms) (b := 0) (by omega) (by omega)).mp c_1
theorem lf_X12_oars_f_4 (h : Nat) (q : Nat → Nat) (im : Nat → Int32) (ms : Nat) (mc : Int32) (m_tholes : Nat → Int32) (n1 : Int32) (hf_ms : im 2 = nI ms) (hf_mc : im 49 = mc) (hms : ms ≤ 24) (hc0 : (0 : Int32) ≤ mc) (c_1 : nI ms = 0) (n_2 : ms = 0) : ((-1) : Int32) = orF (TV mc m_tholes) ms n1 := by
  first | exact or_0 (by omega) | exact or_n (by assumption) | (refine or_v (by omega) ?_; rw [tn1e]; (first | rw [if_pos (by assumption)] | rw [if_neg (by assumption), if_pos (by assumption)] | rw [if_neg (by assumption), if_neg (by assumption), if_pos (by assumption)] | rw [if_neg (by assumption), if_neg (by assumption), if_neg (by assumption), if_pos (by assumption)] | rw [if_neg (by assumption), if_neg (by assumption), if_neg (by assumption), if_pos (show nI tn1 = 3 by rw [show tn1 = 3 by omega]; rfl)]) <;> (first | exact atn (F := fun i => leF (TV mc m_tholes) i) (by assumption) (by assumption) (by assumption) | exact atn (F := fun i => moF (TV mc m_tholes) i) (by assumption) (by assumption) (by assumption) | assumption))
theorem lf_X12_oars_f_6 (h : Nat) (q : Nat → Nat) (im : Nat → Int32) (ms : Nat) (mc : Int32) (m_tholes : Nat → Int32) (n1 : Int32) (hf_ms : im 2 = nI ms) (hf_mc : im 49 = mc) (hms : ms ≤ 24) (hc0 : (0 : Int32) ≤ mc) (c_1 : ¬ nI ms = 0) : ms ≠ 0 := by
  exact fun q => c_1 ((nI_eq (a := ms) (b := 0) (by omega) (by omega)).mpr q)
theorem lf_X12_oars_f_11 (h : Nat) (q : Nat → Nat) (im : Nat → Int32) (ms : Nat) (mc : Int32) (m_tholes : Nat → Int32) (n1 : Int32) (hf_ms : im 2 = nI ms) (hf_mc : im 49 = mc) (hms : ms ≤ 24) (hc0 : (0 : Int32) ≤ mc) (c_1 : ¬ nI ms = 0) (n_5 : ms ≠ 0) (c_8 : (0 : Int32) ≤ n1 ∧ n1 ≤ 3) (tn1 : Nat) (tn1a : 0 ≤ tn1) (tn1b : tn1 ≤ 3) (tn1e : n1 = nI tn1) (j1 : Nat) (w1 : Int32) (w2 : Int32) (k28 : Nat) (hj28 : j1 ≤ ms) (hk28 : ms < j1 + (k28 + 1)) (hw1 : w1 = leF (TV mc m_tholes) j1) (hw2 : w2 = moF (TV mc m_tholes) j1) (c_9 : nI ms ≤ nI j1) : ms ≤ j1 := by
  exact (nI_leI (a := ms) (b := j1) (by omega) (by omega)).mp c_9
theorem lf_X12_oars_f_14 (h : Nat) (q : Nat → Nat) (im : Nat → Int32) (ms : Nat) (mc : Int32) (m_tholes : Nat → Int32) (n1 : Int32) (hf_ms : im 2 = nI ms) (hf_mc : im 49 = mc) (hms : ms ≤ 24) (hc0 : (0 : Int32) ≤ mc) (c_1 : ¬ nI ms = 0) (n_5 : ms ≠ 0) (c_8 : (0 : Int32) ≤ n1 ∧ n1 ≤ 3) (tn1 : Nat) (tn1a : 0 ≤ tn1) (tn1b : tn1 ≤ 3) (tn1e : n1 = nI tn1) (j1 : Nat) (w1 : Int32) (w2 : Int32) (k28 : Nat) (hj28 : j1 ≤ ms) (hk28 : ms < j1 + (k28 + 1)) (hw1 : w1 = leF (TV mc m_tholes) j1) (hw2 : w2 = moF (TV mc m_tholes) j1) (c_9 : nI ms ≤ nI j1) (n_10 : ms ≤ j1) (c_12 : ¬ nI tn1 = 0) : tn1 ≠ 0 := by
  exact fun q => c_12 ((nI_eq (a := tn1) (b := 0) (by omega) (by omega)).mpr q)
theorem lf_X12_oars_f_17 (h : Nat) (q : Nat → Nat) (im : Nat → Int32) (ms : Nat) (mc : Int32) (m_tholes : Nat → Int32) (n1 : Int32) (hf_ms : im 2 = nI ms) (hf_mc : im 49 = mc) (hms : ms ≤ 24) (hc0 : (0 : Int32) ≤ mc) (c_1 : ¬ nI ms = 0) (n_5 : ms ≠ 0) (c_8 : (0 : Int32) ≤ n1 ∧ n1 ≤ 3) (tn1 : Nat) (tn1a : 0 ≤ tn1) (tn1b : tn1 ≤ 3) (tn1e : n1 = nI tn1) (j1 : Nat) (w1 : Int32) (w2 : Int32) (k28 : Nat) (hj28 : j1 ≤ ms) (hk28 : ms < j1 + (k28 + 1)) (hw1 : w1 = leF (TV mc m_tholes) j1) (hw2 : w2 = moF (TV mc m_tholes) j1) (c_9 : nI ms ≤ nI j1) (n_10 : ms ≤ j1) (c_12 : ¬ nI tn1 = 0) (n_13 : tn1 ≠ 0) (c_15 : ¬ nI tn1 = 1) : tn1 ≠ 1 := by
  exact fun q => c_15 ((nI_eq (a := tn1) (b := 1) (by omega) (by omega)).mpr q)
theorem lf_X12_oars_f_20 (h : Nat) (q : Nat → Nat) (im : Nat → Int32) (ms : Nat) (mc : Int32) (m_tholes : Nat → Int32) (n1 : Int32) (hf_ms : im 2 = nI ms) (hf_mc : im 49 = mc) (hms : ms ≤ 24) (hc0 : (0 : Int32) ≤ mc) (c_1 : ¬ nI ms = 0) (n_5 : ms ≠ 0) (c_8 : (0 : Int32) ≤ n1 ∧ n1 ≤ 3) (tn1 : Nat) (tn1a : 0 ≤ tn1) (tn1b : tn1 ≤ 3) (tn1e : n1 = nI tn1) (j1 : Nat) (w1 : Int32) (w2 : Int32) (k28 : Nat) (hj28 : j1 ≤ ms) (hk28 : ms < j1 + (k28 + 1)) (hw1 : w1 = leF (TV mc m_tholes) j1) (hw2 : w2 = moF (TV mc m_tholes) j1) (c_9 : nI ms ≤ nI j1) (n_10 : ms ≤ j1) (c_12 : ¬ nI tn1 = 0) (n_13 : tn1 ≠ 0) (c_15 : ¬ nI tn1 = 1) (n_16 : tn1 ≠ 1) (c_18 : ¬ nI tn1 = 2) : tn1 ≠ 2 := by
  exact fun q => c_18 ((nI_eq (a := tn1) (b := 2) (by omega) (by omega)).mpr q)
theorem lf_X12_oars_f_21 (h : Nat) (q : Nat → Nat) (im : Nat → Int32) (ms : Nat) (mc : Int32) (m_tholes : Nat → Int32) (n1 : Int32) (hf_ms : im 2 = nI ms) (hf_mc : im 49 = mc) (hms : ms ≤ 24) (hc0 : (0 : Int32) ≤ mc) (c_1 : ¬ nI ms = 0) (n_5 : ms ≠ 0) (c_8 : (0 : Int32) ≤ n1 ∧ n1 ≤ 3) (tn1 : Nat) (tn1a : 0 ≤ tn1) (tn1b : tn1 ≤ 3) (tn1e : n1 = nI tn1) (j1 : Nat) (w1 : Int32) (w2 : Int32) (k28 : Nat) (hj28 : j1 ≤ ms) (hk28 : ms < j1 + (k28 + 1)) (hw1 : w1 = leF (TV mc m_tholes) j1) (hw2 : w2 = moF (TV mc m_tholes) j1) (c_9 : nI ms ≤ nI j1) (n_10 : ms ≤ j1) (c_12 : ¬ nI tn1 = 0) (n_13 : tn1 ≠ 0) (c_15 : ¬ nI tn1 = 1) (n_16 : tn1 ≠ 1) (c_18 : ¬ nI tn1 = 2) (n_19 : tn1 ≠ 2) : ms ≤ 24 := by
  first | assumption | omega | decide | rfl
theorem lf_X12_oars_f_22 (h : Nat) (q : Nat → Nat) (im : Nat → Int32) (ms : Nat) (mc : Int32) (m_tholes : Nat → Int32) (n1 : Int32) (hf_ms : im 2 = nI ms) (hf_mc : im 49 = mc) (hms : ms ≤ 24) (hc0 : (0 : Int32) ≤ mc) (c_1 : ¬ nI ms = 0) (n_5 : ms ≠ 0) (c_8 : (0 : Int32) ≤ n1 ∧ n1 ≤ 3) (tn1 : Nat) (tn1a : 0 ≤ tn1) (tn1b : tn1 ≤ 3) (tn1e : n1 = nI tn1) (j1 : Nat) (w1 : Int32) (w2 : Int32) (k28 : Nat) (hj28 : j1 ≤ ms) (hk28 : ms < j1 + (k28 + 1)) (hw1 : w1 = leF (TV mc m_tholes) j1) (hw2 : w2 = moF (TV mc m_tholes) j1) (c_9 : nI ms ≤ nI j1) (n_10 : ms ≤ j1) (c_12 : ¬ nI tn1 = 0) (n_13 : tn1 ≠ 0) (c_15 : ¬ nI tn1 = 1) (n_16 : tn1 ≠ 1) (c_18 : ¬ nI tn1 = 2) (n_19 : tn1 ≠ 2) : (0 : Int32) ≤ mc := by
  first | assumption | omega | decide | rfl
theorem lf_X12_oars_f_24 (h : Nat) (q : Nat → Nat) (im : Nat → Int32) (ms : Nat) (mc : Int32) (m_tholes : Nat → Int32) (n1 : Int32) (hf_ms : im 2 = nI ms) (hf_mc : im 49 = mc) (hms : ms ≤ 24) (hc0 : (0 : Int32) ≤ mc) (c_1 : ¬ nI ms = 0) (n_5 : ms ≠ 0) (c_8 : (0 : Int32) ≤ n1 ∧ n1 ≤ 3) (tn1 : Nat) (tn1a : 0 ≤ tn1) (tn1b : tn1 ≤ 3) (tn1e : n1 = nI tn1) (j1 : Nat) (w1 : Int32) (w2 : Int32) (k28 : Nat) (hj28 : j1 ≤ ms) (hk28 : ms < j1 + (k28 + 1)) (hw1 : w1 = leF (TV mc m_tholes) j1) (hw2 : w2 = moF (TV mc m_tholes) j1) (c_9 : nI ms ≤ nI j1) (n_10 : ms ≤ j1) (c_12 : ¬ nI tn1 = 0) (n_13 : tn1 ≠ 0) (c_15 : ¬ nI tn1 = 1) (n_16 : tn1 ≠ 1) (c_18 : ¬ nI tn1 = 2) (n_19 : tn1 ≠ 2) : (ttF (TV mc m_tholes) 1 ms : Int32) = orF (TV mc m_tholes) ms n1 := by
  first | exact or_0 (by omega) | exact or_n (by assumption) | (refine or_v (by omega) ?_; rw [tn1e]; (first | rw [if_pos (by assumption)] | rw [if_neg (by assumption), if_pos (by assumption)] | rw [if_neg (by assumption), if_neg (by assumption), if_pos (by assumption)] | rw [if_neg (by assumption), if_neg (by assumption), if_neg (by assumption), if_pos (by assumption)] | rw [if_neg (by assumption), if_neg (by assumption), if_neg (by assumption), if_pos (show nI tn1 = 3 by rw [show tn1 = 3 by omega]; rfl)]) <;> (first | exact atn (F := fun i => leF (TV mc m_tholes) i) (by assumption) (by assumption) (by assumption) | exact atn (F := fun i => moF (TV mc m_tholes) i) (by assumption) (by assumption) (by assumption) | assumption))
theorem lf_X12_oars_f_26 (h : Nat) (q : Nat → Nat) (im : Nat → Int32) (ms : Nat) (mc : Int32) (m_tholes : Nat → Int32) (n1 : Int32) (hf_ms : im 2 = nI ms) (hf_mc : im 49 = mc) (hms : ms ≤ 24) (hc0 : (0 : Int32) ≤ mc) (c_1 : ¬ nI ms = 0) (n_5 : ms ≠ 0) (c_8 : (0 : Int32) ≤ n1 ∧ n1 ≤ 3) (tn1 : Nat) (tn1a : 0 ≤ tn1) (tn1b : tn1 ≤ 3) (tn1e : n1 = nI tn1) (j1 : Nat) (w1 : Int32) (w2 : Int32) (k28 : Nat) (hj28 : j1 ≤ ms) (hk28 : ms < j1 + (k28 + 1)) (hw1 : w1 = leF (TV mc m_tholes) j1) (hw2 : w2 = moF (TV mc m_tholes) j1) (c_9 : nI ms ≤ nI j1) (n_10 : ms ≤ j1) (c_12 : ¬ nI tn1 = 0) (n_13 : tn1 ≠ 0) (c_15 : ¬ nI tn1 = 1) (n_16 : tn1 ≠ 1) (c_18 : nI tn1 = 2) : tn1 = 2 := by
  exact (nI_eq (a := tn1) (b := 2) (by omega) (by omega)).mp c_18
theorem lf_X12_oars_f_27 (h : Nat) (q : Nat → Nat) (im : Nat → Int32) (ms : Nat) (mc : Int32) (m_tholes : Nat → Int32) (n1 : Int32) (hf_ms : im 2 = nI ms) (hf_mc : im 49 = mc) (hms : ms ≤ 24) (hc0 : (0 : Int32) ≤ mc) (c_1 : ¬ nI ms = 0) (n_5 : ms ≠ 0) (c_8 : (0 : Int32) ≤ n1 ∧ n1 ≤ 3) (tn1 : Nat) (tn1a : 0 ≤ tn1) (tn1b : tn1 ≤ 3) (tn1e : n1 = nI tn1) (j1 : Nat) (w1 : Int32) (w2 : Int32) (k28 : Nat) (hj28 : j1 ≤ ms) (hk28 : ms < j1 + (k28 + 1)) (hw1 : w1 = leF (TV mc m_tholes) j1) (hw2 : w2 = moF (TV mc m_tholes) j1) (c_9 : nI ms ≤ nI j1) (n_10 : ms ≤ j1) (c_12 : ¬ nI tn1 = 0) (n_13 : tn1 ≠ 0) (c_15 : ¬ nI tn1 = 1) (n_16 : tn1 ≠ 1) (c_18 : nI tn1 = 2) (n_25 : tn1 = 2) : ms ≤ 24 := by
  first | assumption | omega | decide | rfl
theorem lf_X12_oars_f_28 (h : Nat) (q : Nat → Nat) (im : Nat → Int32) (ms : Nat) (mc : Int32) (m_tholes : Nat → Int32) (n1 : Int32) (hf_ms : im 2 = nI ms) (hf_mc : im 49 = mc) (hms : ms ≤ 24) (hc0 : (0 : Int32) ≤ mc) (c_1 : ¬ nI ms = 0) (n_5 : ms ≠ 0) (c_8 : (0 : Int32) ≤ n1 ∧ n1 ≤ 3) (tn1 : Nat) (tn1a : 0 ≤ tn1) (tn1b : tn1 ≤ 3) (tn1e : n1 = nI tn1) (j1 : Nat) (w1 : Int32) (w2 : Int32) (k28 : Nat) (hj28 : j1 ≤ ms) (hk28 : ms < j1 + (k28 + 1)) (hw1 : w1 = leF (TV mc m_tholes) j1) (hw2 : w2 = moF (TV mc m_tholes) j1) (c_9 : nI ms ≤ nI j1) (n_10 : ms ≤ j1) (c_12 : ¬ nI tn1 = 0) (n_13 : tn1 ≠ 0) (c_15 : ¬ nI tn1 = 1) (n_16 : tn1 ≠ 1) (c_18 : nI tn1 = 2) (n_25 : tn1 = 2) : (0 : Int32) ≤ mc := by
  first | assumption | omega | decide | rfl
theorem lf_X12_oars_f_30 (h : Nat) (q : Nat → Nat) (im : Nat → Int32) (ms : Nat) (mc : Int32) (m_tholes : Nat → Int32) (n1 : Int32) (hf_ms : im 2 = nI ms) (hf_mc : im 49 = mc) (hms : ms ≤ 24) (hc0 : (0 : Int32) ≤ mc) (c_1 : ¬ nI ms = 0) (n_5 : ms ≠ 0) (c_8 : (0 : Int32) ≤ n1 ∧ n1 ≤ 3) (tn1 : Nat) (tn1a : 0 ≤ tn1) (tn1b : tn1 ≤ 3) (tn1e : n1 = nI tn1) (j1 : Nat) (w1 : Int32) (w2 : Int32) (k28 : Nat) (hj28 : j1 ≤ ms) (hk28 : ms < j1 + (k28 + 1)) (hw1 : w1 = leF (TV mc m_tholes) j1) (hw2 : w2 = moF (TV mc m_tholes) j1) (c_9 : nI ms ≤ nI j1) (n_10 : ms ≤ j1) (c_12 : ¬ nI tn1 = 0) (n_13 : tn1 ≠ 0) (c_15 : ¬ nI tn1 = 1) (n_16 : tn1 ≠ 1) (c_18 : nI tn1 = 2) (n_25 : tn1 = 2) : ms ≤ 24 := by
  first | assumption | omega | decide | rfl
theorem lf_X12_oars_f_31 (h : Nat) (q : Nat → Nat) (im : Nat → Int32) (ms : Nat) (mc : Int32) (m_tholes : Nat → Int32) (n1 : Int32) (hf_ms : im 2 = nI ms) (hf_mc : im 49 = mc) (hms : ms ≤ 24) (hc0 : (0 : Int32) ≤ mc) (c_1 : ¬ nI ms = 0) (n_5 : ms ≠ 0) (c_8 : (0 : Int32) ≤ n1 ∧ n1 ≤ 3) (tn1 : Nat) (tn1a : 0 ≤ tn1) (tn1b : tn1 ≤ 3) (tn1e : n1 = nI tn1) (j1 : Nat) (w1 : Int32) (w2 : Int32) (k28 : Nat) (hj28 : j1 ≤ ms) (hk28 : ms < j1 + (k28 + 1)) (hw1 : w1 = leF (TV mc m_tholes) j1) (hw2 : w2 = moF (TV mc m_tholes) j1) (c_9 : nI ms ≤ nI j1) (n_10 : ms ≤ j1) (c_12 : ¬ nI tn1 = 0) (n_13 : tn1 ≠ 0) (c_15 : ¬ nI tn1 = 1) (n_16 : tn1 ≠ 1) (c_18 : nI tn1 = 2) (n_25 : tn1 = 2) : (0 : Int32) ≤ mc := by
  first | assumption | omega | decide | rfl
theorem lf_X12_oars_f_34 (h : Nat) (q : Nat → Nat) (im : Nat → Int32) (ms : Nat) (mc : Int32) (m_tholes : Nat → Int32) (n1 : Int32) (hf_ms : im 2 = nI ms) (hf_mc : im 49 = mc) (hms : ms ≤ 24) (hc0 : (0 : Int32) ≤ mc) (c_1 : ¬ nI ms = 0) (n_5 : ms ≠ 0) (c_8 : (0 : Int32) ≤ n1 ∧ n1 ≤ 3) (tn1 : Nat) (tn1a : 0 ≤ tn1) (tn1b : tn1 ≤ 3) (tn1e : n1 = nI tn1) (j1 : Nat) (w1 : Int32) (w2 : Int32) (k28 : Nat) (hj28 : j1 ≤ ms) (hk28 : ms < j1 + (k28 + 1)) (hw1 : w1 = leF (TV mc m_tholes) j1) (hw2 : w2 = moF (TV mc m_tholes) j1) (c_9 : nI ms ≤ nI j1) (n_10 : ms ≤ j1) (c_12 : ¬ nI tn1 = 0) (n_13 : tn1 ≠ 0) (c_15 : ¬ nI tn1 = 1) (n_16 : tn1 ≠ 1) (c_18 : nI tn1 = 2) (n_25 : tn1 = 2) (x_33 : Int32) (ex_33 : x_33 = ttF (TV mc m_tholes) 0 ms + ttF (TV mc m_tholes) 1 ms) : (x_33 : Int32) = orF (TV mc m_tholes) ms n1 := by
  first | exact or_0 (by omega) | exact or_n (by assumption) | (refine or_v (by omega) ?_; rw [tn1e]; (first | rw [if_pos (by assumption)] | rw [if_neg (by assumption), if_pos (by assumption)] | rw [if_neg (by assumption), if_neg (by assumption), if_pos (by assumption)] | rw [if_neg (by assumption), if_neg (by assumption), if_neg (by assumption), if_pos (by assumption)] | rw [if_neg (by assumption), if_neg (by assumption), if_neg (by assumption), if_pos (show nI tn1 = 3 by rw [show tn1 = 3 by omega]; rfl)]) <;> (first | exact atn (F := fun i => leF (TV mc m_tholes) i) (by assumption) (by assumption) (by assumption) | exact atn (F := fun i => moF (TV mc m_tholes) i) (by assumption) (by assumption) (by assumption) | assumption))
theorem lf_X12_oars_f_36 (h : Nat) (q : Nat → Nat) (im : Nat → Int32) (ms : Nat) (mc : Int32) (m_tholes : Nat → Int32) (n1 : Int32) (hf_ms : im 2 = nI ms) (hf_mc : im 49 = mc) (hms : ms ≤ 24) (hc0 : (0 : Int32) ≤ mc) (c_1 : ¬ nI ms = 0) (n_5 : ms ≠ 0) (c_8 : (0 : Int32) ≤ n1 ∧ n1 ≤ 3) (tn1 : Nat) (tn1a : 0 ≤ tn1) (tn1b : tn1 ≤ 3) (tn1e : n1 = nI tn1) (j1 : Nat) (w1 : Int32) (w2 : Int32) (k28 : Nat) (hj28 : j1 ≤ ms) (hk28 : ms < j1 + (k28 + 1)) (hw1 : w1 = leF (TV mc m_tholes) j1) (hw2 : w2 = moF (TV mc m_tholes) j1) (c_9 : nI ms ≤ nI j1) (n_10 : ms ≤ j1) (c_12 : ¬ nI tn1 = 0) (n_13 : tn1 ≠ 0) (c_15 : nI tn1 = 1) : tn1 = 1 := by
  exact (nI_eq (a := tn1) (b := 1) (by omega) (by omega)).mp c_15
theorem lf_X12_oars_f_37 (h : Nat) (q : Nat → Nat) (im : Nat → Int32) (ms : Nat) (mc : Int32) (m_tholes : Nat → Int32) (n1 : Int32) (hf_ms : im 2 = nI ms) (hf_mc : im 49 = mc) (hms : ms ≤ 24) (hc0 : (0 : Int32) ≤ mc) (c_1 : ¬ nI ms = 0) (n_5 : ms ≠ 0) (c_8 : (0 : Int32) ≤ n1 ∧ n1 ≤ 3) (tn1 : Nat) (tn1a : 0 ≤ tn1) (tn1b : tn1 ≤ 3) (tn1e : n1 = nI tn1) (j1 : Nat) (w1 : Int32) (w2 : Int32) (k28 : Nat) (hj28 : j1 ≤ ms) (hk28 : ms < j1 + (k28 + 1)) (hw1 : w1 = leF (TV mc m_tholes) j1) (hw2 : w2 = moF (TV mc m_tholes) j1) (c_9 : nI ms ≤ nI j1) (n_10 : ms ≤ j1) (c_12 : ¬ nI tn1 = 0) (n_13 : tn1 ≠ 0) (c_15 : nI tn1 = 1) (n_35 : tn1 = 1) : (w2 : Int32) = orF (TV mc m_tholes) ms n1 := by
  first | exact or_0 (by omega) | exact or_n (by assumption) | (refine or_v (by omega) ?_; rw [tn1e]; (first | rw [if_pos (by assumption)] | rw [if_neg (by assumption), if_pos (by assumption)] | rw [if_neg (by assumption), if_neg (by assumption), if_pos (by assumption)] | rw [if_neg (by assumption), if_neg (by assumption), if_neg (by assumption), if_pos (by assumption)] | rw [if_neg (by assumption), if_neg (by assumption), if_neg (by assumption), if_pos (show nI tn1 = 3 by rw [show tn1 = 3 by omega]; rfl)]) <;> (first | exact atn (F := fun i => leF (TV mc m_tholes) i) (by assumption) (by assumption) (by assumption) | exact atn (F := fun i => moF (TV mc m_tholes) i) (by assumption) (by assumption) (by assumption) | assumption))
theorem lf_X12_oars_f_39 (h : Nat) (q : Nat → Nat) (im : Nat → Int32) (ms : Nat) (mc : Int32) (m_tholes : Nat → Int32) (n1 : Int32) (hf_ms : im 2 = nI ms) (hf_mc : im 49 = mc) (hms : ms ≤ 24) (hc0 : (0 : Int32) ≤ mc) (c_1 : ¬ nI ms = 0) (n_5 : ms ≠ 0) (c_8 : (0 : Int32) ≤ n1 ∧ n1 ≤ 3) (tn1 : Nat) (tn1a : 0 ≤ tn1) (tn1b : tn1 ≤ 3) (tn1e : n1 = nI tn1) (j1 : Nat) (w1 : Int32) (w2 : Int32) (k28 : Nat) (hj28 : j1 ≤ ms) (hk28 : ms < j1 + (k28 + 1)) (hw1 : w1 = leF (TV mc m_tholes) j1) (hw2 : w2 = moF (TV mc m_tholes) j1) (c_9 : nI ms ≤ nI j1) (n_10 : ms ≤ j1) (c_12 : nI tn1 = 0) : tn1 = 0 := by
  exact (nI_eq (a := tn1) (b := 0) (by omega) (by omega)).mp c_12
theorem lf_X12_oars_f_40 (h : Nat) (q : Nat → Nat) (im : Nat → Int32) (ms : Nat) (mc : Int32) (m_tholes : Nat → Int32) (n1 : Int32) (hf_ms : im 2 = nI ms) (hf_mc : im 49 = mc) (hms : ms ≤ 24) (hc0 : (0 : Int32) ≤ mc) (c_1 : ¬ nI ms = 0) (n_5 : ms ≠ 0) (c_8 : (0 : Int32) ≤ n1 ∧ n1 ≤ 3) (tn1 : Nat) (tn1a : 0 ≤ tn1) (tn1b : tn1 ≤ 3) (tn1e : n1 = nI tn1) (j1 : Nat) (w1 : Int32) (w2 : Int32) (k28 : Nat) (hj28 : j1 ≤ ms) (hk28 : ms < j1 + (k28 + 1)) (hw1 : w1 = leF (TV mc m_tholes) j1) (hw2 : w2 = moF (TV mc m_tholes) j1) (c_9 : nI ms ≤ nI j1) (n_10 : ms ≤ j1) (c_12 : nI tn1 = 0) (n_38 : tn1 = 0) : (w1 : Int32) = orF (TV mc m_tholes) ms n1 := by
  first | exact or_0 (by omega) | exact or_n (by assumption) | (refine or_v (by omega) ?_; rw [tn1e]; (first | rw [if_pos (by assumption)] | rw [if_neg (by assumption), if_pos (by assumption)] | rw [if_neg (by assumption), if_neg (by assumption), if_pos (by assumption)] | rw [if_neg (by assumption), if_neg (by assumption), if_neg (by assumption), if_pos (by assumption)] | rw [if_neg (by assumption), if_neg (by assumption), if_neg (by assumption), if_pos (show nI tn1 = 3 by rw [show tn1 = 3 by omega]; rfl)]) <;> (first | exact atn (F := fun i => leF (TV mc m_tholes) i) (by assumption) (by assumption) (by assumption) | exact atn (F := fun i => moF (TV mc m_tholes) i) (by assumption) (by assumption) (by assumption) | assumption))
theorem lf_X12_oars_f_42 (h : Nat) (q : Nat → Nat) (im : Nat → Int32) (ms : Nat) (mc : Int32) (m_tholes : Nat → Int32) (n1 : Int32) (hf_ms : im 2 = nI ms) (hf_mc : im 49 = mc) (hms : ms ≤ 24) (hc0 : (0 : Int32) ≤ mc) (c_1 : ¬ nI ms = 0) (n_5 : ms ≠ 0) (c_8 : (0 : Int32) ≤ n1 ∧ n1 ≤ 3) (tn1 : Nat) (tn1a : 0 ≤ tn1) (tn1b : tn1 ≤ 3) (tn1e : n1 = nI tn1) (j1 : Nat) (w1 : Int32) (w2 : Int32) (k28 : Nat) (hj28 : j1 ≤ ms) (hk28 : ms < j1 + (k28 + 1)) (hw1 : w1 = leF (TV mc m_tholes) j1) (hw2 : w2 = moF (TV mc m_tholes) j1) (c_9 : ¬ nI ms ≤ nI j1) : j1 < ms := by
  exact Nat.lt_of_not_le (fun q => c_9 ((nI_leI (a := ms) (b := j1) (by omega) (by omega)).mpr q))
theorem lf_X12_oars_f_43 (h : Nat) (q : Nat → Nat) (im : Nat → Int32) (ms : Nat) (mc : Int32) (m_tholes : Nat → Int32) (n1 : Int32) (hf_ms : im 2 = nI ms) (hf_mc : im 49 = mc) (hms : ms ≤ 24) (hc0 : (0 : Int32) ≤ mc) (c_1 : ¬ nI ms = 0) (n_5 : ms ≠ 0) (c_8 : (0 : Int32) ≤ n1 ∧ n1 ≤ 3) (tn1 : Nat) (tn1a : 0 ≤ tn1) (tn1b : tn1 ≤ 3) (tn1e : n1 = nI tn1) (j1 : Nat) (w1 : Int32) (w2 : Int32) (k28 : Nat) (hj28 : j1 ≤ ms) (hk28 : ms < j1 + (k28 + 1)) (hw1 : w1 = leF (TV mc m_tholes) j1) (hw2 : w2 = moF (TV mc m_tholes) j1) (c_9 : ¬ nI ms ≤ nI j1) (n_41 : j1 < ms) : j1 < 24 := by
  first | assumption | omega | decide | rfl
theorem lf_X12_oars_f_44 (h : Nat) (q : Nat → Nat) (im : Nat → Int32) (ms : Nat) (mc : Int32) (m_tholes : Nat → Int32) (n1 : Int32) (hf_ms : im 2 = nI ms) (hf_mc : im 49 = mc) (hms : ms ≤ 24) (hc0 : (0 : Int32) ≤ mc) (c_1 : ¬ nI ms = 0) (n_5 : ms ≠ 0) (c_8 : (0 : Int32) ≤ n1 ∧ n1 ≤ 3) (tn1 : Nat) (tn1a : 0 ≤ tn1) (tn1b : tn1 ≤ 3) (tn1e : n1 = nI tn1) (j1 : Nat) (w1 : Int32) (w2 : Int32) (k28 : Nat) (hj28 : j1 ≤ ms) (hk28 : ms < j1 + (k28 + 1)) (hw1 : w1 = leF (TV mc m_tholes) j1) (hw2 : w2 = moF (TV mc m_tholes) j1) (c_9 : ¬ nI ms ≤ nI j1) (n_41 : j1 < ms) : 0 < 2 := by
  first | assumption | omega | decide | rfl
theorem lf_X12_oars_f_45 (h : Nat) (q : Nat → Nat) (im : Nat → Int32) (ms : Nat) (mc : Int32) (m_tholes : Nat → Int32) (n1 : Int32) (hf_ms : im 2 = nI ms) (hf_mc : im 49 = mc) (hms : ms ≤ 24) (hc0 : (0 : Int32) ≤ mc) (c_1 : ¬ nI ms = 0) (n_5 : ms ≠ 0) (c_8 : (0 : Int32) ≤ n1 ∧ n1 ≤ 3) (tn1 : Nat) (tn1a : 0 ≤ tn1) (tn1b : tn1 ≤ 3) (tn1e : n1 = nI tn1) (j1 : Nat) (w1 : Int32) (w2 : Int32) (k28 : Nat) (hj28 : j1 ≤ ms) (hk28 : ms < j1 + (k28 + 1)) (hw1 : w1 = leF (TV mc m_tholes) j1) (hw2 : w2 = moF (TV mc m_tholes) j1) (c_9 : ¬ nI ms ≤ nI j1) (n_41 : j1 < ms) : (0 : Int32) ≤ mc := by
  first | assumption | omega | decide | rfl
theorem lf_X12_oars_f_49 (h : Nat) (q : Nat → Nat) (im : Nat → Int32) (ms : Nat) (mc : Int32) (m_tholes : Nat → Int32) (n1 : Int32) (hf_ms : im 2 = nI ms) (hf_mc : im 49 = mc) (hms : ms ≤ 24) (hc0 : (0 : Int32) ≤ mc) (c_1 : ¬ nI ms = 0) (n_5 : ms ≠ 0) (c_8 : (0 : Int32) ≤ n1 ∧ n1 ≤ 3) (tn1 : Nat) (tn1a : 0 ≤ tn1) (tn1b : tn1 ≤ 3) (tn1e : n1 = nI tn1) (j1 : Nat) (w1 : Int32) (w2 : Int32) (k28 : Nat) (hj28 : j1 ≤ ms) (hk28 : ms < j1 + (k28 + 1)) (hw1 : w1 = leF (TV mc m_tholes) j1) (hw2 : w2 = moF (TV mc m_tholes) j1) (c_9 : ¬ nI ms ≤ nI j1) (n_41 : j1 < ms) (c_47 : ¬ TV mc m_tholes j1 0 = 1) (x_48 : Int32) (ex_48 : x_48 = w1 + 0) : j1 < 24 := by
  first | assumption | omega | decide | rfl
theorem lf_X12_oars_f_50 (h : Nat) (q : Nat → Nat) (im : Nat → Int32) (ms : Nat) (mc : Int32) (m_tholes : Nat → Int32) (n1 : Int32) (hf_ms : im 2 = nI ms) (hf_mc : im 49 = mc) (hms : ms ≤ 24) (hc0 : (0 : Int32) ≤ mc) (c_1 : ¬ nI ms = 0) (n_5 : ms ≠ 0) (c_8 : (0 : Int32) ≤ n1 ∧ n1 ≤ 3) (tn1 : Nat) (tn1a : 0 ≤ tn1) (tn1b : tn1 ≤ 3) (tn1e : n1 = nI tn1) (j1 : Nat) (w1 : Int32) (w2 : Int32) (k28 : Nat) (hj28 : j1 ≤ ms) (hk28 : ms < j1 + (k28 + 1)) (hw1 : w1 = leF (TV mc m_tholes) j1) (hw2 : w2 = moF (TV mc m_tholes) j1) (c_9 : ¬ nI ms ≤ nI j1) (n_41 : j1 < ms) (c_47 : ¬ TV mc m_tholes j1 0 = 1) (x_48 : Int32) (ex_48 : x_48 = w1 + 0) : 0 < 2 := by
  first | assumption | omega | decide | rfl
theorem lf_X12_oars_f_51 (h : Nat) (q : Nat → Nat) (im : Nat → Int32) (ms : Nat) (mc : Int32) (m_tholes : Nat → Int32) (n1 : Int32) (hf_ms : im 2 = nI ms) (hf_mc : im 49 = mc) (hms : ms ≤ 24) (hc0 : (0 : Int32) ≤ mc) (c_1 : ¬ nI ms = 0) (n_5 : ms ≠ 0) (c_8 : (0 : Int32) ≤ n1 ∧ n1 ≤ 3) (tn1 : Nat) (tn1a : 0 ≤ tn1) (tn1b : tn1 ≤ 3) (tn1e : n1 = nI tn1) (j1 : Nat) (w1 : Int32) (w2 : Int32) (k28 : Nat) (hj28 : j1 ≤ ms) (hk28 : ms < j1 + (k28 + 1)) (hw1 : w1 = leF (TV mc m_tholes) j1) (hw2 : w2 = moF (TV mc m_tholes) j1) (c_9 : ¬ nI ms ≤ nI j1) (n_41 : j1 < ms) (c_47 : ¬ TV mc m_tholes j1 0 = 1) (x_48 : Int32) (ex_48 : x_48 = w1 + 0) : (0 : Int32) ≤ mc := by
  first | assumption | omega | decide | rfl
theorem lf_X12_oars_f_55 (h : Nat) (q : Nat → Nat) (im : Nat → Int32) (ms : Nat) (mc : Int32) (m_tholes : Nat → Int32) (n1 : Int32) (hf_ms : im 2 = nI ms) (hf_mc : im 49 = mc) (hms : ms ≤ 24) (hc0 : (0 : Int32) ≤ mc) (c_1 : ¬ nI ms = 0) (n_5 : ms ≠ 0) (c_8 : (0 : Int32) ≤ n1 ∧ n1 ≤ 3) (tn1 : Nat) (tn1a : 0 ≤ tn1) (tn1b : tn1 ≤ 3) (tn1e : n1 = nI tn1) (j1 : Nat) (w1 : Int32) (w2 : Int32) (k28 : Nat) (hj28 : j1 ≤ ms) (hk28 : ms < j1 + (k28 + 1)) (hw1 : w1 = leF (TV mc m_tholes) j1) (hw2 : w2 = moF (TV mc m_tholes) j1) (c_9 : ¬ nI ms ≤ nI j1) (n_41 : j1 < ms) (c_47 : ¬ TV mc m_tholes j1 0 = 1) (x_48 : Int32) (ex_48 : x_48 = w1 + 0) (c_53 : TV mc m_tholes j1 0 = 0) (x_54 : Int32) (ex_54 : x_54 = w2 + 0) : x_48 = leF (TV mc m_tholes) (j1 + 1) := by
  first | rfl | exact leF_y hw1 (by assumption) (by assumption) (by assumption) | exact leF_n hw1 (fun w => absurd w.1 (by assumption)) (by assumption) | exact leF_n hw1 (fun w => absurd w.2 (by assumption)) (by assumption) | exact moF_y hw2 (by assumption) (by assumption) (by assumption) | exact moF_n hw2 (fun w => w.1 (by assumption)) (by assumption) | exact moF_n hw2 (fun w => w.2 (by assumption)) (by assumption)
theorem lf_X12_oars_f_56 (h : Nat) (q : Nat → Nat) (im : Nat → Int32) (ms : Nat) (mc : Int32) (m_tholes : Nat → Int32) (n1 : Int32) (hf_ms : im 2 = nI ms) (hf_mc : im 49 = mc) (hms : ms ≤ 24) (hc0 : (0 : Int32) ≤ mc) (c_1 : ¬ nI ms = 0) (n_5 : ms ≠ 0) (c_8 : (0 : Int32) ≤ n1 ∧ n1 ≤ 3) (tn1 : Nat) (tn1a : 0 ≤ tn1) (tn1b : tn1 ≤ 3) (tn1e : n1 = nI tn1) (j1 : Nat) (w1 : Int32) (w2 : Int32) (k28 : Nat) (hj28 : j1 ≤ ms) (hk28 : ms < j1 + (k28 + 1)) (hw1 : w1 = leF (TV mc m_tholes) j1) (hw2 : w2 = moF (TV mc m_tholes) j1) (c_9 : ¬ nI ms ≤ nI j1) (n_41 : j1 < ms) (c_47 : ¬ TV mc m_tholes j1 0 = 1) (x_48 : Int32) (ex_48 : x_48 = w1 + 0) (c_53 : TV mc m_tholes j1 0 = 0) (x_54 : Int32) (ex_54 : x_54 = w2 + 0) : x_54 = moF (TV mc m_tholes) (j1 + 1) := by
  first | rfl | exact leF_y hw1 (by assumption) (by assumption) (by assumption) | exact leF_n hw1 (fun w => absurd w.1 (by assumption)) (by assumption) | exact leF_n hw1 (fun w => absurd w.2 (by assumption)) (by assumption) | exact moF_y hw2 (by assumption) (by assumption) (by assumption) | exact moF_n hw2 (fun w => w.1 (by assumption)) (by assumption) | exact moF_n hw2 (fun w => w.2 (by assumption)) (by assumption)
theorem lf_X12_oars_f_57 (h : Nat) (q : Nat → Nat) (im : Nat → Int32) (ms : Nat) (mc : Int32) (m_tholes : Nat → Int32) (n1 : Int32) (hf_ms : im 2 = nI ms) (hf_mc : im 49 = mc) (hms : ms ≤ 24) (hc0 : (0 : Int32) ≤ mc) (c_1 : ¬ nI ms = 0) (n_5 : ms ≠ 0) (c_8 : (0 : Int32) ≤ n1 ∧ n1 ≤ 3) (tn1 : Nat) (tn1a : 0 ≤ tn1) (tn1b : tn1 ≤ 3) (tn1e : n1 = nI tn1) (j1 : Nat) (w1 : Int32) (w2 : Int32) (k28 : Nat) (hj28 : j1 ≤ ms) (hk28 : ms < j1 + (k28 + 1)) (hw1 : w1 = leF (TV mc m_tholes) j1) (hw2 : w2 = moF (TV mc m_tholes) j1) (c_9 : ¬ nI ms ≤ nI j1) (n_41 : j1 < ms) (c_47 : ¬ TV mc m_tholes j1 0 = 1) (x_48 : Int32) (ex_48 : x_48 = w1 + 0) (c_53 : ¬ TV mc m_tholes j1 0 = 0) : j1 < 24 := by
  first | assumption | omega | decide | rfl
theorem lf_X12_oars_f_58 (h : Nat) (q : Nat → Nat) (im : Nat → Int32) (ms : Nat) (mc : Int32) (m_tholes : Nat → Int32) (n1 : Int32) (hf_ms : im 2 = nI ms) (hf_mc : im 49 = mc) (hms : ms ≤ 24) (hc0 : (0 : Int32) ≤ mc) (c_1 : ¬ nI ms = 0) (n_5 : ms ≠ 0) (c_8 : (0 : Int32) ≤ n1 ∧ n1 ≤ 3) (tn1 : Nat) (tn1a : 0 ≤ tn1) (tn1b : tn1 ≤ 3) (tn1e : n1 = nI tn1) (j1 : Nat) (w1 : Int32) (w2 : Int32) (k28 : Nat) (hj28 : j1 ≤ ms) (hk28 : ms < j1 + (k28 + 1)) (hw1 : w1 = leF (TV mc m_tholes) j1) (hw2 : w2 = moF (TV mc m_tholes) j1) (c_9 : ¬ nI ms ≤ nI j1) (n_41 : j1 < ms) (c_47 : ¬ TV mc m_tholes j1 0 = 1) (x_48 : Int32) (ex_48 : x_48 = w1 + 0) (c_53 : ¬ TV mc m_tholes j1 0 = 0) : 1 < 2 := by
  first | assumption | omega | decide | rfl
theorem lf_X12_oars_f_59 (h : Nat) (q : Nat → Nat) (im : Nat → Int32) (ms : Nat) (mc : Int32) (m_tholes : Nat → Int32) (n1 : Int32) (hf_ms : im 2 = nI ms) (hf_mc : im 49 = mc) (hms : ms ≤ 24) (hc0 : (0 : Int32) ≤ mc) (c_1 : ¬ nI ms = 0) (n_5 : ms ≠ 0) (c_8 : (0 : Int32) ≤ n1 ∧ n1 ≤ 3) (tn1 : Nat) (tn1a : 0 ≤ tn1) (tn1b : tn1 ≤ 3) (tn1e : n1 = nI tn1) (j1 : Nat) (w1 : Int32) (w2 : Int32) (k28 : Nat) (hj28 : j1 ≤ ms) (hk28 : ms < j1 + (k28 + 1)) (hw1 : w1 = leF (TV mc m_tholes) j1) (hw2 : w2 = moF (TV mc m_tholes) j1) (c_9 : ¬ nI ms ≤ nI j1) (n_41 : j1 < ms) (c_47 : ¬ TV mc m_tholes j1 0 = 1) (x_48 : Int32) (ex_48 : x_48 = w1 + 0) (c_53 : ¬ TV mc m_tholes j1 0 = 0) : (0 : Int32) ≤ mc := by
  first | assumption | omega | decide | rfl
theorem lf_X12_oars_f_63 (h : Nat) (q : Nat → Nat) (im : Nat → Int32) (ms : Nat) (mc : Int32) (m_tholes : Nat → Int32) (n1 : Int32) (hf_ms : im 2 = nI ms) (hf_mc : im 49 = mc) (hms : ms ≤ 24) (hc0 : (0 : Int32) ≤ mc) (c_1 : ¬ nI ms = 0) (n_5 : ms ≠ 0) (c_8 : (0 : Int32) ≤ n1 ∧ n1 ≤ 3) (tn1 : Nat) (tn1a : 0 ≤ tn1) (tn1b : tn1 ≤ 3) (tn1e : n1 = nI tn1) (j1 : Nat) (w1 : Int32) (w2 : Int32) (k28 : Nat) (hj28 : j1 ≤ ms) (hk28 : ms < j1 + (k28 + 1)) (hw1 : w1 = leF (TV mc m_tholes) j1) (hw2 : w2 = moF (TV mc m_tholes) j1) (c_9 : ¬ nI ms ≤ nI j1) (n_41 : j1 < ms) (c_47 : ¬ TV mc m_tholes j1 0 = 1) (x_48 : Int32) (ex_48 : x_48 = w1 + 0) (c_53 : ¬ TV mc m_tholes j1 0 = 0) (c_61 : TV mc m_tholes j1 1 = 0) (x_62 : Int32) (ex_62 : x_62 = w2 + 0) : x_48 = leF (TV mc m_tholes) (j1 + 1) := by
  first | rfl | exact leF_y hw1 (by assumption) (by assumption) (by assumption) | exact leF_n hw1 (fun w => absurd w.1 (by assumption)) (by assumption) | exact leF_n hw1 (fun w => absurd w.2 (by assumption)) (by assumption) | exact moF_y hw2 (by assumption) (by assumption) (by assumption) | exact moF_n hw2 (fun w => w.1 (by assumption)) (by assumption) | exact moF_n hw2 (fun w => w.2 (by assumption)) (by assumption)
theorem lf_X12_oars_f_64 (h : Nat) (q : Nat → Nat) (im : Nat → Int32) (ms : Nat) (mc : Int32) (m_tholes : Nat → Int32) (n1 : Int32) (hf_ms : im 2 = nI ms) (hf_mc : im 49 = mc) (hms : ms ≤ 24) (hc0 : (0 : Int32) ≤ mc) (c_1 : ¬ nI ms = 0) (n_5 : ms ≠ 0) (c_8 : (0 : Int32) ≤ n1 ∧ n1 ≤ 3) (tn1 : Nat) (tn1a : 0 ≤ tn1) (tn1b : tn1 ≤ 3) (tn1e : n1 = nI tn1) (j1 : Nat) (w1 : Int32) (w2 : Int32) (k28 : Nat) (hj28 : j1 ≤ ms) (hk28 : ms < j1 + (k28 + 1)) (hw1 : w1 = leF (TV mc m_tholes) j1) (hw2 : w2 = moF (TV mc m_tholes) j1) (c_9 : ¬ nI ms ≤ nI j1) (n_41 : j1 < ms) (c_47 : ¬ TV mc m_tholes j1 0 = 1) (x_48 : Int32) (ex_48 : x_48 = w1 + 0) (c_53 : ¬ TV mc m_tholes j1 0 = 0) (c_61 : TV mc m_tholes j1 1 = 0) (x_62 : Int32) (ex_62 : x_62 = w2 + 0) : x_62 = moF (TV mc m_tholes) (j1 + 1) := by
  first | rfl | exact leF_y hw1 (by assumption) (by assumption) (by assumption) | exact leF_n hw1 (fun w => absurd w.1 (by assumption)) (by assumption) | exact leF_n hw1 (fun w => absurd w.2 (by assumption)) (by assumption) | exact moF_y hw2 (by assumption) (by assumption) (by assumption) | exact moF_n hw2 (fun w => w.1 (by assumption)) (by assumption) | exact moF_n hw2 (fun w => w.2 (by assumption)) (by assumption)
theorem lf_X12_oars_f_66 (h : Nat) (q : Nat → Nat) (im : Nat → Int32) (ms : Nat) (mc : Int32) (m_tholes : Nat → Int32) (n1 : Int32) (hf_ms : im 2 = nI ms) (hf_mc : im 49 = mc) (hms : ms ≤ 24) (hc0 : (0 : Int32) ≤ mc) (c_1 : ¬ nI ms = 0) (n_5 : ms ≠ 0) (c_8 : (0 : Int32) ≤ n1 ∧ n1 ≤ 3) (tn1 : Nat) (tn1a : 0 ≤ tn1) (tn1b : tn1 ≤ 3) (tn1e : n1 = nI tn1) (j1 : Nat) (w1 : Int32) (w2 : Int32) (k28 : Nat) (hj28 : j1 ≤ ms) (hk28 : ms < j1 + (k28 + 1)) (hw1 : w1 = leF (TV mc m_tholes) j1) (hw2 : w2 = moF (TV mc m_tholes) j1) (c_9 : ¬ nI ms ≤ nI j1) (n_41 : j1 < ms) (c_47 : ¬ TV mc m_tholes j1 0 = 1) (x_48 : Int32) (ex_48 : x_48 = w1 + 0) (c_53 : ¬ TV mc m_tholes j1 0 = 0) (c_61 : ¬ TV mc m_tholes j1 1 = 0) (x_65 : Int32) (ex_65 : x_65 = w2 + 1) : x_48 = leF (TV mc m_tholes) (j1 + 1) := by
  first | rfl | exact leF_y hw1 (by assumption) (by assumption) (by assumption) | exact leF_n hw1 (fun w => absurd w.1 (by assumption)) (by assumption) | exact leF_n hw1 (fun w => absurd w.2 (by assumption)) (by assumption) | exact moF_y hw2 (by assumption) (by assumption) (by assumption) | exact moF_n hw2 (fun w => w.1 (by assumption)) (by assumption) | exact moF_n hw2 (fun w => w.2 (by assumption)) (by assumption)
theorem lf_X12_oars_f_67 (h : Nat) (q : Nat → Nat) (im : Nat → Int32) (ms : Nat) (mc : Int32) (m_tholes : Nat → Int32) (n1 : Int32) (hf_ms : im 2 = nI ms) (hf_mc : im 49 = mc) (hms : ms ≤ 24) (hc0 : (0 : Int32) ≤ mc) (c_1 : ¬ nI ms = 0) (n_5 : ms ≠ 0) (c_8 : (0 : Int32) ≤ n1 ∧ n1 ≤ 3) (tn1 : Nat) (tn1a : 0 ≤ tn1) (tn1b : tn1 ≤ 3) (tn1e : n1 = nI tn1) (j1 : Nat) (w1 : Int32) (w2 : Int32) (k28 : Nat) (hj28 : j1 ≤ ms) (hk28 : ms < j1 + (k28 + 1)) (hw1 : w1 = leF (TV mc m_tholes) j1) (hw2 : w2 = moF (TV mc m_tholes) j1) (c_9 : ¬ nI ms ≤ nI j1) (n_41 : j1 < ms) (c_47 : ¬ TV mc m_tholes j1 0 = 1) (x_48 : Int32) (ex_48 : x_48 = w1 + 0) (c_53 : ¬ TV mc m_tholes j1 0 = 0) (c_61 : ¬ TV mc m_tholes j1 1 = 0) (x_65 : Int32) (ex_65 : x_65 = w2 + 1) : x_65 = moF (TV mc m_tholes) (j1 + 1) := by
  first | rfl | exact leF_y hw1 (by assumption) (by assumption) (by assumption) | exact leF_n hw1 (fun w => absurd w.1 (by assumption)) (by assumption) | exact leF_n hw1 (fun w => absurd w.2 (by assumption)) (by assumption) | exact moF_y hw2 (by assumption) (by assumption) (by assumption) | exact moF_n hw2 (fun w => w.1 (by assumption)) (by assumption) | exact moF_n hw2 (fun w => w.2 (by assumption)) (by assumption)
theorem lf_X12_oars_f_68 (h : Nat) (q : Nat → Nat) (im : Nat → Int32) (ms : Nat) (mc : Int32) (m_tholes : Nat → Int32) (n1 : Int32) (hf_ms : im 2 = nI ms) (hf_mc : im 49 = mc) (hms : ms ≤ 24) (hc0 : (0 : Int32) ≤ mc) (c_1 : ¬ nI ms = 0) (n_5 : ms ≠ 0) (c_8 : (0 : Int32) ≤ n1 ∧ n1 ≤ 3) (tn1 : Nat) (tn1a : 0 ≤ tn1) (tn1b : tn1 ≤ 3) (tn1e : n1 = nI tn1) (j1 : Nat) (w1 : Int32) (w2 : Int32) (k28 : Nat) (hj28 : j1 ≤ ms) (hk28 : ms < j1 + (k28 + 1)) (hw1 : w1 = leF (TV mc m_tholes) j1) (hw2 : w2 = moF (TV mc m_tholes) j1) (c_9 : ¬ nI ms ≤ nI j1) (n_41 : j1 < ms) (c_47 : TV mc m_tholes j1 0 = 1) : j1 < 24 := by
  first | assumption | omega | decide | rfl
theorem lf_X12_oars_f_69 (h : Nat) (q : Nat → Nat) (im : Nat → Int32) (ms : Nat) (mc : Int32) (m_tholes : Nat → Int32) (n1 : Int32) (hf_ms : im 2 = nI ms) (hf_mc : im 49 = mc) (hms : ms ≤ 24) (hc0 : (0 : Int32) ≤ mc) (c_1 : ¬ nI ms = 0) (n_5 : ms ≠ 0) (c_8 : (0 : Int32) ≤ n1 ∧ n1 ≤ 3) (tn1 : Nat) (tn1a : 0 ≤ tn1) (tn1b : tn1 ≤ 3) (tn1e : n1 = nI tn1) (j1 : Nat) (w1 : Int32) (w2 : Int32) (k28 : Nat) (hj28 : j1 ≤ ms) (hk28 : ms < j1 + (k28 + 1)) (hw1 : w1 = leF (TV mc m_tholes) j1) (hw2 : w2 = moF (TV mc m_tholes) j1) (c_9 : ¬ nI ms ≤ nI j1) (n_41 : j1 < ms) (c_47 : TV mc m_tholes j1 0 = 1) : 1 < 2 := by
  first | assumption | omega | decide | rfl
theorem lf_X12_oars_f_70 (h : Nat) (q : Nat → Nat) (im : Nat → Int32) (ms : Nat) (mc : Int32) (m_tholes : Nat → Int32) (n1 : Int32) (hf_ms : im 2 = nI ms) (hf_mc : im 49 = mc) (hms : ms ≤ 24) (hc0 : (0 : Int32) ≤ mc) (c_1 : ¬ nI ms = 0) (n_5 : ms ≠ 0) (c_8 : (0 : Int32) ≤ n1 ∧ n1 ≤ 3) (tn1 : Nat) (tn1a : 0 ≤ tn1) (tn1b : tn1 ≤ 3) (tn1e : n1 = nI tn1) (j1 : Nat) (w1 : Int32) (w2 : Int32) (k28 : Nat) (hj28 : j1 ≤ ms) (hk28 : ms < j1 + (k28 + 1)) (hw1 : w1 = leF (TV mc m_tholes) j1) (hw2 : w2 = moF (TV mc m_tholes) j1) (c_9 : ¬ nI ms ≤ nI j1) (n_41 : j1 < ms) (c_47 : TV mc m_tholes j1 0 = 1) : (0 : Int32) ≤ mc := by
  first | assumption | omega | decide | rfl
theorem lf_X12_oars_f_74 (h : Nat) (q : Nat → Nat) (im : Nat → Int32) (ms : Nat) (mc : Int32) (m_tholes : Nat → Int32) (n1 : Int32) (hf_ms : im 2 = nI ms) (hf_mc : im 49 = mc) (hms : ms ≤ 24) (hc0 : (0 : Int32) ≤ mc) (c_1 : ¬ nI ms = 0) (n_5 : ms ≠ 0) (c_8 : (0 : Int32) ≤ n1 ∧ n1 ≤ 3) (tn1 : Nat) (tn1a : 0 ≤ tn1) (tn1b : tn1 ≤ 3) (tn1e : n1 = nI tn1) (j1 : Nat) (w1 : Int32) (w2 : Int32) (k28 : Nat) (hj28 : j1 ≤ ms) (hk28 : ms < j1 + (k28 + 1)) (hw1 : w1 = leF (TV mc m_tholes) j1) (hw2 : w2 = moF (TV mc m_tholes) j1) (c_9 : ¬ nI ms ≤ nI j1) (n_41 : j1 < ms) (c_47 : TV mc m_tholes j1 0 = 1) (c_72 : ¬ TV mc m_tholes j1 1 = 1) (x_73 : Int32) (ex_73 : x_73 = w1 + 0) : j1 < 24 := by
  first | assumption | omega | decide | rfl
theorem lf_X12_oars_f_75 (h : Nat) (q : Nat → Nat) (im : Nat → Int32) (ms : Nat) (mc : Int32) (m_tholes : Nat → Int32) (n1 : Int32) (hf_ms : im 2 = nI ms) (hf_mc : im 49 = mc) (hms : ms ≤ 24) (hc0 : (0 : Int32) ≤ mc) (c_1 : ¬ nI ms = 0) (n_5 : ms ≠ 0) (c_8 : (0 : Int32) ≤ n1 ∧ n1 ≤ 3) (tn1 : Nat) (tn1a : 0 ≤ tn1) (tn1b : tn1 ≤ 3) (tn1e : n1 = nI tn1) (j1 : Nat) (w1 : Int32) (w2 : Int32) (k28 : Nat) (hj28 : j1 ≤ ms) (hk28 : ms < j1 + (k28 + 1)) (hw1 : w1 = leF (TV mc m_tholes) j1) (hw2 : w2 = moF (TV mc m_tholes) j1) (c_9 : ¬ nI ms ≤ nI j1) (n_41 : j1 < ms) (c_47 : TV mc m_tholes j1 0 = 1) (c_72 : ¬ TV mc m_tholes j1 1 = 1) (x_73 : Int32) (ex_73 : x_73 = w1 + 0) : 0 < 2 := by
  first | assumption | omega | decide | rfl
theorem lf_X12_oars_f_76 (h : Nat) (q : Nat → Nat) (im : Nat → Int32) (ms : Nat) (mc : Int32) (m_tholes : Nat → Int32) (n1 : Int32) (hf_ms : im 2 = nI ms) (hf_mc : im 49 = mc) (hms : ms ≤ 24) (hc0 : (0 : Int32) ≤ mc) (c_1 : ¬ nI ms = 0) (n_5 : ms ≠ 0) (c_8 : (0 : Int32) ≤ n1 ∧ n1 ≤ 3) (tn1 : Nat) (tn1a : 0 ≤ tn1) (tn1b : tn1 ≤ 3) (tn1e : n1 = nI tn1) (j1 : Nat) (w1 : Int32) (w2 : Int32) (k28 : Nat) (hj28 : j1 ≤ ms) (hk28 : ms < j1 + (k28 + 1)) (hw1 : w1 = leF (TV mc m_tholes) j1) (hw2 : w2 = moF (TV mc m_tholes) j1) (c_9 : ¬ nI ms ≤ nI j1) (n_41 : j1 < ms) (c_47 : TV mc m_tholes j1 0 = 1) (c_72 : ¬ TV mc m_tholes j1 1 = 1) (x_73 : Int32) (ex_73 : x_73 = w1 + 0) : (0 : Int32) ≤ mc := by
  first | assumption | omega | decide | rfl
theorem lf_X12_oars_f_80 (h : Nat) (q : Nat → Nat) (im : Nat → Int32) (ms : Nat) (mc : Int32) (m_tholes : Nat → Int32) (n1 : Int32) (hf_ms : im 2 = nI ms) (hf_mc : im 49 = mc) (hms : ms ≤ 24) (hc0 : (0 : Int32) ≤ mc) (c_1 : ¬ nI ms = 0) (n_5 : ms ≠ 0) (c_8 : (0 : Int32) ≤ n1 ∧ n1 ≤ 3) (tn1 : Nat) (tn1a : 0 ≤ tn1) (tn1b : tn1 ≤ 3) (tn1e : n1 = nI tn1) (j1 : Nat) (w1 : Int32) (w2 : Int32) (k28 : Nat) (hj28 : j1 ≤ ms) (hk28 : ms < j1 + (k28 + 1)) (hw1 : w1 = leF (TV mc m_tholes) j1) (hw2 : w2 = moF (TV mc m_tholes) j1) (c_9 : ¬ nI ms ≤ nI j1) (n_41 : j1 < ms) (c_47 : TV mc m_tholes j1 0 = 1) (c_72 : ¬ TV mc m_tholes j1 1 = 1) (x_73 : Int32) (ex_73 : x_73 = w1 + 0) (c_78 : TV mc m_tholes j1 0 = 0) (x_79 : Int32) (ex_79 : x_79 = w2 + 0) : x_73 = leF (TV mc m_tholes) (j1 + 1) := by
  first | rfl | exact leF_y hw1 (by assumption) (by assumption) (by assumption) | exact leF_n hw1 (fun w => absurd w.1 (by assumption)) (by assumption) | exact leF_n hw1 (fun w => absurd w.2 (by assumption)) (by assumption) | exact moF_y hw2 (by assumption) (by assumption) (by assumption) | exact moF_n hw2 (fun w => w.1 (by assumption)) (by assumption) | exact moF_n hw2 (fun w => w.2 (by assumption)) (by assumption)
theorem lf_X12_oars_f_81 (h : Nat) (q : Nat → Nat) (im : Nat → Int32) (ms : Nat) (mc : Int32) (m_tholes : Nat → Int32) (n1 : Int32) (hf_ms : im 2 = nI ms) (hf_mc : im 49 = mc) (hms : ms ≤ 24) (hc0 : (0 : Int32) ≤ mc) (c_1 : ¬ nI ms = 0) (n_5 : ms ≠ 0) (c_8 : (0 : Int32) ≤ n1 ∧ n1 ≤ 3) (tn1 : Nat) (tn1a : 0 ≤ tn1) (tn1b : tn1 ≤ 3) (tn1e : n1 = nI tn1) (j1 : Nat) (w1 : Int32) (w2 : Int32) (k28 : Nat) (hj28 : j1 ≤ ms) (hk28 : ms < j1 + (k28 + 1)) (hw1 : w1 = leF (TV mc m_tholes) j1) (hw2 : w2 = moF (TV mc m_tholes) j1) (c_9 : ¬ nI ms ≤ nI j1) (n_41 : j1 < ms) (c_47 : TV mc m_tholes j1 0 = 1) (c_72 : ¬ TV mc m_tholes j1 1 = 1) (x_73 : Int32) (ex_73 : x_73 = w1 + 0) (c_78 : TV mc m_tholes j1 0 = 0) (x_79 : Int32) (ex_79 : x_79 = w2 + 0) : x_79 = moF (TV mc m_tholes) (j1 + 1) := by
  first | rfl | exact leF_y hw1 (by assumption) (by assumption) (by assumption) | exact leF_n hw1 (fun w => absurd w.1 (by assumption)) (by assumption) | exact leF_n hw1 (fun w => absurd w.2 (by assumption)) (by assumption) | exact moF_y hw2 (by assumption) (by assumption) (by assumption) | exact moF_n hw2 (fun w => w.1 (by assumption)) (by assumption) | exact moF_n hw2 (fun w => w.2 (by assumption)) (by assumption)
theorem lf_X12_oars_f_82 (h : Nat) (q : Nat → Nat) (im : Nat → Int32) (ms : Nat) (mc : Int32) (m_tholes : Nat → Int32) (n1 : Int32) (hf_ms : im 2 = nI ms) (hf_mc : im 49 = mc) (hms : ms ≤ 24) (hc0 : (0 : Int32) ≤ mc) (c_1 : ¬ nI ms = 0) (n_5 : ms ≠ 0) (c_8 : (0 : Int32) ≤ n1 ∧ n1 ≤ 3) (tn1 : Nat) (tn1a : 0 ≤ tn1) (tn1b : tn1 ≤ 3) (tn1e : n1 = nI tn1) (j1 : Nat) (w1 : Int32) (w2 : Int32) (k28 : Nat) (hj28 : j1 ≤ ms) (hk28 : ms < j1 + (k28 + 1)) (hw1 : w1 = leF (TV mc m_tholes) j1) (hw2 : w2 = moF (TV mc m_tholes) j1) (c_9 : ¬ nI ms ≤ nI j1) (n_41 : j1 < ms) (c_47 : TV mc m_tholes j1 0 = 1) (c_72 : ¬ TV mc m_tholes j1 1 = 1) (x_73 : Int32) (ex_73 : x_73 = w1 + 0) (c_78 : ¬ TV mc m_tholes j1 0 = 0) : j1 < 24 := by
  first | assumption | omega | decide | rfl
theorem lf_X12_oars_f_83 (h : Nat) (q : Nat → Nat) (im : Nat → Int32) (ms : Nat) (mc : Int32) (m_tholes : Nat → Int32) (n1 : Int32) (hf_ms : im 2 = nI ms) (hf_mc : im 49 = mc) (hms : ms ≤ 24) (hc0 : (0 : Int32) ≤ mc) (c_1 : ¬ nI ms = 0) (n_5 : ms ≠ 0) (c_8 : (0 : Int32) ≤ n1 ∧ n1 ≤ 3) (tn1 : Nat) (tn1a : 0 ≤ tn1) (tn1b : tn1 ≤ 3) (tn1e : n1 = nI tn1) (j1 : Nat) (w1 : Int32) (w2 : Int32) (k28 : Nat) (hj28 : j1 ≤ ms) (hk28 : ms < j1 + (k28 + 1)) (hw1 : w1 = leF (TV mc m_tholes) j1) (hw2 : w2 = moF (TV mc m_tholes) j1) (c_9 : ¬ nI ms ≤ nI j1) (n_41 : j1 < ms) (c_47 : TV mc m_tholes j1 0 = 1) (c_72 : ¬ TV mc m_tholes j1 1 = 1) (x_73 : Int32) (ex_73 : x_73 = w1 + 0) (c_78 : ¬ TV mc m_tholes j1 0 = 0) : 1 < 2 := by
  first | assumption | omega | decide | rfl
theorem lf_X12_oars_f_84 (h : Nat) (q : Nat → Nat) (im : Nat → Int32) (ms : Nat) (mc : Int32) (m_tholes : Nat → Int32) (n1 : Int32) (hf_ms : im 2 = nI ms) (hf_mc : im 49 = mc) (hms : ms ≤ 24) (hc0 : (0 : Int32) ≤ mc) (c_1 : ¬ nI ms = 0) (n_5 : ms ≠ 0) (c_8 : (0 : Int32) ≤ n1 ∧ n1 ≤ 3) (tn1 : Nat) (tn1a : 0 ≤ tn1) (tn1b : tn1 ≤ 3) (tn1e : n1 = nI tn1) (j1 : Nat) (w1 : Int32) (w2 : Int32) (k28 : Nat) (hj28 : j1 ≤ ms) (hk28 : ms < j1 + (k28 + 1)) (hw1 : w1 = leF (TV mc m_tholes) j1) (hw2 : w2 = moF (TV mc m_tholes) j1) (c_9 : ¬ nI ms ≤ nI j1) (n_41 : j1 < ms) (c_47 : TV mc m_tholes j1 0 = 1) (c_72 : ¬ TV mc m_tholes j1 1 = 1) (x_73 : Int32) (ex_73 : x_73 = w1 + 0) (c_78 : ¬ TV mc m_tholes j1 0 = 0) : (0 : Int32) ≤ mc := by
  first | assumption | omega | decide | rfl
theorem lf_X12_oars_f_88 (h : Nat) (q : Nat → Nat) (im : Nat → Int32) (ms : Nat) (mc : Int32) (m_tholes : Nat → Int32) (n1 : Int32) (hf_ms : im 2 = nI ms) (hf_mc : im 49 = mc) (hms : ms ≤ 24) (hc0 : (0 : Int32) ≤ mc) (c_1 : ¬ nI ms = 0) (n_5 : ms ≠ 0) (c_8 : (0 : Int32) ≤ n1 ∧ n1 ≤ 3) (tn1 : Nat) (tn1a : 0 ≤ tn1) (tn1b : tn1 ≤ 3) (tn1e : n1 = nI tn1) (j1 : Nat) (w1 : Int32) (w2 : Int32) (k28 : Nat) (hj28 : j1 ≤ ms) (hk28 : ms < j1 + (k28 + 1)) (hw1 : w1 = leF (TV mc m_tholes) j1) (hw2 : w2 = moF (TV mc m_tholes) j1) (c_9 : ¬ nI ms ≤ nI j1) (n_41 : j1 < ms) (c_47 : TV mc m_tholes j1 0 = 1) (c_72 : ¬ TV mc m_tholes j1 1 = 1) (x_73 : Int32) (ex_73 : x_73 = w1 + 0) (c_78 : ¬ TV mc m_tholes j1 0 = 0) (c_86 : TV mc m_tholes j1 1 = 0) (x_87 : Int32) (ex_87 : x_87 = w2 + 0) : x_73 = leF (TV mc m_tholes) (j1 + 1) := by
  first | rfl | exact leF_y hw1 (by assumption) (by assumption) (by assumption) | exact leF_n hw1 (fun w => absurd w.1 (by assumption)) (by assumption) | exact leF_n hw1 (fun w => absurd w.2 (by assumption)) (by assumption) | exact moF_y hw2 (by assumption) (by assumption) (by assumption) | exact moF_n hw2 (fun w => w.1 (by assumption)) (by assumption) | exact moF_n hw2 (fun w => w.2 (by assumption)) (by assumption)
theorem lf_X12_oars_f_89 (h : Nat) (q : Nat → Nat) (im : Nat → Int32) (ms : Nat) (mc : Int32) (m_tholes : Nat → Int32) (n1 : Int32) (hf_ms : im 2 = nI ms) (hf_mc : im 49 = mc) (hms : ms ≤ 24) (hc0 : (0 : Int32) ≤ mc) (c_1 : ¬ nI ms = 0) (n_5 : ms ≠ 0) (c_8 : (0 : Int32) ≤ n1 ∧ n1 ≤ 3) (tn1 : Nat) (tn1a : 0 ≤ tn1) (tn1b : tn1 ≤ 3) (tn1e : n1 = nI tn1) (j1 : Nat) (w1 : Int32) (w2 : Int32) (k28 : Nat) (hj28 : j1 ≤ ms) (hk28 : ms < j1 + (k28 + 1)) (hw1 : w1 = leF (TV mc m_tholes) j1) (hw2 : w2 = moF (TV mc m_tholes) j1) (c_9 : ¬ nI ms ≤ nI j1) (n_41 : j1 < ms) (c_47 : TV mc m_tholes j1 0 = 1) (c_72 : ¬ TV mc m_tholes j1 1 = 1) (x_73 : Int32) (ex_73 : x_73 = w1 + 0) (c_78 : ¬ TV mc m_tholes j1 0 = 0) (c_86 : TV mc m_tholes j1 1 = 0) (x_87 : Int32) (ex_87 : x_87 = w2 + 0) : x_87 = moF (TV mc m_tholes) (j1 + 1) := by
  first | rfl | exact leF_y hw1 (by assumption) (by assumption) (by assumption) | exact leF_n hw1 (fun w => absurd w.1 (by assumption)) (by assumption) | exact leF_n hw1 (fun w => absurd w.2 (by assumption)) (by assumption) | exact moF_y hw2 (by assumption) (by assumption) (by assumption) | exact moF_n hw2 (fun w => w.1 (by assumption)) (by assumption) | exact moF_n hw2 (fun w => w.2 (by assumption)) (by assumption)
theorem lf_X12_oars_f_91 (h : Nat) (q : Nat → Nat) (im : Nat → Int32) (ms : Nat) (mc : Int32) (m_tholes : Nat → Int32) (n1 : Int32) (hf_ms : im 2 = nI ms) (hf_mc : im 49 = mc) (hms : ms ≤ 24) (hc0 : (0 : Int32) ≤ mc) (c_1 : ¬ nI ms = 0) (n_5 : ms ≠ 0) (c_8 : (0 : Int32) ≤ n1 ∧ n1 ≤ 3) (tn1 : Nat) (tn1a : 0 ≤ tn1) (tn1b : tn1 ≤ 3) (tn1e : n1 = nI tn1) (j1 : Nat) (w1 : Int32) (w2 : Int32) (k28 : Nat) (hj28 : j1 ≤ ms) (hk28 : ms < j1 + (k28 + 1)) (hw1 : w1 = leF (TV mc m_tholes) j1) (hw2 : w2 = moF (TV mc m_tholes) j1) (c_9 : ¬ nI ms ≤ nI j1) (n_41 : j1 < ms) (c_47 : TV mc m_tholes j1 0 = 1) (c_72 : ¬ TV mc m_tholes j1 1 = 1) (x_73 : Int32) (ex_73 : x_73 = w1 + 0) (c_78 : ¬ TV mc m_tholes j1 0 = 0) (c_86 : ¬ TV mc m_tholes j1 1 = 0) (x_90 : Int32) (ex_90 : x_90 = w2 + 1) : x_73 = leF (TV mc m_tholes) (j1 + 1) := by
  first | rfl | exact leF_y hw1 (by assumption) (by assumption) (by assumption) | exact leF_n hw1 (fun w => absurd w.1 (by assumption)) (by assumption) | exact leF_n hw1 (fun w => absurd w.2 (by assumption)) (by assumption) | exact moF_y hw2 (by assumption) (by assumption) (by assumption) | exact moF_n hw2 (fun w => w.1 (by assumption)) (by assumption) | exact moF_n hw2 (fun w => w.2 (by assumption)) (by assumption)
theorem lf_X12_oars_f_92 (h : Nat) (q : Nat → Nat) (im : Nat → Int32) (ms : Nat) (mc : Int32) (m_tholes : Nat → Int32) (n1 : Int32) (hf_ms : im 2 = nI ms) (hf_mc : im 49 = mc) (hms : ms ≤ 24) (hc0 : (0 : Int32) ≤ mc) (c_1 : ¬ nI ms = 0) (n_5 : ms ≠ 0) (c_8 : (0 : Int32) ≤ n1 ∧ n1 ≤ 3) (tn1 : Nat) (tn1a : 0 ≤ tn1) (tn1b : tn1 ≤ 3) (tn1e : n1 = nI tn1) (j1 : Nat) (w1 : Int32) (w2 : Int32) (k28 : Nat) (hj28 : j1 ≤ ms) (hk28 : ms < j1 + (k28 + 1)) (hw1 : w1 = leF (TV mc m_tholes) j1) (hw2 : w2 = moF (TV mc m_tholes) j1) (c_9 : ¬ nI ms ≤ nI j1) (n_41 : j1 < ms) (c_47 : TV mc m_tholes j1 0 = 1) (c_72 : ¬ TV mc m_tholes j1 1 = 1) (x_73 : Int32) (ex_73 : x_73 = w1 + 0) (c_78 : ¬ TV mc m_tholes j1 0 = 0) (c_86 : ¬ TV mc m_tholes j1 1 = 0) (x_90 : Int32) (ex_90 : x_90 = w2 + 1) : x_90 = moF (TV mc m_tholes) (j1 + 1) := by
  first | rfl | exact leF_y hw1 (by assumption) (by assumption) (by assumption) | exact leF_n hw1 (fun w => absurd w.1 (by assumption)) (by assumption) | exact leF_n hw1 (fun w => absurd w.2 (by assumption)) (by assumption) | exact moF_y hw2 (by assumption) (by assumption) (by assumption) | exact moF_n hw2 (fun w => w.1 (by assumption)) (by assumption) | exact moF_n hw2 (fun w => w.2 (by assumption)) (by assumption)
theorem lf_X12_oars_f_94 (h : Nat) (q : Nat → Nat) (im : Nat → Int32) (ms : Nat) (mc : Int32) (m_tholes : Nat → Int32) (n1 : Int32) (hf_ms : im 2 = nI ms) (hf_mc : im 49 = mc) (hms : ms ≤ 24) (hc0 : (0 : Int32) ≤ mc) (c_1 : ¬ nI ms = 0) (n_5 : ms ≠ 0) (c_8 : (0 : Int32) ≤ n1 ∧ n1 ≤ 3) (tn1 : Nat) (tn1a : 0 ≤ tn1) (tn1b : tn1 ≤ 3) (tn1e : n1 = nI tn1) (j1 : Nat) (w1 : Int32) (w2 : Int32) (k28 : Nat) (hj28 : j1 ≤ ms) (hk28 : ms < j1 + (k28 + 1)) (hw1 : w1 = leF (TV mc m_tholes) j1) (hw2 : w2 = moF (TV mc m_tholes) j1) (c_9 : ¬ nI ms ≤ nI j1) (n_41 : j1 < ms) (c_47 : TV mc m_tholes j1 0 = 1) (c_72 : TV mc m_tholes j1 1 = 1) (x_93 : Int32) (ex_93 : x_93 = w1 + 1) : j1 < 24 := by
  first | assumption | omega | decide | rfl
theorem lf_X12_oars_f_95 (h : Nat) (q : Nat → Nat) (im : Nat → Int32) (ms : Nat) (mc : Int32) (m_tholes : Nat → Int32) (n1 : Int32) (hf_ms : im 2 = nI ms) (hf_mc : im 49 = mc) (hms : ms ≤ 24) (hc0 : (0 : Int32) ≤ mc) (c_1 : ¬ nI ms = 0) (n_5 : ms ≠ 0) (c_8 : (0 : Int32) ≤ n1 ∧ n1 ≤ 3) (tn1 : Nat) (tn1a : 0 ≤ tn1) (tn1b : tn1 ≤ 3) (tn1e : n1 = nI tn1) (j1 : Nat) (w1 : Int32) (w2 : Int32) (k28 : Nat) (hj28 : j1 ≤ ms) (hk28 : ms < j1 + (k28 + 1)) (hw1 : w1 = leF (TV mc m_tholes) j1) (hw2 : w2 = moF (TV mc m_tholes) j1) (c_9 : ¬ nI ms ≤ nI j1) (n_41 : j1 < ms) (c_47 : TV mc m_tholes j1 0 = 1) (c_72 : TV mc m_tholes j1 1 = 1) (x_93 : Int32) (ex_93 : x_93 = w1 + 1) : 0 < 2 := by
  first | assumption | omega | decide | rfl
theorem lf_X12_oars_f_96 (h : Nat) (q : Nat → Nat) (im : Nat → Int32) (ms : Nat) (mc : Int32) (m_tholes : Nat → Int32) (n1 : Int32) (hf_ms : im 2 = nI ms) (hf_mc : im 49 = mc) (hms : ms ≤ 24) (hc0 : (0 : Int32) ≤ mc) (c_1 : ¬ nI ms = 0) (n_5 : ms ≠ 0) (c_8 : (0 : Int32) ≤ n1 ∧ n1 ≤ 3) (tn1 : Nat) (tn1a : 0 ≤ tn1) (tn1b : tn1 ≤ 3) (tn1e : n1 = nI tn1) (j1 : Nat) (w1 : Int32) (w2 : Int32) (k28 : Nat) (hj28 : j1 ≤ ms) (hk28 : ms < j1 + (k28 + 1)) (hw1 : w1 = leF (TV mc m_tholes) j1) (hw2 : w2 = moF (TV mc m_tholes) j1) (c_9 : ¬ nI ms ≤ nI j1) (n_41 : j1 < ms) (c_47 : TV mc m_tholes j1 0 = 1) (c_72 : TV mc m_tholes j1 1 = 1) (x_93 : Int32) (ex_93 : x_93 = w1 + 1) : (0 : Int32) ≤ mc := by
  first | assumption | omega | decide | rfl
theorem lf_X12_oars_f_100 (h : Nat) (q : Nat → Nat) (im : Nat → Int32) (ms : Nat) (mc : Int32) (m_tholes : Nat → Int32) (n1 : Int32) (hf_ms : im 2 = nI ms) (hf_mc : im 49 = mc) (hms : ms ≤ 24) (hc0 : (0 : Int32) ≤ mc) (c_1 : ¬ nI ms = 0) (n_5 : ms ≠ 0) (c_8 : (0 : Int32) ≤ n1 ∧ n1 ≤ 3) (tn1 : Nat) (tn1a : 0 ≤ tn1) (tn1b : tn1 ≤ 3) (tn1e : n1 = nI tn1) (j1 : Nat) (w1 : Int32) (w2 : Int32) (k28 : Nat) (hj28 : j1 ≤ ms) (hk28 : ms < j1 + (k28 + 1)) (hw1 : w1 = leF (TV mc m_tholes) j1) (hw2 : w2 = moF (TV mc m_tholes) j1) (c_9 : ¬ nI ms ≤ nI j1) (n_41 : j1 < ms) (c_47 : TV mc m_tholes j1 0 = 1) (c_72 : TV mc m_tholes j1 1 = 1) (x_93 : Int32) (ex_93 : x_93 = w1 + 1) (c_98 : TV mc m_tholes j1 0 = 0) (x_99 : Int32) (ex_99 : x_99 = w2 + 0) : x_93 = leF (TV mc m_tholes) (j1 + 1) := by
  first | rfl | exact leF_y hw1 (by assumption) (by assumption) (by assumption) | exact leF_n hw1 (fun w => absurd w.1 (by assumption)) (by assumption) | exact leF_n hw1 (fun w => absurd w.2 (by assumption)) (by assumption) | exact moF_y hw2 (by assumption) (by assumption) (by assumption) | exact moF_n hw2 (fun w => w.1 (by assumption)) (by assumption) | exact moF_n hw2 (fun w => w.2 (by assumption)) (by assumption)
theorem lf_X12_oars_f_101 (h : Nat) (q : Nat → Nat) (im : Nat → Int32) (ms : Nat) (mc : Int32) (m_tholes : Nat → Int32) (n1 : Int32) (hf_ms : im 2 = nI ms) (hf_mc : im 49 = mc) (hms : ms ≤ 24) (hc0 : (0 : Int32) ≤ mc) (c_1 : ¬ nI ms = 0) (n_5 : ms ≠ 0) (c_8 : (0 : Int32) ≤ n1 ∧ n1 ≤ 3) (tn1 : Nat) (tn1a : 0 ≤ tn1) (tn1b : tn1 ≤ 3) (tn1e : n1 = nI tn1) (j1 : Nat) (w1 : Int32) (w2 : Int32) (k28 : Nat) (hj28 : j1 ≤ ms) (hk28 : ms < j1 + (k28 + 1)) (hw1 : w1 = leF (TV mc m_tholes) j1) (hw2 : w2 = moF (TV mc m_tholes) j1) (c_9 : ¬ nI ms ≤ nI j1) (n_41 : j1 < ms) (c_47 : TV mc m_tholes j1 0 = 1) (c_72 : TV mc m_tholes j1 1 = 1) (x_93 : Int32) (ex_93 : x_93 = w1 + 1) (c_98 : TV mc m_tholes j1 0 = 0) (x_99 : Int32) (ex_99 : x_99 = w2 + 0) : x_99 = moF (TV mc m_tholes) (j1 + 1) := by
  first | rfl | exact leF_y hw1 (by assumption) (by assumption) (by assumption) | exact leF_n hw1 (fun w => absurd w.1 (by assumption)) (by assumption) | exact leF_n hw1 (fun w => absurd w.2 (by assumption)) (by assumption) | exact moF_y hw2 (by assumption) (by assumption) (by assumption) | exact moF_n hw2 (fun w => w.1 (by assumption)) (by assumption) | exact moF_n hw2 (fun w => w.2 (by assumption)) (by assumption)
theorem lf_X12_oars_f_102 (h : Nat) (q : Nat → Nat) (im : Nat → Int32) (ms : Nat) (mc : Int32) (m_tholes : Nat → Int32) (n1 : Int32) (hf_ms : im 2 = nI ms) (hf_mc : im 49 = mc) (hms : ms ≤ 24) (hc0 : (0 : Int32) ≤ mc) (c_1 : ¬ nI ms = 0) (n_5 : ms ≠ 0) (c_8 : (0 : Int32) ≤ n1 ∧ n1 ≤ 3) (tn1 : Nat) (tn1a : 0 ≤ tn1) (tn1b : tn1 ≤ 3) (tn1e : n1 = nI tn1) (j1 : Nat) (w1 : Int32) (w2 : Int32) (k28 : Nat) (hj28 : j1 ≤ ms) (hk28 : ms < j1 + (k28 + 1)) (hw1 : w1 = leF (TV mc m_tholes) j1) (hw2 : w2 = moF (TV mc m_tholes) j1) (c_9 : ¬ nI ms ≤ nI j1) (n_41 : j1 < ms) (c_47 : TV mc m_tholes j1 0 = 1) (c_72 : TV mc m_tholes j1 1 = 1) (x_93 : Int32) (ex_93 : x_93 = w1 + 1) (c_98 : ¬ TV mc m_tholes j1 0 = 0) : j1 < 24 := by
  first | assumption | omega | decide | rfl
theorem lf_X12_oars_f_103 (h : Nat) (q : Nat → Nat) (im : Nat → Int32) (ms : Nat) (mc : Int32) (m_tholes : Nat → Int32) (n1 : Int32) (hf_ms : im 2 = nI ms) (hf_mc : im 49 = mc) (hms : ms ≤ 24) (hc0 : (0 : Int32) ≤ mc) (c_1 : ¬ nI ms = 0) (n_5 : ms ≠ 0) (c_8 : (0 : Int32) ≤ n1 ∧ n1 ≤ 3) (tn1 : Nat) (tn1a : 0 ≤ tn1) (tn1b : tn1 ≤ 3) (tn1e : n1 = nI tn1) (j1 : Nat) (w1 : Int32) (w2 : Int32) (k28 : Nat) (hj28 : j1 ≤ ms) (hk28 : ms < j1 + (k28 + 1)) (hw1 : w1 = leF (TV mc m_tholes) j1) (hw2 : w2 = moF (TV mc m_tholes) j1) (c_9 : ¬ nI ms ≤ nI j1) (n_41 : j1 < ms) (c_47 : TV mc m_tholes j1 0 = 1) (c_72 : TV mc m_tholes j1 1 = 1) (x_93 : Int32) (ex_93 : x_93 = w1 + 1) (c_98 : ¬ TV mc m_tholes j1 0 = 0) : 1 < 2 := by
  first | assumption | omega | decide | rfl
theorem lf_X12_oars_f_104 (h : Nat) (q : Nat → Nat) (im : Nat → Int32) (ms : Nat) (mc : Int32) (m_tholes : Nat → Int32) (n1 : Int32) (hf_ms : im 2 = nI ms) (hf_mc : im 49 = mc) (hms : ms ≤ 24) (hc0 : (0 : Int32) ≤ mc) (c_1 : ¬ nI ms = 0) (n_5 : ms ≠ 0) (c_8 : (0 : Int32) ≤ n1 ∧ n1 ≤ 3) (tn1 : Nat) (tn1a : 0 ≤ tn1) (tn1b : tn1 ≤ 3) (tn1e : n1 = nI tn1) (j1 : Nat) (w1 : Int32) (w2 : Int32) (k28 : Nat) (hj28 : j1 ≤ ms) (hk28 : ms < j1 + (k28 + 1)) (hw1 : w1 = leF (TV mc m_tholes) j1) (hw2 : w2 = moF (TV mc m_tholes) j1) (c_9 : ¬ nI ms ≤ nI j1) (n_41 : j1 < ms) (c_47 : TV mc m_tholes j1 0 = 1) (c_72 : TV mc m_tholes j1 1 = 1) (x_93 : Int32) (ex_93 : x_93 = w1 + 1) (c_98 : ¬ TV mc m_tholes j1 0 = 0) : (0 : Int32) ≤ mc := by
  first | assumption | omega | decide | rfl
theorem lf_X12_oars_f_108 (h : Nat) (q : Nat → Nat) (im : Nat → Int32) (ms : Nat) (mc : Int32) (m_tholes : Nat → Int32) (n1 : Int32) (hf_ms : im 2 = nI ms) (hf_mc : im 49 = mc) (hms : ms ≤ 24) (hc0 : (0 : Int32) ≤ mc) (c_1 : ¬ nI ms = 0) (n_5 : ms ≠ 0) (c_8 : (0 : Int32) ≤ n1 ∧ n1 ≤ 3) (tn1 : Nat) (tn1a : 0 ≤ tn1) (tn1b : tn1 ≤ 3) (tn1e : n1 = nI tn1) (j1 : Nat) (w1 : Int32) (w2 : Int32) (k28 : Nat) (hj28 : j1 ≤ ms) (hk28 : ms < j1 + (k28 + 1)) (hw1 : w1 = leF (TV mc m_tholes) j1) (hw2 : w2 = moF (TV mc m_tholes) j1) (c_9 : ¬ nI ms ≤ nI j1) (n_41 : j1 < ms) (c_47 : TV mc m_tholes j1 0 = 1) (c_72 : TV mc m_tholes j1 1 = 1) (x_93 : Int32) (ex_93 : x_93 = w1 + 1) (c_98 : ¬ TV mc m_tholes j1 0 = 0) (c_106 : TV mc m_tholes j1 1 = 0) (x_107 : Int32) (ex_107 : x_107 = w2 + 0) : x_93 = leF (TV mc m_tholes) (j1 + 1) := by
  first | rfl | exact leF_y hw1 (by assumption) (by assumption) (by assumption) | exact leF_n hw1 (fun w => absurd w.1 (by assumption)) (by assumption) | exact leF_n hw1 (fun w => absurd w.2 (by assumption)) (by assumption) | exact moF_y hw2 (by assumption) (by assumption) (by assumption) | exact moF_n hw2 (fun w => w.1 (by assumption)) (by assumption) | exact moF_n hw2 (fun w => w.2 (by assumption)) (by assumption)
theorem lf_X12_oars_f_109 (h : Nat) (q : Nat → Nat) (im : Nat → Int32) (ms : Nat) (mc : Int32) (m_tholes : Nat → Int32) (n1 : Int32) (hf_ms : im 2 = nI ms) (hf_mc : im 49 = mc) (hms : ms ≤ 24) (hc0 : (0 : Int32) ≤ mc) (c_1 : ¬ nI ms = 0) (n_5 : ms ≠ 0) (c_8 : (0 : Int32) ≤ n1 ∧ n1 ≤ 3) (tn1 : Nat) (tn1a : 0 ≤ tn1) (tn1b : tn1 ≤ 3) (tn1e : n1 = nI tn1) (j1 : Nat) (w1 : Int32) (w2 : Int32) (k28 : Nat) (hj28 : j1 ≤ ms) (hk28 : ms < j1 + (k28 + 1)) (hw1 : w1 = leF (TV mc m_tholes) j1) (hw2 : w2 = moF (TV mc m_tholes) j1) (c_9 : ¬ nI ms ≤ nI j1) (n_41 : j1 < ms) (c_47 : TV mc m_tholes j1 0 = 1) (c_72 : TV mc m_tholes j1 1 = 1) (x_93 : Int32) (ex_93 : x_93 = w1 + 1) (c_98 : ¬ TV mc m_tholes j1 0 = 0) (c_106 : TV mc m_tholes j1 1 = 0) (x_107 : Int32) (ex_107 : x_107 = w2 + 0) : x_107 = moF (TV mc m_tholes) (j1 + 1) := by
  first | rfl | exact leF_y hw1 (by assumption) (by assumption) (by assumption) | exact leF_n hw1 (fun w => absurd w.1 (by assumption)) (by assumption) | exact leF_n hw1 (fun w => absurd w.2 (by assumption)) (by assumption) | exact moF_y hw2 (by assumption) (by assumption) (by assumption) | exact moF_n hw2 (fun w => w.1 (by assumption)) (by assumption) | exact moF_n hw2 (fun w => w.2 (by assumption)) (by assumption)
theorem lf_X12_oars_f_111 (h : Nat) (q : Nat → Nat) (im : Nat → Int32) (ms : Nat) (mc : Int32) (m_tholes : Nat → Int32) (n1 : Int32) (hf_ms : im 2 = nI ms) (hf_mc : im 49 = mc) (hms : ms ≤ 24) (hc0 : (0 : Int32) ≤ mc) (c_1 : ¬ nI ms = 0) (n_5 : ms ≠ 0) (c_8 : (0 : Int32) ≤ n1 ∧ n1 ≤ 3) (tn1 : Nat) (tn1a : 0 ≤ tn1) (tn1b : tn1 ≤ 3) (tn1e : n1 = nI tn1) (j1 : Nat) (w1 : Int32) (w2 : Int32) (k28 : Nat) (hj28 : j1 ≤ ms) (hk28 : ms < j1 + (k28 + 1)) (hw1 : w1 = leF (TV mc m_tholes) j1) (hw2 : w2 = moF (TV mc m_tholes) j1) (c_9 : ¬ nI ms ≤ nI j1) (n_41 : j1 < ms) (c_47 : TV mc m_tholes j1 0 = 1) (c_72 : TV mc m_tholes j1 1 = 1) (x_93 : Int32) (ex_93 : x_93 = w1 + 1) (c_98 : ¬ TV mc m_tholes j1 0 = 0) (c_106 : ¬ TV mc m_tholes j1 1 = 0) (x_110 : Int32) (ex_110 : x_110 = w2 + 1) : x_93 = leF (TV mc m_tholes) (j1 + 1) := by
  first | rfl | exact leF_y hw1 (by assumption) (by assumption) (by assumption) | exact leF_n hw1 (fun w => absurd w.1 (by assumption)) (by assumption) | exact leF_n hw1 (fun w => absurd w.2 (by assumption)) (by assumption) | exact moF_y hw2 (by assumption) (by assumption) (by assumption) | exact moF_n hw2 (fun w => w.1 (by assumption)) (by assumption) | exact moF_n hw2 (fun w => w.2 (by assumption)) (by assumption)
theorem lf_X12_oars_f_112 (h : Nat) (q : Nat → Nat) (im : Nat → Int32) (ms : Nat) (mc : Int32) (m_tholes : Nat → Int32) (n1 : Int32) (hf_ms : im 2 = nI ms) (hf_mc : im 49 = mc) (hms : ms ≤ 24) (hc0 : (0 : Int32) ≤ mc) (c_1 : ¬ nI ms = 0) (n_5 : ms ≠ 0) (c_8 : (0 : Int32) ≤ n1 ∧ n1 ≤ 3) (tn1 : Nat) (tn1a : 0 ≤ tn1) (tn1b : tn1 ≤ 3) (tn1e : n1 = nI tn1) (j1 : Nat) (w1 : Int32) (w2 : Int32) (k28 : Nat) (hj28 : j1 ≤ ms) (hk28 : ms < j1 + (k28 + 1)) (hw1 : w1 = leF (TV mc m_tholes) j1) (hw2 : w2 = moF (TV mc m_tholes) j1) (c_9 : ¬ nI ms ≤ nI j1) (n_41 : j1 < ms) (c_47 : TV mc m_tholes j1 0 = 1) (c_72 : TV mc m_tholes j1 1 = 1) (x_93 : Int32) (ex_93 : x_93 = w1 + 1) (c_98 : ¬ TV mc m_tholes j1 0 = 0) (c_106 : ¬ TV mc m_tholes j1 1 = 0) (x_110 : Int32) (ex_110 : x_110 = w2 + 1) : x_110 = moF (TV mc m_tholes) (j1 + 1) := by
  first | rfl | exact leF_y hw1 (by assumption) (by assumption) (by assumption) | exact leF_n hw1 (fun w => absurd w.1 (by assumption)) (by assumption) | exact leF_n hw1 (fun w => absurd w.2 (by assumption)) (by assumption) | exact moF_y hw2 (by assumption) (by assumption) (by assumption) | exact moF_n hw2 (fun w => w.1 (by assumption)) (by assumption) | exact moF_n hw2 (fun w => w.2 (by assumption)) (by assumption)
theorem lf_X12_oars_f_113 (h : Nat) (q : Nat → Nat) (im : Nat → Int32) (ms : Nat) (mc : Int32) (m_tholes : Nat → Int32) (n1 : Int32) (hf_ms : im 2 = nI ms) (hf_mc : im 49 = mc) (hms : ms ≤ 24) (hc0 : (0 : Int32) ≤ mc) (c_1 : ¬ nI ms = 0) (n_5 : ms ≠ 0) (c_8 : (0 : Int32) ≤ n1 ∧ n1 ≤ 3) (tn1 : Nat) (tn1a : 0 ≤ tn1) (tn1b : tn1 ≤ 3) (tn1e : n1 = nI tn1) : (0 : Int32) = leF (TV mc m_tholes) 0 := by
  first | rfl | exact leF_y hw1 (by assumption) (by assumption) (by assumption) | exact leF_n hw1 (fun w => absurd w.1 (by assumption)) (by assumption) | exact leF_n hw1 (fun w => absurd w.2 (by assumption)) (by assumption) | exact moF_y hw2 (by assumption) (by assumption) (by assumption) | exact moF_n hw2 (fun w => w.1 (by assumption)) (by assumption) | exact moF_n hw2 (fun w => w.2 (by assumption)) (by assumption)
theorem lf_X12_oars_f_114 (h : Nat) (q : Nat → Nat) (im : Nat → Int32) (ms : Nat) (mc : Int32) (m_tholes : Nat → Int32) (n1 : Int32) (hf_ms : im 2 = nI ms) (hf_mc : im 49 = mc) (hms : ms ≤ 24) (hc0 : (0 : Int32) ≤ mc) (c_1 : ¬ nI ms = 0) (n_5 : ms ≠ 0) (c_8 : (0 : Int32) ≤ n1 ∧ n1 ≤ 3) (tn1 : Nat) (tn1a : 0 ≤ tn1) (tn1b : tn1 ≤ 3) (tn1e : n1 = nI tn1) : (0 : Int32) = moF (TV mc m_tholes) 0 := by
  first | rfl | exact leF_y hw1 (by assumption) (by assumption) (by assumption) | exact leF_n hw1 (fun w => absurd w.1 (by assumption)) (by assumption) | exact leF_n hw1 (fun w => absurd w.2 (by assumption)) (by assumption) | exact moF_y hw2 (by assumption) (by assumption) (by assumption) | exact moF_n hw2 (fun w => w.1 (by assumption)) (by assumption) | exact moF_n hw2 (fun w => w.2 (by assumption)) (by assumption)
theorem lf_X12_oars_f_115 (h : Nat) (q : Nat → Nat) (im : Nat → Int32) (ms : Nat) (mc : Int32) (m_tholes : Nat → Int32) (n1 : Int32) (hf_ms : im 2 = nI ms) (hf_mc : im 49 = mc) (hms : ms ≤ 24) (hc0 : (0 : Int32) ≤ mc) (c_1 : ¬ nI ms = 0) (n_5 : ms ≠ 0) (c_8 : ¬ ((0 : Int32) ≤ n1 ∧ n1 ≤ 3)) : ((-1) : Int32) = orF (TV mc m_tholes) ms n1 := by
  first | exact or_0 (by omega) | exact or_n (by assumption) | (refine or_v (by omega) ?_; rw [tn1e]; (first | rw [if_pos (by assumption)] | rw [if_neg (by assumption), if_pos (by assumption)] | rw [if_neg (by assumption), if_neg (by assumption), if_pos (by assumption)] | rw [if_neg (by assumption), if_neg (by assumption), if_neg (by assumption), if_pos (by assumption)] | rw [if_neg (by assumption), if_neg (by assumption), if_neg (by assumption), if_pos (show nI tn1 = 3 by rw [show tn1 = 3 by omega]; rfl)]) <;> (first | exact atn (F := fun i => leF (TV mc m_tholes) i) (by assumption) (by assumption) (by assumption) | exact atn (F := fun i => moF (TV mc m_tholes) i) (by assumption) (by assumption) (by assumption) | assumption))
set_option maxHeartbeats 4000000 in
set_option maxRecDepth 100000 in
theorem c_X12_oars_f (l : Launch) (D : va_G) (cI cB cZ cJ : ClassId) (tx : List (ClassId × FieldType)) (h : Nat) (q : Nat → Nat) (im : Nat → Int32) (ms : Nat) (mc : Int32) (m_tholes : Nat → Int32) (n1 : Int32) (hf_ms : im 2 = nI ms) (hf_mc : im 49 = mc) (hms : ms ≤ 24) (hc0 : (0 : Int32) ≤ mc) : RdI l D cI cB cZ cJ tx yX12_oars cX12_oars 5 (some .int) 3 [.ref h, .int n1] [(h, .inr (12, mG q im)), (q 73, .inl (cI, 48, .inl m_tholes))] (fun r => r = orF (TV mc m_tholes) ms n1) := by
  refine rdi_of2 (by decide) (Nat.le_of_ble_eq_true rfl) ?_
  intro p e s m below meth c A ls H locs hC hK hP hD hA hS hl
  obtain ⟨hx, hb, hr, hml, hown, hts, hlocks, hin⟩ := hC
  have hown : s.vm.findClass RX12 = some m.cls := hown
  have hl : lv_has ls 5 [(0, .ref h), (1, .int n1)] := hl
  refine W_gQ (fun Q hQ => ?_)
  refine lv_aload_n hx hb dX12_oars_0 rfl (lv_at hl 0 rfl) ?_
  refine va_get (D := D) (ci := 12) (v := .int (im 2)) (C := RX12) (T := TX12) (N := 81) hx hb hts inT_X12 hown hK.1 hP 0 rfl rfl 2 (by decide) (hts _ k_1355) (fun _ h9 => h9) rfl dX12_oars_1 ?_
  refine lv_topv (y := nI ms) hf_ms ?_
  refine lv_if_eq (tgt := 19) hx hb dX12_oars_4 (by decide) (fun c_1 => ?_) (fun c_1 => ?_)
  · have n_2 : ms = 0 := (lf_X12_oars_f_3 h q im ms mc m_tholes n1 hf_ms hf_mc hms hc0 c_1)
    refine lv_iconst (v := (-1)) hx hb dX12_oars_19 (by decide) ?_
    rw [hQ]
    exact W.iret (v := (-1)) hx hb hr (fun tt9 ht hW => ⟨⟨((-1) : Int32), (), rfl, (lf_X12_oars_f_4 h q im ms mc m_tholes n1 hf_ms hf_mc hms hc0 c_1 n_2), trivial⟩, hS.F ht⟩) hS.2.2 dX12_oars_20 hlocks
  · have n_5 : ms ≠ 0 := (lf_X12_oars_f_6 h q im ms mc m_tholes n1 hf_ms hf_mc hms hc0 c_1)
    refine lv_iload_n hx hb dX12_oars_7 rfl (lv_at hl 1 rfl) ?_
    refine lv_i2l (v := n1.toInt64) hx hb dX12_oars_8 rfl ?_
    refine lv_lconst (v := 0) hx hb dX12_oars_9 (by decide) ?_
    refine lv_ldc2 (v := 3) hx hb hown (hts _ k_1732) dX12_oars_10 ?_
    refine eRi (va_runS (As := [.long n1.toInt64, .long 0, .long 3]) (rest := []) ⟨hx, hb, hml, hown, hts⟩ (c_X12_isIn l D cI cB cZ cJ tx n1.toInt64 0 3 H.size) (zS hts k_1602 v_X12_isIn ⟨Nat.le_of_ble_eq_true rfl, Nat.le_of_ble_eq_true rfl⟩) (px0 hK) rfl rfl hl.1 rfl (lv_room (Nat.le_of_ble_eq_true rfl)) dX12_oars_13 ⟨Nat.le_of_ble_eq_true rfl, Nat.le_of_ble_eq_true rfl⟩) hP hS hA (fun r_7 H locs wr_7 hP hS => ?_)
    have wr_7 : r_7 = bi ((0 : Int32) ≤ n1 ∧ n1 ≤ 3) := isIn32 (lo := 0) (hi := 3) (by decide) (by decide) wr_7
    subst wr_7
    refine lv_bi_ne (tgt := 21) hx hb dX12_oars_16 (by decide) (fun c_8 => ?_) (fun c_8 => ?_)
    · obtain ⟨tn1, tn1a, tn1b, tn1e⟩ := of_rng 0 3 rfl rfl c_8
      subst tn1e
      refine lv_iconst (v := 0) hx hb dX12_oars_21 (by decide) ?_
      refine lv_istore_n (lv' := [(2, .int 0), (0, .ref h), (1, .int (nI tn1))]) hx hb dX12_oars_22 rfl hl (by decide) rfl (fun ls hl => ?_)
      refine lv_iconst (v := 0) hx hb dX12_oars_23 (by decide) ?_
      refine lv_istore_n (lv' := [(3, .int 0), (2, .int 0), (0, .ref h), (1, .int (nI tn1))]) hx hb dX12_oars_24 rfl hl (by decide) rfl (fun ls hl => ?_)
      refine lv_iconst (v := 0) hx hb dX12_oars_25 (by decide) ?_
      refine lv_istore (lv' := [(4, .int 0), (3, .int 0), (2, .int 0), (0, .ref h), (1, .int (nI tn1))]) hx hb dX12_oars_26 hl (by decide) rfl (fun ls hl => ?_)
      have lp28 : ∀ (k28 : Nat) (j1 : Nat) (w1 : Int32) (w2 : Int32) (H : Heap) (locs : List Loc) (ls : Array Slot), j1 ≤ ms → ms < j1 + k28 → (w1 = leF (TV mc m_tholes) j1) → (w2 = moF (TV mc m_tholes) j1) → va_P D vwCl [(h, .inr (12, mG q im)), (q 73, .inl (cI, 48, .inl m_tholes))] H → va_S A s.heap H locs → lv_has ls 5 [(4, .int (nI j1)), (3, .int w2), (2, .int w1), (0, .ref h), (1, .int (nI tn1))] → W p l e (rmX 3 0 0) s m ([.ref h, .int (nI tn1)] : List Value).toArray below meth c H locs 0 0 Q (F0 m 28 ls []) := by
        intro k28
        induction k28 with
        | zero =>
          intro j1 w1 w2 H locs ls hj28 hk28 hw1 hw2 hP hS hl
          exact absurd hk28 (by omega)
        | succ k28 ih28 =>
          intro j1 w1 w2 H locs ls hj28 hk28 hw1 hw2 hP hS hl
          refine lv_iload hx hb dX12_oars_28 (lv_at hl 0 rfl) ?_
          refine lv_aload_n hx hb dX12_oars_30 rfl (lv_at hl 3 rfl) ?_
          refine va_get (D := D) (ci := 12) (v := .int (im 2)) (C := RX12) (T := TX12) (N := 81) hx hb hts inT_X12 hown hK.1 hP 0 rfl rfl 2 (by decide) (hts _ k_1355) (fun _ h9 => h9) rfl dX12_oars_31 ?_
          refine lv_topv (y := nI ms) hf_ms ?_
          refine lv_icmp_ge (tgt := 101) hx hb dX12_oars_34 (by decide) (fun c_9 => ?_) (fun c_9 => ?_)
          · have n_10 : ms ≤ j1 := (lf_X12_oars_f_11 h q im ms mc m_tholes (nI tn1) hf_ms hf_mc hms hc0 c_1 n_5 c_8 tn1 tn1a tn1b rfl j1 w1 w2 k28 hj28 hk28 hw1 hw2 c_9)
            refine lv_iload_n hx hb dX12_oars_101 rfl (lv_at hl 4 rfl) ?_
            refine lv_if_ne (tgt := 109) hx hb dX12_oars_102 (by decide) (fun c_12 => ?_) (fun c_12 => ?_)
            · have n_13 : tn1 ≠ 0 := (lf_X12_oars_f_14 h q im ms mc m_tholes (nI tn1) hf_ms hf_mc hms hc0 c_1 n_5 c_8 tn1 tn1a tn1b rfl j1 w1 w2 k28 hj28 hk28 hw1 hw2 c_9 n_10 c_12)
              refine lv_iload_n hx hb dX12_oars_109 rfl (lv_at hl 4 rfl) ?_
              refine lv_iconst (v := 1) hx hb dX12_oars_110 (by decide) ?_
              refine lv_icmp_ne (tgt := 118) hx hb dX12_oars_111 (by decide) (fun c_15 => ?_) (fun c_15 => ?_)
              · have n_16 : tn1 ≠ 1 := (lf_X12_oars_f_17 h q im ms mc m_tholes (nI tn1) hf_ms hf_mc hms hc0 c_1 n_5 c_8 tn1 tn1a tn1b rfl j1 w1 w2 k28 hj28 hk28 hw1 hw2 c_9 n_10 c_12 n_13 c_15)
                refine lv_iload_n hx hb dX12_oars_118 rfl (lv_at hl 4 rfl) ?_
                refine lv_iconst (v := 2) hx hb dX12_oars_119 (by decide) ?_
                refine lv_icmp_ne (tgt := 137) hx hb dX12_oars_120 (by decide) (fun c_18 => ?_) (fun c_18 => ?_)
                · have n_19 : tn1 ≠ 2 := (lf_X12_oars_f_20 h q im ms mc m_tholes (nI tn1) hf_ms hf_mc hms hc0 c_1 n_5 c_8 tn1 tn1a tn1b rfl j1 w1 w2 k28 hj28 hk28 hw1 hw2 c_9 n_10 c_12 n_13 c_15 n_16 c_18)
                  refine lv_aload_n hx hb dX12_oars_137 rfl (lv_at hl 3 rfl) ?_
                  refine lv_iconst (v := 1) hx hb dX12_oars_138 (by decide) ?_
                  refine eRi (va_runV (As := [.int 1]) (rest := []) ⟨hx, hb, hml, hown, hts⟩ (c_X12_tholesThat_f l D cI cB cZ cJ tx h q im ms mc m_tholes 1 hf_ms hf_mc (lf_X12_oars_f_21 h q im ms mc m_tholes (nI tn1) hf_ms hf_mc hms hc0 c_1 n_5 c_8 tn1 tn1a tn1b rfl j1 w1 w2 k28 hj28 hk28 hw1 hw2 c_9 n_10 c_12 n_13 c_15 n_16 c_18 n_19) (lf_X12_oars_f_22 h q im ms mc m_tholes (nI tn1) hf_ms hf_mc hms hc0 c_1 n_5 c_8 tn1 tn1a tn1b rfl j1 w1 w2 k28 hj28 hk28 hw1 hw2 c_9 n_10 c_12 n_13 c_15 n_16 c_18 n_19) H.size) (zV hts k_1996 v_X12_tholesThat ⟨Nat.le_of_ble_eq_true rfl, Nat.le_of_ble_eq_true rfl⟩) (pV (pxS hK hP hD [0, 1] (by decide) rfl) hK hP 0 rfl rfl) rfl rfl hl.1 rfl (lv_room (Nat.le_of_ble_eq_true rfl)) dX12_oars_139 ⟨Nat.le_of_ble_eq_true rfl, Nat.le_of_ble_eq_true rfl⟩) hP hS hA (fun r_23 H locs wr_23 hP hS => ?_)
                  subst wr_23
                  rw [hQ]
                  exact W.iret (v := ttF (TV mc m_tholes) 1 ms) hx hb hr (fun tt9 ht hW => ⟨⟨(ttF (TV mc m_tholes) 1 ms : Int32), (), rfl, (lf_X12_oars_f_24 h q im ms mc m_tholes (nI tn1) hf_ms hf_mc hms hc0 c_1 n_5 c_8 tn1 tn1a tn1b rfl j1 w1 w2 k28 hj28 hk28 hw1 hw2 c_9 n_10 c_12 n_13 c_15 n_16 c_18 n_19), trivial⟩, hS.F ht⟩) hS.2.2 dX12_oars_142 hlocks
                · have n_25 : tn1 = 2 := (lf_X12_oars_f_26 h q im ms mc m_tholes (nI tn1) hf_ms hf_mc hms hc0 c_1 n_5 c_8 tn1 tn1a tn1b rfl j1 w1 w2 k28 hj28 hk28 hw1 hw2 c_9 n_10 c_12 n_13 c_15 n_16 c_18)
                  refine lv_aload_n hx hb dX12_oars_123 rfl (lv_at hl 3 rfl) ?_
                  refine lv_iconst (v := 0) hx hb dX12_oars_124 (by decide) ?_
                  refine eRi (va_runV (As := [.int 0]) (rest := []) ⟨hx, hb, hml, hown, hts⟩ (c_X12_tholesThat_f l D cI cB cZ cJ tx h q im ms mc m_tholes 0 hf_ms hf_mc (lf_X12_oars_f_27 h q im ms mc m_tholes (nI tn1) hf_ms hf_mc hms hc0 c_1 n_5 c_8 tn1 tn1a tn1b rfl j1 w1 w2 k28 hj28 hk28 hw1 hw2 c_9 n_10 c_12 n_13 c_15 n_16 c_18 n_25) (lf_X12_oars_f_28 h q im ms mc m_tholes (nI tn1) hf_ms hf_mc hms hc0 c_1 n_5 c_8 tn1 tn1a tn1b rfl j1 w1 w2 k28 hj28 hk28 hw1 hw2 c_9 n_10 c_12 n_13 c_15 n_16 c_18 n_25) H.size) (zV hts k_1996 v_X12_tholesThat ⟨Nat.le_of_ble_eq_true rfl, Nat.le_of_ble_eq_true rfl⟩) (pV (pxS hK hP hD [0, 1] (by decide) rfl) hK hP 0 rfl rfl) rfl rfl hl.1 rfl (lv_room (Nat.le_of_ble_eq_true rfl)) dX12_oars_125 ⟨Nat.le_of_ble_eq_true rfl, Nat.le_of_ble_eq_true rfl⟩) hP hS hA (fun r_29 H locs wr_29 hP hS => ?_)
                  subst wr_29
                  refine lv_aload_n hx hb dX12_oars_128 rfl (lv_at hl 3 rfl) ?_
                  refine lv_iconst (v := 1) hx hb dX12_oars_129 (by decide) ?_
                  refine eRi (va_runV (As := [.int 1]) (rest := [.int (ttF (TV mc m_tholes) 0 ms)]) ⟨hx, hb, hml, hown, hts⟩ (c_X12_tholesThat_f l D cI cB cZ cJ tx h q im ms mc m_tholes 1 hf_ms hf_mc (lf_X12_oars_f_30 h q im ms mc m_tholes (nI tn1) hf_ms hf_mc hms hc0 c_1 n_5 c_8 tn1 tn1a tn1b rfl j1 w1 w2 k28 hj28 hk28 hw1 hw2 c_9 n_10 c_12 n_13 c_15 n_16 c_18 n_25) (lf_X12_oars_f_31 h q im ms mc m_tholes (nI tn1) hf_ms hf_mc hms hc0 c_1 n_5 c_8 tn1 tn1a tn1b rfl j1 w1 w2 k28 hj28 hk28 hw1 hw2 c_9 n_10 c_12 n_13 c_15 n_16 c_18 n_25) H.size) (zV hts k_1996 v_X12_tholesThat ⟨Nat.le_of_ble_eq_true rfl, Nat.le_of_ble_eq_true rfl⟩) (pV (pxS hK hP hD [0, 1] (by decide) rfl) hK hP 0 rfl rfl) rfl rfl hl.1 rfl (lv_room (Nat.le_of_ble_eq_true rfl)) dX12_oars_130 ⟨Nat.le_of_ble_eq_true rfl, Nat.le_of_ble_eq_true rfl⟩) hP hS hA (fun r_32 H locs wr_32 hP hS => ?_)
                  subst wr_32
                  refine lv_iadd hx hb dX12_oars_133 ?_
                  refine lv_topi (fun x_33 ex_33 => ?_)
                  refine lv_goto (tgt := 142) hx hb dX12_oars_134 (by decide) ?_
                  rw [hQ]
                  exact W.iret (v := x_33) hx hb hr (fun tt9 ht hW => ⟨⟨(x_33 : Int32), (), rfl, (lf_X12_oars_f_34 h q im ms mc m_tholes (nI tn1) hf_ms hf_mc hms hc0 c_1 n_5 c_8 tn1 tn1a tn1b rfl j1 w1 w2 k28 hj28 hk28 hw1 hw2 c_9 n_10 c_12 n_13 c_15 n_16 c_18 n_25 x_33 ex_33), trivial⟩, hS.F ht⟩) hS.2.2 dX12_oars_142 hlocks
              · have n_35 : tn1 = 1 := (lf_X12_oars_f_36 h q im ms mc m_tholes (nI tn1) hf_ms hf_mc hms hc0 c_1 n_5 c_8 tn1 tn1a tn1b rfl j1 w1 w2 k28 hj28 hk28 hw1 hw2 c_9 n_10 c_12 n_13 c_15)
                refine lv_iload_n hx hb dX12_oars_114 rfl (lv_at hl 1 rfl) ?_
                refine lv_goto (tgt := 142) hx hb dX12_oars_115 (by decide) ?_
                rw [hQ]
                exact W.iret (v := w2) hx hb hr (fun tt9 ht hW => ⟨⟨(w2 : Int32), (), rfl, (lf_X12_oars_f_37 h q im ms mc m_tholes (nI tn1) hf_ms hf_mc hms hc0 c_1 n_5 c_8 tn1 tn1a tn1b rfl j1 w1 w2 k28 hj28 hk28 hw1 hw2 c_9 n_10 c_12 n_13 c_15 n_35), trivial⟩, hS.F ht⟩) hS.2.2 dX12_oars_142 hlocks
            · have n_38 : tn1 = 0 := (lf_X12_oars_f_39 h q im ms mc m_tholes (nI tn1) hf_ms hf_mc hms hc0 c_1 n_5 c_8 tn1 tn1a tn1b rfl j1 w1 w2 k28 hj28 hk28 hw1 hw2 c_9 n_10 c_12)
              refine lv_iload_n hx hb dX12_oars_105 rfl (lv_at hl 2 rfl) ?_
              refine lv_goto (tgt := 142) hx hb dX12_oars_106 (by decide) ?_
              rw [hQ]
              exact W.iret (v := w1) hx hb hr (fun tt9 ht hW => ⟨⟨(w1 : Int32), (), rfl, (lf_X12_oars_f_40 h q im ms mc m_tholes (nI tn1) hf_ms hf_mc hms hc0 c_1 n_5 c_8 tn1 tn1a tn1b rfl j1 w1 w2 k28 hj28 hk28 hw1 hw2 c_9 n_10 c_12 n_38), trivial⟩, hS.F ht⟩) hS.2.2 dX12_oars_142 hlocks
          · have n_41 : j1 < ms := (lf_X12_oars_f_42 h q im ms mc m_tholes (nI tn1) hf_ms hf_mc hms hc0 c_1 n_5 c_8 tn1 tn1a tn1b rfl j1 w1 w2 k28 hj28 hk28 hw1 hw2 c_9)
            refine lv_iload_n hx hb dX12_oars_37 rfl (lv_at hl 2 rfl) ?_
            refine lv_aload_n hx hb dX12_oars_38 rfl (lv_at hl 3 rfl) ?_
            refine lv_iload hx hb dX12_oars_39 (lv_at hl 0 rfl) ?_
            refine lv_iconst (v := 0) hx hb dX12_oars_41 (by decide) ?_
            refine eRi (va_runV (As := [.int (nI j1), .int 0]) (rest := [.int w1]) ⟨hx, hb, hml, hown, hts⟩ (c_X12_tholeOf_f l D cI cB cZ cJ tx h q im mc m_tholes j1 0 hf_mc (lf_X12_oars_f_43 h q im ms mc m_tholes (nI tn1) hf_ms hf_mc hms hc0 c_1 n_5 c_8 tn1 tn1a tn1b rfl j1 w1 w2 k28 hj28 hk28 hw1 hw2 c_9 n_41) (lf_X12_oars_f_44 h q im ms mc m_tholes (nI tn1) hf_ms hf_mc hms hc0 c_1 n_5 c_8 tn1 tn1a tn1b rfl j1 w1 w2 k28 hj28 hk28 hw1 hw2 c_9 n_41) (lf_X12_oars_f_45 h q im ms mc m_tholes (nI tn1) hf_ms hf_mc hms hc0 c_1 n_5 c_8 tn1 tn1a tn1b rfl j1 w1 w2 k28 hj28 hk28 hw1 hw2 c_9 n_41) H.size) (zV hts k_1992 v_X12_tholeOf ⟨Nat.le_of_ble_eq_true rfl, Nat.le_of_ble_eq_true rfl⟩) (pV (pxS hK hP hD [0, 1] (by decide) rfl) hK hP 0 rfl rfl) rfl rfl hl.1 rfl (lv_room (Nat.le_of_ble_eq_true rfl)) dX12_oars_42 ⟨Nat.le_of_ble_eq_true rfl, Nat.le_of_ble_eq_true rfl⟩) hP hS hA (fun r_46 H locs wr_46 hP hS => ?_)
            subst wr_46
            refine lv_iconst (v := 1) hx hb dX12_oars_45 (by decide) ?_
            refine lv_icmp_ne (tgt := 64) hx hb dX12_oars_46 (by decide) (fun c_47 => ?_) (fun c_47 => ?_)
            · refine lv_iconst (v := 0) hx hb dX12_oars_64 (by decide) ?_
              refine lv_iadd hx hb dX12_oars_65 ?_
              refine lv_topi (fun x_48 ex_48 => ?_)
              refine lv_istore_n (lv' := [(2, .int x_48), (4, .int (nI j1)), (3, .int w2), (0, .ref h), (1, .int (nI tn1))]) hx hb dX12_oars_66 rfl hl (by decide) rfl (fun ls hl => ?_)
              refine lv_iload_n hx hb dX12_oars_67 rfl (lv_at hl 2 rfl) ?_
              refine lv_aload_n hx hb dX12_oars_68 rfl (lv_at hl 3 rfl) ?_
              refine lv_iload hx hb dX12_oars_69 (lv_at hl 1 rfl) ?_
              refine lv_iconst (v := 0) hx hb dX12_oars_71 (by decide) ?_
              refine eRi (va_runV (As := [.int (nI j1), .int 0]) (rest := [.int w2]) ⟨hx, hb, hml, hown, hts⟩ (c_X12_tholeOf_f l D cI cB cZ cJ tx h q im mc m_tholes j1 0 hf_mc (lf_X12_oars_f_49 h q im ms mc m_tholes (nI tn1) hf_ms hf_mc hms hc0 c_1 n_5 c_8 tn1 tn1a tn1b rfl j1 w1 w2 k28 hj28 hk28 hw1 hw2 c_9 n_41 c_47 x_48 ex_48) (lf_X12_oars_f_50 h q im ms mc m_tholes (nI tn1) hf_ms hf_mc hms hc0 c_1 n_5 c_8 tn1 tn1a tn1b rfl j1 w1 w2 k28 hj28 hk28 hw1 hw2 c_9 n_41 c_47 x_48 ex_48) (lf_X12_oars_f_51 h q im ms mc m_tholes (nI tn1) hf_ms hf_mc hms hc0 c_1 n_5 c_8 tn1 tn1a tn1b rfl j1 w1 w2 k28 hj28 hk28 hw1 hw2 c_9 n_41 c_47 x_48 ex_48) H.size) (zV hts k_1992 v_X12_tholeOf ⟨Nat.le_of_ble_eq_true rfl, Nat.le_of_ble_eq_true rfl⟩) (pV (pxS hK hP hD [0, 1] (by decide) rfl) hK hP 0 rfl rfl) rfl rfl hl.1 rfl (lv_room (Nat.le_of_ble_eq_true rfl)) dX12_oars_72 ⟨Nat.le_of_ble_eq_true rfl, Nat.le_of_ble_eq_true rfl⟩) hP hS hA (fun r_52 H locs wr_52 hP hS => ?_)
              subst wr_52
              refine lv_if_eq (tgt := 92) hx hb dX12_oars_75 (by decide) (fun c_53 => ?_) (fun c_53 => ?_)
              · refine lv_iconst (v := 0) hx hb dX12_oars_92 (by decide) ?_
                refine lv_iadd hx hb dX12_oars_93 ?_
                refine lv_topi (fun x_54 ex_54 => ?_)
                refine lv_istore_n (lv' := [(3, .int x_54), (2, .int x_48), (4, .int (nI j1)), (0, .ref h), (1, .int (nI tn1))]) hx hb dX12_oars_94 rfl hl (by decide) rfl (fun ls hl => ?_)
                refine lv_iinc (v := nI (j1 + 1)) (lv' := [(4, .int (nI (j1 + 1))), (3, .int x_54), (2, .int x_48), (0, .ref h), (1, .int (nI tn1))]) hx hb dX12_oars_95 hl (k := 2) rfl (nI_1 j1) (by decide) rfl (fun ls hl => ?_)
                refine lv_goto (tgt := 28) hx hb dX12_oars_98 (by decide) ?_
                exact ih28 (j1 + 1) x_48 x_54 H locs ls (by omega) (by omega) (lf_X12_oars_f_55 h q im ms mc m_tholes (nI tn1) hf_ms hf_mc hms hc0 c_1 n_5 c_8 tn1 tn1a tn1b rfl j1 w1 w2 k28 hj28 hk28 hw1 hw2 c_9 n_41 c_47 x_48 ex_48 c_53 x_54 ex_54) (lf_X12_oars_f_56 h q im ms mc m_tholes (nI tn1) hf_ms hf_mc hms hc0 c_1 n_5 c_8 tn1 tn1a tn1b rfl j1 w1 w2 k28 hj28 hk28 hw1 hw2 c_9 n_41 c_47 x_48 ex_48 c_53 x_54 ex_54) (hP.sub [0, 1] rfl)  hS (lv_sub hl [0, 1, 2, 3, 4] rfl)
              · refine lv_aload_n hx hb dX12_oars_78 rfl (lv_at hl 3 rfl) ?_
                refine lv_iload hx hb dX12_oars_79 (lv_at hl 1 rfl) ?_
                refine lv_iconst (v := 1) hx hb dX12_oars_81 (by decide) ?_
                refine eRi (va_runV (As := [.int (nI j1), .int 1]) (rest := [.int w2]) ⟨hx, hb, hml, hown, hts⟩ (c_X12_tholeOf_f l D cI cB cZ cJ tx h q im mc m_tholes j1 1 hf_mc (lf_X12_oars_f_57 h q im ms mc m_tholes (nI tn1) hf_ms hf_mc hms hc0 c_1 n_5 c_8 tn1 tn1a tn1b rfl j1 w1 w2 k28 hj28 hk28 hw1 hw2 c_9 n_41 c_47 x_48 ex_48 c_53) (lf_X12_oars_f_58 h q im ms mc m_tholes (nI tn1) hf_ms hf_mc hms hc0 c_1 n_5 c_8 tn1 tn1a tn1b rfl j1 w1 w2 k28 hj28 hk28 hw1 hw2 c_9 n_41 c_47 x_48 ex_48 c_53) (lf_X12_oars_f_59 h q im ms mc m_tholes (nI tn1) hf_ms hf_mc hms hc0 c_1 n_5 c_8 tn1 tn1a tn1b rfl j1 w1 w2 k28 hj28 hk28 hw1 hw2 c_9 n_41 c_47 x_48 ex_48 c_53) H.size) (zV hts k_1992 v_X12_tholeOf ⟨Nat.le_of_ble_eq_true rfl, Nat.le_of_ble_eq_true rfl⟩) (pV (pxS hK hP hD [0, 1] (by decide) rfl) hK hP 0 rfl rfl) rfl rfl hl.1 rfl (lv_room (Nat.le_of_ble_eq_true rfl)) dX12_oars_82 ⟨Nat.le_of_ble_eq_true rfl, Nat.le_of_ble_eq_true rfl⟩) hP hS hA (fun r_60 H locs wr_60 hP hS => ?_)
                subst wr_60
                refine lv_if_eq (tgt := 92) hx hb dX12_oars_85 (by decide) (fun c_61 => ?_) (fun c_61 => ?_)
                · refine lv_iconst (v := 0) hx hb dX12_oars_92 (by decide) ?_
                  refine lv_iadd hx hb dX12_oars_93 ?_
                  refine lv_topi (fun x_62 ex_62 => ?_)
                  refine lv_istore_n (lv' := [(3, .int x_62), (2, .int x_48), (4, .int (nI j1)), (0, .ref h), (1, .int (nI tn1))]) hx hb dX12_oars_94 rfl hl (by decide) rfl (fun ls hl => ?_)
                  refine lv_iinc (v := nI (j1 + 1)) (lv' := [(4, .int (nI (j1 + 1))), (3, .int x_62), (2, .int x_48), (0, .ref h), (1, .int (nI tn1))]) hx hb dX12_oars_95 hl (k := 2) rfl (nI_1 j1) (by decide) rfl (fun ls hl => ?_)
                  refine lv_goto (tgt := 28) hx hb dX12_oars_98 (by decide) ?_
                  exact ih28 (j1 + 1) x_48 x_62 H locs ls (by omega) (by omega) (lf_X12_oars_f_63 h q im ms mc m_tholes (nI tn1) hf_ms hf_mc hms hc0 c_1 n_5 c_8 tn1 tn1a tn1b rfl j1 w1 w2 k28 hj28 hk28 hw1 hw2 c_9 n_41 c_47 x_48 ex_48 c_53 c_61 x_62 ex_62) (lf_X12_oars_f_64 h q im ms mc m_tholes (nI tn1) hf_ms hf_mc hms hc0 c_1 n_5 c_8 tn1 tn1a tn1b rfl j1 w1 w2 k28 hj28 hk28 hw1 hw2 c_9 n_41 c_47 x_48 ex_48 c_53 c_61 x_62 ex_62) (hP.sub [0, 1] rfl)  hS (lv_sub hl [0, 1, 2, 3, 4] rfl)
                · refine lv_iconst (v := 1) hx hb dX12_oars_88 (by decide) ?_
                  refine lv_goto (tgt := 93) hx hb dX12_oars_89 (by decide) ?_
                  refine lv_iadd hx hb dX12_oars_93 ?_
                  refine lv_topi (fun x_65 ex_65 => ?_)
                  refine lv_istore_n (lv' := [(3, .int x_65), (2, .int x_48), (4, .int (nI j1)), (0, .ref h), (1, .int (nI tn1))]) hx hb dX12_oars_94 rfl hl (by decide) rfl (fun ls hl => ?_)
                  refine lv_iinc (v := nI (j1 + 1)) (lv' := [(4, .int (nI (j1 + 1))), (3, .int x_65), (2, .int x_48), (0, .ref h), (1, .int (nI tn1))]) hx hb dX12_oars_95 hl (k := 2) rfl (nI_1 j1) (by decide) rfl (fun ls hl => ?_)
                  refine lv_goto (tgt := 28) hx hb dX12_oars_98 (by decide) ?_
                  exact ih28 (j1 + 1) x_48 x_65 H locs ls (by omega) (by omega) (lf_X12_oars_f_66 h q im ms mc m_tholes (nI tn1) hf_ms hf_mc hms hc0 c_1 n_5 c_8 tn1 tn1a tn1b rfl j1 w1 w2 k28 hj28 hk28 hw1 hw2 c_9 n_41 c_47 x_48 ex_48 c_53 c_61 x_65 ex_65) (lf_X12_oars_f_67 h q im ms mc m_tholes (nI tn1) hf_ms hf_mc hms hc0 c_1 n_5 c_8 tn1 tn1a tn1b rfl j1 w1 w2 k28 hj28 hk28 hw1 hw2 c_9 n_41 c_47 x_48 ex_48 c_53 c_61 x_65 ex_65) (hP.sub [0, 1] rfl)  hS (lv_sub hl [0, 1, 2, 3, 4] rfl)
            · refine lv_aload_n hx hb dX12_oars_49 rfl (lv_at hl 3 rfl) ?_
              refine lv_iload hx hb dX12_oars_50 (lv_at hl 0 rfl) ?_
              refine lv_iconst (v := 1) hx hb dX12_oars_52 (by decide) ?_
              refine eRi (va_runV (As := [.int (nI j1), .int 1]) (rest := [.int w1]) ⟨hx, hb, hml, hown, hts⟩ (c_X12_tholeOf_f l D cI cB cZ cJ tx h q im mc m_tholes j1 1 hf_mc (lf_X12_oars_f_68 h q im ms mc m_tholes (nI tn1) hf_ms hf_mc hms hc0 c_1 n_5 c_8 tn1 tn1a tn1b rfl j1 w1 w2 k28 hj28 hk28 hw1 hw2 c_9 n_41 c_47) (lf_X12_oars_f_69 h q im ms mc m_tholes (nI tn1) hf_ms hf_mc hms hc0 c_1 n_5 c_8 tn1 tn1a tn1b rfl j1 w1 w2 k28 hj28 hk28 hw1 hw2 c_9 n_41 c_47) (lf_X12_oars_f_70 h q im ms mc m_tholes (nI tn1) hf_ms hf_mc hms hc0 c_1 n_5 c_8 tn1 tn1a tn1b rfl j1 w1 w2 k28 hj28 hk28 hw1 hw2 c_9 n_41 c_47) H.size) (zV hts k_1992 v_X12_tholeOf ⟨Nat.le_of_ble_eq_true rfl, Nat.le_of_ble_eq_true rfl⟩) (pV (pxS hK hP hD [0, 1] (by decide) rfl) hK hP 0 rfl rfl) rfl rfl hl.1 rfl (lv_room (Nat.le_of_ble_eq_true rfl)) dX12_oars_53 ⟨Nat.le_of_ble_eq_true rfl, Nat.le_of_ble_eq_true rfl⟩) hP hS hA (fun r_71 H locs wr_71 hP hS => ?_)
              subst wr_71
              refine lv_iconst (v := 1) hx hb dX12_oars_56 (by decide) ?_
              refine lv_icmp_ne (tgt := 64) hx hb dX12_oars_57 (by decide) (fun c_72 => ?_) (fun c_72 => ?_)
              · refine lv_iconst (v := 0) hx hb dX12_oars_64 (by decide) ?_
                refine lv_iadd hx hb dX12_oars_65 ?_
                refine lv_topi (fun x_73 ex_73 => ?_)
                refine lv_istore_n (lv' := [(2, .int x_73), (4, .int (nI j1)), (3, .int w2), (0, .ref h), (1, .int (nI tn1))]) hx hb dX12_oars_66 rfl hl (by decide) rfl (fun ls hl => ?_)
                refine lv_iload_n hx hb dX12_oars_67 rfl (lv_at hl 2 rfl) ?_
                refine lv_aload_n hx hb dX12_oars_68 rfl (lv_at hl 3 rfl) ?_
                refine lv_iload hx hb dX12_oars_69 (lv_at hl 1 rfl) ?_
                refine lv_iconst (v := 0) hx hb dX12_oars_71 (by decide) ?_
                refine eRi (va_runV (As := [.int (nI j1), .int 0]) (rest := [.int w2]) ⟨hx, hb, hml, hown, hts⟩ (c_X12_tholeOf_f l D cI cB cZ cJ tx h q im mc m_tholes j1 0 hf_mc (lf_X12_oars_f_74 h q im ms mc m_tholes (nI tn1) hf_ms hf_mc hms hc0 c_1 n_5 c_8 tn1 tn1a tn1b rfl j1 w1 w2 k28 hj28 hk28 hw1 hw2 c_9 n_41 c_47 c_72 x_73 ex_73) (lf_X12_oars_f_75 h q im ms mc m_tholes (nI tn1) hf_ms hf_mc hms hc0 c_1 n_5 c_8 tn1 tn1a tn1b rfl j1 w1 w2 k28 hj28 hk28 hw1 hw2 c_9 n_41 c_47 c_72 x_73 ex_73) (lf_X12_oars_f_76 h q im ms mc m_tholes (nI tn1) hf_ms hf_mc hms hc0 c_1 n_5 c_8 tn1 tn1a tn1b rfl j1 w1 w2 k28 hj28 hk28 hw1 hw2 c_9 n_41 c_47 c_72 x_73 ex_73) H.size) (zV hts k_1992 v_X12_tholeOf ⟨Nat.le_of_ble_eq_true rfl, Nat.le_of_ble_eq_true rfl⟩) (pV (pxS hK hP hD [0, 1] (by decide) rfl) hK hP 0 rfl rfl) rfl rfl hl.1 rfl (lv_room (Nat.le_of_ble_eq_true rfl)) dX12_oars_72 ⟨Nat.le_of_ble_eq_true rfl, Nat.le_of_ble_eq_true rfl⟩) hP hS hA (fun r_77 H locs wr_77 hP hS => ?_)
                subst wr_77
                refine lv_if_eq (tgt := 92) hx hb dX12_oars_75 (by decide) (fun c_78 => ?_) (fun c_78 => ?_)
                · refine lv_iconst (v := 0) hx hb dX12_oars_92 (by decide) ?_
                  refine lv_iadd hx hb dX12_oars_93 ?_
                  refine lv_topi (fun x_79 ex_79 => ?_)
                  refine lv_istore_n (lv' := [(3, .int x_79), (2, .int x_73), (4, .int (nI j1)), (0, .ref h), (1, .int (nI tn1))]) hx hb dX12_oars_94 rfl hl (by decide) rfl (fun ls hl => ?_)
                  refine lv_iinc (v := nI (j1 + 1)) (lv' := [(4, .int (nI (j1 + 1))), (3, .int x_79), (2, .int x_73), (0, .ref h), (1, .int (nI tn1))]) hx hb dX12_oars_95 hl (k := 2) rfl (nI_1 j1) (by decide) rfl (fun ls hl => ?_)
                  refine lv_goto (tgt := 28) hx hb dX12_oars_98 (by decide) ?_
                  exact ih28 (j1 + 1) x_73 x_79 H locs ls (by omega) (by omega) (lf_X12_oars_f_80 h q im ms mc m_tholes (nI tn1) hf_ms hf_mc hms hc0 c_1 n_5 c_8 tn1 tn1a tn1b rfl j1 w1 w2 k28 hj28 hk28 hw1 hw2 c_9 n_41 c_47 c_72 x_73 ex_73 c_78 x_79 ex_79) (lf_X12_oars_f_81 h q im ms mc m_tholes (nI tn1) hf_ms hf_mc hms hc0 c_1 n_5 c_8 tn1 tn1a tn1b rfl j1 w1 w2 k28 hj28 hk28 hw1 hw2 c_9 n_41 c_47 c_72 x_73 ex_73 c_78 x_79 ex_79) (hP.sub [0, 1] rfl)  hS (lv_sub hl [0, 1, 2, 3, 4] rfl)
                · refine lv_aload_n hx hb dX12_oars_78 rfl (lv_at hl 3 rfl) ?_
                  refine lv_iload hx hb dX12_oars_79 (lv_at hl 1 rfl) ?_
                  refine lv_iconst (v := 1) hx hb dX12_oars_81 (by decide) ?_
                  refine eRi (va_runV (As := [.int (nI j1), .int 1]) (rest := [.int w2]) ⟨hx, hb, hml, hown, hts⟩ (c_X12_tholeOf_f l D cI cB cZ cJ tx h q im mc m_tholes j1 1 hf_mc (lf_X12_oars_f_82 h q im ms mc m_tholes (nI tn1) hf_ms hf_mc hms hc0 c_1 n_5 c_8 tn1 tn1a tn1b rfl j1 w1 w2 k28 hj28 hk28 hw1 hw2 c_9 n_41 c_47 c_72 x_73 ex_73 c_78) (lf_X12_oars_f_83 h q im ms mc m_tholes (nI tn1) hf_ms hf_mc hms hc0 c_1 n_5 c_8 tn1 tn1a tn1b rfl j1 w1 w2 k28 hj28 hk28 hw1 hw2 c_9 n_41 c_47 c_72 x_73 ex_73 c_78) (lf_X12_oars_f_84 h q im ms mc m_tholes (nI tn1) hf_ms hf_mc hms hc0 c_1 n_5 c_8 tn1 tn1a tn1b rfl j1 w1 w2 k28 hj28 hk28 hw1 hw2 c_9 n_41 c_47 c_72 x_73 ex_73 c_78) H.size) (zV hts k_1992 v_X12_tholeOf ⟨Nat.le_of_ble_eq_true rfl, Nat.le_of_ble_eq_true rfl⟩) (pV (pxS hK hP hD [0, 1] (by decide) rfl) hK hP 0 rfl rfl) rfl rfl hl.1 rfl (lv_room (Nat.le_of_ble_eq_true rfl)) dX12_oars_82 ⟨Nat.le_of_ble_eq_true rfl, Nat.le_of_ble_eq_true rfl⟩) hP hS hA (fun r_85 H locs wr_85 hP hS => ?_)
                  subst wr_85
                  refine lv_if_eq (tgt := 92) hx hb dX12_oars_85 (by decide) (fun c_86 => ?_) (fun c_86 => ?_)
                  · refine lv_iconst (v := 0) hx hb dX12_oars_92 (by decide) ?_
                    refine lv_iadd hx hb dX12_oars_93 ?_
                    refine lv_topi (fun x_87 ex_87 => ?_)
                    refine lv_istore_n (lv' := [(3, .int x_87), (2, .int x_73), (4, .int (nI j1)), (0, .ref h), (1, .int (nI tn1))]) hx hb dX12_oars_94 rfl hl (by decide) rfl (fun ls hl => ?_)
                    refine lv_iinc (v := nI (j1 + 1)) (lv' := [(4, .int (nI (j1 + 1))), (3, .int x_87), (2, .int x_73), (0, .ref h), (1, .int (nI tn1))]) hx hb dX12_oars_95 hl (k := 2) rfl (nI_1 j1) (by decide) rfl (fun ls hl => ?_)
                    refine lv_goto (tgt := 28) hx hb dX12_oars_98 (by decide) ?_
                    exact ih28 (j1 + 1) x_73 x_87 H locs ls (by omega) (by omega) (lf_X12_oars_f_88 h q im ms mc m_tholes (nI tn1) hf_ms hf_mc hms hc0 c_1 n_5 c_8 tn1 tn1a tn1b rfl j1 w1 w2 k28 hj28 hk28 hw1 hw2 c_9 n_41 c_47 c_72 x_73 ex_73 c_78 c_86 x_87 ex_87) (lf_X12_oars_f_89 h q im ms mc m_tholes (nI tn1) hf_ms hf_mc hms hc0 c_1 n_5 c_8 tn1 tn1a tn1b rfl j1 w1 w2 k28 hj28 hk28 hw1 hw2 c_9 n_41 c_47 c_72 x_73 ex_73 c_78 c_86 x_87 ex_87) (hP.sub [0, 1] rfl)  hS (lv_sub hl [0, 1, 2, 3, 4] rfl)
                  · refine lv_iconst (v := 1) hx hb dX12_oars_88 (by decide) ?_
                    refine lv_goto (tgt := 93) hx hb dX12_oars_89 (by decide) ?_
                    refine lv_iadd hx hb dX12_oars_93 ?_
                    refine lv_topi (fun x_90 ex_90 => ?_)
                    refine lv_istore_n (lv' := [(3, .int x_90), (2, .int x_73), (4, .int (nI j1)), (0, .ref h), (1, .int (nI tn1))]) hx hb dX12_oars_94 rfl hl (by decide) rfl (fun ls hl => ?_)
                    refine lv_iinc (v := nI (j1 + 1)) (lv' := [(4, .int (nI (j1 + 1))), (3, .int x_90), (2, .int x_73), (0, .ref h), (1, .int (nI tn1))]) hx hb dX12_oars_95 hl (k := 2) rfl (nI_1 j1) (by decide) rfl (fun ls hl => ?_)
                    refine lv_goto (tgt := 28) hx hb dX12_oars_98 (by decide) ?_
                    exact ih28 (j1 + 1) x_73 x_90 H locs ls (by omega) (by omega) (lf_X12_oars_f_91 h q im ms mc m_tholes (nI tn1) hf_ms hf_mc hms hc0 c_1 n_5 c_8 tn1 tn1a tn1b rfl j1 w1 w2 k28 hj28 hk28 hw1 hw2 c_9 n_41 c_47 c_72 x_73 ex_73 c_78 c_86 x_90 ex_90) (lf_X12_oars_f_92 h q im ms mc m_tholes (nI tn1) hf_ms hf_mc hms hc0 c_1 n_5 c_8 tn1 tn1a tn1b rfl j1 w1 w2 k28 hj28 hk28 hw1 hw2 c_9 n_41 c_47 c_72 x_73 ex_73 c_78 c_86 x_90 ex_90) (hP.sub [0, 1] rfl)  hS (lv_sub hl [0, 1, 2, 3, 4] rfl)
              · refine lv_iconst (v := 1) hx hb dX12_oars_60 (by decide) ?_
                refine lv_goto (tgt := 65) hx hb dX12_oars_61 (by decide) ?_
                refine lv_iadd hx hb dX12_oars_65 ?_
                refine lv_topi (fun x_93 ex_93 => ?_)
                refine lv_istore_n (lv' := [(2, .int x_93), (4, .int (nI j1)), (3, .int w2), (0, .ref h), (1, .int (nI tn1))]) hx hb dX12_oars_66 rfl hl (by decide) rfl (fun ls hl => ?_)
                refine lv_iload_n hx hb dX12_oars_67 rfl (lv_at hl 2 rfl) ?_
                refine lv_aload_n hx hb dX12_oars_68 rfl (lv_at hl 3 rfl) ?_
                refine lv_iload hx hb dX12_oars_69 (lv_at hl 1 rfl) ?_
                refine lv_iconst (v := 0) hx hb dX12_oars_71 (by decide) ?_
                refine eRi (va_runV (As := [.int (nI j1), .int 0]) (rest := [.int w2]) ⟨hx, hb, hml, hown, hts⟩ (c_X12_tholeOf_f l D cI cB cZ cJ tx h q im mc m_tholes j1 0 hf_mc (lf_X12_oars_f_94 h q im ms mc m_tholes (nI tn1) hf_ms hf_mc hms hc0 c_1 n_5 c_8 tn1 tn1a tn1b rfl j1 w1 w2 k28 hj28 hk28 hw1 hw2 c_9 n_41 c_47 c_72 x_93 ex_93) (lf_X12_oars_f_95 h q im ms mc m_tholes (nI tn1) hf_ms hf_mc hms hc0 c_1 n_5 c_8 tn1 tn1a tn1b rfl j1 w1 w2 k28 hj28 hk28 hw1 hw2 c_9 n_41 c_47 c_72 x_93 ex_93) (lf_X12_oars_f_96 h q im ms mc m_tholes (nI tn1) hf_ms hf_mc hms hc0 c_1 n_5 c_8 tn1 tn1a tn1b rfl j1 w1 w2 k28 hj28 hk28 hw1 hw2 c_9 n_41 c_47 c_72 x_93 ex_93) H.size) (zV hts k_1992 v_X12_tholeOf ⟨Nat.le_of_ble_eq_true rfl, Nat.le_of_ble_eq_true rfl⟩) (pV (pxS hK hP hD [0, 1] (by decide) rfl) hK hP 0 rfl rfl) rfl rfl hl.1 rfl (lv_room (Nat.le_of_ble_eq_true rfl)) dX12_oars_72 ⟨Nat.le_of_ble_eq_true rfl, Nat.le_of_ble_eq_true rfl⟩) hP hS hA (fun r_97 H locs wr_97 hP hS => ?_)
                subst wr_97
                refine lv_if_eq (tgt := 92) hx hb dX12_oars_75 (by decide) (fun c_98 => ?_) (fun c_98 => ?_)
                · refine lv_iconst (v := 0) hx hb dX12_oars_92 (by decide) ?_
                  refine lv_iadd hx hb dX12_oars_93 ?_
                  refine lv_topi (fun x_99 ex_99 => ?_)
                  refine lv_istore_n (lv' := [(3, .int x_99), (2, .int x_93), (4, .int (nI j1)), (0, .ref h), (1, .int (nI tn1))]) hx hb dX12_oars_94 rfl hl (by decide) rfl (fun ls hl => ?_)
                  refine lv_iinc (v := nI (j1 + 1)) (lv' := [(4, .int (nI (j1 + 1))), (3, .int x_99), (2, .int x_93), (0, .ref h), (1, .int (nI tn1))]) hx hb dX12_oars_95 hl (k := 2) rfl (nI_1 j1) (by decide) rfl (fun ls hl => ?_)
                  refine lv_goto (tgt := 28) hx hb dX12_oars_98 (by decide) ?_
                  exact ih28 (j1 + 1) x_93 x_99 H locs ls (by omega) (by omega) (lf_X12_oars_f_100 h q im ms mc m_tholes (nI tn1) hf_ms hf_mc hms hc0 c_1 n_5 c_8 tn1 tn1a tn1b rfl j1 w1 w2 k28 hj28 hk28 hw1 hw2 c_9 n_41 c_47 c_72 x_93 ex_93 c_98 x_99 ex_99) (lf_X12_oars_f_101 h q im ms mc m_tholes (nI tn1) hf_ms hf_mc hms hc0 c_1 n_5 c_8 tn1 tn1a tn1b rfl j1 w1 w2 k28 hj28 hk28 hw1 hw2 c_9 n_41 c_47 c_72 x_93 ex_93 c_98 x_99 ex_99) (hP.sub [0, 1] rfl)  hS (lv_sub hl [0, 1, 2, 3, 4] rfl)
                · refine lv_aload_n hx hb dX12_oars_78 rfl (lv_at hl 3 rfl) ?_
                  refine lv_iload hx hb dX12_oars_79 (lv_at hl 1 rfl) ?_
                  refine lv_iconst (v := 1) hx hb dX12_oars_81 (by decide) ?_
                  refine eRi (va_runV (As := [.int (nI j1), .int 1]) (rest := [.int w2]) ⟨hx, hb, hml, hown, hts⟩ (c_X12_tholeOf_f l D cI cB cZ cJ tx h q im mc m_tholes j1 1 hf_mc (lf_X12_oars_f_102 h q im ms mc m_tholes (nI tn1) hf_ms hf_mc hms hc0 c_1 n_5 c_8 tn1 tn1a tn1b rfl j1 w1 w2 k28 hj28 hk28 hw1 hw2 c_9 n_41 c_47 c_72 x_93 ex_93 c_98) (lf_X12_oars_f_103 h q im ms mc m_tholes (nI tn1) hf_ms hf_mc hms hc0 c_1 n_5 c_8 tn1 tn1a tn1b rfl j1 w1 w2 k28 hj28 hk28 hw1 hw2 c_9 n_41 c_47 c_72 x_93 ex_93 c_98) (lf_X12_oars_f_104 h q im ms mc m_tholes (nI tn1) hf_ms hf_mc hms hc0 c_1 n_5 c_8 tn1 tn1a tn1b rfl j1 w1 w2 k28 hj28 hk28 hw1 hw2 c_9 n_41 c_47 c_72 x_93 ex_93 c_98) H.size) (zV hts k_1992 v_X12_tholeOf ⟨Nat.le_of_ble_eq_true rfl, Nat.le_of_ble_eq_true rfl⟩) (pV (pxS hK hP hD [0, 1] (by decide) rfl) hK hP 0 rfl rfl) rfl rfl hl.1 rfl (lv_room (Nat.le_of_ble_eq_true rfl)) dX12_oars_82 ⟨Nat.le_of_ble_eq_true rfl, Nat.le_of_ble_eq_true rfl⟩) hP hS hA (fun r_105 H locs wr_105 hP hS => ?_)
                  subst wr_105
                  refine lv_if_eq (tgt := 92) hx hb dX12_oars_85 (by decide) (fun c_106 => ?_) (fun c_106 => ?_)
                  · refine lv_iconst (v := 0) hx hb dX12_oars_92 (by decide) ?_
                    refine lv_iadd hx hb dX12_oars_93 ?_
                    refine lv_topi (fun x_107 ex_107 => ?_)
                    refine lv_istore_n (lv' := [(3, .int x_107), (2, .int x_93), (4, .int (nI j1)), (0, .ref h), (1, .int (nI tn1))]) hx hb dX12_oars_94 rfl hl (by decide) rfl (fun ls hl => ?_)
                    refine lv_iinc (v := nI (j1 + 1)) (lv' := [(4, .int (nI (j1 + 1))), (3, .int x_107), (2, .int x_93), (0, .ref h), (1, .int (nI tn1))]) hx hb dX12_oars_95 hl (k := 2) rfl (nI_1 j1) (by decide) rfl (fun ls hl => ?_)
                    refine lv_goto (tgt := 28) hx hb dX12_oars_98 (by decide) ?_
                    exact ih28 (j1 + 1) x_93 x_107 H locs ls (by omega) (by omega) (lf_X12_oars_f_108 h q im ms mc m_tholes (nI tn1) hf_ms hf_mc hms hc0 c_1 n_5 c_8 tn1 tn1a tn1b rfl j1 w1 w2 k28 hj28 hk28 hw1 hw2 c_9 n_41 c_47 c_72 x_93 ex_93 c_98 c_106 x_107 ex_107) (lf_X12_oars_f_109 h q im ms mc m_tholes (nI tn1) hf_ms hf_mc hms hc0 c_1 n_5 c_8 tn1 tn1a tn1b rfl j1 w1 w2 k28 hj28 hk28 hw1 hw2 c_9 n_41 c_47 c_72 x_93 ex_93 c_98 c_106 x_107 ex_107) (hP.sub [0, 1] rfl)  hS (lv_sub hl [0, 1, 2, 3, 4] rfl)
                  · refine lv_iconst (v := 1) hx hb dX12_oars_88 (by decide) ?_
                    refine lv_goto (tgt := 93) hx hb dX12_oars_89 (by decide) ?_
                    refine lv_iadd hx hb dX12_oars_93 ?_
                    refine lv_topi (fun x_110 ex_110 => ?_)
                    refine lv_istore_n (lv' := [(3, .int x_110), (2, .int x_93), (4, .int (nI j1)), (0, .ref h), (1, .int (nI tn1))]) hx hb dX12_oars_94 rfl hl (by decide) rfl (fun ls hl => ?_)
                    refine lv_iinc (v := nI (j1 + 1)) (lv' := [(4, .int (nI (j1 + 1))), (3, .int x_110), (2, .int x_93), (0, .ref h), (1, .int (nI tn1))]) hx hb dX12_oars_95 hl (k := 2) rfl (nI_1 j1) (by decide) rfl (fun ls hl => ?_)
                    refine lv_goto (tgt := 28) hx hb dX12_oars_98 (by decide) ?_
                    exact ih28 (j1 + 1) x_93 x_110 H locs ls (by omega) (by omega) (lf_X12_oars_f_111 h q im ms mc m_tholes (nI tn1) hf_ms hf_mc hms hc0 c_1 n_5 c_8 tn1 tn1a tn1b rfl j1 w1 w2 k28 hj28 hk28 hw1 hw2 c_9 n_41 c_47 c_72 x_93 ex_93 c_98 c_106 x_110 ex_110) (lf_X12_oars_f_112 h q im ms mc m_tholes (nI tn1) hf_ms hf_mc hms hc0 c_1 n_5 c_8 tn1 tn1a tn1b rfl j1 w1 w2 k28 hj28 hk28 hw1 hw2 c_9 n_41 c_47 c_72 x_93 ex_93 c_98 c_106 x_110 ex_110) (hP.sub [0, 1] rfl)  hS (lv_sub hl [0, 1, 2, 3, 4] rfl)
      exact lp28 (ms + 1) 0 0 0 H locs ls (by omega) (by omega) (lf_X12_oars_f_113 h q im ms mc m_tholes (nI tn1) hf_ms hf_mc hms hc0 c_1 n_5 c_8 tn1 tn1a tn1b rfl) (lf_X12_oars_f_114 h q im ms mc m_tholes (nI tn1) hf_ms hf_mc hms hc0 c_1 n_5 c_8 tn1 tn1a tn1b rfl) (hP.sub [0, 1] rfl)  hS (lv_sub hl [0, 1, 2, 3, 4] rfl)
    · refine lv_iconst (v := (-1)) hx hb dX12_oars_19 (by decide) ?_
      rw [hQ]
      exact W.iret (v := (-1)) hx hb hr (fun tt9 ht hW => ⟨⟨((-1) : Int32), (), rfl, (lf_X12_oars_f_115 h q im ms mc m_tholes n1 hf_ms hf_mc hms hc0 c_1 n_5 c_8), trivial⟩, hS.F ht⟩) hS.2.2 dX12_oars_20 hlocks

/-! THE TEXTS, 1: the class's small machine, and what a piece of its code does -/
abbrev StM : Type := Nat × (Nat → Int32)
abbrev DnM : Type := (Nat → Int32) → Option Int32
def kdM (x : Int32) : Nat := x.toNatClampNeg % 16
def odM (x : Int32) : Nat := x.toNatClampNeg / 16
def pushM (v : Int32) (q : StM) : StM := if q.1 < 32 then (q.1 + 1, upd q.2 q.1 v) else q
def popV (q : StM) : Int32 := if q.1 = 0 then 0 else q.2 (q.1 - 1)
def popS (q : StM) : StM := if q.1 = 0 then q else (q.1 - 1, q.2)
def opM (k : Nat) (a b : Int32) : Int32 := if k = 3 then a + b else if k = 4 then a - b else if k = 5 then a * b else if k = 8 then (if a < b then 1 else 0) else if k = 9 then (if b < a then 1 else 0) else if k = 10 then (if a = b then 1 else 0) else if k = 6 then a / b else a - a / b * b
abbrev divM (k : Nat) : Prop := ¬ (k = 3 ∨ k = 4 ∨ k = 5 ∨ k = 8 ∨ k = 9 ∨ k = 10)
def stepM (fs lt : Nat → Int32) (j : Nat) (q : StM) : Option (Nat × StM) :=
  if kdM (fs j) = 1 then some (j + 1, pushM (nI (odM (fs j))) q)
  else if kdM (fs j) = 2 then some (j + 1, pushM (if odM (fs j) < 26 then lt (odM (fs j)) else 0) q)
  else if kdM (fs j) = 11 then some (j + 1, pushM (1 - popV q) (popS q))
  else if kdM (fs j) = 12 then (if popV q = 0 then some (odM (fs j), pushM 0 (popS q)) else some (j + 1, popS q))
  else if kdM (fs j) = 13 then (if popV q = 1 then some (odM (fs j), pushM 1 (popS q)) else some (j + 1, popS q))
  else if divM (kdM (fs j)) ∧ popV q = 0 then none
  else some (j + 1, pushM (opM (kdM (fs j)) (popV (popS q)) (popV q)) (popS (popS q)))
def runM (fs lt : Nat → Int32) (un : Nat) : Nat → Nat → StM → Int32
  | 0, _, q => popV q
  | n + 1, j, q => if j < un ∧ ¬ kdM (fs j) = 0 then (stepM fs lt j q).elim 0 (fun z => runM fs lt un n z.1 z.2) else popV q
abbrev sqM (q r : StM) : Prop := q.1 = r.1 ∧ ∀ i, i < q.1 → q.2 i = r.2 i
theorem sq_rf (q : StM) : sqM q q := ⟨rfl, fun _ _ => rfl⟩
theorem sq_pv {q r : StM} (h : sqM q r) : popV q = popV r := by
  unfold popV
  rw [← h.1]
  split
  · rfl
  · exact h.2 _ (by omega)
theorem sq_ps {q r : StM} (h : sqM q r) : sqM (popS q) (popS r) := by
  unfold popS
  rw [← h.1]
  split
  · exact h
  · exact ⟨rfl, fun i hi => h.2 i (by have hi : i < q.1 - 1 := hi; omega)⟩
theorem sq_pu {q r : StM} (v : Int32) (h : sqM q r) : sqM (pushM v q) (pushM v r) := by
  unfold pushM
  rw [← h.1]
  split
  · refine ⟨rfl, fun i hi => ?_⟩
    show (if i = q.1 then v else q.2 i) = (if i = q.1 then v else r.2 i)
    split
    · rfl
    · exact h.2 i (by have hi : i < q.1 + 1 := hi; omega)
  · exact h
def sqO : Option (Nat × StM) → Option (Nat × StM) → Prop
  | none, none => True
  | some a, some b => a.1 = b.1 ∧ sqM a.2 b.2
  | _, _ => False
theorem sq_st {fs lt : Nat → Int32} {j : Nat} {q r : StM} (h : sqM q r) : sqO (stepM fs lt j q) (stepM fs lt j r) := by
  unfold stepM
  rw [← sq_pv h, ← sq_pv (sq_ps h)]
  split
  · exact ⟨rfl, sq_pu _ h⟩
  split
  · exact ⟨rfl, sq_pu _ h⟩
  split
  · exact ⟨rfl, sq_pu _ (sq_ps h)⟩
  split
  · split
    · exact ⟨rfl, sq_pu _ (sq_ps h)⟩
    · exact ⟨rfl, sq_ps h⟩
  split
  · split
    · exact ⟨rfl, sq_pu _ (sq_ps h)⟩
    · exact ⟨rfl, sq_ps h⟩
  split
  · trivial
  · exact ⟨rfl, sq_pu _ (sq_ps (sq_ps h))⟩
theorem sq_ru {fs lt : Nat → Int32} {un : Nat} : ∀ (n j : Nat) {q r : StM}, sqM q r → runM fs lt un n j q = runM fs lt un n j r := by
  intro n
  induction n with
  | zero => intro j q r h; exact sq_pv h
  | succ n ih =>
    intro j q r h
    show (if j < un ∧ ¬ kdM (fs j) = 0 then (stepM fs lt j q).elim 0 (fun z => runM fs lt un n z.1 z.2) else popV q) = (if j < un ∧ ¬ kdM (fs j) = 0 then (stepM fs lt j r).elim 0 (fun z => runM fs lt un n z.1 z.2) else popV r)
    split
    · have hs := sq_st (fs := fs) (lt := lt) (j := j) h
      cases e1 : stepM fs lt j q with
      | none =>
        cases e2 : stepM fs lt j r with
        | none => rfl
        | some b => rw [e1, e2] at hs; exact absurd hs id
      | some a =>
        cases e2 : stepM fs lt j r with
        | none => rw [e1, e2] at hs; exact absurd hs id
        | some b =>
          rw [e1, e2] at hs
          show runM fs lt un n a.1 a.2 = runM fs lt un n b.1 b.2
          rw [hs.1]
          exact ih _ hs.2
    · exact sq_pv h
theorem run_s {fs lt : Nat → Int32} {un n j k : Nat} {q r : StM} (h : j < un) (hk : ¬ kdM (fs j) = 0) (hs : stepM fs lt j q = some (k, r)) : runM fs lt un (n + 1) j q = runM fs lt un n k r := by
  show (if j < un ∧ ¬ kdM (fs j) = 0 then (stepM fs lt j q).elim 0 (fun z => runM fs lt un n z.1 z.2) else popV q) = _
  rw [if_pos ⟨h, hk⟩, hs]
  rfl
theorem run_0 {fs lt : Nat → Int32} {un n j : Nat} {q : StM} (h : j < un) (hk : ¬ kdM (fs j) = 0) (hs : stepM fs lt j q = none) : runM fs lt un (n + 1) j q = 0 := by
  show (if j < un ∧ ¬ kdM (fs j) = 0 then (stepM fs lt j q).elim 0 (fun z => runM fs lt un n z.1 z.2) else popV q) = _
  rw [if_pos ⟨h, hk⟩, hs]
  rfl
abbrev onM (q : StM) (v : Int32) : StM := (q.1 + 1, upd q.2 q.1 v)
theorem push_on {q : StM} {v : Int32} (h : q.1 < 32) : pushM v q = onM q v := if_pos h
theorem pv_on (q : StM) (v : Int32) : popV (onM q v) = v := by
  show (if q.1 + 1 = 0 then (0 : Int32) else (if q.1 + 1 - 1 = q.1 then v else q.2 (q.1 + 1 - 1))) = v
  rw [if_neg (by omega), if_pos (by omega)]
theorem ps_on (q : StM) (v : Int32) : sqM (popS (onM q v)) q := by
  have e : popS (onM q v) = (q.1 + 1 - 1, upd q.2 q.1 v) := if_neg (show ¬ q.1 + 1 = 0 by omega)
  rw [e]
  refine ⟨by show q.1 + 1 - 1 = q.1; omega, fun i hi => ?_⟩
  have hi : i < q.1 + 1 - 1 := hi
  show (if i = q.1 then v else q.2 i) = q.2 i
  rw [if_neg (by omega)]
/-- the code from a to b does d, with m places of the stack -/
def ImC (fs : Nat → Int32) (a b m : Nat) (d : DnM) : Prop := a ≤ b ∧ ∀ (gs lt : Nat → Int32) (un n : Nat) (q : StM), (∀ j, a ≤ j → j < b → gs j = fs j) → b ≤ un → q.1 + m ≤ 32 →
  (∀ v, d lt = some v → ∃ k, n ≤ k ∧ runM gs lt un (n + (b - a)) a q = runM gs lt un k b (onM q v)) ∧ (d lt = none → runM gs lt un (n + (b - a)) a q = 0)
def dNum (x : Int32) : DnM := fun _ => some x
def dLet (i : Nat) : DnM := fun lt => some (lt i)
def dBin (k : Nat) (d e : DnM) : DnM := fun lt => (d lt).bind (fun a => (e lt).bind (fun b => if divM k ∧ b = 0 then none else some (opM k a b)))
def dNot (d : DnM) : DnM := fun lt => (d lt).bind (fun v => some (1 - v))
def dAnd (d e : DnM) : DnM := fun lt => (d lt).bind (fun v => if v = 0 then some 0 else e lt)
def dOr (d e : DnM) : DnM := fun lt => (d lt).bind (fun v => if v = 1 then some 1 else e lt)
abbrev d01 (d : DnM) : Prop := ∀ lt v, d lt = some v → v = 0 ∨ v = 1
theorem ImC_num {fs : Nat → Int32} {a x : Nat} (h1 : kdM (fs a) = 1) (h2 : odM (fs a) = x) : ImC fs a (a + 1) 1 (dNum (nI x)) := by
  refine ⟨by omega, fun gs lt un n q hg hu hq => ⟨fun v hv => ⟨n, Nat.le_refl _, ?_⟩, fun h => absurd h (by simp [dNum])⟩⟩
  have eg : gs a = fs a := hg a (by omega) (by omega)
  have hv : nI x = v := by simpa [dNum] using hv
  rw [show n + (a + 1 - a) = n + 1 by omega]
  refine run_s (by omega) (by rw [eg, h1]; decide) ?_
  unfold stepM
  rw [eg, if_pos h1, h2, hv, push_on (by omega)]
theorem ImC_let {fs : Nat → Int32} {a x : Nat} (h1 : kdM (fs a) = 2) (h2 : odM (fs a) = x) (hx : x < 26) : ImC fs a (a + 1) 1 (dLet x) := by
  refine ⟨by omega, fun gs lt un n q hg hu hq => ⟨fun v hv => ⟨n, Nat.le_refl _, ?_⟩, fun h => absurd h (by simp [dLet])⟩⟩
  have eg : gs a = fs a := hg a (by omega) (by omega)
  have hv : lt x = v := by simpa [dLet] using hv
  rw [show n + (a + 1 - a) = n + 1 by omega]
  refine run_s (by omega) (by rw [eg, h1]; decide) ?_
  unfold stepM
  rw [eg, if_neg (by rw [h1]; decide), if_pos h1, h2, if_pos hx, hv, push_on (by omega)]
theorem ImC_le {fs : Nat → Int32} {a b m m' : Nat} {d : DnM} (h : ImC fs a b m d) (hm : m ≤ m') : ImC fs a b m' d := ⟨h.1, fun gs lt un n q hg hu hq => h.2 gs lt un n q hg hu (by omega)⟩
theorem ImC_fs {fs gs : Nat → Int32} {a b m : Nat} {d : DnM} (h : ImC fs a b m d) (e : ∀ j, a ≤ j → j < b → gs j = fs j) : ImC gs a b m d := ⟨h.1, fun hs lt un n q hg hu hq => h.2 hs lt un n q (fun j h1 h2 => (hg j h1 h2).trans (e j h1 h2)) hu hq⟩
abbrev arM (k : Nat) : Prop := k = 3 ∨ k = 4 ∨ k = 5 ∨ k = 6 ∨ k = 7 ∨ k = 8 ∨ k = 9 ∨ k = 10
theorem step_ar {fs lt : Nat → Int32} {j k : Nat} {q : StM} (hk : kdM (fs j) = k) (ha : arM k) : stepM fs lt j q = if divM k ∧ popV q = 0 then none else some (j + 1, pushM (opM k (popV (popS q)) (popV q)) (popS (popS q))) := by
  unfold stepM
  rw [hk, if_neg (by omega), if_neg (by omega), if_neg (by omega), if_neg (by omega), if_neg (by omega)]
theorem ImC_bin {fs : Nat → Int32} {a b c k m1 m2 : Nat} {d e : DnM} (h1 : ImC fs a b m1 d) (h2 : ImC fs b c m2 e) (hk : kdM (fs c) = k) (ha : arM k) (hm1 : 1 ≤ m1) (hm2 : 1 ≤ m2) : ImC fs a (c + 1) (max m1 (m2 + 1)) (dBin k d e) := by
  have l1 := h1.1
  have l2 := h2.1
  refine ⟨by omega, fun gs lt un n q hg hu hq => ?_⟩
  have eg : gs c = fs c := hg c (by omega) (by omega)
  have kc : kdM (gs c) = k := by rw [eg]; exact hk
  have k0 : ¬ kdM (gs c) = 0 := by rw [kc]; omega
  obtain ⟨p1, p2⟩ := h1.2 gs lt un (n + 1 + (c - b)) q (fun j x y => hg j x (by omega)) (by omega) (by omega)
  rw [show n + (c + 1 - a) = n + 1 + (c - b) + (b - a) by omega]
  cases ed : d lt with
  | none =>
    refine ⟨fun v hv => ?_, fun _ => p2 ed⟩
    have hv : (d lt).bind (fun a => (e lt).bind (fun b => if divM k ∧ b = 0 then none else some (opM k a b))) = some v := hv
    rw [ed] at hv
    exact absurd hv (by simp)
  | some x =>
    obtain ⟨n1, hn1, e1⟩ := p1 x ed
    obtain ⟨r1, r2⟩ := h2.2 gs lt un (n1 - (c - b)) (onM q x) (fun j u v => hg j (by omega) (by omega)) (by omega) (by show q.1 + 1 + m2 ≤ 32; omega)
    rw [e1, show n1 = n1 - (c - b) + (c - b) by omega]
    cases ee : e lt with
    | none =>
      refine ⟨fun v hv => ?_, fun _ => r2 ee⟩
      have hv : (d lt).bind (fun a => (e lt).bind (fun b => if divM k ∧ b = 0 then none else some (opM k a b))) = some v := hv
      rw [ed, ee] at hv
      exact absurd hv (by simp)
    | some y =>
      obtain ⟨n2, hn2, e2⟩ := r1 y ee
      rw [e2, show n2 = n2 - 1 + 1 by omega]
      have ev : dBin k d e lt = if divM k ∧ y = 0 then none else some (opM k x y) := by
        show (d lt).bind (fun a => (e lt).bind (fun b => if divM k ∧ b = 0 then none else some (opM k a b))) = _
        rw [ed, ee]
        rfl
      have es := step_ar (fs := gs) (lt := lt) (q := onM (onM q x) y) kc ha
      have pv1 : popV (popS (onM (onM q x) y)) = x := (sq_pv (ps_on (onM q x) y)).trans (pv_on q x)
      rw [pv_on, pv1] at es
      have sp : sqM (popS (popS (onM (onM q x) y))) q := by
        have s1 := sq_ps (ps_on (onM q x) y)
        have s2 := ps_on q x
        exact ⟨s1.1.trans s2.1, fun i hi => (s1.2 i hi).trans (s2.2 i (by rw [← s1.1]; exact hi))⟩
      rw [ev]
      by_cases c0 : divM k ∧ y = 0
      · rw [if_pos c0] at es ⊢
        exact ⟨fun v hv => absurd hv (by simp), fun _ => run_0 (by omega) k0 es⟩
      · rw [if_neg c0] at es ⊢
        refine ⟨fun v hv => ⟨n2 - 1, by omega, ?_⟩, fun h => absurd h (by simp)⟩
        have hv : opM k x y = v := by simpa using hv
        rw [run_s (by omega) k0 es, hv]
        have s3 := sq_pu v sp
        rw [push_on (by omega : q.1 < 32)] at s3
        exact sq_ru _ _ s3
theorem ImC_not {fs : Nat → Int32} {a b m : Nat} {d : DnM} (h1 : ImC fs a b m d) (hk : kdM (fs b) = 11) (hm : 1 ≤ m) : ImC fs a (b + 1) m (dNot d) := by
  have l1 := h1.1
  refine ⟨by omega, fun gs lt un n q hg hu hq => ?_⟩
  have eg : gs b = fs b := hg b (by omega) (by omega)
  have kc : kdM (gs b) = 11 := by rw [eg]; exact hk
  obtain ⟨p1, p2⟩ := h1.2 gs lt un (n + 1) q (fun j x y => hg j x (by omega)) (by omega) (by omega)
  rw [show n + (b + 1 - a) = n + 1 + (b - a) by omega]
  have ev : dNot d lt = (d lt).bind (fun v => some (1 - v)) := rfl
  rw [ev]
  cases ed : d lt with
  | none => exact ⟨fun v hv => absurd hv (by simp), fun _ => p2 ed⟩
  | some x =>
    obtain ⟨n1, hn1, e1⟩ := p1 x ed
    refine ⟨fun v hv => ⟨n1 - 1, by omega, ?_⟩, fun h => absurd h (by simp)⟩
    have hv : 1 - x = v := by simpa using hv
    rw [e1, show n1 = n1 - 1 + 1 by omega]
    have es : stepM gs lt b (onM q x) = some (b + 1, pushM (1 - popV (onM q x)) (popS (onM q x))) := by
      unfold stepM
      rw [kc]
      rfl
    rw [pv_on] at es
    rw [run_s (by omega) (by rw [kc]; decide) es, hv]
    have s3 := sq_pu v (ps_on q x)
    rw [push_on (by omega : q.1 < 32)] at s3
    rw [show n1 - 1 + 1 - 1 = n1 - 1 by omega]
    exact sq_ru _ _ s3
theorem ImC_and {fs : Nat → Int32} {a b c m : Nat} {d e : DnM} (h1 : ImC fs a b m d) (h2 : ImC fs (b + 1) c m e) (hk : kdM (fs b) = 12) (ho : odM (fs b) = c) (hd : d01 d) (hm : 1 ≤ m) : ImC fs a c m (dAnd d e) := by
  have l1 := h1.1
  have l2 := h2.1
  refine ⟨by omega, fun gs lt un n q hg hu hq => ?_⟩
  have eg : gs b = fs b := hg b (by omega) (by omega)
  have kc : kdM (gs b) = 12 := by rw [eg]; exact hk
  have oc : odM (gs b) = c := by rw [eg]; exact ho
  obtain ⟨p1, p2⟩ := h1.2 gs lt un (n + 1 + (c - (b + 1))) q (fun j x y => hg j x (by omega)) (by omega) (by omega)
  rw [show n + (c - a) = n + 1 + (c - (b + 1)) + (b - a) by omega]
  have ev : dAnd d e lt = (d lt).bind (fun v => if v = 0 then some 0 else e lt) := rfl
  rw [ev]
  cases ed : d lt with
  | none => exact ⟨fun v hv => absurd hv (by simp), fun _ => p2 ed⟩
  | some x =>
    obtain ⟨n1, hn1, e1⟩ := p1 x ed
    have es : stepM gs lt b (onM q x) = (if x = 0 then some (c, pushM 0 (popS (onM q x))) else some (b + 1, popS (onM q x))) := by
      unfold stepM
      rw [kc, pv_on, oc]
      rfl
    rw [e1, show n1 = n1 - 1 + 1 by omega]
    show (∀ v, (if x = 0 then some 0 else e lt) = some v → _) ∧ ((if x = 0 then some 0 else e lt) = none → _)
    by_cases c0 : x = 0
    · rw [if_pos c0] at es ⊢
      refine ⟨fun v hv => ⟨n1 - 1, by omega, ?_⟩, fun h => absurd h (by simp)⟩
      have hv : (0 : Int32) = v := by simpa using hv
      rw [run_s (by omega) (by rw [kc]; decide) es, ← hv]
      have s3 := sq_pu 0 (ps_on q x)
      rw [push_on (by omega : q.1 < 32)] at s3
      exact sq_ru _ _ s3
    · rw [if_neg c0] at es ⊢
      obtain ⟨r1, r2⟩ := h2.2 gs lt un (n1 - 1 - (c - (b + 1))) q (fun j u v => hg j (by omega) (by omega)) hu (by omega)
      rw [run_s (by omega) (by rw [kc]; decide) es, sq_ru _ _ (ps_on q x), show n1 - 1 = n1 - 1 - (c - (b + 1)) + (c - (b + 1)) by omega]
      refine ⟨fun v hv => ?_, fun h => r2 h⟩
      obtain ⟨n2, hn2, e2⟩ := r1 v hv
      exact ⟨n2, by omega, e2⟩
theorem ImC_or {fs : Nat → Int32} {a b c m : Nat} {d e : DnM} (h1 : ImC fs a b m d) (h2 : ImC fs (b + 1) c m e) (hk : kdM (fs b) = 13) (ho : odM (fs b) = c) (hd : d01 d) (hm : 1 ≤ m) : ImC fs a c m (dOr d e) := by
  have l1 := h1.1
  have l2 := h2.1
  refine ⟨by omega, fun gs lt un n q hg hu hq => ?_⟩
  have eg : gs b = fs b := hg b (by omega) (by omega)
  have kc : kdM (gs b) = 13 := by rw [eg]; exact hk
  have oc : odM (gs b) = c := by rw [eg]; exact ho
  obtain ⟨p1, p2⟩ := h1.2 gs lt un (n + 1 + (c - (b + 1))) q (fun j x y => hg j x (by omega)) (by omega) (by omega)
  rw [show n + (c - a) = n + 1 + (c - (b + 1)) + (b - a) by omega]
  have ev : dOr d e lt = (d lt).bind (fun v => if v = 1 then some 1 else e lt) := rfl
  rw [ev]
  cases ed : d lt with
  | none => exact ⟨fun v hv => absurd hv (by simp), fun _ => p2 ed⟩
  | some x =>
    obtain ⟨n1, hn1, e1⟩ := p1 x ed
    have es : stepM gs lt b (onM q x) = (if x = 1 then some (c, pushM 1 (popS (onM q x))) else some (b + 1, popS (onM q x))) := by
      unfold stepM
      rw [kc, pv_on, oc]
      rfl
    rw [e1, show n1 = n1 - 1 + 1 by omega]
    show (∀ v, (if x = 1 then some 1 else e lt) = some v → _) ∧ ((if x = 1 then some 1 else e lt) = none → _)
    by_cases c0 : x = 1
    · rw [if_pos c0] at es ⊢
      refine ⟨fun v hv => ⟨n1 - 1, by omega, ?_⟩, fun h => absurd h (by simp)⟩
      have hv : (1 : Int32) = v := by simpa using hv
      rw [run_s (by omega) (by rw [kc]; decide) es, ← hv]
      have s3 := sq_pu 1 (ps_on q x)
      rw [push_on (by omega : q.1 < 32)] at s3
      exact sq_ru _ _ s3
    · rw [if_neg c0] at es ⊢
      obtain ⟨r1, r2⟩ := h2.2 gs lt un (n1 - 1 - (c - (b + 1))) q (fun j u v => hg j (by omega) (by omega)) hu (by omega)
      rw [run_s (by omega) (by rw [kc]; decide) es, sq_ru _ _ (ps_on q x), show n1 - 1 = n1 - 1 - (c - (b + 1)) + (c - (b + 1)) by omega]
      refine ⟨fun v hv => ?_, fun h => r2 h⟩
      obtain ⟨n2, hn2, e2⟩ := r1 v hv
      exact ⟨n2, by omega, e2⟩
/-- a whole piece of code, with its end behind it: what the machine answers -/
theorem ImC_run {fs lt : Nat → Int32} {a b m un : Nat} {d : DnM} {q : StM} (h : ImC fs a b m d) (hb : b < un) (he : kdM (fs b) = 0) (hl : b - a ≤ 200) (hm : m ≤ 32) (hq : q.1 = 0) : runM fs lt un 200 a q = (d lt).getD 0 := by
  obtain ⟨p1, p2⟩ := h.2 fs lt un (200 - (b - a)) q (fun _ _ _ => rfl) (by omega) (by omega)
  rw [show 200 = 200 - (b - a) + (b - a) by omega]
  cases ed : d lt with
  | none => exact p2 ed
  | some v =>
    obtain ⟨k, hk, e⟩ := p1 v ed
    rw [e]
    have pv := pv_on q v
    cases k with
    | zero => exact pv
    | succ k =>
      show (if b < un ∧ ¬ kdM (fs b) = 0 then (stepM fs lt b (onM q v)).elim 0 (fun z => runM fs lt un k z.1 z.2) else popV (onM q v)) = v
      rw [if_neg (fun w => w.2 he)]
      exact pv
/-! THE TEXTS, 2: the reference's working, and what a piece of its code does -/
abbrev SwR : Type := Nat × (Nat → Int32) × (Nat → Int32)
def wkd (c a b : Int32) : Int32 := if c = 43 then a + b else if c = 45 then a - b else if c = 42 then a * b else if c = 47 then (if b = 0 then 0 else a / b) else if c = 37 then (if b = 0 then 0 else a - a / b * b) else if c = 60 then (if a < b then 1 else 0) else if c = 62 then (if b < a then 1 else 0) else (if a = b then 1 else 0)
def doR (c : Int32) (j : Nat) (w r : Nat → Int32) : (Nat → Int32) × (Nat → Int32) :=
  if c = 38 ∨ c = 124 then (if ¬ r j = 0 ∨ ¬ w j = (if c = 38 then 1 else 0) then (w, r) else (upd w j (w (j + 1)), upd r j (vp_nar .boolean (r (j + 1)))))
  else (upd w j (wkd c (w j) (w (j + 1))), upd r j (if ¬ r j = 0 ∨ ¬ r (j + 1) = 0 ∨ ((c = 47 ∨ c = 37) ∧ w (j + 1) = 0) then 1 else 0))
def wkS (cd ca : Nat → Int32) (vf : Int32 → Int32) (i : Nat) (s : SwR) : SwR :=
  if 2 < cd i then (s.1 - 1, (doR (cd i) (s.1 - 2) s.2.1 s.2.2).1, (doR (cd i) (s.1 - 2) s.2.1 s.2.2).2)
  else if cd i = 2 then (s.1, upd s.2.1 (s.1 - 1) (1 - s.2.1 (s.1 - 1)), s.2.2)
  else (s.1 + 1, upd s.2.1 s.1 (if cd i = 0 then ca i else vf (ca i)), upd s.2.2 s.1 0)
def wkR (cd ca : Nat → Int32) (vf : Int32 → Int32) : Nat → Nat → SwR → SwR
  | 0, _, s => s
  | k + 1, i, s => wkR cd ca vf k (i + 1) (wkS cd ca vf i s)
theorem wkR_add (cd ca : Nat → Int32) (vf : Int32 → Int32) : ∀ (x y i : Nat) (s : SwR), wkR cd ca vf (x + y) i s = wkR cd ca vf y (i + x) (wkR cd ca vf x i s) := by
  intro x
  induction x with
  | zero => intro y i s; rw [Nat.zero_add]; rfl
  | succ x ih =>
    intro y i s
    rw [show x + 1 + y = (x + y) + 1 by omega]
    show wkR cd ca vf (x + y) (i + 1) (wkS cd ca vf i s) = wkR cd ca vf y (i + (x + 1)) (wkR cd ca vf x (i + 1) (wkS cd ca vf i s))
    rw [ih, show i + 1 + x = i + (x + 1) by omega]
abbrev bel (n : Nat) (s t : SwR) : Prop := ∀ j, j < n → t.2.1 j = s.2.1 j ∧ t.2.2 j = s.2.2 j
/-- on top of s stands what d tells -/
abbrev topR (o : Option Int32) (s t : SwR) : Prop := t.1 = s.1 + 1 ∧ bel s.1 s t ∧ (∀ v, o = some v → t.2.1 s.1 = v ∧ t.2.2 s.1 = 0) ∧ (o = none → t.2.2 s.1 = 1)
def ImR (cd ca : Nat → Int32) (a b : Nat) (d : DnM) : Prop := a ≤ b ∧ ∀ (ce cb : Nat → Int32) (vf : Int32 → Int32) (lt : Nat → Int32) (s : SwR), (∀ j, a ≤ j → j < b → ce j = cd j ∧ cb j = ca j) → (∀ i, i < 26 → vf (nI (97 + i)) = lt i) → topR (d lt) s (wkR ce cb vf (b - a) a s)
theorem ImR_fs {cd ca ce cb : Nat → Int32} {a b : Nat} {d : DnM} (h : ImR cd ca a b d) (e : ∀ j, a ≤ j → j < b → ce j = cd j ∧ cb j = ca j) : ImR ce cb a b d := ⟨h.1, fun xe xb vf lt s hg hv => h.2 xe xb vf lt s (fun j h1 h2 => ⟨(hg j h1 h2).1.trans (e j h1 h2).1, (hg j h1 h2).2.trans (e j h1 h2).2⟩) hv⟩
theorem upd_a {f : Nat → Int32} {k : Nat} {x : Int32} : upd f k x k = x := if_pos rfl
theorem upd_o {f : Nat → Int32} {k j : Nat} {x : Int32} (h : ¬ j = k) : upd f k x j = f j := if_neg h
theorem ImR_num {cd ca : Nat → Int32} {a : Nat} {x : Int32} (h : cd a = 0) (e : ca a = x) : ImR cd ca a (a + 1) (dNum x) := by
  refine ⟨by omega, fun ce cb vf lt s hg hv => ?_⟩
  obtain ⟨g1, g2⟩ := hg a (by omega) (by omega)
  rw [show a + 1 - a = 1 by omega]
  have es : wkR ce cb vf 1 a s = (s.1 + 1, upd s.2.1 s.1 x, upd s.2.2 s.1 0) := by
    show wkS ce cb vf a s = _
    unfold wkS
    rw [g1, g2, h, e]
    rfl
  rw [es]
  refine ⟨rfl, fun j hj => ⟨upd_o (by omega), upd_o (by omega)⟩, fun v hv => ?_, fun h => absurd h (by simp [dNum])⟩
  have hv : x = v := by simpa [dNum] using hv
  exact ⟨upd_a.trans hv, upd_a⟩
theorem ImR_let {cd ca : Nat → Int32} {a i : Nat} (h : cd a = 1) (e : ca a = nI (97 + i)) (hi : i < 26) : ImR cd ca a (a + 1) (dLet i) := by
  refine ⟨by omega, fun ce cb vf lt s hg hv => ?_⟩
  obtain ⟨g1, g2⟩ := hg a (by omega) (by omega)
  rw [show a + 1 - a = 1 by omega]
  have es : wkR ce cb vf 1 a s = (s.1 + 1, upd s.2.1 s.1 (vf (nI (97 + i))), upd s.2.2 s.1 0) := by
    show wkS ce cb vf a s = _
    unfold wkS
    rw [g1, g2, h, e]
    rfl
  rw [es]
  refine ⟨rfl, fun j hj => ⟨upd_o (by omega), upd_o (by omega)⟩, fun v hw => ?_, fun h => absurd h (by simp [dLet])⟩
  have hw : lt i = v := by simpa [dLet] using hw
  exact ⟨upd_a.trans ((hv i hi).trans hw), upd_a⟩
/-- the class's kinds and the reference's signs -/
abbrev kcR (k : Nat) (c : Int32) : Prop := (k = 3 ∧ c = 43) ∨ (k = 4 ∧ c = 45) ∨ (k = 5 ∧ c = 42) ∨ (k = 6 ∧ c = 47) ∨ (k = 7 ∧ c = 37) ∨ (k = 8 ∧ c = 60) ∨ (k = 9 ∧ c = 62) ∨ (k = 10 ∧ c = 61)
theorem kc_2 {k : Nat} {c : Int32} (h : kcR k c) : 2 < c ∧ ¬ (c = 38 ∨ c = 124) := by
  rcases h with ⟨-, rfl⟩ | ⟨-, rfl⟩ | ⟨-, rfl⟩ | ⟨-, rfl⟩ | ⟨-, rfl⟩ | ⟨-, rfl⟩ | ⟨-, rfl⟩ | ⟨-, rfl⟩ <;> decide
theorem kc_d {k : Nat} {c : Int32} (h : kcR k c) : divM k ↔ (c = 47 ∨ c = 37) := by
  rcases h with ⟨rfl, rfl⟩ | ⟨rfl, rfl⟩ | ⟨rfl, rfl⟩ | ⟨rfl, rfl⟩ | ⟨rfl, rfl⟩ | ⟨rfl, rfl⟩ | ⟨rfl, rfl⟩ | ⟨rfl, rfl⟩ <;> decide
theorem kc_o {k : Nat} {c a b : Int32} (h : kcR k c) (hb : ¬ (divM k ∧ b = 0)) : wkd c a b = opM k a b := by
  rcases h with ⟨rfl, rfl⟩ | ⟨rfl, rfl⟩ | ⟨rfl, rfl⟩ | ⟨rfl, rfl⟩ | ⟨rfl, rfl⟩ | ⟨rfl, rfl⟩ | ⟨rfl, rfl⟩ | ⟨rfl, rfl⟩
  · rfl
  · rfl
  · rfl
  · have q : ¬ b = 0 := fun e => hb ⟨by decide, e⟩
    show (if b = 0 then (0 : Int32) else a / b) = a / b
    rw [if_neg q]
  · have q : ¬ b = 0 := fun e => hb ⟨by decide, e⟩
    show (if b = 0 then (0 : Int32) else a - a / b * b) = a - a / b * b
    rw [if_neg q]
  · rfl
  · rfl
  · rfl
theorem ImR_bin {cd ca : Nat → Int32} {a b c k : Nat} {d e : DnM} (h1 : ImR cd ca a b d) (h2 : ImR cd ca b c e) (hk : kcR k (cd c)) : ImR cd ca a (c + 1) (dBin k d e) := by
  have l1 := h1.1
  have l2 := h2.1
  refine ⟨by omega, fun ce cb vf lt s hg hv => ?_⟩
  have t1 := h1.2 ce cb vf lt s (fun j x y => hg j x (by omega)) hv
  rw [show c + 1 - a = (b - a) + ((c - b) + 1) by omega, wkR_add, wkR_add, show a + (b - a) = b by omega, show b + (c - b) = c by omega]
  generalize wkR ce cb vf (b - a) a s = s1 at t1 ⊢
  have t2 := h2.2 ce cb vf lt s1 (fun j x y => hg j (by omega) (by omega)) hv
  generalize wkR ce cb vf (c - b) b s1 = s2 at t2 ⊢
  obtain ⟨a1, a2, a3, a4⟩ := t1
  obtain ⟨b1, b2, b3, b4⟩ := t2
  have n2 : s2.1 = s.1 + 2 := by omega
  have eg : ce c = cd c := (hg c (by omega) (by omega)).1
  have hk : kcR k (ce c) := by rw [eg]; exact hk
  have es : wkR ce cb vf 1 c s2 = (s2.1 - 1, upd s2.2.1 s.1 (wkd (ce c) (s2.2.1 s.1) (s2.2.1 (s.1 + 1))), upd s2.2.2 s.1 (if ¬ s2.2.2 s.1 = 0 ∨ ¬ s2.2.2 (s.1 + 1) = 0 ∨ ((ce c = 47 ∨ ce c = 37) ∧ s2.2.1 (s.1 + 1) = 0) then 1 else 0)) := by
    show wkS ce cb vf c s2 = _
    unfold wkS
    rw [if_pos (kc_2 hk).1]
    unfold doR
    rw [if_neg (kc_2 hk).2, n2, show s.1 + 2 - 2 = s.1 by omega]
  rw [es]
  have c1 := b2 s.1 (by omega)
  rw [a1] at b3 b4
  refine ⟨by show s2.1 - 1 = s.1 + 1; omega, fun j hj => ?_, fun v hw => ?_, fun hw => ?_⟩
  · have q1 := b2 j (by omega)
    have q2 := a2 j hj
    exact ⟨(upd_o (by omega)).trans (q1.1.trans q2.1), (upd_o (by omega)).trans (q1.2.trans q2.2)⟩
  · have hw : (d lt).bind (fun a => (e lt).bind (fun b => if divM k ∧ b = 0 then none else some (opM k a b))) = some v := hw
    cases ed : d lt with
    | none => rw [ed] at hw; exact absurd hw (by simp)
    | some x =>
      cases ee : e lt with
      | none => rw [ed, ee] at hw; exact absurd hw (by simp)
      | some y =>
        rw [ed, ee] at hw
        have hw : (if divM k ∧ y = 0 then none else some (opM k x y)) = some v := hw
        obtain ⟨x1, x2⟩ := a3 x ed
        obtain ⟨y1, y2⟩ := b3 y ee
        by_cases c0 : divM k ∧ y = 0
        · rw [if_pos c0] at hw
          exact absurd hw (by simp)
        · rw [if_neg c0] at hw
          have hw : opM k x y = v := by simpa using hw
          have w1 : s2.2.1 s.1 = x := c1.1.trans x1
          have w2 : s2.2.2 s.1 = 0 := c1.2.trans x2
          refine ⟨upd_a.trans ?_, upd_a.trans ?_⟩
          · rw [w1, y1, kc_o hk c0, hw]
          · rw [w2, y2, y1]
            exact if_neg (fun w => w.elim (fun w => w rfl) (fun w => w.elim (fun w => w rfl) (fun w => c0 ⟨(kc_d hk).mpr w.1, w.2⟩)))
  · have hw : (d lt).bind (fun a => (e lt).bind (fun b => if divM k ∧ b = 0 then none else some (opM k a b))) = none := hw
    have one : ¬ (1 : Int32) = 0 := by decide
    show upd s2.2.2 s.1 (if ¬ s2.2.2 s.1 = 0 ∨ ¬ s2.2.2 (s.1 + 1) = 0 ∨ ((ce c = 47 ∨ ce c = 37) ∧ s2.2.1 (s.1 + 1) = 0) then 1 else 0) s.1 = 1
    rw [upd_a]
    cases ed : d lt with
    | none => rw [if_pos (Or.inl (by rw [c1.2, a4 ed]; exact one))]
    | some x =>
      cases ee : e lt with
      | none => rw [if_pos (Or.inr (Or.inl (by rw [b4 ee]; exact one)))]
      | some y =>
        rw [ed, ee] at hw
        have hw : (if divM k ∧ y = 0 then none else some (opM k x y)) = none := hw
        obtain ⟨y1, y2⟩ := b3 y ee
        by_cases c0 : divM k ∧ y = 0
        · rw [if_pos (Or.inr (Or.inr ⟨(kc_d hk).mp c0.1, y1.trans c0.2⟩))]
        · rw [if_neg c0] at hw
          exact absurd hw (by simp)
theorem ImR_not {cd ca : Nat → Int32} {a b : Nat} {d : DnM} (h1 : ImR cd ca a b d) (hk : cd b = 2) : ImR cd ca a (b + 1) (dNot d) := by
  have l1 := h1.1
  refine ⟨by omega, fun ce cb vf lt s hg hv => ?_⟩
  have t1 := h1.2 ce cb vf lt s (fun j x y => hg j x (by omega)) hv
  rw [show b + 1 - a = (b - a) + 1 by omega, wkR_add, show a + (b - a) = b by omega]
  generalize wkR ce cb vf (b - a) a s = s1 at t1 ⊢
  obtain ⟨a1, a2, a3, a4⟩ := t1
  have eg : ce b = 2 := (hg b (by omega) (by omega)).1.trans hk
  have es : wkR ce cb vf 1 b s1 = (s1.1, upd s1.2.1 s.1 (1 - s1.2.1 s.1), s1.2.2) := by
    show wkS ce cb vf b s1 = _
    unfold wkS
    rw [eg, if_neg (by decide), if_pos rfl, a1, Nat.add_sub_cancel]
  rw [es]
  refine ⟨a1, fun j hj => ⟨(upd_o (by omega)).trans (a2 j hj).1, (a2 j hj).2⟩, fun v hw => ?_, fun hw => ?_⟩
  · have hw : (d lt).bind (fun v => some (1 - v)) = some v := hw
    cases ed : d lt with
    | none => rw [ed] at hw; exact absurd hw (by simp)
    | some x =>
      rw [ed] at hw
      have hw : 1 - x = v := by simpa using hw
      obtain ⟨x1, x2⟩ := a3 x ed
      exact ⟨upd_a.trans (by rw [x1, hw]), x2⟩
  · have hw : (d lt).bind (fun v => some (1 - v)) = none := hw
    cases ed : d lt with
    | none => exact a4 ed
    | some x => rw [ed] at hw; exact absurd hw (by simp)
theorem ImR_andor {cd ca : Nat → Int32} {a b c : Nat} {d e f : DnM} {t : Int32} (h1 : ImR cd ca a b d) (h2 : ImR cd ca b c e) (hc : (cd c = 38 ∧ t = 1) ∨ (cd c = 124 ∧ t = 0)) (hf : ∀ lt, f lt = (d lt).bind (fun v => if v = t then e lt else some v)) : ImR cd ca a (c + 1) f := by
  have l1 := h1.1
  have l2 := h2.1
  refine ⟨by omega, fun ce cb vf lt s hg hv => ?_⟩
  have t1 := h1.2 ce cb vf lt s (fun j x y => hg j x (by omega)) hv
  rw [show c + 1 - a = (b - a) + ((c - b) + 1) by omega, wkR_add, wkR_add, show a + (b - a) = b by omega, show b + (c - b) = c by omega]
  generalize wkR ce cb vf (b - a) a s = s1 at t1 ⊢
  have t2 := h2.2 ce cb vf lt s1 (fun j x y => hg j (by omega) (by omega)) hv
  generalize wkR ce cb vf (c - b) b s1 = s2 at t2 ⊢
  obtain ⟨a1, a2, a3, a4⟩ := t1
  obtain ⟨b1, b2, b3, b4⟩ := t2
  have n2 : s2.1 = s.1 + 2 := by omega
  have eg : ce c = cd c := (hg c (by omega) (by omega)).1
  have et : (if ce c = 38 then (1 : Int32) else 0) = t := by
    rw [eg]
    rcases hc with ⟨e1, e2⟩ | ⟨e1, e2⟩
    · rw [e1, e2]; rfl
    · rw [e1, e2]; rfl
  have e2c : 2 < ce c ∧ (ce c = 38 ∨ ce c = 124) := by
    rw [eg]
    rcases hc with ⟨e1, -⟩ | ⟨e1, -⟩ <;> rw [e1] <;> decide
  have es : wkR ce cb vf 1 c s2 = (s2.1 - 1, (if ¬ s2.2.2 s.1 = 0 ∨ ¬ s2.2.1 s.1 = t then (s2.2.1, s2.2.2) else (upd s2.2.1 s.1 (s2.2.1 (s.1 + 1)), upd s2.2.2 s.1 (vp_nar .boolean (s2.2.2 (s.1 + 1)))))) := by
    show wkS ce cb vf c s2 = _
    unfold wkS
    rw [if_pos e2c.1]
    unfold doR
    rw [if_pos e2c.2, n2, show s.1 + 2 - 2 = s.1 by omega, et]
  rw [es, hf]
  have c1 := b2 s.1 (by omega)
  rw [a1] at b3 b4
  cases ed : d lt with
  | none =>
    have q : ¬ s2.2.2 s.1 = 0 := by rw [c1.2, a4 ed]; decide
    rw [if_pos (Or.inl q)]
    refine ⟨by show s2.1 - 1 = s.1 + 1; omega, fun j hj => ⟨(b2 j (by omega)).1.trans (a2 j hj).1, (b2 j (by omega)).2.trans (a2 j hj).2⟩, fun v hw => absurd hw (by simp), fun _ => c1.2.trans (a4 ed)⟩
  | some x =>
    obtain ⟨x1, x2⟩ := a3 x ed
    have w1 : s2.2.1 s.1 = x := c1.1.trans x1
    have w2 : s2.2.2 s.1 = 0 := c1.2.trans x2
    show topR (if x = t then e lt else some x) s _
    by_cases c0 : x = t
    · rw [if_pos c0, if_neg (fun w => w.elim (fun w => w w2) (fun w => w (w1.trans c0)))]
      refine ⟨by show s2.1 - 1 = s.1 + 1; omega, fun j hj => ?_, fun v hw => ?_, fun hw => ?_⟩
      · exact ⟨(upd_o (by omega)).trans ((b2 j (by omega)).1.trans (a2 j hj).1), (upd_o (by omega)).trans ((b2 j (by omega)).2.trans (a2 j hj).2)⟩
      · obtain ⟨y1, y2⟩ := b3 v hw
        exact ⟨upd_a.trans y1, upd_a.trans (by rw [y2]; rfl)⟩
      · show upd s2.2.2 s.1 (vp_nar .boolean (s2.2.2 (s.1 + 1))) s.1 = 1
        rw [upd_a, b4 hw]
        rfl
    · rw [if_neg c0, if_pos (Or.inr (by rw [w1]; exact c0))]
      refine ⟨by show s2.1 - 1 = s.1 + 1; omega, fun j hj => ⟨(b2 j (by omega)).1.trans (a2 j hj).1, (b2 j (by omega)).2.trans (a2 j hj).2⟩, fun v hw => ?_, fun hw => absurd hw (by simp)⟩
      have hw : x = v := by simpa using hw
      exact ⟨w1.trans hw, w2⟩
theorem ImR_and {cd ca : Nat → Int32} {a b c : Nat} {d e : DnM} (h1 : ImR cd ca a b d) (h2 : ImR cd ca b c e) (hc : cd c = 38) (hd : d01 d) : ImR cd ca a (c + 1) (dAnd d e) := by
  refine ImR_andor (t := 1) h1 h2 (Or.inl ⟨hc, rfl⟩) (fun lt => ?_)
  show (d lt).bind (fun v => if v = 0 then some 0 else e lt) = _
  cases ed : d lt with
  | none => rfl
  | some x =>
    rcases hd lt x ed with rfl | rfl
    · rfl
    · rfl
theorem ImR_or {cd ca : Nat → Int32} {a b c : Nat} {d e : DnM} (h1 : ImR cd ca a b d) (h2 : ImR cd ca b c e) (hc : cd c = 124) (hd : d01 d) : ImR cd ca a (c + 1) (dOr d e) := by
  refine ImR_andor (t := 0) h1 h2 (Or.inr ⟨hc, rfl⟩) (fun lt => ?_)
  show (d lt).bind (fun v => if v = 1 then some 1 else e lt) = _
  cases ed : d lt with
  | none => rfl
  | some x =>
    rcases hd lt x ed with rfl | rfl
    · rfl
    · rfl
/-! THE TEXTS, 3: one machine that both readers follow -/
abbrev dgP (c : Nat) : Prop := 48 ≤ c ∧ c ≤ 57
abbrev ltP (c : Nat) : Prop := c = 102 ∨ c = 115 ∨ c = 100 ∨ c = 110 ∨ c = 99 ∨ c = 107 ∨ c = 121 ∨ c = 122 ∨ c = 109 ∨ c = 120 ∨ c = 116 ∨ c = 118 ∨ c = 119
def tmP (c : Nat) : Nat := if c = 42 then 5 else if c = 47 then 6 else if c = 37 then 7 else 0
def plP (c : Nat) : Nat := if c = 43 then 3 else if c = 45 then 4 else 0
def cmP (c : Nat) : Nat := if c = 60 then 8 else if c = 62 then 9 else if c = 61 then 10 else 0
/-- a number: at most k digits more; the first way: a digit too many, at its place -/
def nuP (b : Nat → Nat) : Nat → Nat → Nat → Sum Nat (Nat × Nat)
  | 0, v, p => if dgP (b p) then .inl p else .inr (v, p)
  | k + 1, v, p => if dgP (b p) then nuP b k (v * 10 + (b p - 48)) (p + 1) else .inr (v, p)
abbrev StkA : Type := List (Nat × DnM)
abbrev StA : Type := Nat × Int32 × StkA × DnM × DnM × Nat
def dzA : DnM := dNum 0
def topA (g : StkA) : Nat := match g with
  | [] => 0
  | x :: _ => x.1
def lefA (g : StkA) : DnM := match g with
  | [] => dzA
  | x :: _ => x.2
def opn : StkA → Nat
  | [] => 0
  | x :: g => opn g + (if x.1 = 91 ∨ x.1 = 40 ∨ x.1 = 33 then 1 else 0)
abbrev SE (e : Int32) (p : Nat) : StA := (9, e, [], dzA, dzA, p)
abbrev S0 (g : StkA) (dE : DnM) (p : Nat) : StA := (0, 0, g, dzA, dE, p)
abbrev S1 (g : StkA) (d dE : DnM) (p : Nat) : StA := (1, 0, g, d, dE, p)
abbrev S2 (g : StkA) (dE : DnM) (p : Nat) : StA := (2, 0, g, dzA, dE, p)
abbrev S3 (g : StkA) (d dE : DnM) (p : Nat) : StA := (3, 0, g, d, dE, p)
abbrev S4 (d dE : DnM) (p : Nat) : StA := (4, 0, [], d, dE, p)
def st0 (b : Nat → Nat) (g : StkA) (dE : DnM) (p : Nat) : StA :=
  if b p = 91 then (if 6 ≤ opn g then SE 5 p else S0 ((91, dzA) :: g) dE (p + 1))
  else if dgP (b p) then (nuP b 5 0 p).elim (fun q => SE 2 q) (fun z => S1 g (dNum (nI z.1)) dE z.2)
  else if ltP (b p) then S1 g (dLet (b p - 97)) dE (p + 1)
  else SE 1 p
def st1 (b : Nat → Nat) (g : StkA) (d dE : DnM) (p : Nat) : StA :=
  if ¬ tmP (topA g) = 0 then S1 g.tail (dBin (tmP (topA g)) (lefA g) d) dE p
  else if ¬ tmP (b p) = 0 then S0 ((b p, d) :: g) dE (p + 1)
  else if ¬ plP (topA g) = 0 then S1 g.tail (dBin (plP (topA g)) (lefA g) d) dE p
  else if ¬ plP (b p) = 0 then S0 ((b p, d) :: g) dE (p + 1)
  else if topA g = 91 then (if b p = 93 then S1 g.tail d dE (p + 1) else SE 1 p)
  else if ¬ cmP (topA g) = 0 then S3 g.tail (dBin (cmP (topA g)) (lefA g) d) dE p
  else if topA g = 0 then (if b p = 40 then S2 [(40, dzA)] d (p + 1) else SE 1 p)
  else if ¬ cmP (b p) = 0 then S0 ((b p, d) :: g) dE (p + 1)
  else SE 1 p
def st2 (b : Nat → Nat) (g : StkA) (dE : DnM) (p : Nat) : StA :=
  if b p = 33 ∨ b p = 40 then (if 6 ≤ opn g then SE 5 p else S2 ((b p, dzA) :: g) dE (p + 1)) else S0 g dE p
def st3 (b : Nat → Nat) (g : StkA) (d dE : DnM) (p : Nat) : StA :=
  if topA g = 33 then S3 g.tail (dNot d) dE p
  else if topA g = 38 then S3 g.tail (dAnd (lefA g) d) dE p
  else if b p = 38 then S2 ((38, d) :: g) dE (p + 1)
  else if topA g = 124 then S3 g.tail (dOr (lefA g) d) dE p
  else if b p = 124 then S2 ((124, d) :: g) dE (p + 1)
  else if b p = 41 ∧ topA g = 40 then (if g.tail = [] then S4 d dE (p + 1) else S3 g.tail d dE (p + 1))
  else SE 1 p
def stepA (b : Nat → Nat) (s : StA) : StA :=
  if s.1 = 0 then st0 b s.2.2.1 s.2.2.2.2.1 s.2.2.2.2.2
  else if s.1 = 1 then st1 b s.2.2.1 s.2.2.2.1 s.2.2.2.2.1 s.2.2.2.2.2
  else if s.1 = 2 then st2 b s.2.2.1 s.2.2.2.2.1 s.2.2.2.2.2
  else if s.1 = 3 then st3 b s.2.2.1 s.2.2.2.1 s.2.2.2.2.1 s.2.2.2.2.2
  else s
def itA (b : Nat → Nat) : Nat → StA → StA
  | 0, s => s
  | n + 1, s => itA b n (stepA b s)
def LdA (b : Nat → Nat) (s t : StA) : Prop := ∃ n, itA b n s = t
section MACH
variable {b : Nat → Nat} {s t u : StA} {g : StkA} {d dE dl : DnM} {p c : Nat}
theorem itA_add (b : Nat → Nat) : ∀ (n m : Nat) (s : StA), itA b (n + m) s = itA b m (itA b n s) := by
  intro n
  induction n with
  | zero => intro m s; rw [Nat.zero_add]; rfl
  | succ n ih =>
    intro m s
    rw [show n + 1 + m = (n + m) + 1 by omega]
    exact ih m (stepA b s)
theorem itA_fin (h : stepA b t = t) : ∀ n, itA b n t = t := by
  intro n
  induction n with
  | zero => rfl
  | succ n ih =>
    show itA b n (stepA b t) = t
    rw [h]
    exact ih
theorem LdA.rf : LdA b s s := ⟨0, rfl⟩
theorem LdA.tr (h : LdA b s t) (k : LdA b t u) : LdA b s u := by
  obtain ⟨n, hn⟩ := h
  obtain ⟨m, hm⟩ := k
  exact ⟨n + m, by rw [itA_add, hn, hm]⟩
theorem LdA.st (h : stepA b s = t) : LdA b s t := ⟨1, h⟩
theorem LdA.uq (h : LdA b s t) (k : LdA b s u) (ht : stepA b t = t) (hu : stepA b u = u) : t = u := by
  obtain ⟨n, hn⟩ := h
  obtain ⟨m, hm⟩ := k
  rcases Nat.le_total n m with q | q
  · rw [show m = n + (m - n) by omega, itA_add, hn, itA_fin ht] at hm
    exact hm
  · rw [show n = m + (n - m) by omega, itA_add, hm, itA_fin hu] at hn
    exact hn.symm
theorem fin_E (e : Int32) (p : Nat) : stepA b (SE e p) = SE e p := rfl
theorem fin_4 (d dE : DnM) (p : Nat) : stepA b (S4 d dE p) = S4 d dE p := rfl
/-- what a number may end ahead of: nothing, times, times and plus -/
abbrev kN (_ : Nat) : Prop := False
abbrev kT (c : Nat) : Prop := ¬ tmP c = 0
abbrev kS (c : Nat) : Prop := ¬ tmP c = 0 ∨ ¬ plP c = 0
theorem ld_br (h : b p = 91) (ho : opn g < 6) : LdA b (S0 g dE p) (S0 ((91, dzA) :: g) dE (p + 1)) :=
  .st (show st0 b g dE p = _ by unfold st0; rw [if_pos h, if_neg (by omega)])
theorem ld_br5 (h : b p = 91) (ho : 6 ≤ opn g) : LdA b (S0 g dE p) (SE 5 p) :=
  .st (show st0 b g dE p = _ by unfold st0; rw [if_pos h, if_pos ho])
theorem ld_num {v q : Nat} (h : dgP (b p)) (hn : nuP b 5 0 p = .inr (v, q)) : LdA b (S0 g dE p) (S1 g (dNum (nI v)) dE q) :=
  .st (show st0 b g dE p = _ by unfold st0; rw [if_neg (by omega), if_pos h, hn]; rfl)
theorem ld_num2 {q : Nat} (h : dgP (b p)) (hn : nuP b 5 0 p = .inl q) : LdA b (S0 g dE p) (SE 2 q) :=
  .st (show st0 b g dE p = _ by unfold st0; rw [if_neg (by omega), if_pos h, hn]; rfl)
theorem ld_let (h : ltP (b p)) : LdA b (S0 g dE p) (S1 g (dLet (b p - 97)) dE (p + 1)) :=
  .st (show st0 b g dE p = _ by unfold st0; rw [if_neg (by omega), if_neg (by omega), if_pos h])
theorem ld_no (h1 : ¬ b p = 91) (h2 : ¬ dgP (b p)) (h3 : ¬ ltP (b p)) : LdA b (S0 g dE p) (SE 1 p) :=
  .st (show st0 b g dE p = _ by unfold st0; rw [if_neg h1, if_neg h2, if_neg h3])
theorem ld_tm (h : ¬ tmP c = 0) : LdA b (S1 ((c, dl) :: g) d dE p) (S1 g (dBin (tmP c) dl d) dE p) :=
  .st (show st1 b ((c, dl) :: g) d dE p = _ by unfold st1; exact if_pos h)
theorem ld_tmP (h : ¬ kT (topA g)) (hc : ¬ tmP (b p) = 0) : LdA b (S1 g d dE p) (S0 ((b p, d) :: g) dE (p + 1)) :=
  .st (show st1 b g d dE p = _ by unfold st1; rw [if_neg h, if_pos hc])
theorem tm_pl (h : ¬ plP c = 0) : tmP c = 0 := by
  unfold plP at h
  unfold tmP
  split at h
  · rename_i q; subst q; rfl
  · split at h
    · rename_i q; subst q; rfl
    · exact absurd rfl h
theorem tm_cm (h : ¬ cmP c = 0) : tmP c = 0 ∧ plP c = 0 ∧ ¬ c = 91 ∧ ¬ c = 0 ∧ ¬ c = 33 ∧ ¬ c = 38 ∧ ¬ c = 124 ∧ ¬ c = 40 ∧ ¬ c = 93 := by
  unfold cmP at h
  split at h
  · rename_i q; subst q; decide
  · split at h
    · rename_i q; subst q; decide
    · split at h
      · rename_i q; subst q; decide
      · exact absurd rfl h
theorem ld_pl (h : ¬ plP c = 0) (hc : tmP (b p) = 0) : LdA b (S1 ((c, dl) :: g) d dE p) (S1 g (dBin (plP c) dl d) dE p) :=
  .st (show st1 b ((c, dl) :: g) d dE p = _ by
    unfold st1
    rw [if_neg (fun q => q (tm_pl h)), if_neg (fun q => q hc)]
    exact if_pos h)
theorem ld_plP (h : ¬ kS (topA g)) (hc : ¬ plP (b p) = 0) : LdA b (S1 g d dE p) (S0 ((b p, d) :: g) dE (p + 1)) :=
  .st (show st1 b g d dE p = _ by unfold st1; rw [if_neg (fun q => h (Or.inl q)), if_neg (fun q => q (tm_pl hc)), if_neg (fun q => h (Or.inr q)), if_pos hc])
theorem ld_rb (hc : b p = 93) : LdA b (S1 ((91, dl) :: g) d dE p) (S1 g d dE (p + 1)) :=
  .st (show st1 b ((91, dl) :: g) d dE p = _ by
    unfold st1
    rw [hc]
    rfl)
theorem ld_rb1 (hk : ¬ kS (b p)) (hc : ¬ b p = 93) : LdA b (S1 ((91, dl) :: g) d dE p) (SE 1 p) :=
  .st (show st1 b ((91, dl) :: g) d dE p = _ by
    unfold st1
    rw [if_neg (by show ¬ ¬ tmP 91 = 0; decide), if_neg (fun q => hk (Or.inl q)), if_neg (by show ¬ ¬ plP 91 = 0; decide), if_neg (fun q => hk (Or.inr q)), if_pos (show topA ((91, dl) :: g) = 91 from rfl), if_neg hc])
theorem ld_cm (h : ¬ cmP c = 0) (hk : ¬ kS (b p)) : LdA b (S1 ((c, dl) :: g) d dE p) (S3 g (dBin (cmP c) dl d) dE p) := by
  obtain ⟨q1, q2, q3, q4, -⟩ := tm_cm h
  refine .st (show st1 b ((c, dl) :: g) d dE p = _ from ?_)
  unfold st1
  rw [if_neg (fun q => q q1), if_neg (fun q => hk (Or.inl q)), if_neg (fun q => q q2), if_neg (fun q => hk (Or.inr q)), if_neg (show ¬ topA ((c, dl) :: g) = 91 from q3)]
  exact if_pos h
/-- a stack on whose top a piece may begin -/
abbrev cdA (g : StkA) : Prop := topA g = 40 ∨ topA g = 33 ∨ topA g = 38 ∨ topA g = 124
theorem cd_no (h : cdA g) : tmP (topA g) = 0 ∧ plP (topA g) = 0 ∧ ¬ topA g = 91 ∧ cmP (topA g) = 0 ∧ ¬ topA g = 0 := by
  rcases h with h | h | h | h <;> rw [h] <;> decide
theorem cd_kS (h : cdA g) : ¬ kS (topA g) := fun q => q.elim (fun q => q (cd_no h).1) (fun q => q (cd_no h).2.1)
theorem cm_kS (h : ¬ cmP c = 0) : ¬ kS c := fun q => q.elim (fun q => q (tm_cm h).1) (fun q => q (tm_cm h).2.1)
theorem ld_cmP (h : cdA g) (hc : ¬ cmP (b p) = 0) : LdA b (S1 g d dE p) (S0 ((b p, d) :: g) dE (p + 1)) := by
  obtain ⟨q1, q2, q3, q4, q5⟩ := cd_no h
  obtain ⟨r1, r2, -⟩ := tm_cm hc
  refine .st (show st1 b g d dE p = _ from ?_)
  unfold st1
  rw [if_neg (fun q => q q1), if_neg (fun q => q r1), if_neg (fun q => q q2), if_neg (fun q => q r2), if_neg q3, if_neg (fun q => q q4), if_neg q5, if_pos hc]
theorem ld_cm1 (h : cdA g) (hk : ¬ kS (b p)) (hc : cmP (b p) = 0) : LdA b (S1 g d dE p) (SE 1 p) := by
  obtain ⟨q1, q2, q3, q4, q5⟩ := cd_no h
  refine .st (show st1 b g d dE p = _ from ?_)
  unfold st1
  rw [if_neg (fun q => q q1), if_neg (fun q => hk (Or.inl q)), if_neg (fun q => q q2), if_neg (fun q => hk (Or.inr q)), if_neg q3, if_neg (fun q => q q4), if_neg q5, if_neg (fun q => q hc)]
theorem ld_e (hc : b p = 40) : LdA b (S1 [] d dE p) (S2 [(40, dzA)] d (p + 1)) :=
  .st (show st1 b [] d dE p = _ by unfold st1; rw [hc]; rfl)
theorem ld_e1 (hk : ¬ kS (b p)) (hc : ¬ b p = 40) : LdA b (S1 [] d dE p) (SE 1 p) :=
  .st (show st1 b [] d dE p = _ by
    unfold st1
    rw [if_neg (by show ¬ ¬ tmP 0 = 0; decide), if_neg (fun q => hk (Or.inl q)), if_neg (by show ¬ ¬ plP 0 = 0; decide), if_neg (fun q => hk (Or.inr q)), if_neg (by show ¬ (0 : Nat) = 91; decide), if_neg (by show ¬ ¬ cmP 0 = 0; decide), if_pos (show topA [] = 0 from rfl), if_neg hc])
theorem ld_op (h : b p = 33 ∨ b p = 40) (ho : opn g < 6) : LdA b (S2 g dE p) (S2 ((b p, dzA) :: g) dE (p + 1)) :=
  .st (show st2 b g dE p = _ by unfold st2; rw [if_pos h, if_neg (by omega)])
theorem ld_op5 (h : b p = 33 ∨ b p = 40) (ho : 6 ≤ opn g) : LdA b (S2 g dE p) (SE 5 p) :=
  .st (show st2 b g dE p = _ by unfold st2; rw [if_pos h, if_pos ho])
theorem ld_20 (h : ¬ (b p = 33 ∨ b p = 40)) : LdA b (S2 g dE p) (S0 g dE p) :=
  .st (show st2 b g dE p = _ by unfold st2; rw [if_neg h])
theorem ld_not : LdA b (S3 ((33, dl) :: g) d dE p) (S3 g (dNot d) dE p) := .st rfl
theorem ld_and : LdA b (S3 ((38, dl) :: g) d dE p) (S3 g (dAnd dl d) dE p) := .st rfl
theorem ld_or (hc : ¬ b p = 38) : LdA b (S3 ((124, dl) :: g) d dE p) (S3 g (dOr dl d) dE p) :=
  .st (show st3 b ((124, dl) :: g) d dE p = _ by unfold st3; rw [if_neg (by show ¬ (124 : Nat) = 33; decide), if_neg (by show ¬ (124 : Nat) = 38; decide), if_neg hc]; rfl)
theorem ld_andP (h : topA g = 40 ∨ topA g = 124) (hc : b p = 38) : LdA b (S3 g d dE p) (S2 ((38, d) :: g) dE (p + 1)) :=
  .st (show st3 b g d dE p = _ by unfold st3; rw [if_neg (by omega), if_neg (by omega), if_pos hc])
theorem ld_orP (h : topA g = 40) (hc : b p = 124) : LdA b (S3 g d dE p) (S2 ((124, d) :: g) dE (p + 1)) :=
  .st (show st3 b g d dE p = _ by unfold st3; rw [if_neg (by omega), if_neg (by omega), if_neg (by omega), if_neg (by omega), if_pos hc])
theorem ld_cl (hg : ¬ g = []) (hc : b p = 41) : LdA b (S3 ((40, dl) :: g) d dE p) (S3 g d dE (p + 1)) :=
  .st (show st3 b ((40, dl) :: g) d dE p = _ by
    unfold st3
    rw [if_neg (by show ¬ (40 : Nat) = 33; decide), if_neg (by show ¬ (40 : Nat) = 38; decide), if_neg (by omega), if_neg (by show ¬ (40 : Nat) = 124; decide), if_neg (by omega), if_pos ⟨hc, rfl⟩]
    exact if_neg hg)
theorem ld_cl4 (hc : b p = 41) : LdA b (S3 [(40, dl)] d dE p) (S4 d dE (p + 1)) :=
  .st (show st3 b [(40, dl)] d dE p = _ by
    unfold st3
    rw [if_neg (by show ¬ (40 : Nat) = 33; decide), if_neg (by show ¬ (40 : Nat) = 38; decide), if_neg (by omega), if_neg (by show ¬ (40 : Nat) = 124; decide), if_neg (by omega), if_pos ⟨hc, rfl⟩]
    exact if_pos rfl)
/-- behind a piece, ahead of what can't stand there -/
theorem ld_31 (h1 : ¬ b p = 38) (h2 : ¬ b p = 124) (h3 : ¬ b p = 41) : ∀ (g : StkA) (d : DnM), LdA b (S3 g d dE p) (SE 1 p) := by
  intro g
  induction g with
  | nil =>
    intro d
    refine .st (show st3 b [] d dE p = _ from ?_)
    unfold st3
    rw [if_neg (by show ¬ (0 : Nat) = 33; decide), if_neg (by show ¬ (0 : Nat) = 38; decide), if_neg h1, if_neg (by show ¬ (0 : Nat) = 124; decide), if_neg h2, if_neg (fun q => h3 q.1)]
  | cons x g ih =>
    intro d
    by_cases q1 : topA (x :: g) = 33
    · refine .tr (.st (t := S3 g (dNot d) dE p) ?_) (ih _)
      show st3 b (x :: g) d dE p = _
      unfold st3
      exact if_pos q1
    by_cases q2 : topA (x :: g) = 38
    · refine .tr (.st (t := S3 g (dAnd x.2 d) dE p) ?_) (ih _)
      show st3 b (x :: g) d dE p = _
      unfold st3
      rw [if_neg q1]
      exact if_pos q2
    by_cases q3 : topA (x :: g) = 124
    · refine .tr (.st (t := S3 g (dOr x.2 d) dE p) ?_) (ih _)
      show st3 b (x :: g) d dE p = _
      unfold st3
      rw [if_neg q1, if_neg q2, if_neg h1]
      exact if_pos q3
    · refine .st ?_
      show st3 b (x :: g) d dE p = _
      unfold st3
      rw [if_neg q1, if_neg q2, if_neg h1, if_neg q3, if_neg h2, if_neg (fun q => h3 q.1)]
/-- behind a number, ahead of a closing bracket without its first one -/
theorem ld_93 (hc : b p = 93) (hg : ¬ kS (topA g)) (h9 : ¬ topA g = 91) : LdA b (S1 g d dE p) (SE 1 p) := by
  by_cases q1 : cmP (topA g) = 0
  · refine .st (show st1 b g d dE p = _ from ?_)
    unfold st1
    rw [hc, if_neg (fun q => hg (Or.inl q)), if_neg (by decide), if_neg (fun q => hg (Or.inr q)), if_neg (by decide), if_neg h9, if_neg (fun q => q q1)]
    by_cases q2 : topA g = 0
    · rw [if_pos q2]; rfl
    · rw [if_neg q2]; rfl
  · refine .tr (.st (t := S3 g.tail (dBin (cmP (topA g)) (lefA g) d) dE p) ?_) (ld_31 (by omega) (by omega) (by omega) _ _)
    show st1 b g d dE p = _
    unfold st1
    rw [hc, if_neg (fun q => hg (Or.inl q)), if_neg (by decide), if_neg (fun q => hg (Or.inr q)), if_neg (by decide), if_neg h9, if_pos q1]
end MACH
/-! THE TEXTS, 4: what the reader by descent has read, told by the machine -/
theorem kd_mk {o k : Nat} (ho : o ≤ 99999) (hk : k < 16) : (nI o <<< ((4 : Int32) &&& 31)) ||| nI k = nI (16 * o + k) := by
  rw [pk_shlN ((4 : Int32) &&& 31) 4 (by decide) (by omega), fa_orN]
  congr 1
  have h := Nat.shiftLeft_add_eq_or_of_lt (b := k) (i := 4) (by omega) o
  rw [Nat.shiftLeft_eq] at h
  omega
theorem kd_nI {o k : Nat} (ho : o ≤ 99999) (hk : k < 16) : kdM (nI (16 * o + k)) = k ∧ odM (nI (16 * o + k)) = o := by
  unfold kdM odM
  rw [nI_clamp (by omega)]
  omega
theorem and15 (v : Nat) : nI v &&& 15 = nI (v % 16) := by
  apply Int32.toBitVec_inj.mp
  rw [Int32.toBitVec_and]
  show BitVec.ofNat 32 v &&& BitVec.ofNat 32 15 = BitVec.ofNat 32 (v % 16)
  apply BitVec.eq_of_getLsbD_eq
  intro i hi
  rw [BitVec.getLsbD_and, BitVec.getLsbD_ofNat, BitVec.getLsbD_ofNat, BitVec.getLsbD_ofNat, show 15 = 2 ^ 4 - 1 from rfl, show 16 = 2 ^ 4 from rfl, Nat.testBit_mod_two_pow, Nat.testBit_two_pow_sub_one]
  cases decide (i < 32) <;> cases decide (i < 4) <;> cases v.testBit i <;> rfl
theorem land_mk {x : Int32} {u : Nat} (hx : 0 ≤ x) (hu : u ≤ 200) : (nI u <<< ((4 : Int32) &&& 31)) ||| (x &&& 15) = nI (16 * u + kdM x) := by
  obtain ⟨j, hj, rfl⟩ := nI_of (x := x) (Int32.not_lt.mpr hx)
  rw [and15, kd_mk (by omega) (by omega)]
  unfold kdM
  rw [nI_clamp hj]
theorem opn_o {c : Nat} {d : DnM} {g : StkA} (h : c = 91 ∨ c = 40 ∨ c = 33) : opn ((c, d) :: g) = opn g + 1 := by
  show opn g + (if c = 91 ∨ c = 40 ∨ c = 33 then 1 else 0) = _
  rw [if_pos h]
theorem opn_n {c : Nat} {d : DnM} {g : StkA} (h : ¬ (c = 91 ∨ c = 40 ∨ c = 33)) : opn ((c, d) :: g) = opn g := by
  show opn g + (if c = 91 ∨ c = 40 ∨ c = 33 then 1 else 0) = _
  rw [if_neg h]
  rfl
theorem kT_n {c : Nat} (h : ¬ tmP c = 0) : ¬ (c = 91 ∨ c = 40 ∨ c = 33) := fun q => h (by rcases q with rfl | rfl | rfl <;> rfl)
theorem pl_n {c : Nat} (h : ¬ plP c = 0) : ¬ (c = 91 ∨ c = 40 ∨ c = 33) := fun q => h (by rcases q with rfl | rfl | rfl <;> rfl)
theorem cm_n {c : Nat} (h : ¬ cmP c = 0) : ¬ (c = 91 ∨ c = 40 ∨ c = 33) := fun q => h (by rcases q with rfl | rfl | rfl <;> rfl)
theorem tm_v (c : Nat) : tmP c = 0 ∨ tmP c = 5 ∨ tmP c = 6 ∨ tmP c = 7 := by
  unfold tmP
  repeat' split
  all_goals omega
theorem pl_v (c : Nat) : plP c = 0 ∨ plP c = 3 ∨ plP c = 4 := by
  unfold plP
  repeat' split
  all_goals omega
theorem cm_v (c : Nat) : cmP c = 0 ∨ cmP c = 8 ∨ cmP c = 9 ∨ cmP c = 10 := by
  unfold cmP
  repeat' split
  all_goals omega
theorem tm_ar {c : Nat} (h : ¬ tmP c = 0) : arM (tmP c) := by
  have := tm_v c
  omega
theorem pl_ar {c : Nat} (h : ¬ plP c = 0) : arM (plP c) := by
  have := pl_v c
  omega
theorem cm_ar {c : Nat} (h : ¬ cmP c = 0) : arM (cmP c) := by
  have := cm_v c
  omega
/-- a step is put behind the code, where there is room -/
def adM (x : Int32) (fs : Nat → Int32) (un : Nat) (fs1 : Nat → Int32) (un1 : Nat) : Prop := (un < 200 → un1 = un + 1 ∧ fs1 = upd fs un x) ∧ (¬ un < 200 → un1 = un ∧ fs1 = fs)
theorem adM.pre {x : Int32} {fs fs1 : Nat → Int32} {un un1 : Nat} (h : adM x fs un fs1 un1) : un ≤ un1 ∧ ∀ j, j < un → fs1 j = fs j := by
  by_cases q : un < 200
  · obtain ⟨rfl, rfl⟩ := h.1 q
    exact ⟨by omega, fun j hj => upd_o (by omega)⟩
  · obtain ⟨rfl, rfl⟩ := h.2 q
    exact ⟨Nat.le_refl _, fun _ _ => rfl⟩
def NQ (b : Nat → Nat) (l : Nat) (T E : Nat → Prop) (m : Nat) (fs : Nat → Int32) (un p : Nat) (fs1 : Nat → Int32) (un1 p1 : Nat) (fa1 : Int32) : Prop :=
  (un ≤ un1 ∧ ∀ j, j < un → fs1 j = fs j) ∧
  (fa1 = 0 → un1 + p ≤ un + p1 ∧ ¬ E (b p1) ∧ ∃ d, ImC fs1 un un1 m d ∧ ∀ g dE, opn g + l = 6 → ¬ T (topA g) → LdA b (S0 g dE p) (S1 g d dE p1)) ∧
  (¬ fa1 = 0 → ∀ g dE, opn g + l = 6 → ¬ T (topA g) → LdA b (S0 g dE p) (SE fa1 p1))
section NUMS
variable {b : Nat → Nat} {l m M : Nat} {T E K : Nat → Prop} {fs fs1 fs2 fs3 : Nat → Int32} {un p un1 p1 un2 p2 un3 : Nat} {fa1 fa2 e : Int32} {x : Int32}
theorem NQ.ltr (hc : ltP (b p)) (hu : un < 200) (ha : adM (nI (16 * (b p - 97) + 2)) fs un fs1 un1) : NQ b l kN kN 1 fs un p fs1 un1 (p + 1) 0 := by
  obtain ⟨rfl, rfl⟩ := ha.1 hu
  obtain ⟨k1, k2⟩ := kd_nI (o := b p - 97) (k := 2) (by omega) (by omega)
  refine ⟨ha.pre, fun _ => ⟨by omega, fun q => q, dLet (b p - 97), ImC_let ?_ ?_ (by omega), fun g dE _ _ => ld_let hc⟩, fun q => absurd rfl q⟩
  · rw [upd_a]; exact k1
  · rw [upd_a]; exact k2
theorem NQ.num {v q : Nat} (hc : dgP (b p)) (hn : nuP b 5 0 p = .inr (v, q)) (hv : v ≤ 99999) (hq : p + 1 ≤ q) (hu : un < 200) (ha : adM (nI (16 * v + 1)) fs un fs1 un1) : NQ b l kN kN 1 fs un p fs1 un1 q 0 := by
  obtain ⟨rfl, rfl⟩ := ha.1 hu
  obtain ⟨k1, k2⟩ := kd_nI (o := v) (k := 1) hv (by omega)
  refine ⟨ha.pre, fun _ => ⟨by omega, fun q => q, dNum (nI v), ImC_num ?_ ?_, fun g dE _ _ => ld_num hc hn⟩, fun q => absurd rfl q⟩
  · rw [upd_a]; exact k1
  · rw [upd_a]; exact k2
theorem NQ.num2 {q : Nat} (hc : dgP (b p)) (hn : nuP b 5 0 p = .inl q) (ha : adM x fs un fs1 un1) : NQ b l kN kN m fs un p fs1 un1 q 2 :=
  ⟨ha.pre, fun q => absurd q (by decide), fun _ g dE _ _ => ld_num2 hc hn⟩
theorem NQ.no (h1 : ¬ b p = 91) (h2 : ¬ dgP (b p)) (h3 : ¬ ltP (b p)) : NQ b l kN kN m fs un p fs un p 1 :=
  ⟨⟨Nat.le_refl _, fun _ _ => rfl⟩, fun q => absurd q (by decide), fun _ g dE _ _ => ld_no h1 h2 h3⟩
theorem NQ.br5 (h : b p = 91) : NQ b 0 kN kN m fs un p fs un p 5 :=
  ⟨⟨Nat.le_refl _, fun _ _ => rfl⟩, fun q => absurd q (by decide), fun _ g dE ho _ => ld_br5 h (by omega)⟩
theorem kS91 (g : StkA) (d : DnM) : ¬ kS (topA ((91, d) :: g)) := by show ¬ kS 91; decide
theorem NQ.br (h : b p = 91) (hs : NQ b l kS kS m fs un (p + 1) fs1 un1 p1 0) (hc : b p1 = 93) : NQ b (l + 1) kN kN m fs un p fs1 un1 (p1 + 1) 0 := by
  obtain ⟨a1, a2, -⟩ := hs
  obtain ⟨c1, c2, d, c3, c4⟩ := a2 rfl
  exact ⟨a1, fun _ => ⟨by omega, fun q => q, d, c3, fun g dE ho _ => (ld_br h (by omega)).tr ((c4 ((91, dzA) :: g) dE (by rw [opn_o (by omega)]; omega) (kS91 _ _)).tr (ld_rb hc))⟩, fun q => absurd rfl q⟩
theorem NQ.br1 (h : b p = 91) (hs : NQ b l kS kS m fs un (p + 1) fs1 un1 p1 0) (hc : ¬ b p1 = 93) : NQ b (l + 1) kN kN M fs un p fs1 un1 p1 1 := by
  obtain ⟨a1, a2, -⟩ := hs
  obtain ⟨c1, c2, d, c3, c4⟩ := a2 rfl
  exact ⟨a1, fun q => absurd q (by decide), fun _ g dE ho _ => (ld_br h (by omega)).tr ((c4 ((91, dzA) :: g) dE (by rw [opn_o (by omega)]; omega) (kS91 _ _)).tr (ld_rb1 c2 hc))⟩
theorem NQ.brE (h : b p = 91) (hs : NQ b l kS kS m fs un (p + 1) fs1 un1 p1 fa1) (hf : ¬ fa1 = 0) : NQ b (l + 1) kN kN M fs un p fs1 un1 p1 fa1 := by
  obtain ⟨a1, -, a3⟩ := hs
  exact ⟨a1, fun q => absurd q hf, fun _ g dE ho _ => (ld_br h (by omega)).tr (a3 hf ((91, dzA) :: g) dE (by rw [opn_o (by omega)]; omega) (kS91 _ _))⟩
theorem NQ.up (h : NQ b l kN kN m fs un p fs1 un1 p1 fa1) (hm : m ≤ M) : NQ b l T kN M fs un p fs1 un1 p1 fa1 := by
  obtain ⟨a1, a2, a3⟩ := h
  refine ⟨a1, fun q => ?_, fun q g dE ho _ => a3 q g dE ho (fun w => w)⟩
  obtain ⟨c1, c2, d, c3, c4⟩ := a2 q
  exact ⟨c1, c2, d, ImC_le c3 hm, fun g dE ho _ => c4 g dE ho (fun w => w)⟩
theorem NQ.upS (h : NQ b l kT kT m fs un p fs1 un1 p1 fa1) (hm : m ≤ M) : NQ b l kS kT M fs un p fs1 un1 p1 fa1 := by
  obtain ⟨a1, a2, a3⟩ := h
  refine ⟨a1, fun q => ?_, fun q g dE ho ht => a3 q g dE ho (fun w => ht (Or.inl w))⟩
  obtain ⟨c1, c2, d, c3, c4⟩ := a2 q
  exact ⟨c1, c2, d, ImC_le c3 hm, fun g dE ho ht => c4 g dE ho (fun w => ht (Or.inl w))⟩
theorem NQ.fin (h : NQ b l T E m fs un p fs1 un1 p1 fa1) (hk : fa1 = 0 → ¬ K (b p1)) : NQ b l T K m fs un p fs1 un1 p1 fa1 := by
  obtain ⟨a1, a2, a3⟩ := h
  refine ⟨a1, fun q => ?_, a3⟩
  obtain ⟨c1, c2, c3⟩ := a2 q
  exact ⟨c1, hk q, c3⟩
theorem NQ.prod (hw : NQ b l kT kN M fs un p fs1 un1 p1 0) (hc : ¬ tmP (b p1) = 0) (hf : NQ b l kN kN m fs1 un1 (p1 + 1) fs2 un2 p2 fa2) (ha : adM (nI (16 * 0 + tmP (b p1))) fs2 un2 fs3 un3) (hup : un ≤ p) (hp2 : p2 ≤ 200) (hm1 : 1 ≤ m) (hM : m + 1 ≤ M) : NQ b l kT kN M fs un p fs3 un3 p2 fa2 := by
  obtain ⟨⟨a1, a1'⟩, a2, -⟩ := hw
  obtain ⟨c1, c2, d, c3, c4⟩ := a2 rfl
  obtain ⟨⟨f1, f1'⟩, f2, f3⟩ := hf
  obtain ⟨g1, g1'⟩ := ha.pre
  refine ⟨⟨by omega, fun j hj => by rw [g1' j (by omega), f1' j (by omega), a1' j hj]⟩, fun q => ?_, fun q g dE ho ht => (c4 g dE ho ht).tr ((ld_tmP ht hc).tr (f3 q _ dE (by rw [opn_n (kT_n hc)]; exact ho) (fun w => w)))⟩
  obtain ⟨h1, h2, e, h3, h4⟩ := f2 q
  obtain ⟨rfl, rfl⟩ := ha.1 (by omega)
  have har := tm_ar hc
  obtain ⟨k1, k2⟩ := kd_nI (o := 0) (k := tmP (b p1)) (by omega) (by omega)
  refine ⟨by omega, fun w => w, dBin (tmP (b p1)) d e, ?_, fun g dE ho ht => (c4 g dE ho ht).tr ((ld_tmP ht hc).tr ((h4 _ dE (by rw [opn_n (kT_n hc)]; exact ho) (fun w => w)).tr (ld_tm hc)))⟩
  refine ImC_le (ImC_bin (m1 := M) (m2 := m) (ImC_fs c3 (fun j u v => ?_)) (ImC_fs h3 (fun j u v => upd_o (by omega))) (by rw [upd_a]; exact k1) har (by omega) hm1) (by omega)
  rw [upd_o (by omega), f1' j (by omega)]
theorem NQ.sum (hw : NQ b l kS kT M fs un p fs1 un1 p1 0) (hc : ¬ plP (b p1) = 0) (hf : NQ b l kT kT m fs1 un1 (p1 + 1) fs2 un2 p2 fa2) (ha : adM (nI (16 * 0 + plP (b p1))) fs2 un2 fs3 un3) (hup : un ≤ p) (hp2 : p2 ≤ 200) (hm1 : 1 ≤ m) (hM : m + 1 ≤ M) : NQ b l kS kT M fs un p fs3 un3 p2 fa2 := by
  obtain ⟨⟨a1, a1'⟩, a2, -⟩ := hw
  obtain ⟨c1, c2, d, c3, c4⟩ := a2 rfl
  obtain ⟨⟨f1, f1'⟩, f2, f3⟩ := hf
  obtain ⟨g1, g1'⟩ := ha.pre
  have hT : ∀ (d : DnM) (g : StkA), ¬ kT (topA ((b p1, d) :: g)) := fun d g w => w (tm_pl hc)
  refine ⟨⟨by omega, fun j hj => by rw [g1' j (by omega), f1' j (by omega), a1' j hj]⟩, fun q => ?_, fun q g dE ho ht => (c4 g dE ho ht).tr ((ld_plP ht hc).tr (f3 q _ dE (by rw [opn_n (pl_n hc)]; exact ho) (hT _ _)))⟩
  obtain ⟨h1, h2, e, h3, h4⟩ := f2 q
  obtain ⟨rfl, rfl⟩ := ha.1 (by omega)
  have har := pl_ar hc
  obtain ⟨k1, k2⟩ := kd_nI (o := 0) (k := plP (b p1)) (by omega) (by omega)
  have h2' : tmP (b p2) = 0 := Decidable.byContradiction h2
  refine ⟨by omega, h2, dBin (plP (b p1)) d e, ?_, fun g dE ho ht => (c4 g dE ho ht).tr ((ld_plP ht hc).tr ((h4 _ dE (by rw [opn_n (pl_n hc)]; exact ho) (hT _ _)).tr (ld_pl hc h2')))⟩
  refine ImC_le (ImC_bin (m1 := M) (m2 := m) (ImC_fs c3 (fun j u v => ?_)) (ImC_fs h3 (fun j u v => upd_o (by omega))) (by rw [upd_a]; exact k1) har (by omega) hm1) (by omega)
  rw [upd_o (by omega), f1' j (by omega)]
end NUMS
abbrev tPi (t : Nat) : Prop := t = 40 ∨ t = 33 ∨ t = 38 ∨ t = 124
abbrev tAl (t : Nat) : Prop := t = 40 ∨ t = 124
abbrev tAn (t : Nat) : Prop := t = 40
abbrev kA (c : Nat) : Prop := c = 38
abbrev kO (c : Nat) : Prop := c = 38 ∨ c = 124
def PQ (b : Nat → Nat) (l : Nat) (T E : Nat → Prop) (m : Nat) (fs : Nat → Int32) (un p : Nat) (fs1 : Nat → Int32) (un1 p1 : Nat) (fa1 : Int32) : Prop :=
  (un ≤ un1 ∧ ∀ j, j < un → fs1 j = fs j) ∧
  (fa1 = 0 → un1 + p ≤ un + p1 ∧ ¬ E (b p1) ∧ ∃ d, d01 d ∧ ImC fs1 un un1 m d ∧ ∀ g dE, opn g + l = 6 → T (topA g) → LdA b (S2 g dE p) (S3 g d dE p1)) ∧
  (¬ fa1 = 0 → ∀ g dE, opn g + l = 6 → T (topA g) → LdA b (S2 g dE p) (SE fa1 p1))
theorem d01_cm {k : Nat} {d e : DnM} (h : k = 8 ∨ k = 9 ∨ k = 10) : d01 (dBin k d e) := by
  intro lt v hv
  have hv : (d lt).bind (fun a => (e lt).bind (fun b => if divM k ∧ b = 0 then none else some (opM k a b))) = some v := hv
  cases ed : d lt with
  | none => rw [ed] at hv; exact absurd hv (by simp)
  | some x =>
    cases ee : e lt with
    | none => rw [ed, ee] at hv; exact absurd hv (by simp)
    | some y =>
      rw [ed, ee] at hv
      have hv : (if divM k ∧ y = 0 then none else some (opM k x y)) = some v := hv
      rw [if_neg (fun q => q.1 (by omega))] at hv
      have hv : opM k x y = v := by simpa using hv
      rw [← hv]
      rcases h with rfl | rfl | rfl
      · show (if x < y then (1 : Int32) else 0) = 0 ∨ (if x < y then (1 : Int32) else 0) = 1
        split
        · exact Or.inr rfl
        · exact Or.inl rfl
      · show (if y < x then (1 : Int32) else 0) = 0 ∨ (if y < x then (1 : Int32) else 0) = 1
        split
        · exact Or.inr rfl
        · exact Or.inl rfl
      · show (if x = y then (1 : Int32) else 0) = 0 ∨ (if x = y then (1 : Int32) else 0) = 1
        split
        · exact Or.inr rfl
        · exact Or.inl rfl
theorem d01_not {d : DnM} (h : d01 d) : d01 (dNot d) := by
  intro lt v hv
  have hv : (d lt).bind (fun v => some (1 - v)) = some v := hv
  cases ed : d lt with
  | none => rw [ed] at hv; exact absurd hv (by simp)
  | some x =>
    rw [ed] at hv
    have hv : 1 - x = v := by simpa using hv
    rw [← hv]
    rcases h lt x ed with rfl | rfl
    · exact Or.inr (by decide)
    · exact Or.inl (by decide)
theorem d01_and {d e : DnM} (h : d01 e) : d01 (dAnd d e) := by
  intro lt v hv
  have hv : (d lt).bind (fun v => if v = 0 then some 0 else e lt) = some v := hv
  cases ed : d lt with
  | none => rw [ed] at hv; exact absurd hv (by simp)
  | some x =>
    rw [ed] at hv
    have hv : (if x = 0 then some 0 else e lt) = some v := hv
    by_cases q : x = 0
    · rw [if_pos q] at hv
      have hv : (0 : Int32) = v := by simpa using hv
      exact Or.inl hv.symm
    · rw [if_neg q] at hv
      exact h lt v hv
theorem d01_or {d e : DnM} (h : d01 e) : d01 (dOr d e) := by
  intro lt v hv
  have hv : (d lt).bind (fun v => if v = 1 then some 1 else e lt) = some v := hv
  cases ed : d lt with
  | none => rw [ed] at hv; exact absurd hv (by simp)
  | some x =>
    rw [ed] at hv
    have hv : (if x = 1 then some 1 else e lt) = some v := hv
    by_cases q : x = 1
    · rw [if_pos q] at hv
      have hv : (1 : Int32) = v := by simpa using hv
      exact Or.inr hv.symm
    · rw [if_neg q] at hv
      exact h lt v hv
theorem cm_8 {c : Nat} (h : ¬ cmP c = 0) : cmP c = 8 ∨ cmP c = 9 ∨ cmP c = 10 := by
  have := cm_v c
  omega
section PIECES
variable {b : Nat → Nat} {l m M : Nat} {T E K : Nat → Prop} {fs fs1 fs2 fs3 : Nat → Int32} {un p un1 p1 un2 p2 un3 : Nat} {fa1 fa2 e : Int32} {x : Int32}
theorem PQ.op5 (h : b p = 33 ∨ b p = 40) : PQ b 0 T E m fs un p fs un p 5 :=
  ⟨⟨Nat.le_refl _, fun _ _ => rfl⟩, fun q => absurd q (by decide), fun _ g dE ho _ => ld_op5 h (by omega)⟩
theorem PQ.not (h : b p = 33) (hs : PQ b l tPi kN m fs un (p + 1) fs1 un1 p1 fa1) (ha : adM (nI (16 * 0 + 11)) fs1 un1 fs2 un2) (hup : un ≤ p) (hp : p1 ≤ 200) (hm : 1 ≤ m) (hM : m ≤ M) : PQ b (l + 1) T kN M fs un p fs2 un2 p1 fa1 := by
  obtain ⟨⟨a1, a1'⟩, a2, a3⟩ := hs
  obtain ⟨g1, g1'⟩ := ha.pre
  have ht : ∀ (d : DnM) (g : StkA), tPi (topA ((b p, d) :: g)) := fun d g => Or.inr (Or.inl h)
  refine ⟨⟨by omega, fun j hj => by rw [g1' j (by omega), a1' j hj]⟩, fun q => ?_, fun q g dE ho _ => (ld_op (Or.inl h) (by omega)).tr (a3 q _ dE (by rw [opn_o (by omega)]; omega) (ht _ _))⟩
  obtain ⟨c1, c2, d, c0, c3, c4⟩ := a2 q
  obtain ⟨rfl, rfl⟩ := ha.1 (by omega)
  refine ⟨by omega, fun w => w, dNot d, d01_not c0, ImC_le (ImC_not (ImC_fs c3 (fun j u v => upd_o (by omega))) (by rw [upd_a]; exact (kd_nI (o := 0) (k := 11) (by omega) (by omega)).1) hm) hM, fun g dE ho _ => (ld_op (Or.inl h) (by omega)).tr ((c4 _ dE (by rw [opn_o (by omega)]; omega) (ht _ _)).tr ?_)⟩
  rw [h]
  exact ld_not
theorem PQ.par (h : b p = 40) (hs : PQ b l tAn kO m fs un (p + 1) fs1 un1 p1 0) (hc : b p1 = 41) (hM : m ≤ M) : PQ b (l + 1) tPi kN M fs un p fs1 un1 (p1 + 1) 0 := by
  obtain ⟨a1, a2, -⟩ := hs
  obtain ⟨c1, c2, d, c0, c3, c4⟩ := a2 rfl
  refine ⟨a1, fun _ => ⟨by omega, fun q => q, d, c0, ImC_le c3 hM, fun g dE ho ht => (ld_op (Or.inr h) (by omega)).tr ?_⟩, fun q => absurd rfl q⟩
  have hg : ¬ g = [] := fun q => by
    subst q
    rcases ht with w | w | w | w <;> exact absurd w (by decide)
  have hs := c4 ((b p, dzA) :: g) dE (by rw [opn_o (by omega)]; omega) h
  rw [h] at hs ⊢
  exact hs.tr (ld_cl hg hc)
theorem PQ.par1 (h : b p = 40) (hs : PQ b l tAn kO m fs un (p + 1) fs1 un1 p1 0) (hc : ¬ b p1 = 41) : PQ b (l + 1) T E M fs un p fs1 un1 p1 1 := by
  obtain ⟨a1, a2, -⟩ := hs
  obtain ⟨c1, c2, d, c0, c3, c4⟩ := a2 rfl
  exact ⟨a1, fun q => absurd q (by decide), fun _ g dE ho _ => (ld_op (Or.inr h) (by omega)).tr ((c4 ((b p, dzA) :: g) dE (by rw [opn_o (by omega)]; omega) h).tr (ld_31 (fun q => c2 (Or.inl q)) (fun q => c2 (Or.inr q)) hc _ _))⟩
theorem PQ.parE (h : b p = 40) (hs : PQ b l tAn kO m fs un (p + 1) fs1 un1 p1 fa1) (hf : ¬ fa1 = 0) : PQ b (l + 1) T E M fs un p fs1 un1 p1 fa1 := by
  obtain ⟨a1, -, a3⟩ := hs
  exact ⟨a1, fun q => absurd q hf, fun _ g dE ho _ => (ld_op (Or.inr h) (by omega)).tr (a3 hf ((b p, dzA) :: g) dE (by rw [opn_o (by omega)]; omega) h)⟩
theorem PQ.cmE (h : ¬ (b p = 33 ∨ b p = 40)) (hs : NQ b l kS kS m fs un p fs1 un1 p1 fa1) (hf : ¬ fa1 = 0) (h2 : un1 ≤ un2 ∧ ∀ j, j < un1 → fs2 j = fs1 j) : PQ b l tPi E M fs un p fs2 un2 p1 fa1 := by
  obtain ⟨a1, -, a3⟩ := hs
  exact ⟨⟨by omega, fun j hj => by rw [h2.2 j (by omega), a1.2 j hj]⟩, fun q => absurd q hf, fun _ g dE ho ht => (ld_20 h).tr (a3 hf g dE ho (cd_kS ht))⟩
theorem PQ.cm1 (h : ¬ (b p = 33 ∨ b p = 40)) (hs : NQ b l kS kS m fs un p fs1 un1 p1 0) (hc : cmP (b p1) = 0) (h2 : un1 ≤ un2 ∧ ∀ j, j < un1 → fs2 j = fs1 j) : PQ b l tPi E M fs un p fs2 un2 p1 1 := by
  obtain ⟨a1, a2, -⟩ := hs
  obtain ⟨c1, c2, d, c3, c4⟩ := a2 rfl
  exact ⟨⟨by omega, fun j hj => by rw [h2.2 j (by omega), a1.2 j hj]⟩, fun q => absurd q (by decide), fun _ g dE ho ht => (ld_20 h).tr ((c4 g dE ho (cd_kS ht)).tr (ld_cm1 ht c2 hc))⟩
theorem PQ.cmp (h : ¬ (b p = 33 ∨ b p = 40)) (hs : NQ b l kS kS m fs un p fs1 un1 p1 0) (hc : ¬ cmP (b p1) = 0) (hf : NQ b l kS kS m fs1 un1 (p1 + 1) fs2 un2 p2 fa2) (ha : adM (nI (16 * 0 + cmP (b p1))) fs2 un2 fs3 un3) (hup : un ≤ p) (hp2 : p2 ≤ 200) (hm1 : 1 ≤ m) (hM : m + 1 ≤ M) : PQ b l tPi kN M fs un p fs3 un3 p2 fa2 := by
  obtain ⟨⟨a1, a1'⟩, a2, -⟩ := hs
  obtain ⟨c1, c2, d, c3, c4⟩ := a2 rfl
  obtain ⟨⟨f1, f1'⟩, f2, f3⟩ := hf
  obtain ⟨g1, g1'⟩ := ha.pre
  have hT : ∀ (d : DnM) (g : StkA), ¬ kS (topA ((b p1, d) :: g)) := fun d g => cm_kS hc
  refine ⟨⟨by omega, fun j hj => by rw [g1' j (by omega), f1' j (by omega), a1' j hj]⟩, fun q => ?_, fun q g dE ho ht => (ld_20 h).tr ((c4 g dE ho (cd_kS ht)).tr ((ld_cmP ht hc).tr (f3 q _ dE (by rw [opn_n (cm_n hc)]; exact ho) (hT _ _))))⟩
  obtain ⟨h1, h2, e, h3, h4⟩ := f2 q
  obtain ⟨rfl, rfl⟩ := ha.1 (by omega)
  have har := cm_ar hc
  obtain ⟨k1, k2⟩ := kd_nI (o := 0) (k := cmP (b p1)) (by omega) (by omega)
  refine ⟨by omega, fun w => w, dBin (cmP (b p1)) d e, d01_cm (cm_8 hc), ?_, fun g dE ho ht => (ld_20 h).tr ((c4 g dE ho (cd_kS ht)).tr ((ld_cmP ht hc).tr ((h4 _ dE (by rw [opn_n (cm_n hc)]; exact ho) (hT _ _)).tr (ld_cm hc h2))))⟩
  refine ImC_le (ImC_bin (m1 := m) (m2 := m) (ImC_fs c3 (fun j u v => ?_)) (ImC_fs h3 (fun j u v => upd_o (by omega))) (by rw [upd_a]; exact k1) har hm1 hm1) (by omega)
  rw [upd_o (by omega), f1' j (by omega)]
theorem PQ.upA (h : PQ b l tPi kN m fs un p fs1 un1 p1 fa1) : PQ b l tAl kN m fs un p fs1 un1 p1 fa1 := by
  obtain ⟨a1, a2, a3⟩ := h
  have hT : ∀ t, tAl t → tPi t := fun t ht => ht.elim Or.inl (fun q => Or.inr (Or.inr (Or.inr q)))
  refine ⟨a1, fun q => ?_, fun q g dE ho ht => a3 q g dE ho (hT _ ht)⟩
  obtain ⟨c1, c2, d, c0, c3, c4⟩ := a2 q
  exact ⟨c1, c2, d, c0, c3, fun g dE ho ht => c4 g dE ho (hT _ ht)⟩
theorem PQ.upO (h : PQ b l tAl kA m fs un p fs1 un1 p1 fa1) : PQ b l tAn kA m fs un p fs1 un1 p1 fa1 := by
  obtain ⟨a1, a2, a3⟩ := h
  refine ⟨a1, fun q => ?_, fun q g dE ho ht => a3 q g dE ho (Or.inl ht)⟩
  obtain ⟨c1, c2, d, c0, c3, c4⟩ := a2 q
  exact ⟨c1, c2, d, c0, c3, fun g dE ho ht => c4 g dE ho (Or.inl ht)⟩
theorem PQ.fin (h : PQ b l T E m fs un p fs1 un1 p1 fa1) (hk : fa1 = 0 → ¬ K (b p1)) : PQ b l T K m fs un p fs1 un1 p1 fa1 := by
  obtain ⟨a1, a2, a3⟩ := h
  refine ⟨a1, fun q => ?_, a3⟩
  obtain ⟨c1, c2, c3⟩ := a2 q
  exact ⟨c1, hk q, c3⟩
/-- a skip lands where the code ends now -/
def laM (s : Nat) (fs : Nat → Int32) (un : Nat) (fs1 : Nat → Int32) : Prop := (s < un → fs1 = upd fs s (nI (16 * un + kdM (fs s)))) ∧ (¬ s < un → fs1 = fs)
theorem PQ.all {fs4 : Nat → Int32} {sk : Nat} (hw : PQ b l tAl kN m fs un p fs1 un1 p1 0) (hc : b p1 = 38) (hsk : un1 < 200 → sk = un1) (hsk2 : un1 ≤ sk) (ha : adM (nI (16 * 0 + 12)) fs1 un1 fs2 un2) (hf : PQ b l tPi kN m fs2 un2 (p1 + 1) fs3 un3 p2 fa2) (hl : laM sk fs3 un3 fs4) (hup : un ≤ p) (hp1 : p1 < 200) (hu3 : un3 ≤ 200) (hm : 1 ≤ m) : PQ b l tAl kN m fs un p fs4 un3 p2 fa2 := by
  obtain ⟨⟨a1, a1'⟩, a2, -⟩ := hw
  obtain ⟨c1, c2, d, c0, c3, c4⟩ := a2 rfl
  obtain ⟨⟨f1, f1'⟩, f2, f3⟩ := hf
  have hT : ∀ (d : DnM) (g : StkA), tPi (topA ((38, d) :: g)) := fun d g => Or.inr (Or.inr (Or.inl rfl))
  obtain ⟨rfl, rfl⟩ := ha.1 (by omega)
  have es : sk = un1 := hsk (by omega)
  rw [es] at hl
  obtain rfl := hl.1 (by omega)
  refine ⟨⟨by omega, fun j hj => by rw [upd_o (by omega), f1' j (by omega), upd_o (by omega), a1' j hj]⟩, fun q => ?_, fun q g dE ho ht => (c4 g dE ho ht).tr ((ld_andP ht hc).tr (f3 q _ dE (by rw [opn_n (by omega)]; exact ho) (hT _ _)))⟩
  obtain ⟨h1, h2, e, h0, h3, h4⟩ := f2 q
  have ek : kdM (fs3 un1) = 12 := by rw [f1' un1 (by omega), upd_a]; exact (kd_nI (o := 0) (k := 12) (by omega) (by omega)).1
  obtain ⟨k1, k2⟩ := kd_nI (o := un3) (k := 12) (by omega) (by omega)
  refine ⟨by omega, fun w => w, dAnd d e, d01_and h0, ?_, fun g dE ho ht => (c4 g dE ho ht).tr ((ld_andP ht hc).tr ((h4 _ dE (by rw [opn_n (by omega)]; exact ho) (hT _ _)).tr ld_and))⟩
  refine ImC_and (ImC_fs c3 (fun j u v => ?_)) (ImC_fs h3 (fun j u v => upd_o (by omega))) (by rw [upd_a, ek]; exact k1) (by rw [upd_a, ek]; exact k2) c0 hm
  rw [upd_o (by omega), f1' j (by omega), upd_o (by omega)]
theorem PQ.any {fs4 : Nat → Int32} {sk : Nat} (hw : PQ b l tAn kA m fs un p fs1 un1 p1 0) (hc : b p1 = 124) (hsk : un1 < 200 → sk = un1) (hsk2 : un1 ≤ sk) (ha : adM (nI (16 * 0 + 13)) fs1 un1 fs2 un2) (hf : PQ b l tAl kA m fs2 un2 (p1 + 1) fs3 un3 p2 fa2) (hl : laM sk fs3 un3 fs4) (hup : un ≤ p) (hp1 : p1 < 200) (hu3 : un3 ≤ 200) (hm : 1 ≤ m) : PQ b l tAn kA m fs un p fs4 un3 p2 fa2 := by
  obtain ⟨⟨a1, a1'⟩, a2, -⟩ := hw
  obtain ⟨c1, c2, d, c0, c3, c4⟩ := a2 rfl
  obtain ⟨⟨f1, f1'⟩, f2, f3⟩ := hf
  have hT : ∀ (d : DnM) (g : StkA), tAl (topA ((124, d) :: g)) := fun d g => Or.inr rfl
  obtain ⟨rfl, rfl⟩ := ha.1 (by omega)
  have es : sk = un1 := hsk (by omega)
  rw [es] at hl
  obtain rfl := hl.1 (by omega)
  refine ⟨⟨by omega, fun j hj => by rw [upd_o (by omega), f1' j (by omega), upd_o (by omega), a1' j hj]⟩, fun q => ?_, fun q g dE ho ht => (c4 g dE ho ht).tr ((ld_orP ht hc).tr (f3 q _ dE (by rw [opn_n (by omega)]; exact ho) (hT _ _)))⟩
  obtain ⟨h1, h2, e, h0, h3, h4⟩ := f2 q
  have ek : kdM (fs3 un1) = 13 := by rw [f1' un1 (by omega), upd_a]; exact (kd_nI (o := 0) (k := 13) (by omega) (by omega)).1
  obtain ⟨k1, k2⟩ := kd_nI (o := un3) (k := 13) (by omega) (by omega)
  refine ⟨by omega, h2, dOr d e, d01_or h0, ?_, fun g dE ho ht => (c4 g dE ho ht).tr ((ld_orP ht hc).tr ((h4 _ dE (by rw [opn_n (by omega)]; exact ho) (hT _ _)).tr (ld_or h2)))⟩
  refine ImC_or (ImC_fs c3 (fun j u v => ?_)) (ImC_fs h3 (fun j u v => upd_o (by omega))) (by rw [upd_a, ek]; exact k1) (by rw [upd_a, ek]; exact k2) c0 hm
  rw [upd_o (by omega), f1' j (by omega), upd_o (by omega)]
end PIECES
/-! THE TEXTS, 5: signs, and what each method of the reader by descent leaves -/
theorem sH_1 : ∀ k, k < 256 → (sHas 1 k = true ↔ k = 91) := by decide +kernel
theorem sH_2 : ∀ k, k < 256 → (sHas 2 k = true ↔ k = 93) := by decide +kernel
theorem sH_3 : ∀ k, k < 256 → (sHas 3 k = true ↔ ltP k) := by decide +kernel
theorem sH_4 : ∀ k, k < 256 → (sHas 4 k = true ↔ dgP k) := by decide +kernel
theorem sH_5 : ∀ k, k < 256 → (sHas 5 k = true ↔ ¬ tmP k = 0) := by decide +kernel
theorem sH_6 : ∀ k, k < 256 → (sHas 6 k = true ↔ ¬ plP k = 0) := by decide +kernel
theorem sH_7 : ∀ k, k < 256 → (sHas 7 k = true ↔ k = 40) := by decide +kernel
theorem sH_8 : ∀ k, k < 256 → (sHas 8 k = true ↔ k = 33) := by decide +kernel
theorem sH_9 : ∀ k, k < 256 → (sHas 9 k = true ↔ k = 41) := by decide +kernel
theorem sH_10 : ∀ k, k < 256 → (sHas 10 k = true ↔ ¬ cmP k = 0) := by decide +kernel
theorem sH_11 : ∀ k, k < 256 → (sHas 11 k = true ↔ k = 38) := by decide +kernel
theorem sH_12 : ∀ k, k < 256 → (sHas 12 k = true ↔ k = 124) := by decide +kernel
theorem sH_13 : ∀ k, k < 256 → (sHas 13 k = true ↔ k = 59) := by decide +kernel
theorem sH_z : ∀ i, i < 16 → ¬ sHas i 0 = true := by decide +kernel
theorem s_hasn {i k : Nat} (hi : i < 16) (h : ∀ j, j < sLen.getD i 0 → ¬ (sByt.getD i []).getD j 0 = (nI k).toInt8.toInt32) : ¬ sHas i k = true := by
  have h1 := (s_len i hi).1
  rw [h1] at h
  unfold sHas
  rw [List.contains_iff_mem]
  generalize sByt.getD i [] = L at h
  intro hm
  obtain ⟨j, hj, e⟩ := List.getElem_of_mem hm
  refine h j hj ?_
  rw [List.getD_eq_getElem?_getD, List.getElem?_eq_getElem hj]
  exact e
/-- the bytes of a text: beyond its end none -/
def BLt (bb : Nat → Nat) (en : Nat) : Prop := (∀ p, bb p < 256) ∧ ∀ p, en ≤ p → bb p = 0
def BT (bb : Nat → Nat) (tb : Nat → Int32) (en : Nat) : Prop := ∀ p, p < en → tb p &&& 255 = nI (bb p)
def SGb (bb : Nat → Nat) (sg : Int32) (pa en : Nat) : Prop := (pa < en ∧ sg = nI (bb pa)) ∨ (en ≤ pa ∧ sg = -1)
def bF (tb : Nat → Int32) (n p : Nat) : Nat := if p < n then (tb p &&& 255).toNatClampNeg else 0
theorem bF_lt (tb : Nat → Int32) (n p : Nat) : bF tb n p < 256 := by
  unfold bF
  split
  · obtain ⟨q, hq, e⟩ := pk_andE (tb p) (m := 255) 8 (by decide)
    rw [e, nI_clamp (by omega)]
    omega
  · omega
theorem bF_BL (tb : Nat → Int32) (n : Nat) : BLt (bF tb n) n := ⟨bF_lt tb n, fun p hp => if_neg (by omega)⟩
theorem bF_BT (tb : Nat → Int32) (n : Nat) : BT (bF tb n) tb n := by
  intro p hp
  unfold bF
  rw [if_pos hp]
  obtain ⟨q, hq, e⟩ := pk_andE (tb p) (m := 255) 8 (by decide)
  rw [e, nI_clamp (by omega)]
section SIGNS
variable {bb : Nat → Nat} {tb : Nat → Int32} {sg r fa : Int32} {pa en i : Nat}
theorem sgb_of (h : SGb bb sg pa en) (c : ¬ sg < 0) : pa < en ∧ sg = nI (bb pa) := h.elim id (fun q => absurd (by rw [q.2]; decide) c)
theorem sgb_no (h : SGb bb sg pa en) (hl : BLt bb en) (hi : i < 16) (c : sg < 0) : ¬ sHas i (bb pa) = true := by
  rcases h with ⟨h1, h2⟩ | ⟨h1, h2⟩
  · rw [h2] at c
    exact absurd c (nI_pos (Nat.lt_trans (hl.1 pa) (by decide)))
  · rw [hl.2 pa h1]
    exact sH_z i hi
theorem ix_no {P : Prop} (h : (0 ≤ r ∧ P) ∨ (r < 0 ∧ ¬ P)) (c : r < 0) : ¬ P := h.elim (fun q => absurd c (Int32.not_lt.mpr q.1)) (fun q => q.2)
theorem ix_yes {P : Prop} (h : (0 ≤ r ∧ P) ∨ (r < 0 ∧ ¬ P)) (c : ¬ r < 0) : P := h.elim (fun q => q.2) (fun q => absurd q.1 c)
theorem sgb_in (h : pa < en) (ht : BT bb tb en) : SGb bb (tb pa &&& 255) pa en := Or.inl ⟨h, ht pa h⟩
theorem sgb_cm (h : SGb bb sg pa en) (hl : BLt bb en) (hc : ¬ cmP (bb pa) = 0) : sg = nI (bb pa) := by
  rcases h with ⟨h1, h2⟩ | ⟨h1, h2⟩
  · exact h2
  · exact absurd (by rw [hl.2 pa h1]; rfl) hc
theorem cm_k8 (h : SGb bb sg pa en) (hl : BLt bb en) (e : sg = 60) : ¬ cmP (bb pa) = 0 → cmP (bb pa) = 8 := fun hc => by
  have e2 := (sgb_cm h hl hc).symm.trans e
  rw [(nI_eq (a := bb pa) (b := 60) (Nat.lt_trans (hl.1 pa) (by decide)) (by decide)).mp e2]
  rfl
theorem cm_k9 (h : SGb bb sg pa en) (hl : BLt bb en) (e : sg = 62) : ¬ cmP (bb pa) = 0 → cmP (bb pa) = 9 := fun hc => by
  have e2 := (sgb_cm h hl hc).symm.trans e
  rw [(nI_eq (a := bb pa) (b := 62) (Nat.lt_trans (hl.1 pa) (by decide)) (by decide)).mp e2]
  rfl
theorem cm_k10 (h : SGb bb sg pa en) (hl : BLt bb en) (e1 : ¬ sg = 60) (e2 : ¬ sg = 62) : ¬ cmP (bb pa) = 0 → cmP (bb pa) = 10 := fun hc => by
  have e := sgb_cm h hl hc
  have n1 : ¬ bb pa = 60 := fun q => e1 (by rw [e, q]; rfl)
  have n2 : ¬ bb pa = 62 := fun q => e2 (by rw [e, q]; rfl)
  unfold cmP at *
  rw [if_neg n1, if_neg n2] at *
  split at hc
  · rename_i q; rw [if_pos q]
  · exact absurd rfl hc
end SIGNS
theorem tm_5 {c : Nat} (h : c = 42) : tmP c = 5 := by rw [h]; rfl
theorem tm_6 {c : Nat} (h : c = 47) : tmP c = 6 := by rw [h]; rfl
theorem tm_7 {c : Nat} (h1 : c ≠ 42) (h2 : c ≠ 47) (h : ¬ tmP c = 0) : tmP c = 7 := by
  unfold tmP at *
  rw [if_neg h1, if_neg h2] at *
  split at h
  · rename_i q; rw [if_pos q]
  · exact absurd rfl h
theorem pl_3 {c : Nat} (h : c = 43) : plP c = 3 := by rw [h]; rfl
theorem pl_4 {c : Nat} (h1 : c ≠ 43) (h : ¬ plP c = 0) : plP c = 4 := by
  unfold plP at *
  rw [if_neg h1] at *
  split at h
  · rename_i q; rw [if_pos q]
  · exact absurd rfl h
def rfQ (n f f1 : Int32) : Prop := (f = 0 → f1 = n) ∧ (¬ f = 0 → f1 = f)
def tkQ (P : Prop) (p : Nat) (f : Int32) (p1 : Nat) (f1 : Int32) : Prop := (f = 0 → (P → p1 = p + 1 ∧ f1 = 0) ∧ (¬ P → p1 = p ∧ f1 = 1)) ∧ (¬ f = 0 → p1 = p ∧ f1 = f)
theorem tkQ.y {P : Prop} {p p1 : Nat} {f : Int32} (hf : f = 0) (hP : P) (e : p1 = p + 1) : tkQ P p f p1 0 := ⟨fun _ => ⟨fun _ => ⟨e, rfl⟩, fun q => absurd hP q⟩, fun q => absurd hf q⟩
theorem tkQ.n {P : Prop} {p : Nat} {f f1 : Int32} (hn : f = 0 → ¬ P) (hr : rfQ 1 f f1) : tkQ P p f p f1 := ⟨fun q => ⟨fun w => absurd w (hn q), fun _ => ⟨rfl, hr.1 q⟩⟩, fun q => ⟨rfl, hr.2 q⟩⟩
def NQd (b : Nat → Nat) (l : Nat) (T E : Nat → Prop) (m : Nat) (fs : Nat → Int32) (un p : Nat) (fs1 : Nat → Int32) (un1 p1 : Nat) (fa0 fa1 : Int32) : Prop :=
  (fa0 = 0 → NQ b l T E m fs un p fs1 un1 p1 fa1) ∧ (¬ fa0 = 0 → (un ≤ un1 ∧ ∀ j, j < un → fs1 j = fs j) ∧ p1 = p ∧ fa1 = fa0)
def PQd (b : Nat → Nat) (l : Nat) (T E : Nat → Prop) (m : Nat) (fs : Nat → Int32) (un p : Nat) (fs1 : Nat → Int32) (un1 p1 : Nat) (fa0 fa1 : Int32) : Prop :=
  (fa0 = 0 → PQ b l T E m fs un p fs1 un1 p1 fa1) ∧ (¬ fa0 = 0 → (un ≤ un1 ∧ ∀ j, j < un → fs1 j = fs j) ∧ p1 = p ∧ fa1 = fa0)
def nuQ (b : Nat → Nat) (fs : Nat → Int32) (un p : Nat) (fs1 : Nat → Int32) (un1 p1 : Nat) (fa1 : Int32) : Prop := ∀ l, NQ b l kN kN 1 fs un p fs1 un1 p1 fa1
section DNUM
variable {b : Nat → Nat} {l m M k : Nat} {T E K : Nat → Prop} {fs fs1 fs2 fs3 fs4 : Nat → Int32} {un p p0 un1 p1 un2 p2 un3 p3 : Nat} {fa0 fa1 fa2 fa3 fw : Int32}
theorem NQd.br (hs : NQd b l kS kS m fs un p0 fs1 un1 p1 0 fa1) (ht : tkQ (sHas 2 (b p1) = true) p1 fa1 p2 fa2) (hf : fa0 = 0) (h : b p = 91) (e : p0 = p + 1) (hb : ∀ p, b p < 256) (hm : m ≤ M) : NQd b (l + 1) kN kN M fs un p fs1 un1 p2 fa0 fa2 := by
  subst e
  refine ⟨fun _ => ?_, fun q => absurd hf q⟩
  have hs := hs.1 rfl
  by_cases q : fa1 = 0
  · subst q
    obtain ⟨t1, t2⟩ := ht.1 rfl
    by_cases c : b p1 = 93
    · obtain ⟨rfl, rfl⟩ := t1 ((sH_2 _ (hb _)).mpr c)
      exact (NQ.br h hs c).up hm
    · obtain ⟨rfl, rfl⟩ := t2 (fun w => c ((sH_2 _ (hb _)).mp w))
      exact NQ.br1 h hs c
  · obtain ⟨rfl, rfl⟩ := ht.2 q
    exact NQ.brE h hs q
theorem NQd.br5 (hf : fa0 = 0) (h : b p = 91) (hr : fa2 = 5) : NQd b 0 kN kN m fs un p fs un p fa0 fa2 := by
  subst hr
  exact ⟨fun _ => NQ.br5 h, fun q => absurd hf q⟩
theorem NQd.ltr (ha : adM (nI (16 * (b p - 97) + 2)) fs un fs1 un1) (hf : fa0 = 0) (hc : ltP (b p)) (hup : fa0 = 0 → un ≤ p) (hp : p < 200) (e : p1 = p + 1) (hm : 1 ≤ M) : NQd b l kN kN M fs un p fs1 un1 p1 fa0 0 := by
  subst e
  exact ⟨fun _ => (NQ.ltr hc (by have := hup hf; omega) ha).up hm, fun q => absurd hf q⟩
theorem NQd.num (hq : nuQ b fs un p fs1 un1 p1 fa1) (hf : fa0 = 0) (hm : 1 ≤ M) : NQd b l kN kN M fs un p fs1 un1 p1 fa0 fa1 := ⟨fun _ => (hq l).up hm, fun q => absurd hf q⟩
theorem NQd.no (h1 : fa0 = 0 → ¬ b p = 91) (h2 : fa0 = 0 → ¬ ltP (b p)) (h3 : fa0 = 0 → ¬ dgP (b p)) (hr : rfQ 1 fa0 fa2) : NQd b l kN kN m fs un p fs un p fa0 fa2 := by
  refine ⟨fun q => ?_, fun q => ⟨⟨Nat.le_refl _, fun _ _ => rfl⟩, rfl, hr.2 q⟩⟩
  rw [hr.1 q]
  exact NQ.no (h1 q) (h3 q) (h2 q)
theorem NQd.up (h : NQd b l kN kN m fs un p fs1 un1 p1 fa0 fa1) (hm : m ≤ M) : NQd b l T kN M fs un p fs1 un1 p1 fa0 fa1 := ⟨fun q => (h.1 q).up hm, h.2⟩
theorem NQd.upS (h : NQd b l kT kT m fs un p fs1 un1 p1 fa0 fa1) (hm : m ≤ M) : NQd b l kS kT M fs un p fs1 un1 p1 fa0 fa1 := ⟨fun q => (h.1 q).upS hm, h.2⟩
theorem NQd.finT (h : NQd b l T kN m fs un p fs1 un1 p1 fa0 fa1) (hk : fa1 = 0 → ¬ ¬ tmP (b p1) = 0) : NQd b l T kT m fs un p fs1 un1 p1 fa0 fa1 := ⟨fun q => (h.1 q).fin hk, h.2⟩
theorem NQd.finT0 (h : NQd b l T kN m fs un p fs1 un1 p1 fa0 fa1) (hz : b p1 = 0) : NQd b l T kT m fs un p fs1 un1 p1 fa0 fa1 := ⟨fun q => (h.1 q).fin (fun _ => by rw [hz]; decide), h.2⟩
theorem NQd.finS (h : NQd b l T kT m fs un p fs1 un1 p1 fa0 fa1) (hk : fa1 = 0 → ¬ ¬ plP (b p1) = 0) : NQd b l T kS m fs un p fs1 un1 p1 fa0 fa1 :=
  ⟨fun q => (h.1 q).fin (fun w z => z.elim ((h.1 q).2.1 w).2.1 (hk w)), h.2⟩
theorem NQd.finS0 (h : NQd b l T kT m fs un p fs1 un1 p1 fa0 fa1) (hz : b p1 = 0) : NQd b l T kS m fs un p fs1 un1 p1 fa0 fa1 := ⟨fun q => (h.1 q).fin (fun _ => by rw [hz]; decide), h.2⟩
theorem NQd.live (h : NQd b l T E m fs un p fs1 un1 p1 fa0 fw) (hw : fw = 0) : fa0 = 0 := Decidable.byContradiction fun q => q ((h.2 q).2.2.symm.trans hw)
theorem NQd.prod (hw : NQd b l kT kN M fs un p fs1 un1 p1 fa0 fw) (hf : NQd b l kN kN m fs1 un1 p0 fs2 un2 p2 0 fa2) (ha : adM (nI (16 * 0 + k)) fs2 un2 fs3 un3) (hfw : fw = 0) (hc : ¬ tmP (b p1) = 0) (hk : tmP (b p1) = k) (e : p0 = p1 + 1) (hup : fa0 = 0 → un ≤ p) (hp2 : p2 ≤ 200) (hm1 : 1 ≤ m) (hM : m + 1 ≤ M) : NQd b l kT kN M fs un p fs3 un3 p2 fa0 fa2 := by
  have h0 := hw.live hfw
  subst hfw e hk
  exact ⟨fun q => NQ.prod (hw.1 q) hc (hf.1 rfl) ha (hup h0) hp2 hm1 hM, fun q => absurd h0 q⟩
theorem NQd.sum (hw : NQd b l kS kT M fs un p fs1 un1 p1 fa0 fw) (hf : NQd b l kT kT m fs1 un1 p0 fs2 un2 p2 0 fa2) (ha : adM (nI (16 * 0 + k)) fs2 un2 fs3 un3) (hfw : fw = 0) (hc : ¬ plP (b p1) = 0) (hk : plP (b p1) = k) (e : p0 = p1 + 1) (hup : fa0 = 0 → un ≤ p) (hp2 : p2 ≤ 200) (hm1 : 1 ≤ m) (hM : m + 1 ≤ M) : NQd b l kS kT M fs un p fs3 un3 p2 fa0 fa2 := by
  have h0 := hw.live hfw
  subst hfw e hk
  exact ⟨fun q => NQ.sum (hw.1 q) hc (hf.1 rfl) ha (hup h0) hp2 hm1 hM, fun q => absurd h0 q⟩
theorem PQd.not (hs : PQd b l tPi kN m fs un p0 fs1 un1 p1 0 fa1) (ha : adM (nI (16 * 0 + 11)) fs1 un1 fs2 un2) (hf : fa0 = 0) (h : b p = 33) (e : p0 = p + 1) (hup : fa0 = 0 → un ≤ p) (hp : p1 ≤ 200) (hm : 1 ≤ m) (hM : m ≤ M) : PQd b (l + 1) T kN M fs un p fs2 un2 p1 fa0 fa1 := by
  subst e
  exact ⟨fun _ => PQ.not h (hs.1 rfl) ha (hup hf) hp hm hM, fun q => absurd hf q⟩
theorem PQd.op5 (hf : fa0 = 0) (h : b p = 33 ∨ b p = 40) (hr : fa2 = 5) : PQd b 0 T E m fs un p fs un p fa0 fa2 := by
  subst hr
  exact ⟨fun _ => PQ.op5 h, fun q => absurd hf q⟩
theorem PQd.par (hs : PQd b l tAn kO m fs un p0 fs1 un1 p1 0 fa1) (ht : tkQ (sHas 9 (b p1) = true) p1 fa1 p2 fa2) (hf : fa0 = 0) (h : b p = 40) (e : p0 = p + 1) (hb : ∀ p, b p < 256) (hM : m ≤ M) : PQd b (l + 1) tPi kN M fs un p fs1 un1 p2 fa0 fa2 := by
  subst e
  refine ⟨fun _ => ?_, fun q => absurd hf q⟩
  have hs := hs.1 rfl
  by_cases q : fa1 = 0
  · subst q
    obtain ⟨t1, t2⟩ := ht.1 rfl
    by_cases c : b p1 = 41
    · obtain ⟨rfl, rfl⟩ := t1 ((sH_9 _ (hb _)).mpr c)
      exact PQ.par h hs c hM
    · obtain ⟨rfl, rfl⟩ := t2 (fun w => c ((sH_9 _ (hb _)).mp w))
      exact PQ.par1 h hs c
  · obtain ⟨rfl, rfl⟩ := ht.2 q
    exact PQ.parE h hs q
theorem PQd.cmp (hs : NQd b l kS kS m fs un p fs1 un1 p1 fa0 fa1) (ht : tkQ (sHas 10 (b p1) = true) p1 fa1 p2 fa2) (hs2 : NQd b l kS kS m fs1 un1 p2 fs2 un2 p3 fa2 fa3) (ha : adM (nI (16 * 0 + k)) fs2 un2 fs3 un3) (hk : ¬ cmP (b p1) = 0 → cmP (b p1) = k) (h1 : fa0 = 0 → ¬ b p = 33) (h2 : fa0 = 0 → ¬ b p = 40) (hb : ∀ p, b p < 256) (hup : fa0 = 0 → un ≤ p) (hp3 : p3 ≤ 200) (hm1 : 1 ≤ m) (hM : m + 1 ≤ M) : PQd b l tPi kN M fs un p fs3 un3 p3 fa0 fa3 := by
  obtain ⟨g1, g1'⟩ := ha.pre
  by_cases q0 : fa0 = 0
  · refine ⟨fun _ => ?_, fun q => absurd q0 q⟩
    have hn : ¬ (b p = 33 ∨ b p = 40) := fun w => w.elim (h1 q0) (h2 q0)
    have hs := hs.1 q0
    by_cases q1 : fa1 = 0
    · subst q1
      obtain ⟨t1, t2⟩ := ht.1 rfl
      by_cases c : cmP (b p1) = 0
      · obtain ⟨rfl, rfl⟩ := t2 (fun w => ((sH_10 _ (hb _)).mp w) c)
        obtain ⟨⟨z1, z2⟩, rfl, rfl⟩ := hs2.2 (by decide)
        exact PQ.cm1 hn hs c ⟨by omega, fun j hj => by rw [g1' j (by omega), z2 j hj]⟩
      · obtain ⟨rfl, rfl⟩ := t1 ((sH_10 _ (hb _)).mpr c)
        rw [← hk c] at ha
        exact PQ.cmp hn hs c (hs2.1 rfl) ha (hup q0) hp3 hm1 hM
    · obtain ⟨rfl, rfl⟩ := ht.2 q1
      obtain ⟨⟨z1, z2⟩, rfl, rfl⟩ := hs2.2 q1
      exact PQ.cmE hn hs q1 ⟨by omega, fun j hj => by rw [g1' j (by omega), z2 j hj]⟩
  · refine ⟨fun q => absurd q q0, fun _ => ?_⟩
    obtain ⟨⟨y1, y2⟩, rfl, rfl⟩ := hs.2 q0
    obtain ⟨rfl, rfl⟩ := ht.2 q0
    obtain ⟨⟨z1, z2⟩, rfl, rfl⟩ := hs2.2 q0
    exact ⟨⟨by omega, fun j hj => by rw [g1' j (by omega), z2 j (by omega), y2 j hj]⟩, rfl, rfl⟩
theorem PQd.upA (h : PQd b l tPi kN m fs un p fs1 un1 p1 fa0 fa1) : PQd b l tAl kN m fs un p fs1 un1 p1 fa0 fa1 := ⟨fun q => (h.1 q).upA, h.2⟩
theorem PQd.upO (h : PQd b l tAl kA m fs un p fs1 un1 p1 fa0 fa1) : PQd b l tAn kA m fs un p fs1 un1 p1 fa0 fa1 := ⟨fun q => (h.1 q).upO, h.2⟩
theorem PQd.live (h : PQd b l T E m fs un p fs1 un1 p1 fa0 fw) (hw : fw = 0) : fa0 = 0 := Decidable.byContradiction fun q => q ((h.2 q).2.2.symm.trans hw)
theorem PQd.all (hw : PQd b l tAl kN m fs un p fs1 un1 p1 fa0 fw) (hf : PQd b l tPi kN m fs2 un2 p0 fs3 un3 p2 0 fa2) (ha : adM (nI (16 * 0 + 12)) fs1 un1 fs2 un2) (hl : laM un1 fs3 un3 fs4) (hfw : fw = 0) (hc : b p1 = 38) (e : p0 = p1 + 1) (hup : fa0 = 0 → un ≤ p) (hp1 : p1 < 200) (hu3 : un3 ≤ 200) (hm : 1 ≤ m) : PQd b l tAl kN m fs un p fs4 un3 p2 fa0 fa2 := by
  have h0 := hw.live hfw
  subst hfw e
  exact ⟨fun q => PQ.all (hw.1 q) hc (fun _ => rfl) (Nat.le_refl _) ha (hf.1 rfl) hl (hup h0) hp1 hu3 hm, fun q => absurd h0 q⟩
theorem PQd.any (hw : PQd b l tAn kA m fs un p fs1 un1 p1 fa0 fw) (hf : PQd b l tAl kA m fs2 un2 p0 fs3 un3 p2 0 fa2) (ha : adM (nI (16 * 0 + 13)) fs1 un1 fs2 un2) (hl : laM un1 fs3 un3 fs4) (hfw : fw = 0) (hc : b p1 = 124) (e : p0 = p1 + 1) (hup : fa0 = 0 → un ≤ p) (hp1 : p1 < 200) (hu3 : un3 ≤ 200) (hm : 1 ≤ m) : PQd b l tAn kA m fs un p fs4 un3 p2 fa0 fa2 := by
  have h0 := hw.live hfw
  subst hfw e
  exact ⟨fun q => PQ.any (hw.1 q) hc (fun _ => rfl) (Nat.le_refl _) ha (hf.1 rfl) hl (hup h0) hp1 hu3 hm, fun q => absurd h0 q⟩
theorem PQd.finA (h : PQd b l T kN m fs un p fs1 un1 p1 fa0 fa1) (hk : fa1 = 0 → ¬ b p1 = 38) : PQd b l T kA m fs un p fs1 un1 p1 fa0 fa1 := ⟨fun q => (h.1 q).fin hk, h.2⟩
theorem PQd.finA0 (h : PQd b l T kN m fs un p fs1 un1 p1 fa0 fa1) (hz : b p1 = 0) : PQd b l T kA m fs un p fs1 un1 p1 fa0 fa1 := ⟨fun q => (h.1 q).fin (fun _ => by rw [hz]; decide), h.2⟩
theorem PQd.finO (h : PQd b l T kA m fs un p fs1 un1 p1 fa0 fa1) (hk : fa1 = 0 → ¬ b p1 = 124) : PQd b l T kO m fs un p fs1 un1 p1 fa0 fa1 :=
  ⟨fun q => (h.1 q).fin (fun w z => z.elim ((h.1 q).2.1 w).2.1 (hk w)), h.2⟩
theorem PQd.finO0 (h : PQd b l T kA m fs un p fs1 un1 p1 fa0 fa1) (hz : b p1 = 0) : PQd b l T kO m fs un p fs1 un1 p1 fa0 fa1 := ⟨fun q => (h.1 q).fin (fun _ => by rw [hz]; decide), h.2⟩
theorem NQd.upn (h : NQd b l T E m fs un p fs1 un1 p1 fa0 fa1) (hup : fa0 = 0 → un ≤ p) : fa1 = 0 → un1 ≤ p1 := fun hw => by
  have h0 := h.live hw
  have c := ((h.1 h0).2.1 hw).1
  have := hup h0
  omega
theorem PQd.upn (h : PQd b l T E m fs un p fs1 un1 p1 fa0 fa1) (hup : fa0 = 0 → un ≤ p) : fa1 = 0 → un1 ≤ p1 := fun hw => by
  have h0 := h.live hw
  have c := ((h.1 h0).2.1 hw).1
  have := hup h0
  omega
theorem up_tk {P : Prop} (h : fa1 = 0 → un1 ≤ p1) (ht : tkQ P p1 fa1 p2 fa2) : fa2 = 0 → un1 + 1 ≤ p2 := fun hw => by
  by_cases q : fa1 = 0
  · obtain ⟨t1, t2⟩ := ht.1 q
    by_cases c : P
    · have := h q
      have := (t1 c).1
      omega
    · have e := (t2 c).2
      rw [hw] at e
      exact absurd e (by decide)
  · exact absurd ((ht.2 q).2.symm.trans hw) q
theorem up_ad {x : Int32} (h : fa2 = 0 → un1 + 1 ≤ p2) (ha : adM x fs1 un1 fs2 un2) : fa2 = 0 → un2 ≤ p2 := fun hw => by
  have := h hw
  by_cases q : un1 < 200
  · have := (ha.1 q).1
    omega
  · have := (ha.2 q).1
    omega
end DNUM
/-- a number's digits -/
theorem nu_in {b : Nat → Nat} : ∀ (k v p : Nat) {w q : Nat}, nuP b k v p = .inr (w, q) → p ≤ q ∧ (v < 10 ^ (5 - k) → k ≤ 5 → w < 100000) := by
  intro k
  induction k with
  | zero =>
    intro v p w q h
    have h : (if dgP (b p) then (.inl p : Sum Nat (Nat × Nat)) else .inr (v, p)) = .inr (w, q) := h
    split at h
    · exact absurd h (by simp)
    · have h : v = w ∧ p = q := by simpa using h
      obtain ⟨rfl, rfl⟩ := h
      exact ⟨Nat.le_refl _, fun hv _ => hv⟩
  | succ k ih =>
    intro v p w q h
    have h : (if dgP (b p) then nuP b k (v * 10 + (b p - 48)) (p + 1) else (.inr (v, p) : Sum Nat (Nat × Nat))) = .inr (w, q) := h
    split at h
    · rename_i hd
      obtain ⟨r1, r2⟩ := ih _ _ h
      refine ⟨by omega, fun hv hk => r2 ?_ (by omega)⟩
      rw [show 5 - k = 5 - (k + 1) + 1 by omega, Nat.pow_succ]
      omega
    · have h : v = w ∧ p = q := by simpa using h
      obtain ⟨rfl, rfl⟩ := h
      refine ⟨Nat.le_refl _, fun hv hk => ?_⟩
      have := Nat.pow_le_pow_right (n := 10) (by decide) (show 5 - (k + 1) ≤ 5 by omega)
      omega
theorem nu_s {b : Nat → Nat} {k v p v1 p1 : Nat} {x : Sum Nat (Nat × Nat)} (h : x = nuP b (5 - k) v p) (hk : k < 5) (hd : dgP (b p)) (ev : v1 = v * 10 + b p - 48) (ep : p1 = p + 1) : x = nuP b (5 - (k + 1)) v1 p1 := by
  rw [h, ev, ep, show 5 - k = 5 - (k + 1) + 1 by omega]
  show (if dgP (b p) then nuP b (5 - (k + 1)) (v * 10 + (b p - 48)) (p + 1) else .inr (v, p)) = _
  rw [if_pos hd, show v * 10 + b p - 48 = v * 10 + (b p - 48) by omega]
theorem nu_e {b : Nat → Nat} {k v p : Nat} (hd : ¬ dgP (b p)) : nuP b k v p = .inr (v, p) := by
  cases k with
  | zero => exact if_neg hd
  | succ k => exact if_neg hd
theorem nuQ.ok {b : Nat → Nat} {fs fs1 : Nat → Int32} {un p k v p1 un1 : Nat} (hc : dgP (b p)) (hw : nuP b 5 0 p = nuP b (5 - k) v p1) (hd : ¬ dgP (b p1)) (hu : un ≤ p) (hp : p < 200) (ha : adM (nI (16 * v + 1)) fs un fs1 un1) {f2 : Int32} (hf : f2 = 0) : nuQ b fs un p fs1 un1 p1 f2 := by
  subst hf
  intro l
  have hn : nuP b 5 0 p = .inr (v, p1) := hw.trans (nu_e hd)
  obtain ⟨q1, q2⟩ := nu_in 5 0 p hn
  have hv := q2 (by decide) (by omega)
  have hne : ¬ p = p1 := fun q => hd (by rw [← q]; exact hc)
  exact NQ.num hc hn (by omega) (by omega) (by omega) ha
theorem nuQ.no {b : Nat → Nat} {fs fs1 : Nat → Int32} {un p v p1 un1 : Nat} {x f2 : Int32} (hc : dgP (b p)) (hw : nuP b 5 0 p = nuP b (5 - 5) v p1) (hd : dgP (b p1)) (hr : f2 = 2) (ha : adM x fs un fs1 un1) : nuQ b fs un p fs1 un1 p1 f2 := by
  subst hr
  intro l
  exact NQ.num2 hc (hw.trans (if_pos hd)) ha
theorem ad_up {x : Int32} {fs fs1 : Nat → Int32} {un un1 : Nat} (ha : adM x fs un fs1 un1) : un1 ≤ un + 1 := by
  by_cases q : un < 200
  · have := (ha.1 q).1
    omega
  · have := (ha.2 q).1
    omega
theorem ixn_s {L : List Int32} {x : Int32} {j1 : Nat} (h : ∀ j, j < j1 → ¬ L.getD j 0 = x) (c : ¬ L.getD j1 0 = x) : ∀ j, j < j1 + 1 → ¬ L.getD j 0 = x := by
  intro j hj
  by_cases q : j = j1
  · rw [q]; exact c
  · exact h j (by omega)
theorem lf_J1_indexOfChar_t_4 (i0 : Nat) (k0 : Nat) (hi0 : i0 < 16) (hk0 : k0 < 256) (hln : sLen.getD i0 0 ≤ 13) (x_1 : Int32) (ex_1 : x_1 = (nI k0).toInt8.toInt32) (j1 : Nat) (k7 : Nat) (hj7 : j1 ≤ (sLen.getD i0 0)) (hk7 : (sLen.getD i0 0) < j1 + (k7 + 1)) (ixn : ∀ j, j < j1 → ¬ (sByt.getD i0 []).getD j 0 = (nI k0).toInt8.toInt32) (c_2 : nI (sLen.getD i0 0) ≤ nI j1) : (sLen.getD i0 0) ≤ j1 := by
  exact (nI_leI (a := (sLen.getD i0 0)) (b := j1) (by omega) (by omega)).mp c_2
theorem lf_J1_indexOfChar_t_5 (i0 : Nat) (k0 : Nat) (hi0 : i0 < 16) (hk0 : k0 < 256) (hln : sLen.getD i0 0 ≤ 13) (x_1 : Int32) (ex_1 : x_1 = (nI k0).toInt8.toInt32) (j1 : Nat) (k7 : Nat) (hj7 : j1 ≤ (sLen.getD i0 0)) (hk7 : (sLen.getD i0 0) < j1 + (k7 + 1)) (ixn : ∀ j, j < j1 → ¬ (sByt.getD i0 []).getD j 0 = (nI k0).toInt8.toInt32) (c_2 : nI (sLen.getD i0 0) ≤ nI j1) (n_3 : (sLen.getD i0 0) ≤ j1) : (0 ≤ ((-1) : Int32) ∧ sHas i0 k0 = true) ∨ (((-1) : Int32) < 0 ∧ ¬ sHas i0 k0 = true) := by
  first | (subst_vars; exact Or.inl ⟨nI_pos' (by omega), s_has hi0 (by assumption) (by assumption)⟩) | exact Or.inr ⟨by decide, s_hasn hi0 (fun j hj => by subst_vars; exact ixn _ (by omega))⟩
theorem lf_J1_indexOfChar_t_7 (i0 : Nat) (k0 : Nat) (hi0 : i0 < 16) (hk0 : k0 < 256) (hln : sLen.getD i0 0 ≤ 13) (x_1 : Int32) (ex_1 : x_1 = (nI k0).toInt8.toInt32) (j1 : Nat) (k7 : Nat) (hj7 : j1 ≤ (sLen.getD i0 0)) (hk7 : (sLen.getD i0 0) < j1 + (k7 + 1)) (ixn : ∀ j, j < j1 → ¬ (sByt.getD i0 []).getD j 0 = (nI k0).toInt8.toInt32) (c_2 : ¬ nI (sLen.getD i0 0) ≤ nI j1) : j1 < (sLen.getD i0 0) := by
  exact Nat.lt_of_not_le (fun q => c_2 ((nI_leI (a := (sLen.getD i0 0)) (b := j1) (by omega) (by omega)).mpr q))
theorem lf_J1_indexOfChar_t_8 (i0 : Nat) (k0 : Nat) (hi0 : i0 < 16) (hk0 : k0 < 256) (hln : sLen.getD i0 0 ≤ 13) (x_1 : Int32) (ex_1 : x_1 = (nI k0).toInt8.toInt32) (j1 : Nat) (k7 : Nat) (hj7 : j1 ≤ (sLen.getD i0 0)) (hk7 : (sLen.getD i0 0) < j1 + (k7 + 1)) (ixn : ∀ j, j < j1 → ¬ (sByt.getD i0 []).getD j 0 = (nI k0).toInt8.toInt32) (c_2 : ¬ nI (sLen.getD i0 0) ≤ nI j1) (n_6 : j1 < (sLen.getD i0 0)) : i0 < 16 := by
  first | assumption | omega
theorem lf_J1_indexOfChar_t_9 (i0 : Nat) (k0 : Nat) (hi0 : i0 < 16) (hk0 : k0 < 256) (hln : sLen.getD i0 0 ≤ 13) (x_1 : Int32) (ex_1 : x_1 = (nI k0).toInt8.toInt32) (j1 : Nat) (k7 : Nat) (hj7 : j1 ≤ (sLen.getD i0 0)) (hk7 : (sLen.getD i0 0) < j1 + (k7 + 1)) (ixn : ∀ j, j < j1 → ¬ (sByt.getD i0 []).getD j 0 = (nI k0).toInt8.toInt32) (c_2 : ¬ nI (sLen.getD i0 0) ≤ nI j1) (n_6 : j1 < (sLen.getD i0 0)) : j1 < sLen.getD i0 0 := by
  omega
theorem lf_J1_indexOfChar_t_11 (i0 : Nat) (k0 : Nat) (hi0 : i0 < 16) (hk0 : k0 < 256) (hln : sLen.getD i0 0 ≤ 13) (x_1 : Int32) (ex_1 : x_1 = (nI k0).toInt8.toInt32) (j1 : Nat) (k7 : Nat) (hj7 : j1 ≤ (sLen.getD i0 0)) (hk7 : (sLen.getD i0 0) < j1 + (k7 + 1)) (ixn : ∀ j, j < j1 → ¬ (sByt.getD i0 []).getD j 0 = (nI k0).toInt8.toInt32) (c_2 : ¬ nI (sLen.getD i0 0) ≤ nI j1) (n_6 : j1 < (sLen.getD i0 0)) (c_10 : ¬ (sByt.getD i0 []).getD j1 0 = x_1) : ∀ j, j < (j1 + 1) → ¬ (sByt.getD i0 []).getD j 0 = (nI k0).toInt8.toInt32 := by
  first | exact fun j hj => absurd hj (Nat.not_lt_zero _) | (subst_vars; exact ixn_s (by assumption) (by assumption))
theorem lf_J1_indexOfChar_t_12 (i0 : Nat) (k0 : Nat) (hi0 : i0 < 16) (hk0 : k0 < 256) (hln : sLen.getD i0 0 ≤ 13) (x_1 : Int32) (ex_1 : x_1 = (nI k0).toInt8.toInt32) (j1 : Nat) (k7 : Nat) (hj7 : j1 ≤ (sLen.getD i0 0)) (hk7 : (sLen.getD i0 0) < j1 + (k7 + 1)) (ixn : ∀ j, j < j1 → ¬ (sByt.getD i0 []).getD j 0 = (nI k0).toInt8.toInt32) (c_2 : ¬ nI (sLen.getD i0 0) ≤ nI j1) (n_6 : j1 < (sLen.getD i0 0)) (c_10 : (sByt.getD i0 []).getD j1 0 = x_1) : (0 ≤ (nI j1 : Int32) ∧ sHas i0 k0 = true) ∨ ((nI j1 : Int32) < 0 ∧ ¬ sHas i0 k0 = true) := by
  first | (subst_vars; exact Or.inl ⟨nI_pos' (by omega), s_has hi0 (by assumption) (by assumption)⟩) | exact Or.inr ⟨by decide, s_hasn hi0 (fun j hj => by subst_vars; exact ixn _ (by omega))⟩
theorem lf_J1_indexOfChar_t_13 (i0 : Nat) (k0 : Nat) (hi0 : i0 < 16) (hk0 : k0 < 256) (hln : sLen.getD i0 0 ≤ 13) (x_1 : Int32) (ex_1 : x_1 = (nI k0).toInt8.toInt32) : ∀ j, j < 0 → ¬ (sByt.getD i0 []).getD j 0 = (nI k0).toInt8.toInt32 := by
  first | exact fun j hj => absurd hj (Nat.not_lt_zero _) | (subst_vars; exact ixn_s (by assumption) (by assumption))
set_option maxHeartbeats 4000000 in
set_option maxRecDepth 100000 in
theorem c_J1_indexOfChar_t (l : Launch) (D : va_G) (cI cB cZ cJ : ClassId) (tx : List (ClassId × FieldType)) (adK adV : Nat → Nat) (i0 : Nat) (k0 : Nat) (hi0 : i0 < 16) (hk0 : k0 < 256) (hln : sLen.getD i0 0 ≤ 13) : RzI l D cI cB cZ cJ tx adK adV yJ1_indexOfChar_4cfef cJ1_indexOfChar_4cfef 6 (some .int) 0 [.ref (adV i0), .int (nI k0), .int 0, .int (nI (sLen.getD i0 0))] [] (fun r => (0 ≤ r ∧ sHas i0 k0 = true) ∨ (r < 0 ∧ ¬ sHas i0 k0 = true)) := by
  refine rzi_of2 (by decide +kernel) (Nat.le_of_ble_eq_true rfl) ?_
  intro p e s m below meth c A ls H locs hC hK hZ hP hD hA hS hl
  obtain ⟨hx, hb, hr, hml, hown, hts, hlocks, hin⟩ := hC
  have hown : s.vm.findClass RJ1 = some m.cls := hown
  have hl : lv_has ls 6 [(0, .ref (adV i0)), (1, .int (nI k0)), (2, .int 0), (3, .int (nI (sLen.getD i0 0)))] := hl
  refine W_gQ (fun Q hQ => ?_)
  refine lv_iload_n hx hb dJ1_indexOfChar_4cfef_0 rfl (lv_at hl 1 rfl) ?_
  refine lv_i2b hx hb dJ1_indexOfChar_4cfef_1 rfl ?_
  refine lv_topi (fun x_1 ex_1 => ?_)
  refine lv_istore (lv' := [(4, .int x_1), (0, .ref (adV i0)), (1, .int (nI k0)), (2, .int 0), (3, .int (nI (sLen.getD i0 0)))]) hx hb dJ1_indexOfChar_4cfef_2 hl (by decide) rfl (fun ls hl => ?_)
  refine lv_iload_n hx hb dJ1_indexOfChar_4cfef_4 rfl (lv_at hl 3 rfl) ?_
  refine lv_istore (lv' := [(5, .int 0), (4, .int x_1), (0, .ref (adV i0)), (1, .int (nI k0)), (2, .int 0), (3, .int (nI (sLen.getD i0 0)))]) hx hb dJ1_indexOfChar_4cfef_5 hl (by decide) rfl (fun ls hl => ?_)
  have lp7 : ∀ (k7 : Nat) (j1 : Nat) (H : Heap) (locs : List Loc) (ls : Array Slot), j1 ≤ (sLen.getD i0 0) → (sLen.getD i0 0) < j1 + k7 → (∀ j, j < j1 → ¬ (sByt.getD i0 []).getD j 0 = (nI k0).toInt8.toInt32) → va_P D vwCl [] H → va_S A s.heap H locs → lv_has ls 6 [(5, .int (nI j1)), (4, .int x_1), (0, .ref (adV i0)), (1, .int (nI k0)), (2, .int 0), (3, .int (nI (sLen.getD i0 0)))] → W p l e (rmX 0 0 0) s m ([.ref (adV i0), .int (nI k0), .int 0, .int (nI (sLen.getD i0 0))] : List Value).toArray below meth c H locs 0 0 Q (F0 m 7 ls []) := by
    intro k7
    induction k7 with
    | zero =>
      intro j1 H locs ls hj7 hk7 ixn hP hS hl
      exact absurd hk7 (by omega)
    | succ k7 ih7 =>
      intro j1 H locs ls hj7 hk7 ixn hP hS hl
      refine lv_iload hx hb dJ1_indexOfChar_4cfef_7 (lv_at hl 0 rfl) ?_
      refine lv_iload_n hx hb dJ1_indexOfChar_4cfef_9 rfl (lv_at hl 5 rfl) ?_
      refine lv_icmp_ge (tgt := 31) hx hb dJ1_indexOfChar_4cfef_10 (by decide) (fun c_2 => ?_) (fun c_2 => ?_)
      · have n_3 : (sLen.getD i0 0) ≤ j1 := (lf_J1_indexOfChar_t_4 i0 k0 hi0 hk0 hln x_1 ex_1 j1 k7 hj7 hk7 ixn c_2)
        refine lv_iconst (v := (-1)) hx hb dJ1_indexOfChar_4cfef_31 (by decide) ?_
        rw [hQ]
        exact W.iret (v := (-1)) hx hb hr (fun tt9 ht hW => ⟨⟨((-1) : Int32), (), rfl, (lf_J1_indexOfChar_t_5 i0 k0 hi0 hk0 hln x_1 ex_1 j1 k7 hj7 hk7 ixn c_2 n_3), trivial⟩, hS.F ht⟩) hS.2.2 dJ1_indexOfChar_4cfef_32 hlocks
      · have n_6 : j1 < (sLen.getD i0 0) := (lf_J1_indexOfChar_t_7 i0 k0 hi0 hk0 hln x_1 ex_1 j1 k7 hj7 hk7 ixn c_2)
        refine lv_aload_n hx hb dJ1_indexOfChar_4cfef_13 rfl (lv_at hl 2 rfl) ?_
        refine lv_iload hx hb dJ1_indexOfChar_4cfef_14 (lv_at hl 0 rfl) ?_
        refine sb_ld (j := j1) hx hb hZ hS (lf_J1_indexOfChar_t_8 i0 k0 hi0 hk0 hln x_1 ex_1 j1 k7 hj7 hk7 ixn c_2 n_6) (lf_J1_indexOfChar_t_9 i0 k0 hi0 hk0 hln x_1 ex_1 j1 k7 hj7 hk7 ixn c_2 n_6) dJ1_indexOfChar_4cfef_16 ?_
        refine lv_iload hx hb dJ1_indexOfChar_4cfef_17 (lv_at hl 1 rfl) ?_
        refine lv_icmp_ne (tgt := 25) hx hb dJ1_indexOfChar_4cfef_19 (by decide) (fun c_10 => ?_) (fun c_10 => ?_)
        · refine lv_iinc (v := nI (j1 + 1)) (lv' := [(5, .int (nI (j1 + 1))), (4, .int x_1), (0, .ref (adV i0)), (1, .int (nI k0)), (2, .int 0), (3, .int (nI (sLen.getD i0 0)))]) hx hb dJ1_indexOfChar_4cfef_25 hl (k := 0) rfl (nI_1 j1) (by decide) rfl (fun ls hl => ?_)
          refine lv_goto (tgt := 7) hx hb dJ1_indexOfChar_4cfef_28 (by decide) ?_
          exact ih7 (j1 + 1)  H locs ls (by omega) (by omega) (lf_J1_indexOfChar_t_11 i0 k0 hi0 hk0 hln x_1 ex_1 j1 k7 hj7 hk7 ixn c_2 n_6 c_10) (hP.sub [] rfl)  hS (lv_sub hl [0, 1, 2, 3, 4, 5] rfl)
        · refine lv_iload hx hb dJ1_indexOfChar_4cfef_22 (lv_at hl 0 rfl) ?_
          rw [hQ]
          exact W.iret (v := nI j1) hx hb hr (fun tt9 ht hW => ⟨⟨(nI j1 : Int32), (), rfl, (lf_J1_indexOfChar_t_12 i0 k0 hi0 hk0 hln x_1 ex_1 j1 k7 hj7 hk7 ixn c_2 n_6 c_10), trivial⟩, hS.F ht⟩) hS.2.2 dJ1_indexOfChar_4cfef_24 hlocks
  exact lp7 ((sLen.getD i0 0) + 1) 0  H locs ls (by omega) (by omega) (lf_J1_indexOfChar_t_13 i0 k0 hi0 hk0 hln x_1 ex_1) (hP.sub [] rfl)  hS (lv_sub hl [0, 1, 2, 3, 4, 5] rfl)

theorem lf_J1_indexOf_t_1 (i0 : Nat) (k0 : Nat) (hi0 : i0 < 16) (hk0 : k0 < 256) (hln : sLen.getD i0 0 ≤ 13) : k0 < 256 := by
  first | assumption | omega | decide | exact (s_len _ (by assumption)).2.2
theorem lf_J1_indexOf_t_4 (i0 : Nat) (k0 : Nat) (hi0 : i0 < 16) (hk0 : k0 < 256) (hln : sLen.getD i0 0 ≤ 13) : i0 < 16 := by
  first | assumption | omega
theorem lf_J1_indexOf_t_8 (i0 : Nat) (k0 : Nat) (hi0 : i0 < 16) (hk0 : k0 < 256) (hln : sLen.getD i0 0 ≤ 13) (c_6 : (0 : Int32) < nI (sLen.getD i0 0)) : 0 < (sLen.getD i0 0) := by
  exact (nI_ltI (a := 0) (b := (sLen.getD i0 0)) (by omega) (by omega)).mp c_6
theorem lf_J1_indexOf_t_9 (i0 : Nat) (k0 : Nat) (hi0 : i0 < 16) (hk0 : k0 < 256) (hln : sLen.getD i0 0 ≤ 13) (c_6 : (0 : Int32) < nI (sLen.getD i0 0)) (n_7 : 0 < (sLen.getD i0 0)) : i0 < 16 := by
  first | assumption | omega | decide | exact (s_len _ (by assumption)).2.2
theorem lf_J1_indexOf_t_10 (i0 : Nat) (k0 : Nat) (hi0 : i0 < 16) (hk0 : k0 < 256) (hln : sLen.getD i0 0 ≤ 13) (c_6 : (0 : Int32) < nI (sLen.getD i0 0)) (n_7 : 0 < (sLen.getD i0 0)) : k0 < 256 := by
  first | assumption | omega | decide | exact (s_len _ (by assumption)).2.2
theorem lf_J1_indexOf_t_11 (i0 : Nat) (k0 : Nat) (hi0 : i0 < 16) (hk0 : k0 < 256) (hln : sLen.getD i0 0 ≤ 13) (c_6 : (0 : Int32) < nI (sLen.getD i0 0)) (n_7 : 0 < (sLen.getD i0 0)) : sLen.getD i0 0 ≤ 13 := by
  first | assumption | omega | decide | exact (s_len _ (by assumption)).2.2
theorem lf_J1_indexOf_t_13 (i0 : Nat) (k0 : Nat) (hi0 : i0 < 16) (hk0 : k0 < 256) (hln : sLen.getD i0 0 ≤ 13) (c_6 : (0 : Int32) < nI (sLen.getD i0 0)) (n_7 : 0 < (sLen.getD i0 0)) (r_12 : Int32) (wr_12 : (0 ≤ r_12 ∧ sHas i0 k0 = true) ∨ (r_12 < 0 ∧ ¬ sHas i0 k0 = true)) : (0 ≤ (r_12 : Int32) ∧ sHas i0 k0 = true) ∨ ((r_12 : Int32) < 0 ∧ ¬ sHas i0 k0 = true) := by
  first | assumption | (have q := (s_len i0 hi0).2.1; omega)
theorem lf_J1_indexOf_t_15 (i0 : Nat) (k0 : Nat) (hi0 : i0 < 16) (hk0 : k0 < 256) (hln : sLen.getD i0 0 ≤ 13) (c_6 : ¬ (0 : Int32) < nI (sLen.getD i0 0)) : (sLen.getD i0 0) ≤ 0 := by
  exact Nat.le_of_not_lt (fun q => c_6 ((nI_ltI (a := 0) (b := (sLen.getD i0 0)) (by omega) (by omega)).mpr q))
theorem lf_J1_indexOf_t_16 (i0 : Nat) (k0 : Nat) (hi0 : i0 < 16) (hk0 : k0 < 256) (hln : sLen.getD i0 0 ≤ 13) (c_6 : ¬ (0 : Int32) < nI (sLen.getD i0 0)) (n_14 : (sLen.getD i0 0) ≤ 0) : (0 ≤ ((-1) : Int32) ∧ sHas i0 k0 = true) ∨ (((-1) : Int32) < 0 ∧ ¬ sHas i0 k0 = true) := by
  first | assumption | (have q := (s_len i0 hi0).2.1; omega)
set_option maxHeartbeats 4000000 in
set_option maxRecDepth 100000 in
theorem c_J1_indexOf_t (l : Launch) (D : va_G) (cI cB cZ cJ : ClassId) (tx : List (ClassId × FieldType)) (adK adV : Nat → Nat) (i0 : Nat) (k0 : Nat) (hi0 : i0 < 16) (hk0 : k0 < 256) (hln : sLen.getD i0 0 ≤ 13) : RzI l D cI cB cZ cJ tx adK adV yJ1_indexOf_4cfef cJ1_indexOf_4cfef 4 (some .int) 1 [.ref (adV i0), .int (nI k0), .int 0, .int (nI (sLen.getD i0 0))] [] (fun r => (0 ≤ r ∧ sHas i0 k0 = true) ∨ (r < 0 ∧ ¬ sHas i0 k0 = true)) := by
  refine rzi_of2 (by decide +kernel) (Nat.le_of_ble_eq_true rfl) ?_
  intro p e s m below meth c A ls H locs hC hK hZ hP hD hA hS hl
  obtain ⟨hx, hb, hr, hml, hown, hts, hlocks, hin⟩ := hC
  have hown : s.vm.findClass RJ1 = some m.cls := hown
  have hl : lv_has ls 4 [(0, .ref (adV i0)), (1, .int (nI k0)), (2, .int 0), (3, .int (nI (sLen.getD i0 0)))] := hl
  refine W_gQ (fun Q hQ => ?_)
  refine lv_iload_n hx hb dJ1_indexOf_4cfef_0 rfl (lv_at hl 1 rfl) ?_
  refine eRi (va_runS (As := [.int (nI k0)]) (rest := []) ⟨hx, hb, hml, hown, hts⟩ (c_J1_canEncode l D cI cB cZ cJ tx k0 (lf_J1_indexOf_t_1 i0 k0 hi0 hk0 hln) H.size) (zS hts k_601 v_J1_canEncode_9a6ad ⟨Nat.le_of_ble_eq_true rfl, Nat.le_of_ble_eq_true rfl⟩) (px0 hK) rfl rfl hl.1 rfl (lv_room (Nat.le_of_ble_eq_true rfl)) dJ1_indexOf_4cfef_1 ⟨Nat.le_of_ble_eq_true rfl, Nat.le_of_ble_eq_true rfl⟩) hP hS hA (fun r_2 H locs wr_2 hP hS => ?_)
  subst wr_2
  refine lv_if_ne (tgt := 9) hx hb dJ1_indexOf_4cfef_4 (by decide) (fun _ => ?_) (fun c => absurd c (by decide))
  refine lv_iload_n hx hb dJ1_indexOf_4cfef_9 rfl (lv_at hl 2 rfl) ?_
  refine lv_iconst (v := 0) hx hb dJ1_indexOf_4cfef_10 (by decide) ?_
  refine va_mmax hx hb (by rw [hml]; exact hl.1.symm) hown (hts _ k_604) (hts _ k_605) (hts _ k_131) (hts _ k_606) (Nat.le_of_ble_eq_true rfl) (Nat.le_of_ble_eq_true rfl) (Nat.le_of_ble_eq_true rfl) (Nat.le_of_ble_eq_true rfl) dJ1_indexOf_4cfef_11 ?_
  refine lv_topv (y := 0) (by decide) ?_
  refine lv_istore_n (lv' := [(2, .int 0), (0, .ref (adV i0)), (1, .int (nI k0)), (3, .int (nI (sLen.getD i0 0)))]) hx hb dJ1_indexOf_4cfef_14 rfl hl (by decide) rfl (fun ls hl => ?_)
  refine lv_iload_n hx hb dJ1_indexOf_4cfef_15 rfl (lv_at hl 3 rfl) ?_
  refine lv_aload_n hx hb dJ1_indexOf_4cfef_16 rfl (lv_at hl 1 rfl) ?_
  refine va_tlen (v := nI (sLen.getD i0 0)) hx hb (hZ.1.1 i0 (lf_J1_indexOf_t_4 i0 k0 hi0 hk0 hln)).2.2.2 hS rfl dJ1_indexOf_4cfef_17 ?_
  refine va_mmin hx hb (by rw [hml]; exact hl.1.symm) hown (hts _ k_607) (hts _ k_608) (hts _ k_131) (hts _ k_609) (Nat.le_of_ble_eq_true rfl) (Nat.le_of_ble_eq_true rfl) (Nat.le_of_ble_eq_true rfl) (Nat.le_of_ble_eq_true rfl) dJ1_indexOf_4cfef_18 ?_
  refine lv_topv (y := nI (sLen.getD i0 0)) (ite_self _) ?_
  refine lv_istore_n (lv' := [(3, .int (nI (sLen.getD i0 0))), (2, .int 0), (0, .ref (adV i0)), (1, .int (nI k0))]) hx hb dJ1_indexOf_4cfef_21 rfl hl (by decide) rfl (fun ls hl => ?_)
  refine lv_iload_n hx hb dJ1_indexOf_4cfef_22 rfl (lv_at hl 1 rfl) ?_
  refine lv_iload_n hx hb dJ1_indexOf_4cfef_23 rfl (lv_at hl 0 rfl) ?_
  refine lv_icmp_lt (tgt := 29) hx hb dJ1_indexOf_4cfef_24 (by decide) (fun c_6 => ?_) (fun c_6 => ?_)
  · have n_7 : 0 < (sLen.getD i0 0) := (lf_J1_indexOf_t_8 i0 k0 hi0 hk0 hln c_6)
    refine lv_aload_n hx hb dJ1_indexOf_4cfef_29 rfl (lv_at hl 2 rfl) ?_
    refine lv_iload_n hx hb dJ1_indexOf_4cfef_30 rfl (lv_at hl 3 rfl) ?_
    refine lv_iload_n hx hb dJ1_indexOf_4cfef_31 rfl (lv_at hl 1 rfl) ?_
    refine lv_iload_n hx hb dJ1_indexOf_4cfef_32 rfl (lv_at hl 0 rfl) ?_
    refine eRi (va_runS (As := [.ref (adV i0), .int (nI k0), .int 0, .int (nI (sLen.getD i0 0))]) (rest := []) ⟨hx, hb, hml, hown, hts⟩ (c_J1_indexOfChar_t l D cI cB cZ cJ tx adK adV i0 k0 (lf_J1_indexOf_t_9 i0 k0 hi0 hk0 hln c_6 n_7) (lf_J1_indexOf_t_10 i0 k0 hi0 hk0 hln c_6 n_7) (lf_J1_indexOf_t_11 i0 k0 hi0 hk0 hln c_6 n_7) H.size) (zS hts k_610 v_J1_indexOfChar_4cfef ⟨Nat.le_of_ble_eq_true rfl, Nat.le_of_ble_eq_true rfl⟩) (pz (px0 hK) hZ hS (aR hS hA)) rfl rfl hl.1 rfl (lv_room (Nat.le_of_ble_eq_true rfl)) dJ1_indexOf_4cfef_33 ⟨Nat.le_of_ble_eq_true rfl, Nat.le_of_ble_eq_true rfl⟩) hP hS hA (fun r_12 H locs wr_12 hP hS => ?_)
    rw [hQ]
    exact W.iret (v := r_12) hx hb hr (fun tt9 ht hW => ⟨⟨(r_12 : Int32), (), rfl, (lf_J1_indexOf_t_13 i0 k0 hi0 hk0 hln c_6 n_7 r_12 wr_12), trivial⟩, hS.F ht⟩) hS.2.2 dJ1_indexOf_4cfef_36 hlocks
  · have n_14 : (sLen.getD i0 0) ≤ 0 := (lf_J1_indexOf_t_15 i0 k0 hi0 hk0 hln c_6)
    refine lv_iconst (v := (-1)) hx hb dJ1_indexOf_4cfef_27 (by decide) ?_
    rw [hQ]
    exact W.iret (v := (-1)) hx hb hr (fun tt9 ht hW => ⟨⟨((-1) : Int32), (), rfl, (lf_J1_indexOf_t_16 i0 k0 hi0 hk0 hln c_6 n_14), trivial⟩, hS.F ht⟩) hS.2.2 dJ1_indexOf_4cfef_28 hlocks

theorem lf_J0_indexOf2_t_1 (i0 : Nat) (k0 : Nat) (hi0 : i0 < 16) (hk0 : k0 < 256) : i0 < 16 := by
  first | assumption | omega | decide | exact (s_len _ (by assumption)).2.2
theorem lf_J0_indexOf2_t_2 (i0 : Nat) (k0 : Nat) (hi0 : i0 < 16) (hk0 : k0 < 256) : i0 < 16 := by
  first | assumption | omega
theorem lf_J0_indexOf2_t_4 (i0 : Nat) (k0 : Nat) (hi0 : i0 < 16) (hk0 : k0 < 256) : i0 < 16 := by
  first | assumption | omega
theorem lf_J0_indexOf2_t_5 (i0 : Nat) (k0 : Nat) (hi0 : i0 < 16) (hk0 : k0 < 256) : i0 < 16 := by
  first | assumption | omega | decide | exact (s_len _ (by assumption)).2.2
theorem lf_J0_indexOf2_t_6 (i0 : Nat) (k0 : Nat) (hi0 : i0 < 16) (hk0 : k0 < 256) : i0 < 16 := by
  first | assumption | omega
theorem lf_J0_indexOf2_t_8 (i0 : Nat) (k0 : Nat) (hi0 : i0 < 16) (hk0 : k0 < 256) : i0 < 16 := by
  first | assumption | omega | decide | exact (s_len _ (by assumption)).2.2
theorem lf_J0_indexOf2_t_9 (i0 : Nat) (k0 : Nat) (hi0 : i0 < 16) (hk0 : k0 < 256) : k0 < 256 := by
  first | assumption | omega | decide | exact (s_len _ (by assumption)).2.2
theorem lf_J0_indexOf2_t_10 (i0 : Nat) (k0 : Nat) (hi0 : i0 < 16) (hk0 : k0 < 256) : sLen.getD i0 0 ≤ 13 := by
  first | assumption | omega | decide | exact (s_len _ (by assumption)).2.2
theorem lf_J0_indexOf2_t_12 (i0 : Nat) (k0 : Nat) (hi0 : i0 < 16) (hk0 : k0 < 256) (r_11 : Int32) (wr_11 : (0 ≤ r_11 ∧ sHas i0 k0 = true) ∨ (r_11 < 0 ∧ ¬ sHas i0 k0 = true)) : (0 ≤ (r_11 : Int32) ∧ sHas i0 k0 = true) ∨ ((r_11 : Int32) < 0 ∧ ¬ sHas i0 k0 = true) := by
  first | assumption | (have q := (s_len i0 hi0).2.1; omega)
set_option maxHeartbeats 4000000 in
set_option maxRecDepth 100000 in
theorem c_J0_indexOf2_t (l : Launch) (D : va_G) (cI cB cZ cJ : ClassId) (tx : List (ClassId × FieldType)) (adK adV : Nat → Nat) (i0 : Nat) (k0 : Nat) (hi0 : i0 < 16) (hk0 : k0 < 256) : RzI l D cI cB cZ cJ tx adK adV yJ0_indexOf_7cf53 cJ0_indexOf_7cf53 3 (some .int) 2 [.ref (adK i0), .int (nI k0), .int 0] [] (fun r => (0 ≤ r ∧ sHas i0 k0 = true) ∨ (r < 0 ∧ ¬ sHas i0 k0 = true)) := by
  refine rzi_of2 (by decide +kernel) (Nat.le_of_ble_eq_true rfl) ?_
  intro p e s m below meth c A ls H locs hC hK hZ hP hD hA hS hl
  obtain ⟨hx, hb, hr, hml, hown, hts, hlocks, hin⟩ := hC
  have hown : s.vm.findClass RJ0 = some m.cls := hown
  have hl : lv_has ls 3 [(0, .ref (adK i0)), (1, .int (nI k0)), (2, .int 0)] := hl
  refine W_gQ (fun Q hQ => ?_)
  refine lv_aload_n hx hb dJ0_indexOf_7cf53_0 rfl (lv_at hl 0 rfl) ?_
  refine eRi (va_runV (As := []) (rest := []) ⟨hx, hb, hml, hown, hts⟩ (c_J0_isLatin1 l D cI cB cZ cJ tx adK adV i0 (lf_J0_indexOf2_t_1 i0 k0 hi0 hk0) H.size) (zV hts k_584 v_J0_isLatin1_aae02 ⟨Nat.le_of_ble_eq_true rfl, Nat.le_of_ble_eq_true rfl⟩) (pVS (pz (px0 hK) hZ hS (aR hS hA)) hZ (lf_J0_indexOf2_t_2 i0 k0 hi0 hk0) hS) rfl rfl hl.1 rfl (lv_room (Nat.le_of_ble_eq_true rfl)) dJ0_indexOf_7cf53_1 ⟨Nat.le_of_ble_eq_true rfl, Nat.le_of_ble_eq_true rfl⟩) hP hS hA (fun r_3 H locs wr_3 hP hS => ?_)
  subst wr_3
  refine lv_if_eq (tgt := 23) hx hb dJ0_indexOf_7cf53_4 (by decide) (fun c => absurd c (by decide)) (fun _ => ?_)
  refine lv_aload_n hx hb dJ0_indexOf_7cf53_7 rfl (lv_at hl 0 rfl) ?_
  refine vk_getf hx hb (hZ.1.1 i0 (lf_J0_indexOf2_t_4 i0 k0 hi0 hk0)).2.2.1 hS hown (hts _ k_2130) (fun _ h9 => h9) dJ0_indexOf_7cf53_8 ?_
  refine lv_iload_n hx hb dJ0_indexOf_7cf53_11 rfl (lv_at hl 1 rfl) ?_
  refine lv_iload_n hx hb dJ0_indexOf_7cf53_12 rfl (lv_at hl 2 rfl) ?_
  refine lv_aload_n hx hb dJ0_indexOf_7cf53_13 rfl (lv_at hl 0 rfl) ?_
  refine eRi (va_runV (As := []) (rest := [.int 0, .int (nI k0), .ref (adV i0)]) ⟨hx, hb, hml, hown, hts⟩ (c_J0_length l D cI cB cZ cJ tx adK adV i0 (lf_J0_indexOf2_t_5 i0 k0 hi0 hk0) H.size) (zV hts k_590 v_J0_length_8abf5 ⟨Nat.le_of_ble_eq_true rfl, Nat.le_of_ble_eq_true rfl⟩) (pVS (pz (px0 hK) hZ hS (aR hS hA)) hZ (lf_J0_indexOf2_t_6 i0 k0 hi0 hk0) hS) rfl rfl hl.1 rfl (lv_room (Nat.le_of_ble_eq_true rfl)) dJ0_indexOf_7cf53_14 ⟨Nat.le_of_ble_eq_true rfl, Nat.le_of_ble_eq_true rfl⟩) hP hS hA (fun r_7 H locs wr_7 hP hS => ?_)
  subst wr_7
  refine eRi (va_runS (As := [.ref (adV i0), .int (nI k0), .int 0, .int (nI (sLen.getD i0 0))]) (rest := []) ⟨hx, hb, hml, hown, hts⟩ (c_J1_indexOf_t l D cI cB cZ cJ tx adK adV i0 k0 (lf_J0_indexOf2_t_8 i0 k0 hi0 hk0) (lf_J0_indexOf2_t_9 i0 k0 hi0 hk0) (lf_J0_indexOf2_t_10 i0 k0 hi0 hk0) H.size) (zS hts k_598 v_J1_indexOf_4cfef ⟨Nat.le_of_ble_eq_true rfl, Nat.le_of_ble_eq_true rfl⟩) (pz (px0 hK) hZ hS (aR hS hA)) rfl rfl hl.1 rfl (lv_room (Nat.le_of_ble_eq_true rfl)) dJ0_indexOf_7cf53_17 ⟨Nat.le_of_ble_eq_true rfl, Nat.le_of_ble_eq_true rfl⟩) hP hS hA (fun r_11 H locs wr_11 hP hS => ?_)
  refine lv_goto (tgt := 36) hx hb dJ0_indexOf_7cf53_20 (by decide) ?_
  rw [hQ]
  exact W.iret (v := r_11) hx hb hr (fun tt9 ht hW => ⟨⟨(r_11 : Int32), (), rfl, (lf_J0_indexOf2_t_12 i0 k0 hi0 hk0 r_11 wr_11), trivial⟩, hS.F ht⟩) hS.2.2 dJ0_indexOf_7cf53_36 hlocks

theorem lf_J0_indexOf1_t_1 (i0 : Nat) (k0 : Nat) (hi0 : i0 < 16) (hk0 : k0 < 256) : i0 < 16 := by
  first | assumption | omega | decide | exact (s_len _ (by assumption)).2.2
theorem lf_J0_indexOf1_t_2 (i0 : Nat) (k0 : Nat) (hi0 : i0 < 16) (hk0 : k0 < 256) : k0 < 256 := by
  first | assumption | omega | decide | exact (s_len _ (by assumption)).2.2
theorem lf_J0_indexOf1_t_3 (i0 : Nat) (k0 : Nat) (hi0 : i0 < 16) (hk0 : k0 < 256) : i0 < 16 := by
  first | assumption | omega
theorem lf_J0_indexOf1_t_5 (i0 : Nat) (k0 : Nat) (hi0 : i0 < 16) (hk0 : k0 < 256) (r_4 : Int32) (wr_4 : (0 ≤ r_4 ∧ sHas i0 k0 = true) ∨ (r_4 < 0 ∧ ¬ sHas i0 k0 = true)) : (0 ≤ (r_4 : Int32) ∧ sHas i0 k0 = true) ∨ ((r_4 : Int32) < 0 ∧ ¬ sHas i0 k0 = true) := by
  first | assumption | (have q := (s_len i0 hi0).2.1; omega)
set_option maxHeartbeats 4000000 in
set_option maxRecDepth 100000 in
theorem c_J0_indexOf1_t (l : Launch) (D : va_G) (cI cB cZ cJ : ClassId) (tx : List (ClassId × FieldType)) (adK adV : Nat → Nat) (i0 : Nat) (k0 : Nat) (hi0 : i0 < 16) (hk0 : k0 < 256) : RzI l D cI cB cZ cJ tx adK adV yJ0_indexOf_0f7a4 cJ0_indexOf_0f7a4 2 (some .int) 3 [.ref (adK i0), .int (nI k0)] [] (fun r => (0 ≤ r ∧ sHas i0 k0 = true) ∨ (r < 0 ∧ ¬ sHas i0 k0 = true)) := by
  refine rzi_of2 (by decide +kernel) (Nat.le_of_ble_eq_true rfl) ?_
  intro p e s m below meth c A ls H locs hC hK hZ hP hD hA hS hl
  obtain ⟨hx, hb, hr, hml, hown, hts, hlocks, hin⟩ := hC
  have hown : s.vm.findClass RJ0 = some m.cls := hown
  have hl : lv_has ls 2 [(0, .ref (adK i0)), (1, .int (nI k0))] := hl
  refine W_gQ (fun Q hQ => ?_)
  refine lv_aload_n hx hb dJ0_indexOf_0f7a4_0 rfl (lv_at hl 0 rfl) ?_
  refine lv_iload_n hx hb dJ0_indexOf_0f7a4_1 rfl (lv_at hl 1 rfl) ?_
  refine lv_iconst (v := 0) hx hb dJ0_indexOf_0f7a4_2 (by decide) ?_
  refine eRi (va_runV (As := [.int (nI k0), .int 0]) (rest := []) ⟨hx, hb, hml, hown, hts⟩ (c_J0_indexOf2_t l D cI cB cZ cJ tx adK adV i0 k0 (lf_J0_indexOf1_t_1 i0 k0 hi0 hk0) (lf_J0_indexOf1_t_2 i0 k0 hi0 hk0) H.size) (zV hts k_580 v_J0_indexOf_7cf53 ⟨Nat.le_of_ble_eq_true rfl, Nat.le_of_ble_eq_true rfl⟩) (pVS (pz (px0 hK) hZ hS (aR hS hA)) hZ (lf_J0_indexOf1_t_3 i0 k0 hi0 hk0) hS) rfl rfl hl.1 rfl (lv_room (Nat.le_of_ble_eq_true rfl)) dJ0_indexOf_0f7a4_3 ⟨Nat.le_of_ble_eq_true rfl, Nat.le_of_ble_eq_true rfl⟩) hP hS hA (fun r_4 H locs wr_4 hP hS => ?_)
  rw [hQ]
  exact W.iret (v := r_4) hx hb hr (fun tt9 ht hW => ⟨⟨(r_4 : Int32), (), rfl, (lf_J0_indexOf1_t_5 i0 k0 hi0 hk0 r_4 wr_4), trivial⟩, hS.F ht⟩) hS.2.2 dJ0_indexOf_0f7a4_6 hlocks

theorem lf_X8_byteAt_t_1 (a : Nat → Nat) (tu : Nat) (tb : Nat → Int32) (j1 : Nat) (htu : tu ≤ 220) (hj1 : j1 < tu) : ¬ nI j1 < 0 := by
  first | exact nI_pos (by omega) | exact nI_pos' (by omega)
theorem lf_X8_byteAt_t_4 (a : Nat → Nat) (tu : Nat) (tb : Nat → Int32) (j1 : Nat) (htu : tu ≤ 220) (hj1 : j1 < tu) (c_2 : nI tu ≤ nI j1) : tu ≤ j1 := by
  exact (nI_leI (a := tu) (b := j1) (by omega) (by omega)).mp c_2
theorem lf_X8_byteAt_t_5 (a : Nat → Nat) (tu : Nat) (tb : Nat → Int32) (j1 : Nat) (htu : tu ≤ 220) (hj1 : j1 < tu) (c_2 : nI tu ≤ nI j1) (n_3 : tu ≤ j1) : ((-1) : Int32) = tb j1 &&& 255 := by
  first | (subst_vars; rfl) | omega
theorem lf_X8_byteAt_t_7 (a : Nat → Nat) (tu : Nat) (tb : Nat → Int32) (j1 : Nat) (htu : tu ≤ 220) (hj1 : j1 < tu) (c_2 : ¬ nI tu ≤ nI j1) : j1 < tu := by
  exact Nat.lt_of_not_le (fun q => c_2 ((nI_leI (a := tu) (b := j1) (by omega) (by omega)).mpr q))
theorem lf_X8_byteAt_t_8 (a : Nat → Nat) (tu : Nat) (tb : Nat → Int32) (j1 : Nat) (htu : tu ≤ 220) (hj1 : j1 < tu) (c_2 : ¬ nI tu ≤ nI j1) (n_6 : j1 < tu) : j1 < 220 := by
  omega
theorem lf_X8_byteAt_t_10 (a : Nat → Nat) (tu : Nat) (tb : Nat → Int32) (j1 : Nat) (htu : tu ≤ 220) (hj1 : j1 < tu) (c_2 : ¬ nI tu ≤ nI j1) (n_6 : j1 < tu) (x_9 : Int32) (ex_9 : x_9 = tb j1 &&& 255) : (x_9 : Int32) = tb j1 &&& 255 := by
  first | (subst_vars; rfl) | omega
set_option maxHeartbeats 4000000 in
set_option maxRecDepth 100000 in
theorem c_X8_byteAt_t (l : Launch) (D : va_G) (cI cB cZ cJ : ClassId) (tx : List (ClassId × FieldType)) (a : Nat → Nat) (tu : Nat) (tb : Nat → Int32) (j1 : Nat) (htu : tu ≤ 220) (hj1 : j1 < tu) : RdI l D cI cB cZ cJ tx yX8_byteAt cX8_byteAt 2 (some .int) 0 [.ref (a 1), .int (nI j1)] [(a 1, .inr (8, [.ref (a 17), .int (nI tu)])), (a 17, .inl (cB, 220, .inl tb))] (fun r => r = tb j1 &&& 255) := by
  refine rdi_of2 (by decide) (Nat.le_of_ble_eq_true rfl) ?_
  intro p e s m below meth c A ls H locs hC hK hP hD hA hS hl
  obtain ⟨hx, hb, hr, hml, hown, hts, hlocks, hin⟩ := hC
  have hown : s.vm.findClass RX8 = some m.cls := hown
  have hl : lv_has ls 2 [(0, .ref (a 1)), (1, .int (nI j1))] := hl
  refine W_gQ (fun Q hQ => ?_)
  refine lv_iload_n hx hb dX8_byteAt_0 rfl (lv_at hl 1 rfl) ?_
  refine lv_if_lt (tgt := 25) hx hb dX8_byteAt_1 (by decide) (fun c => absurd c (lf_X8_byteAt_t_1 a tu tb j1 htu hj1)) (fun _ => ?_)
  refine lv_iload_n hx hb dX8_byteAt_4 rfl (lv_at hl 1 rfl) ?_
  refine lv_aload_n hx hb dX8_byteAt_5 rfl (lv_at hl 0 rfl) ?_
  refine va_get (D := D) (ci := 8) (v := .int (nI tu)) (C := RX8) (T := TX8) (N := 2) hx hb hts inT_X8 hown hK.1 hP 0 rfl rfl 1 (by decide) (hts _ k_151) (fun _ h9 => h9) rfl dX8_byteAt_6 ?_
  refine lv_icmp_ge (tgt := 25) hx hb dX8_byteAt_9 (by decide) (fun c_2 => ?_) (fun c_2 => ?_)
  · have n_3 : tu ≤ j1 := (lf_X8_byteAt_t_4 a tu tb j1 htu hj1 c_2)
    refine lv_iconst (v := (-1)) hx hb dX8_byteAt_25 (by decide) ?_
    rw [hQ]
    exact W.iret (v := (-1)) hx hb hr (fun tt9 ht hW => ⟨⟨((-1) : Int32), (), rfl, (lf_X8_byteAt_t_5 a tu tb j1 htu hj1 c_2 n_3), trivial⟩, hS.F ht⟩) hS.2.2 dX8_byteAt_26 hlocks
  · have n_6 : j1 < tu := (lf_X8_byteAt_t_7 a tu tb j1 htu hj1 c_2)
    refine lv_aload_n hx hb dX8_byteAt_12 rfl (lv_at hl 0 rfl) ?_
    refine va_get (D := D) (ci := 8) (v := .ref (a 17)) (C := RX8) (T := TX8) (N := 2) hx hb hts inT_X8 hown hK.1 hP 0 rfl rfl 0 (by decide) (hts _ k_150) (fun _ h9 => h9) rfl dX8_byteAt_13 ?_
    refine lv_iload_n hx hb dX8_byteAt_16 rfl (lv_at hl 1 rfl) ?_
    refine lt_b (j := j1) hx hb hK hP 1 rfl (lf_X8_byteAt_t_8 a tu tb j1 htu hj1 c_2 n_6) (by decide) dX8_byteAt_17 ?_
    refine lv_sipush (v := 255) hx hb dX8_byteAt_18 (by decide) ?_
    refine lv_iand hx hb dX8_byteAt_21 ?_
    refine lv_topi (fun x_9 ex_9 => ?_)
    refine lv_goto (tgt := 26) hx hb dX8_byteAt_22 (by decide) ?_
    rw [hQ]
    exact W.iret (v := x_9) hx hb hr (fun tt9 ht hW => ⟨⟨(x_9 : Int32), (), rfl, (lf_X8_byteAt_t_10 a tu tb j1 htu hj1 c_2 n_6 x_9 ex_9), trivial⟩, hS.F ht⟩) hS.2.2 dX8_byteAt_26 hlocks

theorem lf_X3_advance_t_3 (a : Nat → Nat) (t : Nat → Nat) (en : Nat) (pa : Nat) (sg : Int32) (fa : Int32) (oq : Nat) (tu : Nat) (tb : Nat → Int32) (bb : Nat → Nat) (htu : tu ≤ 220) (hen : en ≤ 200) (hpa : pa ≤ en) (hbt : BT bb tb en) (het : en ≤ tu) (hlt : pa < en) (c_1 : nI en ≤ nI (pa + 1)) : en ≤ (pa + 1) := by
  exact (nI_leI (a := en) (b := (pa + 1)) (by omega) (by omega)).mp c_1
theorem lf_X3_advance_t_4 (a : Nat → Nat) (t : Nat → Nat) (en : Nat) (pa : Nat) (sg : Int32) (fa : Int32) (oq : Nat) (tu : Nat) (tb : Nat → Int32) (bb : Nat → Nat) (htu : tu ≤ 220) (hen : en ≤ 200) (hpa : pa ≤ en) (hbt : BT bb tb en) (het : en ≤ tu) (hlt : pa < en) (c_1 : nI en ≤ nI (pa + 1)) (n_2 : en ≤ (pa + 1)) : (((pa + 1) : Nat) = pa + 1) ∧ (((pa + 1) : Nat) ≤ en) ∧ (SGb bb ((-1) : Int32) ((pa + 1) : Nat) en) := by
  refine ⟨rfl, by omega, ?_⟩
  first | exact sgb_in (by assumption) hbt | exact Or.inr ⟨by omega, rfl⟩
theorem lf_X3_advance_t_6 (a : Nat → Nat) (t : Nat → Nat) (en : Nat) (pa : Nat) (sg : Int32) (fa : Int32) (oq : Nat) (tu : Nat) (tb : Nat → Int32) (bb : Nat → Nat) (htu : tu ≤ 220) (hen : en ≤ 200) (hpa : pa ≤ en) (hbt : BT bb tb en) (het : en ≤ tu) (hlt : pa < en) (c_1 : ¬ nI en ≤ nI (pa + 1)) : (pa + 1) < en := by
  exact Nat.lt_of_not_le (fun q => c_1 ((nI_leI (a := en) (b := (pa + 1)) (by omega) (by omega)).mpr q))
theorem lf_X3_advance_t_7 (a : Nat → Nat) (t : Nat → Nat) (en : Nat) (pa : Nat) (sg : Int32) (fa : Int32) (oq : Nat) (tu : Nat) (tb : Nat → Int32) (bb : Nat → Nat) (htu : tu ≤ 220) (hen : en ≤ 200) (hpa : pa ≤ en) (hbt : BT bb tb en) (het : en ≤ tu) (hlt : pa < en) (c_1 : ¬ nI en ≤ nI (pa + 1)) (n_5 : (pa + 1) < en) : tu ≤ 220 := by
  first | assumption | omega | decide
theorem lf_X3_advance_t_8 (a : Nat → Nat) (t : Nat → Nat) (en : Nat) (pa : Nat) (sg : Int32) (fa : Int32) (oq : Nat) (tu : Nat) (tb : Nat → Int32) (bb : Nat → Nat) (htu : tu ≤ 220) (hen : en ≤ 200) (hpa : pa ≤ en) (hbt : BT bb tb en) (het : en ≤ tu) (hlt : pa < en) (c_1 : ¬ nI en ≤ nI (pa + 1)) (n_5 : (pa + 1) < en) : (pa + 1) < tu := by
  first | assumption | omega | decide
theorem lf_X3_advance_t_10 (a : Nat → Nat) (t : Nat → Nat) (en : Nat) (pa : Nat) (sg : Int32) (fa : Int32) (oq : Nat) (tu : Nat) (tb : Nat → Int32) (bb : Nat → Nat) (htu : tu ≤ 220) (hen : en ≤ 200) (hpa : pa ≤ en) (hbt : BT bb tb en) (het : en ≤ tu) (hlt : pa < en) (c_1 : ¬ nI en ≤ nI (pa + 1)) (n_5 : (pa + 1) < en) : (((pa + 1) : Nat) = pa + 1) ∧ (((pa + 1) : Nat) ≤ en) ∧ (SGb bb (tb (pa + 1) &&& 255 : Int32) ((pa + 1) : Nat) en) := by
  refine ⟨rfl, by omega, ?_⟩
  first | exact sgb_in (by assumption) hbt | exact Or.inr ⟨by omega, rfl⟩
set_option maxHeartbeats 4000000 in
set_option maxRecDepth 100000 in
theorem c_X3_advance_t (l : Launch) (D : va_G) (cI cB cZ cJ : ClassId) (tx : List (ClassId × FieldType)) (a : Nat → Nat) (t : Nat → Nat) (en : Nat) (pa : Nat) (sg : Int32) (fa : Int32) (oq : Nat) (tu : Nat) (tb : Nat → Int32) (bb : Nat → Nat) (htu : tu ≤ 220) (hen : en ≤ 200) (hpa : pa ≤ en) (hbt : BT bb tb en) (het : en ≤ tu) (hlt : pa < en) : WrV l D cI cB cZ cJ tx yX3_advance cX3_advance 1 none 1 0 0 [.ref (a 2)] [(a 2, .inr (3, [.ref (a 1), .ref (t 0), .int (nI en), .int (nI pa), .int sg, .int (nI oq), .int fa])), (a 1, .inr (8, [.ref (a 17), .int (nI tu)])), (a 17, .inl (cB, 220, .inl tb))] (fun (v : (Nat) × (Int32)) => (v.1 = pa + 1) ∧ (v.1 ≤ en) ∧ (SGb bb v.2 v.1 en)) (fun v => [(a 2, .inr (3, [.ref (a 1), .ref (t 0), .int (nI en), .int (nI (v.1)), .int v.2, .int (nI oq), .int fa])), (a 1, .inr (8, [.ref (a 17), .int (nI tu)])), (a 17, .inl (cB, 220, .inl tb))]) := by
  refine wrv_of2 (by decide) (Nat.le_of_ble_eq_true rfl) ?_
  intro p e s m below meth c A ls H locs hC hK hP hD hA hS hl
  obtain ⟨hx, hb, hr, hml, hown, hts, hlocks, hin⟩ := hC
  have hown : s.vm.findClass RX3 = some m.cls := hown
  have hl : lv_has ls 1 [(0, .ref (a 2))] := hl
  refine W_gQ (fun Q hQ => ?_)
  refine lv_aload_n hx hb dX3_advance_0 rfl (lv_at hl 0 rfl) ?_
  refine lv_dup hx hb dX3_advance_1 rfl ?_
  refine va_get (D := D) (ci := 3) (v := .int (nI pa)) (C := RX3) (T := TX3) (N := 7) hx hb hts inT_X3 hown hK.1 hP 0 rfl rfl 3 (by decide) (hts _ k_168) (fun _ h9 => h9) rfl dX3_advance_2 ?_
  refine lv_iconst (v := 1) hx hb dX3_advance_5 (by decide) ?_
  refine lv_iadd hx hb dX3_advance_6 ?_
  refine lv_topv (y := nI (pa + 1)) (nI_add pa 1) ?_
  refine va_put (D := D) (ci := 3) (v := .int (nI (pa + 1))) (ty := .int) (C := RX3) (T := TX3) (N := 7) hx hb hts inT_X3 tyX3 tyX3_ok nmX3 hown hK.1 hP hD hS 0 rfl rfl 3 (by decide) (hts _ k_168) (fun _ h9 => h9) rfl (by decide +kernel) rfl rfl (Nat.le_of_ble_eq_true rfl) dX3_advance_7 (fun H locs hP hD hS => ?_)
  have hPD := pd_mk (ws := [(a 2, .inr (3, [.ref (a 1), .ref (t 0), .int (nI en), .int (nI (pa + 1)), .int sg, .int (nI oq), .int fa])), (a 1, .inr (8, [.ref (a 17), .int (nI tu)])), (a 17, .inl (cB, 220, .inl tb))]) hP hD
  have hP := hPD.1
  have hD := hPD.2
  refine lv_aload_n hx hb dX3_advance_10 rfl (lv_at hl 0 rfl) ?_
  refine lv_aload_n hx hb dX3_advance_11 rfl (lv_at hl 0 rfl) ?_
  refine va_get (D := D) (ci := 3) (v := .int (nI (pa + 1))) (C := RX3) (T := TX3) (N := 7) hx hb hts inT_X3 hown hK.1 hP 0 rfl rfl 3 (by decide) (hts _ k_168) (fun _ h9 => h9) rfl dX3_advance_12 ?_
  refine lv_aload_n hx hb dX3_advance_15 rfl (lv_at hl 0 rfl) ?_
  refine va_get (D := D) (ci := 3) (v := .int (nI en)) (C := RX3) (T := TX3) (N := 7) hx hb hts inT_X3 hown hK.1 hP 0 rfl rfl 2 (by decide) (hts _ k_167) (fun _ h9 => h9) rfl dX3_advance_16 ?_
  refine lv_icmp_ge (tgt := 36) hx hb dX3_advance_19 (by decide) (fun c_1 => ?_) (fun c_1 => ?_)
  · have n_2 : en ≤ (pa + 1) := (lf_X3_advance_t_3 a t en pa sg fa oq tu tb bb htu hen hpa hbt het hlt c_1)
    refine lv_iconst (v := (-1)) hx hb dX3_advance_36 (by decide) ?_
    refine va_put (D := D) (ci := 3) (v := .int (-1)) (ty := .int) (C := RX3) (T := TX3) (N := 7) hx hb hts inT_X3 tyX3 tyX3_ok nmX3 hown hK.1 hP hD hS 0 rfl rfl 4 (by decide) (hts _ k_169) (fun _ h9 => h9) rfl (by decide +kernel) rfl rfl (Nat.le_of_ble_eq_true rfl) dX3_advance_37 (fun H locs hP hD hS => ?_)
    have hPD := pd_mk (ws := [(a 2, .inr (3, [.ref (a 1), .ref (t 0), .int (nI en), .int (nI (pa + 1)), .int (-1), .int (nI oq), .int fa])), (a 1, .inr (8, [.ref (a 17), .int (nI tu)])), (a 17, .inl (cB, 220, .inl tb))]) hP hD
    have hP := hPD.1
    have hD := hPD.2
    rw [hQ]
    exact W.vret hx hb hr (fun tt9 ht hW => ⟨⟨(((pa + 1) : Nat), ((-1) : Int32)), rfl, (lf_X3_advance_t_4 a t en pa sg fa oq tu tb bb htu hen hpa hbt het hlt c_1 n_2), ⟨by rw [ht]; exact hP, hD⟩⟩, hS.F ht⟩) hS.2.2 dX3_advance_40 hlocks
  · have n_5 : (pa + 1) < en := (lf_X3_advance_t_6 a t en pa sg fa oq tu tb bb htu hen hpa hbt het hlt c_1)
    refine lv_aload_n hx hb dX3_advance_22 rfl (lv_at hl 0 rfl) ?_
    refine va_get (D := D) (ci := 3) (v := .ref (a 1)) (C := RX3) (T := TX3) (N := 7) hx hb hts inT_X3 hown hK.1 hP 0 rfl rfl 0 (by decide) (hts _ k_165) (fun _ h9 => h9) rfl dX3_advance_23 ?_
    refine lv_aload_n hx hb dX3_advance_26 rfl (lv_at hl 0 rfl) ?_
    refine va_get (D := D) (ci := 3) (v := .int (nI (pa + 1))) (C := RX3) (T := TX3) (N := 7) hx hb hts inT_X3 hown hK.1 hP 0 rfl rfl 3 (by decide) (hts _ k_168) (fun _ h9 => h9) rfl dX3_advance_27 ?_
    refine eRi (va_runV (As := [.int (nI (pa + 1))]) (rest := [.ref (a 2)]) ⟨hx, hb, hml, hown, hts⟩ (c_X8_byteAt_t l D cI cB cZ cJ tx a tu tb (pa + 1) (lf_X3_advance_t_7 a t en pa sg fa oq tu tb bb htu hen hpa hbt het hlt c_1 n_5) (lf_X3_advance_t_8 a t en pa sg fa oq tu tb bb htu hen hpa hbt het hlt c_1 n_5) H.size) (zV hts k_564 v_X8_byteAt ⟨Nat.le_of_ble_eq_true rfl, Nat.le_of_ble_eq_true rfl⟩) (pV (pxS hK hP hD [1, 2] (by decide) rfl) hK hP 1 rfl rfl) rfl rfl hl.1 rfl (lv_room (Nat.le_of_ble_eq_true rfl)) dX3_advance_30 ⟨Nat.le_of_ble_eq_true rfl, Nat.le_of_ble_eq_true rfl⟩) hP hS hA (fun r_9 H locs wr_9 hP hS => ?_)
    subst wr_9
    refine lv_goto (tgt := 37) hx hb dX3_advance_33 (by decide) ?_
    refine va_put (D := D) (ci := 3) (v := .int (tb (pa + 1) &&& 255)) (ty := .int) (C := RX3) (T := TX3) (N := 7) hx hb hts inT_X3 tyX3 tyX3_ok nmX3 hown hK.1 hP hD hS 0 rfl rfl 4 (by decide) (hts _ k_169) (fun _ h9 => h9) rfl (by decide +kernel) rfl rfl (Nat.le_of_ble_eq_true rfl) dX3_advance_37 (fun H locs hP hD hS => ?_)
    have hPD := pd_mk (ws := [(a 2, .inr (3, [.ref (a 1), .ref (t 0), .int (nI en), .int (nI (pa + 1)), .int (tb (pa + 1) &&& 255), .int (nI oq), .int fa])), (a 1, .inr (8, [.ref (a 17), .int (nI tu)])), (a 17, .inl (cB, 220, .inl tb))]) hP hD
    have hP := hPD.1
    have hD := hPD.2
    rw [hQ]
    exact W.vret hx hb hr (fun tt9 ht hW => ⟨⟨(((pa + 1) : Nat), (tb (pa + 1) &&& 255 : Int32)), rfl, (lf_X3_advance_t_10 a t en pa sg fa oq tu tb bb htu hen hpa hbt het hlt c_1 n_5), ⟨by rw [ht]; exact hP, hD⟩⟩, hS.F ht⟩) hS.2.2 dX3_advance_40 hlocks

theorem lf_X3_refuse_t_2 (a : Nat → Nat) (t : Nat → Nat) (en : Nat) (pa : Nat) (sg : Int32) (fa : Int32) (oq : Nat) (n1 : Int32) (c_1 : ¬ fa = 0) : (rfQ n1 fa (fa : Int32)) := by
  first | exact ⟨fun q => absurd q (by assumption), fun _ => rfl⟩ | exact ⟨fun _ => rfl, fun q => absurd (by assumption) q⟩
theorem lf_X3_refuse_t_3 (a : Nat → Nat) (t : Nat → Nat) (en : Nat) (pa : Nat) (sg : Int32) (fa : Int32) (oq : Nat) (n1 : Int32) (c_1 : fa = 0) : (rfQ n1 fa (n1 : Int32)) := by
  first | exact ⟨fun q => absurd q (by assumption), fun _ => rfl⟩ | exact ⟨fun _ => rfl, fun q => absurd (by assumption) q⟩
set_option maxHeartbeats 4000000 in
set_option maxRecDepth 100000 in
theorem c_X3_refuse_t (l : Launch) (D : va_G) (cI cB cZ cJ : ClassId) (tx : List (ClassId × FieldType)) (a : Nat → Nat) (t : Nat → Nat) (en : Nat) (pa : Nat) (sg : Int32) (fa : Int32) (oq : Nat) (n1 : Int32) : WrV l D cI cB cZ cJ tx yX3_refuse cX3_refuse 2 none 0 0 0 [.ref (a 2), .int n1] [(a 2, .inr (3, [.ref (a 1), .ref (t 0), .int (nI en), .int (nI pa), .int sg, .int (nI oq), .int fa]))] (fun (v : (Int32)) => (rfQ n1 fa v)) (fun v => [(a 2, .inr (3, [.ref (a 1), .ref (t 0), .int (nI en), .int (nI pa), .int sg, .int (nI oq), .int v]))]) := by
  refine wrv_of2 (by decide) (Nat.le_of_ble_eq_true rfl) ?_
  intro p e s m below meth c A ls H locs hC hK hP hD hA hS hl
  obtain ⟨hx, hb, hr, hml, hown, hts, hlocks, hin⟩ := hC
  have hown : s.vm.findClass RX3 = some m.cls := hown
  have hl : lv_has ls 2 [(0, .ref (a 2)), (1, .int n1)] := hl
  refine W_gQ (fun Q hQ => ?_)
  refine lv_aload_n hx hb dX3_refuse_0 rfl (lv_at hl 0 rfl) ?_
  refine va_get (D := D) (ci := 3) (v := .int fa) (C := RX3) (T := TX3) (N := 7) hx hb hts inT_X3 hown hK.1 hP 0 rfl rfl 6 (by decide) (hts _ k_171) (fun _ h9 => h9) rfl dX3_refuse_1 ?_
  refine lv_if_ne (tgt := 12) hx hb dX3_refuse_4 (by decide) (fun c_1 => ?_) (fun c_1 => ?_)
  · rw [hQ]
    exact W.vret hx hb hr (fun tt9 ht hW => ⟨⟨((fa : Int32)), rfl, (lf_X3_refuse_t_2 a t en pa sg fa oq n1 c_1), ⟨by rw [ht]; exact hP, hD⟩⟩, hS.F ht⟩) hS.2.2 dX3_refuse_12 hlocks
  · refine lv_aload_n hx hb dX3_refuse_7 rfl (lv_at hl 0 rfl) ?_
    refine lv_iload_n hx hb dX3_refuse_8 rfl (lv_at hl 1 rfl) ?_
    refine va_put (D := D) (ci := 3) (v := .int n1) (ty := .int) (C := RX3) (T := TX3) (N := 7) hx hb hts inT_X3 tyX3 tyX3_ok nmX3 hown hK.1 hP hD hS 0 rfl rfl 6 (by decide) (hts _ k_171) (fun _ h9 => h9) rfl (by decide +kernel) rfl rfl (Nat.le_of_ble_eq_true rfl) dX3_refuse_9 (fun H locs hP hD hS => ?_)
    have hPD := pd_mk (ws := [(a 2, .inr (3, [.ref (a 1), .ref (t 0), .int (nI en), .int (nI pa), .int sg, .int (nI oq), .int n1]))]) hP hD
    have hP := hPD.1
    have hD := hPD.2
    rw [hQ]
    exact W.vret hx hb hr (fun tt9 ht hW => ⟨⟨((n1 : Int32)), rfl, (lf_X3_refuse_t_3 a t en pa sg fa oq n1 c_1), ⟨by rw [ht]; exact hP, hD⟩⟩, hS.F ht⟩) hS.2.2 dX3_refuse_12 hlocks

theorem lf_X3_isOneOf_t_2 (a : Nat → Nat) (t : Nat → Nat) (en : Nat) (pa : Nat) (sg : Int32) (fa : Int32) (oq : Nat) (bb : Nat → Nat) (i0 : Nat) (hi0 : i0 < 16) (hsg : SGb bb sg pa en) (hbl : BLt bb en) (c_1 : ¬ fa = 0) : ((0 : Int32) = 0 ∧ (fa = 0 → ¬ sHas i0 (bb pa) = true)) ∨ ((0 : Int32) = 1 ∧ fa = 0 ∧ pa < en ∧ sg = nI (bb pa) ∧ sHas i0 (bb pa) = true) := by
  first
    | exact Or.inl ⟨rfl, fun q => absurd q (by assumption)⟩
    | exact Or.inl ⟨rfl, fun _ => sgb_no hsg hbl hi0 (by assumption)⟩
    | exact Or.inl ⟨rfl, fun _ => ix_no (by assumption) (by assumption)⟩
    | exact Or.inr ⟨rfl, by assumption, hlp, hsgq, ix_yes (by assumption) (by assumption)⟩
theorem lf_X3_isOneOf_t_4 (a : Nat → Nat) (t : Nat → Nat) (en : Nat) (pa : Nat) (sg : Int32) (fa : Int32) (oq : Nat) (bb : Nat → Nat) (i0 : Nat) (hi0 : i0 < 16) (hsg : SGb bb sg pa en) (hbl : BLt bb en) (c_1 : fa = 0) (c_3 : sg < 0) : ((0 : Int32) = 0 ∧ (fa = 0 → ¬ sHas i0 (bb pa) = true)) ∨ ((0 : Int32) = 1 ∧ fa = 0 ∧ pa < en ∧ sg = nI (bb pa) ∧ sHas i0 (bb pa) = true) := by
  first
    | exact Or.inl ⟨rfl, fun q => absurd q (by assumption)⟩
    | exact Or.inl ⟨rfl, fun _ => sgb_no hsg hbl hi0 (by assumption)⟩
    | exact Or.inl ⟨rfl, fun _ => ix_no (by assumption) (by assumption)⟩
    | exact Or.inr ⟨rfl, by assumption, hlp, hsgq, ix_yes (by assumption) (by assumption)⟩
theorem lf_X3_isOneOf_t_5 (a : Nat → Nat) (t : Nat → Nat) (en : Nat) (pa : Nat) (sg : Int32) (fa : Int32) (oq : Nat) (bb : Nat → Nat) (i0 : Nat) (hi0 : i0 < 16) (hsg : SGb bb sg pa en) (hbl : BLt bb en) (c_1 : fa = 0) (c_3 : ¬ sg < 0) (hlp : pa < en) (hsgq : sg = nI (bb pa)) (hbq : (bb pa) < 256) : (bb pa) < 65536 := by
  omega
theorem lf_X3_isOneOf_t_6 (a : Nat → Nat) (t : Nat → Nat) (en : Nat) (pa : Nat) (sg : Int32) (fa : Int32) (oq : Nat) (bb : Nat → Nat) (i0 : Nat) (hi0 : i0 < 16) (hsg : SGb bb sg pa en) (hbl : BLt bb en) (c_1 : fa = 0) (c_3 : ¬ sg < 0) (hlp : pa < en) (hsgq : sg = nI (bb pa)) (hbq : (bb pa) < 256) : i0 < 16 := by
  first | assumption | omega | decide
theorem lf_X3_isOneOf_t_7 (a : Nat → Nat) (t : Nat → Nat) (en : Nat) (pa : Nat) (sg : Int32) (fa : Int32) (oq : Nat) (bb : Nat → Nat) (i0 : Nat) (hi0 : i0 < 16) (hsg : SGb bb sg pa en) (hbl : BLt bb en) (c_1 : fa = 0) (c_3 : ¬ sg < 0) (hlp : pa < en) (hsgq : sg = nI (bb pa)) (hbq : (bb pa) < 256) : (bb pa) < 256 := by
  first | assumption | omega | decide
theorem lf_X3_isOneOf_t_8 (a : Nat → Nat) (t : Nat → Nat) (en : Nat) (pa : Nat) (sg : Int32) (fa : Int32) (oq : Nat) (bb : Nat → Nat) (i0 : Nat) (hi0 : i0 < 16) (hsg : SGb bb sg pa en) (hbl : BLt bb en) (c_1 : fa = 0) (c_3 : ¬ sg < 0) (hlp : pa < en) (hsgq : sg = nI (bb pa)) (hbq : (bb pa) < 256) : i0 < 16 := by
  first | omega | assumption
theorem lf_X3_isOneOf_t_11 (a : Nat → Nat) (t : Nat → Nat) (en : Nat) (pa : Nat) (sg : Int32) (fa : Int32) (oq : Nat) (bb : Nat → Nat) (i0 : Nat) (hi0 : i0 < 16) (hsg : SGb bb sg pa en) (hbl : BLt bb en) (c_1 : fa = 0) (c_3 : ¬ sg < 0) (hlp : pa < en) (hsgq : sg = nI (bb pa)) (hbq : (bb pa) < 256) (r_9 : Int32) (wr_9 : (0 ≤ r_9 ∧ sHas i0 (bb pa) = true) ∨ (r_9 < 0 ∧ ¬ sHas i0 (bb pa) = true)) (c_10 : r_9 < 0) : ((0 : Int32) = 0 ∧ (fa = 0 → ¬ sHas i0 (bb pa) = true)) ∨ ((0 : Int32) = 1 ∧ fa = 0 ∧ pa < en ∧ sg = nI (bb pa) ∧ sHas i0 (bb pa) = true) := by
  first
    | exact Or.inl ⟨rfl, fun q => absurd q (by assumption)⟩
    | exact Or.inl ⟨rfl, fun _ => sgb_no hsg hbl hi0 (by assumption)⟩
    | exact Or.inl ⟨rfl, fun _ => ix_no (by assumption) (by assumption)⟩
    | exact Or.inr ⟨rfl, by assumption, hlp, hsgq, ix_yes (by assumption) (by assumption)⟩
theorem lf_X3_isOneOf_t_12 (a : Nat → Nat) (t : Nat → Nat) (en : Nat) (pa : Nat) (sg : Int32) (fa : Int32) (oq : Nat) (bb : Nat → Nat) (i0 : Nat) (hi0 : i0 < 16) (hsg : SGb bb sg pa en) (hbl : BLt bb en) (c_1 : fa = 0) (c_3 : ¬ sg < 0) (hlp : pa < en) (hsgq : sg = nI (bb pa)) (hbq : (bb pa) < 256) (r_9 : Int32) (wr_9 : (0 ≤ r_9 ∧ sHas i0 (bb pa) = true) ∨ (r_9 < 0 ∧ ¬ sHas i0 (bb pa) = true)) (c_10 : ¬ r_9 < 0) : ((1 : Int32) = 0 ∧ (fa = 0 → ¬ sHas i0 (bb pa) = true)) ∨ ((1 : Int32) = 1 ∧ fa = 0 ∧ pa < en ∧ sg = nI (bb pa) ∧ sHas i0 (bb pa) = true) := by
  first
    | exact Or.inl ⟨rfl, fun q => absurd q (by assumption)⟩
    | exact Or.inl ⟨rfl, fun _ => sgb_no hsg hbl hi0 (by assumption)⟩
    | exact Or.inl ⟨rfl, fun _ => ix_no (by assumption) (by assumption)⟩
    | exact Or.inr ⟨rfl, by assumption, hlp, hsgq, ix_yes (by assumption) (by assumption)⟩
set_option maxHeartbeats 4000000 in
set_option maxRecDepth 100000 in
theorem c_X3_isOneOf_t (l : Launch) (D : va_G) (cI cB cZ cJ : ClassId) (tx : List (ClassId × FieldType)) (adK adV : Nat → Nat) (a : Nat → Nat) (t : Nat → Nat) (en : Nat) (pa : Nat) (sg : Int32) (fa : Int32) (oq : Nat) (bb : Nat → Nat) (i0 : Nat) (hi0 : i0 < 16) (hsg : SGb bb sg pa en) (hbl : BLt bb en) : RzI l D cI cB cZ cJ tx adK adV yX3_isOneOf cX3_isOneOf 2 (some .boolean) 4 [.ref (a 2), .ref (adK i0)] [(a 2, .inr (3, [.ref (a 1), .ref (t 0), .int (nI en), .int (nI pa), .int sg, .int (nI oq), .int fa]))] (fun r => (r = 0 ∧ (fa = 0 → ¬ sHas i0 (bb pa) = true)) ∨ (r = 1 ∧ fa = 0 ∧ pa < en ∧ sg = nI (bb pa) ∧ sHas i0 (bb pa) = true)) := by
  refine rzi_of2 (by decide +kernel) (Nat.le_of_ble_eq_true rfl) ?_
  intro p e s m below meth c A ls H locs hC hK hZ hP hD hA hS hl
  obtain ⟨hx, hb, hr, hml, hown, hts, hlocks, hin⟩ := hC
  have hown : s.vm.findClass RX3 = some m.cls := hown
  have hl : lv_has ls 2 [(0, .ref (a 2)), (1, .ref (adK i0))] := hl
  refine W_gQ (fun Q hQ => ?_)
  refine lv_aload_n hx hb dX3_isOneOf_0 rfl (lv_at hl 0 rfl) ?_
  refine va_get (D := D) (ci := 3) (v := .int fa) (C := RX3) (T := TX3) (N := 7) hx hb hts inT_X3 hown hK.1 hP 0 rfl rfl 6 (by decide) (hts _ k_171) (fun _ h9 => h9) rfl dX3_isOneOf_1 ?_
  refine lv_if_ne (tgt := 30) hx hb dX3_isOneOf_4 (by decide) (fun c_1 => ?_) (fun c_1 => ?_)
  · refine lv_iconst (v := 0) hx hb dX3_isOneOf_30 (by decide) ?_
    rw [hQ]
    exact W.zret (v := 0) hx hb hr (by decide) (fun tt9 ht hW => ⟨⟨(0 : Int32), (), rfl, (lf_X3_isOneOf_t_2 a t en pa sg fa oq bb i0 hi0 hsg hbl c_1), trivial⟩, hS.F ht⟩) hS.2.2 dX3_isOneOf_31 hlocks
  · refine lv_aload_n hx hb dX3_isOneOf_7 rfl (lv_at hl 0 rfl) ?_
    refine va_get (D := D) (ci := 3) (v := .int sg) (C := RX3) (T := TX3) (N := 7) hx hb hts inT_X3 hown hK.1 hP 0 rfl rfl 4 (by decide) (hts _ k_169) (fun _ h9 => h9) rfl dX3_isOneOf_8 ?_
    refine lv_if_lt (tgt := 30) hx hb dX3_isOneOf_11 (by decide) (fun c_3 => ?_) (fun c_3 => ?_)
    · refine lv_iconst (v := 0) hx hb dX3_isOneOf_30 (by decide) ?_
      rw [hQ]
      exact W.zret (v := 0) hx hb hr (by decide) (fun tt9 ht hW => ⟨⟨(0 : Int32), (), rfl, (lf_X3_isOneOf_t_4 a t en pa sg fa oq bb i0 hi0 hsg hbl c_1 c_3), trivial⟩, hS.F ht⟩) hS.2.2 dX3_isOneOf_31 hlocks
    · obtain ⟨hlp, hsgq⟩ := sgb_of hsg c_3
      subst hsgq
      have hbq : (bb pa) < 256 := hbl.1 _
      refine lv_aload_n hx hb dX3_isOneOf_14 rfl (lv_at hl 1 rfl) ?_
      refine lv_aload_n hx hb dX3_isOneOf_15 rfl (lv_at hl 0 rfl) ?_
      refine va_get (D := D) (ci := 3) (v := .int (nI (bb pa))) (C := RX3) (T := TX3) (N := 7) hx hb hts inT_X3 hown hK.1 hP 0 rfl rfl 4 (by decide) (hts _ k_169) (fun _ h9 => h9) rfl dX3_isOneOf_16 ?_
      refine lv_i2c hx hb dX3_isOneOf_19 (i2c_nI (lf_X3_isOneOf_t_5 a t en pa (nI (bb pa)) fa oq bb i0 hi0 hsg hbl c_1 c_3 hlp rfl hbq)) ?_
      refine eRi (va_runV (As := [.int (nI (bb pa))]) (rest := []) ⟨hx, hb, hml, hown, hts⟩ (c_J0_indexOf1_t l D cI cB cZ cJ tx adK adV i0 (bb pa) (lf_X3_isOneOf_t_6 a t en pa (nI (bb pa)) fa oq bb i0 hi0 hsg hbl c_1 c_3 hlp rfl hbq) (lf_X3_isOneOf_t_7 a t en pa (nI (bb pa)) fa oq bb i0 hi0 hsg hbl c_1 c_3 hlp rfl hbq) H.size) (zV hts k_576 v_J0_indexOf_0f7a4 ⟨Nat.le_of_ble_eq_true rfl, Nat.le_of_ble_eq_true rfl⟩) (pVS (pz (px0 hK) hZ hS (aR hS hA)) hZ (lf_X3_isOneOf_t_8 a t en pa (nI (bb pa)) fa oq bb i0 hi0 hsg hbl c_1 c_3 hlp rfl hbq) hS) rfl rfl hl.1 rfl (lv_room (Nat.le_of_ble_eq_true rfl)) dX3_isOneOf_20 ⟨Nat.le_of_ble_eq_true rfl, Nat.le_of_ble_eq_true rfl⟩) hP hS hA (fun r_9 H locs wr_9 hP hS => ?_)
      refine lv_if_lt (tgt := 30) hx hb dX3_isOneOf_23 (by decide) (fun c_10 => ?_) (fun c_10 => ?_)
      · refine lv_iconst (v := 0) hx hb dX3_isOneOf_30 (by decide) ?_
        rw [hQ]
        exact W.zret (v := 0) hx hb hr (by decide) (fun tt9 ht hW => ⟨⟨(0 : Int32), (), rfl, (lf_X3_isOneOf_t_11 a t en pa (nI (bb pa)) fa oq bb i0 hi0 hsg hbl c_1 c_3 hlp rfl hbq r_9 wr_9 c_10), trivial⟩, hS.F ht⟩) hS.2.2 dX3_isOneOf_31 hlocks
      · refine lv_iconst (v := 1) hx hb dX3_isOneOf_26 (by decide) ?_
        refine lv_goto (tgt := 31) hx hb dX3_isOneOf_27 (by decide) ?_
        rw [hQ]
        exact W.zret (v := 1) hx hb hr (by decide) (fun tt9 ht hW => ⟨⟨(1 : Int32), (), rfl, (lf_X3_isOneOf_t_12 a t en pa (nI (bb pa)) fa oq bb i0 hi0 hsg hbl c_1 c_3 hlp rfl hbq r_9 wr_9 c_10), trivial⟩, hS.F ht⟩) hS.2.2 dX3_isOneOf_31 hlocks

theorem lf_X3_take_t_1 (a : Nat → Nat) (t : Nat → Nat) (en : Nat) (pa : Nat) (sg : Int32) (fa : Int32) (oq : Nat) (tu : Nat) (tb : Nat → Int32) (bb : Nat → Nat) (i0 : Nat) (hi0 : i0 < 16) (htu : tu ≤ 220) (hen : en ≤ 200) (hpa : pa ≤ en) (hsg : SGb bb sg pa en) (hbl : BLt bb en) (hbt : BT bb tb en) (het : en ≤ tu) : i0 < 16 := by
  first | assumption | omega | decide | rfl | exact Or.inl ⟨by assumption, rfl⟩
theorem lf_X3_take_t_2 (a : Nat → Nat) (t : Nat → Nat) (en : Nat) (pa : Nat) (sg : Int32) (fa : Int32) (oq : Nat) (tu : Nat) (tb : Nat → Int32) (bb : Nat → Nat) (i0 : Nat) (hi0 : i0 < 16) (htu : tu ≤ 220) (hen : en ≤ 200) (hpa : pa ≤ en) (hsg : SGb bb sg pa en) (hbl : BLt bb en) (hbt : BT bb tb en) (het : en ≤ tu) : SGb bb sg pa en := by
  first | assumption | omega | decide | rfl | exact Or.inl ⟨by assumption, rfl⟩
theorem lf_X3_take_t_3 (a : Nat → Nat) (t : Nat → Nat) (en : Nat) (pa : Nat) (sg : Int32) (fa : Int32) (oq : Nat) (tu : Nat) (tb : Nat → Int32) (bb : Nat → Nat) (i0 : Nat) (hi0 : i0 < 16) (htu : tu ≤ 220) (hen : en ≤ 200) (hpa : pa ≤ en) (hsg : SGb bb sg pa en) (hbl : BLt bb en) (hbt : BT bb tb en) (het : en ≤ tu) : BLt bb en := by
  first | assumption | omega | decide | rfl | exact Or.inl ⟨by assumption, rfl⟩
theorem lf_X3_take_t_7 (a : Nat → Nat) (t : Nat → Nat) (en : Nat) (pa : Nat) (sg : Int32) (fa : Int32) (oq : Nat) (tu : Nat) (tb : Nat → Int32) (bb : Nat → Nat) (i0 : Nat) (hi0 : i0 < 16) (htu : tu ≤ 220) (hen : en ≤ 200) (hpa : pa ≤ en) (hsg : SGb bb sg pa en) (hbl : BLt bb en) (hbt : BT bb tb en) (het : en ≤ tu) (hi4 : fa = 0 → ¬ sHas i0 (bb pa) = true) (fa_6 : Int32) (hz_6_0 : rfQ ((1 : Int32)) fa fa_6) : (pa ≤ (pa : Nat)) ∧ ((pa : Nat) ≤ en) ∧ (SGb bb (sg : Int32) (pa : Nat) en) ∧ (tkQ (sHas i0 (bb pa) = true) pa fa (pa : Nat) (fa_6 : Int32)) := by
  refine ⟨by omega, by omega, by first | assumption | exact Or.inl ⟨by assumption, rfl⟩, ?_⟩
  first | exact tkQ.y (by assumption) (by assumption) (by assumption) | exact tkQ.n (by assumption) (by assumption)
theorem lf_X3_take_t_8 (a : Nat → Nat) (t : Nat → Nat) (en : Nat) (pa : Nat) (sg : Int32) (fa : Int32) (oq : Nat) (tu : Nat) (tb : Nat → Int32) (bb : Nat → Nat) (i0 : Nat) (hi0 : i0 < 16) (htu : tu ≤ 220) (hen : en ≤ 200) (hpa : pa ≤ en) (hsg : SGb bb sg pa en) (hbl : BLt bb en) (hbt : BT bb tb en) (het : en ≤ tu) (he4 : sg = nI (bb pa)) (hf4 : fa = 0) (hl4 : pa < en) (hs4 : sHas i0 (bb pa) = true) (hb4 : (bb pa) < 256) : tu ≤ 220 := by
  first | assumption | omega | decide | rfl | exact Or.inl ⟨by assumption, rfl⟩
theorem lf_X3_take_t_9 (a : Nat → Nat) (t : Nat → Nat) (en : Nat) (pa : Nat) (sg : Int32) (fa : Int32) (oq : Nat) (tu : Nat) (tb : Nat → Int32) (bb : Nat → Nat) (i0 : Nat) (hi0 : i0 < 16) (htu : tu ≤ 220) (hen : en ≤ 200) (hpa : pa ≤ en) (hsg : SGb bb sg pa en) (hbl : BLt bb en) (hbt : BT bb tb en) (het : en ≤ tu) (he4 : sg = nI (bb pa)) (hf4 : fa = 0) (hl4 : pa < en) (hs4 : sHas i0 (bb pa) = true) (hb4 : (bb pa) < 256) : en ≤ 200 := by
  first | assumption | omega | decide | rfl | exact Or.inl ⟨by assumption, rfl⟩
theorem lf_X3_take_t_10 (a : Nat → Nat) (t : Nat → Nat) (en : Nat) (pa : Nat) (sg : Int32) (fa : Int32) (oq : Nat) (tu : Nat) (tb : Nat → Int32) (bb : Nat → Nat) (i0 : Nat) (hi0 : i0 < 16) (htu : tu ≤ 220) (hen : en ≤ 200) (hpa : pa ≤ en) (hsg : SGb bb sg pa en) (hbl : BLt bb en) (hbt : BT bb tb en) (het : en ≤ tu) (he4 : sg = nI (bb pa)) (hf4 : fa = 0) (hl4 : pa < en) (hs4 : sHas i0 (bb pa) = true) (hb4 : (bb pa) < 256) : pa ≤ en := by
  first | assumption | omega | decide | rfl | exact Or.inl ⟨by assumption, rfl⟩
theorem lf_X3_take_t_11 (a : Nat → Nat) (t : Nat → Nat) (en : Nat) (pa : Nat) (sg : Int32) (fa : Int32) (oq : Nat) (tu : Nat) (tb : Nat → Int32) (bb : Nat → Nat) (i0 : Nat) (hi0 : i0 < 16) (htu : tu ≤ 220) (hen : en ≤ 200) (hpa : pa ≤ en) (hsg : SGb bb sg pa en) (hbl : BLt bb en) (hbt : BT bb tb en) (het : en ≤ tu) (he4 : sg = nI (bb pa)) (hf4 : fa = 0) (hl4 : pa < en) (hs4 : sHas i0 (bb pa) = true) (hb4 : (bb pa) < 256) : BT bb tb en := by
  first | assumption | omega | decide | rfl | exact Or.inl ⟨by assumption, rfl⟩
theorem lf_X3_take_t_12 (a : Nat → Nat) (t : Nat → Nat) (en : Nat) (pa : Nat) (sg : Int32) (fa : Int32) (oq : Nat) (tu : Nat) (tb : Nat → Int32) (bb : Nat → Nat) (i0 : Nat) (hi0 : i0 < 16) (htu : tu ≤ 220) (hen : en ≤ 200) (hpa : pa ≤ en) (hsg : SGb bb sg pa en) (hbl : BLt bb en) (hbt : BT bb tb en) (het : en ≤ tu) (he4 : sg = nI (bb pa)) (hf4 : fa = 0) (hl4 : pa < en) (hs4 : sHas i0 (bb pa) = true) (hb4 : (bb pa) < 256) : en ≤ tu := by
  first | assumption | omega | decide | rfl | exact Or.inl ⟨by assumption, rfl⟩
theorem lf_X3_take_t_13 (a : Nat → Nat) (t : Nat → Nat) (en : Nat) (pa : Nat) (sg : Int32) (fa : Int32) (oq : Nat) (tu : Nat) (tb : Nat → Int32) (bb : Nat → Nat) (i0 : Nat) (hi0 : i0 < 16) (htu : tu ≤ 220) (hen : en ≤ 200) (hpa : pa ≤ en) (hsg : SGb bb sg pa en) (hbl : BLt bb en) (hbt : BT bb tb en) (het : en ≤ tu) (he4 : sg = nI (bb pa)) (hf4 : fa = 0) (hl4 : pa < en) (hs4 : sHas i0 (bb pa) = true) (hb4 : (bb pa) < 256) : pa < en := by
  first | assumption | omega | decide | rfl | exact Or.inl ⟨by assumption, rfl⟩
theorem lf_X3_take_t_16 (a : Nat → Nat) (t : Nat → Nat) (en : Nat) (pa : Nat) (sg : Int32) (fa : Int32) (oq : Nat) (tu : Nat) (tb : Nat → Int32) (bb : Nat → Nat) (i0 : Nat) (hi0 : i0 < 16) (htu : tu ≤ 220) (hen : en ≤ 200) (hpa : pa ≤ en) (hsg : SGb bb sg pa en) (hbl : BLt bb en) (hbt : BT bb tb en) (het : en ≤ tu) (he4 : sg = nI (bb pa)) (hf4 : fa = 0) (hl4 : pa < en) (hs4 : sHas i0 (bb pa) = true) (hb4 : (bb pa) < 256) (pa_15 : Nat) (sg_15 : Int32) (hz_15_0 : pa_15 = pa + 1) (hz_15_1 : pa_15 ≤ en) (hz_15_2 : SGb bb sg_15 pa_15 en) : (pa ≤ (pa_15 : Nat)) ∧ ((pa_15 : Nat) ≤ en) ∧ (SGb bb (sg_15 : Int32) (pa_15 : Nat) en) ∧ (tkQ (sHas i0 (bb pa) = true) pa fa (pa_15 : Nat) (0 : Int32)) := by
  refine ⟨by omega, by omega, by first | assumption | exact Or.inl ⟨by assumption, rfl⟩, ?_⟩
  first | exact tkQ.y (by assumption) (by assumption) (by assumption) | exact tkQ.n (by assumption) (by assumption)
set_option maxHeartbeats 4000000 in
set_option maxRecDepth 100000 in
theorem c_X3_take_t (l : Launch) (D : va_G) (cI cB cZ cJ : ClassId) (tx : List (ClassId × FieldType)) (adK adV : Nat → Nat) (a : Nat → Nat) (t : Nat → Nat) (en : Nat) (pa : Nat) (sg : Int32) (fa : Int32) (oq : Nat) (tu : Nat) (tb : Nat → Int32) (bb : Nat → Nat) (i0 : Nat) (hi0 : i0 < 16) (htu : tu ≤ 220) (hen : en ≤ 200) (hpa : pa ≤ en) (hsg : SGb bb sg pa en) (hbl : BLt bb en) (hbt : BT bb tb en) (het : en ≤ tu) : WzV l D cI cB cZ cJ tx adK adV yX3_take cX3_take 2 none 5 0 0 [.ref (a 2), .ref (adK i0)] [(a 2, .inr (3, [.ref (a 1), .ref (t 0), .int (nI en), .int (nI pa), .int sg, .int (nI oq), .int fa])), (a 1, .inr (8, [.ref (a 17), .int (nI tu)])), (a 17, .inl (cB, 220, .inl tb))] (fun (v : (Nat) × (Int32) × (Int32)) => (pa ≤ v.1) ∧ (v.1 ≤ en) ∧ (SGb bb v.2.1 v.1 en) ∧ (tkQ (sHas i0 (bb pa) = true) pa fa v.1 v.2.2)) (fun v => [(a 2, .inr (3, [.ref (a 1), .ref (t 0), .int (nI en), .int (nI (v.1)), .int v.2.1, .int (nI oq), .int v.2.2])), (a 1, .inr (8, [.ref (a 17), .int (nI tu)])), (a 17, .inl (cB, 220, .inl tb))]) := by
  refine wzv_of2 (by decide +kernel) (Nat.le_of_ble_eq_true rfl) ?_
  intro p e s m below meth c A ls H locs hC hK hZ hP hD hA hS hl
  obtain ⟨hx, hb, hr, hml, hown, hts, hlocks, hin⟩ := hC
  have hown : s.vm.findClass RX3 = some m.cls := hown
  have hl : lv_has ls 2 [(0, .ref (a 2)), (1, .ref (adK i0))] := hl
  refine W_gQ (fun Q hQ => ?_)
  refine lv_aload_n hx hb dX3_take_0 rfl (lv_at hl 0 rfl) ?_
  refine lv_aload_n hx hb dX3_take_1 rfl (lv_at hl 1 rfl) ?_
  refine eRi (va_runV (As := [.ref (adK i0)]) (rest := []) ⟨hx, hb, hml, hown, hts⟩ (c_X3_isOneOf_t l D cI cB cZ cJ tx adK adV a t en pa sg fa oq bb i0 (lf_X3_take_t_1 a t en pa sg fa oq tu tb bb i0 hi0 htu hen hpa hsg hbl hbt het) (lf_X3_take_t_2 a t en pa sg fa oq tu tb bb i0 hi0 htu hen hpa hsg hbl hbt het) (lf_X3_take_t_3 a t en pa sg fa oq tu tb bb i0 hi0 htu hen hpa hsg hbl hbt het) H.size) (zV hts k_572 v_X3_isOneOf ⟨Nat.le_of_ble_eq_true rfl, Nat.le_of_ble_eq_true rfl⟩) (pV (pz (px1 hK hP 0 rfl) hZ hS (aR hS hA)) hK hP 0 rfl rfl) rfl rfl hl.1 rfl (lv_room (Nat.le_of_ble_eq_true rfl)) dX3_take_2 ⟨Nat.le_of_ble_eq_true rfl, Nat.le_of_ble_eq_true rfl⟩) hP hS hA (fun r_4 H locs wr_4 hP hS => ?_)
  rcases wr_4 with ⟨rfl, hi4⟩ | ⟨rfl, rfl, hl4, rfl, hs4⟩
  · refine lv_if_eq (tgt := 15) hx hb dX3_take_5 (by decide) (fun _ => ?_) (fun c => absurd c (by decide))
    refine lv_aload_n hx hb dX3_take_15 rfl (lv_at hl 0 rfl) ?_
    refine lv_iconst (v := 1) hx hb dX3_take_16 (by decide) ?_
    refine eWvP (va_runV (As := [.int 1]) (rest := []) ⟨hx, hb, hml, hown, hts⟩ (c_X3_refuse_t l D cI cB cZ cJ tx a t en pa sg fa oq 1 H.size) (zV hts k_662 v_X3_refuse ⟨Nat.le_of_ble_eq_true rfl, Nat.le_of_ble_eq_true rfl⟩) (pV (pxS hK hP hD [0] (by decide) rfl) hK hP 0 rfl rfl) rfl rfl hl.1 rfl (lv_room (Nat.le_of_ble_eq_true rfl)) dX3_take_17 ⟨Nat.le_of_ble_eq_true rfl, Nat.le_of_ble_eq_true rfl⟩) hP hD hS hA [0] [some 0, none, none] rfl (by decide +kernel) (fun _ => rfl) (fun u_6 H locs wr_5 hP hD hS => ?_)
    obtain ⟨fa_6, rfl⟩ : ∃ z, z = u_6 := ⟨_, rfl⟩
    have hz_6_0 : rfQ ((1 : Int32)) fa fa_6 := wr_5
    have hPD := pd_mk (ws := [(a 2, .inr (3, [.ref (a 1), .ref (t 0), .int (nI en), .int (nI pa), .int sg, .int (nI oq), .int fa_6])), (a 1, .inr (8, [.ref (a 17), .int (nI tu)])), (a 17, .inl (cB, 220, .inl tb))]) hP hD
    have hP := hPD.1
    have hD := hPD.2
    rw [hQ]
    exact W.vret hx hb hr (fun tt9 ht hW => ⟨⟨((pa : Nat), (sg : Int32), (fa_6 : Int32)), rfl, (lf_X3_take_t_7 a t en pa sg fa oq tu tb bb i0 hi0 htu hen hpa hsg hbl hbt het hi4 fa_6 hz_6_0), ⟨by rw [ht]; exact hP, hD⟩⟩, hS.F ht⟩) hS.2.2 dX3_take_20 hlocks
  · have hb4 : (bb pa) < 256 := hbl.1 _
    refine lv_if_eq (tgt := 15) hx hb dX3_take_5 (by decide) (fun c => absurd c (by decide)) (fun _ => ?_)
    refine lv_aload_n hx hb dX3_take_8 rfl (lv_at hl 0 rfl) ?_
    refine eWvP (va_runV (As := []) (rest := []) ⟨hx, hb, hml, hown, hts⟩ (c_X3_advance_t l D cI cB cZ cJ tx a t en pa (nI (bb pa)) 0 oq tu tb bb (lf_X3_take_t_8 a t en pa (nI (bb pa)) (0) oq tu tb bb i0 hi0 htu hen hpa hsg hbl hbt het rfl rfl hl4 hs4 hb4) (lf_X3_take_t_9 a t en pa (nI (bb pa)) (0) oq tu tb bb i0 hi0 htu hen hpa hsg hbl hbt het rfl rfl hl4 hs4 hb4) (lf_X3_take_t_10 a t en pa (nI (bb pa)) (0) oq tu tb bb i0 hi0 htu hen hpa hsg hbl hbt het rfl rfl hl4 hs4 hb4) (lf_X3_take_t_11 a t en pa (nI (bb pa)) (0) oq tu tb bb i0 hi0 htu hen hpa hsg hbl hbt het rfl rfl hl4 hs4 hb4) (lf_X3_take_t_12 a t en pa (nI (bb pa)) (0) oq tu tb bb i0 hi0 htu hen hpa hsg hbl hbt het rfl rfl hl4 hs4 hb4) (lf_X3_take_t_13 a t en pa (nI (bb pa)) (0) oq tu tb bb i0 hi0 htu hen hpa hsg hbl hbt het rfl rfl hl4 hs4 hb4) H.size) (zV hts k_670 v_X3_advance ⟨Nat.le_of_ble_eq_true rfl, Nat.le_of_ble_eq_true rfl⟩) (pV (pxS hK hP hD [0, 1, 2] (by decide) rfl) hK hP 0 rfl rfl) rfl rfl hl.1 rfl (lv_room (Nat.le_of_ble_eq_true rfl)) dX3_take_9 ⟨Nat.le_of_ble_eq_true rfl, Nat.le_of_ble_eq_true rfl⟩) hP hD hS hA [0, 1, 2] [some 0, some 1, some 2] rfl (by decide +kernel) (fun _ => rfl) (fun u_15 H locs wr_14 hP hD hS => ?_)
    obtain ⟨pa_15, sg_15⟩ := u_15
    have hz_15_0 : pa_15 = pa + 1 := wr_14.1
    have hz_15_1 : pa_15 ≤ en := wr_14.2.1
    have hz_15_2 : SGb bb sg_15 pa_15 en := wr_14.2.2
    have hPD := pd_mk (ws := [(a 2, .inr (3, [.ref (a 1), .ref (t 0), .int (nI en), .int (nI pa_15), .int sg_15, .int (nI oq), .int 0])), (a 1, .inr (8, [.ref (a 17), .int (nI tu)])), (a 17, .inl (cB, 220, .inl tb))]) hP hD
    have hP := hPD.1
    have hD := hPD.2
    refine lv_goto (tgt := 20) hx hb dX3_take_12 (by decide) ?_
    rw [hQ]
    exact W.vret hx hb hr (fun tt9 ht hW => ⟨⟨((pa_15 : Nat), (sg_15 : Int32), (0 : Int32)), rfl, (lf_X3_take_t_16 a t en pa (nI (bb pa)) (0) oq tu tb bb i0 hi0 htu hen hpa hsg hbl hbt het rfl rfl hl4 hs4 hb4 pa_15 sg_15 hz_15_0 hz_15_1 hz_15_2), ⟨by rw [ht]; exact hP, hD⟩⟩, hS.F ht⟩) hS.2.2 dX3_take_20 hlocks

theorem lf_X9_add_t_3 (t : Nat → Nat) (un : Nat) (k1 : Nat) (p1 : Nat) (rf : Int32) (fs : Nat → Int32) (k0 : Nat) (o0 : Nat) (hun : un ≤ 200) (hst : ∀ j, j < 200 → 0 ≤ fs j) (hk0 : k0 < 16) (ho0 : o0 ≤ 99999) (c_1 : nI un < 200) : un < 200 := by
  exact (nI_ltI (a := un) (b := 200) (by omega) (by omega)).mp c_1
theorem lf_X9_add_t_7 (t : Nat → Nat) (un : Nat) (k1 : Nat) (p1 : Nat) (rf : Int32) (fs : Nat → Int32) (k0 : Nat) (o0 : Nat) (hun : un ≤ 200) (hst : ∀ j, j < 200 → 0 ≤ fs j) (hk0 : k0 < 16) (ho0 : o0 ≤ 99999) (c_1 : nI un < 200) (n_2 : un < 200) (x_4 : Int32) (ex_4 : x_4 = nI o0 <<< (4 &&& 31)) (x_5 : Int32) (ex_5 : x_5 = x_4 ||| nI k0) : un < 200 := by
  omega
theorem lf_X9_add_t_8 (t : Nat → Nat) (un : Nat) (k1 : Nat) (p1 : Nat) (rf : Int32) (fs : Nat → Int32) (k0 : Nat) (o0 : Nat) (hun : un ≤ 200) (hst : ∀ j, j < 200 → 0 ≤ fs j) (hk0 : k0 < 16) (ho0 : o0 ≤ 99999) (c_1 : nI un < 200) (n_2 : un < 200) (x_4 : Int32) (ex_4 : x_4 = nI o0 <<< (4 &&& 31)) (x_5 : Int32) (ex_5 : x_5 = x_4 ||| nI k0) (f_6 : Nat → Int32) (ef_6 : f_6 = upd fs un x_5) : 1 ≤ (un + 1) := by
  omega
theorem lf_X9_add_t_9 (t : Nat → Nat) (un : Nat) (k1 : Nat) (p1 : Nat) (rf : Int32) (fs : Nat → Int32) (k0 : Nat) (o0 : Nat) (hun : un ≤ 200) (hst : ∀ j, j < 200 → 0 ≤ fs j) (hk0 : k0 < 16) (ho0 : o0 ≤ 99999) (c_1 : nI un < 200) (n_2 : un < 200) (x_4 : Int32) (ex_4 : x_4 = nI o0 <<< (4 &&& 31)) (x_5 : Int32) (ex_5 : x_5 = x_4 ||| nI k0) (f_6 : Nat → Int32) (ef_6 : f_6 = upd fs un x_5) : (nI ((un + 1) - 1) : Int32) = nI un ∧ (((un + 1) : Nat) ≤ 200) ∧ (∀ j, j < 200 → 0 ≤ (f_6 : Nat → Int32) j) ∧ (adM (nI (16 * o0 + k0)) fs un (f_6 : Nat → Int32) ((un + 1) : Nat)) := by
  first
    | exact ⟨congrArg nI (by omega), by omega, hst, ⟨fun q => by omega, fun _ => ⟨rfl, rfl⟩⟩⟩
    | (refine ⟨congrArg nI (by omega), by omega, st_upd hst (by assumption) ?_, ⟨fun _ => ⟨rfl, ?_⟩, fun q => by omega⟩⟩
       · subst_vars; rw [kd_mk ho0 hk0]; exact nI_pos' (by omega)
       · subst_vars; rw [kd_mk ho0 hk0])
theorem lf_X9_add_t_11 (t : Nat → Nat) (un : Nat) (k1 : Nat) (p1 : Nat) (rf : Int32) (fs : Nat → Int32) (k0 : Nat) (o0 : Nat) (hun : un ≤ 200) (hst : ∀ j, j < 200 → 0 ≤ fs j) (hk0 : k0 < 16) (ho0 : o0 ≤ 99999) (c_1 : ¬ nI un < 200) : 200 ≤ un := by
  exact Nat.le_of_not_lt (fun q => c_1 ((nI_ltI (a := un) (b := 200) (by omega) (by omega)).mpr q))
theorem lf_X9_add_t_12 (t : Nat → Nat) (un : Nat) (k1 : Nat) (p1 : Nat) (rf : Int32) (fs : Nat → Int32) (k0 : Nat) (o0 : Nat) (hun : un ≤ 200) (hst : ∀ j, j < 200 → 0 ≤ fs j) (hk0 : k0 < 16) (ho0 : o0 ≤ 99999) (c_1 : ¬ nI un < 200) (n_10 : 200 ≤ un) : (nI un : Int32) = nI un ∧ ((un : Nat) ≤ 200) ∧ (∀ j, j < 200 → 0 ≤ (fs : Nat → Int32) j) ∧ (adM (nI (16 * o0 + k0)) fs un (fs : Nat → Int32) (un : Nat)) := by
  first
    | exact ⟨congrArg nI (by omega), by omega, hst, ⟨fun q => by omega, fun _ => ⟨rfl, rfl⟩⟩⟩
    | (refine ⟨congrArg nI (by omega), by omega, st_upd hst (by assumption) ?_, ⟨fun _ => ⟨rfl, ?_⟩, fun q => by omega⟩⟩
       · subst_vars; rw [kd_mk ho0 hk0]; exact nI_pos' (by omega)
       · subst_vars; rw [kd_mk ho0 hk0])
set_option maxHeartbeats 4000000 in
set_option maxRecDepth 100000 in
theorem c_X9_add_t (l : Launch) (D : va_G) (cI cB cZ cJ : ClassId) (tx : List (ClassId × FieldType)) (t : Nat → Nat) (un : Nat) (k1 : Nat) (p1 : Nat) (rf : Int32) (fs : Nat → Int32) (k0 : Nat) (o0 : Nat) (hun : un ≤ 200) (hst : ∀ j, j < 200 → 0 ≤ fs j) (hk0 : k0 < 16) (ho0 : o0 ≤ 99999) : WrI l D cI cB cZ cJ tx yX9_add cX9_add 3 (some .int) 0 0 0 [.ref (t 0), .int (nI k0), .int (nI o0)] [(t 0, .inr (9, [.ref (t 1), .ref (t 2), .ref (t 3), .ref (t 4), .ref (t 5), .int (nI un), .int (nI k1), .int (nI p1), .int rf])), (t 1, .inl (cI, 200, .inl fs))] (fun (r : Int32) (v : (Nat) × (Nat → Int32)) => r = nI un ∧ (v.1 ≤ 200) ∧ (∀ j, j < 200 → 0 ≤ v.2 j) ∧ (adM (nI (16 * o0 + k0)) fs un v.2 v.1)) (fun v => [(t 0, .inr (9, [.ref (t 1), .ref (t 2), .ref (t 3), .ref (t 4), .ref (t 5), .int (nI (v.1)), .int (nI k1), .int (nI p1), .int rf])), (t 1, .inl (cI, 200, .inl v.2))]) := by
  refine wri_of2 (by decide) (Nat.le_of_ble_eq_true rfl) ?_
  intro p e s m below meth c A ls H locs hC hK hP hD hA hS hl
  obtain ⟨hx, hb, hr, hml, hown, hts, hlocks, hin⟩ := hC
  have hown : s.vm.findClass RX9 = some m.cls := hown
  have hl : lv_has ls 3 [(0, .ref (t 0)), (1, .int (nI k0)), (2, .int (nI o0))] := hl
  refine W_gQ (fun Q hQ => ?_)
  refine lv_aload_n hx hb dX9_add_0 rfl (lv_at hl 0 rfl) ?_
  refine va_get (D := D) (ci := 9) (v := .int (nI un)) (C := RX9) (T := TX9) (N := 9) hx hb hts inT_X9 hown hK.1 hP 0 rfl rfl 5 (by decide) (hts _ k_199) (fun _ h9 => h9) rfl dX9_add_1 ?_
  refine lv_aload_n hx hb dX9_add_4 rfl (lv_at hl 0 rfl) ?_
  refine va_get (D := D) (ci := 9) (v := .ref (t 1)) (C := RX9) (T := TX9) (N := 9) hx hb hts inT_X9 hown hK.1 hP 0 rfl rfl 0 (by decide) (hts _ k_194) (fun _ h9 => h9) rfl dX9_add_5 ?_
  refine ln_x (v := 200) hx hb hK hP 1 0 rfl rfl (show Int32.ofNat 200 = 200 from by decide) dX9_add_8 ?_
  refine lv_icmp_lt (tgt := 17) hx hb dX9_add_9 (by decide) (fun c_1 => ?_) (fun c_1 => ?_)
  · have n_2 : un < 200 := (lf_X9_add_t_3 t un k1 p1 rf fs k0 o0 hun hst hk0 ho0 c_1)
    refine lv_aload_n hx hb dX9_add_17 rfl (lv_at hl 0 rfl) ?_
    refine va_get (D := D) (ci := 9) (v := .ref (t 1)) (C := RX9) (T := TX9) (N := 9) hx hb hts inT_X9 hown hK.1 hP 0 rfl rfl 0 (by decide) (hts _ k_194) (fun _ h9 => h9) rfl dX9_add_18 ?_
    refine lv_aload_n hx hb dX9_add_21 rfl (lv_at hl 0 rfl) ?_
    refine va_get (D := D) (ci := 9) (v := .int (nI un)) (C := RX9) (T := TX9) (N := 9) hx hb hts inT_X9 hown hK.1 hP 0 rfl rfl 5 (by decide) (hts _ k_199) (fun _ h9 => h9) rfl dX9_add_22 ?_
    refine lv_iload_n hx hb dX9_add_25 rfl (lv_at hl 2 rfl) ?_
    refine lv_iconst (v := 4) hx hb dX9_add_26 (by decide) ?_
    refine lv_ishl hx hb dX9_add_27 ?_
    refine lv_topi (fun x_4 ex_4 => ?_)
    refine lv_iload_n hx hb dX9_add_28 rfl (lv_at hl 1 rfl) ?_
    refine lv_ior hx hb dX9_add_29 ?_
    refine lv_topi (fun x_5 ex_5 => ?_)
    refine su_i (j := un) hx hb hK hP hD hS 1 rfl (lf_X9_add_t_7 t un k1 p1 rf fs k0 o0 hun hst hk0 ho0 c_1 n_2 x_4 ex_4 x_5 ex_5) (by first | decide | assumption) dX9_add_30 (fun f_6 H locs ef_6 hP hD hS => ?_)
    have hPD := pd_mk (ws := [(t 0, .inr (9, [.ref (t 1), .ref (t 2), .ref (t 3), .ref (t 4), .ref (t 5), .int (nI un), .int (nI k1), .int (nI p1), .int rf])), (t 1, .inl (cI, 200, .inl f_6))]) hP hD
    have hP := hPD.1
    have hD := hPD.2
    refine lv_aload_n hx hb dX9_add_31 rfl (lv_at hl 0 rfl) ?_
    refine lv_dup hx hb dX9_add_32 rfl ?_
    refine va_get (D := D) (ci := 9) (v := .int (nI un)) (C := RX9) (T := TX9) (N := 9) hx hb hts inT_X9 hown hK.1 hP 0 rfl rfl 5 (by decide) (hts _ k_199) (fun _ h9 => h9) rfl dX9_add_33 ?_
    refine lv_iconst (v := 1) hx hb dX9_add_36 (by decide) ?_
    refine lv_iadd hx hb dX9_add_37 ?_
    refine lv_topv (y := nI (un + 1)) (nI_add un 1) ?_
    refine va_put (D := D) (ci := 9) (v := .int (nI (un + 1))) (ty := .int) (C := RX9) (T := TX9) (N := 9) hx hb hts inT_X9 tyX9 tyX9_ok nmX9 hown hK.1 hP hD hS 0 rfl rfl 5 (by decide) (hts _ k_199) (fun _ h9 => h9) rfl (by decide +kernel) rfl rfl (Nat.le_of_ble_eq_true rfl) dX9_add_38 (fun H locs hP hD hS => ?_)
    have hPD := pd_mk (ws := [(t 0, .inr (9, [.ref (t 1), .ref (t 2), .ref (t 3), .ref (t 4), .ref (t 5), .int (nI (un + 1)), .int (nI k1), .int (nI p1), .int rf])), (t 1, .inl (cI, 200, .inl f_6))]) hP hD
    have hP := hPD.1
    have hD := hPD.2
    refine lv_aload_n hx hb dX9_add_41 rfl (lv_at hl 0 rfl) ?_
    refine va_get (D := D) (ci := 9) (v := .int (nI (un + 1))) (C := RX9) (T := TX9) (N := 9) hx hb hts inT_X9 hown hK.1 hP 0 rfl rfl 5 (by decide) (hts _ k_199) (fun _ h9 => h9) rfl dX9_add_42 ?_
    refine lv_iconst (v := 1) hx hb dX9_add_45 (by decide) ?_
    refine lv_isub hx hb dX9_add_46 ?_
    refine lv_topv (y := nI ((un + 1) - 1)) (pk_sub (lf_X9_add_t_8 t un k1 p1 rf fs k0 o0 hun hst hk0 ho0 c_1 n_2 x_4 ex_4 x_5 ex_5 f_6 ef_6)) ?_
    rw [hQ]
    exact W.iret (v := nI ((un + 1) - 1)) hx hb hr (fun tt9 ht hW => ⟨⟨(nI ((un + 1) - 1) : Int32), (((un + 1) : Nat), (f_6 : Nat → Int32)), rfl, (lf_X9_add_t_9 t un k1 p1 rf fs k0 o0 hun hst hk0 ho0 c_1 n_2 x_4 ex_4 x_5 ex_5 f_6 ef_6), ⟨by rw [ht]; exact hP, hD⟩⟩, hS.F ht⟩) hS.2.2 dX9_add_47 hlocks
  · have n_10 : 200 ≤ un := (lf_X9_add_t_11 t un k1 p1 rf fs k0 o0 hun hst hk0 ho0 c_1)
    refine lv_aload_n hx hb dX9_add_12 rfl (lv_at hl 0 rfl) ?_
    refine va_get (D := D) (ci := 9) (v := .int (nI un)) (C := RX9) (T := TX9) (N := 9) hx hb hts inT_X9 hown hK.1 hP 0 rfl rfl 5 (by decide) (hts _ k_199) (fun _ h9 => h9) rfl dX9_add_13 ?_
    rw [hQ]
    exact W.iret (v := nI un) hx hb hr (fun tt9 ht hW => ⟨⟨(nI un : Int32), ((un : Nat), (fs : Nat → Int32)), rfl, (lf_X9_add_t_12 t un k1 p1 rf fs k0 o0 hun hst hk0 ho0 c_1 n_10), ⟨by rw [ht]; exact hP, hD⟩⟩, hS.F ht⟩) hS.2.2 dX9_add_16 hlocks

theorem lf_X9_landHere_t_1 (t : Nat → Nat) (un : Nat) (k1 : Nat) (p1 : Nat) (rf : Int32) (fs : Nat → Int32) (s0 : Nat) (hun : un ≤ 200) (hst : ∀ j, j < 200 → 0 ≤ fs j) (hs0 : s0 < 2 ^ 31) : ¬ nI s0 < 0 := by
  first | exact nI_pos (by omega) | exact nI_pos' (by omega)
theorem lf_X9_landHere_t_4 (t : Nat → Nat) (un : Nat) (k1 : Nat) (p1 : Nat) (rf : Int32) (fs : Nat → Int32) (s0 : Nat) (hun : un ≤ 200) (hst : ∀ j, j < 200 → 0 ≤ fs j) (hs0 : s0 < 2 ^ 31) (c_2 : nI un ≤ nI s0) : un ≤ s0 := by
  exact (nI_leI (a := un) (b := s0) (by omega) (by omega)).mp c_2
theorem lf_X9_landHere_t_5 (t : Nat → Nat) (un : Nat) (k1 : Nat) (p1 : Nat) (rf : Int32) (fs : Nat → Int32) (s0 : Nat) (hun : un ≤ 200) (hst : ∀ j, j < 200 → 0 ≤ fs j) (hs0 : s0 < 2 ^ 31) (c_2 : nI un ≤ nI s0) (n_3 : un ≤ s0) : (∀ j, j < 200 → 0 ≤ (fs : Nat → Int32) j) ∧ (laM s0 fs un (fs : Nat → Int32)) := by
  first
    | exact ⟨hst, ⟨fun q => by omega, fun _ => rfl⟩⟩
    | (have hz := hst s0 (by omega)
       have e := land_mk hz hun
       refine ⟨st_upd hst (by assumption) ?_, ⟨fun _ => ?_, fun q => by omega⟩⟩
       · subst_vars; rw [e]; exact nI_pos' (by unfold kdM; omega)
       · subst_vars; rw [e])
theorem lf_X9_landHere_t_7 (t : Nat → Nat) (un : Nat) (k1 : Nat) (p1 : Nat) (rf : Int32) (fs : Nat → Int32) (s0 : Nat) (hun : un ≤ 200) (hst : ∀ j, j < 200 → 0 ≤ fs j) (hs0 : s0 < 2 ^ 31) (c_2 : ¬ nI un ≤ nI s0) : s0 < un := by
  exact Nat.lt_of_not_le (fun q => c_2 ((nI_leI (a := un) (b := s0) (by omega) (by omega)).mpr q))
theorem lf_X9_landHere_t_9 (t : Nat → Nat) (un : Nat) (k1 : Nat) (p1 : Nat) (rf : Int32) (fs : Nat → Int32) (s0 : Nat) (hun : un ≤ 200) (hst : ∀ j, j < 200 → 0 ≤ fs j) (hs0 : s0 < 2 ^ 31) (c_2 : ¬ nI un ≤ nI s0) (n_6 : s0 < un) (x_8 : Int32) (ex_8 : x_8 = nI un <<< (4 &&& 31)) : s0 < 200 := by
  omega
theorem lf_X9_landHere_t_13 (t : Nat → Nat) (un : Nat) (k1 : Nat) (p1 : Nat) (rf : Int32) (fs : Nat → Int32) (s0 : Nat) (hun : un ≤ 200) (hst : ∀ j, j < 200 → 0 ≤ fs j) (hs0 : s0 < 2 ^ 31) (c_2 : ¬ nI un ≤ nI s0) (n_6 : s0 < un) (x_8 : Int32) (ex_8 : x_8 = nI un <<< (4 &&& 31)) (x_10 : Int32) (ex_10 : x_10 = fs s0 &&& 15) (x_11 : Int32) (ex_11 : x_11 = x_8 ||| x_10) : s0 < 200 := by
  omega
theorem lf_X9_landHere_t_14 (t : Nat → Nat) (un : Nat) (k1 : Nat) (p1 : Nat) (rf : Int32) (fs : Nat → Int32) (s0 : Nat) (hun : un ≤ 200) (hst : ∀ j, j < 200 → 0 ≤ fs j) (hs0 : s0 < 2 ^ 31) (c_2 : ¬ nI un ≤ nI s0) (n_6 : s0 < un) (x_8 : Int32) (ex_8 : x_8 = nI un <<< (4 &&& 31)) (x_10 : Int32) (ex_10 : x_10 = fs s0 &&& 15) (x_11 : Int32) (ex_11 : x_11 = x_8 ||| x_10) (f_12 : Nat → Int32) (ef_12 : f_12 = upd fs s0 x_11) : (∀ j, j < 200 → 0 ≤ (f_12 : Nat → Int32) j) ∧ (laM s0 fs un (f_12 : Nat → Int32)) := by
  first
    | exact ⟨hst, ⟨fun q => by omega, fun _ => rfl⟩⟩
    | (have hz := hst s0 (by omega)
       have e := land_mk hz hun
       refine ⟨st_upd hst (by assumption) ?_, ⟨fun _ => ?_, fun q => by omega⟩⟩
       · subst_vars; rw [e]; exact nI_pos' (by unfold kdM; omega)
       · subst_vars; rw [e])
set_option maxHeartbeats 4000000 in
set_option maxRecDepth 100000 in
theorem c_X9_landHere_t (l : Launch) (D : va_G) (cI cB cZ cJ : ClassId) (tx : List (ClassId × FieldType)) (t : Nat → Nat) (un : Nat) (k1 : Nat) (p1 : Nat) (rf : Int32) (fs : Nat → Int32) (s0 : Nat) (hun : un ≤ 200) (hst : ∀ j, j < 200 → 0 ≤ fs j) (hs0 : s0 < 2 ^ 31) : WrV l D cI cB cZ cJ tx yX9_landHere cX9_landHere 2 none 0 0 0 [.ref (t 0), .int (nI s0)] [(t 0, .inr (9, [.ref (t 1), .ref (t 2), .ref (t 3), .ref (t 4), .ref (t 5), .int (nI un), .int (nI k1), .int (nI p1), .int rf])), (t 1, .inl (cI, 200, .inl fs))] (fun (v : (Nat → Int32)) => (∀ j, j < 200 → 0 ≤ v j) ∧ (laM s0 fs un v)) (fun v => [(t 0, .inr (9, [.ref (t 1), .ref (t 2), .ref (t 3), .ref (t 4), .ref (t 5), .int (nI un), .int (nI k1), .int (nI p1), .int rf])), (t 1, .inl (cI, 200, .inl v))]) := by
  refine wrv_of2 (by decide) (Nat.le_of_ble_eq_true rfl) ?_
  intro p e s m below meth c A ls H locs hC hK hP hD hA hS hl
  obtain ⟨hx, hb, hr, hml, hown, hts, hlocks, hin⟩ := hC
  have hown : s.vm.findClass RX9 = some m.cls := hown
  have hl : lv_has ls 2 [(0, .ref (t 0)), (1, .int (nI s0))] := hl
  refine W_gQ (fun Q hQ => ?_)
  refine lv_iload_n hx hb dX9_landHere_0 rfl (lv_at hl 1 rfl) ?_
  refine lv_if_lt (tgt := 34) hx hb dX9_landHere_1 (by decide) (fun c => absurd c (lf_X9_landHere_t_1 t un k1 p1 rf fs s0 hun hst hs0)) (fun _ => ?_)
  refine lv_iload_n hx hb dX9_landHere_4 rfl (lv_at hl 1 rfl) ?_
  refine lv_aload_n hx hb dX9_landHere_5 rfl (lv_at hl 0 rfl) ?_
  refine va_get (D := D) (ci := 9) (v := .int (nI un)) (C := RX9) (T := TX9) (N := 9) hx hb hts inT_X9 hown hK.1 hP 0 rfl rfl 5 (by decide) (hts _ k_199) (fun _ h9 => h9) rfl dX9_landHere_6 ?_
  refine lv_icmp_ge (tgt := 34) hx hb dX9_landHere_9 (by decide) (fun c_2 => ?_) (fun c_2 => ?_)
  · have n_3 : un ≤ s0 := (lf_X9_landHere_t_4 t un k1 p1 rf fs s0 hun hst hs0 c_2)
    rw [hQ]
    exact W.vret hx hb hr (fun tt9 ht hW => ⟨⟨((fs : Nat → Int32)), rfl, (lf_X9_landHere_t_5 t un k1 p1 rf fs s0 hun hst hs0 c_2 n_3), ⟨by rw [ht]; exact hP, hD⟩⟩, hS.F ht⟩) hS.2.2 dX9_landHere_34 hlocks
  · have n_6 : s0 < un := (lf_X9_landHere_t_7 t un k1 p1 rf fs s0 hun hst hs0 c_2)
    refine lv_aload_n hx hb dX9_landHere_12 rfl (lv_at hl 0 rfl) ?_
    refine va_get (D := D) (ci := 9) (v := .ref (t 1)) (C := RX9) (T := TX9) (N := 9) hx hb hts inT_X9 hown hK.1 hP 0 rfl rfl 0 (by decide) (hts _ k_194) (fun _ h9 => h9) rfl dX9_landHere_13 ?_
    refine lv_iload_n hx hb dX9_landHere_16 rfl (lv_at hl 1 rfl) ?_
    refine lv_aload_n hx hb dX9_landHere_17 rfl (lv_at hl 0 rfl) ?_
    refine va_get (D := D) (ci := 9) (v := .int (nI un)) (C := RX9) (T := TX9) (N := 9) hx hb hts inT_X9 hown hK.1 hP 0 rfl rfl 5 (by decide) (hts _ k_199) (fun _ h9 => h9) rfl dX9_landHere_18 ?_
    refine lv_iconst (v := 4) hx hb dX9_landHere_21 (by decide) ?_
    refine lv_ishl hx hb dX9_landHere_22 ?_
    refine lv_topi (fun x_8 ex_8 => ?_)
    refine lv_aload_n hx hb dX9_landHere_23 rfl (lv_at hl 0 rfl) ?_
    refine va_get (D := D) (ci := 9) (v := .ref (t 1)) (C := RX9) (T := TX9) (N := 9) hx hb hts inT_X9 hown hK.1 hP 0 rfl rfl 0 (by decide) (hts _ k_194) (fun _ h9 => h9) rfl dX9_landHere_24 ?_
    refine lv_iload_n hx hb dX9_landHere_27 rfl (lv_at hl 1 rfl) ?_
    refine lt_i (j := s0) hx hb hK hP 1 rfl (lf_X9_landHere_t_9 t un k1 p1 rf fs s0 hun hst hs0 c_2 n_6 x_8 ex_8) (by decide) dX9_landHere_28 ?_
    refine lv_bipush (v := 15) hx hb dX9_landHere_29 (by decide) ?_
    refine lv_iand hx hb dX9_landHere_31 ?_
    refine lv_topi (fun x_10 ex_10 => ?_)
    refine lv_ior hx hb dX9_landHere_32 ?_
    refine lv_topi (fun x_11 ex_11 => ?_)
    refine su_i (j := s0) hx hb hK hP hD hS 1 rfl (lf_X9_landHere_t_13 t un k1 p1 rf fs s0 hun hst hs0 c_2 n_6 x_8 ex_8 x_10 ex_10 x_11 ex_11) (by first | decide | assumption) dX9_landHere_33 (fun f_12 H locs ef_12 hP hD hS => ?_)
    have hPD := pd_mk (ws := [(t 0, .inr (9, [.ref (t 1), .ref (t 2), .ref (t 3), .ref (t 4), .ref (t 5), .int (nI un), .int (nI k1), .int (nI p1), .int rf])), (t 1, .inl (cI, 200, .inl f_12))]) hP hD
    have hP := hPD.1
    have hD := hPD.2
    rw [hQ]
    exact W.vret hx hb hr (fun tt9 ht hW => ⟨⟨((f_12 : Nat → Int32)), rfl, (lf_X9_landHere_t_14 t un k1 p1 rf fs s0 hun hst hs0 c_2 n_6 x_8 ex_8 x_10 ex_10 x_11 ex_11 f_12 ef_12), ⟨by rw [ht]; exact hP, hD⟩⟩, hS.F ht⟩) hS.2.2 dX9_landHere_34 hlocks

theorem lf_X3_readNumber_t_3 (a : Nat → Nat) (t : Nat → Nat) (en : Nat) (pa : Nat) (sg : Int32) (oq : Nat) (tu : Nat) (tb : Nat → Int32) (un : Nat) (k1 : Nat) (p1 : Nat) (rf : Int32) (fs : Nat → Int32) (bb : Nat → Nat) (htu : tu ≤ 220) (hen : en ≤ 200) (hpa : pa ≤ en) (hsg : SGb bb sg pa en) (hun : un ≤ 200) (hst : ∀ j, j < 200 → 0 ≤ fs j) (hbl : BLt bb en) (hbt : BT bb tb en) (het : en ≤ tu) (hup : un ≤ pa) (hlt : pa < en) (hdg : dgP (bb pa)) (j1 : Nat) (nb : Nat) (sg_j1 : Int32) (fa_j1 : Int32) (pa_j1 : Nat) (k4 : Nat) (hj4 : j1 ≤ 5) (hk4 : 5 < j1 + (k4 + 1)) (i1 : pa ≤ pa_j1) (i2 : pa_j1 ≤ en) (i3 : SGb bb sg_j1 pa_j1 en) (i0 : nb < 10 ^ j1) (iu : nuP bb 5 0 pa = nuP bb (5 - j1) nb pa_j1) (ifz : fa_j1 = 0) (c_1 : 5 ≤ nI j1) : 5 ≤ j1 := by
  exact (nI_leI (a := 5) (b := j1) (by omega) (by omega)).mp c_1
theorem lf_X3_readNumber_t_4 (a : Nat → Nat) (t : Nat → Nat) (en : Nat) (pa : Nat) (sg : Int32) (oq : Nat) (tu : Nat) (tb : Nat → Int32) (un : Nat) (k1 : Nat) (p1 : Nat) (rf : Int32) (fs : Nat → Int32) (bb : Nat → Nat) (htu : tu ≤ 220) (hen : en ≤ 200) (hpa : pa ≤ en) (hsg : SGb bb sg pa en) (hun : un ≤ 200) (hst : ∀ j, j < 200 → 0 ≤ fs j) (hbl : BLt bb en) (hbt : BT bb tb en) (het : en ≤ tu) (hup : un ≤ pa) (hlt : pa < en) (hdg : dgP (bb pa)) (j1 : Nat) (nb : Nat) (sg_j1 : Int32) (fa_j1 : Int32) (pa_j1 : Nat) (k4 : Nat) (hj4 : j1 ≤ 5) (hk4 : 5 < j1 + (k4 + 1)) (i1 : pa ≤ pa_j1) (i2 : pa_j1 ≤ en) (i3 : SGb bb sg_j1 pa_j1 en) (i0 : nb < 10 ^ j1) (iu : nuP bb 5 0 pa = nuP bb (5 - j1) nb pa_j1) (ifz : fa_j1 = 0) (c_1 : 5 ≤ nI j1) (n_2 : 5 ≤ j1) : 4 < 16 := by
  first | assumption | omega | decide | rfl | exact Or.inl ⟨by assumption, rfl⟩ | (have q := Nat.pow_le_pow_right (n := 10) (by decide) (‹_ ≤ 5› : _ ≤ 5); omega)
theorem lf_X3_readNumber_t_5 (a : Nat → Nat) (t : Nat → Nat) (en : Nat) (pa : Nat) (sg : Int32) (oq : Nat) (tu : Nat) (tb : Nat → Int32) (un : Nat) (k1 : Nat) (p1 : Nat) (rf : Int32) (fs : Nat → Int32) (bb : Nat → Nat) (htu : tu ≤ 220) (hen : en ≤ 200) (hpa : pa ≤ en) (hsg : SGb bb sg pa en) (hun : un ≤ 200) (hst : ∀ j, j < 200 → 0 ≤ fs j) (hbl : BLt bb en) (hbt : BT bb tb en) (het : en ≤ tu) (hup : un ≤ pa) (hlt : pa < en) (hdg : dgP (bb pa)) (j1 : Nat) (nb : Nat) (sg_j1 : Int32) (fa_j1 : Int32) (pa_j1 : Nat) (k4 : Nat) (hj4 : j1 ≤ 5) (hk4 : 5 < j1 + (k4 + 1)) (i1 : pa ≤ pa_j1) (i2 : pa_j1 ≤ en) (i3 : SGb bb sg_j1 pa_j1 en) (i0 : nb < 10 ^ j1) (iu : nuP bb 5 0 pa = nuP bb (5 - j1) nb pa_j1) (ifz : fa_j1 = 0) (c_1 : 5 ≤ nI j1) (n_2 : 5 ≤ j1) : SGb bb sg_j1 pa_j1 en := by
  first | assumption | omega | decide | rfl | exact Or.inl ⟨by assumption, rfl⟩ | (have q := Nat.pow_le_pow_right (n := 10) (by decide) (‹_ ≤ 5› : _ ≤ 5); omega)
theorem lf_X3_readNumber_t_6 (a : Nat → Nat) (t : Nat → Nat) (en : Nat) (pa : Nat) (sg : Int32) (oq : Nat) (tu : Nat) (tb : Nat → Int32) (un : Nat) (k1 : Nat) (p1 : Nat) (rf : Int32) (fs : Nat → Int32) (bb : Nat → Nat) (htu : tu ≤ 220) (hen : en ≤ 200) (hpa : pa ≤ en) (hsg : SGb bb sg pa en) (hun : un ≤ 200) (hst : ∀ j, j < 200 → 0 ≤ fs j) (hbl : BLt bb en) (hbt : BT bb tb en) (het : en ≤ tu) (hup : un ≤ pa) (hlt : pa < en) (hdg : dgP (bb pa)) (j1 : Nat) (nb : Nat) (sg_j1 : Int32) (fa_j1 : Int32) (pa_j1 : Nat) (k4 : Nat) (hj4 : j1 ≤ 5) (hk4 : 5 < j1 + (k4 + 1)) (i1 : pa ≤ pa_j1) (i2 : pa_j1 ≤ en) (i3 : SGb bb sg_j1 pa_j1 en) (i0 : nb < 10 ^ j1) (iu : nuP bb 5 0 pa = nuP bb (5 - j1) nb pa_j1) (ifz : fa_j1 = 0) (c_1 : 5 ≤ nI j1) (n_2 : 5 ≤ j1) : BLt bb en := by
  first | assumption | omega | decide | rfl | exact Or.inl ⟨by assumption, rfl⟩ | (have q := Nat.pow_le_pow_right (n := 10) (by decide) (‹_ ≤ 5› : _ ≤ 5); omega)
theorem lf_X3_readNumber_t_8 (a : Nat → Nat) (t : Nat → Nat) (en : Nat) (pa : Nat) (sg : Int32) (oq : Nat) (tu : Nat) (tb : Nat → Int32) (un : Nat) (k1 : Nat) (p1 : Nat) (rf : Int32) (fs : Nat → Int32) (bb : Nat → Nat) (htu : tu ≤ 220) (hen : en ≤ 200) (hpa : pa ≤ en) (hsg : SGb bb sg pa en) (hun : un ≤ 200) (hst : ∀ j, j < 200 → 0 ≤ fs j) (hbl : BLt bb en) (hbt : BT bb tb en) (het : en ≤ tu) (hup : un ≤ pa) (hlt : pa < en) (hdg : dgP (bb pa)) (j1 : Nat) (nb : Nat) (sg_j1 : Int32) (fa_j1 : Int32) (pa_j1 : Nat) (k4 : Nat) (hj4 : j1 ≤ 5) (hk4 : 5 < j1 + (k4 + 1)) (i1 : pa ≤ pa_j1) (i2 : pa_j1 ≤ en) (i3 : SGb bb sg_j1 pa_j1 en) (i0 : nb < 10 ^ j1) (iu : nuP bb 5 0 pa = nuP bb (5 - j1) nb pa_j1) (ifz : fa_j1 = 0) (c_1 : 5 ≤ nI j1) (n_2 : 5 ≤ j1) (hi7 : fa_j1 = 0 → ¬ sHas 4 (bb pa_j1) = true) (hd7 : fa_j1 = 0 → ¬ (dgP (bb pa_j1))) : un ≤ 200 := by
  first | assumption | omega | decide | rfl | exact Or.inl ⟨by assumption, rfl⟩ | (have q := Nat.pow_le_pow_right (n := 10) (by decide) (‹_ ≤ 5› : _ ≤ 5); omega)
theorem lf_X3_readNumber_t_9 (a : Nat → Nat) (t : Nat → Nat) (en : Nat) (pa : Nat) (sg : Int32) (oq : Nat) (tu : Nat) (tb : Nat → Int32) (un : Nat) (k1 : Nat) (p1 : Nat) (rf : Int32) (fs : Nat → Int32) (bb : Nat → Nat) (htu : tu ≤ 220) (hen : en ≤ 200) (hpa : pa ≤ en) (hsg : SGb bb sg pa en) (hun : un ≤ 200) (hst : ∀ j, j < 200 → 0 ≤ fs j) (hbl : BLt bb en) (hbt : BT bb tb en) (het : en ≤ tu) (hup : un ≤ pa) (hlt : pa < en) (hdg : dgP (bb pa)) (j1 : Nat) (nb : Nat) (sg_j1 : Int32) (fa_j1 : Int32) (pa_j1 : Nat) (k4 : Nat) (hj4 : j1 ≤ 5) (hk4 : 5 < j1 + (k4 + 1)) (i1 : pa ≤ pa_j1) (i2 : pa_j1 ≤ en) (i3 : SGb bb sg_j1 pa_j1 en) (i0 : nb < 10 ^ j1) (iu : nuP bb 5 0 pa = nuP bb (5 - j1) nb pa_j1) (ifz : fa_j1 = 0) (c_1 : 5 ≤ nI j1) (n_2 : 5 ≤ j1) (hi7 : fa_j1 = 0 → ¬ sHas 4 (bb pa_j1) = true) (hd7 : fa_j1 = 0 → ¬ (dgP (bb pa_j1))) : ∀ j, j < 200 → 0 ≤ fs j := by
  first | assumption | omega | decide | rfl | exact Or.inl ⟨by assumption, rfl⟩ | (have q := Nat.pow_le_pow_right (n := 10) (by decide) (‹_ ≤ 5› : _ ≤ 5); omega)
theorem lf_X3_readNumber_t_10 (a : Nat → Nat) (t : Nat → Nat) (en : Nat) (pa : Nat) (sg : Int32) (oq : Nat) (tu : Nat) (tb : Nat → Int32) (un : Nat) (k1 : Nat) (p1 : Nat) (rf : Int32) (fs : Nat → Int32) (bb : Nat → Nat) (htu : tu ≤ 220) (hen : en ≤ 200) (hpa : pa ≤ en) (hsg : SGb bb sg pa en) (hun : un ≤ 200) (hst : ∀ j, j < 200 → 0 ≤ fs j) (hbl : BLt bb en) (hbt : BT bb tb en) (het : en ≤ tu) (hup : un ≤ pa) (hlt : pa < en) (hdg : dgP (bb pa)) (j1 : Nat) (nb : Nat) (sg_j1 : Int32) (fa_j1 : Int32) (pa_j1 : Nat) (k4 : Nat) (hj4 : j1 ≤ 5) (hk4 : 5 < j1 + (k4 + 1)) (i1 : pa ≤ pa_j1) (i2 : pa_j1 ≤ en) (i3 : SGb bb sg_j1 pa_j1 en) (i0 : nb < 10 ^ j1) (iu : nuP bb 5 0 pa = nuP bb (5 - j1) nb pa_j1) (ifz : fa_j1 = 0) (c_1 : 5 ≤ nI j1) (n_2 : 5 ≤ j1) (hi7 : fa_j1 = 0 → ¬ sHas 4 (bb pa_j1) = true) (hd7 : fa_j1 = 0 → ¬ (dgP (bb pa_j1))) : 1 < 16 := by
  first | assumption | omega | decide | rfl | exact Or.inl ⟨by assumption, rfl⟩ | (have q := Nat.pow_le_pow_right (n := 10) (by decide) (‹_ ≤ 5› : _ ≤ 5); omega)
theorem lf_X3_readNumber_t_11 (a : Nat → Nat) (t : Nat → Nat) (en : Nat) (pa : Nat) (sg : Int32) (oq : Nat) (tu : Nat) (tb : Nat → Int32) (un : Nat) (k1 : Nat) (p1 : Nat) (rf : Int32) (fs : Nat → Int32) (bb : Nat → Nat) (htu : tu ≤ 220) (hen : en ≤ 200) (hpa : pa ≤ en) (hsg : SGb bb sg pa en) (hun : un ≤ 200) (hst : ∀ j, j < 200 → 0 ≤ fs j) (hbl : BLt bb en) (hbt : BT bb tb en) (het : en ≤ tu) (hup : un ≤ pa) (hlt : pa < en) (hdg : dgP (bb pa)) (j1 : Nat) (nb : Nat) (sg_j1 : Int32) (fa_j1 : Int32) (pa_j1 : Nat) (k4 : Nat) (hj4 : j1 ≤ 5) (hk4 : 5 < j1 + (k4 + 1)) (i1 : pa ≤ pa_j1) (i2 : pa_j1 ≤ en) (i3 : SGb bb sg_j1 pa_j1 en) (i0 : nb < 10 ^ j1) (iu : nuP bb 5 0 pa = nuP bb (5 - j1) nb pa_j1) (ifz : fa_j1 = 0) (c_1 : 5 ≤ nI j1) (n_2 : 5 ≤ j1) (hi7 : fa_j1 = 0 → ¬ sHas 4 (bb pa_j1) = true) (hd7 : fa_j1 = 0 → ¬ (dgP (bb pa_j1))) : nb ≤ 99999 := by
  first | assumption | omega | decide | rfl | exact Or.inl ⟨by assumption, rfl⟩ | (have q := Nat.pow_le_pow_right (n := 10) (by decide) (‹_ ≤ 5› : _ ≤ 5); omega)
theorem lf_X3_readNumber_t_14 (a : Nat → Nat) (t : Nat → Nat) (en : Nat) (pa : Nat) (sg : Int32) (oq : Nat) (tu : Nat) (tb : Nat → Int32) (un : Nat) (k1 : Nat) (p1 : Nat) (rf : Int32) (fs : Nat → Int32) (bb : Nat → Nat) (htu : tu ≤ 220) (hen : en ≤ 200) (hpa : pa ≤ en) (hsg : SGb bb sg pa en) (hun : un ≤ 200) (hst : ∀ j, j < 200 → 0 ≤ fs j) (hbl : BLt bb en) (hbt : BT bb tb en) (het : en ≤ tu) (hup : un ≤ pa) (hlt : pa < en) (hdg : dgP (bb pa)) (j1 : Nat) (nb : Nat) (sg_j1 : Int32) (fa_j1 : Int32) (pa_j1 : Nat) (k4 : Nat) (hj4 : j1 ≤ 5) (hk4 : 5 < j1 + (k4 + 1)) (i1 : pa ≤ pa_j1) (i2 : pa_j1 ≤ en) (i3 : SGb bb sg_j1 pa_j1 en) (i0 : nb < 10 ^ j1) (iu : nuP bb 5 0 pa = nuP bb (5 - j1) nb pa_j1) (ifz : fa_j1 = 0) (c_1 : 5 ≤ nI j1) (n_2 : 5 ≤ j1) (hi7 : fa_j1 = 0 → ¬ sHas 4 (bb pa_j1) = true) (hd7 : fa_j1 = 0 → ¬ (dgP (bb pa_j1))) (un_13 : Nat) (fs_13 : Nat → Int32) (hz_13_0 : un_13 ≤ 200) (hz_13_1 : ∀ j, j < 200 → 0 ≤ fs_13 j) (hz_13_2 : adM (nI (16 * nb + 1)) fs un fs_13 un_13) : (pa ≤ (pa_j1 : Nat)) ∧ ((pa_j1 : Nat) ≤ en) ∧ (SGb bb (sg_j1 : Int32) (pa_j1 : Nat) en) ∧ ((un_13 : Nat) ≤ 200) ∧ (∀ j, j < 200 → 0 ≤ (fs_13 : Nat → Int32) j) ∧ (nuQ bb fs un pa (fs_13 : Nat → Int32) (un_13 : Nat) (pa_j1 : Nat) (fa_j1 : Int32)) := by
  refine ⟨by omega, by omega, by first | assumption | exact Or.inl ⟨by assumption, rfl⟩, by omega, by assumption, ?_⟩
  first
    | exact nuQ.ok hdg iu ((by assumption : fa_j1 = 0 → ¬ dgP (bb pa_j1)) ifz) hup (by omega) (by assumption) (by first | exact ifz | rfl)
    | exact absurd (by assumption : dgP (bb pa_j1)) ((by assumption : fa_j1 = 0 → ¬ dgP (bb pa_j1)) ifz)
    | (have e5 : j1 = 5 := by omega
       rw [e5] at iu
       exact nuQ.no hdg iu (by assumption) ((by assumption : rfQ 2 _ _).1 (by first | rfl | assumption)) (by assumption))
theorem lf_X3_readNumber_t_17 (a : Nat → Nat) (t : Nat → Nat) (en : Nat) (pa : Nat) (sg : Int32) (oq : Nat) (tu : Nat) (tb : Nat → Int32) (un : Nat) (k1 : Nat) (p1 : Nat) (rf : Int32) (fs : Nat → Int32) (bb : Nat → Nat) (htu : tu ≤ 220) (hen : en ≤ 200) (hpa : pa ≤ en) (hsg : SGb bb sg pa en) (hun : un ≤ 200) (hst : ∀ j, j < 200 → 0 ≤ fs j) (hbl : BLt bb en) (hbt : BT bb tb en) (het : en ≤ tu) (hup : un ≤ pa) (hlt : pa < en) (hdg : dgP (bb pa)) (j1 : Nat) (nb : Nat) (sg_j1 : Int32) (fa_j1 : Int32) (pa_j1 : Nat) (k4 : Nat) (hj4 : j1 ≤ 5) (hk4 : 5 < j1 + (k4 + 1)) (i1 : pa ≤ pa_j1) (i2 : pa_j1 ≤ en) (i3 : SGb bb sg_j1 pa_j1 en) (i0 : nb < 10 ^ j1) (iu : nuP bb 5 0 pa = nuP bb (5 - j1) nb pa_j1) (ifz : fa_j1 = 0) (c_1 : 5 ≤ nI j1) (n_2 : 5 ≤ j1) (he7 : sg_j1 = nI (bb pa_j1)) (hf7 : fa_j1 = 0) (hl7 : pa_j1 < en) (hs7 : sHas 4 (bb pa_j1) = true) (hb7 : (bb pa_j1) < 256) (hd7 : dgP (bb pa_j1)) (fa_16 : Int32) (hz_16_0 : rfQ ((2 : Int32)) ((0 : Int32)) fa_16) : un ≤ 200 := by
  first | assumption | omega | decide | rfl | exact Or.inl ⟨by assumption, rfl⟩ | (have q := Nat.pow_le_pow_right (n := 10) (by decide) (‹_ ≤ 5› : _ ≤ 5); omega)
theorem lf_X3_readNumber_t_18 (a : Nat → Nat) (t : Nat → Nat) (en : Nat) (pa : Nat) (sg : Int32) (oq : Nat) (tu : Nat) (tb : Nat → Int32) (un : Nat) (k1 : Nat) (p1 : Nat) (rf : Int32) (fs : Nat → Int32) (bb : Nat → Nat) (htu : tu ≤ 220) (hen : en ≤ 200) (hpa : pa ≤ en) (hsg : SGb bb sg pa en) (hun : un ≤ 200) (hst : ∀ j, j < 200 → 0 ≤ fs j) (hbl : BLt bb en) (hbt : BT bb tb en) (het : en ≤ tu) (hup : un ≤ pa) (hlt : pa < en) (hdg : dgP (bb pa)) (j1 : Nat) (nb : Nat) (sg_j1 : Int32) (fa_j1 : Int32) (pa_j1 : Nat) (k4 : Nat) (hj4 : j1 ≤ 5) (hk4 : 5 < j1 + (k4 + 1)) (i1 : pa ≤ pa_j1) (i2 : pa_j1 ≤ en) (i3 : SGb bb sg_j1 pa_j1 en) (i0 : nb < 10 ^ j1) (iu : nuP bb 5 0 pa = nuP bb (5 - j1) nb pa_j1) (ifz : fa_j1 = 0) (c_1 : 5 ≤ nI j1) (n_2 : 5 ≤ j1) (he7 : sg_j1 = nI (bb pa_j1)) (hf7 : fa_j1 = 0) (hl7 : pa_j1 < en) (hs7 : sHas 4 (bb pa_j1) = true) (hb7 : (bb pa_j1) < 256) (hd7 : dgP (bb pa_j1)) (fa_16 : Int32) (hz_16_0 : rfQ ((2 : Int32)) ((0 : Int32)) fa_16) : ∀ j, j < 200 → 0 ≤ fs j := by
  first | assumption | omega | decide | rfl | exact Or.inl ⟨by assumption, rfl⟩ | (have q := Nat.pow_le_pow_right (n := 10) (by decide) (‹_ ≤ 5› : _ ≤ 5); omega)
theorem lf_X3_readNumber_t_19 (a : Nat → Nat) (t : Nat → Nat) (en : Nat) (pa : Nat) (sg : Int32) (oq : Nat) (tu : Nat) (tb : Nat → Int32) (un : Nat) (k1 : Nat) (p1 : Nat) (rf : Int32) (fs : Nat → Int32) (bb : Nat → Nat) (htu : tu ≤ 220) (hen : en ≤ 200) (hpa : pa ≤ en) (hsg : SGb bb sg pa en) (hun : un ≤ 200) (hst : ∀ j, j < 200 → 0 ≤ fs j) (hbl : BLt bb en) (hbt : BT bb tb en) (het : en ≤ tu) (hup : un ≤ pa) (hlt : pa < en) (hdg : dgP (bb pa)) (j1 : Nat) (nb : Nat) (sg_j1 : Int32) (fa_j1 : Int32) (pa_j1 : Nat) (k4 : Nat) (hj4 : j1 ≤ 5) (hk4 : 5 < j1 + (k4 + 1)) (i1 : pa ≤ pa_j1) (i2 : pa_j1 ≤ en) (i3 : SGb bb sg_j1 pa_j1 en) (i0 : nb < 10 ^ j1) (iu : nuP bb 5 0 pa = nuP bb (5 - j1) nb pa_j1) (ifz : fa_j1 = 0) (c_1 : 5 ≤ nI j1) (n_2 : 5 ≤ j1) (he7 : sg_j1 = nI (bb pa_j1)) (hf7 : fa_j1 = 0) (hl7 : pa_j1 < en) (hs7 : sHas 4 (bb pa_j1) = true) (hb7 : (bb pa_j1) < 256) (hd7 : dgP (bb pa_j1)) (fa_16 : Int32) (hz_16_0 : rfQ ((2 : Int32)) ((0 : Int32)) fa_16) : 1 < 16 := by
  first | assumption | omega | decide | rfl | exact Or.inl ⟨by assumption, rfl⟩ | (have q := Nat.pow_le_pow_right (n := 10) (by decide) (‹_ ≤ 5› : _ ≤ 5); omega)
theorem lf_X3_readNumber_t_20 (a : Nat → Nat) (t : Nat → Nat) (en : Nat) (pa : Nat) (sg : Int32) (oq : Nat) (tu : Nat) (tb : Nat → Int32) (un : Nat) (k1 : Nat) (p1 : Nat) (rf : Int32) (fs : Nat → Int32) (bb : Nat → Nat) (htu : tu ≤ 220) (hen : en ≤ 200) (hpa : pa ≤ en) (hsg : SGb bb sg pa en) (hun : un ≤ 200) (hst : ∀ j, j < 200 → 0 ≤ fs j) (hbl : BLt bb en) (hbt : BT bb tb en) (het : en ≤ tu) (hup : un ≤ pa) (hlt : pa < en) (hdg : dgP (bb pa)) (j1 : Nat) (nb : Nat) (sg_j1 : Int32) (fa_j1 : Int32) (pa_j1 : Nat) (k4 : Nat) (hj4 : j1 ≤ 5) (hk4 : 5 < j1 + (k4 + 1)) (i1 : pa ≤ pa_j1) (i2 : pa_j1 ≤ en) (i3 : SGb bb sg_j1 pa_j1 en) (i0 : nb < 10 ^ j1) (iu : nuP bb 5 0 pa = nuP bb (5 - j1) nb pa_j1) (ifz : fa_j1 = 0) (c_1 : 5 ≤ nI j1) (n_2 : 5 ≤ j1) (he7 : sg_j1 = nI (bb pa_j1)) (hf7 : fa_j1 = 0) (hl7 : pa_j1 < en) (hs7 : sHas 4 (bb pa_j1) = true) (hb7 : (bb pa_j1) < 256) (hd7 : dgP (bb pa_j1)) (fa_16 : Int32) (hz_16_0 : rfQ ((2 : Int32)) ((0 : Int32)) fa_16) : nb ≤ 99999 := by
  first | assumption | omega | decide | rfl | exact Or.inl ⟨by assumption, rfl⟩ | (have q := Nat.pow_le_pow_right (n := 10) (by decide) (‹_ ≤ 5› : _ ≤ 5); omega)
theorem lf_X3_readNumber_t_23 (a : Nat → Nat) (t : Nat → Nat) (en : Nat) (pa : Nat) (sg : Int32) (oq : Nat) (tu : Nat) (tb : Nat → Int32) (un : Nat) (k1 : Nat) (p1 : Nat) (rf : Int32) (fs : Nat → Int32) (bb : Nat → Nat) (htu : tu ≤ 220) (hen : en ≤ 200) (hpa : pa ≤ en) (hsg : SGb bb sg pa en) (hun : un ≤ 200) (hst : ∀ j, j < 200 → 0 ≤ fs j) (hbl : BLt bb en) (hbt : BT bb tb en) (het : en ≤ tu) (hup : un ≤ pa) (hlt : pa < en) (hdg : dgP (bb pa)) (j1 : Nat) (nb : Nat) (sg_j1 : Int32) (fa_j1 : Int32) (pa_j1 : Nat) (k4 : Nat) (hj4 : j1 ≤ 5) (hk4 : 5 < j1 + (k4 + 1)) (i1 : pa ≤ pa_j1) (i2 : pa_j1 ≤ en) (i3 : SGb bb sg_j1 pa_j1 en) (i0 : nb < 10 ^ j1) (iu : nuP bb 5 0 pa = nuP bb (5 - j1) nb pa_j1) (ifz : fa_j1 = 0) (c_1 : 5 ≤ nI j1) (n_2 : 5 ≤ j1) (he7 : sg_j1 = nI (bb pa_j1)) (hf7 : fa_j1 = 0) (hl7 : pa_j1 < en) (hs7 : sHas 4 (bb pa_j1) = true) (hb7 : (bb pa_j1) < 256) (hd7 : dgP (bb pa_j1)) (fa_16 : Int32) (hz_16_0 : rfQ ((2 : Int32)) ((0 : Int32)) fa_16) (un_22 : Nat) (fs_22 : Nat → Int32) (hz_22_0 : un_22 ≤ 200) (hz_22_1 : ∀ j, j < 200 → 0 ≤ fs_22 j) (hz_22_2 : adM (nI (16 * nb + 1)) fs un fs_22 un_22) : (pa ≤ (pa_j1 : Nat)) ∧ ((pa_j1 : Nat) ≤ en) ∧ (SGb bb (nI (bb pa_j1) : Int32) (pa_j1 : Nat) en) ∧ ((un_22 : Nat) ≤ 200) ∧ (∀ j, j < 200 → 0 ≤ (fs_22 : Nat → Int32) j) ∧ (nuQ bb fs un pa (fs_22 : Nat → Int32) (un_22 : Nat) (pa_j1 : Nat) (fa_16 : Int32)) := by
  refine ⟨by omega, by omega, by first | assumption | exact Or.inl ⟨by assumption, rfl⟩, by omega, by assumption, ?_⟩
  first
    | exact nuQ.ok hdg iu ((by assumption : fa_j1 = 0 → ¬ dgP (bb pa_j1)) ifz) hup (by omega) (by assumption) (by first | exact ifz | rfl)
    | exact absurd (by assumption : dgP (bb pa_j1)) ((by assumption : fa_j1 = 0 → ¬ dgP (bb pa_j1)) ifz)
    | (have e5 : j1 = 5 := by omega
       rw [e5] at iu
       exact nuQ.no hdg iu (by assumption) ((by assumption : rfQ 2 _ _).1 (by first | rfl | assumption)) (by assumption))
theorem lf_X3_readNumber_t_25 (a : Nat → Nat) (t : Nat → Nat) (en : Nat) (pa : Nat) (sg : Int32) (oq : Nat) (tu : Nat) (tb : Nat → Int32) (un : Nat) (k1 : Nat) (p1 : Nat) (rf : Int32) (fs : Nat → Int32) (bb : Nat → Nat) (htu : tu ≤ 220) (hen : en ≤ 200) (hpa : pa ≤ en) (hsg : SGb bb sg pa en) (hun : un ≤ 200) (hst : ∀ j, j < 200 → 0 ≤ fs j) (hbl : BLt bb en) (hbt : BT bb tb en) (het : en ≤ tu) (hup : un ≤ pa) (hlt : pa < en) (hdg : dgP (bb pa)) (j1 : Nat) (nb : Nat) (sg_j1 : Int32) (fa_j1 : Int32) (pa_j1 : Nat) (k4 : Nat) (hj4 : j1 ≤ 5) (hk4 : 5 < j1 + (k4 + 1)) (i1 : pa ≤ pa_j1) (i2 : pa_j1 ≤ en) (i3 : SGb bb sg_j1 pa_j1 en) (i0 : nb < 10 ^ j1) (iu : nuP bb 5 0 pa = nuP bb (5 - j1) nb pa_j1) (ifz : fa_j1 = 0) (c_1 : ¬ 5 ≤ nI j1) : j1 < 5 := by
  exact Nat.lt_of_not_le (fun q => c_1 ((nI_leI (a := 5) (b := j1) (by omega) (by omega)).mpr q))
theorem lf_X3_readNumber_t_26 (a : Nat → Nat) (t : Nat → Nat) (en : Nat) (pa : Nat) (sg : Int32) (oq : Nat) (tu : Nat) (tb : Nat → Int32) (un : Nat) (k1 : Nat) (p1 : Nat) (rf : Int32) (fs : Nat → Int32) (bb : Nat → Nat) (htu : tu ≤ 220) (hen : en ≤ 200) (hpa : pa ≤ en) (hsg : SGb bb sg pa en) (hun : un ≤ 200) (hst : ∀ j, j < 200 → 0 ≤ fs j) (hbl : BLt bb en) (hbt : BT bb tb en) (het : en ≤ tu) (hup : un ≤ pa) (hlt : pa < en) (hdg : dgP (bb pa)) (j1 : Nat) (nb : Nat) (sg_j1 : Int32) (fa_j1 : Int32) (pa_j1 : Nat) (k4 : Nat) (hj4 : j1 ≤ 5) (hk4 : 5 < j1 + (k4 + 1)) (i1 : pa ≤ pa_j1) (i2 : pa_j1 ≤ en) (i3 : SGb bb sg_j1 pa_j1 en) (i0 : nb < 10 ^ j1) (iu : nuP bb 5 0 pa = nuP bb (5 - j1) nb pa_j1) (ifz : fa_j1 = 0) (c_1 : ¬ 5 ≤ nI j1) (n_24 : j1 < 5) : 4 < 16 := by
  first | assumption | omega | decide | rfl | exact Or.inl ⟨by assumption, rfl⟩ | (have q := Nat.pow_le_pow_right (n := 10) (by decide) (‹_ ≤ 5› : _ ≤ 5); omega)
theorem lf_X3_readNumber_t_27 (a : Nat → Nat) (t : Nat → Nat) (en : Nat) (pa : Nat) (sg : Int32) (oq : Nat) (tu : Nat) (tb : Nat → Int32) (un : Nat) (k1 : Nat) (p1 : Nat) (rf : Int32) (fs : Nat → Int32) (bb : Nat → Nat) (htu : tu ≤ 220) (hen : en ≤ 200) (hpa : pa ≤ en) (hsg : SGb bb sg pa en) (hun : un ≤ 200) (hst : ∀ j, j < 200 → 0 ≤ fs j) (hbl : BLt bb en) (hbt : BT bb tb en) (het : en ≤ tu) (hup : un ≤ pa) (hlt : pa < en) (hdg : dgP (bb pa)) (j1 : Nat) (nb : Nat) (sg_j1 : Int32) (fa_j1 : Int32) (pa_j1 : Nat) (k4 : Nat) (hj4 : j1 ≤ 5) (hk4 : 5 < j1 + (k4 + 1)) (i1 : pa ≤ pa_j1) (i2 : pa_j1 ≤ en) (i3 : SGb bb sg_j1 pa_j1 en) (i0 : nb < 10 ^ j1) (iu : nuP bb 5 0 pa = nuP bb (5 - j1) nb pa_j1) (ifz : fa_j1 = 0) (c_1 : ¬ 5 ≤ nI j1) (n_24 : j1 < 5) : SGb bb sg_j1 pa_j1 en := by
  first | assumption | omega | decide | rfl | exact Or.inl ⟨by assumption, rfl⟩ | (have q := Nat.pow_le_pow_right (n := 10) (by decide) (‹_ ≤ 5› : _ ≤ 5); omega)
theorem lf_X3_readNumber_t_28 (a : Nat → Nat) (t : Nat → Nat) (en : Nat) (pa : Nat) (sg : Int32) (oq : Nat) (tu : Nat) (tb : Nat → Int32) (un : Nat) (k1 : Nat) (p1 : Nat) (rf : Int32) (fs : Nat → Int32) (bb : Nat → Nat) (htu : tu ≤ 220) (hen : en ≤ 200) (hpa : pa ≤ en) (hsg : SGb bb sg pa en) (hun : un ≤ 200) (hst : ∀ j, j < 200 → 0 ≤ fs j) (hbl : BLt bb en) (hbt : BT bb tb en) (het : en ≤ tu) (hup : un ≤ pa) (hlt : pa < en) (hdg : dgP (bb pa)) (j1 : Nat) (nb : Nat) (sg_j1 : Int32) (fa_j1 : Int32) (pa_j1 : Nat) (k4 : Nat) (hj4 : j1 ≤ 5) (hk4 : 5 < j1 + (k4 + 1)) (i1 : pa ≤ pa_j1) (i2 : pa_j1 ≤ en) (i3 : SGb bb sg_j1 pa_j1 en) (i0 : nb < 10 ^ j1) (iu : nuP bb 5 0 pa = nuP bb (5 - j1) nb pa_j1) (ifz : fa_j1 = 0) (c_1 : ¬ 5 ≤ nI j1) (n_24 : j1 < 5) : BLt bb en := by
  first | assumption | omega | decide | rfl | exact Or.inl ⟨by assumption, rfl⟩ | (have q := Nat.pow_le_pow_right (n := 10) (by decide) (‹_ ≤ 5› : _ ≤ 5); omega)
theorem lf_X3_readNumber_t_30 (a : Nat → Nat) (t : Nat → Nat) (en : Nat) (pa : Nat) (sg : Int32) (oq : Nat) (tu : Nat) (tb : Nat → Int32) (un : Nat) (k1 : Nat) (p1 : Nat) (rf : Int32) (fs : Nat → Int32) (bb : Nat → Nat) (htu : tu ≤ 220) (hen : en ≤ 200) (hpa : pa ≤ en) (hsg : SGb bb sg pa en) (hun : un ≤ 200) (hst : ∀ j, j < 200 → 0 ≤ fs j) (hbl : BLt bb en) (hbt : BT bb tb en) (het : en ≤ tu) (hup : un ≤ pa) (hlt : pa < en) (hdg : dgP (bb pa)) (j1 : Nat) (nb : Nat) (sg_j1 : Int32) (fa_j1 : Int32) (pa_j1 : Nat) (k4 : Nat) (hj4 : j1 ≤ 5) (hk4 : 5 < j1 + (k4 + 1)) (i1 : pa ≤ pa_j1) (i2 : pa_j1 ≤ en) (i3 : SGb bb sg_j1 pa_j1 en) (i0 : nb < 10 ^ j1) (iu : nuP bb 5 0 pa = nuP bb (5 - j1) nb pa_j1) (ifz : fa_j1 = 0) (c_1 : ¬ 5 ≤ nI j1) (n_24 : j1 < 5) (hi29 : fa_j1 = 0 → ¬ sHas 4 (bb pa_j1) = true) (hd29 : fa_j1 = 0 → ¬ (dgP (bb pa_j1))) : 4 < 16 := by
  first | assumption | omega | decide | rfl | exact Or.inl ⟨by assumption, rfl⟩ | (have q := Nat.pow_le_pow_right (n := 10) (by decide) (‹_ ≤ 5› : _ ≤ 5); omega)
theorem lf_X3_readNumber_t_31 (a : Nat → Nat) (t : Nat → Nat) (en : Nat) (pa : Nat) (sg : Int32) (oq : Nat) (tu : Nat) (tb : Nat → Int32) (un : Nat) (k1 : Nat) (p1 : Nat) (rf : Int32) (fs : Nat → Int32) (bb : Nat → Nat) (htu : tu ≤ 220) (hen : en ≤ 200) (hpa : pa ≤ en) (hsg : SGb bb sg pa en) (hun : un ≤ 200) (hst : ∀ j, j < 200 → 0 ≤ fs j) (hbl : BLt bb en) (hbt : BT bb tb en) (het : en ≤ tu) (hup : un ≤ pa) (hlt : pa < en) (hdg : dgP (bb pa)) (j1 : Nat) (nb : Nat) (sg_j1 : Int32) (fa_j1 : Int32) (pa_j1 : Nat) (k4 : Nat) (hj4 : j1 ≤ 5) (hk4 : 5 < j1 + (k4 + 1)) (i1 : pa ≤ pa_j1) (i2 : pa_j1 ≤ en) (i3 : SGb bb sg_j1 pa_j1 en) (i0 : nb < 10 ^ j1) (iu : nuP bb 5 0 pa = nuP bb (5 - j1) nb pa_j1) (ifz : fa_j1 = 0) (c_1 : ¬ 5 ≤ nI j1) (n_24 : j1 < 5) (hi29 : fa_j1 = 0 → ¬ sHas 4 (bb pa_j1) = true) (hd29 : fa_j1 = 0 → ¬ (dgP (bb pa_j1))) : SGb bb sg_j1 pa_j1 en := by
  first | assumption | omega | decide | rfl | exact Or.inl ⟨by assumption, rfl⟩ | (have q := Nat.pow_le_pow_right (n := 10) (by decide) (‹_ ≤ 5› : _ ≤ 5); omega)
theorem lf_X3_readNumber_t_32 (a : Nat → Nat) (t : Nat → Nat) (en : Nat) (pa : Nat) (sg : Int32) (oq : Nat) (tu : Nat) (tb : Nat → Int32) (un : Nat) (k1 : Nat) (p1 : Nat) (rf : Int32) (fs : Nat → Int32) (bb : Nat → Nat) (htu : tu ≤ 220) (hen : en ≤ 200) (hpa : pa ≤ en) (hsg : SGb bb sg pa en) (hun : un ≤ 200) (hst : ∀ j, j < 200 → 0 ≤ fs j) (hbl : BLt bb en) (hbt : BT bb tb en) (het : en ≤ tu) (hup : un ≤ pa) (hlt : pa < en) (hdg : dgP (bb pa)) (j1 : Nat) (nb : Nat) (sg_j1 : Int32) (fa_j1 : Int32) (pa_j1 : Nat) (k4 : Nat) (hj4 : j1 ≤ 5) (hk4 : 5 < j1 + (k4 + 1)) (i1 : pa ≤ pa_j1) (i2 : pa_j1 ≤ en) (i3 : SGb bb sg_j1 pa_j1 en) (i0 : nb < 10 ^ j1) (iu : nuP bb 5 0 pa = nuP bb (5 - j1) nb pa_j1) (ifz : fa_j1 = 0) (c_1 : ¬ 5 ≤ nI j1) (n_24 : j1 < 5) (hi29 : fa_j1 = 0 → ¬ sHas 4 (bb pa_j1) = true) (hd29 : fa_j1 = 0 → ¬ (dgP (bb pa_j1))) : BLt bb en := by
  first | assumption | omega | decide | rfl | exact Or.inl ⟨by assumption, rfl⟩ | (have q := Nat.pow_le_pow_right (n := 10) (by decide) (‹_ ≤ 5› : _ ≤ 5); omega)
theorem lf_X3_readNumber_t_34 (a : Nat → Nat) (t : Nat → Nat) (en : Nat) (pa : Nat) (sg : Int32) (oq : Nat) (tu : Nat) (tb : Nat → Int32) (un : Nat) (k1 : Nat) (p1 : Nat) (rf : Int32) (fs : Nat → Int32) (bb : Nat → Nat) (htu : tu ≤ 220) (hen : en ≤ 200) (hpa : pa ≤ en) (hsg : SGb bb sg pa en) (hun : un ≤ 200) (hst : ∀ j, j < 200 → 0 ≤ fs j) (hbl : BLt bb en) (hbt : BT bb tb en) (het : en ≤ tu) (hup : un ≤ pa) (hlt : pa < en) (hdg : dgP (bb pa)) (j1 : Nat) (nb : Nat) (sg_j1 : Int32) (fa_j1 : Int32) (pa_j1 : Nat) (k4 : Nat) (hj4 : j1 ≤ 5) (hk4 : 5 < j1 + (k4 + 1)) (i1 : pa ≤ pa_j1) (i2 : pa_j1 ≤ en) (i3 : SGb bb sg_j1 pa_j1 en) (i0 : nb < 10 ^ j1) (iu : nuP bb 5 0 pa = nuP bb (5 - j1) nb pa_j1) (ifz : fa_j1 = 0) (c_1 : ¬ 5 ≤ nI j1) (n_24 : j1 < 5) (hi29 : fa_j1 = 0 → ¬ sHas 4 (bb pa_j1) = true) (hd29 : fa_j1 = 0 → ¬ (dgP (bb pa_j1))) (hi33 : fa_j1 = 0 → ¬ sHas 4 (bb pa_j1) = true) (hd33 : fa_j1 = 0 → ¬ (dgP (bb pa_j1))) : un ≤ 200 := by
  first | assumption | omega | decide | rfl | exact Or.inl ⟨by assumption, rfl⟩ | (have q := Nat.pow_le_pow_right (n := 10) (by decide) (‹_ ≤ 5› : _ ≤ 5); omega)
theorem lf_X3_readNumber_t_35 (a : Nat → Nat) (t : Nat → Nat) (en : Nat) (pa : Nat) (sg : Int32) (oq : Nat) (tu : Nat) (tb : Nat → Int32) (un : Nat) (k1 : Nat) (p1 : Nat) (rf : Int32) (fs : Nat → Int32) (bb : Nat → Nat) (htu : tu ≤ 220) (hen : en ≤ 200) (hpa : pa ≤ en) (hsg : SGb bb sg pa en) (hun : un ≤ 200) (hst : ∀ j, j < 200 → 0 ≤ fs j) (hbl : BLt bb en) (hbt : BT bb tb en) (het : en ≤ tu) (hup : un ≤ pa) (hlt : pa < en) (hdg : dgP (bb pa)) (j1 : Nat) (nb : Nat) (sg_j1 : Int32) (fa_j1 : Int32) (pa_j1 : Nat) (k4 : Nat) (hj4 : j1 ≤ 5) (hk4 : 5 < j1 + (k4 + 1)) (i1 : pa ≤ pa_j1) (i2 : pa_j1 ≤ en) (i3 : SGb bb sg_j1 pa_j1 en) (i0 : nb < 10 ^ j1) (iu : nuP bb 5 0 pa = nuP bb (5 - j1) nb pa_j1) (ifz : fa_j1 = 0) (c_1 : ¬ 5 ≤ nI j1) (n_24 : j1 < 5) (hi29 : fa_j1 = 0 → ¬ sHas 4 (bb pa_j1) = true) (hd29 : fa_j1 = 0 → ¬ (dgP (bb pa_j1))) (hi33 : fa_j1 = 0 → ¬ sHas 4 (bb pa_j1) = true) (hd33 : fa_j1 = 0 → ¬ (dgP (bb pa_j1))) : ∀ j, j < 200 → 0 ≤ fs j := by
  first | assumption | omega | decide | rfl | exact Or.inl ⟨by assumption, rfl⟩ | (have q := Nat.pow_le_pow_right (n := 10) (by decide) (‹_ ≤ 5› : _ ≤ 5); omega)
theorem lf_X3_readNumber_t_36 (a : Nat → Nat) (t : Nat → Nat) (en : Nat) (pa : Nat) (sg : Int32) (oq : Nat) (tu : Nat) (tb : Nat → Int32) (un : Nat) (k1 : Nat) (p1 : Nat) (rf : Int32) (fs : Nat → Int32) (bb : Nat → Nat) (htu : tu ≤ 220) (hen : en ≤ 200) (hpa : pa ≤ en) (hsg : SGb bb sg pa en) (hun : un ≤ 200) (hst : ∀ j, j < 200 → 0 ≤ fs j) (hbl : BLt bb en) (hbt : BT bb tb en) (het : en ≤ tu) (hup : un ≤ pa) (hlt : pa < en) (hdg : dgP (bb pa)) (j1 : Nat) (nb : Nat) (sg_j1 : Int32) (fa_j1 : Int32) (pa_j1 : Nat) (k4 : Nat) (hj4 : j1 ≤ 5) (hk4 : 5 < j1 + (k4 + 1)) (i1 : pa ≤ pa_j1) (i2 : pa_j1 ≤ en) (i3 : SGb bb sg_j1 pa_j1 en) (i0 : nb < 10 ^ j1) (iu : nuP bb 5 0 pa = nuP bb (5 - j1) nb pa_j1) (ifz : fa_j1 = 0) (c_1 : ¬ 5 ≤ nI j1) (n_24 : j1 < 5) (hi29 : fa_j1 = 0 → ¬ sHas 4 (bb pa_j1) = true) (hd29 : fa_j1 = 0 → ¬ (dgP (bb pa_j1))) (hi33 : fa_j1 = 0 → ¬ sHas 4 (bb pa_j1) = true) (hd33 : fa_j1 = 0 → ¬ (dgP (bb pa_j1))) : 1 < 16 := by
  first | assumption | omega | decide | rfl | exact Or.inl ⟨by assumption, rfl⟩ | (have q := Nat.pow_le_pow_right (n := 10) (by decide) (‹_ ≤ 5› : _ ≤ 5); omega)
theorem lf_X3_readNumber_t_37 (a : Nat → Nat) (t : Nat → Nat) (en : Nat) (pa : Nat) (sg : Int32) (oq : Nat) (tu : Nat) (tb : Nat → Int32) (un : Nat) (k1 : Nat) (p1 : Nat) (rf : Int32) (fs : Nat → Int32) (bb : Nat → Nat) (htu : tu ≤ 220) (hen : en ≤ 200) (hpa : pa ≤ en) (hsg : SGb bb sg pa en) (hun : un ≤ 200) (hst : ∀ j, j < 200 → 0 ≤ fs j) (hbl : BLt bb en) (hbt : BT bb tb en) (het : en ≤ tu) (hup : un ≤ pa) (hlt : pa < en) (hdg : dgP (bb pa)) (j1 : Nat) (nb : Nat) (sg_j1 : Int32) (fa_j1 : Int32) (pa_j1 : Nat) (k4 : Nat) (hj4 : j1 ≤ 5) (hk4 : 5 < j1 + (k4 + 1)) (i1 : pa ≤ pa_j1) (i2 : pa_j1 ≤ en) (i3 : SGb bb sg_j1 pa_j1 en) (i0 : nb < 10 ^ j1) (iu : nuP bb 5 0 pa = nuP bb (5 - j1) nb pa_j1) (ifz : fa_j1 = 0) (c_1 : ¬ 5 ≤ nI j1) (n_24 : j1 < 5) (hi29 : fa_j1 = 0 → ¬ sHas 4 (bb pa_j1) = true) (hd29 : fa_j1 = 0 → ¬ (dgP (bb pa_j1))) (hi33 : fa_j1 = 0 → ¬ sHas 4 (bb pa_j1) = true) (hd33 : fa_j1 = 0 → ¬ (dgP (bb pa_j1))) : nb ≤ 99999 := by
  first | assumption | omega | decide | rfl | exact Or.inl ⟨by assumption, rfl⟩ | (have q := Nat.pow_le_pow_right (n := 10) (by decide) (‹_ ≤ 5› : _ ≤ 5); omega)
theorem lf_X3_readNumber_t_40 (a : Nat → Nat) (t : Nat → Nat) (en : Nat) (pa : Nat) (sg : Int32) (oq : Nat) (tu : Nat) (tb : Nat → Int32) (un : Nat) (k1 : Nat) (p1 : Nat) (rf : Int32) (fs : Nat → Int32) (bb : Nat → Nat) (htu : tu ≤ 220) (hen : en ≤ 200) (hpa : pa ≤ en) (hsg : SGb bb sg pa en) (hun : un ≤ 200) (hst : ∀ j, j < 200 → 0 ≤ fs j) (hbl : BLt bb en) (hbt : BT bb tb en) (het : en ≤ tu) (hup : un ≤ pa) (hlt : pa < en) (hdg : dgP (bb pa)) (j1 : Nat) (nb : Nat) (sg_j1 : Int32) (fa_j1 : Int32) (pa_j1 : Nat) (k4 : Nat) (hj4 : j1 ≤ 5) (hk4 : 5 < j1 + (k4 + 1)) (i1 : pa ≤ pa_j1) (i2 : pa_j1 ≤ en) (i3 : SGb bb sg_j1 pa_j1 en) (i0 : nb < 10 ^ j1) (iu : nuP bb 5 0 pa = nuP bb (5 - j1) nb pa_j1) (ifz : fa_j1 = 0) (c_1 : ¬ 5 ≤ nI j1) (n_24 : j1 < 5) (hi29 : fa_j1 = 0 → ¬ sHas 4 (bb pa_j1) = true) (hd29 : fa_j1 = 0 → ¬ (dgP (bb pa_j1))) (hi33 : fa_j1 = 0 → ¬ sHas 4 (bb pa_j1) = true) (hd33 : fa_j1 = 0 → ¬ (dgP (bb pa_j1))) (un_39 : Nat) (fs_39 : Nat → Int32) (hz_39_0 : un_39 ≤ 200) (hz_39_1 : ∀ j, j < 200 → 0 ≤ fs_39 j) (hz_39_2 : adM (nI (16 * nb + 1)) fs un fs_39 un_39) : (pa ≤ (pa_j1 : Nat)) ∧ ((pa_j1 : Nat) ≤ en) ∧ (SGb bb (sg_j1 : Int32) (pa_j1 : Nat) en) ∧ ((un_39 : Nat) ≤ 200) ∧ (∀ j, j < 200 → 0 ≤ (fs_39 : Nat → Int32) j) ∧ (nuQ bb fs un pa (fs_39 : Nat → Int32) (un_39 : Nat) (pa_j1 : Nat) (fa_j1 : Int32)) := by
  refine ⟨by omega, by omega, by first | assumption | exact Or.inl ⟨by assumption, rfl⟩, by omega, by assumption, ?_⟩
  first
    | exact nuQ.ok hdg iu ((by assumption : fa_j1 = 0 → ¬ dgP (bb pa_j1)) ifz) hup (by omega) (by assumption) (by first | exact ifz | rfl)
    | exact absurd (by assumption : dgP (bb pa_j1)) ((by assumption : fa_j1 = 0 → ¬ dgP (bb pa_j1)) ifz)
    | (have e5 : j1 = 5 := by omega
       rw [e5] at iu
       exact nuQ.no hdg iu (by assumption) ((by assumption : rfQ 2 _ _).1 (by first | rfl | assumption)) (by assumption))
theorem lf_X3_readNumber_t_43 (a : Nat → Nat) (t : Nat → Nat) (en : Nat) (pa : Nat) (sg : Int32) (oq : Nat) (tu : Nat) (tb : Nat → Int32) (un : Nat) (k1 : Nat) (p1 : Nat) (rf : Int32) (fs : Nat → Int32) (bb : Nat → Nat) (htu : tu ≤ 220) (hen : en ≤ 200) (hpa : pa ≤ en) (hsg : SGb bb sg pa en) (hun : un ≤ 200) (hst : ∀ j, j < 200 → 0 ≤ fs j) (hbl : BLt bb en) (hbt : BT bb tb en) (het : en ≤ tu) (hup : un ≤ pa) (hlt : pa < en) (hdg : dgP (bb pa)) (j1 : Nat) (nb : Nat) (sg_j1 : Int32) (fa_j1 : Int32) (pa_j1 : Nat) (k4 : Nat) (hj4 : j1 ≤ 5) (hk4 : 5 < j1 + (k4 + 1)) (i1 : pa ≤ pa_j1) (i2 : pa_j1 ≤ en) (i3 : SGb bb sg_j1 pa_j1 en) (i0 : nb < 10 ^ j1) (iu : nuP bb 5 0 pa = nuP bb (5 - j1) nb pa_j1) (ifz : fa_j1 = 0) (c_1 : ¬ 5 ≤ nI j1) (n_24 : j1 < 5) (hi29 : fa_j1 = 0 → ¬ sHas 4 (bb pa_j1) = true) (hd29 : fa_j1 = 0 → ¬ (dgP (bb pa_j1))) (he33 : sg_j1 = nI (bb pa_j1)) (hf33 : fa_j1 = 0) (hl33 : pa_j1 < en) (hs33 : sHas 4 (bb pa_j1) = true) (hb33 : (bb pa_j1) < 256) (hd33 : dgP (bb pa_j1)) (fa_42 : Int32) (hz_42_0 : rfQ ((2 : Int32)) ((0 : Int32)) fa_42) : un ≤ 200 := by
  first | assumption | omega | decide | rfl | exact Or.inl ⟨by assumption, rfl⟩ | (have q := Nat.pow_le_pow_right (n := 10) (by decide) (‹_ ≤ 5› : _ ≤ 5); omega)
theorem lf_X3_readNumber_t_44 (a : Nat → Nat) (t : Nat → Nat) (en : Nat) (pa : Nat) (sg : Int32) (oq : Nat) (tu : Nat) (tb : Nat → Int32) (un : Nat) (k1 : Nat) (p1 : Nat) (rf : Int32) (fs : Nat → Int32) (bb : Nat → Nat) (htu : tu ≤ 220) (hen : en ≤ 200) (hpa : pa ≤ en) (hsg : SGb bb sg pa en) (hun : un ≤ 200) (hst : ∀ j, j < 200 → 0 ≤ fs j) (hbl : BLt bb en) (hbt : BT bb tb en) (het : en ≤ tu) (hup : un ≤ pa) (hlt : pa < en) (hdg : dgP (bb pa)) (j1 : Nat) (nb : Nat) (sg_j1 : Int32) (fa_j1 : Int32) (pa_j1 : Nat) (k4 : Nat) (hj4 : j1 ≤ 5) (hk4 : 5 < j1 + (k4 + 1)) (i1 : pa ≤ pa_j1) (i2 : pa_j1 ≤ en) (i3 : SGb bb sg_j1 pa_j1 en) (i0 : nb < 10 ^ j1) (iu : nuP bb 5 0 pa = nuP bb (5 - j1) nb pa_j1) (ifz : fa_j1 = 0) (c_1 : ¬ 5 ≤ nI j1) (n_24 : j1 < 5) (hi29 : fa_j1 = 0 → ¬ sHas 4 (bb pa_j1) = true) (hd29 : fa_j1 = 0 → ¬ (dgP (bb pa_j1))) (he33 : sg_j1 = nI (bb pa_j1)) (hf33 : fa_j1 = 0) (hl33 : pa_j1 < en) (hs33 : sHas 4 (bb pa_j1) = true) (hb33 : (bb pa_j1) < 256) (hd33 : dgP (bb pa_j1)) (fa_42 : Int32) (hz_42_0 : rfQ ((2 : Int32)) ((0 : Int32)) fa_42) : ∀ j, j < 200 → 0 ≤ fs j := by
  first | assumption | omega | decide | rfl | exact Or.inl ⟨by assumption, rfl⟩ | (have q := Nat.pow_le_pow_right (n := 10) (by decide) (‹_ ≤ 5› : _ ≤ 5); omega)
theorem lf_X3_readNumber_t_45 (a : Nat → Nat) (t : Nat → Nat) (en : Nat) (pa : Nat) (sg : Int32) (oq : Nat) (tu : Nat) (tb : Nat → Int32) (un : Nat) (k1 : Nat) (p1 : Nat) (rf : Int32) (fs : Nat → Int32) (bb : Nat → Nat) (htu : tu ≤ 220) (hen : en ≤ 200) (hpa : pa ≤ en) (hsg : SGb bb sg pa en) (hun : un ≤ 200) (hst : ∀ j, j < 200 → 0 ≤ fs j) (hbl : BLt bb en) (hbt : BT bb tb en) (het : en ≤ tu) (hup : un ≤ pa) (hlt : pa < en) (hdg : dgP (bb pa)) (j1 : Nat) (nb : Nat) (sg_j1 : Int32) (fa_j1 : Int32) (pa_j1 : Nat) (k4 : Nat) (hj4 : j1 ≤ 5) (hk4 : 5 < j1 + (k4 + 1)) (i1 : pa ≤ pa_j1) (i2 : pa_j1 ≤ en) (i3 : SGb bb sg_j1 pa_j1 en) (i0 : nb < 10 ^ j1) (iu : nuP bb 5 0 pa = nuP bb (5 - j1) nb pa_j1) (ifz : fa_j1 = 0) (c_1 : ¬ 5 ≤ nI j1) (n_24 : j1 < 5) (hi29 : fa_j1 = 0 → ¬ sHas 4 (bb pa_j1) = true) (hd29 : fa_j1 = 0 → ¬ (dgP (bb pa_j1))) (he33 : sg_j1 = nI (bb pa_j1)) (hf33 : fa_j1 = 0) (hl33 : pa_j1 < en) (hs33 : sHas 4 (bb pa_j1) = true) (hb33 : (bb pa_j1) < 256) (hd33 : dgP (bb pa_j1)) (fa_42 : Int32) (hz_42_0 : rfQ ((2 : Int32)) ((0 : Int32)) fa_42) : 1 < 16 := by
  first | assumption | omega | decide | rfl | exact Or.inl ⟨by assumption, rfl⟩ | (have q := Nat.pow_le_pow_right (n := 10) (by decide) (‹_ ≤ 5› : _ ≤ 5); omega)
theorem lf_X3_readNumber_t_46 (a : Nat → Nat) (t : Nat → Nat) (en : Nat) (pa : Nat) (sg : Int32) (oq : Nat) (tu : Nat) (tb : Nat → Int32) (un : Nat) (k1 : Nat) (p1 : Nat) (rf : Int32) (fs : Nat → Int32) (bb : Nat → Nat) (htu : tu ≤ 220) (hen : en ≤ 200) (hpa : pa ≤ en) (hsg : SGb bb sg pa en) (hun : un ≤ 200) (hst : ∀ j, j < 200 → 0 ≤ fs j) (hbl : BLt bb en) (hbt : BT bb tb en) (het : en ≤ tu) (hup : un ≤ pa) (hlt : pa < en) (hdg : dgP (bb pa)) (j1 : Nat) (nb : Nat) (sg_j1 : Int32) (fa_j1 : Int32) (pa_j1 : Nat) (k4 : Nat) (hj4 : j1 ≤ 5) (hk4 : 5 < j1 + (k4 + 1)) (i1 : pa ≤ pa_j1) (i2 : pa_j1 ≤ en) (i3 : SGb bb sg_j1 pa_j1 en) (i0 : nb < 10 ^ j1) (iu : nuP bb 5 0 pa = nuP bb (5 - j1) nb pa_j1) (ifz : fa_j1 = 0) (c_1 : ¬ 5 ≤ nI j1) (n_24 : j1 < 5) (hi29 : fa_j1 = 0 → ¬ sHas 4 (bb pa_j1) = true) (hd29 : fa_j1 = 0 → ¬ (dgP (bb pa_j1))) (he33 : sg_j1 = nI (bb pa_j1)) (hf33 : fa_j1 = 0) (hl33 : pa_j1 < en) (hs33 : sHas 4 (bb pa_j1) = true) (hb33 : (bb pa_j1) < 256) (hd33 : dgP (bb pa_j1)) (fa_42 : Int32) (hz_42_0 : rfQ ((2 : Int32)) ((0 : Int32)) fa_42) : nb ≤ 99999 := by
  first | assumption | omega | decide | rfl | exact Or.inl ⟨by assumption, rfl⟩ | (have q := Nat.pow_le_pow_right (n := 10) (by decide) (‹_ ≤ 5› : _ ≤ 5); omega)
theorem lf_X3_readNumber_t_49 (a : Nat → Nat) (t : Nat → Nat) (en : Nat) (pa : Nat) (sg : Int32) (oq : Nat) (tu : Nat) (tb : Nat → Int32) (un : Nat) (k1 : Nat) (p1 : Nat) (rf : Int32) (fs : Nat → Int32) (bb : Nat → Nat) (htu : tu ≤ 220) (hen : en ≤ 200) (hpa : pa ≤ en) (hsg : SGb bb sg pa en) (hun : un ≤ 200) (hst : ∀ j, j < 200 → 0 ≤ fs j) (hbl : BLt bb en) (hbt : BT bb tb en) (het : en ≤ tu) (hup : un ≤ pa) (hlt : pa < en) (hdg : dgP (bb pa)) (j1 : Nat) (nb : Nat) (sg_j1 : Int32) (fa_j1 : Int32) (pa_j1 : Nat) (k4 : Nat) (hj4 : j1 ≤ 5) (hk4 : 5 < j1 + (k4 + 1)) (i1 : pa ≤ pa_j1) (i2 : pa_j1 ≤ en) (i3 : SGb bb sg_j1 pa_j1 en) (i0 : nb < 10 ^ j1) (iu : nuP bb 5 0 pa = nuP bb (5 - j1) nb pa_j1) (ifz : fa_j1 = 0) (c_1 : ¬ 5 ≤ nI j1) (n_24 : j1 < 5) (hi29 : fa_j1 = 0 → ¬ sHas 4 (bb pa_j1) = true) (hd29 : fa_j1 = 0 → ¬ (dgP (bb pa_j1))) (he33 : sg_j1 = nI (bb pa_j1)) (hf33 : fa_j1 = 0) (hl33 : pa_j1 < en) (hs33 : sHas 4 (bb pa_j1) = true) (hb33 : (bb pa_j1) < 256) (hd33 : dgP (bb pa_j1)) (fa_42 : Int32) (hz_42_0 : rfQ ((2 : Int32)) ((0 : Int32)) fa_42) (un_48 : Nat) (fs_48 : Nat → Int32) (hz_48_0 : un_48 ≤ 200) (hz_48_1 : ∀ j, j < 200 → 0 ≤ fs_48 j) (hz_48_2 : adM (nI (16 * nb + 1)) fs un fs_48 un_48) : (pa ≤ (pa_j1 : Nat)) ∧ ((pa_j1 : Nat) ≤ en) ∧ (SGb bb (nI (bb pa_j1) : Int32) (pa_j1 : Nat) en) ∧ ((un_48 : Nat) ≤ 200) ∧ (∀ j, j < 200 → 0 ≤ (fs_48 : Nat → Int32) j) ∧ (nuQ bb fs un pa (fs_48 : Nat → Int32) (un_48 : Nat) (pa_j1 : Nat) (fa_42 : Int32)) := by
  refine ⟨by omega, by omega, by first | assumption | exact Or.inl ⟨by assumption, rfl⟩, by omega, by assumption, ?_⟩
  first
    | exact nuQ.ok hdg iu ((by assumption : fa_j1 = 0 → ¬ dgP (bb pa_j1)) ifz) hup (by omega) (by assumption) (by first | exact ifz | rfl)
    | exact absurd (by assumption : dgP (bb pa_j1)) ((by assumption : fa_j1 = 0 → ¬ dgP (bb pa_j1)) ifz)
    | (have e5 : j1 = 5 := by omega
       rw [e5] at iu
       exact nuQ.no hdg iu (by assumption) ((by assumption : rfQ 2 _ _).1 (by first | rfl | assumption)) (by assumption))
theorem lf_X3_readNumber_t_50 (a : Nat → Nat) (t : Nat → Nat) (en : Nat) (pa : Nat) (sg : Int32) (oq : Nat) (tu : Nat) (tb : Nat → Int32) (un : Nat) (k1 : Nat) (p1 : Nat) (rf : Int32) (fs : Nat → Int32) (bb : Nat → Nat) (htu : tu ≤ 220) (hen : en ≤ 200) (hpa : pa ≤ en) (hsg : SGb bb sg pa en) (hun : un ≤ 200) (hst : ∀ j, j < 200 → 0 ≤ fs j) (hbl : BLt bb en) (hbt : BT bb tb en) (het : en ≤ tu) (hup : un ≤ pa) (hlt : pa < en) (hdg : dgP (bb pa)) (j1 : Nat) (nb : Nat) (sg_j1 : Int32) (fa_j1 : Int32) (pa_j1 : Nat) (k4 : Nat) (hj4 : j1 ≤ 5) (hk4 : 5 < j1 + (k4 + 1)) (i1 : pa ≤ pa_j1) (i2 : pa_j1 ≤ en) (i3 : SGb bb sg_j1 pa_j1 en) (i0 : nb < 10 ^ j1) (iu : nuP bb 5 0 pa = nuP bb (5 - j1) nb pa_j1) (ifz : fa_j1 = 0) (c_1 : ¬ 5 ≤ nI j1) (n_24 : j1 < 5) (he29 : sg_j1 = nI (bb pa_j1)) (hf29 : fa_j1 = 0) (hl29 : pa_j1 < en) (hs29 : sHas 4 (bb pa_j1) = true) (hb29 : (bb pa_j1) < 256) (hd29 : dgP (bb pa_j1)) : 48 ≤ ((nb * 10) + (bb pa_j1)) := by
  omega
theorem lf_X3_readNumber_t_51 (a : Nat → Nat) (t : Nat → Nat) (en : Nat) (pa : Nat) (sg : Int32) (oq : Nat) (tu : Nat) (tb : Nat → Int32) (un : Nat) (k1 : Nat) (p1 : Nat) (rf : Int32) (fs : Nat → Int32) (bb : Nat → Nat) (htu : tu ≤ 220) (hen : en ≤ 200) (hpa : pa ≤ en) (hsg : SGb bb sg pa en) (hun : un ≤ 200) (hst : ∀ j, j < 200 → 0 ≤ fs j) (hbl : BLt bb en) (hbt : BT bb tb en) (het : en ≤ tu) (hup : un ≤ pa) (hlt : pa < en) (hdg : dgP (bb pa)) (j1 : Nat) (nb : Nat) (sg_j1 : Int32) (fa_j1 : Int32) (pa_j1 : Nat) (k4 : Nat) (hj4 : j1 ≤ 5) (hk4 : 5 < j1 + (k4 + 1)) (i1 : pa ≤ pa_j1) (i2 : pa_j1 ≤ en) (i3 : SGb bb sg_j1 pa_j1 en) (i0 : nb < 10 ^ j1) (iu : nuP bb 5 0 pa = nuP bb (5 - j1) nb pa_j1) (ifz : fa_j1 = 0) (c_1 : ¬ 5 ≤ nI j1) (n_24 : j1 < 5) (he29 : sg_j1 = nI (bb pa_j1)) (hf29 : fa_j1 = 0) (hl29 : pa_j1 < en) (hs29 : sHas 4 (bb pa_j1) = true) (hb29 : (bb pa_j1) < 256) (hd29 : dgP (bb pa_j1)) : tu ≤ 220 := by
  first | assumption | omega | decide | rfl | exact Or.inl ⟨by assumption, rfl⟩ | (have q := Nat.pow_le_pow_right (n := 10) (by decide) (‹_ ≤ 5› : _ ≤ 5); omega)
theorem lf_X3_readNumber_t_52 (a : Nat → Nat) (t : Nat → Nat) (en : Nat) (pa : Nat) (sg : Int32) (oq : Nat) (tu : Nat) (tb : Nat → Int32) (un : Nat) (k1 : Nat) (p1 : Nat) (rf : Int32) (fs : Nat → Int32) (bb : Nat → Nat) (htu : tu ≤ 220) (hen : en ≤ 200) (hpa : pa ≤ en) (hsg : SGb bb sg pa en) (hun : un ≤ 200) (hst : ∀ j, j < 200 → 0 ≤ fs j) (hbl : BLt bb en) (hbt : BT bb tb en) (het : en ≤ tu) (hup : un ≤ pa) (hlt : pa < en) (hdg : dgP (bb pa)) (j1 : Nat) (nb : Nat) (sg_j1 : Int32) (fa_j1 : Int32) (pa_j1 : Nat) (k4 : Nat) (hj4 : j1 ≤ 5) (hk4 : 5 < j1 + (k4 + 1)) (i1 : pa ≤ pa_j1) (i2 : pa_j1 ≤ en) (i3 : SGb bb sg_j1 pa_j1 en) (i0 : nb < 10 ^ j1) (iu : nuP bb 5 0 pa = nuP bb (5 - j1) nb pa_j1) (ifz : fa_j1 = 0) (c_1 : ¬ 5 ≤ nI j1) (n_24 : j1 < 5) (he29 : sg_j1 = nI (bb pa_j1)) (hf29 : fa_j1 = 0) (hl29 : pa_j1 < en) (hs29 : sHas 4 (bb pa_j1) = true) (hb29 : (bb pa_j1) < 256) (hd29 : dgP (bb pa_j1)) : en ≤ 200 := by
  first | assumption | omega | decide | rfl | exact Or.inl ⟨by assumption, rfl⟩ | (have q := Nat.pow_le_pow_right (n := 10) (by decide) (‹_ ≤ 5› : _ ≤ 5); omega)
theorem lf_X3_readNumber_t_53 (a : Nat → Nat) (t : Nat → Nat) (en : Nat) (pa : Nat) (sg : Int32) (oq : Nat) (tu : Nat) (tb : Nat → Int32) (un : Nat) (k1 : Nat) (p1 : Nat) (rf : Int32) (fs : Nat → Int32) (bb : Nat → Nat) (htu : tu ≤ 220) (hen : en ≤ 200) (hpa : pa ≤ en) (hsg : SGb bb sg pa en) (hun : un ≤ 200) (hst : ∀ j, j < 200 → 0 ≤ fs j) (hbl : BLt bb en) (hbt : BT bb tb en) (het : en ≤ tu) (hup : un ≤ pa) (hlt : pa < en) (hdg : dgP (bb pa)) (j1 : Nat) (nb : Nat) (sg_j1 : Int32) (fa_j1 : Int32) (pa_j1 : Nat) (k4 : Nat) (hj4 : j1 ≤ 5) (hk4 : 5 < j1 + (k4 + 1)) (i1 : pa ≤ pa_j1) (i2 : pa_j1 ≤ en) (i3 : SGb bb sg_j1 pa_j1 en) (i0 : nb < 10 ^ j1) (iu : nuP bb 5 0 pa = nuP bb (5 - j1) nb pa_j1) (ifz : fa_j1 = 0) (c_1 : ¬ 5 ≤ nI j1) (n_24 : j1 < 5) (he29 : sg_j1 = nI (bb pa_j1)) (hf29 : fa_j1 = 0) (hl29 : pa_j1 < en) (hs29 : sHas 4 (bb pa_j1) = true) (hb29 : (bb pa_j1) < 256) (hd29 : dgP (bb pa_j1)) : pa_j1 ≤ en := by
  first | assumption | omega | decide | rfl | exact Or.inl ⟨by assumption, rfl⟩ | (have q := Nat.pow_le_pow_right (n := 10) (by decide) (‹_ ≤ 5› : _ ≤ 5); omega)
theorem lf_X3_readNumber_t_54 (a : Nat → Nat) (t : Nat → Nat) (en : Nat) (pa : Nat) (sg : Int32) (oq : Nat) (tu : Nat) (tb : Nat → Int32) (un : Nat) (k1 : Nat) (p1 : Nat) (rf : Int32) (fs : Nat → Int32) (bb : Nat → Nat) (htu : tu ≤ 220) (hen : en ≤ 200) (hpa : pa ≤ en) (hsg : SGb bb sg pa en) (hun : un ≤ 200) (hst : ∀ j, j < 200 → 0 ≤ fs j) (hbl : BLt bb en) (hbt : BT bb tb en) (het : en ≤ tu) (hup : un ≤ pa) (hlt : pa < en) (hdg : dgP (bb pa)) (j1 : Nat) (nb : Nat) (sg_j1 : Int32) (fa_j1 : Int32) (pa_j1 : Nat) (k4 : Nat) (hj4 : j1 ≤ 5) (hk4 : 5 < j1 + (k4 + 1)) (i1 : pa ≤ pa_j1) (i2 : pa_j1 ≤ en) (i3 : SGb bb sg_j1 pa_j1 en) (i0 : nb < 10 ^ j1) (iu : nuP bb 5 0 pa = nuP bb (5 - j1) nb pa_j1) (ifz : fa_j1 = 0) (c_1 : ¬ 5 ≤ nI j1) (n_24 : j1 < 5) (he29 : sg_j1 = nI (bb pa_j1)) (hf29 : fa_j1 = 0) (hl29 : pa_j1 < en) (hs29 : sHas 4 (bb pa_j1) = true) (hb29 : (bb pa_j1) < 256) (hd29 : dgP (bb pa_j1)) : BT bb tb en := by
  first | assumption | omega | decide | rfl | exact Or.inl ⟨by assumption, rfl⟩ | (have q := Nat.pow_le_pow_right (n := 10) (by decide) (‹_ ≤ 5› : _ ≤ 5); omega)
theorem lf_X3_readNumber_t_55 (a : Nat → Nat) (t : Nat → Nat) (en : Nat) (pa : Nat) (sg : Int32) (oq : Nat) (tu : Nat) (tb : Nat → Int32) (un : Nat) (k1 : Nat) (p1 : Nat) (rf : Int32) (fs : Nat → Int32) (bb : Nat → Nat) (htu : tu ≤ 220) (hen : en ≤ 200) (hpa : pa ≤ en) (hsg : SGb bb sg pa en) (hun : un ≤ 200) (hst : ∀ j, j < 200 → 0 ≤ fs j) (hbl : BLt bb en) (hbt : BT bb tb en) (het : en ≤ tu) (hup : un ≤ pa) (hlt : pa < en) (hdg : dgP (bb pa)) (j1 : Nat) (nb : Nat) (sg_j1 : Int32) (fa_j1 : Int32) (pa_j1 : Nat) (k4 : Nat) (hj4 : j1 ≤ 5) (hk4 : 5 < j1 + (k4 + 1)) (i1 : pa ≤ pa_j1) (i2 : pa_j1 ≤ en) (i3 : SGb bb sg_j1 pa_j1 en) (i0 : nb < 10 ^ j1) (iu : nuP bb 5 0 pa = nuP bb (5 - j1) nb pa_j1) (ifz : fa_j1 = 0) (c_1 : ¬ 5 ≤ nI j1) (n_24 : j1 < 5) (he29 : sg_j1 = nI (bb pa_j1)) (hf29 : fa_j1 = 0) (hl29 : pa_j1 < en) (hs29 : sHas 4 (bb pa_j1) = true) (hb29 : (bb pa_j1) < 256) (hd29 : dgP (bb pa_j1)) : en ≤ tu := by
  first | assumption | omega | decide | rfl | exact Or.inl ⟨by assumption, rfl⟩ | (have q := Nat.pow_le_pow_right (n := 10) (by decide) (‹_ ≤ 5› : _ ≤ 5); omega)
theorem lf_X3_readNumber_t_56 (a : Nat → Nat) (t : Nat → Nat) (en : Nat) (pa : Nat) (sg : Int32) (oq : Nat) (tu : Nat) (tb : Nat → Int32) (un : Nat) (k1 : Nat) (p1 : Nat) (rf : Int32) (fs : Nat → Int32) (bb : Nat → Nat) (htu : tu ≤ 220) (hen : en ≤ 200) (hpa : pa ≤ en) (hsg : SGb bb sg pa en) (hun : un ≤ 200) (hst : ∀ j, j < 200 → 0 ≤ fs j) (hbl : BLt bb en) (hbt : BT bb tb en) (het : en ≤ tu) (hup : un ≤ pa) (hlt : pa < en) (hdg : dgP (bb pa)) (j1 : Nat) (nb : Nat) (sg_j1 : Int32) (fa_j1 : Int32) (pa_j1 : Nat) (k4 : Nat) (hj4 : j1 ≤ 5) (hk4 : 5 < j1 + (k4 + 1)) (i1 : pa ≤ pa_j1) (i2 : pa_j1 ≤ en) (i3 : SGb bb sg_j1 pa_j1 en) (i0 : nb < 10 ^ j1) (iu : nuP bb 5 0 pa = nuP bb (5 - j1) nb pa_j1) (ifz : fa_j1 = 0) (c_1 : ¬ 5 ≤ nI j1) (n_24 : j1 < 5) (he29 : sg_j1 = nI (bb pa_j1)) (hf29 : fa_j1 = 0) (hl29 : pa_j1 < en) (hs29 : sHas 4 (bb pa_j1) = true) (hb29 : (bb pa_j1) < 256) (hd29 : dgP (bb pa_j1)) : pa_j1 < en := by
  first | assumption | omega | decide | rfl | exact Or.inl ⟨by assumption, rfl⟩ | (have q := Nat.pow_le_pow_right (n := 10) (by decide) (‹_ ≤ 5› : _ ≤ 5); omega)
theorem lf_X3_readNumber_t_59 (a : Nat → Nat) (t : Nat → Nat) (en : Nat) (pa : Nat) (sg : Int32) (oq : Nat) (tu : Nat) (tb : Nat → Int32) (un : Nat) (k1 : Nat) (p1 : Nat) (rf : Int32) (fs : Nat → Int32) (bb : Nat → Nat) (htu : tu ≤ 220) (hen : en ≤ 200) (hpa : pa ≤ en) (hsg : SGb bb sg pa en) (hun : un ≤ 200) (hst : ∀ j, j < 200 → 0 ≤ fs j) (hbl : BLt bb en) (hbt : BT bb tb en) (het : en ≤ tu) (hup : un ≤ pa) (hlt : pa < en) (hdg : dgP (bb pa)) (j1 : Nat) (nb : Nat) (sg_j1 : Int32) (fa_j1 : Int32) (pa_j1 : Nat) (k4 : Nat) (hj4 : j1 ≤ 5) (hk4 : 5 < j1 + (k4 + 1)) (i1 : pa ≤ pa_j1) (i2 : pa_j1 ≤ en) (i3 : SGb bb sg_j1 pa_j1 en) (i0 : nb < 10 ^ j1) (iu : nuP bb 5 0 pa = nuP bb (5 - j1) nb pa_j1) (ifz : fa_j1 = 0) (c_1 : ¬ 5 ≤ nI j1) (n_24 : j1 < 5) (he29 : sg_j1 = nI (bb pa_j1)) (hf29 : fa_j1 = 0) (hl29 : pa_j1 < en) (hs29 : sHas 4 (bb pa_j1) = true) (hb29 : (bb pa_j1) < 256) (hd29 : dgP (bb pa_j1)) (pa_58 : Nat) (sg_58 : Int32) (hz_58_0 : pa_58 = pa_j1 + 1) (hz_58_1 : pa_58 ≤ en) (hz_58_2 : SGb bb sg_58 pa_58 en) : pa ≤ pa_58 := by
  first | assumption | omega | exact Nat.one_pos | rfl | exact nu_s iu (by omega) (by assumption) rfl (by assumption) | (rw [Nat.pow_succ]; omega) | exact Or.inl ⟨by assumption, rfl⟩
theorem lf_X3_readNumber_t_60 (a : Nat → Nat) (t : Nat → Nat) (en : Nat) (pa : Nat) (sg : Int32) (oq : Nat) (tu : Nat) (tb : Nat → Int32) (un : Nat) (k1 : Nat) (p1 : Nat) (rf : Int32) (fs : Nat → Int32) (bb : Nat → Nat) (htu : tu ≤ 220) (hen : en ≤ 200) (hpa : pa ≤ en) (hsg : SGb bb sg pa en) (hun : un ≤ 200) (hst : ∀ j, j < 200 → 0 ≤ fs j) (hbl : BLt bb en) (hbt : BT bb tb en) (het : en ≤ tu) (hup : un ≤ pa) (hlt : pa < en) (hdg : dgP (bb pa)) (j1 : Nat) (nb : Nat) (sg_j1 : Int32) (fa_j1 : Int32) (pa_j1 : Nat) (k4 : Nat) (hj4 : j1 ≤ 5) (hk4 : 5 < j1 + (k4 + 1)) (i1 : pa ≤ pa_j1) (i2 : pa_j1 ≤ en) (i3 : SGb bb sg_j1 pa_j1 en) (i0 : nb < 10 ^ j1) (iu : nuP bb 5 0 pa = nuP bb (5 - j1) nb pa_j1) (ifz : fa_j1 = 0) (c_1 : ¬ 5 ≤ nI j1) (n_24 : j1 < 5) (he29 : sg_j1 = nI (bb pa_j1)) (hf29 : fa_j1 = 0) (hl29 : pa_j1 < en) (hs29 : sHas 4 (bb pa_j1) = true) (hb29 : (bb pa_j1) < 256) (hd29 : dgP (bb pa_j1)) (pa_58 : Nat) (sg_58 : Int32) (hz_58_0 : pa_58 = pa_j1 + 1) (hz_58_1 : pa_58 ≤ en) (hz_58_2 : SGb bb sg_58 pa_58 en) : pa_58 ≤ en := by
  first | assumption | omega | exact Nat.one_pos | rfl | exact nu_s iu (by omega) (by assumption) rfl (by assumption) | (rw [Nat.pow_succ]; omega) | exact Or.inl ⟨by assumption, rfl⟩
theorem lf_X3_readNumber_t_61 (a : Nat → Nat) (t : Nat → Nat) (en : Nat) (pa : Nat) (sg : Int32) (oq : Nat) (tu : Nat) (tb : Nat → Int32) (un : Nat) (k1 : Nat) (p1 : Nat) (rf : Int32) (fs : Nat → Int32) (bb : Nat → Nat) (htu : tu ≤ 220) (hen : en ≤ 200) (hpa : pa ≤ en) (hsg : SGb bb sg pa en) (hun : un ≤ 200) (hst : ∀ j, j < 200 → 0 ≤ fs j) (hbl : BLt bb en) (hbt : BT bb tb en) (het : en ≤ tu) (hup : un ≤ pa) (hlt : pa < en) (hdg : dgP (bb pa)) (j1 : Nat) (nb : Nat) (sg_j1 : Int32) (fa_j1 : Int32) (pa_j1 : Nat) (k4 : Nat) (hj4 : j1 ≤ 5) (hk4 : 5 < j1 + (k4 + 1)) (i1 : pa ≤ pa_j1) (i2 : pa_j1 ≤ en) (i3 : SGb bb sg_j1 pa_j1 en) (i0 : nb < 10 ^ j1) (iu : nuP bb 5 0 pa = nuP bb (5 - j1) nb pa_j1) (ifz : fa_j1 = 0) (c_1 : ¬ 5 ≤ nI j1) (n_24 : j1 < 5) (he29 : sg_j1 = nI (bb pa_j1)) (hf29 : fa_j1 = 0) (hl29 : pa_j1 < en) (hs29 : sHas 4 (bb pa_j1) = true) (hb29 : (bb pa_j1) < 256) (hd29 : dgP (bb pa_j1)) (pa_58 : Nat) (sg_58 : Int32) (hz_58_0 : pa_58 = pa_j1 + 1) (hz_58_1 : pa_58 ≤ en) (hz_58_2 : SGb bb sg_58 pa_58 en) : SGb bb sg_58 pa_58 en := by
  first | assumption | omega | exact Nat.one_pos | rfl | exact nu_s iu (by omega) (by assumption) rfl (by assumption) | (rw [Nat.pow_succ]; omega) | exact Or.inl ⟨by assumption, rfl⟩
theorem lf_X3_readNumber_t_62 (a : Nat → Nat) (t : Nat → Nat) (en : Nat) (pa : Nat) (sg : Int32) (oq : Nat) (tu : Nat) (tb : Nat → Int32) (un : Nat) (k1 : Nat) (p1 : Nat) (rf : Int32) (fs : Nat → Int32) (bb : Nat → Nat) (htu : tu ≤ 220) (hen : en ≤ 200) (hpa : pa ≤ en) (hsg : SGb bb sg pa en) (hun : un ≤ 200) (hst : ∀ j, j < 200 → 0 ≤ fs j) (hbl : BLt bb en) (hbt : BT bb tb en) (het : en ≤ tu) (hup : un ≤ pa) (hlt : pa < en) (hdg : dgP (bb pa)) (j1 : Nat) (nb : Nat) (sg_j1 : Int32) (fa_j1 : Int32) (pa_j1 : Nat) (k4 : Nat) (hj4 : j1 ≤ 5) (hk4 : 5 < j1 + (k4 + 1)) (i1 : pa ≤ pa_j1) (i2 : pa_j1 ≤ en) (i3 : SGb bb sg_j1 pa_j1 en) (i0 : nb < 10 ^ j1) (iu : nuP bb 5 0 pa = nuP bb (5 - j1) nb pa_j1) (ifz : fa_j1 = 0) (c_1 : ¬ 5 ≤ nI j1) (n_24 : j1 < 5) (he29 : sg_j1 = nI (bb pa_j1)) (hf29 : fa_j1 = 0) (hl29 : pa_j1 < en) (hs29 : sHas 4 (bb pa_j1) = true) (hb29 : (bb pa_j1) < 256) (hd29 : dgP (bb pa_j1)) (pa_58 : Nat) (sg_58 : Int32) (hz_58_0 : pa_58 = pa_j1 + 1) (hz_58_1 : pa_58 ≤ en) (hz_58_2 : SGb bb sg_58 pa_58 en) : ((((nb * 10) + (bb pa_j1)) - 48)) < 10 ^ (j1 + 1) := by
  first | assumption | omega | exact Nat.one_pos | rfl | exact nu_s iu (by omega) (by assumption) rfl (by assumption) | (rw [Nat.pow_succ]; omega) | exact Or.inl ⟨by assumption, rfl⟩
theorem lf_X3_readNumber_t_63 (a : Nat → Nat) (t : Nat → Nat) (en : Nat) (pa : Nat) (sg : Int32) (oq : Nat) (tu : Nat) (tb : Nat → Int32) (un : Nat) (k1 : Nat) (p1 : Nat) (rf : Int32) (fs : Nat → Int32) (bb : Nat → Nat) (htu : tu ≤ 220) (hen : en ≤ 200) (hpa : pa ≤ en) (hsg : SGb bb sg pa en) (hun : un ≤ 200) (hst : ∀ j, j < 200 → 0 ≤ fs j) (hbl : BLt bb en) (hbt : BT bb tb en) (het : en ≤ tu) (hup : un ≤ pa) (hlt : pa < en) (hdg : dgP (bb pa)) (j1 : Nat) (nb : Nat) (sg_j1 : Int32) (fa_j1 : Int32) (pa_j1 : Nat) (k4 : Nat) (hj4 : j1 ≤ 5) (hk4 : 5 < j1 + (k4 + 1)) (i1 : pa ≤ pa_j1) (i2 : pa_j1 ≤ en) (i3 : SGb bb sg_j1 pa_j1 en) (i0 : nb < 10 ^ j1) (iu : nuP bb 5 0 pa = nuP bb (5 - j1) nb pa_j1) (ifz : fa_j1 = 0) (c_1 : ¬ 5 ≤ nI j1) (n_24 : j1 < 5) (he29 : sg_j1 = nI (bb pa_j1)) (hf29 : fa_j1 = 0) (hl29 : pa_j1 < en) (hs29 : sHas 4 (bb pa_j1) = true) (hb29 : (bb pa_j1) < 256) (hd29 : dgP (bb pa_j1)) (pa_58 : Nat) (sg_58 : Int32) (hz_58_0 : pa_58 = pa_j1 + 1) (hz_58_1 : pa_58 ≤ en) (hz_58_2 : SGb bb sg_58 pa_58 en) : nuP bb 5 0 pa = nuP bb (5 - (j1 + 1)) ((((nb * 10) + (bb pa_j1)) - 48)) pa_58 := by
  first | assumption | omega | exact Nat.one_pos | rfl | exact nu_s iu (by omega) (by assumption) rfl (by assumption) | (rw [Nat.pow_succ]; omega) | exact Or.inl ⟨by assumption, rfl⟩
theorem lf_X3_readNumber_t_64 (a : Nat → Nat) (t : Nat → Nat) (en : Nat) (pa : Nat) (sg : Int32) (oq : Nat) (tu : Nat) (tb : Nat → Int32) (un : Nat) (k1 : Nat) (p1 : Nat) (rf : Int32) (fs : Nat → Int32) (bb : Nat → Nat) (htu : tu ≤ 220) (hen : en ≤ 200) (hpa : pa ≤ en) (hsg : SGb bb sg pa en) (hun : un ≤ 200) (hst : ∀ j, j < 200 → 0 ≤ fs j) (hbl : BLt bb en) (hbt : BT bb tb en) (het : en ≤ tu) (hup : un ≤ pa) (hlt : pa < en) (hdg : dgP (bb pa)) (j1 : Nat) (nb : Nat) (sg_j1 : Int32) (fa_j1 : Int32) (pa_j1 : Nat) (k4 : Nat) (hj4 : j1 ≤ 5) (hk4 : 5 < j1 + (k4 + 1)) (i1 : pa ≤ pa_j1) (i2 : pa_j1 ≤ en) (i3 : SGb bb sg_j1 pa_j1 en) (i0 : nb < 10 ^ j1) (iu : nuP bb 5 0 pa = nuP bb (5 - j1) nb pa_j1) (ifz : fa_j1 = 0) (c_1 : ¬ 5 ≤ nI j1) (n_24 : j1 < 5) (he29 : sg_j1 = nI (bb pa_j1)) (hf29 : fa_j1 = 0) (hl29 : pa_j1 < en) (hs29 : sHas 4 (bb pa_j1) = true) (hb29 : (bb pa_j1) < 256) (hd29 : dgP (bb pa_j1)) (pa_58 : Nat) (sg_58 : Int32) (hz_58_0 : pa_58 = pa_j1 + 1) (hz_58_1 : pa_58 ≤ en) (hz_58_2 : SGb bb sg_58 pa_58 en) : (0 : Int32) = 0 := by
  first | assumption | omega | exact Nat.one_pos | rfl | exact nu_s iu (by omega) (by assumption) rfl (by assumption) | (rw [Nat.pow_succ]; omega) | exact Or.inl ⟨by assumption, rfl⟩
theorem lf_X3_readNumber_t_65 (a : Nat → Nat) (t : Nat → Nat) (en : Nat) (pa : Nat) (sg : Int32) (oq : Nat) (tu : Nat) (tb : Nat → Int32) (un : Nat) (k1 : Nat) (p1 : Nat) (rf : Int32) (fs : Nat → Int32) (bb : Nat → Nat) (htu : tu ≤ 220) (hen : en ≤ 200) (hpa : pa ≤ en) (hsg : SGb bb sg pa en) (hun : un ≤ 200) (hst : ∀ j, j < 200 → 0 ≤ fs j) (hbl : BLt bb en) (hbt : BT bb tb en) (het : en ≤ tu) (hup : un ≤ pa) (hlt : pa < en) (hdg : dgP (bb pa)) : pa ≤ pa := by
  first | assumption | omega | exact Nat.one_pos | rfl | exact nu_s iu (by omega) (by assumption) rfl (by assumption) | (rw [Nat.pow_succ]; omega) | exact Or.inl ⟨by assumption, rfl⟩
theorem lf_X3_readNumber_t_66 (a : Nat → Nat) (t : Nat → Nat) (en : Nat) (pa : Nat) (sg : Int32) (oq : Nat) (tu : Nat) (tb : Nat → Int32) (un : Nat) (k1 : Nat) (p1 : Nat) (rf : Int32) (fs : Nat → Int32) (bb : Nat → Nat) (htu : tu ≤ 220) (hen : en ≤ 200) (hpa : pa ≤ en) (hsg : SGb bb sg pa en) (hun : un ≤ 200) (hst : ∀ j, j < 200 → 0 ≤ fs j) (hbl : BLt bb en) (hbt : BT bb tb en) (het : en ≤ tu) (hup : un ≤ pa) (hlt : pa < en) (hdg : dgP (bb pa)) : pa ≤ en := by
  first | assumption | omega | exact Nat.one_pos | rfl | exact nu_s iu (by omega) (by assumption) rfl (by assumption) | (rw [Nat.pow_succ]; omega) | exact Or.inl ⟨by assumption, rfl⟩
theorem lf_X3_readNumber_t_67 (a : Nat → Nat) (t : Nat → Nat) (en : Nat) (pa : Nat) (sg : Int32) (oq : Nat) (tu : Nat) (tb : Nat → Int32) (un : Nat) (k1 : Nat) (p1 : Nat) (rf : Int32) (fs : Nat → Int32) (bb : Nat → Nat) (htu : tu ≤ 220) (hen : en ≤ 200) (hpa : pa ≤ en) (hsg : SGb bb sg pa en) (hun : un ≤ 200) (hst : ∀ j, j < 200 → 0 ≤ fs j) (hbl : BLt bb en) (hbt : BT bb tb en) (het : en ≤ tu) (hup : un ≤ pa) (hlt : pa < en) (hdg : dgP (bb pa)) : SGb bb sg pa en := by
  first | assumption | omega | exact Nat.one_pos | rfl | exact nu_s iu (by omega) (by assumption) rfl (by assumption) | (rw [Nat.pow_succ]; omega) | exact Or.inl ⟨by assumption, rfl⟩
theorem lf_X3_readNumber_t_68 (a : Nat → Nat) (t : Nat → Nat) (en : Nat) (pa : Nat) (sg : Int32) (oq : Nat) (tu : Nat) (tb : Nat → Int32) (un : Nat) (k1 : Nat) (p1 : Nat) (rf : Int32) (fs : Nat → Int32) (bb : Nat → Nat) (htu : tu ≤ 220) (hen : en ≤ 200) (hpa : pa ≤ en) (hsg : SGb bb sg pa en) (hun : un ≤ 200) (hst : ∀ j, j < 200 → 0 ≤ fs j) (hbl : BLt bb en) (hbt : BT bb tb en) (het : en ≤ tu) (hup : un ≤ pa) (hlt : pa < en) (hdg : dgP (bb pa)) : 0 < 10 ^ 0 := by
  first | assumption | omega | exact Nat.one_pos | rfl | exact nu_s iu (by omega) (by assumption) rfl (by assumption) | (rw [Nat.pow_succ]; omega) | exact Or.inl ⟨by assumption, rfl⟩
theorem lf_X3_readNumber_t_69 (a : Nat → Nat) (t : Nat → Nat) (en : Nat) (pa : Nat) (sg : Int32) (oq : Nat) (tu : Nat) (tb : Nat → Int32) (un : Nat) (k1 : Nat) (p1 : Nat) (rf : Int32) (fs : Nat → Int32) (bb : Nat → Nat) (htu : tu ≤ 220) (hen : en ≤ 200) (hpa : pa ≤ en) (hsg : SGb bb sg pa en) (hun : un ≤ 200) (hst : ∀ j, j < 200 → 0 ≤ fs j) (hbl : BLt bb en) (hbt : BT bb tb en) (het : en ≤ tu) (hup : un ≤ pa) (hlt : pa < en) (hdg : dgP (bb pa)) : nuP bb 5 0 pa = nuP bb (5 - 0) 0 pa := by
  first | assumption | omega | exact Nat.one_pos | rfl | exact nu_s iu (by omega) (by assumption) rfl (by assumption) | (rw [Nat.pow_succ]; omega) | exact Or.inl ⟨by assumption, rfl⟩
theorem lf_X3_readNumber_t_70 (a : Nat → Nat) (t : Nat → Nat) (en : Nat) (pa : Nat) (sg : Int32) (oq : Nat) (tu : Nat) (tb : Nat → Int32) (un : Nat) (k1 : Nat) (p1 : Nat) (rf : Int32) (fs : Nat → Int32) (bb : Nat → Nat) (htu : tu ≤ 220) (hen : en ≤ 200) (hpa : pa ≤ en) (hsg : SGb bb sg pa en) (hun : un ≤ 200) (hst : ∀ j, j < 200 → 0 ≤ fs j) (hbl : BLt bb en) (hbt : BT bb tb en) (het : en ≤ tu) (hup : un ≤ pa) (hlt : pa < en) (hdg : dgP (bb pa)) : (0 : Int32) = 0 := by
  first | assumption | omega | exact Nat.one_pos | rfl | exact nu_s iu (by omega) (by assumption) rfl (by assumption) | (rw [Nat.pow_succ]; omega) | exact Or.inl ⟨by assumption, rfl⟩
set_option maxHeartbeats 4000000 in
set_option maxRecDepth 100000 in
theorem c_X3_readNumber_t (l : Launch) (D : va_G) (cI cB cZ cJ : ClassId) (tx : List (ClassId × FieldType)) (adK adV : Nat → Nat) (a : Nat → Nat) (t : Nat → Nat) (en : Nat) (pa : Nat) (sg : Int32) (oq : Nat) (tu : Nat) (tb : Nat → Int32) (un : Nat) (k1 : Nat) (p1 : Nat) (rf : Int32) (fs : Nat → Int32) (bb : Nat → Nat) (htu : tu ≤ 220) (hen : en ≤ 200) (hpa : pa ≤ en) (hsg : SGb bb sg pa en) (hun : un ≤ 200) (hst : ∀ j, j < 200 → 0 ≤ fs j) (hbl : BLt bb en) (hbt : BT bb tb en) (het : en ≤ tu) (hup : un ≤ pa) (hlt : pa < en) (hdg : dgP (bb pa)) : WzV l D cI cB cZ cJ tx adK adV yX3_readNumber cX3_readNumber 3 none 5 0 0 [.ref (a 2)] [(a 2, .inr (3, [.ref (a 1), .ref (t 0), .int (nI en), .int (nI pa), .int sg, .int (nI oq), .int 0])), (a 1, .inr (8, [.ref (a 17), .int (nI tu)])), (a 17, .inl (cB, 220, .inl tb)), (t 0, .inr (9, [.ref (t 1), .ref (t 2), .ref (t 3), .ref (t 4), .ref (t 5), .int (nI un), .int (nI k1), .int (nI p1), .int rf])), (t 1, .inl (cI, 200, .inl fs))] (fun (v : (Nat) × (Int32) × (Int32) × (Nat) × (Nat → Int32)) => (pa ≤ v.1) ∧ (v.1 ≤ en) ∧ (SGb bb v.2.1 v.1 en) ∧ (v.2.2.2.1 ≤ 200) ∧ (∀ j, j < 200 → 0 ≤ v.2.2.2.2 j) ∧ (nuQ bb fs un pa v.2.2.2.2 v.2.2.2.1 v.1 v.2.2.1)) (fun v => [(a 2, .inr (3, [.ref (a 1), .ref (t 0), .int (nI en), .int (nI (v.1)), .int v.2.1, .int (nI oq), .int v.2.2.1])), (a 1, .inr (8, [.ref (a 17), .int (nI tu)])), (a 17, .inl (cB, 220, .inl tb)), (t 0, .inr (9, [.ref (t 1), .ref (t 2), .ref (t 3), .ref (t 4), .ref (t 5), .int (nI (v.2.2.2.1)), .int (nI k1), .int (nI p1), .int rf])), (t 1, .inl (cI, 200, .inl v.2.2.2.2))]) := by
  refine wzv_of2 (by decide +kernel) (Nat.le_of_ble_eq_true rfl) ?_
  intro p e s m below meth c A ls H locs hC hK hZ hP hD hA hS hl
  obtain ⟨hx, hb, hr, hml, hown, hts, hlocks, hin⟩ := hC
  have hown : s.vm.findClass RX3 = some m.cls := hown
  have hl : lv_has ls 3 [(0, .ref (a 2))] := hl
  refine W_gQ (fun Q hQ => ?_)
  refine lv_iconst (v := 0) hx hb dX3_readNumber_0 (by decide) ?_
  refine lv_istore_n (lv' := [(1, .int 0), (0, .ref (a 2))]) hx hb dX3_readNumber_1 rfl hl (by decide) rfl (fun ls hl => ?_)
  refine lv_iconst (v := 0) hx hb dX3_readNumber_2 (by decide) ?_
  refine lv_istore_n (lv' := [(2, .int 0), (1, .int 0), (0, .ref (a 2))]) hx hb dX3_readNumber_3 rfl hl (by decide) rfl (fun ls hl => ?_)
  have lp4 : ∀ (k4 : Nat) (j1 : Nat) (nb : Nat) (sg_j1 : Int32) (fa_j1 : Int32) (pa_j1 : Nat) (H : Heap) (locs : List Loc) (ls : Array Slot), j1 ≤ 5 → 5 < j1 + k4 → (pa ≤ pa_j1) → (pa_j1 ≤ en) → (SGb bb sg_j1 pa_j1 en) → (nb < 10 ^ j1) → (nuP bb 5 0 pa = nuP bb (5 - j1) nb pa_j1) → (fa_j1 = 0) → va_P D vwCl [(a 2, .inr (3, [.ref (a 1), .ref (t 0), .int (nI en), .int (nI pa_j1), .int sg_j1, .int (nI oq), .int fa_j1])), (a 1, .inr (8, [.ref (a 17), .int (nI tu)])), (a 17, .inl (cB, 220, .inl tb)), (t 0, .inr (9, [.ref (t 1), .ref (t 2), .ref (t 3), .ref (t 4), .ref (t 5), .int (nI un), .int (nI k1), .int (nI p1), .int rf])), (t 1, .inl (cI, 200, .inl fs))] H → va_D A [(a 2, .inr (3, [.ref (a 1), .ref (t 0), .int (nI en), .int (nI pa_j1), .int sg_j1, .int (nI oq), .int fa_j1])), (a 1, .inr (8, [.ref (a 17), .int (nI tu)])), (a 17, .inl (cB, 220, .inl tb)), (t 0, .inr (9, [.ref (t 1), .ref (t 2), .ref (t 3), .ref (t 4), .ref (t 5), .int (nI un), .int (nI k1), .int (nI p1), .int rf])), (t 1, .inl (cI, 200, .inl fs))] → va_S A s.heap H locs → lv_has ls 3 [(2, .int (nI j1)), (1, .int (nI nb)), (0, .ref (a 2))] → W p l e (rmX 5 0 0) s m ([.ref (a 2)] : List Value).toArray below meth c H locs 0 0 Q (F0 m 4 ls []) := by
    intro k4
    induction k4 with
    | zero =>
      intro j1 nb sg_j1 fa_j1 pa_j1 H locs ls hj4 hk4 i1 i2 i3 i0 iu ifz hP hD hS hl
      exact absurd hk4 (by omega)
    | succ k4 ih4 =>
      intro j1 nb sg_j1 fa_j1 pa_j1 H locs ls hj4 hk4 i1 i2 i3 i0 iu ifz hP hD hS hl
      refine lv_iload_n hx hb dX3_readNumber_4 rfl (lv_at hl 0 rfl) ?_
      refine lv_iconst (v := 5) hx hb dX3_readNumber_5 (by decide) ?_
      refine lv_icmp_ge (tgt := 41) hx hb dX3_readNumber_6 (by decide) (fun c_1 => ?_) (fun c_1 => ?_)
      · have n_2 : 5 ≤ j1 := (lf_X3_readNumber_t_3 a t en pa sg oq tu tb un k1 p1 rf fs bb htu hen hpa hsg hun hst hbl hbt het hup hlt hdg j1 nb sg_j1 fa_j1 pa_j1 k4 hj4 hk4 i1 i2 i3 i0 iu ifz c_1)
        refine lv_aload_n hx hb dX3_readNumber_41 rfl (lv_at hl 2 rfl) ?_
        refine va_ldcS hx hb hown (hZ.2.2.2.2.2.2.1) dX3_readNumber_42 ?_
        refine eRi (va_runV (As := [.ref (adK 4)]) (rest := []) ⟨hx, hb, hml, hown, hts⟩ (c_X3_isOneOf_t l D cI cB cZ cJ tx adK adV a t en pa_j1 sg_j1 fa_j1 oq bb 4 (lf_X3_readNumber_t_4 a t en pa sg oq tu tb un k1 p1 rf fs bb htu hen hpa hsg hun hst hbl hbt het hup hlt hdg j1 nb sg_j1 fa_j1 pa_j1 k4 hj4 hk4 i1 i2 i3 i0 iu ifz c_1 n_2) (lf_X3_readNumber_t_5 a t en pa sg oq tu tb un k1 p1 rf fs bb htu hen hpa hsg hun hst hbl hbt het hup hlt hdg j1 nb sg_j1 fa_j1 pa_j1 k4 hj4 hk4 i1 i2 i3 i0 iu ifz c_1 n_2) (lf_X3_readNumber_t_6 a t en pa sg oq tu tb un k1 p1 rf fs bb htu hen hpa hsg hun hst hbl hbt het hup hlt hdg j1 nb sg_j1 fa_j1 pa_j1 k4 hj4 hk4 i1 i2 i3 i0 iu ifz c_1 n_2) H.size) (zV hts k_572 v_X3_isOneOf ⟨Nat.le_of_ble_eq_true rfl, Nat.le_of_ble_eq_true rfl⟩) (pV (pz (px1 hK hP 0 rfl) hZ hS (aR hS hA)) hK hP 0 rfl rfl) rfl rfl hl.1 rfl (lv_room (Nat.le_of_ble_eq_true rfl)) dX3_readNumber_44 ⟨Nat.le_of_ble_eq_true rfl, Nat.le_of_ble_eq_true rfl⟩) hP hS hA (fun r_7 H locs wr_7 hP hS => ?_)
        rcases wr_7 with ⟨rfl, hi7⟩ | ⟨rfl, rfl, hl7, rfl, hs7⟩
        · have hd7 : fa_j1 = 0 → ¬ (dgP (bb pa_j1)) := fun q w => hi7 q ((sH_4 _ (hbl.1 _)).mpr w)
          refine lv_if_eq (tgt := 55) hx hb dX3_readNumber_47 (by decide) (fun _ => ?_) (fun c => absurd c (by decide))
          refine lv_aload_n hx hb dX3_readNumber_55 rfl (lv_at hl 2 rfl) ?_
          refine va_get (D := D) (ci := 3) (v := .ref (t 0)) (C := RX3) (T := TX3) (N := 7) hx hb hts inT_X3 hown hK.1 hP 0 rfl rfl 1 (by decide) (hts _ k_166) (fun _ h9 => h9) rfl dX3_readNumber_56 ?_
          refine lv_iconst (v := 1) hx hb dX3_readNumber_59 (by decide) ?_
          refine lv_iload_n hx hb dX3_readNumber_60 rfl (lv_at hl 1 rfl) ?_
          refine eWiP (va_runV (As := [.int 1, .int (nI nb)]) (rest := []) ⟨hx, hb, hml, hown, hts⟩ (c_X9_add_t l D cI cB cZ cJ tx t un k1 p1 rf fs 1 nb (lf_X3_readNumber_t_8 a t en pa sg oq tu tb un k1 p1 rf fs bb htu hen hpa hsg hun hst hbl hbt het hup hlt hdg j1 nb sg_j1 fa_j1 pa_j1 k4 hj4 hk4 i1 i2 i3 i0 iu ifz c_1 n_2 hi7 hd7) (lf_X3_readNumber_t_9 a t en pa sg oq tu tb un k1 p1 rf fs bb htu hen hpa hsg hun hst hbl hbt het hup hlt hdg j1 nb sg_j1 fa_j1 pa_j1 k4 hj4 hk4 i1 i2 i3 i0 iu ifz c_1 n_2 hi7 hd7) (lf_X3_readNumber_t_10 a t en pa sg oq tu tb un k1 p1 rf fs bb htu hen hpa hsg hun hst hbl hbt het hup hlt hdg j1 nb sg_j1 fa_j1 pa_j1 k4 hj4 hk4 i1 i2 i3 i0 iu ifz c_1 n_2 hi7 hd7) (lf_X3_readNumber_t_11 a t en pa sg oq tu tb un k1 p1 rf fs bb htu hen hpa hsg hun hst hbl hbt het hup hlt hdg j1 nb sg_j1 fa_j1 pa_j1 k4 hj4 hk4 i1 i2 i3 i0 iu ifz c_1 n_2 hi7 hd7) H.size) (zV hts k_697 v_X9_add ⟨Nat.le_of_ble_eq_true rfl, Nat.le_of_ble_eq_true rfl⟩) (pV (pxS hK hP hD [3, 4] (by decide) rfl) hK hP 3 rfl rfl) rfl rfl hl.1 rfl (lv_room (Nat.le_of_ble_eq_true rfl)) dX3_readNumber_61 ⟨Nat.le_of_ble_eq_true rfl, Nat.le_of_ble_eq_true rfl⟩) hP hD hS hA [3, 4] [none, none, none, some 0, some 1] rfl (by decide +kernel) (fun _ => rfl) (fun r_12 u_13 H locs wr_12 hP hD hS => ?_)
          obtain ⟨un_13, fs_13⟩ := u_13
          have hz_13_0 : un_13 ≤ 200 := wr_12.2.1
          have hz_13_1 : ∀ j, j < 200 → 0 ≤ fs_13 j := wr_12.2.2.1
          have hz_13_2 : adM (nI (16 * nb + 1)) fs un fs_13 un_13 := wr_12.2.2.2
          have hPD := pd_mk (ws := [(a 2, .inr (3, [.ref (a 1), .ref (t 0), .int (nI en), .int (nI pa_j1), .int sg_j1, .int (nI oq), .int fa_j1])), (a 1, .inr (8, [.ref (a 17), .int (nI tu)])), (a 17, .inl (cB, 220, .inl tb)), (t 0, .inr (9, [.ref (t 1), .ref (t 2), .ref (t 3), .ref (t 4), .ref (t 5), .int (nI un_13), .int (nI k1), .int (nI p1), .int rf])), (t 1, .inl (cI, 200, .inl fs_13))]) hP hD
          have hP := hPD.1
          have hD := hPD.2
          rcases wr_12 with ⟨rfl, _⟩
          · refine lv_pop hx hb dX3_readNumber_64 rfl ?_
            rw [hQ]
            exact W.vret hx hb hr (fun tt9 ht hW => ⟨⟨((pa_j1 : Nat), (sg_j1 : Int32), (fa_j1 : Int32), (un_13 : Nat), (fs_13 : Nat → Int32)), rfl, (lf_X3_readNumber_t_14 a t en pa sg oq tu tb un k1 p1 rf fs bb htu hen hpa hsg hun hst hbl hbt het hup hlt hdg j1 nb sg_j1 fa_j1 pa_j1 k4 hj4 hk4 i1 i2 i3 i0 iu ifz c_1 n_2 hi7 hd7 un_13 fs_13 hz_13_0 hz_13_1 hz_13_2), ⟨by rw [ht]; exact hP, hD⟩⟩, hS.F ht⟩) hS.2.2 dX3_readNumber_65 hlocks
        · have hb7 : (bb pa_j1) < 256 := hbl.1 _
          have hd7 : dgP (bb pa_j1) := (sH_4 _ hb7).mp hs7
          refine lv_if_eq (tgt := 55) hx hb dX3_readNumber_47 (by decide) (fun c => absurd c (by decide)) (fun _ => ?_)
          refine lv_aload_n hx hb dX3_readNumber_50 rfl (lv_at hl 2 rfl) ?_
          refine lv_iconst (v := 2) hx hb dX3_readNumber_51 (by decide) ?_
          refine eWvP (va_runV (As := [.int 2]) (rest := []) ⟨hx, hb, hml, hown, hts⟩ (c_X3_refuse_t l D cI cB cZ cJ tx a t en pa_j1 (nI (bb pa_j1)) 0 oq 2 H.size) (zV hts k_662 v_X3_refuse ⟨Nat.le_of_ble_eq_true rfl, Nat.le_of_ble_eq_true rfl⟩) (pV (pxS hK hP hD [0] (by decide) rfl) hK hP 0 rfl rfl) rfl rfl hl.1 rfl (lv_room (Nat.le_of_ble_eq_true rfl)) dX3_readNumber_52 ⟨Nat.le_of_ble_eq_true rfl, Nat.le_of_ble_eq_true rfl⟩) hP hD hS hA [0] [some 0, none, none, none, none] rfl (by decide +kernel) (fun _ => rfl) (fun u_16 H locs wr_15 hP hD hS => ?_)
          obtain ⟨fa_16, rfl⟩ : ∃ z, z = u_16 := ⟨_, rfl⟩
          have hz_16_0 : rfQ ((2 : Int32)) ((0 : Int32)) fa_16 := wr_15
          have hPD := pd_mk (ws := [(a 2, .inr (3, [.ref (a 1), .ref (t 0), .int (nI en), .int (nI pa_j1), .int (nI (bb pa_j1)), .int (nI oq), .int fa_16])), (a 1, .inr (8, [.ref (a 17), .int (nI tu)])), (a 17, .inl (cB, 220, .inl tb)), (t 0, .inr (9, [.ref (t 1), .ref (t 2), .ref (t 3), .ref (t 4), .ref (t 5), .int (nI un), .int (nI k1), .int (nI p1), .int rf])), (t 1, .inl (cI, 200, .inl fs))]) hP hD
          have hP := hPD.1
          have hD := hPD.2
          refine lv_aload_n hx hb dX3_readNumber_55 rfl (lv_at hl 2 rfl) ?_
          refine va_get (D := D) (ci := 3) (v := .ref (t 0)) (C := RX3) (T := TX3) (N := 7) hx hb hts inT_X3 hown hK.1 hP 0 rfl rfl 1 (by decide) (hts _ k_166) (fun _ h9 => h9) rfl dX3_readNumber_56 ?_
          refine lv_iconst (v := 1) hx hb dX3_readNumber_59 (by decide) ?_
          refine lv_iload_n hx hb dX3_readNumber_60 rfl (lv_at hl 1 rfl) ?_
          refine eWiP (va_runV (As := [.int 1, .int (nI nb)]) (rest := []) ⟨hx, hb, hml, hown, hts⟩ (c_X9_add_t l D cI cB cZ cJ tx t un k1 p1 rf fs 1 nb (lf_X3_readNumber_t_17 a t en pa sg oq tu tb un k1 p1 rf fs bb htu hen hpa hsg hun hst hbl hbt het hup hlt hdg j1 nb (nI (bb pa_j1)) (0) pa_j1 k4 hj4 hk4 i1 i2 i3 i0 iu ifz c_1 n_2 rfl rfl hl7 hs7 hb7 hd7 fa_16 hz_16_0) (lf_X3_readNumber_t_18 a t en pa sg oq tu tb un k1 p1 rf fs bb htu hen hpa hsg hun hst hbl hbt het hup hlt hdg j1 nb (nI (bb pa_j1)) (0) pa_j1 k4 hj4 hk4 i1 i2 i3 i0 iu ifz c_1 n_2 rfl rfl hl7 hs7 hb7 hd7 fa_16 hz_16_0) (lf_X3_readNumber_t_19 a t en pa sg oq tu tb un k1 p1 rf fs bb htu hen hpa hsg hun hst hbl hbt het hup hlt hdg j1 nb (nI (bb pa_j1)) (0) pa_j1 k4 hj4 hk4 i1 i2 i3 i0 iu ifz c_1 n_2 rfl rfl hl7 hs7 hb7 hd7 fa_16 hz_16_0) (lf_X3_readNumber_t_20 a t en pa sg oq tu tb un k1 p1 rf fs bb htu hen hpa hsg hun hst hbl hbt het hup hlt hdg j1 nb (nI (bb pa_j1)) (0) pa_j1 k4 hj4 hk4 i1 i2 i3 i0 iu ifz c_1 n_2 rfl rfl hl7 hs7 hb7 hd7 fa_16 hz_16_0) H.size) (zV hts k_697 v_X9_add ⟨Nat.le_of_ble_eq_true rfl, Nat.le_of_ble_eq_true rfl⟩) (pV (pxS hK hP hD [3, 4] (by decide) rfl) hK hP 3 rfl rfl) rfl rfl hl.1 rfl (lv_room (Nat.le_of_ble_eq_true rfl)) dX3_readNumber_61 ⟨Nat.le_of_ble_eq_true rfl, Nat.le_of_ble_eq_true rfl⟩) hP hD hS hA [3, 4] [none, none, none, some 0, some 1] rfl (by decide +kernel) (fun _ => rfl) (fun r_21 u_22 H locs wr_21 hP hD hS => ?_)
          obtain ⟨un_22, fs_22⟩ := u_22
          have hz_22_0 : un_22 ≤ 200 := wr_21.2.1
          have hz_22_1 : ∀ j, j < 200 → 0 ≤ fs_22 j := wr_21.2.2.1
          have hz_22_2 : adM (nI (16 * nb + 1)) fs un fs_22 un_22 := wr_21.2.2.2
          have hPD := pd_mk (ws := [(a 2, .inr (3, [.ref (a 1), .ref (t 0), .int (nI en), .int (nI pa_j1), .int (nI (bb pa_j1)), .int (nI oq), .int fa_16])), (a 1, .inr (8, [.ref (a 17), .int (nI tu)])), (a 17, .inl (cB, 220, .inl tb)), (t 0, .inr (9, [.ref (t 1), .ref (t 2), .ref (t 3), .ref (t 4), .ref (t 5), .int (nI un_22), .int (nI k1), .int (nI p1), .int rf])), (t 1, .inl (cI, 200, .inl fs_22))]) hP hD
          have hP := hPD.1
          have hD := hPD.2
          rcases wr_21 with ⟨rfl, _⟩
          · refine lv_pop hx hb dX3_readNumber_64 rfl ?_
            rw [hQ]
            exact W.vret hx hb hr (fun tt9 ht hW => ⟨⟨((pa_j1 : Nat), (nI (bb pa_j1) : Int32), (fa_16 : Int32), (un_22 : Nat), (fs_22 : Nat → Int32)), rfl, (lf_X3_readNumber_t_23 a t en pa sg oq tu tb un k1 p1 rf fs bb htu hen hpa hsg hun hst hbl hbt het hup hlt hdg j1 nb (nI (bb pa_j1)) (0) pa_j1 k4 hj4 hk4 i1 i2 i3 i0 iu ifz c_1 n_2 rfl rfl hl7 hs7 hb7 hd7 fa_16 hz_16_0 un_22 fs_22 hz_22_0 hz_22_1 hz_22_2), ⟨by rw [ht]; exact hP, hD⟩⟩, hS.F ht⟩) hS.2.2 dX3_readNumber_65 hlocks
      · have n_24 : j1 < 5 := (lf_X3_readNumber_t_25 a t en pa sg oq tu tb un k1 p1 rf fs bb htu hen hpa hsg hun hst hbl hbt het hup hlt hdg j1 nb sg_j1 fa_j1 pa_j1 k4 hj4 hk4 i1 i2 i3 i0 iu ifz c_1)
        refine lv_aload_n hx hb dX3_readNumber_9 rfl (lv_at hl 2 rfl) ?_
        refine va_ldcS hx hb hown (hZ.2.2.2.2.2.2.1) dX3_readNumber_10 ?_
        refine eRi (va_runV (As := [.ref (adK 4)]) (rest := []) ⟨hx, hb, hml, hown, hts⟩ (c_X3_isOneOf_t l D cI cB cZ cJ tx adK adV a t en pa_j1 sg_j1 fa_j1 oq bb 4 (lf_X3_readNumber_t_26 a t en pa sg oq tu tb un k1 p1 rf fs bb htu hen hpa hsg hun hst hbl hbt het hup hlt hdg j1 nb sg_j1 fa_j1 pa_j1 k4 hj4 hk4 i1 i2 i3 i0 iu ifz c_1 n_24) (lf_X3_readNumber_t_27 a t en pa sg oq tu tb un k1 p1 rf fs bb htu hen hpa hsg hun hst hbl hbt het hup hlt hdg j1 nb sg_j1 fa_j1 pa_j1 k4 hj4 hk4 i1 i2 i3 i0 iu ifz c_1 n_24) (lf_X3_readNumber_t_28 a t en pa sg oq tu tb un k1 p1 rf fs bb htu hen hpa hsg hun hst hbl hbt het hup hlt hdg j1 nb sg_j1 fa_j1 pa_j1 k4 hj4 hk4 i1 i2 i3 i0 iu ifz c_1 n_24) H.size) (zV hts k_572 v_X3_isOneOf ⟨Nat.le_of_ble_eq_true rfl, Nat.le_of_ble_eq_true rfl⟩) (pV (pz (px1 hK hP 0 rfl) hZ hS (aR hS hA)) hK hP 0 rfl rfl) rfl rfl hl.1 rfl (lv_room (Nat.le_of_ble_eq_true rfl)) dX3_readNumber_12 ⟨Nat.le_of_ble_eq_true rfl, Nat.le_of_ble_eq_true rfl⟩) hP hS hA (fun r_29 H locs wr_29 hP hS => ?_)
        rcases wr_29 with ⟨rfl, hi29⟩ | ⟨rfl, rfl, hl29, rfl, hs29⟩
        · have hd29 : fa_j1 = 0 → ¬ (dgP (bb pa_j1)) := fun q w => hi29 q ((sH_4 _ (hbl.1 _)).mpr w)
          refine lv_if_eq (tgt := 41) hx hb dX3_readNumber_15 (by decide) (fun _ => ?_) (fun c => absurd c (by decide))
          refine lv_aload_n hx hb dX3_readNumber_41 rfl (lv_at hl 2 rfl) ?_
          refine va_ldcS hx hb hown (hZ.2.2.2.2.2.2.1) dX3_readNumber_42 ?_
          refine eRi (va_runV (As := [.ref (adK 4)]) (rest := []) ⟨hx, hb, hml, hown, hts⟩ (c_X3_isOneOf_t l D cI cB cZ cJ tx adK adV a t en pa_j1 sg_j1 fa_j1 oq bb 4 (lf_X3_readNumber_t_30 a t en pa sg oq tu tb un k1 p1 rf fs bb htu hen hpa hsg hun hst hbl hbt het hup hlt hdg j1 nb sg_j1 fa_j1 pa_j1 k4 hj4 hk4 i1 i2 i3 i0 iu ifz c_1 n_24 hi29 hd29) (lf_X3_readNumber_t_31 a t en pa sg oq tu tb un k1 p1 rf fs bb htu hen hpa hsg hun hst hbl hbt het hup hlt hdg j1 nb sg_j1 fa_j1 pa_j1 k4 hj4 hk4 i1 i2 i3 i0 iu ifz c_1 n_24 hi29 hd29) (lf_X3_readNumber_t_32 a t en pa sg oq tu tb un k1 p1 rf fs bb htu hen hpa hsg hun hst hbl hbt het hup hlt hdg j1 nb sg_j1 fa_j1 pa_j1 k4 hj4 hk4 i1 i2 i3 i0 iu ifz c_1 n_24 hi29 hd29) H.size) (zV hts k_572 v_X3_isOneOf ⟨Nat.le_of_ble_eq_true rfl, Nat.le_of_ble_eq_true rfl⟩) (pV (pz (px1 hK hP 0 rfl) hZ hS (aR hS hA)) hK hP 0 rfl rfl) rfl rfl hl.1 rfl (lv_room (Nat.le_of_ble_eq_true rfl)) dX3_readNumber_44 ⟨Nat.le_of_ble_eq_true rfl, Nat.le_of_ble_eq_true rfl⟩) hP hS hA (fun r_33 H locs wr_33 hP hS => ?_)
          rcases wr_33 with ⟨rfl, hi33⟩ | ⟨rfl, rfl, hl33, rfl, hs33⟩
          · have hd33 : fa_j1 = 0 → ¬ (dgP (bb pa_j1)) := fun q w => hi33 q ((sH_4 _ (hbl.1 _)).mpr w)
            refine lv_if_eq (tgt := 55) hx hb dX3_readNumber_47 (by decide) (fun _ => ?_) (fun c => absurd c (by decide))
            refine lv_aload_n hx hb dX3_readNumber_55 rfl (lv_at hl 2 rfl) ?_
            refine va_get (D := D) (ci := 3) (v := .ref (t 0)) (C := RX3) (T := TX3) (N := 7) hx hb hts inT_X3 hown hK.1 hP 0 rfl rfl 1 (by decide) (hts _ k_166) (fun _ h9 => h9) rfl dX3_readNumber_56 ?_
            refine lv_iconst (v := 1) hx hb dX3_readNumber_59 (by decide) ?_
            refine lv_iload_n hx hb dX3_readNumber_60 rfl (lv_at hl 1 rfl) ?_
            refine eWiP (va_runV (As := [.int 1, .int (nI nb)]) (rest := []) ⟨hx, hb, hml, hown, hts⟩ (c_X9_add_t l D cI cB cZ cJ tx t un k1 p1 rf fs 1 nb (lf_X3_readNumber_t_34 a t en pa sg oq tu tb un k1 p1 rf fs bb htu hen hpa hsg hun hst hbl hbt het hup hlt hdg j1 nb sg_j1 fa_j1 pa_j1 k4 hj4 hk4 i1 i2 i3 i0 iu ifz c_1 n_24 hi29 hd29 hi33 hd33) (lf_X3_readNumber_t_35 a t en pa sg oq tu tb un k1 p1 rf fs bb htu hen hpa hsg hun hst hbl hbt het hup hlt hdg j1 nb sg_j1 fa_j1 pa_j1 k4 hj4 hk4 i1 i2 i3 i0 iu ifz c_1 n_24 hi29 hd29 hi33 hd33) (lf_X3_readNumber_t_36 a t en pa sg oq tu tb un k1 p1 rf fs bb htu hen hpa hsg hun hst hbl hbt het hup hlt hdg j1 nb sg_j1 fa_j1 pa_j1 k4 hj4 hk4 i1 i2 i3 i0 iu ifz c_1 n_24 hi29 hd29 hi33 hd33) (lf_X3_readNumber_t_37 a t en pa sg oq tu tb un k1 p1 rf fs bb htu hen hpa hsg hun hst hbl hbt het hup hlt hdg j1 nb sg_j1 fa_j1 pa_j1 k4 hj4 hk4 i1 i2 i3 i0 iu ifz c_1 n_24 hi29 hd29 hi33 hd33) H.size) (zV hts k_697 v_X9_add ⟨Nat.le_of_ble_eq_true rfl, Nat.le_of_ble_eq_true rfl⟩) (pV (pxS hK hP hD [3, 4] (by decide) rfl) hK hP 3 rfl rfl) rfl rfl hl.1 rfl (lv_room (Nat.le_of_ble_eq_true rfl)) dX3_readNumber_61 ⟨Nat.le_of_ble_eq_true rfl, Nat.le_of_ble_eq_true rfl⟩) hP hD hS hA [3, 4] [none, none, none, some 0, some 1] rfl (by decide +kernel) (fun _ => rfl) (fun r_38 u_39 H locs wr_38 hP hD hS => ?_)
            obtain ⟨un_39, fs_39⟩ := u_39
            have hz_39_0 : un_39 ≤ 200 := wr_38.2.1
            have hz_39_1 : ∀ j, j < 200 → 0 ≤ fs_39 j := wr_38.2.2.1
            have hz_39_2 : adM (nI (16 * nb + 1)) fs un fs_39 un_39 := wr_38.2.2.2
            have hPD := pd_mk (ws := [(a 2, .inr (3, [.ref (a 1), .ref (t 0), .int (nI en), .int (nI pa_j1), .int sg_j1, .int (nI oq), .int fa_j1])), (a 1, .inr (8, [.ref (a 17), .int (nI tu)])), (a 17, .inl (cB, 220, .inl tb)), (t 0, .inr (9, [.ref (t 1), .ref (t 2), .ref (t 3), .ref (t 4), .ref (t 5), .int (nI un_39), .int (nI k1), .int (nI p1), .int rf])), (t 1, .inl (cI, 200, .inl fs_39))]) hP hD
            have hP := hPD.1
            have hD := hPD.2
            rcases wr_38 with ⟨rfl, _⟩
            · refine lv_pop hx hb dX3_readNumber_64 rfl ?_
              rw [hQ]
              exact W.vret hx hb hr (fun tt9 ht hW => ⟨⟨((pa_j1 : Nat), (sg_j1 : Int32), (fa_j1 : Int32), (un_39 : Nat), (fs_39 : Nat → Int32)), rfl, (lf_X3_readNumber_t_40 a t en pa sg oq tu tb un k1 p1 rf fs bb htu hen hpa hsg hun hst hbl hbt het hup hlt hdg j1 nb sg_j1 fa_j1 pa_j1 k4 hj4 hk4 i1 i2 i3 i0 iu ifz c_1 n_24 hi29 hd29 hi33 hd33 un_39 fs_39 hz_39_0 hz_39_1 hz_39_2), ⟨by rw [ht]; exact hP, hD⟩⟩, hS.F ht⟩) hS.2.2 dX3_readNumber_65 hlocks
          · have hb33 : (bb pa_j1) < 256 := hbl.1 _
            have hd33 : dgP (bb pa_j1) := (sH_4 _ hb33).mp hs33
            refine lv_if_eq (tgt := 55) hx hb dX3_readNumber_47 (by decide) (fun c => absurd c (by decide)) (fun _ => ?_)
            refine lv_aload_n hx hb dX3_readNumber_50 rfl (lv_at hl 2 rfl) ?_
            refine lv_iconst (v := 2) hx hb dX3_readNumber_51 (by decide) ?_
            refine eWvP (va_runV (As := [.int 2]) (rest := []) ⟨hx, hb, hml, hown, hts⟩ (c_X3_refuse_t l D cI cB cZ cJ tx a t en pa_j1 (nI (bb pa_j1)) 0 oq 2 H.size) (zV hts k_662 v_X3_refuse ⟨Nat.le_of_ble_eq_true rfl, Nat.le_of_ble_eq_true rfl⟩) (pV (pxS hK hP hD [0] (by decide) rfl) hK hP 0 rfl rfl) rfl rfl hl.1 rfl (lv_room (Nat.le_of_ble_eq_true rfl)) dX3_readNumber_52 ⟨Nat.le_of_ble_eq_true rfl, Nat.le_of_ble_eq_true rfl⟩) hP hD hS hA [0] [some 0, none, none, none, none] rfl (by decide +kernel) (fun _ => rfl) (fun u_42 H locs wr_41 hP hD hS => ?_)
            obtain ⟨fa_42, rfl⟩ : ∃ z, z = u_42 := ⟨_, rfl⟩
            have hz_42_0 : rfQ ((2 : Int32)) ((0 : Int32)) fa_42 := wr_41
            have hPD := pd_mk (ws := [(a 2, .inr (3, [.ref (a 1), .ref (t 0), .int (nI en), .int (nI pa_j1), .int (nI (bb pa_j1)), .int (nI oq), .int fa_42])), (a 1, .inr (8, [.ref (a 17), .int (nI tu)])), (a 17, .inl (cB, 220, .inl tb)), (t 0, .inr (9, [.ref (t 1), .ref (t 2), .ref (t 3), .ref (t 4), .ref (t 5), .int (nI un), .int (nI k1), .int (nI p1), .int rf])), (t 1, .inl (cI, 200, .inl fs))]) hP hD
            have hP := hPD.1
            have hD := hPD.2
            refine lv_aload_n hx hb dX3_readNumber_55 rfl (lv_at hl 2 rfl) ?_
            refine va_get (D := D) (ci := 3) (v := .ref (t 0)) (C := RX3) (T := TX3) (N := 7) hx hb hts inT_X3 hown hK.1 hP 0 rfl rfl 1 (by decide) (hts _ k_166) (fun _ h9 => h9) rfl dX3_readNumber_56 ?_
            refine lv_iconst (v := 1) hx hb dX3_readNumber_59 (by decide) ?_
            refine lv_iload_n hx hb dX3_readNumber_60 rfl (lv_at hl 1 rfl) ?_
            refine eWiP (va_runV (As := [.int 1, .int (nI nb)]) (rest := []) ⟨hx, hb, hml, hown, hts⟩ (c_X9_add_t l D cI cB cZ cJ tx t un k1 p1 rf fs 1 nb (lf_X3_readNumber_t_43 a t en pa sg oq tu tb un k1 p1 rf fs bb htu hen hpa hsg hun hst hbl hbt het hup hlt hdg j1 nb (nI (bb pa_j1)) (0) pa_j1 k4 hj4 hk4 i1 i2 i3 i0 iu ifz c_1 n_24 hi29 hd29 rfl rfl hl33 hs33 hb33 hd33 fa_42 hz_42_0) (lf_X3_readNumber_t_44 a t en pa sg oq tu tb un k1 p1 rf fs bb htu hen hpa hsg hun hst hbl hbt het hup hlt hdg j1 nb (nI (bb pa_j1)) (0) pa_j1 k4 hj4 hk4 i1 i2 i3 i0 iu ifz c_1 n_24 hi29 hd29 rfl rfl hl33 hs33 hb33 hd33 fa_42 hz_42_0) (lf_X3_readNumber_t_45 a t en pa sg oq tu tb un k1 p1 rf fs bb htu hen hpa hsg hun hst hbl hbt het hup hlt hdg j1 nb (nI (bb pa_j1)) (0) pa_j1 k4 hj4 hk4 i1 i2 i3 i0 iu ifz c_1 n_24 hi29 hd29 rfl rfl hl33 hs33 hb33 hd33 fa_42 hz_42_0) (lf_X3_readNumber_t_46 a t en pa sg oq tu tb un k1 p1 rf fs bb htu hen hpa hsg hun hst hbl hbt het hup hlt hdg j1 nb (nI (bb pa_j1)) (0) pa_j1 k4 hj4 hk4 i1 i2 i3 i0 iu ifz c_1 n_24 hi29 hd29 rfl rfl hl33 hs33 hb33 hd33 fa_42 hz_42_0) H.size) (zV hts k_697 v_X9_add ⟨Nat.le_of_ble_eq_true rfl, Nat.le_of_ble_eq_true rfl⟩) (pV (pxS hK hP hD [3, 4] (by decide) rfl) hK hP 3 rfl rfl) rfl rfl hl.1 rfl (lv_room (Nat.le_of_ble_eq_true rfl)) dX3_readNumber_61 ⟨Nat.le_of_ble_eq_true rfl, Nat.le_of_ble_eq_true rfl⟩) hP hD hS hA [3, 4] [none, none, none, some 0, some 1] rfl (by decide +kernel) (fun _ => rfl) (fun r_47 u_48 H locs wr_47 hP hD hS => ?_)
            obtain ⟨un_48, fs_48⟩ := u_48
            have hz_48_0 : un_48 ≤ 200 := wr_47.2.1
            have hz_48_1 : ∀ j, j < 200 → 0 ≤ fs_48 j := wr_47.2.2.1
            have hz_48_2 : adM (nI (16 * nb + 1)) fs un fs_48 un_48 := wr_47.2.2.2
            have hPD := pd_mk (ws := [(a 2, .inr (3, [.ref (a 1), .ref (t 0), .int (nI en), .int (nI pa_j1), .int (nI (bb pa_j1)), .int (nI oq), .int fa_42])), (a 1, .inr (8, [.ref (a 17), .int (nI tu)])), (a 17, .inl (cB, 220, .inl tb)), (t 0, .inr (9, [.ref (t 1), .ref (t 2), .ref (t 3), .ref (t 4), .ref (t 5), .int (nI un_48), .int (nI k1), .int (nI p1), .int rf])), (t 1, .inl (cI, 200, .inl fs_48))]) hP hD
            have hP := hPD.1
            have hD := hPD.2
            rcases wr_47 with ⟨rfl, _⟩
            · refine lv_pop hx hb dX3_readNumber_64 rfl ?_
              rw [hQ]
              exact W.vret hx hb hr (fun tt9 ht hW => ⟨⟨((pa_j1 : Nat), (nI (bb pa_j1) : Int32), (fa_42 : Int32), (un_48 : Nat), (fs_48 : Nat → Int32)), rfl, (lf_X3_readNumber_t_49 a t en pa sg oq tu tb un k1 p1 rf fs bb htu hen hpa hsg hun hst hbl hbt het hup hlt hdg j1 nb (nI (bb pa_j1)) (0) pa_j1 k4 hj4 hk4 i1 i2 i3 i0 iu ifz c_1 n_24 hi29 hd29 rfl rfl hl33 hs33 hb33 hd33 fa_42 hz_42_0 un_48 fs_48 hz_48_0 hz_48_1 hz_48_2), ⟨by rw [ht]; exact hP, hD⟩⟩, hS.F ht⟩) hS.2.2 dX3_readNumber_65 hlocks
        · have hb29 : (bb pa_j1) < 256 := hbl.1 _
          have hd29 : dgP (bb pa_j1) := (sH_4 _ hb29).mp hs29
          refine lv_if_eq (tgt := 41) hx hb dX3_readNumber_15 (by decide) (fun c => absurd c (by decide)) (fun _ => ?_)
          refine lv_iload_n hx hb dX3_readNumber_18 rfl (lv_at hl 1 rfl) ?_
          refine lv_bipush (v := 10) hx hb dX3_readNumber_19 (by decide) ?_
          refine lv_imul hx hb dX3_readNumber_21 ?_
          refine lv_topv (y := nI (nb * 10)) (pk_mul nb 10) ?_
          refine lv_aload_n hx hb dX3_readNumber_22 rfl (lv_at hl 2 rfl) ?_
          refine va_get (D := D) (ci := 3) (v := .int (nI (bb pa_j1))) (C := RX3) (T := TX3) (N := 7) hx hb hts inT_X3 hown hK.1 hP 0 rfl rfl 4 (by decide) (hts _ k_169) (fun _ h9 => h9) rfl dX3_readNumber_23 ?_
          refine lv_iadd hx hb dX3_readNumber_26 ?_
          refine lv_topv (y := nI ((nb * 10) + (bb pa_j1))) (nI_add (nb * 10) (bb pa_j1)) ?_
          refine lv_bipush (v := 48) hx hb dX3_readNumber_27 (by decide) ?_
          refine lv_isub hx hb dX3_readNumber_29 ?_
          refine lv_topv (y := nI (((nb * 10) + (bb pa_j1)) - 48)) (pk_sub (lf_X3_readNumber_t_50 a t en pa sg oq tu tb un k1 p1 rf fs bb htu hen hpa hsg hun hst hbl hbt het hup hlt hdg j1 nb (nI (bb pa_j1)) (0) pa_j1 k4 hj4 hk4 i1 i2 i3 i0 iu ifz c_1 n_24 rfl rfl hl29 hs29 hb29 hd29)) ?_
          refine lv_istore_n (lv' := [(1, .int (nI (((nb * 10) + (bb pa_j1)) - 48))), (2, .int (nI j1)), (0, .ref (a 2))]) hx hb dX3_readNumber_30 rfl hl (by decide) rfl (fun ls hl => ?_)
          refine lv_aload_n hx hb dX3_readNumber_31 rfl (lv_at hl 2 rfl) ?_
          refine eWvP (va_runV (As := []) (rest := []) ⟨hx, hb, hml, hown, hts⟩ (c_X3_advance_t l D cI cB cZ cJ tx a t en pa_j1 (nI (bb pa_j1)) 0 oq tu tb bb (lf_X3_readNumber_t_51 a t en pa sg oq tu tb un k1 p1 rf fs bb htu hen hpa hsg hun hst hbl hbt het hup hlt hdg j1 nb (nI (bb pa_j1)) (0) pa_j1 k4 hj4 hk4 i1 i2 i3 i0 iu ifz c_1 n_24 rfl rfl hl29 hs29 hb29 hd29) (lf_X3_readNumber_t_52 a t en pa sg oq tu tb un k1 p1 rf fs bb htu hen hpa hsg hun hst hbl hbt het hup hlt hdg j1 nb (nI (bb pa_j1)) (0) pa_j1 k4 hj4 hk4 i1 i2 i3 i0 iu ifz c_1 n_24 rfl rfl hl29 hs29 hb29 hd29) (lf_X3_readNumber_t_53 a t en pa sg oq tu tb un k1 p1 rf fs bb htu hen hpa hsg hun hst hbl hbt het hup hlt hdg j1 nb (nI (bb pa_j1)) (0) pa_j1 k4 hj4 hk4 i1 i2 i3 i0 iu ifz c_1 n_24 rfl rfl hl29 hs29 hb29 hd29) (lf_X3_readNumber_t_54 a t en pa sg oq tu tb un k1 p1 rf fs bb htu hen hpa hsg hun hst hbl hbt het hup hlt hdg j1 nb (nI (bb pa_j1)) (0) pa_j1 k4 hj4 hk4 i1 i2 i3 i0 iu ifz c_1 n_24 rfl rfl hl29 hs29 hb29 hd29) (lf_X3_readNumber_t_55 a t en pa sg oq tu tb un k1 p1 rf fs bb htu hen hpa hsg hun hst hbl hbt het hup hlt hdg j1 nb (nI (bb pa_j1)) (0) pa_j1 k4 hj4 hk4 i1 i2 i3 i0 iu ifz c_1 n_24 rfl rfl hl29 hs29 hb29 hd29) (lf_X3_readNumber_t_56 a t en pa sg oq tu tb un k1 p1 rf fs bb htu hen hpa hsg hun hst hbl hbt het hup hlt hdg j1 nb (nI (bb pa_j1)) (0) pa_j1 k4 hj4 hk4 i1 i2 i3 i0 iu ifz c_1 n_24 rfl rfl hl29 hs29 hb29 hd29) H.size) (zV hts k_670 v_X3_advance ⟨Nat.le_of_ble_eq_true rfl, Nat.le_of_ble_eq_true rfl⟩) (pV (pxS hK hP hD [0, 1, 2] (by decide) rfl) hK hP 0 rfl rfl) rfl rfl hl.1 rfl (lv_room (Nat.le_of_ble_eq_true rfl)) dX3_readNumber_32 ⟨Nat.le_of_ble_eq_true rfl, Nat.le_of_ble_eq_true rfl⟩) hP hD hS hA [0, 1, 2] [some 0, some 1, some 2, none, none] rfl (by decide +kernel) (fun _ => rfl) (fun u_58 H locs wr_57 hP hD hS => ?_)
          obtain ⟨pa_58, sg_58⟩ := u_58
          have hz_58_0 : pa_58 = pa_j1 + 1 := wr_57.1
          have hz_58_1 : pa_58 ≤ en := wr_57.2.1
          have hz_58_2 : SGb bb sg_58 pa_58 en := wr_57.2.2
          have hPD := pd_mk (ws := [(a 2, .inr (3, [.ref (a 1), .ref (t 0), .int (nI en), .int (nI pa_58), .int sg_58, .int (nI oq), .int 0])), (a 1, .inr (8, [.ref (a 17), .int (nI tu)])), (a 17, .inl (cB, 220, .inl tb)), (t 0, .inr (9, [.ref (t 1), .ref (t 2), .ref (t 3), .ref (t 4), .ref (t 5), .int (nI un), .int (nI k1), .int (nI p1), .int rf])), (t 1, .inl (cI, 200, .inl fs))]) hP hD
          have hP := hPD.1
          have hD := hPD.2
          refine lv_iinc (v := nI (j1 + 1)) (lv' := [(2, .int (nI (j1 + 1))), (1, .int (nI (((nb * 10) + (bb pa_j1)) - 48))), (0, .ref (a 2))]) hx hb dX3_readNumber_35 hl (k := 1) rfl (nI_1 j1) (by decide) rfl (fun ls hl => ?_)
          refine lv_goto (tgt := 4) hx hb dX3_readNumber_38 (by decide) ?_
          exact ih4 (j1 + 1) (((nb * 10) + (bb pa_j1)) - 48) sg_58 0 pa_58 H locs ls (by omega) (by omega) (lf_X3_readNumber_t_59 a t en pa sg oq tu tb un k1 p1 rf fs bb htu hen hpa hsg hun hst hbl hbt het hup hlt hdg j1 nb (nI (bb pa_j1)) (0) pa_j1 k4 hj4 hk4 i1 i2 i3 i0 iu ifz c_1 n_24 rfl rfl hl29 hs29 hb29 hd29 pa_58 sg_58 hz_58_0 hz_58_1 hz_58_2) (lf_X3_readNumber_t_60 a t en pa sg oq tu tb un k1 p1 rf fs bb htu hen hpa hsg hun hst hbl hbt het hup hlt hdg j1 nb (nI (bb pa_j1)) (0) pa_j1 k4 hj4 hk4 i1 i2 i3 i0 iu ifz c_1 n_24 rfl rfl hl29 hs29 hb29 hd29 pa_58 sg_58 hz_58_0 hz_58_1 hz_58_2) (lf_X3_readNumber_t_61 a t en pa sg oq tu tb un k1 p1 rf fs bb htu hen hpa hsg hun hst hbl hbt het hup hlt hdg j1 nb (nI (bb pa_j1)) (0) pa_j1 k4 hj4 hk4 i1 i2 i3 i0 iu ifz c_1 n_24 rfl rfl hl29 hs29 hb29 hd29 pa_58 sg_58 hz_58_0 hz_58_1 hz_58_2) (lf_X3_readNumber_t_62 a t en pa sg oq tu tb un k1 p1 rf fs bb htu hen hpa hsg hun hst hbl hbt het hup hlt hdg j1 nb (nI (bb pa_j1)) (0) pa_j1 k4 hj4 hk4 i1 i2 i3 i0 iu ifz c_1 n_24 rfl rfl hl29 hs29 hb29 hd29 pa_58 sg_58 hz_58_0 hz_58_1 hz_58_2) (lf_X3_readNumber_t_63 a t en pa sg oq tu tb un k1 p1 rf fs bb htu hen hpa hsg hun hst hbl hbt het hup hlt hdg j1 nb (nI (bb pa_j1)) (0) pa_j1 k4 hj4 hk4 i1 i2 i3 i0 iu ifz c_1 n_24 rfl rfl hl29 hs29 hb29 hd29 pa_58 sg_58 hz_58_0 hz_58_1 hz_58_2) (lf_X3_readNumber_t_64 a t en pa sg oq tu tb un k1 p1 rf fs bb htu hen hpa hsg hun hst hbl hbt het hup hlt hdg j1 nb (nI (bb pa_j1)) (0) pa_j1 k4 hj4 hk4 i1 i2 i3 i0 iu ifz c_1 n_24 rfl rfl hl29 hs29 hb29 hd29 pa_58 sg_58 hz_58_0 hz_58_1 hz_58_2) (hP.sub [0, 1, 2, 3, 4] rfl) (hD.sub [0, 1, 2, 3, 4] (by decide) rfl) hS (lv_sub hl [0, 1, 2] rfl)
  exact lp4 (5 + 1) 0 0 sg 0 pa H locs ls (by omega) (by omega) (lf_X3_readNumber_t_65 a t en pa sg oq tu tb un k1 p1 rf fs bb htu hen hpa hsg hun hst hbl hbt het hup hlt hdg) (lf_X3_readNumber_t_66 a t en pa sg oq tu tb un k1 p1 rf fs bb htu hen hpa hsg hun hst hbl hbt het hup hlt hdg) (lf_X3_readNumber_t_67 a t en pa sg oq tu tb un k1 p1 rf fs bb htu hen hpa hsg hun hst hbl hbt het hup hlt hdg) (lf_X3_readNumber_t_68 a t en pa sg oq tu tb un k1 p1 rf fs bb htu hen hpa hsg hun hst hbl hbt het hup hlt hdg) (lf_X3_readNumber_t_69 a t en pa sg oq tu tb un k1 p1 rf fs bb htu hen hpa hsg hun hst hbl hbt het hup hlt hdg) (lf_X3_readNumber_t_70 a t en pa sg oq tu tb un k1 p1 rf fs bb htu hen hpa hsg hun hst hbl hbt het hup hlt hdg) (hP.sub [0, 1, 2, 3, 4] rfl) (hD.sub [0, 1, 2, 3, 4] (by decide) rfl) hS (lv_sub hl [0, 1, 2] rfl)
