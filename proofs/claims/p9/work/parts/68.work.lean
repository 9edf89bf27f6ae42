/-! the kept texts at work -/
theorem stp_big {x : Int32} {m n : Nat} (h : stp x m n) (c : ¬ x ≤ 2) : 2 ≤ m ∧ n + 1 = m := by
  rcases h with ⟨_, h1, h2⟩ | ⟨h1, _⟩ | ⟨h1 | h1, _⟩
  · exact ⟨h1, h2⟩
  · rw [h1] at c; exact absurd (by decide) c
  · rw [h1] at c; exact absurd (by decide) c
  · rw [h1] at c; exact absurd (by decide) c
theorem stp_not {x : Int32} {m n : Nat} (h : stp x m n) (c : x = 2) : 1 ≤ m ∧ n = m := by
  rcases h with ⟨h1, _⟩ | ⟨_, h1, h2⟩ | ⟨h1 | h1, _⟩
  · rw [c] at h1; exact absurd h1 (by decide)
  · exact ⟨h1, h2⟩
  · rw [c] at h1; exact absurd h1 (by decide)
  · rw [c] at h1; exact absurd h1 (by decide)
theorem stp_psh {x : Int32} {m n : Nat} (h : stp x m n) (c : x ≤ 2) (c2 : ¬ x = 2) : n = m + 1 := by
  rcases h with ⟨h1, _⟩ | ⟨h1, _⟩ | ⟨_, h1⟩
  · exact absurd h1 (Int32.not_lt.mpr c)
  · exact absurd h1 c2
  · exact h1
theorem DP.zero {c : Nat → Int32} {a : Nat} : DP c a (a - a) 0 := by rw [Nat.sub_self]; rfl
theorem in3_of {r : Int32} (h : r = 0 ∨ (-3000 ≤ r ∧ r ≤ 3000)) : in3 r := by
  unfold in3
  rcases h with rfl | ⟨h1, h2⟩
  · decide
  · have a1 := Int32.le_iff_toInt_le.mp h1
    have a2 := Int32.le_iff_toInt_le.mp h2
    have z1 : (-3000 : Int32).toInt = -3000 := by decide
    have z2 : (3000 : Int32).toInt = 3000 := by decide
    omega
theorem in3_upd {f g : Nat → Int32} {k : Nat} {x : Int32} (h : ∀ p, in3 (f p)) (e : g = upd f k x) (hx : in3 x) : ∀ p, in3 (g p) := by
  intro p
  rw [e]
  show in3 (if p = k then x else f p)
  split
  · exact hx
  · exact h p
theorem held_end {v r : Int32} (h : (r = -3000) ∨ (r = 3000) ∨ (r = v ∧ ¬ v < -3000 ∧ ¬ 3000 < v)) : in3 r := by
  refine in3_of (Or.inr ?_)
  rcases h with rfl | rfl | ⟨rfl, h1, h2⟩
  · decide
  · decide
  · exact ⟨Int32.not_lt.mp h1, Int32.not_lt.mp h2⟩
theorem bz_step {g g1 : Nat → Nat} {ms mk X x : Nat} (h : ∀ y, y < X → inR ms mk y = true → g y = 0) (e : g1 = updN g x 0) (hx : x + 1 = X ∨ x = X) : ∀ y, y < x + 1 → inR ms mk y = true → g1 y = 0 := by
  intro y hy hr
  rw [e]
  show (if y = x then 0 else g y) = 0
  split
  · rfl
  · exact h y (by omega) hr
theorem bz_row {g : Nat → Nat} {ms mk f X : Nat} (h : ∀ y, y < X → inR ms mk y = true → g y = 0) (hX : 16 * f + 2 * mk ≤ X) (hk : mk ≤ 8) : ∀ y, y < 16 * (f + 1) → inR ms mk y = true → g y = 0 := by
  intro y hy hr
  by_cases q : y < X
  · exact h y q hr
  · unfold inR at hr
    rw [Bool.and_eq_true] at hr
    have h2 := of_decide_eq_true hr.2
    omega
theorem bz_mono {g : Nat → Nat} {ms mk X Y : Nat} (h : ∀ y, y < X → inR ms mk y = true → g y = 0) (hX : Y ≤ X) : ∀ y, y < Y → inR ms mk y = true → g y = 0 := fun y hy hr => h y (by omega) hr
theorem bz_all {g : Nat → Nat} {ms mk X : Nat} (h : ∀ y, y < X → inR ms mk y = true → g y = 0) (hX : 16 * ms ≤ X) : 0 = cN g ms mk 384 := by
  refine (cN_zero (fun x hx => ?_) 384).symm
  refine h x ?_ hx
  unfold inR at hx
  rw [Bool.and_eq_true] at hx
  have h1 := of_decide_eq_true hx.1
  omega
theorem lf_X12_valueOf_25 (h : Nat) (q : Nat → Nat) (im : Nat → Int32) (n1 : Int32) (c_1 : ¬ n1 = 99) (c_2 : ¬ n1 = 100) (c_3 : ¬ n1 = 101) (c_4 : ¬ n1 = 102) (c_5 : ¬ n1 = 103) (c_6 : ¬ n1 = 104) (c_7 : ¬ n1 = 105) (c_8 : ¬ n1 = 106) (c_9 : ¬ n1 = 107) (c_10 : ¬ n1 = 108) (c_11 : ¬ n1 = 109) (c_12 : ¬ n1 = 110) (c_13 : ¬ n1 = 111) (c_14 : ¬ n1 = 112) (c_15 : ¬ n1 = 113) (c_16 : ¬ n1 = 114) (c_17 : ¬ n1 = 115) (c_18 : ¬ n1 = 116) (c_19 : ¬ n1 = 117) (c_20 : ¬ n1 = 118) (c_21 : ¬ n1 = 119) (c_22 : ¬ n1 = 120) (c_23 : ¬ n1 = 121) (c_24 : ¬ n1 = 122) : n1.toInt < 99 ∨ 122 < n1.toInt := by
  have e : ∀ k : Int32, ¬ n1 = k → n1.toInt ≠ k.toInt := fun k h q => h (Int32.toInt_inj.mp q)
  have e99 := e 99 ‹¬ n1 = 99›
  have z99 : (99 : Int32).toInt = 99 := by decide
  have e100 := e 100 ‹¬ n1 = 100›
  have z100 : (100 : Int32).toInt = 100 := by decide
  have e101 := e 101 ‹¬ n1 = 101›
  have z101 : (101 : Int32).toInt = 101 := by decide
  have e102 := e 102 ‹¬ n1 = 102›
  have z102 : (102 : Int32).toInt = 102 := by decide
  have e103 := e 103 ‹¬ n1 = 103›
  have z103 : (103 : Int32).toInt = 103 := by decide
  have e104 := e 104 ‹¬ n1 = 104›
  have z104 : (104 : Int32).toInt = 104 := by decide
  have e105 := e 105 ‹¬ n1 = 105›
  have z105 : (105 : Int32).toInt = 105 := by decide
  have e106 := e 106 ‹¬ n1 = 106›
  have z106 : (106 : Int32).toInt = 106 := by decide
  have e107 := e 107 ‹¬ n1 = 107›
  have z107 : (107 : Int32).toInt = 107 := by decide
  have e108 := e 108 ‹¬ n1 = 108›
  have z108 : (108 : Int32).toInt = 108 := by decide
  have e109 := e 109 ‹¬ n1 = 109›
  have z109 : (109 : Int32).toInt = 109 := by decide
  have e110 := e 110 ‹¬ n1 = 110›
  have z110 : (110 : Int32).toInt = 110 := by decide
  have e111 := e 111 ‹¬ n1 = 111›
  have z111 : (111 : Int32).toInt = 111 := by decide
  have e112 := e 112 ‹¬ n1 = 112›
  have z112 : (112 : Int32).toInt = 112 := by decide
  have e113 := e 113 ‹¬ n1 = 113›
  have z113 : (113 : Int32).toInt = 113 := by decide
  have e114 := e 114 ‹¬ n1 = 114›
  have z114 : (114 : Int32).toInt = 114 := by decide
  have e115 := e 115 ‹¬ n1 = 115›
  have z115 : (115 : Int32).toInt = 115 := by decide
  have e116 := e 116 ‹¬ n1 = 116›
  have z116 : (116 : Int32).toInt = 116 := by decide
  have e117 := e 117 ‹¬ n1 = 117›
  have z117 : (117 : Int32).toInt = 117 := by decide
  have e118 := e 118 ‹¬ n1 = 118›
  have z118 : (118 : Int32).toInt = 118 := by decide
  have e119 := e 119 ‹¬ n1 = 119›
  have z119 : (119 : Int32).toInt = 119 := by decide
  have e120 := e 120 ‹¬ n1 = 120›
  have z120 : (120 : Int32).toInt = 120 := by decide
  have e121 := e 121 ‹¬ n1 = 121›
  have z121 : (121 : Int32).toInt = 121 := by decide
  have e122 := e 122 ‹¬ n1 = 122›
  have z122 : (122 : Int32).toInt = 122 := by decide
  omega
set_option maxHeartbeats 4000000 in
set_option maxRecDepth 100000 in
theorem c_X12_valueOf (l : Launch) (D : va_G) (cI cB cZ cJ : ClassId) (tx : List (ClassId × FieldType)) (h : Nat) (q : Nat → Nat) (im : Nat → Int32) (n1 : Int32) : RdI l D cI cB cZ cJ tx yX12_valueOf cX12_valueOf 2 (some .int) 0 [.ref h, .int n1] [(h, .inr (12, mG q im))] (fun r => True) := by
  refine rdi_of2 (by decide) (Nat.le_of_ble_eq_true rfl) ?_
  intro p e s m below meth c A ls H locs hC hK hP hD hA hS hl
  obtain ⟨hx, hb, hr, hml, hown, hts, hlocks, hin⟩ := hC
  have hown : s.vm.findClass RX12 = some m.cls := hown
  have hl : lv_has ls 2 [(0, .ref h), (1, .int n1)] := hl
  refine lv_iload_n hx hb dX12_valueOf_0 rfl (lv_at hl 1 rfl) ?_
  by_cases c_1 : n1 = 99
  · subst c_1
    refine lv_tableIn (off := 131) (tgt := 132) hx hb dX12_valueOf_1 (by decide) (by decide) rfl (by decide) ?_
    refine lv_aload_n hx hb dX12_valueOf_132 rfl (lv_at hl 0 rfl) ?_
    refine va_get (D := D) (ci := 12) (v := .int (im 33)) (C := RX12) (T := TX12) (N := 81) hx hb hts inT_X12 hown hK.1 hP 0 rfl rfl 33 (by decide) (hts _ k_1386) (fun _ h9 => h9) rfl dX12_valueOf_133 ?_
    exact W.iret (v := im 33) hx hb hr (fun tt9 ht hW => ⟨⟨(im 33 : Int32), (), rfl, trivial, trivial⟩, hS.F ht⟩) hS.2.2 dX12_valueOf_136 hlocks
  by_cases c_2 : n1 = 100
  · subst c_2
    refine lv_tableIn (off := 121) (tgt := 122) hx hb dX12_valueOf_1 (by decide) (by decide) rfl (by decide) ?_
    refine lv_aload_n hx hb dX12_valueOf_122 rfl (lv_at hl 0 rfl) ?_
    refine va_get (D := D) (ci := 12) (v := .int (im 31)) (C := RX12) (T := TX12) (N := 81) hx hb hts inT_X12 hown hK.1 hP 0 rfl rfl 31 (by decide) (hts _ k_1384) (fun _ h9 => h9) rfl dX12_valueOf_123 ?_
    exact W.iret (v := im 31) hx hb hr (fun tt9 ht hW => ⟨⟨(im 31 : Int32), (), rfl, trivial, trivial⟩, hS.F ht⟩) hS.2.2 dX12_valueOf_126 hlocks
  by_cases c_3 : n1 = 101
  · subst c_3
    refine lv_tableIn (off := 171) (tgt := 172) hx hb dX12_valueOf_1 (by decide) (by decide) rfl (by decide) ?_
    refine lv_aload_n hx hb dX12_valueOf_172 rfl (lv_at hl 0 rfl) ?_
    refine va_get (D := D) (ci := 12) (v := .int (im 41)) (C := RX12) (T := TX12) (N := 81) hx hb hts inT_X12 hown hK.1 hP 0 rfl rfl 41 (by decide) (hts _ k_1394) (fun _ h9 => h9) rfl dX12_valueOf_173 ?_
    exact W.iret (v := im 41) hx hb hr (fun tt9 ht hW => ⟨⟨(im 41 : Int32), (), rfl, trivial, trivial⟩, hS.F ht⟩) hS.2.2 dX12_valueOf_176 hlocks
  by_cases c_4 : n1 = 102
  · subst c_4
    refine lv_tableIn (off := 111) (tgt := 112) hx hb dX12_valueOf_1 (by decide) (by decide) rfl (by decide) ?_
    refine lv_aload_n hx hb dX12_valueOf_112 rfl (lv_at hl 0 rfl) ?_
    refine va_get (D := D) (ci := 12) (v := .int (im 29)) (C := RX12) (T := TX12) (N := 81) hx hb hts inT_X12 hown hK.1 hP 0 rfl rfl 29 (by decide) (hts _ k_1382) (fun _ h9 => h9) rfl dX12_valueOf_113 ?_
    exact W.iret (v := im 29) hx hb hr (fun tt9 ht hW => ⟨⟨(im 29 : Int32), (), rfl, trivial, trivial⟩, hS.F ht⟩) hS.2.2 dX12_valueOf_116 hlocks
  by_cases c_5 : n1 = 103
  · subst c_5
    refine lv_tableIn (off := 171) (tgt := 172) hx hb dX12_valueOf_1 (by decide) (by decide) rfl (by decide) ?_
    refine lv_aload_n hx hb dX12_valueOf_172 rfl (lv_at hl 0 rfl) ?_
    refine va_get (D := D) (ci := 12) (v := .int (im 41)) (C := RX12) (T := TX12) (N := 81) hx hb hts inT_X12 hown hK.1 hP 0 rfl rfl 41 (by decide) (hts _ k_1394) (fun _ h9 => h9) rfl dX12_valueOf_173 ?_
    exact W.iret (v := im 41) hx hb hr (fun tt9 ht hW => ⟨⟨(im 41 : Int32), (), rfl, trivial, trivial⟩, hS.F ht⟩) hS.2.2 dX12_valueOf_176 hlocks
  by_cases c_6 : n1 = 104
  · subst c_6
    refine lv_tableIn (off := 171) (tgt := 172) hx hb dX12_valueOf_1 (by decide) (by decide) rfl (by decide) ?_
    refine lv_aload_n hx hb dX12_valueOf_172 rfl (lv_at hl 0 rfl) ?_
    refine va_get (D := D) (ci := 12) (v := .int (im 41)) (C := RX12) (T := TX12) (N := 81) hx hb hts inT_X12 hown hK.1 hP 0 rfl rfl 41 (by decide) (hts _ k_1394) (fun _ h9 => h9) rfl dX12_valueOf_173 ?_
    exact W.iret (v := im 41) hx hb hr (fun tt9 ht hW => ⟨⟨(im 41 : Int32), (), rfl, trivial, trivial⟩, hS.F ht⟩) hS.2.2 dX12_valueOf_176 hlocks
  by_cases c_7 : n1 = 105
  · subst c_7
    refine lv_tableIn (off := 171) (tgt := 172) hx hb dX12_valueOf_1 (by decide) (by decide) rfl (by decide) ?_
    refine lv_aload_n hx hb dX12_valueOf_172 rfl (lv_at hl 0 rfl) ?_
    refine va_get (D := D) (ci := 12) (v := .int (im 41)) (C := RX12) (T := TX12) (N := 81) hx hb hts inT_X12 hown hK.1 hP 0 rfl rfl 41 (by decide) (hts _ k_1394) (fun _ h9 => h9) rfl dX12_valueOf_173 ?_
    exact W.iret (v := im 41) hx hb hr (fun tt9 ht hW => ⟨⟨(im 41 : Int32), (), rfl, trivial, trivial⟩, hS.F ht⟩) hS.2.2 dX12_valueOf_176 hlocks
  by_cases c_8 : n1 = 106
  · subst c_8
    refine lv_tableIn (off := 171) (tgt := 172) hx hb dX12_valueOf_1 (by decide) (by decide) rfl (by decide) ?_
    refine lv_aload_n hx hb dX12_valueOf_172 rfl (lv_at hl 0 rfl) ?_
    refine va_get (D := D) (ci := 12) (v := .int (im 41)) (C := RX12) (T := TX12) (N := 81) hx hb hts inT_X12 hown hK.1 hP 0 rfl rfl 41 (by decide) (hts _ k_1394) (fun _ h9 => h9) rfl dX12_valueOf_173 ?_
    exact W.iret (v := im 41) hx hb hr (fun tt9 ht hW => ⟨⟨(im 41 : Int32), (), rfl, trivial, trivial⟩, hS.F ht⟩) hS.2.2 dX12_valueOf_176 hlocks
  by_cases c_9 : n1 = 107
  · subst c_9
    refine lv_tableIn (off := 136) (tgt := 137) hx hb dX12_valueOf_1 (by decide) (by decide) rfl (by decide) ?_
    refine lv_aload_n hx hb dX12_valueOf_137 rfl (lv_at hl 0 rfl) ?_
    refine va_get (D := D) (ci := 12) (v := .int (im 34)) (C := RX12) (T := TX12) (N := 81) hx hb hts inT_X12 hown hK.1 hP 0 rfl rfl 34 (by decide) (hts _ k_1387) (fun _ h9 => h9) rfl dX12_valueOf_138 ?_
    exact W.iret (v := im 34) hx hb hr (fun tt9 ht hW => ⟨⟨(im 34 : Int32), (), rfl, trivial, trivial⟩, hS.F ht⟩) hS.2.2 dX12_valueOf_141 hlocks
  by_cases c_10 : n1 = 108
  · subst c_10
    refine lv_tableIn (off := 171) (tgt := 172) hx hb dX12_valueOf_1 (by decide) (by decide) rfl (by decide) ?_
    refine lv_aload_n hx hb dX12_valueOf_172 rfl (lv_at hl 0 rfl) ?_
    refine va_get (D := D) (ci := 12) (v := .int (im 41)) (C := RX12) (T := TX12) (N := 81) hx hb hts inT_X12 hown hK.1 hP 0 rfl rfl 41 (by decide) (hts _ k_1394) (fun _ h9 => h9) rfl dX12_valueOf_173 ?_
    exact W.iret (v := im 41) hx hb hr (fun tt9 ht hW => ⟨⟨(im 41 : Int32), (), rfl, trivial, trivial⟩, hS.F ht⟩) hS.2.2 dX12_valueOf_176 hlocks
  by_cases c_11 : n1 = 109
  · subst c_11
    refine lv_tableIn (off := 151) (tgt := 152) hx hb dX12_valueOf_1 (by decide) (by decide) rfl (by decide) ?_
    refine lv_aload_n hx hb dX12_valueOf_152 rfl (lv_at hl 0 rfl) ?_
    refine va_get (D := D) (ci := 12) (v := .int (im 37)) (C := RX12) (T := TX12) (N := 81) hx hb hts inT_X12 hown hK.1 hP 0 rfl rfl 37 (by decide) (hts _ k_1390) (fun _ h9 => h9) rfl dX12_valueOf_153 ?_
    exact W.iret (v := im 37) hx hb hr (fun tt9 ht hW => ⟨⟨(im 37 : Int32), (), rfl, trivial, trivial⟩, hS.F ht⟩) hS.2.2 dX12_valueOf_156 hlocks
  by_cases c_12 : n1 = 110
  · subst c_12
    refine lv_tableIn (off := 126) (tgt := 127) hx hb dX12_valueOf_1 (by decide) (by decide) rfl (by decide) ?_
    refine lv_aload_n hx hb dX12_valueOf_127 rfl (lv_at hl 0 rfl) ?_
    refine va_get (D := D) (ci := 12) (v := .int (im 32)) (C := RX12) (T := TX12) (N := 81) hx hb hts inT_X12 hown hK.1 hP 0 rfl rfl 32 (by decide) (hts _ k_1385) (fun _ h9 => h9) rfl dX12_valueOf_128 ?_
    exact W.iret (v := im 32) hx hb hr (fun tt9 ht hW => ⟨⟨(im 32 : Int32), (), rfl, trivial, trivial⟩, hS.F ht⟩) hS.2.2 dX12_valueOf_131 hlocks
  by_cases c_13 : n1 = 111
  · subst c_13
    refine lv_tableIn (off := 171) (tgt := 172) hx hb dX12_valueOf_1 (by decide) (by decide) rfl (by decide) ?_
    refine lv_aload_n hx hb dX12_valueOf_172 rfl (lv_at hl 0 rfl) ?_
    refine va_get (D := D) (ci := 12) (v := .int (im 41)) (C := RX12) (T := TX12) (N := 81) hx hb hts inT_X12 hown hK.1 hP 0 rfl rfl 41 (by decide) (hts _ k_1394) (fun _ h9 => h9) rfl dX12_valueOf_173 ?_
    exact W.iret (v := im 41) hx hb hr (fun tt9 ht hW => ⟨⟨(im 41 : Int32), (), rfl, trivial, trivial⟩, hS.F ht⟩) hS.2.2 dX12_valueOf_176 hlocks
  by_cases c_14 : n1 = 112
  · subst c_14
    refine lv_tableIn (off := 171) (tgt := 172) hx hb dX12_valueOf_1 (by decide) (by decide) rfl (by decide) ?_
    refine lv_aload_n hx hb dX12_valueOf_172 rfl (lv_at hl 0 rfl) ?_
    refine va_get (D := D) (ci := 12) (v := .int (im 41)) (C := RX12) (T := TX12) (N := 81) hx hb hts inT_X12 hown hK.1 hP 0 rfl rfl 41 (by decide) (hts _ k_1394) (fun _ h9 => h9) rfl dX12_valueOf_173 ?_
    exact W.iret (v := im 41) hx hb hr (fun tt9 ht hW => ⟨⟨(im 41 : Int32), (), rfl, trivial, trivial⟩, hS.F ht⟩) hS.2.2 dX12_valueOf_176 hlocks
  by_cases c_15 : n1 = 113
  · subst c_15
    refine lv_tableIn (off := 171) (tgt := 172) hx hb dX12_valueOf_1 (by decide) (by decide) rfl (by decide) ?_
    refine lv_aload_n hx hb dX12_valueOf_172 rfl (lv_at hl 0 rfl) ?_
    refine va_get (D := D) (ci := 12) (v := .int (im 41)) (C := RX12) (T := TX12) (N := 81) hx hb hts inT_X12 hown hK.1 hP 0 rfl rfl 41 (by decide) (hts _ k_1394) (fun _ h9 => h9) rfl dX12_valueOf_173 ?_
    exact W.iret (v := im 41) hx hb hr (fun tt9 ht hW => ⟨⟨(im 41 : Int32), (), rfl, trivial, trivial⟩, hS.F ht⟩) hS.2.2 dX12_valueOf_176 hlocks
  by_cases c_16 : n1 = 114
  · subst c_16
    refine lv_tableIn (off := 171) (tgt := 172) hx hb dX12_valueOf_1 (by decide) (by decide) rfl (by decide) ?_
    refine lv_aload_n hx hb dX12_valueOf_172 rfl (lv_at hl 0 rfl) ?_
    refine va_get (D := D) (ci := 12) (v := .int (im 41)) (C := RX12) (T := TX12) (N := 81) hx hb hts inT_X12 hown hK.1 hP 0 rfl rfl 41 (by decide) (hts _ k_1394) (fun _ h9 => h9) rfl dX12_valueOf_173 ?_
    exact W.iret (v := im 41) hx hb hr (fun tt9 ht hW => ⟨⟨(im 41 : Int32), (), rfl, trivial, trivial⟩, hS.F ht⟩) hS.2.2 dX12_valueOf_176 hlocks
  by_cases c_17 : n1 = 115
  · subst c_17
    refine lv_tableIn (off := 116) (tgt := 117) hx hb dX12_valueOf_1 (by decide) (by decide) rfl (by decide) ?_
    refine lv_aload_n hx hb dX12_valueOf_117 rfl (lv_at hl 0 rfl) ?_
    refine va_get (D := D) (ci := 12) (v := .int (im 30)) (C := RX12) (T := TX12) (N := 81) hx hb hts inT_X12 hown hK.1 hP 0 rfl rfl 30 (by decide) (hts _ k_1383) (fun _ h9 => h9) rfl dX12_valueOf_118 ?_
    exact W.iret (v := im 30) hx hb hr (fun tt9 ht hW => ⟨⟨(im 30 : Int32), (), rfl, trivial, trivial⟩, hS.F ht⟩) hS.2.2 dX12_valueOf_121 hlocks
  by_cases c_18 : n1 = 116
  · subst c_18
    refine lv_tableIn (off := 161) (tgt := 162) hx hb dX12_valueOf_1 (by decide) (by decide) rfl (by decide) ?_
    refine lv_aload_n hx hb dX12_valueOf_162 rfl (lv_at hl 0 rfl) ?_
    refine va_get (D := D) (ci := 12) (v := .int (im 39)) (C := RX12) (T := TX12) (N := 81) hx hb hts inT_X12 hown hK.1 hP 0 rfl rfl 39 (by decide) (hts _ k_1392) (fun _ h9 => h9) rfl dX12_valueOf_163 ?_
    exact W.iret (v := im 39) hx hb hr (fun tt9 ht hW => ⟨⟨(im 39 : Int32), (), rfl, trivial, trivial⟩, hS.F ht⟩) hS.2.2 dX12_valueOf_166 hlocks
  by_cases c_19 : n1 = 117
  · subst c_19
    refine lv_tableIn (off := 171) (tgt := 172) hx hb dX12_valueOf_1 (by decide) (by decide) rfl (by decide) ?_
    refine lv_aload_n hx hb dX12_valueOf_172 rfl (lv_at hl 0 rfl) ?_
    refine va_get (D := D) (ci := 12) (v := .int (im 41)) (C := RX12) (T := TX12) (N := 81) hx hb hts inT_X12 hown hK.1 hP 0 rfl rfl 41 (by decide) (hts _ k_1394) (fun _ h9 => h9) rfl dX12_valueOf_173 ?_
    exact W.iret (v := im 41) hx hb hr (fun tt9 ht hW => ⟨⟨(im 41 : Int32), (), rfl, trivial, trivial⟩, hS.F ht⟩) hS.2.2 dX12_valueOf_176 hlocks
  by_cases c_20 : n1 = 118
  · subst c_20
    refine lv_tableIn (off := 166) (tgt := 167) hx hb dX12_valueOf_1 (by decide) (by decide) rfl (by decide) ?_
    refine lv_aload_n hx hb dX12_valueOf_167 rfl (lv_at hl 0 rfl) ?_
    refine va_get (D := D) (ci := 12) (v := .int (im 40)) (C := RX12) (T := TX12) (N := 81) hx hb hts inT_X12 hown hK.1 hP 0 rfl rfl 40 (by decide) (hts _ k_1393) (fun _ h9 => h9) rfl dX12_valueOf_168 ?_
    exact W.iret (v := im 40) hx hb hr (fun tt9 ht hW => ⟨⟨(im 40 : Int32), (), rfl, trivial, trivial⟩, hS.F ht⟩) hS.2.2 dX12_valueOf_171 hlocks
  by_cases c_21 : n1 = 119
  · subst c_21
    refine lv_tableIn (off := 171) (tgt := 172) hx hb dX12_valueOf_1 (by decide) (by decide) rfl (by decide) ?_
    refine lv_aload_n hx hb dX12_valueOf_172 rfl (lv_at hl 0 rfl) ?_
    refine va_get (D := D) (ci := 12) (v := .int (im 41)) (C := RX12) (T := TX12) (N := 81) hx hb hts inT_X12 hown hK.1 hP 0 rfl rfl 41 (by decide) (hts _ k_1394) (fun _ h9 => h9) rfl dX12_valueOf_173 ?_
    exact W.iret (v := im 41) hx hb hr (fun tt9 ht hW => ⟨⟨(im 41 : Int32), (), rfl, trivial, trivial⟩, hS.F ht⟩) hS.2.2 dX12_valueOf_176 hlocks
  by_cases c_22 : n1 = 120
  · subst c_22
    refine lv_tableIn (off := 156) (tgt := 157) hx hb dX12_valueOf_1 (by decide) (by decide) rfl (by decide) ?_
    refine lv_aload_n hx hb dX12_valueOf_157 rfl (lv_at hl 0 rfl) ?_
    refine va_get (D := D) (ci := 12) (v := .int (im 38)) (C := RX12) (T := TX12) (N := 81) hx hb hts inT_X12 hown hK.1 hP 0 rfl rfl 38 (by decide) (hts _ k_1391) (fun _ h9 => h9) rfl dX12_valueOf_158 ?_
    exact W.iret (v := im 38) hx hb hr (fun tt9 ht hW => ⟨⟨(im 38 : Int32), (), rfl, trivial, trivial⟩, hS.F ht⟩) hS.2.2 dX12_valueOf_161 hlocks
  by_cases c_23 : n1 = 121
  · subst c_23
    refine lv_tableIn (off := 141) (tgt := 142) hx hb dX12_valueOf_1 (by decide) (by decide) rfl (by decide) ?_
    refine lv_aload_n hx hb dX12_valueOf_142 rfl (lv_at hl 0 rfl) ?_
    refine va_get (D := D) (ci := 12) (v := .int (im 35)) (C := RX12) (T := TX12) (N := 81) hx hb hts inT_X12 hown hK.1 hP 0 rfl rfl 35 (by decide) (hts _ k_1388) (fun _ h9 => h9) rfl dX12_valueOf_143 ?_
    exact W.iret (v := im 35) hx hb hr (fun tt9 ht hW => ⟨⟨(im 35 : Int32), (), rfl, trivial, trivial⟩, hS.F ht⟩) hS.2.2 dX12_valueOf_146 hlocks
  by_cases c_24 : n1 = 122
  · subst c_24
    refine lv_tableIn (off := 146) (tgt := 147) hx hb dX12_valueOf_1 (by decide) (by decide) rfl (by decide) ?_
    refine lv_aload_n hx hb dX12_valueOf_147 rfl (lv_at hl 0 rfl) ?_
    refine va_get (D := D) (ci := 12) (v := .int (im 36)) (C := RX12) (T := TX12) (N := 81) hx hb hts inT_X12 hown hK.1 hP 0 rfl rfl 36 (by decide) (hts _ k_1389) (fun _ h9 => h9) rfl dX12_valueOf_148 ?_
    exact W.iret (v := im 36) hx hb hr (fun tt9 ht hW => ⟨⟨(im 36 : Int32), (), rfl, trivial, trivial⟩, hS.F ht⟩) hS.2.2 dX12_valueOf_151 hlocks
  refine lv_tableOut (tgt := 172) hx hb dX12_valueOf_1 (lf_X12_valueOf_25 h q im n1 c_1 c_2 c_3 c_4 c_5 c_6 c_7 c_8 c_9 c_10 c_11 c_12 c_13 c_14 c_15 c_16 c_17 c_18 c_19 c_20 c_21 c_22 c_23 c_24) (by decide) ?_
  refine lv_aload_n hx hb dX12_valueOf_172 rfl (lv_at hl 0 rfl) ?_
  refine va_get (D := D) (ci := 12) (v := .int (im 41)) (C := RX12) (T := TX12) (N := 81) hx hb hts inT_X12 hown hK.1 hP 0 rfl rfl 41 (by decide) (hts _ k_1394) (fun _ h9 => h9) rfl dX12_valueOf_173 ?_
  exact W.iret (v := im 41) hx hb hr (fun tt9 ht hW => ⟨⟨(im 41 : Int32), (), rfl, trivial, trivial⟩, hS.F ht⟩) hS.2.2 dX12_valueOf_176 hlocks

theorem lf_X12_worked_3 (n1 : Int32) (n2 : Int32) (n3 : Int32) (c_1 : n1 = 37) (c_2 : ¬ n3 = 0) : ¬ n3 = 0 := by
  assumption
theorem lf_X12_worked_5 (n1 : Int32) (n2 : Int32) (n3 : Int32) (c_1 : n1 = 37) (c_2 : ¬ n3 = 0) (x_4 : Int32) : True := by
  first | trivial | assumption
theorem lf_X12_worked_6 (n1 : Int32) (n2 : Int32) (n3 : Int32) (c_1 : n1 = 37) (c_2 : n3 = 0) : True := by
  first | trivial | assumption
theorem lf_X12_worked_9 (n1 : Int32) (n2 : Int32) (n3 : Int32) (c_1 : ¬ n1 = 37) (c_7 : n1 = 42) (x_8 : Int32) (ex_8 : x_8 = n2 * n3) : True := by
  first | trivial | assumption
theorem lf_X12_worked_12 (n1 : Int32) (n2 : Int32) (n3 : Int32) (c_1 : ¬ n1 = 37) (c_7 : ¬ n1 = 42) (c_10 : n1 = 43) (x_11 : Int32) (ex_11 : x_11 = n2 + n3) : True := by
  first | trivial | assumption
theorem lf_X12_worked_15 (n1 : Int32) (n2 : Int32) (n3 : Int32) (c_1 : ¬ n1 = 37) (c_7 : ¬ n1 = 42) (c_10 : ¬ n1 = 43) (c_13 : n1 = 45) (x_14 : Int32) (ex_14 : x_14 = n2 - n3) : True := by
  first | trivial | assumption
theorem lf_X12_worked_18 (n1 : Int32) (n2 : Int32) (n3 : Int32) (c_1 : ¬ n1 = 37) (c_7 : ¬ n1 = 42) (c_10 : ¬ n1 = 43) (c_13 : ¬ n1 = 45) (c_16 : n1 = 47) (c_17 : ¬ n3 = 0) : ¬ n3 = 0 := by
  assumption
theorem lf_X12_worked_20 (n1 : Int32) (n2 : Int32) (n3 : Int32) (c_1 : ¬ n1 = 37) (c_7 : ¬ n1 = 42) (c_10 : ¬ n1 = 43) (c_13 : ¬ n1 = 45) (c_16 : n1 = 47) (c_17 : ¬ n3 = 0) (x_19 : Int32) : True := by
  first | trivial | assumption
theorem lf_X12_worked_21 (n1 : Int32) (n2 : Int32) (n3 : Int32) (c_1 : ¬ n1 = 37) (c_7 : ¬ n1 = 42) (c_10 : ¬ n1 = 43) (c_13 : ¬ n1 = 45) (c_16 : n1 = 47) (c_17 : n3 = 0) : True := by
  first | trivial | assumption
theorem lf_X12_worked_24 (n1 : Int32) (n2 : Int32) (n3 : Int32) (c_1 : ¬ n1 = 37) (c_7 : ¬ n1 = 42) (c_10 : ¬ n1 = 43) (c_13 : ¬ n1 = 45) (c_16 : ¬ n1 = 47) (c_22 : n1 = 60) (c_23 : n3 ≤ n2) : True := by
  first | trivial | assumption
theorem lf_X12_worked_25 (n1 : Int32) (n2 : Int32) (n3 : Int32) (c_1 : ¬ n1 = 37) (c_7 : ¬ n1 = 42) (c_10 : ¬ n1 = 43) (c_13 : ¬ n1 = 45) (c_16 : ¬ n1 = 47) (c_22 : n1 = 60) (c_23 : ¬ n3 ≤ n2) : True := by
  first | trivial | assumption
theorem lf_X12_worked_28 (n1 : Int32) (n2 : Int32) (n3 : Int32) (c_1 : ¬ n1 = 37) (c_7 : ¬ n1 = 42) (c_10 : ¬ n1 = 43) (c_13 : ¬ n1 = 45) (c_16 : ¬ n1 = 47) (c_22 : ¬ n1 = 60) (c_26 : n1 = 62) (c_27 : n2 ≤ n3) : True := by
  first | trivial | assumption
theorem lf_X12_worked_29 (n1 : Int32) (n2 : Int32) (n3 : Int32) (c_1 : ¬ n1 = 37) (c_7 : ¬ n1 = 42) (c_10 : ¬ n1 = 43) (c_13 : ¬ n1 = 45) (c_16 : ¬ n1 = 47) (c_22 : ¬ n1 = 60) (c_26 : n1 = 62) (c_27 : ¬ n2 ≤ n3) : True := by
  first | trivial | assumption
theorem lf_X12_worked_31 (n1 : Int32) (n2 : Int32) (n3 : Int32) (c_1 : ¬ n1 = 37) (c_7 : ¬ n1 = 42) (c_10 : ¬ n1 = 43) (c_13 : ¬ n1 = 45) (c_16 : ¬ n1 = 47) (c_22 : ¬ n1 = 60) (c_26 : ¬ n1 = 62) (c_30 : ¬ n2 = n3) : True := by
  first | trivial | assumption
theorem lf_X12_worked_32 (n1 : Int32) (n2 : Int32) (n3 : Int32) (c_1 : ¬ n1 = 37) (c_7 : ¬ n1 = 42) (c_10 : ¬ n1 = 43) (c_13 : ¬ n1 = 45) (c_16 : ¬ n1 = 47) (c_22 : ¬ n1 = 60) (c_26 : ¬ n1 = 62) (c_30 : n2 = n3) : True := by
  first | trivial | assumption
set_option maxHeartbeats 4000000 in
set_option maxRecDepth 100000 in
theorem c_X12_worked (l : Launch) (D : va_G) (cI cB cZ cJ : ClassId) (tx : List (ClassId × FieldType)) (n1 : Int32) (n2 : Int32) (n3 : Int32) : RdI l D cI cB cZ cJ tx yX12_worked cX12_worked 3 (some .int) 0 [.int n1, .int n2, .int n3] [] (fun r => True) := by
  refine rdi_of2 (by decide) (Nat.le_of_ble_eq_true rfl) ?_
  intro p e s m below meth c A ls H locs hC hK hP hD hA hS hl
  obtain ⟨hx, hb, hr, hml, hown, hts, hlocks, hin⟩ := hC
  have hown : s.vm.findClass RX12 = some m.cls := hown
  have hl : lv_has ls 3 [(0, .int n1), (1, .int n2), (2, .int n3)] := hl
  refine lv_iload_n hx hb dX12_worked_0 rfl (lv_at hl 0 rfl) ?_
  by_cases c_1 : n1 = 37
  · subst c_1
    refine lv_lookup (off := 91) (tgt := 92) hx hb dX12_worked_1 (by decide) (by decide) (by decide) ?_
    refine lv_iload_n hx hb dX12_worked_92 rfl (lv_at hl 2 rfl) ?_
    refine lv_if_ne (tgt := 100) hx hb dX12_worked_93 (by decide) (fun c_2 => ?_) (fun c_2 => ?_)
    · refine lv_iload_n hx hb dX12_worked_100 rfl (lv_at hl 1 rfl) ?_
      refine lv_iload_n hx hb dX12_worked_101 rfl (lv_at hl 2 rfl) ?_
      refine lv_irem hx hb dX12_worked_102 (lf_X12_worked_3 37 n2 n3 rfl c_2) ?_
      refine lv_topi (fun x_4 _ => ?_)
      exact W.iret (v := x_4) hx hb hr (fun tt9 ht hW => ⟨⟨(x_4 : Int32), (), rfl, (lf_X12_worked_5 37 n2 n3 rfl c_2 x_4), trivial⟩, hS.F ht⟩) hS.2.2 dX12_worked_103 hlocks
    · refine lv_iconst (v := 0) hx hb dX12_worked_96 (by decide) ?_
      refine lv_goto (tgt := 103) hx hb dX12_worked_97 (by decide) ?_
      exact W.iret (v := 0) hx hb hr (fun tt9 ht hW => ⟨⟨(0 : Int32), (), rfl, (lf_X12_worked_6 37 n2 n3 rfl c_2), trivial⟩, hS.F ht⟩) hS.2.2 dX12_worked_103 hlocks
  by_cases c_7 : n1 = 42
  · subst c_7
    refine lv_lookup (off := 75) (tgt := 76) hx hb dX12_worked_1 (by decide) (by decide) (by decide) ?_
    refine lv_iload_n hx hb dX12_worked_76 rfl (lv_at hl 1 rfl) ?_
    refine lv_iload_n hx hb dX12_worked_77 rfl (lv_at hl 2 rfl) ?_
    refine lv_imul hx hb dX12_worked_78 ?_
    refine lv_topi (fun x_8 ex_8 => ?_)
    exact W.iret (v := x_8) hx hb hr (fun tt9 ht hW => ⟨⟨(x_8 : Int32), (), rfl, (lf_X12_worked_9 42 n2 n3 c_1 rfl x_8 ex_8), trivial⟩, hS.F ht⟩) hS.2.2 dX12_worked_79 hlocks
  by_cases c_10 : n1 = 43
  · subst c_10
    refine lv_lookup (off := 67) (tgt := 68) hx hb dX12_worked_1 (by decide) (by decide) (by decide) ?_
    refine lv_iload_n hx hb dX12_worked_68 rfl (lv_at hl 1 rfl) ?_
    refine lv_iload_n hx hb dX12_worked_69 rfl (lv_at hl 2 rfl) ?_
    refine lv_iadd hx hb dX12_worked_70 ?_
    refine lv_topi (fun x_11 ex_11 => ?_)
    exact W.iret (v := x_11) hx hb hr (fun tt9 ht hW => ⟨⟨(x_11 : Int32), (), rfl, (lf_X12_worked_12 43 n2 n3 c_1 c_7 rfl x_11 ex_11), trivial⟩, hS.F ht⟩) hS.2.2 dX12_worked_71 hlocks
  by_cases c_13 : n1 = 45
  · subst c_13
    refine lv_lookup (off := 71) (tgt := 72) hx hb dX12_worked_1 (by decide) (by decide) (by decide) ?_
    refine lv_iload_n hx hb dX12_worked_72 rfl (lv_at hl 1 rfl) ?_
    refine lv_iload_n hx hb dX12_worked_73 rfl (lv_at hl 2 rfl) ?_
    refine lv_isub hx hb dX12_worked_74 ?_
    refine lv_topi (fun x_14 ex_14 => ?_)
    exact W.iret (v := x_14) hx hb hr (fun tt9 ht hW => ⟨⟨(x_14 : Int32), (), rfl, (lf_X12_worked_15 45 n2 n3 c_1 c_7 c_10 rfl x_14 ex_14), trivial⟩, hS.F ht⟩) hS.2.2 dX12_worked_75 hlocks
  by_cases c_16 : n1 = 47
  · subst c_16
    refine lv_lookup (off := 79) (tgt := 80) hx hb dX12_worked_1 (by decide) (by decide) (by decide) ?_
    refine lv_iload_n hx hb dX12_worked_80 rfl (lv_at hl 2 rfl) ?_
    refine lv_if_ne (tgt := 88) hx hb dX12_worked_81 (by decide) (fun c_17 => ?_) (fun c_17 => ?_)
    · refine lv_iload_n hx hb dX12_worked_88 rfl (lv_at hl 1 rfl) ?_
      refine lv_iload_n hx hb dX12_worked_89 rfl (lv_at hl 2 rfl) ?_
      refine lv_idiv hx hb dX12_worked_90 (lf_X12_worked_18 47 n2 n3 c_1 c_7 c_10 c_13 rfl c_17) ?_
      refine lv_topi (fun x_19 _ => ?_)
      exact W.iret (v := x_19) hx hb hr (fun tt9 ht hW => ⟨⟨(x_19 : Int32), (), rfl, (lf_X12_worked_20 47 n2 n3 c_1 c_7 c_10 c_13 rfl c_17 x_19), trivial⟩, hS.F ht⟩) hS.2.2 dX12_worked_91 hlocks
    · refine lv_iconst (v := 0) hx hb dX12_worked_84 (by decide) ?_
      refine lv_goto (tgt := 91) hx hb dX12_worked_85 (by decide) ?_
      exact W.iret (v := 0) hx hb hr (fun tt9 ht hW => ⟨⟨(0 : Int32), (), rfl, (lf_X12_worked_21 47 n2 n3 c_1 c_7 c_10 c_13 rfl c_17), trivial⟩, hS.F ht⟩) hS.2.2 dX12_worked_91 hlocks
  by_cases c_22 : n1 = 60
  · subst c_22
    refine lv_lookup (off := 103) (tgt := 104) hx hb dX12_worked_1 (by decide) (by decide) (by decide) ?_
    refine lv_iload_n hx hb dX12_worked_104 rfl (lv_at hl 1 rfl) ?_
    refine lv_iload_n hx hb dX12_worked_105 rfl (lv_at hl 2 rfl) ?_
    refine lv_icmp_ge (tgt := 113) hx hb dX12_worked_106 (by decide) (fun c_23 => ?_) (fun c_23 => ?_)
    · refine lv_iconst (v := 0) hx hb dX12_worked_113 (by decide) ?_
      exact W.iret (v := 0) hx hb hr (fun tt9 ht hW => ⟨⟨(0 : Int32), (), rfl, (lf_X12_worked_24 60 n2 n3 c_1 c_7 c_10 c_13 c_16 rfl c_23), trivial⟩, hS.F ht⟩) hS.2.2 dX12_worked_114 hlocks
    · refine lv_iconst (v := 1) hx hb dX12_worked_109 (by decide) ?_
      refine lv_goto (tgt := 114) hx hb dX12_worked_110 (by decide) ?_
      exact W.iret (v := 1) hx hb hr (fun tt9 ht hW => ⟨⟨(1 : Int32), (), rfl, (lf_X12_worked_25 60 n2 n3 c_1 c_7 c_10 c_13 c_16 rfl c_23), trivial⟩, hS.F ht⟩) hS.2.2 dX12_worked_114 hlocks
  by_cases c_26 : n1 = 62
  · subst c_26
    refine lv_lookup (off := 114) (tgt := 115) hx hb dX12_worked_1 (by decide) (by decide) (by decide) ?_
    refine lv_iload_n hx hb dX12_worked_115 rfl (lv_at hl 1 rfl) ?_
    refine lv_iload_n hx hb dX12_worked_116 rfl (lv_at hl 2 rfl) ?_
    refine lv_icmp_le (tgt := 124) hx hb dX12_worked_117 (by decide) (fun c_27 => ?_) (fun c_27 => ?_)
    · refine lv_iconst (v := 0) hx hb dX12_worked_124 (by decide) ?_
      exact W.iret (v := 0) hx hb hr (fun tt9 ht hW => ⟨⟨(0 : Int32), (), rfl, (lf_X12_worked_28 62 n2 n3 c_1 c_7 c_10 c_13 c_16 c_22 rfl c_27), trivial⟩, hS.F ht⟩) hS.2.2 dX12_worked_125 hlocks
    · refine lv_iconst (v := 1) hx hb dX12_worked_120 (by decide) ?_
      refine lv_goto (tgt := 125) hx hb dX12_worked_121 (by decide) ?_
      exact W.iret (v := 1) hx hb hr (fun tt9 ht hW => ⟨⟨(1 : Int32), (), rfl, (lf_X12_worked_29 62 n2 n3 c_1 c_7 c_10 c_13 c_16 c_22 rfl c_27), trivial⟩, hS.F ht⟩) hS.2.2 dX12_worked_125 hlocks
  refine lv_lookup (off := 125) (tgt := 126) hx hb dX12_worked_1 (by decide) ((lv_osw c_1 (by decide)).trans ((lv_osw c_7 (by decide)).trans ((lv_osw c_10 (by decide)).trans ((lv_osw c_13 (by decide)).trans ((lv_osw c_16 (by decide)).trans ((lv_osw c_22 (by decide)).trans ((lv_osw c_26 (by decide)).trans rfl))))))) (by decide) ?_
  refine lv_iload_n hx hb dX12_worked_126 rfl (lv_at hl 1 rfl) ?_
  refine lv_iload_n hx hb dX12_worked_127 rfl (lv_at hl 2 rfl) ?_
  refine lv_icmp_ne (tgt := 135) hx hb dX12_worked_128 (by decide) (fun c_30 => ?_) (fun c_30 => ?_)
  · refine lv_iconst (v := 0) hx hb dX12_worked_135 (by decide) ?_
    exact W.iret (v := 0) hx hb hr (fun tt9 ht hW => ⟨⟨(0 : Int32), (), rfl, (lf_X12_worked_31 n1 n2 n3 c_1 c_7 c_10 c_13 c_16 c_22 c_26 c_30), trivial⟩, hS.F ht⟩) hS.2.2 dX12_worked_136 hlocks
  · refine lv_iconst (v := 1) hx hb dX12_worked_131 (by decide) ?_
    refine lv_goto (tgt := 136) hx hb dX12_worked_132 (by decide) ?_
    exact W.iret (v := 1) hx hb hr (fun tt9 ht hW => ⟨⟨(1 : Int32), (), rfl, (lf_X12_worked_32 n1 n2 n3 c_1 c_7 c_10 c_13 c_16 c_22 c_26 c_30), trivial⟩, hS.F ht⟩) hS.2.2 dX12_worked_136 hlocks

theorem lf_X12_does_2 (h : Nat) (q : Nat → Nat) (im : Nat → Int32) (m_worth : Nat → Int32) (m_isRefused : Nat → Int32) (a1 : Nat) (n1 : Int32) (ha1 : a1 + 1 < 240) (c_1 : n1 = 38) : vp_in (nI a1) 240 := by
  first | exact vp_in_nI (by omega) (by decide) | (unfold vp_in; decide)
theorem lf_X12_does_5 (h : Nat) (q : Nat → Nat) (im : Nat → Int32) (m_worth : Nat → Int32) (m_isRefused : Nat → Int32) (a1 : Nat) (n1 : Int32) (ha1 : a1 + 1 < 240) (c_1 : n1 = 38) (x_3 : Int32) (c_4 : x_3 = 0) : vp_in (nI a1) 240 := by
  first | exact vp_in_nI (by omega) (by decide) | (unfold vp_in; decide)
theorem lf_X12_does_9 (h : Nat) (q : Nat → Nat) (im : Nat → Int32) (m_worth : Nat → Int32) (m_isRefused : Nat → Int32) (a1 : Nat) (n1 : Int32) (ha1 : a1 + 1 < 240) (c_1 : n1 = 38) (x_3 : Int32) (c_4 : x_3 = 0) (x_6 : Int32) (c_7 : ¬ n1 = 38) (c_8 : x_6 = 0) : vp_in (nI (a1 + 1)) 240 := by
  first | exact vp_in_nI (by omega) (by decide) | (unfold vp_in; decide)
theorem lf_X12_does_12 (h : Nat) (q : Nat → Nat) (im : Nat → Int32) (m_worth : Nat → Int32) (m_isRefused : Nat → Int32) (a1 : Nat) (n1 : Int32) (ha1 : a1 + 1 < 240) (c_1 : n1 = 38) (x_3 : Int32) (c_4 : x_3 = 0) (x_6 : Int32) (c_7 : ¬ n1 = 38) (c_8 : x_6 = 0) (x_10 : Int32) : vp_in (nI a1) 240 := by
  first | exact vp_in_nI (by omega) (by decide) | (unfold vp_in; decide)
theorem lf_X12_does_13 (h : Nat) (q : Nat → Nat) (im : Nat → Int32) (m_worth : Nat → Int32) (m_isRefused : Nat → Int32) (a1 : Nat) (n1 : Int32) (ha1 : a1 + 1 < 240) (c_1 : n1 = 38) (x_3 : Int32) (c_4 : x_3 = 0) (x_6 : Int32) (c_7 : ¬ n1 = 38) (c_8 : x_6 = 0) (x_10 : Int32) (f_11 : Nat → Int32) : vp_in (nI (a1 + 1)) 240 := by
  first | exact vp_in_nI (by omega) (by decide) | (unfold vp_in; decide)
theorem lf_X12_does_16 (h : Nat) (q : Nat → Nat) (im : Nat → Int32) (m_worth : Nat → Int32) (m_isRefused : Nat → Int32) (a1 : Nat) (n1 : Int32) (ha1 : a1 + 1 < 240) (c_1 : n1 = 38) (x_3 : Int32) (c_4 : x_3 = 0) (x_6 : Int32) (c_7 : ¬ n1 = 38) (c_8 : x_6 = 0) (x_10 : Int32) (f_11 : Nat → Int32) (x_14 : Int32) : vp_in (nI a1) 240 := by
  first | exact vp_in_nI (by omega) (by decide) | (unfold vp_in; decide)
theorem lf_X12_does_18 (h : Nat) (q : Nat → Nat) (im : Nat → Int32) (m_worth : Nat → Int32) (m_isRefused : Nat → Int32) (a1 : Nat) (n1 : Int32) (ha1 : a1 + 1 < 240) (c_1 : n1 = 38) (x_3 : Int32) (c_4 : x_3 = 0) (x_6 : Int32) (c_7 : n1 = 38) (c_17 : x_6 = 1) : vp_in (nI (a1 + 1)) 240 := by
  first | exact vp_in_nI (by omega) (by decide) | (unfold vp_in; decide)
theorem lf_X12_does_21 (h : Nat) (q : Nat → Nat) (im : Nat → Int32) (m_worth : Nat → Int32) (m_isRefused : Nat → Int32) (a1 : Nat) (n1 : Int32) (ha1 : a1 + 1 < 240) (c_1 : n1 = 38) (x_3 : Int32) (c_4 : x_3 = 0) (x_6 : Int32) (c_7 : n1 = 38) (c_17 : x_6 = 1) (x_19 : Int32) : vp_in (nI a1) 240 := by
  first | exact vp_in_nI (by omega) (by decide) | (unfold vp_in; decide)
theorem lf_X12_does_22 (h : Nat) (q : Nat → Nat) (im : Nat → Int32) (m_worth : Nat → Int32) (m_isRefused : Nat → Int32) (a1 : Nat) (n1 : Int32) (ha1 : a1 + 1 < 240) (c_1 : n1 = 38) (x_3 : Int32) (c_4 : x_3 = 0) (x_6 : Int32) (c_7 : n1 = 38) (c_17 : x_6 = 1) (x_19 : Int32) (f_20 : Nat → Int32) : vp_in (nI (a1 + 1)) 240 := by
  first | exact vp_in_nI (by omega) (by decide) | (unfold vp_in; decide)
theorem lf_X12_does_25 (h : Nat) (q : Nat → Nat) (im : Nat → Int32) (m_worth : Nat → Int32) (m_isRefused : Nat → Int32) (a1 : Nat) (n1 : Int32) (ha1 : a1 + 1 < 240) (c_1 : n1 = 38) (x_3 : Int32) (c_4 : x_3 = 0) (x_6 : Int32) (c_7 : n1 = 38) (c_17 : x_6 = 1) (x_19 : Int32) (f_20 : Nat → Int32) (x_23 : Int32) : vp_in (nI a1) 240 := by
  first | exact vp_in_nI (by omega) (by decide) | (unfold vp_in; decide)
theorem lf_X12_does_27 (h : Nat) (q : Nat → Nat) (im : Nat → Int32) (m_worth : Nat → Int32) (m_isRefused : Nat → Int32) (a1 : Nat) (n1 : Int32) (ha1 : a1 + 1 < 240) (c_1 : ¬ n1 = 38) (c_26 : ¬ n1 = 124) : vp_in (nI a1) 240 := by
  first | exact vp_in_nI (by omega) (by decide) | (unfold vp_in; decide)
theorem lf_X12_does_31 (h : Nat) (q : Nat → Nat) (im : Nat → Int32) (m_worth : Nat → Int32) (m_isRefused : Nat → Int32) (a1 : Nat) (n1 : Int32) (ha1 : a1 + 1 < 240) (c_1 : ¬ n1 = 38) (c_26 : ¬ n1 = 124) (x_28 : Int32) (c_29 : ¬ x_28 = 0) : vp_in (nI a1) 240 := by
  first | exact vp_in_nI (by omega) (by decide) | (unfold vp_in; decide)
theorem lf_X12_does_32 (h : Nat) (q : Nat → Nat) (im : Nat → Int32) (m_worth : Nat → Int32) (m_isRefused : Nat → Int32) (a1 : Nat) (n1 : Int32) (ha1 : a1 + 1 < 240) (c_1 : ¬ n1 = 38) (c_26 : ¬ n1 = 124) (x_28 : Int32) (c_29 : ¬ x_28 = 0) (f_30 : Nat → Int32) : vp_in (nI a1) 240 := by
  first | exact vp_in_nI (by omega) (by decide) | (unfold vp_in; decide)
theorem lf_X12_does_34 (h : Nat) (q : Nat → Nat) (im : Nat → Int32) (m_worth : Nat → Int32) (m_isRefused : Nat → Int32) (a1 : Nat) (n1 : Int32) (ha1 : a1 + 1 < 240) (c_1 : ¬ n1 = 38) (c_26 : ¬ n1 = 124) (x_28 : Int32) (c_29 : ¬ x_28 = 0) (f_30 : Nat → Int32) (x_33 : Int32) : vp_in (nI (a1 + 1)) 240 := by
  first | exact vp_in_nI (by omega) (by decide) | (unfold vp_in; decide)
theorem lf_X12_does_38 (h : Nat) (q : Nat → Nat) (im : Nat → Int32) (m_worth : Nat → Int32) (m_isRefused : Nat → Int32) (a1 : Nat) (n1 : Int32) (ha1 : a1 + 1 < 240) (c_1 : ¬ n1 = 38) (c_26 : ¬ n1 = 124) (x_28 : Int32) (c_29 : ¬ x_28 = 0) (f_30 : Nat → Int32) (x_33 : Int32) (x_35 : Int32) (r_36 : Int32) : vp_in (nI a1) 240 := by
  first | exact vp_in_nI (by omega) (by decide) | (unfold vp_in; decide)
theorem lf_X12_does_39 (h : Nat) (q : Nat → Nat) (im : Nat → Int32) (m_worth : Nat → Int32) (m_isRefused : Nat → Int32) (a1 : Nat) (n1 : Int32) (ha1 : a1 + 1 < 240) (c_1 : ¬ n1 = 38) (c_26 : ¬ n1 = 124) (x_28 : Int32) (c_29 : x_28 = 0) : vp_in (nI (a1 + 1)) 240 := by
  first | exact vp_in_nI (by omega) (by decide) | (unfold vp_in; decide)
theorem lf_X12_does_43 (h : Nat) (q : Nat → Nat) (im : Nat → Int32) (m_worth : Nat → Int32) (m_isRefused : Nat → Int32) (a1 : Nat) (n1 : Int32) (ha1 : a1 + 1 < 240) (c_1 : ¬ n1 = 38) (c_26 : ¬ n1 = 124) (x_28 : Int32) (c_29 : x_28 = 0) (x_40 : Int32) (c_41 : ¬ x_40 = 0) : vp_in (nI a1) 240 := by
  first | exact vp_in_nI (by omega) (by decide) | (unfold vp_in; decide)
theorem lf_X12_does_44 (h : Nat) (q : Nat → Nat) (im : Nat → Int32) (m_worth : Nat → Int32) (m_isRefused : Nat → Int32) (a1 : Nat) (n1 : Int32) (ha1 : a1 + 1 < 240) (c_1 : ¬ n1 = 38) (c_26 : ¬ n1 = 124) (x_28 : Int32) (c_29 : x_28 = 0) (x_40 : Int32) (c_41 : ¬ x_40 = 0) (f_42 : Nat → Int32) : vp_in (nI a1) 240 := by
  first | exact vp_in_nI (by omega) (by decide) | (unfold vp_in; decide)
theorem lf_X12_does_46 (h : Nat) (q : Nat → Nat) (im : Nat → Int32) (m_worth : Nat → Int32) (m_isRefused : Nat → Int32) (a1 : Nat) (n1 : Int32) (ha1 : a1 + 1 < 240) (c_1 : ¬ n1 = 38) (c_26 : ¬ n1 = 124) (x_28 : Int32) (c_29 : x_28 = 0) (x_40 : Int32) (c_41 : ¬ x_40 = 0) (f_42 : Nat → Int32) (x_45 : Int32) : vp_in (nI (a1 + 1)) 240 := by
  first | exact vp_in_nI (by omega) (by decide) | (unfold vp_in; decide)
theorem lf_X12_does_50 (h : Nat) (q : Nat → Nat) (im : Nat → Int32) (m_worth : Nat → Int32) (m_isRefused : Nat → Int32) (a1 : Nat) (n1 : Int32) (ha1 : a1 + 1 < 240) (c_1 : ¬ n1 = 38) (c_26 : ¬ n1 = 124) (x_28 : Int32) (c_29 : x_28 = 0) (x_40 : Int32) (c_41 : ¬ x_40 = 0) (f_42 : Nat → Int32) (x_45 : Int32) (x_47 : Int32) (r_48 : Int32) : vp_in (nI a1) 240 := by
  first | exact vp_in_nI (by omega) (by decide) | (unfold vp_in; decide)
theorem lf_X12_does_52 (h : Nat) (q : Nat → Nat) (im : Nat → Int32) (m_worth : Nat → Int32) (m_isRefused : Nat → Int32) (a1 : Nat) (n1 : Int32) (ha1 : a1 + 1 < 240) (c_1 : ¬ n1 = 38) (c_26 : ¬ n1 = 124) (x_28 : Int32) (c_29 : x_28 = 0) (x_40 : Int32) (c_41 : x_40 = 0) (c_51 : n1 = 47) : vp_in (nI (a1 + 1)) 240 := by
  first | exact vp_in_nI (by omega) (by decide) | (unfold vp_in; decide)
theorem lf_X12_does_56 (h : Nat) (q : Nat → Nat) (im : Nat → Int32) (m_worth : Nat → Int32) (m_isRefused : Nat → Int32) (a1 : Nat) (n1 : Int32) (ha1 : a1 + 1 < 240) (c_1 : ¬ n1 = 38) (c_26 : ¬ n1 = 124) (x_28 : Int32) (c_29 : x_28 = 0) (x_40 : Int32) (c_41 : x_40 = 0) (c_51 : n1 = 47) (x_53 : Int32) (c_54 : ¬ x_53 = 0) : vp_in (nI a1) 240 := by
  first | exact vp_in_nI (by omega) (by decide) | (unfold vp_in; decide)
theorem lf_X12_does_57 (h : Nat) (q : Nat → Nat) (im : Nat → Int32) (m_worth : Nat → Int32) (m_isRefused : Nat → Int32) (a1 : Nat) (n1 : Int32) (ha1 : a1 + 1 < 240) (c_1 : ¬ n1 = 38) (c_26 : ¬ n1 = 124) (x_28 : Int32) (c_29 : x_28 = 0) (x_40 : Int32) (c_41 : x_40 = 0) (c_51 : n1 = 47) (x_53 : Int32) (c_54 : ¬ x_53 = 0) (f_55 : Nat → Int32) : vp_in (nI a1) 240 := by
  first | exact vp_in_nI (by omega) (by decide) | (unfold vp_in; decide)
theorem lf_X12_does_59 (h : Nat) (q : Nat → Nat) (im : Nat → Int32) (m_worth : Nat → Int32) (m_isRefused : Nat → Int32) (a1 : Nat) (n1 : Int32) (ha1 : a1 + 1 < 240) (c_1 : ¬ n1 = 38) (c_26 : ¬ n1 = 124) (x_28 : Int32) (c_29 : x_28 = 0) (x_40 : Int32) (c_41 : x_40 = 0) (c_51 : n1 = 47) (x_53 : Int32) (c_54 : ¬ x_53 = 0) (f_55 : Nat → Int32) (x_58 : Int32) : vp_in (nI (a1 + 1)) 240 := by
  first | exact vp_in_nI (by omega) (by decide) | (unfold vp_in; decide)
theorem lf_X12_does_63 (h : Nat) (q : Nat → Nat) (im : Nat → Int32) (m_worth : Nat → Int32) (m_isRefused : Nat → Int32) (a1 : Nat) (n1 : Int32) (ha1 : a1 + 1 < 240) (c_1 : ¬ n1 = 38) (c_26 : ¬ n1 = 124) (x_28 : Int32) (c_29 : x_28 = 0) (x_40 : Int32) (c_41 : x_40 = 0) (c_51 : n1 = 47) (x_53 : Int32) (c_54 : ¬ x_53 = 0) (f_55 : Nat → Int32) (x_58 : Int32) (x_60 : Int32) (r_61 : Int32) : vp_in (nI a1) 240 := by
  first | exact vp_in_nI (by omega) (by decide) | (unfold vp_in; decide)
theorem lf_X12_does_65 (h : Nat) (q : Nat → Nat) (im : Nat → Int32) (m_worth : Nat → Int32) (m_isRefused : Nat → Int32) (a1 : Nat) (n1 : Int32) (ha1 : a1 + 1 < 240) (c_1 : ¬ n1 = 38) (c_26 : ¬ n1 = 124) (x_28 : Int32) (c_29 : x_28 = 0) (x_40 : Int32) (c_41 : x_40 = 0) (c_51 : n1 = 47) (x_53 : Int32) (c_54 : x_53 = 0) : vp_in (nI a1) 240 := by
  first | exact vp_in_nI (by omega) (by decide) | (unfold vp_in; decide)
theorem lf_X12_does_66 (h : Nat) (q : Nat → Nat) (im : Nat → Int32) (m_worth : Nat → Int32) (m_isRefused : Nat → Int32) (a1 : Nat) (n1 : Int32) (ha1 : a1 + 1 < 240) (c_1 : ¬ n1 = 38) (c_26 : ¬ n1 = 124) (x_28 : Int32) (c_29 : x_28 = 0) (x_40 : Int32) (c_41 : x_40 = 0) (c_51 : n1 = 47) (x_53 : Int32) (c_54 : x_53 = 0) (f_64 : Nat → Int32) : vp_in (nI a1) 240 := by
  first | exact vp_in_nI (by omega) (by decide) | (unfold vp_in; decide)
theorem lf_X12_does_68 (h : Nat) (q : Nat → Nat) (im : Nat → Int32) (m_worth : Nat → Int32) (m_isRefused : Nat → Int32) (a1 : Nat) (n1 : Int32) (ha1 : a1 + 1 < 240) (c_1 : ¬ n1 = 38) (c_26 : ¬ n1 = 124) (x_28 : Int32) (c_29 : x_28 = 0) (x_40 : Int32) (c_41 : x_40 = 0) (c_51 : n1 = 47) (x_53 : Int32) (c_54 : x_53 = 0) (f_64 : Nat → Int32) (x_67 : Int32) : vp_in (nI (a1 + 1)) 240 := by
  first | exact vp_in_nI (by omega) (by decide) | (unfold vp_in; decide)
theorem lf_X12_does_72 (h : Nat) (q : Nat → Nat) (im : Nat → Int32) (m_worth : Nat → Int32) (m_isRefused : Nat → Int32) (a1 : Nat) (n1 : Int32) (ha1 : a1 + 1 < 240) (c_1 : ¬ n1 = 38) (c_26 : ¬ n1 = 124) (x_28 : Int32) (c_29 : x_28 = 0) (x_40 : Int32) (c_41 : x_40 = 0) (c_51 : n1 = 47) (x_53 : Int32) (c_54 : x_53 = 0) (f_64 : Nat → Int32) (x_67 : Int32) (x_69 : Int32) (r_70 : Int32) : vp_in (nI a1) 240 := by
  first | exact vp_in_nI (by omega) (by decide) | (unfold vp_in; decide)
theorem lf_X12_does_75 (h : Nat) (q : Nat → Nat) (im : Nat → Int32) (m_worth : Nat → Int32) (m_isRefused : Nat → Int32) (a1 : Nat) (n1 : Int32) (ha1 : a1 + 1 < 240) (c_1 : ¬ n1 = 38) (c_26 : ¬ n1 = 124) (x_28 : Int32) (c_29 : x_28 = 0) (x_40 : Int32) (c_41 : x_40 = 0) (c_51 : ¬ n1 = 47) (c_73 : ¬ n1 = 37) : vp_in (nI a1) 240 := by
  first | exact vp_in_nI (by omega) (by decide) | (unfold vp_in; decide)
theorem lf_X12_does_76 (h : Nat) (q : Nat → Nat) (im : Nat → Int32) (m_worth : Nat → Int32) (m_isRefused : Nat → Int32) (a1 : Nat) (n1 : Int32) (ha1 : a1 + 1 < 240) (c_1 : ¬ n1 = 38) (c_26 : ¬ n1 = 124) (x_28 : Int32) (c_29 : x_28 = 0) (x_40 : Int32) (c_41 : x_40 = 0) (c_51 : ¬ n1 = 47) (c_73 : ¬ n1 = 37) (f_74 : Nat → Int32) : vp_in (nI a1) 240 := by
  first | exact vp_in_nI (by omega) (by decide) | (unfold vp_in; decide)
theorem lf_X12_does_78 (h : Nat) (q : Nat → Nat) (im : Nat → Int32) (m_worth : Nat → Int32) (m_isRefused : Nat → Int32) (a1 : Nat) (n1 : Int32) (ha1 : a1 + 1 < 240) (c_1 : ¬ n1 = 38) (c_26 : ¬ n1 = 124) (x_28 : Int32) (c_29 : x_28 = 0) (x_40 : Int32) (c_41 : x_40 = 0) (c_51 : ¬ n1 = 47) (c_73 : ¬ n1 = 37) (f_74 : Nat → Int32) (x_77 : Int32) : vp_in (nI (a1 + 1)) 240 := by
  first | exact vp_in_nI (by omega) (by decide) | (unfold vp_in; decide)
theorem lf_X12_does_82 (h : Nat) (q : Nat → Nat) (im : Nat → Int32) (m_worth : Nat → Int32) (m_isRefused : Nat → Int32) (a1 : Nat) (n1 : Int32) (ha1 : a1 + 1 < 240) (c_1 : ¬ n1 = 38) (c_26 : ¬ n1 = 124) (x_28 : Int32) (c_29 : x_28 = 0) (x_40 : Int32) (c_41 : x_40 = 0) (c_51 : ¬ n1 = 47) (c_73 : ¬ n1 = 37) (f_74 : Nat → Int32) (x_77 : Int32) (x_79 : Int32) (r_80 : Int32) : vp_in (nI a1) 240 := by
  first | exact vp_in_nI (by omega) (by decide) | (unfold vp_in; decide)
theorem lf_X12_does_83 (h : Nat) (q : Nat → Nat) (im : Nat → Int32) (m_worth : Nat → Int32) (m_isRefused : Nat → Int32) (a1 : Nat) (n1 : Int32) (ha1 : a1 + 1 < 240) (c_1 : ¬ n1 = 38) (c_26 : ¬ n1 = 124) (x_28 : Int32) (c_29 : x_28 = 0) (x_40 : Int32) (c_41 : x_40 = 0) (c_51 : ¬ n1 = 47) (c_73 : n1 = 37) : vp_in (nI (a1 + 1)) 240 := by
  first | exact vp_in_nI (by omega) (by decide) | (unfold vp_in; decide)
theorem lf_X12_does_87 (h : Nat) (q : Nat → Nat) (im : Nat → Int32) (m_worth : Nat → Int32) (m_isRefused : Nat → Int32) (a1 : Nat) (n1 : Int32) (ha1 : a1 + 1 < 240) (c_1 : ¬ n1 = 38) (c_26 : ¬ n1 = 124) (x_28 : Int32) (c_29 : x_28 = 0) (x_40 : Int32) (c_41 : x_40 = 0) (c_51 : ¬ n1 = 47) (c_73 : n1 = 37) (x_84 : Int32) (c_85 : ¬ x_84 = 0) : vp_in (nI a1) 240 := by
  first | exact vp_in_nI (by omega) (by decide) | (unfold vp_in; decide)
theorem lf_X12_does_88 (h : Nat) (q : Nat → Nat) (im : Nat → Int32) (m_worth : Nat → Int32) (m_isRefused : Nat → Int32) (a1 : Nat) (n1 : Int32) (ha1 : a1 + 1 < 240) (c_1 : ¬ n1 = 38) (c_26 : ¬ n1 = 124) (x_28 : Int32) (c_29 : x_28 = 0) (x_40 : Int32) (c_41 : x_40 = 0) (c_51 : ¬ n1 = 47) (c_73 : n1 = 37) (x_84 : Int32) (c_85 : ¬ x_84 = 0) (f_86 : Nat → Int32) : vp_in (nI a1) 240 := by
  first | exact vp_in_nI (by omega) (by decide) | (unfold vp_in; decide)
theorem lf_X12_does_90 (h : Nat) (q : Nat → Nat) (im : Nat → Int32) (m_worth : Nat → Int32) (m_isRefused : Nat → Int32) (a1 : Nat) (n1 : Int32) (ha1 : a1 + 1 < 240) (c_1 : ¬ n1 = 38) (c_26 : ¬ n1 = 124) (x_28 : Int32) (c_29 : x_28 = 0) (x_40 : Int32) (c_41 : x_40 = 0) (c_51 : ¬ n1 = 47) (c_73 : n1 = 37) (x_84 : Int32) (c_85 : ¬ x_84 = 0) (f_86 : Nat → Int32) (x_89 : Int32) : vp_in (nI (a1 + 1)) 240 := by
  first | exact vp_in_nI (by omega) (by decide) | (unfold vp_in; decide)
theorem lf_X12_does_94 (h : Nat) (q : Nat → Nat) (im : Nat → Int32) (m_worth : Nat → Int32) (m_isRefused : Nat → Int32) (a1 : Nat) (n1 : Int32) (ha1 : a1 + 1 < 240) (c_1 : ¬ n1 = 38) (c_26 : ¬ n1 = 124) (x_28 : Int32) (c_29 : x_28 = 0) (x_40 : Int32) (c_41 : x_40 = 0) (c_51 : ¬ n1 = 47) (c_73 : n1 = 37) (x_84 : Int32) (c_85 : ¬ x_84 = 0) (f_86 : Nat → Int32) (x_89 : Int32) (x_91 : Int32) (r_92 : Int32) : vp_in (nI a1) 240 := by
  first | exact vp_in_nI (by omega) (by decide) | (unfold vp_in; decide)
theorem lf_X12_does_96 (h : Nat) (q : Nat → Nat) (im : Nat → Int32) (m_worth : Nat → Int32) (m_isRefused : Nat → Int32) (a1 : Nat) (n1 : Int32) (ha1 : a1 + 1 < 240) (c_1 : ¬ n1 = 38) (c_26 : ¬ n1 = 124) (x_28 : Int32) (c_29 : x_28 = 0) (x_40 : Int32) (c_41 : x_40 = 0) (c_51 : ¬ n1 = 47) (c_73 : n1 = 37) (x_84 : Int32) (c_85 : x_84 = 0) : vp_in (nI a1) 240 := by
  first | exact vp_in_nI (by omega) (by decide) | (unfold vp_in; decide)
theorem lf_X12_does_97 (h : Nat) (q : Nat → Nat) (im : Nat → Int32) (m_worth : Nat → Int32) (m_isRefused : Nat → Int32) (a1 : Nat) (n1 : Int32) (ha1 : a1 + 1 < 240) (c_1 : ¬ n1 = 38) (c_26 : ¬ n1 = 124) (x_28 : Int32) (c_29 : x_28 = 0) (x_40 : Int32) (c_41 : x_40 = 0) (c_51 : ¬ n1 = 47) (c_73 : n1 = 37) (x_84 : Int32) (c_85 : x_84 = 0) (f_95 : Nat → Int32) : vp_in (nI a1) 240 := by
  first | exact vp_in_nI (by omega) (by decide) | (unfold vp_in; decide)
theorem lf_X12_does_99 (h : Nat) (q : Nat → Nat) (im : Nat → Int32) (m_worth : Nat → Int32) (m_isRefused : Nat → Int32) (a1 : Nat) (n1 : Int32) (ha1 : a1 + 1 < 240) (c_1 : ¬ n1 = 38) (c_26 : ¬ n1 = 124) (x_28 : Int32) (c_29 : x_28 = 0) (x_40 : Int32) (c_41 : x_40 = 0) (c_51 : ¬ n1 = 47) (c_73 : n1 = 37) (x_84 : Int32) (c_85 : x_84 = 0) (f_95 : Nat → Int32) (x_98 : Int32) : vp_in (nI (a1 + 1)) 240 := by
  first | exact vp_in_nI (by omega) (by decide) | (unfold vp_in; decide)
theorem lf_X12_does_103 (h : Nat) (q : Nat → Nat) (im : Nat → Int32) (m_worth : Nat → Int32) (m_isRefused : Nat → Int32) (a1 : Nat) (n1 : Int32) (ha1 : a1 + 1 < 240) (c_1 : ¬ n1 = 38) (c_26 : ¬ n1 = 124) (x_28 : Int32) (c_29 : x_28 = 0) (x_40 : Int32) (c_41 : x_40 = 0) (c_51 : ¬ n1 = 47) (c_73 : n1 = 37) (x_84 : Int32) (c_85 : x_84 = 0) (f_95 : Nat → Int32) (x_98 : Int32) (x_100 : Int32) (r_101 : Int32) : vp_in (nI a1) 240 := by
  first | exact vp_in_nI (by omega) (by decide) | (unfold vp_in; decide)
theorem lf_X12_does_104 (h : Nat) (q : Nat → Nat) (im : Nat → Int32) (m_worth : Nat → Int32) (m_isRefused : Nat → Int32) (a1 : Nat) (n1 : Int32) (ha1 : a1 + 1 < 240) (c_1 : ¬ n1 = 38) (c_26 : n1 = 124) : vp_in (nI a1) 240 := by
  first | exact vp_in_nI (by omega) (by decide) | (unfold vp_in; decide)
theorem lf_X12_does_107 (h : Nat) (q : Nat → Nat) (im : Nat → Int32) (m_worth : Nat → Int32) (m_isRefused : Nat → Int32) (a1 : Nat) (n1 : Int32) (ha1 : a1 + 1 < 240) (c_1 : ¬ n1 = 38) (c_26 : n1 = 124) (x_105 : Int32) (c_106 : x_105 = 0) : vp_in (nI a1) 240 := by
  first | exact vp_in_nI (by omega) (by decide) | (unfold vp_in; decide)
theorem lf_X12_does_111 (h : Nat) (q : Nat → Nat) (im : Nat → Int32) (m_worth : Nat → Int32) (m_isRefused : Nat → Int32) (a1 : Nat) (n1 : Int32) (ha1 : a1 + 1 < 240) (c_1 : ¬ n1 = 38) (c_26 : n1 = 124) (x_105 : Int32) (c_106 : x_105 = 0) (x_108 : Int32) (c_109 : ¬ n1 = 38) (c_110 : x_108 = 0) : vp_in (nI (a1 + 1)) 240 := by
  first | exact vp_in_nI (by omega) (by decide) | (unfold vp_in; decide)
theorem lf_X12_does_114 (h : Nat) (q : Nat → Nat) (im : Nat → Int32) (m_worth : Nat → Int32) (m_isRefused : Nat → Int32) (a1 : Nat) (n1 : Int32) (ha1 : a1 + 1 < 240) (c_1 : ¬ n1 = 38) (c_26 : n1 = 124) (x_105 : Int32) (c_106 : x_105 = 0) (x_108 : Int32) (c_109 : ¬ n1 = 38) (c_110 : x_108 = 0) (x_112 : Int32) : vp_in (nI a1) 240 := by
  first | exact vp_in_nI (by omega) (by decide) | (unfold vp_in; decide)
theorem lf_X12_does_115 (h : Nat) (q : Nat → Nat) (im : Nat → Int32) (m_worth : Nat → Int32) (m_isRefused : Nat → Int32) (a1 : Nat) (n1 : Int32) (ha1 : a1 + 1 < 240) (c_1 : ¬ n1 = 38) (c_26 : n1 = 124) (x_105 : Int32) (c_106 : x_105 = 0) (x_108 : Int32) (c_109 : ¬ n1 = 38) (c_110 : x_108 = 0) (x_112 : Int32) (f_113 : Nat → Int32) : vp_in (nI (a1 + 1)) 240 := by
  first | exact vp_in_nI (by omega) (by decide) | (unfold vp_in; decide)
theorem lf_X12_does_118 (h : Nat) (q : Nat → Nat) (im : Nat → Int32) (m_worth : Nat → Int32) (m_isRefused : Nat → Int32) (a1 : Nat) (n1 : Int32) (ha1 : a1 + 1 < 240) (c_1 : ¬ n1 = 38) (c_26 : n1 = 124) (x_105 : Int32) (c_106 : x_105 = 0) (x_108 : Int32) (c_109 : ¬ n1 = 38) (c_110 : x_108 = 0) (x_112 : Int32) (f_113 : Nat → Int32) (x_116 : Int32) : vp_in (nI a1) 240 := by
  first | exact vp_in_nI (by omega) (by decide) | (unfold vp_in; decide)
theorem lf_X12_does_120 (h : Nat) (q : Nat → Nat) (im : Nat → Int32) (m_worth : Nat → Int32) (m_isRefused : Nat → Int32) (a1 : Nat) (n1 : Int32) (ha1 : a1 + 1 < 240) (c_1 : ¬ n1 = 38) (c_26 : n1 = 124) (x_105 : Int32) (c_106 : x_105 = 0) (x_108 : Int32) (c_109 : n1 = 38) (c_119 : x_108 = 1) : vp_in (nI (a1 + 1)) 240 := by
  first | exact vp_in_nI (by omega) (by decide) | (unfold vp_in; decide)
theorem lf_X12_does_123 (h : Nat) (q : Nat → Nat) (im : Nat → Int32) (m_worth : Nat → Int32) (m_isRefused : Nat → Int32) (a1 : Nat) (n1 : Int32) (ha1 : a1 + 1 < 240) (c_1 : ¬ n1 = 38) (c_26 : n1 = 124) (x_105 : Int32) (c_106 : x_105 = 0) (x_108 : Int32) (c_109 : n1 = 38) (c_119 : x_108 = 1) (x_121 : Int32) : vp_in (nI a1) 240 := by
  first | exact vp_in_nI (by omega) (by decide) | (unfold vp_in; decide)
theorem lf_X12_does_124 (h : Nat) (q : Nat → Nat) (im : Nat → Int32) (m_worth : Nat → Int32) (m_isRefused : Nat → Int32) (a1 : Nat) (n1 : Int32) (ha1 : a1 + 1 < 240) (c_1 : ¬ n1 = 38) (c_26 : n1 = 124) (x_105 : Int32) (c_106 : x_105 = 0) (x_108 : Int32) (c_109 : n1 = 38) (c_119 : x_108 = 1) (x_121 : Int32) (f_122 : Nat → Int32) : vp_in (nI (a1 + 1)) 240 := by
  first | exact vp_in_nI (by omega) (by decide) | (unfold vp_in; decide)
theorem lf_X12_does_127 (h : Nat) (q : Nat → Nat) (im : Nat → Int32) (m_worth : Nat → Int32) (m_isRefused : Nat → Int32) (a1 : Nat) (n1 : Int32) (ha1 : a1 + 1 < 240) (c_1 : ¬ n1 = 38) (c_26 : n1 = 124) (x_105 : Int32) (c_106 : x_105 = 0) (x_108 : Int32) (c_109 : n1 = 38) (c_119 : x_108 = 1) (x_121 : Int32) (f_122 : Nat → Int32) (x_125 : Int32) : vp_in (nI a1) 240 := by
  first | exact vp_in_nI (by omega) (by decide) | (unfold vp_in; decide)
set_option maxHeartbeats 4000000 in
set_option maxRecDepth 100000 in
theorem c_X12_does (l : Launch) (D : va_G) (cI cB cZ cJ : ClassId) (tx : List (ClassId × FieldType)) (h : Nat) (q : Nat → Nat) (im : Nat → Int32) (m_worth : Nat → Int32) (m_isRefused : Nat → Int32) (a1 : Nat) (n1 : Int32) (ha1 : a1 + 1 < 240) : WrV l D cI cB cZ cJ tx yX12_does cX12_does 4 none 1 0 0 [.ref h, .int n1, .int (nI a1)] [(h, .inr (12, mG q im)), (q 42, .inl (cI, 240, .inl m_worth)), (q 43, .inl (cZ, 240, .inl m_isRefused))] (fun (v : (Nat → Int32) × (Nat → Int32)) => True) (fun v => [(h, .inr (12, mG q im)), (q 42, .inl (cI, 240, .inl v.1)), (q 43, .inl (cZ, 240, .inl v.2))]) := by
  refine wrv_of2 (by decide) (Nat.le_of_ble_eq_true rfl) ?_
  intro p e s m below meth c A ls H locs hC hK hP hD hA hS hl
  obtain ⟨hx, hb, hr, hml, hown, hts, hlocks, hin⟩ := hC
  have hown : s.vm.findClass RX12 = some m.cls := hown
  have hl : lv_has ls 4 [(0, .ref h), (1, .int n1), (2, .int (nI a1))] := hl
  refine lv_iload_n hx hb dX12_does_0 rfl (lv_at hl 2 rfl) ?_
  refine lv_iconst (v := 1) hx hb dX12_does_1 (by decide) ?_
  refine lv_iadd hx hb dX12_does_2 ?_
  refine lv_topv (y := nI (a1 + 1)) (nI_add a1 1) ?_
  refine lv_istore_n (lv' := [(3, .int (nI (a1 + 1))), (0, .ref h), (1, .int n1), (2, .int (nI a1))]) hx hb dX12_does_3 rfl hl (by decide) rfl (fun ls hl => ?_)
  refine lv_iload_n hx hb dX12_does_4 rfl (lv_at hl 2 rfl) ?_
  refine lv_bipush (v := 38) hx hb dX12_does_5 (by decide) ?_
  refine lv_icmp_eq (tgt := 16) hx hb dX12_does_7 (by decide) (fun c_1 => ?_) (fun c_1 => ?_)
  · refine lv_aload_n hx hb dX12_does_16 rfl (lv_at hl 1 rfl) ?_
    refine va_get (D := D) (ci := 12) (v := .ref (q 43)) (C := RX12) (T := TX12) (N := 81) hx hb hts inT_X12 hown hK.1 hP 0 rfl rfl 43 (by decide) (hts _ k_1396) (fun _ h9 => h9) rfl dX12_does_17 ?_
    refine lv_iload_n hx hb dX12_does_20 rfl (lv_at hl 3 rfl) ?_
    refine ld_z hx hb hK hP 2 rfl (lf_X12_does_2 h q im m_worth m_isRefused a1 n1 ha1 c_1) dX12_does_21 (fun x_3 => ?_)
    refine lv_if_ne (tgt := 45) hx hb dX12_does_22 (by decide) (fun c_4 => ?_) (fun c_4 => ?_)
    · exact W.vret hx hb hr (fun tt9 ht hW => ⟨⟨((m_worth : Nat → Int32), (m_isRefused : Nat → Int32)), rfl, trivial, ⟨by rw [ht]; exact hP, hD⟩⟩, hS.F ht⟩) hS.2.2 dX12_does_45 hlocks
    · refine lv_aload_n hx hb dX12_does_25 rfl (lv_at hl 1 rfl) ?_
      refine va_get (D := D) (ci := 12) (v := .ref (q 42)) (C := RX12) (T := TX12) (N := 81) hx hb hts inT_X12 hown hK.1 hP 0 rfl rfl 42 (by decide) (hts _ k_1395) (fun _ h9 => h9) rfl dX12_does_26 ?_
      refine lv_iload_n hx hb dX12_does_29 rfl (lv_at hl 3 rfl) ?_
      refine ld_i hx hb hK hP 1 rfl (lf_X12_does_5 h q im m_worth m_isRefused a1 n1 ha1 c_1 x_3 c_4) dX12_does_30 (fun x_6 => ?_)
      refine lv_iload_n hx hb dX12_does_31 rfl (lv_at hl 2 rfl) ?_
      refine lv_bipush (v := 38) hx hb dX12_does_32 (by decide) ?_
      refine lv_icmp_ne (tgt := 41) hx hb dX12_does_34 (by decide) (fun c_7 => ?_) (fun c_7 => ?_)
      · refine lv_iconst (v := 0) hx hb dX12_does_41 (by decide) ?_
        refine lv_icmp_eq (tgt := 46) hx hb dX12_does_42 (by decide) (fun c_8 => ?_) (fun c_8 => ?_)
        · refine lv_aload_n hx hb dX12_does_46 rfl (lv_at hl 1 rfl) ?_
          refine va_get (D := D) (ci := 12) (v := .ref (q 42)) (C := RX12) (T := TX12) (N := 81) hx hb hts inT_X12 hown hK.1 hP 0 rfl rfl 42 (by decide) (hts _ k_1395) (fun _ h9 => h9) rfl dX12_does_47 ?_
          refine lv_iload_n hx hb dX12_does_50 rfl (lv_at hl 3 rfl) ?_
          refine lv_aload_n hx hb dX12_does_51 rfl (lv_at hl 1 rfl) ?_
          refine va_get (D := D) (ci := 12) (v := .ref (q 42)) (C := RX12) (T := TX12) (N := 81) hx hb hts inT_X12 hown hK.1 hP 0 rfl rfl 42 (by decide) (hts _ k_1395) (fun _ h9 => h9) rfl dX12_does_52 ?_
          refine lv_iload_n hx hb dX12_does_55 rfl (lv_at hl 0 rfl) ?_
          refine ld_i hx hb hK hP 1 rfl (lf_X12_does_9 h q im m_worth m_isRefused a1 n1 ha1 c_1 x_3 c_4 x_6 c_7 c_8) dX12_does_56 (fun x_10 => ?_)
          refine st_i hx hb hK hP hD hS 1 rfl (lf_X12_does_12 h q im m_worth m_isRefused a1 n1 ha1 c_1 x_3 c_4 x_6 c_7 c_8 x_10) dX12_does_57 (fun f_11 H locs hP hD hS => ?_)
          replace hP : va_P D vwCl [(h, .inr (12, mG q im)), (q 42, .inl (cI, 240, .inl f_11)), (q 43, .inl (cZ, 240, .inl m_isRefused))] H := hP
          replace hD : va_D A [(h, .inr (12, mG q im)), (q 42, .inl (cI, 240, .inl f_11)), (q 43, .inl (cZ, 240, .inl m_isRefused))] := hD
          refine lv_aload_n hx hb dX12_does_58 rfl (lv_at hl 1 rfl) ?_
          refine va_get (D := D) (ci := 12) (v := .ref (q 43)) (C := RX12) (T := TX12) (N := 81) hx hb hts inT_X12 hown hK.1 hP 0 rfl rfl 43 (by decide) (hts _ k_1396) (fun _ h9 => h9) rfl dX12_does_59 ?_
          refine lv_iload_n hx hb dX12_does_62 rfl (lv_at hl 3 rfl) ?_
          refine lv_aload_n hx hb dX12_does_63 rfl (lv_at hl 1 rfl) ?_
          refine va_get (D := D) (ci := 12) (v := .ref (q 43)) (C := RX12) (T := TX12) (N := 81) hx hb hts inT_X12 hown hK.1 hP 0 rfl rfl 43 (by decide) (hts _ k_1396) (fun _ h9 => h9) rfl dX12_does_64 ?_
          refine lv_iload_n hx hb dX12_does_67 rfl (lv_at hl 0 rfl) ?_
          refine ld_z hx hb hK hP 2 rfl (lf_X12_does_13 h q im m_worth m_isRefused a1 n1 ha1 c_1 x_3 c_4 x_6 c_7 c_8 x_10 f_11) dX12_does_68 (fun x_14 => ?_)
          refine st_z hx hb hK hP hD hS 2 rfl (lf_X12_does_16 h q im m_worth m_isRefused a1 n1 ha1 c_1 x_3 c_4 x_6 c_7 c_8 x_10 f_11 x_14) dX12_does_69 (fun f_15 H locs hP hD hS => ?_)
          replace hP : va_P D vwCl [(h, .inr (12, mG q im)), (q 42, .inl (cI, 240, .inl f_11)), (q 43, .inl (cZ, 240, .inl f_15))] H := hP
          replace hD : va_D A [(h, .inr (12, mG q im)), (q 42, .inl (cI, 240, .inl f_11)), (q 43, .inl (cZ, 240, .inl f_15))] := hD
          exact W.vret hx hb hr (fun tt9 ht hW => ⟨⟨((f_11 : Nat → Int32), (f_15 : Nat → Int32)), rfl, trivial, ⟨by rw [ht]; exact hP, hD⟩⟩, hS.F ht⟩) hS.2.2 dX12_does_70 hlocks
        · exact W.vret hx hb hr (fun tt9 ht hW => ⟨⟨((m_worth : Nat → Int32), (m_isRefused : Nat → Int32)), rfl, trivial, ⟨by rw [ht]; exact hP, hD⟩⟩, hS.F ht⟩) hS.2.2 dX12_does_45 hlocks
      · refine lv_iconst (v := 1) hx hb dX12_does_37 (by decide) ?_
        refine lv_goto (tgt := 42) hx hb dX12_does_38 (by decide) ?_
        refine lv_icmp_eq (tgt := 46) hx hb dX12_does_42 (by decide) (fun c_17 => ?_) (fun c_17 => ?_)
        · refine lv_aload_n hx hb dX12_does_46 rfl (lv_at hl 1 rfl) ?_
          refine va_get (D := D) (ci := 12) (v := .ref (q 42)) (C := RX12) (T := TX12) (N := 81) hx hb hts inT_X12 hown hK.1 hP 0 rfl rfl 42 (by decide) (hts _ k_1395) (fun _ h9 => h9) rfl dX12_does_47 ?_
          refine lv_iload_n hx hb dX12_does_50 rfl (lv_at hl 3 rfl) ?_
          refine lv_aload_n hx hb dX12_does_51 rfl (lv_at hl 1 rfl) ?_
          refine va_get (D := D) (ci := 12) (v := .ref (q 42)) (C := RX12) (T := TX12) (N := 81) hx hb hts inT_X12 hown hK.1 hP 0 rfl rfl 42 (by decide) (hts _ k_1395) (fun _ h9 => h9) rfl dX12_does_52 ?_
          refine lv_iload_n hx hb dX12_does_55 rfl (lv_at hl 0 rfl) ?_
          refine ld_i hx hb hK hP 1 rfl (lf_X12_does_18 h q im m_worth m_isRefused a1 n1 ha1 c_1 x_3 c_4 x_6 c_7 c_17) dX12_does_56 (fun x_19 => ?_)
          refine st_i hx hb hK hP hD hS 1 rfl (lf_X12_does_21 h q im m_worth m_isRefused a1 n1 ha1 c_1 x_3 c_4 x_6 c_7 c_17 x_19) dX12_does_57 (fun f_20 H locs hP hD hS => ?_)
          replace hP : va_P D vwCl [(h, .inr (12, mG q im)), (q 42, .inl (cI, 240, .inl f_20)), (q 43, .inl (cZ, 240, .inl m_isRefused))] H := hP
          replace hD : va_D A [(h, .inr (12, mG q im)), (q 42, .inl (cI, 240, .inl f_20)), (q 43, .inl (cZ, 240, .inl m_isRefused))] := hD
          refine lv_aload_n hx hb dX12_does_58 rfl (lv_at hl 1 rfl) ?_
          refine va_get (D := D) (ci := 12) (v := .ref (q 43)) (C := RX12) (T := TX12) (N := 81) hx hb hts inT_X12 hown hK.1 hP 0 rfl rfl 43 (by decide) (hts _ k_1396) (fun _ h9 => h9) rfl dX12_does_59 ?_
          refine lv_iload_n hx hb dX12_does_62 rfl (lv_at hl 3 rfl) ?_
          refine lv_aload_n hx hb dX12_does_63 rfl (lv_at hl 1 rfl) ?_
          refine va_get (D := D) (ci := 12) (v := .ref (q 43)) (C := RX12) (T := TX12) (N := 81) hx hb hts inT_X12 hown hK.1 hP 0 rfl rfl 43 (by decide) (hts _ k_1396) (fun _ h9 => h9) rfl dX12_does_64 ?_
          refine lv_iload_n hx hb dX12_does_67 rfl (lv_at hl 0 rfl) ?_
          refine ld_z hx hb hK hP 2 rfl (lf_X12_does_22 h q im m_worth m_isRefused a1 n1 ha1 c_1 x_3 c_4 x_6 c_7 c_17 x_19 f_20) dX12_does_68 (fun x_23 => ?_)
          refine st_z hx hb hK hP hD hS 2 rfl (lf_X12_does_25 h q im m_worth m_isRefused a1 n1 ha1 c_1 x_3 c_4 x_6 c_7 c_17 x_19 f_20 x_23) dX12_does_69 (fun f_24 H locs hP hD hS => ?_)
          replace hP : va_P D vwCl [(h, .inr (12, mG q im)), (q 42, .inl (cI, 240, .inl f_20)), (q 43, .inl (cZ, 240, .inl f_24))] H := hP
          replace hD : va_D A [(h, .inr (12, mG q im)), (q 42, .inl (cI, 240, .inl f_20)), (q 43, .inl (cZ, 240, .inl f_24))] := hD
          exact W.vret hx hb hr (fun tt9 ht hW => ⟨⟨((f_20 : Nat → Int32), (f_24 : Nat → Int32)), rfl, trivial, ⟨by rw [ht]; exact hP, hD⟩⟩, hS.F ht⟩) hS.2.2 dX12_does_70 hlocks
        · exact W.vret hx hb hr (fun tt9 ht hW => ⟨⟨((m_worth : Nat → Int32), (m_isRefused : Nat → Int32)), rfl, trivial, ⟨by rw [ht]; exact hP, hD⟩⟩, hS.F ht⟩) hS.2.2 dX12_does_45 hlocks
  · refine lv_iload_n hx hb dX12_does_10 rfl (lv_at hl 2 rfl) ?_
    refine lv_bipush (v := 124) hx hb dX12_does_11 (by decide) ?_
    refine lv_icmp_ne (tgt := 71) hx hb dX12_does_13 (by decide) (fun c_26 => ?_) (fun c_26 => ?_)
    · refine lv_aload_n hx hb dX12_does_71 rfl (lv_at hl 1 rfl) ?_
      refine va_get (D := D) (ci := 12) (v := .ref (q 43)) (C := RX12) (T := TX12) (N := 81) hx hb hts inT_X12 hown hK.1 hP 0 rfl rfl 43 (by decide) (hts _ k_1396) (fun _ h9 => h9) rfl dX12_does_72 ?_
      refine lv_iload_n hx hb dX12_does_75 rfl (lv_at hl 3 rfl) ?_
      refine lv_aload_n hx hb dX12_does_76 rfl (lv_at hl 1 rfl) ?_
      refine va_get (D := D) (ci := 12) (v := .ref (q 43)) (C := RX12) (T := TX12) (N := 81) hx hb hts inT_X12 hown hK.1 hP 0 rfl rfl 43 (by decide) (hts _ k_1396) (fun _ h9 => h9) rfl dX12_does_77 ?_
      refine lv_iload_n hx hb dX12_does_80 rfl (lv_at hl 3 rfl) ?_
      refine ld_z hx hb hK hP 2 rfl (lf_X12_does_27 h q im m_worth m_isRefused a1 n1 ha1 c_1 c_26) dX12_does_81 (fun x_28 => ?_)
      refine lv_if_ne (tgt := 115) hx hb dX12_does_82 (by decide) (fun c_29 => ?_) (fun c_29 => ?_)
      · refine lv_iconst (v := 1) hx hb dX12_does_115 (by decide) ?_
        refine lv_goto (tgt := 120) hx hb dX12_does_116 (by decide) ?_
        refine st_z hx hb hK hP hD hS 2 rfl (lf_X12_does_31 h q im m_worth m_isRefused a1 n1 ha1 c_1 c_26 x_28 c_29) dX12_does_120 (fun f_30 H locs hP hD hS => ?_)
        replace hP : va_P D vwCl [(h, .inr (12, mG q im)), (q 42, .inl (cI, 240, .inl m_worth)), (q 43, .inl (cZ, 240, .inl f_30))] H := hP
        replace hD : va_D A [(h, .inr (12, mG q im)), (q 42, .inl (cI, 240, .inl m_worth)), (q 43, .inl (cZ, 240, .inl f_30))] := hD
        refine lv_aload_n hx hb dX12_does_121 rfl (lv_at hl 1 rfl) ?_
        refine va_get (D := D) (ci := 12) (v := .ref (q 42)) (C := RX12) (T := TX12) (N := 81) hx hb hts inT_X12 hown hK.1 hP 0 rfl rfl 42 (by decide) (hts _ k_1395) (fun _ h9 => h9) rfl dX12_does_122 ?_
        refine lv_iload_n hx hb dX12_does_125 rfl (lv_at hl 3 rfl) ?_
        refine lv_iload_n hx hb dX12_does_126 rfl (lv_at hl 2 rfl) ?_
        refine lv_aload_n hx hb dX12_does_127 rfl (lv_at hl 1 rfl) ?_
        refine va_get (D := D) (ci := 12) (v := .ref (q 42)) (C := RX12) (T := TX12) (N := 81) hx hb hts inT_X12 hown hK.1 hP 0 rfl rfl 42 (by decide) (hts _ k_1395) (fun _ h9 => h9) rfl dX12_does_128 ?_
        refine lv_iload_n hx hb dX12_does_131 rfl (lv_at hl 3 rfl) ?_
        refine ld_i hx hb hK hP 1 rfl (lf_X12_does_32 h q im m_worth m_isRefused a1 n1 ha1 c_1 c_26 x_28 c_29 f_30) dX12_does_132 (fun x_33 => ?_)
        refine lv_aload_n hx hb dX12_does_133 rfl (lv_at hl 1 rfl) ?_
        refine va_get (D := D) (ci := 12) (v := .ref (q 42)) (C := RX12) (T := TX12) (N := 81) hx hb hts inT_X12 hown hK.1 hP 0 rfl rfl 42 (by decide) (hts _ k_1395) (fun _ h9 => h9) rfl dX12_does_134 ?_
        refine lv_iload_n hx hb dX12_does_137 rfl (lv_at hl 0 rfl) ?_
        refine ld_i hx hb hK hP 1 rfl (lf_X12_does_34 h q im m_worth m_isRefused a1 n1 ha1 c_1 c_26 x_28 c_29 f_30 x_33) dX12_does_138 (fun x_35 => ?_)
        refine eRi (va_runS (As := [.int n1, .int x_33, .int x_35]) (rest := [.int (nI a1), .ref (q 42)]) ⟨hx, hb, hml, hown, hts⟩ (c_X12_worked l D cI cB cZ cJ tx n1 x_33 x_35 H.size) (zS hts k_1758 v_X12_worked ⟨Nat.le_of_ble_eq_true rfl, Nat.le_of_ble_eq_true rfl⟩) (px0 hK) rfl rfl hl.1 rfl (lv_room (Nat.le_of_ble_eq_true rfl)) dX12_does_139 ⟨Nat.le_of_ble_eq_true rfl, Nat.le_of_ble_eq_true rfl⟩) hP hS hA (fun r_36 H locs wr_36 hP hS => ?_)
        refine st_i hx hb hK hP hD hS 1 rfl (lf_X12_does_38 h q im m_worth m_isRefused a1 n1 ha1 c_1 c_26 x_28 c_29 f_30 x_33 x_35 r_36) dX12_does_142 (fun f_37 H locs hP hD hS => ?_)
        replace hP : va_P D vwCl [(h, .inr (12, mG q im)), (q 42, .inl (cI, 240, .inl f_37)), (q 43, .inl (cZ, 240, .inl f_30))] H := hP
        replace hD : va_D A [(h, .inr (12, mG q im)), (q 42, .inl (cI, 240, .inl f_37)), (q 43, .inl (cZ, 240, .inl f_30))] := hD
        exact W.vret hx hb hr (fun tt9 ht hW => ⟨⟨((f_37 : Nat → Int32), (f_30 : Nat → Int32)), rfl, trivial, ⟨by rw [ht]; exact hP, hD⟩⟩, hS.F ht⟩) hS.2.2 dX12_does_143 hlocks
      · refine lv_aload_n hx hb dX12_does_85 rfl (lv_at hl 1 rfl) ?_
        refine va_get (D := D) (ci := 12) (v := .ref (q 43)) (C := RX12) (T := TX12) (N := 81) hx hb hts inT_X12 hown hK.1 hP 0 rfl rfl 43 (by decide) (hts _ k_1396) (fun _ h9 => h9) rfl dX12_does_86 ?_
        refine lv_iload_n hx hb dX12_does_89 rfl (lv_at hl 0 rfl) ?_
        refine ld_z hx hb hK hP 2 rfl (lf_X12_does_39 h q im m_worth m_isRefused a1 n1 ha1 c_1 c_26 x_28 c_29) dX12_does_90 (fun x_40 => ?_)
        refine lv_if_ne (tgt := 115) hx hb dX12_does_91 (by decide) (fun c_41 => ?_) (fun c_41 => ?_)
        · refine lv_iconst (v := 1) hx hb dX12_does_115 (by decide) ?_
          refine lv_goto (tgt := 120) hx hb dX12_does_116 (by decide) ?_
          refine st_z hx hb hK hP hD hS 2 rfl (lf_X12_does_43 h q im m_worth m_isRefused a1 n1 ha1 c_1 c_26 x_28 c_29 x_40 c_41) dX12_does_120 (fun f_42 H locs hP hD hS => ?_)
          replace hP : va_P D vwCl [(h, .inr (12, mG q im)), (q 42, .inl (cI, 240, .inl m_worth)), (q 43, .inl (cZ, 240, .inl f_42))] H := hP
          replace hD : va_D A [(h, .inr (12, mG q im)), (q 42, .inl (cI, 240, .inl m_worth)), (q 43, .inl (cZ, 240, .inl f_42))] := hD
          refine lv_aload_n hx hb dX12_does_121 rfl (lv_at hl 1 rfl) ?_
          refine va_get (D := D) (ci := 12) (v := .ref (q 42)) (C := RX12) (T := TX12) (N := 81) hx hb hts inT_X12 hown hK.1 hP 0 rfl rfl 42 (by decide) (hts _ k_1395) (fun _ h9 => h9) rfl dX12_does_122 ?_
          refine lv_iload_n hx hb dX12_does_125 rfl (lv_at hl 3 rfl) ?_
          refine lv_iload_n hx hb dX12_does_126 rfl (lv_at hl 2 rfl) ?_
          refine lv_aload_n hx hb dX12_does_127 rfl (lv_at hl 1 rfl) ?_
          refine va_get (D := D) (ci := 12) (v := .ref (q 42)) (C := RX12) (T := TX12) (N := 81) hx hb hts inT_X12 hown hK.1 hP 0 rfl rfl 42 (by decide) (hts _ k_1395) (fun _ h9 => h9) rfl dX12_does_128 ?_
          refine lv_iload_n hx hb dX12_does_131 rfl (lv_at hl 3 rfl) ?_
          refine ld_i hx hb hK hP 1 rfl (lf_X12_does_44 h q im m_worth m_isRefused a1 n1 ha1 c_1 c_26 x_28 c_29 x_40 c_41 f_42) dX12_does_132 (fun x_45 => ?_)
          refine lv_aload_n hx hb dX12_does_133 rfl (lv_at hl 1 rfl) ?_
          refine va_get (D := D) (ci := 12) (v := .ref (q 42)) (C := RX12) (T := TX12) (N := 81) hx hb hts inT_X12 hown hK.1 hP 0 rfl rfl 42 (by decide) (hts _ k_1395) (fun _ h9 => h9) rfl dX12_does_134 ?_
          refine lv_iload_n hx hb dX12_does_137 rfl (lv_at hl 0 rfl) ?_
          refine ld_i hx hb hK hP 1 rfl (lf_X12_does_46 h q im m_worth m_isRefused a1 n1 ha1 c_1 c_26 x_28 c_29 x_40 c_41 f_42 x_45) dX12_does_138 (fun x_47 => ?_)
          refine eRi (va_runS (As := [.int n1, .int x_45, .int x_47]) (rest := [.int (nI a1), .ref (q 42)]) ⟨hx, hb, hml, hown, hts⟩ (c_X12_worked l D cI cB cZ cJ tx n1 x_45 x_47 H.size) (zS hts k_1758 v_X12_worked ⟨Nat.le_of_ble_eq_true rfl, Nat.le_of_ble_eq_true rfl⟩) (px0 hK) rfl rfl hl.1 rfl (lv_room (Nat.le_of_ble_eq_true rfl)) dX12_does_139 ⟨Nat.le_of_ble_eq_true rfl, Nat.le_of_ble_eq_true rfl⟩) hP hS hA (fun r_48 H locs wr_48 hP hS => ?_)
          refine st_i hx hb hK hP hD hS 1 rfl (lf_X12_does_50 h q im m_worth m_isRefused a1 n1 ha1 c_1 c_26 x_28 c_29 x_40 c_41 f_42 x_45 x_47 r_48) dX12_does_142 (fun f_49 H locs hP hD hS => ?_)
          replace hP : va_P D vwCl [(h, .inr (12, mG q im)), (q 42, .inl (cI, 240, .inl f_49)), (q 43, .inl (cZ, 240, .inl f_42))] H := hP
          replace hD : va_D A [(h, .inr (12, mG q im)), (q 42, .inl (cI, 240, .inl f_49)), (q 43, .inl (cZ, 240, .inl f_42))] := hD
          exact W.vret hx hb hr (fun tt9 ht hW => ⟨⟨((f_49 : Nat → Int32), (f_42 : Nat → Int32)), rfl, trivial, ⟨by rw [ht]; exact hP, hD⟩⟩, hS.F ht⟩) hS.2.2 dX12_does_143 hlocks
        · refine lv_iload_n hx hb dX12_does_94 rfl (lv_at hl 2 rfl) ?_
          refine lv_bipush (v := 47) hx hb dX12_does_95 (by decide) ?_
          refine lv_icmp_eq (tgt := 106) hx hb dX12_does_97 (by decide) (fun c_51 => ?_) (fun c_51 => ?_)
          · refine lv_aload_n hx hb dX12_does_106 rfl (lv_at hl 1 rfl) ?_
            refine va_get (D := D) (ci := 12) (v := .ref (q 42)) (C := RX12) (T := TX12) (N := 81) hx hb hts inT_X12 hown hK.1 hP 0 rfl rfl 42 (by decide) (hts _ k_1395) (fun _ h9 => h9) rfl dX12_does_107 ?_
            refine lv_iload_n hx hb dX12_does_110 rfl (lv_at hl 0 rfl) ?_
            refine ld_i hx hb hK hP 1 rfl (lf_X12_does_52 h q im m_worth m_isRefused a1 n1 ha1 c_1 c_26 x_28 c_29 x_40 c_41 c_51) dX12_does_111 (fun x_53 => ?_)
            refine lv_if_ne (tgt := 119) hx hb dX12_does_112 (by decide) (fun c_54 => ?_) (fun c_54 => ?_)
            · refine lv_iconst (v := 0) hx hb dX12_does_119 (by decide) ?_
              refine st_z hx hb hK hP hD hS 2 rfl (lf_X12_does_56 h q im m_worth m_isRefused a1 n1 ha1 c_1 c_26 x_28 c_29 x_40 c_41 c_51 x_53 c_54) dX12_does_120 (fun f_55 H locs hP hD hS => ?_)
              replace hP : va_P D vwCl [(h, .inr (12, mG q im)), (q 42, .inl (cI, 240, .inl m_worth)), (q 43, .inl (cZ, 240, .inl f_55))] H := hP
              replace hD : va_D A [(h, .inr (12, mG q im)), (q 42, .inl (cI, 240, .inl m_worth)), (q 43, .inl (cZ, 240, .inl f_55))] := hD
              refine lv_aload_n hx hb dX12_does_121 rfl (lv_at hl 1 rfl) ?_
              refine va_get (D := D) (ci := 12) (v := .ref (q 42)) (C := RX12) (T := TX12) (N := 81) hx hb hts inT_X12 hown hK.1 hP 0 rfl rfl 42 (by decide) (hts _ k_1395) (fun _ h9 => h9) rfl dX12_does_122 ?_
              refine lv_iload_n hx hb dX12_does_125 rfl (lv_at hl 3 rfl) ?_
              refine lv_iload_n hx hb dX12_does_126 rfl (lv_at hl 2 rfl) ?_
              refine lv_aload_n hx hb dX12_does_127 rfl (lv_at hl 1 rfl) ?_
              refine va_get (D := D) (ci := 12) (v := .ref (q 42)) (C := RX12) (T := TX12) (N := 81) hx hb hts inT_X12 hown hK.1 hP 0 rfl rfl 42 (by decide) (hts _ k_1395) (fun _ h9 => h9) rfl dX12_does_128 ?_
              refine lv_iload_n hx hb dX12_does_131 rfl (lv_at hl 3 rfl) ?_
              refine ld_i hx hb hK hP 1 rfl (lf_X12_does_57 h q im m_worth m_isRefused a1 n1 ha1 c_1 c_26 x_28 c_29 x_40 c_41 c_51 x_53 c_54 f_55) dX12_does_132 (fun x_58 => ?_)
              refine lv_aload_n hx hb dX12_does_133 rfl (lv_at hl 1 rfl) ?_
              refine va_get (D := D) (ci := 12) (v := .ref (q 42)) (C := RX12) (T := TX12) (N := 81) hx hb hts inT_X12 hown hK.1 hP 0 rfl rfl 42 (by decide) (hts _ k_1395) (fun _ h9 => h9) rfl dX12_does_134 ?_
              refine lv_iload_n hx hb dX12_does_137 rfl (lv_at hl 0 rfl) ?_
              refine ld_i hx hb hK hP 1 rfl (lf_X12_does_59 h q im m_worth m_isRefused a1 n1 ha1 c_1 c_26 x_28 c_29 x_40 c_41 c_51 x_53 c_54 f_55 x_58) dX12_does_138 (fun x_60 => ?_)
              refine eRi (va_runS (As := [.int n1, .int x_58, .int x_60]) (rest := [.int (nI a1), .ref (q 42)]) ⟨hx, hb, hml, hown, hts⟩ (c_X12_worked l D cI cB cZ cJ tx n1 x_58 x_60 H.size) (zS hts k_1758 v_X12_worked ⟨Nat.le_of_ble_eq_true rfl, Nat.le_of_ble_eq_true rfl⟩) (px0 hK) rfl rfl hl.1 rfl (lv_room (Nat.le_of_ble_eq_true rfl)) dX12_does_139 ⟨Nat.le_of_ble_eq_true rfl, Nat.le_of_ble_eq_true rfl⟩) hP hS hA (fun r_61 H locs wr_61 hP hS => ?_)
              refine st_i hx hb hK hP hD hS 1 rfl (lf_X12_does_63 h q im m_worth m_isRefused a1 n1 ha1 c_1 c_26 x_28 c_29 x_40 c_41 c_51 x_53 c_54 f_55 x_58 x_60 r_61) dX12_does_142 (fun f_62 H locs hP hD hS => ?_)
              replace hP : va_P D vwCl [(h, .inr (12, mG q im)), (q 42, .inl (cI, 240, .inl f_62)), (q 43, .inl (cZ, 240, .inl f_55))] H := hP
              replace hD : va_D A [(h, .inr (12, mG q im)), (q 42, .inl (cI, 240, .inl f_62)), (q 43, .inl (cZ, 240, .inl f_55))] := hD
              exact W.vret hx hb hr (fun tt9 ht hW => ⟨⟨((f_62 : Nat → Int32), (f_55 : Nat → Int32)), rfl, trivial, ⟨by rw [ht]; exact hP, hD⟩⟩, hS.F ht⟩) hS.2.2 dX12_does_143 hlocks
            · refine lv_iconst (v := 1) hx hb dX12_does_115 (by decide) ?_
              refine lv_goto (tgt := 120) hx hb dX12_does_116 (by decide) ?_
              refine st_z hx hb hK hP hD hS 2 rfl (lf_X12_does_65 h q im m_worth m_isRefused a1 n1 ha1 c_1 c_26 x_28 c_29 x_40 c_41 c_51 x_53 c_54) dX12_does_120 (fun f_64 H locs hP hD hS => ?_)
              replace hP : va_P D vwCl [(h, .inr (12, mG q im)), (q 42, .inl (cI, 240, .inl m_worth)), (q 43, .inl (cZ, 240, .inl f_64))] H := hP
              replace hD : va_D A [(h, .inr (12, mG q im)), (q 42, .inl (cI, 240, .inl m_worth)), (q 43, .inl (cZ, 240, .inl f_64))] := hD
              refine lv_aload_n hx hb dX12_does_121 rfl (lv_at hl 1 rfl) ?_
              refine va_get (D := D) (ci := 12) (v := .ref (q 42)) (C := RX12) (T := TX12) (N := 81) hx hb hts inT_X12 hown hK.1 hP 0 rfl rfl 42 (by decide) (hts _ k_1395) (fun _ h9 => h9) rfl dX12_does_122 ?_
              refine lv_iload_n hx hb dX12_does_125 rfl (lv_at hl 3 rfl) ?_
              refine lv_iload_n hx hb dX12_does_126 rfl (lv_at hl 2 rfl) ?_
              refine lv_aload_n hx hb dX12_does_127 rfl (lv_at hl 1 rfl) ?_
              refine va_get (D := D) (ci := 12) (v := .ref (q 42)) (C := RX12) (T := TX12) (N := 81) hx hb hts inT_X12 hown hK.1 hP 0 rfl rfl 42 (by decide) (hts _ k_1395) (fun _ h9 => h9) rfl dX12_does_128 ?_
              refine lv_iload_n hx hb dX12_does_131 rfl (lv_at hl 3 rfl) ?_
              refine ld_i hx hb hK hP 1 rfl (lf_X12_does_66 h q im m_worth m_isRefused a1 n1 ha1 c_1 c_26 x_28 c_29 x_40 c_41 c_51 x_53 c_54 f_64) dX12_does_132 (fun x_67 => ?_)
              refine lv_aload_n hx hb dX12_does_133 rfl (lv_at hl 1 rfl) ?_
              refine va_get (D := D) (ci := 12) (v := .ref (q 42)) (C := RX12) (T := TX12) (N := 81) hx hb hts inT_X12 hown hK.1 hP 0 rfl rfl 42 (by decide) (hts _ k_1395) (fun _ h9 => h9) rfl dX12_does_134 ?_
              refine lv_iload_n hx hb dX12_does_137 rfl (lv_at hl 0 rfl) ?_
              refine ld_i hx hb hK hP 1 rfl (lf_X12_does_68 h q im m_worth m_isRefused a1 n1 ha1 c_1 c_26 x_28 c_29 x_40 c_41 c_51 x_53 c_54 f_64 x_67) dX12_does_138 (fun x_69 => ?_)
              refine eRi (va_runS (As := [.int n1, .int x_67, .int x_69]) (rest := [.int (nI a1), .ref (q 42)]) ⟨hx, hb, hml, hown, hts⟩ (c_X12_worked l D cI cB cZ cJ tx n1 x_67 x_69 H.size) (zS hts k_1758 v_X12_worked ⟨Nat.le_of_ble_eq_true rfl, Nat.le_of_ble_eq_true rfl⟩) (px0 hK) rfl rfl hl.1 rfl (lv_room (Nat.le_of_ble_eq_true rfl)) dX12_does_139 ⟨Nat.le_of_ble_eq_true rfl, Nat.le_of_ble_eq_true rfl⟩) hP hS hA (fun r_70 H locs wr_70 hP hS => ?_)
              refine st_i hx hb hK hP hD hS 1 rfl (lf_X12_does_72 h q im m_worth m_isRefused a1 n1 ha1 c_1 c_26 x_28 c_29 x_40 c_41 c_51 x_53 c_54 f_64 x_67 x_69 r_70) dX12_does_142 (fun f_71 H locs hP hD hS => ?_)
              replace hP : va_P D vwCl [(h, .inr (12, mG q im)), (q 42, .inl (cI, 240, .inl f_71)), (q 43, .inl (cZ, 240, .inl f_64))] H := hP
              replace hD : va_D A [(h, .inr (12, mG q im)), (q 42, .inl (cI, 240, .inl f_71)), (q 43, .inl (cZ, 240, .inl f_64))] := hD
              exact W.vret hx hb hr (fun tt9 ht hW => ⟨⟨((f_71 : Nat → Int32), (f_64 : Nat → Int32)), rfl, trivial, ⟨by rw [ht]; exact hP, hD⟩⟩, hS.F ht⟩) hS.2.2 dX12_does_143 hlocks
          · refine lv_iload_n hx hb dX12_does_100 rfl (lv_at hl 2 rfl) ?_
            refine lv_bipush (v := 37) hx hb dX12_does_101 (by decide) ?_
            refine lv_icmp_ne (tgt := 119) hx hb dX12_does_103 (by decide) (fun c_73 => ?_) (fun c_73 => ?_)
            · refine lv_iconst (v := 0) hx hb dX12_does_119 (by decide) ?_
              refine st_z hx hb hK hP hD hS 2 rfl (lf_X12_does_75 h q im m_worth m_isRefused a1 n1 ha1 c_1 c_26 x_28 c_29 x_40 c_41 c_51 c_73) dX12_does_120 (fun f_74 H locs hP hD hS => ?_)
              replace hP : va_P D vwCl [(h, .inr (12, mG q im)), (q 42, .inl (cI, 240, .inl m_worth)), (q 43, .inl (cZ, 240, .inl f_74))] H := hP
              replace hD : va_D A [(h, .inr (12, mG q im)), (q 42, .inl (cI, 240, .inl m_worth)), (q 43, .inl (cZ, 240, .inl f_74))] := hD
              refine lv_aload_n hx hb dX12_does_121 rfl (lv_at hl 1 rfl) ?_
              refine va_get (D := D) (ci := 12) (v := .ref (q 42)) (C := RX12) (T := TX12) (N := 81) hx hb hts inT_X12 hown hK.1 hP 0 rfl rfl 42 (by decide) (hts _ k_1395) (fun _ h9 => h9) rfl dX12_does_122 ?_
              refine lv_iload_n hx hb dX12_does_125 rfl (lv_at hl 3 rfl) ?_
              refine lv_iload_n hx hb dX12_does_126 rfl (lv_at hl 2 rfl) ?_
              refine lv_aload_n hx hb dX12_does_127 rfl (lv_at hl 1 rfl) ?_
              refine va_get (D := D) (ci := 12) (v := .ref (q 42)) (C := RX12) (T := TX12) (N := 81) hx hb hts inT_X12 hown hK.1 hP 0 rfl rfl 42 (by decide) (hts _ k_1395) (fun _ h9 => h9) rfl dX12_does_128 ?_
              refine lv_iload_n hx hb dX12_does_131 rfl (lv_at hl 3 rfl) ?_
              refine ld_i hx hb hK hP 1 rfl (lf_X12_does_76 h q im m_worth m_isRefused a1 n1 ha1 c_1 c_26 x_28 c_29 x_40 c_41 c_51 c_73 f_74) dX12_does_132 (fun x_77 => ?_)
              refine lv_aload_n hx hb dX12_does_133 rfl (lv_at hl 1 rfl) ?_
              refine va_get (D := D) (ci := 12) (v := .ref (q 42)) (C := RX12) (T := TX12) (N := 81) hx hb hts inT_X12 hown hK.1 hP 0 rfl rfl 42 (by decide) (hts _ k_1395) (fun _ h9 => h9) rfl dX12_does_134 ?_
              refine lv_iload_n hx hb dX12_does_137 rfl (lv_at hl 0 rfl) ?_
              refine ld_i hx hb hK hP 1 rfl (lf_X12_does_78 h q im m_worth m_isRefused a1 n1 ha1 c_1 c_26 x_28 c_29 x_40 c_41 c_51 c_73 f_74 x_77) dX12_does_138 (fun x_79 => ?_)
              refine eRi (va_runS (As := [.int n1, .int x_77, .int x_79]) (rest := [.int (nI a1), .ref (q 42)]) ⟨hx, hb, hml, hown, hts⟩ (c_X12_worked l D cI cB cZ cJ tx n1 x_77 x_79 H.size) (zS hts k_1758 v_X12_worked ⟨Nat.le_of_ble_eq_true rfl, Nat.le_of_ble_eq_true rfl⟩) (px0 hK) rfl rfl hl.1 rfl (lv_room (Nat.le_of_ble_eq_true rfl)) dX12_does_139 ⟨Nat.le_of_ble_eq_true rfl, Nat.le_of_ble_eq_true rfl⟩) hP hS hA (fun r_80 H locs wr_80 hP hS => ?_)
              refine st_i hx hb hK hP hD hS 1 rfl (lf_X12_does_82 h q im m_worth m_isRefused a1 n1 ha1 c_1 c_26 x_28 c_29 x_40 c_41 c_51 c_73 f_74 x_77 x_79 r_80) dX12_does_142 (fun f_81 H locs hP hD hS => ?_)
              replace hP : va_P D vwCl [(h, .inr (12, mG q im)), (q 42, .inl (cI, 240, .inl f_81)), (q 43, .inl (cZ, 240, .inl f_74))] H := hP
              replace hD : va_D A [(h, .inr (12, mG q im)), (q 42, .inl (cI, 240, .inl f_81)), (q 43, .inl (cZ, 240, .inl f_74))] := hD
              exact W.vret hx hb hr (fun tt9 ht hW => ⟨⟨((f_81 : Nat → Int32), (f_74 : Nat → Int32)), rfl, trivial, ⟨by rw [ht]; exact hP, hD⟩⟩, hS.F ht⟩) hS.2.2 dX12_does_143 hlocks
            · refine lv_aload_n hx hb dX12_does_106 rfl (lv_at hl 1 rfl) ?_
              refine va_get (D := D) (ci := 12) (v := .ref (q 42)) (C := RX12) (T := TX12) (N := 81) hx hb hts inT_X12 hown hK.1 hP 0 rfl rfl 42 (by decide) (hts _ k_1395) (fun _ h9 => h9) rfl dX12_does_107 ?_
              refine lv_iload_n hx hb dX12_does_110 rfl (lv_at hl 0 rfl) ?_
              refine ld_i hx hb hK hP 1 rfl (lf_X12_does_83 h q im m_worth m_isRefused a1 n1 ha1 c_1 c_26 x_28 c_29 x_40 c_41 c_51 c_73) dX12_does_111 (fun x_84 => ?_)
              refine lv_if_ne (tgt := 119) hx hb dX12_does_112 (by decide) (fun c_85 => ?_) (fun c_85 => ?_)
              · refine lv_iconst (v := 0) hx hb dX12_does_119 (by decide) ?_
                refine st_z hx hb hK hP hD hS 2 rfl (lf_X12_does_87 h q im m_worth m_isRefused a1 n1 ha1 c_1 c_26 x_28 c_29 x_40 c_41 c_51 c_73 x_84 c_85) dX12_does_120 (fun f_86 H locs hP hD hS => ?_)
                replace hP : va_P D vwCl [(h, .inr (12, mG q im)), (q 42, .inl (cI, 240, .inl m_worth)), (q 43, .inl (cZ, 240, .inl f_86))] H := hP
                replace hD : va_D A [(h, .inr (12, mG q im)), (q 42, .inl (cI, 240, .inl m_worth)), (q 43, .inl (cZ, 240, .inl f_86))] := hD
                refine lv_aload_n hx hb dX12_does_121 rfl (lv_at hl 1 rfl) ?_
                refine va_get (D := D) (ci := 12) (v := .ref (q 42)) (C := RX12) (T := TX12) (N := 81) hx hb hts inT_X12 hown hK.1 hP 0 rfl rfl 42 (by decide) (hts _ k_1395) (fun _ h9 => h9) rfl dX12_does_122 ?_
                refine lv_iload_n hx hb dX12_does_125 rfl (lv_at hl 3 rfl) ?_
                refine lv_iload_n hx hb dX12_does_126 rfl (lv_at hl 2 rfl) ?_
                refine lv_aload_n hx hb dX12_does_127 rfl (lv_at hl 1 rfl) ?_
                refine va_get (D := D) (ci := 12) (v := .ref (q 42)) (C := RX12) (T := TX12) (N := 81) hx hb hts inT_X12 hown hK.1 hP 0 rfl rfl 42 (by decide) (hts _ k_1395) (fun _ h9 => h9) rfl dX12_does_128 ?_
                refine lv_iload_n hx hb dX12_does_131 rfl (lv_at hl 3 rfl) ?_
                refine ld_i hx hb hK hP 1 rfl (lf_X12_does_88 h q im m_worth m_isRefused a1 n1 ha1 c_1 c_26 x_28 c_29 x_40 c_41 c_51 c_73 x_84 c_85 f_86) dX12_does_132 (fun x_89 => ?_)
                refine lv_aload_n hx hb dX12_does_133 rfl (lv_at hl 1 rfl) ?_
                refine va_get (D := D) (ci := 12) (v := .ref (q 42)) (C := RX12) (T := TX12) (N := 81) hx hb hts inT_X12 hown hK.1 hP 0 rfl rfl 42 (by decide) (hts _ k_1395) (fun _ h9 => h9) rfl dX12_does_134 ?_
                refine lv_iload_n hx hb dX12_does_137 rfl (lv_at hl 0 rfl) ?_
                refine ld_i hx hb hK hP 1 rfl (lf_X12_does_90 h q im m_worth m_isRefused a1 n1 ha1 c_1 c_26 x_28 c_29 x_40 c_41 c_51 c_73 x_84 c_85 f_86 x_89) dX12_does_138 (fun x_91 => ?_)
                refine eRi (va_runS (As := [.int n1, .int x_89, .int x_91]) (rest := [.int (nI a1), .ref (q 42)]) ⟨hx, hb, hml, hown, hts⟩ (c_X12_worked l D cI cB cZ cJ tx n1 x_89 x_91 H.size) (zS hts k_1758 v_X12_worked ⟨Nat.le_of_ble_eq_true rfl, Nat.le_of_ble_eq_true rfl⟩) (px0 hK) rfl rfl hl.1 rfl (lv_room (Nat.le_of_ble_eq_true rfl)) dX12_does_139 ⟨Nat.le_of_ble_eq_true rfl, Nat.le_of_ble_eq_true rfl⟩) hP hS hA (fun r_92 H locs wr_92 hP hS => ?_)
                refine st_i hx hb hK hP hD hS 1 rfl (lf_X12_does_94 h q im m_worth m_isRefused a1 n1 ha1 c_1 c_26 x_28 c_29 x_40 c_41 c_51 c_73 x_84 c_85 f_86 x_89 x_91 r_92) dX12_does_142 (fun f_93 H locs hP hD hS => ?_)
                replace hP : va_P D vwCl [(h, .inr (12, mG q im)), (q 42, .inl (cI, 240, .inl f_93)), (q 43, .inl (cZ, 240, .inl f_86))] H := hP
                replace hD : va_D A [(h, .inr (12, mG q im)), (q 42, .inl (cI, 240, .inl f_93)), (q 43, .inl (cZ, 240, .inl f_86))] := hD
                exact W.vret hx hb hr (fun tt9 ht hW => ⟨⟨((f_93 : Nat → Int32), (f_86 : Nat → Int32)), rfl, trivial, ⟨by rw [ht]; exact hP, hD⟩⟩, hS.F ht⟩) hS.2.2 dX12_does_143 hlocks
              · refine lv_iconst (v := 1) hx hb dX12_does_115 (by decide) ?_
                refine lv_goto (tgt := 120) hx hb dX12_does_116 (by decide) ?_
                refine st_z hx hb hK hP hD hS 2 rfl (lf_X12_does_96 h q im m_worth m_isRefused a1 n1 ha1 c_1 c_26 x_28 c_29 x_40 c_41 c_51 c_73 x_84 c_85) dX12_does_120 (fun f_95 H locs hP hD hS => ?_)
                replace hP : va_P D vwCl [(h, .inr (12, mG q im)), (q 42, .inl (cI, 240, .inl m_worth)), (q 43, .inl (cZ, 240, .inl f_95))] H := hP
                replace hD : va_D A [(h, .inr (12, mG q im)), (q 42, .inl (cI, 240, .inl m_worth)), (q 43, .inl (cZ, 240, .inl f_95))] := hD
                refine lv_aload_n hx hb dX12_does_121 rfl (lv_at hl 1 rfl) ?_
                refine va_get (D := D) (ci := 12) (v := .ref (q 42)) (C := RX12) (T := TX12) (N := 81) hx hb hts inT_X12 hown hK.1 hP 0 rfl rfl 42 (by decide) (hts _ k_1395) (fun _ h9 => h9) rfl dX12_does_122 ?_
                refine lv_iload_n hx hb dX12_does_125 rfl (lv_at hl 3 rfl) ?_
                refine lv_iload_n hx hb dX12_does_126 rfl (lv_at hl 2 rfl) ?_
                refine lv_aload_n hx hb dX12_does_127 rfl (lv_at hl 1 rfl) ?_
                refine va_get (D := D) (ci := 12) (v := .ref (q 42)) (C := RX12) (T := TX12) (N := 81) hx hb hts inT_X12 hown hK.1 hP 0 rfl rfl 42 (by decide) (hts _ k_1395) (fun _ h9 => h9) rfl dX12_does_128 ?_
                refine lv_iload_n hx hb dX12_does_131 rfl (lv_at hl 3 rfl) ?_
                refine ld_i hx hb hK hP 1 rfl (lf_X12_does_97 h q im m_worth m_isRefused a1 n1 ha1 c_1 c_26 x_28 c_29 x_40 c_41 c_51 c_73 x_84 c_85 f_95) dX12_does_132 (fun x_98 => ?_)
                refine lv_aload_n hx hb dX12_does_133 rfl (lv_at hl 1 rfl) ?_
                refine va_get (D := D) (ci := 12) (v := .ref (q 42)) (C := RX12) (T := TX12) (N := 81) hx hb hts inT_X12 hown hK.1 hP 0 rfl rfl 42 (by decide) (hts _ k_1395) (fun _ h9 => h9) rfl dX12_does_134 ?_
                refine lv_iload_n hx hb dX12_does_137 rfl (lv_at hl 0 rfl) ?_
                refine ld_i hx hb hK hP 1 rfl (lf_X12_does_99 h q im m_worth m_isRefused a1 n1 ha1 c_1 c_26 x_28 c_29 x_40 c_41 c_51 c_73 x_84 c_85 f_95 x_98) dX12_does_138 (fun x_100 => ?_)
                refine eRi (va_runS (As := [.int n1, .int x_98, .int x_100]) (rest := [.int (nI a1), .ref (q 42)]) ⟨hx, hb, hml, hown, hts⟩ (c_X12_worked l D cI cB cZ cJ tx n1 x_98 x_100 H.size) (zS hts k_1758 v_X12_worked ⟨Nat.le_of_ble_eq_true rfl, Nat.le_of_ble_eq_true rfl⟩) (px0 hK) rfl rfl hl.1 rfl (lv_room (Nat.le_of_ble_eq_true rfl)) dX12_does_139 ⟨Nat.le_of_ble_eq_true rfl, Nat.le_of_ble_eq_true rfl⟩) hP hS hA (fun r_101 H locs wr_101 hP hS => ?_)
                refine st_i hx hb hK hP hD hS 1 rfl (lf_X12_does_103 h q im m_worth m_isRefused a1 n1 ha1 c_1 c_26 x_28 c_29 x_40 c_41 c_51 c_73 x_84 c_85 f_95 x_98 x_100 r_101) dX12_does_142 (fun f_102 H locs hP hD hS => ?_)
                replace hP : va_P D vwCl [(h, .inr (12, mG q im)), (q 42, .inl (cI, 240, .inl f_102)), (q 43, .inl (cZ, 240, .inl f_95))] H := hP
                replace hD : va_D A [(h, .inr (12, mG q im)), (q 42, .inl (cI, 240, .inl f_102)), (q 43, .inl (cZ, 240, .inl f_95))] := hD
                exact W.vret hx hb hr (fun tt9 ht hW => ⟨⟨((f_102 : Nat → Int32), (f_95 : Nat → Int32)), rfl, trivial, ⟨by rw [ht]; exact hP, hD⟩⟩, hS.F ht⟩) hS.2.2 dX12_does_143 hlocks
    · refine lv_aload_n hx hb dX12_does_16 rfl (lv_at hl 1 rfl) ?_
      refine va_get (D := D) (ci := 12) (v := .ref (q 43)) (C := RX12) (T := TX12) (N := 81) hx hb hts inT_X12 hown hK.1 hP 0 rfl rfl 43 (by decide) (hts _ k_1396) (fun _ h9 => h9) rfl dX12_does_17 ?_
      refine lv_iload_n hx hb dX12_does_20 rfl (lv_at hl 3 rfl) ?_
      refine ld_z hx hb hK hP 2 rfl (lf_X12_does_104 h q im m_worth m_isRefused a1 n1 ha1 c_1 c_26) dX12_does_21 (fun x_105 => ?_)
      refine lv_if_ne (tgt := 45) hx hb dX12_does_22 (by decide) (fun c_106 => ?_) (fun c_106 => ?_)
      · exact W.vret hx hb hr (fun tt9 ht hW => ⟨⟨((m_worth : Nat → Int32), (m_isRefused : Nat → Int32)), rfl, trivial, ⟨by rw [ht]; exact hP, hD⟩⟩, hS.F ht⟩) hS.2.2 dX12_does_45 hlocks
      · refine lv_aload_n hx hb dX12_does_25 rfl (lv_at hl 1 rfl) ?_
        refine va_get (D := D) (ci := 12) (v := .ref (q 42)) (C := RX12) (T := TX12) (N := 81) hx hb hts inT_X12 hown hK.1 hP 0 rfl rfl 42 (by decide) (hts _ k_1395) (fun _ h9 => h9) rfl dX12_does_26 ?_
        refine lv_iload_n hx hb dX12_does_29 rfl (lv_at hl 3 rfl) ?_
        refine ld_i hx hb hK hP 1 rfl (lf_X12_does_107 h q im m_worth m_isRefused a1 n1 ha1 c_1 c_26 x_105 c_106) dX12_does_30 (fun x_108 => ?_)
        refine lv_iload_n hx hb dX12_does_31 rfl (lv_at hl 2 rfl) ?_
        refine lv_bipush (v := 38) hx hb dX12_does_32 (by decide) ?_
        refine lv_icmp_ne (tgt := 41) hx hb dX12_does_34 (by decide) (fun c_109 => ?_) (fun c_109 => ?_)
        · refine lv_iconst (v := 0) hx hb dX12_does_41 (by decide) ?_
          refine lv_icmp_eq (tgt := 46) hx hb dX12_does_42 (by decide) (fun c_110 => ?_) (fun c_110 => ?_)
          · refine lv_aload_n hx hb dX12_does_46 rfl (lv_at hl 1 rfl) ?_
            refine va_get (D := D) (ci := 12) (v := .ref (q 42)) (C := RX12) (T := TX12) (N := 81) hx hb hts inT_X12 hown hK.1 hP 0 rfl rfl 42 (by decide) (hts _ k_1395) (fun _ h9 => h9) rfl dX12_does_47 ?_
            refine lv_iload_n hx hb dX12_does_50 rfl (lv_at hl 3 rfl) ?_
            refine lv_aload_n hx hb dX12_does_51 rfl (lv_at hl 1 rfl) ?_
            refine va_get (D := D) (ci := 12) (v := .ref (q 42)) (C := RX12) (T := TX12) (N := 81) hx hb hts inT_X12 hown hK.1 hP 0 rfl rfl 42 (by decide) (hts _ k_1395) (fun _ h9 => h9) rfl dX12_does_52 ?_
            refine lv_iload_n hx hb dX12_does_55 rfl (lv_at hl 0 rfl) ?_
            refine ld_i hx hb hK hP 1 rfl (lf_X12_does_111 h q im m_worth m_isRefused a1 n1 ha1 c_1 c_26 x_105 c_106 x_108 c_109 c_110) dX12_does_56 (fun x_112 => ?_)
            refine st_i hx hb hK hP hD hS 1 rfl (lf_X12_does_114 h q im m_worth m_isRefused a1 n1 ha1 c_1 c_26 x_105 c_106 x_108 c_109 c_110 x_112) dX12_does_57 (fun f_113 H locs hP hD hS => ?_)
            replace hP : va_P D vwCl [(h, .inr (12, mG q im)), (q 42, .inl (cI, 240, .inl f_113)), (q 43, .inl (cZ, 240, .inl m_isRefused))] H := hP
            replace hD : va_D A [(h, .inr (12, mG q im)), (q 42, .inl (cI, 240, .inl f_113)), (q 43, .inl (cZ, 240, .inl m_isRefused))] := hD
            refine lv_aload_n hx hb dX12_does_58 rfl (lv_at hl 1 rfl) ?_
            refine va_get (D := D) (ci := 12) (v := .ref (q 43)) (C := RX12) (T := TX12) (N := 81) hx hb hts inT_X12 hown hK.1 hP 0 rfl rfl 43 (by decide) (hts _ k_1396) (fun _ h9 => h9) rfl dX12_does_59 ?_
            refine lv_iload_n hx hb dX12_does_62 rfl (lv_at hl 3 rfl) ?_
            refine lv_aload_n hx hb dX12_does_63 rfl (lv_at hl 1 rfl) ?_
            refine va_get (D := D) (ci := 12) (v := .ref (q 43)) (C := RX12) (T := TX12) (N := 81) hx hb hts inT_X12 hown hK.1 hP 0 rfl rfl 43 (by decide) (hts _ k_1396) (fun _ h9 => h9) rfl dX12_does_64 ?_
            refine lv_iload_n hx hb dX12_does_67 rfl (lv_at hl 0 rfl) ?_
            refine ld_z hx hb hK hP 2 rfl (lf_X12_does_115 h q im m_worth m_isRefused a1 n1 ha1 c_1 c_26 x_105 c_106 x_108 c_109 c_110 x_112 f_113) dX12_does_68 (fun x_116 => ?_)
            refine st_z hx hb hK hP hD hS 2 rfl (lf_X12_does_118 h q im m_worth m_isRefused a1 n1 ha1 c_1 c_26 x_105 c_106 x_108 c_109 c_110 x_112 f_113 x_116) dX12_does_69 (fun f_117 H locs hP hD hS => ?_)
            replace hP : va_P D vwCl [(h, .inr (12, mG q im)), (q 42, .inl (cI, 240, .inl f_113)), (q 43, .inl (cZ, 240, .inl f_117))] H := hP
            replace hD : va_D A [(h, .inr (12, mG q im)), (q 42, .inl (cI, 240, .inl f_113)), (q 43, .inl (cZ, 240, .inl f_117))] := hD
            exact W.vret hx hb hr (fun tt9 ht hW => ⟨⟨((f_113 : Nat → Int32), (f_117 : Nat → Int32)), rfl, trivial, ⟨by rw [ht]; exact hP, hD⟩⟩, hS.F ht⟩) hS.2.2 dX12_does_70 hlocks
          · exact W.vret hx hb hr (fun tt9 ht hW => ⟨⟨((m_worth : Nat → Int32), (m_isRefused : Nat → Int32)), rfl, trivial, ⟨by rw [ht]; exact hP, hD⟩⟩, hS.F ht⟩) hS.2.2 dX12_does_45 hlocks
        · refine lv_iconst (v := 1) hx hb dX12_does_37 (by decide) ?_
          refine lv_goto (tgt := 42) hx hb dX12_does_38 (by decide) ?_
          refine lv_icmp_eq (tgt := 46) hx hb dX12_does_42 (by decide) (fun c_119 => ?_) (fun c_119 => ?_)
          · refine lv_aload_n hx hb dX12_does_46 rfl (lv_at hl 1 rfl) ?_
            refine va_get (D := D) (ci := 12) (v := .ref (q 42)) (C := RX12) (T := TX12) (N := 81) hx hb hts inT_X12 hown hK.1 hP 0 rfl rfl 42 (by decide) (hts _ k_1395) (fun _ h9 => h9) rfl dX12_does_47 ?_
            refine lv_iload_n hx hb dX12_does_50 rfl (lv_at hl 3 rfl) ?_
            refine lv_aload_n hx hb dX12_does_51 rfl (lv_at hl 1 rfl) ?_
            refine va_get (D := D) (ci := 12) (v := .ref (q 42)) (C := RX12) (T := TX12) (N := 81) hx hb hts inT_X12 hown hK.1 hP 0 rfl rfl 42 (by decide) (hts _ k_1395) (fun _ h9 => h9) rfl dX12_does_52 ?_
            refine lv_iload_n hx hb dX12_does_55 rfl (lv_at hl 0 rfl) ?_
            refine ld_i hx hb hK hP 1 rfl (lf_X12_does_120 h q im m_worth m_isRefused a1 n1 ha1 c_1 c_26 x_105 c_106 x_108 c_109 c_119) dX12_does_56 (fun x_121 => ?_)
            refine st_i hx hb hK hP hD hS 1 rfl (lf_X12_does_123 h q im m_worth m_isRefused a1 n1 ha1 c_1 c_26 x_105 c_106 x_108 c_109 c_119 x_121) dX12_does_57 (fun f_122 H locs hP hD hS => ?_)
            replace hP : va_P D vwCl [(h, .inr (12, mG q im)), (q 42, .inl (cI, 240, .inl f_122)), (q 43, .inl (cZ, 240, .inl m_isRefused))] H := hP
            replace hD : va_D A [(h, .inr (12, mG q im)), (q 42, .inl (cI, 240, .inl f_122)), (q 43, .inl (cZ, 240, .inl m_isRefused))] := hD
            refine lv_aload_n hx hb dX12_does_58 rfl (lv_at hl 1 rfl) ?_
            refine va_get (D := D) (ci := 12) (v := .ref (q 43)) (C := RX12) (T := TX12) (N := 81) hx hb hts inT_X12 hown hK.1 hP 0 rfl rfl 43 (by decide) (hts _ k_1396) (fun _ h9 => h9) rfl dX12_does_59 ?_
            refine lv_iload_n hx hb dX12_does_62 rfl (lv_at hl 3 rfl) ?_
            refine lv_aload_n hx hb dX12_does_63 rfl (lv_at hl 1 rfl) ?_
            refine va_get (D := D) (ci := 12) (v := .ref (q 43)) (C := RX12) (T := TX12) (N := 81) hx hb hts inT_X12 hown hK.1 hP 0 rfl rfl 43 (by decide) (hts _ k_1396) (fun _ h9 => h9) rfl dX12_does_64 ?_
            refine lv_iload_n hx hb dX12_does_67 rfl (lv_at hl 0 rfl) ?_
            refine ld_z hx hb hK hP 2 rfl (lf_X12_does_124 h q im m_worth m_isRefused a1 n1 ha1 c_1 c_26 x_105 c_106 x_108 c_109 c_119 x_121 f_122) dX12_does_68 (fun x_125 => ?_)
            refine st_z hx hb hK hP hD hS 2 rfl (lf_X12_does_127 h q im m_worth m_isRefused a1 n1 ha1 c_1 c_26 x_105 c_106 x_108 c_109 c_119 x_121 f_122 x_125) dX12_does_69 (fun f_126 H locs hP hD hS => ?_)
            replace hP : va_P D vwCl [(h, .inr (12, mG q im)), (q 42, .inl (cI, 240, .inl f_122)), (q 43, .inl (cZ, 240, .inl f_126))] H := hP
            replace hD : va_D A [(h, .inr (12, mG q im)), (q 42, .inl (cI, 240, .inl f_122)), (q 43, .inl (cZ, 240, .inl f_126))] := hD
            exact W.vret hx hb hr (fun tt9 ht hW => ⟨⟨((f_122 : Nat → Int32), (f_126 : Nat → Int32)), rfl, trivial, ⟨by rw [ht]; exact hP, hD⟩⟩, hS.F ht⟩) hS.2.2 dX12_does_70 hlocks
          · exact W.vret hx hb hr (fun tt9 ht hW => ⟨⟨((m_worth : Nat → Int32), (m_isRefused : Nat → Int32)), rfl, trivial, ⟨by rw [ht]; exact hP, hD⟩⟩, hS.F ht⟩) hS.2.2 dX12_does_45 hlocks

theorem lf_X12_works_3 (h : Nat) (q : Nat → Nat) (im : Nat → Int32) (m_code : Nat → Int32) (m_codeArg : Nat → Int32) (m_worth : Nat → Int32) (m_isRefused : Nat → Int32) (f0 : Nat) (g0 : Nat) (hfg : f0 ≤ g0) (hg6 : g0 ≤ 600) (hgf : g0 - f0 ≤ 200) (hGS : GS m_code f0 g0) (j1 : Nat) (dd : Nat) (m_worth_j1 : Nat → Int32) (m_isRefused_j1 : Nat → Int32) (k5 : Nat) (hj5 : j1 ≤ g0) (hk5 : g0 < j1 + (k5 + 1)) (hfj : f0 ≤ j1) (hdd : DP m_code f0 (j1 - f0) dd) (c_1 : nI g0 ≤ nI j1) : g0 ≤ j1 := by
  exact (nI_leI (a := g0) (b := j1) (by omega) (by omega)).mp c_1
theorem lf_X12_works_5 (h : Nat) (q : Nat → Nat) (im : Nat → Int32) (m_code : Nat → Int32) (m_codeArg : Nat → Int32) (m_worth : Nat → Int32) (m_isRefused : Nat → Int32) (f0 : Nat) (g0 : Nat) (hfg : f0 ≤ g0) (hg6 : g0 ≤ 600) (hgf : g0 - f0 ≤ 200) (hGS : GS m_code f0 g0) (j1 : Nat) (dd : Nat) (m_worth_j1 : Nat → Int32) (m_isRefused_j1 : Nat → Int32) (k5 : Nat) (hj5 : j1 ≤ g0) (hk5 : g0 < j1 + (k5 + 1)) (hfj : f0 ≤ j1) (hdd : DP m_code f0 (j1 - f0) dd) (c_1 : ¬ nI g0 ≤ nI j1) : j1 < g0 := by
  exact Nat.lt_of_not_le (fun q => c_1 ((nI_leI (a := g0) (b := j1) (by omega) (by omega)).mpr q))
theorem lf_X12_works_6 (h : Nat) (q : Nat → Nat) (im : Nat → Int32) (m_code : Nat → Int32) (m_codeArg : Nat → Int32) (m_worth : Nat → Int32) (m_isRefused : Nat → Int32) (f0 : Nat) (g0 : Nat) (hfg : f0 ≤ g0) (hg6 : g0 ≤ 600) (hgf : g0 - f0 ≤ 200) (hGS : GS m_code f0 g0) (j1 : Nat) (dd : Nat) (m_worth_j1 : Nat → Int32) (m_isRefused_j1 : Nat → Int32) (k5 : Nat) (hj5 : j1 ≤ g0) (hk5 : g0 < j1 + (k5 + 1)) (hfj : f0 ≤ j1) (hdd : DP m_code f0 (j1 - f0) dd) (c_1 : ¬ nI g0 ≤ nI j1) (n_4 : j1 < g0) (nx : Nat) (hst : stp (m_code j1) dd nx) (hdn : DP m_code f0 (j1 + 1 - f0) nx) (hdl : dd ≤ j1 - f0) : j1 < 600 := by
  omega
theorem lf_X12_works_8 (h : Nat) (q : Nat → Nat) (im : Nat → Int32) (m_code : Nat → Int32) (m_codeArg : Nat → Int32) (m_worth : Nat → Int32) (m_isRefused : Nat → Int32) (f0 : Nat) (g0 : Nat) (hfg : f0 ≤ g0) (hg6 : g0 ≤ 600) (hgf : g0 - f0 ≤ 200) (hGS : GS m_code f0 g0) (j1 : Nat) (dd : Nat) (m_worth_j1 : Nat → Int32) (m_isRefused_j1 : Nat → Int32) (k5 : Nat) (hj5 : j1 ≤ g0) (hk5 : g0 < j1 + (k5 + 1)) (hfj : f0 ≤ j1) (hdd : DP m_code f0 (j1 - f0) dd) (c_1 : ¬ nI g0 ≤ nI j1) (n_4 : j1 < g0) (nx : Nat) (hst : stp (m_code j1) dd nx) (hdn : DP m_code f0 (j1 + 1 - f0) nx) (hdl : dd ≤ j1 - f0) (c_7 : m_code j1 ≤ 2) : j1 < 600 := by
  omega
theorem lf_X12_works_11 (h : Nat) (q : Nat → Nat) (im : Nat → Int32) (m_code : Nat → Int32) (m_codeArg : Nat → Int32) (m_worth : Nat → Int32) (m_isRefused : Nat → Int32) (f0 : Nat) (g0 : Nat) (hfg : f0 ≤ g0) (hg6 : g0 ≤ 600) (hgf : g0 - f0 ≤ 200) (hGS : GS m_code f0 g0) (j1 : Nat) (dd : Nat) (m_worth_j1 : Nat → Int32) (m_isRefused_j1 : Nat → Int32) (k5 : Nat) (hj5 : j1 ≤ g0) (hk5 : g0 < j1 + (k5 + 1)) (hfj : f0 ≤ j1) (hdd : DP m_code f0 (j1 - f0) dd) (c_1 : ¬ nI g0 ≤ nI j1) (n_4 : j1 < g0) (nx : Nat) (hst : stp (m_code j1) dd nx) (hdn : DP m_code f0 (j1 + 1 - f0) nx) (hdl : dd ≤ j1 - f0) (c_7 : m_code j1 ≤ 2) (c_9 : ¬ m_code j1 = 2) (hpsh : nx = dd + 1) : vp_in (nI dd) 240 := by
  first | exact vp_in_nI (by omega) (by decide) | (unfold vp_in; decide)
theorem lf_X12_works_12 (h : Nat) (q : Nat → Nat) (im : Nat → Int32) (m_code : Nat → Int32) (m_codeArg : Nat → Int32) (m_worth : Nat → Int32) (m_isRefused : Nat → Int32) (f0 : Nat) (g0 : Nat) (hfg : f0 ≤ g0) (hg6 : g0 ≤ 600) (hgf : g0 - f0 ≤ 200) (hGS : GS m_code f0 g0) (j1 : Nat) (dd : Nat) (m_worth_j1 : Nat → Int32) (m_isRefused_j1 : Nat → Int32) (k5 : Nat) (hj5 : j1 ≤ g0) (hk5 : g0 < j1 + (k5 + 1)) (hfj : f0 ≤ j1) (hdd : DP m_code f0 (j1 - f0) dd) (c_1 : ¬ nI g0 ≤ nI j1) (n_4 : j1 < g0) (nx : Nat) (hst : stp (m_code j1) dd nx) (hdn : DP m_code f0 (j1 + 1 - f0) nx) (hdl : dd ≤ j1 - f0) (c_7 : m_code j1 ≤ 2) (c_9 : ¬ m_code j1 = 2) (hpsh : nx = dd + 1) (f_10 : Nat → Int32) : j1 < 600 := by
  omega
theorem lf_X12_works_14 (h : Nat) (q : Nat → Nat) (im : Nat → Int32) (m_code : Nat → Int32) (m_codeArg : Nat → Int32) (m_worth : Nat → Int32) (m_isRefused : Nat → Int32) (f0 : Nat) (g0 : Nat) (hfg : f0 ≤ g0) (hg6 : g0 ≤ 600) (hgf : g0 - f0 ≤ 200) (hGS : GS m_code f0 g0) (j1 : Nat) (dd : Nat) (m_worth_j1 : Nat → Int32) (m_isRefused_j1 : Nat → Int32) (k5 : Nat) (hj5 : j1 ≤ g0) (hk5 : g0 < j1 + (k5 + 1)) (hfj : f0 ≤ j1) (hdd : DP m_code f0 (j1 - f0) dd) (c_1 : ¬ nI g0 ≤ nI j1) (n_4 : j1 < g0) (nx : Nat) (hst : stp (m_code j1) dd nx) (hdn : DP m_code f0 (j1 + 1 - f0) nx) (hdl : dd ≤ j1 - f0) (c_7 : m_code j1 ≤ 2) (c_9 : ¬ m_code j1 = 2) (hpsh : nx = dd + 1) (f_10 : Nat → Int32) (c_13 : ¬ m_code j1 = 0) : vp_in (nI j1) 600 := by
  first | exact vp_in_nI (by omega) (by decide) | (unfold vp_in; decide)
theorem lf_X12_works_18 (h : Nat) (q : Nat → Nat) (im : Nat → Int32) (m_code : Nat → Int32) (m_codeArg : Nat → Int32) (m_worth : Nat → Int32) (m_isRefused : Nat → Int32) (f0 : Nat) (g0 : Nat) (hfg : f0 ≤ g0) (hg6 : g0 ≤ 600) (hgf : g0 - f0 ≤ 200) (hGS : GS m_code f0 g0) (j1 : Nat) (dd : Nat) (m_worth_j1 : Nat → Int32) (m_isRefused_j1 : Nat → Int32) (k5 : Nat) (hj5 : j1 ≤ g0) (hk5 : g0 < j1 + (k5 + 1)) (hfj : f0 ≤ j1) (hdd : DP m_code f0 (j1 - f0) dd) (c_1 : ¬ nI g0 ≤ nI j1) (n_4 : j1 < g0) (nx : Nat) (hst : stp (m_code j1) dd nx) (hdn : DP m_code f0 (j1 + 1 - f0) nx) (hdl : dd ≤ j1 - f0) (c_7 : m_code j1 ≤ 2) (c_9 : ¬ m_code j1 = 2) (hpsh : nx = dd + 1) (f_10 : Nat → Int32) (c_13 : ¬ m_code j1 = 0) (x_15 : Int32) (r_16 : Int32) : vp_in (nI dd) 240 := by
  first | exact vp_in_nI (by omega) (by decide) | (unfold vp_in; decide)
theorem lf_X12_works_19 (h : Nat) (q : Nat → Nat) (im : Nat → Int32) (m_code : Nat → Int32) (m_codeArg : Nat → Int32) (m_worth : Nat → Int32) (m_isRefused : Nat → Int32) (f0 : Nat) (g0 : Nat) (hfg : f0 ≤ g0) (hg6 : g0 ≤ 600) (hgf : g0 - f0 ≤ 200) (hGS : GS m_code f0 g0) (j1 : Nat) (dd : Nat) (m_worth_j1 : Nat → Int32) (m_isRefused_j1 : Nat → Int32) (k5 : Nat) (hj5 : j1 ≤ g0) (hk5 : g0 < j1 + (k5 + 1)) (hfj : f0 ≤ j1) (hdd : DP m_code f0 (j1 - f0) dd) (c_1 : ¬ nI g0 ≤ nI j1) (n_4 : j1 < g0) (nx : Nat) (hst : stp (m_code j1) dd nx) (hdn : DP m_code f0 (j1 + 1 - f0) nx) (hdl : dd ≤ j1 - f0) (c_7 : m_code j1 ≤ 2) (c_9 : ¬ m_code j1 = 2) (hpsh : nx = dd + 1) (f_10 : Nat → Int32) (c_13 : ¬ m_code j1 = 0) (x_15 : Int32) (r_16 : Int32) (f_17 : Nat → Int32) : f0 ≤ (j1 + 1) := by
  first | omega | assumption | exact DP.zero | (obtain rfl := (show nx = dd - 1 from by omega); exact hdn) | (obtain rfl := (show nx = dd from by omega); exact hdn) | (obtain rfl := (show nx = dd + 1 from by omega); exact hdn)
theorem lf_X12_works_20 (h : Nat) (q : Nat → Nat) (im : Nat → Int32) (m_code : Nat → Int32) (m_codeArg : Nat → Int32) (m_worth : Nat → Int32) (m_isRefused : Nat → Int32) (f0 : Nat) (g0 : Nat) (hfg : f0 ≤ g0) (hg6 : g0 ≤ 600) (hgf : g0 - f0 ≤ 200) (hGS : GS m_code f0 g0) (j1 : Nat) (dd : Nat) (m_worth_j1 : Nat → Int32) (m_isRefused_j1 : Nat → Int32) (k5 : Nat) (hj5 : j1 ≤ g0) (hk5 : g0 < j1 + (k5 + 1)) (hfj : f0 ≤ j1) (hdd : DP m_code f0 (j1 - f0) dd) (c_1 : ¬ nI g0 ≤ nI j1) (n_4 : j1 < g0) (nx : Nat) (hst : stp (m_code j1) dd nx) (hdn : DP m_code f0 (j1 + 1 - f0) nx) (hdl : dd ≤ j1 - f0) (c_7 : m_code j1 ≤ 2) (c_9 : ¬ m_code j1 = 2) (hpsh : nx = dd + 1) (f_10 : Nat → Int32) (c_13 : ¬ m_code j1 = 0) (x_15 : Int32) (r_16 : Int32) (f_17 : Nat → Int32) : DP m_code f0 ((j1 + 1) - f0) ((dd + 1)) := by
  first | omega | assumption | exact DP.zero | (obtain rfl := (show nx = dd - 1 from by omega); exact hdn) | (obtain rfl := (show nx = dd from by omega); exact hdn) | (obtain rfl := (show nx = dd + 1 from by omega); exact hdn)
theorem lf_X12_works_21 (h : Nat) (q : Nat → Nat) (im : Nat → Int32) (m_code : Nat → Int32) (m_codeArg : Nat → Int32) (m_worth : Nat → Int32) (m_isRefused : Nat → Int32) (f0 : Nat) (g0 : Nat) (hfg : f0 ≤ g0) (hg6 : g0 ≤ 600) (hgf : g0 - f0 ≤ 200) (hGS : GS m_code f0 g0) (j1 : Nat) (dd : Nat) (m_worth_j1 : Nat → Int32) (m_isRefused_j1 : Nat → Int32) (k5 : Nat) (hj5 : j1 ≤ g0) (hk5 : g0 < j1 + (k5 + 1)) (hfj : f0 ≤ j1) (hdd : DP m_code f0 (j1 - f0) dd) (c_1 : ¬ nI g0 ≤ nI j1) (n_4 : j1 < g0) (nx : Nat) (hst : stp (m_code j1) dd nx) (hdn : DP m_code f0 (j1 + 1 - f0) nx) (hdl : dd ≤ j1 - f0) (c_7 : m_code j1 ≤ 2) (c_9 : ¬ m_code j1 = 2) (hpsh : nx = dd + 1) (f_10 : Nat → Int32) (c_13 : m_code j1 = 0) : vp_in (nI j1) 600 := by
  first | exact vp_in_nI (by omega) (by decide) | (unfold vp_in; decide)
theorem lf_X12_works_24 (h : Nat) (q : Nat → Nat) (im : Nat → Int32) (m_code : Nat → Int32) (m_codeArg : Nat → Int32) (m_worth : Nat → Int32) (m_isRefused : Nat → Int32) (f0 : Nat) (g0 : Nat) (hfg : f0 ≤ g0) (hg6 : g0 ≤ 600) (hgf : g0 - f0 ≤ 200) (hGS : GS m_code f0 g0) (j1 : Nat) (dd : Nat) (m_worth_j1 : Nat → Int32) (m_isRefused_j1 : Nat → Int32) (k5 : Nat) (hj5 : j1 ≤ g0) (hk5 : g0 < j1 + (k5 + 1)) (hfj : f0 ≤ j1) (hdd : DP m_code f0 (j1 - f0) dd) (c_1 : ¬ nI g0 ≤ nI j1) (n_4 : j1 < g0) (nx : Nat) (hst : stp (m_code j1) dd nx) (hdn : DP m_code f0 (j1 + 1 - f0) nx) (hdl : dd ≤ j1 - f0) (c_7 : m_code j1 ≤ 2) (c_9 : ¬ m_code j1 = 2) (hpsh : nx = dd + 1) (f_10 : Nat → Int32) (c_13 : m_code j1 = 0) (x_22 : Int32) : vp_in (nI dd) 240 := by
  first | exact vp_in_nI (by omega) (by decide) | (unfold vp_in; decide)
theorem lf_X12_works_25 (h : Nat) (q : Nat → Nat) (im : Nat → Int32) (m_code : Nat → Int32) (m_codeArg : Nat → Int32) (m_worth : Nat → Int32) (m_isRefused : Nat → Int32) (f0 : Nat) (g0 : Nat) (hfg : f0 ≤ g0) (hg6 : g0 ≤ 600) (hgf : g0 - f0 ≤ 200) (hGS : GS m_code f0 g0) (j1 : Nat) (dd : Nat) (m_worth_j1 : Nat → Int32) (m_isRefused_j1 : Nat → Int32) (k5 : Nat) (hj5 : j1 ≤ g0) (hk5 : g0 < j1 + (k5 + 1)) (hfj : f0 ≤ j1) (hdd : DP m_code f0 (j1 - f0) dd) (c_1 : ¬ nI g0 ≤ nI j1) (n_4 : j1 < g0) (nx : Nat) (hst : stp (m_code j1) dd nx) (hdn : DP m_code f0 (j1 + 1 - f0) nx) (hdl : dd ≤ j1 - f0) (c_7 : m_code j1 ≤ 2) (c_9 : ¬ m_code j1 = 2) (hpsh : nx = dd + 1) (f_10 : Nat → Int32) (c_13 : m_code j1 = 0) (x_22 : Int32) (f_23 : Nat → Int32) : f0 ≤ (j1 + 1) := by
  first | omega | assumption | exact DP.zero | (obtain rfl := (show nx = dd - 1 from by omega); exact hdn) | (obtain rfl := (show nx = dd from by omega); exact hdn) | (obtain rfl := (show nx = dd + 1 from by omega); exact hdn)
theorem lf_X12_works_26 (h : Nat) (q : Nat → Nat) (im : Nat → Int32) (m_code : Nat → Int32) (m_codeArg : Nat → Int32) (m_worth : Nat → Int32) (m_isRefused : Nat → Int32) (f0 : Nat) (g0 : Nat) (hfg : f0 ≤ g0) (hg6 : g0 ≤ 600) (hgf : g0 - f0 ≤ 200) (hGS : GS m_code f0 g0) (j1 : Nat) (dd : Nat) (m_worth_j1 : Nat → Int32) (m_isRefused_j1 : Nat → Int32) (k5 : Nat) (hj5 : j1 ≤ g0) (hk5 : g0 < j1 + (k5 + 1)) (hfj : f0 ≤ j1) (hdd : DP m_code f0 (j1 - f0) dd) (c_1 : ¬ nI g0 ≤ nI j1) (n_4 : j1 < g0) (nx : Nat) (hst : stp (m_code j1) dd nx) (hdn : DP m_code f0 (j1 + 1 - f0) nx) (hdl : dd ≤ j1 - f0) (c_7 : m_code j1 ≤ 2) (c_9 : ¬ m_code j1 = 2) (hpsh : nx = dd + 1) (f_10 : Nat → Int32) (c_13 : m_code j1 = 0) (x_22 : Int32) (f_23 : Nat → Int32) : DP m_code f0 ((j1 + 1) - f0) ((dd + 1)) := by
  first | omega | assumption | exact DP.zero | (obtain rfl := (show nx = dd - 1 from by omega); exact hdn) | (obtain rfl := (show nx = dd from by omega); exact hdn) | (obtain rfl := (show nx = dd + 1 from by omega); exact hdn)
theorem lf_X12_works_27 (h : Nat) (q : Nat → Nat) (im : Nat → Int32) (m_code : Nat → Int32) (m_codeArg : Nat → Int32) (m_worth : Nat → Int32) (m_isRefused : Nat → Int32) (f0 : Nat) (g0 : Nat) (hfg : f0 ≤ g0) (hg6 : g0 ≤ 600) (hgf : g0 - f0 ≤ 200) (hGS : GS m_code f0 g0) (j1 : Nat) (dd : Nat) (m_worth_j1 : Nat → Int32) (m_isRefused_j1 : Nat → Int32) (k5 : Nat) (hj5 : j1 ≤ g0) (hk5 : g0 < j1 + (k5 + 1)) (hfj : f0 ≤ j1) (hdd : DP m_code f0 (j1 - f0) dd) (c_1 : ¬ nI g0 ≤ nI j1) (n_4 : j1 < g0) (nx : Nat) (hst : stp (m_code j1) dd nx) (hdn : DP m_code f0 (j1 + 1 - f0) nx) (hdl : dd ≤ j1 - f0) (c_7 : m_code j1 ≤ 2) (c_9 : m_code j1 = 2) (hnot : 1 ≤ dd ∧ nx = dd) : 1 ≤ dd := by
  omega
theorem lf_X12_works_28 (h : Nat) (q : Nat → Nat) (im : Nat → Int32) (m_code : Nat → Int32) (m_codeArg : Nat → Int32) (m_worth : Nat → Int32) (m_isRefused : Nat → Int32) (f0 : Nat) (g0 : Nat) (hfg : f0 ≤ g0) (hg6 : g0 ≤ 600) (hgf : g0 - f0 ≤ 200) (hGS : GS m_code f0 g0) (j1 : Nat) (dd : Nat) (m_worth_j1 : Nat → Int32) (m_isRefused_j1 : Nat → Int32) (k5 : Nat) (hj5 : j1 ≤ g0) (hk5 : g0 < j1 + (k5 + 1)) (hfj : f0 ≤ j1) (hdd : DP m_code f0 (j1 - f0) dd) (c_1 : ¬ nI g0 ≤ nI j1) (n_4 : j1 < g0) (nx : Nat) (hst : stp (m_code j1) dd nx) (hdn : DP m_code f0 (j1 + 1 - f0) nx) (hdl : dd ≤ j1 - f0) (c_7 : m_code j1 ≤ 2) (c_9 : m_code j1 = 2) (hnot : 1 ≤ dd ∧ nx = dd) : 1 ≤ dd := by
  omega
theorem lf_X12_works_29 (h : Nat) (q : Nat → Nat) (im : Nat → Int32) (m_code : Nat → Int32) (m_codeArg : Nat → Int32) (m_worth : Nat → Int32) (m_isRefused : Nat → Int32) (f0 : Nat) (g0 : Nat) (hfg : f0 ≤ g0) (hg6 : g0 ≤ 600) (hgf : g0 - f0 ≤ 200) (hGS : GS m_code f0 g0) (j1 : Nat) (dd : Nat) (m_worth_j1 : Nat → Int32) (m_isRefused_j1 : Nat → Int32) (k5 : Nat) (hj5 : j1 ≤ g0) (hk5 : g0 < j1 + (k5 + 1)) (hfj : f0 ≤ j1) (hdd : DP m_code f0 (j1 - f0) dd) (c_1 : ¬ nI g0 ≤ nI j1) (n_4 : j1 < g0) (nx : Nat) (hst : stp (m_code j1) dd nx) (hdn : DP m_code f0 (j1 + 1 - f0) nx) (hdl : dd ≤ j1 - f0) (c_7 : m_code j1 ≤ 2) (c_9 : m_code j1 = 2) (hnot : 1 ≤ dd ∧ nx = dd) : vp_in (nI (dd - 1)) 240 := by
  first | exact vp_in_nI (by omega) (by decide) | (unfold vp_in; decide)
theorem lf_X12_works_33 (h : Nat) (q : Nat → Nat) (im : Nat → Int32) (m_code : Nat → Int32) (m_codeArg : Nat → Int32) (m_worth : Nat → Int32) (m_isRefused : Nat → Int32) (f0 : Nat) (g0 : Nat) (hfg : f0 ≤ g0) (hg6 : g0 ≤ 600) (hgf : g0 - f0 ≤ 200) (hGS : GS m_code f0 g0) (j1 : Nat) (dd : Nat) (m_worth_j1 : Nat → Int32) (m_isRefused_j1 : Nat → Int32) (k5 : Nat) (hj5 : j1 ≤ g0) (hk5 : g0 < j1 + (k5 + 1)) (hfj : f0 ≤ j1) (hdd : DP m_code f0 (j1 - f0) dd) (c_1 : ¬ nI g0 ≤ nI j1) (n_4 : j1 < g0) (nx : Nat) (hst : stp (m_code j1) dd nx) (hdn : DP m_code f0 (j1 + 1 - f0) nx) (hdl : dd ≤ j1 - f0) (c_7 : m_code j1 ≤ 2) (c_9 : m_code j1 = 2) (hnot : 1 ≤ dd ∧ nx = dd) (x_30 : Int32) (x_31 : Int32) (ex_31 : x_31 = 1 - x_30) : vp_in (nI (dd - 1)) 240 := by
  first | exact vp_in_nI (by omega) (by decide) | (unfold vp_in; decide)
theorem lf_X12_works_34 (h : Nat) (q : Nat → Nat) (im : Nat → Int32) (m_code : Nat → Int32) (m_codeArg : Nat → Int32) (m_worth : Nat → Int32) (m_isRefused : Nat → Int32) (f0 : Nat) (g0 : Nat) (hfg : f0 ≤ g0) (hg6 : g0 ≤ 600) (hgf : g0 - f0 ≤ 200) (hGS : GS m_code f0 g0) (j1 : Nat) (dd : Nat) (m_worth_j1 : Nat → Int32) (m_isRefused_j1 : Nat → Int32) (k5 : Nat) (hj5 : j1 ≤ g0) (hk5 : g0 < j1 + (k5 + 1)) (hfj : f0 ≤ j1) (hdd : DP m_code f0 (j1 - f0) dd) (c_1 : ¬ nI g0 ≤ nI j1) (n_4 : j1 < g0) (nx : Nat) (hst : stp (m_code j1) dd nx) (hdn : DP m_code f0 (j1 + 1 - f0) nx) (hdl : dd ≤ j1 - f0) (c_7 : m_code j1 ≤ 2) (c_9 : m_code j1 = 2) (hnot : 1 ≤ dd ∧ nx = dd) (x_30 : Int32) (x_31 : Int32) (ex_31 : x_31 = 1 - x_30) (f_32 : Nat → Int32) : f0 ≤ (j1 + 1) := by
  first | omega | assumption | exact DP.zero | (obtain rfl := (show nx = dd - 1 from by omega); exact hdn) | (obtain rfl := (show nx = dd from by omega); exact hdn) | (obtain rfl := (show nx = dd + 1 from by omega); exact hdn)
theorem lf_X12_works_35 (h : Nat) (q : Nat → Nat) (im : Nat → Int32) (m_code : Nat → Int32) (m_codeArg : Nat → Int32) (m_worth : Nat → Int32) (m_isRefused : Nat → Int32) (f0 : Nat) (g0 : Nat) (hfg : f0 ≤ g0) (hg6 : g0 ≤ 600) (hgf : g0 - f0 ≤ 200) (hGS : GS m_code f0 g0) (j1 : Nat) (dd : Nat) (m_worth_j1 : Nat → Int32) (m_isRefused_j1 : Nat → Int32) (k5 : Nat) (hj5 : j1 ≤ g0) (hk5 : g0 < j1 + (k5 + 1)) (hfj : f0 ≤ j1) (hdd : DP m_code f0 (j1 - f0) dd) (c_1 : ¬ nI g0 ≤ nI j1) (n_4 : j1 < g0) (nx : Nat) (hst : stp (m_code j1) dd nx) (hdn : DP m_code f0 (j1 + 1 - f0) nx) (hdl : dd ≤ j1 - f0) (c_7 : m_code j1 ≤ 2) (c_9 : m_code j1 = 2) (hnot : 1 ≤ dd ∧ nx = dd) (x_30 : Int32) (x_31 : Int32) (ex_31 : x_31 = 1 - x_30) (f_32 : Nat → Int32) : DP m_code f0 ((j1 + 1) - f0) dd := by
  first | omega | assumption | exact DP.zero | (obtain rfl := (show nx = dd - 1 from by omega); exact hdn) | (obtain rfl := (show nx = dd from by omega); exact hdn) | (obtain rfl := (show nx = dd + 1 from by omega); exact hdn)
theorem lf_X12_works_36 (h : Nat) (q : Nat → Nat) (im : Nat → Int32) (m_code : Nat → Int32) (m_codeArg : Nat → Int32) (m_worth : Nat → Int32) (m_isRefused : Nat → Int32) (f0 : Nat) (g0 : Nat) (hfg : f0 ≤ g0) (hg6 : g0 ≤ 600) (hgf : g0 - f0 ≤ 200) (hGS : GS m_code f0 g0) (j1 : Nat) (dd : Nat) (m_worth_j1 : Nat → Int32) (m_isRefused_j1 : Nat → Int32) (k5 : Nat) (hj5 : j1 ≤ g0) (hk5 : g0 < j1 + (k5 + 1)) (hfj : f0 ≤ j1) (hdd : DP m_code f0 (j1 - f0) dd) (c_1 : ¬ nI g0 ≤ nI j1) (n_4 : j1 < g0) (nx : Nat) (hst : stp (m_code j1) dd nx) (hdn : DP m_code f0 (j1 + 1 - f0) nx) (hdl : dd ≤ j1 - f0) (c_7 : ¬ m_code j1 ≤ 2) (hbig : 2 ≤ dd ∧ nx + 1 = dd) : 1 ≤ dd := by
  omega
theorem lf_X12_works_37 (h : Nat) (q : Nat → Nat) (im : Nat → Int32) (m_code : Nat → Int32) (m_codeArg : Nat → Int32) (m_worth : Nat → Int32) (m_isRefused : Nat → Int32) (f0 : Nat) (g0 : Nat) (hfg : f0 ≤ g0) (hg6 : g0 ≤ 600) (hgf : g0 - f0 ≤ 200) (hGS : GS m_code f0 g0) (j1 : Nat) (dd : Nat) (m_worth_j1 : Nat → Int32) (m_isRefused_j1 : Nat → Int32) (k5 : Nat) (hj5 : j1 ≤ g0) (hk5 : g0 < j1 + (k5 + 1)) (hfj : f0 ≤ j1) (hdd : DP m_code f0 (j1 - f0) dd) (c_1 : ¬ nI g0 ≤ nI j1) (n_4 : j1 < g0) (nx : Nat) (hst : stp (m_code j1) dd nx) (hdn : DP m_code f0 (j1 + 1 - f0) nx) (hdl : dd ≤ j1 - f0) (c_7 : ¬ m_code j1 ≤ 2) (hbig : 2 ≤ dd ∧ nx + 1 = dd) : j1 < 600 := by
  omega
theorem lf_X12_works_38 (h : Nat) (q : Nat → Nat) (im : Nat → Int32) (m_code : Nat → Int32) (m_codeArg : Nat → Int32) (m_worth : Nat → Int32) (m_isRefused : Nat → Int32) (f0 : Nat) (g0 : Nat) (hfg : f0 ≤ g0) (hg6 : g0 ≤ 600) (hgf : g0 - f0 ≤ 200) (hGS : GS m_code f0 g0) (j1 : Nat) (dd : Nat) (m_worth_j1 : Nat → Int32) (m_isRefused_j1 : Nat → Int32) (k5 : Nat) (hj5 : j1 ≤ g0) (hk5 : g0 < j1 + (k5 + 1)) (hfj : f0 ≤ j1) (hdd : DP m_code f0 (j1 - f0) dd) (c_1 : ¬ nI g0 ≤ nI j1) (n_4 : j1 < g0) (nx : Nat) (hst : stp (m_code j1) dd nx) (hdn : DP m_code f0 (j1 + 1 - f0) nx) (hdl : dd ≤ j1 - f0) (c_7 : ¬ m_code j1 ≤ 2) (hbig : 2 ≤ dd ∧ nx + 1 = dd) : 1 ≤ (dd - 1) := by
  omega
theorem lf_X12_works_39 (h : Nat) (q : Nat → Nat) (im : Nat → Int32) (m_code : Nat → Int32) (m_codeArg : Nat → Int32) (m_worth : Nat → Int32) (m_isRefused : Nat → Int32) (f0 : Nat) (g0 : Nat) (hfg : f0 ≤ g0) (hg6 : g0 ≤ 600) (hgf : g0 - f0 ≤ 200) (hGS : GS m_code f0 g0) (j1 : Nat) (dd : Nat) (m_worth_j1 : Nat → Int32) (m_isRefused_j1 : Nat → Int32) (k5 : Nat) (hj5 : j1 ≤ g0) (hk5 : g0 < j1 + (k5 + 1)) (hfj : f0 ≤ j1) (hdd : DP m_code f0 (j1 - f0) dd) (c_1 : ¬ nI g0 ≤ nI j1) (n_4 : j1 < g0) (nx : Nat) (hst : stp (m_code j1) dd nx) (hdn : DP m_code f0 (j1 + 1 - f0) nx) (hdl : dd ≤ j1 - f0) (c_7 : ¬ m_code j1 ≤ 2) (hbig : 2 ≤ dd ∧ nx + 1 = dd) : ((dd - 1) - 1) + 1 < 240 := by
  first | assumption | omega | decide | rfl
theorem lf_X12_works_42 (h : Nat) (q : Nat → Nat) (im : Nat → Int32) (m_code : Nat → Int32) (m_codeArg : Nat → Int32) (m_worth : Nat → Int32) (m_isRefused : Nat → Int32) (f0 : Nat) (g0 : Nat) (hfg : f0 ≤ g0) (hg6 : g0 ≤ 600) (hgf : g0 - f0 ≤ 200) (hGS : GS m_code f0 g0) (j1 : Nat) (dd : Nat) (m_worth_j1 : Nat → Int32) (m_isRefused_j1 : Nat → Int32) (k5 : Nat) (hj5 : j1 ≤ g0) (hk5 : g0 < j1 + (k5 + 1)) (hfj : f0 ≤ j1) (hdd : DP m_code f0 (j1 - f0) dd) (c_1 : ¬ nI g0 ≤ nI j1) (n_4 : j1 < g0) (nx : Nat) (hst : stp (m_code j1) dd nx) (hdn : DP m_code f0 (j1 + 1 - f0) nx) (hdl : dd ≤ j1 - f0) (c_7 : ¬ m_code j1 ≤ 2) (hbig : 2 ≤ dd ∧ nx + 1 = dd) (m_worth_41 : Nat → Int32) (m_isRefused_41 : Nat → Int32) : f0 ≤ (j1 + 1) := by
  first | omega | assumption | exact DP.zero | (obtain rfl := (show nx = dd - 1 from by omega); exact hdn) | (obtain rfl := (show nx = dd from by omega); exact hdn) | (obtain rfl := (show nx = dd + 1 from by omega); exact hdn)
theorem lf_X12_works_43 (h : Nat) (q : Nat → Nat) (im : Nat → Int32) (m_code : Nat → Int32) (m_codeArg : Nat → Int32) (m_worth : Nat → Int32) (m_isRefused : Nat → Int32) (f0 : Nat) (g0 : Nat) (hfg : f0 ≤ g0) (hg6 : g0 ≤ 600) (hgf : g0 - f0 ≤ 200) (hGS : GS m_code f0 g0) (j1 : Nat) (dd : Nat) (m_worth_j1 : Nat → Int32) (m_isRefused_j1 : Nat → Int32) (k5 : Nat) (hj5 : j1 ≤ g0) (hk5 : g0 < j1 + (k5 + 1)) (hfj : f0 ≤ j1) (hdd : DP m_code f0 (j1 - f0) dd) (c_1 : ¬ nI g0 ≤ nI j1) (n_4 : j1 < g0) (nx : Nat) (hst : stp (m_code j1) dd nx) (hdn : DP m_code f0 (j1 + 1 - f0) nx) (hdl : dd ≤ j1 - f0) (c_7 : ¬ m_code j1 ≤ 2) (hbig : 2 ≤ dd ∧ nx + 1 = dd) (m_worth_41 : Nat → Int32) (m_isRefused_41 : Nat → Int32) : DP m_code f0 ((j1 + 1) - f0) ((dd - 1)) := by
  first | omega | assumption | exact DP.zero | (obtain rfl := (show nx = dd - 1 from by omega); exact hdn) | (obtain rfl := (show nx = dd from by omega); exact hdn) | (obtain rfl := (show nx = dd + 1 from by omega); exact hdn)
theorem lf_X12_works_44 (h : Nat) (q : Nat → Nat) (im : Nat → Int32) (m_code : Nat → Int32) (m_codeArg : Nat → Int32) (m_worth : Nat → Int32) (m_isRefused : Nat → Int32) (f0 : Nat) (g0 : Nat) (hfg : f0 ≤ g0) (hg6 : g0 ≤ 600) (hgf : g0 - f0 ≤ 200) (hGS : GS m_code f0 g0) : f0 ≤ f0 := by
  first | omega | assumption | exact DP.zero | (obtain rfl := (show nx = dd - 1 from by omega); exact hdn) | (obtain rfl := (show nx = dd from by omega); exact hdn) | (obtain rfl := (show nx = dd + 1 from by omega); exact hdn)
theorem lf_X12_works_45 (h : Nat) (q : Nat → Nat) (im : Nat → Int32) (m_code : Nat → Int32) (m_codeArg : Nat → Int32) (m_worth : Nat → Int32) (m_isRefused : Nat → Int32) (f0 : Nat) (g0 : Nat) (hfg : f0 ≤ g0) (hg6 : g0 ≤ 600) (hgf : g0 - f0 ≤ 200) (hGS : GS m_code f0 g0) : DP m_code f0 (f0 - f0) 0 := by
  first | omega | assumption | exact DP.zero | (obtain rfl := (show nx = dd - 1 from by omega); exact hdn) | (obtain rfl := (show nx = dd from by omega); exact hdn) | (obtain rfl := (show nx = dd + 1 from by omega); exact hdn)
set_option maxHeartbeats 4000000 in
set_option maxRecDepth 100000 in
theorem c_X12_works (l : Launch) (D : va_G) (cI cB cZ cJ : ClassId) (tx : List (ClassId × FieldType)) (h : Nat) (q : Nat → Nat) (im : Nat → Int32) (m_code : Nat → Int32) (m_codeArg : Nat → Int32) (m_worth : Nat → Int32) (m_isRefused : Nat → Int32) (f0 : Nat) (g0 : Nat) (hfg : f0 ≤ g0) (hg6 : g0 ≤ 600) (hgf : g0 - f0 ≤ 200) (hGS : GS m_code f0 g0) : WrV l D cI cB cZ cJ tx yX12_works cX12_works 5 none 2 0 0 [.ref h, .int (nI f0), .int (nI g0)] [(h, .inr (12, mG q im)), (q 11, .inl (cI, 600, .inl m_code)), (q 12, .inl (cI, 600, .inl m_codeArg)), (q 42, .inl (cI, 240, .inl m_worth)), (q 43, .inl (cZ, 240, .inl m_isRefused))] (fun (v : (Nat → Int32) × (Nat → Int32)) => True) (fun v => [(h, .inr (12, mG q im)), (q 11, .inl (cI, 600, .inl m_code)), (q 12, .inl (cI, 600, .inl m_codeArg)), (q 42, .inl (cI, 240, .inl v.1)), (q 43, .inl (cZ, 240, .inl v.2))]) := by
  refine wrv_of2 (by decide) (Nat.le_of_ble_eq_true rfl) ?_
  intro p e s m below meth c A ls H locs hC hK hP hD hA hS hl
  obtain ⟨hx, hb, hr, hml, hown, hts, hlocks, hin⟩ := hC
  have hown : s.vm.findClass RX12 = some m.cls := hown
  have hl : lv_has ls 5 [(0, .ref h), (1, .int (nI f0)), (2, .int (nI g0))] := hl
  refine lv_iconst (v := 0) hx hb dX12_works_0 (by decide) ?_
  refine lv_istore_n (lv' := [(3, .int 0), (0, .ref h), (1, .int (nI f0)), (2, .int (nI g0))]) hx hb dX12_works_1 rfl hl (by decide) rfl (fun ls hl => ?_)
  refine lv_iload_n hx hb dX12_works_2 rfl (lv_at hl 2 rfl) ?_
  refine lv_istore (lv' := [(4, .int (nI f0)), (3, .int 0), (0, .ref h), (1, .int (nI f0)), (2, .int (nI g0))]) hx hb dX12_works_3 hl (by decide) rfl (fun ls hl => ?_)
  have lp5 : ∀ (k5 : Nat) (j1 : Nat) (dd : Nat) (m_worth_j1 : Nat → Int32) (m_isRefused_j1 : Nat → Int32) (H : Heap) (locs : List Loc) (ls : Array Slot), j1 ≤ g0 → g0 < j1 + k5 → (f0 ≤ j1) → (DP m_code f0 (j1 - f0) dd) → va_P D vwCl [(h, .inr (12, mG q im)), (q 11, .inl (cI, 600, .inl m_code)), (q 12, .inl (cI, 600, .inl m_codeArg)), (q 42, .inl (cI, 240, .inl m_worth_j1)), (q 43, .inl (cZ, 240, .inl m_isRefused_j1))] H → va_D A [(h, .inr (12, mG q im)), (q 11, .inl (cI, 600, .inl m_code)), (q 12, .inl (cI, 600, .inl m_codeArg)), (q 42, .inl (cI, 240, .inl m_worth_j1)), (q 43, .inl (cZ, 240, .inl m_isRefused_j1))] → va_S A s.heap H locs → lv_has ls 5 [(4, .int (nI j1)), (3, .int (nI dd)), (0, .ref h), (1, .int (nI f0)), (2, .int (nI g0))] → W p l e (rmX 2 0 0) s m ([.ref h, .int (nI f0), .int (nI g0)] : List Value).toArray below meth c H locs 0 0 (MQ below (va_Qv (fun (v : (Nat → Int32) × (Nat → Int32)) => True) (fun u => BX D A ((fun v => [(h, .inr (12, mG q im)), (q 11, .inl (cI, 600, .inl m_code)), (q 12, .inl (cI, 600, .inl m_codeArg)), (q 42, .inl (cI, 240, .inl v.1)), (q 43, .inl (cZ, 240, .inl v.2))]) u)) A) ([.ref h, .int (nI f0), .int (nI g0)] : List Value).toArray s 0 0 A) (F0 m 5 ls []) := by
    intro k5
    induction k5 with
    | zero =>
      intro j1 dd m_worth_j1 m_isRefused_j1 H locs ls hj5 hk5 hfj hdd hP hD hS hl
      exact absurd hk5 (by omega)
    | succ k5 ih5 =>
      intro j1 dd m_worth_j1 m_isRefused_j1 H locs ls hj5 hk5 hfj hdd hP hD hS hl
      refine lv_iload hx hb dX12_works_5 (lv_at hl 0 rfl) ?_
      refine lv_iload_n hx hb dX12_works_7 rfl (lv_at hl 4 rfl) ?_
      refine lv_icmp_ge (tgt := 127) hx hb dX12_works_8 (by decide) (fun c_1 => ?_) (fun c_1 => ?_)
      · have n_2 : g0 ≤ j1 := (lf_X12_works_3 h q im m_code m_codeArg m_worth m_isRefused f0 g0 hfg hg6 hgf hGS j1 dd m_worth_j1 m_isRefused_j1 k5 hj5 hk5 hfj hdd c_1)
        exact W.vret hx hb hr (fun tt9 ht hW => ⟨⟨((m_worth_j1 : Nat → Int32), (m_isRefused_j1 : Nat → Int32)), rfl, trivial, ⟨by rw [ht]; exact hP, hD⟩⟩, hS.F ht⟩) hS.2.2 dX12_works_127 hlocks
      · have n_4 : j1 < g0 := (lf_X12_works_5 h q im m_code m_codeArg m_worth m_isRefused f0 g0 hfg hg6 hgf hGS j1 dd m_worth_j1 m_isRefused_j1 k5 hj5 hk5 hfj hdd c_1)
        obtain ⟨nx, hst, hdn⟩ := GS.at hGS (by omega) (by omega) hdd
        have hdl : dd ≤ j1 - f0 := DP.le hdd
        refine lv_aload_n hx hb dX12_works_11 rfl (lv_at hl 2 rfl) ?_
        refine va_get (D := D) (ci := 12) (v := .ref (q 11)) (C := RX12) (T := TX12) (N := 81) hx hb hts inT_X12 hown hK.1 hP 0 rfl rfl 11 (by decide) (hts _ k_1364) (fun _ h9 => h9) rfl dX12_works_12 ?_
        refine lv_iload hx hb dX12_works_15 (lv_at hl 0 rfl) ?_
        refine lt_i (j := j1) hx hb hK hP 1 rfl (lf_X12_works_6 h q im m_code m_codeArg m_worth m_isRefused f0 g0 hfg hg6 hgf hGS j1 dd m_worth_j1 m_isRefused_j1 k5 hj5 hk5 hfj hdd c_1 n_4 nx hst hdn hdl) (by decide) dX12_works_17 ?_
        refine lv_iconst (v := 2) hx hb dX12_works_18 (by decide) ?_
        refine lv_icmp_le (tgt := 42) hx hb dX12_works_19 (by decide) (fun c_7 => ?_) (fun c_7 => ?_)
        · refine lv_aload_n hx hb dX12_works_42 rfl (lv_at hl 2 rfl) ?_
          refine va_get (D := D) (ci := 12) (v := .ref (q 11)) (C := RX12) (T := TX12) (N := 81) hx hb hts inT_X12 hown hK.1 hP 0 rfl rfl 11 (by decide) (hts _ k_1364) (fun _ h9 => h9) rfl dX12_works_43 ?_
          refine lv_iload hx hb dX12_works_46 (lv_at hl 0 rfl) ?_
          refine lt_i (j := j1) hx hb hK hP 1 rfl (lf_X12_works_8 h q im m_code m_codeArg m_worth m_isRefused f0 g0 hfg hg6 hgf hGS j1 dd m_worth_j1 m_isRefused_j1 k5 hj5 hk5 hfj hdd c_1 n_4 nx hst hdn hdl c_7) (by decide) dX12_works_48 ?_
          refine lv_iconst (v := 2) hx hb dX12_works_49 (by decide) ?_
          refine lv_icmp_ne (tgt := 74) hx hb dX12_works_50 (by decide) (fun c_9 => ?_) (fun c_9 => ?_)
          · have hpsh : nx = dd + 1 := stp_psh hst c_7 c_9
            refine lv_aload_n hx hb dX12_works_74 rfl (lv_at hl 2 rfl) ?_
            refine va_get (D := D) (ci := 12) (v := .ref (q 43)) (C := RX12) (T := TX12) (N := 81) hx hb hts inT_X12 hown hK.1 hP 0 rfl rfl 43 (by decide) (hts _ k_1396) (fun _ h9 => h9) rfl dX12_works_75 ?_
            refine lv_iload_n hx hb dX12_works_78 rfl (lv_at hl 1 rfl) ?_
            refine lv_iconst (v := 0) hx hb dX12_works_79 (by decide) ?_
            refine st_z hx hb hK hP hD hS 4 rfl (lf_X12_works_11 h q im m_code m_codeArg m_worth m_isRefused f0 g0 hfg hg6 hgf hGS j1 dd m_worth_j1 m_isRefused_j1 k5 hj5 hk5 hfj hdd c_1 n_4 nx hst hdn hdl c_7 c_9 hpsh) dX12_works_80 (fun f_10 H locs hP hD hS => ?_)
            replace hP : va_P D vwCl [(h, .inr (12, mG q im)), (q 11, .inl (cI, 600, .inl m_code)), (q 12, .inl (cI, 600, .inl m_codeArg)), (q 42, .inl (cI, 240, .inl m_worth_j1)), (q 43, .inl (cZ, 240, .inl f_10))] H := hP
            replace hD : va_D A [(h, .inr (12, mG q im)), (q 11, .inl (cI, 600, .inl m_code)), (q 12, .inl (cI, 600, .inl m_codeArg)), (q 42, .inl (cI, 240, .inl m_worth_j1)), (q 43, .inl (cZ, 240, .inl f_10))] := hD
            refine lv_aload_n hx hb dX12_works_81 rfl (lv_at hl 2 rfl) ?_
            refine va_get (D := D) (ci := 12) (v := .ref (q 42)) (C := RX12) (T := TX12) (N := 81) hx hb hts inT_X12 hown hK.1 hP 0 rfl rfl 42 (by decide) (hts _ k_1395) (fun _ h9 => h9) rfl dX12_works_82 ?_
            refine lv_iload_n hx hb dX12_works_85 rfl (lv_at hl 1 rfl) ?_
            refine lv_aload_n hx hb dX12_works_86 rfl (lv_at hl 2 rfl) ?_
            refine va_get (D := D) (ci := 12) (v := .ref (q 11)) (C := RX12) (T := TX12) (N := 81) hx hb hts inT_X12 hown hK.1 hP 0 rfl rfl 11 (by decide) (hts _ k_1364) (fun _ h9 => h9) rfl dX12_works_87 ?_
            refine lv_iload hx hb dX12_works_90 (lv_at hl 0 rfl) ?_
            refine lt_i (j := j1) hx hb hK hP 1 rfl (lf_X12_works_12 h q im m_code m_codeArg m_worth m_isRefused f0 g0 hfg hg6 hgf hGS j1 dd m_worth_j1 m_isRefused_j1 k5 hj5 hk5 hfj hdd c_1 n_4 nx hst hdn hdl c_7 c_9 hpsh f_10) (by decide) dX12_works_92 ?_
            refine lv_if_ne (tgt := 106) hx hb dX12_works_93 (by decide) (fun c_13 => ?_) (fun c_13 => ?_)
            · refine lv_aload_n hx hb dX12_works_106 rfl (lv_at hl 2 rfl) ?_
              refine lv_aload_n hx hb dX12_works_107 rfl (lv_at hl 2 rfl) ?_
              refine va_get (D := D) (ci := 12) (v := .ref (q 12)) (C := RX12) (T := TX12) (N := 81) hx hb hts inT_X12 hown hK.1 hP 0 rfl rfl 12 (by decide) (hts _ k_1365) (fun _ h9 => h9) rfl dX12_works_108 ?_
              refine lv_iload hx hb dX12_works_111 (lv_at hl 0 rfl) ?_
              refine ld_i hx hb hK hP 2 rfl (lf_X12_works_14 h q im m_code m_codeArg m_worth m_isRefused f0 g0 hfg hg6 hgf hGS j1 dd m_worth_j1 m_isRefused_j1 k5 hj5 hk5 hfj hdd c_1 n_4 nx hst hdn hdl c_7 c_9 hpsh f_10 c_13) dX12_works_113 (fun x_15 => ?_)
              refine eRi (va_runV (As := [.int x_15]) (rest := [.int (nI dd), .ref (q 42)]) ⟨hx, hb, hml, hown, hts⟩ (c_X12_valueOf l D cI cB cZ cJ tx h q im x_15 H.size) (zV hts k_1761 v_X12_valueOf ⟨Nat.le_of_ble_eq_true rfl, Nat.le_of_ble_eq_true rfl⟩) (pV (px1 hK hP 0 rfl) hK hP 0 rfl rfl) rfl rfl hl.1 rfl (lv_room (Nat.le_of_ble_eq_true rfl)) dX12_works_114 ⟨Nat.le_of_ble_eq_true rfl, Nat.le_of_ble_eq_true rfl⟩) hP hS hA (fun r_16 H locs wr_16 hP hS => ?_)
              refine st_i hx hb hK hP hD hS 3 rfl (lf_X12_works_18 h q im m_code m_codeArg m_worth m_isRefused f0 g0 hfg hg6 hgf hGS j1 dd m_worth_j1 m_isRefused_j1 k5 hj5 hk5 hfj hdd c_1 n_4 nx hst hdn hdl c_7 c_9 hpsh f_10 c_13 x_15 r_16) dX12_works_117 (fun f_17 H locs hP hD hS => ?_)
              replace hP : va_P D vwCl [(h, .inr (12, mG q im)), (q 11, .inl (cI, 600, .inl m_code)), (q 12, .inl (cI, 600, .inl m_codeArg)), (q 42, .inl (cI, 240, .inl f_17)), (q 43, .inl (cZ, 240, .inl f_10))] H := hP
              replace hD : va_D A [(h, .inr (12, mG q im)), (q 11, .inl (cI, 600, .inl m_code)), (q 12, .inl (cI, 600, .inl m_codeArg)), (q 42, .inl (cI, 240, .inl f_17)), (q 43, .inl (cZ, 240, .inl f_10))] := hD
              refine lv_iinc (v := nI (dd + 1)) (lv' := [(3, .int (nI (dd + 1))), (4, .int (nI j1)), (0, .ref h), (1, .int (nI f0)), (2, .int (nI g0))]) hx hb dX12_works_118 hl (k := 1) rfl (nI_1 dd) (by decide) rfl (fun ls hl => ?_)
              refine lv_iinc (v := nI (j1 + 1)) (lv' := [(4, .int (nI (j1 + 1))), (3, .int (nI (dd + 1))), (0, .ref h), (1, .int (nI f0)), (2, .int (nI g0))]) hx hb dX12_works_121 hl (k := 1) rfl (nI_1 j1) (by decide) rfl (fun ls hl => ?_)
              refine lv_goto (tgt := 5) hx hb dX12_works_124 (by decide) ?_
              exact ih5 (j1 + 1) (dd + 1) f_17 f_10 H locs ls (by omega) (by omega) (lf_X12_works_19 h q im m_code m_codeArg m_worth m_isRefused f0 g0 hfg hg6 hgf hGS j1 dd m_worth_j1 m_isRefused_j1 k5 hj5 hk5 hfj hdd c_1 n_4 nx hst hdn hdl c_7 c_9 hpsh f_10 c_13 x_15 r_16 f_17) (lf_X12_works_20 h q im m_code m_codeArg m_worth m_isRefused f0 g0 hfg hg6 hgf hGS j1 dd m_worth_j1 m_isRefused_j1 k5 hj5 hk5 hfj hdd c_1 n_4 nx hst hdn hdl c_7 c_9 hpsh f_10 c_13 x_15 r_16 f_17) (hP.sub [0, 1, 2, 3, 4] rfl) (hD.sub [0, 1, 2, 3, 4] (by decide) rfl) hS (lv_sub hl [0, 1, 2, 3, 4] rfl)
            · refine lv_aload_n hx hb dX12_works_96 rfl (lv_at hl 2 rfl) ?_
              refine va_get (D := D) (ci := 12) (v := .ref (q 12)) (C := RX12) (T := TX12) (N := 81) hx hb hts inT_X12 hown hK.1 hP 0 rfl rfl 12 (by decide) (hts _ k_1365) (fun _ h9 => h9) rfl dX12_works_97 ?_
              refine lv_iload hx hb dX12_works_100 (lv_at hl 0 rfl) ?_
              refine ld_i hx hb hK hP 2 rfl (lf_X12_works_21 h q im m_code m_codeArg m_worth m_isRefused f0 g0 hfg hg6 hgf hGS j1 dd m_worth_j1 m_isRefused_j1 k5 hj5 hk5 hfj hdd c_1 n_4 nx hst hdn hdl c_7 c_9 hpsh f_10 c_13) dX12_works_102 (fun x_22 => ?_)
              refine lv_goto (tgt := 117) hx hb dX12_works_103 (by decide) ?_
              refine st_i hx hb hK hP hD hS 3 rfl (lf_X12_works_24 h q im m_code m_codeArg m_worth m_isRefused f0 g0 hfg hg6 hgf hGS j1 dd m_worth_j1 m_isRefused_j1 k5 hj5 hk5 hfj hdd c_1 n_4 nx hst hdn hdl c_7 c_9 hpsh f_10 c_13 x_22) dX12_works_117 (fun f_23 H locs hP hD hS => ?_)
              replace hP : va_P D vwCl [(h, .inr (12, mG q im)), (q 11, .inl (cI, 600, .inl m_code)), (q 12, .inl (cI, 600, .inl m_codeArg)), (q 42, .inl (cI, 240, .inl f_23)), (q 43, .inl (cZ, 240, .inl f_10))] H := hP
              replace hD : va_D A [(h, .inr (12, mG q im)), (q 11, .inl (cI, 600, .inl m_code)), (q 12, .inl (cI, 600, .inl m_codeArg)), (q 42, .inl (cI, 240, .inl f_23)), (q 43, .inl (cZ, 240, .inl f_10))] := hD
              refine lv_iinc (v := nI (dd + 1)) (lv' := [(3, .int (nI (dd + 1))), (4, .int (nI j1)), (0, .ref h), (1, .int (nI f0)), (2, .int (nI g0))]) hx hb dX12_works_118 hl (k := 1) rfl (nI_1 dd) (by decide) rfl (fun ls hl => ?_)
              refine lv_iinc (v := nI (j1 + 1)) (lv' := [(4, .int (nI (j1 + 1))), (3, .int (nI (dd + 1))), (0, .ref h), (1, .int (nI f0)), (2, .int (nI g0))]) hx hb dX12_works_121 hl (k := 1) rfl (nI_1 j1) (by decide) rfl (fun ls hl => ?_)
              refine lv_goto (tgt := 5) hx hb dX12_works_124 (by decide) ?_
              exact ih5 (j1 + 1) (dd + 1) f_23 f_10 H locs ls (by omega) (by omega) (lf_X12_works_25 h q im m_code m_codeArg m_worth m_isRefused f0 g0 hfg hg6 hgf hGS j1 dd m_worth_j1 m_isRefused_j1 k5 hj5 hk5 hfj hdd c_1 n_4 nx hst hdn hdl c_7 c_9 hpsh f_10 c_13 x_22 f_23) (lf_X12_works_26 h q im m_code m_codeArg m_worth m_isRefused f0 g0 hfg hg6 hgf hGS j1 dd m_worth_j1 m_isRefused_j1 k5 hj5 hk5 hfj hdd c_1 n_4 nx hst hdn hdl c_7 c_9 hpsh f_10 c_13 x_22 f_23) (hP.sub [0, 1, 2, 3, 4] rfl) (hD.sub [0, 1, 2, 3, 4] (by decide) rfl) hS (lv_sub hl [0, 1, 2, 3, 4] rfl)
          · have hnot : 1 ≤ dd ∧ nx = dd := stp_not hst c_9
            refine lv_aload_n hx hb dX12_works_53 rfl (lv_at hl 2 rfl) ?_
            refine va_get (D := D) (ci := 12) (v := .ref (q 42)) (C := RX12) (T := TX12) (N := 81) hx hb hts inT_X12 hown hK.1 hP 0 rfl rfl 42 (by decide) (hts _ k_1395) (fun _ h9 => h9) rfl dX12_works_54 ?_
            refine lv_iload_n hx hb dX12_works_57 rfl (lv_at hl 1 rfl) ?_
            refine lv_iconst (v := 1) hx hb dX12_works_58 (by decide) ?_
            refine lv_isub hx hb dX12_works_59 ?_
            refine lv_topv (y := nI (dd - 1)) (pk_sub (lf_X12_works_27 h q im m_code m_codeArg m_worth m_isRefused f0 g0 hfg hg6 hgf hGS j1 dd m_worth_j1 m_isRefused_j1 k5 hj5 hk5 hfj hdd c_1 n_4 nx hst hdn hdl c_7 c_9 hnot)) ?_
            refine lv_iconst (v := 1) hx hb dX12_works_60 (by decide) ?_
            refine lv_aload_n hx hb dX12_works_61 rfl (lv_at hl 2 rfl) ?_
            refine va_get (D := D) (ci := 12) (v := .ref (q 42)) (C := RX12) (T := TX12) (N := 81) hx hb hts inT_X12 hown hK.1 hP 0 rfl rfl 42 (by decide) (hts _ k_1395) (fun _ h9 => h9) rfl dX12_works_62 ?_
            refine lv_iload_n hx hb dX12_works_65 rfl (lv_at hl 1 rfl) ?_
            refine lv_iconst (v := 1) hx hb dX12_works_66 (by decide) ?_
            refine lv_isub hx hb dX12_works_67 ?_
            refine lv_topv (y := nI (dd - 1)) (pk_sub (lf_X12_works_28 h q im m_code m_codeArg m_worth m_isRefused f0 g0 hfg hg6 hgf hGS j1 dd m_worth_j1 m_isRefused_j1 k5 hj5 hk5 hfj hdd c_1 n_4 nx hst hdn hdl c_7 c_9 hnot)) ?_
            refine ld_i hx hb hK hP 3 rfl (lf_X12_works_29 h q im m_code m_codeArg m_worth m_isRefused f0 g0 hfg hg6 hgf hGS j1 dd m_worth_j1 m_isRefused_j1 k5 hj5 hk5 hfj hdd c_1 n_4 nx hst hdn hdl c_7 c_9 hnot) dX12_works_68 (fun x_30 => ?_)
            refine lv_isub hx hb dX12_works_69 ?_
            refine lv_topi (fun x_31 ex_31 => ?_)
            refine st_i hx hb hK hP hD hS 3 rfl (lf_X12_works_33 h q im m_code m_codeArg m_worth m_isRefused f0 g0 hfg hg6 hgf hGS j1 dd m_worth_j1 m_isRefused_j1 k5 hj5 hk5 hfj hdd c_1 n_4 nx hst hdn hdl c_7 c_9 hnot x_30 x_31 ex_31) dX12_works_70 (fun f_32 H locs hP hD hS => ?_)
            replace hP : va_P D vwCl [(h, .inr (12, mG q im)), (q 11, .inl (cI, 600, .inl m_code)), (q 12, .inl (cI, 600, .inl m_codeArg)), (q 42, .inl (cI, 240, .inl f_32)), (q 43, .inl (cZ, 240, .inl m_isRefused_j1))] H := hP
            replace hD : va_D A [(h, .inr (12, mG q im)), (q 11, .inl (cI, 600, .inl m_code)), (q 12, .inl (cI, 600, .inl m_codeArg)), (q 42, .inl (cI, 240, .inl f_32)), (q 43, .inl (cZ, 240, .inl m_isRefused_j1))] := hD
            refine lv_goto (tgt := 121) hx hb dX12_works_71 (by decide) ?_
            refine lv_iinc (v := nI (j1 + 1)) (lv' := [(4, .int (nI (j1 + 1))), (3, .int (nI dd)), (0, .ref h), (1, .int (nI f0)), (2, .int (nI g0))]) hx hb dX12_works_121 hl (k := 0) rfl (nI_1 j1) (by decide) rfl (fun ls hl => ?_)
            refine lv_goto (tgt := 5) hx hb dX12_works_124 (by decide) ?_
            exact ih5 (j1 + 1) dd f_32 m_isRefused_j1 H locs ls (by omega) (by omega) (lf_X12_works_34 h q im m_code m_codeArg m_worth m_isRefused f0 g0 hfg hg6 hgf hGS j1 dd m_worth_j1 m_isRefused_j1 k5 hj5 hk5 hfj hdd c_1 n_4 nx hst hdn hdl c_7 c_9 hnot x_30 x_31 ex_31 f_32) (lf_X12_works_35 h q im m_code m_codeArg m_worth m_isRefused f0 g0 hfg hg6 hgf hGS j1 dd m_worth_j1 m_isRefused_j1 k5 hj5 hk5 hfj hdd c_1 n_4 nx hst hdn hdl c_7 c_9 hnot x_30 x_31 ex_31 f_32) (hP.sub [0, 1, 2, 3, 4] rfl) (hD.sub [0, 1, 2, 3, 4] (by decide) rfl) hS (lv_sub hl [0, 1, 2, 3, 4] rfl)
        · have hbig : 2 ≤ dd ∧ nx + 1 = dd := stp_big hst c_7
          refine lv_iinc (v := nI (dd - 1)) (lv' := [(3, .int (nI (dd - 1))), (4, .int (nI j1)), (0, .ref h), (1, .int (nI f0)), (2, .int (nI g0))]) hx hb dX12_works_22 hl (k := 1) rfl (nI_dec (lf_X12_works_36 h q im m_code m_codeArg m_worth m_isRefused f0 g0 hfg hg6 hgf hGS j1 dd m_worth_j1 m_isRefused_j1 k5 hj5 hk5 hfj hdd c_1 n_4 nx hst hdn hdl c_7 hbig)) (by decide) rfl (fun ls hl => ?_)
          refine lv_aload_n hx hb dX12_works_25 rfl (lv_at hl 2 rfl) ?_
          refine lv_aload_n hx hb dX12_works_26 rfl (lv_at hl 2 rfl) ?_
          refine va_get (D := D) (ci := 12) (v := .ref (q 11)) (C := RX12) (T := TX12) (N := 81) hx hb hts inT_X12 hown hK.1 hP 0 rfl rfl 11 (by decide) (hts _ k_1364) (fun _ h9 => h9) rfl dX12_works_27 ?_
          refine lv_iload hx hb dX12_works_30 (lv_at hl 1 rfl) ?_
          refine lt_i (j := j1) hx hb hK hP 1 rfl (lf_X12_works_37 h q im m_code m_codeArg m_worth m_isRefused f0 g0 hfg hg6 hgf hGS j1 dd m_worth_j1 m_isRefused_j1 k5 hj5 hk5 hfj hdd c_1 n_4 nx hst hdn hdl c_7 hbig) (by decide) dX12_works_32 ?_
          refine lv_iload_n hx hb dX12_works_33 rfl (lv_at hl 0 rfl) ?_
          refine lv_iconst (v := 1) hx hb dX12_works_34 (by decide) ?_
          refine lv_isub hx hb dX12_works_35 ?_
          refine lv_topv (y := nI ((dd - 1) - 1)) (pk_sub (lf_X12_works_38 h q im m_code m_codeArg m_worth m_isRefused f0 g0 hfg hg6 hgf hGS j1 dd m_worth_j1 m_isRefused_j1 k5 hj5 hk5 hfj hdd c_1 n_4 nx hst hdn hdl c_7 hbig)) ?_
          refine eWv (wr := [(q 11, .inl (cI, 600, .inl m_code)), (q 12, .inl (cI, 600, .inl m_codeArg))]) (va_runV (As := [.int (m_code j1), .int (nI ((dd - 1) - 1))]) (rest := []) ⟨hx, hb, hml, hown, hts⟩ (c_X12_does l D cI cB cZ cJ tx h q im m_worth_j1 m_isRefused_j1 ((dd - 1) - 1) (m_code j1) (lf_X12_works_39 h q im m_code m_codeArg m_worth m_isRefused f0 g0 hfg hg6 hgf hGS j1 dd m_worth_j1 m_isRefused_j1 k5 hj5 hk5 hfj hdd c_1 n_4 nx hst hdn hdl c_7 hbig) H.size) (zV hts k_1754 v_X12_does ⟨Nat.le_of_ble_eq_true rfl, Nat.le_of_ble_eq_true rfl⟩) (pV (pxS hK hP hD [0, 3, 4] (by decide) rfl) hK hP 0 rfl rfl) rfl rfl hl.1 rfl (lv_room (Nat.le_of_ble_eq_true rfl)) dX12_works_36 ⟨Nat.le_of_ble_eq_true rfl, Nat.le_of_ble_eq_true rfl⟩) hP hD hS hA [0, 3, 4] [1, 2] rfl rfl (by decide) (by decide) (fun u_41 H locs wr_40 hP hD hS => ?_)
          obtain ⟨m_worth_41, m_isRefused_41⟩ := u_41
          replace hP : va_P D vwCl [(q 11, .inl (cI, 600, .inl m_code)), (q 12, .inl (cI, 600, .inl m_codeArg)), (h, .inr (12, mG q im)), (q 42, .inl (cI, 240, .inl m_worth_41)), (q 43, .inl (cZ, 240, .inl m_isRefused_41))] H := hP
          replace hD : va_D A [(q 11, .inl (cI, 600, .inl m_code)), (q 12, .inl (cI, 600, .inl m_codeArg)), (h, .inr (12, mG q im)), (q 42, .inl (cI, 240, .inl m_worth_41)), (q 43, .inl (cZ, 240, .inl m_isRefused_41))] := hD
          refine lv_goto (tgt := 121) hx hb dX12_works_39 (by decide) ?_
          refine lv_iinc (v := nI (j1 + 1)) (lv' := [(4, .int (nI (j1 + 1))), (3, .int (nI (dd - 1))), (0, .ref h), (1, .int (nI f0)), (2, .int (nI g0))]) hx hb dX12_works_121 hl (k := 1) rfl (nI_1 j1) (by decide) rfl (fun ls hl => ?_)
          refine lv_goto (tgt := 5) hx hb dX12_works_124 (by decide) ?_
          exact ih5 (j1 + 1) (dd - 1) m_worth_41 m_isRefused_41 H locs ls (by omega) (by omega) (lf_X12_works_42 h q im m_code m_codeArg m_worth m_isRefused f0 g0 hfg hg6 hgf hGS j1 dd m_worth_j1 m_isRefused_j1 k5 hj5 hk5 hfj hdd c_1 n_4 nx hst hdn hdl c_7 hbig m_worth_41 m_isRefused_41) (lf_X12_works_43 h q im m_code m_codeArg m_worth m_isRefused f0 g0 hfg hg6 hgf hGS j1 dd m_worth_j1 m_isRefused_j1 k5 hj5 hk5 hfj hdd c_1 n_4 nx hst hdn hdl c_7 hbig m_worth_41 m_isRefused_41) (hP.sub [2, 0, 1, 3, 4] rfl) (hD.sub [2, 0, 1, 3, 4] (by decide) rfl) hS (lv_sub hl [0, 1, 2, 3, 4] rfl)
  exact lp5 (g0 + 1) f0 0 m_worth m_isRefused H locs ls (by omega) (by omega) (lf_X12_works_44 h q im m_code m_codeArg m_worth m_isRefused f0 g0 hfg hg6 hgf hGS) (lf_X12_works_45 h q im m_code m_codeArg m_worth m_isRefused f0 g0 hfg hg6 hgf hGS) (hP.sub [0, 1, 2, 3, 4] rfl) (hD.sub [0, 1, 2, 3, 4] (by decide) rfl) hS (lv_sub hl [0, 1, 2, 3, 4] rfl)

theorem lf_X12_tells_1 (h : Nat) (q : Nat → Nat) (im : Nat → Int32) (m_clauseLetter : Nat → Int32) (m_sumFrom : Nat → Nat) (m_codeFrom : Nat → Nat) (m_codeTo : Nat → Nat) (m_code : Nat → Int32) (m_codeArg : Nat → Int32) (m_many : Nat → Nat) (m_worth : Nat → Int32) (m_isRefused : Nat → Int32) (t0 : Nat) (n2 : Int32) (n3 : Int32) (n4 : Int32) (ht0 : t0 < 3) (hXS : TXS m_code m_sumFrom m_codeFrom m_codeTo m_many) (hnn : n3 ≤ n4) (hmn : m_many t0 ≤ 14) (j1 : Nat) (m_worth_j1 : Nat → Int32) (m_isRefused_j1 : Nat → Int32) (k6 : Nat) (hj6 : j1 ≤ (14 * t0 + m_many t0)) (hk6 : (14 * t0 + m_many t0) < j1 + (k6 + 1)) (hj0 : 14 * t0 ≤ j1) : t0 < 3 := by
  omega
theorem lf_X12_tells_4 (h : Nat) (q : Nat → Nat) (im : Nat → Int32) (m_clauseLetter : Nat → Int32) (m_sumFrom : Nat → Nat) (m_codeFrom : Nat → Nat) (m_codeTo : Nat → Nat) (m_code : Nat → Int32) (m_codeArg : Nat → Int32) (m_many : Nat → Nat) (m_worth : Nat → Int32) (m_isRefused : Nat → Int32) (t0 : Nat) (n2 : Int32) (n3 : Int32) (n4 : Int32) (ht0 : t0 < 3) (hXS : TXS m_code m_sumFrom m_codeFrom m_codeTo m_many) (hnn : n3 ≤ n4) (hmn : m_many t0 ≤ 14) (j1 : Nat) (m_worth_j1 : Nat → Int32) (m_isRefused_j1 : Nat → Int32) (k6 : Nat) (hj6 : j1 ≤ (14 * t0 + m_many t0)) (hk6 : (14 * t0 + m_many t0) < j1 + (k6 + 1)) (hj0 : 14 * t0 ≤ j1) (c_2 : nI ((14 * t0) + (m_many t0)) ≤ nI j1) : ((14 * t0) + (m_many t0)) ≤ j1 := by
  exact (nI_leI (a := ((14 * t0) + (m_many t0))) (b := j1) (by omega) (by omega)).mp c_2
theorem lf_X12_tells_5 (h : Nat) (q : Nat → Nat) (im : Nat → Int32) (m_clauseLetter : Nat → Int32) (m_sumFrom : Nat → Nat) (m_codeFrom : Nat → Nat) (m_codeTo : Nat → Nat) (m_code : Nat → Int32) (m_codeArg : Nat → Int32) (m_many : Nat → Nat) (m_worth : Nat → Int32) (m_isRefused : Nat → Int32) (t0 : Nat) (n2 : Int32) (n3 : Int32) (n4 : Int32) (ht0 : t0 < 3) (hXS : TXS m_code m_sumFrom m_codeFrom m_codeTo m_many) (hnn : n3 ≤ n4) (hmn : m_many t0 ≤ 14) (j1 : Nat) (m_worth_j1 : Nat → Int32) (m_isRefused_j1 : Nat → Int32) (k6 : Nat) (hj6 : j1 ≤ (14 * t0 + m_many t0)) (hk6 : (14 * t0 + m_many t0) < j1 + (k6 + 1)) (hj0 : 14 * t0 ≤ j1) (c_2 : nI ((14 * t0) + (m_many t0)) ≤ nI j1) (n_3 : ((14 * t0) + (m_many t0)) ≤ j1) : (0 : Int32) = 0 ∨ (n3 ≤ (0 : Int32) ∧ (0 : Int32) ≤ n4) := by
  first | exact Or.inl rfl | exact Or.inr ⟨Int32.le_refl _, hnn⟩ | exact Or.inr ⟨hnn, Int32.le_refl _⟩ | exact Or.inr ⟨by assumption, by assumption⟩ | exact Or.inr ⟨Int32.not_lt.mp (by assumption), Int32.not_lt.mp (by assumption)⟩ | exact Or.inr ⟨by assumption, Int32.not_lt.mp (by assumption)⟩
theorem lf_X12_tells_7 (h : Nat) (q : Nat → Nat) (im : Nat → Int32) (m_clauseLetter : Nat → Int32) (m_sumFrom : Nat → Nat) (m_codeFrom : Nat → Nat) (m_codeTo : Nat → Nat) (m_code : Nat → Int32) (m_codeArg : Nat → Int32) (m_many : Nat → Nat) (m_worth : Nat → Int32) (m_isRefused : Nat → Int32) (t0 : Nat) (n2 : Int32) (n3 : Int32) (n4 : Int32) (ht0 : t0 < 3) (hXS : TXS m_code m_sumFrom m_codeFrom m_codeTo m_many) (hnn : n3 ≤ n4) (hmn : m_many t0 ≤ 14) (j1 : Nat) (m_worth_j1 : Nat → Int32) (m_isRefused_j1 : Nat → Int32) (k6 : Nat) (hj6 : j1 ≤ (14 * t0 + m_many t0)) (hk6 : (14 * t0 + m_many t0) < j1 + (k6 + 1)) (hj0 : 14 * t0 ≤ j1) (c_2 : ¬ nI ((14 * t0) + (m_many t0)) ≤ nI j1) : j1 < ((14 * t0) + (m_many t0)) := by
  exact Nat.lt_of_not_le (fun q => c_2 ((nI_leI (a := ((14 * t0) + (m_many t0))) (b := j1) (by omega) (by omega)).mpr q))
theorem lf_X12_tells_8 (h : Nat) (q : Nat → Nat) (im : Nat → Int32) (m_clauseLetter : Nat → Int32) (m_sumFrom : Nat → Nat) (m_codeFrom : Nat → Nat) (m_codeTo : Nat → Nat) (m_code : Nat → Int32) (m_codeArg : Nat → Int32) (m_many : Nat → Nat) (m_worth : Nat → Int32) (m_isRefused : Nat → Int32) (t0 : Nat) (n2 : Int32) (n3 : Int32) (n4 : Int32) (ht0 : t0 < 3) (hXS : TXS m_code m_sumFrom m_codeFrom m_codeTo m_many) (hnn : n3 ≤ n4) (hmn : m_many t0 ≤ 14) (j1 : Nat) (m_worth_j1 : Nat → Int32) (m_isRefused_j1 : Nat → Int32) (k6 : Nat) (hj6 : j1 ≤ (14 * t0 + m_many t0)) (hk6 : (14 * t0 + m_many t0) < j1 + (k6 + 1)) (hj0 : 14 * t0 ≤ j1) (c_2 : ¬ nI ((14 * t0) + (m_many t0)) ≤ nI j1) (n_6 : j1 < ((14 * t0) + (m_many t0))) (hx1 : 200 * t0 ≤ m_sumFrom j1) (hx2 : m_sumFrom j1 ≤ m_codeFrom j1) (hx3 : m_codeFrom j1 ≤ m_codeTo j1) (hx4 : m_codeTo j1 ≤ 200 * t0 + 200) (hx5 : GS m_code (m_sumFrom j1) (m_codeFrom j1)) (hx6 : GS m_code (m_codeFrom j1) (m_codeTo j1)) : vp_in (nI j1) 42 := by
  first | exact vp_in_nI (by omega) (by decide) | (unfold vp_in; decide)
theorem lf_X12_tells_11 (h : Nat) (q : Nat → Nat) (im : Nat → Int32) (m_clauseLetter : Nat → Int32) (m_sumFrom : Nat → Nat) (m_codeFrom : Nat → Nat) (m_codeTo : Nat → Nat) (m_code : Nat → Int32) (m_codeArg : Nat → Int32) (m_many : Nat → Nat) (m_worth : Nat → Int32) (m_isRefused : Nat → Int32) (t0 : Nat) (n2 : Int32) (n3 : Int32) (n4 : Int32) (ht0 : t0 < 3) (hXS : TXS m_code m_sumFrom m_codeFrom m_codeTo m_many) (hnn : n3 ≤ n4) (hmn : m_many t0 ≤ 14) (j1 : Nat) (m_worth_j1 : Nat → Int32) (m_isRefused_j1 : Nat → Int32) (k6 : Nat) (hj6 : j1 ≤ (14 * t0 + m_many t0)) (hk6 : (14 * t0 + m_many t0) < j1 + (k6 + 1)) (hj0 : 14 * t0 ≤ j1) (c_2 : ¬ nI ((14 * t0) + (m_many t0)) ≤ nI j1) (n_6 : j1 < ((14 * t0) + (m_many t0))) (hx1 : 200 * t0 ≤ m_sumFrom j1) (hx2 : m_sumFrom j1 ≤ m_codeFrom j1) (hx3 : m_codeFrom j1 ≤ m_codeTo j1) (hx4 : m_codeTo j1 ≤ 200 * t0 + 200) (hx5 : GS m_code (m_sumFrom j1) (m_codeFrom j1)) (hx6 : GS m_code (m_codeFrom j1) (m_codeTo j1)) (x_9 : Int32) (c_10 : x_9 = n2) : j1 < 42 := by
  omega
theorem lf_X12_tells_12 (h : Nat) (q : Nat → Nat) (im : Nat → Int32) (m_clauseLetter : Nat → Int32) (m_sumFrom : Nat → Nat) (m_codeFrom : Nat → Nat) (m_codeTo : Nat → Nat) (m_code : Nat → Int32) (m_codeArg : Nat → Int32) (m_many : Nat → Nat) (m_worth : Nat → Int32) (m_isRefused : Nat → Int32) (t0 : Nat) (n2 : Int32) (n3 : Int32) (n4 : Int32) (ht0 : t0 < 3) (hXS : TXS m_code m_sumFrom m_codeFrom m_codeTo m_many) (hnn : n3 ≤ n4) (hmn : m_many t0 ≤ 14) (j1 : Nat) (m_worth_j1 : Nat → Int32) (m_isRefused_j1 : Nat → Int32) (k6 : Nat) (hj6 : j1 ≤ (14 * t0 + m_many t0)) (hk6 : (14 * t0 + m_many t0) < j1 + (k6 + 1)) (hj0 : 14 * t0 ≤ j1) (c_2 : ¬ nI ((14 * t0) + (m_many t0)) ≤ nI j1) (n_6 : j1 < ((14 * t0) + (m_many t0))) (hx1 : 200 * t0 ≤ m_sumFrom j1) (hx2 : m_sumFrom j1 ≤ m_codeFrom j1) (hx3 : m_codeFrom j1 ≤ m_codeTo j1) (hx4 : m_codeTo j1 ≤ 200 * t0 + 200) (hx5 : GS m_code (m_sumFrom j1) (m_codeFrom j1)) (hx6 : GS m_code (m_codeFrom j1) (m_codeTo j1)) (x_9 : Int32) (c_10 : x_9 = n2) : j1 < 42 := by
  omega
theorem lf_X12_tells_13 (h : Nat) (q : Nat → Nat) (im : Nat → Int32) (m_clauseLetter : Nat → Int32) (m_sumFrom : Nat → Nat) (m_codeFrom : Nat → Nat) (m_codeTo : Nat → Nat) (m_code : Nat → Int32) (m_codeArg : Nat → Int32) (m_many : Nat → Nat) (m_worth : Nat → Int32) (m_isRefused : Nat → Int32) (t0 : Nat) (n2 : Int32) (n3 : Int32) (n4 : Int32) (ht0 : t0 < 3) (hXS : TXS m_code m_sumFrom m_codeFrom m_codeTo m_many) (hnn : n3 ≤ n4) (hmn : m_many t0 ≤ 14) (j1 : Nat) (m_worth_j1 : Nat → Int32) (m_isRefused_j1 : Nat → Int32) (k6 : Nat) (hj6 : j1 ≤ (14 * t0 + m_many t0)) (hk6 : (14 * t0 + m_many t0) < j1 + (k6 + 1)) (hj0 : 14 * t0 ≤ j1) (c_2 : ¬ nI ((14 * t0) + (m_many t0)) ≤ nI j1) (n_6 : j1 < ((14 * t0) + (m_many t0))) (hx1 : 200 * t0 ≤ m_sumFrom j1) (hx2 : m_sumFrom j1 ≤ m_codeFrom j1) (hx3 : m_codeFrom j1 ≤ m_codeTo j1) (hx4 : m_codeTo j1 ≤ 200 * t0 + 200) (hx5 : GS m_code (m_sumFrom j1) (m_codeFrom j1)) (hx6 : GS m_code (m_codeFrom j1) (m_codeTo j1)) (x_9 : Int32) (c_10 : x_9 = n2) : (m_codeFrom j1) ≤ (m_codeTo j1) := by
  first | assumption | omega | decide | rfl
theorem lf_X12_tells_14 (h : Nat) (q : Nat → Nat) (im : Nat → Int32) (m_clauseLetter : Nat → Int32) (m_sumFrom : Nat → Nat) (m_codeFrom : Nat → Nat) (m_codeTo : Nat → Nat) (m_code : Nat → Int32) (m_codeArg : Nat → Int32) (m_many : Nat → Nat) (m_worth : Nat → Int32) (m_isRefused : Nat → Int32) (t0 : Nat) (n2 : Int32) (n3 : Int32) (n4 : Int32) (ht0 : t0 < 3) (hXS : TXS m_code m_sumFrom m_codeFrom m_codeTo m_many) (hnn : n3 ≤ n4) (hmn : m_many t0 ≤ 14) (j1 : Nat) (m_worth_j1 : Nat → Int32) (m_isRefused_j1 : Nat → Int32) (k6 : Nat) (hj6 : j1 ≤ (14 * t0 + m_many t0)) (hk6 : (14 * t0 + m_many t0) < j1 + (k6 + 1)) (hj0 : 14 * t0 ≤ j1) (c_2 : ¬ nI ((14 * t0) + (m_many t0)) ≤ nI j1) (n_6 : j1 < ((14 * t0) + (m_many t0))) (hx1 : 200 * t0 ≤ m_sumFrom j1) (hx2 : m_sumFrom j1 ≤ m_codeFrom j1) (hx3 : m_codeFrom j1 ≤ m_codeTo j1) (hx4 : m_codeTo j1 ≤ 200 * t0 + 200) (hx5 : GS m_code (m_sumFrom j1) (m_codeFrom j1)) (hx6 : GS m_code (m_codeFrom j1) (m_codeTo j1)) (x_9 : Int32) (c_10 : x_9 = n2) : (m_codeTo j1) ≤ 600 := by
  first | assumption | omega | decide | rfl
theorem lf_X12_tells_15 (h : Nat) (q : Nat → Nat) (im : Nat → Int32) (m_clauseLetter : Nat → Int32) (m_sumFrom : Nat → Nat) (m_codeFrom : Nat → Nat) (m_codeTo : Nat → Nat) (m_code : Nat → Int32) (m_codeArg : Nat → Int32) (m_many : Nat → Nat) (m_worth : Nat → Int32) (m_isRefused : Nat → Int32) (t0 : Nat) (n2 : Int32) (n3 : Int32) (n4 : Int32) (ht0 : t0 < 3) (hXS : TXS m_code m_sumFrom m_codeFrom m_codeTo m_many) (hnn : n3 ≤ n4) (hmn : m_many t0 ≤ 14) (j1 : Nat) (m_worth_j1 : Nat → Int32) (m_isRefused_j1 : Nat → Int32) (k6 : Nat) (hj6 : j1 ≤ (14 * t0 + m_many t0)) (hk6 : (14 * t0 + m_many t0) < j1 + (k6 + 1)) (hj0 : 14 * t0 ≤ j1) (c_2 : ¬ nI ((14 * t0) + (m_many t0)) ≤ nI j1) (n_6 : j1 < ((14 * t0) + (m_many t0))) (hx1 : 200 * t0 ≤ m_sumFrom j1) (hx2 : m_sumFrom j1 ≤ m_codeFrom j1) (hx3 : m_codeFrom j1 ≤ m_codeTo j1) (hx4 : m_codeTo j1 ≤ 200 * t0 + 200) (hx5 : GS m_code (m_sumFrom j1) (m_codeFrom j1)) (hx6 : GS m_code (m_codeFrom j1) (m_codeTo j1)) (x_9 : Int32) (c_10 : x_9 = n2) : (m_codeTo j1) - (m_codeFrom j1) ≤ 200 := by
  first | assumption | omega | decide | rfl
theorem lf_X12_tells_16 (h : Nat) (q : Nat → Nat) (im : Nat → Int32) (m_clauseLetter : Nat → Int32) (m_sumFrom : Nat → Nat) (m_codeFrom : Nat → Nat) (m_codeTo : Nat → Nat) (m_code : Nat → Int32) (m_codeArg : Nat → Int32) (m_many : Nat → Nat) (m_worth : Nat → Int32) (m_isRefused : Nat → Int32) (t0 : Nat) (n2 : Int32) (n3 : Int32) (n4 : Int32) (ht0 : t0 < 3) (hXS : TXS m_code m_sumFrom m_codeFrom m_codeTo m_many) (hnn : n3 ≤ n4) (hmn : m_many t0 ≤ 14) (j1 : Nat) (m_worth_j1 : Nat → Int32) (m_isRefused_j1 : Nat → Int32) (k6 : Nat) (hj6 : j1 ≤ (14 * t0 + m_many t0)) (hk6 : (14 * t0 + m_many t0) < j1 + (k6 + 1)) (hj0 : 14 * t0 ≤ j1) (c_2 : ¬ nI ((14 * t0) + (m_many t0)) ≤ nI j1) (n_6 : j1 < ((14 * t0) + (m_many t0))) (hx1 : 200 * t0 ≤ m_sumFrom j1) (hx2 : m_sumFrom j1 ≤ m_codeFrom j1) (hx3 : m_codeFrom j1 ≤ m_codeTo j1) (hx4 : m_codeTo j1 ≤ 200 * t0 + 200) (hx5 : GS m_code (m_sumFrom j1) (m_codeFrom j1)) (hx6 : GS m_code (m_codeFrom j1) (m_codeTo j1)) (x_9 : Int32) (c_10 : x_9 = n2) : GS m_code (m_codeFrom j1) (m_codeTo j1) := by
  first | assumption | omega | decide | rfl
theorem lf_X12_tells_21 (h : Nat) (q : Nat → Nat) (im : Nat → Int32) (m_clauseLetter : Nat → Int32) (m_sumFrom : Nat → Nat) (m_codeFrom : Nat → Nat) (m_codeTo : Nat → Nat) (m_code : Nat → Int32) (m_codeArg : Nat → Int32) (m_many : Nat → Nat) (m_worth : Nat → Int32) (m_isRefused : Nat → Int32) (t0 : Nat) (n2 : Int32) (n3 : Int32) (n4 : Int32) (ht0 : t0 < 3) (hXS : TXS m_code m_sumFrom m_codeFrom m_codeTo m_many) (hnn : n3 ≤ n4) (hmn : m_many t0 ≤ 14) (j1 : Nat) (m_worth_j1 : Nat → Int32) (m_isRefused_j1 : Nat → Int32) (k6 : Nat) (hj6 : j1 ≤ (14 * t0 + m_many t0)) (hk6 : (14 * t0 + m_many t0) < j1 + (k6 + 1)) (hj0 : 14 * t0 ≤ j1) (c_2 : ¬ nI ((14 * t0) + (m_many t0)) ≤ nI j1) (n_6 : j1 < ((14 * t0) + (m_many t0))) (hx1 : 200 * t0 ≤ m_sumFrom j1) (hx2 : m_sumFrom j1 ≤ m_codeFrom j1) (hx3 : m_codeFrom j1 ≤ m_codeTo j1) (hx4 : m_codeTo j1 ≤ 200 * t0 + 200) (hx5 : GS m_code (m_sumFrom j1) (m_codeFrom j1)) (hx6 : GS m_code (m_codeFrom j1) (m_codeTo j1)) (x_9 : Int32) (c_10 : x_9 = n2) (m_worth_18 : Nat → Int32) (m_isRefused_18 : Nat → Int32) (x_19 : Int32) (c_20 : ¬ x_19 = 0) : 14 * t0 ≤ (j1 + 1) := by
  first | assumption | omega
theorem lf_X12_tells_24 (h : Nat) (q : Nat → Nat) (im : Nat → Int32) (m_clauseLetter : Nat → Int32) (m_sumFrom : Nat → Nat) (m_codeFrom : Nat → Nat) (m_codeTo : Nat → Nat) (m_code : Nat → Int32) (m_codeArg : Nat → Int32) (m_many : Nat → Nat) (m_worth : Nat → Int32) (m_isRefused : Nat → Int32) (t0 : Nat) (n2 : Int32) (n3 : Int32) (n4 : Int32) (ht0 : t0 < 3) (hXS : TXS m_code m_sumFrom m_codeFrom m_codeTo m_many) (hnn : n3 ≤ n4) (hmn : m_many t0 ≤ 14) (j1 : Nat) (m_worth_j1 : Nat → Int32) (m_isRefused_j1 : Nat → Int32) (k6 : Nat) (hj6 : j1 ≤ (14 * t0 + m_many t0)) (hk6 : (14 * t0 + m_many t0) < j1 + (k6 + 1)) (hj0 : 14 * t0 ≤ j1) (c_2 : ¬ nI ((14 * t0) + (m_many t0)) ≤ nI j1) (n_6 : j1 < ((14 * t0) + (m_many t0))) (hx1 : 200 * t0 ≤ m_sumFrom j1) (hx2 : m_sumFrom j1 ≤ m_codeFrom j1) (hx3 : m_codeFrom j1 ≤ m_codeTo j1) (hx4 : m_codeTo j1 ≤ 200 * t0 + 200) (hx5 : GS m_code (m_sumFrom j1) (m_codeFrom j1)) (hx6 : GS m_code (m_codeFrom j1) (m_codeTo j1)) (x_9 : Int32) (c_10 : x_9 = n2) (m_worth_18 : Nat → Int32) (m_isRefused_18 : Nat → Int32) (x_19 : Int32) (c_20 : x_19 = 0) (x_22 : Int32) (c_23 : x_22 = 1) : j1 < 42 := by
  omega
theorem lf_X12_tells_25 (h : Nat) (q : Nat → Nat) (im : Nat → Int32) (m_clauseLetter : Nat → Int32) (m_sumFrom : Nat → Nat) (m_codeFrom : Nat → Nat) (m_codeTo : Nat → Nat) (m_code : Nat → Int32) (m_codeArg : Nat → Int32) (m_many : Nat → Nat) (m_worth : Nat → Int32) (m_isRefused : Nat → Int32) (t0 : Nat) (n2 : Int32) (n3 : Int32) (n4 : Int32) (ht0 : t0 < 3) (hXS : TXS m_code m_sumFrom m_codeFrom m_codeTo m_many) (hnn : n3 ≤ n4) (hmn : m_many t0 ≤ 14) (j1 : Nat) (m_worth_j1 : Nat → Int32) (m_isRefused_j1 : Nat → Int32) (k6 : Nat) (hj6 : j1 ≤ (14 * t0 + m_many t0)) (hk6 : (14 * t0 + m_many t0) < j1 + (k6 + 1)) (hj0 : 14 * t0 ≤ j1) (c_2 : ¬ nI ((14 * t0) + (m_many t0)) ≤ nI j1) (n_6 : j1 < ((14 * t0) + (m_many t0))) (hx1 : 200 * t0 ≤ m_sumFrom j1) (hx2 : m_sumFrom j1 ≤ m_codeFrom j1) (hx3 : m_codeFrom j1 ≤ m_codeTo j1) (hx4 : m_codeTo j1 ≤ 200 * t0 + 200) (hx5 : GS m_code (m_sumFrom j1) (m_codeFrom j1)) (hx6 : GS m_code (m_codeFrom j1) (m_codeTo j1)) (x_9 : Int32) (c_10 : x_9 = n2) (m_worth_18 : Nat → Int32) (m_isRefused_18 : Nat → Int32) (x_19 : Int32) (c_20 : x_19 = 0) (x_22 : Int32) (c_23 : x_22 = 1) : j1 < 42 := by
  omega
theorem lf_X12_tells_26 (h : Nat) (q : Nat → Nat) (im : Nat → Int32) (m_clauseLetter : Nat → Int32) (m_sumFrom : Nat → Nat) (m_codeFrom : Nat → Nat) (m_codeTo : Nat → Nat) (m_code : Nat → Int32) (m_codeArg : Nat → Int32) (m_many : Nat → Nat) (m_worth : Nat → Int32) (m_isRefused : Nat → Int32) (t0 : Nat) (n2 : Int32) (n3 : Int32) (n4 : Int32) (ht0 : t0 < 3) (hXS : TXS m_code m_sumFrom m_codeFrom m_codeTo m_many) (hnn : n3 ≤ n4) (hmn : m_many t0 ≤ 14) (j1 : Nat) (m_worth_j1 : Nat → Int32) (m_isRefused_j1 : Nat → Int32) (k6 : Nat) (hj6 : j1 ≤ (14 * t0 + m_many t0)) (hk6 : (14 * t0 + m_many t0) < j1 + (k6 + 1)) (hj0 : 14 * t0 ≤ j1) (c_2 : ¬ nI ((14 * t0) + (m_many t0)) ≤ nI j1) (n_6 : j1 < ((14 * t0) + (m_many t0))) (hx1 : 200 * t0 ≤ m_sumFrom j1) (hx2 : m_sumFrom j1 ≤ m_codeFrom j1) (hx3 : m_codeFrom j1 ≤ m_codeTo j1) (hx4 : m_codeTo j1 ≤ 200 * t0 + 200) (hx5 : GS m_code (m_sumFrom j1) (m_codeFrom j1)) (hx6 : GS m_code (m_codeFrom j1) (m_codeTo j1)) (x_9 : Int32) (c_10 : x_9 = n2) (m_worth_18 : Nat → Int32) (m_isRefused_18 : Nat → Int32) (x_19 : Int32) (c_20 : x_19 = 0) (x_22 : Int32) (c_23 : x_22 = 1) : (m_sumFrom j1) ≤ (m_codeFrom j1) := by
  first | assumption | omega | decide | rfl
theorem lf_X12_tells_27 (h : Nat) (q : Nat → Nat) (im : Nat → Int32) (m_clauseLetter : Nat → Int32) (m_sumFrom : Nat → Nat) (m_codeFrom : Nat → Nat) (m_codeTo : Nat → Nat) (m_code : Nat → Int32) (m_codeArg : Nat → Int32) (m_many : Nat → Nat) (m_worth : Nat → Int32) (m_isRefused : Nat → Int32) (t0 : Nat) (n2 : Int32) (n3 : Int32) (n4 : Int32) (ht0 : t0 < 3) (hXS : TXS m_code m_sumFrom m_codeFrom m_codeTo m_many) (hnn : n3 ≤ n4) (hmn : m_many t0 ≤ 14) (j1 : Nat) (m_worth_j1 : Nat → Int32) (m_isRefused_j1 : Nat → Int32) (k6 : Nat) (hj6 : j1 ≤ (14 * t0 + m_many t0)) (hk6 : (14 * t0 + m_many t0) < j1 + (k6 + 1)) (hj0 : 14 * t0 ≤ j1) (c_2 : ¬ nI ((14 * t0) + (m_many t0)) ≤ nI j1) (n_6 : j1 < ((14 * t0) + (m_many t0))) (hx1 : 200 * t0 ≤ m_sumFrom j1) (hx2 : m_sumFrom j1 ≤ m_codeFrom j1) (hx3 : m_codeFrom j1 ≤ m_codeTo j1) (hx4 : m_codeTo j1 ≤ 200 * t0 + 200) (hx5 : GS m_code (m_sumFrom j1) (m_codeFrom j1)) (hx6 : GS m_code (m_codeFrom j1) (m_codeTo j1)) (x_9 : Int32) (c_10 : x_9 = n2) (m_worth_18 : Nat → Int32) (m_isRefused_18 : Nat → Int32) (x_19 : Int32) (c_20 : x_19 = 0) (x_22 : Int32) (c_23 : x_22 = 1) : (m_codeFrom j1) ≤ 600 := by
  first | assumption | omega | decide | rfl
theorem lf_X12_tells_28 (h : Nat) (q : Nat → Nat) (im : Nat → Int32) (m_clauseLetter : Nat → Int32) (m_sumFrom : Nat → Nat) (m_codeFrom : Nat → Nat) (m_codeTo : Nat → Nat) (m_code : Nat → Int32) (m_codeArg : Nat → Int32) (m_many : Nat → Nat) (m_worth : Nat → Int32) (m_isRefused : Nat → Int32) (t0 : Nat) (n2 : Int32) (n3 : Int32) (n4 : Int32) (ht0 : t0 < 3) (hXS : TXS m_code m_sumFrom m_codeFrom m_codeTo m_many) (hnn : n3 ≤ n4) (hmn : m_many t0 ≤ 14) (j1 : Nat) (m_worth_j1 : Nat → Int32) (m_isRefused_j1 : Nat → Int32) (k6 : Nat) (hj6 : j1 ≤ (14 * t0 + m_many t0)) (hk6 : (14 * t0 + m_many t0) < j1 + (k6 + 1)) (hj0 : 14 * t0 ≤ j1) (c_2 : ¬ nI ((14 * t0) + (m_many t0)) ≤ nI j1) (n_6 : j1 < ((14 * t0) + (m_many t0))) (hx1 : 200 * t0 ≤ m_sumFrom j1) (hx2 : m_sumFrom j1 ≤ m_codeFrom j1) (hx3 : m_codeFrom j1 ≤ m_codeTo j1) (hx4 : m_codeTo j1 ≤ 200 * t0 + 200) (hx5 : GS m_code (m_sumFrom j1) (m_codeFrom j1)) (hx6 : GS m_code (m_codeFrom j1) (m_codeTo j1)) (x_9 : Int32) (c_10 : x_9 = n2) (m_worth_18 : Nat → Int32) (m_isRefused_18 : Nat → Int32) (x_19 : Int32) (c_20 : x_19 = 0) (x_22 : Int32) (c_23 : x_22 = 1) : (m_codeFrom j1) - (m_sumFrom j1) ≤ 200 := by
  first | assumption | omega | decide | rfl
theorem lf_X12_tells_29 (h : Nat) (q : Nat → Nat) (im : Nat → Int32) (m_clauseLetter : Nat → Int32) (m_sumFrom : Nat → Nat) (m_codeFrom : Nat → Nat) (m_codeTo : Nat → Nat) (m_code : Nat → Int32) (m_codeArg : Nat → Int32) (m_many : Nat → Nat) (m_worth : Nat → Int32) (m_isRefused : Nat → Int32) (t0 : Nat) (n2 : Int32) (n3 : Int32) (n4 : Int32) (ht0 : t0 < 3) (hXS : TXS m_code m_sumFrom m_codeFrom m_codeTo m_many) (hnn : n3 ≤ n4) (hmn : m_many t0 ≤ 14) (j1 : Nat) (m_worth_j1 : Nat → Int32) (m_isRefused_j1 : Nat → Int32) (k6 : Nat) (hj6 : j1 ≤ (14 * t0 + m_many t0)) (hk6 : (14 * t0 + m_many t0) < j1 + (k6 + 1)) (hj0 : 14 * t0 ≤ j1) (c_2 : ¬ nI ((14 * t0) + (m_many t0)) ≤ nI j1) (n_6 : j1 < ((14 * t0) + (m_many t0))) (hx1 : 200 * t0 ≤ m_sumFrom j1) (hx2 : m_sumFrom j1 ≤ m_codeFrom j1) (hx3 : m_codeFrom j1 ≤ m_codeTo j1) (hx4 : m_codeTo j1 ≤ 200 * t0 + 200) (hx5 : GS m_code (m_sumFrom j1) (m_codeFrom j1)) (hx6 : GS m_code (m_codeFrom j1) (m_codeTo j1)) (x_9 : Int32) (c_10 : x_9 = n2) (m_worth_18 : Nat → Int32) (m_isRefused_18 : Nat → Int32) (x_19 : Int32) (c_20 : x_19 = 0) (x_22 : Int32) (c_23 : x_22 = 1) : GS m_code (m_sumFrom j1) (m_codeFrom j1) := by
  first | assumption | omega | decide | rfl
theorem lf_X12_tells_37 (h : Nat) (q : Nat → Nat) (im : Nat → Int32) (m_clauseLetter : Nat → Int32) (m_sumFrom : Nat → Nat) (m_codeFrom : Nat → Nat) (m_codeTo : Nat → Nat) (m_code : Nat → Int32) (m_codeArg : Nat → Int32) (m_many : Nat → Nat) (m_worth : Nat → Int32) (m_isRefused : Nat → Int32) (t0 : Nat) (n2 : Int32) (n3 : Int32) (n4 : Int32) (ht0 : t0 < 3) (hXS : TXS m_code m_sumFrom m_codeFrom m_codeTo m_many) (hnn : n3 ≤ n4) (hmn : m_many t0 ≤ 14) (j1 : Nat) (m_worth_j1 : Nat → Int32) (m_isRefused_j1 : Nat → Int32) (k6 : Nat) (hj6 : j1 ≤ (14 * t0 + m_many t0)) (hk6 : (14 * t0 + m_many t0) < j1 + (k6 + 1)) (hj0 : 14 * t0 ≤ j1) (c_2 : ¬ nI ((14 * t0) + (m_many t0)) ≤ nI j1) (n_6 : j1 < ((14 * t0) + (m_many t0))) (hx1 : 200 * t0 ≤ m_sumFrom j1) (hx2 : m_sumFrom j1 ≤ m_codeFrom j1) (hx3 : m_codeFrom j1 ≤ m_codeTo j1) (hx4 : m_codeTo j1 ≤ 200 * t0 + 200) (hx5 : GS m_code (m_sumFrom j1) (m_codeFrom j1)) (hx6 : GS m_code (m_codeFrom j1) (m_codeTo j1)) (x_9 : Int32) (c_10 : x_9 = n2) (m_worth_18 : Nat → Int32) (m_isRefused_18 : Nat → Int32) (x_19 : Int32) (c_20 : x_19 = 0) (x_22 : Int32) (c_23 : x_22 = 1) (m_worth_31 : Nat → Int32) (m_isRefused_31 : Nat → Int32) (x_32 : Int32) (c_33 : x_32 = 0) (x_34 : Int32) (c_35 : n3 ≤ x_34) (c_36 : x_34 ≤ n4) : (x_34 : Int32) = 0 ∨ (n3 ≤ (x_34 : Int32) ∧ (x_34 : Int32) ≤ n4) := by
  first | exact Or.inl rfl | exact Or.inr ⟨Int32.le_refl _, hnn⟩ | exact Or.inr ⟨hnn, Int32.le_refl _⟩ | exact Or.inr ⟨by assumption, by assumption⟩ | exact Or.inr ⟨Int32.not_lt.mp (by assumption), Int32.not_lt.mp (by assumption)⟩ | exact Or.inr ⟨by assumption, Int32.not_lt.mp (by assumption)⟩
theorem lf_X12_tells_38 (h : Nat) (q : Nat → Nat) (im : Nat → Int32) (m_clauseLetter : Nat → Int32) (m_sumFrom : Nat → Nat) (m_codeFrom : Nat → Nat) (m_codeTo : Nat → Nat) (m_code : Nat → Int32) (m_codeArg : Nat → Int32) (m_many : Nat → Nat) (m_worth : Nat → Int32) (m_isRefused : Nat → Int32) (t0 : Nat) (n2 : Int32) (n3 : Int32) (n4 : Int32) (ht0 : t0 < 3) (hXS : TXS m_code m_sumFrom m_codeFrom m_codeTo m_many) (hnn : n3 ≤ n4) (hmn : m_many t0 ≤ 14) (j1 : Nat) (m_worth_j1 : Nat → Int32) (m_isRefused_j1 : Nat → Int32) (k6 : Nat) (hj6 : j1 ≤ (14 * t0 + m_many t0)) (hk6 : (14 * t0 + m_many t0) < j1 + (k6 + 1)) (hj0 : 14 * t0 ≤ j1) (c_2 : ¬ nI ((14 * t0) + (m_many t0)) ≤ nI j1) (n_6 : j1 < ((14 * t0) + (m_many t0))) (hx1 : 200 * t0 ≤ m_sumFrom j1) (hx2 : m_sumFrom j1 ≤ m_codeFrom j1) (hx3 : m_codeFrom j1 ≤ m_codeTo j1) (hx4 : m_codeTo j1 ≤ 200 * t0 + 200) (hx5 : GS m_code (m_sumFrom j1) (m_codeFrom j1)) (hx6 : GS m_code (m_codeFrom j1) (m_codeTo j1)) (x_9 : Int32) (c_10 : x_9 = n2) (m_worth_18 : Nat → Int32) (m_isRefused_18 : Nat → Int32) (x_19 : Int32) (c_20 : x_19 = 0) (x_22 : Int32) (c_23 : x_22 = 1) (m_worth_31 : Nat → Int32) (m_isRefused_31 : Nat → Int32) (x_32 : Int32) (c_33 : x_32 = 0) (x_34 : Int32) (c_35 : n3 ≤ x_34) (c_36 : ¬ x_34 ≤ n4) : (n4 : Int32) = 0 ∨ (n3 ≤ (n4 : Int32) ∧ (n4 : Int32) ≤ n4) := by
  first | exact Or.inl rfl | exact Or.inr ⟨Int32.le_refl _, hnn⟩ | exact Or.inr ⟨hnn, Int32.le_refl _⟩ | exact Or.inr ⟨by assumption, by assumption⟩ | exact Or.inr ⟨Int32.not_lt.mp (by assumption), Int32.not_lt.mp (by assumption)⟩ | exact Or.inr ⟨by assumption, Int32.not_lt.mp (by assumption)⟩
theorem lf_X12_tells_39 (h : Nat) (q : Nat → Nat) (im : Nat → Int32) (m_clauseLetter : Nat → Int32) (m_sumFrom : Nat → Nat) (m_codeFrom : Nat → Nat) (m_codeTo : Nat → Nat) (m_code : Nat → Int32) (m_codeArg : Nat → Int32) (m_many : Nat → Nat) (m_worth : Nat → Int32) (m_isRefused : Nat → Int32) (t0 : Nat) (n2 : Int32) (n3 : Int32) (n4 : Int32) (ht0 : t0 < 3) (hXS : TXS m_code m_sumFrom m_codeFrom m_codeTo m_many) (hnn : n3 ≤ n4) (hmn : m_many t0 ≤ 14) (j1 : Nat) (m_worth_j1 : Nat → Int32) (m_isRefused_j1 : Nat → Int32) (k6 : Nat) (hj6 : j1 ≤ (14 * t0 + m_many t0)) (hk6 : (14 * t0 + m_many t0) < j1 + (k6 + 1)) (hj0 : 14 * t0 ≤ j1) (c_2 : ¬ nI ((14 * t0) + (m_many t0)) ≤ nI j1) (n_6 : j1 < ((14 * t0) + (m_many t0))) (hx1 : 200 * t0 ≤ m_sumFrom j1) (hx2 : m_sumFrom j1 ≤ m_codeFrom j1) (hx3 : m_codeFrom j1 ≤ m_codeTo j1) (hx4 : m_codeTo j1 ≤ 200 * t0 + 200) (hx5 : GS m_code (m_sumFrom j1) (m_codeFrom j1)) (hx6 : GS m_code (m_codeFrom j1) (m_codeTo j1)) (x_9 : Int32) (c_10 : x_9 = n2) (m_worth_18 : Nat → Int32) (m_isRefused_18 : Nat → Int32) (x_19 : Int32) (c_20 : x_19 = 0) (x_22 : Int32) (c_23 : x_22 = 1) (m_worth_31 : Nat → Int32) (m_isRefused_31 : Nat → Int32) (x_32 : Int32) (c_33 : x_32 = 0) (x_34 : Int32) (c_35 : ¬ n3 ≤ x_34) : (n3 : Int32) = 0 ∨ (n3 ≤ (n3 : Int32) ∧ (n3 : Int32) ≤ n4) := by
  first | exact Or.inl rfl | exact Or.inr ⟨Int32.le_refl _, hnn⟩ | exact Or.inr ⟨hnn, Int32.le_refl _⟩ | exact Or.inr ⟨by assumption, by assumption⟩ | exact Or.inr ⟨Int32.not_lt.mp (by assumption), Int32.not_lt.mp (by assumption)⟩ | exact Or.inr ⟨by assumption, Int32.not_lt.mp (by assumption)⟩
theorem lf_X12_tells_42 (h : Nat) (q : Nat → Nat) (im : Nat → Int32) (m_clauseLetter : Nat → Int32) (m_sumFrom : Nat → Nat) (m_codeFrom : Nat → Nat) (m_codeTo : Nat → Nat) (m_code : Nat → Int32) (m_codeArg : Nat → Int32) (m_many : Nat → Nat) (m_worth : Nat → Int32) (m_isRefused : Nat → Int32) (t0 : Nat) (n2 : Int32) (n3 : Int32) (n4 : Int32) (ht0 : t0 < 3) (hXS : TXS m_code m_sumFrom m_codeFrom m_codeTo m_many) (hnn : n3 ≤ n4) (hmn : m_many t0 ≤ 14) (j1 : Nat) (m_worth_j1 : Nat → Int32) (m_isRefused_j1 : Nat → Int32) (k6 : Nat) (hj6 : j1 ≤ (14 * t0 + m_many t0)) (hk6 : (14 * t0 + m_many t0) < j1 + (k6 + 1)) (hj0 : 14 * t0 ≤ j1) (c_2 : ¬ nI ((14 * t0) + (m_many t0)) ≤ nI j1) (n_6 : j1 < ((14 * t0) + (m_many t0))) (hx1 : 200 * t0 ≤ m_sumFrom j1) (hx2 : m_sumFrom j1 ≤ m_codeFrom j1) (hx3 : m_codeFrom j1 ≤ m_codeTo j1) (hx4 : m_codeTo j1 ≤ 200 * t0 + 200) (hx5 : GS m_code (m_sumFrom j1) (m_codeFrom j1)) (hx6 : GS m_code (m_codeFrom j1) (m_codeTo j1)) (x_9 : Int32) (c_10 : x_9 = n2) (m_worth_18 : Nat → Int32) (m_isRefused_18 : Nat → Int32) (x_19 : Int32) (c_20 : x_19 = 0) (x_22 : Int32) (c_23 : x_22 = 1) (m_worth_31 : Nat → Int32) (m_isRefused_31 : Nat → Int32) (x_32 : Int32) (c_33 : ¬ x_32 = 0) (c_40 : n3 ≤ (0 : Int32)) (c_41 : (0 : Int32) ≤ n4) : (0 : Int32) = 0 ∨ (n3 ≤ (0 : Int32) ∧ (0 : Int32) ≤ n4) := by
  first | exact Or.inl rfl | exact Or.inr ⟨Int32.le_refl _, hnn⟩ | exact Or.inr ⟨hnn, Int32.le_refl _⟩ | exact Or.inr ⟨by assumption, by assumption⟩ | exact Or.inr ⟨Int32.not_lt.mp (by assumption), Int32.not_lt.mp (by assumption)⟩ | exact Or.inr ⟨by assumption, Int32.not_lt.mp (by assumption)⟩
theorem lf_X12_tells_43 (h : Nat) (q : Nat → Nat) (im : Nat → Int32) (m_clauseLetter : Nat → Int32) (m_sumFrom : Nat → Nat) (m_codeFrom : Nat → Nat) (m_codeTo : Nat → Nat) (m_code : Nat → Int32) (m_codeArg : Nat → Int32) (m_many : Nat → Nat) (m_worth : Nat → Int32) (m_isRefused : Nat → Int32) (t0 : Nat) (n2 : Int32) (n3 : Int32) (n4 : Int32) (ht0 : t0 < 3) (hXS : TXS m_code m_sumFrom m_codeFrom m_codeTo m_many) (hnn : n3 ≤ n4) (hmn : m_many t0 ≤ 14) (j1 : Nat) (m_worth_j1 : Nat → Int32) (m_isRefused_j1 : Nat → Int32) (k6 : Nat) (hj6 : j1 ≤ (14 * t0 + m_many t0)) (hk6 : (14 * t0 + m_many t0) < j1 + (k6 + 1)) (hj0 : 14 * t0 ≤ j1) (c_2 : ¬ nI ((14 * t0) + (m_many t0)) ≤ nI j1) (n_6 : j1 < ((14 * t0) + (m_many t0))) (hx1 : 200 * t0 ≤ m_sumFrom j1) (hx2 : m_sumFrom j1 ≤ m_codeFrom j1) (hx3 : m_codeFrom j1 ≤ m_codeTo j1) (hx4 : m_codeTo j1 ≤ 200 * t0 + 200) (hx5 : GS m_code (m_sumFrom j1) (m_codeFrom j1)) (hx6 : GS m_code (m_codeFrom j1) (m_codeTo j1)) (x_9 : Int32) (c_10 : x_9 = n2) (m_worth_18 : Nat → Int32) (m_isRefused_18 : Nat → Int32) (x_19 : Int32) (c_20 : x_19 = 0) (x_22 : Int32) (c_23 : x_22 = 1) (m_worth_31 : Nat → Int32) (m_isRefused_31 : Nat → Int32) (x_32 : Int32) (c_33 : ¬ x_32 = 0) (c_40 : n3 ≤ (0 : Int32)) (c_41 : ¬ (0 : Int32) ≤ n4) : (n4 : Int32) = 0 ∨ (n3 ≤ (n4 : Int32) ∧ (n4 : Int32) ≤ n4) := by
  first | exact Or.inl rfl | exact Or.inr ⟨Int32.le_refl _, hnn⟩ | exact Or.inr ⟨hnn, Int32.le_refl _⟩ | exact Or.inr ⟨by assumption, by assumption⟩ | exact Or.inr ⟨Int32.not_lt.mp (by assumption), Int32.not_lt.mp (by assumption)⟩ | exact Or.inr ⟨by assumption, Int32.not_lt.mp (by assumption)⟩
theorem lf_X12_tells_44 (h : Nat) (q : Nat → Nat) (im : Nat → Int32) (m_clauseLetter : Nat → Int32) (m_sumFrom : Nat → Nat) (m_codeFrom : Nat → Nat) (m_codeTo : Nat → Nat) (m_code : Nat → Int32) (m_codeArg : Nat → Int32) (m_many : Nat → Nat) (m_worth : Nat → Int32) (m_isRefused : Nat → Int32) (t0 : Nat) (n2 : Int32) (n3 : Int32) (n4 : Int32) (ht0 : t0 < 3) (hXS : TXS m_code m_sumFrom m_codeFrom m_codeTo m_many) (hnn : n3 ≤ n4) (hmn : m_many t0 ≤ 14) (j1 : Nat) (m_worth_j1 : Nat → Int32) (m_isRefused_j1 : Nat → Int32) (k6 : Nat) (hj6 : j1 ≤ (14 * t0 + m_many t0)) (hk6 : (14 * t0 + m_many t0) < j1 + (k6 + 1)) (hj0 : 14 * t0 ≤ j1) (c_2 : ¬ nI ((14 * t0) + (m_many t0)) ≤ nI j1) (n_6 : j1 < ((14 * t0) + (m_many t0))) (hx1 : 200 * t0 ≤ m_sumFrom j1) (hx2 : m_sumFrom j1 ≤ m_codeFrom j1) (hx3 : m_codeFrom j1 ≤ m_codeTo j1) (hx4 : m_codeTo j1 ≤ 200 * t0 + 200) (hx5 : GS m_code (m_sumFrom j1) (m_codeFrom j1)) (hx6 : GS m_code (m_codeFrom j1) (m_codeTo j1)) (x_9 : Int32) (c_10 : x_9 = n2) (m_worth_18 : Nat → Int32) (m_isRefused_18 : Nat → Int32) (x_19 : Int32) (c_20 : x_19 = 0) (x_22 : Int32) (c_23 : x_22 = 1) (m_worth_31 : Nat → Int32) (m_isRefused_31 : Nat → Int32) (x_32 : Int32) (c_33 : ¬ x_32 = 0) (c_40 : ¬ n3 ≤ (0 : Int32)) : (n3 : Int32) = 0 ∨ (n3 ≤ (n3 : Int32) ∧ (n3 : Int32) ≤ n4) := by
  first | exact Or.inl rfl | exact Or.inr ⟨Int32.le_refl _, hnn⟩ | exact Or.inr ⟨hnn, Int32.le_refl _⟩ | exact Or.inr ⟨by assumption, by assumption⟩ | exact Or.inr ⟨Int32.not_lt.mp (by assumption), Int32.not_lt.mp (by assumption)⟩ | exact Or.inr ⟨by assumption, Int32.not_lt.mp (by assumption)⟩
theorem lf_X12_tells_45 (h : Nat) (q : Nat → Nat) (im : Nat → Int32) (m_clauseLetter : Nat → Int32) (m_sumFrom : Nat → Nat) (m_codeFrom : Nat → Nat) (m_codeTo : Nat → Nat) (m_code : Nat → Int32) (m_codeArg : Nat → Int32) (m_many : Nat → Nat) (m_worth : Nat → Int32) (m_isRefused : Nat → Int32) (t0 : Nat) (n2 : Int32) (n3 : Int32) (n4 : Int32) (ht0 : t0 < 3) (hXS : TXS m_code m_sumFrom m_codeFrom m_codeTo m_many) (hnn : n3 ≤ n4) (hmn : m_many t0 ≤ 14) (j1 : Nat) (m_worth_j1 : Nat → Int32) (m_isRefused_j1 : Nat → Int32) (k6 : Nat) (hj6 : j1 ≤ (14 * t0 + m_many t0)) (hk6 : (14 * t0 + m_many t0) < j1 + (k6 + 1)) (hj0 : 14 * t0 ≤ j1) (c_2 : ¬ nI ((14 * t0) + (m_many t0)) ≤ nI j1) (n_6 : j1 < ((14 * t0) + (m_many t0))) (hx1 : 200 * t0 ≤ m_sumFrom j1) (hx2 : m_sumFrom j1 ≤ m_codeFrom j1) (hx3 : m_codeFrom j1 ≤ m_codeTo j1) (hx4 : m_codeTo j1 ≤ 200 * t0 + 200) (hx5 : GS m_code (m_sumFrom j1) (m_codeFrom j1)) (hx6 : GS m_code (m_codeFrom j1) (m_codeTo j1)) (x_9 : Int32) (c_10 : x_9 = n2) (m_worth_18 : Nat → Int32) (m_isRefused_18 : Nat → Int32) (x_19 : Int32) (c_20 : x_19 = 0) (x_22 : Int32) (c_23 : ¬ x_22 = 1) : 14 * t0 ≤ (j1 + 1) := by
  first | assumption | omega
theorem lf_X12_tells_46 (h : Nat) (q : Nat → Nat) (im : Nat → Int32) (m_clauseLetter : Nat → Int32) (m_sumFrom : Nat → Nat) (m_codeFrom : Nat → Nat) (m_codeTo : Nat → Nat) (m_code : Nat → Int32) (m_codeArg : Nat → Int32) (m_many : Nat → Nat) (m_worth : Nat → Int32) (m_isRefused : Nat → Int32) (t0 : Nat) (n2 : Int32) (n3 : Int32) (n4 : Int32) (ht0 : t0 < 3) (hXS : TXS m_code m_sumFrom m_codeFrom m_codeTo m_many) (hnn : n3 ≤ n4) (hmn : m_many t0 ≤ 14) (j1 : Nat) (m_worth_j1 : Nat → Int32) (m_isRefused_j1 : Nat → Int32) (k6 : Nat) (hj6 : j1 ≤ (14 * t0 + m_many t0)) (hk6 : (14 * t0 + m_many t0) < j1 + (k6 + 1)) (hj0 : 14 * t0 ≤ j1) (c_2 : ¬ nI ((14 * t0) + (m_many t0)) ≤ nI j1) (n_6 : j1 < ((14 * t0) + (m_many t0))) (hx1 : 200 * t0 ≤ m_sumFrom j1) (hx2 : m_sumFrom j1 ≤ m_codeFrom j1) (hx3 : m_codeFrom j1 ≤ m_codeTo j1) (hx4 : m_codeTo j1 ≤ 200 * t0 + 200) (hx5 : GS m_code (m_sumFrom j1) (m_codeFrom j1)) (hx6 : GS m_code (m_codeFrom j1) (m_codeTo j1)) (x_9 : Int32) (c_10 : ¬ x_9 = n2) : 14 * t0 ≤ (j1 + 1) := by
  first | assumption | omega
theorem lf_X12_tells_47 (h : Nat) (q : Nat → Nat) (im : Nat → Int32) (m_clauseLetter : Nat → Int32) (m_sumFrom : Nat → Nat) (m_codeFrom : Nat → Nat) (m_codeTo : Nat → Nat) (m_code : Nat → Int32) (m_codeArg : Nat → Int32) (m_many : Nat → Nat) (m_worth : Nat → Int32) (m_isRefused : Nat → Int32) (t0 : Nat) (n2 : Int32) (n3 : Int32) (n4 : Int32) (ht0 : t0 < 3) (hXS : TXS m_code m_sumFrom m_codeFrom m_codeTo m_many) (hnn : n3 ≤ n4) (hmn : m_many t0 ≤ 14) : 14 * t0 ≤ ((14 * t0)) := by
  first | assumption | omega
set_option maxHeartbeats 4000000 in
set_option maxRecDepth 100000 in
theorem c_X12_tells (l : Launch) (D : va_G) (cI cB cZ cJ : ClassId) (tx : List (ClassId × FieldType)) (h : Nat) (q : Nat → Nat) (im : Nat → Int32) (m_clauseLetter : Nat → Int32) (m_sumFrom : Nat → Nat) (m_codeFrom : Nat → Nat) (m_codeTo : Nat → Nat) (m_code : Nat → Int32) (m_codeArg : Nat → Int32) (m_many : Nat → Nat) (m_worth : Nat → Int32) (m_isRefused : Nat → Int32) (t0 : Nat) (n2 : Int32) (n3 : Int32) (n4 : Int32) (ht0 : t0 < 3) (hXS : TXS m_code m_sumFrom m_codeFrom m_codeTo m_many) (hnn : n3 ≤ n4) : WrI l D cI cB cZ cJ tx yX12_tells cX12_tells 7 (some .int) 3 0 0 [.ref h, .int (nI t0), .int n2, .int n3, .int n4] [(h, .inr (12, mG q im)), (q 7, .inl (cI, 42, .inl m_clauseLetter)), (q 8, .inl (cI, 42, .inl (nF m_sumFrom))), (q 9, .inl (cI, 42, .inl (nF m_codeFrom))), (q 10, .inl (cI, 42, .inl (nF m_codeTo))), (q 11, .inl (cI, 600, .inl m_code)), (q 12, .inl (cI, 600, .inl m_codeArg)), (q 6, .inl (cI, 3, .inl (nF m_many))), (q 42, .inl (cI, 240, .inl m_worth)), (q 43, .inl (cZ, 240, .inl m_isRefused))] (fun (r : Int32) (v : (Nat → Int32) × (Nat → Int32)) => r = 0 ∨ (n3 ≤ r ∧ r ≤ n4)) (fun v => [(h, .inr (12, mG q im)), (q 7, .inl (cI, 42, .inl m_clauseLetter)), (q 8, .inl (cI, 42, .inl (nF m_sumFrom))), (q 9, .inl (cI, 42, .inl (nF m_codeFrom))), (q 10, .inl (cI, 42, .inl (nF m_codeTo))), (q 11, .inl (cI, 600, .inl m_code)), (q 12, .inl (cI, 600, .inl m_codeArg)), (q 6, .inl (cI, 3, .inl (nF m_many))), (q 42, .inl (cI, 240, .inl v.1)), (q 43, .inl (cZ, 240, .inl v.2))]) := by
  refine wri_of2 (by decide) (Nat.le_of_ble_eq_true rfl) ?_
  intro p e s m below meth c A ls H locs hC hK hP hD hA hS hl
  obtain ⟨hx, hb, hr, hml, hown, hts, hlocks, hin⟩ := hC
  have hown : s.vm.findClass RX12 = some m.cls := hown
  have hl : lv_has ls 7 [(0, .ref h), (1, .int (nI t0)), (2, .int n2), (3, .int n3), (4, .int n4)] := hl
  have hmn : m_many t0 ≤ 14 := (hXS t0 ht0).1
  refine lv_bipush (v := 14) hx hb dX12_tells_0 (by decide) ?_
  refine lv_iload_n hx hb dX12_tells_2 rfl (lv_at hl 1 rfl) ?_
  refine lv_imul hx hb dX12_tells_3 ?_
  refine lv_topv (y := nI (14 * t0)) (pk_mul 14 t0) ?_
  refine lv_istore (lv' := [(5, .int (nI (14 * t0))), (0, .ref h), (1, .int (nI t0)), (2, .int n2), (3, .int n3), (4, .int n4)]) hx hb dX12_tells_4 hl (by decide) rfl (fun ls hl => ?_)
  have lp6 : ∀ (k6 : Nat) (j1 : Nat) (m_worth_j1 : Nat → Int32) (m_isRefused_j1 : Nat → Int32) (H : Heap) (locs : List Loc) (ls : Array Slot), j1 ≤ (14 * t0 + m_many t0) → (14 * t0 + m_many t0) < j1 + k6 → (14 * t0 ≤ j1) → va_P D vwCl [(h, .inr (12, mG q im)), (q 7, .inl (cI, 42, .inl m_clauseLetter)), (q 8, .inl (cI, 42, .inl (nF m_sumFrom))), (q 9, .inl (cI, 42, .inl (nF m_codeFrom))), (q 10, .inl (cI, 42, .inl (nF m_codeTo))), (q 11, .inl (cI, 600, .inl m_code)), (q 12, .inl (cI, 600, .inl m_codeArg)), (q 6, .inl (cI, 3, .inl (nF m_many))), (q 42, .inl (cI, 240, .inl m_worth_j1)), (q 43, .inl (cZ, 240, .inl m_isRefused_j1))] H → va_D A [(h, .inr (12, mG q im)), (q 7, .inl (cI, 42, .inl m_clauseLetter)), (q 8, .inl (cI, 42, .inl (nF m_sumFrom))), (q 9, .inl (cI, 42, .inl (nF m_codeFrom))), (q 10, .inl (cI, 42, .inl (nF m_codeTo))), (q 11, .inl (cI, 600, .inl m_code)), (q 12, .inl (cI, 600, .inl m_codeArg)), (q 6, .inl (cI, 3, .inl (nF m_many))), (q 42, .inl (cI, 240, .inl m_worth_j1)), (q 43, .inl (cZ, 240, .inl m_isRefused_j1))] → va_S A s.heap H locs → lv_has ls 7 [(5, .int (nI j1)), (0, .ref h), (1, .int (nI t0)), (2, .int n2), (3, .int n3), (4, .int n4)] → W p l e (rmX 3 0 0) s m ([.ref h, .int (nI t0), .int n2, .int n3, .int n4] : List Value).toArray below meth c H locs 0 0 (MQ below (va_Qi (fun (r : Int32) (v : (Nat → Int32) × (Nat → Int32)) => r = 0 ∨ (n3 ≤ r ∧ r ≤ n4)) (fun u => BX D A ((fun v => [(h, .inr (12, mG q im)), (q 7, .inl (cI, 42, .inl m_clauseLetter)), (q 8, .inl (cI, 42, .inl (nF m_sumFrom))), (q 9, .inl (cI, 42, .inl (nF m_codeFrom))), (q 10, .inl (cI, 42, .inl (nF m_codeTo))), (q 11, .inl (cI, 600, .inl m_code)), (q 12, .inl (cI, 600, .inl m_codeArg)), (q 6, .inl (cI, 3, .inl (nF m_many))), (q 42, .inl (cI, 240, .inl v.1)), (q 43, .inl (cZ, 240, .inl v.2))]) u)) A) ([.ref h, .int (nI t0), .int n2, .int n3, .int n4] : List Value).toArray s 0 0 A) (F0 m 6 ls []) := by
    intro k6
    induction k6 with
    | zero =>
      intro j1 m_worth_j1 m_isRefused_j1 H locs ls hj6 hk6 hj0 hP hD hS hl
      exact absurd hk6 (by omega)
    | succ k6 ih6 =>
      intro j1 m_worth_j1 m_isRefused_j1 H locs ls hj6 hk6 hj0 hP hD hS hl
      refine lv_iload hx hb dX12_tells_6 (lv_at hl 0 rfl) ?_
      refine lv_bipush (v := 14) hx hb dX12_tells_8 (by decide) ?_
      refine lv_iload_n hx hb dX12_tells_10 rfl (lv_at hl 2 rfl) ?_
      refine lv_imul hx hb dX12_tells_11 ?_
      refine lv_topv (y := nI (14 * t0)) (pk_mul 14 t0) ?_
      refine lv_aload_n hx hb dX12_tells_12 rfl (lv_at hl 1 rfl) ?_
      refine va_get (D := D) (ci := 12) (v := .ref (q 6)) (C := RX12) (T := TX12) (N := 81) hx hb hts inT_X12 hown hK.1 hP 0 rfl rfl 6 (by decide) (hts _ k_1359) (fun _ h9 => h9) rfl dX12_tells_13 ?_
      refine lv_iload_n hx hb dX12_tells_16 rfl (lv_at hl 2 rfl) ?_
      refine lt_i (j := t0) hx hb hK hP 7 rfl (lf_X12_tells_1 h q im m_clauseLetter m_sumFrom m_codeFrom m_codeTo m_code m_codeArg m_many m_worth m_isRefused t0 n2 n3 n4 ht0 hXS hnn hmn j1 m_worth_j1 m_isRefused_j1 k6 hj6 hk6 hj0) (by decide) dX12_tells_17 ?_
      refine lv_topv (y := nI (m_many t0)) rfl ?_
      refine lv_iadd hx hb dX12_tells_18 ?_
      refine lv_topv (y := nI ((14 * t0) + (m_many t0))) (nI_add (14 * t0) (m_many t0)) ?_
      refine lv_icmp_ge (tgt := 146) hx hb dX12_tells_19 (by decide) (fun c_2 => ?_) (fun c_2 => ?_)
      · have n_3 : ((14 * t0) + (m_many t0)) ≤ j1 := (lf_X12_tells_4 h q im m_clauseLetter m_sumFrom m_codeFrom m_codeTo m_code m_codeArg m_many m_worth m_isRefused t0 n2 n3 n4 ht0 hXS hnn hmn j1 m_worth_j1 m_isRefused_j1 k6 hj6 hk6 hj0 c_2)
        refine lv_iconst (v := 0) hx hb dX12_tells_146 (by decide) ?_
        exact W.iret (v := 0) hx hb hr (fun tt9 ht hW => ⟨⟨(0 : Int32), ((m_worth_j1 : Nat → Int32), (m_isRefused_j1 : Nat → Int32)), rfl, (lf_X12_tells_5 h q im m_clauseLetter m_sumFrom m_codeFrom m_codeTo m_code m_codeArg m_many m_worth m_isRefused t0 n2 n3 n4 ht0 hXS hnn hmn j1 m_worth_j1 m_isRefused_j1 k6 hj6 hk6 hj0 c_2 n_3), ⟨by rw [ht]; exact hP, hD⟩⟩, hS.F ht⟩) hS.2.2 dX12_tells_147 hlocks
      · have n_6 : j1 < ((14 * t0) + (m_many t0)) := (lf_X12_tells_7 h q im m_clauseLetter m_sumFrom m_codeFrom m_codeTo m_code m_codeArg m_many m_worth m_isRefused t0 n2 n3 n4 ht0 hXS hnn hmn j1 m_worth_j1 m_isRefused_j1 k6 hj6 hk6 hj0 c_2)
        have hk9 := (hXS t0 ht0).2 (j1 - 14 * t0) (by omega)
        rw [show 14 * t0 + (j1 - 14 * t0) = j1 by omega] at hk9
        have hx1 : 200 * t0 ≤ m_sumFrom j1 := hk9.1
        have hx2 : m_sumFrom j1 ≤ m_codeFrom j1 := hk9.2.1
        have hx3 : m_codeFrom j1 ≤ m_codeTo j1 := hk9.2.2.1
        have hx4 : m_codeTo j1 ≤ 200 * t0 + 200 := hk9.2.2.2.1
        have hx5 : GS m_code (m_sumFrom j1) (m_codeFrom j1) := hk9.2.2.2.2.1
        have hx6 : GS m_code (m_codeFrom j1) (m_codeTo j1) := hk9.2.2.2.2.2
        refine lv_aload_n hx hb dX12_tells_22 rfl (lv_at hl 1 rfl) ?_
        refine va_get (D := D) (ci := 12) (v := .ref (q 7)) (C := RX12) (T := TX12) (N := 81) hx hb hts inT_X12 hown hK.1 hP 0 rfl rfl 7 (by decide) (hts _ k_1360) (fun _ h9 => h9) rfl dX12_tells_23 ?_
        refine lv_iload hx hb dX12_tells_26 (lv_at hl 0 rfl) ?_
        refine ld_i hx hb hK hP 1 rfl (lf_X12_tells_8 h q im m_clauseLetter m_sumFrom m_codeFrom m_codeTo m_code m_codeArg m_many m_worth m_isRefused t0 n2 n3 n4 ht0 hXS hnn hmn j1 m_worth_j1 m_isRefused_j1 k6 hj6 hk6 hj0 c_2 n_6 hx1 hx2 hx3 hx4 hx5 hx6) dX12_tells_28 (fun x_9 => ?_)
        refine lv_iload_n hx hb dX12_tells_29 rfl (lv_at hl 3 rfl) ?_
        refine lv_icmp_eq (tgt := 36) hx hb dX12_tells_30 (by decide) (fun c_10 => ?_) (fun c_10 => ?_)
        · refine lv_aload_n hx hb dX12_tells_36 rfl (lv_at hl 1 rfl) ?_
          refine lv_aload_n hx hb dX12_tells_37 rfl (lv_at hl 1 rfl) ?_
          refine va_get (D := D) (ci := 12) (v := .ref (q 9)) (C := RX12) (T := TX12) (N := 81) hx hb hts inT_X12 hown hK.1 hP 0 rfl rfl 9 (by decide) (hts _ k_1362) (fun _ h9 => h9) rfl dX12_tells_38 ?_
          refine lv_iload hx hb dX12_tells_41 (lv_at hl 0 rfl) ?_
          refine lt_i (j := j1) hx hb hK hP 3 rfl (lf_X12_tells_11 h q im m_clauseLetter m_sumFrom m_codeFrom m_codeTo m_code m_codeArg m_many m_worth m_isRefused t0 n2 n3 n4 ht0 hXS hnn hmn j1 m_worth_j1 m_isRefused_j1 k6 hj6 hk6 hj0 c_2 n_6 hx1 hx2 hx3 hx4 hx5 hx6 x_9 c_10) (by decide) dX12_tells_43 ?_
          refine lv_topv (y := nI (m_codeFrom j1)) rfl ?_
          refine lv_aload_n hx hb dX12_tells_44 rfl (lv_at hl 1 rfl) ?_
          refine va_get (D := D) (ci := 12) (v := .ref (q 10)) (C := RX12) (T := TX12) (N := 81) hx hb hts inT_X12 hown hK.1 hP 0 rfl rfl 10 (by decide) (hts _ k_1363) (fun _ h9 => h9) rfl dX12_tells_45 ?_
          refine lv_iload hx hb dX12_tells_48 (lv_at hl 0 rfl) ?_
          refine lt_i (j := j1) hx hb hK hP 4 rfl (lf_X12_tells_12 h q im m_clauseLetter m_sumFrom m_codeFrom m_codeTo m_code m_codeArg m_many m_worth m_isRefused t0 n2 n3 n4 ht0 hXS hnn hmn j1 m_worth_j1 m_isRefused_j1 k6 hj6 hk6 hj0 c_2 n_6 hx1 hx2 hx3 hx4 hx5 hx6 x_9 c_10) (by decide) dX12_tells_50 ?_
          refine lv_topv (y := nI (m_codeTo j1)) rfl ?_
          refine eWv (wr := [(q 7, .inl (cI, 42, .inl m_clauseLetter)), (q 8, .inl (cI, 42, .inl (nF m_sumFrom))), (q 9, .inl (cI, 42, .inl (nF m_codeFrom))), (q 10, .inl (cI, 42, .inl (nF m_codeTo))), (q 6, .inl (cI, 3, .inl (nF m_many)))]) (va_runV (As := [.int (nI (m_codeFrom j1)), .int (nI (m_codeTo j1))]) (rest := []) ⟨hx, hb, hml, hown, hts⟩ (c_X12_works l D cI cB cZ cJ tx h q im m_code m_codeArg m_worth_j1 m_isRefused_j1 (m_codeFrom j1) (m_codeTo j1) (lf_X12_tells_13 h q im m_clauseLetter m_sumFrom m_codeFrom m_codeTo m_code m_codeArg m_many m_worth m_isRefused t0 n2 n3 n4 ht0 hXS hnn hmn j1 m_worth_j1 m_isRefused_j1 k6 hj6 hk6 hj0 c_2 n_6 hx1 hx2 hx3 hx4 hx5 hx6 x_9 c_10) (lf_X12_tells_14 h q im m_clauseLetter m_sumFrom m_codeFrom m_codeTo m_code m_codeArg m_many m_worth m_isRefused t0 n2 n3 n4 ht0 hXS hnn hmn j1 m_worth_j1 m_isRefused_j1 k6 hj6 hk6 hj0 c_2 n_6 hx1 hx2 hx3 hx4 hx5 hx6 x_9 c_10) (lf_X12_tells_15 h q im m_clauseLetter m_sumFrom m_codeFrom m_codeTo m_code m_codeArg m_many m_worth m_isRefused t0 n2 n3 n4 ht0 hXS hnn hmn j1 m_worth_j1 m_isRefused_j1 k6 hj6 hk6 hj0 c_2 n_6 hx1 hx2 hx3 hx4 hx5 hx6 x_9 c_10) (lf_X12_tells_16 h q im m_clauseLetter m_sumFrom m_codeFrom m_codeTo m_code m_codeArg m_many m_worth m_isRefused t0 n2 n3 n4 ht0 hXS hnn hmn j1 m_worth_j1 m_isRefused_j1 k6 hj6 hk6 hj0 c_2 n_6 hx1 hx2 hx3 hx4 hx5 hx6 x_9 c_10) H.size) (zV hts k_1750 v_X12_works ⟨Nat.le_of_ble_eq_true rfl, Nat.le_of_ble_eq_true rfl⟩) (pV (pxS hK hP hD [0, 5, 6, 8, 9] (by decide) rfl) hK hP 0 rfl rfl) rfl rfl hl.1 rfl (lv_room (Nat.le_of_ble_eq_true rfl)) dX12_tells_51 ⟨Nat.le_of_ble_eq_true rfl, Nat.le_of_ble_eq_true rfl⟩) hP hD hS hA [0, 5, 6, 8, 9] [1, 2, 3, 4, 7] rfl rfl (by decide) (by decide) (fun u_18 H locs wr_17 hP hD hS => ?_)
          obtain ⟨m_worth_18, m_isRefused_18⟩ := u_18
          replace hP : va_P D vwCl [(q 7, .inl (cI, 42, .inl m_clauseLetter)), (q 8, .inl (cI, 42, .inl (nF m_sumFrom))), (q 9, .inl (cI, 42, .inl (nF m_codeFrom))), (q 10, .inl (cI, 42, .inl (nF m_codeTo))), (q 6, .inl (cI, 3, .inl (nF m_many))), (h, .inr (12, mG q im)), (q 11, .inl (cI, 600, .inl m_code)), (q 12, .inl (cI, 600, .inl m_codeArg)), (q 42, .inl (cI, 240, .inl m_worth_18)), (q 43, .inl (cZ, 240, .inl m_isRefused_18))] H := hP
          replace hD : va_D A [(q 7, .inl (cI, 42, .inl m_clauseLetter)), (q 8, .inl (cI, 42, .inl (nF m_sumFrom))), (q 9, .inl (cI, 42, .inl (nF m_codeFrom))), (q 10, .inl (cI, 42, .inl (nF m_codeTo))), (q 6, .inl (cI, 3, .inl (nF m_many))), (h, .inr (12, mG q im)), (q 11, .inl (cI, 600, .inl m_code)), (q 12, .inl (cI, 600, .inl m_codeArg)), (q 42, .inl (cI, 240, .inl m_worth_18)), (q 43, .inl (cZ, 240, .inl m_isRefused_18))] := hD
          refine lv_aload_n hx hb dX12_tells_54 rfl (lv_at hl 1 rfl) ?_
          refine va_get (D := D) (ci := 12) (v := .ref (q 43)) (C := RX12) (T := TX12) (N := 81) hx hb hts inT_X12 hown hK.1 hP 5 rfl rfl 43 (by decide) (hts _ k_1396) (fun _ h9 => h9) rfl dX12_tells_55 ?_
          refine lv_iconst (v := 0) hx hb dX12_tells_58 (by decide) ?_
          refine ld_z hx hb hK hP 9 rfl (by unfold vp_in; decide) dX12_tells_59 (fun x_19 => ?_)
          refine lv_if_ne (tgt := 140) hx hb dX12_tells_60 (by decide) (fun c_20 => ?_) (fun c_20 => ?_)
          · refine lv_iinc (v := nI (j1 + 1)) (lv' := [(5, .int (nI (j1 + 1))), (0, .ref h), (1, .int (nI t0)), (2, .int n2), (3, .int n3), (4, .int n4)]) hx hb dX12_tells_140 hl (k := 0) rfl (nI_1 j1) (by decide) rfl (fun ls hl => ?_)
            refine lv_goto (tgt := 6) hx hb dX12_tells_143 (by decide) ?_
            exact ih6 (j1 + 1) m_worth_18 m_isRefused_18 H locs ls (by omega) (by omega) (lf_X12_tells_21 h q im m_clauseLetter m_sumFrom m_codeFrom m_codeTo m_code m_codeArg m_many m_worth m_isRefused t0 n2 n3 n4 ht0 hXS hnn hmn j1 m_worth_j1 m_isRefused_j1 k6 hj6 hk6 hj0 c_2 n_6 hx1 hx2 hx3 hx4 hx5 hx6 x_9 c_10 m_worth_18 m_isRefused_18 x_19 c_20) (hP.sub [5, 0, 1, 2, 3, 6, 7, 4, 8, 9] rfl) (hD.sub [5, 0, 1, 2, 3, 6, 7, 4, 8, 9] (by decide) rfl) hS (lv_sub hl [0, 1, 2, 3, 4, 5] rfl)
          · refine lv_aload_n hx hb dX12_tells_63 rfl (lv_at hl 1 rfl) ?_
            refine va_get (D := D) (ci := 12) (v := .ref (q 42)) (C := RX12) (T := TX12) (N := 81) hx hb hts inT_X12 hown hK.1 hP 5 rfl rfl 42 (by decide) (hts _ k_1395) (fun _ h9 => h9) rfl dX12_tells_64 ?_
            refine lv_iconst (v := 0) hx hb dX12_tells_67 (by decide) ?_
            refine ld_i hx hb hK hP 8 rfl (by unfold vp_in; decide) dX12_tells_68 (fun x_22 => ?_)
            refine lv_iconst (v := 1) hx hb dX12_tells_69 (by decide) ?_
            refine lv_icmp_eq (tgt := 76) hx hb dX12_tells_70 (by decide) (fun c_23 => ?_) (fun c_23 => ?_)
            · refine lv_aload_n hx hb dX12_tells_76 rfl (lv_at hl 1 rfl) ?_
              refine lv_aload_n hx hb dX12_tells_77 rfl (lv_at hl 1 rfl) ?_
              refine va_get (D := D) (ci := 12) (v := .ref (q 8)) (C := RX12) (T := TX12) (N := 81) hx hb hts inT_X12 hown hK.1 hP 5 rfl rfl 8 (by decide) (hts _ k_1361) (fun _ h9 => h9) rfl dX12_tells_78 ?_
              refine lv_iload hx hb dX12_tells_81 (lv_at hl 0 rfl) ?_
              refine lt_i (j := j1) hx hb hK hP 1 rfl (lf_X12_tells_24 h q im m_clauseLetter m_sumFrom m_codeFrom m_codeTo m_code m_codeArg m_many m_worth m_isRefused t0 n2 n3 n4 ht0 hXS hnn hmn j1 m_worth_j1 m_isRefused_j1 k6 hj6 hk6 hj0 c_2 n_6 hx1 hx2 hx3 hx4 hx5 hx6 x_9 c_10 m_worth_18 m_isRefused_18 x_19 c_20 x_22 c_23) (by decide) dX12_tells_83 ?_
              refine lv_topv (y := nI (m_sumFrom j1)) rfl ?_
              refine lv_aload_n hx hb dX12_tells_84 rfl (lv_at hl 1 rfl) ?_
              refine va_get (D := D) (ci := 12) (v := .ref (q 9)) (C := RX12) (T := TX12) (N := 81) hx hb hts inT_X12 hown hK.1 hP 5 rfl rfl 9 (by decide) (hts _ k_1362) (fun _ h9 => h9) rfl dX12_tells_85 ?_
              refine lv_iload hx hb dX12_tells_88 (lv_at hl 0 rfl) ?_
              refine lt_i (j := j1) hx hb hK hP 2 rfl (lf_X12_tells_25 h q im m_clauseLetter m_sumFrom m_codeFrom m_codeTo m_code m_codeArg m_many m_worth m_isRefused t0 n2 n3 n4 ht0 hXS hnn hmn j1 m_worth_j1 m_isRefused_j1 k6 hj6 hk6 hj0 c_2 n_6 hx1 hx2 hx3 hx4 hx5 hx6 x_9 c_10 m_worth_18 m_isRefused_18 x_19 c_20 x_22 c_23) (by decide) dX12_tells_90 ?_
              refine lv_topv (y := nI (m_codeFrom j1)) rfl ?_
              refine eWv (wr := [(q 7, .inl (cI, 42, .inl m_clauseLetter)), (q 8, .inl (cI, 42, .inl (nF m_sumFrom))), (q 9, .inl (cI, 42, .inl (nF m_codeFrom))), (q 10, .inl (cI, 42, .inl (nF m_codeTo))), (q 6, .inl (cI, 3, .inl (nF m_many)))]) (va_runV (As := [.int (nI (m_sumFrom j1)), .int (nI (m_codeFrom j1))]) (rest := []) ⟨hx, hb, hml, hown, hts⟩ (c_X12_works l D cI cB cZ cJ tx h q im m_code m_codeArg m_worth_18 m_isRefused_18 (m_sumFrom j1) (m_codeFrom j1) (lf_X12_tells_26 h q im m_clauseLetter m_sumFrom m_codeFrom m_codeTo m_code m_codeArg m_many m_worth m_isRefused t0 n2 n3 n4 ht0 hXS hnn hmn j1 m_worth_j1 m_isRefused_j1 k6 hj6 hk6 hj0 c_2 n_6 hx1 hx2 hx3 hx4 hx5 hx6 x_9 c_10 m_worth_18 m_isRefused_18 x_19 c_20 x_22 c_23) (lf_X12_tells_27 h q im m_clauseLetter m_sumFrom m_codeFrom m_codeTo m_code m_codeArg m_many m_worth m_isRefused t0 n2 n3 n4 ht0 hXS hnn hmn j1 m_worth_j1 m_isRefused_j1 k6 hj6 hk6 hj0 c_2 n_6 hx1 hx2 hx3 hx4 hx5 hx6 x_9 c_10 m_worth_18 m_isRefused_18 x_19 c_20 x_22 c_23) (lf_X12_tells_28 h q im m_clauseLetter m_sumFrom m_codeFrom m_codeTo m_code m_codeArg m_many m_worth m_isRefused t0 n2 n3 n4 ht0 hXS hnn hmn j1 m_worth_j1 m_isRefused_j1 k6 hj6 hk6 hj0 c_2 n_6 hx1 hx2 hx3 hx4 hx5 hx6 x_9 c_10 m_worth_18 m_isRefused_18 x_19 c_20 x_22 c_23) (lf_X12_tells_29 h q im m_clauseLetter m_sumFrom m_codeFrom m_codeTo m_code m_codeArg m_many m_worth m_isRefused t0 n2 n3 n4 ht0 hXS hnn hmn j1 m_worth_j1 m_isRefused_j1 k6 hj6 hk6 hj0 c_2 n_6 hx1 hx2 hx3 hx4 hx5 hx6 x_9 c_10 m_worth_18 m_isRefused_18 x_19 c_20 x_22 c_23) H.size) (zV hts k_1750 v_X12_works ⟨Nat.le_of_ble_eq_true rfl, Nat.le_of_ble_eq_true rfl⟩) (pV (pxS hK hP hD [5, 6, 7, 8, 9] (by decide) rfl) hK hP 5 rfl rfl) rfl rfl hl.1 rfl (lv_room (Nat.le_of_ble_eq_true rfl)) dX12_tells_91 ⟨Nat.le_of_ble_eq_true rfl, Nat.le_of_ble_eq_true rfl⟩) hP hD hS hA [5, 6, 7, 8, 9] [0, 1, 2, 3, 4] rfl rfl (by decide) (by decide) (fun u_31 H locs wr_30 hP hD hS => ?_)
              obtain ⟨m_worth_31, m_isRefused_31⟩ := u_31
              replace hP : va_P D vwCl [(q 7, .inl (cI, 42, .inl m_clauseLetter)), (q 8, .inl (cI, 42, .inl (nF m_sumFrom))), (q 9, .inl (cI, 42, .inl (nF m_codeFrom))), (q 10, .inl (cI, 42, .inl (nF m_codeTo))), (q 6, .inl (cI, 3, .inl (nF m_many))), (h, .inr (12, mG q im)), (q 11, .inl (cI, 600, .inl m_code)), (q 12, .inl (cI, 600, .inl m_codeArg)), (q 42, .inl (cI, 240, .inl m_worth_31)), (q 43, .inl (cZ, 240, .inl m_isRefused_31))] H := hP
              replace hD : va_D A [(q 7, .inl (cI, 42, .inl m_clauseLetter)), (q 8, .inl (cI, 42, .inl (nF m_sumFrom))), (q 9, .inl (cI, 42, .inl (nF m_codeFrom))), (q 10, .inl (cI, 42, .inl (nF m_codeTo))), (q 6, .inl (cI, 3, .inl (nF m_many))), (h, .inr (12, mG q im)), (q 11, .inl (cI, 600, .inl m_code)), (q 12, .inl (cI, 600, .inl m_codeArg)), (q 42, .inl (cI, 240, .inl m_worth_31)), (q 43, .inl (cZ, 240, .inl m_isRefused_31))] := hD
              refine lv_aload_n hx hb dX12_tells_94 rfl (lv_at hl 1 rfl) ?_
              refine va_get (D := D) (ci := 12) (v := .ref (q 43)) (C := RX12) (T := TX12) (N := 81) hx hb hts inT_X12 hown hK.1 hP 5 rfl rfl 43 (by decide) (hts _ k_1396) (fun _ h9 => h9) rfl dX12_tells_95 ?_
              refine lv_iconst (v := 0) hx hb dX12_tells_98 (by decide) ?_
              refine ld_z hx hb hK hP 9 rfl (by unfold vp_in; decide) dX12_tells_99 (fun x_32 => ?_)
              refine lv_if_eq (tgt := 107) hx hb dX12_tells_100 (by decide) (fun c_33 => ?_) (fun c_33 => ?_)
              · refine lv_aload_n hx hb dX12_tells_107 rfl (lv_at hl 1 rfl) ?_
                refine va_get (D := D) (ci := 12) (v := .ref (q 42)) (C := RX12) (T := TX12) (N := 81) hx hb hts inT_X12 hown hK.1 hP 5 rfl rfl 42 (by decide) (hts _ k_1395) (fun _ h9 => h9) rfl dX12_tells_108 ?_
                refine lv_iconst (v := 0) hx hb dX12_tells_111 (by decide) ?_
                refine ld_i hx hb hK hP 8 rfl (by unfold vp_in; decide) dX12_tells_112 (fun x_34 => ?_)
                refine lv_istore (lv' := [(6, .int x_34), (5, .int (nI j1)), (0, .ref h), (1, .int (nI t0)), (2, .int n2), (3, .int n3), (4, .int n4)]) hx hb dX12_tells_113 hl (by decide) rfl (fun ls hl => ?_)
                refine lv_iload hx hb dX12_tells_115 (lv_at hl 0 rfl) ?_
                refine lv_iload_n hx hb dX12_tells_117 rfl (lv_at hl 5 rfl) ?_
                refine lv_icmp_ge (tgt := 125) hx hb dX12_tells_118 (by decide) (fun c_35 => ?_) (fun c_35 => ?_)
                · refine lv_iload hx hb dX12_tells_125 (lv_at hl 0 rfl) ?_
                  refine lv_iload hx hb dX12_tells_127 (lv_at hl 6 rfl) ?_
                  refine lv_icmp_le (tgt := 137) hx hb dX12_tells_129 (by decide) (fun c_36 => ?_) (fun c_36 => ?_)
                  · refine lv_iload hx hb dX12_tells_137 (lv_at hl 0 rfl) ?_
                    have hP := hP.sub (ws' := [(h, .inr (12, mG q im)), (q 7, .inl (cI, 42, .inl m_clauseLetter)), (q 8, .inl (cI, 42, .inl (nF m_sumFrom))), (q 9, .inl (cI, 42, .inl (nF m_codeFrom))), (q 10, .inl (cI, 42, .inl (nF m_codeTo))), (q 11, .inl (cI, 600, .inl m_code)), (q 12, .inl (cI, 600, .inl m_codeArg)), (q 6, .inl (cI, 3, .inl (nF m_many))), (q 42, .inl (cI, 240, .inl m_worth_31)), (q 43, .inl (cZ, 240, .inl m_isRefused_31))]) [5, 0, 1, 2, 3, 6, 7, 4, 8, 9] rfl
                    have hD := hD.sub (ws' := [(h, .inr (12, mG q im)), (q 7, .inl (cI, 42, .inl m_clauseLetter)), (q 8, .inl (cI, 42, .inl (nF m_sumFrom))), (q 9, .inl (cI, 42, .inl (nF m_codeFrom))), (q 10, .inl (cI, 42, .inl (nF m_codeTo))), (q 11, .inl (cI, 600, .inl m_code)), (q 12, .inl (cI, 600, .inl m_codeArg)), (q 6, .inl (cI, 3, .inl (nF m_many))), (q 42, .inl (cI, 240, .inl m_worth_31)), (q 43, .inl (cZ, 240, .inl m_isRefused_31))]) [5, 0, 1, 2, 3, 6, 7, 4, 8, 9] (by decide) rfl
                    exact W.iret (v := x_34) hx hb hr (fun tt9 ht hW => ⟨⟨(x_34 : Int32), ((m_worth_31 : Nat → Int32), (m_isRefused_31 : Nat → Int32)), rfl, (lf_X12_tells_37 h q im m_clauseLetter m_sumFrom m_codeFrom m_codeTo m_code m_codeArg m_many m_worth m_isRefused t0 n2 n3 n4 ht0 hXS hnn hmn j1 m_worth_j1 m_isRefused_j1 k6 hj6 hk6 hj0 c_2 n_6 hx1 hx2 hx3 hx4 hx5 hx6 x_9 c_10 m_worth_18 m_isRefused_18 x_19 c_20 x_22 c_23 m_worth_31 m_isRefused_31 x_32 c_33 x_34 c_35 c_36), ⟨by rw [ht]; exact hP, hD⟩⟩, hS.F ht⟩) hS.2.2 dX12_tells_139 hlocks
                  · refine lv_iload hx hb dX12_tells_132 (lv_at hl 6 rfl) ?_
                    refine lv_goto (tgt := 139) hx hb dX12_tells_134 (by decide) ?_
                    have hP := hP.sub (ws' := [(h, .inr (12, mG q im)), (q 7, .inl (cI, 42, .inl m_clauseLetter)), (q 8, .inl (cI, 42, .inl (nF m_sumFrom))), (q 9, .inl (cI, 42, .inl (nF m_codeFrom))), (q 10, .inl (cI, 42, .inl (nF m_codeTo))), (q 11, .inl (cI, 600, .inl m_code)), (q 12, .inl (cI, 600, .inl m_codeArg)), (q 6, .inl (cI, 3, .inl (nF m_many))), (q 42, .inl (cI, 240, .inl m_worth_31)), (q 43, .inl (cZ, 240, .inl m_isRefused_31))]) [5, 0, 1, 2, 3, 6, 7, 4, 8, 9] rfl
                    have hD := hD.sub (ws' := [(h, .inr (12, mG q im)), (q 7, .inl (cI, 42, .inl m_clauseLetter)), (q 8, .inl (cI, 42, .inl (nF m_sumFrom))), (q 9, .inl (cI, 42, .inl (nF m_codeFrom))), (q 10, .inl (cI, 42, .inl (nF m_codeTo))), (q 11, .inl (cI, 600, .inl m_code)), (q 12, .inl (cI, 600, .inl m_codeArg)), (q 6, .inl (cI, 3, .inl (nF m_many))), (q 42, .inl (cI, 240, .inl m_worth_31)), (q 43, .inl (cZ, 240, .inl m_isRefused_31))]) [5, 0, 1, 2, 3, 6, 7, 4, 8, 9] (by decide) rfl
                    exact W.iret (v := n4) hx hb hr (fun tt9 ht hW => ⟨⟨(n4 : Int32), ((m_worth_31 : Nat → Int32), (m_isRefused_31 : Nat → Int32)), rfl, (lf_X12_tells_38 h q im m_clauseLetter m_sumFrom m_codeFrom m_codeTo m_code m_codeArg m_many m_worth m_isRefused t0 n2 n3 n4 ht0 hXS hnn hmn j1 m_worth_j1 m_isRefused_j1 k6 hj6 hk6 hj0 c_2 n_6 hx1 hx2 hx3 hx4 hx5 hx6 x_9 c_10 m_worth_18 m_isRefused_18 x_19 c_20 x_22 c_23 m_worth_31 m_isRefused_31 x_32 c_33 x_34 c_35 c_36), ⟨by rw [ht]; exact hP, hD⟩⟩, hS.F ht⟩) hS.2.2 dX12_tells_139 hlocks
                · refine lv_iload_n hx hb dX12_tells_121 rfl (lv_at hl 5 rfl) ?_
                  refine lv_goto (tgt := 139) hx hb dX12_tells_122 (by decide) ?_
                  have hP := hP.sub (ws' := [(h, .inr (12, mG q im)), (q 7, .inl (cI, 42, .inl m_clauseLetter)), (q 8, .inl (cI, 42, .inl (nF m_sumFrom))), (q 9, .inl (cI, 42, .inl (nF m_codeFrom))), (q 10, .inl (cI, 42, .inl (nF m_codeTo))), (q 11, .inl (cI, 600, .inl m_code)), (q 12, .inl (cI, 600, .inl m_codeArg)), (q 6, .inl (cI, 3, .inl (nF m_many))), (q 42, .inl (cI, 240, .inl m_worth_31)), (q 43, .inl (cZ, 240, .inl m_isRefused_31))]) [5, 0, 1, 2, 3, 6, 7, 4, 8, 9] rfl
                  have hD := hD.sub (ws' := [(h, .inr (12, mG q im)), (q 7, .inl (cI, 42, .inl m_clauseLetter)), (q 8, .inl (cI, 42, .inl (nF m_sumFrom))), (q 9, .inl (cI, 42, .inl (nF m_codeFrom))), (q 10, .inl (cI, 42, .inl (nF m_codeTo))), (q 11, .inl (cI, 600, .inl m_code)), (q 12, .inl (cI, 600, .inl m_codeArg)), (q 6, .inl (cI, 3, .inl (nF m_many))), (q 42, .inl (cI, 240, .inl m_worth_31)), (q 43, .inl (cZ, 240, .inl m_isRefused_31))]) [5, 0, 1, 2, 3, 6, 7, 4, 8, 9] (by decide) rfl
                  exact W.iret (v := n3) hx hb hr (fun tt9 ht hW => ⟨⟨(n3 : Int32), ((m_worth_31 : Nat → Int32), (m_isRefused_31 : Nat → Int32)), rfl, (lf_X12_tells_39 h q im m_clauseLetter m_sumFrom m_codeFrom m_codeTo m_code m_codeArg m_many m_worth m_isRefused t0 n2 n3 n4 ht0 hXS hnn hmn j1 m_worth_j1 m_isRefused_j1 k6 hj6 hk6 hj0 c_2 n_6 hx1 hx2 hx3 hx4 hx5 hx6 x_9 c_10 m_worth_18 m_isRefused_18 x_19 c_20 x_22 c_23 m_worth_31 m_isRefused_31 x_32 c_33 x_34 c_35), ⟨by rw [ht]; exact hP, hD⟩⟩, hS.F ht⟩) hS.2.2 dX12_tells_139 hlocks
              · refine lv_iconst (v := 0) hx hb dX12_tells_103 (by decide) ?_
                refine lv_goto (tgt := 113) hx hb dX12_tells_104 (by decide) ?_
                refine lv_istore (lv' := [(6, .int 0), (5, .int (nI j1)), (0, .ref h), (1, .int (nI t0)), (2, .int n2), (3, .int n3), (4, .int n4)]) hx hb dX12_tells_113 hl (by decide) rfl (fun ls hl => ?_)
                refine lv_iload hx hb dX12_tells_115 (lv_at hl 0 rfl) ?_
                refine lv_iload_n hx hb dX12_tells_117 rfl (lv_at hl 5 rfl) ?_
                refine lv_icmp_ge (tgt := 125) hx hb dX12_tells_118 (by decide) (fun c_40 => ?_) (fun c_40 => ?_)
                · refine lv_iload hx hb dX12_tells_125 (lv_at hl 0 rfl) ?_
                  refine lv_iload hx hb dX12_tells_127 (lv_at hl 6 rfl) ?_
                  refine lv_icmp_le (tgt := 137) hx hb dX12_tells_129 (by decide) (fun c_41 => ?_) (fun c_41 => ?_)
                  · refine lv_iload hx hb dX12_tells_137 (lv_at hl 0 rfl) ?_
                    have hP := hP.sub (ws' := [(h, .inr (12, mG q im)), (q 7, .inl (cI, 42, .inl m_clauseLetter)), (q 8, .inl (cI, 42, .inl (nF m_sumFrom))), (q 9, .inl (cI, 42, .inl (nF m_codeFrom))), (q 10, .inl (cI, 42, .inl (nF m_codeTo))), (q 11, .inl (cI, 600, .inl m_code)), (q 12, .inl (cI, 600, .inl m_codeArg)), (q 6, .inl (cI, 3, .inl (nF m_many))), (q 42, .inl (cI, 240, .inl m_worth_31)), (q 43, .inl (cZ, 240, .inl m_isRefused_31))]) [5, 0, 1, 2, 3, 6, 7, 4, 8, 9] rfl
                    have hD := hD.sub (ws' := [(h, .inr (12, mG q im)), (q 7, .inl (cI, 42, .inl m_clauseLetter)), (q 8, .inl (cI, 42, .inl (nF m_sumFrom))), (q 9, .inl (cI, 42, .inl (nF m_codeFrom))), (q 10, .inl (cI, 42, .inl (nF m_codeTo))), (q 11, .inl (cI, 600, .inl m_code)), (q 12, .inl (cI, 600, .inl m_codeArg)), (q 6, .inl (cI, 3, .inl (nF m_many))), (q 42, .inl (cI, 240, .inl m_worth_31)), (q 43, .inl (cZ, 240, .inl m_isRefused_31))]) [5, 0, 1, 2, 3, 6, 7, 4, 8, 9] (by decide) rfl
                    exact W.iret (v := 0) hx hb hr (fun tt9 ht hW => ⟨⟨(0 : Int32), ((m_worth_31 : Nat → Int32), (m_isRefused_31 : Nat → Int32)), rfl, (lf_X12_tells_42 h q im m_clauseLetter m_sumFrom m_codeFrom m_codeTo m_code m_codeArg m_many m_worth m_isRefused t0 n2 n3 n4 ht0 hXS hnn hmn j1 m_worth_j1 m_isRefused_j1 k6 hj6 hk6 hj0 c_2 n_6 hx1 hx2 hx3 hx4 hx5 hx6 x_9 c_10 m_worth_18 m_isRefused_18 x_19 c_20 x_22 c_23 m_worth_31 m_isRefused_31 x_32 c_33 c_40 c_41), ⟨by rw [ht]; exact hP, hD⟩⟩, hS.F ht⟩) hS.2.2 dX12_tells_139 hlocks
                  · refine lv_iload hx hb dX12_tells_132 (lv_at hl 6 rfl) ?_
                    refine lv_goto (tgt := 139) hx hb dX12_tells_134 (by decide) ?_
                    have hP := hP.sub (ws' := [(h, .inr (12, mG q im)), (q 7, .inl (cI, 42, .inl m_clauseLetter)), (q 8, .inl (cI, 42, .inl (nF m_sumFrom))), (q 9, .inl (cI, 42, .inl (nF m_codeFrom))), (q 10, .inl (cI, 42, .inl (nF m_codeTo))), (q 11, .inl (cI, 600, .inl m_code)), (q 12, .inl (cI, 600, .inl m_codeArg)), (q 6, .inl (cI, 3, .inl (nF m_many))), (q 42, .inl (cI, 240, .inl m_worth_31)), (q 43, .inl (cZ, 240, .inl m_isRefused_31))]) [5, 0, 1, 2, 3, 6, 7, 4, 8, 9] rfl
                    have hD := hD.sub (ws' := [(h, .inr (12, mG q im)), (q 7, .inl (cI, 42, .inl m_clauseLetter)), (q 8, .inl (cI, 42, .inl (nF m_sumFrom))), (q 9, .inl (cI, 42, .inl (nF m_codeFrom))), (q 10, .inl (cI, 42, .inl (nF m_codeTo))), (q 11, .inl (cI, 600, .inl m_code)), (q 12, .inl (cI, 600, .inl m_codeArg)), (q 6, .inl (cI, 3, .inl (nF m_many))), (q 42, .inl (cI, 240, .inl m_worth_31)), (q 43, .inl (cZ, 240, .inl m_isRefused_31))]) [5, 0, 1, 2, 3, 6, 7, 4, 8, 9] (by decide) rfl
                    exact W.iret (v := n4) hx hb hr (fun tt9 ht hW => ⟨⟨(n4 : Int32), ((m_worth_31 : Nat → Int32), (m_isRefused_31 : Nat → Int32)), rfl, (lf_X12_tells_43 h q im m_clauseLetter m_sumFrom m_codeFrom m_codeTo m_code m_codeArg m_many m_worth m_isRefused t0 n2 n3 n4 ht0 hXS hnn hmn j1 m_worth_j1 m_isRefused_j1 k6 hj6 hk6 hj0 c_2 n_6 hx1 hx2 hx3 hx4 hx5 hx6 x_9 c_10 m_worth_18 m_isRefused_18 x_19 c_20 x_22 c_23 m_worth_31 m_isRefused_31 x_32 c_33 c_40 c_41), ⟨by rw [ht]; exact hP, hD⟩⟩, hS.F ht⟩) hS.2.2 dX12_tells_139 hlocks
                · refine lv_iload_n hx hb dX12_tells_121 rfl (lv_at hl 5 rfl) ?_
                  refine lv_goto (tgt := 139) hx hb dX12_tells_122 (by decide) ?_
                  have hP := hP.sub (ws' := [(h, .inr (12, mG q im)), (q 7, .inl (cI, 42, .inl m_clauseLetter)), (q 8, .inl (cI, 42, .inl (nF m_sumFrom))), (q 9, .inl (cI, 42, .inl (nF m_codeFrom))), (q 10, .inl (cI, 42, .inl (nF m_codeTo))), (q 11, .inl (cI, 600, .inl m_code)), (q 12, .inl (cI, 600, .inl m_codeArg)), (q 6, .inl (cI, 3, .inl (nF m_many))), (q 42, .inl (cI, 240, .inl m_worth_31)), (q 43, .inl (cZ, 240, .inl m_isRefused_31))]) [5, 0, 1, 2, 3, 6, 7, 4, 8, 9] rfl
                  have hD := hD.sub (ws' := [(h, .inr (12, mG q im)), (q 7, .inl (cI, 42, .inl m_clauseLetter)), (q 8, .inl (cI, 42, .inl (nF m_sumFrom))), (q 9, .inl (cI, 42, .inl (nF m_codeFrom))), (q 10, .inl (cI, 42, .inl (nF m_codeTo))), (q 11, .inl (cI, 600, .inl m_code)), (q 12, .inl (cI, 600, .inl m_codeArg)), (q 6, .inl (cI, 3, .inl (nF m_many))), (q 42, .inl (cI, 240, .inl m_worth_31)), (q 43, .inl (cZ, 240, .inl m_isRefused_31))]) [5, 0, 1, 2, 3, 6, 7, 4, 8, 9] (by decide) rfl
                  exact W.iret (v := n3) hx hb hr (fun tt9 ht hW => ⟨⟨(n3 : Int32), ((m_worth_31 : Nat → Int32), (m_isRefused_31 : Nat → Int32)), rfl, (lf_X12_tells_44 h q im m_clauseLetter m_sumFrom m_codeFrom m_codeTo m_code m_codeArg m_many m_worth m_isRefused t0 n2 n3 n4 ht0 hXS hnn hmn j1 m_worth_j1 m_isRefused_j1 k6 hj6 hk6 hj0 c_2 n_6 hx1 hx2 hx3 hx4 hx5 hx6 x_9 c_10 m_worth_18 m_isRefused_18 x_19 c_20 x_22 c_23 m_worth_31 m_isRefused_31 x_32 c_33 c_40), ⟨by rw [ht]; exact hP, hD⟩⟩, hS.F ht⟩) hS.2.2 dX12_tells_139 hlocks
            · refine lv_goto (tgt := 140) hx hb dX12_tells_73 (by decide) ?_
              refine lv_iinc (v := nI (j1 + 1)) (lv' := [(5, .int (nI (j1 + 1))), (0, .ref h), (1, .int (nI t0)), (2, .int n2), (3, .int n3), (4, .int n4)]) hx hb dX12_tells_140 hl (k := 0) rfl (nI_1 j1) (by decide) rfl (fun ls hl => ?_)
              refine lv_goto (tgt := 6) hx hb dX12_tells_143 (by decide) ?_
              exact ih6 (j1 + 1) m_worth_18 m_isRefused_18 H locs ls (by omega) (by omega) (lf_X12_tells_45 h q im m_clauseLetter m_sumFrom m_codeFrom m_codeTo m_code m_codeArg m_many m_worth m_isRefused t0 n2 n3 n4 ht0 hXS hnn hmn j1 m_worth_j1 m_isRefused_j1 k6 hj6 hk6 hj0 c_2 n_6 hx1 hx2 hx3 hx4 hx5 hx6 x_9 c_10 m_worth_18 m_isRefused_18 x_19 c_20 x_22 c_23) (hP.sub [5, 0, 1, 2, 3, 6, 7, 4, 8, 9] rfl) (hD.sub [5, 0, 1, 2, 3, 6, 7, 4, 8, 9] (by decide) rfl) hS (lv_sub hl [0, 1, 2, 3, 4, 5] rfl)
        · refine lv_goto (tgt := 140) hx hb dX12_tells_33 (by decide) ?_
          refine lv_iinc (v := nI (j1 + 1)) (lv' := [(5, .int (nI (j1 + 1))), (0, .ref h), (1, .int (nI t0)), (2, .int n2), (3, .int n3), (4, .int n4)]) hx hb dX12_tells_140 hl (k := 0) rfl (nI_1 j1) (by decide) rfl (fun ls hl => ?_)
          refine lv_goto (tgt := 6) hx hb dX12_tells_143 (by decide) ?_
          exact ih6 (j1 + 1) m_worth_j1 m_isRefused_j1 H locs ls (by omega) (by omega) (lf_X12_tells_46 h q im m_clauseLetter m_sumFrom m_codeFrom m_codeTo m_code m_codeArg m_many m_worth m_isRefused t0 n2 n3 n4 ht0 hXS hnn hmn j1 m_worth_j1 m_isRefused_j1 k6 hj6 hk6 hj0 c_2 n_6 hx1 hx2 hx3 hx4 hx5 hx6 x_9 c_10) (hP.sub [0, 1, 2, 3, 4, 5, 6, 7, 8, 9] rfl) (hD.sub [0, 1, 2, 3, 4, 5, 6, 7, 8, 9] (by decide) rfl) hS (lv_sub hl [0, 1, 2, 3, 4, 5] rfl)
  exact lp6 ((14 * t0 + m_many t0) + 1) ((14 * t0)) m_worth m_isRefused H locs ls (by omega) (by omega) (lf_X12_tells_47 h q im m_clauseLetter m_sumFrom m_codeFrom m_codeTo m_code m_codeArg m_many m_worth m_isRefused t0 n2 n3 n4 ht0 hXS hnn hmn) (hP.sub [0, 1, 2, 3, 4, 5, 6, 7, 8, 9] rfl) (hD.sub [0, 1, 2, 3, 4, 5, 6, 7, 8, 9] (by decide) rfl) hS (lv_sub hl [0, 1, 2, 3, 4, 5] rfl)

theorem lf_X12_held_b_3 (n1 : Int32) (c_1 : (-3000) ≤ n1) (c_2 : n1 ≤ 3000) : in3 (n1 : Int32) := by
  first | exact held_end (v := 0) (Or.inl rfl) | exact held_end (v := 0) (Or.inr (Or.inl rfl)) | exact in3_of (Or.inr ⟨by assumption, by assumption⟩) | exact in3_of (Or.inr ⟨Int32.not_lt.mp (by assumption), by assumption⟩) | exact in3_of (Or.inr ⟨by assumption, Int32.not_lt.mp (by assumption)⟩) | exact in3_of (Or.inr ⟨Int32.not_lt.mp (by assumption), Int32.not_lt.mp (by assumption)⟩)
theorem lf_X12_held_b_4 (n1 : Int32) (c_1 : (-3000) ≤ n1) (c_2 : ¬ n1 ≤ 3000) : in3 (3000 : Int32) := by
  first | exact held_end (v := 0) (Or.inl rfl) | exact held_end (v := 0) (Or.inr (Or.inl rfl)) | exact in3_of (Or.inr ⟨by assumption, by assumption⟩) | exact in3_of (Or.inr ⟨Int32.not_lt.mp (by assumption), by assumption⟩) | exact in3_of (Or.inr ⟨by assumption, Int32.not_lt.mp (by assumption)⟩) | exact in3_of (Or.inr ⟨Int32.not_lt.mp (by assumption), Int32.not_lt.mp (by assumption)⟩)
theorem lf_X12_held_b_5 (n1 : Int32) (c_1 : ¬ (-3000) ≤ n1) : in3 ((-3000) : Int32) := by
  first | exact held_end (v := 0) (Or.inl rfl) | exact held_end (v := 0) (Or.inr (Or.inl rfl)) | exact in3_of (Or.inr ⟨by assumption, by assumption⟩) | exact in3_of (Or.inr ⟨Int32.not_lt.mp (by assumption), by assumption⟩) | exact in3_of (Or.inr ⟨by assumption, Int32.not_lt.mp (by assumption)⟩) | exact in3_of (Or.inr ⟨Int32.not_lt.mp (by assumption), Int32.not_lt.mp (by assumption)⟩)
set_option maxHeartbeats 4000000 in
set_option maxRecDepth 100000 in
theorem c_X12_held_b (l : Launch) (D : va_G) (cI cB cZ cJ : ClassId) (tx : List (ClassId × FieldType)) (n1 : Int32) : RdI l D cI cB cZ cJ tx yX12_held cX12_held 2 (some .int) 0 [.int n1, .int 3000] [] (fun r => in3 r) := by
  refine rdi_of2 (by decide) (Nat.le_of_ble_eq_true rfl) ?_
  intro p e s m below meth c A ls H locs hC hK hP hD hA hS hl
  obtain ⟨hx, hb, hr, hml, hown, hts, hlocks, hin⟩ := hC
  have hown : s.vm.findClass RX12 = some m.cls := hown
  have hl : lv_has ls 2 [(0, .int n1), (1, .int 3000)] := hl
  refine lv_iload_n hx hb dX12_held_0 rfl (lv_at hl 0 rfl) ?_
  refine lv_iload_n hx hb dX12_held_1 rfl (lv_at hl 1 rfl) ?_
  refine lv_ineg hx hb dX12_held_2 ?_
  refine lv_topv (y := (-3000)) (by decide) ?_
  refine lv_icmp_ge (tgt := 11) hx hb dX12_held_3 (by decide) (fun c_1 => ?_) (fun c_1 => ?_)
  · refine lv_iload_n hx hb dX12_held_11 rfl (lv_at hl 0 rfl) ?_
    refine lv_iload_n hx hb dX12_held_12 rfl (lv_at hl 1 rfl) ?_
    refine lv_icmp_le (tgt := 20) hx hb dX12_held_13 (by decide) (fun c_2 => ?_) (fun c_2 => ?_)
    · refine lv_iload_n hx hb dX12_held_20 rfl (lv_at hl 0 rfl) ?_
      exact W.iret (v := n1) hx hb hr (fun tt9 ht hW => ⟨⟨(n1 : Int32), (), rfl, (lf_X12_held_b_3 n1 c_1 c_2), trivial⟩, hS.F ht⟩) hS.2.2 dX12_held_21 hlocks
    · refine lv_iload_n hx hb dX12_held_16 rfl (lv_at hl 1 rfl) ?_
      refine lv_goto (tgt := 21) hx hb dX12_held_17 (by decide) ?_
      exact W.iret (v := 3000) hx hb hr (fun tt9 ht hW => ⟨⟨(3000 : Int32), (), rfl, (lf_X12_held_b_4 n1 c_1 c_2), trivial⟩, hS.F ht⟩) hS.2.2 dX12_held_21 hlocks
  · refine lv_iload_n hx hb dX12_held_6 rfl (lv_at hl 1 rfl) ?_
    refine lv_ineg hx hb dX12_held_7 ?_
    refine lv_topv (y := (-3000)) (by decide) ?_
    refine lv_goto (tgt := 21) hx hb dX12_held_8 (by decide) ?_
    exact W.iret (v := (-3000)) hx hb hr (fun tt9 ht hW => ⟨⟨((-3000) : Int32), (), rfl, (lf_X12_held_b_5 n1 c_1), trivial⟩, hS.F ht⟩) hS.2.2 dX12_held_21 hlocks
