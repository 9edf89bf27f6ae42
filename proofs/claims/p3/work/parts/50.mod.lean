abbrev mG (q : Nat → Nat) (i : Nat → Int32) : List Value := [.ref (q 0), .int (i 1), .int (i 2), .int (i 3), .int (i 4), .int (i 5), .ref (q 6), .ref (q 7), .ref (q 8), .ref (q 9), .ref (q 10), .ref (q 11), .ref (q 12), .ref (q 13), .ref (q 14), .ref (q 15), .ref (q 16), .ref (q 17), .ref (q 18), .int (i 19), .int (i 20), .int (i 21), .int (i 22), .int (i 23), .int (i 24), .int (i 25), .int (i 26), .int (i 27), .ref (q 28), .int (i 29), .int (i 30), .int (i 31), .int (i 32), .int (i 33), .int (i 34), .int (i 35), .int (i 36), .int (i 37), .int (i 38), .int (i 39), .int (i 40), .int (i 41), .ref (q 42), .ref (q 43), .ref (q 44), .ref (q 45), .ref (q 46), .ref (q 47), .ref (q 48), .int (i 49), .int (i 50), .ref (q 51), .ref (q 52), .ref (q 53), .int (i 54), .int (i 55), .int (i 56), .int (i 57), .int (i 58), .ref (q 59), .ref (q 60), .ref (q 61), .ref (q 62), .ref (q 63), .ref (q 64), .ref (q 65), .ref (q 66), .ref (q 67), .ref (q 68), .ref (q 69), .ref (q 70), .int (i 71), .ref (q 72), .ref (q 73), .ref (q 74), .ref (q 75), .ref (q 76), .ref (q 77), .int (i 78), .int (i 79), .ref (q 80)]
theorem mG_1 (q : Nat → Nat) (i : Nat → Int32) (v : Int32) : (mG q i).set 1 (.int v) = mG q (upd i 1 v) := rfl
theorem mG_2 (q : Nat → Nat) (i : Nat → Int32) (v : Int32) : (mG q i).set 2 (.int v) = mG q (upd i 2 v) := rfl
theorem mG_3 (q : Nat → Nat) (i : Nat → Int32) (v : Int32) : (mG q i).set 3 (.int v) = mG q (upd i 3 v) := rfl
theorem mG_4 (q : Nat → Nat) (i : Nat → Int32) (v : Int32) : (mG q i).set 4 (.int v) = mG q (upd i 4 v) := rfl
theorem mG_5 (q : Nat → Nat) (i : Nat → Int32) (v : Int32) : (mG q i).set 5 (.int v) = mG q (upd i 5 v) := rfl
theorem mG_19 (q : Nat → Nat) (i : Nat → Int32) (v : Int32) : (mG q i).set 19 (.int v) = mG q (upd i 19 v) := rfl
theorem mG_20 (q : Nat → Nat) (i : Nat → Int32) (v : Int32) : (mG q i).set 20 (.int v) = mG q (upd i 20 v) := rfl
theorem mG_21 (q : Nat → Nat) (i : Nat → Int32) (v : Int32) : (mG q i).set 21 (.int v) = mG q (upd i 21 v) := rfl
theorem mG_22 (q : Nat → Nat) (i : Nat → Int32) (v : Int32) : (mG q i).set 22 (.int v) = mG q (upd i 22 v) := rfl
theorem mG_23 (q : Nat → Nat) (i : Nat → Int32) (v : Int32) : (mG q i).set 23 (.int v) = mG q (upd i 23 v) := rfl
theorem mG_24 (q : Nat → Nat) (i : Nat → Int32) (v : Int32) : (mG q i).set 24 (.int v) = mG q (upd i 24 v) := rfl
theorem mG_25 (q : Nat → Nat) (i : Nat → Int32) (v : Int32) : (mG q i).set 25 (.int v) = mG q (upd i 25 v) := rfl
theorem mG_26 (q : Nat → Nat) (i : Nat → Int32) (v : Int32) : (mG q i).set 26 (.int v) = mG q (upd i 26 v) := rfl
theorem mG_27 (q : Nat → Nat) (i : Nat → Int32) (v : Int32) : (mG q i).set 27 (.int v) = mG q (upd i 27 v) := rfl
theorem mG_29 (q : Nat → Nat) (i : Nat → Int32) (v : Int32) : (mG q i).set 29 (.int v) = mG q (upd i 29 v) := rfl
theorem mG_30 (q : Nat → Nat) (i : Nat → Int32) (v : Int32) : (mG q i).set 30 (.int v) = mG q (upd i 30 v) := rfl
theorem mG_31 (q : Nat → Nat) (i : Nat → Int32) (v : Int32) : (mG q i).set 31 (.int v) = mG q (upd i 31 v) := rfl
theorem mG_32 (q : Nat → Nat) (i : Nat → Int32) (v : Int32) : (mG q i).set 32 (.int v) = mG q (upd i 32 v) := rfl
theorem mG_33 (q : Nat → Nat) (i : Nat → Int32) (v : Int32) : (mG q i).set 33 (.int v) = mG q (upd i 33 v) := rfl
theorem mG_34 (q : Nat → Nat) (i : Nat → Int32) (v : Int32) : (mG q i).set 34 (.int v) = mG q (upd i 34 v) := rfl
theorem mG_35 (q : Nat → Nat) (i : Nat → Int32) (v : Int32) : (mG q i).set 35 (.int v) = mG q (upd i 35 v) := rfl
theorem mG_36 (q : Nat → Nat) (i : Nat → Int32) (v : Int32) : (mG q i).set 36 (.int v) = mG q (upd i 36 v) := rfl
theorem mG_37 (q : Nat → Nat) (i : Nat → Int32) (v : Int32) : (mG q i).set 37 (.int v) = mG q (upd i 37 v) := rfl
theorem mG_38 (q : Nat → Nat) (i : Nat → Int32) (v : Int32) : (mG q i).set 38 (.int v) = mG q (upd i 38 v) := rfl
theorem mG_39 (q : Nat → Nat) (i : Nat → Int32) (v : Int32) : (mG q i).set 39 (.int v) = mG q (upd i 39 v) := rfl
theorem mG_40 (q : Nat → Nat) (i : Nat → Int32) (v : Int32) : (mG q i).set 40 (.int v) = mG q (upd i 40 v) := rfl
theorem mG_41 (q : Nat → Nat) (i : Nat → Int32) (v : Int32) : (mG q i).set 41 (.int v) = mG q (upd i 41 v) := rfl
theorem mG_49 (q : Nat → Nat) (i : Nat → Int32) (v : Int32) : (mG q i).set 49 (.int v) = mG q (upd i 49 v) := rfl
theorem mG_50 (q : Nat → Nat) (i : Nat → Int32) (v : Int32) : (mG q i).set 50 (.int v) = mG q (upd i 50 v) := rfl
theorem mG_54 (q : Nat → Nat) (i : Nat → Int32) (v : Int32) : (mG q i).set 54 (.int v) = mG q (upd i 54 v) := rfl
theorem mG_55 (q : Nat → Nat) (i : Nat → Int32) (v : Int32) : (mG q i).set 55 (.int v) = mG q (upd i 55 v) := rfl
theorem mG_56 (q : Nat → Nat) (i : Nat → Int32) (v : Int32) : (mG q i).set 56 (.int v) = mG q (upd i 56 v) := rfl
theorem mG_57 (q : Nat → Nat) (i : Nat → Int32) (v : Int32) : (mG q i).set 57 (.int v) = mG q (upd i 57 v) := rfl
theorem mG_58 (q : Nat → Nat) (i : Nat → Int32) (v : Int32) : (mG q i).set 58 (.int v) = mG q (upd i 58 v) := rfl
theorem mG_71 (q : Nat → Nat) (i : Nat → Int32) (v : Int32) : (mG q i).set 71 (.int v) = mG q (upd i 71 v) := rfl
theorem mG_78 (q : Nat → Nat) (i : Nat → Int32) (v : Int32) : (mG q i).set 78 (.int v) = mG q (upd i 78 v) := rfl
theorem mG_79 (q : Nat → Nat) (i : Nat → Int32) (v : Int32) : (mG q i).set 79 (.int v) = mG q (upd i 79 v) := rfl
/-! The reference's object: its numbers by a row, and which of them a method changes. -/
def SB (l : List Nat) (f g : Nat → Int32) : Prop := ∀ k : Nat, l.contains k = false → g k = f k
theorem SB.rf {l : List Nat} {f : Nat → Int32} : SB l f f := fun _ _ => rfl
theorem SB.put {l : List Nat} {f g g1 : Nat → Int32} {K : Nat} {v : Int32} (h : SB l f g) (e : g1 = upd g K v) (hK : l.contains K = true) : SB l f g1 := by
  intro k hk
  rw [e]
  show (if k = K then v else g k) = f k
  split
  · rename_i q; rw [q, hK] at hk; cases hk
  · exact h k hk
theorem SB.step {l l2 : List Nat} {f g g2 : Nat → Int32} (h : SB l f g) (h2 : SB l2 g g2) (hl : l2.all (fun x => l.contains x) = true) : SB l f g2 := by
  intro k hk
  rw [h2 k ?_]
  · exact h k hk
  · cases hc : l2.contains k with
    | false => rfl
    | true =>
      have h3 := List.all_eq_true.mp hl k (List.contains_iff_mem.mp hc)
      rw [h3] at hk
      cases hk
theorem nI_dec {k : Nat} (h : 1 ≤ k) : nI k + Int32.ofInt (-1) = nI (k - 1) := by
  rw [nI_m1, show (1 : Int32) = nI 1 from rfl, pk_sub h]
theorem lf_X12_isIn_2 (v : Int64) (lo : Int64) (hi : Int64) (c_1 : lg_cmp v lo < 0) : (0 : Int32) = bi (lo ≤ v ∧ v ≤ hi) := by
  simp only [lg_cmp_lt, lg_cmp_gt] at *; first | rfl | (simp only [bi]; rw [if_pos (by grind)]; done) | (simp only [bi]; rw [if_neg (by grind)]; done) | grind
theorem lf_X12_isIn_4 (v : Int64) (lo : Int64) (hi : Int64) (c_1 : ¬ lg_cmp v lo < 0) (c_3 : 0 < lg_cmp v hi) : (0 : Int32) = bi (lo ≤ v ∧ v ≤ hi) := by
  simp only [lg_cmp_lt, lg_cmp_gt] at *; first | rfl | (simp only [bi]; rw [if_pos (by grind)]; done) | (simp only [bi]; rw [if_neg (by grind)]; done) | grind
theorem lf_X12_isIn_5 (v : Int64) (lo : Int64) (hi : Int64) (c_1 : ¬ lg_cmp v lo < 0) (c_3 : ¬ 0 < lg_cmp v hi) : (1 : Int32) = bi (lo ≤ v ∧ v ≤ hi) := by
  simp only [lg_cmp_lt, lg_cmp_gt] at *; first | rfl | (simp only [bi]; rw [if_pos (by grind)]; done) | (simp only [bi]; rw [if_neg (by grind)]; done) | grind
set_option maxHeartbeats 4000000 in
set_option maxRecDepth 100000 in
theorem c_X12_isIn (l : Launch) (D : va_G) (cI cB cZ cJ : ClassId) (tx : List (ClassId × FieldType)) (v : Int64) (lo : Int64) (hi : Int64) : RdI l D cI cB cZ cJ tx yX12_isIn cX12_isIn 6 (some .boolean) 0 [.long v, .long lo, .long hi] [] (fun r => r = bi (lo ≤ v ∧ v ≤ hi)) := by
  refine rdi_of2 (by decide) (Nat.le_of_ble_eq_true rfl) ?_
  intro p e s m below meth c A ls H locs hC hK hP hD hA hS hl
  obtain ⟨hx, hb, hr, hml, hown, hts, hlocks, hin⟩ := hC
  have hown : s.vm.findClass RX12 = some m.cls := hown
  have hl : lv_has ls 6 [(0, .long v), (2, .long lo), (4, .long hi)] := hl
  refine lv_lload_n hx hb dX12_isIn_0 rfl (lv_at hl 0 rfl) ?_
  refine lv_lload_n hx hb dX12_isIn_1 rfl (lv_at hl 1 rfl) ?_
  refine W.lcmp hx hb dX12_isIn_2 ?_
  refine lv_if_lt (tgt := 17) hx hb dX12_isIn_3 (by decide) (fun c_1 => ?_) (fun c_1 => ?_)
  · refine lv_iconst (v := 0) hx hb dX12_isIn_17 (by decide) ?_
    exact W.zret (v := 0) hx hb hr (by decide) (fun tt9 ht hW => ⟨⟨(0 : Int32), (), rfl, (lf_X12_isIn_2 v lo hi c_1), trivial⟩, hS.F ht⟩) hS.2.2 dX12_isIn_18 hlocks
  · refine lv_lload_n hx hb dX12_isIn_6 rfl (lv_at hl 0 rfl) ?_
    refine lv_lload hx hb dX12_isIn_7 (lv_at hl 2 rfl) ?_
    refine W.lcmp hx hb dX12_isIn_9 ?_
    refine lv_if_gt (tgt := 17) hx hb dX12_isIn_10 (by decide) (fun c_3 => ?_) (fun c_3 => ?_)
    · refine lv_iconst (v := 0) hx hb dX12_isIn_17 (by decide) ?_
      exact W.zret (v := 0) hx hb hr (by decide) (fun tt9 ht hW => ⟨⟨(0 : Int32), (), rfl, (lf_X12_isIn_4 v lo hi c_1 c_3), trivial⟩, hS.F ht⟩) hS.2.2 dX12_isIn_18 hlocks
    · refine lv_iconst (v := 1) hx hb dX12_isIn_13 (by decide) ?_
      refine lv_goto (tgt := 18) hx hb dX12_isIn_14 (by decide) ?_
      exact W.zret (v := 1) hx hb hr (by decide) (fun tt9 ht hW => ⟨⟨(1 : Int32), (), rfl, (lf_X12_isIn_5 v lo hi c_1 c_3), trivial⟩, hS.F ht⟩) hS.2.2 dX12_isIn_18 hlocks

theorem lf_X12_has_4 (v1 : Int64) (n2 : Int32) (x_1 : Int64) (ex_1 : x_1 = v1 >>> ((n2).toInt64 &&& 63)) (x_2 : Int64) (ex_2 : x_2 = x_1 &&& 1) (c_3 : ¬ lg_cmp x_2 1 = 0) : True := by
  trivial
theorem lf_X12_has_5 (v1 : Int64) (n2 : Int32) (x_1 : Int64) (ex_1 : x_1 = v1 >>> ((n2).toInt64 &&& 63)) (x_2 : Int64) (ex_2 : x_2 = x_1 &&& 1) (c_3 : lg_cmp x_2 1 = 0) : True := by
  trivial
set_option maxHeartbeats 4000000 in
set_option maxRecDepth 100000 in
theorem c_X12_has (l : Launch) (D : va_G) (cI cB cZ cJ : ClassId) (tx : List (ClassId × FieldType)) (v1 : Int64) (n2 : Int32) : RdI l D cI cB cZ cJ tx yX12_has cX12_has 3 (some .boolean) 0 [.long v1, .int n2] [] (fun r => True) := by
  refine rdi_of2 (by decide) (Nat.le_of_ble_eq_true rfl) ?_
  intro p e s m below meth c A ls H locs hC hK hP hD hA hS hl
  obtain ⟨hx, hb, hr, hml, hown, hts, hlocks, hin⟩ := hC
  have hown : s.vm.findClass RX12 = some m.cls := hown
  have hl : lv_has ls 3 [(0, .long v1), (2, .int n2)] := hl
  refine lv_lload_n hx hb dX12_has_0 rfl (lv_at hl 0 rfl) ?_
  refine lv_iload_n hx hb dX12_has_1 rfl (lv_at hl 1 rfl) ?_
  refine lv_lshr hx hb dX12_has_2 rfl ?_
  refine lv_topl (fun x_1 ex_1 => ?_)
  refine lv_lconst (v := 1) hx hb dX12_has_3 (by decide) ?_
  refine lv_land hx hb dX12_has_4 ?_
  refine lv_topl (fun x_2 ex_2 => ?_)
  refine lv_lconst (v := 1) hx hb dX12_has_5 (by decide) ?_
  refine W.lcmp hx hb dX12_has_6 ?_
  refine lv_if_ne (tgt := 14) hx hb dX12_has_7 (by decide) (fun c_3 => ?_) (fun c_3 => ?_)
  · refine lv_iconst (v := 0) hx hb dX12_has_14 (by decide) ?_
    exact W.zret (v := 0) hx hb hr (by decide) (fun tt9 ht hW => ⟨⟨(0 : Int32), (), rfl, (lf_X12_has_4 v1 n2 x_1 ex_1 x_2 ex_2 c_3), trivial⟩, hS.F ht⟩) hS.2.2 dX12_has_15 hlocks
  · refine lv_iconst (v := 1) hx hb dX12_has_10 (by decide) ?_
    refine lv_goto (tgt := 15) hx hb dX12_has_11 (by decide) ?_
    exact W.zret (v := 1) hx hb hr (by decide) (fun tt9 ht hW => ⟨⟨(1 : Int32), (), rfl, (lf_X12_has_5 v1 n2 x_1 ex_1 x_2 ex_2 c_3), trivial⟩, hS.F ht⟩) hS.2.2 dX12_has_15 hlocks

theorem lf_X12_plain_2 (n1 : Int32) (c_1 : 0 ≤ n1) : True := by
  trivial
theorem lf_X12_plain_4 (n1 : Int32) (c_1 : ¬ 0 ≤ n1) (x_3 : Int32) : True := by
  trivial
set_option maxHeartbeats 4000000 in
set_option maxRecDepth 100000 in
theorem c_X12_plain (l : Launch) (D : va_G) (cI cB cZ cJ : ClassId) (tx : List (ClassId × FieldType)) (n1 : Int32) : RdI l D cI cB cZ cJ tx yX12_plain cX12_plain 1 (some .int) 0 [.int n1] [] (fun r => True) := by
  refine rdi_of2 (by decide) (Nat.le_of_ble_eq_true rfl) ?_
  intro p e s m below meth c A ls H locs hC hK hP hD hA hS hl
  obtain ⟨hx, hb, hr, hml, hown, hts, hlocks, hin⟩ := hC
  have hown : s.vm.findClass RX12 = some m.cls := hown
  have hl : lv_has ls 1 [(0, .int n1)] := hl
  refine lv_iload_n hx hb dX12_plain_0 rfl (lv_at hl 0 rfl) ?_
  refine lv_if_ge (tgt := 9) hx hb dX12_plain_1 (by decide) (fun c_1 => ?_) (fun c_1 => ?_)
  · refine lv_iload_n hx hb dX12_plain_9 rfl (lv_at hl 0 rfl) ?_
    exact W.iret (v := n1) hx hb hr (fun tt9 ht hW => ⟨⟨(n1 : Int32), (), rfl, (lf_X12_plain_2 n1 c_1), trivial⟩, hS.F ht⟩) hS.2.2 dX12_plain_10 hlocks
  · refine lv_iload_n hx hb dX12_plain_4 rfl (lv_at hl 0 rfl) ?_
    refine lv_ineg hx hb dX12_plain_5 ?_
    refine lv_topi (fun x_3 _ => ?_)
    refine lv_goto (tgt := 10) hx hb dX12_plain_6 (by decide) ?_
    exact W.iret (v := x_3) hx hb hr (fun tt9 ht hW => ⟨⟨(x_3 : Int32), (), rfl, (lf_X12_plain_4 n1 c_1 x_3), trivial⟩, hS.F ht⟩) hS.2.2 dX12_plain_10 hlocks

theorem lf_X12_held_4 (n1 : Int32) (n2 : Int32) (x_1 : Int32) (c_2 : x_1 ≤ n1) (c_3 : n1 ≤ n2) : True := by
  trivial
theorem lf_X12_held_5 (n1 : Int32) (n2 : Int32) (x_1 : Int32) (c_2 : x_1 ≤ n1) (c_3 : ¬ n1 ≤ n2) : True := by
  trivial
theorem lf_X12_held_7 (n1 : Int32) (n2 : Int32) (x_1 : Int32) (c_2 : ¬ x_1 ≤ n1) (x_6 : Int32) : True := by
  trivial
set_option maxHeartbeats 4000000 in
set_option maxRecDepth 100000 in
theorem c_X12_held (l : Launch) (D : va_G) (cI cB cZ cJ : ClassId) (tx : List (ClassId × FieldType)) (n1 : Int32) (n2 : Int32) : RdI l D cI cB cZ cJ tx yX12_held cX12_held 2 (some .int) 0 [.int n1, .int n2] [] (fun r => True) := by
  refine rdi_of2 (by decide) (Nat.le_of_ble_eq_true rfl) ?_
  intro p e s m below meth c A ls H locs hC hK hP hD hA hS hl
  obtain ⟨hx, hb, hr, hml, hown, hts, hlocks, hin⟩ := hC
  have hown : s.vm.findClass RX12 = some m.cls := hown
  have hl : lv_has ls 2 [(0, .int n1), (1, .int n2)] := hl
  refine lv_iload_n hx hb dX12_held_0 rfl (lv_at hl 0 rfl) ?_
  refine lv_iload_n hx hb dX12_held_1 rfl (lv_at hl 1 rfl) ?_
  refine lv_ineg hx hb dX12_held_2 ?_
  refine lv_topi (fun x_1 _ => ?_)
  refine lv_icmp_ge (tgt := 11) hx hb dX12_held_3 (by decide) (fun c_2 => ?_) (fun c_2 => ?_)
  · refine lv_iload_n hx hb dX12_held_11 rfl (lv_at hl 0 rfl) ?_
    refine lv_iload_n hx hb dX12_held_12 rfl (lv_at hl 1 rfl) ?_
    refine lv_icmp_le (tgt := 20) hx hb dX12_held_13 (by decide) (fun c_3 => ?_) (fun c_3 => ?_)
    · refine lv_iload_n hx hb dX12_held_20 rfl (lv_at hl 0 rfl) ?_
      exact W.iret (v := n1) hx hb hr (fun tt9 ht hW => ⟨⟨(n1 : Int32), (), rfl, (lf_X12_held_4 n1 n2 x_1 c_2 c_3), trivial⟩, hS.F ht⟩) hS.2.2 dX12_held_21 hlocks
    · refine lv_iload_n hx hb dX12_held_16 rfl (lv_at hl 1 rfl) ?_
      refine lv_goto (tgt := 21) hx hb dX12_held_17 (by decide) ?_
      exact W.iret (v := n2) hx hb hr (fun tt9 ht hW => ⟨⟨(n2 : Int32), (), rfl, (lf_X12_held_5 n1 n2 x_1 c_2 c_3), trivial⟩, hS.F ht⟩) hS.2.2 dX12_held_21 hlocks
  · refine lv_iload_n hx hb dX12_held_6 rfl (lv_at hl 1 rfl) ?_
    refine lv_ineg hx hb dX12_held_7 ?_
    refine lv_topi (fun x_6 _ => ?_)
    refine lv_goto (tgt := 21) hx hb dX12_held_8 (by decide) ?_
    exact W.iret (v := x_6) hx hb hr (fun tt9 ht hW => ⟨⟨(x_6 : Int32), (), rfl, (lf_X12_held_7 n1 n2 x_1 c_2 x_6), trivial⟩, hS.F ht⟩) hS.2.2 dX12_held_21 hlocks

theorem lf_X12_cellOf_1 (f1 : Nat) (s1 : Nat) (d1 : Nat) : (nI (((16 * f1) + (2 * s1)) + d1) : Int32) = nI (16 * f1 + 2 * s1 + d1) := by
  rfl
set_option maxHeartbeats 4000000 in
set_option maxRecDepth 100000 in
theorem c_X12_cellOf (l : Launch) (D : va_G) (cI cB cZ cJ : ClassId) (tx : List (ClassId × FieldType)) (f1 : Nat) (s1 : Nat) (d1 : Nat) : RdI l D cI cB cZ cJ tx yX12_cellOf cX12_cellOf 3 (some .int) 0 [.int (nI f1), .int (nI s1), .int (nI d1)] [] (fun r => r = nI (16 * f1 + 2 * s1 + d1)) := by
  refine rdi_of2 (by decide) (Nat.le_of_ble_eq_true rfl) ?_
  intro p e s m below meth c A ls H locs hC hK hP hD hA hS hl
  obtain ⟨hx, hb, hr, hml, hown, hts, hlocks, hin⟩ := hC
  have hown : s.vm.findClass RX12 = some m.cls := hown
  have hl : lv_has ls 3 [(0, .int (nI f1)), (1, .int (nI s1)), (2, .int (nI d1))] := hl
  refine lv_bipush (v := 16) hx hb dX12_cellOf_0 (by decide) ?_
  refine lv_iload_n hx hb dX12_cellOf_2 rfl (lv_at hl 0 rfl) ?_
  refine lv_imul hx hb dX12_cellOf_3 ?_
  refine lv_topv (y := nI (16 * f1)) (pk_mul 16 f1) ?_
  refine lv_iconst (v := 2) hx hb dX12_cellOf_4 (by decide) ?_
  refine lv_iload_n hx hb dX12_cellOf_5 rfl (lv_at hl 1 rfl) ?_
  refine lv_imul hx hb dX12_cellOf_6 ?_
  refine lv_topv (y := nI (2 * s1)) (pk_mul 2 s1) ?_
  refine lv_iadd hx hb dX12_cellOf_7 ?_
  refine lv_topv (y := nI ((16 * f1) + (2 * s1))) (nI_add (16 * f1) (2 * s1)) ?_
  refine lv_iload_n hx hb dX12_cellOf_8 rfl (lv_at hl 2 rfl) ?_
  refine lv_iadd hx hb dX12_cellOf_9 ?_
  refine lv_topv (y := nI (((16 * f1) + (2 * s1)) + d1)) (nI_add ((16 * f1) + (2 * s1)) d1) ?_
  exact W.iret (v := nI (((16 * f1) + (2 * s1)) + d1)) hx hb hr (fun tt9 ht hW => ⟨⟨(nI (((16 * f1) + (2 * s1)) + d1) : Int32), (), rfl, (lf_X12_cellOf_1 f1 s1 d1), trivial⟩, hS.F ht⟩) hS.2.2 dX12_cellOf_10 hlocks

theorem lf_X12_isStation_2 (h : Nat) (q : Nat → Nat) (im : Nat → Int32) (ms : Nat) (n1 : Int32) (hf_ms : im 2 = nI ms) : (bi ((0 : Int32) ≤ n1 ∧ n1 ≤ nI ms - 1) : Int32) = bi (0 ≤ n1 ∧ n1 ≤ nI ms - 1) := by
  rfl
set_option maxHeartbeats 4000000 in
set_option maxRecDepth 100000 in
theorem c_X12_isStation (l : Launch) (D : va_G) (cI cB cZ cJ : ClassId) (tx : List (ClassId × FieldType)) (h : Nat) (q : Nat → Nat) (im : Nat → Int32) (ms : Nat) (n1 : Int32) (hf_ms : im 2 = nI ms) : RdI l D cI cB cZ cJ tx yX12_isStation cX12_isStation 2 (some .boolean) 1 [.ref h, .int n1] [(h, .inr (12, mG q im))] (fun r => r = bi (0 ≤ n1 ∧ n1 ≤ nI ms - 1)) := by
  refine rdi_of2 (by decide) (Nat.le_of_ble_eq_true rfl) ?_
  intro p e s m below meth c A ls H locs hC hK hP hD hA hS hl
  obtain ⟨hx, hb, hr, hml, hown, hts, hlocks, hin⟩ := hC
  have hown : s.vm.findClass RX12 = some m.cls := hown
  have hl : lv_has ls 2 [(0, .ref h), (1, .int n1)] := hl
  refine lv_iload_n hx hb dX12_isStation_0 rfl (lv_at hl 1 rfl) ?_
  refine lv_i2l (v := n1.toInt64) hx hb dX12_isStation_1 rfl ?_
  refine lv_lconst (v := 0) hx hb dX12_isStation_2 (by decide) ?_
  refine lv_aload_n hx hb dX12_isStation_3 rfl (lv_at hl 0 rfl) ?_
  refine va_get (D := D) (ci := 12) (v := .int (im 2)) (C := RX12) (T := TX12) (N := 81) hx hb hts inT_X12 hown hK.1 hP 0 rfl rfl 2 (by decide) (hts _ k_1355) (fun _ h9 => h9) rfl dX12_isStation_4 ?_
  refine lv_topv (y := nI ms) hf_ms ?_
  refine lv_iconst (v := 1) hx hb dX12_isStation_7 (by decide) ?_
  refine lv_isub hx hb dX12_isStation_8 ?_
  refine lv_i2l (v := (nI ms - 1).toInt64) hx hb dX12_isStation_9 rfl ?_
  refine eRi (va_runS (As := [.long n1.toInt64, .long 0, .long ((nI ms - 1).toInt64)]) (rest := []) ⟨hx, hb, hml, hown, hts⟩ (c_X12_isIn l D cI cB cZ cJ tx n1.toInt64 0 ((nI ms - 1).toInt64) H.size) (zS hts k_1602 v_X12_isIn ⟨Nat.le_of_ble_eq_true rfl, Nat.le_of_ble_eq_true rfl⟩) (px0 hK) rfl rfl hl.1 rfl (lv_room (Nat.le_of_ble_eq_true rfl)) dX12_isStation_10 ⟨Nat.le_of_ble_eq_true rfl, Nat.le_of_ble_eq_true rfl⟩) hP hS hA (fun r_1 H locs wr_1 hP hS => ?_)
  have wr_1 : r_1 = bi ((0 : Int32) ≤ n1 ∧ n1 ≤ nI ms - 1) := isIn32 (lo := 0) (hi := nI ms - 1) (by decide) rfl wr_1
  subst wr_1
  exact W.zret (v := bi ((0 : Int32) ≤ n1 ∧ n1 ≤ nI ms - 1)) hx hb hr nb_bi (fun tt9 ht hW => ⟨⟨(bi ((0 : Int32) ≤ n1 ∧ n1 ≤ nI ms - 1) : Int32), (), rfl, (lf_X12_isStation_2 h q im ms n1 hf_ms), trivial⟩, hS.F ht⟩) hS.2.2 dX12_isStation_13 hlocks

theorem lf_X12_isStrake_2 (h : Nat) (q : Nat → Nat) (im : Nat → Int32) (mk : Nat) (n1 : Int32) (hf_mk : im 3 = nI mk) : (bi ((0 : Int32) ≤ n1 ∧ n1 ≤ nI mk - 1) : Int32) = bi (0 ≤ n1 ∧ n1 ≤ nI mk - 1) := by
  rfl
set_option maxHeartbeats 4000000 in
set_option maxRecDepth 100000 in
theorem c_X12_isStrake (l : Launch) (D : va_G) (cI cB cZ cJ : ClassId) (tx : List (ClassId × FieldType)) (h : Nat) (q : Nat → Nat) (im : Nat → Int32) (mk : Nat) (n1 : Int32) (hf_mk : im 3 = nI mk) : RdI l D cI cB cZ cJ tx yX12_isStrake cX12_isStrake 2 (some .boolean) 1 [.ref h, .int n1] [(h, .inr (12, mG q im))] (fun r => r = bi (0 ≤ n1 ∧ n1 ≤ nI mk - 1)) := by
  refine rdi_of2 (by decide) (Nat.le_of_ble_eq_true rfl) ?_
  intro p e s m below meth c A ls H locs hC hK hP hD hA hS hl
  obtain ⟨hx, hb, hr, hml, hown, hts, hlocks, hin⟩ := hC
  have hown : s.vm.findClass RX12 = some m.cls := hown
  have hl : lv_has ls 2 [(0, .ref h), (1, .int n1)] := hl
  refine lv_iload_n hx hb dX12_isStrake_0 rfl (lv_at hl 1 rfl) ?_
  refine lv_i2l (v := n1.toInt64) hx hb dX12_isStrake_1 rfl ?_
  refine lv_lconst (v := 0) hx hb dX12_isStrake_2 (by decide) ?_
  refine lv_aload_n hx hb dX12_isStrake_3 rfl (lv_at hl 0 rfl) ?_
  refine va_get (D := D) (ci := 12) (v := .int (im 3)) (C := RX12) (T := TX12) (N := 81) hx hb hts inT_X12 hown hK.1 hP 0 rfl rfl 3 (by decide) (hts _ k_1356) (fun _ h9 => h9) rfl dX12_isStrake_4 ?_
  refine lv_topv (y := nI mk) hf_mk ?_
  refine lv_iconst (v := 1) hx hb dX12_isStrake_7 (by decide) ?_
  refine lv_isub hx hb dX12_isStrake_8 ?_
  refine lv_i2l (v := (nI mk - 1).toInt64) hx hb dX12_isStrake_9 rfl ?_
  refine eRi (va_runS (As := [.long n1.toInt64, .long 0, .long ((nI mk - 1).toInt64)]) (rest := []) ⟨hx, hb, hml, hown, hts⟩ (c_X12_isIn l D cI cB cZ cJ tx n1.toInt64 0 ((nI mk - 1).toInt64) H.size) (zS hts k_1602 v_X12_isIn ⟨Nat.le_of_ble_eq_true rfl, Nat.le_of_ble_eq_true rfl⟩) (px0 hK) rfl rfl hl.1 rfl (lv_room (Nat.le_of_ble_eq_true rfl)) dX12_isStrake_10 ⟨Nat.le_of_ble_eq_true rfl, Nat.le_of_ble_eq_true rfl⟩) hP hS hA (fun r_1 H locs wr_1 hP hS => ?_)
  have wr_1 : r_1 = bi ((0 : Int32) ≤ n1 ∧ n1 ≤ nI mk - 1) := isIn32 (lo := 0) (hi := nI mk - 1) (by decide) rfl wr_1
  subst wr_1
  exact W.zret (v := bi ((0 : Int32) ≤ n1 ∧ n1 ≤ nI mk - 1)) hx hb hr nb_bi (fun tt9 ht hW => ⟨⟨(bi ((0 : Int32) ≤ n1 ∧ n1 ≤ nI mk - 1) : Int32), (), rfl, (lf_X12_isStrake_2 h q im mk n1 hf_mk), trivial⟩, hS.F ht⟩) hS.2.2 dX12_isStrake_13 hlocks

theorem lf_X12_isDrawing_2 (h : Nat) (q : Nat → Nat) (im : Nat → Int32) (md : Nat) (n1 : Int32) (hf_md : im 50 = nI md) : (bi ((0 : Int32) ≤ n1 ∧ n1 ≤ nI md - 1) : Int32) = bi (0 ≤ n1 ∧ n1 ≤ nI md - 1) := by
  rfl
set_option maxHeartbeats 4000000 in
set_option maxRecDepth 100000 in
theorem c_X12_isDrawing (l : Launch) (D : va_G) (cI cB cZ cJ : ClassId) (tx : List (ClassId × FieldType)) (h : Nat) (q : Nat → Nat) (im : Nat → Int32) (md : Nat) (n1 : Int32) (hf_md : im 50 = nI md) : RdI l D cI cB cZ cJ tx yX12_isDrawing cX12_isDrawing 2 (some .boolean) 1 [.ref h, .int n1] [(h, .inr (12, mG q im))] (fun r => r = bi (0 ≤ n1 ∧ n1 ≤ nI md - 1)) := by
  refine rdi_of2 (by decide) (Nat.le_of_ble_eq_true rfl) ?_
  intro p e s m below meth c A ls H locs hC hK hP hD hA hS hl
  obtain ⟨hx, hb, hr, hml, hown, hts, hlocks, hin⟩ := hC
  have hown : s.vm.findClass RX12 = some m.cls := hown
  have hl : lv_has ls 2 [(0, .ref h), (1, .int n1)] := hl
  refine lv_iload_n hx hb dX12_isDrawing_0 rfl (lv_at hl 1 rfl) ?_
  refine lv_i2l (v := n1.toInt64) hx hb dX12_isDrawing_1 rfl ?_
  refine lv_lconst (v := 0) hx hb dX12_isDrawing_2 (by decide) ?_
  refine lv_aload_n hx hb dX12_isDrawing_3 rfl (lv_at hl 0 rfl) ?_
  refine va_get (D := D) (ci := 12) (v := .int (im 50)) (C := RX12) (T := TX12) (N := 81) hx hb hts inT_X12 hown hK.1 hP 0 rfl rfl 50 (by decide) (hts _ k_1403) (fun _ h9 => h9) rfl dX12_isDrawing_4 ?_
  refine lv_topv (y := nI md) hf_md ?_
  refine lv_iconst (v := 1) hx hb dX12_isDrawing_7 (by decide) ?_
  refine lv_isub hx hb dX12_isDrawing_8 ?_
  refine lv_i2l (v := (nI md - 1).toInt64) hx hb dX12_isDrawing_9 rfl ?_
  refine eRi (va_runS (As := [.long n1.toInt64, .long 0, .long ((nI md - 1).toInt64)]) (rest := []) ⟨hx, hb, hml, hown, hts⟩ (c_X12_isIn l D cI cB cZ cJ tx n1.toInt64 0 ((nI md - 1).toInt64) H.size) (zS hts k_1602 v_X12_isIn ⟨Nat.le_of_ble_eq_true rfl, Nat.le_of_ble_eq_true rfl⟩) (px0 hK) rfl rfl hl.1 rfl (lv_room (Nat.le_of_ble_eq_true rfl)) dX12_isDrawing_10 ⟨Nat.le_of_ble_eq_true rfl, Nat.le_of_ble_eq_true rfl⟩) hP hS hA (fun r_1 H locs wr_1 hP hS => ?_)
  have wr_1 : r_1 = bi ((0 : Int32) ≤ n1 ∧ n1 ≤ nI md - 1) := isIn32 (lo := 0) (hi := nI md - 1) (by decide) rfl wr_1
  subst wr_1
  exact W.zret (v := bi ((0 : Int32) ≤ n1 ∧ n1 ≤ nI md - 1)) hx hb hr nb_bi (fun tt9 ht hW => ⟨⟨(bi ((0 : Int32) ≤ n1 ∧ n1 ≤ nI md - 1) : Int32), (), rfl, (lf_X12_isDrawing_2 h q im md n1 hf_md), trivial⟩, hS.F ht⟩) hS.2.2 dX12_isDrawing_13 hlocks

theorem lf_X12_isRivet_3 (h : Nat) (q : Nat → Nat) (im : Nat → Int32) (ms : Nat) (mk : Nat) (n1 : Int32) (n2 : Int32) (n3 : Int32) (hf_ms : im 2 = nI ms) (hf_mk : im 3 = nI mk) (hms : ms ≤ 24) (hmk : mk ≤ 8) (hm3 : mk = 0 ∨ 3 ≤ ms) (c_2 : ¬ ((0 : Int32) ≤ n1 ∧ n1 ≤ nI ms - 1)) : ((0 : Int32) = 0) ∨ (∃ f s d : Nat, f < ms ∧ s < mk ∧ d < 2 ∧ n1 = nI f ∧ n2 = nI s ∧ n3 = nI d ∧ (0 : Int32) = 1) := by
  first | exact Or.inl rfl | exact Or.inr ⟨tn1, tn2, tn3, tn1a, tn2a, by omega, tn1e, tn2e, tn3e, rfl⟩
theorem lf_X12_isRivet_4 (h : Nat) (q : Nat → Nat) (im : Nat → Int32) (ms : Nat) (mk : Nat) (n1 : Int32) (n2 : Int32) (n3 : Int32) (hf_ms : im 2 = nI ms) (hf_mk : im 3 = nI mk) (hms : ms ≤ 24) (hmk : mk ≤ 8) (hm3 : mk = 0 ∨ 3 ≤ ms) (c_2 : (0 : Int32) ≤ n1 ∧ n1 ≤ nI ms - 1) : ms < 2 ^ 31 := by
  omega
theorem lf_X12_isRivet_7 (h : Nat) (q : Nat → Nat) (im : Nat → Int32) (ms : Nat) (mk : Nat) (n1 : Int32) (n2 : Int32) (n3 : Int32) (hf_ms : im 2 = nI ms) (hf_mk : im 3 = nI mk) (hms : ms ≤ 24) (hmk : mk ≤ 8) (hm3 : mk = 0 ∨ 3 ≤ ms) (c_2 : (0 : Int32) ≤ n1 ∧ n1 ≤ nI ms - 1) (tn1 : Nat) (tn1a : tn1 < ms) (tn1e : n1 = nI tn1) (c_6 : ¬ ((0 : Int32) ≤ n2 ∧ n2 ≤ nI mk - 1)) : ((0 : Int32) = 0) ∨ (∃ f s d : Nat, f < ms ∧ s < mk ∧ d < 2 ∧ n1 = nI f ∧ n2 = nI s ∧ n3 = nI d ∧ (0 : Int32) = 1) := by
  first | exact Or.inl rfl | exact Or.inr ⟨tn1, tn2, tn3, tn1a, tn2a, by omega, tn1e, tn2e, tn3e, rfl⟩
theorem lf_X12_isRivet_8 (h : Nat) (q : Nat → Nat) (im : Nat → Int32) (ms : Nat) (mk : Nat) (n1 : Int32) (n2 : Int32) (n3 : Int32) (hf_ms : im 2 = nI ms) (hf_mk : im 3 = nI mk) (hms : ms ≤ 24) (hmk : mk ≤ 8) (hm3 : mk = 0 ∨ 3 ≤ ms) (c_2 : (0 : Int32) ≤ n1 ∧ n1 ≤ nI ms - 1) (tn1 : Nat) (tn1a : tn1 < ms) (tn1e : n1 = nI tn1) (c_6 : (0 : Int32) ≤ n2 ∧ n2 ≤ nI mk - 1) : mk < 2 ^ 31 := by
  omega
theorem lf_X12_isRivet_11 (h : Nat) (q : Nat → Nat) (im : Nat → Int32) (ms : Nat) (mk : Nat) (n1 : Int32) (n2 : Int32) (n3 : Int32) (hf_ms : im 2 = nI ms) (hf_mk : im 3 = nI mk) (hms : ms ≤ 24) (hmk : mk ≤ 8) (hm3 : mk = 0 ∨ 3 ≤ ms) (c_2 : (0 : Int32) ≤ n1 ∧ n1 ≤ nI ms - 1) (tn1 : Nat) (tn1a : tn1 < ms) (tn1e : n1 = nI tn1) (c_6 : (0 : Int32) ≤ n2 ∧ n2 ≤ nI mk - 1) (tn2 : Nat) (tn2a : tn2 < mk) (tn2e : n2 = nI tn2) (c_10 : ¬ ((0 : Int32) ≤ n3 ∧ n3 ≤ 1)) : ((0 : Int32) = 0) ∨ (∃ f s d : Nat, f < ms ∧ s < mk ∧ d < 2 ∧ n1 = nI f ∧ n2 = nI s ∧ n3 = nI d ∧ (0 : Int32) = 1) := by
  first | exact Or.inl rfl | exact Or.inr ⟨tn1, tn2, tn3, tn1a, tn2a, by omega, tn1e, tn2e, tn3e, rfl⟩
theorem lf_X12_isRivet_12 (h : Nat) (q : Nat → Nat) (im : Nat → Int32) (ms : Nat) (mk : Nat) (n1 : Int32) (n2 : Int32) (n3 : Int32) (hf_ms : im 2 = nI ms) (hf_mk : im 3 = nI mk) (hms : ms ≤ 24) (hmk : mk ≤ 8) (hm3 : mk = 0 ∨ 3 ≤ ms) (c_2 : (0 : Int32) ≤ n1 ∧ n1 ≤ nI ms - 1) (tn1 : Nat) (tn1a : tn1 < ms) (tn1e : n1 = nI tn1) (c_6 : (0 : Int32) ≤ n2 ∧ n2 ≤ nI mk - 1) (tn2 : Nat) (tn2a : tn2 < mk) (tn2e : n2 = nI tn2) (c_10 : (0 : Int32) ≤ n3 ∧ n3 ≤ 1) (tn3 : Nat) (tn3a : 0 ≤ tn3) (tn3b : tn3 ≤ 1) (tn3e : n3 = nI tn3) : ((1 : Int32) = 0) ∨ (∃ f s d : Nat, f < ms ∧ s < mk ∧ d < 2 ∧ n1 = nI f ∧ n2 = nI s ∧ n3 = nI d ∧ (1 : Int32) = 1) := by
  first | exact Or.inl rfl | exact Or.inr ⟨tn1, tn2, tn3, tn1a, tn2a, by omega, tn1e, tn2e, tn3e, rfl⟩
set_option maxHeartbeats 4000000 in
set_option maxRecDepth 100000 in
theorem c_X12_isRivet (l : Launch) (D : va_G) (cI cB cZ cJ : ClassId) (tx : List (ClassId × FieldType)) (h : Nat) (q : Nat → Nat) (im : Nat → Int32) (ms : Nat) (mk : Nat) (n1 : Int32) (n2 : Int32) (n3 : Int32) (hf_ms : im 2 = nI ms) (hf_mk : im 3 = nI mk) (hms : ms ≤ 24) (hmk : mk ≤ 8) (hm3 : mk = 0 ∨ 3 ≤ ms) : RdI l D cI cB cZ cJ tx yX12_isRivet cX12_isRivet 4 (some .boolean) 2 [.ref h, .int n1, .int n2, .int n3] [(h, .inr (12, mG q im))] (fun r => (r = 0) ∨ (∃ f s d : Nat, f < ms ∧ s < mk ∧ d < 2 ∧ n1 = nI f ∧ n2 = nI s ∧ n3 = nI d ∧ r = 1)) := by
  refine rdi_of2 (by decide) (Nat.le_of_ble_eq_true rfl) ?_
  intro p e s m below meth c A ls H locs hC hK hP hD hA hS hl
  obtain ⟨hx, hb, hr, hml, hown, hts, hlocks, hin⟩ := hC
  have hown : s.vm.findClass RX12 = some m.cls := hown
  have hl : lv_has ls 4 [(0, .ref h), (1, .int n1), (2, .int n2), (3, .int n3)] := hl
  refine lv_aload_n hx hb dX12_isRivet_0 rfl (lv_at hl 0 rfl) ?_
  refine lv_iload_n hx hb dX12_isRivet_1 rfl (lv_at hl 1 rfl) ?_
  refine eRi (va_runV (As := [.int n1]) (rest := []) ⟨hx, hb, hml, hown, hts⟩ (c_X12_isStation l D cI cB cZ cJ tx h q im ms n1 hf_ms H.size) (zV hts k_1803 v_X12_isStation ⟨Nat.le_of_ble_eq_true rfl, Nat.le_of_ble_eq_true rfl⟩) (pV (px1 hK hP 0 rfl) hK hP 0 rfl rfl) rfl rfl hl.1 rfl (lv_room (Nat.le_of_ble_eq_true rfl)) dX12_isRivet_2 ⟨Nat.le_of_ble_eq_true rfl, Nat.le_of_ble_eq_true rfl⟩) hP hS hA (fun r_1 H locs wr_1 hP hS => ?_)
  subst wr_1
  refine lv_bi_eq (tgt := 30) hx hb dX12_isRivet_5 (by decide) (fun c_2 => ?_) (fun c_2 => ?_)
  · refine lv_iconst (v := 0) hx hb dX12_isRivet_30 (by decide) ?_
    exact W.zret (v := 0) hx hb hr (by decide) (fun tt9 ht hW => ⟨⟨(0 : Int32), (), rfl, (lf_X12_isRivet_3 h q im ms mk n1 n2 n3 hf_ms hf_mk hms hmk hm3 c_2), trivial⟩, hS.F ht⟩) hS.2.2 dX12_isRivet_31 hlocks
  · obtain ⟨tn1, tn1a, tn1e⟩ := of_within (lf_X12_isRivet_4 h q im ms mk n1 n2 n3 hf_ms hf_mk hms hmk hm3 c_2) c_2
    subst tn1e
    refine lv_aload_n hx hb dX12_isRivet_8 rfl (lv_at hl 0 rfl) ?_
    refine lv_iload_n hx hb dX12_isRivet_9 rfl (lv_at hl 2 rfl) ?_
    refine eRi (va_runV (As := [.int n2]) (rest := []) ⟨hx, hb, hml, hown, hts⟩ (c_X12_isStrake l D cI cB cZ cJ tx h q im mk n2 hf_mk H.size) (zV hts k_1807 v_X12_isStrake ⟨Nat.le_of_ble_eq_true rfl, Nat.le_of_ble_eq_true rfl⟩) (pV (px1 hK hP 0 rfl) hK hP 0 rfl rfl) rfl rfl hl.1 rfl (lv_room (Nat.le_of_ble_eq_true rfl)) dX12_isRivet_10 ⟨Nat.le_of_ble_eq_true rfl, Nat.le_of_ble_eq_true rfl⟩) hP hS hA (fun r_5 H locs wr_5 hP hS => ?_)
    subst wr_5
    refine lv_bi_eq (tgt := 30) hx hb dX12_isRivet_13 (by decide) (fun c_6 => ?_) (fun c_6 => ?_)
    · refine lv_iconst (v := 0) hx hb dX12_isRivet_30 (by decide) ?_
      exact W.zret (v := 0) hx hb hr (by decide) (fun tt9 ht hW => ⟨⟨(0 : Int32), (), rfl, (lf_X12_isRivet_7 h q im ms mk (nI tn1) n2 n3 hf_ms hf_mk hms hmk hm3 c_2 tn1 tn1a rfl c_6), trivial⟩, hS.F ht⟩) hS.2.2 dX12_isRivet_31 hlocks
    · obtain ⟨tn2, tn2a, tn2e⟩ := of_within (lf_X12_isRivet_8 h q im ms mk (nI tn1) n2 n3 hf_ms hf_mk hms hmk hm3 c_2 tn1 tn1a rfl c_6) c_6
      subst tn2e
      refine lv_iload_n hx hb dX12_isRivet_16 rfl (lv_at hl 3 rfl) ?_
      refine lv_i2l (v := n3.toInt64) hx hb dX12_isRivet_17 rfl ?_
      refine lv_lconst (v := 0) hx hb dX12_isRivet_18 (by decide) ?_
      refine lv_lconst (v := 1) hx hb dX12_isRivet_19 (by decide) ?_
      refine eRi (va_runS (As := [.long n3.toInt64, .long 0, .long 1]) (rest := []) ⟨hx, hb, hml, hown, hts⟩ (c_X12_isIn l D cI cB cZ cJ tx n3.toInt64 0 1 H.size) (zS hts k_1602 v_X12_isIn ⟨Nat.le_of_ble_eq_true rfl, Nat.le_of_ble_eq_true rfl⟩) (px0 hK) rfl rfl hl.1 rfl (lv_room (Nat.le_of_ble_eq_true rfl)) dX12_isRivet_20 ⟨Nat.le_of_ble_eq_true rfl, Nat.le_of_ble_eq_true rfl⟩) hP hS hA (fun r_9 H locs wr_9 hP hS => ?_)
      have wr_9 : r_9 = bi ((0 : Int32) ≤ n3 ∧ n3 ≤ 1) := isIn32 (lo := 0) (hi := 1) (by decide) (by decide) wr_9
      subst wr_9
      refine lv_bi_eq (tgt := 30) hx hb dX12_isRivet_23 (by decide) (fun c_10 => ?_) (fun c_10 => ?_)
      · refine lv_iconst (v := 0) hx hb dX12_isRivet_30 (by decide) ?_
        exact W.zret (v := 0) hx hb hr (by decide) (fun tt9 ht hW => ⟨⟨(0 : Int32), (), rfl, (lf_X12_isRivet_11 h q im ms mk (nI tn1) (nI tn2) n3 hf_ms hf_mk hms hmk hm3 c_2 tn1 tn1a rfl c_6 tn2 tn2a rfl c_10), trivial⟩, hS.F ht⟩) hS.2.2 dX12_isRivet_31 hlocks
      · obtain ⟨tn3, tn3a, tn3b, tn3e⟩ := of_rng 0 1 rfl rfl c_10
        subst tn3e
        refine lv_iconst (v := 1) hx hb dX12_isRivet_26 (by decide) ?_
        refine lv_goto (tgt := 31) hx hb dX12_isRivet_27 (by decide) ?_
        exact W.zret (v := 1) hx hb hr (by decide) (fun tt9 ht hW => ⟨⟨(1 : Int32), (), rfl, (lf_X12_isRivet_12 h q im ms mk (nI tn1) (nI tn2) (nI tn3) hf_ms hf_mk hms hmk hm3 c_2 tn1 tn1a rfl c_6 tn2 tn2a rfl c_10 tn3 tn3a tn3b rfl), trivial⟩, hS.F ht⟩) hS.2.2 dX12_isRivet_31 hlocks

theorem lf_X12_isSeen_2 (h : Nat) (q : Nat → Nat) (im : Nat → Int32) (m_isGone : Nat → Int32) (f1 : Nat) (s1 : Nat) (d1 : Nat) (hf : f1 < 24) (hs : s1 < 8) (hd : d1 < 2) : vp_in (nI (16 * f1 + 2 * s1 + d1)) 384 := by
  first | exact vp_in_nI (by omega) (by decide) | (unfold vp_in; decide)
set_option maxHeartbeats 4000000 in
set_option maxRecDepth 100000 in
theorem c_X12_isSeen (l : Launch) (D : va_G) (cI cB cZ cJ : ClassId) (tx : List (ClassId × FieldType)) (h : Nat) (q : Nat → Nat) (im : Nat → Int32) (m_isGone : Nat → Int32) (f1 : Nat) (s1 : Nat) (d1 : Nat) (hf : f1 < 24) (hs : s1 < 8) (hd : d1 < 2) : RdI l D cI cB cZ cJ tx yX12_isSeen cX12_isSeen 4 (some .boolean) 1 [.ref h, .int (nI f1), .int (nI s1), .int (nI d1)] [(h, .inr (12, mG q im)), (q 46, .inl (cZ, 384, .inl m_isGone))] (fun r => True) := by
  refine rdi_of2 (by decide) (Nat.le_of_ble_eq_true rfl) ?_
  intro p e s m below meth c A ls H locs hC hK hP hD hA hS hl
  obtain ⟨hx, hb, hr, hml, hown, hts, hlocks, hin⟩ := hC
  have hown : s.vm.findClass RX12 = some m.cls := hown
  have hl : lv_has ls 4 [(0, .ref h), (1, .int (nI f1)), (2, .int (nI s1)), (3, .int (nI d1))] := hl
  refine lv_aload_n hx hb dX12_isSeen_0 rfl (lv_at hl 0 rfl) ?_
  refine va_get (D := D) (ci := 12) (v := .ref (q 46)) (C := RX12) (T := TX12) (N := 81) hx hb hts inT_X12 hown hK.1 hP 0 rfl rfl 46 (by decide) (hts _ k_1399) (fun _ h9 => h9) rfl dX12_isSeen_1 ?_
  refine lv_iload_n hx hb dX12_isSeen_4 rfl (lv_at hl 1 rfl) ?_
  refine lv_iload_n hx hb dX12_isSeen_5 rfl (lv_at hl 2 rfl) ?_
  refine lv_iload_n hx hb dX12_isSeen_6 rfl (lv_at hl 3 rfl) ?_
  refine eRi (va_runS (As := [.int (nI f1), .int (nI s1), .int (nI d1)]) (rest := [.ref (q 46)]) ⟨hx, hb, hml, hown, hts⟩ (c_X12_cellOf l D cI cB cZ cJ tx f1 s1 d1 H.size) (zS hts k_1735 v_X12_cellOf ⟨Nat.le_of_ble_eq_true rfl, Nat.le_of_ble_eq_true rfl⟩) (px0 hK) rfl rfl hl.1 rfl (lv_room (Nat.le_of_ble_eq_true rfl)) dX12_isSeen_7 ⟨Nat.le_of_ble_eq_true rfl, Nat.le_of_ble_eq_true rfl⟩) hP hS hA (fun r_1 H locs wr_1 hP hS => ?_)
  subst wr_1
  refine ld_z hx hb hK hP 1 rfl (lf_X12_isSeen_2 h q im m_isGone f1 s1 d1 hf hs hd) dX12_isSeen_10 (fun x_3 => ?_)
  refine lv_if_ne (tgt := 30) hx hb dX12_isSeen_11 (by decide) (fun c_4 => ?_) (fun c_4 => ?_)
  · refine lv_iconst (v := 0) hx hb dX12_isSeen_30 (by decide) ?_
    exact W.zret (v := 0) hx hb hr (by decide) (fun tt9 ht hW => ⟨⟨(0 : Int32), (), rfl, trivial, trivial⟩, hS.F ht⟩) hS.2.2 dX12_isSeen_31 hlocks
  · refine lv_aload_n hx hb dX12_isSeen_14 rfl (lv_at hl 0 rfl) ?_
    refine va_get (D := D) (ci := 12) (v := .int (im 49)) (C := RX12) (T := TX12) (N := 81) hx hb hts inT_X12 hown hK.1 hP 0 rfl rfl 49 (by decide) (hts _ k_1402) (fun _ h9 => h9) rfl dX12_isSeen_15 ?_
    refine lv_i2l (v := (im 49).toInt64) hx hb dX12_isSeen_18 rfl ?_
    refine lv_iload_n hx hb dX12_isSeen_19 rfl (lv_at hl 1 rfl) ?_
    refine eRi (va_runS (As := [.long ((im 49).toInt64), .int (nI f1)]) (rest := []) ⟨hx, hb, hml, hown, hts⟩ (c_X12_has l D cI cB cZ cJ tx ((im 49).toInt64) (nI f1) H.size) (zS hts k_1825 v_X12_has ⟨Nat.le_of_ble_eq_true rfl, Nat.le_of_ble_eq_true rfl⟩) (px0 hK) rfl rfl hl.1 rfl (lv_room (Nat.le_of_ble_eq_true rfl)) dX12_isSeen_20 ⟨Nat.le_of_ble_eq_true rfl, Nat.le_of_ble_eq_true rfl⟩) hP hS hA (fun r_5 H locs wr_5 hP hS => ?_)
    refine lv_if_ne (tgt := 30) hx hb dX12_isSeen_23 (by decide) (fun c_6 => ?_) (fun c_6 => ?_)
    · refine lv_iconst (v := 0) hx hb dX12_isSeen_30 (by decide) ?_
      exact W.zret (v := 0) hx hb hr (by decide) (fun tt9 ht hW => ⟨⟨(0 : Int32), (), rfl, trivial, trivial⟩, hS.F ht⟩) hS.2.2 dX12_isSeen_31 hlocks
    · refine lv_iconst (v := 1) hx hb dX12_isSeen_26 (by decide) ?_
      refine lv_goto (tgt := 31) hx hb dX12_isSeen_27 (by decide) ?_
      exact W.zret (v := 1) hx hb hr (by decide) (fun tt9 ht hW => ⟨⟨(1 : Int32), (), rfl, trivial, trivial⟩, hS.F ht⟩) hS.2.2 dX12_isSeen_31 hlocks

theorem lf_X12_areTwo_3 (h : Nat) (q : Nat → Nat) (im : Nat → Int32) (md : Nat) (n1 : Int32) (n2 : Int32) (hf_md : im 50 = nI md) (hmd : md ≤ 4) (c_2 : ¬ ((0 : Int32) ≤ n1 ∧ n1 ≤ nI md - 1)) : ((0 : Int32) = 0) ∨ (∃ f g : Nat, f < md ∧ g < md ∧ n1 = nI f ∧ n2 = nI g ∧ (0 : Int32) = 1) := by
  first | exact Or.inl rfl | exact Or.inr ⟨tn1, tn2, tn1a, tn2a, tn1e, tn2e, rfl⟩
theorem lf_X12_areTwo_4 (h : Nat) (q : Nat → Nat) (im : Nat → Int32) (md : Nat) (n1 : Int32) (n2 : Int32) (hf_md : im 50 = nI md) (hmd : md ≤ 4) (c_2 : (0 : Int32) ≤ n1 ∧ n1 ≤ nI md - 1) : md < 2 ^ 31 := by
  omega
theorem lf_X12_areTwo_7 (h : Nat) (q : Nat → Nat) (im : Nat → Int32) (md : Nat) (n1 : Int32) (n2 : Int32) (hf_md : im 50 = nI md) (hmd : md ≤ 4) (c_2 : (0 : Int32) ≤ n1 ∧ n1 ≤ nI md - 1) (tn1 : Nat) (tn1a : tn1 < md) (tn1e : n1 = nI tn1) (c_6 : ¬ ((0 : Int32) ≤ n2 ∧ n2 ≤ nI md - 1)) : ((0 : Int32) = 0) ∨ (∃ f g : Nat, f < md ∧ g < md ∧ n1 = nI f ∧ n2 = nI g ∧ (0 : Int32) = 1) := by
  first | exact Or.inl rfl | exact Or.inr ⟨tn1, tn2, tn1a, tn2a, tn1e, tn2e, rfl⟩
theorem lf_X12_areTwo_8 (h : Nat) (q : Nat → Nat) (im : Nat → Int32) (md : Nat) (n1 : Int32) (n2 : Int32) (hf_md : im 50 = nI md) (hmd : md ≤ 4) (c_2 : (0 : Int32) ≤ n1 ∧ n1 ≤ nI md - 1) (tn1 : Nat) (tn1a : tn1 < md) (tn1e : n1 = nI tn1) (c_6 : (0 : Int32) ≤ n2 ∧ n2 ≤ nI md - 1) : md < 2 ^ 31 := by
  omega
theorem lf_X12_areTwo_11 (h : Nat) (q : Nat → Nat) (im : Nat → Int32) (md : Nat) (n1 : Int32) (n2 : Int32) (hf_md : im 50 = nI md) (hmd : md ≤ 4) (c_2 : (0 : Int32) ≤ n1 ∧ n1 ≤ nI md - 1) (tn1 : Nat) (tn1a : tn1 < md) (tn1e : n1 = nI tn1) (c_6 : (0 : Int32) ≤ n2 ∧ n2 ≤ nI md - 1) (tn2 : Nat) (tn2a : tn2 < md) (tn2e : n2 = nI tn2) (c_9 : nI tn1 = nI tn2) : tn1 = tn2 := by
  exact (nI_eq (a := tn1) (b := tn2) (by omega) (by omega)).mp c_9
theorem lf_X12_areTwo_12 (h : Nat) (q : Nat → Nat) (im : Nat → Int32) (md : Nat) (n1 : Int32) (n2 : Int32) (hf_md : im 50 = nI md) (hmd : md ≤ 4) (c_2 : (0 : Int32) ≤ n1 ∧ n1 ≤ nI md - 1) (tn1 : Nat) (tn1a : tn1 < md) (tn1e : n1 = nI tn1) (c_6 : (0 : Int32) ≤ n2 ∧ n2 ≤ nI md - 1) (tn2 : Nat) (tn2a : tn2 < md) (tn2e : n2 = nI tn2) (c_9 : nI tn1 = nI tn2) (n_10 : tn1 = tn2) : ((0 : Int32) = 0) ∨ (∃ f g : Nat, f < md ∧ g < md ∧ n1 = nI f ∧ n2 = nI g ∧ (0 : Int32) = 1) := by
  first | exact Or.inl rfl | exact Or.inr ⟨tn1, tn2, tn1a, tn2a, tn1e, tn2e, rfl⟩
theorem lf_X12_areTwo_14 (h : Nat) (q : Nat → Nat) (im : Nat → Int32) (md : Nat) (n1 : Int32) (n2 : Int32) (hf_md : im 50 = nI md) (hmd : md ≤ 4) (c_2 : (0 : Int32) ≤ n1 ∧ n1 ≤ nI md - 1) (tn1 : Nat) (tn1a : tn1 < md) (tn1e : n1 = nI tn1) (c_6 : (0 : Int32) ≤ n2 ∧ n2 ≤ nI md - 1) (tn2 : Nat) (tn2a : tn2 < md) (tn2e : n2 = nI tn2) (c_9 : ¬ nI tn1 = nI tn2) : tn1 ≠ tn2 := by
  exact fun q => c_9 ((nI_eq (a := tn1) (b := tn2) (by omega) (by omega)).mpr q)
theorem lf_X12_areTwo_15 (h : Nat) (q : Nat → Nat) (im : Nat → Int32) (md : Nat) (n1 : Int32) (n2 : Int32) (hf_md : im 50 = nI md) (hmd : md ≤ 4) (c_2 : (0 : Int32) ≤ n1 ∧ n1 ≤ nI md - 1) (tn1 : Nat) (tn1a : tn1 < md) (tn1e : n1 = nI tn1) (c_6 : (0 : Int32) ≤ n2 ∧ n2 ≤ nI md - 1) (tn2 : Nat) (tn2a : tn2 < md) (tn2e : n2 = nI tn2) (c_9 : ¬ nI tn1 = nI tn2) (n_13 : tn1 ≠ tn2) : ((1 : Int32) = 0) ∨ (∃ f g : Nat, f < md ∧ g < md ∧ n1 = nI f ∧ n2 = nI g ∧ (1 : Int32) = 1) := by
  first | exact Or.inl rfl | exact Or.inr ⟨tn1, tn2, tn1a, tn2a, tn1e, tn2e, rfl⟩
set_option maxHeartbeats 4000000 in
set_option maxRecDepth 100000 in
theorem c_X12_areTwo (l : Launch) (D : va_G) (cI cB cZ cJ : ClassId) (tx : List (ClassId × FieldType)) (h : Nat) (q : Nat → Nat) (im : Nat → Int32) (md : Nat) (n1 : Int32) (n2 : Int32) (hf_md : im 50 = nI md) (hmd : md ≤ 4) : RdI l D cI cB cZ cJ tx yX12_areTwo cX12_areTwo 3 (some .boolean) 2 [.ref h, .int n1, .int n2] [(h, .inr (12, mG q im))] (fun r => (r = 0) ∨ (∃ f g : Nat, f < md ∧ g < md ∧ n1 = nI f ∧ n2 = nI g ∧ r = 1)) := by
  refine rdi_of2 (by decide) (Nat.le_of_ble_eq_true rfl) ?_
  intro p e s m below meth c A ls H locs hC hK hP hD hA hS hl
  obtain ⟨hx, hb, hr, hml, hown, hts, hlocks, hin⟩ := hC
  have hown : s.vm.findClass RX12 = some m.cls := hown
  have hl : lv_has ls 3 [(0, .ref h), (1, .int n1), (2, .int n2)] := hl
  refine lv_aload_n hx hb dX12_areTwo_0 rfl (lv_at hl 0 rfl) ?_
  refine lv_iload_n hx hb dX12_areTwo_1 rfl (lv_at hl 1 rfl) ?_
  refine eRi (va_runV (As := [.int n1]) (rest := []) ⟨hx, hb, hml, hown, hts⟩ (c_X12_isDrawing l D cI cB cZ cJ tx h q im md n1 hf_md H.size) (zV hts k_1841 v_X12_isDrawing ⟨Nat.le_of_ble_eq_true rfl, Nat.le_of_ble_eq_true rfl⟩) (pV (px1 hK hP 0 rfl) hK hP 0 rfl rfl) rfl rfl hl.1 rfl (lv_room (Nat.le_of_ble_eq_true rfl)) dX12_areTwo_2 ⟨Nat.le_of_ble_eq_true rfl, Nat.le_of_ble_eq_true rfl⟩) hP hS hA (fun r_1 H locs wr_1 hP hS => ?_)
  subst wr_1
  refine lv_bi_eq (tgt := 25) hx hb dX12_areTwo_5 (by decide) (fun c_2 => ?_) (fun c_2 => ?_)
  · refine lv_iconst (v := 0) hx hb dX12_areTwo_25 (by decide) ?_
    exact W.zret (v := 0) hx hb hr (by decide) (fun tt9 ht hW => ⟨⟨(0 : Int32), (), rfl, (lf_X12_areTwo_3 h q im md n1 n2 hf_md hmd c_2), trivial⟩, hS.F ht⟩) hS.2.2 dX12_areTwo_26 hlocks
  · obtain ⟨tn1, tn1a, tn1e⟩ := of_within (lf_X12_areTwo_4 h q im md n1 n2 hf_md hmd c_2) c_2
    subst tn1e
    refine lv_aload_n hx hb dX12_areTwo_8 rfl (lv_at hl 0 rfl) ?_
    refine lv_iload_n hx hb dX12_areTwo_9 rfl (lv_at hl 2 rfl) ?_
    refine eRi (va_runV (As := [.int n2]) (rest := []) ⟨hx, hb, hml, hown, hts⟩ (c_X12_isDrawing l D cI cB cZ cJ tx h q im md n2 hf_md H.size) (zV hts k_1841 v_X12_isDrawing ⟨Nat.le_of_ble_eq_true rfl, Nat.le_of_ble_eq_true rfl⟩) (pV (px1 hK hP 0 rfl) hK hP 0 rfl rfl) rfl rfl hl.1 rfl (lv_room (Nat.le_of_ble_eq_true rfl)) dX12_areTwo_10 ⟨Nat.le_of_ble_eq_true rfl, Nat.le_of_ble_eq_true rfl⟩) hP hS hA (fun r_5 H locs wr_5 hP hS => ?_)
    subst wr_5
    refine lv_bi_eq (tgt := 25) hx hb dX12_areTwo_13 (by decide) (fun c_6 => ?_) (fun c_6 => ?_)
    · refine lv_iconst (v := 0) hx hb dX12_areTwo_25 (by decide) ?_
      exact W.zret (v := 0) hx hb hr (by decide) (fun tt9 ht hW => ⟨⟨(0 : Int32), (), rfl, (lf_X12_areTwo_7 h q im md (nI tn1) n2 hf_md hmd c_2 tn1 tn1a rfl c_6), trivial⟩, hS.F ht⟩) hS.2.2 dX12_areTwo_26 hlocks
    · obtain ⟨tn2, tn2a, tn2e⟩ := of_within (lf_X12_areTwo_8 h q im md (nI tn1) n2 hf_md hmd c_2 tn1 tn1a rfl c_6) c_6
      subst tn2e
      refine lv_iload_n hx hb dX12_areTwo_16 rfl (lv_at hl 1 rfl) ?_
      refine lv_iload_n hx hb dX12_areTwo_17 rfl (lv_at hl 2 rfl) ?_
      refine lv_icmp_eq (tgt := 25) hx hb dX12_areTwo_18 (by decide) (fun c_9 => ?_) (fun c_9 => ?_)
      · have n_10 : tn1 = tn2 := (lf_X12_areTwo_11 h q im md (nI tn1) (nI tn2) hf_md hmd c_2 tn1 tn1a rfl c_6 tn2 tn2a rfl c_9)
        refine lv_iconst (v := 0) hx hb dX12_areTwo_25 (by decide) ?_
        exact W.zret (v := 0) hx hb hr (by decide) (fun tt9 ht hW => ⟨⟨(0 : Int32), (), rfl, (lf_X12_areTwo_12 h q im md (nI tn1) (nI tn2) hf_md hmd c_2 tn1 tn1a rfl c_6 tn2 tn2a rfl c_9 n_10), trivial⟩, hS.F ht⟩) hS.2.2 dX12_areTwo_26 hlocks
      · have n_13 : tn1 ≠ tn2 := (lf_X12_areTwo_14 h q im md (nI tn1) (nI tn2) hf_md hmd c_2 tn1 tn1a rfl c_6 tn2 tn2a rfl c_9)
        refine lv_iconst (v := 1) hx hb dX12_areTwo_21 (by decide) ?_
        refine lv_goto (tgt := 26) hx hb dX12_areTwo_22 (by decide) ?_
        exact W.zret (v := 1) hx hb hr (by decide) (fun tt9 ht hW => ⟨⟨(1 : Int32), (), rfl, (lf_X12_areTwo_15 h q im md (nI tn1) (nI tn2) hf_md hmd c_2 tn1 tn1a rfl c_6 tn2 tn2a rfl c_9 n_13), trivial⟩, hS.F ht⟩) hS.2.2 dX12_areTwo_26 hlocks

theorem lf_X12_draws_5 (h : Nat) (q : Nat → Nat) (im : Nat → Int32) (x_1 : Int32) (ex_1 : x_1 = 25173 * im 5) (x_2 : Int32) (ex_2 : x_2 = x_1 + 13849) (x_3 : Int32) (i_4 : Nat → Int32) (hsb : SB [5] im i_4) (hi_4_5 : i_4 5 = x_3) : (SB [5] im (i_4 : Nat → Int32)) := by
  repeat' apply And.intro
  all_goals first | assumption | omega | rfl | trivial
set_option maxHeartbeats 4000000 in
set_option maxRecDepth 100000 in
theorem c_X12_draws (l : Launch) (D : va_G) (cI cB cZ cJ : ClassId) (tx : List (ClassId × FieldType)) (h : Nat) (q : Nat → Nat) (im : Nat → Int32) : WrV l D cI cB cZ cJ tx yX12_draws cX12_draws 1 none 0 0 0 [.ref h] [(h, .inr (12, mG q im))] (fun (v : (Nat → Int32)) => (SB [5] im v)) (fun v => [(h, .inr (12, mG q v))]) := by
  refine wrv_of2 (by decide) (Nat.le_of_ble_eq_true rfl) ?_
  intro p e s m below meth c A ls H locs hC hK hP hD hA hS hl
  obtain ⟨hx, hb, hr, hml, hown, hts, hlocks, hin⟩ := hC
  have hown : s.vm.findClass RX12 = some m.cls := hown
  have hl : lv_has ls 1 [(0, .ref h)] := hl
  have hsb : SB [5] im im := SB.rf
  refine lv_aload_n hx hb dX12_draws_0 rfl (lv_at hl 0 rfl) ?_
  refine lv_sipush (v := 25173) hx hb dX12_draws_1 (by decide) ?_
  refine lv_aload_n hx hb dX12_draws_4 rfl (lv_at hl 0 rfl) ?_
  refine va_get (D := D) (ci := 12) (v := .int (im 5)) (C := RX12) (T := TX12) (N := 81) hx hb hts inT_X12 hown hK.1 hP 0 rfl rfl 5 (by decide) (hts _ k_1358) (fun _ h9 => h9) rfl dX12_draws_5 ?_
  refine lv_imul hx hb dX12_draws_8 ?_
  refine lv_topi (fun x_1 ex_1 => ?_)
  refine lv_sipush (v := 13849) hx hb dX12_draws_9 (by decide) ?_
  refine lv_iadd hx hb dX12_draws_12 ?_
  refine lv_topi (fun x_2 ex_2 => ?_)
  refine lv_ldc (v := 65536) hx hb hown (hts _ k_1787) dX12_draws_13 ?_
  refine lv_irem hx hb dX12_draws_15 (by decide) ?_
  refine lv_topi (fun x_3 _ => ?_)
  refine va_put (D := D) (ci := 12) (v := .int x_3) (ty := .int) (C := RX12) (T := TX12) (N := 81) hx hb hts inT_X12 tyX12 tyX12_ok nmX12 hown hK.1 hP hD hS 0 rfl rfl 5 (by decide) (hts _ k_1358) (fun _ h9 => h9) rfl (by decide +kernel) rfl rfl (Nat.le_of_ble_eq_true rfl) dX12_draws_16 (fun H locs hP hD hS => ?_)
  obtain ⟨i_4, ei_4⟩ : ∃ z : Nat → Int32, z = upd im 5 x_3 := ⟨_, rfl⟩
  have hi_4_5 : i_4 5 = x_3 := by rw [ei_4]; rfl
  have hsb := SB.put hsb ei_4 (by decide)
  have hP : va_P D vwCl [(h, .inr (12, mG q i_4))] H := by rw [ei_4, ← mG_5]; exact hP
  have hD : va_D A [(h, .inr (12, mG q i_4))] := by rw [ei_4, ← mG_5]; exact hD
  exact W.vret hx hb hr (fun tt9 ht hW => ⟨⟨((i_4 : Nat → Int32)), rfl, (lf_X12_draws_5 h q im x_1 ex_1 x_2 ex_2 x_3 i_4 hsb hi_4_5), ⟨by rw [ht]; exact hP, hD⟩⟩, hS.F ht⟩) hS.2.2 dX12_draws_19 hlocks

theorem lf_X12_changes_3 (h : Nat) (q : Nat → Nat) (im : Nat → Int32) (m_isKnown : Nat → Int32) (j1 : Nat) (m_isKnown_j1 : Nat → Int32) (k2 : Nat) (hj2 : j1 ≤ 8) (hk2 : 8 < j1 + (k2 + 1)) (c_1 : 8 ≤ nI j1) : 8 ≤ j1 := by
  exact (nI_leI (a := 8) (b := j1) (by omega) (by omega)).mp c_1
theorem lf_X12_changes_5 (h : Nat) (q : Nat → Nat) (im : Nat → Int32) (m_isKnown : Nat → Int32) (j1 : Nat) (m_isKnown_j1 : Nat → Int32) (k2 : Nat) (hj2 : j1 ≤ 8) (hk2 : 8 < j1 + (k2 + 1)) (c_1 : ¬ 8 ≤ nI j1) : j1 < 8 := by
  exact Nat.lt_of_not_le (fun q => c_1 ((nI_leI (a := 8) (b := j1) (by omega) (by omega)).mpr q))
theorem lf_X12_changes_7 (h : Nat) (q : Nat → Nat) (im : Nat → Int32) (m_isKnown : Nat → Int32) (j1 : Nat) (m_isKnown_j1 : Nat → Int32) (k2 : Nat) (hj2 : j1 ≤ 8) (hk2 : 8 < j1 + (k2 + 1)) (c_1 : ¬ 8 ≤ nI j1) (n_4 : j1 < 8) : vp_in (nI j1) 8 := by
  first | exact vp_in_nI (by omega) (by decide) | (unfold vp_in; decide)
set_option maxHeartbeats 4000000 in
set_option maxRecDepth 100000 in
theorem c_X12_changes (l : Launch) (D : va_G) (cI cB cZ cJ : ClassId) (tx : List (ClassId × FieldType)) (h : Nat) (q : Nat → Nat) (im : Nat → Int32) (m_isKnown : Nat → Int32) : WrV l D cI cB cZ cJ tx yX12_changes cX12_changes 2 none 0 0 0 [.ref h] [(h, .inr (12, mG q im)), (q 66, .inl (cZ, 8, .inl m_isKnown))] (fun (v : (Nat → Int32)) => True) (fun v => [(h, .inr (12, mG q im)), (q 66, .inl (cZ, 8, .inl v))]) := by
  refine wrv_of2 (by decide) (Nat.le_of_ble_eq_true rfl) ?_
  intro p e s m below meth c A ls H locs hC hK hP hD hA hS hl
  obtain ⟨hx, hb, hr, hml, hown, hts, hlocks, hin⟩ := hC
  have hown : s.vm.findClass RX12 = some m.cls := hown
  have hl : lv_has ls 2 [(0, .ref h)] := hl
  refine lv_iconst (v := 0) hx hb dX12_changes_0 (by decide) ?_
  refine lv_istore_n (lv' := [(1, .int 0), (0, .ref h)]) hx hb dX12_changes_1 rfl hl (by decide) rfl (fun ls hl => ?_)
  have lp2 : ∀ (k2 : Nat) (j1 : Nat) (m_isKnown_j1 : Nat → Int32) (H : Heap) (locs : List Loc) (ls : Array Slot), j1 ≤ 8 → 8 < j1 + k2 → va_P D vwCl [(h, .inr (12, mG q im)), (q 66, .inl (cZ, 8, .inl m_isKnown_j1))] H → va_D A [(h, .inr (12, mG q im)), (q 66, .inl (cZ, 8, .inl m_isKnown_j1))] → va_S A s.heap H locs → lv_has ls 2 [(1, .int (nI j1)), (0, .ref h)] → W p l e (rmX 0 0 0) s m ([.ref h] : List Value).toArray below meth c H locs 0 0 (MQ below (va_Qv (fun (v : (Nat → Int32)) => True) (fun u => BX D A ((fun v => [(h, .inr (12, mG q im)), (q 66, .inl (cZ, 8, .inl v))]) u)) A) ([.ref h] : List Value).toArray s 0 0 A) (F0 m 2 ls []) := by
    intro k2
    induction k2 with
    | zero =>
      intro j1 m_isKnown_j1 H locs ls hj2 hk2  hP hD hS hl
      exact absurd hk2 (by omega)
    | succ k2 ih2 =>
      intro j1 m_isKnown_j1 H locs ls hj2 hk2  hP hD hS hl
      refine lv_iload_n hx hb dX12_changes_2 rfl (lv_at hl 0 rfl) ?_
      refine lv_bipush (v := 8) hx hb dX12_changes_3 (by decide) ?_
      refine lv_icmp_ge (tgt := 21) hx hb dX12_changes_5 (by decide) (fun c_1 => ?_) (fun c_1 => ?_)
      · have n_2 : 8 ≤ j1 := (lf_X12_changes_3 h q im m_isKnown j1 m_isKnown_j1 k2 hj2 hk2 c_1)
        exact W.vret hx hb hr (fun tt9 ht hW => ⟨⟨((m_isKnown_j1 : Nat → Int32)), rfl, trivial, ⟨by rw [ht]; exact hP, hD⟩⟩, hS.F ht⟩) hS.2.2 dX12_changes_21 hlocks
      · have n_4 : j1 < 8 := (lf_X12_changes_5 h q im m_isKnown j1 m_isKnown_j1 k2 hj2 hk2 c_1)
        refine lv_aload_n hx hb dX12_changes_8 rfl (lv_at hl 1 rfl) ?_
        refine va_get (D := D) (ci := 12) (v := .ref (q 66)) (C := RX12) (T := TX12) (N := 81) hx hb hts inT_X12 hown hK.1 hP 0 rfl rfl 66 (by decide) (hts _ k_1419) (fun _ h9 => h9) rfl dX12_changes_9 ?_
        refine lv_iload_n hx hb dX12_changes_12 rfl (lv_at hl 0 rfl) ?_
        refine lv_iconst (v := 0) hx hb dX12_changes_13 (by decide) ?_
        refine st_z hx hb hK hP hD hS 1 rfl (lf_X12_changes_7 h q im m_isKnown j1 m_isKnown_j1 k2 hj2 hk2 c_1 n_4) dX12_changes_14 (fun f_6 H locs hP hD hS => ?_)
        have hP : va_P D vwCl [(h, .inr (12, mG q im)), (q 66, .inl (cZ, 8, .inl f_6))] H := hP
        have hD : va_D A [(h, .inr (12, mG q im)), (q 66, .inl (cZ, 8, .inl f_6))] := hD
        refine lv_iinc (v := nI (j1 + 1)) (lv' := [(1, .int (nI (j1 + 1))), (0, .ref h)]) hx hb dX12_changes_15 hl (k := 0) rfl (nI_1 j1) (by decide) rfl (fun ls hl => ?_)
        refine lv_goto (tgt := 2) hx hb dX12_changes_18 (by decide) ?_
        exact ih2 (j1 + 1) f_6 H locs ls (by omega) (by omega)  (hP.sub [0, 1] rfl) (hD.sub [0, 1] (by decide) rfl) hS (lv_sub hl [0, 1] rfl)
  exact lp2 (8 + 1) 0 m_isKnown H locs ls (by omega) (by omega)  (hP.sub [0, 1] rfl) (hD.sub [0, 1] (by decide) rfl) hS (lv_sub hl [0, 1] rfl)

theorem lf_X12_push_4 (h : Nat) (q : Nat → Nat) (im : Nat → Int32) (tp : Nat) (m_tape : Nat → Int32) (n1 : Int32) (hf_tp : im 1 = nI tp) (htp : tp + 4 ≤ 220) (hsb : SB [1] im im) (x_1 : Int32) (ex_1 : x_1 = n1 >>> (24 &&& 31)) (x_2 : Int32) : vp_in (nI tp) 220 := by
  first | exact vp_in_nI (by omega) (by decide) | (unfold vp_in; decide)
theorem lf_X12_push_9 (h : Nat) (q : Nat → Nat) (im : Nat → Int32) (tp : Nat) (m_tape : Nat → Int32) (n1 : Int32) (hf_tp : im 1 = nI tp) (htp : tp + 4 ≤ 220) (x_1 : Int32) (ex_1 : x_1 = n1 >>> (24 &&& 31)) (x_2 : Int32) (f_3 : Nat → Int32) (i_5 : Nat → Int32) (hsb : SB [1] im i_5) (x_6 : Int32) (ex_6 : x_6 = n1 >>> (16 &&& 31)) (x_7 : Int32) : vp_in (nI (tp + 1)) 220 := by
  first | exact vp_in_nI (by omega) (by decide) | (unfold vp_in; decide)
theorem lf_X12_push_14 (h : Nat) (q : Nat → Nat) (im : Nat → Int32) (tp : Nat) (m_tape : Nat → Int32) (n1 : Int32) (hf_tp : im 1 = nI tp) (htp : tp + 4 ≤ 220) (x_1 : Int32) (ex_1 : x_1 = n1 >>> (24 &&& 31)) (x_2 : Int32) (f_3 : Nat → Int32) (i_5 : Nat → Int32) (x_6 : Int32) (ex_6 : x_6 = n1 >>> (16 &&& 31)) (x_7 : Int32) (f_8 : Nat → Int32) (i_10 : Nat → Int32) (hsb : SB [1] im i_10) (x_11 : Int32) (ex_11 : x_11 = n1 >>> (8 &&& 31)) (x_12 : Int32) : vp_in (nI ((tp + 1) + 1)) 220 := by
  first | exact vp_in_nI (by omega) (by decide) | (unfold vp_in; decide)
theorem lf_X12_push_19 (h : Nat) (q : Nat → Nat) (im : Nat → Int32) (tp : Nat) (m_tape : Nat → Int32) (n1 : Int32) (hf_tp : im 1 = nI tp) (htp : tp + 4 ≤ 220) (x_1 : Int32) (ex_1 : x_1 = n1 >>> (24 &&& 31)) (x_2 : Int32) (f_3 : Nat → Int32) (i_5 : Nat → Int32) (x_6 : Int32) (ex_6 : x_6 = n1 >>> (16 &&& 31)) (x_7 : Int32) (f_8 : Nat → Int32) (i_10 : Nat → Int32) (x_11 : Int32) (ex_11 : x_11 = n1 >>> (8 &&& 31)) (x_12 : Int32) (f_13 : Nat → Int32) (i_15 : Nat → Int32) (hsb : SB [1] im i_15) (x_16 : Int32) (ex_16 : x_16 = n1 >>> (0 &&& 31)) (x_17 : Int32) : vp_in (nI (((tp + 1) + 1) + 1)) 220 := by
  first | exact vp_in_nI (by omega) (by decide) | (unfold vp_in; decide)
theorem lf_X12_push_21 (h : Nat) (q : Nat → Nat) (im : Nat → Int32) (tp : Nat) (m_tape : Nat → Int32) (n1 : Int32) (hf_tp : im 1 = nI tp) (htp : tp + 4 ≤ 220) (x_1 : Int32) (ex_1 : x_1 = n1 >>> (24 &&& 31)) (x_2 : Int32) (f_3 : Nat → Int32) (i_5 : Nat → Int32) (x_6 : Int32) (ex_6 : x_6 = n1 >>> (16 &&& 31)) (x_7 : Int32) (f_8 : Nat → Int32) (i_10 : Nat → Int32) (x_11 : Int32) (ex_11 : x_11 = n1 >>> (8 &&& 31)) (x_12 : Int32) (f_13 : Nat → Int32) (i_15 : Nat → Int32) (x_16 : Int32) (ex_16 : x_16 = n1 >>> (0 &&& 31)) (x_17 : Int32) (f_18 : Nat → Int32) (i_20 : Nat → Int32) (hsb : SB [1] im i_20) (hi_20_1 : i_20 1 = nI ((((tp + 1) + 1) + 1) + 1)) : (SB [1] im (i_20 : Nat → Int32)) ∧ ((i_20 : Nat → Int32) 1 = nI (((((tp + 1) + 1) + 1) + 1) : Nat)) ∧ ((((((tp + 1) + 1) + 1) + 1) : Nat) = tp + 4) := by
  repeat' apply And.intro
  all_goals first | assumption | omega | rfl | trivial
set_option maxHeartbeats 4000000 in
set_option maxRecDepth 100000 in
theorem c_X12_push (l : Launch) (D : va_G) (cI cB cZ cJ : ClassId) (tx : List (ClassId × FieldType)) (h : Nat) (q : Nat → Nat) (im : Nat → Int32) (tp : Nat) (m_tape : Nat → Int32) (n1 : Int32) (hf_tp : im 1 = nI tp) (htp : tp + 4 ≤ 220) : WrV l D cI cB cZ cJ tx yX12_push cX12_push 3 none 0 0 0 [.ref h, .int n1] [(h, .inr (12, mG q im)), (q 0, .inl (cB, 220, .inl m_tape))] (fun (v : (Nat → Int32) × (Nat) × (Nat → Int32)) => (SB [1] im v.1) ∧ (v.1 1 = nI v.2.1) ∧ (v.2.1 = tp + 4)) (fun v => [(h, .inr (12, mG q v.1)), (q 0, .inl (cB, 220, .inl v.2.2))]) := by
  refine wrv_of2 (by decide) (Nat.le_of_ble_eq_true rfl) ?_
  intro p e s m below meth c A ls H locs hC hK hP hD hA hS hl
  obtain ⟨hx, hb, hr, hml, hown, hts, hlocks, hin⟩ := hC
  have hown : s.vm.findClass RX12 = some m.cls := hown
  have hl : lv_has ls 3 [(0, .ref h), (1, .int n1)] := hl
  have hsb : SB [1] im im := SB.rf
  refine lv_bipush (v := 24) hx hb dX12_push_0 (by decide) ?_
  refine lv_istore_n (lv' := [(2, .int 24), (0, .ref h), (1, .int n1)]) hx hb dX12_push_2 rfl hl (by decide) rfl (fun ls hl => ?_)
  refine lv_iload_n hx hb dX12_push_3 rfl (lv_at hl 0 rfl) ?_
  refine lv_if_lt (tgt := 36) hx hb dX12_push_4 (by decide) (fun c => absurd c (by decide)) (fun _ => ?_)
  refine lv_aload_n hx hb dX12_push_7 rfl (lv_at hl 1 rfl) ?_
  refine va_get (D := D) (ci := 12) (v := .ref (q 0)) (C := RX12) (T := TX12) (N := 81) hx hb hts inT_X12 hown hK.1 hP 0 rfl rfl 0 (by decide) (hts _ k_1353) (fun _ h9 => h9) rfl dX12_push_8 ?_
  refine lv_aload_n hx hb dX12_push_11 rfl (lv_at hl 1 rfl) ?_
  refine va_get (D := D) (ci := 12) (v := .int (im 1)) (C := RX12) (T := TX12) (N := 81) hx hb hts inT_X12 hown hK.1 hP 0 rfl rfl 1 (by decide) (hts _ k_1354) (fun _ h9 => h9) rfl dX12_push_12 ?_
  refine lv_topv (y := nI tp) hf_tp ?_
  refine lv_iload_n hx hb dX12_push_15 rfl (lv_at hl 2 rfl) ?_
  refine lv_iload_n hx hb dX12_push_16 rfl (lv_at hl 0 rfl) ?_
  refine lv_ishr hx hb dX12_push_17 ?_
  refine lv_topi (fun x_1 ex_1 => ?_)
  refine lv_i2b hx hb dX12_push_18 rfl ?_
  refine lv_topi (fun x_2 _ => ?_)
  refine st_b hx hb hK hP hD hS 1 rfl (lf_X12_push_4 h q im tp m_tape n1 hf_tp htp hsb x_1 ex_1 x_2) dX12_push_19 (fun f_3 H locs hP hD hS => ?_)
  have hP : va_P D vwCl [(h, .inr (12, mG q im)), (q 0, .inl (cB, 220, .inl f_3))] H := hP
  have hD : va_D A [(h, .inr (12, mG q im)), (q 0, .inl (cB, 220, .inl f_3))] := hD
  refine lv_aload_n hx hb dX12_push_20 rfl (lv_at hl 1 rfl) ?_
  refine lv_dup hx hb dX12_push_21 rfl ?_
  refine va_get (D := D) (ci := 12) (v := .int (im 1)) (C := RX12) (T := TX12) (N := 81) hx hb hts inT_X12 hown hK.1 hP 0 rfl rfl 1 (by decide) (hts _ k_1354) (fun _ h9 => h9) rfl dX12_push_22 ?_
  refine lv_topv (y := nI tp) hf_tp ?_
  refine lv_iconst (v := 1) hx hb dX12_push_25 (by decide) ?_
  refine lv_iadd hx hb dX12_push_26 ?_
  refine lv_topv (y := nI (tp + 1)) (nI_add tp 1) ?_
  refine va_put (D := D) (ci := 12) (v := .int (nI (tp + 1))) (ty := .int) (C := RX12) (T := TX12) (N := 81) hx hb hts inT_X12 tyX12 tyX12_ok nmX12 hown hK.1 hP hD hS 0 rfl rfl 1 (by decide) (hts _ k_1354) (fun _ h9 => h9) rfl (by decide +kernel) rfl rfl (Nat.le_of_ble_eq_true rfl) dX12_push_27 (fun H locs hP hD hS => ?_)
  obtain ⟨i_5, ei_5⟩ : ∃ z : Nat → Int32, z = upd im 1 (nI (tp + 1)) := ⟨_, rfl⟩
  have hi_5_1 : i_5 1 = nI (tp + 1) := by rw [ei_5]; rfl
  have hsb := SB.put hsb ei_5 (by decide)
  have hP : va_P D vwCl [(h, .inr (12, mG q i_5)), (q 0, .inl (cB, 220, .inl f_3))] H := by rw [ei_5, ← mG_1]; exact hP
  have hD : va_D A [(h, .inr (12, mG q i_5)), (q 0, .inl (cB, 220, .inl f_3))] := by rw [ei_5, ← mG_1]; exact hD
  refine lv_iinc (v := 16) (lv' := [(2, .int 16), (0, .ref h), (1, .int n1)]) hx hb dX12_push_30 hl (k := 0) rfl (by decide) (by decide) rfl (fun ls hl => ?_)
  refine lv_goto (tgt := 3) hx hb dX12_push_33 (by decide) ?_
  refine lv_iload_n hx hb dX12_push_3 rfl (lv_at hl 0 rfl) ?_
  refine lv_if_lt (tgt := 36) hx hb dX12_push_4 (by decide) (fun c => absurd c (by decide)) (fun _ => ?_)
  refine lv_aload_n hx hb dX12_push_7 rfl (lv_at hl 1 rfl) ?_
  refine va_get (D := D) (ci := 12) (v := .ref (q 0)) (C := RX12) (T := TX12) (N := 81) hx hb hts inT_X12 hown hK.1 hP 0 rfl rfl 0 (by decide) (hts _ k_1353) (fun _ h9 => h9) rfl dX12_push_8 ?_
  refine lv_aload_n hx hb dX12_push_11 rfl (lv_at hl 1 rfl) ?_
  refine va_get (D := D) (ci := 12) (v := .int (i_5 1)) (C := RX12) (T := TX12) (N := 81) hx hb hts inT_X12 hown hK.1 hP 0 rfl rfl 1 (by decide) (hts _ k_1354) (fun _ h9 => h9) rfl dX12_push_12 ?_
  refine lv_topv (y := nI (tp + 1)) hi_5_1 ?_
  refine lv_iload_n hx hb dX12_push_15 rfl (lv_at hl 2 rfl) ?_
  refine lv_iload_n hx hb dX12_push_16 rfl (lv_at hl 0 rfl) ?_
  refine lv_ishr hx hb dX12_push_17 ?_
  refine lv_topi (fun x_6 ex_6 => ?_)
  refine lv_i2b hx hb dX12_push_18 rfl ?_
  refine lv_topi (fun x_7 _ => ?_)
  refine st_b hx hb hK hP hD hS 1 rfl (lf_X12_push_9 h q im tp m_tape n1 hf_tp htp x_1 ex_1 x_2 f_3 i_5 hsb x_6 ex_6 x_7) dX12_push_19 (fun f_8 H locs hP hD hS => ?_)
  have hP : va_P D vwCl [(h, .inr (12, mG q i_5)), (q 0, .inl (cB, 220, .inl f_8))] H := hP
  have hD : va_D A [(h, .inr (12, mG q i_5)), (q 0, .inl (cB, 220, .inl f_8))] := hD
  refine lv_aload_n hx hb dX12_push_20 rfl (lv_at hl 1 rfl) ?_
  refine lv_dup hx hb dX12_push_21 rfl ?_
  refine va_get (D := D) (ci := 12) (v := .int (i_5 1)) (C := RX12) (T := TX12) (N := 81) hx hb hts inT_X12 hown hK.1 hP 0 rfl rfl 1 (by decide) (hts _ k_1354) (fun _ h9 => h9) rfl dX12_push_22 ?_
  refine lv_topv (y := nI (tp + 1)) hi_5_1 ?_
  refine lv_iconst (v := 1) hx hb dX12_push_25 (by decide) ?_
  refine lv_iadd hx hb dX12_push_26 ?_
  refine lv_topv (y := nI ((tp + 1) + 1)) (nI_add (tp + 1) 1) ?_
  refine va_put (D := D) (ci := 12) (v := .int (nI ((tp + 1) + 1))) (ty := .int) (C := RX12) (T := TX12) (N := 81) hx hb hts inT_X12 tyX12 tyX12_ok nmX12 hown hK.1 hP hD hS 0 rfl rfl 1 (by decide) (hts _ k_1354) (fun _ h9 => h9) rfl (by decide +kernel) rfl rfl (Nat.le_of_ble_eq_true rfl) dX12_push_27 (fun H locs hP hD hS => ?_)
  obtain ⟨i_10, ei_10⟩ : ∃ z : Nat → Int32, z = upd i_5 1 (nI ((tp + 1) + 1)) := ⟨_, rfl⟩
  have hi_10_1 : i_10 1 = nI ((tp + 1) + 1) := by rw [ei_10]; rfl
  have hsb := SB.put hsb ei_10 (by decide)
  have hP : va_P D vwCl [(h, .inr (12, mG q i_10)), (q 0, .inl (cB, 220, .inl f_8))] H := by rw [ei_10, ← mG_1]; exact hP
  have hD : va_D A [(h, .inr (12, mG q i_10)), (q 0, .inl (cB, 220, .inl f_8))] := by rw [ei_10, ← mG_1]; exact hD
  refine lv_iinc (v := 8) (lv' := [(2, .int 8), (0, .ref h), (1, .int n1)]) hx hb dX12_push_30 hl (k := 0) rfl (by decide) (by decide) rfl (fun ls hl => ?_)
  refine lv_goto (tgt := 3) hx hb dX12_push_33 (by decide) ?_
  refine lv_iload_n hx hb dX12_push_3 rfl (lv_at hl 0 rfl) ?_
  refine lv_if_lt (tgt := 36) hx hb dX12_push_4 (by decide) (fun c => absurd c (by decide)) (fun _ => ?_)
  refine lv_aload_n hx hb dX12_push_7 rfl (lv_at hl 1 rfl) ?_
  refine va_get (D := D) (ci := 12) (v := .ref (q 0)) (C := RX12) (T := TX12) (N := 81) hx hb hts inT_X12 hown hK.1 hP 0 rfl rfl 0 (by decide) (hts _ k_1353) (fun _ h9 => h9) rfl dX12_push_8 ?_
  refine lv_aload_n hx hb dX12_push_11 rfl (lv_at hl 1 rfl) ?_
  refine va_get (D := D) (ci := 12) (v := .int (i_10 1)) (C := RX12) (T := TX12) (N := 81) hx hb hts inT_X12 hown hK.1 hP 0 rfl rfl 1 (by decide) (hts _ k_1354) (fun _ h9 => h9) rfl dX12_push_12 ?_
  refine lv_topv (y := nI ((tp + 1) + 1)) hi_10_1 ?_
  refine lv_iload_n hx hb dX12_push_15 rfl (lv_at hl 2 rfl) ?_
  refine lv_iload_n hx hb dX12_push_16 rfl (lv_at hl 0 rfl) ?_
  refine lv_ishr hx hb dX12_push_17 ?_
  refine lv_topi (fun x_11 ex_11 => ?_)
  refine lv_i2b hx hb dX12_push_18 rfl ?_
  refine lv_topi (fun x_12 _ => ?_)
  refine st_b hx hb hK hP hD hS 1 rfl (lf_X12_push_14 h q im tp m_tape n1 hf_tp htp x_1 ex_1 x_2 f_3 i_5 x_6 ex_6 x_7 f_8 i_10 hsb x_11 ex_11 x_12) dX12_push_19 (fun f_13 H locs hP hD hS => ?_)
  have hP : va_P D vwCl [(h, .inr (12, mG q i_10)), (q 0, .inl (cB, 220, .inl f_13))] H := hP
  have hD : va_D A [(h, .inr (12, mG q i_10)), (q 0, .inl (cB, 220, .inl f_13))] := hD
  refine lv_aload_n hx hb dX12_push_20 rfl (lv_at hl 1 rfl) ?_
  refine lv_dup hx hb dX12_push_21 rfl ?_
  refine va_get (D := D) (ci := 12) (v := .int (i_10 1)) (C := RX12) (T := TX12) (N := 81) hx hb hts inT_X12 hown hK.1 hP 0 rfl rfl 1 (by decide) (hts _ k_1354) (fun _ h9 => h9) rfl dX12_push_22 ?_
  refine lv_topv (y := nI ((tp + 1) + 1)) hi_10_1 ?_
  refine lv_iconst (v := 1) hx hb dX12_push_25 (by decide) ?_
  refine lv_iadd hx hb dX12_push_26 ?_
  refine lv_topv (y := nI (((tp + 1) + 1) + 1)) (nI_add ((tp + 1) + 1) 1) ?_
  refine va_put (D := D) (ci := 12) (v := .int (nI (((tp + 1) + 1) + 1))) (ty := .int) (C := RX12) (T := TX12) (N := 81) hx hb hts inT_X12 tyX12 tyX12_ok nmX12 hown hK.1 hP hD hS 0 rfl rfl 1 (by decide) (hts _ k_1354) (fun _ h9 => h9) rfl (by decide +kernel) rfl rfl (Nat.le_of_ble_eq_true rfl) dX12_push_27 (fun H locs hP hD hS => ?_)
  obtain ⟨i_15, ei_15⟩ : ∃ z : Nat → Int32, z = upd i_10 1 (nI (((tp + 1) + 1) + 1)) := ⟨_, rfl⟩
  have hi_15_1 : i_15 1 = nI (((tp + 1) + 1) + 1) := by rw [ei_15]; rfl
  have hsb := SB.put hsb ei_15 (by decide)
  have hP : va_P D vwCl [(h, .inr (12, mG q i_15)), (q 0, .inl (cB, 220, .inl f_13))] H := by rw [ei_15, ← mG_1]; exact hP
  have hD : va_D A [(h, .inr (12, mG q i_15)), (q 0, .inl (cB, 220, .inl f_13))] := by rw [ei_15, ← mG_1]; exact hD
  refine lv_iinc (v := 0) (lv' := [(2, .int 0), (0, .ref h), (1, .int n1)]) hx hb dX12_push_30 hl (k := 0) rfl (by decide) (by decide) rfl (fun ls hl => ?_)
  refine lv_goto (tgt := 3) hx hb dX12_push_33 (by decide) ?_
  refine lv_iload_n hx hb dX12_push_3 rfl (lv_at hl 0 rfl) ?_
  refine lv_if_lt (tgt := 36) hx hb dX12_push_4 (by decide) (fun c => absurd c (by decide)) (fun _ => ?_)
  refine lv_aload_n hx hb dX12_push_7 rfl (lv_at hl 1 rfl) ?_
  refine va_get (D := D) (ci := 12) (v := .ref (q 0)) (C := RX12) (T := TX12) (N := 81) hx hb hts inT_X12 hown hK.1 hP 0 rfl rfl 0 (by decide) (hts _ k_1353) (fun _ h9 => h9) rfl dX12_push_8 ?_
  refine lv_aload_n hx hb dX12_push_11 rfl (lv_at hl 1 rfl) ?_
  refine va_get (D := D) (ci := 12) (v := .int (i_15 1)) (C := RX12) (T := TX12) (N := 81) hx hb hts inT_X12 hown hK.1 hP 0 rfl rfl 1 (by decide) (hts _ k_1354) (fun _ h9 => h9) rfl dX12_push_12 ?_
  refine lv_topv (y := nI (((tp + 1) + 1) + 1)) hi_15_1 ?_
  refine lv_iload_n hx hb dX12_push_15 rfl (lv_at hl 2 rfl) ?_
  refine lv_iload_n hx hb dX12_push_16 rfl (lv_at hl 0 rfl) ?_
  refine lv_ishr hx hb dX12_push_17 ?_
  refine lv_topi (fun x_16 ex_16 => ?_)
  refine lv_i2b hx hb dX12_push_18 rfl ?_
  refine lv_topi (fun x_17 _ => ?_)
  refine st_b hx hb hK hP hD hS 1 rfl (lf_X12_push_19 h q im tp m_tape n1 hf_tp htp x_1 ex_1 x_2 f_3 i_5 x_6 ex_6 x_7 f_8 i_10 x_11 ex_11 x_12 f_13 i_15 hsb x_16 ex_16 x_17) dX12_push_19 (fun f_18 H locs hP hD hS => ?_)
  have hP : va_P D vwCl [(h, .inr (12, mG q i_15)), (q 0, .inl (cB, 220, .inl f_18))] H := hP
  have hD : va_D A [(h, .inr (12, mG q i_15)), (q 0, .inl (cB, 220, .inl f_18))] := hD
  refine lv_aload_n hx hb dX12_push_20 rfl (lv_at hl 1 rfl) ?_
  refine lv_dup hx hb dX12_push_21 rfl ?_
  refine va_get (D := D) (ci := 12) (v := .int (i_15 1)) (C := RX12) (T := TX12) (N := 81) hx hb hts inT_X12 hown hK.1 hP 0 rfl rfl 1 (by decide) (hts _ k_1354) (fun _ h9 => h9) rfl dX12_push_22 ?_
  refine lv_topv (y := nI (((tp + 1) + 1) + 1)) hi_15_1 ?_
  refine lv_iconst (v := 1) hx hb dX12_push_25 (by decide) ?_
  refine lv_iadd hx hb dX12_push_26 ?_
  refine lv_topv (y := nI ((((tp + 1) + 1) + 1) + 1)) (nI_add (((tp + 1) + 1) + 1) 1) ?_
  refine va_put (D := D) (ci := 12) (v := .int (nI ((((tp + 1) + 1) + 1) + 1))) (ty := .int) (C := RX12) (T := TX12) (N := 81) hx hb hts inT_X12 tyX12 tyX12_ok nmX12 hown hK.1 hP hD hS 0 rfl rfl 1 (by decide) (hts _ k_1354) (fun _ h9 => h9) rfl (by decide +kernel) rfl rfl (Nat.le_of_ble_eq_true rfl) dX12_push_27 (fun H locs hP hD hS => ?_)
  obtain ⟨i_20, ei_20⟩ : ∃ z : Nat → Int32, z = upd i_15 1 (nI ((((tp + 1) + 1) + 1) + 1)) := ⟨_, rfl⟩
  have hi_20_1 : i_20 1 = nI ((((tp + 1) + 1) + 1) + 1) := by rw [ei_20]; rfl
  have hsb := SB.put hsb ei_20 (by decide)
  have hP : va_P D vwCl [(h, .inr (12, mG q i_20)), (q 0, .inl (cB, 220, .inl f_18))] H := by rw [ei_20, ← mG_1]; exact hP
  have hD : va_D A [(h, .inr (12, mG q i_20)), (q 0, .inl (cB, 220, .inl f_18))] := by rw [ei_20, ← mG_1]; exact hD
  refine lv_iinc (v := (-8)) (lv' := [(2, .int (-8)), (0, .ref h), (1, .int n1)]) hx hb dX12_push_30 hl (k := 0) rfl (by decide) (by decide) rfl (fun ls hl => ?_)
  refine lv_goto (tgt := 3) hx hb dX12_push_33 (by decide) ?_
  refine lv_iload_n hx hb dX12_push_3 rfl (lv_at hl 0 rfl) ?_
  refine lv_if_lt (tgt := 36) hx hb dX12_push_4 (by decide) (fun _ => ?_) (fun c => absurd c (by decide))
  exact W.vret hx hb hr (fun tt9 ht hW => ⟨⟨((i_20 : Nat → Int32), (((((tp + 1) + 1) + 1) + 1) : Nat), (f_18 : Nat → Int32)), rfl, (lf_X12_push_21 h q im tp m_tape n1 hf_tp htp x_1 ex_1 x_2 f_3 i_5 x_6 ex_6 x_7 f_8 i_10 x_11 ex_11 x_12 f_13 i_15 x_16 ex_16 x_17 f_18 i_20 hsb hi_20_1), ⟨by rw [ht]; exact hP, hD⟩⟩, hS.F ht⟩) hS.2.2 dX12_push_36 hlocks

theorem lf_X12_feed_3 (h : Nat) (q : Nat → Nat) (im : Nat → Int32) (tp : Nat) (m_tape : Nat → Int32) (n1 : Int32) (n2 : Int32) (n3 : Int32) (n4 : Int32) (n5 : Int32) (hf_tp : im 1 = nI tp) (htp : tp ≤ 220) (hsb : SB [1] im im) (c_1 : nI (tp + 20) ≤ 220) : (tp + 20) ≤ 220 := by
  exact (nI_leI (a := (tp + 20)) (b := 220) (by omega) (by omega)).mp c_1
theorem lf_X12_feed_4 (h : Nat) (q : Nat → Nat) (im : Nat → Int32) (tp : Nat) (m_tape : Nat → Int32) (n1 : Int32) (n2 : Int32) (n3 : Int32) (n4 : Int32) (n5 : Int32) (hf_tp : im 1 = nI tp) (htp : tp ≤ 220) (hsb : SB [1] im im) (c_1 : nI (tp + 20) ≤ 220) (n_2 : (tp + 20) ≤ 220) : tp + 4 ≤ 220 := by
  first | assumption | omega | decide | rfl
theorem lf_X12_feed_7 (h : Nat) (q : Nat → Nat) (im : Nat → Int32) (tp : Nat) (m_tape : Nat → Int32) (n1 : Int32) (n2 : Int32) (n3 : Int32) (n4 : Int32) (n5 : Int32) (hf_tp : im 1 = nI tp) (htp : tp ≤ 220) (c_1 : nI (tp + 20) ≤ 220) (n_2 : (tp + 20) ≤ 220) (im_6 : Nat → Int32) (tp_6 : Nat) (m_tape_6 : Nat → Int32) (hz_6_0 : SB [1] im im_6) (hz_6_1 : im_6 1 = nI tp_6) (hz_6_2 : tp_6 = tp + 4) (hsb : SB [1] im im_6) : tp_6 + 4 ≤ 220 := by
  first | assumption | omega | decide | rfl
theorem lf_X12_feed_10 (h : Nat) (q : Nat → Nat) (im : Nat → Int32) (tp : Nat) (m_tape : Nat → Int32) (n1 : Int32) (n2 : Int32) (n3 : Int32) (n4 : Int32) (n5 : Int32) (hf_tp : im 1 = nI tp) (htp : tp ≤ 220) (c_1 : nI (tp + 20) ≤ 220) (n_2 : (tp + 20) ≤ 220) (im_6 : Nat → Int32) (tp_6 : Nat) (m_tape_6 : Nat → Int32) (hz_6_0 : SB [1] im im_6) (hz_6_1 : im_6 1 = nI tp_6) (hz_6_2 : tp_6 = tp + 4) (im_9 : Nat → Int32) (tp_9 : Nat) (m_tape_9 : Nat → Int32) (hz_9_0 : SB [1] im_6 im_9) (hz_9_1 : im_9 1 = nI tp_9) (hz_9_2 : tp_9 = tp_6 + 4) (hsb : SB [1] im im_9) : tp_9 + 4 ≤ 220 := by
  first | assumption | omega | decide | rfl
theorem lf_X12_feed_13 (h : Nat) (q : Nat → Nat) (im : Nat → Int32) (tp : Nat) (m_tape : Nat → Int32) (n1 : Int32) (n2 : Int32) (n3 : Int32) (n4 : Int32) (n5 : Int32) (hf_tp : im 1 = nI tp) (htp : tp ≤ 220) (c_1 : nI (tp + 20) ≤ 220) (n_2 : (tp + 20) ≤ 220) (im_6 : Nat → Int32) (tp_6 : Nat) (m_tape_6 : Nat → Int32) (hz_6_0 : SB [1] im im_6) (hz_6_1 : im_6 1 = nI tp_6) (hz_6_2 : tp_6 = tp + 4) (im_9 : Nat → Int32) (tp_9 : Nat) (m_tape_9 : Nat → Int32) (hz_9_0 : SB [1] im_6 im_9) (hz_9_1 : im_9 1 = nI tp_9) (hz_9_2 : tp_9 = tp_6 + 4) (im_12 : Nat → Int32) (tp_12 : Nat) (m_tape_12 : Nat → Int32) (hz_12_0 : SB [1] im_9 im_12) (hz_12_1 : im_12 1 = nI tp_12) (hz_12_2 : tp_12 = tp_9 + 4) (hsb : SB [1] im im_12) : tp_12 + 4 ≤ 220 := by
  first | assumption | omega | decide | rfl
theorem lf_X12_feed_16 (h : Nat) (q : Nat → Nat) (im : Nat → Int32) (tp : Nat) (m_tape : Nat → Int32) (n1 : Int32) (n2 : Int32) (n3 : Int32) (n4 : Int32) (n5 : Int32) (hf_tp : im 1 = nI tp) (htp : tp ≤ 220) (c_1 : nI (tp + 20) ≤ 220) (n_2 : (tp + 20) ≤ 220) (im_6 : Nat → Int32) (tp_6 : Nat) (m_tape_6 : Nat → Int32) (hz_6_0 : SB [1] im im_6) (hz_6_1 : im_6 1 = nI tp_6) (hz_6_2 : tp_6 = tp + 4) (im_9 : Nat → Int32) (tp_9 : Nat) (m_tape_9 : Nat → Int32) (hz_9_0 : SB [1] im_6 im_9) (hz_9_1 : im_9 1 = nI tp_9) (hz_9_2 : tp_9 = tp_6 + 4) (im_12 : Nat → Int32) (tp_12 : Nat) (m_tape_12 : Nat → Int32) (hz_12_0 : SB [1] im_9 im_12) (hz_12_1 : im_12 1 = nI tp_12) (hz_12_2 : tp_12 = tp_9 + 4) (im_15 : Nat → Int32) (tp_15 : Nat) (m_tape_15 : Nat → Int32) (hz_15_0 : SB [1] im_12 im_15) (hz_15_1 : im_15 1 = nI tp_15) (hz_15_2 : tp_15 = tp_12 + 4) (hsb : SB [1] im im_15) : tp_15 + 4 ≤ 220 := by
  first | assumption | omega | decide | rfl
theorem lf_X12_feed_19 (h : Nat) (q : Nat → Nat) (im : Nat → Int32) (tp : Nat) (m_tape : Nat → Int32) (n1 : Int32) (n2 : Int32) (n3 : Int32) (n4 : Int32) (n5 : Int32) (hf_tp : im 1 = nI tp) (htp : tp ≤ 220) (c_1 : nI (tp + 20) ≤ 220) (n_2 : (tp + 20) ≤ 220) (im_6 : Nat → Int32) (tp_6 : Nat) (m_tape_6 : Nat → Int32) (hz_6_0 : SB [1] im im_6) (hz_6_1 : im_6 1 = nI tp_6) (hz_6_2 : tp_6 = tp + 4) (im_9 : Nat → Int32) (tp_9 : Nat) (m_tape_9 : Nat → Int32) (hz_9_0 : SB [1] im_6 im_9) (hz_9_1 : im_9 1 = nI tp_9) (hz_9_2 : tp_9 = tp_6 + 4) (im_12 : Nat → Int32) (tp_12 : Nat) (m_tape_12 : Nat → Int32) (hz_12_0 : SB [1] im_9 im_12) (hz_12_1 : im_12 1 = nI tp_12) (hz_12_2 : tp_12 = tp_9 + 4) (im_15 : Nat → Int32) (tp_15 : Nat) (m_tape_15 : Nat → Int32) (hz_15_0 : SB [1] im_12 im_15) (hz_15_1 : im_15 1 = nI tp_15) (hz_15_2 : tp_15 = tp_12 + 4) (im_18 : Nat → Int32) (tp_18 : Nat) (m_tape_18 : Nat → Int32) (hz_18_0 : SB [1] im_15 im_18) (hz_18_1 : im_18 1 = nI tp_18) (hz_18_2 : tp_18 = tp_15 + 4) (hsb : SB [1] im im_18) : (SB [1] im (im_18 : Nat → Int32)) ∧ ((im_18 : Nat → Int32) 1 = nI (tp_18 : Nat)) ∧ ((tp_18 : Nat) ≤ 220) := by
  repeat' apply And.intro
  all_goals first | assumption | omega | rfl | trivial
theorem lf_X12_feed_21 (h : Nat) (q : Nat → Nat) (im : Nat → Int32) (tp : Nat) (m_tape : Nat → Int32) (n1 : Int32) (n2 : Int32) (n3 : Int32) (n4 : Int32) (n5 : Int32) (hf_tp : im 1 = nI tp) (htp : tp ≤ 220) (hsb : SB [1] im im) (c_1 : ¬ nI (tp + 20) ≤ 220) : 220 < (tp + 20) := by
  exact Nat.lt_of_not_le (fun q => c_1 ((nI_leI (a := (tp + 20)) (b := 220) (by omega) (by omega)).mpr q))
theorem lf_X12_feed_22 (h : Nat) (q : Nat → Nat) (im : Nat → Int32) (tp : Nat) (m_tape : Nat → Int32) (n1 : Int32) (n2 : Int32) (n3 : Int32) (n4 : Int32) (n5 : Int32) (hf_tp : im 1 = nI tp) (htp : tp ≤ 220) (hsb : SB [1] im im) (c_1 : ¬ nI (tp + 20) ≤ 220) (n_20 : 220 < (tp + 20)) : (SB [1] im (im : Nat → Int32)) ∧ ((im : Nat → Int32) 1 = nI (tp : Nat)) ∧ ((tp : Nat) ≤ 220) := by
  repeat' apply And.intro
  all_goals first | assumption | omega | rfl | trivial
set_option maxHeartbeats 4000000 in
set_option maxRecDepth 100000 in
theorem c_X12_feed (l : Launch) (D : va_G) (cI cB cZ cJ : ClassId) (tx : List (ClassId × FieldType)) (h : Nat) (q : Nat → Nat) (im : Nat → Int32) (tp : Nat) (m_tape : Nat → Int32) (n1 : Int32) (n2 : Int32) (n3 : Int32) (n4 : Int32) (n5 : Int32) (hf_tp : im 1 = nI tp) (htp : tp ≤ 220) : WrI l D cI cB cZ cJ tx yX12_feed cX12_feed 6 (some .int) 1 0 0 [.ref h, .int n1, .int n2, .int n3, .int n4, .int n5] [(h, .inr (12, mG q im)), (q 0, .inl (cB, 220, .inl m_tape))] (fun (r : Int32) (v : (Nat → Int32) × (Nat) × (Nat → Int32)) => (SB [1] im v.1) ∧ (v.1 1 = nI v.2.1) ∧ (v.2.1 ≤ 220)) (fun v => [(h, .inr (12, mG q v.1)), (q 0, .inl (cB, 220, .inl v.2.2))]) := by
  refine wri_of2 (by decide) (Nat.le_of_ble_eq_true rfl) ?_
  intro p e s m below meth c A ls H locs hC hK hP hD hA hS hl
  obtain ⟨hx, hb, hr, hml, hown, hts, hlocks, hin⟩ := hC
  have hown : s.vm.findClass RX12 = some m.cls := hown
  have hl : lv_has ls 6 [(0, .ref h), (1, .int n1), (2, .int n2), (3, .int n3), (4, .int n4), (5, .int n5)] := hl
  have hsb : SB [1] im im := SB.rf
  refine lv_aload_n hx hb dX12_feed_0 rfl (lv_at hl 0 rfl) ?_
  refine va_get (D := D) (ci := 12) (v := .int (im 1)) (C := RX12) (T := TX12) (N := 81) hx hb hts inT_X12 hown hK.1 hP 0 rfl rfl 1 (by decide) (hts _ k_1354) (fun _ h9 => h9) rfl dX12_feed_1 ?_
  refine lv_topv (y := nI tp) hf_tp ?_
  refine lv_bipush (v := 20) hx hb dX12_feed_4 (by decide) ?_
  refine lv_iadd hx hb dX12_feed_6 ?_
  refine lv_topv (y := nI (tp + 20)) (nI_add tp 20) ?_
  refine lv_sipush (v := 220) hx hb dX12_feed_7 (by decide) ?_
  refine lv_icmp_le (tgt := 15) hx hb dX12_feed_10 (by decide) (fun c_1 => ?_) (fun c_1 => ?_)
  · have n_2 : (tp + 20) ≤ 220 := (lf_X12_feed_3 h q im tp m_tape n1 n2 n3 n4 n5 hf_tp htp hsb c_1)
    refine lv_aload_n hx hb dX12_feed_15 rfl (lv_at hl 0 rfl) ?_
    refine lv_iload_n hx hb dX12_feed_16 rfl (lv_at hl 1 rfl) ?_
    refine eWv (wr := []) (va_runV (As := [.int n1]) (rest := []) ⟨hx, hb, hml, hown, hts⟩ (c_X12_push l D cI cB cZ cJ tx h q im tp m_tape n1 hf_tp (lf_X12_feed_4 h q im tp m_tape n1 n2 n3 n4 n5 hf_tp htp hsb c_1 n_2) H.size) (zV hts k_1614 v_X12_push ⟨Nat.le_of_ble_eq_true rfl, Nat.le_of_ble_eq_true rfl⟩) (pV (pxS hK hP hD [0, 1] (by decide) rfl) hK hP 0 rfl rfl) rfl rfl hl.1 rfl (lv_room (Nat.le_of_ble_eq_true rfl)) dX12_feed_17 ⟨Nat.le_of_ble_eq_true rfl, Nat.le_of_ble_eq_true rfl⟩) hP hD hS hA [0, 1] [] rfl rfl (by decide) (by decide) (fun u_6 H locs wr_5 hP hD hS => ?_)
    obtain ⟨im_6, tp_6, m_tape_6⟩ := u_6
    have hz_6_0 : SB [1] im im_6 := wr_5.1
    have hz_6_1 : im_6 1 = nI tp_6 := wr_5.2.1
    have hz_6_2 : tp_6 = tp + 4 := wr_5.2.2
    have hsb := SB.step hsb hz_6_0 (by decide)
    have hP : va_P D vwCl [(h, .inr (12, mG q im_6)), (q 0, .inl (cB, 220, .inl m_tape_6))] H := hP
    have hD : va_D A [(h, .inr (12, mG q im_6)), (q 0, .inl (cB, 220, .inl m_tape_6))] := hD
    refine lv_aload_n hx hb dX12_feed_20 rfl (lv_at hl 0 rfl) ?_
    refine lv_iload_n hx hb dX12_feed_21 rfl (lv_at hl 2 rfl) ?_
    refine eWv (wr := []) (va_runV (As := [.int n2]) (rest := []) ⟨hx, hb, hml, hown, hts⟩ (c_X12_push l D cI cB cZ cJ tx h q im_6 tp_6 m_tape_6 n2 hz_6_1 (lf_X12_feed_7 h q im tp m_tape n1 n2 n3 n4 n5 hf_tp htp c_1 n_2 im_6 tp_6 m_tape_6 hz_6_0 hz_6_1 hz_6_2 hsb) H.size) (zV hts k_1614 v_X12_push ⟨Nat.le_of_ble_eq_true rfl, Nat.le_of_ble_eq_true rfl⟩) (pV (pxS hK hP hD [0, 1] (by decide) rfl) hK hP 0 rfl rfl) rfl rfl hl.1 rfl (lv_room (Nat.le_of_ble_eq_true rfl)) dX12_feed_22 ⟨Nat.le_of_ble_eq_true rfl, Nat.le_of_ble_eq_true rfl⟩) hP hD hS hA [0, 1] [] rfl rfl (by decide) (by decide) (fun u_9 H locs wr_8 hP hD hS => ?_)
    obtain ⟨im_9, tp_9, m_tape_9⟩ := u_9
    have hz_9_0 : SB [1] im_6 im_9 := wr_8.1
    have hz_9_1 : im_9 1 = nI tp_9 := wr_8.2.1
    have hz_9_2 : tp_9 = tp_6 + 4 := wr_8.2.2
    have hsb := SB.step hsb hz_9_0 (by decide)
    have hP : va_P D vwCl [(h, .inr (12, mG q im_9)), (q 0, .inl (cB, 220, .inl m_tape_9))] H := hP
    have hD : va_D A [(h, .inr (12, mG q im_9)), (q 0, .inl (cB, 220, .inl m_tape_9))] := hD
    refine lv_aload_n hx hb dX12_feed_25 rfl (lv_at hl 0 rfl) ?_
    refine lv_iload_n hx hb dX12_feed_26 rfl (lv_at hl 3 rfl) ?_
    refine eWv (wr := []) (va_runV (As := [.int n3]) (rest := []) ⟨hx, hb, hml, hown, hts⟩ (c_X12_push l D cI cB cZ cJ tx h q im_9 tp_9 m_tape_9 n3 hz_9_1 (lf_X12_feed_10 h q im tp m_tape n1 n2 n3 n4 n5 hf_tp htp c_1 n_2 im_6 tp_6 m_tape_6 hz_6_0 hz_6_1 hz_6_2 im_9 tp_9 m_tape_9 hz_9_0 hz_9_1 hz_9_2 hsb) H.size) (zV hts k_1614 v_X12_push ⟨Nat.le_of_ble_eq_true rfl, Nat.le_of_ble_eq_true rfl⟩) (pV (pxS hK hP hD [0, 1] (by decide) rfl) hK hP 0 rfl rfl) rfl rfl hl.1 rfl (lv_room (Nat.le_of_ble_eq_true rfl)) dX12_feed_27 ⟨Nat.le_of_ble_eq_true rfl, Nat.le_of_ble_eq_true rfl⟩) hP hD hS hA [0, 1] [] rfl rfl (by decide) (by decide) (fun u_12 H locs wr_11 hP hD hS => ?_)
    obtain ⟨im_12, tp_12, m_tape_12⟩ := u_12
    have hz_12_0 : SB [1] im_9 im_12 := wr_11.1
    have hz_12_1 : im_12 1 = nI tp_12 := wr_11.2.1
    have hz_12_2 : tp_12 = tp_9 + 4 := wr_11.2.2
    have hsb := SB.step hsb hz_12_0 (by decide)
    have hP : va_P D vwCl [(h, .inr (12, mG q im_12)), (q 0, .inl (cB, 220, .inl m_tape_12))] H := hP
    have hD : va_D A [(h, .inr (12, mG q im_12)), (q 0, .inl (cB, 220, .inl m_tape_12))] := hD
    refine lv_aload_n hx hb dX12_feed_30 rfl (lv_at hl 0 rfl) ?_
    refine lv_iload hx hb dX12_feed_31 (lv_at hl 4 rfl) ?_
    refine eWv (wr := []) (va_runV (As := [.int n4]) (rest := []) ⟨hx, hb, hml, hown, hts⟩ (c_X12_push l D cI cB cZ cJ tx h q im_12 tp_12 m_tape_12 n4 hz_12_1 (lf_X12_feed_13 h q im tp m_tape n1 n2 n3 n4 n5 hf_tp htp c_1 n_2 im_6 tp_6 m_tape_6 hz_6_0 hz_6_1 hz_6_2 im_9 tp_9 m_tape_9 hz_9_0 hz_9_1 hz_9_2 im_12 tp_12 m_tape_12 hz_12_0 hz_12_1 hz_12_2 hsb) H.size) (zV hts k_1614 v_X12_push ⟨Nat.le_of_ble_eq_true rfl, Nat.le_of_ble_eq_true rfl⟩) (pV (pxS hK hP hD [0, 1] (by decide) rfl) hK hP 0 rfl rfl) rfl rfl hl.1 rfl (lv_room (Nat.le_of_ble_eq_true rfl)) dX12_feed_33 ⟨Nat.le_of_ble_eq_true rfl, Nat.le_of_ble_eq_true rfl⟩) hP hD hS hA [0, 1] [] rfl rfl (by decide) (by decide) (fun u_15 H locs wr_14 hP hD hS => ?_)
    obtain ⟨im_15, tp_15, m_tape_15⟩ := u_15
    have hz_15_0 : SB [1] im_12 im_15 := wr_14.1
    have hz_15_1 : im_15 1 = nI tp_15 := wr_14.2.1
    have hz_15_2 : tp_15 = tp_12 + 4 := wr_14.2.2
    have hsb := SB.step hsb hz_15_0 (by decide)
    have hP : va_P D vwCl [(h, .inr (12, mG q im_15)), (q 0, .inl (cB, 220, .inl m_tape_15))] H := hP
    have hD : va_D A [(h, .inr (12, mG q im_15)), (q 0, .inl (cB, 220, .inl m_tape_15))] := hD
    refine lv_aload_n hx hb dX12_feed_36 rfl (lv_at hl 0 rfl) ?_
    refine lv_iload hx hb dX12_feed_37 (lv_at hl 5 rfl) ?_
    refine eWv (wr := []) (va_runV (As := [.int n5]) (rest := []) ⟨hx, hb, hml, hown, hts⟩ (c_X12_push l D cI cB cZ cJ tx h q im_15 tp_15 m_tape_15 n5 hz_15_1 (lf_X12_feed_16 h q im tp m_tape n1 n2 n3 n4 n5 hf_tp htp c_1 n_2 im_6 tp_6 m_tape_6 hz_6_0 hz_6_1 hz_6_2 im_9 tp_9 m_tape_9 hz_9_0 hz_9_1 hz_9_2 im_12 tp_12 m_tape_12 hz_12_0 hz_12_1 hz_12_2 im_15 tp_15 m_tape_15 hz_15_0 hz_15_1 hz_15_2 hsb) H.size) (zV hts k_1614 v_X12_push ⟨Nat.le_of_ble_eq_true rfl, Nat.le_of_ble_eq_true rfl⟩) (pV (pxS hK hP hD [0, 1] (by decide) rfl) hK hP 0 rfl rfl) rfl rfl hl.1 rfl (lv_room (Nat.le_of_ble_eq_true rfl)) dX12_feed_39 ⟨Nat.le_of_ble_eq_true rfl, Nat.le_of_ble_eq_true rfl⟩) hP hD hS hA [0, 1] [] rfl rfl (by decide) (by decide) (fun u_18 H locs wr_17 hP hD hS => ?_)
    obtain ⟨im_18, tp_18, m_tape_18⟩ := u_18
    have hz_18_0 : SB [1] im_15 im_18 := wr_17.1
    have hz_18_1 : im_18 1 = nI tp_18 := wr_17.2.1
    have hz_18_2 : tp_18 = tp_15 + 4 := wr_17.2.2
    have hsb := SB.step hsb hz_18_0 (by decide)
    have hP : va_P D vwCl [(h, .inr (12, mG q im_18)), (q 0, .inl (cB, 220, .inl m_tape_18))] H := hP
    have hD : va_D A [(h, .inr (12, mG q im_18)), (q 0, .inl (cB, 220, .inl m_tape_18))] := hD
    refine lv_aload_n hx hb dX12_feed_42 rfl (lv_at hl 0 rfl) ?_
    refine va_get (D := D) (ci := 12) (v := .int (im_18 1)) (C := RX12) (T := TX12) (N := 81) hx hb hts inT_X12 hown hK.1 hP 0 rfl rfl 1 (by decide) (hts _ k_1354) (fun _ h9 => h9) rfl dX12_feed_43 ?_
    refine lv_topv (y := nI tp_18) hz_18_1 ?_
    exact W.iret (v := nI tp_18) hx hb hr (fun tt9 ht hW => ⟨⟨(nI tp_18 : Int32), ((im_18 : Nat → Int32), (tp_18 : Nat), (m_tape_18 : Nat → Int32)), rfl, (lf_X12_feed_19 h q im tp m_tape n1 n2 n3 n4 n5 hf_tp htp c_1 n_2 im_6 tp_6 m_tape_6 hz_6_0 hz_6_1 hz_6_2 im_9 tp_9 m_tape_9 hz_9_0 hz_9_1 hz_9_2 im_12 tp_12 m_tape_12 hz_12_0 hz_12_1 hz_12_2 im_15 tp_15 m_tape_15 hz_15_0 hz_15_1 hz_15_2 im_18 tp_18 m_tape_18 hz_18_0 hz_18_1 hz_18_2 hsb), ⟨by rw [ht]; exact hP, hD⟩⟩, hS.F ht⟩) hS.2.2 dX12_feed_46 hlocks
  · have n_20 : 220 < (tp + 20) := (lf_X12_feed_21 h q im tp m_tape n1 n2 n3 n4 n5 hf_tp htp hsb c_1)
    refine lv_iconst (v := (-1)) hx hb dX12_feed_13 (by decide) ?_
    exact W.iret (v := (-1)) hx hb hr (fun tt9 ht hW => ⟨⟨((-1) : Int32), ((im : Nat → Int32), (tp : Nat), (m_tape : Nat → Int32)), rfl, (lf_X12_feed_22 h q im tp m_tape n1 n2 n3 n4 n5 hf_tp htp hsb c_1 n_20), ⟨by rw [ht]; exact hP, hD⟩⟩, hS.F ht⟩) hS.2.2 dX12_feed_14 hlocks

theorem lf_X12_pitch_4 (h : Nat) (q : Nat → Nat) (im : Nat → Int32) (n1 : Int32) (c_2 : (1 : Int32) ≤ n1 ∧ n1 ≤ 1000) (tn1 : Nat) (tn1a : 1 ≤ tn1) (tn1b : tn1 ≤ 1000) (tn1e : n1 = nI tn1) (i_3 : Nat → Int32) (hsb : SB [4] im i_3) (hi_3_4 : i_3 4 = nI tn1) : (SB [4] im (i_3 : Nat → Int32)) := by
  repeat' apply And.intro
  all_goals first | assumption | omega | rfl | trivial
theorem lf_X12_pitch_5 (h : Nat) (q : Nat → Nat) (im : Nat → Int32) (n1 : Int32) (hsb : SB [4] im im) (c_2 : ¬ ((1 : Int32) ≤ n1 ∧ n1 ≤ 1000)) : (SB [4] im (im : Nat → Int32)) := by
  repeat' apply And.intro
  all_goals first | assumption | omega | rfl | trivial
set_option maxHeartbeats 4000000 in
set_option maxRecDepth 100000 in
theorem c_X12_pitch (l : Launch) (D : va_G) (cI cB cZ cJ : ClassId) (tx : List (ClassId × FieldType)) (h : Nat) (q : Nat → Nat) (im : Nat → Int32) (n1 : Int32) : WrI l D cI cB cZ cJ tx yX12_pitch cX12_pitch 2 (some .boolean) 1 0 0 [.ref h, .int n1] [(h, .inr (12, mG q im))] (fun (r : Int32) (v : (Nat → Int32)) => (SB [4] im v)) (fun v => [(h, .inr (12, mG q v))]) := by
  refine wri_of2 (by decide) (Nat.le_of_ble_eq_true rfl) ?_
  intro p e s m below meth c A ls H locs hC hK hP hD hA hS hl
  obtain ⟨hx, hb, hr, hml, hown, hts, hlocks, hin⟩ := hC
  have hown : s.vm.findClass RX12 = some m.cls := hown
  have hl : lv_has ls 2 [(0, .ref h), (1, .int n1)] := hl
  have hsb : SB [4] im im := SB.rf
  refine lv_iload_n hx hb dX12_pitch_0 rfl (lv_at hl 1 rfl) ?_
  refine lv_i2l (v := n1.toInt64) hx hb dX12_pitch_1 rfl ?_
  refine lv_lconst (v := 1) hx hb dX12_pitch_2 (by decide) ?_
  refine lv_ldc2 (v := 1000) hx hb hown (hts _ k_1601) dX12_pitch_3 ?_
  refine eRi (va_runS (As := [.long n1.toInt64, .long 1, .long 1000]) (rest := []) ⟨hx, hb, hml, hown, hts⟩ (c_X12_isIn l D cI cB cZ cJ tx n1.toInt64 1 1000 H.size) (zS hts k_1602 v_X12_isIn ⟨Nat.le_of_ble_eq_true rfl, Nat.le_of_ble_eq_true rfl⟩) (px0 hK) rfl rfl hl.1 rfl (lv_room (Nat.le_of_ble_eq_true rfl)) dX12_pitch_6 ⟨Nat.le_of_ble_eq_true rfl, Nat.le_of_ble_eq_true rfl⟩) hP hS hA (fun r_1 H locs wr_1 hP hS => ?_)
  have wr_1 : r_1 = bi ((1 : Int32) ≤ n1 ∧ n1 ≤ 1000) := isIn32 (lo := 1) (hi := 1000) (by decide) (by decide) wr_1
  subst wr_1
  refine lv_bi_ne (tgt := 14) hx hb dX12_pitch_9 (by decide) (fun c_2 => ?_) (fun c_2 => ?_)
  · obtain ⟨tn1, tn1a, tn1b, tn1e⟩ := of_rng 1 1000 rfl rfl c_2
    subst tn1e
    refine lv_aload_n hx hb dX12_pitch_14 rfl (lv_at hl 0 rfl) ?_
    refine lv_iload_n hx hb dX12_pitch_15 rfl (lv_at hl 1 rfl) ?_
    refine va_put (D := D) (ci := 12) (v := .int (nI tn1)) (ty := .int) (C := RX12) (T := TX12) (N := 81) hx hb hts inT_X12 tyX12 tyX12_ok nmX12 hown hK.1 hP hD hS 0 rfl rfl 4 (by decide) (hts _ k_1357) (fun _ h9 => h9) rfl (by decide +kernel) rfl rfl (Nat.le_of_ble_eq_true rfl) dX12_pitch_16 (fun H locs hP hD hS => ?_)
    obtain ⟨i_3, ei_3⟩ : ∃ z : Nat → Int32, z = upd im 4 (nI tn1) := ⟨_, rfl⟩
    have hi_3_4 : i_3 4 = nI tn1 := by rw [ei_3]; rfl
    have hsb := SB.put hsb ei_3 (by decide)
    have hP : va_P D vwCl [(h, .inr (12, mG q i_3))] H := by rw [ei_3, ← mG_4]; exact hP
    have hD : va_D A [(h, .inr (12, mG q i_3))] := by rw [ei_3, ← mG_4]; exact hD
    refine lv_iconst (v := 1) hx hb dX12_pitch_19 (by decide) ?_
    exact W.zret (v := 1) hx hb hr (by decide) (fun tt9 ht hW => ⟨⟨(1 : Int32), ((i_3 : Nat → Int32)), rfl, (lf_X12_pitch_4 h q im (nI tn1) c_2 tn1 tn1a tn1b rfl i_3 hsb hi_3_4), ⟨by rw [ht]; exact hP, hD⟩⟩, hS.F ht⟩) hS.2.2 dX12_pitch_20 hlocks
  · refine lv_iconst (v := 0) hx hb dX12_pitch_12 (by decide) ?_
    exact W.zret (v := 0) hx hb hr (by decide) (fun tt9 ht hW => ⟨⟨(0 : Int32), ((im : Nat → Int32)), rfl, (lf_X12_pitch_5 h q im n1 hsb c_2), ⟨by rw [ht]; exact hP, hD⟩⟩, hS.F ht⟩) hS.2.2 dX12_pitch_13 hlocks

theorem lf_X12_seed_4 (h : Nat) (q : Nat → Nat) (im : Nat → Int32) (n1 : Int32) (c_2 : (0 : Int32) ≤ n1 ∧ n1 ≤ 65535) (tn1 : Nat) (tn1a : 0 ≤ tn1) (tn1b : tn1 ≤ 65535) (tn1e : n1 = nI tn1) (i_3 : Nat → Int32) (hsb : SB [5] im i_3) (hi_3_5 : i_3 5 = nI tn1) : (SB [5] im (i_3 : Nat → Int32)) := by
  repeat' apply And.intro
  all_goals first | assumption | omega | rfl | trivial
theorem lf_X12_seed_5 (h : Nat) (q : Nat → Nat) (im : Nat → Int32) (n1 : Int32) (hsb : SB [5] im im) (c_2 : ¬ ((0 : Int32) ≤ n1 ∧ n1 ≤ 65535)) : (SB [5] im (im : Nat → Int32)) := by
  repeat' apply And.intro
  all_goals first | assumption | omega | rfl | trivial
set_option maxHeartbeats 4000000 in
set_option maxRecDepth 100000 in
theorem c_X12_seed (l : Launch) (D : va_G) (cI cB cZ cJ : ClassId) (tx : List (ClassId × FieldType)) (h : Nat) (q : Nat → Nat) (im : Nat → Int32) (n1 : Int32) : WrI l D cI cB cZ cJ tx yX12_seed cX12_seed 2 (some .boolean) 1 0 0 [.ref h, .int n1] [(h, .inr (12, mG q im))] (fun (r : Int32) (v : (Nat → Int32)) => (SB [5] im v)) (fun v => [(h, .inr (12, mG q v))]) := by
  refine wri_of2 (by decide) (Nat.le_of_ble_eq_true rfl) ?_
  intro p e s m below meth c A ls H locs hC hK hP hD hA hS hl
  obtain ⟨hx, hb, hr, hml, hown, hts, hlocks, hin⟩ := hC
  have hown : s.vm.findClass RX12 = some m.cls := hown
  have hl : lv_has ls 2 [(0, .ref h), (1, .int n1)] := hl
  have hsb : SB [5] im im := SB.rf
  refine lv_iload_n hx hb dX12_seed_0 rfl (lv_at hl 1 rfl) ?_
  refine lv_i2l (v := n1.toInt64) hx hb dX12_seed_1 rfl ?_
  refine lv_lconst (v := 0) hx hb dX12_seed_2 (by decide) ?_
  refine lv_ldc2 (v := 65535) hx hb hown (hts _ k_1609) dX12_seed_3 ?_
  refine eRi (va_runS (As := [.long n1.toInt64, .long 0, .long 65535]) (rest := []) ⟨hx, hb, hml, hown, hts⟩ (c_X12_isIn l D cI cB cZ cJ tx n1.toInt64 0 65535 H.size) (zS hts k_1602 v_X12_isIn ⟨Nat.le_of_ble_eq_true rfl, Nat.le_of_ble_eq_true rfl⟩) (px0 hK) rfl rfl hl.1 rfl (lv_room (Nat.le_of_ble_eq_true rfl)) dX12_seed_6 ⟨Nat.le_of_ble_eq_true rfl, Nat.le_of_ble_eq_true rfl⟩) hP hS hA (fun r_1 H locs wr_1 hP hS => ?_)
  have wr_1 : r_1 = bi ((0 : Int32) ≤ n1 ∧ n1 ≤ 65535) := isIn32 (lo := 0) (hi := 65535) (by decide) (by decide) wr_1
  subst wr_1
  refine lv_bi_ne (tgt := 14) hx hb dX12_seed_9 (by decide) (fun c_2 => ?_) (fun c_2 => ?_)
  · obtain ⟨tn1, tn1a, tn1b, tn1e⟩ := of_rng 0 65535 rfl rfl c_2
    subst tn1e
    refine lv_aload_n hx hb dX12_seed_14 rfl (lv_at hl 0 rfl) ?_
    refine lv_iload_n hx hb dX12_seed_15 rfl (lv_at hl 1 rfl) ?_
    refine va_put (D := D) (ci := 12) (v := .int (nI tn1)) (ty := .int) (C := RX12) (T := TX12) (N := 81) hx hb hts inT_X12 tyX12 tyX12_ok nmX12 hown hK.1 hP hD hS 0 rfl rfl 5 (by decide) (hts _ k_1358) (fun _ h9 => h9) rfl (by decide +kernel) rfl rfl (Nat.le_of_ble_eq_true rfl) dX12_seed_16 (fun H locs hP hD hS => ?_)
    obtain ⟨i_3, ei_3⟩ : ∃ z : Nat → Int32, z = upd im 5 (nI tn1) := ⟨_, rfl⟩
    have hi_3_5 : i_3 5 = nI tn1 := by rw [ei_3]; rfl
    have hsb := SB.put hsb ei_3 (by decide)
    have hP : va_P D vwCl [(h, .inr (12, mG q i_3))] H := by rw [ei_3, ← mG_5]; exact hP
    have hD : va_D A [(h, .inr (12, mG q i_3))] := by rw [ei_3, ← mG_5]; exact hD
    refine lv_iconst (v := 1) hx hb dX12_seed_19 (by decide) ?_
    exact W.zret (v := 1) hx hb hr (by decide) (fun tt9 ht hW => ⟨⟨(1 : Int32), ((i_3 : Nat → Int32)), rfl, (lf_X12_seed_4 h q im (nI tn1) c_2 tn1 tn1a tn1b rfl i_3 hsb hi_3_5), ⟨by rw [ht]; exact hP, hD⟩⟩, hS.F ht⟩) hS.2.2 dX12_seed_20 hlocks
  · refine lv_iconst (v := 0) hx hb dX12_seed_12 (by decide) ?_
    exact W.zret (v := 0) hx hb hr (by decide) (fun tt9 ht hW => ⟨⟨(0 : Int32), ((im : Nat → Int32)), rfl, (lf_X12_seed_5 h q im n1 hsb c_2), ⟨by rw [ht]; exact hP, hD⟩⟩, hS.F ht⟩) hS.2.2 dX12_seed_13 hlocks

theorem lf_X12_mound_6 (h : Nat) (q : Nat → Nat) (im : Nat → Int32) (m_mounds : Nat → Int32) (n1 : Int32) (n2 : Int32) (c_2 : (0 : Int32) ≤ n1 ∧ n1 ≤ 23) (tn1 : Nat) (tn1a : 0 ≤ tn1) (tn1b : tn1 ≤ 23) (tn1e : n1 = nI tn1) (c_4 : (0 : Int32) ≤ n2 ∧ n2 ≤ 1000) (tn2 : Nat) (tn2a : 0 ≤ tn2) (tn2b : tn2 ≤ 1000) (tn2e : n2 = nI tn2) : vp_in (nI tn1) 24 := by
  first | exact vp_in_nI (by omega) (by decide) | (unfold vp_in; decide)
set_option maxHeartbeats 4000000 in
set_option maxRecDepth 100000 in
theorem c_X12_mound (l : Launch) (D : va_G) (cI cB cZ cJ : ClassId) (tx : List (ClassId × FieldType)) (h : Nat) (q : Nat → Nat) (im : Nat → Int32) (m_mounds : Nat → Int32) (n1 : Int32) (n2 : Int32) : WrI l D cI cB cZ cJ tx yX12_mound cX12_mound 3 (some .boolean) 1 0 0 [.ref h, .int n1, .int n2] [(h, .inr (12, mG q im)), (q 48, .inl (cI, 24, .inl m_mounds))] (fun (r : Int32) (v : (Nat → Int32)) => True) (fun v => [(h, .inr (12, mG q im)), (q 48, .inl (cI, 24, .inl v))]) := by
  refine wri_of2 (by decide) (Nat.le_of_ble_eq_true rfl) ?_
  intro p e s m below meth c A ls H locs hC hK hP hD hA hS hl
  obtain ⟨hx, hb, hr, hml, hown, hts, hlocks, hin⟩ := hC
  have hown : s.vm.findClass RX12 = some m.cls := hown
  have hl : lv_has ls 3 [(0, .ref h), (1, .int n1), (2, .int n2)] := hl
  refine lv_iload_n hx hb dX12_mound_0 rfl (lv_at hl 1 rfl) ?_
  refine lv_i2l (v := n1.toInt64) hx hb dX12_mound_1 rfl ?_
  refine lv_lconst (v := 0) hx hb dX12_mound_2 (by decide) ?_
  refine lv_ldc2 (v := 23) hx hb hown (hts _ k_1773) dX12_mound_3 ?_
  refine eRi (va_runS (As := [.long n1.toInt64, .long 0, .long 23]) (rest := []) ⟨hx, hb, hml, hown, hts⟩ (c_X12_isIn l D cI cB cZ cJ tx n1.toInt64 0 23 H.size) (zS hts k_1602 v_X12_isIn ⟨Nat.le_of_ble_eq_true rfl, Nat.le_of_ble_eq_true rfl⟩) (px0 hK) rfl rfl hl.1 rfl (lv_room (Nat.le_of_ble_eq_true rfl)) dX12_mound_6 ⟨Nat.le_of_ble_eq_true rfl, Nat.le_of_ble_eq_true rfl⟩) hP hS hA (fun r_1 H locs wr_1 hP hS => ?_)
  have wr_1 : r_1 = bi ((0 : Int32) ≤ n1 ∧ n1 ≤ 23) := isIn32 (lo := 0) (hi := 23) (by decide) (by decide) wr_1
  subst wr_1
  refine lv_bi_eq (tgt := 24) hx hb dX12_mound_9 (by decide) (fun c_2 => ?_) (fun c_2 => ?_)
  · refine lv_iconst (v := 0) hx hb dX12_mound_24 (by decide) ?_
    exact W.zret (v := 0) hx hb hr (by decide) (fun tt9 ht hW => ⟨⟨(0 : Int32), ((m_mounds : Nat → Int32)), rfl, trivial, ⟨by rw [ht]; exact hP, hD⟩⟩, hS.F ht⟩) hS.2.2 dX12_mound_25 hlocks
  · obtain ⟨tn1, tn1a, tn1b, tn1e⟩ := of_rng 0 23 rfl rfl c_2
    subst tn1e
    refine lv_iload_n hx hb dX12_mound_12 rfl (lv_at hl 2 rfl) ?_
    refine lv_i2l (v := n2.toInt64) hx hb dX12_mound_13 rfl ?_
    refine lv_lconst (v := 0) hx hb dX12_mound_14 (by decide) ?_
    refine lv_ldc2 (v := 1000) hx hb hown (hts _ k_1601) dX12_mound_15 ?_
    refine eRi (va_runS (As := [.long n2.toInt64, .long 0, .long 1000]) (rest := []) ⟨hx, hb, hml, hown, hts⟩ (c_X12_isIn l D cI cB cZ cJ tx n2.toInt64 0 1000 H.size) (zS hts k_1602 v_X12_isIn ⟨Nat.le_of_ble_eq_true rfl, Nat.le_of_ble_eq_true rfl⟩) (px0 hK) rfl rfl hl.1 rfl (lv_room (Nat.le_of_ble_eq_true rfl)) dX12_mound_18 ⟨Nat.le_of_ble_eq_true rfl, Nat.le_of_ble_eq_true rfl⟩) hP hS hA (fun r_3 H locs wr_3 hP hS => ?_)
    have wr_3 : r_3 = bi ((0 : Int32) ≤ n2 ∧ n2 ≤ 1000) := isIn32 (lo := 0) (hi := 1000) (by decide) (by decide) wr_3
    subst wr_3
    refine lv_bi_ne (tgt := 26) hx hb dX12_mound_21 (by decide) (fun c_4 => ?_) (fun c_4 => ?_)
    · obtain ⟨tn2, tn2a, tn2b, tn2e⟩ := of_rng 0 1000 rfl rfl c_4
      subst tn2e
      refine lv_aload_n hx hb dX12_mound_26 rfl (lv_at hl 0 rfl) ?_
      refine va_get (D := D) (ci := 12) (v := .ref (q 48)) (C := RX12) (T := TX12) (N := 81) hx hb hts inT_X12 hown hK.1 hP 0 rfl rfl 48 (by decide) (hts _ k_1401) (fun _ h9 => h9) rfl dX12_mound_27 ?_
      refine lv_iload_n hx hb dX12_mound_30 rfl (lv_at hl 1 rfl) ?_
      refine lv_iload_n hx hb dX12_mound_31 rfl (lv_at hl 2 rfl) ?_
      refine st_i hx hb hK hP hD hS 1 rfl (lf_X12_mound_6 h q im m_mounds (nI tn1) (nI tn2) c_2 tn1 tn1a tn1b rfl c_4 tn2 tn2a tn2b rfl) dX12_mound_32 (fun f_5 H locs hP hD hS => ?_)
      have hP : va_P D vwCl [(h, .inr (12, mG q im)), (q 48, .inl (cI, 24, .inl f_5))] H := hP
      have hD : va_D A [(h, .inr (12, mG q im)), (q 48, .inl (cI, 24, .inl f_5))] := hD
      refine lv_iconst (v := 1) hx hb dX12_mound_33 (by decide) ?_
      exact W.zret (v := 1) hx hb hr (by decide) (fun tt9 ht hW => ⟨⟨(1 : Int32), ((f_5 : Nat → Int32)), rfl, trivial, ⟨by rw [ht]; exact hP, hD⟩⟩, hS.F ht⟩) hS.2.2 dX12_mound_34 hlocks
    · refine lv_iconst (v := 0) hx hb dX12_mound_24 (by decide) ?_
      exact W.zret (v := 0) hx hb hr (by decide) (fun tt9 ht hW => ⟨⟨(0 : Int32), ((m_mounds : Nat → Int32)), rfl, trivial, ⟨by rw [ht]; exact hP, hD⟩⟩, hS.F ht⟩) hS.2.2 dX12_mound_25 hlocks

theorem lf_X12_left_3 (h : Nat) (q : Nat → Nat) (im : Nat → Int32) (ms : Nat) (mk : Nat) (m_isGone : Nat → Int32) (hf_ms : im 2 = nI ms) (hf_mk : im 3 = nI mk) (hms : ms ≤ 24) (hmk : mk ≤ 8) (hm3 : mk = 0 ∨ 3 ≤ ms) (j1 : Nat) (w1 : Int32) (k4 : Nat) (hj4 : j1 ≤ ms) (hk4 : ms < j1 + (k4 + 1)) (c_1 : nI ms ≤ nI j1) : ms ≤ j1 := by
  exact (nI_leI (a := ms) (b := j1) (by omega) (by omega)).mp c_1
theorem lf_X12_left_5 (h : Nat) (q : Nat → Nat) (im : Nat → Int32) (ms : Nat) (mk : Nat) (m_isGone : Nat → Int32) (hf_ms : im 2 = nI ms) (hf_mk : im 3 = nI mk) (hms : ms ≤ 24) (hmk : mk ≤ 8) (hm3 : mk = 0 ∨ 3 ≤ ms) (j1 : Nat) (w1 : Int32) (k4 : Nat) (hj4 : j1 ≤ ms) (hk4 : ms < j1 + (k4 + 1)) (c_1 : ¬ nI ms ≤ nI j1) : j1 < ms := by
  exact Nat.lt_of_not_le (fun q => c_1 ((nI_leI (a := ms) (b := j1) (by omega) (by omega)).mpr q))
theorem lf_X12_left_8 (h : Nat) (q : Nat → Nat) (im : Nat → Int32) (ms : Nat) (mk : Nat) (m_isGone : Nat → Int32) (hf_ms : im 2 = nI ms) (hf_mk : im 3 = nI mk) (hms : ms ≤ 24) (hmk : mk ≤ 8) (hm3 : mk = 0 ∨ 3 ≤ ms) (j1 : Nat) (w1 : Int32) (k4 : Nat) (hj4 : j1 ≤ ms) (hk4 : ms < j1 + (k4 + 1)) (c_1 : ¬ nI ms ≤ nI j1) (n_4 : j1 < ms) (j2 : Nat) (w2 : Int32) (k14 : Nat) (hj14 : j2 ≤ mk) (hk14 : mk < j2 + (k14 + 1)) (c_6 : nI mk ≤ nI j2) : mk ≤ j2 := by
  exact (nI_leI (a := mk) (b := j2) (by omega) (by omega)).mp c_6
theorem lf_X12_left_10 (h : Nat) (q : Nat → Nat) (im : Nat → Int32) (ms : Nat) (mk : Nat) (m_isGone : Nat → Int32) (hf_ms : im 2 = nI ms) (hf_mk : im 3 = nI mk) (hms : ms ≤ 24) (hmk : mk ≤ 8) (hm3 : mk = 0 ∨ 3 ≤ ms) (j1 : Nat) (w1 : Int32) (k4 : Nat) (hj4 : j1 ≤ ms) (hk4 : ms < j1 + (k4 + 1)) (c_1 : ¬ nI ms ≤ nI j1) (n_4 : j1 < ms) (j2 : Nat) (w2 : Int32) (k14 : Nat) (hj14 : j2 ≤ mk) (hk14 : mk < j2 + (k14 + 1)) (c_6 : ¬ nI mk ≤ nI j2) : j2 < mk := by
  exact Nat.lt_of_not_le (fun q => c_6 ((nI_leI (a := mk) (b := j2) (by omega) (by omega)).mpr q))
theorem lf_X12_left_12 (h : Nat) (q : Nat → Nat) (im : Nat → Int32) (ms : Nat) (mk : Nat) (m_isGone : Nat → Int32) (hf_ms : im 2 = nI ms) (hf_mk : im 3 = nI mk) (hms : ms ≤ 24) (hmk : mk ≤ 8) (hm3 : mk = 0 ∨ 3 ≤ ms) (j1 : Nat) (w1 : Int32) (k4 : Nat) (hj4 : j1 ≤ ms) (hk4 : ms < j1 + (k4 + 1)) (c_1 : ¬ nI ms ≤ nI j1) (n_4 : j1 < ms) (j2 : Nat) (w2 : Int32) (k14 : Nat) (hj14 : j2 ≤ mk) (hk14 : mk < j2 + (k14 + 1)) (c_6 : ¬ nI mk ≤ nI j2) (n_9 : j2 < mk) : vp_in (nI (16 * j1 + 2 * j2 + 0)) 384 := by
  first | exact vp_in_nI (by omega) (by decide) | (unfold vp_in; decide)
theorem lf_X12_left_16 (h : Nat) (q : Nat → Nat) (im : Nat → Int32) (ms : Nat) (mk : Nat) (m_isGone : Nat → Int32) (hf_ms : im 2 = nI ms) (hf_mk : im 3 = nI mk) (hms : ms ≤ 24) (hmk : mk ≤ 8) (hm3 : mk = 0 ∨ 3 ≤ ms) (j1 : Nat) (w1 : Int32) (k4 : Nat) (hj4 : j1 ≤ ms) (hk4 : ms < j1 + (k4 + 1)) (c_1 : ¬ nI ms ≤ nI j1) (n_4 : j1 < ms) (j2 : Nat) (w2 : Int32) (k14 : Nat) (hj14 : j2 ≤ mk) (hk14 : mk < j2 + (k14 + 1)) (c_6 : ¬ nI mk ≤ nI j2) (n_9 : j2 < mk) (x_13 : Int32) (c_14 : x_13 = 0) : vp_in (nI (16 * j1 + 2 * j2 + 1)) 384 := by
  first | exact vp_in_nI (by omega) (by decide) | (unfold vp_in; decide)
theorem lf_X12_left_22 (h : Nat) (q : Nat → Nat) (im : Nat → Int32) (ms : Nat) (mk : Nat) (m_isGone : Nat → Int32) (hf_ms : im 2 = nI ms) (hf_mk : im 3 = nI mk) (hms : ms ≤ 24) (hmk : mk ≤ 8) (hm3 : mk = 0 ∨ 3 ≤ ms) (j1 : Nat) (w1 : Int32) (k4 : Nat) (hj4 : j1 ≤ ms) (hk4 : ms < j1 + (k4 + 1)) (c_1 : ¬ nI ms ≤ nI j1) (n_4 : j1 < ms) (j2 : Nat) (w2 : Int32) (k14 : Nat) (hj14 : j2 ≤ mk) (hk14 : mk < j2 + (k14 + 1)) (c_6 : ¬ nI mk ≤ nI j2) (n_9 : j2 < mk) (x_13 : Int32) (c_14 : ¬ x_13 = 0) : vp_in (nI (16 * j1 + 2 * j2 + 1)) 384 := by
  first | exact vp_in_nI (by omega) (by decide) | (unfold vp_in; decide)
set_option maxHeartbeats 4000000 in
set_option maxRecDepth 100000 in
theorem c_X12_left (l : Launch) (D : va_G) (cI cB cZ cJ : ClassId) (tx : List (ClassId × FieldType)) (h : Nat) (q : Nat → Nat) (im : Nat → Int32) (ms : Nat) (mk : Nat) (m_isGone : Nat → Int32) (hf_ms : im 2 = nI ms) (hf_mk : im 3 = nI mk) (hms : ms ≤ 24) (hmk : mk ≤ 8) (hm3 : mk = 0 ∨ 3 ≤ ms) : RdI l D cI cB cZ cJ tx yX12_left cX12_left 4 (some .int) 1 [.ref h] [(h, .inr (12, mG q im)), (q 46, .inl (cZ, 384, .inl m_isGone))] (fun r => True) := by
  refine rdi_of2 (by decide) (Nat.le_of_ble_eq_true rfl) ?_
  intro p e s m below meth c A ls H locs hC hK hP hD hA hS hl
  obtain ⟨hx, hb, hr, hml, hown, hts, hlocks, hin⟩ := hC
  have hown : s.vm.findClass RX12 = some m.cls := hown
  have hl : lv_has ls 4 [(0, .ref h)] := hl
  refine lv_iconst (v := 0) hx hb dX12_left_0 (by decide) ?_
  refine lv_istore_n (lv' := [(1, .int 0), (0, .ref h)]) hx hb dX12_left_1 rfl hl (by decide) rfl (fun ls hl => ?_)
  refine lv_iconst (v := 0) hx hb dX12_left_2 (by decide) ?_
  refine lv_istore_n (lv' := [(2, .int 0), (1, .int 0), (0, .ref h)]) hx hb dX12_left_3 rfl hl (by decide) rfl (fun ls hl => ?_)
  have lp4 : ∀ (k4 : Nat) (j1 : Nat) (w1 : Int32) (H : Heap) (locs : List Loc) (ls : Array Slot), j1 ≤ ms → ms < j1 + k4 → va_P D vwCl [(h, .inr (12, mG q im)), (q 46, .inl (cZ, 384, .inl m_isGone))] H → va_S A s.heap H locs → lv_has ls 4 [(2, .int (nI j1)), (1, .int w1), (0, .ref h)] → W p l e (rmX 1 0 0) s m ([.ref h] : List Value).toArray below meth c H locs 0 0 (MQ below (va_Qi (fun r (_ : Unit) => (fun r => True) r) (fun _ _ => True) A) ([.ref h] : List Value).toArray s 0 0 A) (F0 m 4 ls []) := by
    intro k4
    induction k4 with
    | zero =>
      intro j1 w1 H locs ls hj4 hk4  hP hS hl
      exact absurd hk4 (by omega)
    | succ k4 ih4 =>
      intro j1 w1 H locs ls hj4 hk4  hP hS hl
      refine lv_iload_n hx hb dX12_left_4 rfl (lv_at hl 0 rfl) ?_
      refine lv_aload_n hx hb dX12_left_5 rfl (lv_at hl 2 rfl) ?_
      refine va_get (D := D) (ci := 12) (v := .int (im 2)) (C := RX12) (T := TX12) (N := 81) hx hb hts inT_X12 hown hK.1 hP 0 rfl rfl 2 (by decide) (hts _ k_1355) (fun _ h9 => h9) rfl dX12_left_6 ?_
      refine lv_topv (y := nI ms) hf_ms ?_
      refine lv_icmp_ge (tgt := 76) hx hb dX12_left_9 (by decide) (fun c_1 => ?_) (fun c_1 => ?_)
      · have n_2 : ms ≤ j1 := (lf_X12_left_3 h q im ms mk m_isGone hf_ms hf_mk hms hmk hm3 j1 w1 k4 hj4 hk4 c_1)
        refine lv_iload_n hx hb dX12_left_76 rfl (lv_at hl 1 rfl) ?_
        exact W.iret (v := w1) hx hb hr (fun tt9 ht hW => ⟨⟨(w1 : Int32), (), rfl, trivial, trivial⟩, hS.F ht⟩) hS.2.2 dX12_left_77 hlocks
      · have n_4 : j1 < ms := (lf_X12_left_5 h q im ms mk m_isGone hf_ms hf_mk hms hmk hm3 j1 w1 k4 hj4 hk4 c_1)
        refine lv_iconst (v := 0) hx hb dX12_left_12 (by decide) ?_
        refine lv_istore_n (lv' := [(3, .int 0), (2, .int (nI j1)), (1, .int w1), (0, .ref h)]) hx hb dX12_left_13 rfl hl (by decide) rfl (fun ls hl => ?_)
        have lp14 : ∀ (k14 : Nat) (j2 : Nat) (w2 : Int32) (H : Heap) (locs : List Loc) (ls : Array Slot), j2 ≤ mk → mk < j2 + k14 → va_P D vwCl [(h, .inr (12, mG q im)), (q 46, .inl (cZ, 384, .inl m_isGone))] H → va_S A s.heap H locs → lv_has ls 4 [(3, .int (nI j2)), (2, .int (nI j1)), (1, .int w2), (0, .ref h)] → W p l e (rmX 1 0 0) s m ([.ref h] : List Value).toArray below meth c H locs 0 0 (MQ below (va_Qi (fun r (_ : Unit) => (fun r => True) r) (fun _ _ => True) A) ([.ref h] : List Value).toArray s 0 0 A) (F0 m 14 ls []) := by
          intro k14
          induction k14 with
          | zero =>
            intro j2 w2 H locs ls hj14 hk14  hP hS hl
            exact absurd hk14 (by omega)
          | succ k14 ih14 =>
            intro j2 w2 H locs ls hj14 hk14  hP hS hl
            refine lv_iload_n hx hb dX12_left_14 rfl (lv_at hl 0 rfl) ?_
            refine lv_aload_n hx hb dX12_left_15 rfl (lv_at hl 3 rfl) ?_
            refine va_get (D := D) (ci := 12) (v := .int (im 3)) (C := RX12) (T := TX12) (N := 81) hx hb hts inT_X12 hown hK.1 hP 0 rfl rfl 3 (by decide) (hts _ k_1356) (fun _ h9 => h9) rfl dX12_left_16 ?_
            refine lv_topv (y := nI mk) hf_mk ?_
            refine lv_icmp_ge (tgt := 70) hx hb dX12_left_19 (by decide) (fun c_6 => ?_) (fun c_6 => ?_)
            · have n_7 : mk ≤ j2 := (lf_X12_left_8 h q im ms mk m_isGone hf_ms hf_mk hms hmk hm3 j1 w1 k4 hj4 hk4 c_1 n_4 j2 w2 k14 hj14 hk14 c_6)
              refine lv_iinc (v := nI (j1 + 1)) (lv' := [(2, .int (nI (j1 + 1))), (3, .int (nI j2)), (1, .int w2), (0, .ref h)]) hx hb dX12_left_70 hl (k := 1) rfl (nI_1 j1) (by decide) rfl (fun ls hl => ?_)
              refine lv_goto (tgt := 4) hx hb dX12_left_73 (by decide) ?_
              exact ih4 (j1 + 1) w2 H locs ls (by omega) (by omega)  (hP.sub [0, 1] rfl)  hS (lv_sub hl [0, 2, 3] rfl)
            · have n_9 : j2 < mk := (lf_X12_left_10 h q im ms mk m_isGone hf_ms hf_mk hms hmk hm3 j1 w1 k4 hj4 hk4 c_1 n_4 j2 w2 k14 hj14 hk14 c_6)
              refine lv_iload_n hx hb dX12_left_22 rfl (lv_at hl 2 rfl) ?_
              refine lv_aload_n hx hb dX12_left_23 rfl (lv_at hl 3 rfl) ?_
              refine va_get (D := D) (ci := 12) (v := .ref (q 46)) (C := RX12) (T := TX12) (N := 81) hx hb hts inT_X12 hown hK.1 hP 0 rfl rfl 46 (by decide) (hts _ k_1399) (fun _ h9 => h9) rfl dX12_left_24 ?_
              refine lv_iload_n hx hb dX12_left_27 rfl (lv_at hl 1 rfl) ?_
              refine lv_iload_n hx hb dX12_left_28 rfl (lv_at hl 0 rfl) ?_
              refine lv_iconst (v := 0) hx hb dX12_left_29 (by decide) ?_
              refine eRi (va_runS (As := [.int (nI j1), .int (nI j2), .int 0]) (rest := [.ref (q 46), .int w2]) ⟨hx, hb, hml, hown, hts⟩ (c_X12_cellOf l D cI cB cZ cJ tx j1 j2 0 H.size) (zS hts k_1735 v_X12_cellOf ⟨Nat.le_of_ble_eq_true rfl, Nat.le_of_ble_eq_true rfl⟩) (px0 hK) rfl rfl hl.1 rfl (lv_room (Nat.le_of_ble_eq_true rfl)) dX12_left_30 ⟨Nat.le_of_ble_eq_true rfl, Nat.le_of_ble_eq_true rfl⟩) hP hS hA (fun r_11 H locs wr_11 hP hS => ?_)
              subst wr_11
              refine ld_z hx hb hK hP 1 rfl (lf_X12_left_12 h q im ms mk m_isGone hf_ms hf_mk hms hmk hm3 j1 w1 k4 hj4 hk4 c_1 n_4 j2 w2 k14 hj14 hk14 c_6 n_9) dX12_left_33 (fun x_13 => ?_)
              refine lv_if_eq (tgt := 41) hx hb dX12_left_34 (by decide) (fun c_14 => ?_) (fun c_14 => ?_)
              · refine lv_iconst (v := 1) hx hb dX12_left_41 (by decide) ?_
                refine lv_aload_n hx hb dX12_left_42 rfl (lv_at hl 3 rfl) ?_
                refine va_get (D := D) (ci := 12) (v := .ref (q 46)) (C := RX12) (T := TX12) (N := 81) hx hb hts inT_X12 hown hK.1 hP 0 rfl rfl 46 (by decide) (hts _ k_1399) (fun _ h9 => h9) rfl dX12_left_43 ?_
                refine lv_iload_n hx hb dX12_left_46 rfl (lv_at hl 1 rfl) ?_
                refine lv_iload_n hx hb dX12_left_47 rfl (lv_at hl 0 rfl) ?_
                refine lv_iconst (v := 1) hx hb dX12_left_48 (by decide) ?_
                refine eRi (va_runS (As := [.int (nI j1), .int (nI j2), .int 1]) (rest := [.ref (q 46), .int 1, .int w2]) ⟨hx, hb, hml, hown, hts⟩ (c_X12_cellOf l D cI cB cZ cJ tx j1 j2 1 H.size) (zS hts k_1735 v_X12_cellOf ⟨Nat.le_of_ble_eq_true rfl, Nat.le_of_ble_eq_true rfl⟩) (px0 hK) rfl rfl hl.1 rfl (lv_room (Nat.le_of_ble_eq_true rfl)) dX12_left_49 ⟨Nat.le_of_ble_eq_true rfl, Nat.le_of_ble_eq_true rfl⟩) hP hS hA (fun r_15 H locs wr_15 hP hS => ?_)
                subst wr_15
                refine ld_z hx hb hK hP 1 rfl (lf_X12_left_16 h q im ms mk m_isGone hf_ms hf_mk hms hmk hm3 j1 w1 k4 hj4 hk4 c_1 n_4 j2 w2 k14 hj14 hk14 c_6 n_9 x_13 c_14) dX12_left_52 (fun x_17 => ?_)
                refine lv_if_eq (tgt := 60) hx hb dX12_left_53 (by decide) (fun c_18 => ?_) (fun c_18 => ?_)
                · refine lv_iconst (v := 1) hx hb dX12_left_60 (by decide) ?_
                  refine lv_iadd hx hb dX12_left_61 ?_
                  refine lv_topv (y := 2) (by decide) ?_
                  refine lv_iadd hx hb dX12_left_62 ?_
                  refine lv_topi (fun x_19 ex_19 => ?_)
                  refine lv_istore_n (lv' := [(1, .int x_19), (3, .int (nI j2)), (2, .int (nI j1)), (0, .ref h)]) hx hb dX12_left_63 rfl hl (by decide) rfl (fun ls hl => ?_)
                  refine lv_iinc (v := nI (j2 + 1)) (lv' := [(3, .int (nI (j2 + 1))), (1, .int x_19), (2, .int (nI j1)), (0, .ref h)]) hx hb dX12_left_64 hl (k := 1) rfl (nI_1 j2) (by decide) rfl (fun ls hl => ?_)
                  refine lv_goto (tgt := 14) hx hb dX12_left_67 (by decide) ?_
                  exact ih14 (j2 + 1) x_19 H locs ls (by omega) (by omega)  (hP.sub [0, 1] rfl)  hS (lv_sub hl [0, 2, 1, 3] rfl)
                · refine lv_iconst (v := 0) hx hb dX12_left_56 (by decide) ?_
                  refine lv_goto (tgt := 61) hx hb dX12_left_57 (by decide) ?_
                  refine lv_iadd hx hb dX12_left_61 ?_
                  refine lv_topv (y := 1) (by decide) ?_
                  refine lv_iadd hx hb dX12_left_62 ?_
                  refine lv_topi (fun x_20 ex_20 => ?_)
                  refine lv_istore_n (lv' := [(1, .int x_20), (3, .int (nI j2)), (2, .int (nI j1)), (0, .ref h)]) hx hb dX12_left_63 rfl hl (by decide) rfl (fun ls hl => ?_)
                  refine lv_iinc (v := nI (j2 + 1)) (lv' := [(3, .int (nI (j2 + 1))), (1, .int x_20), (2, .int (nI j1)), (0, .ref h)]) hx hb dX12_left_64 hl (k := 1) rfl (nI_1 j2) (by decide) rfl (fun ls hl => ?_)
                  refine lv_goto (tgt := 14) hx hb dX12_left_67 (by decide) ?_
                  exact ih14 (j2 + 1) x_20 H locs ls (by omega) (by omega)  (hP.sub [0, 1] rfl)  hS (lv_sub hl [0, 2, 1, 3] rfl)
              · refine lv_iconst (v := 0) hx hb dX12_left_37 (by decide) ?_
                refine lv_goto (tgt := 42) hx hb dX12_left_38 (by decide) ?_
                refine lv_aload_n hx hb dX12_left_42 rfl (lv_at hl 3 rfl) ?_
                refine va_get (D := D) (ci := 12) (v := .ref (q 46)) (C := RX12) (T := TX12) (N := 81) hx hb hts inT_X12 hown hK.1 hP 0 rfl rfl 46 (by decide) (hts _ k_1399) (fun _ h9 => h9) rfl dX12_left_43 ?_
                refine lv_iload_n hx hb dX12_left_46 rfl (lv_at hl 1 rfl) ?_
                refine lv_iload_n hx hb dX12_left_47 rfl (lv_at hl 0 rfl) ?_
                refine lv_iconst (v := 1) hx hb dX12_left_48 (by decide) ?_
                refine eRi (va_runS (As := [.int (nI j1), .int (nI j2), .int 1]) (rest := [.ref (q 46), .int 0, .int w2]) ⟨hx, hb, hml, hown, hts⟩ (c_X12_cellOf l D cI cB cZ cJ tx j1 j2 1 H.size) (zS hts k_1735 v_X12_cellOf ⟨Nat.le_of_ble_eq_true rfl, Nat.le_of_ble_eq_true rfl⟩) (px0 hK) rfl rfl hl.1 rfl (lv_room (Nat.le_of_ble_eq_true rfl)) dX12_left_49 ⟨Nat.le_of_ble_eq_true rfl, Nat.le_of_ble_eq_true rfl⟩) hP hS hA (fun r_21 H locs wr_21 hP hS => ?_)
                subst wr_21
                refine ld_z hx hb hK hP 1 rfl (lf_X12_left_22 h q im ms mk m_isGone hf_ms hf_mk hms hmk hm3 j1 w1 k4 hj4 hk4 c_1 n_4 j2 w2 k14 hj14 hk14 c_6 n_9 x_13 c_14) dX12_left_52 (fun x_23 => ?_)
                refine lv_if_eq (tgt := 60) hx hb dX12_left_53 (by decide) (fun c_24 => ?_) (fun c_24 => ?_)
                · refine lv_iconst (v := 1) hx hb dX12_left_60 (by decide) ?_
                  refine lv_iadd hx hb dX12_left_61 ?_
                  refine lv_topv (y := 1) (by decide) ?_
                  refine lv_iadd hx hb dX12_left_62 ?_
                  refine lv_topi (fun x_25 ex_25 => ?_)
                  refine lv_istore_n (lv' := [(1, .int x_25), (3, .int (nI j2)), (2, .int (nI j1)), (0, .ref h)]) hx hb dX12_left_63 rfl hl (by decide) rfl (fun ls hl => ?_)
                  refine lv_iinc (v := nI (j2 + 1)) (lv' := [(3, .int (nI (j2 + 1))), (1, .int x_25), (2, .int (nI j1)), (0, .ref h)]) hx hb dX12_left_64 hl (k := 1) rfl (nI_1 j2) (by decide) rfl (fun ls hl => ?_)
                  refine lv_goto (tgt := 14) hx hb dX12_left_67 (by decide) ?_
                  exact ih14 (j2 + 1) x_25 H locs ls (by omega) (by omega)  (hP.sub [0, 1] rfl)  hS (lv_sub hl [0, 2, 1, 3] rfl)
                · refine lv_iconst (v := 0) hx hb dX12_left_56 (by decide) ?_
                  refine lv_goto (tgt := 61) hx hb dX12_left_57 (by decide) ?_
                  refine lv_iadd hx hb dX12_left_61 ?_
                  refine lv_topv (y := 0) (by decide) ?_
                  refine lv_iadd hx hb dX12_left_62 ?_
                  refine lv_topi (fun x_26 ex_26 => ?_)
                  refine lv_istore_n (lv' := [(1, .int x_26), (3, .int (nI j2)), (2, .int (nI j1)), (0, .ref h)]) hx hb dX12_left_63 rfl hl (by decide) rfl (fun ls hl => ?_)
                  refine lv_iinc (v := nI (j2 + 1)) (lv' := [(3, .int (nI (j2 + 1))), (1, .int x_26), (2, .int (nI j1)), (0, .ref h)]) hx hb dX12_left_64 hl (k := 1) rfl (nI_1 j2) (by decide) rfl (fun ls hl => ?_)
                  refine lv_goto (tgt := 14) hx hb dX12_left_67 (by decide) ?_
                  exact ih14 (j2 + 1) x_26 H locs ls (by omega) (by omega)  (hP.sub [0, 1] rfl)  hS (lv_sub hl [0, 2, 1, 3] rfl)
        exact lp14 (mk + 1) 0 w1 H locs ls (by omega) (by omega)  (hP.sub [0, 1] rfl)  hS (lv_sub hl [0, 1, 2, 3] rfl)
  exact lp4 (ms + 1) 0 0 H locs ls (by omega) (by omega)  (hP.sub [0, 1] rfl)  hS (lv_sub hl [0, 1, 2] rfl)
