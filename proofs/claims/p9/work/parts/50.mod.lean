abbrev mG (q : Nat → Nat) (i : Nat → Int32) : List Value := [.ref (q 0), .int (i 1), .int (i 2), .int (i 3), .int (i 4), .int (i 5), .ref (q 6), .ref (q 7), .ref (q 8), .ref (q 9), .ref (q 10), .ref (q 11), .ref (q 12), .ref (q 13), .ref (q 14), .ref (q 15), .ref (q 16), .ref (q 17), .ref (q 18), .int (i 19), .int (i 20), .int (i 21), .int (i 22), .int (i 23), .int (i 24), .int (i 25), .int (i 26), .int (i 27), .ref (q 28), .int (i 29), .int (i 30), .int (i 31), .int (i 32), .int (i 33), .int (i 34), .int (i 35), .int (i 36), .int (i 37), .int (i 38), .int (i 39), .int (i 40), .int (i 41), .ref (q 42), .ref (q 43), .ref (q 44), .ref (q 45), .ref (q 46), .ref (q 47), .ref (q 48), .int (i 49), .int (i 50), .ref (q 51), .ref (q 52), .ref (q 53), .int (i 54), .int (i 55), .int (i 56), .int (i 57), .int (i 58), .ref (q 59), .ref (q 60), .ref (q 61), .ref (q 62), .ref (q 63), .ref (q 64), .ref (q 65), .ref (q 66), .ref (q 67), .ref (q 68), .ref (q 69), .ref (q 70), .int (i 71), .ref (q 72), .ref (q 73), .ref (q 74), .ref (q 75), .ref (q 76), .ref (q 77), .int (i 78), .int (i 79), .ref (q 80)]
theorem mG_1 (q : Nat → Nat) (i : Nat → Int32) (v : Int32) : (mG q i).set 1 (.int v) = mG q (upd i 1 v) := rfl
theorem mG_2 (q : Nat → Nat) (i : Nat → Int32) (v : Int32) : (mG q i).set 2 (.int v) = mG q (upd i 2 v) := rfl
theorem mG_3 (q : Nat → Nat) (i : Nat → Int32) (v : Int32) : (mG q i).set 3 (.int v) = mG q (upd i 3 v) := rfl
theorem mG_4 (q : Nat → Nat) (i : Nat → Int32) (v : Int32) : (mG q i).set 4 (.int v) = mG q (upd i 4 v) := rfl
theorem mG_5 (q : Nat → Nat) (i : Nat → Int32) (v : Int32) : (mG q i).set 5 (.int v) = mG q (upd i 5 v) := rfl
theorem mG_19 (q : Nat → Nat) (i : Nat → Int32) (v : Int32) : (mG q i).set 19 (.int v) = mG q (upd i 19 v) := rfl
theorem mG_20 (q : Nat → Nat) (i : Nat → Int32) (v : Int32) : (mG q i).set 20 (.int v) = mG q (upd i 20 v) := rfl
theorem mG_21 (q : Nat → Nat) (i : Nat → Int32) (v : Int32) : (mG q i).set 21 (.int v) = mG q (upd i 21 v) := rfl
theorem mG_22 (q : Nat → Nat) (i : Nat → Int32) (v : Int32) : (mG q i).set 22 (.int v) = mG q (upd i 22 v) := rfl
theorem mG_23 (q : Nat → Nat) (i : Nat → Int32) (v : Int32) : (mG q i).set 23 (.int v) = mG q (upd i 23 v) := rfl
theorem mG_24 (q : Nat → Nat) (i : Nat → Int32) (v : Int32) : (mG q i).set 24 (.int v) = mG q (upd i 24 v) := rfl
theorem mG_25 (q : Nat → Nat) (i : Nat → Int32) (v : Int32) : (mG q i).set 25 (.int v) = mG q (upd i 25 v) := rfl
theorem mG_26 (q : Nat → Nat) (i : Nat → Int32) (v : Int32) : (mG q i).set 26 (.int v) = mG q (upd i 26 v) := rfl
theorem mG_27 (q : Nat → Nat) (i : Nat → Int32) (v : Int32) : (mG q i).set 27 (.int v) = mG q (upd i 27 v) := rfl
theorem mG_29 (q : Nat → Nat) (i : Nat → Int32) (v : Int32) : (mG q i).set 29 (.int v) = mG q (upd i 29 v) := rfl
theorem mG_30 (q : Nat → Nat) (i : Nat → Int32) (v : Int32) : (mG q i).set 30 (.int v) = mG q (upd i 30 v) := rfl
theorem mG_31 (q : Nat → Nat) (i : Nat → Int32) (v : Int32) : (mG q i).set 31 (.int v) = mG q (upd i 31 v) := rfl
theorem mG_32 (q : Nat → Nat) (i : Nat → Int32) (v : Int32) : (mG q i).set 32 (.int v) = mG q (upd i 32 v) := rfl
theorem mG_33 (q : Nat → Nat) (i : Nat → Int32) (v : Int32) : (mG q i).set 33 (.int v) = mG q (upd i 33 v) := rfl
theorem mG_34 (q : Nat → Nat) (i : Nat → Int32) (v : Int32) : (mG q i).set 34 (.int v) = mG q (upd i 34 v) := rfl
theorem mG_35 (q : Nat → Nat) (i : Nat → Int32) (v : Int32) : (mG q i).set 35 (.int v) = mG q (upd i 35 v) := rfl
theorem mG_36 (q : Nat → Nat) (i : Nat → Int32) (v : Int32) : (mG q i).set 36 (.int v) = mG q (upd i 36 v) := rfl
theorem mG_37 (q : Nat → Nat) (i : Nat → Int32) (v : Int32) : (mG q i).set 37 (.int v) = mG q (upd i 37 v) := rfl
theorem mG_38 (q : Nat → Nat) (i : Nat → Int32) (v : Int32) : (mG q i).set 38 (.int v) = mG q (upd i 38 v) := rfl
theorem mG_39 (q : Nat → Nat) (i : Nat → Int32) (v : Int32) : (mG q i).set 39 (.int v) = mG q (upd i 39 v) := rfl
theorem mG_40 (q : Nat → Nat) (i : Nat → Int32) (v : Int32) : (mG q i).set 40 (.int v) = mG q (upd i 40 v) := rfl
theorem mG_41 (q : Nat → Nat) (i : Nat → Int32) (v : Int32) : (mG q i).set 41 (.int v) = mG q (upd i 41 v) := rfl
theorem mG_49 (q : Nat → Nat) (i : Nat → Int32) (v : Int32) : (mG q i).set 49 (.int v) = mG q (upd i 49 v) := rfl
theorem mG_50 (q : Nat → Nat) (i : Nat → Int32) (v : Int32) : (mG q i).set 50 (.int v) = mG q (upd i 50 v) := rfl
theorem mG_54 (q : Nat → Nat) (i : Nat → Int32) (v : Int32) : (mG q i).set 54 (.int v) = mG q (upd i 54 v) := rfl
theorem mG_55 (q : Nat → Nat) (i : Nat → Int32) (v : Int32) : (mG q i).set 55 (.int v) = mG q (upd i 55 v) := rfl
theorem mG_56 (q : Nat → Nat) (i : Nat → Int32) (v : Int32) : (mG q i).set 56 (.int v) = mG q (upd i 56 v) := rfl
theorem mG_57 (q : Nat → Nat) (i : Nat → Int32) (v : Int32) : (mG q i).set 57 (.int v) = mG q (upd i 57 v) := rfl
theorem mG_58 (q : Nat → Nat) (i : Nat → Int32) (v : Int32) : (mG q i).set 58 (.int v) = mG q (upd i 58 v) := rfl
theorem mG_71 (q : Nat → Nat) (i : Nat → Int32) (v : Int32) : (mG q i).set 71 (.int v) = mG q (upd i 71 v) := rfl
theorem mG_78 (q : Nat → Nat) (i : Nat → Int32) (v : Int32) : (mG q i).set 78 (.int v) = mG q (upd i 78 v) := rfl
theorem mG_79 (q : Nat → Nat) (i : Nat → Int32) (v : Int32) : (mG q i).set 79 (.int v) = mG q (upd i 79 v) := rfl
/-! The reference's object: its numbers by a row, and which of them a method changes. -/
def SB (l : List Nat) (f g : Nat → Int32) : Prop := ∀ k : Nat, l.contains k = false → g k = f k
theorem SB.rf {l : List Nat} {f : Nat → Int32} : SB l f f := fun _ _ => rfl
theorem SB.put {l : List Nat} {f g g1 : Nat → Int32} {K : Nat} {v : Int32} (h : SB l f g) (e : g1 = upd g K v) (hK : l.contains K = true) : SB l f g1 := by
  intro k hk
  rw [e]
  show (if k = K then v else g k) = f k
  split
  · rename_i q; rw [q, hK] at hk; cases hk
  · exact h k hk
theorem SB.step {l l2 : List Nat} {f g g2 : Nat → Int32} (h : SB l f g) (h2 : SB l2 g g2) (hl : l2.all (fun x => l.contains x) = true) : SB l f g2 := by
  intro k hk
  rw [h2 k ?_]
  · exact h k hk
  · cases hc : l2.contains k with
    | false => rfl
    | true =>
      have h3 := List.all_eq_true.mp hl k (List.contains_iff_mem.mp hc)
      rw [h3] at hk
      cases hk
theorem nI_dec {k : Nat} (h : 1 ≤ k) : nI k + Int32.ofInt (-1) = nI (k - 1) := by
  rw [nI_m1, show (1 : Int32) = nI 1 from rfl, pk_sub h]
theorem lf_X12_isIn_2 (v : Int64) (lo : Int64) (hi : Int64) (c_1 : lg_cmp v lo < 0) : (0 : Int32) = bi (lo ≤ v ∧ v ≤ hi) := by
  simp only [lg_cmp_lt, lg_cmp_gt] at *; first | rfl | (simp only [bi]; rw [if_pos (by grind)]; done) | (simp only [bi]; rw [if_neg (by grind)]; done) | grind
theorem lf_X12_isIn_4 (v : Int64) (lo : Int64) (hi : Int64) (c_1 : ¬ lg_cmp v lo < 0) (c_3 : 0 < lg_cmp v hi) : (0 : Int32) = bi (lo ≤ v ∧ v ≤ hi) := by
  simp only [lg_cmp_lt, lg_cmp_gt] at *; first | rfl | (simp only [bi]; rw [if_pos (by grind)]; done) | (simp only [bi]; rw [if_neg (by grind)]; done) | grind
theorem lf_X12_isIn_5 (v : Int64) (lo : Int64) (hi : Int64) (c_1 : ¬ lg_cmp v lo < 0) (c_3 : ¬ 0 < lg_cmp v hi) : (1 : Int32) = bi (lo ≤ v ∧ v ≤ hi) := by
  simp only [lg_cmp_lt, lg_cmp_gt] at *; first | rfl | (simp only [bi]; rw [if_pos (by grind)]; done) | (simp only [bi]; rw [if_neg (by grind)]; done) | grind
set_option maxHeartbeats 4000000 in
set_option maxRecDepth 100000 in
theorem c_X12_isIn (l : Launch) (D : va_G) (cI cB cZ cJ : ClassId) (tx : List (ClassId × FieldType)) (v : Int64) (lo : Int64) (hi : Int64) : RdI l D cI cB cZ cJ tx yX12_isIn cX12_isIn 6 (some .boolean) 0 [.long v, .long lo, .long hi] [] (fun r => r = bi (lo ≤ v ∧ v ≤ hi)) := by
  refine rdi_of2 (by decide) (Nat.le_of_ble_eq_true rfl) ?_
  intro p e s m below meth c A ls H locs hC hK hP hD hA hS hl
  obtain ⟨hx, hb, hr, hml, hown, hts, hlocks, hin⟩ := hC
  have hown : s.vm.findClass RX12 = some m.cls := hown
  have hl : lv_has ls 6 [(0, .long v), (2, .long lo), (4, .long hi)] := hl
  refine lv_lload_n hx hb dX12_isIn_0 rfl (lv_at hl 0 rfl) ?_
  refine lv_lload_n hx hb dX12_isIn_1 rfl (lv_at hl 1 rfl) ?_
  refine W.lcmp hx hb dX12_isIn_2 ?_
  refine lv_if_lt (tgt := 17) hx hb dX12_isIn_3 (by decide) (fun c_1 => ?_) (fun c_1 => ?_)
  · refine lv_iconst (v := 0) hx hb dX12_isIn_17 (by decide) ?_
    exact W.zret (v := 0) hx hb hr (by decide) (fun tt9 ht hW => ⟨⟨(0 : Int32), (), rfl, (lf_X12_isIn_2 v lo hi c_1), trivial⟩, hS.F ht⟩) hS.2.2 dX12_isIn_18 hlocks
  · refine lv_lload_n hx hb dX12_isIn_6 rfl (lv_at hl 0 rfl) ?_
    refine lv_lload hx hb dX12_isIn_7 (lv_at hl 2 rfl) ?_
    refine W.lcmp hx hb dX12_isIn_9 ?_
    refine lv_if_gt (tgt := 17) hx hb dX12_isIn_10 (by decide) (fun c_3 => ?_) (fun c_3 => ?_)
    · refine lv_iconst (v := 0) hx hb dX12_isIn_17 (by decide) ?_
      exact W.zret (v := 0) hx hb hr (by decide) (fun tt9 ht hW => ⟨⟨(0 : Int32), (), rfl, (lf_X12_isIn_4 v lo hi c_1 c_3), trivial⟩, hS.F ht⟩) hS.2.2 dX12_isIn_18 hlocks
    · refine lv_iconst (v := 1) hx hb dX12_isIn_13 (by decide) ?_
      refine lv_goto (tgt := 18) hx hb dX12_isIn_14 (by decide) ?_
      exact W.zret (v := 1) hx hb hr (by decide) (fun tt9 ht hW => ⟨⟨(1 : Int32), (), rfl, (lf_X12_isIn_5 v lo hi c_1 c_3), trivial⟩, hS.F ht⟩) hS.2.2 dX12_isIn_18 hlocks

theorem lf_X12_has_4 (v1 : Int64) (n2 : Int32) (x_1 : Int64) (ex_1 : x_1 = v1 >>> ((n2).toInt64 &&& 63)) (x_2 : Int64) (ex_2 : x_2 = x_1 &&& 1) (c_3 : ¬ lg_cmp x_2 1 = 0) : True := by
  trivial
theorem lf_X12_has_5 (v1 : Int64) (n2 : Int32) (x_1 : Int64) (ex_1 : x_1 = v1 >>> ((n2).toInt64 &&& 63)) (x_2 : Int64) (ex_2 : x_2 = x_1 &&& 1) (c_3 : lg_cmp x_2 1 = 0) : True := by
  trivial
set_option maxHeartbeats 4000000 in
set_option maxRecDepth 100000 in
theorem c_X12_has (l : Launch) (D : va_G) (cI cB cZ cJ : ClassId) (tx : List (ClassId × FieldType)) (v1 : Int64) (n2 : Int32) : RdI l D cI cB cZ cJ tx yX12_has cX12_has 3 (some .boolean) 0 [.long v1, .int n2] [] (fun r => True) := by
  refine rdi_of2 (by decide) (Nat.le_of_ble_eq_true rfl) ?_
  intro p e s m below meth c A ls H locs hC hK hP hD hA hS hl
  obtain ⟨hx, hb, hr, hml, hown, hts, hlocks, hin⟩ := hC
  have hown : s.vm.findClass RX12 = some m.cls := hown
  have hl : lv_has ls 3 [(0, .long v1), (2, .int n2)] := hl
  refine lv_lload_n hx hb dX12_has_0 rfl (lv_at hl 0 rfl) ?_
  refine lv_iload_n hx hb dX12_has_1 rfl (lv_at hl 1 rfl) ?_
  refine lv_lshr hx hb dX12_has_2 rfl ?_
  refine lv_topl (fun x_1 ex_1 => ?_)
  refine lv_lconst (v := 1) hx hb dX12_has_3 (by decide) ?_
  refine lv_land hx hb dX12_has_4 ?_
  refine lv_topl (fun x_2 ex_2 => ?_)
  refine lv_lconst (v := 1) hx hb dX12_has_5 (by decide) ?_
  refine W.lcmp hx hb dX12_has_6 ?_
  refine lv_if_ne (tgt := 14) hx hb dX12_has_7 (by decide) (fun c_3 => ?_) (fun c_3 => ?_)
  · refine lv_iconst (v := 0) hx hb dX12_has_14 (by decide) ?_
    exact W.zret (v := 0) hx hb hr (by decide) (fun tt9 ht hW => ⟨⟨(0 : Int32), (), rfl, (lf_X12_has_4 v1 n2 x_1 ex_1 x_2 ex_2 c_3), trivial⟩, hS.F ht⟩) hS.2.2 dX12_has_15 hlocks
  · refine lv_iconst (v := 1) hx hb dX12_has_10 (by decide) ?_
    refine lv_goto (tgt := 15) hx hb dX12_has_11 (by decide) ?_
    exact W.zret (v := 1) hx hb hr (by decide) (fun tt9 ht hW => ⟨⟨(1 : Int32), (), rfl, (lf_X12_has_5 v1 n2 x_1 ex_1 x_2 ex_2 c_3), trivial⟩, hS.F ht⟩) hS.2.2 dX12_has_15 hlocks

theorem lf_X12_plain_2 (n1 : Int32) (c_1 : 0 ≤ n1) : True := by
  trivial
theorem lf_X12_plain_4 (n1 : Int32) (c_1 : ¬ 0 ≤ n1) (x_3 : Int32) : True := by
  trivial
set_option maxHeartbeats 4000000 in
set_option maxRecDepth 100000 in
theorem c_X12_plain (l : Launch) (D : va_G) (cI cB cZ cJ : ClassId) (tx : List (ClassId × FieldType)) (n1 : Int32) : RdI l D cI cB cZ cJ tx yX12_plain cX12_plain 1 (some .int) 0 [.int n1] [] (fun r => True) := by
  refine rdi_of2 (by decide) (Nat.le_of_ble_eq_true rfl) ?_
  intro p e s m below meth c A ls H locs hC hK hP hD hA hS hl
  obtain ⟨hx, hb, hr, hml, hown, hts, hlocks, hin⟩ := hC
  have hown : s.vm.findClass RX12 = some m.cls := hown
  have hl : lv_has ls 1 [(0, .int n1)] := hl
  refine lv_iload_n hx hb dX12_plain_0 rfl (lv_at hl 0 rfl) ?_
  refine lv_if_ge (tgt := 9) hx hb dX12_plain_1 (by decide) (fun c_1 => ?_) (fun c_1 => ?_)
  · refine lv_iload_n hx hb dX12_plain_9 rfl (lv_at hl 0 rfl) ?_
    exact W.iret (v := n1) hx hb hr (fun tt9 ht hW => ⟨⟨(n1 : Int32), (), rfl, (lf_X12_plain_2 n1 c_1), trivial⟩, hS.F ht⟩) hS.2.2 dX12_plain_10 hlocks
  · refine lv_iload_n hx hb dX12_plain_4 rfl (lv_at hl 0 rfl) ?_
    refine lv_ineg hx hb dX12_plain_5 ?_
    refine lv_topi (fun x_3 _ => ?_)
    refine lv_goto (tgt := 10) hx hb dX12_plain_6 (by decide) ?_
    exact W.iret (v := x_3) hx hb hr (fun tt9 ht hW => ⟨⟨(x_3 : Int32), (), rfl, (lf_X12_plain_4 n1 c_1 x_3), trivial⟩, hS.F ht⟩) hS.2.2 dX12_plain_10 hlocks

theorem lf_X12_held_4 (n1 : Int32) (n2 : Int32) (x_1 : Int32) (c_2 : x_1 ≤ n1) (c_3 : n1 ≤ n2) : True := by
  trivial
theorem lf_X12_held_5 (n1 : Int32) (n2 : Int32) (x_1 : Int32) (c_2 : x_1 ≤ n1) (c_3 : ¬ n1 ≤ n2) : True := by
  trivial
theorem lf_X12_held_7 (n1 : Int32) (n2 : Int32) (x_1 : Int32) (c_2 : ¬ x_1 ≤ n1) (x_6 : Int32) : True := by
  trivial
set_option maxHeartbeats 4000000 in
set_option maxRecDepth 100000 in
theorem c_X12_held (l : Launch) (D : va_G) (cI cB cZ cJ : ClassId) (tx : List (ClassId × FieldType)) (n1 : Int32) (n2 : Int32) : RdI l D cI cB cZ cJ tx yX12_held cX12_held 2 (some .int) 0 [.int n1, .int n2] [] (fun r => True) := by
  refine rdi_of2 (by decide) (Nat.le_of_ble_eq_true rfl) ?_
  intro p e s m below meth c A ls H locs hC hK hP hD hA hS hl
  obtain ⟨hx, hb, hr, hml, hown, hts, hlocks, hin⟩ := hC
  have hown : s.vm.findClass RX12 = some m.cls := hown
  have hl : lv_has ls 2 [(0, .int n1), (1, .int n2)] := hl
  refine lv_iload_n hx hb dX12_held_0 rfl (lv_at hl 0 rfl) ?_
  refine lv_iload_n hx hb dX12_held_1 rfl (lv_at hl 1 rfl) ?_
  refine lv_ineg hx hb dX12_held_2 ?_
  refine lv_topi (fun x_1 _ => ?_)
  refine lv_icmp_ge (tgt := 11) hx hb dX12_held_3 (by decide) (fun c_2 => ?_) (fun c_2 => ?_)
  · refine lv_iload_n hx hb dX12_held_11 rfl (lv_at hl 0 rfl) ?_
    refine lv_iload_n hx hb dX12_held_12 rfl (lv_at hl 1 rfl) ?_
    refine lv_icmp_le (tgt := 20) hx hb dX12_held_13 (by decide) (fun c_3 => ?_) (fun c_3 => ?_)
    · refine lv_iload_n hx hb dX12_held_20 rfl (lv_at hl 0 rfl) ?_
      exact W.iret (v := n1) hx hb hr (fun tt9 ht hW => ⟨⟨(n1 : Int32), (), rfl, (lf_X12_held_4 n1 n2 x_1 c_2 c_3), trivial⟩, hS.F ht⟩) hS.2.2 dX12_held_21 hlocks
    · refine lv_iload_n hx hb dX12_held_16 rfl (lv_at hl 1 rfl) ?_
      refine lv_goto (tgt := 21) hx hb dX12_held_17 (by decide) ?_
      exact W.iret (v := n2) hx hb hr (fun tt9 ht hW => ⟨⟨(n2 : Int32), (), rfl, (lf_X12_held_5 n1 n2 x_1 c_2 c_3), trivial⟩, hS.F ht⟩) hS.2.2 dX12_held_21 hlocks
  · refine lv_iload_n hx hb dX12_held_6 rfl (lv_at hl 1 rfl) ?_
    refine lv_ineg hx hb dX12_held_7 ?_
    refine lv_topi (fun x_6 _ => ?_)
    refine lv_goto (tgt := 21) hx hb dX12_held_8 (by decide) ?_
    exact W.iret (v := x_6) hx hb hr (fun tt9 ht hW => ⟨⟨(x_6 : Int32), (), rfl, (lf_X12_held_7 n1 n2 x_1 c_2 x_6), trivial⟩, hS.F ht⟩) hS.2.2 dX12_held_21 hlocks

theorem lf_X12_cellOf_1 (f1 : Nat) (s1 : Nat) (d1 : Nat) : (nI (((16 * f1) + (2 * s1)) + d1) : Int32) = nI (16 * f1 + 2 * s1 + d1) := by
  rfl
set_option maxHeartbeats 4000000 in
set_option maxRecDepth 100000 in
theorem c_X12_cellOf (l : Launch) (D : va_G) (cI cB cZ cJ : ClassId) (tx : List (ClassId × FieldType)) (f1 : Nat) (s1 : Nat) (d1 : Nat) : RdI l D cI cB cZ cJ tx yX12_cellOf cX12_cellOf 3 (some .int) 0 [.int (nI f1), .int (nI s1), .int (nI d1)] [] (fun r => r = nI (16 * f1 + 2 * s1 + d1)) := by
  refine rdi_of2 (by decide) (Nat.le_of_ble_eq_true rfl) ?_
  intro p e s m below meth c A ls H locs hC hK hP hD hA hS hl
  obtain ⟨hx, hb, hr, hml, hown, hts, hlocks, hin⟩ := hC
  have hown : s.vm.findClass RX12 = some m.cls := hown
  have hl : lv_has ls 3 [(0, .int (nI f1)), (1, .int (nI s1)), (2, .int (nI d1))] := hl
  refine lv_bipush (v := 16) hx hb dX12_cellOf_0 (by decide) ?_
  refine lv_iload_n hx hb dX12_cellOf_2 rfl (lv_at hl 0 rfl) ?_
  refine lv_imul hx hb dX12_cellOf_3 ?_
  refine lv_topv (y := nI (16 * f1)) (pk_mul 16 f1) ?_
  refine lv_iconst (v := 2) hx hb dX12_cellOf_4 (by decide) ?_
  refine lv_iload_n hx hb dX12_cellOf_5 rfl (lv_at hl 1 rfl) ?_
  refine lv_imul hx hb dX12_cellOf_6 ?_
  refine lv_topv (y := nI (2 * s1)) (pk_mul 2 s1) ?_
  refine lv_iadd hx hb dX12_cellOf_7 ?_
  refine lv_topv (y := nI ((16 * f1) + (2 * s1))) (nI_add (16 * f1) (2 * s1)) ?_
  refine lv_iload_n hx hb dX12_cellOf_8 rfl (lv_at hl 2 rfl) ?_
  refine lv_iadd hx hb dX12_cellOf_9 ?_
  refine lv_topv (y := nI (((16 * f1) + (2 * s1)) + d1)) (nI_add ((16 * f1) + (2 * s1)) d1) ?_
  exact W.iret (v := nI (((16 * f1) + (2 * s1)) + d1)) hx hb hr (fun tt9 ht hW => ⟨⟨(nI (((16 * f1) + (2 * s1)) + d1) : Int32), (), rfl, (lf_X12_cellOf_1 f1 s1 d1), trivial⟩, hS.F ht⟩) hS.2.2 dX12_cellOf_10 hlocks

theorem lf_X12_isStation_2 (h : Nat) (q : Nat → Nat) (im : Nat → Int32) (ms : Nat) (n1 : Int32) (hf_ms : im 2 = nI ms) : (bi ((0 : Int32) ≤ n1 ∧ n1 ≤ nI ms - 1) : Int32) = bi (0 ≤ n1 ∧ n1 ≤ nI ms - 1) := by
  rfl
set_option maxHeartbeats 4000000 in
set_option maxRecDepth 100000 in
theorem c_X12_isStation (l : Launch) (D : va_G) (cI cB cZ cJ : ClassId) (tx : List (ClassId × FieldType)) (h : Nat) (q : Nat → Nat) (im : Nat → Int32) (ms : Nat) (n1 : Int32) (hf_ms : im 2 = nI ms) : RdI l D cI cB cZ cJ tx yX12_isStation cX12_isStation 2 (some .boolean) 1 [.ref h, .int n1] [(h, .inr (12, mG q im))] (fun r => r = bi (0 ≤ n1 ∧ n1 ≤ nI ms - 1)) := by
  refine rdi_of2 (by decide) (Nat.le_of_ble_eq_true rfl) ?_
  intro p e s m below meth c A ls H locs hC hK hP hD hA hS hl
  obtain ⟨hx, hb, hr, hml, hown, hts, hlocks, hin⟩ := hC
  have hown : s.vm.findClass RX12 = some m.cls := hown
  have hl : lv_has ls 2 [(0, .ref h), (1, .int n1)] := hl
  refine lv_iload_n hx hb dX12_isStation_0 rfl (lv_at hl 1 rfl) ?_
  refine lv_i2l (v := n1.toInt64) hx hb dX12_isStation_1 rfl ?_
  refine lv_lconst (v := 0) hx hb dX12_isStation_2 (by decide) ?_
  refine lv_aload_n hx hb dX12_isStation_3 rfl (lv_at hl 0 rfl) ?_
  refine va_get (D := D) (ci := 12) (v := .int (im 2)) (C := RX12) (T := TX12) (N := 81) hx hb hts inT_X12 hown hK.1 hP 0 rfl rfl 2 (by decide) (hts _ k_1355) (fun _ h9 => h9) rfl dX12_isStation_4 ?_
  refine lv_topv (y := nI ms) hf_ms ?_
  refine lv_iconst (v := 1) hx hb dX12_isStation_7 (by decide) ?_
  refine lv_isub hx hb dX12_isStation_8 ?_
  refine lv_i2l (v := (nI ms - 1).toInt64) hx hb dX12_isStation_9 rfl ?_
  refine eRi (va_runS (As := [.long n1.toInt64, .long 0, .long ((nI ms - 1).toInt64)]) (rest := []) ⟨hx, hb, hml, hown, hts⟩ (c_X12_isIn l D cI cB cZ cJ tx n1.toInt64 0 ((nI ms - 1).toInt64) H.size) (zS hts k_1602 v_X12_isIn ⟨Nat.le_of_ble_eq_true rfl, Nat.le_of_ble_eq_true rfl⟩) (px0 hK) rfl rfl hl.1 rfl (lv_room (Nat.le_of_ble_eq_true rfl)) dX12_isStation_10 ⟨Nat.le_of_ble_eq_true rfl, Nat.le_of_ble_eq_true rfl⟩) hP hS hA (fun r_1 H locs wr_1 hP hS => ?_)
  have wr_1 : r_1 = bi ((0 : Int32) ≤ n1 ∧ n1 ≤ nI ms - 1) := isIn32 (lo := 0) (hi := nI ms - 1) (by decide) rfl wr_1
  subst wr_1
  exact W.zret (v := bi ((0 : Int32) ≤ n1 ∧ n1 ≤ nI ms - 1)) hx hb hr nb_bi (fun tt9 ht hW => ⟨⟨(bi ((0 : Int32) ≤ n1 ∧ n1 ≤ nI ms - 1) : Int32), (), rfl, (lf_X12_isStation_2 h q im ms n1 hf_ms), trivial⟩, hS.F ht⟩) hS.2.2 dX12_isStation_13 hlocks

theorem lf_X12_isStrake_2 (h : Nat) (q : Nat → Nat) (im : Nat → Int32) (mk : Nat) (n1 : Int32) (hf_mk : im 3 = nI mk) : (bi ((0 : Int32) ≤ n1 ∧ n1 ≤ nI mk - 1) : Int32) = bi (0 ≤ n1 ∧ n1 ≤ nI mk - 1) := by
  rfl
set_option maxHeartbeats 4000000 in
set_option maxRecDepth 100000 in
theorem c_X12_isStrake (l : Launch) (D : va_G) (cI cB cZ cJ : ClassId) (tx : List (ClassId × FieldType)) (h : Nat) (q : Nat → Nat) (im : Nat → Int32) (mk : Nat) (n1 : Int32) (hf_mk : im 3 = nI mk) : RdI l D cI cB cZ cJ tx yX12_isStrake cX12_isStrake 2 (some .boolean) 1 [.ref h, .int n1] [(h, .inr (12, mG q im))] (fun r => r = bi (0 ≤ n1 ∧ n1 ≤ nI mk - 1)) := by
  refine rdi_of2 (by decide) (Nat.le_of_ble_eq_true rfl) ?_
  intro p e s m below meth c A ls H locs hC hK hP hD hA hS hl
  obtain ⟨hx, hb, hr, hml, hown, hts, hlocks, hin⟩ := hC
  have hown : s.vm.findClass RX12 = some m.cls := hown
  have hl : lv_has ls 2 [(0, .ref h), (1, .int n1)] := hl
  refine lv_iload_n hx hb dX12_isStrake_0 rfl (lv_at hl 1 rfl) ?_
  refine lv_i2l (v := n1.toInt64) hx hb dX12_isStrake_1 rfl ?_
  refine lv_lconst (v := 0) hx hb dX12_isStrake_2 (by decide) ?_
  refine lv_aload_n hx hb dX12_isStrake_3 rfl (lv_at hl 0 rfl) ?_
  refine va_get (D := D) (ci := 12) (v := .int (im 3)) (C := RX12) (T := TX12) (N := 81) hx hb hts inT_X12 hown hK.1 hP 0 rfl rfl 3 (by decide) (hts _ k_1356) (fun _ h9 => h9) rfl dX12_isStrake_4 ?_
  refine lv_topv (y := nI mk) hf_mk ?_
  refine lv_iconst (v := 1) hx hb dX12_isStrake_7 (by decide) ?_
  refine lv_isub hx hb dX12_isStrake_8 ?_
  refine lv_i2l (v := (nI mk - 1).toInt64) hx hb dX12_isStrake_9 rfl ?_
  refine eRi (va_runS (As := [.long n1.toInt64, .long 0, .long ((nI mk - 1).toInt64)]) (rest := []) ⟨hx, hb, hml, hown, hts⟩ (c_X12_isIn l D cI cB cZ cJ tx n1.toInt64 0 ((nI mk - 1).toInt64) H.size) (zS hts k_1602 v_X12_isIn ⟨Nat.le_of_ble_eq_true rfl, Nat.le_of_ble_eq_true rfl⟩) (px0 hK) rfl rfl hl.1 rfl (lv_room (Nat.le_of_ble_eq_true rfl)) dX12_isStrake_10 ⟨Nat.le_of_ble_eq_true rfl, Nat.le_of_ble_eq_true rfl⟩) hP hS hA (fun r_1 H locs wr_1 hP hS => ?_)
  have wr_1 : r_1 = bi ((0 : Int32) ≤ n1 ∧ n1 ≤ nI mk - 1) := isIn32 (lo := 0) (hi := nI mk - 1) (by decide) rfl wr_1
  subst wr_1
  exact W.zret (v := bi ((0 : Int32) ≤ n1 ∧ n1 ≤ nI mk - 1)) hx hb hr nb_bi (fun tt9 ht hW => ⟨⟨(bi ((0 : Int32) ≤ n1 ∧ n1 ≤ nI mk - 1) : Int32), (), rfl, (lf_X12_isStrake_2 h q im mk n1 hf_mk), trivial⟩, hS.F ht⟩) hS.2.2 dX12_isStrake_13 hlocks

theorem lf_X12_isDrawing_2 (h : Nat) (q : Nat → Nat) (im : Nat → Int32) (md : Nat) (n1 : Int32) (hf_md : im 50 = nI md) : (bi ((0 : Int32) ≤ n1 ∧ n1 ≤ nI md - 1) : Int32) = bi (0 ≤ n1 ∧ n1 ≤ nI md - 1) := by
  rfl
set_option maxHeartbeats 4000000 in
set_option maxRecDepth 100000 in
theorem c_X12_isDrawing (l : Launch) (D : va_G) (cI cB cZ cJ : ClassId) (tx : List (ClassId × FieldType)) (h : Nat) (q : Nat → Nat) (im : Nat → Int32) (md : Nat) (n1 : Int32) (hf_md : im 50 = nI md) : RdI l D cI cB cZ cJ tx yX12_isDrawing cX12_isDrawing 2 (some .boolean) 1 [.ref h, .int n1] [(h, .inr (12, mG q im))] (fun r => r = bi (0 ≤ n1 ∧ n1 ≤ nI md - 1)) := by
  refine rdi_of2 (by decide) (Nat.le_of_ble_eq_true rfl) ?_
  intro p e s m below meth c A ls H locs hC hK hP hD hA hS hl
  obtain ⟨hx, hb, hr, hml, hown, hts, hlocks, hin⟩ := hC
  have hown : s.vm.findClass RX12 = some m.cls := hown
  have hl : lv_has ls 2 [(0, .ref h), (1, .int n1)] := hl
  refine lv_iload_n hx hb dX12_isDrawing_0 rfl (lv_at hl 1 rfl) ?_
  refine lv_i2l (v := n1.toInt64) hx hb dX12_isDrawing_1 rfl ?_
  refine lv_lconst (v := 0) hx hb dX12_isDrawing_2 (by decide) ?_
  refine lv_aload_n hx hb dX12_isDrawing_3 rfl (lv_at hl 0 rfl) ?_
  refine va_get (D := D) (ci := 12) (v := .int (im 50)) (C := RX12) (T := TX12) (N := 81) hx hb hts inT_X12 hown hK.1 hP 0 rfl rfl 50 (by decide) (hts _ k_1403) (fun _ h9 => h9) rfl dX12_isDrawing_4 ?_
  refine lv_topv (y := nI md) hf_md ?_
  refine lv_iconst (v := 1) hx hb dX12_isDrawing_7 (by decide) ?_
  refine lv_isub hx hb dX12_isDrawing_8 ?_
  refine lv_i2l (v := (nI md - 1).toInt64) hx hb dX12_isDrawing_9 rfl ?_
  refine eRi (va_runS (As := [.long n1.toInt64, .long 0, .long ((nI md - 1).toInt64)]) (rest := []) ⟨hx, hb, hml, hown, hts⟩ (c_X12_isIn l D cI cB cZ cJ tx n1.toInt64 0 ((nI md - 1).toInt64) H.size) (zS hts k_1602 v_X12_isIn ⟨Nat.le_of_ble_eq_true rfl, Nat.le_of_ble_eq_true rfl⟩) (px0 hK) rfl rfl hl.1 rfl (lv_room (Nat.le_of_ble_eq_true rfl)) dX12_isDrawing_10 ⟨Nat.le_of_ble_eq_true rfl, Nat.le_of_ble_eq_true rfl⟩) hP hS hA (fun r_1 H locs wr_1 hP hS => ?_)
  have wr_1 : r_1 = bi ((0 : Int32) ≤ n1 ∧ n1 ≤ nI md - 1) := isIn32 (lo := 0) (hi := nI md - 1) (by decide) rfl wr_1
  subst wr_1
  exact W.zret (v := bi ((0 : Int32) ≤ n1 ∧ n1 ≤ nI md - 1)) hx hb hr nb_bi (fun tt9 ht hW => ⟨⟨(bi ((0 : Int32) ≤ n1 ∧ n1 ≤ nI md - 1) : Int32), (), rfl, (lf_X12_isDrawing_2 h q im md n1 hf_md), trivial⟩, hS.F ht⟩) hS.2.2 dX12_isDrawing_13 hlocks

theorem lf_X12_isRivet_3 (h : Nat) (q : Nat → Nat) (im : Nat → Int32) (ms : Nat) (mk : Nat) (n1 : Int32) (n2 : Int32) (n3 : Int32) (hf_ms : im 2 = nI ms) (hf_mk : im 3 = nI mk) (hms : ms ≤ 24) (hmk : mk ≤ 8) (hm3 : mk = 0 ∨ 3 ≤ ms) (c_2 : ¬ ((0 : Int32) ≤ n1 ∧ n1 ≤ nI ms - 1)) : ((0 : Int32) = 0) ∨ (∃ f s d : Nat, f < ms ∧ s < mk ∧ d < 2 ∧ n1 = nI f ∧ n2 = nI s ∧ n3 = nI d ∧ (0 : Int32) = 1) := by
  first | exact Or.inl rfl | exact Or.inr ⟨tn1, tn2, tn3, tn1a, tn2a, by omega, tn1e, tn2e, tn3e, rfl⟩
theorem lf_X12_isRivet_4 (h : Nat) (q : Nat → Nat) (im : Nat → Int32) (ms : Nat) (mk : Nat) (n1 : Int32) (n2 : Int32) (n3 : Int32) (hf_ms : im 2 = nI ms) (hf_mk : im 3 = nI mk) (hms : ms ≤ 24) (hmk : mk ≤ 8) (hm3 : mk = 0 ∨ 3 ≤ ms) (c_2 : (0 : Int32) ≤ n1 ∧ n1 ≤ nI ms - 1) : ms < 2 ^ 31 := by
  omega
theorem lf_X12_isRivet_7 (h : Nat) (q : Nat → Nat) (im : Nat → Int32) (ms : Nat) (mk : Nat) (n1 : Int32) (n2 : Int32) (n3 : Int32) (hf_ms : im 2 = nI ms) (hf_mk : im 3 = nI mk) (hms : ms ≤ 24) (hmk : mk ≤ 8) (hm3 : mk = 0 ∨ 3 ≤ ms) (c_2 : (0 : Int32) ≤ n1 ∧ n1 ≤ nI ms - 1) (tn1 : Nat) (tn1a : tn1 < ms) (tn1e : n1 = nI tn1) (c_6 : ¬ ((0 : Int32) ≤ n2 ∧ n2 ≤ nI mk - 1)) : ((0 : Int32) = 0) ∨ (∃ f s d : Nat, f < ms ∧ s < mk ∧ d < 2 ∧ n1 = nI f ∧ n2 = nI s ∧ n3 = nI d ∧ (0 : Int32) = 1) := by
  first | exact Or.inl rfl | exact Or.inr ⟨tn1, tn2, tn3, tn1a, tn2a, by omega, tn1e, tn2e, tn3e, rfl⟩
theorem lf_X12_isRivet_8 (h : Nat) (q : Nat → Nat) (im : Nat → Int32) (ms : Nat) (mk : Nat) (n1 : Int32) (n2 : Int32) (n3 : Int32) (hf_ms : im 2 = nI ms) (hf_mk : im 3 = nI mk) (hms : ms ≤ 24) (hmk : mk ≤ 8) (hm3 : mk = 0 ∨ 3 ≤ ms) (c_2 : (0 : Int32) ≤ n1 ∧ n1 ≤ nI ms - 1) (tn1 : Nat) (tn1a : tn1 < ms) (tn1e : n1 = nI tn1) (c_6 : (0 : Int32) ≤ n2 ∧ n2 ≤ nI mk - 1) : mk < 2 ^ 31 := by
  omega
theorem lf_X12_isRivet_11 (h : Nat) (q : Nat → Nat) (im : Nat → Int32) (ms : Nat) (mk : Nat) (n1 : Int32) (n2 : Int32) (n3 : Int32) (hf_ms : im 2 = nI ms) (hf_mk : im 3 = nI mk) (hms : ms ≤ 24) (hmk : mk ≤ 8) (hm3 : mk = 0 ∨ 3 ≤ ms) (c_2 : (0 : Int32) ≤ n1 ∧ n1 ≤ nI ms - 1) (tn1 : Nat) (tn1a : tn1 < ms) (tn1e : n1 = nI tn1) (c_6 : (0 : Int32) ≤ n2 ∧ n2 ≤ nI mk - 1) (tn2 : Nat) (tn2a : tn2 < mk) (tn2e : n2 = nI tn2) (c_10 : ¬ ((0 : Int32) ≤ n3 ∧ n3 ≤ 1)) : ((0 : Int32) = 0) ∨ (∃ f s d : Nat, f < ms ∧ s < mk ∧ d < 2 ∧ n1 = nI f ∧ n2 = nI s ∧ n3 = nI d ∧ (0 : Int32) = 1) := by
  first | exact Or.inl rfl | exact Or.inr ⟨tn1, tn2, tn3, tn1a, tn2a, by omega, tn1e, tn2e, tn3e, rfl⟩
theorem lf_X12_isRivet_12 (h : Nat) (q : Nat → Nat) (im : Nat → Int32) (ms : Nat) (mk : Nat) (n1 : Int32) (n2 : Int32) (n3 : Int32) (hf_ms : im 2 = nI ms) (hf_mk : im 3 = nI mk) (hms : ms ≤ 24) (hmk : mk ≤ 8) (hm3 : mk = 0 ∨ 3 ≤ ms) (c_2 : (0 : Int32) ≤ n1 ∧ n1 ≤ nI ms - 1) (tn1 : Nat) (tn1a : tn1 < ms) (tn1e : n1 = nI tn1) (c_6 : (0 : Int32) ≤ n2 ∧ n2 ≤ nI mk - 1) (tn2 : Nat) (tn2a : tn2 < mk) (tn2e : n2 = nI tn2) (c_10 : (0 : Int32) ≤ n3 ∧ n3 ≤ 1) (tn3 : Nat) (tn3a : 0 ≤ tn3) (tn3b : tn3 ≤ 1) (tn3e : n3 = nI tn3) : ((1 : Int32) = 0) ∨ (∃ f s d : Nat, f < ms ∧ s < mk ∧ d < 2 ∧ n1 = nI f ∧ n2 = nI s ∧ n3 = nI d ∧ (1 : Int32) = 1) := by
  first | exact Or.inl rfl | exact Or.inr ⟨tn1, tn2, tn3, tn1a, tn2a, by omega, tn1e, tn2e, tn3e, rfl⟩
set_option maxHeartbeats 4000000 in
set_option maxRecDepth 100000 in
theorem c_X12_isRivet (l : Launch) (D : va_G) (cI cB cZ cJ : ClassId) (tx : List (ClassId × FieldType)) (h : Nat) (q : Nat → Nat) (im : Nat → Int32) (ms : Nat) (mk : Nat) (n1 : Int32) (n2 : Int32) (n3 : Int32) (hf_ms : im 2 = nI ms) (hf_mk : im 3 = nI mk) (hms : ms ≤ 24) (hmk : mk ≤ 8) (hm3 : mk = 0 ∨ 3 ≤ ms) : RdI l D cI cB cZ cJ tx yX12_isRivet cX12_isRivet 4 (some .boolean) 2 [.ref h, .int n1, .int n2, .int n3] [(h, .inr (12, mG q im))] (fun r => (r = 0) ∨ (∃ f s d : Nat, f < ms ∧ s < mk ∧ d < 2 ∧ n1 = nI f ∧ n2 = nI s ∧ n3 = nI d ∧ r = 1)) := by
  refine rdi_of2 (by decide) (Nat.le_of_ble_eq_true rfl) ?_
  intro p e s m below meth c A ls H locs hC hK hP hD hA hS hl
  obtain ⟨hx, hb, hr, hml, hown, hts, hlocks, hin⟩ := hC
  have hown : s.vm.findClass RX12 = some m.cls := hown
  have hl : lv_has ls 4 [(0, .ref h), (1, .int n1), (2, .int n2), (3, .int n3)] := hl
  refine lv_aload_n hx hb dX12_isRivet_0 rfl (lv_at hl 0 rfl) ?_
  refine lv_iload_n hx hb dX12_isRivet_1 rfl (lv_at hl 1 rfl) ?_
  refine eRi (va_runV (As := [.int n1]) (rest := []) ⟨hx, hb, hml, hown, hts⟩ (c_X12_isStation l D cI cB cZ cJ tx h q im ms n1 hf_ms H.size) (zV hts k_1803 v_X12_isStation ⟨Nat.le_of_ble_eq_true rfl, Nat.le_of_ble_eq_true rfl⟩) (pV (px1 hK hP 0 rfl) hK hP 0 rfl rfl) rfl rfl hl.1 rfl (lv_room (Nat.le_of_ble_eq_true rfl)) dX12_isRivet_2 ⟨Nat.le_of_ble_eq_true rfl, Nat.le_of_ble_eq_true rfl⟩) hP hS hA (fun r_1 H locs wr_1 hP hS => ?_)
  subst wr_1
  refine lv_bi_eq (tgt := 30) hx hb dX12_isRivet_5 (by decide) (fun c_2 => ?_) (fun c_2 => ?_)
  · refine lv_iconst (v := 0) hx hb dX12_isRivet_30 (by decide) ?_
    exact W.zret (v := 0) hx hb hr (by decide) (fun tt9 ht hW => ⟨⟨(0 : Int32), (), rfl, (lf_X12_isRivet_3 h q im ms mk n1 n2 n3 hf_ms hf_mk hms hmk hm3 c_2), trivial⟩, hS.F ht⟩) hS.2.2 dX12_isRivet_31 hlocks
  · obtain ⟨tn1, tn1a, tn1e⟩ := of_within (lf_X12_isRivet_4 h q im ms mk n1 n2 n3 hf_ms hf_mk hms hmk hm3 c_2) c_2
    subst tn1e
    refine lv_aload_n hx hb dX12_isRivet_8 rfl (lv_at hl 0 rfl) ?_
    refine lv_iload_n hx hb dX12_isRivet_9 rfl (lv_at hl 2 rfl) ?_
    refine eRi (va_runV (As := [.int n2]) (rest := []) ⟨hx, hb, hml, hown, hts⟩ (c_X12_isStrake l D cI cB cZ cJ tx h q im mk n2 hf_mk H.size) (zV hts k_1807 v_X12_isStrake ⟨Nat.le_of_ble_eq_true rfl, Nat.le_of_ble_eq_true rfl⟩) (pV (px1 hK hP 0 rfl) hK hP 0 rfl rfl) rfl rfl hl.1 rfl (lv_room (Nat.le_of_ble_eq_true rfl)) dX12_isRivet_10 ⟨Nat.le_of_ble_eq_true rfl, Nat.le_of_ble_eq_true rfl⟩) hP hS hA (fun r_5 H locs wr_5 hP hS => ?_)
    subst wr_5
    refine lv_bi_eq (tgt := 30) hx hb dX12_isRivet_13 (by decide) (fun c_6 => ?_) (fun c_6 => ?_)
    · refine lv_iconst (v := 0) hx hb dX12_isRivet_30 (by decide) ?_
      exact W.zret (v := 0) hx hb hr (by decide) (fun tt9 ht hW => ⟨⟨(0 : Int32), (), rfl, (lf_X12_isRivet_7 h q im ms mk (nI tn1) n2 n3 hf_ms hf_mk hms hmk hm3 c_2 tn1 tn1a rfl c_6), trivial⟩, hS.F ht⟩) hS.2.2 dX12_isRivet_31 hlocks
    · obtain ⟨tn2, tn2a, tn2e⟩ := of_within (lf_X12_isRivet_8 h q im ms mk (nI tn1) n2 n3 hf_ms hf_mk hms hmk hm3 c_2 tn1 tn1a rfl c_6) c_6
      subst tn2e
      refine lv_iload_n hx hb dX12_isRivet_16 rfl (lv_at hl 3 rfl) ?_
      refine lv_i2l (v := n3.toInt64) hx hb dX12_isRivet_17 rfl ?_
      refine lv_lconst (v := 0) hx hb dX12_isRivet_18 (by decide) ?_
      refine lv_lconst (v := 1) hx hb dX12_isRivet_19 (by decide) ?_
      refine eRi (va_runS (As := [.long n3.toInt64, .long 0, .long 1]) (rest := []) ⟨hx, hb, hml, hown, hts⟩ (c_X12_isIn l D cI cB cZ cJ tx n3.toInt64 0 1 H.size) (zS hts k_1602 v_X12_isIn ⟨Nat.le_of_ble_eq_true rfl, Nat.le_of_ble_eq_true rfl⟩) (px0 hK) rfl rfl hl.1 rfl (lv_room (Nat.le_of_ble_eq_true rfl)) dX12_isRivet_20 ⟨Nat.le_of_ble_eq_true rfl, Nat.le_of_ble_eq_true rfl⟩) hP hS hA (fun r_9 H locs wr_9 hP hS => ?_)
      have wr_9 : r_9 = bi ((0 : Int32) ≤ n3 ∧ n3 ≤ 1) := isIn32 (lo := 0) (hi := 1) (by decide) (by decide) wr_9
      subst wr_9
      refine lv_bi_eq (tgt := 30) hx hb dX12_isRivet_23 (by decide) (fun c_10 => ?_) (fun c_10 => ?_)
      · refine lv_iconst (v := 0) hx hb dX12_isRivet_30 (by decide) ?_
        exact W.zret (v := 0) hx hb hr (by decide) (fun tt9 ht hW => ⟨⟨(0 : Int32), (), rfl, (lf_X12_isRivet_11 h q im ms mk (nI tn1) (nI tn2) n3 hf_ms hf_mk hms hmk hm3 c_2 tn1 tn1a rfl c_6 tn2 tn2a rfl c_10), trivial⟩, hS.F ht⟩) hS.2.2 dX12_isRivet_31 hlocks
      · obtain ⟨tn3, tn3a, tn3b, tn3e⟩ := of_rng 0 1 rfl rfl c_10
        subst tn3e
        refine lv_iconst (v := 1) hx hb dX12_isRivet_26 (by decide) ?_
        refine lv_goto (tgt := 31) hx hb dX12_isRivet_27 (by decide) ?_
        exact W.zret (v := 1) hx hb hr (by decide) (fun tt9 ht hW => ⟨⟨(1 : Int32), (), rfl, (lf_X12_isRivet_12 h q im ms mk (nI tn1) (nI tn2) (nI tn3) hf_ms hf_mk hms hmk hm3 c_2 tn1 tn1a rfl c_6 tn2 tn2a rfl c_10 tn3 tn3a tn3b rfl), trivial⟩, hS.F ht⟩) hS.2.2 dX12_isRivet_31 hlocks

theorem lf_X12_isSeen_2 (h : Nat) (q : Nat → Nat) (im : Nat → Int32) (m_isGone : Nat → Int32) (f1 : Nat) (s1 : Nat) (d1 : Nat) (hf : f1 < 24) (hs : s1 < 8) (hd : d1 < 2) : vp_in (nI (16 * f1 + 2 * s1 + d1)) 384 := by
  first | exact vp_in_nI (by omega) (by decide) | (unfold vp_in; decide)
set_option maxHeartbeats 4000000 in
set_option maxRecDepth 100000 in
theorem c_X12_isSeen (l : Launch) (D : va_G) (cI cB cZ cJ : ClassId) (tx : List (ClassId × FieldType)) (h : Nat) (q : Nat → Nat) (im : Nat → Int32) (m_isGone : Nat → Int32) (f1 : Nat) (s1 : Nat) (d1 : Nat) (hf : f1 < 24) (hs : s1 < 8) (hd : d1 < 2) : RdI l D cI cB cZ cJ tx yX12_isSeen cX12_isSeen 4 (some .boolean) 1 [.ref h, .int (nI f1), .int (nI s1), .int (nI d1)] [(h, .inr (12, mG q im)), (q 46, .inl (cZ, 384, .inl m_isGone))] (fun r => True) := by
  refine rdi_of2 (by decide) (Nat.le_of_ble_eq_true rfl) ?_
  intro p e s m below meth c A ls H locs hC hK hP hD hA hS hl
  obtain ⟨hx, hb, hr, hml, hown, hts, hlocks, hin⟩ := hC
  have hown : s.vm.findClass RX12 = some m.cls := hown
  have hl : lv_has ls 4 [(0, .ref h), (1, .int (nI f1)), (2, .int (nI s1)), (3, .int (nI d1))] := hl
  refine lv_aload_n hx hb dX12_isSeen_0 rfl (lv_at hl 0 rfl) ?_
  refine va_get (D := D) (ci := 12) (v := .ref (q 46)) (C := RX12) (T := TX12) (N := 81) hx hb hts inT_X12 hown hK.1 hP 0 rfl rfl 46 (by decide) (hts _ k_1399) (fun _ h9 => h9) rfl dX12_isSeen_1 ?_
  refine lv_iload_n hx hb dX12_isSeen_4 rfl (lv_at hl 1 rfl) ?_
  refine lv_iload_n hx hb dX12_isSeen_5 rfl (lv_at hl 2 rfl) ?_
  refine lv_iload_n hx hb dX12_isSeen_6 rfl (lv_at hl 3 rfl) ?_
  refine eRi (va_runS (As := [.int (nI f1), .int (nI s1), .int (nI d1)]) (rest := [.ref (q 46)]) ⟨hx, hb, hml, hown, hts⟩ (c_X12_cellOf l D cI cB cZ cJ tx f1 s1 d1 H.size) (zS hts k_1735 v_X12_cellOf ⟨Nat.le_of_ble_eq_true rfl, Nat.le_of_ble_eq_true rfl⟩) (px0 hK) rfl rfl hl.1 rfl (lv_room (Nat.le_of_ble_eq_true rfl)) dX12_isSeen_7 ⟨Nat.le_of_ble_eq_true rfl, Nat.le_of_ble_eq_true rfl⟩) hP hS hA (fun r_1 H locs wr_1 hP hS => ?_)
  subst wr_1
  refine ld_z hx hb hK hP 1 rfl (lf_X12_isSeen_2 h q im m_isGone f1 s1 d1 hf hs hd) dX12_isSeen_10 (fun x_3 => ?_)
  refine lv_if_ne (tgt := 30) hx hb dX12_isSeen_11 (by decide) (fun c_4 => ?_) (fun c_4 => ?_)
  · refine lv_iconst (v := 0) hx hb dX12_isSeen_30 (by decide) ?_
    exact W.zret (v := 0) hx hb hr (by decide) (fun tt9 ht hW => ⟨⟨(0 : Int32), (), rfl, trivial, trivial⟩, hS.F ht⟩) hS.2.2 dX12_isSeen_31 hlocks
  · refine lv_aload_n hx hb dX12_isSeen_14 rfl (lv_at hl 0 rfl) ?_
    refine va_get (D := D) (ci := 12) (v := .int (im 49)) (C := RX12) (T := TX12) (N := 81) hx hb hts inT_X12 hown hK.1 hP 0 rfl rfl 49 (by decide) (hts _ k_1402) (fun _ h9 => h9) rfl dX12_isSeen_15 ?_
    refine lv_i2l (v := (im 49).toInt64) hx hb dX12_isSeen_18 rfl ?_
    refine lv_iload_n hx hb dX12_isSeen_19 rfl (lv_at hl 1 rfl) ?_
    refine eRi (va_runS (As := [.long ((im 49).toInt64), .int (nI f1)]) (rest := []) ⟨hx, hb, hml, hown, hts⟩ (c_X12_has l D cI cB cZ cJ tx ((im 49).toInt64) (nI f1) H.size) (zS hts k_1825 v_X12_has ⟨Nat.le_of_ble_eq_true rfl, Nat.le_of_ble_eq_true rfl⟩) (px0 hK) rfl rfl hl.1 rfl (lv_room (Nat.le_of_ble_eq_true rfl)) dX12_isSeen_20 ⟨Nat.le_of_ble_eq_true rfl, Nat.le_of_ble_eq_true rfl⟩) hP hS hA (fun r_5 H locs wr_5 hP hS => ?_)
    refine lv_if_ne (tgt := 30) hx hb dX12_isSeen_23 (by decide) (fun c_6 => ?_) (fun c_6 => ?_)
    · refine lv_iconst (v := 0) hx hb dX12_isSeen_30 (by decide) ?_
      exact W.zret (v := 0) hx hb hr (by decide) (fun tt9 ht hW => ⟨⟨(0 : Int32), (), rfl, trivial, trivial⟩, hS.F ht⟩) hS.2.2 dX12_isSeen_31 hlocks
    · refine lv_iconst (v := 1) hx hb dX12_isSeen_26 (by decide) ?_
      refine lv_goto (tgt := 31) hx hb dX12_isSeen_27 (by decide) ?_
      exact W.zret (v := 1) hx hb hr (by decide) (fun tt9 ht hW => ⟨⟨(1 : Int32), (), rfl, trivial, trivial⟩, hS.F ht⟩) hS.2.2 dX12_isSeen_31 hlocks

theorem lf_X12_areTwo_3 (h : Nat) (q : Nat → Nat) (im : Nat → Int32) (md : Nat) (n1 : Int32) (n2 : Int32) (hf_md : im 50 = nI md) (hmd : md ≤ 4) (c_2 : ¬ ((0 : Int32) ≤ n1 ∧ n1 ≤ nI md - 1)) : ((0 : Int32) = 0) ∨ (∃ f g : Nat, f < md ∧ g < md ∧ n1 = nI f ∧ n2 = nI g ∧ (0 : Int32) = 1) := by
  first | exact Or.inl rfl | exact Or.inr ⟨tn1, tn2, tn1a, tn2a, tn1e, tn2e, rfl⟩
theorem lf_X12_areTwo_4 (h : Nat) (q : Nat → Nat) (im : Nat → Int32) (md : Nat) (n1 : Int32) (n2 : Int32) (hf_md : im 50 = nI md) (hmd : md ≤ 4) (c_2 : (0 : Int32) ≤ n1 ∧ n1 ≤ nI md - 1) : md < 2 ^ 31 := by
  omega
theorem lf_X12_areTwo_7 (h : Nat) (q : Nat → Nat) (im : Nat → Int32) (md : Nat) (n1 : Int32) (n2 : Int32) (hf_md : im 50 = nI md) (hmd : md ≤ 4) (c_2 : (0 : Int32) ≤ n1 ∧ n1 ≤ nI md - 1) (tn1 : Nat) (tn1a : tn1 < md) (tn1e : n1 = nI tn1) (c_6 : ¬ ((0 : Int32) ≤ n2 ∧ n2 ≤ nI md - 1)) : ((0 : Int32) = 0) ∨ (∃ f g : Nat, f < md ∧ g < md ∧ n1 = nI f ∧ n2 = nI g ∧ (0 : Int32) = 1) := by
  first | exact Or.inl rfl | exact Or.inr ⟨tn1, tn2, tn1a, tn2a, tn1e, tn2e, rfl⟩
theorem lf_X12_areTwo_8 (h : Nat) (q : Nat → Nat) (im : Nat → Int32) (md : Nat) (n1 : Int32) (n2 : Int32) (hf_md : im 50 = nI md) (hmd : md ≤ 4) (c_2 : (0 : Int32) ≤ n1 ∧ n1 ≤ nI md - 1) (tn1 : Nat) (tn1a : tn1 < md) (tn1e : n1 = nI tn1) (c_6 : (0 : Int32) ≤ n2 ∧ n2 ≤ nI md - 1) : md < 2 ^ 31 := by
  omega
theorem lf_X12_areTwo_11 (h : Nat) (q : Nat → Nat) (im : Nat → Int32) (md : Nat) (n1 : Int32) (n2 : Int32) (hf_md : im 50 = nI md) (hmd : md ≤ 4) (c_2 : (0 : Int32) ≤ n1 ∧ n1 ≤ nI md - 1) (tn1 : Nat) (tn1a : tn1 < md) (tn1e : n1 = nI tn1) (c_6 : (0 : Int32) ≤ n2 ∧ n2 ≤ nI md - 1) (tn2 : Nat) (tn2a : tn2 < md) (tn2e : n2 = nI tn2) (c_9 : nI tn1 = nI tn2) : tn1 = tn2 := by
  exact (nI_eq (a := tn1) (b := tn2) (by omega) (by omega)).mp c_9
theorem lf_X12_areTwo_12 (h : Nat) (q : Nat → Nat) (im : Nat → Int32) (md : Nat) (n1 : Int32) (n2 : Int32) (hf_md : im 50 = nI md) (hmd : md ≤ 4) (c_2 : (0 : Int32) ≤ n1 ∧ n1 ≤ nI md - 1) (tn1 : Nat) (tn1a : tn1 < md) (tn1e : n1 = nI tn1) (c_6 : (0 : Int32) ≤ n2 ∧ n2 ≤ nI md - 1) (tn2 : Nat) (tn2a : tn2 < md) (tn2e : n2 = nI tn2) (c_9 : nI tn1 = nI tn2) (n_10 : tn1 = tn2) : ((0 : Int32) = 0) ∨ (∃ f g : Nat, f < md ∧ g < md ∧ n1 = nI f ∧ n2 = nI g ∧ (0 : Int32) = 1) := by
  first | exact Or.inl rfl | exact Or.inr ⟨tn1, tn2, tn1a, tn2a, tn1e, tn2e, rfl⟩
theorem lf_X12_areTwo_14 (h : Nat) (q : Nat → Nat) (im : Nat → Int32) (md : Nat) (n1 : Int32) (n2 : Int32) (hf_md : im 50 = nI md) (hmd : md ≤ 4) (c_2 : (0 : Int32) ≤ n1 ∧ n1 ≤ nI md - 1) (tn1 : Nat) (tn1a : tn1 < md) (tn1e : n1 = nI tn1) (c_6 : (0 : Int32) ≤ n2 ∧ n2 ≤ nI md - 1) (tn2 : Nat) (tn2a : tn2 < md) (tn2e : n2 = nI tn2) (c_9 : ¬ nI tn1 = nI tn2) : tn1 ≠ tn2 := by
  exact fun q => c_9 ((nI_eq (a := tn1) (b := tn2) (by omega) (by omega)).mpr q)
theorem lf_X12_areTwo_15 (h : Nat) (q : Nat → Nat) (im : Nat → Int32) (md : Nat) (n1 : Int32) (n2 : Int32) (hf_md : im 50 = nI md) (hmd : md ≤ 4) (c_2 : (0 : Int32) ≤ n1 ∧ n1 ≤ nI md - 1) (tn1 : Nat) (tn1a : tn1 < md) (tn1e : n1 = nI tn1) (c_6 : (0 : Int32) ≤ n2 ∧ n2 ≤ nI md - 1) (tn2 : Nat) (tn2a : tn2 < md) (tn2e : n2 = nI tn2) (c_9 : ¬ nI tn1 = nI tn2) (n_13 : tn1 ≠ tn2) : ((1 : Int32) = 0) ∨ (∃ f g : Nat, f < md ∧ g < md ∧ n1 = nI f ∧ n2 = nI g ∧ (1 : Int32) = 1) := by
  first | exact Or.inl rfl | exact Or.inr ⟨tn1, tn2, tn1a, tn2a, tn1e, tn2e, rfl⟩
set_option maxHeartbeats 4000000 in
set_option maxRecDepth 100000 in
theorem c_X12_areTwo (l : Launch) (D : va_G) (cI cB cZ cJ : ClassId) (tx : List (ClassId × FieldType)) (h : Nat) (q : Nat → Nat) (im : Nat → Int32) (md : Nat) (n1 : Int32) (n2 : Int32) (hf_md : im 50 = nI md) (hmd : md ≤ 4) : RdI l D cI cB cZ cJ tx yX12_areTwo cX12_areTwo 3 (some .boolean) 2 [.ref h, .int n1, .int n2] [(h, .inr (12, mG q im))] (fun r => (r = 0) ∨ (∃ f g : Nat, f < md ∧ g < md ∧ n1 = nI f ∧ n2 = nI g ∧ r = 1)) := by
  refine rdi_of2 (by decide) (Nat.le_of_ble_eq_true rfl) ?_
  intro p e s m below meth c A ls H locs hC hK hP hD hA hS hl
  obtain ⟨hx, hb, hr, hml, hown, hts, hlocks, hin⟩ := hC
  have hown : s.vm.findClass RX12 = some m.cls := hown
  have hl : lv_has ls 3 [(0, .ref h), (1, .int n1), (2, .int n2)] := hl
  refine lv_aload_n hx hb dX12_areTwo_0 rfl (lv_at hl 0 rfl) ?_
  refine lv_iload_n hx hb dX12_areTwo_1 rfl (lv_at hl 1 rfl) ?_
  refine eRi (va_runV (As := [.int n1]) (rest := []) ⟨hx, hb, hml, hown, hts⟩ (c_X12_isDrawing l D cI cB cZ cJ tx h q im md n1 hf_md H.size) (zV hts k_1841 v_X12_isDrawing ⟨Nat.le_of_ble_eq_true rfl, Nat.le_of_ble_eq_true rfl⟩) (pV (px1 hK hP 0 rfl) hK hP 0 rfl rfl) rfl rfl hl.1 rfl (lv_room (Nat.le_of_ble_eq_true rfl)) dX12_areTwo_2 ⟨Nat.le_of_ble_eq_true rfl, Nat.le_of_ble_eq_true rfl⟩) hP hS hA (fun r_1 H locs wr_1 hP hS => ?_)
  subst wr_1
  refine lv_bi_eq (tgt := 25) hx hb dX12_areTwo_5 (by decide) (fun c_2 => ?_) (fun c_2 => ?_)
  · refine lv_iconst (v := 0) hx hb dX12_areTwo_25 (by decide) ?_
    exact W.zret (v := 0) hx hb hr (by decide) (fun tt9 ht hW => ⟨⟨(0 : Int32), (), rfl, (lf_X12_areTwo_3 h q im md n1 n2 hf_md hmd c_2), trivial⟩, hS.F ht⟩) hS.2.2 dX12_areTwo_26 hlocks
  · obtain ⟨tn1, tn1a, tn1e⟩ := of_within (lf_X12_areTwo_4 h q im md n1 n2 hf_md hmd c_2) c_2
    subst tn1e
    refine lv_aload_n hx hb dX12_areTwo_8 rfl (lv_at hl 0 rfl) ?_
    refine lv_iload_n hx hb dX12_areTwo_9 rfl (lv_at hl 2 rfl) ?_
    refine eRi (va_runV (As := [.int n2]) (rest := []) ⟨hx, hb, hml, hown, hts⟩ (c_X12_isDrawing l D cI cB cZ cJ tx h q im md n2 hf_md H.size) (zV hts k_1841 v_X12_isDrawing ⟨Nat.le_of_ble_eq_true rfl, Nat.le_of_ble_eq_true rfl⟩) (pV (px1 hK hP 0 rfl) hK hP 0 rfl rfl) rfl rfl hl.1 rfl (lv_room (Nat.le_of_ble_eq_true rfl)) dX12_areTwo_10 ⟨Nat.le_of_ble_eq_true rfl, Nat.le_of_ble_eq_true rfl⟩) hP hS hA (fun r_5 H locs wr_5 hP hS => ?_)
    subst wr_5
    refine lv_bi_eq (tgt := 25) hx hb dX12_areTwo_13 (by decide) (fun c_6 => ?_) (fun c_6 => ?_)
    · refine lv_iconst (v := 0) hx hb dX12_areTwo_25 (by decide) ?_
      exact W.zret (v := 0) hx hb hr (by decide) (fun tt9 ht hW => ⟨⟨(0 : Int32), (), rfl, (lf_X12_areTwo_7 h q im md (nI tn1) n2 hf_md hmd c_2 tn1 tn1a rfl c_6), trivial⟩, hS.F ht⟩) hS.2.2 dX12_areTwo_26 hlocks
    · obtain ⟨tn2, tn2a, tn2e⟩ := of_within (lf_X12_areTwo_8 h q im md (nI tn1) n2 hf_md hmd c_2 tn1 tn1a rfl c_6) c_6
      subst tn2e
      refine lv_iload_n hx hb dX12_areTwo_16 rfl (lv_at hl 1 rfl) ?_
      refine lv_iload_n hx hb dX12_areTwo_17 rfl (lv_at hl 2 rfl) ?_
      refine lv_icmp_eq (tgt := 25) hx hb dX12_areTwo_18 (by decide) (fun c_9 => ?_) (fun c_9 => ?_)
      · have n_10 : tn1 = tn2 := (lf_X12_areTwo_11 h q im md (nI tn1) (nI tn2) hf_md hmd c_2 tn1 tn1a rfl c_6 tn2 tn2a rfl c_9)
        refine lv_iconst (v := 0) hx hb dX12_areTwo_25 (by decide) ?_
        exact W.zret (v := 0) hx hb hr (by decide) (fun tt9 ht hW => ⟨⟨(0 : Int32), (), rfl, (lf_X12_areTwo_12 h q im md (nI tn1) (nI tn2) hf_md hmd c_2 tn1 tn1a rfl c_6 tn2 tn2a rfl c_9 n_10), trivial⟩, hS.F ht⟩) hS.2.2 dX12_areTwo_26 hlocks
      · have n_13 : tn1 ≠ tn2 := (lf_X12_areTwo_14 h q im md (nI tn1) (nI tn2) hf_md hmd c_2 tn1 tn1a rfl c_6 tn2 tn2a rfl c_9)
        refine lv_iconst (v := 1) hx hb dX12_areTwo_21 (by decide) ?_
        refine lv_goto (tgt := 26) hx hb dX12_areTwo_22 (by decide) ?_
        exact W.zret (v := 1) hx hb hr (by decide) (fun tt9 ht hW => ⟨⟨(1 : Int32), (), rfl, (lf_X12_areTwo_15 h q im md (nI tn1) (nI tn2) hf_md hmd c_2 tn1 tn1a rfl c_6 tn2 tn2a rfl c_9 n_13), trivial⟩, hS.F ht⟩) hS.2.2 dX12_areTwo_26 hlocks

theorem lf_X12_draws_5 (h : Nat) (q : Nat → Nat) (im : Nat → Int32) (x_1 : Int32) (ex_1 : x_1 = 25173 * im 5) (x_2 : Int32) (ex_2 : x_2 = x_1 + 13849) (x_3 : Int32) (i_4 : Nat → Int32) (hsb : SB [5] im i_4) (hi_4_5 : i_4 5 = x_3) : (SB [5] im (i_4 : Nat → Int32)) := by
  repeat' apply And.intro
  all_goals first | assumption | omega | rfl | trivial
set_option maxHeartbeats 4000000 in
set_option maxRecDepth 100000 in
theorem c_X12_draws (l : Launch) (D : va_G) (cI cB cZ cJ : ClassId) (tx : List (ClassId × FieldType)) (h : Nat) (q : Nat → Nat) (im : Nat → Int32) : WrV l D cI cB cZ cJ tx yX12_draws cX12_draws 1 none 0 0 0 [.ref h] [(h, .inr (12, mG q im))] (fun (v : (Nat → Int32)) => (SB [5] im v)) (fun v => [(h, .inr (12, mG q v))]) := by
  refine wrv_of2 (by decide) (Nat.le_of_ble_eq_true rfl) ?_
  intro p e s m below meth c A ls H locs hC hK hP hD hA hS hl
  obtain ⟨hx, hb, hr, hml, hown, hts, hlocks, hin⟩ := hC
  have hown : s.vm.findClass RX12 = some m.cls := hown
  have hl : lv_has ls 1 [(0, .ref h)] := hl
  have hsb : SB [5] im im := SB.rf
  refine lv_aload_n hx hb dX12_draws_0 rfl (lv_at hl 0 rfl) ?_
  refine lv_sipush (v := 25173) hx hb dX12_draws_1 (by decide) ?_
  refine lv_aload_n hx hb dX12_draws_4 rfl (lv_at hl 0 rfl) ?_
  refine va_get (D := D) (ci := 12) (v := .int (im 5)) (C := RX12) (T := TX12) (N := 81) hx hb hts inT_X12 hown hK.1 hP 0 rfl rfl 5 (by decide) (hts _ k_1358) (fun _ h9 => h9) rfl dX12_draws_5 ?_
  refine lv_imul hx hb dX12_draws_8 ?_
  refine lv_topi (fun x_1 ex_1 => ?_)
  refine lv_sipush (v := 13849) hx hb dX12_draws_9 (by decide) ?_
  refine lv_iadd hx hb dX12_draws_12 ?_
  refine lv_topi (fun x_2 ex_2 => ?_)
  refine lv_ldc (v := 65536) hx hb hown (hts _ k_1787) dX12_draws_13 ?_
  refine lv_irem hx hb dX12_draws_15 (by decide) ?_
  refine lv_topi (fun x_3 _ => ?_)
  refine va_put (D := D) (ci := 12) (v := .int x_3) (ty := .int) (C := RX12) (T := TX12) (N := 81) hx hb hts inT_X12 tyX12 tyX12_ok nmX12 hown hK.1 hP hD hS 0 rfl rfl 5 (by decide) (hts _ k_1358) (fun _ h9 => h9) rfl (by decide +kernel) rfl rfl (Nat.le_of_ble_eq_true rfl) dX12_draws_16 (fun H locs hP hD hS => ?_)
  obtain ⟨i_4, ei_4⟩ : ∃ z : Nat → Int32, z = upd im 5 x_3 := ⟨_, rfl⟩
  have hi_4_5 : i_4 5 = x_3 := by rw [ei_4]; rfl
  have hsb := SB.put hsb ei_4 (by decide)
  have hP : va_P D vwCl [(h, .inr (12, mG q i_4))] H := by rw [ei_4, ← mG_5]; exact hP
  have hD : va_D A [(h, .inr (12, mG q i_4))] := by rw [ei_4, ← mG_5]; exact hD
  exact W.vret hx hb hr (fun tt9 ht hW => ⟨⟨((i_4 : Nat → Int32)), rfl, (lf_X12_draws_5 h q im x_1 ex_1 x_2 ex_2 x_3 i_4 hsb hi_4_5), ⟨by rw [ht]; exact hP, hD⟩⟩, hS.F ht⟩) hS.2.2 dX12_draws_19 hlocks

theorem lf_X12_changes_3 (h : Nat) (q : Nat → Nat) (im : Nat → Int32) (m_isKnown : Nat → Int32) (j1 : Nat) (m_isKnown_j1 : Nat → Int32) (k2 : Nat) (hj2 : j1 ≤ 8) (hk2 : 8 < j1 + (k2 + 1)) (c_1 : 8 ≤ nI j1) : 8 ≤ j1 := by
  exact (nI_leI (a := 8) (b := j1) (by omega) (by omega)).mp c_1
theorem lf_X12_changes_5 (h : Nat) (q : Nat → Nat) (im : Nat → Int32) (m_isKnown : Nat → Int32) (j1 : Nat) (m_isKnown_j1 : Nat → Int32) (k2 : Nat) (hj2 : j1 ≤ 8) (hk2 : 8 < j1 + (k2 + 1)) (c_1 : ¬ 8 ≤ nI j1) : j1 < 8 := by
  exact Nat.lt_of_not_le (fun q => c_1 ((nI_leI (a := 8) (b := j1) (by omega) (by omega)).mpr q))
theorem lf_X12_changes_7 (h : Nat) (q : Nat → Nat) (im : Nat → Int32) (m_isKnown : Nat → Int32) (j1 : Nat) (m_isKnown_j1 : Nat → Int32) (k2 : Nat) (hj2 : j1 ≤ 8) (hk2 : 8 < j1 + (k2 + 1)) (c_1 : ¬ 8 ≤ nI j1) (n_4 : j1 < 8) : vp_in (nI j1) 8 := by
  first | exact vp_in_nI (by omega) (by decide) | (unfold vp_in; decide)
set_option maxHeartbeats 4000000 in
set_option maxRecDepth 100000 in
theorem c_X12_changes (l : Launch) (D : va_G) (cI cB cZ cJ : ClassId) (tx : List (ClassId × FieldType)) (h : Nat) (q : Nat → Nat) (im : Nat → Int32) (m_isKnown : Nat → Int32) : WrV l D cI cB cZ cJ tx yX12_changes cX12_changes 2 none 0 0 0 [.ref h] [(h, .inr (12, mG q im)), (q 66, .inl (cZ, 8, .inl m_isKnown))] (fun (v : (Nat → Int32)) => True) (fun v => [(h, .inr (12, mG q im)), (q 66, .inl (cZ, 8, .inl v))]) := by
  refine wrv_of2 (by decide) (Nat.le_of_ble_eq_true rfl) ?_
  intro p e s m below meth c A ls H locs hC hK hP hD hA hS hl
  obtain ⟨hx, hb, hr, hml, hown, hts, hlocks, hin⟩ := hC
  have hown : s.vm.findClass RX12 = some m.cls := hown
  have hl : lv_has ls 2 [(0, .ref h)] := hl
  refine lv_iconst (v := 0) hx hb dX12_changes_0 (by decide) ?_
  refine lv_istore_n (lv' := [(1, .int 0), (0, .ref h)]) hx hb dX12_changes_1 rfl hl (by decide) rfl (fun ls hl => ?_)
  have lp2 : ∀ (k2 : Nat) (j1 : Nat) (m_isKnown_j1 : Nat → Int32) (H : Heap) (locs : List Loc) (ls : Array Slot), j1 ≤ 8 → 8 < j1 + k2 → va_P D vwCl [(h, .inr (12, mG q im)), (q 66, .inl (cZ, 8, .inl m_isKnown_j1))] H → va_D A [(h, .inr (12, mG q im)), (q 66, .inl (cZ, 8, .inl m_isKnown_j1))] → va_S A s.heap H locs → lv_has ls 2 [(1, .int (nI j1)), (0, .ref h)] → W p l e (rmX 0 0 0) s m ([.ref h] : List Value).toArray below meth c H locs 0 0 (MQ below (va_Qv (fun (v : (Nat → Int32)) => True) (fun u => BX D A ((fun v => [(h, .inr (12, mG q im)), (q 66, .inl (cZ, 8, .inl v))]) u)) A) ([.ref h] : List Value).toArray s 0 0 A) (F0 m 2 ls []) := by
    intro k2
    induction k2 with
    | zero =>
      intro j1 m_isKnown_j1 H locs ls hj2 hk2  hP hD hS hl
      exact absurd hk2 (by omega)
    | succ k2 ih2 =>
      intro j1 m_isKnown_j1 H locs ls hj2 hk2  hP hD hS hl
      refine lv_iload_n hx hb dX12_changes_2 rfl (lv_at hl 0 rfl) ?_
      refine lv_bipush (v := 8) hx hb dX12_changes_3 (by decide) ?_
      refine lv_icmp_ge (tgt := 21) hx hb dX12_changes_5 (by decide) (fun c_1 => ?_) (fun c_1 => ?_)
      · have n_2 : 8 ≤ j1 := (lf_X12_changes_3 h q im m_isKnown j1 m_isKnown_j1 k2 hj2 hk2 c_1)
        exact W.vret hx hb hr (fun tt9 ht hW => ⟨⟨((m_isKnown_j1 : Nat → Int32)), rfl, trivial, ⟨by rw [ht]; exact hP, hD⟩⟩, hS.F ht⟩) hS.2.2 dX12_changes_21 hlocks
      · have n_4 : j1 < 8 := (lf_X12_changes_5 h q im m_isKnown j1 m_isKnown_j1 k2 hj2 hk2 c_1)
        refine lv_aload_n hx hb dX12_changes_8 rfl (lv_at hl 1 rfl) ?_
        refine va_get (D := D) (ci := 12) (v := .ref (q 66)) (C := RX12) (T := TX12) (N := 81) hx hb hts inT_X12 hown hK.1 hP 0 rfl rfl 66 (by decide) (hts _ k_1419) (fun _ h9 => h9) rfl dX12_changes_9 ?_
        refine lv_iload_n hx hb dX12_changes_12 rfl (lv_at hl 0 rfl) ?_
        refine lv_iconst (v := 0) hx hb dX12_changes_13 (by decide) ?_
        refine st_z hx hb hK hP hD hS 1 rfl (lf_X12_changes_7 h q im m_isKnown j1 m_isKnown_j1 k2 hj2 hk2 c_1 n_4) dX12_changes_14 (fun f_6 H locs hP hD hS => ?_)
        have hP : va_P D vwCl [(h, .inr (12, mG q im)), (q 66, .inl (cZ, 8, .inl f_6))] H := hP
        have hD : va_D A [(h, .inr (12, mG q im)), (q 66, .inl (cZ, 8, .inl f_6))] := hD
        refine lv_iinc (v := nI (j1 + 1)) (lv' := [(1, .int (nI (j1 + 1))), (0, .ref h)]) hx hb dX12_changes_15 hl (k := 0) rfl (nI_1 j1) (by decide) rfl (fun ls hl => ?_)
        refine lv_goto (tgt := 2) hx hb dX12_changes_18 (by decide) ?_
        exact ih2 (j1 + 1) f_6 H locs ls (by omega) (by omega)  (hP.sub [0, 1] rfl) (hD.sub [0, 1] (by decide) rfl) hS (lv_sub hl [0, 1] rfl)
  exact lp2 (8 + 1) 0 m_isKnown H locs ls (by omega) (by omega)  (hP.sub [0, 1] rfl) (hD.sub [0, 1] (by decide) rfl) hS (lv_sub hl [0, 1] rfl)

theorem lf_X12_push_4 (h : Nat) (q : Nat → Nat) (im : Nat → Int32) (tp : Nat) (m_tape : Nat → Int32) (n1 : Int32) (hf_tp : im 1 = nI tp) (htp : tp + 4 ≤ 220) (hsb : SB [1] im im) (x_1 : Int32) (ex_1 : x_1 = n1 >>> (24 &&& 31)) (x_2 : Int32) : vp_in (nI tp) 220 := by
  first | exact vp_in_nI (by omega) (by decide) | (unfold vp_in; decide)
theorem lf_X12_push_9 (h : Nat) (q : Nat → Nat) (im : Nat → Int32) (tp : Nat) (m_tape : Nat → Int32) (n1 : Int32) (hf_tp : im 1 = nI tp) (htp : tp + 4 ≤ 220) (x_1 : Int32) (ex_1 : x_1 = n1 >>> (24 &&& 31)) (x_2 : Int32) (f_3 : Nat → Int32) (i_5 : Nat → Int32) (hsb : SB [1] im i_5) (x_6 : Int32) (ex_6 : x_6 = n1 >>> (16 &&& 31)) (x_7 : Int32) : vp_in (nI (tp + 1)) 220 := by
  first | exact vp_in_nI (by omega) (by decide) | (unfold vp_in; decide)
theorem lf_X12_push_14 (h : Nat) (q : Nat → Nat) (im : Nat → Int32) (tp : Nat) (m_tape : Nat → Int32) (n1 : Int32) (hf_tp : im 1 = nI tp) (htp : tp + 4 ≤ 220) (x_1 : Int32) (ex_1 : x_1 = n1 >>> (24 &&& 31)) (x_2 : Int32) (f_3 : Nat → Int32) (i_5 : Nat → Int32) (x_6 : Int32) (ex_6 : x_6 = n1 >>> (16 &&& 31)) (x_7 : Int32) (f_8 : Nat → Int32) (i_10 : Nat → Int32) (hsb : SB [1] im i_10) (x_11 : Int32) (ex_11 : x_11 = n1 >>> (8 &&& 31)) (x_12 : Int32) : vp_in (nI ((tp + 1) + 1)) 220 := by
  first | exact vp_in_nI (by omega) (by decide) | (unfold vp_in; decide)
theorem lf_X12_push_19 (h : Nat) (q : Nat → Nat) (im : Nat → Int32) (tp : Nat) (m_tape : Nat → Int32) (n1 : Int32) (hf_tp : im 1 = nI tp) (htp : tp + 4 ≤ 220) (x_1 : Int32) (ex_1 : x_1 = n1 >>> (24 &&& 31)) (x_2 : Int32) (f_3 : Nat → Int32) (i_5 : Nat → Int32) (x_6 : Int32) (ex_6 : x_6 = n1 >>> (16 &&& 31)) (x_7 : Int32) (f_8 : Nat → Int32) (i_10 : Nat → Int32) (x_11 : Int32) (ex_11 : x_11 = n1 >>> (8 &&& 31)) (x_12 : Int32) (f_13 : Nat → Int32) (i_15 : Nat → Int32) (hsb : SB [1] im i_15) (x_16 : Int32) (ex_16 : x_16 = n1 >>> (0 &&& 31)) (x_17 : Int32) : vp_in (nI (((tp + 1) + 1) + 1)) 220 := by
  first | exact vp_in_nI (by omega) (by decide) | (unfold vp_in; decide)
theorem lf_X12_push_21 (h : Nat) (q : Nat → Nat) (im : Nat → Int32) (tp : Nat) (m_tape : Nat → Int32) (n1 : Int32) (hf_tp : im 1 = nI tp) (htp : tp + 4 ≤ 220) (x_1 : Int32) (ex_1 : x_1 = n1 >>> (24 &&& 31)) (x_2 : Int32) (f_3 : Nat → Int32) (i_5 : Nat → Int32) (x_6 : Int32) (ex_6 : x_6 = n1 >>> (16 &&& 31)) (x_7 : Int32) (f_8 : Nat → Int32) (i_10 : Nat → Int32) (x_11 : Int32) (ex_11 : x_11 = n1 >>> (8 &&& 31)) (x_12 : Int32) (f_13 : Nat → Int32) (i_15 : Nat → Int32) (x_16 : Int32) (ex_16 : x_16 = n1 >>> (0 &&& 31)) (x_17 : Int32) (f_18 : Nat → Int32) (i_20 : Nat → Int32) (hsb : SB [1] im i_20) (hi_20_1 : i_20 1 = nI ((((tp + 1) + 1) + 1) + 1)) : (SB [1] im (i_20 : Nat → Int32)) ∧ ((i_20 : Nat → Int32) 1 = nI (((((tp + 1) + 1) + 1) + 1) : Nat)) ∧ ((((((tp + 1) + 1) + 1) + 1) : Nat) = tp + 4) := by
  repeat' apply And.intro
  all_goals first | assumption | omega | rfl | trivial
set_option maxHeartbeats 4000000 in
set_option maxRecDepth 100000 in
theorem c_X12_push (l : Launch) (D : va_G) (cI cB cZ cJ : ClassId) (tx : List (ClassId × FieldType)) (h : Nat) (q : Nat → Nat) (im : Nat → Int32) (tp : Nat) (m_tape : Nat → Int32) (n1 : Int32) (hf_tp : im 1 = nI tp) (htp : tp + 4 ≤ 220) : WrV l D cI cB cZ cJ tx yX12_push cX12_push 3 none 0 0 0 [.ref h, .int n1] [(h, .inr (12, mG q im)), (q 0, .inl (cB, 220, .inl m_tape))] (fun (v : (Nat → Int32) × (Nat) × (Nat → Int32)) => (SB [1] im v.1) ∧ (v.1 1 = nI v.2.1) ∧ (v.2.1 = tp + 4)) (fun v => [(h, .inr (12, mG q v.1)), (q 0, .inl (cB, 220, .inl v.2.2))]) := by
  refine wrv_of2 (by decide) (Nat.le_of_ble_eq_true rfl) ?_
  intro p e s m below meth c A ls H locs hC hK hP hD hA hS hl
  obtain ⟨hx, hb, hr, hml, hown, hts, hlocks, hin⟩ := hC
  have hown : s.vm.findClass RX12 = some m.cls := hown
  have hl : lv_has ls 3 [(0, .ref h), (1, .int n1)] := hl
  have hsb : SB [1] im im := SB.rf
  refine lv_bipush (v := 24) hx hb dX12_push_0 (by decide) ?_
  refine lv_istore_n (lv' := [(2, .int 24), (0, .ref h), (1, .int n1)]) hx hb dX12_push_2 rfl hl (by decide) rfl (fun ls hl => ?_)
  refine lv_iload_n hx hb dX12_push_3 rfl (lv_at hl 0 rfl) ?_
  refine lv_if_lt (tgt := 36) hx hb dX12_push_4 (by decide) (fun c => absurd c (by decide)) (fun _ => ?_)
  refine lv_aload_n hx hb dX12_push_7 rfl (lv_at hl 1 rfl) ?_
  refine va_get (D := D) (ci := 12) (v := .ref (q 0)) (C := RX12) (T := TX12) (N := 81) hx hb hts inT_X12 hown hK.1 hP 0 rfl rfl 0 (by decide) (hts _ k_1353) (fun _ h9 => h9) rfl dX12_push_8 ?_
  refine lv_aload_n hx hb dX12_push_11 rfl (lv_at hl 1 rfl) ?_
  refine va_get (D := D) (ci := 12) (v := .int (im 1)) (C := RX12) (T := TX12) (N := 81) hx hb hts inT_X12 hown hK.1 hP 0 rfl rfl 1 (by decide) (hts _ k_1354) (fun _ h9 => h9) rfl dX12_push_12 ?_
  refine lv_topv (y := nI tp) hf_tp ?_
  refine lv_iload_n hx hb dX12_push_15 rfl (lv_at hl 2 rfl) ?_
  refine lv_iload_n hx hb dX12_push_16 rfl (lv_at hl 0 rfl) ?_
  refine lv_ishr hx hb dX12_push_17 ?_
  refine lv_topi (fun x_1 ex_1 => ?_)
  refine lv_i2b hx hb dX12_push_18 rfl ?_
  refine lv_topi (fun x_2 _ => ?_)
  refine st_b hx hb hK hP hD hS 1 rfl (lf_X12_push_4 h q im tp m_tape n1 hf_tp htp hsb x_1 ex_1 x_2) dX12_push_19 (fun f_3 H locs hP hD hS => ?_)
  have hP : va_P D vwCl [(h, .inr (12, mG q im)), (q 0, .inl (cB, 220, .inl f_3))] H := hP
  have hD : va_D A [(h, .inr (12, mG q im)), (q 0, .inl (cB, 220, .inl f_3))] := hD
  refine lv_aload_n hx hb dX12_push_20 rfl (lv_at hl 1 rfl) ?_
  refine lv_dup hx hb dX12_push_21 rfl ?_
  refine va_get (D := D) (ci := 12) (v := .int (im 1)) (C := RX12) (T := TX12) (N := 81) hx hb hts inT_X12 hown hK.1 hP 0 rfl rfl 1 (by decide) (hts _ k_1354) (fun _ h9 => h9) rfl dX12_push_22 ?_
  refine lv_topv (y := nI tp) hf_tp ?_
  refine lv_iconst (v := 1) hx hb dX12_push_25 (by decide) ?_
  refine lv_iadd hx hb dX12_push_26 ?_
  refine lv_topv (y := nI (tp + 1)) (nI_add tp 1) ?_
  refine va_put (D := D) (ci := 12) (v := .int (nI (tp + 1))) (ty := .int) (C := RX12) (T := TX12) (N := 81) hx hb hts inT_X12 tyX12 tyX12_ok nmX12 hown hK.1 hP hD hS 0 rfl rfl 1 (by decide) (hts _ k_1354) (fun _ h9 => h9) rfl (by decide +kernel) rfl rfl (Nat.le_of_ble_eq_true rfl) dX12_push_27 (fun H locs hP hD hS => ?_)
  obtain ⟨i_5, ei_5⟩ : ∃ z : Nat → Int32, z = upd im 1 (nI (tp + 1)) := ⟨_, rfl⟩
  have hi_5_1 : i_5 1 = nI (tp + 1) := by rw [ei_5]; rfl
  have hsb := SB.put hsb ei_5 (by decide)
  have hP : va_P D vwCl [(h, .inr (12, mG q i_5)), (q 0, .inl (cB, 220, .inl f_3))] H := by rw [ei_5, ← mG_1]; exact hP
  have hD : va_D A [(h, .inr (12, mG q i_5)), (q 0, .inl (cB, 220, .inl f_3))] := by rw [ei_5, ← mG_1]; exact hD
  refine lv_iinc (v := 16) (lv' := [(2, .int 16), (0, .ref h), (1, .int n1)]) hx hb dX12_push_30 hl (k := 0) rfl (by decide) (by decide) rfl (fun ls hl => ?_)
  refine lv_goto (tgt := 3) hx hb dX12_push_33 (by decide) ?_
  refine lv_iload_n hx hb dX12_push_3 rfl (lv_at hl 0 rfl) ?_
  refine lv_if_lt (tgt := 36) hx hb dX12_push_4 (by decide) (fun c => absurd c (by decide)) (fun _ => ?_)
  refine lv_aload_n hx hb dX12_push_7 rfl (lv_at hl 1 rfl) ?_
  refine va_get (D := D) (ci := 12) (v := .ref (q 0)) (C := RX12) (T := TX12) (N := 81) hx hb hts inT_X12 hown hK.1 hP 0 rfl rfl 0 (by decide) (hts _ k_1353) (fun _ h9 => h9) rfl dX12_push_8 ?_
  refine lv_aload_n hx hb dX12_push_11 rfl (lv_at hl 1 rfl) ?_
  refine va_get (D := D) (ci := 12) (v := .int (i_5 1)) (C := RX12) (T := TX12) (N := 81) hx hb hts inT_X12 hown hK.1 hP 0 rfl rfl 1 (by decide) (hts _ k_1354) (fun _ h9 => h9) rfl dX12_push_12 ?_
  refine lv_topv (y := nI (tp + 1)) hi_5_1 ?_
  refine lv_iload_n hx hb dX12_push_15 rfl (lv_at hl 2 rfl) ?_
  refine lv_iload_n hx hb dX12_push_16 rfl (lv_at hl 0 rfl) ?_
  refine lv_ishr hx hb dX12_push_17 ?_
  refine lv_topi (fun x_6 ex_6 => ?_)
  refine lv_i2b hx hb dX12_push_18 rfl ?_
  refine lv_topi (fun x_7 _ => ?_)
  refine st_b hx hb hK hP hD hS 1 rfl (lf_X12_push_9 h q im tp m_tape n1 hf_tp htp x_1 ex_1 x_2 f_3 i_5 hsb x_6 ex_6 x_7) dX12_push_19 (fun f_8 H locs hP hD hS => ?_)
  have hP : va_P D vwCl [(h, .inr (12, mG q i_5)), (q 0, .inl (cB, 220, .inl f_8))] H := hP
  have hD : va_D A [(h, .inr (12, mG q i_5)), (q 0, .inl (cB, 220, .inl f_8))] := hD
  refine lv_aload_n hx hb dX12_push_20 rfl (lv_at hl 1 rfl) ?_
  refine lv_dup hx hb dX12_push_21 rfl ?_
  refine va_get (D := D) (ci := 12) (v := .int (i_5 1)) (C := RX12) (T := TX12) (N := 81) hx hb hts inT_X12 hown hK.1 hP 0 rfl rfl 1 (by decide) (hts _ k_1354) (fun _ h9 => h9) rfl dX12_push_22 ?_
  refine lv_topv (y := nI (tp + 1)) hi_5_1 ?_
  refine lv_iconst (v := 1) hx hb dX12_push_25 (by decide) ?_
  refine lv_iadd hx hb dX12_push_26 ?_
  refine lv_topv (y := nI ((tp + 1) + 1)) (nI_add (tp + 1) 1) ?_
  refine va_put (D := D) (ci := 12) (v := .int (nI ((tp + 1) + 1))) (ty := .int) (C := RX12) (T := TX12) (N := 81) hx hb hts inT_X12 tyX12 tyX12_ok nmX12 hown hK.1 hP hD hS 0 rfl rfl 1 (by decide) (hts _ k_1354) (fun _ h9 => h9) rfl (by decide +kernel) rfl rfl (Nat.le_of_ble_eq_true rfl) dX12_push_27 (fun H locs hP hD hS => ?_)
  obtain ⟨i_10, ei_10⟩ : ∃ z : Nat → Int32, z = upd i_5 1 (nI ((tp + 1) + 1)) := ⟨_, rfl⟩
  have hi_10_1 : i_10 1 = nI ((tp + 1) + 1) := by rw [ei_10]; rfl
  have hsb := SB.put hsb ei_10 (by decide)
  have hP : va_P D vwCl [(h, .inr (12, mG q i_10)), (q 0, .inl (cB, 220, .inl f_8))] H := by rw [ei_10, ← mG_1]; exact hP
  have hD : va_D A [(h, .inr (12, mG q i_10)), (q 0, .inl (cB, 220, .inl f_8))] := by rw [ei_10, ← mG_1]; exact hD
  refine lv_iinc (v := 8) (lv' := [(2, .int 8), (0, .ref h), (1, .int n1)]) hx hb dX12_push_30 hl (k := 0) rfl (by decide) (by decide) rfl (fun ls hl => ?_)
  refine lv_goto (tgt := 3) hx hb dX12_push_33 (by decide) ?_
  refine lv_iload_n hx hb dX12_push_3 rfl (lv_at hl 0 rfl) ?_
  refine lv_if_lt (tgt := 36) hx hb dX12_push_4 (by decide) (fun c => absurd c (by decide)) (fun _ => ?_)
  refine lv_aload_n hx hb dX12_push_7 rfl (lv_at hl 1 rfl) ?_
  refine va_get (D := D) (ci := 12) (v := .ref (q 0)) (C := RX12) (T := TX12) (N := 81) hx hb hts inT_X12 hown hK.1 hP 0 rfl rfl 0 (by decide) (hts _ k_1353) (fun _ h9 => h9) rfl dX12_push_8 ?_
  refine lv_aload_n hx hb dX12_push_11 rfl (lv_at hl 1 rfl) ?_
  refine va_get (D := D) (ci := 12) (v := .int (i_10 1)) (C := RX12) (T := TX12) (N := 81) hx hb hts inT_X12 hown hK.1 hP 0 rfl rfl 1 (by decide) (hts _ k_1354) (fun _ h9 => h9) rfl dX12_push_12 ?_
  refine lv_topv (y := nI ((tp + 1) + 1)) hi_10_1 ?_
  refine lv_iload_n hx hb dX12_push_15 rfl (lv_at hl 2 rfl) ?_
  refine lv_iload_n hx hb dX12_push_16 rfl (lv_at hl 0 rfl) ?_
  refine lv_ishr hx hb dX12_push_17 ?_
  refine lv_topi (fun x_11 ex_11 => ?_)
  refine lv_i2b hx hb dX12_push_18 rfl ?_
  refine lv_topi (fun x_12 _ => ?_)
  refine st_b hx hb hK hP hD hS 1 rfl (lf_X12_push_14 h q im tp m_tape n1 hf_tp htp x_1 ex_1 x_2 f_3 i_5 x_6 ex_6 x_7 f_8 i_10 hsb x_11 ex_11 x_12) dX12_push_19 (fun f_13 H locs hP hD hS => ?_)
  have hP : va_P D vwCl [(h, .inr (12, mG q i_10)), (q 0, .inl (cB, 220, .inl f_13))] H := hP
  have hD : va_D A [(h, .inr (12, mG q i_10)), (q 0, .inl (cB, 220, .inl f_13))] := hD
  refine lv_aload_n hx hb dX12_push_20 rfl (lv_at hl 1 rfl) ?_
  refine lv_dup hx hb dX12_push_21 rfl ?_
  refine va_get (D := D) (ci := 12) (v := .int (i_10 1)) (C := RX12) (T := TX12) (N := 81) hx hb hts inT_X12 hown hK.1 hP 0 rfl rfl 1 (by decide) (hts _ k_1354) (fun _ h9 => h9) rfl dX12_push_22 ?_
  refine lv_topv (y := nI ((tp + 1) + 1)) hi_10_1 ?_
  refine lv_iconst (v := 1) hx hb dX12_push_25 (by decide) ?_
  refine lv_iadd hx hb dX12_push_26 ?_
  refine lv_topv (y := nI (((tp + 1) + 1) + 1)) (nI_add ((tp + 1) + 1) 1) ?_
  refine va_put (D := D) (ci := 12) (v := .int (nI (((tp + 1) + 1) + 1))) (ty := .int) (C := RX12) (T := TX12) (N := 81) hx hb hts inT_X12 tyX12 tyX12_ok nmX12 hown hK.1 hP hD hS 0 rfl rfl 1 (by decide) (hts _ k_1354) (fun _ h9 => h9) rfl (by decide +kernel) rfl rfl (Nat.le_of_ble_eq_true rfl) dX12_push_27 (fun H locs hP hD hS => ?_)
  obtain ⟨i_15, ei_15⟩ : ∃ z : Nat → Int32, z = upd i_10 1 (nI (((tp + 1) + 1) + 1)) := ⟨_, rfl⟩
  have hi_15_1 : i_15 1 = nI (((tp + 1) + 1) + 1) := by rw [ei_15]; rfl
  have hsb := SB.put hsb ei_15 (by decide)
  have hP : va_P D vwCl [(h, .inr (12, mG q i_15)), (q 0, .inl (cB, 220, .inl f_13))] H := by rw [ei_15, ← mG_1]; exact hP
  have hD : va_D A [(h, .inr (12, mG q i_15)), (q 0, .inl (cB, 220, .inl f_13))] := by rw [ei_15, ← mG_1]; exact hD
  refine lv_iinc (v := 0) (lv' := [(2, .int 0), (0, .ref h), (1, .int n1)]) hx hb dX12_push_30 hl (k := 0) rfl (by decide) (by decide) rfl (fun ls hl => ?_)
  refine lv_goto (tgt := 3) hx hb dX12_push_33 (by decide) ?_
  refine lv_iload_n hx hb dX12_push_3 rfl (lv_at hl 0 rfl) ?_
  refine lv_if_lt (tgt := 36) hx hb dX12_push_4 (by decide) (fun c => absurd c (by decide)) (fun _ => ?_)
  refine lv_aload_n hx hb dX12_push_7 rfl (lv_at hl 1 rfl) ?_
  refine va_get (D := D) (ci := 12) (v := .ref (q 0)) (C := RX12) (T := TX12) (N := 81) hx hb hts inT_X12 hown hK.1 hP 0 rfl rfl 0 (by decide) (hts _ k_1353) (fun _ h9 => h9) rfl dX12_push_8 ?_
  refine lv_aload_n hx hb dX12_push_11 rfl (lv_at hl 1 rfl) ?_
  refine va_get (D := D) (ci := 12) (v := .int (i_15 1)) (C := RX12) (T := TX12) (N := 81) hx hb hts inT_X12 hown hK.1 hP 0 rfl rfl 1 (by decide) (hts _ k_1354) (fun _ h9 => h9) rfl dX12_push_12 ?_
  refine lv_topv (y := nI (((tp + 1) + 1) + 1)) hi_15_1 ?_
  refine lv_iload_n hx hb dX12_push_15 rfl (lv_at hl 2 rfl) ?_
  refine lv_iload_n hx hb dX12_push_16 rfl (lv_at hl 0 rfl) ?_
  refine lv_ishr hx hb dX12_push_17 ?_
  refine lv_topi (fun x_16 ex_16 => ?_)
  refine lv_i2b hx hb dX12_push_18 rfl ?_
  refine lv_topi (fun x_17 _ => ?_)
  refine st_b hx hb hK hP hD hS 1 rfl (lf_X12_push_19 h q im tp m_tape n1 hf_tp htp x_1 ex_1 x_2 f_3 i_5 x_6 ex_6 x_7 f_8 i_10 x_11 ex_11 x_12 f_13 i_15 hsb x_16 ex_16 x_17) dX12_push_19 (fun f_18 H locs hP hD hS => ?_)
  have hP : va_P D vwCl [(h, .inr (12, mG q i_15)), (q 0, .inl (cB, 220, .inl f_18))] H := hP
  have hD : va_D A [(h, .inr (12, mG q i_15)), (q 0, .inl (cB, 220, .inl f_18))] := hD
  refine lv_aload_n hx hb dX12_push_20 rfl (lv_at hl 1 rfl) ?_
  refine lv_dup hx hb dX12_push_21 rfl ?_
  refine va_get (D := D) (ci := 12) (v := .int (i_15 1)) (C := RX12) (T := TX12) (N := 81) hx hb hts inT_X12 hown hK.1 hP 0 rfl rfl 1 (by decide) (hts _ k_1354) (fun _ h9 => h9) rfl dX12_push_22 ?_
  refine lv_topv (y := nI (((tp + 1) + 1) + 1)) hi_15_1 ?_
  refine lv_iconst (v := 1) hx hb dX12_push_25 (by decide) ?_
  refine lv_iadd hx hb dX12_push_26 ?_
  refine lv_topv (y := nI ((((tp + 1) + 1) + 1) + 1)) (nI_add (((tp + 1) + 1) + 1) 1) ?_
  refine va_put (D := D) (ci := 12) (v := .int (nI ((((tp + 1) + 1) + 1) + 1))) (ty := .int) (C := RX12) (T := TX12) (N := 81) hx hb hts inT_X12 tyX12 tyX12_ok nmX12 hown hK.1 hP hD hS 0 rfl rfl 1 (by decide) (hts _ k_1354) (fun _ h9 => h9) rfl (by decide +kernel) rfl rfl (Nat.le_of_ble_eq_true rfl) dX12_push_27 (fun H locs hP hD hS => ?_)
  obtain ⟨i_20, ei_20⟩ : ∃ z : Nat → Int32, z = upd i_15 1 (nI ((((tp + 1) + 1) + 1) + 1)) := ⟨_, rfl⟩
  have hi_20_1 : i_20 1 = nI ((((tp + 1) + 1) + 1) + 1) := by rw [ei_20]; rfl
  have hsb := SB.put hsb ei_20 (by decide)
  have hP : va_P D vwCl [(h, .inr (12, mG q i_20)), (q 0, .inl (cB, 220, .inl f_18))] H := by rw [ei_20, ← mG_1]; exact hP
  have hD : va_D A [(h, .inr (12, mG q i_20)), (q 0, .inl (cB, 220, .inl f_18))] := by rw [ei_20, ← mG_1]; exact hD
  refine lv_iinc (v := (-8)) (lv' := [(2, .int (-8)), (0, .ref h), (1, .int n1)]) hx hb dX12_push_30 hl (k := 0) rfl (by decide) (by decide) rfl (fun ls hl => ?_)
  refine lv_goto (tgt := 3) hx hb dX12_push_33 (by decide) ?_
  refine lv_iload_n hx hb dX12_push_3 rfl (lv_at hl 0 rfl) ?_
  refine lv_if_lt (tgt := 36) hx hb dX12_push_4 (by decide) (fun _ => ?_) (fun c => absurd c (by decide))
  exact W.vret hx hb hr (fun tt9 ht hW => ⟨⟨((i_20 : Nat → Int32), (((((tp + 1) + 1) + 1) + 1) : Nat), (f_18 : Nat → Int32)), rfl, (lf_X12_push_21 h q im tp m_tape n1 hf_tp htp x_1 ex_1 x_2 f_3 i_5 x_6 ex_6 x_7 f_8 i_10 x_11 ex_11 x_12 f_13 i_15 x_16 ex_16 x_17 f_18 i_20 hsb hi_20_1), ⟨by rw [ht]; exact hP, hD⟩⟩, hS.F ht⟩) hS.2.2 dX12_push_36 hlocks

theorem lf_X12_feed_3 (h : Nat) (q : Nat → Nat) (im : Nat → Int32) (tp : Nat) (m_tape : Nat → Int32) (n1 : Int32) (n2 : Int32) (n3 : Int32) (n4 : Int32) (n5 : Int32) (hf_tp : im 1 = nI tp) (htp : tp ≤ 220) (hsb : SB [1] im im) (c_1 : nI (tp + 20) ≤ 220) : (tp + 20) ≤ 220 := by
  exact (nI_leI (a := (tp + 20)) (b := 220) (by omega) (by omega)).mp c_1
theorem lf_X12_feed_4 (h : Nat) (q : Nat → Nat) (im : Nat → Int32) (tp : Nat) (m_tape : Nat → Int32) (n1 : Int32) (n2 : Int32) (n3 : Int32) (n4 : Int32) (n5 : Int32) (hf_tp : im 1 = nI tp) (htp : tp ≤ 220) (hsb : SB [1] im im) (c_1 : nI (tp + 20) ≤ 220) (n_2 : (tp + 20) ≤ 220) : tp + 4 ≤ 220 := by
  first | assumption | omega | decide | rfl
theorem lf_X12_feed_7 (h : Nat) (q : Nat → Nat) (im : Nat → Int32) (tp : Nat) (m_tape : Nat → Int32) (n1 : Int32) (n2 : Int32) (n3 : Int32) (n4 : Int32) (n5 : Int32) (hf_tp : im 1 = nI tp) (htp : tp ≤ 220) (c_1 : nI (tp + 20) ≤ 220) (n_2 : (tp + 20) ≤ 220) (im_6 : Nat → Int32) (tp_6 : Nat) (m_tape_6 : Nat → Int32) (hz_6_0 : SB [1] im im_6) (hz_6_1 : im_6 1 = nI tp_6) (hz_6_2 : tp_6 = tp + 4) (hsb : SB [1] im im_6) : tp_6 + 4 ≤ 220 := by
  first | assumption | omega | decide | rfl
theorem lf_X12_feed_10 (h : Nat) (q : Nat → Nat) (im : Nat → Int32) (tp : Nat) (m_tape : Nat → Int32) (n1 : Int32) (n2 : Int32) (n3 : Int32) (n4 : Int32) (n5 : Int32) (hf_tp : im 1 = nI tp) (htp : tp ≤ 220) (c_1 : nI (tp + 20) ≤ 220) (n_2 : (tp + 20) ≤ 220) (im_6 : Nat → Int32) (tp_6 : Nat) (m_tape_6 : Nat → Int32) (hz_6_0 : SB [1] im im_6) (hz_6_1 : im_6 1 = nI tp_6) (hz_6_2 : tp_6 = tp + 4) (im_9 : Nat → Int32) (tp_9 : Nat) (m_tape_9 : Nat → Int32) (hz_9_0 : SB [1] im_6 im_9) (hz_9_1 : im_9 1 = nI tp_9) (hz_9_2 : tp_9 = tp_6 + 4) (hsb : SB [1] im im_9) : tp_9 + 4 ≤ 220 := by
  first | assumption | omega | decide | rfl
theorem lf_X12_feed_13 (h : Nat) (q : Nat → Nat) (im : Nat → Int32) (tp : Nat) (m_tape : Nat → Int32) (n1 : Int32) (n2 : Int32) (n3 : Int32) (n4 : Int32) (n5 : Int32) (hf_tp : im 1 = nI tp) (htp : tp ≤ 220) (c_1 : nI (tp + 20) ≤ 220) (n_2 : (tp + 20) ≤ 220) (im_6 : Nat → Int32) (tp_6 : Nat) (m_tape_6 : Nat → Int32) (hz_6_0 : SB [1] im im_6) (hz_6_1 : im_6 1 = nI tp_6) (hz_6_2 : tp_6 = tp + 4) (im_9 : Nat → Int32) (tp_9 : Nat) (m_tape_9 : Nat → Int32) (hz_9_0 : SB [1] im_6 im_9) (hz_9_1 : im_9 1 = nI tp_9) (hz_9_2 : tp_9 = tp_6 + 4) (im_12 : Nat → Int32) (tp_12 : Nat) (m_tape_12 : Nat → Int32) (hz_12_0 : SB [1] im_9 im_12) (hz_12_1 : im_12 1 = nI tp_12) (hz_12_2 : tp_12 = tp_9 + 4) (hsb : SB [1] im im_12) : tp_12 + 4 ≤ 220 := by
  first | assumption | omega | decide | rfl
theorem lf_X12_feed_16 (h : Nat) (q : Nat → Nat) (im : Nat → Int32) (tp : Nat) (m_tape : Nat → Int32) (n1 : Int32) (n2 : Int32) (n3 : Int32) (n4 : Int32) (n5 : Int32) (hf_tp : im 1 = nI tp) (htp : tp ≤ 220) (c_1 : nI (tp + 20) ≤ 220) (n_2 : (tp + 20) ≤ 220) (im_6 : Nat → Int32) (tp_6 : Nat) (m_tape_6 : Nat → Int32) (hz_6_0 : SB [1] im im_6) (hz_6_1 : im_6 1 = nI tp_6) (hz_6_2 : tp_6 = tp + 4) (im_9 : Nat → Int32) (tp_9 : Nat) (m_tape_9 : Nat → Int32) (hz_9_0 : SB [1] im_6 im_9) (hz_9_1 : im_9 1 = nI tp_9) (hz_9_2 : tp_9 = tp_6 + 4) (im_12 : Nat → Int32) (tp_12 : Nat) (m_tape_12 : Nat → Int32) (hz_12_0 : SB [1] im_9 im_12) (hz_12_1 : im_12 1 = nI tp_12) (hz_12_2 : tp_12 = tp_9 + 4) (im_15 : Nat → Int32) (tp_15 : Nat) (m_tape_15 : Nat → Int32) (hz_15_0 : SB [1] im_12 im_15) (hz_15_1 : im_15 1 = nI tp_15) (hz_15_2 : tp_15 = tp_12 + 4) (hsb : SB [1] im im_15) : tp_15 + 4 ≤ 220 := by
  first | assumption | omega | decide | rfl
theorem lf_X12_feed_19 (h : Nat) (q : Nat → Nat) (im : Nat → Int32) (tp : Nat) (m_tape : Nat → Int32) (n1 : Int32) (n2 : Int32) (n3 : Int32) (n4 : Int32) (n5 : Int32) (hf_tp : im 1 = nI tp) (htp : tp ≤ 220) (c_1 : nI (tp + 20) ≤ 220) (n_2 : (tp + 20) ≤ 220) (im_6 : Nat → Int32) (tp_6 : Nat) (m_tape_6 : Nat → Int32) (hz_6_0 : SB [1] im im_6) (hz_6_1 : im_6 1 = nI tp_6) (hz_6_2 : tp_6 = tp + 4) (im_9 : Nat → Int32) (tp_9 : Nat) (m_tape_9 : Nat → Int32) (hz_9_0 : SB [1] im_6 im_9) (hz_9_1 : im_9 1 = nI tp_9) (hz_9_2 : tp_9 = tp_6 + 4) (im_12 : Nat → Int32) (tp_12 : Nat) (m_tape_12 : Nat → Int32) (hz_12_0 : SB [1] im_9 im_12) (hz_12_1 : im_12 1 = nI tp_12) (hz_12_2 : tp_12 = tp_9 + 4) (im_15 : Nat → Int32) (tp_15 : Nat) (m_tape_15 : Nat → Int32) (hz_15_0 : SB [1] im_12 im_15) (hz_15_1 : im_15 1 = nI tp_15) (hz_15_2 : tp_15 = tp_12 + 4) (im_18 : Nat → Int32) (tp_18 : Nat) (m_tape_18 : Nat → Int32) (hz_18_0 : SB [1] im_15 im_18) (hz_18_1 : im_18 1 = nI tp_18) (hz_18_2 : tp_18 = tp_15 + 4) (hsb : SB [1] im im_18) : (SB [1] im (im_18 : Nat → Int32)) ∧ ((im_18 : Nat → Int32) 1 = nI (tp_18 : Nat)) ∧ ((tp_18 : Nat) ≤ 220) := by
  repeat' apply And.intro
  all_goals first | assumption | omega | rfl | trivial
theorem lf_X12_feed_21 (h : Nat) (q : Nat → Nat) (im : Nat → Int32) (tp : Nat) (m_tape : Nat → Int32) (n1 : Int32) (n2 : Int32) (n3 : Int32) (n4 : Int32) (n5 : Int32) (hf_tp : im 1 = nI tp) (htp : tp ≤ 220) (hsb : SB [1] im im) (c_1 : ¬ nI (tp + 20) ≤ 220) : 220 < (tp + 20) := by
  exact Nat.lt_of_not_le (fun q => c_1 ((nI_leI (a := (tp + 20)) (b := 220) (by omega) (by omega)).mpr q))
theorem lf_X12_feed_22 (h : Nat) (q : Nat → Nat) (im : Nat → Int32) (tp : Nat) (m_tape : Nat → Int32) (n1 : Int32) (n2 : Int32) (n3 : Int32) (n4 : Int32) (n5 : Int32) (hf_tp : im 1 = nI tp) (htp : tp ≤ 220) (hsb : SB [1] im im) (c_1 : ¬ nI (tp + 20) ≤ 220) (n_20 : 220 < (tp + 20)) : (SB [1] im (im : Nat → Int32)) ∧ ((im : Nat → Int32) 1 = nI (tp : Nat)) ∧ ((tp : Nat) ≤ 220) := by
  repeat' apply And.intro
  all_goals first | assumption | omega | rfl | trivial
set_option maxHeartbeats 4000000 in
set_option maxRecDepth 100000 in
theorem c_X12_feed (l : Launch) (D : va_G) (cI cB cZ cJ : ClassId) (tx : List (ClassId × FieldType)) (h : Nat) (q : Nat → Nat) (im : Nat → Int32) (tp : Nat) (m_tape : Nat → Int32) (n1 : Int32) (n2 : Int32) (n3 : Int32) (n4 : Int32) (n5 : Int32) (hf_tp : im 1 = nI tp) (htp : tp ≤ 220) : WrI l D cI cB cZ cJ tx yX12_feed cX12_feed 6 (some .int) 1 0 0 [.ref h, .int n1, .int n2, .int n3, .int n4, .int n5] [(h, .inr (12, mG q im)), (q 0, .inl (cB, 220, .inl m_tape))] (fun (r : Int32) (v : (Nat → Int32) × (Nat) × (Nat → Int32)) => (SB [1] im v.1) ∧ (v.1 1 = nI v.2.1) ∧ (v.2.1 ≤ 220)) (fun v => [(h, .inr (12, mG q v.1)), (q 0, .inl (cB, 220, .inl v.2.2))]) := by
  refine wri_of2 (by decide) (Nat.le_of_ble_eq_true rfl) ?_
  intro p e s m below meth c A ls H locs hC hK hP hD hA hS hl
  obtain ⟨hx, hb, hr, hml, hown, hts, hlocks, hin⟩ := hC
  have hown : s.vm.findClass RX12 = some m.cls := hown
  have hl : lv_has ls 6 [(0, .ref h), (1, .int n1), (2, .int n2), (3, .int n3), (4, .int n4), (5, .int n5)] := hl
  have hsb : SB [1] im im := SB.rf
  refine lv_aload_n hx hb dX12_feed_0 rfl (lv_at hl 0 rfl) ?_
  refine va_get (D := D) (ci := 12) (v := .int (im 1)) (C := RX12) (T := TX12) (N := 81) hx hb hts inT_X12 hown hK.1 hP 0 rfl rfl 1 (by decide) (hts _ k_1354) (fun _ h9 => h9) rfl dX12_feed_1 ?_
  refine lv_topv (y := nI tp) hf_tp ?_
  refine lv_bipush (v := 20) hx hb dX12_feed_4 (by decide) ?_
  refine lv_iadd hx hb dX12_feed_6 ?_
  refine lv_topv (y := nI (tp + 20)) (nI_add tp 20) ?_
  refine lv_sipush (v := 220) hx hb dX12_feed_7 (by decide) ?_
  refine lv_icmp_le (tgt := 15) hx hb dX12_feed_10 (by decide) (fun c_1 => ?_) (fun c_1 => ?_)
  · have n_2 : (tp + 20) ≤ 220 := (lf_X12_feed_3 h q im tp m_tape n1 n2 n3 n4 n5 hf_tp htp hsb c_1)
    refine lv_aload_n hx hb dX12_feed_15 rfl (lv_at hl 0 rfl) ?_
    refine lv_iload_n hx hb dX12_feed_16 rfl (lv_at hl 1 rfl) ?_
    refine eWv (wr := []) (va_runV (As := [.int n1]) (rest := []) ⟨hx, hb, hml, hown, hts⟩ (c_X12_push l D cI cB cZ cJ tx h q im tp m_tape n1 hf_tp (lf_X12_feed_4 h q im tp m_tape n1 n2 n3 n4 n5 hf_tp htp hsb c_1 n_2) H.size) (zV hts k_1614 v_X12_push ⟨Nat.le_of_ble_eq_true rfl, Nat.le_of_ble_eq_true rfl⟩) (pV (pxS hK hP hD [0, 1] (by decide) rfl) hK hP 0 rfl rfl) rfl rfl hl.1 rfl (lv_room (Nat.le_of_ble_eq_true rfl)) dX12_feed_17 ⟨Nat.le_of_ble_eq_true rfl, Nat.le_of_ble_eq_true rfl⟩) hP hD hS hA [0, 1] [] rfl rfl (by decide) (by decide) (fun u_6 H locs wr_5 hP hD hS => ?_)
    obtain ⟨im_6, tp_6, m_tape_6⟩ := u_6
    have hz_6_0 : SB [1] im im_6 := wr_5.1
    have hz_6_1 : im_6 1 = nI tp_6 := wr_5.2.1
    have hz_6_2 : tp_6 = tp + 4 := wr_5.2.2
    have hsb := SB.step hsb hz_6_0 (by decide)
    have hP : va_P D vwCl [(h, .inr (12, mG q im_6)), (q 0, .inl (cB, 220, .inl m_tape_6))] H := hP
    have hD : va_D A [(h, .inr (12, mG q im_6)), (q 0, .inl (cB, 220, .inl m_tape_6))] := hD
    refine lv_aload_n hx hb dX12_feed_20 rfl (lv_at hl 0 rfl) ?_
    refine lv_iload_n hx hb dX12_feed_21 rfl (lv_at hl 2 rfl) ?_
    refine eWv (wr := []) (va_runV (As := [.int n2]) (rest := []) ⟨hx, hb, hml, hown, hts⟩ (c_X12_push l D cI cB cZ cJ tx h q im_6 tp_6 m_tape_6 n2 hz_6_1 (lf_X12_feed_7 h q im tp m_tape n1 n2 n3 n4 n5 hf_tp htp c_1 n_2 im_6 tp_6 m_tape_6 hz_6_0 hz_6_1 hz_6_2 hsb) H.size) (zV hts k_1614 v_X12_push ⟨Nat.le_of_ble_eq_true rfl, Nat.le_of_ble_eq_true rfl⟩) (pV (pxS hK hP hD [0, 1] (by decide) rfl) hK hP 0 rfl rfl) rfl rfl hl.1 rfl (lv_room (Nat.le_of_ble_eq_true rfl)) dX12_feed_22 ⟨Nat.le_of_ble_eq_true rfl, Nat.le_of_ble_eq_true rfl⟩) hP hD hS hA [0, 1] [] rfl rfl (by decide) (by decide) (fun u_9 H locs wr_8 hP hD hS => ?_)
    obtain ⟨im_9, tp_9, m_tape_9⟩ := u_9
    have hz_9_0 : SB [1] im_6 im_9 := wr_8.1
    have hz_9_1 : im_9 1 = nI tp_9 := wr_8.2.1
    have hz_9_2 : tp_9 = tp_6 + 4 := wr_8.2.2
    have hsb := SB.step hsb hz_9_0 (by decide)
    have hP : va_P D vwCl [(h, .inr (12, mG q im_9)), (q 0, .inl (cB, 220, .inl m_tape_9))] H := hP
    have hD : va_D A [(h, .inr (12, mG q im_9)), (q 0, .inl (cB, 220, .inl m_tape_9))] := hD
    refine lv_aload_n hx hb dX12_feed_25 rfl (lv_at hl 0 rfl) ?_
    refine lv_iload_n hx hb dX12_feed_26 rfl (lv_at hl 3 rfl) ?_
    refine eWv (wr := []) (va_runV (As := [.int n3]) (rest := []) ⟨hx, hb, hml, hown, hts⟩ (c_X12_push l D cI cB cZ cJ tx h q im_9 tp_9 m_tape_9 n3 hz_9_1 (lf_X12_feed_10 h q im tp m_tape n1 n2 n3 n4 n5 hf_tp htp c_1 n_2 im_6 tp_6 m_tape_6 hz_6_0 hz_6_1 hz_6_2 im_9 tp_9 m_tape_9 hz_9_0 hz_9_1 hz_9_2 hsb) H.size) (zV hts k_1614 v_X12_push ⟨Nat.le_of_ble_eq_true rfl, Nat.le_of_ble_eq_true rfl⟩) (pV (pxS hK hP hD [0, 1] (by decide) rfl) hK hP 0 rfl rfl) rfl rfl hl.1 rfl (lv_room (Nat.le_of_ble_eq_true rfl)) dX12_feed_27 ⟨Nat.le_of_ble_eq_true rfl, Nat.le_of_ble_eq_true rfl⟩) hP hD hS hA [0, 1] [] rfl rfl (by decide) (by decide) (fun u_12 H locs wr_11 hP hD hS => ?_)
    obtain ⟨im_12, tp_12, m_tape_12⟩ := u_12
    have hz_12_0 : SB [1] im_9 im_12 := wr_11.1
    have hz_12_1 : im_12 1 = nI tp_12 := wr_11.2.1
    have hz_12_2 : tp_12 = tp_9 + 4 := wr_11.2.2
    have hsb := SB.step hsb hz_12_0 (by decide)
    have hP : va_P D vwCl [(h, .inr (12, mG q im_12)), (q 0, .inl (cB, 220, .inl m_tape_12))] H := hP
    have hD : va_D A [(h, .inr (12, mG q im_12)), (q 0, .inl (cB, 220, .inl m_tape_12))] := hD
    refine lv_aload_n hx hb dX12_feed_30 rfl (lv_at hl 0 rfl) ?_
    refine lv_iload hx hb dX12_feed_31 (lv_at hl 4 rfl) ?_
    refine eWv (wr := []) (va_runV (As := [.int n4]) (rest := []) ⟨hx, hb, hml, hown, hts⟩ (c_X12_push l D cI cB cZ cJ tx h q im_12 tp_12 m_tape_12 n4 hz_12_1 (lf_X12_feed_13 h q im tp m_tape n1 n2 n3 n4 n5 hf_tp htp c_1 n_2 im_6 tp_6 m_tape_6 hz_6_0 hz_6_1 hz_6_2 im_9 tp_9 m_tape_9 hz_9_0 hz_9_1 hz_9_2 im_12 tp_12 m_tape_12 hz_12_0 hz_12_1 hz_12_2 hsb) H.size) (zV hts k_1614 v_X12_push ⟨Nat.le_of_ble_eq_true rfl, Nat.le_of_ble_eq_true rfl⟩) (pV (pxS hK hP hD [0, 1] (by decide) rfl) hK hP 0 rfl rfl) rfl rfl hl.1 rfl (lv_room (Nat.le_of_ble_eq_true rfl)) dX12_feed_33 ⟨Nat.le_of_ble_eq_true rfl, Nat.le_of_ble_eq_true rfl⟩) hP hD hS hA [0, 1] [] rfl rfl (by decide) (by decide) (fun u_15 H locs wr_14 hP hD hS => ?_)
    obtain ⟨im_15, tp_15, m_tape_15⟩ := u_15
    have hz_15_0 : SB [1] im_12 im_15 := wr_14.1
    have hz_15_1 : im_15 1 = nI tp_15 := wr_14.2.1
    have hz_15_2 : tp_15 = tp_12 + 4 := wr_14.2.2
    have hsb := SB.step hsb hz_15_0 (by decide)
    have hP : va_P D vwCl [(h, .inr (12, mG q im_15)), (q 0, .inl (cB, 220, .inl m_tape_15))] H := hP
    have hD : va_D A [(h, .inr (12, mG q im_15)), (q 0, .inl (cB, 220, .inl m_tape_15))] := hD
    refine lv_aload_n hx hb dX12_feed_36 rfl (lv_at hl 0 rfl) ?_
    refine lv_iload hx hb dX12_feed_37 (lv_at hl 5 rfl) ?_
    refine eWv (wr := []) (va_runV (As := [.int n5]) (rest := []) ⟨hx, hb, hml, hown, hts⟩ (c_X12_push l D cI cB cZ cJ tx h q im_15 tp_15 m_tape_15 n5 hz_15_1 (lf_X12_feed_16 h q im tp m_tape n1 n2 n3 n4 n5 hf_tp htp c_1 n_2 im_6 tp_6 m_tape_6 hz_6_0 hz_6_1 hz_6_2 im_9 tp_9 m_tape_9 hz_9_0 hz_9_1 hz_9_2 im_12 tp_12 m_tape_12 hz_12_0 hz_12_1 hz_12_2 im_15 tp_15 m_tape_15 hz_15_0 hz_15_1 hz_15_2 hsb) H.size) (zV hts k_1614 v_X12_push ⟨Nat.le_of_ble_eq_true rfl, Nat.le_of_ble_eq_true rfl⟩) (pV (pxS hK hP hD [0, 1] (by decide) rfl) hK hP 0 rfl rfl) rfl rfl hl.1 rfl (lv_room (Nat.le_of_ble_eq_true rfl)) dX12_feed_39 ⟨Nat.le_of_ble_eq_true rfl, Nat.le_of_ble_eq_true rfl⟩) hP hD hS hA [0, 1] [] rfl rfl (by decide) (by decide) (fun u_18 H locs wr_17 hP hD hS => ?_)
    obtain ⟨im_18, tp_18, m_tape_18⟩ := u_18
    have hz_18_0 : SB [1] im_15 im_18 := wr_17.1
    have hz_18_1 : im_18 1 = nI tp_18 := wr_17.2.1
    have hz_18_2 : tp_18 = tp_15 + 4 := wr_17.2.2
    have hsb := SB.step hsb hz_18_0 (by decide)
    have hP : va_P D vwCl [(h, .inr (12, mG q im_18)), (q 0, .inl (cB, 220, .inl m_tape_18))] H := hP
    have hD : va_D A [(h, .inr (12, mG q im_18)), (q 0, .inl (cB, 220, .inl m_tape_18))] := hD
    refine lv_aload_n hx hb dX12_feed_42 rfl (lv_at hl 0 rfl) ?_
    refine va_get (D := D) (ci := 12) (v := .int (im_18 1)) (C := RX12) (T := TX12) (N := 81) hx hb hts inT_X12 hown hK.1 hP 0 rfl rfl 1 (by decide) (hts _ k_1354) (fun _ h9 => h9) rfl dX12_feed_43 ?_
    refine lv_topv (y := nI tp_18) hz_18_1 ?_
    exact W.iret (v := nI tp_18) hx hb hr (fun tt9 ht hW => ⟨⟨(nI tp_18 : Int32), ((im_18 : Nat → Int32), (tp_18 : Nat), (m_tape_18 : Nat → Int32)), rfl, (lf_X12_feed_19 h q im tp m_tape n1 n2 n3 n4 n5 hf_tp htp c_1 n_2 im_6 tp_6 m_tape_6 hz_6_0 hz_6_1 hz_6_2 im_9 tp_9 m_tape_9 hz_9_0 hz_9_1 hz_9_2 im_12 tp_12 m_tape_12 hz_12_0 hz_12_1 hz_12_2 im_15 tp_15 m_tape_15 hz_15_0 hz_15_1 hz_15_2 im_18 tp_18 m_tape_18 hz_18_0 hz_18_1 hz_18_2 hsb), ⟨by rw [ht]; exact hP, hD⟩⟩, hS.F ht⟩) hS.2.2 dX12_feed_46 hlocks
  · have n_20 : 220 < (tp + 20) := (lf_X12_feed_21 h q im tp m_tape n1 n2 n3 n4 n5 hf_tp htp hsb c_1)
    refine lv_iconst (v := (-1)) hx hb dX12_feed_13 (by decide) ?_
    exact W.iret (v := (-1)) hx hb hr (fun tt9 ht hW => ⟨⟨((-1) : Int32), ((im : Nat → Int32), (tp : Nat), (m_tape : Nat → Int32)), rfl, (lf_X12_feed_22 h q im tp m_tape n1 n2 n3 n4 n5 hf_tp htp hsb c_1 n_20), ⟨by rw [ht]; exact hP, hD⟩⟩, hS.F ht⟩) hS.2.2 dX12_feed_14 hlocks

theorem lf_X12_pitch_4 (h : Nat) (q : Nat → Nat) (im : Nat → Int32) (n1 : Int32) (c_2 : (1 : Int32) ≤ n1 ∧ n1 ≤ 1000) (tn1 : Nat) (tn1a : 1 ≤ tn1) (tn1b : tn1 ≤ 1000) (tn1e : n1 = nI tn1) (i_3 : Nat → Int32) (hsb : SB [4] im i_3) (hi_3_4 : i_3 4 = nI tn1) : (SB [4] im (i_3 : Nat → Int32)) := by
  repeat' apply And.intro
  all_goals first | assumption | omega | rfl | trivial
theorem lf_X12_pitch_5 (h : Nat) (q : Nat → Nat) (im : Nat → Int32) (n1 : Int32) (hsb : SB [4] im im) (c_2 : ¬ ((1 : Int32) ≤ n1 ∧ n1 ≤ 1000)) : (SB [4] im (im : Nat → Int32)) := by
  repeat' apply And.intro
  all_goals first | assumption | omega | rfl | trivial
set_option maxHeartbeats 4000000 in
set_option maxRecDepth 100000 in
theorem c_X12_pitch (l : Launch) (D : va_G) (cI cB cZ cJ : ClassId) (tx : List (ClassId × FieldType)) (h : Nat) (q : Nat → Nat) (im : Nat → Int32) (n1 : Int32) : WrI l D cI cB cZ cJ tx yX12_pitch cX12_pitch 2 (some .boolean) 1 0 0 [.ref h, .int n1] [(h, .inr (12, mG q im))] (fun (r : Int32) (v : (Nat → Int32)) => (SB [4] im v)) (fun v => [(h, .inr (12, mG q v))]) := by
  refine wri_of2 (by decide) (Nat.le_of_ble_eq_true rfl) ?_
  intro p e s m below meth c A ls H locs hC hK hP hD hA hS hl
  obtain ⟨hx, hb, hr, hml, hown, hts, hlocks, hin⟩ := hC
  have hown : s.vm.findClass RX12 = some m.cls := hown
  have hl : lv_has ls 2 [(0, .ref h), (1, .int n1)] := hl
  have hsb : SB [4] im im := SB.rf
  refine lv_iload_n hx hb dX12_pitch_0 rfl (lv_at hl 1 rfl) ?_
  refine lv_i2l (v := n1.toInt64) hx hb dX12_pitch_1 rfl ?_
  refine lv_lconst (v := 1) hx hb dX12_pitch_2 (by decide) ?_
  refine lv_ldc2 (v := 1000) hx hb hown (hts _ k_1601) dX12_pitch_3 ?_
  refine eRi (va_runS (As := [.long n1.toInt64, .long 1, .long 1000]) (rest := []) ⟨hx, hb, hml, hown, hts⟩ (c_X12_isIn l D cI cB cZ cJ tx n1.toInt64 1 1000 H.size) (zS hts k_1602 v_X12_isIn ⟨Nat.le_of_ble_eq_true rfl, Nat.le_of_ble_eq_true rfl⟩) (px0 hK) rfl rfl hl.1 rfl (lv_room (Nat.le_of_ble_eq_true rfl)) dX12_pitch_6 ⟨Nat.le_of_ble_eq_true rfl, Nat.le_of_ble_eq_true rfl⟩) hP hS hA (fun r_1 H locs wr_1 hP hS => ?_)
  have wr_1 : r_1 = bi ((1 : Int32) ≤ n1 ∧ n1 ≤ 1000) := isIn32 (lo := 1) (hi := 1000) (by decide) (by decide) wr_1
  subst wr_1
  refine lv_bi_ne (tgt := 14) hx hb dX12_pitch_9 (by decide) (fun c_2 => ?_) (fun c_2 => ?_)
  · obtain ⟨tn1, tn1a, tn1b, tn1e⟩ := of_rng 1 1000 rfl rfl c_2
    subst tn1e
    refine lv_aload_n hx hb dX12_pitch_14 rfl (lv_at hl 0 rfl) ?_
    refine lv_iload_n hx hb dX12_pitch_15 rfl (lv_at hl 1 rfl) ?_
    refine va_put (D := D) (ci := 12) (v := .int (nI tn1)) (ty := .int) (C := RX12) (T := TX12) (N := 81) hx hb hts inT_X12 tyX12 tyX12_ok nmX12 hown hK.1 hP hD hS 0 rfl rfl 4 (by decide) (hts _ k_1357) (fun _ h9 => h9) rfl (by decide +kernel) rfl rfl (Nat.le_of_ble_eq_true rfl) dX12_pitch_16 (fun H locs hP hD hS => ?_)
    obtain ⟨i_3, ei_3⟩ : ∃ z : Nat → Int32, z = upd im 4 (nI tn1) := ⟨_, rfl⟩
    have hi_3_4 : i_3 4 = nI tn1 := by rw [ei_3]; rfl
    have hsb := SB.put hsb ei_3 (by decide)
    have hP : va_P D vwCl [(h, .inr (12, mG q i_3))] H := by rw [ei_3, ← mG_4]; exact hP
    have hD : va_D A [(h, .inr (12, mG q i_3))] := by rw [ei_3, ← mG_4]; exact hD
    refine lv_iconst (v := 1) hx hb dX12_pitch_19 (by decide) ?_
    exact W.zret (v := 1) hx hb hr (by decide) (fun tt9 ht hW => ⟨⟨(1 : Int32), ((i_3 : Nat → Int32)), rfl, (lf_X12_pitch_4 h q im (nI tn1) c_2 tn1 tn1a tn1b rfl i_3 hsb hi_3_4), ⟨by rw [ht]; exact hP, hD⟩⟩, hS.F ht⟩) hS.2.2 dX12_pitch_20 hlocks
  · refine lv_iconst (v := 0) hx hb dX12_pitch_12 (by decide) ?_
    exact W.zret (v := 0) hx hb hr (by decide) (fun tt9 ht hW => ⟨⟨(0 : Int32), ((im : Nat → Int32)), rfl, (lf_X12_pitch_5 h q im n1 hsb c_2), ⟨by rw [ht]; exact hP, hD⟩⟩, hS.F ht⟩) hS.2.2 dX12_pitch_13 hlocks

theorem lf_X12_seed_4 (h : Nat) (q : Nat → Nat) (im : Nat → Int32) (n1 : Int32) (c_2 : (0 : Int32) ≤ n1 ∧ n1 ≤ 65535) (tn1 : Nat) (tn1a : 0 ≤ tn1) (tn1b : tn1 ≤ 65535) (tn1e : n1 = nI tn1) (i_3 : Nat → Int32) (hsb : SB [5] im i_3) (hi_3_5 : i_3 5 = nI tn1) : (SB [5] im (i_3 : Nat → Int32)) := by
  repeat' apply And.intro
  all_goals first | assumption | omega | rfl | trivial
theorem lf_X12_seed_5 (h : Nat) (q : Nat → Nat) (im : Nat → Int32) (n1 : Int32) (hsb : SB [5] im im) (c_2 : ¬ ((0 : Int32) ≤ n1 ∧ n1 ≤ 65535)) : (SB [5] im (im : Nat → Int32)) := by
  repeat' apply And.intro
  all_goals first | assumption | omega | rfl | trivial
set_option maxHeartbeats 4000000 in
set_option maxRecDepth 100000 in
theorem c_X12_seed (l : Launch) (D : va_G) (cI cB cZ cJ : ClassId) (tx : List (ClassId × FieldType)) (h : Nat) (q : Nat → Nat) (im : Nat → Int32) (n1 : Int32) : WrI l D cI cB cZ cJ tx yX12_seed cX12_seed 2 (some .boolean) 1 0 0 [.ref h, .int n1] [(h, .inr (12, mG q im))] (fun (r : Int32) (v : (Nat → Int32)) => (SB [5] im v)) (fun v => [(h, .inr (12, mG q v))]) := by
  refine wri_of2 (by decide) (Nat.le_of_ble_eq_true rfl) ?_
  intro p e s m below meth c A ls H locs hC hK hP hD hA hS hl
  obtain ⟨hx, hb, hr, hml, hown, hts, hlocks, hin⟩ := hC
  have hown : s.vm.findClass RX12 = some m.cls := hown
  have hl : lv_has ls 2 [(0, .ref h), (1, .int n1)] := hl
  have hsb : SB [5] im im := SB.rf
  refine lv_iload_n hx hb dX12_seed_0 rfl (lv_at hl 1 rfl) ?_
  refine lv_i2l (v := n1.toInt64) hx hb dX12_seed_1 rfl ?_
  refine lv_lconst (v := 0) hx hb dX12_seed_2 (by decide) ?_
  refine lv_ldc2 (v := 65535) hx hb hown (hts _ k_1609) dX12_seed_3 ?_
  refine eRi (va_runS (As := [.long n1.toInt64, .long 0, .long 65535]) (rest := []) ⟨hx, hb, hml, hown, hts⟩ (c_X12_isIn l D cI cB cZ cJ tx n1.toInt64 0 65535 H.size) (zS hts k_1602 v_X12_isIn ⟨Nat.le_of_ble_eq_true rfl, Nat.le_of_ble_eq_true rfl⟩) (px0 hK) rfl rfl hl.1 rfl (lv_room (Nat.le_of_ble_eq_true rfl)) dX12_seed_6 ⟨Nat.le_of_ble_eq_true rfl, Nat.le_of_ble_eq_true rfl⟩) hP hS hA (fun r_1 H locs wr_1 hP hS => ?_)
  have wr_1 : r_1 = bi ((0 : Int32) ≤ n1 ∧ n1 ≤ 65535) := isIn32 (lo := 0) (hi := 65535) (by decide) (by decide) wr_1
  subst wr_1
  refine lv_bi_ne (tgt := 14) hx hb dX12_seed_9 (by decide) (fun c_2 => ?_) (fun c_2 => ?_)
  · obtain ⟨tn1, tn1a, tn1b, tn1e⟩ := of_rng 0 65535 rfl rfl c_2
    subst tn1e
    refine lv_aload_n hx hb dX12_seed_14 rfl (lv_at hl 0 rfl) ?_
    refine lv_iload_n hx hb dX12_seed_15 rfl (lv_at hl 1 rfl) ?_
    refine va_put (D := D) (ci := 12) (v := .int (nI tn1)) (ty := .int) (C := RX12) (T := TX12) (N := 81) hx hb hts inT_X12 tyX12 tyX12_ok nmX12 hown hK.1 hP hD hS 0 rfl rfl 5 (by decide) (hts _ k_1358) (fun _ h9 => h9) rfl (by decide +kernel) rfl rfl (Nat.le_of_ble_eq_true rfl) dX12_seed_16 (fun H locs hP hD hS => ?_)
    obtain ⟨i_3, ei_3⟩ : ∃ z : Nat → Int32, z = upd im 5 (nI tn1) := ⟨_, rfl⟩
    have hi_3_5 : i_3 5 = nI tn1 := by rw [ei_3]; rfl
    have hsb := SB.put hsb ei_3 (by decide)
    have hP : va_P D vwCl [(h, .inr (12, mG q i_3))] H := by rw [ei_3, ← mG_5]; exact hP
    have hD : va_D A [(h, .inr (12, mG q i_3))] := by rw [ei_3, ← mG_5]; exact hD
    refine lv_iconst (v := 1) hx hb dX12_seed_19 (by decide) ?_
    exact W.zret (v := 1) hx hb hr (by decide) (fun tt9 ht hW => ⟨⟨(1 : Int32), ((i_3 : Nat → Int32)), rfl, (lf_X12_seed_4 h q im (nI tn1) c_2 tn1 tn1a tn1b rfl i_3 hsb hi_3_5), ⟨by rw [ht]; exact hP, hD⟩⟩, hS.F ht⟩) hS.2.2 dX12_seed_20 hlocks
  · refine lv_iconst (v := 0) hx hb dX12_seed_12 (by decide) ?_
    exact W.zret (v := 0) hx hb hr (by decide) (fun tt9 ht hW => ⟨⟨(0 : Int32), ((im : Nat → Int32)), rfl, (lf_X12_seed_5 h q im n1 hsb c_2), ⟨by rw [ht]; exact hP, hD⟩⟩, hS.F ht⟩) hS.2.2 dX12_seed_13 hlocks

theorem lf_X12_mound_6 (h : Nat) (q : Nat → Nat) (im : Nat → Int32) (m_mounds : Nat → Int32) (n1 : Int32) (n2 : Int32) (c_2 : (0 : Int32) ≤ n1 ∧ n1 ≤ 23) (tn1 : Nat) (tn1a : 0 ≤ tn1) (tn1b : tn1 ≤ 23) (tn1e : n1 = nI tn1) (c_4 : (0 : Int32) ≤ n2 ∧ n2 ≤ 1000) (tn2 : Nat) (tn2a : 0 ≤ tn2) (tn2b : tn2 ≤ 1000) (tn2e : n2 = nI tn2) : vp_in (nI tn1) 24 := by
  first | exact vp_in_nI (by omega) (by decide) | (unfold vp_in; decide)
set_option maxHeartbeats 4000000 in
set_option maxRecDepth 100000 in
theorem c_X12_mound (l : Launch) (D : va_G) (cI cB cZ cJ : ClassId) (tx : List (ClassId × FieldType)) (h : Nat) (q : Nat → Nat) (im : Nat → Int32) (m_mounds : Nat → Int32) (n1 : Int32) (n2 : Int32) : WrI l D cI cB cZ cJ tx yX12_mound cX12_mound 3 (some .boolean) 1 0 0 [.ref h, .int n1, .int n2] [(h, .inr (12, mG q im)), (q 48, .inl (cI, 24, .inl m_mounds))] (fun (r : Int32) (v : (Nat → Int32)) => True) (fun v => [(h, .inr (12, mG q im)), (q 48, .inl (cI, 24, .inl v))]) := by
  refine wri_of2 (by decide) (Nat.le_of_ble_eq_true rfl) ?_
  intro p e s m below meth c A ls H locs hC hK hP hD hA hS hl
  obtain ⟨hx, hb, hr, hml, hown, hts, hlocks, hin⟩ := hC
  have hown : s.vm.findClass RX12 = some m.cls := hown
  have hl : lv_has ls 3 [(0, .ref h), (1, .int n1), (2, .int n2)] := hl
  refine lv_iload_n hx hb dX12_mound_0 rfl (lv_at hl 1 rfl) ?_
  refine lv_i2l (v := n1.toInt64) hx hb dX12_mound_1 rfl ?_
  refine lv_lconst (v := 0) hx hb dX12_mound_2 (by decide) ?_
  refine lv_ldc2 (v := 23) hx hb hown (hts _ k_1773) dX12_mound_3 ?_
  refine eRi (va_runS (As := [.long n1.toInt64, .long 0, .long 23]) (rest := []) ⟨hx, hb, hml, hown, hts⟩ (c_X12_isIn l D cI cB cZ cJ tx n1.toInt64 0 23 H.size) (zS hts k_1602 v_X12_isIn ⟨Nat.le_of_ble_eq_true rfl, Nat.le_of_ble_eq_true rfl⟩) (px0 hK) rfl rfl hl.1 rfl (lv_room (Nat.le_of_ble_eq_true rfl)) dX12_mound_6 ⟨Nat.le_of_ble_eq_true rfl, Nat.le_of_ble_eq_true rfl⟩) hP hS hA (fun r_1 H locs wr_1 hP hS => ?_)
  have wr_1 : r_1 = bi ((0 : Int32) ≤ n1 ∧ n1 ≤ 23) := isIn32 (lo := 0) (hi := 23) (by decide) (by decide) wr_1
  subst wr_1
  refine lv_bi_eq (tgt := 24) hx hb dX12_mound_9 (by decide) (fun c_2 => ?_) (fun c_2 => ?_)
  · refine lv_iconst (v := 0) hx hb dX12_mound_24 (by decide) ?_
    exact W.zret (v := 0) hx hb hr (by decide) (fun tt9 ht hW => ⟨⟨(0 : Int32), ((m_mounds : Nat → Int32)), rfl, trivial, ⟨by rw [ht]; exact hP, hD⟩⟩, hS.F ht⟩) hS.2.2 dX12_mound_25 hlocks
  · obtain ⟨tn1, tn1a, tn1b, tn1e⟩ := of_rng 0 23 rfl rfl c_2
    subst tn1e
    refine lv_iload_n hx hb dX12_mound_12 rfl (lv_at hl 2 rfl) ?_
    refine lv_i2l (v := n2.toInt64) hx hb dX12_mound_13 rfl ?_
    refine lv_lconst (v := 0) hx hb dX12_mound_14 (by decide) ?_
    refine lv_ldc2 (v := 1000) hx hb hown (hts _ k_1601) dX12_mound_15 ?_
    refine eRi (va_runS (As := [.long n2.toInt64, .long 0, .long 1000]) (rest := []) ⟨hx, hb, hml, hown, hts⟩ (c_X12_isIn l D cI cB cZ cJ tx n2.toInt64 0 1000 H.size) (zS hts k_1602 v_X12_isIn ⟨Nat.le_of_ble_eq_true rfl, Nat.le_of_ble_eq_true rfl⟩) (px0 hK) rfl rfl hl.1 rfl (lv_room (Nat.le_of_ble_eq_true rfl)) dX12_mound_18 ⟨Nat.le_of_ble_eq_true rfl, Nat.le_of_ble_eq_true rfl⟩) hP hS hA (fun r_3 H locs wr_3 hP hS => ?_)
    have wr_3 : r_3 = bi ((0 : Int32) ≤ n2 ∧ n2 ≤ 1000) := isIn32 (lo := 0) (hi := 1000) (by decide) (by decide) wr_3
    subst wr_3
    refine lv_bi_ne (tgt := 26) hx hb dX12_mound_21 (by decide) (fun c_4 => ?_) (fun c_4 => ?_)
    · obtain ⟨tn2, tn2a, tn2b, tn2e⟩ := of_rng 0 1000 rfl rfl c_4
      subst tn2e
      refine lv_aload_n hx hb dX12_mound_26 rfl (lv_at hl 0 rfl) ?_
      refine va_get (D := D) (ci := 12) (v := .ref (q 48)) (C := RX12) (T := TX12) (N := 81) hx hb hts inT_X12 hown hK.1 hP 0 rfl rfl 48 (by decide) (hts _ k_1401) (fun _ h9 => h9) rfl dX12_mound_27 ?_
      refine lv_iload_n hx hb dX12_mound_30 rfl (lv_at hl 1 rfl) ?_
      refine lv_iload_n hx hb dX12_mound_31 rfl (lv_at hl 2 rfl) ?_
      refine st_i hx hb hK hP hD hS 1 rfl (lf_X12_mound_6 h q im m_mounds (nI tn1) (nI tn2) c_2 tn1 tn1a tn1b rfl c_4 tn2 tn2a tn2b rfl) dX12_mound_32 (fun f_5 H locs hP hD hS => ?_)
      have hP : va_P D vwCl [(h, .inr (12, mG q im)), (q 48, .inl (cI, 24, .inl f_5))] H := hP
      have hD : va_D A [(h, .inr (12, mG q im)), (q 48, .inl (cI, 24, .inl f_5))] := hD
      refine lv_iconst (v := 1) hx hb dX12_mound_33 (by decide) ?_
      exact W.zret (v := 1) hx hb hr (by decide) (fun tt9 ht hW => ⟨⟨(1 : Int32), ((f_5 : Nat → Int32)), rfl, trivial, ⟨by rw [ht]; exact hP, hD⟩⟩, hS.F ht⟩) hS.2.2 dX12_mound_34 hlocks
    · refine lv_iconst (v := 0) hx hb dX12_mound_24 (by decide) ?_
      exact W.zret (v := 0) hx hb hr (by decide) (fun tt9 ht hW => ⟨⟨(0 : Int32), ((m_mounds : Nat → Int32)), rfl, trivial, ⟨by rw [ht]; exact hP, hD⟩⟩, hS.F ht⟩) hS.2.2 dX12_mound_25 hlocks

theorem lf_X12_left_3 (h : Nat) (q : Nat → Nat) (im : Nat → Int32) (ms : Nat) (mk : Nat) (m_isGone : Nat → Int32) (hf_ms : im 2 = nI ms) (hf_mk : im 3 = nI mk) (hms : ms ≤ 24) (hmk : mk ≤ 8) (hm3 : mk = 0 ∨ 3 ≤ ms) (j1 : Nat) (w1 : Int32) (k4 : Nat) (hj4 : j1 ≤ ms) (hk4 : ms < j1 + (k4 + 1)) (c_1 : nI ms ≤ nI j1) : ms ≤ j1 := by
  exact (nI_leI (a := ms) (b := j1) (by omega) (by omega)).mp c_1
theorem lf_X12_left_5 (h : Nat) (q : Nat → Nat) (im : Nat → Int32) (ms : Nat) (mk : Nat) (m_isGone : Nat → Int32) (hf_ms : im 2 = nI ms) (hf_mk : im 3 = nI mk) (hms : ms ≤ 24) (hmk : mk ≤ 8) (hm3 : mk = 0 ∨ 3 ≤ ms) (j1 : Nat) (w1 : Int32) (k4 : Nat) (hj4 : j1 ≤ ms) (hk4 : ms < j1 + (k4 + 1)) (c_1 : ¬ nI ms ≤ nI j1) : j1 < ms := by
  exact Nat.lt_of_not_le (fun q => c_1 ((nI_leI (a := ms) (b := j1) (by omega) (by omega)).mpr q))
theorem lf_X12_left_8 (h : Nat) (q : Nat → Nat) (im : Nat → Int32) (ms : Nat) (mk : Nat) (m_isGone : Nat → Int32) (hf_ms : im 2 = nI ms) (hf_mk : im 3 = nI mk) (hms : ms ≤ 24) (hmk : mk ≤ 8) (hm3 : mk = 0 ∨ 3 ≤ ms) (j1 : Nat) (w1 : Int32) (k4 : Nat) (hj4 : j1 ≤ ms) (hk4 : ms < j1 + (k4 + 1)) (c_1 : ¬ nI ms ≤ nI j1) (n_4 : j1 < ms) (j2 : Nat) (w2 : Int32) (k14 : Nat) (hj14 : j2 ≤ mk) (hk14 : mk < j2 + (k14 + 1)) (c_6 : nI mk ≤ nI j2) : mk ≤ j2 := by
  exact (nI_leI (a := mk) (b := j2) (by omega) (by omega)).mp c_6
theorem lf_X12_left_10 (h : Nat) (q : Nat → Nat) (im : Nat → Int32) (ms : Nat) (mk : Nat) (m_isGone : Nat → Int32) (hf_ms : im 2 = nI ms) (hf_mk : im 3 = nI mk) (hms : ms ≤ 24) (hmk : mk ≤ 8) (hm3 : mk = 0 ∨ 3 ≤ ms) (j1 : Nat) (w1 : Int32) (k4 : Nat) (hj4 : j1 ≤ ms) (hk4 : ms < j1 + (k4 + 1)) (c_1 : ¬ nI ms ≤ nI j1) (n_4 : j1 < ms) (j2 : Nat) (w2 : Int32) (k14 : Nat) (hj14 : j2 ≤ mk) (hk14 : mk < j2 + (k14 + 1)) (c_6 : ¬ nI mk ≤ nI j2) : j2 < mk := by
  exact Nat.lt_of_not_le (fun q => c_6 ((nI_leI (a := mk) (b := j2) (by omega) (by omega)).mpr q))
theorem lf_X12_left_12 (h : Nat) (q : Nat → Nat) (im : Nat → Int32) (ms : Nat) (mk : Nat) (m_isGone : Nat → Int32) (hf_ms : im 2 = nI ms) (hf_mk : im 3 = nI mk) (hms : ms ≤ 24) (hmk : mk ≤ 8) (hm3 : mk = 0 ∨ 3 ≤ ms) (j1 : Nat) (w1 : Int32) (k4 : Nat) (hj4 : j1 ≤ ms) (hk4 : ms < j1 + (k4 + 1)) (c_1 : ¬ nI ms ≤ nI j1) (n_4 : j1 < ms) (j2 : Nat) (w2 : Int32) (k14 : Nat) (hj14 : j2 ≤ mk) (hk14 : mk < j2 + (k14 + 1)) (c_6 : ¬ nI mk ≤ nI j2) (n_9 : j2 < mk) : vp_in (nI (16 * j1 + 2 * j2 + 0)) 384 := by
  first | exact vp_in_nI (by omega) (by decide) | (unfold vp_in; decide)
theorem lf_X12_left_16 (h : Nat) (q : Nat → Nat) (im : Nat → Int32) (ms : Nat) (mk : Nat) (m_isGone : Nat → Int32) (hf_ms : im 2 = nI ms) (hf_mk : im 3 = nI mk) (hms : ms ≤ 24) (hmk : mk ≤ 8) (hm3 : mk = 0 ∨ 3 ≤ ms) (j1 : Nat) (w1 : Int32) (k4 : Nat) (hj4 : j1 ≤ ms) (hk4 : ms < j1 + (k4 + 1)) (c_1 : ¬ nI ms ≤ nI j1) (n_4 : j1 < ms) (j2 : Nat) (w2 : Int32) (k14 : Nat) (hj14 : j2 ≤ mk) (hk14 : mk < j2 + (k14 + 1)) (c_6 : ¬ nI mk ≤ nI j2) (n_9 : j2 < mk) (x_13 : Int32) (c_14 : x_13 = 0) : vp_in (nI (16 * j1 + 2 * j2 + 1)) 384 := by
  first | exact vp_in_nI (by omega) (by decide) | (unfold vp_in; decide)
theorem lf_X12_left_22 (h : Nat) (q : Nat → Nat) (im : Nat → Int32) (ms : Nat) (mk : Nat) (m_isGone : Nat → Int32) (hf_ms : im 2 = nI ms) (hf_mk : im 3 = nI mk) (hms : ms ≤ 24) (hmk : mk ≤ 8) (hm3 : mk = 0 ∨ 3 ≤ ms) (j1 : Nat) (w1 : Int32) (k4 : Nat) (hj4 : j1 ≤ ms) (hk4 : ms < j1 + (k4 + 1)) (c_1 : ¬ nI ms ≤ nI j1) (n_4 : j1 < ms) (j2 : Nat) (w2 : Int32) (k14 : Nat) (hj14 : j2 ≤ mk) (hk14 : mk < j2 + (k14 + 1)) (c_6 : ¬ nI mk ≤ nI j2) (n_9 : j2 < mk) (x_13 : Int32) (c_14 : ¬ x_13 = 0) : vp_in (nI (16 * j1 + 2 * j2 + 1)) 384 := by
  first | exact vp_in_nI (by omega) (by decide) | (unfold vp_in; decide)
set_option maxHeartbeats 4000000 in
set_option maxRecDepth 100000 in
theorem c_X12_left (l : Launch) (D : va_G) (cI cB cZ cJ : ClassId) (tx : List (ClassId × FieldType)) (h : Nat) (q : Nat → Nat) (im : Nat → Int32) (ms : Nat) (mk : Nat) (m_isGone : Nat → Int32) (hf_ms : im 2 = nI ms) (hf_mk : im 3 = nI mk) (hms : ms ≤ 24) (hmk : mk ≤ 8) (hm3 : mk = 0 ∨ 3 ≤ ms) : RdI l D cI cB cZ cJ tx yX12_left cX12_left 4 (some .int) 1 [.ref h] [(h, .inr (12, mG q im)), (q 46, .inl (cZ, 384, .inl m_isGone))] (fun r => True) := by
  refine rdi_of2 (by decide) (Nat.le_of_ble_eq_true rfl) ?_
  intro p e s m below meth c A ls H locs hC hK hP hD hA hS hl
  obtain ⟨hx, hb, hr, hml, hown, hts, hlocks, hin⟩ := hC
  have hown : s.vm.findClass RX12 = some m.cls := hown
  have hl : lv_has ls 4 [(0, .ref h)] := hl
  refine lv_iconst (v := 0) hx hb dX12_left_0 (by decide) ?_
  refine lv_istore_n (lv' := [(1, .int 0), (0, .ref h)]) hx hb dX12_left_1 rfl hl (by decide) rfl (fun ls hl => ?_)
  refine lv_iconst (v := 0) hx hb dX12_left_2 (by decide) ?_
  refine lv_istore_n (lv' := [(2, .int 0), (1, .int 0), (0, .ref h)]) hx hb dX12_left_3 rfl hl (by decide) rfl (fun ls hl => ?_)
  have lp4 : ∀ (k4 : Nat) (j1 : Nat) (w1 : Int32) (H : Heap) (locs : List Loc) (ls : Array Slot), j1 ≤ ms → ms < j1 + k4 → va_P D vwCl [(h, .inr (12, mG q im)), (q 46, .inl (cZ, 384, .inl m_isGone))] H → va_S A s.heap H locs → lv_has ls 4 [(2, .int (nI j1)), (1, .int w1), (0, .ref h)] → W p l e (rmX 1 0 0) s m ([.ref h] : List Value).toArray below meth c H locs 0 0 (MQ below (va_Qi (fun r (_ : Unit) => (fun r => True) r) (fun _ _ => True) A) ([.ref h] : List Value).toArray s 0 0 A) (F0 m 4 ls []) := by
    intro k4
    induction k4 with
    | zero =>
      intro j1 w1 H locs ls hj4 hk4  hP hS hl
      exact absurd hk4 (by omega)
    | succ k4 ih4 =>
      intro j1 w1 H locs ls hj4 hk4  hP hS hl
      refine lv_iload_n hx hb dX12_left_4 rfl (lv_at hl 0 rfl) ?_
      refine lv_aload_n hx hb dX12_left_5 rfl (lv_at hl 2 rfl) ?_
      refine va_get (D := D) (ci := 12) (v := .int (im 2)) (C := RX12) (T := TX12) (N := 81) hx hb hts inT_X12 hown hK.1 hP 0 rfl rfl 2 (by decide) (hts _ k_1355) (fun _ h9 => h9) rfl dX12_left_6 ?_
      refine lv_topv (y := nI ms) hf_ms ?_
      refine lv_icmp_ge (tgt := 76) hx hb dX12_left_9 (by decide) (fun c_1 => ?_) (fun c_1 => ?_)
      · have n_2 : ms ≤ j1 := (lf_X12_left_3 h q im ms mk m_isGone hf_ms hf_mk hms hmk hm3 j1 w1 k4 hj4 hk4 c_1)
        refine lv_iload_n hx hb dX12_left_76 rfl (lv_at hl 1 rfl) ?_
        exact W.iret (v := w1) hx hb hr (fun tt9 ht hW => ⟨⟨(w1 : Int32), (), rfl, trivial, trivial⟩, hS.F ht⟩) hS.2.2 dX12_left_77 hlocks
      · have n_4 : j1 < ms := (lf_X12_left_5 h q im ms mk m_isGone hf_ms hf_mk hms hmk hm3 j1 w1 k4 hj4 hk4 c_1)
        refine lv_iconst (v := 0) hx hb dX12_left_12 (by decide) ?_
        refine lv_istore_n (lv' := [(3, .int 0), (2, .int (nI j1)), (1, .int w1), (0, .ref h)]) hx hb dX12_left_13 rfl hl (by decide) rfl (fun ls hl => ?_)
        have lp14 : ∀ (k14 : Nat) (j2 : Nat) (w2 : Int32) (H : Heap) (locs : List Loc) (ls : Array Slot), j2 ≤ mk → mk < j2 + k14 → va_P D vwCl [(h, .inr (12, mG q im)), (q 46, .inl (cZ, 384, .inl m_isGone))] H → va_S A s.heap H locs → lv_has ls 4 [(3, .int (nI j2)), (2, .int (nI j1)), (1, .int w2), (0, .ref h)] → W p l e (rmX 1 0 0) s m ([.ref h] : List Value).toArray below meth c H locs 0 0 (MQ below (va_Qi (fun r (_ : Unit) => (fun r => True) r) (fun _ _ => True) A) ([.ref h] : List Value).toArray s 0 0 A) (F0 m 14 ls []) := by
          intro k14
          induction k14 with
          | zero =>
            intro j2 w2 H locs ls hj14 hk14  hP hS hl
            exact absurd hk14 (by omega)
          | succ k14 ih14 =>
            intro j2 w2 H locs ls hj14 hk14  hP hS hl
            refine lv_iload_n hx hb dX12_left_14 rfl (lv_at hl 0 rfl) ?_
            refine lv_aload_n hx hb dX12_left_15 rfl (lv_at hl 3 rfl) ?_
            refine va_get (D := D) (ci := 12) (v := .int (im 3)) (C := RX12) (T := TX12) (N := 81) hx hb hts inT_X12 hown hK.1 hP 0 rfl rfl 3 (by decide) (hts _ k_1356) (fun _ h9 => h9) rfl dX12_left_16 ?_
            refine lv_topv (y := nI mk) hf_mk ?_
            refine lv_icmp_ge (tgt := 70) hx hb dX12_left_19 (by decide) (fun c_6 => ?_) (fun c_6 => ?_)
            · have n_7 : mk ≤ j2 := (lf_X12_left_8 h q im ms mk m_isGone hf_ms hf_mk hms hmk hm3 j1 w1 k4 hj4 hk4 c_1 n_4 j2 w2 k14 hj14 hk14 c_6)
              refine lv_iinc (v := nI (j1 + 1)) (lv' := [(2, .int (nI (j1 + 1))), (3, .int (nI j2)), (1, .int w2), (0, .ref h)]) hx hb dX12_left_70 hl (k := 1) rfl (nI_1 j1) (by decide) rfl (fun ls hl => ?_)
              refine lv_goto (tgt := 4) hx hb dX12_left_73 (by decide) ?_
              exact ih4 (j1 + 1) w2 H locs ls (by omega) (by omega)  (hP.sub [0, 1] rfl)  hS (lv_sub hl [0, 2, 3] rfl)
            · have n_9 : j2 < mk := (lf_X12_left_10 h q im ms mk m_isGone hf_ms hf_mk hms hmk hm3 j1 w1 k4 hj4 hk4 c_1 n_4 j2 w2 k14 hj14 hk14 c_6)
              refine lv_iload_n hx hb dX12_left_22 rfl (lv_at hl 2 rfl) ?_
              refine lv_aload_n hx hb dX12_left_23 rfl (lv_at hl 3 rfl) ?_
              refine va_get (D := D) (ci := 12) (v := .ref (q 46)) (C := RX12) (T := TX12) (N := 81) hx hb hts inT_X12 hown hK.1 hP 0 rfl rfl 46 (by decide) (hts _ k_1399) (fun _ h9 => h9) rfl dX12_left_24 ?_
              refine lv_iload_n hx hb dX12_left_27 rfl (lv_at hl 1 rfl) ?_
              refine lv_iload_n hx hb dX12_left_28 rfl (lv_at hl 0 rfl) ?_
              refine lv_iconst (v := 0) hx hb dX12_left_29 (by decide) ?_
              refine eRi (va_runS (As := [.int (nI j1), .int (nI j2), .int 0]) (rest := [.ref (q 46), .int w2]) ⟨hx, hb, hml, hown, hts⟩ (c_X12_cellOf l D cI cB cZ cJ tx j1 j2 0 H.size) (zS hts k_1735 v_X12_cellOf ⟨Nat.le_of_ble_eq_true rfl, Nat.le_of_ble_eq_true rfl⟩) (px0 hK) rfl rfl hl.1 rfl (lv_room (Nat.le_of_ble_eq_true rfl)) dX12_left_30 ⟨Nat.le_of_ble_eq_true rfl, Nat.le_of_ble_eq_true rfl⟩) hP hS hA (fun r_11 H locs wr_11 hP hS => ?_)
              subst wr_11
              refine ld_z hx hb hK hP 1 rfl (lf_X12_left_12 h q im ms mk m_isGone hf_ms hf_mk hms hmk hm3 j1 w1 k4 hj4 hk4 c_1 n_4 j2 w2 k14 hj14 hk14 c_6 n_9) dX12_left_33 (fun x_13 => ?_)
              refine lv_if_eq (tgt := 41) hx hb dX12_left_34 (by decide) (fun c_14 => ?_) (fun c_14 => ?_)
              · refine lv_iconst (v := 1) hx hb dX12_left_41 (by decide) ?_
                refine lv_aload_n hx hb dX12_left_42 rfl (lv_at hl 3 rfl) ?_
                refine va_get (D := D) (ci := 12) (v := .ref (q 46)) (C := RX12) (T := TX12) (N := 81) hx hb hts inT_X12 hown hK.1 hP 0 rfl rfl 46 (by decide) (hts _ k_1399) (fun _ h9 => h9) rfl dX12_left_43 ?_
                refine lv_iload_n hx hb dX12_left_46 rfl (lv_at hl 1 rfl) ?_
                refine lv_iload_n hx hb dX12_left_47 rfl (lv_at hl 0 rfl) ?_
                refine lv_iconst (v := 1) hx hb dX12_left_48 (by decide) ?_
                refine eRi (va_runS (As := [.int (nI j1), .int (nI j2), .int 1]) (rest := [.ref (q 46), .int 1, .int w2]) ⟨hx, hb, hml, hown, hts⟩ (c_X12_cellOf l D cI cB cZ cJ tx j1 j2 1 H.size) (zS hts k_1735 v_X12_cellOf ⟨Nat.le_of_ble_eq_true rfl, Nat.le_of_ble_eq_true rfl⟩) (px0 hK) rfl rfl hl.1 rfl (lv_room (Nat.le_of_ble_eq_true rfl)) dX12_left_49 ⟨Nat.le_of_ble_eq_true rfl, Nat.le_of_ble_eq_true rfl⟩) hP hS hA (fun r_15 H locs wr_15 hP hS => ?_)
                subst wr_15
                refine ld_z hx hb hK hP 1 rfl (lf_X12_left_16 h q im ms mk m_isGone hf_ms hf_mk hms hmk hm3 j1 w1 k4 hj4 hk4 c_1 n_4 j2 w2 k14 hj14 hk14 c_6 n_9 x_13 c_14) dX12_left_52 (fun x_17 => ?_)
                refine lv_if_eq (tgt := 60) hx hb dX12_left_53 (by decide) (fun c_18 => ?_) (fun c_18 => ?_)
                · refine lv_iconst (v := 1) hx hb dX12_left_60 (by decide) ?_
                  refine lv_iadd hx hb dX12_left_61 ?_
                  refine lv_topv (y := 2) (by decide) ?_
                  refine lv_iadd hx hb dX12_left_62 ?_
                  refine lv_topi (fun x_19 ex_19 => ?_)
                  refine lv_istore_n (lv' := [(1, .int x_19), (3, .int (nI j2)), (2, .int (nI j1)), (0, .ref h)]) hx hb dX12_left_63 rfl hl (by decide) rfl (fun ls hl => ?_)
                  refine lv_iinc (v := nI (j2 + 1)) (lv' := [(3, .int (nI (j2 + 1))), (1, .int x_19), (2, .int (nI j1)), (0, .ref h)]) hx hb dX12_left_64 hl (k := 1) rfl (nI_1 j2) (by decide) rfl (fun ls hl => ?_)
                  refine lv_goto (tgt := 14) hx hb dX12_left_67 (by decide) ?_
                  exact ih14 (j2 + 1) x_19 H locs ls (by omega) (by omega)  (hP.sub [0, 1] rfl)  hS (lv_sub hl [0, 2, 1, 3] rfl)
                · refine lv_iconst (v := 0) hx hb dX12_left_56 (by decide) ?_
                  refine lv_goto (tgt := 61) hx hb dX12_left_57 (by decide) ?_
                  refine lv_iadd hx hb dX12_left_61 ?_
                  refine lv_topv (y := 1) (by decide) ?_
                  refine lv_iadd hx hb dX12_left_62 ?_
                  refine lv_topi (fun x_20 ex_20 => ?_)
                  refine lv_istore_n (lv' := [(1, .int x_20), (3, .int (nI j2)), (2, .int (nI j1)), (0, .ref h)]) hx hb dX12_left_63 rfl hl (by decide) rfl (fun ls hl => ?_)
                  refine lv_iinc (v := nI (j2 + 1)) (lv' := [(3, .int (nI (j2 + 1))), (1, .int x_20), (2, .int (nI j1)), (0, .ref h)]) hx hb dX12_left_64 hl (k := 1) rfl (nI_1 j2) (by decide) rfl (fun ls hl => ?_)
                  refine lv_goto (tgt := 14) hx hb dX12_left_67 (by decide) ?_
                  exact ih14 (j2 + 1) x_20 H locs ls (by omega) (by omega)  (hP.sub [0, 1] rfl)  hS (lv_sub hl [0, 2, 1, 3] rfl)
              · refine lv_iconst (v := 0) hx hb dX12_left_37 (by decide) ?_
                refine lv_goto (tgt := 42) hx hb dX12_left_38 (by decide) ?_
                refine lv_aload_n hx hb dX12_left_42 rfl (lv_at hl 3 rfl) ?_
                refine va_get (D := D) (ci := 12) (v := .ref (q 46)) (C := RX12) (T := TX12) (N := 81) hx hb hts inT_X12 hown hK.1 hP 0 rfl rfl 46 (by decide) (hts _ k_1399) (fun _ h9 => h9) rfl dX12_left_43 ?_
                refine lv_iload_n hx hb dX12_left_46 rfl (lv_at hl 1 rfl) ?_
                refine lv_iload_n hx hb dX12_left_47 rfl (lv_at hl 0 rfl) ?_
                refine lv_iconst (v := 1) hx hb dX12_left_48 (by decide) ?_
                refine eRi (va_runS (As := [.int (nI j1), .int (nI j2), .int 1]) (rest := [.ref (q 46), .int 0, .int w2]) ⟨hx, hb, hml, hown, hts⟩ (c_X12_cellOf l D cI cB cZ cJ tx j1 j2 1 H.size) (zS hts k_1735 v_X12_cellOf ⟨Nat.le_of_ble_eq_true rfl, Nat.le_of_ble_eq_true rfl⟩) (px0 hK) rfl rfl hl.1 rfl (lv_room (Nat.le_of_ble_eq_true rfl)) dX12_left_49 ⟨Nat.le_of_ble_eq_true rfl, Nat.le_of_ble_eq_true rfl⟩) hP hS hA (fun r_21 H locs wr_21 hP hS => ?_)
                subst wr_21
                refine ld_z hx hb hK hP 1 rfl (lf_X12_left_22 h q im ms mk m_isGone hf_ms hf_mk hms hmk hm3 j1 w1 k4 hj4 hk4 c_1 n_4 j2 w2 k14 hj14 hk14 c_6 n_9 x_13 c_14) dX12_left_52 (fun x_23 => ?_)
                refine lv_if_eq (tgt := 60) hx hb dX12_left_53 (by decide) (fun c_24 => ?_) (fun c_24 => ?_)
                · refine lv_iconst (v := 1) hx hb dX12_left_60 (by decide) ?_
                  refine lv_iadd hx hb dX12_left_61 ?_
                  refine lv_topv (y := 1) (by decide) ?_
                  refine lv_iadd hx hb dX12_left_62 ?_
                  refine lv_topi (fun x_25 ex_25 => ?_)
                  refine lv_istore_n (lv' := [(1, .int x_25), (3, .int (nI j2)), (2, .int (nI j1)), (0, .ref h)]) hx hb dX12_left_63 rfl hl (by decide) rfl (fun ls hl => ?_)
                  refine lv_iinc (v := nI (j2 + 1)) (lv' := [(3, .int (nI (j2 + 1))), (1, .int x_25), (2, .int (nI j1)), (0, .ref h)]) hx hb dX12_left_64 hl (k := 1) rfl (nI_1 j2) (by decide) rfl (fun ls hl => ?_)
                  refine lv_goto (tgt := 14) hx hb dX12_left_67 (by decide) ?_
                  exact ih14 (j2 + 1) x_25 H locs ls (by omega) (by omega)  (hP.sub [0, 1] rfl)  hS (lv_sub hl [0, 2, 1, 3] rfl)
                · refine lv_iconst (v := 0) hx hb dX12_left_56 (by decide) ?_
                  refine lv_goto (tgt := 61) hx hb dX12_left_57 (by decide) ?_
                  refine lv_iadd hx hb dX12_left_61 ?_
                  refine lv_topv (y := 0) (by decide) ?_
                  refine lv_iadd hx hb dX12_left_62 ?_
                  refine lv_topi (fun x_26 ex_26 => ?_)
                  refine lv_istore_n (lv' := [(1, .int x_26), (3, .int (nI j2)), (2, .int (nI j1)), (0, .ref h)]) hx hb dX12_left_63 rfl hl (by decide) rfl (fun ls hl => ?_)
                  refine lv_iinc (v := nI (j2 + 1)) (lv' := [(3, .int (nI (j2 + 1))), (1, .int x_26), (2, .int (nI j1)), (0, .ref h)]) hx hb dX12_left_64 hl (k := 1) rfl (nI_1 j2) (by decide) rfl (fun ls hl => ?_)
                  refine lv_goto (tgt := 14) hx hb dX12_left_67 (by decide) ?_
                  exact ih14 (j2 + 1) x_26 H locs ls (by omega) (by omega)  (hP.sub [0, 1] rfl)  hS (lv_sub hl [0, 2, 1, 3] rfl)
        exact lp14 (mk + 1) 0 w1 H locs ls (by omega) (by omega)  (hP.sub [0, 1] rfl)  hS (lv_sub hl [0, 1, 2, 3] rfl)
  exact lp4 (ms + 1) 0 0 H locs ls (by omega) (by omega)  (hP.sub [0, 1] rfl)  hS (lv_sub hl [0, 1, 2] rfl)

theorem lf_X12_lies_1 (h : Nat) (q : Nat → Nat) (im : Nat → Int32) (ms : Nat) (mk : Nat) (m_across : Nat → Int32) (m_deep : Nat → Int32) (m_isGone : Nat → Int32) (m_isKnown : Nat → Int32) (n1 : Int32) (n2 : Int32) (n3 : Int32) (n4 : Int32) (n5 : Int32) (hf_ms : im 2 = nI ms) (hf_mk : im 3 = nI mk) (hms : ms ≤ 24) (hmk : mk ≤ 8) (hm3 : mk = 0 ∨ 3 ≤ ms) : ms ≤ 24 := by
  first | assumption | omega | decide | rfl
theorem lf_X12_lies_2 (h : Nat) (q : Nat → Nat) (im : Nat → Int32) (ms : Nat) (mk : Nat) (m_across : Nat → Int32) (m_deep : Nat → Int32) (m_isGone : Nat → Int32) (m_isKnown : Nat → Int32) (n1 : Int32) (n2 : Int32) (n3 : Int32) (n4 : Int32) (n5 : Int32) (hf_ms : im 2 = nI ms) (hf_mk : im 3 = nI mk) (hms : ms ≤ 24) (hmk : mk ≤ 8) (hm3 : mk = 0 ∨ 3 ≤ ms) : mk ≤ 8 := by
  first | assumption | omega | decide | rfl
theorem lf_X12_lies_3 (h : Nat) (q : Nat → Nat) (im : Nat → Int32) (ms : Nat) (mk : Nat) (m_across : Nat → Int32) (m_deep : Nat → Int32) (m_isGone : Nat → Int32) (m_isKnown : Nat → Int32) (n1 : Int32) (n2 : Int32) (n3 : Int32) (n4 : Int32) (n5 : Int32) (hf_ms : im 2 = nI ms) (hf_mk : im 3 = nI mk) (hms : ms ≤ 24) (hmk : mk ≤ 8) (hm3 : mk = 0 ∨ 3 ≤ ms) : mk = 0 ∨ 3 ≤ ms := by
  first | assumption | omega | decide | rfl
theorem lf_X12_lies_11 (h : Nat) (q : Nat → Nat) (im : Nat → Int32) (ms : Nat) (mk : Nat) (m_across : Nat → Int32) (m_deep : Nat → Int32) (m_isGone : Nat → Int32) (m_isKnown : Nat → Int32) (n1 : Int32) (n2 : Int32) (n3 : Int32) (n4 : Int32) (n5 : Int32) (hf_ms : im 2 = nI ms) (hf_mk : im 3 = nI mk) (hms : ms ≤ 24) (hmk : mk ≤ 8) (hm3 : mk = 0 ∨ 3 ≤ ms) (ff4 : Nat) (ss4 : Nat) (dd4 : Nat) (hff4 : ff4 < ms) (hss4 : ss4 < mk) (hdd4 : dd4 < 2) (c_6 : ((-3000) : Int32) ≤ n4 ∧ n4 ≤ 3000) (c_8 : ((-3000) : Int32) ≤ n5 ∧ n5 ≤ 3000) : vp_in (nI (16 * ff4 + 2 * ss4 + dd4)) 384 := by
  first | exact vp_in_nI (by omega) (by decide) | (unfold vp_in; decide)
theorem lf_X12_lies_14 (h : Nat) (q : Nat → Nat) (im : Nat → Int32) (ms : Nat) (mk : Nat) (m_across : Nat → Int32) (m_deep : Nat → Int32) (m_isGone : Nat → Int32) (m_isKnown : Nat → Int32) (n1 : Int32) (n2 : Int32) (n3 : Int32) (n4 : Int32) (n5 : Int32) (hf_ms : im 2 = nI ms) (hf_mk : im 3 = nI mk) (hms : ms ≤ 24) (hmk : mk ≤ 8) (hm3 : mk = 0 ∨ 3 ≤ ms) (ff4 : Nat) (ss4 : Nat) (dd4 : Nat) (hff4 : ff4 < ms) (hss4 : ss4 < mk) (hdd4 : dd4 < 2) (c_6 : ((-3000) : Int32) ≤ n4 ∧ n4 ≤ 3000) (c_8 : ((-3000) : Int32) ≤ n5 ∧ n5 ≤ 3000) (f_10 : Nat → Int32) : vp_in (nI (16 * ff4 + 2 * ss4 + dd4)) 384 := by
  first | exact vp_in_nI (by omega) (by decide) | (unfold vp_in; decide)
theorem lf_X12_lies_17 (h : Nat) (q : Nat → Nat) (im : Nat → Int32) (ms : Nat) (mk : Nat) (m_across : Nat → Int32) (m_deep : Nat → Int32) (m_isGone : Nat → Int32) (m_isKnown : Nat → Int32) (n1 : Int32) (n2 : Int32) (n3 : Int32) (n4 : Int32) (n5 : Int32) (hf_ms : im 2 = nI ms) (hf_mk : im 3 = nI mk) (hms : ms ≤ 24) (hmk : mk ≤ 8) (hm3 : mk = 0 ∨ 3 ≤ ms) (ff4 : Nat) (ss4 : Nat) (dd4 : Nat) (hff4 : ff4 < ms) (hss4 : ss4 < mk) (hdd4 : dd4 < 2) (c_6 : ((-3000) : Int32) ≤ n4 ∧ n4 ≤ 3000) (c_8 : ((-3000) : Int32) ≤ n5 ∧ n5 ≤ 3000) (f_10 : Nat → Int32) (f_13 : Nat → Int32) : vp_in (nI (16 * ff4 + 2 * ss4 + dd4)) 384 := by
  first | exact vp_in_nI (by omega) (by decide) | (unfold vp_in; decide)
set_option maxHeartbeats 4000000 in
set_option maxRecDepth 100000 in
theorem c_X12_lies (l : Launch) (D : va_G) (cI cB cZ cJ : ClassId) (tx : List (ClassId × FieldType)) (h : Nat) (q : Nat → Nat) (im : Nat → Int32) (ms : Nat) (mk : Nat) (m_across : Nat → Int32) (m_deep : Nat → Int32) (m_isGone : Nat → Int32) (m_isKnown : Nat → Int32) (n1 : Int32) (n2 : Int32) (n3 : Int32) (n4 : Int32) (n5 : Int32) (hf_ms : im 2 = nI ms) (hf_mk : im 3 = nI mk) (hms : ms ≤ 24) (hmk : mk ≤ 8) (hm3 : mk = 0 ∨ 3 ≤ ms) : WrI l D cI cB cZ cJ tx yX12_lies cX12_lies 6 (some .boolean) 3 0 0 [.ref h, .int n1, .int n2, .int n3, .int n4, .int n5] [(h, .inr (12, mG q im)), (q 44, .inl (cI, 384, .inl m_across)), (q 45, .inl (cI, 384, .inl m_deep)), (q 46, .inl (cZ, 384, .inl m_isGone)), (q 66, .inl (cZ, 8, .inl m_isKnown))] (fun (r : Int32) (v : (Nat → Int32) × (Nat → Int32) × (Nat → Int32) × (Nat → Int32)) => True) (fun v => [(h, .inr (12, mG q im)), (q 44, .inl (cI, 384, .inl v.1)), (q 45, .inl (cI, 384, .inl v.2.1)), (q 46, .inl (cZ, 384, .inl v.2.2.1)), (q 66, .inl (cZ, 8, .inl v.2.2.2))]) := by
  refine wri_of2 (by decide) (Nat.le_of_ble_eq_true rfl) ?_
  intro p e s m below meth c A ls H locs hC hK hP hD hA hS hl
  obtain ⟨hx, hb, hr, hml, hown, hts, hlocks, hin⟩ := hC
  have hown : s.vm.findClass RX12 = some m.cls := hown
  have hl : lv_has ls 6 [(0, .ref h), (1, .int n1), (2, .int n2), (3, .int n3), (4, .int n4), (5, .int n5)] := hl
  refine lv_aload_n hx hb dX12_lies_0 rfl (lv_at hl 0 rfl) ?_
  refine lv_iload_n hx hb dX12_lies_1 rfl (lv_at hl 1 rfl) ?_
  refine lv_iload_n hx hb dX12_lies_2 rfl (lv_at hl 2 rfl) ?_
  refine lv_iload_n hx hb dX12_lies_3 rfl (lv_at hl 3 rfl) ?_
  refine eRi (va_runV (As := [.int n1, .int n2, .int n3]) (rest := []) ⟨hx, hb, hml, hown, hts⟩ (c_X12_isRivet l D cI cB cZ cJ tx h q im ms mk n1 n2 n3 hf_ms hf_mk (lf_X12_lies_1 h q im ms mk m_across m_deep m_isGone m_isKnown n1 n2 n3 n4 n5 hf_ms hf_mk hms hmk hm3) (lf_X12_lies_2 h q im ms mk m_across m_deep m_isGone m_isKnown n1 n2 n3 n4 n5 hf_ms hf_mk hms hmk hm3) (lf_X12_lies_3 h q im ms mk m_across m_deep m_isGone m_isKnown n1 n2 n3 n4 n5 hf_ms hf_mk hms hmk hm3) H.size) (zV hts k_1799 v_X12_isRivet ⟨Nat.le_of_ble_eq_true rfl, Nat.le_of_ble_eq_true rfl⟩) (pV (px1 hK hP 0 rfl) hK hP 0 rfl rfl) rfl rfl hl.1 rfl (lv_room (Nat.le_of_ble_eq_true rfl)) dX12_lies_4 ⟨Nat.le_of_ble_eq_true rfl, Nat.le_of_ble_eq_true rfl⟩) hP hS hA (fun r_4 H locs wr_4 hP hS => ?_)
  rcases wr_4 with rfl | ⟨ff4, ss4, dd4, hff4, hss4, hdd4, rfl, rfl, rfl, rfl⟩
  · refine lv_if_eq (tgt := 40) hx hb dX12_lies_7 (by decide) (fun _ => ?_) (fun c => absurd c (by decide))
    refine lv_iconst (v := 0) hx hb dX12_lies_40 (by decide) ?_
    exact W.zret (v := 0) hx hb hr (by decide) (fun tt9 ht hW => ⟨⟨(0 : Int32), ((m_across : Nat → Int32), (m_deep : Nat → Int32), (m_isGone : Nat → Int32), (m_isKnown : Nat → Int32)), rfl, trivial, ⟨by rw [ht]; exact hP, hD⟩⟩, hS.F ht⟩) hS.2.2 dX12_lies_41 hlocks
  · refine lv_if_eq (tgt := 40) hx hb dX12_lies_7 (by decide) (fun c => absurd c (by decide)) (fun _ => ?_)
    refine lv_iload hx hb dX12_lies_10 (lv_at hl 4 rfl) ?_
    refine lv_i2l (v := n4.toInt64) hx hb dX12_lies_12 rfl ?_
    refine lv_ldc2 (v := (-3000)) hx hb hown (hts _ k_1811) dX12_lies_13 ?_
    refine lv_ldc2 (v := 3000) hx hb hown (hts _ k_1812) dX12_lies_16 ?_
    refine eRi (va_runS (As := [.long n4.toInt64, .long (-3000), .long 3000]) (rest := []) ⟨hx, hb, hml, hown, hts⟩ (c_X12_isIn l D cI cB cZ cJ tx n4.toInt64 (-3000) 3000 H.size) (zS hts k_1602 v_X12_isIn ⟨Nat.le_of_ble_eq_true rfl, Nat.le_of_ble_eq_true rfl⟩) (px0 hK) rfl rfl hl.1 rfl (lv_room (Nat.le_of_ble_eq_true rfl)) dX12_lies_19 ⟨Nat.le_of_ble_eq_true rfl, Nat.le_of_ble_eq_true rfl⟩) hP hS hA (fun r_5 H locs wr_5 hP hS => ?_)
    have wr_5 : r_5 = bi (((-3000) : Int32) ≤ n4 ∧ n4 ≤ 3000) := isIn32 (lo := (-3000)) (hi := 3000) (by decide) (by decide) wr_5
    subst wr_5
    refine lv_bi_eq (tgt := 40) hx hb dX12_lies_22 (by decide) (fun c_6 => ?_) (fun c_6 => ?_)
    · refine lv_iconst (v := 0) hx hb dX12_lies_40 (by decide) ?_
      exact W.zret (v := 0) hx hb hr (by decide) (fun tt9 ht hW => ⟨⟨(0 : Int32), ((m_across : Nat → Int32), (m_deep : Nat → Int32), (m_isGone : Nat → Int32), (m_isKnown : Nat → Int32)), rfl, trivial, ⟨by rw [ht]; exact hP, hD⟩⟩, hS.F ht⟩) hS.2.2 dX12_lies_41 hlocks
    · refine lv_iload hx hb dX12_lies_25 (lv_at hl 5 rfl) ?_
      refine lv_i2l (v := n5.toInt64) hx hb dX12_lies_27 rfl ?_
      refine lv_ldc2 (v := (-3000)) hx hb hown (hts _ k_1811) dX12_lies_28 ?_
      refine lv_ldc2 (v := 3000) hx hb hown (hts _ k_1812) dX12_lies_31 ?_
      refine eRi (va_runS (As := [.long n5.toInt64, .long (-3000), .long 3000]) (rest := []) ⟨hx, hb, hml, hown, hts⟩ (c_X12_isIn l D cI cB cZ cJ tx n5.toInt64 (-3000) 3000 H.size) (zS hts k_1602 v_X12_isIn ⟨Nat.le_of_ble_eq_true rfl, Nat.le_of_ble_eq_true rfl⟩) (px0 hK) rfl rfl hl.1 rfl (lv_room (Nat.le_of_ble_eq_true rfl)) dX12_lies_34 ⟨Nat.le_of_ble_eq_true rfl, Nat.le_of_ble_eq_true rfl⟩) hP hS hA (fun r_7 H locs wr_7 hP hS => ?_)
      have wr_7 : r_7 = bi (((-3000) : Int32) ≤ n5 ∧ n5 ≤ 3000) := isIn32 (lo := (-3000)) (hi := 3000) (by decide) (by decide) wr_7
      subst wr_7
      refine lv_bi_ne (tgt := 42) hx hb dX12_lies_37 (by decide) (fun c_8 => ?_) (fun c_8 => ?_)
      · refine lv_aload_n hx hb dX12_lies_42 rfl (lv_at hl 0 rfl) ?_
        refine va_get (D := D) (ci := 12) (v := .ref (q 44)) (C := RX12) (T := TX12) (N := 81) hx hb hts inT_X12 hown hK.1 hP 0 rfl rfl 44 (by decide) (hts _ k_1397) (fun _ h9 => h9) rfl dX12_lies_43 ?_
        refine lv_iload_n hx hb dX12_lies_46 rfl (lv_at hl 1 rfl) ?_
        refine lv_iload_n hx hb dX12_lies_47 rfl (lv_at hl 2 rfl) ?_
        refine lv_iload_n hx hb dX12_lies_48 rfl (lv_at hl 3 rfl) ?_
        refine eRi (va_runS (As := [.int (nI ff4), .int (nI ss4), .int (nI dd4)]) (rest := [.ref (q 44)]) ⟨hx, hb, hml, hown, hts⟩ (c_X12_cellOf l D cI cB cZ cJ tx ff4 ss4 dd4 H.size) (zS hts k_1735 v_X12_cellOf ⟨Nat.le_of_ble_eq_true rfl, Nat.le_of_ble_eq_true rfl⟩) (px0 hK) rfl rfl hl.1 rfl (lv_room (Nat.le_of_ble_eq_true rfl)) dX12_lies_49 ⟨Nat.le_of_ble_eq_true rfl, Nat.le_of_ble_eq_true rfl⟩) hP hS hA (fun r_9 H locs wr_9 hP hS => ?_)
        subst wr_9
        refine lv_iload hx hb dX12_lies_52 (lv_at hl 4 rfl) ?_
        refine st_i hx hb hK hP hD hS 1 rfl (lf_X12_lies_11 h q im ms mk m_across m_deep m_isGone m_isKnown (nI ff4) (nI ss4) (nI dd4) n4 n5 hf_ms hf_mk hms hmk hm3 ff4 ss4 dd4 hff4 hss4 hdd4 c_6 c_8) dX12_lies_54 (fun f_10 H locs hP hD hS => ?_)
        have hP : va_P D vwCl [(h, .inr (12, mG q im)), (q 44, .inl (cI, 384, .inl f_10)), (q 45, .inl (cI, 384, .inl m_deep)), (q 46, .inl (cZ, 384, .inl m_isGone)), (q 66, .inl (cZ, 8, .inl m_isKnown))] H := hP
        have hD : va_D A [(h, .inr (12, mG q im)), (q 44, .inl (cI, 384, .inl f_10)), (q 45, .inl (cI, 384, .inl m_deep)), (q 46, .inl (cZ, 384, .inl m_isGone)), (q 66, .inl (cZ, 8, .inl m_isKnown))] := hD
        refine lv_aload_n hx hb dX12_lies_55 rfl (lv_at hl 0 rfl) ?_
        refine va_get (D := D) (ci := 12) (v := .ref (q 45)) (C := RX12) (T := TX12) (N := 81) hx hb hts inT_X12 hown hK.1 hP 0 rfl rfl 45 (by decide) (hts _ k_1398) (fun _ h9 => h9) rfl dX12_lies_56 ?_
        refine lv_iload_n hx hb dX12_lies_59 rfl (lv_at hl 1 rfl) ?_
        refine lv_iload_n hx hb dX12_lies_60 rfl (lv_at hl 2 rfl) ?_
        refine lv_iload_n hx hb dX12_lies_61 rfl (lv_at hl 3 rfl) ?_
        refine eRi (va_runS (As := [.int (nI ff4), .int (nI ss4), .int (nI dd4)]) (rest := [.ref (q 45)]) ⟨hx, hb, hml, hown, hts⟩ (c_X12_cellOf l D cI cB cZ cJ tx ff4 ss4 dd4 H.size) (zS hts k_1735 v_X12_cellOf ⟨Nat.le_of_ble_eq_true rfl, Nat.le_of_ble_eq_true rfl⟩) (px0 hK) rfl rfl hl.1 rfl (lv_room (Nat.le_of_ble_eq_true rfl)) dX12_lies_62 ⟨Nat.le_of_ble_eq_true rfl, Nat.le_of_ble_eq_true rfl⟩) hP hS hA (fun r_12 H locs wr_12 hP hS => ?_)
        subst wr_12
        refine lv_iload hx hb dX12_lies_65 (lv_at hl 5 rfl) ?_
        refine st_i hx hb hK hP hD hS 2 rfl (lf_X12_lies_14 h q im ms mk m_across m_deep m_isGone m_isKnown (nI ff4) (nI ss4) (nI dd4) n4 n5 hf_ms hf_mk hms hmk hm3 ff4 ss4 dd4 hff4 hss4 hdd4 c_6 c_8 f_10) dX12_lies_67 (fun f_13 H locs hP hD hS => ?_)
        have hP : va_P D vwCl [(h, .inr (12, mG q im)), (q 44, .inl (cI, 384, .inl f_10)), (q 45, .inl (cI, 384, .inl f_13)), (q 46, .inl (cZ, 384, .inl m_isGone)), (q 66, .inl (cZ, 8, .inl m_isKnown))] H := hP
        have hD : va_D A [(h, .inr (12, mG q im)), (q 44, .inl (cI, 384, .inl f_10)), (q 45, .inl (cI, 384, .inl f_13)), (q 46, .inl (cZ, 384, .inl m_isGone)), (q 66, .inl (cZ, 8, .inl m_isKnown))] := hD
        refine lv_aload_n hx hb dX12_lies_68 rfl (lv_at hl 0 rfl) ?_
        refine va_get (D := D) (ci := 12) (v := .ref (q 46)) (C := RX12) (T := TX12) (N := 81) hx hb hts inT_X12 hown hK.1 hP 0 rfl rfl 46 (by decide) (hts _ k_1399) (fun _ h9 => h9) rfl dX12_lies_69 ?_
        refine lv_iload_n hx hb dX12_lies_72 rfl (lv_at hl 1 rfl) ?_
        refine lv_iload_n hx hb dX12_lies_73 rfl (lv_at hl 2 rfl) ?_
        refine lv_iload_n hx hb dX12_lies_74 rfl (lv_at hl 3 rfl) ?_
        refine eRi (va_runS (As := [.int (nI ff4), .int (nI ss4), .int (nI dd4)]) (rest := [.ref (q 46)]) ⟨hx, hb, hml, hown, hts⟩ (c_X12_cellOf l D cI cB cZ cJ tx ff4 ss4 dd4 H.size) (zS hts k_1735 v_X12_cellOf ⟨Nat.le_of_ble_eq_true rfl, Nat.le_of_ble_eq_true rfl⟩) (px0 hK) rfl rfl hl.1 rfl (lv_room (Nat.le_of_ble_eq_true rfl)) dX12_lies_75 ⟨Nat.le_of_ble_eq_true rfl, Nat.le_of_ble_eq_true rfl⟩) hP hS hA (fun r_15 H locs wr_15 hP hS => ?_)
        subst wr_15
        refine lv_iconst (v := 0) hx hb dX12_lies_78 (by decide) ?_
        refine st_z hx hb hK hP hD hS 3 rfl (lf_X12_lies_17 h q im ms mk m_across m_deep m_isGone m_isKnown (nI ff4) (nI ss4) (nI dd4) n4 n5 hf_ms hf_mk hms hmk hm3 ff4 ss4 dd4 hff4 hss4 hdd4 c_6 c_8 f_10 f_13) dX12_lies_79 (fun f_16 H locs hP hD hS => ?_)
        have hP : va_P D vwCl [(h, .inr (12, mG q im)), (q 44, .inl (cI, 384, .inl f_10)), (q 45, .inl (cI, 384, .inl f_13)), (q 46, .inl (cZ, 384, .inl f_16)), (q 66, .inl (cZ, 8, .inl m_isKnown))] H := hP
        have hD : va_D A [(h, .inr (12, mG q im)), (q 44, .inl (cI, 384, .inl f_10)), (q 45, .inl (cI, 384, .inl f_13)), (q 46, .inl (cZ, 384, .inl f_16)), (q 66, .inl (cZ, 8, .inl m_isKnown))] := hD
        refine lv_aload_n hx hb dX12_lies_80 rfl (lv_at hl 0 rfl) ?_
        refine eWv (wr := [(q 44, .inl (cI, 384, .inl f_10)), (q 45, .inl (cI, 384, .inl f_13)), (q 46, .inl (cZ, 384, .inl f_16))]) (va_runV (As := []) (rest := []) ⟨hx, hb, hml, hown, hts⟩ (c_X12_changes l D cI cB cZ cJ tx h q im m_isKnown H.size) (zV hts k_1765 v_X12_changes ⟨Nat.le_of_ble_eq_true rfl, Nat.le_of_ble_eq_true rfl⟩) (pV (pxS hK hP hD [0, 4] (by decide) rfl) hK hP 0 rfl rfl) rfl rfl hl.1 rfl (lv_room (Nat.le_of_ble_eq_true rfl)) dX12_lies_81 ⟨Nat.le_of_ble_eq_true rfl, Nat.le_of_ble_eq_true rfl⟩) hP hD hS hA [0, 4] [1, 2, 3] rfl rfl (by decide) (by decide) (fun u_19 H locs wr_18 hP hD hS => ?_)
        obtain ⟨m_isKnown_19, rfl⟩ : ∃ z, z = u_19 := ⟨_, rfl⟩
        have hP : va_P D vwCl [(q 44, .inl (cI, 384, .inl f_10)), (q 45, .inl (cI, 384, .inl f_13)), (q 46, .inl (cZ, 384, .inl f_16)), (h, .inr (12, mG q im)), (q 66, .inl (cZ, 8, .inl m_isKnown_19))] H := hP
        have hD : va_D A [(q 44, .inl (cI, 384, .inl f_10)), (q 45, .inl (cI, 384, .inl f_13)), (q 46, .inl (cZ, 384, .inl f_16)), (h, .inr (12, mG q im)), (q 66, .inl (cZ, 8, .inl m_isKnown_19))] := hD
        refine lv_iconst (v := 1) hx hb dX12_lies_84 (by decide) ?_
        have hP := hP.sub (ws' := [(h, .inr (12, mG q im)), (q 44, .inl (cI, 384, .inl f_10)), (q 45, .inl (cI, 384, .inl f_13)), (q 46, .inl (cZ, 384, .inl f_16)), (q 66, .inl (cZ, 8, .inl m_isKnown_19))]) [3, 0, 1, 2, 4] rfl
        have hD := hD.sub (ws' := [(h, .inr (12, mG q im)), (q 44, .inl (cI, 384, .inl f_10)), (q 45, .inl (cI, 384, .inl f_13)), (q 46, .inl (cZ, 384, .inl f_16)), (q 66, .inl (cZ, 8, .inl m_isKnown_19))]) [3, 0, 1, 2, 4] (by decide) rfl
        exact W.zret (v := 1) hx hb hr (by decide) (fun tt9 ht hW => ⟨⟨(1 : Int32), ((f_10 : Nat → Int32), (f_13 : Nat → Int32), (f_16 : Nat → Int32), (m_isKnown_19 : Nat → Int32)), rfl, trivial, ⟨by rw [ht]; exact hP, hD⟩⟩, hS.F ht⟩) hS.2.2 dX12_lies_85 hlocks
      · refine lv_iconst (v := 0) hx hb dX12_lies_40 (by decide) ?_
        exact W.zret (v := 0) hx hb hr (by decide) (fun tt9 ht hW => ⟨⟨(0 : Int32), ((m_across : Nat → Int32), (m_deep : Nat → Int32), (m_isGone : Nat → Int32), (m_isKnown : Nat → Int32)), rfl, trivial, ⟨by rw [ht]; exact hP, hD⟩⟩, hS.F ht⟩) hS.2.2 dX12_lies_41 hlocks

theorem lf_X12_gone_1 (h : Nat) (q : Nat → Nat) (im : Nat → Int32) (ms : Nat) (mk : Nat) (m_isGone : Nat → Int32) (m_isKnown : Nat → Int32) (n1 : Int32) (n2 : Int32) (n3 : Int32) (hf_ms : im 2 = nI ms) (hf_mk : im 3 = nI mk) (hms : ms ≤ 24) (hmk : mk ≤ 8) (hm3 : mk = 0 ∨ 3 ≤ ms) : ms ≤ 24 := by
  first | assumption | omega | decide | rfl
theorem lf_X12_gone_2 (h : Nat) (q : Nat → Nat) (im : Nat → Int32) (ms : Nat) (mk : Nat) (m_isGone : Nat → Int32) (m_isKnown : Nat → Int32) (n1 : Int32) (n2 : Int32) (n3 : Int32) (hf_ms : im 2 = nI ms) (hf_mk : im 3 = nI mk) (hms : ms ≤ 24) (hmk : mk ≤ 8) (hm3 : mk = 0 ∨ 3 ≤ ms) : mk ≤ 8 := by
  first | assumption | omega | decide | rfl
theorem lf_X12_gone_3 (h : Nat) (q : Nat → Nat) (im : Nat → Int32) (ms : Nat) (mk : Nat) (m_isGone : Nat → Int32) (m_isKnown : Nat → Int32) (n1 : Int32) (n2 : Int32) (n3 : Int32) (hf_ms : im 2 = nI ms) (hf_mk : im 3 = nI mk) (hms : ms ≤ 24) (hmk : mk ≤ 8) (hm3 : mk = 0 ∨ 3 ≤ ms) : mk = 0 ∨ 3 ≤ ms := by
  first | assumption | omega | decide | rfl
theorem lf_X12_gone_6 (h : Nat) (q : Nat → Nat) (im : Nat → Int32) (ms : Nat) (mk : Nat) (m_isGone : Nat → Int32) (m_isKnown : Nat → Int32) (n1 : Int32) (n2 : Int32) (n3 : Int32) (hf_ms : im 2 = nI ms) (hf_mk : im 3 = nI mk) (hms : ms ≤ 24) (hmk : mk ≤ 8) (hm3 : mk = 0 ∨ 3 ≤ ms) (ff4 : Nat) (ss4 : Nat) (dd4 : Nat) (hff4 : ff4 < ms) (hss4 : ss4 < mk) (hdd4 : dd4 < 2) : vp_in (nI (16 * ff4 + 2 * ss4 + dd4)) 384 := by
  first | exact vp_in_nI (by omega) (by decide) | (unfold vp_in; decide)
theorem lf_X12_gone_11 (h : Nat) (q : Nat → Nat) (im : Nat → Int32) (ms : Nat) (mk : Nat) (m_isGone : Nat → Int32) (m_isKnown : Nat → Int32) (n1 : Int32) (n2 : Int32) (n3 : Int32) (hf_ms : im 2 = nI ms) (hf_mk : im 3 = nI mk) (hms : ms ≤ 24) (hmk : mk ≤ 8) (hm3 : mk = 0 ∨ 3 ≤ ms) (ff4 : Nat) (ss4 : Nat) (dd4 : Nat) (hff4 : ff4 < ms) (hss4 : ss4 < mk) (hdd4 : dd4 < 2) (x_7 : Int32) (c_8 : x_7 = 0) : vp_in (nI (16 * ff4 + 2 * ss4 + dd4)) 384 := by
  first | exact vp_in_nI (by omega) (by decide) | (unfold vp_in; decide)
set_option maxHeartbeats 4000000 in
set_option maxRecDepth 100000 in
theorem c_X12_gone (l : Launch) (D : va_G) (cI cB cZ cJ : ClassId) (tx : List (ClassId × FieldType)) (h : Nat) (q : Nat → Nat) (im : Nat → Int32) (ms : Nat) (mk : Nat) (m_isGone : Nat → Int32) (m_isKnown : Nat → Int32) (n1 : Int32) (n2 : Int32) (n3 : Int32) (hf_ms : im 2 = nI ms) (hf_mk : im 3 = nI mk) (hms : ms ≤ 24) (hmk : mk ≤ 8) (hm3 : mk = 0 ∨ 3 ≤ ms) : WrI l D cI cB cZ cJ tx yX12_gone cX12_gone 4 (some .boolean) 3 0 0 [.ref h, .int n1, .int n2, .int n3] [(h, .inr (12, mG q im)), (q 46, .inl (cZ, 384, .inl m_isGone)), (q 66, .inl (cZ, 8, .inl m_isKnown))] (fun (r : Int32) (v : (Nat → Int32) × (Nat → Int32)) => True) (fun v => [(h, .inr (12, mG q im)), (q 46, .inl (cZ, 384, .inl v.1)), (q 66, .inl (cZ, 8, .inl v.2))]) := by
  refine wri_of2 (by decide) (Nat.le_of_ble_eq_true rfl) ?_
  intro p e s m below meth c A ls H locs hC hK hP hD hA hS hl
  obtain ⟨hx, hb, hr, hml, hown, hts, hlocks, hin⟩ := hC
  have hown : s.vm.findClass RX12 = some m.cls := hown
  have hl : lv_has ls 4 [(0, .ref h), (1, .int n1), (2, .int n2), (3, .int n3)] := hl
  refine lv_aload_n hx hb dX12_gone_0 rfl (lv_at hl 0 rfl) ?_
  refine lv_iload_n hx hb dX12_gone_1 rfl (lv_at hl 1 rfl) ?_
  refine lv_iload_n hx hb dX12_gone_2 rfl (lv_at hl 2 rfl) ?_
  refine lv_iload_n hx hb dX12_gone_3 rfl (lv_at hl 3 rfl) ?_
  refine eRi (va_runV (As := [.int n1, .int n2, .int n3]) (rest := []) ⟨hx, hb, hml, hown, hts⟩ (c_X12_isRivet l D cI cB cZ cJ tx h q im ms mk n1 n2 n3 hf_ms hf_mk (lf_X12_gone_1 h q im ms mk m_isGone m_isKnown n1 n2 n3 hf_ms hf_mk hms hmk hm3) (lf_X12_gone_2 h q im ms mk m_isGone m_isKnown n1 n2 n3 hf_ms hf_mk hms hmk hm3) (lf_X12_gone_3 h q im ms mk m_isGone m_isKnown n1 n2 n3 hf_ms hf_mk hms hmk hm3) H.size) (zV hts k_1799 v_X12_isRivet ⟨Nat.le_of_ble_eq_true rfl, Nat.le_of_ble_eq_true rfl⟩) (pV (px1 hK hP 0 rfl) hK hP 0 rfl rfl) rfl rfl hl.1 rfl (lv_room (Nat.le_of_ble_eq_true rfl)) dX12_gone_4 ⟨Nat.le_of_ble_eq_true rfl, Nat.le_of_ble_eq_true rfl⟩) hP hS hA (fun r_4 H locs wr_4 hP hS => ?_)
  rcases wr_4 with rfl | ⟨ff4, ss4, dd4, hff4, hss4, hdd4, rfl, rfl, rfl, rfl⟩
  · refine lv_if_eq (tgt := 24) hx hb dX12_gone_7 (by decide) (fun _ => ?_) (fun c => absurd c (by decide))
    refine lv_iconst (v := 0) hx hb dX12_gone_24 (by decide) ?_
    exact W.zret (v := 0) hx hb hr (by decide) (fun tt9 ht hW => ⟨⟨(0 : Int32), ((m_isGone : Nat → Int32), (m_isKnown : Nat → Int32)), rfl, trivial, ⟨by rw [ht]; exact hP, hD⟩⟩, hS.F ht⟩) hS.2.2 dX12_gone_25 hlocks
  · refine lv_if_eq (tgt := 24) hx hb dX12_gone_7 (by decide) (fun c => absurd c (by decide)) (fun _ => ?_)
    refine lv_aload_n hx hb dX12_gone_10 rfl (lv_at hl 0 rfl) ?_
    refine va_get (D := D) (ci := 12) (v := .ref (q 46)) (C := RX12) (T := TX12) (N := 81) hx hb hts inT_X12 hown hK.1 hP 0 rfl rfl 46 (by decide) (hts _ k_1399) (fun _ h9 => h9) rfl dX12_gone_11 ?_
    refine lv_iload_n hx hb dX12_gone_14 rfl (lv_at hl 1 rfl) ?_
    refine lv_iload_n hx hb dX12_gone_15 rfl (lv_at hl 2 rfl) ?_
    refine lv_iload_n hx hb dX12_gone_16 rfl (lv_at hl 3 rfl) ?_
    refine eRi (va_runS (As := [.int (nI ff4), .int (nI ss4), .int (nI dd4)]) (rest := [.ref (q 46)]) ⟨hx, hb, hml, hown, hts⟩ (c_X12_cellOf l D cI cB cZ cJ tx ff4 ss4 dd4 H.size) (zS hts k_1735 v_X12_cellOf ⟨Nat.le_of_ble_eq_true rfl, Nat.le_of_ble_eq_true rfl⟩) (px0 hK) rfl rfl hl.1 rfl (lv_room (Nat.le_of_ble_eq_true rfl)) dX12_gone_17 ⟨Nat.le_of_ble_eq_true rfl, Nat.le_of_ble_eq_true rfl⟩) hP hS hA (fun r_5 H locs wr_5 hP hS => ?_)
    subst wr_5
    refine ld_z hx hb hK hP 1 rfl (lf_X12_gone_6 h q im ms mk m_isGone m_isKnown (nI ff4) (nI ss4) (nI dd4) hf_ms hf_mk hms hmk hm3 ff4 ss4 dd4 hff4 hss4 hdd4) dX12_gone_20 (fun x_7 => ?_)
    refine lv_if_eq (tgt := 26) hx hb dX12_gone_21 (by decide) (fun c_8 => ?_) (fun c_8 => ?_)
    · refine lv_aload_n hx hb dX12_gone_26 rfl (lv_at hl 0 rfl) ?_
      refine va_get (D := D) (ci := 12) (v := .ref (q 46)) (C := RX12) (T := TX12) (N := 81) hx hb hts inT_X12 hown hK.1 hP 0 rfl rfl 46 (by decide) (hts _ k_1399) (fun _ h9 => h9) rfl dX12_gone_27 ?_
      refine lv_iload_n hx hb dX12_gone_30 rfl (lv_at hl 1 rfl) ?_
      refine lv_iload_n hx hb dX12_gone_31 rfl (lv_at hl 2 rfl) ?_
      refine lv_iload_n hx hb dX12_gone_32 rfl (lv_at hl 3 rfl) ?_
      refine eRi (va_runS (As := [.int (nI ff4), .int (nI ss4), .int (nI dd4)]) (rest := [.ref (q 46)]) ⟨hx, hb, hml, hown, hts⟩ (c_X12_cellOf l D cI cB cZ cJ tx ff4 ss4 dd4 H.size) (zS hts k_1735 v_X12_cellOf ⟨Nat.le_of_ble_eq_true rfl, Nat.le_of_ble_eq_true rfl⟩) (px0 hK) rfl rfl hl.1 rfl (lv_room (Nat.le_of_ble_eq_true rfl)) dX12_gone_33 ⟨Nat.le_of_ble_eq_true rfl, Nat.le_of_ble_eq_true rfl⟩) hP hS hA (fun r_9 H locs wr_9 hP hS => ?_)
      subst wr_9
      refine lv_iconst (v := 1) hx hb dX12_gone_36 (by decide) ?_
      refine st_z hx hb hK hP hD hS 1 rfl (lf_X12_gone_11 h q im ms mk m_isGone m_isKnown (nI ff4) (nI ss4) (nI dd4) hf_ms hf_mk hms hmk hm3 ff4 ss4 dd4 hff4 hss4 hdd4 x_7 c_8) dX12_gone_37 (fun f_10 H locs hP hD hS => ?_)
      have hP : va_P D vwCl [(h, .inr (12, mG q im)), (q 46, .inl (cZ, 384, .inl f_10)), (q 66, .inl (cZ, 8, .inl m_isKnown))] H := hP
      have hD : va_D A [(h, .inr (12, mG q im)), (q 46, .inl (cZ, 384, .inl f_10)), (q 66, .inl (cZ, 8, .inl m_isKnown))] := hD
      refine lv_aload_n hx hb dX12_gone_38 rfl (lv_at hl 0 rfl) ?_
      refine eWv (wr := [(q 46, .inl (cZ, 384, .inl f_10))]) (va_runV (As := []) (rest := []) ⟨hx, hb, hml, hown, hts⟩ (c_X12_changes l D cI cB cZ cJ tx h q im m_isKnown H.size) (zV hts k_1765 v_X12_changes ⟨Nat.le_of_ble_eq_true rfl, Nat.le_of_ble_eq_true rfl⟩) (pV (pxS hK hP hD [0, 2] (by decide) rfl) hK hP 0 rfl rfl) rfl rfl hl.1 rfl (lv_room (Nat.le_of_ble_eq_true rfl)) dX12_gone_39 ⟨Nat.le_of_ble_eq_true rfl, Nat.le_of_ble_eq_true rfl⟩) hP hD hS hA [0, 2] [1] rfl rfl (by decide) (by decide) (fun u_13 H locs wr_12 hP hD hS => ?_)
      obtain ⟨m_isKnown_13, rfl⟩ : ∃ z, z = u_13 := ⟨_, rfl⟩
      have hP : va_P D vwCl [(q 46, .inl (cZ, 384, .inl f_10)), (h, .inr (12, mG q im)), (q 66, .inl (cZ, 8, .inl m_isKnown_13))] H := hP
      have hD : va_D A [(q 46, .inl (cZ, 384, .inl f_10)), (h, .inr (12, mG q im)), (q 66, .inl (cZ, 8, .inl m_isKnown_13))] := hD
      refine lv_iconst (v := 1) hx hb dX12_gone_42 (by decide) ?_
      have hP := hP.sub (ws' := [(h, .inr (12, mG q im)), (q 46, .inl (cZ, 384, .inl f_10)), (q 66, .inl (cZ, 8, .inl m_isKnown_13))]) [1, 0, 2] rfl
      have hD := hD.sub (ws' := [(h, .inr (12, mG q im)), (q 46, .inl (cZ, 384, .inl f_10)), (q 66, .inl (cZ, 8, .inl m_isKnown_13))]) [1, 0, 2] (by decide) rfl
      exact W.zret (v := 1) hx hb hr (by decide) (fun tt9 ht hW => ⟨⟨(1 : Int32), ((f_10 : Nat → Int32), (m_isKnown_13 : Nat → Int32)), rfl, trivial, ⟨by rw [ht]; exact hP, hD⟩⟩, hS.F ht⟩) hS.2.2 dX12_gone_43 hlocks
    · refine lv_iconst (v := 0) hx hb dX12_gone_24 (by decide) ?_
      exact W.zret (v := 0) hx hb hr (by decide) (fun tt9 ht hW => ⟨⟨(0 : Int32), ((m_isGone : Nat → Int32), (m_isKnown : Nat → Int32)), rfl, trivial, ⟨by rw [ht]; exact hP, hD⟩⟩, hS.F ht⟩) hS.2.2 dX12_gone_25 hlocks

theorem lf_X12_rivet_1 (h : Nat) (q : Nat → Nat) (im : Nat → Int32) (ms : Nat) (mk : Nat) (m_across : Nat → Int32) (m_deep : Nat → Int32) (m_isGone : Nat → Int32) (m_sizeOf : Nat → Nat) (n1 : Int32) (n2 : Int32) (n3 : Int32) (n4 : Int32) (hf_ms : im 2 = nI ms) (hf_mk : im 3 = nI mk) (hms : ms ≤ 24) (hmk : mk ≤ 8) (hm3 : mk = 0 ∨ 3 ≤ ms) : ms ≤ 24 := by
  first | assumption | omega | decide | rfl
theorem lf_X12_rivet_2 (h : Nat) (q : Nat → Nat) (im : Nat → Int32) (ms : Nat) (mk : Nat) (m_across : Nat → Int32) (m_deep : Nat → Int32) (m_isGone : Nat → Int32) (m_sizeOf : Nat → Nat) (n1 : Int32) (n2 : Int32) (n3 : Int32) (n4 : Int32) (hf_ms : im 2 = nI ms) (hf_mk : im 3 = nI mk) (hms : ms ≤ 24) (hmk : mk ≤ 8) (hm3 : mk = 0 ∨ 3 ≤ ms) : mk ≤ 8 := by
  first | assumption | omega | decide | rfl
theorem lf_X12_rivet_3 (h : Nat) (q : Nat → Nat) (im : Nat → Int32) (ms : Nat) (mk : Nat) (m_across : Nat → Int32) (m_deep : Nat → Int32) (m_isGone : Nat → Int32) (m_sizeOf : Nat → Nat) (n1 : Int32) (n2 : Int32) (n3 : Int32) (n4 : Int32) (hf_ms : im 2 = nI ms) (hf_mk : im 3 = nI mk) (hms : ms ≤ 24) (hmk : mk ≤ 8) (hm3 : mk = 0 ∨ 3 ≤ ms) : mk = 0 ∨ 3 ≤ ms := by
  first | assumption | omega | decide | rfl
theorem lf_X12_rivet_7 (h : Nat) (q : Nat → Nat) (im : Nat → Int32) (ms : Nat) (mk : Nat) (m_across : Nat → Int32) (m_deep : Nat → Int32) (m_isGone : Nat → Int32) (m_sizeOf : Nat → Nat) (n1 : Int32) (n2 : Int32) (n3 : Int32) (n4 : Int32) (hf_ms : im 2 = nI ms) (hf_mk : im 3 = nI mk) (hms : ms ≤ 24) (hmk : mk ≤ 8) (hm3 : mk = 0 ∨ 3 ≤ ms) (ff4 : Nat) (ss4 : Nat) (dd4 : Nat) (hff4 : ff4 < ms) (hss4 : ss4 < mk) (hdd4 : dd4 < 2) (c_6 : n4 = 0) : vp_in (nI (16 * ff4 + 2 * ss4 + dd4)) 384 := by
  first | exact vp_in_nI (by omega) (by decide) | (unfold vp_in; decide)
theorem lf_X12_rivet_10 (h : Nat) (q : Nat → Nat) (im : Nat → Int32) (ms : Nat) (mk : Nat) (m_across : Nat → Int32) (m_deep : Nat → Int32) (m_isGone : Nat → Int32) (m_sizeOf : Nat → Nat) (n1 : Int32) (n2 : Int32) (n3 : Int32) (n4 : Int32) (hf_ms : im 2 = nI ms) (hf_mk : im 3 = nI mk) (hms : ms ≤ 24) (hmk : mk ≤ 8) (hm3 : mk = 0 ∨ 3 ≤ ms) (ff4 : Nat) (ss4 : Nat) (dd4 : Nat) (hff4 : ff4 < ms) (hss4 : ss4 < mk) (hdd4 : dd4 < 2) (c_6 : ¬ n4 = 0) (c_9 : n4 = 1) : vp_in (nI (16 * ff4 + 2 * ss4 + dd4)) 384 := by
  first | exact vp_in_nI (by omega) (by decide) | (unfold vp_in; decide)
theorem lf_X12_rivet_13 (h : Nat) (q : Nat → Nat) (im : Nat → Int32) (ms : Nat) (mk : Nat) (m_across : Nat → Int32) (m_deep : Nat → Int32) (m_isGone : Nat → Int32) (m_sizeOf : Nat → Nat) (n1 : Int32) (n2 : Int32) (n3 : Int32) (n4 : Int32) (hf_ms : im 2 = nI ms) (hf_mk : im 3 = nI mk) (hms : ms ≤ 24) (hmk : mk ≤ 8) (hm3 : mk = 0 ∨ 3 ≤ ms) (ff4 : Nat) (ss4 : Nat) (dd4 : Nat) (hff4 : ff4 < ms) (hss4 : ss4 < mk) (hdd4 : dd4 < 2) (c_6 : ¬ n4 = 0) (c_9 : ¬ n4 = 1) (c_12 : n4 = 2) : vp_in (nI (16 * ff4 + 2 * ss4 + dd4)) 384 := by
  first | exact vp_in_nI (by omega) (by decide) | (unfold vp_in; decide)
theorem lf_X12_rivet_17 (h : Nat) (q : Nat → Nat) (im : Nat → Int32) (ms : Nat) (mk : Nat) (m_across : Nat → Int32) (m_deep : Nat → Int32) (m_isGone : Nat → Int32) (m_sizeOf : Nat → Nat) (n1 : Int32) (n2 : Int32) (n3 : Int32) (n4 : Int32) (hf_ms : im 2 = nI ms) (hf_mk : im 3 = nI mk) (hms : ms ≤ 24) (hmk : mk ≤ 8) (hm3 : mk = 0 ∨ 3 ≤ ms) (ff4 : Nat) (ss4 : Nat) (dd4 : Nat) (hff4 : ff4 < ms) (hss4 : ss4 < mk) (hdd4 : dd4 < 2) (c_6 : ¬ n4 = 0) (c_9 : ¬ n4 = 1) (c_12 : ¬ n4 = 2) (c_16 : n4 = 3) : (16 * ff4 + 2 * ss4 + dd4) < 384 := by
  omega
theorem lf_X12_rivet_19 (h : Nat) (q : Nat → Nat) (im : Nat → Int32) (ms : Nat) (mk : Nat) (m_across : Nat → Int32) (m_deep : Nat → Int32) (m_isGone : Nat → Int32) (m_sizeOf : Nat → Nat) (n1 : Int32) (n2 : Int32) (n3 : Int32) (n4 : Int32) (hf_ms : im 2 = nI ms) (hf_mk : im 3 = nI mk) (hms : ms ≤ 24) (hmk : mk ≤ 8) (hm3 : mk = 0 ∨ 3 ≤ ms) (ff4 : Nat) (ss4 : Nat) (dd4 : Nat) (hff4 : ff4 < ms) (hss4 : ss4 < mk) (hdd4 : dd4 < 2) (c_6 : ¬ n4 = 0) (c_9 : ¬ n4 = 1) (c_12 : ¬ n4 = 2) (c_16 : ¬ n4 = 3) (c_18 : n4 = 4) : ff4 < 24 := by
  first | assumption | omega | decide | rfl
theorem lf_X12_rivet_20 (h : Nat) (q : Nat → Nat) (im : Nat → Int32) (ms : Nat) (mk : Nat) (m_across : Nat → Int32) (m_deep : Nat → Int32) (m_isGone : Nat → Int32) (m_sizeOf : Nat → Nat) (n1 : Int32) (n2 : Int32) (n3 : Int32) (n4 : Int32) (hf_ms : im 2 = nI ms) (hf_mk : im 3 = nI mk) (hms : ms ≤ 24) (hmk : mk ≤ 8) (hm3 : mk = 0 ∨ 3 ≤ ms) (ff4 : Nat) (ss4 : Nat) (dd4 : Nat) (hff4 : ff4 < ms) (hss4 : ss4 < mk) (hdd4 : dd4 < 2) (c_6 : ¬ n4 = 0) (c_9 : ¬ n4 = 1) (c_12 : ¬ n4 = 2) (c_16 : ¬ n4 = 3) (c_18 : n4 = 4) : ss4 < 8 := by
  first | assumption | omega | decide | rfl
theorem lf_X12_rivet_21 (h : Nat) (q : Nat → Nat) (im : Nat → Int32) (ms : Nat) (mk : Nat) (m_across : Nat → Int32) (m_deep : Nat → Int32) (m_isGone : Nat → Int32) (m_sizeOf : Nat → Nat) (n1 : Int32) (n2 : Int32) (n3 : Int32) (n4 : Int32) (hf_ms : im 2 = nI ms) (hf_mk : im 3 = nI mk) (hms : ms ≤ 24) (hmk : mk ≤ 8) (hm3 : mk = 0 ∨ 3 ≤ ms) (ff4 : Nat) (ss4 : Nat) (dd4 : Nat) (hff4 : ff4 < ms) (hss4 : ss4 < mk) (hdd4 : dd4 < 2) (c_6 : ¬ n4 = 0) (c_9 : ¬ n4 = 1) (c_12 : ¬ n4 = 2) (c_16 : ¬ n4 = 3) (c_18 : n4 = 4) : dd4 < 2 := by
  first | assumption | omega | decide | rfl
theorem lf_X12_rivet_24 (h : Nat) (q : Nat → Nat) (im : Nat → Int32) (ms : Nat) (mk : Nat) (m_across : Nat → Int32) (m_deep : Nat → Int32) (m_isGone : Nat → Int32) (m_sizeOf : Nat → Nat) (n1 : Int32) (n2 : Int32) (n3 : Int32) (n4 : Int32) (hf_ms : im 2 = nI ms) (hf_mk : im 3 = nI mk) (hms : ms ≤ 24) (hmk : mk ≤ 8) (hm3 : mk = 0 ∨ 3 ≤ ms) (ff4 : Nat) (ss4 : Nat) (dd4 : Nat) (hff4 : ff4 < ms) (hss4 : ss4 < mk) (hdd4 : dd4 < 2) (c_6 : ¬ n4 = 0) (c_9 : ¬ n4 = 1) (c_12 : ¬ n4 = 2) (c_16 : ¬ n4 = 3) (c_18 : ¬ n4 = 4) : n4.toInt < 0 ∨ 4 < n4.toInt := by
  have e : ∀ k : Int32, ¬ n4 = k → n4.toInt ≠ k.toInt := fun k h q => h (Int32.toInt_inj.mp q)
  have e0 := e 0 ‹¬ n4 = 0›
  have z0 : (0 : Int32).toInt = 0 := by decide
  have e1 := e 1 ‹¬ n4 = 1›
  have z1 : (1 : Int32).toInt = 1 := by decide
  have e2 := e 2 ‹¬ n4 = 2›
  have z2 : (2 : Int32).toInt = 2 := by decide
  have e3 := e 3 ‹¬ n4 = 3›
  have z3 : (3 : Int32).toInt = 3 := by decide
  have e4 := e 4 ‹¬ n4 = 4›
  have z4 : (4 : Int32).toInt = 4 := by decide
  omega
set_option maxHeartbeats 4000000 in
set_option maxRecDepth 100000 in
theorem c_X12_rivet (l : Launch) (D : va_G) (cI cB cZ cJ : ClassId) (tx : List (ClassId × FieldType)) (h : Nat) (q : Nat → Nat) (im : Nat → Int32) (ms : Nat) (mk : Nat) (m_across : Nat → Int32) (m_deep : Nat → Int32) (m_isGone : Nat → Int32) (m_sizeOf : Nat → Nat) (n1 : Int32) (n2 : Int32) (n3 : Int32) (n4 : Int32) (hf_ms : im 2 = nI ms) (hf_mk : im 3 = nI mk) (hms : ms ≤ 24) (hmk : mk ≤ 8) (hm3 : mk = 0 ∨ 3 ≤ ms) : RdI l D cI cB cZ cJ tx yX12_rivet cX12_rivet 6 (some .int) 3 [.ref h, .int n1, .int n2, .int n3, .int n4] [(h, .inr (12, mG q im)), (q 44, .inl (cI, 384, .inl m_across)), (q 45, .inl (cI, 384, .inl m_deep)), (q 46, .inl (cZ, 384, .inl m_isGone)), (q 47, .inl (cI, 384, .inl (nF m_sizeOf)))] (fun r => True) := by
  refine rdi_of2 (by decide) (Nat.le_of_ble_eq_true rfl) ?_
  intro p e s m below meth c A ls H locs hC hK hP hD hA hS hl
  obtain ⟨hx, hb, hr, hml, hown, hts, hlocks, hin⟩ := hC
  have hown : s.vm.findClass RX12 = some m.cls := hown
  have hl : lv_has ls 6 [(0, .ref h), (1, .int n1), (2, .int n2), (3, .int n3), (4, .int n4)] := hl
  refine lv_aload_n hx hb dX12_rivet_0 rfl (lv_at hl 0 rfl) ?_
  refine lv_iload_n hx hb dX12_rivet_1 rfl (lv_at hl 1 rfl) ?_
  refine lv_iload_n hx hb dX12_rivet_2 rfl (lv_at hl 2 rfl) ?_
  refine lv_iload_n hx hb dX12_rivet_3 rfl (lv_at hl 3 rfl) ?_
  refine eRi (va_runV (As := [.int n1, .int n2, .int n3]) (rest := []) ⟨hx, hb, hml, hown, hts⟩ (c_X12_isRivet l D cI cB cZ cJ tx h q im ms mk n1 n2 n3 hf_ms hf_mk (lf_X12_rivet_1 h q im ms mk m_across m_deep m_isGone m_sizeOf n1 n2 n3 n4 hf_ms hf_mk hms hmk hm3) (lf_X12_rivet_2 h q im ms mk m_across m_deep m_isGone m_sizeOf n1 n2 n3 n4 hf_ms hf_mk hms hmk hm3) (lf_X12_rivet_3 h q im ms mk m_across m_deep m_isGone m_sizeOf n1 n2 n3 n4 hf_ms hf_mk hms hmk hm3) H.size) (zV hts k_1799 v_X12_isRivet ⟨Nat.le_of_ble_eq_true rfl, Nat.le_of_ble_eq_true rfl⟩) (pV (px1 hK hP 0 rfl) hK hP 0 rfl rfl) rfl rfl hl.1 rfl (lv_room (Nat.le_of_ble_eq_true rfl)) dX12_rivet_4 ⟨Nat.le_of_ble_eq_true rfl, Nat.le_of_ble_eq_true rfl⟩) hP hS hA (fun r_4 H locs wr_4 hP hS => ?_)
  rcases wr_4 with rfl | ⟨ff4, ss4, dd4, hff4, hss4, hdd4, rfl, rfl, rfl, rfl⟩
  · refine lv_if_ne (tgt := 14) hx hb dX12_rivet_7 (by decide) (fun c => absurd c (by decide)) (fun _ => ?_)
    refine lv_sipush (v := (-10000)) hx hb dX12_rivet_10 (by decide) ?_
    exact W.iret (v := (-10000)) hx hb hr (fun tt9 ht hW => ⟨⟨((-10000) : Int32), (), rfl, trivial, trivial⟩, hS.F ht⟩) hS.2.2 dX12_rivet_13 hlocks
  · refine lv_if_ne (tgt := 14) hx hb dX12_rivet_7 (by decide) (fun _ => ?_) (fun c => absurd c (by decide))
    refine lv_iload_n hx hb dX12_rivet_14 rfl (lv_at hl 1 rfl) ?_
    refine lv_iload_n hx hb dX12_rivet_15 rfl (lv_at hl 2 rfl) ?_
    refine lv_iload_n hx hb dX12_rivet_16 rfl (lv_at hl 3 rfl) ?_
    refine eRi (va_runS (As := [.int (nI ff4), .int (nI ss4), .int (nI dd4)]) (rest := []) ⟨hx, hb, hml, hown, hts⟩ (c_X12_cellOf l D cI cB cZ cJ tx ff4 ss4 dd4 H.size) (zS hts k_1735 v_X12_cellOf ⟨Nat.le_of_ble_eq_true rfl, Nat.le_of_ble_eq_true rfl⟩) (px0 hK) rfl rfl hl.1 rfl (lv_room (Nat.le_of_ble_eq_true rfl)) dX12_rivet_17 ⟨Nat.le_of_ble_eq_true rfl, Nat.le_of_ble_eq_true rfl⟩) hP hS hA (fun r_5 H locs wr_5 hP hS => ?_)
    subst wr_5
    refine lv_istore (lv' := [(5, .int (nI (16 * ff4 + 2 * ss4 + dd4))), (0, .ref h), (1, .int (nI ff4)), (2, .int (nI ss4)), (3, .int (nI dd4)), (4, .int n4)]) hx hb dX12_rivet_20 hl (by decide) rfl (fun ls hl => ?_)
    refine lv_iload hx hb dX12_rivet_22 (lv_at hl 5 rfl) ?_
    by_cases c_6 : n4 = 0
    · subst c_6
      refine lv_tableIn (off := 36) (tgt := 60) hx hb dX12_rivet_24 (by decide) (by decide) rfl (by decide) ?_
      refine lv_aload_n hx hb dX12_rivet_60 rfl (lv_at hl 1 rfl) ?_
      refine va_get (D := D) (ci := 12) (v := .ref (q 44)) (C := RX12) (T := TX12) (N := 81) hx hb hts inT_X12 hown hK.1 hP 0 rfl rfl 44 (by decide) (hts _ k_1397) (fun _ h9 => h9) rfl dX12_rivet_61 ?_
      refine lv_iload hx hb dX12_rivet_64 (lv_at hl 0 rfl) ?_
      refine ld_i hx hb hK hP 1 rfl (lf_X12_rivet_7 h q im ms mk m_across m_deep m_isGone m_sizeOf (nI ff4) (nI ss4) (nI dd4) 0 hf_ms hf_mk hms hmk hm3 ff4 ss4 dd4 hff4 hss4 hdd4 rfl) dX12_rivet_66 (fun x_8 => ?_)
      exact W.iret (v := x_8) hx hb hr (fun tt9 ht hW => ⟨⟨(x_8 : Int32), (), rfl, trivial, trivial⟩, hS.F ht⟩) hS.2.2 dX12_rivet_67 hlocks
    by_cases c_9 : n4 = 1
    · subst c_9
      refine lv_tableIn (off := 44) (tgt := 68) hx hb dX12_rivet_24 (by decide) (by decide) rfl (by decide) ?_
      refine lv_aload_n hx hb dX12_rivet_68 rfl (lv_at hl 1 rfl) ?_
      refine va_get (D := D) (ci := 12) (v := .ref (q 45)) (C := RX12) (T := TX12) (N := 81) hx hb hts inT_X12 hown hK.1 hP 0 rfl rfl 45 (by decide) (hts _ k_1398) (fun _ h9 => h9) rfl dX12_rivet_69 ?_
      refine lv_iload hx hb dX12_rivet_72 (lv_at hl 0 rfl) ?_
      refine ld_i hx hb hK hP 2 rfl (lf_X12_rivet_10 h q im ms mk m_across m_deep m_isGone m_sizeOf (nI ff4) (nI ss4) (nI dd4) 1 hf_ms hf_mk hms hmk hm3 ff4 ss4 dd4 hff4 hss4 hdd4 c_6 rfl) dX12_rivet_74 (fun x_11 => ?_)
      exact W.iret (v := x_11) hx hb hr (fun tt9 ht hW => ⟨⟨(x_11 : Int32), (), rfl, trivial, trivial⟩, hS.F ht⟩) hS.2.2 dX12_rivet_75 hlocks
    by_cases c_12 : n4 = 2
    · subst c_12
      refine lv_tableIn (off := 52) (tgt := 76) hx hb dX12_rivet_24 (by decide) (by decide) rfl (by decide) ?_
      refine lv_aload_n hx hb dX12_rivet_76 rfl (lv_at hl 1 rfl) ?_
      refine va_get (D := D) (ci := 12) (v := .ref (q 46)) (C := RX12) (T := TX12) (N := 81) hx hb hts inT_X12 hown hK.1 hP 0 rfl rfl 46 (by decide) (hts _ k_1399) (fun _ h9 => h9) rfl dX12_rivet_77 ?_
      refine lv_iload hx hb dX12_rivet_80 (lv_at hl 0 rfl) ?_
      refine ld_z hx hb hK hP 3 rfl (lf_X12_rivet_13 h q im ms mk m_across m_deep m_isGone m_sizeOf (nI ff4) (nI ss4) (nI dd4) 2 hf_ms hf_mk hms hmk hm3 ff4 ss4 dd4 hff4 hss4 hdd4 c_6 c_9 rfl) dX12_rivet_82 (fun x_14 => ?_)
      refine lv_if_eq (tgt := 90) hx hb dX12_rivet_83 (by decide) (fun c_15 => ?_) (fun c_15 => ?_)
      · refine lv_iconst (v := 0) hx hb dX12_rivet_90 (by decide) ?_
        exact W.iret (v := 0) hx hb hr (fun tt9 ht hW => ⟨⟨(0 : Int32), (), rfl, trivial, trivial⟩, hS.F ht⟩) hS.2.2 dX12_rivet_91 hlocks
      · refine lv_iconst (v := 1) hx hb dX12_rivet_86 (by decide) ?_
        refine lv_goto (tgt := 91) hx hb dX12_rivet_87 (by decide) ?_
        exact W.iret (v := 1) hx hb hr (fun tt9 ht hW => ⟨⟨(1 : Int32), (), rfl, trivial, trivial⟩, hS.F ht⟩) hS.2.2 dX12_rivet_91 hlocks
    by_cases c_16 : n4 = 3
    · subst c_16
      refine lv_tableIn (off := 68) (tgt := 92) hx hb dX12_rivet_24 (by decide) (by decide) rfl (by decide) ?_
      refine lv_aload_n hx hb dX12_rivet_92 rfl (lv_at hl 1 rfl) ?_
      refine va_get (D := D) (ci := 12) (v := .ref (q 47)) (C := RX12) (T := TX12) (N := 81) hx hb hts inT_X12 hown hK.1 hP 0 rfl rfl 47 (by decide) (hts _ k_1400) (fun _ h9 => h9) rfl dX12_rivet_93 ?_
      refine lv_iload hx hb dX12_rivet_96 (lv_at hl 0 rfl) ?_
      refine lt_i (j := (16 * ff4 + 2 * ss4 + dd4)) hx hb hK hP 4 rfl (lf_X12_rivet_17 h q im ms mk m_across m_deep m_isGone m_sizeOf (nI ff4) (nI ss4) (nI dd4) 3 hf_ms hf_mk hms hmk hm3 ff4 ss4 dd4 hff4 hss4 hdd4 c_6 c_9 c_12 rfl) (by decide) dX12_rivet_98 ?_
      refine lv_topv (y := nI (m_sizeOf (16 * ff4 + 2 * ss4 + dd4))) rfl ?_
      exact W.iret (v := nI (m_sizeOf (16 * ff4 + 2 * ss4 + dd4))) hx hb hr (fun tt9 ht hW => ⟨⟨(nI (m_sizeOf (16 * ff4 + 2 * ss4 + dd4)) : Int32), (), rfl, trivial, trivial⟩, hS.F ht⟩) hS.2.2 dX12_rivet_99 hlocks
    by_cases c_18 : n4 = 4
    · subst c_18
      refine lv_tableIn (off := 76) (tgt := 100) hx hb dX12_rivet_24 (by decide) (by decide) rfl (by decide) ?_
      refine lv_aload_n hx hb dX12_rivet_100 rfl (lv_at hl 1 rfl) ?_
      refine lv_iload_n hx hb dX12_rivet_101 rfl (lv_at hl 2 rfl) ?_
      refine lv_iload_n hx hb dX12_rivet_102 rfl (lv_at hl 3 rfl) ?_
      refine lv_iload_n hx hb dX12_rivet_103 rfl (lv_at hl 4 rfl) ?_
      refine eRi (va_runV (As := [.int (nI ff4), .int (nI ss4), .int (nI dd4)]) (rest := []) ⟨hx, hb, hml, hown, hts⟩ (c_X12_isSeen l D cI cB cZ cJ tx h q im m_isGone ff4 ss4 dd4 (lf_X12_rivet_19 h q im ms mk m_across m_deep m_isGone m_sizeOf (nI ff4) (nI ss4) (nI dd4) 4 hf_ms hf_mk hms hmk hm3 ff4 ss4 dd4 hff4 hss4 hdd4 c_6 c_9 c_12 c_16 rfl) (lf_X12_rivet_20 h q im ms mk m_across m_deep m_isGone m_sizeOf (nI ff4) (nI ss4) (nI dd4) 4 hf_ms hf_mk hms hmk hm3 ff4 ss4 dd4 hff4 hss4 hdd4 c_6 c_9 c_12 c_16 rfl) (lf_X12_rivet_21 h q im ms mk m_across m_deep m_isGone m_sizeOf (nI ff4) (nI ss4) (nI dd4) 4 hf_ms hf_mk hms hmk hm3 ff4 ss4 dd4 hff4 hss4 hdd4 c_6 c_9 c_12 c_16 rfl) H.size) (zV hts k_1821 v_X12_isSeen ⟨Nat.le_of_ble_eq_true rfl, Nat.le_of_ble_eq_true rfl⟩) (pV (pxS hK hP hD [0, 3] (by decide) rfl) hK hP 0 rfl rfl) rfl rfl hl.1 rfl (lv_room (Nat.le_of_ble_eq_true rfl)) dX12_rivet_104 ⟨Nat.le_of_ble_eq_true rfl, Nat.le_of_ble_eq_true rfl⟩) hP hS hA (fun r_22 H locs wr_22 hP hS => ?_)
      refine lv_if_eq (tgt := 114) hx hb dX12_rivet_107 (by decide) (fun c_23 => ?_) (fun c_23 => ?_)
      · refine lv_iconst (v := 0) hx hb dX12_rivet_114 (by decide) ?_
        exact W.iret (v := 0) hx hb hr (fun tt9 ht hW => ⟨⟨(0 : Int32), (), rfl, trivial, trivial⟩, hS.F ht⟩) hS.2.2 dX12_rivet_115 hlocks
      · refine lv_iconst (v := 1) hx hb dX12_rivet_110 (by decide) ?_
        refine lv_goto (tgt := 115) hx hb dX12_rivet_111 (by decide) ?_
        exact W.iret (v := 1) hx hb hr (fun tt9 ht hW => ⟨⟨(1 : Int32), (), rfl, trivial, trivial⟩, hS.F ht⟩) hS.2.2 dX12_rivet_115 hlocks
    refine lv_tableOut (tgt := 116) hx hb dX12_rivet_24 (lf_X12_rivet_24 h q im ms mk m_across m_deep m_isGone m_sizeOf (nI ff4) (nI ss4) (nI dd4) n4 hf_ms hf_mk hms hmk hm3 ff4 ss4 dd4 hff4 hss4 hdd4 c_6 c_9 c_12 c_16 c_18) (by decide) ?_
    refine lv_sipush (v := (-10000)) hx hb dX12_rivet_116 (by decide) ?_
    exact W.iret (v := (-10000)) hx hb hr (fun tt9 ht hW => ⟨⟨((-10000) : Int32), (), rfl, trivial, trivial⟩, hS.F ht⟩) hS.2.2 dX12_rivet_119 hlocks

theorem lf_X12_cut_8 (h : Nat) (q : Nat → Nat) (im : Nat → Int32) (ms : Nat) (m_isKnown : Nat → Int32) (n1 : Int32) (hf_ms : im 2 = nI ms) (x_1 : Int32) (ex_1 : x_1 = 1 <<< (nI ms &&& 31)) (x_2 : Int32) (ex_2 : x_2 = x_1 - 1) (c_4 : (0 : Int32) ≤ n1 ∧ n1 ≤ x_2) (i_5 : Nat → Int32) (hsb : SB [49] im i_5) (m_isKnown_7 : Nat → Int32) (hi_5_2 : i_5 2 = nI ms) (hi_5_49 : i_5 49 = n1) : (SB [49] im (i_5 : Nat → Int32)) := by
  repeat' apply And.intro
  all_goals first | assumption | omega | rfl | trivial
theorem lf_X12_cut_9 (h : Nat) (q : Nat → Nat) (im : Nat → Int32) (ms : Nat) (m_isKnown : Nat → Int32) (n1 : Int32) (hf_ms : im 2 = nI ms) (hsb : SB [49] im im) (x_1 : Int32) (ex_1 : x_1 = 1 <<< (nI ms &&& 31)) (x_2 : Int32) (ex_2 : x_2 = x_1 - 1) (c_4 : ¬ ((0 : Int32) ≤ n1 ∧ n1 ≤ x_2)) : (SB [49] im (im : Nat → Int32)) := by
  repeat' apply And.intro
  all_goals first | assumption | omega | rfl | trivial
set_option maxHeartbeats 4000000 in
set_option maxRecDepth 100000 in
theorem c_X12_cut (l : Launch) (D : va_G) (cI cB cZ cJ : ClassId) (tx : List (ClassId × FieldType)) (h : Nat) (q : Nat → Nat) (im : Nat → Int32) (ms : Nat) (m_isKnown : Nat → Int32) (n1 : Int32) (hf_ms : im 2 = nI ms) : WrI l D cI cB cZ cJ tx yX12_cut cX12_cut 2 (some .boolean) 1 0 0 [.ref h, .int n1] [(h, .inr (12, mG q im)), (q 66, .inl (cZ, 8, .inl m_isKnown))] (fun (r : Int32) (v : (Nat → Int32) × (Nat → Int32)) => (SB [49] im v.1)) (fun v => [(h, .inr (12, mG q v.1)), (q 66, .inl (cZ, 8, .inl v.2))]) := by
  refine wri_of2 (by decide) (Nat.le_of_ble_eq_true rfl) ?_
  intro p e s m below meth c A ls H locs hC hK hP hD hA hS hl
  obtain ⟨hx, hb, hr, hml, hown, hts, hlocks, hin⟩ := hC
  have hown : s.vm.findClass RX12 = some m.cls := hown
  have hl : lv_has ls 2 [(0, .ref h), (1, .int n1)] := hl
  have hsb : SB [49] im im := SB.rf
  refine lv_iload_n hx hb dX12_cut_0 rfl (lv_at hl 1 rfl) ?_
  refine lv_i2l (v := n1.toInt64) hx hb dX12_cut_1 rfl ?_
  refine lv_lconst (v := 0) hx hb dX12_cut_2 (by decide) ?_
  refine lv_iconst (v := 1) hx hb dX12_cut_3 (by decide) ?_
  refine lv_aload_n hx hb dX12_cut_4 rfl (lv_at hl 0 rfl) ?_
  refine va_get (D := D) (ci := 12) (v := .int (im 2)) (C := RX12) (T := TX12) (N := 81) hx hb hts inT_X12 hown hK.1 hP 0 rfl rfl 2 (by decide) (hts _ k_1355) (fun _ h9 => h9) rfl dX12_cut_5 ?_
  refine lv_topv (y := nI ms) hf_ms ?_
  refine lv_ishl hx hb dX12_cut_8 ?_
  refine lv_topi (fun x_1 ex_1 => ?_)
  refine lv_iconst (v := 1) hx hb dX12_cut_9 (by decide) ?_
  refine lv_isub hx hb dX12_cut_10 ?_
  refine lv_topi (fun x_2 ex_2 => ?_)
  refine lv_i2l (v := x_2.toInt64) hx hb dX12_cut_11 rfl ?_
  refine eRi (va_runS (As := [.long n1.toInt64, .long 0, .long x_2.toInt64]) (rest := []) ⟨hx, hb, hml, hown, hts⟩ (c_X12_isIn l D cI cB cZ cJ tx n1.toInt64 0 x_2.toInt64 H.size) (zS hts k_1602 v_X12_isIn ⟨Nat.le_of_ble_eq_true rfl, Nat.le_of_ble_eq_true rfl⟩) (px0 hK) rfl rfl hl.1 rfl (lv_room (Nat.le_of_ble_eq_true rfl)) dX12_cut_12 ⟨Nat.le_of_ble_eq_true rfl, Nat.le_of_ble_eq_true rfl⟩) hP hS hA (fun r_3 H locs wr_3 hP hS => ?_)
  have wr_3 : r_3 = bi ((0 : Int32) ≤ n1 ∧ n1 ≤ x_2) := isIn32 (lo := 0) (hi := x_2) (by decide) rfl wr_3
  subst wr_3
  refine lv_bi_ne (tgt := 20) hx hb dX12_cut_15 (by decide) (fun c_4 => ?_) (fun c_4 => ?_)
  · refine lv_aload_n hx hb dX12_cut_20 rfl (lv_at hl 0 rfl) ?_
    refine lv_iload_n hx hb dX12_cut_21 rfl (lv_at hl 1 rfl) ?_
    refine va_put (D := D) (ci := 12) (v := .int n1) (ty := .int) (C := RX12) (T := TX12) (N := 81) hx hb hts inT_X12 tyX12 tyX12_ok nmX12 hown hK.1 hP hD hS 0 rfl rfl 49 (by decide) (hts _ k_1402) (fun _ h9 => h9) rfl (by decide +kernel) rfl rfl (Nat.le_of_ble_eq_true rfl) dX12_cut_22 (fun H locs hP hD hS => ?_)
    obtain ⟨i_5, ei_5⟩ : ∃ z : Nat → Int32, z = upd im 49 n1 := ⟨_, rfl⟩
    have hi_5_2 : i_5 2 = nI ms := by rw [ei_5]; exact hf_ms
    have hi_5_49 : i_5 49 = n1 := by rw [ei_5]; rfl
    have hsb := SB.put hsb ei_5 (by decide)
    have hP : va_P D vwCl [(h, .inr (12, mG q i_5)), (q 66, .inl (cZ, 8, .inl m_isKnown))] H := by rw [ei_5, ← mG_49]; exact hP
    have hD : va_D A [(h, .inr (12, mG q i_5)), (q 66, .inl (cZ, 8, .inl m_isKnown))] := by rw [ei_5, ← mG_49]; exact hD
    refine lv_aload_n hx hb dX12_cut_25 rfl (lv_at hl 0 rfl) ?_
    refine eWv (wr := []) (va_runV (As := []) (rest := []) ⟨hx, hb, hml, hown, hts⟩ (c_X12_changes l D cI cB cZ cJ tx h q i_5 m_isKnown H.size) (zV hts k_1765 v_X12_changes ⟨Nat.le_of_ble_eq_true rfl, Nat.le_of_ble_eq_true rfl⟩) (pV (pxS hK hP hD [0, 1] (by decide) rfl) hK hP 0 rfl rfl) rfl rfl hl.1 rfl (lv_room (Nat.le_of_ble_eq_true rfl)) dX12_cut_26 ⟨Nat.le_of_ble_eq_true rfl, Nat.le_of_ble_eq_true rfl⟩) hP hD hS hA [0, 1] [] rfl rfl (by decide) (by decide) (fun u_7 H locs wr_6 hP hD hS => ?_)
    obtain ⟨m_isKnown_7, rfl⟩ : ∃ z, z = u_7 := ⟨_, rfl⟩
    have hP : va_P D vwCl [(h, .inr (12, mG q i_5)), (q 66, .inl (cZ, 8, .inl m_isKnown_7))] H := hP
    have hD : va_D A [(h, .inr (12, mG q i_5)), (q 66, .inl (cZ, 8, .inl m_isKnown_7))] := hD
    refine lv_iconst (v := 1) hx hb dX12_cut_29 (by decide) ?_
    exact W.zret (v := 1) hx hb hr (by decide) (fun tt9 ht hW => ⟨⟨(1 : Int32), ((i_5 : Nat → Int32), (m_isKnown_7 : Nat → Int32)), rfl, (lf_X12_cut_8 h q im ms m_isKnown n1 hf_ms x_1 ex_1 x_2 ex_2 c_4 i_5 hsb m_isKnown_7 hi_5_2 hi_5_49), ⟨by rw [ht]; exact hP, hD⟩⟩, hS.F ht⟩) hS.2.2 dX12_cut_30 hlocks
  · refine lv_iconst (v := 0) hx hb dX12_cut_18 (by decide) ?_
    exact W.zret (v := 0) hx hb hr (by decide) (fun tt9 ht hW => ⟨⟨(0 : Int32), ((im : Nat → Int32), (m_isKnown : Nat → Int32)), rfl, (lf_X12_cut_9 h q im ms m_isKnown n1 hf_ms hsb x_1 ex_1 x_2 ex_2 c_4), ⟨by rw [ht]; exact hP, hD⟩⟩, hS.F ht⟩) hS.2.2 dX12_cut_19 hlocks

theorem lf_X12_drawing_3 (h : Nat) (q : Nat → Nat) (im : Nat → Int32) (ms : Nat) (md : Nat) (m_hasMark : Nat → Int32) (n1 : Int32) (hf_ms : im 2 = nI ms) (hf_md : im 50 = nI md) (hms : ms ≤ 24) (hmd : md ≤ 4) (hsb : SB [50] im im) (c_1 : nI ms = 0) : ms = 0 := by
  exact (nI_eq (a := ms) (b := 0) (by omega) (by omega)).mp c_1
theorem lf_X12_drawing_4 (h : Nat) (q : Nat → Nat) (im : Nat → Int32) (ms : Nat) (md : Nat) (m_hasMark : Nat → Int32) (n1 : Int32) (hf_ms : im 2 = nI ms) (hf_md : im 50 = nI md) (hms : ms ≤ 24) (hmd : md ≤ 4) (hsb : SB [50] im im) (c_1 : nI ms = 0) (n_2 : ms = 0) : (SB [50] im (im : Nat → Int32)) ∧ ((im : Nat → Int32) 50 = nI (md : Nat)) ∧ ((md : Nat) ≤ 4) := by
  repeat' apply And.intro
  all_goals first | assumption | omega | rfl | trivial
theorem lf_X12_drawing_6 (h : Nat) (q : Nat → Nat) (im : Nat → Int32) (ms : Nat) (md : Nat) (m_hasMark : Nat → Int32) (n1 : Int32) (hf_ms : im 2 = nI ms) (hf_md : im 50 = nI md) (hms : ms ≤ 24) (hmd : md ≤ 4) (hsb : SB [50] im im) (c_1 : ¬ nI ms = 0) : ms ≠ 0 := by
  exact fun q => c_1 ((nI_eq (a := ms) (b := 0) (by omega) (by omega)).mpr q)
theorem lf_X12_drawing_9 (h : Nat) (q : Nat → Nat) (im : Nat → Int32) (ms : Nat) (md : Nat) (m_hasMark : Nat → Int32) (n1 : Int32) (hf_ms : im 2 = nI ms) (hf_md : im 50 = nI md) (hms : ms ≤ 24) (hmd : md ≤ 4) (hsb : SB [50] im im) (c_1 : ¬ nI ms = 0) (n_5 : ms ≠ 0) (c_7 : nI md = 4) : md = 4 := by
  exact (nI_eq (a := md) (b := 4) (by omega) (by omega)).mp c_7
theorem lf_X12_drawing_10 (h : Nat) (q : Nat → Nat) (im : Nat → Int32) (ms : Nat) (md : Nat) (m_hasMark : Nat → Int32) (n1 : Int32) (hf_ms : im 2 = nI ms) (hf_md : im 50 = nI md) (hms : ms ≤ 24) (hmd : md ≤ 4) (hsb : SB [50] im im) (c_1 : ¬ nI ms = 0) (n_5 : ms ≠ 0) (c_7 : nI md = 4) (n_8 : md = 4) : (SB [50] im (im : Nat → Int32)) ∧ ((im : Nat → Int32) 50 = nI (md : Nat)) ∧ ((md : Nat) ≤ 4) := by
  repeat' apply And.intro
  all_goals first | assumption | omega | rfl | trivial
theorem lf_X12_drawing_12 (h : Nat) (q : Nat → Nat) (im : Nat → Int32) (ms : Nat) (md : Nat) (m_hasMark : Nat → Int32) (n1 : Int32) (hf_ms : im 2 = nI ms) (hf_md : im 50 = nI md) (hms : ms ≤ 24) (hmd : md ≤ 4) (hsb : SB [50] im im) (c_1 : ¬ nI ms = 0) (n_5 : ms ≠ 0) (c_7 : ¬ nI md = 4) : md ≠ 4 := by
  exact fun q => c_7 ((nI_eq (a := md) (b := 4) (by omega) (by omega)).mpr q)
theorem lf_X12_drawing_17 (h : Nat) (q : Nat → Nat) (im : Nat → Int32) (ms : Nat) (md : Nat) (m_hasMark : Nat → Int32) (n1 : Int32) (hf_ms : im 2 = nI ms) (hf_md : im 50 = nI md) (hms : ms ≤ 24) (hmd : md ≤ 4) (hsb : SB [50] im im) (c_1 : ¬ nI ms = 0) (n_5 : ms ≠ 0) (c_7 : ¬ nI md = 4) (n_11 : md ≠ 4) (c_14 : (0 : Int32) ≤ n1 ∧ n1 ≤ 2100) (tn1 : Nat) (tn1a : 0 ≤ tn1) (tn1b : tn1 ≤ 2100) (tn1e : n1 = nI tn1) (j1 : Nat) (m_hasMark_j1 : Nat → Int32) (k31 : Nat) (hj31 : j1 ≤ 384) (hk31 : 384 < j1 + (k31 + 1)) (c_15 : 384 ≤ nI j1) : 384 ≤ j1 := by
  exact (nI_leI (a := 384) (b := j1) (by omega) (by omega)).mp c_15
theorem lf_X12_drawing_19 (h : Nat) (q : Nat → Nat) (im : Nat → Int32) (ms : Nat) (md : Nat) (m_hasMark : Nat → Int32) (n1 : Int32) (hf_ms : im 2 = nI ms) (hf_md : im 50 = nI md) (hms : ms ≤ 24) (hmd : md ≤ 4) (c_1 : ¬ nI ms = 0) (n_5 : ms ≠ 0) (c_7 : ¬ nI md = 4) (n_11 : md ≠ 4) (c_14 : (0 : Int32) ≤ n1 ∧ n1 ≤ 2100) (tn1 : Nat) (tn1a : 0 ≤ tn1) (tn1b : tn1 ≤ 2100) (tn1e : n1 = nI tn1) (j1 : Nat) (m_hasMark_j1 : Nat → Int32) (k31 : Nat) (hj31 : j1 ≤ 384) (hk31 : 384 < j1 + (k31 + 1)) (c_15 : 384 ≤ nI j1) (n_16 : 384 ≤ j1) (i_18 : Nat → Int32) (hsb : SB [50] im i_18) (hi_18_2 : i_18 2 = nI ms) (hi_18_50 : i_18 50 = nI (md + 1)) : (SB [50] im (i_18 : Nat → Int32)) ∧ ((i_18 : Nat → Int32) 50 = nI ((md + 1) : Nat)) ∧ (((md + 1) : Nat) ≤ 4) := by
  repeat' apply And.intro
  all_goals first | assumption | omega | rfl | trivial
theorem lf_X12_drawing_21 (h : Nat) (q : Nat → Nat) (im : Nat → Int32) (ms : Nat) (md : Nat) (m_hasMark : Nat → Int32) (n1 : Int32) (hf_ms : im 2 = nI ms) (hf_md : im 50 = nI md) (hms : ms ≤ 24) (hmd : md ≤ 4) (hsb : SB [50] im im) (c_1 : ¬ nI ms = 0) (n_5 : ms ≠ 0) (c_7 : ¬ nI md = 4) (n_11 : md ≠ 4) (c_14 : (0 : Int32) ≤ n1 ∧ n1 ≤ 2100) (tn1 : Nat) (tn1a : 0 ≤ tn1) (tn1b : tn1 ≤ 2100) (tn1e : n1 = nI tn1) (j1 : Nat) (m_hasMark_j1 : Nat → Int32) (k31 : Nat) (hj31 : j1 ≤ 384) (hk31 : 384 < j1 + (k31 + 1)) (c_15 : ¬ 384 ≤ nI j1) : j1 < 384 := by
  exact Nat.lt_of_not_le (fun q => c_15 ((nI_leI (a := 384) (b := j1) (by omega) (by omega)).mpr q))
theorem lf_X12_drawing_23 (h : Nat) (q : Nat → Nat) (im : Nat → Int32) (ms : Nat) (md : Nat) (m_hasMark : Nat → Int32) (n1 : Int32) (hf_ms : im 2 = nI ms) (hf_md : im 50 = nI md) (hms : ms ≤ 24) (hmd : md ≤ 4) (hsb : SB [50] im im) (c_1 : ¬ nI ms = 0) (n_5 : ms ≠ 0) (c_7 : ¬ nI md = 4) (n_11 : md ≠ 4) (c_14 : (0 : Int32) ≤ n1 ∧ n1 ≤ 2100) (tn1 : Nat) (tn1a : 0 ≤ tn1) (tn1b : tn1 ≤ 2100) (tn1e : n1 = nI tn1) (j1 : Nat) (m_hasMark_j1 : Nat → Int32) (k31 : Nat) (hj31 : j1 ≤ 384) (hk31 : 384 < j1 + (k31 + 1)) (c_15 : ¬ 384 ≤ nI j1) (n_20 : j1 < 384) : vp_in (nI ((384 * md) + j1)) 1536 := by
  first | exact vp_in_nI (by omega) (by decide) | (unfold vp_in; decide)
theorem lf_X12_drawing_24 (h : Nat) (q : Nat → Nat) (im : Nat → Int32) (ms : Nat) (md : Nat) (m_hasMark : Nat → Int32) (n1 : Int32) (hf_ms : im 2 = nI ms) (hf_md : im 50 = nI md) (hms : ms ≤ 24) (hmd : md ≤ 4) (hsb : SB [50] im im) (c_1 : ¬ nI ms = 0) (n_5 : ms ≠ 0) (c_7 : ¬ nI md = 4) (n_11 : md ≠ 4) (c_14 : ¬ ((0 : Int32) ≤ n1 ∧ n1 ≤ 2100)) : (SB [50] im (im : Nat → Int32)) ∧ ((im : Nat → Int32) 50 = nI (md : Nat)) ∧ ((md : Nat) ≤ 4) := by
  repeat' apply And.intro
  all_goals first | assumption | omega | rfl | trivial
set_option maxHeartbeats 4000000 in
set_option maxRecDepth 100000 in
theorem c_X12_drawing (l : Launch) (D : va_G) (cI cB cZ cJ : ClassId) (tx : List (ClassId × FieldType)) (h : Nat) (q : Nat → Nat) (im : Nat → Int32) (ms : Nat) (md : Nat) (m_hasMark : Nat → Int32) (n1 : Int32) (hf_ms : im 2 = nI ms) (hf_md : im 50 = nI md) (hms : ms ≤ 24) (hmd : md ≤ 4) : WrI l D cI cB cZ cJ tx yX12_drawing cX12_drawing 3 (some .int) 1 0 0 [.ref h, .int n1] [(h, .inr (12, mG q im)), (q 51, .inl (cZ, 1536, .inl m_hasMark))] (fun (r : Int32) (v : (Nat → Int32) × (Nat) × (Nat → Int32)) => (SB [50] im v.1) ∧ (v.1 50 = nI v.2.1) ∧ (v.2.1 ≤ 4)) (fun v => [(h, .inr (12, mG q v.1)), (q 51, .inl (cZ, 1536, .inl v.2.2))]) := by
  refine wri_of2 (by decide) (Nat.le_of_ble_eq_true rfl) ?_
  intro p e s m below meth c A ls H locs hC hK hP hD hA hS hl
  obtain ⟨hx, hb, hr, hml, hown, hts, hlocks, hin⟩ := hC
  have hown : s.vm.findClass RX12 = some m.cls := hown
  have hl : lv_has ls 3 [(0, .ref h), (1, .int n1)] := hl
  have hsb : SB [50] im im := SB.rf
  refine lv_aload_n hx hb dX12_drawing_0 rfl (lv_at hl 0 rfl) ?_
  refine va_get (D := D) (ci := 12) (v := .int (im 2)) (C := RX12) (T := TX12) (N := 81) hx hb hts inT_X12 hown hK.1 hP 0 rfl rfl 2 (by decide) (hts _ k_1355) (fun _ h9 => h9) rfl dX12_drawing_1 ?_
  refine lv_topv (y := nI ms) hf_ms ?_
  refine lv_if_eq (tgt := 27) hx hb dX12_drawing_4 (by decide) (fun c_1 => ?_) (fun c_1 => ?_)
  · have n_2 : ms = 0 := (lf_X12_drawing_3 h q im ms md m_hasMark n1 hf_ms hf_md hms hmd hsb c_1)
    refine lv_iconst (v := (-1)) hx hb dX12_drawing_27 (by decide) ?_
    exact W.iret (v := (-1)) hx hb hr (fun tt9 ht hW => ⟨⟨((-1) : Int32), ((im : Nat → Int32), (md : Nat), (m_hasMark : Nat → Int32)), rfl, (lf_X12_drawing_4 h q im ms md m_hasMark n1 hf_ms hf_md hms hmd hsb c_1 n_2), ⟨by rw [ht]; exact hP, hD⟩⟩, hS.F ht⟩) hS.2.2 dX12_drawing_28 hlocks
  · have n_5 : ms ≠ 0 := (lf_X12_drawing_6 h q im ms md m_hasMark n1 hf_ms hf_md hms hmd hsb c_1)
    refine lv_aload_n hx hb dX12_drawing_7 rfl (lv_at hl 0 rfl) ?_
    refine va_get (D := D) (ci := 12) (v := .int (im 50)) (C := RX12) (T := TX12) (N := 81) hx hb hts inT_X12 hown hK.1 hP 0 rfl rfl 50 (by decide) (hts _ k_1403) (fun _ h9 => h9) rfl dX12_drawing_8 ?_
    refine lv_topv (y := nI md) hf_md ?_
    refine lv_iconst (v := 4) hx hb dX12_drawing_11 (by decide) ?_
    refine lv_icmp_eq (tgt := 27) hx hb dX12_drawing_12 (by decide) (fun c_7 => ?_) (fun c_7 => ?_)
    · have n_8 : md = 4 := (lf_X12_drawing_9 h q im ms md m_hasMark n1 hf_ms hf_md hms hmd hsb c_1 n_5 c_7)
      refine lv_iconst (v := (-1)) hx hb dX12_drawing_27 (by decide) ?_
      exact W.iret (v := (-1)) hx hb hr (fun tt9 ht hW => ⟨⟨((-1) : Int32), ((im : Nat → Int32), (md : Nat), (m_hasMark : Nat → Int32)), rfl, (lf_X12_drawing_10 h q im ms md m_hasMark n1 hf_ms hf_md hms hmd hsb c_1 n_5 c_7 n_8), ⟨by rw [ht]; exact hP, hD⟩⟩, hS.F ht⟩) hS.2.2 dX12_drawing_28 hlocks
    · have n_11 : md ≠ 4 := (lf_X12_drawing_12 h q im ms md m_hasMark n1 hf_ms hf_md hms hmd hsb c_1 n_5 c_7)
      refine lv_iload_n hx hb dX12_drawing_15 rfl (lv_at hl 1 rfl) ?_
      refine lv_i2l (v := n1.toInt64) hx hb dX12_drawing_16 rfl ?_
      refine lv_lconst (v := 0) hx hb dX12_drawing_17 (by decide) ?_
      refine lv_ldc2 (v := 2100) hx hb hown (hts _ k_1836) dX12_drawing_18 ?_
      refine eRi (va_runS (As := [.long n1.toInt64, .long 0, .long 2100]) (rest := []) ⟨hx, hb, hml, hown, hts⟩ (c_X12_isIn l D cI cB cZ cJ tx n1.toInt64 0 2100 H.size) (zS hts k_1602 v_X12_isIn ⟨Nat.le_of_ble_eq_true rfl, Nat.le_of_ble_eq_true rfl⟩) (px0 hK) rfl rfl hl.1 rfl (lv_room (Nat.le_of_ble_eq_true rfl)) dX12_drawing_21 ⟨Nat.le_of_ble_eq_true rfl, Nat.le_of_ble_eq_true rfl⟩) hP hS hA (fun r_13 H locs wr_13 hP hS => ?_)
      have wr_13 : r_13 = bi ((0 : Int32) ≤ n1 ∧ n1 ≤ 2100) := isIn32 (lo := 0) (hi := 2100) (by decide) (by decide) wr_13
      subst wr_13
      refine lv_bi_ne (tgt := 29) hx hb dX12_drawing_24 (by decide) (fun c_14 => ?_) (fun c_14 => ?_)
      · obtain ⟨tn1, tn1a, tn1b, tn1e⟩ := of_rng 0 2100 rfl rfl c_14
        subst tn1e
        refine lv_iconst (v := 0) hx hb dX12_drawing_29 (by decide) ?_
        refine lv_istore_n (lv' := [(2, .int 0), (0, .ref h), (1, .int (nI tn1))]) hx hb dX12_drawing_30 rfl hl (by decide) rfl (fun ls hl => ?_)
        have lp31 : ∀ (k31 : Nat) (j1 : Nat) (m_hasMark_j1 : Nat → Int32) (H : Heap) (locs : List Loc) (ls : Array Slot), j1 ≤ 384 → 384 < j1 + k31 → va_P D vwCl [(h, .inr (12, mG q im)), (q 51, .inl (cZ, 1536, .inl m_hasMark_j1))] H → va_D A [(h, .inr (12, mG q im)), (q 51, .inl (cZ, 1536, .inl m_hasMark_j1))] → va_S A s.heap H locs → lv_has ls 3 [(2, .int (nI j1)), (0, .ref h), (1, .int (nI tn1))] → W p l e (rmX 1 0 0) s m ([.ref h, .int (nI tn1)] : List Value).toArray below meth c H locs 0 0 (MQ below (va_Qi (fun (r : Int32) (v : (Nat → Int32) × (Nat) × (Nat → Int32)) => (SB [50] im v.1) ∧ (v.1 50 = nI v.2.1) ∧ (v.2.1 ≤ 4)) (fun u => BX D A ((fun v => [(h, .inr (12, mG q v.1)), (q 51, .inl (cZ, 1536, .inl v.2.2))]) u)) A) ([.ref h, .int (nI tn1)] : List Value).toArray s 0 0 A) (F0 m 31 ls []) := by
          intro k31
          induction k31 with
          | zero =>
            intro j1 m_hasMark_j1 H locs ls hj31 hk31  hP hD hS hl
            exact absurd hk31 (by omega)
          | succ k31 ih31 =>
            intro j1 m_hasMark_j1 H locs ls hj31 hk31  hP hD hS hl
            refine lv_iload_n hx hb dX12_drawing_31 rfl (lv_at hl 0 rfl) ?_
            refine lv_sipush (v := 384) hx hb dX12_drawing_32 (by decide) ?_
            refine lv_icmp_ge (tgt := 60) hx hb dX12_drawing_35 (by decide) (fun c_15 => ?_) (fun c_15 => ?_)
            · have n_16 : 384 ≤ j1 := (lf_X12_drawing_17 h q im ms md m_hasMark (nI tn1) hf_ms hf_md hms hmd hsb c_1 n_5 c_7 n_11 c_14 tn1 tn1a tn1b rfl j1 m_hasMark_j1 k31 hj31 hk31 c_15)
              refine lv_aload_n hx hb dX12_drawing_60 rfl (lv_at hl 1 rfl) ?_
              refine lv_dup hx hb dX12_drawing_61 rfl ?_
              refine va_get (D := D) (ci := 12) (v := .int (im 50)) (C := RX12) (T := TX12) (N := 81) hx hb hts inT_X12 hown hK.1 hP 0 rfl rfl 50 (by decide) (hts _ k_1403) (fun _ h9 => h9) rfl dX12_drawing_62 ?_
              refine lv_topv (y := nI md) hf_md ?_
              refine lv_iconst (v := 1) hx hb dX12_drawing_65 (by decide) ?_
              refine lv_iadd hx hb dX12_drawing_66 ?_
              refine lv_topv (y := nI (md + 1)) (nI_add md 1) ?_
              refine va_put (D := D) (ci := 12) (v := .int (nI (md + 1))) (ty := .int) (C := RX12) (T := TX12) (N := 81) hx hb hts inT_X12 tyX12 tyX12_ok nmX12 hown hK.1 hP hD hS 0 rfl rfl 50 (by decide) (hts _ k_1403) (fun _ h9 => h9) rfl (by decide +kernel) rfl rfl (Nat.le_of_ble_eq_true rfl) dX12_drawing_67 (fun H locs hP hD hS => ?_)
              obtain ⟨i_18, ei_18⟩ : ∃ z : Nat → Int32, z = upd im 50 (nI (md + 1)) := ⟨_, rfl⟩
              have hi_18_2 : i_18 2 = nI ms := by rw [ei_18]; exact hf_ms
              have hi_18_50 : i_18 50 = nI (md + 1) := by rw [ei_18]; rfl
              have hsb := SB.put hsb ei_18 (by decide)
              have hP : va_P D vwCl [(h, .inr (12, mG q i_18)), (q 51, .inl (cZ, 1536, .inl m_hasMark_j1))] H := by rw [ei_18, ← mG_50]; exact hP
              have hD : va_D A [(h, .inr (12, mG q i_18)), (q 51, .inl (cZ, 1536, .inl m_hasMark_j1))] := by rw [ei_18, ← mG_50]; exact hD
              refine lv_aload_n hx hb dX12_drawing_70 rfl (lv_at hl 1 rfl) ?_
              refine va_get (D := D) (ci := 12) (v := .int (i_18 50)) (C := RX12) (T := TX12) (N := 81) hx hb hts inT_X12 hown hK.1 hP 0 rfl rfl 50 (by decide) (hts _ k_1403) (fun _ h9 => h9) rfl dX12_drawing_71 ?_
              refine lv_topv (y := nI (md + 1)) hi_18_50 ?_
              refine lv_iconst (v := 1) hx hb dX12_drawing_74 (by decide) ?_
              refine lv_isub hx hb dX12_drawing_75 ?_
              exact W.iret (v := nI (md + 1) - 1) hx hb hr (fun tt9 ht hW => ⟨⟨(nI (md + 1) - 1 : Int32), ((i_18 : Nat → Int32), ((md + 1) : Nat), (m_hasMark_j1 : Nat → Int32)), rfl, (lf_X12_drawing_19 h q im ms md m_hasMark (nI tn1) hf_ms hf_md hms hmd c_1 n_5 c_7 n_11 c_14 tn1 tn1a tn1b rfl j1 m_hasMark_j1 k31 hj31 hk31 c_15 n_16 i_18 hsb hi_18_2 hi_18_50), ⟨by rw [ht]; exact hP, hD⟩⟩, hS.F ht⟩) hS.2.2 dX12_drawing_76 hlocks
            · have n_20 : j1 < 384 := (lf_X12_drawing_21 h q im ms md m_hasMark (nI tn1) hf_ms hf_md hms hmd hsb c_1 n_5 c_7 n_11 c_14 tn1 tn1a tn1b rfl j1 m_hasMark_j1 k31 hj31 hk31 c_15)
              refine lv_aload_n hx hb dX12_drawing_38 rfl (lv_at hl 1 rfl) ?_
              refine va_get (D := D) (ci := 12) (v := .ref (q 51)) (C := RX12) (T := TX12) (N := 81) hx hb hts inT_X12 hown hK.1 hP 0 rfl rfl 51 (by decide) (hts _ k_1404) (fun _ h9 => h9) rfl dX12_drawing_39 ?_
              refine lv_sipush (v := 384) hx hb dX12_drawing_42 (by decide) ?_
              refine lv_aload_n hx hb dX12_drawing_45 rfl (lv_at hl 1 rfl) ?_
              refine va_get (D := D) (ci := 12) (v := .int (im 50)) (C := RX12) (T := TX12) (N := 81) hx hb hts inT_X12 hown hK.1 hP 0 rfl rfl 50 (by decide) (hts _ k_1403) (fun _ h9 => h9) rfl dX12_drawing_46 ?_
              refine lv_topv (y := nI md) hf_md ?_
              refine lv_imul hx hb dX12_drawing_49 ?_
              refine lv_topv (y := nI (384 * md)) (pk_mul 384 md) ?_
              refine lv_iload_n hx hb dX12_drawing_50 rfl (lv_at hl 0 rfl) ?_
              refine lv_iadd hx hb dX12_drawing_51 ?_
              refine lv_topv (y := nI ((384 * md) + j1)) (nI_add (384 * md) j1) ?_
              refine lv_iconst (v := 0) hx hb dX12_drawing_52 (by decide) ?_
              refine st_z hx hb hK hP hD hS 1 rfl (lf_X12_drawing_23 h q im ms md m_hasMark (nI tn1) hf_ms hf_md hms hmd hsb c_1 n_5 c_7 n_11 c_14 tn1 tn1a tn1b rfl j1 m_hasMark_j1 k31 hj31 hk31 c_15 n_20) dX12_drawing_53 (fun f_22 H locs hP hD hS => ?_)
              have hP : va_P D vwCl [(h, .inr (12, mG q im)), (q 51, .inl (cZ, 1536, .inl f_22))] H := hP
              have hD : va_D A [(h, .inr (12, mG q im)), (q 51, .inl (cZ, 1536, .inl f_22))] := hD
              refine lv_iinc (v := nI (j1 + 1)) (lv' := [(2, .int (nI (j1 + 1))), (0, .ref h), (1, .int (nI tn1))]) hx hb dX12_drawing_54 hl (k := 0) rfl (nI_1 j1) (by decide) rfl (fun ls hl => ?_)
              refine lv_goto (tgt := 31) hx hb dX12_drawing_57 (by decide) ?_
              exact ih31 (j1 + 1) f_22 H locs ls (by omega) (by omega)  (hP.sub [0, 1] rfl) (hD.sub [0, 1] (by decide) rfl) hS (lv_sub hl [0, 1, 2] rfl)
        exact lp31 (384 + 1) 0 m_hasMark H locs ls (by omega) (by omega)  (hP.sub [0, 1] rfl) (hD.sub [0, 1] (by decide) rfl) hS (lv_sub hl [0, 1, 2] rfl)
      · refine lv_iconst (v := (-1)) hx hb dX12_drawing_27 (by decide) ?_
        exact W.iret (v := (-1)) hx hb hr (fun tt9 ht hW => ⟨⟨((-1) : Int32), ((im : Nat → Int32), (md : Nat), (m_hasMark : Nat → Int32)), rfl, (lf_X12_drawing_24 h q im ms md m_hasMark n1 hf_ms hf_md hms hmd hsb c_1 n_5 c_7 n_11 c_14), ⟨by rw [ht]; exact hP, hD⟩⟩, hS.F ht⟩) hS.2.2 dX12_drawing_28 hlocks

theorem lf_X12_marks_2 (h : Nat) (q : Nat → Nat) (im : Nat → Int32) (m_hasMark : Nat → Int32) (m_markAcross : Nat → Int32) (m_markDeep : Nat → Int32) (k1 : Nat) (x1 : Nat) (n3 : Int32) (n4 : Int32) (hk1 : k1 < 4) (hx1 : x1 < 384) : vp_in (nI ((384 * k1) + x1)) 1536 := by
  first | exact vp_in_nI (by omega) (by decide) | (unfold vp_in; decide)
theorem lf_X12_marks_4 (h : Nat) (q : Nat → Nat) (im : Nat → Int32) (m_hasMark : Nat → Int32) (m_markAcross : Nat → Int32) (m_markDeep : Nat → Int32) (k1 : Nat) (x1 : Nat) (n3 : Int32) (n4 : Int32) (hk1 : k1 < 4) (hx1 : x1 < 384) (f_1 : Nat → Int32) : vp_in (nI ((384 * k1) + x1)) 1536 := by
  first | exact vp_in_nI (by omega) (by decide) | (unfold vp_in; decide)
theorem lf_X12_marks_6 (h : Nat) (q : Nat → Nat) (im : Nat → Int32) (m_hasMark : Nat → Int32) (m_markAcross : Nat → Int32) (m_markDeep : Nat → Int32) (k1 : Nat) (x1 : Nat) (n3 : Int32) (n4 : Int32) (hk1 : k1 < 4) (hx1 : x1 < 384) (f_1 : Nat → Int32) (f_3 : Nat → Int32) : vp_in (nI ((384 * k1) + x1)) 1536 := by
  first | exact vp_in_nI (by omega) (by decide) | (unfold vp_in; decide)
set_option maxHeartbeats 4000000 in
set_option maxRecDepth 100000 in
theorem c_X12_marks (l : Launch) (D : va_G) (cI cB cZ cJ : ClassId) (tx : List (ClassId × FieldType)) (h : Nat) (q : Nat → Nat) (im : Nat → Int32) (m_hasMark : Nat → Int32) (m_markAcross : Nat → Int32) (m_markDeep : Nat → Int32) (k1 : Nat) (x1 : Nat) (n3 : Int32) (n4 : Int32) (hk1 : k1 < 4) (hx1 : x1 < 384) : WrV l D cI cB cZ cJ tx yX12_marks cX12_marks 5 none 0 0 0 [.ref h, .int (nI k1), .int (nI x1), .int n3, .int n4] [(h, .inr (12, mG q im)), (q 51, .inl (cZ, 1536, .inl m_hasMark)), (q 52, .inl (cI, 1536, .inl m_markAcross)), (q 53, .inl (cI, 1536, .inl m_markDeep))] (fun (v : (Nat → Int32) × (Nat → Int32) × (Nat → Int32)) => True) (fun v => [(h, .inr (12, mG q im)), (q 51, .inl (cZ, 1536, .inl v.1)), (q 52, .inl (cI, 1536, .inl v.2.1)), (q 53, .inl (cI, 1536, .inl v.2.2))]) := by
  refine wrv_of2 (by decide) (Nat.le_of_ble_eq_true rfl) ?_
  intro p e s m below meth c A ls H locs hC hK hP hD hA hS hl
  obtain ⟨hx, hb, hr, hml, hown, hts, hlocks, hin⟩ := hC
  have hown : s.vm.findClass RX12 = some m.cls := hown
  have hl : lv_has ls 5 [(0, .ref h), (1, .int (nI k1)), (2, .int (nI x1)), (3, .int n3), (4, .int n4)] := hl
  refine lv_aload_n hx hb dX12_marks_0 rfl (lv_at hl 0 rfl) ?_
  refine va_get (D := D) (ci := 12) (v := .ref (q 51)) (C := RX12) (T := TX12) (N := 81) hx hb hts inT_X12 hown hK.1 hP 0 rfl rfl 51 (by decide) (hts _ k_1404) (fun _ h9 => h9) rfl dX12_marks_1 ?_
  refine lv_sipush (v := 384) hx hb dX12_marks_4 (by decide) ?_
  refine lv_iload_n hx hb dX12_marks_7 rfl (lv_at hl 1 rfl) ?_
  refine lv_imul hx hb dX12_marks_8 ?_
  refine lv_topv (y := nI (384 * k1)) (pk_mul 384 k1) ?_
  refine lv_iload_n hx hb dX12_marks_9 rfl (lv_at hl 2 rfl) ?_
  refine lv_iadd hx hb dX12_marks_10 ?_
  refine lv_topv (y := nI ((384 * k1) + x1)) (nI_add (384 * k1) x1) ?_
  refine lv_iconst (v := 1) hx hb dX12_marks_11 (by decide) ?_
  refine st_z hx hb hK hP hD hS 1 rfl (lf_X12_marks_2 h q im m_hasMark m_markAcross m_markDeep k1 x1 n3 n4 hk1 hx1) dX12_marks_12 (fun f_1 H locs hP hD hS => ?_)
  have hP : va_P D vwCl [(h, .inr (12, mG q im)), (q 51, .inl (cZ, 1536, .inl f_1)), (q 52, .inl (cI, 1536, .inl m_markAcross)), (q 53, .inl (cI, 1536, .inl m_markDeep))] H := hP
  have hD : va_D A [(h, .inr (12, mG q im)), (q 51, .inl (cZ, 1536, .inl f_1)), (q 52, .inl (cI, 1536, .inl m_markAcross)), (q 53, .inl (cI, 1536, .inl m_markDeep))] := hD
  refine lv_aload_n hx hb dX12_marks_13 rfl (lv_at hl 0 rfl) ?_
  refine va_get (D := D) (ci := 12) (v := .ref (q 52)) (C := RX12) (T := TX12) (N := 81) hx hb hts inT_X12 hown hK.1 hP 0 rfl rfl 52 (by decide) (hts _ k_1405) (fun _ h9 => h9) rfl dX12_marks_14 ?_
  refine lv_sipush (v := 384) hx hb dX12_marks_17 (by decide) ?_
  refine lv_iload_n hx hb dX12_marks_20 rfl (lv_at hl 1 rfl) ?_
  refine lv_imul hx hb dX12_marks_21 ?_
  refine lv_topv (y := nI (384 * k1)) (pk_mul 384 k1) ?_
  refine lv_iload_n hx hb dX12_marks_22 rfl (lv_at hl 2 rfl) ?_
  refine lv_iadd hx hb dX12_marks_23 ?_
  refine lv_topv (y := nI ((384 * k1) + x1)) (nI_add (384 * k1) x1) ?_
  refine lv_iload_n hx hb dX12_marks_24 rfl (lv_at hl 3 rfl) ?_
  refine st_i hx hb hK hP hD hS 2 rfl (lf_X12_marks_4 h q im m_hasMark m_markAcross m_markDeep k1 x1 n3 n4 hk1 hx1 f_1) dX12_marks_25 (fun f_3 H locs hP hD hS => ?_)
  have hP : va_P D vwCl [(h, .inr (12, mG q im)), (q 51, .inl (cZ, 1536, .inl f_1)), (q 52, .inl (cI, 1536, .inl f_3)), (q 53, .inl (cI, 1536, .inl m_markDeep))] H := hP
  have hD : va_D A [(h, .inr (12, mG q im)), (q 51, .inl (cZ, 1536, .inl f_1)), (q 52, .inl (cI, 1536, .inl f_3)), (q 53, .inl (cI, 1536, .inl m_markDeep))] := hD
  refine lv_aload_n hx hb dX12_marks_26 rfl (lv_at hl 0 rfl) ?_
  refine va_get (D := D) (ci := 12) (v := .ref (q 53)) (C := RX12) (T := TX12) (N := 81) hx hb hts inT_X12 hown hK.1 hP 0 rfl rfl 53 (by decide) (hts _ k_1406) (fun _ h9 => h9) rfl dX12_marks_27 ?_
  refine lv_sipush (v := 384) hx hb dX12_marks_30 (by decide) ?_
  refine lv_iload_n hx hb dX12_marks_33 rfl (lv_at hl 1 rfl) ?_
  refine lv_imul hx hb dX12_marks_34 ?_
  refine lv_topv (y := nI (384 * k1)) (pk_mul 384 k1) ?_
  refine lv_iload_n hx hb dX12_marks_35 rfl (lv_at hl 2 rfl) ?_
  refine lv_iadd hx hb dX12_marks_36 ?_
  refine lv_topv (y := nI ((384 * k1) + x1)) (nI_add (384 * k1) x1) ?_
  refine lv_iload hx hb dX12_marks_37 (lv_at hl 4 rfl) ?_
  refine st_i hx hb hK hP hD hS 3 rfl (lf_X12_marks_6 h q im m_hasMark m_markAcross m_markDeep k1 x1 n3 n4 hk1 hx1 f_1 f_3) dX12_marks_39 (fun f_5 H locs hP hD hS => ?_)
  have hP : va_P D vwCl [(h, .inr (12, mG q im)), (q 51, .inl (cZ, 1536, .inl f_1)), (q 52, .inl (cI, 1536, .inl f_3)), (q 53, .inl (cI, 1536, .inl f_5))] H := hP
  have hD : va_D A [(h, .inr (12, mG q im)), (q 51, .inl (cZ, 1536, .inl f_1)), (q 52, .inl (cI, 1536, .inl f_3)), (q 53, .inl (cI, 1536, .inl f_5))] := hD
  exact W.vret hx hb hr (fun tt9 ht hW => ⟨⟨((f_1 : Nat → Int32), (f_3 : Nat → Int32), (f_5 : Nat → Int32)), rfl, trivial, ⟨by rw [ht]; exact hP, hD⟩⟩, hS.F ht⟩) hS.2.2 dX12_marks_40 hlocks

theorem lf_X12_mark_3 (h : Nat) (q : Nat → Nat) (im : Nat → Int32) (ms : Nat) (mk : Nat) (md : Nat) (m_hasMark : Nat → Int32) (m_markAcross : Nat → Int32) (m_markDeep : Nat → Int32) (n1 : Int32) (n2 : Int32) (n3 : Int32) (n4 : Int32) (n5 : Int32) (n6 : Int32) (hf_ms : im 2 = nI ms) (hf_mk : im 3 = nI mk) (hf_md : im 50 = nI md) (hms : ms ≤ 24) (hmk : mk ≤ 8) (hm3 : mk = 0 ∨ 3 ≤ ms) (hmd : md ≤ 4) (c_2 : (0 : Int32) ≤ n1 ∧ n1 ≤ nI md - 1) : md < 2 ^ 31 := by
  omega
theorem lf_X12_mark_4 (h : Nat) (q : Nat → Nat) (im : Nat → Int32) (ms : Nat) (mk : Nat) (md : Nat) (m_hasMark : Nat → Int32) (m_markAcross : Nat → Int32) (m_markDeep : Nat → Int32) (n1 : Int32) (n2 : Int32) (n3 : Int32) (n4 : Int32) (n5 : Int32) (n6 : Int32) (hf_ms : im 2 = nI ms) (hf_mk : im 3 = nI mk) (hf_md : im 50 = nI md) (hms : ms ≤ 24) (hmk : mk ≤ 8) (hm3 : mk = 0 ∨ 3 ≤ ms) (hmd : md ≤ 4) (c_2 : (0 : Int32) ≤ n1 ∧ n1 ≤ nI md - 1) (tn1 : Nat) (tn1a : tn1 < md) (tn1e : n1 = nI tn1) : ms ≤ 24 := by
  first | assumption | omega | decide | rfl
theorem lf_X12_mark_5 (h : Nat) (q : Nat → Nat) (im : Nat → Int32) (ms : Nat) (mk : Nat) (md : Nat) (m_hasMark : Nat → Int32) (m_markAcross : Nat → Int32) (m_markDeep : Nat → Int32) (n1 : Int32) (n2 : Int32) (n3 : Int32) (n4 : Int32) (n5 : Int32) (n6 : Int32) (hf_ms : im 2 = nI ms) (hf_mk : im 3 = nI mk) (hf_md : im 50 = nI md) (hms : ms ≤ 24) (hmk : mk ≤ 8) (hm3 : mk = 0 ∨ 3 ≤ ms) (hmd : md ≤ 4) (c_2 : (0 : Int32) ≤ n1 ∧ n1 ≤ nI md - 1) (tn1 : Nat) (tn1a : tn1 < md) (tn1e : n1 = nI tn1) : mk ≤ 8 := by
  first | assumption | omega | decide | rfl
theorem lf_X12_mark_6 (h : Nat) (q : Nat → Nat) (im : Nat → Int32) (ms : Nat) (mk : Nat) (md : Nat) (m_hasMark : Nat → Int32) (m_markAcross : Nat → Int32) (m_markDeep : Nat → Int32) (n1 : Int32) (n2 : Int32) (n3 : Int32) (n4 : Int32) (n5 : Int32) (n6 : Int32) (hf_ms : im 2 = nI ms) (hf_mk : im 3 = nI mk) (hf_md : im 50 = nI md) (hms : ms ≤ 24) (hmk : mk ≤ 8) (hm3 : mk = 0 ∨ 3 ≤ ms) (hmd : md ≤ 4) (c_2 : (0 : Int32) ≤ n1 ∧ n1 ≤ nI md - 1) (tn1 : Nat) (tn1a : tn1 < md) (tn1e : n1 = nI tn1) : mk = 0 ∨ 3 ≤ ms := by
  first | assumption | omega | decide | rfl
theorem lf_X12_mark_13 (h : Nat) (q : Nat → Nat) (im : Nat → Int32) (ms : Nat) (mk : Nat) (md : Nat) (m_hasMark : Nat → Int32) (m_markAcross : Nat → Int32) (m_markDeep : Nat → Int32) (n1 : Int32) (n2 : Int32) (n3 : Int32) (n4 : Int32) (n5 : Int32) (n6 : Int32) (hf_ms : im 2 = nI ms) (hf_mk : im 3 = nI mk) (hf_md : im 50 = nI md) (hms : ms ≤ 24) (hmk : mk ≤ 8) (hm3 : mk = 0 ∨ 3 ≤ ms) (hmd : md ≤ 4) (c_2 : (0 : Int32) ≤ n1 ∧ n1 ≤ nI md - 1) (tn1 : Nat) (tn1a : tn1 < md) (tn1e : n1 = nI tn1) (ff7 : Nat) (ss7 : Nat) (dd7 : Nat) (hff7 : ff7 < ms) (hss7 : ss7 < mk) (hdd7 : dd7 < 2) (c_9 : ((-6000) : Int32) ≤ n5 ∧ n5 ≤ 6000) (c_11 : ((-6000) : Int32) ≤ n6 ∧ n6 ≤ 6000) : tn1 < 4 := by
  first | assumption | omega | decide | rfl
theorem lf_X12_mark_14 (h : Nat) (q : Nat → Nat) (im : Nat → Int32) (ms : Nat) (mk : Nat) (md : Nat) (m_hasMark : Nat → Int32) (m_markAcross : Nat → Int32) (m_markDeep : Nat → Int32) (n1 : Int32) (n2 : Int32) (n3 : Int32) (n4 : Int32) (n5 : Int32) (n6 : Int32) (hf_ms : im 2 = nI ms) (hf_mk : im 3 = nI mk) (hf_md : im 50 = nI md) (hms : ms ≤ 24) (hmk : mk ≤ 8) (hm3 : mk = 0 ∨ 3 ≤ ms) (hmd : md ≤ 4) (c_2 : (0 : Int32) ≤ n1 ∧ n1 ≤ nI md - 1) (tn1 : Nat) (tn1a : tn1 < md) (tn1e : n1 = nI tn1) (ff7 : Nat) (ss7 : Nat) (dd7 : Nat) (hff7 : ff7 < ms) (hss7 : ss7 < mk) (hdd7 : dd7 < 2) (c_9 : ((-6000) : Int32) ≤ n5 ∧ n5 ≤ 6000) (c_11 : ((-6000) : Int32) ≤ n6 ∧ n6 ≤ 6000) : (16 * ff7 + 2 * ss7 + dd7) < 384 := by
  first | assumption | omega | decide | rfl
set_option maxHeartbeats 4000000 in
set_option maxRecDepth 100000 in
theorem c_X12_mark (l : Launch) (D : va_G) (cI cB cZ cJ : ClassId) (tx : List (ClassId × FieldType)) (h : Nat) (q : Nat → Nat) (im : Nat → Int32) (ms : Nat) (mk : Nat) (md : Nat) (m_hasMark : Nat → Int32) (m_markAcross : Nat → Int32) (m_markDeep : Nat → Int32) (n1 : Int32) (n2 : Int32) (n3 : Int32) (n4 : Int32) (n5 : Int32) (n6 : Int32) (hf_ms : im 2 = nI ms) (hf_mk : im 3 = nI mk) (hf_md : im 50 = nI md) (hms : ms ≤ 24) (hmk : mk ≤ 8) (hm3 : mk = 0 ∨ 3 ≤ ms) (hmd : md ≤ 4) : WrI l D cI cB cZ cJ tx yX12_mark cX12_mark 7 (some .boolean) 3 0 0 [.ref h, .int n1, .int n2, .int n3, .int n4, .int n5, .int n6] [(h, .inr (12, mG q im)), (q 51, .inl (cZ, 1536, .inl m_hasMark)), (q 52, .inl (cI, 1536, .inl m_markAcross)), (q 53, .inl (cI, 1536, .inl m_markDeep))] (fun (r : Int32) (v : (Nat → Int32) × (Nat → Int32) × (Nat → Int32)) => True) (fun v => [(h, .inr (12, mG q im)), (q 51, .inl (cZ, 1536, .inl v.1)), (q 52, .inl (cI, 1536, .inl v.2.1)), (q 53, .inl (cI, 1536, .inl v.2.2))]) := by
  refine wri_of2 (by decide) (Nat.le_of_ble_eq_true rfl) ?_
  intro p e s m below meth c A ls H locs hC hK hP hD hA hS hl
  obtain ⟨hx, hb, hr, hml, hown, hts, hlocks, hin⟩ := hC
  have hown : s.vm.findClass RX12 = some m.cls := hown
  have hl : lv_has ls 7 [(0, .ref h), (1, .int n1), (2, .int n2), (3, .int n3), (4, .int n4), (5, .int n5), (6, .int n6)] := hl
  refine lv_aload_n hx hb dX12_mark_0 rfl (lv_at hl 0 rfl) ?_
  refine lv_iload_n hx hb dX12_mark_1 rfl (lv_at hl 1 rfl) ?_
  refine eRi (va_runV (As := [.int n1]) (rest := []) ⟨hx, hb, hml, hown, hts⟩ (c_X12_isDrawing l D cI cB cZ cJ tx h q im md n1 hf_md H.size) (zV hts k_1841 v_X12_isDrawing ⟨Nat.le_of_ble_eq_true rfl, Nat.le_of_ble_eq_true rfl⟩) (pV (px1 hK hP 0 rfl) hK hP 0 rfl rfl) rfl rfl hl.1 rfl (lv_room (Nat.le_of_ble_eq_true rfl)) dX12_mark_2 ⟨Nat.le_of_ble_eq_true rfl, Nat.le_of_ble_eq_true rfl⟩) hP hS hA (fun r_1 H locs wr_1 hP hS => ?_)
  subst wr_1
  refine lv_bi_eq (tgt := 49) hx hb dX12_mark_5 (by decide) (fun c_2 => ?_) (fun c_2 => ?_)
  · refine lv_iconst (v := 0) hx hb dX12_mark_49 (by decide) ?_
    exact W.zret (v := 0) hx hb hr (by decide) (fun tt9 ht hW => ⟨⟨(0 : Int32), ((m_hasMark : Nat → Int32), (m_markAcross : Nat → Int32), (m_markDeep : Nat → Int32)), rfl, trivial, ⟨by rw [ht]; exact hP, hD⟩⟩, hS.F ht⟩) hS.2.2 dX12_mark_50 hlocks
  · obtain ⟨tn1, tn1a, tn1e⟩ := of_within (lf_X12_mark_3 h q im ms mk md m_hasMark m_markAcross m_markDeep n1 n2 n3 n4 n5 n6 hf_ms hf_mk hf_md hms hmk hm3 hmd c_2) c_2
    subst tn1e
    refine lv_aload_n hx hb dX12_mark_8 rfl (lv_at hl 0 rfl) ?_
    refine lv_iload_n hx hb dX12_mark_9 rfl (lv_at hl 2 rfl) ?_
    refine lv_iload_n hx hb dX12_mark_10 rfl (lv_at hl 3 rfl) ?_
    refine lv_iload hx hb dX12_mark_11 (lv_at hl 4 rfl) ?_
    refine eRi (va_runV (As := [.int n2, .int n3, .int n4]) (rest := []) ⟨hx, hb, hml, hown, hts⟩ (c_X12_isRivet l D cI cB cZ cJ tx h q im ms mk n2 n3 n4 hf_ms hf_mk (lf_X12_mark_4 h q im ms mk md m_hasMark m_markAcross m_markDeep (nI tn1) n2 n3 n4 n5 n6 hf_ms hf_mk hf_md hms hmk hm3 hmd c_2 tn1 tn1a rfl) (lf_X12_mark_5 h q im ms mk md m_hasMark m_markAcross m_markDeep (nI tn1) n2 n3 n4 n5 n6 hf_ms hf_mk hf_md hms hmk hm3 hmd c_2 tn1 tn1a rfl) (lf_X12_mark_6 h q im ms mk md m_hasMark m_markAcross m_markDeep (nI tn1) n2 n3 n4 n5 n6 hf_ms hf_mk hf_md hms hmk hm3 hmd c_2 tn1 tn1a rfl) H.size) (zV hts k_1799 v_X12_isRivet ⟨Nat.le_of_ble_eq_true rfl, Nat.le_of_ble_eq_true rfl⟩) (pV (px1 hK hP 0 rfl) hK hP 0 rfl rfl) rfl rfl hl.1 rfl (lv_room (Nat.le_of_ble_eq_true rfl)) dX12_mark_13 ⟨Nat.le_of_ble_eq_true rfl, Nat.le_of_ble_eq_true rfl⟩) hP hS hA (fun r_7 H locs wr_7 hP hS => ?_)
    rcases wr_7 with rfl | ⟨ff7, ss7, dd7, hff7, hss7, hdd7, rfl, rfl, rfl, rfl⟩
    · refine lv_if_eq (tgt := 49) hx hb dX12_mark_16 (by decide) (fun _ => ?_) (fun c => absurd c (by decide))
      refine lv_iconst (v := 0) hx hb dX12_mark_49 (by decide) ?_
      exact W.zret (v := 0) hx hb hr (by decide) (fun tt9 ht hW => ⟨⟨(0 : Int32), ((m_hasMark : Nat → Int32), (m_markAcross : Nat → Int32), (m_markDeep : Nat → Int32)), rfl, trivial, ⟨by rw [ht]; exact hP, hD⟩⟩, hS.F ht⟩) hS.2.2 dX12_mark_50 hlocks
    · refine lv_if_eq (tgt := 49) hx hb dX12_mark_16 (by decide) (fun c => absurd c (by decide)) (fun _ => ?_)
      refine lv_iload hx hb dX12_mark_19 (lv_at hl 5 rfl) ?_
      refine lv_i2l (v := n5.toInt64) hx hb dX12_mark_21 rfl ?_
      refine lv_ldc2 (v := (-6000)) hx hb hown (hts _ k_1845) dX12_mark_22 ?_
      refine lv_ldc2 (v := 6000) hx hb hown (hts _ k_1846) dX12_mark_25 ?_
      refine eRi (va_runS (As := [.long n5.toInt64, .long (-6000), .long 6000]) (rest := []) ⟨hx, hb, hml, hown, hts⟩ (c_X12_isIn l D cI cB cZ cJ tx n5.toInt64 (-6000) 6000 H.size) (zS hts k_1602 v_X12_isIn ⟨Nat.le_of_ble_eq_true rfl, Nat.le_of_ble_eq_true rfl⟩) (px0 hK) rfl rfl hl.1 rfl (lv_room (Nat.le_of_ble_eq_true rfl)) dX12_mark_28 ⟨Nat.le_of_ble_eq_true rfl, Nat.le_of_ble_eq_true rfl⟩) hP hS hA (fun r_8 H locs wr_8 hP hS => ?_)
      have wr_8 : r_8 = bi (((-6000) : Int32) ≤ n5 ∧ n5 ≤ 6000) := isIn32 (lo := (-6000)) (hi := 6000) (by decide) (by decide) wr_8
      subst wr_8
      refine lv_bi_eq (tgt := 49) hx hb dX12_mark_31 (by decide) (fun c_9 => ?_) (fun c_9 => ?_)
      · refine lv_iconst (v := 0) hx hb dX12_mark_49 (by decide) ?_
        exact W.zret (v := 0) hx hb hr (by decide) (fun tt9 ht hW => ⟨⟨(0 : Int32), ((m_hasMark : Nat → Int32), (m_markAcross : Nat → Int32), (m_markDeep : Nat → Int32)), rfl, trivial, ⟨by rw [ht]; exact hP, hD⟩⟩, hS.F ht⟩) hS.2.2 dX12_mark_50 hlocks
      · refine lv_iload hx hb dX12_mark_34 (lv_at hl 6 rfl) ?_
        refine lv_i2l (v := n6.toInt64) hx hb dX12_mark_36 rfl ?_
        refine lv_ldc2 (v := (-6000)) hx hb hown (hts _ k_1845) dX12_mark_37 ?_
        refine lv_ldc2 (v := 6000) hx hb hown (hts _ k_1846) dX12_mark_40 ?_
        refine eRi (va_runS (As := [.long n6.toInt64, .long (-6000), .long 6000]) (rest := []) ⟨hx, hb, hml, hown, hts⟩ (c_X12_isIn l D cI cB cZ cJ tx n6.toInt64 (-6000) 6000 H.size) (zS hts k_1602 v_X12_isIn ⟨Nat.le_of_ble_eq_true rfl, Nat.le_of_ble_eq_true rfl⟩) (px0 hK) rfl rfl hl.1 rfl (lv_room (Nat.le_of_ble_eq_true rfl)) dX12_mark_43 ⟨Nat.le_of_ble_eq_true rfl, Nat.le_of_ble_eq_true rfl⟩) hP hS hA (fun r_10 H locs wr_10 hP hS => ?_)
        have wr_10 : r_10 = bi (((-6000) : Int32) ≤ n6 ∧ n6 ≤ 6000) := isIn32 (lo := (-6000)) (hi := 6000) (by decide) (by decide) wr_10
        subst wr_10
        refine lv_bi_ne (tgt := 51) hx hb dX12_mark_46 (by decide) (fun c_11 => ?_) (fun c_11 => ?_)
        · refine lv_aload_n hx hb dX12_mark_51 rfl (lv_at hl 0 rfl) ?_
          refine lv_iload_n hx hb dX12_mark_52 rfl (lv_at hl 1 rfl) ?_
          refine lv_iload_n hx hb dX12_mark_53 rfl (lv_at hl 2 rfl) ?_
          refine lv_iload_n hx hb dX12_mark_54 rfl (lv_at hl 3 rfl) ?_
          refine lv_iload hx hb dX12_mark_55 (lv_at hl 4 rfl) ?_
          refine eRi (va_runS (As := [.int (nI ff7), .int (nI ss7), .int (nI dd7)]) (rest := [.int (nI tn1), .ref h]) ⟨hx, hb, hml, hown, hts⟩ (c_X12_cellOf l D cI cB cZ cJ tx ff7 ss7 dd7 H.size) (zS hts k_1735 v_X12_cellOf ⟨Nat.le_of_ble_eq_true rfl, Nat.le_of_ble_eq_true rfl⟩) (px0 hK) rfl rfl hl.1 rfl (lv_room (Nat.le_of_ble_eq_true rfl)) dX12_mark_57 ⟨Nat.le_of_ble_eq_true rfl, Nat.le_of_ble_eq_true rfl⟩) hP hS hA (fun r_12 H locs wr_12 hP hS => ?_)
          subst wr_12
          refine lv_iload hx hb dX12_mark_60 (lv_at hl 5 rfl) ?_
          refine lv_iload hx hb dX12_mark_62 (lv_at hl 6 rfl) ?_
          refine eWv (wr := []) (va_runV (As := [.int (nI tn1), .int (nI (16 * ff7 + 2 * ss7 + dd7)), .int n5, .int n6]) (rest := []) ⟨hx, hb, hml, hown, hts⟩ (c_X12_marks l D cI cB cZ cJ tx h q im m_hasMark m_markAcross m_markDeep tn1 (16 * ff7 + 2 * ss7 + dd7) n5 n6 (lf_X12_mark_13 h q im ms mk md m_hasMark m_markAcross m_markDeep (nI tn1) (nI ff7) (nI ss7) (nI dd7) n5 n6 hf_ms hf_mk hf_md hms hmk hm3 hmd c_2 tn1 tn1a rfl ff7 ss7 dd7 hff7 hss7 hdd7 c_9 c_11) (lf_X12_mark_14 h q im ms mk md m_hasMark m_markAcross m_markDeep (nI tn1) (nI ff7) (nI ss7) (nI dd7) n5 n6 hf_ms hf_mk hf_md hms hmk hm3 hmd c_2 tn1 tn1a rfl ff7 ss7 dd7 hff7 hss7 hdd7 c_9 c_11) H.size) (zV hts k_1847 v_X12_marks ⟨Nat.le_of_ble_eq_true rfl, Nat.le_of_ble_eq_true rfl⟩) (pV (pxS hK hP hD [0, 1, 2, 3] (by decide) rfl) hK hP 0 rfl rfl) rfl rfl hl.1 rfl (lv_room (Nat.le_of_ble_eq_true rfl)) dX12_mark_64 ⟨Nat.le_of_ble_eq_true rfl, Nat.le_of_ble_eq_true rfl⟩) hP hD hS hA [0, 1, 2, 3] [] rfl rfl (by decide) (by decide) (fun u_16 H locs wr_15 hP hD hS => ?_)
          obtain ⟨m_hasMark_16, m_markAcross_16, m_markDeep_16⟩ := u_16
          have hP : va_P D vwCl [(h, .inr (12, mG q im)), (q 51, .inl (cZ, 1536, .inl m_hasMark_16)), (q 52, .inl (cI, 1536, .inl m_markAcross_16)), (q 53, .inl (cI, 1536, .inl m_markDeep_16))] H := hP
          have hD : va_D A [(h, .inr (12, mG q im)), (q 51, .inl (cZ, 1536, .inl m_hasMark_16)), (q 52, .inl (cI, 1536, .inl m_markAcross_16)), (q 53, .inl (cI, 1536, .inl m_markDeep_16))] := hD
          refine lv_iconst (v := 1) hx hb dX12_mark_67 (by decide) ?_
          exact W.zret (v := 1) hx hb hr (by decide) (fun tt9 ht hW => ⟨⟨(1 : Int32), ((m_hasMark_16 : Nat → Int32), (m_markAcross_16 : Nat → Int32), (m_markDeep_16 : Nat → Int32)), rfl, trivial, ⟨by rw [ht]; exact hP, hD⟩⟩, hS.F ht⟩) hS.2.2 dX12_mark_68 hlocks
        · refine lv_iconst (v := 0) hx hb dX12_mark_49 (by decide) ?_
          exact W.zret (v := 0) hx hb hr (by decide) (fun tt9 ht hW => ⟨⟨(0 : Int32), ((m_hasMark : Nat → Int32), (m_markAcross : Nat → Int32), (m_markDeep : Nat → Int32)), rfl, trivial, ⟨by rw [ht]; exact hP, hD⟩⟩, hS.F ht⟩) hS.2.2 dX12_mark_50 hlocks

theorem lf_X12_marksOf_3 (h : Nat) (q : Nat → Nat) (im : Nat → Int32) (m_hasMark : Nat → Int32) (k1 : Nat) (hk1 : k1 < 4) (j1 : Nat) (w1 : Int32) (k4 : Nat) (hj4 : j1 ≤ 384) (hk4 : 384 < j1 + (k4 + 1)) (c_1 : 384 ≤ nI j1) : 384 ≤ j1 := by
  exact (nI_leI (a := 384) (b := j1) (by omega) (by omega)).mp c_1
theorem lf_X12_marksOf_5 (h : Nat) (q : Nat → Nat) (im : Nat → Int32) (m_hasMark : Nat → Int32) (k1 : Nat) (hk1 : k1 < 4) (j1 : Nat) (w1 : Int32) (k4 : Nat) (hj4 : j1 ≤ 384) (hk4 : 384 < j1 + (k4 + 1)) (c_1 : ¬ 384 ≤ nI j1) : j1 < 384 := by
  exact Nat.lt_of_not_le (fun q => c_1 ((nI_leI (a := 384) (b := j1) (by omega) (by omega)).mpr q))
theorem lf_X12_marksOf_6 (h : Nat) (q : Nat → Nat) (im : Nat → Int32) (m_hasMark : Nat → Int32) (k1 : Nat) (hk1 : k1 < 4) (j1 : Nat) (w1 : Int32) (k4 : Nat) (hj4 : j1 ≤ 384) (hk4 : 384 < j1 + (k4 + 1)) (c_1 : ¬ 384 ≤ nI j1) (n_4 : j1 < 384) : vp_in (nI ((384 * k1) + j1)) 1536 := by
  first | exact vp_in_nI (by omega) (by decide) | (unfold vp_in; decide)
set_option maxHeartbeats 4000000 in
set_option maxRecDepth 100000 in
theorem c_X12_marksOf (l : Launch) (D : va_G) (cI cB cZ cJ : ClassId) (tx : List (ClassId × FieldType)) (h : Nat) (q : Nat → Nat) (im : Nat → Int32) (m_hasMark : Nat → Int32) (k1 : Nat) (hk1 : k1 < 4) : RdI l D cI cB cZ cJ tx yX12_marksOf cX12_marksOf 4 (some .int) 0 [.ref h, .int (nI k1)] [(h, .inr (12, mG q im)), (q 51, .inl (cZ, 1536, .inl m_hasMark))] (fun r => True) := by
  refine rdi_of2 (by decide) (Nat.le_of_ble_eq_true rfl) ?_
  intro p e s m below meth c A ls H locs hC hK hP hD hA hS hl
  obtain ⟨hx, hb, hr, hml, hown, hts, hlocks, hin⟩ := hC
  have hown : s.vm.findClass RX12 = some m.cls := hown
  have hl : lv_has ls 4 [(0, .ref h), (1, .int (nI k1))] := hl
  refine lv_iconst (v := 0) hx hb dX12_marksOf_0 (by decide) ?_
  refine lv_istore_n (lv' := [(2, .int 0), (0, .ref h), (1, .int (nI k1))]) hx hb dX12_marksOf_1 rfl hl (by decide) rfl (fun ls hl => ?_)
  refine lv_iconst (v := 0) hx hb dX12_marksOf_2 (by decide) ?_
  refine lv_istore_n (lv' := [(3, .int 0), (2, .int 0), (0, .ref h), (1, .int (nI k1))]) hx hb dX12_marksOf_3 rfl hl (by decide) rfl (fun ls hl => ?_)
  have lp4 : ∀ (k4 : Nat) (j1 : Nat) (w1 : Int32) (H : Heap) (locs : List Loc) (ls : Array Slot), j1 ≤ 384 → 384 < j1 + k4 → va_P D vwCl [(h, .inr (12, mG q im)), (q 51, .inl (cZ, 1536, .inl m_hasMark))] H → va_S A s.heap H locs → lv_has ls 4 [(3, .int (nI j1)), (2, .int w1), (0, .ref h), (1, .int (nI k1))] → W p l e (rmX 0 0 0) s m ([.ref h, .int (nI k1)] : List Value).toArray below meth c H locs 0 0 (MQ below (va_Qi (fun r (_ : Unit) => (fun r => True) r) (fun _ _ => True) A) ([.ref h, .int (nI k1)] : List Value).toArray s 0 0 A) (F0 m 4 ls []) := by
    intro k4
    induction k4 with
    | zero =>
      intro j1 w1 H locs ls hj4 hk4  hP hS hl
      exact absurd hk4 (by omega)
    | succ k4 ih4 =>
      intro j1 w1 H locs ls hj4 hk4  hP hS hl
      refine lv_iload_n hx hb dX12_marksOf_4 rfl (lv_at hl 0 rfl) ?_
      refine lv_sipush (v := 384) hx hb dX12_marksOf_5 (by decide) ?_
      refine lv_icmp_ge (tgt := 40) hx hb dX12_marksOf_8 (by decide) (fun c_1 => ?_) (fun c_1 => ?_)
      · have n_2 : 384 ≤ j1 := (lf_X12_marksOf_3 h q im m_hasMark k1 hk1 j1 w1 k4 hj4 hk4 c_1)
        refine lv_iload_n hx hb dX12_marksOf_40 rfl (lv_at hl 1 rfl) ?_
        exact W.iret (v := w1) hx hb hr (fun tt9 ht hW => ⟨⟨(w1 : Int32), (), rfl, trivial, trivial⟩, hS.F ht⟩) hS.2.2 dX12_marksOf_41 hlocks
      · have n_4 : j1 < 384 := (lf_X12_marksOf_5 h q im m_hasMark k1 hk1 j1 w1 k4 hj4 hk4 c_1)
        refine lv_iload_n hx hb dX12_marksOf_11 rfl (lv_at hl 1 rfl) ?_
        refine lv_aload_n hx hb dX12_marksOf_12 rfl (lv_at hl 2 rfl) ?_
        refine va_get (D := D) (ci := 12) (v := .ref (q 51)) (C := RX12) (T := TX12) (N := 81) hx hb hts inT_X12 hown hK.1 hP 0 rfl rfl 51 (by decide) (hts _ k_1404) (fun _ h9 => h9) rfl dX12_marksOf_13 ?_
        refine lv_sipush (v := 384) hx hb dX12_marksOf_16 (by decide) ?_
        refine lv_iload_n hx hb dX12_marksOf_19 rfl (lv_at hl 3 rfl) ?_
        refine lv_imul hx hb dX12_marksOf_20 ?_
        refine lv_topv (y := nI (384 * k1)) (pk_mul 384 k1) ?_
        refine lv_iload_n hx hb dX12_marksOf_21 rfl (lv_at hl 0 rfl) ?_
        refine lv_iadd hx hb dX12_marksOf_22 ?_
        refine lv_topv (y := nI ((384 * k1) + j1)) (nI_add (384 * k1) j1) ?_
        refine ld_z hx hb hK hP 1 rfl (lf_X12_marksOf_6 h q im m_hasMark k1 hk1 j1 w1 k4 hj4 hk4 c_1 n_4) dX12_marksOf_23 (fun x_7 => ?_)
        refine lv_if_eq (tgt := 31) hx hb dX12_marksOf_24 (by decide) (fun c_8 => ?_) (fun c_8 => ?_)
        · refine lv_iconst (v := 0) hx hb dX12_marksOf_31 (by decide) ?_
          refine lv_iadd hx hb dX12_marksOf_32 ?_
          refine lv_topi (fun x_9 ex_9 => ?_)
          refine lv_istore_n (lv' := [(2, .int x_9), (3, .int (nI j1)), (0, .ref h), (1, .int (nI k1))]) hx hb dX12_marksOf_33 rfl hl (by decide) rfl (fun ls hl => ?_)
          refine lv_iinc (v := nI (j1 + 1)) (lv' := [(3, .int (nI (j1 + 1))), (2, .int x_9), (0, .ref h), (1, .int (nI k1))]) hx hb dX12_marksOf_34 hl (k := 1) rfl (nI_1 j1) (by decide) rfl (fun ls hl => ?_)
          refine lv_goto (tgt := 4) hx hb dX12_marksOf_37 (by decide) ?_
          exact ih4 (j1 + 1) x_9 H locs ls (by omega) (by omega)  (hP.sub [0, 1] rfl)  hS (lv_sub hl [0, 1, 2, 3] rfl)
        · refine lv_iconst (v := 1) hx hb dX12_marksOf_27 (by decide) ?_
          refine lv_goto (tgt := 32) hx hb dX12_marksOf_28 (by decide) ?_
          refine lv_iadd hx hb dX12_marksOf_32 ?_
          refine lv_topi (fun x_10 ex_10 => ?_)
          refine lv_istore_n (lv' := [(2, .int x_10), (3, .int (nI j1)), (0, .ref h), (1, .int (nI k1))]) hx hb dX12_marksOf_33 rfl hl (by decide) rfl (fun ls hl => ?_)
          refine lv_iinc (v := nI (j1 + 1)) (lv' := [(3, .int (nI (j1 + 1))), (2, .int x_10), (0, .ref h), (1, .int (nI k1))]) hx hb dX12_marksOf_34 hl (k := 1) rfl (nI_1 j1) (by decide) rfl (fun ls hl => ?_)
          refine lv_goto (tgt := 4) hx hb dX12_marksOf_37 (by decide) ?_
          exact ih4 (j1 + 1) x_10 H locs ls (by omega) (by omega)  (hP.sub [0, 1] rfl)  hS (lv_sub hl [0, 1, 2, 3] rfl)
  exact lp4 (384 + 1) 0 0 H locs ls (by omega) (by omega)  (hP.sub [0, 1] rfl)  hS (lv_sub hl [0, 1, 2, 3] rfl)

theorem lf_X12_draw_3 (h : Nat) (q : Nat → Nat) (im : Nat → Int32) (ms : Nat) (mk : Nat) (md : Nat) (m_across : Nat → Int32) (m_deep : Nat → Int32) (m_isGone : Nat → Int32) (m_hasMark : Nat → Int32) (m_markAcross : Nat → Int32) (m_markDeep : Nat → Int32) (n1 : Int32) (n2 : Int32) (n3 : Int32) (n4 : Int32) (hf_ms : im 2 = nI ms) (hf_mk : im 3 = nI mk) (hf_md : im 50 = nI md) (hms : ms ≤ 24) (hmk : mk ≤ 8) (hm3 : mk = 0 ∨ 3 ≤ ms) (hmd : md ≤ 4) (hsb : SB [5] im im) (c_2 : ¬ ((0 : Int32) ≤ n1 ∧ n1 ≤ nI md - 1)) : (SB [5] im (im : Nat → Int32)) := by
  repeat' apply And.intro
  all_goals first | assumption | omega | rfl | trivial
theorem lf_X12_draw_4 (h : Nat) (q : Nat → Nat) (im : Nat → Int32) (ms : Nat) (mk : Nat) (md : Nat) (m_across : Nat → Int32) (m_deep : Nat → Int32) (m_isGone : Nat → Int32) (m_hasMark : Nat → Int32) (m_markAcross : Nat → Int32) (m_markDeep : Nat → Int32) (n1 : Int32) (n2 : Int32) (n3 : Int32) (n4 : Int32) (hf_ms : im 2 = nI ms) (hf_mk : im 3 = nI mk) (hf_md : im 50 = nI md) (hms : ms ≤ 24) (hmk : mk ≤ 8) (hm3 : mk = 0 ∨ 3 ≤ ms) (hmd : md ≤ 4) (hsb : SB [5] im im) (c_2 : (0 : Int32) ≤ n1 ∧ n1 ≤ nI md - 1) : md < 2 ^ 31 := by
  omega
theorem lf_X12_draw_7 (h : Nat) (q : Nat → Nat) (im : Nat → Int32) (ms : Nat) (mk : Nat) (md : Nat) (m_across : Nat → Int32) (m_deep : Nat → Int32) (m_isGone : Nat → Int32) (m_hasMark : Nat → Int32) (m_markAcross : Nat → Int32) (m_markDeep : Nat → Int32) (n1 : Int32) (n2 : Int32) (n3 : Int32) (n4 : Int32) (hf_ms : im 2 = nI ms) (hf_mk : im 3 = nI mk) (hf_md : im 50 = nI md) (hms : ms ≤ 24) (hmk : mk ≤ 8) (hm3 : mk = 0 ∨ 3 ≤ ms) (hmd : md ≤ 4) (hsb : SB [5] im im) (c_2 : (0 : Int32) ≤ n1 ∧ n1 ≤ nI md - 1) (tn1 : Nat) (tn1a : tn1 < md) (tn1e : n1 = nI tn1) (c_6 : ¬ (((-2000) : Int32) ≤ n2 ∧ n2 ≤ 2000)) : (SB [5] im (im : Nat → Int32)) := by
  repeat' apply And.intro
  all_goals first | assumption | omega | rfl | trivial
theorem lf_X12_draw_10 (h : Nat) (q : Nat → Nat) (im : Nat → Int32) (ms : Nat) (mk : Nat) (md : Nat) (m_across : Nat → Int32) (m_deep : Nat → Int32) (m_isGone : Nat → Int32) (m_hasMark : Nat → Int32) (m_markAcross : Nat → Int32) (m_markDeep : Nat → Int32) (n1 : Int32) (n2 : Int32) (n3 : Int32) (n4 : Int32) (hf_ms : im 2 = nI ms) (hf_mk : im 3 = nI mk) (hf_md : im 50 = nI md) (hms : ms ≤ 24) (hmk : mk ≤ 8) (hm3 : mk = 0 ∨ 3 ≤ ms) (hmd : md ≤ 4) (hsb : SB [5] im im) (c_2 : (0 : Int32) ≤ n1 ∧ n1 ≤ nI md - 1) (tn1 : Nat) (tn1a : tn1 < md) (tn1e : n1 = nI tn1) (c_6 : ((-2000) : Int32) ≤ n2 ∧ n2 ≤ 2000) (c_9 : ¬ (((-2000) : Int32) ≤ n3 ∧ n3 ≤ 2000)) : (SB [5] im (im : Nat → Int32)) := by
  repeat' apply And.intro
  all_goals first | assumption | omega | rfl | trivial
theorem lf_X12_draw_15 (h : Nat) (q : Nat → Nat) (im : Nat → Int32) (ms : Nat) (mk : Nat) (md : Nat) (m_across : Nat → Int32) (m_deep : Nat → Int32) (m_isGone : Nat → Int32) (m_hasMark : Nat → Int32) (m_markAcross : Nat → Int32) (m_markDeep : Nat → Int32) (n1 : Int32) (n2 : Int32) (n3 : Int32) (n4 : Int32) (hf_ms : im 2 = nI ms) (hf_mk : im 3 = nI mk) (hf_md : im 50 = nI md) (hms : ms ≤ 24) (hmk : mk ≤ 8) (hm3 : mk = 0 ∨ 3 ≤ ms) (hmd : md ≤ 4) (c_2 : (0 : Int32) ≤ n1 ∧ n1 ≤ nI md - 1) (tn1 : Nat) (tn1a : tn1 < md) (tn1e : n1 = nI tn1) (c_6 : ((-2000) : Int32) ≤ n2 ∧ n2 ≤ 2000) (c_9 : ((-2000) : Int32) ≤ n3 ∧ n3 ≤ 2000) (c_12 : (0 : Int32) ≤ n4 ∧ n4 ≤ 1000) (tn4 : Nat) (tn4a : 0 ≤ tn4) (tn4b : tn4 ≤ 1000) (tn4e : n4 = nI tn4) (j1 : Nat) (m_hasMark_j1 : Nat → Int32) (m_markAcross_j1 : Nat → Int32) (m_markDeep_j1 : Nat → Int32) (im_54 : Nat → Int32) (k54 : Nat) (hj54 : j1 ≤ ms) (hk54 : ms < j1 + (k54 + 1)) (hsb : SB [5] im im_54) (hm54_2 : im_54 2 = nI ms) (hm54_3 : im_54 3 = nI mk) (hm54_50 : im_54 50 = nI md) (c_13 : nI ms ≤ nI j1) : ms ≤ j1 := by
  exact (nI_leI (a := ms) (b := j1) (by omega) (by omega)).mp c_13
theorem lf_X12_draw_16 (h : Nat) (q : Nat → Nat) (im : Nat → Int32) (ms : Nat) (mk : Nat) (md : Nat) (m_across : Nat → Int32) (m_deep : Nat → Int32) (m_isGone : Nat → Int32) (m_hasMark : Nat → Int32) (m_markAcross : Nat → Int32) (m_markDeep : Nat → Int32) (n1 : Int32) (n2 : Int32) (n3 : Int32) (n4 : Int32) (hf_ms : im 2 = nI ms) (hf_mk : im 3 = nI mk) (hf_md : im 50 = nI md) (hms : ms ≤ 24) (hmk : mk ≤ 8) (hm3 : mk = 0 ∨ 3 ≤ ms) (hmd : md ≤ 4) (c_2 : (0 : Int32) ≤ n1 ∧ n1 ≤ nI md - 1) (tn1 : Nat) (tn1a : tn1 < md) (tn1e : n1 = nI tn1) (c_6 : ((-2000) : Int32) ≤ n2 ∧ n2 ≤ 2000) (c_9 : ((-2000) : Int32) ≤ n3 ∧ n3 ≤ 2000) (c_12 : (0 : Int32) ≤ n4 ∧ n4 ≤ 1000) (tn4 : Nat) (tn4a : 0 ≤ tn4) (tn4b : tn4 ≤ 1000) (tn4e : n4 = nI tn4) (j1 : Nat) (m_hasMark_j1 : Nat → Int32) (m_markAcross_j1 : Nat → Int32) (m_markDeep_j1 : Nat → Int32) (im_54 : Nat → Int32) (k54 : Nat) (hj54 : j1 ≤ ms) (hk54 : ms < j1 + (k54 + 1)) (hsb : SB [5] im im_54) (hm54_2 : im_54 2 = nI ms) (hm54_3 : im_54 3 = nI mk) (hm54_50 : im_54 50 = nI md) (c_13 : nI ms ≤ nI j1) (n_14 : ms ≤ j1) : tn1 < 4 := by
  first | assumption | omega | decide | rfl
theorem lf_X12_draw_18 (h : Nat) (q : Nat → Nat) (im : Nat → Int32) (ms : Nat) (mk : Nat) (md : Nat) (m_across : Nat → Int32) (m_deep : Nat → Int32) (m_isGone : Nat → Int32) (m_hasMark : Nat → Int32) (m_markAcross : Nat → Int32) (m_markDeep : Nat → Int32) (n1 : Int32) (n2 : Int32) (n3 : Int32) (n4 : Int32) (hf_ms : im 2 = nI ms) (hf_mk : im 3 = nI mk) (hf_md : im 50 = nI md) (hms : ms ≤ 24) (hmk : mk ≤ 8) (hm3 : mk = 0 ∨ 3 ≤ ms) (hmd : md ≤ 4) (c_2 : (0 : Int32) ≤ n1 ∧ n1 ≤ nI md - 1) (tn1 : Nat) (tn1a : tn1 < md) (tn1e : n1 = nI tn1) (c_6 : ((-2000) : Int32) ≤ n2 ∧ n2 ≤ 2000) (c_9 : ((-2000) : Int32) ≤ n3 ∧ n3 ≤ 2000) (c_12 : (0 : Int32) ≤ n4 ∧ n4 ≤ 1000) (tn4 : Nat) (tn4a : 0 ≤ tn4) (tn4b : tn4 ≤ 1000) (tn4e : n4 = nI tn4) (j1 : Nat) (m_hasMark_j1 : Nat → Int32) (m_markAcross_j1 : Nat → Int32) (m_markDeep_j1 : Nat → Int32) (im_54 : Nat → Int32) (k54 : Nat) (hj54 : j1 ≤ ms) (hk54 : ms < j1 + (k54 + 1)) (hsb : SB [5] im im_54) (hm54_2 : im_54 2 = nI ms) (hm54_3 : im_54 3 = nI mk) (hm54_50 : im_54 50 = nI md) (c_13 : nI ms ≤ nI j1) (n_14 : ms ≤ j1) (r_17 : Int32) : (SB [5] im (im_54 : Nat → Int32)) := by
  repeat' apply And.intro
  all_goals first | assumption | omega | rfl | trivial
theorem lf_X12_draw_20 (h : Nat) (q : Nat → Nat) (im : Nat → Int32) (ms : Nat) (mk : Nat) (md : Nat) (m_across : Nat → Int32) (m_deep : Nat → Int32) (m_isGone : Nat → Int32) (m_hasMark : Nat → Int32) (m_markAcross : Nat → Int32) (m_markDeep : Nat → Int32) (n1 : Int32) (n2 : Int32) (n3 : Int32) (n4 : Int32) (hf_ms : im 2 = nI ms) (hf_mk : im 3 = nI mk) (hf_md : im 50 = nI md) (hms : ms ≤ 24) (hmk : mk ≤ 8) (hm3 : mk = 0 ∨ 3 ≤ ms) (hmd : md ≤ 4) (c_2 : (0 : Int32) ≤ n1 ∧ n1 ≤ nI md - 1) (tn1 : Nat) (tn1a : tn1 < md) (tn1e : n1 = nI tn1) (c_6 : ((-2000) : Int32) ≤ n2 ∧ n2 ≤ 2000) (c_9 : ((-2000) : Int32) ≤ n3 ∧ n3 ≤ 2000) (c_12 : (0 : Int32) ≤ n4 ∧ n4 ≤ 1000) (tn4 : Nat) (tn4a : 0 ≤ tn4) (tn4b : tn4 ≤ 1000) (tn4e : n4 = nI tn4) (j1 : Nat) (m_hasMark_j1 : Nat → Int32) (m_markAcross_j1 : Nat → Int32) (m_markDeep_j1 : Nat → Int32) (im_54 : Nat → Int32) (k54 : Nat) (hj54 : j1 ≤ ms) (hk54 : ms < j1 + (k54 + 1)) (hsb : SB [5] im im_54) (hm54_2 : im_54 2 = nI ms) (hm54_3 : im_54 3 = nI mk) (hm54_50 : im_54 50 = nI md) (c_13 : ¬ nI ms ≤ nI j1) : j1 < ms := by
  exact Nat.lt_of_not_le (fun q => c_13 ((nI_leI (a := ms) (b := j1) (by omega) (by omega)).mpr q))
theorem lf_X12_draw_23 (h : Nat) (q : Nat → Nat) (im : Nat → Int32) (ms : Nat) (mk : Nat) (md : Nat) (m_across : Nat → Int32) (m_deep : Nat → Int32) (m_isGone : Nat → Int32) (m_hasMark : Nat → Int32) (m_markAcross : Nat → Int32) (m_markDeep : Nat → Int32) (n1 : Int32) (n2 : Int32) (n3 : Int32) (n4 : Int32) (hf_ms : im 2 = nI ms) (hf_mk : im 3 = nI mk) (hf_md : im 50 = nI md) (hms : ms ≤ 24) (hmk : mk ≤ 8) (hm3 : mk = 0 ∨ 3 ≤ ms) (hmd : md ≤ 4) (c_2 : (0 : Int32) ≤ n1 ∧ n1 ≤ nI md - 1) (tn1 : Nat) (tn1a : tn1 < md) (tn1e : n1 = nI tn1) (c_6 : ((-2000) : Int32) ≤ n2 ∧ n2 ≤ 2000) (c_9 : ((-2000) : Int32) ≤ n3 ∧ n3 ≤ 2000) (c_12 : (0 : Int32) ≤ n4 ∧ n4 ≤ 1000) (tn4 : Nat) (tn4a : 0 ≤ tn4) (tn4b : tn4 ≤ 1000) (tn4e : n4 = nI tn4) (j1 : Nat) (m_hasMark_j1 : Nat → Int32) (m_markAcross_j1 : Nat → Int32) (m_markDeep_j1 : Nat → Int32) (im_54 : Nat → Int32) (k54 : Nat) (hj54 : j1 ≤ ms) (hk54 : ms < j1 + (k54 + 1)) (hm54_2 : im_54 2 = nI ms) (hm54_3 : im_54 3 = nI mk) (hm54_50 : im_54 50 = nI md) (c_13 : ¬ nI ms ≤ nI j1) (n_19 : j1 < ms) (j2 : Nat) (m_hasMark_j2 : Nat → Int32) (m_markAcross_j2 : Nat → Int32) (m_markDeep_j2 : Nat → Int32) (im_66 : Nat → Int32) (k66 : Nat) (hj66 : j2 ≤ mk) (hk66 : mk < j2 + (k66 + 1)) (hsb : SB [5] im im_66) (hm66_2 : im_66 2 = nI ms) (hm66_3 : im_66 3 = nI mk) (hm66_50 : im_66 50 = nI md) (c_21 : nI mk ≤ nI j2) : mk ≤ j2 := by
  exact (nI_leI (a := mk) (b := j2) (by omega) (by omega)).mp c_21
theorem lf_X12_draw_25 (h : Nat) (q : Nat → Nat) (im : Nat → Int32) (ms : Nat) (mk : Nat) (md : Nat) (m_across : Nat → Int32) (m_deep : Nat → Int32) (m_isGone : Nat → Int32) (m_hasMark : Nat → Int32) (m_markAcross : Nat → Int32) (m_markDeep : Nat → Int32) (n1 : Int32) (n2 : Int32) (n3 : Int32) (n4 : Int32) (hf_ms : im 2 = nI ms) (hf_mk : im 3 = nI mk) (hf_md : im 50 = nI md) (hms : ms ≤ 24) (hmk : mk ≤ 8) (hm3 : mk = 0 ∨ 3 ≤ ms) (hmd : md ≤ 4) (c_2 : (0 : Int32) ≤ n1 ∧ n1 ≤ nI md - 1) (tn1 : Nat) (tn1a : tn1 < md) (tn1e : n1 = nI tn1) (c_6 : ((-2000) : Int32) ≤ n2 ∧ n2 ≤ 2000) (c_9 : ((-2000) : Int32) ≤ n3 ∧ n3 ≤ 2000) (c_12 : (0 : Int32) ≤ n4 ∧ n4 ≤ 1000) (tn4 : Nat) (tn4a : 0 ≤ tn4) (tn4b : tn4 ≤ 1000) (tn4e : n4 = nI tn4) (j1 : Nat) (m_hasMark_j1 : Nat → Int32) (m_markAcross_j1 : Nat → Int32) (m_markDeep_j1 : Nat → Int32) (im_54 : Nat → Int32) (k54 : Nat) (hj54 : j1 ≤ ms) (hk54 : ms < j1 + (k54 + 1)) (hm54_2 : im_54 2 = nI ms) (hm54_3 : im_54 3 = nI mk) (hm54_50 : im_54 50 = nI md) (c_13 : ¬ nI ms ≤ nI j1) (n_19 : j1 < ms) (j2 : Nat) (m_hasMark_j2 : Nat → Int32) (m_markAcross_j2 : Nat → Int32) (m_markDeep_j2 : Nat → Int32) (im_66 : Nat → Int32) (k66 : Nat) (hj66 : j2 ≤ mk) (hk66 : mk < j2 + (k66 + 1)) (hsb : SB [5] im im_66) (hm66_2 : im_66 2 = nI ms) (hm66_3 : im_66 3 = nI mk) (hm66_50 : im_66 50 = nI md) (c_21 : ¬ nI mk ≤ nI j2) : j2 < mk := by
  exact Nat.lt_of_not_le (fun q => c_21 ((nI_leI (a := mk) (b := j2) (by omega) (by omega)).mpr q))
theorem lf_X12_draw_28 (h : Nat) (q : Nat → Nat) (im : Nat → Int32) (ms : Nat) (mk : Nat) (md : Nat) (m_across : Nat → Int32) (m_deep : Nat → Int32) (m_isGone : Nat → Int32) (m_hasMark : Nat → Int32) (m_markAcross : Nat → Int32) (m_markDeep : Nat → Int32) (n1 : Int32) (n2 : Int32) (n3 : Int32) (n4 : Int32) (hf_ms : im 2 = nI ms) (hf_mk : im 3 = nI mk) (hf_md : im 50 = nI md) (hms : ms ≤ 24) (hmk : mk ≤ 8) (hm3 : mk = 0 ∨ 3 ≤ ms) (hmd : md ≤ 4) (c_2 : (0 : Int32) ≤ n1 ∧ n1 ≤ nI md - 1) (tn1 : Nat) (tn1a : tn1 < md) (tn1e : n1 = nI tn1) (c_6 : ((-2000) : Int32) ≤ n2 ∧ n2 ≤ 2000) (c_9 : ((-2000) : Int32) ≤ n3 ∧ n3 ≤ 2000) (c_12 : (0 : Int32) ≤ n4 ∧ n4 ≤ 1000) (tn4 : Nat) (tn4a : 0 ≤ tn4) (tn4b : tn4 ≤ 1000) (tn4e : n4 = nI tn4) (j1 : Nat) (m_hasMark_j1 : Nat → Int32) (m_markAcross_j1 : Nat → Int32) (m_markDeep_j1 : Nat → Int32) (im_54 : Nat → Int32) (k54 : Nat) (hj54 : j1 ≤ ms) (hk54 : ms < j1 + (k54 + 1)) (hm54_2 : im_54 2 = nI ms) (hm54_3 : im_54 3 = nI mk) (hm54_50 : im_54 50 = nI md) (c_13 : ¬ nI ms ≤ nI j1) (n_19 : j1 < ms) (j2 : Nat) (m_hasMark_j2 : Nat → Int32) (m_markAcross_j2 : Nat → Int32) (m_markDeep_j2 : Nat → Int32) (im_66 : Nat → Int32) (k66 : Nat) (hj66 : j2 ≤ mk) (hk66 : mk < j2 + (k66 + 1)) (hm66_2 : im_66 2 = nI ms) (hm66_3 : im_66 3 = nI mk) (hm66_50 : im_66 50 = nI md) (c_21 : ¬ nI mk ≤ nI j2) (n_24 : j2 < mk) (j3 : Nat) (m_hasMark_j3 : Nat → Int32) (m_markAcross_j3 : Nat → Int32) (m_markDeep_j3 : Nat → Int32) (im_78 : Nat → Int32) (k78 : Nat) (hj78 : j3 ≤ 2) (hk78 : 2 < j3 + (k78 + 1)) (hsb : SB [5] im im_78) (hm78_2 : im_78 2 = nI ms) (hm78_3 : im_78 3 = nI mk) (hm78_50 : im_78 50 = nI md) (c_26 : 2 ≤ nI j3) : 2 ≤ j3 := by
  exact (nI_leI (a := 2) (b := j3) (by omega) (by omega)).mp c_26
theorem lf_X12_draw_30 (h : Nat) (q : Nat → Nat) (im : Nat → Int32) (ms : Nat) (mk : Nat) (md : Nat) (m_across : Nat → Int32) (m_deep : Nat → Int32) (m_isGone : Nat → Int32) (m_hasMark : Nat → Int32) (m_markAcross : Nat → Int32) (m_markDeep : Nat → Int32) (n1 : Int32) (n2 : Int32) (n3 : Int32) (n4 : Int32) (hf_ms : im 2 = nI ms) (hf_mk : im 3 = nI mk) (hf_md : im 50 = nI md) (hms : ms ≤ 24) (hmk : mk ≤ 8) (hm3 : mk = 0 ∨ 3 ≤ ms) (hmd : md ≤ 4) (c_2 : (0 : Int32) ≤ n1 ∧ n1 ≤ nI md - 1) (tn1 : Nat) (tn1a : tn1 < md) (tn1e : n1 = nI tn1) (c_6 : ((-2000) : Int32) ≤ n2 ∧ n2 ≤ 2000) (c_9 : ((-2000) : Int32) ≤ n3 ∧ n3 ≤ 2000) (c_12 : (0 : Int32) ≤ n4 ∧ n4 ≤ 1000) (tn4 : Nat) (tn4a : 0 ≤ tn4) (tn4b : tn4 ≤ 1000) (tn4e : n4 = nI tn4) (j1 : Nat) (m_hasMark_j1 : Nat → Int32) (m_markAcross_j1 : Nat → Int32) (m_markDeep_j1 : Nat → Int32) (im_54 : Nat → Int32) (k54 : Nat) (hj54 : j1 ≤ ms) (hk54 : ms < j1 + (k54 + 1)) (hm54_2 : im_54 2 = nI ms) (hm54_3 : im_54 3 = nI mk) (hm54_50 : im_54 50 = nI md) (c_13 : ¬ nI ms ≤ nI j1) (n_19 : j1 < ms) (j2 : Nat) (m_hasMark_j2 : Nat → Int32) (m_markAcross_j2 : Nat → Int32) (m_markDeep_j2 : Nat → Int32) (im_66 : Nat → Int32) (k66 : Nat) (hj66 : j2 ≤ mk) (hk66 : mk < j2 + (k66 + 1)) (hm66_2 : im_66 2 = nI ms) (hm66_3 : im_66 3 = nI mk) (hm66_50 : im_66 50 = nI md) (c_21 : ¬ nI mk ≤ nI j2) (n_24 : j2 < mk) (j3 : Nat) (m_hasMark_j3 : Nat → Int32) (m_markAcross_j3 : Nat → Int32) (m_markDeep_j3 : Nat → Int32) (im_78 : Nat → Int32) (k78 : Nat) (hj78 : j3 ≤ 2) (hk78 : 2 < j3 + (k78 + 1)) (hsb : SB [5] im im_78) (hm78_2 : im_78 2 = nI ms) (hm78_3 : im_78 3 = nI mk) (hm78_50 : im_78 50 = nI md) (c_26 : ¬ 2 ≤ nI j3) : j3 < 2 := by
  exact Nat.lt_of_not_le (fun q => c_26 ((nI_leI (a := 2) (b := j3) (by omega) (by omega)).mpr q))
theorem lf_X12_draw_31 (h : Nat) (q : Nat → Nat) (im : Nat → Int32) (ms : Nat) (mk : Nat) (md : Nat) (m_across : Nat → Int32) (m_deep : Nat → Int32) (m_isGone : Nat → Int32) (m_hasMark : Nat → Int32) (m_markAcross : Nat → Int32) (m_markDeep : Nat → Int32) (n1 : Int32) (n2 : Int32) (n3 : Int32) (n4 : Int32) (hf_ms : im 2 = nI ms) (hf_mk : im 3 = nI mk) (hf_md : im 50 = nI md) (hms : ms ≤ 24) (hmk : mk ≤ 8) (hm3 : mk = 0 ∨ 3 ≤ ms) (hmd : md ≤ 4) (c_2 : (0 : Int32) ≤ n1 ∧ n1 ≤ nI md - 1) (tn1 : Nat) (tn1a : tn1 < md) (tn1e : n1 = nI tn1) (c_6 : ((-2000) : Int32) ≤ n2 ∧ n2 ≤ 2000) (c_9 : ((-2000) : Int32) ≤ n3 ∧ n3 ≤ 2000) (c_12 : (0 : Int32) ≤ n4 ∧ n4 ≤ 1000) (tn4 : Nat) (tn4a : 0 ≤ tn4) (tn4b : tn4 ≤ 1000) (tn4e : n4 = nI tn4) (j1 : Nat) (m_hasMark_j1 : Nat → Int32) (m_markAcross_j1 : Nat → Int32) (m_markDeep_j1 : Nat → Int32) (im_54 : Nat → Int32) (k54 : Nat) (hj54 : j1 ≤ ms) (hk54 : ms < j1 + (k54 + 1)) (hm54_2 : im_54 2 = nI ms) (hm54_3 : im_54 3 = nI mk) (hm54_50 : im_54 50 = nI md) (c_13 : ¬ nI ms ≤ nI j1) (n_19 : j1 < ms) (j2 : Nat) (m_hasMark_j2 : Nat → Int32) (m_markAcross_j2 : Nat → Int32) (m_markDeep_j2 : Nat → Int32) (im_66 : Nat → Int32) (k66 : Nat) (hj66 : j2 ≤ mk) (hk66 : mk < j2 + (k66 + 1)) (hm66_2 : im_66 2 = nI ms) (hm66_3 : im_66 3 = nI mk) (hm66_50 : im_66 50 = nI md) (c_21 : ¬ nI mk ≤ nI j2) (n_24 : j2 < mk) (j3 : Nat) (m_hasMark_j3 : Nat → Int32) (m_markAcross_j3 : Nat → Int32) (m_markDeep_j3 : Nat → Int32) (im_78 : Nat → Int32) (k78 : Nat) (hj78 : j3 ≤ 2) (hk78 : 2 < j3 + (k78 + 1)) (hsb : SB [5] im im_78) (hm78_2 : im_78 2 = nI ms) (hm78_3 : im_78 3 = nI mk) (hm78_50 : im_78 50 = nI md) (c_26 : ¬ 2 ≤ nI j3) (n_29 : j3 < 2) : j1 < 24 := by
  first | assumption | omega | decide | rfl
theorem lf_X12_draw_32 (h : Nat) (q : Nat → Nat) (im : Nat → Int32) (ms : Nat) (mk : Nat) (md : Nat) (m_across : Nat → Int32) (m_deep : Nat → Int32) (m_isGone : Nat → Int32) (m_hasMark : Nat → Int32) (m_markAcross : Nat → Int32) (m_markDeep : Nat → Int32) (n1 : Int32) (n2 : Int32) (n3 : Int32) (n4 : Int32) (hf_ms : im 2 = nI ms) (hf_mk : im 3 = nI mk) (hf_md : im 50 = nI md) (hms : ms ≤ 24) (hmk : mk ≤ 8) (hm3 : mk = 0 ∨ 3 ≤ ms) (hmd : md ≤ 4) (c_2 : (0 : Int32) ≤ n1 ∧ n1 ≤ nI md - 1) (tn1 : Nat) (tn1a : tn1 < md) (tn1e : n1 = nI tn1) (c_6 : ((-2000) : Int32) ≤ n2 ∧ n2 ≤ 2000) (c_9 : ((-2000) : Int32) ≤ n3 ∧ n3 ≤ 2000) (c_12 : (0 : Int32) ≤ n4 ∧ n4 ≤ 1000) (tn4 : Nat) (tn4a : 0 ≤ tn4) (tn4b : tn4 ≤ 1000) (tn4e : n4 = nI tn4) (j1 : Nat) (m_hasMark_j1 : Nat → Int32) (m_markAcross_j1 : Nat → Int32) (m_markDeep_j1 : Nat → Int32) (im_54 : Nat → Int32) (k54 : Nat) (hj54 : j1 ≤ ms) (hk54 : ms < j1 + (k54 + 1)) (hm54_2 : im_54 2 = nI ms) (hm54_3 : im_54 3 = nI mk) (hm54_50 : im_54 50 = nI md) (c_13 : ¬ nI ms ≤ nI j1) (n_19 : j1 < ms) (j2 : Nat) (m_hasMark_j2 : Nat → Int32) (m_markAcross_j2 : Nat → Int32) (m_markDeep_j2 : Nat → Int32) (im_66 : Nat → Int32) (k66 : Nat) (hj66 : j2 ≤ mk) (hk66 : mk < j2 + (k66 + 1)) (hm66_2 : im_66 2 = nI ms) (hm66_3 : im_66 3 = nI mk) (hm66_50 : im_66 50 = nI md) (c_21 : ¬ nI mk ≤ nI j2) (n_24 : j2 < mk) (j3 : Nat) (m_hasMark_j3 : Nat → Int32) (m_markAcross_j3 : Nat → Int32) (m_markDeep_j3 : Nat → Int32) (im_78 : Nat → Int32) (k78 : Nat) (hj78 : j3 ≤ 2) (hk78 : 2 < j3 + (k78 + 1)) (hsb : SB [5] im im_78) (hm78_2 : im_78 2 = nI ms) (hm78_3 : im_78 3 = nI mk) (hm78_50 : im_78 50 = nI md) (c_26 : ¬ 2 ≤ nI j3) (n_29 : j3 < 2) : j2 < 8 := by
  first | assumption | omega | decide | rfl
theorem lf_X12_draw_33 (h : Nat) (q : Nat → Nat) (im : Nat → Int32) (ms : Nat) (mk : Nat) (md : Nat) (m_across : Nat → Int32) (m_deep : Nat → Int32) (m_isGone : Nat → Int32) (m_hasMark : Nat → Int32) (m_markAcross : Nat → Int32) (m_markDeep : Nat → Int32) (n1 : Int32) (n2 : Int32) (n3 : Int32) (n4 : Int32) (hf_ms : im 2 = nI ms) (hf_mk : im 3 = nI mk) (hf_md : im 50 = nI md) (hms : ms ≤ 24) (hmk : mk ≤ 8) (hm3 : mk = 0 ∨ 3 ≤ ms) (hmd : md ≤ 4) (c_2 : (0 : Int32) ≤ n1 ∧ n1 ≤ nI md - 1) (tn1 : Nat) (tn1a : tn1 < md) (tn1e : n1 = nI tn1) (c_6 : ((-2000) : Int32) ≤ n2 ∧ n2 ≤ 2000) (c_9 : ((-2000) : Int32) ≤ n3 ∧ n3 ≤ 2000) (c_12 : (0 : Int32) ≤ n4 ∧ n4 ≤ 1000) (tn4 : Nat) (tn4a : 0 ≤ tn4) (tn4b : tn4 ≤ 1000) (tn4e : n4 = nI tn4) (j1 : Nat) (m_hasMark_j1 : Nat → Int32) (m_markAcross_j1 : Nat → Int32) (m_markDeep_j1 : Nat → Int32) (im_54 : Nat → Int32) (k54 : Nat) (hj54 : j1 ≤ ms) (hk54 : ms < j1 + (k54 + 1)) (hm54_2 : im_54 2 = nI ms) (hm54_3 : im_54 3 = nI mk) (hm54_50 : im_54 50 = nI md) (c_13 : ¬ nI ms ≤ nI j1) (n_19 : j1 < ms) (j2 : Nat) (m_hasMark_j2 : Nat → Int32) (m_markAcross_j2 : Nat → Int32) (m_markDeep_j2 : Nat → Int32) (im_66 : Nat → Int32) (k66 : Nat) (hj66 : j2 ≤ mk) (hk66 : mk < j2 + (k66 + 1)) (hm66_2 : im_66 2 = nI ms) (hm66_3 : im_66 3 = nI mk) (hm66_50 : im_66 50 = nI md) (c_21 : ¬ nI mk ≤ nI j2) (n_24 : j2 < mk) (j3 : Nat) (m_hasMark_j3 : Nat → Int32) (m_markAcross_j3 : Nat → Int32) (m_markDeep_j3 : Nat → Int32) (im_78 : Nat → Int32) (k78 : Nat) (hj78 : j3 ≤ 2) (hk78 : 2 < j3 + (k78 + 1)) (hsb : SB [5] im im_78) (hm78_2 : im_78 2 = nI ms) (hm78_3 : im_78 3 = nI mk) (hm78_50 : im_78 50 = nI md) (c_26 : ¬ 2 ≤ nI j3) (n_29 : j3 < 2) : j3 < 2 := by
  first | assumption | omega | decide | rfl
theorem lf_X12_draw_39 (h : Nat) (q : Nat → Nat) (im : Nat → Int32) (ms : Nat) (mk : Nat) (md : Nat) (m_across : Nat → Int32) (m_deep : Nat → Int32) (m_isGone : Nat → Int32) (m_hasMark : Nat → Int32) (m_markAcross : Nat → Int32) (m_markDeep : Nat → Int32) (n1 : Int32) (n2 : Int32) (n3 : Int32) (n4 : Int32) (hf_ms : im 2 = nI ms) (hf_mk : im 3 = nI mk) (hf_md : im 50 = nI md) (hms : ms ≤ 24) (hmk : mk ≤ 8) (hm3 : mk = 0 ∨ 3 ≤ ms) (hmd : md ≤ 4) (c_2 : (0 : Int32) ≤ n1 ∧ n1 ≤ nI md - 1) (tn1 : Nat) (tn1a : tn1 < md) (tn1e : n1 = nI tn1) (c_6 : ((-2000) : Int32) ≤ n2 ∧ n2 ≤ 2000) (c_9 : ((-2000) : Int32) ≤ n3 ∧ n3 ≤ 2000) (c_12 : (0 : Int32) ≤ n4 ∧ n4 ≤ 1000) (tn4 : Nat) (tn4a : 0 ≤ tn4) (tn4b : tn4 ≤ 1000) (tn4e : n4 = nI tn4) (j1 : Nat) (m_hasMark_j1 : Nat → Int32) (m_markAcross_j1 : Nat → Int32) (m_markDeep_j1 : Nat → Int32) (im_54 : Nat → Int32) (k54 : Nat) (hj54 : j1 ≤ ms) (hk54 : ms < j1 + (k54 + 1)) (hm54_2 : im_54 2 = nI ms) (hm54_3 : im_54 3 = nI mk) (hm54_50 : im_54 50 = nI md) (c_13 : ¬ nI ms ≤ nI j1) (n_19 : j1 < ms) (j2 : Nat) (m_hasMark_j2 : Nat → Int32) (m_markAcross_j2 : Nat → Int32) (m_markDeep_j2 : Nat → Int32) (im_66 : Nat → Int32) (k66 : Nat) (hj66 : j2 ≤ mk) (hk66 : mk < j2 + (k66 + 1)) (hm66_2 : im_66 2 = nI ms) (hm66_3 : im_66 3 = nI mk) (hm66_50 : im_66 50 = nI md) (c_21 : ¬ nI mk ≤ nI j2) (n_24 : j2 < mk) (j3 : Nat) (m_hasMark_j3 : Nat → Int32) (m_markAcross_j3 : Nat → Int32) (m_markDeep_j3 : Nat → Int32) (im_78 : Nat → Int32) (k78 : Nat) (hj78 : j3 ≤ 2) (hk78 : 2 < j3 + (k78 + 1)) (hm78_2 : im_78 2 = nI ms) (hm78_3 : im_78 3 = nI mk) (hm78_50 : im_78 50 = nI md) (c_26 : ¬ 2 ≤ nI j3) (n_29 : j3 < 2) (r_34 : Int32) (c_35 : ¬ r_34 = 0) (im_37 : Nat → Int32) (hz_37_0 : SB [5] im_78 im_37) (hsb : SB [5] im im_37) : vp_in (nI (16 * j1 + 2 * j2 + j3)) 384 := by
  first | exact vp_in_nI (by omega) (by decide) | (unfold vp_in; decide)
theorem lf_X12_draw_45 (h : Nat) (q : Nat → Nat) (im : Nat → Int32) (ms : Nat) (mk : Nat) (md : Nat) (m_across : Nat → Int32) (m_deep : Nat → Int32) (m_isGone : Nat → Int32) (m_hasMark : Nat → Int32) (m_markAcross : Nat → Int32) (m_markDeep : Nat → Int32) (n1 : Int32) (n2 : Int32) (n3 : Int32) (n4 : Int32) (hf_ms : im 2 = nI ms) (hf_mk : im 3 = nI mk) (hf_md : im 50 = nI md) (hms : ms ≤ 24) (hmk : mk ≤ 8) (hm3 : mk = 0 ∨ 3 ≤ ms) (hmd : md ≤ 4) (c_2 : (0 : Int32) ≤ n1 ∧ n1 ≤ nI md - 1) (tn1 : Nat) (tn1a : tn1 < md) (tn1e : n1 = nI tn1) (c_6 : ((-2000) : Int32) ≤ n2 ∧ n2 ≤ 2000) (c_9 : ((-2000) : Int32) ≤ n3 ∧ n3 ≤ 2000) (c_12 : (0 : Int32) ≤ n4 ∧ n4 ≤ 1000) (tn4 : Nat) (tn4a : 0 ≤ tn4) (tn4b : tn4 ≤ 1000) (tn4e : n4 = nI tn4) (j1 : Nat) (m_hasMark_j1 : Nat → Int32) (m_markAcross_j1 : Nat → Int32) (m_markDeep_j1 : Nat → Int32) (im_54 : Nat → Int32) (k54 : Nat) (hj54 : j1 ≤ ms) (hk54 : ms < j1 + (k54 + 1)) (hm54_2 : im_54 2 = nI ms) (hm54_3 : im_54 3 = nI mk) (hm54_50 : im_54 50 = nI md) (c_13 : ¬ nI ms ≤ nI j1) (n_19 : j1 < ms) (j2 : Nat) (m_hasMark_j2 : Nat → Int32) (m_markAcross_j2 : Nat → Int32) (m_markDeep_j2 : Nat → Int32) (im_66 : Nat → Int32) (k66 : Nat) (hj66 : j2 ≤ mk) (hk66 : mk < j2 + (k66 + 1)) (hm66_2 : im_66 2 = nI ms) (hm66_3 : im_66 3 = nI mk) (hm66_50 : im_66 50 = nI md) (c_21 : ¬ nI mk ≤ nI j2) (n_24 : j2 < mk) (j3 : Nat) (m_hasMark_j3 : Nat → Int32) (m_markAcross_j3 : Nat → Int32) (m_markDeep_j3 : Nat → Int32) (im_78 : Nat → Int32) (k78 : Nat) (hj78 : j3 ≤ 2) (hk78 : 2 < j3 + (k78 + 1)) (hm78_2 : im_78 2 = nI ms) (hm78_3 : im_78 3 = nI mk) (hm78_50 : im_78 50 = nI md) (c_26 : ¬ 2 ≤ nI j3) (n_29 : j3 < 2) (r_34 : Int32) (c_35 : ¬ r_34 = 0) (im_37 : Nat → Int32) (hz_37_0 : SB [5] im_78 im_37) (hsb : SB [5] im im_37) (x_40 : Int32) (x_41 : Int32) (ex_41 : x_41 = x_40 + n2) (x_42 : Int32) (c_43 : nI tn4 ≤ x_42) (x_44 : Int32) (ex_44 : x_44 = x_41 + 0) : vp_in (nI (16 * j1 + 2 * j2 + j3)) 384 := by
  first | exact vp_in_nI (by omega) (by decide) | (unfold vp_in; decide)
theorem lf_X12_draw_48 (h : Nat) (q : Nat → Nat) (im : Nat → Int32) (ms : Nat) (mk : Nat) (md : Nat) (m_across : Nat → Int32) (m_deep : Nat → Int32) (m_isGone : Nat → Int32) (m_hasMark : Nat → Int32) (m_markAcross : Nat → Int32) (m_markDeep : Nat → Int32) (n1 : Int32) (n2 : Int32) (n3 : Int32) (n4 : Int32) (hf_ms : im 2 = nI ms) (hf_mk : im 3 = nI mk) (hf_md : im 50 = nI md) (hms : ms ≤ 24) (hmk : mk ≤ 8) (hm3 : mk = 0 ∨ 3 ≤ ms) (hmd : md ≤ 4) (c_2 : (0 : Int32) ≤ n1 ∧ n1 ≤ nI md - 1) (tn1 : Nat) (tn1a : tn1 < md) (tn1e : n1 = nI tn1) (c_6 : ((-2000) : Int32) ≤ n2 ∧ n2 ≤ 2000) (c_9 : ((-2000) : Int32) ≤ n3 ∧ n3 ≤ 2000) (c_12 : (0 : Int32) ≤ n4 ∧ n4 ≤ 1000) (tn4 : Nat) (tn4a : 0 ≤ tn4) (tn4b : tn4 ≤ 1000) (tn4e : n4 = nI tn4) (j1 : Nat) (m_hasMark_j1 : Nat → Int32) (m_markAcross_j1 : Nat → Int32) (m_markDeep_j1 : Nat → Int32) (im_54 : Nat → Int32) (k54 : Nat) (hj54 : j1 ≤ ms) (hk54 : ms < j1 + (k54 + 1)) (hm54_2 : im_54 2 = nI ms) (hm54_3 : im_54 3 = nI mk) (hm54_50 : im_54 50 = nI md) (c_13 : ¬ nI ms ≤ nI j1) (n_19 : j1 < ms) (j2 : Nat) (m_hasMark_j2 : Nat → Int32) (m_markAcross_j2 : Nat → Int32) (m_markDeep_j2 : Nat → Int32) (im_66 : Nat → Int32) (k66 : Nat) (hj66 : j2 ≤ mk) (hk66 : mk < j2 + (k66 + 1)) (hm66_2 : im_66 2 = nI ms) (hm66_3 : im_66 3 = nI mk) (hm66_50 : im_66 50 = nI md) (c_21 : ¬ nI mk ≤ nI j2) (n_24 : j2 < mk) (j3 : Nat) (m_hasMark_j3 : Nat → Int32) (m_markAcross_j3 : Nat → Int32) (m_markDeep_j3 : Nat → Int32) (im_78 : Nat → Int32) (k78 : Nat) (hj78 : j3 ≤ 2) (hk78 : 2 < j3 + (k78 + 1)) (hm78_2 : im_78 2 = nI ms) (hm78_3 : im_78 3 = nI mk) (hm78_50 : im_78 50 = nI md) (c_26 : ¬ 2 ≤ nI j3) (n_29 : j3 < 2) (r_34 : Int32) (c_35 : ¬ r_34 = 0) (im_37 : Nat → Int32) (hz_37_0 : SB [5] im_78 im_37) (hsb : SB [5] im im_37) (x_40 : Int32) (x_41 : Int32) (ex_41 : x_41 = x_40 + n2) (x_42 : Int32) (c_43 : nI tn4 ≤ x_42) (x_44 : Int32) (ex_44 : x_44 = x_41 + 0) (x_46 : Int32) (x_47 : Int32) (ex_47 : x_47 = x_46 + n3) : tn1 < 4 := by
  first | assumption | omega | decide | rfl
theorem lf_X12_draw_49 (h : Nat) (q : Nat → Nat) (im : Nat → Int32) (ms : Nat) (mk : Nat) (md : Nat) (m_across : Nat → Int32) (m_deep : Nat → Int32) (m_isGone : Nat → Int32) (m_hasMark : Nat → Int32) (m_markAcross : Nat → Int32) (m_markDeep : Nat → Int32) (n1 : Int32) (n2 : Int32) (n3 : Int32) (n4 : Int32) (hf_ms : im 2 = nI ms) (hf_mk : im 3 = nI mk) (hf_md : im 50 = nI md) (hms : ms ≤ 24) (hmk : mk ≤ 8) (hm3 : mk = 0 ∨ 3 ≤ ms) (hmd : md ≤ 4) (c_2 : (0 : Int32) ≤ n1 ∧ n1 ≤ nI md - 1) (tn1 : Nat) (tn1a : tn1 < md) (tn1e : n1 = nI tn1) (c_6 : ((-2000) : Int32) ≤ n2 ∧ n2 ≤ 2000) (c_9 : ((-2000) : Int32) ≤ n3 ∧ n3 ≤ 2000) (c_12 : (0 : Int32) ≤ n4 ∧ n4 ≤ 1000) (tn4 : Nat) (tn4a : 0 ≤ tn4) (tn4b : tn4 ≤ 1000) (tn4e : n4 = nI tn4) (j1 : Nat) (m_hasMark_j1 : Nat → Int32) (m_markAcross_j1 : Nat → Int32) (m_markDeep_j1 : Nat → Int32) (im_54 : Nat → Int32) (k54 : Nat) (hj54 : j1 ≤ ms) (hk54 : ms < j1 + (k54 + 1)) (hm54_2 : im_54 2 = nI ms) (hm54_3 : im_54 3 = nI mk) (hm54_50 : im_54 50 = nI md) (c_13 : ¬ nI ms ≤ nI j1) (n_19 : j1 < ms) (j2 : Nat) (m_hasMark_j2 : Nat → Int32) (m_markAcross_j2 : Nat → Int32) (m_markDeep_j2 : Nat → Int32) (im_66 : Nat → Int32) (k66 : Nat) (hj66 : j2 ≤ mk) (hk66 : mk < j2 + (k66 + 1)) (hm66_2 : im_66 2 = nI ms) (hm66_3 : im_66 3 = nI mk) (hm66_50 : im_66 50 = nI md) (c_21 : ¬ nI mk ≤ nI j2) (n_24 : j2 < mk) (j3 : Nat) (m_hasMark_j3 : Nat → Int32) (m_markAcross_j3 : Nat → Int32) (m_markDeep_j3 : Nat → Int32) (im_78 : Nat → Int32) (k78 : Nat) (hj78 : j3 ≤ 2) (hk78 : 2 < j3 + (k78 + 1)) (hm78_2 : im_78 2 = nI ms) (hm78_3 : im_78 3 = nI mk) (hm78_50 : im_78 50 = nI md) (c_26 : ¬ 2 ≤ nI j3) (n_29 : j3 < 2) (r_34 : Int32) (c_35 : ¬ r_34 = 0) (im_37 : Nat → Int32) (hz_37_0 : SB [5] im_78 im_37) (hsb : SB [5] im im_37) (x_40 : Int32) (x_41 : Int32) (ex_41 : x_41 = x_40 + n2) (x_42 : Int32) (c_43 : nI tn4 ≤ x_42) (x_44 : Int32) (ex_44 : x_44 = x_41 + 0) (x_46 : Int32) (x_47 : Int32) (ex_47 : x_47 = x_46 + n3) : (16 * j1 + 2 * j2 + j3) < 384 := by
  first | assumption | omega | decide | rfl
theorem lf_X12_draw_53 (h : Nat) (q : Nat → Nat) (im : Nat → Int32) (ms : Nat) (mk : Nat) (md : Nat) (m_across : Nat → Int32) (m_deep : Nat → Int32) (m_isGone : Nat → Int32) (m_hasMark : Nat → Int32) (m_markAcross : Nat → Int32) (m_markDeep : Nat → Int32) (n1 : Int32) (n2 : Int32) (n3 : Int32) (n4 : Int32) (hf_ms : im 2 = nI ms) (hf_mk : im 3 = nI mk) (hf_md : im 50 = nI md) (hms : ms ≤ 24) (hmk : mk ≤ 8) (hm3 : mk = 0 ∨ 3 ≤ ms) (hmd : md ≤ 4) (c_2 : (0 : Int32) ≤ n1 ∧ n1 ≤ nI md - 1) (tn1 : Nat) (tn1a : tn1 < md) (tn1e : n1 = nI tn1) (c_6 : ((-2000) : Int32) ≤ n2 ∧ n2 ≤ 2000) (c_9 : ((-2000) : Int32) ≤ n3 ∧ n3 ≤ 2000) (c_12 : (0 : Int32) ≤ n4 ∧ n4 ≤ 1000) (tn4 : Nat) (tn4a : 0 ≤ tn4) (tn4b : tn4 ≤ 1000) (tn4e : n4 = nI tn4) (j1 : Nat) (m_hasMark_j1 : Nat → Int32) (m_markAcross_j1 : Nat → Int32) (m_markDeep_j1 : Nat → Int32) (im_54 : Nat → Int32) (k54 : Nat) (hj54 : j1 ≤ ms) (hk54 : ms < j1 + (k54 + 1)) (hm54_2 : im_54 2 = nI ms) (hm54_3 : im_54 3 = nI mk) (hm54_50 : im_54 50 = nI md) (c_13 : ¬ nI ms ≤ nI j1) (n_19 : j1 < ms) (j2 : Nat) (m_hasMark_j2 : Nat → Int32) (m_markAcross_j2 : Nat → Int32) (m_markDeep_j2 : Nat → Int32) (im_66 : Nat → Int32) (k66 : Nat) (hj66 : j2 ≤ mk) (hk66 : mk < j2 + (k66 + 1)) (hm66_2 : im_66 2 = nI ms) (hm66_3 : im_66 3 = nI mk) (hm66_50 : im_66 50 = nI md) (c_21 : ¬ nI mk ≤ nI j2) (n_24 : j2 < mk) (j3 : Nat) (m_hasMark_j3 : Nat → Int32) (m_markAcross_j3 : Nat → Int32) (m_markDeep_j3 : Nat → Int32) (im_78 : Nat → Int32) (k78 : Nat) (hj78 : j3 ≤ 2) (hk78 : 2 < j3 + (k78 + 1)) (hm78_2 : im_78 2 = nI ms) (hm78_3 : im_78 3 = nI mk) (hm78_50 : im_78 50 = nI md) (c_26 : ¬ 2 ≤ nI j3) (n_29 : j3 < 2) (r_34 : Int32) (c_35 : ¬ r_34 = 0) (im_37 : Nat → Int32) (hz_37_0 : SB [5] im_78 im_37) (hsb : SB [5] im im_37) (x_40 : Int32) (x_41 : Int32) (ex_41 : x_41 = x_40 + n2) (x_42 : Int32) (c_43 : ¬ nI tn4 ≤ x_42) (x_52 : Int32) (ex_52 : x_52 = x_41 + 50) : vp_in (nI (16 * j1 + 2 * j2 + j3)) 384 := by
  first | exact vp_in_nI (by omega) (by decide) | (unfold vp_in; decide)
theorem lf_X12_draw_56 (h : Nat) (q : Nat → Nat) (im : Nat → Int32) (ms : Nat) (mk : Nat) (md : Nat) (m_across : Nat → Int32) (m_deep : Nat → Int32) (m_isGone : Nat → Int32) (m_hasMark : Nat → Int32) (m_markAcross : Nat → Int32) (m_markDeep : Nat → Int32) (n1 : Int32) (n2 : Int32) (n3 : Int32) (n4 : Int32) (hf_ms : im 2 = nI ms) (hf_mk : im 3 = nI mk) (hf_md : im 50 = nI md) (hms : ms ≤ 24) (hmk : mk ≤ 8) (hm3 : mk = 0 ∨ 3 ≤ ms) (hmd : md ≤ 4) (c_2 : (0 : Int32) ≤ n1 ∧ n1 ≤ nI md - 1) (tn1 : Nat) (tn1a : tn1 < md) (tn1e : n1 = nI tn1) (c_6 : ((-2000) : Int32) ≤ n2 ∧ n2 ≤ 2000) (c_9 : ((-2000) : Int32) ≤ n3 ∧ n3 ≤ 2000) (c_12 : (0 : Int32) ≤ n4 ∧ n4 ≤ 1000) (tn4 : Nat) (tn4a : 0 ≤ tn4) (tn4b : tn4 ≤ 1000) (tn4e : n4 = nI tn4) (j1 : Nat) (m_hasMark_j1 : Nat → Int32) (m_markAcross_j1 : Nat → Int32) (m_markDeep_j1 : Nat → Int32) (im_54 : Nat → Int32) (k54 : Nat) (hj54 : j1 ≤ ms) (hk54 : ms < j1 + (k54 + 1)) (hm54_2 : im_54 2 = nI ms) (hm54_3 : im_54 3 = nI mk) (hm54_50 : im_54 50 = nI md) (c_13 : ¬ nI ms ≤ nI j1) (n_19 : j1 < ms) (j2 : Nat) (m_hasMark_j2 : Nat → Int32) (m_markAcross_j2 : Nat → Int32) (m_markDeep_j2 : Nat → Int32) (im_66 : Nat → Int32) (k66 : Nat) (hj66 : j2 ≤ mk) (hk66 : mk < j2 + (k66 + 1)) (hm66_2 : im_66 2 = nI ms) (hm66_3 : im_66 3 = nI mk) (hm66_50 : im_66 50 = nI md) (c_21 : ¬ nI mk ≤ nI j2) (n_24 : j2 < mk) (j3 : Nat) (m_hasMark_j3 : Nat → Int32) (m_markAcross_j3 : Nat → Int32) (m_markDeep_j3 : Nat → Int32) (im_78 : Nat → Int32) (k78 : Nat) (hj78 : j3 ≤ 2) (hk78 : 2 < j3 + (k78 + 1)) (hm78_2 : im_78 2 = nI ms) (hm78_3 : im_78 3 = nI mk) (hm78_50 : im_78 50 = nI md) (c_26 : ¬ 2 ≤ nI j3) (n_29 : j3 < 2) (r_34 : Int32) (c_35 : ¬ r_34 = 0) (im_37 : Nat → Int32) (hz_37_0 : SB [5] im_78 im_37) (hsb : SB [5] im im_37) (x_40 : Int32) (x_41 : Int32) (ex_41 : x_41 = x_40 + n2) (x_42 : Int32) (c_43 : ¬ nI tn4 ≤ x_42) (x_52 : Int32) (ex_52 : x_52 = x_41 + 50) (x_54 : Int32) (x_55 : Int32) (ex_55 : x_55 = x_54 + n3) : tn1 < 4 := by
  first | assumption | omega | decide | rfl
theorem lf_X12_draw_57 (h : Nat) (q : Nat → Nat) (im : Nat → Int32) (ms : Nat) (mk : Nat) (md : Nat) (m_across : Nat → Int32) (m_deep : Nat → Int32) (m_isGone : Nat → Int32) (m_hasMark : Nat → Int32) (m_markAcross : Nat → Int32) (m_markDeep : Nat → Int32) (n1 : Int32) (n2 : Int32) (n3 : Int32) (n4 : Int32) (hf_ms : im 2 = nI ms) (hf_mk : im 3 = nI mk) (hf_md : im 50 = nI md) (hms : ms ≤ 24) (hmk : mk ≤ 8) (hm3 : mk = 0 ∨ 3 ≤ ms) (hmd : md ≤ 4) (c_2 : (0 : Int32) ≤ n1 ∧ n1 ≤ nI md - 1) (tn1 : Nat) (tn1a : tn1 < md) (tn1e : n1 = nI tn1) (c_6 : ((-2000) : Int32) ≤ n2 ∧ n2 ≤ 2000) (c_9 : ((-2000) : Int32) ≤ n3 ∧ n3 ≤ 2000) (c_12 : (0 : Int32) ≤ n4 ∧ n4 ≤ 1000) (tn4 : Nat) (tn4a : 0 ≤ tn4) (tn4b : tn4 ≤ 1000) (tn4e : n4 = nI tn4) (j1 : Nat) (m_hasMark_j1 : Nat → Int32) (m_markAcross_j1 : Nat → Int32) (m_markDeep_j1 : Nat → Int32) (im_54 : Nat → Int32) (k54 : Nat) (hj54 : j1 ≤ ms) (hk54 : ms < j1 + (k54 + 1)) (hm54_2 : im_54 2 = nI ms) (hm54_3 : im_54 3 = nI mk) (hm54_50 : im_54 50 = nI md) (c_13 : ¬ nI ms ≤ nI j1) (n_19 : j1 < ms) (j2 : Nat) (m_hasMark_j2 : Nat → Int32) (m_markAcross_j2 : Nat → Int32) (m_markDeep_j2 : Nat → Int32) (im_66 : Nat → Int32) (k66 : Nat) (hj66 : j2 ≤ mk) (hk66 : mk < j2 + (k66 + 1)) (hm66_2 : im_66 2 = nI ms) (hm66_3 : im_66 3 = nI mk) (hm66_50 : im_66 50 = nI md) (c_21 : ¬ nI mk ≤ nI j2) (n_24 : j2 < mk) (j3 : Nat) (m_hasMark_j3 : Nat → Int32) (m_markAcross_j3 : Nat → Int32) (m_markDeep_j3 : Nat → Int32) (im_78 : Nat → Int32) (k78 : Nat) (hj78 : j3 ≤ 2) (hk78 : 2 < j3 + (k78 + 1)) (hm78_2 : im_78 2 = nI ms) (hm78_3 : im_78 3 = nI mk) (hm78_50 : im_78 50 = nI md) (c_26 : ¬ 2 ≤ nI j3) (n_29 : j3 < 2) (r_34 : Int32) (c_35 : ¬ r_34 = 0) (im_37 : Nat → Int32) (hz_37_0 : SB [5] im_78 im_37) (hsb : SB [5] im im_37) (x_40 : Int32) (x_41 : Int32) (ex_41 : x_41 = x_40 + n2) (x_42 : Int32) (c_43 : ¬ nI tn4 ≤ x_42) (x_52 : Int32) (ex_52 : x_52 = x_41 + 50) (x_54 : Int32) (x_55 : Int32) (ex_55 : x_55 = x_54 + n3) : (16 * j1 + 2 * j2 + j3) < 384 := by
  first | assumption | omega | decide | rfl
theorem lf_X12_draw_60 (h : Nat) (q : Nat → Nat) (im : Nat → Int32) (ms : Nat) (mk : Nat) (md : Nat) (m_across : Nat → Int32) (m_deep : Nat → Int32) (m_isGone : Nat → Int32) (m_hasMark : Nat → Int32) (m_markAcross : Nat → Int32) (m_markDeep : Nat → Int32) (n1 : Int32) (n2 : Int32) (n3 : Int32) (n4 : Int32) (hf_ms : im 2 = nI ms) (hf_mk : im 3 = nI mk) (hf_md : im 50 = nI md) (hms : ms ≤ 24) (hmk : mk ≤ 8) (hm3 : mk = 0 ∨ 3 ≤ ms) (hmd : md ≤ 4) (hsb : SB [5] im im) (c_2 : (0 : Int32) ≤ n1 ∧ n1 ≤ nI md - 1) (tn1 : Nat) (tn1a : tn1 < md) (tn1e : n1 = nI tn1) (c_6 : ((-2000) : Int32) ≤ n2 ∧ n2 ≤ 2000) (c_9 : ((-2000) : Int32) ≤ n3 ∧ n3 ≤ 2000) (c_12 : ¬ ((0 : Int32) ≤ n4 ∧ n4 ≤ 1000)) : (SB [5] im (im : Nat → Int32)) := by
  repeat' apply And.intro
  all_goals first | assumption | omega | rfl | trivial
set_option maxHeartbeats 4000000 in
set_option maxRecDepth 100000 in
theorem c_X12_draw (l : Launch) (D : va_G) (cI cB cZ cJ : ClassId) (tx : List (ClassId × FieldType)) (h : Nat) (q : Nat → Nat) (im : Nat → Int32) (ms : Nat) (mk : Nat) (md : Nat) (m_across : Nat → Int32) (m_deep : Nat → Int32) (m_isGone : Nat → Int32) (m_hasMark : Nat → Int32) (m_markAcross : Nat → Int32) (m_markDeep : Nat → Int32) (n1 : Int32) (n2 : Int32) (n3 : Int32) (n4 : Int32) (hf_ms : im 2 = nI ms) (hf_mk : im 3 = nI mk) (hf_md : im 50 = nI md) (hms : ms ≤ 24) (hmk : mk ≤ 8) (hm3 : mk = 0 ∨ 3 ≤ ms) (hmd : md ≤ 4) : WrI l D cI cB cZ cJ tx yX12_draw cX12_draw 9 (some .int) 2 0 0 [.ref h, .int n1, .int n2, .int n3, .int n4] [(h, .inr (12, mG q im)), (q 44, .inl (cI, 384, .inl m_across)), (q 45, .inl (cI, 384, .inl m_deep)), (q 46, .inl (cZ, 384, .inl m_isGone)), (q 51, .inl (cZ, 1536, .inl m_hasMark)), (q 52, .inl (cI, 1536, .inl m_markAcross)), (q 53, .inl (cI, 1536, .inl m_markDeep))] (fun (r : Int32) (v : (Nat → Int32) × (Nat → Int32) × (Nat → Int32) × (Nat → Int32)) => (SB [5] im v.1)) (fun v => [(h, .inr (12, mG q v.1)), (q 44, .inl (cI, 384, .inl m_across)), (q 45, .inl (cI, 384, .inl m_deep)), (q 46, .inl (cZ, 384, .inl m_isGone)), (q 51, .inl (cZ, 1536, .inl v.2.1)), (q 52, .inl (cI, 1536, .inl v.2.2.1)), (q 53, .inl (cI, 1536, .inl v.2.2.2))]) := by
  refine wri_of2 (by decide) (Nat.le_of_ble_eq_true rfl) ?_
  intro p e s m below meth c A ls H locs hC hK hP hD hA hS hl
  obtain ⟨hx, hb, hr, hml, hown, hts, hlocks, hin⟩ := hC
  have hown : s.vm.findClass RX12 = some m.cls := hown
  have hl : lv_has ls 9 [(0, .ref h), (1, .int n1), (2, .int n2), (3, .int n3), (4, .int n4)] := hl
  have hsb : SB [5] im im := SB.rf
  refine lv_aload_n hx hb dX12_draw_0 rfl (lv_at hl 0 rfl) ?_
  refine lv_iload_n hx hb dX12_draw_1 rfl (lv_at hl 1 rfl) ?_
  refine eRi (va_runV (As := [.int n1]) (rest := []) ⟨hx, hb, hml, hown, hts⟩ (c_X12_isDrawing l D cI cB cZ cJ tx h q im md n1 hf_md H.size) (zV hts k_1841 v_X12_isDrawing ⟨Nat.le_of_ble_eq_true rfl, Nat.le_of_ble_eq_true rfl⟩) (pV (px1 hK hP 0 rfl) hK hP 0 rfl rfl) rfl rfl hl.1 rfl (lv_room (Nat.le_of_ble_eq_true rfl)) dX12_draw_2 ⟨Nat.le_of_ble_eq_true rfl, Nat.le_of_ble_eq_true rfl⟩) hP hS hA (fun r_1 H locs wr_1 hP hS => ?_)
  subst wr_1
  refine lv_bi_eq (tgt := 49) hx hb dX12_draw_5 (by decide) (fun c_2 => ?_) (fun c_2 => ?_)
  · refine lv_iconst (v := (-1)) hx hb dX12_draw_49 (by decide) ?_
    exact W.iret (v := (-1)) hx hb hr (fun tt9 ht hW => ⟨⟨((-1) : Int32), ((im : Nat → Int32), (m_hasMark : Nat → Int32), (m_markAcross : Nat → Int32), (m_markDeep : Nat → Int32)), rfl, (lf_X12_draw_3 h q im ms mk md m_across m_deep m_isGone m_hasMark m_markAcross m_markDeep n1 n2 n3 n4 hf_ms hf_mk hf_md hms hmk hm3 hmd hsb c_2), ⟨by rw [ht]; exact hP, hD⟩⟩, hS.F ht⟩) hS.2.2 dX12_draw_50 hlocks
  · obtain ⟨tn1, tn1a, tn1e⟩ := of_within (lf_X12_draw_4 h q im ms mk md m_across m_deep m_isGone m_hasMark m_markAcross m_markDeep n1 n2 n3 n4 hf_ms hf_mk hf_md hms hmk hm3 hmd hsb c_2) c_2
    subst tn1e
    refine lv_iload_n hx hb dX12_draw_8 rfl (lv_at hl 2 rfl) ?_
    refine lv_i2l (v := n2.toInt64) hx hb dX12_draw_9 rfl ?_
    refine lv_ldc2 (v := (-2000)) hx hb hown (hts _ k_1855) dX12_draw_10 ?_
    refine lv_ldc2 (v := 2000) hx hb hown (hts _ k_1856) dX12_draw_13 ?_
    refine eRi (va_runS (As := [.long n2.toInt64, .long (-2000), .long 2000]) (rest := []) ⟨hx, hb, hml, hown, hts⟩ (c_X12_isIn l D cI cB cZ cJ tx n2.toInt64 (-2000) 2000 H.size) (zS hts k_1602 v_X12_isIn ⟨Nat.le_of_ble_eq_true rfl, Nat.le_of_ble_eq_true rfl⟩) (px0 hK) rfl rfl hl.1 rfl (lv_room (Nat.le_of_ble_eq_true rfl)) dX12_draw_16 ⟨Nat.le_of_ble_eq_true rfl, Nat.le_of_ble_eq_true rfl⟩) hP hS hA (fun r_5 H locs wr_5 hP hS => ?_)
    have wr_5 : r_5 = bi (((-2000) : Int32) ≤ n2 ∧ n2 ≤ 2000) := isIn32 (lo := (-2000)) (hi := 2000) (by decide) (by decide) wr_5
    subst wr_5
    refine lv_bi_eq (tgt := 49) hx hb dX12_draw_19 (by decide) (fun c_6 => ?_) (fun c_6 => ?_)
    · refine lv_iconst (v := (-1)) hx hb dX12_draw_49 (by decide) ?_
      exact W.iret (v := (-1)) hx hb hr (fun tt9 ht hW => ⟨⟨((-1) : Int32), ((im : Nat → Int32), (m_hasMark : Nat → Int32), (m_markAcross : Nat → Int32), (m_markDeep : Nat → Int32)), rfl, (lf_X12_draw_7 h q im ms mk md m_across m_deep m_isGone m_hasMark m_markAcross m_markDeep (nI tn1) n2 n3 n4 hf_ms hf_mk hf_md hms hmk hm3 hmd hsb c_2 tn1 tn1a rfl c_6), ⟨by rw [ht]; exact hP, hD⟩⟩, hS.F ht⟩) hS.2.2 dX12_draw_50 hlocks
    · refine lv_iload_n hx hb dX12_draw_22 rfl (lv_at hl 3 rfl) ?_
      refine lv_i2l (v := n3.toInt64) hx hb dX12_draw_23 rfl ?_
      refine lv_ldc2 (v := (-2000)) hx hb hown (hts _ k_1855) dX12_draw_24 ?_
      refine lv_ldc2 (v := 2000) hx hb hown (hts _ k_1856) dX12_draw_27 ?_
      refine eRi (va_runS (As := [.long n3.toInt64, .long (-2000), .long 2000]) (rest := []) ⟨hx, hb, hml, hown, hts⟩ (c_X12_isIn l D cI cB cZ cJ tx n3.toInt64 (-2000) 2000 H.size) (zS hts k_1602 v_X12_isIn ⟨Nat.le_of_ble_eq_true rfl, Nat.le_of_ble_eq_true rfl⟩) (px0 hK) rfl rfl hl.1 rfl (lv_room (Nat.le_of_ble_eq_true rfl)) dX12_draw_30 ⟨Nat.le_of_ble_eq_true rfl, Nat.le_of_ble_eq_true rfl⟩) hP hS hA (fun r_8 H locs wr_8 hP hS => ?_)
      have wr_8 : r_8 = bi (((-2000) : Int32) ≤ n3 ∧ n3 ≤ 2000) := isIn32 (lo := (-2000)) (hi := 2000) (by decide) (by decide) wr_8
      subst wr_8
      refine lv_bi_eq (tgt := 49) hx hb dX12_draw_33 (by decide) (fun c_9 => ?_) (fun c_9 => ?_)
      · refine lv_iconst (v := (-1)) hx hb dX12_draw_49 (by decide) ?_
        exact W.iret (v := (-1)) hx hb hr (fun tt9 ht hW => ⟨⟨((-1) : Int32), ((im : Nat → Int32), (m_hasMark : Nat → Int32), (m_markAcross : Nat → Int32), (m_markDeep : Nat → Int32)), rfl, (lf_X12_draw_10 h q im ms mk md m_across m_deep m_isGone m_hasMark m_markAcross m_markDeep (nI tn1) n2 n3 n4 hf_ms hf_mk hf_md hms hmk hm3 hmd hsb c_2 tn1 tn1a rfl c_6 c_9), ⟨by rw [ht]; exact hP, hD⟩⟩, hS.F ht⟩) hS.2.2 dX12_draw_50 hlocks
      · refine lv_iload hx hb dX12_draw_36 (lv_at hl 4 rfl) ?_
        refine lv_i2l (v := n4.toInt64) hx hb dX12_draw_38 rfl ?_
        refine lv_lconst (v := 0) hx hb dX12_draw_39 (by decide) ?_
        refine lv_ldc2 (v := 1000) hx hb hown (hts _ k_1601) dX12_draw_40 ?_
        refine eRi (va_runS (As := [.long n4.toInt64, .long 0, .long 1000]) (rest := []) ⟨hx, hb, hml, hown, hts⟩ (c_X12_isIn l D cI cB cZ cJ tx n4.toInt64 0 1000 H.size) (zS hts k_1602 v_X12_isIn ⟨Nat.le_of_ble_eq_true rfl, Nat.le_of_ble_eq_true rfl⟩) (px0 hK) rfl rfl hl.1 rfl (lv_room (Nat.le_of_ble_eq_true rfl)) dX12_draw_43 ⟨Nat.le_of_ble_eq_true rfl, Nat.le_of_ble_eq_true rfl⟩) hP hS hA (fun r_11 H locs wr_11 hP hS => ?_)
        have wr_11 : r_11 = bi ((0 : Int32) ≤ n4 ∧ n4 ≤ 1000) := isIn32 (lo := 0) (hi := 1000) (by decide) (by decide) wr_11
        subst wr_11
        refine lv_bi_ne (tgt := 51) hx hb dX12_draw_46 (by decide) (fun c_12 => ?_) (fun c_12 => ?_)
        · obtain ⟨tn4, tn4a, tn4b, tn4e⟩ := of_rng 0 1000 rfl rfl c_12
          subst tn4e
          refine lv_iconst (v := 0) hx hb dX12_draw_51 (by decide) ?_
          refine lv_istore (lv' := [(5, .int 0), (0, .ref h), (1, .int (nI tn1)), (2, .int n2), (3, .int n3), (4, .int (nI tn4))]) hx hb dX12_draw_52 hl (by decide) rfl (fun ls hl => ?_)
          have lp54 : ∀ (k54 : Nat) (j1 : Nat) (m_hasMark_j1 : Nat → Int32) (m_markAcross_j1 : Nat → Int32) (m_markDeep_j1 : Nat → Int32) (im_54 : Nat → Int32) (H : Heap) (locs : List Loc) (ls : Array Slot), j1 ≤ ms → ms < j1 + k54 → (SB [5] im im_54) → (im_54 2 = nI ms) → (im_54 3 = nI mk) → (im_54 50 = nI md) → va_P D vwCl [(h, .inr (12, mG q im_54)), (q 44, .inl (cI, 384, .inl m_across)), (q 45, .inl (cI, 384, .inl m_deep)), (q 46, .inl (cZ, 384, .inl m_isGone)), (q 51, .inl (cZ, 1536, .inl m_hasMark_j1)), (q 52, .inl (cI, 1536, .inl m_markAcross_j1)), (q 53, .inl (cI, 1536, .inl m_markDeep_j1))] H → va_D A [(h, .inr (12, mG q im_54)), (q 44, .inl (cI, 384, .inl m_across)), (q 45, .inl (cI, 384, .inl m_deep)), (q 46, .inl (cZ, 384, .inl m_isGone)), (q 51, .inl (cZ, 1536, .inl m_hasMark_j1)), (q 52, .inl (cI, 1536, .inl m_markAcross_j1)), (q 53, .inl (cI, 1536, .inl m_markDeep_j1))] → va_S A s.heap H locs → lv_has ls 9 [(5, .int (nI j1)), (0, .ref h), (1, .int (nI tn1)), (2, .int n2), (3, .int n3), (4, .int (nI tn4))] → W p l e (rmX 2 0 0) s m ([.ref h, .int (nI tn1), .int n2, .int n3, .int (nI tn4)] : List Value).toArray below meth c H locs 0 0 (MQ below (va_Qi (fun (r : Int32) (v : (Nat → Int32) × (Nat → Int32) × (Nat → Int32) × (Nat → Int32)) => (SB [5] im v.1)) (fun u => BX D A ((fun v => [(h, .inr (12, mG q v.1)), (q 44, .inl (cI, 384, .inl m_across)), (q 45, .inl (cI, 384, .inl m_deep)), (q 46, .inl (cZ, 384, .inl m_isGone)), (q 51, .inl (cZ, 1536, .inl v.2.1)), (q 52, .inl (cI, 1536, .inl v.2.2.1)), (q 53, .inl (cI, 1536, .inl v.2.2.2))]) u)) A) ([.ref h, .int (nI tn1), .int n2, .int n3, .int (nI tn4)] : List Value).toArray s 0 0 A) (F0 m 54 ls []) := by
            intro k54
            induction k54 with
            | zero =>
              intro j1 m_hasMark_j1 m_markAcross_j1 m_markDeep_j1 im_54 H locs ls hj54 hk54 hsb hm54_2 hm54_3 hm54_50 hP hD hS hl
              exact absurd hk54 (by omega)
            | succ k54 ih54 =>
              intro j1 m_hasMark_j1 m_markAcross_j1 m_markDeep_j1 im_54 H locs ls hj54 hk54 hsb hm54_2 hm54_3 hm54_50 hP hD hS hl
              refine lv_iload hx hb dX12_draw_54 (lv_at hl 0 rfl) ?_
              refine lv_aload_n hx hb dX12_draw_56 rfl (lv_at hl 1 rfl) ?_
              refine va_get (D := D) (ci := 12) (v := .int (im_54 2)) (C := RX12) (T := TX12) (N := 81) hx hb hts inT_X12 hown hK.1 hP 0 rfl rfl 2 (by decide) (hts _ k_1355) (fun _ h9 => h9) rfl dX12_draw_57 ?_
              refine lv_topv (y := nI ms) hm54_2 ?_
              refine lv_icmp_ge (tgt := 178) hx hb dX12_draw_60 (by decide) (fun c_13 => ?_) (fun c_13 => ?_)
              · have n_14 : ms ≤ j1 := (lf_X12_draw_15 h q im ms mk md m_across m_deep m_isGone m_hasMark m_markAcross m_markDeep (nI tn1) n2 n3 (nI tn4) hf_ms hf_mk hf_md hms hmk hm3 hmd c_2 tn1 tn1a rfl c_6 c_9 c_12 tn4 tn4a tn4b rfl j1 m_hasMark_j1 m_markAcross_j1 m_markDeep_j1 im_54 k54 hj54 hk54 hsb hm54_2 hm54_3 hm54_50 c_13)
                refine lv_aload_n hx hb dX12_draw_178 rfl (lv_at hl 1 rfl) ?_
                refine lv_iload_n hx hb dX12_draw_179 rfl (lv_at hl 2 rfl) ?_
                refine eRi (va_runV (As := [.int (nI tn1)]) (rest := []) ⟨hx, hb, hml, hown, hts⟩ (c_X12_marksOf l D cI cB cZ cJ tx h q im_54 m_hasMark_j1 tn1 (lf_X12_draw_16 h q im ms mk md m_across m_deep m_isGone m_hasMark m_markAcross m_markDeep (nI tn1) n2 n3 (nI tn4) hf_ms hf_mk hf_md hms hmk hm3 hmd c_2 tn1 tn1a rfl c_6 c_9 c_12 tn4 tn4a tn4b rfl j1 m_hasMark_j1 m_markAcross_j1 m_markDeep_j1 im_54 k54 hj54 hk54 hsb hm54_2 hm54_3 hm54_50 c_13 n_14) H.size) (zV hts k_1857 v_X12_marksOf ⟨Nat.le_of_ble_eq_true rfl, Nat.le_of_ble_eq_true rfl⟩) (pV (pxS hK hP hD [0, 4] (by decide) rfl) hK hP 0 rfl rfl) rfl rfl hl.1 rfl (lv_room (Nat.le_of_ble_eq_true rfl)) dX12_draw_180 ⟨Nat.le_of_ble_eq_true rfl, Nat.le_of_ble_eq_true rfl⟩) hP hS hA (fun r_17 H locs wr_17 hP hS => ?_)
                exact W.iret (v := r_17) hx hb hr (fun tt9 ht hW => ⟨⟨(r_17 : Int32), ((im_54 : Nat → Int32), (m_hasMark_j1 : Nat → Int32), (m_markAcross_j1 : Nat → Int32), (m_markDeep_j1 : Nat → Int32)), rfl, (lf_X12_draw_18 h q im ms mk md m_across m_deep m_isGone m_hasMark m_markAcross m_markDeep (nI tn1) n2 n3 (nI tn4) hf_ms hf_mk hf_md hms hmk hm3 hmd c_2 tn1 tn1a rfl c_6 c_9 c_12 tn4 tn4a tn4b rfl j1 m_hasMark_j1 m_markAcross_j1 m_markDeep_j1 im_54 k54 hj54 hk54 hsb hm54_2 hm54_3 hm54_50 c_13 n_14 r_17), ⟨by rw [ht]; exact hP, hD⟩⟩, hS.F ht⟩) hS.2.2 dX12_draw_183 hlocks
              · have n_19 : j1 < ms := (lf_X12_draw_20 h q im ms mk md m_across m_deep m_isGone m_hasMark m_markAcross m_markDeep (nI tn1) n2 n3 (nI tn4) hf_ms hf_mk hf_md hms hmk hm3 hmd c_2 tn1 tn1a rfl c_6 c_9 c_12 tn4 tn4a tn4b rfl j1 m_hasMark_j1 m_markAcross_j1 m_markDeep_j1 im_54 k54 hj54 hk54 hsb hm54_2 hm54_3 hm54_50 c_13)
                refine lv_iconst (v := 0) hx hb dX12_draw_63 (by decide) ?_
                refine lv_istore (lv' := [(6, .int 0), (5, .int (nI j1)), (0, .ref h), (1, .int (nI tn1)), (2, .int n2), (3, .int n3), (4, .int (nI tn4))]) hx hb dX12_draw_64 hl (by decide) rfl (fun ls hl => ?_)
                have lp66 : ∀ (k66 : Nat) (j2 : Nat) (m_hasMark_j2 : Nat → Int32) (m_markAcross_j2 : Nat → Int32) (m_markDeep_j2 : Nat → Int32) (im_66 : Nat → Int32) (H : Heap) (locs : List Loc) (ls : Array Slot), j2 ≤ mk → mk < j2 + k66 → (SB [5] im im_66) → (im_66 2 = nI ms) → (im_66 3 = nI mk) → (im_66 50 = nI md) → va_P D vwCl [(h, .inr (12, mG q im_66)), (q 44, .inl (cI, 384, .inl m_across)), (q 45, .inl (cI, 384, .inl m_deep)), (q 46, .inl (cZ, 384, .inl m_isGone)), (q 51, .inl (cZ, 1536, .inl m_hasMark_j2)), (q 52, .inl (cI, 1536, .inl m_markAcross_j2)), (q 53, .inl (cI, 1536, .inl m_markDeep_j2))] H → va_D A [(h, .inr (12, mG q im_66)), (q 44, .inl (cI, 384, .inl m_across)), (q 45, .inl (cI, 384, .inl m_deep)), (q 46, .inl (cZ, 384, .inl m_isGone)), (q 51, .inl (cZ, 1536, .inl m_hasMark_j2)), (q 52, .inl (cI, 1536, .inl m_markAcross_j2)), (q 53, .inl (cI, 1536, .inl m_markDeep_j2))] → va_S A s.heap H locs → lv_has ls 9 [(6, .int (nI j2)), (5, .int (nI j1)), (0, .ref h), (1, .int (nI tn1)), (2, .int n2), (3, .int n3), (4, .int (nI tn4))] → W p l e (rmX 2 0 0) s m ([.ref h, .int (nI tn1), .int n2, .int n3, .int (nI tn4)] : List Value).toArray below meth c H locs 0 0 (MQ below (va_Qi (fun (r : Int32) (v : (Nat → Int32) × (Nat → Int32) × (Nat → Int32) × (Nat → Int32)) => (SB [5] im v.1)) (fun u => BX D A ((fun v => [(h, .inr (12, mG q v.1)), (q 44, .inl (cI, 384, .inl m_across)), (q 45, .inl (cI, 384, .inl m_deep)), (q 46, .inl (cZ, 384, .inl m_isGone)), (q 51, .inl (cZ, 1536, .inl v.2.1)), (q 52, .inl (cI, 1536, .inl v.2.2.1)), (q 53, .inl (cI, 1536, .inl v.2.2.2))]) u)) A) ([.ref h, .int (nI tn1), .int n2, .int n3, .int (nI tn4)] : List Value).toArray s 0 0 A) (F0 m 66 ls []) := by
                  intro k66
                  induction k66 with
                  | zero =>
                    intro j2 m_hasMark_j2 m_markAcross_j2 m_markDeep_j2 im_66 H locs ls hj66 hk66 hsb hm66_2 hm66_3 hm66_50 hP hD hS hl
                    exact absurd hk66 (by omega)
                  | succ k66 ih66 =>
                    intro j2 m_hasMark_j2 m_markAcross_j2 m_markDeep_j2 im_66 H locs ls hj66 hk66 hsb hm66_2 hm66_3 hm66_50 hP hD hS hl
                    refine lv_iload hx hb dX12_draw_66 (lv_at hl 0 rfl) ?_
                    refine lv_aload_n hx hb dX12_draw_68 rfl (lv_at hl 2 rfl) ?_
                    refine va_get (D := D) (ci := 12) (v := .int (im_66 3)) (C := RX12) (T := TX12) (N := 81) hx hb hts inT_X12 hown hK.1 hP 0 rfl rfl 3 (by decide) (hts _ k_1356) (fun _ h9 => h9) rfl dX12_draw_69 ?_
                    refine lv_topv (y := nI mk) hm66_3 ?_
                    refine lv_icmp_ge (tgt := 172) hx hb dX12_draw_72 (by decide) (fun c_21 => ?_) (fun c_21 => ?_)
                    · have n_22 : mk ≤ j2 := (lf_X12_draw_23 h q im ms mk md m_across m_deep m_isGone m_hasMark m_markAcross m_markDeep (nI tn1) n2 n3 (nI tn4) hf_ms hf_mk hf_md hms hmk hm3 hmd c_2 tn1 tn1a rfl c_6 c_9 c_12 tn4 tn4a tn4b rfl j1 m_hasMark_j1 m_markAcross_j1 m_markDeep_j1 im_54 k54 hj54 hk54 hm54_2 hm54_3 hm54_50 c_13 n_19 j2 m_hasMark_j2 m_markAcross_j2 m_markDeep_j2 im_66 k66 hj66 hk66 hsb hm66_2 hm66_3 hm66_50 c_21)
                      refine lv_iinc (v := nI (j1 + 1)) (lv' := [(5, .int (nI (j1 + 1))), (6, .int (nI j2)), (0, .ref h), (1, .int (nI tn1)), (2, .int n2), (3, .int n3), (4, .int (nI tn4))]) hx hb dX12_draw_172 hl (k := 1) rfl (nI_1 j1) (by decide) rfl (fun ls hl => ?_)
                      refine lv_goto (tgt := 54) hx hb dX12_draw_175 (by decide) ?_
                      exact ih54 (j1 + 1) m_hasMark_j2 m_markAcross_j2 m_markDeep_j2 im_66 H locs ls (by omega) (by omega) hsb hm66_2 hm66_3 hm66_50 (hP.sub [0, 1, 2, 3, 4, 5, 6] rfl) (hD.sub [0, 1, 2, 3, 4, 5, 6] (by decide) rfl) hS (lv_sub hl [0, 2, 3, 4, 5, 6] rfl)
                    · have n_24 : j2 < mk := (lf_X12_draw_25 h q im ms mk md m_across m_deep m_isGone m_hasMark m_markAcross m_markDeep (nI tn1) n2 n3 (nI tn4) hf_ms hf_mk hf_md hms hmk hm3 hmd c_2 tn1 tn1a rfl c_6 c_9 c_12 tn4 tn4a tn4b rfl j1 m_hasMark_j1 m_markAcross_j1 m_markDeep_j1 im_54 k54 hj54 hk54 hm54_2 hm54_3 hm54_50 c_13 n_19 j2 m_hasMark_j2 m_markAcross_j2 m_markDeep_j2 im_66 k66 hj66 hk66 hsb hm66_2 hm66_3 hm66_50 c_21)
                      refine lv_iconst (v := 0) hx hb dX12_draw_75 (by decide) ?_
                      refine lv_istore (lv' := [(7, .int 0), (6, .int (nI j2)), (5, .int (nI j1)), (0, .ref h), (1, .int (nI tn1)), (2, .int n2), (3, .int n3), (4, .int (nI tn4))]) hx hb dX12_draw_76 hl (by decide) rfl (fun ls hl => ?_)
                      have lp78 : ∀ (k78 : Nat) (j3 : Nat) (m_hasMark_j3 : Nat → Int32) (m_markAcross_j3 : Nat → Int32) (m_markDeep_j3 : Nat → Int32) (im_78 : Nat → Int32) (H : Heap) (locs : List Loc) (ls : Array Slot), j3 ≤ 2 → 2 < j3 + k78 → (SB [5] im im_78) → (im_78 2 = nI ms) → (im_78 3 = nI mk) → (im_78 50 = nI md) → va_P D vwCl [(h, .inr (12, mG q im_78)), (q 44, .inl (cI, 384, .inl m_across)), (q 45, .inl (cI, 384, .inl m_deep)), (q 46, .inl (cZ, 384, .inl m_isGone)), (q 51, .inl (cZ, 1536, .inl m_hasMark_j3)), (q 52, .inl (cI, 1536, .inl m_markAcross_j3)), (q 53, .inl (cI, 1536, .inl m_markDeep_j3))] H → va_D A [(h, .inr (12, mG q im_78)), (q 44, .inl (cI, 384, .inl m_across)), (q 45, .inl (cI, 384, .inl m_deep)), (q 46, .inl (cZ, 384, .inl m_isGone)), (q 51, .inl (cZ, 1536, .inl m_hasMark_j3)), (q 52, .inl (cI, 1536, .inl m_markAcross_j3)), (q 53, .inl (cI, 1536, .inl m_markDeep_j3))] → va_S A s.heap H locs → lv_has ls 9 [(7, .int (nI j3)), (6, .int (nI j2)), (5, .int (nI j1)), (0, .ref h), (1, .int (nI tn1)), (2, .int n2), (3, .int n3), (4, .int (nI tn4))] → W p l e (rmX 2 0 0) s m ([.ref h, .int (nI tn1), .int n2, .int n3, .int (nI tn4)] : List Value).toArray below meth c H locs 0 0 (MQ below (va_Qi (fun (r : Int32) (v : (Nat → Int32) × (Nat → Int32) × (Nat → Int32) × (Nat → Int32)) => (SB [5] im v.1)) (fun u => BX D A ((fun v => [(h, .inr (12, mG q v.1)), (q 44, .inl (cI, 384, .inl m_across)), (q 45, .inl (cI, 384, .inl m_deep)), (q 46, .inl (cZ, 384, .inl m_isGone)), (q 51, .inl (cZ, 1536, .inl v.2.1)), (q 52, .inl (cI, 1536, .inl v.2.2.1)), (q 53, .inl (cI, 1536, .inl v.2.2.2))]) u)) A) ([.ref h, .int (nI tn1), .int n2, .int n3, .int (nI tn4)] : List Value).toArray s 0 0 A) (F0 m 78 ls []) := by
                        intro k78
                        induction k78 with
                        | zero =>
                          intro j3 m_hasMark_j3 m_markAcross_j3 m_markDeep_j3 im_78 H locs ls hj78 hk78 hsb hm78_2 hm78_3 hm78_50 hP hD hS hl
                          exact absurd hk78 (by omega)
                        | succ k78 ih78 =>
                          intro j3 m_hasMark_j3 m_markAcross_j3 m_markDeep_j3 im_78 H locs ls hj78 hk78 hsb hm78_2 hm78_3 hm78_50 hP hD hS hl
                          refine lv_iload hx hb dX12_draw_78 (lv_at hl 0 rfl) ?_
                          refine lv_iconst (v := 2) hx hb dX12_draw_80 (by decide) ?_
                          refine lv_icmp_ge (tgt := 166) hx hb dX12_draw_81 (by decide) (fun c_26 => ?_) (fun c_26 => ?_)
                          · have n_27 : 2 ≤ j3 := (lf_X12_draw_28 h q im ms mk md m_across m_deep m_isGone m_hasMark m_markAcross m_markDeep (nI tn1) n2 n3 (nI tn4) hf_ms hf_mk hf_md hms hmk hm3 hmd c_2 tn1 tn1a rfl c_6 c_9 c_12 tn4 tn4a tn4b rfl j1 m_hasMark_j1 m_markAcross_j1 m_markDeep_j1 im_54 k54 hj54 hk54 hm54_2 hm54_3 hm54_50 c_13 n_19 j2 m_hasMark_j2 m_markAcross_j2 m_markDeep_j2 im_66 k66 hj66 hk66 hm66_2 hm66_3 hm66_50 c_21 n_24 j3 m_hasMark_j3 m_markAcross_j3 m_markDeep_j3 im_78 k78 hj78 hk78 hsb hm78_2 hm78_3 hm78_50 c_26)
                            refine lv_iinc (v := nI (j2 + 1)) (lv' := [(6, .int (nI (j2 + 1))), (7, .int (nI j3)), (5, .int (nI j1)), (0, .ref h), (1, .int (nI tn1)), (2, .int n2), (3, .int n3), (4, .int (nI tn4))]) hx hb dX12_draw_166 hl (k := 1) rfl (nI_1 j2) (by decide) rfl (fun ls hl => ?_)
                            refine lv_goto (tgt := 66) hx hb dX12_draw_169 (by decide) ?_
                            exact ih66 (j2 + 1) m_hasMark_j3 m_markAcross_j3 m_markDeep_j3 im_78 H locs ls (by omega) (by omega) hsb hm78_2 hm78_3 hm78_50 (hP.sub [0, 1, 2, 3, 4, 5, 6] rfl) (hD.sub [0, 1, 2, 3, 4, 5, 6] (by decide) rfl) hS (lv_sub hl [0, 2, 3, 4, 5, 6, 7] rfl)
                          · have n_29 : j3 < 2 := (lf_X12_draw_30 h q im ms mk md m_across m_deep m_isGone m_hasMark m_markAcross m_markDeep (nI tn1) n2 n3 (nI tn4) hf_ms hf_mk hf_md hms hmk hm3 hmd c_2 tn1 tn1a rfl c_6 c_9 c_12 tn4 tn4a tn4b rfl j1 m_hasMark_j1 m_markAcross_j1 m_markDeep_j1 im_54 k54 hj54 hk54 hm54_2 hm54_3 hm54_50 c_13 n_19 j2 m_hasMark_j2 m_markAcross_j2 m_markDeep_j2 im_66 k66 hj66 hk66 hm66_2 hm66_3 hm66_50 c_21 n_24 j3 m_hasMark_j3 m_markAcross_j3 m_markDeep_j3 im_78 k78 hj78 hk78 hsb hm78_2 hm78_3 hm78_50 c_26)
                            refine lv_aload_n hx hb dX12_draw_84 rfl (lv_at hl 3 rfl) ?_
                            refine lv_iload hx hb dX12_draw_85 (lv_at hl 2 rfl) ?_
                            refine lv_iload hx hb dX12_draw_87 (lv_at hl 1 rfl) ?_
                            refine lv_iload hx hb dX12_draw_89 (lv_at hl 0 rfl) ?_
                            refine eRi (va_runV (As := [.int (nI j1), .int (nI j2), .int (nI j3)]) (rest := []) ⟨hx, hb, hml, hown, hts⟩ (c_X12_isSeen l D cI cB cZ cJ tx h q im_78 m_isGone j1 j2 j3 (lf_X12_draw_31 h q im ms mk md m_across m_deep m_isGone m_hasMark m_markAcross m_markDeep (nI tn1) n2 n3 (nI tn4) hf_ms hf_mk hf_md hms hmk hm3 hmd c_2 tn1 tn1a rfl c_6 c_9 c_12 tn4 tn4a tn4b rfl j1 m_hasMark_j1 m_markAcross_j1 m_markDeep_j1 im_54 k54 hj54 hk54 hm54_2 hm54_3 hm54_50 c_13 n_19 j2 m_hasMark_j2 m_markAcross_j2 m_markDeep_j2 im_66 k66 hj66 hk66 hm66_2 hm66_3 hm66_50 c_21 n_24 j3 m_hasMark_j3 m_markAcross_j3 m_markDeep_j3 im_78 k78 hj78 hk78 hsb hm78_2 hm78_3 hm78_50 c_26 n_29) (lf_X12_draw_32 h q im ms mk md m_across m_deep m_isGone m_hasMark m_markAcross m_markDeep (nI tn1) n2 n3 (nI tn4) hf_ms hf_mk hf_md hms hmk hm3 hmd c_2 tn1 tn1a rfl c_6 c_9 c_12 tn4 tn4a tn4b rfl j1 m_hasMark_j1 m_markAcross_j1 m_markDeep_j1 im_54 k54 hj54 hk54 hm54_2 hm54_3 hm54_50 c_13 n_19 j2 m_hasMark_j2 m_markAcross_j2 m_markDeep_j2 im_66 k66 hj66 hk66 hm66_2 hm66_3 hm66_50 c_21 n_24 j3 m_hasMark_j3 m_markAcross_j3 m_markDeep_j3 im_78 k78 hj78 hk78 hsb hm78_2 hm78_3 hm78_50 c_26 n_29) (lf_X12_draw_33 h q im ms mk md m_across m_deep m_isGone m_hasMark m_markAcross m_markDeep (nI tn1) n2 n3 (nI tn4) hf_ms hf_mk hf_md hms hmk hm3 hmd c_2 tn1 tn1a rfl c_6 c_9 c_12 tn4 tn4a tn4b rfl j1 m_hasMark_j1 m_markAcross_j1 m_markDeep_j1 im_54 k54 hj54 hk54 hm54_2 hm54_3 hm54_50 c_13 n_19 j2 m_hasMark_j2 m_markAcross_j2 m_markDeep_j2 im_66 k66 hj66 hk66 hm66_2 hm66_3 hm66_50 c_21 n_24 j3 m_hasMark_j3 m_markAcross_j3 m_markDeep_j3 im_78 k78 hj78 hk78 hsb hm78_2 hm78_3 hm78_50 c_26 n_29) H.size) (zV hts k_1821 v_X12_isSeen ⟨Nat.le_of_ble_eq_true rfl, Nat.le_of_ble_eq_true rfl⟩) (pV (pxS hK hP hD [0, 3] (by decide) rfl) hK hP 0 rfl rfl) rfl rfl hl.1 rfl (lv_room (Nat.le_of_ble_eq_true rfl)) dX12_draw_91 ⟨Nat.le_of_ble_eq_true rfl, Nat.le_of_ble_eq_true rfl⟩) hP hS hA (fun r_34 H locs wr_34 hP hS => ?_)
                            refine lv_if_ne (tgt := 100) hx hb dX12_draw_94 (by decide) (fun c_35 => ?_) (fun c_35 => ?_)
                            · refine lv_aload_n hx hb dX12_draw_100 rfl (lv_at hl 3 rfl) ?_
                              refine eWv (wr := [(q 44, .inl (cI, 384, .inl m_across)), (q 45, .inl (cI, 384, .inl m_deep)), (q 46, .inl (cZ, 384, .inl m_isGone)), (q 51, .inl (cZ, 1536, .inl m_hasMark_j3)), (q 52, .inl (cI, 1536, .inl m_markAcross_j3)), (q 53, .inl (cI, 1536, .inl m_markDeep_j3))]) (va_runV (As := []) (rest := []) ⟨hx, hb, hml, hown, hts⟩ (c_X12_draws l D cI cB cZ cJ tx h q im_78 H.size) (zV hts k_1783 v_X12_draws ⟨Nat.le_of_ble_eq_true rfl, Nat.le_of_ble_eq_true rfl⟩) (pV (pxS hK hP hD [0] (by decide) rfl) hK hP 0 rfl rfl) rfl rfl hl.1 rfl (lv_room (Nat.le_of_ble_eq_true rfl)) dX12_draw_101 ⟨Nat.le_of_ble_eq_true rfl, Nat.le_of_ble_eq_true rfl⟩) hP hD hS hA [0] [1, 2, 3, 4, 5, 6] rfl rfl (by decide) (by decide) (fun u_37 H locs wr_36 hP hD hS => ?_)
                              obtain ⟨im_37, rfl⟩ : ∃ z, z = u_37 := ⟨_, rfl⟩
                              have hz_37_0 : SB [5] im_78 im_37 := wr_36
                              have hk_37_2 : im_37 2 = nI ms := (hz_37_0 2 (by decide)).trans hm78_2
                              have hk_37_3 : im_37 3 = nI mk := (hz_37_0 3 (by decide)).trans hm78_3
                              have hk_37_50 : im_37 50 = nI md := (hz_37_0 50 (by decide)).trans hm78_50
                              have hsb := SB.step hsb hz_37_0 (by decide)
                              have hP : va_P D vwCl [(q 44, .inl (cI, 384, .inl m_across)), (q 45, .inl (cI, 384, .inl m_deep)), (q 46, .inl (cZ, 384, .inl m_isGone)), (q 51, .inl (cZ, 1536, .inl m_hasMark_j3)), (q 52, .inl (cI, 1536, .inl m_markAcross_j3)), (q 53, .inl (cI, 1536, .inl m_markDeep_j3)), (h, .inr (12, mG q im_37))] H := hP
                              have hD : va_D A [(q 44, .inl (cI, 384, .inl m_across)), (q 45, .inl (cI, 384, .inl m_deep)), (q 46, .inl (cZ, 384, .inl m_isGone)), (q 51, .inl (cZ, 1536, .inl m_hasMark_j3)), (q 52, .inl (cI, 1536, .inl m_markAcross_j3)), (q 53, .inl (cI, 1536, .inl m_markDeep_j3)), (h, .inr (12, mG q im_37))] := hD
                              refine lv_iload hx hb dX12_draw_104 (lv_at hl 2 rfl) ?_
                              refine lv_iload hx hb dX12_draw_106 (lv_at hl 1 rfl) ?_
                              refine lv_iload hx hb dX12_draw_108 (lv_at hl 0 rfl) ?_
                              refine eRi (va_runS (As := [.int (nI j1), .int (nI j2), .int (nI j3)]) (rest := []) ⟨hx, hb, hml, hown, hts⟩ (c_X12_cellOf l D cI cB cZ cJ tx j1 j2 j3 H.size) (zS hts k_1735 v_X12_cellOf ⟨Nat.le_of_ble_eq_true rfl, Nat.le_of_ble_eq_true rfl⟩) (px0 hK) rfl rfl hl.1 rfl (lv_room (Nat.le_of_ble_eq_true rfl)) dX12_draw_110 ⟨Nat.le_of_ble_eq_true rfl, Nat.le_of_ble_eq_true rfl⟩) hP hS hA (fun r_38 H locs wr_38 hP hS => ?_)
                              subst wr_38
                              refine lv_istore (lv' := [(8, .int (nI (16 * j1 + 2 * j2 + j3))), (7, .int (nI j3)), (6, .int (nI j2)), (5, .int (nI j1)), (0, .ref h), (1, .int (nI tn1)), (2, .int n2), (3, .int n3), (4, .int (nI tn4))]) hx hb dX12_draw_113 hl (by decide) rfl (fun ls hl => ?_)
                              refine lv_aload_n hx hb dX12_draw_115 rfl (lv_at hl 4 rfl) ?_
                              refine lv_iload_n hx hb dX12_draw_116 rfl (lv_at hl 5 rfl) ?_
                              refine lv_iload hx hb dX12_draw_117 (lv_at hl 0 rfl) ?_
                              refine lv_aload_n hx hb dX12_draw_119 rfl (lv_at hl 4 rfl) ?_
                              refine va_get (D := D) (ci := 12) (v := .ref (q 44)) (C := RX12) (T := TX12) (N := 81) hx hb hts inT_X12 hown hK.1 hP 6 rfl rfl 44 (by decide) (hts _ k_1397) (fun _ h9 => h9) rfl dX12_draw_120 ?_
                              refine lv_iload hx hb dX12_draw_123 (lv_at hl 0 rfl) ?_
                              refine ld_i hx hb hK hP 0 rfl (lf_X12_draw_39 h q im ms mk md m_across m_deep m_isGone m_hasMark m_markAcross m_markDeep (nI tn1) n2 n3 (nI tn4) hf_ms hf_mk hf_md hms hmk hm3 hmd c_2 tn1 tn1a rfl c_6 c_9 c_12 tn4 tn4a tn4b rfl j1 m_hasMark_j1 m_markAcross_j1 m_markDeep_j1 im_54 k54 hj54 hk54 hm54_2 hm54_3 hm54_50 c_13 n_19 j2 m_hasMark_j2 m_markAcross_j2 m_markDeep_j2 im_66 k66 hj66 hk66 hm66_2 hm66_3 hm66_50 c_21 n_24 j3 m_hasMark_j3 m_markAcross_j3 m_markDeep_j3 im_78 k78 hj78 hk78 hm78_2 hm78_3 hm78_50 c_26 n_29 r_34 c_35 im_37 hz_37_0 hsb) dX12_draw_125 (fun x_40 => ?_)
                              refine lv_iload_n hx hb dX12_draw_126 rfl (lv_at hl 6 rfl) ?_
                              refine lv_iadd hx hb dX12_draw_127 ?_
                              refine lv_topi (fun x_41 ex_41 => ?_)
                              refine lv_aload_n hx hb dX12_draw_128 rfl (lv_at hl 4 rfl) ?_
                              refine va_get (D := D) (ci := 12) (v := .int (im_37 5)) (C := RX12) (T := TX12) (N := 81) hx hb hts inT_X12 hown hK.1 hP 6 rfl rfl 5 (by decide) (hts _ k_1358) (fun _ h9 => h9) rfl dX12_draw_129 ?_
                              refine lv_sipush (v := 1000) hx hb dX12_draw_132 (by decide) ?_
                              refine lv_irem hx hb dX12_draw_135 (by decide) ?_
                              refine lv_topi (fun x_42 _ => ?_)
                              refine lv_iload hx hb dX12_draw_136 (lv_at hl 8 rfl) ?_
                              refine lv_icmp_ge (tgt := 146) hx hb dX12_draw_138 (by decide) (fun c_43 => ?_) (fun c_43 => ?_)
                              · refine lv_iconst (v := 0) hx hb dX12_draw_146 (by decide) ?_
                                refine lv_iadd hx hb dX12_draw_147 ?_
                                refine lv_topi (fun x_44 ex_44 => ?_)
                                refine lv_aload_n hx hb dX12_draw_148 rfl (lv_at hl 4 rfl) ?_
                                refine va_get (D := D) (ci := 12) (v := .ref (q 45)) (C := RX12) (T := TX12) (N := 81) hx hb hts inT_X12 hown hK.1 hP 6 rfl rfl 45 (by decide) (hts _ k_1398) (fun _ h9 => h9) rfl dX12_draw_149 ?_
                                refine lv_iload hx hb dX12_draw_152 (lv_at hl 0 rfl) ?_
                                refine ld_i hx hb hK hP 1 rfl (lf_X12_draw_45 h q im ms mk md m_across m_deep m_isGone m_hasMark m_markAcross m_markDeep (nI tn1) n2 n3 (nI tn4) hf_ms hf_mk hf_md hms hmk hm3 hmd c_2 tn1 tn1a rfl c_6 c_9 c_12 tn4 tn4a tn4b rfl j1 m_hasMark_j1 m_markAcross_j1 m_markDeep_j1 im_54 k54 hj54 hk54 hm54_2 hm54_3 hm54_50 c_13 n_19 j2 m_hasMark_j2 m_markAcross_j2 m_markDeep_j2 im_66 k66 hj66 hk66 hm66_2 hm66_3 hm66_50 c_21 n_24 j3 m_hasMark_j3 m_markAcross_j3 m_markDeep_j3 im_78 k78 hj78 hk78 hm78_2 hm78_3 hm78_50 c_26 n_29 r_34 c_35 im_37 hz_37_0 hsb x_40 x_41 ex_41 x_42 c_43 x_44 ex_44) dX12_draw_154 (fun x_46 => ?_)
                                refine lv_iload_n hx hb dX12_draw_155 rfl (lv_at hl 7 rfl) ?_
                                refine lv_iadd hx hb dX12_draw_156 ?_
                                refine lv_topi (fun x_47 ex_47 => ?_)
                                refine eWv (wr := [(q 44, .inl (cI, 384, .inl m_across)), (q 45, .inl (cI, 384, .inl m_deep)), (q 46, .inl (cZ, 384, .inl m_isGone))]) (va_runV (As := [.int (nI tn1), .int (nI (16 * j1 + 2 * j2 + j3)), .int x_44, .int x_47]) (rest := []) ⟨hx, hb, hml, hown, hts⟩ (c_X12_marks l D cI cB cZ cJ tx h q im_37 m_hasMark_j3 m_markAcross_j3 m_markDeep_j3 tn1 (16 * j1 + 2 * j2 + j3) x_44 x_47 (lf_X12_draw_48 h q im ms mk md m_across m_deep m_isGone m_hasMark m_markAcross m_markDeep (nI tn1) n2 n3 (nI tn4) hf_ms hf_mk hf_md hms hmk hm3 hmd c_2 tn1 tn1a rfl c_6 c_9 c_12 tn4 tn4a tn4b rfl j1 m_hasMark_j1 m_markAcross_j1 m_markDeep_j1 im_54 k54 hj54 hk54 hm54_2 hm54_3 hm54_50 c_13 n_19 j2 m_hasMark_j2 m_markAcross_j2 m_markDeep_j2 im_66 k66 hj66 hk66 hm66_2 hm66_3 hm66_50 c_21 n_24 j3 m_hasMark_j3 m_markAcross_j3 m_markDeep_j3 im_78 k78 hj78 hk78 hm78_2 hm78_3 hm78_50 c_26 n_29 r_34 c_35 im_37 hz_37_0 hsb x_40 x_41 ex_41 x_42 c_43 x_44 ex_44 x_46 x_47 ex_47) (lf_X12_draw_49 h q im ms mk md m_across m_deep m_isGone m_hasMark m_markAcross m_markDeep (nI tn1) n2 n3 (nI tn4) hf_ms hf_mk hf_md hms hmk hm3 hmd c_2 tn1 tn1a rfl c_6 c_9 c_12 tn4 tn4a tn4b rfl j1 m_hasMark_j1 m_markAcross_j1 m_markDeep_j1 im_54 k54 hj54 hk54 hm54_2 hm54_3 hm54_50 c_13 n_19 j2 m_hasMark_j2 m_markAcross_j2 m_markDeep_j2 im_66 k66 hj66 hk66 hm66_2 hm66_3 hm66_50 c_21 n_24 j3 m_hasMark_j3 m_markAcross_j3 m_markDeep_j3 im_78 k78 hj78 hk78 hm78_2 hm78_3 hm78_50 c_26 n_29 r_34 c_35 im_37 hz_37_0 hsb x_40 x_41 ex_41 x_42 c_43 x_44 ex_44 x_46 x_47 ex_47) H.size) (zV hts k_1847 v_X12_marks ⟨Nat.le_of_ble_eq_true rfl, Nat.le_of_ble_eq_true rfl⟩) (pV (pxS hK hP hD [6, 3, 4, 5] (by decide) rfl) hK hP 6 rfl rfl) rfl rfl hl.1 rfl (lv_room (Nat.le_of_ble_eq_true rfl)) dX12_draw_157 ⟨Nat.le_of_ble_eq_true rfl, Nat.le_of_ble_eq_true rfl⟩) hP hD hS hA [6, 3, 4, 5] [0, 1, 2] rfl rfl (by decide) (by decide) (fun u_51 H locs wr_50 hP hD hS => ?_)
                                obtain ⟨m_hasMark_51, m_markAcross_51, m_markDeep_51⟩ := u_51
                                have hP : va_P D vwCl [(q 44, .inl (cI, 384, .inl m_across)), (q 45, .inl (cI, 384, .inl m_deep)), (q 46, .inl (cZ, 384, .inl m_isGone)), (h, .inr (12, mG q im_37)), (q 51, .inl (cZ, 1536, .inl m_hasMark_51)), (q 52, .inl (cI, 1536, .inl m_markAcross_51)), (q 53, .inl (cI, 1536, .inl m_markDeep_51))] H := hP
                                have hD : va_D A [(q 44, .inl (cI, 384, .inl m_across)), (q 45, .inl (cI, 384, .inl m_deep)), (q 46, .inl (cZ, 384, .inl m_isGone)), (h, .inr (12, mG q im_37)), (q 51, .inl (cZ, 1536, .inl m_hasMark_51)), (q 52, .inl (cI, 1536, .inl m_markAcross_51)), (q 53, .inl (cI, 1536, .inl m_markDeep_51))] := hD
                                refine lv_iinc (v := nI (j3 + 1)) (lv' := [(7, .int (nI (j3 + 1))), (8, .int (nI (16 * j1 + 2 * j2 + j3))), (6, .int (nI j2)), (5, .int (nI j1)), (0, .ref h), (1, .int (nI tn1)), (2, .int n2), (3, .int n3), (4, .int (nI tn4))]) hx hb dX12_draw_160 hl (k := 1) rfl (nI_1 j3) (by decide) rfl (fun ls hl => ?_)
                                refine lv_goto (tgt := 78) hx hb dX12_draw_163 (by decide) ?_
                                exact ih78 (j3 + 1) m_hasMark_51 m_markAcross_51 m_markDeep_51 im_37 H locs ls (by omega) (by omega) hsb hk_37_2 hk_37_3 hk_37_50 (hP.sub [3, 0, 1, 2, 4, 5, 6] rfl) (hD.sub [3, 0, 1, 2, 4, 5, 6] (by decide) rfl) hS (lv_sub hl [0, 2, 3, 4, 5, 6, 7, 8] rfl)
                              · refine lv_bipush (v := 50) hx hb dX12_draw_141 (by decide) ?_
                                refine lv_goto (tgt := 147) hx hb dX12_draw_143 (by decide) ?_
                                refine lv_iadd hx hb dX12_draw_147 ?_
                                refine lv_topi (fun x_52 ex_52 => ?_)
                                refine lv_aload_n hx hb dX12_draw_148 rfl (lv_at hl 4 rfl) ?_
                                refine va_get (D := D) (ci := 12) (v := .ref (q 45)) (C := RX12) (T := TX12) (N := 81) hx hb hts inT_X12 hown hK.1 hP 6 rfl rfl 45 (by decide) (hts _ k_1398) (fun _ h9 => h9) rfl dX12_draw_149 ?_
                                refine lv_iload hx hb dX12_draw_152 (lv_at hl 0 rfl) ?_
                                refine ld_i hx hb hK hP 1 rfl (lf_X12_draw_53 h q im ms mk md m_across m_deep m_isGone m_hasMark m_markAcross m_markDeep (nI tn1) n2 n3 (nI tn4) hf_ms hf_mk hf_md hms hmk hm3 hmd c_2 tn1 tn1a rfl c_6 c_9 c_12 tn4 tn4a tn4b rfl j1 m_hasMark_j1 m_markAcross_j1 m_markDeep_j1 im_54 k54 hj54 hk54 hm54_2 hm54_3 hm54_50 c_13 n_19 j2 m_hasMark_j2 m_markAcross_j2 m_markDeep_j2 im_66 k66 hj66 hk66 hm66_2 hm66_3 hm66_50 c_21 n_24 j3 m_hasMark_j3 m_markAcross_j3 m_markDeep_j3 im_78 k78 hj78 hk78 hm78_2 hm78_3 hm78_50 c_26 n_29 r_34 c_35 im_37 hz_37_0 hsb x_40 x_41 ex_41 x_42 c_43 x_52 ex_52) dX12_draw_154 (fun x_54 => ?_)
                                refine lv_iload_n hx hb dX12_draw_155 rfl (lv_at hl 7 rfl) ?_
                                refine lv_iadd hx hb dX12_draw_156 ?_
                                refine lv_topi (fun x_55 ex_55 => ?_)
                                refine eWv (wr := [(q 44, .inl (cI, 384, .inl m_across)), (q 45, .inl (cI, 384, .inl m_deep)), (q 46, .inl (cZ, 384, .inl m_isGone))]) (va_runV (As := [.int (nI tn1), .int (nI (16 * j1 + 2 * j2 + j3)), .int x_52, .int x_55]) (rest := []) ⟨hx, hb, hml, hown, hts⟩ (c_X12_marks l D cI cB cZ cJ tx h q im_37 m_hasMark_j3 m_markAcross_j3 m_markDeep_j3 tn1 (16 * j1 + 2 * j2 + j3) x_52 x_55 (lf_X12_draw_56 h q im ms mk md m_across m_deep m_isGone m_hasMark m_markAcross m_markDeep (nI tn1) n2 n3 (nI tn4) hf_ms hf_mk hf_md hms hmk hm3 hmd c_2 tn1 tn1a rfl c_6 c_9 c_12 tn4 tn4a tn4b rfl j1 m_hasMark_j1 m_markAcross_j1 m_markDeep_j1 im_54 k54 hj54 hk54 hm54_2 hm54_3 hm54_50 c_13 n_19 j2 m_hasMark_j2 m_markAcross_j2 m_markDeep_j2 im_66 k66 hj66 hk66 hm66_2 hm66_3 hm66_50 c_21 n_24 j3 m_hasMark_j3 m_markAcross_j3 m_markDeep_j3 im_78 k78 hj78 hk78 hm78_2 hm78_3 hm78_50 c_26 n_29 r_34 c_35 im_37 hz_37_0 hsb x_40 x_41 ex_41 x_42 c_43 x_52 ex_52 x_54 x_55 ex_55) (lf_X12_draw_57 h q im ms mk md m_across m_deep m_isGone m_hasMark m_markAcross m_markDeep (nI tn1) n2 n3 (nI tn4) hf_ms hf_mk hf_md hms hmk hm3 hmd c_2 tn1 tn1a rfl c_6 c_9 c_12 tn4 tn4a tn4b rfl j1 m_hasMark_j1 m_markAcross_j1 m_markDeep_j1 im_54 k54 hj54 hk54 hm54_2 hm54_3 hm54_50 c_13 n_19 j2 m_hasMark_j2 m_markAcross_j2 m_markDeep_j2 im_66 k66 hj66 hk66 hm66_2 hm66_3 hm66_50 c_21 n_24 j3 m_hasMark_j3 m_markAcross_j3 m_markDeep_j3 im_78 k78 hj78 hk78 hm78_2 hm78_3 hm78_50 c_26 n_29 r_34 c_35 im_37 hz_37_0 hsb x_40 x_41 ex_41 x_42 c_43 x_52 ex_52 x_54 x_55 ex_55) H.size) (zV hts k_1847 v_X12_marks ⟨Nat.le_of_ble_eq_true rfl, Nat.le_of_ble_eq_true rfl⟩) (pV (pxS hK hP hD [6, 3, 4, 5] (by decide) rfl) hK hP 6 rfl rfl) rfl rfl hl.1 rfl (lv_room (Nat.le_of_ble_eq_true rfl)) dX12_draw_157 ⟨Nat.le_of_ble_eq_true rfl, Nat.le_of_ble_eq_true rfl⟩) hP hD hS hA [6, 3, 4, 5] [0, 1, 2] rfl rfl (by decide) (by decide) (fun u_59 H locs wr_58 hP hD hS => ?_)
                                obtain ⟨m_hasMark_59, m_markAcross_59, m_markDeep_59⟩ := u_59
                                have hP : va_P D vwCl [(q 44, .inl (cI, 384, .inl m_across)), (q 45, .inl (cI, 384, .inl m_deep)), (q 46, .inl (cZ, 384, .inl m_isGone)), (h, .inr (12, mG q im_37)), (q 51, .inl (cZ, 1536, .inl m_hasMark_59)), (q 52, .inl (cI, 1536, .inl m_markAcross_59)), (q 53, .inl (cI, 1536, .inl m_markDeep_59))] H := hP
                                have hD : va_D A [(q 44, .inl (cI, 384, .inl m_across)), (q 45, .inl (cI, 384, .inl m_deep)), (q 46, .inl (cZ, 384, .inl m_isGone)), (h, .inr (12, mG q im_37)), (q 51, .inl (cZ, 1536, .inl m_hasMark_59)), (q 52, .inl (cI, 1536, .inl m_markAcross_59)), (q 53, .inl (cI, 1536, .inl m_markDeep_59))] := hD
                                refine lv_iinc (v := nI (j3 + 1)) (lv' := [(7, .int (nI (j3 + 1))), (8, .int (nI (16 * j1 + 2 * j2 + j3))), (6, .int (nI j2)), (5, .int (nI j1)), (0, .ref h), (1, .int (nI tn1)), (2, .int n2), (3, .int n3), (4, .int (nI tn4))]) hx hb dX12_draw_160 hl (k := 1) rfl (nI_1 j3) (by decide) rfl (fun ls hl => ?_)
                                refine lv_goto (tgt := 78) hx hb dX12_draw_163 (by decide) ?_
                                exact ih78 (j3 + 1) m_hasMark_59 m_markAcross_59 m_markDeep_59 im_37 H locs ls (by omega) (by omega) hsb hk_37_2 hk_37_3 hk_37_50 (hP.sub [3, 0, 1, 2, 4, 5, 6] rfl) (hD.sub [3, 0, 1, 2, 4, 5, 6] (by decide) rfl) hS (lv_sub hl [0, 2, 3, 4, 5, 6, 7, 8] rfl)
                            · refine lv_goto (tgt := 160) hx hb dX12_draw_97 (by decide) ?_
                              refine lv_iinc (v := nI (j3 + 1)) (lv' := [(7, .int (nI (j3 + 1))), (6, .int (nI j2)), (5, .int (nI j1)), (0, .ref h), (1, .int (nI tn1)), (2, .int n2), (3, .int n3), (4, .int (nI tn4))]) hx hb dX12_draw_160 hl (k := 0) rfl (nI_1 j3) (by decide) rfl (fun ls hl => ?_)
                              refine lv_goto (tgt := 78) hx hb dX12_draw_163 (by decide) ?_
                              exact ih78 (j3 + 1) m_hasMark_j3 m_markAcross_j3 m_markDeep_j3 im_78 H locs ls (by omega) (by omega) hsb hm78_2 hm78_3 hm78_50 (hP.sub [0, 1, 2, 3, 4, 5, 6] rfl) (hD.sub [0, 1, 2, 3, 4, 5, 6] (by decide) rfl) hS (lv_sub hl [0, 1, 2, 3, 4, 5, 6, 7] rfl)
                      exact lp78 (2 + 1) 0 m_hasMark_j2 m_markAcross_j2 m_markDeep_j2 im_66 H locs ls (by omega) (by omega) hsb hm66_2 hm66_3 hm66_50 (hP.sub [0, 1, 2, 3, 4, 5, 6] rfl) (hD.sub [0, 1, 2, 3, 4, 5, 6] (by decide) rfl) hS (lv_sub hl [0, 1, 2, 3, 4, 5, 6, 7] rfl)
                exact lp66 (mk + 1) 0 m_hasMark_j1 m_markAcross_j1 m_markDeep_j1 im_54 H locs ls (by omega) (by omega) hsb hm54_2 hm54_3 hm54_50 (hP.sub [0, 1, 2, 3, 4, 5, 6] rfl) (hD.sub [0, 1, 2, 3, 4, 5, 6] (by decide) rfl) hS (lv_sub hl [0, 1, 2, 3, 4, 5, 6] rfl)
          exact lp54 (ms + 1) 0 m_hasMark m_markAcross m_markDeep im H locs ls (by omega) (by omega) hsb hf_ms hf_mk hf_md (hP.sub [0, 1, 2, 3, 4, 5, 6] rfl) (hD.sub [0, 1, 2, 3, 4, 5, 6] (by decide) rfl) hS (lv_sub hl [0, 1, 2, 3, 4, 5] rfl)
        · refine lv_iconst (v := (-1)) hx hb dX12_draw_49 (by decide) ?_
          exact W.iret (v := (-1)) hx hb hr (fun tt9 ht hW => ⟨⟨((-1) : Int32), ((im : Nat → Int32), (m_hasMark : Nat → Int32), (m_markAcross : Nat → Int32), (m_markDeep : Nat → Int32)), rfl, (lf_X12_draw_60 h q im ms mk md m_across m_deep m_isGone m_hasMark m_markAcross m_markDeep (nI tn1) n2 n3 n4 hf_ms hf_mk hf_md hms hmk hm3 hmd hsb c_2 tn1 tn1a rfl c_6 c_9 c_12), ⟨by rw [ht]; exact hP, hD⟩⟩, hS.F ht⟩) hS.2.2 dX12_draw_50 hlocks

theorem lf_X12_marked_3 (h : Nat) (q : Nat → Nat) (im : Nat → Int32) (ms : Nat) (mk : Nat) (md : Nat) (m_hasMark : Nat → Int32) (m_markAcross : Nat → Int32) (m_markDeep : Nat → Int32) (n1 : Int32) (n2 : Int32) (n3 : Int32) (n4 : Int32) (n5 : Int32) (hf_ms : im 2 = nI ms) (hf_mk : im 3 = nI mk) (hf_md : im 50 = nI md) (hms : ms ≤ 24) (hmk : mk ≤ 8) (hm3 : mk = 0 ∨ 3 ≤ ms) (hmd : md ≤ 4) (c_2 : (0 : Int32) ≤ n1 ∧ n1 ≤ nI md - 1) : md < 2 ^ 31 := by
  omega
theorem lf_X12_marked_4 (h : Nat) (q : Nat → Nat) (im : Nat → Int32) (ms : Nat) (mk : Nat) (md : Nat) (m_hasMark : Nat → Int32) (m_markAcross : Nat → Int32) (m_markDeep : Nat → Int32) (n1 : Int32) (n2 : Int32) (n3 : Int32) (n4 : Int32) (n5 : Int32) (hf_ms : im 2 = nI ms) (hf_mk : im 3 = nI mk) (hf_md : im 50 = nI md) (hms : ms ≤ 24) (hmk : mk ≤ 8) (hm3 : mk = 0 ∨ 3 ≤ ms) (hmd : md ≤ 4) (c_2 : (0 : Int32) ≤ n1 ∧ n1 ≤ nI md - 1) (tn1 : Nat) (tn1a : tn1 < md) (tn1e : n1 = nI tn1) : ms ≤ 24 := by
  first | assumption | omega | decide | rfl
theorem lf_X12_marked_5 (h : Nat) (q : Nat → Nat) (im : Nat → Int32) (ms : Nat) (mk : Nat) (md : Nat) (m_hasMark : Nat → Int32) (m_markAcross : Nat → Int32) (m_markDeep : Nat → Int32) (n1 : Int32) (n2 : Int32) (n3 : Int32) (n4 : Int32) (n5 : Int32) (hf_ms : im 2 = nI ms) (hf_mk : im 3 = nI mk) (hf_md : im 50 = nI md) (hms : ms ≤ 24) (hmk : mk ≤ 8) (hm3 : mk = 0 ∨ 3 ≤ ms) (hmd : md ≤ 4) (c_2 : (0 : Int32) ≤ n1 ∧ n1 ≤ nI md - 1) (tn1 : Nat) (tn1a : tn1 < md) (tn1e : n1 = nI tn1) : mk ≤ 8 := by
  first | assumption | omega | decide | rfl
theorem lf_X12_marked_6 (h : Nat) (q : Nat → Nat) (im : Nat → Int32) (ms : Nat) (mk : Nat) (md : Nat) (m_hasMark : Nat → Int32) (m_markAcross : Nat → Int32) (m_markDeep : Nat → Int32) (n1 : Int32) (n2 : Int32) (n3 : Int32) (n4 : Int32) (n5 : Int32) (hf_ms : im 2 = nI ms) (hf_mk : im 3 = nI mk) (hf_md : im 50 = nI md) (hms : ms ≤ 24) (hmk : mk ≤ 8) (hm3 : mk = 0 ∨ 3 ≤ ms) (hmd : md ≤ 4) (c_2 : (0 : Int32) ≤ n1 ∧ n1 ≤ nI md - 1) (tn1 : Nat) (tn1a : tn1 < md) (tn1e : n1 = nI tn1) : mk = 0 ∨ 3 ≤ ms := by
  first | assumption | omega | decide | rfl
theorem lf_X12_marked_11 (h : Nat) (q : Nat → Nat) (im : Nat → Int32) (ms : Nat) (mk : Nat) (md : Nat) (m_hasMark : Nat → Int32) (m_markAcross : Nat → Int32) (m_markDeep : Nat → Int32) (n1 : Int32) (n2 : Int32) (n3 : Int32) (n4 : Int32) (n5 : Int32) (hf_ms : im 2 = nI ms) (hf_mk : im 3 = nI mk) (hf_md : im 50 = nI md) (hms : ms ≤ 24) (hmk : mk ≤ 8) (hm3 : mk = 0 ∨ 3 ≤ ms) (hmd : md ≤ 4) (c_2 : (0 : Int32) ≤ n1 ∧ n1 ≤ nI md - 1) (tn1 : Nat) (tn1a : tn1 < md) (tn1e : n1 = nI tn1) (ff7 : Nat) (ss7 : Nat) (dd7 : Nat) (hff7 : ff7 < ms) (hss7 : ss7 < mk) (hdd7 : dd7 < 2) (c_9 : (0 : Int32) ≤ n5 ∧ n5 ≤ 1) (tn5 : Nat) (tn5a : 0 ≤ tn5) (tn5b : tn5 ≤ 1) (tn5e : n5 = nI tn5) : vp_in (nI ((384 * tn1) + (16 * ff7 + 2 * ss7 + dd7))) 1536 := by
  first | exact vp_in_nI (by omega) (by decide) | (unfold vp_in; decide)
theorem lf_X12_marked_17 (h : Nat) (q : Nat → Nat) (im : Nat → Int32) (ms : Nat) (mk : Nat) (md : Nat) (m_hasMark : Nat → Int32) (m_markAcross : Nat → Int32) (m_markDeep : Nat → Int32) (n1 : Int32) (n2 : Int32) (n3 : Int32) (n4 : Int32) (n5 : Int32) (hf_ms : im 2 = nI ms) (hf_mk : im 3 = nI mk) (hf_md : im 50 = nI md) (hms : ms ≤ 24) (hmk : mk ≤ 8) (hm3 : mk = 0 ∨ 3 ≤ ms) (hmd : md ≤ 4) (c_2 : (0 : Int32) ≤ n1 ∧ n1 ≤ nI md - 1) (tn1 : Nat) (tn1a : tn1 < md) (tn1e : n1 = nI tn1) (ff7 : Nat) (ss7 : Nat) (dd7 : Nat) (hff7 : ff7 < ms) (hss7 : ss7 < mk) (hdd7 : dd7 < 2) (c_9 : (0 : Int32) ≤ n5 ∧ n5 ≤ 1) (tn5 : Nat) (tn5a : 0 ≤ tn5) (tn5b : tn5 ≤ 1) (tn5e : n5 = nI tn5) (x_12 : Int32) (c_13 : ¬ x_12 = 0) (c_15 : ¬ nI tn5 = 0) : tn5 ≠ 0 := by
  exact fun q => c_15 ((nI_eq (a := tn5) (b := 0) (by omega) (by omega)).mpr q)
theorem lf_X12_marked_18 (h : Nat) (q : Nat → Nat) (im : Nat → Int32) (ms : Nat) (mk : Nat) (md : Nat) (m_hasMark : Nat → Int32) (m_markAcross : Nat → Int32) (m_markDeep : Nat → Int32) (n1 : Int32) (n2 : Int32) (n3 : Int32) (n4 : Int32) (n5 : Int32) (hf_ms : im 2 = nI ms) (hf_mk : im 3 = nI mk) (hf_md : im 50 = nI md) (hms : ms ≤ 24) (hmk : mk ≤ 8) (hm3 : mk = 0 ∨ 3 ≤ ms) (hmd : md ≤ 4) (c_2 : (0 : Int32) ≤ n1 ∧ n1 ≤ nI md - 1) (tn1 : Nat) (tn1a : tn1 < md) (tn1e : n1 = nI tn1) (ff7 : Nat) (ss7 : Nat) (dd7 : Nat) (hff7 : ff7 < ms) (hss7 : ss7 < mk) (hdd7 : dd7 < 2) (c_9 : (0 : Int32) ≤ n5 ∧ n5 ≤ 1) (tn5 : Nat) (tn5a : 0 ≤ tn5) (tn5b : tn5 ≤ 1) (tn5e : n5 = nI tn5) (x_12 : Int32) (c_13 : ¬ x_12 = 0) (c_15 : ¬ nI tn5 = 0) (n_16 : tn5 ≠ 0) : vp_in (nI ((384 * tn1) + (16 * ff7 + 2 * ss7 + dd7))) 1536 := by
  first | exact vp_in_nI (by omega) (by decide) | (unfold vp_in; decide)
theorem lf_X12_marked_21 (h : Nat) (q : Nat → Nat) (im : Nat → Int32) (ms : Nat) (mk : Nat) (md : Nat) (m_hasMark : Nat → Int32) (m_markAcross : Nat → Int32) (m_markDeep : Nat → Int32) (n1 : Int32) (n2 : Int32) (n3 : Int32) (n4 : Int32) (n5 : Int32) (hf_ms : im 2 = nI ms) (hf_mk : im 3 = nI mk) (hf_md : im 50 = nI md) (hms : ms ≤ 24) (hmk : mk ≤ 8) (hm3 : mk = 0 ∨ 3 ≤ ms) (hmd : md ≤ 4) (c_2 : (0 : Int32) ≤ n1 ∧ n1 ≤ nI md - 1) (tn1 : Nat) (tn1a : tn1 < md) (tn1e : n1 = nI tn1) (ff7 : Nat) (ss7 : Nat) (dd7 : Nat) (hff7 : ff7 < ms) (hss7 : ss7 < mk) (hdd7 : dd7 < 2) (c_9 : (0 : Int32) ≤ n5 ∧ n5 ≤ 1) (tn5 : Nat) (tn5a : 0 ≤ tn5) (tn5b : tn5 ≤ 1) (tn5e : n5 = nI tn5) (x_12 : Int32) (c_13 : ¬ x_12 = 0) (c_15 : nI tn5 = 0) : tn5 = 0 := by
  exact (nI_eq (a := tn5) (b := 0) (by omega) (by omega)).mp c_15
theorem lf_X12_marked_22 (h : Nat) (q : Nat → Nat) (im : Nat → Int32) (ms : Nat) (mk : Nat) (md : Nat) (m_hasMark : Nat → Int32) (m_markAcross : Nat → Int32) (m_markDeep : Nat → Int32) (n1 : Int32) (n2 : Int32) (n3 : Int32) (n4 : Int32) (n5 : Int32) (hf_ms : im 2 = nI ms) (hf_mk : im 3 = nI mk) (hf_md : im 50 = nI md) (hms : ms ≤ 24) (hmk : mk ≤ 8) (hm3 : mk = 0 ∨ 3 ≤ ms) (hmd : md ≤ 4) (c_2 : (0 : Int32) ≤ n1 ∧ n1 ≤ nI md - 1) (tn1 : Nat) (tn1a : tn1 < md) (tn1e : n1 = nI tn1) (ff7 : Nat) (ss7 : Nat) (dd7 : Nat) (hff7 : ff7 < ms) (hss7 : ss7 < mk) (hdd7 : dd7 < 2) (c_9 : (0 : Int32) ≤ n5 ∧ n5 ≤ 1) (tn5 : Nat) (tn5a : 0 ≤ tn5) (tn5b : tn5 ≤ 1) (tn5e : n5 = nI tn5) (x_12 : Int32) (c_13 : ¬ x_12 = 0) (c_15 : nI tn5 = 0) (n_20 : tn5 = 0) : vp_in (nI ((384 * tn1) + (16 * ff7 + 2 * ss7 + dd7))) 1536 := by
  first | exact vp_in_nI (by omega) (by decide) | (unfold vp_in; decide)
set_option maxHeartbeats 4000000 in
set_option maxRecDepth 100000 in
theorem c_X12_marked (l : Launch) (D : va_G) (cI cB cZ cJ : ClassId) (tx : List (ClassId × FieldType)) (h : Nat) (q : Nat → Nat) (im : Nat → Int32) (ms : Nat) (mk : Nat) (md : Nat) (m_hasMark : Nat → Int32) (m_markAcross : Nat → Int32) (m_markDeep : Nat → Int32) (n1 : Int32) (n2 : Int32) (n3 : Int32) (n4 : Int32) (n5 : Int32) (hf_ms : im 2 = nI ms) (hf_mk : im 3 = nI mk) (hf_md : im 50 = nI md) (hms : ms ≤ 24) (hmk : mk ≤ 8) (hm3 : mk = 0 ∨ 3 ≤ ms) (hmd : md ≤ 4) : RdI l D cI cB cZ cJ tx yX12_marked cX12_marked 7 (some .int) 3 [.ref h, .int n1, .int n2, .int n3, .int n4, .int n5] [(h, .inr (12, mG q im)), (q 51, .inl (cZ, 1536, .inl m_hasMark)), (q 52, .inl (cI, 1536, .inl m_markAcross)), (q 53, .inl (cI, 1536, .inl m_markDeep))] (fun r => True) := by
  refine rdi_of2 (by decide) (Nat.le_of_ble_eq_true rfl) ?_
  intro p e s m below meth c A ls H locs hC hK hP hD hA hS hl
  obtain ⟨hx, hb, hr, hml, hown, hts, hlocks, hin⟩ := hC
  have hown : s.vm.findClass RX12 = some m.cls := hown
  have hl : lv_has ls 7 [(0, .ref h), (1, .int n1), (2, .int n2), (3, .int n3), (4, .int n4), (5, .int n5)] := hl
  refine lv_aload_n hx hb dX12_marked_0 rfl (lv_at hl 0 rfl) ?_
  refine lv_iload_n hx hb dX12_marked_1 rfl (lv_at hl 1 rfl) ?_
  refine eRi (va_runV (As := [.int n1]) (rest := []) ⟨hx, hb, hml, hown, hts⟩ (c_X12_isDrawing l D cI cB cZ cJ tx h q im md n1 hf_md H.size) (zV hts k_1841 v_X12_isDrawing ⟨Nat.le_of_ble_eq_true rfl, Nat.le_of_ble_eq_true rfl⟩) (pV (px1 hK hP 0 rfl) hK hP 0 rfl rfl) rfl rfl hl.1 rfl (lv_room (Nat.le_of_ble_eq_true rfl)) dX12_marked_2 ⟨Nat.le_of_ble_eq_true rfl, Nat.le_of_ble_eq_true rfl⟩) hP hS hA (fun r_1 H locs wr_1 hP hS => ?_)
  subst wr_1
  refine lv_bi_eq (tgt := 51) hx hb dX12_marked_5 (by decide) (fun c_2 => ?_) (fun c_2 => ?_)
  · refine lv_sipush (v := (-10000)) hx hb dX12_marked_51 (by decide) ?_
    exact W.iret (v := (-10000)) hx hb hr (fun tt9 ht hW => ⟨⟨((-10000) : Int32), (), rfl, trivial, trivial⟩, hS.F ht⟩) hS.2.2 dX12_marked_54 hlocks
  · obtain ⟨tn1, tn1a, tn1e⟩ := of_within (lf_X12_marked_3 h q im ms mk md m_hasMark m_markAcross m_markDeep n1 n2 n3 n4 n5 hf_ms hf_mk hf_md hms hmk hm3 hmd c_2) c_2
    subst tn1e
    refine lv_aload_n hx hb dX12_marked_8 rfl (lv_at hl 0 rfl) ?_
    refine lv_iload_n hx hb dX12_marked_9 rfl (lv_at hl 2 rfl) ?_
    refine lv_iload_n hx hb dX12_marked_10 rfl (lv_at hl 3 rfl) ?_
    refine lv_iload hx hb dX12_marked_11 (lv_at hl 4 rfl) ?_
    refine eRi (va_runV (As := [.int n2, .int n3, .int n4]) (rest := []) ⟨hx, hb, hml, hown, hts⟩ (c_X12_isRivet l D cI cB cZ cJ tx h q im ms mk n2 n3 n4 hf_ms hf_mk (lf_X12_marked_4 h q im ms mk md m_hasMark m_markAcross m_markDeep (nI tn1) n2 n3 n4 n5 hf_ms hf_mk hf_md hms hmk hm3 hmd c_2 tn1 tn1a rfl) (lf_X12_marked_5 h q im ms mk md m_hasMark m_markAcross m_markDeep (nI tn1) n2 n3 n4 n5 hf_ms hf_mk hf_md hms hmk hm3 hmd c_2 tn1 tn1a rfl) (lf_X12_marked_6 h q im ms mk md m_hasMark m_markAcross m_markDeep (nI tn1) n2 n3 n4 n5 hf_ms hf_mk hf_md hms hmk hm3 hmd c_2 tn1 tn1a rfl) H.size) (zV hts k_1799 v_X12_isRivet ⟨Nat.le_of_ble_eq_true rfl, Nat.le_of_ble_eq_true rfl⟩) (pV (px1 hK hP 0 rfl) hK hP 0 rfl rfl) rfl rfl hl.1 rfl (lv_room (Nat.le_of_ble_eq_true rfl)) dX12_marked_13 ⟨Nat.le_of_ble_eq_true rfl, Nat.le_of_ble_eq_true rfl⟩) hP hS hA (fun r_7 H locs wr_7 hP hS => ?_)
    rcases wr_7 with rfl | ⟨ff7, ss7, dd7, hff7, hss7, hdd7, rfl, rfl, rfl, rfl⟩
    · refine lv_if_eq (tgt := 51) hx hb dX12_marked_16 (by decide) (fun _ => ?_) (fun c => absurd c (by decide))
      refine lv_sipush (v := (-10000)) hx hb dX12_marked_51 (by decide) ?_
      exact W.iret (v := (-10000)) hx hb hr (fun tt9 ht hW => ⟨⟨((-10000) : Int32), (), rfl, trivial, trivial⟩, hS.F ht⟩) hS.2.2 dX12_marked_54 hlocks
    · refine lv_if_eq (tgt := 51) hx hb dX12_marked_16 (by decide) (fun c => absurd c (by decide)) (fun _ => ?_)
      refine lv_iload hx hb dX12_marked_19 (lv_at hl 5 rfl) ?_
      refine lv_i2l (v := n5.toInt64) hx hb dX12_marked_21 rfl ?_
      refine lv_lconst (v := 0) hx hb dX12_marked_22 (by decide) ?_
      refine lv_lconst (v := 1) hx hb dX12_marked_23 (by decide) ?_
      refine eRi (va_runS (As := [.long n5.toInt64, .long 0, .long 1]) (rest := []) ⟨hx, hb, hml, hown, hts⟩ (c_X12_isIn l D cI cB cZ cJ tx n5.toInt64 0 1 H.size) (zS hts k_1602 v_X12_isIn ⟨Nat.le_of_ble_eq_true rfl, Nat.le_of_ble_eq_true rfl⟩) (px0 hK) rfl rfl hl.1 rfl (lv_room (Nat.le_of_ble_eq_true rfl)) dX12_marked_24 ⟨Nat.le_of_ble_eq_true rfl, Nat.le_of_ble_eq_true rfl⟩) hP hS hA (fun r_8 H locs wr_8 hP hS => ?_)
      have wr_8 : r_8 = bi ((0 : Int32) ≤ n5 ∧ n5 ≤ 1) := isIn32 (lo := 0) (hi := 1) (by decide) (by decide) wr_8
      subst wr_8
      refine lv_bi_eq (tgt := 51) hx hb dX12_marked_27 (by decide) (fun c_9 => ?_) (fun c_9 => ?_)
      · refine lv_sipush (v := (-10000)) hx hb dX12_marked_51 (by decide) ?_
        exact W.iret (v := (-10000)) hx hb hr (fun tt9 ht hW => ⟨⟨((-10000) : Int32), (), rfl, trivial, trivial⟩, hS.F ht⟩) hS.2.2 dX12_marked_54 hlocks
      · obtain ⟨tn5, tn5a, tn5b, tn5e⟩ := of_rng 0 1 rfl rfl c_9
        subst tn5e
        refine lv_aload_n hx hb dX12_marked_30 rfl (lv_at hl 0 rfl) ?_
        refine va_get (D := D) (ci := 12) (v := .ref (q 51)) (C := RX12) (T := TX12) (N := 81) hx hb hts inT_X12 hown hK.1 hP 0 rfl rfl 51 (by decide) (hts _ k_1404) (fun _ h9 => h9) rfl dX12_marked_31 ?_
        refine lv_sipush (v := 384) hx hb dX12_marked_34 (by decide) ?_
        refine lv_iload_n hx hb dX12_marked_37 rfl (lv_at hl 1 rfl) ?_
        refine lv_imul hx hb dX12_marked_38 ?_
        refine lv_topv (y := nI (384 * tn1)) (pk_mul 384 tn1) ?_
        refine lv_iload_n hx hb dX12_marked_39 rfl (lv_at hl 2 rfl) ?_
        refine lv_iload_n hx hb dX12_marked_40 rfl (lv_at hl 3 rfl) ?_
        refine lv_iload hx hb dX12_marked_41 (lv_at hl 4 rfl) ?_
        refine eRi (va_runS (As := [.int (nI ff7), .int (nI ss7), .int (nI dd7)]) (rest := [.int (nI (384 * tn1)), .ref (q 51)]) ⟨hx, hb, hml, hown, hts⟩ (c_X12_cellOf l D cI cB cZ cJ tx ff7 ss7 dd7 H.size) (zS hts k_1735 v_X12_cellOf ⟨Nat.le_of_ble_eq_true rfl, Nat.le_of_ble_eq_true rfl⟩) (px0 hK) rfl rfl hl.1 rfl (lv_room (Nat.le_of_ble_eq_true rfl)) dX12_marked_43 ⟨Nat.le_of_ble_eq_true rfl, Nat.le_of_ble_eq_true rfl⟩) hP hS hA (fun r_10 H locs wr_10 hP hS => ?_)
        subst wr_10
        refine lv_iadd hx hb dX12_marked_46 ?_
        refine lv_topv (y := nI ((384 * tn1) + (16 * ff7 + 2 * ss7 + dd7))) (nI_add (384 * tn1) (16 * ff7 + 2 * ss7 + dd7)) ?_
        refine ld_z hx hb hK hP 1 rfl (lf_X12_marked_11 h q im ms mk md m_hasMark m_markAcross m_markDeep (nI tn1) (nI ff7) (nI ss7) (nI dd7) (nI tn5) hf_ms hf_mk hf_md hms hmk hm3 hmd c_2 tn1 tn1a rfl ff7 ss7 dd7 hff7 hss7 hdd7 c_9 tn5 tn5a tn5b rfl) dX12_marked_47 (fun x_12 => ?_)
        refine lv_if_ne (tgt := 55) hx hb dX12_marked_48 (by decide) (fun c_13 => ?_) (fun c_13 => ?_)
        · refine lv_sipush (v := 384) hx hb dX12_marked_55 (by decide) ?_
          refine lv_iload_n hx hb dX12_marked_58 rfl (lv_at hl 1 rfl) ?_
          refine lv_imul hx hb dX12_marked_59 ?_
          refine lv_topv (y := nI (384 * tn1)) (pk_mul 384 tn1) ?_
          refine lv_iload_n hx hb dX12_marked_60 rfl (lv_at hl 2 rfl) ?_
          refine lv_iload_n hx hb dX12_marked_61 rfl (lv_at hl 3 rfl) ?_
          refine lv_iload hx hb dX12_marked_62 (lv_at hl 4 rfl) ?_
          refine eRi (va_runS (As := [.int (nI ff7), .int (nI ss7), .int (nI dd7)]) (rest := [.int (nI (384 * tn1))]) ⟨hx, hb, hml, hown, hts⟩ (c_X12_cellOf l D cI cB cZ cJ tx ff7 ss7 dd7 H.size) (zS hts k_1735 v_X12_cellOf ⟨Nat.le_of_ble_eq_true rfl, Nat.le_of_ble_eq_true rfl⟩) (px0 hK) rfl rfl hl.1 rfl (lv_room (Nat.le_of_ble_eq_true rfl)) dX12_marked_64 ⟨Nat.le_of_ble_eq_true rfl, Nat.le_of_ble_eq_true rfl⟩) hP hS hA (fun r_14 H locs wr_14 hP hS => ?_)
          subst wr_14
          refine lv_iadd hx hb dX12_marked_67 ?_
          refine lv_topv (y := nI ((384 * tn1) + (16 * ff7 + 2 * ss7 + dd7))) (nI_add (384 * tn1) (16 * ff7 + 2 * ss7 + dd7)) ?_
          refine lv_istore (lv' := [(6, .int (nI ((384 * tn1) + (16 * ff7 + 2 * ss7 + dd7)))), (0, .ref h), (1, .int (nI tn1)), (2, .int (nI ff7)), (3, .int (nI ss7)), (4, .int (nI dd7)), (5, .int (nI tn5))]) hx hb dX12_marked_68 hl (by decide) rfl (fun ls hl => ?_)
          refine lv_iload hx hb dX12_marked_70 (lv_at hl 6 rfl) ?_
          refine lv_if_ne (tgt := 85) hx hb dX12_marked_72 (by decide) (fun c_15 => ?_) (fun c_15 => ?_)
          · have n_16 : tn5 ≠ 0 := (lf_X12_marked_17 h q im ms mk md m_hasMark m_markAcross m_markDeep (nI tn1) (nI ff7) (nI ss7) (nI dd7) (nI tn5) hf_ms hf_mk hf_md hms hmk hm3 hmd c_2 tn1 tn1a rfl ff7 ss7 dd7 hff7 hss7 hdd7 c_9 tn5 tn5a tn5b rfl x_12 c_13 c_15)
            refine lv_aload_n hx hb dX12_marked_85 rfl (lv_at hl 1 rfl) ?_
            refine va_get (D := D) (ci := 12) (v := .ref (q 53)) (C := RX12) (T := TX12) (N := 81) hx hb hts inT_X12 hown hK.1 hP 0 rfl rfl 53 (by decide) (hts _ k_1406) (fun _ h9 => h9) rfl dX12_marked_86 ?_
            refine lv_iload hx hb dX12_marked_89 (lv_at hl 0 rfl) ?_
            refine ld_i hx hb hK hP 3 rfl (lf_X12_marked_18 h q im ms mk md m_hasMark m_markAcross m_markDeep (nI tn1) (nI ff7) (nI ss7) (nI dd7) (nI tn5) hf_ms hf_mk hf_md hms hmk hm3 hmd c_2 tn1 tn1a rfl ff7 ss7 dd7 hff7 hss7 hdd7 c_9 tn5 tn5a tn5b rfl x_12 c_13 c_15 n_16) dX12_marked_91 (fun x_19 => ?_)
            exact W.iret (v := x_19) hx hb hr (fun tt9 ht hW => ⟨⟨(x_19 : Int32), (), rfl, trivial, trivial⟩, hS.F ht⟩) hS.2.2 dX12_marked_92 hlocks
          · have n_20 : tn5 = 0 := (lf_X12_marked_21 h q im ms mk md m_hasMark m_markAcross m_markDeep (nI tn1) (nI ff7) (nI ss7) (nI dd7) (nI tn5) hf_ms hf_mk hf_md hms hmk hm3 hmd c_2 tn1 tn1a rfl ff7 ss7 dd7 hff7 hss7 hdd7 c_9 tn5 tn5a tn5b rfl x_12 c_13 c_15)
            refine lv_aload_n hx hb dX12_marked_75 rfl (lv_at hl 1 rfl) ?_
            refine va_get (D := D) (ci := 12) (v := .ref (q 52)) (C := RX12) (T := TX12) (N := 81) hx hb hts inT_X12 hown hK.1 hP 0 rfl rfl 52 (by decide) (hts _ k_1405) (fun _ h9 => h9) rfl dX12_marked_76 ?_
            refine lv_iload hx hb dX12_marked_79 (lv_at hl 0 rfl) ?_
            refine ld_i hx hb hK hP 2 rfl (lf_X12_marked_22 h q im ms mk md m_hasMark m_markAcross m_markDeep (nI tn1) (nI ff7) (nI ss7) (nI dd7) (nI tn5) hf_ms hf_mk hf_md hms hmk hm3 hmd c_2 tn1 tn1a rfl ff7 ss7 dd7 hff7 hss7 hdd7 c_9 tn5 tn5a tn5b rfl x_12 c_13 c_15 n_20) dX12_marked_81 (fun x_23 => ?_)
            refine lv_goto (tgt := 92) hx hb dX12_marked_82 (by decide) ?_
            exact W.iret (v := x_23) hx hb hr (fun tt9 ht hW => ⟨⟨(x_23 : Int32), (), rfl, trivial, trivial⟩, hS.F ht⟩) hS.2.2 dX12_marked_92 hlocks
        · refine lv_sipush (v := (-10000)) hx hb dX12_marked_51 (by decide) ?_
          exact W.iret (v := (-10000)) hx hb hr (fun tt9 ht hW => ⟨⟨((-10000) : Int32), (), rfl, trivial, trivial⟩, hS.F ht⟩) hS.2.2 dX12_marked_54 hlocks

theorem lf_X12_hasBoth_1 (h : Nat) (q : Nat → Nat) (im : Nat → Int32) (m_hasMark : Nat → Int32) (a1 : Nat) (b1 : Nat) (x1 : Nat) (ha1 : a1 < 4) (hb1 : b1 < 4) (hx1 : x1 < 384) : vp_in (nI ((384 * a1) + x1)) 1536 := by
  first | exact vp_in_nI (by omega) (by decide) | (unfold vp_in; decide)
theorem lf_X12_hasBoth_4 (h : Nat) (q : Nat → Nat) (im : Nat → Int32) (m_hasMark : Nat → Int32) (a1 : Nat) (b1 : Nat) (x1 : Nat) (ha1 : a1 < 4) (hb1 : b1 < 4) (hx1 : x1 < 384) (x_2 : Int32) (c_3 : ¬ x_2 = 0) : vp_in (nI ((384 * b1) + x1)) 1536 := by
  first | exact vp_in_nI (by omega) (by decide) | (unfold vp_in; decide)
set_option maxHeartbeats 4000000 in
set_option maxRecDepth 100000 in
theorem c_X12_hasBoth (l : Launch) (D : va_G) (cI cB cZ cJ : ClassId) (tx : List (ClassId × FieldType)) (h : Nat) (q : Nat → Nat) (im : Nat → Int32) (m_hasMark : Nat → Int32) (a1 : Nat) (b1 : Nat) (x1 : Nat) (ha1 : a1 < 4) (hb1 : b1 < 4) (hx1 : x1 < 384) : RdI l D cI cB cZ cJ tx yX12_hasBoth cX12_hasBoth 4 (some .boolean) 0 [.ref h, .int (nI a1), .int (nI b1), .int (nI x1)] [(h, .inr (12, mG q im)), (q 51, .inl (cZ, 1536, .inl m_hasMark))] (fun r => True) := by
  refine rdi_of2 (by decide) (Nat.le_of_ble_eq_true rfl) ?_
  intro p e s m below meth c A ls H locs hC hK hP hD hA hS hl
  obtain ⟨hx, hb, hr, hml, hown, hts, hlocks, hin⟩ := hC
  have hown : s.vm.findClass RX12 = some m.cls := hown
  have hl : lv_has ls 4 [(0, .ref h), (1, .int (nI a1)), (2, .int (nI b1)), (3, .int (nI x1))] := hl
  refine lv_aload_n hx hb dX12_hasBoth_0 rfl (lv_at hl 0 rfl) ?_
  refine va_get (D := D) (ci := 12) (v := .ref (q 51)) (C := RX12) (T := TX12) (N := 81) hx hb hts inT_X12 hown hK.1 hP 0 rfl rfl 51 (by decide) (hts _ k_1404) (fun _ h9 => h9) rfl dX12_hasBoth_1 ?_
  refine lv_sipush (v := 384) hx hb dX12_hasBoth_4 (by decide) ?_
  refine lv_iload_n hx hb dX12_hasBoth_7 rfl (lv_at hl 1 rfl) ?_
  refine lv_imul hx hb dX12_hasBoth_8 ?_
  refine lv_topv (y := nI (384 * a1)) (pk_mul 384 a1) ?_
  refine lv_iload_n hx hb dX12_hasBoth_9 rfl (lv_at hl 3 rfl) ?_
  refine lv_iadd hx hb dX12_hasBoth_10 ?_
  refine lv_topv (y := nI ((384 * a1) + x1)) (nI_add (384 * a1) x1) ?_
  refine ld_z hx hb hK hP 1 rfl (lf_X12_hasBoth_1 h q im m_hasMark a1 b1 x1 ha1 hb1 hx1) dX12_hasBoth_11 (fun x_2 => ?_)
  refine lv_if_eq (tgt := 34) hx hb dX12_hasBoth_12 (by decide) (fun c_3 => ?_) (fun c_3 => ?_)
  · refine lv_iconst (v := 0) hx hb dX12_hasBoth_34 (by decide) ?_
    exact W.zret (v := 0) hx hb hr (by decide) (fun tt9 ht hW => ⟨⟨(0 : Int32), (), rfl, trivial, trivial⟩, hS.F ht⟩) hS.2.2 dX12_hasBoth_35 hlocks
  · refine lv_aload_n hx hb dX12_hasBoth_15 rfl (lv_at hl 0 rfl) ?_
    refine va_get (D := D) (ci := 12) (v := .ref (q 51)) (C := RX12) (T := TX12) (N := 81) hx hb hts inT_X12 hown hK.1 hP 0 rfl rfl 51 (by decide) (hts _ k_1404) (fun _ h9 => h9) rfl dX12_hasBoth_16 ?_
    refine lv_sipush (v := 384) hx hb dX12_hasBoth_19 (by decide) ?_
    refine lv_iload_n hx hb dX12_hasBoth_22 rfl (lv_at hl 2 rfl) ?_
    refine lv_imul hx hb dX12_hasBoth_23 ?_
    refine lv_topv (y := nI (384 * b1)) (pk_mul 384 b1) ?_
    refine lv_iload_n hx hb dX12_hasBoth_24 rfl (lv_at hl 3 rfl) ?_
    refine lv_iadd hx hb dX12_hasBoth_25 ?_
    refine lv_topv (y := nI ((384 * b1) + x1)) (nI_add (384 * b1) x1) ?_
    refine ld_z hx hb hK hP 1 rfl (lf_X12_hasBoth_4 h q im m_hasMark a1 b1 x1 ha1 hb1 hx1 x_2 c_3) dX12_hasBoth_26 (fun x_5 => ?_)
    refine lv_if_eq (tgt := 34) hx hb dX12_hasBoth_27 (by decide) (fun c_6 => ?_) (fun c_6 => ?_)
    · refine lv_iconst (v := 0) hx hb dX12_hasBoth_34 (by decide) ?_
      exact W.zret (v := 0) hx hb hr (by decide) (fun tt9 ht hW => ⟨⟨(0 : Int32), (), rfl, trivial, trivial⟩, hS.F ht⟩) hS.2.2 dX12_hasBoth_35 hlocks
    · refine lv_iconst (v := 1) hx hb dX12_hasBoth_30 (by decide) ?_
      refine lv_goto (tgt := 35) hx hb dX12_hasBoth_31 (by decide) ?_
      exact W.zret (v := 1) hx hb hr (by decide) (fun tt9 ht hW => ⟨⟨(1 : Int32), (), rfl, trivial, trivial⟩, hS.F ht⟩) hS.2.2 dX12_hasBoth_35 hlocks

theorem lf_X12_gapOf_2 (h : Nat) (q : Nat → Nat) (im : Nat → Int32) (m_markAcross : Nat → Int32) (m_markDeep : Nat → Int32) (a1 : Nat) (b1 : Nat) (x1 : Nat) (n4 : Int32) (ha1 : a1 < 4) (hb1 : b1 < 4) (hx1 : x1 < 384) (c_1 : n4 = 0) : vp_in (nI ((384 * b1) + x1)) 1536 := by
  first | exact vp_in_nI (by omega) (by decide) | (unfold vp_in; decide)
theorem lf_X12_gapOf_4 (h : Nat) (q : Nat → Nat) (im : Nat → Int32) (m_markAcross : Nat → Int32) (m_markDeep : Nat → Int32) (a1 : Nat) (b1 : Nat) (x1 : Nat) (n4 : Int32) (ha1 : a1 < 4) (hb1 : b1 < 4) (hx1 : x1 < 384) (c_1 : n4 = 0) (x_3 : Int32) : vp_in (nI ((384 * a1) + x1)) 1536 := by
  first | exact vp_in_nI (by omega) (by decide) | (unfold vp_in; decide)
theorem lf_X12_gapOf_7 (h : Nat) (q : Nat → Nat) (im : Nat → Int32) (m_markAcross : Nat → Int32) (m_markDeep : Nat → Int32) (a1 : Nat) (b1 : Nat) (x1 : Nat) (n4 : Int32) (ha1 : a1 < 4) (hb1 : b1 < 4) (hx1 : x1 < 384) (c_1 : ¬ n4 = 0) : vp_in (nI ((384 * b1) + x1)) 1536 := by
  first | exact vp_in_nI (by omega) (by decide) | (unfold vp_in; decide)
theorem lf_X12_gapOf_9 (h : Nat) (q : Nat → Nat) (im : Nat → Int32) (m_markAcross : Nat → Int32) (m_markDeep : Nat → Int32) (a1 : Nat) (b1 : Nat) (x1 : Nat) (n4 : Int32) (ha1 : a1 < 4) (hb1 : b1 < 4) (hx1 : x1 < 384) (c_1 : ¬ n4 = 0) (x_8 : Int32) : vp_in (nI ((384 * a1) + x1)) 1536 := by
  first | exact vp_in_nI (by omega) (by decide) | (unfold vp_in; decide)
set_option maxHeartbeats 4000000 in
set_option maxRecDepth 100000 in
theorem c_X12_gapOf (l : Launch) (D : va_G) (cI cB cZ cJ : ClassId) (tx : List (ClassId × FieldType)) (h : Nat) (q : Nat → Nat) (im : Nat → Int32) (m_markAcross : Nat → Int32) (m_markDeep : Nat → Int32) (a1 : Nat) (b1 : Nat) (x1 : Nat) (n4 : Int32) (ha1 : a1 < 4) (hb1 : b1 < 4) (hx1 : x1 < 384) : RdI l D cI cB cZ cJ tx yX12_gapOf cX12_gapOf 5 (some .int) 0 [.ref h, .int (nI a1), .int (nI b1), .int (nI x1), .int n4] [(h, .inr (12, mG q im)), (q 52, .inl (cI, 1536, .inl m_markAcross)), (q 53, .inl (cI, 1536, .inl m_markDeep))] (fun r => True) := by
  refine rdi_of2 (by decide) (Nat.le_of_ble_eq_true rfl) ?_
  intro p e s m below meth c A ls H locs hC hK hP hD hA hS hl
  obtain ⟨hx, hb, hr, hml, hown, hts, hlocks, hin⟩ := hC
  have hown : s.vm.findClass RX12 = some m.cls := hown
  have hl : lv_has ls 5 [(0, .ref h), (1, .int (nI a1)), (2, .int (nI b1)), (3, .int (nI x1)), (4, .int n4)] := hl
  refine lv_iload hx hb dX12_gapOf_0 (lv_at hl 4 rfl) ?_
  refine lv_if_eq (tgt := 33) hx hb dX12_gapOf_2 (by decide) (fun c_1 => ?_) (fun c_1 => ?_)
  · refine lv_aload_n hx hb dX12_gapOf_33 rfl (lv_at hl 0 rfl) ?_
    refine va_get (D := D) (ci := 12) (v := .ref (q 53)) (C := RX12) (T := TX12) (N := 81) hx hb hts inT_X12 hown hK.1 hP 0 rfl rfl 53 (by decide) (hts _ k_1406) (fun _ h9 => h9) rfl dX12_gapOf_34 ?_
    refine lv_sipush (v := 384) hx hb dX12_gapOf_37 (by decide) ?_
    refine lv_iload_n hx hb dX12_gapOf_40 rfl (lv_at hl 2 rfl) ?_
    refine lv_imul hx hb dX12_gapOf_41 ?_
    refine lv_topv (y := nI (384 * b1)) (pk_mul 384 b1) ?_
    refine lv_iload_n hx hb dX12_gapOf_42 rfl (lv_at hl 3 rfl) ?_
    refine lv_iadd hx hb dX12_gapOf_43 ?_
    refine lv_topv (y := nI ((384 * b1) + x1)) (nI_add (384 * b1) x1) ?_
    refine ld_i hx hb hK hP 2 rfl (lf_X12_gapOf_2 h q im m_markAcross m_markDeep a1 b1 x1 n4 ha1 hb1 hx1 c_1) dX12_gapOf_44 (fun x_3 => ?_)
    refine lv_aload_n hx hb dX12_gapOf_45 rfl (lv_at hl 0 rfl) ?_
    refine va_get (D := D) (ci := 12) (v := .ref (q 53)) (C := RX12) (T := TX12) (N := 81) hx hb hts inT_X12 hown hK.1 hP 0 rfl rfl 53 (by decide) (hts _ k_1406) (fun _ h9 => h9) rfl dX12_gapOf_46 ?_
    refine lv_sipush (v := 384) hx hb dX12_gapOf_49 (by decide) ?_
    refine lv_iload_n hx hb dX12_gapOf_52 rfl (lv_at hl 1 rfl) ?_
    refine lv_imul hx hb dX12_gapOf_53 ?_
    refine lv_topv (y := nI (384 * a1)) (pk_mul 384 a1) ?_
    refine lv_iload_n hx hb dX12_gapOf_54 rfl (lv_at hl 3 rfl) ?_
    refine lv_iadd hx hb dX12_gapOf_55 ?_
    refine lv_topv (y := nI ((384 * a1) + x1)) (nI_add (384 * a1) x1) ?_
    refine ld_i hx hb hK hP 2 rfl (lf_X12_gapOf_4 h q im m_markAcross m_markDeep a1 b1 x1 n4 ha1 hb1 hx1 c_1 x_3) dX12_gapOf_56 (fun x_5 => ?_)
    refine lv_isub hx hb dX12_gapOf_57 ?_
    refine lv_topi (fun x_6 ex_6 => ?_)
    exact W.iret (v := x_6) hx hb hr (fun tt9 ht hW => ⟨⟨(x_6 : Int32), (), rfl, trivial, trivial⟩, hS.F ht⟩) hS.2.2 dX12_gapOf_58 hlocks
  · refine lv_aload_n hx hb dX12_gapOf_5 rfl (lv_at hl 0 rfl) ?_
    refine va_get (D := D) (ci := 12) (v := .ref (q 52)) (C := RX12) (T := TX12) (N := 81) hx hb hts inT_X12 hown hK.1 hP 0 rfl rfl 52 (by decide) (hts _ k_1405) (fun _ h9 => h9) rfl dX12_gapOf_6 ?_
    refine lv_sipush (v := 384) hx hb dX12_gapOf_9 (by decide) ?_
    refine lv_iload_n hx hb dX12_gapOf_12 rfl (lv_at hl 2 rfl) ?_
    refine lv_imul hx hb dX12_gapOf_13 ?_
    refine lv_topv (y := nI (384 * b1)) (pk_mul 384 b1) ?_
    refine lv_iload_n hx hb dX12_gapOf_14 rfl (lv_at hl 3 rfl) ?_
    refine lv_iadd hx hb dX12_gapOf_15 ?_
    refine lv_topv (y := nI ((384 * b1) + x1)) (nI_add (384 * b1) x1) ?_
    refine ld_i hx hb hK hP 1 rfl (lf_X12_gapOf_7 h q im m_markAcross m_markDeep a1 b1 x1 n4 ha1 hb1 hx1 c_1) dX12_gapOf_16 (fun x_8 => ?_)
    refine lv_aload_n hx hb dX12_gapOf_17 rfl (lv_at hl 0 rfl) ?_
    refine va_get (D := D) (ci := 12) (v := .ref (q 52)) (C := RX12) (T := TX12) (N := 81) hx hb hts inT_X12 hown hK.1 hP 0 rfl rfl 52 (by decide) (hts _ k_1405) (fun _ h9 => h9) rfl dX12_gapOf_18 ?_
    refine lv_sipush (v := 384) hx hb dX12_gapOf_21 (by decide) ?_
    refine lv_iload_n hx hb dX12_gapOf_24 rfl (lv_at hl 1 rfl) ?_
    refine lv_imul hx hb dX12_gapOf_25 ?_
    refine lv_topv (y := nI (384 * a1)) (pk_mul 384 a1) ?_
    refine lv_iload_n hx hb dX12_gapOf_26 rfl (lv_at hl 3 rfl) ?_
    refine lv_iadd hx hb dX12_gapOf_27 ?_
    refine lv_topv (y := nI ((384 * a1) + x1)) (nI_add (384 * a1) x1) ?_
    refine ld_i hx hb hK hP 1 rfl (lf_X12_gapOf_9 h q im m_markAcross m_markDeep a1 b1 x1 n4 ha1 hb1 hx1 c_1 x_8) dX12_gapOf_28 (fun x_10 => ?_)
    refine lv_isub hx hb dX12_gapOf_29 ?_
    refine lv_topi (fun x_11 ex_11 => ?_)
    refine lv_goto (tgt := 58) hx hb dX12_gapOf_30 (by decide) ?_
    exact W.iret (v := x_11) hx hb hr (fun tt9 ht hW => ⟨⟨(x_11 : Int32), (), rfl, trivial, trivial⟩, hS.F ht⟩) hS.2.2 dX12_gapOf_58 hlocks

theorem lf_X12_middle_3 (h : Nat) (q : Nat → Nat) (im : Nat → Int32) (m_hasMark : Nat → Int32) (m_markAcross : Nat → Int32) (m_markDeep : Nat → Int32) (m_gaps : Nat → Int32) (a1 : Nat) (b1 : Nat) (n3 : Int32) (ha1 : a1 < 4) (hb1 : b1 < 4) (hsb : SB [54] im im) (j1 : Nat) (gn : Nat) (m_gaps_j1 : Nat → Int32) (k6 : Nat) (hj6 : j1 ≤ 384) (hk6 : 384 < j1 + (k6 + 1)) (hgn : gn ≤ j1) (c_1 : 384 ≤ nI j1) : 384 ≤ j1 := by
  exact (nI_leI (a := 384) (b := j1) (by omega) (by omega)).mp c_1
theorem lf_X12_middle_7 (h : Nat) (q : Nat → Nat) (im : Nat → Int32) (m_hasMark : Nat → Int32) (m_markAcross : Nat → Int32) (m_markDeep : Nat → Int32) (m_gaps : Nat → Int32) (a1 : Nat) (b1 : Nat) (n3 : Int32) (ha1 : a1 < 4) (hb1 : b1 < 4) (j1 : Nat) (gn : Nat) (m_gaps_j1 : Nat → Int32) (k6 : Nat) (hj6 : j1 ≤ 384) (hk6 : 384 < j1 + (k6 + 1)) (hgn : gn ≤ j1) (c_1 : 384 ≤ nI j1) (n_2 : 384 ≤ j1) (i_4 : Nat → Int32) (hsb : SB [54] im i_4) (c_5 : ¬ nI gn = 0) : gn ≠ 0 := by
  exact fun q => c_5 ((nI_eq (a := gn) (b := 0) (by omega) (by omega)).mpr q)
theorem lf_X12_middle_8 (h : Nat) (q : Nat → Nat) (im : Nat → Int32) (m_hasMark : Nat → Int32) (m_markAcross : Nat → Int32) (m_markDeep : Nat → Int32) (m_gaps : Nat → Int32) (a1 : Nat) (b1 : Nat) (n3 : Int32) (ha1 : a1 < 4) (hb1 : b1 < 4) (j1 : Nat) (gn : Nat) (m_gaps_j1 : Nat → Int32) (k6 : Nat) (hj6 : j1 ≤ 384) (hk6 : 384 < j1 + (k6 + 1)) (hgn : gn ≤ j1) (c_1 : 384 ≤ nI j1) (n_2 : 384 ≤ j1) (i_4 : Nat → Int32) (hsb : SB [54] im i_4) (c_5 : ¬ nI gn = 0) (n_6 : gn ≠ 0) : 1 ≤ gn := by
  omega
theorem lf_X12_middle_10 (h : Nat) (q : Nat → Nat) (im : Nat → Int32) (m_hasMark : Nat → Int32) (m_markAcross : Nat → Int32) (m_markDeep : Nat → Int32) (m_gaps : Nat → Int32) (a1 : Nat) (b1 : Nat) (n3 : Int32) (ha1 : a1 < 4) (hb1 : b1 < 4) (j1 : Nat) (gn : Nat) (m_gaps_j1 : Nat → Int32) (k6 : Nat) (hj6 : j1 ≤ 384) (hk6 : 384 < j1 + (k6 + 1)) (hgn : gn ≤ j1) (c_1 : 384 ≤ nI j1) (n_2 : 384 ≤ j1) (i_4 : Nat → Int32) (hsb : SB [54] im i_4) (c_5 : ¬ nI gn = 0) (n_6 : gn ≠ 0) : (gn - 1) < 2 ^ 31 := by
  omega
theorem lf_X12_middle_11 (h : Nat) (q : Nat → Nat) (im : Nat → Int32) (m_hasMark : Nat → Int32) (m_markAcross : Nat → Int32) (m_markDeep : Nat → Int32) (m_gaps : Nat → Int32) (a1 : Nat) (b1 : Nat) (n3 : Int32) (ha1 : a1 < 4) (hb1 : b1 < 4) (j1 : Nat) (gn : Nat) (m_gaps_j1 : Nat → Int32) (k6 : Nat) (hj6 : j1 ≤ 384) (hk6 : 384 < j1 + (k6 + 1)) (hgn : gn ≤ j1) (c_1 : 384 ≤ nI j1) (n_2 : 384 ≤ j1) (i_4 : Nat → Int32) (hsb : SB [54] im i_4) (c_5 : ¬ nI gn = 0) (n_6 : gn ≠ 0) : vp_in (nI ((gn - 1) / 2)) 384 := by
  first | exact vp_in_nI (by omega) (by decide) | (unfold vp_in; decide)
theorem lf_X12_middle_13 (h : Nat) (q : Nat → Nat) (im : Nat → Int32) (m_hasMark : Nat → Int32) (m_markAcross : Nat → Int32) (m_markDeep : Nat → Int32) (m_gaps : Nat → Int32) (a1 : Nat) (b1 : Nat) (n3 : Int32) (ha1 : a1 < 4) (hb1 : b1 < 4) (j1 : Nat) (gn : Nat) (m_gaps_j1 : Nat → Int32) (k6 : Nat) (hj6 : j1 ≤ 384) (hk6 : 384 < j1 + (k6 + 1)) (hgn : gn ≤ j1) (c_1 : 384 ≤ nI j1) (n_2 : 384 ≤ j1) (i_4 : Nat → Int32) (hsb : SB [54] im i_4) (c_5 : ¬ nI gn = 0) (n_6 : gn ≠ 0) (x_12 : Int32) (hi_4_54 : i_4 54 = nI gn) : (SB [54] im (i_4 : Nat → Int32)) ∧ ((i_4 : Nat → Int32) 54 = nI (gn : Nat)) ∧ ((gn : Nat) ≤ 384) := by
  repeat' apply And.intro
  all_goals first | assumption | omega | rfl | trivial
theorem lf_X12_middle_15 (h : Nat) (q : Nat → Nat) (im : Nat → Int32) (m_hasMark : Nat → Int32) (m_markAcross : Nat → Int32) (m_markDeep : Nat → Int32) (m_gaps : Nat → Int32) (a1 : Nat) (b1 : Nat) (n3 : Int32) (ha1 : a1 < 4) (hb1 : b1 < 4) (j1 : Nat) (gn : Nat) (m_gaps_j1 : Nat → Int32) (k6 : Nat) (hj6 : j1 ≤ 384) (hk6 : 384 < j1 + (k6 + 1)) (hgn : gn ≤ j1) (c_1 : 384 ≤ nI j1) (n_2 : 384 ≤ j1) (i_4 : Nat → Int32) (hsb : SB [54] im i_4) (c_5 : nI gn = 0) : gn = 0 := by
  exact (nI_eq (a := gn) (b := 0) (by omega) (by omega)).mp c_5
theorem lf_X12_middle_16 (h : Nat) (q : Nat → Nat) (im : Nat → Int32) (m_hasMark : Nat → Int32) (m_markAcross : Nat → Int32) (m_markDeep : Nat → Int32) (m_gaps : Nat → Int32) (a1 : Nat) (b1 : Nat) (n3 : Int32) (ha1 : a1 < 4) (hb1 : b1 < 4) (j1 : Nat) (gn : Nat) (m_gaps_j1 : Nat → Int32) (k6 : Nat) (hj6 : j1 ≤ 384) (hk6 : 384 < j1 + (k6 + 1)) (hgn : gn ≤ j1) (c_1 : 384 ≤ nI j1) (n_2 : 384 ≤ j1) (i_4 : Nat → Int32) (hsb : SB [54] im i_4) (c_5 : nI gn = 0) (n_14 : gn = 0) (hi_4_54 : i_4 54 = nI gn) : (SB [54] im (i_4 : Nat → Int32)) ∧ ((i_4 : Nat → Int32) 54 = nI (gn : Nat)) ∧ ((gn : Nat) ≤ 384) := by
  repeat' apply And.intro
  all_goals first | assumption | omega | rfl | trivial
theorem lf_X12_middle_18 (h : Nat) (q : Nat → Nat) (im : Nat → Int32) (m_hasMark : Nat → Int32) (m_markAcross : Nat → Int32) (m_markDeep : Nat → Int32) (m_gaps : Nat → Int32) (a1 : Nat) (b1 : Nat) (n3 : Int32) (ha1 : a1 < 4) (hb1 : b1 < 4) (hsb : SB [54] im im) (j1 : Nat) (gn : Nat) (m_gaps_j1 : Nat → Int32) (k6 : Nat) (hj6 : j1 ≤ 384) (hk6 : 384 < j1 + (k6 + 1)) (hgn : gn ≤ j1) (c_1 : ¬ 384 ≤ nI j1) : j1 < 384 := by
  exact Nat.lt_of_not_le (fun q => c_1 ((nI_leI (a := 384) (b := j1) (by omega) (by omega)).mpr q))
theorem lf_X12_middle_19 (h : Nat) (q : Nat → Nat) (im : Nat → Int32) (m_hasMark : Nat → Int32) (m_markAcross : Nat → Int32) (m_markDeep : Nat → Int32) (m_gaps : Nat → Int32) (a1 : Nat) (b1 : Nat) (n3 : Int32) (ha1 : a1 < 4) (hb1 : b1 < 4) (hsb : SB [54] im im) (j1 : Nat) (gn : Nat) (m_gaps_j1 : Nat → Int32) (k6 : Nat) (hj6 : j1 ≤ 384) (hk6 : 384 < j1 + (k6 + 1)) (hgn : gn ≤ j1) (c_1 : ¬ 384 ≤ nI j1) (n_17 : j1 < 384) : a1 < 4 := by
  first | assumption | omega | decide | rfl
theorem lf_X12_middle_20 (h : Nat) (q : Nat → Nat) (im : Nat → Int32) (m_hasMark : Nat → Int32) (m_markAcross : Nat → Int32) (m_markDeep : Nat → Int32) (m_gaps : Nat → Int32) (a1 : Nat) (b1 : Nat) (n3 : Int32) (ha1 : a1 < 4) (hb1 : b1 < 4) (hsb : SB [54] im im) (j1 : Nat) (gn : Nat) (m_gaps_j1 : Nat → Int32) (k6 : Nat) (hj6 : j1 ≤ 384) (hk6 : 384 < j1 + (k6 + 1)) (hgn : gn ≤ j1) (c_1 : ¬ 384 ≤ nI j1) (n_17 : j1 < 384) : b1 < 4 := by
  first | assumption | omega | decide | rfl
theorem lf_X12_middle_21 (h : Nat) (q : Nat → Nat) (im : Nat → Int32) (m_hasMark : Nat → Int32) (m_markAcross : Nat → Int32) (m_markDeep : Nat → Int32) (m_gaps : Nat → Int32) (a1 : Nat) (b1 : Nat) (n3 : Int32) (ha1 : a1 < 4) (hb1 : b1 < 4) (hsb : SB [54] im im) (j1 : Nat) (gn : Nat) (m_gaps_j1 : Nat → Int32) (k6 : Nat) (hj6 : j1 ≤ 384) (hk6 : 384 < j1 + (k6 + 1)) (hgn : gn ≤ j1) (c_1 : ¬ 384 ≤ nI j1) (n_17 : j1 < 384) : j1 < 384 := by
  first | assumption | omega | decide | rfl
theorem lf_X12_middle_24 (h : Nat) (q : Nat → Nat) (im : Nat → Int32) (m_hasMark : Nat → Int32) (m_markAcross : Nat → Int32) (m_markDeep : Nat → Int32) (m_gaps : Nat → Int32) (a1 : Nat) (b1 : Nat) (n3 : Int32) (ha1 : a1 < 4) (hb1 : b1 < 4) (hsb : SB [54] im im) (j1 : Nat) (gn : Nat) (m_gaps_j1 : Nat → Int32) (k6 : Nat) (hj6 : j1 ≤ 384) (hk6 : 384 < j1 + (k6 + 1)) (hgn : gn ≤ j1) (c_1 : ¬ 384 ≤ nI j1) (n_17 : j1 < 384) (r_22 : Int32) (c_23 : ¬ r_22 = 0) : a1 < 4 := by
  first | assumption | omega | decide | rfl
theorem lf_X12_middle_25 (h : Nat) (q : Nat → Nat) (im : Nat → Int32) (m_hasMark : Nat → Int32) (m_markAcross : Nat → Int32) (m_markDeep : Nat → Int32) (m_gaps : Nat → Int32) (a1 : Nat) (b1 : Nat) (n3 : Int32) (ha1 : a1 < 4) (hb1 : b1 < 4) (hsb : SB [54] im im) (j1 : Nat) (gn : Nat) (m_gaps_j1 : Nat → Int32) (k6 : Nat) (hj6 : j1 ≤ 384) (hk6 : 384 < j1 + (k6 + 1)) (hgn : gn ≤ j1) (c_1 : ¬ 384 ≤ nI j1) (n_17 : j1 < 384) (r_22 : Int32) (c_23 : ¬ r_22 = 0) : b1 < 4 := by
  first | assumption | omega | decide | rfl
theorem lf_X12_middle_26 (h : Nat) (q : Nat → Nat) (im : Nat → Int32) (m_hasMark : Nat → Int32) (m_markAcross : Nat → Int32) (m_markDeep : Nat → Int32) (m_gaps : Nat → Int32) (a1 : Nat) (b1 : Nat) (n3 : Int32) (ha1 : a1 < 4) (hb1 : b1 < 4) (hsb : SB [54] im im) (j1 : Nat) (gn : Nat) (m_gaps_j1 : Nat → Int32) (k6 : Nat) (hj6 : j1 ≤ 384) (hk6 : 384 < j1 + (k6 + 1)) (hgn : gn ≤ j1) (c_1 : ¬ 384 ≤ nI j1) (n_17 : j1 < 384) (r_22 : Int32) (c_23 : ¬ r_22 = 0) : j1 < 384 := by
  first | assumption | omega | decide | rfl
theorem lf_X12_middle_30 (h : Nat) (q : Nat → Nat) (im : Nat → Int32) (m_hasMark : Nat → Int32) (m_markAcross : Nat → Int32) (m_markDeep : Nat → Int32) (m_gaps : Nat → Int32) (a1 : Nat) (b1 : Nat) (n3 : Int32) (ha1 : a1 < 4) (hb1 : b1 < 4) (hsb : SB [54] im im) (j1 : Nat) (gn : Nat) (m_gaps_j1 : Nat → Int32) (k6 : Nat) (hj6 : j1 ≤ 384) (hk6 : 384 < j1 + (k6 + 1)) (hgn : gn ≤ j1) (c_1 : ¬ 384 ≤ nI j1) (n_17 : j1 < 384) (r_22 : Int32) (c_23 : ¬ r_22 = 0) (r_27 : Int32) (ik : Nat) (m_gaps_w : Nat → Int32) (k43 : Nat) (hk43 : ik < k43 + 1) (hik : ik ≤ gn) (c_28 : nI ik ≤ 0) : ik ≤ 0 := by
  exact (nI_leI (a := ik) (b := 0) (by omega) (by omega)).mp c_28
theorem lf_X12_middle_32 (h : Nat) (q : Nat → Nat) (im : Nat → Int32) (m_hasMark : Nat → Int32) (m_markAcross : Nat → Int32) (m_markDeep : Nat → Int32) (m_gaps : Nat → Int32) (a1 : Nat) (b1 : Nat) (n3 : Int32) (ha1 : a1 < 4) (hb1 : b1 < 4) (hsb : SB [54] im im) (j1 : Nat) (gn : Nat) (m_gaps_j1 : Nat → Int32) (k6 : Nat) (hj6 : j1 ≤ 384) (hk6 : 384 < j1 + (k6 + 1)) (hgn : gn ≤ j1) (c_1 : ¬ 384 ≤ nI j1) (n_17 : j1 < 384) (r_22 : Int32) (c_23 : ¬ r_22 = 0) (r_27 : Int32) (ik : Nat) (m_gaps_w : Nat → Int32) (k43 : Nat) (hk43 : ik < k43 + 1) (hik : ik ≤ gn) (c_28 : nI ik ≤ 0) (n_29 : ik ≤ 0) : vp_in (nI ik) 384 := by
  first | exact vp_in_nI (by omega) (by decide) | (unfold vp_in; decide)
theorem lf_X12_middle_33 (h : Nat) (q : Nat → Nat) (im : Nat → Int32) (m_hasMark : Nat → Int32) (m_markAcross : Nat → Int32) (m_markDeep : Nat → Int32) (m_gaps : Nat → Int32) (a1 : Nat) (b1 : Nat) (n3 : Int32) (ha1 : a1 < 4) (hb1 : b1 < 4) (hsb : SB [54] im im) (j1 : Nat) (gn : Nat) (m_gaps_j1 : Nat → Int32) (k6 : Nat) (hj6 : j1 ≤ 384) (hk6 : 384 < j1 + (k6 + 1)) (hgn : gn ≤ j1) (c_1 : ¬ 384 ≤ nI j1) (n_17 : j1 < 384) (r_22 : Int32) (c_23 : ¬ r_22 = 0) (r_27 : Int32) (ik : Nat) (m_gaps_w : Nat → Int32) (k43 : Nat) (hk43 : ik < k43 + 1) (hik : ik ≤ gn) (c_28 : nI ik ≤ 0) (n_29 : ik ≤ 0) (f_31 : Nat → Int32) : ((gn + 1)) ≤ (j1 + 1) := by
  first | assumption | omega
theorem lf_X12_middle_35 (h : Nat) (q : Nat → Nat) (im : Nat → Int32) (m_hasMark : Nat → Int32) (m_markAcross : Nat → Int32) (m_markDeep : Nat → Int32) (m_gaps : Nat → Int32) (a1 : Nat) (b1 : Nat) (n3 : Int32) (ha1 : a1 < 4) (hb1 : b1 < 4) (hsb : SB [54] im im) (j1 : Nat) (gn : Nat) (m_gaps_j1 : Nat → Int32) (k6 : Nat) (hj6 : j1 ≤ 384) (hk6 : 384 < j1 + (k6 + 1)) (hgn : gn ≤ j1) (c_1 : ¬ 384 ≤ nI j1) (n_17 : j1 < 384) (r_22 : Int32) (c_23 : ¬ r_22 = 0) (r_27 : Int32) (ik : Nat) (m_gaps_w : Nat → Int32) (k43 : Nat) (hk43 : ik < k43 + 1) (hik : ik ≤ gn) (c_28 : ¬ nI ik ≤ 0) : 0 < ik := by
  exact Nat.lt_of_not_le (fun q => c_28 ((nI_leI (a := ik) (b := 0) (by omega) (by omega)).mpr q))
theorem lf_X12_middle_36 (h : Nat) (q : Nat → Nat) (im : Nat → Int32) (m_hasMark : Nat → Int32) (m_markAcross : Nat → Int32) (m_markDeep : Nat → Int32) (m_gaps : Nat → Int32) (a1 : Nat) (b1 : Nat) (n3 : Int32) (ha1 : a1 < 4) (hb1 : b1 < 4) (hsb : SB [54] im im) (j1 : Nat) (gn : Nat) (m_gaps_j1 : Nat → Int32) (k6 : Nat) (hj6 : j1 ≤ 384) (hk6 : 384 < j1 + (k6 + 1)) (hgn : gn ≤ j1) (c_1 : ¬ 384 ≤ nI j1) (n_17 : j1 < 384) (r_22 : Int32) (c_23 : ¬ r_22 = 0) (r_27 : Int32) (ik : Nat) (m_gaps_w : Nat → Int32) (k43 : Nat) (hk43 : ik < k43 + 1) (hik : ik ≤ gn) (c_28 : ¬ nI ik ≤ 0) (n_34 : 0 < ik) : 1 ≤ ik := by
  omega
theorem lf_X12_middle_37 (h : Nat) (q : Nat → Nat) (im : Nat → Int32) (m_hasMark : Nat → Int32) (m_markAcross : Nat → Int32) (m_markDeep : Nat → Int32) (m_gaps : Nat → Int32) (a1 : Nat) (b1 : Nat) (n3 : Int32) (ha1 : a1 < 4) (hb1 : b1 < 4) (hsb : SB [54] im im) (j1 : Nat) (gn : Nat) (m_gaps_j1 : Nat → Int32) (k6 : Nat) (hj6 : j1 ≤ 384) (hk6 : 384 < j1 + (k6 + 1)) (hgn : gn ≤ j1) (c_1 : ¬ 384 ≤ nI j1) (n_17 : j1 < 384) (r_22 : Int32) (c_23 : ¬ r_22 = 0) (r_27 : Int32) (ik : Nat) (m_gaps_w : Nat → Int32) (k43 : Nat) (hk43 : ik < k43 + 1) (hik : ik ≤ gn) (c_28 : ¬ nI ik ≤ 0) (n_34 : 0 < ik) : vp_in (nI (ik - 1)) 384 := by
  first | exact vp_in_nI (by omega) (by decide) | (unfold vp_in; decide)
theorem lf_X12_middle_41 (h : Nat) (q : Nat → Nat) (im : Nat → Int32) (m_hasMark : Nat → Int32) (m_markAcross : Nat → Int32) (m_markDeep : Nat → Int32) (m_gaps : Nat → Int32) (a1 : Nat) (b1 : Nat) (n3 : Int32) (ha1 : a1 < 4) (hb1 : b1 < 4) (hsb : SB [54] im im) (j1 : Nat) (gn : Nat) (m_gaps_j1 : Nat → Int32) (k6 : Nat) (hj6 : j1 ≤ 384) (hk6 : 384 < j1 + (k6 + 1)) (hgn : gn ≤ j1) (c_1 : ¬ 384 ≤ nI j1) (n_17 : j1 < 384) (r_22 : Int32) (c_23 : ¬ r_22 = 0) (r_27 : Int32) (ik : Nat) (m_gaps_w : Nat → Int32) (k43 : Nat) (hk43 : ik < k43 + 1) (hik : ik ≤ gn) (c_28 : ¬ nI ik ≤ 0) (n_34 : 0 < ik) (x_38 : Int32) (c_39 : x_38 ≤ r_27) : vp_in (nI ik) 384 := by
  first | exact vp_in_nI (by omega) (by decide) | (unfold vp_in; decide)
theorem lf_X12_middle_42 (h : Nat) (q : Nat → Nat) (im : Nat → Int32) (m_hasMark : Nat → Int32) (m_markAcross : Nat → Int32) (m_markDeep : Nat → Int32) (m_gaps : Nat → Int32) (a1 : Nat) (b1 : Nat) (n3 : Int32) (ha1 : a1 < 4) (hb1 : b1 < 4) (hsb : SB [54] im im) (j1 : Nat) (gn : Nat) (m_gaps_j1 : Nat → Int32) (k6 : Nat) (hj6 : j1 ≤ 384) (hk6 : 384 < j1 + (k6 + 1)) (hgn : gn ≤ j1) (c_1 : ¬ 384 ≤ nI j1) (n_17 : j1 < 384) (r_22 : Int32) (c_23 : ¬ r_22 = 0) (r_27 : Int32) (ik : Nat) (m_gaps_w : Nat → Int32) (k43 : Nat) (hk43 : ik < k43 + 1) (hik : ik ≤ gn) (c_28 : ¬ nI ik ≤ 0) (n_34 : 0 < ik) (x_38 : Int32) (c_39 : x_38 ≤ r_27) (f_40 : Nat → Int32) : ((gn + 1)) ≤ (j1 + 1) := by
  first | assumption | omega
theorem lf_X12_middle_43 (h : Nat) (q : Nat → Nat) (im : Nat → Int32) (m_hasMark : Nat → Int32) (m_markAcross : Nat → Int32) (m_markDeep : Nat → Int32) (m_gaps : Nat → Int32) (a1 : Nat) (b1 : Nat) (n3 : Int32) (ha1 : a1 < 4) (hb1 : b1 < 4) (hsb : SB [54] im im) (j1 : Nat) (gn : Nat) (m_gaps_j1 : Nat → Int32) (k6 : Nat) (hj6 : j1 ≤ 384) (hk6 : 384 < j1 + (k6 + 1)) (hgn : gn ≤ j1) (c_1 : ¬ 384 ≤ nI j1) (n_17 : j1 < 384) (r_22 : Int32) (c_23 : ¬ r_22 = 0) (r_27 : Int32) (ik : Nat) (m_gaps_w : Nat → Int32) (k43 : Nat) (hk43 : ik < k43 + 1) (hik : ik ≤ gn) (c_28 : ¬ nI ik ≤ 0) (n_34 : 0 < ik) (x_38 : Int32) (c_39 : ¬ x_38 ≤ r_27) : 1 ≤ ik := by
  omega
theorem lf_X12_middle_44 (h : Nat) (q : Nat → Nat) (im : Nat → Int32) (m_hasMark : Nat → Int32) (m_markAcross : Nat → Int32) (m_markDeep : Nat → Int32) (m_gaps : Nat → Int32) (a1 : Nat) (b1 : Nat) (n3 : Int32) (ha1 : a1 < 4) (hb1 : b1 < 4) (hsb : SB [54] im im) (j1 : Nat) (gn : Nat) (m_gaps_j1 : Nat → Int32) (k6 : Nat) (hj6 : j1 ≤ 384) (hk6 : 384 < j1 + (k6 + 1)) (hgn : gn ≤ j1) (c_1 : ¬ 384 ≤ nI j1) (n_17 : j1 < 384) (r_22 : Int32) (c_23 : ¬ r_22 = 0) (r_27 : Int32) (ik : Nat) (m_gaps_w : Nat → Int32) (k43 : Nat) (hk43 : ik < k43 + 1) (hik : ik ≤ gn) (c_28 : ¬ nI ik ≤ 0) (n_34 : 0 < ik) (x_38 : Int32) (c_39 : ¬ x_38 ≤ r_27) : vp_in (nI (ik - 1)) 384 := by
  first | exact vp_in_nI (by omega) (by decide) | (unfold vp_in; decide)
theorem lf_X12_middle_47 (h : Nat) (q : Nat → Nat) (im : Nat → Int32) (m_hasMark : Nat → Int32) (m_markAcross : Nat → Int32) (m_markDeep : Nat → Int32) (m_gaps : Nat → Int32) (a1 : Nat) (b1 : Nat) (n3 : Int32) (ha1 : a1 < 4) (hb1 : b1 < 4) (hsb : SB [54] im im) (j1 : Nat) (gn : Nat) (m_gaps_j1 : Nat → Int32) (k6 : Nat) (hj6 : j1 ≤ 384) (hk6 : 384 < j1 + (k6 + 1)) (hgn : gn ≤ j1) (c_1 : ¬ 384 ≤ nI j1) (n_17 : j1 < 384) (r_22 : Int32) (c_23 : ¬ r_22 = 0) (r_27 : Int32) (ik : Nat) (m_gaps_w : Nat → Int32) (k43 : Nat) (hk43 : ik < k43 + 1) (hik : ik ≤ gn) (c_28 : ¬ nI ik ≤ 0) (n_34 : 0 < ik) (x_38 : Int32) (c_39 : ¬ x_38 ≤ r_27) (x_45 : Int32) : vp_in (nI ik) 384 := by
  first | exact vp_in_nI (by omega) (by decide) | (unfold vp_in; decide)
theorem lf_X12_middle_48 (h : Nat) (q : Nat → Nat) (im : Nat → Int32) (m_hasMark : Nat → Int32) (m_markAcross : Nat → Int32) (m_markDeep : Nat → Int32) (m_gaps : Nat → Int32) (a1 : Nat) (b1 : Nat) (n3 : Int32) (ha1 : a1 < 4) (hb1 : b1 < 4) (hsb : SB [54] im im) (j1 : Nat) (gn : Nat) (m_gaps_j1 : Nat → Int32) (k6 : Nat) (hj6 : j1 ≤ 384) (hk6 : 384 < j1 + (k6 + 1)) (hgn : gn ≤ j1) (c_1 : ¬ 384 ≤ nI j1) (n_17 : j1 < 384) (r_22 : Int32) (c_23 : ¬ r_22 = 0) (r_27 : Int32) (ik : Nat) (m_gaps_w : Nat → Int32) (k43 : Nat) (hk43 : ik < k43 + 1) (hik : ik ≤ gn) (c_28 : ¬ nI ik ≤ 0) (n_34 : 0 < ik) (x_38 : Int32) (c_39 : ¬ x_38 ≤ r_27) (x_45 : Int32) (f_46 : Nat → Int32) : 1 ≤ ik := by
  omega
theorem lf_X12_middle_49 (h : Nat) (q : Nat → Nat) (im : Nat → Int32) (m_hasMark : Nat → Int32) (m_markAcross : Nat → Int32) (m_markDeep : Nat → Int32) (m_gaps : Nat → Int32) (a1 : Nat) (b1 : Nat) (n3 : Int32) (ha1 : a1 < 4) (hb1 : b1 < 4) (hsb : SB [54] im im) (j1 : Nat) (gn : Nat) (m_gaps_j1 : Nat → Int32) (k6 : Nat) (hj6 : j1 ≤ 384) (hk6 : 384 < j1 + (k6 + 1)) (hgn : gn ≤ j1) (c_1 : ¬ 384 ≤ nI j1) (n_17 : j1 < 384) (r_22 : Int32) (c_23 : ¬ r_22 = 0) (r_27 : Int32) (ik : Nat) (m_gaps_w : Nat → Int32) (k43 : Nat) (hk43 : ik < k43 + 1) (hik : ik ≤ gn) (c_28 : ¬ nI ik ≤ 0) (n_34 : 0 < ik) (x_38 : Int32) (c_39 : ¬ x_38 ≤ r_27) (x_45 : Int32) (f_46 : Nat → Int32) : ((ik - 1)) ≤ gn := by
  first | assumption | omega
theorem lf_X12_middle_50 (h : Nat) (q : Nat → Nat) (im : Nat → Int32) (m_hasMark : Nat → Int32) (m_markAcross : Nat → Int32) (m_markDeep : Nat → Int32) (m_gaps : Nat → Int32) (a1 : Nat) (b1 : Nat) (n3 : Int32) (ha1 : a1 < 4) (hb1 : b1 < 4) (hsb : SB [54] im im) (j1 : Nat) (gn : Nat) (m_gaps_j1 : Nat → Int32) (k6 : Nat) (hj6 : j1 ≤ 384) (hk6 : 384 < j1 + (k6 + 1)) (hgn : gn ≤ j1) (c_1 : ¬ 384 ≤ nI j1) (n_17 : j1 < 384) (r_22 : Int32) (c_23 : ¬ r_22 = 0) (r_27 : Int32) (ik : Nat) (m_gaps_w : Nat → Int32) (k43 : Nat) (hk43 : ik < k43 + 1) (hik : ik ≤ gn) (c_28 : ¬ nI ik ≤ 0) (n_34 : 0 < ik) (x_38 : Int32) (c_39 : ¬ x_38 ≤ r_27) (x_45 : Int32) (f_46 : Nat → Int32) : ((ik - 1)) < k43 := by
  first | omega | assumption
theorem lf_X12_middle_51 (h : Nat) (q : Nat → Nat) (im : Nat → Int32) (m_hasMark : Nat → Int32) (m_markAcross : Nat → Int32) (m_markDeep : Nat → Int32) (m_gaps : Nat → Int32) (a1 : Nat) (b1 : Nat) (n3 : Int32) (ha1 : a1 < 4) (hb1 : b1 < 4) (hsb : SB [54] im im) (j1 : Nat) (gn : Nat) (m_gaps_j1 : Nat → Int32) (k6 : Nat) (hj6 : j1 ≤ 384) (hk6 : 384 < j1 + (k6 + 1)) (hgn : gn ≤ j1) (c_1 : ¬ 384 ≤ nI j1) (n_17 : j1 < 384) (r_22 : Int32) (c_23 : ¬ r_22 = 0) (r_27 : Int32) : gn ≤ gn := by
  first | assumption | omega
theorem lf_X12_middle_52 (h : Nat) (q : Nat → Nat) (im : Nat → Int32) (m_hasMark : Nat → Int32) (m_markAcross : Nat → Int32) (m_markDeep : Nat → Int32) (m_gaps : Nat → Int32) (a1 : Nat) (b1 : Nat) (n3 : Int32) (ha1 : a1 < 4) (hb1 : b1 < 4) (hsb : SB [54] im im) (j1 : Nat) (gn : Nat) (m_gaps_j1 : Nat → Int32) (k6 : Nat) (hj6 : j1 ≤ 384) (hk6 : 384 < j1 + (k6 + 1)) (hgn : gn ≤ j1) (c_1 : ¬ 384 ≤ nI j1) (n_17 : j1 < 384) (r_22 : Int32) (c_23 : ¬ r_22 = 0) (r_27 : Int32) : gn < 385 := by
  first | omega | assumption
theorem lf_X12_middle_53 (h : Nat) (q : Nat → Nat) (im : Nat → Int32) (m_hasMark : Nat → Int32) (m_markAcross : Nat → Int32) (m_markDeep : Nat → Int32) (m_gaps : Nat → Int32) (a1 : Nat) (b1 : Nat) (n3 : Int32) (ha1 : a1 < 4) (hb1 : b1 < 4) (hsb : SB [54] im im) (j1 : Nat) (gn : Nat) (m_gaps_j1 : Nat → Int32) (k6 : Nat) (hj6 : j1 ≤ 384) (hk6 : 384 < j1 + (k6 + 1)) (hgn : gn ≤ j1) (c_1 : ¬ 384 ≤ nI j1) (n_17 : j1 < 384) (r_22 : Int32) (c_23 : r_22 = 0) : gn ≤ (j1 + 1) := by
  first | assumption | omega
theorem lf_X12_middle_54 (h : Nat) (q : Nat → Nat) (im : Nat → Int32) (m_hasMark : Nat → Int32) (m_markAcross : Nat → Int32) (m_markDeep : Nat → Int32) (m_gaps : Nat → Int32) (a1 : Nat) (b1 : Nat) (n3 : Int32) (ha1 : a1 < 4) (hb1 : b1 < 4) (hsb : SB [54] im im) : 0 ≤ 0 := by
  first | assumption | omega
set_option maxHeartbeats 4000000 in
set_option maxRecDepth 100000 in
theorem c_X12_middle (l : Launch) (D : va_G) (cI cB cZ cJ : ClassId) (tx : List (ClassId × FieldType)) (h : Nat) (q : Nat → Nat) (im : Nat → Int32) (m_hasMark : Nat → Int32) (m_markAcross : Nat → Int32) (m_markDeep : Nat → Int32) (m_gaps : Nat → Int32) (a1 : Nat) (b1 : Nat) (n3 : Int32) (ha1 : a1 < 4) (hb1 : b1 < 4) : WrI l D cI cB cZ cJ tx yX12_middle cX12_middle 8 (some .int) 1 0 0 [.ref h, .int (nI a1), .int (nI b1), .int n3] [(h, .inr (12, mG q im)), (q 51, .inl (cZ, 1536, .inl m_hasMark)), (q 52, .inl (cI, 1536, .inl m_markAcross)), (q 53, .inl (cI, 1536, .inl m_markDeep)), (q 59, .inl (cI, 384, .inl m_gaps))] (fun (r : Int32) (v : (Nat → Int32) × (Nat) × (Nat → Int32)) => (SB [54] im v.1) ∧ (v.1 54 = nI v.2.1) ∧ (v.2.1 ≤ 384)) (fun v => [(h, .inr (12, mG q v.1)), (q 51, .inl (cZ, 1536, .inl m_hasMark)), (q 52, .inl (cI, 1536, .inl m_markAcross)), (q 53, .inl (cI, 1536, .inl m_markDeep)), (q 59, .inl (cI, 384, .inl v.2.2))]) := by
  refine wri_of2 (by decide) (Nat.le_of_ble_eq_true rfl) ?_
  intro p e s m below meth c A ls H locs hC hK hP hD hA hS hl
  obtain ⟨hx, hb, hr, hml, hown, hts, hlocks, hin⟩ := hC
  have hown : s.vm.findClass RX12 = some m.cls := hown
  have hl : lv_has ls 8 [(0, .ref h), (1, .int (nI a1)), (2, .int (nI b1)), (3, .int n3)] := hl
  have hsb : SB [54] im im := SB.rf
  refine lv_iconst (v := 0) hx hb dX12_middle_0 (by decide) ?_
  refine lv_istore (lv' := [(4, .int 0), (0, .ref h), (1, .int (nI a1)), (2, .int (nI b1)), (3, .int n3)]) hx hb dX12_middle_1 hl (by decide) rfl (fun ls hl => ?_)
  refine lv_iconst (v := 0) hx hb dX12_middle_3 (by decide) ?_
  refine lv_istore (lv' := [(5, .int 0), (4, .int 0), (0, .ref h), (1, .int (nI a1)), (2, .int (nI b1)), (3, .int n3)]) hx hb dX12_middle_4 hl (by decide) rfl (fun ls hl => ?_)
  have lp6 : ∀ (k6 : Nat) (j1 : Nat) (gn : Nat) (m_gaps_j1 : Nat → Int32) (H : Heap) (locs : List Loc) (ls : Array Slot), j1 ≤ 384 → 384 < j1 + k6 → (gn ≤ j1) → va_P D vwCl [(h, .inr (12, mG q im)), (q 51, .inl (cZ, 1536, .inl m_hasMark)), (q 52, .inl (cI, 1536, .inl m_markAcross)), (q 53, .inl (cI, 1536, .inl m_markDeep)), (q 59, .inl (cI, 384, .inl m_gaps_j1))] H → va_D A [(h, .inr (12, mG q im)), (q 51, .inl (cZ, 1536, .inl m_hasMark)), (q 52, .inl (cI, 1536, .inl m_markAcross)), (q 53, .inl (cI, 1536, .inl m_markDeep)), (q 59, .inl (cI, 384, .inl m_gaps_j1))] → va_S A s.heap H locs → lv_has ls 8 [(5, .int (nI j1)), (4, .int (nI gn)), (0, .ref h), (1, .int (nI a1)), (2, .int (nI b1)), (3, .int n3)] → W p l e (rmX 1 0 0) s m ([.ref h, .int (nI a1), .int (nI b1), .int n3] : List Value).toArray below meth c H locs 0 0 (MQ below (va_Qi (fun (r : Int32) (v : (Nat → Int32) × (Nat) × (Nat → Int32)) => (SB [54] im v.1) ∧ (v.1 54 = nI v.2.1) ∧ (v.2.1 ≤ 384)) (fun u => BX D A ((fun v => [(h, .inr (12, mG q v.1)), (q 51, .inl (cZ, 1536, .inl m_hasMark)), (q 52, .inl (cI, 1536, .inl m_markAcross)), (q 53, .inl (cI, 1536, .inl m_markDeep)), (q 59, .inl (cI, 384, .inl v.2.2))]) u)) A) ([.ref h, .int (nI a1), .int (nI b1), .int n3] : List Value).toArray s 0 0 A) (F0 m 6 ls []) := by
    intro k6
    induction k6 with
    | zero =>
      intro j1 gn m_gaps_j1 H locs ls hj6 hk6 hgn hP hD hS hl
      exact absurd hk6 (by omega)
    | succ k6 ih6 =>
      intro j1 gn m_gaps_j1 H locs ls hj6 hk6 hgn hP hD hS hl
      refine lv_iload hx hb dX12_middle_6 (lv_at hl 0 rfl) ?_
      refine lv_sipush (v := 384) hx hb dX12_middle_8 (by decide) ?_
      refine lv_icmp_ge (tgt := 102) hx hb dX12_middle_11 (by decide) (fun c_1 => ?_) (fun c_1 => ?_)
      · have n_2 : 384 ≤ j1 := (lf_X12_middle_3 h q im m_hasMark m_markAcross m_markDeep m_gaps a1 b1 n3 ha1 hb1 hsb j1 gn m_gaps_j1 k6 hj6 hk6 hgn c_1)
        refine lv_aload_n hx hb dX12_middle_102 rfl (lv_at hl 2 rfl) ?_
        refine lv_iload hx hb dX12_middle_103 (lv_at hl 1 rfl) ?_
        refine va_put (D := D) (ci := 12) (v := .int (nI gn)) (ty := .int) (C := RX12) (T := TX12) (N := 81) hx hb hts inT_X12 tyX12 tyX12_ok nmX12 hown hK.1 hP hD hS 0 rfl rfl 54 (by decide) (hts _ k_1407) (fun _ h9 => h9) rfl (by decide +kernel) rfl rfl (Nat.le_of_ble_eq_true rfl) dX12_middle_105 (fun H locs hP hD hS => ?_)
        obtain ⟨i_4, ei_4⟩ : ∃ z : Nat → Int32, z = upd im 54 (nI gn) := ⟨_, rfl⟩
        have hi_4_54 : i_4 54 = nI gn := by rw [ei_4]; rfl
        have hsb := SB.put hsb ei_4 (by decide)
        have hP : va_P D vwCl [(h, .inr (12, mG q i_4)), (q 51, .inl (cZ, 1536, .inl m_hasMark)), (q 52, .inl (cI, 1536, .inl m_markAcross)), (q 53, .inl (cI, 1536, .inl m_markDeep)), (q 59, .inl (cI, 384, .inl m_gaps_j1))] H := by rw [ei_4, ← mG_54]; exact hP
        have hD : va_D A [(h, .inr (12, mG q i_4)), (q 51, .inl (cZ, 1536, .inl m_hasMark)), (q 52, .inl (cI, 1536, .inl m_markAcross)), (q 53, .inl (cI, 1536, .inl m_markDeep)), (q 59, .inl (cI, 384, .inl m_gaps_j1))] := by rw [ei_4, ← mG_54]; exact hD
        refine lv_iload hx hb dX12_middle_108 (lv_at hl 1 rfl) ?_
        refine lv_if_ne (tgt := 117) hx hb dX12_middle_110 (by decide) (fun c_5 => ?_) (fun c_5 => ?_)
        · have n_6 : gn ≠ 0 := (lf_X12_middle_7 h q im m_hasMark m_markAcross m_markDeep m_gaps a1 b1 n3 ha1 hb1 j1 gn m_gaps_j1 k6 hj6 hk6 hgn c_1 n_2 i_4 hsb c_5)
          refine lv_aload_n hx hb dX12_middle_117 rfl (lv_at hl 2 rfl) ?_
          refine va_get (D := D) (ci := 12) (v := .ref (q 59)) (C := RX12) (T := TX12) (N := 81) hx hb hts inT_X12 hown hK.1 hP 0 rfl rfl 59 (by decide) (hts _ k_1412) (fun _ h9 => h9) rfl dX12_middle_118 ?_
          refine lv_iload hx hb dX12_middle_121 (lv_at hl 1 rfl) ?_
          refine lv_iconst (v := 1) hx hb dX12_middle_123 (by decide) ?_
          refine lv_isub hx hb dX12_middle_124 ?_
          refine lv_topv (y := nI (gn - 1)) (pk_sub (lf_X12_middle_8 h q im m_hasMark m_markAcross m_markDeep m_gaps a1 b1 n3 ha1 hb1 j1 gn m_gaps_j1 k6 hj6 hk6 hgn c_1 n_2 i_4 hsb c_5 n_6)) ?_
          refine lv_iconst (v := 2) hx hb dX12_middle_125 (by decide) ?_
          refine lv_idiv hx hb dX12_middle_126 (by decide) ?_
          refine lv_topv (y := nI ((gn - 1) / 2)) (pk_div (d := 2) (lf_X12_middle_10 h q im m_hasMark m_markAcross m_markDeep m_gaps a1 b1 n3 ha1 hb1 j1 gn m_gaps_j1 k6 hj6 hk6 hgn c_1 n_2 i_4 hsb c_5 n_6) (by decide) (by decide)) ?_
          refine ld_i hx hb hK hP 4 rfl (lf_X12_middle_11 h q im m_hasMark m_markAcross m_markDeep m_gaps a1 b1 n3 ha1 hb1 j1 gn m_gaps_j1 k6 hj6 hk6 hgn c_1 n_2 i_4 hsb c_5 n_6) dX12_middle_127 (fun x_12 => ?_)
          exact W.iret (v := x_12) hx hb hr (fun tt9 ht hW => ⟨⟨(x_12 : Int32), ((i_4 : Nat → Int32), (gn : Nat), (m_gaps_j1 : Nat → Int32)), rfl, (lf_X12_middle_13 h q im m_hasMark m_markAcross m_markDeep m_gaps a1 b1 n3 ha1 hb1 j1 gn m_gaps_j1 k6 hj6 hk6 hgn c_1 n_2 i_4 hsb c_5 n_6 x_12 hi_4_54), ⟨by rw [ht]; exact hP, hD⟩⟩, hS.F ht⟩) hS.2.2 dX12_middle_128 hlocks
        · have n_14 : gn = 0 := (lf_X12_middle_15 h q im m_hasMark m_markAcross m_markDeep m_gaps a1 b1 n3 ha1 hb1 j1 gn m_gaps_j1 k6 hj6 hk6 hgn c_1 n_2 i_4 hsb c_5)
          refine lv_iconst (v := 0) hx hb dX12_middle_113 (by decide) ?_
          refine lv_goto (tgt := 128) hx hb dX12_middle_114 (by decide) ?_
          exact W.iret (v := 0) hx hb hr (fun tt9 ht hW => ⟨⟨(0 : Int32), ((i_4 : Nat → Int32), (gn : Nat), (m_gaps_j1 : Nat → Int32)), rfl, (lf_X12_middle_16 h q im m_hasMark m_markAcross m_markDeep m_gaps a1 b1 n3 ha1 hb1 j1 gn m_gaps_j1 k6 hj6 hk6 hgn c_1 n_2 i_4 hsb c_5 n_14 hi_4_54), ⟨by rw [ht]; exact hP, hD⟩⟩, hS.F ht⟩) hS.2.2 dX12_middle_128 hlocks
      · have n_17 : j1 < 384 := (lf_X12_middle_18 h q im m_hasMark m_markAcross m_markDeep m_gaps a1 b1 n3 ha1 hb1 hsb j1 gn m_gaps_j1 k6 hj6 hk6 hgn c_1)
        refine lv_aload_n hx hb dX12_middle_14 rfl (lv_at hl 2 rfl) ?_
        refine lv_iload_n hx hb dX12_middle_15 rfl (lv_at hl 3 rfl) ?_
        refine lv_iload_n hx hb dX12_middle_16 rfl (lv_at hl 4 rfl) ?_
        refine lv_iload hx hb dX12_middle_17 (lv_at hl 0 rfl) ?_
        refine eRi (va_runV (As := [.int (nI a1), .int (nI b1), .int (nI j1)]) (rest := []) ⟨hx, hb, hml, hown, hts⟩ (c_X12_hasBoth l D cI cB cZ cJ tx h q im m_hasMark a1 b1 j1 (lf_X12_middle_19 h q im m_hasMark m_markAcross m_markDeep m_gaps a1 b1 n3 ha1 hb1 hsb j1 gn m_gaps_j1 k6 hj6 hk6 hgn c_1 n_17) (lf_X12_middle_20 h q im m_hasMark m_markAcross m_markDeep m_gaps a1 b1 n3 ha1 hb1 hsb j1 gn m_gaps_j1 k6 hj6 hk6 hgn c_1 n_17) (lf_X12_middle_21 h q im m_hasMark m_markAcross m_markDeep m_gaps a1 b1 n3 ha1 hb1 hsb j1 gn m_gaps_j1 k6 hj6 hk6 hgn c_1 n_17) H.size) (zV hts k_1883 v_X12_hasBoth ⟨Nat.le_of_ble_eq_true rfl, Nat.le_of_ble_eq_true rfl⟩) (pV (pxS hK hP hD [0, 1] (by decide) rfl) hK hP 0 rfl rfl) rfl rfl hl.1 rfl (lv_room (Nat.le_of_ble_eq_true rfl)) dX12_middle_19 ⟨Nat.le_of_ble_eq_true rfl, Nat.le_of_ble_eq_true rfl⟩) hP hS hA (fun r_22 H locs wr_22 hP hS => ?_)
        refine lv_if_ne (tgt := 28) hx hb dX12_middle_22 (by decide) (fun c_23 => ?_) (fun c_23 => ?_)
        · refine lv_aload_n hx hb dX12_middle_28 rfl (lv_at hl 2 rfl) ?_
          refine lv_iload_n hx hb dX12_middle_29 rfl (lv_at hl 3 rfl) ?_
          refine lv_iload_n hx hb dX12_middle_30 rfl (lv_at hl 4 rfl) ?_
          refine lv_iload hx hb dX12_middle_31 (lv_at hl 0 rfl) ?_
          refine lv_iload_n hx hb dX12_middle_33 rfl (lv_at hl 5 rfl) ?_
          refine eRi (va_runV (As := [.int (nI a1), .int (nI b1), .int (nI j1), .int n3]) (rest := []) ⟨hx, hb, hml, hown, hts⟩ (c_X12_gapOf l D cI cB cZ cJ tx h q im m_markAcross m_markDeep a1 b1 j1 n3 (lf_X12_middle_24 h q im m_hasMark m_markAcross m_markDeep m_gaps a1 b1 n3 ha1 hb1 hsb j1 gn m_gaps_j1 k6 hj6 hk6 hgn c_1 n_17 r_22 c_23) (lf_X12_middle_25 h q im m_hasMark m_markAcross m_markDeep m_gaps a1 b1 n3 ha1 hb1 hsb j1 gn m_gaps_j1 k6 hj6 hk6 hgn c_1 n_17 r_22 c_23) (lf_X12_middle_26 h q im m_hasMark m_markAcross m_markDeep m_gaps a1 b1 n3 ha1 hb1 hsb j1 gn m_gaps_j1 k6 hj6 hk6 hgn c_1 n_17 r_22 c_23) H.size) (zV hts k_1887 v_X12_gapOf ⟨Nat.le_of_ble_eq_true rfl, Nat.le_of_ble_eq_true rfl⟩) (pV (pxS hK hP hD [0, 2, 3] (by decide) rfl) hK hP 0 rfl rfl) rfl rfl hl.1 rfl (lv_room (Nat.le_of_ble_eq_true rfl)) dX12_middle_34 ⟨Nat.le_of_ble_eq_true rfl, Nat.le_of_ble_eq_true rfl⟩) hP hS hA (fun r_27 H locs wr_27 hP hS => ?_)
          refine lv_istore (lv' := [(6, .int r_27), (5, .int (nI j1)), (4, .int (nI gn)), (0, .ref h), (1, .int (nI a1)), (2, .int (nI b1)), (3, .int n3)]) hx hb dX12_middle_37 hl (by decide) rfl (fun ls hl => ?_)
          refine lv_iload hx hb dX12_middle_39 (lv_at hl 2 rfl) ?_
          refine lv_istore (lv' := [(7, .int (nI gn)), (6, .int r_27), (5, .int (nI j1)), (4, .int (nI gn)), (0, .ref h), (1, .int (nI a1)), (2, .int (nI b1)), (3, .int n3)]) hx hb dX12_middle_41 hl (by decide) rfl (fun ls hl => ?_)
          have lp43 : ∀ (k43 : Nat) (ik : Nat) (m_gaps_w : Nat → Int32) (H : Heap) (locs : List Loc) (ls : Array Slot), ik < k43 → (ik ≤ gn) → va_P D vwCl [(h, .inr (12, mG q im)), (q 51, .inl (cZ, 1536, .inl m_hasMark)), (q 52, .inl (cI, 1536, .inl m_markAcross)), (q 53, .inl (cI, 1536, .inl m_markDeep)), (q 59, .inl (cI, 384, .inl m_gaps_w))] H → va_D A [(h, .inr (12, mG q im)), (q 51, .inl (cZ, 1536, .inl m_hasMark)), (q 52, .inl (cI, 1536, .inl m_markAcross)), (q 53, .inl (cI, 1536, .inl m_markDeep)), (q 59, .inl (cI, 384, .inl m_gaps_w))] → va_S A s.heap H locs → lv_has ls 8 [(7, .int (nI ik)), (6, .int r_27), (5, .int (nI j1)), (4, .int (nI gn)), (0, .ref h), (1, .int (nI a1)), (2, .int (nI b1)), (3, .int n3)] → W p l e (rmX 1 0 0) s m ([.ref h, .int (nI a1), .int (nI b1), .int n3] : List Value).toArray below meth c H locs 0 0 (MQ below (va_Qi (fun (r : Int32) (v : (Nat → Int32) × (Nat) × (Nat → Int32)) => (SB [54] im v.1) ∧ (v.1 54 = nI v.2.1) ∧ (v.2.1 ≤ 384)) (fun u => BX D A ((fun v => [(h, .inr (12, mG q v.1)), (q 51, .inl (cZ, 1536, .inl m_hasMark)), (q 52, .inl (cI, 1536, .inl m_markAcross)), (q 53, .inl (cI, 1536, .inl m_markDeep)), (q 59, .inl (cI, 384, .inl v.2.2))]) u)) A) ([.ref h, .int (nI a1), .int (nI b1), .int n3] : List Value).toArray s 0 0 A) (F0 m 43 ls []) := by
            intro k43
            induction k43 with
            | zero =>
              intro ik m_gaps_w H locs ls hk43 hik hP hD hS hl
              exact absurd hk43 (by omega)
            | succ k43 ih43 =>
              intro ik m_gaps_w H locs ls hk43 hik hP hD hS hl
              refine lv_iload hx hb dX12_middle_43 (lv_at hl 0 rfl) ?_
              refine lv_if_le (tgt := 84) hx hb dX12_middle_45 (by decide) (fun c_28 => ?_) (fun c_28 => ?_)
              · have n_29 : ik ≤ 0 := (lf_X12_middle_30 h q im m_hasMark m_markAcross m_markDeep m_gaps a1 b1 n3 ha1 hb1 hsb j1 gn m_gaps_j1 k6 hj6 hk6 hgn c_1 n_17 r_22 c_23 r_27 ik m_gaps_w k43 hk43 hik c_28)
                refine lv_aload_n hx hb dX12_middle_84 rfl (lv_at hl 4 rfl) ?_
                refine va_get (D := D) (ci := 12) (v := .ref (q 59)) (C := RX12) (T := TX12) (N := 81) hx hb hts inT_X12 hown hK.1 hP 0 rfl rfl 59 (by decide) (hts _ k_1412) (fun _ h9 => h9) rfl dX12_middle_85 ?_
                refine lv_iload hx hb dX12_middle_88 (lv_at hl 0 rfl) ?_
                refine lv_iload hx hb dX12_middle_90 (lv_at hl 1 rfl) ?_
                refine st_i hx hb hK hP hD hS 4 rfl (lf_X12_middle_32 h q im m_hasMark m_markAcross m_markDeep m_gaps a1 b1 n3 ha1 hb1 hsb j1 gn m_gaps_j1 k6 hj6 hk6 hgn c_1 n_17 r_22 c_23 r_27 ik m_gaps_w k43 hk43 hik c_28 n_29) dX12_middle_92 (fun f_31 H locs hP hD hS => ?_)
                have hP : va_P D vwCl [(h, .inr (12, mG q im)), (q 51, .inl (cZ, 1536, .inl m_hasMark)), (q 52, .inl (cI, 1536, .inl m_markAcross)), (q 53, .inl (cI, 1536, .inl m_markDeep)), (q 59, .inl (cI, 384, .inl f_31))] H := hP
                have hD : va_D A [(h, .inr (12, mG q im)), (q 51, .inl (cZ, 1536, .inl m_hasMark)), (q 52, .inl (cI, 1536, .inl m_markAcross)), (q 53, .inl (cI, 1536, .inl m_markDeep)), (q 59, .inl (cI, 384, .inl f_31))] := hD
                refine lv_iinc (v := nI (gn + 1)) (lv' := [(4, .int (nI (gn + 1))), (7, .int (nI ik)), (6, .int r_27), (5, .int (nI j1)), (0, .ref h), (1, .int (nI a1)), (2, .int (nI b1)), (3, .int n3)]) hx hb dX12_middle_93 hl (k := 3) rfl (nI_1 gn) (by decide) rfl (fun ls hl => ?_)
                refine lv_iinc (v := nI (j1 + 1)) (lv' := [(5, .int (nI (j1 + 1))), (4, .int (nI (gn + 1))), (7, .int (nI ik)), (6, .int r_27), (0, .ref h), (1, .int (nI a1)), (2, .int (nI b1)), (3, .int n3)]) hx hb dX12_middle_96 hl (k := 3) rfl (nI_1 j1) (by decide) rfl (fun ls hl => ?_)
                refine lv_goto (tgt := 6) hx hb dX12_middle_99 (by decide) ?_
                exact ih6 (j1 + 1) (gn + 1) f_31 H locs ls (by omega) (by omega) (lf_X12_middle_33 h q im m_hasMark m_markAcross m_markDeep m_gaps a1 b1 n3 ha1 hb1 hsb j1 gn m_gaps_j1 k6 hj6 hk6 hgn c_1 n_17 r_22 c_23 r_27 ik m_gaps_w k43 hk43 hik c_28 n_29 f_31) (hP.sub [0, 1, 2, 3, 4] rfl) (hD.sub [0, 1, 2, 3, 4] (by decide) rfl) hS (lv_sub hl [0, 1, 4, 5, 6, 7] rfl)
              · have n_34 : 0 < ik := (lf_X12_middle_35 h q im m_hasMark m_markAcross m_markDeep m_gaps a1 b1 n3 ha1 hb1 hsb j1 gn m_gaps_j1 k6 hj6 hk6 hgn c_1 n_17 r_22 c_23 r_27 ik m_gaps_w k43 hk43 hik c_28)
                refine lv_aload_n hx hb dX12_middle_48 rfl (lv_at hl 4 rfl) ?_
                refine va_get (D := D) (ci := 12) (v := .ref (q 59)) (C := RX12) (T := TX12) (N := 81) hx hb hts inT_X12 hown hK.1 hP 0 rfl rfl 59 (by decide) (hts _ k_1412) (fun _ h9 => h9) rfl dX12_middle_49 ?_
                refine lv_iload hx hb dX12_middle_52 (lv_at hl 0 rfl) ?_
                refine lv_iconst (v := 1) hx hb dX12_middle_54 (by decide) ?_
                refine lv_isub hx hb dX12_middle_55 ?_
                refine lv_topv (y := nI (ik - 1)) (pk_sub (lf_X12_middle_36 h q im m_hasMark m_markAcross m_markDeep m_gaps a1 b1 n3 ha1 hb1 hsb j1 gn m_gaps_j1 k6 hj6 hk6 hgn c_1 n_17 r_22 c_23 r_27 ik m_gaps_w k43 hk43 hik c_28 n_34)) ?_
                refine ld_i hx hb hK hP 4 rfl (lf_X12_middle_37 h q im m_hasMark m_markAcross m_markDeep m_gaps a1 b1 n3 ha1 hb1 hsb j1 gn m_gaps_j1 k6 hj6 hk6 hgn c_1 n_17 r_22 c_23 r_27 ik m_gaps_w k43 hk43 hik c_28 n_34) dX12_middle_56 (fun x_38 => ?_)
                refine lv_iload hx hb dX12_middle_57 (lv_at hl 1 rfl) ?_
                refine lv_icmp_le (tgt := 84) hx hb dX12_middle_59 (by decide) (fun c_39 => ?_) (fun c_39 => ?_)
                · refine lv_aload_n hx hb dX12_middle_84 rfl (lv_at hl 4 rfl) ?_
                  refine va_get (D := D) (ci := 12) (v := .ref (q 59)) (C := RX12) (T := TX12) (N := 81) hx hb hts inT_X12 hown hK.1 hP 0 rfl rfl 59 (by decide) (hts _ k_1412) (fun _ h9 => h9) rfl dX12_middle_85 ?_
                  refine lv_iload hx hb dX12_middle_88 (lv_at hl 0 rfl) ?_
                  refine lv_iload hx hb dX12_middle_90 (lv_at hl 1 rfl) ?_
                  refine st_i hx hb hK hP hD hS 4 rfl (lf_X12_middle_41 h q im m_hasMark m_markAcross m_markDeep m_gaps a1 b1 n3 ha1 hb1 hsb j1 gn m_gaps_j1 k6 hj6 hk6 hgn c_1 n_17 r_22 c_23 r_27 ik m_gaps_w k43 hk43 hik c_28 n_34 x_38 c_39) dX12_middle_92 (fun f_40 H locs hP hD hS => ?_)
                  have hP : va_P D vwCl [(h, .inr (12, mG q im)), (q 51, .inl (cZ, 1536, .inl m_hasMark)), (q 52, .inl (cI, 1536, .inl m_markAcross)), (q 53, .inl (cI, 1536, .inl m_markDeep)), (q 59, .inl (cI, 384, .inl f_40))] H := hP
                  have hD : va_D A [(h, .inr (12, mG q im)), (q 51, .inl (cZ, 1536, .inl m_hasMark)), (q 52, .inl (cI, 1536, .inl m_markAcross)), (q 53, .inl (cI, 1536, .inl m_markDeep)), (q 59, .inl (cI, 384, .inl f_40))] := hD
                  refine lv_iinc (v := nI (gn + 1)) (lv' := [(4, .int (nI (gn + 1))), (7, .int (nI ik)), (6, .int r_27), (5, .int (nI j1)), (0, .ref h), (1, .int (nI a1)), (2, .int (nI b1)), (3, .int n3)]) hx hb dX12_middle_93 hl (k := 3) rfl (nI_1 gn) (by decide) rfl (fun ls hl => ?_)
                  refine lv_iinc (v := nI (j1 + 1)) (lv' := [(5, .int (nI (j1 + 1))), (4, .int (nI (gn + 1))), (7, .int (nI ik)), (6, .int r_27), (0, .ref h), (1, .int (nI a1)), (2, .int (nI b1)), (3, .int n3)]) hx hb dX12_middle_96 hl (k := 3) rfl (nI_1 j1) (by decide) rfl (fun ls hl => ?_)
                  refine lv_goto (tgt := 6) hx hb dX12_middle_99 (by decide) ?_
                  exact ih6 (j1 + 1) (gn + 1) f_40 H locs ls (by omega) (by omega) (lf_X12_middle_42 h q im m_hasMark m_markAcross m_markDeep m_gaps a1 b1 n3 ha1 hb1 hsb j1 gn m_gaps_j1 k6 hj6 hk6 hgn c_1 n_17 r_22 c_23 r_27 ik m_gaps_w k43 hk43 hik c_28 n_34 x_38 c_39 f_40) (hP.sub [0, 1, 2, 3, 4] rfl) (hD.sub [0, 1, 2, 3, 4] (by decide) rfl) hS (lv_sub hl [0, 1, 4, 5, 6, 7] rfl)
                · refine lv_aload_n hx hb dX12_middle_62 rfl (lv_at hl 4 rfl) ?_
                  refine va_get (D := D) (ci := 12) (v := .ref (q 59)) (C := RX12) (T := TX12) (N := 81) hx hb hts inT_X12 hown hK.1 hP 0 rfl rfl 59 (by decide) (hts _ k_1412) (fun _ h9 => h9) rfl dX12_middle_63 ?_
                  refine lv_iload hx hb dX12_middle_66 (lv_at hl 0 rfl) ?_
                  refine lv_aload_n hx hb dX12_middle_68 rfl (lv_at hl 4 rfl) ?_
                  refine va_get (D := D) (ci := 12) (v := .ref (q 59)) (C := RX12) (T := TX12) (N := 81) hx hb hts inT_X12 hown hK.1 hP 0 rfl rfl 59 (by decide) (hts _ k_1412) (fun _ h9 => h9) rfl dX12_middle_69 ?_
                  refine lv_iload hx hb dX12_middle_72 (lv_at hl 0 rfl) ?_
                  refine lv_iconst (v := 1) hx hb dX12_middle_74 (by decide) ?_
                  refine lv_isub hx hb dX12_middle_75 ?_
                  refine lv_topv (y := nI (ik - 1)) (pk_sub (lf_X12_middle_43 h q im m_hasMark m_markAcross m_markDeep m_gaps a1 b1 n3 ha1 hb1 hsb j1 gn m_gaps_j1 k6 hj6 hk6 hgn c_1 n_17 r_22 c_23 r_27 ik m_gaps_w k43 hk43 hik c_28 n_34 x_38 c_39)) ?_
                  refine ld_i hx hb hK hP 4 rfl (lf_X12_middle_44 h q im m_hasMark m_markAcross m_markDeep m_gaps a1 b1 n3 ha1 hb1 hsb j1 gn m_gaps_j1 k6 hj6 hk6 hgn c_1 n_17 r_22 c_23 r_27 ik m_gaps_w k43 hk43 hik c_28 n_34 x_38 c_39) dX12_middle_76 (fun x_45 => ?_)
                  refine st_i hx hb hK hP hD hS 4 rfl (lf_X12_middle_47 h q im m_hasMark m_markAcross m_markDeep m_gaps a1 b1 n3 ha1 hb1 hsb j1 gn m_gaps_j1 k6 hj6 hk6 hgn c_1 n_17 r_22 c_23 r_27 ik m_gaps_w k43 hk43 hik c_28 n_34 x_38 c_39 x_45) dX12_middle_77 (fun f_46 H locs hP hD hS => ?_)
                  have hP : va_P D vwCl [(h, .inr (12, mG q im)), (q 51, .inl (cZ, 1536, .inl m_hasMark)), (q 52, .inl (cI, 1536, .inl m_markAcross)), (q 53, .inl (cI, 1536, .inl m_markDeep)), (q 59, .inl (cI, 384, .inl f_46))] H := hP
                  have hD : va_D A [(h, .inr (12, mG q im)), (q 51, .inl (cZ, 1536, .inl m_hasMark)), (q 52, .inl (cI, 1536, .inl m_markAcross)), (q 53, .inl (cI, 1536, .inl m_markDeep)), (q 59, .inl (cI, 384, .inl f_46))] := hD
                  refine lv_iinc (v := nI (ik - 1)) (lv' := [(7, .int (nI (ik - 1))), (6, .int r_27), (5, .int (nI j1)), (4, .int (nI gn)), (0, .ref h), (1, .int (nI a1)), (2, .int (nI b1)), (3, .int n3)]) hx hb dX12_middle_78 hl (k := 0) rfl (nI_dec (lf_X12_middle_48 h q im m_hasMark m_markAcross m_markDeep m_gaps a1 b1 n3 ha1 hb1 hsb j1 gn m_gaps_j1 k6 hj6 hk6 hgn c_1 n_17 r_22 c_23 r_27 ik m_gaps_w k43 hk43 hik c_28 n_34 x_38 c_39 x_45 f_46)) (by decide) rfl (fun ls hl => ?_)
                  refine lv_goto (tgt := 43) hx hb dX12_middle_81 (by decide) ?_
                  exact ih43 (ik - 1) f_46 H locs ls (lf_X12_middle_50 h q im m_hasMark m_markAcross m_markDeep m_gaps a1 b1 n3 ha1 hb1 hsb j1 gn m_gaps_j1 k6 hj6 hk6 hgn c_1 n_17 r_22 c_23 r_27 ik m_gaps_w k43 hk43 hik c_28 n_34 x_38 c_39 x_45 f_46) (lf_X12_middle_49 h q im m_hasMark m_markAcross m_markDeep m_gaps a1 b1 n3 ha1 hb1 hsb j1 gn m_gaps_j1 k6 hj6 hk6 hgn c_1 n_17 r_22 c_23 r_27 ik m_gaps_w k43 hk43 hik c_28 n_34 x_38 c_39 x_45 f_46) (hP.sub [0, 1, 2, 3, 4] rfl) (hD.sub [0, 1, 2, 3, 4] (by decide) rfl) hS (lv_sub hl [0, 1, 2, 3, 4, 5, 6, 7] rfl)
          exact lp43 (385) gn m_gaps_j1 H locs ls (lf_X12_middle_52 h q im m_hasMark m_markAcross m_markDeep m_gaps a1 b1 n3 ha1 hb1 hsb j1 gn m_gaps_j1 k6 hj6 hk6 hgn c_1 n_17 r_22 c_23 r_27) (lf_X12_middle_51 h q im m_hasMark m_markAcross m_markDeep m_gaps a1 b1 n3 ha1 hb1 hsb j1 gn m_gaps_j1 k6 hj6 hk6 hgn c_1 n_17 r_22 c_23 r_27) (hP.sub [0, 1, 2, 3, 4] rfl) (hD.sub [0, 1, 2, 3, 4] (by decide) rfl) hS (lv_sub hl [0, 1, 2, 3, 4, 5, 6, 7] rfl)
        · refine lv_goto (tgt := 96) hx hb dX12_middle_25 (by decide) ?_
          refine lv_iinc (v := nI (j1 + 1)) (lv' := [(5, .int (nI (j1 + 1))), (4, .int (nI gn)), (0, .ref h), (1, .int (nI a1)), (2, .int (nI b1)), (3, .int n3)]) hx hb dX12_middle_96 hl (k := 0) rfl (nI_1 j1) (by decide) rfl (fun ls hl => ?_)
          refine lv_goto (tgt := 6) hx hb dX12_middle_99 (by decide) ?_
          exact ih6 (j1 + 1) gn m_gaps_j1 H locs ls (by omega) (by omega) (lf_X12_middle_53 h q im m_hasMark m_markAcross m_markDeep m_gaps a1 b1 n3 ha1 hb1 hsb j1 gn m_gaps_j1 k6 hj6 hk6 hgn c_1 n_17 r_22 c_23) (hP.sub [0, 1, 2, 3, 4] rfl) (hD.sub [0, 1, 2, 3, 4] (by decide) rfl) hS (lv_sub hl [0, 1, 2, 3, 4, 5] rfl)
  exact lp6 (384 + 1) 0 0 m_gaps H locs ls (by omega) (by omega) (lf_X12_middle_54 h q im m_hasMark m_markAcross m_markDeep m_gaps a1 b1 n3 ha1 hb1 hsb) (hP.sub [0, 1, 2, 3, 4] rfl) (hD.sub [0, 1, 2, 3, 4] (by decide) rfl) hS (lv_sub hl [0, 1, 2, 3, 4, 5] rfl)

theorem lf_X12_leftBy_3 (h : Nat) (q : Nat → Nat) (im : Nat → Int32) (bn : Nat) (m_gaps : Nat → Int32) (n1 : Int32) (hf_bn : im 54 = nI bn) (hbn : bn ≤ 384) (j1 : Nat) (w1 : Int32) (k4 : Nat) (hj4 : j1 ≤ bn) (hk4 : bn < j1 + (k4 + 1)) (c_1 : nI bn ≤ nI j1) : bn ≤ j1 := by
  exact (nI_leI (a := bn) (b := j1) (by omega) (by omega)).mp c_1
theorem lf_X12_leftBy_5 (h : Nat) (q : Nat → Nat) (im : Nat → Int32) (bn : Nat) (m_gaps : Nat → Int32) (n1 : Int32) (hf_bn : im 54 = nI bn) (hbn : bn ≤ 384) (j1 : Nat) (w1 : Int32) (k4 : Nat) (hj4 : j1 ≤ bn) (hk4 : bn < j1 + (k4 + 1)) (c_1 : ¬ nI bn ≤ nI j1) : j1 < bn := by
  exact Nat.lt_of_not_le (fun q => c_1 ((nI_leI (a := bn) (b := j1) (by omega) (by omega)).mpr q))
theorem lf_X12_leftBy_6 (h : Nat) (q : Nat → Nat) (im : Nat → Int32) (bn : Nat) (m_gaps : Nat → Int32) (n1 : Int32) (hf_bn : im 54 = nI bn) (hbn : bn ≤ 384) (j1 : Nat) (w1 : Int32) (k4 : Nat) (hj4 : j1 ≤ bn) (hk4 : bn < j1 + (k4 + 1)) (c_1 : ¬ nI bn ≤ nI j1) (n_4 : j1 < bn) : vp_in (nI j1) 384 := by
  first | exact vp_in_nI (by omega) (by decide) | (unfold vp_in; decide)
set_option maxHeartbeats 4000000 in
set_option maxRecDepth 100000 in
theorem c_X12_leftBy (l : Launch) (D : va_G) (cI cB cZ cJ : ClassId) (tx : List (ClassId × FieldType)) (h : Nat) (q : Nat → Nat) (im : Nat → Int32) (bn : Nat) (m_gaps : Nat → Int32) (n1 : Int32) (hf_bn : im 54 = nI bn) (hbn : bn ≤ 384) : RdI l D cI cB cZ cJ tx yX12_leftBy cX12_leftBy 4 (some .int) 1 [.ref h, .int n1] [(h, .inr (12, mG q im)), (q 59, .inl (cI, 384, .inl m_gaps))] (fun r => True) := by
  refine rdi_of2 (by decide) (Nat.le_of_ble_eq_true rfl) ?_
  intro p e s m below meth c A ls H locs hC hK hP hD hA hS hl
  obtain ⟨hx, hb, hr, hml, hown, hts, hlocks, hin⟩ := hC
  have hown : s.vm.findClass RX12 = some m.cls := hown
  have hl : lv_has ls 4 [(0, .ref h), (1, .int n1)] := hl
  refine lv_iconst (v := 0) hx hb dX12_leftBy_0 (by decide) ?_
  refine lv_istore_n (lv' := [(2, .int 0), (0, .ref h), (1, .int n1)]) hx hb dX12_leftBy_1 rfl hl (by decide) rfl (fun ls hl => ?_)
  refine lv_iconst (v := 0) hx hb dX12_leftBy_2 (by decide) ?_
  refine lv_istore_n (lv' := [(3, .int 0), (2, .int 0), (0, .ref h), (1, .int n1)]) hx hb dX12_leftBy_3 rfl hl (by decide) rfl (fun ls hl => ?_)
  have lp4 : ∀ (k4 : Nat) (j1 : Nat) (w1 : Int32) (H : Heap) (locs : List Loc) (ls : Array Slot), j1 ≤ bn → bn < j1 + k4 → va_P D vwCl [(h, .inr (12, mG q im)), (q 59, .inl (cI, 384, .inl m_gaps))] H → va_S A s.heap H locs → lv_has ls 4 [(3, .int (nI j1)), (2, .int w1), (0, .ref h), (1, .int n1)] → W p l e (rmX 1 0 0) s m ([.ref h, .int n1] : List Value).toArray below meth c H locs 0 0 (MQ below (va_Qi (fun r (_ : Unit) => (fun r => True) r) (fun _ _ => True) A) ([.ref h, .int n1] : List Value).toArray s 0 0 A) (F0 m 4 ls []) := by
    intro k4
    induction k4 with
    | zero =>
      intro j1 w1 H locs ls hj4 hk4  hP hS hl
      exact absurd hk4 (by omega)
    | succ k4 ih4 =>
      intro j1 w1 H locs ls hj4 hk4  hP hS hl
      refine lv_iload_n hx hb dX12_leftBy_4 rfl (lv_at hl 0 rfl) ?_
      refine lv_aload_n hx hb dX12_leftBy_5 rfl (lv_at hl 2 rfl) ?_
      refine va_get (D := D) (ci := 12) (v := .int (im 54)) (C := RX12) (T := TX12) (N := 81) hx hb hts inT_X12 hown hK.1 hP 0 rfl rfl 54 (by decide) (hts _ k_1407) (fun _ h9 => h9) rfl dX12_leftBy_6 ?_
      refine lv_topv (y := nI bn) hf_bn ?_
      refine lv_icmp_ge (tgt := 32) hx hb dX12_leftBy_9 (by decide) (fun c_1 => ?_) (fun c_1 => ?_)
      · have n_2 : bn ≤ j1 := (lf_X12_leftBy_3 h q im bn m_gaps n1 hf_bn hbn j1 w1 k4 hj4 hk4 c_1)
        refine lv_iload_n hx hb dX12_leftBy_32 rfl (lv_at hl 1 rfl) ?_
        exact W.iret (v := w1) hx hb hr (fun tt9 ht hW => ⟨⟨(w1 : Int32), (), rfl, trivial, trivial⟩, hS.F ht⟩) hS.2.2 dX12_leftBy_33 hlocks
      · have n_4 : j1 < bn := (lf_X12_leftBy_5 h q im bn m_gaps n1 hf_bn hbn j1 w1 k4 hj4 hk4 c_1)
        refine lv_iload_n hx hb dX12_leftBy_12 rfl (lv_at hl 1 rfl) ?_
        refine lv_aload_n hx hb dX12_leftBy_13 rfl (lv_at hl 2 rfl) ?_
        refine va_get (D := D) (ci := 12) (v := .ref (q 59)) (C := RX12) (T := TX12) (N := 81) hx hb hts inT_X12 hown hK.1 hP 0 rfl rfl 59 (by decide) (hts _ k_1412) (fun _ h9 => h9) rfl dX12_leftBy_14 ?_
        refine lv_iload_n hx hb dX12_leftBy_17 rfl (lv_at hl 0 rfl) ?_
        refine ld_i hx hb hK hP 1 rfl (lf_X12_leftBy_6 h q im bn m_gaps n1 hf_bn hbn j1 w1 k4 hj4 hk4 c_1 n_4) dX12_leftBy_18 (fun x_7 => ?_)
        refine lv_iload_n hx hb dX12_leftBy_19 rfl (lv_at hl 3 rfl) ?_
        refine lv_isub hx hb dX12_leftBy_20 ?_
        refine lv_topi (fun x_8 ex_8 => ?_)
        refine eRi (va_runS (As := [.int x_8]) (rest := [.int w1]) ⟨hx, hb, hml, hown, hts⟩ (c_X12_plain l D cI cB cZ cJ tx x_8 H.size) (zS hts k_1895 v_X12_plain ⟨Nat.le_of_ble_eq_true rfl, Nat.le_of_ble_eq_true rfl⟩) (px0 hK) rfl rfl hl.1 rfl (lv_room (Nat.le_of_ble_eq_true rfl)) dX12_leftBy_21 ⟨Nat.le_of_ble_eq_true rfl, Nat.le_of_ble_eq_true rfl⟩) hP hS hA (fun r_9 H locs wr_9 hP hS => ?_)
        refine lv_iadd hx hb dX12_leftBy_24 ?_
        refine lv_topi (fun x_10 ex_10 => ?_)
        refine lv_istore_n (lv' := [(2, .int x_10), (3, .int (nI j1)), (0, .ref h), (1, .int n1)]) hx hb dX12_leftBy_25 rfl hl (by decide) rfl (fun ls hl => ?_)
        refine lv_iinc (v := nI (j1 + 1)) (lv' := [(3, .int (nI (j1 + 1))), (2, .int x_10), (0, .ref h), (1, .int n1)]) hx hb dX12_leftBy_26 hl (k := 1) rfl (nI_1 j1) (by decide) rfl (fun ls hl => ?_)
        refine lv_goto (tgt := 4) hx hb dX12_leftBy_29 (by decide) ?_
        exact ih4 (j1 + 1) x_10 H locs ls (by omega) (by omega)  (hP.sub [0, 1] rfl)  hS (lv_sub hl [0, 1, 2, 3] rfl)
  exact lp4 (bn + 1) 0 0 H locs ls (by omega) (by omega)  (hP.sub [0, 1] rfl)  hS (lv_sub hl [0, 1, 2, 3] rfl)

theorem lf_X12_joinsBoth_1 (h : Nat) (q : Nat → Nat) (im : Nat → Int32) (m_hasMark : Nat → Int32) (m_markAcross : Nat → Int32) (m_markDeep : Nat → Int32) (m_gaps : Nat → Int32) (a1 : Nat) (b1 : Nat) (ha1 : a1 < 4) (hb1 : b1 < 4) (hsb : SB [54, 55, 56, 57, 58] im im) : a1 < 4 := by
  first | assumption | omega | decide | rfl
theorem lf_X12_joinsBoth_2 (h : Nat) (q : Nat → Nat) (im : Nat → Int32) (m_hasMark : Nat → Int32) (m_markAcross : Nat → Int32) (m_markDeep : Nat → Int32) (m_gaps : Nat → Int32) (a1 : Nat) (b1 : Nat) (ha1 : a1 < 4) (hb1 : b1 < 4) (hsb : SB [54, 55, 56, 57, 58] im im) : b1 < 4 := by
  first | assumption | omega | decide | rfl
theorem lf_X12_joinsBoth_6 (h : Nat) (q : Nat → Nat) (im : Nat → Int32) (m_hasMark : Nat → Int32) (m_markAcross : Nat → Int32) (m_markDeep : Nat → Int32) (m_gaps : Nat → Int32) (a1 : Nat) (b1 : Nat) (ha1 : a1 < 4) (hb1 : b1 < 4) (im_4 : Nat → Int32) (bn_4 : Nat) (m_gaps_4 : Nat → Int32) (hz_4_0 : SB [54] im im_4) (hz_4_1 : im_4 54 = nI bn_4) (hz_4_2 : bn_4 ≤ 384) (r_3 : Int32) (i_5 : Nat → Int32) (hsb : SB [54, 55, 56, 57, 58] im i_5) : bn_4 ≤ 384 := by
  first | assumption | omega | decide | rfl
theorem lf_X12_joinsBoth_9 (h : Nat) (q : Nat → Nat) (im : Nat → Int32) (m_hasMark : Nat → Int32) (m_markAcross : Nat → Int32) (m_markDeep : Nat → Int32) (m_gaps : Nat → Int32) (a1 : Nat) (b1 : Nat) (ha1 : a1 < 4) (hb1 : b1 < 4) (im_4 : Nat → Int32) (bn_4 : Nat) (m_gaps_4 : Nat → Int32) (hz_4_0 : SB [54] im im_4) (hz_4_1 : im_4 54 = nI bn_4) (hz_4_2 : bn_4 ≤ 384) (r_3 : Int32) (i_5 : Nat → Int32) (r_7 : Int32) (i_8 : Nat → Int32) (hsb : SB [54, 55, 56, 57, 58] im i_8) : a1 < 4 := by
  first | assumption | omega | decide | rfl
theorem lf_X12_joinsBoth_10 (h : Nat) (q : Nat → Nat) (im : Nat → Int32) (m_hasMark : Nat → Int32) (m_markAcross : Nat → Int32) (m_markDeep : Nat → Int32) (m_gaps : Nat → Int32) (a1 : Nat) (b1 : Nat) (ha1 : a1 < 4) (hb1 : b1 < 4) (im_4 : Nat → Int32) (bn_4 : Nat) (m_gaps_4 : Nat → Int32) (hz_4_0 : SB [54] im im_4) (hz_4_1 : im_4 54 = nI bn_4) (hz_4_2 : bn_4 ≤ 384) (r_3 : Int32) (i_5 : Nat → Int32) (r_7 : Int32) (i_8 : Nat → Int32) (hsb : SB [54, 55, 56, 57, 58] im i_8) : b1 < 4 := by
  first | assumption | omega | decide | rfl
theorem lf_X12_joinsBoth_14 (h : Nat) (q : Nat → Nat) (im : Nat → Int32) (m_hasMark : Nat → Int32) (m_markAcross : Nat → Int32) (m_markDeep : Nat → Int32) (m_gaps : Nat → Int32) (a1 : Nat) (b1 : Nat) (ha1 : a1 < 4) (hb1 : b1 < 4) (im_4 : Nat → Int32) (bn_4 : Nat) (m_gaps_4 : Nat → Int32) (hz_4_0 : SB [54] im im_4) (hz_4_1 : im_4 54 = nI bn_4) (hz_4_2 : bn_4 ≤ 384) (r_3 : Int32) (i_5 : Nat → Int32) (r_7 : Int32) (i_8 : Nat → Int32) (im_12 : Nat → Int32) (bn_12 : Nat) (m_gaps_12 : Nat → Int32) (hz_12_0 : SB [54] i_8 im_12) (hz_12_1 : im_12 54 = nI bn_12) (hz_12_2 : bn_12 ≤ 384) (r_11 : Int32) (i_13 : Nat → Int32) (hsb : SB [54, 55, 56, 57, 58] im i_13) : bn_12 ≤ 384 := by
  first | assumption | omega | decide | rfl
theorem lf_X12_joinsBoth_17 (h : Nat) (q : Nat → Nat) (im : Nat → Int32) (m_hasMark : Nat → Int32) (m_markAcross : Nat → Int32) (m_markDeep : Nat → Int32) (m_gaps : Nat → Int32) (a1 : Nat) (b1 : Nat) (ha1 : a1 < 4) (hb1 : b1 < 4) (im_4 : Nat → Int32) (bn_4 : Nat) (m_gaps_4 : Nat → Int32) (hz_4_0 : SB [54] im im_4) (hz_4_1 : im_4 54 = nI bn_4) (hz_4_2 : bn_4 ≤ 384) (r_3 : Int32) (i_5 : Nat → Int32) (r_7 : Int32) (i_8 : Nat → Int32) (im_12 : Nat → Int32) (bn_12 : Nat) (m_gaps_12 : Nat → Int32) (hz_12_0 : SB [54] i_8 im_12) (hz_12_1 : im_12 54 = nI bn_12) (hz_12_2 : bn_12 ≤ 384) (r_11 : Int32) (i_13 : Nat → Int32) (r_15 : Int32) (i_16 : Nat → Int32) (hsb : SB [54, 55, 56, 57, 58] im i_16) (hi_16_55 : i_16 55 = r_3) (hi_16_57 : i_16 57 = r_7) (hi_16_54 : i_16 54 = nI bn_12) (hi_16_56 : i_16 56 = r_11) (hi_16_58 : i_16 58 = r_15) : (SB [54, 55, 56, 57, 58] im (i_16 : Nat → Int32)) ∧ ((i_16 : Nat → Int32) 54 = nI (bn_12 : Nat)) ∧ ((bn_12 : Nat) ≤ 384) := by
  repeat' apply And.intro
  all_goals first | assumption | omega | rfl | trivial
set_option maxHeartbeats 4000000 in
set_option maxRecDepth 100000 in
theorem c_X12_joinsBoth (l : Launch) (D : va_G) (cI cB cZ cJ : ClassId) (tx : List (ClassId × FieldType)) (h : Nat) (q : Nat → Nat) (im : Nat → Int32) (m_hasMark : Nat → Int32) (m_markAcross : Nat → Int32) (m_markDeep : Nat → Int32) (m_gaps : Nat → Int32) (a1 : Nat) (b1 : Nat) (ha1 : a1 < 4) (hb1 : b1 < 4) : WrV l D cI cB cZ cJ tx yX12_joinsBoth cX12_joinsBoth 3 none 2 0 0 [.ref h, .int (nI a1), .int (nI b1)] [(h, .inr (12, mG q im)), (q 51, .inl (cZ, 1536, .inl m_hasMark)), (q 52, .inl (cI, 1536, .inl m_markAcross)), (q 53, .inl (cI, 1536, .inl m_markDeep)), (q 59, .inl (cI, 384, .inl m_gaps))] (fun (v : (Nat → Int32) × (Nat) × (Nat → Int32)) => (SB [54, 55, 56, 57, 58] im v.1) ∧ (v.1 54 = nI v.2.1) ∧ (v.2.1 ≤ 384)) (fun v => [(h, .inr (12, mG q v.1)), (q 51, .inl (cZ, 1536, .inl m_hasMark)), (q 52, .inl (cI, 1536, .inl m_markAcross)), (q 53, .inl (cI, 1536, .inl m_markDeep)), (q 59, .inl (cI, 384, .inl v.2.2))]) := by
  refine wrv_of2 (by decide) (Nat.le_of_ble_eq_true rfl) ?_
  intro p e s m below meth c A ls H locs hC hK hP hD hA hS hl
  obtain ⟨hx, hb, hr, hml, hown, hts, hlocks, hin⟩ := hC
  have hown : s.vm.findClass RX12 = some m.cls := hown
  have hl : lv_has ls 3 [(0, .ref h), (1, .int (nI a1)), (2, .int (nI b1))] := hl
  have hsb : SB [54, 55, 56, 57, 58] im im := SB.rf
  refine lv_aload_n hx hb dX12_joinsBoth_0 rfl (lv_at hl 0 rfl) ?_
  refine lv_aload_n hx hb dX12_joinsBoth_1 rfl (lv_at hl 0 rfl) ?_
  refine lv_iload_n hx hb dX12_joinsBoth_2 rfl (lv_at hl 1 rfl) ?_
  refine lv_iload_n hx hb dX12_joinsBoth_3 rfl (lv_at hl 2 rfl) ?_
  refine lv_iconst (v := 1) hx hb dX12_joinsBoth_4 (by decide) ?_
  refine eWi (wr := []) (va_runV (As := [.int (nI a1), .int (nI b1), .int 1]) (rest := [.ref h]) ⟨hx, hb, hml, hown, hts⟩ (c_X12_middle l D cI cB cZ cJ tx h q im m_hasMark m_markAcross m_markDeep m_gaps a1 b1 1 (lf_X12_joinsBoth_1 h q im m_hasMark m_markAcross m_markDeep m_gaps a1 b1 ha1 hb1 hsb) (lf_X12_joinsBoth_2 h q im m_hasMark m_markAcross m_markDeep m_gaps a1 b1 ha1 hb1 hsb) H.size) (zV hts k_1879 v_X12_middle ⟨Nat.le_of_ble_eq_true rfl, Nat.le_of_ble_eq_true rfl⟩) (pV (pxS hK hP hD [0, 1, 2, 3, 4] (by decide) rfl) hK hP 0 rfl rfl) rfl rfl hl.1 rfl (lv_room (Nat.le_of_ble_eq_true rfl)) dX12_joinsBoth_5 ⟨Nat.le_of_ble_eq_true rfl, Nat.le_of_ble_eq_true rfl⟩) hP hD hS hA [0, 1, 2, 3, 4] [] rfl rfl (by decide) (by decide) (fun r_3 u_4 H locs wr_3 hP hD hS => ?_)
  obtain ⟨im_4, bn_4, m_gaps_4⟩ := u_4
  have hz_4_0 : SB [54] im im_4 := wr_3.1
  have hz_4_1 : im_4 54 = nI bn_4 := wr_3.2.1
  have hz_4_2 : bn_4 ≤ 384 := wr_3.2.2
  have hsb := SB.step hsb hz_4_0 (by decide)
  have hP : va_P D vwCl [(h, .inr (12, mG q im_4)), (q 51, .inl (cZ, 1536, .inl m_hasMark)), (q 52, .inl (cI, 1536, .inl m_markAcross)), (q 53, .inl (cI, 1536, .inl m_markDeep)), (q 59, .inl (cI, 384, .inl m_gaps_4))] H := hP
  have hD : va_D A [(h, .inr (12, mG q im_4)), (q 51, .inl (cZ, 1536, .inl m_hasMark)), (q 52, .inl (cI, 1536, .inl m_markAcross)), (q 53, .inl (cI, 1536, .inl m_markDeep)), (q 59, .inl (cI, 384, .inl m_gaps_4))] := hD
  refine va_put (D := D) (ci := 12) (v := .int r_3) (ty := .int) (C := RX12) (T := TX12) (N := 81) hx hb hts inT_X12 tyX12 tyX12_ok nmX12 hown hK.1 hP hD hS 0 rfl rfl 55 (by decide) (hts _ k_1408) (fun _ h9 => h9) rfl (by decide +kernel) rfl rfl (Nat.le_of_ble_eq_true rfl) dX12_joinsBoth_8 (fun H locs hP hD hS => ?_)
  obtain ⟨i_5, ei_5⟩ : ∃ z : Nat → Int32, z = upd im_4 55 r_3 := ⟨_, rfl⟩
  have hi_5_54 : i_5 54 = nI bn_4 := by rw [ei_5]; exact hz_4_1
  have hi_5_55 : i_5 55 = r_3 := by rw [ei_5]; rfl
  have hsb := SB.put hsb ei_5 (by decide)
  have hP : va_P D vwCl [(h, .inr (12, mG q i_5)), (q 51, .inl (cZ, 1536, .inl m_hasMark)), (q 52, .inl (cI, 1536, .inl m_markAcross)), (q 53, .inl (cI, 1536, .inl m_markDeep)), (q 59, .inl (cI, 384, .inl m_gaps_4))] H := by rw [ei_5, ← mG_55]; exact hP
  have hD : va_D A [(h, .inr (12, mG q i_5)), (q 51, .inl (cZ, 1536, .inl m_hasMark)), (q 52, .inl (cI, 1536, .inl m_markAcross)), (q 53, .inl (cI, 1536, .inl m_markDeep)), (q 59, .inl (cI, 384, .inl m_gaps_4))] := by rw [ei_5, ← mG_55]; exact hD
  refine lv_aload_n hx hb dX12_joinsBoth_11 rfl (lv_at hl 0 rfl) ?_
  refine lv_aload_n hx hb dX12_joinsBoth_12 rfl (lv_at hl 0 rfl) ?_
  refine lv_aload_n hx hb dX12_joinsBoth_13 rfl (lv_at hl 0 rfl) ?_
  refine va_get (D := D) (ci := 12) (v := .int (i_5 55)) (C := RX12) (T := TX12) (N := 81) hx hb hts inT_X12 hown hK.1 hP 0 rfl rfl 55 (by decide) (hts _ k_1408) (fun _ h9 => h9) rfl dX12_joinsBoth_14 ?_
  refine lv_topv (y := r_3) hi_5_55 ?_
  refine eRi (va_runV (As := [.int r_3]) (rest := [.ref h]) ⟨hx, hb, hml, hown, hts⟩ (c_X12_leftBy l D cI cB cZ cJ tx h q i_5 bn_4 m_gaps_4 r_3 hi_5_54 (lf_X12_joinsBoth_6 h q im m_hasMark m_markAcross m_markDeep m_gaps a1 b1 ha1 hb1 im_4 bn_4 m_gaps_4 hz_4_0 hz_4_1 hz_4_2 r_3 i_5 hsb) H.size) (zV hts k_1891 v_X12_leftBy ⟨Nat.le_of_ble_eq_true rfl, Nat.le_of_ble_eq_true rfl⟩) (pV (pxS hK hP hD [0, 4] (by decide) rfl) hK hP 0 rfl rfl) rfl rfl hl.1 rfl (lv_room (Nat.le_of_ble_eq_true rfl)) dX12_joinsBoth_17 ⟨Nat.le_of_ble_eq_true rfl, Nat.le_of_ble_eq_true rfl⟩) hP hS hA (fun r_7 H locs wr_7 hP hS => ?_)
  refine va_put (D := D) (ci := 12) (v := .int r_7) (ty := .int) (C := RX12) (T := TX12) (N := 81) hx hb hts inT_X12 tyX12 tyX12_ok nmX12 hown hK.1 hP hD hS 0 rfl rfl 57 (by decide) (hts _ k_1410) (fun _ h9 => h9) rfl (by decide +kernel) rfl rfl (Nat.le_of_ble_eq_true rfl) dX12_joinsBoth_20 (fun H locs hP hD hS => ?_)
  obtain ⟨i_8, ei_8⟩ : ∃ z : Nat → Int32, z = upd i_5 57 r_7 := ⟨_, rfl⟩
  have hi_8_54 : i_8 54 = nI bn_4 := by rw [ei_8]; exact hi_5_54
  have hi_8_55 : i_8 55 = r_3 := by rw [ei_8]; exact hi_5_55
  have hi_8_57 : i_8 57 = r_7 := by rw [ei_8]; rfl
  have hsb := SB.put hsb ei_8 (by decide)
  have hP : va_P D vwCl [(h, .inr (12, mG q i_8)), (q 51, .inl (cZ, 1536, .inl m_hasMark)), (q 52, .inl (cI, 1536, .inl m_markAcross)), (q 53, .inl (cI, 1536, .inl m_markDeep)), (q 59, .inl (cI, 384, .inl m_gaps_4))] H := by rw [ei_8, ← mG_57]; exact hP
  have hD : va_D A [(h, .inr (12, mG q i_8)), (q 51, .inl (cZ, 1536, .inl m_hasMark)), (q 52, .inl (cI, 1536, .inl m_markAcross)), (q 53, .inl (cI, 1536, .inl m_markDeep)), (q 59, .inl (cI, 384, .inl m_gaps_4))] := by rw [ei_8, ← mG_57]; exact hD
  refine lv_aload_n hx hb dX12_joinsBoth_23 rfl (lv_at hl 0 rfl) ?_
  refine lv_aload_n hx hb dX12_joinsBoth_24 rfl (lv_at hl 0 rfl) ?_
  refine lv_iload_n hx hb dX12_joinsBoth_25 rfl (lv_at hl 1 rfl) ?_
  refine lv_iload_n hx hb dX12_joinsBoth_26 rfl (lv_at hl 2 rfl) ?_
  refine lv_iconst (v := 0) hx hb dX12_joinsBoth_27 (by decide) ?_
  refine eWi (wr := []) (va_runV (As := [.int (nI a1), .int (nI b1), .int 0]) (rest := [.ref h]) ⟨hx, hb, hml, hown, hts⟩ (c_X12_middle l D cI cB cZ cJ tx h q i_8 m_hasMark m_markAcross m_markDeep m_gaps_4 a1 b1 0 (lf_X12_joinsBoth_9 h q im m_hasMark m_markAcross m_markDeep m_gaps a1 b1 ha1 hb1 im_4 bn_4 m_gaps_4 hz_4_0 hz_4_1 hz_4_2 r_3 i_5 r_7 i_8 hsb) (lf_X12_joinsBoth_10 h q im m_hasMark m_markAcross m_markDeep m_gaps a1 b1 ha1 hb1 im_4 bn_4 m_gaps_4 hz_4_0 hz_4_1 hz_4_2 r_3 i_5 r_7 i_8 hsb) H.size) (zV hts k_1879 v_X12_middle ⟨Nat.le_of_ble_eq_true rfl, Nat.le_of_ble_eq_true rfl⟩) (pV (pxS hK hP hD [0, 1, 2, 3, 4] (by decide) rfl) hK hP 0 rfl rfl) rfl rfl hl.1 rfl (lv_room (Nat.le_of_ble_eq_true rfl)) dX12_joinsBoth_28 ⟨Nat.le_of_ble_eq_true rfl, Nat.le_of_ble_eq_true rfl⟩) hP hD hS hA [0, 1, 2, 3, 4] [] rfl rfl (by decide) (by decide) (fun r_11 u_12 H locs wr_11 hP hD hS => ?_)
  obtain ⟨im_12, bn_12, m_gaps_12⟩ := u_12
  have hz_12_0 : SB [54] i_8 im_12 := wr_11.1
  have hz_12_1 : im_12 54 = nI bn_12 := wr_11.2.1
  have hz_12_2 : bn_12 ≤ 384 := wr_11.2.2
  have hk_12_55 : im_12 55 = r_3 := (hz_12_0 55 (by decide)).trans hi_8_55
  have hk_12_57 : im_12 57 = r_7 := (hz_12_0 57 (by decide)).trans hi_8_57
  have hsb := SB.step hsb hz_12_0 (by decide)
  have hP : va_P D vwCl [(h, .inr (12, mG q im_12)), (q 51, .inl (cZ, 1536, .inl m_hasMark)), (q 52, .inl (cI, 1536, .inl m_markAcross)), (q 53, .inl (cI, 1536, .inl m_markDeep)), (q 59, .inl (cI, 384, .inl m_gaps_12))] H := hP
  have hD : va_D A [(h, .inr (12, mG q im_12)), (q 51, .inl (cZ, 1536, .inl m_hasMark)), (q 52, .inl (cI, 1536, .inl m_markAcross)), (q 53, .inl (cI, 1536, .inl m_markDeep)), (q 59, .inl (cI, 384, .inl m_gaps_12))] := hD
  refine va_put (D := D) (ci := 12) (v := .int r_11) (ty := .int) (C := RX12) (T := TX12) (N := 81) hx hb hts inT_X12 tyX12 tyX12_ok nmX12 hown hK.1 hP hD hS 0 rfl rfl 56 (by decide) (hts _ k_1409) (fun _ h9 => h9) rfl (by decide +kernel) rfl rfl (Nat.le_of_ble_eq_true rfl) dX12_joinsBoth_31 (fun H locs hP hD hS => ?_)
  obtain ⟨i_13, ei_13⟩ : ∃ z : Nat → Int32, z = upd im_12 56 r_11 := ⟨_, rfl⟩
  have hi_13_55 : i_13 55 = r_3 := by rw [ei_13]; exact hk_12_55
  have hi_13_57 : i_13 57 = r_7 := by rw [ei_13]; exact hk_12_57
  have hi_13_54 : i_13 54 = nI bn_12 := by rw [ei_13]; exact hz_12_1
  have hi_13_56 : i_13 56 = r_11 := by rw [ei_13]; rfl
  have hsb := SB.put hsb ei_13 (by decide)
  have hP : va_P D vwCl [(h, .inr (12, mG q i_13)), (q 51, .inl (cZ, 1536, .inl m_hasMark)), (q 52, .inl (cI, 1536, .inl m_markAcross)), (q 53, .inl (cI, 1536, .inl m_markDeep)), (q 59, .inl (cI, 384, .inl m_gaps_12))] H := by rw [ei_13, ← mG_56]; exact hP
  have hD : va_D A [(h, .inr (12, mG q i_13)), (q 51, .inl (cZ, 1536, .inl m_hasMark)), (q 52, .inl (cI, 1536, .inl m_markAcross)), (q 53, .inl (cI, 1536, .inl m_markDeep)), (q 59, .inl (cI, 384, .inl m_gaps_12))] := by rw [ei_13, ← mG_56]; exact hD
  refine lv_aload_n hx hb dX12_joinsBoth_34 rfl (lv_at hl 0 rfl) ?_
  refine lv_aload_n hx hb dX12_joinsBoth_35 rfl (lv_at hl 0 rfl) ?_
  refine lv_aload_n hx hb dX12_joinsBoth_36 rfl (lv_at hl 0 rfl) ?_
  refine va_get (D := D) (ci := 12) (v := .int (i_13 56)) (C := RX12) (T := TX12) (N := 81) hx hb hts inT_X12 hown hK.1 hP 0 rfl rfl 56 (by decide) (hts _ k_1409) (fun _ h9 => h9) rfl dX12_joinsBoth_37 ?_
  refine lv_topv (y := r_11) hi_13_56 ?_
  refine eRi (va_runV (As := [.int r_11]) (rest := [.ref h]) ⟨hx, hb, hml, hown, hts⟩ (c_X12_leftBy l D cI cB cZ cJ tx h q i_13 bn_12 m_gaps_12 r_11 hi_13_54 (lf_X12_joinsBoth_14 h q im m_hasMark m_markAcross m_markDeep m_gaps a1 b1 ha1 hb1 im_4 bn_4 m_gaps_4 hz_4_0 hz_4_1 hz_4_2 r_3 i_5 r_7 i_8 im_12 bn_12 m_gaps_12 hz_12_0 hz_12_1 hz_12_2 r_11 i_13 hsb) H.size) (zV hts k_1891 v_X12_leftBy ⟨Nat.le_of_ble_eq_true rfl, Nat.le_of_ble_eq_true rfl⟩) (pV (pxS hK hP hD [0, 4] (by decide) rfl) hK hP 0 rfl rfl) rfl rfl hl.1 rfl (lv_room (Nat.le_of_ble_eq_true rfl)) dX12_joinsBoth_40 ⟨Nat.le_of_ble_eq_true rfl, Nat.le_of_ble_eq_true rfl⟩) hP hS hA (fun r_15 H locs wr_15 hP hS => ?_)
  refine va_put (D := D) (ci := 12) (v := .int r_15) (ty := .int) (C := RX12) (T := TX12) (N := 81) hx hb hts inT_X12 tyX12 tyX12_ok nmX12 hown hK.1 hP hD hS 0 rfl rfl 58 (by decide) (hts _ k_1411) (fun _ h9 => h9) rfl (by decide +kernel) rfl rfl (Nat.le_of_ble_eq_true rfl) dX12_joinsBoth_43 (fun H locs hP hD hS => ?_)
  obtain ⟨i_16, ei_16⟩ : ∃ z : Nat → Int32, z = upd i_13 58 r_15 := ⟨_, rfl⟩
  have hi_16_55 : i_16 55 = r_3 := by rw [ei_16]; exact hi_13_55
  have hi_16_57 : i_16 57 = r_7 := by rw [ei_16]; exact hi_13_57
  have hi_16_54 : i_16 54 = nI bn_12 := by rw [ei_16]; exact hi_13_54
  have hi_16_56 : i_16 56 = r_11 := by rw [ei_16]; exact hi_13_56
  have hi_16_58 : i_16 58 = r_15 := by rw [ei_16]; rfl
  have hsb := SB.put hsb ei_16 (by decide)
  have hP : va_P D vwCl [(h, .inr (12, mG q i_16)), (q 51, .inl (cZ, 1536, .inl m_hasMark)), (q 52, .inl (cI, 1536, .inl m_markAcross)), (q 53, .inl (cI, 1536, .inl m_markDeep)), (q 59, .inl (cI, 384, .inl m_gaps_12))] H := by rw [ei_16, ← mG_58]; exact hP
  have hD : va_D A [(h, .inr (12, mG q i_16)), (q 51, .inl (cZ, 1536, .inl m_hasMark)), (q 52, .inl (cI, 1536, .inl m_markAcross)), (q 53, .inl (cI, 1536, .inl m_markDeep)), (q 59, .inl (cI, 384, .inl m_gaps_12))] := by rw [ei_16, ← mG_58]; exact hD
  exact W.vret hx hb hr (fun tt9 ht hW => ⟨⟨((i_16 : Nat → Int32), (bn_12 : Nat), (m_gaps_12 : Nat → Int32)), rfl, (lf_X12_joinsBoth_17 h q im m_hasMark m_markAcross m_markDeep m_gaps a1 b1 ha1 hb1 im_4 bn_4 m_gaps_4 hz_4_0 hz_4_1 hz_4_2 r_3 i_5 r_7 i_8 im_12 bn_12 m_gaps_12 hz_12_0 hz_12_1 hz_12_2 r_11 i_13 r_15 i_16 hsb hi_16_55 hi_16_57 hi_16_54 hi_16_56 hi_16_58), ⟨by rw [ht]; exact hP, hD⟩⟩, hS.F ht⟩) hS.2.2 dX12_joinsBoth_46 hlocks

theorem lf_X12_joined_1 (h : Nat) (q : Nat → Nat) (im : Nat → Int32) (md : Nat) (m_hasMark : Nat → Int32) (m_markAcross : Nat → Int32) (m_markDeep : Nat → Int32) (m_gaps : Nat → Int32) (n1 : Int32) (n2 : Int32) (n3 : Int32) (hf_md : im 50 = nI md) (hmd : md ≤ 4) (hsb : SB [54, 55, 56, 57, 58] im im) : md ≤ 4 := by
  first | assumption | omega | decide | rfl
theorem lf_X12_joined_3 (h : Nat) (q : Nat → Nat) (im : Nat → Int32) (md : Nat) (m_hasMark : Nat → Int32) (m_markAcross : Nat → Int32) (m_markDeep : Nat → Int32) (m_gaps : Nat → Int32) (n1 : Int32) (n2 : Int32) (n3 : Int32) (hf_md : im 50 = nI md) (hmd : md ≤ 4) (hsb : SB [54, 55, 56, 57, 58] im im) : (SB [54, 55, 56, 57, 58] im (im : Nat → Int32)) := by
  repeat' apply And.intro
  all_goals first | assumption | omega | rfl | trivial
theorem lf_X12_joined_6 (h : Nat) (q : Nat → Nat) (im : Nat → Int32) (md : Nat) (m_hasMark : Nat → Int32) (m_markAcross : Nat → Int32) (m_markDeep : Nat → Int32) (m_gaps : Nat → Int32) (n1 : Int32) (n2 : Int32) (n3 : Int32) (hf_md : im 50 = nI md) (hmd : md ≤ 4) (hsb : SB [54, 55, 56, 57, 58] im im) (ff2 : Nat) (gg2 : Nat) (hff2 : ff2 < md) (hgg2 : gg2 < md) (c_5 : (0 : Int32) ≤ n3 ∧ n3 ≤ 4) (tn3 : Nat) (tn3a : 0 ≤ tn3) (tn3b : tn3 ≤ 4) (tn3e : n3 = nI tn3) : ff2 < 4 := by
  first | assumption | omega | decide | rfl
theorem lf_X12_joined_7 (h : Nat) (q : Nat → Nat) (im : Nat → Int32) (md : Nat) (m_hasMark : Nat → Int32) (m_markAcross : Nat → Int32) (m_markDeep : Nat → Int32) (m_gaps : Nat → Int32) (n1 : Int32) (n2 : Int32) (n3 : Int32) (hf_md : im 50 = nI md) (hmd : md ≤ 4) (hsb : SB [54, 55, 56, 57, 58] im im) (ff2 : Nat) (gg2 : Nat) (hff2 : ff2 < md) (hgg2 : gg2 < md) (c_5 : (0 : Int32) ≤ n3 ∧ n3 ≤ 4) (tn3 : Nat) (tn3a : 0 ≤ tn3) (tn3b : tn3 ≤ 4) (tn3e : n3 = nI tn3) : gg2 < 4 := by
  first | assumption | omega | decide | rfl
theorem lf_X12_joined_12 (h : Nat) (q : Nat → Nat) (im : Nat → Int32) (md : Nat) (m_hasMark : Nat → Int32) (m_markAcross : Nat → Int32) (m_markDeep : Nat → Int32) (m_gaps : Nat → Int32) (n1 : Int32) (n2 : Int32) (n3 : Int32) (hf_md : im 50 = nI md) (hmd : md ≤ 4) (ff2 : Nat) (gg2 : Nat) (hff2 : ff2 < md) (hgg2 : gg2 < md) (c_5 : (0 : Int32) ≤ n3 ∧ n3 ≤ 4) (tn3 : Nat) (tn3a : 0 ≤ tn3) (tn3b : tn3 ≤ 4) (tn3e : n3 = nI tn3) (im_9 : Nat → Int32) (bn_9 : Nat) (m_gaps_9 : Nat → Int32) (hz_9_0 : SB [54, 55, 56, 57, 58] im im_9) (hz_9_1 : im_9 54 = nI bn_9) (hz_9_2 : bn_9 ≤ 384) (hsb : SB [54, 55, 56, 57, 58] im im_9) (c_10 : ¬ nI tn3 = 2) : tn3 ≠ 2 := by
  exact fun q => c_10 ((nI_eq (a := tn3) (b := 2) (by omega) (by omega)).mpr q)
theorem lf_X12_joined_15 (h : Nat) (q : Nat → Nat) (im : Nat → Int32) (md : Nat) (m_hasMark : Nat → Int32) (m_markAcross : Nat → Int32) (m_markDeep : Nat → Int32) (m_gaps : Nat → Int32) (n1 : Int32) (n2 : Int32) (n3 : Int32) (hf_md : im 50 = nI md) (hmd : md ≤ 4) (ff2 : Nat) (gg2 : Nat) (hff2 : ff2 < md) (hgg2 : gg2 < md) (c_5 : (0 : Int32) ≤ n3 ∧ n3 ≤ 4) (tn3 : Nat) (tn3a : 0 ≤ tn3) (tn3b : tn3 ≤ 4) (tn3e : n3 = nI tn3) (im_9 : Nat → Int32) (bn_9 : Nat) (m_gaps_9 : Nat → Int32) (hz_9_0 : SB [54, 55, 56, 57, 58] im im_9) (hz_9_1 : im_9 54 = nI bn_9) (hz_9_2 : bn_9 ≤ 384) (hsb : SB [54, 55, 56, 57, 58] im im_9) (c_10 : ¬ nI tn3 = 2) (n_11 : tn3 ≠ 2) (c_13 : ¬ nI bn_9 = 0) : bn_9 ≠ 0 := by
  exact fun q => c_13 ((nI_eq (a := bn_9) (b := 0) (by omega) (by omega)).mpr q)
theorem lf_X12_joined_18 (h : Nat) (q : Nat → Nat) (im : Nat → Int32) (md : Nat) (m_hasMark : Nat → Int32) (m_markAcross : Nat → Int32) (m_markDeep : Nat → Int32) (m_gaps : Nat → Int32) (n1 : Int32) (n2 : Int32) (n3 : Int32) (hf_md : im 50 = nI md) (hmd : md ≤ 4) (ff2 : Nat) (gg2 : Nat) (hff2 : ff2 < md) (hgg2 : gg2 < md) (c_5 : (0 : Int32) ≤ n3 ∧ n3 ≤ 4) (tn3 : Nat) (tn3a : 0 ≤ tn3) (tn3b : tn3 ≤ 4) (tn3e : n3 = nI tn3) (im_9 : Nat → Int32) (bn_9 : Nat) (m_gaps_9 : Nat → Int32) (hz_9_0 : SB [54, 55, 56, 57, 58] im im_9) (hz_9_1 : im_9 54 = nI bn_9) (hz_9_2 : bn_9 ≤ 384) (hsb : SB [54, 55, 56, 57, 58] im im_9) (c_10 : ¬ nI tn3 = 2) (n_11 : tn3 ≠ 2) (c_13 : ¬ nI bn_9 = 0) (n_14 : bn_9 ≠ 0) (c_16 : ¬ nI tn3 = 0) : tn3 ≠ 0 := by
  exact fun q => c_16 ((nI_eq (a := tn3) (b := 0) (by omega) (by omega)).mpr q)
theorem lf_X12_joined_21 (h : Nat) (q : Nat → Nat) (im : Nat → Int32) (md : Nat) (m_hasMark : Nat → Int32) (m_markAcross : Nat → Int32) (m_markDeep : Nat → Int32) (m_gaps : Nat → Int32) (n1 : Int32) (n2 : Int32) (n3 : Int32) (hf_md : im 50 = nI md) (hmd : md ≤ 4) (ff2 : Nat) (gg2 : Nat) (hff2 : ff2 < md) (hgg2 : gg2 < md) (c_5 : (0 : Int32) ≤ n3 ∧ n3 ≤ 4) (tn3 : Nat) (tn3a : 0 ≤ tn3) (tn3b : tn3 ≤ 4) (tn3e : n3 = nI tn3) (im_9 : Nat → Int32) (bn_9 : Nat) (m_gaps_9 : Nat → Int32) (hz_9_0 : SB [54, 55, 56, 57, 58] im im_9) (hz_9_1 : im_9 54 = nI bn_9) (hz_9_2 : bn_9 ≤ 384) (hsb : SB [54, 55, 56, 57, 58] im im_9) (c_10 : ¬ nI tn3 = 2) (n_11 : tn3 ≠ 2) (c_13 : ¬ nI bn_9 = 0) (n_14 : bn_9 ≠ 0) (c_16 : ¬ nI tn3 = 0) (n_17 : tn3 ≠ 0) (c_19 : ¬ nI tn3 = 1) : tn3 ≠ 1 := by
  exact fun q => c_19 ((nI_eq (a := tn3) (b := 1) (by omega) (by omega)).mpr q)
theorem lf_X12_joined_24 (h : Nat) (q : Nat → Nat) (im : Nat → Int32) (md : Nat) (m_hasMark : Nat → Int32) (m_markAcross : Nat → Int32) (m_markDeep : Nat → Int32) (m_gaps : Nat → Int32) (n1 : Int32) (n2 : Int32) (n3 : Int32) (hf_md : im 50 = nI md) (hmd : md ≤ 4) (ff2 : Nat) (gg2 : Nat) (hff2 : ff2 < md) (hgg2 : gg2 < md) (c_5 : (0 : Int32) ≤ n3 ∧ n3 ≤ 4) (tn3 : Nat) (tn3a : 0 ≤ tn3) (tn3b : tn3 ≤ 4) (tn3e : n3 = nI tn3) (im_9 : Nat → Int32) (bn_9 : Nat) (m_gaps_9 : Nat → Int32) (hz_9_0 : SB [54, 55, 56, 57, 58] im im_9) (hz_9_1 : im_9 54 = nI bn_9) (hz_9_2 : bn_9 ≤ 384) (hsb : SB [54, 55, 56, 57, 58] im im_9) (c_10 : ¬ nI tn3 = 2) (n_11 : tn3 ≠ 2) (c_13 : ¬ nI bn_9 = 0) (n_14 : bn_9 ≠ 0) (c_16 : ¬ nI tn3 = 0) (n_17 : tn3 ≠ 0) (c_19 : ¬ nI tn3 = 1) (n_20 : tn3 ≠ 1) (c_22 : ¬ nI tn3 = 3) : tn3 ≠ 3 := by
  exact fun q => c_22 ((nI_eq (a := tn3) (b := 3) (by omega) (by omega)).mpr q)
theorem lf_X12_joined_25 (h : Nat) (q : Nat → Nat) (im : Nat → Int32) (md : Nat) (m_hasMark : Nat → Int32) (m_markAcross : Nat → Int32) (m_markDeep : Nat → Int32) (m_gaps : Nat → Int32) (n1 : Int32) (n2 : Int32) (n3 : Int32) (hf_md : im 50 = nI md) (hmd : md ≤ 4) (ff2 : Nat) (gg2 : Nat) (hff2 : ff2 < md) (hgg2 : gg2 < md) (c_5 : (0 : Int32) ≤ n3 ∧ n3 ≤ 4) (tn3 : Nat) (tn3a : 0 ≤ tn3) (tn3b : tn3 ≤ 4) (tn3e : n3 = nI tn3) (im_9 : Nat → Int32) (bn_9 : Nat) (m_gaps_9 : Nat → Int32) (hz_9_0 : SB [54, 55, 56, 57, 58] im im_9) (hz_9_1 : im_9 54 = nI bn_9) (hz_9_2 : bn_9 ≤ 384) (hsb : SB [54, 55, 56, 57, 58] im im_9) (c_10 : ¬ nI tn3 = 2) (n_11 : tn3 ≠ 2) (c_13 : ¬ nI bn_9 = 0) (n_14 : bn_9 ≠ 0) (c_16 : ¬ nI tn3 = 0) (n_17 : tn3 ≠ 0) (c_19 : ¬ nI tn3 = 1) (n_20 : tn3 ≠ 1) (c_22 : ¬ nI tn3 = 3) (n_23 : tn3 ≠ 3) (hk_9_50 : im_9 50 = nI md) : (SB [54, 55, 56, 57, 58] im (im_9 : Nat → Int32)) := by
  repeat' apply And.intro
  all_goals first | assumption | omega | rfl | trivial
theorem lf_X12_joined_27 (h : Nat) (q : Nat → Nat) (im : Nat → Int32) (md : Nat) (m_hasMark : Nat → Int32) (m_markAcross : Nat → Int32) (m_markDeep : Nat → Int32) (m_gaps : Nat → Int32) (n1 : Int32) (n2 : Int32) (n3 : Int32) (hf_md : im 50 = nI md) (hmd : md ≤ 4) (ff2 : Nat) (gg2 : Nat) (hff2 : ff2 < md) (hgg2 : gg2 < md) (c_5 : (0 : Int32) ≤ n3 ∧ n3 ≤ 4) (tn3 : Nat) (tn3a : 0 ≤ tn3) (tn3b : tn3 ≤ 4) (tn3e : n3 = nI tn3) (im_9 : Nat → Int32) (bn_9 : Nat) (m_gaps_9 : Nat → Int32) (hz_9_0 : SB [54, 55, 56, 57, 58] im im_9) (hz_9_1 : im_9 54 = nI bn_9) (hz_9_2 : bn_9 ≤ 384) (hsb : SB [54, 55, 56, 57, 58] im im_9) (c_10 : ¬ nI tn3 = 2) (n_11 : tn3 ≠ 2) (c_13 : ¬ nI bn_9 = 0) (n_14 : bn_9 ≠ 0) (c_16 : ¬ nI tn3 = 0) (n_17 : tn3 ≠ 0) (c_19 : ¬ nI tn3 = 1) (n_20 : tn3 ≠ 1) (c_22 : nI tn3 = 3) : tn3 = 3 := by
  exact (nI_eq (a := tn3) (b := 3) (by omega) (by omega)).mp c_22
theorem lf_X12_joined_28 (h : Nat) (q : Nat → Nat) (im : Nat → Int32) (md : Nat) (m_hasMark : Nat → Int32) (m_markAcross : Nat → Int32) (m_markDeep : Nat → Int32) (m_gaps : Nat → Int32) (n1 : Int32) (n2 : Int32) (n3 : Int32) (hf_md : im 50 = nI md) (hmd : md ≤ 4) (ff2 : Nat) (gg2 : Nat) (hff2 : ff2 < md) (hgg2 : gg2 < md) (c_5 : (0 : Int32) ≤ n3 ∧ n3 ≤ 4) (tn3 : Nat) (tn3a : 0 ≤ tn3) (tn3b : tn3 ≤ 4) (tn3e : n3 = nI tn3) (im_9 : Nat → Int32) (bn_9 : Nat) (m_gaps_9 : Nat → Int32) (hz_9_0 : SB [54, 55, 56, 57, 58] im im_9) (hz_9_1 : im_9 54 = nI bn_9) (hz_9_2 : bn_9 ≤ 384) (hsb : SB [54, 55, 56, 57, 58] im im_9) (c_10 : ¬ nI tn3 = 2) (n_11 : tn3 ≠ 2) (c_13 : ¬ nI bn_9 = 0) (n_14 : bn_9 ≠ 0) (c_16 : ¬ nI tn3 = 0) (n_17 : tn3 ≠ 0) (c_19 : ¬ nI tn3 = 1) (n_20 : tn3 ≠ 1) (c_22 : nI tn3 = 3) (n_26 : tn3 = 3) (hk_9_50 : im_9 50 = nI md) : (SB [54, 55, 56, 57, 58] im (im_9 : Nat → Int32)) := by
  repeat' apply And.intro
  all_goals first | assumption | omega | rfl | trivial
theorem lf_X12_joined_30 (h : Nat) (q : Nat → Nat) (im : Nat → Int32) (md : Nat) (m_hasMark : Nat → Int32) (m_markAcross : Nat → Int32) (m_markDeep : Nat → Int32) (m_gaps : Nat → Int32) (n1 : Int32) (n2 : Int32) (n3 : Int32) (hf_md : im 50 = nI md) (hmd : md ≤ 4) (ff2 : Nat) (gg2 : Nat) (hff2 : ff2 < md) (hgg2 : gg2 < md) (c_5 : (0 : Int32) ≤ n3 ∧ n3 ≤ 4) (tn3 : Nat) (tn3a : 0 ≤ tn3) (tn3b : tn3 ≤ 4) (tn3e : n3 = nI tn3) (im_9 : Nat → Int32) (bn_9 : Nat) (m_gaps_9 : Nat → Int32) (hz_9_0 : SB [54, 55, 56, 57, 58] im im_9) (hz_9_1 : im_9 54 = nI bn_9) (hz_9_2 : bn_9 ≤ 384) (hsb : SB [54, 55, 56, 57, 58] im im_9) (c_10 : ¬ nI tn3 = 2) (n_11 : tn3 ≠ 2) (c_13 : ¬ nI bn_9 = 0) (n_14 : bn_9 ≠ 0) (c_16 : ¬ nI tn3 = 0) (n_17 : tn3 ≠ 0) (c_19 : nI tn3 = 1) : tn3 = 1 := by
  exact (nI_eq (a := tn3) (b := 1) (by omega) (by omega)).mp c_19
theorem lf_X12_joined_31 (h : Nat) (q : Nat → Nat) (im : Nat → Int32) (md : Nat) (m_hasMark : Nat → Int32) (m_markAcross : Nat → Int32) (m_markDeep : Nat → Int32) (m_gaps : Nat → Int32) (n1 : Int32) (n2 : Int32) (n3 : Int32) (hf_md : im 50 = nI md) (hmd : md ≤ 4) (ff2 : Nat) (gg2 : Nat) (hff2 : ff2 < md) (hgg2 : gg2 < md) (c_5 : (0 : Int32) ≤ n3 ∧ n3 ≤ 4) (tn3 : Nat) (tn3a : 0 ≤ tn3) (tn3b : tn3 ≤ 4) (tn3e : n3 = nI tn3) (im_9 : Nat → Int32) (bn_9 : Nat) (m_gaps_9 : Nat → Int32) (hz_9_0 : SB [54, 55, 56, 57, 58] im im_9) (hz_9_1 : im_9 54 = nI bn_9) (hz_9_2 : bn_9 ≤ 384) (hsb : SB [54, 55, 56, 57, 58] im im_9) (c_10 : ¬ nI tn3 = 2) (n_11 : tn3 ≠ 2) (c_13 : ¬ nI bn_9 = 0) (n_14 : bn_9 ≠ 0) (c_16 : ¬ nI tn3 = 0) (n_17 : tn3 ≠ 0) (c_19 : nI tn3 = 1) (n_29 : tn3 = 1) (hk_9_50 : im_9 50 = nI md) : (SB [54, 55, 56, 57, 58] im (im_9 : Nat → Int32)) := by
  repeat' apply And.intro
  all_goals first | assumption | omega | rfl | trivial
theorem lf_X12_joined_33 (h : Nat) (q : Nat → Nat) (im : Nat → Int32) (md : Nat) (m_hasMark : Nat → Int32) (m_markAcross : Nat → Int32) (m_markDeep : Nat → Int32) (m_gaps : Nat → Int32) (n1 : Int32) (n2 : Int32) (n3 : Int32) (hf_md : im 50 = nI md) (hmd : md ≤ 4) (ff2 : Nat) (gg2 : Nat) (hff2 : ff2 < md) (hgg2 : gg2 < md) (c_5 : (0 : Int32) ≤ n3 ∧ n3 ≤ 4) (tn3 : Nat) (tn3a : 0 ≤ tn3) (tn3b : tn3 ≤ 4) (tn3e : n3 = nI tn3) (im_9 : Nat → Int32) (bn_9 : Nat) (m_gaps_9 : Nat → Int32) (hz_9_0 : SB [54, 55, 56, 57, 58] im im_9) (hz_9_1 : im_9 54 = nI bn_9) (hz_9_2 : bn_9 ≤ 384) (hsb : SB [54, 55, 56, 57, 58] im im_9) (c_10 : ¬ nI tn3 = 2) (n_11 : tn3 ≠ 2) (c_13 : ¬ nI bn_9 = 0) (n_14 : bn_9 ≠ 0) (c_16 : nI tn3 = 0) : tn3 = 0 := by
  exact (nI_eq (a := tn3) (b := 0) (by omega) (by omega)).mp c_16
theorem lf_X12_joined_34 (h : Nat) (q : Nat → Nat) (im : Nat → Int32) (md : Nat) (m_hasMark : Nat → Int32) (m_markAcross : Nat → Int32) (m_markDeep : Nat → Int32) (m_gaps : Nat → Int32) (n1 : Int32) (n2 : Int32) (n3 : Int32) (hf_md : im 50 = nI md) (hmd : md ≤ 4) (ff2 : Nat) (gg2 : Nat) (hff2 : ff2 < md) (hgg2 : gg2 < md) (c_5 : (0 : Int32) ≤ n3 ∧ n3 ≤ 4) (tn3 : Nat) (tn3a : 0 ≤ tn3) (tn3b : tn3 ≤ 4) (tn3e : n3 = nI tn3) (im_9 : Nat → Int32) (bn_9 : Nat) (m_gaps_9 : Nat → Int32) (hz_9_0 : SB [54, 55, 56, 57, 58] im im_9) (hz_9_1 : im_9 54 = nI bn_9) (hz_9_2 : bn_9 ≤ 384) (hsb : SB [54, 55, 56, 57, 58] im im_9) (c_10 : ¬ nI tn3 = 2) (n_11 : tn3 ≠ 2) (c_13 : ¬ nI bn_9 = 0) (n_14 : bn_9 ≠ 0) (c_16 : nI tn3 = 0) (n_32 : tn3 = 0) (hk_9_50 : im_9 50 = nI md) : (SB [54, 55, 56, 57, 58] im (im_9 : Nat → Int32)) := by
  repeat' apply And.intro
  all_goals first | assumption | omega | rfl | trivial
theorem lf_X12_joined_36 (h : Nat) (q : Nat → Nat) (im : Nat → Int32) (md : Nat) (m_hasMark : Nat → Int32) (m_markAcross : Nat → Int32) (m_markDeep : Nat → Int32) (m_gaps : Nat → Int32) (n1 : Int32) (n2 : Int32) (n3 : Int32) (hf_md : im 50 = nI md) (hmd : md ≤ 4) (ff2 : Nat) (gg2 : Nat) (hff2 : ff2 < md) (hgg2 : gg2 < md) (c_5 : (0 : Int32) ≤ n3 ∧ n3 ≤ 4) (tn3 : Nat) (tn3a : 0 ≤ tn3) (tn3b : tn3 ≤ 4) (tn3e : n3 = nI tn3) (im_9 : Nat → Int32) (bn_9 : Nat) (m_gaps_9 : Nat → Int32) (hz_9_0 : SB [54, 55, 56, 57, 58] im im_9) (hz_9_1 : im_9 54 = nI bn_9) (hz_9_2 : bn_9 ≤ 384) (hsb : SB [54, 55, 56, 57, 58] im im_9) (c_10 : ¬ nI tn3 = 2) (n_11 : tn3 ≠ 2) (c_13 : nI bn_9 = 0) : bn_9 = 0 := by
  exact (nI_eq (a := bn_9) (b := 0) (by omega) (by omega)).mp c_13
theorem lf_X12_joined_37 (h : Nat) (q : Nat → Nat) (im : Nat → Int32) (md : Nat) (m_hasMark : Nat → Int32) (m_markAcross : Nat → Int32) (m_markDeep : Nat → Int32) (m_gaps : Nat → Int32) (n1 : Int32) (n2 : Int32) (n3 : Int32) (hf_md : im 50 = nI md) (hmd : md ≤ 4) (ff2 : Nat) (gg2 : Nat) (hff2 : ff2 < md) (hgg2 : gg2 < md) (c_5 : (0 : Int32) ≤ n3 ∧ n3 ≤ 4) (tn3 : Nat) (tn3a : 0 ≤ tn3) (tn3b : tn3 ≤ 4) (tn3e : n3 = nI tn3) (im_9 : Nat → Int32) (bn_9 : Nat) (m_gaps_9 : Nat → Int32) (hz_9_0 : SB [54, 55, 56, 57, 58] im im_9) (hz_9_1 : im_9 54 = nI bn_9) (hz_9_2 : bn_9 ≤ 384) (hsb : SB [54, 55, 56, 57, 58] im im_9) (c_10 : ¬ nI tn3 = 2) (n_11 : tn3 ≠ 2) (c_13 : nI bn_9 = 0) (n_35 : bn_9 = 0) (hk_9_50 : im_9 50 = nI md) : (SB [54, 55, 56, 57, 58] im (im_9 : Nat → Int32)) := by
  repeat' apply And.intro
  all_goals first | assumption | omega | rfl | trivial
theorem lf_X12_joined_39 (h : Nat) (q : Nat → Nat) (im : Nat → Int32) (md : Nat) (m_hasMark : Nat → Int32) (m_markAcross : Nat → Int32) (m_markDeep : Nat → Int32) (m_gaps : Nat → Int32) (n1 : Int32) (n2 : Int32) (n3 : Int32) (hf_md : im 50 = nI md) (hmd : md ≤ 4) (ff2 : Nat) (gg2 : Nat) (hff2 : ff2 < md) (hgg2 : gg2 < md) (c_5 : (0 : Int32) ≤ n3 ∧ n3 ≤ 4) (tn3 : Nat) (tn3a : 0 ≤ tn3) (tn3b : tn3 ≤ 4) (tn3e : n3 = nI tn3) (im_9 : Nat → Int32) (bn_9 : Nat) (m_gaps_9 : Nat → Int32) (hz_9_0 : SB [54, 55, 56, 57, 58] im im_9) (hz_9_1 : im_9 54 = nI bn_9) (hz_9_2 : bn_9 ≤ 384) (hsb : SB [54, 55, 56, 57, 58] im im_9) (c_10 : nI tn3 = 2) : tn3 = 2 := by
  exact (nI_eq (a := tn3) (b := 2) (by omega) (by omega)).mp c_10
theorem lf_X12_joined_40 (h : Nat) (q : Nat → Nat) (im : Nat → Int32) (md : Nat) (m_hasMark : Nat → Int32) (m_markAcross : Nat → Int32) (m_markDeep : Nat → Int32) (m_gaps : Nat → Int32) (n1 : Int32) (n2 : Int32) (n3 : Int32) (hf_md : im 50 = nI md) (hmd : md ≤ 4) (ff2 : Nat) (gg2 : Nat) (hff2 : ff2 < md) (hgg2 : gg2 < md) (c_5 : (0 : Int32) ≤ n3 ∧ n3 ≤ 4) (tn3 : Nat) (tn3a : 0 ≤ tn3) (tn3b : tn3 ≤ 4) (tn3e : n3 = nI tn3) (im_9 : Nat → Int32) (bn_9 : Nat) (m_gaps_9 : Nat → Int32) (hz_9_0 : SB [54, 55, 56, 57, 58] im im_9) (hz_9_1 : im_9 54 = nI bn_9) (hz_9_2 : bn_9 ≤ 384) (hsb : SB [54, 55, 56, 57, 58] im im_9) (c_10 : nI tn3 = 2) (n_38 : tn3 = 2) (hk_9_50 : im_9 50 = nI md) : (SB [54, 55, 56, 57, 58] im (im_9 : Nat → Int32)) := by
  repeat' apply And.intro
  all_goals first | assumption | omega | rfl | trivial
theorem lf_X12_joined_41 (h : Nat) (q : Nat → Nat) (im : Nat → Int32) (md : Nat) (m_hasMark : Nat → Int32) (m_markAcross : Nat → Int32) (m_markDeep : Nat → Int32) (m_gaps : Nat → Int32) (n1 : Int32) (n2 : Int32) (n3 : Int32) (hf_md : im 50 = nI md) (hmd : md ≤ 4) (hsb : SB [54, 55, 56, 57, 58] im im) (ff2 : Nat) (gg2 : Nat) (hff2 : ff2 < md) (hgg2 : gg2 < md) (c_5 : ¬ ((0 : Int32) ≤ n3 ∧ n3 ≤ 4)) : (SB [54, 55, 56, 57, 58] im (im : Nat → Int32)) := by
  repeat' apply And.intro
  all_goals first | assumption | omega | rfl | trivial
set_option maxHeartbeats 4000000 in
set_option maxRecDepth 100000 in
theorem c_X12_joined (l : Launch) (D : va_G) (cI cB cZ cJ : ClassId) (tx : List (ClassId × FieldType)) (h : Nat) (q : Nat → Nat) (im : Nat → Int32) (md : Nat) (m_hasMark : Nat → Int32) (m_markAcross : Nat → Int32) (m_markDeep : Nat → Int32) (m_gaps : Nat → Int32) (n1 : Int32) (n2 : Int32) (n3 : Int32) (hf_md : im 50 = nI md) (hmd : md ≤ 4) : WrI l D cI cB cZ cJ tx yX12_joined cX12_joined 4 (some .int) 3 0 0 [.ref h, .int n1, .int n2, .int n3] [(h, .inr (12, mG q im)), (q 51, .inl (cZ, 1536, .inl m_hasMark)), (q 52, .inl (cI, 1536, .inl m_markAcross)), (q 53, .inl (cI, 1536, .inl m_markDeep)), (q 59, .inl (cI, 384, .inl m_gaps))] (fun (r : Int32) (v : (Nat → Int32) × (Nat → Int32)) => (SB [54, 55, 56, 57, 58] im v.1)) (fun v => [(h, .inr (12, mG q v.1)), (q 51, .inl (cZ, 1536, .inl m_hasMark)), (q 52, .inl (cI, 1536, .inl m_markAcross)), (q 53, .inl (cI, 1536, .inl m_markDeep)), (q 59, .inl (cI, 384, .inl v.2))]) := by
  refine wri_of2 (by decide) (Nat.le_of_ble_eq_true rfl) ?_
  intro p e s m below meth c A ls H locs hC hK hP hD hA hS hl
  obtain ⟨hx, hb, hr, hml, hown, hts, hlocks, hin⟩ := hC
  have hown : s.vm.findClass RX12 = some m.cls := hown
  have hl : lv_has ls 4 [(0, .ref h), (1, .int n1), (2, .int n2), (3, .int n3)] := hl
  have hsb : SB [54, 55, 56, 57, 58] im im := SB.rf
  refine lv_aload_n hx hb dX12_joined_0 rfl (lv_at hl 0 rfl) ?_
  refine lv_iload_n hx hb dX12_joined_1 rfl (lv_at hl 1 rfl) ?_
  refine lv_iload_n hx hb dX12_joined_2 rfl (lv_at hl 2 rfl) ?_
  refine eRi (va_runV (As := [.int n1, .int n2]) (rest := []) ⟨hx, hb, hml, hown, hts⟩ (c_X12_areTwo l D cI cB cZ cJ tx h q im md n1 n2 hf_md (lf_X12_joined_1 h q im md m_hasMark m_markAcross m_markDeep m_gaps n1 n2 n3 hf_md hmd hsb) H.size) (zV hts k_1869 v_X12_areTwo ⟨Nat.le_of_ble_eq_true rfl, Nat.le_of_ble_eq_true rfl⟩) (pV (px1 hK hP 0 rfl) hK hP 0 rfl rfl) rfl rfl hl.1 rfl (lv_room (Nat.le_of_ble_eq_true rfl)) dX12_joined_3 ⟨Nat.le_of_ble_eq_true rfl, Nat.le_of_ble_eq_true rfl⟩) hP hS hA (fun r_2 H locs wr_2 hP hS => ?_)
  rcases wr_2 with rfl | ⟨ff2, gg2, hff2, hgg2, rfl, rfl, rfl⟩
  · refine lv_if_eq (tgt := 21) hx hb dX12_joined_6 (by decide) (fun _ => ?_) (fun c => absurd c (by decide))
    refine lv_ldcw (v := (-1000000)) hx hb hown (hts _ k_1874) dX12_joined_21 ?_
    exact W.iret (v := (-1000000)) hx hb hr (fun tt9 ht hW => ⟨⟨((-1000000) : Int32), ((im : Nat → Int32), (m_gaps : Nat → Int32)), rfl, (lf_X12_joined_3 h q im md m_hasMark m_markAcross m_markDeep m_gaps n1 n2 n3 hf_md hmd hsb), ⟨by rw [ht]; exact hP, hD⟩⟩, hS.F ht⟩) hS.2.2 dX12_joined_24 hlocks
  · refine lv_if_eq (tgt := 21) hx hb dX12_joined_6 (by decide) (fun c => absurd c (by decide)) (fun _ => ?_)
    refine lv_iload_n hx hb dX12_joined_9 rfl (lv_at hl 3 rfl) ?_
    refine lv_i2l (v := n3.toInt64) hx hb dX12_joined_10 rfl ?_
    refine lv_lconst (v := 0) hx hb dX12_joined_11 (by decide) ?_
    refine lv_ldc2 (v := 4) hx hb hown (hts _ k_1873) dX12_joined_12 ?_
    refine eRi (va_runS (As := [.long n3.toInt64, .long 0, .long 4]) (rest := []) ⟨hx, hb, hml, hown, hts⟩ (c_X12_isIn l D cI cB cZ cJ tx n3.toInt64 0 4 H.size) (zS hts k_1602 v_X12_isIn ⟨Nat.le_of_ble_eq_true rfl, Nat.le_of_ble_eq_true rfl⟩) (px0 hK) rfl rfl hl.1 rfl (lv_room (Nat.le_of_ble_eq_true rfl)) dX12_joined_15 ⟨Nat.le_of_ble_eq_true rfl, Nat.le_of_ble_eq_true rfl⟩) hP hS hA (fun r_4 H locs wr_4 hP hS => ?_)
    have wr_4 : r_4 = bi ((0 : Int32) ≤ n3 ∧ n3 ≤ 4) := isIn32 (lo := 0) (hi := 4) (by decide) (by decide) wr_4
    subst wr_4
    refine lv_bi_ne (tgt := 25) hx hb dX12_joined_18 (by decide) (fun c_5 => ?_) (fun c_5 => ?_)
    · obtain ⟨tn3, tn3a, tn3b, tn3e⟩ := of_rng 0 4 rfl rfl c_5
      subst tn3e
      refine lv_aload_n hx hb dX12_joined_25 rfl (lv_at hl 0 rfl) ?_
      refine lv_iload_n hx hb dX12_joined_26 rfl (lv_at hl 1 rfl) ?_
      refine lv_iload_n hx hb dX12_joined_27 rfl (lv_at hl 2 rfl) ?_
      refine eWv (wr := []) (va_runV (As := [.int (nI ff2), .int (nI gg2)]) (rest := []) ⟨hx, hb, hml, hown, hts⟩ (c_X12_joinsBoth l D cI cB cZ cJ tx h q im m_hasMark m_markAcross m_markDeep m_gaps ff2 gg2 (lf_X12_joined_6 h q im md m_hasMark m_markAcross m_markDeep m_gaps (nI ff2) (nI gg2) (nI tn3) hf_md hmd hsb ff2 gg2 hff2 hgg2 c_5 tn3 tn3a tn3b rfl) (lf_X12_joined_7 h q im md m_hasMark m_markAcross m_markDeep m_gaps (nI ff2) (nI gg2) (nI tn3) hf_md hmd hsb ff2 gg2 hff2 hgg2 c_5 tn3 tn3a tn3b rfl) H.size) (zV hts k_1875 v_X12_joinsBoth ⟨Nat.le_of_ble_eq_true rfl, Nat.le_of_ble_eq_true rfl⟩) (pV (pxS hK hP hD [0, 1, 2, 3, 4] (by decide) rfl) hK hP 0 rfl rfl) rfl rfl hl.1 rfl (lv_room (Nat.le_of_ble_eq_true rfl)) dX12_joined_28 ⟨Nat.le_of_ble_eq_true rfl, Nat.le_of_ble_eq_true rfl⟩) hP hD hS hA [0, 1, 2, 3, 4] [] rfl rfl (by decide) (by decide) (fun u_9 H locs wr_8 hP hD hS => ?_)
      obtain ⟨im_9, bn_9, m_gaps_9⟩ := u_9
      have hz_9_0 : SB [54, 55, 56, 57, 58] im im_9 := wr_8.1
      have hz_9_1 : im_9 54 = nI bn_9 := wr_8.2.1
      have hz_9_2 : bn_9 ≤ 384 := wr_8.2.2
      have hk_9_50 : im_9 50 = nI md := (hz_9_0 50 (by decide)).trans hf_md
      have hsb := SB.step hsb hz_9_0 (by decide)
      have hP : va_P D vwCl [(h, .inr (12, mG q im_9)), (q 51, .inl (cZ, 1536, .inl m_hasMark)), (q 52, .inl (cI, 1536, .inl m_markAcross)), (q 53, .inl (cI, 1536, .inl m_markDeep)), (q 59, .inl (cI, 384, .inl m_gaps_9))] H := hP
      have hD : va_D A [(h, .inr (12, mG q im_9)), (q 51, .inl (cZ, 1536, .inl m_hasMark)), (q 52, .inl (cI, 1536, .inl m_markAcross)), (q 53, .inl (cI, 1536, .inl m_markDeep)), (q 59, .inl (cI, 384, .inl m_gaps_9))] := hD
      refine lv_iload_n hx hb dX12_joined_31 rfl (lv_at hl 3 rfl) ?_
      refine lv_iconst (v := 2) hx hb dX12_joined_32 (by decide) ?_
      refine lv_icmp_ne (tgt := 41) hx hb dX12_joined_33 (by decide) (fun c_10 => ?_) (fun c_10 => ?_)
      · have n_11 : tn3 ≠ 2 := (lf_X12_joined_12 h q im md m_hasMark m_markAcross m_markDeep m_gaps (nI ff2) (nI gg2) (nI tn3) hf_md hmd ff2 gg2 hff2 hgg2 c_5 tn3 tn3a tn3b rfl im_9 bn_9 m_gaps_9 hz_9_0 hz_9_1 hz_9_2 hsb c_10)
        refine lv_aload_n hx hb dX12_joined_41 rfl (lv_at hl 0 rfl) ?_
        refine va_get (D := D) (ci := 12) (v := .int (im_9 54)) (C := RX12) (T := TX12) (N := 81) hx hb hts inT_X12 hown hK.1 hP 0 rfl rfl 54 (by decide) (hts _ k_1407) (fun _ h9 => h9) rfl dX12_joined_42 ?_
        refine lv_topv (y := nI bn_9) hz_9_1 ?_
        refine lv_if_ne (tgt := 52) hx hb dX12_joined_45 (by decide) (fun c_13 => ?_) (fun c_13 => ?_)
        · have n_14 : bn_9 ≠ 0 := (lf_X12_joined_15 h q im md m_hasMark m_markAcross m_markDeep m_gaps (nI ff2) (nI gg2) (nI tn3) hf_md hmd ff2 gg2 hff2 hgg2 c_5 tn3 tn3a tn3b rfl im_9 bn_9 m_gaps_9 hz_9_0 hz_9_1 hz_9_2 hsb c_10 n_11 c_13)
          refine lv_iload_n hx hb dX12_joined_52 rfl (lv_at hl 3 rfl) ?_
          refine lv_if_ne (tgt := 63) hx hb dX12_joined_53 (by decide) (fun c_16 => ?_) (fun c_16 => ?_)
          · have n_17 : tn3 ≠ 0 := (lf_X12_joined_18 h q im md m_hasMark m_markAcross m_markDeep m_gaps (nI ff2) (nI gg2) (nI tn3) hf_md hmd ff2 gg2 hff2 hgg2 c_5 tn3 tn3a tn3b rfl im_9 bn_9 m_gaps_9 hz_9_0 hz_9_1 hz_9_2 hsb c_10 n_11 c_13 n_14 c_16)
            refine lv_iload_n hx hb dX12_joined_63 rfl (lv_at hl 3 rfl) ?_
            refine lv_iconst (v := 1) hx hb dX12_joined_64 (by decide) ?_
            refine lv_icmp_ne (tgt := 75) hx hb dX12_joined_65 (by decide) (fun c_19 => ?_) (fun c_19 => ?_)
            · have n_20 : tn3 ≠ 1 := (lf_X12_joined_21 h q im md m_hasMark m_markAcross m_markDeep m_gaps (nI ff2) (nI gg2) (nI tn3) hf_md hmd ff2 gg2 hff2 hgg2 c_5 tn3 tn3a tn3b rfl im_9 bn_9 m_gaps_9 hz_9_0 hz_9_1 hz_9_2 hsb c_10 n_11 c_13 n_14 c_16 n_17 c_19)
              refine lv_iload_n hx hb dX12_joined_75 rfl (lv_at hl 3 rfl) ?_
              refine lv_iconst (v := 3) hx hb dX12_joined_76 (by decide) ?_
              refine lv_icmp_ne (tgt := 87) hx hb dX12_joined_77 (by decide) (fun c_22 => ?_) (fun c_22 => ?_)
              · have n_23 : tn3 ≠ 3 := (lf_X12_joined_24 h q im md m_hasMark m_markAcross m_markDeep m_gaps (nI ff2) (nI gg2) (nI tn3) hf_md hmd ff2 gg2 hff2 hgg2 c_5 tn3 tn3a tn3b rfl im_9 bn_9 m_gaps_9 hz_9_0 hz_9_1 hz_9_2 hsb c_10 n_11 c_13 n_14 c_16 n_17 c_19 n_20 c_22)
                refine lv_aload_n hx hb dX12_joined_87 rfl (lv_at hl 0 rfl) ?_
                refine va_get (D := D) (ci := 12) (v := .int (im_9 58)) (C := RX12) (T := TX12) (N := 81) hx hb hts inT_X12 hown hK.1 hP 0 rfl rfl 58 (by decide) (hts _ k_1411) (fun _ h9 => h9) rfl dX12_joined_88 ?_
                exact W.iret (v := im_9 58) hx hb hr (fun tt9 ht hW => ⟨⟨(im_9 58 : Int32), ((im_9 : Nat → Int32), (m_gaps_9 : Nat → Int32)), rfl, (lf_X12_joined_25 h q im md m_hasMark m_markAcross m_markDeep m_gaps (nI ff2) (nI gg2) (nI tn3) hf_md hmd ff2 gg2 hff2 hgg2 c_5 tn3 tn3a tn3b rfl im_9 bn_9 m_gaps_9 hz_9_0 hz_9_1 hz_9_2 hsb c_10 n_11 c_13 n_14 c_16 n_17 c_19 n_20 c_22 n_23 hk_9_50), ⟨by rw [ht]; exact hP, hD⟩⟩, hS.F ht⟩) hS.2.2 dX12_joined_91 hlocks
              · have n_26 : tn3 = 3 := (lf_X12_joined_27 h q im md m_hasMark m_markAcross m_markDeep m_gaps (nI ff2) (nI gg2) (nI tn3) hf_md hmd ff2 gg2 hff2 hgg2 c_5 tn3 tn3a tn3b rfl im_9 bn_9 m_gaps_9 hz_9_0 hz_9_1 hz_9_2 hsb c_10 n_11 c_13 n_14 c_16 n_17 c_19 n_20 c_22)
                refine lv_aload_n hx hb dX12_joined_80 rfl (lv_at hl 0 rfl) ?_
                refine va_get (D := D) (ci := 12) (v := .int (im_9 57)) (C := RX12) (T := TX12) (N := 81) hx hb hts inT_X12 hown hK.1 hP 0 rfl rfl 57 (by decide) (hts _ k_1410) (fun _ h9 => h9) rfl dX12_joined_81 ?_
                refine lv_goto (tgt := 91) hx hb dX12_joined_84 (by decide) ?_
                exact W.iret (v := im_9 57) hx hb hr (fun tt9 ht hW => ⟨⟨(im_9 57 : Int32), ((im_9 : Nat → Int32), (m_gaps_9 : Nat → Int32)), rfl, (lf_X12_joined_28 h q im md m_hasMark m_markAcross m_markDeep m_gaps (nI ff2) (nI gg2) (nI tn3) hf_md hmd ff2 gg2 hff2 hgg2 c_5 tn3 tn3a tn3b rfl im_9 bn_9 m_gaps_9 hz_9_0 hz_9_1 hz_9_2 hsb c_10 n_11 c_13 n_14 c_16 n_17 c_19 n_20 c_22 n_26 hk_9_50), ⟨by rw [ht]; exact hP, hD⟩⟩, hS.F ht⟩) hS.2.2 dX12_joined_91 hlocks
            · have n_29 : tn3 = 1 := (lf_X12_joined_30 h q im md m_hasMark m_markAcross m_markDeep m_gaps (nI ff2) (nI gg2) (nI tn3) hf_md hmd ff2 gg2 hff2 hgg2 c_5 tn3 tn3a tn3b rfl im_9 bn_9 m_gaps_9 hz_9_0 hz_9_1 hz_9_2 hsb c_10 n_11 c_13 n_14 c_16 n_17 c_19)
              refine lv_aload_n hx hb dX12_joined_68 rfl (lv_at hl 0 rfl) ?_
              refine va_get (D := D) (ci := 12) (v := .int (im_9 56)) (C := RX12) (T := TX12) (N := 81) hx hb hts inT_X12 hown hK.1 hP 0 rfl rfl 56 (by decide) (hts _ k_1409) (fun _ h9 => h9) rfl dX12_joined_69 ?_
              refine lv_goto (tgt := 91) hx hb dX12_joined_72 (by decide) ?_
              exact W.iret (v := im_9 56) hx hb hr (fun tt9 ht hW => ⟨⟨(im_9 56 : Int32), ((im_9 : Nat → Int32), (m_gaps_9 : Nat → Int32)), rfl, (lf_X12_joined_31 h q im md m_hasMark m_markAcross m_markDeep m_gaps (nI ff2) (nI gg2) (nI tn3) hf_md hmd ff2 gg2 hff2 hgg2 c_5 tn3 tn3a tn3b rfl im_9 bn_9 m_gaps_9 hz_9_0 hz_9_1 hz_9_2 hsb c_10 n_11 c_13 n_14 c_16 n_17 c_19 n_29 hk_9_50), ⟨by rw [ht]; exact hP, hD⟩⟩, hS.F ht⟩) hS.2.2 dX12_joined_91 hlocks
          · have n_32 : tn3 = 0 := (lf_X12_joined_33 h q im md m_hasMark m_markAcross m_markDeep m_gaps (nI ff2) (nI gg2) (nI tn3) hf_md hmd ff2 gg2 hff2 hgg2 c_5 tn3 tn3a tn3b rfl im_9 bn_9 m_gaps_9 hz_9_0 hz_9_1 hz_9_2 hsb c_10 n_11 c_13 n_14 c_16)
            refine lv_aload_n hx hb dX12_joined_56 rfl (lv_at hl 0 rfl) ?_
            refine va_get (D := D) (ci := 12) (v := .int (im_9 55)) (C := RX12) (T := TX12) (N := 81) hx hb hts inT_X12 hown hK.1 hP 0 rfl rfl 55 (by decide) (hts _ k_1408) (fun _ h9 => h9) rfl dX12_joined_57 ?_
            refine lv_goto (tgt := 91) hx hb dX12_joined_60 (by decide) ?_
            exact W.iret (v := im_9 55) hx hb hr (fun tt9 ht hW => ⟨⟨(im_9 55 : Int32), ((im_9 : Nat → Int32), (m_gaps_9 : Nat → Int32)), rfl, (lf_X12_joined_34 h q im md m_hasMark m_markAcross m_markDeep m_gaps (nI ff2) (nI gg2) (nI tn3) hf_md hmd ff2 gg2 hff2 hgg2 c_5 tn3 tn3a tn3b rfl im_9 bn_9 m_gaps_9 hz_9_0 hz_9_1 hz_9_2 hsb c_10 n_11 c_13 n_14 c_16 n_32 hk_9_50), ⟨by rw [ht]; exact hP, hD⟩⟩, hS.F ht⟩) hS.2.2 dX12_joined_91 hlocks
        · have n_35 : bn_9 = 0 := (lf_X12_joined_36 h q im md m_hasMark m_markAcross m_markDeep m_gaps (nI ff2) (nI gg2) (nI tn3) hf_md hmd ff2 gg2 hff2 hgg2 c_5 tn3 tn3a tn3b rfl im_9 bn_9 m_gaps_9 hz_9_0 hz_9_1 hz_9_2 hsb c_10 n_11 c_13)
          refine lv_ldcw (v := (-1000000)) hx hb hown (hts _ k_1874) dX12_joined_48 ?_
          exact W.iret (v := (-1000000)) hx hb hr (fun tt9 ht hW => ⟨⟨((-1000000) : Int32), ((im_9 : Nat → Int32), (m_gaps_9 : Nat → Int32)), rfl, (lf_X12_joined_37 h q im md m_hasMark m_markAcross m_markDeep m_gaps (nI ff2) (nI gg2) (nI tn3) hf_md hmd ff2 gg2 hff2 hgg2 c_5 tn3 tn3a tn3b rfl im_9 bn_9 m_gaps_9 hz_9_0 hz_9_1 hz_9_2 hsb c_10 n_11 c_13 n_35 hk_9_50), ⟨by rw [ht]; exact hP, hD⟩⟩, hS.F ht⟩) hS.2.2 dX12_joined_51 hlocks
      · have n_38 : tn3 = 2 := (lf_X12_joined_39 h q im md m_hasMark m_markAcross m_markDeep m_gaps (nI ff2) (nI gg2) (nI tn3) hf_md hmd ff2 gg2 hff2 hgg2 c_5 tn3 tn3a tn3b rfl im_9 bn_9 m_gaps_9 hz_9_0 hz_9_1 hz_9_2 hsb c_10)
        refine lv_aload_n hx hb dX12_joined_36 rfl (lv_at hl 0 rfl) ?_
        refine va_get (D := D) (ci := 12) (v := .int (im_9 54)) (C := RX12) (T := TX12) (N := 81) hx hb hts inT_X12 hown hK.1 hP 0 rfl rfl 54 (by decide) (hts _ k_1407) (fun _ h9 => h9) rfl dX12_joined_37 ?_
        refine lv_topv (y := nI bn_9) hz_9_1 ?_
        exact W.iret (v := nI bn_9) hx hb hr (fun tt9 ht hW => ⟨⟨(nI bn_9 : Int32), ((im_9 : Nat → Int32), (m_gaps_9 : Nat → Int32)), rfl, (lf_X12_joined_40 h q im md m_hasMark m_markAcross m_markDeep m_gaps (nI ff2) (nI gg2) (nI tn3) hf_md hmd ff2 gg2 hff2 hgg2 c_5 tn3 tn3a tn3b rfl im_9 bn_9 m_gaps_9 hz_9_0 hz_9_1 hz_9_2 hsb c_10 n_38 hk_9_50), ⟨by rw [ht]; exact hP, hD⟩⟩, hS.F ht⟩) hS.2.2 dX12_joined_40 hlocks
    · refine lv_ldcw (v := (-1000000)) hx hb hown (hts _ k_1874) dX12_joined_21 ?_
      exact W.iret (v := (-1000000)) hx hb hr (fun tt9 ht hW => ⟨⟨((-1000000) : Int32), ((im : Nat → Int32), (m_gaps : Nat → Int32)), rfl, (lf_X12_joined_41 h q im md m_hasMark m_markAcross m_markDeep m_gaps (nI ff2) (nI gg2) n3 hf_md hmd hsb ff2 gg2 hff2 hgg2 c_5), ⟨by rw [ht]; exact hP, hD⟩⟩, hS.F ht⟩) hS.2.2 dX12_joined_24 hlocks

theorem lf_X12_off_1 (h : Nat) (q : Nat → Nat) (im : Nat → Int32) (md : Nat) (m_hasMark : Nat → Int32) (m_markAcross : Nat → Int32) (m_markDeep : Nat → Int32) (m_gaps : Nat → Int32) (n1 : Int32) (n2 : Int32) (n3 : Int32) (hf_md : im 50 = nI md) (hmd : md ≤ 4) (hsb : SB [54, 55, 56, 57, 58] im im) : md ≤ 4 := by
  first | assumption | omega | decide | rfl
theorem lf_X12_off_3 (h : Nat) (q : Nat → Nat) (im : Nat → Int32) (md : Nat) (m_hasMark : Nat → Int32) (m_markAcross : Nat → Int32) (m_markDeep : Nat → Int32) (m_gaps : Nat → Int32) (n1 : Int32) (n2 : Int32) (n3 : Int32) (hf_md : im 50 = nI md) (hmd : md ≤ 4) (hsb : SB [54, 55, 56, 57, 58] im im) : (SB [54, 55, 56, 57, 58] im (im : Nat → Int32)) := by
  repeat' apply And.intro
  all_goals first | assumption | omega | rfl | trivial
theorem lf_X12_off_6 (h : Nat) (q : Nat → Nat) (im : Nat → Int32) (md : Nat) (m_hasMark : Nat → Int32) (m_markAcross : Nat → Int32) (m_markDeep : Nat → Int32) (m_gaps : Nat → Int32) (n1 : Int32) (n2 : Int32) (n3 : Int32) (hf_md : im 50 = nI md) (hmd : md ≤ 4) (hsb : SB [54, 55, 56, 57, 58] im im) (ff2 : Nat) (gg2 : Nat) (hff2 : ff2 < md) (hgg2 : gg2 < md) (c_5 : (0 : Int32) ≤ n3 ∧ n3 ≤ 12000) (tn3 : Nat) (tn3a : 0 ≤ tn3) (tn3b : tn3 ≤ 12000) (tn3e : n3 = nI tn3) : ff2 < 4 := by
  first | assumption | omega | decide | rfl
theorem lf_X12_off_7 (h : Nat) (q : Nat → Nat) (im : Nat → Int32) (md : Nat) (m_hasMark : Nat → Int32) (m_markAcross : Nat → Int32) (m_markDeep : Nat → Int32) (m_gaps : Nat → Int32) (n1 : Int32) (n2 : Int32) (n3 : Int32) (hf_md : im 50 = nI md) (hmd : md ≤ 4) (hsb : SB [54, 55, 56, 57, 58] im im) (ff2 : Nat) (gg2 : Nat) (hff2 : ff2 < md) (hgg2 : gg2 < md) (c_5 : (0 : Int32) ≤ n3 ∧ n3 ≤ 12000) (tn3 : Nat) (tn3a : 0 ≤ tn3) (tn3b : tn3 ≤ 12000) (tn3e : n3 = nI tn3) : gg2 < 4 := by
  first | assumption | omega | decide | rfl
theorem lf_X12_off_12 (h : Nat) (q : Nat → Nat) (im : Nat → Int32) (md : Nat) (m_hasMark : Nat → Int32) (m_markAcross : Nat → Int32) (m_markDeep : Nat → Int32) (m_gaps : Nat → Int32) (n1 : Int32) (n2 : Int32) (n3 : Int32) (hf_md : im 50 = nI md) (hmd : md ≤ 4) (ff2 : Nat) (gg2 : Nat) (hff2 : ff2 < md) (hgg2 : gg2 < md) (c_5 : (0 : Int32) ≤ n3 ∧ n3 ≤ 12000) (tn3 : Nat) (tn3a : 0 ≤ tn3) (tn3b : tn3 ≤ 12000) (tn3e : n3 = nI tn3) (im_9 : Nat → Int32) (bn_9 : Nat) (m_gaps_9 : Nat → Int32) (hz_9_0 : SB [54, 55, 56, 57, 58] im im_9) (hz_9_1 : im_9 54 = nI bn_9) (hz_9_2 : bn_9 ≤ 384) (hsb : SB [54, 55, 56, 57, 58] im im_9) (c_10 : ¬ nI bn_9 = 0) : bn_9 ≠ 0 := by
  exact fun q => c_10 ((nI_eq (a := bn_9) (b := 0) (by omega) (by omega)).mpr q)
theorem lf_X12_off_15 (h : Nat) (q : Nat → Nat) (im : Nat → Int32) (md : Nat) (m_hasMark : Nat → Int32) (m_markAcross : Nat → Int32) (m_markDeep : Nat → Int32) (m_gaps : Nat → Int32) (n1 : Int32) (n2 : Int32) (n3 : Int32) (hf_md : im 50 = nI md) (hmd : md ≤ 4) (ff2 : Nat) (gg2 : Nat) (hff2 : ff2 < md) (hgg2 : gg2 < md) (c_5 : (0 : Int32) ≤ n3 ∧ n3 ≤ 12000) (tn3 : Nat) (tn3a : 0 ≤ tn3) (tn3b : tn3 ≤ 12000) (tn3e : n3 = nI tn3) (im_9 : Nat → Int32) (bn_9 : Nat) (m_gaps_9 : Nat → Int32) (hz_9_0 : SB [54, 55, 56, 57, 58] im im_9) (hz_9_1 : im_9 54 = nI bn_9) (hz_9_2 : bn_9 ≤ 384) (hsb : SB [54, 55, 56, 57, 58] im im_9) (c_10 : ¬ nI bn_9 = 0) (n_11 : bn_9 ≠ 0) (j1 : Nat) (w1 : Int32) (k44 : Nat) (hj44 : j1 ≤ 384) (hk44 : 384 < j1 + (k44 + 1)) (c_13 : 384 ≤ nI j1) : 384 ≤ j1 := by
  exact (nI_leI (a := 384) (b := j1) (by omega) (by omega)).mp c_13
theorem lf_X12_off_16 (h : Nat) (q : Nat → Nat) (im : Nat → Int32) (md : Nat) (m_hasMark : Nat → Int32) (m_markAcross : Nat → Int32) (m_markDeep : Nat → Int32) (m_gaps : Nat → Int32) (n1 : Int32) (n2 : Int32) (n3 : Int32) (hf_md : im 50 = nI md) (hmd : md ≤ 4) (ff2 : Nat) (gg2 : Nat) (hff2 : ff2 < md) (hgg2 : gg2 < md) (c_5 : (0 : Int32) ≤ n3 ∧ n3 ≤ 12000) (tn3 : Nat) (tn3a : 0 ≤ tn3) (tn3b : tn3 ≤ 12000) (tn3e : n3 = nI tn3) (im_9 : Nat → Int32) (bn_9 : Nat) (m_gaps_9 : Nat → Int32) (hz_9_0 : SB [54, 55, 56, 57, 58] im im_9) (hz_9_1 : im_9 54 = nI bn_9) (hz_9_2 : bn_9 ≤ 384) (hsb : SB [54, 55, 56, 57, 58] im im_9) (c_10 : ¬ nI bn_9 = 0) (n_11 : bn_9 ≠ 0) (j1 : Nat) (w1 : Int32) (k44 : Nat) (hj44 : j1 ≤ 384) (hk44 : 384 < j1 + (k44 + 1)) (c_13 : 384 ≤ nI j1) (n_14 : 384 ≤ j1) (hk_9_50 : im_9 50 = nI md) : (SB [54, 55, 56, 57, 58] im (im_9 : Nat → Int32)) := by
  repeat' apply And.intro
  all_goals first | assumption | omega | rfl | trivial
theorem lf_X12_off_18 (h : Nat) (q : Nat → Nat) (im : Nat → Int32) (md : Nat) (m_hasMark : Nat → Int32) (m_markAcross : Nat → Int32) (m_markDeep : Nat → Int32) (m_gaps : Nat → Int32) (n1 : Int32) (n2 : Int32) (n3 : Int32) (hf_md : im 50 = nI md) (hmd : md ≤ 4) (ff2 : Nat) (gg2 : Nat) (hff2 : ff2 < md) (hgg2 : gg2 < md) (c_5 : (0 : Int32) ≤ n3 ∧ n3 ≤ 12000) (tn3 : Nat) (tn3a : 0 ≤ tn3) (tn3b : tn3 ≤ 12000) (tn3e : n3 = nI tn3) (im_9 : Nat → Int32) (bn_9 : Nat) (m_gaps_9 : Nat → Int32) (hz_9_0 : SB [54, 55, 56, 57, 58] im im_9) (hz_9_1 : im_9 54 = nI bn_9) (hz_9_2 : bn_9 ≤ 384) (hsb : SB [54, 55, 56, 57, 58] im im_9) (c_10 : ¬ nI bn_9 = 0) (n_11 : bn_9 ≠ 0) (j1 : Nat) (w1 : Int32) (k44 : Nat) (hj44 : j1 ≤ 384) (hk44 : 384 < j1 + (k44 + 1)) (c_13 : ¬ 384 ≤ nI j1) : j1 < 384 := by
  exact Nat.lt_of_not_le (fun q => c_13 ((nI_leI (a := 384) (b := j1) (by omega) (by omega)).mpr q))
theorem lf_X12_off_19 (h : Nat) (q : Nat → Nat) (im : Nat → Int32) (md : Nat) (m_hasMark : Nat → Int32) (m_markAcross : Nat → Int32) (m_markDeep : Nat → Int32) (m_gaps : Nat → Int32) (n1 : Int32) (n2 : Int32) (n3 : Int32) (hf_md : im 50 = nI md) (hmd : md ≤ 4) (ff2 : Nat) (gg2 : Nat) (hff2 : ff2 < md) (hgg2 : gg2 < md) (c_5 : (0 : Int32) ≤ n3 ∧ n3 ≤ 12000) (tn3 : Nat) (tn3a : 0 ≤ tn3) (tn3b : tn3 ≤ 12000) (tn3e : n3 = nI tn3) (im_9 : Nat → Int32) (bn_9 : Nat) (m_gaps_9 : Nat → Int32) (hz_9_0 : SB [54, 55, 56, 57, 58] im im_9) (hz_9_1 : im_9 54 = nI bn_9) (hz_9_2 : bn_9 ≤ 384) (hsb : SB [54, 55, 56, 57, 58] im im_9) (c_10 : ¬ nI bn_9 = 0) (n_11 : bn_9 ≠ 0) (j1 : Nat) (w1 : Int32) (k44 : Nat) (hj44 : j1 ≤ 384) (hk44 : 384 < j1 + (k44 + 1)) (c_13 : ¬ 384 ≤ nI j1) (n_17 : j1 < 384) : ff2 < 4 := by
  first | assumption | omega | decide | rfl
theorem lf_X12_off_20 (h : Nat) (q : Nat → Nat) (im : Nat → Int32) (md : Nat) (m_hasMark : Nat → Int32) (m_markAcross : Nat → Int32) (m_markDeep : Nat → Int32) (m_gaps : Nat → Int32) (n1 : Int32) (n2 : Int32) (n3 : Int32) (hf_md : im 50 = nI md) (hmd : md ≤ 4) (ff2 : Nat) (gg2 : Nat) (hff2 : ff2 < md) (hgg2 : gg2 < md) (c_5 : (0 : Int32) ≤ n3 ∧ n3 ≤ 12000) (tn3 : Nat) (tn3a : 0 ≤ tn3) (tn3b : tn3 ≤ 12000) (tn3e : n3 = nI tn3) (im_9 : Nat → Int32) (bn_9 : Nat) (m_gaps_9 : Nat → Int32) (hz_9_0 : SB [54, 55, 56, 57, 58] im im_9) (hz_9_1 : im_9 54 = nI bn_9) (hz_9_2 : bn_9 ≤ 384) (hsb : SB [54, 55, 56, 57, 58] im im_9) (c_10 : ¬ nI bn_9 = 0) (n_11 : bn_9 ≠ 0) (j1 : Nat) (w1 : Int32) (k44 : Nat) (hj44 : j1 ≤ 384) (hk44 : 384 < j1 + (k44 + 1)) (c_13 : ¬ 384 ≤ nI j1) (n_17 : j1 < 384) : gg2 < 4 := by
  first | assumption | omega | decide | rfl
theorem lf_X12_off_21 (h : Nat) (q : Nat → Nat) (im : Nat → Int32) (md : Nat) (m_hasMark : Nat → Int32) (m_markAcross : Nat → Int32) (m_markDeep : Nat → Int32) (m_gaps : Nat → Int32) (n1 : Int32) (n2 : Int32) (n3 : Int32) (hf_md : im 50 = nI md) (hmd : md ≤ 4) (ff2 : Nat) (gg2 : Nat) (hff2 : ff2 < md) (hgg2 : gg2 < md) (c_5 : (0 : Int32) ≤ n3 ∧ n3 ≤ 12000) (tn3 : Nat) (tn3a : 0 ≤ tn3) (tn3b : tn3 ≤ 12000) (tn3e : n3 = nI tn3) (im_9 : Nat → Int32) (bn_9 : Nat) (m_gaps_9 : Nat → Int32) (hz_9_0 : SB [54, 55, 56, 57, 58] im im_9) (hz_9_1 : im_9 54 = nI bn_9) (hz_9_2 : bn_9 ≤ 384) (hsb : SB [54, 55, 56, 57, 58] im im_9) (c_10 : ¬ nI bn_9 = 0) (n_11 : bn_9 ≠ 0) (j1 : Nat) (w1 : Int32) (k44 : Nat) (hj44 : j1 ≤ 384) (hk44 : 384 < j1 + (k44 + 1)) (c_13 : ¬ 384 ≤ nI j1) (n_17 : j1 < 384) : j1 < 384 := by
  first | assumption | omega | decide | rfl
theorem lf_X12_off_24 (h : Nat) (q : Nat → Nat) (im : Nat → Int32) (md : Nat) (m_hasMark : Nat → Int32) (m_markAcross : Nat → Int32) (m_markDeep : Nat → Int32) (m_gaps : Nat → Int32) (n1 : Int32) (n2 : Int32) (n3 : Int32) (hf_md : im 50 = nI md) (hmd : md ≤ 4) (ff2 : Nat) (gg2 : Nat) (hff2 : ff2 < md) (hgg2 : gg2 < md) (c_5 : (0 : Int32) ≤ n3 ∧ n3 ≤ 12000) (tn3 : Nat) (tn3a : 0 ≤ tn3) (tn3b : tn3 ≤ 12000) (tn3e : n3 = nI tn3) (im_9 : Nat → Int32) (bn_9 : Nat) (m_gaps_9 : Nat → Int32) (hz_9_0 : SB [54, 55, 56, 57, 58] im im_9) (hz_9_1 : im_9 54 = nI bn_9) (hz_9_2 : bn_9 ≤ 384) (hsb : SB [54, 55, 56, 57, 58] im im_9) (c_10 : ¬ nI bn_9 = 0) (n_11 : bn_9 ≠ 0) (j1 : Nat) (w1 : Int32) (k44 : Nat) (hj44 : j1 ≤ 384) (hk44 : 384 < j1 + (k44 + 1)) (c_13 : ¬ 384 ≤ nI j1) (n_17 : j1 < 384) (r_22 : Int32) (c_23 : ¬ r_22 = 0) : ff2 < 4 := by
  first | assumption | omega | decide | rfl
theorem lf_X12_off_25 (h : Nat) (q : Nat → Nat) (im : Nat → Int32) (md : Nat) (m_hasMark : Nat → Int32) (m_markAcross : Nat → Int32) (m_markDeep : Nat → Int32) (m_gaps : Nat → Int32) (n1 : Int32) (n2 : Int32) (n3 : Int32) (hf_md : im 50 = nI md) (hmd : md ≤ 4) (ff2 : Nat) (gg2 : Nat) (hff2 : ff2 < md) (hgg2 : gg2 < md) (c_5 : (0 : Int32) ≤ n3 ∧ n3 ≤ 12000) (tn3 : Nat) (tn3a : 0 ≤ tn3) (tn3b : tn3 ≤ 12000) (tn3e : n3 = nI tn3) (im_9 : Nat → Int32) (bn_9 : Nat) (m_gaps_9 : Nat → Int32) (hz_9_0 : SB [54, 55, 56, 57, 58] im im_9) (hz_9_1 : im_9 54 = nI bn_9) (hz_9_2 : bn_9 ≤ 384) (hsb : SB [54, 55, 56, 57, 58] im im_9) (c_10 : ¬ nI bn_9 = 0) (n_11 : bn_9 ≠ 0) (j1 : Nat) (w1 : Int32) (k44 : Nat) (hj44 : j1 ≤ 384) (hk44 : 384 < j1 + (k44 + 1)) (c_13 : ¬ 384 ≤ nI j1) (n_17 : j1 < 384) (r_22 : Int32) (c_23 : ¬ r_22 = 0) : gg2 < 4 := by
  first | assumption | omega | decide | rfl
theorem lf_X12_off_26 (h : Nat) (q : Nat → Nat) (im : Nat → Int32) (md : Nat) (m_hasMark : Nat → Int32) (m_markAcross : Nat → Int32) (m_markDeep : Nat → Int32) (m_gaps : Nat → Int32) (n1 : Int32) (n2 : Int32) (n3 : Int32) (hf_md : im 50 = nI md) (hmd : md ≤ 4) (ff2 : Nat) (gg2 : Nat) (hff2 : ff2 < md) (hgg2 : gg2 < md) (c_5 : (0 : Int32) ≤ n3 ∧ n3 ≤ 12000) (tn3 : Nat) (tn3a : 0 ≤ tn3) (tn3b : tn3 ≤ 12000) (tn3e : n3 = nI tn3) (im_9 : Nat → Int32) (bn_9 : Nat) (m_gaps_9 : Nat → Int32) (hz_9_0 : SB [54, 55, 56, 57, 58] im im_9) (hz_9_1 : im_9 54 = nI bn_9) (hz_9_2 : bn_9 ≤ 384) (hsb : SB [54, 55, 56, 57, 58] im im_9) (c_10 : ¬ nI bn_9 = 0) (n_11 : bn_9 ≠ 0) (j1 : Nat) (w1 : Int32) (k44 : Nat) (hj44 : j1 ≤ 384) (hk44 : 384 < j1 + (k44 + 1)) (c_13 : ¬ 384 ≤ nI j1) (n_17 : j1 < 384) (r_22 : Int32) (c_23 : ¬ r_22 = 0) : j1 < 384 := by
  first | assumption | omega | decide | rfl
theorem lf_X12_off_32 (h : Nat) (q : Nat → Nat) (im : Nat → Int32) (md : Nat) (m_hasMark : Nat → Int32) (m_markAcross : Nat → Int32) (m_markDeep : Nat → Int32) (m_gaps : Nat → Int32) (n1 : Int32) (n2 : Int32) (n3 : Int32) (hf_md : im 50 = nI md) (hmd : md ≤ 4) (ff2 : Nat) (gg2 : Nat) (hff2 : ff2 < md) (hgg2 : gg2 < md) (c_5 : (0 : Int32) ≤ n3 ∧ n3 ≤ 12000) (tn3 : Nat) (tn3a : 0 ≤ tn3) (tn3b : tn3 ≤ 12000) (tn3e : n3 = nI tn3) (im_9 : Nat → Int32) (bn_9 : Nat) (m_gaps_9 : Nat → Int32) (hz_9_0 : SB [54, 55, 56, 57, 58] im im_9) (hz_9_1 : im_9 54 = nI bn_9) (hz_9_2 : bn_9 ≤ 384) (hsb : SB [54, 55, 56, 57, 58] im im_9) (c_10 : ¬ nI bn_9 = 0) (n_11 : bn_9 ≠ 0) (j1 : Nat) (w1 : Int32) (k44 : Nat) (hj44 : j1 ≤ 384) (hk44 : 384 < j1 + (k44 + 1)) (c_13 : ¬ 384 ≤ nI j1) (n_17 : j1 < 384) (r_22 : Int32) (c_23 : ¬ r_22 = 0) (r_27 : Int32) (x_28 : Int32) (ex_28 : x_28 = r_27 - im_9 55) (r_29 : Int32) (c_30 : ¬ nI tn3 < r_29) : ff2 < 4 := by
  first | assumption | omega | decide | rfl
theorem lf_X12_off_33 (h : Nat) (q : Nat → Nat) (im : Nat → Int32) (md : Nat) (m_hasMark : Nat → Int32) (m_markAcross : Nat → Int32) (m_markDeep : Nat → Int32) (m_gaps : Nat → Int32) (n1 : Int32) (n2 : Int32) (n3 : Int32) (hf_md : im 50 = nI md) (hmd : md ≤ 4) (ff2 : Nat) (gg2 : Nat) (hff2 : ff2 < md) (hgg2 : gg2 < md) (c_5 : (0 : Int32) ≤ n3 ∧ n3 ≤ 12000) (tn3 : Nat) (tn3a : 0 ≤ tn3) (tn3b : tn3 ≤ 12000) (tn3e : n3 = nI tn3) (im_9 : Nat → Int32) (bn_9 : Nat) (m_gaps_9 : Nat → Int32) (hz_9_0 : SB [54, 55, 56, 57, 58] im im_9) (hz_9_1 : im_9 54 = nI bn_9) (hz_9_2 : bn_9 ≤ 384) (hsb : SB [54, 55, 56, 57, 58] im im_9) (c_10 : ¬ nI bn_9 = 0) (n_11 : bn_9 ≠ 0) (j1 : Nat) (w1 : Int32) (k44 : Nat) (hj44 : j1 ≤ 384) (hk44 : 384 < j1 + (k44 + 1)) (c_13 : ¬ 384 ≤ nI j1) (n_17 : j1 < 384) (r_22 : Int32) (c_23 : ¬ r_22 = 0) (r_27 : Int32) (x_28 : Int32) (ex_28 : x_28 = r_27 - im_9 55) (r_29 : Int32) (c_30 : ¬ nI tn3 < r_29) : gg2 < 4 := by
  first | assumption | omega | decide | rfl
theorem lf_X12_off_34 (h : Nat) (q : Nat → Nat) (im : Nat → Int32) (md : Nat) (m_hasMark : Nat → Int32) (m_markAcross : Nat → Int32) (m_markDeep : Nat → Int32) (m_gaps : Nat → Int32) (n1 : Int32) (n2 : Int32) (n3 : Int32) (hf_md : im 50 = nI md) (hmd : md ≤ 4) (ff2 : Nat) (gg2 : Nat) (hff2 : ff2 < md) (hgg2 : gg2 < md) (c_5 : (0 : Int32) ≤ n3 ∧ n3 ≤ 12000) (tn3 : Nat) (tn3a : 0 ≤ tn3) (tn3b : tn3 ≤ 12000) (tn3e : n3 = nI tn3) (im_9 : Nat → Int32) (bn_9 : Nat) (m_gaps_9 : Nat → Int32) (hz_9_0 : SB [54, 55, 56, 57, 58] im im_9) (hz_9_1 : im_9 54 = nI bn_9) (hz_9_2 : bn_9 ≤ 384) (hsb : SB [54, 55, 56, 57, 58] im im_9) (c_10 : ¬ nI bn_9 = 0) (n_11 : bn_9 ≠ 0) (j1 : Nat) (w1 : Int32) (k44 : Nat) (hj44 : j1 ≤ 384) (hk44 : 384 < j1 + (k44 + 1)) (c_13 : ¬ 384 ≤ nI j1) (n_17 : j1 < 384) (r_22 : Int32) (c_23 : ¬ r_22 = 0) (r_27 : Int32) (x_28 : Int32) (ex_28 : x_28 = r_27 - im_9 55) (r_29 : Int32) (c_30 : ¬ nI tn3 < r_29) : j1 < 384 := by
  first | assumption | omega | decide | rfl
theorem lf_X12_off_41 (h : Nat) (q : Nat → Nat) (im : Nat → Int32) (md : Nat) (m_hasMark : Nat → Int32) (m_markAcross : Nat → Int32) (m_markDeep : Nat → Int32) (m_gaps : Nat → Int32) (n1 : Int32) (n2 : Int32) (n3 : Int32) (hf_md : im 50 = nI md) (hmd : md ≤ 4) (ff2 : Nat) (gg2 : Nat) (hff2 : ff2 < md) (hgg2 : gg2 < md) (c_5 : (0 : Int32) ≤ n3 ∧ n3 ≤ 12000) (tn3 : Nat) (tn3a : 0 ≤ tn3) (tn3b : tn3 ≤ 12000) (tn3e : n3 = nI tn3) (im_9 : Nat → Int32) (bn_9 : Nat) (m_gaps_9 : Nat → Int32) (hz_9_0 : SB [54, 55, 56, 57, 58] im im_9) (hz_9_1 : im_9 54 = nI bn_9) (hz_9_2 : bn_9 ≤ 384) (hsb : SB [54, 55, 56, 57, 58] im im_9) (c_10 : nI bn_9 = 0) : bn_9 = 0 := by
  exact (nI_eq (a := bn_9) (b := 0) (by omega) (by omega)).mp c_10
theorem lf_X12_off_42 (h : Nat) (q : Nat → Nat) (im : Nat → Int32) (md : Nat) (m_hasMark : Nat → Int32) (m_markAcross : Nat → Int32) (m_markDeep : Nat → Int32) (m_gaps : Nat → Int32) (n1 : Int32) (n2 : Int32) (n3 : Int32) (hf_md : im 50 = nI md) (hmd : md ≤ 4) (ff2 : Nat) (gg2 : Nat) (hff2 : ff2 < md) (hgg2 : gg2 < md) (c_5 : (0 : Int32) ≤ n3 ∧ n3 ≤ 12000) (tn3 : Nat) (tn3a : 0 ≤ tn3) (tn3b : tn3 ≤ 12000) (tn3e : n3 = nI tn3) (im_9 : Nat → Int32) (bn_9 : Nat) (m_gaps_9 : Nat → Int32) (hz_9_0 : SB [54, 55, 56, 57, 58] im im_9) (hz_9_1 : im_9 54 = nI bn_9) (hz_9_2 : bn_9 ≤ 384) (hsb : SB [54, 55, 56, 57, 58] im im_9) (c_10 : nI bn_9 = 0) (n_40 : bn_9 = 0) (hk_9_50 : im_9 50 = nI md) : (SB [54, 55, 56, 57, 58] im (im_9 : Nat → Int32)) := by
  repeat' apply And.intro
  all_goals first | assumption | omega | rfl | trivial
theorem lf_X12_off_43 (h : Nat) (q : Nat → Nat) (im : Nat → Int32) (md : Nat) (m_hasMark : Nat → Int32) (m_markAcross : Nat → Int32) (m_markDeep : Nat → Int32) (m_gaps : Nat → Int32) (n1 : Int32) (n2 : Int32) (n3 : Int32) (hf_md : im 50 = nI md) (hmd : md ≤ 4) (hsb : SB [54, 55, 56, 57, 58] im im) (ff2 : Nat) (gg2 : Nat) (hff2 : ff2 < md) (hgg2 : gg2 < md) (c_5 : ¬ ((0 : Int32) ≤ n3 ∧ n3 ≤ 12000)) : (SB [54, 55, 56, 57, 58] im (im : Nat → Int32)) := by
  repeat' apply And.intro
  all_goals first | assumption | omega | rfl | trivial
set_option maxHeartbeats 4000000 in
set_option maxRecDepth 100000 in
theorem c_X12_off (l : Launch) (D : va_G) (cI cB cZ cJ : ClassId) (tx : List (ClassId × FieldType)) (h : Nat) (q : Nat → Nat) (im : Nat → Int32) (md : Nat) (m_hasMark : Nat → Int32) (m_markAcross : Nat → Int32) (m_markDeep : Nat → Int32) (m_gaps : Nat → Int32) (n1 : Int32) (n2 : Int32) (n3 : Int32) (hf_md : im 50 = nI md) (hmd : md ≤ 4) : WrI l D cI cB cZ cJ tx yX12_off cX12_off 6 (some .int) 3 0 0 [.ref h, .int n1, .int n2, .int n3] [(h, .inr (12, mG q im)), (q 51, .inl (cZ, 1536, .inl m_hasMark)), (q 52, .inl (cI, 1536, .inl m_markAcross)), (q 53, .inl (cI, 1536, .inl m_markDeep)), (q 59, .inl (cI, 384, .inl m_gaps))] (fun (r : Int32) (v : (Nat → Int32) × (Nat → Int32)) => (SB [54, 55, 56, 57, 58] im v.1)) (fun v => [(h, .inr (12, mG q v.1)), (q 51, .inl (cZ, 1536, .inl m_hasMark)), (q 52, .inl (cI, 1536, .inl m_markAcross)), (q 53, .inl (cI, 1536, .inl m_markDeep)), (q 59, .inl (cI, 384, .inl v.2))]) := by
  refine wri_of2 (by decide) (Nat.le_of_ble_eq_true rfl) ?_
  intro p e s m below meth c A ls H locs hC hK hP hD hA hS hl
  obtain ⟨hx, hb, hr, hml, hown, hts, hlocks, hin⟩ := hC
  have hown : s.vm.findClass RX12 = some m.cls := hown
  have hl : lv_has ls 6 [(0, .ref h), (1, .int n1), (2, .int n2), (3, .int n3)] := hl
  have hsb : SB [54, 55, 56, 57, 58] im im := SB.rf
  refine lv_aload_n hx hb dX12_off_0 rfl (lv_at hl 0 rfl) ?_
  refine lv_iload_n hx hb dX12_off_1 rfl (lv_at hl 1 rfl) ?_
  refine lv_iload_n hx hb dX12_off_2 rfl (lv_at hl 2 rfl) ?_
  refine eRi (va_runV (As := [.int n1, .int n2]) (rest := []) ⟨hx, hb, hml, hown, hts⟩ (c_X12_areTwo l D cI cB cZ cJ tx h q im md n1 n2 hf_md (lf_X12_off_1 h q im md m_hasMark m_markAcross m_markDeep m_gaps n1 n2 n3 hf_md hmd hsb) H.size) (zV hts k_1869 v_X12_areTwo ⟨Nat.le_of_ble_eq_true rfl, Nat.le_of_ble_eq_true rfl⟩) (pV (px1 hK hP 0 rfl) hK hP 0 rfl rfl) rfl rfl hl.1 rfl (lv_room (Nat.le_of_ble_eq_true rfl)) dX12_off_3 ⟨Nat.le_of_ble_eq_true rfl, Nat.le_of_ble_eq_true rfl⟩) hP hS hA (fun r_2 H locs wr_2 hP hS => ?_)
  rcases wr_2 with rfl | ⟨ff2, gg2, hff2, hgg2, rfl, rfl, rfl⟩
  · refine lv_if_eq (tgt := 21) hx hb dX12_off_6 (by decide) (fun _ => ?_) (fun c => absurd c (by decide))
    refine lv_iconst (v := (-1)) hx hb dX12_off_21 (by decide) ?_
    exact W.iret (v := (-1)) hx hb hr (fun tt9 ht hW => ⟨⟨((-1) : Int32), ((im : Nat → Int32), (m_gaps : Nat → Int32)), rfl, (lf_X12_off_3 h q im md m_hasMark m_markAcross m_markDeep m_gaps n1 n2 n3 hf_md hmd hsb), ⟨by rw [ht]; exact hP, hD⟩⟩, hS.F ht⟩) hS.2.2 dX12_off_22 hlocks
  · refine lv_if_eq (tgt := 21) hx hb dX12_off_6 (by decide) (fun c => absurd c (by decide)) (fun _ => ?_)
    refine lv_iload_n hx hb dX12_off_9 rfl (lv_at hl 3 rfl) ?_
    refine lv_i2l (v := n3.toInt64) hx hb dX12_off_10 rfl ?_
    refine lv_lconst (v := 0) hx hb dX12_off_11 (by decide) ?_
    refine lv_ldc2 (v := 12000) hx hb hown (hts _ k_1902) dX12_off_12 ?_
    refine eRi (va_runS (As := [.long n3.toInt64, .long 0, .long 12000]) (rest := []) ⟨hx, hb, hml, hown, hts⟩ (c_X12_isIn l D cI cB cZ cJ tx n3.toInt64 0 12000 H.size) (zS hts k_1602 v_X12_isIn ⟨Nat.le_of_ble_eq_true rfl, Nat.le_of_ble_eq_true rfl⟩) (px0 hK) rfl rfl hl.1 rfl (lv_room (Nat.le_of_ble_eq_true rfl)) dX12_off_15 ⟨Nat.le_of_ble_eq_true rfl, Nat.le_of_ble_eq_true rfl⟩) hP hS hA (fun r_4 H locs wr_4 hP hS => ?_)
    have wr_4 : r_4 = bi ((0 : Int32) ≤ n3 ∧ n3 ≤ 12000) := isIn32 (lo := 0) (hi := 12000) (by decide) (by decide) wr_4
    subst wr_4
    refine lv_bi_ne (tgt := 23) hx hb dX12_off_18 (by decide) (fun c_5 => ?_) (fun c_5 => ?_)
    · obtain ⟨tn3, tn3a, tn3b, tn3e⟩ := of_rng 0 12000 rfl rfl c_5
      subst tn3e
      refine lv_aload_n hx hb dX12_off_23 rfl (lv_at hl 0 rfl) ?_
      refine lv_iload_n hx hb dX12_off_24 rfl (lv_at hl 1 rfl) ?_
      refine lv_iload_n hx hb dX12_off_25 rfl (lv_at hl 2 rfl) ?_
      refine eWv (wr := []) (va_runV (As := [.int (nI ff2), .int (nI gg2)]) (rest := []) ⟨hx, hb, hml, hown, hts⟩ (c_X12_joinsBoth l D cI cB cZ cJ tx h q im m_hasMark m_markAcross m_markDeep m_gaps ff2 gg2 (lf_X12_off_6 h q im md m_hasMark m_markAcross m_markDeep m_gaps (nI ff2) (nI gg2) (nI tn3) hf_md hmd hsb ff2 gg2 hff2 hgg2 c_5 tn3 tn3a tn3b rfl) (lf_X12_off_7 h q im md m_hasMark m_markAcross m_markDeep m_gaps (nI ff2) (nI gg2) (nI tn3) hf_md hmd hsb ff2 gg2 hff2 hgg2 c_5 tn3 tn3a tn3b rfl) H.size) (zV hts k_1875 v_X12_joinsBoth ⟨Nat.le_of_ble_eq_true rfl, Nat.le_of_ble_eq_true rfl⟩) (pV (pxS hK hP hD [0, 1, 2, 3, 4] (by decide) rfl) hK hP 0 rfl rfl) rfl rfl hl.1 rfl (lv_room (Nat.le_of_ble_eq_true rfl)) dX12_off_26 ⟨Nat.le_of_ble_eq_true rfl, Nat.le_of_ble_eq_true rfl⟩) hP hD hS hA [0, 1, 2, 3, 4] [] rfl rfl (by decide) (by decide) (fun u_9 H locs wr_8 hP hD hS => ?_)
      obtain ⟨im_9, bn_9, m_gaps_9⟩ := u_9
      have hz_9_0 : SB [54, 55, 56, 57, 58] im im_9 := wr_8.1
      have hz_9_1 : im_9 54 = nI bn_9 := wr_8.2.1
      have hz_9_2 : bn_9 ≤ 384 := wr_8.2.2
      have hk_9_50 : im_9 50 = nI md := (hz_9_0 50 (by decide)).trans hf_md
      have hsb := SB.step hsb hz_9_0 (by decide)
      have hP : va_P D vwCl [(h, .inr (12, mG q im_9)), (q 51, .inl (cZ, 1536, .inl m_hasMark)), (q 52, .inl (cI, 1536, .inl m_markAcross)), (q 53, .inl (cI, 1536, .inl m_markDeep)), (q 59, .inl (cI, 384, .inl m_gaps_9))] H := hP
      have hD : va_D A [(h, .inr (12, mG q im_9)), (q 51, .inl (cZ, 1536, .inl m_hasMark)), (q 52, .inl (cI, 1536, .inl m_markAcross)), (q 53, .inl (cI, 1536, .inl m_markDeep)), (q 59, .inl (cI, 384, .inl m_gaps_9))] := hD
      refine lv_aload_n hx hb dX12_off_29 rfl (lv_at hl 0 rfl) ?_
      refine va_get (D := D) (ci := 12) (v := .int (im_9 54)) (C := RX12) (T := TX12) (N := 81) hx hb hts inT_X12 hown hK.1 hP 0 rfl rfl 54 (by decide) (hts _ k_1407) (fun _ h9 => h9) rfl dX12_off_30 ?_
      refine lv_topv (y := nI bn_9) hz_9_1 ?_
      refine lv_if_ne (tgt := 38) hx hb dX12_off_33 (by decide) (fun c_10 => ?_) (fun c_10 => ?_)
      · have n_11 : bn_9 ≠ 0 := (lf_X12_off_12 h q im md m_hasMark m_markAcross m_markDeep m_gaps (nI ff2) (nI gg2) (nI tn3) hf_md hmd ff2 gg2 hff2 hgg2 c_5 tn3 tn3a tn3b rfl im_9 bn_9 m_gaps_9 hz_9_0 hz_9_1 hz_9_2 hsb c_10)
        refine lv_iconst (v := 0) hx hb dX12_off_38 (by decide) ?_
        refine lv_istore (lv' := [(4, .int 0), (0, .ref h), (1, .int (nI ff2)), (2, .int (nI gg2)), (3, .int (nI tn3))]) hx hb dX12_off_39 hl (by decide) rfl (fun ls hl => ?_)
        refine lv_iconst (v := 0) hx hb dX12_off_41 (by decide) ?_
        refine lv_istore (lv' := [(5, .int 0), (4, .int 0), (0, .ref h), (1, .int (nI ff2)), (2, .int (nI gg2)), (3, .int (nI tn3))]) hx hb dX12_off_42 hl (by decide) rfl (fun ls hl => ?_)
        have lp44 : ∀ (k44 : Nat) (j1 : Nat) (w1 : Int32) (H : Heap) (locs : List Loc) (ls : Array Slot), j1 ≤ 384 → 384 < j1 + k44 → va_P D vwCl [(h, .inr (12, mG q im_9)), (q 51, .inl (cZ, 1536, .inl m_hasMark)), (q 52, .inl (cI, 1536, .inl m_markAcross)), (q 53, .inl (cI, 1536, .inl m_markDeep)), (q 59, .inl (cI, 384, .inl m_gaps_9))] H → va_D A [(h, .inr (12, mG q im_9)), (q 51, .inl (cZ, 1536, .inl m_hasMark)), (q 52, .inl (cI, 1536, .inl m_markAcross)), (q 53, .inl (cI, 1536, .inl m_markDeep)), (q 59, .inl (cI, 384, .inl m_gaps_9))] → va_S A s.heap H locs → lv_has ls 6 [(5, .int (nI j1)), (4, .int w1), (0, .ref h), (1, .int (nI ff2)), (2, .int (nI gg2)), (3, .int (nI tn3))] → W p l e (rmX 3 0 0) s m ([.ref h, .int (nI ff2), .int (nI gg2), .int (nI tn3)] : List Value).toArray below meth c H locs 0 0 (MQ below (va_Qi (fun (r : Int32) (v : (Nat → Int32) × (Nat → Int32)) => (SB [54, 55, 56, 57, 58] im v.1)) (fun u => BX D A ((fun v => [(h, .inr (12, mG q v.1)), (q 51, .inl (cZ, 1536, .inl m_hasMark)), (q 52, .inl (cI, 1536, .inl m_markAcross)), (q 53, .inl (cI, 1536, .inl m_markDeep)), (q 59, .inl (cI, 384, .inl v.2))]) u)) A) ([.ref h, .int (nI ff2), .int (nI gg2), .int (nI tn3)] : List Value).toArray s 0 0 A) (F0 m 44 ls []) := by
          intro k44
          induction k44 with
          | zero =>
            intro j1 w1 H locs ls hj44 hk44  hP hD hS hl
            exact absurd hk44 (by omega)
          | succ k44 ih44 =>
            intro j1 w1 H locs ls hj44 hk44  hP hD hS hl
            refine lv_iload hx hb dX12_off_44 (lv_at hl 0 rfl) ?_
            refine lv_sipush (v := 384) hx hb dX12_off_46 (by decide) ?_
            refine lv_icmp_ge (tgt := 114) hx hb dX12_off_49 (by decide) (fun c_13 => ?_) (fun c_13 => ?_)
            · have n_14 : 384 ≤ j1 := (lf_X12_off_15 h q im md m_hasMark m_markAcross m_markDeep m_gaps (nI ff2) (nI gg2) (nI tn3) hf_md hmd ff2 gg2 hff2 hgg2 c_5 tn3 tn3a tn3b rfl im_9 bn_9 m_gaps_9 hz_9_0 hz_9_1 hz_9_2 hsb c_10 n_11 j1 w1 k44 hj44 hk44 c_13)
              refine lv_iload hx hb dX12_off_114 (lv_at hl 1 rfl) ?_
              exact W.iret (v := w1) hx hb hr (fun tt9 ht hW => ⟨⟨(w1 : Int32), ((im_9 : Nat → Int32), (m_gaps_9 : Nat → Int32)), rfl, (lf_X12_off_16 h q im md m_hasMark m_markAcross m_markDeep m_gaps (nI ff2) (nI gg2) (nI tn3) hf_md hmd ff2 gg2 hff2 hgg2 c_5 tn3 tn3a tn3b rfl im_9 bn_9 m_gaps_9 hz_9_0 hz_9_1 hz_9_2 hsb c_10 n_11 j1 w1 k44 hj44 hk44 c_13 n_14 hk_9_50), ⟨by rw [ht]; exact hP, hD⟩⟩, hS.F ht⟩) hS.2.2 dX12_off_116 hlocks
            · have n_17 : j1 < 384 := (lf_X12_off_18 h q im md m_hasMark m_markAcross m_markDeep m_gaps (nI ff2) (nI gg2) (nI tn3) hf_md hmd ff2 gg2 hff2 hgg2 c_5 tn3 tn3a tn3b rfl im_9 bn_9 m_gaps_9 hz_9_0 hz_9_1 hz_9_2 hsb c_10 n_11 j1 w1 k44 hj44 hk44 c_13)
              refine lv_aload_n hx hb dX12_off_52 rfl (lv_at hl 2 rfl) ?_
              refine lv_iload_n hx hb dX12_off_53 rfl (lv_at hl 3 rfl) ?_
              refine lv_iload_n hx hb dX12_off_54 rfl (lv_at hl 4 rfl) ?_
              refine lv_iload hx hb dX12_off_55 (lv_at hl 0 rfl) ?_
              refine eRi (va_runV (As := [.int (nI ff2), .int (nI gg2), .int (nI j1)]) (rest := []) ⟨hx, hb, hml, hown, hts⟩ (c_X12_hasBoth l D cI cB cZ cJ tx h q im_9 m_hasMark ff2 gg2 j1 (lf_X12_off_19 h q im md m_hasMark m_markAcross m_markDeep m_gaps (nI ff2) (nI gg2) (nI tn3) hf_md hmd ff2 gg2 hff2 hgg2 c_5 tn3 tn3a tn3b rfl im_9 bn_9 m_gaps_9 hz_9_0 hz_9_1 hz_9_2 hsb c_10 n_11 j1 w1 k44 hj44 hk44 c_13 n_17) (lf_X12_off_20 h q im md m_hasMark m_markAcross m_markDeep m_gaps (nI ff2) (nI gg2) (nI tn3) hf_md hmd ff2 gg2 hff2 hgg2 c_5 tn3 tn3a tn3b rfl im_9 bn_9 m_gaps_9 hz_9_0 hz_9_1 hz_9_2 hsb c_10 n_11 j1 w1 k44 hj44 hk44 c_13 n_17) (lf_X12_off_21 h q im md m_hasMark m_markAcross m_markDeep m_gaps (nI ff2) (nI gg2) (nI tn3) hf_md hmd ff2 gg2 hff2 hgg2 c_5 tn3 tn3a tn3b rfl im_9 bn_9 m_gaps_9 hz_9_0 hz_9_1 hz_9_2 hsb c_10 n_11 j1 w1 k44 hj44 hk44 c_13 n_17) H.size) (zV hts k_1883 v_X12_hasBoth ⟨Nat.le_of_ble_eq_true rfl, Nat.le_of_ble_eq_true rfl⟩) (pV (pxS hK hP hD [0, 1] (by decide) rfl) hK hP 0 rfl rfl) rfl rfl hl.1 rfl (lv_room (Nat.le_of_ble_eq_true rfl)) dX12_off_57 ⟨Nat.le_of_ble_eq_true rfl, Nat.le_of_ble_eq_true rfl⟩) hP hS hA (fun r_22 H locs wr_22 hP hS => ?_)
              refine lv_if_eq (tgt := 108) hx hb dX12_off_60 (by decide) (fun c_23 => ?_) (fun c_23 => ?_)
              · refine lv_iinc (v := nI (j1 + 1)) (lv' := [(5, .int (nI (j1 + 1))), (4, .int w1), (0, .ref h), (1, .int (nI ff2)), (2, .int (nI gg2)), (3, .int (nI tn3))]) hx hb dX12_off_108 hl (k := 0) rfl (nI_1 j1) (by decide) rfl (fun ls hl => ?_)
                refine lv_goto (tgt := 44) hx hb dX12_off_111 (by decide) ?_
                exact ih44 (j1 + 1) w1 H locs ls (by omega) (by omega)  (hP.sub [0, 1, 2, 3, 4] rfl) (hD.sub [0, 1, 2, 3, 4] (by decide) rfl) hS (lv_sub hl [0, 1, 2, 3, 4, 5] rfl)
              · refine lv_aload_n hx hb dX12_off_63 rfl (lv_at hl 2 rfl) ?_
                refine lv_iload_n hx hb dX12_off_64 rfl (lv_at hl 3 rfl) ?_
                refine lv_iload_n hx hb dX12_off_65 rfl (lv_at hl 4 rfl) ?_
                refine lv_iload hx hb dX12_off_66 (lv_at hl 0 rfl) ?_
                refine lv_iconst (v := 1) hx hb dX12_off_68 (by decide) ?_
                refine eRi (va_runV (As := [.int (nI ff2), .int (nI gg2), .int (nI j1), .int 1]) (rest := []) ⟨hx, hb, hml, hown, hts⟩ (c_X12_gapOf l D cI cB cZ cJ tx h q im_9 m_markAcross m_markDeep ff2 gg2 j1 1 (lf_X12_off_24 h q im md m_hasMark m_markAcross m_markDeep m_gaps (nI ff2) (nI gg2) (nI tn3) hf_md hmd ff2 gg2 hff2 hgg2 c_5 tn3 tn3a tn3b rfl im_9 bn_9 m_gaps_9 hz_9_0 hz_9_1 hz_9_2 hsb c_10 n_11 j1 w1 k44 hj44 hk44 c_13 n_17 r_22 c_23) (lf_X12_off_25 h q im md m_hasMark m_markAcross m_markDeep m_gaps (nI ff2) (nI gg2) (nI tn3) hf_md hmd ff2 gg2 hff2 hgg2 c_5 tn3 tn3a tn3b rfl im_9 bn_9 m_gaps_9 hz_9_0 hz_9_1 hz_9_2 hsb c_10 n_11 j1 w1 k44 hj44 hk44 c_13 n_17 r_22 c_23) (lf_X12_off_26 h q im md m_hasMark m_markAcross m_markDeep m_gaps (nI ff2) (nI gg2) (nI tn3) hf_md hmd ff2 gg2 hff2 hgg2 c_5 tn3 tn3a tn3b rfl im_9 bn_9 m_gaps_9 hz_9_0 hz_9_1 hz_9_2 hsb c_10 n_11 j1 w1 k44 hj44 hk44 c_13 n_17 r_22 c_23) H.size) (zV hts k_1887 v_X12_gapOf ⟨Nat.le_of_ble_eq_true rfl, Nat.le_of_ble_eq_true rfl⟩) (pV (pxS hK hP hD [0, 2, 3] (by decide) rfl) hK hP 0 rfl rfl) rfl rfl hl.1 rfl (lv_room (Nat.le_of_ble_eq_true rfl)) dX12_off_69 ⟨Nat.le_of_ble_eq_true rfl, Nat.le_of_ble_eq_true rfl⟩) hP hS hA (fun r_27 H locs wr_27 hP hS => ?_)
                refine lv_aload_n hx hb dX12_off_72 rfl (lv_at hl 2 rfl) ?_
                refine va_get (D := D) (ci := 12) (v := .int (im_9 55)) (C := RX12) (T := TX12) (N := 81) hx hb hts inT_X12 hown hK.1 hP 0 rfl rfl 55 (by decide) (hts _ k_1408) (fun _ h9 => h9) rfl dX12_off_73 ?_
                refine lv_isub hx hb dX12_off_76 ?_
                refine lv_topi (fun x_28 ex_28 => ?_)
                refine eRi (va_runS (As := [.int x_28]) (rest := []) ⟨hx, hb, hml, hown, hts⟩ (c_X12_plain l D cI cB cZ cJ tx x_28 H.size) (zS hts k_1895 v_X12_plain ⟨Nat.le_of_ble_eq_true rfl, Nat.le_of_ble_eq_true rfl⟩) (px0 hK) rfl rfl hl.1 rfl (lv_room (Nat.le_of_ble_eq_true rfl)) dX12_off_77 ⟨Nat.le_of_ble_eq_true rfl, Nat.le_of_ble_eq_true rfl⟩) hP hS hA (fun r_29 H locs wr_29 hP hS => ?_)
                refine lv_iload_n hx hb dX12_off_80 rfl (lv_at hl 5 rfl) ?_
                refine lv_icmp_gt (tgt := 105) hx hb dX12_off_81 (by decide) (fun c_30 => ?_) (fun c_30 => ?_)
                · obtain ⟨x_31, ex_31⟩ : ∃ z : Int32, z = w1 + Int32.ofInt 1 := ⟨_, rfl⟩
                  refine lv_iinc (v := x_31) (lv' := [(4, .int x_31), (5, .int (nI j1)), (0, .ref h), (1, .int (nI ff2)), (2, .int (nI gg2)), (3, .int (nI tn3))]) hx hb dX12_off_105 hl (k := 1) rfl (ex_31.symm) (by decide) rfl (fun ls hl => ?_)
                  refine lv_iinc (v := nI (j1 + 1)) (lv' := [(5, .int (nI (j1 + 1))), (4, .int x_31), (0, .ref h), (1, .int (nI ff2)), (2, .int (nI gg2)), (3, .int (nI tn3))]) hx hb dX12_off_108 hl (k := 1) rfl (nI_1 j1) (by decide) rfl (fun ls hl => ?_)
                  refine lv_goto (tgt := 44) hx hb dX12_off_111 (by decide) ?_
                  exact ih44 (j1 + 1) x_31 H locs ls (by omega) (by omega)  (hP.sub [0, 1, 2, 3, 4] rfl) (hD.sub [0, 1, 2, 3, 4] (by decide) rfl) hS (lv_sub hl [0, 1, 2, 3, 4, 5] rfl)
                · refine lv_aload_n hx hb dX12_off_84 rfl (lv_at hl 2 rfl) ?_
                  refine lv_iload_n hx hb dX12_off_85 rfl (lv_at hl 3 rfl) ?_
                  refine lv_iload_n hx hb dX12_off_86 rfl (lv_at hl 4 rfl) ?_
                  refine lv_iload hx hb dX12_off_87 (lv_at hl 0 rfl) ?_
                  refine lv_iconst (v := 0) hx hb dX12_off_89 (by decide) ?_
                  refine eRi (va_runV (As := [.int (nI ff2), .int (nI gg2), .int (nI j1), .int 0]) (rest := []) ⟨hx, hb, hml, hown, hts⟩ (c_X12_gapOf l D cI cB cZ cJ tx h q im_9 m_markAcross m_markDeep ff2 gg2 j1 0 (lf_X12_off_32 h q im md m_hasMark m_markAcross m_markDeep m_gaps (nI ff2) (nI gg2) (nI tn3) hf_md hmd ff2 gg2 hff2 hgg2 c_5 tn3 tn3a tn3b rfl im_9 bn_9 m_gaps_9 hz_9_0 hz_9_1 hz_9_2 hsb c_10 n_11 j1 w1 k44 hj44 hk44 c_13 n_17 r_22 c_23 r_27 x_28 ex_28 r_29 c_30) (lf_X12_off_33 h q im md m_hasMark m_markAcross m_markDeep m_gaps (nI ff2) (nI gg2) (nI tn3) hf_md hmd ff2 gg2 hff2 hgg2 c_5 tn3 tn3a tn3b rfl im_9 bn_9 m_gaps_9 hz_9_0 hz_9_1 hz_9_2 hsb c_10 n_11 j1 w1 k44 hj44 hk44 c_13 n_17 r_22 c_23 r_27 x_28 ex_28 r_29 c_30) (lf_X12_off_34 h q im md m_hasMark m_markAcross m_markDeep m_gaps (nI ff2) (nI gg2) (nI tn3) hf_md hmd ff2 gg2 hff2 hgg2 c_5 tn3 tn3a tn3b rfl im_9 bn_9 m_gaps_9 hz_9_0 hz_9_1 hz_9_2 hsb c_10 n_11 j1 w1 k44 hj44 hk44 c_13 n_17 r_22 c_23 r_27 x_28 ex_28 r_29 c_30) H.size) (zV hts k_1887 v_X12_gapOf ⟨Nat.le_of_ble_eq_true rfl, Nat.le_of_ble_eq_true rfl⟩) (pV (pxS hK hP hD [0, 2, 3] (by decide) rfl) hK hP 0 rfl rfl) rfl rfl hl.1 rfl (lv_room (Nat.le_of_ble_eq_true rfl)) dX12_off_90 ⟨Nat.le_of_ble_eq_true rfl, Nat.le_of_ble_eq_true rfl⟩) hP hS hA (fun r_35 H locs wr_35 hP hS => ?_)
                  refine lv_aload_n hx hb dX12_off_93 rfl (lv_at hl 2 rfl) ?_
                  refine va_get (D := D) (ci := 12) (v := .int (im_9 56)) (C := RX12) (T := TX12) (N := 81) hx hb hts inT_X12 hown hK.1 hP 0 rfl rfl 56 (by decide) (hts _ k_1409) (fun _ h9 => h9) rfl dX12_off_94 ?_
                  refine lv_isub hx hb dX12_off_97 ?_
                  refine lv_topi (fun x_36 ex_36 => ?_)
                  refine eRi (va_runS (As := [.int x_36]) (rest := []) ⟨hx, hb, hml, hown, hts⟩ (c_X12_plain l D cI cB cZ cJ tx x_36 H.size) (zS hts k_1895 v_X12_plain ⟨Nat.le_of_ble_eq_true rfl, Nat.le_of_ble_eq_true rfl⟩) (px0 hK) rfl rfl hl.1 rfl (lv_room (Nat.le_of_ble_eq_true rfl)) dX12_off_98 ⟨Nat.le_of_ble_eq_true rfl, Nat.le_of_ble_eq_true rfl⟩) hP hS hA (fun r_37 H locs wr_37 hP hS => ?_)
                  refine lv_iload_n hx hb dX12_off_101 rfl (lv_at hl 5 rfl) ?_
                  refine lv_icmp_le (tgt := 108) hx hb dX12_off_102 (by decide) (fun c_38 => ?_) (fun c_38 => ?_)
                  · refine lv_iinc (v := nI (j1 + 1)) (lv' := [(5, .int (nI (j1 + 1))), (4, .int w1), (0, .ref h), (1, .int (nI ff2)), (2, .int (nI gg2)), (3, .int (nI tn3))]) hx hb dX12_off_108 hl (k := 0) rfl (nI_1 j1) (by decide) rfl (fun ls hl => ?_)
                    refine lv_goto (tgt := 44) hx hb dX12_off_111 (by decide) ?_
                    exact ih44 (j1 + 1) w1 H locs ls (by omega) (by omega)  (hP.sub [0, 1, 2, 3, 4] rfl) (hD.sub [0, 1, 2, 3, 4] (by decide) rfl) hS (lv_sub hl [0, 1, 2, 3, 4, 5] rfl)
                  · obtain ⟨x_39, ex_39⟩ : ∃ z : Int32, z = w1 + Int32.ofInt 1 := ⟨_, rfl⟩
                    refine lv_iinc (v := x_39) (lv' := [(4, .int x_39), (5, .int (nI j1)), (0, .ref h), (1, .int (nI ff2)), (2, .int (nI gg2)), (3, .int (nI tn3))]) hx hb dX12_off_105 hl (k := 1) rfl (ex_39.symm) (by decide) rfl (fun ls hl => ?_)
                    refine lv_iinc (v := nI (j1 + 1)) (lv' := [(5, .int (nI (j1 + 1))), (4, .int x_39), (0, .ref h), (1, .int (nI ff2)), (2, .int (nI gg2)), (3, .int (nI tn3))]) hx hb dX12_off_108 hl (k := 1) rfl (nI_1 j1) (by decide) rfl (fun ls hl => ?_)
                    refine lv_goto (tgt := 44) hx hb dX12_off_111 (by decide) ?_
                    exact ih44 (j1 + 1) x_39 H locs ls (by omega) (by omega)  (hP.sub [0, 1, 2, 3, 4] rfl) (hD.sub [0, 1, 2, 3, 4] (by decide) rfl) hS (lv_sub hl [0, 1, 2, 3, 4, 5] rfl)
        exact lp44 (384 + 1) 0 0 H locs ls (by omega) (by omega)  (hP.sub [0, 1, 2, 3, 4] rfl) (hD.sub [0, 1, 2, 3, 4] (by decide) rfl) hS (lv_sub hl [0, 1, 2, 3, 4, 5] rfl)
      · have n_40 : bn_9 = 0 := (lf_X12_off_41 h q im md m_hasMark m_markAcross m_markDeep m_gaps (nI ff2) (nI gg2) (nI tn3) hf_md hmd ff2 gg2 hff2 hgg2 c_5 tn3 tn3a tn3b rfl im_9 bn_9 m_gaps_9 hz_9_0 hz_9_1 hz_9_2 hsb c_10)
        refine lv_iconst (v := (-1)) hx hb dX12_off_36 (by decide) ?_
        exact W.iret (v := (-1)) hx hb hr (fun tt9 ht hW => ⟨⟨((-1) : Int32), ((im_9 : Nat → Int32), (m_gaps_9 : Nat → Int32)), rfl, (lf_X12_off_42 h q im md m_hasMark m_markAcross m_markDeep m_gaps (nI ff2) (nI gg2) (nI tn3) hf_md hmd ff2 gg2 hff2 hgg2 c_5 tn3 tn3a tn3b rfl im_9 bn_9 m_gaps_9 hz_9_0 hz_9_1 hz_9_2 hsb c_10 n_40 hk_9_50), ⟨by rw [ht]; exact hP, hD⟩⟩, hS.F ht⟩) hS.2.2 dX12_off_37 hlocks
    · refine lv_iconst (v := (-1)) hx hb dX12_off_21 (by decide) ?_
      exact W.iret (v := (-1)) hx hb hr (fun tt9 ht hW => ⟨⟨((-1) : Int32), ((im : Nat → Int32), (m_gaps : Nat → Int32)), rfl, (lf_X12_off_43 h q im md m_hasMark m_markAcross m_markDeep m_gaps (nI ff2) (nI gg2) n3 hf_md hmd hsb ff2 gg2 hff2 hgg2 c_5), ⟨by rw [ht]; exact hP, hD⟩⟩, hS.F ht⟩) hS.2.2 dX12_off_22 hlocks

theorem lf_X12_farFrom_1 (h : Nat) (q : Nat → Nat) (im : Nat → Int32) (m_hasMark : Nat → Int32) (m_markAcross : Nat → Int32) (m_markDeep : Nat → Int32) (m_gaps : Nat → Int32) (a1 : Nat) (b1 : Nat) (x1 : Nat) (ha1 : a1 < 4) (hb1 : b1 < 4) (hx1 : x1 < 384) (hsb : SB [54, 55, 56, 57, 58] im im) : a1 < 4 := by
  first | assumption | omega | decide | rfl
theorem lf_X12_farFrom_2 (h : Nat) (q : Nat → Nat) (im : Nat → Int32) (m_hasMark : Nat → Int32) (m_markAcross : Nat → Int32) (m_markDeep : Nat → Int32) (m_gaps : Nat → Int32) (a1 : Nat) (b1 : Nat) (x1 : Nat) (ha1 : a1 < 4) (hb1 : b1 < 4) (hx1 : x1 < 384) (hsb : SB [54, 55, 56, 57, 58] im im) : b1 < 4 := by
  first | assumption | omega | decide | rfl
theorem lf_X12_farFrom_5 (h : Nat) (q : Nat → Nat) (im : Nat → Int32) (m_hasMark : Nat → Int32) (m_markAcross : Nat → Int32) (m_markDeep : Nat → Int32) (m_gaps : Nat → Int32) (a1 : Nat) (b1 : Nat) (x1 : Nat) (ha1 : a1 < 4) (hb1 : b1 < 4) (hx1 : x1 < 384) (im_4 : Nat → Int32) (bn_4 : Nat) (m_gaps_4 : Nat → Int32) (hz_4_0 : SB [54, 55, 56, 57, 58] im im_4) (hz_4_1 : im_4 54 = nI bn_4) (hz_4_2 : bn_4 ≤ 384) (hsb : SB [54, 55, 56, 57, 58] im im_4) : a1 < 4 := by
  first | assumption | omega | decide | rfl
theorem lf_X12_farFrom_6 (h : Nat) (q : Nat → Nat) (im : Nat → Int32) (m_hasMark : Nat → Int32) (m_markAcross : Nat → Int32) (m_markDeep : Nat → Int32) (m_gaps : Nat → Int32) (a1 : Nat) (b1 : Nat) (x1 : Nat) (ha1 : a1 < 4) (hb1 : b1 < 4) (hx1 : x1 < 384) (im_4 : Nat → Int32) (bn_4 : Nat) (m_gaps_4 : Nat → Int32) (hz_4_0 : SB [54, 55, 56, 57, 58] im im_4) (hz_4_1 : im_4 54 = nI bn_4) (hz_4_2 : bn_4 ≤ 384) (hsb : SB [54, 55, 56, 57, 58] im im_4) : b1 < 4 := by
  first | assumption | omega | decide | rfl
theorem lf_X12_farFrom_7 (h : Nat) (q : Nat → Nat) (im : Nat → Int32) (m_hasMark : Nat → Int32) (m_markAcross : Nat → Int32) (m_markDeep : Nat → Int32) (m_gaps : Nat → Int32) (a1 : Nat) (b1 : Nat) (x1 : Nat) (ha1 : a1 < 4) (hb1 : b1 < 4) (hx1 : x1 < 384) (im_4 : Nat → Int32) (bn_4 : Nat) (m_gaps_4 : Nat → Int32) (hz_4_0 : SB [54, 55, 56, 57, 58] im im_4) (hz_4_1 : im_4 54 = nI bn_4) (hz_4_2 : bn_4 ≤ 384) (hsb : SB [54, 55, 56, 57, 58] im im_4) : x1 < 384 := by
  first | assumption | omega | decide | rfl
theorem lf_X12_farFrom_11 (h : Nat) (q : Nat → Nat) (im : Nat → Int32) (m_hasMark : Nat → Int32) (m_markAcross : Nat → Int32) (m_markDeep : Nat → Int32) (m_gaps : Nat → Int32) (a1 : Nat) (b1 : Nat) (x1 : Nat) (ha1 : a1 < 4) (hb1 : b1 < 4) (hx1 : x1 < 384) (im_4 : Nat → Int32) (bn_4 : Nat) (m_gaps_4 : Nat → Int32) (hz_4_0 : SB [54, 55, 56, 57, 58] im im_4) (hz_4_1 : im_4 54 = nI bn_4) (hz_4_2 : bn_4 ≤ 384) (hsb : SB [54, 55, 56, 57, 58] im im_4) (r_8 : Int32) (x_9 : Int32) (ex_9 : x_9 = r_8 - im_4 55) (r_10 : Int32) : a1 < 4 := by
  first | assumption | omega | decide | rfl
theorem lf_X12_farFrom_12 (h : Nat) (q : Nat → Nat) (im : Nat → Int32) (m_hasMark : Nat → Int32) (m_markAcross : Nat → Int32) (m_markDeep : Nat → Int32) (m_gaps : Nat → Int32) (a1 : Nat) (b1 : Nat) (x1 : Nat) (ha1 : a1 < 4) (hb1 : b1 < 4) (hx1 : x1 < 384) (im_4 : Nat → Int32) (bn_4 : Nat) (m_gaps_4 : Nat → Int32) (hz_4_0 : SB [54, 55, 56, 57, 58] im im_4) (hz_4_1 : im_4 54 = nI bn_4) (hz_4_2 : bn_4 ≤ 384) (hsb : SB [54, 55, 56, 57, 58] im im_4) (r_8 : Int32) (x_9 : Int32) (ex_9 : x_9 = r_8 - im_4 55) (r_10 : Int32) : b1 < 4 := by
  first | assumption | omega | decide | rfl
theorem lf_X12_farFrom_13 (h : Nat) (q : Nat → Nat) (im : Nat → Int32) (m_hasMark : Nat → Int32) (m_markAcross : Nat → Int32) (m_markDeep : Nat → Int32) (m_gaps : Nat → Int32) (a1 : Nat) (b1 : Nat) (x1 : Nat) (ha1 : a1 < 4) (hb1 : b1 < 4) (hx1 : x1 < 384) (im_4 : Nat → Int32) (bn_4 : Nat) (m_gaps_4 : Nat → Int32) (hz_4_0 : SB [54, 55, 56, 57, 58] im im_4) (hz_4_1 : im_4 54 = nI bn_4) (hz_4_2 : bn_4 ≤ 384) (hsb : SB [54, 55, 56, 57, 58] im im_4) (r_8 : Int32) (x_9 : Int32) (ex_9 : x_9 = r_8 - im_4 55) (r_10 : Int32) : x1 < 384 := by
  first | assumption | omega | decide | rfl
theorem lf_X12_farFrom_18 (h : Nat) (q : Nat → Nat) (im : Nat → Int32) (m_hasMark : Nat → Int32) (m_markAcross : Nat → Int32) (m_markDeep : Nat → Int32) (m_gaps : Nat → Int32) (a1 : Nat) (b1 : Nat) (x1 : Nat) (ha1 : a1 < 4) (hb1 : b1 < 4) (hx1 : x1 < 384) (im_4 : Nat → Int32) (bn_4 : Nat) (m_gaps_4 : Nat → Int32) (hz_4_0 : SB [54, 55, 56, 57, 58] im im_4) (hz_4_1 : im_4 54 = nI bn_4) (hz_4_2 : bn_4 ≤ 384) (hsb : SB [54, 55, 56, 57, 58] im im_4) (r_8 : Int32) (x_9 : Int32) (ex_9 : x_9 = r_8 - im_4 55) (r_10 : Int32) (r_14 : Int32) (x_15 : Int32) (ex_15 : x_15 = r_14 - im_4 56) (r_16 : Int32) (x_17 : Int32) (ex_17 : x_17 = r_10 + r_16) : (SB [54, 55, 56, 57, 58] im (im_4 : Nat → Int32)) := by
  repeat' apply And.intro
  all_goals first | assumption | omega | rfl | trivial
set_option maxHeartbeats 4000000 in
set_option maxRecDepth 100000 in
theorem c_X12_farFrom (l : Launch) (D : va_G) (cI cB cZ cJ : ClassId) (tx : List (ClassId × FieldType)) (h : Nat) (q : Nat → Nat) (im : Nat → Int32) (m_hasMark : Nat → Int32) (m_markAcross : Nat → Int32) (m_markDeep : Nat → Int32) (m_gaps : Nat → Int32) (a1 : Nat) (b1 : Nat) (x1 : Nat) (ha1 : a1 < 4) (hb1 : b1 < 4) (hx1 : x1 < 384) : WrI l D cI cB cZ cJ tx yX12_farFrom cX12_farFrom 4 (some .int) 3 0 0 [.ref h, .int (nI a1), .int (nI b1), .int (nI x1)] [(h, .inr (12, mG q im)), (q 51, .inl (cZ, 1536, .inl m_hasMark)), (q 52, .inl (cI, 1536, .inl m_markAcross)), (q 53, .inl (cI, 1536, .inl m_markDeep)), (q 59, .inl (cI, 384, .inl m_gaps))] (fun (r : Int32) (v : (Nat → Int32) × (Nat → Int32)) => (SB [54, 55, 56, 57, 58] im v.1)) (fun v => [(h, .inr (12, mG q v.1)), (q 51, .inl (cZ, 1536, .inl m_hasMark)), (q 52, .inl (cI, 1536, .inl m_markAcross)), (q 53, .inl (cI, 1536, .inl m_markDeep)), (q 59, .inl (cI, 384, .inl v.2))]) := by
  refine wri_of2 (by decide) (Nat.le_of_ble_eq_true rfl) ?_
  intro p e s m below meth c A ls H locs hC hK hP hD hA hS hl
  obtain ⟨hx, hb, hr, hml, hown, hts, hlocks, hin⟩ := hC
  have hown : s.vm.findClass RX12 = some m.cls := hown
  have hl : lv_has ls 4 [(0, .ref h), (1, .int (nI a1)), (2, .int (nI b1)), (3, .int (nI x1))] := hl
  have hsb : SB [54, 55, 56, 57, 58] im im := SB.rf
  refine lv_aload_n hx hb dX12_farFrom_0 rfl (lv_at hl 0 rfl) ?_
  refine lv_iload_n hx hb dX12_farFrom_1 rfl (lv_at hl 1 rfl) ?_
  refine lv_iload_n hx hb dX12_farFrom_2 rfl (lv_at hl 2 rfl) ?_
  refine eWv (wr := []) (va_runV (As := [.int (nI a1), .int (nI b1)]) (rest := []) ⟨hx, hb, hml, hown, hts⟩ (c_X12_joinsBoth l D cI cB cZ cJ tx h q im m_hasMark m_markAcross m_markDeep m_gaps a1 b1 (lf_X12_farFrom_1 h q im m_hasMark m_markAcross m_markDeep m_gaps a1 b1 x1 ha1 hb1 hx1 hsb) (lf_X12_farFrom_2 h q im m_hasMark m_markAcross m_markDeep m_gaps a1 b1 x1 ha1 hb1 hx1 hsb) H.size) (zV hts k_1875 v_X12_joinsBoth ⟨Nat.le_of_ble_eq_true rfl, Nat.le_of_ble_eq_true rfl⟩) (pV (pxS hK hP hD [0, 1, 2, 3, 4] (by decide) rfl) hK hP 0 rfl rfl) rfl rfl hl.1 rfl (lv_room (Nat.le_of_ble_eq_true rfl)) dX12_farFrom_3 ⟨Nat.le_of_ble_eq_true rfl, Nat.le_of_ble_eq_true rfl⟩) hP hD hS hA [0, 1, 2, 3, 4] [] rfl rfl (by decide) (by decide) (fun u_4 H locs wr_3 hP hD hS => ?_)
  obtain ⟨im_4, bn_4, m_gaps_4⟩ := u_4
  have hz_4_0 : SB [54, 55, 56, 57, 58] im im_4 := wr_3.1
  have hz_4_1 : im_4 54 = nI bn_4 := wr_3.2.1
  have hz_4_2 : bn_4 ≤ 384 := wr_3.2.2
  have hsb := SB.step hsb hz_4_0 (by decide)
  have hP : va_P D vwCl [(h, .inr (12, mG q im_4)), (q 51, .inl (cZ, 1536, .inl m_hasMark)), (q 52, .inl (cI, 1536, .inl m_markAcross)), (q 53, .inl (cI, 1536, .inl m_markDeep)), (q 59, .inl (cI, 384, .inl m_gaps_4))] H := hP
  have hD : va_D A [(h, .inr (12, mG q im_4)), (q 51, .inl (cZ, 1536, .inl m_hasMark)), (q 52, .inl (cI, 1536, .inl m_markAcross)), (q 53, .inl (cI, 1536, .inl m_markDeep)), (q 59, .inl (cI, 384, .inl m_gaps_4))] := hD
  refine lv_aload_n hx hb dX12_farFrom_6 rfl (lv_at hl 0 rfl) ?_
  refine lv_iload_n hx hb dX12_farFrom_7 rfl (lv_at hl 1 rfl) ?_
  refine lv_iload_n hx hb dX12_farFrom_8 rfl (lv_at hl 2 rfl) ?_
  refine lv_iload_n hx hb dX12_farFrom_9 rfl (lv_at hl 3 rfl) ?_
  refine lv_iconst (v := 1) hx hb dX12_farFrom_10 (by decide) ?_
  refine eRi (va_runV (As := [.int (nI a1), .int (nI b1), .int (nI x1), .int 1]) (rest := []) ⟨hx, hb, hml, hown, hts⟩ (c_X12_gapOf l D cI cB cZ cJ tx h q im_4 m_markAcross m_markDeep a1 b1 x1 1 (lf_X12_farFrom_5 h q im m_hasMark m_markAcross m_markDeep m_gaps a1 b1 x1 ha1 hb1 hx1 im_4 bn_4 m_gaps_4 hz_4_0 hz_4_1 hz_4_2 hsb) (lf_X12_farFrom_6 h q im m_hasMark m_markAcross m_markDeep m_gaps a1 b1 x1 ha1 hb1 hx1 im_4 bn_4 m_gaps_4 hz_4_0 hz_4_1 hz_4_2 hsb) (lf_X12_farFrom_7 h q im m_hasMark m_markAcross m_markDeep m_gaps a1 b1 x1 ha1 hb1 hx1 im_4 bn_4 m_gaps_4 hz_4_0 hz_4_1 hz_4_2 hsb) H.size) (zV hts k_1887 v_X12_gapOf ⟨Nat.le_of_ble_eq_true rfl, Nat.le_of_ble_eq_true rfl⟩) (pV (pxS hK hP hD [0, 2, 3] (by decide) rfl) hK hP 0 rfl rfl) rfl rfl hl.1 rfl (lv_room (Nat.le_of_ble_eq_true rfl)) dX12_farFrom_11 ⟨Nat.le_of_ble_eq_true rfl, Nat.le_of_ble_eq_true rfl⟩) hP hS hA (fun r_8 H locs wr_8 hP hS => ?_)
  refine lv_aload_n hx hb dX12_farFrom_14 rfl (lv_at hl 0 rfl) ?_
  refine va_get (D := D) (ci := 12) (v := .int (im_4 55)) (C := RX12) (T := TX12) (N := 81) hx hb hts inT_X12 hown hK.1 hP 0 rfl rfl 55 (by decide) (hts _ k_1408) (fun _ h9 => h9) rfl dX12_farFrom_15 ?_
  refine lv_isub hx hb dX12_farFrom_18 ?_
  refine lv_topi (fun x_9 ex_9 => ?_)
  refine eRi (va_runS (As := [.int x_9]) (rest := []) ⟨hx, hb, hml, hown, hts⟩ (c_X12_plain l D cI cB cZ cJ tx x_9 H.size) (zS hts k_1895 v_X12_plain ⟨Nat.le_of_ble_eq_true rfl, Nat.le_of_ble_eq_true rfl⟩) (px0 hK) rfl rfl hl.1 rfl (lv_room (Nat.le_of_ble_eq_true rfl)) dX12_farFrom_19 ⟨Nat.le_of_ble_eq_true rfl, Nat.le_of_ble_eq_true rfl⟩) hP hS hA (fun r_10 H locs wr_10 hP hS => ?_)
  refine lv_aload_n hx hb dX12_farFrom_22 rfl (lv_at hl 0 rfl) ?_
  refine lv_iload_n hx hb dX12_farFrom_23 rfl (lv_at hl 1 rfl) ?_
  refine lv_iload_n hx hb dX12_farFrom_24 rfl (lv_at hl 2 rfl) ?_
  refine lv_iload_n hx hb dX12_farFrom_25 rfl (lv_at hl 3 rfl) ?_
  refine lv_iconst (v := 0) hx hb dX12_farFrom_26 (by decide) ?_
  refine eRi (va_runV (As := [.int (nI a1), .int (nI b1), .int (nI x1), .int 0]) (rest := [.int r_10]) ⟨hx, hb, hml, hown, hts⟩ (c_X12_gapOf l D cI cB cZ cJ tx h q im_4 m_markAcross m_markDeep a1 b1 x1 0 (lf_X12_farFrom_11 h q im m_hasMark m_markAcross m_markDeep m_gaps a1 b1 x1 ha1 hb1 hx1 im_4 bn_4 m_gaps_4 hz_4_0 hz_4_1 hz_4_2 hsb r_8 x_9 ex_9 r_10) (lf_X12_farFrom_12 h q im m_hasMark m_markAcross m_markDeep m_gaps a1 b1 x1 ha1 hb1 hx1 im_4 bn_4 m_gaps_4 hz_4_0 hz_4_1 hz_4_2 hsb r_8 x_9 ex_9 r_10) (lf_X12_farFrom_13 h q im m_hasMark m_markAcross m_markDeep m_gaps a1 b1 x1 ha1 hb1 hx1 im_4 bn_4 m_gaps_4 hz_4_0 hz_4_1 hz_4_2 hsb r_8 x_9 ex_9 r_10) H.size) (zV hts k_1887 v_X12_gapOf ⟨Nat.le_of_ble_eq_true rfl, Nat.le_of_ble_eq_true rfl⟩) (pV (pxS hK hP hD [0, 2, 3] (by decide) rfl) hK hP 0 rfl rfl) rfl rfl hl.1 rfl (lv_room (Nat.le_of_ble_eq_true rfl)) dX12_farFrom_27 ⟨Nat.le_of_ble_eq_true rfl, Nat.le_of_ble_eq_true rfl⟩) hP hS hA (fun r_14 H locs wr_14 hP hS => ?_)
  refine lv_aload_n hx hb dX12_farFrom_30 rfl (lv_at hl 0 rfl) ?_
  refine va_get (D := D) (ci := 12) (v := .int (im_4 56)) (C := RX12) (T := TX12) (N := 81) hx hb hts inT_X12 hown hK.1 hP 0 rfl rfl 56 (by decide) (hts _ k_1409) (fun _ h9 => h9) rfl dX12_farFrom_31 ?_
  refine lv_isub hx hb dX12_farFrom_34 ?_
  refine lv_topi (fun x_15 ex_15 => ?_)
  refine eRi (va_runS (As := [.int x_15]) (rest := [.int r_10]) ⟨hx, hb, hml, hown, hts⟩ (c_X12_plain l D cI cB cZ cJ tx x_15 H.size) (zS hts k_1895 v_X12_plain ⟨Nat.le_of_ble_eq_true rfl, Nat.le_of_ble_eq_true rfl⟩) (px0 hK) rfl rfl hl.1 rfl (lv_room (Nat.le_of_ble_eq_true rfl)) dX12_farFrom_35 ⟨Nat.le_of_ble_eq_true rfl, Nat.le_of_ble_eq_true rfl⟩) hP hS hA (fun r_16 H locs wr_16 hP hS => ?_)
  refine lv_iadd hx hb dX12_farFrom_38 ?_
  refine lv_topi (fun x_17 ex_17 => ?_)
  exact W.iret (v := x_17) hx hb hr (fun tt9 ht hW => ⟨⟨(x_17 : Int32), ((im_4 : Nat → Int32), (m_gaps_4 : Nat → Int32)), rfl, (lf_X12_farFrom_18 h q im m_hasMark m_markAcross m_markDeep m_gaps a1 b1 x1 ha1 hb1 hx1 im_4 bn_4 m_gaps_4 hz_4_0 hz_4_1 hz_4_2 hsb r_8 x_9 ex_9 r_10 r_14 x_15 ex_15 r_16 x_17 ex_17), ⟨by rw [ht]; exact hP, hD⟩⟩, hS.F ht⟩) hS.2.2 dX12_farFrom_39 hlocks

theorem lf_X12_slipped_1 (h : Nat) (q : Nat → Nat) (im : Nat → Int32) (ms : Nat) (mk : Nat) (md : Nat) (m_hasMark : Nat → Int32) (m_markAcross : Nat → Int32) (m_markDeep : Nat → Int32) (m_gaps : Nat → Int32) (n1 : Int32) (n2 : Int32) (n3 : Int32) (n4 : Int32) (n5 : Int32) (n6 : Int32) (hf_ms : im 2 = nI ms) (hf_mk : im 3 = nI mk) (hf_md : im 50 = nI md) (hms : ms ≤ 24) (hmk : mk ≤ 8) (hm3 : mk = 0 ∨ 3 ≤ ms) (hmd : md ≤ 4) (hsb : SB [54, 55, 56, 57, 58] im im) : md ≤ 4 := by
  first | assumption | omega | decide | rfl
theorem lf_X12_slipped_3 (h : Nat) (q : Nat → Nat) (im : Nat → Int32) (ms : Nat) (mk : Nat) (md : Nat) (m_hasMark : Nat → Int32) (m_markAcross : Nat → Int32) (m_markDeep : Nat → Int32) (m_gaps : Nat → Int32) (n1 : Int32) (n2 : Int32) (n3 : Int32) (n4 : Int32) (n5 : Int32) (n6 : Int32) (hf_ms : im 2 = nI ms) (hf_mk : im 3 = nI mk) (hf_md : im 50 = nI md) (hms : ms ≤ 24) (hmk : mk ≤ 8) (hm3 : mk = 0 ∨ 3 ≤ ms) (hmd : md ≤ 4) (hsb : SB [54, 55, 56, 57, 58] im im) : (SB [54, 55, 56, 57, 58] im (im : Nat → Int32)) := by
  repeat' apply And.intro
  all_goals first | assumption | omega | rfl | trivial
theorem lf_X12_slipped_4 (h : Nat) (q : Nat → Nat) (im : Nat → Int32) (ms : Nat) (mk : Nat) (md : Nat) (m_hasMark : Nat → Int32) (m_markAcross : Nat → Int32) (m_markDeep : Nat → Int32) (m_gaps : Nat → Int32) (n1 : Int32) (n2 : Int32) (n3 : Int32) (n4 : Int32) (n5 : Int32) (n6 : Int32) (hf_ms : im 2 = nI ms) (hf_mk : im 3 = nI mk) (hf_md : im 50 = nI md) (hms : ms ≤ 24) (hmk : mk ≤ 8) (hm3 : mk = 0 ∨ 3 ≤ ms) (hmd : md ≤ 4) (hsb : SB [54, 55, 56, 57, 58] im im) (ff2 : Nat) (gg2 : Nat) (hff2 : ff2 < md) (hgg2 : gg2 < md) : md ≤ 4 := by
  first | assumption | omega | decide | rfl
theorem lf_X12_slipped_6 (h : Nat) (q : Nat → Nat) (im : Nat → Int32) (ms : Nat) (mk : Nat) (md : Nat) (m_hasMark : Nat → Int32) (m_markAcross : Nat → Int32) (m_markDeep : Nat → Int32) (m_gaps : Nat → Int32) (n1 : Int32) (n2 : Int32) (n3 : Int32) (n4 : Int32) (n5 : Int32) (n6 : Int32) (hf_ms : im 2 = nI ms) (hf_mk : im 3 = nI mk) (hf_md : im 50 = nI md) (hms : ms ≤ 24) (hmk : mk ≤ 8) (hm3 : mk = 0 ∨ 3 ≤ ms) (hmd : md ≤ 4) (hsb : SB [54, 55, 56, 57, 58] im im) (ff2 : Nat) (gg2 : Nat) (hff2 : ff2 < md) (hgg2 : gg2 < md) : (SB [54, 55, 56, 57, 58] im (im : Nat → Int32)) := by
  repeat' apply And.intro
  all_goals first | assumption | omega | rfl | trivial
theorem lf_X12_slipped_7 (h : Nat) (q : Nat → Nat) (im : Nat → Int32) (ms : Nat) (mk : Nat) (md : Nat) (m_hasMark : Nat → Int32) (m_markAcross : Nat → Int32) (m_markDeep : Nat → Int32) (m_gaps : Nat → Int32) (n1 : Int32) (n2 : Int32) (n3 : Int32) (n4 : Int32) (n5 : Int32) (n6 : Int32) (hf_ms : im 2 = nI ms) (hf_mk : im 3 = nI mk) (hf_md : im 50 = nI md) (hms : ms ≤ 24) (hmk : mk ≤ 8) (hm3 : mk = 0 ∨ 3 ≤ ms) (hmd : md ≤ 4) (hsb : SB [54, 55, 56, 57, 58] im im) (ff2 : Nat) (gg2 : Nat) (hff2 : ff2 < md) (hgg2 : gg2 < md) (ff5 : Nat) (gg5 : Nat) (hff5 : ff5 < md) (hgg5 : gg5 < md) (qff5 : nI ff2 = nI ff5) : md ≤ 4 := by
  first | assumption | omega | decide | rfl
theorem lf_X12_slipped_9 (h : Nat) (q : Nat → Nat) (im : Nat → Int32) (ms : Nat) (mk : Nat) (md : Nat) (m_hasMark : Nat → Int32) (m_markAcross : Nat → Int32) (m_markDeep : Nat → Int32) (m_gaps : Nat → Int32) (n1 : Int32) (n2 : Int32) (n3 : Int32) (n4 : Int32) (n5 : Int32) (n6 : Int32) (hf_ms : im 2 = nI ms) (hf_mk : im 3 = nI mk) (hf_md : im 50 = nI md) (hms : ms ≤ 24) (hmk : mk ≤ 8) (hm3 : mk = 0 ∨ 3 ≤ ms) (hmd : md ≤ 4) (hsb : SB [54, 55, 56, 57, 58] im im) (ff2 : Nat) (gg2 : Nat) (hff2 : ff2 < md) (hgg2 : gg2 < md) (ff5 : Nat) (gg5 : Nat) (hff5 : ff5 < md) (hgg5 : gg5 < md) (qff5 : nI ff2 = nI ff5) : (SB [54, 55, 56, 57, 58] im (im : Nat → Int32)) := by
  repeat' apply And.intro
  all_goals first | assumption | omega | rfl | trivial
theorem lf_X12_slipped_10 (h : Nat) (q : Nat → Nat) (im : Nat → Int32) (ms : Nat) (mk : Nat) (md : Nat) (m_hasMark : Nat → Int32) (m_markAcross : Nat → Int32) (m_markDeep : Nat → Int32) (m_gaps : Nat → Int32) (n1 : Int32) (n2 : Int32) (n3 : Int32) (n4 : Int32) (n5 : Int32) (n6 : Int32) (hf_ms : im 2 = nI ms) (hf_mk : im 3 = nI mk) (hf_md : im 50 = nI md) (hms : ms ≤ 24) (hmk : mk ≤ 8) (hm3 : mk = 0 ∨ 3 ≤ ms) (hmd : md ≤ 4) (hsb : SB [54, 55, 56, 57, 58] im im) (ff2 : Nat) (gg2 : Nat) (hff2 : ff2 < md) (hgg2 : gg2 < md) (ff5 : Nat) (gg5 : Nat) (hff5 : ff5 < md) (hgg5 : gg5 < md) (qff5 : nI ff2 = nI ff5) (ff8 : Nat) (gg8 : Nat) (hff8 : ff8 < md) (hgg8 : gg8 < md) (qff8 : nI gg2 = nI ff8) (qgg8 : nI gg5 = nI gg8) : ms ≤ 24 := by
  first | assumption | omega | decide | rfl
theorem lf_X12_slipped_11 (h : Nat) (q : Nat → Nat) (im : Nat → Int32) (ms : Nat) (mk : Nat) (md : Nat) (m_hasMark : Nat → Int32) (m_markAcross : Nat → Int32) (m_markDeep : Nat → Int32) (m_gaps : Nat → Int32) (n1 : Int32) (n2 : Int32) (n3 : Int32) (n4 : Int32) (n5 : Int32) (n6 : Int32) (hf_ms : im 2 = nI ms) (hf_mk : im 3 = nI mk) (hf_md : im 50 = nI md) (hms : ms ≤ 24) (hmk : mk ≤ 8) (hm3 : mk = 0 ∨ 3 ≤ ms) (hmd : md ≤ 4) (hsb : SB [54, 55, 56, 57, 58] im im) (ff2 : Nat) (gg2 : Nat) (hff2 : ff2 < md) (hgg2 : gg2 < md) (ff5 : Nat) (gg5 : Nat) (hff5 : ff5 < md) (hgg5 : gg5 < md) (qff5 : nI ff2 = nI ff5) (ff8 : Nat) (gg8 : Nat) (hff8 : ff8 < md) (hgg8 : gg8 < md) (qff8 : nI gg2 = nI ff8) (qgg8 : nI gg5 = nI gg8) : mk ≤ 8 := by
  first | assumption | omega | decide | rfl
theorem lf_X12_slipped_12 (h : Nat) (q : Nat → Nat) (im : Nat → Int32) (ms : Nat) (mk : Nat) (md : Nat) (m_hasMark : Nat → Int32) (m_markAcross : Nat → Int32) (m_markDeep : Nat → Int32) (m_gaps : Nat → Int32) (n1 : Int32) (n2 : Int32) (n3 : Int32) (n4 : Int32) (n5 : Int32) (n6 : Int32) (hf_ms : im 2 = nI ms) (hf_mk : im 3 = nI mk) (hf_md : im 50 = nI md) (hms : ms ≤ 24) (hmk : mk ≤ 8) (hm3 : mk = 0 ∨ 3 ≤ ms) (hmd : md ≤ 4) (hsb : SB [54, 55, 56, 57, 58] im im) (ff2 : Nat) (gg2 : Nat) (hff2 : ff2 < md) (hgg2 : gg2 < md) (ff5 : Nat) (gg5 : Nat) (hff5 : ff5 < md) (hgg5 : gg5 < md) (qff5 : nI ff2 = nI ff5) (ff8 : Nat) (gg8 : Nat) (hff8 : ff8 < md) (hgg8 : gg8 < md) (qff8 : nI gg2 = nI ff8) (qgg8 : nI gg5 = nI gg8) : mk = 0 ∨ 3 ≤ ms := by
  first | assumption | omega | decide | rfl
theorem lf_X12_slipped_14 (h : Nat) (q : Nat → Nat) (im : Nat → Int32) (ms : Nat) (mk : Nat) (md : Nat) (m_hasMark : Nat → Int32) (m_markAcross : Nat → Int32) (m_markDeep : Nat → Int32) (m_gaps : Nat → Int32) (n1 : Int32) (n2 : Int32) (n3 : Int32) (n4 : Int32) (n5 : Int32) (n6 : Int32) (hf_ms : im 2 = nI ms) (hf_mk : im 3 = nI mk) (hf_md : im 50 = nI md) (hms : ms ≤ 24) (hmk : mk ≤ 8) (hm3 : mk = 0 ∨ 3 ≤ ms) (hmd : md ≤ 4) (hsb : SB [54, 55, 56, 57, 58] im im) (ff2 : Nat) (gg2 : Nat) (hff2 : ff2 < md) (hgg2 : gg2 < md) (ff5 : Nat) (gg5 : Nat) (hff5 : ff5 < md) (hgg5 : gg5 < md) (qff5 : nI ff2 = nI ff5) (ff8 : Nat) (gg8 : Nat) (hff8 : ff8 < md) (hgg8 : gg8 < md) (qff8 : nI gg2 = nI ff8) (qgg8 : nI gg5 = nI gg8) : (SB [54, 55, 56, 57, 58] im (im : Nat → Int32)) := by
  repeat' apply And.intro
  all_goals first | assumption | omega | rfl | trivial
theorem lf_X12_slipped_16 (h : Nat) (q : Nat → Nat) (im : Nat → Int32) (ms : Nat) (mk : Nat) (md : Nat) (m_hasMark : Nat → Int32) (m_markAcross : Nat → Int32) (m_markDeep : Nat → Int32) (m_gaps : Nat → Int32) (n1 : Int32) (n2 : Int32) (n3 : Int32) (n4 : Int32) (n5 : Int32) (n6 : Int32) (hf_ms : im 2 = nI ms) (hf_mk : im 3 = nI mk) (hf_md : im 50 = nI md) (hms : ms ≤ 24) (hmk : mk ≤ 8) (hm3 : mk = 0 ∨ 3 ≤ ms) (hmd : md ≤ 4) (hsb : SB [54, 55, 56, 57, 58] im im) (ff2 : Nat) (gg2 : Nat) (hff2 : ff2 < md) (hgg2 : gg2 < md) (ff5 : Nat) (gg5 : Nat) (hff5 : ff5 < md) (hgg5 : gg5 < md) (qff5 : nI ff2 = nI ff5) (ff8 : Nat) (gg8 : Nat) (hff8 : ff8 < md) (hgg8 : gg8 < md) (qff8 : nI gg2 = nI ff8) (qgg8 : nI gg5 = nI gg8) (ff13 : Nat) (ss13 : Nat) (dd13 : Nat) (hff13 : ff13 < ms) (hss13 : ss13 < mk) (hdd13 : dd13 < 2) : ff2 < 4 := by
  first | assumption | omega | decide | rfl
theorem lf_X12_slipped_17 (h : Nat) (q : Nat → Nat) (im : Nat → Int32) (ms : Nat) (mk : Nat) (md : Nat) (m_hasMark : Nat → Int32) (m_markAcross : Nat → Int32) (m_markDeep : Nat → Int32) (m_gaps : Nat → Int32) (n1 : Int32) (n2 : Int32) (n3 : Int32) (n4 : Int32) (n5 : Int32) (n6 : Int32) (hf_ms : im 2 = nI ms) (hf_mk : im 3 = nI mk) (hf_md : im 50 = nI md) (hms : ms ≤ 24) (hmk : mk ≤ 8) (hm3 : mk = 0 ∨ 3 ≤ ms) (hmd : md ≤ 4) (hsb : SB [54, 55, 56, 57, 58] im im) (ff2 : Nat) (gg2 : Nat) (hff2 : ff2 < md) (hgg2 : gg2 < md) (ff5 : Nat) (gg5 : Nat) (hff5 : ff5 < md) (hgg5 : gg5 < md) (qff5 : nI ff2 = nI ff5) (ff8 : Nat) (gg8 : Nat) (hff8 : ff8 < md) (hgg8 : gg8 < md) (qff8 : nI gg2 = nI ff8) (qgg8 : nI gg5 = nI gg8) (ff13 : Nat) (ss13 : Nat) (dd13 : Nat) (hff13 : ff13 < ms) (hss13 : ss13 < mk) (hdd13 : dd13 < 2) : gg2 < 4 := by
  first | assumption | omega | decide | rfl
theorem lf_X12_slipped_18 (h : Nat) (q : Nat → Nat) (im : Nat → Int32) (ms : Nat) (mk : Nat) (md : Nat) (m_hasMark : Nat → Int32) (m_markAcross : Nat → Int32) (m_markDeep : Nat → Int32) (m_gaps : Nat → Int32) (n1 : Int32) (n2 : Int32) (n3 : Int32) (n4 : Int32) (n5 : Int32) (n6 : Int32) (hf_ms : im 2 = nI ms) (hf_mk : im 3 = nI mk) (hf_md : im 50 = nI md) (hms : ms ≤ 24) (hmk : mk ≤ 8) (hm3 : mk = 0 ∨ 3 ≤ ms) (hmd : md ≤ 4) (hsb : SB [54, 55, 56, 57, 58] im im) (ff2 : Nat) (gg2 : Nat) (hff2 : ff2 < md) (hgg2 : gg2 < md) (ff5 : Nat) (gg5 : Nat) (hff5 : ff5 < md) (hgg5 : gg5 < md) (qff5 : nI ff2 = nI ff5) (ff8 : Nat) (gg8 : Nat) (hff8 : ff8 < md) (hgg8 : gg8 < md) (qff8 : nI gg2 = nI ff8) (qgg8 : nI gg5 = nI gg8) (ff13 : Nat) (ss13 : Nat) (dd13 : Nat) (hff13 : ff13 < ms) (hss13 : ss13 < mk) (hdd13 : dd13 < 2) : (16 * ff13 + 2 * ss13 + dd13) < 384 := by
  first | assumption | omega | decide | rfl
theorem lf_X12_slipped_21 (h : Nat) (q : Nat → Nat) (im : Nat → Int32) (ms : Nat) (mk : Nat) (md : Nat) (m_hasMark : Nat → Int32) (m_markAcross : Nat → Int32) (m_markDeep : Nat → Int32) (m_gaps : Nat → Int32) (n1 : Int32) (n2 : Int32) (n3 : Int32) (n4 : Int32) (n5 : Int32) (n6 : Int32) (hf_ms : im 2 = nI ms) (hf_mk : im 3 = nI mk) (hf_md : im 50 = nI md) (hms : ms ≤ 24) (hmk : mk ≤ 8) (hm3 : mk = 0 ∨ 3 ≤ ms) (hmd : md ≤ 4) (hsb : SB [54, 55, 56, 57, 58] im im) (ff2 : Nat) (gg2 : Nat) (hff2 : ff2 < md) (hgg2 : gg2 < md) (ff5 : Nat) (gg5 : Nat) (hff5 : ff5 < md) (hgg5 : gg5 < md) (qff5 : nI ff2 = nI ff5) (ff8 : Nat) (gg8 : Nat) (hff8 : ff8 < md) (hgg8 : gg8 < md) (qff8 : nI gg2 = nI ff8) (qgg8 : nI gg5 = nI gg8) (ff13 : Nat) (ss13 : Nat) (dd13 : Nat) (hff13 : ff13 < ms) (hss13 : ss13 < mk) (hdd13 : dd13 < 2) (r_19 : Int32) (c_20 : r_19 = 0) : (SB [54, 55, 56, 57, 58] im (im : Nat → Int32)) := by
  repeat' apply And.intro
  all_goals first | assumption | omega | rfl | trivial
theorem lf_X12_slipped_22 (h : Nat) (q : Nat → Nat) (im : Nat → Int32) (ms : Nat) (mk : Nat) (md : Nat) (m_hasMark : Nat → Int32) (m_markAcross : Nat → Int32) (m_markDeep : Nat → Int32) (m_gaps : Nat → Int32) (n1 : Int32) (n2 : Int32) (n3 : Int32) (n4 : Int32) (n5 : Int32) (n6 : Int32) (hf_ms : im 2 = nI ms) (hf_mk : im 3 = nI mk) (hf_md : im 50 = nI md) (hms : ms ≤ 24) (hmk : mk ≤ 8) (hm3 : mk = 0 ∨ 3 ≤ ms) (hmd : md ≤ 4) (hsb : SB [54, 55, 56, 57, 58] im im) (ff2 : Nat) (gg2 : Nat) (hff2 : ff2 < md) (hgg2 : gg2 < md) (ff5 : Nat) (gg5 : Nat) (hff5 : ff5 < md) (hgg5 : gg5 < md) (qff5 : nI ff2 = nI ff5) (ff8 : Nat) (gg8 : Nat) (hff8 : ff8 < md) (hgg8 : gg8 < md) (qff8 : nI gg2 = nI ff8) (qgg8 : nI gg5 = nI gg8) (ff13 : Nat) (ss13 : Nat) (dd13 : Nat) (hff13 : ff13 < ms) (hss13 : ss13 < mk) (hdd13 : dd13 < 2) (r_19 : Int32) (c_20 : ¬ r_19 = 0) : ff2 < 4 := by
  first | assumption | omega | decide | rfl
theorem lf_X12_slipped_23 (h : Nat) (q : Nat → Nat) (im : Nat → Int32) (ms : Nat) (mk : Nat) (md : Nat) (m_hasMark : Nat → Int32) (m_markAcross : Nat → Int32) (m_markDeep : Nat → Int32) (m_gaps : Nat → Int32) (n1 : Int32) (n2 : Int32) (n3 : Int32) (n4 : Int32) (n5 : Int32) (n6 : Int32) (hf_ms : im 2 = nI ms) (hf_mk : im 3 = nI mk) (hf_md : im 50 = nI md) (hms : ms ≤ 24) (hmk : mk ≤ 8) (hm3 : mk = 0 ∨ 3 ≤ ms) (hmd : md ≤ 4) (hsb : SB [54, 55, 56, 57, 58] im im) (ff2 : Nat) (gg2 : Nat) (hff2 : ff2 < md) (hgg2 : gg2 < md) (ff5 : Nat) (gg5 : Nat) (hff5 : ff5 < md) (hgg5 : gg5 < md) (qff5 : nI ff2 = nI ff5) (ff8 : Nat) (gg8 : Nat) (hff8 : ff8 < md) (hgg8 : gg8 < md) (qff8 : nI gg2 = nI ff8) (qgg8 : nI gg5 = nI gg8) (ff13 : Nat) (ss13 : Nat) (dd13 : Nat) (hff13 : ff13 < ms) (hss13 : ss13 < mk) (hdd13 : dd13 < 2) (r_19 : Int32) (c_20 : ¬ r_19 = 0) : gg5 < 4 := by
  first | assumption | omega | decide | rfl
theorem lf_X12_slipped_24 (h : Nat) (q : Nat → Nat) (im : Nat → Int32) (ms : Nat) (mk : Nat) (md : Nat) (m_hasMark : Nat → Int32) (m_markAcross : Nat → Int32) (m_markDeep : Nat → Int32) (m_gaps : Nat → Int32) (n1 : Int32) (n2 : Int32) (n3 : Int32) (n4 : Int32) (n5 : Int32) (n6 : Int32) (hf_ms : im 2 = nI ms) (hf_mk : im 3 = nI mk) (hf_md : im 50 = nI md) (hms : ms ≤ 24) (hmk : mk ≤ 8) (hm3 : mk = 0 ∨ 3 ≤ ms) (hmd : md ≤ 4) (hsb : SB [54, 55, 56, 57, 58] im im) (ff2 : Nat) (gg2 : Nat) (hff2 : ff2 < md) (hgg2 : gg2 < md) (ff5 : Nat) (gg5 : Nat) (hff5 : ff5 < md) (hgg5 : gg5 < md) (qff5 : nI ff2 = nI ff5) (ff8 : Nat) (gg8 : Nat) (hff8 : ff8 < md) (hgg8 : gg8 < md) (qff8 : nI gg2 = nI ff8) (qgg8 : nI gg5 = nI gg8) (ff13 : Nat) (ss13 : Nat) (dd13 : Nat) (hff13 : ff13 < ms) (hss13 : ss13 < mk) (hdd13 : dd13 < 2) (r_19 : Int32) (c_20 : ¬ r_19 = 0) : (16 * ff13 + 2 * ss13 + dd13) < 384 := by
  first | assumption | omega | decide | rfl
theorem lf_X12_slipped_27 (h : Nat) (q : Nat → Nat) (im : Nat → Int32) (ms : Nat) (mk : Nat) (md : Nat) (m_hasMark : Nat → Int32) (m_markAcross : Nat → Int32) (m_markDeep : Nat → Int32) (m_gaps : Nat → Int32) (n1 : Int32) (n2 : Int32) (n3 : Int32) (n4 : Int32) (n5 : Int32) (n6 : Int32) (hf_ms : im 2 = nI ms) (hf_mk : im 3 = nI mk) (hf_md : im 50 = nI md) (hms : ms ≤ 24) (hmk : mk ≤ 8) (hm3 : mk = 0 ∨ 3 ≤ ms) (hmd : md ≤ 4) (hsb : SB [54, 55, 56, 57, 58] im im) (ff2 : Nat) (gg2 : Nat) (hff2 : ff2 < md) (hgg2 : gg2 < md) (ff5 : Nat) (gg5 : Nat) (hff5 : ff5 < md) (hgg5 : gg5 < md) (qff5 : nI ff2 = nI ff5) (ff8 : Nat) (gg8 : Nat) (hff8 : ff8 < md) (hgg8 : gg8 < md) (qff8 : nI gg2 = nI ff8) (qgg8 : nI gg5 = nI gg8) (ff13 : Nat) (ss13 : Nat) (dd13 : Nat) (hff13 : ff13 < ms) (hss13 : ss13 < mk) (hdd13 : dd13 < 2) (r_19 : Int32) (c_20 : ¬ r_19 = 0) (r_25 : Int32) (c_26 : ¬ r_25 = 0) : ff2 < 4 := by
  first | assumption | omega | decide | rfl
theorem lf_X12_slipped_28 (h : Nat) (q : Nat → Nat) (im : Nat → Int32) (ms : Nat) (mk : Nat) (md : Nat) (m_hasMark : Nat → Int32) (m_markAcross : Nat → Int32) (m_markDeep : Nat → Int32) (m_gaps : Nat → Int32) (n1 : Int32) (n2 : Int32) (n3 : Int32) (n4 : Int32) (n5 : Int32) (n6 : Int32) (hf_ms : im 2 = nI ms) (hf_mk : im 3 = nI mk) (hf_md : im 50 = nI md) (hms : ms ≤ 24) (hmk : mk ≤ 8) (hm3 : mk = 0 ∨ 3 ≤ ms) (hmd : md ≤ 4) (hsb : SB [54, 55, 56, 57, 58] im im) (ff2 : Nat) (gg2 : Nat) (hff2 : ff2 < md) (hgg2 : gg2 < md) (ff5 : Nat) (gg5 : Nat) (hff5 : ff5 < md) (hgg5 : gg5 < md) (qff5 : nI ff2 = nI ff5) (ff8 : Nat) (gg8 : Nat) (hff8 : ff8 < md) (hgg8 : gg8 < md) (qff8 : nI gg2 = nI ff8) (qgg8 : nI gg5 = nI gg8) (ff13 : Nat) (ss13 : Nat) (dd13 : Nat) (hff13 : ff13 < ms) (hss13 : ss13 < mk) (hdd13 : dd13 < 2) (r_19 : Int32) (c_20 : ¬ r_19 = 0) (r_25 : Int32) (c_26 : ¬ r_25 = 0) : gg5 < 4 := by
  first | assumption | omega | decide | rfl
theorem lf_X12_slipped_29 (h : Nat) (q : Nat → Nat) (im : Nat → Int32) (ms : Nat) (mk : Nat) (md : Nat) (m_hasMark : Nat → Int32) (m_markAcross : Nat → Int32) (m_markDeep : Nat → Int32) (m_gaps : Nat → Int32) (n1 : Int32) (n2 : Int32) (n3 : Int32) (n4 : Int32) (n5 : Int32) (n6 : Int32) (hf_ms : im 2 = nI ms) (hf_mk : im 3 = nI mk) (hf_md : im 50 = nI md) (hms : ms ≤ 24) (hmk : mk ≤ 8) (hm3 : mk = 0 ∨ 3 ≤ ms) (hmd : md ≤ 4) (hsb : SB [54, 55, 56, 57, 58] im im) (ff2 : Nat) (gg2 : Nat) (hff2 : ff2 < md) (hgg2 : gg2 < md) (ff5 : Nat) (gg5 : Nat) (hff5 : ff5 < md) (hgg5 : gg5 < md) (qff5 : nI ff2 = nI ff5) (ff8 : Nat) (gg8 : Nat) (hff8 : ff8 < md) (hgg8 : gg8 < md) (qff8 : nI gg2 = nI ff8) (qgg8 : nI gg5 = nI gg8) (ff13 : Nat) (ss13 : Nat) (dd13 : Nat) (hff13 : ff13 < ms) (hss13 : ss13 < mk) (hdd13 : dd13 < 2) (r_19 : Int32) (c_20 : ¬ r_19 = 0) (r_25 : Int32) (c_26 : ¬ r_25 = 0) : (16 * ff13 + 2 * ss13 + dd13) < 384 := by
  first | assumption | omega | decide | rfl
theorem lf_X12_slipped_32 (h : Nat) (q : Nat → Nat) (im : Nat → Int32) (ms : Nat) (mk : Nat) (md : Nat) (m_hasMark : Nat → Int32) (m_markAcross : Nat → Int32) (m_markDeep : Nat → Int32) (m_gaps : Nat → Int32) (n1 : Int32) (n2 : Int32) (n3 : Int32) (n4 : Int32) (n5 : Int32) (n6 : Int32) (hf_ms : im 2 = nI ms) (hf_mk : im 3 = nI mk) (hf_md : im 50 = nI md) (hms : ms ≤ 24) (hmk : mk ≤ 8) (hm3 : mk = 0 ∨ 3 ≤ ms) (hmd : md ≤ 4) (ff2 : Nat) (gg2 : Nat) (hff2 : ff2 < md) (hgg2 : gg2 < md) (ff5 : Nat) (gg5 : Nat) (hff5 : ff5 < md) (hgg5 : gg5 < md) (qff5 : nI ff2 = nI ff5) (ff8 : Nat) (gg8 : Nat) (hff8 : ff8 < md) (hgg8 : gg8 < md) (qff8 : nI gg2 = nI ff8) (qgg8 : nI gg5 = nI gg8) (ff13 : Nat) (ss13 : Nat) (dd13 : Nat) (hff13 : ff13 < ms) (hss13 : ss13 < mk) (hdd13 : dd13 < 2) (r_19 : Int32) (c_20 : ¬ r_19 = 0) (r_25 : Int32) (c_26 : ¬ r_25 = 0) (im_31 : Nat → Int32) (m_gaps_31 : Nat → Int32) (hz_31_0 : SB [54, 55, 56, 57, 58] im im_31) (hsb : SB [54, 55, 56, 57, 58] im im_31) (r_30 : Int32) : gg2 < 4 := by
  first | assumption | omega | decide | rfl
theorem lf_X12_slipped_33 (h : Nat) (q : Nat → Nat) (im : Nat → Int32) (ms : Nat) (mk : Nat) (md : Nat) (m_hasMark : Nat → Int32) (m_markAcross : Nat → Int32) (m_markDeep : Nat → Int32) (m_gaps : Nat → Int32) (n1 : Int32) (n2 : Int32) (n3 : Int32) (n4 : Int32) (n5 : Int32) (n6 : Int32) (hf_ms : im 2 = nI ms) (hf_mk : im 3 = nI mk) (hf_md : im 50 = nI md) (hms : ms ≤ 24) (hmk : mk ≤ 8) (hm3 : mk = 0 ∨ 3 ≤ ms) (hmd : md ≤ 4) (ff2 : Nat) (gg2 : Nat) (hff2 : ff2 < md) (hgg2 : gg2 < md) (ff5 : Nat) (gg5 : Nat) (hff5 : ff5 < md) (hgg5 : gg5 < md) (qff5 : nI ff2 = nI ff5) (ff8 : Nat) (gg8 : Nat) (hff8 : ff8 < md) (hgg8 : gg8 < md) (qff8 : nI gg2 = nI ff8) (qgg8 : nI gg5 = nI gg8) (ff13 : Nat) (ss13 : Nat) (dd13 : Nat) (hff13 : ff13 < ms) (hss13 : ss13 < mk) (hdd13 : dd13 < 2) (r_19 : Int32) (c_20 : ¬ r_19 = 0) (r_25 : Int32) (c_26 : ¬ r_25 = 0) (im_31 : Nat → Int32) (m_gaps_31 : Nat → Int32) (hz_31_0 : SB [54, 55, 56, 57, 58] im im_31) (hsb : SB [54, 55, 56, 57, 58] im im_31) (r_30 : Int32) : gg5 < 4 := by
  first | assumption | omega | decide | rfl
theorem lf_X12_slipped_34 (h : Nat) (q : Nat → Nat) (im : Nat → Int32) (ms : Nat) (mk : Nat) (md : Nat) (m_hasMark : Nat → Int32) (m_markAcross : Nat → Int32) (m_markDeep : Nat → Int32) (m_gaps : Nat → Int32) (n1 : Int32) (n2 : Int32) (n3 : Int32) (n4 : Int32) (n5 : Int32) (n6 : Int32) (hf_ms : im 2 = nI ms) (hf_mk : im 3 = nI mk) (hf_md : im 50 = nI md) (hms : ms ≤ 24) (hmk : mk ≤ 8) (hm3 : mk = 0 ∨ 3 ≤ ms) (hmd : md ≤ 4) (ff2 : Nat) (gg2 : Nat) (hff2 : ff2 < md) (hgg2 : gg2 < md) (ff5 : Nat) (gg5 : Nat) (hff5 : ff5 < md) (hgg5 : gg5 < md) (qff5 : nI ff2 = nI ff5) (ff8 : Nat) (gg8 : Nat) (hff8 : ff8 < md) (hgg8 : gg8 < md) (qff8 : nI gg2 = nI ff8) (qgg8 : nI gg5 = nI gg8) (ff13 : Nat) (ss13 : Nat) (dd13 : Nat) (hff13 : ff13 < ms) (hss13 : ss13 < mk) (hdd13 : dd13 < 2) (r_19 : Int32) (c_20 : ¬ r_19 = 0) (r_25 : Int32) (c_26 : ¬ r_25 = 0) (im_31 : Nat → Int32) (m_gaps_31 : Nat → Int32) (hz_31_0 : SB [54, 55, 56, 57, 58] im im_31) (hsb : SB [54, 55, 56, 57, 58] im im_31) (r_30 : Int32) : (16 * ff13 + 2 * ss13 + dd13) < 384 := by
  first | assumption | omega | decide | rfl
theorem lf_X12_slipped_39 (h : Nat) (q : Nat → Nat) (im : Nat → Int32) (ms : Nat) (mk : Nat) (md : Nat) (m_hasMark : Nat → Int32) (m_markAcross : Nat → Int32) (m_markDeep : Nat → Int32) (m_gaps : Nat → Int32) (n1 : Int32) (n2 : Int32) (n3 : Int32) (n4 : Int32) (n5 : Int32) (n6 : Int32) (hf_ms : im 2 = nI ms) (hf_mk : im 3 = nI mk) (hf_md : im 50 = nI md) (hms : ms ≤ 24) (hmk : mk ≤ 8) (hm3 : mk = 0 ∨ 3 ≤ ms) (hmd : md ≤ 4) (ff2 : Nat) (gg2 : Nat) (hff2 : ff2 < md) (hgg2 : gg2 < md) (ff5 : Nat) (gg5 : Nat) (hff5 : ff5 < md) (hgg5 : gg5 < md) (qff5 : nI ff2 = nI ff5) (ff8 : Nat) (gg8 : Nat) (hff8 : ff8 < md) (hgg8 : gg8 < md) (qff8 : nI gg2 = nI ff8) (qgg8 : nI gg5 = nI gg8) (ff13 : Nat) (ss13 : Nat) (dd13 : Nat) (hff13 : ff13 < ms) (hss13 : ss13 < mk) (hdd13 : dd13 < 2) (r_19 : Int32) (c_20 : ¬ r_19 = 0) (r_25 : Int32) (c_26 : ¬ r_25 = 0) (im_31 : Nat → Int32) (m_gaps_31 : Nat → Int32) (hz_31_0 : SB [54, 55, 56, 57, 58] im im_31) (r_30 : Int32) (im_36 : Nat → Int32) (m_gaps_36 : Nat → Int32) (hz_36_0 : SB [54, 55, 56, 57, 58] im_31 im_36) (hsb : SB [54, 55, 56, 57, 58] im im_36) (r_35 : Int32) (c_37 : r_30 ≤ r_35) (c_38 : r_35 ≤ r_30) (hk_36_2 : im_36 2 = nI ms) (hk_36_3 : im_36 3 = nI mk) (hk_36_50 : im_36 50 = nI md) : (SB [54, 55, 56, 57, 58] im (im_36 : Nat → Int32)) := by
  repeat' apply And.intro
  all_goals first | assumption | omega | rfl | trivial
theorem lf_X12_slipped_40 (h : Nat) (q : Nat → Nat) (im : Nat → Int32) (ms : Nat) (mk : Nat) (md : Nat) (m_hasMark : Nat → Int32) (m_markAcross : Nat → Int32) (m_markDeep : Nat → Int32) (m_gaps : Nat → Int32) (n1 : Int32) (n2 : Int32) (n3 : Int32) (n4 : Int32) (n5 : Int32) (n6 : Int32) (hf_ms : im 2 = nI ms) (hf_mk : im 3 = nI mk) (hf_md : im 50 = nI md) (hms : ms ≤ 24) (hmk : mk ≤ 8) (hm3 : mk = 0 ∨ 3 ≤ ms) (hmd : md ≤ 4) (ff2 : Nat) (gg2 : Nat) (hff2 : ff2 < md) (hgg2 : gg2 < md) (ff5 : Nat) (gg5 : Nat) (hff5 : ff5 < md) (hgg5 : gg5 < md) (qff5 : nI ff2 = nI ff5) (ff8 : Nat) (gg8 : Nat) (hff8 : ff8 < md) (hgg8 : gg8 < md) (qff8 : nI gg2 = nI ff8) (qgg8 : nI gg5 = nI gg8) (ff13 : Nat) (ss13 : Nat) (dd13 : Nat) (hff13 : ff13 < ms) (hss13 : ss13 < mk) (hdd13 : dd13 < 2) (r_19 : Int32) (c_20 : ¬ r_19 = 0) (r_25 : Int32) (c_26 : ¬ r_25 = 0) (im_31 : Nat → Int32) (m_gaps_31 : Nat → Int32) (hz_31_0 : SB [54, 55, 56, 57, 58] im im_31) (r_30 : Int32) (im_36 : Nat → Int32) (m_gaps_36 : Nat → Int32) (hz_36_0 : SB [54, 55, 56, 57, 58] im_31 im_36) (hsb : SB [54, 55, 56, 57, 58] im im_36) (r_35 : Int32) (c_37 : r_30 ≤ r_35) (c_38 : ¬ r_35 ≤ r_30) (hk_36_2 : im_36 2 = nI ms) (hk_36_3 : im_36 3 = nI mk) (hk_36_50 : im_36 50 = nI md) : (SB [54, 55, 56, 57, 58] im (im_36 : Nat → Int32)) := by
  repeat' apply And.intro
  all_goals first | assumption | omega | rfl | trivial
theorem lf_X12_slipped_41 (h : Nat) (q : Nat → Nat) (im : Nat → Int32) (ms : Nat) (mk : Nat) (md : Nat) (m_hasMark : Nat → Int32) (m_markAcross : Nat → Int32) (m_markDeep : Nat → Int32) (m_gaps : Nat → Int32) (n1 : Int32) (n2 : Int32) (n3 : Int32) (n4 : Int32) (n5 : Int32) (n6 : Int32) (hf_ms : im 2 = nI ms) (hf_mk : im 3 = nI mk) (hf_md : im 50 = nI md) (hms : ms ≤ 24) (hmk : mk ≤ 8) (hm3 : mk = 0 ∨ 3 ≤ ms) (hmd : md ≤ 4) (ff2 : Nat) (gg2 : Nat) (hff2 : ff2 < md) (hgg2 : gg2 < md) (ff5 : Nat) (gg5 : Nat) (hff5 : ff5 < md) (hgg5 : gg5 < md) (qff5 : nI ff2 = nI ff5) (ff8 : Nat) (gg8 : Nat) (hff8 : ff8 < md) (hgg8 : gg8 < md) (qff8 : nI gg2 = nI ff8) (qgg8 : nI gg5 = nI gg8) (ff13 : Nat) (ss13 : Nat) (dd13 : Nat) (hff13 : ff13 < ms) (hss13 : ss13 < mk) (hdd13 : dd13 < 2) (r_19 : Int32) (c_20 : ¬ r_19 = 0) (r_25 : Int32) (c_26 : ¬ r_25 = 0) (im_31 : Nat → Int32) (m_gaps_31 : Nat → Int32) (hz_31_0 : SB [54, 55, 56, 57, 58] im im_31) (r_30 : Int32) (im_36 : Nat → Int32) (m_gaps_36 : Nat → Int32) (hz_36_0 : SB [54, 55, 56, 57, 58] im_31 im_36) (hsb : SB [54, 55, 56, 57, 58] im im_36) (r_35 : Int32) (c_37 : ¬ r_30 ≤ r_35) (hk_36_2 : im_36 2 = nI ms) (hk_36_3 : im_36 3 = nI mk) (hk_36_50 : im_36 50 = nI md) : (SB [54, 55, 56, 57, 58] im (im_36 : Nat → Int32)) := by
  repeat' apply And.intro
  all_goals first | assumption | omega | rfl | trivial
theorem lf_X12_slipped_42 (h : Nat) (q : Nat → Nat) (im : Nat → Int32) (ms : Nat) (mk : Nat) (md : Nat) (m_hasMark : Nat → Int32) (m_markAcross : Nat → Int32) (m_markDeep : Nat → Int32) (m_gaps : Nat → Int32) (n1 : Int32) (n2 : Int32) (n3 : Int32) (n4 : Int32) (n5 : Int32) (n6 : Int32) (hf_ms : im 2 = nI ms) (hf_mk : im 3 = nI mk) (hf_md : im 50 = nI md) (hms : ms ≤ 24) (hmk : mk ≤ 8) (hm3 : mk = 0 ∨ 3 ≤ ms) (hmd : md ≤ 4) (hsb : SB [54, 55, 56, 57, 58] im im) (ff2 : Nat) (gg2 : Nat) (hff2 : ff2 < md) (hgg2 : gg2 < md) (ff5 : Nat) (gg5 : Nat) (hff5 : ff5 < md) (hgg5 : gg5 < md) (qff5 : nI ff2 = nI ff5) (ff8 : Nat) (gg8 : Nat) (hff8 : ff8 < md) (hgg8 : gg8 < md) (qff8 : nI gg2 = nI ff8) (qgg8 : nI gg5 = nI gg8) (ff13 : Nat) (ss13 : Nat) (dd13 : Nat) (hff13 : ff13 < ms) (hss13 : ss13 < mk) (hdd13 : dd13 < 2) (r_19 : Int32) (c_20 : ¬ r_19 = 0) (r_25 : Int32) (c_26 : r_25 = 0) : (SB [54, 55, 56, 57, 58] im (im : Nat → Int32)) := by
  repeat' apply And.intro
  all_goals first | assumption | omega | rfl | trivial
set_option maxHeartbeats 4000000 in
set_option maxRecDepth 100000 in
theorem c_X12_slipped (l : Launch) (D : va_G) (cI cB cZ cJ : ClassId) (tx : List (ClassId × FieldType)) (h : Nat) (q : Nat → Nat) (im : Nat → Int32) (ms : Nat) (mk : Nat) (md : Nat) (m_hasMark : Nat → Int32) (m_markAcross : Nat → Int32) (m_markDeep : Nat → Int32) (m_gaps : Nat → Int32) (n1 : Int32) (n2 : Int32) (n3 : Int32) (n4 : Int32) (n5 : Int32) (n6 : Int32) (hf_ms : im 2 = nI ms) (hf_mk : im 3 = nI mk) (hf_md : im 50 = nI md) (hms : ms ≤ 24) (hmk : mk ≤ 8) (hm3 : mk = 0 ∨ 3 ≤ ms) (hmd : md ≤ 4) : WrI l D cI cB cZ cJ tx yX12_slipped cX12_slipped 10 (some .int) 4 0 0 [.ref h, .int n1, .int n2, .int n3, .int n4, .int n5, .int n6] [(h, .inr (12, mG q im)), (q 51, .inl (cZ, 1536, .inl m_hasMark)), (q 52, .inl (cI, 1536, .inl m_markAcross)), (q 53, .inl (cI, 1536, .inl m_markDeep)), (q 59, .inl (cI, 384, .inl m_gaps))] (fun (r : Int32) (v : (Nat → Int32) × (Nat → Int32)) => (SB [54, 55, 56, 57, 58] im v.1)) (fun v => [(h, .inr (12, mG q v.1)), (q 51, .inl (cZ, 1536, .inl m_hasMark)), (q 52, .inl (cI, 1536, .inl m_markAcross)), (q 53, .inl (cI, 1536, .inl m_markDeep)), (q 59, .inl (cI, 384, .inl v.2))]) := by
  refine wri_of2 (by decide) (Nat.le_of_ble_eq_true rfl) ?_
  intro p e s m below meth c A ls H locs hC hK hP hD hA hS hl
  obtain ⟨hx, hb, hr, hml, hown, hts, hlocks, hin⟩ := hC
  have hown : s.vm.findClass RX12 = some m.cls := hown
  have hl : lv_has ls 10 [(0, .ref h), (1, .int n1), (2, .int n2), (3, .int n3), (4, .int n4), (5, .int n5), (6, .int n6)] := hl
  have hsb : SB [54, 55, 56, 57, 58] im im := SB.rf
  refine lv_aload_n hx hb dX12_slipped_0 rfl (lv_at hl 0 rfl) ?_
  refine lv_iload_n hx hb dX12_slipped_1 rfl (lv_at hl 1 rfl) ?_
  refine lv_iload_n hx hb dX12_slipped_2 rfl (lv_at hl 2 rfl) ?_
  refine eRi (va_runV (As := [.int n1, .int n2]) (rest := []) ⟨hx, hb, hml, hown, hts⟩ (c_X12_areTwo l D cI cB cZ cJ tx h q im md n1 n2 hf_md (lf_X12_slipped_1 h q im ms mk md m_hasMark m_markAcross m_markDeep m_gaps n1 n2 n3 n4 n5 n6 hf_ms hf_mk hf_md hms hmk hm3 hmd hsb) H.size) (zV hts k_1869 v_X12_areTwo ⟨Nat.le_of_ble_eq_true rfl, Nat.le_of_ble_eq_true rfl⟩) (pV (px1 hK hP 0 rfl) hK hP 0 rfl rfl) rfl rfl hl.1 rfl (lv_room (Nat.le_of_ble_eq_true rfl)) dX12_slipped_3 ⟨Nat.le_of_ble_eq_true rfl, Nat.le_of_ble_eq_true rfl⟩) hP hS hA (fun r_2 H locs wr_2 hP hS => ?_)
  rcases wr_2 with rfl | ⟨ff2, gg2, hff2, hgg2, rfl, rfl, rfl⟩
  · refine lv_if_eq (tgt := 40) hx hb dX12_slipped_6 (by decide) (fun _ => ?_) (fun c => absurd c (by decide))
    refine lv_iconst (v := (-1)) hx hb dX12_slipped_40 (by decide) ?_
    exact W.iret (v := (-1)) hx hb hr (fun tt9 ht hW => ⟨⟨((-1) : Int32), ((im : Nat → Int32), (m_gaps : Nat → Int32)), rfl, (lf_X12_slipped_3 h q im ms mk md m_hasMark m_markAcross m_markDeep m_gaps n1 n2 n3 n4 n5 n6 hf_ms hf_mk hf_md hms hmk hm3 hmd hsb), ⟨by rw [ht]; exact hP, hD⟩⟩, hS.F ht⟩) hS.2.2 dX12_slipped_41 hlocks
  · refine lv_if_eq (tgt := 40) hx hb dX12_slipped_6 (by decide) (fun c => absurd c (by decide)) (fun _ => ?_)
    refine lv_aload_n hx hb dX12_slipped_9 rfl (lv_at hl 0 rfl) ?_
    refine lv_iload_n hx hb dX12_slipped_10 rfl (lv_at hl 1 rfl) ?_
    refine lv_iload_n hx hb dX12_slipped_11 rfl (lv_at hl 3 rfl) ?_
    refine eRi (va_runV (As := [.int (nI ff2), .int n3]) (rest := []) ⟨hx, hb, hml, hown, hts⟩ (c_X12_areTwo l D cI cB cZ cJ tx h q im md (nI ff2) n3 hf_md (lf_X12_slipped_4 h q im ms mk md m_hasMark m_markAcross m_markDeep m_gaps (nI ff2) (nI gg2) n3 n4 n5 n6 hf_ms hf_mk hf_md hms hmk hm3 hmd hsb ff2 gg2 hff2 hgg2) H.size) (zV hts k_1869 v_X12_areTwo ⟨Nat.le_of_ble_eq_true rfl, Nat.le_of_ble_eq_true rfl⟩) (pV (px1 hK hP 0 rfl) hK hP 0 rfl rfl) rfl rfl hl.1 rfl (lv_room (Nat.le_of_ble_eq_true rfl)) dX12_slipped_12 ⟨Nat.le_of_ble_eq_true rfl, Nat.le_of_ble_eq_true rfl⟩) hP hS hA (fun r_5 H locs wr_5 hP hS => ?_)
    rcases wr_5 with rfl | ⟨ff5, gg5, hff5, hgg5, qff5, rfl, rfl⟩
    · refine lv_if_eq (tgt := 40) hx hb dX12_slipped_15 (by decide) (fun _ => ?_) (fun c => absurd c (by decide))
      refine lv_iconst (v := (-1)) hx hb dX12_slipped_40 (by decide) ?_
      exact W.iret (v := (-1)) hx hb hr (fun tt9 ht hW => ⟨⟨((-1) : Int32), ((im : Nat → Int32), (m_gaps : Nat → Int32)), rfl, (lf_X12_slipped_6 h q im ms mk md m_hasMark m_markAcross m_markDeep m_gaps (nI ff2) (nI gg2) n3 n4 n5 n6 hf_ms hf_mk hf_md hms hmk hm3 hmd hsb ff2 gg2 hff2 hgg2), ⟨by rw [ht]; exact hP, hD⟩⟩, hS.F ht⟩) hS.2.2 dX12_slipped_41 hlocks
    · refine lv_if_eq (tgt := 40) hx hb dX12_slipped_15 (by decide) (fun c => absurd c (by decide)) (fun _ => ?_)
      refine lv_aload_n hx hb dX12_slipped_18 rfl (lv_at hl 0 rfl) ?_
      refine lv_iload_n hx hb dX12_slipped_19 rfl (lv_at hl 2 rfl) ?_
      refine lv_iload_n hx hb dX12_slipped_20 rfl (lv_at hl 3 rfl) ?_
      refine eRi (va_runV (As := [.int (nI gg2), .int (nI gg5)]) (rest := []) ⟨hx, hb, hml, hown, hts⟩ (c_X12_areTwo l D cI cB cZ cJ tx h q im md (nI gg2) (nI gg5) hf_md (lf_X12_slipped_7 h q im ms mk md m_hasMark m_markAcross m_markDeep m_gaps (nI ff2) (nI gg2) (nI gg5) n4 n5 n6 hf_ms hf_mk hf_md hms hmk hm3 hmd hsb ff2 gg2 hff2 hgg2 ff5 gg5 hff5 hgg5 qff5) H.size) (zV hts k_1869 v_X12_areTwo ⟨Nat.le_of_ble_eq_true rfl, Nat.le_of_ble_eq_true rfl⟩) (pV (px1 hK hP 0 rfl) hK hP 0 rfl rfl) rfl rfl hl.1 rfl (lv_room (Nat.le_of_ble_eq_true rfl)) dX12_slipped_21 ⟨Nat.le_of_ble_eq_true rfl, Nat.le_of_ble_eq_true rfl⟩) hP hS hA (fun r_8 H locs wr_8 hP hS => ?_)
      rcases wr_8 with rfl | ⟨ff8, gg8, hff8, hgg8, qff8, qgg8, rfl⟩
      · refine lv_if_eq (tgt := 40) hx hb dX12_slipped_24 (by decide) (fun _ => ?_) (fun c => absurd c (by decide))
        refine lv_iconst (v := (-1)) hx hb dX12_slipped_40 (by decide) ?_
        exact W.iret (v := (-1)) hx hb hr (fun tt9 ht hW => ⟨⟨((-1) : Int32), ((im : Nat → Int32), (m_gaps : Nat → Int32)), rfl, (lf_X12_slipped_9 h q im ms mk md m_hasMark m_markAcross m_markDeep m_gaps (nI ff2) (nI gg2) (nI gg5) n4 n5 n6 hf_ms hf_mk hf_md hms hmk hm3 hmd hsb ff2 gg2 hff2 hgg2 ff5 gg5 hff5 hgg5 qff5), ⟨by rw [ht]; exact hP, hD⟩⟩, hS.F ht⟩) hS.2.2 dX12_slipped_41 hlocks
      · refine lv_if_eq (tgt := 40) hx hb dX12_slipped_24 (by decide) (fun c => absurd c (by decide)) (fun _ => ?_)
        refine lv_aload_n hx hb dX12_slipped_27 rfl (lv_at hl 0 rfl) ?_
        refine lv_iload hx hb dX12_slipped_28 (lv_at hl 4 rfl) ?_
        refine lv_iload hx hb dX12_slipped_30 (lv_at hl 5 rfl) ?_
        refine lv_iload hx hb dX12_slipped_32 (lv_at hl 6 rfl) ?_
        refine eRi (va_runV (As := [.int n4, .int n5, .int n6]) (rest := []) ⟨hx, hb, hml, hown, hts⟩ (c_X12_isRivet l D cI cB cZ cJ tx h q im ms mk n4 n5 n6 hf_ms hf_mk (lf_X12_slipped_10 h q im ms mk md m_hasMark m_markAcross m_markDeep m_gaps (nI ff2) (nI gg2) (nI gg5) n4 n5 n6 hf_ms hf_mk hf_md hms hmk hm3 hmd hsb ff2 gg2 hff2 hgg2 ff5 gg5 hff5 hgg5 qff5 ff8 gg8 hff8 hgg8 qff8 qgg8) (lf_X12_slipped_11 h q im ms mk md m_hasMark m_markAcross m_markDeep m_gaps (nI ff2) (nI gg2) (nI gg5) n4 n5 n6 hf_ms hf_mk hf_md hms hmk hm3 hmd hsb ff2 gg2 hff2 hgg2 ff5 gg5 hff5 hgg5 qff5 ff8 gg8 hff8 hgg8 qff8 qgg8) (lf_X12_slipped_12 h q im ms mk md m_hasMark m_markAcross m_markDeep m_gaps (nI ff2) (nI gg2) (nI gg5) n4 n5 n6 hf_ms hf_mk hf_md hms hmk hm3 hmd hsb ff2 gg2 hff2 hgg2 ff5 gg5 hff5 hgg5 qff5 ff8 gg8 hff8 hgg8 qff8 qgg8) H.size) (zV hts k_1799 v_X12_isRivet ⟨Nat.le_of_ble_eq_true rfl, Nat.le_of_ble_eq_true rfl⟩) (pV (px1 hK hP 0 rfl) hK hP 0 rfl rfl) rfl rfl hl.1 rfl (lv_room (Nat.le_of_ble_eq_true rfl)) dX12_slipped_34 ⟨Nat.le_of_ble_eq_true rfl, Nat.le_of_ble_eq_true rfl⟩) hP hS hA (fun r_13 H locs wr_13 hP hS => ?_)
        rcases wr_13 with rfl | ⟨ff13, ss13, dd13, hff13, hss13, hdd13, rfl, rfl, rfl, rfl⟩
        · refine lv_if_ne (tgt := 42) hx hb dX12_slipped_37 (by decide) (fun c => absurd c (by decide)) (fun _ => ?_)
          refine lv_iconst (v := (-1)) hx hb dX12_slipped_40 (by decide) ?_
          exact W.iret (v := (-1)) hx hb hr (fun tt9 ht hW => ⟨⟨((-1) : Int32), ((im : Nat → Int32), (m_gaps : Nat → Int32)), rfl, (lf_X12_slipped_14 h q im ms mk md m_hasMark m_markAcross m_markDeep m_gaps (nI ff2) (nI gg2) (nI gg5) n4 n5 n6 hf_ms hf_mk hf_md hms hmk hm3 hmd hsb ff2 gg2 hff2 hgg2 ff5 gg5 hff5 hgg5 qff5 ff8 gg8 hff8 hgg8 qff8 qgg8), ⟨by rw [ht]; exact hP, hD⟩⟩, hS.F ht⟩) hS.2.2 dX12_slipped_41 hlocks
        · refine lv_if_ne (tgt := 42) hx hb dX12_slipped_37 (by decide) (fun _ => ?_) (fun c => absurd c (by decide))
          refine lv_iload hx hb dX12_slipped_42 (lv_at hl 4 rfl) ?_
          refine lv_iload hx hb dX12_slipped_44 (lv_at hl 5 rfl) ?_
          refine lv_iload hx hb dX12_slipped_46 (lv_at hl 6 rfl) ?_
          refine eRi (va_runS (As := [.int (nI ff13), .int (nI ss13), .int (nI dd13)]) (rest := []) ⟨hx, hb, hml, hown, hts⟩ (c_X12_cellOf l D cI cB cZ cJ tx ff13 ss13 dd13 H.size) (zS hts k_1735 v_X12_cellOf ⟨Nat.le_of_ble_eq_true rfl, Nat.le_of_ble_eq_true rfl⟩) (px0 hK) rfl rfl hl.1 rfl (lv_room (Nat.le_of_ble_eq_true rfl)) dX12_slipped_48 ⟨Nat.le_of_ble_eq_true rfl, Nat.le_of_ble_eq_true rfl⟩) hP hS hA (fun r_15 H locs wr_15 hP hS => ?_)
          subst wr_15
          refine lv_istore (lv' := [(7, .int (nI (16 * ff13 + 2 * ss13 + dd13))), (0, .ref h), (1, .int (nI ff2)), (2, .int (nI gg2)), (3, .int (nI gg5)), (4, .int (nI ff13)), (5, .int (nI ss13)), (6, .int (nI dd13))]) hx hb dX12_slipped_51 hl (by decide) rfl (fun ls hl => ?_)
          refine lv_aload_n hx hb dX12_slipped_53 rfl (lv_at hl 1 rfl) ?_
          refine lv_iload_n hx hb dX12_slipped_54 rfl (lv_at hl 2 rfl) ?_
          refine lv_iload_n hx hb dX12_slipped_55 rfl (lv_at hl 3 rfl) ?_
          refine lv_iload hx hb dX12_slipped_56 (lv_at hl 0 rfl) ?_
          refine eRi (va_runV (As := [.int (nI ff2), .int (nI gg2), .int (nI (16 * ff13 + 2 * ss13 + dd13))]) (rest := []) ⟨hx, hb, hml, hown, hts⟩ (c_X12_hasBoth l D cI cB cZ cJ tx h q im m_hasMark ff2 gg2 (16 * ff13 + 2 * ss13 + dd13) (lf_X12_slipped_16 h q im ms mk md m_hasMark m_markAcross m_markDeep m_gaps (nI ff2) (nI gg2) (nI gg5) (nI ff13) (nI ss13) (nI dd13) hf_ms hf_mk hf_md hms hmk hm3 hmd hsb ff2 gg2 hff2 hgg2 ff5 gg5 hff5 hgg5 qff5 ff8 gg8 hff8 hgg8 qff8 qgg8 ff13 ss13 dd13 hff13 hss13 hdd13) (lf_X12_slipped_17 h q im ms mk md m_hasMark m_markAcross m_markDeep m_gaps (nI ff2) (nI gg2) (nI gg5) (nI ff13) (nI ss13) (nI dd13) hf_ms hf_mk hf_md hms hmk hm3 hmd hsb ff2 gg2 hff2 hgg2 ff5 gg5 hff5 hgg5 qff5 ff8 gg8 hff8 hgg8 qff8 qgg8 ff13 ss13 dd13 hff13 hss13 hdd13) (lf_X12_slipped_18 h q im ms mk md m_hasMark m_markAcross m_markDeep m_gaps (nI ff2) (nI gg2) (nI gg5) (nI ff13) (nI ss13) (nI dd13) hf_ms hf_mk hf_md hms hmk hm3 hmd hsb ff2 gg2 hff2 hgg2 ff5 gg5 hff5 hgg5 qff5 ff8 gg8 hff8 hgg8 qff8 qgg8 ff13 ss13 dd13 hff13 hss13 hdd13) H.size) (zV hts k_1883 v_X12_hasBoth ⟨Nat.le_of_ble_eq_true rfl, Nat.le_of_ble_eq_true rfl⟩) (pV (pxS hK hP hD [0, 1] (by decide) rfl) hK hP 0 rfl rfl) rfl rfl hl.1 rfl (lv_room (Nat.le_of_ble_eq_true rfl)) dX12_slipped_58 ⟨Nat.le_of_ble_eq_true rfl, Nat.le_of_ble_eq_true rfl⟩) hP hS hA (fun r_19 H locs wr_19 hP hS => ?_)
          refine lv_if_eq (tgt := 75) hx hb dX12_slipped_61 (by decide) (fun c_20 => ?_) (fun c_20 => ?_)
          · refine lv_iconst (v := (-1)) hx hb dX12_slipped_75 (by decide) ?_
            exact W.iret (v := (-1)) hx hb hr (fun tt9 ht hW => ⟨⟨((-1) : Int32), ((im : Nat → Int32), (m_gaps : Nat → Int32)), rfl, (lf_X12_slipped_21 h q im ms mk md m_hasMark m_markAcross m_markDeep m_gaps (nI ff2) (nI gg2) (nI gg5) (nI ff13) (nI ss13) (nI dd13) hf_ms hf_mk hf_md hms hmk hm3 hmd hsb ff2 gg2 hff2 hgg2 ff5 gg5 hff5 hgg5 qff5 ff8 gg8 hff8 hgg8 qff8 qgg8 ff13 ss13 dd13 hff13 hss13 hdd13 r_19 c_20), ⟨by rw [ht]; exact hP, hD⟩⟩, hS.F ht⟩) hS.2.2 dX12_slipped_76 hlocks
          · refine lv_aload_n hx hb dX12_slipped_64 rfl (lv_at hl 1 rfl) ?_
            refine lv_iload_n hx hb dX12_slipped_65 rfl (lv_at hl 2 rfl) ?_
            refine lv_iload_n hx hb dX12_slipped_66 rfl (lv_at hl 4 rfl) ?_
            refine lv_iload hx hb dX12_slipped_67 (lv_at hl 0 rfl) ?_
            refine eRi (va_runV (As := [.int (nI ff2), .int (nI gg5), .int (nI (16 * ff13 + 2 * ss13 + dd13))]) (rest := []) ⟨hx, hb, hml, hown, hts⟩ (c_X12_hasBoth l D cI cB cZ cJ tx h q im m_hasMark ff2 gg5 (16 * ff13 + 2 * ss13 + dd13) (lf_X12_slipped_22 h q im ms mk md m_hasMark m_markAcross m_markDeep m_gaps (nI ff2) (nI gg2) (nI gg5) (nI ff13) (nI ss13) (nI dd13) hf_ms hf_mk hf_md hms hmk hm3 hmd hsb ff2 gg2 hff2 hgg2 ff5 gg5 hff5 hgg5 qff5 ff8 gg8 hff8 hgg8 qff8 qgg8 ff13 ss13 dd13 hff13 hss13 hdd13 r_19 c_20) (lf_X12_slipped_23 h q im ms mk md m_hasMark m_markAcross m_markDeep m_gaps (nI ff2) (nI gg2) (nI gg5) (nI ff13) (nI ss13) (nI dd13) hf_ms hf_mk hf_md hms hmk hm3 hmd hsb ff2 gg2 hff2 hgg2 ff5 gg5 hff5 hgg5 qff5 ff8 gg8 hff8 hgg8 qff8 qgg8 ff13 ss13 dd13 hff13 hss13 hdd13 r_19 c_20) (lf_X12_slipped_24 h q im ms mk md m_hasMark m_markAcross m_markDeep m_gaps (nI ff2) (nI gg2) (nI gg5) (nI ff13) (nI ss13) (nI dd13) hf_ms hf_mk hf_md hms hmk hm3 hmd hsb ff2 gg2 hff2 hgg2 ff5 gg5 hff5 hgg5 qff5 ff8 gg8 hff8 hgg8 qff8 qgg8 ff13 ss13 dd13 hff13 hss13 hdd13 r_19 c_20) H.size) (zV hts k_1883 v_X12_hasBoth ⟨Nat.le_of_ble_eq_true rfl, Nat.le_of_ble_eq_true rfl⟩) (pV (pxS hK hP hD [0, 1] (by decide) rfl) hK hP 0 rfl rfl) rfl rfl hl.1 rfl (lv_room (Nat.le_of_ble_eq_true rfl)) dX12_slipped_69 ⟨Nat.le_of_ble_eq_true rfl, Nat.le_of_ble_eq_true rfl⟩) hP hS hA (fun r_25 H locs wr_25 hP hS => ?_)
            refine lv_if_ne (tgt := 77) hx hb dX12_slipped_72 (by decide) (fun c_26 => ?_) (fun c_26 => ?_)
            · refine lv_aload_n hx hb dX12_slipped_77 rfl (lv_at hl 1 rfl) ?_
              refine lv_iload_n hx hb dX12_slipped_78 rfl (lv_at hl 2 rfl) ?_
              refine lv_iload_n hx hb dX12_slipped_79 rfl (lv_at hl 4 rfl) ?_
              refine lv_iload hx hb dX12_slipped_80 (lv_at hl 0 rfl) ?_
              refine eWi (wr := []) (va_runV (As := [.int (nI ff2), .int (nI gg5), .int (nI (16 * ff13 + 2 * ss13 + dd13))]) (rest := []) ⟨hx, hb, hml, hown, hts⟩ (c_X12_farFrom l D cI cB cZ cJ tx h q im m_hasMark m_markAcross m_markDeep m_gaps ff2 gg5 (16 * ff13 + 2 * ss13 + dd13) (lf_X12_slipped_27 h q im ms mk md m_hasMark m_markAcross m_markDeep m_gaps (nI ff2) (nI gg2) (nI gg5) (nI ff13) (nI ss13) (nI dd13) hf_ms hf_mk hf_md hms hmk hm3 hmd hsb ff2 gg2 hff2 hgg2 ff5 gg5 hff5 hgg5 qff5 ff8 gg8 hff8 hgg8 qff8 qgg8 ff13 ss13 dd13 hff13 hss13 hdd13 r_19 c_20 r_25 c_26) (lf_X12_slipped_28 h q im ms mk md m_hasMark m_markAcross m_markDeep m_gaps (nI ff2) (nI gg2) (nI gg5) (nI ff13) (nI ss13) (nI dd13) hf_ms hf_mk hf_md hms hmk hm3 hmd hsb ff2 gg2 hff2 hgg2 ff5 gg5 hff5 hgg5 qff5 ff8 gg8 hff8 hgg8 qff8 qgg8 ff13 ss13 dd13 hff13 hss13 hdd13 r_19 c_20 r_25 c_26) (lf_X12_slipped_29 h q im ms mk md m_hasMark m_markAcross m_markDeep m_gaps (nI ff2) (nI gg2) (nI gg5) (nI ff13) (nI ss13) (nI dd13) hf_ms hf_mk hf_md hms hmk hm3 hmd hsb ff2 gg2 hff2 hgg2 ff5 gg5 hff5 hgg5 qff5 ff8 gg8 hff8 hgg8 qff8 qgg8 ff13 ss13 dd13 hff13 hss13 hdd13 r_19 c_20 r_25 c_26) H.size) (zV hts k_1907 v_X12_farFrom ⟨Nat.le_of_ble_eq_true rfl, Nat.le_of_ble_eq_true rfl⟩) (pV (pxS hK hP hD [0, 1, 2, 3, 4] (by decide) rfl) hK hP 0 rfl rfl) rfl rfl hl.1 rfl (lv_room (Nat.le_of_ble_eq_true rfl)) dX12_slipped_82 ⟨Nat.le_of_ble_eq_true rfl, Nat.le_of_ble_eq_true rfl⟩) hP hD hS hA [0, 1, 2, 3, 4] [] rfl rfl (by decide) (by decide) (fun r_30 u_31 H locs wr_30 hP hD hS => ?_)
              obtain ⟨im_31, m_gaps_31⟩ := u_31
              have hz_31_0 : SB [54, 55, 56, 57, 58] im im_31 := wr_30
              have hk_31_2 : im_31 2 = nI ms := (hz_31_0 2 (by decide)).trans hf_ms
              have hk_31_3 : im_31 3 = nI mk := (hz_31_0 3 (by decide)).trans hf_mk
              have hk_31_50 : im_31 50 = nI md := (hz_31_0 50 (by decide)).trans hf_md
              have hsb := SB.step hsb hz_31_0 (by decide)
              have hP : va_P D vwCl [(h, .inr (12, mG q im_31)), (q 51, .inl (cZ, 1536, .inl m_hasMark)), (q 52, .inl (cI, 1536, .inl m_markAcross)), (q 53, .inl (cI, 1536, .inl m_markDeep)), (q 59, .inl (cI, 384, .inl m_gaps_31))] H := hP
              have hD : va_D A [(h, .inr (12, mG q im_31)), (q 51, .inl (cZ, 1536, .inl m_hasMark)), (q 52, .inl (cI, 1536, .inl m_markAcross)), (q 53, .inl (cI, 1536, .inl m_markDeep)), (q 59, .inl (cI, 384, .inl m_gaps_31))] := hD
              refine lv_istore (lv' := [(8, .int r_30), (7, .int (nI (16 * ff13 + 2 * ss13 + dd13))), (0, .ref h), (1, .int (nI ff2)), (2, .int (nI gg2)), (3, .int (nI gg5)), (4, .int (nI ff13)), (5, .int (nI ss13)), (6, .int (nI dd13))]) hx hb dX12_slipped_85 hl (by decide) rfl (fun ls hl => ?_)
              refine lv_aload_n hx hb dX12_slipped_87 rfl (lv_at hl 2 rfl) ?_
              refine lv_iload_n hx hb dX12_slipped_88 rfl (lv_at hl 4 rfl) ?_
              refine lv_iload_n hx hb dX12_slipped_89 rfl (lv_at hl 5 rfl) ?_
              refine lv_iload hx hb dX12_slipped_90 (lv_at hl 1 rfl) ?_
              refine eWi (wr := []) (va_runV (As := [.int (nI gg2), .int (nI gg5), .int (nI (16 * ff13 + 2 * ss13 + dd13))]) (rest := []) ⟨hx, hb, hml, hown, hts⟩ (c_X12_farFrom l D cI cB cZ cJ tx h q im_31 m_hasMark m_markAcross m_markDeep m_gaps_31 gg2 gg5 (16 * ff13 + 2 * ss13 + dd13) (lf_X12_slipped_32 h q im ms mk md m_hasMark m_markAcross m_markDeep m_gaps (nI ff2) (nI gg2) (nI gg5) (nI ff13) (nI ss13) (nI dd13) hf_ms hf_mk hf_md hms hmk hm3 hmd ff2 gg2 hff2 hgg2 ff5 gg5 hff5 hgg5 qff5 ff8 gg8 hff8 hgg8 qff8 qgg8 ff13 ss13 dd13 hff13 hss13 hdd13 r_19 c_20 r_25 c_26 im_31 m_gaps_31 hz_31_0 hsb r_30) (lf_X12_slipped_33 h q im ms mk md m_hasMark m_markAcross m_markDeep m_gaps (nI ff2) (nI gg2) (nI gg5) (nI ff13) (nI ss13) (nI dd13) hf_ms hf_mk hf_md hms hmk hm3 hmd ff2 gg2 hff2 hgg2 ff5 gg5 hff5 hgg5 qff5 ff8 gg8 hff8 hgg8 qff8 qgg8 ff13 ss13 dd13 hff13 hss13 hdd13 r_19 c_20 r_25 c_26 im_31 m_gaps_31 hz_31_0 hsb r_30) (lf_X12_slipped_34 h q im ms mk md m_hasMark m_markAcross m_markDeep m_gaps (nI ff2) (nI gg2) (nI gg5) (nI ff13) (nI ss13) (nI dd13) hf_ms hf_mk hf_md hms hmk hm3 hmd ff2 gg2 hff2 hgg2 ff5 gg5 hff5 hgg5 qff5 ff8 gg8 hff8 hgg8 qff8 qgg8 ff13 ss13 dd13 hff13 hss13 hdd13 r_19 c_20 r_25 c_26 im_31 m_gaps_31 hz_31_0 hsb r_30) H.size) (zV hts k_1907 v_X12_farFrom ⟨Nat.le_of_ble_eq_true rfl, Nat.le_of_ble_eq_true rfl⟩) (pV (pxS hK hP hD [0, 1, 2, 3, 4] (by decide) rfl) hK hP 0 rfl rfl) rfl rfl hl.1 rfl (lv_room (Nat.le_of_ble_eq_true rfl)) dX12_slipped_92 ⟨Nat.le_of_ble_eq_true rfl, Nat.le_of_ble_eq_true rfl⟩) hP hD hS hA [0, 1, 2, 3, 4] [] rfl rfl (by decide) (by decide) (fun r_35 u_36 H locs wr_35 hP hD hS => ?_)
              obtain ⟨im_36, m_gaps_36⟩ := u_36
              have hz_36_0 : SB [54, 55, 56, 57, 58] im_31 im_36 := wr_35
              have hk_36_2 : im_36 2 = nI ms := (hz_36_0 2 (by decide)).trans hk_31_2
              have hk_36_3 : im_36 3 = nI mk := (hz_36_0 3 (by decide)).trans hk_31_3
              have hk_36_50 : im_36 50 = nI md := (hz_36_0 50 (by decide)).trans hk_31_50
              have hsb := SB.step hsb hz_36_0 (by decide)
              have hP : va_P D vwCl [(h, .inr (12, mG q im_36)), (q 51, .inl (cZ, 1536, .inl m_hasMark)), (q 52, .inl (cI, 1536, .inl m_markAcross)), (q 53, .inl (cI, 1536, .inl m_markDeep)), (q 59, .inl (cI, 384, .inl m_gaps_36))] H := hP
              have hD : va_D A [(h, .inr (12, mG q im_36)), (q 51, .inl (cZ, 1536, .inl m_hasMark)), (q 52, .inl (cI, 1536, .inl m_markAcross)), (q 53, .inl (cI, 1536, .inl m_markDeep)), (q 59, .inl (cI, 384, .inl m_gaps_36))] := hD
              refine lv_istore (lv' := [(9, .int r_35), (8, .int r_30), (7, .int (nI (16 * ff13 + 2 * ss13 + dd13))), (0, .ref h), (1, .int (nI ff2)), (2, .int (nI gg2)), (3, .int (nI gg5)), (4, .int (nI ff13)), (5, .int (nI ss13)), (6, .int (nI dd13))]) hx hb dX12_slipped_95 hl (by decide) rfl (fun ls hl => ?_)
              refine lv_iload hx hb dX12_slipped_97 (lv_at hl 1 rfl) ?_
              refine lv_iload hx hb dX12_slipped_99 (lv_at hl 0 rfl) ?_
              refine lv_icmp_le (tgt := 108) hx hb dX12_slipped_101 (by decide) (fun c_37 => ?_) (fun c_37 => ?_)
              · refine lv_iload hx hb dX12_slipped_108 (lv_at hl 0 rfl) ?_
                refine lv_iload hx hb dX12_slipped_110 (lv_at hl 1 rfl) ?_
                refine lv_icmp_le (tgt := 119) hx hb dX12_slipped_112 (by decide) (fun c_38 => ?_) (fun c_38 => ?_)
                · refine lv_iconst (v := 2) hx hb dX12_slipped_119 (by decide) ?_
                  exact W.iret (v := 2) hx hb hr (fun tt9 ht hW => ⟨⟨(2 : Int32), ((im_36 : Nat → Int32), (m_gaps_36 : Nat → Int32)), rfl, (lf_X12_slipped_39 h q im ms mk md m_hasMark m_markAcross m_markDeep m_gaps (nI ff2) (nI gg2) (nI gg5) (nI ff13) (nI ss13) (nI dd13) hf_ms hf_mk hf_md hms hmk hm3 hmd ff2 gg2 hff2 hgg2 ff5 gg5 hff5 hgg5 qff5 ff8 gg8 hff8 hgg8 qff8 qgg8 ff13 ss13 dd13 hff13 hss13 hdd13 r_19 c_20 r_25 c_26 im_31 m_gaps_31 hz_31_0 r_30 im_36 m_gaps_36 hz_36_0 hsb r_35 c_37 c_38 hk_36_2 hk_36_3 hk_36_50), ⟨by rw [ht]; exact hP, hD⟩⟩, hS.F ht⟩) hS.2.2 dX12_slipped_120 hlocks
                · refine lv_iconst (v := 1) hx hb dX12_slipped_115 (by decide) ?_
                  refine lv_goto (tgt := 120) hx hb dX12_slipped_116 (by decide) ?_
                  exact W.iret (v := 1) hx hb hr (fun tt9 ht hW => ⟨⟨(1 : Int32), ((im_36 : Nat → Int32), (m_gaps_36 : Nat → Int32)), rfl, (lf_X12_slipped_40 h q im ms mk md m_hasMark m_markAcross m_markDeep m_gaps (nI ff2) (nI gg2) (nI gg5) (nI ff13) (nI ss13) (nI dd13) hf_ms hf_mk hf_md hms hmk hm3 hmd ff2 gg2 hff2 hgg2 ff5 gg5 hff5 hgg5 qff5 ff8 gg8 hff8 hgg8 qff8 qgg8 ff13 ss13 dd13 hff13 hss13 hdd13 r_19 c_20 r_25 c_26 im_31 m_gaps_31 hz_31_0 r_30 im_36 m_gaps_36 hz_36_0 hsb r_35 c_37 c_38 hk_36_2 hk_36_3 hk_36_50), ⟨by rw [ht]; exact hP, hD⟩⟩, hS.F ht⟩) hS.2.2 dX12_slipped_120 hlocks
              · refine lv_iconst (v := 0) hx hb dX12_slipped_104 (by decide) ?_
                refine lv_goto (tgt := 120) hx hb dX12_slipped_105 (by decide) ?_
                exact W.iret (v := 0) hx hb hr (fun tt9 ht hW => ⟨⟨(0 : Int32), ((im_36 : Nat → Int32), (m_gaps_36 : Nat → Int32)), rfl, (lf_X12_slipped_41 h q im ms mk md m_hasMark m_markAcross m_markDeep m_gaps (nI ff2) (nI gg2) (nI gg5) (nI ff13) (nI ss13) (nI dd13) hf_ms hf_mk hf_md hms hmk hm3 hmd ff2 gg2 hff2 hgg2 ff5 gg5 hff5 hgg5 qff5 ff8 gg8 hff8 hgg8 qff8 qgg8 ff13 ss13 dd13 hff13 hss13 hdd13 r_19 c_20 r_25 c_26 im_31 m_gaps_31 hz_31_0 r_30 im_36 m_gaps_36 hz_36_0 hsb r_35 c_37 hk_36_2 hk_36_3 hk_36_50), ⟨by rw [ht]; exact hP, hD⟩⟩, hS.F ht⟩) hS.2.2 dX12_slipped_120 hlocks
            · refine lv_iconst (v := (-1)) hx hb dX12_slipped_75 (by decide) ?_
              exact W.iret (v := (-1)) hx hb hr (fun tt9 ht hW => ⟨⟨((-1) : Int32), ((im : Nat → Int32), (m_gaps : Nat → Int32)), rfl, (lf_X12_slipped_42 h q im ms mk md m_hasMark m_markAcross m_markDeep m_gaps (nI ff2) (nI gg2) (nI gg5) (nI ff13) (nI ss13) (nI dd13) hf_ms hf_mk hf_md hms hmk hm3 hmd hsb ff2 gg2 hff2 hgg2 ff5 gg5 hff5 hgg5 qff5 ff8 gg8 hff8 hgg8 qff8 qgg8 ff13 ss13 dd13 hff13 hss13 hdd13 r_19 c_20 r_25 c_26), ⟨by rw [ht]; exact hP, hD⟩⟩, hS.F ht⟩) hS.2.2 dX12_slipped_76 hlocks
