theorem vp_in1 {x M : Int32} (N : Nat) (hN : N < 2 ^ 31) (hM : M.toInt + 1 = N) (h : 0 ≤ x ∧ x ≤ M) : vp_in x N := by
  rw [vp_in_iff]
  have h2 := Int32.le_iff_toInt_le.mp h.1
  have h3 := Int32.le_iff_toInt_le.mp h.2
  have h4 : (0 : Int32).toInt = 0 := by decide
  omega
theorem of_in {x M : Int32} (N : Nat) (hM : M.toInt = N) (h : 0 ≤ x ∧ x ≤ M) : ∃ j : Nat, j ≤ N ∧ x = nI j := by
  refine nI_of2 (M := M) hM (fun q => ?_) h.2
  have h2 := Int32.le_iff_toInt_le.mp h.1
  have h3 := Int32.lt_iff_toInt_lt.mp q
  have h4 : (0 : Int32).toInt = 0 := by decide
  omega
theorem vp_in2 {x y X Y w : Int32} (B A W N : Nat) (hN : N < 2 ^ 31) (h : A * W + B < N) (hX : X.toInt = A) (hY : Y.toInt = B) (hw : w = nI W) (hx : 0 ≤ x ∧ x ≤ X) (hy : 0 ≤ y ∧ y ≤ Y) : vp_in (x * w + y) N := by
  obtain ⟨j, hj, rfl⟩ := of_in A hX hx
  obtain ⟨k, hk, rfl⟩ := of_in B hY hy
  subst hw
  rw [pk_mul, nI_add]
  exact vp_in_nI (Nat.lt_of_le_of_lt (Nat.add_le_add (Nat.mul_le_mul_right W hj) hk) h) hN
theorem vp_in3 {x y X Y w : Int32} (B A W N : Nat) (hN : N < 2 ^ 31) (h : A * W + B < N) (hX : X.toInt = A) (hY : Y.toInt = B) (hw : w = nI W) (hx : 0 ≤ x ∧ x ≤ X) (hy : 0 ≤ y ∧ y ≤ Y) : vp_in (w * x + y) N := by
  rw [Int32.mul_comm]
  exact vp_in2 B A W N hN h hX hY hw hx hy
theorem Int32_and_m1 (x : Int32) : x &&& (-1) = x := by
  apply Int32.toBitVec_inj.mp
  rw [Int32.toBitVec_and, show (-1 : Int32).toBitVec = BitVec.allOnes 32 from by decide, BitVec.and_allOnes]
theorem fa_ne {x k : Int32} : (¬ x = k) ↔ x.toInt ≠ k.toInt := ⟨fun h q => h (Int32.toInt_inj.mp q), fun h q => h (by rw [q])⟩
def sp_count (n : Int32) : Int32 := if n = 3 then 1 else if 0 ≤ n ∧ n ≤ 9 then 0 else -1
