/-! numbers and rows, told exactly -/
theorem mm_min {a b : Nat} (ha : a < 2 ^ 31) (hb : b < 2 ^ 31) : (if nI b < nI a then nI b else nI a) = nI (min a b) := by
  by_cases h : b < a
  · rw [if_pos ((nI_ltI hb ha).mpr h), Nat.min_eq_right (by omega)]
  · rw [if_neg (fun q => h ((nI_ltI hb ha).mp q)), Nat.min_eq_left (by omega)]
theorem mm_max {a b : Nat} (ha : a < 2 ^ 31) (hb : b < 2 ^ 31) : (if nI a < nI b then nI b else nI a) = nI (max a b) := by
  by_cases h : a < b
  · rw [if_pos ((nI_ltI ha hb).mpr h), Nat.max_eq_right (by omega)]
  · rw [if_neg (fun q => h ((nI_ltI ha hb).mp q)), Nat.max_eq_left (by omega)]
theorem nI_m1 (k : Nat) : nI k + Int32.ofInt (-1) = nI k - 1 := by
  apply Int32.toBitVec_inj.mp
  rw [Int32.toBitVec_add, Int32.toBitVec_sub, show (Int32.ofInt (-1)).toBitVec = -(1#32) from by decide, show (1 : Int32).toBitVec = 1#32 from by decide, BitVec.sub_eq_add_neg]
theorem i2b_nI {k : Nat} (h : k < 128) : (nI k).toInt8.toInt32 = nI k := by
  have hh : ∀ k, k < 128 → (nI k).toInt8.toInt32 = nI k := by decide +kernel
  exact hh k h
theorem nb_01 {x : Int32} (h : x = 0 ∨ x = 1) : narrow .boolean (.int x) = .int x := by
  rcases h with rfl | rfl <;> rfl
theorem nar_01 (x : Int32) : vp_nar .boolean x = 0 ∨ vp_nar .boolean x = 1 := by
  obtain ⟨q, hq, e⟩ := pk_andE x (m := 1) 1 (by decide)
  have h : vp_nar .boolean x = x &&& 1 := rfl
  rw [h, e]
  rcases (show q = 0 ∨ q = 1 by omega) with rfl | rfl
  · exact Or.inl (by decide)
  · exact Or.inr (by decide)
abbrev nF (g : Nat → Nat) : Nat → Int32 := fun p => nI (g p)
def updN (g : Nat → Nat) (k v : Nat) : Nat → Nat := fun j => if j = k then v else g j
theorem nF_up (g : Nat → Nat) (k v : Nat) : upd (nF g) k (nI v) = nF (updN g k v) := by
  funext j
  show (if j = k then nI v else nI (g j)) = nI (if j = k then v else g j)
  split <;> rfl
theorem updN_le {g f : Nat → Nat} {k v M : Nat} (e : f = updN g k v) (h : ∀ p, g p ≤ M) (hv : v ≤ M) : ∀ p, f p ≤ M := by
  intro p
  rw [e]
  show (if p = k then v else g p) ≤ M
  split
  · exact hv
  · exact h p
theorem upd_01 {f g : Nat → Int32} {k : Nat} {x : Int32} (e : f = upd g k (vp_nar .boolean x)) (h : ∀ p, g p = 0 ∨ g p = 1) : ∀ p, f p = 0 ∨ f p = 1 := by
  intro p
  rw [e]
  show (if p = k then _ else g p) = 0 ∨ (if p = k then _ else g p) = 1
  split
  · exact nar_01 x
  · exact h p
theorem nz64 {k : Nat} (h : 1 ≤ k) (h2 : k < 2 ^ 31) : ¬ (nI k).toInt64 = 0 := by
  intro q
  have h3 := congrArg Int64.toInt q
  rw [Int32.toInt_toInt64, nI_toInt h2] at h3
  have h4 : (0 : Int64).toInt = 0 := by decide
  omega
theorem held99 {n x y : Int32} (e1 : x = if n < (99 : Int32) then n else (99 : Int32)) (e2 : y = if (0 : Int32) < x then x else (0 : Int32)) : ∃ m : Nat, m ≤ 99 ∧ y = nI m := by
  have h4 : (0 : Int32).toInt = 0 := by decide
  have h5 : (99 : Int32).toInt = 99 := by decide
  refine of_in (M := 99) 99 (by decide) ⟨?_, ?_⟩
  · rw [e2]; split
    · rename_i h; have := Int32.lt_iff_toInt_lt.mp h; rw [Int32.le_iff_toInt_le]; omega
    · rw [Int32.le_iff_toInt_le]; omega
  · rw [e2]; split
    · rw [e1]; split
      · rename_i h; have := Int32.lt_iff_toInt_lt.mp h; rw [Int32.le_iff_toInt_le]; omega
      · rw [Int32.le_iff_toInt_le]; omega
    · decide
/-- a number up to a bound, as a Nat -/
theorem le_nat {j M : Nat} {x m : Int32} (hM : m.toInt = M) (hj : j < 2 ^ 31) (h : nI j ≤ x) (h2 : x ≤ m) : j ≤ M := by
  have h3 := Int32.le_iff_toInt_le.mp h
  have h4 := Int32.le_iff_toInt_le.mp h2
  rw [nI_toInt hj] at h3
  omega
theorem lt_nat {j M : Nat} {x m : Int32} (hM : m.toInt = M) (hj : j < 2 ^ 31) (h : nI j < x) (h2 : x ≤ m) : j < M := by
  have h3 := Int32.lt_iff_toInt_lt.mp h
  have h4 := Int32.le_iff_toInt_le.mp h2
  rw [nI_toInt hj] at h3
  omega
section TOLD
variable {p : Program} {l : Launch} {e : Env} {R : Room} {s : State} {m : MethodId} {args : Array Value} {below : List Frame} {meth : Method} {c : Code} {H : Heap} {locs : List Loc} {cells slots : Nat} {Q : State → Prop}
variable {cc : ByteArray} {pc : Nat} {ls : Array Slot} {rest : List Value} {D : va_G} {A : Nat → Prop} {a : Nat} {ws : va_W} {H0 : Heap} {cI cB cZ cJ : ClassId} {tx : List (ClassId × FieldType)}
theorem lt_b (hexec : p.tables.exec = Jvm.exec) (hb : c.code = cc) (hK : KX D cI cB cZ cJ tx s) (hP : va_P D vwCl ws H) (q0 : Nat) {n : Nat} {f : Nat → Int32} (ha : ws[q0]? = some (a, .inl (cB, n, .inl f))) {j : Nat} (hj : j < n) (hn : n < 2 ^ 31) (hdg : decode cc pc = .ok (.baload, 1))
    (kk : W p l e R s m args below meth c H locs cells slots Q (F0 m (pc + 1) ls (.int (f j) :: rest))) : W p l e R s m args below meth c H locs cells slots Q (F0 m pc ls (.int (nI j) :: .ref a :: rest)) := by
  refine va_bald hexec hb hK.1 hP q0 1 ha rfl (vp_in_nI hj hn) hdg ?_
  rw [nI_clamp (by omega)]
  exact kk
theorem lt_z (hexec : p.tables.exec = Jvm.exec) (hb : c.code = cc) (hK : KX D cI cB cZ cJ tx s) (hP : va_P D vwCl ws H) (q0 : Nat) {n : Nat} {f : Nat → Int32} (ha : ws[q0]? = some (a, .inl (cZ, n, .inl f))) {j : Nat} (hj : j < n) (hn : n < 2 ^ 31) (hdg : decode cc pc = .ok (.baload, 1))
    (kk : W p l e R s m args below meth c H locs cells slots Q (F0 m (pc + 1) ls (.int (f j) :: rest))) : W p l e R s m args below meth c H locs cells slots Q (F0 m pc ls (.int (nI j) :: .ref a :: rest)) := by
  refine va_zald hexec hb hK.1 hP q0 2 ha rfl (vp_in_nI hj hn) hdg ?_
  rw [nI_clamp (by omega)]
  exact kk
theorem lt_l (hexec : p.tables.exec = Jvm.exec) (hb : c.code = cc) (hK : KX D cI cB cZ cJ tx s) (hP : va_P D vwCl ws H) (q0 : Nat) {n : Nat} {f : Nat → Int64} (ha : ws[q0]? = some (a, .inl (cJ, n, .inr (.inl f)))) {j : Nat} (hj : j < n) (hn : n < 2 ^ 31) (hdg : decode cc pc = .ok (.laload, 1))
    (kk : W p l e R s m args below meth c H locs cells slots Q (F0 m (pc + 1) ls (.long (f j) :: rest))) : W p l e R s m args below meth c H locs cells slots Q (F0 m pc ls (.int (nI j) :: .ref a :: rest)) := by
  refine va_lald hexec hb hK.1 hP q0 3 ha rfl (vp_in_nI hj hn) hdg ?_
  rw [nI_clamp (by omega)]
  exact kk
theorem su_z (hexec : p.tables.exec = Jvm.exec) (hb : c.code = cc) (hK : KX D cI cB cZ cJ tx s) (hP : va_P D vwCl ws H) (hD : va_D A ws) (hS : va_S A H0 H locs) (q0 : Nat) {n : Nat} {f : Nat → Int32} (ha : ws[q0]? = some (a, .inl (cZ, n, .inl f))) {j : Nat} {x : Int32} (hj : j < n) (hn : n < 2 ^ 31) (hdg : decode cc pc = .ok (.bastore, 1))
    (kk : ∀ (f1 : Nat → Int32) (H1 : Heap) (locs1 : List Loc), f1 = upd f j (vp_nar .boolean x) → va_P D vwCl (ws.set q0 (a, .inl (cZ, n, .inl f1))) H1 → va_D A (ws.set q0 (a, .inl (cZ, n, .inl f1))) → va_S A H0 H1 locs1 → W p l e R s m args below meth c H1 locs1 cells slots Q (F0 m (pc + 1) ls rest)) : W p l e R s m args below meth c H locs cells slots Q (F0 m pc ls (.int x :: .int (nI j) :: .ref a :: rest)) := by
  refine va_zast hexec hb hK.1 hP hD hS q0 2 ha rfl (vp_in_nI hj hn) hdg (fun H1 locs1 h1 h2 h3 => ?_)
  rw [nI_clamp (by omega)] at h1 h2
  exact kk _ H1 locs1 rfl h1 h2 h3
theorem su_l (hexec : p.tables.exec = Jvm.exec) (hb : c.code = cc) (hK : KX D cI cB cZ cJ tx s) (hP : va_P D vwCl ws H) (hD : va_D A ws) (hS : va_S A H0 H locs) (q0 : Nat) {n : Nat} {f : Nat → Int64} (ha : ws[q0]? = some (a, .inl (cJ, n, .inr (.inl f)))) {j : Nat} {x : Int64} (hj : j < n) (hn : n < 2 ^ 31) (hdg : decode cc pc = .ok (.lastore, 1))
    (kk : ∀ (f1 : Nat → Int64) (H1 : Heap) (locs1 : List Loc), f1 = vp_updL f j x → va_P D vwCl (ws.set q0 (a, .inl (cJ, n, .inr (.inl f1)))) H1 → va_D A (ws.set q0 (a, .inl (cJ, n, .inr (.inl f1)))) → va_S A H0 H1 locs1 → W p l e R s m args below meth c H1 locs1 cells slots Q (F0 m (pc + 1) ls rest)) : W p l e R s m args below meth c H locs cells slots Q (F0 m pc ls (.long x :: .int (nI j) :: .ref a :: rest)) := by
  refine va_last hexec hb hK.1 hP hD hS q0 3 ha rfl (vp_in_nI hj hn) hdg (fun H1 locs1 h1 h2 h3 => ?_)
  rw [nI_clamp (by omega)] at h1 h2
  exact kk _ H1 locs1 rfl h1 h2 h3
theorem sn_i (hexec : p.tables.exec = Jvm.exec) (hb : c.code = cc) (hK : KX D cI cB cZ cJ tx s) (hP : va_P D vwCl ws H) (hD : va_D A ws) (hS : va_S A H0 H locs) (q0 : Nat) {n : Nat} {g : Nat → Nat} (ha : ws[q0]? = some (a, .inl (cI, n, .inl (nF g)))) {j v : Nat} (hj : j < n) (hn : n < 2 ^ 31) (hdg : decode cc pc = .ok (.iastore, 1))
    (kk : ∀ (g1 : Nat → Nat) (H1 : Heap) (locs1 : List Loc), g1 = updN g j v → va_P D vwCl (ws.set q0 (a, .inl (cI, n, .inl (nF g1)))) H1 → va_D A (ws.set q0 (a, .inl (cI, n, .inl (nF g1)))) → va_S A H0 H1 locs1 → W p l e R s m args below meth c H1 locs1 cells slots Q (F0 m (pc + 1) ls rest)) : W p l e R s m args below meth c H locs cells slots Q (F0 m pc ls (.int (nI v) :: .int (nI j) :: .ref a :: rest)) := by
  refine va_iast hexec hb hK.1 hP hD hS q0 0 ha rfl (vp_in_nI hj hn) hdg (fun H1 locs1 h1 h2 h3 => ?_)
  rw [nI_clamp (by omega), nF_up] at h1 h2
  exact kk _ H1 locs1 rfl h1 h2 h3
theorem sn_b (hexec : p.tables.exec = Jvm.exec) (hb : c.code = cc) (hK : KX D cI cB cZ cJ tx s) (hP : va_P D vwCl ws H) (hD : va_D A ws) (hS : va_S A H0 H locs) (q0 : Nat) {n : Nat} {g : Nat → Nat} (ha : ws[q0]? = some (a, .inl (cB, n, .inl (nF g)))) {j v : Nat} (hj : j < n) (hn : n < 2 ^ 31) (hv : v < 128) (hdg : decode cc pc = .ok (.bastore, 1))
    (kk : ∀ (g1 : Nat → Nat) (H1 : Heap) (locs1 : List Loc), g1 = updN g j v → va_P D vwCl (ws.set q0 (a, .inl (cB, n, .inl (nF g1)))) H1 → va_D A (ws.set q0 (a, .inl (cB, n, .inl (nF g1)))) → va_S A H0 H1 locs1 → W p l e R s m args below meth c H1 locs1 cells slots Q (F0 m (pc + 1) ls rest)) : W p l e R s m args below meth c H locs cells slots Q (F0 m pc ls (.int (nI v) :: .int (nI j) :: .ref a :: rest)) := by
  refine va_bast hexec hb hK.1 hP hD hS q0 1 ha rfl (vp_in_nI hj hn) hdg (fun H1 locs1 h1 h2 h3 => ?_)
  rw [nI_clamp (by omega), vp_nar_byte, i2b_nI hv, nF_up] at h1 h2
  exact kk _ H1 locs1 rfl h1 h2 h3
end TOLD
theorem lf_X11_held_99_3 (n1 : Int32) (x_1 : Int32) (ex_1 : x_1 = if n1 < (99 : Int32) then n1 else (99 : Int32)) (x_2 : Int32) (ex_2 : x_2 = if (0 : Int32) < x_1 then x_1 else (0 : Int32)) : ∃ m : Nat, m ≤ 99 ∧ (x_2 : Int32) = nI m := by
  exact held99 (by assumption) (by assumption)
set_option maxHeartbeats 4000000 in
set_option maxRecDepth 100000 in
theorem c_X11_held_99 (l : Launch) (D : va_G) (cI cB cZ cJ : ClassId) (tx : List (ClassId × FieldType)) (n1 : Int32) : RdI l D cI cB cZ cJ tx yX11_held cX11_held 3 (some .int) 1 [.int n1, .int 0, .int 99] [] (fun r => ∃ m : Nat, m ≤ 99 ∧ r = nI m) := by
  refine rdi_of2 (by decide) (Nat.le_of_ble_eq_true rfl) ?_
  intro p e s m below meth c A ls H locs hC hK hP hD hA hS hl
  obtain ⟨hx, hb, hr, hml, hown, hts, hlocks, hin⟩ := hC
  have hown : s.vm.findClass RX11 = some m.cls := hown
  have hl : lv_has ls 3 [(0, .int n1), (1, .int 0), (2, .int 99)] := hl
  refine lv_iload_n hx hb dX11_held_0 rfl (lv_at hl 1 rfl) ?_
  refine lv_iload_n hx hb dX11_held_1 rfl (lv_at hl 2 rfl) ?_
  refine lv_iload_n hx hb dX11_held_2 rfl (lv_at hl 0 rfl) ?_
  refine va_mmin hx hb (by rw [hml]; exact hl.1.symm) hown (hts _ k_810) (hts _ k_608) (hts _ k_131) (hts _ k_609) (Nat.le_of_ble_eq_true rfl) (Nat.le_of_ble_eq_true rfl) (Nat.le_of_ble_eq_true rfl) (Nat.le_of_ble_eq_true rfl) dX11_held_3 ?_
  refine lv_topi (fun x_1 ex_1 => ?_)
  refine va_mmax hx hb (by rw [hml]; exact hl.1.symm) hown (hts _ k_811) (hts _ k_605) (hts _ k_131) (hts _ k_606) (Nat.le_of_ble_eq_true rfl) (Nat.le_of_ble_eq_true rfl) (Nat.le_of_ble_eq_true rfl) (Nat.le_of_ble_eq_true rfl) dX11_held_6 ?_
  refine lv_topi (fun x_2 ex_2 => ?_)
  exact W.iret (v := x_2) hx hb hr (fun tt9 ht hW => ⟨⟨(x_2 : Int32), (), rfl, (lf_X11_held_99_3 n1 x_1 ex_1 x_2 ex_2), trivial⟩, hS.F ht⟩) hS.2.2 dX11_held_9 hlocks

theorem lf_J7_fillJ_3 (b1 : Nat) (N : Nat) (f : Nat → Int64) (v1 : Int64) (hN : N < 2 ^ 31) (j : Nat) (y6_b1 : Nat → Int64) (k6 : Nat) (hj6 : j ≤ N) (hk6 : N < j + (k6 + 1)) (c_1 : nI N ≤ nI j) : N ≤ j := by
  exact (nI_leI (a := N) (b := j) (by omega) (by omega)).mp c_1
theorem lf_J7_fillJ_5 (b1 : Nat) (N : Nat) (f : Nat → Int64) (v1 : Int64) (hN : N < 2 ^ 31) (j : Nat) (y6_b1 : Nat → Int64) (k6 : Nat) (hj6 : j ≤ N) (hk6 : N < j + (k6 + 1)) (c_1 : ¬ nI N ≤ nI j) : j < N := by
  exact Nat.lt_of_not_le (fun q => c_1 ((nI_leI (a := N) (b := j) (by omega) (by omega)).mpr q))
theorem lf_J7_fillJ_7 (b1 : Nat) (N : Nat) (f : Nat → Int64) (v1 : Int64) (hN : N < 2 ^ 31) (j : Nat) (y6_b1 : Nat → Int64) (k6 : Nat) (hj6 : j ≤ N) (hk6 : N < j + (k6 + 1)) (c_1 : ¬ nI N ≤ nI j) (n_4 : j < N) : vp_in (nI j) N := by
  exact vp_in_nI (by omega) hN
set_option maxHeartbeats 4000000 in
set_option maxRecDepth 100000 in
theorem c_J7_fillJ (l : Launch) (D : va_G) (cI cB cZ cJ : ClassId) (tx : List (ClassId × FieldType)) (b1 : Nat) (N : Nat) (f : Nat → Int64) (v1 : Int64) (hN : N < 2 ^ 31) : WrV l D cI cB cZ cJ tx yJ7_fill_d0a16 cJ7_fill_d0a16 5 none 0 0 0 [.ref b1, .long v1] [(b1, .inl (cJ, N, .inr (.inl f)))] (fun (_ : Nat → Int64) => True) (fun g => [(b1, .inl (cJ, N, .inr (.inl g)))]) := by
  refine wrv_of2 (by decide) (Nat.le_of_ble_eq_true rfl) ?_
  intro p e s m below meth c A ls H locs hC hK hP hD hA hS hl
  obtain ⟨hx, hb, hr, hml, hown, hts, hlocks, hin⟩ := hC
  have hown : s.vm.findClass RJ7 = some m.cls := hown
  have hl : lv_has ls 5 [(0, .ref b1), (1, .long v1)] := hl
  refine lv_iconst (v := 0) hx hb dJ7_fill_d0a16_0 (by decide) ?_
  refine lv_istore_n (lv' := [(3, .int 0), (0, .ref b1), (1, .long v1)]) hx hb dJ7_fill_d0a16_1 rfl hl (by decide) rfl (fun ls hl => ?_)
  refine lv_aload_n hx hb dJ7_fill_d0a16_2 rfl (lv_at hl 1 rfl) ?_
  refine ln_x (v := nI N) hx hb hK hP 0 3 rfl rfl rfl dJ7_fill_d0a16_3 ?_
  refine lv_istore (lv' := [(4, .int (nI N)), (3, .int 0), (0, .ref b1), (1, .long v1)]) hx hb dJ7_fill_d0a16_4 hl (by decide) rfl (fun ls hl => ?_)
  have lp6 : ∀ (k6 : Nat) (j : Nat) (y6_b1 : Nat → Int64) (H : Heap) (locs : List Loc) (ls : Array Slot), j ≤ N → N < j + k6 → va_P D vwCl [(b1, .inl (cJ, N, .inr (.inl y6_b1)))] H → va_D A [(b1, .inl (cJ, N, .inr (.inl y6_b1)))] → va_S A s.heap H locs → lv_has ls 5 [(4, .int (nI N)), (3, .int (nI j)), (0, .ref b1), (1, .long v1)] → W p l e (rmX 0 0 0) s m ([.ref b1, .long v1] : List Value).toArray below meth c H locs 0 0 (MQ below (va_Qv (fun (_ : Nat → Int64) => True) (fun u => BX D A ((fun g => [(b1, .inl (cJ, N, .inr (.inl g)))]) u)) A) ([.ref b1, .long v1] : List Value).toArray s 0 0 A) (F0 m 6 ls []) := by
    intro k6
    induction k6 with
    | zero =>
      intro j y6_b1 H locs ls hj6 hk6  hP hD hS hl
      exact absurd hk6 (by omega)
    | succ k6 ih6 =>
      intro j y6_b1 H locs ls hj6 hk6  hP hD hS hl
      refine lv_iload_n hx hb dJ7_fill_d0a16_6 rfl (lv_at hl 1 rfl) ?_
      refine lv_iload hx hb dJ7_fill_d0a16_7 (lv_at hl 0 rfl) ?_
      refine lv_icmp_ge (tgt := 22) hx hb dJ7_fill_d0a16_9 (by decide) (fun c_1 => ?_) (fun c_1 => ?_)
      · have n_2 : N ≤ j := (lf_J7_fillJ_3 b1 N f v1 hN j y6_b1 k6 hj6 hk6 c_1)
        exact W.vret hx hb hr (fun tt9 ht hW => ⟨⟨y6_b1, rfl, trivial, ⟨by rw [ht]; exact hP, hD⟩⟩, hS.F ht⟩) hS.2.2 dJ7_fill_d0a16_22 hlocks
      · have n_4 : j < N := (lf_J7_fillJ_5 b1 N f v1 hN j y6_b1 k6 hj6 hk6 c_1)
        refine lv_aload_n hx hb dJ7_fill_d0a16_12 rfl (lv_at hl 2 rfl) ?_
        refine lv_iload_n hx hb dJ7_fill_d0a16_13 rfl (lv_at hl 1 rfl) ?_
        refine lv_lload_n hx hb dJ7_fill_d0a16_14 rfl (lv_at hl 3 rfl) ?_
        refine st_l hx hb hK hP hD hS 0 rfl (lf_J7_fillJ_7 b1 N f v1 hN j y6_b1 k6 hj6 hk6 c_1 n_4) dJ7_fill_d0a16_15 (fun f_6 H locs hP hD hS => ?_)
        have hP : va_P D vwCl [(b1, .inl (cJ, N, .inr (.inl f_6)))] H := hP
        have hD : va_D A [(b1, .inl (cJ, N, .inr (.inl f_6)))] := hD
        refine lv_iinc (v := nI (j + 1)) (lv' := [(3, .int (nI (j + 1))), (4, .int (nI N)), (0, .ref b1), (1, .long v1)]) hx hb dJ7_fill_d0a16_16 hl (k := 1) rfl (nI_1 j) (by decide) rfl (fun ls hl => ?_)
        refine lv_goto (tgt := 6) hx hb dJ7_fill_d0a16_19 (by decide) ?_
        exact ih6 (j + 1) f_6 H locs ls (by omega) (by omega)  (hP.sub [0] rfl) (hD.sub [0] (by decide) rfl) hS (lv_sub hl [1, 0, 2, 3] rfl)
  exact lp6 (N + 1) 0 f H locs ls (by omega) (by omega)  (hP.sub [0] rfl) (hD.sub [0] (by decide) rfl) hS (lv_sub hl [0, 1, 2, 3] rfl)
