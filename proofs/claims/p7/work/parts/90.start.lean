theorem ar_of {ty : FieldType} {args : Array Value} {s : State} (h : (Cond.arrayClass ty).before args s = true) : ∃ cA, s.vm.findClass ("[" ++ ty.toString) = some cA ∧ ArrOfT s cA ty := by
  obtain ⟨c, k, comp, h1, h2, h3⟩ := Cond.arrayClass_spec (args := args) (first := s) (o := none) (s := s) (idx := []) h
  exact ⟨c, h1, fun n z => ⟨fun k h => (by cases h), k, h2, comp, h3⟩⟩
theorem tx_of {C : String} {args : Array Value} {s : State} (h : (Cond.arrayOver (.object C)).before args s = true) : ∃ cT, ArrOfT s cT (.object C) ∧ va_RA s cT (.object C) := by
  obtain ⟨comp, c, k, h1, h2, h3, h4, h5⟩ := Cond.arrayOver_spec (args := args) (first := s) (o := none) (s := s) (idx := []) h
  exact ⟨c, fun n z => ⟨fun k h => (by cases h), k, h3, comp, h4⟩, k, comp, h3, h4, h1, h5⟩
theorem sr_of {own tx : String} {k : Nat} {args : Array Value} {s : State} (h1 : (Cond.stringRef own k tx).before args s = true) (h2 : (Cond.exactly (.string own k) "java/lang/String").before args s = true) : ∃ q, vk_R own k tx q s := by
  obtain ⟨a, c, cA, kA, q1, -⟩ := Cond.exactly_spec (args := args) (first := s) (o := none) (s := s) (idx := []) (t := .string own k) (cls := "java/lang/String") h2
  exact ⟨a, vk_R.of h1 q1⟩
set_option maxHeartbeats 4000000 in
set_option maxRecDepth 100000 in
theorem law_KX {s : State} {b : Nat} (hts0 : ∀ w ∈ lw_tbl, w.before #[Value.ref b] s = true) (hgv : (Jvm.Cond.and given_1 narrow_1).before #[Value.ref b] s = true) : ∃ (D : va_G) (cI cB cZ cJ cT : ClassId), KX D cI cB cZ cJ [(cT, .object "NailStain$Text")] s := by
  have hT : ∀ w ∈ TBL, w.before #[Value.ref b] s = true := fun w h => hts0 w (List.mem_filter.mp h).1
  have hN : ∀ w ∈ NWs, va_Nw w s := fun w h => va_Nw.of (by have h2 := (List.mem_filter.mp h).2; cases w <;> first | (simp [wNest] at h2; done) | rfl) (hts0 w (List.mem_filter.mp h).1)
  have hs := flat_of_before _ hgv
  have hAO : (Cond.arrayOver (.object "NailStain$Text")).before #[Value.ref b] s = true := hts0 _ (List.mem_of_getElem? (i := 188) (by decide +kernel))
  obtain ⟨cI, hI, aI⟩ := ar_of (hT _ k_224)
  obtain ⟨cB, hB, aB⟩ := ar_of (hT _ k_158)
  obtain ⟨cZ, hZ, aZ⟩ := ar_of (hT _ k_287)
  obtain ⟨cJ, hJ, aJ⟩ := ar_of (hT _ k_364)
  obtain ⟨cT, aT, rT⟩ := tx_of hAO
  have s1 : ∃ q, vk_R RX11 119 "yz" q s := sr_of (hts0 _ (List.mem_of_getElem? (i := 551) (by decide +kernel))) (hs _ (by decide +kernel))
  have s2 : ∃ q, vk_R RX11 125 "abg" q s := sr_of (hts0 _ (List.mem_of_getElem? (i := 743) (by decide +kernel))) (hs _ (by decide +kernel))
  have s3 : ∃ q, vk_R RX11 127 "e" q s := sr_of (hts0 _ (List.mem_of_getElem? (i := 748) (by decide +kernel))) (hs _ (by decide +kernel))
  obtain ⟨x0, y0, z0⟩ := u_known (C := RX0) (T := TX0) (N := 7) (n := 7) hT inT_X0 (hT _ k_289)
  obtain ⟨x1, y1, z1⟩ := u_known (C := RX1) (T := TX1) (N := 7) (n := 7) hT inT_X1 (hT _ k_366)
  obtain ⟨x2, y2, z2⟩ := u_known (C := RX2) (T := TX2) (N := 12) (n := 12) hT inT_X2 (hT _ k_318)
  obtain ⟨x3, y3, z3⟩ := u_known (C := RX3) (T := TX3) (N := 7) (n := 7) hT inT_X3 (hT _ k_160)
  obtain ⟨x4, y4, z4⟩ := u_known (C := RX4) (T := TX4) (N := 11) (n := 11) hT inT_X4 (hT _ k_226)
  obtain ⟨x5, y5, z5⟩ := u_known (C := RX5) (T := TX5) (N := 6) (n := 6) hT inT_X5 (hT _ k_396)
  obtain ⟨x6, y6, z6⟩ := u_known (C := RX6) (T := TX6) (N := 6) (n := 6) hT inT_X6 (hT _ k_436)
  obtain ⟨x7, y7, z7⟩ := u_known (C := RX7) (T := TX7) (N := 3) (n := 3) hT inT_X7 (hT _ k_466)
  obtain ⟨x8, y8, z8⟩ := u_known (C := RX8) (T := TX8) (N := 2) (n := 2) hT inT_X8 (hT _ k_145)
  obtain ⟨x9, y9, z9⟩ := u_known (C := RX9) (T := TX9) (N := 9) (n := 9) hT inT_X9 (hT _ k_189)
  obtain ⟨x10, y10, z10⟩ := u_known (C := RX10) (T := TX10) (N := 2) (n := 2) hT inT_X10 (hT _ k_423)
  obtain ⟨x11, y11, z11⟩ := u_known (C := RX11) (T := TX11) (N := 13) (n := 13) hT inT_X11 (hT _ k_137)
  obtain ⟨x12, y12, z12⟩ := u_known (C := RX12) (T := TX12) (N := 81) (n := 81) hT inT_X12 (hT _ k_1347)
  have ex : ∀ k : Nat, ∃ cC : ClassId, ∃ iS : Nat → Nat, ∀ q : vw_C, vwCl[k]? = some q → u_Kn s q.1 q.2.1 q.2.2 cC iS := by
    intro k
    match k with
    | 0 => exact ⟨x0, y0, fun q hq => by cases hq; exact z0⟩
    | 1 => exact ⟨x1, y1, fun q hq => by cases hq; exact z1⟩
    | 2 => exact ⟨x2, y2, fun q hq => by cases hq; exact z2⟩
    | 3 => exact ⟨x3, y3, fun q hq => by cases hq; exact z3⟩
    | 4 => exact ⟨x4, y4, fun q hq => by cases hq; exact z4⟩
    | 5 => exact ⟨x5, y5, fun q hq => by cases hq; exact z5⟩
    | 6 => exact ⟨x6, y6, fun q hq => by cases hq; exact z6⟩
    | 7 => exact ⟨x7, y7, fun q hq => by cases hq; exact z7⟩
    | 8 => exact ⟨x8, y8, fun q hq => by cases hq; exact z8⟩
    | 9 => exact ⟨x9, y9, fun q hq => by cases hq; exact z9⟩
    | 10 => exact ⟨x10, y10, fun q hq => by cases hq; exact z10⟩
    | 11 => exact ⟨x11, y11, fun q hq => by cases hq; exact z11⟩
    | 12 => exact ⟨x12, y12, fun q hq => by cases hq; exact z12⟩
    | k + 13 => exact ⟨x0, y0, fun q hq => by simp [vwCl] at hq⟩
  obtain ⟨dC, h1⟩ := Classical.skolem.mp ex
  obtain ⟨dI, h2⟩ := Classical.skolem.mp h1
  refine ⟨(dC, dI), cI, cB, cZ, cJ, cT, ⟨fun k q hq => h2 k q hq, fun k q hk => ?_⟩, ⟨hI, hB, hZ, hJ⟩, hN, ⟨s1, s2, s3⟩, va_AO.of hAO⟩
  match k, hk with
  | 0, hk => cases hk; exact ⟨aI, hI⟩
  | 1, hk => cases hk; exact ⟨aB, hB⟩
  | 2, hk => cases hk; exact ⟨aZ, hZ⟩
  | 3, hk => cases hk; exact ⟨aJ, hJ⟩
  | 4, hk => cases hk; exact ⟨aT, rT⟩
  | k + 5, hk => simp [TYS] at hk
def tmS (i : Nat) : Term := ([.string "NailStain" 119, .string "NailStain$Parser" 125, .string "NailStain$Parser" 127, .string "NailStain$Parser" 129, .string "NailStain$Parser" 131, .string "NailStain$Parser" 123, .string "NailStain$Parser" 118, .string "NailStain$Parser" 84, .string "NailStain$Parser" 107, .string "NailStain$Parser" 92, .string "NailStain$Parser" 113, .string "NailStain$Parser" 105, .string "NailStain$Parser" 97, .string "NailStain$Parser" 50, .string "NailStain" 125, .string "NailStain" 127] : List Term).getD i (.int 0)
theorem tms_len : ∀ i : Nat, i < 16 → sLen.getD i 0 < 2 ^ 31 := by decide +kernel
def fx_ex : List Nat := [9, 15, 21, 28, 48, 66, 78, 90, 102, 115, 129, 146, 162, 179, 197, 218]
theorem tms_ex_x : ∀ i : Nat, i < 16 → (flatC (Jvm.Cond.and given_1 narrow_1))[fx_ex.getD i 0]? = some (Cond.exactly (tmS i) "java/lang/String") := by decide +kernel
theorem tms_ex : ∀ i : Nat, i < 16 → Cond.exactly (tmS i) "java/lang/String" ∈ (flatC (Jvm.Cond.and given_1 narrow_1)) := fun i hi => List.mem_of_getElem? (i := fx_ex.getD i 0) (tms_ex_x i hi)
def fx_co : List Nat := [10, 16, 22, 29, 49, 67, 79, 91, 103, 116, 130, 147, 163, 180, 198, 219]
theorem tms_co_x : ∀ i : Nat, i < 16 → (flatC (Jvm.Cond.and given_1 narrow_1))[fx_co.getD i 0]? = some (Cond.eq (.field (tmS i) "java/lang/String" "coder" "B") (.int 0)) := by decide +kernel
theorem tms_co : ∀ i : Nat, i < 16 → Cond.eq (.field (tmS i) "java/lang/String" "coder" "B") (.int 0) ∈ (flatC (Jvm.Cond.and given_1 narrow_1)) := fun i hi => List.mem_of_getElem? (i := fx_co.getD i 0) (tms_co_x i hi)
def fx_ar : List Nat := [11, 17, 23, 30, 50, 68, 80, 92, 104, 117, 131, 148, 164, 181, 199, 220]
theorem tms_ar_x : ∀ i : Nat, i < 16 → (flatC (Jvm.Cond.and given_1 narrow_1))[fx_ar.getD i 0]? = some (Cond.arrayOf (.field (tmS i) "java/lang/String" "value" "[B") .byte) := by decide +kernel
theorem tms_ar : ∀ i : Nat, i < 16 → Cond.arrayOf (.field (tmS i) "java/lang/String" "value" "[B") .byte ∈ (flatC (Jvm.Cond.and given_1 narrow_1)) := fun i hi => List.mem_of_getElem? (i := fx_ar.getD i 0) (tms_ar_x i hi)
def fx_le : List Nat := [12, 18, 24, 31, 51, 69, 81, 93, 105, 118, 132, 149, 165, 182, 200, 221]
theorem tms_le_x : ∀ i : Nat, i < 16 → (flatC (Jvm.Cond.and given_1 narrow_1))[fx_le.getD i 0]? = some (Cond.eq (.length (.field (tmS i) "java/lang/String" "value" "[B")) (.int (Int32.ofNat (sLen.getD i 0)))) := by decide +kernel
theorem tms_le : ∀ i : Nat, i < 16 → Cond.eq (.length (.field (tmS i) "java/lang/String" "value" "[B")) (.int (Int32.ofNat (sLen.getD i 0))) ∈ (flatC (Jvm.Cond.and given_1 narrow_1)) := fun i hi => List.mem_of_getElem? (i := fx_le.getD i 0) (tms_le_x i hi)
def fx_el : List (List Nat) := [[13, 14], [19], [25], [32, 33, 34, 35, 36, 37, 38, 39, 40, 41, 42, 43, 44], [52, 53, 54, 55, 56, 57, 58, 59, 60, 61], [70, 71, 72], [82, 83], [94], [106], [119], [133, 134, 135], [150], [166], [183], [201, 202, 203], [222]]
theorem tms_el_x : ∀ i : Nat, i < 16 → ∀ j : Nat, j < sLen.getD i 0 → (flatC (Jvm.Cond.and given_1 narrow_1))[(fx_el.getD i []).getD j 0]? = some (Cond.eq (.elem (.field (tmS i) "java/lang/String" "value" "[B") (.int (Int32.ofNat j))) (.int ((sByt.getD i []).getD j 0))) := by decide +kernel
theorem tms_el : ∀ i : Nat, i < 16 → ∀ j : Nat, j < sLen.getD i 0 → Cond.eq (.elem (.field (tmS i) "java/lang/String" "value" "[B") (.int (Int32.ofNat j))) (.int ((sByt.getD i []).getD j 0)) ∈ (flatC (Jvm.Cond.and given_1 narrow_1)) := fun i hi j hj => List.mem_of_getElem? (i := (fx_el.getD i []).getD j 0) (tms_el_x i hi j hj)
def fx_ne : List (List Nat) := [[], [20], [26, 27], [45, 46, 47], [62, 63, 64, 65], [73, 74, 75, 76, 77], [84, 85, 86, 87, 88, 89], [95, 96, 97, 98, 99, 100, 101], [107, 108, 109, 110, 111, 112, 113, 114], [120, 121, 122, 123, 124, 125, 126, 127, 128], [136, 137, 138, 139, 140, 141, 142, 143, 144, 145], [151, 152, 153, 154, 155, 156, 157, 158, 159, 160, 161], [167, 168, 169, 170, 171, 172, 173, 174, 175, 176, 177, 178], [184, 185, 186, 187, 188, 189, 190, 191, 192, 193, 194, 195, 196], [204, 205, 206, 207, 208, 209, 210, 211, 212, 213, 214, 215, 216, 217], [223, 224, 225, 226, 227, 228, 229, 230, 231, 232, 233, 234, 235, 236, 237]]
theorem tms_ne_x : ∀ i : Nat, i < 16 → ∀ j : Nat, j < i → (flatC (Jvm.Cond.and given_1 narrow_1))[(fx_ne.getD i []).getD j 0]? = some (Cond.not (Cond.eq (tmS j) (tmS i))) := by decide +kernel
theorem tms_ne : ∀ i : Nat, i < 16 → ∀ j : Nat, j < i → Cond.not (Cond.eq (tmS j) (tmS i)) ∈ (flatC (Jvm.Cond.and given_1 narrow_1)) := fun i hi j hj => List.mem_of_getElem? (i := (fx_ne.getD i []).getD j 0) (tms_ne_x i hi j hj)
set_option maxHeartbeats 8000000 in
set_option maxRecDepth 200000 in
theorem law_STR {s : State} {b : Nat} {A : Nat → Prop} (hts0 : ∀ w ∈ lw_tbl, w.before #[Value.ref b] s = true) (hgv : (Jvm.Cond.and given_1 narrow_1).before #[Value.ref b] s = true) (hA : ∀ a : Nat, a < s.heap.size → ¬ A a) : ∃ adK adV : Nat → Nat, STR adK adV A s s.heap := by
  have hs := flat_of_before _ hgv
  obtain ⟨adK, adV, h1, h2⟩ := vk_Sof (args := #[Value.ref b]) (s := s) (N := 16) (tm := tmS) (len := sLen) (byt := sByt) (A := A) tms_len (fun i hi => hs _ (tms_ex i hi)) (fun i hi => hs _ (tms_co i hi)) (fun i hi => hs _ (tms_ar i hi)) (fun i hi => hs _ (tms_le i hi)) (fun i hi j hj => hs _ (tms_el i hi j hj)) (fun i j hi hj hij => (Nat.lt_or_gt_of_ne hij).elim (fun q => Or.inl (hs _ (tms_ne j hj i q))) (fun q => Or.inr (hs _ (tms_ne i hi j q)))) hA
  refine ⟨adK, adV, h1, va_Zof (args := #[Value.ref b]) (hts0 _ (List.mem_of_getElem? (i := 589) (by decide +kernel))) (hts0 _ (List.mem_of_getElem? (i := 129) (by decide +kernel))) (va_eqt (hs _ (by decide +kernel))) hA, ?_⟩
  exact ⟨vk_R.of (hts0 _ (List.mem_of_getElem? (i := 551) (by decide +kernel))) (h2 0 (by decide)), vk_R.of (hts0 _ (List.mem_of_getElem? (i := 686) (by decide +kernel))) (h2 1 (by decide)), vk_R.of (hts0 _ (List.mem_of_getElem? (i := 691) (by decide +kernel))) (h2 2 (by decide)), vk_R.of (hts0 _ (List.mem_of_getElem? (i := 696) (by decide +kernel))) (h2 3 (by decide)), vk_R.of (hts0 _ (List.mem_of_getElem? (i := 701) (by decide +kernel))) (h2 4 (by decide)), vk_R.of (hts0 _ (List.mem_of_getElem? (i := 706) (by decide +kernel))) (h2 5 (by decide)), vk_R.of (hts0 _ (List.mem_of_getElem? (i := 707) (by decide +kernel))) (h2 6 (by decide)), vk_R.of (hts0 _ (List.mem_of_getElem? (i := 712) (by decide +kernel))) (h2 7 (by decide)), vk_R.of (hts0 _ (List.mem_of_getElem? (i := 725) (by decide +kernel))) (h2 8 (by decide)), vk_R.of (hts0 _ (List.mem_of_getElem? (i := 726) (by decide +kernel))) (h2 9 (by decide)), vk_R.of (hts0 _ (List.mem_of_getElem? (i := 727) (by decide +kernel))) (h2 10 (by decide)), vk_R.of (hts0 _ (List.mem_of_getElem? (i := 728) (by decide +kernel))) (h2 11 (by decide)), vk_R.of (hts0 _ (List.mem_of_getElem? (i := 733) (by decide +kernel))) (h2 12 (by decide)), vk_R.of (hts0 _ (List.mem_of_getElem? (i := 734) (by decide +kernel))) (h2 13 (by decide)), vk_R.of (hts0 _ (List.mem_of_getElem? (i := 743) (by decide +kernel))) (h2 14 (by decide)), vk_R.of (hts0 _ (List.mem_of_getElem? (i := 748) (by decide +kernel))) (h2 15 (by decide))⟩
