theorem Met_ofWF {l : Launch} {y : MethodName} {ws ws' : List Cond} {rm : Room} {Pc : Array Value → State → Prop} {Qc : Array Value → State → Outcome → State → Prop} {mc ms : Nat} {free : Addr → Prop} {cc : ByteArray} {maxL : Nat} {ret : Option FieldType}
    (hy : plainFor y = true) (hw : ws = Cond.code y cc maxL ret :: ws')
    (body : ∀ p e s m args below meth c s₁, BodyLoose p l y (headSpec ws rm) cc maxL ret e s m args below meth c s₁ → c.maxLocals = maxL → Pc args s →
      W p l e (headSpec ws rm).room s m args below meth c s.heap [] 0 0 (MQ below Qc args s mc ms free) (entryFrame m args maxL)) : Met l y ws rm Pc Qc mc ms free := by
  refine MetFree.of_bodySF (code := cc) (maxLocals := maxL) (ret := ret) hy ?_ ?_
  · intro args s m h hn
    obtain ⟨meth, c, h1, h2, h3, h4, h5, h6, -, -⟩ := Cond.code_spec hn (atoms_spec (ws := ws) h _ (by rw [hw]; exact List.mem_cons_self))
    exact ⟨meth, c, h1, h2, h3, h4, h5, h6⟩
  · intro p e s m args below meth c s₁ B hml hP _
    have hh0 : s₁.heap = s.heap := by rw [B.state]; rfl
    obtain ⟨t, a1, o, b1, b2, b3⟩ := body p e s m args below meth c s₁ B hml hP s₁ hh0 (Stand.of_body B)
    exact ⟨t, o, a1, b1, b2, ⟨b3.1, b3.2⟩⟩
section OPEN3
variable {l : Launch} {D : va_G} {cI cB cZ cJ : ClassId} {tx : List (ClassId × FieldType)} {y : MethodName} {cc : ByteArray} {mL : Nat} {ret : Option FieldType} {F mc ms : Nat} {av : List Value} {ws : va_W}
theorem rdi_ofF {post : Int32 → Prop} (hy : plainFor y = true) (hn : (lg_sl av).length ≤ mL) (body : ∀ (p : Program) (e : Env) (s : State) (m : MethodId) (below : List Frame) (meth : Method) (c : Code) (A : Nat → Prop) (ls : Array Slot), CTX p s m meth c av.toArray y cc mL ret → KX D cI cB cZ cJ tx s → va_P D vwCl ws s.heap → va_D (fun _ => True) ws → (∀ q : Nat, s.heap.size ≤ q → A q) → va_S A s.heap s.heap [] → lv_has ls mL (lv_args 0 av) →
    W p l e (rmX F 0 0) s m av.toArray below meth c s.heap [] 0 0 (MQ below (va_Qi (fun r (_ : Unit) => post r) (fun _ _ => True) A) av.toArray s 0 0 A) (F0 m 0 ls [])) : RdI l D cI cB cZ cJ tx y cc mL ret F av ws post := by
  intro sz
  refine Met_ofWF (cc := cc) (maxL := mL) (ret := ret) hy rfl ?_
  intro p e s m args below meth c s₁ B hml hv
  obtain ⟨rfl, hsz, hP, hK, hD0⟩ := hv
  subst hsz
  have hl := lv_entry av (n := mL) hn
  rw [lg_entry_eq]
  exact body p e s m below meth c _ _ (ctx_of B hml) hK hP hD0 (fun q h => Or.inr h) va_S.rf hl
theorem rdi_ofF2 {post : Int32 → Prop} (hy : plainFor y = true) (hn : (lg_sl av).length ≤ mL) (body : ∀ (p : Program) (e : Env) (s : State) (m : MethodId) (below : List Frame) (meth : Method) (c : Code) (A : Nat → Prop) (ls : Array Slot) (H : Heap) (locs : List Loc), CTX p s m meth c av.toArray y cc mL ret → KX D cI cB cZ cJ tx s → va_P D vwCl ws H → va_D (fun _ => True) ws → (∀ q : Nat, s.heap.size ≤ q → A q) → va_S A s.heap H locs → lv_has ls mL (lv_args 0 av) →
    W p l e (rmX F 0 0) s m av.toArray below meth c H locs 0 0 (MQ below (va_Qi (fun r (_ : Unit) => post r) (fun _ _ => True) A) av.toArray s 0 0 A) (F0 m 0 ls [])) : RdI l D cI cB cZ cJ tx y cc mL ret F av ws post :=
  rdi_ofF hy hn (fun p e s m below meth c A ls hC hK hP hD hA hS hl => body p e s m below meth c A ls s.heap [] hC hK hP hD hA hS hl)
end OPEN3
theorem lf_J9_floorDiv_1 (n1 : Int32) (n2 : Int32) (hnz : ¬ n2 = 0) : ¬ n2 = 0 := by
  assumption
theorem lf_J9_floorDiv_5 (n1 : Int32) (n2 : Int32) (hnz : ¬ n2 = 0) (x_2 : Int32) (x_3 : Int32) (ex_3 : x_3 = n1 ^^^ n2) (c_4 : 0 ≤ x_3) : True := by
  first | trivial | assumption | decide
theorem lf_J9_floorDiv_8 (n1 : Int32) (n2 : Int32) (hnz : ¬ n2 = 0) (x_2 : Int32) (x_3 : Int32) (ex_3 : x_3 = n1 ^^^ n2) (c_4 : ¬ 0 ≤ x_3) (x_6 : Int32) (ex_6 : x_6 = x_2 * n2) (c_7 : x_6 = n1) : True := by
  first | trivial | assumption | decide
theorem lf_J9_floorDiv_10 (n1 : Int32) (n2 : Int32) (hnz : ¬ n2 = 0) (x_2 : Int32) (x_3 : Int32) (ex_3 : x_3 = n1 ^^^ n2) (c_4 : ¬ 0 ≤ x_3) (x_6 : Int32) (ex_6 : x_6 = x_2 * n2) (c_7 : ¬ x_6 = n1) (x_9 : Int32) (ex_9 : x_9 = x_2 - 1) : True := by
  first | trivial | assumption | decide
set_option maxHeartbeats 4000000 in
set_option maxRecDepth 100000 in
theorem c_J9_floorDiv (l : Launch) (D : va_G) (cI cB cZ cJ : ClassId) (tx : List (ClassId × FieldType)) (n1 : Int32) (n2 : Int32) (hnz : ¬ n2 = 0) : RdI l D cI cB cZ cJ tx yJ9_floorDiv_7cf53 cJ9_floorDiv_7cf53 3 (some .int) 0 [.int n1, .int n2] [] (fun r => True) := by
  refine rdi_ofF2 (by decide +kernel) (Nat.le_of_ble_eq_true rfl) ?_
  intro p e s m below meth c A ls H locs hC hK hP hD hA hS hl
  obtain ⟨hx, hb, hr, hml, hown, hts, hlocks, hin⟩ := hC
  have hown : s.vm.findClass RJ9 = some m.cls := hown
  have hl : lv_has ls 3 [(0, .int n1), (1, .int n2)] := hl
  refine lv_iload_n hx hb dJ9_floorDiv_7cf53_0 rfl (lv_at hl 0 rfl) ?_
  refine lv_iload_n hx hb dJ9_floorDiv_7cf53_1 rfl (lv_at hl 1 rfl) ?_
  refine lv_idiv hx hb dJ9_floorDiv_7cf53_2 (lf_J9_floorDiv_1 n1 n2 hnz) ?_
  refine lv_topi (fun x_2 _ => ?_)
  refine lv_istore_n (lv' := [(2, .int x_2), (0, .int n1), (1, .int n2)]) hx hb dJ9_floorDiv_7cf53_3 rfl hl (by decide) rfl (fun ls hl => ?_)
  refine lv_iload_n hx hb dJ9_floorDiv_7cf53_4 rfl (lv_at hl 1 rfl) ?_
  refine lv_iload_n hx hb dJ9_floorDiv_7cf53_5 rfl (lv_at hl 2 rfl) ?_
  refine lv_ixor hx hb dJ9_floorDiv_7cf53_6 ?_
  refine lv_topi (fun x_3 ex_3 => ?_)
  refine lv_if_ge (tgt := 21) hx hb dJ9_floorDiv_7cf53_7 (by decide) (fun c_4 => ?_) (fun c_4 => ?_)
  · refine lv_iload_n hx hb dJ9_floorDiv_7cf53_21 rfl (lv_at hl 0 rfl) ?_
    exact W.iret (v := x_2) hx hb hr (fun tt9 ht hW => ⟨⟨(x_2 : Int32), (), rfl, (lf_J9_floorDiv_5 n1 n2 hnz x_2 x_3 ex_3 c_4), trivial⟩, hS.F ht⟩) hS.2.2 dJ9_floorDiv_7cf53_22 hlocks
  · refine lv_iload_n hx hb dJ9_floorDiv_7cf53_10 rfl (lv_at hl 0 rfl) ?_
    refine lv_iload_n hx hb dJ9_floorDiv_7cf53_11 rfl (lv_at hl 2 rfl) ?_
    refine lv_imul hx hb dJ9_floorDiv_7cf53_12 ?_
    refine lv_topi (fun x_6 ex_6 => ?_)
    refine lv_iload_n hx hb dJ9_floorDiv_7cf53_13 rfl (lv_at hl 1 rfl) ?_
    refine lv_icmp_eq (tgt := 21) hx hb dJ9_floorDiv_7cf53_14 (by decide) (fun c_7 => ?_) (fun c_7 => ?_)
    · refine lv_iload_n hx hb dJ9_floorDiv_7cf53_21 rfl (lv_at hl 0 rfl) ?_
      exact W.iret (v := x_2) hx hb hr (fun tt9 ht hW => ⟨⟨(x_2 : Int32), (), rfl, (lf_J9_floorDiv_8 n1 n2 hnz x_2 x_3 ex_3 c_4 x_6 ex_6 c_7), trivial⟩, hS.F ht⟩) hS.2.2 dJ9_floorDiv_7cf53_22 hlocks
    · refine lv_iload_n hx hb dJ9_floorDiv_7cf53_17 rfl (lv_at hl 0 rfl) ?_
      refine lv_iconst (v := 1) hx hb dJ9_floorDiv_7cf53_18 (by decide) ?_
      refine lv_isub hx hb dJ9_floorDiv_7cf53_19 ?_
      refine lv_topi (fun x_9 ex_9 => ?_)
      exact W.iret (v := x_9) hx hb hr (fun tt9 ht hW => ⟨⟨(x_9 : Int32), (), rfl, (lf_J9_floorDiv_10 n1 n2 hnz x_2 x_3 ex_3 c_4 x_6 ex_6 c_7 x_9 ex_9), trivial⟩, hS.F ht⟩) hS.2.2 dJ9_floorDiv_7cf53_20 hlocks

theorem lf_X0_lowerMedian_d3_3 (a : Nat → Nat) (d3 : Nat → Int32) (x1 : Nat) (hx1 : x1 ≤ 384) (j1 : Nat) (w1 : Int32) (w2 : Int32) (k11 : Nat) (hj11 : j1 ≤ 15) (hk11 : 15 < j1 + (k11 + 1)) (c_1 : 15 ≤ nI j1) : 15 ≤ j1 := by
  exact (nI_leI (a := 15) (b := j1) (by omega) (by omega)).mp c_1
theorem lf_X0_lowerMedian_d3_5 (a : Nat → Nat) (d3 : Nat → Int32) (x1 : Nat) (hx1 : x1 ≤ 384) (j1 : Nat) (w1 : Int32) (w2 : Int32) (k11 : Nat) (hj11 : j1 ≤ 15) (hk11 : 15 < j1 + (k11 + 1)) (c_1 : ¬ 15 ≤ nI j1) : j1 < 15 := by
  exact Nat.lt_of_not_le (fun q => c_1 ((nI_leI (a := 15) (b := j1) (by omega) (by omega)).mpr q))
theorem lf_X0_lowerMedian_d3_8 (a : Nat → Nat) (d3 : Nat → Int32) (x1 : Nat) (hx1 : x1 ≤ 384) (j1 : Nat) (w1 : Int32) (w2 : Int32) (k11 : Nat) (hj11 : j1 ≤ 15) (hk11 : 15 < j1 + (k11 + 1)) (c_1 : ¬ 15 ≤ nI j1) (n_4 : j1 < 15) (c_6 : ¬ w2 ≤ w1) (x_7 : Int32) (ex_7 : x_7 = w1 + w2) : ¬ (2 : Int32) = 0 := by
  first | assumption | omega | decide
theorem lf_X0_lowerMedian_d3_12 (a : Nat → Nat) (d3 : Nat → Int32) (x1 : Nat) (hx1 : x1 ≤ 384) (j1 : Nat) (w1 : Int32) (w2 : Int32) (k11 : Nat) (hj11 : j1 ≤ 15) (hk11 : 15 < j1 + (k11 + 1)) (c_1 : ¬ 15 ≤ nI j1) (n_4 : j1 < 15) (c_6 : ¬ w2 ≤ w1) (x_7 : Int32) (ex_7 : x_7 = w1 + w2) (r_9 : Int32) (j2 : Nat) (w3 : Int32) (k38 : Nat) (hj38 : j2 ≤ x1) (hk38 : x1 < j2 + (k38 + 1)) (c_10 : nI x1 ≤ nI j2) : x1 ≤ j2 := by
  exact (nI_leI (a := x1) (b := j2) (by omega) (by omega)).mp c_10
theorem lf_X0_lowerMedian_d3_17 (a : Nat → Nat) (d3 : Nat → Int32) (x1 : Nat) (hx1 : x1 ≤ 384) (j1 : Nat) (w1 : Int32) (w2 : Int32) (k11 : Nat) (hj11 : j1 ≤ 15) (hk11 : 15 < j1 + (k11 + 1)) (c_1 : ¬ 15 ≤ nI j1) (n_4 : j1 < 15) (c_6 : ¬ w2 ≤ w1) (x_7 : Int32) (ex_7 : x_7 = w1 + w2) (r_9 : Int32) (j2 : Nat) (w3 : Int32) (k38 : Nat) (hj38 : j2 ≤ x1) (hk38 : x1 < j2 + (k38 + 1)) (c_10 : ¬ nI x1 ≤ nI j2) : j2 < x1 := by
  exact Nat.lt_of_not_le (fun q => c_10 ((nI_leI (a := x1) (b := j2) (by omega) (by omega)).mpr q))
theorem lf_X0_lowerMedian_d3_18 (a : Nat → Nat) (d3 : Nat → Int32) (x1 : Nat) (hx1 : x1 ≤ 384) (j1 : Nat) (w1 : Int32) (w2 : Int32) (k11 : Nat) (hj11 : j1 ≤ 15) (hk11 : 15 < j1 + (k11 + 1)) (c_1 : ¬ 15 ≤ nI j1) (n_4 : j1 < 15) (c_6 : ¬ w2 ≤ w1) (x_7 : Int32) (ex_7 : x_7 = w1 + w2) (r_9 : Int32) (j2 : Nat) (w3 : Int32) (k38 : Nat) (hj38 : j2 ≤ x1) (hk38 : x1 < j2 + (k38 + 1)) (c_10 : ¬ nI x1 ≤ nI j2) (n_16 : j2 < x1) : vp_in (nI j2) 384 := by
  first | exact vp_in_nI (by omega) (by decide) | (unfold vp_in; decide)
set_option maxHeartbeats 4000000 in
set_option maxRecDepth 100000 in
theorem c_X0_lowerMedian_d3 (l : Launch) (D : va_G) (cI cB cZ cJ : ClassId) (tx : List (ClassId × FieldType)) (a : Nat → Nat) (d3 : Nat → Int32) (x1 : Nat) (hx1 : x1 ≤ 384) : RdI l D cI cB cZ cJ tx yX0_lowerMedian cX0_lowerMedian 8 (some .int) 1 [.ref (a 28), .int (nI x1)] [(a 28, .inl (cI, 384, .inl d3))] (fun r => True) := by
  refine rdi_of2 (by decide) (Nat.le_of_ble_eq_true rfl) ?_
  intro p e s m below meth c A ls H locs hC hK hP hD hA hS hl
  obtain ⟨hx, hb, hr, hml, hown, hts, hlocks, hin⟩ := hC
  have hown : s.vm.findClass RX0 = some m.cls := hown
  have hl : lv_has ls 8 [(0, .ref (a 28)), (1, .int (nI x1))] := hl
  refine lv_sipush (v := (-12000)) hx hb dX0_lowerMedian_0 (by decide) ?_
  refine lv_istore_n (lv' := [(2, .int (-12000)), (0, .ref (a 28)), (1, .int (nI x1))]) hx hb dX0_lowerMedian_3 rfl hl (by decide) rfl (fun ls hl => ?_)
  refine lv_sipush (v := 12000) hx hb dX0_lowerMedian_4 (by decide) ?_
  refine lv_istore_n (lv' := [(3, .int 12000), (2, .int (-12000)), (0, .ref (a 28)), (1, .int (nI x1))]) hx hb dX0_lowerMedian_7 rfl hl (by decide) rfl (fun ls hl => ?_)
  refine lv_iconst (v := 0) hx hb dX0_lowerMedian_8 (by decide) ?_
  refine lv_istore (lv' := [(4, .int 0), (3, .int 12000), (2, .int (-12000)), (0, .ref (a 28)), (1, .int (nI x1))]) hx hb dX0_lowerMedian_9 hl (by decide) rfl (fun ls hl => ?_)
  have lp11 : ∀ (k11 : Nat) (j1 : Nat) (w1 : Int32) (w2 : Int32) (H : Heap) (locs : List Loc) (ls : Array Slot), j1 ≤ 15 → 15 < j1 + k11 → va_P D vwCl [(a 28, .inl (cI, 384, .inl d3))] H → va_S A s.heap H locs → lv_has ls 8 [(4, .int (nI j1)), (3, .int w2), (2, .int w1), (0, .ref (a 28)), (1, .int (nI x1))] → W p l e (rmX 1 0 0) s m ([.ref (a 28), .int (nI x1)] : List Value).toArray below meth c H locs 0 0 (MQ below (va_Qi (fun r (_ : Unit) => (fun r => True) r) (fun _ _ => True) A) ([.ref (a 28), .int (nI x1)] : List Value).toArray s 0 0 A) (F0 m 11 ls []) := by
    intro k11
    induction k11 with
    | zero =>
      intro j1 w1 w2 H locs ls hj11 hk11  hP hS hl
      exact absurd hk11 (by omega)
    | succ k11 ih11 =>
      intro j1 w1 w2 H locs ls hj11 hk11  hP hS hl
      refine lv_iload hx hb dX0_lowerMedian_11 (lv_at hl 0 rfl) ?_
      refine lv_bipush (v := 15) hx hb dX0_lowerMedian_13 (by decide) ?_
      refine lv_icmp_ge (tgt := 94) hx hb dX0_lowerMedian_15 (by decide) (fun c_1 => ?_) (fun c_1 => ?_)
      · have n_2 : 15 ≤ j1 := (lf_X0_lowerMedian_d3_3 a d3 x1 hx1 j1 w1 w2 k11 hj11 hk11 c_1)
        refine lv_iload_n hx hb dX0_lowerMedian_94 rfl (lv_at hl 2 rfl) ?_
        exact W.iret (v := w1) hx hb hr (fun tt9 ht hW => ⟨⟨(w1 : Int32), (), rfl, trivial, trivial⟩, hS.F ht⟩) hS.2.2 dX0_lowerMedian_95 hlocks
      · have n_4 : j1 < 15 := (lf_X0_lowerMedian_d3_5 a d3 x1 hx1 j1 w1 w2 k11 hj11 hk11 c_1)
        refine lv_iload_n hx hb dX0_lowerMedian_18 rfl (lv_at hl 2 rfl) ?_
        refine lv_iload_n hx hb dX0_lowerMedian_19 rfl (lv_at hl 1 rfl) ?_
        refine lv_icmp_ge (tgt := 94) hx hb dX0_lowerMedian_20 (by decide) (fun c_6 => ?_) (fun c_6 => ?_)
        · refine lv_iload_n hx hb dX0_lowerMedian_94 rfl (lv_at hl 2 rfl) ?_
          exact W.iret (v := w1) hx hb hr (fun tt9 ht hW => ⟨⟨(w1 : Int32), (), rfl, trivial, trivial⟩, hS.F ht⟩) hS.2.2 dX0_lowerMedian_95 hlocks
        · refine lv_iload_n hx hb dX0_lowerMedian_23 rfl (lv_at hl 2 rfl) ?_
          refine lv_iload_n hx hb dX0_lowerMedian_24 rfl (lv_at hl 1 rfl) ?_
          refine lv_iadd hx hb dX0_lowerMedian_25 ?_
          refine lv_topi (fun x_7 ex_7 => ?_)
          refine lv_iconst (v := 2) hx hb dX0_lowerMedian_26 (by decide) ?_
          refine eRi (va_runS (As := [.int x_7, .int 2]) (rest := []) ⟨hx, hb, hml, hown, hts⟩ (c_J9_floorDiv l D cI cB cZ cJ tx x_7 2 (lf_X0_lowerMedian_d3_8 a d3 x1 hx1 j1 w1 w2 k11 hj11 hk11 c_1 n_4 c_6 x_7 ex_7) H.size) (zS hts k_963 v_J9_floorDiv_7cf53 ⟨Nat.le_of_ble_eq_true rfl, Nat.le_of_ble_eq_true rfl⟩) (px0 hK) rfl rfl hl.1 rfl (lv_room (Nat.le_of_ble_eq_true rfl)) dX0_lowerMedian_27 ⟨Nat.le_of_ble_eq_true rfl, Nat.le_of_ble_eq_true rfl⟩) hP hS hA (fun r_9 H locs wr_9 hP hS => ?_)
          refine lv_istore (lv' := [(5, .int r_9), (4, .int (nI j1)), (3, .int w2), (2, .int w1), (0, .ref (a 28)), (1, .int (nI x1))]) hx hb dX0_lowerMedian_30 hl (by decide) rfl (fun ls hl => ?_)
          refine lv_iconst (v := 0) hx hb dX0_lowerMedian_32 (by decide) ?_
          refine lv_istore (lv' := [(6, .int 0), (5, .int r_9), (4, .int (nI j1)), (3, .int w2), (2, .int w1), (0, .ref (a 28)), (1, .int (nI x1))]) hx hb dX0_lowerMedian_33 hl (by decide) rfl (fun ls hl => ?_)
          refine lv_iconst (v := 0) hx hb dX0_lowerMedian_35 (by decide) ?_
          refine lv_istore (lv' := [(7, .int 0), (6, .int 0), (5, .int r_9), (4, .int (nI j1)), (3, .int w2), (2, .int w1), (0, .ref (a 28)), (1, .int (nI x1))]) hx hb dX0_lowerMedian_36 hl (by decide) rfl (fun ls hl => ?_)
          have lp38 : ∀ (k38 : Nat) (j2 : Nat) (w3 : Int32) (H : Heap) (locs : List Loc) (ls : Array Slot), j2 ≤ x1 → x1 < j2 + k38 → va_P D vwCl [(a 28, .inl (cI, 384, .inl d3))] H → va_S A s.heap H locs → lv_has ls 8 [(7, .int (nI j2)), (6, .int w3), (5, .int r_9), (4, .int (nI j1)), (3, .int w2), (2, .int w1), (0, .ref (a 28)), (1, .int (nI x1))] → W p l e (rmX 1 0 0) s m ([.ref (a 28), .int (nI x1)] : List Value).toArray below meth c H locs 0 0 (MQ below (va_Qi (fun r (_ : Unit) => (fun r => True) r) (fun _ _ => True) A) ([.ref (a 28), .int (nI x1)] : List Value).toArray s 0 0 A) (F0 m 38 ls []) := by
            intro k38
            induction k38 with
            | zero =>
              intro j2 w3 H locs ls hj38 hk38  hP hS hl
              exact absurd hk38 (by omega)
            | succ k38 ih38 =>
              intro j2 w3 H locs ls hj38 hk38  hP hS hl
              refine lv_iload hx hb dX0_lowerMedian_38 (lv_at hl 0 rfl) ?_
              refine lv_iload_n hx hb dX0_lowerMedian_40 rfl (lv_at hl 7 rfl) ?_
              refine lv_icmp_ge (tgt := 69) hx hb dX0_lowerMedian_41 (by decide) (fun c_10 => ?_) (fun c_10 => ?_)
              · have n_11 : x1 ≤ j2 := (lf_X0_lowerMedian_d3_12 a d3 x1 hx1 j1 w1 w2 k11 hj11 hk11 c_1 n_4 c_6 x_7 ex_7 r_9 j2 w3 k38 hj38 hk38 c_10)
                refine lv_iconst (v := 2) hx hb dX0_lowerMedian_69 (by decide) ?_
                refine lv_iload hx hb dX0_lowerMedian_70 (lv_at hl 1 rfl) ?_
                refine lv_imul hx hb dX0_lowerMedian_72 ?_
                refine lv_topi (fun x_13 ex_13 => ?_)
                refine lv_iload_n hx hb dX0_lowerMedian_73 rfl (lv_at hl 7 rfl) ?_
                refine lv_icmp_lt (tgt := 83) hx hb dX0_lowerMedian_74 (by decide) (fun c_14 => ?_) (fun c_14 => ?_)
                · refine lv_iload hx hb dX0_lowerMedian_83 (lv_at hl 2 rfl) ?_
                  refine lv_iconst (v := 1) hx hb dX0_lowerMedian_85 (by decide) ?_
                  refine lv_iadd hx hb dX0_lowerMedian_86 ?_
                  refine lv_topi (fun x_15 ex_15 => ?_)
                  refine lv_istore_n (lv' := [(2, .int x_15), (7, .int (nI j2)), (6, .int w3), (5, .int r_9), (4, .int (nI j1)), (3, .int w2), (0, .ref (a 28)), (1, .int (nI x1))]) hx hb dX0_lowerMedian_87 rfl hl (by decide) rfl (fun ls hl => ?_)
                  refine lv_iinc (v := nI (j1 + 1)) (lv' := [(4, .int (nI (j1 + 1))), (2, .int x_15), (7, .int (nI j2)), (6, .int w3), (5, .int r_9), (3, .int w2), (0, .ref (a 28)), (1, .int (nI x1))]) hx hb dX0_lowerMedian_88 hl (k := 4) rfl (nI_1 j1) (by decide) rfl (fun ls hl => ?_)
                  refine lv_goto (tgt := 11) hx hb dX0_lowerMedian_91 (by decide) ?_
                  exact ih11 (j1 + 1) x_15 w2 H locs ls (by omega) (by omega)  (hP.sub [0] rfl)  hS (lv_sub hl [0, 5, 1, 6, 7] rfl)
                · refine lv_iload hx hb dX0_lowerMedian_77 (lv_at hl 2 rfl) ?_
                  refine lv_istore_n (lv' := [(3, .int r_9), (7, .int (nI j2)), (6, .int w3), (5, .int r_9), (4, .int (nI j1)), (2, .int w1), (0, .ref (a 28)), (1, .int (nI x1))]) hx hb dX0_lowerMedian_79 rfl hl (by decide) rfl (fun ls hl => ?_)
                  refine lv_goto (tgt := 88) hx hb dX0_lowerMedian_80 (by decide) ?_
                  refine lv_iinc (v := nI (j1 + 1)) (lv' := [(4, .int (nI (j1 + 1))), (3, .int r_9), (7, .int (nI j2)), (6, .int w3), (5, .int r_9), (2, .int w1), (0, .ref (a 28)), (1, .int (nI x1))]) hx hb dX0_lowerMedian_88 hl (k := 4) rfl (nI_1 j1) (by decide) rfl (fun ls hl => ?_)
                  refine lv_goto (tgt := 11) hx hb dX0_lowerMedian_91 (by decide) ?_
                  exact ih11 (j1 + 1) w1 r_9 H locs ls (by omega) (by omega)  (hP.sub [0] rfl)  hS (lv_sub hl [0, 1, 5, 6, 7] rfl)
              · have n_16 : j2 < x1 := (lf_X0_lowerMedian_d3_17 a d3 x1 hx1 j1 w1 w2 k11 hj11 hk11 c_1 n_4 c_6 x_7 ex_7 r_9 j2 w3 k38 hj38 hk38 c_10)
                refine lv_iload hx hb dX0_lowerMedian_44 (lv_at hl 1 rfl) ?_
                refine lv_aload_n hx hb dX0_lowerMedian_46 rfl (lv_at hl 6 rfl) ?_
                refine lv_iload hx hb dX0_lowerMedian_47 (lv_at hl 0 rfl) ?_
                refine ld_i hx hb hK hP 0 rfl (lf_X0_lowerMedian_d3_18 a d3 x1 hx1 j1 w1 w2 k11 hj11 hk11 c_1 n_4 c_6 x_7 ex_7 r_9 j2 w3 k38 hj38 hk38 c_10 n_16) dX0_lowerMedian_49 (fun x_19 => ?_)
                refine lv_iload hx hb dX0_lowerMedian_50 (lv_at hl 2 rfl) ?_
                refine lv_icmp_gt (tgt := 59) hx hb dX0_lowerMedian_52 (by decide) (fun c_20 => ?_) (fun c_20 => ?_)
                · refine lv_iconst (v := 0) hx hb dX0_lowerMedian_59 (by decide) ?_
                  refine lv_iadd hx hb dX0_lowerMedian_60 ?_
                  refine lv_topi (fun x_21 ex_21 => ?_)
                  refine lv_istore (lv' := [(6, .int x_21), (7, .int (nI j2)), (5, .int r_9), (4, .int (nI j1)), (3, .int w2), (2, .int w1), (0, .ref (a 28)), (1, .int (nI x1))]) hx hb dX0_lowerMedian_61 hl (by decide) rfl (fun ls hl => ?_)
                  refine lv_iinc (v := nI (j2 + 1)) (lv' := [(7, .int (nI (j2 + 1))), (6, .int x_21), (5, .int r_9), (4, .int (nI j1)), (3, .int w2), (2, .int w1), (0, .ref (a 28)), (1, .int (nI x1))]) hx hb dX0_lowerMedian_63 hl (k := 1) rfl (nI_1 j2) (by decide) rfl (fun ls hl => ?_)
                  refine lv_goto (tgt := 38) hx hb dX0_lowerMedian_66 (by decide) ?_
                  exact ih38 (j2 + 1) x_21 H locs ls (by omega) (by omega)  (hP.sub [0] rfl)  hS (lv_sub hl [0, 1, 2, 3, 4, 5, 6, 7] rfl)
                · refine lv_iconst (v := 1) hx hb dX0_lowerMedian_55 (by decide) ?_
                  refine lv_goto (tgt := 60) hx hb dX0_lowerMedian_56 (by decide) ?_
                  refine lv_iadd hx hb dX0_lowerMedian_60 ?_
                  refine lv_topi (fun x_22 ex_22 => ?_)
                  refine lv_istore (lv' := [(6, .int x_22), (7, .int (nI j2)), (5, .int r_9), (4, .int (nI j1)), (3, .int w2), (2, .int w1), (0, .ref (a 28)), (1, .int (nI x1))]) hx hb dX0_lowerMedian_61 hl (by decide) rfl (fun ls hl => ?_)
                  refine lv_iinc (v := nI (j2 + 1)) (lv' := [(7, .int (nI (j2 + 1))), (6, .int x_22), (5, .int r_9), (4, .int (nI j1)), (3, .int w2), (2, .int w1), (0, .ref (a 28)), (1, .int (nI x1))]) hx hb dX0_lowerMedian_63 hl (k := 1) rfl (nI_1 j2) (by decide) rfl (fun ls hl => ?_)
                  refine lv_goto (tgt := 38) hx hb dX0_lowerMedian_66 (by decide) ?_
                  exact ih38 (j2 + 1) x_22 H locs ls (by omega) (by omega)  (hP.sub [0] rfl)  hS (lv_sub hl [0, 1, 2, 3, 4, 5, 6, 7] rfl)
          exact lp38 (x1 + 1) 0 0 H locs ls (by omega) (by omega)  (hP.sub [0] rfl)  hS (lv_sub hl [0, 1, 2, 3, 4, 5, 6, 7] rfl)
  exact lp11 (15 + 1) 0 (-12000) 12000 H locs ls (by omega) (by omega)  (hP.sub [0] rfl)  hS (lv_sub hl [0, 1, 2, 3, 4] rfl)

theorem lf_X0_lowerMedian_d4_3 (a : Nat → Nat) (d4 : Nat → Int32) (x1 : Nat) (hx1 : x1 ≤ 384) (j1 : Nat) (w1 : Int32) (w2 : Int32) (k11 : Nat) (hj11 : j1 ≤ 15) (hk11 : 15 < j1 + (k11 + 1)) (c_1 : 15 ≤ nI j1) : 15 ≤ j1 := by
  exact (nI_leI (a := 15) (b := j1) (by omega) (by omega)).mp c_1
theorem lf_X0_lowerMedian_d4_5 (a : Nat → Nat) (d4 : Nat → Int32) (x1 : Nat) (hx1 : x1 ≤ 384) (j1 : Nat) (w1 : Int32) (w2 : Int32) (k11 : Nat) (hj11 : j1 ≤ 15) (hk11 : 15 < j1 + (k11 + 1)) (c_1 : ¬ 15 ≤ nI j1) : j1 < 15 := by
  exact Nat.lt_of_not_le (fun q => c_1 ((nI_leI (a := 15) (b := j1) (by omega) (by omega)).mpr q))
theorem lf_X0_lowerMedian_d4_8 (a : Nat → Nat) (d4 : Nat → Int32) (x1 : Nat) (hx1 : x1 ≤ 384) (j1 : Nat) (w1 : Int32) (w2 : Int32) (k11 : Nat) (hj11 : j1 ≤ 15) (hk11 : 15 < j1 + (k11 + 1)) (c_1 : ¬ 15 ≤ nI j1) (n_4 : j1 < 15) (c_6 : ¬ w2 ≤ w1) (x_7 : Int32) (ex_7 : x_7 = w1 + w2) : ¬ (2 : Int32) = 0 := by
  first | assumption | omega | decide
theorem lf_X0_lowerMedian_d4_12 (a : Nat → Nat) (d4 : Nat → Int32) (x1 : Nat) (hx1 : x1 ≤ 384) (j1 : Nat) (w1 : Int32) (w2 : Int32) (k11 : Nat) (hj11 : j1 ≤ 15) (hk11 : 15 < j1 + (k11 + 1)) (c_1 : ¬ 15 ≤ nI j1) (n_4 : j1 < 15) (c_6 : ¬ w2 ≤ w1) (x_7 : Int32) (ex_7 : x_7 = w1 + w2) (r_9 : Int32) (j2 : Nat) (w3 : Int32) (k38 : Nat) (hj38 : j2 ≤ x1) (hk38 : x1 < j2 + (k38 + 1)) (c_10 : nI x1 ≤ nI j2) : x1 ≤ j2 := by
  exact (nI_leI (a := x1) (b := j2) (by omega) (by omega)).mp c_10
theorem lf_X0_lowerMedian_d4_17 (a : Nat → Nat) (d4 : Nat → Int32) (x1 : Nat) (hx1 : x1 ≤ 384) (j1 : Nat) (w1 : Int32) (w2 : Int32) (k11 : Nat) (hj11 : j1 ≤ 15) (hk11 : 15 < j1 + (k11 + 1)) (c_1 : ¬ 15 ≤ nI j1) (n_4 : j1 < 15) (c_6 : ¬ w2 ≤ w1) (x_7 : Int32) (ex_7 : x_7 = w1 + w2) (r_9 : Int32) (j2 : Nat) (w3 : Int32) (k38 : Nat) (hj38 : j2 ≤ x1) (hk38 : x1 < j2 + (k38 + 1)) (c_10 : ¬ nI x1 ≤ nI j2) : j2 < x1 := by
  exact Nat.lt_of_not_le (fun q => c_10 ((nI_leI (a := x1) (b := j2) (by omega) (by omega)).mpr q))
theorem lf_X0_lowerMedian_d4_18 (a : Nat → Nat) (d4 : Nat → Int32) (x1 : Nat) (hx1 : x1 ≤ 384) (j1 : Nat) (w1 : Int32) (w2 : Int32) (k11 : Nat) (hj11 : j1 ≤ 15) (hk11 : 15 < j1 + (k11 + 1)) (c_1 : ¬ 15 ≤ nI j1) (n_4 : j1 < 15) (c_6 : ¬ w2 ≤ w1) (x_7 : Int32) (ex_7 : x_7 = w1 + w2) (r_9 : Int32) (j2 : Nat) (w3 : Int32) (k38 : Nat) (hj38 : j2 ≤ x1) (hk38 : x1 < j2 + (k38 + 1)) (c_10 : ¬ nI x1 ≤ nI j2) (n_16 : j2 < x1) : vp_in (nI j2) 384 := by
  first | exact vp_in_nI (by omega) (by decide) | (unfold vp_in; decide)
set_option maxHeartbeats 4000000 in
set_option maxRecDepth 100000 in
theorem c_X0_lowerMedian_d4 (l : Launch) (D : va_G) (cI cB cZ cJ : ClassId) (tx : List (ClassId × FieldType)) (a : Nat → Nat) (d4 : Nat → Int32) (x1 : Nat) (hx1 : x1 ≤ 384) : RdI l D cI cB cZ cJ tx yX0_lowerMedian cX0_lowerMedian 8 (some .int) 1 [.ref (a 29), .int (nI x1)] [(a 29, .inl (cI, 384, .inl d4))] (fun r => True) := by
  refine rdi_of2 (by decide) (Nat.le_of_ble_eq_true rfl) ?_
  intro p e s m below meth c A ls H locs hC hK hP hD hA hS hl
  obtain ⟨hx, hb, hr, hml, hown, hts, hlocks, hin⟩ := hC
  have hown : s.vm.findClass RX0 = some m.cls := hown
  have hl : lv_has ls 8 [(0, .ref (a 29)), (1, .int (nI x1))] := hl
  refine lv_sipush (v := (-12000)) hx hb dX0_lowerMedian_0 (by decide) ?_
  refine lv_istore_n (lv' := [(2, .int (-12000)), (0, .ref (a 29)), (1, .int (nI x1))]) hx hb dX0_lowerMedian_3 rfl hl (by decide) rfl (fun ls hl => ?_)
  refine lv_sipush (v := 12000) hx hb dX0_lowerMedian_4 (by decide) ?_
  refine lv_istore_n (lv' := [(3, .int 12000), (2, .int (-12000)), (0, .ref (a 29)), (1, .int (nI x1))]) hx hb dX0_lowerMedian_7 rfl hl (by decide) rfl (fun ls hl => ?_)
  refine lv_iconst (v := 0) hx hb dX0_lowerMedian_8 (by decide) ?_
  refine lv_istore (lv' := [(4, .int 0), (3, .int 12000), (2, .int (-12000)), (0, .ref (a 29)), (1, .int (nI x1))]) hx hb dX0_lowerMedian_9 hl (by decide) rfl (fun ls hl => ?_)
  have lp11 : ∀ (k11 : Nat) (j1 : Nat) (w1 : Int32) (w2 : Int32) (H : Heap) (locs : List Loc) (ls : Array Slot), j1 ≤ 15 → 15 < j1 + k11 → va_P D vwCl [(a 29, .inl (cI, 384, .inl d4))] H → va_S A s.heap H locs → lv_has ls 8 [(4, .int (nI j1)), (3, .int w2), (2, .int w1), (0, .ref (a 29)), (1, .int (nI x1))] → W p l e (rmX 1 0 0) s m ([.ref (a 29), .int (nI x1)] : List Value).toArray below meth c H locs 0 0 (MQ below (va_Qi (fun r (_ : Unit) => (fun r => True) r) (fun _ _ => True) A) ([.ref (a 29), .int (nI x1)] : List Value).toArray s 0 0 A) (F0 m 11 ls []) := by
    intro k11
    induction k11 with
    | zero =>
      intro j1 w1 w2 H locs ls hj11 hk11  hP hS hl
      exact absurd hk11 (by omega)
    | succ k11 ih11 =>
      intro j1 w1 w2 H locs ls hj11 hk11  hP hS hl
      refine lv_iload hx hb dX0_lowerMedian_11 (lv_at hl 0 rfl) ?_
      refine lv_bipush (v := 15) hx hb dX0_lowerMedian_13 (by decide) ?_
      refine lv_icmp_ge (tgt := 94) hx hb dX0_lowerMedian_15 (by decide) (fun c_1 => ?_) (fun c_1 => ?_)
      · have n_2 : 15 ≤ j1 := (lf_X0_lowerMedian_d4_3 a d4 x1 hx1 j1 w1 w2 k11 hj11 hk11 c_1)
        refine lv_iload_n hx hb dX0_lowerMedian_94 rfl (lv_at hl 2 rfl) ?_
        exact W.iret (v := w1) hx hb hr (fun tt9 ht hW => ⟨⟨(w1 : Int32), (), rfl, trivial, trivial⟩, hS.F ht⟩) hS.2.2 dX0_lowerMedian_95 hlocks
      · have n_4 : j1 < 15 := (lf_X0_lowerMedian_d4_5 a d4 x1 hx1 j1 w1 w2 k11 hj11 hk11 c_1)
        refine lv_iload_n hx hb dX0_lowerMedian_18 rfl (lv_at hl 2 rfl) ?_
        refine lv_iload_n hx hb dX0_lowerMedian_19 rfl (lv_at hl 1 rfl) ?_
        refine lv_icmp_ge (tgt := 94) hx hb dX0_lowerMedian_20 (by decide) (fun c_6 => ?_) (fun c_6 => ?_)
        · refine lv_iload_n hx hb dX0_lowerMedian_94 rfl (lv_at hl 2 rfl) ?_
          exact W.iret (v := w1) hx hb hr (fun tt9 ht hW => ⟨⟨(w1 : Int32), (), rfl, trivial, trivial⟩, hS.F ht⟩) hS.2.2 dX0_lowerMedian_95 hlocks
        · refine lv_iload_n hx hb dX0_lowerMedian_23 rfl (lv_at hl 2 rfl) ?_
          refine lv_iload_n hx hb dX0_lowerMedian_24 rfl (lv_at hl 1 rfl) ?_
          refine lv_iadd hx hb dX0_lowerMedian_25 ?_
          refine lv_topi (fun x_7 ex_7 => ?_)
          refine lv_iconst (v := 2) hx hb dX0_lowerMedian_26 (by decide) ?_
          refine eRi (va_runS (As := [.int x_7, .int 2]) (rest := []) ⟨hx, hb, hml, hown, hts⟩ (c_J9_floorDiv l D cI cB cZ cJ tx x_7 2 (lf_X0_lowerMedian_d4_8 a d4 x1 hx1 j1 w1 w2 k11 hj11 hk11 c_1 n_4 c_6 x_7 ex_7) H.size) (zS hts k_963 v_J9_floorDiv_7cf53 ⟨Nat.le_of_ble_eq_true rfl, Nat.le_of_ble_eq_true rfl⟩) (px0 hK) rfl rfl hl.1 rfl (lv_room (Nat.le_of_ble_eq_true rfl)) dX0_lowerMedian_27 ⟨Nat.le_of_ble_eq_true rfl, Nat.le_of_ble_eq_true rfl⟩) hP hS hA (fun r_9 H locs wr_9 hP hS => ?_)
          refine lv_istore (lv' := [(5, .int r_9), (4, .int (nI j1)), (3, .int w2), (2, .int w1), (0, .ref (a 29)), (1, .int (nI x1))]) hx hb dX0_lowerMedian_30 hl (by decide) rfl (fun ls hl => ?_)
          refine lv_iconst (v := 0) hx hb dX0_lowerMedian_32 (by decide) ?_
          refine lv_istore (lv' := [(6, .int 0), (5, .int r_9), (4, .int (nI j1)), (3, .int w2), (2, .int w1), (0, .ref (a 29)), (1, .int (nI x1))]) hx hb dX0_lowerMedian_33 hl (by decide) rfl (fun ls hl => ?_)
          refine lv_iconst (v := 0) hx hb dX0_lowerMedian_35 (by decide) ?_
          refine lv_istore (lv' := [(7, .int 0), (6, .int 0), (5, .int r_9), (4, .int (nI j1)), (3, .int w2), (2, .int w1), (0, .ref (a 29)), (1, .int (nI x1))]) hx hb dX0_lowerMedian_36 hl (by decide) rfl (fun ls hl => ?_)
          have lp38 : ∀ (k38 : Nat) (j2 : Nat) (w3 : Int32) (H : Heap) (locs : List Loc) (ls : Array Slot), j2 ≤ x1 → x1 < j2 + k38 → va_P D vwCl [(a 29, .inl (cI, 384, .inl d4))] H → va_S A s.heap H locs → lv_has ls 8 [(7, .int (nI j2)), (6, .int w3), (5, .int r_9), (4, .int (nI j1)), (3, .int w2), (2, .int w1), (0, .ref (a 29)), (1, .int (nI x1))] → W p l e (rmX 1 0 0) s m ([.ref (a 29), .int (nI x1)] : List Value).toArray below meth c H locs 0 0 (MQ below (va_Qi (fun r (_ : Unit) => (fun r => True) r) (fun _ _ => True) A) ([.ref (a 29), .int (nI x1)] : List Value).toArray s 0 0 A) (F0 m 38 ls []) := by
            intro k38
            induction k38 with
            | zero =>
              intro j2 w3 H locs ls hj38 hk38  hP hS hl
              exact absurd hk38 (by omega)
            | succ k38 ih38 =>
              intro j2 w3 H locs ls hj38 hk38  hP hS hl
              refine lv_iload hx hb dX0_lowerMedian_38 (lv_at hl 0 rfl) ?_
              refine lv_iload_n hx hb dX0_lowerMedian_40 rfl (lv_at hl 7 rfl) ?_
              refine lv_icmp_ge (tgt := 69) hx hb dX0_lowerMedian_41 (by decide) (fun c_10 => ?_) (fun c_10 => ?_)
              · have n_11 : x1 ≤ j2 := (lf_X0_lowerMedian_d4_12 a d4 x1 hx1 j1 w1 w2 k11 hj11 hk11 c_1 n_4 c_6 x_7 ex_7 r_9 j2 w3 k38 hj38 hk38 c_10)
                refine lv_iconst (v := 2) hx hb dX0_lowerMedian_69 (by decide) ?_
                refine lv_iload hx hb dX0_lowerMedian_70 (lv_at hl 1 rfl) ?_
                refine lv_imul hx hb dX0_lowerMedian_72 ?_
                refine lv_topi (fun x_13 ex_13 => ?_)
                refine lv_iload_n hx hb dX0_lowerMedian_73 rfl (lv_at hl 7 rfl) ?_
                refine lv_icmp_lt (tgt := 83) hx hb dX0_lowerMedian_74 (by decide) (fun c_14 => ?_) (fun c_14 => ?_)
                · refine lv_iload hx hb dX0_lowerMedian_83 (lv_at hl 2 rfl) ?_
                  refine lv_iconst (v := 1) hx hb dX0_lowerMedian_85 (by decide) ?_
                  refine lv_iadd hx hb dX0_lowerMedian_86 ?_
                  refine lv_topi (fun x_15 ex_15 => ?_)
                  refine lv_istore_n (lv' := [(2, .int x_15), (7, .int (nI j2)), (6, .int w3), (5, .int r_9), (4, .int (nI j1)), (3, .int w2), (0, .ref (a 29)), (1, .int (nI x1))]) hx hb dX0_lowerMedian_87 rfl hl (by decide) rfl (fun ls hl => ?_)
                  refine lv_iinc (v := nI (j1 + 1)) (lv' := [(4, .int (nI (j1 + 1))), (2, .int x_15), (7, .int (nI j2)), (6, .int w3), (5, .int r_9), (3, .int w2), (0, .ref (a 29)), (1, .int (nI x1))]) hx hb dX0_lowerMedian_88 hl (k := 4) rfl (nI_1 j1) (by decide) rfl (fun ls hl => ?_)
                  refine lv_goto (tgt := 11) hx hb dX0_lowerMedian_91 (by decide) ?_
                  exact ih11 (j1 + 1) x_15 w2 H locs ls (by omega) (by omega)  (hP.sub [0] rfl)  hS (lv_sub hl [0, 5, 1, 6, 7] rfl)
                · refine lv_iload hx hb dX0_lowerMedian_77 (lv_at hl 2 rfl) ?_
                  refine lv_istore_n (lv' := [(3, .int r_9), (7, .int (nI j2)), (6, .int w3), (5, .int r_9), (4, .int (nI j1)), (2, .int w1), (0, .ref (a 29)), (1, .int (nI x1))]) hx hb dX0_lowerMedian_79 rfl hl (by decide) rfl (fun ls hl => ?_)
                  refine lv_goto (tgt := 88) hx hb dX0_lowerMedian_80 (by decide) ?_
                  refine lv_iinc (v := nI (j1 + 1)) (lv' := [(4, .int (nI (j1 + 1))), (3, .int r_9), (7, .int (nI j2)), (6, .int w3), (5, .int r_9), (2, .int w1), (0, .ref (a 29)), (1, .int (nI x1))]) hx hb dX0_lowerMedian_88 hl (k := 4) rfl (nI_1 j1) (by decide) rfl (fun ls hl => ?_)
                  refine lv_goto (tgt := 11) hx hb dX0_lowerMedian_91 (by decide) ?_
                  exact ih11 (j1 + 1) w1 r_9 H locs ls (by omega) (by omega)  (hP.sub [0] rfl)  hS (lv_sub hl [0, 1, 5, 6, 7] rfl)
              · have n_16 : j2 < x1 := (lf_X0_lowerMedian_d4_17 a d4 x1 hx1 j1 w1 w2 k11 hj11 hk11 c_1 n_4 c_6 x_7 ex_7 r_9 j2 w3 k38 hj38 hk38 c_10)
                refine lv_iload hx hb dX0_lowerMedian_44 (lv_at hl 1 rfl) ?_
                refine lv_aload_n hx hb dX0_lowerMedian_46 rfl (lv_at hl 6 rfl) ?_
                refine lv_iload hx hb dX0_lowerMedian_47 (lv_at hl 0 rfl) ?_
                refine ld_i hx hb hK hP 0 rfl (lf_X0_lowerMedian_d4_18 a d4 x1 hx1 j1 w1 w2 k11 hj11 hk11 c_1 n_4 c_6 x_7 ex_7 r_9 j2 w3 k38 hj38 hk38 c_10 n_16) dX0_lowerMedian_49 (fun x_19 => ?_)
                refine lv_iload hx hb dX0_lowerMedian_50 (lv_at hl 2 rfl) ?_
                refine lv_icmp_gt (tgt := 59) hx hb dX0_lowerMedian_52 (by decide) (fun c_20 => ?_) (fun c_20 => ?_)
                · refine lv_iconst (v := 0) hx hb dX0_lowerMedian_59 (by decide) ?_
                  refine lv_iadd hx hb dX0_lowerMedian_60 ?_
                  refine lv_topi (fun x_21 ex_21 => ?_)
                  refine lv_istore (lv' := [(6, .int x_21), (7, .int (nI j2)), (5, .int r_9), (4, .int (nI j1)), (3, .int w2), (2, .int w1), (0, .ref (a 29)), (1, .int (nI x1))]) hx hb dX0_lowerMedian_61 hl (by decide) rfl (fun ls hl => ?_)
                  refine lv_iinc (v := nI (j2 + 1)) (lv' := [(7, .int (nI (j2 + 1))), (6, .int x_21), (5, .int r_9), (4, .int (nI j1)), (3, .int w2), (2, .int w1), (0, .ref (a 29)), (1, .int (nI x1))]) hx hb dX0_lowerMedian_63 hl (k := 1) rfl (nI_1 j2) (by decide) rfl (fun ls hl => ?_)
                  refine lv_goto (tgt := 38) hx hb dX0_lowerMedian_66 (by decide) ?_
                  exact ih38 (j2 + 1) x_21 H locs ls (by omega) (by omega)  (hP.sub [0] rfl)  hS (lv_sub hl [0, 1, 2, 3, 4, 5, 6, 7] rfl)
                · refine lv_iconst (v := 1) hx hb dX0_lowerMedian_55 (by decide) ?_
                  refine lv_goto (tgt := 60) hx hb dX0_lowerMedian_56 (by decide) ?_
                  refine lv_iadd hx hb dX0_lowerMedian_60 ?_
                  refine lv_topi (fun x_22 ex_22 => ?_)
                  refine lv_istore (lv' := [(6, .int x_22), (7, .int (nI j2)), (5, .int r_9), (4, .int (nI j1)), (3, .int w2), (2, .int w1), (0, .ref (a 29)), (1, .int (nI x1))]) hx hb dX0_lowerMedian_61 hl (by decide) rfl (fun ls hl => ?_)
                  refine lv_iinc (v := nI (j2 + 1)) (lv' := [(7, .int (nI (j2 + 1))), (6, .int x_22), (5, .int r_9), (4, .int (nI j1)), (3, .int w2), (2, .int w1), (0, .ref (a 29)), (1, .int (nI x1))]) hx hb dX0_lowerMedian_63 hl (k := 1) rfl (nI_1 j2) (by decide) rfl (fun ls hl => ?_)
                  refine lv_goto (tgt := 38) hx hb dX0_lowerMedian_66 (by decide) ?_
                  exact ih38 (j2 + 1) x_22 H locs ls (by omega) (by omega)  (hP.sub [0] rfl)  hS (lv_sub hl [0, 1, 2, 3, 4, 5, 6, 7] rfl)
          exact lp38 (x1 + 1) 0 0 H locs ls (by omega) (by omega)  (hP.sub [0] rfl)  hS (lv_sub hl [0, 1, 2, 3, 4, 5, 6, 7] rfl)
  exact lp11 (15 + 1) 0 (-12000) 12000 H locs ls (by omega) (by omega)  (hP.sub [0] rfl)  hS (lv_sub hl [0, 1, 2, 3, 4] rfl)

theorem lf_X0_shift_1 (a : Nat → Nat) (dm : Nat) (d0 : Nat → Int32) (d1 : Nat → Int32) (d2 : Nat → Int32) (d3 : Nat → Int32) (x1 : Nat) (x2 : Nat) (n3 : Int32) (hdm : dm ≤ 4) (hx1 : x1 < dm) (hx2 : x2 < dm) : dm ≤ 4 := by
  first | assumption | omega | decide
theorem lf_X0_shift_2 (a : Nat → Nat) (dm : Nat) (d0 : Nat → Int32) (d1 : Nat → Int32) (d2 : Nat → Int32) (d3 : Nat → Int32) (x1 : Nat) (x2 : Nat) (n3 : Int32) (hdm : dm ≤ 4) (hx1 : x1 < dm) (hx2 : x2 < dm) : x1 < dm := by
  first | assumption | omega | decide
theorem lf_X0_shift_3 (a : Nat → Nat) (dm : Nat) (d0 : Nat → Int32) (d1 : Nat → Int32) (d2 : Nat → Int32) (d3 : Nat → Int32) (x1 : Nat) (x2 : Nat) (n3 : Int32) (hdm : dm ≤ 4) (hx1 : x1 < dm) (hx2 : x2 < dm) : x2 < dm := by
  first | assumption | omega | decide
theorem lf_X0_shift_7 (a : Nat → Nat) (dm : Nat) (d0 : Nat → Int32) (d1 : Nat → Int32) (d2 : Nat → Int32) (d3 : Nat → Int32) (x1 : Nat) (x2 : Nat) (n3 : Int32) (hdm : dm ≤ 4) (hx1 : x1 < dm) (hx2 : x2 < dm) (d3_5 : Nat → Int32) (mm_6 : Nat) (hmm_6 : mm_6 ≤ 384) : mm_6 ≤ 384 := by
  first | assumption | omega | decide
set_option maxHeartbeats 4000000 in
set_option maxRecDepth 100000 in
theorem c_X0_shift (l : Launch) (D : va_G) (cI cB cZ cJ : ClassId) (tx : List (ClassId × FieldType)) (a : Nat → Nat) (dm : Nat) (d0 : Nat → Int32) (d1 : Nat → Int32) (d2 : Nat → Int32) (d3 : Nat → Int32) (x1 : Nat) (x2 : Nat) (n3 : Int32) (hdm : dm ≤ 4) (hx1 : x1 < dm) (hx2 : x2 < dm) : WrI l D cI cB cZ cJ tx yX0_shift cX0_shift 4 (some .int) 4 0 0 [.ref (a 6), .int (nI x1), .int (nI x2), .int n3] [(a 6, .inr (0, [.ref (a 5), .ref (a 25), .ref (a 26), .ref (a 27), .ref (a 28), .ref (a 29), .int (nI dm)])), (a 25, .inl (cI, 1536, .inl d0)), (a 26, .inl (cI, 1536, .inl d1)), (a 27, .inl (cZ, 1536, .inl d2)), (a 28, .inl (cI, 384, .inl d3))] (fun (r : Int32) (v : (Nat → Int32)) => True) (fun v => [(a 6, .inr (0, [.ref (a 5), .ref (a 25), .ref (a 26), .ref (a 27), .ref (a 28), .ref (a 29), .int (nI dm)])), (a 25, .inl (cI, 1536, .inl d0)), (a 26, .inl (cI, 1536, .inl d1)), (a 27, .inl (cZ, 1536, .inl d2)), (a 28, .inl (cI, 384, .inl v))]) := by
  refine wri_of2 (by decide) (Nat.le_of_ble_eq_true rfl) ?_
  intro p e s m below meth c A ls H locs hC hK hP hD hA hS hl
  obtain ⟨hx, hb, hr, hml, hown, hts, hlocks, hin⟩ := hC
  have hown : s.vm.findClass RX0 = some m.cls := hown
  have hl : lv_has ls 4 [(0, .ref (a 6)), (1, .int (nI x1)), (2, .int (nI x2)), (3, .int n3)] := hl
  refine lv_aload_n hx hb dX0_shift_0 rfl (lv_at hl 0 rfl) ?_
  refine va_get (D := D) (ci := 0) (v := .ref (a 28)) (C := RX0) (T := TX0) (N := 7) hx hb hts inT_X0 hown hK.1 hP 0 rfl rfl 4 (by decide) (hts _ k_298) (fun _ h9 => h9) rfl dX0_shift_1 ?_
  refine lv_aload_n hx hb dX0_shift_4 rfl (lv_at hl 0 rfl) ?_
  refine lv_iload_n hx hb dX0_shift_5 rfl (lv_at hl 1 rfl) ?_
  refine lv_iload_n hx hb dX0_shift_6 rfl (lv_at hl 2 rfl) ?_
  refine lv_iload_n hx hb dX0_shift_7 rfl (lv_at hl 3 rfl) ?_
  refine lv_aload_n hx hb dX0_shift_8 rfl (lv_at hl 0 rfl) ?_
  refine va_get (D := D) (ci := 0) (v := .ref (a 28)) (C := RX0) (T := TX0) (N := 7) hx hb hts inT_X0 hown hK.1 hP 0 rfl rfl 4 (by decide) (hts _ k_298) (fun _ h9 => h9) rfl dX0_shift_9 ?_
  refine eWi (wr := []) (va_runV (As := [.int (nI x1), .int (nI x2), .int n3, .ref (a 28)]) (rest := [.ref (a 28)]) ⟨hx, hb, hml, hown, hts⟩ (c_X0_gather_d3 l D cI cB cZ cJ tx a dm d0 d1 d2 d3 x1 x2 n3 (lf_X0_shift_1 a dm d0 d1 d2 d3 x1 x2 n3 hdm hx1 hx2) (lf_X0_shift_2 a dm d0 d1 d2 d3 x1 x2 n3 hdm hx1 hx2) (lf_X0_shift_3 a dm d0 d1 d2 d3 x1 x2 n3 hdm hx1 hx2) H.size) (zV hts k_951 v_X0_gather ⟨Nat.le_of_ble_eq_true rfl, Nat.le_of_ble_eq_true rfl⟩) (pV (pxS hK hP hD [0, 1, 2, 3, 4] (by decide) rfl) hK hP 0 rfl rfl) rfl rfl hl.1 rfl (lv_room (Nat.le_of_ble_eq_true rfl)) dX0_shift_12 ⟨Nat.le_of_ble_eq_true rfl, Nat.le_of_ble_eq_true rfl⟩) hP hD hS hA [0, 1, 2, 3, 4] [] rfl rfl (by decide) (by decide) (fun r_4 u_5 H locs wr_4 hP hD hS => ?_)
  obtain ⟨d3_5, rfl⟩ : ∃ z, z = u_5 := ⟨_, rfl⟩
  have hP : va_P D vwCl [(a 6, .inr (0, [.ref (a 5), .ref (a 25), .ref (a 26), .ref (a 27), .ref (a 28), .ref (a 29), .int (nI dm)])), (a 25, .inl (cI, 1536, .inl d0)), (a 26, .inl (cI, 1536, .inl d1)), (a 27, .inl (cZ, 1536, .inl d2)), (a 28, .inl (cI, 384, .inl d3_5))] H := hP
  have hD : va_D A [(a 6, .inr (0, [.ref (a 5), .ref (a 25), .ref (a 26), .ref (a 27), .ref (a 28), .ref (a 29), .int (nI dm)])), (a 25, .inl (cI, 1536, .inl d0)), (a 26, .inl (cI, 1536, .inl d1)), (a 27, .inl (cZ, 1536, .inl d2)), (a 28, .inl (cI, 384, .inl d3_5))] := hD
  rcases wr_4 with ⟨mm_6, hmm_6, rfl⟩
  · refine eRi (va_runS (As := [.ref (a 28), .int (nI mm_6)]) (rest := []) ⟨hx, hb, hml, hown, hts⟩ (c_X0_lowerMedian_d3 l D cI cB cZ cJ tx a d3_5 mm_6 (lf_X0_shift_7 a dm d0 d1 d2 d3 x1 x2 n3 hdm hx1 hx2 d3_5 mm_6 hmm_6) H.size) (zS hts k_960 v_X0_lowerMedian ⟨Nat.le_of_ble_eq_true rfl, Nat.le_of_ble_eq_true rfl⟩) (px1 hK hP 4 rfl) rfl rfl hl.1 rfl (lv_room (Nat.le_of_ble_eq_true rfl)) dX0_shift_15 ⟨Nat.le_of_ble_eq_true rfl, Nat.le_of_ble_eq_true rfl⟩) hP hS hA (fun r_8 H locs wr_8 hP hS => ?_)
    exact W.iret (v := r_8) hx hb hr (fun tt9 ht hW => ⟨⟨(r_8 : Int32), ((d3_5 : Nat → Int32)), rfl, trivial, ⟨by rw [ht]; exact hP, hD⟩⟩, hS.F ht⟩) hS.2.2 dX0_shift_18 hlocks
