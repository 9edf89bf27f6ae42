/-! roots, lengths, planks of the reference -/
def BL : Nat → Int64
  | 0 => 0
  | k + 1 => lN (2 ^ k)
theorem BL_shr : ∀ k, k < 21 → BL (k + 1) >>> ((1 : Int32).toInt64 &&& 63) = BL k := by decide +kernel
theorem BL_pos : ∀ k, k < 21 → ¬ lg_cmp (BL (k + 1)) 0 ≤ 0 := by decide +kernel
def rF (v : Int64) : Nat → Int64 → Int64
  | 0, r => r
  | k + 1, r => rF v k (if 0 < lg_cmp ((r + BL (k + 1)) * (r + BL (k + 1))) v then r else r + BL (k + 1))
theorem rF_pos {v r : Int64} {k : Nat} (h : 0 < lg_cmp ((r + BL (k + 1)) * (r + BL (k + 1))) v) : rF v (k + 1) r = rF v k r := by
  show rF v k (if _ then _ else _) = _
  rw [if_pos h]
theorem rF_neg {v r : Int64} {k : Nat} (h : ¬ 0 < lg_cmp ((r + BL (k + 1)) * (r + BL (k + 1))) v) : rF v (k + 1) r = rF v k (r + BL (k + 1)) := by
  show rF v k (if _ then _ else _) = _
  rw [if_neg h]
theorem rF_sP {v r x1 x2 x3 R : Int64} {k : Nat} (h : 0 < lg_cmp x3 v) (e3 : x3 = x1 * x2) (e1 : x1 = r + BL (k + 1)) (e2 : x2 = r + BL (k + 1)) (hr : R = rF v (k + 1) r) : R = rF v k r := by
  subst e3 e1 e2
  rw [hr]; exact rF_pos h
theorem rF_sN {v r x1 x2 x3 x4 R : Int64} {k : Nat} (h : ¬ 0 < lg_cmp x3 v) (e3 : x3 = x1 * x2) (e1 : x1 = r + BL (k + 1)) (e2 : x2 = r + BL (k + 1)) (hr : R = rF v (k + 1) r) (e4 : x4 = r + BL (k + 1)) : R = rF v k x4 := by
  subst e3 e1 e2
  rw [hr, e4]; exact rF_neg h
def rootF (v : Int64) : Int32 := (rF v 21 0).toInt32
def partF (bt : Nat → Int32) (pi : Int32) (s f : Nat) : Int32 := rootF (pi.toInt64 * pi.toInt64 + (bt (24 * s + (f + 1)) - bt (24 * s + f)).toInt64 * (bt (24 * s + (f + 1)) - bt (24 * s + f)).toInt64)
def lenR (bt : Nat → Int32) (pi : Int32) (s f : Nat) : Nat → Int32
  | 0 => 0
  | n + 1 => lenR bt pi s f n + partF bt pi s (f + n)
def lenF (bt : Nat → Int32) (pi : Int32) (s f g : Nat) : Int32 := lenR bt pi s f (g - f)
theorem lenF_step {bt : Nat → Int32} {pi w x : Int32} {s f j : Nat} (h : w = lenR bt pi s f (j - f)) (hj : f ≤ j) (e : x = w + partF bt pi s j) : x = lenR bt pi s f (j + 1 - f) := by
  obtain ⟨n, rfl⟩ : ∃ n, j = f + n := ⟨j - f, by omega⟩
  rw [e, h, show f + n + 1 - f = n + 1 by omega, show f + n - f = n by omega]
  rfl
def hasF (v : Int64) (n : Int32) : Int32 := if lg_cmp ((v >>> (n.toInt64 &&& 63)) &&& 1) 1 = 0 then 1 else 0
def mjF (jb : Int32) (ms g : Nat) : Int32 := if 0 < g ∧ g < ms - 1 ∧ hasF jb.toInt64 (nI (g - 1)) = 0 ∧ hasF jb.toInt64 (nI g) = 0 ∧ hasF jb.toInt64 (nI (g + 1)) = 0 then 1 else 0
theorem sub_nz {a b x : Int32} (e : x = b - a) (h : a < b) : ¬ x = 0 := by
  intro q
  have h2 : b - a = 0 := e.symm.trans q
  have h1 : b = a := by
    have h3 : b - a + a = 0 + a := by rw [h2]
    simpa using h3
  rw [h1] at h
  exact absurd h (by simp)
def QL (fe : Nat → Int32) (L : Nat → Nat → Int32) (J : Nat → Int32) (most : Int32) (last k : Nat) : Prop := fe last = 0 ∧ ∀ f, k ≤ f → f < last → 0 < fe f → ∃ g, f < g ∧ g < last ∧ ¬ J g = 0 ∧ fe g = fe f - 1 ∧ L f g ≤ most
def QI (fe : Nat → Int32) (L : Nat → Nat → Int32) (J : Nat → Int32) (most : Int32) (last f j : Nat) : Prop := fe f = -1 ∨ ∃ g, f < g ∧ g < j ∧ ((g = last ∧ fe f = 0) ∨ (g < last ∧ ¬ J g = 0 ∧ fe f = fe g + 1 ∧ L f g ≤ most))
section PLANK
variable {fe fe1 : Nat → Int32} {L : Nat → Nat → Int32} {J : Nat → Int32} {most x : Int32} {last k f j : Nat}
theorem QL.top (e : fe1 = upd fe last 0) (hk : last ≤ k) : QL fe1 L J most last k := ⟨by rw [e]; exact pk_us, fun f h1 h2 => by omega⟩
theorem QL.keep (h : QL fe L J most last (f + 1)) (e : fe1 = upd fe f x) (hf : f < last) : QL fe1 L J most last (f + 1) := by
  refine ⟨by rw [e, pk_un (by omega)]; exact h.1, fun f' h1 h2 h3 => ?_⟩
  rw [e, pk_un (by omega)] at h3
  obtain ⟨g, a1, a2, a3, a4, a5⟩ := h.2 f' h1 h2 h3
  exact ⟨g, a1, a2, a3, by rw [e, pk_un (by omega), pk_un (by omega)]; exact a4, a5⟩
theorem QI.start (e : fe1 = upd fe f (-1)) : QI fe1 L J most last f j := Or.inl (by rw [e]; exact pk_us)
theorem QI.skip (h : QI fe L J most last f j) : QI fe L J most last f (j + 1) := h.elim Or.inl (fun ⟨g, a, b, c⟩ => Or.inr ⟨g, a, by omega, c⟩)
theorem QI.same (h : QI fe L J most last f j) (e : fe1 = upd fe f (fe f)) : QI fe1 L J most last f (j + 1) := by
  have q : fe1 = fe := by
    rw [e]; funext i
    show (if i = f then fe f else fe i) = fe i
    split
    · rename_i h; rw [h]
    · rfl
  rw [q]
  exact h.skip
theorem QI.mid (e : fe1 = upd fe f x) (ex : x = fe j + 1) (h1 : f < j) (h2 : j < last) (h3 : ¬ J j = 0) (h4 : L f j ≤ most) : QI fe1 L J most last f (j + 1) := by
  refine Or.inr ⟨j, h1, by omega, Or.inr ⟨h2, h3, ?_, h4⟩⟩
  rw [e, pk_us, pk_un (by omega)]; exact ex
theorem QI.lst (hq : QL fe L J most last (f + 1)) (e : fe1 = upd fe f x) (ex : x = fe j + 0) (h1 : f < j) (h2 : j = last) : QI fe1 L J most last f (j + 1) := by
  refine Or.inr ⟨j, h1, by omega, Or.inl ⟨h2, ?_⟩⟩
  rw [e, pk_us, ex, h2, hq.1]
  decide
theorem QL.next (hq : QL fe L J most last (f + 1)) (hi : QI fe L J most last f j) : QL fe L J most last f := by
  refine ⟨hq.1, fun f' h1 h2 h3 => ?_⟩
  by_cases q : f' = f
  · subst q
    rcases hi with hi | ⟨g, a, b, c | ⟨c1, c2, c3, c4⟩⟩
    · rw [hi] at h3; exact absurd h3 (by decide)
    · rw [c.2] at h3; exact absurd h3 (by decide)
    · refine ⟨g, a, c1, c2, ?_, c4⟩
      rw [c3]
      apply Int32.toBitVec_inj.mp
      rw [Int32.toBitVec_sub, Int32.toBitVec_add, BitVec.add_sub_cancel]
  · exact hq.2 f' (by omega) h2 h3
end PLANK
theorem lf_X12_rootOf_2 (v1 : Int64) (rr : Int64) (hk7 : 0 ≤ 21) (hrr : rF v1 21 0 = rF v1 0 rr) (x_1 : Int32) (ex_1 : x_1 = (rr).toInt32) : (x_1 : Int32) = rootF v1 := by
  subst_vars; rfl
theorem lf_X12_rootOf_4 (v1 : Int64) (kd : Nat) (rr : Int64) (hk7 : (kd + 1) ≤ 21) (hrr : rF v1 21 0 = rF v1 (kd + 1) rr) (c_3 : lg_cmp (BL (kd + 1)) 0 ≤ 0) : False := by
  exact BL_pos kd (by omega) c_3
theorem lf_X12_rootOf_10 (v1 : Int64) (kd : Nat) (rr : Int64) (hk7 : (kd + 1) ≤ 21) (hrr : rF v1 21 0 = rF v1 (kd + 1) rr) (c_3 : ¬ lg_cmp (BL (kd + 1)) 0 ≤ 0) (x_5 : Int64) (ex_5 : x_5 = rr + BL (kd + 1)) (x_6 : Int64) (ex_6 : x_6 = rr + BL (kd + 1)) (x_7 : Int64) (ex_7 : x_7 = x_5 * x_6) (c_8 : 0 < lg_cmp x_7 v1) (x_9 : Int64) (ex_9 : x_9 = BL (kd + 1) >>> (((1 : Int32)).toInt64 &&& 63)) : rF v1 21 0 = rF v1 kd rr := by
  first | exact rF_sP (by assumption) (by assumption) (by assumption) (by assumption) hrr | exact rF_sN (by assumption) (by assumption) (by assumption) (by assumption) hrr (by assumption)
theorem lf_X12_rootOf_11 (v1 : Int64) (kd : Nat) (rr : Int64) (hk7 : (kd + 1) ≤ 21) (hrr : rF v1 21 0 = rF v1 (kd + 1) rr) (c_3 : ¬ lg_cmp (BL (kd + 1)) 0 ≤ 0) (x_5 : Int64) (ex_5 : x_5 = rr + BL (kd + 1)) (x_6 : Int64) (ex_6 : x_6 = rr + BL (kd + 1)) (x_7 : Int64) (ex_7 : x_7 = x_5 * x_6) (c_8 : 0 < lg_cmp x_7 v1) (x_9 : Int64) (ex_9 : x_9 = BL (kd + 1) >>> (((1 : Int32)).toInt64 &&& 63)) : kd ≤ 21 := by
  omega
theorem lf_X12_rootOf_14 (v1 : Int64) (kd : Nat) (rr : Int64) (hk7 : (kd + 1) ≤ 21) (hrr : rF v1 21 0 = rF v1 (kd + 1) rr) (c_3 : ¬ lg_cmp (BL (kd + 1)) 0 ≤ 0) (x_5 : Int64) (ex_5 : x_5 = rr + BL (kd + 1)) (x_6 : Int64) (ex_6 : x_6 = rr + BL (kd + 1)) (x_7 : Int64) (ex_7 : x_7 = x_5 * x_6) (c_8 : ¬ 0 < lg_cmp x_7 v1) (x_12 : Int64) (ex_12 : x_12 = rr + BL (kd + 1)) (x_13 : Int64) (ex_13 : x_13 = BL (kd + 1) >>> (((1 : Int32)).toInt64 &&& 63)) : rF v1 21 0 = rF v1 kd x_12 := by
  first | exact rF_sP (by assumption) (by assumption) (by assumption) (by assumption) hrr | exact rF_sN (by assumption) (by assumption) (by assumption) (by assumption) hrr (by assumption)
theorem lf_X12_rootOf_15 (v1 : Int64) (kd : Nat) (rr : Int64) (hk7 : (kd + 1) ≤ 21) (hrr : rF v1 21 0 = rF v1 (kd + 1) rr) (c_3 : ¬ lg_cmp (BL (kd + 1)) 0 ≤ 0) (x_5 : Int64) (ex_5 : x_5 = rr + BL (kd + 1)) (x_6 : Int64) (ex_6 : x_6 = rr + BL (kd + 1)) (x_7 : Int64) (ex_7 : x_7 = x_5 * x_6) (c_8 : ¬ 0 < lg_cmp x_7 v1) (x_12 : Int64) (ex_12 : x_12 = rr + BL (kd + 1)) (x_13 : Int64) (ex_13 : x_13 = BL (kd + 1) >>> (((1 : Int32)).toInt64 &&& 63)) : kd ≤ 21 := by
  omega
theorem lf_X12_rootOf_16 (v1 : Int64) : rF v1 21 0 = rF v1 (20 + 1) (0 : Int64) := by
  rfl
theorem lf_X12_rootOf_17 (v1 : Int64) : (20 + 1) ≤ 21 := by
  omega
set_option maxHeartbeats 4000000 in
set_option maxRecDepth 100000 in
theorem c_X12_rootOf (l : Launch) (D : va_G) (cI cB cZ cJ : ClassId) (tx : List (ClassId × FieldType)) (v1 : Int64) : RdI l D cI cB cZ cJ tx yX12_rootOf cX12_rootOf 6 (some .int) 0 [.long v1] [] (fun r => r = rootF v1) := by
  refine rdi_of2 (by decide) (Nat.le_of_ble_eq_true rfl) ?_
  intro p e s m below meth c A ls H locs hC hK hP hD hA hS hl
  obtain ⟨hx, hb, hr, hml, hown, hts, hlocks, hin⟩ := hC
  have hown : s.vm.findClass RX12 = some m.cls := hown
  have hl : lv_has ls 6 [(0, .long v1)] := hl
  refine lv_lconst (v := 0) hx hb dX12_rootOf_0 (by decide) ?_
  refine lv_lstore_n (lv' := [(2, .long 0), (0, .long v1)]) hx hb dX12_rootOf_1 rfl hl (by decide) rfl (fun ls hl => ?_)
  refine lv_ldc2 (v := 1048576) hx hb hown (hts _ k_2085) dX12_rootOf_2 ?_
  refine lv_lstore (lv' := [(4, .long 1048576), (2, .long 0), (0, .long v1)]) hx hb dX12_rootOf_5 hl (by decide) rfl (fun ls hl => ?_)
  have lp7 : ∀ (kd : Nat) (rr : Int64) (H : Heap) (locs : List Loc) (ls : Array Slot), kd ≤ 21 → (rF v1 21 0 = rF v1 kd rr) → va_P D vwCl [] H → va_S A s.heap H locs → lv_has ls 6 [(4, .long (BL kd)), (2, .long rr), (0, .long v1)] → W p l e (rmX 0 0 0) s m ([.long v1] : List Value).toArray below meth c H locs 0 0 (MQ below (va_Qi (fun r (_ : Unit) => (fun r => r = rootF v1) r) (fun _ _ => True) A) ([.long v1] : List Value).toArray s 0 0 A) (F0 m 7 ls []) := by
    intro kd
    induction kd with
    | zero =>
      intro rr H locs ls hk7 hrr hP hS hl
      have hl : lv_has ls 6 [(4, .long 0), (2, .long rr), (0, .long v1)] := by rw [show BL 0 = (0 : Int64) from rfl] at hl; exact hl
      refine lv_lload hx hb dX12_rootOf_7 (lv_at hl 0 rfl) ?_
      refine lv_lconst (v := 0) hx hb dX12_rootOf_9 (by decide) ?_
      refine W.lcmp hx hb dX12_rootOf_10 ?_
      refine lv_topv (y := 0) (by decide) ?_
      refine lv_if_le (tgt := 42) hx hb dX12_rootOf_11 (by decide) (fun _ => ?_) (fun c => absurd c (by decide))
      refine lv_lload_n hx hb dX12_rootOf_42 rfl (lv_at hl 1 rfl) ?_
      refine lv_l2i hx hb dX12_rootOf_43 rfl ?_
      refine lv_topi (fun x_1 ex_1 => ?_)
      exact W.iret (v := x_1) hx hb hr (fun tt9 ht hW => ⟨⟨(x_1 : Int32), (), rfl, (lf_X12_rootOf_2 v1 rr hk7 hrr x_1 ex_1), trivial⟩, hS.F ht⟩) hS.2.2 dX12_rootOf_44 hlocks
    | succ kd ih7 =>
      intro rr H locs ls hk7 hrr hP hS hl
      refine lv_lload hx hb dX12_rootOf_7 (lv_at hl 0 rfl) ?_
      refine lv_lconst (v := 0) hx hb dX12_rootOf_9 (by decide) ?_
      refine W.lcmp hx hb dX12_rootOf_10 ?_
      refine lv_if_le (tgt := 42) hx hb dX12_rootOf_11 (by decide) (fun c_3 => absurd (lf_X12_rootOf_4 v1 kd rr hk7 hrr c_3) id) (fun c_3 => ?_)
      refine lv_lload_n hx hb dX12_rootOf_14 rfl (lv_at hl 1 rfl) ?_
      refine lv_lload hx hb dX12_rootOf_15 (lv_at hl 0 rfl) ?_
      refine lv_ladd hx hb dX12_rootOf_17 ?_
      refine lv_topl (fun x_5 ex_5 => ?_)
      refine lv_lload_n hx hb dX12_rootOf_18 rfl (lv_at hl 1 rfl) ?_
      refine lv_lload hx hb dX12_rootOf_19 (lv_at hl 0 rfl) ?_
      refine lv_ladd hx hb dX12_rootOf_21 ?_
      refine lv_topl (fun x_6 ex_6 => ?_)
      refine lv_lmul hx hb dX12_rootOf_22 ?_
      refine lv_topl (fun x_7 ex_7 => ?_)
      refine lv_lload_n hx hb dX12_rootOf_23 rfl (lv_at hl 2 rfl) ?_
      refine W.lcmp hx hb dX12_rootOf_24 ?_
      refine lv_if_gt (tgt := 33) hx hb dX12_rootOf_25 (by decide) (fun c_8 => ?_) (fun c_8 => ?_)
      · refine lv_lload hx hb dX12_rootOf_33 (lv_at hl 0 rfl) ?_
        refine lv_iconst (v := 1) hx hb dX12_rootOf_35 (by decide) ?_
        refine lv_lshr hx hb dX12_rootOf_36 rfl ?_
        refine lv_topl (fun x_9 ex_9 => ?_)
        obtain rfl : x_9 = BL kd := ex_9.trans (BL_shr kd (by omega))
        refine lv_lstore (lv' := [(4, .long (BL kd)), (2, .long rr), (0, .long v1)]) hx hb dX12_rootOf_37 hl (by decide) rfl (fun ls hl => ?_)
        refine lv_goto (tgt := 7) hx hb dX12_rootOf_39 (by decide) ?_
        exact ih7 rr H locs ls (lf_X12_rootOf_11 v1 kd rr hk7 hrr c_3 x_5 ex_5 x_6 ex_6 x_7 ex_7 c_8 (BL kd) ex_9) (lf_X12_rootOf_10 v1 kd rr hk7 hrr c_3 x_5 ex_5 x_6 ex_6 x_7 ex_7 c_8 (BL kd) ex_9) (hP.sub [] rfl)  hS (lv_sub hl [0, 1, 2] rfl)
      · refine lv_lload_n hx hb dX12_rootOf_28 rfl (lv_at hl 1 rfl) ?_
        refine lv_lload hx hb dX12_rootOf_29 (lv_at hl 0 rfl) ?_
        refine lv_ladd hx hb dX12_rootOf_31 ?_
        refine lv_topl (fun x_12 ex_12 => ?_)
        refine lv_lstore_n (lv' := [(2, .long x_12), (4, .long (BL (kd + 1))), (0, .long v1)]) hx hb dX12_rootOf_32 rfl hl (by decide) rfl (fun ls hl => ?_)
        refine lv_lload hx hb dX12_rootOf_33 (lv_at hl 1 rfl) ?_
        refine lv_iconst (v := 1) hx hb dX12_rootOf_35 (by decide) ?_
        refine lv_lshr hx hb dX12_rootOf_36 rfl ?_
        refine lv_topl (fun x_13 ex_13 => ?_)
        obtain rfl : x_13 = BL kd := ex_13.trans (BL_shr kd (by omega))
        refine lv_lstore (lv' := [(4, .long (BL kd)), (2, .long x_12), (0, .long v1)]) hx hb dX12_rootOf_37 hl (by decide) rfl (fun ls hl => ?_)
        refine lv_goto (tgt := 7) hx hb dX12_rootOf_39 (by decide) ?_
        exact ih7 x_12 H locs ls (lf_X12_rootOf_15 v1 kd rr hk7 hrr c_3 x_5 ex_5 x_6 ex_6 x_7 ex_7 c_8 x_12 ex_12 (BL kd) ex_13) (lf_X12_rootOf_14 v1 kd rr hk7 hrr c_3 x_5 ex_5 x_6 ex_6 x_7 ex_7 c_8 x_12 ex_12 (BL kd) ex_13) (hP.sub [] rfl)  hS (lv_sub hl [0, 1, 2] rfl)
  have hl : lv_has ls 6 [(4, .long (BL (20 + 1))), (2, .long 0), (0, .long v1)] := by rw [show BL (20 + 1) = (1048576 : Int64) from by decide]; exact hl
  exact lp7 (20 + 1) 0 H locs ls (lf_X12_rootOf_17 v1) (lf_X12_rootOf_16 v1) (hP.sub [] rfl)  hS (lv_sub hl [0, 1, 2] rfl)

theorem lf_X12_pace_3 (h : Nat) (q : Nat → Nat) (im : Nat → Int32) (ms : Nat) (n1 : Int32) (hf_ms : im 2 = nI ms) (hms : ms ≤ 24) (c_1 : nI ms ≤ 0) : ms ≤ 0 := by
  exact (nI_leI (a := ms) (b := 0) (by omega) (by omega)).mp c_1
theorem lf_X12_pace_5 (h : Nat) (q : Nat → Nat) (im : Nat → Int32) (ms : Nat) (n1 : Int32) (hf_ms : im 2 = nI ms) (hms : ms ≤ 24) (c_1 : ¬ nI ms ≤ 0) : 0 < ms := by
  exact Nat.lt_of_not_le (fun q => c_1 ((nI_leI (a := ms) (b := 0) (by omega) (by omega)).mpr q))
set_option maxHeartbeats 4000000 in
set_option maxRecDepth 100000 in
theorem c_X12_pace (l : Launch) (D : va_G) (cI cB cZ cJ : ClassId) (tx : List (ClassId × FieldType)) (h : Nat) (q : Nat → Nat) (im : Nat → Int32) (ms : Nat) (n1 : Int32) (hf_ms : im 2 = nI ms) (hms : ms ≤ 24) : RdI l D cI cB cZ cJ tx yX12_pace cX12_pace 2 (some .int) 1 [.ref h, .int n1] [(h, .inr (12, mG q im))] (fun r => True) := by
  refine rdi_of2 (by decide) (Nat.le_of_ble_eq_true rfl) ?_
  intro p e s m below meth c A ls H locs hC hK hP hD hA hS hl
  obtain ⟨hx, hb, hr, hml, hown, hts, hlocks, hin⟩ := hC
  have hown : s.vm.findClass RX12 = some m.cls := hown
  have hl : lv_has ls 2 [(0, .ref h), (1, .int n1)] := hl
  refine lv_aload_n hx hb dX12_pace_0 rfl (lv_at hl 0 rfl) ?_
  refine va_get (D := D) (ci := 12) (v := .int (im 2)) (C := RX12) (T := TX12) (N := 81) hx hb hts inT_X12 hown hK.1 hP 0 rfl rfl 2 (by decide) (hts _ k_1355) (fun _ h9 => h9) rfl dX12_pace_1 ?_
  refine lv_topv (y := nI ms) hf_ms ?_
  refine lv_if_le (tgt := 41) hx hb dX12_pace_4 (by decide) (fun c_1 => ?_) (fun c_1 => ?_)
  · have n_2 : ms ≤ 0 := (lf_X12_pace_3 h q im ms n1 hf_ms hms c_1)
    refine lv_iconst (v := (-1)) hx hb dX12_pace_41 (by decide) ?_
    exact W.iret (v := (-1)) hx hb hr (fun tt9 ht hW => ⟨⟨((-1) : Int32), (), rfl, trivial, trivial⟩, hS.F ht⟩) hS.2.2 dX12_pace_42 hlocks
  · have n_4 : 0 < ms := (lf_X12_pace_5 h q im ms n1 hf_ms hms c_1)
    refine lv_iload_n hx hb dX12_pace_7 rfl (lv_at hl 1 rfl) ?_
    refine lv_i2l (v := n1.toInt64) hx hb dX12_pace_8 rfl ?_
    refine lv_lconst (v := 1) hx hb dX12_pace_9 (by decide) ?_
    refine lv_ldc2 (v := 1000) hx hb hown (hts _ k_1601) dX12_pace_10 ?_
    refine eRi (va_runS (As := [.long n1.toInt64, .long 1, .long 1000]) (rest := []) ⟨hx, hb, hml, hown, hts⟩ (c_X12_isIn l D cI cB cZ cJ tx n1.toInt64 1 1000 H.size) (zS hts k_1602 v_X12_isIn ⟨Nat.le_of_ble_eq_true rfl, Nat.le_of_ble_eq_true rfl⟩) (px0 hK) rfl rfl hl.1 rfl (lv_room (Nat.le_of_ble_eq_true rfl)) dX12_pace_13 ⟨Nat.le_of_ble_eq_true rfl, Nat.le_of_ble_eq_true rfl⟩) hP hS hA (fun r_6 H locs wr_6 hP hS => ?_)
    have wr_6 : r_6 = bi ((1 : Int32) ≤ n1 ∧ n1 ≤ 1000) := isIn32 (lo := 1) (hi := 1000) (by decide) (by decide) wr_6
    subst wr_6
    refine lv_bi_eq (tgt := 41) hx hb dX12_pace_16 (by decide) (fun c_7 => ?_) (fun c_7 => ?_)
    · refine lv_iconst (v := (-1)) hx hb dX12_pace_41 (by decide) ?_
      exact W.iret (v := (-1)) hx hb hr (fun tt9 ht hW => ⟨⟨((-1) : Int32), (), rfl, trivial, trivial⟩, hS.F ht⟩) hS.2.2 dX12_pace_42 hlocks
    · obtain ⟨tn1, tn1a, tn1b, tn1e⟩ := of_rng 1 1000 rfl rfl c_7
      subst tn1e
      refine lv_iload_n hx hb dX12_pace_19 rfl (lv_at hl 1 rfl) ?_
      refine lv_i2l (v := (nI tn1).toInt64) hx hb dX12_pace_20 rfl ?_
      refine lv_aload_n hx hb dX12_pace_21 rfl (lv_at hl 0 rfl) ?_
      refine va_get (D := D) (ci := 12) (v := .int (im 2)) (C := RX12) (T := TX12) (N := 81) hx hb hts inT_X12 hown hK.1 hP 0 rfl rfl 2 (by decide) (hts _ k_1355) (fun _ h9 => h9) rfl dX12_pace_22 ?_
      refine lv_topv (y := nI ms) hf_ms ?_
      refine lv_iconst (v := 1) hx hb dX12_pace_25 (by decide) ?_
      refine lv_isub hx hb dX12_pace_26 ?_
      refine lv_i2l (v := (nI ms - 1).toInt64) hx hb dX12_pace_27 rfl ?_
      refine lv_lmul hx hb dX12_pace_28 ?_
      refine lv_topl (fun x_8 ex_8 => ?_)
      refine lv_aload_n hx hb dX12_pace_29 rfl (lv_at hl 0 rfl) ?_
      refine va_get (D := D) (ci := 12) (v := .int (im 4)) (C := RX12) (T := TX12) (N := 81) hx hb hts inT_X12 hown hK.1 hP 0 rfl rfl 4 (by decide) (hts _ k_1357) (fun _ h9 => h9) rfl dX12_pace_30 ?_
      refine lv_i2l (v := (im 4).toInt64) hx hb dX12_pace_33 rfl ?_
      refine lv_lmul hx hb dX12_pace_34 ?_
      refine lv_topl (fun x_9 ex_9 => ?_)
      refine eRi (va_runS (As := [.long x_9]) (rest := []) ⟨hx, hb, hml, hown, hts⟩ (c_X12_rootOf l D cI cB cZ cJ tx x_9 H.size) (zS hts k_2082 v_X12_rootOf ⟨Nat.le_of_ble_eq_true rfl, Nat.le_of_ble_eq_true rfl⟩) (px0 hK) rfl rfl hl.1 rfl (lv_room (Nat.le_of_ble_eq_true rfl)) dX12_pace_35 ⟨Nat.le_of_ble_eq_true rfl, Nat.le_of_ble_eq_true rfl⟩) hP hS hA (fun r_10 H locs wr_10 hP hS => ?_)
      subst wr_10
      refine lv_goto (tgt := 42) hx hb dX12_pace_38 (by decide) ?_
      exact W.iret (v := rootF x_9) hx hb hr (fun tt9 ht hW => ⟨⟨(rootF x_9 : Int32), (), rfl, trivial, trivial⟩, hS.F ht⟩) hS.2.2 dX12_pace_42 hlocks

theorem lf_X12_partOf_1 (h : Nat) (q : Nat → Nat) (im : Nat → Int32) (mp : Int32) (m_batten : Nat → Int32) (s1 : Nat) (f1 : Nat) (hf_mp : im 4 = mp) (hs1 : s1 < 8) (hf1 : f1 + 1 < 24) : s1 < 8 := by
  first | assumption | omega | decide | rfl
theorem lf_X12_partOf_2 (h : Nat) (q : Nat → Nat) (im : Nat → Int32) (mp : Int32) (m_batten : Nat → Int32) (s1 : Nat) (f1 : Nat) (hf_mp : im 4 = mp) (hs1 : s1 < 8) (hf1 : f1 + 1 < 24) : (f1 + 1) < 24 := by
  first | assumption | omega | decide | rfl
theorem lf_X12_partOf_4 (h : Nat) (q : Nat → Nat) (im : Nat → Int32) (mp : Int32) (m_batten : Nat → Int32) (s1 : Nat) (f1 : Nat) (hf_mp : im 4 = mp) (hs1 : s1 < 8) (hf1 : f1 + 1 < 24) : s1 < 8 := by
  first | assumption | omega | decide | rfl
theorem lf_X12_partOf_5 (h : Nat) (q : Nat → Nat) (im : Nat → Int32) (mp : Int32) (m_batten : Nat → Int32) (s1 : Nat) (f1 : Nat) (hf_mp : im 4 = mp) (hs1 : s1 < 8) (hf1 : f1 + 1 < 24) : f1 < 24 := by
  first | assumption | omega | decide | rfl
theorem lf_X12_partOf_12 (h : Nat) (q : Nat → Nat) (im : Nat → Int32) (mp : Int32) (m_batten : Nat → Int32) (s1 : Nat) (f1 : Nat) (hf_mp : im 4 = mp) (hs1 : s1 < 8) (hf1 : f1 + 1 < 24) (x_7 : Int32) (ex_7 : x_7 = m_batten (24 * s1 + ((f1 + 1))) - m_batten (24 * s1 + f1)) (x_8 : Int64) (ex_8 : x_8 = mp.toInt64 * mp.toInt64) (x_9 : Int64) (ex_9 : x_9 = x_7.toInt64 * x_7.toInt64) (x_10 : Int64) (ex_10 : x_10 = x_8 + x_9) : (rootF x_10 : Int32) = partF m_batten mp s1 f1 := by
  subst_vars; rfl
set_option maxHeartbeats 4000000 in
set_option maxRecDepth 100000 in
theorem c_X12_partOf (l : Launch) (D : va_G) (cI cB cZ cJ : ClassId) (tx : List (ClassId × FieldType)) (h : Nat) (q : Nat → Nat) (im : Nat → Int32) (mp : Int32) (m_batten : Nat → Int32) (s1 : Nat) (f1 : Nat) (hf_mp : im 4 = mp) (hs1 : s1 < 8) (hf1 : f1 + 1 < 24) : RdI l D cI cB cZ cJ tx yX12_partOf cX12_partOf 5 (some .int) 1 [.ref h, .int (nI s1), .int (nI f1)] [(h, .inr (12, mG q im)), (q 68, .inl (cI, 192, .inl m_batten))] (fun r => r = partF m_batten mp s1 f1) := by
  refine rdi_of2 (by decide) (Nat.le_of_ble_eq_true rfl) ?_
  intro p e s m below meth c A ls H locs hC hK hP hD hA hS hl
  obtain ⟨hx, hb, hr, hml, hown, hts, hlocks, hin⟩ := hC
  have hown : s.vm.findClass RX12 = some m.cls := hown
  have hl : lv_has ls 5 [(0, .ref h), (1, .int (nI s1)), (2, .int (nI f1))] := hl
  refine lv_aload_n hx hb dX12_partOf_0 rfl (lv_at hl 0 rfl) ?_
  refine lv_iload_n hx hb dX12_partOf_1 rfl (lv_at hl 1 rfl) ?_
  refine lv_iload_n hx hb dX12_partOf_2 rfl (lv_at hl 2 rfl) ?_
  refine lv_iconst (v := 1) hx hb dX12_partOf_3 (by decide) ?_
  refine lv_iadd hx hb dX12_partOf_4 ?_
  refine lv_topv (y := nI (f1 + 1)) (nI_add f1 1) ?_
  refine eRi (va_runV (As := [.int (nI s1), .int (nI (f1 + 1))]) (rest := []) ⟨hx, hb, hml, hown, hts⟩ (c_X12_bentAt l D cI cB cZ cJ tx h q im m_batten s1 (f1 + 1) (lf_X12_partOf_1 h q im mp m_batten s1 f1 hf_mp hs1 hf1) (lf_X12_partOf_2 h q im mp m_batten s1 f1 hf_mp hs1 hf1) H.size) (zV hts k_1957 v_X12_bentAt ⟨Nat.le_of_ble_eq_true rfl, Nat.le_of_ble_eq_true rfl⟩) (pV (pxS hK hP hD [0, 1] (by decide) rfl) hK hP 0 rfl rfl) rfl rfl hl.1 rfl (lv_room (Nat.le_of_ble_eq_true rfl)) dX12_partOf_5 ⟨Nat.le_of_ble_eq_true rfl, Nat.le_of_ble_eq_true rfl⟩) hP hS hA (fun r_3 H locs wr_3 hP hS => ?_)
  subst wr_3
  refine lv_aload_n hx hb dX12_partOf_8 rfl (lv_at hl 0 rfl) ?_
  refine lv_iload_n hx hb dX12_partOf_9 rfl (lv_at hl 1 rfl) ?_
  refine lv_iload_n hx hb dX12_partOf_10 rfl (lv_at hl 2 rfl) ?_
  refine eRi (va_runV (As := [.int (nI s1), .int (nI f1)]) (rest := [.int (m_batten (24 * s1 + ((f1 + 1))))]) ⟨hx, hb, hml, hown, hts⟩ (c_X12_bentAt l D cI cB cZ cJ tx h q im m_batten s1 f1 (lf_X12_partOf_4 h q im mp m_batten s1 f1 hf_mp hs1 hf1) (lf_X12_partOf_5 h q im mp m_batten s1 f1 hf_mp hs1 hf1) H.size) (zV hts k_1957 v_X12_bentAt ⟨Nat.le_of_ble_eq_true rfl, Nat.le_of_ble_eq_true rfl⟩) (pV (pxS hK hP hD [0, 1] (by decide) rfl) hK hP 0 rfl rfl) rfl rfl hl.1 rfl (lv_room (Nat.le_of_ble_eq_true rfl)) dX12_partOf_11 ⟨Nat.le_of_ble_eq_true rfl, Nat.le_of_ble_eq_true rfl⟩) hP hS hA (fun r_6 H locs wr_6 hP hS => ?_)
  subst wr_6
  refine lv_isub hx hb dX12_partOf_14 ?_
  refine lv_topi (fun x_7 ex_7 => ?_)
  refine lv_i2l (v := x_7.toInt64) hx hb dX12_partOf_15 rfl ?_
  refine lv_lstore_n (lv' := [(3, .long x_7.toInt64), (0, .ref h), (1, .int (nI s1)), (2, .int (nI f1))]) hx hb dX12_partOf_16 rfl hl (by decide) rfl (fun ls hl => ?_)
  refine lv_aload_n hx hb dX12_partOf_17 rfl (lv_at hl 1 rfl) ?_
  refine va_get (D := D) (ci := 12) (v := .int (im 4)) (C := RX12) (T := TX12) (N := 81) hx hb hts inT_X12 hown hK.1 hP 0 rfl rfl 4 (by decide) (hts _ k_1357) (fun _ h9 => h9) rfl dX12_partOf_18 ?_
  refine lv_topv (y := mp) hf_mp ?_
  refine lv_i2l (v := mp.toInt64) hx hb dX12_partOf_21 rfl ?_
  refine lv_aload_n hx hb dX12_partOf_22 rfl (lv_at hl 1 rfl) ?_
  refine va_get (D := D) (ci := 12) (v := .int (im 4)) (C := RX12) (T := TX12) (N := 81) hx hb hts inT_X12 hown hK.1 hP 0 rfl rfl 4 (by decide) (hts _ k_1357) (fun _ h9 => h9) rfl dX12_partOf_23 ?_
  refine lv_topv (y := mp) hf_mp ?_
  refine lv_i2l (v := mp.toInt64) hx hb dX12_partOf_26 rfl ?_
  refine lv_lmul hx hb dX12_partOf_27 ?_
  refine lv_topl (fun x_8 ex_8 => ?_)
  refine lv_lload_n hx hb dX12_partOf_28 rfl (lv_at hl 0 rfl) ?_
  refine lv_lload_n hx hb dX12_partOf_29 rfl (lv_at hl 0 rfl) ?_
  refine lv_lmul hx hb dX12_partOf_30 ?_
  refine lv_topl (fun x_9 ex_9 => ?_)
  refine lv_ladd hx hb dX12_partOf_31 ?_
  refine lv_topl (fun x_10 ex_10 => ?_)
  refine eRi (va_runS (As := [.long x_10]) (rest := []) ⟨hx, hb, hml, hown, hts⟩ (c_X12_rootOf l D cI cB cZ cJ tx x_10 H.size) (zS hts k_2082 v_X12_rootOf ⟨Nat.le_of_ble_eq_true rfl, Nat.le_of_ble_eq_true rfl⟩) (px0 hK) rfl rfl hl.1 rfl (lv_room (Nat.le_of_ble_eq_true rfl)) dX12_partOf_32 ⟨Nat.le_of_ble_eq_true rfl, Nat.le_of_ble_eq_true rfl⟩) hP hS hA (fun r_11 H locs wr_11 hP hS => ?_)
  subst wr_11
  exact W.iret (v := rootF x_10) hx hb hr (fun tt9 ht hW => ⟨⟨(rootF x_10 : Int32), (), rfl, (lf_X12_partOf_12 h q im mp m_batten s1 f1 hf_mp hs1 hf1 x_7 ex_7 x_8 ex_8 x_9 ex_9 x_10 ex_10), trivial⟩, hS.F ht⟩) hS.2.2 dX12_partOf_35 hlocks

theorem lf_X12_lengthOf_3 (h : Nat) (q : Nat → Nat) (im : Nat → Int32) (mp : Int32) (m_batten : Nat → Int32) (s1 : Nat) (f1 : Nat) (g1 : Nat) (hf_mp : im 4 = mp) (hs1 : s1 < 8) (hfg : f1 ≤ g1) (hg1 : g1 < 24) (j1 : Nat) (su : Int32) (k6 : Nat) (hj6 : j1 ≤ g1) (hk6 : g1 < j1 + (k6 + 1)) (hfj : f1 ≤ j1) (hsu : su = lenR m_batten mp s1 f1 (j1 - f1)) (c_1 : nI g1 ≤ nI j1) : g1 ≤ j1 := by
  exact (nI_leI (a := g1) (b := j1) (by omega) (by omega)).mp c_1
theorem lf_X12_lengthOf_4 (h : Nat) (q : Nat → Nat) (im : Nat → Int32) (mp : Int32) (m_batten : Nat → Int32) (s1 : Nat) (f1 : Nat) (g1 : Nat) (hf_mp : im 4 = mp) (hs1 : s1 < 8) (hfg : f1 ≤ g1) (hg1 : g1 < 24) (j1 : Nat) (su : Int32) (k6 : Nat) (hj6 : j1 ≤ g1) (hk6 : g1 < j1 + (k6 + 1)) (hfj : f1 ≤ j1) (hsu : su = lenR m_batten mp s1 f1 (j1 - f1)) (c_1 : nI g1 ≤ nI j1) (n_2 : g1 ≤ j1) : (su : Int32) = lenF m_batten mp s1 f1 g1 := by
  obtain rfl := (show j1 = g1 from by omega); exact hsu
theorem lf_X12_lengthOf_6 (h : Nat) (q : Nat → Nat) (im : Nat → Int32) (mp : Int32) (m_batten : Nat → Int32) (s1 : Nat) (f1 : Nat) (g1 : Nat) (hf_mp : im 4 = mp) (hs1 : s1 < 8) (hfg : f1 ≤ g1) (hg1 : g1 < 24) (j1 : Nat) (su : Int32) (k6 : Nat) (hj6 : j1 ≤ g1) (hk6 : g1 < j1 + (k6 + 1)) (hfj : f1 ≤ j1) (hsu : su = lenR m_batten mp s1 f1 (j1 - f1)) (c_1 : ¬ nI g1 ≤ nI j1) : j1 < g1 := by
  exact Nat.lt_of_not_le (fun q => c_1 ((nI_leI (a := g1) (b := j1) (by omega) (by omega)).mpr q))
theorem lf_X12_lengthOf_7 (h : Nat) (q : Nat → Nat) (im : Nat → Int32) (mp : Int32) (m_batten : Nat → Int32) (s1 : Nat) (f1 : Nat) (g1 : Nat) (hf_mp : im 4 = mp) (hs1 : s1 < 8) (hfg : f1 ≤ g1) (hg1 : g1 < 24) (j1 : Nat) (su : Int32) (k6 : Nat) (hj6 : j1 ≤ g1) (hk6 : g1 < j1 + (k6 + 1)) (hfj : f1 ≤ j1) (hsu : su = lenR m_batten mp s1 f1 (j1 - f1)) (c_1 : ¬ nI g1 ≤ nI j1) (n_5 : j1 < g1) : s1 < 8 := by
  first | assumption | omega | decide | rfl
theorem lf_X12_lengthOf_8 (h : Nat) (q : Nat → Nat) (im : Nat → Int32) (mp : Int32) (m_batten : Nat → Int32) (s1 : Nat) (f1 : Nat) (g1 : Nat) (hf_mp : im 4 = mp) (hs1 : s1 < 8) (hfg : f1 ≤ g1) (hg1 : g1 < 24) (j1 : Nat) (su : Int32) (k6 : Nat) (hj6 : j1 ≤ g1) (hk6 : g1 < j1 + (k6 + 1)) (hfj : f1 ≤ j1) (hsu : su = lenR m_batten mp s1 f1 (j1 - f1)) (c_1 : ¬ nI g1 ≤ nI j1) (n_5 : j1 < g1) : j1 + 1 < 24 := by
  first | assumption | omega | decide | rfl
theorem lf_X12_lengthOf_11 (h : Nat) (q : Nat → Nat) (im : Nat → Int32) (mp : Int32) (m_batten : Nat → Int32) (s1 : Nat) (f1 : Nat) (g1 : Nat) (hf_mp : im 4 = mp) (hs1 : s1 < 8) (hfg : f1 ≤ g1) (hg1 : g1 < 24) (j1 : Nat) (su : Int32) (k6 : Nat) (hj6 : j1 ≤ g1) (hk6 : g1 < j1 + (k6 + 1)) (hfj : f1 ≤ j1) (hsu : su = lenR m_batten mp s1 f1 (j1 - f1)) (c_1 : ¬ nI g1 ≤ nI j1) (n_5 : j1 < g1) (x_10 : Int32) (ex_10 : x_10 = su + partF m_batten mp s1 j1) : f1 ≤ (j1 + 1) := by
  first | omega | (rw [Nat.sub_self]; rfl) | exact lenF_step hsu (by omega) (by assumption)
theorem lf_X12_lengthOf_12 (h : Nat) (q : Nat → Nat) (im : Nat → Int32) (mp : Int32) (m_batten : Nat → Int32) (s1 : Nat) (f1 : Nat) (g1 : Nat) (hf_mp : im 4 = mp) (hs1 : s1 < 8) (hfg : f1 ≤ g1) (hg1 : g1 < 24) (j1 : Nat) (su : Int32) (k6 : Nat) (hj6 : j1 ≤ g1) (hk6 : g1 < j1 + (k6 + 1)) (hfj : f1 ≤ j1) (hsu : su = lenR m_batten mp s1 f1 (j1 - f1)) (c_1 : ¬ nI g1 ≤ nI j1) (n_5 : j1 < g1) (x_10 : Int32) (ex_10 : x_10 = su + partF m_batten mp s1 j1) : x_10 = lenR m_batten mp s1 f1 ((j1 + 1) - f1) := by
  first | omega | (rw [Nat.sub_self]; rfl) | exact lenF_step hsu (by omega) (by assumption)
theorem lf_X12_lengthOf_13 (h : Nat) (q : Nat → Nat) (im : Nat → Int32) (mp : Int32) (m_batten : Nat → Int32) (s1 : Nat) (f1 : Nat) (g1 : Nat) (hf_mp : im 4 = mp) (hs1 : s1 < 8) (hfg : f1 ≤ g1) (hg1 : g1 < 24) : f1 ≤ f1 := by
  first | omega | (rw [Nat.sub_self]; rfl) | exact lenF_step hsu (by omega) (by assumption)
theorem lf_X12_lengthOf_14 (h : Nat) (q : Nat → Nat) (im : Nat → Int32) (mp : Int32) (m_batten : Nat → Int32) (s1 : Nat) (f1 : Nat) (g1 : Nat) (hf_mp : im 4 = mp) (hs1 : s1 < 8) (hfg : f1 ≤ g1) (hg1 : g1 < 24) : (0 : Int32) = lenR m_batten mp s1 f1 (f1 - f1) := by
  first | omega | (rw [Nat.sub_self]; rfl) | exact lenF_step hsu (by omega) (by assumption)
set_option maxHeartbeats 4000000 in
set_option maxRecDepth 100000 in
theorem c_X12_lengthOf (l : Launch) (D : va_G) (cI cB cZ cJ : ClassId) (tx : List (ClassId × FieldType)) (h : Nat) (q : Nat → Nat) (im : Nat → Int32) (mp : Int32) (m_batten : Nat → Int32) (s1 : Nat) (f1 : Nat) (g1 : Nat) (hf_mp : im 4 = mp) (hs1 : s1 < 8) (hfg : f1 ≤ g1) (hg1 : g1 < 24) : RdI l D cI cB cZ cJ tx yX12_lengthOf cX12_lengthOf 6 (some .int) 2 [.ref h, .int (nI s1), .int (nI f1), .int (nI g1)] [(h, .inr (12, mG q im)), (q 68, .inl (cI, 192, .inl m_batten))] (fun r => r = lenF m_batten mp s1 f1 g1) := by
  refine rdi_of2 (by decide) (Nat.le_of_ble_eq_true rfl) ?_
  intro p e s m below meth c A ls H locs hC hK hP hD hA hS hl
  obtain ⟨hx, hb, hr, hml, hown, hts, hlocks, hin⟩ := hC
  have hown : s.vm.findClass RX12 = some m.cls := hown
  have hl : lv_has ls 6 [(0, .ref h), (1, .int (nI s1)), (2, .int (nI f1)), (3, .int (nI g1))] := hl
  refine lv_iconst (v := 0) hx hb dX12_lengthOf_0 (by decide) ?_
  refine lv_istore (lv' := [(4, .int 0), (0, .ref h), (1, .int (nI s1)), (2, .int (nI f1)), (3, .int (nI g1))]) hx hb dX12_lengthOf_1 hl (by decide) rfl (fun ls hl => ?_)
  refine lv_iload_n hx hb dX12_lengthOf_3 rfl (lv_at hl 3 rfl) ?_
  refine lv_istore (lv' := [(5, .int (nI f1)), (4, .int 0), (0, .ref h), (1, .int (nI s1)), (2, .int (nI f1)), (3, .int (nI g1))]) hx hb dX12_lengthOf_4 hl (by decide) rfl (fun ls hl => ?_)
  have lp6 : ∀ (k6 : Nat) (j1 : Nat) (su : Int32) (H : Heap) (locs : List Loc) (ls : Array Slot), j1 ≤ g1 → g1 < j1 + k6 → (f1 ≤ j1) → (su = lenR m_batten mp s1 f1 (j1 - f1)) → va_P D vwCl [(h, .inr (12, mG q im)), (q 68, .inl (cI, 192, .inl m_batten))] H → va_S A s.heap H locs → lv_has ls 6 [(5, .int (nI j1)), (4, .int su), (0, .ref h), (1, .int (nI s1)), (2, .int (nI f1)), (3, .int (nI g1))] → W p l e (rmX 2 0 0) s m ([.ref h, .int (nI s1), .int (nI f1), .int (nI g1)] : List Value).toArray below meth c H locs 0 0 (MQ below (va_Qi (fun r (_ : Unit) => (fun r => r = lenF m_batten mp s1 f1 g1) r) (fun _ _ => True) A) ([.ref h, .int (nI s1), .int (nI f1), .int (nI g1)] : List Value).toArray s 0 0 A) (F0 m 6 ls []) := by
    intro k6
    induction k6 with
    | zero =>
      intro j1 su H locs ls hj6 hk6 hfj hsu hP hS hl
      exact absurd hk6 (by omega)
    | succ k6 ih6 =>
      intro j1 su H locs ls hj6 hk6 hfj hsu hP hS hl
      refine lv_iload hx hb dX12_lengthOf_6 (lv_at hl 0 rfl) ?_
      refine lv_iload_n hx hb dX12_lengthOf_8 rfl (lv_at hl 5 rfl) ?_
      refine lv_icmp_ge (tgt := 30) hx hb dX12_lengthOf_9 (by decide) (fun c_1 => ?_) (fun c_1 => ?_)
      · have n_2 : g1 ≤ j1 := (lf_X12_lengthOf_3 h q im mp m_batten s1 f1 g1 hf_mp hs1 hfg hg1 j1 su k6 hj6 hk6 hfj hsu c_1)
        refine lv_iload hx hb dX12_lengthOf_30 (lv_at hl 1 rfl) ?_
        exact W.iret (v := su) hx hb hr (fun tt9 ht hW => ⟨⟨(su : Int32), (), rfl, (lf_X12_lengthOf_4 h q im mp m_batten s1 f1 g1 hf_mp hs1 hfg hg1 j1 su k6 hj6 hk6 hfj hsu c_1 n_2), trivial⟩, hS.F ht⟩) hS.2.2 dX12_lengthOf_32 hlocks
      · have n_5 : j1 < g1 := (lf_X12_lengthOf_6 h q im mp m_batten s1 f1 g1 hf_mp hs1 hfg hg1 j1 su k6 hj6 hk6 hfj hsu c_1)
        refine lv_iload hx hb dX12_lengthOf_12 (lv_at hl 1 rfl) ?_
        refine lv_aload_n hx hb dX12_lengthOf_14 rfl (lv_at hl 2 rfl) ?_
        refine lv_iload_n hx hb dX12_lengthOf_15 rfl (lv_at hl 3 rfl) ?_
        refine lv_iload hx hb dX12_lengthOf_16 (lv_at hl 0 rfl) ?_
        refine eRi (va_runV (As := [.int (nI s1), .int (nI j1)]) (rest := [.int su]) ⟨hx, hb, hml, hown, hts⟩ (c_X12_partOf l D cI cB cZ cJ tx h q im mp m_batten s1 j1 hf_mp (lf_X12_lengthOf_7 h q im mp m_batten s1 f1 g1 hf_mp hs1 hfg hg1 j1 su k6 hj6 hk6 hfj hsu c_1 n_5) (lf_X12_lengthOf_8 h q im mp m_batten s1 f1 g1 hf_mp hs1 hfg hg1 j1 su k6 hj6 hk6 hfj hsu c_1 n_5) H.size) (zV hts k_2094 v_X12_partOf ⟨Nat.le_of_ble_eq_true rfl, Nat.le_of_ble_eq_true rfl⟩) (pV (pxS hK hP hD [0, 1] (by decide) rfl) hK hP 0 rfl rfl) rfl rfl hl.1 rfl (lv_room (Nat.le_of_ble_eq_true rfl)) dX12_lengthOf_18 ⟨Nat.le_of_ble_eq_true rfl, Nat.le_of_ble_eq_true rfl⟩) hP hS hA (fun r_9 H locs wr_9 hP hS => ?_)
        subst wr_9
        refine lv_iadd hx hb dX12_lengthOf_21 ?_
        refine lv_topi (fun x_10 ex_10 => ?_)
        refine lv_istore (lv' := [(4, .int x_10), (5, .int (nI j1)), (0, .ref h), (1, .int (nI s1)), (2, .int (nI f1)), (3, .int (nI g1))]) hx hb dX12_lengthOf_22 hl (by decide) rfl (fun ls hl => ?_)
        refine lv_iinc (v := nI (j1 + 1)) (lv' := [(5, .int (nI (j1 + 1))), (4, .int x_10), (0, .ref h), (1, .int (nI s1)), (2, .int (nI f1)), (3, .int (nI g1))]) hx hb dX12_lengthOf_24 hl (k := 1) rfl (nI_1 j1) (by decide) rfl (fun ls hl => ?_)
        refine lv_goto (tgt := 6) hx hb dX12_lengthOf_27 (by decide) ?_
        exact ih6 (j1 + 1) x_10 H locs ls (by omega) (by omega) (lf_X12_lengthOf_11 h q im mp m_batten s1 f1 g1 hf_mp hs1 hfg hg1 j1 su k6 hj6 hk6 hfj hsu c_1 n_5 x_10 ex_10) (lf_X12_lengthOf_12 h q im mp m_batten s1 f1 g1 hf_mp hs1 hfg hg1 j1 su k6 hj6 hk6 hfj hsu c_1 n_5 x_10 ex_10) (hP.sub [0, 1] rfl)  hS (lv_sub hl [0, 1, 2, 3, 4, 5] rfl)
  exact lp6 (g1 + 1) f1 0 H locs ls (by omega) (by omega) (lf_X12_lengthOf_13 h q im mp m_batten s1 f1 g1 hf_mp hs1 hfg hg1) (lf_X12_lengthOf_14 h q im mp m_batten s1 f1 g1 hf_mp hs1 hfg hg1) (hP.sub [0, 1] rfl)  hS (lv_sub hl [0, 1, 2, 3, 4, 5] rfl)

theorem lf_X12_has_f_4 (v1 : Int64) (n2 : Int32) (x_1 : Int64) (ex_1 : x_1 = v1 >>> ((n2).toInt64 &&& 63)) (x_2 : Int64) (ex_2 : x_2 = x_1 &&& 1) (c_3 : ¬ lg_cmp x_2 1 = 0) : (0 : Int32) = hasF v1 n2 := by
  first | (subst_vars; exact (if_pos (by assumption)).symm) | (subst_vars; exact (if_neg (by assumption)).symm)
theorem lf_X12_has_f_5 (v1 : Int64) (n2 : Int32) (x_1 : Int64) (ex_1 : x_1 = v1 >>> ((n2).toInt64 &&& 63)) (x_2 : Int64) (ex_2 : x_2 = x_1 &&& 1) (c_3 : lg_cmp x_2 1 = 0) : (1 : Int32) = hasF v1 n2 := by
  first | (subst_vars; exact (if_pos (by assumption)).symm) | (subst_vars; exact (if_neg (by assumption)).symm)
set_option maxHeartbeats 4000000 in
set_option maxRecDepth 100000 in
theorem c_X12_has_f (l : Launch) (D : va_G) (cI cB cZ cJ : ClassId) (tx : List (ClassId × FieldType)) (v1 : Int64) (n2 : Int32) : RdI l D cI cB cZ cJ tx yX12_has cX12_has 3 (some .boolean) 0 [.long v1, .int n2] [] (fun r => r = hasF v1 n2) := by
  refine rdi_of2 (by decide) (Nat.le_of_ble_eq_true rfl) ?_
  intro p e s m below meth c A ls H locs hC hK hP hD hA hS hl
  obtain ⟨hx, hb, hr, hml, hown, hts, hlocks, hin⟩ := hC
  have hown : s.vm.findClass RX12 = some m.cls := hown
  have hl : lv_has ls 3 [(0, .long v1), (2, .int n2)] := hl
  refine lv_lload_n hx hb dX12_has_0 rfl (lv_at hl 0 rfl) ?_
  refine lv_iload_n hx hb dX12_has_1 rfl (lv_at hl 1 rfl) ?_
  refine lv_lshr hx hb dX12_has_2 rfl ?_
  refine lv_topl (fun x_1 ex_1 => ?_)
  refine lv_lconst (v := 1) hx hb dX12_has_3 (by decide) ?_
  refine lv_land hx hb dX12_has_4 ?_
  refine lv_topl (fun x_2 ex_2 => ?_)
  refine lv_lconst (v := 1) hx hb dX12_has_5 (by decide) ?_
  refine W.lcmp hx hb dX12_has_6 ?_
  refine lv_if_ne (tgt := 14) hx hb dX12_has_7 (by decide) (fun c_3 => ?_) (fun c_3 => ?_)
  · refine lv_iconst (v := 0) hx hb dX12_has_14 (by decide) ?_
    exact W.zret (v := 0) hx hb hr (by decide) (fun tt9 ht hW => ⟨⟨(0 : Int32), (), rfl, (lf_X12_has_f_4 v1 n2 x_1 ex_1 x_2 ex_2 c_3), trivial⟩, hS.F ht⟩) hS.2.2 dX12_has_15 hlocks
  · refine lv_iconst (v := 1) hx hb dX12_has_10 (by decide) ?_
    refine lv_goto (tgt := 15) hx hb dX12_has_11 (by decide) ?_
    exact W.zret (v := 1) hx hb hr (by decide) (fun tt9 ht hW => ⟨⟨(1 : Int32), (), rfl, (lf_X12_has_f_5 v1 n2 x_1 ex_1 x_2 ex_2 c_3), trivial⟩, hS.F ht⟩) hS.2.2 dX12_has_15 hlocks

theorem lf_X12_mayJoin_3 (h : Nat) (q : Nat → Nat) (im : Nat → Int32) (ms : Nat) (jb : Int32) (g1 : Nat) (hf_ms : im 2 = nI ms) (hf_jb : im 78 = jb) (hms : ms ≤ 24) (hm3 : 3 ≤ ms) (hg1 : g1 < 24) (c_1 : nI g1 ≤ 0) : g1 ≤ 0 := by
  exact (nI_leI (a := g1) (b := 0) (by omega) (by omega)).mp c_1
theorem lf_X12_mayJoin_4 (h : Nat) (q : Nat → Nat) (im : Nat → Int32) (ms : Nat) (jb : Int32) (g1 : Nat) (hf_ms : im 2 = nI ms) (hf_jb : im 78 = jb) (hms : ms ≤ 24) (hm3 : 3 ≤ ms) (hg1 : g1 < 24) (c_1 : nI g1 ≤ 0) (n_2 : g1 ≤ 0) : (0 : Int32) = mjF jb ms g1 := by
  unfold mjF
  first
    | exact (if_pos ⟨by omega, by omega, by assumption, by assumption, by assumption⟩).symm
    | exact (if_neg (fun q => by first | omega | exact absurd q.2.2.1 (by assumption) | exact absurd q.2.2.2.1 (by assumption) | exact absurd q.2.2.2.2 (by assumption))).symm
theorem lf_X12_mayJoin_6 (h : Nat) (q : Nat → Nat) (im : Nat → Int32) (ms : Nat) (jb : Int32) (g1 : Nat) (hf_ms : im 2 = nI ms) (hf_jb : im 78 = jb) (hms : ms ≤ 24) (hm3 : 3 ≤ ms) (hg1 : g1 < 24) (c_1 : ¬ nI g1 ≤ 0) : 0 < g1 := by
  exact Nat.lt_of_not_le (fun q => c_1 ((nI_leI (a := g1) (b := 0) (by omega) (by omega)).mpr q))
theorem lf_X12_mayJoin_7 (h : Nat) (q : Nat → Nat) (im : Nat → Int32) (ms : Nat) (jb : Int32) (g1 : Nat) (hf_ms : im 2 = nI ms) (hf_jb : im 78 = jb) (hms : ms ≤ 24) (hm3 : 3 ≤ ms) (hg1 : g1 < 24) (c_1 : ¬ nI g1 ≤ 0) (n_5 : 0 < g1) : 1 ≤ ms := by
  omega
theorem lf_X12_mayJoin_10 (h : Nat) (q : Nat → Nat) (im : Nat → Int32) (ms : Nat) (jb : Int32) (g1 : Nat) (hf_ms : im 2 = nI ms) (hf_jb : im 78 = jb) (hms : ms ≤ 24) (hm3 : 3 ≤ ms) (hg1 : g1 < 24) (c_1 : ¬ nI g1 ≤ 0) (n_5 : 0 < g1) (c_8 : nI (ms - 1) ≤ nI g1) : (ms - 1) ≤ g1 := by
  exact (nI_leI (a := (ms - 1)) (b := g1) (by omega) (by omega)).mp c_8
theorem lf_X12_mayJoin_11 (h : Nat) (q : Nat → Nat) (im : Nat → Int32) (ms : Nat) (jb : Int32) (g1 : Nat) (hf_ms : im 2 = nI ms) (hf_jb : im 78 = jb) (hms : ms ≤ 24) (hm3 : 3 ≤ ms) (hg1 : g1 < 24) (c_1 : ¬ nI g1 ≤ 0) (n_5 : 0 < g1) (c_8 : nI (ms - 1) ≤ nI g1) (n_9 : (ms - 1) ≤ g1) : (0 : Int32) = mjF jb ms g1 := by
  unfold mjF
  first
    | exact (if_pos ⟨by omega, by omega, by assumption, by assumption, by assumption⟩).symm
    | exact (if_neg (fun q => by first | omega | exact absurd q.2.2.1 (by assumption) | exact absurd q.2.2.2.1 (by assumption) | exact absurd q.2.2.2.2 (by assumption))).symm
theorem lf_X12_mayJoin_13 (h : Nat) (q : Nat → Nat) (im : Nat → Int32) (ms : Nat) (jb : Int32) (g1 : Nat) (hf_ms : im 2 = nI ms) (hf_jb : im 78 = jb) (hms : ms ≤ 24) (hm3 : 3 ≤ ms) (hg1 : g1 < 24) (c_1 : ¬ nI g1 ≤ 0) (n_5 : 0 < g1) (c_8 : ¬ nI (ms - 1) ≤ nI g1) : g1 < (ms - 1) := by
  exact Nat.lt_of_not_le (fun q => c_8 ((nI_leI (a := (ms - 1)) (b := g1) (by omega) (by omega)).mpr q))
theorem lf_X12_mayJoin_14 (h : Nat) (q : Nat → Nat) (im : Nat → Int32) (ms : Nat) (jb : Int32) (g1 : Nat) (hf_ms : im 2 = nI ms) (hf_jb : im 78 = jb) (hms : ms ≤ 24) (hm3 : 3 ≤ ms) (hg1 : g1 < 24) (c_1 : ¬ nI g1 ≤ 0) (n_5 : 0 < g1) (c_8 : ¬ nI (ms - 1) ≤ nI g1) (n_12 : g1 < (ms - 1)) : 1 ≤ g1 := by
  omega
theorem lf_X12_mayJoin_17 (h : Nat) (q : Nat → Nat) (im : Nat → Int32) (ms : Nat) (jb : Int32) (g1 : Nat) (hf_ms : im 2 = nI ms) (hf_jb : im 78 = jb) (hms : ms ≤ 24) (hm3 : 3 ≤ ms) (hg1 : g1 < 24) (c_1 : ¬ nI g1 ≤ 0) (n_5 : 0 < g1) (c_8 : ¬ nI (ms - 1) ≤ nI g1) (n_12 : g1 < (ms - 1)) (c_16 : ¬ hasF (jb.toInt64) (nI (g1 - 1)) = 0) : (0 : Int32) = mjF jb ms g1 := by
  unfold mjF
  first
    | exact (if_pos ⟨by omega, by omega, by assumption, by assumption, by assumption⟩).symm
    | exact (if_neg (fun q => by first | omega | exact absurd q.2.2.1 (by assumption) | exact absurd q.2.2.2.1 (by assumption) | exact absurd q.2.2.2.2 (by assumption))).symm
theorem lf_X12_mayJoin_20 (h : Nat) (q : Nat → Nat) (im : Nat → Int32) (ms : Nat) (jb : Int32) (g1 : Nat) (hf_ms : im 2 = nI ms) (hf_jb : im 78 = jb) (hms : ms ≤ 24) (hm3 : 3 ≤ ms) (hg1 : g1 < 24) (c_1 : ¬ nI g1 ≤ 0) (n_5 : 0 < g1) (c_8 : ¬ nI (ms - 1) ≤ nI g1) (n_12 : g1 < (ms - 1)) (c_16 : hasF (jb.toInt64) (nI (g1 - 1)) = 0) (c_19 : ¬ hasF (jb.toInt64) (nI g1) = 0) : (0 : Int32) = mjF jb ms g1 := by
  unfold mjF
  first
    | exact (if_pos ⟨by omega, by omega, by assumption, by assumption, by assumption⟩).symm
    | exact (if_neg (fun q => by first | omega | exact absurd q.2.2.1 (by assumption) | exact absurd q.2.2.2.1 (by assumption) | exact absurd q.2.2.2.2 (by assumption))).symm
theorem lf_X12_mayJoin_23 (h : Nat) (q : Nat → Nat) (im : Nat → Int32) (ms : Nat) (jb : Int32) (g1 : Nat) (hf_ms : im 2 = nI ms) (hf_jb : im 78 = jb) (hms : ms ≤ 24) (hm3 : 3 ≤ ms) (hg1 : g1 < 24) (c_1 : ¬ nI g1 ≤ 0) (n_5 : 0 < g1) (c_8 : ¬ nI (ms - 1) ≤ nI g1) (n_12 : g1 < (ms - 1)) (c_16 : hasF (jb.toInt64) (nI (g1 - 1)) = 0) (c_19 : hasF (jb.toInt64) (nI g1) = 0) (c_22 : ¬ hasF (jb.toInt64) (nI (g1 + 1)) = 0) : (0 : Int32) = mjF jb ms g1 := by
  unfold mjF
  first
    | exact (if_pos ⟨by omega, by omega, by assumption, by assumption, by assumption⟩).symm
    | exact (if_neg (fun q => by first | omega | exact absurd q.2.2.1 (by assumption) | exact absurd q.2.2.2.1 (by assumption) | exact absurd q.2.2.2.2 (by assumption))).symm
theorem lf_X12_mayJoin_24 (h : Nat) (q : Nat → Nat) (im : Nat → Int32) (ms : Nat) (jb : Int32) (g1 : Nat) (hf_ms : im 2 = nI ms) (hf_jb : im 78 = jb) (hms : ms ≤ 24) (hm3 : 3 ≤ ms) (hg1 : g1 < 24) (c_1 : ¬ nI g1 ≤ 0) (n_5 : 0 < g1) (c_8 : ¬ nI (ms - 1) ≤ nI g1) (n_12 : g1 < (ms - 1)) (c_16 : hasF (jb.toInt64) (nI (g1 - 1)) = 0) (c_19 : hasF (jb.toInt64) (nI g1) = 0) (c_22 : hasF (jb.toInt64) (nI (g1 + 1)) = 0) : (1 : Int32) = mjF jb ms g1 := by
  unfold mjF
  first
    | exact (if_pos ⟨by omega, by omega, by assumption, by assumption, by assumption⟩).symm
    | exact (if_neg (fun q => by first | omega | exact absurd q.2.2.1 (by assumption) | exact absurd q.2.2.2.1 (by assumption) | exact absurd q.2.2.2.2 (by assumption))).symm
set_option maxHeartbeats 4000000 in
set_option maxRecDepth 100000 in
theorem c_X12_mayJoin (l : Launch) (D : va_G) (cI cB cZ cJ : ClassId) (tx : List (ClassId × FieldType)) (h : Nat) (q : Nat → Nat) (im : Nat → Int32) (ms : Nat) (jb : Int32) (g1 : Nat) (hf_ms : im 2 = nI ms) (hf_jb : im 78 = jb) (hms : ms ≤ 24) (hm3 : 3 ≤ ms) (hg1 : g1 < 24) : RdI l D cI cB cZ cJ tx yX12_mayJoin cX12_mayJoin 2 (some .boolean) 1 [.ref h, .int (nI g1)] [(h, .inr (12, mG q im))] (fun r => r = mjF jb ms g1) := by
  refine rdi_of2 (by decide) (Nat.le_of_ble_eq_true rfl) ?_
  intro p e s m below meth c A ls H locs hC hK hP hD hA hS hl
  obtain ⟨hx, hb, hr, hml, hown, hts, hlocks, hin⟩ := hC
  have hown : s.vm.findClass RX12 = some m.cls := hown
  have hl : lv_has ls 2 [(0, .ref h), (1, .int (nI g1))] := hl
  refine lv_iload_n hx hb dX12_mayJoin_0 rfl (lv_at hl 1 rfl) ?_
  refine lv_if_le (tgt := 58) hx hb dX12_mayJoin_1 (by decide) (fun c_1 => ?_) (fun c_1 => ?_)
  · have n_2 : g1 ≤ 0 := (lf_X12_mayJoin_3 h q im ms jb g1 hf_ms hf_jb hms hm3 hg1 c_1)
    refine lv_iconst (v := 0) hx hb dX12_mayJoin_58 (by decide) ?_
    exact W.zret (v := 0) hx hb hr (by decide) (fun tt9 ht hW => ⟨⟨(0 : Int32), (), rfl, (lf_X12_mayJoin_4 h q im ms jb g1 hf_ms hf_jb hms hm3 hg1 c_1 n_2), trivial⟩, hS.F ht⟩) hS.2.2 dX12_mayJoin_59 hlocks
  · have n_5 : 0 < g1 := (lf_X12_mayJoin_6 h q im ms jb g1 hf_ms hf_jb hms hm3 hg1 c_1)
    refine lv_iload_n hx hb dX12_mayJoin_4 rfl (lv_at hl 1 rfl) ?_
    refine lv_aload_n hx hb dX12_mayJoin_5 rfl (lv_at hl 0 rfl) ?_
    refine va_get (D := D) (ci := 12) (v := .int (im 2)) (C := RX12) (T := TX12) (N := 81) hx hb hts inT_X12 hown hK.1 hP 0 rfl rfl 2 (by decide) (hts _ k_1355) (fun _ h9 => h9) rfl dX12_mayJoin_6 ?_
    refine lv_topv (y := nI ms) hf_ms ?_
    refine lv_iconst (v := 1) hx hb dX12_mayJoin_9 (by decide) ?_
    refine lv_isub hx hb dX12_mayJoin_10 ?_
    refine lv_topv (y := nI (ms - 1)) (pk_sub (lf_X12_mayJoin_7 h q im ms jb g1 hf_ms hf_jb hms hm3 hg1 c_1 n_5)) ?_
    refine lv_icmp_ge (tgt := 58) hx hb dX12_mayJoin_11 (by decide) (fun c_8 => ?_) (fun c_8 => ?_)
    · have n_9 : (ms - 1) ≤ g1 := (lf_X12_mayJoin_10 h q im ms jb g1 hf_ms hf_jb hms hm3 hg1 c_1 n_5 c_8)
      refine lv_iconst (v := 0) hx hb dX12_mayJoin_58 (by decide) ?_
      exact W.zret (v := 0) hx hb hr (by decide) (fun tt9 ht hW => ⟨⟨(0 : Int32), (), rfl, (lf_X12_mayJoin_11 h q im ms jb g1 hf_ms hf_jb hms hm3 hg1 c_1 n_5 c_8 n_9), trivial⟩, hS.F ht⟩) hS.2.2 dX12_mayJoin_59 hlocks
    · have n_12 : g1 < (ms - 1) := (lf_X12_mayJoin_13 h q im ms jb g1 hf_ms hf_jb hms hm3 hg1 c_1 n_5 c_8)
      refine lv_aload_n hx hb dX12_mayJoin_14 rfl (lv_at hl 0 rfl) ?_
      refine va_get (D := D) (ci := 12) (v := .int (im 78)) (C := RX12) (T := TX12) (N := 81) hx hb hts inT_X12 hown hK.1 hP 0 rfl rfl 78 (by decide) (hts _ k_1431) (fun _ h9 => h9) rfl dX12_mayJoin_15 ?_
      refine lv_topv (y := jb) hf_jb ?_
      refine lv_i2l (v := jb.toInt64) hx hb dX12_mayJoin_18 rfl ?_
      refine lv_iload_n hx hb dX12_mayJoin_19 rfl (lv_at hl 1 rfl) ?_
      refine lv_iconst (v := 1) hx hb dX12_mayJoin_20 (by decide) ?_
      refine lv_isub hx hb dX12_mayJoin_21 ?_
      refine lv_topv (y := nI (g1 - 1)) (pk_sub (lf_X12_mayJoin_14 h q im ms jb g1 hf_ms hf_jb hms hm3 hg1 c_1 n_5 c_8 n_12)) ?_
      refine eRi (va_runS (As := [.long jb.toInt64, .int (nI (g1 - 1))]) (rest := []) ⟨hx, hb, hml, hown, hts⟩ (c_X12_has_f l D cI cB cZ cJ tx jb.toInt64 (nI (g1 - 1)) H.size) (zS hts k_1825 v_X12_has ⟨Nat.le_of_ble_eq_true rfl, Nat.le_of_ble_eq_true rfl⟩) (px0 hK) rfl rfl hl.1 rfl (lv_room (Nat.le_of_ble_eq_true rfl)) dX12_mayJoin_22 ⟨Nat.le_of_ble_eq_true rfl, Nat.le_of_ble_eq_true rfl⟩) hP hS hA (fun r_15 H locs wr_15 hP hS => ?_)
      subst wr_15
      refine lv_if_ne (tgt := 58) hx hb dX12_mayJoin_25 (by decide) (fun c_16 => ?_) (fun c_16 => ?_)
      · refine lv_iconst (v := 0) hx hb dX12_mayJoin_58 (by decide) ?_
        exact W.zret (v := 0) hx hb hr (by decide) (fun tt9 ht hW => ⟨⟨(0 : Int32), (), rfl, (lf_X12_mayJoin_17 h q im ms jb g1 hf_ms hf_jb hms hm3 hg1 c_1 n_5 c_8 n_12 c_16), trivial⟩, hS.F ht⟩) hS.2.2 dX12_mayJoin_59 hlocks
      · refine lv_aload_n hx hb dX12_mayJoin_28 rfl (lv_at hl 0 rfl) ?_
        refine va_get (D := D) (ci := 12) (v := .int (im 78)) (C := RX12) (T := TX12) (N := 81) hx hb hts inT_X12 hown hK.1 hP 0 rfl rfl 78 (by decide) (hts _ k_1431) (fun _ h9 => h9) rfl dX12_mayJoin_29 ?_
        refine lv_topv (y := jb) hf_jb ?_
        refine lv_i2l (v := jb.toInt64) hx hb dX12_mayJoin_32 rfl ?_
        refine lv_iload_n hx hb dX12_mayJoin_33 rfl (lv_at hl 1 rfl) ?_
        refine eRi (va_runS (As := [.long jb.toInt64, .int (nI g1)]) (rest := []) ⟨hx, hb, hml, hown, hts⟩ (c_X12_has_f l D cI cB cZ cJ tx jb.toInt64 (nI g1) H.size) (zS hts k_1825 v_X12_has ⟨Nat.le_of_ble_eq_true rfl, Nat.le_of_ble_eq_true rfl⟩) (px0 hK) rfl rfl hl.1 rfl (lv_room (Nat.le_of_ble_eq_true rfl)) dX12_mayJoin_34 ⟨Nat.le_of_ble_eq_true rfl, Nat.le_of_ble_eq_true rfl⟩) hP hS hA (fun r_18 H locs wr_18 hP hS => ?_)
        subst wr_18
        refine lv_if_ne (tgt := 58) hx hb dX12_mayJoin_37 (by decide) (fun c_19 => ?_) (fun c_19 => ?_)
        · refine lv_iconst (v := 0) hx hb dX12_mayJoin_58 (by decide) ?_
          exact W.zret (v := 0) hx hb hr (by decide) (fun tt9 ht hW => ⟨⟨(0 : Int32), (), rfl, (lf_X12_mayJoin_20 h q im ms jb g1 hf_ms hf_jb hms hm3 hg1 c_1 n_5 c_8 n_12 c_16 c_19), trivial⟩, hS.F ht⟩) hS.2.2 dX12_mayJoin_59 hlocks
        · refine lv_aload_n hx hb dX12_mayJoin_40 rfl (lv_at hl 0 rfl) ?_
          refine va_get (D := D) (ci := 12) (v := .int (im 78)) (C := RX12) (T := TX12) (N := 81) hx hb hts inT_X12 hown hK.1 hP 0 rfl rfl 78 (by decide) (hts _ k_1431) (fun _ h9 => h9) rfl dX12_mayJoin_41 ?_
          refine lv_topv (y := jb) hf_jb ?_
          refine lv_i2l (v := jb.toInt64) hx hb dX12_mayJoin_44 rfl ?_
          refine lv_iload_n hx hb dX12_mayJoin_45 rfl (lv_at hl 1 rfl) ?_
          refine lv_iconst (v := 1) hx hb dX12_mayJoin_46 (by decide) ?_
          refine lv_iadd hx hb dX12_mayJoin_47 ?_
          refine lv_topv (y := nI (g1 + 1)) (nI_add g1 1) ?_
          refine eRi (va_runS (As := [.long jb.toInt64, .int (nI (g1 + 1))]) (rest := []) ⟨hx, hb, hml, hown, hts⟩ (c_X12_has_f l D cI cB cZ cJ tx jb.toInt64 (nI (g1 + 1)) H.size) (zS hts k_1825 v_X12_has ⟨Nat.le_of_ble_eq_true rfl, Nat.le_of_ble_eq_true rfl⟩) (px0 hK) rfl rfl hl.1 rfl (lv_room (Nat.le_of_ble_eq_true rfl)) dX12_mayJoin_48 ⟨Nat.le_of_ble_eq_true rfl, Nat.le_of_ble_eq_true rfl⟩) hP hS hA (fun r_21 H locs wr_21 hP hS => ?_)
          subst wr_21
          refine lv_if_ne (tgt := 58) hx hb dX12_mayJoin_51 (by decide) (fun c_22 => ?_) (fun c_22 => ?_)
          · refine lv_iconst (v := 0) hx hb dX12_mayJoin_58 (by decide) ?_
            exact W.zret (v := 0) hx hb hr (by decide) (fun tt9 ht hW => ⟨⟨(0 : Int32), (), rfl, (lf_X12_mayJoin_23 h q im ms jb g1 hf_ms hf_jb hms hm3 hg1 c_1 n_5 c_8 n_12 c_16 c_19 c_22), trivial⟩, hS.F ht⟩) hS.2.2 dX12_mayJoin_59 hlocks
          · refine lv_iconst (v := 1) hx hb dX12_mayJoin_54 (by decide) ?_
            refine lv_goto (tgt := 59) hx hb dX12_mayJoin_55 (by decide) ?_
            exact W.zret (v := 1) hx hb hr (by decide) (fun tt9 ht hW => ⟨⟨(1 : Int32), (), rfl, (lf_X12_mayJoin_24 h q im ms jb g1 hf_ms hf_jb hms hm3 hg1 c_1 n_5 c_8 n_12 c_16 c_19 c_22), trivial⟩, hS.F ht⟩) hS.2.2 dX12_mayJoin_59 hlocks
