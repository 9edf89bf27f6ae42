/-! THE TEXTS, 7: what a text tells -/
def hdM (v lo hi : Int32) : Int32 := if v < lo then lo else if hi < v then hi else v
def evT : List ClA → Nat → (Nat → Int32) → Int32 → Int32 → Int32
  | [], _, _, _, _ => 0
  | c :: cs, L, lt, lo, hi => if c.1 = L ∧ (c.2.2 lt).getD 0 = 1 then hdM ((c.2.1 lt).getD 0) lo hi else evT cs L lt lo hi
theorem kd_and {x : Int32} (h : 0 ≤ x) : x &&& 15 = nI (kdM x) := by
  obtain ⟨j, hj, rfl⟩ := nI_of (x := x) (Int32.not_lt.mpr h)
  rw [and15]
  unfold kdM
  rw [nI_clamp hj]
theorem od_shr {x : Int32} (h : 0 ≤ x) : x >>> ((4 : Int32) &&& 31) = nI (odM x) := by
  obtain ⟨j, hj, rfl⟩ := nI_of (x := x) (Int32.not_lt.mpr h)
  rw [pk_shrN hj _ 4 (by decide)]
  unfold odM
  rw [nI_clamp hj]
theorem od_lt {x : Int32} (h : 0 ≤ x) : odM x < 2 ^ 27 := by
  obtain ⟨j, hj, rfl⟩ := nI_of (x := x) (Int32.not_lt.mpr h)
  unfold odM
  rw [nI_clamp hj]
  omega
theorem kd_ex {x y : Int32} (h : 0 ≤ y) (e : x = y &&& 15) : ∃ k : Nat, k = kdM y ∧ k < 16 ∧ x = nI k := ⟨_, rfl, by unfold kdM; omega, e.trans (kd_and h)⟩
theorem od_ex {x y : Int32} (h : 0 ≤ y) (e : x = y >>> ((4 : Int32) &&& 31)) : ∃ k : Nat, k = odM y ∧ k < 2 ^ 27 ∧ x = nI k := ⟨_, rfl, od_lt h, e.trans (od_shr h)⟩
def rcQ (k : Nat) (a b rf0 r rf1 : Int32) : Prop := (divM k ∧ b = 0 → ¬ rf1 = 0) ∧ (¬ (divM k ∧ b = 0) → r = opM k a b ∧ rf1 = rf0)
theorem rcQ.n {k : Nat} {a b rf r : Int32} (hk : ¬ divM k) (e : r = opM k a b) : rcQ k a b rf r rf := ⟨fun q => absurd q.1 hk, fun _ => ⟨e, rfl⟩⟩
theorem rcQ.z {k : Nat} {a b rf r : Int32} (hk : divM k) (hb : b = 0) : rcQ k a b rf r 1 := ⟨fun _ => by decide, fun q => absurd ⟨hk, hb⟩ q⟩
theorem rcQ.d {k : Nat} {a b rf r : Int32} (hb : ¬ b = 0) (e : r = opM k a b) : rcQ k a b rf r rf := ⟨fun q => absurd q.2 hb, fun _ => ⟨e, rfl⟩⟩
theorem op_3 {k : Nat} {a b x : Int32} (h : k = 3) (e : x = a + b) : x = opM k a b := by subst h; exact e
theorem op_4 {k : Nat} {a b x : Int32} (h : k = 4) (e : x = a - b) : x = opM k a b := by subst h; exact e
theorem op_5 {k : Nat} {a b x : Int32} (h : k = 5) (e : x = a * b) : x = opM k a b := by subst h; exact e
theorem op_6 {k : Nat} {a b x : Int32} (h : k = 6) (e : x = a / b) : x = opM k a b := by subst h; exact e
theorem op_8y {k : Nat} {a b : Int32} (h : k = 8) (c : ¬ b ≤ a) : 1 = opM k a b := by subst h; exact (if_pos (Int32.not_le.mp c)).symm
theorem op_8n {k : Nat} {a b : Int32} (h : k = 8) (c : b ≤ a) : 0 = opM k a b := by subst h; exact (if_neg (Int32.not_lt.mpr c)).symm
theorem op_9y {k : Nat} {a b : Int32} (h : k = 9) (c : ¬ a ≤ b) : 1 = opM k a b := by subst h; exact (if_pos (Int32.not_le.mp c)).symm
theorem op_9n {k : Nat} {a b : Int32} (h : k = 9) (c : a ≤ b) : 0 = opM k a b := by subst h; exact (if_neg (Int32.not_lt.mpr c)).symm
theorem op_10y {k : Nat} {a b : Int32} (h : k = 10) (c : a = b) : 1 = opM k a b := by subst h; exact (if_pos c).symm
theorem op_10n {k : Nat} {a b : Int32} (h : k = 10) (c : ¬ a = b) : 0 = opM k a b := by subst h; exact (if_neg c).symm
theorem op_r {k : Nat} {a b x : Int32} (h : divM k) (h6 : ¬ k = 6) (e : x = a - a / b * b) : x = opM k a b := by
  unfold opM
  rw [if_neg (fun q => h (by omega)), if_neg (fun q => h (by omega)), if_neg (fun q => h (by omega)), if_neg (fun q => h (by omega)), if_neg (fun q => h (by omega)), if_neg (fun q => h (by omega)), if_neg h6]
  exact e
def stQ (fs lt : Nat → Int32) (j : Nat) (q : StM) (rf0 : Int32) (m : Nat) (z : StM) (rf1 : Int32) : Prop := (stepM fs lt j q = none → ¬ rf1 = 0) ∧ ∀ w, stepM fs lt j q = some w → m = w.1 ∧ z = w.2 ∧ rf1 = rf0
theorem stQ.of {fs lt : Nat → Int32} {j m : Nat} {q z : StM} {rf : Int32} (h : stepM fs lt j q = some (m, z)) : stQ fs lt j q rf m z rf := by
  refine ⟨fun e => absurd (e.symm.trans h) (by simp), fun w e => ?_⟩
  have e : (m, z) = w := by simpa using h.symm.trans e
  rw [← e]
  exact ⟨rfl, rfl, rfl⟩
section STEPS
variable {fs lt : Nat → Int32} {j k o m un a n : Nat} {q q1 q2 z : StM} {rf rf1 r r1 r2 r3 x : Int32}
theorem stQ.num (hk : k = kdM (fs j)) (e : k = 1) (ho : o = odM (fs j)) (hz : z = pushM (nI o) q) : stQ fs lt j q rf (j + 1) z rf := by
  refine stQ.of ?_
  unfold stepM
  rw [if_pos (hk.symm.trans e), ← ho, hz]
theorem stQ.let1 (hk : k = kdM (fs j)) (e : k = 2) (ho : o = odM (fs j)) (h26 : o < 26) (hz : z = pushM (lt o) q) : stQ fs lt j q rf (j + 1) z rf := by
  refine stQ.of ?_
  unfold stepM
  rw [if_neg (by omega), if_pos (hk.symm.trans e), ← ho, if_pos h26, hz]
theorem stQ.let0 (hk : k = kdM (fs j)) (e : k = 2) (ho : o = odM (fs j)) (h26 : 26 ≤ o) (hz : z = pushM 0 q) : stQ fs lt j q rf (j + 1) z rf := by
  refine stQ.of ?_
  unfold stepM
  rw [if_neg (by omega), if_pos (hk.symm.trans e), ← ho, if_neg (by omega), hz]
theorem stQ.not (hk : k = kdM (fs j)) (e : k = 11) (hr : r = popV q) (hq : q1 = popS q) (hx : x = 1 - r) (hz : z = pushM x q1) : stQ fs lt j q rf (j + 1) z rf := by
  refine stQ.of ?_
  unfold stepM
  rw [if_neg (by omega), if_neg (by omega), if_pos (hk.symm.trans e), ← hr, ← hq, ← hx, hz]
theorem stQ.f1 (hk : k = kdM (fs j)) (e : k = 12) (ho : o = odM (fs j)) (hr : r = popV q) (hq : q1 = popS q) (h0 : r = 0) (hz : z = pushM r q1) : stQ fs lt j q rf o z rf := by
  refine stQ.of ?_
  unfold stepM
  rw [if_neg (by omega), if_neg (by omega), if_neg (by omega), if_pos (hk.symm.trans e), ← hr, if_pos h0, ← hq, ← ho, hz, h0]
theorem stQ.f0 (hk : k = kdM (fs j)) (e : k = 12) (hr : r = popV q) (hq : z = popS q) (h0 : ¬ r = 0) : stQ fs lt j q rf (j + 1) z rf := by
  refine stQ.of ?_
  unfold stepM
  rw [if_neg (by omega), if_neg (by omega), if_neg (by omega), if_pos (hk.symm.trans e), ← hr, if_neg h0, ← hq]
theorem stQ.t1 (hk : k = kdM (fs j)) (e : k = 13) (ho : o = odM (fs j)) (hr : r = popV q) (hq : q1 = popS q) (h0 : r = 1) (hz : z = pushM r q1) : stQ fs lt j q rf o z rf := by
  refine stQ.of ?_
  unfold stepM
  rw [if_neg (by omega), if_neg (by omega), if_neg (by omega), if_neg (by omega), if_pos (hk.symm.trans e), ← hr, if_pos h0, ← hq, ← ho, hz, h0]
theorem stQ.t0 (hk : k = kdM (fs j)) (e : k = 13) (hr : r = popV q) (hq : z = popS q) (h0 : ¬ r = 1) : stQ fs lt j q rf (j + 1) z rf := by
  refine stQ.of ?_
  unfold stepM
  rw [if_neg (by omega), if_neg (by omega), if_neg (by omega), if_neg (by omega), if_pos (hk.symm.trans e), ← hr, if_neg h0, ← hq]
theorem stQ.ar (hk : k = kdM (fs j)) (n1 : ¬ k = 1) (n2 : ¬ k = 2) (n3 : ¬ k = 11) (n4 : ¬ k = 12) (n5 : ¬ k = 13) (hr : r1 = popV q) (hq : q1 = popS q) (hr2 : r2 = popV q1) (hq2 : q2 = popS q1) (hc : rcQ k r2 r1 rf r3 rf1) (hz : z = pushM r3 q2) : stQ fs lt j q rf (j + 1) z rf1 := by
  have es : stepM fs lt j q = if divM k ∧ r1 = 0 then none else some (j + 1, pushM (opM k r2 r1) q2) := by
    unfold stepM
    rw [← hk, if_neg n1, if_neg n2, if_neg n3, if_neg n4, if_neg n5, ← hr, ← hq, ← hr2, ← hq2]
  by_cases c : divM k ∧ r1 = 0
  · rw [if_pos c] at es
    exact ⟨fun _ => hc.1 c, fun w e => absurd (es.symm.trans e) (by simp)⟩
  · rw [if_neg c] at es
    obtain ⟨e1, e2⟩ := hc.2 c
    subst e2
    rw [← e1, ← hz] at es
    exact stQ.of es
def ruQ (fs lt : Nat → Int32) (un a : Nat) (q : StM) (n i : Nat) (z : StM) (rf : Int32) : Prop := (rf = 0 → runM fs lt un 200 a q = runM fs lt un n i z) ∧ (¬ rf = 0 → runM fs lt un 200 a q = 0)
theorem stQ.ark {k2 : Nat} (hk : k = kdM (fs j)) (hkk : k = k2) (n1 : ¬ k2 = 1) (n2 : ¬ k2 = 2) (n3 : ¬ k2 = 11) (n4 : ¬ k2 = 12) (n5 : ¬ k2 = 13) (hr : r1 = popV q) (hq : q1 = popS q) (hr2 : r2 = popV q1) (hq2 : q2 = popS q1) (hc : rcQ k2 r2 r1 rf r3 rf1) (hz : z = pushM r3 q2) : stQ fs lt j q rf (j + 1) z rf1 := by
  subst hkk
  exact stQ.ar hk n1 n2 n3 n4 n5 hr hq hr2 hq2 hc hz
theorem ruQ.zz : ruQ fs lt un a q (200 - 0) a q 0 := ⟨fun _ => rfl, fun h => absurd rfl h⟩
theorem ruQ.s {i : Nat} (h : ruQ fs lt un a q (200 - j) i q1 rf) (hr : rf = 0) (hi : i < un) (hx : ¬ x = 0) (ex : x = fs i &&& 15) (h0 : 0 ≤ fs i) (hs : stQ fs lt i q1 rf m z rf1) (hj : j < 200) : ruQ fs lt un a q (200 - (j + 1)) m z rf1 := by
  have hk : ¬ kdM (fs i) = 0 := fun w => hx (by rw [ex, kd_and h0, w]; rfl)
  have e := h.1 hr
  rw [show 200 - j = 200 - (j + 1) + 1 by omega] at e
  cases es : stepM fs lt i q1 with
  | none =>
    have hz := hs.1 es
    rw [run_0 hi hk es] at e
    exact ⟨fun w => absurd w hz, fun _ => e⟩
  | some w =>
    obtain ⟨e1, e2, e3⟩ := hs.2 w es
    rw [run_s hi hk es] at e
    refine ⟨fun _ => ?_, fun w => absurd (e3.trans hr) w⟩
    rw [e1, e2]
    exact e
theorem ruQ.e0 {i : Nat} (h : ruQ fs lt un a q n i z rf) (hr : ¬ rf = 0) : 0 = runM fs lt un 200 a q := (h.2 hr).symm
theorem ruQ.e1 {i : Nat} (h : ruQ fs lt un a q (200 - j) i z rf) (hr : rf = 0) (hj : 200 ≤ j) (e : r = popV z) : r = runM fs lt un 200 a q := by
  have q := h.1 hr
  rw [show 200 - j = 0 by omega] at q
  rw [q]
  exact e
theorem ruQ.e2 {i : Nat} (h : ruQ fs lt un a q n i z rf) (hr : rf = 0) (hi : un ≤ i) (e : r = popV z) : r = runM fs lt un 200 a q := by
  rw [h.1 hr]
  cases n with
  | zero => exact e
  | succ n =>
    show r = if i < un ∧ ¬ kdM (fs i) = 0 then (stepM fs lt i z).elim 0 (fun z => runM fs lt un n z.1 z.2) else popV z
    rw [if_neg (fun w => by omega)]
    exact e
theorem ruQ.e3 {i : Nat} (h : ruQ fs lt un a q n i z rf) (hr : rf = 0) (ex : x = fs i &&& 15) (hx : x = 0) (h0 : 0 ≤ fs i) (e : r = popV z) : r = runM fs lt un 200 a q := by
  have hk : kdM (fs i) = 0 := by
    have w := ex.symm.trans hx
    rw [kd_and h0] at w
    exact (nI_eq (a := kdM (fs i)) (b := 0) (by unfold kdM; omega) (by omega)).mp w
  rw [h.1 hr]
  cases n with
  | zero => exact e
  | succ n =>
    show r = if i < un ∧ ¬ kdM (fs i) = 0 then (stepM fs lt i z).elim 0 (fun z => runM fs lt un n z.1 z.2) else popV z
    rw [if_neg (fun w => w.2 hk)]
    exact e
end STEPS
/-- a run asks for the first 26 letters alone -/
theorem step_ext {fs lt l2 : Nat → Int32} (h : ∀ i, i < 26 → lt i = l2 i) (j : Nat) (q : StM) : stepM fs lt j q = stepM fs l2 j q := by
  unfold stepM
  by_cases c : odM (fs j) < 26
  · rw [if_pos c, if_pos c, h _ c]
  · rw [if_neg c, if_neg c]
theorem run_ext {fs lt l2 : Nat → Int32} {un : Nat} (h : ∀ i, i < 26 → lt i = l2 i) : ∀ (n j : Nat) (q : StM), runM fs lt un n j q = runM fs l2 un n j q := by
  intro n
  induction n with
  | zero => intro j q; rfl
  | succ n ih =>
    intro j q
    show (if j < un ∧ ¬ kdM (fs j) = 0 then (stepM fs lt j q).elim 0 (fun z => runM fs lt un n z.1 z.2) else popV q) = (if j < un ∧ ¬ kdM (fs j) = 0 then (stepM fs l2 j q).elim 0 (fun z => runM fs l2 un n z.1 z.2) else popV q)
    rw [step_ext h]
    split
    · cases stepM fs l2 j q with
      | none => rfl
      | some w => exact ih w.1 w.2
    · rfl
theorem CT_at {k1 un j : Nat} {fs f3 f4 f5 : Nat → Int32} {cs : List ClA} (h : CTk k1 fs un f3 f4 f5 cs) (hj : j < k1) : ∃ (cl : ClA) (lc nf e1 cf e2 : Nat), cs[j]? = some cl ∧ lc = cl.1 ∧ lc < 256 ∧ f3 j = nI lc ∧ f4 j = nI nf ∧ f5 j = nI cf ∧ (nf ≤ e1 ∧ ImC fs nf e1 15 cl.2.1 ∧ e1 < un ∧ kdM (fs e1) = 0) ∧ (cf ≤ e2 ∧ ImC fs cf e2 14 cl.2.2 ∧ d01 cl.2.2 ∧ e2 < un ∧ kdM (fs e2) = 0) := by
  obtain ⟨cl, hc⟩ : ∃ cl, cs[j]? = some cl := ⟨cs[j]'(by rw [h.1]; exact hj), List.getElem?_eq_getElem _⟩
  obtain ⟨a1, a2, nf, e1, cf, e2, b1, b2, b3, b4, b5, b6, b7, b8, b9⟩ := h.2 j cl hc
  exact ⟨cl, cl.1, nf, e1, cf, e2, hc, rfl, a2, a1, b1, b2, ⟨b3.1, b3, b4, b5⟩, b6.1, b6, b7, b8, b9⟩
section EVS
variable {fs lt : Nat → Int32} {un j nf e1 cf e2 L lc k1 : Nat} {cs : List ClA} {cl : ClA} {q : StM} {lo hi x : Int32}
theorem run_c {d : DnM} {m : Nat} (h : cf ≤ e2 ∧ ImC fs cf e2 m d ∧ d01 d ∧ e2 < un ∧ kdM (fs e2) = 0) (hu : un ≤ 200) (hm : m ≤ 32) (hq : q.1 = 0) : runM fs lt un 200 cf q = (d lt).getD 0 := ImC_run h.2.1 h.2.2.2.1 h.2.2.2.2 (by omega) hm hq
theorem run_n {d : DnM} {m : Nat} (h : nf ≤ e1 ∧ ImC fs nf e1 m d ∧ e1 < un ∧ kdM (fs e1) = 0) (hu : un ≤ 200) (hm : m ≤ 32) (hq : q.1 = 0) : runM fs lt un 200 nf q = (d lt).getD 0 := ImC_run h.2.1 h.2.2.1 h.2.2.2 (by omega) hm hq
theorem dp_s (hc : cs[j]? = some cl) : cs.drop j = cl :: cs.drop (j + 1) := by
  obtain ⟨h, e⟩ := List.getElem?_eq_some_iff.mp hc
  rw [List.drop_eq_getElem_cons h, e]
theorem ev_n (hv : evT cs L lt lo hi = evT (cs.drop j) L lt lo hi) (hc : cs[j]? = some cl) (el : lc = cl.1) (hn : lc ≠ L) : evT cs L lt lo hi = evT (cs.drop (j + 1)) L lt lo hi := by
  rw [hv, dp_s hc]
  show (if cl.1 = L ∧ _ then _ else _) = _
  rw [if_neg (fun w => hn (el.trans w.1))]
theorem ev_0 (hv : evT cs L lt lo hi = evT (cs.drop j) L lt lo hi) (hc : cs[j]? = some cl) (h : cf ≤ e2 ∧ ImC fs cf e2 14 cl.2.2 ∧ d01 cl.2.2 ∧ e2 < un ∧ kdM (fs e2) = 0) (hu : un ≤ 200) (hq : q.1 = 0) (hr : runM fs lt un 200 cf q = 0) : evT cs L lt lo hi = evT (cs.drop (j + 1)) L lt lo hi := by
  rw [hv, dp_s hc]
  show (if cl.1 = L ∧ (cl.2.2 lt).getD 0 = 1 then _ else _) = _
  rw [← run_c h hu (by omega) hq, hr, if_neg (fun w => absurd w.2 (by decide))]
theorem ev_y (hv : evT cs L lt lo hi = evT (cs.drop j) L lt lo hi) (hc : cs[j]? = some cl) (el : lc = cl.1) (hn : lc = L) (h : cf ≤ e2 ∧ ImC fs cf e2 14 cl.2.2 ∧ d01 cl.2.2 ∧ e2 < un ∧ kdM (fs e2) = 0) (h2 : nf ≤ e1 ∧ ImC fs nf e1 15 cl.2.1 ∧ e1 < un ∧ kdM (fs e1) = 0) (hu : un ≤ 200) {q2 : StM} (hq : q.1 = 0) (hq2 : q2.1 = 0) (hr : ¬ runM fs lt un 200 cf q = 0) : hdM (runM fs lt un 200 nf q2) lo hi = evT cs L lt lo hi := by
  rw [hv, dp_s hc]
  rw [run_c h hu (by omega) hq] at hr
  have h1 : (cl.2.2 lt).getD 0 = 1 := by
    cases ed : cl.2.2 lt with
    | none => rw [ed] at hr; exact absurd rfl hr
    | some v =>
      rw [ed] at hr
      rcases h.2.2.1 lt v ed with rfl | rfl
      · exact absurd rfl hr
      · rfl
  show _ = (if cl.1 = L ∧ (cl.2.2 lt).getD 0 = 1 then hdM ((cl.2.1 lt).getD 0) lo hi else _)
  rw [if_pos ⟨el.symm.trans hn, h1⟩, run_n h2 hu (by omega) hq2]
theorem ev_e (hv : evT cs L lt lo hi = evT (cs.drop j) L lt lo hi) (hl : cs.length = k1) (hj : k1 ≤ j) : 0 = evT cs L lt lo hi := by
  rw [hv, List.drop_eq_nil_of_le (by omega)]
  rfl
end EVS
theorem hd_mm {n lo hi x y : Int32} (h : lo ≤ hi) (e1 : x = if n < hi then n else hi) (e2 : y = if lo < x then x else lo) : y = hdM n lo hi := by
  have h1 := Int32.le_iff_toInt_le.mp h
  unfold hdM
  rw [e2, e1]
  by_cases c1 : n < hi
  · rw [if_pos c1]
    have c2 := Int32.lt_iff_toInt_lt.mp c1
    by_cases c3 : lo < n
    · have c4 := Int32.lt_iff_toInt_lt.mp c3
      rw [if_pos c3, if_neg (fun w => by have := Int32.lt_iff_toInt_lt.mp w; omega), if_neg (fun w => by have := Int32.lt_iff_toInt_lt.mp w; omega)]
    · rw [if_neg c3]
      by_cases c5 : n < lo
      · rw [if_pos c5]
      · rw [if_neg c5, if_neg (fun w => by have := Int32.lt_iff_toInt_lt.mp w; omega)]
        exact Int32.le_antisymm (Int32.not_lt.mp c5) (Int32.not_lt.mp c3)
  · rw [if_neg c1]
    have c2 := Int32.le_iff_toInt_le.mp (Int32.not_lt.mp c1)
    rw [if_neg (show ¬ n < lo from fun w => by have := Int32.lt_iff_toInt_lt.mp w; omega)]
    by_cases c3 : hi < n
    · rw [if_pos c3]
      by_cases c4 : lo < hi
      · rw [if_pos c4]
      · rw [if_neg c4]
        exact Int32.le_antisymm h (Int32.not_lt.mp c4)
    · rw [if_neg c3]
      have e : n = hi := Int32.le_antisymm (Int32.not_lt.mp c3) (Int32.not_lt.mp c1)
      rw [e]
      by_cases c4 : lo < hi
      · rw [if_pos c4]
      · rw [if_neg c4]
        exact Int32.le_antisymm h (Int32.not_lt.mp c4)
theorem evT_ext {k1 un : Nat} {fs f3 f4 f5 lt l2 : Nat → Int32} {cs : List ClA} (h : CTk k1 fs un f3 f4 f5 cs) (hu : un ≤ 200) (he : ∀ i, i < 26 → lt i = l2 i) (L : Nat) (lo hi : Int32) : evT cs L lt lo hi = evT cs L l2 lo hi := by
  have key : ∀ c ∈ cs, (c.2.1 lt).getD 0 = (c.2.1 l2).getD 0 ∧ (c.2.2 lt).getD 0 = (c.2.2 l2).getD 0 := by
    intro c hc
    obtain ⟨j, hj, e⟩ := List.getElem_of_mem hc
    obtain ⟨cl, lc, nf, e1, cf, e2, b0, -, -, -, -, -, b1, b2⟩ := CT_at h (by rw [← h.1]; exact hj)
    have ec : cl = c := by
      rw [List.getElem?_eq_getElem hj, e] at b0
      have b0 : c = cl := by simpa using b0
      exact b0.symm
    subst ec
    rw [← run_n (lt := lt) (q := (0, fun _ => 0)) b1 hu (by omega) rfl, ← run_n (lt := l2) (q := (0, fun _ => 0)) b1 hu (by omega) rfl, ← run_c (lt := lt) (q := (0, fun _ => 0)) b2 hu (by omega) rfl, ← run_c (lt := l2) (q := (0, fun _ => 0)) b2 hu (by omega) rfl]
    exact ⟨run_ext he _ _ _, run_ext he _ _ _⟩
  clear h
  induction cs with
  | nil => rfl
  | cons c cs ih =>
    obtain ⟨a1, a2⟩ := key c List.mem_cons_self
    show (if c.1 = L ∧ (c.2.2 lt).getD 0 = 1 then hdM ((c.2.1 lt).getD 0) lo hi else evT cs L lt lo hi) = (if c.1 = L ∧ (c.2.2 l2).getD 0 = 1 then hdM ((c.2.1 l2).getD 0) lo hi else evT cs L l2 lo hi)
    rw [a1, a2, ih (fun x hx => key x (List.mem_cons_of_mem _ hx))]
theorem lf_X9_push_t_3 (t : Nat → Nat) (un : Nat) (k1 : Nat) (p1 : Nat) (rf : Int32) (fk : Nat → Int32) (n1 : Int32) (hp : p1 ≤ 32) (c_1 : 32 ≤ nI p1) : 32 ≤ p1 := by
  exact (nI_leI (a := 32) (b := p1) (by omega) (by omega)).mp c_1
theorem lf_X9_push_t_4 (t : Nat → Nat) (un : Nat) (k1 : Nat) (p1 : Nat) (rf : Int32) (fk : Nat → Int32) (n1 : Int32) (hp : p1 ≤ 32) (c_1 : 32 ≤ nI p1) (n_2 : 32 ≤ p1) : ((p1 : Nat) ≤ 32) ∧ ((((p1 : Nat), (fk : Nat → Int32)) : StM) = pushM n1 ((p1, fk) : StM)) := by
  first | (refine ⟨by omega, ?_⟩; exact (if_neg (show ¬ p1 < 32 by omega)).symm) | (refine ⟨by omega, ?_⟩; subst_vars; exact (if_pos (show p1 < 32 by omega)).symm)
theorem lf_X9_push_t_6 (t : Nat → Nat) (un : Nat) (k1 : Nat) (p1 : Nat) (rf : Int32) (fk : Nat → Int32) (n1 : Int32) (hp : p1 ≤ 32) (c_1 : ¬ 32 ≤ nI p1) : p1 < 32 := by
  exact Nat.lt_of_not_le (fun q => c_1 ((nI_leI (a := 32) (b := p1) (by omega) (by omega)).mpr q))
theorem lf_X9_push_t_8 (t : Nat → Nat) (un : Nat) (k1 : Nat) (p1 : Nat) (rf : Int32) (fk : Nat → Int32) (n1 : Int32) (hp : p1 ≤ 32) (c_1 : ¬ 32 ≤ nI p1) (n_5 : p1 < 32) : p1 < 32 := by
  omega
theorem lf_X9_push_t_9 (t : Nat → Nat) (un : Nat) (k1 : Nat) (p1 : Nat) (rf : Int32) (fk : Nat → Int32) (n1 : Int32) (hp : p1 ≤ 32) (c_1 : ¬ 32 ≤ nI p1) (n_5 : p1 < 32) (f_7 : Nat → Int32) (ef_7 : f_7 = upd fk p1 n1) : (((p1 + 1) : Nat) ≤ 32) ∧ (((((p1 + 1) : Nat), (f_7 : Nat → Int32)) : StM) = pushM n1 ((p1, fk) : StM)) := by
  first | (refine ⟨by omega, ?_⟩; exact (if_neg (show ¬ p1 < 32 by omega)).symm) | (refine ⟨by omega, ?_⟩; subst_vars; exact (if_pos (show p1 < 32 by omega)).symm)
set_option maxHeartbeats 4000000 in
set_option maxRecDepth 100000 in
theorem c_X9_push_t (l : Launch) (D : va_G) (cI cB cZ cJ : ClassId) (tx : List (ClassId × FieldType)) (t : Nat → Nat) (un : Nat) (k1 : Nat) (p1 : Nat) (rf : Int32) (fk : Nat → Int32) (n1 : Int32) (hp : p1 ≤ 32) : WrV l D cI cB cZ cJ tx yX9_push cX9_push 2 none 0 0 0 [.ref (t 0), .int n1] [(t 0, .inr (9, [.ref (t 1), .ref (t 2), .ref (t 3), .ref (t 4), .ref (t 5), .int (nI un), .int (nI k1), .int (nI p1), .int rf])), (t 2, .inl (cI, 32, .inl fk))] (fun (v : (Nat) × (Nat → Int32)) => (v.1 ≤ 32) ∧ (((v.1, v.2) : StM) = pushM n1 ((p1, fk) : StM))) (fun v => [(t 0, .inr (9, [.ref (t 1), .ref (t 2), .ref (t 3), .ref (t 4), .ref (t 5), .int (nI un), .int (nI k1), .int (nI (v.1)), .int rf])), (t 2, .inl (cI, 32, .inl v.2))]) := by
  refine wrv_of2 (by decide) (Nat.le_of_ble_eq_true rfl) ?_
  intro p e s m below meth c A ls H locs hC hK hP hD hA hS hl
  obtain ⟨hx, hb, hr, hml, hown, hts, hlocks, hin⟩ := hC
  have hown : s.vm.findClass RX9 = some m.cls := hown
  have hl : lv_has ls 2 [(0, .ref (t 0)), (1, .int n1)] := hl
  refine W_gQ (fun Q hQ => ?_)
  refine lv_aload_n hx hb dX9_push_0 rfl (lv_at hl 0 rfl) ?_
  refine va_get (D := D) (ci := 9) (v := .int (nI p1)) (C := RX9) (T := TX9) (N := 9) hx hb hts inT_X9 hown hK.1 hP 0 rfl rfl 7 (by decide) (hts _ k_203) (fun _ h9 => h9) rfl dX9_push_1 ?_
  refine lv_aload_n hx hb dX9_push_4 rfl (lv_at hl 0 rfl) ?_
  refine va_get (D := D) (ci := 9) (v := .ref (t 2)) (C := RX9) (T := TX9) (N := 9) hx hb hts inT_X9 hown hK.1 hP 0 rfl rfl 1 (by decide) (hts _ k_195) (fun _ h9 => h9) rfl dX9_push_5 ?_
  refine ln_x (v := 32) hx hb hK hP 1 0 rfl rfl (show Int32.ofNat 32 = 32 from by decide) dX9_push_8 ?_
  refine lv_icmp_ge (tgt := 32) hx hb dX9_push_9 (by decide) (fun c_1 => ?_) (fun c_1 => ?_)
  · have n_2 : 32 ≤ p1 := (lf_X9_push_t_3 t un k1 p1 rf fk n1 hp c_1)
    rw [hQ]
    exact W.vret hx hb hr (fun tt9 ht hW => ⟨⟨((p1 : Nat), (fk : Nat → Int32)), rfl, (lf_X9_push_t_4 t un k1 p1 rf fk n1 hp c_1 n_2), ⟨by rw [ht]; exact hP, hD⟩⟩, hS.F ht⟩) hS.2.2 dX9_push_32 hlocks
  · have n_5 : p1 < 32 := (lf_X9_push_t_6 t un k1 p1 rf fk n1 hp c_1)
    refine lv_aload_n hx hb dX9_push_12 rfl (lv_at hl 0 rfl) ?_
    refine va_get (D := D) (ci := 9) (v := .ref (t 2)) (C := RX9) (T := TX9) (N := 9) hx hb hts inT_X9 hown hK.1 hP 0 rfl rfl 1 (by decide) (hts _ k_195) (fun _ h9 => h9) rfl dX9_push_13 ?_
    refine lv_aload_n hx hb dX9_push_16 rfl (lv_at hl 0 rfl) ?_
    refine va_get (D := D) (ci := 9) (v := .int (nI p1)) (C := RX9) (T := TX9) (N := 9) hx hb hts inT_X9 hown hK.1 hP 0 rfl rfl 7 (by decide) (hts _ k_203) (fun _ h9 => h9) rfl dX9_push_17 ?_
    refine lv_iload_n hx hb dX9_push_20 rfl (lv_at hl 1 rfl) ?_
    refine su_i (j := p1) hx hb hK hP hD hS 1 rfl (lf_X9_push_t_8 t un k1 p1 rf fk n1 hp c_1 n_5) (by first | decide | assumption) dX9_push_21 (fun f_7 H locs ef_7 hP hD hS => ?_)
    have hPD := pd_mk (ws := [(t 0, .inr (9, [.ref (t 1), .ref (t 2), .ref (t 3), .ref (t 4), .ref (t 5), .int (nI un), .int (nI k1), .int (nI p1), .int rf])), (t 2, .inl (cI, 32, .inl f_7))]) hP hD
    have hP := hPD.1
    have hD := hPD.2
    refine lv_aload_n hx hb dX9_push_22 rfl (lv_at hl 0 rfl) ?_
    refine lv_dup hx hb dX9_push_23 rfl ?_
    refine va_get (D := D) (ci := 9) (v := .int (nI p1)) (C := RX9) (T := TX9) (N := 9) hx hb hts inT_X9 hown hK.1 hP 0 rfl rfl 7 (by decide) (hts _ k_203) (fun _ h9 => h9) rfl dX9_push_24 ?_
    refine lv_iconst (v := 1) hx hb dX9_push_27 (by decide) ?_
    refine lv_iadd hx hb dX9_push_28 ?_
    refine lv_topv (y := nI (p1 + 1)) (nI_add p1 1) ?_
    refine va_put (D := D) (ci := 9) (v := .int (nI (p1 + 1))) (ty := .int) (C := RX9) (T := TX9) (N := 9) hx hb hts inT_X9 tyX9 tyX9_ok nmX9 hown hK.1 hP hD hS 0 rfl rfl 7 (by decide) (hts _ k_203) (fun _ h9 => h9) rfl (by decide +kernel) rfl rfl (Nat.le_of_ble_eq_true rfl) dX9_push_29 (fun H locs hP hD hS => ?_)
    have hPD := pd_mk (ws := [(t 0, .inr (9, [.ref (t 1), .ref (t 2), .ref (t 3), .ref (t 4), .ref (t 5), .int (nI un), .int (nI k1), .int (nI (p1 + 1)), .int rf])), (t 2, .inl (cI, 32, .inl f_7))]) hP hD
    have hP := hPD.1
    have hD := hPD.2
    rw [hQ]
    exact W.vret hx hb hr (fun tt9 ht hW => ⟨⟨(((p1 + 1) : Nat), (f_7 : Nat → Int32)), rfl, (lf_X9_push_t_9 t un k1 p1 rf fk n1 hp c_1 n_5 f_7 ef_7), ⟨by rw [ht]; exact hP, hD⟩⟩, hS.F ht⟩) hS.2.2 dX9_push_32 hlocks

theorem lf_X9_pop_t_3 (t : Nat → Nat) (un : Nat) (k1 : Nat) (p1 : Nat) (rf : Int32) (fk : Nat → Int32) (hp : p1 ≤ 32) (c_1 : ¬ nI p1 = 0) : p1 ≠ 0 := by
  exact fun q => c_1 ((nI_eq (a := p1) (b := 0) (by omega) (by omega)).mpr q)
theorem lf_X9_pop_t_4 (t : Nat → Nat) (un : Nat) (k1 : Nat) (p1 : Nat) (rf : Int32) (fk : Nat → Int32) (hp : p1 ≤ 32) (c_1 : ¬ nI p1 = 0) (n_2 : p1 ≠ 0) : 1 ≤ p1 := by
  omega
theorem lf_X9_pop_t_5 (t : Nat → Nat) (un : Nat) (k1 : Nat) (p1 : Nat) (rf : Int32) (fk : Nat → Int32) (hp : p1 ≤ 32) (c_1 : ¬ nI p1 = 0) (n_2 : p1 ≠ 0) : (p1 - 1) < 32 := by
  omega
theorem lf_X9_pop_t_6 (t : Nat → Nat) (un : Nat) (k1 : Nat) (p1 : Nat) (rf : Int32) (fk : Nat → Int32) (hp : p1 ≤ 32) (c_1 : ¬ nI p1 = 0) (n_2 : p1 ≠ 0) : (fk (p1 - 1) : Int32) = popV ((p1, fk) : StM) ∧ (((p1 - 1) : Nat) ≤ 32) ∧ (((((p1 - 1) : Nat), fk) : StM) = popS ((p1, fk) : StM)) := by
  first
    | (have e : p1 = 0 := by omega
       subst e; exact ⟨rfl, by omega, rfl⟩)
    | (refine ⟨?_, by omega, ?_⟩
       · exact (if_neg (show ¬ p1 = 0 by omega)).symm
       · exact (if_neg (show ¬ p1 = 0 by omega)).symm)
theorem lf_X9_pop_t_8 (t : Nat → Nat) (un : Nat) (k1 : Nat) (p1 : Nat) (rf : Int32) (fk : Nat → Int32) (hp : p1 ≤ 32) (c_1 : nI p1 = 0) : p1 = 0 := by
  exact (nI_eq (a := p1) (b := 0) (by omega) (by omega)).mp c_1
theorem lf_X9_pop_t_9 (t : Nat → Nat) (un : Nat) (k1 : Nat) (p1 : Nat) (rf : Int32) (fk : Nat → Int32) (hp : p1 ≤ 32) (c_1 : nI p1 = 0) (n_7 : p1 = 0) : (0 : Int32) = popV ((p1, fk) : StM) ∧ ((p1 : Nat) ≤ 32) ∧ ((((p1 : Nat), fk) : StM) = popS ((p1, fk) : StM)) := by
  first
    | (have e : p1 = 0 := by omega
       subst e; exact ⟨rfl, by omega, rfl⟩)
    | (refine ⟨?_, by omega, ?_⟩
       · exact (if_neg (show ¬ p1 = 0 by omega)).symm
       · exact (if_neg (show ¬ p1 = 0 by omega)).symm)
set_option maxHeartbeats 4000000 in
set_option maxRecDepth 100000 in
theorem c_X9_pop_t (l : Launch) (D : va_G) (cI cB cZ cJ : ClassId) (tx : List (ClassId × FieldType)) (t : Nat → Nat) (un : Nat) (k1 : Nat) (p1 : Nat) (rf : Int32) (fk : Nat → Int32) (hp : p1 ≤ 32) : WrI l D cI cB cZ cJ tx yX9_pop cX9_pop 1 (some .int) 0 0 0 [.ref (t 0)] [(t 0, .inr (9, [.ref (t 1), .ref (t 2), .ref (t 3), .ref (t 4), .ref (t 5), .int (nI un), .int (nI k1), .int (nI p1), .int rf])), (t 2, .inl (cI, 32, .inl fk))] (fun (r : Int32) (v : (Nat)) => r = popV ((p1, fk) : StM) ∧ (v ≤ 32) ∧ (((v, fk) : StM) = popS ((p1, fk) : StM))) (fun v => [(t 0, .inr (9, [.ref (t 1), .ref (t 2), .ref (t 3), .ref (t 4), .ref (t 5), .int (nI un), .int (nI k1), .int (nI v), .int rf])), (t 2, .inl (cI, 32, .inl fk))]) := by
  refine wri_of2 (by decide) (Nat.le_of_ble_eq_true rfl) ?_
  intro p e s m below meth c A ls H locs hC hK hP hD hA hS hl
  obtain ⟨hx, hb, hr, hml, hown, hts, hlocks, hin⟩ := hC
  have hown : s.vm.findClass RX9 = some m.cls := hown
  have hl : lv_has ls 1 [(0, .ref (t 0))] := hl
  refine W_gQ (fun Q hQ => ?_)
  refine lv_aload_n hx hb dX9_pop_0 rfl (lv_at hl 0 rfl) ?_
  refine va_get (D := D) (ci := 9) (v := .int (nI p1)) (C := RX9) (T := TX9) (N := 9) hx hb hts inT_X9 hown hK.1 hP 0 rfl rfl 7 (by decide) (hts _ k_203) (fun _ h9 => h9) rfl dX9_pop_1 ?_
  refine lv_if_ne (tgt := 9) hx hb dX9_pop_4 (by decide) (fun c_1 => ?_) (fun c_1 => ?_)
  · have n_2 : p1 ≠ 0 := (lf_X9_pop_t_3 t un k1 p1 rf fk hp c_1)
    refine lv_aload_n hx hb dX9_pop_9 rfl (lv_at hl 0 rfl) ?_
    refine lv_dup hx hb dX9_pop_10 rfl ?_
    refine va_get (D := D) (ci := 9) (v := .int (nI p1)) (C := RX9) (T := TX9) (N := 9) hx hb hts inT_X9 hown hK.1 hP 0 rfl rfl 7 (by decide) (hts _ k_203) (fun _ h9 => h9) rfl dX9_pop_11 ?_
    refine lv_iconst (v := 1) hx hb dX9_pop_14 (by decide) ?_
    refine lv_isub hx hb dX9_pop_15 ?_
    refine lv_topv (y := nI (p1 - 1)) (pk_sub (lf_X9_pop_t_4 t un k1 p1 rf fk hp c_1 n_2)) ?_
    refine va_put (D := D) (ci := 9) (v := .int (nI (p1 - 1))) (ty := .int) (C := RX9) (T := TX9) (N := 9) hx hb hts inT_X9 tyX9 tyX9_ok nmX9 hown hK.1 hP hD hS 0 rfl rfl 7 (by decide) (hts _ k_203) (fun _ h9 => h9) rfl (by decide +kernel) rfl rfl (Nat.le_of_ble_eq_true rfl) dX9_pop_16 (fun H locs hP hD hS => ?_)
    have hPD := pd_mk (ws := [(t 0, .inr (9, [.ref (t 1), .ref (t 2), .ref (t 3), .ref (t 4), .ref (t 5), .int (nI un), .int (nI k1), .int (nI (p1 - 1)), .int rf])), (t 2, .inl (cI, 32, .inl fk))]) hP hD
    have hP := hPD.1
    have hD := hPD.2
    refine lv_aload_n hx hb dX9_pop_19 rfl (lv_at hl 0 rfl) ?_
    refine va_get (D := D) (ci := 9) (v := .ref (t 2)) (C := RX9) (T := TX9) (N := 9) hx hb hts inT_X9 hown hK.1 hP 0 rfl rfl 1 (by decide) (hts _ k_195) (fun _ h9 => h9) rfl dX9_pop_20 ?_
    refine lv_aload_n hx hb dX9_pop_23 rfl (lv_at hl 0 rfl) ?_
    refine va_get (D := D) (ci := 9) (v := .int (nI (p1 - 1))) (C := RX9) (T := TX9) (N := 9) hx hb hts inT_X9 hown hK.1 hP 0 rfl rfl 7 (by decide) (hts _ k_203) (fun _ h9 => h9) rfl dX9_pop_24 ?_
    refine lt_i (j := (p1 - 1)) hx hb hK hP 1 rfl (lf_X9_pop_t_5 t un k1 p1 rf fk hp c_1 n_2) (by decide) dX9_pop_27 ?_
    rw [hQ]
    exact W.iret (v := fk (p1 - 1)) hx hb hr (fun tt9 ht hW => ⟨⟨(fk (p1 - 1) : Int32), (((p1 - 1) : Nat)), rfl, (lf_X9_pop_t_6 t un k1 p1 rf fk hp c_1 n_2), ⟨by rw [ht]; exact hP, hD⟩⟩, hS.F ht⟩) hS.2.2 dX9_pop_28 hlocks
  · have n_7 : p1 = 0 := (lf_X9_pop_t_8 t un k1 p1 rf fk hp c_1)
    refine lv_iconst (v := 0) hx hb dX9_pop_7 (by decide) ?_
    rw [hQ]
    exact W.iret (v := 0) hx hb hr (fun tt9 ht hW => ⟨⟨(0 : Int32), ((p1 : Nat)), rfl, (lf_X9_pop_t_9 t un k1 p1 rf fk hp c_1 n_7), ⟨by rw [ht]; exact hP, hD⟩⟩, hS.F ht⟩) hS.2.2 dX9_pop_8 hlocks

theorem lf_X9_reckon_t_3 (t : Nat → Nat) (un : Nat) (k1 : Nat) (p1 : Nat) (rf : Int32) (k0 : Nat) (n2 : Int32) (n3 : Int32) (hk0 : k0 < 16) (c_1 : k0 = 3) (x_2 : Int32) (ex_2 : x_2 = n2 + n3) : rcQ k0 n2 n3 rf (x_2 : Int32) (rf : Int32) ∧ (True) := by
  refine ⟨?_, trivial⟩
  first | exact rcQ.n (by omega) (op_3 (by assumption) (by assumption)) | exact rcQ.n (by omega) (op_4 (by assumption) (by assumption)) | exact rcQ.n (by omega) (op_5 (by assumption) (by assumption)) | exact rcQ.n (by omega) (op_8y (by assumption) (by assumption)) | exact rcQ.n (by omega) (op_8n (by assumption) (by assumption)) | exact rcQ.n (by omega) (op_9y (by assumption) (by assumption)) | exact rcQ.n (by omega) (op_9n (by assumption) (by assumption)) | exact rcQ.n (by omega) (op_10y (by assumption) (by assumption)) | exact rcQ.n (by omega) (op_10n (by assumption) (by assumption)) | exact rcQ.z (by omega) (by assumption) | exact rcQ.d (by assumption) (op_6 (by assumption) (by assumption)) | exact rcQ.d (by assumption) (op_r (by omega) (by omega) (by assumption))
theorem lf_X9_reckon_t_6 (t : Nat → Nat) (un : Nat) (k1 : Nat) (p1 : Nat) (rf : Int32) (k0 : Nat) (n2 : Int32) (n3 : Int32) (hk0 : k0 < 16) (c_1 : ¬ k0 = 3) (c_4 : k0 = 4) (x_5 : Int32) (ex_5 : x_5 = n2 - n3) : rcQ k0 n2 n3 rf (x_5 : Int32) (rf : Int32) ∧ (True) := by
  refine ⟨?_, trivial⟩
  first | exact rcQ.n (by omega) (op_3 (by assumption) (by assumption)) | exact rcQ.n (by omega) (op_4 (by assumption) (by assumption)) | exact rcQ.n (by omega) (op_5 (by assumption) (by assumption)) | exact rcQ.n (by omega) (op_8y (by assumption) (by assumption)) | exact rcQ.n (by omega) (op_8n (by assumption) (by assumption)) | exact rcQ.n (by omega) (op_9y (by assumption) (by assumption)) | exact rcQ.n (by omega) (op_9n (by assumption) (by assumption)) | exact rcQ.n (by omega) (op_10y (by assumption) (by assumption)) | exact rcQ.n (by omega) (op_10n (by assumption) (by assumption)) | exact rcQ.z (by omega) (by assumption) | exact rcQ.d (by assumption) (op_6 (by assumption) (by assumption)) | exact rcQ.d (by assumption) (op_r (by omega) (by omega) (by assumption))
theorem lf_X9_reckon_t_9 (t : Nat → Nat) (un : Nat) (k1 : Nat) (p1 : Nat) (rf : Int32) (k0 : Nat) (n2 : Int32) (n3 : Int32) (hk0 : k0 < 16) (c_1 : ¬ k0 = 3) (c_4 : ¬ k0 = 4) (c_7 : k0 = 5) (x_8 : Int32) (ex_8 : x_8 = n2 * n3) : rcQ k0 n2 n3 rf (x_8 : Int32) (rf : Int32) ∧ (True) := by
  refine ⟨?_, trivial⟩
  first | exact rcQ.n (by omega) (op_3 (by assumption) (by assumption)) | exact rcQ.n (by omega) (op_4 (by assumption) (by assumption)) | exact rcQ.n (by omega) (op_5 (by assumption) (by assumption)) | exact rcQ.n (by omega) (op_8y (by assumption) (by assumption)) | exact rcQ.n (by omega) (op_8n (by assumption) (by assumption)) | exact rcQ.n (by omega) (op_9y (by assumption) (by assumption)) | exact rcQ.n (by omega) (op_9n (by assumption) (by assumption)) | exact rcQ.n (by omega) (op_10y (by assumption) (by assumption)) | exact rcQ.n (by omega) (op_10n (by assumption) (by assumption)) | exact rcQ.z (by omega) (by assumption) | exact rcQ.d (by assumption) (op_6 (by assumption) (by assumption)) | exact rcQ.d (by assumption) (op_r (by omega) (by omega) (by assumption))
theorem lf_X9_reckon_t_12 (t : Nat → Nat) (un : Nat) (k1 : Nat) (p1 : Nat) (rf : Int32) (k0 : Nat) (n2 : Int32) (n3 : Int32) (hk0 : k0 < 16) (c_1 : ¬ k0 = 3) (c_4 : ¬ k0 = 4) (c_7 : ¬ k0 = 5) (c_10 : k0 = 6) (c_11 : ¬ n3 = 0) : ¬ n3 = 0 := by
  assumption
theorem lf_X9_reckon_t_14 (t : Nat → Nat) (un : Nat) (k1 : Nat) (p1 : Nat) (rf : Int32) (k0 : Nat) (n2 : Int32) (n3 : Int32) (hk0 : k0 < 16) (c_1 : ¬ k0 = 3) (c_4 : ¬ k0 = 4) (c_7 : ¬ k0 = 5) (c_10 : k0 = 6) (c_11 : ¬ n3 = 0) (x_13 : Int32) (ex_13 : x_13 = n2 / n3) : rcQ k0 n2 n3 rf (x_13 : Int32) (rf : Int32) ∧ (True) := by
  refine ⟨?_, trivial⟩
  first | exact rcQ.n (by omega) (op_3 (by assumption) (by assumption)) | exact rcQ.n (by omega) (op_4 (by assumption) (by assumption)) | exact rcQ.n (by omega) (op_5 (by assumption) (by assumption)) | exact rcQ.n (by omega) (op_8y (by assumption) (by assumption)) | exact rcQ.n (by omega) (op_8n (by assumption) (by assumption)) | exact rcQ.n (by omega) (op_9y (by assumption) (by assumption)) | exact rcQ.n (by omega) (op_9n (by assumption) (by assumption)) | exact rcQ.n (by omega) (op_10y (by assumption) (by assumption)) | exact rcQ.n (by omega) (op_10n (by assumption) (by assumption)) | exact rcQ.z (by omega) (by assumption) | exact rcQ.d (by assumption) (op_6 (by assumption) (by assumption)) | exact rcQ.d (by assumption) (op_r (by omega) (by omega) (by assumption))
theorem lf_X9_reckon_t_15 (t : Nat → Nat) (un : Nat) (k1 : Nat) (p1 : Nat) (rf : Int32) (k0 : Nat) (n2 : Int32) (n3 : Int32) (hk0 : k0 < 16) (c_1 : ¬ k0 = 3) (c_4 : ¬ k0 = 4) (c_7 : ¬ k0 = 5) (c_10 : k0 = 6) (c_11 : n3 = 0) : rcQ k0 n2 n3 rf (0 : Int32) (1 : Int32) ∧ (True) := by
  refine ⟨?_, trivial⟩
  first | exact rcQ.n (by omega) (op_3 (by assumption) (by assumption)) | exact rcQ.n (by omega) (op_4 (by assumption) (by assumption)) | exact rcQ.n (by omega) (op_5 (by assumption) (by assumption)) | exact rcQ.n (by omega) (op_8y (by assumption) (by assumption)) | exact rcQ.n (by omega) (op_8n (by assumption) (by assumption)) | exact rcQ.n (by omega) (op_9y (by assumption) (by assumption)) | exact rcQ.n (by omega) (op_9n (by assumption) (by assumption)) | exact rcQ.n (by omega) (op_10y (by assumption) (by assumption)) | exact rcQ.n (by omega) (op_10n (by assumption) (by assumption)) | exact rcQ.z (by omega) (by assumption) | exact rcQ.d (by assumption) (op_6 (by assumption) (by assumption)) | exact rcQ.d (by assumption) (op_r (by omega) (by omega) (by assumption))
theorem lf_X9_reckon_t_18 (t : Nat → Nat) (un : Nat) (k1 : Nat) (p1 : Nat) (rf : Int32) (k0 : Nat) (n2 : Int32) (n3 : Int32) (hk0 : k0 < 16) (c_1 : ¬ k0 = 3) (c_4 : ¬ k0 = 4) (c_7 : ¬ k0 = 5) (c_10 : ¬ k0 = 6) (c_16 : k0 = 7) (c_17 : ¬ n3 = 0) : ¬ n3 = 0 := by
  assumption
theorem lf_X9_reckon_t_20 (t : Nat → Nat) (un : Nat) (k1 : Nat) (p1 : Nat) (rf : Int32) (k0 : Nat) (n2 : Int32) (n3 : Int32) (hk0 : k0 < 16) (c_1 : ¬ k0 = 3) (c_4 : ¬ k0 = 4) (c_7 : ¬ k0 = 5) (c_10 : ¬ k0 = 6) (c_16 : k0 = 7) (c_17 : ¬ n3 = 0) (x_19 : Int32) (ex_19 : x_19 = n2 - n2 / n3 * n3) : rcQ k0 n2 n3 rf (x_19 : Int32) (rf : Int32) ∧ (True) := by
  refine ⟨?_, trivial⟩
  first | exact rcQ.n (by omega) (op_3 (by assumption) (by assumption)) | exact rcQ.n (by omega) (op_4 (by assumption) (by assumption)) | exact rcQ.n (by omega) (op_5 (by assumption) (by assumption)) | exact rcQ.n (by omega) (op_8y (by assumption) (by assumption)) | exact rcQ.n (by omega) (op_8n (by assumption) (by assumption)) | exact rcQ.n (by omega) (op_9y (by assumption) (by assumption)) | exact rcQ.n (by omega) (op_9n (by assumption) (by assumption)) | exact rcQ.n (by omega) (op_10y (by assumption) (by assumption)) | exact rcQ.n (by omega) (op_10n (by assumption) (by assumption)) | exact rcQ.z (by omega) (by assumption) | exact rcQ.d (by assumption) (op_6 (by assumption) (by assumption)) | exact rcQ.d (by assumption) (op_r (by omega) (by omega) (by assumption))
theorem lf_X9_reckon_t_21 (t : Nat → Nat) (un : Nat) (k1 : Nat) (p1 : Nat) (rf : Int32) (k0 : Nat) (n2 : Int32) (n3 : Int32) (hk0 : k0 < 16) (c_1 : ¬ k0 = 3) (c_4 : ¬ k0 = 4) (c_7 : ¬ k0 = 5) (c_10 : ¬ k0 = 6) (c_16 : k0 = 7) (c_17 : n3 = 0) : rcQ k0 n2 n3 rf (0 : Int32) (1 : Int32) ∧ (True) := by
  refine ⟨?_, trivial⟩
  first | exact rcQ.n (by omega) (op_3 (by assumption) (by assumption)) | exact rcQ.n (by omega) (op_4 (by assumption) (by assumption)) | exact rcQ.n (by omega) (op_5 (by assumption) (by assumption)) | exact rcQ.n (by omega) (op_8y (by assumption) (by assumption)) | exact rcQ.n (by omega) (op_8n (by assumption) (by assumption)) | exact rcQ.n (by omega) (op_9y (by assumption) (by assumption)) | exact rcQ.n (by omega) (op_9n (by assumption) (by assumption)) | exact rcQ.n (by omega) (op_10y (by assumption) (by assumption)) | exact rcQ.n (by omega) (op_10n (by assumption) (by assumption)) | exact rcQ.z (by omega) (by assumption) | exact rcQ.d (by assumption) (op_6 (by assumption) (by assumption)) | exact rcQ.d (by assumption) (op_r (by omega) (by omega) (by assumption))
theorem lf_X9_reckon_t_24 (t : Nat → Nat) (un : Nat) (k1 : Nat) (p1 : Nat) (rf : Int32) (k0 : Nat) (n2 : Int32) (n3 : Int32) (hk0 : k0 < 16) (c_1 : ¬ k0 = 3) (c_4 : ¬ k0 = 4) (c_7 : ¬ k0 = 5) (c_10 : ¬ k0 = 6) (c_16 : ¬ k0 = 7) (c_22 : k0 = 8) (c_23 : n3 ≤ n2) : rcQ k0 n2 n3 rf (0 : Int32) (rf : Int32) ∧ (True) := by
  refine ⟨?_, trivial⟩
  first | exact rcQ.n (by omega) (op_3 (by assumption) (by assumption)) | exact rcQ.n (by omega) (op_4 (by assumption) (by assumption)) | exact rcQ.n (by omega) (op_5 (by assumption) (by assumption)) | exact rcQ.n (by omega) (op_8y (by assumption) (by assumption)) | exact rcQ.n (by omega) (op_8n (by assumption) (by assumption)) | exact rcQ.n (by omega) (op_9y (by assumption) (by assumption)) | exact rcQ.n (by omega) (op_9n (by assumption) (by assumption)) | exact rcQ.n (by omega) (op_10y (by assumption) (by assumption)) | exact rcQ.n (by omega) (op_10n (by assumption) (by assumption)) | exact rcQ.z (by omega) (by assumption) | exact rcQ.d (by assumption) (op_6 (by assumption) (by assumption)) | exact rcQ.d (by assumption) (op_r (by omega) (by omega) (by assumption))
theorem lf_X9_reckon_t_25 (t : Nat → Nat) (un : Nat) (k1 : Nat) (p1 : Nat) (rf : Int32) (k0 : Nat) (n2 : Int32) (n3 : Int32) (hk0 : k0 < 16) (c_1 : ¬ k0 = 3) (c_4 : ¬ k0 = 4) (c_7 : ¬ k0 = 5) (c_10 : ¬ k0 = 6) (c_16 : ¬ k0 = 7) (c_22 : k0 = 8) (c_23 : ¬ n3 ≤ n2) : rcQ k0 n2 n3 rf (1 : Int32) (rf : Int32) ∧ (True) := by
  refine ⟨?_, trivial⟩
  first | exact rcQ.n (by omega) (op_3 (by assumption) (by assumption)) | exact rcQ.n (by omega) (op_4 (by assumption) (by assumption)) | exact rcQ.n (by omega) (op_5 (by assumption) (by assumption)) | exact rcQ.n (by omega) (op_8y (by assumption) (by assumption)) | exact rcQ.n (by omega) (op_8n (by assumption) (by assumption)) | exact rcQ.n (by omega) (op_9y (by assumption) (by assumption)) | exact rcQ.n (by omega) (op_9n (by assumption) (by assumption)) | exact rcQ.n (by omega) (op_10y (by assumption) (by assumption)) | exact rcQ.n (by omega) (op_10n (by assumption) (by assumption)) | exact rcQ.z (by omega) (by assumption) | exact rcQ.d (by assumption) (op_6 (by assumption) (by assumption)) | exact rcQ.d (by assumption) (op_r (by omega) (by omega) (by assumption))
theorem lf_X9_reckon_t_28 (t : Nat → Nat) (un : Nat) (k1 : Nat) (p1 : Nat) (rf : Int32) (k0 : Nat) (n2 : Int32) (n3 : Int32) (hk0 : k0 < 16) (c_1 : ¬ k0 = 3) (c_4 : ¬ k0 = 4) (c_7 : ¬ k0 = 5) (c_10 : ¬ k0 = 6) (c_16 : ¬ k0 = 7) (c_22 : ¬ k0 = 8) (c_26 : k0 = 9) (c_27 : n2 ≤ n3) : rcQ k0 n2 n3 rf (0 : Int32) (rf : Int32) ∧ (True) := by
  refine ⟨?_, trivial⟩
  first | exact rcQ.n (by omega) (op_3 (by assumption) (by assumption)) | exact rcQ.n (by omega) (op_4 (by assumption) (by assumption)) | exact rcQ.n (by omega) (op_5 (by assumption) (by assumption)) | exact rcQ.n (by omega) (op_8y (by assumption) (by assumption)) | exact rcQ.n (by omega) (op_8n (by assumption) (by assumption)) | exact rcQ.n (by omega) (op_9y (by assumption) (by assumption)) | exact rcQ.n (by omega) (op_9n (by assumption) (by assumption)) | exact rcQ.n (by omega) (op_10y (by assumption) (by assumption)) | exact rcQ.n (by omega) (op_10n (by assumption) (by assumption)) | exact rcQ.z (by omega) (by assumption) | exact rcQ.d (by assumption) (op_6 (by assumption) (by assumption)) | exact rcQ.d (by assumption) (op_r (by omega) (by omega) (by assumption))
theorem lf_X9_reckon_t_29 (t : Nat → Nat) (un : Nat) (k1 : Nat) (p1 : Nat) (rf : Int32) (k0 : Nat) (n2 : Int32) (n3 : Int32) (hk0 : k0 < 16) (c_1 : ¬ k0 = 3) (c_4 : ¬ k0 = 4) (c_7 : ¬ k0 = 5) (c_10 : ¬ k0 = 6) (c_16 : ¬ k0 = 7) (c_22 : ¬ k0 = 8) (c_26 : k0 = 9) (c_27 : ¬ n2 ≤ n3) : rcQ k0 n2 n3 rf (1 : Int32) (rf : Int32) ∧ (True) := by
  refine ⟨?_, trivial⟩
  first | exact rcQ.n (by omega) (op_3 (by assumption) (by assumption)) | exact rcQ.n (by omega) (op_4 (by assumption) (by assumption)) | exact rcQ.n (by omega) (op_5 (by assumption) (by assumption)) | exact rcQ.n (by omega) (op_8y (by assumption) (by assumption)) | exact rcQ.n (by omega) (op_8n (by assumption) (by assumption)) | exact rcQ.n (by omega) (op_9y (by assumption) (by assumption)) | exact rcQ.n (by omega) (op_9n (by assumption) (by assumption)) | exact rcQ.n (by omega) (op_10y (by assumption) (by assumption)) | exact rcQ.n (by omega) (op_10n (by assumption) (by assumption)) | exact rcQ.z (by omega) (by assumption) | exact rcQ.d (by assumption) (op_6 (by assumption) (by assumption)) | exact rcQ.d (by assumption) (op_r (by omega) (by omega) (by assumption))
theorem lf_X9_reckon_t_32 (t : Nat → Nat) (un : Nat) (k1 : Nat) (p1 : Nat) (rf : Int32) (k0 : Nat) (n2 : Int32) (n3 : Int32) (hk0 : k0 < 16) (c_1 : ¬ k0 = 3) (c_4 : ¬ k0 = 4) (c_7 : ¬ k0 = 5) (c_10 : ¬ k0 = 6) (c_16 : ¬ k0 = 7) (c_22 : ¬ k0 = 8) (c_26 : ¬ k0 = 9) (c_30 : k0 = 10) (c_31 : ¬ n2 = n3) : rcQ k0 n2 n3 rf (0 : Int32) (rf : Int32) ∧ (True) := by
  refine ⟨?_, trivial⟩
  first | exact rcQ.n (by omega) (op_3 (by assumption) (by assumption)) | exact rcQ.n (by omega) (op_4 (by assumption) (by assumption)) | exact rcQ.n (by omega) (op_5 (by assumption) (by assumption)) | exact rcQ.n (by omega) (op_8y (by assumption) (by assumption)) | exact rcQ.n (by omega) (op_8n (by assumption) (by assumption)) | exact rcQ.n (by omega) (op_9y (by assumption) (by assumption)) | exact rcQ.n (by omega) (op_9n (by assumption) (by assumption)) | exact rcQ.n (by omega) (op_10y (by assumption) (by assumption)) | exact rcQ.n (by omega) (op_10n (by assumption) (by assumption)) | exact rcQ.z (by omega) (by assumption) | exact rcQ.d (by assumption) (op_6 (by assumption) (by assumption)) | exact rcQ.d (by assumption) (op_r (by omega) (by omega) (by assumption))
theorem lf_X9_reckon_t_33 (t : Nat → Nat) (un : Nat) (k1 : Nat) (p1 : Nat) (rf : Int32) (k0 : Nat) (n2 : Int32) (n3 : Int32) (hk0 : k0 < 16) (c_1 : ¬ k0 = 3) (c_4 : ¬ k0 = 4) (c_7 : ¬ k0 = 5) (c_10 : ¬ k0 = 6) (c_16 : ¬ k0 = 7) (c_22 : ¬ k0 = 8) (c_26 : ¬ k0 = 9) (c_30 : k0 = 10) (c_31 : n2 = n3) : rcQ k0 n2 n3 rf (1 : Int32) (rf : Int32) ∧ (True) := by
  refine ⟨?_, trivial⟩
  first | exact rcQ.n (by omega) (op_3 (by assumption) (by assumption)) | exact rcQ.n (by omega) (op_4 (by assumption) (by assumption)) | exact rcQ.n (by omega) (op_5 (by assumption) (by assumption)) | exact rcQ.n (by omega) (op_8y (by assumption) (by assumption)) | exact rcQ.n (by omega) (op_8n (by assumption) (by assumption)) | exact rcQ.n (by omega) (op_9y (by assumption) (by assumption)) | exact rcQ.n (by omega) (op_9n (by assumption) (by assumption)) | exact rcQ.n (by omega) (op_10y (by assumption) (by assumption)) | exact rcQ.n (by omega) (op_10n (by assumption) (by assumption)) | exact rcQ.z (by omega) (by assumption) | exact rcQ.d (by assumption) (op_6 (by assumption) (by assumption)) | exact rcQ.d (by assumption) (op_r (by omega) (by omega) (by assumption))
theorem lf_X9_reckon_t_34 (t : Nat → Nat) (un : Nat) (k1 : Nat) (p1 : Nat) (rf : Int32) (k0 : Nat) (n2 : Int32) (n3 : Int32) (hk0 : k0 < 16) (c_1 : ¬ k0 = 3) (c_4 : ¬ k0 = 4) (c_7 : ¬ k0 = 5) (c_10 : ¬ k0 = 6) (c_16 : ¬ k0 = 7) (c_22 : ¬ k0 = 8) (c_26 : ¬ k0 = 9) (c_30 : ¬ k0 = 10) : (nI k0).toInt < 3 ∨ 10 < (nI k0).toInt := by
  rw [nI_toInt (by omega)]
  omega
theorem lf_X9_reckon_t_38 (t : Nat → Nat) (un : Nat) (k1 : Nat) (p1 : Nat) (rf : Int32) (k0 : Nat) (n2 : Int32) (n3 : Int32) (hk0 : k0 < 16) (c_1 : ¬ k0 = 3) (c_4 : ¬ k0 = 4) (c_7 : ¬ k0 = 5) (c_10 : ¬ k0 = 6) (c_16 : ¬ k0 = 7) (c_22 : ¬ k0 = 8) (c_26 : ¬ k0 = 9) (c_30 : ¬ k0 = 10) (c_35 : ¬ n3 = 0) (c_36 : ¬ nI k0 = 6) : k0 ≠ 6 := by
  exact fun q => c_36 ((nI_eq (a := k0) (b := 6) (by omega) (by omega)).mpr q)
theorem lf_X9_reckon_t_39 (t : Nat → Nat) (un : Nat) (k1 : Nat) (p1 : Nat) (rf : Int32) (k0 : Nat) (n2 : Int32) (n3 : Int32) (hk0 : k0 < 16) (c_1 : ¬ k0 = 3) (c_4 : ¬ k0 = 4) (c_7 : ¬ k0 = 5) (c_10 : ¬ k0 = 6) (c_16 : ¬ k0 = 7) (c_22 : ¬ k0 = 8) (c_26 : ¬ k0 = 9) (c_30 : ¬ k0 = 10) (c_35 : ¬ n3 = 0) (c_36 : ¬ nI k0 = 6) (n_37 : k0 ≠ 6) : ¬ n3 = 0 := by
  assumption
theorem lf_X9_reckon_t_41 (t : Nat → Nat) (un : Nat) (k1 : Nat) (p1 : Nat) (rf : Int32) (k0 : Nat) (n2 : Int32) (n3 : Int32) (hk0 : k0 < 16) (c_1 : ¬ k0 = 3) (c_4 : ¬ k0 = 4) (c_7 : ¬ k0 = 5) (c_10 : ¬ k0 = 6) (c_16 : ¬ k0 = 7) (c_22 : ¬ k0 = 8) (c_26 : ¬ k0 = 9) (c_30 : ¬ k0 = 10) (c_35 : ¬ n3 = 0) (c_36 : ¬ nI k0 = 6) (n_37 : k0 ≠ 6) (x_40 : Int32) (ex_40 : x_40 = n2 - n2 / n3 * n3) : rcQ k0 n2 n3 rf (x_40 : Int32) (rf : Int32) ∧ (True) := by
  refine ⟨?_, trivial⟩
  first | exact rcQ.n (by omega) (op_3 (by assumption) (by assumption)) | exact rcQ.n (by omega) (op_4 (by assumption) (by assumption)) | exact rcQ.n (by omega) (op_5 (by assumption) (by assumption)) | exact rcQ.n (by omega) (op_8y (by assumption) (by assumption)) | exact rcQ.n (by omega) (op_8n (by assumption) (by assumption)) | exact rcQ.n (by omega) (op_9y (by assumption) (by assumption)) | exact rcQ.n (by omega) (op_9n (by assumption) (by assumption)) | exact rcQ.n (by omega) (op_10y (by assumption) (by assumption)) | exact rcQ.n (by omega) (op_10n (by assumption) (by assumption)) | exact rcQ.z (by omega) (by assumption) | exact rcQ.d (by assumption) (op_6 (by assumption) (by assumption)) | exact rcQ.d (by assumption) (op_r (by omega) (by omega) (by assumption))
theorem lf_X9_reckon_t_43 (t : Nat → Nat) (un : Nat) (k1 : Nat) (p1 : Nat) (rf : Int32) (k0 : Nat) (n2 : Int32) (n3 : Int32) (hk0 : k0 < 16) (c_1 : ¬ k0 = 3) (c_4 : ¬ k0 = 4) (c_7 : ¬ k0 = 5) (c_10 : ¬ k0 = 6) (c_16 : ¬ k0 = 7) (c_22 : ¬ k0 = 8) (c_26 : ¬ k0 = 9) (c_30 : ¬ k0 = 10) (c_35 : ¬ n3 = 0) (c_36 : nI k0 = 6) : k0 = 6 := by
  exact (nI_eq (a := k0) (b := 6) (by omega) (by omega)).mp c_36
theorem lf_X9_reckon_t_44 (t : Nat → Nat) (un : Nat) (k1 : Nat) (p1 : Nat) (rf : Int32) (k0 : Nat) (n2 : Int32) (n3 : Int32) (hk0 : k0 < 16) (c_1 : ¬ k0 = 3) (c_4 : ¬ k0 = 4) (c_7 : ¬ k0 = 5) (c_10 : ¬ k0 = 6) (c_16 : ¬ k0 = 7) (c_22 : ¬ k0 = 8) (c_26 : ¬ k0 = 9) (c_30 : ¬ k0 = 10) (c_35 : ¬ n3 = 0) (c_36 : nI k0 = 6) (n_42 : k0 = 6) : ¬ n3 = 0 := by
  assumption
theorem lf_X9_reckon_t_46 (t : Nat → Nat) (un : Nat) (k1 : Nat) (p1 : Nat) (rf : Int32) (k0 : Nat) (n2 : Int32) (n3 : Int32) (hk0 : k0 < 16) (c_1 : ¬ k0 = 3) (c_4 : ¬ k0 = 4) (c_7 : ¬ k0 = 5) (c_10 : ¬ k0 = 6) (c_16 : ¬ k0 = 7) (c_22 : ¬ k0 = 8) (c_26 : ¬ k0 = 9) (c_30 : ¬ k0 = 10) (c_35 : ¬ n3 = 0) (c_36 : nI k0 = 6) (n_42 : k0 = 6) (x_45 : Int32) (ex_45 : x_45 = n2 / n3) : rcQ k0 n2 n3 rf (x_45 : Int32) (rf : Int32) ∧ (True) := by
  refine ⟨?_, trivial⟩
  first | exact rcQ.n (by omega) (op_3 (by assumption) (by assumption)) | exact rcQ.n (by omega) (op_4 (by assumption) (by assumption)) | exact rcQ.n (by omega) (op_5 (by assumption) (by assumption)) | exact rcQ.n (by omega) (op_8y (by assumption) (by assumption)) | exact rcQ.n (by omega) (op_8n (by assumption) (by assumption)) | exact rcQ.n (by omega) (op_9y (by assumption) (by assumption)) | exact rcQ.n (by omega) (op_9n (by assumption) (by assumption)) | exact rcQ.n (by omega) (op_10y (by assumption) (by assumption)) | exact rcQ.n (by omega) (op_10n (by assumption) (by assumption)) | exact rcQ.z (by omega) (by assumption) | exact rcQ.d (by assumption) (op_6 (by assumption) (by assumption)) | exact rcQ.d (by assumption) (op_r (by omega) (by omega) (by assumption))
theorem lf_X9_reckon_t_47 (t : Nat → Nat) (un : Nat) (k1 : Nat) (p1 : Nat) (rf : Int32) (k0 : Nat) (n2 : Int32) (n3 : Int32) (hk0 : k0 < 16) (c_1 : ¬ k0 = 3) (c_4 : ¬ k0 = 4) (c_7 : ¬ k0 = 5) (c_10 : ¬ k0 = 6) (c_16 : ¬ k0 = 7) (c_22 : ¬ k0 = 8) (c_26 : ¬ k0 = 9) (c_30 : ¬ k0 = 10) (c_35 : n3 = 0) : rcQ k0 n2 n3 rf (0 : Int32) (1 : Int32) ∧ (True) := by
  refine ⟨?_, trivial⟩
  first | exact rcQ.n (by omega) (op_3 (by assumption) (by assumption)) | exact rcQ.n (by omega) (op_4 (by assumption) (by assumption)) | exact rcQ.n (by omega) (op_5 (by assumption) (by assumption)) | exact rcQ.n (by omega) (op_8y (by assumption) (by assumption)) | exact rcQ.n (by omega) (op_8n (by assumption) (by assumption)) | exact rcQ.n (by omega) (op_9y (by assumption) (by assumption)) | exact rcQ.n (by omega) (op_9n (by assumption) (by assumption)) | exact rcQ.n (by omega) (op_10y (by assumption) (by assumption)) | exact rcQ.n (by omega) (op_10n (by assumption) (by assumption)) | exact rcQ.z (by omega) (by assumption) | exact rcQ.d (by assumption) (op_6 (by assumption) (by assumption)) | exact rcQ.d (by assumption) (op_r (by omega) (by omega) (by assumption))
set_option maxHeartbeats 4000000 in
set_option maxRecDepth 100000 in
theorem c_X9_reckon_t (l : Launch) (D : va_G) (cI cB cZ cJ : ClassId) (tx : List (ClassId × FieldType)) (t : Nat → Nat) (un : Nat) (k1 : Nat) (p1 : Nat) (rf : Int32) (k0 : Nat) (n2 : Int32) (n3 : Int32) (hk0 : k0 < 16) : WrI l D cI cB cZ cJ tx yX9_reckon cX9_reckon 4 (some .int) 0 0 0 [.ref (t 0), .int (nI k0), .int n2, .int n3] [(t 0, .inr (9, [.ref (t 1), .ref (t 2), .ref (t 3), .ref (t 4), .ref (t 5), .int (nI un), .int (nI k1), .int (nI p1), .int rf]))] (fun (r : Int32) (v : (Int32)) => rcQ k0 n2 n3 rf r v ∧ (True)) (fun v => [(t 0, .inr (9, [.ref (t 1), .ref (t 2), .ref (t 3), .ref (t 4), .ref (t 5), .int (nI un), .int (nI k1), .int (nI p1), .int v]))]) := by
  refine wri_of2 (by decide) (Nat.le_of_ble_eq_true rfl) ?_
  intro p e s m below meth c A ls H locs hC hK hP hD hA hS hl
  obtain ⟨hx, hb, hr, hml, hown, hts, hlocks, hin⟩ := hC
  have hown : s.vm.findClass RX9 = some m.cls := hown
  have hl : lv_has ls 4 [(0, .ref (t 0)), (1, .int (nI k0)), (2, .int n2), (3, .int n3)] := hl
  refine W_gQ (fun Q hQ => ?_)
  refine lv_iload_n hx hb dX9_reckon_0 rfl (lv_at hl 1 rfl) ?_
  by_cases c_1 : k0 = 3
  · subst c_1
    refine lv_tableIn (off := 47) (tgt := 48) hx hb dX9_reckon_1 (by decide) (by decide) rfl (by decide) ?_
    refine lv_iload_n hx hb dX9_reckon_48 rfl (lv_at hl 2 rfl) ?_
    refine lv_iload_n hx hb dX9_reckon_49 rfl (lv_at hl 3 rfl) ?_
    refine lv_iadd hx hb dX9_reckon_50 ?_
    refine lv_topi (fun x_2 ex_2 => ?_)
    rw [hQ]
    exact W.iret (v := x_2) hx hb hr (fun tt9 ht hW => ⟨⟨(x_2 : Int32), ((rf : Int32)), rfl, (lf_X9_reckon_t_3 t un k1 p1 rf 3 n2 n3 hk0 rfl x_2 ex_2), ⟨by rw [ht]; exact hP, hD⟩⟩, hS.F ht⟩) hS.2.2 dX9_reckon_51 hlocks
  by_cases c_4 : k0 = 4
  · subst c_4
    refine lv_tableIn (off := 51) (tgt := 52) hx hb dX9_reckon_1 (by decide) (by decide) rfl (by decide) ?_
    refine lv_iload_n hx hb dX9_reckon_52 rfl (lv_at hl 2 rfl) ?_
    refine lv_iload_n hx hb dX9_reckon_53 rfl (lv_at hl 3 rfl) ?_
    refine lv_isub hx hb dX9_reckon_54 ?_
    refine lv_topi (fun x_5 ex_5 => ?_)
    rw [hQ]
    exact W.iret (v := x_5) hx hb hr (fun tt9 ht hW => ⟨⟨(x_5 : Int32), ((rf : Int32)), rfl, (lf_X9_reckon_t_6 t un k1 p1 rf 4 n2 n3 hk0 c_1 rfl x_5 ex_5), ⟨by rw [ht]; exact hP, hD⟩⟩, hS.F ht⟩) hS.2.2 dX9_reckon_55 hlocks
  by_cases c_7 : k0 = 5
  · subst c_7
    refine lv_tableIn (off := 55) (tgt := 56) hx hb dX9_reckon_1 (by decide) (by decide) rfl (by decide) ?_
    refine lv_iload_n hx hb dX9_reckon_56 rfl (lv_at hl 2 rfl) ?_
    refine lv_iload_n hx hb dX9_reckon_57 rfl (lv_at hl 3 rfl) ?_
    refine lv_imul hx hb dX9_reckon_58 ?_
    refine lv_topi (fun x_8 ex_8 => ?_)
    rw [hQ]
    exact W.iret (v := x_8) hx hb hr (fun tt9 ht hW => ⟨⟨(x_8 : Int32), ((rf : Int32)), rfl, (lf_X9_reckon_t_9 t un k1 p1 rf 5 n2 n3 hk0 c_1 c_4 rfl x_8 ex_8), ⟨by rw [ht]; exact hP, hD⟩⟩, hS.F ht⟩) hS.2.2 dX9_reckon_59 hlocks
  by_cases c_10 : k0 = 6
  · subst c_10
    refine lv_tableIn (off := 92) (tgt := 93) hx hb dX9_reckon_1 (by decide) (by decide) rfl (by decide) ?_
    refine lv_iload_n hx hb dX9_reckon_93 rfl (lv_at hl 3 rfl) ?_
    refine lv_if_ne (tgt := 104) hx hb dX9_reckon_94 (by decide) (fun c_11 => ?_) (fun c_11 => ?_)
    · refine lv_iload_n hx hb dX9_reckon_104 rfl (lv_at hl 1 rfl) ?_
      refine lv_bipush (v := 6) hx hb dX9_reckon_105 (by decide) ?_
      refine lv_icmp_ne (tgt := 116) hx hb dX9_reckon_107 (by decide) (fun c => absurd c (by decide)) (fun _ => ?_)
      refine lv_iload_n hx hb dX9_reckon_110 rfl (lv_at hl 2 rfl) ?_
      refine lv_iload_n hx hb dX9_reckon_111 rfl (lv_at hl 3 rfl) ?_
      refine lv_idiv hx hb dX9_reckon_112 (lf_X9_reckon_t_12 t un k1 p1 rf 6 n2 n3 hk0 c_1 c_4 c_7 rfl c_11) ?_
      refine lv_topi (fun x_13 ex_13 => ?_)
      refine lv_goto (tgt := 119) hx hb dX9_reckon_113 (by decide) ?_
      rw [hQ]
      exact W.iret (v := x_13) hx hb hr (fun tt9 ht hW => ⟨⟨(x_13 : Int32), ((rf : Int32)), rfl, (lf_X9_reckon_t_14 t un k1 p1 rf 6 n2 n3 hk0 c_1 c_4 c_7 rfl c_11 x_13 ex_13), ⟨by rw [ht]; exact hP, hD⟩⟩, hS.F ht⟩) hS.2.2 dX9_reckon_119 hlocks
    · refine lv_aload_n hx hb dX9_reckon_97 rfl (lv_at hl 0 rfl) ?_
      refine lv_iconst (v := 1) hx hb dX9_reckon_98 (by decide) ?_
      refine va_put (D := D) (ci := 9) (v := .int 1) (ty := .boolean) (C := RX9) (T := TX9) (N := 9) hx hb hts inT_X9 tyX9 tyX9_ok nmX9 hown hK.1 hP hD hS 0 rfl rfl 8 (by decide) (hts _ k_204) (fun _ h9 => h9) rfl (by decide +kernel) rfl rfl (Nat.le_of_ble_eq_true rfl) dX9_reckon_99 (fun H locs hP hD hS => ?_)
      have hPD := pd_mk (ws := [(t 0, .inr (9, [.ref (t 1), .ref (t 2), .ref (t 3), .ref (t 4), .ref (t 5), .int (nI un), .int (nI k1), .int (nI p1), .int 1]))]) hP hD
      have hP := hPD.1
      have hD := hPD.2
      refine lv_iconst (v := 0) hx hb dX9_reckon_102 (by decide) ?_
      rw [hQ]
      exact W.iret (v := 0) hx hb hr (fun tt9 ht hW => ⟨⟨(0 : Int32), ((1 : Int32)), rfl, (lf_X9_reckon_t_15 t un k1 p1 rf 6 n2 n3 hk0 c_1 c_4 c_7 rfl c_11), ⟨by rw [ht]; exact hP, hD⟩⟩, hS.F ht⟩) hS.2.2 dX9_reckon_103 hlocks
  by_cases c_16 : k0 = 7
  · subst c_16
    refine lv_tableIn (off := 92) (tgt := 93) hx hb dX9_reckon_1 (by decide) (by decide) rfl (by decide) ?_
    refine lv_iload_n hx hb dX9_reckon_93 rfl (lv_at hl 3 rfl) ?_
    refine lv_if_ne (tgt := 104) hx hb dX9_reckon_94 (by decide) (fun c_17 => ?_) (fun c_17 => ?_)
    · refine lv_iload_n hx hb dX9_reckon_104 rfl (lv_at hl 1 rfl) ?_
      refine lv_bipush (v := 6) hx hb dX9_reckon_105 (by decide) ?_
      refine lv_icmp_ne (tgt := 116) hx hb dX9_reckon_107 (by decide) (fun _ => ?_) (fun c => absurd c (by decide))
      refine lv_iload_n hx hb dX9_reckon_116 rfl (lv_at hl 2 rfl) ?_
      refine lv_iload_n hx hb dX9_reckon_117 rfl (lv_at hl 3 rfl) ?_
      refine lv_irem hx hb dX9_reckon_118 (lf_X9_reckon_t_18 t un k1 p1 rf 7 n2 n3 hk0 c_1 c_4 c_7 c_10 rfl c_17) ?_
      refine lv_topi (fun x_19 ex_19 => ?_)
      rw [hQ]
      exact W.iret (v := x_19) hx hb hr (fun tt9 ht hW => ⟨⟨(x_19 : Int32), ((rf : Int32)), rfl, (lf_X9_reckon_t_20 t un k1 p1 rf 7 n2 n3 hk0 c_1 c_4 c_7 c_10 rfl c_17 x_19 ex_19), ⟨by rw [ht]; exact hP, hD⟩⟩, hS.F ht⟩) hS.2.2 dX9_reckon_119 hlocks
    · refine lv_aload_n hx hb dX9_reckon_97 rfl (lv_at hl 0 rfl) ?_
      refine lv_iconst (v := 1) hx hb dX9_reckon_98 (by decide) ?_
      refine va_put (D := D) (ci := 9) (v := .int 1) (ty := .boolean) (C := RX9) (T := TX9) (N := 9) hx hb hts inT_X9 tyX9 tyX9_ok nmX9 hown hK.1 hP hD hS 0 rfl rfl 8 (by decide) (hts _ k_204) (fun _ h9 => h9) rfl (by decide +kernel) rfl rfl (Nat.le_of_ble_eq_true rfl) dX9_reckon_99 (fun H locs hP hD hS => ?_)
      have hPD := pd_mk (ws := [(t 0, .inr (9, [.ref (t 1), .ref (t 2), .ref (t 3), .ref (t 4), .ref (t 5), .int (nI un), .int (nI k1), .int (nI p1), .int 1]))]) hP hD
      have hP := hPD.1
      have hD := hPD.2
      refine lv_iconst (v := 0) hx hb dX9_reckon_102 (by decide) ?_
      rw [hQ]
      exact W.iret (v := 0) hx hb hr (fun tt9 ht hW => ⟨⟨(0 : Int32), ((1 : Int32)), rfl, (lf_X9_reckon_t_21 t un k1 p1 rf 7 n2 n3 hk0 c_1 c_4 c_7 c_10 rfl c_17), ⟨by rw [ht]; exact hP, hD⟩⟩, hS.F ht⟩) hS.2.2 dX9_reckon_103 hlocks
  by_cases c_22 : k0 = 8
  · subst c_22
    refine lv_tableIn (off := 59) (tgt := 60) hx hb dX9_reckon_1 (by decide) (by decide) rfl (by decide) ?_
    refine lv_iload_n hx hb dX9_reckon_60 rfl (lv_at hl 2 rfl) ?_
    refine lv_iload_n hx hb dX9_reckon_61 rfl (lv_at hl 3 rfl) ?_
    refine lv_icmp_ge (tgt := 69) hx hb dX9_reckon_62 (by decide) (fun c_23 => ?_) (fun c_23 => ?_)
    · refine lv_iconst (v := 0) hx hb dX9_reckon_69 (by decide) ?_
      rw [hQ]
      exact W.iret (v := 0) hx hb hr (fun tt9 ht hW => ⟨⟨(0 : Int32), ((rf : Int32)), rfl, (lf_X9_reckon_t_24 t un k1 p1 rf 8 n2 n3 hk0 c_1 c_4 c_7 c_10 c_16 rfl c_23), ⟨by rw [ht]; exact hP, hD⟩⟩, hS.F ht⟩) hS.2.2 dX9_reckon_70 hlocks
    · refine lv_iconst (v := 1) hx hb dX9_reckon_65 (by decide) ?_
      refine lv_goto (tgt := 70) hx hb dX9_reckon_66 (by decide) ?_
      rw [hQ]
      exact W.iret (v := 1) hx hb hr (fun tt9 ht hW => ⟨⟨(1 : Int32), ((rf : Int32)), rfl, (lf_X9_reckon_t_25 t un k1 p1 rf 8 n2 n3 hk0 c_1 c_4 c_7 c_10 c_16 rfl c_23), ⟨by rw [ht]; exact hP, hD⟩⟩, hS.F ht⟩) hS.2.2 dX9_reckon_70 hlocks
  by_cases c_26 : k0 = 9
  · subst c_26
    refine lv_tableIn (off := 70) (tgt := 71) hx hb dX9_reckon_1 (by decide) (by decide) rfl (by decide) ?_
    refine lv_iload_n hx hb dX9_reckon_71 rfl (lv_at hl 2 rfl) ?_
    refine lv_iload_n hx hb dX9_reckon_72 rfl (lv_at hl 3 rfl) ?_
    refine lv_icmp_le (tgt := 80) hx hb dX9_reckon_73 (by decide) (fun c_27 => ?_) (fun c_27 => ?_)
    · refine lv_iconst (v := 0) hx hb dX9_reckon_80 (by decide) ?_
      rw [hQ]
      exact W.iret (v := 0) hx hb hr (fun tt9 ht hW => ⟨⟨(0 : Int32), ((rf : Int32)), rfl, (lf_X9_reckon_t_28 t un k1 p1 rf 9 n2 n3 hk0 c_1 c_4 c_7 c_10 c_16 c_22 rfl c_27), ⟨by rw [ht]; exact hP, hD⟩⟩, hS.F ht⟩) hS.2.2 dX9_reckon_81 hlocks
    · refine lv_iconst (v := 1) hx hb dX9_reckon_76 (by decide) ?_
      refine lv_goto (tgt := 81) hx hb dX9_reckon_77 (by decide) ?_
      rw [hQ]
      exact W.iret (v := 1) hx hb hr (fun tt9 ht hW => ⟨⟨(1 : Int32), ((rf : Int32)), rfl, (lf_X9_reckon_t_29 t un k1 p1 rf 9 n2 n3 hk0 c_1 c_4 c_7 c_10 c_16 c_22 rfl c_27), ⟨by rw [ht]; exact hP, hD⟩⟩, hS.F ht⟩) hS.2.2 dX9_reckon_81 hlocks
  by_cases c_30 : k0 = 10
  · subst c_30
    refine lv_tableIn (off := 81) (tgt := 82) hx hb dX9_reckon_1 (by decide) (by decide) rfl (by decide) ?_
    refine lv_iload_n hx hb dX9_reckon_82 rfl (lv_at hl 2 rfl) ?_
    refine lv_iload_n hx hb dX9_reckon_83 rfl (lv_at hl 3 rfl) ?_
    refine lv_icmp_ne (tgt := 91) hx hb dX9_reckon_84 (by decide) (fun c_31 => ?_) (fun c_31 => ?_)
    · refine lv_iconst (v := 0) hx hb dX9_reckon_91 (by decide) ?_
      rw [hQ]
      exact W.iret (v := 0) hx hb hr (fun tt9 ht hW => ⟨⟨(0 : Int32), ((rf : Int32)), rfl, (lf_X9_reckon_t_32 t un k1 p1 rf 10 n2 n3 hk0 c_1 c_4 c_7 c_10 c_16 c_22 c_26 rfl c_31), ⟨by rw [ht]; exact hP, hD⟩⟩, hS.F ht⟩) hS.2.2 dX9_reckon_92 hlocks
    · refine lv_iconst (v := 1) hx hb dX9_reckon_87 (by decide) ?_
      refine lv_goto (tgt := 92) hx hb dX9_reckon_88 (by decide) ?_
      rw [hQ]
      exact W.iret (v := 1) hx hb hr (fun tt9 ht hW => ⟨⟨(1 : Int32), ((rf : Int32)), rfl, (lf_X9_reckon_t_33 t un k1 p1 rf 10 n2 n3 hk0 c_1 c_4 c_7 c_10 c_16 c_22 c_26 rfl c_31), ⟨by rw [ht]; exact hP, hD⟩⟩, hS.F ht⟩) hS.2.2 dX9_reckon_92 hlocks
  refine lv_tableOut (tgt := 93) hx hb dX9_reckon_1 (lf_X9_reckon_t_34 t un k1 p1 rf k0 n2 n3 hk0 c_1 c_4 c_7 c_10 c_16 c_22 c_26 c_30) (by decide) ?_
  refine lv_iload_n hx hb dX9_reckon_93 rfl (lv_at hl 3 rfl) ?_
  refine lv_if_ne (tgt := 104) hx hb dX9_reckon_94 (by decide) (fun c_35 => ?_) (fun c_35 => ?_)
  · refine lv_iload_n hx hb dX9_reckon_104 rfl (lv_at hl 1 rfl) ?_
    refine lv_bipush (v := 6) hx hb dX9_reckon_105 (by decide) ?_
    refine lv_icmp_ne (tgt := 116) hx hb dX9_reckon_107 (by decide) (fun c_36 => ?_) (fun c_36 => ?_)
    · have n_37 : k0 ≠ 6 := (lf_X9_reckon_t_38 t un k1 p1 rf k0 n2 n3 hk0 c_1 c_4 c_7 c_10 c_16 c_22 c_26 c_30 c_35 c_36)
      refine lv_iload_n hx hb dX9_reckon_116 rfl (lv_at hl 2 rfl) ?_
      refine lv_iload_n hx hb dX9_reckon_117 rfl (lv_at hl 3 rfl) ?_
      refine lv_irem hx hb dX9_reckon_118 (lf_X9_reckon_t_39 t un k1 p1 rf k0 n2 n3 hk0 c_1 c_4 c_7 c_10 c_16 c_22 c_26 c_30 c_35 c_36 n_37) ?_
      refine lv_topi (fun x_40 ex_40 => ?_)
      rw [hQ]
      exact W.iret (v := x_40) hx hb hr (fun tt9 ht hW => ⟨⟨(x_40 : Int32), ((rf : Int32)), rfl, (lf_X9_reckon_t_41 t un k1 p1 rf k0 n2 n3 hk0 c_1 c_4 c_7 c_10 c_16 c_22 c_26 c_30 c_35 c_36 n_37 x_40 ex_40), ⟨by rw [ht]; exact hP, hD⟩⟩, hS.F ht⟩) hS.2.2 dX9_reckon_119 hlocks
    · have n_42 : k0 = 6 := (lf_X9_reckon_t_43 t un k1 p1 rf k0 n2 n3 hk0 c_1 c_4 c_7 c_10 c_16 c_22 c_26 c_30 c_35 c_36)
      refine lv_iload_n hx hb dX9_reckon_110 rfl (lv_at hl 2 rfl) ?_
      refine lv_iload_n hx hb dX9_reckon_111 rfl (lv_at hl 3 rfl) ?_
      refine lv_idiv hx hb dX9_reckon_112 (lf_X9_reckon_t_44 t un k1 p1 rf k0 n2 n3 hk0 c_1 c_4 c_7 c_10 c_16 c_22 c_26 c_30 c_35 c_36 n_42) ?_
      refine lv_topi (fun x_45 ex_45 => ?_)
      refine lv_goto (tgt := 119) hx hb dX9_reckon_113 (by decide) ?_
      rw [hQ]
      exact W.iret (v := x_45) hx hb hr (fun tt9 ht hW => ⟨⟨(x_45 : Int32), ((rf : Int32)), rfl, (lf_X9_reckon_t_46 t un k1 p1 rf k0 n2 n3 hk0 c_1 c_4 c_7 c_10 c_16 c_22 c_26 c_30 c_35 c_36 n_42 x_45 ex_45), ⟨by rw [ht]; exact hP, hD⟩⟩, hS.F ht⟩) hS.2.2 dX9_reckon_119 hlocks
  · refine lv_aload_n hx hb dX9_reckon_97 rfl (lv_at hl 0 rfl) ?_
    refine lv_iconst (v := 1) hx hb dX9_reckon_98 (by decide) ?_
    refine va_put (D := D) (ci := 9) (v := .int 1) (ty := .boolean) (C := RX9) (T := TX9) (N := 9) hx hb hts inT_X9 tyX9 tyX9_ok nmX9 hown hK.1 hP hD hS 0 rfl rfl 8 (by decide) (hts _ k_204) (fun _ h9 => h9) rfl (by decide +kernel) rfl rfl (Nat.le_of_ble_eq_true rfl) dX9_reckon_99 (fun H locs hP hD hS => ?_)
    have hPD := pd_mk (ws := [(t 0, .inr (9, [.ref (t 1), .ref (t 2), .ref (t 3), .ref (t 4), .ref (t 5), .int (nI un), .int (nI k1), .int (nI p1), .int 1]))]) hP hD
    have hP := hPD.1
    have hD := hPD.2
    refine lv_iconst (v := 0) hx hb dX9_reckon_102 (by decide) ?_
    rw [hQ]
    exact W.iret (v := 0) hx hb hr (fun tt9 ht hW => ⟨⟨(0 : Int32), ((1 : Int32)), rfl, (lf_X9_reckon_t_47 t un k1 p1 rf k0 n2 n3 hk0 c_1 c_4 c_7 c_10 c_16 c_22 c_26 c_30 c_35), ⟨by rw [ht]; exact hP, hD⟩⟩, hS.F ht⟩) hS.2.2 dX9_reckon_103 hlocks

theorem lf_X9_stepOn_t_1 (a : Nat → Nat) (t : Nat → Nat) (un : Nat) (k1 : Nat) (p1 : Nat) (rf : Int32) (fs : Nat → Int32) (fk : Nat → Int32) (g6 : Nat → Int32) (j0 : Nat) (hp : p1 ≤ 32) (hst : ∀ j, j < 200 → 0 ≤ fs j) (hj : j0 < 200) : j0 < 200 := by
  omega
theorem lf_X9_stepOn_t_3 (a : Nat → Nat) (t : Nat → Nat) (un : Nat) (k1 : Nat) (p1 : Nat) (rf : Int32) (fs : Nat → Int32) (fk : Nat → Int32) (g6 : Nat → Int32) (j0 : Nat) (hp : p1 ≤ 32) (hst : ∀ j, j < 200 → 0 ≤ fs j) (hj : j0 < 200) (x_2 : Int32) (ex_2 : x_2 = fs j0 &&& 15) (kd : Nat) (hkd : kd = kdM (fs j0)) (bkd : kd < 16) (ekd : x_2 = nI kd) : j0 < 200 := by
  omega
theorem lf_X9_stepOn_t_6 (a : Nat → Nat) (t : Nat → Nat) (un : Nat) (k1 : Nat) (p1 : Nat) (rf : Int32) (fs : Nat → Int32) (fk : Nat → Int32) (g6 : Nat → Int32) (j0 : Nat) (hp : p1 ≤ 32) (hst : ∀ j, j < 200 → 0 ≤ fs j) (hj : j0 < 200) (x_2 : Int32) (ex_2 : x_2 = fs j0 &&& 15) (kd : Nat) (hkd : kd = kdM (fs j0)) (bkd : kd < 16) (ekd : x_2 = nI kd) (x_4 : Int32) (ex_4 : x_4 = fs j0 >>> (4 &&& 31)) (od : Nat) (hod : od = odM (fs j0)) (bod : od < 2 ^ 27) (eod : x_4 = nI od) (c_5 : kd = 1) : p1 ≤ 32 := by
  first | assumption | omega | decide | rfl
theorem lf_X9_stepOn_t_9 (a : Nat → Nat) (t : Nat → Nat) (un : Nat) (k1 : Nat) (p1 : Nat) (rf : Int32) (fs : Nat → Int32) (fk : Nat → Int32) (g6 : Nat → Int32) (j0 : Nat) (hp : p1 ≤ 32) (hst : ∀ j, j < 200 → 0 ≤ fs j) (hj : j0 < 200) (x_2 : Int32) (ex_2 : x_2 = fs j0 &&& 15) (kd : Nat) (hkd : kd = kdM (fs j0)) (bkd : kd < 16) (ekd : x_2 = nI kd) (x_4 : Int32) (ex_4 : x_4 = fs j0 >>> (4 &&& 31)) (od : Nat) (hod : od = odM (fs j0)) (bod : od < 2 ^ 27) (eod : x_4 = nI od) (c_5 : kd = 1) (p1_8 : Nat) (fk_8 : Nat → Int32) (hz_8_0 : p1_8 ≤ 32) (hz_8_1 : ((p1_8, fk_8) : StM) = pushM (nI od) ((p1, fk) : StM)) : (∃ m : Nat, m < 2 ^ 31 ∧ (nI (j0 + 1) : Int32) = nI m ∧ stQ fs g6 j0 ((p1, fk) : StM) rf m (((p1_8 : Nat), (fk_8 : Nat → Int32)) : StM) (rf : Int32)) ∧ ((p1_8 : Nat) ≤ 32) := by
  refine ⟨⟨_, ?_, rfl, ?_⟩, by omega⟩
  · omega
  · first | exact stQ.num (by assumption) (by assumption) (by assumption) (by assumption) | exact stQ.let1 (by assumption) (by assumption) (by assumption) (by assumption) (by assumption) | exact stQ.let0 (by assumption) (by assumption) (by assumption) (by assumption) (by assumption) | exact stQ.not (by assumption) (by assumption) (by assumption) (by assumption) (by assumption) (by assumption) | exact stQ.f1 (by assumption) (by assumption) (by assumption) (by assumption) (by assumption) (by assumption) (by assumption) | exact stQ.f0 (by assumption) (by assumption) (by assumption) (by assumption) (by assumption) | exact stQ.t1 (by assumption) (by assumption) (by assumption) (by assumption) (by assumption) (by assumption) (by assumption) | exact stQ.t0 (by assumption) (by assumption) (by assumption) (by assumption) (by assumption) | exact stQ.ar (by assumption) (by omega) (by omega) (by omega) (by omega) (by omega) (by assumption) (by assumption) (by assumption) (by assumption) (by assumption) (by assumption) | exact stQ.ark (by assumption) (by assumption) (by omega) (by omega) (by omega) (by omega) (by omega) (by assumption) (by assumption) (by assumption) (by assumption) (by assumption) (by assumption)
theorem lf_X9_stepOn_t_13 (a : Nat → Nat) (t : Nat → Nat) (un : Nat) (k1 : Nat) (p1 : Nat) (rf : Int32) (fs : Nat → Int32) (fk : Nat → Int32) (g6 : Nat → Int32) (j0 : Nat) (hp : p1 ≤ 32) (hst : ∀ j, j < 200 → 0 ≤ fs j) (hj : j0 < 200) (x_2 : Int32) (ex_2 : x_2 = fs j0 &&& 15) (kd : Nat) (hkd : kd = kdM (fs j0)) (bkd : kd < 16) (ekd : x_2 = nI kd) (x_4 : Int32) (ex_4 : x_4 = fs j0 >>> (4 &&& 31)) (od : Nat) (hod : od = odM (fs j0)) (bod : od < 2 ^ 27) (eod : x_4 = nI od) (c_5 : ¬ kd = 1) (c_10 : kd = 2) (c_11 : 26 ≤ nI od) : 26 ≤ od := by
  exact (nI_leI (a := 26) (b := od) (by omega) (by omega)).mp c_11
theorem lf_X9_stepOn_t_14 (a : Nat → Nat) (t : Nat → Nat) (un : Nat) (k1 : Nat) (p1 : Nat) (rf : Int32) (fs : Nat → Int32) (fk : Nat → Int32) (g6 : Nat → Int32) (j0 : Nat) (hp : p1 ≤ 32) (hst : ∀ j, j < 200 → 0 ≤ fs j) (hj : j0 < 200) (x_2 : Int32) (ex_2 : x_2 = fs j0 &&& 15) (kd : Nat) (hkd : kd = kdM (fs j0)) (bkd : kd < 16) (ekd : x_2 = nI kd) (x_4 : Int32) (ex_4 : x_4 = fs j0 >>> (4 &&& 31)) (od : Nat) (hod : od = odM (fs j0)) (bod : od < 2 ^ 27) (eod : x_4 = nI od) (c_5 : ¬ kd = 1) (c_10 : kd = 2) (c_11 : 26 ≤ nI od) (n_12 : 26 ≤ od) : p1 ≤ 32 := by
  first | assumption | omega | decide | rfl
theorem lf_X9_stepOn_t_17 (a : Nat → Nat) (t : Nat → Nat) (un : Nat) (k1 : Nat) (p1 : Nat) (rf : Int32) (fs : Nat → Int32) (fk : Nat → Int32) (g6 : Nat → Int32) (j0 : Nat) (hp : p1 ≤ 32) (hst : ∀ j, j < 200 → 0 ≤ fs j) (hj : j0 < 200) (x_2 : Int32) (ex_2 : x_2 = fs j0 &&& 15) (kd : Nat) (hkd : kd = kdM (fs j0)) (bkd : kd < 16) (ekd : x_2 = nI kd) (x_4 : Int32) (ex_4 : x_4 = fs j0 >>> (4 &&& 31)) (od : Nat) (hod : od = odM (fs j0)) (bod : od < 2 ^ 27) (eod : x_4 = nI od) (c_5 : ¬ kd = 1) (c_10 : kd = 2) (c_11 : 26 ≤ nI od) (n_12 : 26 ≤ od) (p1_16 : Nat) (fk_16 : Nat → Int32) (hz_16_0 : p1_16 ≤ 32) (hz_16_1 : ((p1_16, fk_16) : StM) = pushM ((0 : Int32)) ((p1, fk) : StM)) : (∃ m : Nat, m < 2 ^ 31 ∧ (nI (j0 + 1) : Int32) = nI m ∧ stQ fs g6 j0 ((p1, fk) : StM) rf m (((p1_16 : Nat), (fk_16 : Nat → Int32)) : StM) (rf : Int32)) ∧ ((p1_16 : Nat) ≤ 32) := by
  refine ⟨⟨_, ?_, rfl, ?_⟩, by omega⟩
  · omega
  · first | exact stQ.num (by assumption) (by assumption) (by assumption) (by assumption) | exact stQ.let1 (by assumption) (by assumption) (by assumption) (by assumption) (by assumption) | exact stQ.let0 (by assumption) (by assumption) (by assumption) (by assumption) (by assumption) | exact stQ.not (by assumption) (by assumption) (by assumption) (by assumption) (by assumption) (by assumption) | exact stQ.f1 (by assumption) (by assumption) (by assumption) (by assumption) (by assumption) (by assumption) (by assumption) | exact stQ.f0 (by assumption) (by assumption) (by assumption) (by assumption) (by assumption) | exact stQ.t1 (by assumption) (by assumption) (by assumption) (by assumption) (by assumption) (by assumption) (by assumption) | exact stQ.t0 (by assumption) (by assumption) (by assumption) (by assumption) (by assumption) | exact stQ.ar (by assumption) (by omega) (by omega) (by omega) (by omega) (by omega) (by assumption) (by assumption) (by assumption) (by assumption) (by assumption) (by assumption) | exact stQ.ark (by assumption) (by assumption) (by omega) (by omega) (by omega) (by omega) (by omega) (by assumption) (by assumption) (by assumption) (by assumption) (by assumption) (by assumption)
theorem lf_X9_stepOn_t_19 (a : Nat → Nat) (t : Nat → Nat) (un : Nat) (k1 : Nat) (p1 : Nat) (rf : Int32) (fs : Nat → Int32) (fk : Nat → Int32) (g6 : Nat → Int32) (j0 : Nat) (hp : p1 ≤ 32) (hst : ∀ j, j < 200 → 0 ≤ fs j) (hj : j0 < 200) (x_2 : Int32) (ex_2 : x_2 = fs j0 &&& 15) (kd : Nat) (hkd : kd = kdM (fs j0)) (bkd : kd < 16) (ekd : x_2 = nI kd) (x_4 : Int32) (ex_4 : x_4 = fs j0 >>> (4 &&& 31)) (od : Nat) (hod : od = odM (fs j0)) (bod : od < 2 ^ 27) (eod : x_4 = nI od) (c_5 : ¬ kd = 1) (c_10 : kd = 2) (c_11 : ¬ 26 ≤ nI od) : od < 26 := by
  exact Nat.lt_of_not_le (fun q => c_11 ((nI_leI (a := 26) (b := od) (by omega) (by omega)).mpr q))
theorem lf_X9_stepOn_t_20 (a : Nat → Nat) (t : Nat → Nat) (un : Nat) (k1 : Nat) (p1 : Nat) (rf : Int32) (fs : Nat → Int32) (fk : Nat → Int32) (g6 : Nat → Int32) (j0 : Nat) (hp : p1 ≤ 32) (hst : ∀ j, j < 200 → 0 ≤ fs j) (hj : j0 < 200) (x_2 : Int32) (ex_2 : x_2 = fs j0 &&& 15) (kd : Nat) (hkd : kd = kdM (fs j0)) (bkd : kd < 16) (ekd : x_2 = nI kd) (x_4 : Int32) (ex_4 : x_4 = fs j0 >>> (4 &&& 31)) (od : Nat) (hod : od = odM (fs j0)) (bod : od < 2 ^ 27) (eod : x_4 = nI od) (c_5 : ¬ kd = 1) (c_10 : kd = 2) (c_11 : ¬ 26 ≤ nI od) (n_18 : od < 26) : od < 26 := by
  omega
theorem lf_X9_stepOn_t_21 (a : Nat → Nat) (t : Nat → Nat) (un : Nat) (k1 : Nat) (p1 : Nat) (rf : Int32) (fs : Nat → Int32) (fk : Nat → Int32) (g6 : Nat → Int32) (j0 : Nat) (hp : p1 ≤ 32) (hst : ∀ j, j < 200 → 0 ≤ fs j) (hj : j0 < 200) (x_2 : Int32) (ex_2 : x_2 = fs j0 &&& 15) (kd : Nat) (hkd : kd = kdM (fs j0)) (bkd : kd < 16) (ekd : x_2 = nI kd) (x_4 : Int32) (ex_4 : x_4 = fs j0 >>> (4 &&& 31)) (od : Nat) (hod : od = odM (fs j0)) (bod : od < 2 ^ 27) (eod : x_4 = nI od) (c_5 : ¬ kd = 1) (c_10 : kd = 2) (c_11 : ¬ 26 ≤ nI od) (n_18 : od < 26) : p1 ≤ 32 := by
  first | assumption | omega | decide | rfl
theorem lf_X9_stepOn_t_24 (a : Nat → Nat) (t : Nat → Nat) (un : Nat) (k1 : Nat) (p1 : Nat) (rf : Int32) (fs : Nat → Int32) (fk : Nat → Int32) (g6 : Nat → Int32) (j0 : Nat) (hp : p1 ≤ 32) (hst : ∀ j, j < 200 → 0 ≤ fs j) (hj : j0 < 200) (x_2 : Int32) (ex_2 : x_2 = fs j0 &&& 15) (kd : Nat) (hkd : kd = kdM (fs j0)) (bkd : kd < 16) (ekd : x_2 = nI kd) (x_4 : Int32) (ex_4 : x_4 = fs j0 >>> (4 &&& 31)) (od : Nat) (hod : od = odM (fs j0)) (bod : od < 2 ^ 27) (eod : x_4 = nI od) (c_5 : ¬ kd = 1) (c_10 : kd = 2) (c_11 : ¬ 26 ≤ nI od) (n_18 : od < 26) (p1_23 : Nat) (fk_23 : Nat → Int32) (hz_23_0 : p1_23 ≤ 32) (hz_23_1 : ((p1_23, fk_23) : StM) = pushM (g6 od) ((p1, fk) : StM)) : (∃ m : Nat, m < 2 ^ 31 ∧ (nI (j0 + 1) : Int32) = nI m ∧ stQ fs g6 j0 ((p1, fk) : StM) rf m (((p1_23 : Nat), (fk_23 : Nat → Int32)) : StM) (rf : Int32)) ∧ ((p1_23 : Nat) ≤ 32) := by
  refine ⟨⟨_, ?_, rfl, ?_⟩, by omega⟩
  · omega
  · first | exact stQ.num (by assumption) (by assumption) (by assumption) (by assumption) | exact stQ.let1 (by assumption) (by assumption) (by assumption) (by assumption) (by assumption) | exact stQ.let0 (by assumption) (by assumption) (by assumption) (by assumption) (by assumption) | exact stQ.not (by assumption) (by assumption) (by assumption) (by assumption) (by assumption) (by assumption) | exact stQ.f1 (by assumption) (by assumption) (by assumption) (by assumption) (by assumption) (by assumption) (by assumption) | exact stQ.f0 (by assumption) (by assumption) (by assumption) (by assumption) (by assumption) | exact stQ.t1 (by assumption) (by assumption) (by assumption) (by assumption) (by assumption) (by assumption) (by assumption) | exact stQ.t0 (by assumption) (by assumption) (by assumption) (by assumption) (by assumption) | exact stQ.ar (by assumption) (by omega) (by omega) (by omega) (by omega) (by omega) (by assumption) (by assumption) (by assumption) (by assumption) (by assumption) (by assumption) | exact stQ.ark (by assumption) (by assumption) (by omega) (by omega) (by omega) (by omega) (by omega) (by assumption) (by assumption) (by assumption) (by assumption) (by assumption) (by assumption)
theorem lf_X9_stepOn_t_26 (a : Nat → Nat) (t : Nat → Nat) (un : Nat) (k1 : Nat) (p1 : Nat) (rf : Int32) (fs : Nat → Int32) (fk : Nat → Int32) (g6 : Nat → Int32) (j0 : Nat) (hp : p1 ≤ 32) (hst : ∀ j, j < 200 → 0 ≤ fs j) (hj : j0 < 200) (x_2 : Int32) (ex_2 : x_2 = fs j0 &&& 15) (kd : Nat) (hkd : kd = kdM (fs j0)) (bkd : kd < 16) (ekd : x_2 = nI kd) (x_4 : Int32) (ex_4 : x_4 = fs j0 >>> (4 &&& 31)) (od : Nat) (hod : od = odM (fs j0)) (bod : od < 2 ^ 27) (eod : x_4 = nI od) (c_5 : ¬ kd = 1) (c_10 : ¬ kd = 2) (c_25 : kd = 3) : p1 ≤ 32 := by
  first | assumption | omega | decide | rfl
theorem lf_X9_stepOn_t_29 (a : Nat → Nat) (t : Nat → Nat) (un : Nat) (k1 : Nat) (p1 : Nat) (rf : Int32) (fs : Nat → Int32) (fk : Nat → Int32) (g6 : Nat → Int32) (j0 : Nat) (hp : p1 ≤ 32) (hst : ∀ j, j < 200 → 0 ≤ fs j) (hj : j0 < 200) (x_2 : Int32) (ex_2 : x_2 = fs j0 &&& 15) (kd : Nat) (hkd : kd = kdM (fs j0)) (bkd : kd < 16) (ekd : x_2 = nI kd) (x_4 : Int32) (ex_4 : x_4 = fs j0 >>> (4 &&& 31)) (od : Nat) (hod : od = odM (fs j0)) (bod : od < 2 ^ 27) (eod : x_4 = nI od) (c_5 : ¬ kd = 1) (c_10 : ¬ kd = 2) (c_25 : kd = 3) (p1_28 : Nat) (hz_28_0 : p1_28 ≤ 32) (hz_28_1 : ((p1_28, fk) : StM) = popS ((p1, fk) : StM)) (r_27 : Int32) (hpv28 : r_27 = popV ((p1, fk) : StM)) : p1_28 ≤ 32 := by
  first | assumption | omega | decide | rfl
theorem lf_X9_stepOn_t_32 (a : Nat → Nat) (t : Nat → Nat) (un : Nat) (k1 : Nat) (p1 : Nat) (rf : Int32) (fs : Nat → Int32) (fk : Nat → Int32) (g6 : Nat → Int32) (j0 : Nat) (hp : p1 ≤ 32) (hst : ∀ j, j < 200 → 0 ≤ fs j) (hj : j0 < 200) (x_2 : Int32) (ex_2 : x_2 = fs j0 &&& 15) (kd : Nat) (hkd : kd = kdM (fs j0)) (bkd : kd < 16) (ekd : x_2 = nI kd) (x_4 : Int32) (ex_4 : x_4 = fs j0 >>> (4 &&& 31)) (od : Nat) (hod : od = odM (fs j0)) (bod : od < 2 ^ 27) (eod : x_4 = nI od) (c_5 : ¬ kd = 1) (c_10 : ¬ kd = 2) (c_25 : kd = 3) (p1_28 : Nat) (hz_28_0 : p1_28 ≤ 32) (hz_28_1 : ((p1_28, fk) : StM) = popS ((p1, fk) : StM)) (r_27 : Int32) (hpv28 : r_27 = popV ((p1, fk) : StM)) (p1_31 : Nat) (hz_31_0 : p1_31 ≤ 32) (hz_31_1 : ((p1_31, fk) : StM) = popS ((p1_28, fk) : StM)) (r_30 : Int32) (hpv31 : r_30 = popV ((p1_28, fk) : StM)) : 3 < 16 := by
  first | assumption | omega | decide | rfl
theorem lf_X9_stepOn_t_35 (a : Nat → Nat) (t : Nat → Nat) (un : Nat) (k1 : Nat) (p1 : Nat) (rf : Int32) (fs : Nat → Int32) (fk : Nat → Int32) (g6 : Nat → Int32) (j0 : Nat) (hp : p1 ≤ 32) (hst : ∀ j, j < 200 → 0 ≤ fs j) (hj : j0 < 200) (x_2 : Int32) (ex_2 : x_2 = fs j0 &&& 15) (kd : Nat) (hkd : kd = kdM (fs j0)) (bkd : kd < 16) (ekd : x_2 = nI kd) (x_4 : Int32) (ex_4 : x_4 = fs j0 >>> (4 &&& 31)) (od : Nat) (hod : od = odM (fs j0)) (bod : od < 2 ^ 27) (eod : x_4 = nI od) (c_5 : ¬ kd = 1) (c_10 : ¬ kd = 2) (c_25 : kd = 3) (p1_28 : Nat) (hz_28_0 : p1_28 ≤ 32) (hz_28_1 : ((p1_28, fk) : StM) = popS ((p1, fk) : StM)) (r_27 : Int32) (hpv28 : r_27 = popV ((p1, fk) : StM)) (p1_31 : Nat) (hz_31_0 : p1_31 ≤ 32) (hz_31_1 : ((p1_31, fk) : StM) = popS ((p1_28, fk) : StM)) (r_30 : Int32) (hpv31 : r_30 = popV ((p1_28, fk) : StM)) (rf_34 : Int32) (hz_34_0 : True) (r_33 : Int32) (hrc34 : rcQ 3 r_30 r_27 rf r_33 rf_34) : p1_31 ≤ 32 := by
  first | assumption | omega | decide | rfl
theorem lf_X9_stepOn_t_38 (a : Nat → Nat) (t : Nat → Nat) (un : Nat) (k1 : Nat) (p1 : Nat) (rf : Int32) (fs : Nat → Int32) (fk : Nat → Int32) (g6 : Nat → Int32) (j0 : Nat) (hp : p1 ≤ 32) (hst : ∀ j, j < 200 → 0 ≤ fs j) (hj : j0 < 200) (x_2 : Int32) (ex_2 : x_2 = fs j0 &&& 15) (kd : Nat) (hkd : kd = kdM (fs j0)) (bkd : kd < 16) (ekd : x_2 = nI kd) (x_4 : Int32) (ex_4 : x_4 = fs j0 >>> (4 &&& 31)) (od : Nat) (hod : od = odM (fs j0)) (bod : od < 2 ^ 27) (eod : x_4 = nI od) (c_5 : ¬ kd = 1) (c_10 : ¬ kd = 2) (c_25 : kd = 3) (p1_28 : Nat) (hz_28_0 : p1_28 ≤ 32) (hz_28_1 : ((p1_28, fk) : StM) = popS ((p1, fk) : StM)) (r_27 : Int32) (hpv28 : r_27 = popV ((p1, fk) : StM)) (p1_31 : Nat) (hz_31_0 : p1_31 ≤ 32) (hz_31_1 : ((p1_31, fk) : StM) = popS ((p1_28, fk) : StM)) (r_30 : Int32) (hpv31 : r_30 = popV ((p1_28, fk) : StM)) (rf_34 : Int32) (hz_34_0 : True) (r_33 : Int32) (hrc34 : rcQ 3 r_30 r_27 rf r_33 rf_34) (p1_37 : Nat) (fk_37 : Nat → Int32) (hz_37_0 : p1_37 ≤ 32) (hz_37_1 : ((p1_37, fk_37) : StM) = pushM r_33 ((p1_31, fk) : StM)) : (∃ m : Nat, m < 2 ^ 31 ∧ (nI (j0 + 1) : Int32) = nI m ∧ stQ fs g6 j0 ((p1, fk) : StM) rf m (((p1_37 : Nat), (fk_37 : Nat → Int32)) : StM) (rf_34 : Int32)) ∧ ((p1_37 : Nat) ≤ 32) := by
  refine ⟨⟨_, ?_, rfl, ?_⟩, by omega⟩
  · omega
  · first | exact stQ.num (by assumption) (by assumption) (by assumption) (by assumption) | exact stQ.let1 (by assumption) (by assumption) (by assumption) (by assumption) (by assumption) | exact stQ.let0 (by assumption) (by assumption) (by assumption) (by assumption) (by assumption) | exact stQ.not (by assumption) (by assumption) (by assumption) (by assumption) (by assumption) (by assumption) | exact stQ.f1 (by assumption) (by assumption) (by assumption) (by assumption) (by assumption) (by assumption) (by assumption) | exact stQ.f0 (by assumption) (by assumption) (by assumption) (by assumption) (by assumption) | exact stQ.t1 (by assumption) (by assumption) (by assumption) (by assumption) (by assumption) (by assumption) (by assumption) | exact stQ.t0 (by assumption) (by assumption) (by assumption) (by assumption) (by assumption) | exact stQ.ar (by assumption) (by omega) (by omega) (by omega) (by omega) (by omega) (by assumption) (by assumption) (by assumption) (by assumption) (by assumption) (by assumption) | exact stQ.ark (by assumption) (by assumption) (by omega) (by omega) (by omega) (by omega) (by omega) (by assumption) (by assumption) (by assumption) (by assumption) (by assumption) (by assumption)
theorem lf_X9_stepOn_t_40 (a : Nat → Nat) (t : Nat → Nat) (un : Nat) (k1 : Nat) (p1 : Nat) (rf : Int32) (fs : Nat → Int32) (fk : Nat → Int32) (g6 : Nat → Int32) (j0 : Nat) (hp : p1 ≤ 32) (hst : ∀ j, j < 200 → 0 ≤ fs j) (hj : j0 < 200) (x_2 : Int32) (ex_2 : x_2 = fs j0 &&& 15) (kd : Nat) (hkd : kd = kdM (fs j0)) (bkd : kd < 16) (ekd : x_2 = nI kd) (x_4 : Int32) (ex_4 : x_4 = fs j0 >>> (4 &&& 31)) (od : Nat) (hod : od = odM (fs j0)) (bod : od < 2 ^ 27) (eod : x_4 = nI od) (c_5 : ¬ kd = 1) (c_10 : ¬ kd = 2) (c_25 : ¬ kd = 3) (c_39 : kd = 4) : p1 ≤ 32 := by
  first | assumption | omega | decide | rfl
theorem lf_X9_stepOn_t_43 (a : Nat → Nat) (t : Nat → Nat) (un : Nat) (k1 : Nat) (p1 : Nat) (rf : Int32) (fs : Nat → Int32) (fk : Nat → Int32) (g6 : Nat → Int32) (j0 : Nat) (hp : p1 ≤ 32) (hst : ∀ j, j < 200 → 0 ≤ fs j) (hj : j0 < 200) (x_2 : Int32) (ex_2 : x_2 = fs j0 &&& 15) (kd : Nat) (hkd : kd = kdM (fs j0)) (bkd : kd < 16) (ekd : x_2 = nI kd) (x_4 : Int32) (ex_4 : x_4 = fs j0 >>> (4 &&& 31)) (od : Nat) (hod : od = odM (fs j0)) (bod : od < 2 ^ 27) (eod : x_4 = nI od) (c_5 : ¬ kd = 1) (c_10 : ¬ kd = 2) (c_25 : ¬ kd = 3) (c_39 : kd = 4) (p1_42 : Nat) (hz_42_0 : p1_42 ≤ 32) (hz_42_1 : ((p1_42, fk) : StM) = popS ((p1, fk) : StM)) (r_41 : Int32) (hpv42 : r_41 = popV ((p1, fk) : StM)) : p1_42 ≤ 32 := by
  first | assumption | omega | decide | rfl
theorem lf_X9_stepOn_t_46 (a : Nat → Nat) (t : Nat → Nat) (un : Nat) (k1 : Nat) (p1 : Nat) (rf : Int32) (fs : Nat → Int32) (fk : Nat → Int32) (g6 : Nat → Int32) (j0 : Nat) (hp : p1 ≤ 32) (hst : ∀ j, j < 200 → 0 ≤ fs j) (hj : j0 < 200) (x_2 : Int32) (ex_2 : x_2 = fs j0 &&& 15) (kd : Nat) (hkd : kd = kdM (fs j0)) (bkd : kd < 16) (ekd : x_2 = nI kd) (x_4 : Int32) (ex_4 : x_4 = fs j0 >>> (4 &&& 31)) (od : Nat) (hod : od = odM (fs j0)) (bod : od < 2 ^ 27) (eod : x_4 = nI od) (c_5 : ¬ kd = 1) (c_10 : ¬ kd = 2) (c_25 : ¬ kd = 3) (c_39 : kd = 4) (p1_42 : Nat) (hz_42_0 : p1_42 ≤ 32) (hz_42_1 : ((p1_42, fk) : StM) = popS ((p1, fk) : StM)) (r_41 : Int32) (hpv42 : r_41 = popV ((p1, fk) : StM)) (p1_45 : Nat) (hz_45_0 : p1_45 ≤ 32) (hz_45_1 : ((p1_45, fk) : StM) = popS ((p1_42, fk) : StM)) (r_44 : Int32) (hpv45 : r_44 = popV ((p1_42, fk) : StM)) : 4 < 16 := by
  first | assumption | omega | decide | rfl
theorem lf_X9_stepOn_t_49 (a : Nat → Nat) (t : Nat → Nat) (un : Nat) (k1 : Nat) (p1 : Nat) (rf : Int32) (fs : Nat → Int32) (fk : Nat → Int32) (g6 : Nat → Int32) (j0 : Nat) (hp : p1 ≤ 32) (hst : ∀ j, j < 200 → 0 ≤ fs j) (hj : j0 < 200) (x_2 : Int32) (ex_2 : x_2 = fs j0 &&& 15) (kd : Nat) (hkd : kd = kdM (fs j0)) (bkd : kd < 16) (ekd : x_2 = nI kd) (x_4 : Int32) (ex_4 : x_4 = fs j0 >>> (4 &&& 31)) (od : Nat) (hod : od = odM (fs j0)) (bod : od < 2 ^ 27) (eod : x_4 = nI od) (c_5 : ¬ kd = 1) (c_10 : ¬ kd = 2) (c_25 : ¬ kd = 3) (c_39 : kd = 4) (p1_42 : Nat) (hz_42_0 : p1_42 ≤ 32) (hz_42_1 : ((p1_42, fk) : StM) = popS ((p1, fk) : StM)) (r_41 : Int32) (hpv42 : r_41 = popV ((p1, fk) : StM)) (p1_45 : Nat) (hz_45_0 : p1_45 ≤ 32) (hz_45_1 : ((p1_45, fk) : StM) = popS ((p1_42, fk) : StM)) (r_44 : Int32) (hpv45 : r_44 = popV ((p1_42, fk) : StM)) (rf_48 : Int32) (hz_48_0 : True) (r_47 : Int32) (hrc48 : rcQ 4 r_44 r_41 rf r_47 rf_48) : p1_45 ≤ 32 := by
  first | assumption | omega | decide | rfl
theorem lf_X9_stepOn_t_52 (a : Nat → Nat) (t : Nat → Nat) (un : Nat) (k1 : Nat) (p1 : Nat) (rf : Int32) (fs : Nat → Int32) (fk : Nat → Int32) (g6 : Nat → Int32) (j0 : Nat) (hp : p1 ≤ 32) (hst : ∀ j, j < 200 → 0 ≤ fs j) (hj : j0 < 200) (x_2 : Int32) (ex_2 : x_2 = fs j0 &&& 15) (kd : Nat) (hkd : kd = kdM (fs j0)) (bkd : kd < 16) (ekd : x_2 = nI kd) (x_4 : Int32) (ex_4 : x_4 = fs j0 >>> (4 &&& 31)) (od : Nat) (hod : od = odM (fs j0)) (bod : od < 2 ^ 27) (eod : x_4 = nI od) (c_5 : ¬ kd = 1) (c_10 : ¬ kd = 2) (c_25 : ¬ kd = 3) (c_39 : kd = 4) (p1_42 : Nat) (hz_42_0 : p1_42 ≤ 32) (hz_42_1 : ((p1_42, fk) : StM) = popS ((p1, fk) : StM)) (r_41 : Int32) (hpv42 : r_41 = popV ((p1, fk) : StM)) (p1_45 : Nat) (hz_45_0 : p1_45 ≤ 32) (hz_45_1 : ((p1_45, fk) : StM) = popS ((p1_42, fk) : StM)) (r_44 : Int32) (hpv45 : r_44 = popV ((p1_42, fk) : StM)) (rf_48 : Int32) (hz_48_0 : True) (r_47 : Int32) (hrc48 : rcQ 4 r_44 r_41 rf r_47 rf_48) (p1_51 : Nat) (fk_51 : Nat → Int32) (hz_51_0 : p1_51 ≤ 32) (hz_51_1 : ((p1_51, fk_51) : StM) = pushM r_47 ((p1_45, fk) : StM)) : (∃ m : Nat, m < 2 ^ 31 ∧ (nI (j0 + 1) : Int32) = nI m ∧ stQ fs g6 j0 ((p1, fk) : StM) rf m (((p1_51 : Nat), (fk_51 : Nat → Int32)) : StM) (rf_48 : Int32)) ∧ ((p1_51 : Nat) ≤ 32) := by
  refine ⟨⟨_, ?_, rfl, ?_⟩, by omega⟩
  · omega
  · first | exact stQ.num (by assumption) (by assumption) (by assumption) (by assumption) | exact stQ.let1 (by assumption) (by assumption) (by assumption) (by assumption) (by assumption) | exact stQ.let0 (by assumption) (by assumption) (by assumption) (by assumption) (by assumption) | exact stQ.not (by assumption) (by assumption) (by assumption) (by assumption) (by assumption) (by assumption) | exact stQ.f1 (by assumption) (by assumption) (by assumption) (by assumption) (by assumption) (by assumption) (by assumption) | exact stQ.f0 (by assumption) (by assumption) (by assumption) (by assumption) (by assumption) | exact stQ.t1 (by assumption) (by assumption) (by assumption) (by assumption) (by assumption) (by assumption) (by assumption) | exact stQ.t0 (by assumption) (by assumption) (by assumption) (by assumption) (by assumption) | exact stQ.ar (by assumption) (by omega) (by omega) (by omega) (by omega) (by omega) (by assumption) (by assumption) (by assumption) (by assumption) (by assumption) (by assumption) | exact stQ.ark (by assumption) (by assumption) (by omega) (by omega) (by omega) (by omega) (by omega) (by assumption) (by assumption) (by assumption) (by assumption) (by assumption) (by assumption)
theorem lf_X9_stepOn_t_54 (a : Nat → Nat) (t : Nat → Nat) (un : Nat) (k1 : Nat) (p1 : Nat) (rf : Int32) (fs : Nat → Int32) (fk : Nat → Int32) (g6 : Nat → Int32) (j0 : Nat) (hp : p1 ≤ 32) (hst : ∀ j, j < 200 → 0 ≤ fs j) (hj : j0 < 200) (x_2 : Int32) (ex_2 : x_2 = fs j0 &&& 15) (kd : Nat) (hkd : kd = kdM (fs j0)) (bkd : kd < 16) (ekd : x_2 = nI kd) (x_4 : Int32) (ex_4 : x_4 = fs j0 >>> (4 &&& 31)) (od : Nat) (hod : od = odM (fs j0)) (bod : od < 2 ^ 27) (eod : x_4 = nI od) (c_5 : ¬ kd = 1) (c_10 : ¬ kd = 2) (c_25 : ¬ kd = 3) (c_39 : ¬ kd = 4) (c_53 : kd = 5) : p1 ≤ 32 := by
  first | assumption | omega | decide | rfl
theorem lf_X9_stepOn_t_57 (a : Nat → Nat) (t : Nat → Nat) (un : Nat) (k1 : Nat) (p1 : Nat) (rf : Int32) (fs : Nat → Int32) (fk : Nat → Int32) (g6 : Nat → Int32) (j0 : Nat) (hp : p1 ≤ 32) (hst : ∀ j, j < 200 → 0 ≤ fs j) (hj : j0 < 200) (x_2 : Int32) (ex_2 : x_2 = fs j0 &&& 15) (kd : Nat) (hkd : kd = kdM (fs j0)) (bkd : kd < 16) (ekd : x_2 = nI kd) (x_4 : Int32) (ex_4 : x_4 = fs j0 >>> (4 &&& 31)) (od : Nat) (hod : od = odM (fs j0)) (bod : od < 2 ^ 27) (eod : x_4 = nI od) (c_5 : ¬ kd = 1) (c_10 : ¬ kd = 2) (c_25 : ¬ kd = 3) (c_39 : ¬ kd = 4) (c_53 : kd = 5) (p1_56 : Nat) (hz_56_0 : p1_56 ≤ 32) (hz_56_1 : ((p1_56, fk) : StM) = popS ((p1, fk) : StM)) (r_55 : Int32) (hpv56 : r_55 = popV ((p1, fk) : StM)) : p1_56 ≤ 32 := by
  first | assumption | omega | decide | rfl
theorem lf_X9_stepOn_t_60 (a : Nat → Nat) (t : Nat → Nat) (un : Nat) (k1 : Nat) (p1 : Nat) (rf : Int32) (fs : Nat → Int32) (fk : Nat → Int32) (g6 : Nat → Int32) (j0 : Nat) (hp : p1 ≤ 32) (hst : ∀ j, j < 200 → 0 ≤ fs j) (hj : j0 < 200) (x_2 : Int32) (ex_2 : x_2 = fs j0 &&& 15) (kd : Nat) (hkd : kd = kdM (fs j0)) (bkd : kd < 16) (ekd : x_2 = nI kd) (x_4 : Int32) (ex_4 : x_4 = fs j0 >>> (4 &&& 31)) (od : Nat) (hod : od = odM (fs j0)) (bod : od < 2 ^ 27) (eod : x_4 = nI od) (c_5 : ¬ kd = 1) (c_10 : ¬ kd = 2) (c_25 : ¬ kd = 3) (c_39 : ¬ kd = 4) (c_53 : kd = 5) (p1_56 : Nat) (hz_56_0 : p1_56 ≤ 32) (hz_56_1 : ((p1_56, fk) : StM) = popS ((p1, fk) : StM)) (r_55 : Int32) (hpv56 : r_55 = popV ((p1, fk) : StM)) (p1_59 : Nat) (hz_59_0 : p1_59 ≤ 32) (hz_59_1 : ((p1_59, fk) : StM) = popS ((p1_56, fk) : StM)) (r_58 : Int32) (hpv59 : r_58 = popV ((p1_56, fk) : StM)) : 5 < 16 := by
  first | assumption | omega | decide | rfl
theorem lf_X9_stepOn_t_63 (a : Nat → Nat) (t : Nat → Nat) (un : Nat) (k1 : Nat) (p1 : Nat) (rf : Int32) (fs : Nat → Int32) (fk : Nat → Int32) (g6 : Nat → Int32) (j0 : Nat) (hp : p1 ≤ 32) (hst : ∀ j, j < 200 → 0 ≤ fs j) (hj : j0 < 200) (x_2 : Int32) (ex_2 : x_2 = fs j0 &&& 15) (kd : Nat) (hkd : kd = kdM (fs j0)) (bkd : kd < 16) (ekd : x_2 = nI kd) (x_4 : Int32) (ex_4 : x_4 = fs j0 >>> (4 &&& 31)) (od : Nat) (hod : od = odM (fs j0)) (bod : od < 2 ^ 27) (eod : x_4 = nI od) (c_5 : ¬ kd = 1) (c_10 : ¬ kd = 2) (c_25 : ¬ kd = 3) (c_39 : ¬ kd = 4) (c_53 : kd = 5) (p1_56 : Nat) (hz_56_0 : p1_56 ≤ 32) (hz_56_1 : ((p1_56, fk) : StM) = popS ((p1, fk) : StM)) (r_55 : Int32) (hpv56 : r_55 = popV ((p1, fk) : StM)) (p1_59 : Nat) (hz_59_0 : p1_59 ≤ 32) (hz_59_1 : ((p1_59, fk) : StM) = popS ((p1_56, fk) : StM)) (r_58 : Int32) (hpv59 : r_58 = popV ((p1_56, fk) : StM)) (rf_62 : Int32) (hz_62_0 : True) (r_61 : Int32) (hrc62 : rcQ 5 r_58 r_55 rf r_61 rf_62) : p1_59 ≤ 32 := by
  first | assumption | omega | decide | rfl
theorem lf_X9_stepOn_t_66 (a : Nat → Nat) (t : Nat → Nat) (un : Nat) (k1 : Nat) (p1 : Nat) (rf : Int32) (fs : Nat → Int32) (fk : Nat → Int32) (g6 : Nat → Int32) (j0 : Nat) (hp : p1 ≤ 32) (hst : ∀ j, j < 200 → 0 ≤ fs j) (hj : j0 < 200) (x_2 : Int32) (ex_2 : x_2 = fs j0 &&& 15) (kd : Nat) (hkd : kd = kdM (fs j0)) (bkd : kd < 16) (ekd : x_2 = nI kd) (x_4 : Int32) (ex_4 : x_4 = fs j0 >>> (4 &&& 31)) (od : Nat) (hod : od = odM (fs j0)) (bod : od < 2 ^ 27) (eod : x_4 = nI od) (c_5 : ¬ kd = 1) (c_10 : ¬ kd = 2) (c_25 : ¬ kd = 3) (c_39 : ¬ kd = 4) (c_53 : kd = 5) (p1_56 : Nat) (hz_56_0 : p1_56 ≤ 32) (hz_56_1 : ((p1_56, fk) : StM) = popS ((p1, fk) : StM)) (r_55 : Int32) (hpv56 : r_55 = popV ((p1, fk) : StM)) (p1_59 : Nat) (hz_59_0 : p1_59 ≤ 32) (hz_59_1 : ((p1_59, fk) : StM) = popS ((p1_56, fk) : StM)) (r_58 : Int32) (hpv59 : r_58 = popV ((p1_56, fk) : StM)) (rf_62 : Int32) (hz_62_0 : True) (r_61 : Int32) (hrc62 : rcQ 5 r_58 r_55 rf r_61 rf_62) (p1_65 : Nat) (fk_65 : Nat → Int32) (hz_65_0 : p1_65 ≤ 32) (hz_65_1 : ((p1_65, fk_65) : StM) = pushM r_61 ((p1_59, fk) : StM)) : (∃ m : Nat, m < 2 ^ 31 ∧ (nI (j0 + 1) : Int32) = nI m ∧ stQ fs g6 j0 ((p1, fk) : StM) rf m (((p1_65 : Nat), (fk_65 : Nat → Int32)) : StM) (rf_62 : Int32)) ∧ ((p1_65 : Nat) ≤ 32) := by
  refine ⟨⟨_, ?_, rfl, ?_⟩, by omega⟩
  · omega
  · first | exact stQ.num (by assumption) (by assumption) (by assumption) (by assumption) | exact stQ.let1 (by assumption) (by assumption) (by assumption) (by assumption) (by assumption) | exact stQ.let0 (by assumption) (by assumption) (by assumption) (by assumption) (by assumption) | exact stQ.not (by assumption) (by assumption) (by assumption) (by assumption) (by assumption) (by assumption) | exact stQ.f1 (by assumption) (by assumption) (by assumption) (by assumption) (by assumption) (by assumption) (by assumption) | exact stQ.f0 (by assumption) (by assumption) (by assumption) (by assumption) (by assumption) | exact stQ.t1 (by assumption) (by assumption) (by assumption) (by assumption) (by assumption) (by assumption) (by assumption) | exact stQ.t0 (by assumption) (by assumption) (by assumption) (by assumption) (by assumption) | exact stQ.ar (by assumption) (by omega) (by omega) (by omega) (by omega) (by omega) (by assumption) (by assumption) (by assumption) (by assumption) (by assumption) (by assumption) | exact stQ.ark (by assumption) (by assumption) (by omega) (by omega) (by omega) (by omega) (by omega) (by assumption) (by assumption) (by assumption) (by assumption) (by assumption) (by assumption)
theorem lf_X9_stepOn_t_68 (a : Nat → Nat) (t : Nat → Nat) (un : Nat) (k1 : Nat) (p1 : Nat) (rf : Int32) (fs : Nat → Int32) (fk : Nat → Int32) (g6 : Nat → Int32) (j0 : Nat) (hp : p1 ≤ 32) (hst : ∀ j, j < 200 → 0 ≤ fs j) (hj : j0 < 200) (x_2 : Int32) (ex_2 : x_2 = fs j0 &&& 15) (kd : Nat) (hkd : kd = kdM (fs j0)) (bkd : kd < 16) (ekd : x_2 = nI kd) (x_4 : Int32) (ex_4 : x_4 = fs j0 >>> (4 &&& 31)) (od : Nat) (hod : od = odM (fs j0)) (bod : od < 2 ^ 27) (eod : x_4 = nI od) (c_5 : ¬ kd = 1) (c_10 : ¬ kd = 2) (c_25 : ¬ kd = 3) (c_39 : ¬ kd = 4) (c_53 : ¬ kd = 5) (c_67 : kd = 6) : p1 ≤ 32 := by
  first | assumption | omega | decide | rfl
theorem lf_X9_stepOn_t_71 (a : Nat → Nat) (t : Nat → Nat) (un : Nat) (k1 : Nat) (p1 : Nat) (rf : Int32) (fs : Nat → Int32) (fk : Nat → Int32) (g6 : Nat → Int32) (j0 : Nat) (hp : p1 ≤ 32) (hst : ∀ j, j < 200 → 0 ≤ fs j) (hj : j0 < 200) (x_2 : Int32) (ex_2 : x_2 = fs j0 &&& 15) (kd : Nat) (hkd : kd = kdM (fs j0)) (bkd : kd < 16) (ekd : x_2 = nI kd) (x_4 : Int32) (ex_4 : x_4 = fs j0 >>> (4 &&& 31)) (od : Nat) (hod : od = odM (fs j0)) (bod : od < 2 ^ 27) (eod : x_4 = nI od) (c_5 : ¬ kd = 1) (c_10 : ¬ kd = 2) (c_25 : ¬ kd = 3) (c_39 : ¬ kd = 4) (c_53 : ¬ kd = 5) (c_67 : kd = 6) (p1_70 : Nat) (hz_70_0 : p1_70 ≤ 32) (hz_70_1 : ((p1_70, fk) : StM) = popS ((p1, fk) : StM)) (r_69 : Int32) (hpv70 : r_69 = popV ((p1, fk) : StM)) : p1_70 ≤ 32 := by
  first | assumption | omega | decide | rfl
theorem lf_X9_stepOn_t_74 (a : Nat → Nat) (t : Nat → Nat) (un : Nat) (k1 : Nat) (p1 : Nat) (rf : Int32) (fs : Nat → Int32) (fk : Nat → Int32) (g6 : Nat → Int32) (j0 : Nat) (hp : p1 ≤ 32) (hst : ∀ j, j < 200 → 0 ≤ fs j) (hj : j0 < 200) (x_2 : Int32) (ex_2 : x_2 = fs j0 &&& 15) (kd : Nat) (hkd : kd = kdM (fs j0)) (bkd : kd < 16) (ekd : x_2 = nI kd) (x_4 : Int32) (ex_4 : x_4 = fs j0 >>> (4 &&& 31)) (od : Nat) (hod : od = odM (fs j0)) (bod : od < 2 ^ 27) (eod : x_4 = nI od) (c_5 : ¬ kd = 1) (c_10 : ¬ kd = 2) (c_25 : ¬ kd = 3) (c_39 : ¬ kd = 4) (c_53 : ¬ kd = 5) (c_67 : kd = 6) (p1_70 : Nat) (hz_70_0 : p1_70 ≤ 32) (hz_70_1 : ((p1_70, fk) : StM) = popS ((p1, fk) : StM)) (r_69 : Int32) (hpv70 : r_69 = popV ((p1, fk) : StM)) (p1_73 : Nat) (hz_73_0 : p1_73 ≤ 32) (hz_73_1 : ((p1_73, fk) : StM) = popS ((p1_70, fk) : StM)) (r_72 : Int32) (hpv73 : r_72 = popV ((p1_70, fk) : StM)) : 6 < 16 := by
  first | assumption | omega | decide | rfl
theorem lf_X9_stepOn_t_77 (a : Nat → Nat) (t : Nat → Nat) (un : Nat) (k1 : Nat) (p1 : Nat) (rf : Int32) (fs : Nat → Int32) (fk : Nat → Int32) (g6 : Nat → Int32) (j0 : Nat) (hp : p1 ≤ 32) (hst : ∀ j, j < 200 → 0 ≤ fs j) (hj : j0 < 200) (x_2 : Int32) (ex_2 : x_2 = fs j0 &&& 15) (kd : Nat) (hkd : kd = kdM (fs j0)) (bkd : kd < 16) (ekd : x_2 = nI kd) (x_4 : Int32) (ex_4 : x_4 = fs j0 >>> (4 &&& 31)) (od : Nat) (hod : od = odM (fs j0)) (bod : od < 2 ^ 27) (eod : x_4 = nI od) (c_5 : ¬ kd = 1) (c_10 : ¬ kd = 2) (c_25 : ¬ kd = 3) (c_39 : ¬ kd = 4) (c_53 : ¬ kd = 5) (c_67 : kd = 6) (p1_70 : Nat) (hz_70_0 : p1_70 ≤ 32) (hz_70_1 : ((p1_70, fk) : StM) = popS ((p1, fk) : StM)) (r_69 : Int32) (hpv70 : r_69 = popV ((p1, fk) : StM)) (p1_73 : Nat) (hz_73_0 : p1_73 ≤ 32) (hz_73_1 : ((p1_73, fk) : StM) = popS ((p1_70, fk) : StM)) (r_72 : Int32) (hpv73 : r_72 = popV ((p1_70, fk) : StM)) (rf_76 : Int32) (hz_76_0 : True) (r_75 : Int32) (hrc76 : rcQ 6 r_72 r_69 rf r_75 rf_76) : p1_73 ≤ 32 := by
  first | assumption | omega | decide | rfl
theorem lf_X9_stepOn_t_80 (a : Nat → Nat) (t : Nat → Nat) (un : Nat) (k1 : Nat) (p1 : Nat) (rf : Int32) (fs : Nat → Int32) (fk : Nat → Int32) (g6 : Nat → Int32) (j0 : Nat) (hp : p1 ≤ 32) (hst : ∀ j, j < 200 → 0 ≤ fs j) (hj : j0 < 200) (x_2 : Int32) (ex_2 : x_2 = fs j0 &&& 15) (kd : Nat) (hkd : kd = kdM (fs j0)) (bkd : kd < 16) (ekd : x_2 = nI kd) (x_4 : Int32) (ex_4 : x_4 = fs j0 >>> (4 &&& 31)) (od : Nat) (hod : od = odM (fs j0)) (bod : od < 2 ^ 27) (eod : x_4 = nI od) (c_5 : ¬ kd = 1) (c_10 : ¬ kd = 2) (c_25 : ¬ kd = 3) (c_39 : ¬ kd = 4) (c_53 : ¬ kd = 5) (c_67 : kd = 6) (p1_70 : Nat) (hz_70_0 : p1_70 ≤ 32) (hz_70_1 : ((p1_70, fk) : StM) = popS ((p1, fk) : StM)) (r_69 : Int32) (hpv70 : r_69 = popV ((p1, fk) : StM)) (p1_73 : Nat) (hz_73_0 : p1_73 ≤ 32) (hz_73_1 : ((p1_73, fk) : StM) = popS ((p1_70, fk) : StM)) (r_72 : Int32) (hpv73 : r_72 = popV ((p1_70, fk) : StM)) (rf_76 : Int32) (hz_76_0 : True) (r_75 : Int32) (hrc76 : rcQ 6 r_72 r_69 rf r_75 rf_76) (p1_79 : Nat) (fk_79 : Nat → Int32) (hz_79_0 : p1_79 ≤ 32) (hz_79_1 : ((p1_79, fk_79) : StM) = pushM r_75 ((p1_73, fk) : StM)) : (∃ m : Nat, m < 2 ^ 31 ∧ (nI (j0 + 1) : Int32) = nI m ∧ stQ fs g6 j0 ((p1, fk) : StM) rf m (((p1_79 : Nat), (fk_79 : Nat → Int32)) : StM) (rf_76 : Int32)) ∧ ((p1_79 : Nat) ≤ 32) := by
  refine ⟨⟨_, ?_, rfl, ?_⟩, by omega⟩
  · omega
  · first | exact stQ.num (by assumption) (by assumption) (by assumption) (by assumption) | exact stQ.let1 (by assumption) (by assumption) (by assumption) (by assumption) (by assumption) | exact stQ.let0 (by assumption) (by assumption) (by assumption) (by assumption) (by assumption) | exact stQ.not (by assumption) (by assumption) (by assumption) (by assumption) (by assumption) (by assumption) | exact stQ.f1 (by assumption) (by assumption) (by assumption) (by assumption) (by assumption) (by assumption) (by assumption) | exact stQ.f0 (by assumption) (by assumption) (by assumption) (by assumption) (by assumption) | exact stQ.t1 (by assumption) (by assumption) (by assumption) (by assumption) (by assumption) (by assumption) (by assumption) | exact stQ.t0 (by assumption) (by assumption) (by assumption) (by assumption) (by assumption) | exact stQ.ar (by assumption) (by omega) (by omega) (by omega) (by omega) (by omega) (by assumption) (by assumption) (by assumption) (by assumption) (by assumption) (by assumption) | exact stQ.ark (by assumption) (by assumption) (by omega) (by omega) (by omega) (by omega) (by omega) (by assumption) (by assumption) (by assumption) (by assumption) (by assumption) (by assumption)
theorem lf_X9_stepOn_t_82 (a : Nat → Nat) (t : Nat → Nat) (un : Nat) (k1 : Nat) (p1 : Nat) (rf : Int32) (fs : Nat → Int32) (fk : Nat → Int32) (g6 : Nat → Int32) (j0 : Nat) (hp : p1 ≤ 32) (hst : ∀ j, j < 200 → 0 ≤ fs j) (hj : j0 < 200) (x_2 : Int32) (ex_2 : x_2 = fs j0 &&& 15) (kd : Nat) (hkd : kd = kdM (fs j0)) (bkd : kd < 16) (ekd : x_2 = nI kd) (x_4 : Int32) (ex_4 : x_4 = fs j0 >>> (4 &&& 31)) (od : Nat) (hod : od = odM (fs j0)) (bod : od < 2 ^ 27) (eod : x_4 = nI od) (c_5 : ¬ kd = 1) (c_10 : ¬ kd = 2) (c_25 : ¬ kd = 3) (c_39 : ¬ kd = 4) (c_53 : ¬ kd = 5) (c_67 : ¬ kd = 6) (c_81 : kd = 7) : p1 ≤ 32 := by
  first | assumption | omega | decide | rfl
theorem lf_X9_stepOn_t_85 (a : Nat → Nat) (t : Nat → Nat) (un : Nat) (k1 : Nat) (p1 : Nat) (rf : Int32) (fs : Nat → Int32) (fk : Nat → Int32) (g6 : Nat → Int32) (j0 : Nat) (hp : p1 ≤ 32) (hst : ∀ j, j < 200 → 0 ≤ fs j) (hj : j0 < 200) (x_2 : Int32) (ex_2 : x_2 = fs j0 &&& 15) (kd : Nat) (hkd : kd = kdM (fs j0)) (bkd : kd < 16) (ekd : x_2 = nI kd) (x_4 : Int32) (ex_4 : x_4 = fs j0 >>> (4 &&& 31)) (od : Nat) (hod : od = odM (fs j0)) (bod : od < 2 ^ 27) (eod : x_4 = nI od) (c_5 : ¬ kd = 1) (c_10 : ¬ kd = 2) (c_25 : ¬ kd = 3) (c_39 : ¬ kd = 4) (c_53 : ¬ kd = 5) (c_67 : ¬ kd = 6) (c_81 : kd = 7) (p1_84 : Nat) (hz_84_0 : p1_84 ≤ 32) (hz_84_1 : ((p1_84, fk) : StM) = popS ((p1, fk) : StM)) (r_83 : Int32) (hpv84 : r_83 = popV ((p1, fk) : StM)) : p1_84 ≤ 32 := by
  first | assumption | omega | decide | rfl
theorem lf_X9_stepOn_t_88 (a : Nat → Nat) (t : Nat → Nat) (un : Nat) (k1 : Nat) (p1 : Nat) (rf : Int32) (fs : Nat → Int32) (fk : Nat → Int32) (g6 : Nat → Int32) (j0 : Nat) (hp : p1 ≤ 32) (hst : ∀ j, j < 200 → 0 ≤ fs j) (hj : j0 < 200) (x_2 : Int32) (ex_2 : x_2 = fs j0 &&& 15) (kd : Nat) (hkd : kd = kdM (fs j0)) (bkd : kd < 16) (ekd : x_2 = nI kd) (x_4 : Int32) (ex_4 : x_4 = fs j0 >>> (4 &&& 31)) (od : Nat) (hod : od = odM (fs j0)) (bod : od < 2 ^ 27) (eod : x_4 = nI od) (c_5 : ¬ kd = 1) (c_10 : ¬ kd = 2) (c_25 : ¬ kd = 3) (c_39 : ¬ kd = 4) (c_53 : ¬ kd = 5) (c_67 : ¬ kd = 6) (c_81 : kd = 7) (p1_84 : Nat) (hz_84_0 : p1_84 ≤ 32) (hz_84_1 : ((p1_84, fk) : StM) = popS ((p1, fk) : StM)) (r_83 : Int32) (hpv84 : r_83 = popV ((p1, fk) : StM)) (p1_87 : Nat) (hz_87_0 : p1_87 ≤ 32) (hz_87_1 : ((p1_87, fk) : StM) = popS ((p1_84, fk) : StM)) (r_86 : Int32) (hpv87 : r_86 = popV ((p1_84, fk) : StM)) : 7 < 16 := by
  first | assumption | omega | decide | rfl
theorem lf_X9_stepOn_t_91 (a : Nat → Nat) (t : Nat → Nat) (un : Nat) (k1 : Nat) (p1 : Nat) (rf : Int32) (fs : Nat → Int32) (fk : Nat → Int32) (g6 : Nat → Int32) (j0 : Nat) (hp : p1 ≤ 32) (hst : ∀ j, j < 200 → 0 ≤ fs j) (hj : j0 < 200) (x_2 : Int32) (ex_2 : x_2 = fs j0 &&& 15) (kd : Nat) (hkd : kd = kdM (fs j0)) (bkd : kd < 16) (ekd : x_2 = nI kd) (x_4 : Int32) (ex_4 : x_4 = fs j0 >>> (4 &&& 31)) (od : Nat) (hod : od = odM (fs j0)) (bod : od < 2 ^ 27) (eod : x_4 = nI od) (c_5 : ¬ kd = 1) (c_10 : ¬ kd = 2) (c_25 : ¬ kd = 3) (c_39 : ¬ kd = 4) (c_53 : ¬ kd = 5) (c_67 : ¬ kd = 6) (c_81 : kd = 7) (p1_84 : Nat) (hz_84_0 : p1_84 ≤ 32) (hz_84_1 : ((p1_84, fk) : StM) = popS ((p1, fk) : StM)) (r_83 : Int32) (hpv84 : r_83 = popV ((p1, fk) : StM)) (p1_87 : Nat) (hz_87_0 : p1_87 ≤ 32) (hz_87_1 : ((p1_87, fk) : StM) = popS ((p1_84, fk) : StM)) (r_86 : Int32) (hpv87 : r_86 = popV ((p1_84, fk) : StM)) (rf_90 : Int32) (hz_90_0 : True) (r_89 : Int32) (hrc90 : rcQ 7 r_86 r_83 rf r_89 rf_90) : p1_87 ≤ 32 := by
  first | assumption | omega | decide | rfl
theorem lf_X9_stepOn_t_94 (a : Nat → Nat) (t : Nat → Nat) (un : Nat) (k1 : Nat) (p1 : Nat) (rf : Int32) (fs : Nat → Int32) (fk : Nat → Int32) (g6 : Nat → Int32) (j0 : Nat) (hp : p1 ≤ 32) (hst : ∀ j, j < 200 → 0 ≤ fs j) (hj : j0 < 200) (x_2 : Int32) (ex_2 : x_2 = fs j0 &&& 15) (kd : Nat) (hkd : kd = kdM (fs j0)) (bkd : kd < 16) (ekd : x_2 = nI kd) (x_4 : Int32) (ex_4 : x_4 = fs j0 >>> (4 &&& 31)) (od : Nat) (hod : od = odM (fs j0)) (bod : od < 2 ^ 27) (eod : x_4 = nI od) (c_5 : ¬ kd = 1) (c_10 : ¬ kd = 2) (c_25 : ¬ kd = 3) (c_39 : ¬ kd = 4) (c_53 : ¬ kd = 5) (c_67 : ¬ kd = 6) (c_81 : kd = 7) (p1_84 : Nat) (hz_84_0 : p1_84 ≤ 32) (hz_84_1 : ((p1_84, fk) : StM) = popS ((p1, fk) : StM)) (r_83 : Int32) (hpv84 : r_83 = popV ((p1, fk) : StM)) (p1_87 : Nat) (hz_87_0 : p1_87 ≤ 32) (hz_87_1 : ((p1_87, fk) : StM) = popS ((p1_84, fk) : StM)) (r_86 : Int32) (hpv87 : r_86 = popV ((p1_84, fk) : StM)) (rf_90 : Int32) (hz_90_0 : True) (r_89 : Int32) (hrc90 : rcQ 7 r_86 r_83 rf r_89 rf_90) (p1_93 : Nat) (fk_93 : Nat → Int32) (hz_93_0 : p1_93 ≤ 32) (hz_93_1 : ((p1_93, fk_93) : StM) = pushM r_89 ((p1_87, fk) : StM)) : (∃ m : Nat, m < 2 ^ 31 ∧ (nI (j0 + 1) : Int32) = nI m ∧ stQ fs g6 j0 ((p1, fk) : StM) rf m (((p1_93 : Nat), (fk_93 : Nat → Int32)) : StM) (rf_90 : Int32)) ∧ ((p1_93 : Nat) ≤ 32) := by
  refine ⟨⟨_, ?_, rfl, ?_⟩, by omega⟩
  · omega
  · first | exact stQ.num (by assumption) (by assumption) (by assumption) (by assumption) | exact stQ.let1 (by assumption) (by assumption) (by assumption) (by assumption) (by assumption) | exact stQ.let0 (by assumption) (by assumption) (by assumption) (by assumption) (by assumption) | exact stQ.not (by assumption) (by assumption) (by assumption) (by assumption) (by assumption) (by assumption) | exact stQ.f1 (by assumption) (by assumption) (by assumption) (by assumption) (by assumption) (by assumption) (by assumption) | exact stQ.f0 (by assumption) (by assumption) (by assumption) (by assumption) (by assumption) | exact stQ.t1 (by assumption) (by assumption) (by assumption) (by assumption) (by assumption) (by assumption) (by assumption) | exact stQ.t0 (by assumption) (by assumption) (by assumption) (by assumption) (by assumption) | exact stQ.ar (by assumption) (by omega) (by omega) (by omega) (by omega) (by omega) (by assumption) (by assumption) (by assumption) (by assumption) (by assumption) (by assumption) | exact stQ.ark (by assumption) (by assumption) (by omega) (by omega) (by omega) (by omega) (by omega) (by assumption) (by assumption) (by assumption) (by assumption) (by assumption) (by assumption)
theorem lf_X9_stepOn_t_96 (a : Nat → Nat) (t : Nat → Nat) (un : Nat) (k1 : Nat) (p1 : Nat) (rf : Int32) (fs : Nat → Int32) (fk : Nat → Int32) (g6 : Nat → Int32) (j0 : Nat) (hp : p1 ≤ 32) (hst : ∀ j, j < 200 → 0 ≤ fs j) (hj : j0 < 200) (x_2 : Int32) (ex_2 : x_2 = fs j0 &&& 15) (kd : Nat) (hkd : kd = kdM (fs j0)) (bkd : kd < 16) (ekd : x_2 = nI kd) (x_4 : Int32) (ex_4 : x_4 = fs j0 >>> (4 &&& 31)) (od : Nat) (hod : od = odM (fs j0)) (bod : od < 2 ^ 27) (eod : x_4 = nI od) (c_5 : ¬ kd = 1) (c_10 : ¬ kd = 2) (c_25 : ¬ kd = 3) (c_39 : ¬ kd = 4) (c_53 : ¬ kd = 5) (c_67 : ¬ kd = 6) (c_81 : ¬ kd = 7) (c_95 : kd = 8) : p1 ≤ 32 := by
  first | assumption | omega | decide | rfl
theorem lf_X9_stepOn_t_99 (a : Nat → Nat) (t : Nat → Nat) (un : Nat) (k1 : Nat) (p1 : Nat) (rf : Int32) (fs : Nat → Int32) (fk : Nat → Int32) (g6 : Nat → Int32) (j0 : Nat) (hp : p1 ≤ 32) (hst : ∀ j, j < 200 → 0 ≤ fs j) (hj : j0 < 200) (x_2 : Int32) (ex_2 : x_2 = fs j0 &&& 15) (kd : Nat) (hkd : kd = kdM (fs j0)) (bkd : kd < 16) (ekd : x_2 = nI kd) (x_4 : Int32) (ex_4 : x_4 = fs j0 >>> (4 &&& 31)) (od : Nat) (hod : od = odM (fs j0)) (bod : od < 2 ^ 27) (eod : x_4 = nI od) (c_5 : ¬ kd = 1) (c_10 : ¬ kd = 2) (c_25 : ¬ kd = 3) (c_39 : ¬ kd = 4) (c_53 : ¬ kd = 5) (c_67 : ¬ kd = 6) (c_81 : ¬ kd = 7) (c_95 : kd = 8) (p1_98 : Nat) (hz_98_0 : p1_98 ≤ 32) (hz_98_1 : ((p1_98, fk) : StM) = popS ((p1, fk) : StM)) (r_97 : Int32) (hpv98 : r_97 = popV ((p1, fk) : StM)) : p1_98 ≤ 32 := by
  first | assumption | omega | decide | rfl
theorem lf_X9_stepOn_t_102 (a : Nat → Nat) (t : Nat → Nat) (un : Nat) (k1 : Nat) (p1 : Nat) (rf : Int32) (fs : Nat → Int32) (fk : Nat → Int32) (g6 : Nat → Int32) (j0 : Nat) (hp : p1 ≤ 32) (hst : ∀ j, j < 200 → 0 ≤ fs j) (hj : j0 < 200) (x_2 : Int32) (ex_2 : x_2 = fs j0 &&& 15) (kd : Nat) (hkd : kd = kdM (fs j0)) (bkd : kd < 16) (ekd : x_2 = nI kd) (x_4 : Int32) (ex_4 : x_4 = fs j0 >>> (4 &&& 31)) (od : Nat) (hod : od = odM (fs j0)) (bod : od < 2 ^ 27) (eod : x_4 = nI od) (c_5 : ¬ kd = 1) (c_10 : ¬ kd = 2) (c_25 : ¬ kd = 3) (c_39 : ¬ kd = 4) (c_53 : ¬ kd = 5) (c_67 : ¬ kd = 6) (c_81 : ¬ kd = 7) (c_95 : kd = 8) (p1_98 : Nat) (hz_98_0 : p1_98 ≤ 32) (hz_98_1 : ((p1_98, fk) : StM) = popS ((p1, fk) : StM)) (r_97 : Int32) (hpv98 : r_97 = popV ((p1, fk) : StM)) (p1_101 : Nat) (hz_101_0 : p1_101 ≤ 32) (hz_101_1 : ((p1_101, fk) : StM) = popS ((p1_98, fk) : StM)) (r_100 : Int32) (hpv101 : r_100 = popV ((p1_98, fk) : StM)) : 8 < 16 := by
  first | assumption | omega | decide | rfl
theorem lf_X9_stepOn_t_105 (a : Nat → Nat) (t : Nat → Nat) (un : Nat) (k1 : Nat) (p1 : Nat) (rf : Int32) (fs : Nat → Int32) (fk : Nat → Int32) (g6 : Nat → Int32) (j0 : Nat) (hp : p1 ≤ 32) (hst : ∀ j, j < 200 → 0 ≤ fs j) (hj : j0 < 200) (x_2 : Int32) (ex_2 : x_2 = fs j0 &&& 15) (kd : Nat) (hkd : kd = kdM (fs j0)) (bkd : kd < 16) (ekd : x_2 = nI kd) (x_4 : Int32) (ex_4 : x_4 = fs j0 >>> (4 &&& 31)) (od : Nat) (hod : od = odM (fs j0)) (bod : od < 2 ^ 27) (eod : x_4 = nI od) (c_5 : ¬ kd = 1) (c_10 : ¬ kd = 2) (c_25 : ¬ kd = 3) (c_39 : ¬ kd = 4) (c_53 : ¬ kd = 5) (c_67 : ¬ kd = 6) (c_81 : ¬ kd = 7) (c_95 : kd = 8) (p1_98 : Nat) (hz_98_0 : p1_98 ≤ 32) (hz_98_1 : ((p1_98, fk) : StM) = popS ((p1, fk) : StM)) (r_97 : Int32) (hpv98 : r_97 = popV ((p1, fk) : StM)) (p1_101 : Nat) (hz_101_0 : p1_101 ≤ 32) (hz_101_1 : ((p1_101, fk) : StM) = popS ((p1_98, fk) : StM)) (r_100 : Int32) (hpv101 : r_100 = popV ((p1_98, fk) : StM)) (rf_104 : Int32) (hz_104_0 : True) (r_103 : Int32) (hrc104 : rcQ 8 r_100 r_97 rf r_103 rf_104) : p1_101 ≤ 32 := by
  first | assumption | omega | decide | rfl
theorem lf_X9_stepOn_t_108 (a : Nat → Nat) (t : Nat → Nat) (un : Nat) (k1 : Nat) (p1 : Nat) (rf : Int32) (fs : Nat → Int32) (fk : Nat → Int32) (g6 : Nat → Int32) (j0 : Nat) (hp : p1 ≤ 32) (hst : ∀ j, j < 200 → 0 ≤ fs j) (hj : j0 < 200) (x_2 : Int32) (ex_2 : x_2 = fs j0 &&& 15) (kd : Nat) (hkd : kd = kdM (fs j0)) (bkd : kd < 16) (ekd : x_2 = nI kd) (x_4 : Int32) (ex_4 : x_4 = fs j0 >>> (4 &&& 31)) (od : Nat) (hod : od = odM (fs j0)) (bod : od < 2 ^ 27) (eod : x_4 = nI od) (c_5 : ¬ kd = 1) (c_10 : ¬ kd = 2) (c_25 : ¬ kd = 3) (c_39 : ¬ kd = 4) (c_53 : ¬ kd = 5) (c_67 : ¬ kd = 6) (c_81 : ¬ kd = 7) (c_95 : kd = 8) (p1_98 : Nat) (hz_98_0 : p1_98 ≤ 32) (hz_98_1 : ((p1_98, fk) : StM) = popS ((p1, fk) : StM)) (r_97 : Int32) (hpv98 : r_97 = popV ((p1, fk) : StM)) (p1_101 : Nat) (hz_101_0 : p1_101 ≤ 32) (hz_101_1 : ((p1_101, fk) : StM) = popS ((p1_98, fk) : StM)) (r_100 : Int32) (hpv101 : r_100 = popV ((p1_98, fk) : StM)) (rf_104 : Int32) (hz_104_0 : True) (r_103 : Int32) (hrc104 : rcQ 8 r_100 r_97 rf r_103 rf_104) (p1_107 : Nat) (fk_107 : Nat → Int32) (hz_107_0 : p1_107 ≤ 32) (hz_107_1 : ((p1_107, fk_107) : StM) = pushM r_103 ((p1_101, fk) : StM)) : (∃ m : Nat, m < 2 ^ 31 ∧ (nI (j0 + 1) : Int32) = nI m ∧ stQ fs g6 j0 ((p1, fk) : StM) rf m (((p1_107 : Nat), (fk_107 : Nat → Int32)) : StM) (rf_104 : Int32)) ∧ ((p1_107 : Nat) ≤ 32) := by
  refine ⟨⟨_, ?_, rfl, ?_⟩, by omega⟩
  · omega
  · first | exact stQ.num (by assumption) (by assumption) (by assumption) (by assumption) | exact stQ.let1 (by assumption) (by assumption) (by assumption) (by assumption) (by assumption) | exact stQ.let0 (by assumption) (by assumption) (by assumption) (by assumption) (by assumption) | exact stQ.not (by assumption) (by assumption) (by assumption) (by assumption) (by assumption) (by assumption) | exact stQ.f1 (by assumption) (by assumption) (by assumption) (by assumption) (by assumption) (by assumption) (by assumption) | exact stQ.f0 (by assumption) (by assumption) (by assumption) (by assumption) (by assumption) | exact stQ.t1 (by assumption) (by assumption) (by assumption) (by assumption) (by assumption) (by assumption) (by assumption) | exact stQ.t0 (by assumption) (by assumption) (by assumption) (by assumption) (by assumption) | exact stQ.ar (by assumption) (by omega) (by omega) (by omega) (by omega) (by omega) (by assumption) (by assumption) (by assumption) (by assumption) (by assumption) (by assumption) | exact stQ.ark (by assumption) (by assumption) (by omega) (by omega) (by omega) (by omega) (by omega) (by assumption) (by assumption) (by assumption) (by assumption) (by assumption) (by assumption)
theorem lf_X9_stepOn_t_110 (a : Nat → Nat) (t : Nat → Nat) (un : Nat) (k1 : Nat) (p1 : Nat) (rf : Int32) (fs : Nat → Int32) (fk : Nat → Int32) (g6 : Nat → Int32) (j0 : Nat) (hp : p1 ≤ 32) (hst : ∀ j, j < 200 → 0 ≤ fs j) (hj : j0 < 200) (x_2 : Int32) (ex_2 : x_2 = fs j0 &&& 15) (kd : Nat) (hkd : kd = kdM (fs j0)) (bkd : kd < 16) (ekd : x_2 = nI kd) (x_4 : Int32) (ex_4 : x_4 = fs j0 >>> (4 &&& 31)) (od : Nat) (hod : od = odM (fs j0)) (bod : od < 2 ^ 27) (eod : x_4 = nI od) (c_5 : ¬ kd = 1) (c_10 : ¬ kd = 2) (c_25 : ¬ kd = 3) (c_39 : ¬ kd = 4) (c_53 : ¬ kd = 5) (c_67 : ¬ kd = 6) (c_81 : ¬ kd = 7) (c_95 : ¬ kd = 8) (c_109 : kd = 9) : p1 ≤ 32 := by
  first | assumption | omega | decide | rfl
theorem lf_X9_stepOn_t_113 (a : Nat → Nat) (t : Nat → Nat) (un : Nat) (k1 : Nat) (p1 : Nat) (rf : Int32) (fs : Nat → Int32) (fk : Nat → Int32) (g6 : Nat → Int32) (j0 : Nat) (hp : p1 ≤ 32) (hst : ∀ j, j < 200 → 0 ≤ fs j) (hj : j0 < 200) (x_2 : Int32) (ex_2 : x_2 = fs j0 &&& 15) (kd : Nat) (hkd : kd = kdM (fs j0)) (bkd : kd < 16) (ekd : x_2 = nI kd) (x_4 : Int32) (ex_4 : x_4 = fs j0 >>> (4 &&& 31)) (od : Nat) (hod : od = odM (fs j0)) (bod : od < 2 ^ 27) (eod : x_4 = nI od) (c_5 : ¬ kd = 1) (c_10 : ¬ kd = 2) (c_25 : ¬ kd = 3) (c_39 : ¬ kd = 4) (c_53 : ¬ kd = 5) (c_67 : ¬ kd = 6) (c_81 : ¬ kd = 7) (c_95 : ¬ kd = 8) (c_109 : kd = 9) (p1_112 : Nat) (hz_112_0 : p1_112 ≤ 32) (hz_112_1 : ((p1_112, fk) : StM) = popS ((p1, fk) : StM)) (r_111 : Int32) (hpv112 : r_111 = popV ((p1, fk) : StM)) : p1_112 ≤ 32 := by
  first | assumption | omega | decide | rfl
theorem lf_X9_stepOn_t_116 (a : Nat → Nat) (t : Nat → Nat) (un : Nat) (k1 : Nat) (p1 : Nat) (rf : Int32) (fs : Nat → Int32) (fk : Nat → Int32) (g6 : Nat → Int32) (j0 : Nat) (hp : p1 ≤ 32) (hst : ∀ j, j < 200 → 0 ≤ fs j) (hj : j0 < 200) (x_2 : Int32) (ex_2 : x_2 = fs j0 &&& 15) (kd : Nat) (hkd : kd = kdM (fs j0)) (bkd : kd < 16) (ekd : x_2 = nI kd) (x_4 : Int32) (ex_4 : x_4 = fs j0 >>> (4 &&& 31)) (od : Nat) (hod : od = odM (fs j0)) (bod : od < 2 ^ 27) (eod : x_4 = nI od) (c_5 : ¬ kd = 1) (c_10 : ¬ kd = 2) (c_25 : ¬ kd = 3) (c_39 : ¬ kd = 4) (c_53 : ¬ kd = 5) (c_67 : ¬ kd = 6) (c_81 : ¬ kd = 7) (c_95 : ¬ kd = 8) (c_109 : kd = 9) (p1_112 : Nat) (hz_112_0 : p1_112 ≤ 32) (hz_112_1 : ((p1_112, fk) : StM) = popS ((p1, fk) : StM)) (r_111 : Int32) (hpv112 : r_111 = popV ((p1, fk) : StM)) (p1_115 : Nat) (hz_115_0 : p1_115 ≤ 32) (hz_115_1 : ((p1_115, fk) : StM) = popS ((p1_112, fk) : StM)) (r_114 : Int32) (hpv115 : r_114 = popV ((p1_112, fk) : StM)) : 9 < 16 := by
  first | assumption | omega | decide | rfl
theorem lf_X9_stepOn_t_119 (a : Nat → Nat) (t : Nat → Nat) (un : Nat) (k1 : Nat) (p1 : Nat) (rf : Int32) (fs : Nat → Int32) (fk : Nat → Int32) (g6 : Nat → Int32) (j0 : Nat) (hp : p1 ≤ 32) (hst : ∀ j, j < 200 → 0 ≤ fs j) (hj : j0 < 200) (x_2 : Int32) (ex_2 : x_2 = fs j0 &&& 15) (kd : Nat) (hkd : kd = kdM (fs j0)) (bkd : kd < 16) (ekd : x_2 = nI kd) (x_4 : Int32) (ex_4 : x_4 = fs j0 >>> (4 &&& 31)) (od : Nat) (hod : od = odM (fs j0)) (bod : od < 2 ^ 27) (eod : x_4 = nI od) (c_5 : ¬ kd = 1) (c_10 : ¬ kd = 2) (c_25 : ¬ kd = 3) (c_39 : ¬ kd = 4) (c_53 : ¬ kd = 5) (c_67 : ¬ kd = 6) (c_81 : ¬ kd = 7) (c_95 : ¬ kd = 8) (c_109 : kd = 9) (p1_112 : Nat) (hz_112_0 : p1_112 ≤ 32) (hz_112_1 : ((p1_112, fk) : StM) = popS ((p1, fk) : StM)) (r_111 : Int32) (hpv112 : r_111 = popV ((p1, fk) : StM)) (p1_115 : Nat) (hz_115_0 : p1_115 ≤ 32) (hz_115_1 : ((p1_115, fk) : StM) = popS ((p1_112, fk) : StM)) (r_114 : Int32) (hpv115 : r_114 = popV ((p1_112, fk) : StM)) (rf_118 : Int32) (hz_118_0 : True) (r_117 : Int32) (hrc118 : rcQ 9 r_114 r_111 rf r_117 rf_118) : p1_115 ≤ 32 := by
  first | assumption | omega | decide | rfl
theorem lf_X9_stepOn_t_122 (a : Nat → Nat) (t : Nat → Nat) (un : Nat) (k1 : Nat) (p1 : Nat) (rf : Int32) (fs : Nat → Int32) (fk : Nat → Int32) (g6 : Nat → Int32) (j0 : Nat) (hp : p1 ≤ 32) (hst : ∀ j, j < 200 → 0 ≤ fs j) (hj : j0 < 200) (x_2 : Int32) (ex_2 : x_2 = fs j0 &&& 15) (kd : Nat) (hkd : kd = kdM (fs j0)) (bkd : kd < 16) (ekd : x_2 = nI kd) (x_4 : Int32) (ex_4 : x_4 = fs j0 >>> (4 &&& 31)) (od : Nat) (hod : od = odM (fs j0)) (bod : od < 2 ^ 27) (eod : x_4 = nI od) (c_5 : ¬ kd = 1) (c_10 : ¬ kd = 2) (c_25 : ¬ kd = 3) (c_39 : ¬ kd = 4) (c_53 : ¬ kd = 5) (c_67 : ¬ kd = 6) (c_81 : ¬ kd = 7) (c_95 : ¬ kd = 8) (c_109 : kd = 9) (p1_112 : Nat) (hz_112_0 : p1_112 ≤ 32) (hz_112_1 : ((p1_112, fk) : StM) = popS ((p1, fk) : StM)) (r_111 : Int32) (hpv112 : r_111 = popV ((p1, fk) : StM)) (p1_115 : Nat) (hz_115_0 : p1_115 ≤ 32) (hz_115_1 : ((p1_115, fk) : StM) = popS ((p1_112, fk) : StM)) (r_114 : Int32) (hpv115 : r_114 = popV ((p1_112, fk) : StM)) (rf_118 : Int32) (hz_118_0 : True) (r_117 : Int32) (hrc118 : rcQ 9 r_114 r_111 rf r_117 rf_118) (p1_121 : Nat) (fk_121 : Nat → Int32) (hz_121_0 : p1_121 ≤ 32) (hz_121_1 : ((p1_121, fk_121) : StM) = pushM r_117 ((p1_115, fk) : StM)) : (∃ m : Nat, m < 2 ^ 31 ∧ (nI (j0 + 1) : Int32) = nI m ∧ stQ fs g6 j0 ((p1, fk) : StM) rf m (((p1_121 : Nat), (fk_121 : Nat → Int32)) : StM) (rf_118 : Int32)) ∧ ((p1_121 : Nat) ≤ 32) := by
  refine ⟨⟨_, ?_, rfl, ?_⟩, by omega⟩
  · omega
  · first | exact stQ.num (by assumption) (by assumption) (by assumption) (by assumption) | exact stQ.let1 (by assumption) (by assumption) (by assumption) (by assumption) (by assumption) | exact stQ.let0 (by assumption) (by assumption) (by assumption) (by assumption) (by assumption) | exact stQ.not (by assumption) (by assumption) (by assumption) (by assumption) (by assumption) (by assumption) | exact stQ.f1 (by assumption) (by assumption) (by assumption) (by assumption) (by assumption) (by assumption) (by assumption) | exact stQ.f0 (by assumption) (by assumption) (by assumption) (by assumption) (by assumption) | exact stQ.t1 (by assumption) (by assumption) (by assumption) (by assumption) (by assumption) (by assumption) (by assumption) | exact stQ.t0 (by assumption) (by assumption) (by assumption) (by assumption) (by assumption) | exact stQ.ar (by assumption) (by omega) (by omega) (by omega) (by omega) (by omega) (by assumption) (by assumption) (by assumption) (by assumption) (by assumption) (by assumption) | exact stQ.ark (by assumption) (by assumption) (by omega) (by omega) (by omega) (by omega) (by omega) (by assumption) (by assumption) (by assumption) (by assumption) (by assumption) (by assumption)
theorem lf_X9_stepOn_t_124 (a : Nat → Nat) (t : Nat → Nat) (un : Nat) (k1 : Nat) (p1 : Nat) (rf : Int32) (fs : Nat → Int32) (fk : Nat → Int32) (g6 : Nat → Int32) (j0 : Nat) (hp : p1 ≤ 32) (hst : ∀ j, j < 200 → 0 ≤ fs j) (hj : j0 < 200) (x_2 : Int32) (ex_2 : x_2 = fs j0 &&& 15) (kd : Nat) (hkd : kd = kdM (fs j0)) (bkd : kd < 16) (ekd : x_2 = nI kd) (x_4 : Int32) (ex_4 : x_4 = fs j0 >>> (4 &&& 31)) (od : Nat) (hod : od = odM (fs j0)) (bod : od < 2 ^ 27) (eod : x_4 = nI od) (c_5 : ¬ kd = 1) (c_10 : ¬ kd = 2) (c_25 : ¬ kd = 3) (c_39 : ¬ kd = 4) (c_53 : ¬ kd = 5) (c_67 : ¬ kd = 6) (c_81 : ¬ kd = 7) (c_95 : ¬ kd = 8) (c_109 : ¬ kd = 9) (c_123 : kd = 10) : p1 ≤ 32 := by
  first | assumption | omega | decide | rfl
theorem lf_X9_stepOn_t_127 (a : Nat → Nat) (t : Nat → Nat) (un : Nat) (k1 : Nat) (p1 : Nat) (rf : Int32) (fs : Nat → Int32) (fk : Nat → Int32) (g6 : Nat → Int32) (j0 : Nat) (hp : p1 ≤ 32) (hst : ∀ j, j < 200 → 0 ≤ fs j) (hj : j0 < 200) (x_2 : Int32) (ex_2 : x_2 = fs j0 &&& 15) (kd : Nat) (hkd : kd = kdM (fs j0)) (bkd : kd < 16) (ekd : x_2 = nI kd) (x_4 : Int32) (ex_4 : x_4 = fs j0 >>> (4 &&& 31)) (od : Nat) (hod : od = odM (fs j0)) (bod : od < 2 ^ 27) (eod : x_4 = nI od) (c_5 : ¬ kd = 1) (c_10 : ¬ kd = 2) (c_25 : ¬ kd = 3) (c_39 : ¬ kd = 4) (c_53 : ¬ kd = 5) (c_67 : ¬ kd = 6) (c_81 : ¬ kd = 7) (c_95 : ¬ kd = 8) (c_109 : ¬ kd = 9) (c_123 : kd = 10) (p1_126 : Nat) (hz_126_0 : p1_126 ≤ 32) (hz_126_1 : ((p1_126, fk) : StM) = popS ((p1, fk) : StM)) (r_125 : Int32) (hpv126 : r_125 = popV ((p1, fk) : StM)) : p1_126 ≤ 32 := by
  first | assumption | omega | decide | rfl
theorem lf_X9_stepOn_t_130 (a : Nat → Nat) (t : Nat → Nat) (un : Nat) (k1 : Nat) (p1 : Nat) (rf : Int32) (fs : Nat → Int32) (fk : Nat → Int32) (g6 : Nat → Int32) (j0 : Nat) (hp : p1 ≤ 32) (hst : ∀ j, j < 200 → 0 ≤ fs j) (hj : j0 < 200) (x_2 : Int32) (ex_2 : x_2 = fs j0 &&& 15) (kd : Nat) (hkd : kd = kdM (fs j0)) (bkd : kd < 16) (ekd : x_2 = nI kd) (x_4 : Int32) (ex_4 : x_4 = fs j0 >>> (4 &&& 31)) (od : Nat) (hod : od = odM (fs j0)) (bod : od < 2 ^ 27) (eod : x_4 = nI od) (c_5 : ¬ kd = 1) (c_10 : ¬ kd = 2) (c_25 : ¬ kd = 3) (c_39 : ¬ kd = 4) (c_53 : ¬ kd = 5) (c_67 : ¬ kd = 6) (c_81 : ¬ kd = 7) (c_95 : ¬ kd = 8) (c_109 : ¬ kd = 9) (c_123 : kd = 10) (p1_126 : Nat) (hz_126_0 : p1_126 ≤ 32) (hz_126_1 : ((p1_126, fk) : StM) = popS ((p1, fk) : StM)) (r_125 : Int32) (hpv126 : r_125 = popV ((p1, fk) : StM)) (p1_129 : Nat) (hz_129_0 : p1_129 ≤ 32) (hz_129_1 : ((p1_129, fk) : StM) = popS ((p1_126, fk) : StM)) (r_128 : Int32) (hpv129 : r_128 = popV ((p1_126, fk) : StM)) : 10 < 16 := by
  first | assumption | omega | decide | rfl
theorem lf_X9_stepOn_t_133 (a : Nat → Nat) (t : Nat → Nat) (un : Nat) (k1 : Nat) (p1 : Nat) (rf : Int32) (fs : Nat → Int32) (fk : Nat → Int32) (g6 : Nat → Int32) (j0 : Nat) (hp : p1 ≤ 32) (hst : ∀ j, j < 200 → 0 ≤ fs j) (hj : j0 < 200) (x_2 : Int32) (ex_2 : x_2 = fs j0 &&& 15) (kd : Nat) (hkd : kd = kdM (fs j0)) (bkd : kd < 16) (ekd : x_2 = nI kd) (x_4 : Int32) (ex_4 : x_4 = fs j0 >>> (4 &&& 31)) (od : Nat) (hod : od = odM (fs j0)) (bod : od < 2 ^ 27) (eod : x_4 = nI od) (c_5 : ¬ kd = 1) (c_10 : ¬ kd = 2) (c_25 : ¬ kd = 3) (c_39 : ¬ kd = 4) (c_53 : ¬ kd = 5) (c_67 : ¬ kd = 6) (c_81 : ¬ kd = 7) (c_95 : ¬ kd = 8) (c_109 : ¬ kd = 9) (c_123 : kd = 10) (p1_126 : Nat) (hz_126_0 : p1_126 ≤ 32) (hz_126_1 : ((p1_126, fk) : StM) = popS ((p1, fk) : StM)) (r_125 : Int32) (hpv126 : r_125 = popV ((p1, fk) : StM)) (p1_129 : Nat) (hz_129_0 : p1_129 ≤ 32) (hz_129_1 : ((p1_129, fk) : StM) = popS ((p1_126, fk) : StM)) (r_128 : Int32) (hpv129 : r_128 = popV ((p1_126, fk) : StM)) (rf_132 : Int32) (hz_132_0 : True) (r_131 : Int32) (hrc132 : rcQ 10 r_128 r_125 rf r_131 rf_132) : p1_129 ≤ 32 := by
  first | assumption | omega | decide | rfl
theorem lf_X9_stepOn_t_136 (a : Nat → Nat) (t : Nat → Nat) (un : Nat) (k1 : Nat) (p1 : Nat) (rf : Int32) (fs : Nat → Int32) (fk : Nat → Int32) (g6 : Nat → Int32) (j0 : Nat) (hp : p1 ≤ 32) (hst : ∀ j, j < 200 → 0 ≤ fs j) (hj : j0 < 200) (x_2 : Int32) (ex_2 : x_2 = fs j0 &&& 15) (kd : Nat) (hkd : kd = kdM (fs j0)) (bkd : kd < 16) (ekd : x_2 = nI kd) (x_4 : Int32) (ex_4 : x_4 = fs j0 >>> (4 &&& 31)) (od : Nat) (hod : od = odM (fs j0)) (bod : od < 2 ^ 27) (eod : x_4 = nI od) (c_5 : ¬ kd = 1) (c_10 : ¬ kd = 2) (c_25 : ¬ kd = 3) (c_39 : ¬ kd = 4) (c_53 : ¬ kd = 5) (c_67 : ¬ kd = 6) (c_81 : ¬ kd = 7) (c_95 : ¬ kd = 8) (c_109 : ¬ kd = 9) (c_123 : kd = 10) (p1_126 : Nat) (hz_126_0 : p1_126 ≤ 32) (hz_126_1 : ((p1_126, fk) : StM) = popS ((p1, fk) : StM)) (r_125 : Int32) (hpv126 : r_125 = popV ((p1, fk) : StM)) (p1_129 : Nat) (hz_129_0 : p1_129 ≤ 32) (hz_129_1 : ((p1_129, fk) : StM) = popS ((p1_126, fk) : StM)) (r_128 : Int32) (hpv129 : r_128 = popV ((p1_126, fk) : StM)) (rf_132 : Int32) (hz_132_0 : True) (r_131 : Int32) (hrc132 : rcQ 10 r_128 r_125 rf r_131 rf_132) (p1_135 : Nat) (fk_135 : Nat → Int32) (hz_135_0 : p1_135 ≤ 32) (hz_135_1 : ((p1_135, fk_135) : StM) = pushM r_131 ((p1_129, fk) : StM)) : (∃ m : Nat, m < 2 ^ 31 ∧ (nI (j0 + 1) : Int32) = nI m ∧ stQ fs g6 j0 ((p1, fk) : StM) rf m (((p1_135 : Nat), (fk_135 : Nat → Int32)) : StM) (rf_132 : Int32)) ∧ ((p1_135 : Nat) ≤ 32) := by
  refine ⟨⟨_, ?_, rfl, ?_⟩, by omega⟩
  · omega
  · first | exact stQ.num (by assumption) (by assumption) (by assumption) (by assumption) | exact stQ.let1 (by assumption) (by assumption) (by assumption) (by assumption) (by assumption) | exact stQ.let0 (by assumption) (by assumption) (by assumption) (by assumption) (by assumption) | exact stQ.not (by assumption) (by assumption) (by assumption) (by assumption) (by assumption) (by assumption) | exact stQ.f1 (by assumption) (by assumption) (by assumption) (by assumption) (by assumption) (by assumption) (by assumption) | exact stQ.f0 (by assumption) (by assumption) (by assumption) (by assumption) (by assumption) | exact stQ.t1 (by assumption) (by assumption) (by assumption) (by assumption) (by assumption) (by assumption) (by assumption) | exact stQ.t0 (by assumption) (by assumption) (by assumption) (by assumption) (by assumption) | exact stQ.ar (by assumption) (by omega) (by omega) (by omega) (by omega) (by omega) (by assumption) (by assumption) (by assumption) (by assumption) (by assumption) (by assumption) | exact stQ.ark (by assumption) (by assumption) (by omega) (by omega) (by omega) (by omega) (by omega) (by assumption) (by assumption) (by assumption) (by assumption) (by assumption) (by assumption)
theorem lf_X9_stepOn_t_138 (a : Nat → Nat) (t : Nat → Nat) (un : Nat) (k1 : Nat) (p1 : Nat) (rf : Int32) (fs : Nat → Int32) (fk : Nat → Int32) (g6 : Nat → Int32) (j0 : Nat) (hp : p1 ≤ 32) (hst : ∀ j, j < 200 → 0 ≤ fs j) (hj : j0 < 200) (x_2 : Int32) (ex_2 : x_2 = fs j0 &&& 15) (kd : Nat) (hkd : kd = kdM (fs j0)) (bkd : kd < 16) (ekd : x_2 = nI kd) (x_4 : Int32) (ex_4 : x_4 = fs j0 >>> (4 &&& 31)) (od : Nat) (hod : od = odM (fs j0)) (bod : od < 2 ^ 27) (eod : x_4 = nI od) (c_5 : ¬ kd = 1) (c_10 : ¬ kd = 2) (c_25 : ¬ kd = 3) (c_39 : ¬ kd = 4) (c_53 : ¬ kd = 5) (c_67 : ¬ kd = 6) (c_81 : ¬ kd = 7) (c_95 : ¬ kd = 8) (c_109 : ¬ kd = 9) (c_123 : ¬ kd = 10) (c_137 : kd = 11) : p1 ≤ 32 := by
  first | assumption | omega | decide | rfl
theorem lf_X9_stepOn_t_142 (a : Nat → Nat) (t : Nat → Nat) (un : Nat) (k1 : Nat) (p1 : Nat) (rf : Int32) (fs : Nat → Int32) (fk : Nat → Int32) (g6 : Nat → Int32) (j0 : Nat) (hp : p1 ≤ 32) (hst : ∀ j, j < 200 → 0 ≤ fs j) (hj : j0 < 200) (x_2 : Int32) (ex_2 : x_2 = fs j0 &&& 15) (kd : Nat) (hkd : kd = kdM (fs j0)) (bkd : kd < 16) (ekd : x_2 = nI kd) (x_4 : Int32) (ex_4 : x_4 = fs j0 >>> (4 &&& 31)) (od : Nat) (hod : od = odM (fs j0)) (bod : od < 2 ^ 27) (eod : x_4 = nI od) (c_5 : ¬ kd = 1) (c_10 : ¬ kd = 2) (c_25 : ¬ kd = 3) (c_39 : ¬ kd = 4) (c_53 : ¬ kd = 5) (c_67 : ¬ kd = 6) (c_81 : ¬ kd = 7) (c_95 : ¬ kd = 8) (c_109 : ¬ kd = 9) (c_123 : ¬ kd = 10) (c_137 : kd = 11) (p1_140 : Nat) (hz_140_0 : p1_140 ≤ 32) (hz_140_1 : ((p1_140, fk) : StM) = popS ((p1, fk) : StM)) (r_139 : Int32) (hpv140 : r_139 = popV ((p1, fk) : StM)) (x_141 : Int32) (ex_141 : x_141 = 1 - r_139) : p1_140 ≤ 32 := by
  first | assumption | omega | decide | rfl
theorem lf_X9_stepOn_t_145 (a : Nat → Nat) (t : Nat → Nat) (un : Nat) (k1 : Nat) (p1 : Nat) (rf : Int32) (fs : Nat → Int32) (fk : Nat → Int32) (g6 : Nat → Int32) (j0 : Nat) (hp : p1 ≤ 32) (hst : ∀ j, j < 200 → 0 ≤ fs j) (hj : j0 < 200) (x_2 : Int32) (ex_2 : x_2 = fs j0 &&& 15) (kd : Nat) (hkd : kd = kdM (fs j0)) (bkd : kd < 16) (ekd : x_2 = nI kd) (x_4 : Int32) (ex_4 : x_4 = fs j0 >>> (4 &&& 31)) (od : Nat) (hod : od = odM (fs j0)) (bod : od < 2 ^ 27) (eod : x_4 = nI od) (c_5 : ¬ kd = 1) (c_10 : ¬ kd = 2) (c_25 : ¬ kd = 3) (c_39 : ¬ kd = 4) (c_53 : ¬ kd = 5) (c_67 : ¬ kd = 6) (c_81 : ¬ kd = 7) (c_95 : ¬ kd = 8) (c_109 : ¬ kd = 9) (c_123 : ¬ kd = 10) (c_137 : kd = 11) (p1_140 : Nat) (hz_140_0 : p1_140 ≤ 32) (hz_140_1 : ((p1_140, fk) : StM) = popS ((p1, fk) : StM)) (r_139 : Int32) (hpv140 : r_139 = popV ((p1, fk) : StM)) (x_141 : Int32) (ex_141 : x_141 = 1 - r_139) (p1_144 : Nat) (fk_144 : Nat → Int32) (hz_144_0 : p1_144 ≤ 32) (hz_144_1 : ((p1_144, fk_144) : StM) = pushM x_141 ((p1_140, fk) : StM)) : (∃ m : Nat, m < 2 ^ 31 ∧ (nI (j0 + 1) : Int32) = nI m ∧ stQ fs g6 j0 ((p1, fk) : StM) rf m (((p1_144 : Nat), (fk_144 : Nat → Int32)) : StM) (rf : Int32)) ∧ ((p1_144 : Nat) ≤ 32) := by
  refine ⟨⟨_, ?_, rfl, ?_⟩, by omega⟩
  · omega
  · first | exact stQ.num (by assumption) (by assumption) (by assumption) (by assumption) | exact stQ.let1 (by assumption) (by assumption) (by assumption) (by assumption) (by assumption) | exact stQ.let0 (by assumption) (by assumption) (by assumption) (by assumption) (by assumption) | exact stQ.not (by assumption) (by assumption) (by assumption) (by assumption) (by assumption) (by assumption) | exact stQ.f1 (by assumption) (by assumption) (by assumption) (by assumption) (by assumption) (by assumption) (by assumption) | exact stQ.f0 (by assumption) (by assumption) (by assumption) (by assumption) (by assumption) | exact stQ.t1 (by assumption) (by assumption) (by assumption) (by assumption) (by assumption) (by assumption) (by assumption) | exact stQ.t0 (by assumption) (by assumption) (by assumption) (by assumption) (by assumption) | exact stQ.ar (by assumption) (by omega) (by omega) (by omega) (by omega) (by omega) (by assumption) (by assumption) (by assumption) (by assumption) (by assumption) (by assumption) | exact stQ.ark (by assumption) (by assumption) (by omega) (by omega) (by omega) (by omega) (by omega) (by assumption) (by assumption) (by assumption) (by assumption) (by assumption) (by assumption)
theorem lf_X9_stepOn_t_147 (a : Nat → Nat) (t : Nat → Nat) (un : Nat) (k1 : Nat) (p1 : Nat) (rf : Int32) (fs : Nat → Int32) (fk : Nat → Int32) (g6 : Nat → Int32) (j0 : Nat) (hp : p1 ≤ 32) (hst : ∀ j, j < 200 → 0 ≤ fs j) (hj : j0 < 200) (x_2 : Int32) (ex_2 : x_2 = fs j0 &&& 15) (kd : Nat) (hkd : kd = kdM (fs j0)) (bkd : kd < 16) (ekd : x_2 = nI kd) (x_4 : Int32) (ex_4 : x_4 = fs j0 >>> (4 &&& 31)) (od : Nat) (hod : od = odM (fs j0)) (bod : od < 2 ^ 27) (eod : x_4 = nI od) (c_5 : ¬ kd = 1) (c_10 : ¬ kd = 2) (c_25 : ¬ kd = 3) (c_39 : ¬ kd = 4) (c_53 : ¬ kd = 5) (c_67 : ¬ kd = 6) (c_81 : ¬ kd = 7) (c_95 : ¬ kd = 8) (c_109 : ¬ kd = 9) (c_123 : ¬ kd = 10) (c_137 : ¬ kd = 11) (c_146 : kd = 12) : p1 ≤ 32 := by
  first | assumption | omega | decide | rfl
theorem lf_X9_stepOn_t_151 (a : Nat → Nat) (t : Nat → Nat) (un : Nat) (k1 : Nat) (p1 : Nat) (rf : Int32) (fs : Nat → Int32) (fk : Nat → Int32) (g6 : Nat → Int32) (j0 : Nat) (hp : p1 ≤ 32) (hst : ∀ j, j < 200 → 0 ≤ fs j) (hj : j0 < 200) (x_2 : Int32) (ex_2 : x_2 = fs j0 &&& 15) (kd : Nat) (hkd : kd = kdM (fs j0)) (bkd : kd < 16) (ekd : x_2 = nI kd) (x_4 : Int32) (ex_4 : x_4 = fs j0 >>> (4 &&& 31)) (od : Nat) (hod : od = odM (fs j0)) (bod : od < 2 ^ 27) (eod : x_4 = nI od) (c_5 : ¬ kd = 1) (c_10 : ¬ kd = 2) (c_25 : ¬ kd = 3) (c_39 : ¬ kd = 4) (c_53 : ¬ kd = 5) (c_67 : ¬ kd = 6) (c_81 : ¬ kd = 7) (c_95 : ¬ kd = 8) (c_109 : ¬ kd = 9) (c_123 : ¬ kd = 10) (c_137 : ¬ kd = 11) (c_146 : kd = 12) (p1_149 : Nat) (hz_149_0 : p1_149 ≤ 32) (hz_149_1 : ((p1_149, fk) : StM) = popS ((p1, fk) : StM)) (r_148 : Int32) (hpv149 : r_148 = popV ((p1, fk) : StM)) (c_150 : ¬ r_148 = 0) : (∃ m : Nat, m < 2 ^ 31 ∧ (nI (j0 + 1) : Int32) = nI m ∧ stQ fs g6 j0 ((p1, fk) : StM) rf m (((p1_149 : Nat), (fk : Nat → Int32)) : StM) (rf : Int32)) ∧ ((p1_149 : Nat) ≤ 32) := by
  refine ⟨⟨_, ?_, rfl, ?_⟩, by omega⟩
  · omega
  · first | exact stQ.num (by assumption) (by assumption) (by assumption) (by assumption) | exact stQ.let1 (by assumption) (by assumption) (by assumption) (by assumption) (by assumption) | exact stQ.let0 (by assumption) (by assumption) (by assumption) (by assumption) (by assumption) | exact stQ.not (by assumption) (by assumption) (by assumption) (by assumption) (by assumption) (by assumption) | exact stQ.f1 (by assumption) (by assumption) (by assumption) (by assumption) (by assumption) (by assumption) (by assumption) | exact stQ.f0 (by assumption) (by assumption) (by assumption) (by assumption) (by assumption) | exact stQ.t1 (by assumption) (by assumption) (by assumption) (by assumption) (by assumption) (by assumption) (by assumption) | exact stQ.t0 (by assumption) (by assumption) (by assumption) (by assumption) (by assumption) | exact stQ.ar (by assumption) (by omega) (by omega) (by omega) (by omega) (by omega) (by assumption) (by assumption) (by assumption) (by assumption) (by assumption) (by assumption) | exact stQ.ark (by assumption) (by assumption) (by omega) (by omega) (by omega) (by omega) (by omega) (by assumption) (by assumption) (by assumption) (by assumption) (by assumption) (by assumption)
theorem lf_X9_stepOn_t_152 (a : Nat → Nat) (t : Nat → Nat) (un : Nat) (k1 : Nat) (p1 : Nat) (rf : Int32) (fs : Nat → Int32) (fk : Nat → Int32) (g6 : Nat → Int32) (j0 : Nat) (hp : p1 ≤ 32) (hst : ∀ j, j < 200 → 0 ≤ fs j) (hj : j0 < 200) (x_2 : Int32) (ex_2 : x_2 = fs j0 &&& 15) (kd : Nat) (hkd : kd = kdM (fs j0)) (bkd : kd < 16) (ekd : x_2 = nI kd) (x_4 : Int32) (ex_4 : x_4 = fs j0 >>> (4 &&& 31)) (od : Nat) (hod : od = odM (fs j0)) (bod : od < 2 ^ 27) (eod : x_4 = nI od) (c_5 : ¬ kd = 1) (c_10 : ¬ kd = 2) (c_25 : ¬ kd = 3) (c_39 : ¬ kd = 4) (c_53 : ¬ kd = 5) (c_67 : ¬ kd = 6) (c_81 : ¬ kd = 7) (c_95 : ¬ kd = 8) (c_109 : ¬ kd = 9) (c_123 : ¬ kd = 10) (c_137 : ¬ kd = 11) (c_146 : kd = 12) (p1_149 : Nat) (hz_149_0 : p1_149 ≤ 32) (hz_149_1 : ((p1_149, fk) : StM) = popS ((p1, fk) : StM)) (r_148 : Int32) (hpv149 : r_148 = popV ((p1, fk) : StM)) (c_150 : r_148 = 0) : p1_149 ≤ 32 := by
  first | assumption | omega | decide | rfl
theorem lf_X9_stepOn_t_155 (a : Nat → Nat) (t : Nat → Nat) (un : Nat) (k1 : Nat) (p1 : Nat) (rf : Int32) (fs : Nat → Int32) (fk : Nat → Int32) (g6 : Nat → Int32) (j0 : Nat) (hp : p1 ≤ 32) (hst : ∀ j, j < 200 → 0 ≤ fs j) (hj : j0 < 200) (x_2 : Int32) (ex_2 : x_2 = fs j0 &&& 15) (kd : Nat) (hkd : kd = kdM (fs j0)) (bkd : kd < 16) (ekd : x_2 = nI kd) (x_4 : Int32) (ex_4 : x_4 = fs j0 >>> (4 &&& 31)) (od : Nat) (hod : od = odM (fs j0)) (bod : od < 2 ^ 27) (eod : x_4 = nI od) (c_5 : ¬ kd = 1) (c_10 : ¬ kd = 2) (c_25 : ¬ kd = 3) (c_39 : ¬ kd = 4) (c_53 : ¬ kd = 5) (c_67 : ¬ kd = 6) (c_81 : ¬ kd = 7) (c_95 : ¬ kd = 8) (c_109 : ¬ kd = 9) (c_123 : ¬ kd = 10) (c_137 : ¬ kd = 11) (c_146 : kd = 12) (p1_149 : Nat) (hz_149_0 : p1_149 ≤ 32) (hz_149_1 : ((p1_149, fk) : StM) = popS ((p1, fk) : StM)) (r_148 : Int32) (hpv149 : r_148 = popV ((p1, fk) : StM)) (c_150 : r_148 = 0) (p1_154 : Nat) (fk_154 : Nat → Int32) (hz_154_0 : p1_154 ≤ 32) (hz_154_1 : ((p1_154, fk_154) : StM) = pushM r_148 ((p1_149, fk) : StM)) : (∃ m : Nat, m < 2 ^ 31 ∧ (nI od : Int32) = nI m ∧ stQ fs g6 j0 ((p1, fk) : StM) rf m (((p1_154 : Nat), (fk_154 : Nat → Int32)) : StM) (rf : Int32)) ∧ ((p1_154 : Nat) ≤ 32) := by
  refine ⟨⟨_, ?_, rfl, ?_⟩, by omega⟩
  · omega
  · first | exact stQ.num (by assumption) (by assumption) (by assumption) (by assumption) | exact stQ.let1 (by assumption) (by assumption) (by assumption) (by assumption) (by assumption) | exact stQ.let0 (by assumption) (by assumption) (by assumption) (by assumption) (by assumption) | exact stQ.not (by assumption) (by assumption) (by assumption) (by assumption) (by assumption) (by assumption) | exact stQ.f1 (by assumption) (by assumption) (by assumption) (by assumption) (by assumption) (by assumption) (by assumption) | exact stQ.f0 (by assumption) (by assumption) (by assumption) (by assumption) (by assumption) | exact stQ.t1 (by assumption) (by assumption) (by assumption) (by assumption) (by assumption) (by assumption) (by assumption) | exact stQ.t0 (by assumption) (by assumption) (by assumption) (by assumption) (by assumption) | exact stQ.ar (by assumption) (by omega) (by omega) (by omega) (by omega) (by omega) (by assumption) (by assumption) (by assumption) (by assumption) (by assumption) (by assumption) | exact stQ.ark (by assumption) (by assumption) (by omega) (by omega) (by omega) (by omega) (by omega) (by assumption) (by assumption) (by assumption) (by assumption) (by assumption) (by assumption)
theorem lf_X9_stepOn_t_157 (a : Nat → Nat) (t : Nat → Nat) (un : Nat) (k1 : Nat) (p1 : Nat) (rf : Int32) (fs : Nat → Int32) (fk : Nat → Int32) (g6 : Nat → Int32) (j0 : Nat) (hp : p1 ≤ 32) (hst : ∀ j, j < 200 → 0 ≤ fs j) (hj : j0 < 200) (x_2 : Int32) (ex_2 : x_2 = fs j0 &&& 15) (kd : Nat) (hkd : kd = kdM (fs j0)) (bkd : kd < 16) (ekd : x_2 = nI kd) (x_4 : Int32) (ex_4 : x_4 = fs j0 >>> (4 &&& 31)) (od : Nat) (hod : od = odM (fs j0)) (bod : od < 2 ^ 27) (eod : x_4 = nI od) (c_5 : ¬ kd = 1) (c_10 : ¬ kd = 2) (c_25 : ¬ kd = 3) (c_39 : ¬ kd = 4) (c_53 : ¬ kd = 5) (c_67 : ¬ kd = 6) (c_81 : ¬ kd = 7) (c_95 : ¬ kd = 8) (c_109 : ¬ kd = 9) (c_123 : ¬ kd = 10) (c_137 : ¬ kd = 11) (c_146 : ¬ kd = 12) (c_156 : kd = 13) : p1 ≤ 32 := by
  first | assumption | omega | decide | rfl
theorem lf_X9_stepOn_t_161 (a : Nat → Nat) (t : Nat → Nat) (un : Nat) (k1 : Nat) (p1 : Nat) (rf : Int32) (fs : Nat → Int32) (fk : Nat → Int32) (g6 : Nat → Int32) (j0 : Nat) (hp : p1 ≤ 32) (hst : ∀ j, j < 200 → 0 ≤ fs j) (hj : j0 < 200) (x_2 : Int32) (ex_2 : x_2 = fs j0 &&& 15) (kd : Nat) (hkd : kd = kdM (fs j0)) (bkd : kd < 16) (ekd : x_2 = nI kd) (x_4 : Int32) (ex_4 : x_4 = fs j0 >>> (4 &&& 31)) (od : Nat) (hod : od = odM (fs j0)) (bod : od < 2 ^ 27) (eod : x_4 = nI od) (c_5 : ¬ kd = 1) (c_10 : ¬ kd = 2) (c_25 : ¬ kd = 3) (c_39 : ¬ kd = 4) (c_53 : ¬ kd = 5) (c_67 : ¬ kd = 6) (c_81 : ¬ kd = 7) (c_95 : ¬ kd = 8) (c_109 : ¬ kd = 9) (c_123 : ¬ kd = 10) (c_137 : ¬ kd = 11) (c_146 : ¬ kd = 12) (c_156 : kd = 13) (p1_159 : Nat) (hz_159_0 : p1_159 ≤ 32) (hz_159_1 : ((p1_159, fk) : StM) = popS ((p1, fk) : StM)) (r_158 : Int32) (hpv159 : r_158 = popV ((p1, fk) : StM)) (c_160 : ¬ r_158 = 1) : (∃ m : Nat, m < 2 ^ 31 ∧ (nI (j0 + 1) : Int32) = nI m ∧ stQ fs g6 j0 ((p1, fk) : StM) rf m (((p1_159 : Nat), (fk : Nat → Int32)) : StM) (rf : Int32)) ∧ ((p1_159 : Nat) ≤ 32) := by
  refine ⟨⟨_, ?_, rfl, ?_⟩, by omega⟩
  · omega
  · first | exact stQ.num (by assumption) (by assumption) (by assumption) (by assumption) | exact stQ.let1 (by assumption) (by assumption) (by assumption) (by assumption) (by assumption) | exact stQ.let0 (by assumption) (by assumption) (by assumption) (by assumption) (by assumption) | exact stQ.not (by assumption) (by assumption) (by assumption) (by assumption) (by assumption) (by assumption) | exact stQ.f1 (by assumption) (by assumption) (by assumption) (by assumption) (by assumption) (by assumption) (by assumption) | exact stQ.f0 (by assumption) (by assumption) (by assumption) (by assumption) (by assumption) | exact stQ.t1 (by assumption) (by assumption) (by assumption) (by assumption) (by assumption) (by assumption) (by assumption) | exact stQ.t0 (by assumption) (by assumption) (by assumption) (by assumption) (by assumption) | exact stQ.ar (by assumption) (by omega) (by omega) (by omega) (by omega) (by omega) (by assumption) (by assumption) (by assumption) (by assumption) (by assumption) (by assumption) | exact stQ.ark (by assumption) (by assumption) (by omega) (by omega) (by omega) (by omega) (by omega) (by assumption) (by assumption) (by assumption) (by assumption) (by assumption) (by assumption)
theorem lf_X9_stepOn_t_162 (a : Nat → Nat) (t : Nat → Nat) (un : Nat) (k1 : Nat) (p1 : Nat) (rf : Int32) (fs : Nat → Int32) (fk : Nat → Int32) (g6 : Nat → Int32) (j0 : Nat) (hp : p1 ≤ 32) (hst : ∀ j, j < 200 → 0 ≤ fs j) (hj : j0 < 200) (x_2 : Int32) (ex_2 : x_2 = fs j0 &&& 15) (kd : Nat) (hkd : kd = kdM (fs j0)) (bkd : kd < 16) (ekd : x_2 = nI kd) (x_4 : Int32) (ex_4 : x_4 = fs j0 >>> (4 &&& 31)) (od : Nat) (hod : od = odM (fs j0)) (bod : od < 2 ^ 27) (eod : x_4 = nI od) (c_5 : ¬ kd = 1) (c_10 : ¬ kd = 2) (c_25 : ¬ kd = 3) (c_39 : ¬ kd = 4) (c_53 : ¬ kd = 5) (c_67 : ¬ kd = 6) (c_81 : ¬ kd = 7) (c_95 : ¬ kd = 8) (c_109 : ¬ kd = 9) (c_123 : ¬ kd = 10) (c_137 : ¬ kd = 11) (c_146 : ¬ kd = 12) (c_156 : kd = 13) (p1_159 : Nat) (hz_159_0 : p1_159 ≤ 32) (hz_159_1 : ((p1_159, fk) : StM) = popS ((p1, fk) : StM)) (r_158 : Int32) (hpv159 : r_158 = popV ((p1, fk) : StM)) (c_160 : r_158 = 1) : p1_159 ≤ 32 := by
  first | assumption | omega | decide | rfl
theorem lf_X9_stepOn_t_165 (a : Nat → Nat) (t : Nat → Nat) (un : Nat) (k1 : Nat) (p1 : Nat) (rf : Int32) (fs : Nat → Int32) (fk : Nat → Int32) (g6 : Nat → Int32) (j0 : Nat) (hp : p1 ≤ 32) (hst : ∀ j, j < 200 → 0 ≤ fs j) (hj : j0 < 200) (x_2 : Int32) (ex_2 : x_2 = fs j0 &&& 15) (kd : Nat) (hkd : kd = kdM (fs j0)) (bkd : kd < 16) (ekd : x_2 = nI kd) (x_4 : Int32) (ex_4 : x_4 = fs j0 >>> (4 &&& 31)) (od : Nat) (hod : od = odM (fs j0)) (bod : od < 2 ^ 27) (eod : x_4 = nI od) (c_5 : ¬ kd = 1) (c_10 : ¬ kd = 2) (c_25 : ¬ kd = 3) (c_39 : ¬ kd = 4) (c_53 : ¬ kd = 5) (c_67 : ¬ kd = 6) (c_81 : ¬ kd = 7) (c_95 : ¬ kd = 8) (c_109 : ¬ kd = 9) (c_123 : ¬ kd = 10) (c_137 : ¬ kd = 11) (c_146 : ¬ kd = 12) (c_156 : kd = 13) (p1_159 : Nat) (hz_159_0 : p1_159 ≤ 32) (hz_159_1 : ((p1_159, fk) : StM) = popS ((p1, fk) : StM)) (r_158 : Int32) (hpv159 : r_158 = popV ((p1, fk) : StM)) (c_160 : r_158 = 1) (p1_164 : Nat) (fk_164 : Nat → Int32) (hz_164_0 : p1_164 ≤ 32) (hz_164_1 : ((p1_164, fk_164) : StM) = pushM r_158 ((p1_159, fk) : StM)) : (∃ m : Nat, m < 2 ^ 31 ∧ (nI od : Int32) = nI m ∧ stQ fs g6 j0 ((p1, fk) : StM) rf m (((p1_164 : Nat), (fk_164 : Nat → Int32)) : StM) (rf : Int32)) ∧ ((p1_164 : Nat) ≤ 32) := by
  refine ⟨⟨_, ?_, rfl, ?_⟩, by omega⟩
  · omega
  · first | exact stQ.num (by assumption) (by assumption) (by assumption) (by assumption) | exact stQ.let1 (by assumption) (by assumption) (by assumption) (by assumption) (by assumption) | exact stQ.let0 (by assumption) (by assumption) (by assumption) (by assumption) (by assumption) | exact stQ.not (by assumption) (by assumption) (by assumption) (by assumption) (by assumption) (by assumption) | exact stQ.f1 (by assumption) (by assumption) (by assumption) (by assumption) (by assumption) (by assumption) (by assumption) | exact stQ.f0 (by assumption) (by assumption) (by assumption) (by assumption) (by assumption) | exact stQ.t1 (by assumption) (by assumption) (by assumption) (by assumption) (by assumption) (by assumption) (by assumption) | exact stQ.t0 (by assumption) (by assumption) (by assumption) (by assumption) (by assumption) | exact stQ.ar (by assumption) (by omega) (by omega) (by omega) (by omega) (by omega) (by assumption) (by assumption) (by assumption) (by assumption) (by assumption) (by assumption) | exact stQ.ark (by assumption) (by assumption) (by omega) (by omega) (by omega) (by omega) (by omega) (by assumption) (by assumption) (by assumption) (by assumption) (by assumption) (by assumption)
theorem lf_X9_stepOn_t_166 (a : Nat → Nat) (t : Nat → Nat) (un : Nat) (k1 : Nat) (p1 : Nat) (rf : Int32) (fs : Nat → Int32) (fk : Nat → Int32) (g6 : Nat → Int32) (j0 : Nat) (hp : p1 ≤ 32) (hst : ∀ j, j < 200 → 0 ≤ fs j) (hj : j0 < 200) (x_2 : Int32) (ex_2 : x_2 = fs j0 &&& 15) (kd : Nat) (hkd : kd = kdM (fs j0)) (bkd : kd < 16) (ekd : x_2 = nI kd) (x_4 : Int32) (ex_4 : x_4 = fs j0 >>> (4 &&& 31)) (od : Nat) (hod : od = odM (fs j0)) (bod : od < 2 ^ 27) (eod : x_4 = nI od) (c_5 : ¬ kd = 1) (c_10 : ¬ kd = 2) (c_25 : ¬ kd = 3) (c_39 : ¬ kd = 4) (c_53 : ¬ kd = 5) (c_67 : ¬ kd = 6) (c_81 : ¬ kd = 7) (c_95 : ¬ kd = 8) (c_109 : ¬ kd = 9) (c_123 : ¬ kd = 10) (c_137 : ¬ kd = 11) (c_146 : ¬ kd = 12) (c_156 : ¬ kd = 13) : (nI kd).toInt < 1 ∨ 13 < (nI kd).toInt := by
  rw [nI_toInt (by omega)]
  omega
theorem lf_X9_stepOn_t_167 (a : Nat → Nat) (t : Nat → Nat) (un : Nat) (k1 : Nat) (p1 : Nat) (rf : Int32) (fs : Nat → Int32) (fk : Nat → Int32) (g6 : Nat → Int32) (j0 : Nat) (hp : p1 ≤ 32) (hst : ∀ j, j < 200 → 0 ≤ fs j) (hj : j0 < 200) (x_2 : Int32) (ex_2 : x_2 = fs j0 &&& 15) (kd : Nat) (hkd : kd = kdM (fs j0)) (bkd : kd < 16) (ekd : x_2 = nI kd) (x_4 : Int32) (ex_4 : x_4 = fs j0 >>> (4 &&& 31)) (od : Nat) (hod : od = odM (fs j0)) (bod : od < 2 ^ 27) (eod : x_4 = nI od) (c_5 : ¬ kd = 1) (c_10 : ¬ kd = 2) (c_25 : ¬ kd = 3) (c_39 : ¬ kd = 4) (c_53 : ¬ kd = 5) (c_67 : ¬ kd = 6) (c_81 : ¬ kd = 7) (c_95 : ¬ kd = 8) (c_109 : ¬ kd = 9) (c_123 : ¬ kd = 10) (c_137 : ¬ kd = 11) (c_146 : ¬ kd = 12) (c_156 : ¬ kd = 13) : p1 ≤ 32 := by
  first | assumption | omega | decide | rfl
theorem lf_X9_stepOn_t_170 (a : Nat → Nat) (t : Nat → Nat) (un : Nat) (k1 : Nat) (p1 : Nat) (rf : Int32) (fs : Nat → Int32) (fk : Nat → Int32) (g6 : Nat → Int32) (j0 : Nat) (hp : p1 ≤ 32) (hst : ∀ j, j < 200 → 0 ≤ fs j) (hj : j0 < 200) (x_2 : Int32) (ex_2 : x_2 = fs j0 &&& 15) (kd : Nat) (hkd : kd = kdM (fs j0)) (bkd : kd < 16) (ekd : x_2 = nI kd) (x_4 : Int32) (ex_4 : x_4 = fs j0 >>> (4 &&& 31)) (od : Nat) (hod : od = odM (fs j0)) (bod : od < 2 ^ 27) (eod : x_4 = nI od) (c_5 : ¬ kd = 1) (c_10 : ¬ kd = 2) (c_25 : ¬ kd = 3) (c_39 : ¬ kd = 4) (c_53 : ¬ kd = 5) (c_67 : ¬ kd = 6) (c_81 : ¬ kd = 7) (c_95 : ¬ kd = 8) (c_109 : ¬ kd = 9) (c_123 : ¬ kd = 10) (c_137 : ¬ kd = 11) (c_146 : ¬ kd = 12) (c_156 : ¬ kd = 13) (p1_169 : Nat) (hz_169_0 : p1_169 ≤ 32) (hz_169_1 : ((p1_169, fk) : StM) = popS ((p1, fk) : StM)) (r_168 : Int32) (hpv169 : r_168 = popV ((p1, fk) : StM)) : p1_169 ≤ 32 := by
  first | assumption | omega | decide | rfl
theorem lf_X9_stepOn_t_173 (a : Nat → Nat) (t : Nat → Nat) (un : Nat) (k1 : Nat) (p1 : Nat) (rf : Int32) (fs : Nat → Int32) (fk : Nat → Int32) (g6 : Nat → Int32) (j0 : Nat) (hp : p1 ≤ 32) (hst : ∀ j, j < 200 → 0 ≤ fs j) (hj : j0 < 200) (x_2 : Int32) (ex_2 : x_2 = fs j0 &&& 15) (kd : Nat) (hkd : kd = kdM (fs j0)) (bkd : kd < 16) (ekd : x_2 = nI kd) (x_4 : Int32) (ex_4 : x_4 = fs j0 >>> (4 &&& 31)) (od : Nat) (hod : od = odM (fs j0)) (bod : od < 2 ^ 27) (eod : x_4 = nI od) (c_5 : ¬ kd = 1) (c_10 : ¬ kd = 2) (c_25 : ¬ kd = 3) (c_39 : ¬ kd = 4) (c_53 : ¬ kd = 5) (c_67 : ¬ kd = 6) (c_81 : ¬ kd = 7) (c_95 : ¬ kd = 8) (c_109 : ¬ kd = 9) (c_123 : ¬ kd = 10) (c_137 : ¬ kd = 11) (c_146 : ¬ kd = 12) (c_156 : ¬ kd = 13) (p1_169 : Nat) (hz_169_0 : p1_169 ≤ 32) (hz_169_1 : ((p1_169, fk) : StM) = popS ((p1, fk) : StM)) (r_168 : Int32) (hpv169 : r_168 = popV ((p1, fk) : StM)) (p1_172 : Nat) (hz_172_0 : p1_172 ≤ 32) (hz_172_1 : ((p1_172, fk) : StM) = popS ((p1_169, fk) : StM)) (r_171 : Int32) (hpv172 : r_171 = popV ((p1_169, fk) : StM)) : kd < 16 := by
  first | assumption | omega | decide | rfl
theorem lf_X9_stepOn_t_176 (a : Nat → Nat) (t : Nat → Nat) (un : Nat) (k1 : Nat) (p1 : Nat) (rf : Int32) (fs : Nat → Int32) (fk : Nat → Int32) (g6 : Nat → Int32) (j0 : Nat) (hp : p1 ≤ 32) (hst : ∀ j, j < 200 → 0 ≤ fs j) (hj : j0 < 200) (x_2 : Int32) (ex_2 : x_2 = fs j0 &&& 15) (kd : Nat) (hkd : kd = kdM (fs j0)) (bkd : kd < 16) (ekd : x_2 = nI kd) (x_4 : Int32) (ex_4 : x_4 = fs j0 >>> (4 &&& 31)) (od : Nat) (hod : od = odM (fs j0)) (bod : od < 2 ^ 27) (eod : x_4 = nI od) (c_5 : ¬ kd = 1) (c_10 : ¬ kd = 2) (c_25 : ¬ kd = 3) (c_39 : ¬ kd = 4) (c_53 : ¬ kd = 5) (c_67 : ¬ kd = 6) (c_81 : ¬ kd = 7) (c_95 : ¬ kd = 8) (c_109 : ¬ kd = 9) (c_123 : ¬ kd = 10) (c_137 : ¬ kd = 11) (c_146 : ¬ kd = 12) (c_156 : ¬ kd = 13) (p1_169 : Nat) (hz_169_0 : p1_169 ≤ 32) (hz_169_1 : ((p1_169, fk) : StM) = popS ((p1, fk) : StM)) (r_168 : Int32) (hpv169 : r_168 = popV ((p1, fk) : StM)) (p1_172 : Nat) (hz_172_0 : p1_172 ≤ 32) (hz_172_1 : ((p1_172, fk) : StM) = popS ((p1_169, fk) : StM)) (r_171 : Int32) (hpv172 : r_171 = popV ((p1_169, fk) : StM)) (rf_175 : Int32) (hz_175_0 : True) (r_174 : Int32) (hrc175 : rcQ kd r_171 r_168 rf r_174 rf_175) : p1_172 ≤ 32 := by
  first | assumption | omega | decide | rfl
theorem lf_X9_stepOn_t_179 (a : Nat → Nat) (t : Nat → Nat) (un : Nat) (k1 : Nat) (p1 : Nat) (rf : Int32) (fs : Nat → Int32) (fk : Nat → Int32) (g6 : Nat → Int32) (j0 : Nat) (hp : p1 ≤ 32) (hst : ∀ j, j < 200 → 0 ≤ fs j) (hj : j0 < 200) (x_2 : Int32) (ex_2 : x_2 = fs j0 &&& 15) (kd : Nat) (hkd : kd = kdM (fs j0)) (bkd : kd < 16) (ekd : x_2 = nI kd) (x_4 : Int32) (ex_4 : x_4 = fs j0 >>> (4 &&& 31)) (od : Nat) (hod : od = odM (fs j0)) (bod : od < 2 ^ 27) (eod : x_4 = nI od) (c_5 : ¬ kd = 1) (c_10 : ¬ kd = 2) (c_25 : ¬ kd = 3) (c_39 : ¬ kd = 4) (c_53 : ¬ kd = 5) (c_67 : ¬ kd = 6) (c_81 : ¬ kd = 7) (c_95 : ¬ kd = 8) (c_109 : ¬ kd = 9) (c_123 : ¬ kd = 10) (c_137 : ¬ kd = 11) (c_146 : ¬ kd = 12) (c_156 : ¬ kd = 13) (p1_169 : Nat) (hz_169_0 : p1_169 ≤ 32) (hz_169_1 : ((p1_169, fk) : StM) = popS ((p1, fk) : StM)) (r_168 : Int32) (hpv169 : r_168 = popV ((p1, fk) : StM)) (p1_172 : Nat) (hz_172_0 : p1_172 ≤ 32) (hz_172_1 : ((p1_172, fk) : StM) = popS ((p1_169, fk) : StM)) (r_171 : Int32) (hpv172 : r_171 = popV ((p1_169, fk) : StM)) (rf_175 : Int32) (hz_175_0 : True) (r_174 : Int32) (hrc175 : rcQ kd r_171 r_168 rf r_174 rf_175) (p1_178 : Nat) (fk_178 : Nat → Int32) (hz_178_0 : p1_178 ≤ 32) (hz_178_1 : ((p1_178, fk_178) : StM) = pushM r_174 ((p1_172, fk) : StM)) : (∃ m : Nat, m < 2 ^ 31 ∧ (nI (j0 + 1) : Int32) = nI m ∧ stQ fs g6 j0 ((p1, fk) : StM) rf m (((p1_178 : Nat), (fk_178 : Nat → Int32)) : StM) (rf_175 : Int32)) ∧ ((p1_178 : Nat) ≤ 32) := by
  refine ⟨⟨_, ?_, rfl, ?_⟩, by omega⟩
  · omega
  · first | exact stQ.num (by assumption) (by assumption) (by assumption) (by assumption) | exact stQ.let1 (by assumption) (by assumption) (by assumption) (by assumption) (by assumption) | exact stQ.let0 (by assumption) (by assumption) (by assumption) (by assumption) (by assumption) | exact stQ.not (by assumption) (by assumption) (by assumption) (by assumption) (by assumption) (by assumption) | exact stQ.f1 (by assumption) (by assumption) (by assumption) (by assumption) (by assumption) (by assumption) (by assumption) | exact stQ.f0 (by assumption) (by assumption) (by assumption) (by assumption) (by assumption) | exact stQ.t1 (by assumption) (by assumption) (by assumption) (by assumption) (by assumption) (by assumption) (by assumption) | exact stQ.t0 (by assumption) (by assumption) (by assumption) (by assumption) (by assumption) | exact stQ.ar (by assumption) (by omega) (by omega) (by omega) (by omega) (by omega) (by assumption) (by assumption) (by assumption) (by assumption) (by assumption) (by assumption) | exact stQ.ark (by assumption) (by assumption) (by omega) (by omega) (by omega) (by omega) (by omega) (by assumption) (by assumption) (by assumption) (by assumption) (by assumption) (by assumption)
set_option maxHeartbeats 4000000 in
set_option maxRecDepth 100000 in
theorem c_X9_stepOn_t (l : Launch) (D : va_G) (cI cB cZ cJ : ClassId) (tx : List (ClassId × FieldType)) (a : Nat → Nat) (t : Nat → Nat) (un : Nat) (k1 : Nat) (p1 : Nat) (rf : Int32) (fs : Nat → Int32) (fk : Nat → Int32) (g6 : Nat → Int32) (j0 : Nat) (hp : p1 ≤ 32) (hst : ∀ j, j < 200 → 0 ≤ fs j) (hj : j0 < 200) : WrI l D cI cB cZ cJ tx yX9_stepOn cX9_stepOn 6 (some .int) 1 0 0 [.ref (t 0), .int (nI j0), .ref (a 24)] [(t 0, .inr (9, [.ref (t 1), .ref (t 2), .ref (t 3), .ref (t 4), .ref (t 5), .int (nI un), .int (nI k1), .int (nI p1), .int rf])), (t 1, .inl (cI, 200, .inl fs)), (t 2, .inl (cI, 32, .inl fk)), (a 24, .inl (cI, 26, .inl g6))] (fun (r : Int32) (v : (Nat) × (Int32) × (Nat → Int32)) => (∃ m : Nat, m < 2 ^ 31 ∧ r = nI m ∧ stQ fs g6 j0 ((p1, fk) : StM) rf m ((v.1, v.2.2) : StM) v.2.1) ∧ (v.1 ≤ 32)) (fun v => [(t 0, .inr (9, [.ref (t 1), .ref (t 2), .ref (t 3), .ref (t 4), .ref (t 5), .int (nI un), .int (nI k1), .int (nI (v.1)), .int v.2.1])), (t 1, .inl (cI, 200, .inl fs)), (t 2, .inl (cI, 32, .inl v.2.2)), (a 24, .inl (cI, 26, .inl g6))]) := by
  refine wri_of2 (by decide) (Nat.le_of_ble_eq_true rfl) ?_
  intro p e s m below meth c A ls H locs hC hK hP hD hA hS hl
  obtain ⟨hx, hb, hr, hml, hown, hts, hlocks, hin⟩ := hC
  have hown : s.vm.findClass RX9 = some m.cls := hown
  have hl : lv_has ls 6 [(0, .ref (t 0)), (1, .int (nI j0)), (2, .ref (a 24))] := hl
  refine W_gQ (fun Q hQ => ?_)
  refine lv_aload_n hx hb dX9_stepOn_0 rfl (lv_at hl 0 rfl) ?_
  refine va_get (D := D) (ci := 9) (v := .ref (t 1)) (C := RX9) (T := TX9) (N := 9) hx hb hts inT_X9 hown hK.1 hP 0 rfl rfl 0 (by decide) (hts _ k_194) (fun _ h9 => h9) rfl dX9_stepOn_1 ?_
  refine lv_iload_n hx hb dX9_stepOn_4 rfl (lv_at hl 1 rfl) ?_
  refine lt_i (j := j0) hx hb hK hP 1 rfl (lf_X9_stepOn_t_1 a t un k1 p1 rf fs fk g6 j0 hp hst hj) (by decide) dX9_stepOn_5 ?_
  refine lv_bipush (v := 15) hx hb dX9_stepOn_6 (by decide) ?_
  refine lv_iand hx hb dX9_stepOn_8 ?_
  refine lv_topi (fun x_2 ex_2 => ?_)
  refine lv_istore_n (lv' := [(3, .int x_2), (0, .ref (t 0)), (1, .int (nI j0)), (2, .ref (a 24))]) hx hb dX9_stepOn_9 rfl hl (by decide) rfl (fun ls hl => ?_)
  obtain ⟨kd, hkd, bkd, ekd⟩ := kd_ex (hst j0 hj) ex_2
  subst ekd
  refine lv_aload_n hx hb dX9_stepOn_10 rfl (lv_at hl 1 rfl) ?_
  refine va_get (D := D) (ci := 9) (v := .ref (t 1)) (C := RX9) (T := TX9) (N := 9) hx hb hts inT_X9 hown hK.1 hP 0 rfl rfl 0 (by decide) (hts _ k_194) (fun _ h9 => h9) rfl dX9_stepOn_11 ?_
  refine lv_iload_n hx hb dX9_stepOn_14 rfl (lv_at hl 2 rfl) ?_
  refine lt_i (j := j0) hx hb hK hP 1 rfl (lf_X9_stepOn_t_3 a t un k1 p1 rf fs fk g6 j0 hp hst hj (nI kd) ex_2 kd hkd bkd rfl) (by decide) dX9_stepOn_15 ?_
  refine lv_iconst (v := 4) hx hb dX9_stepOn_16 (by decide) ?_
  refine lv_ishr hx hb dX9_stepOn_17 ?_
  refine lv_topi (fun x_4 ex_4 => ?_)
  refine lv_istore (lv' := [(4, .int x_4), (3, .int (nI kd)), (0, .ref (t 0)), (1, .int (nI j0)), (2, .ref (a 24))]) hx hb dX9_stepOn_18 hl (by decide) rfl (fun ls hl => ?_)
  obtain ⟨od, hod, bod, eod⟩ := od_ex (hst j0 hj) ex_4
  subst eod
  refine lv_iload_n hx hb dX9_stepOn_20 rfl (lv_at hl 1 rfl) ?_
  by_cases c_5 : kd = 1
  · subst c_5
    refine lv_tableIn (off := 67) (tgt := 88) hx hb dX9_stepOn_21 (by decide) (by decide) rfl (by decide) ?_
    refine lv_aload_n hx hb dX9_stepOn_88 rfl (lv_at hl 2 rfl) ?_
    refine lv_iload hx hb dX9_stepOn_89 (lv_at hl 0 rfl) ?_
    refine eWvP (va_runV (As := [.int (nI od)]) (rest := []) ⟨hx, hb, hml, hown, hts⟩ (c_X9_push_t l D cI cB cZ cJ tx t un k1 p1 rf fk (nI od) (lf_X9_stepOn_t_6 a t un k1 p1 rf fs fk g6 j0 hp hst hj (nI 1) ex_2 1 hkd bkd rfl (nI od) ex_4 od hod bod rfl rfl) H.size) (zV hts k_795 v_X9_push ⟨Nat.le_of_ble_eq_true rfl, Nat.le_of_ble_eq_true rfl⟩) (pV (pxS hK hP hD [0, 2] (by decide) rfl) hK hP 0 rfl rfl) rfl rfl hl.1 rfl (lv_room (Nat.le_of_ble_eq_true rfl)) dX9_stepOn_91 ⟨Nat.le_of_ble_eq_true rfl, Nat.le_of_ble_eq_true rfl⟩) hP hD hS hA [0, 2] [some 0, none, some 1, none] rfl (by decide +kernel) (fun _ => rfl) (fun u_8 H locs wr_7 hP hD hS => ?_)
    obtain ⟨p1_8, fk_8⟩ := u_8
    have hz_8_0 : p1_8 ≤ 32 := wr_7.1
    have hz_8_1 : ((p1_8, fk_8) : StM) = pushM (nI od) ((p1, fk) : StM) := wr_7.2
    have hPD := pd_mk (ws := [(t 0, .inr (9, [.ref (t 1), .ref (t 2), .ref (t 3), .ref (t 4), .ref (t 5), .int (nI un), .int (nI k1), .int (nI p1_8), .int rf])), (t 1, .inl (cI, 200, .inl fs)), (t 2, .inl (cI, 32, .inl fk_8)), (a 24, .inl (cI, 26, .inl g6))]) hP hD
    have hP := hPD.1
    have hD := hPD.2
    refine lv_iload_n hx hb dX9_stepOn_94 rfl (lv_at hl 3 rfl) ?_
    refine lv_iconst (v := 1) hx hb dX9_stepOn_95 (by decide) ?_
    refine lv_iadd hx hb dX9_stepOn_96 ?_
    refine lv_topv (y := nI (j0 + 1)) (nI_add j0 1) ?_
    rw [hQ]
    exact W.iret (v := nI (j0 + 1)) hx hb hr (fun tt9 ht hW => ⟨⟨(nI (j0 + 1) : Int32), ((p1_8 : Nat), (rf : Int32), (fk_8 : Nat → Int32)), rfl, (lf_X9_stepOn_t_9 a t un k1 p1 rf fs fk g6 j0 hp hst hj (nI 1) ex_2 1 hkd bkd rfl (nI od) ex_4 od hod bod rfl rfl p1_8 fk_8 hz_8_0 hz_8_1), ⟨by rw [ht]; exact hP, hD⟩⟩, hS.F ht⟩) hS.2.2 dX9_stepOn_97 hlocks
  by_cases c_10 : kd = 2
  · subst c_10
    refine lv_tableIn (off := 77) (tgt := 98) hx hb dX9_stepOn_21 (by decide) (by decide) rfl (by decide) ?_
    refine lv_aload_n hx hb dX9_stepOn_98 rfl (lv_at hl 2 rfl) ?_
    refine lv_iload hx hb dX9_stepOn_99 (lv_at hl 0 rfl) ?_
    refine lv_aload_n hx hb dX9_stepOn_101 rfl (lv_at hl 4 rfl) ?_
    refine ln_x (v := 26) hx hb hK hP 3 0 rfl rfl (show Int32.ofNat 26 = 26 from by decide) dX9_stepOn_102 ?_
    refine lv_icmp_ge (tgt := 113) hx hb dX9_stepOn_103 (by decide) (fun c_11 => ?_) (fun c_11 => ?_)
    · have n_12 : 26 ≤ od := (lf_X9_stepOn_t_13 a t un k1 p1 rf fs fk g6 j0 hp hst hj (nI 2) ex_2 2 hkd bkd rfl (nI od) ex_4 od hod bod rfl c_5 rfl c_11)
      refine lv_iconst (v := 0) hx hb dX9_stepOn_113 (by decide) ?_
      refine eWvP (va_runV (As := [.int 0]) (rest := []) ⟨hx, hb, hml, hown, hts⟩ (c_X9_push_t l D cI cB cZ cJ tx t un k1 p1 rf fk 0 (lf_X9_stepOn_t_14 a t un k1 p1 rf fs fk g6 j0 hp hst hj (nI 2) ex_2 2 hkd bkd rfl (nI od) ex_4 od hod bod rfl c_5 rfl c_11 n_12) H.size) (zV hts k_795 v_X9_push ⟨Nat.le_of_ble_eq_true rfl, Nat.le_of_ble_eq_true rfl⟩) (pV (pxS hK hP hD [0, 2] (by decide) rfl) hK hP 0 rfl rfl) rfl rfl hl.1 rfl (lv_room (Nat.le_of_ble_eq_true rfl)) dX9_stepOn_114 ⟨Nat.le_of_ble_eq_true rfl, Nat.le_of_ble_eq_true rfl⟩) hP hD hS hA [0, 2] [some 0, none, some 1, none] rfl (by decide +kernel) (fun _ => rfl) (fun u_16 H locs wr_15 hP hD hS => ?_)
      obtain ⟨p1_16, fk_16⟩ := u_16
      have hz_16_0 : p1_16 ≤ 32 := wr_15.1
      have hz_16_1 : ((p1_16, fk_16) : StM) = pushM ((0 : Int32)) ((p1, fk) : StM) := wr_15.2
      have hPD := pd_mk (ws := [(t 0, .inr (9, [.ref (t 1), .ref (t 2), .ref (t 3), .ref (t 4), .ref (t 5), .int (nI un), .int (nI k1), .int (nI p1_16), .int rf])), (t 1, .inl (cI, 200, .inl fs)), (t 2, .inl (cI, 32, .inl fk_16)), (a 24, .inl (cI, 26, .inl g6))]) hP hD
      have hP := hPD.1
      have hD := hPD.2
      refine lv_iload_n hx hb dX9_stepOn_117 rfl (lv_at hl 3 rfl) ?_
      refine lv_iconst (v := 1) hx hb dX9_stepOn_118 (by decide) ?_
      refine lv_iadd hx hb dX9_stepOn_119 ?_
      refine lv_topv (y := nI (j0 + 1)) (nI_add j0 1) ?_
      rw [hQ]
      exact W.iret (v := nI (j0 + 1)) hx hb hr (fun tt9 ht hW => ⟨⟨(nI (j0 + 1) : Int32), ((p1_16 : Nat), (rf : Int32), (fk_16 : Nat → Int32)), rfl, (lf_X9_stepOn_t_17 a t un k1 p1 rf fs fk g6 j0 hp hst hj (nI 2) ex_2 2 hkd bkd rfl (nI od) ex_4 od hod bod rfl c_5 rfl c_11 n_12 p1_16 fk_16 hz_16_0 hz_16_1), ⟨by rw [ht]; exact hP, hD⟩⟩, hS.F ht⟩) hS.2.2 dX9_stepOn_120 hlocks
    · have n_18 : od < 26 := (lf_X9_stepOn_t_19 a t un k1 p1 rf fs fk g6 j0 hp hst hj (nI 2) ex_2 2 hkd bkd rfl (nI od) ex_4 od hod bod rfl c_5 rfl c_11)
      refine lv_aload_n hx hb dX9_stepOn_106 rfl (lv_at hl 4 rfl) ?_
      refine lv_iload hx hb dX9_stepOn_107 (lv_at hl 0 rfl) ?_
      refine lt_i (j := od) hx hb hK hP 3 rfl (lf_X9_stepOn_t_20 a t un k1 p1 rf fs fk g6 j0 hp hst hj (nI 2) ex_2 2 hkd bkd rfl (nI od) ex_4 od hod bod rfl c_5 rfl c_11 n_18) (by decide) dX9_stepOn_109 ?_
      refine lv_goto (tgt := 114) hx hb dX9_stepOn_110 (by decide) ?_
      refine eWvP (va_runV (As := [.int (g6 od)]) (rest := []) ⟨hx, hb, hml, hown, hts⟩ (c_X9_push_t l D cI cB cZ cJ tx t un k1 p1 rf fk (g6 od) (lf_X9_stepOn_t_21 a t un k1 p1 rf fs fk g6 j0 hp hst hj (nI 2) ex_2 2 hkd bkd rfl (nI od) ex_4 od hod bod rfl c_5 rfl c_11 n_18) H.size) (zV hts k_795 v_X9_push ⟨Nat.le_of_ble_eq_true rfl, Nat.le_of_ble_eq_true rfl⟩) (pV (pxS hK hP hD [0, 2] (by decide) rfl) hK hP 0 rfl rfl) rfl rfl hl.1 rfl (lv_room (Nat.le_of_ble_eq_true rfl)) dX9_stepOn_114 ⟨Nat.le_of_ble_eq_true rfl, Nat.le_of_ble_eq_true rfl⟩) hP hD hS hA [0, 2] [some 0, none, some 1, none] rfl (by decide +kernel) (fun _ => rfl) (fun u_23 H locs wr_22 hP hD hS => ?_)
      obtain ⟨p1_23, fk_23⟩ := u_23
      have hz_23_0 : p1_23 ≤ 32 := wr_22.1
      have hz_23_1 : ((p1_23, fk_23) : StM) = pushM (g6 od) ((p1, fk) : StM) := wr_22.2
      have hPD := pd_mk (ws := [(t 0, .inr (9, [.ref (t 1), .ref (t 2), .ref (t 3), .ref (t 4), .ref (t 5), .int (nI un), .int (nI k1), .int (nI p1_23), .int rf])), (t 1, .inl (cI, 200, .inl fs)), (t 2, .inl (cI, 32, .inl fk_23)), (a 24, .inl (cI, 26, .inl g6))]) hP hD
      have hP := hPD.1
      have hD := hPD.2
      refine lv_iload_n hx hb dX9_stepOn_117 rfl (lv_at hl 3 rfl) ?_
      refine lv_iconst (v := 1) hx hb dX9_stepOn_118 (by decide) ?_
      refine lv_iadd hx hb dX9_stepOn_119 ?_
      refine lv_topv (y := nI (j0 + 1)) (nI_add j0 1) ?_
      rw [hQ]
      exact W.iret (v := nI (j0 + 1)) hx hb hr (fun tt9 ht hW => ⟨⟨(nI (j0 + 1) : Int32), ((p1_23 : Nat), (rf : Int32), (fk_23 : Nat → Int32)), rfl, (lf_X9_stepOn_t_24 a t un k1 p1 rf fs fk g6 j0 hp hst hj (nI 2) ex_2 2 hkd bkd rfl (nI od) ex_4 od hod bod rfl c_5 rfl c_11 n_18 p1_23 fk_23 hz_23_0 hz_23_1), ⟨by rw [ht]; exact hP, hD⟩⟩, hS.F ht⟩) hS.2.2 dX9_stepOn_120 hlocks
  by_cases c_25 : kd = 3
  · subst c_25
    refine lv_tableIn (off := 149) (tgt := 170) hx hb dX9_stepOn_21 (by decide) (by decide) rfl (by decide) ?_
    refine lv_aload_n hx hb dX9_stepOn_170 rfl (lv_at hl 2 rfl) ?_
    refine eWiP (va_runV (As := []) (rest := []) ⟨hx, hb, hml, hown, hts⟩ (c_X9_pop_t l D cI cB cZ cJ tx t un k1 p1 rf fk (lf_X9_stepOn_t_26 a t un k1 p1 rf fs fk g6 j0 hp hst hj (nI 3) ex_2 3 hkd bkd rfl (nI od) ex_4 od hod bod rfl c_5 c_10 rfl) H.size) (zV hts k_799 v_X9_pop ⟨Nat.le_of_ble_eq_true rfl, Nat.le_of_ble_eq_true rfl⟩) (pV (pxS hK hP hD [0, 2] (by decide) rfl) hK hP 0 rfl rfl) rfl rfl hl.1 rfl (lv_room (Nat.le_of_ble_eq_true rfl)) dX9_stepOn_171 ⟨Nat.le_of_ble_eq_true rfl, Nat.le_of_ble_eq_true rfl⟩) hP hD hS hA [0, 2] [some 0, none, some 1, none] rfl (by decide +kernel) (fun _ => rfl) (fun r_27 u_28 H locs wr_27 hP hD hS => ?_)
    obtain ⟨p1_28, rfl⟩ : ∃ z, z = u_28 := ⟨_, rfl⟩
    have hz_28_0 : p1_28 ≤ 32 := wr_27.2.1
    have hz_28_1 : ((p1_28, fk) : StM) = popS ((p1, fk) : StM) := wr_27.2.2
    have hPD := pd_mk (ws := [(t 0, .inr (9, [.ref (t 1), .ref (t 2), .ref (t 3), .ref (t 4), .ref (t 5), .int (nI un), .int (nI k1), .int (nI p1_28), .int rf])), (t 1, .inl (cI, 200, .inl fs)), (t 2, .inl (cI, 32, .inl fk)), (a 24, .inl (cI, 26, .inl g6))]) hP hD
    have hP := hPD.1
    have hD := hPD.2
    rcases wr_27 with ⟨hpv28, _⟩
    · refine lv_istore (lv' := [(5, .int r_27), (4, .int (nI od)), (3, .int 3), (0, .ref (t 0)), (1, .int (nI j0)), (2, .ref (a 24))]) hx hb dX9_stepOn_174 hl (by decide) rfl (fun ls hl => ?_)
      refine lv_aload_n hx hb dX9_stepOn_176 rfl (lv_at hl 3 rfl) ?_
      refine lv_aload_n hx hb dX9_stepOn_177 rfl (lv_at hl 3 rfl) ?_
      refine lv_iload_n hx hb dX9_stepOn_178 rfl (lv_at hl 2 rfl) ?_
      refine lv_aload_n hx hb dX9_stepOn_179 rfl (lv_at hl 3 rfl) ?_
      refine eWiP (va_runV (As := []) (rest := [.int 3, .ref (t 0), .ref (t 0)]) ⟨hx, hb, hml, hown, hts⟩ (c_X9_pop_t l D cI cB cZ cJ tx t un k1 p1_28 rf fk (lf_X9_stepOn_t_29 a t un k1 p1 rf fs fk g6 j0 hp hst hj (nI 3) ex_2 3 hkd bkd rfl (nI od) ex_4 od hod bod rfl c_5 c_10 rfl p1_28 hz_28_0 hz_28_1 r_27 hpv28) H.size) (zV hts k_799 v_X9_pop ⟨Nat.le_of_ble_eq_true rfl, Nat.le_of_ble_eq_true rfl⟩) (pV (pxS hK hP hD [0, 2] (by decide) rfl) hK hP 0 rfl rfl) rfl rfl hl.1 rfl (lv_room (Nat.le_of_ble_eq_true rfl)) dX9_stepOn_180 ⟨Nat.le_of_ble_eq_true rfl, Nat.le_of_ble_eq_true rfl⟩) hP hD hS hA [0, 2] [some 0, none, some 1, none] rfl (by decide +kernel) (fun _ => rfl) (fun r_30 u_31 H locs wr_30 hP hD hS => ?_)
      obtain ⟨p1_31, rfl⟩ : ∃ z, z = u_31 := ⟨_, rfl⟩
      have hz_31_0 : p1_31 ≤ 32 := wr_30.2.1
      have hz_31_1 : ((p1_31, fk) : StM) = popS ((p1_28, fk) : StM) := wr_30.2.2
      have hPD := pd_mk (ws := [(t 0, .inr (9, [.ref (t 1), .ref (t 2), .ref (t 3), .ref (t 4), .ref (t 5), .int (nI un), .int (nI k1), .int (nI p1_31), .int rf])), (t 1, .inl (cI, 200, .inl fs)), (t 2, .inl (cI, 32, .inl fk)), (a 24, .inl (cI, 26, .inl g6))]) hP hD
      have hP := hPD.1
      have hD := hPD.2
      rcases wr_30 with ⟨hpv31, _⟩
      · refine lv_iload hx hb dX9_stepOn_183 (lv_at hl 0 rfl) ?_
        refine eWiP (va_runV (As := [.int 3, .int r_30, .int r_27]) (rest := [.ref (t 0)]) ⟨hx, hb, hml, hown, hts⟩ (c_X9_reckon_t l D cI cB cZ cJ tx t un k1 p1_31 rf 3 r_30 r_27 (lf_X9_stepOn_t_32 a t un k1 p1 rf fs fk g6 j0 hp hst hj (nI 3) ex_2 3 hkd bkd rfl (nI od) ex_4 od hod bod rfl c_5 c_10 rfl p1_28 hz_28_0 hz_28_1 r_27 hpv28 p1_31 hz_31_0 hz_31_1 r_30 hpv31) H.size) (zV hts k_803 v_X9_reckon ⟨Nat.le_of_ble_eq_true rfl, Nat.le_of_ble_eq_true rfl⟩) (pV (pxS hK hP hD [0] (by decide) rfl) hK hP 0 rfl rfl) rfl rfl hl.1 rfl (lv_room (Nat.le_of_ble_eq_true rfl)) dX9_stepOn_185 ⟨Nat.le_of_ble_eq_true rfl, Nat.le_of_ble_eq_true rfl⟩) hP hD hS hA [0] [some 0, none, none, none] rfl (by decide +kernel) (fun _ => rfl) (fun r_33 u_34 H locs wr_33 hP hD hS => ?_)
        obtain ⟨rf_34, rfl⟩ : ∃ z, z = u_34 := ⟨_, rfl⟩
        have hz_34_0 : True := wr_33.2
        have hPD := pd_mk (ws := [(t 0, .inr (9, [.ref (t 1), .ref (t 2), .ref (t 3), .ref (t 4), .ref (t 5), .int (nI un), .int (nI k1), .int (nI p1_31), .int rf_34])), (t 1, .inl (cI, 200, .inl fs)), (t 2, .inl (cI, 32, .inl fk)), (a 24, .inl (cI, 26, .inl g6))]) hP hD
        have hP := hPD.1
        have hD := hPD.2
        rcases wr_33 with ⟨hrc34, _⟩
        · refine eWvP (va_runV (As := [.int r_33]) (rest := []) ⟨hx, hb, hml, hown, hts⟩ (c_X9_push_t l D cI cB cZ cJ tx t un k1 p1_31 rf_34 fk r_33 (lf_X9_stepOn_t_35 a t un k1 p1 rf fs fk g6 j0 hp hst hj (nI 3) ex_2 3 hkd bkd rfl (nI od) ex_4 od hod bod rfl c_5 c_10 rfl p1_28 hz_28_0 hz_28_1 r_27 hpv28 p1_31 hz_31_0 hz_31_1 r_30 hpv31 rf_34 hz_34_0 r_33 hrc34) H.size) (zV hts k_795 v_X9_push ⟨Nat.le_of_ble_eq_true rfl, Nat.le_of_ble_eq_true rfl⟩) (pV (pxS hK hP hD [0, 2] (by decide) rfl) hK hP 0 rfl rfl) rfl rfl hl.1 rfl (lv_room (Nat.le_of_ble_eq_true rfl)) dX9_stepOn_188 ⟨Nat.le_of_ble_eq_true rfl, Nat.le_of_ble_eq_true rfl⟩) hP hD hS hA [0, 2] [some 0, none, some 1, none] rfl (by decide +kernel) (fun _ => rfl) (fun u_37 H locs wr_36 hP hD hS => ?_)
          obtain ⟨p1_37, fk_37⟩ := u_37
          have hz_37_0 : p1_37 ≤ 32 := wr_36.1
          have hz_37_1 : ((p1_37, fk_37) : StM) = pushM r_33 ((p1_31, fk) : StM) := wr_36.2
          have hPD := pd_mk (ws := [(t 0, .inr (9, [.ref (t 1), .ref (t 2), .ref (t 3), .ref (t 4), .ref (t 5), .int (nI un), .int (nI k1), .int (nI p1_37), .int rf_34])), (t 1, .inl (cI, 200, .inl fs)), (t 2, .inl (cI, 32, .inl fk_37)), (a 24, .inl (cI, 26, .inl g6))]) hP hD
          have hP := hPD.1
          have hD := hPD.2
          refine lv_iload_n hx hb dX9_stepOn_191 rfl (lv_at hl 4 rfl) ?_
          refine lv_iconst (v := 1) hx hb dX9_stepOn_192 (by decide) ?_
          refine lv_iadd hx hb dX9_stepOn_193 ?_
          refine lv_topv (y := nI (j0 + 1)) (nI_add j0 1) ?_
          rw [hQ]
          exact W.iret (v := nI (j0 + 1)) hx hb hr (fun tt9 ht hW => ⟨⟨(nI (j0 + 1) : Int32), ((p1_37 : Nat), (rf_34 : Int32), (fk_37 : Nat → Int32)), rfl, (lf_X9_stepOn_t_38 a t un k1 p1 rf fs fk g6 j0 hp hst hj (nI 3) ex_2 3 hkd bkd rfl (nI od) ex_4 od hod bod rfl c_5 c_10 rfl p1_28 hz_28_0 hz_28_1 r_27 hpv28 p1_31 hz_31_0 hz_31_1 r_30 hpv31 rf_34 hz_34_0 r_33 hrc34 p1_37 fk_37 hz_37_0 hz_37_1), ⟨by rw [ht]; exact hP, hD⟩⟩, hS.F ht⟩) hS.2.2 dX9_stepOn_194 hlocks
  by_cases c_39 : kd = 4
  · subst c_39
    refine lv_tableIn (off := 149) (tgt := 170) hx hb dX9_stepOn_21 (by decide) (by decide) rfl (by decide) ?_
    refine lv_aload_n hx hb dX9_stepOn_170 rfl (lv_at hl 2 rfl) ?_
    refine eWiP (va_runV (As := []) (rest := []) ⟨hx, hb, hml, hown, hts⟩ (c_X9_pop_t l D cI cB cZ cJ tx t un k1 p1 rf fk (lf_X9_stepOn_t_40 a t un k1 p1 rf fs fk g6 j0 hp hst hj (nI 4) ex_2 4 hkd bkd rfl (nI od) ex_4 od hod bod rfl c_5 c_10 c_25 rfl) H.size) (zV hts k_799 v_X9_pop ⟨Nat.le_of_ble_eq_true rfl, Nat.le_of_ble_eq_true rfl⟩) (pV (pxS hK hP hD [0, 2] (by decide) rfl) hK hP 0 rfl rfl) rfl rfl hl.1 rfl (lv_room (Nat.le_of_ble_eq_true rfl)) dX9_stepOn_171 ⟨Nat.le_of_ble_eq_true rfl, Nat.le_of_ble_eq_true rfl⟩) hP hD hS hA [0, 2] [some 0, none, some 1, none] rfl (by decide +kernel) (fun _ => rfl) (fun r_41 u_42 H locs wr_41 hP hD hS => ?_)
    obtain ⟨p1_42, rfl⟩ : ∃ z, z = u_42 := ⟨_, rfl⟩
    have hz_42_0 : p1_42 ≤ 32 := wr_41.2.1
    have hz_42_1 : ((p1_42, fk) : StM) = popS ((p1, fk) : StM) := wr_41.2.2
    have hPD := pd_mk (ws := [(t 0, .inr (9, [.ref (t 1), .ref (t 2), .ref (t 3), .ref (t 4), .ref (t 5), .int (nI un), .int (nI k1), .int (nI p1_42), .int rf])), (t 1, .inl (cI, 200, .inl fs)), (t 2, .inl (cI, 32, .inl fk)), (a 24, .inl (cI, 26, .inl g6))]) hP hD
    have hP := hPD.1
    have hD := hPD.2
    rcases wr_41 with ⟨hpv42, _⟩
    · refine lv_istore (lv' := [(5, .int r_41), (4, .int (nI od)), (3, .int 4), (0, .ref (t 0)), (1, .int (nI j0)), (2, .ref (a 24))]) hx hb dX9_stepOn_174 hl (by decide) rfl (fun ls hl => ?_)
      refine lv_aload_n hx hb dX9_stepOn_176 rfl (lv_at hl 3 rfl) ?_
      refine lv_aload_n hx hb dX9_stepOn_177 rfl (lv_at hl 3 rfl) ?_
      refine lv_iload_n hx hb dX9_stepOn_178 rfl (lv_at hl 2 rfl) ?_
      refine lv_aload_n hx hb dX9_stepOn_179 rfl (lv_at hl 3 rfl) ?_
      refine eWiP (va_runV (As := []) (rest := [.int 4, .ref (t 0), .ref (t 0)]) ⟨hx, hb, hml, hown, hts⟩ (c_X9_pop_t l D cI cB cZ cJ tx t un k1 p1_42 rf fk (lf_X9_stepOn_t_43 a t un k1 p1 rf fs fk g6 j0 hp hst hj (nI 4) ex_2 4 hkd bkd rfl (nI od) ex_4 od hod bod rfl c_5 c_10 c_25 rfl p1_42 hz_42_0 hz_42_1 r_41 hpv42) H.size) (zV hts k_799 v_X9_pop ⟨Nat.le_of_ble_eq_true rfl, Nat.le_of_ble_eq_true rfl⟩) (pV (pxS hK hP hD [0, 2] (by decide) rfl) hK hP 0 rfl rfl) rfl rfl hl.1 rfl (lv_room (Nat.le_of_ble_eq_true rfl)) dX9_stepOn_180 ⟨Nat.le_of_ble_eq_true rfl, Nat.le_of_ble_eq_true rfl⟩) hP hD hS hA [0, 2] [some 0, none, some 1, none] rfl (by decide +kernel) (fun _ => rfl) (fun r_44 u_45 H locs wr_44 hP hD hS => ?_)
      obtain ⟨p1_45, rfl⟩ : ∃ z, z = u_45 := ⟨_, rfl⟩
      have hz_45_0 : p1_45 ≤ 32 := wr_44.2.1
      have hz_45_1 : ((p1_45, fk) : StM) = popS ((p1_42, fk) : StM) := wr_44.2.2
      have hPD := pd_mk (ws := [(t 0, .inr (9, [.ref (t 1), .ref (t 2), .ref (t 3), .ref (t 4), .ref (t 5), .int (nI un), .int (nI k1), .int (nI p1_45), .int rf])), (t 1, .inl (cI, 200, .inl fs)), (t 2, .inl (cI, 32, .inl fk)), (a 24, .inl (cI, 26, .inl g6))]) hP hD
      have hP := hPD.1
      have hD := hPD.2
      rcases wr_44 with ⟨hpv45, _⟩
      · refine lv_iload hx hb dX9_stepOn_183 (lv_at hl 0 rfl) ?_
        refine eWiP (va_runV (As := [.int 4, .int r_44, .int r_41]) (rest := [.ref (t 0)]) ⟨hx, hb, hml, hown, hts⟩ (c_X9_reckon_t l D cI cB cZ cJ tx t un k1 p1_45 rf 4 r_44 r_41 (lf_X9_stepOn_t_46 a t un k1 p1 rf fs fk g6 j0 hp hst hj (nI 4) ex_2 4 hkd bkd rfl (nI od) ex_4 od hod bod rfl c_5 c_10 c_25 rfl p1_42 hz_42_0 hz_42_1 r_41 hpv42 p1_45 hz_45_0 hz_45_1 r_44 hpv45) H.size) (zV hts k_803 v_X9_reckon ⟨Nat.le_of_ble_eq_true rfl, Nat.le_of_ble_eq_true rfl⟩) (pV (pxS hK hP hD [0] (by decide) rfl) hK hP 0 rfl rfl) rfl rfl hl.1 rfl (lv_room (Nat.le_of_ble_eq_true rfl)) dX9_stepOn_185 ⟨Nat.le_of_ble_eq_true rfl, Nat.le_of_ble_eq_true rfl⟩) hP hD hS hA [0] [some 0, none, none, none] rfl (by decide +kernel) (fun _ => rfl) (fun r_47 u_48 H locs wr_47 hP hD hS => ?_)
        obtain ⟨rf_48, rfl⟩ : ∃ z, z = u_48 := ⟨_, rfl⟩
        have hz_48_0 : True := wr_47.2
        have hPD := pd_mk (ws := [(t 0, .inr (9, [.ref (t 1), .ref (t 2), .ref (t 3), .ref (t 4), .ref (t 5), .int (nI un), .int (nI k1), .int (nI p1_45), .int rf_48])), (t 1, .inl (cI, 200, .inl fs)), (t 2, .inl (cI, 32, .inl fk)), (a 24, .inl (cI, 26, .inl g6))]) hP hD
        have hP := hPD.1
        have hD := hPD.2
        rcases wr_47 with ⟨hrc48, _⟩
        · refine eWvP (va_runV (As := [.int r_47]) (rest := []) ⟨hx, hb, hml, hown, hts⟩ (c_X9_push_t l D cI cB cZ cJ tx t un k1 p1_45 rf_48 fk r_47 (lf_X9_stepOn_t_49 a t un k1 p1 rf fs fk g6 j0 hp hst hj (nI 4) ex_2 4 hkd bkd rfl (nI od) ex_4 od hod bod rfl c_5 c_10 c_25 rfl p1_42 hz_42_0 hz_42_1 r_41 hpv42 p1_45 hz_45_0 hz_45_1 r_44 hpv45 rf_48 hz_48_0 r_47 hrc48) H.size) (zV hts k_795 v_X9_push ⟨Nat.le_of_ble_eq_true rfl, Nat.le_of_ble_eq_true rfl⟩) (pV (pxS hK hP hD [0, 2] (by decide) rfl) hK hP 0 rfl rfl) rfl rfl hl.1 rfl (lv_room (Nat.le_of_ble_eq_true rfl)) dX9_stepOn_188 ⟨Nat.le_of_ble_eq_true rfl, Nat.le_of_ble_eq_true rfl⟩) hP hD hS hA [0, 2] [some 0, none, some 1, none] rfl (by decide +kernel) (fun _ => rfl) (fun u_51 H locs wr_50 hP hD hS => ?_)
          obtain ⟨p1_51, fk_51⟩ := u_51
          have hz_51_0 : p1_51 ≤ 32 := wr_50.1
          have hz_51_1 : ((p1_51, fk_51) : StM) = pushM r_47 ((p1_45, fk) : StM) := wr_50.2
          have hPD := pd_mk (ws := [(t 0, .inr (9, [.ref (t 1), .ref (t 2), .ref (t 3), .ref (t 4), .ref (t 5), .int (nI un), .int (nI k1), .int (nI p1_51), .int rf_48])), (t 1, .inl (cI, 200, .inl fs)), (t 2, .inl (cI, 32, .inl fk_51)), (a 24, .inl (cI, 26, .inl g6))]) hP hD
          have hP := hPD.1
          have hD := hPD.2
          refine lv_iload_n hx hb dX9_stepOn_191 rfl (lv_at hl 4 rfl) ?_
          refine lv_iconst (v := 1) hx hb dX9_stepOn_192 (by decide) ?_
          refine lv_iadd hx hb dX9_stepOn_193 ?_
          refine lv_topv (y := nI (j0 + 1)) (nI_add j0 1) ?_
          rw [hQ]
          exact W.iret (v := nI (j0 + 1)) hx hb hr (fun tt9 ht hW => ⟨⟨(nI (j0 + 1) : Int32), ((p1_51 : Nat), (rf_48 : Int32), (fk_51 : Nat → Int32)), rfl, (lf_X9_stepOn_t_52 a t un k1 p1 rf fs fk g6 j0 hp hst hj (nI 4) ex_2 4 hkd bkd rfl (nI od) ex_4 od hod bod rfl c_5 c_10 c_25 rfl p1_42 hz_42_0 hz_42_1 r_41 hpv42 p1_45 hz_45_0 hz_45_1 r_44 hpv45 rf_48 hz_48_0 r_47 hrc48 p1_51 fk_51 hz_51_0 hz_51_1), ⟨by rw [ht]; exact hP, hD⟩⟩, hS.F ht⟩) hS.2.2 dX9_stepOn_194 hlocks
  by_cases c_53 : kd = 5
  · subst c_53
    refine lv_tableIn (off := 149) (tgt := 170) hx hb dX9_stepOn_21 (by decide) (by decide) rfl (by decide) ?_
    refine lv_aload_n hx hb dX9_stepOn_170 rfl (lv_at hl 2 rfl) ?_
    refine eWiP (va_runV (As := []) (rest := []) ⟨hx, hb, hml, hown, hts⟩ (c_X9_pop_t l D cI cB cZ cJ tx t un k1 p1 rf fk (lf_X9_stepOn_t_54 a t un k1 p1 rf fs fk g6 j0 hp hst hj (nI 5) ex_2 5 hkd bkd rfl (nI od) ex_4 od hod bod rfl c_5 c_10 c_25 c_39 rfl) H.size) (zV hts k_799 v_X9_pop ⟨Nat.le_of_ble_eq_true rfl, Nat.le_of_ble_eq_true rfl⟩) (pV (pxS hK hP hD [0, 2] (by decide) rfl) hK hP 0 rfl rfl) rfl rfl hl.1 rfl (lv_room (Nat.le_of_ble_eq_true rfl)) dX9_stepOn_171 ⟨Nat.le_of_ble_eq_true rfl, Nat.le_of_ble_eq_true rfl⟩) hP hD hS hA [0, 2] [some 0, none, some 1, none] rfl (by decide +kernel) (fun _ => rfl) (fun r_55 u_56 H locs wr_55 hP hD hS => ?_)
    obtain ⟨p1_56, rfl⟩ : ∃ z, z = u_56 := ⟨_, rfl⟩
    have hz_56_0 : p1_56 ≤ 32 := wr_55.2.1
    have hz_56_1 : ((p1_56, fk) : StM) = popS ((p1, fk) : StM) := wr_55.2.2
    have hPD := pd_mk (ws := [(t 0, .inr (9, [.ref (t 1), .ref (t 2), .ref (t 3), .ref (t 4), .ref (t 5), .int (nI un), .int (nI k1), .int (nI p1_56), .int rf])), (t 1, .inl (cI, 200, .inl fs)), (t 2, .inl (cI, 32, .inl fk)), (a 24, .inl (cI, 26, .inl g6))]) hP hD
    have hP := hPD.1
    have hD := hPD.2
    rcases wr_55 with ⟨hpv56, _⟩
    · refine lv_istore (lv' := [(5, .int r_55), (4, .int (nI od)), (3, .int 5), (0, .ref (t 0)), (1, .int (nI j0)), (2, .ref (a 24))]) hx hb dX9_stepOn_174 hl (by decide) rfl (fun ls hl => ?_)
      refine lv_aload_n hx hb dX9_stepOn_176 rfl (lv_at hl 3 rfl) ?_
      refine lv_aload_n hx hb dX9_stepOn_177 rfl (lv_at hl 3 rfl) ?_
      refine lv_iload_n hx hb dX9_stepOn_178 rfl (lv_at hl 2 rfl) ?_
      refine lv_aload_n hx hb dX9_stepOn_179 rfl (lv_at hl 3 rfl) ?_
      refine eWiP (va_runV (As := []) (rest := [.int 5, .ref (t 0), .ref (t 0)]) ⟨hx, hb, hml, hown, hts⟩ (c_X9_pop_t l D cI cB cZ cJ tx t un k1 p1_56 rf fk (lf_X9_stepOn_t_57 a t un k1 p1 rf fs fk g6 j0 hp hst hj (nI 5) ex_2 5 hkd bkd rfl (nI od) ex_4 od hod bod rfl c_5 c_10 c_25 c_39 rfl p1_56 hz_56_0 hz_56_1 r_55 hpv56) H.size) (zV hts k_799 v_X9_pop ⟨Nat.le_of_ble_eq_true rfl, Nat.le_of_ble_eq_true rfl⟩) (pV (pxS hK hP hD [0, 2] (by decide) rfl) hK hP 0 rfl rfl) rfl rfl hl.1 rfl (lv_room (Nat.le_of_ble_eq_true rfl)) dX9_stepOn_180 ⟨Nat.le_of_ble_eq_true rfl, Nat.le_of_ble_eq_true rfl⟩) hP hD hS hA [0, 2] [some 0, none, some 1, none] rfl (by decide +kernel) (fun _ => rfl) (fun r_58 u_59 H locs wr_58 hP hD hS => ?_)
      obtain ⟨p1_59, rfl⟩ : ∃ z, z = u_59 := ⟨_, rfl⟩
      have hz_59_0 : p1_59 ≤ 32 := wr_58.2.1
      have hz_59_1 : ((p1_59, fk) : StM) = popS ((p1_56, fk) : StM) := wr_58.2.2
      have hPD := pd_mk (ws := [(t 0, .inr (9, [.ref (t 1), .ref (t 2), .ref (t 3), .ref (t 4), .ref (t 5), .int (nI un), .int (nI k1), .int (nI p1_59), .int rf])), (t 1, .inl (cI, 200, .inl fs)), (t 2, .inl (cI, 32, .inl fk)), (a 24, .inl (cI, 26, .inl g6))]) hP hD
      have hP := hPD.1
      have hD := hPD.2
      rcases wr_58 with ⟨hpv59, _⟩
      · refine lv_iload hx hb dX9_stepOn_183 (lv_at hl 0 rfl) ?_
        refine eWiP (va_runV (As := [.int 5, .int r_58, .int r_55]) (rest := [.ref (t 0)]) ⟨hx, hb, hml, hown, hts⟩ (c_X9_reckon_t l D cI cB cZ cJ tx t un k1 p1_59 rf 5 r_58 r_55 (lf_X9_stepOn_t_60 a t un k1 p1 rf fs fk g6 j0 hp hst hj (nI 5) ex_2 5 hkd bkd rfl (nI od) ex_4 od hod bod rfl c_5 c_10 c_25 c_39 rfl p1_56 hz_56_0 hz_56_1 r_55 hpv56 p1_59 hz_59_0 hz_59_1 r_58 hpv59) H.size) (zV hts k_803 v_X9_reckon ⟨Nat.le_of_ble_eq_true rfl, Nat.le_of_ble_eq_true rfl⟩) (pV (pxS hK hP hD [0] (by decide) rfl) hK hP 0 rfl rfl) rfl rfl hl.1 rfl (lv_room (Nat.le_of_ble_eq_true rfl)) dX9_stepOn_185 ⟨Nat.le_of_ble_eq_true rfl, Nat.le_of_ble_eq_true rfl⟩) hP hD hS hA [0] [some 0, none, none, none] rfl (by decide +kernel) (fun _ => rfl) (fun r_61 u_62 H locs wr_61 hP hD hS => ?_)
        obtain ⟨rf_62, rfl⟩ : ∃ z, z = u_62 := ⟨_, rfl⟩
        have hz_62_0 : True := wr_61.2
        have hPD := pd_mk (ws := [(t 0, .inr (9, [.ref (t 1), .ref (t 2), .ref (t 3), .ref (t 4), .ref (t 5), .int (nI un), .int (nI k1), .int (nI p1_59), .int rf_62])), (t 1, .inl (cI, 200, .inl fs)), (t 2, .inl (cI, 32, .inl fk)), (a 24, .inl (cI, 26, .inl g6))]) hP hD
        have hP := hPD.1
        have hD := hPD.2
        rcases wr_61 with ⟨hrc62, _⟩
        · refine eWvP (va_runV (As := [.int r_61]) (rest := []) ⟨hx, hb, hml, hown, hts⟩ (c_X9_push_t l D cI cB cZ cJ tx t un k1 p1_59 rf_62 fk r_61 (lf_X9_stepOn_t_63 a t un k1 p1 rf fs fk g6 j0 hp hst hj (nI 5) ex_2 5 hkd bkd rfl (nI od) ex_4 od hod bod rfl c_5 c_10 c_25 c_39 rfl p1_56 hz_56_0 hz_56_1 r_55 hpv56 p1_59 hz_59_0 hz_59_1 r_58 hpv59 rf_62 hz_62_0 r_61 hrc62) H.size) (zV hts k_795 v_X9_push ⟨Nat.le_of_ble_eq_true rfl, Nat.le_of_ble_eq_true rfl⟩) (pV (pxS hK hP hD [0, 2] (by decide) rfl) hK hP 0 rfl rfl) rfl rfl hl.1 rfl (lv_room (Nat.le_of_ble_eq_true rfl)) dX9_stepOn_188 ⟨Nat.le_of_ble_eq_true rfl, Nat.le_of_ble_eq_true rfl⟩) hP hD hS hA [0, 2] [some 0, none, some 1, none] rfl (by decide +kernel) (fun _ => rfl) (fun u_65 H locs wr_64 hP hD hS => ?_)
          obtain ⟨p1_65, fk_65⟩ := u_65
          have hz_65_0 : p1_65 ≤ 32 := wr_64.1
          have hz_65_1 : ((p1_65, fk_65) : StM) = pushM r_61 ((p1_59, fk) : StM) := wr_64.2
          have hPD := pd_mk (ws := [(t 0, .inr (9, [.ref (t 1), .ref (t 2), .ref (t 3), .ref (t 4), .ref (t 5), .int (nI un), .int (nI k1), .int (nI p1_65), .int rf_62])), (t 1, .inl (cI, 200, .inl fs)), (t 2, .inl (cI, 32, .inl fk_65)), (a 24, .inl (cI, 26, .inl g6))]) hP hD
          have hP := hPD.1
          have hD := hPD.2
          refine lv_iload_n hx hb dX9_stepOn_191 rfl (lv_at hl 4 rfl) ?_
          refine lv_iconst (v := 1) hx hb dX9_stepOn_192 (by decide) ?_
          refine lv_iadd hx hb dX9_stepOn_193 ?_
          refine lv_topv (y := nI (j0 + 1)) (nI_add j0 1) ?_
          rw [hQ]
          exact W.iret (v := nI (j0 + 1)) hx hb hr (fun tt9 ht hW => ⟨⟨(nI (j0 + 1) : Int32), ((p1_65 : Nat), (rf_62 : Int32), (fk_65 : Nat → Int32)), rfl, (lf_X9_stepOn_t_66 a t un k1 p1 rf fs fk g6 j0 hp hst hj (nI 5) ex_2 5 hkd bkd rfl (nI od) ex_4 od hod bod rfl c_5 c_10 c_25 c_39 rfl p1_56 hz_56_0 hz_56_1 r_55 hpv56 p1_59 hz_59_0 hz_59_1 r_58 hpv59 rf_62 hz_62_0 r_61 hrc62 p1_65 fk_65 hz_65_0 hz_65_1), ⟨by rw [ht]; exact hP, hD⟩⟩, hS.F ht⟩) hS.2.2 dX9_stepOn_194 hlocks
  by_cases c_67 : kd = 6
  · subst c_67
    refine lv_tableIn (off := 149) (tgt := 170) hx hb dX9_stepOn_21 (by decide) (by decide) rfl (by decide) ?_
    refine lv_aload_n hx hb dX9_stepOn_170 rfl (lv_at hl 2 rfl) ?_
    refine eWiP (va_runV (As := []) (rest := []) ⟨hx, hb, hml, hown, hts⟩ (c_X9_pop_t l D cI cB cZ cJ tx t un k1 p1 rf fk (lf_X9_stepOn_t_68 a t un k1 p1 rf fs fk g6 j0 hp hst hj (nI 6) ex_2 6 hkd bkd rfl (nI od) ex_4 od hod bod rfl c_5 c_10 c_25 c_39 c_53 rfl) H.size) (zV hts k_799 v_X9_pop ⟨Nat.le_of_ble_eq_true rfl, Nat.le_of_ble_eq_true rfl⟩) (pV (pxS hK hP hD [0, 2] (by decide) rfl) hK hP 0 rfl rfl) rfl rfl hl.1 rfl (lv_room (Nat.le_of_ble_eq_true rfl)) dX9_stepOn_171 ⟨Nat.le_of_ble_eq_true rfl, Nat.le_of_ble_eq_true rfl⟩) hP hD hS hA [0, 2] [some 0, none, some 1, none] rfl (by decide +kernel) (fun _ => rfl) (fun r_69 u_70 H locs wr_69 hP hD hS => ?_)
    obtain ⟨p1_70, rfl⟩ : ∃ z, z = u_70 := ⟨_, rfl⟩
    have hz_70_0 : p1_70 ≤ 32 := wr_69.2.1
    have hz_70_1 : ((p1_70, fk) : StM) = popS ((p1, fk) : StM) := wr_69.2.2
    have hPD := pd_mk (ws := [(t 0, .inr (9, [.ref (t 1), .ref (t 2), .ref (t 3), .ref (t 4), .ref (t 5), .int (nI un), .int (nI k1), .int (nI p1_70), .int rf])), (t 1, .inl (cI, 200, .inl fs)), (t 2, .inl (cI, 32, .inl fk)), (a 24, .inl (cI, 26, .inl g6))]) hP hD
    have hP := hPD.1
    have hD := hPD.2
    rcases wr_69 with ⟨hpv70, _⟩
    · refine lv_istore (lv' := [(5, .int r_69), (4, .int (nI od)), (3, .int 6), (0, .ref (t 0)), (1, .int (nI j0)), (2, .ref (a 24))]) hx hb dX9_stepOn_174 hl (by decide) rfl (fun ls hl => ?_)
      refine lv_aload_n hx hb dX9_stepOn_176 rfl (lv_at hl 3 rfl) ?_
      refine lv_aload_n hx hb dX9_stepOn_177 rfl (lv_at hl 3 rfl) ?_
      refine lv_iload_n hx hb dX9_stepOn_178 rfl (lv_at hl 2 rfl) ?_
      refine lv_aload_n hx hb dX9_stepOn_179 rfl (lv_at hl 3 rfl) ?_
      refine eWiP (va_runV (As := []) (rest := [.int 6, .ref (t 0), .ref (t 0)]) ⟨hx, hb, hml, hown, hts⟩ (c_X9_pop_t l D cI cB cZ cJ tx t un k1 p1_70 rf fk (lf_X9_stepOn_t_71 a t un k1 p1 rf fs fk g6 j0 hp hst hj (nI 6) ex_2 6 hkd bkd rfl (nI od) ex_4 od hod bod rfl c_5 c_10 c_25 c_39 c_53 rfl p1_70 hz_70_0 hz_70_1 r_69 hpv70) H.size) (zV hts k_799 v_X9_pop ⟨Nat.le_of_ble_eq_true rfl, Nat.le_of_ble_eq_true rfl⟩) (pV (pxS hK hP hD [0, 2] (by decide) rfl) hK hP 0 rfl rfl) rfl rfl hl.1 rfl (lv_room (Nat.le_of_ble_eq_true rfl)) dX9_stepOn_180 ⟨Nat.le_of_ble_eq_true rfl, Nat.le_of_ble_eq_true rfl⟩) hP hD hS hA [0, 2] [some 0, none, some 1, none] rfl (by decide +kernel) (fun _ => rfl) (fun r_72 u_73 H locs wr_72 hP hD hS => ?_)
      obtain ⟨p1_73, rfl⟩ : ∃ z, z = u_73 := ⟨_, rfl⟩
      have hz_73_0 : p1_73 ≤ 32 := wr_72.2.1
      have hz_73_1 : ((p1_73, fk) : StM) = popS ((p1_70, fk) : StM) := wr_72.2.2
      have hPD := pd_mk (ws := [(t 0, .inr (9, [.ref (t 1), .ref (t 2), .ref (t 3), .ref (t 4), .ref (t 5), .int (nI un), .int (nI k1), .int (nI p1_73), .int rf])), (t 1, .inl (cI, 200, .inl fs)), (t 2, .inl (cI, 32, .inl fk)), (a 24, .inl (cI, 26, .inl g6))]) hP hD
      have hP := hPD.1
      have hD := hPD.2
      rcases wr_72 with ⟨hpv73, _⟩
      · refine lv_iload hx hb dX9_stepOn_183 (lv_at hl 0 rfl) ?_
        refine eWiP (va_runV (As := [.int 6, .int r_72, .int r_69]) (rest := [.ref (t 0)]) ⟨hx, hb, hml, hown, hts⟩ (c_X9_reckon_t l D cI cB cZ cJ tx t un k1 p1_73 rf 6 r_72 r_69 (lf_X9_stepOn_t_74 a t un k1 p1 rf fs fk g6 j0 hp hst hj (nI 6) ex_2 6 hkd bkd rfl (nI od) ex_4 od hod bod rfl c_5 c_10 c_25 c_39 c_53 rfl p1_70 hz_70_0 hz_70_1 r_69 hpv70 p1_73 hz_73_0 hz_73_1 r_72 hpv73) H.size) (zV hts k_803 v_X9_reckon ⟨Nat.le_of_ble_eq_true rfl, Nat.le_of_ble_eq_true rfl⟩) (pV (pxS hK hP hD [0] (by decide) rfl) hK hP 0 rfl rfl) rfl rfl hl.1 rfl (lv_room (Nat.le_of_ble_eq_true rfl)) dX9_stepOn_185 ⟨Nat.le_of_ble_eq_true rfl, Nat.le_of_ble_eq_true rfl⟩) hP hD hS hA [0] [some 0, none, none, none] rfl (by decide +kernel) (fun _ => rfl) (fun r_75 u_76 H locs wr_75 hP hD hS => ?_)
        obtain ⟨rf_76, rfl⟩ : ∃ z, z = u_76 := ⟨_, rfl⟩
        have hz_76_0 : True := wr_75.2
        have hPD := pd_mk (ws := [(t 0, .inr (9, [.ref (t 1), .ref (t 2), .ref (t 3), .ref (t 4), .ref (t 5), .int (nI un), .int (nI k1), .int (nI p1_73), .int rf_76])), (t 1, .inl (cI, 200, .inl fs)), (t 2, .inl (cI, 32, .inl fk)), (a 24, .inl (cI, 26, .inl g6))]) hP hD
        have hP := hPD.1
        have hD := hPD.2
        rcases wr_75 with ⟨hrc76, _⟩
        · refine eWvP (va_runV (As := [.int r_75]) (rest := []) ⟨hx, hb, hml, hown, hts⟩ (c_X9_push_t l D cI cB cZ cJ tx t un k1 p1_73 rf_76 fk r_75 (lf_X9_stepOn_t_77 a t un k1 p1 rf fs fk g6 j0 hp hst hj (nI 6) ex_2 6 hkd bkd rfl (nI od) ex_4 od hod bod rfl c_5 c_10 c_25 c_39 c_53 rfl p1_70 hz_70_0 hz_70_1 r_69 hpv70 p1_73 hz_73_0 hz_73_1 r_72 hpv73 rf_76 hz_76_0 r_75 hrc76) H.size) (zV hts k_795 v_X9_push ⟨Nat.le_of_ble_eq_true rfl, Nat.le_of_ble_eq_true rfl⟩) (pV (pxS hK hP hD [0, 2] (by decide) rfl) hK hP 0 rfl rfl) rfl rfl hl.1 rfl (lv_room (Nat.le_of_ble_eq_true rfl)) dX9_stepOn_188 ⟨Nat.le_of_ble_eq_true rfl, Nat.le_of_ble_eq_true rfl⟩) hP hD hS hA [0, 2] [some 0, none, some 1, none] rfl (by decide +kernel) (fun _ => rfl) (fun u_79 H locs wr_78 hP hD hS => ?_)
          obtain ⟨p1_79, fk_79⟩ := u_79
          have hz_79_0 : p1_79 ≤ 32 := wr_78.1
          have hz_79_1 : ((p1_79, fk_79) : StM) = pushM r_75 ((p1_73, fk) : StM) := wr_78.2
          have hPD := pd_mk (ws := [(t 0, .inr (9, [.ref (t 1), .ref (t 2), .ref (t 3), .ref (t 4), .ref (t 5), .int (nI un), .int (nI k1), .int (nI p1_79), .int rf_76])), (t 1, .inl (cI, 200, .inl fs)), (t 2, .inl (cI, 32, .inl fk_79)), (a 24, .inl (cI, 26, .inl g6))]) hP hD
          have hP := hPD.1
          have hD := hPD.2
          refine lv_iload_n hx hb dX9_stepOn_191 rfl (lv_at hl 4 rfl) ?_
          refine lv_iconst (v := 1) hx hb dX9_stepOn_192 (by decide) ?_
          refine lv_iadd hx hb dX9_stepOn_193 ?_
          refine lv_topv (y := nI (j0 + 1)) (nI_add j0 1) ?_
          rw [hQ]
          exact W.iret (v := nI (j0 + 1)) hx hb hr (fun tt9 ht hW => ⟨⟨(nI (j0 + 1) : Int32), ((p1_79 : Nat), (rf_76 : Int32), (fk_79 : Nat → Int32)), rfl, (lf_X9_stepOn_t_80 a t un k1 p1 rf fs fk g6 j0 hp hst hj (nI 6) ex_2 6 hkd bkd rfl (nI od) ex_4 od hod bod rfl c_5 c_10 c_25 c_39 c_53 rfl p1_70 hz_70_0 hz_70_1 r_69 hpv70 p1_73 hz_73_0 hz_73_1 r_72 hpv73 rf_76 hz_76_0 r_75 hrc76 p1_79 fk_79 hz_79_0 hz_79_1), ⟨by rw [ht]; exact hP, hD⟩⟩, hS.F ht⟩) hS.2.2 dX9_stepOn_194 hlocks
  by_cases c_81 : kd = 7
  · subst c_81
    refine lv_tableIn (off := 149) (tgt := 170) hx hb dX9_stepOn_21 (by decide) (by decide) rfl (by decide) ?_
    refine lv_aload_n hx hb dX9_stepOn_170 rfl (lv_at hl 2 rfl) ?_
    refine eWiP (va_runV (As := []) (rest := []) ⟨hx, hb, hml, hown, hts⟩ (c_X9_pop_t l D cI cB cZ cJ tx t un k1 p1 rf fk (lf_X9_stepOn_t_82 a t un k1 p1 rf fs fk g6 j0 hp hst hj (nI 7) ex_2 7 hkd bkd rfl (nI od) ex_4 od hod bod rfl c_5 c_10 c_25 c_39 c_53 c_67 rfl) H.size) (zV hts k_799 v_X9_pop ⟨Nat.le_of_ble_eq_true rfl, Nat.le_of_ble_eq_true rfl⟩) (pV (pxS hK hP hD [0, 2] (by decide) rfl) hK hP 0 rfl rfl) rfl rfl hl.1 rfl (lv_room (Nat.le_of_ble_eq_true rfl)) dX9_stepOn_171 ⟨Nat.le_of_ble_eq_true rfl, Nat.le_of_ble_eq_true rfl⟩) hP hD hS hA [0, 2] [some 0, none, some 1, none] rfl (by decide +kernel) (fun _ => rfl) (fun r_83 u_84 H locs wr_83 hP hD hS => ?_)
    obtain ⟨p1_84, rfl⟩ : ∃ z, z = u_84 := ⟨_, rfl⟩
    have hz_84_0 : p1_84 ≤ 32 := wr_83.2.1
    have hz_84_1 : ((p1_84, fk) : StM) = popS ((p1, fk) : StM) := wr_83.2.2
    have hPD := pd_mk (ws := [(t 0, .inr (9, [.ref (t 1), .ref (t 2), .ref (t 3), .ref (t 4), .ref (t 5), .int (nI un), .int (nI k1), .int (nI p1_84), .int rf])), (t 1, .inl (cI, 200, .inl fs)), (t 2, .inl (cI, 32, .inl fk)), (a 24, .inl (cI, 26, .inl g6))]) hP hD
    have hP := hPD.1
    have hD := hPD.2
    rcases wr_83 with ⟨hpv84, _⟩
    · refine lv_istore (lv' := [(5, .int r_83), (4, .int (nI od)), (3, .int 7), (0, .ref (t 0)), (1, .int (nI j0)), (2, .ref (a 24))]) hx hb dX9_stepOn_174 hl (by decide) rfl (fun ls hl => ?_)
      refine lv_aload_n hx hb dX9_stepOn_176 rfl (lv_at hl 3 rfl) ?_
      refine lv_aload_n hx hb dX9_stepOn_177 rfl (lv_at hl 3 rfl) ?_
      refine lv_iload_n hx hb dX9_stepOn_178 rfl (lv_at hl 2 rfl) ?_
      refine lv_aload_n hx hb dX9_stepOn_179 rfl (lv_at hl 3 rfl) ?_
      refine eWiP (va_runV (As := []) (rest := [.int 7, .ref (t 0), .ref (t 0)]) ⟨hx, hb, hml, hown, hts⟩ (c_X9_pop_t l D cI cB cZ cJ tx t un k1 p1_84 rf fk (lf_X9_stepOn_t_85 a t un k1 p1 rf fs fk g6 j0 hp hst hj (nI 7) ex_2 7 hkd bkd rfl (nI od) ex_4 od hod bod rfl c_5 c_10 c_25 c_39 c_53 c_67 rfl p1_84 hz_84_0 hz_84_1 r_83 hpv84) H.size) (zV hts k_799 v_X9_pop ⟨Nat.le_of_ble_eq_true rfl, Nat.le_of_ble_eq_true rfl⟩) (pV (pxS hK hP hD [0, 2] (by decide) rfl) hK hP 0 rfl rfl) rfl rfl hl.1 rfl (lv_room (Nat.le_of_ble_eq_true rfl)) dX9_stepOn_180 ⟨Nat.le_of_ble_eq_true rfl, Nat.le_of_ble_eq_true rfl⟩) hP hD hS hA [0, 2] [some 0, none, some 1, none] rfl (by decide +kernel) (fun _ => rfl) (fun r_86 u_87 H locs wr_86 hP hD hS => ?_)
      obtain ⟨p1_87, rfl⟩ : ∃ z, z = u_87 := ⟨_, rfl⟩
      have hz_87_0 : p1_87 ≤ 32 := wr_86.2.1
      have hz_87_1 : ((p1_87, fk) : StM) = popS ((p1_84, fk) : StM) := wr_86.2.2
      have hPD := pd_mk (ws := [(t 0, .inr (9, [.ref (t 1), .ref (t 2), .ref (t 3), .ref (t 4), .ref (t 5), .int (nI un), .int (nI k1), .int (nI p1_87), .int rf])), (t 1, .inl (cI, 200, .inl fs)), (t 2, .inl (cI, 32, .inl fk)), (a 24, .inl (cI, 26, .inl g6))]) hP hD
      have hP := hPD.1
      have hD := hPD.2
      rcases wr_86 with ⟨hpv87, _⟩
      · refine lv_iload hx hb dX9_stepOn_183 (lv_at hl 0 rfl) ?_
        refine eWiP (va_runV (As := [.int 7, .int r_86, .int r_83]) (rest := [.ref (t 0)]) ⟨hx, hb, hml, hown, hts⟩ (c_X9_reckon_t l D cI cB cZ cJ tx t un k1 p1_87 rf 7 r_86 r_83 (lf_X9_stepOn_t_88 a t un k1 p1 rf fs fk g6 j0 hp hst hj (nI 7) ex_2 7 hkd bkd rfl (nI od) ex_4 od hod bod rfl c_5 c_10 c_25 c_39 c_53 c_67 rfl p1_84 hz_84_0 hz_84_1 r_83 hpv84 p1_87 hz_87_0 hz_87_1 r_86 hpv87) H.size) (zV hts k_803 v_X9_reckon ⟨Nat.le_of_ble_eq_true rfl, Nat.le_of_ble_eq_true rfl⟩) (pV (pxS hK hP hD [0] (by decide) rfl) hK hP 0 rfl rfl) rfl rfl hl.1 rfl (lv_room (Nat.le_of_ble_eq_true rfl)) dX9_stepOn_185 ⟨Nat.le_of_ble_eq_true rfl, Nat.le_of_ble_eq_true rfl⟩) hP hD hS hA [0] [some 0, none, none, none] rfl (by decide +kernel) (fun _ => rfl) (fun r_89 u_90 H locs wr_89 hP hD hS => ?_)
        obtain ⟨rf_90, rfl⟩ : ∃ z, z = u_90 := ⟨_, rfl⟩
        have hz_90_0 : True := wr_89.2
        have hPD := pd_mk (ws := [(t 0, .inr (9, [.ref (t 1), .ref (t 2), .ref (t 3), .ref (t 4), .ref (t 5), .int (nI un), .int (nI k1), .int (nI p1_87), .int rf_90])), (t 1, .inl (cI, 200, .inl fs)), (t 2, .inl (cI, 32, .inl fk)), (a 24, .inl (cI, 26, .inl g6))]) hP hD
        have hP := hPD.1
        have hD := hPD.2
        rcases wr_89 with ⟨hrc90, _⟩
        · refine eWvP (va_runV (As := [.int r_89]) (rest := []) ⟨hx, hb, hml, hown, hts⟩ (c_X9_push_t l D cI cB cZ cJ tx t un k1 p1_87 rf_90 fk r_89 (lf_X9_stepOn_t_91 a t un k1 p1 rf fs fk g6 j0 hp hst hj (nI 7) ex_2 7 hkd bkd rfl (nI od) ex_4 od hod bod rfl c_5 c_10 c_25 c_39 c_53 c_67 rfl p1_84 hz_84_0 hz_84_1 r_83 hpv84 p1_87 hz_87_0 hz_87_1 r_86 hpv87 rf_90 hz_90_0 r_89 hrc90) H.size) (zV hts k_795 v_X9_push ⟨Nat.le_of_ble_eq_true rfl, Nat.le_of_ble_eq_true rfl⟩) (pV (pxS hK hP hD [0, 2] (by decide) rfl) hK hP 0 rfl rfl) rfl rfl hl.1 rfl (lv_room (Nat.le_of_ble_eq_true rfl)) dX9_stepOn_188 ⟨Nat.le_of_ble_eq_true rfl, Nat.le_of_ble_eq_true rfl⟩) hP hD hS hA [0, 2] [some 0, none, some 1, none] rfl (by decide +kernel) (fun _ => rfl) (fun u_93 H locs wr_92 hP hD hS => ?_)
          obtain ⟨p1_93, fk_93⟩ := u_93
          have hz_93_0 : p1_93 ≤ 32 := wr_92.1
          have hz_93_1 : ((p1_93, fk_93) : StM) = pushM r_89 ((p1_87, fk) : StM) := wr_92.2
          have hPD := pd_mk (ws := [(t 0, .inr (9, [.ref (t 1), .ref (t 2), .ref (t 3), .ref (t 4), .ref (t 5), .int (nI un), .int (nI k1), .int (nI p1_93), .int rf_90])), (t 1, .inl (cI, 200, .inl fs)), (t 2, .inl (cI, 32, .inl fk_93)), (a 24, .inl (cI, 26, .inl g6))]) hP hD
          have hP := hPD.1
          have hD := hPD.2
          refine lv_iload_n hx hb dX9_stepOn_191 rfl (lv_at hl 4 rfl) ?_
          refine lv_iconst (v := 1) hx hb dX9_stepOn_192 (by decide) ?_
          refine lv_iadd hx hb dX9_stepOn_193 ?_
          refine lv_topv (y := nI (j0 + 1)) (nI_add j0 1) ?_
          rw [hQ]
          exact W.iret (v := nI (j0 + 1)) hx hb hr (fun tt9 ht hW => ⟨⟨(nI (j0 + 1) : Int32), ((p1_93 : Nat), (rf_90 : Int32), (fk_93 : Nat → Int32)), rfl, (lf_X9_stepOn_t_94 a t un k1 p1 rf fs fk g6 j0 hp hst hj (nI 7) ex_2 7 hkd bkd rfl (nI od) ex_4 od hod bod rfl c_5 c_10 c_25 c_39 c_53 c_67 rfl p1_84 hz_84_0 hz_84_1 r_83 hpv84 p1_87 hz_87_0 hz_87_1 r_86 hpv87 rf_90 hz_90_0 r_89 hrc90 p1_93 fk_93 hz_93_0 hz_93_1), ⟨by rw [ht]; exact hP, hD⟩⟩, hS.F ht⟩) hS.2.2 dX9_stepOn_194 hlocks
  by_cases c_95 : kd = 8
  · subst c_95
    refine lv_tableIn (off := 149) (tgt := 170) hx hb dX9_stepOn_21 (by decide) (by decide) rfl (by decide) ?_
    refine lv_aload_n hx hb dX9_stepOn_170 rfl (lv_at hl 2 rfl) ?_
    refine eWiP (va_runV (As := []) (rest := []) ⟨hx, hb, hml, hown, hts⟩ (c_X9_pop_t l D cI cB cZ cJ tx t un k1 p1 rf fk (lf_X9_stepOn_t_96 a t un k1 p1 rf fs fk g6 j0 hp hst hj (nI 8) ex_2 8 hkd bkd rfl (nI od) ex_4 od hod bod rfl c_5 c_10 c_25 c_39 c_53 c_67 c_81 rfl) H.size) (zV hts k_799 v_X9_pop ⟨Nat.le_of_ble_eq_true rfl, Nat.le_of_ble_eq_true rfl⟩) (pV (pxS hK hP hD [0, 2] (by decide) rfl) hK hP 0 rfl rfl) rfl rfl hl.1 rfl (lv_room (Nat.le_of_ble_eq_true rfl)) dX9_stepOn_171 ⟨Nat.le_of_ble_eq_true rfl, Nat.le_of_ble_eq_true rfl⟩) hP hD hS hA [0, 2] [some 0, none, some 1, none] rfl (by decide +kernel) (fun _ => rfl) (fun r_97 u_98 H locs wr_97 hP hD hS => ?_)
    obtain ⟨p1_98, rfl⟩ : ∃ z, z = u_98 := ⟨_, rfl⟩
    have hz_98_0 : p1_98 ≤ 32 := wr_97.2.1
    have hz_98_1 : ((p1_98, fk) : StM) = popS ((p1, fk) : StM) := wr_97.2.2
    have hPD := pd_mk (ws := [(t 0, .inr (9, [.ref (t 1), .ref (t 2), .ref (t 3), .ref (t 4), .ref (t 5), .int (nI un), .int (nI k1), .int (nI p1_98), .int rf])), (t 1, .inl (cI, 200, .inl fs)), (t 2, .inl (cI, 32, .inl fk)), (a 24, .inl (cI, 26, .inl g6))]) hP hD
    have hP := hPD.1
    have hD := hPD.2
    rcases wr_97 with ⟨hpv98, _⟩
    · refine lv_istore (lv' := [(5, .int r_97), (4, .int (nI od)), (3, .int 8), (0, .ref (t 0)), (1, .int (nI j0)), (2, .ref (a 24))]) hx hb dX9_stepOn_174 hl (by decide) rfl (fun ls hl => ?_)
      refine lv_aload_n hx hb dX9_stepOn_176 rfl (lv_at hl 3 rfl) ?_
      refine lv_aload_n hx hb dX9_stepOn_177 rfl (lv_at hl 3 rfl) ?_
      refine lv_iload_n hx hb dX9_stepOn_178 rfl (lv_at hl 2 rfl) ?_
      refine lv_aload_n hx hb dX9_stepOn_179 rfl (lv_at hl 3 rfl) ?_
      refine eWiP (va_runV (As := []) (rest := [.int 8, .ref (t 0), .ref (t 0)]) ⟨hx, hb, hml, hown, hts⟩ (c_X9_pop_t l D cI cB cZ cJ tx t un k1 p1_98 rf fk (lf_X9_stepOn_t_99 a t un k1 p1 rf fs fk g6 j0 hp hst hj (nI 8) ex_2 8 hkd bkd rfl (nI od) ex_4 od hod bod rfl c_5 c_10 c_25 c_39 c_53 c_67 c_81 rfl p1_98 hz_98_0 hz_98_1 r_97 hpv98) H.size) (zV hts k_799 v_X9_pop ⟨Nat.le_of_ble_eq_true rfl, Nat.le_of_ble_eq_true rfl⟩) (pV (pxS hK hP hD [0, 2] (by decide) rfl) hK hP 0 rfl rfl) rfl rfl hl.1 rfl (lv_room (Nat.le_of_ble_eq_true rfl)) dX9_stepOn_180 ⟨Nat.le_of_ble_eq_true rfl, Nat.le_of_ble_eq_true rfl⟩) hP hD hS hA [0, 2] [some 0, none, some 1, none] rfl (by decide +kernel) (fun _ => rfl) (fun r_100 u_101 H locs wr_100 hP hD hS => ?_)
      obtain ⟨p1_101, rfl⟩ : ∃ z, z = u_101 := ⟨_, rfl⟩
      have hz_101_0 : p1_101 ≤ 32 := wr_100.2.1
      have hz_101_1 : ((p1_101, fk) : StM) = popS ((p1_98, fk) : StM) := wr_100.2.2
      have hPD := pd_mk (ws := [(t 0, .inr (9, [.ref (t 1), .ref (t 2), .ref (t 3), .ref (t 4), .ref (t 5), .int (nI un), .int (nI k1), .int (nI p1_101), .int rf])), (t 1, .inl (cI, 200, .inl fs)), (t 2, .inl (cI, 32, .inl fk)), (a 24, .inl (cI, 26, .inl g6))]) hP hD
      have hP := hPD.1
      have hD := hPD.2
      rcases wr_100 with ⟨hpv101, _⟩
      · refine lv_iload hx hb dX9_stepOn_183 (lv_at hl 0 rfl) ?_
        refine eWiP (va_runV (As := [.int 8, .int r_100, .int r_97]) (rest := [.ref (t 0)]) ⟨hx, hb, hml, hown, hts⟩ (c_X9_reckon_t l D cI cB cZ cJ tx t un k1 p1_101 rf 8 r_100 r_97 (lf_X9_stepOn_t_102 a t un k1 p1 rf fs fk g6 j0 hp hst hj (nI 8) ex_2 8 hkd bkd rfl (nI od) ex_4 od hod bod rfl c_5 c_10 c_25 c_39 c_53 c_67 c_81 rfl p1_98 hz_98_0 hz_98_1 r_97 hpv98 p1_101 hz_101_0 hz_101_1 r_100 hpv101) H.size) (zV hts k_803 v_X9_reckon ⟨Nat.le_of_ble_eq_true rfl, Nat.le_of_ble_eq_true rfl⟩) (pV (pxS hK hP hD [0] (by decide) rfl) hK hP 0 rfl rfl) rfl rfl hl.1 rfl (lv_room (Nat.le_of_ble_eq_true rfl)) dX9_stepOn_185 ⟨Nat.le_of_ble_eq_true rfl, Nat.le_of_ble_eq_true rfl⟩) hP hD hS hA [0] [some 0, none, none, none] rfl (by decide +kernel) (fun _ => rfl) (fun r_103 u_104 H locs wr_103 hP hD hS => ?_)
        obtain ⟨rf_104, rfl⟩ : ∃ z, z = u_104 := ⟨_, rfl⟩
        have hz_104_0 : True := wr_103.2
        have hPD := pd_mk (ws := [(t 0, .inr (9, [.ref (t 1), .ref (t 2), .ref (t 3), .ref (t 4), .ref (t 5), .int (nI un), .int (nI k1), .int (nI p1_101), .int rf_104])), (t 1, .inl (cI, 200, .inl fs)), (t 2, .inl (cI, 32, .inl fk)), (a 24, .inl (cI, 26, .inl g6))]) hP hD
        have hP := hPD.1
        have hD := hPD.2
        rcases wr_103 with ⟨hrc104, _⟩
        · refine eWvP (va_runV (As := [.int r_103]) (rest := []) ⟨hx, hb, hml, hown, hts⟩ (c_X9_push_t l D cI cB cZ cJ tx t un k1 p1_101 rf_104 fk r_103 (lf_X9_stepOn_t_105 a t un k1 p1 rf fs fk g6 j0 hp hst hj (nI 8) ex_2 8 hkd bkd rfl (nI od) ex_4 od hod bod rfl c_5 c_10 c_25 c_39 c_53 c_67 c_81 rfl p1_98 hz_98_0 hz_98_1 r_97 hpv98 p1_101 hz_101_0 hz_101_1 r_100 hpv101 rf_104 hz_104_0 r_103 hrc104) H.size) (zV hts k_795 v_X9_push ⟨Nat.le_of_ble_eq_true rfl, Nat.le_of_ble_eq_true rfl⟩) (pV (pxS hK hP hD [0, 2] (by decide) rfl) hK hP 0 rfl rfl) rfl rfl hl.1 rfl (lv_room (Nat.le_of_ble_eq_true rfl)) dX9_stepOn_188 ⟨Nat.le_of_ble_eq_true rfl, Nat.le_of_ble_eq_true rfl⟩) hP hD hS hA [0, 2] [some 0, none, some 1, none] rfl (by decide +kernel) (fun _ => rfl) (fun u_107 H locs wr_106 hP hD hS => ?_)
          obtain ⟨p1_107, fk_107⟩ := u_107
          have hz_107_0 : p1_107 ≤ 32 := wr_106.1
          have hz_107_1 : ((p1_107, fk_107) : StM) = pushM r_103 ((p1_101, fk) : StM) := wr_106.2
          have hPD := pd_mk (ws := [(t 0, .inr (9, [.ref (t 1), .ref (t 2), .ref (t 3), .ref (t 4), .ref (t 5), .int (nI un), .int (nI k1), .int (nI p1_107), .int rf_104])), (t 1, .inl (cI, 200, .inl fs)), (t 2, .inl (cI, 32, .inl fk_107)), (a 24, .inl (cI, 26, .inl g6))]) hP hD
          have hP := hPD.1
          have hD := hPD.2
          refine lv_iload_n hx hb dX9_stepOn_191 rfl (lv_at hl 4 rfl) ?_
          refine lv_iconst (v := 1) hx hb dX9_stepOn_192 (by decide) ?_
          refine lv_iadd hx hb dX9_stepOn_193 ?_
          refine lv_topv (y := nI (j0 + 1)) (nI_add j0 1) ?_
          rw [hQ]
          exact W.iret (v := nI (j0 + 1)) hx hb hr (fun tt9 ht hW => ⟨⟨(nI (j0 + 1) : Int32), ((p1_107 : Nat), (rf_104 : Int32), (fk_107 : Nat → Int32)), rfl, (lf_X9_stepOn_t_108 a t un k1 p1 rf fs fk g6 j0 hp hst hj (nI 8) ex_2 8 hkd bkd rfl (nI od) ex_4 od hod bod rfl c_5 c_10 c_25 c_39 c_53 c_67 c_81 rfl p1_98 hz_98_0 hz_98_1 r_97 hpv98 p1_101 hz_101_0 hz_101_1 r_100 hpv101 rf_104 hz_104_0 r_103 hrc104 p1_107 fk_107 hz_107_0 hz_107_1), ⟨by rw [ht]; exact hP, hD⟩⟩, hS.F ht⟩) hS.2.2 dX9_stepOn_194 hlocks
  by_cases c_109 : kd = 9
  · subst c_109
    refine lv_tableIn (off := 149) (tgt := 170) hx hb dX9_stepOn_21 (by decide) (by decide) rfl (by decide) ?_
    refine lv_aload_n hx hb dX9_stepOn_170 rfl (lv_at hl 2 rfl) ?_
    refine eWiP (va_runV (As := []) (rest := []) ⟨hx, hb, hml, hown, hts⟩ (c_X9_pop_t l D cI cB cZ cJ tx t un k1 p1 rf fk (lf_X9_stepOn_t_110 a t un k1 p1 rf fs fk g6 j0 hp hst hj (nI 9) ex_2 9 hkd bkd rfl (nI od) ex_4 od hod bod rfl c_5 c_10 c_25 c_39 c_53 c_67 c_81 c_95 rfl) H.size) (zV hts k_799 v_X9_pop ⟨Nat.le_of_ble_eq_true rfl, Nat.le_of_ble_eq_true rfl⟩) (pV (pxS hK hP hD [0, 2] (by decide) rfl) hK hP 0 rfl rfl) rfl rfl hl.1 rfl (lv_room (Nat.le_of_ble_eq_true rfl)) dX9_stepOn_171 ⟨Nat.le_of_ble_eq_true rfl, Nat.le_of_ble_eq_true rfl⟩) hP hD hS hA [0, 2] [some 0, none, some 1, none] rfl (by decide +kernel) (fun _ => rfl) (fun r_111 u_112 H locs wr_111 hP hD hS => ?_)
    obtain ⟨p1_112, rfl⟩ : ∃ z, z = u_112 := ⟨_, rfl⟩
    have hz_112_0 : p1_112 ≤ 32 := wr_111.2.1
    have hz_112_1 : ((p1_112, fk) : StM) = popS ((p1, fk) : StM) := wr_111.2.2
    have hPD := pd_mk (ws := [(t 0, .inr (9, [.ref (t 1), .ref (t 2), .ref (t 3), .ref (t 4), .ref (t 5), .int (nI un), .int (nI k1), .int (nI p1_112), .int rf])), (t 1, .inl (cI, 200, .inl fs)), (t 2, .inl (cI, 32, .inl fk)), (a 24, .inl (cI, 26, .inl g6))]) hP hD
    have hP := hPD.1
    have hD := hPD.2
    rcases wr_111 with ⟨hpv112, _⟩
    · refine lv_istore (lv' := [(5, .int r_111), (4, .int (nI od)), (3, .int 9), (0, .ref (t 0)), (1, .int (nI j0)), (2, .ref (a 24))]) hx hb dX9_stepOn_174 hl (by decide) rfl (fun ls hl => ?_)
      refine lv_aload_n hx hb dX9_stepOn_176 rfl (lv_at hl 3 rfl) ?_
      refine lv_aload_n hx hb dX9_stepOn_177 rfl (lv_at hl 3 rfl) ?_
      refine lv_iload_n hx hb dX9_stepOn_178 rfl (lv_at hl 2 rfl) ?_
      refine lv_aload_n hx hb dX9_stepOn_179 rfl (lv_at hl 3 rfl) ?_
      refine eWiP (va_runV (As := []) (rest := [.int 9, .ref (t 0), .ref (t 0)]) ⟨hx, hb, hml, hown, hts⟩ (c_X9_pop_t l D cI cB cZ cJ tx t un k1 p1_112 rf fk (lf_X9_stepOn_t_113 a t un k1 p1 rf fs fk g6 j0 hp hst hj (nI 9) ex_2 9 hkd bkd rfl (nI od) ex_4 od hod bod rfl c_5 c_10 c_25 c_39 c_53 c_67 c_81 c_95 rfl p1_112 hz_112_0 hz_112_1 r_111 hpv112) H.size) (zV hts k_799 v_X9_pop ⟨Nat.le_of_ble_eq_true rfl, Nat.le_of_ble_eq_true rfl⟩) (pV (pxS hK hP hD [0, 2] (by decide) rfl) hK hP 0 rfl rfl) rfl rfl hl.1 rfl (lv_room (Nat.le_of_ble_eq_true rfl)) dX9_stepOn_180 ⟨Nat.le_of_ble_eq_true rfl, Nat.le_of_ble_eq_true rfl⟩) hP hD hS hA [0, 2] [some 0, none, some 1, none] rfl (by decide +kernel) (fun _ => rfl) (fun r_114 u_115 H locs wr_114 hP hD hS => ?_)
      obtain ⟨p1_115, rfl⟩ : ∃ z, z = u_115 := ⟨_, rfl⟩
      have hz_115_0 : p1_115 ≤ 32 := wr_114.2.1
      have hz_115_1 : ((p1_115, fk) : StM) = popS ((p1_112, fk) : StM) := wr_114.2.2
      have hPD := pd_mk (ws := [(t 0, .inr (9, [.ref (t 1), .ref (t 2), .ref (t 3), .ref (t 4), .ref (t 5), .int (nI un), .int (nI k1), .int (nI p1_115), .int rf])), (t 1, .inl (cI, 200, .inl fs)), (t 2, .inl (cI, 32, .inl fk)), (a 24, .inl (cI, 26, .inl g6))]) hP hD
      have hP := hPD.1
      have hD := hPD.2
      rcases wr_114 with ⟨hpv115, _⟩
      · refine lv_iload hx hb dX9_stepOn_183 (lv_at hl 0 rfl) ?_
        refine eWiP (va_runV (As := [.int 9, .int r_114, .int r_111]) (rest := [.ref (t 0)]) ⟨hx, hb, hml, hown, hts⟩ (c_X9_reckon_t l D cI cB cZ cJ tx t un k1 p1_115 rf 9 r_114 r_111 (lf_X9_stepOn_t_116 a t un k1 p1 rf fs fk g6 j0 hp hst hj (nI 9) ex_2 9 hkd bkd rfl (nI od) ex_4 od hod bod rfl c_5 c_10 c_25 c_39 c_53 c_67 c_81 c_95 rfl p1_112 hz_112_0 hz_112_1 r_111 hpv112 p1_115 hz_115_0 hz_115_1 r_114 hpv115) H.size) (zV hts k_803 v_X9_reckon ⟨Nat.le_of_ble_eq_true rfl, Nat.le_of_ble_eq_true rfl⟩) (pV (pxS hK hP hD [0] (by decide) rfl) hK hP 0 rfl rfl) rfl rfl hl.1 rfl (lv_room (Nat.le_of_ble_eq_true rfl)) dX9_stepOn_185 ⟨Nat.le_of_ble_eq_true rfl, Nat.le_of_ble_eq_true rfl⟩) hP hD hS hA [0] [some 0, none, none, none] rfl (by decide +kernel) (fun _ => rfl) (fun r_117 u_118 H locs wr_117 hP hD hS => ?_)
        obtain ⟨rf_118, rfl⟩ : ∃ z, z = u_118 := ⟨_, rfl⟩
        have hz_118_0 : True := wr_117.2
        have hPD := pd_mk (ws := [(t 0, .inr (9, [.ref (t 1), .ref (t 2), .ref (t 3), .ref (t 4), .ref (t 5), .int (nI un), .int (nI k1), .int (nI p1_115), .int rf_118])), (t 1, .inl (cI, 200, .inl fs)), (t 2, .inl (cI, 32, .inl fk)), (a 24, .inl (cI, 26, .inl g6))]) hP hD
        have hP := hPD.1
        have hD := hPD.2
        rcases wr_117 with ⟨hrc118, _⟩
        · refine eWvP (va_runV (As := [.int r_117]) (rest := []) ⟨hx, hb, hml, hown, hts⟩ (c_X9_push_t l D cI cB cZ cJ tx t un k1 p1_115 rf_118 fk r_117 (lf_X9_stepOn_t_119 a t un k1 p1 rf fs fk g6 j0 hp hst hj (nI 9) ex_2 9 hkd bkd rfl (nI od) ex_4 od hod bod rfl c_5 c_10 c_25 c_39 c_53 c_67 c_81 c_95 rfl p1_112 hz_112_0 hz_112_1 r_111 hpv112 p1_115 hz_115_0 hz_115_1 r_114 hpv115 rf_118 hz_118_0 r_117 hrc118) H.size) (zV hts k_795 v_X9_push ⟨Nat.le_of_ble_eq_true rfl, Nat.le_of_ble_eq_true rfl⟩) (pV (pxS hK hP hD [0, 2] (by decide) rfl) hK hP 0 rfl rfl) rfl rfl hl.1 rfl (lv_room (Nat.le_of_ble_eq_true rfl)) dX9_stepOn_188 ⟨Nat.le_of_ble_eq_true rfl, Nat.le_of_ble_eq_true rfl⟩) hP hD hS hA [0, 2] [some 0, none, some 1, none] rfl (by decide +kernel) (fun _ => rfl) (fun u_121 H locs wr_120 hP hD hS => ?_)
          obtain ⟨p1_121, fk_121⟩ := u_121
          have hz_121_0 : p1_121 ≤ 32 := wr_120.1
          have hz_121_1 : ((p1_121, fk_121) : StM) = pushM r_117 ((p1_115, fk) : StM) := wr_120.2
          have hPD := pd_mk (ws := [(t 0, .inr (9, [.ref (t 1), .ref (t 2), .ref (t 3), .ref (t 4), .ref (t 5), .int (nI un), .int (nI k1), .int (nI p1_121), .int rf_118])), (t 1, .inl (cI, 200, .inl fs)), (t 2, .inl (cI, 32, .inl fk_121)), (a 24, .inl (cI, 26, .inl g6))]) hP hD
          have hP := hPD.1
          have hD := hPD.2
          refine lv_iload_n hx hb dX9_stepOn_191 rfl (lv_at hl 4 rfl) ?_
          refine lv_iconst (v := 1) hx hb dX9_stepOn_192 (by decide) ?_
          refine lv_iadd hx hb dX9_stepOn_193 ?_
          refine lv_topv (y := nI (j0 + 1)) (nI_add j0 1) ?_
          rw [hQ]
          exact W.iret (v := nI (j0 + 1)) hx hb hr (fun tt9 ht hW => ⟨⟨(nI (j0 + 1) : Int32), ((p1_121 : Nat), (rf_118 : Int32), (fk_121 : Nat → Int32)), rfl, (lf_X9_stepOn_t_122 a t un k1 p1 rf fs fk g6 j0 hp hst hj (nI 9) ex_2 9 hkd bkd rfl (nI od) ex_4 od hod bod rfl c_5 c_10 c_25 c_39 c_53 c_67 c_81 c_95 rfl p1_112 hz_112_0 hz_112_1 r_111 hpv112 p1_115 hz_115_0 hz_115_1 r_114 hpv115 rf_118 hz_118_0 r_117 hrc118 p1_121 fk_121 hz_121_0 hz_121_1), ⟨by rw [ht]; exact hP, hD⟩⟩, hS.F ht⟩) hS.2.2 dX9_stepOn_194 hlocks
  by_cases c_123 : kd = 10
  · subst c_123
    refine lv_tableIn (off := 149) (tgt := 170) hx hb dX9_stepOn_21 (by decide) (by decide) rfl (by decide) ?_
    refine lv_aload_n hx hb dX9_stepOn_170 rfl (lv_at hl 2 rfl) ?_
    refine eWiP (va_runV (As := []) (rest := []) ⟨hx, hb, hml, hown, hts⟩ (c_X9_pop_t l D cI cB cZ cJ tx t un k1 p1 rf fk (lf_X9_stepOn_t_124 a t un k1 p1 rf fs fk g6 j0 hp hst hj (nI 10) ex_2 10 hkd bkd rfl (nI od) ex_4 od hod bod rfl c_5 c_10 c_25 c_39 c_53 c_67 c_81 c_95 c_109 rfl) H.size) (zV hts k_799 v_X9_pop ⟨Nat.le_of_ble_eq_true rfl, Nat.le_of_ble_eq_true rfl⟩) (pV (pxS hK hP hD [0, 2] (by decide) rfl) hK hP 0 rfl rfl) rfl rfl hl.1 rfl (lv_room (Nat.le_of_ble_eq_true rfl)) dX9_stepOn_171 ⟨Nat.le_of_ble_eq_true rfl, Nat.le_of_ble_eq_true rfl⟩) hP hD hS hA [0, 2] [some 0, none, some 1, none] rfl (by decide +kernel) (fun _ => rfl) (fun r_125 u_126 H locs wr_125 hP hD hS => ?_)
    obtain ⟨p1_126, rfl⟩ : ∃ z, z = u_126 := ⟨_, rfl⟩
    have hz_126_0 : p1_126 ≤ 32 := wr_125.2.1
    have hz_126_1 : ((p1_126, fk) : StM) = popS ((p1, fk) : StM) := wr_125.2.2
    have hPD := pd_mk (ws := [(t 0, .inr (9, [.ref (t 1), .ref (t 2), .ref (t 3), .ref (t 4), .ref (t 5), .int (nI un), .int (nI k1), .int (nI p1_126), .int rf])), (t 1, .inl (cI, 200, .inl fs)), (t 2, .inl (cI, 32, .inl fk)), (a 24, .inl (cI, 26, .inl g6))]) hP hD
    have hP := hPD.1
    have hD := hPD.2
    rcases wr_125 with ⟨hpv126, _⟩
    · refine lv_istore (lv' := [(5, .int r_125), (4, .int (nI od)), (3, .int 10), (0, .ref (t 0)), (1, .int (nI j0)), (2, .ref (a 24))]) hx hb dX9_stepOn_174 hl (by decide) rfl (fun ls hl => ?_)
      refine lv_aload_n hx hb dX9_stepOn_176 rfl (lv_at hl 3 rfl) ?_
      refine lv_aload_n hx hb dX9_stepOn_177 rfl (lv_at hl 3 rfl) ?_
      refine lv_iload_n hx hb dX9_stepOn_178 rfl (lv_at hl 2 rfl) ?_
      refine lv_aload_n hx hb dX9_stepOn_179 rfl (lv_at hl 3 rfl) ?_
      refine eWiP (va_runV (As := []) (rest := [.int 10, .ref (t 0), .ref (t 0)]) ⟨hx, hb, hml, hown, hts⟩ (c_X9_pop_t l D cI cB cZ cJ tx t un k1 p1_126 rf fk (lf_X9_stepOn_t_127 a t un k1 p1 rf fs fk g6 j0 hp hst hj (nI 10) ex_2 10 hkd bkd rfl (nI od) ex_4 od hod bod rfl c_5 c_10 c_25 c_39 c_53 c_67 c_81 c_95 c_109 rfl p1_126 hz_126_0 hz_126_1 r_125 hpv126) H.size) (zV hts k_799 v_X9_pop ⟨Nat.le_of_ble_eq_true rfl, Nat.le_of_ble_eq_true rfl⟩) (pV (pxS hK hP hD [0, 2] (by decide) rfl) hK hP 0 rfl rfl) rfl rfl hl.1 rfl (lv_room (Nat.le_of_ble_eq_true rfl)) dX9_stepOn_180 ⟨Nat.le_of_ble_eq_true rfl, Nat.le_of_ble_eq_true rfl⟩) hP hD hS hA [0, 2] [some 0, none, some 1, none] rfl (by decide +kernel) (fun _ => rfl) (fun r_128 u_129 H locs wr_128 hP hD hS => ?_)
      obtain ⟨p1_129, rfl⟩ : ∃ z, z = u_129 := ⟨_, rfl⟩
      have hz_129_0 : p1_129 ≤ 32 := wr_128.2.1
      have hz_129_1 : ((p1_129, fk) : StM) = popS ((p1_126, fk) : StM) := wr_128.2.2
      have hPD := pd_mk (ws := [(t 0, .inr (9, [.ref (t 1), .ref (t 2), .ref (t 3), .ref (t 4), .ref (t 5), .int (nI un), .int (nI k1), .int (nI p1_129), .int rf])), (t 1, .inl (cI, 200, .inl fs)), (t 2, .inl (cI, 32, .inl fk)), (a 24, .inl (cI, 26, .inl g6))]) hP hD
      have hP := hPD.1
      have hD := hPD.2
      rcases wr_128 with ⟨hpv129, _⟩
      · refine lv_iload hx hb dX9_stepOn_183 (lv_at hl 0 rfl) ?_
        refine eWiP (va_runV (As := [.int 10, .int r_128, .int r_125]) (rest := [.ref (t 0)]) ⟨hx, hb, hml, hown, hts⟩ (c_X9_reckon_t l D cI cB cZ cJ tx t un k1 p1_129 rf 10 r_128 r_125 (lf_X9_stepOn_t_130 a t un k1 p1 rf fs fk g6 j0 hp hst hj (nI 10) ex_2 10 hkd bkd rfl (nI od) ex_4 od hod bod rfl c_5 c_10 c_25 c_39 c_53 c_67 c_81 c_95 c_109 rfl p1_126 hz_126_0 hz_126_1 r_125 hpv126 p1_129 hz_129_0 hz_129_1 r_128 hpv129) H.size) (zV hts k_803 v_X9_reckon ⟨Nat.le_of_ble_eq_true rfl, Nat.le_of_ble_eq_true rfl⟩) (pV (pxS hK hP hD [0] (by decide) rfl) hK hP 0 rfl rfl) rfl rfl hl.1 rfl (lv_room (Nat.le_of_ble_eq_true rfl)) dX9_stepOn_185 ⟨Nat.le_of_ble_eq_true rfl, Nat.le_of_ble_eq_true rfl⟩) hP hD hS hA [0] [some 0, none, none, none] rfl (by decide +kernel) (fun _ => rfl) (fun r_131 u_132 H locs wr_131 hP hD hS => ?_)
        obtain ⟨rf_132, rfl⟩ : ∃ z, z = u_132 := ⟨_, rfl⟩
        have hz_132_0 : True := wr_131.2
        have hPD := pd_mk (ws := [(t 0, .inr (9, [.ref (t 1), .ref (t 2), .ref (t 3), .ref (t 4), .ref (t 5), .int (nI un), .int (nI k1), .int (nI p1_129), .int rf_132])), (t 1, .inl (cI, 200, .inl fs)), (t 2, .inl (cI, 32, .inl fk)), (a 24, .inl (cI, 26, .inl g6))]) hP hD
        have hP := hPD.1
        have hD := hPD.2
        rcases wr_131 with ⟨hrc132, _⟩
        · refine eWvP (va_runV (As := [.int r_131]) (rest := []) ⟨hx, hb, hml, hown, hts⟩ (c_X9_push_t l D cI cB cZ cJ tx t un k1 p1_129 rf_132 fk r_131 (lf_X9_stepOn_t_133 a t un k1 p1 rf fs fk g6 j0 hp hst hj (nI 10) ex_2 10 hkd bkd rfl (nI od) ex_4 od hod bod rfl c_5 c_10 c_25 c_39 c_53 c_67 c_81 c_95 c_109 rfl p1_126 hz_126_0 hz_126_1 r_125 hpv126 p1_129 hz_129_0 hz_129_1 r_128 hpv129 rf_132 hz_132_0 r_131 hrc132) H.size) (zV hts k_795 v_X9_push ⟨Nat.le_of_ble_eq_true rfl, Nat.le_of_ble_eq_true rfl⟩) (pV (pxS hK hP hD [0, 2] (by decide) rfl) hK hP 0 rfl rfl) rfl rfl hl.1 rfl (lv_room (Nat.le_of_ble_eq_true rfl)) dX9_stepOn_188 ⟨Nat.le_of_ble_eq_true rfl, Nat.le_of_ble_eq_true rfl⟩) hP hD hS hA [0, 2] [some 0, none, some 1, none] rfl (by decide +kernel) (fun _ => rfl) (fun u_135 H locs wr_134 hP hD hS => ?_)
          obtain ⟨p1_135, fk_135⟩ := u_135
          have hz_135_0 : p1_135 ≤ 32 := wr_134.1
          have hz_135_1 : ((p1_135, fk_135) : StM) = pushM r_131 ((p1_129, fk) : StM) := wr_134.2
          have hPD := pd_mk (ws := [(t 0, .inr (9, [.ref (t 1), .ref (t 2), .ref (t 3), .ref (t 4), .ref (t 5), .int (nI un), .int (nI k1), .int (nI p1_135), .int rf_132])), (t 1, .inl (cI, 200, .inl fs)), (t 2, .inl (cI, 32, .inl fk_135)), (a 24, .inl (cI, 26, .inl g6))]) hP hD
          have hP := hPD.1
          have hD := hPD.2
          refine lv_iload_n hx hb dX9_stepOn_191 rfl (lv_at hl 4 rfl) ?_
          refine lv_iconst (v := 1) hx hb dX9_stepOn_192 (by decide) ?_
          refine lv_iadd hx hb dX9_stepOn_193 ?_
          refine lv_topv (y := nI (j0 + 1)) (nI_add j0 1) ?_
          rw [hQ]
          exact W.iret (v := nI (j0 + 1)) hx hb hr (fun tt9 ht hW => ⟨⟨(nI (j0 + 1) : Int32), ((p1_135 : Nat), (rf_132 : Int32), (fk_135 : Nat → Int32)), rfl, (lf_X9_stepOn_t_136 a t un k1 p1 rf fs fk g6 j0 hp hst hj (nI 10) ex_2 10 hkd bkd rfl (nI od) ex_4 od hod bod rfl c_5 c_10 c_25 c_39 c_53 c_67 c_81 c_95 c_109 rfl p1_126 hz_126_0 hz_126_1 r_125 hpv126 p1_129 hz_129_0 hz_129_1 r_128 hpv129 rf_132 hz_132_0 r_131 hrc132 p1_135 fk_135 hz_135_0 hz_135_1), ⟨by rw [ht]; exact hP, hD⟩⟩, hS.F ht⟩) hS.2.2 dX9_stepOn_194 hlocks
  by_cases c_137 : kd = 11
  · subst c_137
    refine lv_tableIn (off := 100) (tgt := 121) hx hb dX9_stepOn_21 (by decide) (by decide) rfl (by decide) ?_
    refine lv_aload_n hx hb dX9_stepOn_121 rfl (lv_at hl 2 rfl) ?_
    refine lv_iconst (v := 1) hx hb dX9_stepOn_122 (by decide) ?_
    refine lv_aload_n hx hb dX9_stepOn_123 rfl (lv_at hl 2 rfl) ?_
    refine eWiP (va_runV (As := []) (rest := [.int 1, .ref (t 0)]) ⟨hx, hb, hml, hown, hts⟩ (c_X9_pop_t l D cI cB cZ cJ tx t un k1 p1 rf fk (lf_X9_stepOn_t_138 a t un k1 p1 rf fs fk g6 j0 hp hst hj (nI 11) ex_2 11 hkd bkd rfl (nI od) ex_4 od hod bod rfl c_5 c_10 c_25 c_39 c_53 c_67 c_81 c_95 c_109 c_123 rfl) H.size) (zV hts k_799 v_X9_pop ⟨Nat.le_of_ble_eq_true rfl, Nat.le_of_ble_eq_true rfl⟩) (pV (pxS hK hP hD [0, 2] (by decide) rfl) hK hP 0 rfl rfl) rfl rfl hl.1 rfl (lv_room (Nat.le_of_ble_eq_true rfl)) dX9_stepOn_124 ⟨Nat.le_of_ble_eq_true rfl, Nat.le_of_ble_eq_true rfl⟩) hP hD hS hA [0, 2] [some 0, none, some 1, none] rfl (by decide +kernel) (fun _ => rfl) (fun r_139 u_140 H locs wr_139 hP hD hS => ?_)
    obtain ⟨p1_140, rfl⟩ : ∃ z, z = u_140 := ⟨_, rfl⟩
    have hz_140_0 : p1_140 ≤ 32 := wr_139.2.1
    have hz_140_1 : ((p1_140, fk) : StM) = popS ((p1, fk) : StM) := wr_139.2.2
    have hPD := pd_mk (ws := [(t 0, .inr (9, [.ref (t 1), .ref (t 2), .ref (t 3), .ref (t 4), .ref (t 5), .int (nI un), .int (nI k1), .int (nI p1_140), .int rf])), (t 1, .inl (cI, 200, .inl fs)), (t 2, .inl (cI, 32, .inl fk)), (a 24, .inl (cI, 26, .inl g6))]) hP hD
    have hP := hPD.1
    have hD := hPD.2
    rcases wr_139 with ⟨hpv140, _⟩
    · refine lv_isub hx hb dX9_stepOn_127 ?_
      refine lv_topi (fun x_141 ex_141 => ?_)
      refine eWvP (va_runV (As := [.int x_141]) (rest := []) ⟨hx, hb, hml, hown, hts⟩ (c_X9_push_t l D cI cB cZ cJ tx t un k1 p1_140 rf fk x_141 (lf_X9_stepOn_t_142 a t un k1 p1 rf fs fk g6 j0 hp hst hj (nI 11) ex_2 11 hkd bkd rfl (nI od) ex_4 od hod bod rfl c_5 c_10 c_25 c_39 c_53 c_67 c_81 c_95 c_109 c_123 rfl p1_140 hz_140_0 hz_140_1 r_139 hpv140 x_141 ex_141) H.size) (zV hts k_795 v_X9_push ⟨Nat.le_of_ble_eq_true rfl, Nat.le_of_ble_eq_true rfl⟩) (pV (pxS hK hP hD [0, 2] (by decide) rfl) hK hP 0 rfl rfl) rfl rfl hl.1 rfl (lv_room (Nat.le_of_ble_eq_true rfl)) dX9_stepOn_128 ⟨Nat.le_of_ble_eq_true rfl, Nat.le_of_ble_eq_true rfl⟩) hP hD hS hA [0, 2] [some 0, none, some 1, none] rfl (by decide +kernel) (fun _ => rfl) (fun u_144 H locs wr_143 hP hD hS => ?_)
      obtain ⟨p1_144, fk_144⟩ := u_144
      have hz_144_0 : p1_144 ≤ 32 := wr_143.1
      have hz_144_1 : ((p1_144, fk_144) : StM) = pushM x_141 ((p1_140, fk) : StM) := wr_143.2
      have hPD := pd_mk (ws := [(t 0, .inr (9, [.ref (t 1), .ref (t 2), .ref (t 3), .ref (t 4), .ref (t 5), .int (nI un), .int (nI k1), .int (nI p1_144), .int rf])), (t 1, .inl (cI, 200, .inl fs)), (t 2, .inl (cI, 32, .inl fk_144)), (a 24, .inl (cI, 26, .inl g6))]) hP hD
      have hP := hPD.1
      have hD := hPD.2
      refine lv_iload_n hx hb dX9_stepOn_131 rfl (lv_at hl 3 rfl) ?_
      refine lv_iconst (v := 1) hx hb dX9_stepOn_132 (by decide) ?_
      refine lv_iadd hx hb dX9_stepOn_133 ?_
      refine lv_topv (y := nI (j0 + 1)) (nI_add j0 1) ?_
      rw [hQ]
      exact W.iret (v := nI (j0 + 1)) hx hb hr (fun tt9 ht hW => ⟨⟨(nI (j0 + 1) : Int32), ((p1_144 : Nat), (rf : Int32), (fk_144 : Nat → Int32)), rfl, (lf_X9_stepOn_t_145 a t un k1 p1 rf fs fk g6 j0 hp hst hj (nI 11) ex_2 11 hkd bkd rfl (nI od) ex_4 od hod bod rfl c_5 c_10 c_25 c_39 c_53 c_67 c_81 c_95 c_109 c_123 rfl p1_140 hz_140_0 hz_140_1 r_139 hpv140 x_141 ex_141 p1_144 fk_144 hz_144_0 hz_144_1), ⟨by rw [ht]; exact hP, hD⟩⟩, hS.F ht⟩) hS.2.2 dX9_stepOn_134 hlocks
  by_cases c_146 : kd = 12
  · subst c_146
    refine lv_tableIn (off := 114) (tgt := 135) hx hb dX9_stepOn_21 (by decide) (by decide) rfl (by decide) ?_
    refine lv_aload_n hx hb dX9_stepOn_135 rfl (lv_at hl 2 rfl) ?_
    refine eWiP (va_runV (As := []) (rest := []) ⟨hx, hb, hml, hown, hts⟩ (c_X9_pop_t l D cI cB cZ cJ tx t un k1 p1 rf fk (lf_X9_stepOn_t_147 a t un k1 p1 rf fs fk g6 j0 hp hst hj (nI 12) ex_2 12 hkd bkd rfl (nI od) ex_4 od hod bod rfl c_5 c_10 c_25 c_39 c_53 c_67 c_81 c_95 c_109 c_123 c_137 rfl) H.size) (zV hts k_799 v_X9_pop ⟨Nat.le_of_ble_eq_true rfl, Nat.le_of_ble_eq_true rfl⟩) (pV (pxS hK hP hD [0, 2] (by decide) rfl) hK hP 0 rfl rfl) rfl rfl hl.1 rfl (lv_room (Nat.le_of_ble_eq_true rfl)) dX9_stepOn_136 ⟨Nat.le_of_ble_eq_true rfl, Nat.le_of_ble_eq_true rfl⟩) hP hD hS hA [0, 2] [some 0, none, some 1, none] rfl (by decide +kernel) (fun _ => rfl) (fun r_148 u_149 H locs wr_148 hP hD hS => ?_)
    obtain ⟨p1_149, rfl⟩ : ∃ z, z = u_149 := ⟨_, rfl⟩
    have hz_149_0 : p1_149 ≤ 32 := wr_148.2.1
    have hz_149_1 : ((p1_149, fk) : StM) = popS ((p1, fk) : StM) := wr_148.2.2
    have hPD := pd_mk (ws := [(t 0, .inr (9, [.ref (t 1), .ref (t 2), .ref (t 3), .ref (t 4), .ref (t 5), .int (nI un), .int (nI k1), .int (nI p1_149), .int rf])), (t 1, .inl (cI, 200, .inl fs)), (t 2, .inl (cI, 32, .inl fk)), (a 24, .inl (cI, 26, .inl g6))]) hP hD
    have hP := hPD.1
    have hD := hPD.2
    rcases wr_148 with ⟨hpv149, _⟩
    · refine lv_istore (lv' := [(5, .int r_148), (4, .int (nI od)), (3, .int 12), (0, .ref (t 0)), (1, .int (nI j0)), (2, .ref (a 24))]) hx hb dX9_stepOn_139 hl (by decide) rfl (fun ls hl => ?_)
      refine lv_iload hx hb dX9_stepOn_141 (lv_at hl 0 rfl) ?_
      refine lv_iload_n hx hb dX9_stepOn_143 rfl (lv_at hl 2 rfl) ?_
      refine lv_bipush (v := 13) hx hb dX9_stepOn_144 (by decide) ?_
      refine lv_icmp_ne (tgt := 153) hx hb dX9_stepOn_146 (by decide) (fun _ => ?_) (fun c => absurd c (by decide))
      refine lv_iconst (v := 0) hx hb dX9_stepOn_153 (by decide) ?_
      refine lv_icmp_ne (tgt := 166) hx hb dX9_stepOn_154 (by decide) (fun c_150 => ?_) (fun c_150 => ?_)
      · refine lv_iload_n hx hb dX9_stepOn_166 rfl (lv_at hl 4 rfl) ?_
        refine lv_iconst (v := 1) hx hb dX9_stepOn_167 (by decide) ?_
        refine lv_iadd hx hb dX9_stepOn_168 ?_
        refine lv_topv (y := nI (j0 + 1)) (nI_add j0 1) ?_
        rw [hQ]
        exact W.iret (v := nI (j0 + 1)) hx hb hr (fun tt9 ht hW => ⟨⟨(nI (j0 + 1) : Int32), ((p1_149 : Nat), (rf : Int32), (fk : Nat → Int32)), rfl, (lf_X9_stepOn_t_151 a t un k1 p1 rf fs fk g6 j0 hp hst hj (nI 12) ex_2 12 hkd bkd rfl (nI od) ex_4 od hod bod rfl c_5 c_10 c_25 c_39 c_53 c_67 c_81 c_95 c_109 c_123 c_137 rfl p1_149 hz_149_0 hz_149_1 r_148 hpv149 c_150), ⟨by rw [ht]; exact hP, hD⟩⟩, hS.F ht⟩) hS.2.2 dX9_stepOn_169 hlocks
      · refine lv_aload_n hx hb dX9_stepOn_157 rfl (lv_at hl 3 rfl) ?_
        refine lv_iload hx hb dX9_stepOn_158 (lv_at hl 0 rfl) ?_
        refine eWvP (va_runV (As := [.int r_148]) (rest := []) ⟨hx, hb, hml, hown, hts⟩ (c_X9_push_t l D cI cB cZ cJ tx t un k1 p1_149 rf fk r_148 (lf_X9_stepOn_t_152 a t un k1 p1 rf fs fk g6 j0 hp hst hj (nI 12) ex_2 12 hkd bkd rfl (nI od) ex_4 od hod bod rfl c_5 c_10 c_25 c_39 c_53 c_67 c_81 c_95 c_109 c_123 c_137 rfl p1_149 hz_149_0 hz_149_1 r_148 hpv149 c_150) H.size) (zV hts k_795 v_X9_push ⟨Nat.le_of_ble_eq_true rfl, Nat.le_of_ble_eq_true rfl⟩) (pV (pxS hK hP hD [0, 2] (by decide) rfl) hK hP 0 rfl rfl) rfl rfl hl.1 rfl (lv_room (Nat.le_of_ble_eq_true rfl)) dX9_stepOn_160 ⟨Nat.le_of_ble_eq_true rfl, Nat.le_of_ble_eq_true rfl⟩) hP hD hS hA [0, 2] [some 0, none, some 1, none] rfl (by decide +kernel) (fun _ => rfl) (fun u_154 H locs wr_153 hP hD hS => ?_)
        obtain ⟨p1_154, fk_154⟩ := u_154
        have hz_154_0 : p1_154 ≤ 32 := wr_153.1
        have hz_154_1 : ((p1_154, fk_154) : StM) = pushM r_148 ((p1_149, fk) : StM) := wr_153.2
        have hPD := pd_mk (ws := [(t 0, .inr (9, [.ref (t 1), .ref (t 2), .ref (t 3), .ref (t 4), .ref (t 5), .int (nI un), .int (nI k1), .int (nI p1_154), .int rf])), (t 1, .inl (cI, 200, .inl fs)), (t 2, .inl (cI, 32, .inl fk_154)), (a 24, .inl (cI, 26, .inl g6))]) hP hD
        have hP := hPD.1
        have hD := hPD.2
        refine lv_iload hx hb dX9_stepOn_163 (lv_at hl 1 rfl) ?_
        rw [hQ]
        exact W.iret (v := nI od) hx hb hr (fun tt9 ht hW => ⟨⟨(nI od : Int32), ((p1_154 : Nat), (rf : Int32), (fk_154 : Nat → Int32)), rfl, (lf_X9_stepOn_t_155 a t un k1 p1 rf fs fk g6 j0 hp hst hj (nI 12) ex_2 12 hkd bkd rfl (nI od) ex_4 od hod bod rfl c_5 c_10 c_25 c_39 c_53 c_67 c_81 c_95 c_109 c_123 c_137 rfl p1_149 hz_149_0 hz_149_1 r_148 hpv149 c_150 p1_154 fk_154 hz_154_0 hz_154_1), ⟨by rw [ht]; exact hP, hD⟩⟩, hS.F ht⟩) hS.2.2 dX9_stepOn_165 hlocks
  by_cases c_156 : kd = 13
  · subst c_156
    refine lv_tableIn (off := 114) (tgt := 135) hx hb dX9_stepOn_21 (by decide) (by decide) rfl (by decide) ?_
    refine lv_aload_n hx hb dX9_stepOn_135 rfl (lv_at hl 2 rfl) ?_
    refine eWiP (va_runV (As := []) (rest := []) ⟨hx, hb, hml, hown, hts⟩ (c_X9_pop_t l D cI cB cZ cJ tx t un k1 p1 rf fk (lf_X9_stepOn_t_157 a t un k1 p1 rf fs fk g6 j0 hp hst hj (nI 13) ex_2 13 hkd bkd rfl (nI od) ex_4 od hod bod rfl c_5 c_10 c_25 c_39 c_53 c_67 c_81 c_95 c_109 c_123 c_137 c_146 rfl) H.size) (zV hts k_799 v_X9_pop ⟨Nat.le_of_ble_eq_true rfl, Nat.le_of_ble_eq_true rfl⟩) (pV (pxS hK hP hD [0, 2] (by decide) rfl) hK hP 0 rfl rfl) rfl rfl hl.1 rfl (lv_room (Nat.le_of_ble_eq_true rfl)) dX9_stepOn_136 ⟨Nat.le_of_ble_eq_true rfl, Nat.le_of_ble_eq_true rfl⟩) hP hD hS hA [0, 2] [some 0, none, some 1, none] rfl (by decide +kernel) (fun _ => rfl) (fun r_158 u_159 H locs wr_158 hP hD hS => ?_)
    obtain ⟨p1_159, rfl⟩ : ∃ z, z = u_159 := ⟨_, rfl⟩
    have hz_159_0 : p1_159 ≤ 32 := wr_158.2.1
    have hz_159_1 : ((p1_159, fk) : StM) = popS ((p1, fk) : StM) := wr_158.2.2
    have hPD := pd_mk (ws := [(t 0, .inr (9, [.ref (t 1), .ref (t 2), .ref (t 3), .ref (t 4), .ref (t 5), .int (nI un), .int (nI k1), .int (nI p1_159), .int rf])), (t 1, .inl (cI, 200, .inl fs)), (t 2, .inl (cI, 32, .inl fk)), (a 24, .inl (cI, 26, .inl g6))]) hP hD
    have hP := hPD.1
    have hD := hPD.2
    rcases wr_158 with ⟨hpv159, _⟩
    · refine lv_istore (lv' := [(5, .int r_158), (4, .int (nI od)), (3, .int 13), (0, .ref (t 0)), (1, .int (nI j0)), (2, .ref (a 24))]) hx hb dX9_stepOn_139 hl (by decide) rfl (fun ls hl => ?_)
      refine lv_iload hx hb dX9_stepOn_141 (lv_at hl 0 rfl) ?_
      refine lv_iload_n hx hb dX9_stepOn_143 rfl (lv_at hl 2 rfl) ?_
      refine lv_bipush (v := 13) hx hb dX9_stepOn_144 (by decide) ?_
      refine lv_icmp_ne (tgt := 153) hx hb dX9_stepOn_146 (by decide) (fun c => absurd c (by decide)) (fun _ => ?_)
      refine lv_iconst (v := 1) hx hb dX9_stepOn_149 (by decide) ?_
      refine lv_goto (tgt := 154) hx hb dX9_stepOn_150 (by decide) ?_
      refine lv_icmp_ne (tgt := 166) hx hb dX9_stepOn_154 (by decide) (fun c_160 => ?_) (fun c_160 => ?_)
      · refine lv_iload_n hx hb dX9_stepOn_166 rfl (lv_at hl 4 rfl) ?_
        refine lv_iconst (v := 1) hx hb dX9_stepOn_167 (by decide) ?_
        refine lv_iadd hx hb dX9_stepOn_168 ?_
        refine lv_topv (y := nI (j0 + 1)) (nI_add j0 1) ?_
        rw [hQ]
        exact W.iret (v := nI (j0 + 1)) hx hb hr (fun tt9 ht hW => ⟨⟨(nI (j0 + 1) : Int32), ((p1_159 : Nat), (rf : Int32), (fk : Nat → Int32)), rfl, (lf_X9_stepOn_t_161 a t un k1 p1 rf fs fk g6 j0 hp hst hj (nI 13) ex_2 13 hkd bkd rfl (nI od) ex_4 od hod bod rfl c_5 c_10 c_25 c_39 c_53 c_67 c_81 c_95 c_109 c_123 c_137 c_146 rfl p1_159 hz_159_0 hz_159_1 r_158 hpv159 c_160), ⟨by rw [ht]; exact hP, hD⟩⟩, hS.F ht⟩) hS.2.2 dX9_stepOn_169 hlocks
      · refine lv_aload_n hx hb dX9_stepOn_157 rfl (lv_at hl 3 rfl) ?_
        refine lv_iload hx hb dX9_stepOn_158 (lv_at hl 0 rfl) ?_
        refine eWvP (va_runV (As := [.int r_158]) (rest := []) ⟨hx, hb, hml, hown, hts⟩ (c_X9_push_t l D cI cB cZ cJ tx t un k1 p1_159 rf fk r_158 (lf_X9_stepOn_t_162 a t un k1 p1 rf fs fk g6 j0 hp hst hj (nI 13) ex_2 13 hkd bkd rfl (nI od) ex_4 od hod bod rfl c_5 c_10 c_25 c_39 c_53 c_67 c_81 c_95 c_109 c_123 c_137 c_146 rfl p1_159 hz_159_0 hz_159_1 r_158 hpv159 c_160) H.size) (zV hts k_795 v_X9_push ⟨Nat.le_of_ble_eq_true rfl, Nat.le_of_ble_eq_true rfl⟩) (pV (pxS hK hP hD [0, 2] (by decide) rfl) hK hP 0 rfl rfl) rfl rfl hl.1 rfl (lv_room (Nat.le_of_ble_eq_true rfl)) dX9_stepOn_160 ⟨Nat.le_of_ble_eq_true rfl, Nat.le_of_ble_eq_true rfl⟩) hP hD hS hA [0, 2] [some 0, none, some 1, none] rfl (by decide +kernel) (fun _ => rfl) (fun u_164 H locs wr_163 hP hD hS => ?_)
        obtain ⟨p1_164, fk_164⟩ := u_164
        have hz_164_0 : p1_164 ≤ 32 := wr_163.1
        have hz_164_1 : ((p1_164, fk_164) : StM) = pushM r_158 ((p1_159, fk) : StM) := wr_163.2
        have hPD := pd_mk (ws := [(t 0, .inr (9, [.ref (t 1), .ref (t 2), .ref (t 3), .ref (t 4), .ref (t 5), .int (nI un), .int (nI k1), .int (nI p1_164), .int rf])), (t 1, .inl (cI, 200, .inl fs)), (t 2, .inl (cI, 32, .inl fk_164)), (a 24, .inl (cI, 26, .inl g6))]) hP hD
        have hP := hPD.1
        have hD := hPD.2
        refine lv_iload hx hb dX9_stepOn_163 (lv_at hl 1 rfl) ?_
        rw [hQ]
        exact W.iret (v := nI od) hx hb hr (fun tt9 ht hW => ⟨⟨(nI od : Int32), ((p1_164 : Nat), (rf : Int32), (fk_164 : Nat → Int32)), rfl, (lf_X9_stepOn_t_165 a t un k1 p1 rf fs fk g6 j0 hp hst hj (nI 13) ex_2 13 hkd bkd rfl (nI od) ex_4 od hod bod rfl c_5 c_10 c_25 c_39 c_53 c_67 c_81 c_95 c_109 c_123 c_137 c_146 rfl p1_159 hz_159_0 hz_159_1 r_158 hpv159 c_160 p1_164 fk_164 hz_164_0 hz_164_1), ⟨by rw [ht]; exact hP, hD⟩⟩, hS.F ht⟩) hS.2.2 dX9_stepOn_165 hlocks
  refine lv_tableOut (tgt := 170) hx hb dX9_stepOn_21 (lf_X9_stepOn_t_166 a t un k1 p1 rf fs fk g6 j0 hp hst hj (nI kd) ex_2 kd hkd bkd rfl (nI od) ex_4 od hod bod rfl c_5 c_10 c_25 c_39 c_53 c_67 c_81 c_95 c_109 c_123 c_137 c_146 c_156) (by decide) ?_
  refine lv_aload_n hx hb dX9_stepOn_170 rfl (lv_at hl 2 rfl) ?_
  refine eWiP (va_runV (As := []) (rest := []) ⟨hx, hb, hml, hown, hts⟩ (c_X9_pop_t l D cI cB cZ cJ tx t un k1 p1 rf fk (lf_X9_stepOn_t_167 a t un k1 p1 rf fs fk g6 j0 hp hst hj (nI kd) ex_2 kd hkd bkd rfl (nI od) ex_4 od hod bod rfl c_5 c_10 c_25 c_39 c_53 c_67 c_81 c_95 c_109 c_123 c_137 c_146 c_156) H.size) (zV hts k_799 v_X9_pop ⟨Nat.le_of_ble_eq_true rfl, Nat.le_of_ble_eq_true rfl⟩) (pV (pxS hK hP hD [0, 2] (by decide) rfl) hK hP 0 rfl rfl) rfl rfl hl.1 rfl (lv_room (Nat.le_of_ble_eq_true rfl)) dX9_stepOn_171 ⟨Nat.le_of_ble_eq_true rfl, Nat.le_of_ble_eq_true rfl⟩) hP hD hS hA [0, 2] [some 0, none, some 1, none] rfl (by decide +kernel) (fun _ => rfl) (fun r_168 u_169 H locs wr_168 hP hD hS => ?_)
  obtain ⟨p1_169, rfl⟩ : ∃ z, z = u_169 := ⟨_, rfl⟩
  have hz_169_0 : p1_169 ≤ 32 := wr_168.2.1
  have hz_169_1 : ((p1_169, fk) : StM) = popS ((p1, fk) : StM) := wr_168.2.2
  have hPD := pd_mk (ws := [(t 0, .inr (9, [.ref (t 1), .ref (t 2), .ref (t 3), .ref (t 4), .ref (t 5), .int (nI un), .int (nI k1), .int (nI p1_169), .int rf])), (t 1, .inl (cI, 200, .inl fs)), (t 2, .inl (cI, 32, .inl fk)), (a 24, .inl (cI, 26, .inl g6))]) hP hD
  have hP := hPD.1
  have hD := hPD.2
  rcases wr_168 with ⟨hpv169, _⟩
  · refine lv_istore (lv' := [(5, .int r_168), (4, .int (nI od)), (3, .int (nI kd)), (0, .ref (t 0)), (1, .int (nI j0)), (2, .ref (a 24))]) hx hb dX9_stepOn_174 hl (by decide) rfl (fun ls hl => ?_)
    refine lv_aload_n hx hb dX9_stepOn_176 rfl (lv_at hl 3 rfl) ?_
    refine lv_aload_n hx hb dX9_stepOn_177 rfl (lv_at hl 3 rfl) ?_
    refine lv_iload_n hx hb dX9_stepOn_178 rfl (lv_at hl 2 rfl) ?_
    refine lv_aload_n hx hb dX9_stepOn_179 rfl (lv_at hl 3 rfl) ?_
    refine eWiP (va_runV (As := []) (rest := [.int (nI kd), .ref (t 0), .ref (t 0)]) ⟨hx, hb, hml, hown, hts⟩ (c_X9_pop_t l D cI cB cZ cJ tx t un k1 p1_169 rf fk (lf_X9_stepOn_t_170 a t un k1 p1 rf fs fk g6 j0 hp hst hj (nI kd) ex_2 kd hkd bkd rfl (nI od) ex_4 od hod bod rfl c_5 c_10 c_25 c_39 c_53 c_67 c_81 c_95 c_109 c_123 c_137 c_146 c_156 p1_169 hz_169_0 hz_169_1 r_168 hpv169) H.size) (zV hts k_799 v_X9_pop ⟨Nat.le_of_ble_eq_true rfl, Nat.le_of_ble_eq_true rfl⟩) (pV (pxS hK hP hD [0, 2] (by decide) rfl) hK hP 0 rfl rfl) rfl rfl hl.1 rfl (lv_room (Nat.le_of_ble_eq_true rfl)) dX9_stepOn_180 ⟨Nat.le_of_ble_eq_true rfl, Nat.le_of_ble_eq_true rfl⟩) hP hD hS hA [0, 2] [some 0, none, some 1, none] rfl (by decide +kernel) (fun _ => rfl) (fun r_171 u_172 H locs wr_171 hP hD hS => ?_)
    obtain ⟨p1_172, rfl⟩ : ∃ z, z = u_172 := ⟨_, rfl⟩
    have hz_172_0 : p1_172 ≤ 32 := wr_171.2.1
    have hz_172_1 : ((p1_172, fk) : StM) = popS ((p1_169, fk) : StM) := wr_171.2.2
    have hPD := pd_mk (ws := [(t 0, .inr (9, [.ref (t 1), .ref (t 2), .ref (t 3), .ref (t 4), .ref (t 5), .int (nI un), .int (nI k1), .int (nI p1_172), .int rf])), (t 1, .inl (cI, 200, .inl fs)), (t 2, .inl (cI, 32, .inl fk)), (a 24, .inl (cI, 26, .inl g6))]) hP hD
    have hP := hPD.1
    have hD := hPD.2
    rcases wr_171 with ⟨hpv172, _⟩
    · refine lv_iload hx hb dX9_stepOn_183 (lv_at hl 0 rfl) ?_
      refine eWiP (va_runV (As := [.int (nI kd), .int r_171, .int r_168]) (rest := [.ref (t 0)]) ⟨hx, hb, hml, hown, hts⟩ (c_X9_reckon_t l D cI cB cZ cJ tx t un k1 p1_172 rf kd r_171 r_168 (lf_X9_stepOn_t_173 a t un k1 p1 rf fs fk g6 j0 hp hst hj (nI kd) ex_2 kd hkd bkd rfl (nI od) ex_4 od hod bod rfl c_5 c_10 c_25 c_39 c_53 c_67 c_81 c_95 c_109 c_123 c_137 c_146 c_156 p1_169 hz_169_0 hz_169_1 r_168 hpv169 p1_172 hz_172_0 hz_172_1 r_171 hpv172) H.size) (zV hts k_803 v_X9_reckon ⟨Nat.le_of_ble_eq_true rfl, Nat.le_of_ble_eq_true rfl⟩) (pV (pxS hK hP hD [0] (by decide) rfl) hK hP 0 rfl rfl) rfl rfl hl.1 rfl (lv_room (Nat.le_of_ble_eq_true rfl)) dX9_stepOn_185 ⟨Nat.le_of_ble_eq_true rfl, Nat.le_of_ble_eq_true rfl⟩) hP hD hS hA [0] [some 0, none, none, none] rfl (by decide +kernel) (fun _ => rfl) (fun r_174 u_175 H locs wr_174 hP hD hS => ?_)
      obtain ⟨rf_175, rfl⟩ : ∃ z, z = u_175 := ⟨_, rfl⟩
      have hz_175_0 : True := wr_174.2
      have hPD := pd_mk (ws := [(t 0, .inr (9, [.ref (t 1), .ref (t 2), .ref (t 3), .ref (t 4), .ref (t 5), .int (nI un), .int (nI k1), .int (nI p1_172), .int rf_175])), (t 1, .inl (cI, 200, .inl fs)), (t 2, .inl (cI, 32, .inl fk)), (a 24, .inl (cI, 26, .inl g6))]) hP hD
      have hP := hPD.1
      have hD := hPD.2
      rcases wr_174 with ⟨hrc175, _⟩
      · refine eWvP (va_runV (As := [.int r_174]) (rest := []) ⟨hx, hb, hml, hown, hts⟩ (c_X9_push_t l D cI cB cZ cJ tx t un k1 p1_172 rf_175 fk r_174 (lf_X9_stepOn_t_176 a t un k1 p1 rf fs fk g6 j0 hp hst hj (nI kd) ex_2 kd hkd bkd rfl (nI od) ex_4 od hod bod rfl c_5 c_10 c_25 c_39 c_53 c_67 c_81 c_95 c_109 c_123 c_137 c_146 c_156 p1_169 hz_169_0 hz_169_1 r_168 hpv169 p1_172 hz_172_0 hz_172_1 r_171 hpv172 rf_175 hz_175_0 r_174 hrc175) H.size) (zV hts k_795 v_X9_push ⟨Nat.le_of_ble_eq_true rfl, Nat.le_of_ble_eq_true rfl⟩) (pV (pxS hK hP hD [0, 2] (by decide) rfl) hK hP 0 rfl rfl) rfl rfl hl.1 rfl (lv_room (Nat.le_of_ble_eq_true rfl)) dX9_stepOn_188 ⟨Nat.le_of_ble_eq_true rfl, Nat.le_of_ble_eq_true rfl⟩) hP hD hS hA [0, 2] [some 0, none, some 1, none] rfl (by decide +kernel) (fun _ => rfl) (fun u_178 H locs wr_177 hP hD hS => ?_)
        obtain ⟨p1_178, fk_178⟩ := u_178
        have hz_178_0 : p1_178 ≤ 32 := wr_177.1
        have hz_178_1 : ((p1_178, fk_178) : StM) = pushM r_174 ((p1_172, fk) : StM) := wr_177.2
        have hPD := pd_mk (ws := [(t 0, .inr (9, [.ref (t 1), .ref (t 2), .ref (t 3), .ref (t 4), .ref (t 5), .int (nI un), .int (nI k1), .int (nI p1_178), .int rf_175])), (t 1, .inl (cI, 200, .inl fs)), (t 2, .inl (cI, 32, .inl fk_178)), (a 24, .inl (cI, 26, .inl g6))]) hP hD
        have hP := hPD.1
        have hD := hPD.2
        refine lv_iload_n hx hb dX9_stepOn_191 rfl (lv_at hl 4 rfl) ?_
        refine lv_iconst (v := 1) hx hb dX9_stepOn_192 (by decide) ?_
        refine lv_iadd hx hb dX9_stepOn_193 ?_
        refine lv_topv (y := nI (j0 + 1)) (nI_add j0 1) ?_
        rw [hQ]
        exact W.iret (v := nI (j0 + 1)) hx hb hr (fun tt9 ht hW => ⟨⟨(nI (j0 + 1) : Int32), ((p1_178 : Nat), (rf_175 : Int32), (fk_178 : Nat → Int32)), rfl, (lf_X9_stepOn_t_179 a t un k1 p1 rf fs fk g6 j0 hp hst hj (nI kd) ex_2 kd hkd bkd rfl (nI od) ex_4 od hod bod rfl c_5 c_10 c_25 c_39 c_53 c_67 c_81 c_95 c_109 c_123 c_137 c_146 c_156 p1_169 hz_169_0 hz_169_1 r_168 hpv169 p1_172 hz_172_0 hz_172_1 r_171 hpv172 rf_175 hz_175_0 r_174 hrc175 p1_178 fk_178 hz_178_0 hz_178_1), ⟨by rw [ht]; exact hP, hD⟩⟩, hS.F ht⟩) hS.2.2 dX9_stepOn_194 hlocks

theorem lf_X9_run_t_3 (a : Nat → Nat) (t : Nat → Nat) (un : Nat) (k1 : Nat) (p1 : Nat) (rf : Int32) (fs : Nat → Int32) (fk : Nat → Int32) (g6 : Nat → Int32) (a0 : Nat) (hp : p1 ≤ 32) (hst : ∀ j, j < 200 → 0 ≤ fs j) (hun : un ≤ 200) (ha0 : a0 < 2 ^ 31) (j1 : Nat) (av : Nat) (fv : Nat → Int32) (rv : Int32) (pv : Nat) (k15 : Nat) (hj15 : j1 ≤ 200) (hk15 : 200 < j1 + (k15 + 1)) (hpv : pv ≤ 32) (hav : av < 2 ^ 31) (hrq : ruQ fs g6 un a0 ((0, fk) : StM) (200 - j1) av ((pv, fv) : StM) rv) (c_1 : 200 ≤ nI j1) : 200 ≤ j1 := by
  exact (nI_leI (a := 200) (b := j1) (by omega) (by omega)).mp c_1
theorem lf_X9_run_t_5 (a : Nat → Nat) (t : Nat → Nat) (un : Nat) (k1 : Nat) (p1 : Nat) (rf : Int32) (fs : Nat → Int32) (fk : Nat → Int32) (g6 : Nat → Int32) (a0 : Nat) (hp : p1 ≤ 32) (hst : ∀ j, j < 200 → 0 ≤ fs j) (hun : un ≤ 200) (ha0 : a0 < 2 ^ 31) (j1 : Nat) (av : Nat) (fv : Nat → Int32) (rv : Int32) (pv : Nat) (k15 : Nat) (hj15 : j1 ≤ 200) (hk15 : 200 < j1 + (k15 + 1)) (hpv : pv ≤ 32) (hav : av < 2 ^ 31) (hrq : ruQ fs g6 un a0 ((0, fk) : StM) (200 - j1) av ((pv, fv) : StM) rv) (c_1 : 200 ≤ nI j1) (n_2 : 200 ≤ j1) (c_4 : rv = 0) : pv ≤ 32 := by
  first | assumption | omega | decide
theorem lf_X9_run_t_8 (a : Nat → Nat) (t : Nat → Nat) (un : Nat) (k1 : Nat) (p1 : Nat) (rf : Int32) (fs : Nat → Int32) (fk : Nat → Int32) (g6 : Nat → Int32) (a0 : Nat) (hp : p1 ≤ 32) (hst : ∀ j, j < 200 → 0 ≤ fs j) (hun : un ≤ 200) (ha0 : a0 < 2 ^ 31) (j1 : Nat) (av : Nat) (fv : Nat → Int32) (rv : Int32) (pv : Nat) (k15 : Nat) (hj15 : j1 ≤ 200) (hk15 : 200 < j1 + (k15 + 1)) (hpv : pv ≤ 32) (hav : av < 2 ^ 31) (hrq : ruQ fs g6 un a0 ((0, fk) : StM) (200 - j1) av ((pv, fv) : StM) rv) (c_1 : 200 ≤ nI j1) (n_2 : 200 ≤ j1) (c_4 : rv = 0) (p1_7 : Nat) (hz_7_0 : p1_7 ≤ 32) (hz_7_1 : ((p1_7, fv) : StM) = popS ((pv, fv) : StM)) (r_6 : Int32) (hpv7 : r_6 = popV ((pv, fv) : StM)) : (r_6 : Int32) = runM fs g6 un 200 a0 ((0, fk) : StM) ∧ ((p1_7 : Nat) ≤ 32) := by
  refine ⟨?_, by omega⟩
  first | contradiction | exact ruQ.e0 hrq (by assumption) | exact ruQ.e1 hrq (by assumption) (by omega) (by assumption) | exact ruQ.e2 hrq (by assumption) (by omega) (by assumption) | exact ruQ.e3 hrq (by assumption) (by assumption) (by assumption) (hst av (by omega)) (by assumption)
theorem lf_X9_run_t_9 (a : Nat → Nat) (t : Nat → Nat) (un : Nat) (k1 : Nat) (p1 : Nat) (rf : Int32) (fs : Nat → Int32) (fk : Nat → Int32) (g6 : Nat → Int32) (a0 : Nat) (hp : p1 ≤ 32) (hst : ∀ j, j < 200 → 0 ≤ fs j) (hun : un ≤ 200) (ha0 : a0 < 2 ^ 31) (j1 : Nat) (av : Nat) (fv : Nat → Int32) (rv : Int32) (pv : Nat) (k15 : Nat) (hj15 : j1 ≤ 200) (hk15 : 200 < j1 + (k15 + 1)) (hpv : pv ≤ 32) (hav : av < 2 ^ 31) (hrq : ruQ fs g6 un a0 ((0, fk) : StM) (200 - j1) av ((pv, fv) : StM) rv) (c_1 : 200 ≤ nI j1) (n_2 : 200 ≤ j1) (c_4 : ¬ rv = 0) : (0 : Int32) = runM fs g6 un 200 a0 ((0, fk) : StM) ∧ ((pv : Nat) ≤ 32) := by
  refine ⟨?_, by omega⟩
  first | contradiction | exact ruQ.e0 hrq (by assumption) | exact ruQ.e1 hrq (by assumption) (by omega) (by assumption) | exact ruQ.e2 hrq (by assumption) (by omega) (by assumption) | exact ruQ.e3 hrq (by assumption) (by assumption) (by assumption) (hst av (by omega)) (by assumption)
theorem lf_X9_run_t_11 (a : Nat → Nat) (t : Nat → Nat) (un : Nat) (k1 : Nat) (p1 : Nat) (rf : Int32) (fs : Nat → Int32) (fk : Nat → Int32) (g6 : Nat → Int32) (a0 : Nat) (hp : p1 ≤ 32) (hst : ∀ j, j < 200 → 0 ≤ fs j) (hun : un ≤ 200) (ha0 : a0 < 2 ^ 31) (j1 : Nat) (av : Nat) (fv : Nat → Int32) (rv : Int32) (pv : Nat) (k15 : Nat) (hj15 : j1 ≤ 200) (hk15 : 200 < j1 + (k15 + 1)) (hpv : pv ≤ 32) (hav : av < 2 ^ 31) (hrq : ruQ fs g6 un a0 ((0, fk) : StM) (200 - j1) av ((pv, fv) : StM) rv) (c_1 : ¬ 200 ≤ nI j1) : j1 < 200 := by
  exact Nat.lt_of_not_le (fun q => c_1 ((nI_leI (a := 200) (b := j1) (by omega) (by omega)).mpr q))
theorem lf_X9_run_t_12 (a : Nat → Nat) (t : Nat → Nat) (un : Nat) (k1 : Nat) (p1 : Nat) (rf : Int32) (fs : Nat → Int32) (fk : Nat → Int32) (g6 : Nat → Int32) (a0 : Nat) (hp : p1 ≤ 32) (hst : ∀ j, j < 200 → 0 ≤ fs j) (hun : un ≤ 200) (ha0 : a0 < 2 ^ 31) (j1 : Nat) (av : Nat) (fv : Nat → Int32) (rv : Int32) (pv : Nat) (k15 : Nat) (hj15 : j1 ≤ 200) (hk15 : 200 < j1 + (k15 + 1)) (hpv : pv ≤ 32) (hav : av < 2 ^ 31) (hrq : ruQ fs g6 un a0 ((0, fk) : StM) (200 - j1) av ((pv, fv) : StM) rv) (c_1 : ¬ 200 ≤ nI j1) (n_10 : j1 < 200) : ¬ nI av < 0 := by
  first | exact nI_pos (by omega) | exact nI_pos' (by omega)
theorem lf_X9_run_t_15 (a : Nat → Nat) (t : Nat → Nat) (un : Nat) (k1 : Nat) (p1 : Nat) (rf : Int32) (fs : Nat → Int32) (fk : Nat → Int32) (g6 : Nat → Int32) (a0 : Nat) (hp : p1 ≤ 32) (hst : ∀ j, j < 200 → 0 ≤ fs j) (hun : un ≤ 200) (ha0 : a0 < 2 ^ 31) (j1 : Nat) (av : Nat) (fv : Nat → Int32) (rv : Int32) (pv : Nat) (k15 : Nat) (hj15 : j1 ≤ 200) (hk15 : 200 < j1 + (k15 + 1)) (hpv : pv ≤ 32) (hav : av < 2 ^ 31) (hrq : ruQ fs g6 un a0 ((0, fk) : StM) (200 - j1) av ((pv, fv) : StM) rv) (c_1 : ¬ 200 ≤ nI j1) (n_10 : j1 < 200) (c_13 : nI un ≤ nI av) : un ≤ av := by
  exact (nI_leI (a := un) (b := av) (by omega) (by omega)).mp c_13
theorem lf_X9_run_t_17 (a : Nat → Nat) (t : Nat → Nat) (un : Nat) (k1 : Nat) (p1 : Nat) (rf : Int32) (fs : Nat → Int32) (fk : Nat → Int32) (g6 : Nat → Int32) (a0 : Nat) (hp : p1 ≤ 32) (hst : ∀ j, j < 200 → 0 ≤ fs j) (hun : un ≤ 200) (ha0 : a0 < 2 ^ 31) (j1 : Nat) (av : Nat) (fv : Nat → Int32) (rv : Int32) (pv : Nat) (k15 : Nat) (hj15 : j1 ≤ 200) (hk15 : 200 < j1 + (k15 + 1)) (hpv : pv ≤ 32) (hav : av < 2 ^ 31) (hrq : ruQ fs g6 un a0 ((0, fk) : StM) (200 - j1) av ((pv, fv) : StM) rv) (c_1 : ¬ 200 ≤ nI j1) (n_10 : j1 < 200) (c_13 : nI un ≤ nI av) (n_14 : un ≤ av) (c_16 : rv = 0) : pv ≤ 32 := by
  first | assumption | omega | decide
theorem lf_X9_run_t_20 (a : Nat → Nat) (t : Nat → Nat) (un : Nat) (k1 : Nat) (p1 : Nat) (rf : Int32) (fs : Nat → Int32) (fk : Nat → Int32) (g6 : Nat → Int32) (a0 : Nat) (hp : p1 ≤ 32) (hst : ∀ j, j < 200 → 0 ≤ fs j) (hun : un ≤ 200) (ha0 : a0 < 2 ^ 31) (j1 : Nat) (av : Nat) (fv : Nat → Int32) (rv : Int32) (pv : Nat) (k15 : Nat) (hj15 : j1 ≤ 200) (hk15 : 200 < j1 + (k15 + 1)) (hpv : pv ≤ 32) (hav : av < 2 ^ 31) (hrq : ruQ fs g6 un a0 ((0, fk) : StM) (200 - j1) av ((pv, fv) : StM) rv) (c_1 : ¬ 200 ≤ nI j1) (n_10 : j1 < 200) (c_13 : nI un ≤ nI av) (n_14 : un ≤ av) (c_16 : rv = 0) (p1_19 : Nat) (hz_19_0 : p1_19 ≤ 32) (hz_19_1 : ((p1_19, fv) : StM) = popS ((pv, fv) : StM)) (r_18 : Int32) (hpv19 : r_18 = popV ((pv, fv) : StM)) : (r_18 : Int32) = runM fs g6 un 200 a0 ((0, fk) : StM) ∧ ((p1_19 : Nat) ≤ 32) := by
  refine ⟨?_, by omega⟩
  first | contradiction | exact ruQ.e0 hrq (by assumption) | exact ruQ.e1 hrq (by assumption) (by omega) (by assumption) | exact ruQ.e2 hrq (by assumption) (by omega) (by assumption) | exact ruQ.e3 hrq (by assumption) (by assumption) (by assumption) (hst av (by omega)) (by assumption)
theorem lf_X9_run_t_21 (a : Nat → Nat) (t : Nat → Nat) (un : Nat) (k1 : Nat) (p1 : Nat) (rf : Int32) (fs : Nat → Int32) (fk : Nat → Int32) (g6 : Nat → Int32) (a0 : Nat) (hp : p1 ≤ 32) (hst : ∀ j, j < 200 → 0 ≤ fs j) (hun : un ≤ 200) (ha0 : a0 < 2 ^ 31) (j1 : Nat) (av : Nat) (fv : Nat → Int32) (rv : Int32) (pv : Nat) (k15 : Nat) (hj15 : j1 ≤ 200) (hk15 : 200 < j1 + (k15 + 1)) (hpv : pv ≤ 32) (hav : av < 2 ^ 31) (hrq : ruQ fs g6 un a0 ((0, fk) : StM) (200 - j1) av ((pv, fv) : StM) rv) (c_1 : ¬ 200 ≤ nI j1) (n_10 : j1 < 200) (c_13 : nI un ≤ nI av) (n_14 : un ≤ av) (c_16 : ¬ rv = 0) : (0 : Int32) = runM fs g6 un 200 a0 ((0, fk) : StM) ∧ ((pv : Nat) ≤ 32) := by
  refine ⟨?_, by omega⟩
  first | contradiction | exact ruQ.e0 hrq (by assumption) | exact ruQ.e1 hrq (by assumption) (by omega) (by assumption) | exact ruQ.e2 hrq (by assumption) (by omega) (by assumption) | exact ruQ.e3 hrq (by assumption) (by assumption) (by assumption) (hst av (by omega)) (by assumption)
theorem lf_X9_run_t_23 (a : Nat → Nat) (t : Nat → Nat) (un : Nat) (k1 : Nat) (p1 : Nat) (rf : Int32) (fs : Nat → Int32) (fk : Nat → Int32) (g6 : Nat → Int32) (a0 : Nat) (hp : p1 ≤ 32) (hst : ∀ j, j < 200 → 0 ≤ fs j) (hun : un ≤ 200) (ha0 : a0 < 2 ^ 31) (j1 : Nat) (av : Nat) (fv : Nat → Int32) (rv : Int32) (pv : Nat) (k15 : Nat) (hj15 : j1 ≤ 200) (hk15 : 200 < j1 + (k15 + 1)) (hpv : pv ≤ 32) (hav : av < 2 ^ 31) (hrq : ruQ fs g6 un a0 ((0, fk) : StM) (200 - j1) av ((pv, fv) : StM) rv) (c_1 : ¬ 200 ≤ nI j1) (n_10 : j1 < 200) (c_13 : ¬ nI un ≤ nI av) : av < un := by
  exact Nat.lt_of_not_le (fun q => c_13 ((nI_leI (a := un) (b := av) (by omega) (by omega)).mpr q))
theorem lf_X9_run_t_26 (a : Nat → Nat) (t : Nat → Nat) (un : Nat) (k1 : Nat) (p1 : Nat) (rf : Int32) (fs : Nat → Int32) (fk : Nat → Int32) (g6 : Nat → Int32) (a0 : Nat) (hp : p1 ≤ 32) (hst : ∀ j, j < 200 → 0 ≤ fs j) (hun : un ≤ 200) (ha0 : a0 < 2 ^ 31) (j1 : Nat) (av : Nat) (fv : Nat → Int32) (rv : Int32) (pv : Nat) (k15 : Nat) (hj15 : j1 ≤ 200) (hk15 : 200 < j1 + (k15 + 1)) (hpv : pv ≤ 32) (hav : av < 2 ^ 31) (hrq : ruQ fs g6 un a0 ((0, fk) : StM) (200 - j1) av ((pv, fv) : StM) rv) (c_1 : ¬ 200 ≤ nI j1) (n_10 : j1 < 200) (c_13 : ¬ nI un ≤ nI av) (n_22 : av < un) (c_24 : ¬ rv = 0) (c_25 : rv = 0) : pv ≤ 32 := by
  first | assumption | omega | decide
theorem lf_X9_run_t_29 (a : Nat → Nat) (t : Nat → Nat) (un : Nat) (k1 : Nat) (p1 : Nat) (rf : Int32) (fs : Nat → Int32) (fk : Nat → Int32) (g6 : Nat → Int32) (a0 : Nat) (hp : p1 ≤ 32) (hst : ∀ j, j < 200 → 0 ≤ fs j) (hun : un ≤ 200) (ha0 : a0 < 2 ^ 31) (j1 : Nat) (av : Nat) (fv : Nat → Int32) (rv : Int32) (pv : Nat) (k15 : Nat) (hj15 : j1 ≤ 200) (hk15 : 200 < j1 + (k15 + 1)) (hpv : pv ≤ 32) (hav : av < 2 ^ 31) (hrq : ruQ fs g6 un a0 ((0, fk) : StM) (200 - j1) av ((pv, fv) : StM) rv) (c_1 : ¬ 200 ≤ nI j1) (n_10 : j1 < 200) (c_13 : ¬ nI un ≤ nI av) (n_22 : av < un) (c_24 : ¬ rv = 0) (c_25 : rv = 0) (p1_28 : Nat) (hz_28_0 : p1_28 ≤ 32) (hz_28_1 : ((p1_28, fv) : StM) = popS ((pv, fv) : StM)) (r_27 : Int32) (hpv28 : r_27 = popV ((pv, fv) : StM)) : (r_27 : Int32) = runM fs g6 un 200 a0 ((0, fk) : StM) ∧ ((p1_28 : Nat) ≤ 32) := by
  refine ⟨?_, by omega⟩
  first | contradiction | exact ruQ.e0 hrq (by assumption) | exact ruQ.e1 hrq (by assumption) (by omega) (by assumption) | exact ruQ.e2 hrq (by assumption) (by omega) (by assumption) | exact ruQ.e3 hrq (by assumption) (by assumption) (by assumption) (hst av (by omega)) (by assumption)
theorem lf_X9_run_t_30 (a : Nat → Nat) (t : Nat → Nat) (un : Nat) (k1 : Nat) (p1 : Nat) (rf : Int32) (fs : Nat → Int32) (fk : Nat → Int32) (g6 : Nat → Int32) (a0 : Nat) (hp : p1 ≤ 32) (hst : ∀ j, j < 200 → 0 ≤ fs j) (hun : un ≤ 200) (ha0 : a0 < 2 ^ 31) (j1 : Nat) (av : Nat) (fv : Nat → Int32) (rv : Int32) (pv : Nat) (k15 : Nat) (hj15 : j1 ≤ 200) (hk15 : 200 < j1 + (k15 + 1)) (hpv : pv ≤ 32) (hav : av < 2 ^ 31) (hrq : ruQ fs g6 un a0 ((0, fk) : StM) (200 - j1) av ((pv, fv) : StM) rv) (c_1 : ¬ 200 ≤ nI j1) (n_10 : j1 < 200) (c_13 : ¬ nI un ≤ nI av) (n_22 : av < un) (c_24 : ¬ rv = 0) (c_25 : ¬ rv = 0) : (0 : Int32) = runM fs g6 un 200 a0 ((0, fk) : StM) ∧ ((pv : Nat) ≤ 32) := by
  refine ⟨?_, by omega⟩
  first | contradiction | exact ruQ.e0 hrq (by assumption) | exact ruQ.e1 hrq (by assumption) (by omega) (by assumption) | exact ruQ.e2 hrq (by assumption) (by omega) (by assumption) | exact ruQ.e3 hrq (by assumption) (by assumption) (by assumption) (hst av (by omega)) (by assumption)
theorem lf_X9_run_t_31 (a : Nat → Nat) (t : Nat → Nat) (un : Nat) (k1 : Nat) (p1 : Nat) (rf : Int32) (fs : Nat → Int32) (fk : Nat → Int32) (g6 : Nat → Int32) (a0 : Nat) (hp : p1 ≤ 32) (hst : ∀ j, j < 200 → 0 ≤ fs j) (hun : un ≤ 200) (ha0 : a0 < 2 ^ 31) (j1 : Nat) (av : Nat) (fv : Nat → Int32) (rv : Int32) (pv : Nat) (k15 : Nat) (hj15 : j1 ≤ 200) (hk15 : 200 < j1 + (k15 + 1)) (hpv : pv ≤ 32) (hav : av < 2 ^ 31) (hrq : ruQ fs g6 un a0 ((0, fk) : StM) (200 - j1) av ((pv, fv) : StM) rv) (c_1 : ¬ 200 ≤ nI j1) (n_10 : j1 < 200) (c_13 : ¬ nI un ≤ nI av) (n_22 : av < un) (c_24 : rv = 0) : av < 200 := by
  omega
theorem lf_X9_run_t_34 (a : Nat → Nat) (t : Nat → Nat) (un : Nat) (k1 : Nat) (p1 : Nat) (rf : Int32) (fs : Nat → Int32) (fk : Nat → Int32) (g6 : Nat → Int32) (a0 : Nat) (hp : p1 ≤ 32) (hst : ∀ j, j < 200 → 0 ≤ fs j) (hun : un ≤ 200) (ha0 : a0 < 2 ^ 31) (j1 : Nat) (av : Nat) (fv : Nat → Int32) (rv : Int32) (pv : Nat) (k15 : Nat) (hj15 : j1 ≤ 200) (hk15 : 200 < j1 + (k15 + 1)) (hpv : pv ≤ 32) (hav : av < 2 ^ 31) (hrq : ruQ fs g6 un a0 ((0, fk) : StM) (200 - j1) av ((pv, fv) : StM) rv) (c_1 : ¬ 200 ≤ nI j1) (n_10 : j1 < 200) (c_13 : ¬ nI un ≤ nI av) (n_22 : av < un) (c_24 : rv = 0) (x_32 : Int32) (ex_32 : x_32 = fs av &&& 15) (c_33 : ¬ x_32 = 0) : pv ≤ 32 := by
  first | assumption | omega | decide
theorem lf_X9_run_t_35 (a : Nat → Nat) (t : Nat → Nat) (un : Nat) (k1 : Nat) (p1 : Nat) (rf : Int32) (fs : Nat → Int32) (fk : Nat → Int32) (g6 : Nat → Int32) (a0 : Nat) (hp : p1 ≤ 32) (hst : ∀ j, j < 200 → 0 ≤ fs j) (hun : un ≤ 200) (ha0 : a0 < 2 ^ 31) (j1 : Nat) (av : Nat) (fv : Nat → Int32) (rv : Int32) (pv : Nat) (k15 : Nat) (hj15 : j1 ≤ 200) (hk15 : 200 < j1 + (k15 + 1)) (hpv : pv ≤ 32) (hav : av < 2 ^ 31) (hrq : ruQ fs g6 un a0 ((0, fk) : StM) (200 - j1) av ((pv, fv) : StM) rv) (c_1 : ¬ 200 ≤ nI j1) (n_10 : j1 < 200) (c_13 : ¬ nI un ≤ nI av) (n_22 : av < un) (c_24 : rv = 0) (x_32 : Int32) (ex_32 : x_32 = fs av &&& 15) (c_33 : ¬ x_32 = 0) : ∀ j, j < 200 → 0 ≤ fs j := by
  first | assumption | omega | decide
theorem lf_X9_run_t_36 (a : Nat → Nat) (t : Nat → Nat) (un : Nat) (k1 : Nat) (p1 : Nat) (rf : Int32) (fs : Nat → Int32) (fk : Nat → Int32) (g6 : Nat → Int32) (a0 : Nat) (hp : p1 ≤ 32) (hst : ∀ j, j < 200 → 0 ≤ fs j) (hun : un ≤ 200) (ha0 : a0 < 2 ^ 31) (j1 : Nat) (av : Nat) (fv : Nat → Int32) (rv : Int32) (pv : Nat) (k15 : Nat) (hj15 : j1 ≤ 200) (hk15 : 200 < j1 + (k15 + 1)) (hpv : pv ≤ 32) (hav : av < 2 ^ 31) (hrq : ruQ fs g6 un a0 ((0, fk) : StM) (200 - j1) av ((pv, fv) : StM) rv) (c_1 : ¬ 200 ≤ nI j1) (n_10 : j1 < 200) (c_13 : ¬ nI un ≤ nI av) (n_22 : av < un) (c_24 : rv = 0) (x_32 : Int32) (ex_32 : x_32 = fs av &&& 15) (c_33 : ¬ x_32 = 0) : av < 200 := by
  first | assumption | omega | decide
theorem lf_X9_run_t_39 (a : Nat → Nat) (t : Nat → Nat) (un : Nat) (k1 : Nat) (p1 : Nat) (rf : Int32) (fs : Nat → Int32) (fk : Nat → Int32) (g6 : Nat → Int32) (a0 : Nat) (hp : p1 ≤ 32) (hst : ∀ j, j < 200 → 0 ≤ fs j) (hun : un ≤ 200) (ha0 : a0 < 2 ^ 31) (j1 : Nat) (av : Nat) (fv : Nat → Int32) (rv : Int32) (pv : Nat) (k15 : Nat) (hj15 : j1 ≤ 200) (hk15 : 200 < j1 + (k15 + 1)) (hpv : pv ≤ 32) (hav : av < 2 ^ 31) (hrq : ruQ fs g6 un a0 ((0, fk) : StM) (200 - j1) av ((pv, fv) : StM) rv) (c_1 : ¬ 200 ≤ nI j1) (n_10 : j1 < 200) (c_13 : ¬ nI un ≤ nI av) (n_22 : av < un) (c_24 : rv = 0) (x_32 : Int32) (ex_32 : x_32 = fs av &&& 15) (c_33 : ¬ x_32 = 0) (p1_38 : Nat) (rf_38 : Int32) (fk_38 : Nat → Int32) (hz_38_0 : p1_38 ≤ 32) (mm38 : Nat) (hmm38 : mm38 < 2 ^ 31) (hsmm38 : stQ fs g6 av ((pv, fv) : StM) rv mm38 ((p1_38, fk_38) : StM) rf_38) : p1_38 ≤ 32 := by
  first | assumption | omega | decide | rfl | exact ruQ.zz | exact ruQ.s hrq (by assumption) (by assumption) (by assumption) (by assumption) (hst av (by omega)) (by assumption) (by omega)
theorem lf_X9_run_t_40 (a : Nat → Nat) (t : Nat → Nat) (un : Nat) (k1 : Nat) (p1 : Nat) (rf : Int32) (fs : Nat → Int32) (fk : Nat → Int32) (g6 : Nat → Int32) (a0 : Nat) (hp : p1 ≤ 32) (hst : ∀ j, j < 200 → 0 ≤ fs j) (hun : un ≤ 200) (ha0 : a0 < 2 ^ 31) (j1 : Nat) (av : Nat) (fv : Nat → Int32) (rv : Int32) (pv : Nat) (k15 : Nat) (hj15 : j1 ≤ 200) (hk15 : 200 < j1 + (k15 + 1)) (hpv : pv ≤ 32) (hav : av < 2 ^ 31) (hrq : ruQ fs g6 un a0 ((0, fk) : StM) (200 - j1) av ((pv, fv) : StM) rv) (c_1 : ¬ 200 ≤ nI j1) (n_10 : j1 < 200) (c_13 : ¬ nI un ≤ nI av) (n_22 : av < un) (c_24 : rv = 0) (x_32 : Int32) (ex_32 : x_32 = fs av &&& 15) (c_33 : ¬ x_32 = 0) (p1_38 : Nat) (rf_38 : Int32) (fk_38 : Nat → Int32) (hz_38_0 : p1_38 ≤ 32) (mm38 : Nat) (hmm38 : mm38 < 2 ^ 31) (hsmm38 : stQ fs g6 av ((pv, fv) : StM) rv mm38 ((p1_38, fk_38) : StM) rf_38) : mm38 < 2 ^ 31 := by
  first | assumption | omega | decide | rfl | exact ruQ.zz | exact ruQ.s hrq (by assumption) (by assumption) (by assumption) (by assumption) (hst av (by omega)) (by assumption) (by omega)
theorem lf_X9_run_t_41 (a : Nat → Nat) (t : Nat → Nat) (un : Nat) (k1 : Nat) (p1 : Nat) (rf : Int32) (fs : Nat → Int32) (fk : Nat → Int32) (g6 : Nat → Int32) (a0 : Nat) (hp : p1 ≤ 32) (hst : ∀ j, j < 200 → 0 ≤ fs j) (hun : un ≤ 200) (ha0 : a0 < 2 ^ 31) (j1 : Nat) (av : Nat) (fv : Nat → Int32) (rv : Int32) (pv : Nat) (k15 : Nat) (hj15 : j1 ≤ 200) (hk15 : 200 < j1 + (k15 + 1)) (hpv : pv ≤ 32) (hav : av < 2 ^ 31) (hrq : ruQ fs g6 un a0 ((0, fk) : StM) (200 - j1) av ((pv, fv) : StM) rv) (c_1 : ¬ 200 ≤ nI j1) (n_10 : j1 < 200) (c_13 : ¬ nI un ≤ nI av) (n_22 : av < un) (c_24 : rv = 0) (x_32 : Int32) (ex_32 : x_32 = fs av &&& 15) (c_33 : ¬ x_32 = 0) (p1_38 : Nat) (rf_38 : Int32) (fk_38 : Nat → Int32) (hz_38_0 : p1_38 ≤ 32) (mm38 : Nat) (hmm38 : mm38 < 2 ^ 31) (hsmm38 : stQ fs g6 av ((pv, fv) : StM) rv mm38 ((p1_38, fk_38) : StM) rf_38) : ruQ fs g6 un a0 ((0, fk) : StM) (200 - (j1 + 1)) mm38 ((p1_38, fk_38) : StM) rf_38 := by
  first | assumption | omega | decide | rfl | exact ruQ.zz | exact ruQ.s hrq (by assumption) (by assumption) (by assumption) (by assumption) (hst av (by omega)) (by assumption) (by omega)
theorem lf_X9_run_t_43 (a : Nat → Nat) (t : Nat → Nat) (un : Nat) (k1 : Nat) (p1 : Nat) (rf : Int32) (fs : Nat → Int32) (fk : Nat → Int32) (g6 : Nat → Int32) (a0 : Nat) (hp : p1 ≤ 32) (hst : ∀ j, j < 200 → 0 ≤ fs j) (hun : un ≤ 200) (ha0 : a0 < 2 ^ 31) (j1 : Nat) (av : Nat) (fv : Nat → Int32) (rv : Int32) (pv : Nat) (k15 : Nat) (hj15 : j1 ≤ 200) (hk15 : 200 < j1 + (k15 + 1)) (hpv : pv ≤ 32) (hav : av < 2 ^ 31) (hrq : ruQ fs g6 un a0 ((0, fk) : StM) (200 - j1) av ((pv, fv) : StM) rv) (c_1 : ¬ 200 ≤ nI j1) (n_10 : j1 < 200) (c_13 : ¬ nI un ≤ nI av) (n_22 : av < un) (c_24 : rv = 0) (x_32 : Int32) (ex_32 : x_32 = fs av &&& 15) (c_33 : x_32 = 0) (c_42 : rv = 0) : pv ≤ 32 := by
  first | assumption | omega | decide
theorem lf_X9_run_t_46 (a : Nat → Nat) (t : Nat → Nat) (un : Nat) (k1 : Nat) (p1 : Nat) (rf : Int32) (fs : Nat → Int32) (fk : Nat → Int32) (g6 : Nat → Int32) (a0 : Nat) (hp : p1 ≤ 32) (hst : ∀ j, j < 200 → 0 ≤ fs j) (hun : un ≤ 200) (ha0 : a0 < 2 ^ 31) (j1 : Nat) (av : Nat) (fv : Nat → Int32) (rv : Int32) (pv : Nat) (k15 : Nat) (hj15 : j1 ≤ 200) (hk15 : 200 < j1 + (k15 + 1)) (hpv : pv ≤ 32) (hav : av < 2 ^ 31) (hrq : ruQ fs g6 un a0 ((0, fk) : StM) (200 - j1) av ((pv, fv) : StM) rv) (c_1 : ¬ 200 ≤ nI j1) (n_10 : j1 < 200) (c_13 : ¬ nI un ≤ nI av) (n_22 : av < un) (c_24 : rv = 0) (x_32 : Int32) (ex_32 : x_32 = fs av &&& 15) (c_33 : x_32 = 0) (c_42 : rv = 0) (p1_45 : Nat) (hz_45_0 : p1_45 ≤ 32) (hz_45_1 : ((p1_45, fv) : StM) = popS ((pv, fv) : StM)) (r_44 : Int32) (hpv45 : r_44 = popV ((pv, fv) : StM)) : (r_44 : Int32) = runM fs g6 un 200 a0 ((0, fk) : StM) ∧ ((p1_45 : Nat) ≤ 32) := by
  refine ⟨?_, by omega⟩
  first | contradiction | exact ruQ.e0 hrq (by assumption) | exact ruQ.e1 hrq (by assumption) (by omega) (by assumption) | exact ruQ.e2 hrq (by assumption) (by omega) (by assumption) | exact ruQ.e3 hrq (by assumption) (by assumption) (by assumption) (hst av (by omega)) (by assumption)
theorem lf_X9_run_t_47 (a : Nat → Nat) (t : Nat → Nat) (un : Nat) (k1 : Nat) (p1 : Nat) (rf : Int32) (fs : Nat → Int32) (fk : Nat → Int32) (g6 : Nat → Int32) (a0 : Nat) (hp : p1 ≤ 32) (hst : ∀ j, j < 200 → 0 ≤ fs j) (hun : un ≤ 200) (ha0 : a0 < 2 ^ 31) (j1 : Nat) (av : Nat) (fv : Nat → Int32) (rv : Int32) (pv : Nat) (k15 : Nat) (hj15 : j1 ≤ 200) (hk15 : 200 < j1 + (k15 + 1)) (hpv : pv ≤ 32) (hav : av < 2 ^ 31) (hrq : ruQ fs g6 un a0 ((0, fk) : StM) (200 - j1) av ((pv, fv) : StM) rv) (c_1 : ¬ 200 ≤ nI j1) (n_10 : j1 < 200) (c_13 : ¬ nI un ≤ nI av) (n_22 : av < un) (c_24 : rv = 0) (x_32 : Int32) (ex_32 : x_32 = fs av &&& 15) (c_33 : x_32 = 0) (c_42 : ¬ rv = 0) : (0 : Int32) = runM fs g6 un 200 a0 ((0, fk) : StM) ∧ ((pv : Nat) ≤ 32) := by
  refine ⟨?_, by omega⟩
  first | contradiction | exact ruQ.e0 hrq (by assumption) | exact ruQ.e1 hrq (by assumption) (by omega) (by assumption) | exact ruQ.e2 hrq (by assumption) (by omega) (by assumption) | exact ruQ.e3 hrq (by assumption) (by assumption) (by assumption) (hst av (by omega)) (by assumption)
theorem lf_X9_run_t_48 (a : Nat → Nat) (t : Nat → Nat) (un : Nat) (k1 : Nat) (p1 : Nat) (rf : Int32) (fs : Nat → Int32) (fk : Nat → Int32) (g6 : Nat → Int32) (a0 : Nat) (hp : p1 ≤ 32) (hst : ∀ j, j < 200 → 0 ≤ fs j) (hun : un ≤ 200) (ha0 : a0 < 2 ^ 31) : 0 ≤ 32 := by
  first | assumption | omega | decide | rfl | exact ruQ.zz | exact ruQ.s hrq (by assumption) (by assumption) (by assumption) (by assumption) (hst av (by omega)) (by assumption) (by omega)
theorem lf_X9_run_t_49 (a : Nat → Nat) (t : Nat → Nat) (un : Nat) (k1 : Nat) (p1 : Nat) (rf : Int32) (fs : Nat → Int32) (fk : Nat → Int32) (g6 : Nat → Int32) (a0 : Nat) (hp : p1 ≤ 32) (hst : ∀ j, j < 200 → 0 ≤ fs j) (hun : un ≤ 200) (ha0 : a0 < 2 ^ 31) : a0 < 2 ^ 31 := by
  first | assumption | omega | decide | rfl | exact ruQ.zz | exact ruQ.s hrq (by assumption) (by assumption) (by assumption) (by assumption) (hst av (by omega)) (by assumption) (by omega)
theorem lf_X9_run_t_50 (a : Nat → Nat) (t : Nat → Nat) (un : Nat) (k1 : Nat) (p1 : Nat) (rf : Int32) (fs : Nat → Int32) (fk : Nat → Int32) (g6 : Nat → Int32) (a0 : Nat) (hp : p1 ≤ 32) (hst : ∀ j, j < 200 → 0 ≤ fs j) (hun : un ≤ 200) (ha0 : a0 < 2 ^ 31) : ruQ fs g6 un a0 ((0, fk) : StM) (200 - 0) a0 ((0, fk) : StM) (0 : Int32) := by
  first | assumption | omega | decide | rfl | exact ruQ.zz | exact ruQ.s hrq (by assumption) (by assumption) (by assumption) (by assumption) (hst av (by omega)) (by assumption) (by omega)
set_option maxHeartbeats 4000000 in
set_option maxRecDepth 100000 in
theorem c_X9_run_t (l : Launch) (D : va_G) (cI cB cZ cJ : ClassId) (tx : List (ClassId × FieldType)) (a : Nat → Nat) (t : Nat → Nat) (un : Nat) (k1 : Nat) (p1 : Nat) (rf : Int32) (fs : Nat → Int32) (fk : Nat → Int32) (g6 : Nat → Int32) (a0 : Nat) (hp : p1 ≤ 32) (hst : ∀ j, j < 200 → 0 ≤ fs j) (hun : un ≤ 200) (ha0 : a0 < 2 ^ 31) : WrI l D cI cB cZ cJ tx yX9_run cX9_run 5 (some .int) 2 0 0 [.ref (t 0), .int (nI a0), .ref (a 24)] [(t 0, .inr (9, [.ref (t 1), .ref (t 2), .ref (t 3), .ref (t 4), .ref (t 5), .int (nI un), .int (nI k1), .int (nI p1), .int rf])), (t 1, .inl (cI, 200, .inl fs)), (t 2, .inl (cI, 32, .inl fk)), (a 24, .inl (cI, 26, .inl g6))] (fun (r : Int32) (v : (Nat) × (Int32) × (Nat → Int32)) => r = runM fs g6 un 200 a0 ((0, fk) : StM) ∧ (v.1 ≤ 32)) (fun v => [(t 0, .inr (9, [.ref (t 1), .ref (t 2), .ref (t 3), .ref (t 4), .ref (t 5), .int (nI un), .int (nI k1), .int (nI (v.1)), .int v.2.1])), (t 1, .inl (cI, 200, .inl fs)), (t 2, .inl (cI, 32, .inl v.2.2)), (a 24, .inl (cI, 26, .inl g6))]) := by
  refine wri_of2 (by decide) (Nat.le_of_ble_eq_true rfl) ?_
  intro p e s m below meth c A ls H locs hC hK hP hD hA hS hl
  obtain ⟨hx, hb, hr, hml, hown, hts, hlocks, hin⟩ := hC
  have hown : s.vm.findClass RX9 = some m.cls := hown
  have hl : lv_has ls 5 [(0, .ref (t 0)), (1, .int (nI a0)), (2, .ref (a 24))] := hl
  refine W_gQ (fun Q hQ => ?_)
  refine lv_aload_n hx hb dX9_run_0 rfl (lv_at hl 0 rfl) ?_
  refine lv_iconst (v := 0) hx hb dX9_run_1 (by decide) ?_
  refine va_put (D := D) (ci := 9) (v := .int 0) (ty := .boolean) (C := RX9) (T := TX9) (N := 9) hx hb hts inT_X9 tyX9 tyX9_ok nmX9 hown hK.1 hP hD hS 0 rfl rfl 8 (by decide) (hts _ k_204) (fun _ h9 => h9) rfl (by decide +kernel) rfl rfl (Nat.le_of_ble_eq_true rfl) dX9_run_2 (fun H locs hP hD hS => ?_)
  have hPD := pd_mk (ws := [(t 0, .inr (9, [.ref (t 1), .ref (t 2), .ref (t 3), .ref (t 4), .ref (t 5), .int (nI un), .int (nI k1), .int (nI p1), .int 0])), (t 1, .inl (cI, 200, .inl fs)), (t 2, .inl (cI, 32, .inl fk)), (a 24, .inl (cI, 26, .inl g6))]) hP hD
  have hP := hPD.1
  have hD := hPD.2
  refine lv_aload_n hx hb dX9_run_5 rfl (lv_at hl 0 rfl) ?_
  refine lv_iconst (v := 0) hx hb dX9_run_6 (by decide) ?_
  refine va_put (D := D) (ci := 9) (v := .int 0) (ty := .int) (C := RX9) (T := TX9) (N := 9) hx hb hts inT_X9 tyX9 tyX9_ok nmX9 hown hK.1 hP hD hS 0 rfl rfl 7 (by decide) (hts _ k_203) (fun _ h9 => h9) rfl (by decide +kernel) rfl rfl (Nat.le_of_ble_eq_true rfl) dX9_run_7 (fun H locs hP hD hS => ?_)
  have hPD := pd_mk (ws := [(t 0, .inr (9, [.ref (t 1), .ref (t 2), .ref (t 3), .ref (t 4), .ref (t 5), .int (nI un), .int (nI k1), .int 0, .int 0])), (t 1, .inl (cI, 200, .inl fs)), (t 2, .inl (cI, 32, .inl fk)), (a 24, .inl (cI, 26, .inl g6))]) hP hD
  have hP := hPD.1
  have hD := hPD.2
  refine lv_iload_n hx hb dX9_run_10 rfl (lv_at hl 1 rfl) ?_
  refine lv_istore_n (lv' := [(3, .int (nI a0)), (0, .ref (t 0)), (1, .int (nI a0)), (2, .ref (a 24))]) hx hb dX9_run_11 rfl hl (by decide) rfl (fun ls hl => ?_)
  refine lv_iconst (v := 0) hx hb dX9_run_12 (by decide) ?_
  refine lv_istore (lv' := [(4, .int 0), (3, .int (nI a0)), (0, .ref (t 0)), (1, .int (nI a0)), (2, .ref (a 24))]) hx hb dX9_run_13 hl (by decide) rfl (fun ls hl => ?_)
  have lp15 : ∀ (k15 : Nat) (j1 : Nat) (av : Nat) (fv : Nat → Int32) (rv : Int32) (pv : Nat) (H : Heap) (locs : List Loc) (ls : Array Slot), j1 ≤ 200 → 200 < j1 + k15 → (pv ≤ 32) → (av < 2 ^ 31) → (ruQ fs g6 un a0 ((0, fk) : StM) (200 - j1) av ((pv, fv) : StM) rv) → va_P D vwCl [(t 0, .inr (9, [.ref (t 1), .ref (t 2), .ref (t 3), .ref (t 4), .ref (t 5), .int (nI un), .int (nI k1), .int (nI pv), .int rv])), (t 1, .inl (cI, 200, .inl fs)), (t 2, .inl (cI, 32, .inl fv)), (a 24, .inl (cI, 26, .inl g6))] H → va_D A [(t 0, .inr (9, [.ref (t 1), .ref (t 2), .ref (t 3), .ref (t 4), .ref (t 5), .int (nI un), .int (nI k1), .int (nI pv), .int rv])), (t 1, .inl (cI, 200, .inl fs)), (t 2, .inl (cI, 32, .inl fv)), (a 24, .inl (cI, 26, .inl g6))] → va_S A s.heap H locs → lv_has ls 5 [(4, .int (nI j1)), (3, .int (nI av)), (0, .ref (t 0)), (1, .int (nI a0)), (2, .ref (a 24))] → W p l e (rmX 2 0 0) s m ([.ref (t 0), .int (nI a0), .ref (a 24)] : List Value).toArray below meth c H locs 0 0 Q (F0 m 15 ls []) := by
    intro k15
    induction k15 with
    | zero =>
      intro j1 av fv rv pv H locs ls hj15 hk15 hpv hav hrq hP hD hS hl
      exact absurd hk15 (by omega)
    | succ k15 ih15 =>
      intro j1 av fv rv pv H locs ls hj15 hk15 hpv hav hrq hP hD hS hl
      refine lv_iload hx hb dX9_run_15 (lv_at hl 0 rfl) ?_
      refine lv_aload_n hx hb dX9_run_17 rfl (lv_at hl 2 rfl) ?_
      refine va_get (D := D) (ci := 9) (v := .ref (t 1)) (C := RX9) (T := TX9) (N := 9) hx hb hts inT_X9 hown hK.1 hP 0 rfl rfl 0 (by decide) (hts _ k_194) (fun _ h9 => h9) rfl dX9_run_18 ?_
      refine ln_x (v := 200) hx hb hK hP 1 0 rfl rfl (show Int32.ofNat 200 = 200 from by decide) dX9_run_21 ?_
      refine lv_icmp_ge (tgt := 72) hx hb dX9_run_22 (by decide) (fun c_1 => ?_) (fun c_1 => ?_)
      · have n_2 : 200 ≤ j1 := (lf_X9_run_t_3 a t un k1 p1 rf fs fk g6 a0 hp hst hun ha0 j1 av fv rv pv k15 hj15 hk15 hpv hav hrq c_1)
        refine lv_aload_n hx hb dX9_run_72 rfl (lv_at hl 2 rfl) ?_
        refine va_get (D := D) (ci := 9) (v := .int rv) (C := RX9) (T := TX9) (N := 9) hx hb hts inT_X9 hown hK.1 hP 0 rfl rfl 8 (by decide) (hts _ k_204) (fun _ h9 => h9) rfl dX9_run_73 ?_
        refine lv_if_eq (tgt := 83) hx hb dX9_run_76 (by decide) (fun c_4 => ?_) (fun c_4 => ?_)
        · refine lv_aload_n hx hb dX9_run_83 rfl (lv_at hl 2 rfl) ?_
          refine eWiP (va_runV (As := []) (rest := []) ⟨hx, hb, hml, hown, hts⟩ (c_X9_pop_t l D cI cB cZ cJ tx t un k1 pv rv fv (lf_X9_run_t_5 a t un k1 p1 rf fs fk g6 a0 hp hst hun ha0 j1 av fv rv pv k15 hj15 hk15 hpv hav hrq c_1 n_2 c_4) H.size) (zV hts k_799 v_X9_pop ⟨Nat.le_of_ble_eq_true rfl, Nat.le_of_ble_eq_true rfl⟩) (pV (pxS hK hP hD [0, 2] (by decide) rfl) hK hP 0 rfl rfl) rfl rfl hl.1 rfl (lv_room (Nat.le_of_ble_eq_true rfl)) dX9_run_84 ⟨Nat.le_of_ble_eq_true rfl, Nat.le_of_ble_eq_true rfl⟩) hP hD hS hA [0, 2] [some 0, none, some 1, none] rfl (by decide +kernel) (fun _ => rfl) (fun r_6 u_7 H locs wr_6 hP hD hS => ?_)
          obtain ⟨p1_7, rfl⟩ : ∃ z, z = u_7 := ⟨_, rfl⟩
          have hz_7_0 : p1_7 ≤ 32 := wr_6.2.1
          have hz_7_1 : ((p1_7, fv) : StM) = popS ((pv, fv) : StM) := wr_6.2.2
          have hPD := pd_mk (ws := [(t 0, .inr (9, [.ref (t 1), .ref (t 2), .ref (t 3), .ref (t 4), .ref (t 5), .int (nI un), .int (nI k1), .int (nI p1_7), .int rv])), (t 1, .inl (cI, 200, .inl fs)), (t 2, .inl (cI, 32, .inl fv)), (a 24, .inl (cI, 26, .inl g6))]) hP hD
          have hP := hPD.1
          have hD := hPD.2
          rcases wr_6 with ⟨hpv7, _⟩
          · rw [hQ]
            exact W.iret (v := r_6) hx hb hr (fun tt9 ht hW => ⟨⟨(r_6 : Int32), ((p1_7 : Nat), (rv : Int32), (fv : Nat → Int32)), rfl, (lf_X9_run_t_8 a t un k1 p1 rf fs fk g6 a0 hp hst hun ha0 j1 av fv rv pv k15 hj15 hk15 hpv hav hrq c_1 n_2 c_4 p1_7 hz_7_0 hz_7_1 r_6 hpv7), ⟨by rw [ht]; exact hP, hD⟩⟩, hS.F ht⟩) hS.2.2 dX9_run_87 hlocks
        · refine lv_iconst (v := 0) hx hb dX9_run_79 (by decide) ?_
          refine lv_goto (tgt := 87) hx hb dX9_run_80 (by decide) ?_
          rw [hQ]
          exact W.iret (v := 0) hx hb hr (fun tt9 ht hW => ⟨⟨(0 : Int32), ((pv : Nat), (rv : Int32), (fv : Nat → Int32)), rfl, (lf_X9_run_t_9 a t un k1 p1 rf fs fk g6 a0 hp hst hun ha0 j1 av fv rv pv k15 hj15 hk15 hpv hav hrq c_1 n_2 c_4), ⟨by rw [ht]; exact hP, hD⟩⟩, hS.F ht⟩) hS.2.2 dX9_run_87 hlocks
      · have n_10 : j1 < 200 := (lf_X9_run_t_11 a t un k1 p1 rf fs fk g6 a0 hp hst hun ha0 j1 av fv rv pv k15 hj15 hk15 hpv hav hrq c_1)
        refine lv_iload_n hx hb dX9_run_25 rfl (lv_at hl 1 rfl) ?_
        refine lv_if_lt (tgt := 72) hx hb dX9_run_26 (by decide) (fun c => absurd c (lf_X9_run_t_12 a t un k1 p1 rf fs fk g6 a0 hp hst hun ha0 j1 av fv rv pv k15 hj15 hk15 hpv hav hrq c_1 n_10)) (fun _ => ?_)
        refine lv_iload_n hx hb dX9_run_29 rfl (lv_at hl 1 rfl) ?_
        refine lv_aload_n hx hb dX9_run_30 rfl (lv_at hl 2 rfl) ?_
        refine va_get (D := D) (ci := 9) (v := .int (nI un)) (C := RX9) (T := TX9) (N := 9) hx hb hts inT_X9 hown hK.1 hP 0 rfl rfl 5 (by decide) (hts _ k_199) (fun _ h9 => h9) rfl dX9_run_31 ?_
        refine lv_icmp_ge (tgt := 72) hx hb dX9_run_34 (by decide) (fun c_13 => ?_) (fun c_13 => ?_)
        · have n_14 : un ≤ av := (lf_X9_run_t_15 a t un k1 p1 rf fs fk g6 a0 hp hst hun ha0 j1 av fv rv pv k15 hj15 hk15 hpv hav hrq c_1 n_10 c_13)
          refine lv_aload_n hx hb dX9_run_72 rfl (lv_at hl 2 rfl) ?_
          refine va_get (D := D) (ci := 9) (v := .int rv) (C := RX9) (T := TX9) (N := 9) hx hb hts inT_X9 hown hK.1 hP 0 rfl rfl 8 (by decide) (hts _ k_204) (fun _ h9 => h9) rfl dX9_run_73 ?_
          refine lv_if_eq (tgt := 83) hx hb dX9_run_76 (by decide) (fun c_16 => ?_) (fun c_16 => ?_)
          · refine lv_aload_n hx hb dX9_run_83 rfl (lv_at hl 2 rfl) ?_
            refine eWiP (va_runV (As := []) (rest := []) ⟨hx, hb, hml, hown, hts⟩ (c_X9_pop_t l D cI cB cZ cJ tx t un k1 pv rv fv (lf_X9_run_t_17 a t un k1 p1 rf fs fk g6 a0 hp hst hun ha0 j1 av fv rv pv k15 hj15 hk15 hpv hav hrq c_1 n_10 c_13 n_14 c_16) H.size) (zV hts k_799 v_X9_pop ⟨Nat.le_of_ble_eq_true rfl, Nat.le_of_ble_eq_true rfl⟩) (pV (pxS hK hP hD [0, 2] (by decide) rfl) hK hP 0 rfl rfl) rfl rfl hl.1 rfl (lv_room (Nat.le_of_ble_eq_true rfl)) dX9_run_84 ⟨Nat.le_of_ble_eq_true rfl, Nat.le_of_ble_eq_true rfl⟩) hP hD hS hA [0, 2] [some 0, none, some 1, none] rfl (by decide +kernel) (fun _ => rfl) (fun r_18 u_19 H locs wr_18 hP hD hS => ?_)
            obtain ⟨p1_19, rfl⟩ : ∃ z, z = u_19 := ⟨_, rfl⟩
            have hz_19_0 : p1_19 ≤ 32 := wr_18.2.1
            have hz_19_1 : ((p1_19, fv) : StM) = popS ((pv, fv) : StM) := wr_18.2.2
            have hPD := pd_mk (ws := [(t 0, .inr (9, [.ref (t 1), .ref (t 2), .ref (t 3), .ref (t 4), .ref (t 5), .int (nI un), .int (nI k1), .int (nI p1_19), .int rv])), (t 1, .inl (cI, 200, .inl fs)), (t 2, .inl (cI, 32, .inl fv)), (a 24, .inl (cI, 26, .inl g6))]) hP hD
            have hP := hPD.1
            have hD := hPD.2
            rcases wr_18 with ⟨hpv19, _⟩
            · rw [hQ]
              exact W.iret (v := r_18) hx hb hr (fun tt9 ht hW => ⟨⟨(r_18 : Int32), ((p1_19 : Nat), (rv : Int32), (fv : Nat → Int32)), rfl, (lf_X9_run_t_20 a t un k1 p1 rf fs fk g6 a0 hp hst hun ha0 j1 av fv rv pv k15 hj15 hk15 hpv hav hrq c_1 n_10 c_13 n_14 c_16 p1_19 hz_19_0 hz_19_1 r_18 hpv19), ⟨by rw [ht]; exact hP, hD⟩⟩, hS.F ht⟩) hS.2.2 dX9_run_87 hlocks
          · refine lv_iconst (v := 0) hx hb dX9_run_79 (by decide) ?_
            refine lv_goto (tgt := 87) hx hb dX9_run_80 (by decide) ?_
            rw [hQ]
            exact W.iret (v := 0) hx hb hr (fun tt9 ht hW => ⟨⟨(0 : Int32), ((pv : Nat), (rv : Int32), (fv : Nat → Int32)), rfl, (lf_X9_run_t_21 a t un k1 p1 rf fs fk g6 a0 hp hst hun ha0 j1 av fv rv pv k15 hj15 hk15 hpv hav hrq c_1 n_10 c_13 n_14 c_16), ⟨by rw [ht]; exact hP, hD⟩⟩, hS.F ht⟩) hS.2.2 dX9_run_87 hlocks
        · have n_22 : av < un := (lf_X9_run_t_23 a t un k1 p1 rf fs fk g6 a0 hp hst hun ha0 j1 av fv rv pv k15 hj15 hk15 hpv hav hrq c_1 n_10 c_13)
          refine lv_aload_n hx hb dX9_run_37 rfl (lv_at hl 2 rfl) ?_
          refine va_get (D := D) (ci := 9) (v := .int rv) (C := RX9) (T := TX9) (N := 9) hx hb hts inT_X9 hown hK.1 hP 0 rfl rfl 8 (by decide) (hts _ k_204) (fun _ h9 => h9) rfl dX9_run_38 ?_
          refine lv_if_ne (tgt := 72) hx hb dX9_run_41 (by decide) (fun c_24 => ?_) (fun c_24 => ?_)
          · refine lv_aload_n hx hb dX9_run_72 rfl (lv_at hl 2 rfl) ?_
            refine va_get (D := D) (ci := 9) (v := .int rv) (C := RX9) (T := TX9) (N := 9) hx hb hts inT_X9 hown hK.1 hP 0 rfl rfl 8 (by decide) (hts _ k_204) (fun _ h9 => h9) rfl dX9_run_73 ?_
            refine lv_if_eq (tgt := 83) hx hb dX9_run_76 (by decide) (fun c_25 => ?_) (fun c_25 => ?_)
            · refine lv_aload_n hx hb dX9_run_83 rfl (lv_at hl 2 rfl) ?_
              refine eWiP (va_runV (As := []) (rest := []) ⟨hx, hb, hml, hown, hts⟩ (c_X9_pop_t l D cI cB cZ cJ tx t un k1 pv rv fv (lf_X9_run_t_26 a t un k1 p1 rf fs fk g6 a0 hp hst hun ha0 j1 av fv rv pv k15 hj15 hk15 hpv hav hrq c_1 n_10 c_13 n_22 c_24 c_25) H.size) (zV hts k_799 v_X9_pop ⟨Nat.le_of_ble_eq_true rfl, Nat.le_of_ble_eq_true rfl⟩) (pV (pxS hK hP hD [0, 2] (by decide) rfl) hK hP 0 rfl rfl) rfl rfl hl.1 rfl (lv_room (Nat.le_of_ble_eq_true rfl)) dX9_run_84 ⟨Nat.le_of_ble_eq_true rfl, Nat.le_of_ble_eq_true rfl⟩) hP hD hS hA [0, 2] [some 0, none, some 1, none] rfl (by decide +kernel) (fun _ => rfl) (fun r_27 u_28 H locs wr_27 hP hD hS => ?_)
              obtain ⟨p1_28, rfl⟩ : ∃ z, z = u_28 := ⟨_, rfl⟩
              have hz_28_0 : p1_28 ≤ 32 := wr_27.2.1
              have hz_28_1 : ((p1_28, fv) : StM) = popS ((pv, fv) : StM) := wr_27.2.2
              have hPD := pd_mk (ws := [(t 0, .inr (9, [.ref (t 1), .ref (t 2), .ref (t 3), .ref (t 4), .ref (t 5), .int (nI un), .int (nI k1), .int (nI p1_28), .int rv])), (t 1, .inl (cI, 200, .inl fs)), (t 2, .inl (cI, 32, .inl fv)), (a 24, .inl (cI, 26, .inl g6))]) hP hD
              have hP := hPD.1
              have hD := hPD.2
              rcases wr_27 with ⟨hpv28, _⟩
              · rw [hQ]
                exact W.iret (v := r_27) hx hb hr (fun tt9 ht hW => ⟨⟨(r_27 : Int32), ((p1_28 : Nat), (rv : Int32), (fv : Nat → Int32)), rfl, (lf_X9_run_t_29 a t un k1 p1 rf fs fk g6 a0 hp hst hun ha0 j1 av fv rv pv k15 hj15 hk15 hpv hav hrq c_1 n_10 c_13 n_22 c_24 c_25 p1_28 hz_28_0 hz_28_1 r_27 hpv28), ⟨by rw [ht]; exact hP, hD⟩⟩, hS.F ht⟩) hS.2.2 dX9_run_87 hlocks
            · refine lv_iconst (v := 0) hx hb dX9_run_79 (by decide) ?_
              refine lv_goto (tgt := 87) hx hb dX9_run_80 (by decide) ?_
              rw [hQ]
              exact W.iret (v := 0) hx hb hr (fun tt9 ht hW => ⟨⟨(0 : Int32), ((pv : Nat), (rv : Int32), (fv : Nat → Int32)), rfl, (lf_X9_run_t_30 a t un k1 p1 rf fs fk g6 a0 hp hst hun ha0 j1 av fv rv pv k15 hj15 hk15 hpv hav hrq c_1 n_10 c_13 n_22 c_24 c_25), ⟨by rw [ht]; exact hP, hD⟩⟩, hS.F ht⟩) hS.2.2 dX9_run_87 hlocks
          · refine lv_aload_n hx hb dX9_run_44 rfl (lv_at hl 2 rfl) ?_
            refine va_get (D := D) (ci := 9) (v := .ref (t 1)) (C := RX9) (T := TX9) (N := 9) hx hb hts inT_X9 hown hK.1 hP 0 rfl rfl 0 (by decide) (hts _ k_194) (fun _ h9 => h9) rfl dX9_run_45 ?_
            refine lv_iload_n hx hb dX9_run_48 rfl (lv_at hl 1 rfl) ?_
            refine lt_i (j := av) hx hb hK hP 1 rfl (lf_X9_run_t_31 a t un k1 p1 rf fs fk g6 a0 hp hst hun ha0 j1 av fv rv pv k15 hj15 hk15 hpv hav hrq c_1 n_10 c_13 n_22 c_24) (by decide) dX9_run_49 ?_
            refine lv_bipush (v := 15) hx hb dX9_run_50 (by decide) ?_
            refine lv_iand hx hb dX9_run_52 ?_
            refine lv_topi (fun x_32 ex_32 => ?_)
            refine lv_if_ne (tgt := 59) hx hb dX9_run_53 (by decide) (fun c_33 => ?_) (fun c_33 => ?_)
            · refine lv_aload_n hx hb dX9_run_59 rfl (lv_at hl 2 rfl) ?_
              refine lv_iload_n hx hb dX9_run_60 rfl (lv_at hl 1 rfl) ?_
              refine lv_aload_n hx hb dX9_run_61 rfl (lv_at hl 4 rfl) ?_
              refine eWiP (va_runV (As := [.int (nI av), .ref (a 24)]) (rest := []) ⟨hx, hb, hml, hown, hts⟩ (c_X9_stepOn_t l D cI cB cZ cJ tx a t un k1 pv rv fs fv g6 av (lf_X9_run_t_34 a t un k1 p1 rf fs fk g6 a0 hp hst hun ha0 j1 av fv rv pv k15 hj15 hk15 hpv hav hrq c_1 n_10 c_13 n_22 c_24 x_32 ex_32 c_33) (lf_X9_run_t_35 a t un k1 p1 rf fs fk g6 a0 hp hst hun ha0 j1 av fv rv pv k15 hj15 hk15 hpv hav hrq c_1 n_10 c_13 n_22 c_24 x_32 ex_32 c_33) (lf_X9_run_t_36 a t un k1 p1 rf fs fk g6 a0 hp hst hun ha0 j1 av fv rv pv k15 hj15 hk15 hpv hav hrq c_1 n_10 c_13 n_22 c_24 x_32 ex_32 c_33) H.size) (zV hts k_791 v_X9_stepOn ⟨Nat.le_of_ble_eq_true rfl, Nat.le_of_ble_eq_true rfl⟩) (pV (pxS hK hP hD [0, 1, 2, 3] (by decide) rfl) hK hP 0 rfl rfl) rfl rfl hl.1 rfl (lv_room (Nat.le_of_ble_eq_true rfl)) dX9_run_62 ⟨Nat.le_of_ble_eq_true rfl, Nat.le_of_ble_eq_true rfl⟩) hP hD hS hA [0, 1, 2, 3] [some 0, some 1, some 2, some 3] rfl (by decide +kernel) (fun _ => rfl) (fun r_37 u_38 H locs wr_37 hP hD hS => ?_)
              obtain ⟨p1_38, rf_38, fk_38⟩ := u_38
              have hz_38_0 : p1_38 ≤ 32 := wr_37.2
              have hPD := pd_mk (ws := [(t 0, .inr (9, [.ref (t 1), .ref (t 2), .ref (t 3), .ref (t 4), .ref (t 5), .int (nI un), .int (nI k1), .int (nI p1_38), .int rf_38])), (t 1, .inl (cI, 200, .inl fs)), (t 2, .inl (cI, 32, .inl fk_38)), (a 24, .inl (cI, 26, .inl g6))]) hP hD
              have hP := hPD.1
              have hD := hPD.2
              rcases wr_37 with ⟨⟨mm38, hmm38, rfl, hsmm38⟩, _⟩
              · refine lv_istore_n (lv' := [(3, .int (nI mm38)), (4, .int (nI j1)), (0, .ref (t 0)), (1, .int (nI a0)), (2, .ref (a 24))]) hx hb dX9_run_65 rfl hl (by decide) rfl (fun ls hl => ?_)
                refine lv_iinc (v := nI (j1 + 1)) (lv' := [(4, .int (nI (j1 + 1))), (3, .int (nI mm38)), (0, .ref (t 0)), (1, .int (nI a0)), (2, .ref (a 24))]) hx hb dX9_run_66 hl (k := 1) rfl (nI_1 j1) (by decide) rfl (fun ls hl => ?_)
                refine lv_goto (tgt := 15) hx hb dX9_run_69 (by decide) ?_
                exact ih15 (j1 + 1) mm38 fk_38 rf_38 p1_38 H locs ls (by omega) (by omega) (lf_X9_run_t_39 a t un k1 p1 rf fs fk g6 a0 hp hst hun ha0 j1 av fv rv pv k15 hj15 hk15 hpv hav hrq c_1 n_10 c_13 n_22 c_24 x_32 ex_32 c_33 p1_38 rf_38 fk_38 hz_38_0 mm38 hmm38 hsmm38) (lf_X9_run_t_40 a t un k1 p1 rf fs fk g6 a0 hp hst hun ha0 j1 av fv rv pv k15 hj15 hk15 hpv hav hrq c_1 n_10 c_13 n_22 c_24 x_32 ex_32 c_33 p1_38 rf_38 fk_38 hz_38_0 mm38 hmm38 hsmm38) (lf_X9_run_t_41 a t un k1 p1 rf fs fk g6 a0 hp hst hun ha0 j1 av fv rv pv k15 hj15 hk15 hpv hav hrq c_1 n_10 c_13 n_22 c_24 x_32 ex_32 c_33 p1_38 rf_38 fk_38 hz_38_0 mm38 hmm38 hsmm38) (hP.sub [0, 1, 2, 3] rfl) (hD.sub [0, 1, 2, 3] (by decide) rfl) hS (lv_sub hl [0, 1, 2, 3, 4] rfl)
            · refine lv_goto (tgt := 72) hx hb dX9_run_56 (by decide) ?_
              refine lv_aload_n hx hb dX9_run_72 rfl (lv_at hl 2 rfl) ?_
              refine va_get (D := D) (ci := 9) (v := .int rv) (C := RX9) (T := TX9) (N := 9) hx hb hts inT_X9 hown hK.1 hP 0 rfl rfl 8 (by decide) (hts _ k_204) (fun _ h9 => h9) rfl dX9_run_73 ?_
              refine lv_if_eq (tgt := 83) hx hb dX9_run_76 (by decide) (fun c_42 => ?_) (fun c_42 => ?_)
              · refine lv_aload_n hx hb dX9_run_83 rfl (lv_at hl 2 rfl) ?_
                refine eWiP (va_runV (As := []) (rest := []) ⟨hx, hb, hml, hown, hts⟩ (c_X9_pop_t l D cI cB cZ cJ tx t un k1 pv rv fv (lf_X9_run_t_43 a t un k1 p1 rf fs fk g6 a0 hp hst hun ha0 j1 av fv rv pv k15 hj15 hk15 hpv hav hrq c_1 n_10 c_13 n_22 c_24 x_32 ex_32 c_33 c_42) H.size) (zV hts k_799 v_X9_pop ⟨Nat.le_of_ble_eq_true rfl, Nat.le_of_ble_eq_true rfl⟩) (pV (pxS hK hP hD [0, 2] (by decide) rfl) hK hP 0 rfl rfl) rfl rfl hl.1 rfl (lv_room (Nat.le_of_ble_eq_true rfl)) dX9_run_84 ⟨Nat.le_of_ble_eq_true rfl, Nat.le_of_ble_eq_true rfl⟩) hP hD hS hA [0, 2] [some 0, none, some 1, none] rfl (by decide +kernel) (fun _ => rfl) (fun r_44 u_45 H locs wr_44 hP hD hS => ?_)
                obtain ⟨p1_45, rfl⟩ : ∃ z, z = u_45 := ⟨_, rfl⟩
                have hz_45_0 : p1_45 ≤ 32 := wr_44.2.1
                have hz_45_1 : ((p1_45, fv) : StM) = popS ((pv, fv) : StM) := wr_44.2.2
                have hPD := pd_mk (ws := [(t 0, .inr (9, [.ref (t 1), .ref (t 2), .ref (t 3), .ref (t 4), .ref (t 5), .int (nI un), .int (nI k1), .int (nI p1_45), .int rv])), (t 1, .inl (cI, 200, .inl fs)), (t 2, .inl (cI, 32, .inl fv)), (a 24, .inl (cI, 26, .inl g6))]) hP hD
                have hP := hPD.1
                have hD := hPD.2
                rcases wr_44 with ⟨hpv45, _⟩
                · rw [hQ]
                  exact W.iret (v := r_44) hx hb hr (fun tt9 ht hW => ⟨⟨(r_44 : Int32), ((p1_45 : Nat), (rv : Int32), (fv : Nat → Int32)), rfl, (lf_X9_run_t_46 a t un k1 p1 rf fs fk g6 a0 hp hst hun ha0 j1 av fv rv pv k15 hj15 hk15 hpv hav hrq c_1 n_10 c_13 n_22 c_24 x_32 ex_32 c_33 c_42 p1_45 hz_45_0 hz_45_1 r_44 hpv45), ⟨by rw [ht]; exact hP, hD⟩⟩, hS.F ht⟩) hS.2.2 dX9_run_87 hlocks
              · refine lv_iconst (v := 0) hx hb dX9_run_79 (by decide) ?_
                refine lv_goto (tgt := 87) hx hb dX9_run_80 (by decide) ?_
                rw [hQ]
                exact W.iret (v := 0) hx hb hr (fun tt9 ht hW => ⟨⟨(0 : Int32), ((pv : Nat), (rv : Int32), (fv : Nat → Int32)), rfl, (lf_X9_run_t_47 a t un k1 p1 rf fs fk g6 a0 hp hst hun ha0 j1 av fv rv pv k15 hj15 hk15 hpv hav hrq c_1 n_10 c_13 n_22 c_24 x_32 ex_32 c_33 c_42), ⟨by rw [ht]; exact hP, hD⟩⟩, hS.F ht⟩) hS.2.2 dX9_run_87 hlocks
  exact lp15 (200 + 1) 0 a0 fk 0 0 H locs ls (by omega) (by omega) (lf_X9_run_t_48 a t un k1 p1 rf fs fk g6 a0 hp hst hun ha0) (lf_X9_run_t_49 a t un k1 p1 rf fs fk g6 a0 hp hst hun ha0) (lf_X9_run_t_50 a t un k1 p1 rf fs fk g6 a0 hp hst hun ha0) (hP.sub [0, 1, 2, 3] rfl) (hD.sub [0, 1, 2, 3] (by decide) rfl) hS (lv_sub hl [0, 1, 2, 3, 4] rfl)

theorem lf_X11_held_t_3 (n1 : Int32) (n2 : Int32) (n3 : Int32) (hlo : n2 ≤ n3) (x_1 : Int32) (ex_1 : x_1 = if n1 < n3 then n1 else n3) (x_2 : Int32) (ex_2 : x_2 = if n2 < x_1 then x_1 else n2) : (x_2 : Int32) = hdM n1 n2 n3 := by
  exact hd_mm hlo (by assumption) (by assumption)
set_option maxHeartbeats 4000000 in
set_option maxRecDepth 100000 in
theorem c_X11_held_t (l : Launch) (D : va_G) (cI cB cZ cJ : ClassId) (tx : List (ClassId × FieldType)) (n1 : Int32) (n2 : Int32) (n3 : Int32) (hlo : n2 ≤ n3) : RdI l D cI cB cZ cJ tx yX11_held cX11_held 3 (some .int) 1 [.int n1, .int n2, .int n3] [] (fun r => r = hdM n1 n2 n3) := by
  refine rdi_of2 (by decide) (Nat.le_of_ble_eq_true rfl) ?_
  intro p e s m below meth c A ls H locs hC hK hP hD hA hS hl
  obtain ⟨hx, hb, hr, hml, hown, hts, hlocks, hin⟩ := hC
  have hown : s.vm.findClass RX11 = some m.cls := hown
  have hl : lv_has ls 3 [(0, .int n1), (1, .int n2), (2, .int n3)] := hl
  refine W_gQ (fun Q hQ => ?_)
  refine lv_iload_n hx hb dX11_held_0 rfl (lv_at hl 1 rfl) ?_
  refine lv_iload_n hx hb dX11_held_1 rfl (lv_at hl 2 rfl) ?_
  refine lv_iload_n hx hb dX11_held_2 rfl (lv_at hl 0 rfl) ?_
  refine va_mmin hx hb (by rw [hml]; exact hl.1.symm) hown (hts _ k_810) (hts _ k_608) (hts _ k_131) (hts _ k_609) (Nat.le_of_ble_eq_true rfl) (Nat.le_of_ble_eq_true rfl) (Nat.le_of_ble_eq_true rfl) (Nat.le_of_ble_eq_true rfl) dX11_held_3 ?_
  refine lv_topi (fun x_1 ex_1 => ?_)
  refine va_mmax hx hb (by rw [hml]; exact hl.1.symm) hown (hts _ k_811) (hts _ k_605) (hts _ k_131) (hts _ k_606) (Nat.le_of_ble_eq_true rfl) (Nat.le_of_ble_eq_true rfl) (Nat.le_of_ble_eq_true rfl) (Nat.le_of_ble_eq_true rfl) dX11_held_6 ?_
  refine lv_topi (fun x_2 ex_2 => ?_)
  rw [hQ]
  exact W.iret (v := x_2) hx hb hr (fun tt9 ht hW => ⟨⟨(x_2 : Int32), (), rfl, (lf_X11_held_t_3 n1 n2 n3 hlo x_1 ex_1 x_2 ex_2), trivial⟩, hS.F ht⟩) hS.2.2 dX11_held_9 hlocks

theorem lf_X9_value_t_3 (a : Nat → Nat) (t : Nat → Nat) (un : Nat) (k1 : Nat) (p1 : Nat) (rf : Int32) (fs : Nat → Int32) (fk : Nat → Int32) (fa3 : Nat → Int32) (fa4 : Nat → Int32) (fa5 : Nat → Int32) (g6 : Nat → Int32) (cs : List ClA) (L0 : Nat) (n2 : Int32) (n3 : Int32) (hp : p1 ≤ 32) (hst : ∀ j, j < 200 → 0 ≤ fs j) (hun : un ≤ 200) (hk1 : k1 ≤ 14) (hL0 : L0 < 256) (hlo : n2 ≤ n3) (hCT : CTk k1 fs un fa3 fa4 fa5 cs) (j1 : Nat) (fv : Nat → Int32) (rv : Int32) (pv : Nat) (k3 : Nat) (hj3 : j1 ≤ k1) (hk3 : k1 < j1 + (k3 + 1)) (hpv : pv ≤ 32) (hev : evT cs L0 g6 n2 n3 = evT (cs.drop j1) L0 g6 n2 n3) (c_1 : nI k1 ≤ nI j1) : k1 ≤ j1 := by
  exact (nI_leI (a := k1) (b := j1) (by omega) (by omega)).mp c_1
theorem lf_X9_value_t_4 (a : Nat → Nat) (t : Nat → Nat) (un : Nat) (k1 : Nat) (p1 : Nat) (rf : Int32) (fs : Nat → Int32) (fk : Nat → Int32) (fa3 : Nat → Int32) (fa4 : Nat → Int32) (fa5 : Nat → Int32) (g6 : Nat → Int32) (cs : List ClA) (L0 : Nat) (n2 : Int32) (n3 : Int32) (hp : p1 ≤ 32) (hst : ∀ j, j < 200 → 0 ≤ fs j) (hun : un ≤ 200) (hk1 : k1 ≤ 14) (hL0 : L0 < 256) (hlo : n2 ≤ n3) (hCT : CTk k1 fs un fa3 fa4 fa5 cs) (j1 : Nat) (fv : Nat → Int32) (rv : Int32) (pv : Nat) (k3 : Nat) (hj3 : j1 ≤ k1) (hk3 : k1 < j1 + (k3 + 1)) (hpv : pv ≤ 32) (hev : evT cs L0 g6 n2 n3 = evT (cs.drop j1) L0 g6 n2 n3) (c_1 : nI k1 ≤ nI j1) (n_2 : k1 ≤ j1) : (0 : Int32) = evT cs L0 g6 n2 n3 ∧ ((pv : Nat) ≤ 32) := by
  refine ⟨?_, by omega⟩
  first | exact ev_y hev hcl hlc (by assumption) hIc hIn hun (q := ((0, _) : StM)) (q2 := ((0, _) : StM)) rfl rfl (by assumption) | exact ev_e hev hCT.1 (by omega)
theorem lf_X9_value_t_6 (a : Nat → Nat) (t : Nat → Nat) (un : Nat) (k1 : Nat) (p1 : Nat) (rf : Int32) (fs : Nat → Int32) (fk : Nat → Int32) (fa3 : Nat → Int32) (fa4 : Nat → Int32) (fa5 : Nat → Int32) (g6 : Nat → Int32) (cs : List ClA) (L0 : Nat) (n2 : Int32) (n3 : Int32) (hp : p1 ≤ 32) (hst : ∀ j, j < 200 → 0 ≤ fs j) (hun : un ≤ 200) (hk1 : k1 ≤ 14) (hL0 : L0 < 256) (hlo : n2 ≤ n3) (hCT : CTk k1 fs un fa3 fa4 fa5 cs) (j1 : Nat) (fv : Nat → Int32) (rv : Int32) (pv : Nat) (k3 : Nat) (hj3 : j1 ≤ k1) (hk3 : k1 < j1 + (k3 + 1)) (hpv : pv ≤ 32) (hev : evT cs L0 g6 n2 n3 = evT (cs.drop j1) L0 g6 n2 n3) (c_1 : ¬ nI k1 ≤ nI j1) : j1 < k1 := by
  exact Nat.lt_of_not_le (fun q => c_1 ((nI_leI (a := k1) (b := j1) (by omega) (by omega)).mpr q))
theorem lf_X9_value_t_7 (a : Nat → Nat) (t : Nat → Nat) (un : Nat) (k1 : Nat) (p1 : Nat) (rf : Int32) (fs : Nat → Int32) (fk : Nat → Int32) (fa3 : Nat → Int32) (fa4 : Nat → Int32) (fa5 : Nat → Int32) (g6 : Nat → Int32) (cs : List ClA) (L0 : Nat) (n2 : Int32) (n3 : Int32) (hp : p1 ≤ 32) (hst : ∀ j, j < 200 → 0 ≤ fs j) (hun : un ≤ 200) (hk1 : k1 ≤ 14) (hL0 : L0 < 256) (hlo : n2 ≤ n3) (hCT : CTk k1 fs un fa3 fa4 fa5 cs) (j1 : Nat) (fv : Nat → Int32) (rv : Int32) (pv : Nat) (k3 : Nat) (hj3 : j1 ≤ k1) (hk3 : k1 < j1 + (k3 + 1)) (hpv : pv ≤ 32) (hev : evT cs L0 g6 n2 n3 = evT (cs.drop j1) L0 g6 n2 n3) (c_1 : ¬ nI k1 ≤ nI j1) (n_5 : j1 < k1) (cl : ClA) (lc : Nat) (nf : Nat) (e1 : Nat) (cf : Nat) (e2 : Nat) (hcl : cs[j1]? = some cl) (hlc : lc = cl.1) (hl2 : lc < 256) (hf3 : fa3 j1 = nI lc) (hf4 : fa4 j1 = nI nf) (hf5 : fa5 j1 = nI cf) (hIn : nf ≤ e1 ∧ ImC fs nf e1 15 cl.2.1 ∧ e1 < un ∧ kdM (fs e1) = 0) (hIc : cf ≤ e2 ∧ ImC fs cf e2 14 cl.2.2 ∧ d01 cl.2.2 ∧ e2 < un ∧ kdM (fs e2) = 0) (hcb : cf < 2 ^ 31) (hnb : nf < 2 ^ 31) : j1 < 14 := by
  omega
theorem lf_X9_value_t_10 (a : Nat → Nat) (t : Nat → Nat) (un : Nat) (k1 : Nat) (p1 : Nat) (rf : Int32) (fs : Nat → Int32) (fk : Nat → Int32) (fa3 : Nat → Int32) (fa4 : Nat → Int32) (fa5 : Nat → Int32) (g6 : Nat → Int32) (cs : List ClA) (L0 : Nat) (n2 : Int32) (n3 : Int32) (hp : p1 ≤ 32) (hst : ∀ j, j < 200 → 0 ≤ fs j) (hun : un ≤ 200) (hk1 : k1 ≤ 14) (hL0 : L0 < 256) (hlo : n2 ≤ n3) (hCT : CTk k1 fs un fa3 fa4 fa5 cs) (j1 : Nat) (fv : Nat → Int32) (rv : Int32) (pv : Nat) (k3 : Nat) (hj3 : j1 ≤ k1) (hk3 : k1 < j1 + (k3 + 1)) (hpv : pv ≤ 32) (hev : evT cs L0 g6 n2 n3 = evT (cs.drop j1) L0 g6 n2 n3) (c_1 : ¬ nI k1 ≤ nI j1) (n_5 : j1 < k1) (cl : ClA) (lc : Nat) (nf : Nat) (e1 : Nat) (cf : Nat) (e2 : Nat) (hcl : cs[j1]? = some cl) (hlc : lc = cl.1) (hl2 : lc < 256) (hf3 : fa3 j1 = nI lc) (hf4 : fa4 j1 = nI nf) (hf5 : fa5 j1 = nI cf) (hIn : nf ≤ e1 ∧ ImC fs nf e1 15 cl.2.1 ∧ e1 < un ∧ kdM (fs e1) = 0) (hIc : cf ≤ e2 ∧ ImC fs cf e2 14 cl.2.2 ∧ d01 cl.2.2 ∧ e2 < un ∧ kdM (fs e2) = 0) (hcb : cf < 2 ^ 31) (hnb : nf < 2 ^ 31) (c_8 : ¬ nI lc = nI L0) : lc ≠ L0 := by
  exact fun q => c_8 ((nI_eq (a := lc) (b := L0) (by omega) (by omega)).mpr q)
theorem lf_X9_value_t_11 (a : Nat → Nat) (t : Nat → Nat) (un : Nat) (k1 : Nat) (p1 : Nat) (rf : Int32) (fs : Nat → Int32) (fk : Nat → Int32) (fa3 : Nat → Int32) (fa4 : Nat → Int32) (fa5 : Nat → Int32) (g6 : Nat → Int32) (cs : List ClA) (L0 : Nat) (n2 : Int32) (n3 : Int32) (hp : p1 ≤ 32) (hst : ∀ j, j < 200 → 0 ≤ fs j) (hun : un ≤ 200) (hk1 : k1 ≤ 14) (hL0 : L0 < 256) (hlo : n2 ≤ n3) (hCT : CTk k1 fs un fa3 fa4 fa5 cs) (j1 : Nat) (fv : Nat → Int32) (rv : Int32) (pv : Nat) (k3 : Nat) (hj3 : j1 ≤ k1) (hk3 : k1 < j1 + (k3 + 1)) (hpv : pv ≤ 32) (hev : evT cs L0 g6 n2 n3 = evT (cs.drop j1) L0 g6 n2 n3) (c_1 : ¬ nI k1 ≤ nI j1) (n_5 : j1 < k1) (cl : ClA) (lc : Nat) (nf : Nat) (e1 : Nat) (cf : Nat) (e2 : Nat) (hcl : cs[j1]? = some cl) (hlc : lc = cl.1) (hl2 : lc < 256) (hf3 : fa3 j1 = nI lc) (hf4 : fa4 j1 = nI nf) (hf5 : fa5 j1 = nI cf) (hIn : nf ≤ e1 ∧ ImC fs nf e1 15 cl.2.1 ∧ e1 < un ∧ kdM (fs e1) = 0) (hIc : cf ≤ e2 ∧ ImC fs cf e2 14 cl.2.2 ∧ d01 cl.2.2 ∧ e2 < un ∧ kdM (fs e2) = 0) (hcb : cf < 2 ^ 31) (hnb : nf < 2 ^ 31) (c_8 : ¬ nI lc = nI L0) (n_9 : lc ≠ L0) : pv ≤ 32 := by
  first | assumption | omega | rfl | exact ev_n hev hcl hlc (by assumption) | exact ev_0 hev hcl hIc hun (q := ((0, _) : StM)) rfl (by assumption)
theorem lf_X9_value_t_12 (a : Nat → Nat) (t : Nat → Nat) (un : Nat) (k1 : Nat) (p1 : Nat) (rf : Int32) (fs : Nat → Int32) (fk : Nat → Int32) (fa3 : Nat → Int32) (fa4 : Nat → Int32) (fa5 : Nat → Int32) (g6 : Nat → Int32) (cs : List ClA) (L0 : Nat) (n2 : Int32) (n3 : Int32) (hp : p1 ≤ 32) (hst : ∀ j, j < 200 → 0 ≤ fs j) (hun : un ≤ 200) (hk1 : k1 ≤ 14) (hL0 : L0 < 256) (hlo : n2 ≤ n3) (hCT : CTk k1 fs un fa3 fa4 fa5 cs) (j1 : Nat) (fv : Nat → Int32) (rv : Int32) (pv : Nat) (k3 : Nat) (hj3 : j1 ≤ k1) (hk3 : k1 < j1 + (k3 + 1)) (hpv : pv ≤ 32) (hev : evT cs L0 g6 n2 n3 = evT (cs.drop j1) L0 g6 n2 n3) (c_1 : ¬ nI k1 ≤ nI j1) (n_5 : j1 < k1) (cl : ClA) (lc : Nat) (nf : Nat) (e1 : Nat) (cf : Nat) (e2 : Nat) (hcl : cs[j1]? = some cl) (hlc : lc = cl.1) (hl2 : lc < 256) (hf3 : fa3 j1 = nI lc) (hf4 : fa4 j1 = nI nf) (hf5 : fa5 j1 = nI cf) (hIn : nf ≤ e1 ∧ ImC fs nf e1 15 cl.2.1 ∧ e1 < un ∧ kdM (fs e1) = 0) (hIc : cf ≤ e2 ∧ ImC fs cf e2 14 cl.2.2 ∧ d01 cl.2.2 ∧ e2 < un ∧ kdM (fs e2) = 0) (hcb : cf < 2 ^ 31) (hnb : nf < 2 ^ 31) (c_8 : ¬ nI lc = nI L0) (n_9 : lc ≠ L0) : evT cs L0 g6 n2 n3 = evT (cs.drop (j1 + 1)) L0 g6 n2 n3 := by
  first | assumption | omega | rfl | exact ev_n hev hcl hlc (by assumption) | exact ev_0 hev hcl hIc hun (q := ((0, _) : StM)) rfl (by assumption)
theorem lf_X9_value_t_14 (a : Nat → Nat) (t : Nat → Nat) (un : Nat) (k1 : Nat) (p1 : Nat) (rf : Int32) (fs : Nat → Int32) (fk : Nat → Int32) (fa3 : Nat → Int32) (fa4 : Nat → Int32) (fa5 : Nat → Int32) (g6 : Nat → Int32) (cs : List ClA) (L0 : Nat) (n2 : Int32) (n3 : Int32) (hp : p1 ≤ 32) (hst : ∀ j, j < 200 → 0 ≤ fs j) (hun : un ≤ 200) (hk1 : k1 ≤ 14) (hL0 : L0 < 256) (hlo : n2 ≤ n3) (hCT : CTk k1 fs un fa3 fa4 fa5 cs) (j1 : Nat) (fv : Nat → Int32) (rv : Int32) (pv : Nat) (k3 : Nat) (hj3 : j1 ≤ k1) (hk3 : k1 < j1 + (k3 + 1)) (hpv : pv ≤ 32) (hev : evT cs L0 g6 n2 n3 = evT (cs.drop j1) L0 g6 n2 n3) (c_1 : ¬ nI k1 ≤ nI j1) (n_5 : j1 < k1) (cl : ClA) (lc : Nat) (nf : Nat) (e1 : Nat) (cf : Nat) (e2 : Nat) (hcl : cs[j1]? = some cl) (hlc : lc = cl.1) (hl2 : lc < 256) (hf3 : fa3 j1 = nI lc) (hf4 : fa4 j1 = nI nf) (hf5 : fa5 j1 = nI cf) (hIn : nf ≤ e1 ∧ ImC fs nf e1 15 cl.2.1 ∧ e1 < un ∧ kdM (fs e1) = 0) (hIc : cf ≤ e2 ∧ ImC fs cf e2 14 cl.2.2 ∧ d01 cl.2.2 ∧ e2 < un ∧ kdM (fs e2) = 0) (hcb : cf < 2 ^ 31) (hnb : nf < 2 ^ 31) (c_8 : nI lc = nI L0) : lc = L0 := by
  exact (nI_eq (a := lc) (b := L0) (by omega) (by omega)).mp c_8
theorem lf_X9_value_t_15 (a : Nat → Nat) (t : Nat → Nat) (un : Nat) (k1 : Nat) (p1 : Nat) (rf : Int32) (fs : Nat → Int32) (fk : Nat → Int32) (fa3 : Nat → Int32) (fa4 : Nat → Int32) (fa5 : Nat → Int32) (g6 : Nat → Int32) (cs : List ClA) (L0 : Nat) (n2 : Int32) (n3 : Int32) (hp : p1 ≤ 32) (hst : ∀ j, j < 200 → 0 ≤ fs j) (hun : un ≤ 200) (hk1 : k1 ≤ 14) (hL0 : L0 < 256) (hlo : n2 ≤ n3) (hCT : CTk k1 fs un fa3 fa4 fa5 cs) (j1 : Nat) (fv : Nat → Int32) (rv : Int32) (pv : Nat) (k3 : Nat) (hj3 : j1 ≤ k1) (hk3 : k1 < j1 + (k3 + 1)) (hpv : pv ≤ 32) (hev : evT cs L0 g6 n2 n3 = evT (cs.drop j1) L0 g6 n2 n3) (c_1 : ¬ nI k1 ≤ nI j1) (n_5 : j1 < k1) (cl : ClA) (lc : Nat) (nf : Nat) (e1 : Nat) (cf : Nat) (e2 : Nat) (hcl : cs[j1]? = some cl) (hlc : lc = cl.1) (hl2 : lc < 256) (hf3 : fa3 j1 = nI lc) (hf4 : fa4 j1 = nI nf) (hf5 : fa5 j1 = nI cf) (hIn : nf ≤ e1 ∧ ImC fs nf e1 15 cl.2.1 ∧ e1 < un ∧ kdM (fs e1) = 0) (hIc : cf ≤ e2 ∧ ImC fs cf e2 14 cl.2.2 ∧ d01 cl.2.2 ∧ e2 < un ∧ kdM (fs e2) = 0) (hcb : cf < 2 ^ 31) (hnb : nf < 2 ^ 31) (c_8 : nI lc = nI L0) (n_13 : lc = L0) : j1 < 14 := by
  omega
theorem lf_X9_value_t_16 (a : Nat → Nat) (t : Nat → Nat) (un : Nat) (k1 : Nat) (p1 : Nat) (rf : Int32) (fs : Nat → Int32) (fk : Nat → Int32) (fa3 : Nat → Int32) (fa4 : Nat → Int32) (fa5 : Nat → Int32) (g6 : Nat → Int32) (cs : List ClA) (L0 : Nat) (n2 : Int32) (n3 : Int32) (hp : p1 ≤ 32) (hst : ∀ j, j < 200 → 0 ≤ fs j) (hun : un ≤ 200) (hk1 : k1 ≤ 14) (hL0 : L0 < 256) (hlo : n2 ≤ n3) (hCT : CTk k1 fs un fa3 fa4 fa5 cs) (j1 : Nat) (fv : Nat → Int32) (rv : Int32) (pv : Nat) (k3 : Nat) (hj3 : j1 ≤ k1) (hk3 : k1 < j1 + (k3 + 1)) (hpv : pv ≤ 32) (hev : evT cs L0 g6 n2 n3 = evT (cs.drop j1) L0 g6 n2 n3) (c_1 : ¬ nI k1 ≤ nI j1) (n_5 : j1 < k1) (cl : ClA) (lc : Nat) (nf : Nat) (e1 : Nat) (cf : Nat) (e2 : Nat) (hcl : cs[j1]? = some cl) (hlc : lc = cl.1) (hl2 : lc < 256) (hf3 : fa3 j1 = nI lc) (hf4 : fa4 j1 = nI nf) (hf5 : fa5 j1 = nI cf) (hIn : nf ≤ e1 ∧ ImC fs nf e1 15 cl.2.1 ∧ e1 < un ∧ kdM (fs e1) = 0) (hIc : cf ≤ e2 ∧ ImC fs cf e2 14 cl.2.2 ∧ d01 cl.2.2 ∧ e2 < un ∧ kdM (fs e2) = 0) (hcb : cf < 2 ^ 31) (hnb : nf < 2 ^ 31) (c_8 : nI lc = nI L0) (n_13 : lc = L0) : pv ≤ 32 := by
  first | assumption | omega | decide
theorem lf_X9_value_t_17 (a : Nat → Nat) (t : Nat → Nat) (un : Nat) (k1 : Nat) (p1 : Nat) (rf : Int32) (fs : Nat → Int32) (fk : Nat → Int32) (fa3 : Nat → Int32) (fa4 : Nat → Int32) (fa5 : Nat → Int32) (g6 : Nat → Int32) (cs : List ClA) (L0 : Nat) (n2 : Int32) (n3 : Int32) (hp : p1 ≤ 32) (hst : ∀ j, j < 200 → 0 ≤ fs j) (hun : un ≤ 200) (hk1 : k1 ≤ 14) (hL0 : L0 < 256) (hlo : n2 ≤ n3) (hCT : CTk k1 fs un fa3 fa4 fa5 cs) (j1 : Nat) (fv : Nat → Int32) (rv : Int32) (pv : Nat) (k3 : Nat) (hj3 : j1 ≤ k1) (hk3 : k1 < j1 + (k3 + 1)) (hpv : pv ≤ 32) (hev : evT cs L0 g6 n2 n3 = evT (cs.drop j1) L0 g6 n2 n3) (c_1 : ¬ nI k1 ≤ nI j1) (n_5 : j1 < k1) (cl : ClA) (lc : Nat) (nf : Nat) (e1 : Nat) (cf : Nat) (e2 : Nat) (hcl : cs[j1]? = some cl) (hlc : lc = cl.1) (hl2 : lc < 256) (hf3 : fa3 j1 = nI lc) (hf4 : fa4 j1 = nI nf) (hf5 : fa5 j1 = nI cf) (hIn : nf ≤ e1 ∧ ImC fs nf e1 15 cl.2.1 ∧ e1 < un ∧ kdM (fs e1) = 0) (hIc : cf ≤ e2 ∧ ImC fs cf e2 14 cl.2.2 ∧ d01 cl.2.2 ∧ e2 < un ∧ kdM (fs e2) = 0) (hcb : cf < 2 ^ 31) (hnb : nf < 2 ^ 31) (c_8 : nI lc = nI L0) (n_13 : lc = L0) : ∀ j, j < 200 → 0 ≤ fs j := by
  first | assumption | omega | decide
theorem lf_X9_value_t_18 (a : Nat → Nat) (t : Nat → Nat) (un : Nat) (k1 : Nat) (p1 : Nat) (rf : Int32) (fs : Nat → Int32) (fk : Nat → Int32) (fa3 : Nat → Int32) (fa4 : Nat → Int32) (fa5 : Nat → Int32) (g6 : Nat → Int32) (cs : List ClA) (L0 : Nat) (n2 : Int32) (n3 : Int32) (hp : p1 ≤ 32) (hst : ∀ j, j < 200 → 0 ≤ fs j) (hun : un ≤ 200) (hk1 : k1 ≤ 14) (hL0 : L0 < 256) (hlo : n2 ≤ n3) (hCT : CTk k1 fs un fa3 fa4 fa5 cs) (j1 : Nat) (fv : Nat → Int32) (rv : Int32) (pv : Nat) (k3 : Nat) (hj3 : j1 ≤ k1) (hk3 : k1 < j1 + (k3 + 1)) (hpv : pv ≤ 32) (hev : evT cs L0 g6 n2 n3 = evT (cs.drop j1) L0 g6 n2 n3) (c_1 : ¬ nI k1 ≤ nI j1) (n_5 : j1 < k1) (cl : ClA) (lc : Nat) (nf : Nat) (e1 : Nat) (cf : Nat) (e2 : Nat) (hcl : cs[j1]? = some cl) (hlc : lc = cl.1) (hl2 : lc < 256) (hf3 : fa3 j1 = nI lc) (hf4 : fa4 j1 = nI nf) (hf5 : fa5 j1 = nI cf) (hIn : nf ≤ e1 ∧ ImC fs nf e1 15 cl.2.1 ∧ e1 < un ∧ kdM (fs e1) = 0) (hIc : cf ≤ e2 ∧ ImC fs cf e2 14 cl.2.2 ∧ d01 cl.2.2 ∧ e2 < un ∧ kdM (fs e2) = 0) (hcb : cf < 2 ^ 31) (hnb : nf < 2 ^ 31) (c_8 : nI lc = nI L0) (n_13 : lc = L0) : un ≤ 200 := by
  first | assumption | omega | decide
theorem lf_X9_value_t_19 (a : Nat → Nat) (t : Nat → Nat) (un : Nat) (k1 : Nat) (p1 : Nat) (rf : Int32) (fs : Nat → Int32) (fk : Nat → Int32) (fa3 : Nat → Int32) (fa4 : Nat → Int32) (fa5 : Nat → Int32) (g6 : Nat → Int32) (cs : List ClA) (L0 : Nat) (n2 : Int32) (n3 : Int32) (hp : p1 ≤ 32) (hst : ∀ j, j < 200 → 0 ≤ fs j) (hun : un ≤ 200) (hk1 : k1 ≤ 14) (hL0 : L0 < 256) (hlo : n2 ≤ n3) (hCT : CTk k1 fs un fa3 fa4 fa5 cs) (j1 : Nat) (fv : Nat → Int32) (rv : Int32) (pv : Nat) (k3 : Nat) (hj3 : j1 ≤ k1) (hk3 : k1 < j1 + (k3 + 1)) (hpv : pv ≤ 32) (hev : evT cs L0 g6 n2 n3 = evT (cs.drop j1) L0 g6 n2 n3) (c_1 : ¬ nI k1 ≤ nI j1) (n_5 : j1 < k1) (cl : ClA) (lc : Nat) (nf : Nat) (e1 : Nat) (cf : Nat) (e2 : Nat) (hcl : cs[j1]? = some cl) (hlc : lc = cl.1) (hl2 : lc < 256) (hf3 : fa3 j1 = nI lc) (hf4 : fa4 j1 = nI nf) (hf5 : fa5 j1 = nI cf) (hIn : nf ≤ e1 ∧ ImC fs nf e1 15 cl.2.1 ∧ e1 < un ∧ kdM (fs e1) = 0) (hIc : cf ≤ e2 ∧ ImC fs cf e2 14 cl.2.2 ∧ d01 cl.2.2 ∧ e2 < un ∧ kdM (fs e2) = 0) (hcb : cf < 2 ^ 31) (hnb : nf < 2 ^ 31) (c_8 : nI lc = nI L0) (n_13 : lc = L0) : cf < 2 ^ 31 := by
  first | assumption | omega | decide
theorem lf_X9_value_t_23 (a : Nat → Nat) (t : Nat → Nat) (un : Nat) (k1 : Nat) (p1 : Nat) (rf : Int32) (fs : Nat → Int32) (fk : Nat → Int32) (fa3 : Nat → Int32) (fa4 : Nat → Int32) (fa5 : Nat → Int32) (g6 : Nat → Int32) (cs : List ClA) (L0 : Nat) (n2 : Int32) (n3 : Int32) (hp : p1 ≤ 32) (hst : ∀ j, j < 200 → 0 ≤ fs j) (hun : un ≤ 200) (hk1 : k1 ≤ 14) (hL0 : L0 < 256) (hlo : n2 ≤ n3) (hCT : CTk k1 fs un fa3 fa4 fa5 cs) (j1 : Nat) (fv : Nat → Int32) (rv : Int32) (pv : Nat) (k3 : Nat) (hj3 : j1 ≤ k1) (hk3 : k1 < j1 + (k3 + 1)) (hpv : pv ≤ 32) (hev : evT cs L0 g6 n2 n3 = evT (cs.drop j1) L0 g6 n2 n3) (c_1 : ¬ nI k1 ≤ nI j1) (n_5 : j1 < k1) (cl : ClA) (lc : Nat) (nf : Nat) (e1 : Nat) (cf : Nat) (e2 : Nat) (hcl : cs[j1]? = some cl) (hlc : lc = cl.1) (hl2 : lc < 256) (hf3 : fa3 j1 = nI lc) (hf4 : fa4 j1 = nI nf) (hf5 : fa5 j1 = nI cf) (hIn : nf ≤ e1 ∧ ImC fs nf e1 15 cl.2.1 ∧ e1 < un ∧ kdM (fs e1) = 0) (hIc : cf ≤ e2 ∧ ImC fs cf e2 14 cl.2.2 ∧ d01 cl.2.2 ∧ e2 < un ∧ kdM (fs e2) = 0) (hcb : cf < 2 ^ 31) (hnb : nf < 2 ^ 31) (c_8 : nI lc = nI L0) (n_13 : lc = L0) (p1_21 : Nat) (rf_21 : Int32) (fk_21 : Nat → Int32) (hz_21_0 : p1_21 ≤ 32) (c_22 : runM fs g6 un 200 cf ((0, fv) : StM) = 0) : p1_21 ≤ 32 := by
  first | assumption | omega | rfl | exact ev_n hev hcl hlc (by assumption) | exact ev_0 hev hcl hIc hun (q := ((0, _) : StM)) rfl (by assumption)
theorem lf_X9_value_t_24 (a : Nat → Nat) (t : Nat → Nat) (un : Nat) (k1 : Nat) (p1 : Nat) (rf : Int32) (fs : Nat → Int32) (fk : Nat → Int32) (fa3 : Nat → Int32) (fa4 : Nat → Int32) (fa5 : Nat → Int32) (g6 : Nat → Int32) (cs : List ClA) (L0 : Nat) (n2 : Int32) (n3 : Int32) (hp : p1 ≤ 32) (hst : ∀ j, j < 200 → 0 ≤ fs j) (hun : un ≤ 200) (hk1 : k1 ≤ 14) (hL0 : L0 < 256) (hlo : n2 ≤ n3) (hCT : CTk k1 fs un fa3 fa4 fa5 cs) (j1 : Nat) (fv : Nat → Int32) (rv : Int32) (pv : Nat) (k3 : Nat) (hj3 : j1 ≤ k1) (hk3 : k1 < j1 + (k3 + 1)) (hpv : pv ≤ 32) (hev : evT cs L0 g6 n2 n3 = evT (cs.drop j1) L0 g6 n2 n3) (c_1 : ¬ nI k1 ≤ nI j1) (n_5 : j1 < k1) (cl : ClA) (lc : Nat) (nf : Nat) (e1 : Nat) (cf : Nat) (e2 : Nat) (hcl : cs[j1]? = some cl) (hlc : lc = cl.1) (hl2 : lc < 256) (hf3 : fa3 j1 = nI lc) (hf4 : fa4 j1 = nI nf) (hf5 : fa5 j1 = nI cf) (hIn : nf ≤ e1 ∧ ImC fs nf e1 15 cl.2.1 ∧ e1 < un ∧ kdM (fs e1) = 0) (hIc : cf ≤ e2 ∧ ImC fs cf e2 14 cl.2.2 ∧ d01 cl.2.2 ∧ e2 < un ∧ kdM (fs e2) = 0) (hcb : cf < 2 ^ 31) (hnb : nf < 2 ^ 31) (c_8 : nI lc = nI L0) (n_13 : lc = L0) (p1_21 : Nat) (rf_21 : Int32) (fk_21 : Nat → Int32) (hz_21_0 : p1_21 ≤ 32) (c_22 : runM fs g6 un 200 cf ((0, fv) : StM) = 0) : evT cs L0 g6 n2 n3 = evT (cs.drop (j1 + 1)) L0 g6 n2 n3 := by
  first | assumption | omega | rfl | exact ev_n hev hcl hlc (by assumption) | exact ev_0 hev hcl hIc hun (q := ((0, _) : StM)) rfl (by assumption)
theorem lf_X9_value_t_25 (a : Nat → Nat) (t : Nat → Nat) (un : Nat) (k1 : Nat) (p1 : Nat) (rf : Int32) (fs : Nat → Int32) (fk : Nat → Int32) (fa3 : Nat → Int32) (fa4 : Nat → Int32) (fa5 : Nat → Int32) (g6 : Nat → Int32) (cs : List ClA) (L0 : Nat) (n2 : Int32) (n3 : Int32) (hp : p1 ≤ 32) (hst : ∀ j, j < 200 → 0 ≤ fs j) (hun : un ≤ 200) (hk1 : k1 ≤ 14) (hL0 : L0 < 256) (hlo : n2 ≤ n3) (hCT : CTk k1 fs un fa3 fa4 fa5 cs) (j1 : Nat) (fv : Nat → Int32) (rv : Int32) (pv : Nat) (k3 : Nat) (hj3 : j1 ≤ k1) (hk3 : k1 < j1 + (k3 + 1)) (hpv : pv ≤ 32) (hev : evT cs L0 g6 n2 n3 = evT (cs.drop j1) L0 g6 n2 n3) (c_1 : ¬ nI k1 ≤ nI j1) (n_5 : j1 < k1) (cl : ClA) (lc : Nat) (nf : Nat) (e1 : Nat) (cf : Nat) (e2 : Nat) (hcl : cs[j1]? = some cl) (hlc : lc = cl.1) (hl2 : lc < 256) (hf3 : fa3 j1 = nI lc) (hf4 : fa4 j1 = nI nf) (hf5 : fa5 j1 = nI cf) (hIn : nf ≤ e1 ∧ ImC fs nf e1 15 cl.2.1 ∧ e1 < un ∧ kdM (fs e1) = 0) (hIc : cf ≤ e2 ∧ ImC fs cf e2 14 cl.2.2 ∧ d01 cl.2.2 ∧ e2 < un ∧ kdM (fs e2) = 0) (hcb : cf < 2 ^ 31) (hnb : nf < 2 ^ 31) (c_8 : nI lc = nI L0) (n_13 : lc = L0) (p1_21 : Nat) (rf_21 : Int32) (fk_21 : Nat → Int32) (hz_21_0 : p1_21 ≤ 32) (c_22 : ¬ runM fs g6 un 200 cf ((0, fv) : StM) = 0) : j1 < 14 := by
  omega
theorem lf_X9_value_t_26 (a : Nat → Nat) (t : Nat → Nat) (un : Nat) (k1 : Nat) (p1 : Nat) (rf : Int32) (fs : Nat → Int32) (fk : Nat → Int32) (fa3 : Nat → Int32) (fa4 : Nat → Int32) (fa5 : Nat → Int32) (g6 : Nat → Int32) (cs : List ClA) (L0 : Nat) (n2 : Int32) (n3 : Int32) (hp : p1 ≤ 32) (hst : ∀ j, j < 200 → 0 ≤ fs j) (hun : un ≤ 200) (hk1 : k1 ≤ 14) (hL0 : L0 < 256) (hlo : n2 ≤ n3) (hCT : CTk k1 fs un fa3 fa4 fa5 cs) (j1 : Nat) (fv : Nat → Int32) (rv : Int32) (pv : Nat) (k3 : Nat) (hj3 : j1 ≤ k1) (hk3 : k1 < j1 + (k3 + 1)) (hpv : pv ≤ 32) (hev : evT cs L0 g6 n2 n3 = evT (cs.drop j1) L0 g6 n2 n3) (c_1 : ¬ nI k1 ≤ nI j1) (n_5 : j1 < k1) (cl : ClA) (lc : Nat) (nf : Nat) (e1 : Nat) (cf : Nat) (e2 : Nat) (hcl : cs[j1]? = some cl) (hlc : lc = cl.1) (hl2 : lc < 256) (hf3 : fa3 j1 = nI lc) (hf4 : fa4 j1 = nI nf) (hf5 : fa5 j1 = nI cf) (hIn : nf ≤ e1 ∧ ImC fs nf e1 15 cl.2.1 ∧ e1 < un ∧ kdM (fs e1) = 0) (hIc : cf ≤ e2 ∧ ImC fs cf e2 14 cl.2.2 ∧ d01 cl.2.2 ∧ e2 < un ∧ kdM (fs e2) = 0) (hcb : cf < 2 ^ 31) (hnb : nf < 2 ^ 31) (c_8 : nI lc = nI L0) (n_13 : lc = L0) (p1_21 : Nat) (rf_21 : Int32) (fk_21 : Nat → Int32) (hz_21_0 : p1_21 ≤ 32) (c_22 : ¬ runM fs g6 un 200 cf ((0, fv) : StM) = 0) : p1_21 ≤ 32 := by
  first | assumption | omega | decide
theorem lf_X9_value_t_27 (a : Nat → Nat) (t : Nat → Nat) (un : Nat) (k1 : Nat) (p1 : Nat) (rf : Int32) (fs : Nat → Int32) (fk : Nat → Int32) (fa3 : Nat → Int32) (fa4 : Nat → Int32) (fa5 : Nat → Int32) (g6 : Nat → Int32) (cs : List ClA) (L0 : Nat) (n2 : Int32) (n3 : Int32) (hp : p1 ≤ 32) (hst : ∀ j, j < 200 → 0 ≤ fs j) (hun : un ≤ 200) (hk1 : k1 ≤ 14) (hL0 : L0 < 256) (hlo : n2 ≤ n3) (hCT : CTk k1 fs un fa3 fa4 fa5 cs) (j1 : Nat) (fv : Nat → Int32) (rv : Int32) (pv : Nat) (k3 : Nat) (hj3 : j1 ≤ k1) (hk3 : k1 < j1 + (k3 + 1)) (hpv : pv ≤ 32) (hev : evT cs L0 g6 n2 n3 = evT (cs.drop j1) L0 g6 n2 n3) (c_1 : ¬ nI k1 ≤ nI j1) (n_5 : j1 < k1) (cl : ClA) (lc : Nat) (nf : Nat) (e1 : Nat) (cf : Nat) (e2 : Nat) (hcl : cs[j1]? = some cl) (hlc : lc = cl.1) (hl2 : lc < 256) (hf3 : fa3 j1 = nI lc) (hf4 : fa4 j1 = nI nf) (hf5 : fa5 j1 = nI cf) (hIn : nf ≤ e1 ∧ ImC fs nf e1 15 cl.2.1 ∧ e1 < un ∧ kdM (fs e1) = 0) (hIc : cf ≤ e2 ∧ ImC fs cf e2 14 cl.2.2 ∧ d01 cl.2.2 ∧ e2 < un ∧ kdM (fs e2) = 0) (hcb : cf < 2 ^ 31) (hnb : nf < 2 ^ 31) (c_8 : nI lc = nI L0) (n_13 : lc = L0) (p1_21 : Nat) (rf_21 : Int32) (fk_21 : Nat → Int32) (hz_21_0 : p1_21 ≤ 32) (c_22 : ¬ runM fs g6 un 200 cf ((0, fv) : StM) = 0) : ∀ j, j < 200 → 0 ≤ fs j := by
  first | assumption | omega | decide
theorem lf_X9_value_t_28 (a : Nat → Nat) (t : Nat → Nat) (un : Nat) (k1 : Nat) (p1 : Nat) (rf : Int32) (fs : Nat → Int32) (fk : Nat → Int32) (fa3 : Nat → Int32) (fa4 : Nat → Int32) (fa5 : Nat → Int32) (g6 : Nat → Int32) (cs : List ClA) (L0 : Nat) (n2 : Int32) (n3 : Int32) (hp : p1 ≤ 32) (hst : ∀ j, j < 200 → 0 ≤ fs j) (hun : un ≤ 200) (hk1 : k1 ≤ 14) (hL0 : L0 < 256) (hlo : n2 ≤ n3) (hCT : CTk k1 fs un fa3 fa4 fa5 cs) (j1 : Nat) (fv : Nat → Int32) (rv : Int32) (pv : Nat) (k3 : Nat) (hj3 : j1 ≤ k1) (hk3 : k1 < j1 + (k3 + 1)) (hpv : pv ≤ 32) (hev : evT cs L0 g6 n2 n3 = evT (cs.drop j1) L0 g6 n2 n3) (c_1 : ¬ nI k1 ≤ nI j1) (n_5 : j1 < k1) (cl : ClA) (lc : Nat) (nf : Nat) (e1 : Nat) (cf : Nat) (e2 : Nat) (hcl : cs[j1]? = some cl) (hlc : lc = cl.1) (hl2 : lc < 256) (hf3 : fa3 j1 = nI lc) (hf4 : fa4 j1 = nI nf) (hf5 : fa5 j1 = nI cf) (hIn : nf ≤ e1 ∧ ImC fs nf e1 15 cl.2.1 ∧ e1 < un ∧ kdM (fs e1) = 0) (hIc : cf ≤ e2 ∧ ImC fs cf e2 14 cl.2.2 ∧ d01 cl.2.2 ∧ e2 < un ∧ kdM (fs e2) = 0) (hcb : cf < 2 ^ 31) (hnb : nf < 2 ^ 31) (c_8 : nI lc = nI L0) (n_13 : lc = L0) (p1_21 : Nat) (rf_21 : Int32) (fk_21 : Nat → Int32) (hz_21_0 : p1_21 ≤ 32) (c_22 : ¬ runM fs g6 un 200 cf ((0, fv) : StM) = 0) : un ≤ 200 := by
  first | assumption | omega | decide
theorem lf_X9_value_t_29 (a : Nat → Nat) (t : Nat → Nat) (un : Nat) (k1 : Nat) (p1 : Nat) (rf : Int32) (fs : Nat → Int32) (fk : Nat → Int32) (fa3 : Nat → Int32) (fa4 : Nat → Int32) (fa5 : Nat → Int32) (g6 : Nat → Int32) (cs : List ClA) (L0 : Nat) (n2 : Int32) (n3 : Int32) (hp : p1 ≤ 32) (hst : ∀ j, j < 200 → 0 ≤ fs j) (hun : un ≤ 200) (hk1 : k1 ≤ 14) (hL0 : L0 < 256) (hlo : n2 ≤ n3) (hCT : CTk k1 fs un fa3 fa4 fa5 cs) (j1 : Nat) (fv : Nat → Int32) (rv : Int32) (pv : Nat) (k3 : Nat) (hj3 : j1 ≤ k1) (hk3 : k1 < j1 + (k3 + 1)) (hpv : pv ≤ 32) (hev : evT cs L0 g6 n2 n3 = evT (cs.drop j1) L0 g6 n2 n3) (c_1 : ¬ nI k1 ≤ nI j1) (n_5 : j1 < k1) (cl : ClA) (lc : Nat) (nf : Nat) (e1 : Nat) (cf : Nat) (e2 : Nat) (hcl : cs[j1]? = some cl) (hlc : lc = cl.1) (hl2 : lc < 256) (hf3 : fa3 j1 = nI lc) (hf4 : fa4 j1 = nI nf) (hf5 : fa5 j1 = nI cf) (hIn : nf ≤ e1 ∧ ImC fs nf e1 15 cl.2.1 ∧ e1 < un ∧ kdM (fs e1) = 0) (hIc : cf ≤ e2 ∧ ImC fs cf e2 14 cl.2.2 ∧ d01 cl.2.2 ∧ e2 < un ∧ kdM (fs e2) = 0) (hcb : cf < 2 ^ 31) (hnb : nf < 2 ^ 31) (c_8 : nI lc = nI L0) (n_13 : lc = L0) (p1_21 : Nat) (rf_21 : Int32) (fk_21 : Nat → Int32) (hz_21_0 : p1_21 ≤ 32) (c_22 : ¬ runM fs g6 un 200 cf ((0, fv) : StM) = 0) : nf < 2 ^ 31 := by
  first | assumption | omega | decide
theorem lf_X9_value_t_32 (a : Nat → Nat) (t : Nat → Nat) (un : Nat) (k1 : Nat) (p1 : Nat) (rf : Int32) (fs : Nat → Int32) (fk : Nat → Int32) (fa3 : Nat → Int32) (fa4 : Nat → Int32) (fa5 : Nat → Int32) (g6 : Nat → Int32) (cs : List ClA) (L0 : Nat) (n2 : Int32) (n3 : Int32) (hp : p1 ≤ 32) (hst : ∀ j, j < 200 → 0 ≤ fs j) (hun : un ≤ 200) (hk1 : k1 ≤ 14) (hL0 : L0 < 256) (hlo : n2 ≤ n3) (hCT : CTk k1 fs un fa3 fa4 fa5 cs) (j1 : Nat) (fv : Nat → Int32) (rv : Int32) (pv : Nat) (k3 : Nat) (hj3 : j1 ≤ k1) (hk3 : k1 < j1 + (k3 + 1)) (hpv : pv ≤ 32) (hev : evT cs L0 g6 n2 n3 = evT (cs.drop j1) L0 g6 n2 n3) (c_1 : ¬ nI k1 ≤ nI j1) (n_5 : j1 < k1) (cl : ClA) (lc : Nat) (nf : Nat) (e1 : Nat) (cf : Nat) (e2 : Nat) (hcl : cs[j1]? = some cl) (hlc : lc = cl.1) (hl2 : lc < 256) (hf3 : fa3 j1 = nI lc) (hf4 : fa4 j1 = nI nf) (hf5 : fa5 j1 = nI cf) (hIn : nf ≤ e1 ∧ ImC fs nf e1 15 cl.2.1 ∧ e1 < un ∧ kdM (fs e1) = 0) (hIc : cf ≤ e2 ∧ ImC fs cf e2 14 cl.2.2 ∧ d01 cl.2.2 ∧ e2 < un ∧ kdM (fs e2) = 0) (hcb : cf < 2 ^ 31) (hnb : nf < 2 ^ 31) (c_8 : nI lc = nI L0) (n_13 : lc = L0) (p1_21 : Nat) (rf_21 : Int32) (fk_21 : Nat → Int32) (hz_21_0 : p1_21 ≤ 32) (c_22 : ¬ runM fs g6 un 200 cf ((0, fv) : StM) = 0) (p1_31 : Nat) (rf_31 : Int32) (fk_31 : Nat → Int32) (hz_31_0 : p1_31 ≤ 32) : n2 ≤ n3 := by
  first | assumption | omega | decide
theorem lf_X9_value_t_34 (a : Nat → Nat) (t : Nat → Nat) (un : Nat) (k1 : Nat) (p1 : Nat) (rf : Int32) (fs : Nat → Int32) (fk : Nat → Int32) (fa3 : Nat → Int32) (fa4 : Nat → Int32) (fa5 : Nat → Int32) (g6 : Nat → Int32) (cs : List ClA) (L0 : Nat) (n2 : Int32) (n3 : Int32) (hp : p1 ≤ 32) (hst : ∀ j, j < 200 → 0 ≤ fs j) (hun : un ≤ 200) (hk1 : k1 ≤ 14) (hL0 : L0 < 256) (hlo : n2 ≤ n3) (hCT : CTk k1 fs un fa3 fa4 fa5 cs) (j1 : Nat) (fv : Nat → Int32) (rv : Int32) (pv : Nat) (k3 : Nat) (hj3 : j1 ≤ k1) (hk3 : k1 < j1 + (k3 + 1)) (hpv : pv ≤ 32) (hev : evT cs L0 g6 n2 n3 = evT (cs.drop j1) L0 g6 n2 n3) (c_1 : ¬ nI k1 ≤ nI j1) (n_5 : j1 < k1) (cl : ClA) (lc : Nat) (nf : Nat) (e1 : Nat) (cf : Nat) (e2 : Nat) (hcl : cs[j1]? = some cl) (hlc : lc = cl.1) (hl2 : lc < 256) (hf3 : fa3 j1 = nI lc) (hf4 : fa4 j1 = nI nf) (hf5 : fa5 j1 = nI cf) (hIn : nf ≤ e1 ∧ ImC fs nf e1 15 cl.2.1 ∧ e1 < un ∧ kdM (fs e1) = 0) (hIc : cf ≤ e2 ∧ ImC fs cf e2 14 cl.2.2 ∧ d01 cl.2.2 ∧ e2 < un ∧ kdM (fs e2) = 0) (hcb : cf < 2 ^ 31) (hnb : nf < 2 ^ 31) (c_8 : nI lc = nI L0) (n_13 : lc = L0) (p1_21 : Nat) (rf_21 : Int32) (fk_21 : Nat → Int32) (hz_21_0 : p1_21 ≤ 32) (c_22 : ¬ runM fs g6 un 200 cf ((0, fv) : StM) = 0) (p1_31 : Nat) (rf_31 : Int32) (fk_31 : Nat → Int32) (hz_31_0 : p1_31 ≤ 32) : (hdM (runM fs g6 un 200 nf ((0, fk_21) : StM)) n2 n3 : Int32) = evT cs L0 g6 n2 n3 ∧ ((p1_31 : Nat) ≤ 32) := by
  refine ⟨?_, by omega⟩
  first | exact ev_y hev hcl hlc (by assumption) hIc hIn hun (q := ((0, _) : StM)) (q2 := ((0, _) : StM)) rfl rfl (by assumption) | exact ev_e hev hCT.1 (by omega)
theorem lf_X9_value_t_35 (a : Nat → Nat) (t : Nat → Nat) (un : Nat) (k1 : Nat) (p1 : Nat) (rf : Int32) (fs : Nat → Int32) (fk : Nat → Int32) (fa3 : Nat → Int32) (fa4 : Nat → Int32) (fa5 : Nat → Int32) (g6 : Nat → Int32) (cs : List ClA) (L0 : Nat) (n2 : Int32) (n3 : Int32) (hp : p1 ≤ 32) (hst : ∀ j, j < 200 → 0 ≤ fs j) (hun : un ≤ 200) (hk1 : k1 ≤ 14) (hL0 : L0 < 256) (hlo : n2 ≤ n3) (hCT : CTk k1 fs un fa3 fa4 fa5 cs) : p1 ≤ 32 := by
  first | assumption | omega | rfl | exact ev_n hev hcl hlc (by assumption) | exact ev_0 hev hcl hIc hun (q := ((0, _) : StM)) rfl (by assumption)
theorem lf_X9_value_t_36 (a : Nat → Nat) (t : Nat → Nat) (un : Nat) (k1 : Nat) (p1 : Nat) (rf : Int32) (fs : Nat → Int32) (fk : Nat → Int32) (fa3 : Nat → Int32) (fa4 : Nat → Int32) (fa5 : Nat → Int32) (g6 : Nat → Int32) (cs : List ClA) (L0 : Nat) (n2 : Int32) (n3 : Int32) (hp : p1 ≤ 32) (hst : ∀ j, j < 200 → 0 ≤ fs j) (hun : un ≤ 200) (hk1 : k1 ≤ 14) (hL0 : L0 < 256) (hlo : n2 ≤ n3) (hCT : CTk k1 fs un fa3 fa4 fa5 cs) : evT cs L0 g6 n2 n3 = evT (cs.drop 0) L0 g6 n2 n3 := by
  first | assumption | omega | rfl | exact ev_n hev hcl hlc (by assumption) | exact ev_0 hev hcl hIc hun (q := ((0, _) : StM)) rfl (by assumption)
set_option maxHeartbeats 4000000 in
set_option maxRecDepth 100000 in
theorem c_X9_value_t (l : Launch) (D : va_G) (cI cB cZ cJ : ClassId) (tx : List (ClassId × FieldType)) (a : Nat → Nat) (t : Nat → Nat) (un : Nat) (k1 : Nat) (p1 : Nat) (rf : Int32) (fs : Nat → Int32) (fk : Nat → Int32) (fa3 : Nat → Int32) (fa4 : Nat → Int32) (fa5 : Nat → Int32) (g6 : Nat → Int32) (cs : List ClA) (L0 : Nat) (n2 : Int32) (n3 : Int32) (hp : p1 ≤ 32) (hst : ∀ j, j < 200 → 0 ≤ fs j) (hun : un ≤ 200) (hk1 : k1 ≤ 14) (hL0 : L0 < 256) (hlo : n2 ≤ n3) (hCT : CTk k1 fs un fa3 fa4 fa5 cs) : WrI l D cI cB cZ cJ tx yX9_value cX9_value 6 (some .int) 3 0 0 [.ref (t 0), .int (nI L0), .ref (a 24), .int n2, .int n3] [(t 0, .inr (9, [.ref (t 1), .ref (t 2), .ref (t 3), .ref (t 4), .ref (t 5), .int (nI un), .int (nI k1), .int (nI p1), .int rf])), (t 1, .inl (cI, 200, .inl fs)), (t 2, .inl (cI, 32, .inl fk)), (t 3, .inl (cI, 14, .inl fa3)), (t 4, .inl (cI, 14, .inl fa4)), (t 5, .inl (cI, 14, .inl fa5)), (a 24, .inl (cI, 26, .inl g6))] (fun (r : Int32) (v : (Nat) × (Int32) × (Nat → Int32)) => r = evT cs L0 g6 n2 n3 ∧ (v.1 ≤ 32)) (fun v => [(t 0, .inr (9, [.ref (t 1), .ref (t 2), .ref (t 3), .ref (t 4), .ref (t 5), .int (nI un), .int (nI k1), .int (nI (v.1)), .int v.2.1])), (t 1, .inl (cI, 200, .inl fs)), (t 2, .inl (cI, 32, .inl v.2.2)), (t 3, .inl (cI, 14, .inl fa3)), (t 4, .inl (cI, 14, .inl fa4)), (t 5, .inl (cI, 14, .inl fa5)), (a 24, .inl (cI, 26, .inl g6))]) := by
  refine wri_of2 (by decide) (Nat.le_of_ble_eq_true rfl) ?_
  intro p e s m below meth c A ls H locs hC hK hP hD hA hS hl
  obtain ⟨hx, hb, hr, hml, hown, hts, hlocks, hin⟩ := hC
  have hown : s.vm.findClass RX9 = some m.cls := hown
  have hl : lv_has ls 6 [(0, .ref (t 0)), (1, .int (nI L0)), (2, .ref (a 24)), (3, .int n2), (4, .int n3)] := hl
  refine W_gQ (fun Q hQ => ?_)
  refine lv_iconst (v := 0) hx hb dX9_value_0 (by decide) ?_
  refine lv_istore (lv' := [(5, .int 0), (0, .ref (t 0)), (1, .int (nI L0)), (2, .ref (a 24)), (3, .int n2), (4, .int n3)]) hx hb dX9_value_1 hl (by decide) rfl (fun ls hl => ?_)
  have lp3 : ∀ (k3 : Nat) (j1 : Nat) (fv : Nat → Int32) (rv : Int32) (pv : Nat) (H : Heap) (locs : List Loc) (ls : Array Slot), j1 ≤ k1 → k1 < j1 + k3 → (pv ≤ 32) → (evT cs L0 g6 n2 n3 = evT (cs.drop j1) L0 g6 n2 n3) → va_P D vwCl [(t 0, .inr (9, [.ref (t 1), .ref (t 2), .ref (t 3), .ref (t 4), .ref (t 5), .int (nI un), .int (nI k1), .int (nI pv), .int rv])), (t 1, .inl (cI, 200, .inl fs)), (t 2, .inl (cI, 32, .inl fv)), (t 3, .inl (cI, 14, .inl fa3)), (t 4, .inl (cI, 14, .inl fa4)), (t 5, .inl (cI, 14, .inl fa5)), (a 24, .inl (cI, 26, .inl g6))] H → va_D A [(t 0, .inr (9, [.ref (t 1), .ref (t 2), .ref (t 3), .ref (t 4), .ref (t 5), .int (nI un), .int (nI k1), .int (nI pv), .int rv])), (t 1, .inl (cI, 200, .inl fs)), (t 2, .inl (cI, 32, .inl fv)), (t 3, .inl (cI, 14, .inl fa3)), (t 4, .inl (cI, 14, .inl fa4)), (t 5, .inl (cI, 14, .inl fa5)), (a 24, .inl (cI, 26, .inl g6))] → va_S A s.heap H locs → lv_has ls 6 [(5, .int (nI j1)), (0, .ref (t 0)), (1, .int (nI L0)), (2, .ref (a 24)), (3, .int n2), (4, .int n3)] → W p l e (rmX 3 0 0) s m ([.ref (t 0), .int (nI L0), .ref (a 24), .int n2, .int n3] : List Value).toArray below meth c H locs 0 0 Q (F0 m 3 ls []) := by
    intro k3
    induction k3 with
    | zero =>
      intro j1 fv rv pv H locs ls hj3 hk3 hpv hev hP hD hS hl
      exact absurd hk3 (by omega)
    | succ k3 ih3 =>
      intro j1 fv rv pv H locs ls hj3 hk3 hpv hev hP hD hS hl
      refine lv_iload hx hb dX9_value_3 (lv_at hl 0 rfl) ?_
      refine lv_aload_n hx hb dX9_value_5 rfl (lv_at hl 1 rfl) ?_
      refine va_get (D := D) (ci := 9) (v := .int (nI k1)) (C := RX9) (T := TX9) (N := 9) hx hb hts inT_X9 hown hK.1 hP 0 rfl rfl 6 (by decide) (hts _ k_200) (fun _ h9 => h9) rfl dX9_value_6 ?_
      refine lv_icmp_ge (tgt := 63) hx hb dX9_value_9 (by decide) (fun c_1 => ?_) (fun c_1 => ?_)
      · have n_2 : k1 ≤ j1 := (lf_X9_value_t_3 a t un k1 p1 rf fs fk fa3 fa4 fa5 g6 cs L0 n2 n3 hp hst hun hk1 hL0 hlo hCT j1 fv rv pv k3 hj3 hk3 hpv hev c_1)
        refine lv_iconst (v := 0) hx hb dX9_value_63 (by decide) ?_
        rw [hQ]
        exact W.iret (v := 0) hx hb hr (fun tt9 ht hW => ⟨⟨(0 : Int32), ((pv : Nat), (rv : Int32), (fv : Nat → Int32)), rfl, (lf_X9_value_t_4 a t un k1 p1 rf fs fk fa3 fa4 fa5 g6 cs L0 n2 n3 hp hst hun hk1 hL0 hlo hCT j1 fv rv pv k3 hj3 hk3 hpv hev c_1 n_2), ⟨by rw [ht]; exact hP, hD⟩⟩, hS.F ht⟩) hS.2.2 dX9_value_64 hlocks
      · have n_5 : j1 < k1 := (lf_X9_value_t_6 a t un k1 p1 rf fs fk fa3 fa4 fa5 g6 cs L0 n2 n3 hp hst hun hk1 hL0 hlo hCT j1 fv rv pv k3 hj3 hk3 hpv hev c_1)
        obtain ⟨cl, lc, nf, e1, cf, e2, hcl, hlc, hl2, hf3, hf4, hf5, hIn, hIc⟩ := CT_at hCT (show j1 < k1 by omega)
        have hcb : cf < 2 ^ 31 := by have q := hIc.1; have q2 := hIc.2.2.2.1; omega
        have hnb : nf < 2 ^ 31 := by have q := hIn.1; have q2 := hIn.2.2.1; omega
        refine lv_aload_n hx hb dX9_value_12 rfl (lv_at hl 1 rfl) ?_
        refine va_get (D := D) (ci := 9) (v := .ref (t 3)) (C := RX9) (T := TX9) (N := 9) hx hb hts inT_X9 hown hK.1 hP 0 rfl rfl 2 (by decide) (hts _ k_196) (fun _ h9 => h9) rfl dX9_value_13 ?_
        refine lv_iload hx hb dX9_value_16 (lv_at hl 0 rfl) ?_
        refine lt_i (j := j1) hx hb hK hP 3 rfl (lf_X9_value_t_7 a t un k1 p1 rf fs fk fa3 fa4 fa5 g6 cs L0 n2 n3 hp hst hun hk1 hL0 hlo hCT j1 fv rv pv k3 hj3 hk3 hpv hev c_1 n_5 cl lc nf e1 cf e2 hcl hlc hl2 hf3 hf4 hf5 hIn hIc hcb hnb) (by decide) dX9_value_18 ?_
        refine lv_topv (y := nI lc) hf3 ?_
        refine lv_iload_n hx hb dX9_value_19 rfl (lv_at hl 2 rfl) ?_
        refine lv_icmp_ne (tgt := 57) hx hb dX9_value_20 (by decide) (fun c_8 => ?_) (fun c_8 => ?_)
        · have n_9 : lc ≠ L0 := (lf_X9_value_t_10 a t un k1 p1 rf fs fk fa3 fa4 fa5 g6 cs L0 n2 n3 hp hst hun hk1 hL0 hlo hCT j1 fv rv pv k3 hj3 hk3 hpv hev c_1 n_5 cl lc nf e1 cf e2 hcl hlc hl2 hf3 hf4 hf5 hIn hIc hcb hnb c_8)
          refine lv_iinc (v := nI (j1 + 1)) (lv' := [(5, .int (nI (j1 + 1))), (0, .ref (t 0)), (1, .int (nI L0)), (2, .ref (a 24)), (3, .int n2), (4, .int n3)]) hx hb dX9_value_57 hl (k := 0) rfl (nI_1 j1) (by decide) rfl (fun ls hl => ?_)
          refine lv_goto (tgt := 3) hx hb dX9_value_60 (by decide) ?_
          exact ih3 (j1 + 1) fv rv pv H locs ls (by omega) (by omega) (lf_X9_value_t_11 a t un k1 p1 rf fs fk fa3 fa4 fa5 g6 cs L0 n2 n3 hp hst hun hk1 hL0 hlo hCT j1 fv rv pv k3 hj3 hk3 hpv hev c_1 n_5 cl lc nf e1 cf e2 hcl hlc hl2 hf3 hf4 hf5 hIn hIc hcb hnb c_8 n_9) (lf_X9_value_t_12 a t un k1 p1 rf fs fk fa3 fa4 fa5 g6 cs L0 n2 n3 hp hst hun hk1 hL0 hlo hCT j1 fv rv pv k3 hj3 hk3 hpv hev c_1 n_5 cl lc nf e1 cf e2 hcl hlc hl2 hf3 hf4 hf5 hIn hIc hcb hnb c_8 n_9) (hP.sub [0, 1, 2, 3, 4, 5, 6] rfl) (hD.sub [0, 1, 2, 3, 4, 5, 6] (by decide) rfl) hS (lv_sub hl [0, 1, 2, 3, 4, 5] rfl)
        · have n_13 : lc = L0 := (lf_X9_value_t_14 a t un k1 p1 rf fs fk fa3 fa4 fa5 g6 cs L0 n2 n3 hp hst hun hk1 hL0 hlo hCT j1 fv rv pv k3 hj3 hk3 hpv hev c_1 n_5 cl lc nf e1 cf e2 hcl hlc hl2 hf3 hf4 hf5 hIn hIc hcb hnb c_8)
          refine lv_aload_n hx hb dX9_value_23 rfl (lv_at hl 1 rfl) ?_
          refine lv_aload_n hx hb dX9_value_24 rfl (lv_at hl 1 rfl) ?_
          refine va_get (D := D) (ci := 9) (v := .ref (t 5)) (C := RX9) (T := TX9) (N := 9) hx hb hts inT_X9 hown hK.1 hP 0 rfl rfl 4 (by decide) (hts _ k_198) (fun _ h9 => h9) rfl dX9_value_25 ?_
          refine lv_iload hx hb dX9_value_28 (lv_at hl 0 rfl) ?_
          refine lt_i (j := j1) hx hb hK hP 5 rfl (lf_X9_value_t_15 a t un k1 p1 rf fs fk fa3 fa4 fa5 g6 cs L0 n2 n3 hp hst hun hk1 hL0 hlo hCT j1 fv rv pv k3 hj3 hk3 hpv hev c_1 n_5 cl lc nf e1 cf e2 hcl hlc hl2 hf3 hf4 hf5 hIn hIc hcb hnb c_8 n_13) (by decide) dX9_value_30 ?_
          refine lv_topv (y := nI cf) hf5 ?_
          refine lv_aload_n hx hb dX9_value_31 rfl (lv_at hl 3 rfl) ?_
          refine eWiP (va_runV (As := [.int (nI cf), .ref (a 24)]) (rest := []) ⟨hx, hb, hml, hown, hts⟩ (c_X9_run_t l D cI cB cZ cJ tx a t un k1 pv rv fs fv g6 cf (lf_X9_value_t_16 a t un k1 p1 rf fs fk fa3 fa4 fa5 g6 cs L0 n2 n3 hp hst hun hk1 hL0 hlo hCT j1 fv rv pv k3 hj3 hk3 hpv hev c_1 n_5 cl lc nf e1 cf e2 hcl hlc hl2 hf3 hf4 hf5 hIn hIc hcb hnb c_8 n_13) (lf_X9_value_t_17 a t un k1 p1 rf fs fk fa3 fa4 fa5 g6 cs L0 n2 n3 hp hst hun hk1 hL0 hlo hCT j1 fv rv pv k3 hj3 hk3 hpv hev c_1 n_5 cl lc nf e1 cf e2 hcl hlc hl2 hf3 hf4 hf5 hIn hIc hcb hnb c_8 n_13) (lf_X9_value_t_18 a t un k1 p1 rf fs fk fa3 fa4 fa5 g6 cs L0 n2 n3 hp hst hun hk1 hL0 hlo hCT j1 fv rv pv k3 hj3 hk3 hpv hev c_1 n_5 cl lc nf e1 cf e2 hcl hlc hl2 hf3 hf4 hf5 hIn hIc hcb hnb c_8 n_13) (lf_X9_value_t_19 a t un k1 p1 rf fs fk fa3 fa4 fa5 g6 cs L0 n2 n3 hp hst hun hk1 hL0 hlo hCT j1 fv rv pv k3 hj3 hk3 hpv hev c_1 n_5 cl lc nf e1 cf e2 hcl hlc hl2 hf3 hf4 hf5 hIn hIc hcb hnb c_8 n_13) H.size) (zV hts k_787 v_X9_run ⟨Nat.le_of_ble_eq_true rfl, Nat.le_of_ble_eq_true rfl⟩) (pV (pxS hK hP hD [0, 1, 2, 6] (by decide) rfl) hK hP 0 rfl rfl) rfl rfl hl.1 rfl (lv_room (Nat.le_of_ble_eq_true rfl)) dX9_value_32 ⟨Nat.le_of_ble_eq_true rfl, Nat.le_of_ble_eq_true rfl⟩) hP hD hS hA [0, 1, 2, 6] [some 0, some 1, some 2, none, none, none, some 3] rfl (by decide +kernel) (fun _ => rfl) (fun r_20 u_21 H locs wr_20 hP hD hS => ?_)
          obtain ⟨p1_21, rf_21, fk_21⟩ := u_21
          have hz_21_0 : p1_21 ≤ 32 := wr_20.2
          have hPD := pd_mk (ws := [(t 0, .inr (9, [.ref (t 1), .ref (t 2), .ref (t 3), .ref (t 4), .ref (t 5), .int (nI un), .int (nI k1), .int (nI p1_21), .int rf_21])), (t 1, .inl (cI, 200, .inl fs)), (t 2, .inl (cI, 32, .inl fk_21)), (t 3, .inl (cI, 14, .inl fa3)), (t 4, .inl (cI, 14, .inl fa4)), (t 5, .inl (cI, 14, .inl fa5)), (a 24, .inl (cI, 26, .inl g6))]) hP hD
          have hP := hPD.1
          have hD := hPD.2
          rcases wr_20 with ⟨rfl, _⟩
          · refine lv_if_eq (tgt := 57) hx hb dX9_value_35 (by decide) (fun c_22 => ?_) (fun c_22 => ?_)
            · refine lv_iinc (v := nI (j1 + 1)) (lv' := [(5, .int (nI (j1 + 1))), (0, .ref (t 0)), (1, .int (nI L0)), (2, .ref (a 24)), (3, .int n2), (4, .int n3)]) hx hb dX9_value_57 hl (k := 0) rfl (nI_1 j1) (by decide) rfl (fun ls hl => ?_)
              refine lv_goto (tgt := 3) hx hb dX9_value_60 (by decide) ?_
              exact ih3 (j1 + 1) fk_21 rf_21 p1_21 H locs ls (by omega) (by omega) (lf_X9_value_t_23 a t un k1 p1 rf fs fk fa3 fa4 fa5 g6 cs L0 n2 n3 hp hst hun hk1 hL0 hlo hCT j1 fv rv pv k3 hj3 hk3 hpv hev c_1 n_5 cl lc nf e1 cf e2 hcl hlc hl2 hf3 hf4 hf5 hIn hIc hcb hnb c_8 n_13 p1_21 rf_21 fk_21 hz_21_0 c_22) (lf_X9_value_t_24 a t un k1 p1 rf fs fk fa3 fa4 fa5 g6 cs L0 n2 n3 hp hst hun hk1 hL0 hlo hCT j1 fv rv pv k3 hj3 hk3 hpv hev c_1 n_5 cl lc nf e1 cf e2 hcl hlc hl2 hf3 hf4 hf5 hIn hIc hcb hnb c_8 n_13 p1_21 rf_21 fk_21 hz_21_0 c_22) (hP.sub [0, 1, 2, 3, 4, 5, 6] rfl) (hD.sub [0, 1, 2, 3, 4, 5, 6] (by decide) rfl) hS (lv_sub hl [0, 1, 2, 3, 4, 5] rfl)
            · refine lv_aload_n hx hb dX9_value_38 rfl (lv_at hl 1 rfl) ?_
              refine lv_aload_n hx hb dX9_value_39 rfl (lv_at hl 1 rfl) ?_
              refine va_get (D := D) (ci := 9) (v := .ref (t 4)) (C := RX9) (T := TX9) (N := 9) hx hb hts inT_X9 hown hK.1 hP 0 rfl rfl 3 (by decide) (hts _ k_197) (fun _ h9 => h9) rfl dX9_value_40 ?_
              refine lv_iload hx hb dX9_value_43 (lv_at hl 0 rfl) ?_
              refine lt_i (j := j1) hx hb hK hP 4 rfl (lf_X9_value_t_25 a t un k1 p1 rf fs fk fa3 fa4 fa5 g6 cs L0 n2 n3 hp hst hun hk1 hL0 hlo hCT j1 fv rv pv k3 hj3 hk3 hpv hev c_1 n_5 cl lc nf e1 cf e2 hcl hlc hl2 hf3 hf4 hf5 hIn hIc hcb hnb c_8 n_13 p1_21 rf_21 fk_21 hz_21_0 c_22) (by decide) dX9_value_45 ?_
              refine lv_topv (y := nI nf) hf4 ?_
              refine lv_aload_n hx hb dX9_value_46 rfl (lv_at hl 3 rfl) ?_
              refine eWiP (va_runV (As := [.int (nI nf), .ref (a 24)]) (rest := []) ⟨hx, hb, hml, hown, hts⟩ (c_X9_run_t l D cI cB cZ cJ tx a t un k1 p1_21 rf_21 fs fk_21 g6 nf (lf_X9_value_t_26 a t un k1 p1 rf fs fk fa3 fa4 fa5 g6 cs L0 n2 n3 hp hst hun hk1 hL0 hlo hCT j1 fv rv pv k3 hj3 hk3 hpv hev c_1 n_5 cl lc nf e1 cf e2 hcl hlc hl2 hf3 hf4 hf5 hIn hIc hcb hnb c_8 n_13 p1_21 rf_21 fk_21 hz_21_0 c_22) (lf_X9_value_t_27 a t un k1 p1 rf fs fk fa3 fa4 fa5 g6 cs L0 n2 n3 hp hst hun hk1 hL0 hlo hCT j1 fv rv pv k3 hj3 hk3 hpv hev c_1 n_5 cl lc nf e1 cf e2 hcl hlc hl2 hf3 hf4 hf5 hIn hIc hcb hnb c_8 n_13 p1_21 rf_21 fk_21 hz_21_0 c_22) (lf_X9_value_t_28 a t un k1 p1 rf fs fk fa3 fa4 fa5 g6 cs L0 n2 n3 hp hst hun hk1 hL0 hlo hCT j1 fv rv pv k3 hj3 hk3 hpv hev c_1 n_5 cl lc nf e1 cf e2 hcl hlc hl2 hf3 hf4 hf5 hIn hIc hcb hnb c_8 n_13 p1_21 rf_21 fk_21 hz_21_0 c_22) (lf_X9_value_t_29 a t un k1 p1 rf fs fk fa3 fa4 fa5 g6 cs L0 n2 n3 hp hst hun hk1 hL0 hlo hCT j1 fv rv pv k3 hj3 hk3 hpv hev c_1 n_5 cl lc nf e1 cf e2 hcl hlc hl2 hf3 hf4 hf5 hIn hIc hcb hnb c_8 n_13 p1_21 rf_21 fk_21 hz_21_0 c_22) H.size) (zV hts k_787 v_X9_run ⟨Nat.le_of_ble_eq_true rfl, Nat.le_of_ble_eq_true rfl⟩) (pV (pxS hK hP hD [0, 1, 2, 6] (by decide) rfl) hK hP 0 rfl rfl) rfl rfl hl.1 rfl (lv_room (Nat.le_of_ble_eq_true rfl)) dX9_value_47 ⟨Nat.le_of_ble_eq_true rfl, Nat.le_of_ble_eq_true rfl⟩) hP hD hS hA [0, 1, 2, 6] [some 0, some 1, some 2, none, none, none, some 3] rfl (by decide +kernel) (fun _ => rfl) (fun r_30 u_31 H locs wr_30 hP hD hS => ?_)
              obtain ⟨p1_31, rf_31, fk_31⟩ := u_31
              have hz_31_0 : p1_31 ≤ 32 := wr_30.2
              have hPD := pd_mk (ws := [(t 0, .inr (9, [.ref (t 1), .ref (t 2), .ref (t 3), .ref (t 4), .ref (t 5), .int (nI un), .int (nI k1), .int (nI p1_31), .int rf_31])), (t 1, .inl (cI, 200, .inl fs)), (t 2, .inl (cI, 32, .inl fk_31)), (t 3, .inl (cI, 14, .inl fa3)), (t 4, .inl (cI, 14, .inl fa4)), (t 5, .inl (cI, 14, .inl fa5)), (a 24, .inl (cI, 26, .inl g6))]) hP hD
              have hP := hPD.1
              have hD := hPD.2
              rcases wr_30 with ⟨rfl, _⟩
              · refine lv_iload_n hx hb dX9_value_50 rfl (lv_at hl 4 rfl) ?_
                refine lv_iload hx hb dX9_value_51 (lv_at hl 5 rfl) ?_
                refine eRi (va_runSN (As := [.int (runM fs g6 un 200 nf ((0, fk_21) : StM)), .int n2, .int n3]) (rest := []) ⟨hx, hb, hml, hown, hts⟩ (c_X11_held_t l D cI cB cZ cJ tx (runM fs g6 un 200 nf ((0, fk_21) : StM)) n2 n3 (lf_X9_value_t_32 a t un k1 p1 rf fs fk fa3 fa4 fa5 g6 cs L0 n2 n3 hp hst hun hk1 hL0 hlo hCT j1 fv rv pv k3 hj3 hk3 hpv hev c_1 n_5 cl lc nf e1 cf e2 hcl hlc hl2 hf3 hf4 hf5 hIn hIc hcb hnb c_8 n_13 p1_21 rf_21 fk_21 hz_21_0 c_22 p1_31 rf_31 fk_31 hz_31_0) H.size) (zSN hts hK n_807 v_X11_held ⟨Nat.le_of_ble_eq_true rfl, Nat.le_of_ble_eq_true rfl⟩) (px0 hK) rfl rfl hl.1 rfl (lv_room (Nat.le_of_ble_eq_true rfl)) dX9_value_53 ⟨Nat.le_of_ble_eq_true rfl, Nat.le_of_ble_eq_true rfl⟩) hP hS hA (fun r_33 H locs wr_33 hP hS => ?_)
                subst wr_33
                rw [hQ]
                exact W.iret (v := hdM (runM fs g6 un 200 nf ((0, fk_21) : StM)) n2 n3) hx hb hr (fun tt9 ht hW => ⟨⟨(hdM (runM fs g6 un 200 nf ((0, fk_21) : StM)) n2 n3 : Int32), ((p1_31 : Nat), (rf_31 : Int32), (fk_31 : Nat → Int32)), rfl, (lf_X9_value_t_34 a t un k1 p1 rf fs fk fa3 fa4 fa5 g6 cs L0 n2 n3 hp hst hun hk1 hL0 hlo hCT j1 fv rv pv k3 hj3 hk3 hpv hev c_1 n_5 cl lc nf e1 cf e2 hcl hlc hl2 hf3 hf4 hf5 hIn hIc hcb hnb c_8 n_13 p1_21 rf_21 fk_21 hz_21_0 c_22 p1_31 rf_31 fk_31 hz_31_0), ⟨by rw [ht]; exact hP, hD⟩⟩, hS.F ht⟩) hS.2.2 dX9_value_56 hlocks
  exact lp3 (k1 + 1) 0 fk rf p1 H locs ls (by omega) (by omega) (lf_X9_value_t_35 a t un k1 p1 rf fs fk fa3 fa4 fa5 g6 cs L0 n2 n3 hp hst hun hk1 hL0 hlo hCT) (lf_X9_value_t_36 a t un k1 p1 rf fs fk fa3 fa4 fa5 g6 cs L0 n2 n3 hp hst hun hk1 hL0 hlo hCT) (hP.sub [0, 1, 2, 3, 4, 5, 6] rfl) (hD.sub [0, 1, 2, 3, 4, 5, 6] (by decide) rfl) hS (lv_sub hl [0, 1, 2, 3, 4, 5] rfl)

/-! THE TEXTS, 8: the reader with one stack, told by the machine -/
def DK (c : Nat → Int32) (a : Nat) : Nat → Nat → Nat → Prop
  | 0, m, n => n = m
  | k + 1, m, n => ∃ x, DK c a k m x ∧ stp (c (a + k)) x n
theorem DK.congr {c c1 : Nat → Int32} {a m : Nat} : ∀ {k n : Nat}, (∀ j, a ≤ j → j < a + k → c1 j = c j) → DK c a k m n → DK c1 a k m n := by
  intro k
  induction k with
  | zero => intro n _ h; exact h
  | succ k ih =>
    intro n hc h
    obtain ⟨x, h1, h2⟩ := h
    refine ⟨x, ih (fun j h3 h4 => hc j h3 (by omega)) h1, ?_⟩
    rw [hc (a + k) (by omega) (by omega)]
    exact h2
theorem DK.add {c : Nat → Int32} {a x m n : Nat} : ∀ {y r : Nat}, DK c a x m n → DK c (a + x) y n r → DK c a (x + y) m r := by
  intro y
  induction y with
  | zero => intro r h k; rw [show r = n from k]; exact h
  | succ y ih =>
    intro r h k
    obtain ⟨z, k1, k2⟩ := k
    refine ⟨z, ih h k1, ?_⟩
    have e : a + (x + y) = a + x + y := by omega
    show stp (c (a + (x + y))) z r
    rw [e]
    exact k2
theorem DK.dp {c : Nat → Int32} {a : Nat} : ∀ {k n : Nat}, DK c a k 0 n → DP c a k n := by
  intro k
  induction k with
  | zero => intro n h; exact h
  | succ k ih =>
    intro n h
    obtain ⟨x, h1, h2⟩ := h
    exact ⟨x, ih h1, h2⟩
def DQ (c : Nat → Int32) (a b : Nat) : Prop := ∀ m, DK c a (b - a) m (m + 1)
def ImQ (nc na : Nat → Int32) (a b : Nat) (d : DnM) : Prop := ImR nc na a b d ∧ DQ nc a b
theorem ImQ.fs {nc na nc1 na1 : Nat → Int32} {a b : Nat} {d : DnM} (h : ImQ nc na a b d) (e : ∀ j, j < b → nc1 j = nc j ∧ na1 j = na j) : ImQ nc1 na1 a b d :=
  ⟨ImR_fs h.1 (fun j _ h2 => e j h2), fun m => (h.2 m).congr (fun j h1 h2 => (e j (by have := h.1.1; omega)).1)⟩
theorem ImQ.gs {nc na : Nat → Int32} {a b : Nat} {d : DnM} (h : ImQ nc na a b d) : GS nc a b := ⟨_, (h.2 0).dp⟩
theorem ImQ.num {nc na : Nat → Int32} {a : Nat} {x : Int32} (h : nc a = 0) (e : na a = x) : ImQ nc na a (a + 1) (dNum x) := by
  refine ⟨ImR_num h e, fun m => ?_⟩
  rw [show a + 1 - a = 1 by omega]
  exact ⟨m, rfl, Or.inr (Or.inr ⟨Or.inl h, rfl⟩)⟩
theorem ImQ.ltr {nc na : Nat → Int32} {a i : Nat} (h : nc a = 1) (e : na a = nI (97 + i)) (hi : i < 26) : ImQ nc na a (a + 1) (dLet i) := by
  refine ⟨ImR_let h e hi, fun m => ?_⟩
  rw [show a + 1 - a = 1 by omega]
  exact ⟨m, rfl, Or.inr (Or.inr ⟨Or.inr h, rfl⟩)⟩
theorem DQ.bin {c : Nat → Int32} {a b e : Nat} (h1 : DQ c a b) (h2 : DQ c b e) (l1 : a ≤ b) (l2 : b ≤ e) (hc : 2 < c e) : DQ c a (e + 1) := by
  intro m
  have k1 := h1 m
  have k2 := h2 (m + 1)
  rw [show b = a + (b - a) by omega] at k2
  have k3 := k1.add k2
  rw [show a + (b - a) = b by omega, show b - a + (e - b) = e - a by omega] at k3
  rw [show e + 1 - a = e - a + 1 by omega]
  refine ⟨m + 1 + 1, k3, Or.inl ⟨?_, by omega, by omega⟩⟩
  rw [show a + (e - a) = e by omega]
  exact hc
theorem ImQ.bin {nc na : Nat → Int32} {a b c k : Nat} {d e : DnM} (h1 : ImQ nc na a b d) (h2 : ImQ nc na b c e) (hk : kcR k (nc c)) : ImQ nc na a (c + 1) (dBin k d e) := ⟨ImR_bin h1.1 h2.1 hk, h1.2.bin h2.2 h1.1.1 h2.1.1 (kc_2 hk).1⟩
theorem ImQ.and {nc na : Nat → Int32} {a b c : Nat} {d e : DnM} (h1 : ImQ nc na a b d) (h2 : ImQ nc na b c e) (hc : nc c = 38) (hd : d01 d) : ImQ nc na a (c + 1) (dAnd d e) := ⟨ImR_and h1.1 h2.1 hc hd, h1.2.bin h2.2 h1.1.1 h2.1.1 (by rw [hc]; decide)⟩
theorem ImQ.or {nc na : Nat → Int32} {a b c : Nat} {d e : DnM} (h1 : ImQ nc na a b d) (h2 : ImQ nc na b c e) (hc : nc c = 124) (hd : d01 d) : ImQ nc na a (c + 1) (dOr d e) := ⟨ImR_or h1.1 h2.1 hc hd, h1.2.bin h2.2 h1.1.1 h2.1.1 (by rw [hc]; decide)⟩
theorem ImQ.not {nc na : Nat → Int32} {a b : Nat} {d : DnM} (h1 : ImQ nc na a b d) (hk : nc b = 2) : ImQ nc na a (b + 1) (dNot d) := by
  refine ⟨ImR_not h1.1 hk, fun m => ?_⟩
  have l1 := h1.1.1
  rw [show b + 1 - a = b - a + 1 by omega]
  refine ⟨m + 1, h1.2 m, Or.inr (Or.inl ⟨?_, by omega, rfl⟩)⟩
  rw [show a + (b - a) = b by omega]
  exact hk
def Rep (st : Nat → Int32) : Nat → StkA → Prop
  | sp, [] => sp = 0
  | sp, x :: g => ∃ n, sp = n + 1 ∧ st n = nI x.1 ∧ x.1 < 256 ∧ Rep st n g
theorem Rep.congr {st s1 : Nat → Int32} : ∀ {g : StkA} {sp : Nat}, (∀ j, j < sp → s1 j = st j) → Rep st sp g → Rep s1 sp g := by
  intro g
  induction g with
  | nil => intro sp _ h; exact h
  | cons x g ih =>
    intro sp hc h
    obtain ⟨n, e, h1, h2, h3⟩ := h
    exact ⟨n, e, by rw [hc n (by omega)]; exact h1, h2, ih (fun j hj => hc j (by omega)) h3⟩
theorem Rep.top {st : Nat → Int32} {g : StkA} {sp : Nat} (h : Rep st sp g) (hs : 0 < sp) : ∃ x g1, g = x :: g1 ∧ st (sp - 1) = nI x.1 ∧ x.1 < 256 ∧ Rep st (sp - 1) g1 := by
  cases g with
  | nil => exact absurd (show sp = 0 from h) (by omega)
  | cons x g1 =>
    obtain ⟨n, e, h1, h2, h3⟩ := h
    subst e
    exact ⟨x, g1, rfl, h1, h2, h3⟩
theorem Rep.nil {st : Nat → Int32} {g : StkA} (h : Rep st 0 g) : g = [] := by
  cases g with
  | nil => rfl
  | cons x g1 =>
    obtain ⟨n, e, -⟩ := h
    omega
theorem Rep.push {st s1 : Nat → Int32} {g : StkA} {sp c : Nat} {d : DnM} (h : Rep st sp g) (e : s1 = upd st sp (nI c)) (hc : c < 256) : Rep s1 (sp + 1) ((c, d) :: g) :=
  ⟨sp, rfl, by rw [e, upd_a], hc, h.congr (fun j hj => by rw [e, upd_o (by omega)])⟩
abbrev isBn (c : Nat) : Prop := ¬ tmP c = 0 ∨ ¬ plP c = 0 ∨ ¬ cmP c = 0 ∨ c = 38 ∨ c = 124
def SgA (nc na : Nat → Int32) (a : Nat) : StkA → Nat → Prop
  | [], c => c = a
  | x :: g, c => (isBn x.1 → ∃ m, SgA nc na a g m ∧ ImQ nc na m c x.2 ∧ (x.1 = 38 ∨ x.1 = 124 → d01 x.2)) ∧ (¬ isBn x.1 → SgA nc na a g c)
theorem SgA.le {nc na : Nat → Int32} {a : Nat} : ∀ {g : StkA} {c : Nat}, SgA nc na a g c → a ≤ c := by
  intro g
  induction g with
  | nil => intro c h; rw [show c = a from h]; exact Nat.le_refl _
  | cons x g ih =>
    intro c h
    by_cases q : isBn x.1
    · obtain ⟨m, h1, h2, -⟩ := h.1 q
      have := ih h1
      have := h2.1.1
      omega
    · exact ih (h.2 q)
theorem SgA.fs {nc na nc1 na1 : Nat → Int32} {a : Nat} : ∀ {g : StkA} {c : Nat}, SgA nc na a g c → (∀ j, j < c → nc1 j = nc j ∧ na1 j = na j) → SgA nc1 na1 a g c := by
  intro g
  induction g with
  | nil => intro c h _; exact h
  | cons x g ih =>
    intro c h e
    refine ⟨fun q => ?_, fun q => ih (h.2 q) e⟩
    obtain ⟨m, h1, h2, h3⟩ := h.1 q
    have := h2.1.1
    exact ⟨m, ih h1 (fun j hj => e j (by omega)), h2.fs e, h3⟩
theorem u2 {nc na nc1 na1 : Nat → Int32} {cd : Nat} {x y : Int32} (e1 : nc1 = upd nc cd x) (e2 : na1 = upd na cd y) : ∀ j, j < cd → nc1 j = nc j ∧ na1 j = na j := fun j hj => ⟨by rw [e1, upd_o (by omega)], by rw [e2, upd_o (by omega)]⟩
/-- what the reader holds, by the machine's modes -/
def Q0 (b : Nat → Nat) (S : StA) (dE : DnM) (a : Nat) (st nc na : Nat → Int32) (cd sp on pl : Nat) : Prop := (∃ g, LdA b S (S0 g dE pl) ∧ Rep st sp g ∧ SgA nc na a g cd ∧ on = opn g) ∧ cd + sp ≤ pl ∧ on ≤ 6
def Q1 (b : Nat → Nat) (S : StA) (dE : DnM) (a : Nat) (st nc na : Nat → Int32) (cd sp on pl : Nat) : Prop := (∃ g d, LdA b S (S1 g d dE pl) ∧ Rep st sp g ∧ (∃ m, SgA nc na a g m ∧ ImQ nc na m cd d) ∧ on = opn g) ∧ cd + sp ≤ pl ∧ on ≤ 6
def Q2 (b : Nat → Nat) (S : StA) (dE : DnM) (a : Nat) (st nc na : Nat → Int32) (cd sp on pl : Nat) : Prop := (∃ g, LdA b S (S2 g dE pl) ∧ Rep st sp g ∧ SgA nc na a g cd ∧ on = opn g) ∧ cd + sp ≤ pl ∧ on ≤ 6
def Q3 (b : Nat → Nat) (S : StA) (dE : DnM) (a : Nat) (st nc na : Nat → Int32) (cd sp on pl : Nat) : Prop := (∃ g d, LdA b S (S3 g d dE pl) ∧ Rep st sp g ∧ (∃ m, SgA nc na a g m ∧ ImQ nc na m cd d) ∧ d01 d ∧ on = opn g) ∧ cd + sp ≤ pl ∧ on ≤ 6
def Q4 (b : Nat → Nat) (S : StA) (dE : DnM) (a : Nat) (nc na : Nat → Int32) (cd pl : Nat) : Prop := ∃ d, LdA b S (S4 d dE pl) ∧ ImQ nc na a cd d ∧ d01 d
def QE (b : Nat → Nat) (S : StA) (bd : Int32) : Prop := ∃ e q, bd = (-1000) * e - nI q ∧ LdA b S (SE e q)
/-- what lies below and ahead stays -/
def Fz (s0 st n0 nc m0 na : Nat → Int32) (B sp c0 cd : Nat) : Prop := (B ≤ sp ∧ ∀ j, j < B → st j = s0 j) ∧ (c0 ≤ cd ∧ ∀ j, j < c0 → nc j = n0 j ∧ na j = m0 j)
def VB (s0 st n0 nc m0 na : Nat → Int32) (B sp c0 cd : Nat) : Prop := Fz s0 st n0 nc m0 na B sp c0 cd ∧ (B = 0 ∨ ¬ AS_ (s0 (B - 1))) ∧ ∀ j, B ≤ j → j < sp → AS_ (st j)
def V0 (b : Nat → Nat) (S : StA) (dE : DnM) (a : Nat) (s0 n0 m0 : Nat → Int32) (B c0 : Nat) (st nc na : Nat → Int32) (cd sp on pl : Nat) : Prop := Q0 b S dE a st nc na cd sp on pl ∧ VB s0 st n0 nc m0 na B sp c0 cd
def V1 (b : Nat → Nat) (S : StA) (dE : DnM) (a : Nat) (s0 n0 m0 : Nat → Int32) (B c0 : Nat) (st nc na : Nat → Int32) (cd sp on pl : Nat) : Prop := Q1 b S dE a st nc na cd sp on pl ∧ VB s0 st n0 nc m0 na B sp c0 cd
/-- behind a whole number -/
def VE (b : Nat → Nat) (S : StA) (dE : DnM) (a : Nat) (s0 n0 m0 : Nat → Int32) (B c0 : Nat) (st nc na : Nat → Int32) (cd sp on pl : Nat) : Prop := Q1 b S dE a st nc na cd sp on pl ∧ Fz s0 st n0 nc m0 na B sp c0 cd ∧ sp = B ∧ ¬ kS (b pl)
theorem isT_n : ∀ c, c < 256 → (isT (nI c) ↔ ¬ tmP c = 0) := by decide +kernel
theorem isP_n : ∀ c, c < 256 → (isP (nI c) ↔ ¬ plP c = 0) := by decide +kernel
theorem n91 : ∀ c, c < 256 → (nI c = 91 ↔ c = 91) := by decide +kernel
theorem n33 : ∀ c, c < 256 → (nI c = 33 ↔ c = 33) := by decide +kernel
theorem n38 : ∀ c, c < 256 → (nI c = 38 ↔ c = 38) := by decide +kernel
theorem n40 : ∀ c, c < 256 → (nI c = 40 ↔ c = 40) := by decide +kernel
theorem n124 : ∀ c, c < 256 → (nI c = 124 ↔ c = 124) := by decide +kernel
theorem tm_is : ∀ c, c < 256 → ¬ tmP c = 0 → c = 42 ∨ c = 47 ∨ c = 37 := by decide +kernel
theorem pl_is : ∀ c, c < 256 → ¬ plP c = 0 → c = 43 ∨ c = 45 := by decide +kernel
theorem cm_is : ∀ c, c < 256 → ¬ cmP c = 0 → c = 60 ∨ c = 62 ∨ c = 61 := by decide +kernel
theorem kc_tm (c : Nat) (hc : c < 256) (h : ¬ tmP c = 0) : kcR (tmP c) (nI c) := by
  rcases tm_is c hc h with rfl | rfl | rfl
  · exact Or.inr (Or.inr (Or.inl ⟨rfl, rfl⟩))
  · exact Or.inr (Or.inr (Or.inr (Or.inl ⟨rfl, rfl⟩)))
  · exact Or.inr (Or.inr (Or.inr (Or.inr (Or.inl ⟨rfl, rfl⟩))))
theorem kc_pl (c : Nat) (hc : c < 256) (h : ¬ plP c = 0) : kcR (plP c) (nI c) := by
  rcases pl_is c hc h with rfl | rfl
  · exact Or.inl ⟨rfl, rfl⟩
  · exact Or.inr (Or.inl ⟨rfl, rfl⟩)
theorem kc_cm (c : Nat) (hc : c < 256) (h : ¬ cmP c = 0) : kcR (cmP c) (nI c) := by
  rcases cm_is c hc h with rfl | rfl | rfl
  · exact Or.inr (Or.inr (Or.inr (Or.inr (Or.inr (Or.inl ⟨rfl, rfl⟩)))))
  · exact Or.inr (Or.inr (Or.inr (Or.inr (Or.inr (Or.inr (Or.inl ⟨rfl, rfl⟩))))))
  · exact Or.inr (Or.inr (Or.inr (Or.inr (Or.inr (Or.inr (Or.inr ⟨rfl, rfl⟩))))))
section NUMV
variable {b : Nat → Nat} {S : StA} {dE : DnM} {a B c0 cd sp on pl cd1 sp1 on1 pl1 : Nat} {s0 n0 m0 st nc na st1 nc1 na1 : Nat → Int32} {x : Int32}
theorem V0.start (h : Q0 b S dE a st nc na cd sp on pl) (hB : sp = 0 ∨ ¬ AS_ (st (sp - 1))) : V0 b S dE a st nc na sp cd st nc na cd sp on pl :=
  ⟨h, ⟨⟨Nat.le_refl _, fun _ _ => rfl⟩, Nat.le_refl _, fun _ _ => ⟨rfl, rfl⟩⟩, hB, fun j h1 h2 => by omega⟩
theorem VB.code (h : VB s0 st n0 nc m0 na B sp c0 cd) {y : Int32} (e1 : nc1 = upd nc cd x) (e2 : na1 = upd na cd y) : VB s0 st n0 nc1 m0 na1 B sp c0 (cd + 1) := by
  obtain ⟨⟨h1, h2, h3⟩, h4⟩ := h
  refine ⟨⟨h1, by omega, fun j hj => ?_⟩, h4⟩
  obtain ⟨q1, q2⟩ := u2 e1 e2 j (by omega)
  rw [q1, q2]
  exact h3 j hj
theorem VB.pop (h : VB s0 st n0 nc m0 na B sp c0 cd) (hs : 0 < sp) (ht : AS_ (st (sp - 1))) : VB s0 st n0 nc m0 na B (sp - 1) c0 cd := by
  obtain ⟨⟨⟨h1, h1'⟩, h2⟩, h3, h4⟩ := h
  have hB : B ≤ sp - 1 := by
    rcases Nat.lt_or_ge (sp - 1) B with q | q
    · have e : B = sp := by omega
      subst e
      rw [h1' _ (by omega)] at ht
      exact absurd ht (h3.resolve_left (by omega))
    · exact q
  exact ⟨⟨⟨hB, h1'⟩, h2⟩, h3, fun j q1 q2 => h4 j q1 (by omega)⟩
theorem VB.psh (h : VB s0 st n0 nc m0 na B sp c0 cd) (e : st1 = upd st sp x) (ht : AS_ x) : VB s0 st1 n0 nc m0 na B (sp + 1) c0 cd := by
  obtain ⟨⟨⟨h1, h1'⟩, h2⟩, h3, h4⟩ := h
  refine ⟨⟨⟨by omega, fun j hj => by rw [e, upd_o (by omega)]; exact h1' j hj⟩, h2⟩, h3, fun j q1 q2 => ?_⟩
  by_cases q : j = sp
  · rw [q, e, upd_a]; exact ht
  · rw [e, upd_o q]; exact h4 j q1 (by omega)
theorem V0.num {v : Nat} (h : V0 b S dE a s0 n0 m0 B c0 st nc na cd sp on pl) (hd : dgP (b pl)) (hn : nuP b 5 0 pl = .inr (v, pl1)) (hp : pl + 1 ≤ pl1) (e1 : nc1 = upd nc cd 0) (e2 : na1 = upd na cd (nI v)) (ec : cd1 = cd + 1) : V1 b S dE a s0 n0 m0 B c0 st nc1 na1 cd1 sp on pl1 := by
  subst ec
  obtain ⟨⟨⟨g, l, r, s, o⟩, c, o6⟩, hv⟩ := h
  exact ⟨⟨⟨g, _, l.tr (ld_num hd hn), r, ⟨cd, s.fs (u2 e1 e2), ImQ.num (by rw [e1, upd_a]) (by rw [e2, upd_a])⟩, o⟩, by omega, o6⟩, hv.code e1 e2⟩
theorem V0.ltr (h : V0 b S dE a s0 n0 m0 B c0 st nc na cd sp on pl) (hd : ltP (b pl)) (e1 : nc1 = upd nc cd 1) (e2 : na1 = upd na cd (nI (b pl))) (ec : cd1 = cd + 1) (ep : pl1 = pl + 1) : V1 b S dE a s0 n0 m0 B c0 st nc1 na1 cd1 sp on pl1 := by
  subst ec ep
  obtain ⟨⟨⟨g, l, r, s, o⟩, c, o6⟩, hv⟩ := h
  exact ⟨⟨⟨g, _, l.tr (ld_let hd), r, ⟨cd, s.fs (u2 e1 e2), ImQ.ltr (by rw [e1, upd_a]) (by rw [e2, upd_a, show 97 + (b pl - 97) = b pl by omega]) (by omega)⟩, o⟩, by omega, o6⟩, hv.code e1 e2⟩
theorem V0.num2 {q : Nat} (h : V0 b S dE a s0 n0 m0 B c0 st nc na cd sp on pl) (hd : dgP (b pl)) (hn : nuP b 5 0 pl = .inl q) (e : x = (-1000) * nI 2 - nI q) : QE b S x := by
  obtain ⟨⟨⟨g, l, r, s, o⟩, c⟩, hv⟩ := h
  exact ⟨2, q, e, l.tr (ld_num2 hd hn)⟩
theorem V0.no (h : V0 b S dE a s0 n0 m0 B c0 st nc na cd sp on pl) (h1 : ¬ b pl = 91) (h2 : ¬ dgP (b pl)) (h3 : ¬ ltP (b pl)) (e : x = (-1000) * nI 1 - nI pl) : QE b S x := by
  obtain ⟨⟨⟨g, l, r, s, o⟩, c⟩, hv⟩ := h
  exact ⟨1, pl, e, l.tr (ld_no h1 h2 h3)⟩
theorem V0.br (h : V0 b S dE a s0 n0 m0 B c0 st nc na cd sp on pl) (h1 : b pl = 91) (ho : on < 6) (es : st1 = upd st sp (nI (b pl))) (e1 : sp1 = sp + 1) (e2 : on1 = on + 1) (e3 : pl1 = pl + 1) : V0 b S dE a s0 n0 m0 B c0 st1 nc na cd sp1 on1 pl1 := by
  subst e1 e2 e3
  obtain ⟨⟨⟨g, l, r, s, o⟩, c, o6⟩, hv⟩ := h
  rw [h1] at es
  exact ⟨⟨⟨_, l.tr (ld_br h1 (by omega)), r.push es (by decide), ⟨fun q => absurd q (by decide), fun _ => s⟩, by rw [opn_o (by omega), o]⟩, by omega, by omega⟩, hv.psh es (Or.inr rfl)⟩
theorem V0.br5 (h : V0 b S dE a s0 n0 m0 B c0 st nc na cd sp on pl) (h1 : b pl = 91) (ho : on = 6) (e : x = (-1000) * nI 5 - nI pl) : QE b S x := by
  obtain ⟨⟨⟨g, l, r, s, o⟩, c⟩, hv⟩ := h
  exact ⟨5, pl, e, l.tr (ld_br5 h1 (by omega))⟩
theorem V1.popT {y : Int32} (h : V1 b S dE a s0 n0 m0 B c0 st nc na cd sp on pl) (hs : 0 < sp) (ht : isT (st (sp - 1))) (e1 : nc1 = upd nc cd (st (sp - 1))) (e2 : na1 = upd na cd y) (ec : cd1 = cd + 1) (es : sp1 = sp - 1) : V1 b S dE a s0 n0 m0 B c0 st nc1 na1 cd1 sp1 on pl := by
  subst ec es
  obtain ⟨⟨⟨g, d, l, r, ⟨m, s1, s2⟩, o⟩, c, o6⟩, hv⟩ := h
  obtain ⟨x, g1, rfl, x1, x2, x3⟩ := r.top hs
  have hv := hv.pop hs (Or.inl (Or.inl ht))
  rw [x1] at ht e1
  have ht := (isT_n _ x2).mp ht
  obtain ⟨m0, t1, t2, -⟩ := s1.1 (Or.inl ht)
  have le2 := s2.1.1
  have le1 := t2.1.1
  have hu := u2 e1 e2
  refine ⟨⟨⟨g1, _, l.tr (ld_tm ht), x3, ⟨m0, t1.fs (fun j hj => hu j (by omega)), (t2.fs (fun j hj => hu j (by omega))).bin (s2.fs hu) (by rw [e1, upd_a]; exact kc_tm _ x2 ht)⟩, o.trans (opn_n (kT_n ht))⟩, by omega, o6⟩, hv.code e1 e2⟩
theorem V1.popP {y : Int32} (h : V1 b S dE a s0 n0 m0 B c0 st nc na cd sp on pl) (hs : 0 < sp) (ht : isP (st (sp - 1))) (hb : tmP (b pl) = 0) (e1 : nc1 = upd nc cd (st (sp - 1))) (e2 : na1 = upd na cd y) (ec : cd1 = cd + 1) (es : sp1 = sp - 1) : V1 b S dE a s0 n0 m0 B c0 st nc1 na1 cd1 sp1 on pl := by
  subst ec es
  obtain ⟨⟨⟨g, d, l, r, ⟨m, s1, s2⟩, o⟩, c, o6⟩, hv⟩ := h
  obtain ⟨x, g1, rfl, x1, x2, x3⟩ := r.top hs
  have hv := hv.pop hs (Or.inl (Or.inr ht))
  rw [x1] at ht e1
  have ht := (isP_n _ x2).mp ht
  obtain ⟨m0, t1, t2, -⟩ := s1.1 (Or.inr (Or.inl ht))
  have le2 := s2.1.1
  have le1 := t2.1.1
  have hu := u2 e1 e2
  refine ⟨⟨⟨g1, _, l.tr (ld_pl ht hb), x3, ⟨m0, t1.fs (fun j hj => hu j (by omega)), (t2.fs (fun j hj => hu j (by omega))).bin (s2.fs hu) (by rw [e1, upd_a]; exact kc_pl _ x2 ht)⟩, o.trans (opn_n (pl_n ht))⟩, by omega, o6⟩, hv.code e1 e2⟩
/-- what is on top, in the machine's words -/
theorem top_w {P : Int32 → Prop} {K : Nat → Prop} {g : StkA} (r : Rep st sp g) (h : sp = 0 ∨ ¬ P (st (sp - 1))) (hk : ∀ c, c < 256 → K c → P (nI c)) (h0 : ¬ K 0) : ¬ K (topA g) := by
  intro w
  rcases Nat.eq_zero_or_pos sp with z | z
  · subst z
    rw [r.nil] at w
    exact h0 w
  · obtain ⟨x, g1, rfl, x1, x2, x3⟩ := r.top z
    have h := h.resolve_left (by omega)
    rw [x1] at h
    exact h (hk _ x2 w)
theorem V1.sT (h : V1 b S dE a s0 n0 m0 B c0 st nc na cd sp on pl) (ht : sp = 0 ∨ ¬ isT (st (sp - 1))) (hc : ¬ tmP (b pl) = 0) (hb : b pl < 256) (es : st1 = upd st sp (nI (b pl))) (e1 : sp1 = sp + 1) (e3 : pl1 = pl + 1) : V0 b S dE a s0 n0 m0 B c0 st1 nc na cd sp1 on pl1 := by
  subst e1 e3
  obtain ⟨⟨⟨g, d, l, r, ⟨m, s1, s2⟩, o⟩, c, o6⟩, hv⟩ := h
  have hT : ¬ kT (topA g) := top_w r ht (fun c hc w => (isT_n c hc).mpr w) (by decide)
  exact ⟨⟨⟨_, l.tr (ld_tmP hT hc), r.push es hb, ⟨fun _ => ⟨m, s1, s2, fun q => absurd hc (by rcases q with q | q <;> rw [show b pl = _ from q] <;> decide)⟩, fun q => absurd (Or.inl hc) q⟩, by rw [opn_n (kT_n hc)]; exact o⟩, by omega, o6⟩, hv.psh es (Or.inl (Or.inl ((isT_n _ hb).mpr hc)))⟩
theorem kS_top {g : StkA} (r : Rep st sp g) (ht : sp = 0 ∨ ¬ isT (st (sp - 1))) (hp : sp = 0 ∨ ¬ isP (st (sp - 1))) : ¬ kS (topA g) := by
  have h1 : ¬ kT (topA g) := top_w r ht (fun c hc w => (isT_n c hc).mpr w) (by decide)
  have h2 : ¬ (¬ plP (topA g) = 0) := top_w (K := fun c => ¬ plP c = 0) r hp (fun c hc w => (isP_n c hc).mpr w) (by decide)
  exact fun q => q.elim h1 h2
theorem V1.sP (h : V1 b S dE a s0 n0 m0 B c0 st nc na cd sp on pl) (ht : sp = 0 ∨ ¬ isT (st (sp - 1))) (hp : sp = 0 ∨ ¬ isP (st (sp - 1))) (hc : ¬ plP (b pl) = 0) (hb : b pl < 256) (es : st1 = upd st sp (nI (b pl))) (e1 : sp1 = sp + 1) (e3 : pl1 = pl + 1) : V0 b S dE a s0 n0 m0 B c0 st1 nc na cd sp1 on pl1 := by
  subst e1 e3
  obtain ⟨⟨⟨g, d, l, r, ⟨m, s1, s2⟩, o⟩, c, o6⟩, hv⟩ := h
  exact ⟨⟨⟨_, l.tr (ld_plP (kS_top r ht hp) hc), r.push es hb, ⟨fun _ => ⟨m, s1, s2, fun q => absurd hc (by rcases q with q | q <;> rw [show b pl = _ from q] <;> decide)⟩, fun q => absurd (Or.inr (Or.inl hc)) q⟩, by rw [opn_n (pl_n hc)]; exact o⟩, by omega, o6⟩, hv.psh es (Or.inl (Or.inr ((isP_n _ hb).mpr hc)))⟩
theorem V1.rb (h : V1 b S dE a s0 n0 m0 B c0 st nc na cd sp on pl) (hs : 0 < sp) (ht : st (sp - 1) = 91) (hc : b pl = 93) (e1 : sp1 = sp - 1) (e2 : on = on1 + 1) (e3 : pl1 = pl + 1) : V1 b S dE a s0 n0 m0 B c0 st nc na cd sp1 on1 pl1 := by
  subst e1 e3
  obtain ⟨⟨⟨g, d, l, r, ⟨m, s1, s2⟩, o⟩, c, o6⟩, hv⟩ := h
  obtain ⟨⟨y, dl⟩, g1, rfl, x1, x2, x3⟩ := r.top hs
  have ey : y = 91 := (n91 _ x2).mp (x1.symm.trans ht)
  subst ey
  refine ⟨⟨⟨g1, d, l.tr (ld_rb hc), x3, ⟨m, s1.2 (by show ¬ isBn 91; decide), s2⟩, ?_⟩, by omega, by omega⟩, hv.pop hs (Or.inr ht)⟩
  rw [opn_o (by omega)] at o
  omega
theorem V1.opn1 (h : V1 b S dE a s0 n0 m0 B c0 st nc na cd sp on pl) (hs : 0 < sp) (ht : st (sp - 1) = 91) : 1 ≤ on := by
  obtain ⟨⟨⟨g, d, l, r, ⟨m, s1, s2⟩, o⟩, c, o6⟩, hv⟩ := h
  obtain ⟨⟨y, dl⟩, g1, rfl, x1, x2, x3⟩ := r.top hs
  have ey : y = 91 := (n91 _ x2).mp (x1.symm.trans ht)
  subst ey
  rw [opn_o (by omega)] at o
  omega
theorem V1.e93 (h : V1 b S dE a s0 n0 m0 B c0 st nc na cd sp on pl) (ht : sp = 0 ∨ ¬ isT (st (sp - 1))) (hp : sp = 0 ∨ ¬ isP (st (sp - 1))) (h9 : sp = 0 ∨ ¬ st (sp - 1) = 91) (hc : b pl = 93) (e : x = (-1000) * nI 1 - nI pl) : QE b S x := by
  obtain ⟨⟨⟨g, d, l, r, ⟨m, s1, s2⟩, o⟩, c, o6⟩, hv⟩ := h
  have h91 : ¬ topA g = 91 := top_w (P := fun x => x = 91) (K := fun c => c = 91) r h9 (fun c hc w => (n91 c hc).mpr w) (by decide)
  exact ⟨1, pl, e, l.tr (ld_93 hc (kS_top r ht hp) h91)⟩
theorem V1.e91 (h : V1 b S dE a s0 n0 m0 B c0 st nc na cd sp on pl) (hs : 0 < sp) (ht : st (sp - 1) = 91) (hk : ¬ kS (b pl)) (hc : ¬ b pl = 93) (e : x = (-1000) * nI 1 - nI pl) : QE b S x := by
  obtain ⟨⟨⟨g, d, l, r, ⟨m, s1, s2⟩, o⟩, c, o6⟩, hv⟩ := h
  obtain ⟨⟨y, dl⟩, g1, rfl, x1, x2, x3⟩ := r.top hs
  have ey : y = 91 := (n91 _ x2).mp (x1.symm.trans ht)
  subst ey
  exact ⟨1, pl, e, l.tr (ld_rb1 hk hc)⟩
theorem V1.fin (h : V1 b S dE a s0 n0 m0 B c0 st nc na cd sp on pl) (ht : sp = 0 ∨ ¬ isA (st (sp - 1))) (h9 : sp = 0 ∨ ¬ st (sp - 1) = 91) (hk : ¬ kS (b pl)) : VE b S dE a s0 n0 m0 B c0 st nc na cd sp on pl := by
  obtain ⟨h1, h2, h3, h4⟩ := h
  refine ⟨h1, h2, ?_, hk⟩
  have hB := h2.1.1
  rcases Nat.lt_or_ge B sp with q | q
  · have w := h4 (sp - 1) (by omega) (by omega)
    rcases w with w | w
    · exact absurd w (ht.resolve_left (by omega))
    · exact absurd w (h9.resolve_left (by omega))
  · omega
end NUMV
/-! THE TEXTS, 9: the reader with one stack: conditions, clauses -/
abbrev cdI (x : Int32) : Prop := x = 40 ∨ x = 33 ∨ x = 38 ∨ x = 124
def WfI (st : Nat → Int32) (sp : Nat) : Prop := ∀ j, j < sp → cdI (st j) ∧ (st j = 38 → 0 < j ∧ (st (j - 1) = 40 ∨ st (j - 1) = 124)) ∧ (st j = 124 → 0 < j ∧ st (j - 1) = 40)
def CB (n0 m0 nc na : Nat → Int32) (a cd : Nat) (st : Nat → Int32) (sp : Nat) : Prop := (a ≤ cd ∧ ∀ j, j < a → nc j = n0 j ∧ na j = m0 j) ∧ WfI st sp ∧ 0 < sp ∧ st 0 = 40
def C2 (b : Nat → Nat) (S : StA) (dE : DnM) (a : Nat) (n0 m0 st nc na : Nat → Int32) (cd sp on pl : Nat) : Prop := Q2 b S dE a st nc na cd sp on pl ∧ CB n0 m0 nc na a cd st sp
def C3 (b : Nat → Nat) (S : StA) (dE : DnM) (a : Nat) (n0 m0 st nc na : Nat → Int32) (cd sp on pl : Nat) : Prop := Q3 b S dE a st nc na cd sp on pl ∧ CB n0 m0 nc na a cd st sp
theorem cdI_AS {x : Int32} (h : cdI x) : ¬ AS_ x := by
  rcases h with rfl | rfl | rfl | rfl <;> (unfold AS_; decide)
theorem cd_n : ∀ c, c < 256 → cdI (nI c) → c = 40 ∨ c = 33 ∨ c = 38 ∨ c = 124 := by decide +kernel
theorem cm_AS : ∀ c, c < 256 → ¬ cmP c = 0 → ¬ AS_ (nI c) := by unfold AS_; decide +kernel
theorem WfI.le {st : Nat → Int32} {sp k : Nat} (h : WfI st sp) (hk : k ≤ sp) : WfI st k := fun j hj => h j (by omega)
theorem WfI.congr {st s1 : Nat → Int32} {sp : Nat} (h : WfI st sp) (e : ∀ j, j < sp → s1 j = st j) : WfI s1 sp := by
  intro j hj
  obtain ⟨h1, h2, h3⟩ := h j hj
  rw [e j hj]
  refine ⟨h1, fun q => ?_, fun q => ?_⟩
  · obtain ⟨a1, a2⟩ := h2 q
    rw [e (j - 1) (by omega)]
    exact ⟨a1, a2⟩
  · obtain ⟨a1, a2⟩ := h3 q
    rw [e (j - 1) (by omega)]
    exact ⟨a1, a2⟩
theorem WfI.psh {st s1 : Nat → Int32} {sp c : Nat} (h : WfI st sp) (e : s1 = upd st sp (nI c)) (hc : (c = 33 ∨ c = 40) ∨ (c = 38 ∧ 0 < sp ∧ (st (sp - 1) = 40 ∨ st (sp - 1) = 124)) ∨ (c = 124 ∧ 0 < sp ∧ st (sp - 1) = 40)) : WfI s1 (sp + 1) := by
  intro j hj
  by_cases q : j = sp
  · subst q
    have ej : s1 j = nI c := by rw [e, upd_a]
    have e2 : 0 < j → s1 (j - 1) = st (j - 1) := fun h0 => by rw [e, upd_o (by omega)]
    rw [ej]
    rcases hc with (rfl | rfl) | ⟨rfl, c1, c2⟩ | ⟨rfl, c1, c2⟩
    · exact ⟨Or.inr (Or.inl rfl), fun w => absurd w (by decide), fun w => absurd w (by decide)⟩
    · exact ⟨Or.inl rfl, fun w => absurd w (by decide), fun w => absurd w (by decide)⟩
    · exact ⟨Or.inr (Or.inr (Or.inl rfl)), fun _ => ⟨c1, by rw [e2 c1]; exact c2⟩, fun w => absurd w (by decide)⟩
    · exact ⟨Or.inr (Or.inr (Or.inr rfl)), fun w => absurd w (by decide), fun _ => ⟨c1, by rw [e2 c1]; exact c2⟩⟩
  · exact (h.congr (fun i hi => by rw [e, upd_o (by omega)])) j (by omega)
section CONDV
variable {b : Nat → Nat} {S : StA} {dE : DnM} {a B c0 cd sp on pl cd1 sp1 on1 pl1 sp2 on2 pl2 cd3 sp3 on3 pl3 cd4 sp4 : Nat} {n0 m0 st nc na st1 nc1 na1 st2 st3 nc3 na3 nc4 na4 : Nat → Int32} {x y : Int32}
theorem CB.code (h : CB n0 m0 nc na a cd st sp) (e1 : nc1 = upd nc cd x) (e2 : na1 = upd na cd y) : CB n0 m0 nc1 na1 a (cd + 1) st sp := by
  obtain ⟨⟨h1, h2⟩, h3⟩ := h
  refine ⟨⟨by omega, fun j hj => ?_⟩, h3⟩
  obtain ⟨q1, q2⟩ := u2 e1 e2 j (by omega)
  rw [q1, q2]
  exact h2 j hj
theorem C2.op (h : C2 b S dE a n0 m0 st nc na cd sp on pl) (hc : b pl = 33 ∨ b pl = 40) (ho : on < 6) (es : st1 = upd st sp (nI (b pl))) (e1 : sp1 = sp + 1) (e2 : on1 = on + 1) (e3 : pl1 = pl + 1) : C2 b S dE a n0 m0 st1 nc na cd sp1 on1 pl1 := by
  subst e1 e2 e3
  obtain ⟨⟨⟨g, l, r, s, o⟩, c, o6⟩, h1, h2, h3, h4⟩ := h
  have hn : ¬ isBn (b pl) := by rcases hc with q | q <;> rw [q] <;> decide
  exact ⟨⟨⟨_, l.tr (ld_op hc (by omega)), r.push es (by omega), ⟨fun q => absurd q hn, fun _ => s⟩, by rw [opn_o (by omega), o]⟩, by omega, by omega⟩, h1, h2.psh es (Or.inl hc), by omega, by rw [es, upd_o (by omega)]; exact h4⟩
theorem C2.op5 (h : C2 b S dE a n0 m0 st nc na cd sp on pl) (hc : b pl = 33 ∨ b pl = 40) (ho : on = 6) (e : x = (-1000) * nI 5 - nI pl) : QE b S x := by
  obtain ⟨⟨⟨g, l, r, s, o⟩, c, o6⟩, -⟩ := h
  exact ⟨5, pl, e, l.tr (ld_op5 hc (by omega))⟩
theorem C2.q0 (h : C2 b S dE a n0 m0 st nc na cd sp on pl) (hc : ¬ (b pl = 33 ∨ b pl = 40)) : Q0 b S dE a st nc na cd sp on pl ∧ (sp = 0 ∨ ¬ AS_ (st (sp - 1))) := by
  obtain ⟨⟨⟨g, l, r, s, o⟩, c⟩, h1, h2, h3, h4⟩ := h
  exact ⟨⟨⟨g, l.tr (ld_20 hc), r, s, o⟩, c⟩, Or.inr (cdI_AS (h2 (sp - 1) (by omega)).1)⟩
theorem cd_top {g : StkA} (r : Rep st sp g) (h : cdI (st (sp - 1))) (hs : 0 < sp) : cdA g := by
  obtain ⟨x, g1, rfl, x1, x2, x3⟩ := r.top hs
  rw [x1] at h
  exact cd_n _ x2 h
theorem C2.cm1 (h : C2 b S dE a n0 m0 st nc na cd sp on pl) (v : VE b S dE a st nc na sp cd st1 nc1 na1 cd1 sp1 on1 pl1) (hc : cmP (b pl1) = 0) (e : x = (-1000) * nI 1 - nI pl1) : QE b S x := by
  obtain ⟨-, h1, h2, h3, h4⟩ := h
  obtain ⟨⟨⟨g, d, l, r, s, o⟩, c⟩, ⟨⟨f1, f2⟩, f3⟩, rfl, hk⟩ := v
  have ht : cdI (st1 (sp1 - 1)) := by rw [f2 _ (by omega)]; exact (h2 _ (by omega)).1
  exact ⟨1, pl1, e, l.tr (ld_cm1 (cd_top r ht h3) hk hc)⟩
theorem C2.sgn (h : C2 b S dE a n0 m0 st nc na cd sp on pl) (v : VE b S dE a st nc na sp cd st1 nc1 na1 cd1 sp1 on1 pl1) (hc : ¬ cmP (b pl1) = 0) (hb : b pl1 < 256) (es : st2 = upd st1 sp1 (nI (b pl1))) (e1 : sp2 = sp1 + 1) (e3 : pl2 = pl1 + 1) : Q0 b S dE a st2 nc1 na1 cd1 sp2 on1 pl2 ∧ (sp2 = 0 ∨ ¬ AS_ (st2 (sp2 - 1))) := by
  subst e1 e3
  obtain ⟨-, h1, h2, h3, h4⟩ := h
  obtain ⟨⟨⟨g, d, l, r, ⟨m, s1, s2⟩, o⟩, c, o6⟩, ⟨⟨f1, f2⟩, f3⟩, rfl, hk⟩ := v
  have ht : cdI (st1 (sp1 - 1)) := by rw [f2 _ (by omega)]; exact (h2 _ (by omega)).1
  refine ⟨⟨⟨_, l.tr (ld_cmP (cd_top r ht h3) hc), r.push es hb, ⟨fun _ => ⟨m, s1, s2, fun q => absurd hc (by rcases q with q | q <;> rw [show b pl1 = _ from q] <;> decide)⟩, fun q => absurd (Or.inr (Or.inr (Or.inl hc))) q⟩, by rw [opn_n (cm_n hc)]; exact o⟩, by omega, o6⟩, Or.inr ?_⟩
  rw [es, Nat.add_sub_cancel, upd_a]
  exact cm_AS _ hb hc
theorem C2.cmE {c : Nat} (h : C2 b S dE a n0 m0 st nc na cd sp on pl) (v : VE b S dE a st nc na sp cd st1 nc1 na1 cd1 sp1 on1 pl1) (v2 : VE b S dE a st2 nc1 na1 sp2 cd1 st3 nc3 na3 cd3 sp3 on3 pl3) (hc : ¬ cmP c = 0) (hb : c < 256) (es : st2 = upd st1 sp1 (nI c)) (e1 : sp2 = sp1 + 1) (en : nc4 = upd nc3 cd3 (st3 (sp3 - 1))) (ea : na4 = upd na3 cd3 y) (ec : cd4 = cd3 + 1) (e4 : sp4 = sp3 - 1) : C3 b S dE a n0 m0 st3 nc4 na4 cd4 sp4 on3 pl3 := by
  subst e1 ec e4
  obtain ⟨-, ⟨h1, h1'⟩, h2, h3, h4⟩ := h
  obtain ⟨-, ⟨⟨f1, f2⟩, f3, f4⟩, rfl, hk⟩ := v
  obtain ⟨⟨⟨g, d, l, r, ⟨m, s1, s2⟩, o⟩, c6, o6⟩, ⟨⟨k1, k2⟩, k3, k4⟩, rfl, hk2⟩ := v2
  rw [Nat.add_sub_cancel] at en ⊢
  obtain ⟨⟨x, dl⟩, g1, rfl, x1, x2, x3⟩ := r.top (by omega)
  rw [Nat.add_sub_cancel] at x1 x3
  have et : st3 sp1 = nI c := by rw [k2 sp1 (by omega), es, upd_a]
  have ex : x = c := (nI_eq (by omega) (by omega)).mp (x1.symm.trans et)
  subst ex
  have hs : ∀ j, j < sp1 → st3 j = st j := fun j hj => by rw [k2 j (by omega), es, upd_o (by omega), f2 j hj]
  obtain ⟨m1, t1, t2, -⟩ := s1.1 (Or.inr (Or.inr (Or.inl hc)))
  have le2 := s2.1.1
  have le1 := t2.1.1
  have hu := u2 en ea
  refine ⟨⟨⟨g1, _, l.tr (ld_cm hc hk2), x3, ⟨m1, t1.fs (fun j hj => hu j (by omega)), (t2.fs (fun j hj => hu j (by omega))).bin (s2.fs hu) (by rw [en, upd_a, et]; exact kc_cm _ hb hc)⟩, d01_cm (cm_8 hc), o.trans (opn_n (cm_n hc))⟩, by omega, o6⟩, ⟨by omega, fun j hj => ?_⟩, h2.congr hs, h3, by rw [hs 0 h3]; exact h4⟩
  obtain ⟨q1, q2⟩ := hu j (by omega)
  obtain ⟨q3, q4⟩ := k4 j (by omega)
  obtain ⟨q5, q6⟩ := f4 j (by omega)
  obtain ⟨q7, q8⟩ := h1' j hj
  exact ⟨by rw [q1, q3, q5, q7], by rw [q2, q4, q6, q8]⟩
theorem CB.pop (h : CB n0 m0 nc na a cd st sp) (ht : ¬ st (sp - 1) = 40) : CB n0 m0 nc na a cd st (sp - 1) := by
  obtain ⟨h1, h2, h3, h4⟩ := h
  refine ⟨h1, h2.le (by omega), ?_, h4⟩
  rcases Nat.eq_zero_or_pos (sp - 1) with z | z
  · rw [z, h4] at ht
    exact absurd rfl ht
  · exact z
theorem C3.not (h : C3 b S dE a n0 m0 st nc na cd sp on pl) (ht : st (sp - 1) = 33) (e1 : nc1 = upd nc cd 2) (e2 : na1 = upd na cd y) (ec : cd1 = cd + 1) (es : sp1 = sp - 1) (eo : on = on1 + 1) : C3 b S dE a n0 m0 st nc1 na1 cd1 sp1 on1 pl := by
  subst ec es
  obtain ⟨⟨⟨g, d, l, r, ⟨m, s1, s2⟩, d1, o⟩, c, o6⟩, h2⟩ := h
  obtain ⟨⟨x, dl⟩, g1, rfl, x1, x2, x3⟩ := r.top h2.2.2.1
  have ex : x = 33 := (n33 _ x2).mp (x1.symm.trans ht)
  subst ex
  rw [opn_o (by omega)] at o
  have hu := u2 e1 e2
  have le2 := s2.1.1
  have s1 := s1.2 (by show ¬ isBn 33; decide)
  have := h2.2.2.1
  exact ⟨⟨⟨g1, _, l.tr ld_not, x3, ⟨m, s1.fs (fun j hj => hu j (by omega)), (s2.fs hu).not (by rw [e1, upd_a])⟩, d01_not d1, by omega⟩, by omega, by omega⟩, (h2.pop (by rw [ht]; decide)).code e1 e2⟩
theorem C3.and (h : C3 b S dE a n0 m0 st nc na cd sp on pl) (ht : st (sp - 1) = 38) (e1 : nc1 = upd nc cd (st (sp - 1))) (e2 : na1 = upd na cd y) (ec : cd1 = cd + 1) (es : sp1 = sp - 1) : C3 b S dE a n0 m0 st nc1 na1 cd1 sp1 on pl := by
  subst ec es
  obtain ⟨⟨⟨g, d, l, r, ⟨m, s1, s2⟩, d1, o⟩, c, o6⟩, h2⟩ := h
  obtain ⟨⟨x, dl⟩, g1, rfl, x1, x2, x3⟩ := r.top h2.2.2.1
  have ex : x = 38 := (n38 _ x2).mp (x1.symm.trans ht)
  subst ex
  rw [opn_n (by omega)] at o
  have hu := u2 e1 e2
  obtain ⟨m1, t1, t2, t3⟩ := s1.1 (by show isBn 38; decide)
  have le2 := s2.1.1
  have le1 := t2.1.1
  have := h2.2.2.1
  exact ⟨⟨⟨g1, _, l.tr ld_and, x3, ⟨m1, t1.fs (fun j hj => hu j (by omega)), (t2.fs (fun j hj => hu j (by omega))).and (s2.fs hu) (by rw [e1, upd_a, ht]) (t3 (Or.inl rfl))⟩, d01_and d1, o⟩, by omega, by omega⟩, (h2.pop (by rw [ht]; decide)).code e1 e2⟩
theorem C3.or (h : C3 b S dE a n0 m0 st nc na cd sp on pl) (ht : st (sp - 1) = 124) (hc : ¬ b pl = 38) (e1 : nc1 = upd nc cd (st (sp - 1))) (e2 : na1 = upd na cd y) (ec : cd1 = cd + 1) (es : sp1 = sp - 1) : C3 b S dE a n0 m0 st nc1 na1 cd1 sp1 on pl := by
  subst ec es
  obtain ⟨⟨⟨g, d, l, r, ⟨m, s1, s2⟩, d1, o⟩, c, o6⟩, h2⟩ := h
  obtain ⟨⟨x, dl⟩, g1, rfl, x1, x2, x3⟩ := r.top h2.2.2.1
  have ex : x = 124 := (n124 _ x2).mp (x1.symm.trans ht)
  subst ex
  rw [opn_n (by omega)] at o
  have hu := u2 e1 e2
  obtain ⟨m1, t1, t2, t3⟩ := s1.1 (by show isBn 124; decide)
  have le2 := s2.1.1
  have le1 := t2.1.1
  have := h2.2.2.1
  exact ⟨⟨⟨g1, _, l.tr (ld_or hc), x3, ⟨m1, t1.fs (fun j hj => hu j (by omega)), (t2.fs (fun j hj => hu j (by omega))).or (s2.fs hu) (by rw [e1, upd_a, ht]) (t3 (Or.inr rfl))⟩, d01_or d1, o⟩, by omega, by omega⟩, (h2.pop (by rw [ht]; decide)).code e1 e2⟩
theorem tp_c {c : Nat} {g : StkA} (r : Rep st sp g) (hs : 0 < sp) (h : st (sp - 1) = nI c) (hc : c < 256) : topA g = c := by
  obtain ⟨x, g1, rfl, x1, x2, x3⟩ := r.top hs
  show x.1 = c
  exact (nI_eq (by omega) (by omega)).mp (x1.symm.trans h)
theorem C3.andP (h : C3 b S dE a n0 m0 st nc na cd sp on pl) (h33 : ¬ st (sp - 1) = 33) (h38 : ¬ st (sp - 1) = 38) (hc : b pl = 38) (es : st1 = upd st sp (nI (b pl))) (e1 : sp1 = sp + 1) (e3 : pl1 = pl + 1) : C2 b S dE a n0 m0 st1 nc na cd sp1 on pl1 := by
  subst e1 e3
  obtain ⟨⟨⟨g, d, l, r, ⟨m, s1, s2⟩, d1, o⟩, c, o6⟩, h1, h2, h3, h4⟩ := h
  rw [hc] at es
  have ht : st (sp - 1) = 40 ∨ st (sp - 1) = 124 := by
    rcases (h2 (sp - 1) (by omega)).1 with q | q | q | q
    · exact Or.inl q
    · exact absurd q h33
    · exact absurd q h38
    · exact Or.inr q
  have hT : topA g = 40 ∨ topA g = 124 := ht.elim (fun q => Or.inl (tp_c r h3 (c := 40) q (by decide))) (fun q => Or.inr (tp_c r h3 (c := 124) q (by decide)))
  exact ⟨⟨⟨_, l.tr (ld_andP hT hc), r.push es (by decide), ⟨fun _ => ⟨m, s1, s2, fun _ => d1⟩, fun q => absurd (show isBn 38 by decide) q⟩, by rw [opn_n (by omega)]; exact o⟩, by omega, o6⟩, h1, h2.psh es (Or.inr (Or.inl ⟨rfl, h3, ht⟩)), by omega, by rw [es, upd_o (by omega)]; exact h4⟩
theorem C3.top40 (h : C3 b S dE a n0 m0 st nc na cd sp on pl) (h33 : ¬ st (sp - 1) = 33) (h38 : ¬ st (sp - 1) = 38) (h124 : ¬ st (sp - 1) = 124) : st (sp - 1) = 40 := by
  obtain ⟨-, h1, h2, h3, h4⟩ := h
  rcases (h2 (sp - 1) (by omega)).1 with q | q | q | q
  · exact q
  · exact absurd q h33
  · exact absurd q h38
  · exact absurd q h124
theorem C3.orP (h : C3 b S dE a n0 m0 st nc na cd sp on pl) (h33 : ¬ st (sp - 1) = 33) (h38 : ¬ st (sp - 1) = 38) (h124 : ¬ st (sp - 1) = 124) (hc : b pl = 124) (es : st1 = upd st sp (nI (b pl))) (e1 : sp1 = sp + 1) (e3 : pl1 = pl + 1) : C2 b S dE a n0 m0 st1 nc na cd sp1 on pl1 := by
  subst e1 e3
  have ht := h.top40 h33 h38 h124
  obtain ⟨⟨⟨g, d, l, r, ⟨m, s1, s2⟩, d1, o⟩, c, o6⟩, h1, h2, h3, h4⟩ := h
  rw [hc] at es
  have hT : topA g = 40 := tp_c r h3 (c := 40) ht (by decide)
  exact ⟨⟨⟨_, l.tr (ld_orP hT hc), r.push es (by decide), ⟨fun _ => ⟨m, s1, s2, fun _ => d1⟩, fun q => absurd (show isBn 124 by decide) q⟩, by rw [opn_n (by omega)]; exact o⟩, by omega, o6⟩, h1, h2.psh es (Or.inr (Or.inr ⟨rfl, h3, ht⟩)), by omega, by rw [es, upd_o (by omega)]; exact h4⟩
theorem C3.e1 (h : C3 b S dE a n0 m0 st nc na cd sp on pl) (h1 : ¬ b pl = 38) (h2 : ¬ b pl = 124) (h3 : ¬ b pl = 41) (e : x = (-1000) * nI 1 - nI pl) : QE b S x := by
  obtain ⟨⟨⟨g, d, l, r, s, d1, o⟩, c⟩, -⟩ := h
  exact ⟨1, pl, e, l.tr (ld_31 h1 h2 h3 g d)⟩
theorem C3.opn1 (h : C3 b S dE a n0 m0 st nc na cd sp on pl) (ht : st (sp - 1) = 40 ∨ st (sp - 1) = 33) : 1 ≤ on := by
  obtain ⟨⟨⟨g, d, l, r, ⟨m, s1, s2⟩, d1, o⟩, c, o6⟩, h2⟩ := h
  obtain ⟨⟨x, dl⟩, g1, rfl, x1, x2, x3⟩ := r.top h2.2.2.1
  have ex : x = 40 ∨ x = 33 := by
    rcases ht with q | q
    · exact Or.inl ((n40 _ x2).mp (x1.symm.trans q))
    · exact Or.inr ((n33 _ x2).mp (x1.symm.trans q))
  rw [opn_o (by omega)] at o
  omega
theorem C3.cl (h : C3 b S dE a n0 m0 st nc na cd sp on pl) (ht : st (sp - 1) = 40) (hc : b pl = 41) (hs : ¬ sp - 1 = 0) (e1 : sp1 = sp - 1) (e2 : on = on1 + 1) (e3 : pl1 = pl + 1) : C3 b S dE a n0 m0 st nc na cd sp1 on1 pl1 := by
  subst e1 e3
  obtain ⟨⟨⟨g, d, l, r, ⟨m, s1, s2⟩, d1, o⟩, c, o6⟩, h1, h2, h3, h4⟩ := h
  obtain ⟨⟨x, dl⟩, g1, rfl, x1, x2, x3⟩ := r.top h3
  have ex : x = 40 := (n40 _ x2).mp (x1.symm.trans ht)
  subst ex
  rw [opn_o (by omega)] at o
  have hg : ¬ g1 = [] := fun q => by
    subst q
    exact hs x3
  exact ⟨⟨⟨g1, d, l.tr (ld_cl hg hc), x3, ⟨m, s1.2 (by show ¬ isBn 40; decide), s2⟩, d1, by omega⟩, by omega, by omega⟩, h1, h2.le (by omega), by omega, h4⟩
theorem C3.cl4 (h : C3 b S dE a n0 m0 st nc na cd sp on pl) (ht : st (sp - 1) = 40) (hc : b pl = 41) (hs : sp - 1 = 0) (e3 : pl1 = pl + 1) : Q4 b S dE a nc na cd pl1 ∧ a ≤ cd ∧ ∀ j, j < a → nc j = n0 j ∧ na j = m0 j := by
  subst e3
  obtain ⟨⟨⟨g, d, l, r, ⟨m, s1, s2⟩, d1, o⟩, c, o6⟩, h1, h2, h3, h4⟩ := h
  obtain ⟨⟨x, dl⟩, g1, rfl, x1, x2, x3⟩ := r.top h3
  have ex : x = 40 := (n40 _ x2).mp (x1.symm.trans ht)
  subst ex
  rw [hs] at x3
  have eg := x3.nil
  subst eg
  have em : m = a := s1.2 (by show ¬ isBn 40; decide)
  subst em
  exact ⟨⟨d, l.tr (ld_cl4 hc), s2, d1⟩, h1⟩
theorem C2.first {d : DnM} (l : LdA b S (S1 [] d dzA pl)) (hc : b pl = 40) (es : st1 = upd st 0 (nI (b pl))) (e1 : sp1 = 0 + 1) (e2 : on1 = 0 + 1) (e3 : pl1 = pl + 1) (hp : cd ≤ pl) : C2 b S d cd nc na st1 nc na cd sp1 on1 pl1 := by
  subst e1 e2 e3
  rw [hc] at es
  refine ⟨⟨⟨_, l.tr (ld_e hc), ⟨0, rfl, by rw [es, upd_a], by decide, rfl⟩, ⟨fun q => absurd q (by decide), fun _ => rfl⟩, rfl⟩, by omega, by omega⟩, ⟨Nat.le_refl _, fun _ _ => ⟨rfl, rfl⟩⟩, ?_, by omega, by rw [es, upd_a]; rfl⟩
  intro j hj
  rw [show j = 0 by omega, es, upd_a]
  exact ⟨Or.inl rfl, fun w => absurd w (by decide), fun w => absurd w (by decide)⟩
theorem VE.e1 {d : DnM} (l : LdA b S (S1 [] d dzA pl)) (hk : ¬ kS (b pl)) (hc : ¬ b pl = 40) (e : x = (-1000) * nI 1 - nI pl) : QE b S x := ⟨1, pl, e, l.tr (ld_e1 hk hc)⟩
theorem VE.nil {s0 : Nat → Int32} (v : VE b S dzA a s0 n0 m0 0 c0 st nc na cd sp on pl) (h0 : c0 = a) : ∃ d, LdA b S (S1 [] d dzA pl) ∧ ImQ nc na a cd d ∧ sp = 0 ∧ on = 0 ∧ ¬ kS (b pl) ∧ a ≤ cd ∧ (∀ j, j < a → nc j = n0 j ∧ na j = m0 j) ∧ cd ≤ pl := by
  subst h0
  obtain ⟨⟨⟨g, d, l, r, ⟨m, s1, s2⟩, o⟩, c, o6⟩, ⟨f1, f3, f4⟩, rfl, hk⟩ := v
  have eg := r.nil
  subst eg
  have em : m = c0 := s1
  subst em
  exact ⟨d, l, s2, rfl, o, hk, f3, f4, by omega⟩
end CONDV
theorem cm_nz {c : Nat} (h : ¬ cmP c = 0) : ¬ c = 0 := fun e => h (by subst e; decide)
theorem ltP_nz {c : Nat} (h : ltP c) : ¬ c = 0 := by
  intro e
  subst e
  revert h
  decide
theorem sub_e2 {x y a b : Int32} (e1 : x = a) (e2 : y = x - b) : y = a - b := by rw [e2, e1]
/-! THE TEXTS, 10: what each method of the reader with one stack leaves -/
theorem he_bF (tp : Nat → Int32) (pl ed : Nat) : heF tp pl ed = nI (bF tp ed pl) := by
  unfold heF bF
  split
  · obtain ⟨q, hq, e⟩ := pk_andE (tp pl) (m := 255) 8 (by decide)
    rw [e, nI_clamp (by omega)]
  · rfl
theorem bF_in {tp : Nat → Int32} {pl ed : Nat} (h : ¬ bF tp ed pl = 0) : pl < ed := Decidable.byContradiction fun q => h (if_neg q)
theorem dg_bi : ∀ c, c < 256 → bi ((48 : Int32) ≤ nI c ∧ nI c ≤ 57) = bi (dgP c) := by decide +kernel
theorem tm_b1 : ∀ c, c < 256 → (c = 42 ∨ c = 47 ∨ c = 37) → (1 : Int32) = bi (¬ tmP c = 0) := by decide +kernel
theorem tm_b0 : ∀ c, c < 256 → c ≠ 42 → c ≠ 47 → c ≠ 37 → (0 : Int32) = bi (¬ tmP c = 0) := by decide +kernel
theorem pl_b1 : ∀ c, c < 256 → (c = 43 ∨ c = 45) → (1 : Int32) = bi (¬ plP c = 0) := by decide +kernel
theorem pl_b0 : ∀ c, c < 256 → c ≠ 43 → c ≠ 45 → (0 : Int32) = bi (¬ plP c = 0) := by decide +kernel
theorem cm_b1 : ∀ c, c < 256 → (c = 60 ∨ c = 62 ∨ c = 61) → (1 : Int32) = bi (¬ cmP c = 0) := by decide +kernel
theorem cm_b0 : ∀ c, c < 256 → c ≠ 60 → c ≠ 62 → c ≠ 61 → (0 : Int32) = bi (¬ cmP c = 0) := by decide +kernel
def stN (t c : Nat) : Prop := (t = 0 ∧ (c = 121 ∨ c = 122)) ∨ (t = 1 ∧ (c = 97 ∨ c = 98 ∨ c = 103)) ∨ (¬ t = 0 ∧ ¬ t = 1 ∧ c = 101)
section LEAVES
variable {b : Nat → Nat} {S : StA} {dE : DnM} {a B c0 cd sp on pl cd1 sp1 on1 pl1 : Nat} {s0 n0 m0 st nc na st1 nc1 na1 : Nat → Int32} {x r : Int32}
theorem rd_s {k v p v1 p1 : Nat} {z : Sum Nat (Nat × Nat)} (h : z = nuP b (5 - k) v p) (hk : k < 5) (hd : dgP (b p)) (ev : v1 = 10 * v + b p - 48) (ep : p1 = p + 1) (ek : cd = k + 1) : z = nuP b (5 - cd) v1 p1 := by
  rw [ek]
  exact nu_s h hk hd (by omega) ep
abbrev RDQ (b : Nat → Nat) (pl : Nat) (x r : Int32) (pl1 : Nat) : Prop := (x = 0 → ∃ v, r = nI v ∧ nuP b 5 0 pl = .inr (v, pl1)) ∧ (¬ x = 0 → ∃ q, nuP b 5 0 pl = .inl q ∧ x = (-1000) * nI 2 - nI q)
abbrev OPD (on pl : Nat) (x : Int32) : Prop := (on < 6 ∧ x = 0) ∨ (on = 6 ∧ ¬ x = 0 ∧ x = (-1000) * nI 5 - nI pl)
theorem V0.opn (h : V0 b S dE a s0 n0 m0 B c0 st nc na cd sp on pl) (h1 : b pl = 91) (hd : OPD on pl x) (es : st1 = upd st sp (nI (b pl))) (e1 : sp1 = sp + 1) (e2 : on1 = on + 1) (e3 : pl1 = pl + 1) : x = 0 → V0 b S dE a s0 n0 m0 B c0 st1 nc na cd sp1 on1 pl1 := fun hx =>
  hd.elim (fun q => h.br h1 q.1 es e1 e2 e3) (fun q => absurd hx q.2.1)
theorem V0.opE (h : V0 b S dE a s0 n0 m0 B c0 st nc na cd sp on pl) (h1 : b pl = 91) (hd : OPD on pl x) : ¬ x = 0 → QE b S x := fun hx =>
  hd.elim (fun q => absurd q.2 hx) (fun q => h.br5 h1 q.1 q.2.2)
abbrev EMX (nc na : Nat → Int32) (cd : Nat) (c r x : Int32) (nc1 na1 : Nat → Int32) (cd1 : Nat) : Prop := (x = 0 ∧ cd1 = cd + 1 ∧ nc1 = upd nc cd c ∧ na1 = upd na cd r) ∨ (¬ x = 0 ∧ cd1 = cd ∧ nc1 = nc ∧ na1 = na)
theorem V0.nuY (h : V0 b S dE a s0 n0 m0 B c0 st nc na cd sp on pl) (hd : dgP (b pl)) (hr : RDQ b pl x r pl1) (hp : pl + 1 ≤ pl1) (he : EMX nc na cd 0 r x nc1 na1 cd1) : x = 0 → V1 b S dE a s0 n0 m0 B c0 st nc1 na1 cd1 sp on pl1 := fun hx => by
  obtain ⟨v, rfl, hn⟩ := hr.1 hx
  rcases he with ⟨-, e1, e2, e3⟩ | ⟨q, -⟩
  · exact h.num hd hn hp e2 e3 e1
  · exact absurd hx q
theorem V0.nuE (h : V0 b S dE a s0 n0 m0 B c0 st nc na cd sp on pl) (hd : dgP (b pl)) (hr : RDQ b pl x r pl1) : ¬ x = 0 → QE b S x := fun hx => by
  obtain ⟨q, hn, e⟩ := hr.2 hx
  exact h.num2 hd hn e
/-- a number is through: no sign of reckoning is on top, none is ahead -/
def VF (b : Nat → Nat) (S : StA) (dE : DnM) (a : Nat) (s0 n0 m0 : Nat → Int32) (B c0 : Nat) (st nc na : Nat → Int32) (cd sp on pl : Nat) : Prop := V1 b S dE a s0 n0 m0 B c0 st nc na cd sp on pl ∧ (sp = 0 ∨ ¬ isA (st (sp - 1))) ∧ ¬ kS (b pl) ∧ ¬ b pl = 93
theorem or_A {y : Int32} (h1 : sp = 0 ∨ ¬ isT y) (h2 : sp = 0 ∨ ¬ isP y) : sp = 0 ∨ ¬ isA y := by
  rcases h1 with q | q
  · exact Or.inl q
  · rcases h2 with w | w
    · exact Or.inl w
    · exact Or.inr (fun z => z.elim q w)
theorem bi_ne {P Q : Prop} [Decidable P] (h : bi P = 0 ∨ Q) (hp : P) : Q := h.resolve_left (by show ¬ bi P = 0; rw [show bi P = 1 from if_pos hp]; decide)
theorem bi_or {c : Nat} : bi (¬ plP c = 0) = 0 ∨ tmP c = 0 := by
  by_cases q : plP c = 0
  · exact Or.inl (if_neg (fun w => w q))
  · exact Or.inr (tm_pl q)
theorem VF.of (h : V1 b S dE a s0 n0 m0 B c0 st nc na cd sp on pl) (h1 : sp = 0 ∨ ¬ isT (st (sp - 1))) (h2 : (1 : Int32) = 0 ∨ sp = 0 ∨ ¬ isP (st (sp - 1))) (k1 : ¬ ¬ tmP (b pl) = 0) (k2 : ¬ ¬ plP (b pl) = 0) (k3 : ¬ b pl = 93) : VF b S dE a s0 n0 m0 B c0 st nc na cd sp on pl := ⟨h, or_A h1 (h2.resolve_left (by decide)), fun q => q.elim k1 k2, k3⟩
theorem VF.ve (h : VF b S dE a s0 n0 m0 B c0 st nc na cd sp on pl) (h9 : sp = 0 ∨ ¬ st (sp - 1) = 91) : VE b S dE a s0 n0 m0 B c0 st nc na cd sp on pl := h.1.fin h.2.1 h9 h.2.2.1
theorem VF.e (h : VF b S dE a s0 n0 m0 B c0 st nc na cd sp on pl) (hs : 0 < sp) (ht : st (sp - 1) = 91) (e : x = (-1000) * nI 1 - nI pl) : QE b S x := h.1.e91 hs ht h.2.2.1 h.2.2.2 e
end LEAVES
theorem lf_X12_here_t_3 (h : Nat) (q : Nat → Nat) (im : Nat → Int32) (pl : Nat) (ed : Nat) (m_tape : Nat → Int32) (hf_pl : im 19 = nI pl) (hf_ed : im 20 = nI ed) (hed : ed ≤ 200) (hpl : pl ≤ 1000) (c_1 : nI ed ≤ nI pl) : ed ≤ pl := by
  exact (nI_leI (a := ed) (b := pl) (by omega) (by omega)).mp c_1
theorem lf_X12_here_t_4 (h : Nat) (q : Nat → Nat) (im : Nat → Int32) (pl : Nat) (ed : Nat) (m_tape : Nat → Int32) (hf_pl : im 19 = nI pl) (hf_ed : im 20 = nI ed) (hed : ed ≤ 200) (hpl : pl ≤ 1000) (c_1 : nI ed ≤ nI pl) (n_2 : ed ≤ pl) : (0 : Int32) = nI (bF m_tape ed pl) := by
  rw [← he_bF]
  first | (subst_vars; exact (if_pos (by omega)).symm) | exact (if_neg (by omega)).symm
theorem lf_X12_here_t_6 (h : Nat) (q : Nat → Nat) (im : Nat → Int32) (pl : Nat) (ed : Nat) (m_tape : Nat → Int32) (hf_pl : im 19 = nI pl) (hf_ed : im 20 = nI ed) (hed : ed ≤ 200) (hpl : pl ≤ 1000) (c_1 : ¬ nI ed ≤ nI pl) : pl < ed := by
  exact Nat.lt_of_not_le (fun q => c_1 ((nI_leI (a := ed) (b := pl) (by omega) (by omega)).mpr q))
theorem lf_X12_here_t_7 (h : Nat) (q : Nat → Nat) (im : Nat → Int32) (pl : Nat) (ed : Nat) (m_tape : Nat → Int32) (hf_pl : im 19 = nI pl) (hf_ed : im 20 = nI ed) (hed : ed ≤ 200) (hpl : pl ≤ 1000) (c_1 : ¬ nI ed ≤ nI pl) (n_5 : pl < ed) : pl < 220 := by
  omega
theorem lf_X12_here_t_9 (h : Nat) (q : Nat → Nat) (im : Nat → Int32) (pl : Nat) (ed : Nat) (m_tape : Nat → Int32) (hf_pl : im 19 = nI pl) (hf_ed : im 20 = nI ed) (hed : ed ≤ 200) (hpl : pl ≤ 1000) (c_1 : ¬ nI ed ≤ nI pl) (n_5 : pl < ed) (x_8 : Int32) (ex_8 : x_8 = m_tape pl &&& 255) : (x_8 : Int32) = nI (bF m_tape ed pl) := by
  rw [← he_bF]
  first | (subst_vars; exact (if_pos (by omega)).symm) | exact (if_neg (by omega)).symm
set_option maxHeartbeats 4000000 in
set_option maxRecDepth 100000 in
theorem c_X12_here_t (l : Launch) (D : va_G) (cI cB cZ cJ : ClassId) (tx : List (ClassId × FieldType)) (h : Nat) (q : Nat → Nat) (im : Nat → Int32) (pl : Nat) (ed : Nat) (m_tape : Nat → Int32) (hf_pl : im 19 = nI pl) (hf_ed : im 20 = nI ed) (hed : ed ≤ 200) (hpl : pl ≤ 1000) : RdI l D cI cB cZ cJ tx yX12_here cX12_here 1 (some .int) 0 [.ref h] [(h, .inr (12, mG q im)), (q 0, .inl (cB, 220, .inl m_tape))] (fun r => r = nI (bF m_tape ed pl)) := by
  refine rdi_of2 (by decide) (Nat.le_of_ble_eq_true rfl) ?_
  intro p e s m below meth c A ls H locs hC hK hP hD hA hS hl
  obtain ⟨hx, hb, hr, hml, hown, hts, hlocks, hin⟩ := hC
  have hown : s.vm.findClass RX12 = some m.cls := hown
  have hl : lv_has ls 1 [(0, .ref h)] := hl
  refine W_gQ (fun Q hQ => ?_)
  refine lv_aload_n hx hb dX12_here_0 rfl (lv_at hl 0 rfl) ?_
  refine va_get (D := D) (ci := 12) (v := .int (im 19)) (C := RX12) (T := TX12) (N := 81) hx hb hts inT_X12 hown hK.1 hP 0 rfl rfl 19 (by decide) (hts _ k_1372) (fun _ h9 => h9) rfl dX12_here_1 ?_
  refine lv_topv (y := nI pl) hf_pl ?_
  refine lv_aload_n hx hb dX12_here_4 rfl (lv_at hl 0 rfl) ?_
  refine va_get (D := D) (ci := 12) (v := .int (im 20)) (C := RX12) (T := TX12) (N := 81) hx hb hts inT_X12 hown hK.1 hP 0 rfl rfl 20 (by decide) (hts _ k_1373) (fun _ h9 => h9) rfl dX12_here_5 ?_
  refine lv_topv (y := nI ed) hf_ed ?_
  refine lv_icmp_ge (tgt := 27) hx hb dX12_here_8 (by decide) (fun c_1 => ?_) (fun c_1 => ?_)
  · have n_2 : ed ≤ pl := (lf_X12_here_t_3 h q im pl ed m_tape hf_pl hf_ed hed hpl c_1)
    refine lv_iconst (v := 0) hx hb dX12_here_27 (by decide) ?_
    rw [hQ]
    exact W.iret (v := 0) hx hb hr (fun tt9 ht hW => ⟨⟨(0 : Int32), (), rfl, (lf_X12_here_t_4 h q im pl ed m_tape hf_pl hf_ed hed hpl c_1 n_2), trivial⟩, hS.F ht⟩) hS.2.2 dX12_here_28 hlocks
  · have n_5 : pl < ed := (lf_X12_here_t_6 h q im pl ed m_tape hf_pl hf_ed hed hpl c_1)
    refine lv_aload_n hx hb dX12_here_11 rfl (lv_at hl 0 rfl) ?_
    refine va_get (D := D) (ci := 12) (v := .ref (q 0)) (C := RX12) (T := TX12) (N := 81) hx hb hts inT_X12 hown hK.1 hP 0 rfl rfl 0 (by decide) (hts _ k_1353) (fun _ h9 => h9) rfl dX12_here_12 ?_
    refine lv_aload_n hx hb dX12_here_15 rfl (lv_at hl 0 rfl) ?_
    refine va_get (D := D) (ci := 12) (v := .int (im 19)) (C := RX12) (T := TX12) (N := 81) hx hb hts inT_X12 hown hK.1 hP 0 rfl rfl 19 (by decide) (hts _ k_1372) (fun _ h9 => h9) rfl dX12_here_16 ?_
    refine lv_topv (y := nI pl) hf_pl ?_
    refine lt_b (j := pl) hx hb hK hP 1 rfl (lf_X12_here_t_7 h q im pl ed m_tape hf_pl hf_ed hed hpl c_1 n_5) (by decide) dX12_here_19 ?_
    refine lv_sipush (v := 255) hx hb dX12_here_20 (by decide) ?_
    refine lv_iand hx hb dX12_here_23 ?_
    refine lv_topi (fun x_8 ex_8 => ?_)
    refine lv_goto (tgt := 28) hx hb dX12_here_24 (by decide) ?_
    rw [hQ]
    exact W.iret (v := x_8) hx hb hr (fun tt9 ht hW => ⟨⟨(x_8 : Int32), (), rfl, (lf_X12_here_t_9 h q im pl ed m_tape hf_pl hf_ed hed hpl c_1 n_5 x_8 ex_8), trivial⟩, hS.F ht⟩) hS.2.2 dX12_here_28 hlocks

theorem lf_X12_wrongs_t_4 (h : Nat) (q : Nat → Nat) (im : Nat → Int32) (f0 : Nat) (p0 : Nat) (hf_b0 : im 21 = 0) (hf0 : 1 ≤ f0) (hf5 : f0 ≤ 5) (hp0 : p0 ≤ 200) (x_1 : Int32) (ex_1 : x_1 = (-1000) * nI f0) (x_2 : Int32) (ex_2 : x_2 = x_1 - nI p0) (i_3 : Nat → Int32) (hsb : SB [21] im i_3) (hi_3_21 : i_3 21 = x_2) : (SB [21] im (i_3 : Nat → Int32)) ∧ ((i_3 : Nat → Int32) 21 = (x_2 : Int32)) ∧ ((x_2 : Int32) < 0) ∧ (¬ (x_2 : Int32) = 0) ∧ ((x_2 : Int32) = (-1000) * nI f0 - nI p0) := by
  have e1 := ‹(_ : Int32) = (-1000) * nI f0›
  have e2 := wr_end e1 (by assumption) (by omega) (by omega) (by omega)
  refine ⟨?_, ?_, e2, lt_n0 e2, ?_⟩
  · assumption
  · assumption
  · exact sub_e2 e1 (by assumption)
set_option maxHeartbeats 4000000 in
set_option maxRecDepth 100000 in
theorem c_X12_wrongs_t (l : Launch) (D : va_G) (cI cB cZ cJ : ClassId) (tx : List (ClassId × FieldType)) (h : Nat) (q : Nat → Nat) (im : Nat → Int32) (f0 : Nat) (p0 : Nat) (hf_b0 : im 21 = 0) (hf0 : 1 ≤ f0) (hf5 : f0 ≤ 5) (hp0 : p0 ≤ 200) : WrV l D cI cB cZ cJ tx yX12_wrongs cX12_wrongs 3 none 0 0 0 [.ref h, .int (nI f0), .int (nI p0)] [(h, .inr (12, mG q im))] (fun (v : (Nat → Int32) × (Int32)) => (SB [21] im v.1) ∧ (v.1 21 = v.2) ∧ (v.2 < 0) ∧ (¬ v.2 = 0) ∧ (v.2 = (-1000) * nI f0 - nI p0)) (fun v => [(h, .inr (12, mG q v.1))]) := by
  refine wrv_of2 (by decide) (Nat.le_of_ble_eq_true rfl) ?_
  intro p e s m below meth c A ls H locs hC hK hP hD hA hS hl
  obtain ⟨hx, hb, hr, hml, hown, hts, hlocks, hin⟩ := hC
  have hown : s.vm.findClass RX12 = some m.cls := hown
  have hl : lv_has ls 3 [(0, .ref h), (1, .int (nI f0)), (2, .int (nI p0))] := hl
  have hsb : SB [21] im im := SB.rf
  refine W_gQ (fun Q hQ => ?_)
  refine lv_aload_n hx hb dX12_wrongs_0 rfl (lv_at hl 0 rfl) ?_
  refine lv_aload_n hx hb dX12_wrongs_1 rfl (lv_at hl 0 rfl) ?_
  refine va_get (D := D) (ci := 12) (v := .int (im 21)) (C := RX12) (T := TX12) (N := 81) hx hb hts inT_X12 hown hK.1 hP 0 rfl rfl 21 (by decide) (hts _ k_1374) (fun _ h9 => h9) rfl dX12_wrongs_2 ?_
  refine lv_topv (y := 0) hf_b0 ?_
  refine lv_if_ge (tgt := 15) hx hb dX12_wrongs_5 (by decide) (fun _ => ?_) (fun c => absurd c (by decide))
  refine lv_sipush (v := (-1000)) hx hb dX12_wrongs_15 (by decide) ?_
  refine lv_iload_n hx hb dX12_wrongs_18 rfl (lv_at hl 1 rfl) ?_
  refine lv_imul hx hb dX12_wrongs_19 ?_
  refine lv_topi (fun x_1 ex_1 => ?_)
  refine lv_iload_n hx hb dX12_wrongs_20 rfl (lv_at hl 2 rfl) ?_
  refine lv_isub hx hb dX12_wrongs_21 ?_
  refine lv_topi (fun x_2 ex_2 => ?_)
  refine va_put (D := D) (ci := 12) (v := .int x_2) (ty := .int) (C := RX12) (T := TX12) (N := 81) hx hb hts inT_X12 tyX12 tyX12_ok nmX12 hown hK.1 hP hD hS 0 rfl rfl 21 (by decide) (hts _ k_1374) (fun _ h9 => h9) rfl (by decide +kernel) rfl rfl (Nat.le_of_ble_eq_true rfl) dX12_wrongs_22 (fun H locs hP hD hS => ?_)
  obtain ⟨i_3, ei_3⟩ : ∃ z : Nat → Int32, z = upd im 21 x_2 := ⟨_, rfl⟩
  have hi_3_21 : i_3 21 = x_2 := by rw [ei_3]; rfl
  have hsb := SB.put hsb ei_3 (by decide)
  have hP : va_P D vwCl [(h, .inr (12, mG q i_3))] H := by rw [ei_3, ← mG_21]; exact hP
  have hD : va_D A [(h, .inr (12, mG q i_3))] := by rw [ei_3, ← mG_21]; exact hD
  rw [hQ]
  exact W.vret hx hb hr (fun tt9 ht hW => ⟨⟨((i_3 : Nat → Int32), (x_2 : Int32)), rfl, (lf_X12_wrongs_t_4 h q im f0 p0 hf_b0 hf0 hf5 hp0 x_1 ex_1 x_2 ex_2 i_3 hsb hi_3_21), ⟨by rw [ht]; exact hP, hD⟩⟩, hS.F ht⟩) hS.2.2 dX12_wrongs_25 hlocks

theorem lf_X12_isTimes_t_3 (k0 : Nat) (hk0 : k0 < 256) (c_1 : nI k0 = 42) : k0 = 42 := by
  exact (nI_eq (a := k0) (b := 42) (by omega) (by omega)).mp c_1
theorem lf_X12_isTimes_t_4 (k0 : Nat) (hk0 : k0 < 256) (c_1 : nI k0 = 42) (n_2 : k0 = 42) : (1 : Int32) = bi (¬ tmP k0 = 0) := by
  first | exact tm_b1 k0 hk0 (by omega) | exact tm_b0 k0 hk0 (by omega) (by omega) (by omega)
theorem lf_X12_isTimes_t_6 (k0 : Nat) (hk0 : k0 < 256) (c_1 : ¬ nI k0 = 42) : k0 ≠ 42 := by
  exact fun q => c_1 ((nI_eq (a := k0) (b := 42) (by omega) (by omega)).mpr q)
theorem lf_X12_isTimes_t_9 (k0 : Nat) (hk0 : k0 < 256) (c_1 : ¬ nI k0 = 42) (n_5 : k0 ≠ 42) (c_7 : nI k0 = 47) : k0 = 47 := by
  exact (nI_eq (a := k0) (b := 47) (by omega) (by omega)).mp c_7
theorem lf_X12_isTimes_t_10 (k0 : Nat) (hk0 : k0 < 256) (c_1 : ¬ nI k0 = 42) (n_5 : k0 ≠ 42) (c_7 : nI k0 = 47) (n_8 : k0 = 47) : (1 : Int32) = bi (¬ tmP k0 = 0) := by
  first | exact tm_b1 k0 hk0 (by omega) | exact tm_b0 k0 hk0 (by omega) (by omega) (by omega)
theorem lf_X12_isTimes_t_12 (k0 : Nat) (hk0 : k0 < 256) (c_1 : ¬ nI k0 = 42) (n_5 : k0 ≠ 42) (c_7 : ¬ nI k0 = 47) : k0 ≠ 47 := by
  exact fun q => c_7 ((nI_eq (a := k0) (b := 47) (by omega) (by omega)).mpr q)
theorem lf_X12_isTimes_t_15 (k0 : Nat) (hk0 : k0 < 256) (c_1 : ¬ nI k0 = 42) (n_5 : k0 ≠ 42) (c_7 : ¬ nI k0 = 47) (n_11 : k0 ≠ 47) (c_13 : ¬ nI k0 = 37) : k0 ≠ 37 := by
  exact fun q => c_13 ((nI_eq (a := k0) (b := 37) (by omega) (by omega)).mpr q)
theorem lf_X12_isTimes_t_16 (k0 : Nat) (hk0 : k0 < 256) (c_1 : ¬ nI k0 = 42) (n_5 : k0 ≠ 42) (c_7 : ¬ nI k0 = 47) (n_11 : k0 ≠ 47) (c_13 : ¬ nI k0 = 37) (n_14 : k0 ≠ 37) : (0 : Int32) = bi (¬ tmP k0 = 0) := by
  first | exact tm_b1 k0 hk0 (by omega) | exact tm_b0 k0 hk0 (by omega) (by omega) (by omega)
theorem lf_X12_isTimes_t_18 (k0 : Nat) (hk0 : k0 < 256) (c_1 : ¬ nI k0 = 42) (n_5 : k0 ≠ 42) (c_7 : ¬ nI k0 = 47) (n_11 : k0 ≠ 47) (c_13 : nI k0 = 37) : k0 = 37 := by
  exact (nI_eq (a := k0) (b := 37) (by omega) (by omega)).mp c_13
theorem lf_X12_isTimes_t_19 (k0 : Nat) (hk0 : k0 < 256) (c_1 : ¬ nI k0 = 42) (n_5 : k0 ≠ 42) (c_7 : ¬ nI k0 = 47) (n_11 : k0 ≠ 47) (c_13 : nI k0 = 37) (n_17 : k0 = 37) : (1 : Int32) = bi (¬ tmP k0 = 0) := by
  first | exact tm_b1 k0 hk0 (by omega) | exact tm_b0 k0 hk0 (by omega) (by omega) (by omega)
set_option maxHeartbeats 4000000 in
set_option maxRecDepth 100000 in
theorem c_X12_isTimes_t (l : Launch) (D : va_G) (cI cB cZ cJ : ClassId) (tx : List (ClassId × FieldType)) (k0 : Nat) (hk0 : k0 < 256) : RdI l D cI cB cZ cJ tx yX12_isTimes cX12_isTimes 1 (some .boolean) 0 [.int (nI k0)] [] (fun r => r = bi (¬ tmP k0 = 0)) := by
  refine rdi_of2 (by decide) (Nat.le_of_ble_eq_true rfl) ?_
  intro p e s m below meth c A ls H locs hC hK hP hD hA hS hl
  obtain ⟨hx, hb, hr, hml, hown, hts, hlocks, hin⟩ := hC
  have hown : s.vm.findClass RX12 = some m.cls := hown
  have hl : lv_has ls 1 [(0, .int (nI k0))] := hl
  refine W_gQ (fun Q hQ => ?_)
  refine lv_iload_n hx hb dX12_isTimes_0 rfl (lv_at hl 0 rfl) ?_
  refine lv_bipush (v := 42) hx hb dX12_isTimes_1 (by decide) ?_
  refine lv_icmp_eq (tgt := 18) hx hb dX12_isTimes_3 (by decide) (fun c_1 => ?_) (fun c_1 => ?_)
  · have n_2 : k0 = 42 := (lf_X12_isTimes_t_3 k0 hk0 c_1)
    refine lv_iconst (v := 1) hx hb dX12_isTimes_18 (by decide) ?_
    refine lv_goto (tgt := 23) hx hb dX12_isTimes_19 (by decide) ?_
    rw [hQ]
    exact W.zret (v := 1) hx hb hr (by decide) (fun tt9 ht hW => ⟨⟨(1 : Int32), (), rfl, (lf_X12_isTimes_t_4 k0 hk0 c_1 n_2), trivial⟩, hS.F ht⟩) hS.2.2 dX12_isTimes_23 hlocks
  · have n_5 : k0 ≠ 42 := (lf_X12_isTimes_t_6 k0 hk0 c_1)
    refine lv_iload_n hx hb dX12_isTimes_6 rfl (lv_at hl 0 rfl) ?_
    refine lv_bipush (v := 47) hx hb dX12_isTimes_7 (by decide) ?_
    refine lv_icmp_eq (tgt := 18) hx hb dX12_isTimes_9 (by decide) (fun c_7 => ?_) (fun c_7 => ?_)
    · have n_8 : k0 = 47 := (lf_X12_isTimes_t_9 k0 hk0 c_1 n_5 c_7)
      refine lv_iconst (v := 1) hx hb dX12_isTimes_18 (by decide) ?_
      refine lv_goto (tgt := 23) hx hb dX12_isTimes_19 (by decide) ?_
      rw [hQ]
      exact W.zret (v := 1) hx hb hr (by decide) (fun tt9 ht hW => ⟨⟨(1 : Int32), (), rfl, (lf_X12_isTimes_t_10 k0 hk0 c_1 n_5 c_7 n_8), trivial⟩, hS.F ht⟩) hS.2.2 dX12_isTimes_23 hlocks
    · have n_11 : k0 ≠ 47 := (lf_X12_isTimes_t_12 k0 hk0 c_1 n_5 c_7)
      refine lv_iload_n hx hb dX12_isTimes_12 rfl (lv_at hl 0 rfl) ?_
      refine lv_bipush (v := 37) hx hb dX12_isTimes_13 (by decide) ?_
      refine lv_icmp_ne (tgt := 22) hx hb dX12_isTimes_15 (by decide) (fun c_13 => ?_) (fun c_13 => ?_)
      · have n_14 : k0 ≠ 37 := (lf_X12_isTimes_t_15 k0 hk0 c_1 n_5 c_7 n_11 c_13)
        refine lv_iconst (v := 0) hx hb dX12_isTimes_22 (by decide) ?_
        rw [hQ]
        exact W.zret (v := 0) hx hb hr (by decide) (fun tt9 ht hW => ⟨⟨(0 : Int32), (), rfl, (lf_X12_isTimes_t_16 k0 hk0 c_1 n_5 c_7 n_11 c_13 n_14), trivial⟩, hS.F ht⟩) hS.2.2 dX12_isTimes_23 hlocks
      · have n_17 : k0 = 37 := (lf_X12_isTimes_t_18 k0 hk0 c_1 n_5 c_7 n_11 c_13)
        refine lv_iconst (v := 1) hx hb dX12_isTimes_18 (by decide) ?_
        refine lv_goto (tgt := 23) hx hb dX12_isTimes_19 (by decide) ?_
        rw [hQ]
        exact W.zret (v := 1) hx hb hr (by decide) (fun tt9 ht hW => ⟨⟨(1 : Int32), (), rfl, (lf_X12_isTimes_t_19 k0 hk0 c_1 n_5 c_7 n_11 c_13 n_17), trivial⟩, hS.F ht⟩) hS.2.2 dX12_isTimes_23 hlocks

theorem lf_X12_isPlus_t_3 (k0 : Nat) (hk0 : k0 < 256) (c_1 : nI k0 = 43) : k0 = 43 := by
  exact (nI_eq (a := k0) (b := 43) (by omega) (by omega)).mp c_1
theorem lf_X12_isPlus_t_4 (k0 : Nat) (hk0 : k0 < 256) (c_1 : nI k0 = 43) (n_2 : k0 = 43) : (1 : Int32) = bi (¬ plP k0 = 0) := by
  first | exact pl_b1 k0 hk0 (by omega) | exact pl_b0 k0 hk0 (by omega) (by omega)
theorem lf_X12_isPlus_t_6 (k0 : Nat) (hk0 : k0 < 256) (c_1 : ¬ nI k0 = 43) : k0 ≠ 43 := by
  exact fun q => c_1 ((nI_eq (a := k0) (b := 43) (by omega) (by omega)).mpr q)
theorem lf_X12_isPlus_t_9 (k0 : Nat) (hk0 : k0 < 256) (c_1 : ¬ nI k0 = 43) (n_5 : k0 ≠ 43) (c_7 : ¬ nI k0 = 45) : k0 ≠ 45 := by
  exact fun q => c_7 ((nI_eq (a := k0) (b := 45) (by omega) (by omega)).mpr q)
theorem lf_X12_isPlus_t_10 (k0 : Nat) (hk0 : k0 < 256) (c_1 : ¬ nI k0 = 43) (n_5 : k0 ≠ 43) (c_7 : ¬ nI k0 = 45) (n_8 : k0 ≠ 45) : (0 : Int32) = bi (¬ plP k0 = 0) := by
  first | exact pl_b1 k0 hk0 (by omega) | exact pl_b0 k0 hk0 (by omega) (by omega)
theorem lf_X12_isPlus_t_12 (k0 : Nat) (hk0 : k0 < 256) (c_1 : ¬ nI k0 = 43) (n_5 : k0 ≠ 43) (c_7 : nI k0 = 45) : k0 = 45 := by
  exact (nI_eq (a := k0) (b := 45) (by omega) (by omega)).mp c_7
theorem lf_X12_isPlus_t_13 (k0 : Nat) (hk0 : k0 < 256) (c_1 : ¬ nI k0 = 43) (n_5 : k0 ≠ 43) (c_7 : nI k0 = 45) (n_11 : k0 = 45) : (1 : Int32) = bi (¬ plP k0 = 0) := by
  first | exact pl_b1 k0 hk0 (by omega) | exact pl_b0 k0 hk0 (by omega) (by omega)
set_option maxHeartbeats 4000000 in
set_option maxRecDepth 100000 in
theorem c_X12_isPlus_t (l : Launch) (D : va_G) (cI cB cZ cJ : ClassId) (tx : List (ClassId × FieldType)) (k0 : Nat) (hk0 : k0 < 256) : RdI l D cI cB cZ cJ tx yX12_isPlus cX12_isPlus 1 (some .boolean) 0 [.int (nI k0)] [] (fun r => r = bi (¬ plP k0 = 0)) := by
  refine rdi_of2 (by decide) (Nat.le_of_ble_eq_true rfl) ?_
  intro p e s m below meth c A ls H locs hC hK hP hD hA hS hl
  obtain ⟨hx, hb, hr, hml, hown, hts, hlocks, hin⟩ := hC
  have hown : s.vm.findClass RX12 = some m.cls := hown
  have hl : lv_has ls 1 [(0, .int (nI k0))] := hl
  refine W_gQ (fun Q hQ => ?_)
  refine lv_iload_n hx hb dX12_isPlus_0 rfl (lv_at hl 0 rfl) ?_
  refine lv_bipush (v := 43) hx hb dX12_isPlus_1 (by decide) ?_
  refine lv_icmp_eq (tgt := 12) hx hb dX12_isPlus_3 (by decide) (fun c_1 => ?_) (fun c_1 => ?_)
  · have n_2 : k0 = 43 := (lf_X12_isPlus_t_3 k0 hk0 c_1)
    refine lv_iconst (v := 1) hx hb dX12_isPlus_12 (by decide) ?_
    refine lv_goto (tgt := 17) hx hb dX12_isPlus_13 (by decide) ?_
    rw [hQ]
    exact W.zret (v := 1) hx hb hr (by decide) (fun tt9 ht hW => ⟨⟨(1 : Int32), (), rfl, (lf_X12_isPlus_t_4 k0 hk0 c_1 n_2), trivial⟩, hS.F ht⟩) hS.2.2 dX12_isPlus_17 hlocks
  · have n_5 : k0 ≠ 43 := (lf_X12_isPlus_t_6 k0 hk0 c_1)
    refine lv_iload_n hx hb dX12_isPlus_6 rfl (lv_at hl 0 rfl) ?_
    refine lv_bipush (v := 45) hx hb dX12_isPlus_7 (by decide) ?_
    refine lv_icmp_ne (tgt := 16) hx hb dX12_isPlus_9 (by decide) (fun c_7 => ?_) (fun c_7 => ?_)
    · have n_8 : k0 ≠ 45 := (lf_X12_isPlus_t_9 k0 hk0 c_1 n_5 c_7)
      refine lv_iconst (v := 0) hx hb dX12_isPlus_16 (by decide) ?_
      rw [hQ]
      exact W.zret (v := 0) hx hb hr (by decide) (fun tt9 ht hW => ⟨⟨(0 : Int32), (), rfl, (lf_X12_isPlus_t_10 k0 hk0 c_1 n_5 c_7 n_8), trivial⟩, hS.F ht⟩) hS.2.2 dX12_isPlus_17 hlocks
    · have n_11 : k0 = 45 := (lf_X12_isPlus_t_12 k0 hk0 c_1 n_5 c_7)
      refine lv_iconst (v := 1) hx hb dX12_isPlus_12 (by decide) ?_
      refine lv_goto (tgt := 17) hx hb dX12_isPlus_13 (by decide) ?_
      rw [hQ]
      exact W.zret (v := 1) hx hb hr (by decide) (fun tt9 ht hW => ⟨⟨(1 : Int32), (), rfl, (lf_X12_isPlus_t_13 k0 hk0 c_1 n_5 c_7 n_11), trivial⟩, hS.F ht⟩) hS.2.2 dX12_isPlus_17 hlocks

theorem lf_X12_isSign_t_3 (k0 : Nat) (hk0 : k0 < 256) (c_1 : nI k0 = 60) : k0 = 60 := by
  exact (nI_eq (a := k0) (b := 60) (by omega) (by omega)).mp c_1
theorem lf_X12_isSign_t_4 (k0 : Nat) (hk0 : k0 < 256) (c_1 : nI k0 = 60) (n_2 : k0 = 60) : (1 : Int32) = bi (¬ cmP k0 = 0) := by
  first | exact cm_b1 k0 hk0 (by omega) | exact cm_b0 k0 hk0 (by omega) (by omega) (by omega)
theorem lf_X12_isSign_t_6 (k0 : Nat) (hk0 : k0 < 256) (c_1 : ¬ nI k0 = 60) : k0 ≠ 60 := by
  exact fun q => c_1 ((nI_eq (a := k0) (b := 60) (by omega) (by omega)).mpr q)
theorem lf_X12_isSign_t_9 (k0 : Nat) (hk0 : k0 < 256) (c_1 : ¬ nI k0 = 60) (n_5 : k0 ≠ 60) (c_7 : nI k0 = 62) : k0 = 62 := by
  exact (nI_eq (a := k0) (b := 62) (by omega) (by omega)).mp c_7
theorem lf_X12_isSign_t_10 (k0 : Nat) (hk0 : k0 < 256) (c_1 : ¬ nI k0 = 60) (n_5 : k0 ≠ 60) (c_7 : nI k0 = 62) (n_8 : k0 = 62) : (1 : Int32) = bi (¬ cmP k0 = 0) := by
  first | exact cm_b1 k0 hk0 (by omega) | exact cm_b0 k0 hk0 (by omega) (by omega) (by omega)
theorem lf_X12_isSign_t_12 (k0 : Nat) (hk0 : k0 < 256) (c_1 : ¬ nI k0 = 60) (n_5 : k0 ≠ 60) (c_7 : ¬ nI k0 = 62) : k0 ≠ 62 := by
  exact fun q => c_7 ((nI_eq (a := k0) (b := 62) (by omega) (by omega)).mpr q)
theorem lf_X12_isSign_t_15 (k0 : Nat) (hk0 : k0 < 256) (c_1 : ¬ nI k0 = 60) (n_5 : k0 ≠ 60) (c_7 : ¬ nI k0 = 62) (n_11 : k0 ≠ 62) (c_13 : ¬ nI k0 = 61) : k0 ≠ 61 := by
  exact fun q => c_13 ((nI_eq (a := k0) (b := 61) (by omega) (by omega)).mpr q)
theorem lf_X12_isSign_t_16 (k0 : Nat) (hk0 : k0 < 256) (c_1 : ¬ nI k0 = 60) (n_5 : k0 ≠ 60) (c_7 : ¬ nI k0 = 62) (n_11 : k0 ≠ 62) (c_13 : ¬ nI k0 = 61) (n_14 : k0 ≠ 61) : (0 : Int32) = bi (¬ cmP k0 = 0) := by
  first | exact cm_b1 k0 hk0 (by omega) | exact cm_b0 k0 hk0 (by omega) (by omega) (by omega)
theorem lf_X12_isSign_t_18 (k0 : Nat) (hk0 : k0 < 256) (c_1 : ¬ nI k0 = 60) (n_5 : k0 ≠ 60) (c_7 : ¬ nI k0 = 62) (n_11 : k0 ≠ 62) (c_13 : nI k0 = 61) : k0 = 61 := by
  exact (nI_eq (a := k0) (b := 61) (by omega) (by omega)).mp c_13
theorem lf_X12_isSign_t_19 (k0 : Nat) (hk0 : k0 < 256) (c_1 : ¬ nI k0 = 60) (n_5 : k0 ≠ 60) (c_7 : ¬ nI k0 = 62) (n_11 : k0 ≠ 62) (c_13 : nI k0 = 61) (n_17 : k0 = 61) : (1 : Int32) = bi (¬ cmP k0 = 0) := by
  first | exact cm_b1 k0 hk0 (by omega) | exact cm_b0 k0 hk0 (by omega) (by omega) (by omega)
set_option maxHeartbeats 4000000 in
set_option maxRecDepth 100000 in
theorem c_X12_isSign_t (l : Launch) (D : va_G) (cI cB cZ cJ : ClassId) (tx : List (ClassId × FieldType)) (k0 : Nat) (hk0 : k0 < 256) : RdI l D cI cB cZ cJ tx yX12_isSign cX12_isSign 1 (some .boolean) 0 [.int (nI k0)] [] (fun r => r = bi (¬ cmP k0 = 0)) := by
  refine rdi_of2 (by decide) (Nat.le_of_ble_eq_true rfl) ?_
  intro p e s m below meth c A ls H locs hC hK hP hD hA hS hl
  obtain ⟨hx, hb, hr, hml, hown, hts, hlocks, hin⟩ := hC
  have hown : s.vm.findClass RX12 = some m.cls := hown
  have hl : lv_has ls 1 [(0, .int (nI k0))] := hl
  refine W_gQ (fun Q hQ => ?_)
  refine lv_iload_n hx hb dX12_isSign_0 rfl (lv_at hl 0 rfl) ?_
  refine lv_bipush (v := 60) hx hb dX12_isSign_1 (by decide) ?_
  refine lv_icmp_eq (tgt := 18) hx hb dX12_isSign_3 (by decide) (fun c_1 => ?_) (fun c_1 => ?_)
  · have n_2 : k0 = 60 := (lf_X12_isSign_t_3 k0 hk0 c_1)
    refine lv_iconst (v := 1) hx hb dX12_isSign_18 (by decide) ?_
    refine lv_goto (tgt := 23) hx hb dX12_isSign_19 (by decide) ?_
    rw [hQ]
    exact W.zret (v := 1) hx hb hr (by decide) (fun tt9 ht hW => ⟨⟨(1 : Int32), (), rfl, (lf_X12_isSign_t_4 k0 hk0 c_1 n_2), trivial⟩, hS.F ht⟩) hS.2.2 dX12_isSign_23 hlocks
  · have n_5 : k0 ≠ 60 := (lf_X12_isSign_t_6 k0 hk0 c_1)
    refine lv_iload_n hx hb dX12_isSign_6 rfl (lv_at hl 0 rfl) ?_
    refine lv_bipush (v := 62) hx hb dX12_isSign_7 (by decide) ?_
    refine lv_icmp_eq (tgt := 18) hx hb dX12_isSign_9 (by decide) (fun c_7 => ?_) (fun c_7 => ?_)
    · have n_8 : k0 = 62 := (lf_X12_isSign_t_9 k0 hk0 c_1 n_5 c_7)
      refine lv_iconst (v := 1) hx hb dX12_isSign_18 (by decide) ?_
      refine lv_goto (tgt := 23) hx hb dX12_isSign_19 (by decide) ?_
      rw [hQ]
      exact W.zret (v := 1) hx hb hr (by decide) (fun tt9 ht hW => ⟨⟨(1 : Int32), (), rfl, (lf_X12_isSign_t_10 k0 hk0 c_1 n_5 c_7 n_8), trivial⟩, hS.F ht⟩) hS.2.2 dX12_isSign_23 hlocks
    · have n_11 : k0 ≠ 62 := (lf_X12_isSign_t_12 k0 hk0 c_1 n_5 c_7)
      refine lv_iload_n hx hb dX12_isSign_12 rfl (lv_at hl 0 rfl) ?_
      refine lv_bipush (v := 61) hx hb dX12_isSign_13 (by decide) ?_
      refine lv_icmp_ne (tgt := 22) hx hb dX12_isSign_15 (by decide) (fun c_13 => ?_) (fun c_13 => ?_)
      · have n_14 : k0 ≠ 61 := (lf_X12_isSign_t_15 k0 hk0 c_1 n_5 c_7 n_11 c_13)
        refine lv_iconst (v := 0) hx hb dX12_isSign_22 (by decide) ?_
        rw [hQ]
        exact W.zret (v := 0) hx hb hr (by decide) (fun tt9 ht hW => ⟨⟨(0 : Int32), (), rfl, (lf_X12_isSign_t_16 k0 hk0 c_1 n_5 c_7 n_11 c_13 n_14), trivial⟩, hS.F ht⟩) hS.2.2 dX12_isSign_23 hlocks
      · have n_17 : k0 = 61 := (lf_X12_isSign_t_18 k0 hk0 c_1 n_5 c_7 n_11 c_13)
        refine lv_iconst (v := 1) hx hb dX12_isSign_18 (by decide) ?_
        refine lv_goto (tgt := 23) hx hb dX12_isSign_19 (by decide) ?_
        rw [hQ]
        exact W.zret (v := 1) hx hb hr (by decide) (fun tt9 ht hW => ⟨⟨(1 : Int32), (), rfl, (lf_X12_isSign_t_19 k0 hk0 c_1 n_5 c_7 n_11 c_13 n_17), trivial⟩, hS.F ht⟩) hS.2.2 dX12_isSign_23 hlocks

theorem lf_X12_isValue_t_3 (k0 : Nat) (hk0 : k0 < 256) (c_1 : nI k0 = 102) : k0 = 102 := by
  exact (nI_eq (a := k0) (b := 102) (by omega) (by omega)).mp c_1
theorem lf_X12_isValue_t_4 (k0 : Nat) (hk0 : k0 < 256) (c_1 : nI k0 = 102) (n_2 : k0 = 102) : (1 : Int32) = bi (ltP k0) := by
  first | exact (if_pos (show ltP k0 by omega)).symm | exact (if_neg (show ¬ ltP k0 by omega)).symm
theorem lf_X12_isValue_t_6 (k0 : Nat) (hk0 : k0 < 256) (c_1 : ¬ nI k0 = 102) : k0 ≠ 102 := by
  exact fun q => c_1 ((nI_eq (a := k0) (b := 102) (by omega) (by omega)).mpr q)
theorem lf_X12_isValue_t_9 (k0 : Nat) (hk0 : k0 < 256) (c_1 : ¬ nI k0 = 102) (n_5 : k0 ≠ 102) (c_7 : nI k0 = 115) : k0 = 115 := by
  exact (nI_eq (a := k0) (b := 115) (by omega) (by omega)).mp c_7
theorem lf_X12_isValue_t_10 (k0 : Nat) (hk0 : k0 < 256) (c_1 : ¬ nI k0 = 102) (n_5 : k0 ≠ 102) (c_7 : nI k0 = 115) (n_8 : k0 = 115) : (1 : Int32) = bi (ltP k0) := by
  first | exact (if_pos (show ltP k0 by omega)).symm | exact (if_neg (show ¬ ltP k0 by omega)).symm
theorem lf_X12_isValue_t_12 (k0 : Nat) (hk0 : k0 < 256) (c_1 : ¬ nI k0 = 102) (n_5 : k0 ≠ 102) (c_7 : ¬ nI k0 = 115) : k0 ≠ 115 := by
  exact fun q => c_7 ((nI_eq (a := k0) (b := 115) (by omega) (by omega)).mpr q)
theorem lf_X12_isValue_t_15 (k0 : Nat) (hk0 : k0 < 256) (c_1 : ¬ nI k0 = 102) (n_5 : k0 ≠ 102) (c_7 : ¬ nI k0 = 115) (n_11 : k0 ≠ 115) (c_13 : nI k0 = 100) : k0 = 100 := by
  exact (nI_eq (a := k0) (b := 100) (by omega) (by omega)).mp c_13
theorem lf_X12_isValue_t_16 (k0 : Nat) (hk0 : k0 < 256) (c_1 : ¬ nI k0 = 102) (n_5 : k0 ≠ 102) (c_7 : ¬ nI k0 = 115) (n_11 : k0 ≠ 115) (c_13 : nI k0 = 100) (n_14 : k0 = 100) : (1 : Int32) = bi (ltP k0) := by
  first | exact (if_pos (show ltP k0 by omega)).symm | exact (if_neg (show ¬ ltP k0 by omega)).symm
theorem lf_X12_isValue_t_18 (k0 : Nat) (hk0 : k0 < 256) (c_1 : ¬ nI k0 = 102) (n_5 : k0 ≠ 102) (c_7 : ¬ nI k0 = 115) (n_11 : k0 ≠ 115) (c_13 : ¬ nI k0 = 100) : k0 ≠ 100 := by
  exact fun q => c_13 ((nI_eq (a := k0) (b := 100) (by omega) (by omega)).mpr q)
theorem lf_X12_isValue_t_21 (k0 : Nat) (hk0 : k0 < 256) (c_1 : ¬ nI k0 = 102) (n_5 : k0 ≠ 102) (c_7 : ¬ nI k0 = 115) (n_11 : k0 ≠ 115) (c_13 : ¬ nI k0 = 100) (n_17 : k0 ≠ 100) (c_19 : nI k0 = 110) : k0 = 110 := by
  exact (nI_eq (a := k0) (b := 110) (by omega) (by omega)).mp c_19
theorem lf_X12_isValue_t_22 (k0 : Nat) (hk0 : k0 < 256) (c_1 : ¬ nI k0 = 102) (n_5 : k0 ≠ 102) (c_7 : ¬ nI k0 = 115) (n_11 : k0 ≠ 115) (c_13 : ¬ nI k0 = 100) (n_17 : k0 ≠ 100) (c_19 : nI k0 = 110) (n_20 : k0 = 110) : (1 : Int32) = bi (ltP k0) := by
  first | exact (if_pos (show ltP k0 by omega)).symm | exact (if_neg (show ¬ ltP k0 by omega)).symm
theorem lf_X12_isValue_t_24 (k0 : Nat) (hk0 : k0 < 256) (c_1 : ¬ nI k0 = 102) (n_5 : k0 ≠ 102) (c_7 : ¬ nI k0 = 115) (n_11 : k0 ≠ 115) (c_13 : ¬ nI k0 = 100) (n_17 : k0 ≠ 100) (c_19 : ¬ nI k0 = 110) : k0 ≠ 110 := by
  exact fun q => c_19 ((nI_eq (a := k0) (b := 110) (by omega) (by omega)).mpr q)
theorem lf_X12_isValue_t_27 (k0 : Nat) (hk0 : k0 < 256) (c_1 : ¬ nI k0 = 102) (n_5 : k0 ≠ 102) (c_7 : ¬ nI k0 = 115) (n_11 : k0 ≠ 115) (c_13 : ¬ nI k0 = 100) (n_17 : k0 ≠ 100) (c_19 : ¬ nI k0 = 110) (n_23 : k0 ≠ 110) (c_25 : nI k0 = 99) : k0 = 99 := by
  exact (nI_eq (a := k0) (b := 99) (by omega) (by omega)).mp c_25
theorem lf_X12_isValue_t_28 (k0 : Nat) (hk0 : k0 < 256) (c_1 : ¬ nI k0 = 102) (n_5 : k0 ≠ 102) (c_7 : ¬ nI k0 = 115) (n_11 : k0 ≠ 115) (c_13 : ¬ nI k0 = 100) (n_17 : k0 ≠ 100) (c_19 : ¬ nI k0 = 110) (n_23 : k0 ≠ 110) (c_25 : nI k0 = 99) (n_26 : k0 = 99) : (1 : Int32) = bi (ltP k0) := by
  first | exact (if_pos (show ltP k0 by omega)).symm | exact (if_neg (show ¬ ltP k0 by omega)).symm
theorem lf_X12_isValue_t_30 (k0 : Nat) (hk0 : k0 < 256) (c_1 : ¬ nI k0 = 102) (n_5 : k0 ≠ 102) (c_7 : ¬ nI k0 = 115) (n_11 : k0 ≠ 115) (c_13 : ¬ nI k0 = 100) (n_17 : k0 ≠ 100) (c_19 : ¬ nI k0 = 110) (n_23 : k0 ≠ 110) (c_25 : ¬ nI k0 = 99) : k0 ≠ 99 := by
  exact fun q => c_25 ((nI_eq (a := k0) (b := 99) (by omega) (by omega)).mpr q)
theorem lf_X12_isValue_t_33 (k0 : Nat) (hk0 : k0 < 256) (c_1 : ¬ nI k0 = 102) (n_5 : k0 ≠ 102) (c_7 : ¬ nI k0 = 115) (n_11 : k0 ≠ 115) (c_13 : ¬ nI k0 = 100) (n_17 : k0 ≠ 100) (c_19 : ¬ nI k0 = 110) (n_23 : k0 ≠ 110) (c_25 : ¬ nI k0 = 99) (n_29 : k0 ≠ 99) (c_31 : nI k0 = 107) : k0 = 107 := by
  exact (nI_eq (a := k0) (b := 107) (by omega) (by omega)).mp c_31
theorem lf_X12_isValue_t_34 (k0 : Nat) (hk0 : k0 < 256) (c_1 : ¬ nI k0 = 102) (n_5 : k0 ≠ 102) (c_7 : ¬ nI k0 = 115) (n_11 : k0 ≠ 115) (c_13 : ¬ nI k0 = 100) (n_17 : k0 ≠ 100) (c_19 : ¬ nI k0 = 110) (n_23 : k0 ≠ 110) (c_25 : ¬ nI k0 = 99) (n_29 : k0 ≠ 99) (c_31 : nI k0 = 107) (n_32 : k0 = 107) : (1 : Int32) = bi (ltP k0) := by
  first | exact (if_pos (show ltP k0 by omega)).symm | exact (if_neg (show ¬ ltP k0 by omega)).symm
theorem lf_X12_isValue_t_36 (k0 : Nat) (hk0 : k0 < 256) (c_1 : ¬ nI k0 = 102) (n_5 : k0 ≠ 102) (c_7 : ¬ nI k0 = 115) (n_11 : k0 ≠ 115) (c_13 : ¬ nI k0 = 100) (n_17 : k0 ≠ 100) (c_19 : ¬ nI k0 = 110) (n_23 : k0 ≠ 110) (c_25 : ¬ nI k0 = 99) (n_29 : k0 ≠ 99) (c_31 : ¬ nI k0 = 107) : k0 ≠ 107 := by
  exact fun q => c_31 ((nI_eq (a := k0) (b := 107) (by omega) (by omega)).mpr q)
theorem lf_X12_isValue_t_39 (k0 : Nat) (hk0 : k0 < 256) (c_1 : ¬ nI k0 = 102) (n_5 : k0 ≠ 102) (c_7 : ¬ nI k0 = 115) (n_11 : k0 ≠ 115) (c_13 : ¬ nI k0 = 100) (n_17 : k0 ≠ 100) (c_19 : ¬ nI k0 = 110) (n_23 : k0 ≠ 110) (c_25 : ¬ nI k0 = 99) (n_29 : k0 ≠ 99) (c_31 : ¬ nI k0 = 107) (n_35 : k0 ≠ 107) (c_37 : nI k0 = 121) : k0 = 121 := by
  exact (nI_eq (a := k0) (b := 121) (by omega) (by omega)).mp c_37
theorem lf_X12_isValue_t_40 (k0 : Nat) (hk0 : k0 < 256) (c_1 : ¬ nI k0 = 102) (n_5 : k0 ≠ 102) (c_7 : ¬ nI k0 = 115) (n_11 : k0 ≠ 115) (c_13 : ¬ nI k0 = 100) (n_17 : k0 ≠ 100) (c_19 : ¬ nI k0 = 110) (n_23 : k0 ≠ 110) (c_25 : ¬ nI k0 = 99) (n_29 : k0 ≠ 99) (c_31 : ¬ nI k0 = 107) (n_35 : k0 ≠ 107) (c_37 : nI k0 = 121) (n_38 : k0 = 121) : (1 : Int32) = bi (ltP k0) := by
  first | exact (if_pos (show ltP k0 by omega)).symm | exact (if_neg (show ¬ ltP k0 by omega)).symm
theorem lf_X12_isValue_t_42 (k0 : Nat) (hk0 : k0 < 256) (c_1 : ¬ nI k0 = 102) (n_5 : k0 ≠ 102) (c_7 : ¬ nI k0 = 115) (n_11 : k0 ≠ 115) (c_13 : ¬ nI k0 = 100) (n_17 : k0 ≠ 100) (c_19 : ¬ nI k0 = 110) (n_23 : k0 ≠ 110) (c_25 : ¬ nI k0 = 99) (n_29 : k0 ≠ 99) (c_31 : ¬ nI k0 = 107) (n_35 : k0 ≠ 107) (c_37 : ¬ nI k0 = 121) : k0 ≠ 121 := by
  exact fun q => c_37 ((nI_eq (a := k0) (b := 121) (by omega) (by omega)).mpr q)
theorem lf_X12_isValue_t_45 (k0 : Nat) (hk0 : k0 < 256) (c_1 : ¬ nI k0 = 102) (n_5 : k0 ≠ 102) (c_7 : ¬ nI k0 = 115) (n_11 : k0 ≠ 115) (c_13 : ¬ nI k0 = 100) (n_17 : k0 ≠ 100) (c_19 : ¬ nI k0 = 110) (n_23 : k0 ≠ 110) (c_25 : ¬ nI k0 = 99) (n_29 : k0 ≠ 99) (c_31 : ¬ nI k0 = 107) (n_35 : k0 ≠ 107) (c_37 : ¬ nI k0 = 121) (n_41 : k0 ≠ 121) (c_43 : nI k0 = 122) : k0 = 122 := by
  exact (nI_eq (a := k0) (b := 122) (by omega) (by omega)).mp c_43
theorem lf_X12_isValue_t_46 (k0 : Nat) (hk0 : k0 < 256) (c_1 : ¬ nI k0 = 102) (n_5 : k0 ≠ 102) (c_7 : ¬ nI k0 = 115) (n_11 : k0 ≠ 115) (c_13 : ¬ nI k0 = 100) (n_17 : k0 ≠ 100) (c_19 : ¬ nI k0 = 110) (n_23 : k0 ≠ 110) (c_25 : ¬ nI k0 = 99) (n_29 : k0 ≠ 99) (c_31 : ¬ nI k0 = 107) (n_35 : k0 ≠ 107) (c_37 : ¬ nI k0 = 121) (n_41 : k0 ≠ 121) (c_43 : nI k0 = 122) (n_44 : k0 = 122) : (1 : Int32) = bi (ltP k0) := by
  first | exact (if_pos (show ltP k0 by omega)).symm | exact (if_neg (show ¬ ltP k0 by omega)).symm
theorem lf_X12_isValue_t_48 (k0 : Nat) (hk0 : k0 < 256) (c_1 : ¬ nI k0 = 102) (n_5 : k0 ≠ 102) (c_7 : ¬ nI k0 = 115) (n_11 : k0 ≠ 115) (c_13 : ¬ nI k0 = 100) (n_17 : k0 ≠ 100) (c_19 : ¬ nI k0 = 110) (n_23 : k0 ≠ 110) (c_25 : ¬ nI k0 = 99) (n_29 : k0 ≠ 99) (c_31 : ¬ nI k0 = 107) (n_35 : k0 ≠ 107) (c_37 : ¬ nI k0 = 121) (n_41 : k0 ≠ 121) (c_43 : ¬ nI k0 = 122) : k0 ≠ 122 := by
  exact fun q => c_43 ((nI_eq (a := k0) (b := 122) (by omega) (by omega)).mpr q)
theorem lf_X12_isValue_t_51 (k0 : Nat) (hk0 : k0 < 256) (c_1 : ¬ nI k0 = 102) (n_5 : k0 ≠ 102) (c_7 : ¬ nI k0 = 115) (n_11 : k0 ≠ 115) (c_13 : ¬ nI k0 = 100) (n_17 : k0 ≠ 100) (c_19 : ¬ nI k0 = 110) (n_23 : k0 ≠ 110) (c_25 : ¬ nI k0 = 99) (n_29 : k0 ≠ 99) (c_31 : ¬ nI k0 = 107) (n_35 : k0 ≠ 107) (c_37 : ¬ nI k0 = 121) (n_41 : k0 ≠ 121) (c_43 : ¬ nI k0 = 122) (n_47 : k0 ≠ 122) (c_49 : nI k0 = 109) : k0 = 109 := by
  exact (nI_eq (a := k0) (b := 109) (by omega) (by omega)).mp c_49
theorem lf_X12_isValue_t_52 (k0 : Nat) (hk0 : k0 < 256) (c_1 : ¬ nI k0 = 102) (n_5 : k0 ≠ 102) (c_7 : ¬ nI k0 = 115) (n_11 : k0 ≠ 115) (c_13 : ¬ nI k0 = 100) (n_17 : k0 ≠ 100) (c_19 : ¬ nI k0 = 110) (n_23 : k0 ≠ 110) (c_25 : ¬ nI k0 = 99) (n_29 : k0 ≠ 99) (c_31 : ¬ nI k0 = 107) (n_35 : k0 ≠ 107) (c_37 : ¬ nI k0 = 121) (n_41 : k0 ≠ 121) (c_43 : ¬ nI k0 = 122) (n_47 : k0 ≠ 122) (c_49 : nI k0 = 109) (n_50 : k0 = 109) : (1 : Int32) = bi (ltP k0) := by
  first | exact (if_pos (show ltP k0 by omega)).symm | exact (if_neg (show ¬ ltP k0 by omega)).symm
theorem lf_X12_isValue_t_54 (k0 : Nat) (hk0 : k0 < 256) (c_1 : ¬ nI k0 = 102) (n_5 : k0 ≠ 102) (c_7 : ¬ nI k0 = 115) (n_11 : k0 ≠ 115) (c_13 : ¬ nI k0 = 100) (n_17 : k0 ≠ 100) (c_19 : ¬ nI k0 = 110) (n_23 : k0 ≠ 110) (c_25 : ¬ nI k0 = 99) (n_29 : k0 ≠ 99) (c_31 : ¬ nI k0 = 107) (n_35 : k0 ≠ 107) (c_37 : ¬ nI k0 = 121) (n_41 : k0 ≠ 121) (c_43 : ¬ nI k0 = 122) (n_47 : k0 ≠ 122) (c_49 : ¬ nI k0 = 109) : k0 ≠ 109 := by
  exact fun q => c_49 ((nI_eq (a := k0) (b := 109) (by omega) (by omega)).mpr q)
theorem lf_X12_isValue_t_57 (k0 : Nat) (hk0 : k0 < 256) (c_1 : ¬ nI k0 = 102) (n_5 : k0 ≠ 102) (c_7 : ¬ nI k0 = 115) (n_11 : k0 ≠ 115) (c_13 : ¬ nI k0 = 100) (n_17 : k0 ≠ 100) (c_19 : ¬ nI k0 = 110) (n_23 : k0 ≠ 110) (c_25 : ¬ nI k0 = 99) (n_29 : k0 ≠ 99) (c_31 : ¬ nI k0 = 107) (n_35 : k0 ≠ 107) (c_37 : ¬ nI k0 = 121) (n_41 : k0 ≠ 121) (c_43 : ¬ nI k0 = 122) (n_47 : k0 ≠ 122) (c_49 : ¬ nI k0 = 109) (n_53 : k0 ≠ 109) (c_55 : nI k0 = 120) : k0 = 120 := by
  exact (nI_eq (a := k0) (b := 120) (by omega) (by omega)).mp c_55
theorem lf_X12_isValue_t_58 (k0 : Nat) (hk0 : k0 < 256) (c_1 : ¬ nI k0 = 102) (n_5 : k0 ≠ 102) (c_7 : ¬ nI k0 = 115) (n_11 : k0 ≠ 115) (c_13 : ¬ nI k0 = 100) (n_17 : k0 ≠ 100) (c_19 : ¬ nI k0 = 110) (n_23 : k0 ≠ 110) (c_25 : ¬ nI k0 = 99) (n_29 : k0 ≠ 99) (c_31 : ¬ nI k0 = 107) (n_35 : k0 ≠ 107) (c_37 : ¬ nI k0 = 121) (n_41 : k0 ≠ 121) (c_43 : ¬ nI k0 = 122) (n_47 : k0 ≠ 122) (c_49 : ¬ nI k0 = 109) (n_53 : k0 ≠ 109) (c_55 : nI k0 = 120) (n_56 : k0 = 120) : (1 : Int32) = bi (ltP k0) := by
  first | exact (if_pos (show ltP k0 by omega)).symm | exact (if_neg (show ¬ ltP k0 by omega)).symm
theorem lf_X12_isValue_t_60 (k0 : Nat) (hk0 : k0 < 256) (c_1 : ¬ nI k0 = 102) (n_5 : k0 ≠ 102) (c_7 : ¬ nI k0 = 115) (n_11 : k0 ≠ 115) (c_13 : ¬ nI k0 = 100) (n_17 : k0 ≠ 100) (c_19 : ¬ nI k0 = 110) (n_23 : k0 ≠ 110) (c_25 : ¬ nI k0 = 99) (n_29 : k0 ≠ 99) (c_31 : ¬ nI k0 = 107) (n_35 : k0 ≠ 107) (c_37 : ¬ nI k0 = 121) (n_41 : k0 ≠ 121) (c_43 : ¬ nI k0 = 122) (n_47 : k0 ≠ 122) (c_49 : ¬ nI k0 = 109) (n_53 : k0 ≠ 109) (c_55 : ¬ nI k0 = 120) : k0 ≠ 120 := by
  exact fun q => c_55 ((nI_eq (a := k0) (b := 120) (by omega) (by omega)).mpr q)
theorem lf_X12_isValue_t_63 (k0 : Nat) (hk0 : k0 < 256) (c_1 : ¬ nI k0 = 102) (n_5 : k0 ≠ 102) (c_7 : ¬ nI k0 = 115) (n_11 : k0 ≠ 115) (c_13 : ¬ nI k0 = 100) (n_17 : k0 ≠ 100) (c_19 : ¬ nI k0 = 110) (n_23 : k0 ≠ 110) (c_25 : ¬ nI k0 = 99) (n_29 : k0 ≠ 99) (c_31 : ¬ nI k0 = 107) (n_35 : k0 ≠ 107) (c_37 : ¬ nI k0 = 121) (n_41 : k0 ≠ 121) (c_43 : ¬ nI k0 = 122) (n_47 : k0 ≠ 122) (c_49 : ¬ nI k0 = 109) (n_53 : k0 ≠ 109) (c_55 : ¬ nI k0 = 120) (n_59 : k0 ≠ 120) (c_61 : nI k0 = 116) : k0 = 116 := by
  exact (nI_eq (a := k0) (b := 116) (by omega) (by omega)).mp c_61
theorem lf_X12_isValue_t_64 (k0 : Nat) (hk0 : k0 < 256) (c_1 : ¬ nI k0 = 102) (n_5 : k0 ≠ 102) (c_7 : ¬ nI k0 = 115) (n_11 : k0 ≠ 115) (c_13 : ¬ nI k0 = 100) (n_17 : k0 ≠ 100) (c_19 : ¬ nI k0 = 110) (n_23 : k0 ≠ 110) (c_25 : ¬ nI k0 = 99) (n_29 : k0 ≠ 99) (c_31 : ¬ nI k0 = 107) (n_35 : k0 ≠ 107) (c_37 : ¬ nI k0 = 121) (n_41 : k0 ≠ 121) (c_43 : ¬ nI k0 = 122) (n_47 : k0 ≠ 122) (c_49 : ¬ nI k0 = 109) (n_53 : k0 ≠ 109) (c_55 : ¬ nI k0 = 120) (n_59 : k0 ≠ 120) (c_61 : nI k0 = 116) (n_62 : k0 = 116) : (1 : Int32) = bi (ltP k0) := by
  first | exact (if_pos (show ltP k0 by omega)).symm | exact (if_neg (show ¬ ltP k0 by omega)).symm
theorem lf_X12_isValue_t_66 (k0 : Nat) (hk0 : k0 < 256) (c_1 : ¬ nI k0 = 102) (n_5 : k0 ≠ 102) (c_7 : ¬ nI k0 = 115) (n_11 : k0 ≠ 115) (c_13 : ¬ nI k0 = 100) (n_17 : k0 ≠ 100) (c_19 : ¬ nI k0 = 110) (n_23 : k0 ≠ 110) (c_25 : ¬ nI k0 = 99) (n_29 : k0 ≠ 99) (c_31 : ¬ nI k0 = 107) (n_35 : k0 ≠ 107) (c_37 : ¬ nI k0 = 121) (n_41 : k0 ≠ 121) (c_43 : ¬ nI k0 = 122) (n_47 : k0 ≠ 122) (c_49 : ¬ nI k0 = 109) (n_53 : k0 ≠ 109) (c_55 : ¬ nI k0 = 120) (n_59 : k0 ≠ 120) (c_61 : ¬ nI k0 = 116) : k0 ≠ 116 := by
  exact fun q => c_61 ((nI_eq (a := k0) (b := 116) (by omega) (by omega)).mpr q)
theorem lf_X12_isValue_t_69 (k0 : Nat) (hk0 : k0 < 256) (c_1 : ¬ nI k0 = 102) (n_5 : k0 ≠ 102) (c_7 : ¬ nI k0 = 115) (n_11 : k0 ≠ 115) (c_13 : ¬ nI k0 = 100) (n_17 : k0 ≠ 100) (c_19 : ¬ nI k0 = 110) (n_23 : k0 ≠ 110) (c_25 : ¬ nI k0 = 99) (n_29 : k0 ≠ 99) (c_31 : ¬ nI k0 = 107) (n_35 : k0 ≠ 107) (c_37 : ¬ nI k0 = 121) (n_41 : k0 ≠ 121) (c_43 : ¬ nI k0 = 122) (n_47 : k0 ≠ 122) (c_49 : ¬ nI k0 = 109) (n_53 : k0 ≠ 109) (c_55 : ¬ nI k0 = 120) (n_59 : k0 ≠ 120) (c_61 : ¬ nI k0 = 116) (n_65 : k0 ≠ 116) (c_67 : nI k0 = 118) : k0 = 118 := by
  exact (nI_eq (a := k0) (b := 118) (by omega) (by omega)).mp c_67
theorem lf_X12_isValue_t_70 (k0 : Nat) (hk0 : k0 < 256) (c_1 : ¬ nI k0 = 102) (n_5 : k0 ≠ 102) (c_7 : ¬ nI k0 = 115) (n_11 : k0 ≠ 115) (c_13 : ¬ nI k0 = 100) (n_17 : k0 ≠ 100) (c_19 : ¬ nI k0 = 110) (n_23 : k0 ≠ 110) (c_25 : ¬ nI k0 = 99) (n_29 : k0 ≠ 99) (c_31 : ¬ nI k0 = 107) (n_35 : k0 ≠ 107) (c_37 : ¬ nI k0 = 121) (n_41 : k0 ≠ 121) (c_43 : ¬ nI k0 = 122) (n_47 : k0 ≠ 122) (c_49 : ¬ nI k0 = 109) (n_53 : k0 ≠ 109) (c_55 : ¬ nI k0 = 120) (n_59 : k0 ≠ 120) (c_61 : ¬ nI k0 = 116) (n_65 : k0 ≠ 116) (c_67 : nI k0 = 118) (n_68 : k0 = 118) : (1 : Int32) = bi (ltP k0) := by
  first | exact (if_pos (show ltP k0 by omega)).symm | exact (if_neg (show ¬ ltP k0 by omega)).symm
theorem lf_X12_isValue_t_72 (k0 : Nat) (hk0 : k0 < 256) (c_1 : ¬ nI k0 = 102) (n_5 : k0 ≠ 102) (c_7 : ¬ nI k0 = 115) (n_11 : k0 ≠ 115) (c_13 : ¬ nI k0 = 100) (n_17 : k0 ≠ 100) (c_19 : ¬ nI k0 = 110) (n_23 : k0 ≠ 110) (c_25 : ¬ nI k0 = 99) (n_29 : k0 ≠ 99) (c_31 : ¬ nI k0 = 107) (n_35 : k0 ≠ 107) (c_37 : ¬ nI k0 = 121) (n_41 : k0 ≠ 121) (c_43 : ¬ nI k0 = 122) (n_47 : k0 ≠ 122) (c_49 : ¬ nI k0 = 109) (n_53 : k0 ≠ 109) (c_55 : ¬ nI k0 = 120) (n_59 : k0 ≠ 120) (c_61 : ¬ nI k0 = 116) (n_65 : k0 ≠ 116) (c_67 : ¬ nI k0 = 118) : k0 ≠ 118 := by
  exact fun q => c_67 ((nI_eq (a := k0) (b := 118) (by omega) (by omega)).mpr q)
theorem lf_X12_isValue_t_75 (k0 : Nat) (hk0 : k0 < 256) (c_1 : ¬ nI k0 = 102) (n_5 : k0 ≠ 102) (c_7 : ¬ nI k0 = 115) (n_11 : k0 ≠ 115) (c_13 : ¬ nI k0 = 100) (n_17 : k0 ≠ 100) (c_19 : ¬ nI k0 = 110) (n_23 : k0 ≠ 110) (c_25 : ¬ nI k0 = 99) (n_29 : k0 ≠ 99) (c_31 : ¬ nI k0 = 107) (n_35 : k0 ≠ 107) (c_37 : ¬ nI k0 = 121) (n_41 : k0 ≠ 121) (c_43 : ¬ nI k0 = 122) (n_47 : k0 ≠ 122) (c_49 : ¬ nI k0 = 109) (n_53 : k0 ≠ 109) (c_55 : ¬ nI k0 = 120) (n_59 : k0 ≠ 120) (c_61 : ¬ nI k0 = 116) (n_65 : k0 ≠ 116) (c_67 : ¬ nI k0 = 118) (n_71 : k0 ≠ 118) (c_73 : ¬ nI k0 = 119) : k0 ≠ 119 := by
  exact fun q => c_73 ((nI_eq (a := k0) (b := 119) (by omega) (by omega)).mpr q)
theorem lf_X12_isValue_t_76 (k0 : Nat) (hk0 : k0 < 256) (c_1 : ¬ nI k0 = 102) (n_5 : k0 ≠ 102) (c_7 : ¬ nI k0 = 115) (n_11 : k0 ≠ 115) (c_13 : ¬ nI k0 = 100) (n_17 : k0 ≠ 100) (c_19 : ¬ nI k0 = 110) (n_23 : k0 ≠ 110) (c_25 : ¬ nI k0 = 99) (n_29 : k0 ≠ 99) (c_31 : ¬ nI k0 = 107) (n_35 : k0 ≠ 107) (c_37 : ¬ nI k0 = 121) (n_41 : k0 ≠ 121) (c_43 : ¬ nI k0 = 122) (n_47 : k0 ≠ 122) (c_49 : ¬ nI k0 = 109) (n_53 : k0 ≠ 109) (c_55 : ¬ nI k0 = 120) (n_59 : k0 ≠ 120) (c_61 : ¬ nI k0 = 116) (n_65 : k0 ≠ 116) (c_67 : ¬ nI k0 = 118) (n_71 : k0 ≠ 118) (c_73 : ¬ nI k0 = 119) (n_74 : k0 ≠ 119) : (0 : Int32) = bi (ltP k0) := by
  first | exact (if_pos (show ltP k0 by omega)).symm | exact (if_neg (show ¬ ltP k0 by omega)).symm
theorem lf_X12_isValue_t_78 (k0 : Nat) (hk0 : k0 < 256) (c_1 : ¬ nI k0 = 102) (n_5 : k0 ≠ 102) (c_7 : ¬ nI k0 = 115) (n_11 : k0 ≠ 115) (c_13 : ¬ nI k0 = 100) (n_17 : k0 ≠ 100) (c_19 : ¬ nI k0 = 110) (n_23 : k0 ≠ 110) (c_25 : ¬ nI k0 = 99) (n_29 : k0 ≠ 99) (c_31 : ¬ nI k0 = 107) (n_35 : k0 ≠ 107) (c_37 : ¬ nI k0 = 121) (n_41 : k0 ≠ 121) (c_43 : ¬ nI k0 = 122) (n_47 : k0 ≠ 122) (c_49 : ¬ nI k0 = 109) (n_53 : k0 ≠ 109) (c_55 : ¬ nI k0 = 120) (n_59 : k0 ≠ 120) (c_61 : ¬ nI k0 = 116) (n_65 : k0 ≠ 116) (c_67 : ¬ nI k0 = 118) (n_71 : k0 ≠ 118) (c_73 : nI k0 = 119) : k0 = 119 := by
  exact (nI_eq (a := k0) (b := 119) (by omega) (by omega)).mp c_73
theorem lf_X12_isValue_t_79 (k0 : Nat) (hk0 : k0 < 256) (c_1 : ¬ nI k0 = 102) (n_5 : k0 ≠ 102) (c_7 : ¬ nI k0 = 115) (n_11 : k0 ≠ 115) (c_13 : ¬ nI k0 = 100) (n_17 : k0 ≠ 100) (c_19 : ¬ nI k0 = 110) (n_23 : k0 ≠ 110) (c_25 : ¬ nI k0 = 99) (n_29 : k0 ≠ 99) (c_31 : ¬ nI k0 = 107) (n_35 : k0 ≠ 107) (c_37 : ¬ nI k0 = 121) (n_41 : k0 ≠ 121) (c_43 : ¬ nI k0 = 122) (n_47 : k0 ≠ 122) (c_49 : ¬ nI k0 = 109) (n_53 : k0 ≠ 109) (c_55 : ¬ nI k0 = 120) (n_59 : k0 ≠ 120) (c_61 : ¬ nI k0 = 116) (n_65 : k0 ≠ 116) (c_67 : ¬ nI k0 = 118) (n_71 : k0 ≠ 118) (c_73 : nI k0 = 119) (n_77 : k0 = 119) : (1 : Int32) = bi (ltP k0) := by
  first | exact (if_pos (show ltP k0 by omega)).symm | exact (if_neg (show ¬ ltP k0 by omega)).symm
set_option maxHeartbeats 4000000 in
set_option maxRecDepth 100000 in
theorem c_X12_isValue_t (l : Launch) (D : va_G) (cI cB cZ cJ : ClassId) (tx : List (ClassId × FieldType)) (k0 : Nat) (hk0 : k0 < 256) : RdI l D cI cB cZ cJ tx yX12_isValue cX12_isValue 1 (some .boolean) 0 [.int (nI k0)] [] (fun r => r = bi (ltP k0)) := by
  refine rdi_of2 (by decide) (Nat.le_of_ble_eq_true rfl) ?_
  intro p e s m below meth c A ls H locs hC hK hP hD hA hS hl
  obtain ⟨hx, hb, hr, hml, hown, hts, hlocks, hin⟩ := hC
  have hown : s.vm.findClass RX12 = some m.cls := hown
  have hl : lv_has ls 1 [(0, .int (nI k0))] := hl
  refine W_gQ (fun Q hQ => ?_)
  refine lv_iload_n hx hb dX12_isValue_0 rfl (lv_at hl 0 rfl) ?_
  refine lv_bipush (v := 102) hx hb dX12_isValue_1 (by decide) ?_
  refine lv_icmp_eq (tgt := 78) hx hb dX12_isValue_3 (by decide) (fun c_1 => ?_) (fun c_1 => ?_)
  · have n_2 : k0 = 102 := (lf_X12_isValue_t_3 k0 hk0 c_1)
    refine lv_iconst (v := 1) hx hb dX12_isValue_78 (by decide) ?_
    refine lv_goto (tgt := 83) hx hb dX12_isValue_79 (by decide) ?_
    rw [hQ]
    exact W.zret (v := 1) hx hb hr (by decide) (fun tt9 ht hW => ⟨⟨(1 : Int32), (), rfl, (lf_X12_isValue_t_4 k0 hk0 c_1 n_2), trivial⟩, hS.F ht⟩) hS.2.2 dX12_isValue_83 hlocks
  · have n_5 : k0 ≠ 102 := (lf_X12_isValue_t_6 k0 hk0 c_1)
    refine lv_iload_n hx hb dX12_isValue_6 rfl (lv_at hl 0 rfl) ?_
    refine lv_bipush (v := 115) hx hb dX12_isValue_7 (by decide) ?_
    refine lv_icmp_eq (tgt := 78) hx hb dX12_isValue_9 (by decide) (fun c_7 => ?_) (fun c_7 => ?_)
    · have n_8 : k0 = 115 := (lf_X12_isValue_t_9 k0 hk0 c_1 n_5 c_7)
      refine lv_iconst (v := 1) hx hb dX12_isValue_78 (by decide) ?_
      refine lv_goto (tgt := 83) hx hb dX12_isValue_79 (by decide) ?_
      rw [hQ]
      exact W.zret (v := 1) hx hb hr (by decide) (fun tt9 ht hW => ⟨⟨(1 : Int32), (), rfl, (lf_X12_isValue_t_10 k0 hk0 c_1 n_5 c_7 n_8), trivial⟩, hS.F ht⟩) hS.2.2 dX12_isValue_83 hlocks
    · have n_11 : k0 ≠ 115 := (lf_X12_isValue_t_12 k0 hk0 c_1 n_5 c_7)
      refine lv_iload_n hx hb dX12_isValue_12 rfl (lv_at hl 0 rfl) ?_
      refine lv_bipush (v := 100) hx hb dX12_isValue_13 (by decide) ?_
      refine lv_icmp_eq (tgt := 78) hx hb dX12_isValue_15 (by decide) (fun c_13 => ?_) (fun c_13 => ?_)
      · have n_14 : k0 = 100 := (lf_X12_isValue_t_15 k0 hk0 c_1 n_5 c_7 n_11 c_13)
        refine lv_iconst (v := 1) hx hb dX12_isValue_78 (by decide) ?_
        refine lv_goto (tgt := 83) hx hb dX12_isValue_79 (by decide) ?_
        rw [hQ]
        exact W.zret (v := 1) hx hb hr (by decide) (fun tt9 ht hW => ⟨⟨(1 : Int32), (), rfl, (lf_X12_isValue_t_16 k0 hk0 c_1 n_5 c_7 n_11 c_13 n_14), trivial⟩, hS.F ht⟩) hS.2.2 dX12_isValue_83 hlocks
      · have n_17 : k0 ≠ 100 := (lf_X12_isValue_t_18 k0 hk0 c_1 n_5 c_7 n_11 c_13)
        refine lv_iload_n hx hb dX12_isValue_18 rfl (lv_at hl 0 rfl) ?_
        refine lv_bipush (v := 110) hx hb dX12_isValue_19 (by decide) ?_
        refine lv_icmp_eq (tgt := 78) hx hb dX12_isValue_21 (by decide) (fun c_19 => ?_) (fun c_19 => ?_)
        · have n_20 : k0 = 110 := (lf_X12_isValue_t_21 k0 hk0 c_1 n_5 c_7 n_11 c_13 n_17 c_19)
          refine lv_iconst (v := 1) hx hb dX12_isValue_78 (by decide) ?_
          refine lv_goto (tgt := 83) hx hb dX12_isValue_79 (by decide) ?_
          rw [hQ]
          exact W.zret (v := 1) hx hb hr (by decide) (fun tt9 ht hW => ⟨⟨(1 : Int32), (), rfl, (lf_X12_isValue_t_22 k0 hk0 c_1 n_5 c_7 n_11 c_13 n_17 c_19 n_20), trivial⟩, hS.F ht⟩) hS.2.2 dX12_isValue_83 hlocks
        · have n_23 : k0 ≠ 110 := (lf_X12_isValue_t_24 k0 hk0 c_1 n_5 c_7 n_11 c_13 n_17 c_19)
          refine lv_iload_n hx hb dX12_isValue_24 rfl (lv_at hl 0 rfl) ?_
          refine lv_bipush (v := 99) hx hb dX12_isValue_25 (by decide) ?_
          refine lv_icmp_eq (tgt := 78) hx hb dX12_isValue_27 (by decide) (fun c_25 => ?_) (fun c_25 => ?_)
          · have n_26 : k0 = 99 := (lf_X12_isValue_t_27 k0 hk0 c_1 n_5 c_7 n_11 c_13 n_17 c_19 n_23 c_25)
            refine lv_iconst (v := 1) hx hb dX12_isValue_78 (by decide) ?_
            refine lv_goto (tgt := 83) hx hb dX12_isValue_79 (by decide) ?_
            rw [hQ]
            exact W.zret (v := 1) hx hb hr (by decide) (fun tt9 ht hW => ⟨⟨(1 : Int32), (), rfl, (lf_X12_isValue_t_28 k0 hk0 c_1 n_5 c_7 n_11 c_13 n_17 c_19 n_23 c_25 n_26), trivial⟩, hS.F ht⟩) hS.2.2 dX12_isValue_83 hlocks
          · have n_29 : k0 ≠ 99 := (lf_X12_isValue_t_30 k0 hk0 c_1 n_5 c_7 n_11 c_13 n_17 c_19 n_23 c_25)
            refine lv_iload_n hx hb dX12_isValue_30 rfl (lv_at hl 0 rfl) ?_
            refine lv_bipush (v := 107) hx hb dX12_isValue_31 (by decide) ?_
            refine lv_icmp_eq (tgt := 78) hx hb dX12_isValue_33 (by decide) (fun c_31 => ?_) (fun c_31 => ?_)
            · have n_32 : k0 = 107 := (lf_X12_isValue_t_33 k0 hk0 c_1 n_5 c_7 n_11 c_13 n_17 c_19 n_23 c_25 n_29 c_31)
              refine lv_iconst (v := 1) hx hb dX12_isValue_78 (by decide) ?_
              refine lv_goto (tgt := 83) hx hb dX12_isValue_79 (by decide) ?_
              rw [hQ]
              exact W.zret (v := 1) hx hb hr (by decide) (fun tt9 ht hW => ⟨⟨(1 : Int32), (), rfl, (lf_X12_isValue_t_34 k0 hk0 c_1 n_5 c_7 n_11 c_13 n_17 c_19 n_23 c_25 n_29 c_31 n_32), trivial⟩, hS.F ht⟩) hS.2.2 dX12_isValue_83 hlocks
            · have n_35 : k0 ≠ 107 := (lf_X12_isValue_t_36 k0 hk0 c_1 n_5 c_7 n_11 c_13 n_17 c_19 n_23 c_25 n_29 c_31)
              refine lv_iload_n hx hb dX12_isValue_36 rfl (lv_at hl 0 rfl) ?_
              refine lv_bipush (v := 121) hx hb dX12_isValue_37 (by decide) ?_
              refine lv_icmp_eq (tgt := 78) hx hb dX12_isValue_39 (by decide) (fun c_37 => ?_) (fun c_37 => ?_)
              · have n_38 : k0 = 121 := (lf_X12_isValue_t_39 k0 hk0 c_1 n_5 c_7 n_11 c_13 n_17 c_19 n_23 c_25 n_29 c_31 n_35 c_37)
                refine lv_iconst (v := 1) hx hb dX12_isValue_78 (by decide) ?_
                refine lv_goto (tgt := 83) hx hb dX12_isValue_79 (by decide) ?_
                rw [hQ]
                exact W.zret (v := 1) hx hb hr (by decide) (fun tt9 ht hW => ⟨⟨(1 : Int32), (), rfl, (lf_X12_isValue_t_40 k0 hk0 c_1 n_5 c_7 n_11 c_13 n_17 c_19 n_23 c_25 n_29 c_31 n_35 c_37 n_38), trivial⟩, hS.F ht⟩) hS.2.2 dX12_isValue_83 hlocks
              · have n_41 : k0 ≠ 121 := (lf_X12_isValue_t_42 k0 hk0 c_1 n_5 c_7 n_11 c_13 n_17 c_19 n_23 c_25 n_29 c_31 n_35 c_37)
                refine lv_iload_n hx hb dX12_isValue_42 rfl (lv_at hl 0 rfl) ?_
                refine lv_bipush (v := 122) hx hb dX12_isValue_43 (by decide) ?_
                refine lv_icmp_eq (tgt := 78) hx hb dX12_isValue_45 (by decide) (fun c_43 => ?_) (fun c_43 => ?_)
                · have n_44 : k0 = 122 := (lf_X12_isValue_t_45 k0 hk0 c_1 n_5 c_7 n_11 c_13 n_17 c_19 n_23 c_25 n_29 c_31 n_35 c_37 n_41 c_43)
                  refine lv_iconst (v := 1) hx hb dX12_isValue_78 (by decide) ?_
                  refine lv_goto (tgt := 83) hx hb dX12_isValue_79 (by decide) ?_
                  rw [hQ]
                  exact W.zret (v := 1) hx hb hr (by decide) (fun tt9 ht hW => ⟨⟨(1 : Int32), (), rfl, (lf_X12_isValue_t_46 k0 hk0 c_1 n_5 c_7 n_11 c_13 n_17 c_19 n_23 c_25 n_29 c_31 n_35 c_37 n_41 c_43 n_44), trivial⟩, hS.F ht⟩) hS.2.2 dX12_isValue_83 hlocks
                · have n_47 : k0 ≠ 122 := (lf_X12_isValue_t_48 k0 hk0 c_1 n_5 c_7 n_11 c_13 n_17 c_19 n_23 c_25 n_29 c_31 n_35 c_37 n_41 c_43)
                  refine lv_iload_n hx hb dX12_isValue_48 rfl (lv_at hl 0 rfl) ?_
                  refine lv_bipush (v := 109) hx hb dX12_isValue_49 (by decide) ?_
                  refine lv_icmp_eq (tgt := 78) hx hb dX12_isValue_51 (by decide) (fun c_49 => ?_) (fun c_49 => ?_)
                  · have n_50 : k0 = 109 := (lf_X12_isValue_t_51 k0 hk0 c_1 n_5 c_7 n_11 c_13 n_17 c_19 n_23 c_25 n_29 c_31 n_35 c_37 n_41 c_43 n_47 c_49)
                    refine lv_iconst (v := 1) hx hb dX12_isValue_78 (by decide) ?_
                    refine lv_goto (tgt := 83) hx hb dX12_isValue_79 (by decide) ?_
                    rw [hQ]
                    exact W.zret (v := 1) hx hb hr (by decide) (fun tt9 ht hW => ⟨⟨(1 : Int32), (), rfl, (lf_X12_isValue_t_52 k0 hk0 c_1 n_5 c_7 n_11 c_13 n_17 c_19 n_23 c_25 n_29 c_31 n_35 c_37 n_41 c_43 n_47 c_49 n_50), trivial⟩, hS.F ht⟩) hS.2.2 dX12_isValue_83 hlocks
                  · have n_53 : k0 ≠ 109 := (lf_X12_isValue_t_54 k0 hk0 c_1 n_5 c_7 n_11 c_13 n_17 c_19 n_23 c_25 n_29 c_31 n_35 c_37 n_41 c_43 n_47 c_49)
                    refine lv_iload_n hx hb dX12_isValue_54 rfl (lv_at hl 0 rfl) ?_
                    refine lv_bipush (v := 120) hx hb dX12_isValue_55 (by decide) ?_
                    refine lv_icmp_eq (tgt := 78) hx hb dX12_isValue_57 (by decide) (fun c_55 => ?_) (fun c_55 => ?_)
                    · have n_56 : k0 = 120 := (lf_X12_isValue_t_57 k0 hk0 c_1 n_5 c_7 n_11 c_13 n_17 c_19 n_23 c_25 n_29 c_31 n_35 c_37 n_41 c_43 n_47 c_49 n_53 c_55)
                      refine lv_iconst (v := 1) hx hb dX12_isValue_78 (by decide) ?_
                      refine lv_goto (tgt := 83) hx hb dX12_isValue_79 (by decide) ?_
                      rw [hQ]
                      exact W.zret (v := 1) hx hb hr (by decide) (fun tt9 ht hW => ⟨⟨(1 : Int32), (), rfl, (lf_X12_isValue_t_58 k0 hk0 c_1 n_5 c_7 n_11 c_13 n_17 c_19 n_23 c_25 n_29 c_31 n_35 c_37 n_41 c_43 n_47 c_49 n_53 c_55 n_56), trivial⟩, hS.F ht⟩) hS.2.2 dX12_isValue_83 hlocks
                    · have n_59 : k0 ≠ 120 := (lf_X12_isValue_t_60 k0 hk0 c_1 n_5 c_7 n_11 c_13 n_17 c_19 n_23 c_25 n_29 c_31 n_35 c_37 n_41 c_43 n_47 c_49 n_53 c_55)
                      refine lv_iload_n hx hb dX12_isValue_60 rfl (lv_at hl 0 rfl) ?_
                      refine lv_bipush (v := 116) hx hb dX12_isValue_61 (by decide) ?_
                      refine lv_icmp_eq (tgt := 78) hx hb dX12_isValue_63 (by decide) (fun c_61 => ?_) (fun c_61 => ?_)
                      · have n_62 : k0 = 116 := (lf_X12_isValue_t_63 k0 hk0 c_1 n_5 c_7 n_11 c_13 n_17 c_19 n_23 c_25 n_29 c_31 n_35 c_37 n_41 c_43 n_47 c_49 n_53 c_55 n_59 c_61)
                        refine lv_iconst (v := 1) hx hb dX12_isValue_78 (by decide) ?_
                        refine lv_goto (tgt := 83) hx hb dX12_isValue_79 (by decide) ?_
                        rw [hQ]
                        exact W.zret (v := 1) hx hb hr (by decide) (fun tt9 ht hW => ⟨⟨(1 : Int32), (), rfl, (lf_X12_isValue_t_64 k0 hk0 c_1 n_5 c_7 n_11 c_13 n_17 c_19 n_23 c_25 n_29 c_31 n_35 c_37 n_41 c_43 n_47 c_49 n_53 c_55 n_59 c_61 n_62), trivial⟩, hS.F ht⟩) hS.2.2 dX12_isValue_83 hlocks
                      · have n_65 : k0 ≠ 116 := (lf_X12_isValue_t_66 k0 hk0 c_1 n_5 c_7 n_11 c_13 n_17 c_19 n_23 c_25 n_29 c_31 n_35 c_37 n_41 c_43 n_47 c_49 n_53 c_55 n_59 c_61)
                        refine lv_iload_n hx hb dX12_isValue_66 rfl (lv_at hl 0 rfl) ?_
                        refine lv_bipush (v := 118) hx hb dX12_isValue_67 (by decide) ?_
                        refine lv_icmp_eq (tgt := 78) hx hb dX12_isValue_69 (by decide) (fun c_67 => ?_) (fun c_67 => ?_)
                        · have n_68 : k0 = 118 := (lf_X12_isValue_t_69 k0 hk0 c_1 n_5 c_7 n_11 c_13 n_17 c_19 n_23 c_25 n_29 c_31 n_35 c_37 n_41 c_43 n_47 c_49 n_53 c_55 n_59 c_61 n_65 c_67)
                          refine lv_iconst (v := 1) hx hb dX12_isValue_78 (by decide) ?_
                          refine lv_goto (tgt := 83) hx hb dX12_isValue_79 (by decide) ?_
                          rw [hQ]
                          exact W.zret (v := 1) hx hb hr (by decide) (fun tt9 ht hW => ⟨⟨(1 : Int32), (), rfl, (lf_X12_isValue_t_70 k0 hk0 c_1 n_5 c_7 n_11 c_13 n_17 c_19 n_23 c_25 n_29 c_31 n_35 c_37 n_41 c_43 n_47 c_49 n_53 c_55 n_59 c_61 n_65 c_67 n_68), trivial⟩, hS.F ht⟩) hS.2.2 dX12_isValue_83 hlocks
                        · have n_71 : k0 ≠ 118 := (lf_X12_isValue_t_72 k0 hk0 c_1 n_5 c_7 n_11 c_13 n_17 c_19 n_23 c_25 n_29 c_31 n_35 c_37 n_41 c_43 n_47 c_49 n_53 c_55 n_59 c_61 n_65 c_67)
                          refine lv_iload_n hx hb dX12_isValue_72 rfl (lv_at hl 0 rfl) ?_
                          refine lv_bipush (v := 119) hx hb dX12_isValue_73 (by decide) ?_
                          refine lv_icmp_ne (tgt := 82) hx hb dX12_isValue_75 (by decide) (fun c_73 => ?_) (fun c_73 => ?_)
                          · have n_74 : k0 ≠ 119 := (lf_X12_isValue_t_75 k0 hk0 c_1 n_5 c_7 n_11 c_13 n_17 c_19 n_23 c_25 n_29 c_31 n_35 c_37 n_41 c_43 n_47 c_49 n_53 c_55 n_59 c_61 n_65 c_67 n_71 c_73)
                            refine lv_iconst (v := 0) hx hb dX12_isValue_82 (by decide) ?_
                            rw [hQ]
                            exact W.zret (v := 0) hx hb hr (by decide) (fun tt9 ht hW => ⟨⟨(0 : Int32), (), rfl, (lf_X12_isValue_t_76 k0 hk0 c_1 n_5 c_7 n_11 c_13 n_17 c_19 n_23 c_25 n_29 c_31 n_35 c_37 n_41 c_43 n_47 c_49 n_53 c_55 n_59 c_61 n_65 c_67 n_71 c_73 n_74), trivial⟩, hS.F ht⟩) hS.2.2 dX12_isValue_83 hlocks
                          · have n_77 : k0 = 119 := (lf_X12_isValue_t_78 k0 hk0 c_1 n_5 c_7 n_11 c_13 n_17 c_19 n_23 c_25 n_29 c_31 n_35 c_37 n_41 c_43 n_47 c_49 n_53 c_55 n_59 c_61 n_65 c_67 n_71 c_73)
                            refine lv_iconst (v := 1) hx hb dX12_isValue_78 (by decide) ?_
                            refine lv_goto (tgt := 83) hx hb dX12_isValue_79 (by decide) ?_
                            rw [hQ]
                            exact W.zret (v := 1) hx hb hr (by decide) (fun tt9 ht hW => ⟨⟨(1 : Int32), (), rfl, (lf_X12_isValue_t_79 k0 hk0 c_1 n_5 c_7 n_11 c_13 n_17 c_19 n_23 c_25 n_29 c_31 n_35 c_37 n_41 c_43 n_47 c_49 n_53 c_55 n_59 c_61 n_65 c_67 n_71 c_73 n_77), trivial⟩, hS.F ht⟩) hS.2.2 dX12_isValue_83 hlocks

theorem lf_X12_isClause_t_3 (t0 : Nat) (k0 : Nat) (hk0 : k0 < 256) (ht0 : t0 < 3) (c_1 : ¬ nI t0 = 0) : t0 ≠ 0 := by
  exact fun q => c_1 ((nI_eq (a := t0) (b := 0) (by omega) (by omega)).mpr q)
theorem lf_X12_isClause_t_6 (t0 : Nat) (k0 : Nat) (hk0 : k0 < 256) (ht0 : t0 < 3) (c_1 : ¬ nI t0 = 0) (n_2 : t0 ≠ 0) (c_4 : ¬ nI t0 = 1) : t0 ≠ 1 := by
  exact fun q => c_4 ((nI_eq (a := t0) (b := 1) (by omega) (by omega)).mpr q)
theorem lf_X12_isClause_t_9 (t0 : Nat) (k0 : Nat) (hk0 : k0 < 256) (ht0 : t0 < 3) (c_1 : ¬ nI t0 = 0) (n_2 : t0 ≠ 0) (c_4 : ¬ nI t0 = 1) (n_5 : t0 ≠ 1) (c_7 : ¬ nI k0 = 101) : k0 ≠ 101 := by
  exact fun q => c_7 ((nI_eq (a := k0) (b := 101) (by omega) (by omega)).mpr q)
theorem lf_X12_isClause_t_10 (t0 : Nat) (k0 : Nat) (hk0 : k0 < 256) (ht0 : t0 < 3) (c_1 : ¬ nI t0 = 0) (n_2 : t0 ≠ 0) (c_4 : ¬ nI t0 = 1) (n_5 : t0 ≠ 1) (c_7 : ¬ nI k0 = 101) (n_8 : k0 ≠ 101) : ((0 : Int32) = 0 ∧ ¬ stN t0 k0) ∨ ((0 : Int32) = 1 ∧ stN t0 k0) := by
  first | exact Or.inl ⟨rfl, fun w => by unfold stN at w; omega⟩ | exact Or.inr ⟨rfl, by unfold stN; omega⟩
theorem lf_X12_isClause_t_12 (t0 : Nat) (k0 : Nat) (hk0 : k0 < 256) (ht0 : t0 < 3) (c_1 : ¬ nI t0 = 0) (n_2 : t0 ≠ 0) (c_4 : ¬ nI t0 = 1) (n_5 : t0 ≠ 1) (c_7 : nI k0 = 101) : k0 = 101 := by
  exact (nI_eq (a := k0) (b := 101) (by omega) (by omega)).mp c_7
theorem lf_X12_isClause_t_13 (t0 : Nat) (k0 : Nat) (hk0 : k0 < 256) (ht0 : t0 < 3) (c_1 : ¬ nI t0 = 0) (n_2 : t0 ≠ 0) (c_4 : ¬ nI t0 = 1) (n_5 : t0 ≠ 1) (c_7 : nI k0 = 101) (n_11 : k0 = 101) : ((1 : Int32) = 0 ∧ ¬ stN t0 k0) ∨ ((1 : Int32) = 1 ∧ stN t0 k0) := by
  first | exact Or.inl ⟨rfl, fun w => by unfold stN at w; omega⟩ | exact Or.inr ⟨rfl, by unfold stN; omega⟩
theorem lf_X12_isClause_t_15 (t0 : Nat) (k0 : Nat) (hk0 : k0 < 256) (ht0 : t0 < 3) (c_1 : ¬ nI t0 = 0) (n_2 : t0 ≠ 0) (c_4 : nI t0 = 1) : t0 = 1 := by
  exact (nI_eq (a := t0) (b := 1) (by omega) (by omega)).mp c_4
theorem lf_X12_isClause_t_18 (t0 : Nat) (k0 : Nat) (hk0 : k0 < 256) (ht0 : t0 < 3) (c_1 : ¬ nI t0 = 0) (n_2 : t0 ≠ 0) (c_4 : nI t0 = 1) (n_14 : t0 = 1) (c_16 : nI k0 = 97) : k0 = 97 := by
  exact (nI_eq (a := k0) (b := 97) (by omega) (by omega)).mp c_16
theorem lf_X12_isClause_t_19 (t0 : Nat) (k0 : Nat) (hk0 : k0 < 256) (ht0 : t0 < 3) (c_1 : ¬ nI t0 = 0) (n_2 : t0 ≠ 0) (c_4 : nI t0 = 1) (n_14 : t0 = 1) (c_16 : nI k0 = 97) (n_17 : k0 = 97) : ((1 : Int32) = 0 ∧ ¬ stN t0 k0) ∨ ((1 : Int32) = 1 ∧ stN t0 k0) := by
  first | exact Or.inl ⟨rfl, fun w => by unfold stN at w; omega⟩ | exact Or.inr ⟨rfl, by unfold stN; omega⟩
theorem lf_X12_isClause_t_21 (t0 : Nat) (k0 : Nat) (hk0 : k0 < 256) (ht0 : t0 < 3) (c_1 : ¬ nI t0 = 0) (n_2 : t0 ≠ 0) (c_4 : nI t0 = 1) (n_14 : t0 = 1) (c_16 : ¬ nI k0 = 97) : k0 ≠ 97 := by
  exact fun q => c_16 ((nI_eq (a := k0) (b := 97) (by omega) (by omega)).mpr q)
theorem lf_X12_isClause_t_24 (t0 : Nat) (k0 : Nat) (hk0 : k0 < 256) (ht0 : t0 < 3) (c_1 : ¬ nI t0 = 0) (n_2 : t0 ≠ 0) (c_4 : nI t0 = 1) (n_14 : t0 = 1) (c_16 : ¬ nI k0 = 97) (n_20 : k0 ≠ 97) (c_22 : nI k0 = 98) : k0 = 98 := by
  exact (nI_eq (a := k0) (b := 98) (by omega) (by omega)).mp c_22
theorem lf_X12_isClause_t_25 (t0 : Nat) (k0 : Nat) (hk0 : k0 < 256) (ht0 : t0 < 3) (c_1 : ¬ nI t0 = 0) (n_2 : t0 ≠ 0) (c_4 : nI t0 = 1) (n_14 : t0 = 1) (c_16 : ¬ nI k0 = 97) (n_20 : k0 ≠ 97) (c_22 : nI k0 = 98) (n_23 : k0 = 98) : ((1 : Int32) = 0 ∧ ¬ stN t0 k0) ∨ ((1 : Int32) = 1 ∧ stN t0 k0) := by
  first | exact Or.inl ⟨rfl, fun w => by unfold stN at w; omega⟩ | exact Or.inr ⟨rfl, by unfold stN; omega⟩
theorem lf_X12_isClause_t_27 (t0 : Nat) (k0 : Nat) (hk0 : k0 < 256) (ht0 : t0 < 3) (c_1 : ¬ nI t0 = 0) (n_2 : t0 ≠ 0) (c_4 : nI t0 = 1) (n_14 : t0 = 1) (c_16 : ¬ nI k0 = 97) (n_20 : k0 ≠ 97) (c_22 : ¬ nI k0 = 98) : k0 ≠ 98 := by
  exact fun q => c_22 ((nI_eq (a := k0) (b := 98) (by omega) (by omega)).mpr q)
theorem lf_X12_isClause_t_30 (t0 : Nat) (k0 : Nat) (hk0 : k0 < 256) (ht0 : t0 < 3) (c_1 : ¬ nI t0 = 0) (n_2 : t0 ≠ 0) (c_4 : nI t0 = 1) (n_14 : t0 = 1) (c_16 : ¬ nI k0 = 97) (n_20 : k0 ≠ 97) (c_22 : ¬ nI k0 = 98) (n_26 : k0 ≠ 98) (c_28 : ¬ nI k0 = 103) : k0 ≠ 103 := by
  exact fun q => c_28 ((nI_eq (a := k0) (b := 103) (by omega) (by omega)).mpr q)
theorem lf_X12_isClause_t_31 (t0 : Nat) (k0 : Nat) (hk0 : k0 < 256) (ht0 : t0 < 3) (c_1 : ¬ nI t0 = 0) (n_2 : t0 ≠ 0) (c_4 : nI t0 = 1) (n_14 : t0 = 1) (c_16 : ¬ nI k0 = 97) (n_20 : k0 ≠ 97) (c_22 : ¬ nI k0 = 98) (n_26 : k0 ≠ 98) (c_28 : ¬ nI k0 = 103) (n_29 : k0 ≠ 103) : ((0 : Int32) = 0 ∧ ¬ stN t0 k0) ∨ ((0 : Int32) = 1 ∧ stN t0 k0) := by
  first | exact Or.inl ⟨rfl, fun w => by unfold stN at w; omega⟩ | exact Or.inr ⟨rfl, by unfold stN; omega⟩
theorem lf_X12_isClause_t_33 (t0 : Nat) (k0 : Nat) (hk0 : k0 < 256) (ht0 : t0 < 3) (c_1 : ¬ nI t0 = 0) (n_2 : t0 ≠ 0) (c_4 : nI t0 = 1) (n_14 : t0 = 1) (c_16 : ¬ nI k0 = 97) (n_20 : k0 ≠ 97) (c_22 : ¬ nI k0 = 98) (n_26 : k0 ≠ 98) (c_28 : nI k0 = 103) : k0 = 103 := by
  exact (nI_eq (a := k0) (b := 103) (by omega) (by omega)).mp c_28
theorem lf_X12_isClause_t_34 (t0 : Nat) (k0 : Nat) (hk0 : k0 < 256) (ht0 : t0 < 3) (c_1 : ¬ nI t0 = 0) (n_2 : t0 ≠ 0) (c_4 : nI t0 = 1) (n_14 : t0 = 1) (c_16 : ¬ nI k0 = 97) (n_20 : k0 ≠ 97) (c_22 : ¬ nI k0 = 98) (n_26 : k0 ≠ 98) (c_28 : nI k0 = 103) (n_32 : k0 = 103) : ((1 : Int32) = 0 ∧ ¬ stN t0 k0) ∨ ((1 : Int32) = 1 ∧ stN t0 k0) := by
  first | exact Or.inl ⟨rfl, fun w => by unfold stN at w; omega⟩ | exact Or.inr ⟨rfl, by unfold stN; omega⟩
theorem lf_X12_isClause_t_36 (t0 : Nat) (k0 : Nat) (hk0 : k0 < 256) (ht0 : t0 < 3) (c_1 : nI t0 = 0) : t0 = 0 := by
  exact (nI_eq (a := t0) (b := 0) (by omega) (by omega)).mp c_1
theorem lf_X12_isClause_t_39 (t0 : Nat) (k0 : Nat) (hk0 : k0 < 256) (ht0 : t0 < 3) (c_1 : nI t0 = 0) (n_35 : t0 = 0) (c_37 : nI k0 = 121) : k0 = 121 := by
  exact (nI_eq (a := k0) (b := 121) (by omega) (by omega)).mp c_37
theorem lf_X12_isClause_t_40 (t0 : Nat) (k0 : Nat) (hk0 : k0 < 256) (ht0 : t0 < 3) (c_1 : nI t0 = 0) (n_35 : t0 = 0) (c_37 : nI k0 = 121) (n_38 : k0 = 121) : ((1 : Int32) = 0 ∧ ¬ stN t0 k0) ∨ ((1 : Int32) = 1 ∧ stN t0 k0) := by
  first | exact Or.inl ⟨rfl, fun w => by unfold stN at w; omega⟩ | exact Or.inr ⟨rfl, by unfold stN; omega⟩
theorem lf_X12_isClause_t_42 (t0 : Nat) (k0 : Nat) (hk0 : k0 < 256) (ht0 : t0 < 3) (c_1 : nI t0 = 0) (n_35 : t0 = 0) (c_37 : ¬ nI k0 = 121) : k0 ≠ 121 := by
  exact fun q => c_37 ((nI_eq (a := k0) (b := 121) (by omega) (by omega)).mpr q)
theorem lf_X12_isClause_t_45 (t0 : Nat) (k0 : Nat) (hk0 : k0 < 256) (ht0 : t0 < 3) (c_1 : nI t0 = 0) (n_35 : t0 = 0) (c_37 : ¬ nI k0 = 121) (n_41 : k0 ≠ 121) (c_43 : ¬ nI k0 = 122) : k0 ≠ 122 := by
  exact fun q => c_43 ((nI_eq (a := k0) (b := 122) (by omega) (by omega)).mpr q)
theorem lf_X12_isClause_t_46 (t0 : Nat) (k0 : Nat) (hk0 : k0 < 256) (ht0 : t0 < 3) (c_1 : nI t0 = 0) (n_35 : t0 = 0) (c_37 : ¬ nI k0 = 121) (n_41 : k0 ≠ 121) (c_43 : ¬ nI k0 = 122) (n_44 : k0 ≠ 122) : ((0 : Int32) = 0 ∧ ¬ stN t0 k0) ∨ ((0 : Int32) = 1 ∧ stN t0 k0) := by
  first | exact Or.inl ⟨rfl, fun w => by unfold stN at w; omega⟩ | exact Or.inr ⟨rfl, by unfold stN; omega⟩
theorem lf_X12_isClause_t_48 (t0 : Nat) (k0 : Nat) (hk0 : k0 < 256) (ht0 : t0 < 3) (c_1 : nI t0 = 0) (n_35 : t0 = 0) (c_37 : ¬ nI k0 = 121) (n_41 : k0 ≠ 121) (c_43 : nI k0 = 122) : k0 = 122 := by
  exact (nI_eq (a := k0) (b := 122) (by omega) (by omega)).mp c_43
theorem lf_X12_isClause_t_49 (t0 : Nat) (k0 : Nat) (hk0 : k0 < 256) (ht0 : t0 < 3) (c_1 : nI t0 = 0) (n_35 : t0 = 0) (c_37 : ¬ nI k0 = 121) (n_41 : k0 ≠ 121) (c_43 : nI k0 = 122) (n_47 : k0 = 122) : ((1 : Int32) = 0 ∧ ¬ stN t0 k0) ∨ ((1 : Int32) = 1 ∧ stN t0 k0) := by
  first | exact Or.inl ⟨rfl, fun w => by unfold stN at w; omega⟩ | exact Or.inr ⟨rfl, by unfold stN; omega⟩
set_option maxHeartbeats 4000000 in
set_option maxRecDepth 100000 in
theorem c_X12_isClause_t (l : Launch) (D : va_G) (cI cB cZ cJ : ClassId) (tx : List (ClassId × FieldType)) (t0 : Nat) (k0 : Nat) (hk0 : k0 < 256) (ht0 : t0 < 3) : RdI l D cI cB cZ cJ tx yX12_isClause cX12_isClause 2 (some .boolean) 0 [.int (nI t0), .int (nI k0)] [] (fun r => (r = 0 ∧ ¬ stN t0 k0) ∨ (r = 1 ∧ stN t0 k0)) := by
  refine rdi_of2 (by decide) (Nat.le_of_ble_eq_true rfl) ?_
  intro p e s m below meth c A ls H locs hC hK hP hD hA hS hl
  obtain ⟨hx, hb, hr, hml, hown, hts, hlocks, hin⟩ := hC
  have hown : s.vm.findClass RX12 = some m.cls := hown
  have hl : lv_has ls 2 [(0, .int (nI t0)), (1, .int (nI k0))] := hl
  refine W_gQ (fun Q hQ => ?_)
  refine lv_iload_n hx hb dX12_isClause_0 rfl (lv_at hl 0 rfl) ?_
  refine lv_if_ne (tgt := 24) hx hb dX12_isClause_1 (by decide) (fun c_1 => ?_) (fun c_1 => ?_)
  · have n_2 : t0 ≠ 0 := (lf_X12_isClause_t_3 t0 k0 hk0 ht0 c_1)
    refine lv_iload_n hx hb dX12_isClause_24 rfl (lv_at hl 0 rfl) ?_
    refine lv_iconst (v := 1) hx hb dX12_isClause_25 (by decide) ?_
    refine lv_icmp_ne (tgt := 55) hx hb dX12_isClause_26 (by decide) (fun c_4 => ?_) (fun c_4 => ?_)
    · have n_5 : t0 ≠ 1 := (lf_X12_isClause_t_6 t0 k0 hk0 ht0 c_1 n_2 c_4)
      refine lv_iload_n hx hb dX12_isClause_55 rfl (lv_at hl 1 rfl) ?_
      refine lv_bipush (v := 101) hx hb dX12_isClause_56 (by decide) ?_
      refine lv_icmp_ne (tgt := 65) hx hb dX12_isClause_58 (by decide) (fun c_7 => ?_) (fun c_7 => ?_)
      · have n_8 : k0 ≠ 101 := (lf_X12_isClause_t_9 t0 k0 hk0 ht0 c_1 n_2 c_4 n_5 c_7)
        refine lv_iconst (v := 0) hx hb dX12_isClause_65 (by decide) ?_
        rw [hQ]
        exact W.zret (v := 0) hx hb hr (by decide) (fun tt9 ht hW => ⟨⟨(0 : Int32), (), rfl, (lf_X12_isClause_t_10 t0 k0 hk0 ht0 c_1 n_2 c_4 n_5 c_7 n_8), trivial⟩, hS.F ht⟩) hS.2.2 dX12_isClause_66 hlocks
      · have n_11 : k0 = 101 := (lf_X12_isClause_t_12 t0 k0 hk0 ht0 c_1 n_2 c_4 n_5 c_7)
        refine lv_iconst (v := 1) hx hb dX12_isClause_61 (by decide) ?_
        refine lv_goto (tgt := 66) hx hb dX12_isClause_62 (by decide) ?_
        rw [hQ]
        exact W.zret (v := 1) hx hb hr (by decide) (fun tt9 ht hW => ⟨⟨(1 : Int32), (), rfl, (lf_X12_isClause_t_13 t0 k0 hk0 ht0 c_1 n_2 c_4 n_5 c_7 n_11), trivial⟩, hS.F ht⟩) hS.2.2 dX12_isClause_66 hlocks
    · have n_14 : t0 = 1 := (lf_X12_isClause_t_15 t0 k0 hk0 ht0 c_1 n_2 c_4)
      refine lv_iload_n hx hb dX12_isClause_29 rfl (lv_at hl 1 rfl) ?_
      refine lv_bipush (v := 97) hx hb dX12_isClause_30 (by decide) ?_
      refine lv_icmp_eq (tgt := 47) hx hb dX12_isClause_32 (by decide) (fun c_16 => ?_) (fun c_16 => ?_)
      · have n_17 : k0 = 97 := (lf_X12_isClause_t_18 t0 k0 hk0 ht0 c_1 n_2 c_4 n_14 c_16)
        refine lv_iconst (v := 1) hx hb dX12_isClause_47 (by decide) ?_
        refine lv_goto (tgt := 66) hx hb dX12_isClause_48 (by decide) ?_
        rw [hQ]
        exact W.zret (v := 1) hx hb hr (by decide) (fun tt9 ht hW => ⟨⟨(1 : Int32), (), rfl, (lf_X12_isClause_t_19 t0 k0 hk0 ht0 c_1 n_2 c_4 n_14 c_16 n_17), trivial⟩, hS.F ht⟩) hS.2.2 dX12_isClause_66 hlocks
      · have n_20 : k0 ≠ 97 := (lf_X12_isClause_t_21 t0 k0 hk0 ht0 c_1 n_2 c_4 n_14 c_16)
        refine lv_iload_n hx hb dX12_isClause_35 rfl (lv_at hl 1 rfl) ?_
        refine lv_bipush (v := 98) hx hb dX12_isClause_36 (by decide) ?_
        refine lv_icmp_eq (tgt := 47) hx hb dX12_isClause_38 (by decide) (fun c_22 => ?_) (fun c_22 => ?_)
        · have n_23 : k0 = 98 := (lf_X12_isClause_t_24 t0 k0 hk0 ht0 c_1 n_2 c_4 n_14 c_16 n_20 c_22)
          refine lv_iconst (v := 1) hx hb dX12_isClause_47 (by decide) ?_
          refine lv_goto (tgt := 66) hx hb dX12_isClause_48 (by decide) ?_
          rw [hQ]
          exact W.zret (v := 1) hx hb hr (by decide) (fun tt9 ht hW => ⟨⟨(1 : Int32), (), rfl, (lf_X12_isClause_t_25 t0 k0 hk0 ht0 c_1 n_2 c_4 n_14 c_16 n_20 c_22 n_23), trivial⟩, hS.F ht⟩) hS.2.2 dX12_isClause_66 hlocks
        · have n_26 : k0 ≠ 98 := (lf_X12_isClause_t_27 t0 k0 hk0 ht0 c_1 n_2 c_4 n_14 c_16 n_20 c_22)
          refine lv_iload_n hx hb dX12_isClause_41 rfl (lv_at hl 1 rfl) ?_
          refine lv_bipush (v := 103) hx hb dX12_isClause_42 (by decide) ?_
          refine lv_icmp_ne (tgt := 51) hx hb dX12_isClause_44 (by decide) (fun c_28 => ?_) (fun c_28 => ?_)
          · have n_29 : k0 ≠ 103 := (lf_X12_isClause_t_30 t0 k0 hk0 ht0 c_1 n_2 c_4 n_14 c_16 n_20 c_22 n_26 c_28)
            refine lv_iconst (v := 0) hx hb dX12_isClause_51 (by decide) ?_
            refine lv_goto (tgt := 66) hx hb dX12_isClause_52 (by decide) ?_
            rw [hQ]
            exact W.zret (v := 0) hx hb hr (by decide) (fun tt9 ht hW => ⟨⟨(0 : Int32), (), rfl, (lf_X12_isClause_t_31 t0 k0 hk0 ht0 c_1 n_2 c_4 n_14 c_16 n_20 c_22 n_26 c_28 n_29), trivial⟩, hS.F ht⟩) hS.2.2 dX12_isClause_66 hlocks
          · have n_32 : k0 = 103 := (lf_X12_isClause_t_33 t0 k0 hk0 ht0 c_1 n_2 c_4 n_14 c_16 n_20 c_22 n_26 c_28)
            refine lv_iconst (v := 1) hx hb dX12_isClause_47 (by decide) ?_
            refine lv_goto (tgt := 66) hx hb dX12_isClause_48 (by decide) ?_
            rw [hQ]
            exact W.zret (v := 1) hx hb hr (by decide) (fun tt9 ht hW => ⟨⟨(1 : Int32), (), rfl, (lf_X12_isClause_t_34 t0 k0 hk0 ht0 c_1 n_2 c_4 n_14 c_16 n_20 c_22 n_26 c_28 n_32), trivial⟩, hS.F ht⟩) hS.2.2 dX12_isClause_66 hlocks
  · have n_35 : t0 = 0 := (lf_X12_isClause_t_36 t0 k0 hk0 ht0 c_1)
    refine lv_iload_n hx hb dX12_isClause_4 rfl (lv_at hl 1 rfl) ?_
    refine lv_bipush (v := 121) hx hb dX12_isClause_5 (by decide) ?_
    refine lv_icmp_eq (tgt := 16) hx hb dX12_isClause_7 (by decide) (fun c_37 => ?_) (fun c_37 => ?_)
    · have n_38 : k0 = 121 := (lf_X12_isClause_t_39 t0 k0 hk0 ht0 c_1 n_35 c_37)
      refine lv_iconst (v := 1) hx hb dX12_isClause_16 (by decide) ?_
      refine lv_goto (tgt := 66) hx hb dX12_isClause_17 (by decide) ?_
      rw [hQ]
      exact W.zret (v := 1) hx hb hr (by decide) (fun tt9 ht hW => ⟨⟨(1 : Int32), (), rfl, (lf_X12_isClause_t_40 t0 k0 hk0 ht0 c_1 n_35 c_37 n_38), trivial⟩, hS.F ht⟩) hS.2.2 dX12_isClause_66 hlocks
    · have n_41 : k0 ≠ 121 := (lf_X12_isClause_t_42 t0 k0 hk0 ht0 c_1 n_35 c_37)
      refine lv_iload_n hx hb dX12_isClause_10 rfl (lv_at hl 1 rfl) ?_
      refine lv_bipush (v := 122) hx hb dX12_isClause_11 (by decide) ?_
      refine lv_icmp_ne (tgt := 20) hx hb dX12_isClause_13 (by decide) (fun c_43 => ?_) (fun c_43 => ?_)
      · have n_44 : k0 ≠ 122 := (lf_X12_isClause_t_45 t0 k0 hk0 ht0 c_1 n_35 c_37 n_41 c_43)
        refine lv_iconst (v := 0) hx hb dX12_isClause_20 (by decide) ?_
        refine lv_goto (tgt := 66) hx hb dX12_isClause_21 (by decide) ?_
        rw [hQ]
        exact W.zret (v := 0) hx hb hr (by decide) (fun tt9 ht hW => ⟨⟨(0 : Int32), (), rfl, (lf_X12_isClause_t_46 t0 k0 hk0 ht0 c_1 n_35 c_37 n_41 c_43 n_44), trivial⟩, hS.F ht⟩) hS.2.2 dX12_isClause_66 hlocks
      · have n_47 : k0 = 122 := (lf_X12_isClause_t_48 t0 k0 hk0 ht0 c_1 n_35 c_37 n_41 c_43)
        refine lv_iconst (v := 1) hx hb dX12_isClause_16 (by decide) ?_
        refine lv_goto (tgt := 66) hx hb dX12_isClause_17 (by decide) ?_
        rw [hQ]
        exact W.zret (v := 1) hx hb hr (by decide) (fun tt9 ht hW => ⟨⟨(1 : Int32), (), rfl, (lf_X12_isClause_t_49 t0 k0 hk0 ht0 c_1 n_35 c_37 n_41 c_43 n_47), trivial⟩, hS.F ht⟩) hS.2.2 dX12_isClause_66 hlocks

theorem lf_X12_emit_tx_2 (h : Nat) (q : Nat → Nat) (im : Nat → Int32) (cd : Nat) (bd : Int32) (m_newCode : Nat → Int32) (m_newArg : Nat → Int32) (n1 : Int32) (n2 : Int32) (hf_cd : im 23 = nI cd) (hf_bd : im 21 = bd) (hcd : cd < 200) (hsb : SB [23] im im) (hb1 : ¬ bd = 0) : (SB [23] im (im : Nat → Int32)) ∧ ((im : Nat → Int32) 23 = nI (cd : Nat)) ∧ (EMX m_newCode m_newArg cd n1 n2 bd (m_newCode : Nat → Int32) (m_newArg : Nat → Int32) (cd : Nat)) := by
  refine ⟨?_, ?_, ?_⟩
  · assumption
  · assumption
  · first | exact Or.inl ⟨rfl, rfl, by assumption, by assumption⟩ | exact Or.inl ⟨by assumption, rfl, by assumption, by assumption⟩ | exact Or.inr ⟨by assumption, rfl, rfl, rfl⟩
theorem lf_X12_emit_tx_4 (h : Nat) (q : Nat → Nat) (im : Nat → Int32) (cd : Nat) (bd : Int32) (m_newCode : Nat → Int32) (m_newArg : Nat → Int32) (n1 : Int32) (n2 : Int32) (hf_cd : im 23 = nI cd) (hf_bd : im 21 = bd) (hcd : cd < 200) (hsb : SB [23] im im) (hb1 : bd = 0) : cd < 200 := by
  omega
theorem lf_X12_emit_tx_6 (h : Nat) (q : Nat → Nat) (im : Nat → Int32) (cd : Nat) (bd : Int32) (m_newCode : Nat → Int32) (m_newArg : Nat → Int32) (n1 : Int32) (n2 : Int32) (hf_cd : im 23 = nI cd) (hf_bd : im 21 = bd) (hcd : cd < 200) (hsb : SB [23] im im) (hb1 : bd = 0) (f_3 : Nat → Int32) (ef_3 : f_3 = upd m_newCode cd n1) : cd < 200 := by
  omega
theorem lf_X12_emit_tx_8 (h : Nat) (q : Nat → Nat) (im : Nat → Int32) (cd : Nat) (bd : Int32) (m_newCode : Nat → Int32) (m_newArg : Nat → Int32) (n1 : Int32) (n2 : Int32) (hf_cd : im 23 = nI cd) (hf_bd : im 21 = bd) (hcd : cd < 200) (hb1 : bd = 0) (f_3 : Nat → Int32) (ef_3 : f_3 = upd m_newCode cd n1) (f_5 : Nat → Int32) (ef_5 : f_5 = upd m_newArg cd n2) (i_7 : Nat → Int32) (hsb : SB [23] im i_7) (hi_7_21 : i_7 21 = 0) (hi_7_23 : i_7 23 = nI (cd + 1)) : (SB [23] im (i_7 : Nat → Int32)) ∧ ((i_7 : Nat → Int32) 23 = nI ((cd + 1) : Nat)) ∧ (EMX m_newCode m_newArg cd n1 n2 bd (f_3 : Nat → Int32) (f_5 : Nat → Int32) ((cd + 1) : Nat)) := by
  refine ⟨?_, ?_, ?_⟩
  · assumption
  · assumption
  · first | exact Or.inl ⟨rfl, rfl, by assumption, by assumption⟩ | exact Or.inl ⟨by assumption, rfl, by assumption, by assumption⟩ | exact Or.inr ⟨by assumption, rfl, rfl, rfl⟩
set_option maxHeartbeats 4000000 in
set_option maxRecDepth 100000 in
theorem c_X12_emit_tx (l : Launch) (D : va_G) (cI cB cZ cJ : ClassId) (tx : List (ClassId × FieldType)) (h : Nat) (q : Nat → Nat) (im : Nat → Int32) (cd : Nat) (bd : Int32) (m_newCode : Nat → Int32) (m_newArg : Nat → Int32) (n1 : Int32) (n2 : Int32) (hf_cd : im 23 = nI cd) (hf_bd : im 21 = bd) (hcd : cd < 200) : WrV l D cI cB cZ cJ tx yX12_emit cX12_emit 3 none 1 0 0 [.ref h, .int n1, .int n2] [(h, .inr (12, mG q im)), (q 17, .inl (cI, 200, .inl m_newCode)), (q 18, .inl (cI, 200, .inl m_newArg))] (fun (v : (Nat → Int32) × (Nat) × (Nat → Int32) × (Nat → Int32)) => (SB [23] im v.1) ∧ (v.1 23 = nI v.2.1) ∧ (EMX m_newCode m_newArg cd n1 n2 bd v.2.2.1 v.2.2.2 v.2.1)) (fun v => [(h, .inr (12, mG q v.1)), (q 17, .inl (cI, 200, .inl v.2.2.1)), (q 18, .inl (cI, 200, .inl v.2.2.2))]) := by
  refine wrv_of2 (by decide) (Nat.le_of_ble_eq_true rfl) ?_
  intro p e s m below meth c A ls H locs hC hK hP hD hA hS hl
  obtain ⟨hx, hb, hr, hml, hown, hts, hlocks, hin⟩ := hC
  have hown : s.vm.findClass RX12 = some m.cls := hown
  have hl : lv_has ls 3 [(0, .ref h), (1, .int n1), (2, .int n2)] := hl
  have hsb : SB [23] im im := SB.rf
  refine W_gQ (fun Q hQ => ?_)
  refine lv_aload_n hx hb dX12_emit_0 rfl (lv_at hl 0 rfl) ?_
  refine eRi (va_runV (As := []) (rest := []) ⟨hx, hb, hml, hown, hts⟩ (c_X12_isGood l D cI cB cZ cJ tx h q im bd hf_bd H.size) (zV hts k_1627 v_X12_isGood ⟨Nat.le_of_ble_eq_true rfl, Nat.le_of_ble_eq_true rfl⟩) (pV (px1 hK hP 0 rfl) hK hP 0 rfl rfl) rfl rfl hl.1 rfl (lv_room (Nat.le_of_ble_eq_true rfl)) dX12_emit_1 ⟨Nat.le_of_ble_eq_true rfl, Nat.le_of_ble_eq_true rfl⟩) hP hS hA (fun r_1 H locs wr_1 hP hS => ?_)
  rcases wr_1 with ⟨rfl, hb1⟩ | ⟨rfl, rfl⟩
  · refine lv_if_ne (tgt := 8) hx hb dX12_emit_4 (by decide) (fun c => absurd c (by decide)) (fun _ => ?_)
    rw [hQ]
    exact W.vret hx hb hr (fun tt9 ht hW => ⟨⟨((im : Nat → Int32), (cd : Nat), (m_newCode : Nat → Int32), (m_newArg : Nat → Int32)), rfl, (lf_X12_emit_tx_2 h q im cd bd m_newCode m_newArg n1 n2 hf_cd hf_bd hcd hsb hb1), ⟨by rw [ht]; exact hP, hD⟩⟩, hS.F ht⟩) hS.2.2 dX12_emit_7 hlocks
  · refine lv_if_ne (tgt := 8) hx hb dX12_emit_4 (by decide) (fun _ => ?_) (fun c => absurd c (by decide))
    refine lv_aload_n hx hb dX12_emit_8 rfl (lv_at hl 0 rfl) ?_
    refine va_get (D := D) (ci := 12) (v := .ref (q 17)) (C := RX12) (T := TX12) (N := 81) hx hb hts inT_X12 hown hK.1 hP 0 rfl rfl 17 (by decide) (hts _ k_1370) (fun _ h9 => h9) rfl dX12_emit_9 ?_
    refine lv_aload_n hx hb dX12_emit_12 rfl (lv_at hl 0 rfl) ?_
    refine va_get (D := D) (ci := 12) (v := .int (im 23)) (C := RX12) (T := TX12) (N := 81) hx hb hts inT_X12 hown hK.1 hP 0 rfl rfl 23 (by decide) (hts _ k_1376) (fun _ h9 => h9) rfl dX12_emit_13 ?_
    refine lv_topv (y := nI cd) hf_cd ?_
    refine lv_iload_n hx hb dX12_emit_16 rfl (lv_at hl 1 rfl) ?_
    refine su_i (j := cd) hx hb hK hP hD hS 1 rfl (lf_X12_emit_tx_4 h q im cd (0) m_newCode m_newArg n1 n2 hf_cd hf_bd hcd hsb rfl) (by first | decide | assumption) dX12_emit_17 (fun f_3 H locs ef_3 hP hD hS => ?_)
    have hPD := pd_mk (ws := [(h, .inr (12, mG q im)), (q 17, .inl (cI, 200, .inl f_3)), (q 18, .inl (cI, 200, .inl m_newArg))]) hP hD
    have hP := hPD.1
    have hD := hPD.2
    refine lv_aload_n hx hb dX12_emit_18 rfl (lv_at hl 0 rfl) ?_
    refine va_get (D := D) (ci := 12) (v := .ref (q 18)) (C := RX12) (T := TX12) (N := 81) hx hb hts inT_X12 hown hK.1 hP 0 rfl rfl 18 (by decide) (hts _ k_1371) (fun _ h9 => h9) rfl dX12_emit_19 ?_
    refine lv_aload_n hx hb dX12_emit_22 rfl (lv_at hl 0 rfl) ?_
    refine va_get (D := D) (ci := 12) (v := .int (im 23)) (C := RX12) (T := TX12) (N := 81) hx hb hts inT_X12 hown hK.1 hP 0 rfl rfl 23 (by decide) (hts _ k_1376) (fun _ h9 => h9) rfl dX12_emit_23 ?_
    refine lv_topv (y := nI cd) hf_cd ?_
    refine lv_iload_n hx hb dX12_emit_26 rfl (lv_at hl 2 rfl) ?_
    refine su_i (j := cd) hx hb hK hP hD hS 2 rfl (lf_X12_emit_tx_6 h q im cd (0) m_newCode m_newArg n1 n2 hf_cd hf_bd hcd hsb rfl f_3 ef_3) (by first | decide | assumption) dX12_emit_27 (fun f_5 H locs ef_5 hP hD hS => ?_)
    have hPD := pd_mk (ws := [(h, .inr (12, mG q im)), (q 17, .inl (cI, 200, .inl f_3)), (q 18, .inl (cI, 200, .inl f_5))]) hP hD
    have hP := hPD.1
    have hD := hPD.2
    refine lv_aload_n hx hb dX12_emit_28 rfl (lv_at hl 0 rfl) ?_
    refine lv_dup hx hb dX12_emit_29 rfl ?_
    refine va_get (D := D) (ci := 12) (v := .int (im 23)) (C := RX12) (T := TX12) (N := 81) hx hb hts inT_X12 hown hK.1 hP 0 rfl rfl 23 (by decide) (hts _ k_1376) (fun _ h9 => h9) rfl dX12_emit_30 ?_
    refine lv_topv (y := nI cd) hf_cd ?_
    refine lv_iconst (v := 1) hx hb dX12_emit_33 (by decide) ?_
    refine lv_iadd hx hb dX12_emit_34 ?_
    refine lv_topv (y := nI (cd + 1)) (nI_add cd 1) ?_
    refine va_put (D := D) (ci := 12) (v := .int (nI (cd + 1))) (ty := .int) (C := RX12) (T := TX12) (N := 81) hx hb hts inT_X12 tyX12 tyX12_ok nmX12 hown hK.1 hP hD hS 0 rfl rfl 23 (by decide) (hts _ k_1376) (fun _ h9 => h9) rfl (by decide +kernel) rfl rfl (Nat.le_of_ble_eq_true rfl) dX12_emit_35 (fun H locs hP hD hS => ?_)
    obtain ⟨i_7, ei_7⟩ : ∃ z : Nat → Int32, z = upd im 23 (nI (cd + 1)) := ⟨_, rfl⟩
    have hi_7_21 : i_7 21 = 0 := by rw [ei_7]; exact hf_bd
    have hi_7_23 : i_7 23 = nI (cd + 1) := by rw [ei_7]; rfl
    have hsb := SB.put hsb ei_7 (by decide)
    have hP : va_P D vwCl [(h, .inr (12, mG q i_7)), (q 17, .inl (cI, 200, .inl f_3)), (q 18, .inl (cI, 200, .inl f_5))] H := by rw [ei_7, ← mG_23]; exact hP
    have hD : va_D A [(h, .inr (12, mG q i_7)), (q 17, .inl (cI, 200, .inl f_3)), (q 18, .inl (cI, 200, .inl f_5))] := by rw [ei_7, ← mG_23]; exact hD
    rw [hQ]
    exact W.vret hx hb hr (fun tt9 ht hW => ⟨⟨((i_7 : Nat → Int32), ((cd + 1) : Nat), (f_3 : Nat → Int32), (f_5 : Nat → Int32)), rfl, (lf_X12_emit_tx_8 h q im cd (0) m_newCode m_newArg n1 n2 hf_cd hf_bd hcd rfl f_3 ef_3 f_5 ef_5 i_7 hsb hi_7_21 hi_7_23), ⟨by rw [ht]; exact hP, hD⟩⟩, hS.F ht⟩) hS.2.2 dX12_emit_38 hlocks

theorem lf_X12_emit_tg_3 (h : Nat) (q : Nat → Nat) (im : Nat → Int32) (cd : Nat) (m_newCode : Nat → Int32) (m_newArg : Nat → Int32) (n1 : Int32) (n2 : Int32) (hf_cd : im 23 = nI cd) (hf_b0 : im 21 = 0) (hcd : cd < 200) (hsb : SB [23] im im) : cd < 200 := by
  omega
theorem lf_X12_emit_tg_5 (h : Nat) (q : Nat → Nat) (im : Nat → Int32) (cd : Nat) (m_newCode : Nat → Int32) (m_newArg : Nat → Int32) (n1 : Int32) (n2 : Int32) (hf_cd : im 23 = nI cd) (hf_b0 : im 21 = 0) (hcd : cd < 200) (hsb : SB [23] im im) (f_2 : Nat → Int32) (ef_2 : f_2 = upd m_newCode cd n1) : cd < 200 := by
  omega
theorem lf_X12_emit_tg_7 (h : Nat) (q : Nat → Nat) (im : Nat → Int32) (cd : Nat) (m_newCode : Nat → Int32) (m_newArg : Nat → Int32) (n1 : Int32) (n2 : Int32) (hf_cd : im 23 = nI cd) (hf_b0 : im 21 = 0) (hcd : cd < 200) (f_2 : Nat → Int32) (ef_2 : f_2 = upd m_newCode cd n1) (f_4 : Nat → Int32) (ef_4 : f_4 = upd m_newArg cd n2) (i_6 : Nat → Int32) (hsb : SB [23] im i_6) (hi_6_21 : i_6 21 = 0) (hi_6_23 : i_6 23 = nI (cd + 1)) : (SB [23] im (i_6 : Nat → Int32)) ∧ ((i_6 : Nat → Int32) 23 = nI ((cd + 1) : Nat)) ∧ (((cd + 1) : Nat) = cd + 1) ∧ ((f_2 : Nat → Int32) = upd m_newCode cd n1) ∧ ((f_4 : Nat → Int32) = upd m_newArg cd n2) := by
  repeat' apply And.intro
  all_goals first | assumption | omega | rfl | trivial
set_option maxHeartbeats 4000000 in
set_option maxRecDepth 100000 in
theorem c_X12_emit_tg (l : Launch) (D : va_G) (cI cB cZ cJ : ClassId) (tx : List (ClassId × FieldType)) (h : Nat) (q : Nat → Nat) (im : Nat → Int32) (cd : Nat) (m_newCode : Nat → Int32) (m_newArg : Nat → Int32) (n1 : Int32) (n2 : Int32) (hf_cd : im 23 = nI cd) (hf_b0 : im 21 = 0) (hcd : cd < 200) : WrV l D cI cB cZ cJ tx yX12_emit cX12_emit 3 none 1 0 0 [.ref h, .int n1, .int n2] [(h, .inr (12, mG q im)), (q 17, .inl (cI, 200, .inl m_newCode)), (q 18, .inl (cI, 200, .inl m_newArg))] (fun (v : (Nat → Int32) × (Nat) × (Nat → Int32) × (Nat → Int32)) => (SB [23] im v.1) ∧ (v.1 23 = nI v.2.1) ∧ (v.2.1 = cd + 1) ∧ (v.2.2.1 = upd m_newCode cd n1) ∧ (v.2.2.2 = upd m_newArg cd n2)) (fun v => [(h, .inr (12, mG q v.1)), (q 17, .inl (cI, 200, .inl v.2.2.1)), (q 18, .inl (cI, 200, .inl v.2.2.2))]) := by
  refine wrv_of2 (by decide) (Nat.le_of_ble_eq_true rfl) ?_
  intro p e s m below meth c A ls H locs hC hK hP hD hA hS hl
  obtain ⟨hx, hb, hr, hml, hown, hts, hlocks, hin⟩ := hC
  have hown : s.vm.findClass RX12 = some m.cls := hown
  have hl : lv_has ls 3 [(0, .ref h), (1, .int n1), (2, .int n2)] := hl
  have hsb : SB [23] im im := SB.rf
  refine W_gQ (fun Q hQ => ?_)
  refine lv_aload_n hx hb dX12_emit_0 rfl (lv_at hl 0 rfl) ?_
  refine eRi (va_runV (As := []) (rest := []) ⟨hx, hb, hml, hown, hts⟩ (c_X12_isGood l D cI cB cZ cJ tx h q im 0 hf_b0 H.size) (zV hts k_1627 v_X12_isGood ⟨Nat.le_of_ble_eq_true rfl, Nat.le_of_ble_eq_true rfl⟩) (pV (px1 hK hP 0 rfl) hK hP 0 rfl rfl) rfl rfl hl.1 rfl (lv_room (Nat.le_of_ble_eq_true rfl)) dX12_emit_1 ⟨Nat.le_of_ble_eq_true rfl, Nat.le_of_ble_eq_true rfl⟩) hP hS hA (fun r_1 H locs wr_1 hP hS => ?_)
  rcases wr_1 with ⟨_, hb1⟩ | ⟨rfl, _⟩
  · exact absurd rfl hb1
  · refine lv_if_ne (tgt := 8) hx hb dX12_emit_4 (by decide) (fun _ => ?_) (fun c => absurd c (by decide))
    refine lv_aload_n hx hb dX12_emit_8 rfl (lv_at hl 0 rfl) ?_
    refine va_get (D := D) (ci := 12) (v := .ref (q 17)) (C := RX12) (T := TX12) (N := 81) hx hb hts inT_X12 hown hK.1 hP 0 rfl rfl 17 (by decide) (hts _ k_1370) (fun _ h9 => h9) rfl dX12_emit_9 ?_
    refine lv_aload_n hx hb dX12_emit_12 rfl (lv_at hl 0 rfl) ?_
    refine va_get (D := D) (ci := 12) (v := .int (im 23)) (C := RX12) (T := TX12) (N := 81) hx hb hts inT_X12 hown hK.1 hP 0 rfl rfl 23 (by decide) (hts _ k_1376) (fun _ h9 => h9) rfl dX12_emit_13 ?_
    refine lv_topv (y := nI cd) hf_cd ?_
    refine lv_iload_n hx hb dX12_emit_16 rfl (lv_at hl 1 rfl) ?_
    refine su_i (j := cd) hx hb hK hP hD hS 1 rfl (lf_X12_emit_tg_3 h q im cd m_newCode m_newArg n1 n2 hf_cd hf_b0 hcd hsb) (by first | decide | assumption) dX12_emit_17 (fun f_2 H locs ef_2 hP hD hS => ?_)
    have hPD := pd_mk (ws := [(h, .inr (12, mG q im)), (q 17, .inl (cI, 200, .inl f_2)), (q 18, .inl (cI, 200, .inl m_newArg))]) hP hD
    have hP := hPD.1
    have hD := hPD.2
    refine lv_aload_n hx hb dX12_emit_18 rfl (lv_at hl 0 rfl) ?_
    refine va_get (D := D) (ci := 12) (v := .ref (q 18)) (C := RX12) (T := TX12) (N := 81) hx hb hts inT_X12 hown hK.1 hP 0 rfl rfl 18 (by decide) (hts _ k_1371) (fun _ h9 => h9) rfl dX12_emit_19 ?_
    refine lv_aload_n hx hb dX12_emit_22 rfl (lv_at hl 0 rfl) ?_
    refine va_get (D := D) (ci := 12) (v := .int (im 23)) (C := RX12) (T := TX12) (N := 81) hx hb hts inT_X12 hown hK.1 hP 0 rfl rfl 23 (by decide) (hts _ k_1376) (fun _ h9 => h9) rfl dX12_emit_23 ?_
    refine lv_topv (y := nI cd) hf_cd ?_
    refine lv_iload_n hx hb dX12_emit_26 rfl (lv_at hl 2 rfl) ?_
    refine su_i (j := cd) hx hb hK hP hD hS 2 rfl (lf_X12_emit_tg_5 h q im cd m_newCode m_newArg n1 n2 hf_cd hf_b0 hcd hsb f_2 ef_2) (by first | decide | assumption) dX12_emit_27 (fun f_4 H locs ef_4 hP hD hS => ?_)
    have hPD := pd_mk (ws := [(h, .inr (12, mG q im)), (q 17, .inl (cI, 200, .inl f_2)), (q 18, .inl (cI, 200, .inl f_4))]) hP hD
    have hP := hPD.1
    have hD := hPD.2
    refine lv_aload_n hx hb dX12_emit_28 rfl (lv_at hl 0 rfl) ?_
    refine lv_dup hx hb dX12_emit_29 rfl ?_
    refine va_get (D := D) (ci := 12) (v := .int (im 23)) (C := RX12) (T := TX12) (N := 81) hx hb hts inT_X12 hown hK.1 hP 0 rfl rfl 23 (by decide) (hts _ k_1376) (fun _ h9 => h9) rfl dX12_emit_30 ?_
    refine lv_topv (y := nI cd) hf_cd ?_
    refine lv_iconst (v := 1) hx hb dX12_emit_33 (by decide) ?_
    refine lv_iadd hx hb dX12_emit_34 ?_
    refine lv_topv (y := nI (cd + 1)) (nI_add cd 1) ?_
    refine va_put (D := D) (ci := 12) (v := .int (nI (cd + 1))) (ty := .int) (C := RX12) (T := TX12) (N := 81) hx hb hts inT_X12 tyX12 tyX12_ok nmX12 hown hK.1 hP hD hS 0 rfl rfl 23 (by decide) (hts _ k_1376) (fun _ h9 => h9) rfl (by decide +kernel) rfl rfl (Nat.le_of_ble_eq_true rfl) dX12_emit_35 (fun H locs hP hD hS => ?_)
    obtain ⟨i_6, ei_6⟩ : ∃ z : Nat → Int32, z = upd im 23 (nI (cd + 1)) := ⟨_, rfl⟩
    have hi_6_21 : i_6 21 = 0 := by rw [ei_6]; exact hf_b0
    have hi_6_23 : i_6 23 = nI (cd + 1) := by rw [ei_6]; rfl
    have hsb := SB.put hsb ei_6 (by decide)
    have hP : va_P D vwCl [(h, .inr (12, mG q i_6)), (q 17, .inl (cI, 200, .inl f_2)), (q 18, .inl (cI, 200, .inl f_4))] H := by rw [ei_6, ← mG_23]; exact hP
    have hD : va_D A [(h, .inr (12, mG q i_6)), (q 17, .inl (cI, 200, .inl f_2)), (q 18, .inl (cI, 200, .inl f_4))] := by rw [ei_6, ← mG_23]; exact hD
    rw [hQ]
    exact W.vret hx hb hr (fun tt9 ht hW => ⟨⟨((i_6 : Nat → Int32), ((cd + 1) : Nat), (f_2 : Nat → Int32), (f_4 : Nat → Int32)), rfl, (lf_X12_emit_tg_7 h q im cd m_newCode m_newArg n1 n2 hf_cd hf_b0 hcd f_2 ef_2 f_4 ef_4 i_6 hsb hi_6_21 hi_6_23), ⟨by rw [ht]; exact hP, hD⟩⟩, hS.F ht⟩) hS.2.2 dX12_emit_38 hlocks

theorem lf_X12_opens_t_3 (h : Nat) (q : Nat → Nat) (im : Nat → Int32) (pl : Nat) (ed : Nat) (sp : Nat) (on : Nat) (m_tape : Nat → Int32) (m_stack : Nat → Int32) (hf_sp : im 25 = nI sp) (hf_pl : im 19 = nI pl) (hf_ed : im 20 = nI ed) (hf_on : im 24 = nI on) (hf_b0 : im 21 = 0) (hed : ed ≤ 200) (hpl : pl ≤ 200) (hsp : sp < 240) (hon : on ≤ 6) (hsb : SB [19, 21, 24, 25] im im) (c_1 : ¬ nI on = 6) : on ≠ 6 := by
  exact fun q => c_1 ((nI_eq (a := on) (b := 6) (by omega) (by omega)).mpr q)
theorem lf_X12_opens_t_5 (h : Nat) (q : Nat → Nat) (im : Nat → Int32) (pl : Nat) (ed : Nat) (sp : Nat) (on : Nat) (m_tape : Nat → Int32) (m_stack : Nat → Int32) (hf_sp : im 25 = nI sp) (hf_pl : im 19 = nI pl) (hf_ed : im 20 = nI ed) (hf_on : im 24 = nI on) (hf_b0 : im 21 = 0) (hed : ed ≤ 200) (hpl : pl ≤ 200) (hsp : sp < 240) (hon : on ≤ 6) (c_1 : ¬ nI on = 6) (n_2 : on ≠ 6) (i_4 : Nat → Int32) (hsb : SB [19, 21, 24, 25] im i_4) : ed ≤ 200 := by
  first | assumption | omega | decide | rfl
theorem lf_X12_opens_t_6 (h : Nat) (q : Nat → Nat) (im : Nat → Int32) (pl : Nat) (ed : Nat) (sp : Nat) (on : Nat) (m_tape : Nat → Int32) (m_stack : Nat → Int32) (hf_sp : im 25 = nI sp) (hf_pl : im 19 = nI pl) (hf_ed : im 20 = nI ed) (hf_on : im 24 = nI on) (hf_b0 : im 21 = 0) (hed : ed ≤ 200) (hpl : pl ≤ 200) (hsp : sp < 240) (hon : on ≤ 6) (c_1 : ¬ nI on = 6) (n_2 : on ≠ 6) (i_4 : Nat → Int32) (hsb : SB [19, 21, 24, 25] im i_4) : pl ≤ 1000 := by
  first | assumption | omega | decide | rfl
theorem lf_X12_opens_t_8 (h : Nat) (q : Nat → Nat) (im : Nat → Int32) (pl : Nat) (ed : Nat) (sp : Nat) (on : Nat) (m_tape : Nat → Int32) (m_stack : Nat → Int32) (hf_sp : im 25 = nI sp) (hf_pl : im 19 = nI pl) (hf_ed : im 20 = nI ed) (hf_on : im 24 = nI on) (hf_b0 : im 21 = 0) (hed : ed ≤ 200) (hpl : pl ≤ 200) (hsp : sp < 240) (hon : on ≤ 6) (c_1 : ¬ nI on = 6) (n_2 : on ≠ 6) (i_4 : Nat → Int32) (hsb : SB [19, 21, 24, 25] im i_4) (hb7 : (bF m_tape ed pl) < 256) : sp < 240 := by
  first | assumption | omega | decide | rfl
theorem lf_X12_opens_t_11 (h : Nat) (q : Nat → Nat) (im : Nat → Int32) (pl : Nat) (ed : Nat) (sp : Nat) (on : Nat) (m_tape : Nat → Int32) (m_stack : Nat → Int32) (hf_sp : im 25 = nI sp) (hf_pl : im 19 = nI pl) (hf_ed : im 20 = nI ed) (hf_on : im 24 = nI on) (hf_b0 : im 21 = 0) (hed : ed ≤ 200) (hpl : pl ≤ 200) (hsp : sp < 240) (hon : on ≤ 6) (c_1 : ¬ nI on = 6) (n_2 : on ≠ 6) (i_4 : Nat → Int32) (hb7 : (bF m_tape ed pl) < 256) (im_10 : Nat → Int32) (sp_10 : Nat) (pl_10 : Nat) (m_stack_10 : Nat → Int32) (hz_10_0 : SB [19, 25] i_4 im_10) (hz_10_1 : im_10 25 = nI sp_10) (hz_10_2 : im_10 19 = nI pl_10) (hz_10_3 : sp_10 = sp + 1) (hz_10_4 : pl_10 = pl + 1) (hz_10_5 : m_stack_10 = upd m_stack sp (nI (bF m_tape ed pl))) (hsb : SB [19, 21, 24, 25] im im_10) (hk_10_20 : im_10 20 = nI ed) (hk_10_21 : im_10 21 = 0) (hk_10_24 : im_10 24 = nI (on + 1)) : (SB [19, 21, 24, 25] im (im_10 : Nat → Int32)) ∧ ((im_10 : Nat → Int32) 25 = nI (sp_10 : Nat)) ∧ ((im_10 : Nat → Int32) 19 = nI (pl_10 : Nat)) ∧ ((im_10 : Nat → Int32) 24 = nI ((on + 1) : Nat)) ∧ ((im_10 : Nat → Int32) 21 = (0 : Int32)) ∧ ((sp_10 : Nat) = sp + 1) ∧ ((pl_10 : Nat) = pl + 1) ∧ ((m_stack_10 : Nat → Int32) = upd m_stack sp (nI (bF m_tape ed pl))) ∧ (((on + 1) : Nat) = on + 1) ∧ (OPD on pl (0 : Int32)) ∧ ((0 : Int32) ≤ 0) := by
  repeat' apply And.intro
  all_goals first | assumption | omega | rfl | exact Or.inr ⟨by omega, by assumption, by assumption⟩ | exact Or.inl ⟨by omega, rfl⟩ | exact Int32.le_refl _ | exact Int32.le_of_lt (by assumption)
theorem lf_X12_opens_t_13 (h : Nat) (q : Nat → Nat) (im : Nat → Int32) (pl : Nat) (ed : Nat) (sp : Nat) (on : Nat) (m_tape : Nat → Int32) (m_stack : Nat → Int32) (hf_sp : im 25 = nI sp) (hf_pl : im 19 = nI pl) (hf_ed : im 20 = nI ed) (hf_on : im 24 = nI on) (hf_b0 : im 21 = 0) (hed : ed ≤ 200) (hpl : pl ≤ 200) (hsp : sp < 240) (hon : on ≤ 6) (hsb : SB [19, 21, 24, 25] im im) (c_1 : nI on = 6) : on = 6 := by
  exact (nI_eq (a := on) (b := 6) (by omega) (by omega)).mp c_1
theorem lf_X12_opens_t_14 (h : Nat) (q : Nat → Nat) (im : Nat → Int32) (pl : Nat) (ed : Nat) (sp : Nat) (on : Nat) (m_tape : Nat → Int32) (m_stack : Nat → Int32) (hf_sp : im 25 = nI sp) (hf_pl : im 19 = nI pl) (hf_ed : im 20 = nI ed) (hf_on : im 24 = nI on) (hf_b0 : im 21 = 0) (hed : ed ≤ 200) (hpl : pl ≤ 200) (hsp : sp < 240) (hon : on ≤ 6) (hsb : SB [19, 21, 24, 25] im im) (c_1 : nI on = 6) (n_12 : on = 6) : 1 ≤ 5 := by
  first | assumption | omega | decide | rfl
theorem lf_X12_opens_t_15 (h : Nat) (q : Nat → Nat) (im : Nat → Int32) (pl : Nat) (ed : Nat) (sp : Nat) (on : Nat) (m_tape : Nat → Int32) (m_stack : Nat → Int32) (hf_sp : im 25 = nI sp) (hf_pl : im 19 = nI pl) (hf_ed : im 20 = nI ed) (hf_on : im 24 = nI on) (hf_b0 : im 21 = 0) (hed : ed ≤ 200) (hpl : pl ≤ 200) (hsp : sp < 240) (hon : on ≤ 6) (hsb : SB [19, 21, 24, 25] im im) (c_1 : nI on = 6) (n_12 : on = 6) : 5 ≤ 5 := by
  first | assumption | omega | decide | rfl
theorem lf_X12_opens_t_16 (h : Nat) (q : Nat → Nat) (im : Nat → Int32) (pl : Nat) (ed : Nat) (sp : Nat) (on : Nat) (m_tape : Nat → Int32) (m_stack : Nat → Int32) (hf_sp : im 25 = nI sp) (hf_pl : im 19 = nI pl) (hf_ed : im 20 = nI ed) (hf_on : im 24 = nI on) (hf_b0 : im 21 = 0) (hed : ed ≤ 200) (hpl : pl ≤ 200) (hsp : sp < 240) (hon : on ≤ 6) (hsb : SB [19, 21, 24, 25] im im) (c_1 : nI on = 6) (n_12 : on = 6) : pl ≤ 200 := by
  first | assumption | omega | decide | rfl
theorem lf_X12_opens_t_20 (h : Nat) (q : Nat → Nat) (im : Nat → Int32) (pl : Nat) (ed : Nat) (sp : Nat) (on : Nat) (m_tape : Nat → Int32) (m_stack : Nat → Int32) (hf_sp : im 25 = nI sp) (hf_pl : im 19 = nI pl) (hf_ed : im 20 = nI ed) (hf_on : im 24 = nI on) (hf_b0 : im 21 = 0) (hed : ed ≤ 200) (hpl : pl ≤ 200) (hsp : sp < 240) (hon : on ≤ 6) (c_1 : nI on = 6) (n_12 : on = 6) (im_18 : Nat → Int32) (bd_18 : Int32) (hz_18_0 : SB [21] im im_18) (hz_18_1 : im_18 21 = bd_18) (hz_18_2 : bd_18 < 0) (hz_18_3 : ¬ bd_18 = 0) (hz_18_4 : bd_18 = (-1000) * nI 5 - nI pl) (i_19 : Nat → Int32) (hsb : SB [19, 21, 24, 25] im i_19) : ed ≤ 200 := by
  first | assumption | omega | decide | rfl
theorem lf_X12_opens_t_21 (h : Nat) (q : Nat → Nat) (im : Nat → Int32) (pl : Nat) (ed : Nat) (sp : Nat) (on : Nat) (m_tape : Nat → Int32) (m_stack : Nat → Int32) (hf_sp : im 25 = nI sp) (hf_pl : im 19 = nI pl) (hf_ed : im 20 = nI ed) (hf_on : im 24 = nI on) (hf_b0 : im 21 = 0) (hed : ed ≤ 200) (hpl : pl ≤ 200) (hsp : sp < 240) (hon : on ≤ 6) (c_1 : nI on = 6) (n_12 : on = 6) (im_18 : Nat → Int32) (bd_18 : Int32) (hz_18_0 : SB [21] im im_18) (hz_18_1 : im_18 21 = bd_18) (hz_18_2 : bd_18 < 0) (hz_18_3 : ¬ bd_18 = 0) (hz_18_4 : bd_18 = (-1000) * nI 5 - nI pl) (i_19 : Nat → Int32) (hsb : SB [19, 21, 24, 25] im i_19) : pl ≤ 1000 := by
  first | assumption | omega | decide | rfl
theorem lf_X12_opens_t_23 (h : Nat) (q : Nat → Nat) (im : Nat → Int32) (pl : Nat) (ed : Nat) (sp : Nat) (on : Nat) (m_tape : Nat → Int32) (m_stack : Nat → Int32) (hf_sp : im 25 = nI sp) (hf_pl : im 19 = nI pl) (hf_ed : im 20 = nI ed) (hf_on : im 24 = nI on) (hf_b0 : im 21 = 0) (hed : ed ≤ 200) (hpl : pl ≤ 200) (hsp : sp < 240) (hon : on ≤ 6) (c_1 : nI on = 6) (n_12 : on = 6) (im_18 : Nat → Int32) (bd_18 : Int32) (hz_18_0 : SB [21] im im_18) (hz_18_1 : im_18 21 = bd_18) (hz_18_2 : bd_18 < 0) (hz_18_3 : ¬ bd_18 = 0) (hz_18_4 : bd_18 = (-1000) * nI 5 - nI pl) (i_19 : Nat → Int32) (hsb : SB [19, 21, 24, 25] im i_19) (hb22 : (bF m_tape ed pl) < 256) : sp < 240 := by
  first | assumption | omega | decide | rfl
theorem lf_X12_opens_t_26 (h : Nat) (q : Nat → Nat) (im : Nat → Int32) (pl : Nat) (ed : Nat) (sp : Nat) (on : Nat) (m_tape : Nat → Int32) (m_stack : Nat → Int32) (hf_sp : im 25 = nI sp) (hf_pl : im 19 = nI pl) (hf_ed : im 20 = nI ed) (hf_on : im 24 = nI on) (hf_b0 : im 21 = 0) (hed : ed ≤ 200) (hpl : pl ≤ 200) (hsp : sp < 240) (hon : on ≤ 6) (c_1 : nI on = 6) (n_12 : on = 6) (im_18 : Nat → Int32) (bd_18 : Int32) (hz_18_0 : SB [21] im im_18) (hz_18_1 : im_18 21 = bd_18) (hz_18_2 : bd_18 < 0) (hz_18_3 : ¬ bd_18 = 0) (hz_18_4 : bd_18 = (-1000) * nI 5 - nI pl) (i_19 : Nat → Int32) (hb22 : (bF m_tape ed pl) < 256) (im_25 : Nat → Int32) (sp_25 : Nat) (pl_25 : Nat) (m_stack_25 : Nat → Int32) (hz_25_0 : SB [19, 25] i_19 im_25) (hz_25_1 : im_25 25 = nI sp_25) (hz_25_2 : im_25 19 = nI pl_25) (hz_25_3 : sp_25 = sp + 1) (hz_25_4 : pl_25 = pl + 1) (hz_25_5 : m_stack_25 = upd m_stack sp (nI (bF m_tape ed pl))) (hsb : SB [19, 21, 24, 25] im im_25) (hk_25_20 : im_25 20 = nI ed) (hk_25_21 : im_25 21 = bd_18) (hk_25_24 : im_25 24 = nI (on + 1)) : (SB [19, 21, 24, 25] im (im_25 : Nat → Int32)) ∧ ((im_25 : Nat → Int32) 25 = nI (sp_25 : Nat)) ∧ ((im_25 : Nat → Int32) 19 = nI (pl_25 : Nat)) ∧ ((im_25 : Nat → Int32) 24 = nI ((on + 1) : Nat)) ∧ ((im_25 : Nat → Int32) 21 = (bd_18 : Int32)) ∧ ((sp_25 : Nat) = sp + 1) ∧ ((pl_25 : Nat) = pl + 1) ∧ ((m_stack_25 : Nat → Int32) = upd m_stack sp (nI (bF m_tape ed pl))) ∧ (((on + 1) : Nat) = on + 1) ∧ (OPD on pl (bd_18 : Int32)) ∧ ((bd_18 : Int32) ≤ 0) := by
  repeat' apply And.intro
  all_goals first | assumption | omega | rfl | exact Or.inr ⟨by omega, by assumption, by assumption⟩ | exact Or.inl ⟨by omega, rfl⟩ | exact Int32.le_refl _ | exact Int32.le_of_lt (by assumption)
set_option maxHeartbeats 4000000 in
set_option maxRecDepth 100000 in
theorem c_X12_opens_t (l : Launch) (D : va_G) (cI cB cZ cJ : ClassId) (tx : List (ClassId × FieldType)) (h : Nat) (q : Nat → Nat) (im : Nat → Int32) (pl : Nat) (ed : Nat) (sp : Nat) (on : Nat) (m_tape : Nat → Int32) (m_stack : Nat → Int32) (hf_sp : im 25 = nI sp) (hf_pl : im 19 = nI pl) (hf_ed : im 20 = nI ed) (hf_on : im 24 = nI on) (hf_b0 : im 21 = 0) (hed : ed ≤ 200) (hpl : pl ≤ 200) (hsp : sp < 240) (hon : on ≤ 6) : WrV l D cI cB cZ cJ tx yX12_opens cX12_opens 1 none 1 0 0 [.ref h] [(h, .inr (12, mG q im)), (q 0, .inl (cB, 220, .inl m_tape)), (q 28, .inl (cI, 240, .inl m_stack))] (fun (v : (Nat → Int32) × (Nat) × (Nat) × (Nat) × (Int32) × (Nat → Int32)) => (SB [19, 21, 24, 25] im v.1) ∧ (v.1 25 = nI v.2.1) ∧ (v.1 19 = nI v.2.2.1) ∧ (v.1 24 = nI v.2.2.2.1) ∧ (v.1 21 = v.2.2.2.2.1) ∧ (v.2.1 = sp + 1) ∧ (v.2.2.1 = pl + 1) ∧ (v.2.2.2.2.2 = upd m_stack sp (nI (bF m_tape ed pl))) ∧ (v.2.2.2.1 = on + 1) ∧ (OPD on pl v.2.2.2.2.1) ∧ (v.2.2.2.2.1 ≤ 0)) (fun v => [(h, .inr (12, mG q v.1)), (q 0, .inl (cB, 220, .inl m_tape)), (q 28, .inl (cI, 240, .inl v.2.2.2.2.2))]) := by
  refine wrv_of2 (by decide) (Nat.le_of_ble_eq_true rfl) ?_
  intro p e s m below meth c A ls H locs hC hK hP hD hA hS hl
  obtain ⟨hx, hb, hr, hml, hown, hts, hlocks, hin⟩ := hC
  have hown : s.vm.findClass RX12 = some m.cls := hown
  have hl : lv_has ls 1 [(0, .ref h)] := hl
  have hsb : SB [19, 21, 24, 25] im im := SB.rf
  refine W_gQ (fun Q hQ => ?_)
  refine lv_aload_n hx hb dX12_opens_0 rfl (lv_at hl 0 rfl) ?_
  refine va_get (D := D) (ci := 12) (v := .int (im 24)) (C := RX12) (T := TX12) (N := 81) hx hb hts inT_X12 hown hK.1 hP 0 rfl rfl 24 (by decide) (hts _ k_1377) (fun _ h9 => h9) rfl dX12_opens_1 ?_
  refine lv_topv (y := nI on) hf_on ?_
  refine lv_bipush (v := 6) hx hb dX12_opens_4 (by decide) ?_
  refine lv_icmp_ne (tgt := 18) hx hb dX12_opens_6 (by decide) (fun c_1 => ?_) (fun c_1 => ?_)
  · have n_2 : on ≠ 6 := (lf_X12_opens_t_3 h q im pl ed sp on m_tape m_stack hf_sp hf_pl hf_ed hf_on hf_b0 hed hpl hsp hon hsb c_1)
    refine lv_aload_n hx hb dX12_opens_18 rfl (lv_at hl 0 rfl) ?_
    refine lv_dup hx hb dX12_opens_19 rfl ?_
    refine va_get (D := D) (ci := 12) (v := .int (im 24)) (C := RX12) (T := TX12) (N := 81) hx hb hts inT_X12 hown hK.1 hP 0 rfl rfl 24 (by decide) (hts _ k_1377) (fun _ h9 => h9) rfl dX12_opens_20 ?_
    refine lv_topv (y := nI on) hf_on ?_
    refine lv_iconst (v := 1) hx hb dX12_opens_23 (by decide) ?_
    refine lv_iadd hx hb dX12_opens_24 ?_
    refine lv_topv (y := nI (on + 1)) (nI_add on 1) ?_
    refine va_put (D := D) (ci := 12) (v := .int (nI (on + 1))) (ty := .int) (C := RX12) (T := TX12) (N := 81) hx hb hts inT_X12 tyX12 tyX12_ok nmX12 hown hK.1 hP hD hS 0 rfl rfl 24 (by decide) (hts _ k_1377) (fun _ h9 => h9) rfl (by decide +kernel) rfl rfl (Nat.le_of_ble_eq_true rfl) dX12_opens_25 (fun H locs hP hD hS => ?_)
    obtain ⟨i_4, ei_4⟩ : ∃ z : Nat → Int32, z = upd im 24 (nI (on + 1)) := ⟨_, rfl⟩
    have hi_4_25 : i_4 25 = nI sp := by rw [ei_4]; exact hf_sp
    have hi_4_19 : i_4 19 = nI pl := by rw [ei_4]; exact hf_pl
    have hi_4_20 : i_4 20 = nI ed := by rw [ei_4]; exact hf_ed
    have hi_4_21 : i_4 21 = 0 := by rw [ei_4]; exact hf_b0
    have hi_4_24 : i_4 24 = nI (on + 1) := by rw [ei_4]; rfl
    have hsb := SB.put hsb ei_4 (by decide)
    have hP : va_P D vwCl [(h, .inr (12, mG q i_4)), (q 0, .inl (cB, 220, .inl m_tape)), (q 28, .inl (cI, 240, .inl m_stack))] H := by rw [ei_4, ← mG_24]; exact hP
    have hD : va_D A [(h, .inr (12, mG q i_4)), (q 0, .inl (cB, 220, .inl m_tape)), (q 28, .inl (cI, 240, .inl m_stack))] := by rw [ei_4, ← mG_24]; exact hD
    refine lv_aload_n hx hb dX12_opens_28 rfl (lv_at hl 0 rfl) ?_
    refine lv_aload_n hx hb dX12_opens_29 rfl (lv_at hl 0 rfl) ?_
    refine eRi (va_runV (As := []) (rest := [.ref h]) ⟨hx, hb, hml, hown, hts⟩ (c_X12_here_t l D cI cB cZ cJ tx h q i_4 pl ed m_tape hi_4_19 hi_4_20 (lf_X12_opens_t_5 h q im pl ed sp on m_tape m_stack hf_sp hf_pl hf_ed hf_on hf_b0 hed hpl hsp hon c_1 n_2 i_4 hsb) (lf_X12_opens_t_6 h q im pl ed sp on m_tape m_stack hf_sp hf_pl hf_ed hf_on hf_b0 hed hpl hsp hon c_1 n_2 i_4 hsb) H.size) (zV hts k_1635 v_X12_here ⟨Nat.le_of_ble_eq_true rfl, Nat.le_of_ble_eq_true rfl⟩) (pV (pxS hK hP hD [0, 1] (by decide) rfl) hK hP 0 rfl rfl) rfl rfl hl.1 rfl (lv_room (Nat.le_of_ble_eq_true rfl)) dX12_opens_30 ⟨Nat.le_of_ble_eq_true rfl, Nat.le_of_ble_eq_true rfl⟩) hP hS hA (fun r_7 H locs wr_7 hP hS => ?_)
    rcases wr_7 with rfl
    · have hb7 : (bF m_tape ed pl) < 256 := bF_lt _ _ _
      refine eWvP (va_runV (As := [.int (nI (bF m_tape ed pl))]) (rest := []) ⟨hx, hb, hml, hown, hts⟩ (c_X12_puts l D cI cB cZ cJ tx h q i_4 pl sp m_stack (nI (bF m_tape ed pl)) hi_4_25 hi_4_19 (lf_X12_opens_t_8 h q im pl ed sp on m_tape m_stack hf_sp hf_pl hf_ed hf_on hf_b0 hed hpl hsp hon c_1 n_2 i_4 hsb hb7) H.size) (zV hts k_1658 v_X12_puts ⟨Nat.le_of_ble_eq_true rfl, Nat.le_of_ble_eq_true rfl⟩) (pV (pxS hK hP hD [0, 2] (by decide) rfl) hK hP 0 rfl rfl) rfl rfl hl.1 rfl (lv_room (Nat.le_of_ble_eq_true rfl)) dX12_opens_33 ⟨Nat.le_of_ble_eq_true rfl, Nat.le_of_ble_eq_true rfl⟩) hP hD hS hA [0, 2] [some 0, none, some 1] rfl (by decide +kernel) (fun _ => rfl) (fun u_10 H locs wr_9 hP hD hS => ?_)
      obtain ⟨im_10, sp_10, pl_10, m_stack_10⟩ := u_10
      have hz_10_0 : SB [19, 25] i_4 im_10 := wr_9.1
      have hz_10_1 : im_10 25 = nI sp_10 := wr_9.2.1
      have hz_10_2 : im_10 19 = nI pl_10 := wr_9.2.2.1
      have hz_10_3 : sp_10 = sp + 1 := wr_9.2.2.2.1
      have hz_10_4 : pl_10 = pl + 1 := wr_9.2.2.2.2.1
      have hz_10_5 : m_stack_10 = upd m_stack sp (nI (bF m_tape ed pl)) := wr_9.2.2.2.2.2
      have hk_10_20 : im_10 20 = nI ed := (hz_10_0 20 (by decide)).trans hi_4_20
      have hk_10_21 : im_10 21 = 0 := (hz_10_0 21 (by decide)).trans hi_4_21
      have hk_10_24 : im_10 24 = nI (on + 1) := (hz_10_0 24 (by decide)).trans hi_4_24
      have hsb := SB.step hsb hz_10_0 (by decide)
      have hPD := pd_mk (ws := [(h, .inr (12, mG q im_10)), (q 0, .inl (cB, 220, .inl m_tape)), (q 28, .inl (cI, 240, .inl m_stack_10))]) hP hD
      have hP := hPD.1
      have hD := hPD.2
      rw [hQ]
      exact W.vret hx hb hr (fun tt9 ht hW => ⟨⟨((im_10 : Nat → Int32), (sp_10 : Nat), (pl_10 : Nat), ((on + 1) : Nat), (0 : Int32), (m_stack_10 : Nat → Int32)), rfl, (lf_X12_opens_t_11 h q im pl ed sp on m_tape m_stack hf_sp hf_pl hf_ed hf_on hf_b0 hed hpl hsp hon c_1 n_2 i_4 hb7 im_10 sp_10 pl_10 m_stack_10 hz_10_0 hz_10_1 hz_10_2 hz_10_3 hz_10_4 hz_10_5 hsb hk_10_20 hk_10_21 hk_10_24), ⟨by rw [ht]; exact hP, hD⟩⟩, hS.F ht⟩) hS.2.2 dX12_opens_36 hlocks
  · have n_12 : on = 6 := (lf_X12_opens_t_13 h q im pl ed sp on m_tape m_stack hf_sp hf_pl hf_ed hf_on hf_b0 hed hpl hsp hon hsb c_1)
    refine lv_aload_n hx hb dX12_opens_9 rfl (lv_at hl 0 rfl) ?_
    refine lv_iconst (v := 5) hx hb dX12_opens_10 (by decide) ?_
    refine lv_aload_n hx hb dX12_opens_11 rfl (lv_at hl 0 rfl) ?_
    refine va_get (D := D) (ci := 12) (v := .int (im 19)) (C := RX12) (T := TX12) (N := 81) hx hb hts inT_X12 hown hK.1 hP 0 rfl rfl 19 (by decide) (hts _ k_1372) (fun _ h9 => h9) rfl dX12_opens_12 ?_
    refine lv_topv (y := nI pl) hf_pl ?_
    refine eWvP (va_runV (As := [.int 5, .int (nI pl)]) (rest := []) ⟨hx, hb, hml, hown, hts⟩ (c_X12_wrongs_t l D cI cB cZ cJ tx h q im 5 pl hf_b0 (lf_X12_opens_t_14 h q im pl ed sp on m_tape m_stack hf_sp hf_pl hf_ed hf_on hf_b0 hed hpl hsp hon hsb c_1 n_12) (lf_X12_opens_t_15 h q im pl ed sp on m_tape m_stack hf_sp hf_pl hf_ed hf_on hf_b0 hed hpl hsp hon hsb c_1 n_12) (lf_X12_opens_t_16 h q im pl ed sp on m_tape m_stack hf_sp hf_pl hf_ed hf_on hf_b0 hed hpl hsp hon hsb c_1 n_12) H.size) (zV hts k_1642 v_X12_wrongs ⟨Nat.le_of_ble_eq_true rfl, Nat.le_of_ble_eq_true rfl⟩) (pV (pxS hK hP hD [0] (by decide) rfl) hK hP 0 rfl rfl) rfl rfl hl.1 rfl (lv_room (Nat.le_of_ble_eq_true rfl)) dX12_opens_15 ⟨Nat.le_of_ble_eq_true rfl, Nat.le_of_ble_eq_true rfl⟩) hP hD hS hA [0] [some 0, none, none] rfl (by decide +kernel) (fun _ => rfl) (fun u_18 H locs wr_17 hP hD hS => ?_)
    obtain ⟨im_18, bd_18⟩ := u_18
    have hz_18_0 : SB [21] im im_18 := wr_17.1
    have hz_18_1 : im_18 21 = bd_18 := wr_17.2.1
    have hz_18_2 : bd_18 < 0 := wr_17.2.2.1
    have hz_18_3 : ¬ bd_18 = 0 := wr_17.2.2.2.1
    have hz_18_4 : bd_18 = (-1000) * nI 5 - nI pl := wr_17.2.2.2.2
    have hk_18_25 : im_18 25 = nI sp := (hz_18_0 25 (by decide)).trans hf_sp
    have hk_18_19 : im_18 19 = nI pl := (hz_18_0 19 (by decide)).trans hf_pl
    have hk_18_20 : im_18 20 = nI ed := (hz_18_0 20 (by decide)).trans hf_ed
    have hk_18_24 : im_18 24 = nI on := (hz_18_0 24 (by decide)).trans hf_on
    have hsb := SB.step hsb hz_18_0 (by decide)
    have hPD := pd_mk (ws := [(h, .inr (12, mG q im_18)), (q 0, .inl (cB, 220, .inl m_tape)), (q 28, .inl (cI, 240, .inl m_stack))]) hP hD
    have hP := hPD.1
    have hD := hPD.2
    refine lv_aload_n hx hb dX12_opens_18 rfl (lv_at hl 0 rfl) ?_
    refine lv_dup hx hb dX12_opens_19 rfl ?_
    refine va_get (D := D) (ci := 12) (v := .int (im_18 24)) (C := RX12) (T := TX12) (N := 81) hx hb hts inT_X12 hown hK.1 hP 0 rfl rfl 24 (by decide) (hts _ k_1377) (fun _ h9 => h9) rfl dX12_opens_20 ?_
    refine lv_topv (y := nI on) hk_18_24 ?_
    refine lv_iconst (v := 1) hx hb dX12_opens_23 (by decide) ?_
    refine lv_iadd hx hb dX12_opens_24 ?_
    refine lv_topv (y := nI (on + 1)) (nI_add on 1) ?_
    refine va_put (D := D) (ci := 12) (v := .int (nI (on + 1))) (ty := .int) (C := RX12) (T := TX12) (N := 81) hx hb hts inT_X12 tyX12 tyX12_ok nmX12 hown hK.1 hP hD hS 0 rfl rfl 24 (by decide) (hts _ k_1377) (fun _ h9 => h9) rfl (by decide +kernel) rfl rfl (Nat.le_of_ble_eq_true rfl) dX12_opens_25 (fun H locs hP hD hS => ?_)
    obtain ⟨i_19, ei_19⟩ : ∃ z : Nat → Int32, z = upd im_18 24 (nI (on + 1)) := ⟨_, rfl⟩
    have hi_19_25 : i_19 25 = nI sp := by rw [ei_19]; exact hk_18_25
    have hi_19_19 : i_19 19 = nI pl := by rw [ei_19]; exact hk_18_19
    have hi_19_20 : i_19 20 = nI ed := by rw [ei_19]; exact hk_18_20
    have hi_19_21 : i_19 21 = bd_18 := by rw [ei_19]; exact hz_18_1
    have hi_19_24 : i_19 24 = nI (on + 1) := by rw [ei_19]; rfl
    have hsb := SB.put hsb ei_19 (by decide)
    have hP : va_P D vwCl [(h, .inr (12, mG q i_19)), (q 0, .inl (cB, 220, .inl m_tape)), (q 28, .inl (cI, 240, .inl m_stack))] H := by rw [ei_19, ← mG_24]; exact hP
    have hD : va_D A [(h, .inr (12, mG q i_19)), (q 0, .inl (cB, 220, .inl m_tape)), (q 28, .inl (cI, 240, .inl m_stack))] := by rw [ei_19, ← mG_24]; exact hD
    refine lv_aload_n hx hb dX12_opens_28 rfl (lv_at hl 0 rfl) ?_
    refine lv_aload_n hx hb dX12_opens_29 rfl (lv_at hl 0 rfl) ?_
    refine eRi (va_runV (As := []) (rest := [.ref h]) ⟨hx, hb, hml, hown, hts⟩ (c_X12_here_t l D cI cB cZ cJ tx h q i_19 pl ed m_tape hi_19_19 hi_19_20 (lf_X12_opens_t_20 h q im pl ed sp on m_tape m_stack hf_sp hf_pl hf_ed hf_on hf_b0 hed hpl hsp hon c_1 n_12 im_18 bd_18 hz_18_0 hz_18_1 hz_18_2 hz_18_3 hz_18_4 i_19 hsb) (lf_X12_opens_t_21 h q im pl ed sp on m_tape m_stack hf_sp hf_pl hf_ed hf_on hf_b0 hed hpl hsp hon c_1 n_12 im_18 bd_18 hz_18_0 hz_18_1 hz_18_2 hz_18_3 hz_18_4 i_19 hsb) H.size) (zV hts k_1635 v_X12_here ⟨Nat.le_of_ble_eq_true rfl, Nat.le_of_ble_eq_true rfl⟩) (pV (pxS hK hP hD [0, 1] (by decide) rfl) hK hP 0 rfl rfl) rfl rfl hl.1 rfl (lv_room (Nat.le_of_ble_eq_true rfl)) dX12_opens_30 ⟨Nat.le_of_ble_eq_true rfl, Nat.le_of_ble_eq_true rfl⟩) hP hS hA (fun r_22 H locs wr_22 hP hS => ?_)
    rcases wr_22 with rfl
    · have hb22 : (bF m_tape ed pl) < 256 := bF_lt _ _ _
      refine eWvP (va_runV (As := [.int (nI (bF m_tape ed pl))]) (rest := []) ⟨hx, hb, hml, hown, hts⟩ (c_X12_puts l D cI cB cZ cJ tx h q i_19 pl sp m_stack (nI (bF m_tape ed pl)) hi_19_25 hi_19_19 (lf_X12_opens_t_23 h q im pl ed sp on m_tape m_stack hf_sp hf_pl hf_ed hf_on hf_b0 hed hpl hsp hon c_1 n_12 im_18 bd_18 hz_18_0 hz_18_1 hz_18_2 hz_18_3 hz_18_4 i_19 hsb hb22) H.size) (zV hts k_1658 v_X12_puts ⟨Nat.le_of_ble_eq_true rfl, Nat.le_of_ble_eq_true rfl⟩) (pV (pxS hK hP hD [0, 2] (by decide) rfl) hK hP 0 rfl rfl) rfl rfl hl.1 rfl (lv_room (Nat.le_of_ble_eq_true rfl)) dX12_opens_33 ⟨Nat.le_of_ble_eq_true rfl, Nat.le_of_ble_eq_true rfl⟩) hP hD hS hA [0, 2] [some 0, none, some 1] rfl (by decide +kernel) (fun _ => rfl) (fun u_25 H locs wr_24 hP hD hS => ?_)
      obtain ⟨im_25, sp_25, pl_25, m_stack_25⟩ := u_25
      have hz_25_0 : SB [19, 25] i_19 im_25 := wr_24.1
      have hz_25_1 : im_25 25 = nI sp_25 := wr_24.2.1
      have hz_25_2 : im_25 19 = nI pl_25 := wr_24.2.2.1
      have hz_25_3 : sp_25 = sp + 1 := wr_24.2.2.2.1
      have hz_25_4 : pl_25 = pl + 1 := wr_24.2.2.2.2.1
      have hz_25_5 : m_stack_25 = upd m_stack sp (nI (bF m_tape ed pl)) := wr_24.2.2.2.2.2
      have hk_25_20 : im_25 20 = nI ed := (hz_25_0 20 (by decide)).trans hi_19_20
      have hk_25_21 : im_25 21 = bd_18 := (hz_25_0 21 (by decide)).trans hi_19_21
      have hk_25_24 : im_25 24 = nI (on + 1) := (hz_25_0 24 (by decide)).trans hi_19_24
      have hsb := SB.step hsb hz_25_0 (by decide)
      have hPD := pd_mk (ws := [(h, .inr (12, mG q im_25)), (q 0, .inl (cB, 220, .inl m_tape)), (q 28, .inl (cI, 240, .inl m_stack_25))]) hP hD
      have hP := hPD.1
      have hD := hPD.2
      rw [hQ]
      exact W.vret hx hb hr (fun tt9 ht hW => ⟨⟨((im_25 : Nat → Int32), (sp_25 : Nat), (pl_25 : Nat), ((on + 1) : Nat), (bd_18 : Int32), (m_stack_25 : Nat → Int32)), rfl, (lf_X12_opens_t_26 h q im pl ed sp on m_tape m_stack hf_sp hf_pl hf_ed hf_on hf_b0 hed hpl hsp hon c_1 n_12 im_18 bd_18 hz_18_0 hz_18_1 hz_18_2 hz_18_3 hz_18_4 i_19 hb22 im_25 sp_25 pl_25 m_stack_25 hz_25_0 hz_25_1 hz_25_2 hz_25_3 hz_25_4 hz_25_5 hsb hk_25_20 hk_25_21 hk_25_24), ⟨by rw [ht]; exact hP, hD⟩⟩, hS.F ht⟩) hS.2.2 dX12_opens_36 hlocks

theorem lf_X12_seesDigit_t_1 (h : Nat) (q : Nat → Nat) (im : Nat → Int32) (pl : Nat) (ed : Nat) (m_tape : Nat → Int32) (hf_pl : im 19 = nI pl) (hf_ed : im 20 = nI ed) (hed : ed ≤ 200) (hpl : pl ≤ 1000) : ed ≤ 200 := by
  first | assumption | omega | decide | rfl
theorem lf_X12_seesDigit_t_2 (h : Nat) (q : Nat → Nat) (im : Nat → Int32) (pl : Nat) (ed : Nat) (m_tape : Nat → Int32) (hf_pl : im 19 = nI pl) (hf_ed : im 20 = nI ed) (hed : ed ≤ 200) (hpl : pl ≤ 1000) : pl ≤ 1000 := by
  first | assumption | omega | decide | rfl
theorem lf_X12_seesDigit_t_5 (h : Nat) (q : Nat → Nat) (im : Nat → Int32) (pl : Nat) (ed : Nat) (m_tape : Nat → Int32) (hf_pl : im 19 = nI pl) (hf_ed : im 20 = nI ed) (hed : ed ≤ 200) (hpl : pl ≤ 1000) (hb3 : (bF m_tape ed pl) < 256) : (bi ((48 : Int32) ≤ nI (bF m_tape ed pl) ∧ nI (bF m_tape ed pl) ≤ 57) : Int32) = bi (dgP (bF m_tape ed pl)) := by
  exact dg_bi _ (bF_lt _ _ _)
set_option maxHeartbeats 4000000 in
set_option maxRecDepth 100000 in
theorem c_X12_seesDigit_t (l : Launch) (D : va_G) (cI cB cZ cJ : ClassId) (tx : List (ClassId × FieldType)) (h : Nat) (q : Nat → Nat) (im : Nat → Int32) (pl : Nat) (ed : Nat) (m_tape : Nat → Int32) (hf_pl : im 19 = nI pl) (hf_ed : im 20 = nI ed) (hed : ed ≤ 200) (hpl : pl ≤ 1000) : RdI l D cI cB cZ cJ tx yX12_seesDigit cX12_seesDigit 1 (some .boolean) 1 [.ref h] [(h, .inr (12, mG q im)), (q 0, .inl (cB, 220, .inl m_tape))] (fun r => r = bi (dgP (bF m_tape ed pl))) := by
  refine rdi_of2 (by decide) (Nat.le_of_ble_eq_true rfl) ?_
  intro p e s m below meth c A ls H locs hC hK hP hD hA hS hl
  obtain ⟨hx, hb, hr, hml, hown, hts, hlocks, hin⟩ := hC
  have hown : s.vm.findClass RX12 = some m.cls := hown
  have hl : lv_has ls 1 [(0, .ref h)] := hl
  refine W_gQ (fun Q hQ => ?_)
  refine lv_aload_n hx hb dX12_seesDigit_0 rfl (lv_at hl 0 rfl) ?_
  refine eRi (va_runV (As := []) (rest := []) ⟨hx, hb, hml, hown, hts⟩ (c_X12_here_t l D cI cB cZ cJ tx h q im pl ed m_tape hf_pl hf_ed (lf_X12_seesDigit_t_1 h q im pl ed m_tape hf_pl hf_ed hed hpl) (lf_X12_seesDigit_t_2 h q im pl ed m_tape hf_pl hf_ed hed hpl) H.size) (zV hts k_1635 v_X12_here ⟨Nat.le_of_ble_eq_true rfl, Nat.le_of_ble_eq_true rfl⟩) (pV (pxS hK hP hD [0, 1] (by decide) rfl) hK hP 0 rfl rfl) rfl rfl hl.1 rfl (lv_room (Nat.le_of_ble_eq_true rfl)) dX12_seesDigit_1 ⟨Nat.le_of_ble_eq_true rfl, Nat.le_of_ble_eq_true rfl⟩) hP hS hA (fun r_3 H locs wr_3 hP hS => ?_)
  rcases wr_3 with rfl
  · have hb3 : (bF m_tape ed pl) < 256 := bF_lt _ _ _
    refine lv_i2l (v := (nI (bF m_tape ed pl)).toInt64) hx hb dX12_seesDigit_4 rfl ?_
    refine lv_ldc2 (v := 48) hx hb hown (hts _ k_1666) dX12_seesDigit_5 ?_
    refine lv_ldc2 (v := 57) hx hb hown (hts _ k_1667) dX12_seesDigit_8 ?_
    refine eRi (va_runS (As := [.long ((nI (bF m_tape ed pl)).toInt64), .long 48, .long 57]) (rest := []) ⟨hx, hb, hml, hown, hts⟩ (c_X12_isIn l D cI cB cZ cJ tx ((nI (bF m_tape ed pl)).toInt64) 48 57 H.size) (zS hts k_1602 v_X12_isIn ⟨Nat.le_of_ble_eq_true rfl, Nat.le_of_ble_eq_true rfl⟩) (px0 hK) rfl rfl hl.1 rfl (lv_room (Nat.le_of_ble_eq_true rfl)) dX12_seesDigit_11 ⟨Nat.le_of_ble_eq_true rfl, Nat.le_of_ble_eq_true rfl⟩) hP hS hA (fun r_4 H locs wr_4 hP hS => ?_)
    have wr_4 : r_4 = bi ((48 : Int32) ≤ nI (bF m_tape ed pl) ∧ nI (bF m_tape ed pl) ≤ 57) := isIn32 (lo := 48) (hi := 57) (by decide) (by decide) wr_4
    subst wr_4
    rw [hQ]
    exact W.zret (v := bi ((48 : Int32) ≤ nI (bF m_tape ed pl) ∧ nI (bF m_tape ed pl) ≤ 57)) hx hb hr nb_bi (fun tt9 ht hW => ⟨⟨(bi ((48 : Int32) ≤ nI (bF m_tape ed pl) ∧ nI (bF m_tape ed pl) ≤ 57) : Int32), (), rfl, (lf_X12_seesDigit_t_5 h q im pl ed m_tape hf_pl hf_ed hed hpl hb3), trivial⟩, hS.F ht⟩) hS.2.2 dX12_seesDigit_14 hlocks

theorem rd_i1 {b : Nat → Nat} {pl pw vn v1 p1 : Nat} (h : nuP b 5 0 pl = nuP b (5 - (pw - pl)) vn pw ∧ pw ≤ pl + 5) (hd : dgP (b pw)) (hn : pw ≠ pl + 5) (h1 : pl ≤ pw) (ep : p1 = pw + 1) (ev : v1 = 10 * vn + b pw - 48 := by rfl) : (0 : Int32) = 0 → nuP b 5 0 pl = nuP b (5 - (p1 - pl)) v1 p1 ∧ p1 ≤ pl + 5 :=
  fun _ => ⟨rd_s h.1 (by omega) hd ev ep (by omega), by omega⟩
theorem rd_i2 {b : Nat → Nat} {pl pw vn : Nat} {x : Int32} (h : nuP b 5 0 pl = nuP b (5 - (pw - pl)) vn pw ∧ pw ≤ pl + 5) (hd : dgP (b pw)) (hn : pw = pl + 5) (h1 : pl ≤ pw) (e : x = (-1000) * nI 2 - nI pw) : ¬ x = 0 → ∃ q, nuP b 5 0 pl = .inl q ∧ x = (-1000) * nI 2 - nI q := by
  intro _
  refine ⟨pw, ?_, e⟩
  rw [h.1, show 5 - (pw - pl) = 0 by omega]
  exact if_pos hd
theorem rd_e0 {b : Nat → Nat} {pl pw : Nat} {x r : Int32} (h : ¬ x = 0 → ∃ q, nuP b 5 0 pl = .inl q ∧ x = (-1000) * nI 2 - nI q) (hx : ¬ x = 0) : RDQ b pl x r pw := ⟨fun q => absurd q hx, h⟩
theorem rd_e3 {b : Nat → Nat} {pl pw vn k : Nat} {x : Int32} (h : nuP b 5 0 pl = nuP b k vn pw ∧ pw ≤ pl + 5) (hx : x = 0) (hd : ¬ dgP (b pw)) : RDQ b pl x (nI vn) pw := ⟨fun _ => ⟨vn, rfl, h.1.trans (nu_e hd)⟩, fun q => absurd hx q⟩
theorem rd_f2 {b : Nat → Nat} {pl p1 : Nat} (hd : dgP (b pl)) (c : ¬ dgP (b p1)) (h : pl ≤ p1) : pl + 1 ≤ p1 := by
  by_cases q : p1 = pl
  · rw [q] at c
    exact absurd hd c
  · omega
theorem lf_X12_reads_t_2 (h : Nat) (q : Nat → Nat) (im : Nat → Int32) (pl : Nat) (ed : Nat) (m_tape : Nat → Int32) (hf_pl : im 19 = nI pl) (hf_ed : im 20 = nI ed) (hf_b0 : im 21 = 0) (hed : ed ≤ 200) (hdg : dgP (bF m_tape ed pl)) (vn : Nat) (im_7 : Nat → Int32) (pl_w : Nat) (bd_w : Int32) (k7 : Nat) (hk7 : ed - pl_w < k7 + 1) (hsb : SB [19, 21] im im_7) (hm7_19 : im_7 19 = nI pl_w) (hm7_20 : im_7 20 = nI ed) (hm7_21 : im_7 21 = bd_w) (h1w : pl ≤ pl_w) (h2w : pl_w ≤ ed) (h3w : pl_w = pl → bd_w = 0) (h4w : bd_w ≤ 0) (h5w : (bd_w = 0 → nuP (bF m_tape ed) 5 0 pl = nuP (bF m_tape ed) (5 - (pl_w - pl)) vn pl_w ∧ pl_w ≤ pl + 5)) (h6w : ¬ bd_w = 0 → ∃ q, nuP (bF m_tape ed) 5 0 pl = .inl q ∧ bd_w = (-1000) * nI 2 - nI q) (hb1 : ¬ bd_w = 0) : RDQ (bF m_tape ed) pl (bd_w : Int32) (nI vn : Int32) (pl_w : Nat) ∧ (SB [19, 21] im (im_7 : Nat → Int32)) ∧ ((im_7 : Nat → Int32) 19 = nI (pl_w : Nat)) ∧ ((im_7 : Nat → Int32) 21 = (bd_w : Int32)) ∧ (pl + 1 ≤ (pl_w : Nat)) ∧ ((pl_w : Nat) ≤ ed) ∧ ((bd_w : Int32) ≤ 0) := by
  refine ⟨?_, ?_⟩
  · first | exact rd_e0 h6w (by assumption) | exact rd_e3 (h5w (by assumption)) (by first | assumption | rfl) (by assumption)
  · repeat' apply And.intro
    all_goals first | assumption | omega | exact Int32.le_refl _ | exact Int32.le_of_lt (by assumption) | (show (_ : Int32) = _; exact Eq.trans (by assumption) (by assumption)) | exact rd_e1 h3w (by assumption) h1w | exact rd_f2 hdg (by assumption) h1w | exact hm7_21.trans hb1
theorem lf_X12_reads_t_3 (h : Nat) (q : Nat → Nat) (im : Nat → Int32) (pl : Nat) (ed : Nat) (m_tape : Nat → Int32) (hf_pl : im 19 = nI pl) (hf_ed : im 20 = nI ed) (hf_b0 : im 21 = 0) (hed : ed ≤ 200) (hdg : dgP (bF m_tape ed pl)) (vn : Nat) (im_7 : Nat → Int32) (pl_w : Nat) (bd_w : Int32) (k7 : Nat) (hk7 : ed - pl_w < k7 + 1) (hsb : SB [19, 21] im im_7) (hm7_19 : im_7 19 = nI pl_w) (hm7_20 : im_7 20 = nI ed) (hm7_21 : im_7 21 = bd_w) (h1w : pl ≤ pl_w) (h2w : pl_w ≤ ed) (h3w : pl_w = pl → bd_w = 0) (h4w : bd_w ≤ 0) (h5w : (bd_w = 0 → nuP (bF m_tape ed) 5 0 pl = nuP (bF m_tape ed) (5 - (pl_w - pl)) vn pl_w ∧ pl_w ≤ pl + 5)) (h6w : ¬ bd_w = 0 → ∃ q, nuP (bF m_tape ed) 5 0 pl = .inl q ∧ bd_w = (-1000) * nI 2 - nI q) (hb1 : bd_w = 0) : ed ≤ 200 := by
  first | assumption | omega | decide | (have q := (by assumption : dgP (bF m_tape ed _)); have q2 := bF_in (tp := m_tape) (ed := ed) (Nat.ne_of_gt (Nat.lt_of_lt_of_le (by decide) q.1)); omega)
theorem lf_X12_reads_t_4 (h : Nat) (q : Nat → Nat) (im : Nat → Int32) (pl : Nat) (ed : Nat) (m_tape : Nat → Int32) (hf_pl : im 19 = nI pl) (hf_ed : im 20 = nI ed) (hf_b0 : im 21 = 0) (hed : ed ≤ 200) (hdg : dgP (bF m_tape ed pl)) (vn : Nat) (im_7 : Nat → Int32) (pl_w : Nat) (bd_w : Int32) (k7 : Nat) (hk7 : ed - pl_w < k7 + 1) (hsb : SB [19, 21] im im_7) (hm7_19 : im_7 19 = nI pl_w) (hm7_20 : im_7 20 = nI ed) (hm7_21 : im_7 21 = bd_w) (h1w : pl ≤ pl_w) (h2w : pl_w ≤ ed) (h3w : pl_w = pl → bd_w = 0) (h4w : bd_w ≤ 0) (h5w : (bd_w = 0 → nuP (bF m_tape ed) 5 0 pl = nuP (bF m_tape ed) (5 - (pl_w - pl)) vn pl_w ∧ pl_w ≤ pl + 5)) (h6w : ¬ bd_w = 0 → ∃ q, nuP (bF m_tape ed) 5 0 pl = .inl q ∧ bd_w = (-1000) * nI 2 - nI q) (hb1 : bd_w = 0) : pl_w ≤ 1000 := by
  first | assumption | omega | decide | (have q := (by assumption : dgP (bF m_tape ed _)); have q2 := bF_in (tp := m_tape) (ed := ed) (Nat.ne_of_gt (Nat.lt_of_lt_of_le (by decide) q.1)); omega)
theorem lf_X12_reads_t_7 (h : Nat) (q : Nat → Nat) (im : Nat → Int32) (pl : Nat) (ed : Nat) (m_tape : Nat → Int32) (hf_pl : im 19 = nI pl) (hf_ed : im 20 = nI ed) (hf_b0 : im 21 = 0) (hed : ed ≤ 200) (hdg : dgP (bF m_tape ed pl)) (vn : Nat) (im_7 : Nat → Int32) (pl_w : Nat) (bd_w : Int32) (k7 : Nat) (hk7 : ed - pl_w < k7 + 1) (hsb : SB [19, 21] im im_7) (hm7_19 : im_7 19 = nI pl_w) (hm7_20 : im_7 20 = nI ed) (hm7_21 : im_7 21 = bd_w) (h1w : pl ≤ pl_w) (h2w : pl_w ≤ ed) (h3w : pl_w = pl → bd_w = 0) (h4w : bd_w ≤ 0) (h5w : (bd_w = 0 → nuP (bF m_tape ed) 5 0 pl = nuP (bF m_tape ed) (5 - (pl_w - pl)) vn pl_w ∧ pl_w ≤ pl + 5)) (h6w : ¬ bd_w = 0 → ∃ q, nuP (bF m_tape ed) 5 0 pl = .inl q ∧ bd_w = (-1000) * nI 2 - nI q) (hb1 : bd_w = 0) (c_6 : ¬ (dgP (bF m_tape ed pl_w))) : RDQ (bF m_tape ed) pl (0 : Int32) (nI vn : Int32) (pl_w : Nat) ∧ (SB [19, 21] im (im_7 : Nat → Int32)) ∧ ((im_7 : Nat → Int32) 19 = nI (pl_w : Nat)) ∧ ((im_7 : Nat → Int32) 21 = (0 : Int32)) ∧ (pl + 1 ≤ (pl_w : Nat)) ∧ ((pl_w : Nat) ≤ ed) ∧ ((0 : Int32) ≤ 0) := by
  refine ⟨?_, ?_⟩
  · first | exact rd_e0 h6w (by assumption) | exact rd_e3 (h5w (by assumption)) (by first | assumption | rfl) (by assumption)
  · repeat' apply And.intro
    all_goals first | assumption | omega | exact Int32.le_refl _ | exact Int32.le_of_lt (by assumption) | (show (_ : Int32) = _; exact Eq.trans (by assumption) (by assumption)) | exact rd_e1 h3w (by assumption) h1w | exact rd_f2 hdg (by assumption) h1w | exact hm7_21.trans hb1
theorem lf_X12_reads_t_10 (h : Nat) (q : Nat → Nat) (im : Nat → Int32) (pl : Nat) (ed : Nat) (m_tape : Nat → Int32) (hf_pl : im 19 = nI pl) (hf_ed : im 20 = nI ed) (hf_b0 : im 21 = 0) (hed : ed ≤ 200) (hdg : dgP (bF m_tape ed pl)) (vn : Nat) (im_7 : Nat → Int32) (pl_w : Nat) (bd_w : Int32) (k7 : Nat) (hk7 : ed - pl_w < k7 + 1) (hsb : SB [19, 21] im im_7) (hm7_19 : im_7 19 = nI pl_w) (hm7_20 : im_7 20 = nI ed) (hm7_21 : im_7 21 = bd_w) (h1w : pl ≤ pl_w) (h2w : pl_w ≤ ed) (h3w : pl_w = pl → bd_w = 0) (h4w : bd_w ≤ 0) (h5w : (bd_w = 0 → nuP (bF m_tape ed) 5 0 pl = nuP (bF m_tape ed) (5 - (pl_w - pl)) vn pl_w ∧ pl_w ≤ pl + 5)) (h6w : ¬ bd_w = 0 → ∃ q, nuP (bF m_tape ed) 5 0 pl = .inl q ∧ bd_w = (-1000) * nI 2 - nI q) (hb1 : bd_w = 0) (c_6 : dgP (bF m_tape ed pl_w)) (c_8 : ¬ nI pl_w = nI (pl + 5)) : pl_w ≠ (pl + 5) := by
  exact fun q => c_8 ((nI_eq (a := pl_w) (b := (pl + 5)) (by omega) (by omega)).mpr q)
theorem lf_X12_reads_t_11 (h : Nat) (q : Nat → Nat) (im : Nat → Int32) (pl : Nat) (ed : Nat) (m_tape : Nat → Int32) (hf_pl : im 19 = nI pl) (hf_ed : im 20 = nI ed) (hf_b0 : im 21 = 0) (hed : ed ≤ 200) (hdg : dgP (bF m_tape ed pl)) (vn : Nat) (im_7 : Nat → Int32) (pl_w : Nat) (bd_w : Int32) (k7 : Nat) (hk7 : ed - pl_w < k7 + 1) (hsb : SB [19, 21] im im_7) (hm7_19 : im_7 19 = nI pl_w) (hm7_20 : im_7 20 = nI ed) (hm7_21 : im_7 21 = bd_w) (h1w : pl ≤ pl_w) (h2w : pl_w ≤ ed) (h3w : pl_w = pl → bd_w = 0) (h4w : bd_w ≤ 0) (h5w : (bd_w = 0 → nuP (bF m_tape ed) 5 0 pl = nuP (bF m_tape ed) (5 - (pl_w - pl)) vn pl_w ∧ pl_w ≤ pl + 5)) (h6w : ¬ bd_w = 0 → ∃ q, nuP (bF m_tape ed) 5 0 pl = .inl q ∧ bd_w = (-1000) * nI 2 - nI q) (hb1 : bd_w = 0) (c_6 : dgP (bF m_tape ed pl_w)) (c_8 : ¬ nI pl_w = nI (pl + 5)) (n_9 : pl_w ≠ (pl + 5)) : ed ≤ 200 := by
  first | assumption | omega | decide | (have q := (by assumption : dgP (bF m_tape ed _)); have q2 := bF_in (tp := m_tape) (ed := ed) (Nat.ne_of_gt (Nat.lt_of_lt_of_le (by decide) q.1)); omega)
theorem lf_X12_reads_t_12 (h : Nat) (q : Nat → Nat) (im : Nat → Int32) (pl : Nat) (ed : Nat) (m_tape : Nat → Int32) (hf_pl : im 19 = nI pl) (hf_ed : im 20 = nI ed) (hf_b0 : im 21 = 0) (hed : ed ≤ 200) (hdg : dgP (bF m_tape ed pl)) (vn : Nat) (im_7 : Nat → Int32) (pl_w : Nat) (bd_w : Int32) (k7 : Nat) (hk7 : ed - pl_w < k7 + 1) (hsb : SB [19, 21] im im_7) (hm7_19 : im_7 19 = nI pl_w) (hm7_20 : im_7 20 = nI ed) (hm7_21 : im_7 21 = bd_w) (h1w : pl ≤ pl_w) (h2w : pl_w ≤ ed) (h3w : pl_w = pl → bd_w = 0) (h4w : bd_w ≤ 0) (h5w : (bd_w = 0 → nuP (bF m_tape ed) 5 0 pl = nuP (bF m_tape ed) (5 - (pl_w - pl)) vn pl_w ∧ pl_w ≤ pl + 5)) (h6w : ¬ bd_w = 0 → ∃ q, nuP (bF m_tape ed) 5 0 pl = .inl q ∧ bd_w = (-1000) * nI 2 - nI q) (hb1 : bd_w = 0) (c_6 : dgP (bF m_tape ed pl_w)) (c_8 : ¬ nI pl_w = nI (pl + 5)) (n_9 : pl_w ≠ (pl + 5)) : pl_w ≤ 1000 := by
  first | assumption | omega | decide | (have q := (by assumption : dgP (bF m_tape ed _)); have q2 := bF_in (tp := m_tape) (ed := ed) (Nat.ne_of_gt (Nat.lt_of_lt_of_le (by decide) q.1)); omega)
theorem lf_X12_reads_t_14 (h : Nat) (q : Nat → Nat) (im : Nat → Int32) (pl : Nat) (ed : Nat) (m_tape : Nat → Int32) (hf_pl : im 19 = nI pl) (hf_ed : im 20 = nI ed) (hf_b0 : im 21 = 0) (hed : ed ≤ 200) (hdg : dgP (bF m_tape ed pl)) (vn : Nat) (im_7 : Nat → Int32) (pl_w : Nat) (bd_w : Int32) (k7 : Nat) (hk7 : ed - pl_w < k7 + 1) (hsb : SB [19, 21] im im_7) (hm7_19 : im_7 19 = nI pl_w) (hm7_20 : im_7 20 = nI ed) (hm7_21 : im_7 21 = bd_w) (h1w : pl ≤ pl_w) (h2w : pl_w ≤ ed) (h3w : pl_w = pl → bd_w = 0) (h4w : bd_w ≤ 0) (h5w : (bd_w = 0 → nuP (bF m_tape ed) 5 0 pl = nuP (bF m_tape ed) (5 - (pl_w - pl)) vn pl_w ∧ pl_w ≤ pl + 5)) (h6w : ¬ bd_w = 0 → ∃ q, nuP (bF m_tape ed) 5 0 pl = .inl q ∧ bd_w = (-1000) * nI 2 - nI q) (hb1 : bd_w = 0) (c_6 : dgP (bF m_tape ed pl_w)) (c_8 : ¬ nI pl_w = nI (pl + 5)) (n_9 : pl_w ≠ (pl + 5)) (hb13 : (bF m_tape ed pl_w) < 256) : 48 ≤ ((10 * vn) + (bF m_tape ed pl_w)) := by
  (have q := (by assumption : dgP (bF m_tape ed pl_w)); omega)
theorem lf_X12_reads_t_16 (h : Nat) (q : Nat → Nat) (im : Nat → Int32) (pl : Nat) (ed : Nat) (m_tape : Nat → Int32) (hf_pl : im 19 = nI pl) (hf_ed : im 20 = nI ed) (hf_b0 : im 21 = 0) (hed : ed ≤ 200) (hdg : dgP (bF m_tape ed pl)) (vn : Nat) (im_7 : Nat → Int32) (pl_w : Nat) (bd_w : Int32) (k7 : Nat) (hk7 : ed - pl_w < k7 + 1) (hm7_19 : im_7 19 = nI pl_w) (hm7_20 : im_7 20 = nI ed) (hm7_21 : im_7 21 = bd_w) (h1w : pl ≤ pl_w) (h2w : pl_w ≤ ed) (h3w : pl_w = pl → bd_w = 0) (h4w : bd_w ≤ 0) (h5w : (bd_w = 0 → nuP (bF m_tape ed) 5 0 pl = nuP (bF m_tape ed) (5 - (pl_w - pl)) vn pl_w ∧ pl_w ≤ pl + 5)) (h6w : ¬ bd_w = 0 → ∃ q, nuP (bF m_tape ed) 5 0 pl = .inl q ∧ bd_w = (-1000) * nI 2 - nI q) (hb1 : bd_w = 0) (c_6 : dgP (bF m_tape ed pl_w)) (c_8 : ¬ nI pl_w = nI (pl + 5)) (n_9 : pl_w ≠ (pl + 5)) (hb13 : (bF m_tape ed pl_w) < 256) (i_15 : Nat → Int32) (hsb : SB [19, 21] im i_15) : pl ≤ ((pl_w + 1)) := by
  first | omega | assumption | exact Int32.le_refl _ | exact Int32.le_of_lt (by assumption) | (show (_ : Int32) = _; exact Eq.trans (by assumption) (by assumption)) | exact fun _ => rfl | (have q := (by assumption : dgP (bF m_tape ed _)); have q2 := bF_in (tp := m_tape) (ed := ed) (Nat.ne_of_gt (Nat.lt_of_lt_of_le (by decide) q.1)); omega) | exact fun q => absurd q (by omega) | exact fun _ => ⟨by rw [Nat.sub_self], by omega⟩ | exact fun q => absurd rfl q | exact fun q => absurd q (by assumption) | exact rd_i1 (h5w (by assumption)) (by assumption) (by assumption) h1w rfl | exact rd_i2 (h5w (by assumption)) (by assumption) (by assumption) h1w (by assumption)
theorem lf_X12_reads_t_17 (h : Nat) (q : Nat → Nat) (im : Nat → Int32) (pl : Nat) (ed : Nat) (m_tape : Nat → Int32) (hf_pl : im 19 = nI pl) (hf_ed : im 20 = nI ed) (hf_b0 : im 21 = 0) (hed : ed ≤ 200) (hdg : dgP (bF m_tape ed pl)) (vn : Nat) (im_7 : Nat → Int32) (pl_w : Nat) (bd_w : Int32) (k7 : Nat) (hk7 : ed - pl_w < k7 + 1) (hm7_19 : im_7 19 = nI pl_w) (hm7_20 : im_7 20 = nI ed) (hm7_21 : im_7 21 = bd_w) (h1w : pl ≤ pl_w) (h2w : pl_w ≤ ed) (h3w : pl_w = pl → bd_w = 0) (h4w : bd_w ≤ 0) (h5w : (bd_w = 0 → nuP (bF m_tape ed) 5 0 pl = nuP (bF m_tape ed) (5 - (pl_w - pl)) vn pl_w ∧ pl_w ≤ pl + 5)) (h6w : ¬ bd_w = 0 → ∃ q, nuP (bF m_tape ed) 5 0 pl = .inl q ∧ bd_w = (-1000) * nI 2 - nI q) (hb1 : bd_w = 0) (c_6 : dgP (bF m_tape ed pl_w)) (c_8 : ¬ nI pl_w = nI (pl + 5)) (n_9 : pl_w ≠ (pl + 5)) (hb13 : (bF m_tape ed pl_w) < 256) (i_15 : Nat → Int32) (hsb : SB [19, 21] im i_15) : ((pl_w + 1)) ≤ ed := by
  first | omega | assumption | exact Int32.le_refl _ | exact Int32.le_of_lt (by assumption) | (show (_ : Int32) = _; exact Eq.trans (by assumption) (by assumption)) | exact fun _ => rfl | (have q := (by assumption : dgP (bF m_tape ed _)); have q2 := bF_in (tp := m_tape) (ed := ed) (Nat.ne_of_gt (Nat.lt_of_lt_of_le (by decide) q.1)); omega) | exact fun q => absurd q (by omega) | exact fun _ => ⟨by rw [Nat.sub_self], by omega⟩ | exact fun q => absurd rfl q | exact fun q => absurd q (by assumption) | exact rd_i1 (h5w (by assumption)) (by assumption) (by assumption) h1w rfl | exact rd_i2 (h5w (by assumption)) (by assumption) (by assumption) h1w (by assumption)
theorem lf_X12_reads_t_18 (h : Nat) (q : Nat → Nat) (im : Nat → Int32) (pl : Nat) (ed : Nat) (m_tape : Nat → Int32) (hf_pl : im 19 = nI pl) (hf_ed : im 20 = nI ed) (hf_b0 : im 21 = 0) (hed : ed ≤ 200) (hdg : dgP (bF m_tape ed pl)) (vn : Nat) (im_7 : Nat → Int32) (pl_w : Nat) (bd_w : Int32) (k7 : Nat) (hk7 : ed - pl_w < k7 + 1) (hm7_19 : im_7 19 = nI pl_w) (hm7_20 : im_7 20 = nI ed) (hm7_21 : im_7 21 = bd_w) (h1w : pl ≤ pl_w) (h2w : pl_w ≤ ed) (h3w : pl_w = pl → bd_w = 0) (h4w : bd_w ≤ 0) (h5w : (bd_w = 0 → nuP (bF m_tape ed) 5 0 pl = nuP (bF m_tape ed) (5 - (pl_w - pl)) vn pl_w ∧ pl_w ≤ pl + 5)) (h6w : ¬ bd_w = 0 → ∃ q, nuP (bF m_tape ed) 5 0 pl = .inl q ∧ bd_w = (-1000) * nI 2 - nI q) (hb1 : bd_w = 0) (c_6 : dgP (bF m_tape ed pl_w)) (c_8 : ¬ nI pl_w = nI (pl + 5)) (n_9 : pl_w ≠ (pl + 5)) (hb13 : (bF m_tape ed pl_w) < 256) (i_15 : Nat → Int32) (hsb : SB [19, 21] im i_15) : ((pl_w + 1)) = pl → (0 : Int32) = 0 := by
  first | omega | assumption | exact Int32.le_refl _ | exact Int32.le_of_lt (by assumption) | (show (_ : Int32) = _; exact Eq.trans (by assumption) (by assumption)) | exact fun _ => rfl | (have q := (by assumption : dgP (bF m_tape ed _)); have q2 := bF_in (tp := m_tape) (ed := ed) (Nat.ne_of_gt (Nat.lt_of_lt_of_le (by decide) q.1)); omega) | exact fun q => absurd q (by omega) | exact fun _ => ⟨by rw [Nat.sub_self], by omega⟩ | exact fun q => absurd rfl q | exact fun q => absurd q (by assumption) | exact rd_i1 (h5w (by assumption)) (by assumption) (by assumption) h1w rfl | exact rd_i2 (h5w (by assumption)) (by assumption) (by assumption) h1w (by assumption)
theorem lf_X12_reads_t_19 (h : Nat) (q : Nat → Nat) (im : Nat → Int32) (pl : Nat) (ed : Nat) (m_tape : Nat → Int32) (hf_pl : im 19 = nI pl) (hf_ed : im 20 = nI ed) (hf_b0 : im 21 = 0) (hed : ed ≤ 200) (hdg : dgP (bF m_tape ed pl)) (vn : Nat) (im_7 : Nat → Int32) (pl_w : Nat) (bd_w : Int32) (k7 : Nat) (hk7 : ed - pl_w < k7 + 1) (hm7_19 : im_7 19 = nI pl_w) (hm7_20 : im_7 20 = nI ed) (hm7_21 : im_7 21 = bd_w) (h1w : pl ≤ pl_w) (h2w : pl_w ≤ ed) (h3w : pl_w = pl → bd_w = 0) (h4w : bd_w ≤ 0) (h5w : (bd_w = 0 → nuP (bF m_tape ed) 5 0 pl = nuP (bF m_tape ed) (5 - (pl_w - pl)) vn pl_w ∧ pl_w ≤ pl + 5)) (h6w : ¬ bd_w = 0 → ∃ q, nuP (bF m_tape ed) 5 0 pl = .inl q ∧ bd_w = (-1000) * nI 2 - nI q) (hb1 : bd_w = 0) (c_6 : dgP (bF m_tape ed pl_w)) (c_8 : ¬ nI pl_w = nI (pl + 5)) (n_9 : pl_w ≠ (pl + 5)) (hb13 : (bF m_tape ed pl_w) < 256) (i_15 : Nat → Int32) (hsb : SB [19, 21] im i_15) : (0 : Int32) ≤ 0 := by
  first | omega | assumption | exact Int32.le_refl _ | exact Int32.le_of_lt (by assumption) | (show (_ : Int32) = _; exact Eq.trans (by assumption) (by assumption)) | exact fun _ => rfl | (have q := (by assumption : dgP (bF m_tape ed _)); have q2 := bF_in (tp := m_tape) (ed := ed) (Nat.ne_of_gt (Nat.lt_of_lt_of_le (by decide) q.1)); omega) | exact fun q => absurd q (by omega) | exact fun _ => ⟨by rw [Nat.sub_self], by omega⟩ | exact fun q => absurd rfl q | exact fun q => absurd q (by assumption) | exact rd_i1 (h5w (by assumption)) (by assumption) (by assumption) h1w rfl | exact rd_i2 (h5w (by assumption)) (by assumption) (by assumption) h1w (by assumption)
theorem lf_X12_reads_t_20 (h : Nat) (q : Nat → Nat) (im : Nat → Int32) (pl : Nat) (ed : Nat) (m_tape : Nat → Int32) (hf_pl : im 19 = nI pl) (hf_ed : im 20 = nI ed) (hf_b0 : im 21 = 0) (hed : ed ≤ 200) (hdg : dgP (bF m_tape ed pl)) (vn : Nat) (im_7 : Nat → Int32) (pl_w : Nat) (bd_w : Int32) (k7 : Nat) (hk7 : ed - pl_w < k7 + 1) (hm7_19 : im_7 19 = nI pl_w) (hm7_20 : im_7 20 = nI ed) (hm7_21 : im_7 21 = bd_w) (h1w : pl ≤ pl_w) (h2w : pl_w ≤ ed) (h3w : pl_w = pl → bd_w = 0) (h4w : bd_w ≤ 0) (h5w : (bd_w = 0 → nuP (bF m_tape ed) 5 0 pl = nuP (bF m_tape ed) (5 - (pl_w - pl)) vn pl_w ∧ pl_w ≤ pl + 5)) (h6w : ¬ bd_w = 0 → ∃ q, nuP (bF m_tape ed) 5 0 pl = .inl q ∧ bd_w = (-1000) * nI 2 - nI q) (hb1 : bd_w = 0) (c_6 : dgP (bF m_tape ed pl_w)) (c_8 : ¬ nI pl_w = nI (pl + 5)) (n_9 : pl_w ≠ (pl + 5)) (hb13 : (bF m_tape ed pl_w) < 256) (i_15 : Nat → Int32) (hsb : SB [19, 21] im i_15) : ((0 : Int32) = 0 → nuP (bF m_tape ed) 5 0 pl = nuP (bF m_tape ed) (5 - (((pl_w + 1)) - pl)) ((((10 * vn) + (bF m_tape ed pl_w)) - 48)) ((pl_w + 1)) ∧ ((pl_w + 1)) ≤ pl + 5) := by
  first | omega | assumption | exact Int32.le_refl _ | exact Int32.le_of_lt (by assumption) | (show (_ : Int32) = _; exact Eq.trans (by assumption) (by assumption)) | exact fun _ => rfl | (have q := (by assumption : dgP (bF m_tape ed _)); have q2 := bF_in (tp := m_tape) (ed := ed) (Nat.ne_of_gt (Nat.lt_of_lt_of_le (by decide) q.1)); omega) | exact fun q => absurd q (by omega) | exact fun _ => ⟨by rw [Nat.sub_self], by omega⟩ | exact fun q => absurd rfl q | exact fun q => absurd q (by assumption) | exact rd_i1 (h5w (by assumption)) (by assumption) (by assumption) h1w rfl | exact rd_i2 (h5w (by assumption)) (by assumption) (by assumption) h1w (by assumption)
theorem lf_X12_reads_t_21 (h : Nat) (q : Nat → Nat) (im : Nat → Int32) (pl : Nat) (ed : Nat) (m_tape : Nat → Int32) (hf_pl : im 19 = nI pl) (hf_ed : im 20 = nI ed) (hf_b0 : im 21 = 0) (hed : ed ≤ 200) (hdg : dgP (bF m_tape ed pl)) (vn : Nat) (im_7 : Nat → Int32) (pl_w : Nat) (bd_w : Int32) (k7 : Nat) (hk7 : ed - pl_w < k7 + 1) (hm7_19 : im_7 19 = nI pl_w) (hm7_20 : im_7 20 = nI ed) (hm7_21 : im_7 21 = bd_w) (h1w : pl ≤ pl_w) (h2w : pl_w ≤ ed) (h3w : pl_w = pl → bd_w = 0) (h4w : bd_w ≤ 0) (h5w : (bd_w = 0 → nuP (bF m_tape ed) 5 0 pl = nuP (bF m_tape ed) (5 - (pl_w - pl)) vn pl_w ∧ pl_w ≤ pl + 5)) (h6w : ¬ bd_w = 0 → ∃ q, nuP (bF m_tape ed) 5 0 pl = .inl q ∧ bd_w = (-1000) * nI 2 - nI q) (hb1 : bd_w = 0) (c_6 : dgP (bF m_tape ed pl_w)) (c_8 : ¬ nI pl_w = nI (pl + 5)) (n_9 : pl_w ≠ (pl + 5)) (hb13 : (bF m_tape ed pl_w) < 256) (i_15 : Nat → Int32) (hsb : SB [19, 21] im i_15) : ¬ (0 : Int32) = 0 → ∃ q, nuP (bF m_tape ed) 5 0 pl = .inl q ∧ (0 : Int32) = (-1000) * nI 2 - nI q := by
  first | omega | assumption | exact Int32.le_refl _ | exact Int32.le_of_lt (by assumption) | (show (_ : Int32) = _; exact Eq.trans (by assumption) (by assumption)) | exact fun _ => rfl | (have q := (by assumption : dgP (bF m_tape ed _)); have q2 := bF_in (tp := m_tape) (ed := ed) (Nat.ne_of_gt (Nat.lt_of_lt_of_le (by decide) q.1)); omega) | exact fun q => absurd q (by omega) | exact fun _ => ⟨by rw [Nat.sub_self], by omega⟩ | exact fun q => absurd rfl q | exact fun q => absurd q (by assumption) | exact rd_i1 (h5w (by assumption)) (by assumption) (by assumption) h1w rfl | exact rd_i2 (h5w (by assumption)) (by assumption) (by assumption) h1w (by assumption)
theorem lf_X12_reads_t_22 (h : Nat) (q : Nat → Nat) (im : Nat → Int32) (pl : Nat) (ed : Nat) (m_tape : Nat → Int32) (hf_pl : im 19 = nI pl) (hf_ed : im 20 = nI ed) (hf_b0 : im 21 = 0) (hed : ed ≤ 200) (hdg : dgP (bF m_tape ed pl)) (vn : Nat) (im_7 : Nat → Int32) (pl_w : Nat) (bd_w : Int32) (k7 : Nat) (hk7 : ed - pl_w < k7 + 1) (hm7_19 : im_7 19 = nI pl_w) (hm7_20 : im_7 20 = nI ed) (hm7_21 : im_7 21 = bd_w) (h1w : pl ≤ pl_w) (h2w : pl_w ≤ ed) (h3w : pl_w = pl → bd_w = 0) (h4w : bd_w ≤ 0) (h5w : (bd_w = 0 → nuP (bF m_tape ed) 5 0 pl = nuP (bF m_tape ed) (5 - (pl_w - pl)) vn pl_w ∧ pl_w ≤ pl + 5)) (h6w : ¬ bd_w = 0 → ∃ q, nuP (bF m_tape ed) 5 0 pl = .inl q ∧ bd_w = (-1000) * nI 2 - nI q) (hb1 : bd_w = 0) (c_6 : dgP (bF m_tape ed pl_w)) (c_8 : ¬ nI pl_w = nI (pl + 5)) (n_9 : pl_w ≠ (pl + 5)) (hb13 : (bF m_tape ed pl_w) < 256) (i_15 : Nat → Int32) (hsb : SB [19, 21] im i_15) : ed - ((pl_w + 1)) < k7 := by
  first | omega | (have q := (by assumption : dgP (bF m_tape ed _)); have q2 := bF_in (tp := m_tape) (ed := ed) (Nat.ne_of_gt (Nat.lt_of_lt_of_le (by decide) q.1)); omega)
theorem lf_X12_reads_t_24 (h : Nat) (q : Nat → Nat) (im : Nat → Int32) (pl : Nat) (ed : Nat) (m_tape : Nat → Int32) (hf_pl : im 19 = nI pl) (hf_ed : im 20 = nI ed) (hf_b0 : im 21 = 0) (hed : ed ≤ 200) (hdg : dgP (bF m_tape ed pl)) (vn : Nat) (im_7 : Nat → Int32) (pl_w : Nat) (bd_w : Int32) (k7 : Nat) (hk7 : ed - pl_w < k7 + 1) (hsb : SB [19, 21] im im_7) (hm7_19 : im_7 19 = nI pl_w) (hm7_20 : im_7 20 = nI ed) (hm7_21 : im_7 21 = bd_w) (h1w : pl ≤ pl_w) (h2w : pl_w ≤ ed) (h3w : pl_w = pl → bd_w = 0) (h4w : bd_w ≤ 0) (h5w : (bd_w = 0 → nuP (bF m_tape ed) 5 0 pl = nuP (bF m_tape ed) (5 - (pl_w - pl)) vn pl_w ∧ pl_w ≤ pl + 5)) (h6w : ¬ bd_w = 0 → ∃ q, nuP (bF m_tape ed) 5 0 pl = .inl q ∧ bd_w = (-1000) * nI 2 - nI q) (hb1 : bd_w = 0) (c_6 : dgP (bF m_tape ed pl_w)) (c_8 : nI pl_w = nI (pl + 5)) : pl_w = (pl + 5) := by
  exact (nI_eq (a := pl_w) (b := (pl + 5)) (by omega) (by omega)).mp c_8
theorem lf_X12_reads_t_25 (h : Nat) (q : Nat → Nat) (im : Nat → Int32) (pl : Nat) (ed : Nat) (m_tape : Nat → Int32) (hf_pl : im 19 = nI pl) (hf_ed : im 20 = nI ed) (hf_b0 : im 21 = 0) (hed : ed ≤ 200) (hdg : dgP (bF m_tape ed pl)) (vn : Nat) (im_7 : Nat → Int32) (pl_w : Nat) (bd_w : Int32) (k7 : Nat) (hk7 : ed - pl_w < k7 + 1) (hsb : SB [19, 21] im im_7) (hm7_19 : im_7 19 = nI pl_w) (hm7_20 : im_7 20 = nI ed) (hm7_21 : im_7 21 = bd_w) (h1w : pl ≤ pl_w) (h2w : pl_w ≤ ed) (h3w : pl_w = pl → bd_w = 0) (h4w : bd_w ≤ 0) (h5w : (bd_w = 0 → nuP (bF m_tape ed) 5 0 pl = nuP (bF m_tape ed) (5 - (pl_w - pl)) vn pl_w ∧ pl_w ≤ pl + 5)) (h6w : ¬ bd_w = 0 → ∃ q, nuP (bF m_tape ed) 5 0 pl = .inl q ∧ bd_w = (-1000) * nI 2 - nI q) (hb1 : bd_w = 0) (c_6 : dgP (bF m_tape ed pl_w)) (c_8 : nI pl_w = nI (pl + 5)) (n_23 : pl_w = (pl + 5)) : 1 ≤ 2 := by
  first | assumption | omega | decide | (have q := (by assumption : dgP (bF m_tape ed _)); have q2 := bF_in (tp := m_tape) (ed := ed) (Nat.ne_of_gt (Nat.lt_of_lt_of_le (by decide) q.1)); omega)
theorem lf_X12_reads_t_26 (h : Nat) (q : Nat → Nat) (im : Nat → Int32) (pl : Nat) (ed : Nat) (m_tape : Nat → Int32) (hf_pl : im 19 = nI pl) (hf_ed : im 20 = nI ed) (hf_b0 : im 21 = 0) (hed : ed ≤ 200) (hdg : dgP (bF m_tape ed pl)) (vn : Nat) (im_7 : Nat → Int32) (pl_w : Nat) (bd_w : Int32) (k7 : Nat) (hk7 : ed - pl_w < k7 + 1) (hsb : SB [19, 21] im im_7) (hm7_19 : im_7 19 = nI pl_w) (hm7_20 : im_7 20 = nI ed) (hm7_21 : im_7 21 = bd_w) (h1w : pl ≤ pl_w) (h2w : pl_w ≤ ed) (h3w : pl_w = pl → bd_w = 0) (h4w : bd_w ≤ 0) (h5w : (bd_w = 0 → nuP (bF m_tape ed) 5 0 pl = nuP (bF m_tape ed) (5 - (pl_w - pl)) vn pl_w ∧ pl_w ≤ pl + 5)) (h6w : ¬ bd_w = 0 → ∃ q, nuP (bF m_tape ed) 5 0 pl = .inl q ∧ bd_w = (-1000) * nI 2 - nI q) (hb1 : bd_w = 0) (c_6 : dgP (bF m_tape ed pl_w)) (c_8 : nI pl_w = nI (pl + 5)) (n_23 : pl_w = (pl + 5)) : 2 ≤ 5 := by
  first | assumption | omega | decide | (have q := (by assumption : dgP (bF m_tape ed _)); have q2 := bF_in (tp := m_tape) (ed := ed) (Nat.ne_of_gt (Nat.lt_of_lt_of_le (by decide) q.1)); omega)
theorem lf_X12_reads_t_27 (h : Nat) (q : Nat → Nat) (im : Nat → Int32) (pl : Nat) (ed : Nat) (m_tape : Nat → Int32) (hf_pl : im 19 = nI pl) (hf_ed : im 20 = nI ed) (hf_b0 : im 21 = 0) (hed : ed ≤ 200) (hdg : dgP (bF m_tape ed pl)) (vn : Nat) (im_7 : Nat → Int32) (pl_w : Nat) (bd_w : Int32) (k7 : Nat) (hk7 : ed - pl_w < k7 + 1) (hsb : SB [19, 21] im im_7) (hm7_19 : im_7 19 = nI pl_w) (hm7_20 : im_7 20 = nI ed) (hm7_21 : im_7 21 = bd_w) (h1w : pl ≤ pl_w) (h2w : pl_w ≤ ed) (h3w : pl_w = pl → bd_w = 0) (h4w : bd_w ≤ 0) (h5w : (bd_w = 0 → nuP (bF m_tape ed) 5 0 pl = nuP (bF m_tape ed) (5 - (pl_w - pl)) vn pl_w ∧ pl_w ≤ pl + 5)) (h6w : ¬ bd_w = 0 → ∃ q, nuP (bF m_tape ed) 5 0 pl = .inl q ∧ bd_w = (-1000) * nI 2 - nI q) (hb1 : bd_w = 0) (c_6 : dgP (bF m_tape ed pl_w)) (c_8 : nI pl_w = nI (pl + 5)) (n_23 : pl_w = (pl + 5)) : pl_w ≤ 200 := by
  first | assumption | omega | decide | (have q := (by assumption : dgP (bF m_tape ed _)); have q2 := bF_in (tp := m_tape) (ed := ed) (Nat.ne_of_gt (Nat.lt_of_lt_of_le (by decide) q.1)); omega)
theorem lf_X12_reads_t_30 (h : Nat) (q : Nat → Nat) (im : Nat → Int32) (pl : Nat) (ed : Nat) (m_tape : Nat → Int32) (hf_pl : im 19 = nI pl) (hf_ed : im 20 = nI ed) (hf_b0 : im 21 = 0) (hed : ed ≤ 200) (hdg : dgP (bF m_tape ed pl)) (vn : Nat) (im_7 : Nat → Int32) (pl_w : Nat) (bd_w : Int32) (k7 : Nat) (hk7 : ed - pl_w < k7 + 1) (hm7_19 : im_7 19 = nI pl_w) (hm7_20 : im_7 20 = nI ed) (hm7_21 : im_7 21 = bd_w) (h1w : pl ≤ pl_w) (h2w : pl_w ≤ ed) (h3w : pl_w = pl → bd_w = 0) (h4w : bd_w ≤ 0) (h5w : (bd_w = 0 → nuP (bF m_tape ed) 5 0 pl = nuP (bF m_tape ed) (5 - (pl_w - pl)) vn pl_w ∧ pl_w ≤ pl + 5)) (h6w : ¬ bd_w = 0 → ∃ q, nuP (bF m_tape ed) 5 0 pl = .inl q ∧ bd_w = (-1000) * nI 2 - nI q) (hb1 : bd_w = 0) (c_6 : dgP (bF m_tape ed pl_w)) (c_8 : nI pl_w = nI (pl + 5)) (n_23 : pl_w = (pl + 5)) (im_29 : Nat → Int32) (bd_29 : Int32) (hz_29_0 : SB [21] im_7 im_29) (hz_29_1 : im_29 21 = bd_29) (hz_29_2 : bd_29 < 0) (hz_29_3 : ¬ bd_29 = 0) (hz_29_4 : bd_29 = (-1000) * nI 2 - nI pl_w) (hsb : SB [19, 21] im im_29) : ed ≤ 200 := by
  first | assumption | omega | decide | (have q := (by assumption : dgP (bF m_tape ed _)); have q2 := bF_in (tp := m_tape) (ed := ed) (Nat.ne_of_gt (Nat.lt_of_lt_of_le (by decide) q.1)); omega)
theorem lf_X12_reads_t_31 (h : Nat) (q : Nat → Nat) (im : Nat → Int32) (pl : Nat) (ed : Nat) (m_tape : Nat → Int32) (hf_pl : im 19 = nI pl) (hf_ed : im 20 = nI ed) (hf_b0 : im 21 = 0) (hed : ed ≤ 200) (hdg : dgP (bF m_tape ed pl)) (vn : Nat) (im_7 : Nat → Int32) (pl_w : Nat) (bd_w : Int32) (k7 : Nat) (hk7 : ed - pl_w < k7 + 1) (hm7_19 : im_7 19 = nI pl_w) (hm7_20 : im_7 20 = nI ed) (hm7_21 : im_7 21 = bd_w) (h1w : pl ≤ pl_w) (h2w : pl_w ≤ ed) (h3w : pl_w = pl → bd_w = 0) (h4w : bd_w ≤ 0) (h5w : (bd_w = 0 → nuP (bF m_tape ed) 5 0 pl = nuP (bF m_tape ed) (5 - (pl_w - pl)) vn pl_w ∧ pl_w ≤ pl + 5)) (h6w : ¬ bd_w = 0 → ∃ q, nuP (bF m_tape ed) 5 0 pl = .inl q ∧ bd_w = (-1000) * nI 2 - nI q) (hb1 : bd_w = 0) (c_6 : dgP (bF m_tape ed pl_w)) (c_8 : nI pl_w = nI (pl + 5)) (n_23 : pl_w = (pl + 5)) (im_29 : Nat → Int32) (bd_29 : Int32) (hz_29_0 : SB [21] im_7 im_29) (hz_29_1 : im_29 21 = bd_29) (hz_29_2 : bd_29 < 0) (hz_29_3 : ¬ bd_29 = 0) (hz_29_4 : bd_29 = (-1000) * nI 2 - nI pl_w) (hsb : SB [19, 21] im im_29) : pl_w ≤ 1000 := by
  first | assumption | omega | decide | (have q := (by assumption : dgP (bF m_tape ed _)); have q2 := bF_in (tp := m_tape) (ed := ed) (Nat.ne_of_gt (Nat.lt_of_lt_of_le (by decide) q.1)); omega)
theorem lf_X12_reads_t_33 (h : Nat) (q : Nat → Nat) (im : Nat → Int32) (pl : Nat) (ed : Nat) (m_tape : Nat → Int32) (hf_pl : im 19 = nI pl) (hf_ed : im 20 = nI ed) (hf_b0 : im 21 = 0) (hed : ed ≤ 200) (hdg : dgP (bF m_tape ed pl)) (vn : Nat) (im_7 : Nat → Int32) (pl_w : Nat) (bd_w : Int32) (k7 : Nat) (hk7 : ed - pl_w < k7 + 1) (hm7_19 : im_7 19 = nI pl_w) (hm7_20 : im_7 20 = nI ed) (hm7_21 : im_7 21 = bd_w) (h1w : pl ≤ pl_w) (h2w : pl_w ≤ ed) (h3w : pl_w = pl → bd_w = 0) (h4w : bd_w ≤ 0) (h5w : (bd_w = 0 → nuP (bF m_tape ed) 5 0 pl = nuP (bF m_tape ed) (5 - (pl_w - pl)) vn pl_w ∧ pl_w ≤ pl + 5)) (h6w : ¬ bd_w = 0 → ∃ q, nuP (bF m_tape ed) 5 0 pl = .inl q ∧ bd_w = (-1000) * nI 2 - nI q) (hb1 : bd_w = 0) (c_6 : dgP (bF m_tape ed pl_w)) (c_8 : nI pl_w = nI (pl + 5)) (n_23 : pl_w = (pl + 5)) (im_29 : Nat → Int32) (bd_29 : Int32) (hz_29_0 : SB [21] im_7 im_29) (hz_29_1 : im_29 21 = bd_29) (hz_29_2 : bd_29 < 0) (hz_29_3 : ¬ bd_29 = 0) (hz_29_4 : bd_29 = (-1000) * nI 2 - nI pl_w) (hsb : SB [19, 21] im im_29) (hb32 : (bF m_tape ed pl_w) < 256) : 48 ≤ ((10 * vn) + (bF m_tape ed pl_w)) := by
  (have q := (by assumption : dgP (bF m_tape ed pl_w)); omega)
theorem lf_X12_reads_t_35 (h : Nat) (q : Nat → Nat) (im : Nat → Int32) (pl : Nat) (ed : Nat) (m_tape : Nat → Int32) (hf_pl : im 19 = nI pl) (hf_ed : im 20 = nI ed) (hf_b0 : im 21 = 0) (hed : ed ≤ 200) (hdg : dgP (bF m_tape ed pl)) (vn : Nat) (im_7 : Nat → Int32) (pl_w : Nat) (bd_w : Int32) (k7 : Nat) (hk7 : ed - pl_w < k7 + 1) (hm7_19 : im_7 19 = nI pl_w) (hm7_20 : im_7 20 = nI ed) (hm7_21 : im_7 21 = bd_w) (h1w : pl ≤ pl_w) (h2w : pl_w ≤ ed) (h3w : pl_w = pl → bd_w = 0) (h4w : bd_w ≤ 0) (h5w : (bd_w = 0 → nuP (bF m_tape ed) 5 0 pl = nuP (bF m_tape ed) (5 - (pl_w - pl)) vn pl_w ∧ pl_w ≤ pl + 5)) (h6w : ¬ bd_w = 0 → ∃ q, nuP (bF m_tape ed) 5 0 pl = .inl q ∧ bd_w = (-1000) * nI 2 - nI q) (hb1 : bd_w = 0) (c_6 : dgP (bF m_tape ed pl_w)) (c_8 : nI pl_w = nI (pl + 5)) (n_23 : pl_w = (pl + 5)) (im_29 : Nat → Int32) (bd_29 : Int32) (hz_29_0 : SB [21] im_7 im_29) (hz_29_1 : im_29 21 = bd_29) (hz_29_2 : bd_29 < 0) (hz_29_3 : ¬ bd_29 = 0) (hz_29_4 : bd_29 = (-1000) * nI 2 - nI pl_w) (hb32 : (bF m_tape ed pl_w) < 256) (i_34 : Nat → Int32) (hsb : SB [19, 21] im i_34) : pl ≤ ((pl_w + 1)) := by
  first | omega | assumption | exact Int32.le_refl _ | exact Int32.le_of_lt (by assumption) | (show (_ : Int32) = _; exact Eq.trans (by assumption) (by assumption)) | exact fun _ => rfl | (have q := (by assumption : dgP (bF m_tape ed _)); have q2 := bF_in (tp := m_tape) (ed := ed) (Nat.ne_of_gt (Nat.lt_of_lt_of_le (by decide) q.1)); omega) | exact fun q => absurd q (by omega) | exact fun _ => ⟨by rw [Nat.sub_self], by omega⟩ | exact fun q => absurd rfl q | exact fun q => absurd q (by assumption) | exact rd_i1 (h5w (by assumption)) (by assumption) (by assumption) h1w rfl | exact rd_i2 (h5w (by assumption)) (by assumption) (by assumption) h1w (by assumption)
theorem lf_X12_reads_t_36 (h : Nat) (q : Nat → Nat) (im : Nat → Int32) (pl : Nat) (ed : Nat) (m_tape : Nat → Int32) (hf_pl : im 19 = nI pl) (hf_ed : im 20 = nI ed) (hf_b0 : im 21 = 0) (hed : ed ≤ 200) (hdg : dgP (bF m_tape ed pl)) (vn : Nat) (im_7 : Nat → Int32) (pl_w : Nat) (bd_w : Int32) (k7 : Nat) (hk7 : ed - pl_w < k7 + 1) (hm7_19 : im_7 19 = nI pl_w) (hm7_20 : im_7 20 = nI ed) (hm7_21 : im_7 21 = bd_w) (h1w : pl ≤ pl_w) (h2w : pl_w ≤ ed) (h3w : pl_w = pl → bd_w = 0) (h4w : bd_w ≤ 0) (h5w : (bd_w = 0 → nuP (bF m_tape ed) 5 0 pl = nuP (bF m_tape ed) (5 - (pl_w - pl)) vn pl_w ∧ pl_w ≤ pl + 5)) (h6w : ¬ bd_w = 0 → ∃ q, nuP (bF m_tape ed) 5 0 pl = .inl q ∧ bd_w = (-1000) * nI 2 - nI q) (hb1 : bd_w = 0) (c_6 : dgP (bF m_tape ed pl_w)) (c_8 : nI pl_w = nI (pl + 5)) (n_23 : pl_w = (pl + 5)) (im_29 : Nat → Int32) (bd_29 : Int32) (hz_29_0 : SB [21] im_7 im_29) (hz_29_1 : im_29 21 = bd_29) (hz_29_2 : bd_29 < 0) (hz_29_3 : ¬ bd_29 = 0) (hz_29_4 : bd_29 = (-1000) * nI 2 - nI pl_w) (hb32 : (bF m_tape ed pl_w) < 256) (i_34 : Nat → Int32) (hsb : SB [19, 21] im i_34) : ((pl_w + 1)) ≤ ed := by
  first | omega | assumption | exact Int32.le_refl _ | exact Int32.le_of_lt (by assumption) | (show (_ : Int32) = _; exact Eq.trans (by assumption) (by assumption)) | exact fun _ => rfl | (have q := (by assumption : dgP (bF m_tape ed _)); have q2 := bF_in (tp := m_tape) (ed := ed) (Nat.ne_of_gt (Nat.lt_of_lt_of_le (by decide) q.1)); omega) | exact fun q => absurd q (by omega) | exact fun _ => ⟨by rw [Nat.sub_self], by omega⟩ | exact fun q => absurd rfl q | exact fun q => absurd q (by assumption) | exact rd_i1 (h5w (by assumption)) (by assumption) (by assumption) h1w rfl | exact rd_i2 (h5w (by assumption)) (by assumption) (by assumption) h1w (by assumption)
theorem lf_X12_reads_t_37 (h : Nat) (q : Nat → Nat) (im : Nat → Int32) (pl : Nat) (ed : Nat) (m_tape : Nat → Int32) (hf_pl : im 19 = nI pl) (hf_ed : im 20 = nI ed) (hf_b0 : im 21 = 0) (hed : ed ≤ 200) (hdg : dgP (bF m_tape ed pl)) (vn : Nat) (im_7 : Nat → Int32) (pl_w : Nat) (bd_w : Int32) (k7 : Nat) (hk7 : ed - pl_w < k7 + 1) (hm7_19 : im_7 19 = nI pl_w) (hm7_20 : im_7 20 = nI ed) (hm7_21 : im_7 21 = bd_w) (h1w : pl ≤ pl_w) (h2w : pl_w ≤ ed) (h3w : pl_w = pl → bd_w = 0) (h4w : bd_w ≤ 0) (h5w : (bd_w = 0 → nuP (bF m_tape ed) 5 0 pl = nuP (bF m_tape ed) (5 - (pl_w - pl)) vn pl_w ∧ pl_w ≤ pl + 5)) (h6w : ¬ bd_w = 0 → ∃ q, nuP (bF m_tape ed) 5 0 pl = .inl q ∧ bd_w = (-1000) * nI 2 - nI q) (hb1 : bd_w = 0) (c_6 : dgP (bF m_tape ed pl_w)) (c_8 : nI pl_w = nI (pl + 5)) (n_23 : pl_w = (pl + 5)) (im_29 : Nat → Int32) (bd_29 : Int32) (hz_29_0 : SB [21] im_7 im_29) (hz_29_1 : im_29 21 = bd_29) (hz_29_2 : bd_29 < 0) (hz_29_3 : ¬ bd_29 = 0) (hz_29_4 : bd_29 = (-1000) * nI 2 - nI pl_w) (hb32 : (bF m_tape ed pl_w) < 256) (i_34 : Nat → Int32) (hsb : SB [19, 21] im i_34) : ((pl_w + 1)) = pl → bd_29 = 0 := by
  first | omega | assumption | exact Int32.le_refl _ | exact Int32.le_of_lt (by assumption) | (show (_ : Int32) = _; exact Eq.trans (by assumption) (by assumption)) | exact fun _ => rfl | (have q := (by assumption : dgP (bF m_tape ed _)); have q2 := bF_in (tp := m_tape) (ed := ed) (Nat.ne_of_gt (Nat.lt_of_lt_of_le (by decide) q.1)); omega) | exact fun q => absurd q (by omega) | exact fun _ => ⟨by rw [Nat.sub_self], by omega⟩ | exact fun q => absurd rfl q | exact fun q => absurd q (by assumption) | exact rd_i1 (h5w (by assumption)) (by assumption) (by assumption) h1w rfl | exact rd_i2 (h5w (by assumption)) (by assumption) (by assumption) h1w (by assumption)
theorem lf_X12_reads_t_38 (h : Nat) (q : Nat → Nat) (im : Nat → Int32) (pl : Nat) (ed : Nat) (m_tape : Nat → Int32) (hf_pl : im 19 = nI pl) (hf_ed : im 20 = nI ed) (hf_b0 : im 21 = 0) (hed : ed ≤ 200) (hdg : dgP (bF m_tape ed pl)) (vn : Nat) (im_7 : Nat → Int32) (pl_w : Nat) (bd_w : Int32) (k7 : Nat) (hk7 : ed - pl_w < k7 + 1) (hm7_19 : im_7 19 = nI pl_w) (hm7_20 : im_7 20 = nI ed) (hm7_21 : im_7 21 = bd_w) (h1w : pl ≤ pl_w) (h2w : pl_w ≤ ed) (h3w : pl_w = pl → bd_w = 0) (h4w : bd_w ≤ 0) (h5w : (bd_w = 0 → nuP (bF m_tape ed) 5 0 pl = nuP (bF m_tape ed) (5 - (pl_w - pl)) vn pl_w ∧ pl_w ≤ pl + 5)) (h6w : ¬ bd_w = 0 → ∃ q, nuP (bF m_tape ed) 5 0 pl = .inl q ∧ bd_w = (-1000) * nI 2 - nI q) (hb1 : bd_w = 0) (c_6 : dgP (bF m_tape ed pl_w)) (c_8 : nI pl_w = nI (pl + 5)) (n_23 : pl_w = (pl + 5)) (im_29 : Nat → Int32) (bd_29 : Int32) (hz_29_0 : SB [21] im_7 im_29) (hz_29_1 : im_29 21 = bd_29) (hz_29_2 : bd_29 < 0) (hz_29_3 : ¬ bd_29 = 0) (hz_29_4 : bd_29 = (-1000) * nI 2 - nI pl_w) (hb32 : (bF m_tape ed pl_w) < 256) (i_34 : Nat → Int32) (hsb : SB [19, 21] im i_34) : bd_29 ≤ 0 := by
  first | omega | assumption | exact Int32.le_refl _ | exact Int32.le_of_lt (by assumption) | (show (_ : Int32) = _; exact Eq.trans (by assumption) (by assumption)) | exact fun _ => rfl | (have q := (by assumption : dgP (bF m_tape ed _)); have q2 := bF_in (tp := m_tape) (ed := ed) (Nat.ne_of_gt (Nat.lt_of_lt_of_le (by decide) q.1)); omega) | exact fun q => absurd q (by omega) | exact fun _ => ⟨by rw [Nat.sub_self], by omega⟩ | exact fun q => absurd rfl q | exact fun q => absurd q (by assumption) | exact rd_i1 (h5w (by assumption)) (by assumption) (by assumption) h1w rfl | exact rd_i2 (h5w (by assumption)) (by assumption) (by assumption) h1w (by assumption)
theorem lf_X12_reads_t_39 (h : Nat) (q : Nat → Nat) (im : Nat → Int32) (pl : Nat) (ed : Nat) (m_tape : Nat → Int32) (hf_pl : im 19 = nI pl) (hf_ed : im 20 = nI ed) (hf_b0 : im 21 = 0) (hed : ed ≤ 200) (hdg : dgP (bF m_tape ed pl)) (vn : Nat) (im_7 : Nat → Int32) (pl_w : Nat) (bd_w : Int32) (k7 : Nat) (hk7 : ed - pl_w < k7 + 1) (hm7_19 : im_7 19 = nI pl_w) (hm7_20 : im_7 20 = nI ed) (hm7_21 : im_7 21 = bd_w) (h1w : pl ≤ pl_w) (h2w : pl_w ≤ ed) (h3w : pl_w = pl → bd_w = 0) (h4w : bd_w ≤ 0) (h5w : (bd_w = 0 → nuP (bF m_tape ed) 5 0 pl = nuP (bF m_tape ed) (5 - (pl_w - pl)) vn pl_w ∧ pl_w ≤ pl + 5)) (h6w : ¬ bd_w = 0 → ∃ q, nuP (bF m_tape ed) 5 0 pl = .inl q ∧ bd_w = (-1000) * nI 2 - nI q) (hb1 : bd_w = 0) (c_6 : dgP (bF m_tape ed pl_w)) (c_8 : nI pl_w = nI (pl + 5)) (n_23 : pl_w = (pl + 5)) (im_29 : Nat → Int32) (bd_29 : Int32) (hz_29_0 : SB [21] im_7 im_29) (hz_29_1 : im_29 21 = bd_29) (hz_29_2 : bd_29 < 0) (hz_29_3 : ¬ bd_29 = 0) (hz_29_4 : bd_29 = (-1000) * nI 2 - nI pl_w) (hb32 : (bF m_tape ed pl_w) < 256) (i_34 : Nat → Int32) (hsb : SB [19, 21] im i_34) : (bd_29 = 0 → nuP (bF m_tape ed) 5 0 pl = nuP (bF m_tape ed) (5 - (((pl_w + 1)) - pl)) ((((10 * vn) + (bF m_tape ed pl_w)) - 48)) ((pl_w + 1)) ∧ ((pl_w + 1)) ≤ pl + 5) := by
  first | omega | assumption | exact Int32.le_refl _ | exact Int32.le_of_lt (by assumption) | (show (_ : Int32) = _; exact Eq.trans (by assumption) (by assumption)) | exact fun _ => rfl | (have q := (by assumption : dgP (bF m_tape ed _)); have q2 := bF_in (tp := m_tape) (ed := ed) (Nat.ne_of_gt (Nat.lt_of_lt_of_le (by decide) q.1)); omega) | exact fun q => absurd q (by omega) | exact fun _ => ⟨by rw [Nat.sub_self], by omega⟩ | exact fun q => absurd rfl q | exact fun q => absurd q (by assumption) | exact rd_i1 (h5w (by assumption)) (by assumption) (by assumption) h1w rfl | exact rd_i2 (h5w (by assumption)) (by assumption) (by assumption) h1w (by assumption)
theorem lf_X12_reads_t_40 (h : Nat) (q : Nat → Nat) (im : Nat → Int32) (pl : Nat) (ed : Nat) (m_tape : Nat → Int32) (hf_pl : im 19 = nI pl) (hf_ed : im 20 = nI ed) (hf_b0 : im 21 = 0) (hed : ed ≤ 200) (hdg : dgP (bF m_tape ed pl)) (vn : Nat) (im_7 : Nat → Int32) (pl_w : Nat) (bd_w : Int32) (k7 : Nat) (hk7 : ed - pl_w < k7 + 1) (hm7_19 : im_7 19 = nI pl_w) (hm7_20 : im_7 20 = nI ed) (hm7_21 : im_7 21 = bd_w) (h1w : pl ≤ pl_w) (h2w : pl_w ≤ ed) (h3w : pl_w = pl → bd_w = 0) (h4w : bd_w ≤ 0) (h5w : (bd_w = 0 → nuP (bF m_tape ed) 5 0 pl = nuP (bF m_tape ed) (5 - (pl_w - pl)) vn pl_w ∧ pl_w ≤ pl + 5)) (h6w : ¬ bd_w = 0 → ∃ q, nuP (bF m_tape ed) 5 0 pl = .inl q ∧ bd_w = (-1000) * nI 2 - nI q) (hb1 : bd_w = 0) (c_6 : dgP (bF m_tape ed pl_w)) (c_8 : nI pl_w = nI (pl + 5)) (n_23 : pl_w = (pl + 5)) (im_29 : Nat → Int32) (bd_29 : Int32) (hz_29_0 : SB [21] im_7 im_29) (hz_29_1 : im_29 21 = bd_29) (hz_29_2 : bd_29 < 0) (hz_29_3 : ¬ bd_29 = 0) (hz_29_4 : bd_29 = (-1000) * nI 2 - nI pl_w) (hb32 : (bF m_tape ed pl_w) < 256) (i_34 : Nat → Int32) (hsb : SB [19, 21] im i_34) : ¬ bd_29 = 0 → ∃ q, nuP (bF m_tape ed) 5 0 pl = .inl q ∧ bd_29 = (-1000) * nI 2 - nI q := by
  first | omega | assumption | exact Int32.le_refl _ | exact Int32.le_of_lt (by assumption) | (show (_ : Int32) = _; exact Eq.trans (by assumption) (by assumption)) | exact fun _ => rfl | (have q := (by assumption : dgP (bF m_tape ed _)); have q2 := bF_in (tp := m_tape) (ed := ed) (Nat.ne_of_gt (Nat.lt_of_lt_of_le (by decide) q.1)); omega) | exact fun q => absurd q (by omega) | exact fun _ => ⟨by rw [Nat.sub_self], by omega⟩ | exact fun q => absurd rfl q | exact fun q => absurd q (by assumption) | exact rd_i1 (h5w (by assumption)) (by assumption) (by assumption) h1w rfl | exact rd_i2 (h5w (by assumption)) (by assumption) (by assumption) h1w (by assumption)
theorem lf_X12_reads_t_41 (h : Nat) (q : Nat → Nat) (im : Nat → Int32) (pl : Nat) (ed : Nat) (m_tape : Nat → Int32) (hf_pl : im 19 = nI pl) (hf_ed : im 20 = nI ed) (hf_b0 : im 21 = 0) (hed : ed ≤ 200) (hdg : dgP (bF m_tape ed pl)) (vn : Nat) (im_7 : Nat → Int32) (pl_w : Nat) (bd_w : Int32) (k7 : Nat) (hk7 : ed - pl_w < k7 + 1) (hm7_19 : im_7 19 = nI pl_w) (hm7_20 : im_7 20 = nI ed) (hm7_21 : im_7 21 = bd_w) (h1w : pl ≤ pl_w) (h2w : pl_w ≤ ed) (h3w : pl_w = pl → bd_w = 0) (h4w : bd_w ≤ 0) (h5w : (bd_w = 0 → nuP (bF m_tape ed) 5 0 pl = nuP (bF m_tape ed) (5 - (pl_w - pl)) vn pl_w ∧ pl_w ≤ pl + 5)) (h6w : ¬ bd_w = 0 → ∃ q, nuP (bF m_tape ed) 5 0 pl = .inl q ∧ bd_w = (-1000) * nI 2 - nI q) (hb1 : bd_w = 0) (c_6 : dgP (bF m_tape ed pl_w)) (c_8 : nI pl_w = nI (pl + 5)) (n_23 : pl_w = (pl + 5)) (im_29 : Nat → Int32) (bd_29 : Int32) (hz_29_0 : SB [21] im_7 im_29) (hz_29_1 : im_29 21 = bd_29) (hz_29_2 : bd_29 < 0) (hz_29_3 : ¬ bd_29 = 0) (hz_29_4 : bd_29 = (-1000) * nI 2 - nI pl_w) (hb32 : (bF m_tape ed pl_w) < 256) (i_34 : Nat → Int32) (hsb : SB [19, 21] im i_34) : ed - ((pl_w + 1)) < k7 := by
  first | omega | (have q := (by assumption : dgP (bF m_tape ed _)); have q2 := bF_in (tp := m_tape) (ed := ed) (Nat.ne_of_gt (Nat.lt_of_lt_of_le (by decide) q.1)); omega)
theorem lf_X12_reads_t_42 (h : Nat) (q : Nat → Nat) (im : Nat → Int32) (pl : Nat) (ed : Nat) (m_tape : Nat → Int32) (hf_pl : im 19 = nI pl) (hf_ed : im 20 = nI ed) (hf_b0 : im 21 = 0) (hed : ed ≤ 200) (hdg : dgP (bF m_tape ed pl)) (hsb : SB [19, 21] im im) : pl ≤ pl := by
  first | omega | assumption | exact Int32.le_refl _ | exact Int32.le_of_lt (by assumption) | (show (_ : Int32) = _; exact Eq.trans (by assumption) (by assumption)) | exact fun _ => rfl | (have q := (by assumption : dgP (bF m_tape ed _)); have q2 := bF_in (tp := m_tape) (ed := ed) (Nat.ne_of_gt (Nat.lt_of_lt_of_le (by decide) q.1)); omega) | exact fun q => absurd q (by omega) | exact fun _ => ⟨by rw [Nat.sub_self], by omega⟩ | exact fun q => absurd rfl q | exact fun q => absurd q (by assumption) | exact rd_i1 (h5w (by assumption)) (by assumption) (by assumption) h1w rfl | exact rd_i2 (h5w (by assumption)) (by assumption) (by assumption) h1w (by assumption)
theorem lf_X12_reads_t_43 (h : Nat) (q : Nat → Nat) (im : Nat → Int32) (pl : Nat) (ed : Nat) (m_tape : Nat → Int32) (hf_pl : im 19 = nI pl) (hf_ed : im 20 = nI ed) (hf_b0 : im 21 = 0) (hed : ed ≤ 200) (hdg : dgP (bF m_tape ed pl)) (hsb : SB [19, 21] im im) : pl ≤ ed := by
  first | omega | assumption | exact Int32.le_refl _ | exact Int32.le_of_lt (by assumption) | (show (_ : Int32) = _; exact Eq.trans (by assumption) (by assumption)) | exact fun _ => rfl | (have q := (by assumption : dgP (bF m_tape ed _)); have q2 := bF_in (tp := m_tape) (ed := ed) (Nat.ne_of_gt (Nat.lt_of_lt_of_le (by decide) q.1)); omega) | exact fun q => absurd q (by omega) | exact fun _ => ⟨by rw [Nat.sub_self], by omega⟩ | exact fun q => absurd rfl q | exact fun q => absurd q (by assumption) | exact rd_i1 (h5w (by assumption)) (by assumption) (by assumption) h1w rfl | exact rd_i2 (h5w (by assumption)) (by assumption) (by assumption) h1w (by assumption)
theorem lf_X12_reads_t_44 (h : Nat) (q : Nat → Nat) (im : Nat → Int32) (pl : Nat) (ed : Nat) (m_tape : Nat → Int32) (hf_pl : im 19 = nI pl) (hf_ed : im 20 = nI ed) (hf_b0 : im 21 = 0) (hed : ed ≤ 200) (hdg : dgP (bF m_tape ed pl)) (hsb : SB [19, 21] im im) : pl = pl → (0 : Int32) = 0 := by
  first | omega | assumption | exact Int32.le_refl _ | exact Int32.le_of_lt (by assumption) | (show (_ : Int32) = _; exact Eq.trans (by assumption) (by assumption)) | exact fun _ => rfl | (have q := (by assumption : dgP (bF m_tape ed _)); have q2 := bF_in (tp := m_tape) (ed := ed) (Nat.ne_of_gt (Nat.lt_of_lt_of_le (by decide) q.1)); omega) | exact fun q => absurd q (by omega) | exact fun _ => ⟨by rw [Nat.sub_self], by omega⟩ | exact fun q => absurd rfl q | exact fun q => absurd q (by assumption) | exact rd_i1 (h5w (by assumption)) (by assumption) (by assumption) h1w rfl | exact rd_i2 (h5w (by assumption)) (by assumption) (by assumption) h1w (by assumption)
theorem lf_X12_reads_t_45 (h : Nat) (q : Nat → Nat) (im : Nat → Int32) (pl : Nat) (ed : Nat) (m_tape : Nat → Int32) (hf_pl : im 19 = nI pl) (hf_ed : im 20 = nI ed) (hf_b0 : im 21 = 0) (hed : ed ≤ 200) (hdg : dgP (bF m_tape ed pl)) (hsb : SB [19, 21] im im) : (0 : Int32) ≤ 0 := by
  first | omega | assumption | exact Int32.le_refl _ | exact Int32.le_of_lt (by assumption) | (show (_ : Int32) = _; exact Eq.trans (by assumption) (by assumption)) | exact fun _ => rfl | (have q := (by assumption : dgP (bF m_tape ed _)); have q2 := bF_in (tp := m_tape) (ed := ed) (Nat.ne_of_gt (Nat.lt_of_lt_of_le (by decide) q.1)); omega) | exact fun q => absurd q (by omega) | exact fun _ => ⟨by rw [Nat.sub_self], by omega⟩ | exact fun q => absurd rfl q | exact fun q => absurd q (by assumption) | exact rd_i1 (h5w (by assumption)) (by assumption) (by assumption) h1w rfl | exact rd_i2 (h5w (by assumption)) (by assumption) (by assumption) h1w (by assumption)
theorem lf_X12_reads_t_46 (h : Nat) (q : Nat → Nat) (im : Nat → Int32) (pl : Nat) (ed : Nat) (m_tape : Nat → Int32) (hf_pl : im 19 = nI pl) (hf_ed : im 20 = nI ed) (hf_b0 : im 21 = 0) (hed : ed ≤ 200) (hdg : dgP (bF m_tape ed pl)) (hsb : SB [19, 21] im im) : ((0 : Int32) = 0 → nuP (bF m_tape ed) 5 0 pl = nuP (bF m_tape ed) (5 - (pl - pl)) 0 pl ∧ pl ≤ pl + 5) := by
  first | omega | assumption | exact Int32.le_refl _ | exact Int32.le_of_lt (by assumption) | (show (_ : Int32) = _; exact Eq.trans (by assumption) (by assumption)) | exact fun _ => rfl | (have q := (by assumption : dgP (bF m_tape ed _)); have q2 := bF_in (tp := m_tape) (ed := ed) (Nat.ne_of_gt (Nat.lt_of_lt_of_le (by decide) q.1)); omega) | exact fun q => absurd q (by omega) | exact fun _ => ⟨by rw [Nat.sub_self], by omega⟩ | exact fun q => absurd rfl q | exact fun q => absurd q (by assumption) | exact rd_i1 (h5w (by assumption)) (by assumption) (by assumption) h1w rfl | exact rd_i2 (h5w (by assumption)) (by assumption) (by assumption) h1w (by assumption)
theorem lf_X12_reads_t_47 (h : Nat) (q : Nat → Nat) (im : Nat → Int32) (pl : Nat) (ed : Nat) (m_tape : Nat → Int32) (hf_pl : im 19 = nI pl) (hf_ed : im 20 = nI ed) (hf_b0 : im 21 = 0) (hed : ed ≤ 200) (hdg : dgP (bF m_tape ed pl)) (hsb : SB [19, 21] im im) : ¬ (0 : Int32) = 0 → ∃ q, nuP (bF m_tape ed) 5 0 pl = .inl q ∧ (0 : Int32) = (-1000) * nI 2 - nI q := by
  first | omega | assumption | exact Int32.le_refl _ | exact Int32.le_of_lt (by assumption) | (show (_ : Int32) = _; exact Eq.trans (by assumption) (by assumption)) | exact fun _ => rfl | (have q := (by assumption : dgP (bF m_tape ed _)); have q2 := bF_in (tp := m_tape) (ed := ed) (Nat.ne_of_gt (Nat.lt_of_lt_of_le (by decide) q.1)); omega) | exact fun q => absurd q (by omega) | exact fun _ => ⟨by rw [Nat.sub_self], by omega⟩ | exact fun q => absurd rfl q | exact fun q => absurd q (by assumption) | exact rd_i1 (h5w (by assumption)) (by assumption) (by assumption) h1w rfl | exact rd_i2 (h5w (by assumption)) (by assumption) (by assumption) h1w (by assumption)
theorem lf_X12_reads_t_48 (h : Nat) (q : Nat → Nat) (im : Nat → Int32) (pl : Nat) (ed : Nat) (m_tape : Nat → Int32) (hf_pl : im 19 = nI pl) (hf_ed : im 20 = nI ed) (hf_b0 : im 21 = 0) (hed : ed ≤ 200) (hdg : dgP (bF m_tape ed pl)) (hsb : SB [19, 21] im im) : ed - pl < 201 := by
  first | omega | (have q := (by assumption : dgP (bF m_tape ed _)); have q2 := bF_in (tp := m_tape) (ed := ed) (Nat.ne_of_gt (Nat.lt_of_lt_of_le (by decide) q.1)); omega)
set_option maxHeartbeats 4000000 in
set_option maxRecDepth 100000 in
theorem c_X12_reads_t (l : Launch) (D : va_G) (cI cB cZ cJ : ClassId) (tx : List (ClassId × FieldType)) (h : Nat) (q : Nat → Nat) (im : Nat → Int32) (pl : Nat) (ed : Nat) (m_tape : Nat → Int32) (hf_pl : im 19 = nI pl) (hf_ed : im 20 = nI ed) (hf_b0 : im 21 = 0) (hed : ed ≤ 200) (hdg : dgP (bF m_tape ed pl)) : WrI l D cI cB cZ cJ tx yX12_reads cX12_reads 3 (some .int) 2 0 0 [.ref h] [(h, .inr (12, mG q im)), (q 0, .inl (cB, 220, .inl m_tape))] (fun (r : Int32) (v : (Nat → Int32) × (Nat) × (Int32)) => RDQ (bF m_tape ed) pl v.2.2 r v.2.1 ∧ (SB [19, 21] im v.1) ∧ (v.1 19 = nI v.2.1) ∧ (v.1 21 = v.2.2) ∧ (pl + 1 ≤ v.2.1) ∧ (v.2.1 ≤ ed) ∧ (v.2.2 ≤ 0)) (fun v => [(h, .inr (12, mG q v.1)), (q 0, .inl (cB, 220, .inl m_tape))]) := by
  refine wri_of2 (by decide) (Nat.le_of_ble_eq_true rfl) ?_
  intro p e s m below meth c A ls H locs hC hK hP hD hA hS hl
  obtain ⟨hx, hb, hr, hml, hown, hts, hlocks, hin⟩ := hC
  have hown : s.vm.findClass RX12 = some m.cls := hown
  have hl : lv_has ls 3 [(0, .ref h)] := hl
  have hsb : SB [19, 21] im im := SB.rf
  refine W_gQ (fun Q hQ => ?_)
  refine lv_aload_n hx hb dX12_reads_0 rfl (lv_at hl 0 rfl) ?_
  refine va_get (D := D) (ci := 12) (v := .int (im 19)) (C := RX12) (T := TX12) (N := 81) hx hb hts inT_X12 hown hK.1 hP 0 rfl rfl 19 (by decide) (hts _ k_1372) (fun _ h9 => h9) rfl dX12_reads_1 ?_
  refine lv_topv (y := nI pl) hf_pl ?_
  refine lv_istore_n (lv' := [(1, .int (nI pl)), (0, .ref h)]) hx hb dX12_reads_4 rfl hl (by decide) rfl (fun ls hl => ?_)
  refine lv_iconst (v := 0) hx hb dX12_reads_5 (by decide) ?_
  refine lv_istore_n (lv' := [(2, .int 0), (1, .int (nI pl)), (0, .ref h)]) hx hb dX12_reads_6 rfl hl (by decide) rfl (fun ls hl => ?_)
  have lp7 : ∀ (k7 : Nat) (vn : Nat) (im_7 : Nat → Int32) (pl_w : Nat) (bd_w : Int32) (H : Heap) (locs : List Loc) (ls : Array Slot), ed - pl_w < k7 → (SB [19, 21] im im_7) → (im_7 19 = nI pl_w) → (im_7 20 = nI ed) → (im_7 21 = bd_w) → (pl ≤ pl_w) → (pl_w ≤ ed) → (pl_w = pl → bd_w = 0) → (bd_w ≤ 0) → ((bd_w = 0 → nuP (bF m_tape ed) 5 0 pl = nuP (bF m_tape ed) (5 - (pl_w - pl)) vn pl_w ∧ pl_w ≤ pl + 5)) → (¬ bd_w = 0 → ∃ q, nuP (bF m_tape ed) 5 0 pl = .inl q ∧ bd_w = (-1000) * nI 2 - nI q) → va_P D vwCl [(h, .inr (12, mG q im_7)), (q 0, .inl (cB, 220, .inl m_tape))] H → va_D A [(h, .inr (12, mG q im_7)), (q 0, .inl (cB, 220, .inl m_tape))] → va_S A s.heap H locs → lv_has ls 3 [(2, .int (nI vn)), (1, .int (nI pl)), (0, .ref h)] → W p l e (rmX 2 0 0) s m ([.ref h] : List Value).toArray below meth c H locs 0 0 Q (F0 m 7 ls []) := by
    intro k7
    induction k7 with
    | zero =>
      intro vn im_7 pl_w bd_w H locs ls hk7 hsb hm7_19 hm7_20 hm7_21 h1w h2w h3w h4w h5w h6w hP hD hS hl
      exact absurd hk7 (by omega)
    | succ k7 ih7 =>
      intro vn im_7 pl_w bd_w H locs ls hk7 hsb hm7_19 hm7_20 hm7_21 h1w h2w h3w h4w h5w h6w hP hD hS hl
      refine lv_aload_n hx hb dX12_reads_7 rfl (lv_at hl 2 rfl) ?_
      refine eRi (va_runV (As := []) (rest := []) ⟨hx, hb, hml, hown, hts⟩ (c_X12_isGood l D cI cB cZ cJ tx h q im_7 bd_w hm7_21 H.size) (zV hts k_1627 v_X12_isGood ⟨Nat.le_of_ble_eq_true rfl, Nat.le_of_ble_eq_true rfl⟩) (pV (px1 hK hP 0 rfl) hK hP 0 rfl rfl) rfl rfl hl.1 rfl (lv_room (Nat.le_of_ble_eq_true rfl)) dX12_reads_8 ⟨Nat.le_of_ble_eq_true rfl, Nat.le_of_ble_eq_true rfl⟩) hP hS hA (fun r_1 H locs wr_1 hP hS => ?_)
      rcases wr_1 with ⟨rfl, hb1⟩ | ⟨rfl, rfl⟩
      · refine lv_if_eq (tgt := 66) hx hb dX12_reads_11 (by decide) (fun _ => ?_) (fun c => absurd c (by decide))
        refine lv_iload_n hx hb dX12_reads_66 rfl (lv_at hl 0 rfl) ?_
        rw [hQ]
        exact W.iret (v := nI vn) hx hb hr (fun tt9 ht hW => ⟨⟨(nI vn : Int32), ((im_7 : Nat → Int32), (pl_w : Nat), (bd_w : Int32)), rfl, (lf_X12_reads_t_2 h q im pl ed m_tape hf_pl hf_ed hf_b0 hed hdg vn im_7 pl_w bd_w k7 hk7 hsb hm7_19 hm7_20 hm7_21 h1w h2w h3w h4w h5w h6w hb1), ⟨by rw [ht]; exact hP, hD⟩⟩, hS.F ht⟩) hS.2.2 dX12_reads_67 hlocks
      · refine lv_if_eq (tgt := 66) hx hb dX12_reads_11 (by decide) (fun c => absurd c (by decide)) (fun _ => ?_)
        refine lv_aload_n hx hb dX12_reads_14 rfl (lv_at hl 2 rfl) ?_
        refine eRi (va_runV (As := []) (rest := []) ⟨hx, hb, hml, hown, hts⟩ (c_X12_seesDigit_t l D cI cB cZ cJ tx h q im_7 pl_w ed m_tape hm7_19 hm7_20 (lf_X12_reads_t_3 h q im pl ed m_tape hf_pl hf_ed hf_b0 hed hdg vn im_7 pl_w (0) k7 hk7 hsb hm7_19 hm7_20 hm7_21 h1w h2w h3w h4w h5w h6w rfl) (lf_X12_reads_t_4 h q im pl ed m_tape hf_pl hf_ed hf_b0 hed hdg vn im_7 pl_w (0) k7 hk7 hsb hm7_19 hm7_20 hm7_21 h1w h2w h3w h4w h5w h6w rfl) H.size) (zV hts k_1662 v_X12_seesDigit ⟨Nat.le_of_ble_eq_true rfl, Nat.le_of_ble_eq_true rfl⟩) (pV (pxS hK hP hD [0, 1] (by decide) rfl) hK hP 0 rfl rfl) rfl rfl hl.1 rfl (lv_room (Nat.le_of_ble_eq_true rfl)) dX12_reads_15 ⟨Nat.le_of_ble_eq_true rfl, Nat.le_of_ble_eq_true rfl⟩) hP hS hA (fun r_5 H locs wr_5 hP hS => ?_)
        subst wr_5
        refine lv_bi_eq (tgt := 66) hx hb dX12_reads_18 (by decide) (fun c_6 => ?_) (fun c_6 => ?_)
        · refine lv_iload_n hx hb dX12_reads_66 rfl (lv_at hl 0 rfl) ?_
          rw [hQ]
          exact W.iret (v := nI vn) hx hb hr (fun tt9 ht hW => ⟨⟨(nI vn : Int32), ((im_7 : Nat → Int32), (pl_w : Nat), (0 : Int32)), rfl, (lf_X12_reads_t_7 h q im pl ed m_tape hf_pl hf_ed hf_b0 hed hdg vn im_7 pl_w (0) k7 hk7 hsb hm7_19 hm7_20 hm7_21 h1w h2w h3w h4w h5w h6w rfl c_6), ⟨by rw [ht]; exact hP, hD⟩⟩, hS.F ht⟩) hS.2.2 dX12_reads_67 hlocks
        · refine lv_aload_n hx hb dX12_reads_21 rfl (lv_at hl 2 rfl) ?_
          refine va_get (D := D) (ci := 12) (v := .int (im_7 19)) (C := RX12) (T := TX12) (N := 81) hx hb hts inT_X12 hown hK.1 hP 0 rfl rfl 19 (by decide) (hts _ k_1372) (fun _ h9 => h9) rfl dX12_reads_22 ?_
          refine lv_topv (y := nI pl_w) hm7_19 ?_
          refine lv_iload_n hx hb dX12_reads_25 rfl (lv_at hl 1 rfl) ?_
          refine lv_iconst (v := 5) hx hb dX12_reads_26 (by decide) ?_
          refine lv_iadd hx hb dX12_reads_27 ?_
          refine lv_topv (y := nI (pl + 5)) (nI_add pl 5) ?_
          refine lv_icmp_ne (tgt := 40) hx hb dX12_reads_28 (by decide) (fun c_8 => ?_) (fun c_8 => ?_)
          · have n_9 : pl_w ≠ (pl + 5) := (lf_X12_reads_t_10 h q im pl ed m_tape hf_pl hf_ed hf_b0 hed hdg vn im_7 pl_w (0) k7 hk7 hsb hm7_19 hm7_20 hm7_21 h1w h2w h3w h4w h5w h6w rfl c_6 c_8)
            refine lv_bipush (v := 10) hx hb dX12_reads_40 (by decide) ?_
            refine lv_iload_n hx hb dX12_reads_42 rfl (lv_at hl 0 rfl) ?_
            refine lv_imul hx hb dX12_reads_43 ?_
            refine lv_topv (y := nI (10 * vn)) (pk_mul 10 vn) ?_
            refine lv_aload_n hx hb dX12_reads_44 rfl (lv_at hl 2 rfl) ?_
            refine eRi (va_runV (As := []) (rest := [.int (nI (10 * vn))]) ⟨hx, hb, hml, hown, hts⟩ (c_X12_here_t l D cI cB cZ cJ tx h q im_7 pl_w ed m_tape hm7_19 hm7_20 (lf_X12_reads_t_11 h q im pl ed m_tape hf_pl hf_ed hf_b0 hed hdg vn im_7 pl_w (0) k7 hk7 hsb hm7_19 hm7_20 hm7_21 h1w h2w h3w h4w h5w h6w rfl c_6 c_8 n_9) (lf_X12_reads_t_12 h q im pl ed m_tape hf_pl hf_ed hf_b0 hed hdg vn im_7 pl_w (0) k7 hk7 hsb hm7_19 hm7_20 hm7_21 h1w h2w h3w h4w h5w h6w rfl c_6 c_8 n_9) H.size) (zV hts k_1635 v_X12_here ⟨Nat.le_of_ble_eq_true rfl, Nat.le_of_ble_eq_true rfl⟩) (pV (pxS hK hP hD [0, 1] (by decide) rfl) hK hP 0 rfl rfl) rfl rfl hl.1 rfl (lv_room (Nat.le_of_ble_eq_true rfl)) dX12_reads_45 ⟨Nat.le_of_ble_eq_true rfl, Nat.le_of_ble_eq_true rfl⟩) hP hS hA (fun r_13 H locs wr_13 hP hS => ?_)
            rcases wr_13 with rfl
            · have hb13 : (bF m_tape ed pl_w) < 256 := bF_lt _ _ _
              refine lv_iadd hx hb dX12_reads_48 ?_
              refine lv_topv (y := nI ((10 * vn) + (bF m_tape ed pl_w))) (nI_add (10 * vn) (bF m_tape ed pl_w)) ?_
              refine lv_bipush (v := 48) hx hb dX12_reads_49 (by decide) ?_
              refine lv_isub hx hb dX12_reads_51 ?_
              refine lv_topv (y := nI (((10 * vn) + (bF m_tape ed pl_w)) - 48)) (pk_sub (lf_X12_reads_t_14 h q im pl ed m_tape hf_pl hf_ed hf_b0 hed hdg vn im_7 pl_w (0) k7 hk7 hsb hm7_19 hm7_20 hm7_21 h1w h2w h3w h4w h5w h6w rfl c_6 c_8 n_9 hb13)) ?_
              refine lv_istore_n (lv' := [(2, .int (nI (((10 * vn) + (bF m_tape ed pl_w)) - 48))), (1, .int (nI pl)), (0, .ref h)]) hx hb dX12_reads_52 rfl hl (by decide) rfl (fun ls hl => ?_)
              refine lv_aload_n hx hb dX12_reads_53 rfl (lv_at hl 2 rfl) ?_
              refine lv_dup hx hb dX12_reads_54 rfl ?_
              refine va_get (D := D) (ci := 12) (v := .int (im_7 19)) (C := RX12) (T := TX12) (N := 81) hx hb hts inT_X12 hown hK.1 hP 0 rfl rfl 19 (by decide) (hts _ k_1372) (fun _ h9 => h9) rfl dX12_reads_55 ?_
              refine lv_topv (y := nI pl_w) hm7_19 ?_
              refine lv_iconst (v := 1) hx hb dX12_reads_58 (by decide) ?_
              refine lv_iadd hx hb dX12_reads_59 ?_
              refine lv_topv (y := nI (pl_w + 1)) (nI_add pl_w 1) ?_
              refine va_put (D := D) (ci := 12) (v := .int (nI (pl_w + 1))) (ty := .int) (C := RX12) (T := TX12) (N := 81) hx hb hts inT_X12 tyX12 tyX12_ok nmX12 hown hK.1 hP hD hS 0 rfl rfl 19 (by decide) (hts _ k_1372) (fun _ h9 => h9) rfl (by decide +kernel) rfl rfl (Nat.le_of_ble_eq_true rfl) dX12_reads_60 (fun H locs hP hD hS => ?_)
              obtain ⟨i_15, ei_15⟩ : ∃ z : Nat → Int32, z = upd im_7 19 (nI (pl_w + 1)) := ⟨_, rfl⟩
              have hi_15_20 : i_15 20 = nI ed := by rw [ei_15]; exact hm7_20
              have hi_15_21 : i_15 21 = 0 := by rw [ei_15]; exact hm7_21
              have hi_15_19 : i_15 19 = nI (pl_w + 1) := by rw [ei_15]; rfl
              have hsb := SB.put hsb ei_15 (by decide)
              have hP : va_P D vwCl [(h, .inr (12, mG q i_15)), (q 0, .inl (cB, 220, .inl m_tape))] H := by rw [ei_15, ← mG_19]; exact hP
              have hD : va_D A [(h, .inr (12, mG q i_15)), (q 0, .inl (cB, 220, .inl m_tape))] := by rw [ei_15, ← mG_19]; exact hD
              refine lv_goto (tgt := 7) hx hb dX12_reads_63 (by decide) ?_
              exact ih7 (((10 * vn) + (bF m_tape ed pl_w)) - 48) i_15 (pl_w + 1) 0 H locs ls (lf_X12_reads_t_22 h q im pl ed m_tape hf_pl hf_ed hf_b0 hed hdg vn im_7 pl_w (0) k7 hk7 hm7_19 hm7_20 hm7_21 h1w h2w h3w h4w h5w h6w rfl c_6 c_8 n_9 hb13 i_15 hsb) hsb hi_15_19 hi_15_20 hi_15_21 (lf_X12_reads_t_16 h q im pl ed m_tape hf_pl hf_ed hf_b0 hed hdg vn im_7 pl_w (0) k7 hk7 hm7_19 hm7_20 hm7_21 h1w h2w h3w h4w h5w h6w rfl c_6 c_8 n_9 hb13 i_15 hsb) (lf_X12_reads_t_17 h q im pl ed m_tape hf_pl hf_ed hf_b0 hed hdg vn im_7 pl_w (0) k7 hk7 hm7_19 hm7_20 hm7_21 h1w h2w h3w h4w h5w h6w rfl c_6 c_8 n_9 hb13 i_15 hsb) (lf_X12_reads_t_18 h q im pl ed m_tape hf_pl hf_ed hf_b0 hed hdg vn im_7 pl_w (0) k7 hk7 hm7_19 hm7_20 hm7_21 h1w h2w h3w h4w h5w h6w rfl c_6 c_8 n_9 hb13 i_15 hsb) (lf_X12_reads_t_19 h q im pl ed m_tape hf_pl hf_ed hf_b0 hed hdg vn im_7 pl_w (0) k7 hk7 hm7_19 hm7_20 hm7_21 h1w h2w h3w h4w h5w h6w rfl c_6 c_8 n_9 hb13 i_15 hsb) (lf_X12_reads_t_20 h q im pl ed m_tape hf_pl hf_ed hf_b0 hed hdg vn im_7 pl_w (0) k7 hk7 hm7_19 hm7_20 hm7_21 h1w h2w h3w h4w h5w h6w rfl c_6 c_8 n_9 hb13 i_15 hsb) (lf_X12_reads_t_21 h q im pl ed m_tape hf_pl hf_ed hf_b0 hed hdg vn im_7 pl_w (0) k7 hk7 hm7_19 hm7_20 hm7_21 h1w h2w h3w h4w h5w h6w rfl c_6 c_8 n_9 hb13 i_15 hsb) (hP.sub [0, 1] rfl) (hD.sub [0, 1] (by decide) rfl) hS (lv_sub hl [0, 1, 2] rfl)
          · have n_23 : pl_w = (pl + 5) := (lf_X12_reads_t_24 h q im pl ed m_tape hf_pl hf_ed hf_b0 hed hdg vn im_7 pl_w (0) k7 hk7 hsb hm7_19 hm7_20 hm7_21 h1w h2w h3w h4w h5w h6w rfl c_6 c_8)
            refine lv_aload_n hx hb dX12_reads_31 rfl (lv_at hl 2 rfl) ?_
            refine lv_iconst (v := 2) hx hb dX12_reads_32 (by decide) ?_
            refine lv_aload_n hx hb dX12_reads_33 rfl (lv_at hl 2 rfl) ?_
            refine va_get (D := D) (ci := 12) (v := .int (im_7 19)) (C := RX12) (T := TX12) (N := 81) hx hb hts inT_X12 hown hK.1 hP 0 rfl rfl 19 (by decide) (hts _ k_1372) (fun _ h9 => h9) rfl dX12_reads_34 ?_
            refine lv_topv (y := nI pl_w) hm7_19 ?_
            refine eWvP (va_runV (As := [.int 2, .int (nI pl_w)]) (rest := []) ⟨hx, hb, hml, hown, hts⟩ (c_X12_wrongs_t l D cI cB cZ cJ tx h q im_7 2 pl_w hm7_21 (lf_X12_reads_t_25 h q im pl ed m_tape hf_pl hf_ed hf_b0 hed hdg vn im_7 pl_w (0) k7 hk7 hsb hm7_19 hm7_20 hm7_21 h1w h2w h3w h4w h5w h6w rfl c_6 c_8 n_23) (lf_X12_reads_t_26 h q im pl ed m_tape hf_pl hf_ed hf_b0 hed hdg vn im_7 pl_w (0) k7 hk7 hsb hm7_19 hm7_20 hm7_21 h1w h2w h3w h4w h5w h6w rfl c_6 c_8 n_23) (lf_X12_reads_t_27 h q im pl ed m_tape hf_pl hf_ed hf_b0 hed hdg vn im_7 pl_w (0) k7 hk7 hsb hm7_19 hm7_20 hm7_21 h1w h2w h3w h4w h5w h6w rfl c_6 c_8 n_23) H.size) (zV hts k_1642 v_X12_wrongs ⟨Nat.le_of_ble_eq_true rfl, Nat.le_of_ble_eq_true rfl⟩) (pV (pxS hK hP hD [0] (by decide) rfl) hK hP 0 rfl rfl) rfl rfl hl.1 rfl (lv_room (Nat.le_of_ble_eq_true rfl)) dX12_reads_37 ⟨Nat.le_of_ble_eq_true rfl, Nat.le_of_ble_eq_true rfl⟩) hP hD hS hA [0] [some 0, none] rfl (by decide +kernel) (fun _ => rfl) (fun u_29 H locs wr_28 hP hD hS => ?_)
            obtain ⟨im_29, bd_29⟩ := u_29
            have hz_29_0 : SB [21] im_7 im_29 := wr_28.1
            have hz_29_1 : im_29 21 = bd_29 := wr_28.2.1
            have hz_29_2 : bd_29 < 0 := wr_28.2.2.1
            have hz_29_3 : ¬ bd_29 = 0 := wr_28.2.2.2.1
            have hz_29_4 : bd_29 = (-1000) * nI 2 - nI pl_w := wr_28.2.2.2.2
            have hk_29_19 : im_29 19 = nI pl_w := (hz_29_0 19 (by decide)).trans hm7_19
            have hk_29_20 : im_29 20 = nI ed := (hz_29_0 20 (by decide)).trans hm7_20
            have hsb := SB.step hsb hz_29_0 (by decide)
            have hPD := pd_mk (ws := [(h, .inr (12, mG q im_29)), (q 0, .inl (cB, 220, .inl m_tape))]) hP hD
            have hP := hPD.1
            have hD := hPD.2
            refine lv_bipush (v := 10) hx hb dX12_reads_40 (by decide) ?_
            refine lv_iload_n hx hb dX12_reads_42 rfl (lv_at hl 0 rfl) ?_
            refine lv_imul hx hb dX12_reads_43 ?_
            refine lv_topv (y := nI (10 * vn)) (pk_mul 10 vn) ?_
            refine lv_aload_n hx hb dX12_reads_44 rfl (lv_at hl 2 rfl) ?_
            refine eRi (va_runV (As := []) (rest := [.int (nI (10 * vn))]) ⟨hx, hb, hml, hown, hts⟩ (c_X12_here_t l D cI cB cZ cJ tx h q im_29 pl_w ed m_tape hk_29_19 hk_29_20 (lf_X12_reads_t_30 h q im pl ed m_tape hf_pl hf_ed hf_b0 hed hdg vn im_7 pl_w (0) k7 hk7 hm7_19 hm7_20 hm7_21 h1w h2w h3w h4w h5w h6w rfl c_6 c_8 n_23 im_29 bd_29 hz_29_0 hz_29_1 hz_29_2 hz_29_3 hz_29_4 hsb) (lf_X12_reads_t_31 h q im pl ed m_tape hf_pl hf_ed hf_b0 hed hdg vn im_7 pl_w (0) k7 hk7 hm7_19 hm7_20 hm7_21 h1w h2w h3w h4w h5w h6w rfl c_6 c_8 n_23 im_29 bd_29 hz_29_0 hz_29_1 hz_29_2 hz_29_3 hz_29_4 hsb) H.size) (zV hts k_1635 v_X12_here ⟨Nat.le_of_ble_eq_true rfl, Nat.le_of_ble_eq_true rfl⟩) (pV (pxS hK hP hD [0, 1] (by decide) rfl) hK hP 0 rfl rfl) rfl rfl hl.1 rfl (lv_room (Nat.le_of_ble_eq_true rfl)) dX12_reads_45 ⟨Nat.le_of_ble_eq_true rfl, Nat.le_of_ble_eq_true rfl⟩) hP hS hA (fun r_32 H locs wr_32 hP hS => ?_)
            rcases wr_32 with rfl
            · have hb32 : (bF m_tape ed pl_w) < 256 := bF_lt _ _ _
              refine lv_iadd hx hb dX12_reads_48 ?_
              refine lv_topv (y := nI ((10 * vn) + (bF m_tape ed pl_w))) (nI_add (10 * vn) (bF m_tape ed pl_w)) ?_
              refine lv_bipush (v := 48) hx hb dX12_reads_49 (by decide) ?_
              refine lv_isub hx hb dX12_reads_51 ?_
              refine lv_topv (y := nI (((10 * vn) + (bF m_tape ed pl_w)) - 48)) (pk_sub (lf_X12_reads_t_33 h q im pl ed m_tape hf_pl hf_ed hf_b0 hed hdg vn im_7 pl_w (0) k7 hk7 hm7_19 hm7_20 hm7_21 h1w h2w h3w h4w h5w h6w rfl c_6 c_8 n_23 im_29 bd_29 hz_29_0 hz_29_1 hz_29_2 hz_29_3 hz_29_4 hsb hb32)) ?_
              refine lv_istore_n (lv' := [(2, .int (nI (((10 * vn) + (bF m_tape ed pl_w)) - 48))), (1, .int (nI pl)), (0, .ref h)]) hx hb dX12_reads_52 rfl hl (by decide) rfl (fun ls hl => ?_)
              refine lv_aload_n hx hb dX12_reads_53 rfl (lv_at hl 2 rfl) ?_
              refine lv_dup hx hb dX12_reads_54 rfl ?_
              refine va_get (D := D) (ci := 12) (v := .int (im_29 19)) (C := RX12) (T := TX12) (N := 81) hx hb hts inT_X12 hown hK.1 hP 0 rfl rfl 19 (by decide) (hts _ k_1372) (fun _ h9 => h9) rfl dX12_reads_55 ?_
              refine lv_topv (y := nI pl_w) hk_29_19 ?_
              refine lv_iconst (v := 1) hx hb dX12_reads_58 (by decide) ?_
              refine lv_iadd hx hb dX12_reads_59 ?_
              refine lv_topv (y := nI (pl_w + 1)) (nI_add pl_w 1) ?_
              refine va_put (D := D) (ci := 12) (v := .int (nI (pl_w + 1))) (ty := .int) (C := RX12) (T := TX12) (N := 81) hx hb hts inT_X12 tyX12 tyX12_ok nmX12 hown hK.1 hP hD hS 0 rfl rfl 19 (by decide) (hts _ k_1372) (fun _ h9 => h9) rfl (by decide +kernel) rfl rfl (Nat.le_of_ble_eq_true rfl) dX12_reads_60 (fun H locs hP hD hS => ?_)
              obtain ⟨i_34, ei_34⟩ : ∃ z : Nat → Int32, z = upd im_29 19 (nI (pl_w + 1)) := ⟨_, rfl⟩
              have hi_34_20 : i_34 20 = nI ed := by rw [ei_34]; exact hk_29_20
              have hi_34_21 : i_34 21 = bd_29 := by rw [ei_34]; exact hz_29_1
              have hi_34_19 : i_34 19 = nI (pl_w + 1) := by rw [ei_34]; rfl
              have hsb := SB.put hsb ei_34 (by decide)
              have hP : va_P D vwCl [(h, .inr (12, mG q i_34)), (q 0, .inl (cB, 220, .inl m_tape))] H := by rw [ei_34, ← mG_19]; exact hP
              have hD : va_D A [(h, .inr (12, mG q i_34)), (q 0, .inl (cB, 220, .inl m_tape))] := by rw [ei_34, ← mG_19]; exact hD
              refine lv_goto (tgt := 7) hx hb dX12_reads_63 (by decide) ?_
              exact ih7 (((10 * vn) + (bF m_tape ed pl_w)) - 48) i_34 (pl_w + 1) bd_29 H locs ls (lf_X12_reads_t_41 h q im pl ed m_tape hf_pl hf_ed hf_b0 hed hdg vn im_7 pl_w (0) k7 hk7 hm7_19 hm7_20 hm7_21 h1w h2w h3w h4w h5w h6w rfl c_6 c_8 n_23 im_29 bd_29 hz_29_0 hz_29_1 hz_29_2 hz_29_3 hz_29_4 hb32 i_34 hsb) hsb hi_34_19 hi_34_20 hi_34_21 (lf_X12_reads_t_35 h q im pl ed m_tape hf_pl hf_ed hf_b0 hed hdg vn im_7 pl_w (0) k7 hk7 hm7_19 hm7_20 hm7_21 h1w h2w h3w h4w h5w h6w rfl c_6 c_8 n_23 im_29 bd_29 hz_29_0 hz_29_1 hz_29_2 hz_29_3 hz_29_4 hb32 i_34 hsb) (lf_X12_reads_t_36 h q im pl ed m_tape hf_pl hf_ed hf_b0 hed hdg vn im_7 pl_w (0) k7 hk7 hm7_19 hm7_20 hm7_21 h1w h2w h3w h4w h5w h6w rfl c_6 c_8 n_23 im_29 bd_29 hz_29_0 hz_29_1 hz_29_2 hz_29_3 hz_29_4 hb32 i_34 hsb) (lf_X12_reads_t_37 h q im pl ed m_tape hf_pl hf_ed hf_b0 hed hdg vn im_7 pl_w (0) k7 hk7 hm7_19 hm7_20 hm7_21 h1w h2w h3w h4w h5w h6w rfl c_6 c_8 n_23 im_29 bd_29 hz_29_0 hz_29_1 hz_29_2 hz_29_3 hz_29_4 hb32 i_34 hsb) (lf_X12_reads_t_38 h q im pl ed m_tape hf_pl hf_ed hf_b0 hed hdg vn im_7 pl_w (0) k7 hk7 hm7_19 hm7_20 hm7_21 h1w h2w h3w h4w h5w h6w rfl c_6 c_8 n_23 im_29 bd_29 hz_29_0 hz_29_1 hz_29_2 hz_29_3 hz_29_4 hb32 i_34 hsb) (lf_X12_reads_t_39 h q im pl ed m_tape hf_pl hf_ed hf_b0 hed hdg vn im_7 pl_w (0) k7 hk7 hm7_19 hm7_20 hm7_21 h1w h2w h3w h4w h5w h6w rfl c_6 c_8 n_23 im_29 bd_29 hz_29_0 hz_29_1 hz_29_2 hz_29_3 hz_29_4 hb32 i_34 hsb) (lf_X12_reads_t_40 h q im pl ed m_tape hf_pl hf_ed hf_b0 hed hdg vn im_7 pl_w (0) k7 hk7 hm7_19 hm7_20 hm7_21 h1w h2w h3w h4w h5w h6w rfl c_6 c_8 n_23 im_29 bd_29 hz_29_0 hz_29_1 hz_29_2 hz_29_3 hz_29_4 hb32 i_34 hsb) (hP.sub [0, 1] rfl) (hD.sub [0, 1] (by decide) rfl) hS (lv_sub hl [0, 1, 2] rfl)
  exact lp7 (201) 0 im pl 0 H locs ls (lf_X12_reads_t_48 h q im pl ed m_tape hf_pl hf_ed hf_b0 hed hdg hsb) hsb hf_pl hf_ed hf_b0 (lf_X12_reads_t_42 h q im pl ed m_tape hf_pl hf_ed hf_b0 hed hdg hsb) (lf_X12_reads_t_43 h q im pl ed m_tape hf_pl hf_ed hf_b0 hed hdg hsb) (lf_X12_reads_t_44 h q im pl ed m_tape hf_pl hf_ed hf_b0 hed hdg hsb) (lf_X12_reads_t_45 h q im pl ed m_tape hf_pl hf_ed hf_b0 hed hdg hsb) (lf_X12_reads_t_46 h q im pl ed m_tape hf_pl hf_ed hf_b0 hed hdg hsb) (lf_X12_reads_t_47 h q im pl ed m_tape hf_pl hf_ed hf_b0 hed hdg hsb) (hP.sub [0, 1] rfl) (hD.sub [0, 1] (by decide) rfl) hS (lv_sub hl [0, 1, 2] rfl)
