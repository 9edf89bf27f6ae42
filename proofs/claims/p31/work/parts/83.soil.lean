def sm (g : Nat → Int32) : Nat → Int32
  | 0 => 0
  | n + 1 => sm g n + g n
def amI (f : Nat → Int32) (i : Nat) (s : Int32) (c : Nat) : Nat → Int32
  | 0 => s
  | x + 1 => amI f i s c x + f (i * 12 + (c + x))
def amO (f : Nat → Int32) (c w r : Nat) : Nat → Int32
  | 0 => 0
  | y + 1 => amI f (r + y) (amO f c w r y) c w
def mcI (f : Nat → Int32) (c r x : Nat) (s : Int32) : Nat → Int32
  | 0 => s
  | y + 1 => mcI f c r x s y + f (12 * (r + y) + c + x)
def mcO (f : Nat → Int32) (c r h : Nat) : Nat → Int32
  | 0 => 0
  | x + 1 => mcI f c r x (mcO f c r h x) h
theorem i32_0a (n : Int32) : 0 + n = n := by
  apply Int32.toBitVec_inj.mp
  simp
theorem i32_a0' (n : Int32) : n + 0 = n := by
  apply Int32.toBitVec_inj.mp
  simp
theorem amI_s {f : Nat → Int32} {i c j : Nat} {s w x : Int32} (hc : c ≤ j) (hw : w = amI f i s c (j - c)) (ex : x = w + f (i * 12 + j)) : x = amI f i s c (j + 1 - c) := by
  have e : j + 1 - c = (j - c) + 1 := by omega
  have e2 : c + (j - c) = j := by omega
  rw [e]
  show x = amI f i s c (j - c) + f (i * 12 + (c + (j - c)))
  rw [e2, ex, hw]
theorem amI_0 {f : Nat → Int32} {i c : Nat} {s : Int32} : s = amI f i s c (c - c) := by
  rw [Nat.sub_self]
  rfl
theorem amO_0 {f : Nat → Int32} {c w r : Nat} : 0 = amO f c w r (r - r) := by
  rw [Nat.sub_self]
  rfl
theorem amO_s {f : Nat → Int32} {c w r j k : Nat} {s x : Int32} (hr : r ≤ j) (h1 : c + w ≤ k) (h2 : k ≤ c + w) (hs : s = amO f c w r (j - r)) (hx : x = amI f j s c (k - c)) : x = amO f c w r (j + 1 - r) := by
  have e : j + 1 - r = (j - r) + 1 := by omega
  have e2 : r + (j - r) = j := by omega
  have e3 : k - c = w := by omega
  rw [e]
  show x = amI f (r + (j - r)) (amO f c w r (j - r)) c w
  rw [e2, hx, hs, e3]
theorem amO_l {f : Nat → Int32} {c w r h j : Nat} {s : Int32} (h1 : j ≤ r + h) (h2 : r + h ≤ j) (hs : s = amO f c w r (j - r)) : s = amO f c w r h := by
  have e : j - r = h := by omega
  rw [← e]
  exact hs
theorem mcI_s {f : Nat → Int32} {c r x j : Nat} {s w v : Int32} (hw : w = mcI f c r x s j) (ev : v = w + f (12 * (r + j) + c + x)) : v = mcI f c r x s (j + 1) := by
  show v = mcI f c r x s j + f (12 * (r + j) + c + x)
  rw [ev, hw]
theorem mcO_s {f : Nat → Int32} {c r h x j : Nat} {s w : Int32} (h1 : j ≤ h) (h2 : h ≤ j) (hs : s = mcO f c r h x) (hw : w = mcI f c r x s j) : w = mcO f c r h (x + 1) := by
  have e : j = h := by omega
  subst e
  show w = mcI f c r x (mcO f c r j x) j
  rw [hw, hs]
theorem sm_zero (n : Nat) : sm (fun _ => 0) n = 0 := by
  induction n with
  | zero => rfl
  | succ n ih =>
    show sm (fun _ => 0) n + 0 = 0
    rw [ih]
    rfl
theorem sm_add (g h : Nat → Int32) (n : Nat) : sm (fun x => g x + h x) n = sm g n + sm h n := by
  induction n with
  | zero => rfl
  | succ n ih =>
    show sm (fun x => g x + h x) n + (g n + h n) = (sm g n + g n) + (sm h n + h n)
    rw [ih]
    ac_rfl
theorem sm_swap (F : Nat → Nat → Int32) (h w : Nat) : sm (fun y => sm (fun x => F y x) w) h = sm (fun x => sm (fun y => F y x) h) w := by
  induction h with
  | zero => exact (sm_zero w).symm
  | succ n ih =>
    show sm (fun y => sm (fun x => F y x) w) n + sm (fun x => F n x) w = sm (fun x => sm (fun y => F y x) n + F n x) w
    rw [ih, sm_add]
theorem sm_congr {g h : Nat → Int32} (n : Nat) (e : ∀ x, x < n → g x = h x) : sm g n = sm h n := by
  induction n with
  | zero => rfl
  | succ n ih =>
    show sm g n + g n = sm h n + h n
    rw [ih (fun x hx => e x (by omega)), e n (by omega)]
theorem amI_sm (f : Nat → Int32) (i : Nat) (s : Int32) (c n : Nat) : amI f i s c n = s + sm (fun x => f (i * 12 + (c + x))) n := by
  induction n with
  | zero => exact (i32_a0' s).symm
  | succ n ih =>
    show amI f i s c n + f (i * 12 + (c + n)) = s + (sm (fun x => f (i * 12 + (c + x))) n + f (i * 12 + (c + n)))
    rw [ih, Int32.add_assoc]
theorem amO_sm (f : Nat → Int32) (c w r n : Nat) : amO f c w r n = sm (fun y => sm (fun x => f ((r + y) * 12 + (c + x))) w) n := by
  induction n with
  | zero => rfl
  | succ n ih =>
    show amI f (r + n) (amO f c w r n) c w = sm (fun y => sm (fun x => f ((r + y) * 12 + (c + x))) w) n + sm (fun x => f ((r + n) * 12 + (c + x))) w
    rw [amI_sm, ih]
theorem mcI_sm (f : Nat → Int32) (c r x : Nat) (s : Int32) (n : Nat) : mcI f c r x s n = s + sm (fun y => f (12 * (r + y) + c + x)) n := by
  induction n with
  | zero => exact (i32_a0' s).symm
  | succ n ih =>
    show mcI f c r x s n + f (12 * (r + n) + c + x) = s + (sm (fun y => f (12 * (r + y) + c + x)) n + f (12 * (r + n) + c + x))
    rw [ih, Int32.add_assoc]
theorem mcO_sm (f : Nat → Int32) (c r h n : Nat) : mcO f c r h n = sm (fun x => sm (fun y => f (12 * (r + y) + c + x)) h) n := by
  induction n with
  | zero => rfl
  | succ n ih =>
    show mcI f c r n (mcO f c r h n) h = sm (fun x => sm (fun y => f (12 * (r + y) + c + x)) h) n + sm (fun y => f (12 * (r + y) + c + n)) h
    rw [mcI_sm, ih]
theorem mc_am (f : Nat → Int32) (c r w h : Nat) : mcO f c r h w = amO f c w r h := by
  rw [mcO_sm, amO_sm, sm_swap]
  apply sm_congr
  intro x _
  apply sm_congr
  intro y _
  congr 1
  omega
theorem mcO_l {f : Nat → Int32} {c r w h j : Nat} {s : Int32} (h1 : j ≤ w) (h2 : w ≤ j) (hs : s = mcO f c r h j) : s = amO f c w r h := by
  have e : j = w := by omega
  subst e
  rw [← mc_am]
  exact hs
theorem sm_bd (g : Nat → Int32) (B : Int) (hB : 0 ≤ B) (n : Nat) (h : ∀ x, x < n → 0 ≤ (g x).toInt ∧ (g x).toInt ≤ B) (hn : (n : Int) * B < 2147483648) : 0 ≤ (sm g n).toInt ∧ (sm g n).toInt ≤ (n : Int) * B := by
  induction n with
  | zero =>
    refine ⟨?_, ?_⟩
    · show (0 : Int) ≤ (0 : Int32).toInt
      decide
    · show (0 : Int32).toInt ≤ ((0 : Nat) : Int) * B
      rw [show ((0 : Nat) : Int) = 0 from rfl, Int.zero_mul]
      decide
  | succ n ih =>
    have e1 : ((n + 1 : Nat) : Int) * B = (n : Int) * B + B := by
      rw [Int.natCast_add, Int.add_mul]
      omega
    rw [e1] at hn ⊢
    obtain ⟨a1, a2⟩ := ih (fun x hx => h x (by omega)) (by omega)
    obtain ⟨b1, b2⟩ := h n (by omega)
    have e : (sm g (n + 1)).toInt = (sm g n).toInt + (g n).toInt := by
      show (sm g n + g n).toInt = _
      rw [Int32.toInt_add]
      apply Int.bmod_eq_of_le <;> omega
    rw [e]
    omega
abbrev cel (f : Nat → Int32) : Prop := ∀ i, i < 72 → (0 : Int32) ≤ f i ∧ f i ≤ 999
theorem cel_b {f : Nat → Int32} (h : cel f) {i : Nat} (hi : i < 72) : 0 ≤ (f i).toInt ∧ (f i).toInt ≤ 999 := by
  have q := h i hi
  have h1 := Int32.le_iff_toInt_le.mp q.1
  have h2 := Int32.le_iff_toInt_le.mp q.2
  have e1 : (0 : Int32).toInt = 0 := by decide
  have e2 : (999 : Int32).toInt = 999 := by decide
  rw [e1] at h1
  rw [e2] at h2
  exact ⟨h1, h2⟩
theorem am_pos {f : Nat → Int32} (hf : cel f) {c r w h : Nat} (h1 : c + w ≤ 12) (h2 : r + h ≤ 6) : (-1 : Int32) < amO f c w r h := by
  rw [amO_sm]
  have q := sm_bd (fun y => sm (fun x => f ((r + y) * 12 + (c + x))) w) 11988 (by decide) h (fun y hy => by
    have q := sm_bd (fun x => f ((r + y) * 12 + (c + x))) 999 (by decide) w (fun x hx => cel_b hf (by omega)) (by omega)
    exact ⟨q.1, by omega⟩) (by omega)
  apply Int32.lt_iff_toInt_lt.mpr
  have e : (-1 : Int32).toInt = -1 := by decide
  rw [e]
  omega
abbrev WG : Type := Int32 × Int32 × Int32 × Int32
def wg (s : WG) (c r v : Int32) : WG := if s.1 < v then (v, c, r, 1) else if v = s.1 then (s.1, s.2.1, s.2.2.1, s.2.2.2 + 1) else (s.1, s.2.1, s.2.2.1, s.2.2.2 + 0)
theorem wg_1 {m a b k c r v : Int32} (h : ¬ v ≤ m) : ((v, c, r, (1 : Int32)) : WG) = wg (m, a, b, k) c r v := by
  unfold wg
  rw [if_pos (Int32.not_le.mp h)]
theorem wg_2 {m a b k c r v x : Int32} (h : v ≤ m) (e : v = m) (ex : x = k + 1) : ((m, a, b, x) : WG) = wg (m, a, b, k) c r v := by
  unfold wg
  rw [if_neg (Int32.not_lt.mpr h), if_pos e, ex]
theorem wg_3 {m a b k c r v x : Int32} (h : v ≤ m) (e : ¬ v = m) (ex : x = k + 0) : ((m, a, b, x) : WG) = wg (m, a, b, k) c r v := by
  unfold wg
  rw [if_neg (Int32.not_lt.mpr h), if_neg e, ex]
theorem wg_4 {m a b k c r v x y : Int32} (h : ¬ v ≤ m) (e : v = v) (ex : x = y + 1) (ey : y = 0) : ((v, c, r, x) : WG) = wg (m, a, b, k) c r v := by
  subst ey
  subst ex
  exact wg_1 h
def bdI (V : Nat → Nat → Int32) (r : Nat) (s : WG) : Nat → WG
  | 0 => s
  | c + 1 => wg (bdI V r s c) (nI c) (nI r) (V c r)
def bdF (V : Nat → Nat → Int32) (W : Nat) (a b : Int32) : Nat → WG
  | 0 => (-1, a, b, 0)
  | r + 1 => bdI V r (bdF V W a b r) W
theorem bdI_s {V : Nat → Nat → Int32} {r c : Nat} {s t u : WG} (ht : t = bdI V r s c) (hu : u = wg t (nI c) (nI r) (V c r)) : u = bdI V r s (c + 1) := by
  show u = wg (bdI V r s c) (nI c) (nI r) (V c r)
  rw [hu, ht]
theorem bdF_s {V : Nat → Nat → Int32} {W r j : Nat} {a b : Int32} {s t : WG} (h1 : j ≤ W) (h2 : W ≤ j) (hs : s = bdF V W a b r) (ht : t = bdI V r s j) : t = bdF V W a b (r + 1) := by
  have e : j = W := by omega
  subst e
  show t = bdI V r (bdF V j a b r) j
  rw [ht, hs]
theorem bdF_l {V : Nat → Nat → Int32} {W R j : Nat} {a b : Int32} {s : WG} (h1 : j ≤ R) (h2 : R ≤ j) (hs : s = bdF V W a b j) : s = bdF V W a b R := by
  have e : j = R := by omega
  subst e
  exact hs
theorem bdI_i (V : Nat → Nat → Int32) (h : (-1 : Int32) < V 0 0) (a b a' b' : Int32) (k : Nat) : bdI V 0 (-1, a, b, 0) (k + 1) = bdI V 0 (-1, a', b', 0) (k + 1) := by
  induction k with
  | zero =>
    show wg (-1, a, b, 0) (nI 0) (nI 0) (V 0 0) = wg (-1, a', b', 0) (nI 0) (nI 0) (V 0 0)
    rw [← wg_1 (Int32.not_le.mpr h), ← wg_1 (Int32.not_le.mpr h)]
  | succ k ih =>
    show wg (bdI V 0 (-1, a, b, 0) (k + 1)) _ _ _ = wg (bdI V 0 (-1, a', b', 0) (k + 1)) _ _ _
    rw [ih]
theorem bdF_i (V : Nat → Nat → Int32) (h : (-1 : Int32) < V 0 0) (W : Nat) (hW : 1 ≤ W) (a b a' b' : Int32) (k : Nat) : bdF V W a b (k + 1) = bdF V W a' b' (k + 1) := by
  induction k with
  | zero =>
    show bdI V 0 (-1, a, b, 0) W = bdI V 0 (-1, a', b', 0) W
    obtain ⟨n, rfl⟩ : ∃ n, W = n + 1 := ⟨W - 1, by omega⟩
    exact bdI_i V h a b a' b' n
  | succ k ih =>
    show bdI V (k + 1) (bdF V W a b (k + 1)) W = bdI V (k + 1) (bdF V W a' b' (k + 1)) W
    rw [ih]
abbrev BOK3 (n1 n2 n3 : Int32) : Prop := ((1 : Int32) ≤ n1 ∧ n1 ≤ 12) ∧ ((1 : Int32) ≤ n2 ∧ n2 ≤ 6) ∧ ((0 : Int32) ≤ n3 ∧ n3 ≤ 4)
def boA (t : WG) (p n3 : Int32) : Int32 := if n3 = 0 then t.2.1 else if n3 = 1 then t.2.2.1 else if n3 = 2 then t.1 else if n3 = 3 then t.2.2.2 else p
def boT (f : Nat → Int32) (w h : Nat) : WG := bdF (fun c r => amO f c w r h) (13 - w) 0 0 (7 - h)
def boF (f : Nat → Int32) (n1 n2 n3 : Int32) : Int32 := if BOK3 n1 n2 n3 then boA (boT f n1.toNatClampNeg n2.toNatClampNeg) (nI ((7 - n2.toNatClampNeg) * (13 - n1.toNatClampNeg))) n3 else -1
theorem boT_of {f : Nat → Int32} (hf : cel f) {w h : Nat} (hw : w ≤ 12) (hh : h ≤ 6) {a b : Int32} {t : WG} (e : t = bdF (fun c r => amO f c w r h) (13 - w) a b (7 - h)) : t = boT f w h := by
  unfold boT
  obtain ⟨n, en⟩ : ∃ n, 7 - h = n + 1 := ⟨6 - h, by omega⟩
  rw [e, en]
  exact bdF_i (fun c r => amO f c w r h) (am_pos hf (c := 0) (r := 0) (w := w) (h := h) (by omega) (by omega)) (13 - w) (by omega) _ _ _ _ _
theorem boF_n {f : Nat → Int32} {n1 n2 n3 : Int32} (h : ¬ BOK3 n1 n2 n3) : -1 = boF f n1 n2 n3 := by
  unfold boF
  rw [if_neg h]
theorem boF_y {f : Nat → Int32} {n1 n2 n3 x : Int32} {w h k : Nat} (h1 : (1 : Int32) ≤ n1 ∧ n1 ≤ 12) (h2 : (1 : Int32) ≤ n2 ∧ n2 ≤ 6) (h3 : (0 : Int32) ≤ n3 ∧ n3 ≤ 4) (e1 : n1 = nI w) (e2 : n2 = nI h) (hw : w ≤ 12) (hh : h ≤ 6) (e : x = boA (boT f w h) (nI ((7 - h) * (13 - w))) n3) : x = boF f n1 n2 n3 := by
  have c1 : n1.toNatClampNeg = w := by rw [e1, nI_clamp (by omega)]
  have c2 : n2.toNatClampNeg = h := by rw [e2, nI_clamp (by omega)]
  unfold boF
  rw [if_pos ⟨h1, h2, h3⟩, c1, c2]
  exact e
theorem boA_0 {m a b k p n : Int32} {t : WG} {u : Nat} (ht : (m, a, b, k) = t) (e : n = nI u) (hu : u = 0) : a = boA t p n := by
  subst ht
  rw [e, hu]
  rfl
theorem boA_1 {m a b k p n : Int32} {t : WG} {u : Nat} (ht : (m, a, b, k) = t) (e : n = nI u) (hu : u = 1) : b = boA t p n := by
  subst ht
  rw [e, hu]
  rfl
theorem boA_2 {m a b k p n : Int32} {t : WG} {u : Nat} (ht : (m, a, b, k) = t) (e : n = nI u) (hu : u = 2) : m = boA t p n := by
  subst ht
  rw [e, hu]
  rfl
theorem boA_3 {m a b k p n : Int32} {t : WG} {u : Nat} (ht : (m, a, b, k) = t) (e : n = nI u) (hu : u = 3) : k = boA t p n := by
  subst ht
  rw [e, hu]
  rfl
theorem boA_4 {p n : Int32} {t : WG} {u : Nat} (e : n = nI u) (hl : u ≤ 4) (h0 : ¬ u = 0) (h1 : ¬ u = 1) (h2 : ¬ u = 2) (h3 : ¬ u = 3) : p = boA t p n := by
  rw [e, show u = 4 by omega]
  rfl
theorem boA_5 {p q n : Int32} {t : WG} {u : Nat} (ep : p = q) (e : n = nI u) (hl : u ≤ 4) (h0 : ¬ u = 0) (h1 : ¬ u = 1) (h2 : ¬ u = 2) (h3 : ¬ u = 3) : p = boA t q n := by
  rw [ep]
  exact boA_4 e hl h0 h1 h2 h3
theorem bo_p {w h : Nat} (hw : w ≤ 12) (hh : h ≤ 6) : nI ((12 - w + 1) * (6 - h + 1)) = nI ((7 - h) * (13 - w)) := by
  rw [show 12 - w + 1 = 13 - w by omega, show 6 - h + 1 = 7 - h by omega, Nat.mul_comm]
abbrev POK (a b c : Int32) : Prop := ((0 : Int32) ≤ a ∧ a ≤ 11) ∧ ((0 : Int32) ≤ b ∧ b ≤ 5) ∧ ((0 : Int32) ≤ c ∧ c ≤ 999)
def phF (a b c : Int32) (f : Nat → Int32) : Nat → Int32 := if POK a b c then upd f (b.toNatClampNeg * 12 + a.toNatClampNeg) c else f
theorem phF_y {a b c : Int32} {f r : Nat → Int32} {t u : Nat} (h1 : (0 : Int32) ≤ a ∧ a ≤ 11) (h2 : (0 : Int32) ≤ b ∧ b ≤ 5) (h3 : (0 : Int32) ≤ c ∧ c ≤ 999) (e1 : a = nI t) (e2 : b = nI u) (ht : t ≤ 11) (hu : u ≤ 5) (e : r = upd f (u * 12 + t) c) : r = phF a b c f := by
  have c1 : a.toNatClampNeg = t := by rw [e1, nI_clamp (by omega)]
  have c2 : b.toNatClampNeg = u := by rw [e2, nI_clamp (by omega)]
  unfold phF
  rw [if_pos ⟨h1, h2, h3⟩, c1, c2, e]
theorem phF_z {a b c : Int32} {f r : Nat → Int32} {t u : Nat} (h1 : (0 : Int32) ≤ a ∧ a ≤ 11) (h2 : (0 : Int32) ≤ b ∧ b ≤ 5) (h3 : (0 : Int32) ≤ c ∧ c ≤ 999) (e1 : a = nI t) (e2 : b = nI u) (ht : t ≤ 11) (hu : u ≤ 5) (e : r = upd f (12 * u + t) c) : r = phF a b c f := phF_y h1 h2 h3 e1 e2 ht hu (by rw [Nat.mul_comm]; exact e)
theorem phF_n {a b c : Int32} {f : Nat → Int32} (h : ¬ POK a b c) : f = phF a b c f := by
  unfold phF
  rw [if_neg h]
theorem phF_c {a b c : Int32} {f r : Nat → Int32} (e : r = phF a b c f) (h : cel f) : cel r := by
  intro i hi
  rw [e]
  unfold phF
  split
  · rename_i w
    show (0 : Int32) ≤ (if i = b.toNatClampNeg * 12 + a.toNatClampNeg then c else f i) ∧ (if i = b.toNatClampNeg * 12 + a.toNatClampNeg then c else f i) ≤ 999
    split
    · exact w.2.2
    · exact h i hi
  · exact h i hi
theorem bp_s {x y : Int32} {a j : Nat} (e : x = y + 1) (h : y = nI (a + j)) : x = nI (a + (j + 1)) := by
  rw [e, h]
  exact nI_1 (a + j)
theorem bp_r {x : Int32} {W j k : Nat} (h : x = nI (j * W + k)) (h1 : k ≤ W) (h2 : W ≤ k) : x = nI ((j + 1) * W) := by
  rw [h, show k = W by omega, Nat.add_mul, Nat.one_mul]
theorem bp_z {W : Nat} : (0 : Int32) = nI (0 * W) := by
  rw [Nat.zero_mul]
  rfl
theorem bp_0 {x : Int32} {a : Nat} (h : x = nI a) : x = nI (a + 0) := h
theorem bp_l {x : Int32} {W R j : Nat} (h : x = nI (j * W)) (h1 : j ≤ R) (h2 : R ≤ j) : x = nI (R * W) := by
  rw [h, show j = R by omega]
theorem lf_X6_put_f_2 (a : Nat → Nat) (bc : Int32) (br : Int32) (bm : Int32) (ba : Int32) (bp : Int32) (pc_ : Nat → Int32) (x1 : Nat) (x2 : Nat) (n3 : Int32) (hx1 : x1 ≤ 11) (hx2 : x2 ≤ 5) : ((x2 * 12) + x1) < 72 := by
  omega
theorem lf_X6_put_f_3 (a : Nat → Nat) (bc : Int32) (br : Int32) (bm : Int32) (ba : Int32) (bp : Int32) (pc_ : Nat → Int32) (x1 : Nat) (x2 : Nat) (n3 : Int32) (hx1 : x1 ≤ 11) (hx2 : x2 ≤ 5) (f_1 : Nat → Int32) (ef_1 : f_1 = upd pc_ ((x2 * 12) + x1) n3) : ((f_1 : Nat → Int32) = upd pc_ (x2 * 12 + x1) n3) := by
  assumption
set_option maxHeartbeats 4000000 in
set_option maxRecDepth 100000 in
theorem c_X6_put_f (l : Launch) (D : va_G) (cI cB cZ cJ : ClassId) (tx : List (ClassId × FieldType)) (a : Nat → Nat) (bc : Int32) (br : Int32) (bm : Int32) (ba : Int32) (bp : Int32) (pc_ : Nat → Int32) (x1 : Nat) (x2 : Nat) (n3 : Int32) (hx1 : x1 ≤ 11) (hx2 : x2 ≤ 5) : WrV l D cI cB cZ cJ tx yX6_put cX6_put 4 none 0 0 0 [.ref (a 11), .int (nI x1), .int (nI x2), .int n3] [(a 11, .inr (6, [.ref (a 47), .int bc, .int br, .int bm, .int ba, .int bp])), (a 47, .inl (cI, 72, .inl pc_))] (fun (v : (Nat → Int32)) => (v = upd pc_ (x2 * 12 + x1) n3)) (fun v => [(a 11, .inr (6, [.ref (a 47), .int bc, .int br, .int bm, .int ba, .int bp])), (a 47, .inl (cI, 72, .inl v))]) := by
  refine wrv_of2 (by decide) (Nat.le_of_ble_eq_true rfl) ?_
  intro p e s m below meth c A ls H locs hC hK hP hD hA hS hl
  obtain ⟨hx, hb, hr, hml, hown, hts, hlocks, hin⟩ := hC
  have hown : s.vm.findClass RX6 = some m.cls := hown
  have hl : lv_has ls 4 [(0, .ref (a 11)), (1, .int (nI x1)), (2, .int (nI x2)), (3, .int n3)] := hl
  refine W_gQ (fun Q hQ => ?_)
  refine lv_aload_n hx hb dX6_put_0 rfl (lv_at hl 0 rfl) ?_
  refine va_get (D := D) (ci := 6) (v := .ref (a 47)) (C := RX6) (T := TX6) (N := 6) hx hb hts inT_X6 hown hK.1 hP 0 rfl rfl 0 (by decide) (hts _ k_441) (fun _ h9 => h9) rfl dX6_put_1 ?_
  refine lv_iload_n hx hb dX6_put_4 rfl (lv_at hl 2 rfl) ?_
  refine lv_bipush (v := 12) hx hb dX6_put_5 (by decide) ?_
  refine lv_imul hx hb dX6_put_7 ?_
  refine lv_topv (y := nI (x2 * 12)) (pk_mul x2 12) ?_
  refine lv_iload_n hx hb dX6_put_8 rfl (lv_at hl 1 rfl) ?_
  refine lv_iadd hx hb dX6_put_9 ?_
  refine lv_topv (y := nI ((x2 * 12) + x1)) (nI_add (x2 * 12) x1) ?_
  refine lv_iload_n hx hb dX6_put_10 rfl (lv_at hl 3 rfl) ?_
  refine su_i (j := ((x2 * 12) + x1)) hx hb hK hP hD hS 1 rfl (lf_X6_put_f_2 a bc br bm ba bp pc_ x1 x2 n3 hx1 hx2) (by first | decide | assumption) dX6_put_11 (fun f_1 H locs ef_1 hP hD hS => ?_)
  have hP : va_P D vwCl [(a 11, .inr (6, [.ref (a 47), .int bc, .int br, .int bm, .int ba, .int bp])), (a 47, .inl (cI, 72, .inl f_1))] H := hP
  have hD : va_D A [(a 11, .inr (6, [.ref (a 47), .int bc, .int br, .int bm, .int ba, .int bp])), (a 47, .inl (cI, 72, .inl f_1))] := hD
  rw [hQ]
  exact W.vret hx hb hr (fun tt9 ht hW => ⟨⟨((f_1 : Nat → Int32)), rfl, (lf_X6_put_f_3 a bc br bm ba bp pc_ x1 x2 n3 hx1 hx2 f_1 ef_1), ⟨by rw [ht]; exact hP, hD⟩⟩, hS.F ht⟩) hS.2.2 dX6_put_12 hlocks

theorem lf_X11_phosphor_g_3 (a : Nat → Nat) (ap : Int32) (bc : Int32) (br : Int32) (bm : Int32) (ba : Int32) (bp : Int32) (pc_ : Nat → Int32) (n1 : Int32) (n2 : Int32) (n3 : Int32) (c_2 : ¬ ((0 : Int32) ≤ n1 ∧ n1 ≤ 11)) : ((pc_ : Nat → Int32) = phF n1 n2 n3 pc_) := by
  first | exact phF_y (by assumption) (by assumption) (by assumption) (by assumption) (by assumption) (by assumption) (by assumption) (by first | assumption | (rw [tn3e]; assumption)) | exact phF_z (by assumption) (by assumption) (by assumption) (by assumption) (by assumption) (by assumption) (by assumption) (by first | assumption | (rw [tn3e]; assumption)) | exact phF_n (fun w => absurd w.1 (by assumption)) | exact phF_n (fun w => absurd w.2.1 (by assumption)) | exact phF_n (fun w => absurd w.2.2 (by assumption))
theorem lf_X11_phosphor_g_6 (a : Nat → Nat) (ap : Int32) (bc : Int32) (br : Int32) (bm : Int32) (ba : Int32) (bp : Int32) (pc_ : Nat → Int32) (n1 : Int32) (n2 : Int32) (n3 : Int32) (c_2 : (0 : Int32) ≤ n1 ∧ n1 ≤ 11) (tn1 : Nat) (tn1a : 0 ≤ tn1) (tn1b : tn1 ≤ 11) (tn1e : n1 = nI tn1) (c_5 : ¬ ((0 : Int32) ≤ n2 ∧ n2 ≤ 5)) : ((pc_ : Nat → Int32) = phF n1 n2 n3 pc_) := by
  first | exact phF_y (by assumption) (by assumption) (by assumption) (by assumption) (by assumption) (by assumption) (by assumption) (by first | assumption | (rw [tn3e]; assumption)) | exact phF_z (by assumption) (by assumption) (by assumption) (by assumption) (by assumption) (by assumption) (by assumption) (by first | assumption | (rw [tn3e]; assumption)) | exact phF_n (fun w => absurd w.1 (by assumption)) | exact phF_n (fun w => absurd w.2.1 (by assumption)) | exact phF_n (fun w => absurd w.2.2 (by assumption))
theorem lf_X11_phosphor_g_9 (a : Nat → Nat) (ap : Int32) (bc : Int32) (br : Int32) (bm : Int32) (ba : Int32) (bp : Int32) (pc_ : Nat → Int32) (n1 : Int32) (n2 : Int32) (n3 : Int32) (c_2 : (0 : Int32) ≤ n1 ∧ n1 ≤ 11) (tn1 : Nat) (tn1a : 0 ≤ tn1) (tn1b : tn1 ≤ 11) (tn1e : n1 = nI tn1) (c_5 : (0 : Int32) ≤ n2 ∧ n2 ≤ 5) (tn2 : Nat) (tn2a : 0 ≤ tn2) (tn2b : tn2 ≤ 5) (tn2e : n2 = nI tn2) (c_8 : (0 : Int32) ≤ n3 ∧ n3 ≤ 999) (tn3 : Nat) (tn3a : 0 ≤ tn3) (tn3b : tn3 ≤ 999) (tn3e : n3 = nI tn3) : tn1 ≤ 11 := by
  first | assumption | omega | decide
theorem lf_X11_phosphor_g_10 (a : Nat → Nat) (ap : Int32) (bc : Int32) (br : Int32) (bm : Int32) (ba : Int32) (bp : Int32) (pc_ : Nat → Int32) (n1 : Int32) (n2 : Int32) (n3 : Int32) (c_2 : (0 : Int32) ≤ n1 ∧ n1 ≤ 11) (tn1 : Nat) (tn1a : 0 ≤ tn1) (tn1b : tn1 ≤ 11) (tn1e : n1 = nI tn1) (c_5 : (0 : Int32) ≤ n2 ∧ n2 ≤ 5) (tn2 : Nat) (tn2a : 0 ≤ tn2) (tn2b : tn2 ≤ 5) (tn2e : n2 = nI tn2) (c_8 : (0 : Int32) ≤ n3 ∧ n3 ≤ 999) (tn3 : Nat) (tn3a : 0 ≤ tn3) (tn3b : tn3 ≤ 999) (tn3e : n3 = nI tn3) : tn2 ≤ 5 := by
  first | assumption | omega | decide
theorem lf_X11_phosphor_g_13 (a : Nat → Nat) (ap : Int32) (bc : Int32) (br : Int32) (bm : Int32) (ba : Int32) (bp : Int32) (pc_ : Nat → Int32) (n1 : Int32) (n2 : Int32) (n3 : Int32) (c_2 : (0 : Int32) ≤ n1 ∧ n1 ≤ 11) (tn1 : Nat) (tn1a : 0 ≤ tn1) (tn1b : tn1 ≤ 11) (tn1e : n1 = nI tn1) (c_5 : (0 : Int32) ≤ n2 ∧ n2 ≤ 5) (tn2 : Nat) (tn2a : 0 ≤ tn2) (tn2b : tn2 ≤ 5) (tn2e : n2 = nI tn2) (c_8 : (0 : Int32) ≤ n3 ∧ n3 ≤ 999) (tn3 : Nat) (tn3a : 0 ≤ tn3) (tn3b : tn3 ≤ 999) (tn3e : n3 = nI tn3) (pc__12 : Nat → Int32) (hz_12_0 : pc__12 = upd pc_ (tn2 * 12 + tn1) (nI tn3)) : ((pc__12 : Nat → Int32) = phF n1 n2 n3 pc_) := by
  first | exact phF_y (by assumption) (by assumption) (by assumption) (by assumption) (by assumption) (by assumption) (by assumption) (by first | assumption | (rw [tn3e]; assumption)) | exact phF_z (by assumption) (by assumption) (by assumption) (by assumption) (by assumption) (by assumption) (by assumption) (by first | assumption | (rw [tn3e]; assumption)) | exact phF_n (fun w => absurd w.1 (by assumption)) | exact phF_n (fun w => absurd w.2.1 (by assumption)) | exact phF_n (fun w => absurd w.2.2 (by assumption))
theorem lf_X11_phosphor_g_14 (a : Nat → Nat) (ap : Int32) (bc : Int32) (br : Int32) (bm : Int32) (ba : Int32) (bp : Int32) (pc_ : Nat → Int32) (n1 : Int32) (n2 : Int32) (n3 : Int32) (c_2 : (0 : Int32) ≤ n1 ∧ n1 ≤ 11) (tn1 : Nat) (tn1a : 0 ≤ tn1) (tn1b : tn1 ≤ 11) (tn1e : n1 = nI tn1) (c_5 : (0 : Int32) ≤ n2 ∧ n2 ≤ 5) (tn2 : Nat) (tn2a : 0 ≤ tn2) (tn2b : tn2 ≤ 5) (tn2e : n2 = nI tn2) (c_8 : ¬ ((0 : Int32) ≤ n3 ∧ n3 ≤ 999)) : ((pc_ : Nat → Int32) = phF n1 n2 n3 pc_) := by
  first | exact phF_y (by assumption) (by assumption) (by assumption) (by assumption) (by assumption) (by assumption) (by assumption) (by first | assumption | (rw [tn3e]; assumption)) | exact phF_z (by assumption) (by assumption) (by assumption) (by assumption) (by assumption) (by assumption) (by assumption) (by first | assumption | (rw [tn3e]; assumption)) | exact phF_n (fun w => absurd w.1 (by assumption)) | exact phF_n (fun w => absurd w.2.1 (by assumption)) | exact phF_n (fun w => absurd w.2.2 (by assumption))
set_option maxHeartbeats 4000000 in
set_option maxRecDepth 100000 in
theorem c_X11_phosphor_g (l : Launch) (D : va_G) (cI cB cZ cJ : ClassId) (tx : List (ClassId × FieldType)) (a : Nat → Nat) (ap : Int32) (bc : Int32) (br : Int32) (bm : Int32) (ba : Int32) (bp : Int32) (pc_ : Nat → Int32) (n1 : Int32) (n2 : Int32) (n3 : Int32) : WrI l D cI cB cZ cJ tx yX11_phosphor cX11_phosphor 4 (some .boolean) 2 0 0 [.ref (a 0), .int n1, .int n2, .int n3] [(a 0, .inr (11, [.ref (a 1), .ref (a 2), .ref (a 3), .ref (a 4), .ref (a 5), .ref (a 6), .ref (a 7), .ref (a 8), .ref (a 9), .ref (a 10), .ref (a 11), .ref (a 12), .int ap])), (a 11, .inr (6, [.ref (a 47), .int bc, .int br, .int bm, .int ba, .int bp])), (a 47, .inl (cI, 72, .inl pc_))] (fun (r : Int32) (v : (Nat → Int32)) => (v = phF n1 n2 n3 pc_)) (fun v => [(a 0, .inr (11, [.ref (a 1), .ref (a 2), .ref (a 3), .ref (a 4), .ref (a 5), .ref (a 6), .ref (a 7), .ref (a 8), .ref (a 9), .ref (a 10), .ref (a 11), .ref (a 12), .int ap])), (a 11, .inr (6, [.ref (a 47), .int bc, .int br, .int bm, .int ba, .int bp])), (a 47, .inl (cI, 72, .inl v))]) := by
  refine wri_of2 (by decide) (Nat.le_of_ble_eq_true rfl) ?_
  intro p e s m below meth c A ls H locs hC hK hP hD hA hS hl
  obtain ⟨hx, hb, hr, hml, hown, hts, hlocks, hin⟩ := hC
  have hown : s.vm.findClass RX11 = some m.cls := hown
  have hl : lv_has ls 4 [(0, .ref (a 0)), (1, .int n1), (2, .int n2), (3, .int n3)] := hl
  refine W_gQ (fun Q hQ => ?_)
  refine lv_iload_n hx hb dX11_phosphor_0 rfl (lv_at hl 1 rfl) ?_
  refine lv_iconst (v := 0) hx hb dX11_phosphor_1 (by decide) ?_
  refine lv_bipush (v := 11) hx hb dX11_phosphor_2 (by decide) ?_
  refine eRi (va_runS (As := [.int n1, .int 0, .int 11]) (rest := []) ⟨hx, hb, hml, hown, hts⟩ (c_X11_within l D cI cB cZ cJ tx n1 0 11 H.size) (zS hts k_527 v_X11_within ⟨Nat.le_of_ble_eq_true rfl, Nat.le_of_ble_eq_true rfl⟩) (px0 hK) rfl rfl hl.1 rfl (lv_room (Nat.le_of_ble_eq_true rfl)) dX11_phosphor_4 ⟨Nat.le_of_ble_eq_true rfl, Nat.le_of_ble_eq_true rfl⟩) hP hS hA (fun r_1 H locs wr_1 hP hS => ?_)
  subst wr_1
  refine lv_bi_eq (tgt := 30) hx hb dX11_phosphor_7 (by decide) (fun c_2 => ?_) (fun c_2 => ?_)
  · refine lv_iconst (v := 0) hx hb dX11_phosphor_30 (by decide) ?_
    rw [hQ]
    exact W.zret (v := 0) hx hb hr (by decide) (fun tt9 ht hW => ⟨⟨(0 : Int32), ((pc_ : Nat → Int32)), rfl, (lf_X11_phosphor_g_3 a ap bc br bm ba bp pc_ n1 n2 n3 c_2), ⟨by rw [ht]; exact hP, hD⟩⟩, hS.F ht⟩) hS.2.2 dX11_phosphor_31 hlocks
  · obtain ⟨tn1, tn1a, tn1b, tn1e⟩ := of_rng 0 11 rfl rfl c_2
    subst tn1e
    refine lv_iload_n hx hb dX11_phosphor_10 rfl (lv_at hl 2 rfl) ?_
    refine lv_iconst (v := 0) hx hb dX11_phosphor_11 (by decide) ?_
    refine lv_iconst (v := 5) hx hb dX11_phosphor_12 (by decide) ?_
    refine eRi (va_runS (As := [.int n2, .int 0, .int 5]) (rest := []) ⟨hx, hb, hml, hown, hts⟩ (c_X11_within l D cI cB cZ cJ tx n2 0 5 H.size) (zS hts k_527 v_X11_within ⟨Nat.le_of_ble_eq_true rfl, Nat.le_of_ble_eq_true rfl⟩) (px0 hK) rfl rfl hl.1 rfl (lv_room (Nat.le_of_ble_eq_true rfl)) dX11_phosphor_13 ⟨Nat.le_of_ble_eq_true rfl, Nat.le_of_ble_eq_true rfl⟩) hP hS hA (fun r_4 H locs wr_4 hP hS => ?_)
    subst wr_4
    refine lv_bi_eq (tgt := 30) hx hb dX11_phosphor_16 (by decide) (fun c_5 => ?_) (fun c_5 => ?_)
    · refine lv_iconst (v := 0) hx hb dX11_phosphor_30 (by decide) ?_
      rw [hQ]
      exact W.zret (v := 0) hx hb hr (by decide) (fun tt9 ht hW => ⟨⟨(0 : Int32), ((pc_ : Nat → Int32)), rfl, (lf_X11_phosphor_g_6 a ap bc br bm ba bp pc_ (nI tn1) n2 n3 c_2 tn1 tn1a tn1b rfl c_5), ⟨by rw [ht]; exact hP, hD⟩⟩, hS.F ht⟩) hS.2.2 dX11_phosphor_31 hlocks
    · obtain ⟨tn2, tn2a, tn2b, tn2e⟩ := of_rng 0 5 rfl rfl c_5
      subst tn2e
      refine lv_iload_n hx hb dX11_phosphor_19 rfl (lv_at hl 3 rfl) ?_
      refine lv_iconst (v := 0) hx hb dX11_phosphor_20 (by decide) ?_
      refine lv_sipush (v := 999) hx hb dX11_phosphor_21 (by decide) ?_
      refine eRi (va_runS (As := [.int n3, .int 0, .int 999]) (rest := []) ⟨hx, hb, hml, hown, hts⟩ (c_X11_within l D cI cB cZ cJ tx n3 0 999 H.size) (zS hts k_527 v_X11_within ⟨Nat.le_of_ble_eq_true rfl, Nat.le_of_ble_eq_true rfl⟩) (px0 hK) rfl rfl hl.1 rfl (lv_room (Nat.le_of_ble_eq_true rfl)) dX11_phosphor_24 ⟨Nat.le_of_ble_eq_true rfl, Nat.le_of_ble_eq_true rfl⟩) hP hS hA (fun r_7 H locs wr_7 hP hS => ?_)
      subst wr_7
      refine lv_bi_ne (tgt := 32) hx hb dX11_phosphor_27 (by decide) (fun c_8 => ?_) (fun c_8 => ?_)
      · obtain ⟨tn3, tn3a, tn3b, tn3e⟩ := of_rng 0 999 rfl rfl c_8
        subst tn3e
        refine lv_aload_n hx hb dX11_phosphor_32 rfl (lv_at hl 0 rfl) ?_
        refine va_get (D := D) (ci := 11) (v := .ref (a 11)) (C := RX11) (T := TX11) (N := 13) hx hb hts inT_X11 hown hK.1 hP 0 rfl rfl 10 (by decide) (hts _ k_493) (fun _ h9 => h9) rfl dX11_phosphor_33 ?_
        refine lv_iload_n hx hb dX11_phosphor_36 rfl (lv_at hl 1 rfl) ?_
        refine lv_iload_n hx hb dX11_phosphor_37 rfl (lv_at hl 2 rfl) ?_
        refine lv_iload_n hx hb dX11_phosphor_38 rfl (lv_at hl 3 rfl) ?_
        refine eWvP (va_runV (As := [.int (nI tn1), .int (nI tn2), .int (nI tn3)]) (rest := []) ⟨hx, hb, hml, hown, hts⟩ (c_X6_put_f l D cI cB cZ cJ tx a bc br bm ba bp pc_ tn1 tn2 (nI tn3) (lf_X11_phosphor_g_9 a ap bc br bm ba bp pc_ (nI tn1) (nI tn2) (nI tn3) c_2 tn1 tn1a tn1b rfl c_5 tn2 tn2a tn2b rfl c_8 tn3 tn3a tn3b rfl) (lf_X11_phosphor_g_10 a ap bc br bm ba bp pc_ (nI tn1) (nI tn2) (nI tn3) c_2 tn1 tn1a tn1b rfl c_5 tn2 tn2a tn2b rfl c_8 tn3 tn3a tn3b rfl) H.size) (zV hts k_1169 v_X6_put ⟨Nat.le_of_ble_eq_true rfl, Nat.le_of_ble_eq_true rfl⟩) (pV (pxS hK hP hD [1, 2] (by decide) rfl) hK hP 1 rfl rfl) rfl rfl hl.1 rfl (lv_room (Nat.le_of_ble_eq_true rfl)) dX11_phosphor_39 ⟨Nat.le_of_ble_eq_true rfl, Nat.le_of_ble_eq_true rfl⟩) hP hD hS hA [1, 2] [none, some 0, some 1] rfl (by decide +kernel) (fun _ => rfl) (fun u_12 H locs wr_11 hP hD hS => ?_)
        obtain ⟨pc__12, rfl⟩ : ∃ z, z = u_12 := ⟨_, rfl⟩
        have hz_12_0 : pc__12 = upd pc_ (tn2 * 12 + tn1) (nI tn3) := wr_11
        have hP : va_P D vwCl [(a 0, .inr (11, [.ref (a 1), .ref (a 2), .ref (a 3), .ref (a 4), .ref (a 5), .ref (a 6), .ref (a 7), .ref (a 8), .ref (a 9), .ref (a 10), .ref (a 11), .ref (a 12), .int ap])), (a 11, .inr (6, [.ref (a 47), .int bc, .int br, .int bm, .int ba, .int bp])), (a 47, .inl (cI, 72, .inl pc__12))] H := hP
        have hD : va_D A [(a 0, .inr (11, [.ref (a 1), .ref (a 2), .ref (a 3), .ref (a 4), .ref (a 5), .ref (a 6), .ref (a 7), .ref (a 8), .ref (a 9), .ref (a 10), .ref (a 11), .ref (a 12), .int ap])), (a 11, .inr (6, [.ref (a 47), .int bc, .int br, .int bm, .int ba, .int bp])), (a 47, .inl (cI, 72, .inl pc__12))] := hD
        refine lv_iconst (v := 1) hx hb dX11_phosphor_42 (by decide) ?_
        rw [hQ]
        exact W.zret (v := 1) hx hb hr (by decide) (fun tt9 ht hW => ⟨⟨(1 : Int32), ((pc__12 : Nat → Int32)), rfl, (lf_X11_phosphor_g_13 a ap bc br bm ba bp pc_ (nI tn1) (nI tn2) (nI tn3) c_2 tn1 tn1a tn1b rfl c_5 tn2 tn2a tn2b rfl c_8 tn3 tn3a tn3b rfl pc__12 hz_12_0), ⟨by rw [ht]; exact hP, hD⟩⟩, hS.F ht⟩) hS.2.2 dX11_phosphor_43 hlocks
      · refine lv_iconst (v := 0) hx hb dX11_phosphor_30 (by decide) ?_
        rw [hQ]
        exact W.zret (v := 0) hx hb hr (by decide) (fun tt9 ht hW => ⟨⟨(0 : Int32), ((pc_ : Nat → Int32)), rfl, (lf_X11_phosphor_g_14 a ap bc br bm ba bp pc_ (nI tn1) (nI tn2) n3 c_2 tn1 tn1a tn1b rfl c_5 tn2 tn2a tn2b rfl c_8), ⟨by rw [ht]; exact hP, hD⟩⟩, hS.F ht⟩) hS.2.2 dX11_phosphor_31 hlocks

theorem lf_X12_phosphor_g_3 (h : Nat) (q : Nat → Nat) (im : Nat → Int32) (m_phosphors : Nat → Int32) (n1 : Int32) (n2 : Int32) (n3 : Int32) (c_2 : ¬ ((0 : Int32) ≤ n1 ∧ n1 ≤ 11)) : ((m_phosphors : Nat → Int32) = phF n1 n2 n3 m_phosphors) := by
  first | exact phF_y (by assumption) (by assumption) (by assumption) (by assumption) (by assumption) (by assumption) (by assumption) (by first | assumption | (rw [tn3e]; assumption)) | exact phF_z (by assumption) (by assumption) (by assumption) (by assumption) (by assumption) (by assumption) (by assumption) (by first | assumption | (rw [tn3e]; assumption)) | exact phF_n (fun w => absurd w.1 (by assumption)) | exact phF_n (fun w => absurd w.2.1 (by assumption)) | exact phF_n (fun w => absurd w.2.2 (by assumption))
theorem lf_X12_phosphor_g_6 (h : Nat) (q : Nat → Nat) (im : Nat → Int32) (m_phosphors : Nat → Int32) (n1 : Int32) (n2 : Int32) (n3 : Int32) (c_2 : (0 : Int32) ≤ n1 ∧ n1 ≤ 11) (tn1 : Nat) (tn1a : 0 ≤ tn1) (tn1b : tn1 ≤ 11) (tn1e : n1 = nI tn1) (c_5 : ¬ ((0 : Int32) ≤ n2 ∧ n2 ≤ 5)) : ((m_phosphors : Nat → Int32) = phF n1 n2 n3 m_phosphors) := by
  first | exact phF_y (by assumption) (by assumption) (by assumption) (by assumption) (by assumption) (by assumption) (by assumption) (by first | assumption | (rw [tn3e]; assumption)) | exact phF_z (by assumption) (by assumption) (by assumption) (by assumption) (by assumption) (by assumption) (by assumption) (by first | assumption | (rw [tn3e]; assumption)) | exact phF_n (fun w => absurd w.1 (by assumption)) | exact phF_n (fun w => absurd w.2.1 (by assumption)) | exact phF_n (fun w => absurd w.2.2 (by assumption))
theorem lf_X12_phosphor_g_10 (h : Nat) (q : Nat → Nat) (im : Nat → Int32) (m_phosphors : Nat → Int32) (n1 : Int32) (n2 : Int32) (n3 : Int32) (c_2 : (0 : Int32) ≤ n1 ∧ n1 ≤ 11) (tn1 : Nat) (tn1a : 0 ≤ tn1) (tn1b : tn1 ≤ 11) (tn1e : n1 = nI tn1) (c_5 : (0 : Int32) ≤ n2 ∧ n2 ≤ 5) (tn2 : Nat) (tn2a : 0 ≤ tn2) (tn2b : tn2 ≤ 5) (tn2e : n2 = nI tn2) (c_8 : (0 : Int32) ≤ n3 ∧ n3 ≤ 999) (tn3 : Nat) (tn3a : 0 ≤ tn3) (tn3b : tn3 ≤ 999) (tn3e : n3 = nI tn3) : ((12 * tn2) + tn1) < 72 := by
  omega
theorem lf_X12_phosphor_g_11 (h : Nat) (q : Nat → Nat) (im : Nat → Int32) (m_phosphors : Nat → Int32) (n1 : Int32) (n2 : Int32) (n3 : Int32) (c_2 : (0 : Int32) ≤ n1 ∧ n1 ≤ 11) (tn1 : Nat) (tn1a : 0 ≤ tn1) (tn1b : tn1 ≤ 11) (tn1e : n1 = nI tn1) (c_5 : (0 : Int32) ≤ n2 ∧ n2 ≤ 5) (tn2 : Nat) (tn2a : 0 ≤ tn2) (tn2b : tn2 ≤ 5) (tn2e : n2 = nI tn2) (c_8 : (0 : Int32) ≤ n3 ∧ n3 ≤ 999) (tn3 : Nat) (tn3a : 0 ≤ tn3) (tn3b : tn3 ≤ 999) (tn3e : n3 = nI tn3) (f_9 : Nat → Int32) (ef_9 : f_9 = upd m_phosphors ((12 * tn2) + tn1) (nI tn3)) : ((f_9 : Nat → Int32) = phF n1 n2 n3 m_phosphors) := by
  first | exact phF_y (by assumption) (by assumption) (by assumption) (by assumption) (by assumption) (by assumption) (by assumption) (by first | assumption | (rw [tn3e]; assumption)) | exact phF_z (by assumption) (by assumption) (by assumption) (by assumption) (by assumption) (by assumption) (by assumption) (by first | assumption | (rw [tn3e]; assumption)) | exact phF_n (fun w => absurd w.1 (by assumption)) | exact phF_n (fun w => absurd w.2.1 (by assumption)) | exact phF_n (fun w => absurd w.2.2 (by assumption))
theorem lf_X12_phosphor_g_12 (h : Nat) (q : Nat → Nat) (im : Nat → Int32) (m_phosphors : Nat → Int32) (n1 : Int32) (n2 : Int32) (n3 : Int32) (c_2 : (0 : Int32) ≤ n1 ∧ n1 ≤ 11) (tn1 : Nat) (tn1a : 0 ≤ tn1) (tn1b : tn1 ≤ 11) (tn1e : n1 = nI tn1) (c_5 : (0 : Int32) ≤ n2 ∧ n2 ≤ 5) (tn2 : Nat) (tn2a : 0 ≤ tn2) (tn2b : tn2 ≤ 5) (tn2e : n2 = nI tn2) (c_8 : ¬ ((0 : Int32) ≤ n3 ∧ n3 ≤ 999)) : ((m_phosphors : Nat → Int32) = phF n1 n2 n3 m_phosphors) := by
  first | exact phF_y (by assumption) (by assumption) (by assumption) (by assumption) (by assumption) (by assumption) (by assumption) (by first | assumption | (rw [tn3e]; assumption)) | exact phF_z (by assumption) (by assumption) (by assumption) (by assumption) (by assumption) (by assumption) (by assumption) (by first | assumption | (rw [tn3e]; assumption)) | exact phF_n (fun w => absurd w.1 (by assumption)) | exact phF_n (fun w => absurd w.2.1 (by assumption)) | exact phF_n (fun w => absurd w.2.2 (by assumption))
set_option maxHeartbeats 4000000 in
set_option maxRecDepth 100000 in
theorem c_X12_phosphor_g (l : Launch) (D : va_G) (cI cB cZ cJ : ClassId) (tx : List (ClassId × FieldType)) (h : Nat) (q : Nat → Nat) (im : Nat → Int32) (m_phosphors : Nat → Int32) (n1 : Int32) (n2 : Int32) (n3 : Int32) : WrI l D cI cB cZ cJ tx yX12_phosphor cX12_phosphor 4 (some .boolean) 1 0 0 [.ref h, .int n1, .int n2, .int n3] [(h, .inr (12, mG q im)), (q 74, .inl (cI, 72, .inl m_phosphors))] (fun (r : Int32) (v : (Nat → Int32)) => (v = phF n1 n2 n3 m_phosphors)) (fun v => [(h, .inr (12, mG q im)), (q 74, .inl (cI, 72, .inl v))]) := by
  refine wri_of2 (by decide) (Nat.le_of_ble_eq_true rfl) ?_
  intro p e s m below meth c A ls H locs hC hK hP hD hA hS hl
  obtain ⟨hx, hb, hr, hml, hown, hts, hlocks, hin⟩ := hC
  have hown : s.vm.findClass RX12 = some m.cls := hown
  have hl : lv_has ls 4 [(0, .ref h), (1, .int n1), (2, .int n2), (3, .int n3)] := hl
  refine W_gQ (fun Q hQ => ?_)
  refine lv_iload_n hx hb dX12_phosphor_0 rfl (lv_at hl 1 rfl) ?_
  refine lv_i2l (v := n1.toInt64) hx hb dX12_phosphor_1 rfl ?_
  refine lv_lconst (v := 0) hx hb dX12_phosphor_2 (by decide) ?_
  refine lv_ldc2 (v := 11) hx hb hown (hts _ k_2009) dX12_phosphor_3 ?_
  refine eRi (va_runS (As := [.long n1.toInt64, .long 0, .long 11]) (rest := []) ⟨hx, hb, hml, hown, hts⟩ (c_X12_isIn l D cI cB cZ cJ tx n1.toInt64 0 11 H.size) (zS hts k_1602 v_X12_isIn ⟨Nat.le_of_ble_eq_true rfl, Nat.le_of_ble_eq_true rfl⟩) (px0 hK) rfl rfl hl.1 rfl (lv_room (Nat.le_of_ble_eq_true rfl)) dX12_phosphor_6 ⟨Nat.le_of_ble_eq_true rfl, Nat.le_of_ble_eq_true rfl⟩) hP hS hA (fun r_1 H locs wr_1 hP hS => ?_)
  have wr_1 : r_1 = bi ((0 : Int32) ≤ n1 ∧ n1 ≤ 11) := isIn32 (lo := 0) (hi := 11) (by decide) (by decide) wr_1
  subst wr_1
  refine lv_bi_eq (tgt := 36) hx hb dX12_phosphor_9 (by decide) (fun c_2 => ?_) (fun c_2 => ?_)
  · refine lv_iconst (v := 0) hx hb dX12_phosphor_36 (by decide) ?_
    rw [hQ]
    exact W.zret (v := 0) hx hb hr (by decide) (fun tt9 ht hW => ⟨⟨(0 : Int32), ((m_phosphors : Nat → Int32)), rfl, (lf_X12_phosphor_g_3 h q im m_phosphors n1 n2 n3 c_2), ⟨by rw [ht]; exact hP, hD⟩⟩, hS.F ht⟩) hS.2.2 dX12_phosphor_37 hlocks
  · obtain ⟨tn1, tn1a, tn1b, tn1e⟩ := of_rng 0 11 rfl rfl c_2
    subst tn1e
    refine lv_iload_n hx hb dX12_phosphor_12 rfl (lv_at hl 2 rfl) ?_
    refine lv_i2l (v := n2.toInt64) hx hb dX12_phosphor_13 rfl ?_
    refine lv_lconst (v := 0) hx hb dX12_phosphor_14 (by decide) ?_
    refine lv_ldc2 (v := 5) hx hb hown (hts _ k_2010) dX12_phosphor_15 ?_
    refine eRi (va_runS (As := [.long n2.toInt64, .long 0, .long 5]) (rest := []) ⟨hx, hb, hml, hown, hts⟩ (c_X12_isIn l D cI cB cZ cJ tx n2.toInt64 0 5 H.size) (zS hts k_1602 v_X12_isIn ⟨Nat.le_of_ble_eq_true rfl, Nat.le_of_ble_eq_true rfl⟩) (px0 hK) rfl rfl hl.1 rfl (lv_room (Nat.le_of_ble_eq_true rfl)) dX12_phosphor_18 ⟨Nat.le_of_ble_eq_true rfl, Nat.le_of_ble_eq_true rfl⟩) hP hS hA (fun r_4 H locs wr_4 hP hS => ?_)
    have wr_4 : r_4 = bi ((0 : Int32) ≤ n2 ∧ n2 ≤ 5) := isIn32 (lo := 0) (hi := 5) (by decide) (by decide) wr_4
    subst wr_4
    refine lv_bi_eq (tgt := 36) hx hb dX12_phosphor_21 (by decide) (fun c_5 => ?_) (fun c_5 => ?_)
    · refine lv_iconst (v := 0) hx hb dX12_phosphor_36 (by decide) ?_
      rw [hQ]
      exact W.zret (v := 0) hx hb hr (by decide) (fun tt9 ht hW => ⟨⟨(0 : Int32), ((m_phosphors : Nat → Int32)), rfl, (lf_X12_phosphor_g_6 h q im m_phosphors (nI tn1) n2 n3 c_2 tn1 tn1a tn1b rfl c_5), ⟨by rw [ht]; exact hP, hD⟩⟩, hS.F ht⟩) hS.2.2 dX12_phosphor_37 hlocks
    · obtain ⟨tn2, tn2a, tn2b, tn2e⟩ := of_rng 0 5 rfl rfl c_5
      subst tn2e
      refine lv_iload_n hx hb dX12_phosphor_24 rfl (lv_at hl 3 rfl) ?_
      refine lv_i2l (v := n3.toInt64) hx hb dX12_phosphor_25 rfl ?_
      refine lv_lconst (v := 0) hx hb dX12_phosphor_26 (by decide) ?_
      refine lv_ldc2 (v := 999) hx hb hown (hts _ k_2011) dX12_phosphor_27 ?_
      refine eRi (va_runS (As := [.long n3.toInt64, .long 0, .long 999]) (rest := []) ⟨hx, hb, hml, hown, hts⟩ (c_X12_isIn l D cI cB cZ cJ tx n3.toInt64 0 999 H.size) (zS hts k_1602 v_X12_isIn ⟨Nat.le_of_ble_eq_true rfl, Nat.le_of_ble_eq_true rfl⟩) (px0 hK) rfl rfl hl.1 rfl (lv_room (Nat.le_of_ble_eq_true rfl)) dX12_phosphor_30 ⟨Nat.le_of_ble_eq_true rfl, Nat.le_of_ble_eq_true rfl⟩) hP hS hA (fun r_7 H locs wr_7 hP hS => ?_)
      have wr_7 : r_7 = bi ((0 : Int32) ≤ n3 ∧ n3 ≤ 999) := isIn32 (lo := 0) (hi := 999) (by decide) (by decide) wr_7
      subst wr_7
      refine lv_bi_ne (tgt := 38) hx hb dX12_phosphor_33 (by decide) (fun c_8 => ?_) (fun c_8 => ?_)
      · obtain ⟨tn3, tn3a, tn3b, tn3e⟩ := of_rng 0 999 rfl rfl c_8
        subst tn3e
        refine lv_aload_n hx hb dX12_phosphor_38 rfl (lv_at hl 0 rfl) ?_
        refine va_get (D := D) (ci := 12) (v := .ref (q 74)) (C := RX12) (T := TX12) (N := 81) hx hb hts inT_X12 hown hK.1 hP 0 rfl rfl 74 (by decide) (hts _ k_1427) (fun _ h9 => h9) rfl dX12_phosphor_39 ?_
        refine lv_bipush (v := 12) hx hb dX12_phosphor_42 (by decide) ?_
        refine lv_iload_n hx hb dX12_phosphor_44 rfl (lv_at hl 2 rfl) ?_
        refine lv_imul hx hb dX12_phosphor_45 ?_
        refine lv_topv (y := nI (12 * tn2)) (pk_mul 12 tn2) ?_
        refine lv_iload_n hx hb dX12_phosphor_46 rfl (lv_at hl 1 rfl) ?_
        refine lv_iadd hx hb dX12_phosphor_47 ?_
        refine lv_topv (y := nI ((12 * tn2) + tn1)) (nI_add (12 * tn2) tn1) ?_
        refine lv_iload_n hx hb dX12_phosphor_48 rfl (lv_at hl 3 rfl) ?_
        refine su_i (j := ((12 * tn2) + tn1)) hx hb hK hP hD hS 1 rfl (lf_X12_phosphor_g_10 h q im m_phosphors (nI tn1) (nI tn2) (nI tn3) c_2 tn1 tn1a tn1b rfl c_5 tn2 tn2a tn2b rfl c_8 tn3 tn3a tn3b rfl) (by first | decide | assumption) dX12_phosphor_49 (fun f_9 H locs ef_9 hP hD hS => ?_)
        have hP : va_P D vwCl [(h, .inr (12, mG q im)), (q 74, .inl (cI, 72, .inl f_9))] H := hP
        have hD : va_D A [(h, .inr (12, mG q im)), (q 74, .inl (cI, 72, .inl f_9))] := hD
        refine lv_iconst (v := 1) hx hb dX12_phosphor_50 (by decide) ?_
        rw [hQ]
        exact W.zret (v := 1) hx hb hr (by decide) (fun tt9 ht hW => ⟨⟨(1 : Int32), ((f_9 : Nat → Int32)), rfl, (lf_X12_phosphor_g_11 h q im m_phosphors (nI tn1) (nI tn2) (nI tn3) c_2 tn1 tn1a tn1b rfl c_5 tn2 tn2a tn2b rfl c_8 tn3 tn3a tn3b rfl f_9 ef_9), ⟨by rw [ht]; exact hP, hD⟩⟩, hS.F ht⟩) hS.2.2 dX12_phosphor_51 hlocks
      · refine lv_iconst (v := 0) hx hb dX12_phosphor_36 (by decide) ?_
        rw [hQ]
        exact W.zret (v := 0) hx hb hr (by decide) (fun tt9 ht hW => ⟨⟨(0 : Int32), ((m_phosphors : Nat → Int32)), rfl, (lf_X12_phosphor_g_12 h q im m_phosphors (nI tn1) (nI tn2) n3 c_2 tn1 tn1a tn1b rfl c_5 tn2 tn2a tn2b rfl c_8), ⟨by rw [ht]; exact hP, hD⟩⟩, hS.F ht⟩) hS.2.2 dX12_phosphor_37 hlocks

theorem lf_X6_weigh_f_5 (a : Nat → Nat) (bc : Int32) (br : Int32) (bm : Int32) (ba : Int32) (bp : Int32) (n1 : Int32) (n2 : Int32) (n3 : Int32) (x_1 : Int32) (ex_1 : x_1 = bp + 1) (c_2 : n3 ≤ bm) (c_3 : ¬ n3 = bm) (x_4 : Int32) (ex_4 : x_4 = ba + 0) : (((bm : Int32), (bc : Int32), (br : Int32), (x_4 : Int32)) = wg (bm, bc, br, ba) n1 n2 n3) ∧ ((x_1 : Int32) = bp + 1) := by
  refine ⟨?_, ?_⟩
  · first | contradiction | exact wg_1 (by assumption) | exact wg_2 (by assumption) (by assumption) (by assumption) | exact wg_3 (by assumption) (by assumption) (by assumption)
  · assumption
theorem lf_X6_weigh_f_7 (a : Nat → Nat) (bc : Int32) (br : Int32) (bm : Int32) (ba : Int32) (bp : Int32) (n1 : Int32) (n2 : Int32) (n3 : Int32) (x_1 : Int32) (ex_1 : x_1 = bp + 1) (c_2 : n3 ≤ bm) (c_3 : n3 = bm) (x_6 : Int32) (ex_6 : x_6 = ba + 1) : (((bm : Int32), (bc : Int32), (br : Int32), (x_6 : Int32)) = wg (bm, bc, br, ba) n1 n2 n3) ∧ ((x_1 : Int32) = bp + 1) := by
  refine ⟨?_, ?_⟩
  · first | contradiction | exact wg_1 (by assumption) | exact wg_2 (by assumption) (by assumption) (by assumption) | exact wg_3 (by assumption) (by assumption) (by assumption)
  · assumption
theorem lf_X6_weigh_f_9 (a : Nat → Nat) (bc : Int32) (br : Int32) (bm : Int32) (ba : Int32) (bp : Int32) (n1 : Int32) (n2 : Int32) (n3 : Int32) (x_1 : Int32) (ex_1 : x_1 = bp + 1) (c_2 : ¬ n3 ≤ bm) (c_8 : ¬ n3 = n3) : (((n3 : Int32), (n1 : Int32), (n2 : Int32), (0 : Int32)) = wg (bm, bc, br, ba) n1 n2 n3) ∧ ((x_1 : Int32) = bp + 1) := by
  refine ⟨?_, ?_⟩
  · first | contradiction | exact wg_1 (by assumption) | exact wg_2 (by assumption) (by assumption) (by assumption) | exact wg_3 (by assumption) (by assumption) (by assumption)
  · assumption
theorem lf_X6_weigh_f_10 (a : Nat → Nat) (bc : Int32) (br : Int32) (bm : Int32) (ba : Int32) (bp : Int32) (n1 : Int32) (n2 : Int32) (n3 : Int32) (x_1 : Int32) (ex_1 : x_1 = bp + 1) (c_2 : ¬ n3 ≤ bm) (c_8 : n3 = n3) : (((n3 : Int32), (n1 : Int32), (n2 : Int32), (1 : Int32)) = wg (bm, bc, br, ba) n1 n2 n3) ∧ ((x_1 : Int32) = bp + 1) := by
  refine ⟨?_, ?_⟩
  · first | contradiction | exact wg_1 (by assumption) | exact wg_2 (by assumption) (by assumption) (by assumption) | exact wg_3 (by assumption) (by assumption) (by assumption)
  · assumption
set_option maxHeartbeats 4000000 in
set_option maxRecDepth 100000 in
theorem c_X6_weigh_f (l : Launch) (D : va_G) (cI cB cZ cJ : ClassId) (tx : List (ClassId × FieldType)) (a : Nat → Nat) (bc : Int32) (br : Int32) (bm : Int32) (ba : Int32) (bp : Int32) (n1 : Int32) (n2 : Int32) (n3 : Int32) : WrV l D cI cB cZ cJ tx yX6_weigh cX6_weigh 4 none 0 0 0 [.ref (a 11), .int n1, .int n2, .int n3] [(a 11, .inr (6, [.ref (a 47), .int bc, .int br, .int bm, .int ba, .int bp]))] (fun (v : (Int32) × (Int32) × (Int32) × (Int32) × (Int32)) => ((v.2.2.1, v.1, v.2.1, v.2.2.2.1) = wg (bm, bc, br, ba) n1 n2 n3) ∧ (v.2.2.2.2 = bp + 1)) (fun v => [(a 11, .inr (6, [.ref (a 47), .int v.1, .int v.2.1, .int v.2.2.1, .int v.2.2.2.1, .int v.2.2.2.2]))]) := by
  refine wrv_of2 (by decide) (Nat.le_of_ble_eq_true rfl) ?_
  intro p e s m below meth c A ls H locs hC hK hP hD hA hS hl
  obtain ⟨hx, hb, hr, hml, hown, hts, hlocks, hin⟩ := hC
  have hown : s.vm.findClass RX6 = some m.cls := hown
  have hl : lv_has ls 4 [(0, .ref (a 11)), (1, .int n1), (2, .int n2), (3, .int n3)] := hl
  refine W_gQ (fun Q hQ => ?_)
  refine lv_aload_n hx hb dX6_weigh_0 rfl (lv_at hl 0 rfl) ?_
  refine lv_dup hx hb dX6_weigh_1 rfl ?_
  refine va_get (D := D) (ci := 6) (v := .int bp) (C := RX6) (T := TX6) (N := 6) hx hb hts inT_X6 hown hK.1 hP 0 rfl rfl 5 (by decide) (hts _ k_450) (fun _ h9 => h9) rfl dX6_weigh_2 ?_
  refine lv_iconst (v := 1) hx hb dX6_weigh_5 (by decide) ?_
  refine lv_iadd hx hb dX6_weigh_6 ?_
  refine lv_topi (fun x_1 ex_1 => ?_)
  refine va_put (D := D) (ci := 6) (v := .int x_1) (ty := .int) (C := RX6) (T := TX6) (N := 6) hx hb hts inT_X6 tyX6 tyX6_ok nmX6 hown hK.1 hP hD hS 0 rfl rfl 5 (by decide) (hts _ k_450) (fun _ h9 => h9) rfl (by decide +kernel) rfl rfl (Nat.le_of_ble_eq_true rfl) dX6_weigh_7 (fun H locs hP hD hS => ?_)
  have hP : va_P D vwCl [(a 11, .inr (6, [.ref (a 47), .int bc, .int br, .int bm, .int ba, .int x_1]))] H := hP
  have hD : va_D A [(a 11, .inr (6, [.ref (a 47), .int bc, .int br, .int bm, .int ba, .int x_1]))] := hD
  refine lv_iload_n hx hb dX6_weigh_10 rfl (lv_at hl 3 rfl) ?_
  refine lv_aload_n hx hb dX6_weigh_11 rfl (lv_at hl 0 rfl) ?_
  refine va_get (D := D) (ci := 6) (v := .int bm) (C := RX6) (T := TX6) (N := 6) hx hb hts inT_X6 hown hK.1 hP 0 rfl rfl 3 (by decide) (hts _ k_446) (fun _ h9 => h9) rfl dX6_weigh_12 ?_
  refine lv_icmp_le (tgt := 38) hx hb dX6_weigh_15 (by decide) (fun c_2 => ?_) (fun c_2 => ?_)
  · refine lv_aload_n hx hb dX6_weigh_38 rfl (lv_at hl 0 rfl) ?_
    refine lv_dup hx hb dX6_weigh_39 rfl ?_
    refine va_get (D := D) (ci := 6) (v := .int ba) (C := RX6) (T := TX6) (N := 6) hx hb hts inT_X6 hown hK.1 hP 0 rfl rfl 4 (by decide) (hts _ k_448) (fun _ h9 => h9) rfl dX6_weigh_40 ?_
    refine lv_iload_n hx hb dX6_weigh_43 rfl (lv_at hl 3 rfl) ?_
    refine lv_aload_n hx hb dX6_weigh_44 rfl (lv_at hl 0 rfl) ?_
    refine va_get (D := D) (ci := 6) (v := .int bm) (C := RX6) (T := TX6) (N := 6) hx hb hts inT_X6 hown hK.1 hP 0 rfl rfl 3 (by decide) (hts _ k_446) (fun _ h9 => h9) rfl dX6_weigh_45 ?_
    refine lv_icmp_ne (tgt := 55) hx hb dX6_weigh_48 (by decide) (fun c_3 => ?_) (fun c_3 => ?_)
    · refine lv_iconst (v := 0) hx hb dX6_weigh_55 (by decide) ?_
      refine lv_iadd hx hb dX6_weigh_56 ?_
      refine lv_topi (fun x_4 ex_4 => ?_)
      refine va_put (D := D) (ci := 6) (v := .int x_4) (ty := .int) (C := RX6) (T := TX6) (N := 6) hx hb hts inT_X6 tyX6 tyX6_ok nmX6 hown hK.1 hP hD hS 0 rfl rfl 4 (by decide) (hts _ k_448) (fun _ h9 => h9) rfl (by decide +kernel) rfl rfl (Nat.le_of_ble_eq_true rfl) dX6_weigh_57 (fun H locs hP hD hS => ?_)
      have hP : va_P D vwCl [(a 11, .inr (6, [.ref (a 47), .int bc, .int br, .int bm, .int x_4, .int x_1]))] H := hP
      have hD : va_D A [(a 11, .inr (6, [.ref (a 47), .int bc, .int br, .int bm, .int x_4, .int x_1]))] := hD
      rw [hQ]
      exact W.vret hx hb hr (fun tt9 ht hW => ⟨⟨((bc : Int32), (br : Int32), (bm : Int32), (x_4 : Int32), (x_1 : Int32)), rfl, (lf_X6_weigh_f_5 a bc br bm ba bp n1 n2 n3 x_1 ex_1 c_2 c_3 x_4 ex_4), ⟨by rw [ht]; exact hP, hD⟩⟩, hS.F ht⟩) hS.2.2 dX6_weigh_60 hlocks
    · refine lv_iconst (v := 1) hx hb dX6_weigh_51 (by decide) ?_
      refine lv_goto (tgt := 56) hx hb dX6_weigh_52 (by decide) ?_
      refine lv_iadd hx hb dX6_weigh_56 ?_
      refine lv_topi (fun x_6 ex_6 => ?_)
      refine va_put (D := D) (ci := 6) (v := .int x_6) (ty := .int) (C := RX6) (T := TX6) (N := 6) hx hb hts inT_X6 tyX6 tyX6_ok nmX6 hown hK.1 hP hD hS 0 rfl rfl 4 (by decide) (hts _ k_448) (fun _ h9 => h9) rfl (by decide +kernel) rfl rfl (Nat.le_of_ble_eq_true rfl) dX6_weigh_57 (fun H locs hP hD hS => ?_)
      have hP : va_P D vwCl [(a 11, .inr (6, [.ref (a 47), .int bc, .int br, .int bm, .int x_6, .int x_1]))] H := hP
      have hD : va_D A [(a 11, .inr (6, [.ref (a 47), .int bc, .int br, .int bm, .int x_6, .int x_1]))] := hD
      rw [hQ]
      exact W.vret hx hb hr (fun tt9 ht hW => ⟨⟨((bc : Int32), (br : Int32), (bm : Int32), (x_6 : Int32), (x_1 : Int32)), rfl, (lf_X6_weigh_f_7 a bc br bm ba bp n1 n2 n3 x_1 ex_1 c_2 c_3 x_6 ex_6), ⟨by rw [ht]; exact hP, hD⟩⟩, hS.F ht⟩) hS.2.2 dX6_weigh_60 hlocks
  · refine lv_aload_n hx hb dX6_weigh_18 rfl (lv_at hl 0 rfl) ?_
    refine lv_iload_n hx hb dX6_weigh_19 rfl (lv_at hl 3 rfl) ?_
    refine va_put (D := D) (ci := 6) (v := .int n3) (ty := .int) (C := RX6) (T := TX6) (N := 6) hx hb hts inT_X6 tyX6 tyX6_ok nmX6 hown hK.1 hP hD hS 0 rfl rfl 3 (by decide) (hts _ k_446) (fun _ h9 => h9) rfl (by decide +kernel) rfl rfl (Nat.le_of_ble_eq_true rfl) dX6_weigh_20 (fun H locs hP hD hS => ?_)
    have hP : va_P D vwCl [(a 11, .inr (6, [.ref (a 47), .int bc, .int br, .int n3, .int ba, .int x_1]))] H := hP
    have hD : va_D A [(a 11, .inr (6, [.ref (a 47), .int bc, .int br, .int n3, .int ba, .int x_1]))] := hD
    refine lv_aload_n hx hb dX6_weigh_23 rfl (lv_at hl 0 rfl) ?_
    refine lv_iload_n hx hb dX6_weigh_24 rfl (lv_at hl 1 rfl) ?_
    refine va_put (D := D) (ci := 6) (v := .int n1) (ty := .int) (C := RX6) (T := TX6) (N := 6) hx hb hts inT_X6 tyX6 tyX6_ok nmX6 hown hK.1 hP hD hS 0 rfl rfl 1 (by decide) (hts _ k_442) (fun _ h9 => h9) rfl (by decide +kernel) rfl rfl (Nat.le_of_ble_eq_true rfl) dX6_weigh_25 (fun H locs hP hD hS => ?_)
    have hP : va_P D vwCl [(a 11, .inr (6, [.ref (a 47), .int n1, .int br, .int n3, .int ba, .int x_1]))] H := hP
    have hD : va_D A [(a 11, .inr (6, [.ref (a 47), .int n1, .int br, .int n3, .int ba, .int x_1]))] := hD
    refine lv_aload_n hx hb dX6_weigh_28 rfl (lv_at hl 0 rfl) ?_
    refine lv_iload_n hx hb dX6_weigh_29 rfl (lv_at hl 2 rfl) ?_
    refine va_put (D := D) (ci := 6) (v := .int n2) (ty := .int) (C := RX6) (T := TX6) (N := 6) hx hb hts inT_X6 tyX6 tyX6_ok nmX6 hown hK.1 hP hD hS 0 rfl rfl 2 (by decide) (hts _ k_444) (fun _ h9 => h9) rfl (by decide +kernel) rfl rfl (Nat.le_of_ble_eq_true rfl) dX6_weigh_30 (fun H locs hP hD hS => ?_)
    have hP : va_P D vwCl [(a 11, .inr (6, [.ref (a 47), .int n1, .int n2, .int n3, .int ba, .int x_1]))] H := hP
    have hD : va_D A [(a 11, .inr (6, [.ref (a 47), .int n1, .int n2, .int n3, .int ba, .int x_1]))] := hD
    refine lv_aload_n hx hb dX6_weigh_33 rfl (lv_at hl 0 rfl) ?_
    refine lv_iconst (v := 0) hx hb dX6_weigh_34 (by decide) ?_
    refine va_put (D := D) (ci := 6) (v := .int 0) (ty := .int) (C := RX6) (T := TX6) (N := 6) hx hb hts inT_X6 tyX6 tyX6_ok nmX6 hown hK.1 hP hD hS 0 rfl rfl 4 (by decide) (hts _ k_448) (fun _ h9 => h9) rfl (by decide +kernel) rfl rfl (Nat.le_of_ble_eq_true rfl) dX6_weigh_35 (fun H locs hP hD hS => ?_)
    have hP : va_P D vwCl [(a 11, .inr (6, [.ref (a 47), .int n1, .int n2, .int n3, .int 0, .int x_1]))] H := hP
    have hD : va_D A [(a 11, .inr (6, [.ref (a 47), .int n1, .int n2, .int n3, .int 0, .int x_1]))] := hD
    refine lv_aload_n hx hb dX6_weigh_38 rfl (lv_at hl 0 rfl) ?_
    refine lv_dup hx hb dX6_weigh_39 rfl ?_
    refine va_get (D := D) (ci := 6) (v := .int 0) (C := RX6) (T := TX6) (N := 6) hx hb hts inT_X6 hown hK.1 hP 0 rfl rfl 4 (by decide) (hts _ k_448) (fun _ h9 => h9) rfl dX6_weigh_40 ?_
    refine lv_iload_n hx hb dX6_weigh_43 rfl (lv_at hl 3 rfl) ?_
    refine lv_aload_n hx hb dX6_weigh_44 rfl (lv_at hl 0 rfl) ?_
    refine va_get (D := D) (ci := 6) (v := .int n3) (C := RX6) (T := TX6) (N := 6) hx hb hts inT_X6 hown hK.1 hP 0 rfl rfl 3 (by decide) (hts _ k_446) (fun _ h9 => h9) rfl dX6_weigh_45 ?_
    refine lv_icmp_ne (tgt := 55) hx hb dX6_weigh_48 (by decide) (fun c_8 => ?_) (fun c_8 => ?_)
    · refine lv_iconst (v := 0) hx hb dX6_weigh_55 (by decide) ?_
      refine lv_iadd hx hb dX6_weigh_56 ?_
      refine lv_topv (y := 0) (by decide) ?_
      refine va_put (D := D) (ci := 6) (v := .int 0) (ty := .int) (C := RX6) (T := TX6) (N := 6) hx hb hts inT_X6 tyX6 tyX6_ok nmX6 hown hK.1 hP hD hS 0 rfl rfl 4 (by decide) (hts _ k_448) (fun _ h9 => h9) rfl (by decide +kernel) rfl rfl (Nat.le_of_ble_eq_true rfl) dX6_weigh_57 (fun H locs hP hD hS => ?_)
      have hP : va_P D vwCl [(a 11, .inr (6, [.ref (a 47), .int n1, .int n2, .int n3, .int 0, .int x_1]))] H := hP
      have hD : va_D A [(a 11, .inr (6, [.ref (a 47), .int n1, .int n2, .int n3, .int 0, .int x_1]))] := hD
      rw [hQ]
      exact W.vret hx hb hr (fun tt9 ht hW => ⟨⟨((n1 : Int32), (n2 : Int32), (n3 : Int32), (0 : Int32), (x_1 : Int32)), rfl, (lf_X6_weigh_f_9 a bc br bm ba bp n1 n2 n3 x_1 ex_1 c_2 c_8), ⟨by rw [ht]; exact hP, hD⟩⟩, hS.F ht⟩) hS.2.2 dX6_weigh_60 hlocks
    · refine lv_iconst (v := 1) hx hb dX6_weigh_51 (by decide) ?_
      refine lv_goto (tgt := 56) hx hb dX6_weigh_52 (by decide) ?_
      refine lv_iadd hx hb dX6_weigh_56 ?_
      refine lv_topv (y := 1) (by decide) ?_
      refine va_put (D := D) (ci := 6) (v := .int 1) (ty := .int) (C := RX6) (T := TX6) (N := 6) hx hb hts inT_X6 tyX6 tyX6_ok nmX6 hown hK.1 hP hD hS 0 rfl rfl 4 (by decide) (hts _ k_448) (fun _ h9 => h9) rfl (by decide +kernel) rfl rfl (Nat.le_of_ble_eq_true rfl) dX6_weigh_57 (fun H locs hP hD hS => ?_)
      have hP : va_P D vwCl [(a 11, .inr (6, [.ref (a 47), .int n1, .int n2, .int n3, .int 1, .int x_1]))] H := hP
      have hD : va_D A [(a 11, .inr (6, [.ref (a 47), .int n1, .int n2, .int n3, .int 1, .int x_1]))] := hD
      rw [hQ]
      exact W.vret hx hb hr (fun tt9 ht hW => ⟨⟨((n1 : Int32), (n2 : Int32), (n3 : Int32), (1 : Int32), (x_1 : Int32)), rfl, (lf_X6_weigh_f_10 a bc br bm ba bp n1 n2 n3 x_1 ex_1 c_2 c_8), ⟨by rw [ht]; exact hP, hD⟩⟩, hS.F ht⟩) hS.2.2 dX6_weigh_60 hlocks

theorem lf_X6_amount_f_3 (a : Nat → Nat) (bc : Int32) (br : Int32) (bm : Int32) (ba : Int32) (bp : Int32) (pc_ : Nat → Int32) (c0 : Nat) (r0 : Nat) (w0 : Nat) (h0 : Nat) (hw : c0 + w0 ≤ 12) (hh : r0 + h0 ≤ 6) (j1 : Nat) (w1 : Int32) (k6 : Nat) (hj6 : j1 ≤ (r0 + h0)) (hk6 : (r0 + h0) < j1 + (k6 + 1)) (hr1 : r0 ≤ j1) (hw1 : w1 = amO pc_ c0 w0 r0 (j1 - r0)) (c_1 : nI (r0 + h0) ≤ nI j1) : (r0 + h0) ≤ j1 := by
  exact (nI_leI (a := (r0 + h0)) (b := j1) (by omega) (by omega)).mp c_1
theorem lf_X6_amount_f_4 (a : Nat → Nat) (bc : Int32) (br : Int32) (bm : Int32) (ba : Int32) (bp : Int32) (pc_ : Nat → Int32) (c0 : Nat) (r0 : Nat) (w0 : Nat) (h0 : Nat) (hw : c0 + w0 ≤ 12) (hh : r0 + h0 ≤ 6) (j1 : Nat) (w1 : Int32) (k6 : Nat) (hj6 : j1 ≤ (r0 + h0)) (hk6 : (r0 + h0) < j1 + (k6 + 1)) (hr1 : r0 ≤ j1) (hw1 : w1 = amO pc_ c0 w0 r0 (j1 - r0)) (c_1 : nI (r0 + h0) ≤ nI j1) (n_2 : (r0 + h0) ≤ j1) : (w1 : Int32) = amO pc_ c0 w0 r0 h0 := by
  exact amO_l (by assumption) (by assumption) (by assumption)
theorem lf_X6_amount_f_6 (a : Nat → Nat) (bc : Int32) (br : Int32) (bm : Int32) (ba : Int32) (bp : Int32) (pc_ : Nat → Int32) (c0 : Nat) (r0 : Nat) (w0 : Nat) (h0 : Nat) (hw : c0 + w0 ≤ 12) (hh : r0 + h0 ≤ 6) (j1 : Nat) (w1 : Int32) (k6 : Nat) (hj6 : j1 ≤ (r0 + h0)) (hk6 : (r0 + h0) < j1 + (k6 + 1)) (hr1 : r0 ≤ j1) (hw1 : w1 = amO pc_ c0 w0 r0 (j1 - r0)) (c_1 : ¬ nI (r0 + h0) ≤ nI j1) : j1 < (r0 + h0) := by
  exact Nat.lt_of_not_le (fun q => c_1 ((nI_leI (a := (r0 + h0)) (b := j1) (by omega) (by omega)).mpr q))
theorem lf_X6_amount_f_9 (a : Nat → Nat) (bc : Int32) (br : Int32) (bm : Int32) (ba : Int32) (bp : Int32) (pc_ : Nat → Int32) (c0 : Nat) (r0 : Nat) (w0 : Nat) (h0 : Nat) (hw : c0 + w0 ≤ 12) (hh : r0 + h0 ≤ 6) (j1 : Nat) (w1 : Int32) (k6 : Nat) (hj6 : j1 ≤ (r0 + h0)) (hk6 : (r0 + h0) < j1 + (k6 + 1)) (hr1 : r0 ≤ j1) (hw1 : w1 = amO pc_ c0 w0 r0 (j1 - r0)) (c_1 : ¬ nI (r0 + h0) ≤ nI j1) (n_5 : j1 < (r0 + h0)) (j2 : Nat) (w2 : Int32) (k18 : Nat) (hj18 : j2 ≤ (c0 + w0)) (hk18 : (c0 + w0) < j2 + (k18 + 1)) (hc2 : c0 ≤ j2) (hw2 : w2 = amI pc_ j1 w1 c0 (j2 - c0)) (c_7 : nI (c0 + w0) ≤ nI j2) : (c0 + w0) ≤ j2 := by
  exact (nI_leI (a := (c0 + w0)) (b := j2) (by omega) (by omega)).mp c_7
theorem lf_X6_amount_f_10 (a : Nat → Nat) (bc : Int32) (br : Int32) (bm : Int32) (ba : Int32) (bp : Int32) (pc_ : Nat → Int32) (c0 : Nat) (r0 : Nat) (w0 : Nat) (h0 : Nat) (hw : c0 + w0 ≤ 12) (hh : r0 + h0 ≤ 6) (j1 : Nat) (w1 : Int32) (k6 : Nat) (hj6 : j1 ≤ (r0 + h0)) (hk6 : (r0 + h0) < j1 + (k6 + 1)) (hr1 : r0 ≤ j1) (hw1 : w1 = amO pc_ c0 w0 r0 (j1 - r0)) (c_1 : ¬ nI (r0 + h0) ≤ nI j1) (n_5 : j1 < (r0 + h0)) (j2 : Nat) (w2 : Int32) (k18 : Nat) (hj18 : j2 ≤ (c0 + w0)) (hk18 : (c0 + w0) < j2 + (k18 + 1)) (hc2 : c0 ≤ j2) (hw2 : w2 = amI pc_ j1 w1 c0 (j2 - c0)) (c_7 : nI (c0 + w0) ≤ nI j2) (n_8 : (c0 + w0) ≤ j2) : r0 ≤ (j1 + 1) := by
  first | omega | exact amI_0 | exact amO_0 | exact amI_s (by assumption) (by assumption) (by assumption) | exact amO_s (by assumption) (by assumption) (by assumption) (by assumption) (by assumption)
theorem lf_X6_amount_f_11 (a : Nat → Nat) (bc : Int32) (br : Int32) (bm : Int32) (ba : Int32) (bp : Int32) (pc_ : Nat → Int32) (c0 : Nat) (r0 : Nat) (w0 : Nat) (h0 : Nat) (hw : c0 + w0 ≤ 12) (hh : r0 + h0 ≤ 6) (j1 : Nat) (w1 : Int32) (k6 : Nat) (hj6 : j1 ≤ (r0 + h0)) (hk6 : (r0 + h0) < j1 + (k6 + 1)) (hr1 : r0 ≤ j1) (hw1 : w1 = amO pc_ c0 w0 r0 (j1 - r0)) (c_1 : ¬ nI (r0 + h0) ≤ nI j1) (n_5 : j1 < (r0 + h0)) (j2 : Nat) (w2 : Int32) (k18 : Nat) (hj18 : j2 ≤ (c0 + w0)) (hk18 : (c0 + w0) < j2 + (k18 + 1)) (hc2 : c0 ≤ j2) (hw2 : w2 = amI pc_ j1 w1 c0 (j2 - c0)) (c_7 : nI (c0 + w0) ≤ nI j2) (n_8 : (c0 + w0) ≤ j2) : w2 = amO pc_ c0 w0 r0 ((j1 + 1) - r0) := by
  first | omega | exact amI_0 | exact amO_0 | exact amI_s (by assumption) (by assumption) (by assumption) | exact amO_s (by assumption) (by assumption) (by assumption) (by assumption) (by assumption)
theorem lf_X6_amount_f_13 (a : Nat → Nat) (bc : Int32) (br : Int32) (bm : Int32) (ba : Int32) (bp : Int32) (pc_ : Nat → Int32) (c0 : Nat) (r0 : Nat) (w0 : Nat) (h0 : Nat) (hw : c0 + w0 ≤ 12) (hh : r0 + h0 ≤ 6) (j1 : Nat) (w1 : Int32) (k6 : Nat) (hj6 : j1 ≤ (r0 + h0)) (hk6 : (r0 + h0) < j1 + (k6 + 1)) (hr1 : r0 ≤ j1) (hw1 : w1 = amO pc_ c0 w0 r0 (j1 - r0)) (c_1 : ¬ nI (r0 + h0) ≤ nI j1) (n_5 : j1 < (r0 + h0)) (j2 : Nat) (w2 : Int32) (k18 : Nat) (hj18 : j2 ≤ (c0 + w0)) (hk18 : (c0 + w0) < j2 + (k18 + 1)) (hc2 : c0 ≤ j2) (hw2 : w2 = amI pc_ j1 w1 c0 (j2 - c0)) (c_7 : ¬ nI (c0 + w0) ≤ nI j2) : j2 < (c0 + w0) := by
  exact Nat.lt_of_not_le (fun q => c_7 ((nI_leI (a := (c0 + w0)) (b := j2) (by omega) (by omega)).mpr q))
theorem lf_X6_amount_f_14 (a : Nat → Nat) (bc : Int32) (br : Int32) (bm : Int32) (ba : Int32) (bp : Int32) (pc_ : Nat → Int32) (c0 : Nat) (r0 : Nat) (w0 : Nat) (h0 : Nat) (hw : c0 + w0 ≤ 12) (hh : r0 + h0 ≤ 6) (j1 : Nat) (w1 : Int32) (k6 : Nat) (hj6 : j1 ≤ (r0 + h0)) (hk6 : (r0 + h0) < j1 + (k6 + 1)) (hr1 : r0 ≤ j1) (hw1 : w1 = amO pc_ c0 w0 r0 (j1 - r0)) (c_1 : ¬ nI (r0 + h0) ≤ nI j1) (n_5 : j1 < (r0 + h0)) (j2 : Nat) (w2 : Int32) (k18 : Nat) (hj18 : j2 ≤ (c0 + w0)) (hk18 : (c0 + w0) < j2 + (k18 + 1)) (hc2 : c0 ≤ j2) (hw2 : w2 = amI pc_ j1 w1 c0 (j2 - c0)) (c_7 : ¬ nI (c0 + w0) ≤ nI j2) (n_12 : j2 < (c0 + w0)) : ((j1 * 12) + j2) < 72 := by
  omega
theorem lf_X6_amount_f_16 (a : Nat → Nat) (bc : Int32) (br : Int32) (bm : Int32) (ba : Int32) (bp : Int32) (pc_ : Nat → Int32) (c0 : Nat) (r0 : Nat) (w0 : Nat) (h0 : Nat) (hw : c0 + w0 ≤ 12) (hh : r0 + h0 ≤ 6) (j1 : Nat) (w1 : Int32) (k6 : Nat) (hj6 : j1 ≤ (r0 + h0)) (hk6 : (r0 + h0) < j1 + (k6 + 1)) (hr1 : r0 ≤ j1) (hw1 : w1 = amO pc_ c0 w0 r0 (j1 - r0)) (c_1 : ¬ nI (r0 + h0) ≤ nI j1) (n_5 : j1 < (r0 + h0)) (j2 : Nat) (w2 : Int32) (k18 : Nat) (hj18 : j2 ≤ (c0 + w0)) (hk18 : (c0 + w0) < j2 + (k18 + 1)) (hc2 : c0 ≤ j2) (hw2 : w2 = amI pc_ j1 w1 c0 (j2 - c0)) (c_7 : ¬ nI (c0 + w0) ≤ nI j2) (n_12 : j2 < (c0 + w0)) (x_15 : Int32) (ex_15 : x_15 = w2 + pc_ ((j1 * 12) + j2)) : c0 ≤ (j2 + 1) := by
  first | omega | exact amI_0 | exact amO_0 | exact amI_s (by assumption) (by assumption) (by assumption) | exact amO_s (by assumption) (by assumption) (by assumption) (by assumption) (by assumption)
theorem lf_X6_amount_f_17 (a : Nat → Nat) (bc : Int32) (br : Int32) (bm : Int32) (ba : Int32) (bp : Int32) (pc_ : Nat → Int32) (c0 : Nat) (r0 : Nat) (w0 : Nat) (h0 : Nat) (hw : c0 + w0 ≤ 12) (hh : r0 + h0 ≤ 6) (j1 : Nat) (w1 : Int32) (k6 : Nat) (hj6 : j1 ≤ (r0 + h0)) (hk6 : (r0 + h0) < j1 + (k6 + 1)) (hr1 : r0 ≤ j1) (hw1 : w1 = amO pc_ c0 w0 r0 (j1 - r0)) (c_1 : ¬ nI (r0 + h0) ≤ nI j1) (n_5 : j1 < (r0 + h0)) (j2 : Nat) (w2 : Int32) (k18 : Nat) (hj18 : j2 ≤ (c0 + w0)) (hk18 : (c0 + w0) < j2 + (k18 + 1)) (hc2 : c0 ≤ j2) (hw2 : w2 = amI pc_ j1 w1 c0 (j2 - c0)) (c_7 : ¬ nI (c0 + w0) ≤ nI j2) (n_12 : j2 < (c0 + w0)) (x_15 : Int32) (ex_15 : x_15 = w2 + pc_ ((j1 * 12) + j2)) : x_15 = amI pc_ j1 w1 c0 ((j2 + 1) - c0) := by
  first | omega | exact amI_0 | exact amO_0 | exact amI_s (by assumption) (by assumption) (by assumption) | exact amO_s (by assumption) (by assumption) (by assumption) (by assumption) (by assumption)
theorem lf_X6_amount_f_18 (a : Nat → Nat) (bc : Int32) (br : Int32) (bm : Int32) (ba : Int32) (bp : Int32) (pc_ : Nat → Int32) (c0 : Nat) (r0 : Nat) (w0 : Nat) (h0 : Nat) (hw : c0 + w0 ≤ 12) (hh : r0 + h0 ≤ 6) (j1 : Nat) (w1 : Int32) (k6 : Nat) (hj6 : j1 ≤ (r0 + h0)) (hk6 : (r0 + h0) < j1 + (k6 + 1)) (hr1 : r0 ≤ j1) (hw1 : w1 = amO pc_ c0 w0 r0 (j1 - r0)) (c_1 : ¬ nI (r0 + h0) ≤ nI j1) (n_5 : j1 < (r0 + h0)) : c0 ≤ c0 := by
  first | omega | exact amI_0 | exact amO_0 | exact amI_s (by assumption) (by assumption) (by assumption) | exact amO_s (by assumption) (by assumption) (by assumption) (by assumption) (by assumption)
theorem lf_X6_amount_f_19 (a : Nat → Nat) (bc : Int32) (br : Int32) (bm : Int32) (ba : Int32) (bp : Int32) (pc_ : Nat → Int32) (c0 : Nat) (r0 : Nat) (w0 : Nat) (h0 : Nat) (hw : c0 + w0 ≤ 12) (hh : r0 + h0 ≤ 6) (j1 : Nat) (w1 : Int32) (k6 : Nat) (hj6 : j1 ≤ (r0 + h0)) (hk6 : (r0 + h0) < j1 + (k6 + 1)) (hr1 : r0 ≤ j1) (hw1 : w1 = amO pc_ c0 w0 r0 (j1 - r0)) (c_1 : ¬ nI (r0 + h0) ≤ nI j1) (n_5 : j1 < (r0 + h0)) : w1 = amI pc_ j1 w1 c0 (c0 - c0) := by
  first | omega | exact amI_0 | exact amO_0 | exact amI_s (by assumption) (by assumption) (by assumption) | exact amO_s (by assumption) (by assumption) (by assumption) (by assumption) (by assumption)
theorem lf_X6_amount_f_20 (a : Nat → Nat) (bc : Int32) (br : Int32) (bm : Int32) (ba : Int32) (bp : Int32) (pc_ : Nat → Int32) (c0 : Nat) (r0 : Nat) (w0 : Nat) (h0 : Nat) (hw : c0 + w0 ≤ 12) (hh : r0 + h0 ≤ 6) : r0 ≤ r0 := by
  first | omega | exact amI_0 | exact amO_0 | exact amI_s (by assumption) (by assumption) (by assumption) | exact amO_s (by assumption) (by assumption) (by assumption) (by assumption) (by assumption)
theorem lf_X6_amount_f_21 (a : Nat → Nat) (bc : Int32) (br : Int32) (bm : Int32) (ba : Int32) (bp : Int32) (pc_ : Nat → Int32) (c0 : Nat) (r0 : Nat) (w0 : Nat) (h0 : Nat) (hw : c0 + w0 ≤ 12) (hh : r0 + h0 ≤ 6) : (0 : Int32) = amO pc_ c0 w0 r0 (r0 - r0) := by
  first | omega | exact amI_0 | exact amO_0 | exact amI_s (by assumption) (by assumption) (by assumption) | exact amO_s (by assumption) (by assumption) (by assumption) (by assumption) (by assumption)
set_option maxHeartbeats 4000000 in
set_option maxRecDepth 100000 in
theorem c_X6_amount_f (l : Launch) (D : va_G) (cI cB cZ cJ : ClassId) (tx : List (ClassId × FieldType)) (a : Nat → Nat) (bc : Int32) (br : Int32) (bm : Int32) (ba : Int32) (bp : Int32) (pc_ : Nat → Int32) (c0 : Nat) (r0 : Nat) (w0 : Nat) (h0 : Nat) (hw : c0 + w0 ≤ 12) (hh : r0 + h0 ≤ 6) : RdI l D cI cB cZ cJ tx yX6_amount cX6_amount 8 (some .int) 0 [.ref (a 11), .int (nI c0), .int (nI r0), .int (nI w0), .int (nI h0)] [(a 11, .inr (6, [.ref (a 47), .int bc, .int br, .int bm, .int ba, .int bp])), (a 47, .inl (cI, 72, .inl pc_))] (fun r => r = amO pc_ c0 w0 r0 h0) := by
  refine rdi_of2 (by decide) (Nat.le_of_ble_eq_true rfl) ?_
  intro p e s m below meth c A ls H locs hC hK hP hD hA hS hl
  obtain ⟨hx, hb, hr, hml, hown, hts, hlocks, hin⟩ := hC
  have hown : s.vm.findClass RX6 = some m.cls := hown
  have hl : lv_has ls 8 [(0, .ref (a 11)), (1, .int (nI c0)), (2, .int (nI r0)), (3, .int (nI w0)), (4, .int (nI h0))] := hl
  refine W_gQ (fun Q hQ => ?_)
  refine lv_iconst (v := 0) hx hb dX6_amount_0 (by decide) ?_
  refine lv_istore (lv' := [(5, .int 0), (0, .ref (a 11)), (1, .int (nI c0)), (2, .int (nI r0)), (3, .int (nI w0)), (4, .int (nI h0))]) hx hb dX6_amount_1 hl (by decide) rfl (fun ls hl => ?_)
  refine lv_iload_n hx hb dX6_amount_3 rfl (lv_at hl 3 rfl) ?_
  refine lv_istore (lv' := [(6, .int (nI r0)), (5, .int 0), (0, .ref (a 11)), (1, .int (nI c0)), (2, .int (nI r0)), (3, .int (nI w0)), (4, .int (nI h0))]) hx hb dX6_amount_4 hl (by decide) rfl (fun ls hl => ?_)
  have lp6 : ∀ (k6 : Nat) (j1 : Nat) (w1 : Int32) (H : Heap) (locs : List Loc) (ls : Array Slot), j1 ≤ (r0 + h0) → (r0 + h0) < j1 + k6 → (r0 ≤ j1) → (w1 = amO pc_ c0 w0 r0 (j1 - r0)) → va_P D vwCl [(a 11, .inr (6, [.ref (a 47), .int bc, .int br, .int bm, .int ba, .int bp])), (a 47, .inl (cI, 72, .inl pc_))] H → va_S A s.heap H locs → lv_has ls 8 [(6, .int (nI j1)), (5, .int w1), (0, .ref (a 11)), (1, .int (nI c0)), (2, .int (nI r0)), (3, .int (nI w0)), (4, .int (nI h0))] → W p l e (rmX 0 0 0) s m ([.ref (a 11), .int (nI c0), .int (nI r0), .int (nI w0), .int (nI h0)] : List Value).toArray below meth c H locs 0 0 Q (F0 m 6 ls []) := by
    intro k6
    induction k6 with
    | zero =>
      intro j1 w1 H locs ls hj6 hk6 hr1 hw1 hP hS hl
      exact absurd hk6 (by omega)
    | succ k6 ih6 =>
      intro j1 w1 H locs ls hj6 hk6 hr1 hw1 hP hS hl
      refine lv_iload hx hb dX6_amount_6 (lv_at hl 0 rfl) ?_
      refine lv_iload_n hx hb dX6_amount_8 rfl (lv_at hl 4 rfl) ?_
      refine lv_iload hx hb dX6_amount_9 (lv_at hl 6 rfl) ?_
      refine lv_iadd hx hb dX6_amount_11 ?_
      refine lv_topv (y := nI (r0 + h0)) (nI_add r0 h0) ?_
      refine lv_icmp_ge (tgt := 56) hx hb dX6_amount_12 (by decide) (fun c_1 => ?_) (fun c_1 => ?_)
      · have n_2 : (r0 + h0) ≤ j1 := (lf_X6_amount_f_3 a bc br bm ba bp pc_ c0 r0 w0 h0 hw hh j1 w1 k6 hj6 hk6 hr1 hw1 c_1)
        refine lv_iload hx hb dX6_amount_56 (lv_at hl 1 rfl) ?_
        rw [hQ]
        exact W.iret (v := w1) hx hb hr (fun tt9 ht hW => ⟨⟨(w1 : Int32), (), rfl, (lf_X6_amount_f_4 a bc br bm ba bp pc_ c0 r0 w0 h0 hw hh j1 w1 k6 hj6 hk6 hr1 hw1 c_1 n_2), trivial⟩, hS.F ht⟩) hS.2.2 dX6_amount_58 hlocks
      · have n_5 : j1 < (r0 + h0) := (lf_X6_amount_f_6 a bc br bm ba bp pc_ c0 r0 w0 h0 hw hh j1 w1 k6 hj6 hk6 hr1 hw1 c_1)
        refine lv_iload_n hx hb dX6_amount_15 rfl (lv_at hl 3 rfl) ?_
        refine lv_istore (lv' := [(7, .int (nI c0)), (6, .int (nI j1)), (5, .int w1), (0, .ref (a 11)), (1, .int (nI c0)), (2, .int (nI r0)), (3, .int (nI w0)), (4, .int (nI h0))]) hx hb dX6_amount_16 hl (by decide) rfl (fun ls hl => ?_)
        have lp18 : ∀ (k18 : Nat) (j2 : Nat) (w2 : Int32) (H : Heap) (locs : List Loc) (ls : Array Slot), j2 ≤ (c0 + w0) → (c0 + w0) < j2 + k18 → (c0 ≤ j2) → (w2 = amI pc_ j1 w1 c0 (j2 - c0)) → va_P D vwCl [(a 11, .inr (6, [.ref (a 47), .int bc, .int br, .int bm, .int ba, .int bp])), (a 47, .inl (cI, 72, .inl pc_))] H → va_S A s.heap H locs → lv_has ls 8 [(7, .int (nI j2)), (6, .int (nI j1)), (5, .int w2), (0, .ref (a 11)), (1, .int (nI c0)), (2, .int (nI r0)), (3, .int (nI w0)), (4, .int (nI h0))] → W p l e (rmX 0 0 0) s m ([.ref (a 11), .int (nI c0), .int (nI r0), .int (nI w0), .int (nI h0)] : List Value).toArray below meth c H locs 0 0 Q (F0 m 18 ls []) := by
          intro k18
          induction k18 with
          | zero =>
            intro j2 w2 H locs ls hj18 hk18 hc2 hw2 hP hS hl
            exact absurd hk18 (by omega)
          | succ k18 ih18 =>
            intro j2 w2 H locs ls hj18 hk18 hc2 hw2 hP hS hl
            refine lv_iload hx hb dX6_amount_18 (lv_at hl 0 rfl) ?_
            refine lv_iload_n hx hb dX6_amount_20 rfl (lv_at hl 4 rfl) ?_
            refine lv_iload_n hx hb dX6_amount_21 rfl (lv_at hl 6 rfl) ?_
            refine lv_iadd hx hb dX6_amount_22 ?_
            refine lv_topv (y := nI (c0 + w0)) (nI_add c0 w0) ?_
            refine lv_icmp_ge (tgt := 50) hx hb dX6_amount_23 (by decide) (fun c_7 => ?_) (fun c_7 => ?_)
            · have n_8 : (c0 + w0) ≤ j2 := (lf_X6_amount_f_9 a bc br bm ba bp pc_ c0 r0 w0 h0 hw hh j1 w1 k6 hj6 hk6 hr1 hw1 c_1 n_5 j2 w2 k18 hj18 hk18 hc2 hw2 c_7)
              refine lv_iinc (v := nI (j1 + 1)) (lv' := [(6, .int (nI (j1 + 1))), (7, .int (nI j2)), (5, .int w2), (0, .ref (a 11)), (1, .int (nI c0)), (2, .int (nI r0)), (3, .int (nI w0)), (4, .int (nI h0))]) hx hb dX6_amount_50 hl (k := 1) rfl (nI_1 j1) (by decide) rfl (fun ls hl => ?_)
              refine lv_goto (tgt := 6) hx hb dX6_amount_53 (by decide) ?_
              exact ih6 (j1 + 1) w2 H locs ls (by omega) (by omega) (lf_X6_amount_f_10 a bc br bm ba bp pc_ c0 r0 w0 h0 hw hh j1 w1 k6 hj6 hk6 hr1 hw1 c_1 n_5 j2 w2 k18 hj18 hk18 hc2 hw2 c_7 n_8) (lf_X6_amount_f_11 a bc br bm ba bp pc_ c0 r0 w0 h0 hw hh j1 w1 k6 hj6 hk6 hr1 hw1 c_1 n_5 j2 w2 k18 hj18 hk18 hc2 hw2 c_7 n_8) (hP.sub [0, 1] rfl)  hS (lv_sub hl [0, 2, 3, 4, 5, 6, 7] rfl)
            · have n_12 : j2 < (c0 + w0) := (lf_X6_amount_f_13 a bc br bm ba bp pc_ c0 r0 w0 h0 hw hh j1 w1 k6 hj6 hk6 hr1 hw1 c_1 n_5 j2 w2 k18 hj18 hk18 hc2 hw2 c_7)
              refine lv_iload hx hb dX6_amount_26 (lv_at hl 2 rfl) ?_
              refine lv_aload_n hx hb dX6_amount_28 rfl (lv_at hl 3 rfl) ?_
              refine va_get (D := D) (ci := 6) (v := .ref (a 47)) (C := RX6) (T := TX6) (N := 6) hx hb hts inT_X6 hown hK.1 hP 0 rfl rfl 0 (by decide) (hts _ k_441) (fun _ h9 => h9) rfl dX6_amount_29 ?_
              refine lv_iload hx hb dX6_amount_32 (lv_at hl 1 rfl) ?_
              refine lv_bipush (v := 12) hx hb dX6_amount_34 (by decide) ?_
              refine lv_imul hx hb dX6_amount_36 ?_
              refine lv_topv (y := nI (j1 * 12)) (pk_mul j1 12) ?_
              refine lv_iload hx hb dX6_amount_37 (lv_at hl 0 rfl) ?_
              refine lv_iadd hx hb dX6_amount_39 ?_
              refine lv_topv (y := nI ((j1 * 12) + j2)) (nI_add (j1 * 12) j2) ?_
              refine lt_i (j := ((j1 * 12) + j2)) hx hb hK hP 1 rfl (lf_X6_amount_f_14 a bc br bm ba bp pc_ c0 r0 w0 h0 hw hh j1 w1 k6 hj6 hk6 hr1 hw1 c_1 n_5 j2 w2 k18 hj18 hk18 hc2 hw2 c_7 n_12) (by decide) dX6_amount_40 ?_
              refine lv_iadd hx hb dX6_amount_41 ?_
              refine lv_topi (fun x_15 ex_15 => ?_)
              refine lv_istore (lv' := [(5, .int x_15), (7, .int (nI j2)), (6, .int (nI j1)), (0, .ref (a 11)), (1, .int (nI c0)), (2, .int (nI r0)), (3, .int (nI w0)), (4, .int (nI h0))]) hx hb dX6_amount_42 hl (by decide) rfl (fun ls hl => ?_)
              refine lv_iinc (v := nI (j2 + 1)) (lv' := [(7, .int (nI (j2 + 1))), (5, .int x_15), (6, .int (nI j1)), (0, .ref (a 11)), (1, .int (nI c0)), (2, .int (nI r0)), (3, .int (nI w0)), (4, .int (nI h0))]) hx hb dX6_amount_44 hl (k := 1) rfl (nI_1 j2) (by decide) rfl (fun ls hl => ?_)
              refine lv_goto (tgt := 18) hx hb dX6_amount_47 (by decide) ?_
              exact ih18 (j2 + 1) x_15 H locs ls (by omega) (by omega) (lf_X6_amount_f_16 a bc br bm ba bp pc_ c0 r0 w0 h0 hw hh j1 w1 k6 hj6 hk6 hr1 hw1 c_1 n_5 j2 w2 k18 hj18 hk18 hc2 hw2 c_7 n_12 x_15 ex_15) (lf_X6_amount_f_17 a bc br bm ba bp pc_ c0 r0 w0 h0 hw hh j1 w1 k6 hj6 hk6 hr1 hw1 c_1 n_5 j2 w2 k18 hj18 hk18 hc2 hw2 c_7 n_12 x_15 ex_15) (hP.sub [0, 1] rfl)  hS (lv_sub hl [0, 2, 1, 3, 4, 5, 6, 7] rfl)
        exact lp18 ((c0 + w0) + 1) c0 w1 H locs ls (by omega) (by omega) (lf_X6_amount_f_18 a bc br bm ba bp pc_ c0 r0 w0 h0 hw hh j1 w1 k6 hj6 hk6 hr1 hw1 c_1 n_5) (lf_X6_amount_f_19 a bc br bm ba bp pc_ c0 r0 w0 h0 hw hh j1 w1 k6 hj6 hk6 hr1 hw1 c_1 n_5) (hP.sub [0, 1] rfl)  hS (lv_sub hl [0, 1, 2, 3, 4, 5, 6, 7] rfl)
  exact lp6 ((r0 + h0) + 1) r0 0 H locs ls (by omega) (by omega) (lf_X6_amount_f_20 a bc br bm ba bp pc_ c0 r0 w0 h0 hw hh) (lf_X6_amount_f_21 a bc br bm ba bp pc_ c0 r0 w0 h0 hw hh) (hP.sub [0, 1] rfl)  hS (lv_sub hl [0, 1, 2, 3, 4, 5, 6] rfl)

theorem lf_X6_seek_f_3 (a : Nat → Nat) (bc : Int32) (br : Int32) (bm : Int32) (ba : Int32) (bp : Int32) (pc_ : Nat → Int32) (w0 : Nat) (h0 : Nat) (hw1 : 1 ≤ w0) (hw2 : w0 ≤ 12) (hh1 : 1 ≤ h0) (hh2 : h0 ≤ 6) (j1 : Nat) (bc_j1 : Int32) (br_j1 : Int32) (bm_j1 : Int32) (ba_j1 : Int32) (bp_j1 : Int32) (k17 : Nat) (hj17 : j1 ≤ (7 - h0)) (hk17 : (7 - h0) < j1 + (k17 + 1)) (hq1 : (bm_j1, bc_j1, br_j1, ba_j1) = bdF (fun c r => amO pc_ c w0 r h0) (13 - w0) bc br j1) (hp1 : bp_j1 = nI (j1 * (13 - w0))) (c_1 : 6 < nI (j1 + h0)) : 6 < (j1 + h0) := by
  exact (nI_ltI (a := 6) (b := (j1 + h0)) (by omega) (by omega)).mp c_1
theorem lf_X6_seek_f_4 (a : Nat → Nat) (bc : Int32) (br : Int32) (bm : Int32) (ba : Int32) (bp : Int32) (pc_ : Nat → Int32) (w0 : Nat) (h0 : Nat) (hw1 : 1 ≤ w0) (hw2 : w0 ≤ 12) (hh1 : 1 ≤ h0) (hh2 : h0 ≤ 6) (j1 : Nat) (bc_j1 : Int32) (br_j1 : Int32) (bm_j1 : Int32) (ba_j1 : Int32) (bp_j1 : Int32) (k17 : Nat) (hj17 : j1 ≤ (7 - h0)) (hk17 : (7 - h0) < j1 + (k17 + 1)) (hq1 : (bm_j1, bc_j1, br_j1, ba_j1) = bdF (fun c r => amO pc_ c w0 r h0) (13 - w0) bc br j1) (hp1 : bp_j1 = nI (j1 * (13 - w0))) (c_1 : 6 < nI (j1 + h0)) (n_2 : 6 < (j1 + h0)) : (((bm_j1 : Int32), (bc_j1 : Int32), (br_j1 : Int32), (ba_j1 : Int32)) = bdF (fun c r => amO pc_ c w0 r h0) (13 - w0) bc br (7 - h0)) ∧ ((bp_j1 : Int32) = nI ((7 - h0) * (13 - w0))) := by
  refine ⟨?_, ?_⟩
  · exact bdF_l (by omega) (by omega) hq1
  · exact bp_l hp1 (by omega) (by omega)
theorem lf_X6_seek_f_6 (a : Nat → Nat) (bc : Int32) (br : Int32) (bm : Int32) (ba : Int32) (bp : Int32) (pc_ : Nat → Int32) (w0 : Nat) (h0 : Nat) (hw1 : 1 ≤ w0) (hw2 : w0 ≤ 12) (hh1 : 1 ≤ h0) (hh2 : h0 ≤ 6) (j1 : Nat) (bc_j1 : Int32) (br_j1 : Int32) (bm_j1 : Int32) (ba_j1 : Int32) (bp_j1 : Int32) (k17 : Nat) (hj17 : j1 ≤ (7 - h0)) (hk17 : (7 - h0) < j1 + (k17 + 1)) (hq1 : (bm_j1, bc_j1, br_j1, ba_j1) = bdF (fun c r => amO pc_ c w0 r h0) (13 - w0) bc br j1) (hp1 : bp_j1 = nI (j1 * (13 - w0))) (c_1 : ¬ 6 < nI (j1 + h0)) : (j1 + h0) ≤ 6 := by
  exact Nat.le_of_not_lt (fun q => c_1 ((nI_ltI (a := 6) (b := (j1 + h0)) (by omega) (by omega)).mpr q))
theorem lf_X6_seek_f_9 (a : Nat → Nat) (bc : Int32) (br : Int32) (bm : Int32) (ba : Int32) (bp : Int32) (pc_ : Nat → Int32) (w0 : Nat) (h0 : Nat) (hw1 : 1 ≤ w0) (hw2 : w0 ≤ 12) (hh1 : 1 ≤ h0) (hh2 : h0 ≤ 6) (j1 : Nat) (bc_j1 : Int32) (br_j1 : Int32) (bm_j1 : Int32) (ba_j1 : Int32) (bp_j1 : Int32) (k17 : Nat) (hj17 : j1 ≤ (7 - h0)) (hk17 : (7 - h0) < j1 + (k17 + 1)) (hq1 : (bm_j1, bc_j1, br_j1, ba_j1) = bdF (fun c r => amO pc_ c w0 r h0) (13 - w0) bc br j1) (hp1 : bp_j1 = nI (j1 * (13 - w0))) (c_1 : ¬ 6 < nI (j1 + h0)) (n_5 : (j1 + h0) ≤ 6) (j2 : Nat) (bc_j2 : Int32) (br_j2 : Int32) (bm_j2 : Int32) (ba_j2 : Int32) (bp_j2 : Int32) (k28 : Nat) (hj28 : j2 ≤ (13 - w0)) (hk28 : (13 - w0) < j2 + (k28 + 1)) (hq2 : (bm_j2, bc_j2, br_j2, ba_j2) = bdI (fun c r => amO pc_ c w0 r h0) j1 (bm_j1, bc_j1, br_j1, ba_j1) j2) (hp2 : bp_j2 = nI (j1 * (13 - w0) + j2)) (c_7 : 12 < nI (j2 + w0)) : 12 < (j2 + w0) := by
  exact (nI_ltI (a := 12) (b := (j2 + w0)) (by omega) (by omega)).mp c_7
theorem lf_X6_seek_f_10 (a : Nat → Nat) (bc : Int32) (br : Int32) (bm : Int32) (ba : Int32) (bp : Int32) (pc_ : Nat → Int32) (w0 : Nat) (h0 : Nat) (hw1 : 1 ≤ w0) (hw2 : w0 ≤ 12) (hh1 : 1 ≤ h0) (hh2 : h0 ≤ 6) (j1 : Nat) (bc_j1 : Int32) (br_j1 : Int32) (bm_j1 : Int32) (ba_j1 : Int32) (bp_j1 : Int32) (k17 : Nat) (hj17 : j1 ≤ (7 - h0)) (hk17 : (7 - h0) < j1 + (k17 + 1)) (hq1 : (bm_j1, bc_j1, br_j1, ba_j1) = bdF (fun c r => amO pc_ c w0 r h0) (13 - w0) bc br j1) (hp1 : bp_j1 = nI (j1 * (13 - w0))) (c_1 : ¬ 6 < nI (j1 + h0)) (n_5 : (j1 + h0) ≤ 6) (j2 : Nat) (bc_j2 : Int32) (br_j2 : Int32) (bm_j2 : Int32) (ba_j2 : Int32) (bp_j2 : Int32) (k28 : Nat) (hj28 : j2 ≤ (13 - w0)) (hk28 : (13 - w0) < j2 + (k28 + 1)) (hq2 : (bm_j2, bc_j2, br_j2, ba_j2) = bdI (fun c r => amO pc_ c w0 r h0) j1 (bm_j1, bc_j1, br_j1, ba_j1) j2) (hp2 : bp_j2 = nI (j1 * (13 - w0) + j2)) (c_7 : 12 < nI (j2 + w0)) (n_8 : 12 < (j2 + w0)) : (bm_j2, bc_j2, br_j2, ba_j2) = bdF (fun c r => amO pc_ c w0 r h0) (13 - w0) bc br (j1 + 1) := by
  first | exact bp_z | exact bp_s (by assumption) hp2 | exact bp_r hp2 (by omega) (by omega) | exact bp_0 hp1 | exact bdI_s hq2 (by assumption) | exact bdF_s (by omega) (by omega) hq1 hq2 | rfl | exact hq1
theorem lf_X6_seek_f_11 (a : Nat → Nat) (bc : Int32) (br : Int32) (bm : Int32) (ba : Int32) (bp : Int32) (pc_ : Nat → Int32) (w0 : Nat) (h0 : Nat) (hw1 : 1 ≤ w0) (hw2 : w0 ≤ 12) (hh1 : 1 ≤ h0) (hh2 : h0 ≤ 6) (j1 : Nat) (bc_j1 : Int32) (br_j1 : Int32) (bm_j1 : Int32) (ba_j1 : Int32) (bp_j1 : Int32) (k17 : Nat) (hj17 : j1 ≤ (7 - h0)) (hk17 : (7 - h0) < j1 + (k17 + 1)) (hq1 : (bm_j1, bc_j1, br_j1, ba_j1) = bdF (fun c r => amO pc_ c w0 r h0) (13 - w0) bc br j1) (hp1 : bp_j1 = nI (j1 * (13 - w0))) (c_1 : ¬ 6 < nI (j1 + h0)) (n_5 : (j1 + h0) ≤ 6) (j2 : Nat) (bc_j2 : Int32) (br_j2 : Int32) (bm_j2 : Int32) (ba_j2 : Int32) (bp_j2 : Int32) (k28 : Nat) (hj28 : j2 ≤ (13 - w0)) (hk28 : (13 - w0) < j2 + (k28 + 1)) (hq2 : (bm_j2, bc_j2, br_j2, ba_j2) = bdI (fun c r => amO pc_ c w0 r h0) j1 (bm_j1, bc_j1, br_j1, ba_j1) j2) (hp2 : bp_j2 = nI (j1 * (13 - w0) + j2)) (c_7 : 12 < nI (j2 + w0)) (n_8 : 12 < (j2 + w0)) : bp_j2 = nI ((j1 + 1) * (13 - w0)) := by
  first | exact bp_z | exact bp_s (by assumption) hp2 | exact bp_r hp2 (by omega) (by omega) | exact bp_0 hp1 | exact bdI_s hq2 (by assumption) | exact bdF_s (by omega) (by omega) hq1 hq2 | rfl | exact hq1
theorem lf_X6_seek_f_13 (a : Nat → Nat) (bc : Int32) (br : Int32) (bm : Int32) (ba : Int32) (bp : Int32) (pc_ : Nat → Int32) (w0 : Nat) (h0 : Nat) (hw1 : 1 ≤ w0) (hw2 : w0 ≤ 12) (hh1 : 1 ≤ h0) (hh2 : h0 ≤ 6) (j1 : Nat) (bc_j1 : Int32) (br_j1 : Int32) (bm_j1 : Int32) (ba_j1 : Int32) (bp_j1 : Int32) (k17 : Nat) (hj17 : j1 ≤ (7 - h0)) (hk17 : (7 - h0) < j1 + (k17 + 1)) (hq1 : (bm_j1, bc_j1, br_j1, ba_j1) = bdF (fun c r => amO pc_ c w0 r h0) (13 - w0) bc br j1) (hp1 : bp_j1 = nI (j1 * (13 - w0))) (c_1 : ¬ 6 < nI (j1 + h0)) (n_5 : (j1 + h0) ≤ 6) (j2 : Nat) (bc_j2 : Int32) (br_j2 : Int32) (bm_j2 : Int32) (ba_j2 : Int32) (bp_j2 : Int32) (k28 : Nat) (hj28 : j2 ≤ (13 - w0)) (hk28 : (13 - w0) < j2 + (k28 + 1)) (hq2 : (bm_j2, bc_j2, br_j2, ba_j2) = bdI (fun c r => amO pc_ c w0 r h0) j1 (bm_j1, bc_j1, br_j1, ba_j1) j2) (hp2 : bp_j2 = nI (j1 * (13 - w0) + j2)) (c_7 : ¬ 12 < nI (j2 + w0)) : (j2 + w0) ≤ 12 := by
  exact Nat.le_of_not_lt (fun q => c_7 ((nI_ltI (a := 12) (b := (j2 + w0)) (by omega) (by omega)).mpr q))
theorem lf_X6_seek_f_14 (a : Nat → Nat) (bc : Int32) (br : Int32) (bm : Int32) (ba : Int32) (bp : Int32) (pc_ : Nat → Int32) (w0 : Nat) (h0 : Nat) (hw1 : 1 ≤ w0) (hw2 : w0 ≤ 12) (hh1 : 1 ≤ h0) (hh2 : h0 ≤ 6) (j1 : Nat) (bc_j1 : Int32) (br_j1 : Int32) (bm_j1 : Int32) (ba_j1 : Int32) (bp_j1 : Int32) (k17 : Nat) (hj17 : j1 ≤ (7 - h0)) (hk17 : (7 - h0) < j1 + (k17 + 1)) (hq1 : (bm_j1, bc_j1, br_j1, ba_j1) = bdF (fun c r => amO pc_ c w0 r h0) (13 - w0) bc br j1) (hp1 : bp_j1 = nI (j1 * (13 - w0))) (c_1 : ¬ 6 < nI (j1 + h0)) (n_5 : (j1 + h0) ≤ 6) (j2 : Nat) (bc_j2 : Int32) (br_j2 : Int32) (bm_j2 : Int32) (ba_j2 : Int32) (bp_j2 : Int32) (k28 : Nat) (hj28 : j2 ≤ (13 - w0)) (hk28 : (13 - w0) < j2 + (k28 + 1)) (hq2 : (bm_j2, bc_j2, br_j2, ba_j2) = bdI (fun c r => amO pc_ c w0 r h0) j1 (bm_j1, bc_j1, br_j1, ba_j1) j2) (hp2 : bp_j2 = nI (j1 * (13 - w0) + j2)) (c_7 : ¬ 12 < nI (j2 + w0)) (n_12 : (j2 + w0) ≤ 12) : j2 + w0 ≤ 12 := by
  first | assumption | omega | decide
theorem lf_X6_seek_f_15 (a : Nat → Nat) (bc : Int32) (br : Int32) (bm : Int32) (ba : Int32) (bp : Int32) (pc_ : Nat → Int32) (w0 : Nat) (h0 : Nat) (hw1 : 1 ≤ w0) (hw2 : w0 ≤ 12) (hh1 : 1 ≤ h0) (hh2 : h0 ≤ 6) (j1 : Nat) (bc_j1 : Int32) (br_j1 : Int32) (bm_j1 : Int32) (ba_j1 : Int32) (bp_j1 : Int32) (k17 : Nat) (hj17 : j1 ≤ (7 - h0)) (hk17 : (7 - h0) < j1 + (k17 + 1)) (hq1 : (bm_j1, bc_j1, br_j1, ba_j1) = bdF (fun c r => amO pc_ c w0 r h0) (13 - w0) bc br j1) (hp1 : bp_j1 = nI (j1 * (13 - w0))) (c_1 : ¬ 6 < nI (j1 + h0)) (n_5 : (j1 + h0) ≤ 6) (j2 : Nat) (bc_j2 : Int32) (br_j2 : Int32) (bm_j2 : Int32) (ba_j2 : Int32) (bp_j2 : Int32) (k28 : Nat) (hj28 : j2 ≤ (13 - w0)) (hk28 : (13 - w0) < j2 + (k28 + 1)) (hq2 : (bm_j2, bc_j2, br_j2, ba_j2) = bdI (fun c r => amO pc_ c w0 r h0) j1 (bm_j1, bc_j1, br_j1, ba_j1) j2) (hp2 : bp_j2 = nI (j1 * (13 - w0) + j2)) (c_7 : ¬ 12 < nI (j2 + w0)) (n_12 : (j2 + w0) ≤ 12) : j1 + h0 ≤ 6 := by
  first | assumption | omega | decide
theorem lf_X6_seek_f_19 (a : Nat → Nat) (bc : Int32) (br : Int32) (bm : Int32) (ba : Int32) (bp : Int32) (pc_ : Nat → Int32) (w0 : Nat) (h0 : Nat) (hw1 : 1 ≤ w0) (hw2 : w0 ≤ 12) (hh1 : 1 ≤ h0) (hh2 : h0 ≤ 6) (j1 : Nat) (bc_j1 : Int32) (br_j1 : Int32) (bm_j1 : Int32) (ba_j1 : Int32) (bp_j1 : Int32) (k17 : Nat) (hj17 : j1 ≤ (7 - h0)) (hk17 : (7 - h0) < j1 + (k17 + 1)) (hq1 : (bm_j1, bc_j1, br_j1, ba_j1) = bdF (fun c r => amO pc_ c w0 r h0) (13 - w0) bc br j1) (hp1 : bp_j1 = nI (j1 * (13 - w0))) (c_1 : ¬ 6 < nI (j1 + h0)) (n_5 : (j1 + h0) ≤ 6) (j2 : Nat) (bc_j2 : Int32) (br_j2 : Int32) (bm_j2 : Int32) (ba_j2 : Int32) (bp_j2 : Int32) (k28 : Nat) (hj28 : j2 ≤ (13 - w0)) (hk28 : (13 - w0) < j2 + (k28 + 1)) (hq2 : (bm_j2, bc_j2, br_j2, ba_j2) = bdI (fun c r => amO pc_ c w0 r h0) j1 (bm_j1, bc_j1, br_j1, ba_j1) j2) (hp2 : bp_j2 = nI (j1 * (13 - w0) + j2)) (c_7 : ¬ 12 < nI (j2 + w0)) (n_12 : (j2 + w0) ≤ 12) (bc_18 : Int32) (br_18 : Int32) (bm_18 : Int32) (ba_18 : Int32) (bp_18 : Int32) (hz_18_0 : (bm_18, bc_18, br_18, ba_18) = wg (bm_j2, bc_j2, br_j2, ba_j2) (nI j2) (nI j1) (amO pc_ j2 w0 j1 h0)) (hz_18_1 : bp_18 = bp_j2 + 1) : (bm_18, bc_18, br_18, ba_18) = bdI (fun c r => amO pc_ c w0 r h0) j1 (bm_j1, bc_j1, br_j1, ba_j1) (j2 + 1) := by
  first | exact bp_z | exact bp_s (by assumption) hp2 | exact bp_r hp2 (by omega) (by omega) | exact bp_0 hp1 | exact bdI_s hq2 (by assumption) | exact bdF_s (by omega) (by omega) hq1 hq2 | rfl | exact hq1
theorem lf_X6_seek_f_20 (a : Nat → Nat) (bc : Int32) (br : Int32) (bm : Int32) (ba : Int32) (bp : Int32) (pc_ : Nat → Int32) (w0 : Nat) (h0 : Nat) (hw1 : 1 ≤ w0) (hw2 : w0 ≤ 12) (hh1 : 1 ≤ h0) (hh2 : h0 ≤ 6) (j1 : Nat) (bc_j1 : Int32) (br_j1 : Int32) (bm_j1 : Int32) (ba_j1 : Int32) (bp_j1 : Int32) (k17 : Nat) (hj17 : j1 ≤ (7 - h0)) (hk17 : (7 - h0) < j1 + (k17 + 1)) (hq1 : (bm_j1, bc_j1, br_j1, ba_j1) = bdF (fun c r => amO pc_ c w0 r h0) (13 - w0) bc br j1) (hp1 : bp_j1 = nI (j1 * (13 - w0))) (c_1 : ¬ 6 < nI (j1 + h0)) (n_5 : (j1 + h0) ≤ 6) (j2 : Nat) (bc_j2 : Int32) (br_j2 : Int32) (bm_j2 : Int32) (ba_j2 : Int32) (bp_j2 : Int32) (k28 : Nat) (hj28 : j2 ≤ (13 - w0)) (hk28 : (13 - w0) < j2 + (k28 + 1)) (hq2 : (bm_j2, bc_j2, br_j2, ba_j2) = bdI (fun c r => amO pc_ c w0 r h0) j1 (bm_j1, bc_j1, br_j1, ba_j1) j2) (hp2 : bp_j2 = nI (j1 * (13 - w0) + j2)) (c_7 : ¬ 12 < nI (j2 + w0)) (n_12 : (j2 + w0) ≤ 12) (bc_18 : Int32) (br_18 : Int32) (bm_18 : Int32) (ba_18 : Int32) (bp_18 : Int32) (hz_18_0 : (bm_18, bc_18, br_18, ba_18) = wg (bm_j2, bc_j2, br_j2, ba_j2) (nI j2) (nI j1) (amO pc_ j2 w0 j1 h0)) (hz_18_1 : bp_18 = bp_j2 + 1) : bp_18 = nI (j1 * (13 - w0) + (j2 + 1)) := by
  first | exact bp_z | exact bp_s (by assumption) hp2 | exact bp_r hp2 (by omega) (by omega) | exact bp_0 hp1 | exact bdI_s hq2 (by assumption) | exact bdF_s (by omega) (by omega) hq1 hq2 | rfl | exact hq1
theorem lf_X6_seek_f_21 (a : Nat → Nat) (bc : Int32) (br : Int32) (bm : Int32) (ba : Int32) (bp : Int32) (pc_ : Nat → Int32) (w0 : Nat) (h0 : Nat) (hw1 : 1 ≤ w0) (hw2 : w0 ≤ 12) (hh1 : 1 ≤ h0) (hh2 : h0 ≤ 6) (j1 : Nat) (bc_j1 : Int32) (br_j1 : Int32) (bm_j1 : Int32) (ba_j1 : Int32) (bp_j1 : Int32) (k17 : Nat) (hj17 : j1 ≤ (7 - h0)) (hk17 : (7 - h0) < j1 + (k17 + 1)) (hq1 : (bm_j1, bc_j1, br_j1, ba_j1) = bdF (fun c r => amO pc_ c w0 r h0) (13 - w0) bc br j1) (hp1 : bp_j1 = nI (j1 * (13 - w0))) (c_1 : ¬ 6 < nI (j1 + h0)) (n_5 : (j1 + h0) ≤ 6) : (bm_j1, bc_j1, br_j1, ba_j1) = bdI (fun c r => amO pc_ c w0 r h0) j1 (bm_j1, bc_j1, br_j1, ba_j1) 0 := by
  first | exact bp_z | exact bp_s (by assumption) hp2 | exact bp_r hp2 (by omega) (by omega) | exact bp_0 hp1 | exact bdI_s hq2 (by assumption) | exact bdF_s (by omega) (by omega) hq1 hq2 | rfl | exact hq1
theorem lf_X6_seek_f_22 (a : Nat → Nat) (bc : Int32) (br : Int32) (bm : Int32) (ba : Int32) (bp : Int32) (pc_ : Nat → Int32) (w0 : Nat) (h0 : Nat) (hw1 : 1 ≤ w0) (hw2 : w0 ≤ 12) (hh1 : 1 ≤ h0) (hh2 : h0 ≤ 6) (j1 : Nat) (bc_j1 : Int32) (br_j1 : Int32) (bm_j1 : Int32) (ba_j1 : Int32) (bp_j1 : Int32) (k17 : Nat) (hj17 : j1 ≤ (7 - h0)) (hk17 : (7 - h0) < j1 + (k17 + 1)) (hq1 : (bm_j1, bc_j1, br_j1, ba_j1) = bdF (fun c r => amO pc_ c w0 r h0) (13 - w0) bc br j1) (hp1 : bp_j1 = nI (j1 * (13 - w0))) (c_1 : ¬ 6 < nI (j1 + h0)) (n_5 : (j1 + h0) ≤ 6) : bp_j1 = nI (j1 * (13 - w0) + 0) := by
  first | exact bp_z | exact bp_s (by assumption) hp2 | exact bp_r hp2 (by omega) (by omega) | exact bp_0 hp1 | exact bdI_s hq2 (by assumption) | exact bdF_s (by omega) (by omega) hq1 hq2 | rfl | exact hq1
theorem lf_X6_seek_f_23 (a : Nat → Nat) (bc : Int32) (br : Int32) (bm : Int32) (ba : Int32) (bp : Int32) (pc_ : Nat → Int32) (w0 : Nat) (h0 : Nat) (hw1 : 1 ≤ w0) (hw2 : w0 ≤ 12) (hh1 : 1 ≤ h0) (hh2 : h0 ≤ 6) : ((((-1)) : Int32), bc, br, (0 : Int32)) = bdF (fun c r => amO pc_ c w0 r h0) (13 - w0) bc br 0 := by
  first | exact bp_z | exact bp_s (by assumption) hp2 | exact bp_r hp2 (by omega) (by omega) | exact bp_0 hp1 | exact bdI_s hq2 (by assumption) | exact bdF_s (by omega) (by omega) hq1 hq2 | rfl | exact hq1
theorem lf_X6_seek_f_24 (a : Nat → Nat) (bc : Int32) (br : Int32) (bm : Int32) (ba : Int32) (bp : Int32) (pc_ : Nat → Int32) (w0 : Nat) (h0 : Nat) (hw1 : 1 ≤ w0) (hw2 : w0 ≤ 12) (hh1 : 1 ≤ h0) (hh2 : h0 ≤ 6) : (0 : Int32) = nI (0 * (13 - w0)) := by
  first | exact bp_z | exact bp_s (by assumption) hp2 | exact bp_r hp2 (by omega) (by omega) | exact bp_0 hp1 | exact bdI_s hq2 (by assumption) | exact bdF_s (by omega) (by omega) hq1 hq2 | rfl | exact hq1
set_option maxHeartbeats 4000000 in
set_option maxRecDepth 100000 in
theorem c_X6_seek_f (l : Launch) (D : va_G) (cI cB cZ cJ : ClassId) (tx : List (ClassId × FieldType)) (a : Nat → Nat) (bc : Int32) (br : Int32) (bm : Int32) (ba : Int32) (bp : Int32) (pc_ : Nat → Int32) (w0 : Nat) (h0 : Nat) (hw1 : 1 ≤ w0) (hw2 : w0 ≤ 12) (hh1 : 1 ≤ h0) (hh2 : h0 ≤ 6) : WrV l D cI cB cZ cJ tx yX6_seek cX6_seek 5 none 1 0 0 [.ref (a 11), .int (nI w0), .int (nI h0)] [(a 11, .inr (6, [.ref (a 47), .int bc, .int br, .int bm, .int ba, .int bp])), (a 47, .inl (cI, 72, .inl pc_))] (fun (v : (Int32) × (Int32) × (Int32) × (Int32) × (Int32)) => ((v.2.2.1, v.1, v.2.1, v.2.2.2.1) = bdF (fun c r => amO pc_ c w0 r h0) (13 - w0) bc br (7 - h0)) ∧ (v.2.2.2.2 = nI ((7 - h0) * (13 - w0)))) (fun v => [(a 11, .inr (6, [.ref (a 47), .int v.1, .int v.2.1, .int v.2.2.1, .int v.2.2.2.1, .int v.2.2.2.2])), (a 47, .inl (cI, 72, .inl pc_))]) := by
  refine wrv_of2 (by decide) (Nat.le_of_ble_eq_true rfl) ?_
  intro p e s m below meth c A ls H locs hC hK hP hD hA hS hl
  obtain ⟨hx, hb, hr, hml, hown, hts, hlocks, hin⟩ := hC
  have hown : s.vm.findClass RX6 = some m.cls := hown
  have hl : lv_has ls 5 [(0, .ref (a 11)), (1, .int (nI w0)), (2, .int (nI h0))] := hl
  refine W_gQ (fun Q hQ => ?_)
  refine lv_aload_n hx hb dX6_seek_0 rfl (lv_at hl 0 rfl) ?_
  refine lv_iconst (v := (-1)) hx hb dX6_seek_1 (by decide) ?_
  refine va_put (D := D) (ci := 6) (v := .int (-1)) (ty := .int) (C := RX6) (T := TX6) (N := 6) hx hb hts inT_X6 tyX6 tyX6_ok nmX6 hown hK.1 hP hD hS 0 rfl rfl 3 (by decide) (hts _ k_446) (fun _ h9 => h9) rfl (by decide +kernel) rfl rfl (Nat.le_of_ble_eq_true rfl) dX6_seek_2 (fun H locs hP hD hS => ?_)
  have hP : va_P D vwCl [(a 11, .inr (6, [.ref (a 47), .int bc, .int br, .int (-1), .int ba, .int bp])), (a 47, .inl (cI, 72, .inl pc_))] H := hP
  have hD : va_D A [(a 11, .inr (6, [.ref (a 47), .int bc, .int br, .int (-1), .int ba, .int bp])), (a 47, .inl (cI, 72, .inl pc_))] := hD
  refine lv_aload_n hx hb dX6_seek_5 rfl (lv_at hl 0 rfl) ?_
  refine lv_iconst (v := 0) hx hb dX6_seek_6 (by decide) ?_
  refine va_put (D := D) (ci := 6) (v := .int 0) (ty := .int) (C := RX6) (T := TX6) (N := 6) hx hb hts inT_X6 tyX6 tyX6_ok nmX6 hown hK.1 hP hD hS 0 rfl rfl 4 (by decide) (hts _ k_448) (fun _ h9 => h9) rfl (by decide +kernel) rfl rfl (Nat.le_of_ble_eq_true rfl) dX6_seek_7 (fun H locs hP hD hS => ?_)
  have hP : va_P D vwCl [(a 11, .inr (6, [.ref (a 47), .int bc, .int br, .int (-1), .int 0, .int bp])), (a 47, .inl (cI, 72, .inl pc_))] H := hP
  have hD : va_D A [(a 11, .inr (6, [.ref (a 47), .int bc, .int br, .int (-1), .int 0, .int bp])), (a 47, .inl (cI, 72, .inl pc_))] := hD
  refine lv_aload_n hx hb dX6_seek_10 rfl (lv_at hl 0 rfl) ?_
  refine lv_iconst (v := 0) hx hb dX6_seek_11 (by decide) ?_
  refine va_put (D := D) (ci := 6) (v := .int 0) (ty := .int) (C := RX6) (T := TX6) (N := 6) hx hb hts inT_X6 tyX6 tyX6_ok nmX6 hown hK.1 hP hD hS 0 rfl rfl 5 (by decide) (hts _ k_450) (fun _ h9 => h9) rfl (by decide +kernel) rfl rfl (Nat.le_of_ble_eq_true rfl) dX6_seek_12 (fun H locs hP hD hS => ?_)
  have hP : va_P D vwCl [(a 11, .inr (6, [.ref (a 47), .int bc, .int br, .int (-1), .int 0, .int 0])), (a 47, .inl (cI, 72, .inl pc_))] H := hP
  have hD : va_D A [(a 11, .inr (6, [.ref (a 47), .int bc, .int br, .int (-1), .int 0, .int 0])), (a 47, .inl (cI, 72, .inl pc_))] := hD
  refine lv_iconst (v := 0) hx hb dX6_seek_15 (by decide) ?_
  refine lv_istore_n (lv' := [(3, .int 0), (0, .ref (a 11)), (1, .int (nI w0)), (2, .int (nI h0))]) hx hb dX6_seek_16 rfl hl (by decide) rfl (fun ls hl => ?_)
  have lp17 : ∀ (k17 : Nat) (j1 : Nat) (bc_j1 : Int32) (br_j1 : Int32) (bm_j1 : Int32) (ba_j1 : Int32) (bp_j1 : Int32) (H : Heap) (locs : List Loc) (ls : Array Slot), j1 ≤ (7 - h0) → (7 - h0) < j1 + k17 → ((bm_j1, bc_j1, br_j1, ba_j1) = bdF (fun c r => amO pc_ c w0 r h0) (13 - w0) bc br j1) → (bp_j1 = nI (j1 * (13 - w0))) → va_P D vwCl [(a 11, .inr (6, [.ref (a 47), .int bc_j1, .int br_j1, .int bm_j1, .int ba_j1, .int bp_j1])), (a 47, .inl (cI, 72, .inl pc_))] H → va_D A [(a 11, .inr (6, [.ref (a 47), .int bc_j1, .int br_j1, .int bm_j1, .int ba_j1, .int bp_j1])), (a 47, .inl (cI, 72, .inl pc_))] → va_S A s.heap H locs → lv_has ls 5 [(3, .int (nI j1)), (0, .ref (a 11)), (1, .int (nI w0)), (2, .int (nI h0))] → W p l e (rmX 1 0 0) s m ([.ref (a 11), .int (nI w0), .int (nI h0)] : List Value).toArray below meth c H locs 0 0 Q (F0 m 17 ls []) := by
    intro k17
    induction k17 with
    | zero =>
      intro j1 bc_j1 br_j1 bm_j1 ba_j1 bp_j1 H locs ls hj17 hk17 hq1 hp1 hP hD hS hl
      exact absurd hk17 (by omega)
    | succ k17 ih17 =>
      intro j1 bc_j1 br_j1 bm_j1 ba_j1 bp_j1 H locs ls hj17 hk17 hq1 hp1 hP hD hS hl
      refine lv_iload_n hx hb dX6_seek_17 rfl (lv_at hl 0 rfl) ?_
      refine lv_iload_n hx hb dX6_seek_18 rfl (lv_at hl 3 rfl) ?_
      refine lv_iadd hx hb dX6_seek_19 ?_
      refine lv_topv (y := nI (j1 + h0)) (nI_add j1 h0) ?_
      refine lv_bipush (v := 6) hx hb dX6_seek_20 (by decide) ?_
      refine lv_icmp_gt (tgt := 65) hx hb dX6_seek_22 (by decide) (fun c_1 => ?_) (fun c_1 => ?_)
      · have n_2 : 6 < (j1 + h0) := (lf_X6_seek_f_3 a bc br bm ba bp pc_ w0 h0 hw1 hw2 hh1 hh2 j1 bc_j1 br_j1 bm_j1 ba_j1 bp_j1 k17 hj17 hk17 hq1 hp1 c_1)
        rw [hQ]
        exact W.vret hx hb hr (fun tt9 ht hW => ⟨⟨((bc_j1 : Int32), (br_j1 : Int32), (bm_j1 : Int32), (ba_j1 : Int32), (bp_j1 : Int32)), rfl, (lf_X6_seek_f_4 a bc br bm ba bp pc_ w0 h0 hw1 hw2 hh1 hh2 j1 bc_j1 br_j1 bm_j1 ba_j1 bp_j1 k17 hj17 hk17 hq1 hp1 c_1 n_2), ⟨by rw [ht]; exact hP, hD⟩⟩, hS.F ht⟩) hS.2.2 dX6_seek_65 hlocks
      · have n_5 : (j1 + h0) ≤ 6 := (lf_X6_seek_f_6 a bc br bm ba bp pc_ w0 h0 hw1 hw2 hh1 hh2 j1 bc_j1 br_j1 bm_j1 ba_j1 bp_j1 k17 hj17 hk17 hq1 hp1 c_1)
        refine lv_iconst (v := 0) hx hb dX6_seek_25 (by decide) ?_
        refine lv_istore (lv' := [(4, .int 0), (3, .int (nI j1)), (0, .ref (a 11)), (1, .int (nI w0)), (2, .int (nI h0))]) hx hb dX6_seek_26 hl (by decide) rfl (fun ls hl => ?_)
        have lp28 : ∀ (k28 : Nat) (j2 : Nat) (bc_j2 : Int32) (br_j2 : Int32) (bm_j2 : Int32) (ba_j2 : Int32) (bp_j2 : Int32) (H : Heap) (locs : List Loc) (ls : Array Slot), j2 ≤ (13 - w0) → (13 - w0) < j2 + k28 → ((bm_j2, bc_j2, br_j2, ba_j2) = bdI (fun c r => amO pc_ c w0 r h0) j1 (bm_j1, bc_j1, br_j1, ba_j1) j2) → (bp_j2 = nI (j1 * (13 - w0) + j2)) → va_P D vwCl [(a 11, .inr (6, [.ref (a 47), .int bc_j2, .int br_j2, .int bm_j2, .int ba_j2, .int bp_j2])), (a 47, .inl (cI, 72, .inl pc_))] H → va_D A [(a 11, .inr (6, [.ref (a 47), .int bc_j2, .int br_j2, .int bm_j2, .int ba_j2, .int bp_j2])), (a 47, .inl (cI, 72, .inl pc_))] → va_S A s.heap H locs → lv_has ls 5 [(4, .int (nI j2)), (3, .int (nI j1)), (0, .ref (a 11)), (1, .int (nI w0)), (2, .int (nI h0))] → W p l e (rmX 1 0 0) s m ([.ref (a 11), .int (nI w0), .int (nI h0)] : List Value).toArray below meth c H locs 0 0 Q (F0 m 28 ls []) := by
          intro k28
          induction k28 with
          | zero =>
            intro j2 bc_j2 br_j2 bm_j2 ba_j2 bp_j2 H locs ls hj28 hk28 hq2 hp2 hP hD hS hl
            exact absurd hk28 (by omega)
          | succ k28 ih28 =>
            intro j2 bc_j2 br_j2 bm_j2 ba_j2 bp_j2 H locs ls hj28 hk28 hq2 hp2 hP hD hS hl
            refine lv_iload hx hb dX6_seek_28 (lv_at hl 0 rfl) ?_
            refine lv_iload_n hx hb dX6_seek_30 rfl (lv_at hl 3 rfl) ?_
            refine lv_iadd hx hb dX6_seek_31 ?_
            refine lv_topv (y := nI (j2 + w0)) (nI_add j2 w0) ?_
            refine lv_bipush (v := 12) hx hb dX6_seek_32 (by decide) ?_
            refine lv_icmp_gt (tgt := 59) hx hb dX6_seek_34 (by decide) (fun c_7 => ?_) (fun c_7 => ?_)
            · have n_8 : 12 < (j2 + w0) := (lf_X6_seek_f_9 a bc br bm ba bp pc_ w0 h0 hw1 hw2 hh1 hh2 j1 bc_j1 br_j1 bm_j1 ba_j1 bp_j1 k17 hj17 hk17 hq1 hp1 c_1 n_5 j2 bc_j2 br_j2 bm_j2 ba_j2 bp_j2 k28 hj28 hk28 hq2 hp2 c_7)
              refine lv_iinc (v := nI (j1 + 1)) (lv' := [(3, .int (nI (j1 + 1))), (4, .int (nI j2)), (0, .ref (a 11)), (1, .int (nI w0)), (2, .int (nI h0))]) hx hb dX6_seek_59 hl (k := 1) rfl (nI_1 j1) (by decide) rfl (fun ls hl => ?_)
              refine lv_goto (tgt := 17) hx hb dX6_seek_62 (by decide) ?_
              exact ih17 (j1 + 1) bc_j2 br_j2 bm_j2 ba_j2 bp_j2 H locs ls (by omega) (by omega) (lf_X6_seek_f_10 a bc br bm ba bp pc_ w0 h0 hw1 hw2 hh1 hh2 j1 bc_j1 br_j1 bm_j1 ba_j1 bp_j1 k17 hj17 hk17 hq1 hp1 c_1 n_5 j2 bc_j2 br_j2 bm_j2 ba_j2 bp_j2 k28 hj28 hk28 hq2 hp2 c_7 n_8) (lf_X6_seek_f_11 a bc br bm ba bp pc_ w0 h0 hw1 hw2 hh1 hh2 j1 bc_j1 br_j1 bm_j1 ba_j1 bp_j1 k17 hj17 hk17 hq1 hp1 c_1 n_5 j2 bc_j2 br_j2 bm_j2 ba_j2 bp_j2 k28 hj28 hk28 hq2 hp2 c_7 n_8) (hP.sub [0, 1] rfl) (hD.sub [0, 1] (by decide) rfl) hS (lv_sub hl [0, 2, 3, 4] rfl)
            · have n_12 : (j2 + w0) ≤ 12 := (lf_X6_seek_f_13 a bc br bm ba bp pc_ w0 h0 hw1 hw2 hh1 hh2 j1 bc_j1 br_j1 bm_j1 ba_j1 bp_j1 k17 hj17 hk17 hq1 hp1 c_1 n_5 j2 bc_j2 br_j2 bm_j2 ba_j2 bp_j2 k28 hj28 hk28 hq2 hp2 c_7)
              refine lv_aload_n hx hb dX6_seek_37 rfl (lv_at hl 2 rfl) ?_
              refine lv_iload hx hb dX6_seek_38 (lv_at hl 0 rfl) ?_
              refine lv_iload_n hx hb dX6_seek_40 rfl (lv_at hl 1 rfl) ?_
              refine lv_aload_n hx hb dX6_seek_41 rfl (lv_at hl 2 rfl) ?_
              refine lv_iload hx hb dX6_seek_42 (lv_at hl 0 rfl) ?_
              refine lv_iload_n hx hb dX6_seek_44 rfl (lv_at hl 1 rfl) ?_
              refine lv_iload_n hx hb dX6_seek_45 rfl (lv_at hl 3 rfl) ?_
              refine lv_iload_n hx hb dX6_seek_46 rfl (lv_at hl 4 rfl) ?_
              refine eRi (va_runV (As := [.int (nI j2), .int (nI j1), .int (nI w0), .int (nI h0)]) (rest := [.int (nI j1), .int (nI j2), .ref (a 11)]) ⟨hx, hb, hml, hown, hts⟩ (c_X6_amount_f l D cI cB cZ cJ tx a bc_j2 br_j2 bm_j2 ba_j2 bp_j2 pc_ j2 j1 w0 h0 (lf_X6_seek_f_14 a bc br bm ba bp pc_ w0 h0 hw1 hw2 hh1 hh2 j1 bc_j1 br_j1 bm_j1 ba_j1 bp_j1 k17 hj17 hk17 hq1 hp1 c_1 n_5 j2 bc_j2 br_j2 bm_j2 ba_j2 bp_j2 k28 hj28 hk28 hq2 hp2 c_7 n_12) (lf_X6_seek_f_15 a bc br bm ba bp pc_ w0 h0 hw1 hw2 hh1 hh2 j1 bc_j1 br_j1 bm_j1 ba_j1 bp_j1 k17 hj17 hk17 hq1 hp1 c_1 n_5 j2 bc_j2 br_j2 bm_j2 ba_j2 bp_j2 k28 hj28 hk28 hq2 hp2 c_7 n_12) H.size) (zV hts k_1181 v_X6_amount ⟨Nat.le_of_ble_eq_true rfl, Nat.le_of_ble_eq_true rfl⟩) (pV (pxS hK hP hD [0, 1] (by decide) rfl) hK hP 0 rfl rfl) rfl rfl hl.1 rfl (lv_room (Nat.le_of_ble_eq_true rfl)) dX6_seek_47 ⟨Nat.le_of_ble_eq_true rfl, Nat.le_of_ble_eq_true rfl⟩) hP hS hA (fun r_16 H locs wr_16 hP hS => ?_)
              subst wr_16
              refine eWvP (va_runV (As := [.int (nI j2), .int (nI j1), .int (amO pc_ j2 w0 j1 h0)]) (rest := []) ⟨hx, hb, hml, hown, hts⟩ (c_X6_weigh_f l D cI cB cZ cJ tx a bc_j2 br_j2 bm_j2 ba_j2 bp_j2 (nI j2) (nI j1) (amO pc_ j2 w0 j1 h0) H.size) (zV hts k_1185 v_X6_weigh ⟨Nat.le_of_ble_eq_true rfl, Nat.le_of_ble_eq_true rfl⟩) (pV (pxS hK hP hD [0] (by decide) rfl) hK hP 0 rfl rfl) rfl rfl hl.1 rfl (lv_room (Nat.le_of_ble_eq_true rfl)) dX6_seek_50 ⟨Nat.le_of_ble_eq_true rfl, Nat.le_of_ble_eq_true rfl⟩) hP hD hS hA [0] [some 0, none] rfl (by decide +kernel) (fun _ => rfl) (fun u_18 H locs wr_17 hP hD hS => ?_)
              obtain ⟨bc_18, br_18, bm_18, ba_18, bp_18⟩ := u_18
              have hz_18_0 : (bm_18, bc_18, br_18, ba_18) = wg (bm_j2, bc_j2, br_j2, ba_j2) (nI j2) (nI j1) (amO pc_ j2 w0 j1 h0) := wr_17.1
              have hz_18_1 : bp_18 = bp_j2 + 1 := wr_17.2
              have hP : va_P D vwCl [(a 11, .inr (6, [.ref (a 47), .int bc_18, .int br_18, .int bm_18, .int ba_18, .int bp_18])), (a 47, .inl (cI, 72, .inl pc_))] H := hP
              have hD : va_D A [(a 11, .inr (6, [.ref (a 47), .int bc_18, .int br_18, .int bm_18, .int ba_18, .int bp_18])), (a 47, .inl (cI, 72, .inl pc_))] := hD
              refine lv_iinc (v := nI (j2 + 1)) (lv' := [(4, .int (nI (j2 + 1))), (3, .int (nI j1)), (0, .ref (a 11)), (1, .int (nI w0)), (2, .int (nI h0))]) hx hb dX6_seek_53 hl (k := 0) rfl (nI_1 j2) (by decide) rfl (fun ls hl => ?_)
              refine lv_goto (tgt := 28) hx hb dX6_seek_56 (by decide) ?_
              exact ih28 (j2 + 1) bc_18 br_18 bm_18 ba_18 bp_18 H locs ls (by omega) (by omega) (lf_X6_seek_f_19 a bc br bm ba bp pc_ w0 h0 hw1 hw2 hh1 hh2 j1 bc_j1 br_j1 bm_j1 ba_j1 bp_j1 k17 hj17 hk17 hq1 hp1 c_1 n_5 j2 bc_j2 br_j2 bm_j2 ba_j2 bp_j2 k28 hj28 hk28 hq2 hp2 c_7 n_12 bc_18 br_18 bm_18 ba_18 bp_18 hz_18_0 hz_18_1) (lf_X6_seek_f_20 a bc br bm ba bp pc_ w0 h0 hw1 hw2 hh1 hh2 j1 bc_j1 br_j1 bm_j1 ba_j1 bp_j1 k17 hj17 hk17 hq1 hp1 c_1 n_5 j2 bc_j2 br_j2 bm_j2 ba_j2 bp_j2 k28 hj28 hk28 hq2 hp2 c_7 n_12 bc_18 br_18 bm_18 ba_18 bp_18 hz_18_0 hz_18_1) (hP.sub [0, 1] rfl) (hD.sub [0, 1] (by decide) rfl) hS (lv_sub hl [0, 1, 2, 3, 4] rfl)
        exact lp28 ((13 - w0) + 1) 0 bc_j1 br_j1 bm_j1 ba_j1 bp_j1 H locs ls (by omega) (by omega) (lf_X6_seek_f_21 a bc br bm ba bp pc_ w0 h0 hw1 hw2 hh1 hh2 j1 bc_j1 br_j1 bm_j1 ba_j1 bp_j1 k17 hj17 hk17 hq1 hp1 c_1 n_5) (lf_X6_seek_f_22 a bc br bm ba bp pc_ w0 h0 hw1 hw2 hh1 hh2 j1 bc_j1 br_j1 bm_j1 ba_j1 bp_j1 k17 hj17 hk17 hq1 hp1 c_1 n_5) (hP.sub [0, 1] rfl) (hD.sub [0, 1] (by decide) rfl) hS (lv_sub hl [0, 1, 2, 3, 4] rfl)
  exact lp17 ((7 - h0) + 1) 0 bc br (-1) 0 0 H locs ls (by omega) (by omega) (lf_X6_seek_f_23 a bc br bm ba bp pc_ w0 h0 hw1 hw2 hh1 hh2) (lf_X6_seek_f_24 a bc br bm ba bp pc_ w0 h0 hw1 hw2 hh1 hh2) (hP.sub [0, 1] rfl) (hD.sub [0, 1] (by decide) rfl) hS (lv_sub hl [0, 1, 2, 3] rfl)

theorem lf_X11_body_f_3 (a : Nat → Nat) (ap : Int32) (bc : Int32) (br : Int32) (bm : Int32) (ba : Int32) (bp : Int32) (pc_ : Nat → Int32) (n1 : Int32) (n2 : Int32) (n3 : Int32) (hce : cel pc_) (c_2 : ¬ ((1 : Int32) ≤ n1 ∧ n1 ≤ 12)) : ((-1) : Int32) = boF pc_ n1 n2 n3 ∧ (True) := by
  refine ⟨?_, trivial⟩
  first | exact boF_n (fun w => absurd w.1 (by assumption)) | exact boF_n (fun w => absurd w.2.1 (by assumption)) | exact boF_n (fun w => absurd w.2.2 (by assumption)) | (refine boF_y (k := tn3) (by assumption) (by assumption) (by assumption) (by assumption) (by assumption) (by assumption) (by assumption) ?_; first | exact boA_0 (boT_of hce (by assumption) (by assumption) (by assumption)) tn3e (by assumption) | exact boA_1 (boT_of hce (by assumption) (by assumption) (by assumption)) tn3e (by assumption) | exact boA_2 (boT_of hce (by assumption) (by assumption) (by assumption)) tn3e (by assumption) | exact boA_3 (boT_of hce (by assumption) (by assumption) (by assumption)) tn3e (by assumption) | exact boA_5 (by assumption) tn3e (by assumption) (by assumption) (by assumption) (by assumption) (by assumption))
theorem lf_X11_body_f_6 (a : Nat → Nat) (ap : Int32) (bc : Int32) (br : Int32) (bm : Int32) (ba : Int32) (bp : Int32) (pc_ : Nat → Int32) (n1 : Int32) (n2 : Int32) (n3 : Int32) (hce : cel pc_) (c_2 : (1 : Int32) ≤ n1 ∧ n1 ≤ 12) (tn1 : Nat) (tn1a : 1 ≤ tn1) (tn1b : tn1 ≤ 12) (tn1e : n1 = nI tn1) (c_5 : ¬ ((1 : Int32) ≤ n2 ∧ n2 ≤ 6)) : ((-1) : Int32) = boF pc_ n1 n2 n3 ∧ (True) := by
  refine ⟨?_, trivial⟩
  first | exact boF_n (fun w => absurd w.1 (by assumption)) | exact boF_n (fun w => absurd w.2.1 (by assumption)) | exact boF_n (fun w => absurd w.2.2 (by assumption)) | (refine boF_y (k := tn3) (by assumption) (by assumption) (by assumption) (by assumption) (by assumption) (by assumption) (by assumption) ?_; first | exact boA_0 (boT_of hce (by assumption) (by assumption) (by assumption)) tn3e (by assumption) | exact boA_1 (boT_of hce (by assumption) (by assumption) (by assumption)) tn3e (by assumption) | exact boA_2 (boT_of hce (by assumption) (by assumption) (by assumption)) tn3e (by assumption) | exact boA_3 (boT_of hce (by assumption) (by assumption) (by assumption)) tn3e (by assumption) | exact boA_5 (by assumption) tn3e (by assumption) (by assumption) (by assumption) (by assumption) (by assumption))
theorem lf_X11_body_f_9 (a : Nat → Nat) (ap : Int32) (bc : Int32) (br : Int32) (bm : Int32) (ba : Int32) (bp : Int32) (pc_ : Nat → Int32) (n1 : Int32) (n2 : Int32) (n3 : Int32) (hce : cel pc_) (c_2 : (1 : Int32) ≤ n1 ∧ n1 ≤ 12) (tn1 : Nat) (tn1a : 1 ≤ tn1) (tn1b : tn1 ≤ 12) (tn1e : n1 = nI tn1) (c_5 : (1 : Int32) ≤ n2 ∧ n2 ≤ 6) (tn2 : Nat) (tn2a : 1 ≤ tn2) (tn2b : tn2 ≤ 6) (tn2e : n2 = nI tn2) (c_8 : (0 : Int32) ≤ n3 ∧ n3 ≤ 4) (tn3 : Nat) (tn3a : 0 ≤ tn3) (tn3b : tn3 ≤ 4) (tn3e : n3 = nI tn3) : 1 ≤ tn1 := by
  first | assumption | omega | decide
theorem lf_X11_body_f_10 (a : Nat → Nat) (ap : Int32) (bc : Int32) (br : Int32) (bm : Int32) (ba : Int32) (bp : Int32) (pc_ : Nat → Int32) (n1 : Int32) (n2 : Int32) (n3 : Int32) (hce : cel pc_) (c_2 : (1 : Int32) ≤ n1 ∧ n1 ≤ 12) (tn1 : Nat) (tn1a : 1 ≤ tn1) (tn1b : tn1 ≤ 12) (tn1e : n1 = nI tn1) (c_5 : (1 : Int32) ≤ n2 ∧ n2 ≤ 6) (tn2 : Nat) (tn2a : 1 ≤ tn2) (tn2b : tn2 ≤ 6) (tn2e : n2 = nI tn2) (c_8 : (0 : Int32) ≤ n3 ∧ n3 ≤ 4) (tn3 : Nat) (tn3a : 0 ≤ tn3) (tn3b : tn3 ≤ 4) (tn3e : n3 = nI tn3) : tn1 ≤ 12 := by
  first | assumption | omega | decide
theorem lf_X11_body_f_11 (a : Nat → Nat) (ap : Int32) (bc : Int32) (br : Int32) (bm : Int32) (ba : Int32) (bp : Int32) (pc_ : Nat → Int32) (n1 : Int32) (n2 : Int32) (n3 : Int32) (hce : cel pc_) (c_2 : (1 : Int32) ≤ n1 ∧ n1 ≤ 12) (tn1 : Nat) (tn1a : 1 ≤ tn1) (tn1b : tn1 ≤ 12) (tn1e : n1 = nI tn1) (c_5 : (1 : Int32) ≤ n2 ∧ n2 ≤ 6) (tn2 : Nat) (tn2a : 1 ≤ tn2) (tn2b : tn2 ≤ 6) (tn2e : n2 = nI tn2) (c_8 : (0 : Int32) ≤ n3 ∧ n3 ≤ 4) (tn3 : Nat) (tn3a : 0 ≤ tn3) (tn3b : tn3 ≤ 4) (tn3e : n3 = nI tn3) : 1 ≤ tn2 := by
  first | assumption | omega | decide
theorem lf_X11_body_f_12 (a : Nat → Nat) (ap : Int32) (bc : Int32) (br : Int32) (bm : Int32) (ba : Int32) (bp : Int32) (pc_ : Nat → Int32) (n1 : Int32) (n2 : Int32) (n3 : Int32) (hce : cel pc_) (c_2 : (1 : Int32) ≤ n1 ∧ n1 ≤ 12) (tn1 : Nat) (tn1a : 1 ≤ tn1) (tn1b : tn1 ≤ 12) (tn1e : n1 = nI tn1) (c_5 : (1 : Int32) ≤ n2 ∧ n2 ≤ 6) (tn2 : Nat) (tn2a : 1 ≤ tn2) (tn2b : tn2 ≤ 6) (tn2e : n2 = nI tn2) (c_8 : (0 : Int32) ≤ n3 ∧ n3 ≤ 4) (tn3 : Nat) (tn3a : 0 ≤ tn3) (tn3b : tn3 ≤ 4) (tn3e : n3 = nI tn3) : tn2 ≤ 6 := by
  first | assumption | omega | decide
theorem lf_X11_body_f_16 (a : Nat → Nat) (ap : Int32) (bc : Int32) (br : Int32) (bm : Int32) (ba : Int32) (bp : Int32) (pc_ : Nat → Int32) (n1 : Int32) (n2 : Int32) (n3 : Int32) (hce : cel pc_) (c_2 : (1 : Int32) ≤ n1 ∧ n1 ≤ 12) (tn1 : Nat) (tn1a : 1 ≤ tn1) (tn1b : tn1 ≤ 12) (tn1e : n1 = nI tn1) (c_5 : (1 : Int32) ≤ n2 ∧ n2 ≤ 6) (tn2 : Nat) (tn2a : 1 ≤ tn2) (tn2b : tn2 ≤ 6) (tn2e : n2 = nI tn2) (c_8 : (0 : Int32) ≤ n3 ∧ n3 ≤ 4) (tn3 : Nat) (tn3a : 0 ≤ tn3) (tn3b : tn3 ≤ 4) (tn3e : n3 = nI tn3) (bc_14 : Int32) (br_14 : Int32) (bm_14 : Int32) (ba_14 : Int32) (bp_14 : Int32) (hz_14_0 : (bm_14, bc_14, br_14, ba_14) = bdF (fun c r => amO pc_ c tn1 r tn2) (13 - tn1) bc br (7 - tn2)) (hz_14_1 : bp_14 = nI ((7 - tn2) * (13 - tn1))) (c_15 : tn3 = 0) : (bc_14 : Int32) = boF pc_ n1 n2 n3 ∧ (True) := by
  refine ⟨?_, trivial⟩
  first | exact boF_n (fun w => absurd w.1 (by assumption)) | exact boF_n (fun w => absurd w.2.1 (by assumption)) | exact boF_n (fun w => absurd w.2.2 (by assumption)) | (refine boF_y (k := tn3) (by assumption) (by assumption) (by assumption) (by assumption) (by assumption) (by assumption) (by assumption) ?_; first | exact boA_0 (boT_of hce (by assumption) (by assumption) (by assumption)) tn3e (by assumption) | exact boA_1 (boT_of hce (by assumption) (by assumption) (by assumption)) tn3e (by assumption) | exact boA_2 (boT_of hce (by assumption) (by assumption) (by assumption)) tn3e (by assumption) | exact boA_3 (boT_of hce (by assumption) (by assumption) (by assumption)) tn3e (by assumption) | exact boA_5 (by assumption) tn3e (by assumption) (by assumption) (by assumption) (by assumption) (by assumption))
theorem lf_X11_body_f_18 (a : Nat → Nat) (ap : Int32) (bc : Int32) (br : Int32) (bm : Int32) (ba : Int32) (bp : Int32) (pc_ : Nat → Int32) (n1 : Int32) (n2 : Int32) (n3 : Int32) (hce : cel pc_) (c_2 : (1 : Int32) ≤ n1 ∧ n1 ≤ 12) (tn1 : Nat) (tn1a : 1 ≤ tn1) (tn1b : tn1 ≤ 12) (tn1e : n1 = nI tn1) (c_5 : (1 : Int32) ≤ n2 ∧ n2 ≤ 6) (tn2 : Nat) (tn2a : 1 ≤ tn2) (tn2b : tn2 ≤ 6) (tn2e : n2 = nI tn2) (c_8 : (0 : Int32) ≤ n3 ∧ n3 ≤ 4) (tn3 : Nat) (tn3a : 0 ≤ tn3) (tn3b : tn3 ≤ 4) (tn3e : n3 = nI tn3) (bc_14 : Int32) (br_14 : Int32) (bm_14 : Int32) (ba_14 : Int32) (bp_14 : Int32) (hz_14_0 : (bm_14, bc_14, br_14, ba_14) = bdF (fun c r => amO pc_ c tn1 r tn2) (13 - tn1) bc br (7 - tn2)) (hz_14_1 : bp_14 = nI ((7 - tn2) * (13 - tn1))) (c_15 : ¬ tn3 = 0) (c_17 : tn3 = 1) : (br_14 : Int32) = boF pc_ n1 n2 n3 ∧ (True) := by
  refine ⟨?_, trivial⟩
  first | exact boF_n (fun w => absurd w.1 (by assumption)) | exact boF_n (fun w => absurd w.2.1 (by assumption)) | exact boF_n (fun w => absurd w.2.2 (by assumption)) | (refine boF_y (k := tn3) (by assumption) (by assumption) (by assumption) (by assumption) (by assumption) (by assumption) (by assumption) ?_; first | exact boA_0 (boT_of hce (by assumption) (by assumption) (by assumption)) tn3e (by assumption) | exact boA_1 (boT_of hce (by assumption) (by assumption) (by assumption)) tn3e (by assumption) | exact boA_2 (boT_of hce (by assumption) (by assumption) (by assumption)) tn3e (by assumption) | exact boA_3 (boT_of hce (by assumption) (by assumption) (by assumption)) tn3e (by assumption) | exact boA_5 (by assumption) tn3e (by assumption) (by assumption) (by assumption) (by assumption) (by assumption))
theorem lf_X11_body_f_20 (a : Nat → Nat) (ap : Int32) (bc : Int32) (br : Int32) (bm : Int32) (ba : Int32) (bp : Int32) (pc_ : Nat → Int32) (n1 : Int32) (n2 : Int32) (n3 : Int32) (hce : cel pc_) (c_2 : (1 : Int32) ≤ n1 ∧ n1 ≤ 12) (tn1 : Nat) (tn1a : 1 ≤ tn1) (tn1b : tn1 ≤ 12) (tn1e : n1 = nI tn1) (c_5 : (1 : Int32) ≤ n2 ∧ n2 ≤ 6) (tn2 : Nat) (tn2a : 1 ≤ tn2) (tn2b : tn2 ≤ 6) (tn2e : n2 = nI tn2) (c_8 : (0 : Int32) ≤ n3 ∧ n3 ≤ 4) (tn3 : Nat) (tn3a : 0 ≤ tn3) (tn3b : tn3 ≤ 4) (tn3e : n3 = nI tn3) (bc_14 : Int32) (br_14 : Int32) (bm_14 : Int32) (ba_14 : Int32) (bp_14 : Int32) (hz_14_0 : (bm_14, bc_14, br_14, ba_14) = bdF (fun c r => amO pc_ c tn1 r tn2) (13 - tn1) bc br (7 - tn2)) (hz_14_1 : bp_14 = nI ((7 - tn2) * (13 - tn1))) (c_15 : ¬ tn3 = 0) (c_17 : ¬ tn3 = 1) (c_19 : tn3 = 2) : (bm_14 : Int32) = boF pc_ n1 n2 n3 ∧ (True) := by
  refine ⟨?_, trivial⟩
  first | exact boF_n (fun w => absurd w.1 (by assumption)) | exact boF_n (fun w => absurd w.2.1 (by assumption)) | exact boF_n (fun w => absurd w.2.2 (by assumption)) | (refine boF_y (k := tn3) (by assumption) (by assumption) (by assumption) (by assumption) (by assumption) (by assumption) (by assumption) ?_; first | exact boA_0 (boT_of hce (by assumption) (by assumption) (by assumption)) tn3e (by assumption) | exact boA_1 (boT_of hce (by assumption) (by assumption) (by assumption)) tn3e (by assumption) | exact boA_2 (boT_of hce (by assumption) (by assumption) (by assumption)) tn3e (by assumption) | exact boA_3 (boT_of hce (by assumption) (by assumption) (by assumption)) tn3e (by assumption) | exact boA_5 (by assumption) tn3e (by assumption) (by assumption) (by assumption) (by assumption) (by assumption))
theorem lf_X11_body_f_22 (a : Nat → Nat) (ap : Int32) (bc : Int32) (br : Int32) (bm : Int32) (ba : Int32) (bp : Int32) (pc_ : Nat → Int32) (n1 : Int32) (n2 : Int32) (n3 : Int32) (hce : cel pc_) (c_2 : (1 : Int32) ≤ n1 ∧ n1 ≤ 12) (tn1 : Nat) (tn1a : 1 ≤ tn1) (tn1b : tn1 ≤ 12) (tn1e : n1 = nI tn1) (c_5 : (1 : Int32) ≤ n2 ∧ n2 ≤ 6) (tn2 : Nat) (tn2a : 1 ≤ tn2) (tn2b : tn2 ≤ 6) (tn2e : n2 = nI tn2) (c_8 : (0 : Int32) ≤ n3 ∧ n3 ≤ 4) (tn3 : Nat) (tn3a : 0 ≤ tn3) (tn3b : tn3 ≤ 4) (tn3e : n3 = nI tn3) (bc_14 : Int32) (br_14 : Int32) (bm_14 : Int32) (ba_14 : Int32) (bp_14 : Int32) (hz_14_0 : (bm_14, bc_14, br_14, ba_14) = bdF (fun c r => amO pc_ c tn1 r tn2) (13 - tn1) bc br (7 - tn2)) (hz_14_1 : bp_14 = nI ((7 - tn2) * (13 - tn1))) (c_15 : ¬ tn3 = 0) (c_17 : ¬ tn3 = 1) (c_19 : ¬ tn3 = 2) (c_21 : tn3 = 3) : (ba_14 : Int32) = boF pc_ n1 n2 n3 ∧ (True) := by
  refine ⟨?_, trivial⟩
  first | exact boF_n (fun w => absurd w.1 (by assumption)) | exact boF_n (fun w => absurd w.2.1 (by assumption)) | exact boF_n (fun w => absurd w.2.2 (by assumption)) | (refine boF_y (k := tn3) (by assumption) (by assumption) (by assumption) (by assumption) (by assumption) (by assumption) (by assumption) ?_; first | exact boA_0 (boT_of hce (by assumption) (by assumption) (by assumption)) tn3e (by assumption) | exact boA_1 (boT_of hce (by assumption) (by assumption) (by assumption)) tn3e (by assumption) | exact boA_2 (boT_of hce (by assumption) (by assumption) (by assumption)) tn3e (by assumption) | exact boA_3 (boT_of hce (by assumption) (by assumption) (by assumption)) tn3e (by assumption) | exact boA_5 (by assumption) tn3e (by assumption) (by assumption) (by assumption) (by assumption) (by assumption))
theorem lf_X11_body_f_23 (a : Nat → Nat) (ap : Int32) (bc : Int32) (br : Int32) (bm : Int32) (ba : Int32) (bp : Int32) (pc_ : Nat → Int32) (n1 : Int32) (n2 : Int32) (n3 : Int32) (hce : cel pc_) (c_2 : (1 : Int32) ≤ n1 ∧ n1 ≤ 12) (tn1 : Nat) (tn1a : 1 ≤ tn1) (tn1b : tn1 ≤ 12) (tn1e : n1 = nI tn1) (c_5 : (1 : Int32) ≤ n2 ∧ n2 ≤ 6) (tn2 : Nat) (tn2a : 1 ≤ tn2) (tn2b : tn2 ≤ 6) (tn2e : n2 = nI tn2) (c_8 : (0 : Int32) ≤ n3 ∧ n3 ≤ 4) (tn3 : Nat) (tn3a : 0 ≤ tn3) (tn3b : tn3 ≤ 4) (tn3e : n3 = nI tn3) (bc_14 : Int32) (br_14 : Int32) (bm_14 : Int32) (ba_14 : Int32) (bp_14 : Int32) (hz_14_0 : (bm_14, bc_14, br_14, ba_14) = bdF (fun c r => amO pc_ c tn1 r tn2) (13 - tn1) bc br (7 - tn2)) (hz_14_1 : bp_14 = nI ((7 - tn2) * (13 - tn1))) (c_15 : ¬ tn3 = 0) (c_17 : ¬ tn3 = 1) (c_19 : ¬ tn3 = 2) (c_21 : ¬ tn3 = 3) : (nI tn3).toInt < 0 ∨ 3 < (nI tn3).toInt := by
  right
  rw [nI_toInt (by omega)]
  omega
theorem lf_X11_body_f_24 (a : Nat → Nat) (ap : Int32) (bc : Int32) (br : Int32) (bm : Int32) (ba : Int32) (bp : Int32) (pc_ : Nat → Int32) (n1 : Int32) (n2 : Int32) (n3 : Int32) (hce : cel pc_) (c_2 : (1 : Int32) ≤ n1 ∧ n1 ≤ 12) (tn1 : Nat) (tn1a : 1 ≤ tn1) (tn1b : tn1 ≤ 12) (tn1e : n1 = nI tn1) (c_5 : (1 : Int32) ≤ n2 ∧ n2 ≤ 6) (tn2 : Nat) (tn2a : 1 ≤ tn2) (tn2b : tn2 ≤ 6) (tn2e : n2 = nI tn2) (c_8 : (0 : Int32) ≤ n3 ∧ n3 ≤ 4) (tn3 : Nat) (tn3a : 0 ≤ tn3) (tn3b : tn3 ≤ 4) (tn3e : n3 = nI tn3) (bc_14 : Int32) (br_14 : Int32) (bm_14 : Int32) (ba_14 : Int32) (bp_14 : Int32) (hz_14_0 : (bm_14, bc_14, br_14, ba_14) = bdF (fun c r => amO pc_ c tn1 r tn2) (13 - tn1) bc br (7 - tn2)) (hz_14_1 : bp_14 = nI ((7 - tn2) * (13 - tn1))) (c_15 : ¬ tn3 = 0) (c_17 : ¬ tn3 = 1) (c_19 : ¬ tn3 = 2) (c_21 : ¬ tn3 = 3) : (bp_14 : Int32) = boF pc_ n1 n2 n3 ∧ (True) := by
  refine ⟨?_, trivial⟩
  first | exact boF_n (fun w => absurd w.1 (by assumption)) | exact boF_n (fun w => absurd w.2.1 (by assumption)) | exact boF_n (fun w => absurd w.2.2 (by assumption)) | (refine boF_y (k := tn3) (by assumption) (by assumption) (by assumption) (by assumption) (by assumption) (by assumption) (by assumption) ?_; first | exact boA_0 (boT_of hce (by assumption) (by assumption) (by assumption)) tn3e (by assumption) | exact boA_1 (boT_of hce (by assumption) (by assumption) (by assumption)) tn3e (by assumption) | exact boA_2 (boT_of hce (by assumption) (by assumption) (by assumption)) tn3e (by assumption) | exact boA_3 (boT_of hce (by assumption) (by assumption) (by assumption)) tn3e (by assumption) | exact boA_5 (by assumption) tn3e (by assumption) (by assumption) (by assumption) (by assumption) (by assumption))
theorem lf_X11_body_f_25 (a : Nat → Nat) (ap : Int32) (bc : Int32) (br : Int32) (bm : Int32) (ba : Int32) (bp : Int32) (pc_ : Nat → Int32) (n1 : Int32) (n2 : Int32) (n3 : Int32) (hce : cel pc_) (c_2 : (1 : Int32) ≤ n1 ∧ n1 ≤ 12) (tn1 : Nat) (tn1a : 1 ≤ tn1) (tn1b : tn1 ≤ 12) (tn1e : n1 = nI tn1) (c_5 : (1 : Int32) ≤ n2 ∧ n2 ≤ 6) (tn2 : Nat) (tn2a : 1 ≤ tn2) (tn2b : tn2 ≤ 6) (tn2e : n2 = nI tn2) (c_8 : ¬ ((0 : Int32) ≤ n3 ∧ n3 ≤ 4)) : ((-1) : Int32) = boF pc_ n1 n2 n3 ∧ (True) := by
  refine ⟨?_, trivial⟩
  first | exact boF_n (fun w => absurd w.1 (by assumption)) | exact boF_n (fun w => absurd w.2.1 (by assumption)) | exact boF_n (fun w => absurd w.2.2 (by assumption)) | (refine boF_y (k := tn3) (by assumption) (by assumption) (by assumption) (by assumption) (by assumption) (by assumption) (by assumption) ?_; first | exact boA_0 (boT_of hce (by assumption) (by assumption) (by assumption)) tn3e (by assumption) | exact boA_1 (boT_of hce (by assumption) (by assumption) (by assumption)) tn3e (by assumption) | exact boA_2 (boT_of hce (by assumption) (by assumption) (by assumption)) tn3e (by assumption) | exact boA_3 (boT_of hce (by assumption) (by assumption) (by assumption)) tn3e (by assumption) | exact boA_5 (by assumption) tn3e (by assumption) (by assumption) (by assumption) (by assumption) (by assumption))
set_option maxHeartbeats 4000000 in
set_option maxRecDepth 100000 in
theorem c_X11_body_f (l : Launch) (D : va_G) (cI cB cZ cJ : ClassId) (tx : List (ClassId × FieldType)) (a : Nat → Nat) (ap : Int32) (bc : Int32) (br : Int32) (bm : Int32) (ba : Int32) (bp : Int32) (pc_ : Nat → Int32) (n1 : Int32) (n2 : Int32) (n3 : Int32) (hce : cel pc_) : WrI l D cI cB cZ cJ tx yX11_body cX11_body 4 (some .int) 2 0 0 [.ref (a 0), .int n1, .int n2, .int n3] [(a 0, .inr (11, [.ref (a 1), .ref (a 2), .ref (a 3), .ref (a 4), .ref (a 5), .ref (a 6), .ref (a 7), .ref (a 8), .ref (a 9), .ref (a 10), .ref (a 11), .ref (a 12), .int ap])), (a 11, .inr (6, [.ref (a 47), .int bc, .int br, .int bm, .int ba, .int bp])), (a 47, .inl (cI, 72, .inl pc_))] (fun (r : Int32) (v : (Int32) × (Int32) × (Int32) × (Int32) × (Int32)) => r = boF pc_ n1 n2 n3 ∧ (True)) (fun v => [(a 0, .inr (11, [.ref (a 1), .ref (a 2), .ref (a 3), .ref (a 4), .ref (a 5), .ref (a 6), .ref (a 7), .ref (a 8), .ref (a 9), .ref (a 10), .ref (a 11), .ref (a 12), .int ap])), (a 11, .inr (6, [.ref (a 47), .int v.1, .int v.2.1, .int v.2.2.1, .int v.2.2.2.1, .int v.2.2.2.2])), (a 47, .inl (cI, 72, .inl pc_))]) := by
  refine wri_of2 (by decide) (Nat.le_of_ble_eq_true rfl) ?_
  intro p e s m below meth c A ls H locs hC hK hP hD hA hS hl
  obtain ⟨hx, hb, hr, hml, hown, hts, hlocks, hin⟩ := hC
  have hown : s.vm.findClass RX11 = some m.cls := hown
  have hl : lv_has ls 4 [(0, .ref (a 0)), (1, .int n1), (2, .int n2), (3, .int n3)] := hl
  refine W_gQ (fun Q hQ => ?_)
  refine lv_iload_n hx hb dX11_body_0 rfl (lv_at hl 1 rfl) ?_
  refine lv_iconst (v := 1) hx hb dX11_body_1 (by decide) ?_
  refine lv_bipush (v := 12) hx hb dX11_body_2 (by decide) ?_
  refine eRi (va_runS (As := [.int n1, .int 1, .int 12]) (rest := []) ⟨hx, hb, hml, hown, hts⟩ (c_X11_within l D cI cB cZ cJ tx n1 1 12 H.size) (zS hts k_527 v_X11_within ⟨Nat.le_of_ble_eq_true rfl, Nat.le_of_ble_eq_true rfl⟩) (px0 hK) rfl rfl hl.1 rfl (lv_room (Nat.le_of_ble_eq_true rfl)) dX11_body_4 ⟨Nat.le_of_ble_eq_true rfl, Nat.le_of_ble_eq_true rfl⟩) hP hS hA (fun r_1 H locs wr_1 hP hS => ?_)
  subst wr_1
  refine lv_bi_eq (tgt := 29) hx hb dX11_body_7 (by decide) (fun c_2 => ?_) (fun c_2 => ?_)
  · refine lv_iconst (v := (-1)) hx hb dX11_body_29 (by decide) ?_
    rw [hQ]
    exact W.iret (v := (-1)) hx hb hr (fun tt9 ht hW => ⟨⟨((-1) : Int32), ((bc : Int32), (br : Int32), (bm : Int32), (ba : Int32), (bp : Int32)), rfl, (lf_X11_body_f_3 a ap bc br bm ba bp pc_ n1 n2 n3 hce c_2), ⟨by rw [ht]; exact hP, hD⟩⟩, hS.F ht⟩) hS.2.2 dX11_body_30 hlocks
  · obtain ⟨tn1, tn1a, tn1b, tn1e⟩ := of_rng 1 12 rfl rfl c_2
    subst tn1e
    refine lv_iload_n hx hb dX11_body_10 rfl (lv_at hl 2 rfl) ?_
    refine lv_iconst (v := 1) hx hb dX11_body_11 (by decide) ?_
    refine lv_bipush (v := 6) hx hb dX11_body_12 (by decide) ?_
    refine eRi (va_runS (As := [.int n2, .int 1, .int 6]) (rest := []) ⟨hx, hb, hml, hown, hts⟩ (c_X11_within l D cI cB cZ cJ tx n2 1 6 H.size) (zS hts k_527 v_X11_within ⟨Nat.le_of_ble_eq_true rfl, Nat.le_of_ble_eq_true rfl⟩) (px0 hK) rfl rfl hl.1 rfl (lv_room (Nat.le_of_ble_eq_true rfl)) dX11_body_14 ⟨Nat.le_of_ble_eq_true rfl, Nat.le_of_ble_eq_true rfl⟩) hP hS hA (fun r_4 H locs wr_4 hP hS => ?_)
    subst wr_4
    refine lv_bi_eq (tgt := 29) hx hb dX11_body_17 (by decide) (fun c_5 => ?_) (fun c_5 => ?_)
    · refine lv_iconst (v := (-1)) hx hb dX11_body_29 (by decide) ?_
      rw [hQ]
      exact W.iret (v := (-1)) hx hb hr (fun tt9 ht hW => ⟨⟨((-1) : Int32), ((bc : Int32), (br : Int32), (bm : Int32), (ba : Int32), (bp : Int32)), rfl, (lf_X11_body_f_6 a ap bc br bm ba bp pc_ (nI tn1) n2 n3 hce c_2 tn1 tn1a tn1b rfl c_5), ⟨by rw [ht]; exact hP, hD⟩⟩, hS.F ht⟩) hS.2.2 dX11_body_30 hlocks
    · obtain ⟨tn2, tn2a, tn2b, tn2e⟩ := of_rng 1 6 rfl rfl c_5
      subst tn2e
      refine lv_iload_n hx hb dX11_body_20 rfl (lv_at hl 3 rfl) ?_
      refine lv_iconst (v := 0) hx hb dX11_body_21 (by decide) ?_
      refine lv_iconst (v := 4) hx hb dX11_body_22 (by decide) ?_
      refine eRi (va_runS (As := [.int n3, .int 0, .int 4]) (rest := []) ⟨hx, hb, hml, hown, hts⟩ (c_X11_within l D cI cB cZ cJ tx n3 0 4 H.size) (zS hts k_527 v_X11_within ⟨Nat.le_of_ble_eq_true rfl, Nat.le_of_ble_eq_true rfl⟩) (px0 hK) rfl rfl hl.1 rfl (lv_room (Nat.le_of_ble_eq_true rfl)) dX11_body_23 ⟨Nat.le_of_ble_eq_true rfl, Nat.le_of_ble_eq_true rfl⟩) hP hS hA (fun r_7 H locs wr_7 hP hS => ?_)
      subst wr_7
      refine lv_bi_ne (tgt := 31) hx hb dX11_body_26 (by decide) (fun c_8 => ?_) (fun c_8 => ?_)
      · obtain ⟨tn3, tn3a, tn3b, tn3e⟩ := of_rng 0 4 rfl rfl c_8
        subst tn3e
        refine lv_aload_n hx hb dX11_body_31 rfl (lv_at hl 0 rfl) ?_
        refine va_get (D := D) (ci := 11) (v := .ref (a 11)) (C := RX11) (T := TX11) (N := 13) hx hb hts inT_X11 hown hK.1 hP 0 rfl rfl 10 (by decide) (hts _ k_493) (fun _ h9 => h9) rfl dX11_body_32 ?_
        refine lv_iload_n hx hb dX11_body_35 rfl (lv_at hl 1 rfl) ?_
        refine lv_iload_n hx hb dX11_body_36 rfl (lv_at hl 2 rfl) ?_
        refine eWvP (va_runV (As := [.int (nI tn1), .int (nI tn2)]) (rest := []) ⟨hx, hb, hml, hown, hts⟩ (c_X6_seek_f l D cI cB cZ cJ tx a bc br bm ba bp pc_ tn1 tn2 (lf_X11_body_f_9 a ap bc br bm ba bp pc_ (nI tn1) (nI tn2) (nI tn3) hce c_2 tn1 tn1a tn1b rfl c_5 tn2 tn2a tn2b rfl c_8 tn3 tn3a tn3b rfl) (lf_X11_body_f_10 a ap bc br bm ba bp pc_ (nI tn1) (nI tn2) (nI tn3) hce c_2 tn1 tn1a tn1b rfl c_5 tn2 tn2a tn2b rfl c_8 tn3 tn3a tn3b rfl) (lf_X11_body_f_11 a ap bc br bm ba bp pc_ (nI tn1) (nI tn2) (nI tn3) hce c_2 tn1 tn1a tn1b rfl c_5 tn2 tn2a tn2b rfl c_8 tn3 tn3a tn3b rfl) (lf_X11_body_f_12 a ap bc br bm ba bp pc_ (nI tn1) (nI tn2) (nI tn3) hce c_2 tn1 tn1a tn1b rfl c_5 tn2 tn2a tn2b rfl c_8 tn3 tn3a tn3b rfl) H.size) (zV hts k_1177 v_X6_seek ⟨Nat.le_of_ble_eq_true rfl, Nat.le_of_ble_eq_true rfl⟩) (pV (pxS hK hP hD [1, 2] (by decide) rfl) hK hP 1 rfl rfl) rfl rfl hl.1 rfl (lv_room (Nat.le_of_ble_eq_true rfl)) dX11_body_37 ⟨Nat.le_of_ble_eq_true rfl, Nat.le_of_ble_eq_true rfl⟩) hP hD hS hA [1, 2] [none, some 0, some 1] rfl (by decide +kernel) (fun _ => rfl) (fun u_14 H locs wr_13 hP hD hS => ?_)
        obtain ⟨bc_14, br_14, bm_14, ba_14, bp_14⟩ := u_14
        have hz_14_0 : (bm_14, bc_14, br_14, ba_14) = bdF (fun c r => amO pc_ c tn1 r tn2) (13 - tn1) bc br (7 - tn2) := wr_13.1
        have hz_14_1 : bp_14 = nI ((7 - tn2) * (13 - tn1)) := wr_13.2
        have hP : va_P D vwCl [(a 0, .inr (11, [.ref (a 1), .ref (a 2), .ref (a 3), .ref (a 4), .ref (a 5), .ref (a 6), .ref (a 7), .ref (a 8), .ref (a 9), .ref (a 10), .ref (a 11), .ref (a 12), .int ap])), (a 11, .inr (6, [.ref (a 47), .int bc_14, .int br_14, .int bm_14, .int ba_14, .int bp_14])), (a 47, .inl (cI, 72, .inl pc_))] H := hP
        have hD : va_D A [(a 0, .inr (11, [.ref (a 1), .ref (a 2), .ref (a 3), .ref (a 4), .ref (a 5), .ref (a 6), .ref (a 7), .ref (a 8), .ref (a 9), .ref (a 10), .ref (a 11), .ref (a 12), .int ap])), (a 11, .inr (6, [.ref (a 47), .int bc_14, .int br_14, .int bm_14, .int ba_14, .int bp_14])), (a 47, .inl (cI, 72, .inl pc_))] := hD
        refine lv_iload_n hx hb dX11_body_40 rfl (lv_at hl 3 rfl) ?_
        by_cases c_15 : tn3 = 0
        · subst c_15
          refine lv_tableIn (off := 31) (tgt := 72) hx hb dX11_body_41 (by decide) (by decide) rfl (by decide) ?_
          refine lv_aload_n hx hb dX11_body_72 rfl (lv_at hl 0 rfl) ?_
          refine va_get (D := D) (ci := 11) (v := .ref (a 11)) (C := RX11) (T := TX11) (N := 13) hx hb hts inT_X11 hown hK.1 hP 0 rfl rfl 10 (by decide) (hts _ k_493) (fun _ h9 => h9) rfl dX11_body_73 ?_
          refine va_getN (D := D) (ci := 6) (v := .int bc_14) (C := RX6) (T := TX6) (N := 6) hx hb hts inT_X6 hown hK.1 hP 1 rfl rfl 1 (by decide) (va_Nw.use rfl (hK.2.2.1 _ n_443)) (fun _ h9 => h9) rfl dX11_body_76 ?_
          rw [hQ]
          exact W.iret (v := bc_14) hx hb hr (fun tt9 ht hW => ⟨⟨(bc_14 : Int32), ((bc_14 : Int32), (br_14 : Int32), (bm_14 : Int32), (ba_14 : Int32), (bp_14 : Int32)), rfl, (lf_X11_body_f_16 a ap bc br bm ba bp pc_ (nI tn1) (nI tn2) (nI 0) hce c_2 tn1 tn1a tn1b rfl c_5 tn2 tn2a tn2b rfl c_8 0 tn3a tn3b rfl bc_14 br_14 bm_14 ba_14 bp_14 hz_14_0 hz_14_1 rfl), ⟨by rw [ht]; exact hP, hD⟩⟩, hS.F ht⟩) hS.2.2 dX11_body_79 hlocks
        by_cases c_17 : tn3 = 1
        · subst c_17
          refine lv_tableIn (off := 39) (tgt := 80) hx hb dX11_body_41 (by decide) (by decide) rfl (by decide) ?_
          refine lv_aload_n hx hb dX11_body_80 rfl (lv_at hl 0 rfl) ?_
          refine va_get (D := D) (ci := 11) (v := .ref (a 11)) (C := RX11) (T := TX11) (N := 13) hx hb hts inT_X11 hown hK.1 hP 0 rfl rfl 10 (by decide) (hts _ k_493) (fun _ h9 => h9) rfl dX11_body_81 ?_
          refine va_getN (D := D) (ci := 6) (v := .int br_14) (C := RX6) (T := TX6) (N := 6) hx hb hts inT_X6 hown hK.1 hP 1 rfl rfl 2 (by decide) (va_Nw.use rfl (hK.2.2.1 _ n_445)) (fun _ h9 => h9) rfl dX11_body_84 ?_
          rw [hQ]
          exact W.iret (v := br_14) hx hb hr (fun tt9 ht hW => ⟨⟨(br_14 : Int32), ((bc_14 : Int32), (br_14 : Int32), (bm_14 : Int32), (ba_14 : Int32), (bp_14 : Int32)), rfl, (lf_X11_body_f_18 a ap bc br bm ba bp pc_ (nI tn1) (nI tn2) (nI 1) hce c_2 tn1 tn1a tn1b rfl c_5 tn2 tn2a tn2b rfl c_8 1 tn3a tn3b rfl bc_14 br_14 bm_14 ba_14 bp_14 hz_14_0 hz_14_1 c_15 rfl), ⟨by rw [ht]; exact hP, hD⟩⟩, hS.F ht⟩) hS.2.2 dX11_body_87 hlocks
        by_cases c_19 : tn3 = 2
        · subst c_19
          refine lv_tableIn (off := 47) (tgt := 88) hx hb dX11_body_41 (by decide) (by decide) rfl (by decide) ?_
          refine lv_aload_n hx hb dX11_body_88 rfl (lv_at hl 0 rfl) ?_
          refine va_get (D := D) (ci := 11) (v := .ref (a 11)) (C := RX11) (T := TX11) (N := 13) hx hb hts inT_X11 hown hK.1 hP 0 rfl rfl 10 (by decide) (hts _ k_493) (fun _ h9 => h9) rfl dX11_body_89 ?_
          refine va_getN (D := D) (ci := 6) (v := .int bm_14) (C := RX6) (T := TX6) (N := 6) hx hb hts inT_X6 hown hK.1 hP 1 rfl rfl 3 (by decide) (va_Nw.use rfl (hK.2.2.1 _ n_447)) (fun _ h9 => h9) rfl dX11_body_92 ?_
          rw [hQ]
          exact W.iret (v := bm_14) hx hb hr (fun tt9 ht hW => ⟨⟨(bm_14 : Int32), ((bc_14 : Int32), (br_14 : Int32), (bm_14 : Int32), (ba_14 : Int32), (bp_14 : Int32)), rfl, (lf_X11_body_f_20 a ap bc br bm ba bp pc_ (nI tn1) (nI tn2) (nI 2) hce c_2 tn1 tn1a tn1b rfl c_5 tn2 tn2a tn2b rfl c_8 2 tn3a tn3b rfl bc_14 br_14 bm_14 ba_14 bp_14 hz_14_0 hz_14_1 c_15 c_17 rfl), ⟨by rw [ht]; exact hP, hD⟩⟩, hS.F ht⟩) hS.2.2 dX11_body_95 hlocks
        by_cases c_21 : tn3 = 3
        · subst c_21
          refine lv_tableIn (off := 55) (tgt := 96) hx hb dX11_body_41 (by decide) (by decide) rfl (by decide) ?_
          refine lv_aload_n hx hb dX11_body_96 rfl (lv_at hl 0 rfl) ?_
          refine va_get (D := D) (ci := 11) (v := .ref (a 11)) (C := RX11) (T := TX11) (N := 13) hx hb hts inT_X11 hown hK.1 hP 0 rfl rfl 10 (by decide) (hts _ k_493) (fun _ h9 => h9) rfl dX11_body_97 ?_
          refine va_getN (D := D) (ci := 6) (v := .int ba_14) (C := RX6) (T := TX6) (N := 6) hx hb hts inT_X6 hown hK.1 hP 1 rfl rfl 4 (by decide) (va_Nw.use rfl (hK.2.2.1 _ n_449)) (fun _ h9 => h9) rfl dX11_body_100 ?_
          rw [hQ]
          exact W.iret (v := ba_14) hx hb hr (fun tt9 ht hW => ⟨⟨(ba_14 : Int32), ((bc_14 : Int32), (br_14 : Int32), (bm_14 : Int32), (ba_14 : Int32), (bp_14 : Int32)), rfl, (lf_X11_body_f_22 a ap bc br bm ba bp pc_ (nI tn1) (nI tn2) (nI 3) hce c_2 tn1 tn1a tn1b rfl c_5 tn2 tn2a tn2b rfl c_8 3 tn3a tn3b rfl bc_14 br_14 bm_14 ba_14 bp_14 hz_14_0 hz_14_1 c_15 c_17 c_19 rfl), ⟨by rw [ht]; exact hP, hD⟩⟩, hS.F ht⟩) hS.2.2 dX11_body_103 hlocks
        refine lv_tableOut (tgt := 104) hx hb dX11_body_41 (lf_X11_body_f_23 a ap bc br bm ba bp pc_ (nI tn1) (nI tn2) (nI tn3) hce c_2 tn1 tn1a tn1b rfl c_5 tn2 tn2a tn2b rfl c_8 tn3 tn3a tn3b rfl bc_14 br_14 bm_14 ba_14 bp_14 hz_14_0 hz_14_1 c_15 c_17 c_19 c_21) (by decide) ?_
        refine lv_aload_n hx hb dX11_body_104 rfl (lv_at hl 0 rfl) ?_
        refine va_get (D := D) (ci := 11) (v := .ref (a 11)) (C := RX11) (T := TX11) (N := 13) hx hb hts inT_X11 hown hK.1 hP 0 rfl rfl 10 (by decide) (hts _ k_493) (fun _ h9 => h9) rfl dX11_body_105 ?_
        refine va_getN (D := D) (ci := 6) (v := .int bp_14) (C := RX6) (T := TX6) (N := 6) hx hb hts inT_X6 hown hK.1 hP 1 rfl rfl 5 (by decide) (va_Nw.use rfl (hK.2.2.1 _ n_451)) (fun _ h9 => h9) rfl dX11_body_108 ?_
        rw [hQ]
        exact W.iret (v := bp_14) hx hb hr (fun tt9 ht hW => ⟨⟨(bp_14 : Int32), ((bc_14 : Int32), (br_14 : Int32), (bm_14 : Int32), (ba_14 : Int32), (bp_14 : Int32)), rfl, (lf_X11_body_f_24 a ap bc br bm ba bp pc_ (nI tn1) (nI tn2) (nI tn3) hce c_2 tn1 tn1a tn1b rfl c_5 tn2 tn2a tn2b rfl c_8 tn3 tn3a tn3b rfl bc_14 br_14 bm_14 ba_14 bp_14 hz_14_0 hz_14_1 c_15 c_17 c_19 c_21), ⟨by rw [ht]; exact hP, hD⟩⟩, hS.F ht⟩) hS.2.2 dX11_body_111 hlocks
      · refine lv_iconst (v := (-1)) hx hb dX11_body_29 (by decide) ?_
        rw [hQ]
        exact W.iret (v := (-1)) hx hb hr (fun tt9 ht hW => ⟨⟨((-1) : Int32), ((bc : Int32), (br : Int32), (bm : Int32), (ba : Int32), (bp : Int32)), rfl, (lf_X11_body_f_25 a ap bc br bm ba bp pc_ (nI tn1) (nI tn2) n3 hce c_2 tn1 tn1a tn1b rfl c_5 tn2 tn2a tn2b rfl c_8), ⟨by rw [ht]; exact hP, hD⟩⟩, hS.F ht⟩) hS.2.2 dX11_body_30 hlocks

theorem lf_X12_muchAt_f_3 (h : Nat) (q : Nat → Nat) (im : Nat → Int32) (m_phosphors : Nat → Int32) (c0 : Nat) (r0 : Nat) (w0 : Nat) (h0 : Nat) (hcw : c0 + w0 ≤ 12) (hrh : r0 + h0 ≤ 6) (j1 : Nat) (w1 : Int32) (k6 : Nat) (hj6 : j1 ≤ w0) (hk6 : w0 < j1 + (k6 + 1)) (hw1 : w1 = mcO m_phosphors c0 r0 h0 j1) (c_1 : nI w0 ≤ nI j1) : w0 ≤ j1 := by
  exact (nI_leI (a := w0) (b := j1) (by omega) (by omega)).mp c_1
theorem lf_X12_muchAt_f_4 (h : Nat) (q : Nat → Nat) (im : Nat → Int32) (m_phosphors : Nat → Int32) (c0 : Nat) (r0 : Nat) (w0 : Nat) (h0 : Nat) (hcw : c0 + w0 ≤ 12) (hrh : r0 + h0 ≤ 6) (j1 : Nat) (w1 : Int32) (k6 : Nat) (hj6 : j1 ≤ w0) (hk6 : w0 < j1 + (k6 + 1)) (hw1 : w1 = mcO m_phosphors c0 r0 h0 j1) (c_1 : nI w0 ≤ nI j1) (n_2 : w0 ≤ j1) : (w1 : Int32) = amO m_phosphors c0 w0 r0 h0 := by
  exact mcO_l (by assumption) (by assumption) (by assumption)
theorem lf_X12_muchAt_f_6 (h : Nat) (q : Nat → Nat) (im : Nat → Int32) (m_phosphors : Nat → Int32) (c0 : Nat) (r0 : Nat) (w0 : Nat) (h0 : Nat) (hcw : c0 + w0 ≤ 12) (hrh : r0 + h0 ≤ 6) (j1 : Nat) (w1 : Int32) (k6 : Nat) (hj6 : j1 ≤ w0) (hk6 : w0 < j1 + (k6 + 1)) (hw1 : w1 = mcO m_phosphors c0 r0 h0 j1) (c_1 : ¬ nI w0 ≤ nI j1) : j1 < w0 := by
  exact Nat.lt_of_not_le (fun q => c_1 ((nI_leI (a := w0) (b := j1) (by omega) (by omega)).mpr q))
theorem lf_X12_muchAt_f_9 (h : Nat) (q : Nat → Nat) (im : Nat → Int32) (m_phosphors : Nat → Int32) (c0 : Nat) (r0 : Nat) (w0 : Nat) (h0 : Nat) (hcw : c0 + w0 ≤ 12) (hrh : r0 + h0 ≤ 6) (j1 : Nat) (w1 : Int32) (k6 : Nat) (hj6 : j1 ≤ w0) (hk6 : w0 < j1 + (k6 + 1)) (hw1 : w1 = mcO m_phosphors c0 r0 h0 j1) (c_1 : ¬ nI w0 ≤ nI j1) (n_5 : j1 < w0) (j2 : Nat) (w2 : Int32) (k15 : Nat) (hj15 : j2 ≤ h0) (hk15 : h0 < j2 + (k15 + 1)) (hw2 : w2 = mcI m_phosphors c0 r0 j1 w1 j2) (c_7 : nI h0 ≤ nI j2) : h0 ≤ j2 := by
  exact (nI_leI (a := h0) (b := j2) (by omega) (by omega)).mp c_7
theorem lf_X12_muchAt_f_10 (h : Nat) (q : Nat → Nat) (im : Nat → Int32) (m_phosphors : Nat → Int32) (c0 : Nat) (r0 : Nat) (w0 : Nat) (h0 : Nat) (hcw : c0 + w0 ≤ 12) (hrh : r0 + h0 ≤ 6) (j1 : Nat) (w1 : Int32) (k6 : Nat) (hj6 : j1 ≤ w0) (hk6 : w0 < j1 + (k6 + 1)) (hw1 : w1 = mcO m_phosphors c0 r0 h0 j1) (c_1 : ¬ nI w0 ≤ nI j1) (n_5 : j1 < w0) (j2 : Nat) (w2 : Int32) (k15 : Nat) (hj15 : j2 ≤ h0) (hk15 : h0 < j2 + (k15 + 1)) (hw2 : w2 = mcI m_phosphors c0 r0 j1 w1 j2) (c_7 : nI h0 ≤ nI j2) (n_8 : h0 ≤ j2) : w2 = mcO m_phosphors c0 r0 h0 (j1 + 1) := by
  first | rfl | exact mcI_s (by assumption) (by assumption) | exact mcO_s (by assumption) (by assumption) (by assumption) (by assumption)
theorem lf_X12_muchAt_f_12 (h : Nat) (q : Nat → Nat) (im : Nat → Int32) (m_phosphors : Nat → Int32) (c0 : Nat) (r0 : Nat) (w0 : Nat) (h0 : Nat) (hcw : c0 + w0 ≤ 12) (hrh : r0 + h0 ≤ 6) (j1 : Nat) (w1 : Int32) (k6 : Nat) (hj6 : j1 ≤ w0) (hk6 : w0 < j1 + (k6 + 1)) (hw1 : w1 = mcO m_phosphors c0 r0 h0 j1) (c_1 : ¬ nI w0 ≤ nI j1) (n_5 : j1 < w0) (j2 : Nat) (w2 : Int32) (k15 : Nat) (hj15 : j2 ≤ h0) (hk15 : h0 < j2 + (k15 + 1)) (hw2 : w2 = mcI m_phosphors c0 r0 j1 w1 j2) (c_7 : ¬ nI h0 ≤ nI j2) : j2 < h0 := by
  exact Nat.lt_of_not_le (fun q => c_7 ((nI_leI (a := h0) (b := j2) (by omega) (by omega)).mpr q))
theorem lf_X12_muchAt_f_13 (h : Nat) (q : Nat → Nat) (im : Nat → Int32) (m_phosphors : Nat → Int32) (c0 : Nat) (r0 : Nat) (w0 : Nat) (h0 : Nat) (hcw : c0 + w0 ≤ 12) (hrh : r0 + h0 ≤ 6) (j1 : Nat) (w1 : Int32) (k6 : Nat) (hj6 : j1 ≤ w0) (hk6 : w0 < j1 + (k6 + 1)) (hw1 : w1 = mcO m_phosphors c0 r0 h0 j1) (c_1 : ¬ nI w0 ≤ nI j1) (n_5 : j1 < w0) (j2 : Nat) (w2 : Int32) (k15 : Nat) (hj15 : j2 ≤ h0) (hk15 : h0 < j2 + (k15 + 1)) (hw2 : w2 = mcI m_phosphors c0 r0 j1 w1 j2) (c_7 : ¬ nI h0 ≤ nI j2) (n_11 : j2 < h0) : (((12 * (r0 + j2)) + c0) + j1) < 72 := by
  omega
theorem lf_X12_muchAt_f_15 (h : Nat) (q : Nat → Nat) (im : Nat → Int32) (m_phosphors : Nat → Int32) (c0 : Nat) (r0 : Nat) (w0 : Nat) (h0 : Nat) (hcw : c0 + w0 ≤ 12) (hrh : r0 + h0 ≤ 6) (j1 : Nat) (w1 : Int32) (k6 : Nat) (hj6 : j1 ≤ w0) (hk6 : w0 < j1 + (k6 + 1)) (hw1 : w1 = mcO m_phosphors c0 r0 h0 j1) (c_1 : ¬ nI w0 ≤ nI j1) (n_5 : j1 < w0) (j2 : Nat) (w2 : Int32) (k15 : Nat) (hj15 : j2 ≤ h0) (hk15 : h0 < j2 + (k15 + 1)) (hw2 : w2 = mcI m_phosphors c0 r0 j1 w1 j2) (c_7 : ¬ nI h0 ≤ nI j2) (n_11 : j2 < h0) (x_14 : Int32) (ex_14 : x_14 = w2 + m_phosphors (((12 * (r0 + j2)) + c0) + j1)) : x_14 = mcI m_phosphors c0 r0 j1 w1 (j2 + 1) := by
  first | rfl | exact mcI_s (by assumption) (by assumption) | exact mcO_s (by assumption) (by assumption) (by assumption) (by assumption)
theorem lf_X12_muchAt_f_16 (h : Nat) (q : Nat → Nat) (im : Nat → Int32) (m_phosphors : Nat → Int32) (c0 : Nat) (r0 : Nat) (w0 : Nat) (h0 : Nat) (hcw : c0 + w0 ≤ 12) (hrh : r0 + h0 ≤ 6) (j1 : Nat) (w1 : Int32) (k6 : Nat) (hj6 : j1 ≤ w0) (hk6 : w0 < j1 + (k6 + 1)) (hw1 : w1 = mcO m_phosphors c0 r0 h0 j1) (c_1 : ¬ nI w0 ≤ nI j1) (n_5 : j1 < w0) : w1 = mcI m_phosphors c0 r0 j1 w1 0 := by
  first | rfl | exact mcI_s (by assumption) (by assumption) | exact mcO_s (by assumption) (by assumption) (by assumption) (by assumption)
theorem lf_X12_muchAt_f_17 (h : Nat) (q : Nat → Nat) (im : Nat → Int32) (m_phosphors : Nat → Int32) (c0 : Nat) (r0 : Nat) (w0 : Nat) (h0 : Nat) (hcw : c0 + w0 ≤ 12) (hrh : r0 + h0 ≤ 6) : (0 : Int32) = mcO m_phosphors c0 r0 h0 0 := by
  first | rfl | exact mcI_s (by assumption) (by assumption) | exact mcO_s (by assumption) (by assumption) (by assumption) (by assumption)
set_option maxHeartbeats 4000000 in
set_option maxRecDepth 100000 in
theorem c_X12_muchAt_f (l : Launch) (D : va_G) (cI cB cZ cJ : ClassId) (tx : List (ClassId × FieldType)) (h : Nat) (q : Nat → Nat) (im : Nat → Int32) (m_phosphors : Nat → Int32) (c0 : Nat) (r0 : Nat) (w0 : Nat) (h0 : Nat) (hcw : c0 + w0 ≤ 12) (hrh : r0 + h0 ≤ 6) : RdI l D cI cB cZ cJ tx yX12_muchAt cX12_muchAt 8 (some .int) 0 [.ref h, .int (nI c0), .int (nI r0), .int (nI w0), .int (nI h0)] [(h, .inr (12, mG q im)), (q 74, .inl (cI, 72, .inl m_phosphors))] (fun r => r = amO m_phosphors c0 w0 r0 h0) := by
  refine rdi_of2 (by decide) (Nat.le_of_ble_eq_true rfl) ?_
  intro p e s m below meth c A ls H locs hC hK hP hD hA hS hl
  obtain ⟨hx, hb, hr, hml, hown, hts, hlocks, hin⟩ := hC
  have hown : s.vm.findClass RX12 = some m.cls := hown
  have hl : lv_has ls 8 [(0, .ref h), (1, .int (nI c0)), (2, .int (nI r0)), (3, .int (nI w0)), (4, .int (nI h0))] := hl
  refine W_gQ (fun Q hQ => ?_)
  refine lv_iconst (v := 0) hx hb dX12_muchAt_0 (by decide) ?_
  refine lv_istore (lv' := [(5, .int 0), (0, .ref h), (1, .int (nI c0)), (2, .int (nI r0)), (3, .int (nI w0)), (4, .int (nI h0))]) hx hb dX12_muchAt_1 hl (by decide) rfl (fun ls hl => ?_)
  refine lv_iconst (v := 0) hx hb dX12_muchAt_3 (by decide) ?_
  refine lv_istore (lv' := [(6, .int 0), (5, .int 0), (0, .ref h), (1, .int (nI c0)), (2, .int (nI r0)), (3, .int (nI w0)), (4, .int (nI h0))]) hx hb dX12_muchAt_4 hl (by decide) rfl (fun ls hl => ?_)
  have lp6 : ∀ (k6 : Nat) (j1 : Nat) (w1 : Int32) (H : Heap) (locs : List Loc) (ls : Array Slot), j1 ≤ w0 → w0 < j1 + k6 → (w1 = mcO m_phosphors c0 r0 h0 j1) → va_P D vwCl [(h, .inr (12, mG q im)), (q 74, .inl (cI, 72, .inl m_phosphors))] H → va_S A s.heap H locs → lv_has ls 8 [(6, .int (nI j1)), (5, .int w1), (0, .ref h), (1, .int (nI c0)), (2, .int (nI r0)), (3, .int (nI w0)), (4, .int (nI h0))] → W p l e (rmX 0 0 0) s m ([.ref h, .int (nI c0), .int (nI r0), .int (nI w0), .int (nI h0)] : List Value).toArray below meth c H locs 0 0 Q (F0 m 6 ls []) := by
    intro k6
    induction k6 with
    | zero =>
      intro j1 w1 H locs ls hj6 hk6 hw1 hP hS hl
      exact absurd hk6 (by omega)
    | succ k6 ih6 =>
      intro j1 w1 H locs ls hj6 hk6 hw1 hP hS hl
      refine lv_iload hx hb dX12_muchAt_6 (lv_at hl 0 rfl) ?_
      refine lv_iload_n hx hb dX12_muchAt_8 rfl (lv_at hl 5 rfl) ?_
      refine lv_icmp_ge (tgt := 56) hx hb dX12_muchAt_9 (by decide) (fun c_1 => ?_) (fun c_1 => ?_)
      · have n_2 : w0 ≤ j1 := (lf_X12_muchAt_f_3 h q im m_phosphors c0 r0 w0 h0 hcw hrh j1 w1 k6 hj6 hk6 hw1 c_1)
        refine lv_iload hx hb dX12_muchAt_56 (lv_at hl 1 rfl) ?_
        rw [hQ]
        exact W.iret (v := w1) hx hb hr (fun tt9 ht hW => ⟨⟨(w1 : Int32), (), rfl, (lf_X12_muchAt_f_4 h q im m_phosphors c0 r0 w0 h0 hcw hrh j1 w1 k6 hj6 hk6 hw1 c_1 n_2), trivial⟩, hS.F ht⟩) hS.2.2 dX12_muchAt_58 hlocks
      · have n_5 : j1 < w0 := (lf_X12_muchAt_f_6 h q im m_phosphors c0 r0 w0 h0 hcw hrh j1 w1 k6 hj6 hk6 hw1 c_1)
        refine lv_iconst (v := 0) hx hb dX12_muchAt_12 (by decide) ?_
        refine lv_istore (lv' := [(7, .int 0), (6, .int (nI j1)), (5, .int w1), (0, .ref h), (1, .int (nI c0)), (2, .int (nI r0)), (3, .int (nI w0)), (4, .int (nI h0))]) hx hb dX12_muchAt_13 hl (by decide) rfl (fun ls hl => ?_)
        have lp15 : ∀ (k15 : Nat) (j2 : Nat) (w2 : Int32) (H : Heap) (locs : List Loc) (ls : Array Slot), j2 ≤ h0 → h0 < j2 + k15 → (w2 = mcI m_phosphors c0 r0 j1 w1 j2) → va_P D vwCl [(h, .inr (12, mG q im)), (q 74, .inl (cI, 72, .inl m_phosphors))] H → va_S A s.heap H locs → lv_has ls 8 [(7, .int (nI j2)), (6, .int (nI j1)), (5, .int w2), (0, .ref h), (1, .int (nI c0)), (2, .int (nI r0)), (3, .int (nI w0)), (4, .int (nI h0))] → W p l e (rmX 0 0 0) s m ([.ref h, .int (nI c0), .int (nI r0), .int (nI w0), .int (nI h0)] : List Value).toArray below meth c H locs 0 0 Q (F0 m 15 ls []) := by
          intro k15
          induction k15 with
          | zero =>
            intro j2 w2 H locs ls hj15 hk15 hw2 hP hS hl
            exact absurd hk15 (by omega)
          | succ k15 ih15 =>
            intro j2 w2 H locs ls hj15 hk15 hw2 hP hS hl
            refine lv_iload hx hb dX12_muchAt_15 (lv_at hl 0 rfl) ?_
            refine lv_iload hx hb dX12_muchAt_17 (lv_at hl 7 rfl) ?_
            refine lv_icmp_ge (tgt := 50) hx hb dX12_muchAt_19 (by decide) (fun c_7 => ?_) (fun c_7 => ?_)
            · have n_8 : h0 ≤ j2 := (lf_X12_muchAt_f_9 h q im m_phosphors c0 r0 w0 h0 hcw hrh j1 w1 k6 hj6 hk6 hw1 c_1 n_5 j2 w2 k15 hj15 hk15 hw2 c_7)
              refine lv_iinc (v := nI (j1 + 1)) (lv' := [(6, .int (nI (j1 + 1))), (7, .int (nI j2)), (5, .int w2), (0, .ref h), (1, .int (nI c0)), (2, .int (nI r0)), (3, .int (nI w0)), (4, .int (nI h0))]) hx hb dX12_muchAt_50 hl (k := 1) rfl (nI_1 j1) (by decide) rfl (fun ls hl => ?_)
              refine lv_goto (tgt := 6) hx hb dX12_muchAt_53 (by decide) ?_
              exact ih6 (j1 + 1) w2 H locs ls (by omega) (by omega) (lf_X12_muchAt_f_10 h q im m_phosphors c0 r0 w0 h0 hcw hrh j1 w1 k6 hj6 hk6 hw1 c_1 n_5 j2 w2 k15 hj15 hk15 hw2 c_7 n_8) (hP.sub [0, 1] rfl)  hS (lv_sub hl [0, 2, 3, 4, 5, 6, 7] rfl)
            · have n_11 : j2 < h0 := (lf_X12_muchAt_f_12 h q im m_phosphors c0 r0 w0 h0 hcw hrh j1 w1 k6 hj6 hk6 hw1 c_1 n_5 j2 w2 k15 hj15 hk15 hw2 c_7)
              refine lv_iload hx hb dX12_muchAt_22 (lv_at hl 2 rfl) ?_
              refine lv_aload_n hx hb dX12_muchAt_24 rfl (lv_at hl 3 rfl) ?_
              refine va_get (D := D) (ci := 12) (v := .ref (q 74)) (C := RX12) (T := TX12) (N := 81) hx hb hts inT_X12 hown hK.1 hP 0 rfl rfl 74 (by decide) (hts _ k_1427) (fun _ h9 => h9) rfl dX12_muchAt_25 ?_
              refine lv_bipush (v := 12) hx hb dX12_muchAt_28 (by decide) ?_
              refine lv_iload_n hx hb dX12_muchAt_30 rfl (lv_at hl 5 rfl) ?_
              refine lv_iload hx hb dX12_muchAt_31 (lv_at hl 0 rfl) ?_
              refine lv_iadd hx hb dX12_muchAt_33 ?_
              refine lv_topv (y := nI (r0 + j2)) (nI_add r0 j2) ?_
              refine lv_imul hx hb dX12_muchAt_34 ?_
              refine lv_topv (y := nI (12 * (r0 + j2))) (pk_mul 12 (r0 + j2)) ?_
              refine lv_iload_n hx hb dX12_muchAt_35 rfl (lv_at hl 4 rfl) ?_
              refine lv_iadd hx hb dX12_muchAt_36 ?_
              refine lv_topv (y := nI ((12 * (r0 + j2)) + c0)) (nI_add (12 * (r0 + j2)) c0) ?_
              refine lv_iload hx hb dX12_muchAt_37 (lv_at hl 1 rfl) ?_
              refine lv_iadd hx hb dX12_muchAt_39 ?_
              refine lv_topv (y := nI (((12 * (r0 + j2)) + c0) + j1)) (nI_add ((12 * (r0 + j2)) + c0) j1) ?_
              refine lt_i (j := (((12 * (r0 + j2)) + c0) + j1)) hx hb hK hP 1 rfl (lf_X12_muchAt_f_13 h q im m_phosphors c0 r0 w0 h0 hcw hrh j1 w1 k6 hj6 hk6 hw1 c_1 n_5 j2 w2 k15 hj15 hk15 hw2 c_7 n_11) (by decide) dX12_muchAt_40 ?_
              refine lv_iadd hx hb dX12_muchAt_41 ?_
              refine lv_topi (fun x_14 ex_14 => ?_)
              refine lv_istore (lv' := [(5, .int x_14), (7, .int (nI j2)), (6, .int (nI j1)), (0, .ref h), (1, .int (nI c0)), (2, .int (nI r0)), (3, .int (nI w0)), (4, .int (nI h0))]) hx hb dX12_muchAt_42 hl (by decide) rfl (fun ls hl => ?_)
              refine lv_iinc (v := nI (j2 + 1)) (lv' := [(7, .int (nI (j2 + 1))), (5, .int x_14), (6, .int (nI j1)), (0, .ref h), (1, .int (nI c0)), (2, .int (nI r0)), (3, .int (nI w0)), (4, .int (nI h0))]) hx hb dX12_muchAt_44 hl (k := 1) rfl (nI_1 j2) (by decide) rfl (fun ls hl => ?_)
              refine lv_goto (tgt := 15) hx hb dX12_muchAt_47 (by decide) ?_
              exact ih15 (j2 + 1) x_14 H locs ls (by omega) (by omega) (lf_X12_muchAt_f_15 h q im m_phosphors c0 r0 w0 h0 hcw hrh j1 w1 k6 hj6 hk6 hw1 c_1 n_5 j2 w2 k15 hj15 hk15 hw2 c_7 n_11 x_14 ex_14) (hP.sub [0, 1] rfl)  hS (lv_sub hl [0, 2, 1, 3, 4, 5, 6, 7] rfl)
        exact lp15 (h0 + 1) 0 w1 H locs ls (by omega) (by omega) (lf_X12_muchAt_f_16 h q im m_phosphors c0 r0 w0 h0 hcw hrh j1 w1 k6 hj6 hk6 hw1 c_1 n_5) (hP.sub [0, 1] rfl)  hS (lv_sub hl [0, 1, 2, 3, 4, 5, 6, 7] rfl)
  exact lp6 (w0 + 1) 0 0 H locs ls (by omega) (by omega) (lf_X12_muchAt_f_17 h q im m_phosphors c0 r0 w0 h0 hcw hrh) (hP.sub [0, 1] rfl)  hS (lv_sub hl [0, 1, 2, 3, 4, 5, 6] rfl)

theorem lf_X12_body_f_3 (h : Nat) (q : Nat → Nat) (im : Nat → Int32) (m_phosphors : Nat → Int32) (n1 : Int32) (n2 : Int32) (n3 : Int32) (hce : cel m_phosphors) (c_2 : ¬ ((1 : Int32) ≤ n1 ∧ n1 ≤ 12)) : ((-1) : Int32) = boF m_phosphors n1 n2 n3 := by
  first | exact boF_n (fun w => absurd w.1 (by assumption)) | exact boF_n (fun w => absurd w.2.1 (by assumption)) | exact boF_n (fun w => absurd w.2.2 (by assumption)) | (refine boF_y (k := tn3) (by assumption) (by assumption) (by assumption) (by assumption) (by assumption) (by assumption) (by assumption) ?_; first | exact boA_0 (boT_of hce (by assumption) (by assumption) (bdF_l (by assumption) (by omega) hq1)) tn3e (by assumption) | exact boA_1 (boT_of hce (by assumption) (by assumption) (bdF_l (by assumption) (by omega) hq1)) tn3e (by assumption) | exact boA_2 (boT_of hce (by assumption) (by assumption) (bdF_l (by assumption) (by omega) hq1)) tn3e (by assumption) | exact boA_3 (boT_of hce (by assumption) (by assumption) (bdF_l (by assumption) (by omega) hq1)) tn3e (by assumption) | exact (bo_p (by assumption) (by assumption)).trans (boA_4 tn3e (by assumption) (by assumption) (by assumption) (by assumption) (by assumption)))
theorem lf_X12_body_f_6 (h : Nat) (q : Nat → Nat) (im : Nat → Int32) (m_phosphors : Nat → Int32) (n1 : Int32) (n2 : Int32) (n3 : Int32) (hce : cel m_phosphors) (c_2 : (1 : Int32) ≤ n1 ∧ n1 ≤ 12) (tn1 : Nat) (tn1a : 1 ≤ tn1) (tn1b : tn1 ≤ 12) (tn1e : n1 = nI tn1) (c_5 : ¬ ((1 : Int32) ≤ n2 ∧ n2 ≤ 6)) : ((-1) : Int32) = boF m_phosphors n1 n2 n3 := by
  first | exact boF_n (fun w => absurd w.1 (by assumption)) | exact boF_n (fun w => absurd w.2.1 (by assumption)) | exact boF_n (fun w => absurd w.2.2 (by assumption)) | (refine boF_y (k := tn3) (by assumption) (by assumption) (by assumption) (by assumption) (by assumption) (by assumption) (by assumption) ?_; first | exact boA_0 (boT_of hce (by assumption) (by assumption) (bdF_l (by assumption) (by omega) hq1)) tn3e (by assumption) | exact boA_1 (boT_of hce (by assumption) (by assumption) (bdF_l (by assumption) (by omega) hq1)) tn3e (by assumption) | exact boA_2 (boT_of hce (by assumption) (by assumption) (bdF_l (by assumption) (by omega) hq1)) tn3e (by assumption) | exact boA_3 (boT_of hce (by assumption) (by assumption) (bdF_l (by assumption) (by omega) hq1)) tn3e (by assumption) | exact (bo_p (by assumption) (by assumption)).trans (boA_4 tn3e (by assumption) (by assumption) (by assumption) (by assumption) (by assumption)))
theorem lf_X12_body_f_11 (h : Nat) (q : Nat → Nat) (im : Nat → Int32) (m_phosphors : Nat → Int32) (n1 : Int32) (n2 : Int32) (n3 : Int32) (hce : cel m_phosphors) (c_2 : (1 : Int32) ≤ n1 ∧ n1 ≤ 12) (tn1 : Nat) (tn1a : 1 ≤ tn1) (tn1b : tn1 ≤ 12) (tn1e : n1 = nI tn1) (c_5 : (1 : Int32) ≤ n2 ∧ n2 ≤ 6) (tn2 : Nat) (tn2a : 1 ≤ tn2) (tn2b : tn2 ≤ 6) (tn2e : n2 = nI tn2) (c_8 : (0 : Int32) ≤ n3 ∧ n3 ≤ 4) (tn3 : Nat) (tn3a : 0 ≤ tn3) (tn3b : tn3 ≤ 4) (tn3e : n3 = nI tn3) (j1 : Nat) (b1 : Int32) (b2 : Int32) (b3 : Int32) (b4 : Int32) (k53 : Nat) (hj53 : j1 ≤ (7 - tn2)) (hk53 : (7 - tn2) < j1 + (k53 + 1)) (hq1 : (b1, b2, b3, b4) = bdF (fun c r => amO m_phosphors c tn1 r tn2) (13 - tn1) 0 0 j1) (c_9 : 6 < nI (j1 + tn2)) : 6 < (j1 + tn2) := by
  exact (nI_ltI (a := 6) (b := (j1 + tn2)) (by omega) (by omega)).mp c_9
theorem lf_X12_body_f_14 (h : Nat) (q : Nat → Nat) (im : Nat → Int32) (m_phosphors : Nat → Int32) (n1 : Int32) (n2 : Int32) (n3 : Int32) (hce : cel m_phosphors) (c_2 : (1 : Int32) ≤ n1 ∧ n1 ≤ 12) (tn1 : Nat) (tn1a : 1 ≤ tn1) (tn1b : tn1 ≤ 12) (tn1e : n1 = nI tn1) (c_5 : (1 : Int32) ≤ n2 ∧ n2 ≤ 6) (tn2 : Nat) (tn2a : 1 ≤ tn2) (tn2b : tn2 ≤ 6) (tn2e : n2 = nI tn2) (c_8 : (0 : Int32) ≤ n3 ∧ n3 ≤ 4) (tn3 : Nat) (tn3a : 0 ≤ tn3) (tn3b : tn3 ≤ 4) (tn3e : n3 = nI tn3) (j1 : Nat) (b1 : Int32) (b2 : Int32) (b3 : Int32) (b4 : Int32) (k53 : Nat) (hj53 : j1 ≤ (7 - tn2)) (hk53 : (7 - tn2) < j1 + (k53 + 1)) (hq1 : (b1, b2, b3, b4) = bdF (fun c r => amO m_phosphors c tn1 r tn2) (13 - tn1) 0 0 j1) (c_9 : 6 < nI (j1 + tn2)) (n_10 : 6 < (j1 + tn2)) (c_12 : ¬ nI tn3 = 0) : tn3 ≠ 0 := by
  exact fun q => c_12 ((nI_eq (a := tn3) (b := 0) (by omega) (by omega)).mpr q)
theorem lf_X12_body_f_17 (h : Nat) (q : Nat → Nat) (im : Nat → Int32) (m_phosphors : Nat → Int32) (n1 : Int32) (n2 : Int32) (n3 : Int32) (hce : cel m_phosphors) (c_2 : (1 : Int32) ≤ n1 ∧ n1 ≤ 12) (tn1 : Nat) (tn1a : 1 ≤ tn1) (tn1b : tn1 ≤ 12) (tn1e : n1 = nI tn1) (c_5 : (1 : Int32) ≤ n2 ∧ n2 ≤ 6) (tn2 : Nat) (tn2a : 1 ≤ tn2) (tn2b : tn2 ≤ 6) (tn2e : n2 = nI tn2) (c_8 : (0 : Int32) ≤ n3 ∧ n3 ≤ 4) (tn3 : Nat) (tn3a : 0 ≤ tn3) (tn3b : tn3 ≤ 4) (tn3e : n3 = nI tn3) (j1 : Nat) (b1 : Int32) (b2 : Int32) (b3 : Int32) (b4 : Int32) (k53 : Nat) (hj53 : j1 ≤ (7 - tn2)) (hk53 : (7 - tn2) < j1 + (k53 + 1)) (hq1 : (b1, b2, b3, b4) = bdF (fun c r => amO m_phosphors c tn1 r tn2) (13 - tn1) 0 0 j1) (c_9 : 6 < nI (j1 + tn2)) (n_10 : 6 < (j1 + tn2)) (c_12 : ¬ nI tn3 = 0) (n_13 : tn3 ≠ 0) (c_15 : ¬ nI tn3 = 1) : tn3 ≠ 1 := by
  exact fun q => c_15 ((nI_eq (a := tn3) (b := 1) (by omega) (by omega)).mpr q)
theorem lf_X12_body_f_20 (h : Nat) (q : Nat → Nat) (im : Nat → Int32) (m_phosphors : Nat → Int32) (n1 : Int32) (n2 : Int32) (n3 : Int32) (hce : cel m_phosphors) (c_2 : (1 : Int32) ≤ n1 ∧ n1 ≤ 12) (tn1 : Nat) (tn1a : 1 ≤ tn1) (tn1b : tn1 ≤ 12) (tn1e : n1 = nI tn1) (c_5 : (1 : Int32) ≤ n2 ∧ n2 ≤ 6) (tn2 : Nat) (tn2a : 1 ≤ tn2) (tn2b : tn2 ≤ 6) (tn2e : n2 = nI tn2) (c_8 : (0 : Int32) ≤ n3 ∧ n3 ≤ 4) (tn3 : Nat) (tn3a : 0 ≤ tn3) (tn3b : tn3 ≤ 4) (tn3e : n3 = nI tn3) (j1 : Nat) (b1 : Int32) (b2 : Int32) (b3 : Int32) (b4 : Int32) (k53 : Nat) (hj53 : j1 ≤ (7 - tn2)) (hk53 : (7 - tn2) < j1 + (k53 + 1)) (hq1 : (b1, b2, b3, b4) = bdF (fun c r => amO m_phosphors c tn1 r tn2) (13 - tn1) 0 0 j1) (c_9 : 6 < nI (j1 + tn2)) (n_10 : 6 < (j1 + tn2)) (c_12 : ¬ nI tn3 = 0) (n_13 : tn3 ≠ 0) (c_15 : ¬ nI tn3 = 1) (n_16 : tn3 ≠ 1) (c_18 : ¬ nI tn3 = 2) : tn3 ≠ 2 := by
  exact fun q => c_18 ((nI_eq (a := tn3) (b := 2) (by omega) (by omega)).mpr q)
theorem lf_X12_body_f_23 (h : Nat) (q : Nat → Nat) (im : Nat → Int32) (m_phosphors : Nat → Int32) (n1 : Int32) (n2 : Int32) (n3 : Int32) (hce : cel m_phosphors) (c_2 : (1 : Int32) ≤ n1 ∧ n1 ≤ 12) (tn1 : Nat) (tn1a : 1 ≤ tn1) (tn1b : tn1 ≤ 12) (tn1e : n1 = nI tn1) (c_5 : (1 : Int32) ≤ n2 ∧ n2 ≤ 6) (tn2 : Nat) (tn2a : 1 ≤ tn2) (tn2b : tn2 ≤ 6) (tn2e : n2 = nI tn2) (c_8 : (0 : Int32) ≤ n3 ∧ n3 ≤ 4) (tn3 : Nat) (tn3a : 0 ≤ tn3) (tn3b : tn3 ≤ 4) (tn3e : n3 = nI tn3) (j1 : Nat) (b1 : Int32) (b2 : Int32) (b3 : Int32) (b4 : Int32) (k53 : Nat) (hj53 : j1 ≤ (7 - tn2)) (hk53 : (7 - tn2) < j1 + (k53 + 1)) (hq1 : (b1, b2, b3, b4) = bdF (fun c r => amO m_phosphors c tn1 r tn2) (13 - tn1) 0 0 j1) (c_9 : 6 < nI (j1 + tn2)) (n_10 : 6 < (j1 + tn2)) (c_12 : ¬ nI tn3 = 0) (n_13 : tn3 ≠ 0) (c_15 : ¬ nI tn3 = 1) (n_16 : tn3 ≠ 1) (c_18 : ¬ nI tn3 = 2) (n_19 : tn3 ≠ 2) (c_21 : ¬ nI tn3 = 3) : tn3 ≠ 3 := by
  exact fun q => c_21 ((nI_eq (a := tn3) (b := 3) (by omega) (by omega)).mpr q)
theorem lf_X12_body_f_24 (h : Nat) (q : Nat → Nat) (im : Nat → Int32) (m_phosphors : Nat → Int32) (n1 : Int32) (n2 : Int32) (n3 : Int32) (hce : cel m_phosphors) (c_2 : (1 : Int32) ≤ n1 ∧ n1 ≤ 12) (tn1 : Nat) (tn1a : 1 ≤ tn1) (tn1b : tn1 ≤ 12) (tn1e : n1 = nI tn1) (c_5 : (1 : Int32) ≤ n2 ∧ n2 ≤ 6) (tn2 : Nat) (tn2a : 1 ≤ tn2) (tn2b : tn2 ≤ 6) (tn2e : n2 = nI tn2) (c_8 : (0 : Int32) ≤ n3 ∧ n3 ≤ 4) (tn3 : Nat) (tn3a : 0 ≤ tn3) (tn3b : tn3 ≤ 4) (tn3e : n3 = nI tn3) (j1 : Nat) (b1 : Int32) (b2 : Int32) (b3 : Int32) (b4 : Int32) (k53 : Nat) (hj53 : j1 ≤ (7 - tn2)) (hk53 : (7 - tn2) < j1 + (k53 + 1)) (hq1 : (b1, b2, b3, b4) = bdF (fun c r => amO m_phosphors c tn1 r tn2) (13 - tn1) 0 0 j1) (c_9 : 6 < nI (j1 + tn2)) (n_10 : 6 < (j1 + tn2)) (c_12 : ¬ nI tn3 = 0) (n_13 : tn3 ≠ 0) (c_15 : ¬ nI tn3 = 1) (n_16 : tn3 ≠ 1) (c_18 : ¬ nI tn3 = 2) (n_19 : tn3 ≠ 2) (c_21 : ¬ nI tn3 = 3) (n_22 : tn3 ≠ 3) : tn1 ≤ 12 := by
  omega
theorem lf_X12_body_f_25 (h : Nat) (q : Nat → Nat) (im : Nat → Int32) (m_phosphors : Nat → Int32) (n1 : Int32) (n2 : Int32) (n3 : Int32) (hce : cel m_phosphors) (c_2 : (1 : Int32) ≤ n1 ∧ n1 ≤ 12) (tn1 : Nat) (tn1a : 1 ≤ tn1) (tn1b : tn1 ≤ 12) (tn1e : n1 = nI tn1) (c_5 : (1 : Int32) ≤ n2 ∧ n2 ≤ 6) (tn2 : Nat) (tn2a : 1 ≤ tn2) (tn2b : tn2 ≤ 6) (tn2e : n2 = nI tn2) (c_8 : (0 : Int32) ≤ n3 ∧ n3 ≤ 4) (tn3 : Nat) (tn3a : 0 ≤ tn3) (tn3b : tn3 ≤ 4) (tn3e : n3 = nI tn3) (j1 : Nat) (b1 : Int32) (b2 : Int32) (b3 : Int32) (b4 : Int32) (k53 : Nat) (hj53 : j1 ≤ (7 - tn2)) (hk53 : (7 - tn2) < j1 + (k53 + 1)) (hq1 : (b1, b2, b3, b4) = bdF (fun c r => amO m_phosphors c tn1 r tn2) (13 - tn1) 0 0 j1) (c_9 : 6 < nI (j1 + tn2)) (n_10 : 6 < (j1 + tn2)) (c_12 : ¬ nI tn3 = 0) (n_13 : tn3 ≠ 0) (c_15 : ¬ nI tn3 = 1) (n_16 : tn3 ≠ 1) (c_18 : ¬ nI tn3 = 2) (n_19 : tn3 ≠ 2) (c_21 : ¬ nI tn3 = 3) (n_22 : tn3 ≠ 3) : tn2 ≤ 6 := by
  omega
theorem lf_X12_body_f_26 (h : Nat) (q : Nat → Nat) (im : Nat → Int32) (m_phosphors : Nat → Int32) (n1 : Int32) (n2 : Int32) (n3 : Int32) (hce : cel m_phosphors) (c_2 : (1 : Int32) ≤ n1 ∧ n1 ≤ 12) (tn1 : Nat) (tn1a : 1 ≤ tn1) (tn1b : tn1 ≤ 12) (tn1e : n1 = nI tn1) (c_5 : (1 : Int32) ≤ n2 ∧ n2 ≤ 6) (tn2 : Nat) (tn2a : 1 ≤ tn2) (tn2b : tn2 ≤ 6) (tn2e : n2 = nI tn2) (c_8 : (0 : Int32) ≤ n3 ∧ n3 ≤ 4) (tn3 : Nat) (tn3a : 0 ≤ tn3) (tn3b : tn3 ≤ 4) (tn3e : n3 = nI tn3) (j1 : Nat) (b1 : Int32) (b2 : Int32) (b3 : Int32) (b4 : Int32) (k53 : Nat) (hj53 : j1 ≤ (7 - tn2)) (hk53 : (7 - tn2) < j1 + (k53 + 1)) (hq1 : (b1, b2, b3, b4) = bdF (fun c r => amO m_phosphors c tn1 r tn2) (13 - tn1) 0 0 j1) (c_9 : 6 < nI (j1 + tn2)) (n_10 : 6 < (j1 + tn2)) (c_12 : ¬ nI tn3 = 0) (n_13 : tn3 ≠ 0) (c_15 : ¬ nI tn3 = 1) (n_16 : tn3 ≠ 1) (c_18 : ¬ nI tn3 = 2) (n_19 : tn3 ≠ 2) (c_21 : ¬ nI tn3 = 3) (n_22 : tn3 ≠ 3) : (nI (((12 - tn1) + 1) * ((6 - tn2) + 1)) : Int32) = boF m_phosphors n1 n2 n3 := by
  first | exact boF_n (fun w => absurd w.1 (by assumption)) | exact boF_n (fun w => absurd w.2.1 (by assumption)) | exact boF_n (fun w => absurd w.2.2 (by assumption)) | (refine boF_y (k := tn3) (by assumption) (by assumption) (by assumption) (by assumption) (by assumption) (by assumption) (by assumption) ?_; first | exact boA_0 (boT_of hce (by assumption) (by assumption) (bdF_l (by assumption) (by omega) hq1)) tn3e (by assumption) | exact boA_1 (boT_of hce (by assumption) (by assumption) (bdF_l (by assumption) (by omega) hq1)) tn3e (by assumption) | exact boA_2 (boT_of hce (by assumption) (by assumption) (bdF_l (by assumption) (by omega) hq1)) tn3e (by assumption) | exact boA_3 (boT_of hce (by assumption) (by assumption) (bdF_l (by assumption) (by omega) hq1)) tn3e (by assumption) | exact (bo_p (by assumption) (by assumption)).trans (boA_4 tn3e (by assumption) (by assumption) (by assumption) (by assumption) (by assumption)))
theorem lf_X12_body_f_28 (h : Nat) (q : Nat → Nat) (im : Nat → Int32) (m_phosphors : Nat → Int32) (n1 : Int32) (n2 : Int32) (n3 : Int32) (hce : cel m_phosphors) (c_2 : (1 : Int32) ≤ n1 ∧ n1 ≤ 12) (tn1 : Nat) (tn1a : 1 ≤ tn1) (tn1b : tn1 ≤ 12) (tn1e : n1 = nI tn1) (c_5 : (1 : Int32) ≤ n2 ∧ n2 ≤ 6) (tn2 : Nat) (tn2a : 1 ≤ tn2) (tn2b : tn2 ≤ 6) (tn2e : n2 = nI tn2) (c_8 : (0 : Int32) ≤ n3 ∧ n3 ≤ 4) (tn3 : Nat) (tn3a : 0 ≤ tn3) (tn3b : tn3 ≤ 4) (tn3e : n3 = nI tn3) (j1 : Nat) (b1 : Int32) (b2 : Int32) (b3 : Int32) (b4 : Int32) (k53 : Nat) (hj53 : j1 ≤ (7 - tn2)) (hk53 : (7 - tn2) < j1 + (k53 + 1)) (hq1 : (b1, b2, b3, b4) = bdF (fun c r => amO m_phosphors c tn1 r tn2) (13 - tn1) 0 0 j1) (c_9 : 6 < nI (j1 + tn2)) (n_10 : 6 < (j1 + tn2)) (c_12 : ¬ nI tn3 = 0) (n_13 : tn3 ≠ 0) (c_15 : ¬ nI tn3 = 1) (n_16 : tn3 ≠ 1) (c_18 : ¬ nI tn3 = 2) (n_19 : tn3 ≠ 2) (c_21 : nI tn3 = 3) : tn3 = 3 := by
  exact (nI_eq (a := tn3) (b := 3) (by omega) (by omega)).mp c_21
theorem lf_X12_body_f_29 (h : Nat) (q : Nat → Nat) (im : Nat → Int32) (m_phosphors : Nat → Int32) (n1 : Int32) (n2 : Int32) (n3 : Int32) (hce : cel m_phosphors) (c_2 : (1 : Int32) ≤ n1 ∧ n1 ≤ 12) (tn1 : Nat) (tn1a : 1 ≤ tn1) (tn1b : tn1 ≤ 12) (tn1e : n1 = nI tn1) (c_5 : (1 : Int32) ≤ n2 ∧ n2 ≤ 6) (tn2 : Nat) (tn2a : 1 ≤ tn2) (tn2b : tn2 ≤ 6) (tn2e : n2 = nI tn2) (c_8 : (0 : Int32) ≤ n3 ∧ n3 ≤ 4) (tn3 : Nat) (tn3a : 0 ≤ tn3) (tn3b : tn3 ≤ 4) (tn3e : n3 = nI tn3) (j1 : Nat) (b1 : Int32) (b2 : Int32) (b3 : Int32) (b4 : Int32) (k53 : Nat) (hj53 : j1 ≤ (7 - tn2)) (hk53 : (7 - tn2) < j1 + (k53 + 1)) (hq1 : (b1, b2, b3, b4) = bdF (fun c r => amO m_phosphors c tn1 r tn2) (13 - tn1) 0 0 j1) (c_9 : 6 < nI (j1 + tn2)) (n_10 : 6 < (j1 + tn2)) (c_12 : ¬ nI tn3 = 0) (n_13 : tn3 ≠ 0) (c_15 : ¬ nI tn3 = 1) (n_16 : tn3 ≠ 1) (c_18 : ¬ nI tn3 = 2) (n_19 : tn3 ≠ 2) (c_21 : nI tn3 = 3) (n_27 : tn3 = 3) : (b4 : Int32) = boF m_phosphors n1 n2 n3 := by
  first | exact boF_n (fun w => absurd w.1 (by assumption)) | exact boF_n (fun w => absurd w.2.1 (by assumption)) | exact boF_n (fun w => absurd w.2.2 (by assumption)) | (refine boF_y (k := tn3) (by assumption) (by assumption) (by assumption) (by assumption) (by assumption) (by assumption) (by assumption) ?_; first | exact boA_0 (boT_of hce (by assumption) (by assumption) (bdF_l (by assumption) (by omega) hq1)) tn3e (by assumption) | exact boA_1 (boT_of hce (by assumption) (by assumption) (bdF_l (by assumption) (by omega) hq1)) tn3e (by assumption) | exact boA_2 (boT_of hce (by assumption) (by assumption) (bdF_l (by assumption) (by omega) hq1)) tn3e (by assumption) | exact boA_3 (boT_of hce (by assumption) (by assumption) (bdF_l (by assumption) (by omega) hq1)) tn3e (by assumption) | exact (bo_p (by assumption) (by assumption)).trans (boA_4 tn3e (by assumption) (by assumption) (by assumption) (by assumption) (by assumption)))
theorem lf_X12_body_f_31 (h : Nat) (q : Nat → Nat) (im : Nat → Int32) (m_phosphors : Nat → Int32) (n1 : Int32) (n2 : Int32) (n3 : Int32) (hce : cel m_phosphors) (c_2 : (1 : Int32) ≤ n1 ∧ n1 ≤ 12) (tn1 : Nat) (tn1a : 1 ≤ tn1) (tn1b : tn1 ≤ 12) (tn1e : n1 = nI tn1) (c_5 : (1 : Int32) ≤ n2 ∧ n2 ≤ 6) (tn2 : Nat) (tn2a : 1 ≤ tn2) (tn2b : tn2 ≤ 6) (tn2e : n2 = nI tn2) (c_8 : (0 : Int32) ≤ n3 ∧ n3 ≤ 4) (tn3 : Nat) (tn3a : 0 ≤ tn3) (tn3b : tn3 ≤ 4) (tn3e : n3 = nI tn3) (j1 : Nat) (b1 : Int32) (b2 : Int32) (b3 : Int32) (b4 : Int32) (k53 : Nat) (hj53 : j1 ≤ (7 - tn2)) (hk53 : (7 - tn2) < j1 + (k53 + 1)) (hq1 : (b1, b2, b3, b4) = bdF (fun c r => amO m_phosphors c tn1 r tn2) (13 - tn1) 0 0 j1) (c_9 : 6 < nI (j1 + tn2)) (n_10 : 6 < (j1 + tn2)) (c_12 : ¬ nI tn3 = 0) (n_13 : tn3 ≠ 0) (c_15 : ¬ nI tn3 = 1) (n_16 : tn3 ≠ 1) (c_18 : nI tn3 = 2) : tn3 = 2 := by
  exact (nI_eq (a := tn3) (b := 2) (by omega) (by omega)).mp c_18
theorem lf_X12_body_f_32 (h : Nat) (q : Nat → Nat) (im : Nat → Int32) (m_phosphors : Nat → Int32) (n1 : Int32) (n2 : Int32) (n3 : Int32) (hce : cel m_phosphors) (c_2 : (1 : Int32) ≤ n1 ∧ n1 ≤ 12) (tn1 : Nat) (tn1a : 1 ≤ tn1) (tn1b : tn1 ≤ 12) (tn1e : n1 = nI tn1) (c_5 : (1 : Int32) ≤ n2 ∧ n2 ≤ 6) (tn2 : Nat) (tn2a : 1 ≤ tn2) (tn2b : tn2 ≤ 6) (tn2e : n2 = nI tn2) (c_8 : (0 : Int32) ≤ n3 ∧ n3 ≤ 4) (tn3 : Nat) (tn3a : 0 ≤ tn3) (tn3b : tn3 ≤ 4) (tn3e : n3 = nI tn3) (j1 : Nat) (b1 : Int32) (b2 : Int32) (b3 : Int32) (b4 : Int32) (k53 : Nat) (hj53 : j1 ≤ (7 - tn2)) (hk53 : (7 - tn2) < j1 + (k53 + 1)) (hq1 : (b1, b2, b3, b4) = bdF (fun c r => amO m_phosphors c tn1 r tn2) (13 - tn1) 0 0 j1) (c_9 : 6 < nI (j1 + tn2)) (n_10 : 6 < (j1 + tn2)) (c_12 : ¬ nI tn3 = 0) (n_13 : tn3 ≠ 0) (c_15 : ¬ nI tn3 = 1) (n_16 : tn3 ≠ 1) (c_18 : nI tn3 = 2) (n_30 : tn3 = 2) : (b1 : Int32) = boF m_phosphors n1 n2 n3 := by
  first | exact boF_n (fun w => absurd w.1 (by assumption)) | exact boF_n (fun w => absurd w.2.1 (by assumption)) | exact boF_n (fun w => absurd w.2.2 (by assumption)) | (refine boF_y (k := tn3) (by assumption) (by assumption) (by assumption) (by assumption) (by assumption) (by assumption) (by assumption) ?_; first | exact boA_0 (boT_of hce (by assumption) (by assumption) (bdF_l (by assumption) (by omega) hq1)) tn3e (by assumption) | exact boA_1 (boT_of hce (by assumption) (by assumption) (bdF_l (by assumption) (by omega) hq1)) tn3e (by assumption) | exact boA_2 (boT_of hce (by assumption) (by assumption) (bdF_l (by assumption) (by omega) hq1)) tn3e (by assumption) | exact boA_3 (boT_of hce (by assumption) (by assumption) (bdF_l (by assumption) (by omega) hq1)) tn3e (by assumption) | exact (bo_p (by assumption) (by assumption)).trans (boA_4 tn3e (by assumption) (by assumption) (by assumption) (by assumption) (by assumption)))
theorem lf_X12_body_f_34 (h : Nat) (q : Nat → Nat) (im : Nat → Int32) (m_phosphors : Nat → Int32) (n1 : Int32) (n2 : Int32) (n3 : Int32) (hce : cel m_phosphors) (c_2 : (1 : Int32) ≤ n1 ∧ n1 ≤ 12) (tn1 : Nat) (tn1a : 1 ≤ tn1) (tn1b : tn1 ≤ 12) (tn1e : n1 = nI tn1) (c_5 : (1 : Int32) ≤ n2 ∧ n2 ≤ 6) (tn2 : Nat) (tn2a : 1 ≤ tn2) (tn2b : tn2 ≤ 6) (tn2e : n2 = nI tn2) (c_8 : (0 : Int32) ≤ n3 ∧ n3 ≤ 4) (tn3 : Nat) (tn3a : 0 ≤ tn3) (tn3b : tn3 ≤ 4) (tn3e : n3 = nI tn3) (j1 : Nat) (b1 : Int32) (b2 : Int32) (b3 : Int32) (b4 : Int32) (k53 : Nat) (hj53 : j1 ≤ (7 - tn2)) (hk53 : (7 - tn2) < j1 + (k53 + 1)) (hq1 : (b1, b2, b3, b4) = bdF (fun c r => amO m_phosphors c tn1 r tn2) (13 - tn1) 0 0 j1) (c_9 : 6 < nI (j1 + tn2)) (n_10 : 6 < (j1 + tn2)) (c_12 : ¬ nI tn3 = 0) (n_13 : tn3 ≠ 0) (c_15 : nI tn3 = 1) : tn3 = 1 := by
  exact (nI_eq (a := tn3) (b := 1) (by omega) (by omega)).mp c_15
theorem lf_X12_body_f_35 (h : Nat) (q : Nat → Nat) (im : Nat → Int32) (m_phosphors : Nat → Int32) (n1 : Int32) (n2 : Int32) (n3 : Int32) (hce : cel m_phosphors) (c_2 : (1 : Int32) ≤ n1 ∧ n1 ≤ 12) (tn1 : Nat) (tn1a : 1 ≤ tn1) (tn1b : tn1 ≤ 12) (tn1e : n1 = nI tn1) (c_5 : (1 : Int32) ≤ n2 ∧ n2 ≤ 6) (tn2 : Nat) (tn2a : 1 ≤ tn2) (tn2b : tn2 ≤ 6) (tn2e : n2 = nI tn2) (c_8 : (0 : Int32) ≤ n3 ∧ n3 ≤ 4) (tn3 : Nat) (tn3a : 0 ≤ tn3) (tn3b : tn3 ≤ 4) (tn3e : n3 = nI tn3) (j1 : Nat) (b1 : Int32) (b2 : Int32) (b3 : Int32) (b4 : Int32) (k53 : Nat) (hj53 : j1 ≤ (7 - tn2)) (hk53 : (7 - tn2) < j1 + (k53 + 1)) (hq1 : (b1, b2, b3, b4) = bdF (fun c r => amO m_phosphors c tn1 r tn2) (13 - tn1) 0 0 j1) (c_9 : 6 < nI (j1 + tn2)) (n_10 : 6 < (j1 + tn2)) (c_12 : ¬ nI tn3 = 0) (n_13 : tn3 ≠ 0) (c_15 : nI tn3 = 1) (n_33 : tn3 = 1) : (b3 : Int32) = boF m_phosphors n1 n2 n3 := by
  first | exact boF_n (fun w => absurd w.1 (by assumption)) | exact boF_n (fun w => absurd w.2.1 (by assumption)) | exact boF_n (fun w => absurd w.2.2 (by assumption)) | (refine boF_y (k := tn3) (by assumption) (by assumption) (by assumption) (by assumption) (by assumption) (by assumption) (by assumption) ?_; first | exact boA_0 (boT_of hce (by assumption) (by assumption) (bdF_l (by assumption) (by omega) hq1)) tn3e (by assumption) | exact boA_1 (boT_of hce (by assumption) (by assumption) (bdF_l (by assumption) (by omega) hq1)) tn3e (by assumption) | exact boA_2 (boT_of hce (by assumption) (by assumption) (bdF_l (by assumption) (by omega) hq1)) tn3e (by assumption) | exact boA_3 (boT_of hce (by assumption) (by assumption) (bdF_l (by assumption) (by omega) hq1)) tn3e (by assumption) | exact (bo_p (by assumption) (by assumption)).trans (boA_4 tn3e (by assumption) (by assumption) (by assumption) (by assumption) (by assumption)))
theorem lf_X12_body_f_37 (h : Nat) (q : Nat → Nat) (im : Nat → Int32) (m_phosphors : Nat → Int32) (n1 : Int32) (n2 : Int32) (n3 : Int32) (hce : cel m_phosphors) (c_2 : (1 : Int32) ≤ n1 ∧ n1 ≤ 12) (tn1 : Nat) (tn1a : 1 ≤ tn1) (tn1b : tn1 ≤ 12) (tn1e : n1 = nI tn1) (c_5 : (1 : Int32) ≤ n2 ∧ n2 ≤ 6) (tn2 : Nat) (tn2a : 1 ≤ tn2) (tn2b : tn2 ≤ 6) (tn2e : n2 = nI tn2) (c_8 : (0 : Int32) ≤ n3 ∧ n3 ≤ 4) (tn3 : Nat) (tn3a : 0 ≤ tn3) (tn3b : tn3 ≤ 4) (tn3e : n3 = nI tn3) (j1 : Nat) (b1 : Int32) (b2 : Int32) (b3 : Int32) (b4 : Int32) (k53 : Nat) (hj53 : j1 ≤ (7 - tn2)) (hk53 : (7 - tn2) < j1 + (k53 + 1)) (hq1 : (b1, b2, b3, b4) = bdF (fun c r => amO m_phosphors c tn1 r tn2) (13 - tn1) 0 0 j1) (c_9 : 6 < nI (j1 + tn2)) (n_10 : 6 < (j1 + tn2)) (c_12 : nI tn3 = 0) : tn3 = 0 := by
  exact (nI_eq (a := tn3) (b := 0) (by omega) (by omega)).mp c_12
theorem lf_X12_body_f_38 (h : Nat) (q : Nat → Nat) (im : Nat → Int32) (m_phosphors : Nat → Int32) (n1 : Int32) (n2 : Int32) (n3 : Int32) (hce : cel m_phosphors) (c_2 : (1 : Int32) ≤ n1 ∧ n1 ≤ 12) (tn1 : Nat) (tn1a : 1 ≤ tn1) (tn1b : tn1 ≤ 12) (tn1e : n1 = nI tn1) (c_5 : (1 : Int32) ≤ n2 ∧ n2 ≤ 6) (tn2 : Nat) (tn2a : 1 ≤ tn2) (tn2b : tn2 ≤ 6) (tn2e : n2 = nI tn2) (c_8 : (0 : Int32) ≤ n3 ∧ n3 ≤ 4) (tn3 : Nat) (tn3a : 0 ≤ tn3) (tn3b : tn3 ≤ 4) (tn3e : n3 = nI tn3) (j1 : Nat) (b1 : Int32) (b2 : Int32) (b3 : Int32) (b4 : Int32) (k53 : Nat) (hj53 : j1 ≤ (7 - tn2)) (hk53 : (7 - tn2) < j1 + (k53 + 1)) (hq1 : (b1, b2, b3, b4) = bdF (fun c r => amO m_phosphors c tn1 r tn2) (13 - tn1) 0 0 j1) (c_9 : 6 < nI (j1 + tn2)) (n_10 : 6 < (j1 + tn2)) (c_12 : nI tn3 = 0) (n_36 : tn3 = 0) : (b2 : Int32) = boF m_phosphors n1 n2 n3 := by
  first | exact boF_n (fun w => absurd w.1 (by assumption)) | exact boF_n (fun w => absurd w.2.1 (by assumption)) | exact boF_n (fun w => absurd w.2.2 (by assumption)) | (refine boF_y (k := tn3) (by assumption) (by assumption) (by assumption) (by assumption) (by assumption) (by assumption) (by assumption) ?_; first | exact boA_0 (boT_of hce (by assumption) (by assumption) (bdF_l (by assumption) (by omega) hq1)) tn3e (by assumption) | exact boA_1 (boT_of hce (by assumption) (by assumption) (bdF_l (by assumption) (by omega) hq1)) tn3e (by assumption) | exact boA_2 (boT_of hce (by assumption) (by assumption) (bdF_l (by assumption) (by omega) hq1)) tn3e (by assumption) | exact boA_3 (boT_of hce (by assumption) (by assumption) (bdF_l (by assumption) (by omega) hq1)) tn3e (by assumption) | exact (bo_p (by assumption) (by assumption)).trans (boA_4 tn3e (by assumption) (by assumption) (by assumption) (by assumption) (by assumption)))
theorem lf_X12_body_f_40 (h : Nat) (q : Nat → Nat) (im : Nat → Int32) (m_phosphors : Nat → Int32) (n1 : Int32) (n2 : Int32) (n3 : Int32) (hce : cel m_phosphors) (c_2 : (1 : Int32) ≤ n1 ∧ n1 ≤ 12) (tn1 : Nat) (tn1a : 1 ≤ tn1) (tn1b : tn1 ≤ 12) (tn1e : n1 = nI tn1) (c_5 : (1 : Int32) ≤ n2 ∧ n2 ≤ 6) (tn2 : Nat) (tn2a : 1 ≤ tn2) (tn2b : tn2 ≤ 6) (tn2e : n2 = nI tn2) (c_8 : (0 : Int32) ≤ n3 ∧ n3 ≤ 4) (tn3 : Nat) (tn3a : 0 ≤ tn3) (tn3b : tn3 ≤ 4) (tn3e : n3 = nI tn3) (j1 : Nat) (b1 : Int32) (b2 : Int32) (b3 : Int32) (b4 : Int32) (k53 : Nat) (hj53 : j1 ≤ (7 - tn2)) (hk53 : (7 - tn2) < j1 + (k53 + 1)) (hq1 : (b1, b2, b3, b4) = bdF (fun c r => amO m_phosphors c tn1 r tn2) (13 - tn1) 0 0 j1) (c_9 : ¬ 6 < nI (j1 + tn2)) : (j1 + tn2) ≤ 6 := by
  exact Nat.le_of_not_lt (fun q => c_9 ((nI_ltI (a := 6) (b := (j1 + tn2)) (by omega) (by omega)).mpr q))
theorem lf_X12_body_f_43 (h : Nat) (q : Nat → Nat) (im : Nat → Int32) (m_phosphors : Nat → Int32) (n1 : Int32) (n2 : Int32) (n3 : Int32) (hce : cel m_phosphors) (c_2 : (1 : Int32) ≤ n1 ∧ n1 ≤ 12) (tn1 : Nat) (tn1a : 1 ≤ tn1) (tn1b : tn1 ≤ 12) (tn1e : n1 = nI tn1) (c_5 : (1 : Int32) ≤ n2 ∧ n2 ≤ 6) (tn2 : Nat) (tn2a : 1 ≤ tn2) (tn2b : tn2 ≤ 6) (tn2e : n2 = nI tn2) (c_8 : (0 : Int32) ≤ n3 ∧ n3 ≤ 4) (tn3 : Nat) (tn3a : 0 ≤ tn3) (tn3b : tn3 ≤ 4) (tn3e : n3 = nI tn3) (j1 : Nat) (b1 : Int32) (b2 : Int32) (b3 : Int32) (b4 : Int32) (k53 : Nat) (hj53 : j1 ≤ (7 - tn2)) (hk53 : (7 - tn2) < j1 + (k53 + 1)) (hq1 : (b1, b2, b3, b4) = bdF (fun c r => amO m_phosphors c tn1 r tn2) (13 - tn1) 0 0 j1) (c_9 : ¬ 6 < nI (j1 + tn2)) (n_39 : (j1 + tn2) ≤ 6) (j2 : Nat) (c1 : Int32) (c2 : Int32) (c3 : Int32) (c4 : Int32) (k65 : Nat) (hj65 : j2 ≤ (13 - tn1)) (hk65 : (13 - tn1) < j2 + (k65 + 1)) (hq2 : (c1, c2, c3, c4) = bdI (fun c r => amO m_phosphors c tn1 r tn2) j1 (b1, b2, b3, b4) j2) (c_41 : 12 < nI (j2 + tn1)) : 12 < (j2 + tn1) := by
  exact (nI_ltI (a := 12) (b := (j2 + tn1)) (by omega) (by omega)).mp c_41
theorem lf_X12_body_f_44 (h : Nat) (q : Nat → Nat) (im : Nat → Int32) (m_phosphors : Nat → Int32) (n1 : Int32) (n2 : Int32) (n3 : Int32) (hce : cel m_phosphors) (c_2 : (1 : Int32) ≤ n1 ∧ n1 ≤ 12) (tn1 : Nat) (tn1a : 1 ≤ tn1) (tn1b : tn1 ≤ 12) (tn1e : n1 = nI tn1) (c_5 : (1 : Int32) ≤ n2 ∧ n2 ≤ 6) (tn2 : Nat) (tn2a : 1 ≤ tn2) (tn2b : tn2 ≤ 6) (tn2e : n2 = nI tn2) (c_8 : (0 : Int32) ≤ n3 ∧ n3 ≤ 4) (tn3 : Nat) (tn3a : 0 ≤ tn3) (tn3b : tn3 ≤ 4) (tn3e : n3 = nI tn3) (j1 : Nat) (b1 : Int32) (b2 : Int32) (b3 : Int32) (b4 : Int32) (k53 : Nat) (hj53 : j1 ≤ (7 - tn2)) (hk53 : (7 - tn2) < j1 + (k53 + 1)) (hq1 : (b1, b2, b3, b4) = bdF (fun c r => amO m_phosphors c tn1 r tn2) (13 - tn1) 0 0 j1) (c_9 : ¬ 6 < nI (j1 + tn2)) (n_39 : (j1 + tn2) ≤ 6) (j2 : Nat) (c1 : Int32) (c2 : Int32) (c3 : Int32) (c4 : Int32) (k65 : Nat) (hj65 : j2 ≤ (13 - tn1)) (hk65 : (13 - tn1) < j2 + (k65 + 1)) (hq2 : (c1, c2, c3, c4) = bdI (fun c r => amO m_phosphors c tn1 r tn2) j1 (b1, b2, b3, b4) j2) (c_41 : 12 < nI (j2 + tn1)) (n_42 : 12 < (j2 + tn1)) : (c1, c2, c3, c4) = bdF (fun c r => amO m_phosphors c tn1 r tn2) (13 - tn1) 0 0 (j1 + 1) := by
  first | contradiction | (refine bdI_s hq2 ?_; first | exact wg_1 (by assumption) | exact wg_2 (by assumption) (by assumption) (by assumption) | exact wg_3 (by assumption) (by assumption) (by assumption) | exact wg_4 (by assumption) rfl (by assumption) (by assumption)) | exact bdF_s (by omega) (by omega) hq1 hq2 | exact hq1 | rfl
theorem lf_X12_body_f_46 (h : Nat) (q : Nat → Nat) (im : Nat → Int32) (m_phosphors : Nat → Int32) (n1 : Int32) (n2 : Int32) (n3 : Int32) (hce : cel m_phosphors) (c_2 : (1 : Int32) ≤ n1 ∧ n1 ≤ 12) (tn1 : Nat) (tn1a : 1 ≤ tn1) (tn1b : tn1 ≤ 12) (tn1e : n1 = nI tn1) (c_5 : (1 : Int32) ≤ n2 ∧ n2 ≤ 6) (tn2 : Nat) (tn2a : 1 ≤ tn2) (tn2b : tn2 ≤ 6) (tn2e : n2 = nI tn2) (c_8 : (0 : Int32) ≤ n3 ∧ n3 ≤ 4) (tn3 : Nat) (tn3a : 0 ≤ tn3) (tn3b : tn3 ≤ 4) (tn3e : n3 = nI tn3) (j1 : Nat) (b1 : Int32) (b2 : Int32) (b3 : Int32) (b4 : Int32) (k53 : Nat) (hj53 : j1 ≤ (7 - tn2)) (hk53 : (7 - tn2) < j1 + (k53 + 1)) (hq1 : (b1, b2, b3, b4) = bdF (fun c r => amO m_phosphors c tn1 r tn2) (13 - tn1) 0 0 j1) (c_9 : ¬ 6 < nI (j1 + tn2)) (n_39 : (j1 + tn2) ≤ 6) (j2 : Nat) (c1 : Int32) (c2 : Int32) (c3 : Int32) (c4 : Int32) (k65 : Nat) (hj65 : j2 ≤ (13 - tn1)) (hk65 : (13 - tn1) < j2 + (k65 + 1)) (hq2 : (c1, c2, c3, c4) = bdI (fun c r => amO m_phosphors c tn1 r tn2) j1 (b1, b2, b3, b4) j2) (c_41 : ¬ 12 < nI (j2 + tn1)) : (j2 + tn1) ≤ 12 := by
  exact Nat.le_of_not_lt (fun q => c_41 ((nI_ltI (a := 12) (b := (j2 + tn1)) (by omega) (by omega)).mpr q))
theorem lf_X12_body_f_47 (h : Nat) (q : Nat → Nat) (im : Nat → Int32) (m_phosphors : Nat → Int32) (n1 : Int32) (n2 : Int32) (n3 : Int32) (hce : cel m_phosphors) (c_2 : (1 : Int32) ≤ n1 ∧ n1 ≤ 12) (tn1 : Nat) (tn1a : 1 ≤ tn1) (tn1b : tn1 ≤ 12) (tn1e : n1 = nI tn1) (c_5 : (1 : Int32) ≤ n2 ∧ n2 ≤ 6) (tn2 : Nat) (tn2a : 1 ≤ tn2) (tn2b : tn2 ≤ 6) (tn2e : n2 = nI tn2) (c_8 : (0 : Int32) ≤ n3 ∧ n3 ≤ 4) (tn3 : Nat) (tn3a : 0 ≤ tn3) (tn3b : tn3 ≤ 4) (tn3e : n3 = nI tn3) (j1 : Nat) (b1 : Int32) (b2 : Int32) (b3 : Int32) (b4 : Int32) (k53 : Nat) (hj53 : j1 ≤ (7 - tn2)) (hk53 : (7 - tn2) < j1 + (k53 + 1)) (hq1 : (b1, b2, b3, b4) = bdF (fun c r => amO m_phosphors c tn1 r tn2) (13 - tn1) 0 0 j1) (c_9 : ¬ 6 < nI (j1 + tn2)) (n_39 : (j1 + tn2) ≤ 6) (j2 : Nat) (c1 : Int32) (c2 : Int32) (c3 : Int32) (c4 : Int32) (k65 : Nat) (hj65 : j2 ≤ (13 - tn1)) (hk65 : (13 - tn1) < j2 + (k65 + 1)) (hq2 : (c1, c2, c3, c4) = bdI (fun c r => amO m_phosphors c tn1 r tn2) j1 (b1, b2, b3, b4) j2) (c_41 : ¬ 12 < nI (j2 + tn1)) (n_45 : (j2 + tn1) ≤ 12) : j2 + tn1 ≤ 12 := by
  first | assumption | omega | decide | rfl
theorem lf_X12_body_f_48 (h : Nat) (q : Nat → Nat) (im : Nat → Int32) (m_phosphors : Nat → Int32) (n1 : Int32) (n2 : Int32) (n3 : Int32) (hce : cel m_phosphors) (c_2 : (1 : Int32) ≤ n1 ∧ n1 ≤ 12) (tn1 : Nat) (tn1a : 1 ≤ tn1) (tn1b : tn1 ≤ 12) (tn1e : n1 = nI tn1) (c_5 : (1 : Int32) ≤ n2 ∧ n2 ≤ 6) (tn2 : Nat) (tn2a : 1 ≤ tn2) (tn2b : tn2 ≤ 6) (tn2e : n2 = nI tn2) (c_8 : (0 : Int32) ≤ n3 ∧ n3 ≤ 4) (tn3 : Nat) (tn3a : 0 ≤ tn3) (tn3b : tn3 ≤ 4) (tn3e : n3 = nI tn3) (j1 : Nat) (b1 : Int32) (b2 : Int32) (b3 : Int32) (b4 : Int32) (k53 : Nat) (hj53 : j1 ≤ (7 - tn2)) (hk53 : (7 - tn2) < j1 + (k53 + 1)) (hq1 : (b1, b2, b3, b4) = bdF (fun c r => amO m_phosphors c tn1 r tn2) (13 - tn1) 0 0 j1) (c_9 : ¬ 6 < nI (j1 + tn2)) (n_39 : (j1 + tn2) ≤ 6) (j2 : Nat) (c1 : Int32) (c2 : Int32) (c3 : Int32) (c4 : Int32) (k65 : Nat) (hj65 : j2 ≤ (13 - tn1)) (hk65 : (13 - tn1) < j2 + (k65 + 1)) (hq2 : (c1, c2, c3, c4) = bdI (fun c r => amO m_phosphors c tn1 r tn2) j1 (b1, b2, b3, b4) j2) (c_41 : ¬ 12 < nI (j2 + tn1)) (n_45 : (j2 + tn1) ≤ 12) : j1 + tn2 ≤ 6 := by
  first | assumption | omega | decide | rfl
theorem lf_X12_body_f_53 (h : Nat) (q : Nat → Nat) (im : Nat → Int32) (m_phosphors : Nat → Int32) (n1 : Int32) (n2 : Int32) (n3 : Int32) (hce : cel m_phosphors) (c_2 : (1 : Int32) ≤ n1 ∧ n1 ≤ 12) (tn1 : Nat) (tn1a : 1 ≤ tn1) (tn1b : tn1 ≤ 12) (tn1e : n1 = nI tn1) (c_5 : (1 : Int32) ≤ n2 ∧ n2 ≤ 6) (tn2 : Nat) (tn2a : 1 ≤ tn2) (tn2b : tn2 ≤ 6) (tn2e : n2 = nI tn2) (c_8 : (0 : Int32) ≤ n3 ∧ n3 ≤ 4) (tn3 : Nat) (tn3a : 0 ≤ tn3) (tn3b : tn3 ≤ 4) (tn3e : n3 = nI tn3) (j1 : Nat) (b1 : Int32) (b2 : Int32) (b3 : Int32) (b4 : Int32) (k53 : Nat) (hj53 : j1 ≤ (7 - tn2)) (hk53 : (7 - tn2) < j1 + (k53 + 1)) (hq1 : (b1, b2, b3, b4) = bdF (fun c r => amO m_phosphors c tn1 r tn2) (13 - tn1) 0 0 j1) (c_9 : ¬ 6 < nI (j1 + tn2)) (n_39 : (j1 + tn2) ≤ 6) (j2 : Nat) (c1 : Int32) (c2 : Int32) (c3 : Int32) (c4 : Int32) (k65 : Nat) (hj65 : j2 ≤ (13 - tn1)) (hk65 : (13 - tn1) < j2 + (k65 + 1)) (hq2 : (c1, c2, c3, c4) = bdI (fun c r => amO m_phosphors c tn1 r tn2) j1 (b1, b2, b3, b4) j2) (c_41 : ¬ 12 < nI (j2 + tn1)) (n_45 : (j2 + tn1) ≤ 12) (c_50 : amO m_phosphors j2 tn1 j1 tn2 ≤ c1) (c_51 : ¬ amO m_phosphors j2 tn1 j1 tn2 = c1) (x_52 : Int32) (ex_52 : x_52 = c4 + 0) : (c1, c2, c3, x_52) = bdI (fun c r => amO m_phosphors c tn1 r tn2) j1 (b1, b2, b3, b4) (j2 + 1) := by
  first | contradiction | (refine bdI_s hq2 ?_; first | exact wg_1 (by assumption) | exact wg_2 (by assumption) (by assumption) (by assumption) | exact wg_3 (by assumption) (by assumption) (by assumption) | exact wg_4 (by assumption) rfl (by assumption) (by assumption)) | exact bdF_s (by omega) (by omega) hq1 hq2 | exact hq1 | rfl
theorem lf_X12_body_f_55 (h : Nat) (q : Nat → Nat) (im : Nat → Int32) (m_phosphors : Nat → Int32) (n1 : Int32) (n2 : Int32) (n3 : Int32) (hce : cel m_phosphors) (c_2 : (1 : Int32) ≤ n1 ∧ n1 ≤ 12) (tn1 : Nat) (tn1a : 1 ≤ tn1) (tn1b : tn1 ≤ 12) (tn1e : n1 = nI tn1) (c_5 : (1 : Int32) ≤ n2 ∧ n2 ≤ 6) (tn2 : Nat) (tn2a : 1 ≤ tn2) (tn2b : tn2 ≤ 6) (tn2e : n2 = nI tn2) (c_8 : (0 : Int32) ≤ n3 ∧ n3 ≤ 4) (tn3 : Nat) (tn3a : 0 ≤ tn3) (tn3b : tn3 ≤ 4) (tn3e : n3 = nI tn3) (j1 : Nat) (b1 : Int32) (b2 : Int32) (b3 : Int32) (b4 : Int32) (k53 : Nat) (hj53 : j1 ≤ (7 - tn2)) (hk53 : (7 - tn2) < j1 + (k53 + 1)) (hq1 : (b1, b2, b3, b4) = bdF (fun c r => amO m_phosphors c tn1 r tn2) (13 - tn1) 0 0 j1) (c_9 : ¬ 6 < nI (j1 + tn2)) (n_39 : (j1 + tn2) ≤ 6) (j2 : Nat) (c1 : Int32) (c2 : Int32) (c3 : Int32) (c4 : Int32) (k65 : Nat) (hj65 : j2 ≤ (13 - tn1)) (hk65 : (13 - tn1) < j2 + (k65 + 1)) (hq2 : (c1, c2, c3, c4) = bdI (fun c r => amO m_phosphors c tn1 r tn2) j1 (b1, b2, b3, b4) j2) (c_41 : ¬ 12 < nI (j2 + tn1)) (n_45 : (j2 + tn1) ≤ 12) (c_50 : amO m_phosphors j2 tn1 j1 tn2 ≤ c1) (c_51 : amO m_phosphors j2 tn1 j1 tn2 = c1) (x_54 : Int32) (ex_54 : x_54 = c4 + 1) : (c1, c2, c3, x_54) = bdI (fun c r => amO m_phosphors c tn1 r tn2) j1 (b1, b2, b3, b4) (j2 + 1) := by
  first | contradiction | (refine bdI_s hq2 ?_; first | exact wg_1 (by assumption) | exact wg_2 (by assumption) (by assumption) (by assumption) | exact wg_3 (by assumption) (by assumption) (by assumption) | exact wg_4 (by assumption) rfl (by assumption) (by assumption)) | exact bdF_s (by omega) (by omega) hq1 hq2 | exact hq1 | rfl
theorem lf_X12_body_f_57 (h : Nat) (q : Nat → Nat) (im : Nat → Int32) (m_phosphors : Nat → Int32) (n1 : Int32) (n2 : Int32) (n3 : Int32) (hce : cel m_phosphors) (c_2 : (1 : Int32) ≤ n1 ∧ n1 ≤ 12) (tn1 : Nat) (tn1a : 1 ≤ tn1) (tn1b : tn1 ≤ 12) (tn1e : n1 = nI tn1) (c_5 : (1 : Int32) ≤ n2 ∧ n2 ≤ 6) (tn2 : Nat) (tn2a : 1 ≤ tn2) (tn2b : tn2 ≤ 6) (tn2e : n2 = nI tn2) (c_8 : (0 : Int32) ≤ n3 ∧ n3 ≤ 4) (tn3 : Nat) (tn3a : 0 ≤ tn3) (tn3b : tn3 ≤ 4) (tn3e : n3 = nI tn3) (j1 : Nat) (b1 : Int32) (b2 : Int32) (b3 : Int32) (b4 : Int32) (k53 : Nat) (hj53 : j1 ≤ (7 - tn2)) (hk53 : (7 - tn2) < j1 + (k53 + 1)) (hq1 : (b1, b2, b3, b4) = bdF (fun c r => amO m_phosphors c tn1 r tn2) (13 - tn1) 0 0 j1) (c_9 : ¬ 6 < nI (j1 + tn2)) (n_39 : (j1 + tn2) ≤ 6) (j2 : Nat) (c1 : Int32) (c2 : Int32) (c3 : Int32) (c4 : Int32) (k65 : Nat) (hj65 : j2 ≤ (13 - tn1)) (hk65 : (13 - tn1) < j2 + (k65 + 1)) (hq2 : (c1, c2, c3, c4) = bdI (fun c r => amO m_phosphors c tn1 r tn2) j1 (b1, b2, b3, b4) j2) (c_41 : ¬ 12 < nI (j2 + tn1)) (n_45 : (j2 + tn1) ≤ 12) (c_50 : ¬ amO m_phosphors j2 tn1 j1 tn2 ≤ c1) (c_56 : ¬ amO m_phosphors j2 tn1 j1 tn2 = amO m_phosphors j2 tn1 j1 tn2) : ((amO m_phosphors j2 tn1 j1 tn2), (nI j2), (nI j1), (0 : Int32)) = bdI (fun c r => amO m_phosphors c tn1 r tn2) j1 (b1, b2, b3, b4) (j2 + 1) := by
  first | contradiction | (refine bdI_s hq2 ?_; first | exact wg_1 (by assumption) | exact wg_2 (by assumption) (by assumption) (by assumption) | exact wg_3 (by assumption) (by assumption) (by assumption) | exact wg_4 (by assumption) rfl (by assumption) (by assumption)) | exact bdF_s (by omega) (by omega) hq1 hq2 | exact hq1 | rfl
theorem lf_X12_body_f_58 (h : Nat) (q : Nat → Nat) (im : Nat → Int32) (m_phosphors : Nat → Int32) (n1 : Int32) (n2 : Int32) (n3 : Int32) (hce : cel m_phosphors) (c_2 : (1 : Int32) ≤ n1 ∧ n1 ≤ 12) (tn1 : Nat) (tn1a : 1 ≤ tn1) (tn1b : tn1 ≤ 12) (tn1e : n1 = nI tn1) (c_5 : (1 : Int32) ≤ n2 ∧ n2 ≤ 6) (tn2 : Nat) (tn2a : 1 ≤ tn2) (tn2b : tn2 ≤ 6) (tn2e : n2 = nI tn2) (c_8 : (0 : Int32) ≤ n3 ∧ n3 ≤ 4) (tn3 : Nat) (tn3a : 0 ≤ tn3) (tn3b : tn3 ≤ 4) (tn3e : n3 = nI tn3) (j1 : Nat) (b1 : Int32) (b2 : Int32) (b3 : Int32) (b4 : Int32) (k53 : Nat) (hj53 : j1 ≤ (7 - tn2)) (hk53 : (7 - tn2) < j1 + (k53 + 1)) (hq1 : (b1, b2, b3, b4) = bdF (fun c r => amO m_phosphors c tn1 r tn2) (13 - tn1) 0 0 j1) (c_9 : ¬ 6 < nI (j1 + tn2)) (n_39 : (j1 + tn2) ≤ 6) (j2 : Nat) (c1 : Int32) (c2 : Int32) (c3 : Int32) (c4 : Int32) (k65 : Nat) (hj65 : j2 ≤ (13 - tn1)) (hk65 : (13 - tn1) < j2 + (k65 + 1)) (hq2 : (c1, c2, c3, c4) = bdI (fun c r => amO m_phosphors c tn1 r tn2) j1 (b1, b2, b3, b4) j2) (c_41 : ¬ 12 < nI (j2 + tn1)) (n_45 : (j2 + tn1) ≤ 12) (c_50 : ¬ amO m_phosphors j2 tn1 j1 tn2 ≤ c1) (c_56 : amO m_phosphors j2 tn1 j1 tn2 = amO m_phosphors j2 tn1 j1 tn2) : ((amO m_phosphors j2 tn1 j1 tn2), (nI j2), (nI j1), (1 : Int32)) = bdI (fun c r => amO m_phosphors c tn1 r tn2) j1 (b1, b2, b3, b4) (j2 + 1) := by
  first | contradiction | (refine bdI_s hq2 ?_; first | exact wg_1 (by assumption) | exact wg_2 (by assumption) (by assumption) (by assumption) | exact wg_3 (by assumption) (by assumption) (by assumption) | exact wg_4 (by assumption) rfl (by assumption) (by assumption)) | exact bdF_s (by omega) (by omega) hq1 hq2 | exact hq1 | rfl
theorem lf_X12_body_f_59 (h : Nat) (q : Nat → Nat) (im : Nat → Int32) (m_phosphors : Nat → Int32) (n1 : Int32) (n2 : Int32) (n3 : Int32) (hce : cel m_phosphors) (c_2 : (1 : Int32) ≤ n1 ∧ n1 ≤ 12) (tn1 : Nat) (tn1a : 1 ≤ tn1) (tn1b : tn1 ≤ 12) (tn1e : n1 = nI tn1) (c_5 : (1 : Int32) ≤ n2 ∧ n2 ≤ 6) (tn2 : Nat) (tn2a : 1 ≤ tn2) (tn2b : tn2 ≤ 6) (tn2e : n2 = nI tn2) (c_8 : (0 : Int32) ≤ n3 ∧ n3 ≤ 4) (tn3 : Nat) (tn3a : 0 ≤ tn3) (tn3b : tn3 ≤ 4) (tn3e : n3 = nI tn3) (j1 : Nat) (b1 : Int32) (b2 : Int32) (b3 : Int32) (b4 : Int32) (k53 : Nat) (hj53 : j1 ≤ (7 - tn2)) (hk53 : (7 - tn2) < j1 + (k53 + 1)) (hq1 : (b1, b2, b3, b4) = bdF (fun c r => amO m_phosphors c tn1 r tn2) (13 - tn1) 0 0 j1) (c_9 : ¬ 6 < nI (j1 + tn2)) (n_39 : (j1 + tn2) ≤ 6) : (b1, b2, b3, b4) = bdI (fun c r => amO m_phosphors c tn1 r tn2) j1 (b1, b2, b3, b4) 0 := by
  first | contradiction | (refine bdI_s hq2 ?_; first | exact wg_1 (by assumption) | exact wg_2 (by assumption) (by assumption) (by assumption) | exact wg_3 (by assumption) (by assumption) (by assumption) | exact wg_4 (by assumption) rfl (by assumption) (by assumption)) | exact bdF_s (by omega) (by omega) hq1 hq2 | exact hq1 | rfl
theorem lf_X12_body_f_60 (h : Nat) (q : Nat → Nat) (im : Nat → Int32) (m_phosphors : Nat → Int32) (n1 : Int32) (n2 : Int32) (n3 : Int32) (hce : cel m_phosphors) (c_2 : (1 : Int32) ≤ n1 ∧ n1 ≤ 12) (tn1 : Nat) (tn1a : 1 ≤ tn1) (tn1b : tn1 ≤ 12) (tn1e : n1 = nI tn1) (c_5 : (1 : Int32) ≤ n2 ∧ n2 ≤ 6) (tn2 : Nat) (tn2a : 1 ≤ tn2) (tn2b : tn2 ≤ 6) (tn2e : n2 = nI tn2) (c_8 : (0 : Int32) ≤ n3 ∧ n3 ≤ 4) (tn3 : Nat) (tn3a : 0 ≤ tn3) (tn3b : tn3 ≤ 4) (tn3e : n3 = nI tn3) : ((((-1)) : Int32), (0 : Int32), (0 : Int32), (0 : Int32)) = bdF (fun c r => amO m_phosphors c tn1 r tn2) (13 - tn1) 0 0 0 := by
  first | contradiction | (refine bdI_s hq2 ?_; first | exact wg_1 (by assumption) | exact wg_2 (by assumption) (by assumption) (by assumption) | exact wg_3 (by assumption) (by assumption) (by assumption) | exact wg_4 (by assumption) rfl (by assumption) (by assumption)) | exact bdF_s (by omega) (by omega) hq1 hq2 | exact hq1 | rfl
theorem lf_X12_body_f_61 (h : Nat) (q : Nat → Nat) (im : Nat → Int32) (m_phosphors : Nat → Int32) (n1 : Int32) (n2 : Int32) (n3 : Int32) (hce : cel m_phosphors) (c_2 : (1 : Int32) ≤ n1 ∧ n1 ≤ 12) (tn1 : Nat) (tn1a : 1 ≤ tn1) (tn1b : tn1 ≤ 12) (tn1e : n1 = nI tn1) (c_5 : (1 : Int32) ≤ n2 ∧ n2 ≤ 6) (tn2 : Nat) (tn2a : 1 ≤ tn2) (tn2b : tn2 ≤ 6) (tn2e : n2 = nI tn2) (c_8 : ¬ ((0 : Int32) ≤ n3 ∧ n3 ≤ 4)) : ((-1) : Int32) = boF m_phosphors n1 n2 n3 := by
  first | exact boF_n (fun w => absurd w.1 (by assumption)) | exact boF_n (fun w => absurd w.2.1 (by assumption)) | exact boF_n (fun w => absurd w.2.2 (by assumption)) | (refine boF_y (k := tn3) (by assumption) (by assumption) (by assumption) (by assumption) (by assumption) (by assumption) (by assumption) ?_; first | exact boA_0 (boT_of hce (by assumption) (by assumption) (bdF_l (by assumption) (by omega) hq1)) tn3e (by assumption) | exact boA_1 (boT_of hce (by assumption) (by assumption) (bdF_l (by assumption) (by omega) hq1)) tn3e (by assumption) | exact boA_2 (boT_of hce (by assumption) (by assumption) (bdF_l (by assumption) (by omega) hq1)) tn3e (by assumption) | exact boA_3 (boT_of hce (by assumption) (by assumption) (bdF_l (by assumption) (by omega) hq1)) tn3e (by assumption) | exact (bo_p (by assumption) (by assumption)).trans (boA_4 tn3e (by assumption) (by assumption) (by assumption) (by assumption) (by assumption)))
set_option maxHeartbeats 4000000 in
set_option maxRecDepth 100000 in
theorem c_X12_body_f (l : Launch) (D : va_G) (cI cB cZ cJ : ClassId) (tx : List (ClassId × FieldType)) (h : Nat) (q : Nat → Nat) (im : Nat → Int32) (m_phosphors : Nat → Int32) (n1 : Int32) (n2 : Int32) (n3 : Int32) (hce : cel m_phosphors) : RdI l D cI cB cZ cJ tx yX12_body cX12_body 11 (some .int) 1 [.ref h, .int n1, .int n2, .int n3] [(h, .inr (12, mG q im)), (q 74, .inl (cI, 72, .inl m_phosphors))] (fun r => r = boF m_phosphors n1 n2 n3) := by
  refine rdi_of2 (by decide) (Nat.le_of_ble_eq_true rfl) ?_
  intro p e s m below meth c A ls H locs hC hK hP hD hA hS hl
  obtain ⟨hx, hb, hr, hml, hown, hts, hlocks, hin⟩ := hC
  have hown : s.vm.findClass RX12 = some m.cls := hown
  have hl : lv_has ls 11 [(0, .ref h), (1, .int n1), (2, .int n2), (3, .int n3)] := hl
  refine W_gQ (fun Q hQ => ?_)
  refine lv_iload_n hx hb dX12_body_0 rfl (lv_at hl 1 rfl) ?_
  refine lv_i2l (v := n1.toInt64) hx hb dX12_body_1 rfl ?_
  refine lv_lconst (v := 1) hx hb dX12_body_2 (by decide) ?_
  refine lv_ldc2 (v := 12) hx hb hown (hts _ k_2016) dX12_body_3 ?_
  refine eRi (va_runS (As := [.long n1.toInt64, .long 1, .long 12]) (rest := []) ⟨hx, hb, hml, hown, hts⟩ (c_X12_isIn l D cI cB cZ cJ tx n1.toInt64 1 12 H.size) (zS hts k_1602 v_X12_isIn ⟨Nat.le_of_ble_eq_true rfl, Nat.le_of_ble_eq_true rfl⟩) (px0 hK) rfl rfl hl.1 rfl (lv_room (Nat.le_of_ble_eq_true rfl)) dX12_body_6 ⟨Nat.le_of_ble_eq_true rfl, Nat.le_of_ble_eq_true rfl⟩) hP hS hA (fun r_1 H locs wr_1 hP hS => ?_)
  have wr_1 : r_1 = bi ((1 : Int32) ≤ n1 ∧ n1 ≤ 12) := isIn32 (lo := 1) (hi := 12) (by decide) (by decide) wr_1
  subst wr_1
  refine lv_bi_eq (tgt := 36) hx hb dX12_body_9 (by decide) (fun c_2 => ?_) (fun c_2 => ?_)
  · refine lv_iconst (v := (-1)) hx hb dX12_body_36 (by decide) ?_
    rw [hQ]
    exact W.iret (v := (-1)) hx hb hr (fun tt9 ht hW => ⟨⟨((-1) : Int32), (), rfl, (lf_X12_body_f_3 h q im m_phosphors n1 n2 n3 hce c_2), trivial⟩, hS.F ht⟩) hS.2.2 dX12_body_37 hlocks
  · obtain ⟨tn1, tn1a, tn1b, tn1e⟩ := of_rng 1 12 rfl rfl c_2
    subst tn1e
    refine lv_iload_n hx hb dX12_body_12 rfl (lv_at hl 2 rfl) ?_
    refine lv_i2l (v := n2.toInt64) hx hb dX12_body_13 rfl ?_
    refine lv_lconst (v := 1) hx hb dX12_body_14 (by decide) ?_
    refine lv_ldc2 (v := 6) hx hb hown (hts _ k_2017) dX12_body_15 ?_
    refine eRi (va_runS (As := [.long n2.toInt64, .long 1, .long 6]) (rest := []) ⟨hx, hb, hml, hown, hts⟩ (c_X12_isIn l D cI cB cZ cJ tx n2.toInt64 1 6 H.size) (zS hts k_1602 v_X12_isIn ⟨Nat.le_of_ble_eq_true rfl, Nat.le_of_ble_eq_true rfl⟩) (px0 hK) rfl rfl hl.1 rfl (lv_room (Nat.le_of_ble_eq_true rfl)) dX12_body_18 ⟨Nat.le_of_ble_eq_true rfl, Nat.le_of_ble_eq_true rfl⟩) hP hS hA (fun r_4 H locs wr_4 hP hS => ?_)
    have wr_4 : r_4 = bi ((1 : Int32) ≤ n2 ∧ n2 ≤ 6) := isIn32 (lo := 1) (hi := 6) (by decide) (by decide) wr_4
    subst wr_4
    refine lv_bi_eq (tgt := 36) hx hb dX12_body_21 (by decide) (fun c_5 => ?_) (fun c_5 => ?_)
    · refine lv_iconst (v := (-1)) hx hb dX12_body_36 (by decide) ?_
      rw [hQ]
      exact W.iret (v := (-1)) hx hb hr (fun tt9 ht hW => ⟨⟨((-1) : Int32), (), rfl, (lf_X12_body_f_6 h q im m_phosphors (nI tn1) n2 n3 hce c_2 tn1 tn1a tn1b rfl c_5), trivial⟩, hS.F ht⟩) hS.2.2 dX12_body_37 hlocks
    · obtain ⟨tn2, tn2a, tn2b, tn2e⟩ := of_rng 1 6 rfl rfl c_5
      subst tn2e
      refine lv_iload_n hx hb dX12_body_24 rfl (lv_at hl 3 rfl) ?_
      refine lv_i2l (v := n3.toInt64) hx hb dX12_body_25 rfl ?_
      refine lv_lconst (v := 0) hx hb dX12_body_26 (by decide) ?_
      refine lv_ldc2 (v := 4) hx hb hown (hts _ k_1873) dX12_body_27 ?_
      refine eRi (va_runS (As := [.long n3.toInt64, .long 0, .long 4]) (rest := []) ⟨hx, hb, hml, hown, hts⟩ (c_X12_isIn l D cI cB cZ cJ tx n3.toInt64 0 4 H.size) (zS hts k_1602 v_X12_isIn ⟨Nat.le_of_ble_eq_true rfl, Nat.le_of_ble_eq_true rfl⟩) (px0 hK) rfl rfl hl.1 rfl (lv_room (Nat.le_of_ble_eq_true rfl)) dX12_body_30 ⟨Nat.le_of_ble_eq_true rfl, Nat.le_of_ble_eq_true rfl⟩) hP hS hA (fun r_7 H locs wr_7 hP hS => ?_)
      have wr_7 : r_7 = bi ((0 : Int32) ≤ n3 ∧ n3 ≤ 4) := isIn32 (lo := 0) (hi := 4) (by decide) (by decide) wr_7
      subst wr_7
      refine lv_bi_ne (tgt := 38) hx hb dX12_body_33 (by decide) (fun c_8 => ?_) (fun c_8 => ?_)
      · obtain ⟨tn3, tn3a, tn3b, tn3e⟩ := of_rng 0 4 rfl rfl c_8
        subst tn3e
        refine lv_iconst (v := (-1)) hx hb dX12_body_38 (by decide) ?_
        refine lv_istore (lv' := [(4, .int (-1)), (0, .ref h), (1, .int (nI tn1)), (2, .int (nI tn2)), (3, .int (nI tn3))]) hx hb dX12_body_39 hl (by decide) rfl (fun ls hl => ?_)
        refine lv_iconst (v := 0) hx hb dX12_body_41 (by decide) ?_
        refine lv_istore (lv' := [(5, .int 0), (4, .int (-1)), (0, .ref h), (1, .int (nI tn1)), (2, .int (nI tn2)), (3, .int (nI tn3))]) hx hb dX12_body_42 hl (by decide) rfl (fun ls hl => ?_)
        refine lv_iconst (v := 0) hx hb dX12_body_44 (by decide) ?_
        refine lv_istore (lv' := [(6, .int 0), (5, .int 0), (4, .int (-1)), (0, .ref h), (1, .int (nI tn1)), (2, .int (nI tn2)), (3, .int (nI tn3))]) hx hb dX12_body_45 hl (by decide) rfl (fun ls hl => ?_)
        refine lv_iconst (v := 0) hx hb dX12_body_47 (by decide) ?_
        refine lv_istore (lv' := [(7, .int 0), (6, .int 0), (5, .int 0), (4, .int (-1)), (0, .ref h), (1, .int (nI tn1)), (2, .int (nI tn2)), (3, .int (nI tn3))]) hx hb dX12_body_48 hl (by decide) rfl (fun ls hl => ?_)
        refine lv_iconst (v := 0) hx hb dX12_body_50 (by decide) ?_
        refine lv_istore (lv' := [(8, .int 0), (7, .int 0), (6, .int 0), (5, .int 0), (4, .int (-1)), (0, .ref h), (1, .int (nI tn1)), (2, .int (nI tn2)), (3, .int (nI tn3))]) hx hb dX12_body_51 hl (by decide) rfl (fun ls hl => ?_)
        have lp53 : ∀ (k53 : Nat) (j1 : Nat) (b1 : Int32) (b2 : Int32) (b3 : Int32) (b4 : Int32) (H : Heap) (locs : List Loc) (ls : Array Slot), j1 ≤ (7 - tn2) → (7 - tn2) < j1 + k53 → ((b1, b2, b3, b4) = bdF (fun c r => amO m_phosphors c tn1 r tn2) (13 - tn1) 0 0 j1) → va_P D vwCl [(h, .inr (12, mG q im)), (q 74, .inl (cI, 72, .inl m_phosphors))] H → va_S A s.heap H locs → lv_has ls 11 [(8, .int (nI j1)), (7, .int b4), (6, .int b3), (5, .int b2), (4, .int b1), (0, .ref h), (1, .int (nI tn1)), (2, .int (nI tn2)), (3, .int (nI tn3))] → W p l e (rmX 1 0 0) s m ([.ref h, .int (nI tn1), .int (nI tn2), .int (nI tn3)] : List Value).toArray below meth c H locs 0 0 Q (F0 m 53 ls []) := by
          intro k53
          induction k53 with
          | zero =>
            intro j1 b1 b2 b3 b4 H locs ls hj53 hk53 hq1 hP hS hl
            exact absurd hk53 (by omega)
          | succ k53 ih53 =>
            intro j1 b1 b2 b3 b4 H locs ls hj53 hk53 hq1 hP hS hl
            refine lv_iload hx hb dX12_body_53 (lv_at hl 0 rfl) ?_
            refine lv_iload_n hx hb dX12_body_55 rfl (lv_at hl 7 rfl) ?_
            refine lv_iadd hx hb dX12_body_56 ?_
            refine lv_topv (y := nI (j1 + tn2)) (nI_add j1 tn2) ?_
            refine lv_bipush (v := 6) hx hb dX12_body_57 (by decide) ?_
            refine lv_icmp_gt (tgt := 137) hx hb dX12_body_59 (by decide) (fun c_9 => ?_) (fun c_9 => ?_)
            · have n_10 : 6 < (j1 + tn2) := (lf_X12_body_f_11 h q im m_phosphors (nI tn1) (nI tn2) (nI tn3) hce c_2 tn1 tn1a tn1b rfl c_5 tn2 tn2a tn2b rfl c_8 tn3 tn3a tn3b rfl j1 b1 b2 b3 b4 k53 hj53 hk53 hq1 c_9)
              refine lv_iload_n hx hb dX12_body_137 rfl (lv_at hl 8 rfl) ?_
              refine lv_if_ne (tgt := 146) hx hb dX12_body_138 (by decide) (fun c_12 => ?_) (fun c_12 => ?_)
              · have n_13 : tn3 ≠ 0 := (lf_X12_body_f_14 h q im m_phosphors (nI tn1) (nI tn2) (nI tn3) hce c_2 tn1 tn1a tn1b rfl c_5 tn2 tn2a tn2b rfl c_8 tn3 tn3a tn3b rfl j1 b1 b2 b3 b4 k53 hj53 hk53 hq1 c_9 n_10 c_12)
                refine lv_iload_n hx hb dX12_body_146 rfl (lv_at hl 8 rfl) ?_
                refine lv_iconst (v := 1) hx hb dX12_body_147 (by decide) ?_
                refine lv_icmp_ne (tgt := 156) hx hb dX12_body_148 (by decide) (fun c_15 => ?_) (fun c_15 => ?_)
                · have n_16 : tn3 ≠ 1 := (lf_X12_body_f_17 h q im m_phosphors (nI tn1) (nI tn2) (nI tn3) hce c_2 tn1 tn1a tn1b rfl c_5 tn2 tn2a tn2b rfl c_8 tn3 tn3a tn3b rfl j1 b1 b2 b3 b4 k53 hj53 hk53 hq1 c_9 n_10 c_12 n_13 c_15)
                  refine lv_iload_n hx hb dX12_body_156 rfl (lv_at hl 8 rfl) ?_
                  refine lv_iconst (v := 2) hx hb dX12_body_157 (by decide) ?_
                  refine lv_icmp_ne (tgt := 166) hx hb dX12_body_158 (by decide) (fun c_18 => ?_) (fun c_18 => ?_)
                  · have n_19 : tn3 ≠ 2 := (lf_X12_body_f_20 h q im m_phosphors (nI tn1) (nI tn2) (nI tn3) hce c_2 tn1 tn1a tn1b rfl c_5 tn2 tn2a tn2b rfl c_8 tn3 tn3a tn3b rfl j1 b1 b2 b3 b4 k53 hj53 hk53 hq1 c_9 n_10 c_12 n_13 c_15 n_16 c_18)
                    refine lv_iload_n hx hb dX12_body_166 rfl (lv_at hl 8 rfl) ?_
                    refine lv_iconst (v := 3) hx hb dX12_body_167 (by decide) ?_
                    refine lv_icmp_ne (tgt := 176) hx hb dX12_body_168 (by decide) (fun c_21 => ?_) (fun c_21 => ?_)
                    · have n_22 : tn3 ≠ 3 := (lf_X12_body_f_23 h q im m_phosphors (nI tn1) (nI tn2) (nI tn3) hce c_2 tn1 tn1a tn1b rfl c_5 tn2 tn2a tn2b rfl c_8 tn3 tn3a tn3b rfl j1 b1 b2 b3 b4 k53 hj53 hk53 hq1 c_9 n_10 c_12 n_13 c_15 n_16 c_18 n_19 c_21)
                      refine lv_bipush (v := 12) hx hb dX12_body_176 (by decide) ?_
                      refine lv_iload_n hx hb dX12_body_178 rfl (lv_at hl 6 rfl) ?_
                      refine lv_isub hx hb dX12_body_179 ?_
                      refine lv_topv (y := nI (12 - tn1)) (pk_sub (lf_X12_body_f_24 h q im m_phosphors (nI tn1) (nI tn2) (nI tn3) hce c_2 tn1 tn1a tn1b rfl c_5 tn2 tn2a tn2b rfl c_8 tn3 tn3a tn3b rfl j1 b1 b2 b3 b4 k53 hj53 hk53 hq1 c_9 n_10 c_12 n_13 c_15 n_16 c_18 n_19 c_21 n_22)) ?_
                      refine lv_iconst (v := 1) hx hb dX12_body_180 (by decide) ?_
                      refine lv_iadd hx hb dX12_body_181 ?_
                      refine lv_topv (y := nI ((12 - tn1) + 1)) (nI_add (12 - tn1) 1) ?_
                      refine lv_bipush (v := 6) hx hb dX12_body_182 (by decide) ?_
                      refine lv_iload_n hx hb dX12_body_184 rfl (lv_at hl 7 rfl) ?_
                      refine lv_isub hx hb dX12_body_185 ?_
                      refine lv_topv (y := nI (6 - tn2)) (pk_sub (lf_X12_body_f_25 h q im m_phosphors (nI tn1) (nI tn2) (nI tn3) hce c_2 tn1 tn1a tn1b rfl c_5 tn2 tn2a tn2b rfl c_8 tn3 tn3a tn3b rfl j1 b1 b2 b3 b4 k53 hj53 hk53 hq1 c_9 n_10 c_12 n_13 c_15 n_16 c_18 n_19 c_21 n_22)) ?_
                      refine lv_iconst (v := 1) hx hb dX12_body_186 (by decide) ?_
                      refine lv_iadd hx hb dX12_body_187 ?_
                      refine lv_topv (y := nI ((6 - tn2) + 1)) (nI_add (6 - tn2) 1) ?_
                      refine lv_imul hx hb dX12_body_188 ?_
                      refine lv_topv (y := nI (((12 - tn1) + 1) * ((6 - tn2) + 1))) (pk_mul ((12 - tn1) + 1) ((6 - tn2) + 1)) ?_
                      rw [hQ]
                      exact W.iret (v := nI (((12 - tn1) + 1) * ((6 - tn2) + 1))) hx hb hr (fun tt9 ht hW => ⟨⟨(nI (((12 - tn1) + 1) * ((6 - tn2) + 1)) : Int32), (), rfl, (lf_X12_body_f_26 h q im m_phosphors (nI tn1) (nI tn2) (nI tn3) hce c_2 tn1 tn1a tn1b rfl c_5 tn2 tn2a tn2b rfl c_8 tn3 tn3a tn3b rfl j1 b1 b2 b3 b4 k53 hj53 hk53 hq1 c_9 n_10 c_12 n_13 c_15 n_16 c_18 n_19 c_21 n_22), trivial⟩, hS.F ht⟩) hS.2.2 dX12_body_189 hlocks
                    · have n_27 : tn3 = 3 := (lf_X12_body_f_28 h q im m_phosphors (nI tn1) (nI tn2) (nI tn3) hce c_2 tn1 tn1a tn1b rfl c_5 tn2 tn2a tn2b rfl c_8 tn3 tn3a tn3b rfl j1 b1 b2 b3 b4 k53 hj53 hk53 hq1 c_9 n_10 c_12 n_13 c_15 n_16 c_18 n_19 c_21)
                      refine lv_iload hx hb dX12_body_171 (lv_at hl 1 rfl) ?_
                      refine lv_goto (tgt := 189) hx hb dX12_body_173 (by decide) ?_
                      rw [hQ]
                      exact W.iret (v := b4) hx hb hr (fun tt9 ht hW => ⟨⟨(b4 : Int32), (), rfl, (lf_X12_body_f_29 h q im m_phosphors (nI tn1) (nI tn2) (nI tn3) hce c_2 tn1 tn1a tn1b rfl c_5 tn2 tn2a tn2b rfl c_8 tn3 tn3a tn3b rfl j1 b1 b2 b3 b4 k53 hj53 hk53 hq1 c_9 n_10 c_12 n_13 c_15 n_16 c_18 n_19 c_21 n_27), trivial⟩, hS.F ht⟩) hS.2.2 dX12_body_189 hlocks
                  · have n_30 : tn3 = 2 := (lf_X12_body_f_31 h q im m_phosphors (nI tn1) (nI tn2) (nI tn3) hce c_2 tn1 tn1a tn1b rfl c_5 tn2 tn2a tn2b rfl c_8 tn3 tn3a tn3b rfl j1 b1 b2 b3 b4 k53 hj53 hk53 hq1 c_9 n_10 c_12 n_13 c_15 n_16 c_18)
                    refine lv_iload hx hb dX12_body_161 (lv_at hl 4 rfl) ?_
                    refine lv_goto (tgt := 189) hx hb dX12_body_163 (by decide) ?_
                    rw [hQ]
                    exact W.iret (v := b1) hx hb hr (fun tt9 ht hW => ⟨⟨(b1 : Int32), (), rfl, (lf_X12_body_f_32 h q im m_phosphors (nI tn1) (nI tn2) (nI tn3) hce c_2 tn1 tn1a tn1b rfl c_5 tn2 tn2a tn2b rfl c_8 tn3 tn3a tn3b rfl j1 b1 b2 b3 b4 k53 hj53 hk53 hq1 c_9 n_10 c_12 n_13 c_15 n_16 c_18 n_30), trivial⟩, hS.F ht⟩) hS.2.2 dX12_body_189 hlocks
                · have n_33 : tn3 = 1 := (lf_X12_body_f_34 h q im m_phosphors (nI tn1) (nI tn2) (nI tn3) hce c_2 tn1 tn1a tn1b rfl c_5 tn2 tn2a tn2b rfl c_8 tn3 tn3a tn3b rfl j1 b1 b2 b3 b4 k53 hj53 hk53 hq1 c_9 n_10 c_12 n_13 c_15)
                  refine lv_iload hx hb dX12_body_151 (lv_at hl 2 rfl) ?_
                  refine lv_goto (tgt := 189) hx hb dX12_body_153 (by decide) ?_
                  rw [hQ]
                  exact W.iret (v := b3) hx hb hr (fun tt9 ht hW => ⟨⟨(b3 : Int32), (), rfl, (lf_X12_body_f_35 h q im m_phosphors (nI tn1) (nI tn2) (nI tn3) hce c_2 tn1 tn1a tn1b rfl c_5 tn2 tn2a tn2b rfl c_8 tn3 tn3a tn3b rfl j1 b1 b2 b3 b4 k53 hj53 hk53 hq1 c_9 n_10 c_12 n_13 c_15 n_33), trivial⟩, hS.F ht⟩) hS.2.2 dX12_body_189 hlocks
              · have n_36 : tn3 = 0 := (lf_X12_body_f_37 h q im m_phosphors (nI tn1) (nI tn2) (nI tn3) hce c_2 tn1 tn1a tn1b rfl c_5 tn2 tn2a tn2b rfl c_8 tn3 tn3a tn3b rfl j1 b1 b2 b3 b4 k53 hj53 hk53 hq1 c_9 n_10 c_12)
                refine lv_iload hx hb dX12_body_141 (lv_at hl 3 rfl) ?_
                refine lv_goto (tgt := 189) hx hb dX12_body_143 (by decide) ?_
                rw [hQ]
                exact W.iret (v := b2) hx hb hr (fun tt9 ht hW => ⟨⟨(b2 : Int32), (), rfl, (lf_X12_body_f_38 h q im m_phosphors (nI tn1) (nI tn2) (nI tn3) hce c_2 tn1 tn1a tn1b rfl c_5 tn2 tn2a tn2b rfl c_8 tn3 tn3a tn3b rfl j1 b1 b2 b3 b4 k53 hj53 hk53 hq1 c_9 n_10 c_12 n_36), trivial⟩, hS.F ht⟩) hS.2.2 dX12_body_189 hlocks
            · have n_39 : (j1 + tn2) ≤ 6 := (lf_X12_body_f_40 h q im m_phosphors (nI tn1) (nI tn2) (nI tn3) hce c_2 tn1 tn1a tn1b rfl c_5 tn2 tn2a tn2b rfl c_8 tn3 tn3a tn3b rfl j1 b1 b2 b3 b4 k53 hj53 hk53 hq1 c_9)
              refine lv_iconst (v := 0) hx hb dX12_body_62 (by decide) ?_
              refine lv_istore (lv' := [(9, .int 0), (8, .int (nI j1)), (7, .int b4), (6, .int b3), (5, .int b2), (4, .int b1), (0, .ref h), (1, .int (nI tn1)), (2, .int (nI tn2)), (3, .int (nI tn3))]) hx hb dX12_body_63 hl (by decide) rfl (fun ls hl => ?_)
              have lp65 : ∀ (k65 : Nat) (j2 : Nat) (c1 : Int32) (c2 : Int32) (c3 : Int32) (c4 : Int32) (H : Heap) (locs : List Loc) (ls : Array Slot), j2 ≤ (13 - tn1) → (13 - tn1) < j2 + k65 → ((c1, c2, c3, c4) = bdI (fun c r => amO m_phosphors c tn1 r tn2) j1 (b1, b2, b3, b4) j2) → va_P D vwCl [(h, .inr (12, mG q im)), (q 74, .inl (cI, 72, .inl m_phosphors))] H → va_S A s.heap H locs → lv_has ls 11 [(9, .int (nI j2)), (8, .int (nI j1)), (7, .int c4), (6, .int c3), (5, .int c2), (4, .int c1), (0, .ref h), (1, .int (nI tn1)), (2, .int (nI tn2)), (3, .int (nI tn3))] → W p l e (rmX 1 0 0) s m ([.ref h, .int (nI tn1), .int (nI tn2), .int (nI tn3)] : List Value).toArray below meth c H locs 0 0 Q (F0 m 65 ls []) := by
                intro k65
                induction k65 with
                | zero =>
                  intro j2 c1 c2 c3 c4 H locs ls hj65 hk65 hq2 hP hS hl
                  exact absurd hk65 (by omega)
                | succ k65 ih65 =>
                  intro j2 c1 c2 c3 c4 H locs ls hj65 hk65 hq2 hP hS hl
                  refine lv_iload hx hb dX12_body_65 (lv_at hl 0 rfl) ?_
                  refine lv_iload_n hx hb dX12_body_67 rfl (lv_at hl 7 rfl) ?_
                  refine lv_iadd hx hb dX12_body_68 ?_
                  refine lv_topv (y := nI (j2 + tn1)) (nI_add j2 tn1) ?_
                  refine lv_bipush (v := 12) hx hb dX12_body_69 (by decide) ?_
                  refine lv_icmp_gt (tgt := 131) hx hb dX12_body_71 (by decide) (fun c_41 => ?_) (fun c_41 => ?_)
                  · have n_42 : 12 < (j2 + tn1) := (lf_X12_body_f_43 h q im m_phosphors (nI tn1) (nI tn2) (nI tn3) hce c_2 tn1 tn1a tn1b rfl c_5 tn2 tn2a tn2b rfl c_8 tn3 tn3a tn3b rfl j1 b1 b2 b3 b4 k53 hj53 hk53 hq1 c_9 n_39 j2 c1 c2 c3 c4 k65 hj65 hk65 hq2 c_41)
                    refine lv_iinc (v := nI (j1 + 1)) (lv' := [(8, .int (nI (j1 + 1))), (9, .int (nI j2)), (7, .int c4), (6, .int c3), (5, .int c2), (4, .int c1), (0, .ref h), (1, .int (nI tn1)), (2, .int (nI tn2)), (3, .int (nI tn3))]) hx hb dX12_body_131 hl (k := 1) rfl (nI_1 j1) (by decide) rfl (fun ls hl => ?_)
                    refine lv_goto (tgt := 53) hx hb dX12_body_134 (by decide) ?_
                    exact ih53 (j1 + 1) c1 c2 c3 c4 H locs ls (by omega) (by omega) (lf_X12_body_f_44 h q im m_phosphors (nI tn1) (nI tn2) (nI tn3) hce c_2 tn1 tn1a tn1b rfl c_5 tn2 tn2a tn2b rfl c_8 tn3 tn3a tn3b rfl j1 b1 b2 b3 b4 k53 hj53 hk53 hq1 c_9 n_39 j2 c1 c2 c3 c4 k65 hj65 hk65 hq2 c_41 n_42) (hP.sub [0, 1] rfl)  hS (lv_sub hl [0, 2, 3, 4, 5, 6, 7, 8, 9] rfl)
                  · have n_45 : (j2 + tn1) ≤ 12 := (lf_X12_body_f_46 h q im m_phosphors (nI tn1) (nI tn2) (nI tn3) hce c_2 tn1 tn1a tn1b rfl c_5 tn2 tn2a tn2b rfl c_8 tn3 tn3a tn3b rfl j1 b1 b2 b3 b4 k53 hj53 hk53 hq1 c_9 n_39 j2 c1 c2 c3 c4 k65 hj65 hk65 hq2 c_41)
                    refine lv_aload_n hx hb dX12_body_74 rfl (lv_at hl 6 rfl) ?_
                    refine lv_iload hx hb dX12_body_75 (lv_at hl 0 rfl) ?_
                    refine lv_iload hx hb dX12_body_77 (lv_at hl 1 rfl) ?_
                    refine lv_iload_n hx hb dX12_body_79 rfl (lv_at hl 7 rfl) ?_
                    refine lv_iload_n hx hb dX12_body_80 rfl (lv_at hl 8 rfl) ?_
                    refine eRi (va_runV (As := [.int (nI j2), .int (nI j1), .int (nI tn1), .int (nI tn2)]) (rest := []) ⟨hx, hb, hml, hown, hts⟩ (c_X12_muchAt_f l D cI cB cZ cJ tx h q im m_phosphors j2 j1 tn1 tn2 (lf_X12_body_f_47 h q im m_phosphors (nI tn1) (nI tn2) (nI tn3) hce c_2 tn1 tn1a tn1b rfl c_5 tn2 tn2a tn2b rfl c_8 tn3 tn3a tn3b rfl j1 b1 b2 b3 b4 k53 hj53 hk53 hq1 c_9 n_39 j2 c1 c2 c3 c4 k65 hj65 hk65 hq2 c_41 n_45) (lf_X12_body_f_48 h q im m_phosphors (nI tn1) (nI tn2) (nI tn3) hce c_2 tn1 tn1a tn1b rfl c_5 tn2 tn2a tn2b rfl c_8 tn3 tn3a tn3b rfl j1 b1 b2 b3 b4 k53 hj53 hk53 hq1 c_9 n_39 j2 c1 c2 c3 c4 k65 hj65 hk65 hq2 c_41 n_45) H.size) (zV hts k_2018 v_X12_muchAt ⟨Nat.le_of_ble_eq_true rfl, Nat.le_of_ble_eq_true rfl⟩) (pV (pxS hK hP hD [0, 1] (by decide) rfl) hK hP 0 rfl rfl) rfl rfl hl.1 rfl (lv_room (Nat.le_of_ble_eq_true rfl)) dX12_body_81 ⟨Nat.le_of_ble_eq_true rfl, Nat.le_of_ble_eq_true rfl⟩) hP hS hA (fun r_49 H locs wr_49 hP hS => ?_)
                    subst wr_49
                    refine lv_istore (lv' := [(10, .int (amO m_phosphors j2 tn1 j1 tn2)), (9, .int (nI j2)), (8, .int (nI j1)), (7, .int c4), (6, .int c3), (5, .int c2), (4, .int c1), (0, .ref h), (1, .int (nI tn1)), (2, .int (nI tn2)), (3, .int (nI tn3))]) hx hb dX12_body_84 hl (by decide) rfl (fun ls hl => ?_)
                    refine lv_iload hx hb dX12_body_86 (lv_at hl 0 rfl) ?_
                    refine lv_iload hx hb dX12_body_88 (lv_at hl 6 rfl) ?_
                    refine lv_icmp_le (tgt := 108) hx hb dX12_body_90 (by decide) (fun c_50 => ?_) (fun c_50 => ?_)
                    · refine lv_iload hx hb dX12_body_108 (lv_at hl 3 rfl) ?_
                      refine lv_iload hx hb dX12_body_110 (lv_at hl 0 rfl) ?_
                      refine lv_iload hx hb dX12_body_112 (lv_at hl 6 rfl) ?_
                      refine lv_icmp_ne (tgt := 121) hx hb dX12_body_114 (by decide) (fun c_51 => ?_) (fun c_51 => ?_)
                      · refine lv_iconst (v := 0) hx hb dX12_body_121 (by decide) ?_
                        refine lv_iadd hx hb dX12_body_122 ?_
                        refine lv_topi (fun x_52 ex_52 => ?_)
                        refine lv_istore (lv' := [(7, .int x_52), (10, .int (amO m_phosphors j2 tn1 j1 tn2)), (9, .int (nI j2)), (8, .int (nI j1)), (6, .int c3), (5, .int c2), (4, .int c1), (0, .ref h), (1, .int (nI tn1)), (2, .int (nI tn2)), (3, .int (nI tn3))]) hx hb dX12_body_123 hl (by decide) rfl (fun ls hl => ?_)
                        refine lv_iinc (v := nI (j2 + 1)) (lv' := [(9, .int (nI (j2 + 1))), (7, .int x_52), (10, .int (amO m_phosphors j2 tn1 j1 tn2)), (8, .int (nI j1)), (6, .int c3), (5, .int c2), (4, .int c1), (0, .ref h), (1, .int (nI tn1)), (2, .int (nI tn2)), (3, .int (nI tn3))]) hx hb dX12_body_125 hl (k := 2) rfl (nI_1 j2) (by decide) rfl (fun ls hl => ?_)
                        refine lv_goto (tgt := 65) hx hb dX12_body_128 (by decide) ?_
                        exact ih65 (j2 + 1) c1 c2 c3 x_52 H locs ls (by omega) (by omega) (lf_X12_body_f_53 h q im m_phosphors (nI tn1) (nI tn2) (nI tn3) hce c_2 tn1 tn1a tn1b rfl c_5 tn2 tn2a tn2b rfl c_8 tn3 tn3a tn3b rfl j1 b1 b2 b3 b4 k53 hj53 hk53 hq1 c_9 n_39 j2 c1 c2 c3 c4 k65 hj65 hk65 hq2 c_41 n_45 c_50 c_51 x_52 ex_52) (hP.sub [0, 1] rfl)  hS (lv_sub hl [0, 3, 1, 4, 5, 6, 7, 8, 9, 10] rfl)
                      · refine lv_iconst (v := 1) hx hb dX12_body_117 (by decide) ?_
                        refine lv_goto (tgt := 122) hx hb dX12_body_118 (by decide) ?_
                        refine lv_iadd hx hb dX12_body_122 ?_
                        refine lv_topi (fun x_54 ex_54 => ?_)
                        refine lv_istore (lv' := [(7, .int x_54), (10, .int (amO m_phosphors j2 tn1 j1 tn2)), (9, .int (nI j2)), (8, .int (nI j1)), (6, .int c3), (5, .int c2), (4, .int c1), (0, .ref h), (1, .int (nI tn1)), (2, .int (nI tn2)), (3, .int (nI tn3))]) hx hb dX12_body_123 hl (by decide) rfl (fun ls hl => ?_)
                        refine lv_iinc (v := nI (j2 + 1)) (lv' := [(9, .int (nI (j2 + 1))), (7, .int x_54), (10, .int (amO m_phosphors j2 tn1 j1 tn2)), (8, .int (nI j1)), (6, .int c3), (5, .int c2), (4, .int c1), (0, .ref h), (1, .int (nI tn1)), (2, .int (nI tn2)), (3, .int (nI tn3))]) hx hb dX12_body_125 hl (k := 2) rfl (nI_1 j2) (by decide) rfl (fun ls hl => ?_)
                        refine lv_goto (tgt := 65) hx hb dX12_body_128 (by decide) ?_
                        exact ih65 (j2 + 1) c1 c2 c3 x_54 H locs ls (by omega) (by omega) (lf_X12_body_f_55 h q im m_phosphors (nI tn1) (nI tn2) (nI tn3) hce c_2 tn1 tn1a tn1b rfl c_5 tn2 tn2a tn2b rfl c_8 tn3 tn3a tn3b rfl j1 b1 b2 b3 b4 k53 hj53 hk53 hq1 c_9 n_39 j2 c1 c2 c3 c4 k65 hj65 hk65 hq2 c_41 n_45 c_50 c_51 x_54 ex_54) (hP.sub [0, 1] rfl)  hS (lv_sub hl [0, 3, 1, 4, 5, 6, 7, 8, 9, 10] rfl)
                    · refine lv_iload hx hb dX12_body_93 (lv_at hl 0 rfl) ?_
                      refine lv_istore (lv' := [(4, .int (amO m_phosphors j2 tn1 j1 tn2)), (10, .int (amO m_phosphors j2 tn1 j1 tn2)), (9, .int (nI j2)), (8, .int (nI j1)), (7, .int c4), (6, .int c3), (5, .int c2), (0, .ref h), (1, .int (nI tn1)), (2, .int (nI tn2)), (3, .int (nI tn3))]) hx hb dX12_body_95 hl (by decide) rfl (fun ls hl => ?_)
                      refine lv_iload hx hb dX12_body_97 (lv_at hl 2 rfl) ?_
                      refine lv_istore (lv' := [(5, .int (nI j2)), (4, .int (amO m_phosphors j2 tn1 j1 tn2)), (10, .int (amO m_phosphors j2 tn1 j1 tn2)), (9, .int (nI j2)), (8, .int (nI j1)), (7, .int c4), (6, .int c3), (0, .ref h), (1, .int (nI tn1)), (2, .int (nI tn2)), (3, .int (nI tn3))]) hx hb dX12_body_99 hl (by decide) rfl (fun ls hl => ?_)
                      refine lv_iload hx hb dX12_body_101 (lv_at hl 4 rfl) ?_
                      refine lv_istore (lv' := [(6, .int (nI j1)), (5, .int (nI j2)), (4, .int (amO m_phosphors j2 tn1 j1 tn2)), (10, .int (amO m_phosphors j2 tn1 j1 tn2)), (9, .int (nI j2)), (8, .int (nI j1)), (7, .int c4), (0, .ref h), (1, .int (nI tn1)), (2, .int (nI tn2)), (3, .int (nI tn3))]) hx hb dX12_body_103 hl (by decide) rfl (fun ls hl => ?_)
                      refine lv_iconst (v := 0) hx hb dX12_body_105 (by decide) ?_
                      refine lv_istore (lv' := [(7, .int 0), (6, .int (nI j1)), (5, .int (nI j2)), (4, .int (amO m_phosphors j2 tn1 j1 tn2)), (10, .int (amO m_phosphors j2 tn1 j1 tn2)), (9, .int (nI j2)), (8, .int (nI j1)), (0, .ref h), (1, .int (nI tn1)), (2, .int (nI tn2)), (3, .int (nI tn3))]) hx hb dX12_body_106 hl (by decide) rfl (fun ls hl => ?_)
                      refine lv_iload hx hb dX12_body_108 (lv_at hl 0 rfl) ?_
                      refine lv_iload hx hb dX12_body_110 (lv_at hl 4 rfl) ?_
                      refine lv_iload hx hb dX12_body_112 (lv_at hl 3 rfl) ?_
                      refine lv_icmp_ne (tgt := 121) hx hb dX12_body_114 (by decide) (fun c_56 => ?_) (fun c_56 => ?_)
                      · refine lv_iconst (v := 0) hx hb dX12_body_121 (by decide) ?_
                        refine lv_iadd hx hb dX12_body_122 ?_
                        refine lv_topv (y := 0) (by decide) ?_
                        refine lv_istore (lv' := [(7, .int 0), (6, .int (nI j1)), (5, .int (nI j2)), (4, .int (amO m_phosphors j2 tn1 j1 tn2)), (10, .int (amO m_phosphors j2 tn1 j1 tn2)), (9, .int (nI j2)), (8, .int (nI j1)), (0, .ref h), (1, .int (nI tn1)), (2, .int (nI tn2)), (3, .int (nI tn3))]) hx hb dX12_body_123 hl (by decide) rfl (fun ls hl => ?_)
                        refine lv_iinc (v := nI (j2 + 1)) (lv' := [(9, .int (nI (j2 + 1))), (7, .int 0), (6, .int (nI j1)), (5, .int (nI j2)), (4, .int (amO m_phosphors j2 tn1 j1 tn2)), (10, .int (amO m_phosphors j2 tn1 j1 tn2)), (8, .int (nI j1)), (0, .ref h), (1, .int (nI tn1)), (2, .int (nI tn2)), (3, .int (nI tn3))]) hx hb dX12_body_125 hl (k := 5) rfl (nI_1 j2) (by decide) rfl (fun ls hl => ?_)
                        refine lv_goto (tgt := 65) hx hb dX12_body_128 (by decide) ?_
                        exact ih65 (j2 + 1) (amO m_phosphors j2 tn1 j1 tn2) (nI j2) (nI j1) 0 H locs ls (by omega) (by omega) (lf_X12_body_f_57 h q im m_phosphors (nI tn1) (nI tn2) (nI tn3) hce c_2 tn1 tn1a tn1b rfl c_5 tn2 tn2a tn2b rfl c_8 tn3 tn3a tn3b rfl j1 b1 b2 b3 b4 k53 hj53 hk53 hq1 c_9 n_39 j2 c1 c2 c3 c4 k65 hj65 hk65 hq2 c_41 n_45 c_50 c_56) (hP.sub [0, 1] rfl)  hS (lv_sub hl [0, 6, 1, 2, 3, 4, 7, 8, 9, 10] rfl)
                      · refine lv_iconst (v := 1) hx hb dX12_body_117 (by decide) ?_
                        refine lv_goto (tgt := 122) hx hb dX12_body_118 (by decide) ?_
                        refine lv_iadd hx hb dX12_body_122 ?_
                        refine lv_topv (y := 1) (by decide) ?_
                        refine lv_istore (lv' := [(7, .int 1), (6, .int (nI j1)), (5, .int (nI j2)), (4, .int (amO m_phosphors j2 tn1 j1 tn2)), (10, .int (amO m_phosphors j2 tn1 j1 tn2)), (9, .int (nI j2)), (8, .int (nI j1)), (0, .ref h), (1, .int (nI tn1)), (2, .int (nI tn2)), (3, .int (nI tn3))]) hx hb dX12_body_123 hl (by decide) rfl (fun ls hl => ?_)
                        refine lv_iinc (v := nI (j2 + 1)) (lv' := [(9, .int (nI (j2 + 1))), (7, .int 1), (6, .int (nI j1)), (5, .int (nI j2)), (4, .int (amO m_phosphors j2 tn1 j1 tn2)), (10, .int (amO m_phosphors j2 tn1 j1 tn2)), (8, .int (nI j1)), (0, .ref h), (1, .int (nI tn1)), (2, .int (nI tn2)), (3, .int (nI tn3))]) hx hb dX12_body_125 hl (k := 5) rfl (nI_1 j2) (by decide) rfl (fun ls hl => ?_)
                        refine lv_goto (tgt := 65) hx hb dX12_body_128 (by decide) ?_
                        exact ih65 (j2 + 1) (amO m_phosphors j2 tn1 j1 tn2) (nI j2) (nI j1) 1 H locs ls (by omega) (by omega) (lf_X12_body_f_58 h q im m_phosphors (nI tn1) (nI tn2) (nI tn3) hce c_2 tn1 tn1a tn1b rfl c_5 tn2 tn2a tn2b rfl c_8 tn3 tn3a tn3b rfl j1 b1 b2 b3 b4 k53 hj53 hk53 hq1 c_9 n_39 j2 c1 c2 c3 c4 k65 hj65 hk65 hq2 c_41 n_45 c_50 c_56) (hP.sub [0, 1] rfl)  hS (lv_sub hl [0, 6, 1, 2, 3, 4, 7, 8, 9, 10] rfl)
              exact lp65 ((13 - tn1) + 1) 0 b1 b2 b3 b4 H locs ls (by omega) (by omega) (lf_X12_body_f_59 h q im m_phosphors (nI tn1) (nI tn2) (nI tn3) hce c_2 tn1 tn1a tn1b rfl c_5 tn2 tn2a tn2b rfl c_8 tn3 tn3a tn3b rfl j1 b1 b2 b3 b4 k53 hj53 hk53 hq1 c_9 n_39) (hP.sub [0, 1] rfl)  hS (lv_sub hl [0, 1, 2, 3, 4, 5, 6, 7, 8, 9] rfl)
        exact lp53 ((7 - tn2) + 1) 0 (-1) 0 0 0 H locs ls (by omega) (by omega) (lf_X12_body_f_60 h q im m_phosphors (nI tn1) (nI tn2) (nI tn3) hce c_2 tn1 tn1a tn1b rfl c_5 tn2 tn2a tn2b rfl c_8 tn3 tn3a tn3b rfl) (hP.sub [0, 1] rfl)  hS (lv_sub hl [0, 1, 2, 3, 4, 5, 6, 7, 8] rfl)
      · refine lv_iconst (v := (-1)) hx hb dX12_body_36 (by decide) ?_
        rw [hQ]
        exact W.iret (v := (-1)) hx hb hr (fun tt9 ht hW => ⟨⟨((-1) : Int32), (), rfl, (lf_X12_body_f_61 h q im m_phosphors (nI tn1) (nI tn2) n3 hce c_2 tn1 tn1a tn1b rfl c_5 tn2 tn2a tn2b rfl c_8), trivial⟩, hS.F ht⟩) hS.2.2 dX12_body_37 hlocks
