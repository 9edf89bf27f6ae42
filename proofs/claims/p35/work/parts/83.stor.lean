abbrev sg3 (x : Int32) : Prop := x = -1 ∨ x = 0 ∨ x = 1
def pf1 (f g : Nat → Int32) (k i : Nat) : Int32 := if g i = 1 then f (k * 6 + i) else 1000 - f (k * 6 + i)
def prodF (f g : Nat → Int32) (k : Nat) : Nat → Int64
  | 0 => 1
  | i + 1 => if g i = -1 then prodF f g k i else prodF f g k i * (pf1 f g k i).toInt64
def sumF (f g t : Nat → Int32) : Nat → Int64
  | 0 => 0
  | k + 1 => if t k = 0 then sumF f g t k + 0 else sumF f g t k + prodF f g k 6
def oddF (f g t : Nat → Int32) (n : Int32) : Int64 := if n = -1 then sumF f g t 6 else if ((0 : Int32) ≤ n ∧ n ≤ 5) ∧ ¬ t n.toNatClampNeg = 0 then prodF f g n.toNatClampNeg 6 else -1
theorem sg_m {x : Int32} (h3 : sg3 x) (h : x < 0) : x = -1 := by
  rcases h3 with e | e | e
  · exact e
  · rw [e] at h
    exact absurd h (by decide)
  · rw [e] at h
    exact absurd h (by decide)
theorem sg_ge {x : Int32} (h : ¬ x < 0) : ¬ x = -1 := fun e => h (by rw [e]; decide)
theorem prodF_n {f g : Nat → Int32} {k j : Nat} {w : Int64} (h : g j = -1) (hw : w = prodF f g k j) : w = prodF f g k (j + 1) := by
  show w = if g j = -1 then prodF f g k j else prodF f g k j * (pf1 f g k j).toInt64
  rw [if_pos h]
  exact hw
theorem prodF_y {f g : Nat → Int32} {k j : Nat} {w x : Int64} {y : Int32} (h : ¬ g j = -1) (hy : y = pf1 f g k j) (hw : w = prodF f g k j) (ex : x = w * y.toInt64) : x = prodF f g k (j + 1) := by
  show x = if g j = -1 then prodF f g k j else prodF f g k j * (pf1 f g k j).toInt64
  rw [if_neg h, ex, hw, hy]
theorem pf1_1 {f g : Nat → Int32} {k j : Nat} (h : g j = 1) : f (k * 6 + j) = pf1 f g k j := by
  unfold pf1
  rw [if_pos h]
theorem pf1_0 {f g : Nat → Int32} {k j : Nat} {y : Int32} (h : ¬ g j = 1) (e : y = 1000 - f (k * 6 + j)) : y = pf1 f g k j := by
  unfold pf1
  rw [if_neg h, e]
theorem pf1_1' {f g : Nat → Int32} {k j : Nat} (h : g j = 1) : f (6 * k + j) = pf1 f g k j := by
  rw [Nat.mul_comm]
  exact pf1_1 h
theorem pf1_0' {f g : Nat → Int32} {k j : Nat} {y : Int32} (h : ¬ g j = 1) (e : y = 1000 - f (6 * k + j)) : y = pf1 f g k j := by
  rw [Nat.mul_comm] at e
  exact pf1_0 h e
theorem prodF_y1 {f g : Nat → Int32} {k j : Nat} {w x : Int64} (h : ¬ g j = -1) (h1 : g j = 1) (hw : w = prodF f g k j) (ex : x = w * (f (6 * k + j)).toInt64) : x = prodF f g k (j + 1) := prodF_y h (pf1_1' h1) hw ex
theorem prodF_y0 {f g : Nat → Int32} {k j : Nat} {w x : Int64} {z : Int32} (h : ¬ g j = -1) (h1 : ¬ g j = 1) (hw : w = prodF f g k j) (ez : z = 1000 - f (6 * k + j)) (ex : x = w * z.toInt64) : x = prodF f g k (j + 1) := prodF_y h (pf1_0' h1 ez) hw ex
theorem sumF_n {f g t : Nat → Int32} {k : Nat} {w x : Int64} (h : t k = 0) (hw : w = sumF f g t k) (ex : x = w + 0) : x = sumF f g t (k + 1) := by
  show x = if t k = 0 then sumF f g t k + 0 else sumF f g t k + prodF f g k 6
  rw [if_pos h, ex, hw]
theorem sumF_y {f g t : Nat → Int32} {k : Nat} {w x : Int64} (h : ¬ t k = 0) (hw : w = sumF f g t k) (ex : x = w + prodF f g k 6) : x = sumF f g t (k + 1) := by
  show x = if t k = 0 then sumF f g t k + 0 else sumF f g t k + prodF f g k 6
  rw [if_neg h, ex, hw]
theorem at6 {α : Type} {F : Nat → α} {j : Nat} {w : α} (h1 : j ≤ 6) (h2 : 6 ≤ j) (hw : w = F j) : w = F 6 := by
  have e : j = 6 := by omega
  rw [← e]
  exact hw
theorem oddF_a {f g t : Nat → Int32} {n : Int32} {w : Int64} (h : n = -1) (hw : w = sumF f g t 6) : w = oddF f g t n := by
  unfold oddF
  rw [if_pos h]
  exact hw
theorem oddF_n {f g t : Nat → Int32} {n : Int32} (h : ¬ n = -1) (h1 : ¬ ((0 : Int32) ≤ n ∧ n ≤ 5)) : -1 = oddF f g t n := by
  unfold oddF
  rw [if_neg h, if_neg (fun w => h1 w.1)]
theorem oddF_t {f g t : Nat → Int32} {n : Int32} {k : Nat} (h : ¬ n = -1) (e : n = nI k) (hk : k ≤ 5) (h1 : t k = 0) : -1 = oddF f g t n := by
  unfold oddF
  rw [if_neg h, if_neg (fun w => absurd (by rw [e, nI_clamp (by omega)]; exact h1) w.2)]
theorem oddF_y {f g t : Nat → Int32} {n : Int32} {k : Nat} (h : ¬ n = -1) (h1 : (0 : Int32) ≤ n ∧ n ≤ 5) (e : n = nI k) (hk : k ≤ 5) (ht : ¬ t k = 0) : prodF f g k 6 = oddF f g t n := by
  have ec : n.toNatClampNeg = k := by rw [e, nI_clamp (by omega)]
  unfold oddF
  rw [if_neg h, ec, if_pos ⟨h1, ht⟩]
abbrev SOK (a b c : Int32) : Prop := ((0 : Int32) ≤ a ∧ a ≤ 5) ∧ ((0 : Int32) ≤ b ∧ b ≤ 5) ∧ ((0 : Int32) ≤ c ∧ c ≤ 1000)
def stF (a b c : Int32) (f : Nat → Int32) : Nat → Int32 := if SOK a b c then upd f (a.toNatClampNeg * 6 + b.toNatClampNeg) c else f
def stT (a b c : Int32) (f : Nat → Int32) : Nat → Int32 := if SOK a b c then upd f a.toNatClampNeg 1 else f
abbrev GOK (a b : Int32) : Prop := ((0 : Int32) ≤ a ∧ a ≤ 5) ∧ (((-1) : Int32) ≤ b ∧ b ≤ 1)
def sgF (a b : Int32) (f : Nat → Int32) : Nat → Int32 := if GOK a b then upd f a.toNatClampNeg b else f
theorem upd_b1 {f g : Nat → Int32} {k : Nat} (e : f = upd g k (vp_nar .boolean 1)) : f = upd g k 1 := e.trans (congrArg _ (by decide))
theorem stF_y {a b c : Int32} {f r : Nat → Int32} {t u : Nat} (h1 : (0 : Int32) ≤ a ∧ a ≤ 5) (h2 : (0 : Int32) ≤ b ∧ b ≤ 5) (h3 : (0 : Int32) ≤ c ∧ c ≤ 1000) (e1 : a = nI t) (e2 : b = nI u) (ht : t ≤ 5) (hu : u ≤ 5) (e : r = upd f (t * 6 + u) c) : r = stF a b c f := by
  have c1 : a.toNatClampNeg = t := by rw [e1, nI_clamp (by omega)]
  have c2 : b.toNatClampNeg = u := by rw [e2, nI_clamp (by omega)]
  unfold stF
  rw [if_pos ⟨h1, h2, h3⟩, c1, c2, e]
theorem stF_z {a b c : Int32} {f r : Nat → Int32} {t u : Nat} (h1 : (0 : Int32) ≤ a ∧ a ≤ 5) (h2 : (0 : Int32) ≤ b ∧ b ≤ 5) (h3 : (0 : Int32) ≤ c ∧ c ≤ 1000) (e1 : a = nI t) (e2 : b = nI u) (ht : t ≤ 5) (hu : u ≤ 5) (e : r = upd f (6 * t + u) c) : r = stF a b c f := stF_y h1 h2 h3 e1 e2 ht hu (by rw [Nat.mul_comm]; exact e)
theorem stF_n {a b c : Int32} {f : Nat → Int32} (h : ¬ SOK a b c) : f = stF a b c f := by
  unfold stF
  rw [if_neg h]
theorem stT_y {a b c : Int32} {f r : Nat → Int32} {t : Nat} (h1 : (0 : Int32) ≤ a ∧ a ≤ 5) (h2 : (0 : Int32) ≤ b ∧ b ≤ 5) (h3 : (0 : Int32) ≤ c ∧ c ≤ 1000) (e1 : a = nI t) (ht : t ≤ 5) (e : r = upd f t 1) : r = stT a b c f := by
  have c1 : a.toNatClampNeg = t := by rw [e1, nI_clamp (by omega)]
  unfold stT
  rw [if_pos ⟨h1, h2, h3⟩, c1, e]
theorem stT_n {a b c : Int32} {f : Nat → Int32} (h : ¬ SOK a b c) : f = stT a b c f := by
  unfold stT
  rw [if_neg h]
theorem sgF_y {a b : Int32} {f r : Nat → Int32} {t : Nat} (h1 : (0 : Int32) ≤ a ∧ a ≤ 5) (h2 : ((-1) : Int32) ≤ b ∧ b ≤ 1) (e1 : a = nI t) (ht : t ≤ 5) (e : r = upd f t b) : r = sgF a b f := by
  have c1 : a.toNatClampNeg = t := by rw [e1, nI_clamp (by omega)]
  unfold sgF
  rw [if_pos ⟨h1, h2⟩, c1, e]
theorem sgF_n {a b : Int32} {f : Nat → Int32} (h : ¬ GOK a b) : f = sgF a b f := by
  unfold sgF
  rw [if_neg h]
theorem sg3_of {b : Int32} (h : ((-1) : Int32) ≤ b ∧ b ≤ 1) : sg3 b := by
  have h1 := Int32.le_iff_toInt_le.mp h.1
  have h2 := Int32.le_iff_toInt_le.mp h.2
  have e1 : ((-1) : Int32).toInt = -1 := by decide
  have e2 : (1 : Int32).toInt = 1 := by decide
  rw [e1] at h1
  rw [e2] at h2
  have e : b.toInt = -1 ∨ b.toInt = 0 ∨ b.toInt = 1 := by omega
  rcases e with e | e | e
  · exact Or.inl (Int32.toInt_inj.mp (e.trans (by decide)))
  · exact Or.inr (Or.inl (Int32.toInt_inj.mp (e.trans (by decide))))
  · exact Or.inr (Or.inr (Int32.toInt_inj.mp (e.trans (by decide))))
theorem sgF_3 {a b : Int32} {f r : Nat → Int32} (e : r = sgF a b f) (h : ∀ i, i < 6 → sg3 (f i)) : ∀ i, i < 6 → sg3 (r i) := by
  intro i hi
  rw [e]
  unfold sgF
  split
  · rename_i w
    show sg3 (if i = a.toNatClampNeg then b else f i)
    split
    · exact sg3_of w.2
    · exact h i hi
  · exact h i hi
theorem sgF_e {a b : Int32} {f g r r' : Nat → Int32} (e : r = sgF a b f) (e' : r' = sgF a b g) (h : ∀ i, i < 6 → f i = g i) : ∀ i, i < 6 → r i = r' i := by
  intro i hi
  rw [e, e']
  unfold sgF
  split
  · show (if i = a.toNatClampNeg then b else f i) = if i = a.toNatClampNeg then b else g i
    rw [h i hi]
  · exact h i hi
theorem prodF_e {f g g' : Nat → Int32} (h : ∀ i, i < 6 → g i = g' i) (k n : Nat) (hn : n ≤ 6) : prodF f g k n = prodF f g' k n := by
  induction n with
  | zero => rfl
  | succ n ih =>
    show (if g n = -1 then prodF f g k n else prodF f g k n * (pf1 f g k n).toInt64) = if g' n = -1 then prodF f g' k n else prodF f g' k n * (pf1 f g' k n).toInt64
    have e := h n (by omega)
    have ep : pf1 f g k n = pf1 f g' k n := by
      unfold pf1
      rw [e]
    rw [ih (by omega), ep, e]
theorem sumF_e {f g g' t : Nat → Int32} (h : ∀ i, i < 6 → g i = g' i) (n : Nat) : sumF f g t n = sumF f g' t n := by
  induction n with
  | zero => rfl
  | succ n ih =>
    show (if t n = 0 then sumF f g t n + 0 else sumF f g t n + prodF f g n 6) = if t n = 0 then sumF f g' t n + 0 else sumF f g' t n + prodF f g' n 6
    rw [ih, prodF_e h n 6 (Nat.le_refl _)]
theorem oddF_e {f f' g g' t t' : Nat → Int32} {n : Int32} (hf : f = f') (ht : t = t') (h : ∀ i, i < 6 → g i = g' i) : oddF f g t n = oddF f' g' t' n := by
  subst hf ht
  unfold oddF
  rw [sumF_e h, prodF_e h _ 6 (Nat.le_refl _)]
theorem lf_X7_product_f_3 (a : Nat → Nat) (y0 : Nat → Int32) (y2 : Nat → Int32) (x1 : Nat) (hx1 : x1 < 6) (hs3 : ∀ i, i < 6 → sg3 (y2 i)) (j1 : Nat) (w1 : Int64) (k5 : Nat) (hj5 : j1 ≤ 6) (hk5 : 6 < j1 + (k5 + 1)) (hw : w1 = prodF y0 y2 x1 j1) (c_1 : 6 ≤ nI j1) : 6 ≤ j1 := by
  exact (nI_leI (a := 6) (b := j1) (by omega) (by omega)).mp c_1
theorem lf_X7_product_f_4 (a : Nat → Nat) (y0 : Nat → Int32) (y2 : Nat → Int32) (x1 : Nat) (hx1 : x1 < 6) (hs3 : ∀ i, i < 6 → sg3 (y2 i)) (j1 : Nat) (w1 : Int64) (k5 : Nat) (hj5 : j1 ≤ 6) (hk5 : 6 < j1 + (k5 + 1)) (hw : w1 = prodF y0 y2 x1 j1) (c_1 : 6 ≤ nI j1) (n_2 : 6 ≤ j1) : (w1 : Int64) = prodF y0 y2 x1 6 := by
  exact at6 (F := fun i => prodF y0 y2 x1 i) (by assumption) (by assumption) (by assumption)
theorem lf_X7_product_f_6 (a : Nat → Nat) (y0 : Nat → Int32) (y2 : Nat → Int32) (x1 : Nat) (hx1 : x1 < 6) (hs3 : ∀ i, i < 6 → sg3 (y2 i)) (j1 : Nat) (w1 : Int64) (k5 : Nat) (hj5 : j1 ≤ 6) (hk5 : 6 < j1 + (k5 + 1)) (hw : w1 = prodF y0 y2 x1 j1) (c_1 : ¬ 6 ≤ nI j1) : j1 < 6 := by
  exact Nat.lt_of_not_le (fun q => c_1 ((nI_leI (a := 6) (b := j1) (by omega) (by omega)).mpr q))
theorem lf_X7_product_f_7 (a : Nat → Nat) (y0 : Nat → Int32) (y2 : Nat → Int32) (x1 : Nat) (hx1 : x1 < 6) (hs3 : ∀ i, i < 6 → sg3 (y2 i)) (j1 : Nat) (w1 : Int64) (k5 : Nat) (hj5 : j1 ≤ 6) (hk5 : 6 < j1 + (k5 + 1)) (hw : w1 = prodF y0 y2 x1 j1) (c_1 : ¬ 6 ≤ nI j1) (n_5 : j1 < 6) : ((x1 * 6) + j1) < 36 := by
  omega
theorem lf_X7_product_f_8 (a : Nat → Nat) (y0 : Nat → Int32) (y2 : Nat → Int32) (x1 : Nat) (hx1 : x1 < 6) (hs3 : ∀ i, i < 6 → sg3 (y2 i)) (j1 : Nat) (w1 : Int64) (k5 : Nat) (hj5 : j1 ≤ 6) (hk5 : 6 < j1 + (k5 + 1)) (hw : w1 = prodF y0 y2 x1 j1) (c_1 : ¬ 6 ≤ nI j1) (n_5 : j1 < 6) : j1 < 6 := by
  omega
theorem lf_X7_product_f_10 (a : Nat → Nat) (y0 : Nat → Int32) (y2 : Nat → Int32) (x1 : Nat) (hx1 : x1 < 6) (hs3 : ∀ i, i < 6 → sg3 (y2 i)) (j1 : Nat) (w1 : Int64) (k5 : Nat) (hj5 : j1 ≤ 6) (hk5 : 6 < j1 + (k5 + 1)) (hw : w1 = prodF y0 y2 x1 j1) (c_1 : ¬ 6 ≤ nI j1) (n_5 : j1 < 6) (c_9 : y2 j1 < 0) : w1 = prodF y0 y2 x1 (j1 + 1) := by
  first | rfl | exact prodF_n (by first | assumption | exact sg_m (hs3 _ (by assumption)) (by assumption)) (by assumption) | exact prodF_y (by first | assumption | exact sg_ge (by assumption)) (by first | exact pf1_1 (by assumption) | exact pf1_0 (by assumption) (by assumption) | exact pf1_1' (by assumption) | exact pf1_0' (by assumption) (by assumption)) (by assumption) (by assumption)
theorem lf_X7_product_f_11 (a : Nat → Nat) (y0 : Nat → Int32) (y2 : Nat → Int32) (x1 : Nat) (hx1 : x1 < 6) (hs3 : ∀ i, i < 6 → sg3 (y2 i)) (j1 : Nat) (w1 : Int64) (k5 : Nat) (hj5 : j1 ≤ 6) (hk5 : 6 < j1 + (k5 + 1)) (hw : w1 = prodF y0 y2 x1 j1) (c_1 : ¬ 6 ≤ nI j1) (n_5 : j1 < 6) (c_9 : ¬ y2 j1 < 0) : j1 < 6 := by
  omega
theorem lf_X7_product_f_15 (a : Nat → Nat) (y0 : Nat → Int32) (y2 : Nat → Int32) (x1 : Nat) (hx1 : x1 < 6) (hs3 : ∀ i, i < 6 → sg3 (y2 i)) (j1 : Nat) (w1 : Int64) (k5 : Nat) (hj5 : j1 ≤ 6) (hk5 : 6 < j1 + (k5 + 1)) (hw : w1 = prodF y0 y2 x1 j1) (c_1 : ¬ 6 ≤ nI j1) (n_5 : j1 < 6) (c_9 : ¬ y2 j1 < 0) (c_12 : ¬ y2 j1 = 1) (x_13 : Int32) (ex_13 : x_13 = 1000 - y0 ((x1 * 6) + j1)) (x_14 : Int64) (ex_14 : x_14 = w1 * x_13.toInt64) : x_14 = prodF y0 y2 x1 (j1 + 1) := by
  first | rfl | exact prodF_n (by first | assumption | exact sg_m (hs3 _ (by assumption)) (by assumption)) (by assumption) | exact prodF_y (by first | assumption | exact sg_ge (by assumption)) (by first | exact pf1_1 (by assumption) | exact pf1_0 (by assumption) (by assumption) | exact pf1_1' (by assumption) | exact pf1_0' (by assumption) (by assumption)) (by assumption) (by assumption)
theorem lf_X7_product_f_17 (a : Nat → Nat) (y0 : Nat → Int32) (y2 : Nat → Int32) (x1 : Nat) (hx1 : x1 < 6) (hs3 : ∀ i, i < 6 → sg3 (y2 i)) (j1 : Nat) (w1 : Int64) (k5 : Nat) (hj5 : j1 ≤ 6) (hk5 : 6 < j1 + (k5 + 1)) (hw : w1 = prodF y0 y2 x1 j1) (c_1 : ¬ 6 ≤ nI j1) (n_5 : j1 < 6) (c_9 : ¬ y2 j1 < 0) (c_12 : y2 j1 = 1) (x_16 : Int64) (ex_16 : x_16 = w1 * (y0 ((x1 * 6) + j1)).toInt64) : x_16 = prodF y0 y2 x1 (j1 + 1) := by
  first | rfl | exact prodF_n (by first | assumption | exact sg_m (hs3 _ (by assumption)) (by assumption)) (by assumption) | exact prodF_y (by first | assumption | exact sg_ge (by assumption)) (by first | exact pf1_1 (by assumption) | exact pf1_0 (by assumption) (by assumption) | exact pf1_1' (by assumption) | exact pf1_0' (by assumption) (by assumption)) (by assumption) (by assumption)
theorem lf_X7_product_f_18 (a : Nat → Nat) (y0 : Nat → Int32) (y2 : Nat → Int32) (x1 : Nat) (hx1 : x1 < 6) (hs3 : ∀ i, i < 6 → sg3 (y2 i)) : (1 : Int64) = prodF y0 y2 x1 0 := by
  first | rfl | exact prodF_n (by first | assumption | exact sg_m (hs3 _ (by assumption)) (by assumption)) (by assumption) | exact prodF_y (by first | assumption | exact sg_ge (by assumption)) (by first | exact pf1_1 (by assumption) | exact pf1_0 (by assumption) (by assumption) | exact pf1_1' (by assumption) | exact pf1_0' (by assumption) (by assumption)) (by assumption) (by assumption)
set_option maxHeartbeats 4000000 in
set_option maxRecDepth 100000 in
theorem c_X7_product_f (l : Launch) (D : va_G) (cI cB cZ cJ : ClassId) (tx : List (ClassId × FieldType)) (a : Nat → Nat) (y0 : Nat → Int32) (y2 : Nat → Int32) (x1 : Nat) (hx1 : x1 < 6) (hs3 : ∀ i, i < 6 → sg3 (y2 i)) : RdL l D cI cB cZ cJ tx yX7_product cX7_product 6 (some .long) 0 [.ref (a 12), .int (nI x1)] [(a 12, .inr (7, [.ref (a 48), .ref (a 49), .ref (a 50)])), (a 48, .inl (cI, 36, .inl y0)), (a 50, .inl (cI, 6, .inl y2))] (fun r => r = prodF y0 y2 x1 6) := by
  refine rdl_of2 (by decide) (Nat.le_of_ble_eq_true rfl) ?_
  intro p e s m below meth c A ls H locs hC hK hP hD hA hS hl
  obtain ⟨hx, hb, hr, hml, hown, hts, hlocks, hin⟩ := hC
  have hown : s.vm.findClass RX7 = some m.cls := hown
  have hl : lv_has ls 6 [(0, .ref (a 12)), (1, .int (nI x1))] := hl
  refine W_gQ (fun Q hQ => ?_)
  refine lv_lconst (v := 1) hx hb dX7_product_0 (by decide) ?_
  refine lv_lstore_n (lv' := [(2, .long 1), (0, .ref (a 12)), (1, .int (nI x1))]) hx hb dX7_product_1 rfl hl (by decide) rfl (fun ls hl => ?_)
  refine lv_iconst (v := 0) hx hb dX7_product_2 (by decide) ?_
  refine lv_istore (lv' := [(4, .int 0), (2, .long 1), (0, .ref (a 12)), (1, .int (nI x1))]) hx hb dX7_product_3 hl (by decide) rfl (fun ls hl => ?_)
  have lp5 : ∀ (k5 : Nat) (j1 : Nat) (w1 : Int64) (H : Heap) (locs : List Loc) (ls : Array Slot), j1 ≤ 6 → 6 < j1 + k5 → (w1 = prodF y0 y2 x1 j1) → va_P D vwCl [(a 12, .inr (7, [.ref (a 48), .ref (a 49), .ref (a 50)])), (a 48, .inl (cI, 36, .inl y0)), (a 50, .inl (cI, 6, .inl y2))] H → va_S A s.heap H locs → lv_has ls 6 [(4, .int (nI j1)), (2, .long w1), (0, .ref (a 12)), (1, .int (nI x1))] → W p l e (rmX 0 0 0) s m ([.ref (a 12), .int (nI x1)] : List Value).toArray below meth c H locs 0 0 Q (F0 m 5 ls []) := by
    intro k5
    induction k5 with
    | zero =>
      intro j1 w1 H locs ls hj5 hk5 hw hP hS hl
      exact absurd hk5 (by omega)
    | succ k5 ih5 =>
      intro j1 w1 H locs ls hj5 hk5 hw hP hS hl
      refine lv_iload hx hb dX7_product_5 (lv_at hl 0 rfl) ?_
      refine lv_bipush (v := 6) hx hb dX7_product_7 (by decide) ?_
      refine lv_icmp_ge (tgt := 69) hx hb dX7_product_9 (by decide) (fun c_1 => ?_) (fun c_1 => ?_)
      · have n_2 : 6 ≤ j1 := (lf_X7_product_f_3 a y0 y2 x1 hx1 hs3 j1 w1 k5 hj5 hk5 hw c_1)
        refine lv_lload_n hx hb dX7_product_69 rfl (lv_at hl 1 rfl) ?_
        rw [hQ]
        exact W.lret (v := w1) hx hb hr (fun tt9 ht hW => ⟨⟨(w1 : Int64), (), rfl, (lf_X7_product_f_4 a y0 y2 x1 hx1 hs3 j1 w1 k5 hj5 hk5 hw c_1 n_2), trivial⟩, hS.F ht⟩) hS.2.2 dX7_product_70 hlocks
      · have n_5 : j1 < 6 := (lf_X7_product_f_6 a y0 y2 x1 hx1 hs3 j1 w1 k5 hj5 hk5 hw c_1)
        refine lv_aload_n hx hb dX7_product_12 rfl (lv_at hl 2 rfl) ?_
        refine va_get (D := D) (ci := 7) (v := .ref (a 48)) (C := RX7) (T := TX7) (N := 3) hx hb hts inT_X7 hown hK.1 hP 0 rfl rfl 0 (by decide) (hts _ k_471) (fun _ h9 => h9) rfl dX7_product_13 ?_
        refine lv_iload_n hx hb dX7_product_16 rfl (lv_at hl 3 rfl) ?_
        refine lv_bipush (v := 6) hx hb dX7_product_17 (by decide) ?_
        refine lv_imul hx hb dX7_product_19 ?_
        refine lv_topv (y := nI (x1 * 6)) (pk_mul x1 6) ?_
        refine lv_iload hx hb dX7_product_20 (lv_at hl 0 rfl) ?_
        refine lv_iadd hx hb dX7_product_22 ?_
        refine lv_topv (y := nI ((x1 * 6) + j1)) (nI_add (x1 * 6) j1) ?_
        refine lt_i (j := ((x1 * 6) + j1)) hx hb hK hP 1 rfl (lf_X7_product_f_7 a y0 y2 x1 hx1 hs3 j1 w1 k5 hj5 hk5 hw c_1 n_5) (by decide) dX7_product_23 ?_
        refine lv_istore (lv' := [(5, .int (y0 ((x1 * 6) + j1))), (4, .int (nI j1)), (2, .long w1), (0, .ref (a 12)), (1, .int (nI x1))]) hx hb dX7_product_24 hl (by decide) rfl (fun ls hl => ?_)
        refine lv_aload_n hx hb dX7_product_26 rfl (lv_at hl 3 rfl) ?_
        refine va_get (D := D) (ci := 7) (v := .ref (a 50)) (C := RX7) (T := TX7) (N := 3) hx hb hts inT_X7 hown hK.1 hP 0 rfl rfl 2 (by decide) (hts _ k_474) (fun _ h9 => h9) rfl dX7_product_27 ?_
        refine lv_iload hx hb dX7_product_30 (lv_at hl 1 rfl) ?_
        refine lt_i (j := j1) hx hb hK hP 2 rfl (lf_X7_product_f_8 a y0 y2 x1 hx1 hs3 j1 w1 k5 hj5 hk5 hw c_1 n_5) (by decide) dX7_product_32 ?_
        refine lv_if_lt (tgt := 63) hx hb dX7_product_33 (by decide) (fun c_9 => ?_) (fun c_9 => ?_)
        · refine lv_iinc (v := nI (j1 + 1)) (lv' := [(4, .int (nI (j1 + 1))), (5, .int (y0 ((x1 * 6) + j1))), (2, .long w1), (0, .ref (a 12)), (1, .int (nI x1))]) hx hb dX7_product_63 hl (k := 1) rfl (nI_1 j1) (by decide) rfl (fun ls hl => ?_)
          refine lv_goto (tgt := 5) hx hb dX7_product_66 (by decide) ?_
          exact ih5 (j1 + 1) w1 H locs ls (by omega) (by omega) (lf_X7_product_f_10 a y0 y2 x1 hx1 hs3 j1 w1 k5 hj5 hk5 hw c_1 n_5 c_9) (hP.sub [0, 1, 2] rfl)  hS (lv_sub hl [0, 2, 3, 4] rfl)
        · refine lv_lload_n hx hb dX7_product_36 rfl (lv_at hl 2 rfl) ?_
          refine lv_aload_n hx hb dX7_product_37 rfl (lv_at hl 3 rfl) ?_
          refine va_get (D := D) (ci := 7) (v := .ref (a 50)) (C := RX7) (T := TX7) (N := 3) hx hb hts inT_X7 hown hK.1 hP 0 rfl rfl 2 (by decide) (hts _ k_474) (fun _ h9 => h9) rfl dX7_product_38 ?_
          refine lv_iload hx hb dX7_product_41 (lv_at hl 1 rfl) ?_
          refine lt_i (j := j1) hx hb hK hP 2 rfl (lf_X7_product_f_11 a y0 y2 x1 hx1 hs3 j1 w1 k5 hj5 hk5 hw c_1 n_5 c_9) (by decide) dX7_product_43 ?_
          refine lv_iconst (v := 1) hx hb dX7_product_44 (by decide) ?_
          refine lv_icmp_ne (tgt := 54) hx hb dX7_product_45 (by decide) (fun c_12 => ?_) (fun c_12 => ?_)
          · refine lv_sipush (v := 1000) hx hb dX7_product_54 (by decide) ?_
            refine lv_iload hx hb dX7_product_57 (lv_at hl 0 rfl) ?_
            refine lv_isub hx hb dX7_product_59 ?_
            refine lv_topi (fun x_13 ex_13 => ?_)
            refine lv_i2l (v := x_13.toInt64) hx hb dX7_product_60 rfl ?_
            refine lv_lmul hx hb dX7_product_61 ?_
            refine lv_topl (fun x_14 ex_14 => ?_)
            refine lv_lstore_n (lv' := [(2, .long x_14), (5, .int (y0 ((x1 * 6) + j1))), (4, .int (nI j1)), (0, .ref (a 12)), (1, .int (nI x1))]) hx hb dX7_product_62 rfl hl (by decide) rfl (fun ls hl => ?_)
            refine lv_iinc (v := nI (j1 + 1)) (lv' := [(4, .int (nI (j1 + 1))), (2, .long x_14), (5, .int (y0 ((x1 * 6) + j1))), (0, .ref (a 12)), (1, .int (nI x1))]) hx hb dX7_product_63 hl (k := 2) rfl (nI_1 j1) (by decide) rfl (fun ls hl => ?_)
            refine lv_goto (tgt := 5) hx hb dX7_product_66 (by decide) ?_
            exact ih5 (j1 + 1) x_14 H locs ls (by omega) (by omega) (lf_X7_product_f_15 a y0 y2 x1 hx1 hs3 j1 w1 k5 hj5 hk5 hw c_1 n_5 c_9 c_12 x_13 ex_13 x_14 ex_14) (hP.sub [0, 1, 2] rfl)  hS (lv_sub hl [0, 1, 3, 4] rfl)
          · refine lv_iload hx hb dX7_product_48 (lv_at hl 0 rfl) ?_
            refine lv_i2l (v := (y0 ((x1 * 6) + j1)).toInt64) hx hb dX7_product_50 rfl ?_
            refine lv_goto (tgt := 61) hx hb dX7_product_51 (by decide) ?_
            refine lv_lmul hx hb dX7_product_61 ?_
            refine lv_topl (fun x_16 ex_16 => ?_)
            refine lv_lstore_n (lv' := [(2, .long x_16), (5, .int (y0 ((x1 * 6) + j1))), (4, .int (nI j1)), (0, .ref (a 12)), (1, .int (nI x1))]) hx hb dX7_product_62 rfl hl (by decide) rfl (fun ls hl => ?_)
            refine lv_iinc (v := nI (j1 + 1)) (lv' := [(4, .int (nI (j1 + 1))), (2, .long x_16), (5, .int (y0 ((x1 * 6) + j1))), (0, .ref (a 12)), (1, .int (nI x1))]) hx hb dX7_product_63 hl (k := 2) rfl (nI_1 j1) (by decide) rfl (fun ls hl => ?_)
            refine lv_goto (tgt := 5) hx hb dX7_product_66 (by decide) ?_
            exact ih5 (j1 + 1) x_16 H locs ls (by omega) (by omega) (lf_X7_product_f_17 a y0 y2 x1 hx1 hs3 j1 w1 k5 hj5 hk5 hw c_1 n_5 c_9 c_12 x_16 ex_16) (hP.sub [0, 1, 2] rfl)  hS (lv_sub hl [0, 1, 3, 4] rfl)
  exact lp5 (6 + 1) 0 1 H locs ls (by omega) (by omega) (lf_X7_product_f_18 a y0 y2 x1 hx1 hs3) (hP.sub [0, 1, 2] rfl)  hS (lv_sub hl [0, 1, 2, 3] rfl)

theorem lf_X7_together_f_3 (a : Nat → Nat) (y0 : Nat → Int32) (y1 : Nat → Int32) (y2 : Nat → Int32) (hs3 : ∀ i, i < 6 → sg3 (y2 i)) (j1 : Nat) (w1 : Int64) (k4 : Nat) (hj4 : j1 ≤ 6) (hk4 : 6 < j1 + (k4 + 1)) (hw : w1 = sumF y0 y2 y1 j1) (c_1 : 6 ≤ nI j1) : 6 ≤ j1 := by
  exact (nI_leI (a := 6) (b := j1) (by omega) (by omega)).mp c_1
theorem lf_X7_together_f_4 (a : Nat → Nat) (y0 : Nat → Int32) (y1 : Nat → Int32) (y2 : Nat → Int32) (hs3 : ∀ i, i < 6 → sg3 (y2 i)) (j1 : Nat) (w1 : Int64) (k4 : Nat) (hj4 : j1 ≤ 6) (hk4 : 6 < j1 + (k4 + 1)) (hw : w1 = sumF y0 y2 y1 j1) (c_1 : 6 ≤ nI j1) (n_2 : 6 ≤ j1) : (w1 : Int64) = sumF y0 y2 y1 6 := by
  exact at6 (F := fun i => sumF y0 y2 y1 i) (by assumption) (by assumption) (by assumption)
theorem lf_X7_together_f_6 (a : Nat → Nat) (y0 : Nat → Int32) (y1 : Nat → Int32) (y2 : Nat → Int32) (hs3 : ∀ i, i < 6 → sg3 (y2 i)) (j1 : Nat) (w1 : Int64) (k4 : Nat) (hj4 : j1 ≤ 6) (hk4 : 6 < j1 + (k4 + 1)) (hw : w1 = sumF y0 y2 y1 j1) (c_1 : ¬ 6 ≤ nI j1) : j1 < 6 := by
  exact Nat.lt_of_not_le (fun q => c_1 ((nI_leI (a := 6) (b := j1) (by omega) (by omega)).mpr q))
theorem lf_X7_together_f_7 (a : Nat → Nat) (y0 : Nat → Int32) (y1 : Nat → Int32) (y2 : Nat → Int32) (hs3 : ∀ i, i < 6 → sg3 (y2 i)) (j1 : Nat) (w1 : Int64) (k4 : Nat) (hj4 : j1 ≤ 6) (hk4 : 6 < j1 + (k4 + 1)) (hw : w1 = sumF y0 y2 y1 j1) (c_1 : ¬ 6 ≤ nI j1) (n_5 : j1 < 6) : j1 < 6 := by
  omega
theorem lf_X7_together_f_10 (a : Nat → Nat) (y0 : Nat → Int32) (y1 : Nat → Int32) (y2 : Nat → Int32) (hs3 : ∀ i, i < 6 → sg3 (y2 i)) (j1 : Nat) (w1 : Int64) (k4 : Nat) (hj4 : j1 ≤ 6) (hk4 : 6 < j1 + (k4 + 1)) (hw : w1 = sumF y0 y2 y1 j1) (c_1 : ¬ 6 ≤ nI j1) (n_5 : j1 < 6) (c_8 : y1 j1 = 0) (x_9 : Int64) (ex_9 : x_9 = w1 + 0) : x_9 = sumF y0 y2 y1 (j1 + 1) := by
  first | rfl | exact sumF_n (by assumption) (by assumption) (by assumption) | exact sumF_y (by assumption) (by assumption) (by assumption)
theorem lf_X7_together_f_11 (a : Nat → Nat) (y0 : Nat → Int32) (y1 : Nat → Int32) (y2 : Nat → Int32) (hs3 : ∀ i, i < 6 → sg3 (y2 i)) (j1 : Nat) (w1 : Int64) (k4 : Nat) (hj4 : j1 ≤ 6) (hk4 : 6 < j1 + (k4 + 1)) (hw : w1 = sumF y0 y2 y1 j1) (c_1 : ¬ 6 ≤ nI j1) (n_5 : j1 < 6) (c_8 : ¬ y1 j1 = 0) : j1 < 6 := by
  first | assumption | omega | decide
theorem lf_X7_together_f_12 (a : Nat → Nat) (y0 : Nat → Int32) (y1 : Nat → Int32) (y2 : Nat → Int32) (hs3 : ∀ i, i < 6 → sg3 (y2 i)) (j1 : Nat) (w1 : Int64) (k4 : Nat) (hj4 : j1 ≤ 6) (hk4 : 6 < j1 + (k4 + 1)) (hw : w1 = sumF y0 y2 y1 j1) (c_1 : ¬ 6 ≤ nI j1) (n_5 : j1 < 6) (c_8 : ¬ y1 j1 = 0) : ∀ i, i < 6 → sg3 (y2 i) := by
  first | assumption | omega | decide
theorem lf_X7_together_f_15 (a : Nat → Nat) (y0 : Nat → Int32) (y1 : Nat → Int32) (y2 : Nat → Int32) (hs3 : ∀ i, i < 6 → sg3 (y2 i)) (j1 : Nat) (w1 : Int64) (k4 : Nat) (hj4 : j1 ≤ 6) (hk4 : 6 < j1 + (k4 + 1)) (hw : w1 = sumF y0 y2 y1 j1) (c_1 : ¬ 6 ≤ nI j1) (n_5 : j1 < 6) (c_8 : ¬ y1 j1 = 0) (x_14 : Int64) (ex_14 : x_14 = w1 + prodF y0 y2 j1 6) : x_14 = sumF y0 y2 y1 (j1 + 1) := by
  first | rfl | exact sumF_n (by assumption) (by assumption) (by assumption) | exact sumF_y (by assumption) (by assumption) (by assumption)
theorem lf_X7_together_f_16 (a : Nat → Nat) (y0 : Nat → Int32) (y1 : Nat → Int32) (y2 : Nat → Int32) (hs3 : ∀ i, i < 6 → sg3 (y2 i)) : (0 : Int64) = sumF y0 y2 y1 0 := by
  first | rfl | exact sumF_n (by assumption) (by assumption) (by assumption) | exact sumF_y (by assumption) (by assumption) (by assumption)
set_option maxHeartbeats 4000000 in
set_option maxRecDepth 100000 in
theorem c_X7_together_f (l : Launch) (D : va_G) (cI cB cZ cJ : ClassId) (tx : List (ClassId × FieldType)) (a : Nat → Nat) (y0 : Nat → Int32) (y1 : Nat → Int32) (y2 : Nat → Int32) (hs3 : ∀ i, i < 6 → sg3 (y2 i)) : RdL l D cI cB cZ cJ tx yX7_together cX7_together 4 (some .long) 1 [.ref (a 12)] [(a 12, .inr (7, [.ref (a 48), .ref (a 49), .ref (a 50)])), (a 48, .inl (cI, 36, .inl y0)), (a 49, .inl (cZ, 6, .inl y1)), (a 50, .inl (cI, 6, .inl y2))] (fun r => r = sumF y0 y2 y1 6) := by
  refine rdl_of2 (by decide) (Nat.le_of_ble_eq_true rfl) ?_
  intro p e s m below meth c A ls H locs hC hK hP hD hA hS hl
  obtain ⟨hx, hb, hr, hml, hown, hts, hlocks, hin⟩ := hC
  have hown : s.vm.findClass RX7 = some m.cls := hown
  have hl : lv_has ls 4 [(0, .ref (a 12))] := hl
  refine W_gQ (fun Q hQ => ?_)
  refine lv_lconst (v := 0) hx hb dX7_together_0 (by decide) ?_
  refine lv_lstore_n (lv' := [(1, .long 0), (0, .ref (a 12))]) hx hb dX7_together_1 rfl hl (by decide) rfl (fun ls hl => ?_)
  refine lv_iconst (v := 0) hx hb dX7_together_2 (by decide) ?_
  refine lv_istore_n (lv' := [(3, .int 0), (1, .long 0), (0, .ref (a 12))]) hx hb dX7_together_3 rfl hl (by decide) rfl (fun ls hl => ?_)
  have lp4 : ∀ (k4 : Nat) (j1 : Nat) (w1 : Int64) (H : Heap) (locs : List Loc) (ls : Array Slot), j1 ≤ 6 → 6 < j1 + k4 → (w1 = sumF y0 y2 y1 j1) → va_P D vwCl [(a 12, .inr (7, [.ref (a 48), .ref (a 49), .ref (a 50)])), (a 48, .inl (cI, 36, .inl y0)), (a 49, .inl (cZ, 6, .inl y1)), (a 50, .inl (cI, 6, .inl y2))] H → va_S A s.heap H locs → lv_has ls 4 [(3, .int (nI j1)), (1, .long w1), (0, .ref (a 12))] → W p l e (rmX 1 0 0) s m ([.ref (a 12)] : List Value).toArray below meth c H locs 0 0 Q (F0 m 4 ls []) := by
    intro k4
    induction k4 with
    | zero =>
      intro j1 w1 H locs ls hj4 hk4 hw hP hS hl
      exact absurd hk4 (by omega)
    | succ k4 ih4 =>
      intro j1 w1 H locs ls hj4 hk4 hw hP hS hl
      refine lv_iload_n hx hb dX7_together_4 rfl (lv_at hl 0 rfl) ?_
      refine lv_bipush (v := 6) hx hb dX7_together_5 (by decide) ?_
      refine lv_icmp_ge (tgt := 37) hx hb dX7_together_7 (by decide) (fun c_1 => ?_) (fun c_1 => ?_)
      · have n_2 : 6 ≤ j1 := (lf_X7_together_f_3 a y0 y1 y2 hs3 j1 w1 k4 hj4 hk4 hw c_1)
        refine lv_lload_n hx hb dX7_together_37 rfl (lv_at hl 1 rfl) ?_
        rw [hQ]
        exact W.lret (v := w1) hx hb hr (fun tt9 ht hW => ⟨⟨(w1 : Int64), (), rfl, (lf_X7_together_f_4 a y0 y1 y2 hs3 j1 w1 k4 hj4 hk4 hw c_1 n_2), trivial⟩, hS.F ht⟩) hS.2.2 dX7_together_38 hlocks
      · have n_5 : j1 < 6 := (lf_X7_together_f_6 a y0 y1 y2 hs3 j1 w1 k4 hj4 hk4 hw c_1)
        refine lv_lload_n hx hb dX7_together_10 rfl (lv_at hl 1 rfl) ?_
        refine lv_aload_n hx hb dX7_together_11 rfl (lv_at hl 2 rfl) ?_
        refine va_get (D := D) (ci := 7) (v := .ref (a 49)) (C := RX7) (T := TX7) (N := 3) hx hb hts inT_X7 hown hK.1 hP 0 rfl rfl 1 (by decide) (hts _ k_472) (fun _ h9 => h9) rfl dX7_together_12 ?_
        refine lv_iload_n hx hb dX7_together_15 rfl (lv_at hl 0 rfl) ?_
        refine lt_z (j := j1) hx hb hK hP 2 rfl (lf_X7_together_f_7 a y0 y1 y2 hs3 j1 w1 k4 hj4 hk4 hw c_1 n_5) (by decide) dX7_together_16 ?_
        refine lv_if_eq (tgt := 28) hx hb dX7_together_17 (by decide) (fun c_8 => ?_) (fun c_8 => ?_)
        · refine lv_lconst (v := 0) hx hb dX7_together_28 (by decide) ?_
          refine lv_ladd hx hb dX7_together_29 ?_
          refine lv_topl (fun x_9 ex_9 => ?_)
          refine lv_lstore_n (lv' := [(1, .long x_9), (3, .int (nI j1)), (0, .ref (a 12))]) hx hb dX7_together_30 rfl hl (by decide) rfl (fun ls hl => ?_)
          refine lv_iinc (v := nI (j1 + 1)) (lv' := [(3, .int (nI (j1 + 1))), (1, .long x_9), (0, .ref (a 12))]) hx hb dX7_together_31 hl (k := 1) rfl (nI_1 j1) (by decide) rfl (fun ls hl => ?_)
          refine lv_goto (tgt := 4) hx hb dX7_together_34 (by decide) ?_
          exact ih4 (j1 + 1) x_9 H locs ls (by omega) (by omega) (lf_X7_together_f_10 a y0 y1 y2 hs3 j1 w1 k4 hj4 hk4 hw c_1 n_5 c_8 x_9 ex_9) (hP.sub [0, 1, 2, 3] rfl)  hS (lv_sub hl [0, 1, 2] rfl)
        · refine lv_aload_n hx hb dX7_together_20 rfl (lv_at hl 2 rfl) ?_
          refine lv_iload_n hx hb dX7_together_21 rfl (lv_at hl 0 rfl) ?_
          refine eRl (va_runV (As := [.int (nI j1)]) (rest := [.long w1]) ⟨hx, hb, hml, hown, hts⟩ (c_X7_product_f l D cI cB cZ cJ tx a y0 y2 j1 (lf_X7_together_f_11 a y0 y1 y2 hs3 j1 w1 k4 hj4 hk4 hw c_1 n_5 c_8) (lf_X7_together_f_12 a y0 y1 y2 hs3 j1 w1 k4 hj4 hk4 hw c_1 n_5 c_8) H.size) (zV hts k_1209 v_X7_product ⟨Nat.le_of_ble_eq_true rfl, Nat.le_of_ble_eq_true rfl⟩) (pV (pxS hK hP hD [0, 1, 3] (by decide) rfl) hK hP 0 rfl rfl) rfl rfl hl.1 rfl (lv_room (Nat.le_of_ble_eq_true rfl)) dX7_together_22 ⟨Nat.le_of_ble_eq_true rfl, Nat.le_of_ble_eq_true rfl⟩) hP hS hA (fun r_13 H locs wr_13 hP hS => ?_)
          subst wr_13
          refine lv_goto (tgt := 29) hx hb dX7_together_25 (by decide) ?_
          refine lv_ladd hx hb dX7_together_29 ?_
          refine lv_topl (fun x_14 ex_14 => ?_)
          refine lv_lstore_n (lv' := [(1, .long x_14), (3, .int (nI j1)), (0, .ref (a 12))]) hx hb dX7_together_30 rfl hl (by decide) rfl (fun ls hl => ?_)
          refine lv_iinc (v := nI (j1 + 1)) (lv' := [(3, .int (nI (j1 + 1))), (1, .long x_14), (0, .ref (a 12))]) hx hb dX7_together_31 hl (k := 1) rfl (nI_1 j1) (by decide) rfl (fun ls hl => ?_)
          refine lv_goto (tgt := 4) hx hb dX7_together_34 (by decide) ?_
          exact ih4 (j1 + 1) x_14 H locs ls (by omega) (by omega) (lf_X7_together_f_15 a y0 y1 y2 hs3 j1 w1 k4 hj4 hk4 hw c_1 n_5 c_8 x_14 ex_14) (hP.sub [0, 1, 2, 3] rfl)  hS (lv_sub hl [0, 1, 2] rfl)
  exact lp4 (6 + 1) 0 0 H locs ls (by omega) (by omega) (lf_X7_together_f_16 a y0 y1 y2 hs3) (hP.sub [0, 1, 2, 3] rfl)  hS (lv_sub hl [0, 1, 2] rfl)

theorem lf_X11_odds_f_4 (a : Nat → Nat) (ap : Int32) (y0 : Nat → Int32) (y1 : Nat → Int32) (y2 : Nat → Int32) (n1 : Int32) (hs3 : ∀ i, i < 6 → sg3 (y2 i)) (c_1 : ¬ n1 = (-1)) (c_3 : ¬ ((0 : Int32) ≤ n1 ∧ n1 ≤ 5)) : ((-1) : Int64) = oddF y0 y2 y1 n1 := by
  first | exact oddF_a (by assumption) rfl | exact oddF_a (by assumption) (by assumption) | exact oddF_n (by assumption) (by assumption) | exact oddF_t (by assumption) (by assumption) (by assumption) (by assumption) | exact oddF_y (by assumption) (by assumption) (by assumption) (by assumption) (by assumption)
theorem lf_X11_odds_f_5 (a : Nat → Nat) (ap : Int32) (y0 : Nat → Int32) (y1 : Nat → Int32) (y2 : Nat → Int32) (n1 : Int32) (hs3 : ∀ i, i < 6 → sg3 (y2 i)) (c_1 : ¬ n1 = (-1)) (c_3 : (0 : Int32) ≤ n1 ∧ n1 ≤ 5) (tn1 : Nat) (tn1a : 0 ≤ tn1) (tn1b : tn1 ≤ 5) (tn1e : n1 = nI tn1) : tn1 < 6 := by
  omega
theorem lf_X11_odds_f_7 (a : Nat → Nat) (ap : Int32) (y0 : Nat → Int32) (y1 : Nat → Int32) (y2 : Nat → Int32) (n1 : Int32) (hs3 : ∀ i, i < 6 → sg3 (y2 i)) (c_1 : ¬ n1 = (-1)) (c_3 : (0 : Int32) ≤ n1 ∧ n1 ≤ 5) (tn1 : Nat) (tn1a : 0 ≤ tn1) (tn1b : tn1 ≤ 5) (tn1e : n1 = nI tn1) (c_6 : ¬ y1 tn1 = 0) : tn1 < 6 := by
  first | assumption | omega | decide
theorem lf_X11_odds_f_8 (a : Nat → Nat) (ap : Int32) (y0 : Nat → Int32) (y1 : Nat → Int32) (y2 : Nat → Int32) (n1 : Int32) (hs3 : ∀ i, i < 6 → sg3 (y2 i)) (c_1 : ¬ n1 = (-1)) (c_3 : (0 : Int32) ≤ n1 ∧ n1 ≤ 5) (tn1 : Nat) (tn1a : 0 ≤ tn1) (tn1b : tn1 ≤ 5) (tn1e : n1 = nI tn1) (c_6 : ¬ y1 tn1 = 0) : ∀ i, i < 6 → sg3 (y2 i) := by
  first | assumption | omega | decide
theorem lf_X11_odds_f_10 (a : Nat → Nat) (ap : Int32) (y0 : Nat → Int32) (y1 : Nat → Int32) (y2 : Nat → Int32) (n1 : Int32) (hs3 : ∀ i, i < 6 → sg3 (y2 i)) (c_1 : ¬ n1 = (-1)) (c_3 : (0 : Int32) ≤ n1 ∧ n1 ≤ 5) (tn1 : Nat) (tn1a : 0 ≤ tn1) (tn1b : tn1 ≤ 5) (tn1e : n1 = nI tn1) (c_6 : ¬ y1 tn1 = 0) : (prodF y0 y2 tn1 6 : Int64) = oddF y0 y2 y1 n1 := by
  first | exact oddF_a (by assumption) rfl | exact oddF_a (by assumption) (by assumption) | exact oddF_n (by assumption) (by assumption) | exact oddF_t (by assumption) (by assumption) (by assumption) (by assumption) | exact oddF_y (by assumption) (by assumption) (by assumption) (by assumption) (by assumption)
theorem lf_X11_odds_f_11 (a : Nat → Nat) (ap : Int32) (y0 : Nat → Int32) (y1 : Nat → Int32) (y2 : Nat → Int32) (n1 : Int32) (hs3 : ∀ i, i < 6 → sg3 (y2 i)) (c_1 : ¬ n1 = (-1)) (c_3 : (0 : Int32) ≤ n1 ∧ n1 ≤ 5) (tn1 : Nat) (tn1a : 0 ≤ tn1) (tn1b : tn1 ≤ 5) (tn1e : n1 = nI tn1) (c_6 : y1 tn1 = 0) : ((-1) : Int64) = oddF y0 y2 y1 n1 := by
  first | exact oddF_a (by assumption) rfl | exact oddF_a (by assumption) (by assumption) | exact oddF_n (by assumption) (by assumption) | exact oddF_t (by assumption) (by assumption) (by assumption) (by assumption) | exact oddF_y (by assumption) (by assumption) (by assumption) (by assumption) (by assumption)
theorem lf_X11_odds_f_12 (a : Nat → Nat) (ap : Int32) (y0 : Nat → Int32) (y1 : Nat → Int32) (y2 : Nat → Int32) (n1 : Int32) (hs3 : ∀ i, i < 6 → sg3 (y2 i)) (c_1 : n1 = (-1)) : ∀ i, i < 6 → sg3 (y2 i) := by
  first | assumption | omega | decide
theorem lf_X11_odds_f_14 (a : Nat → Nat) (ap : Int32) (y0 : Nat → Int32) (y1 : Nat → Int32) (y2 : Nat → Int32) (n1 : Int32) (hs3 : ∀ i, i < 6 → sg3 (y2 i)) (c_1 : n1 = (-1)) : (sumF y0 y2 y1 6 : Int64) = oddF y0 y2 y1 n1 := by
  first | exact oddF_a (by assumption) rfl | exact oddF_a (by assumption) (by assumption) | exact oddF_n (by assumption) (by assumption) | exact oddF_t (by assumption) (by assumption) (by assumption) (by assumption) | exact oddF_y (by assumption) (by assumption) (by assumption) (by assumption) (by assumption)
set_option maxHeartbeats 4000000 in
set_option maxRecDepth 100000 in
theorem c_X11_odds_f (l : Launch) (D : va_G) (cI cB cZ cJ : ClassId) (tx : List (ClassId × FieldType)) (a : Nat → Nat) (ap : Int32) (y0 : Nat → Int32) (y1 : Nat → Int32) (y2 : Nat → Int32) (n1 : Int32) (hs3 : ∀ i, i < 6 → sg3 (y2 i)) : RdL l D cI cB cZ cJ tx yX11_odds cX11_odds 2 (some .long) 2 [.ref (a 0), .int n1] [(a 0, .inr (11, [.ref (a 1), .ref (a 2), .ref (a 3), .ref (a 4), .ref (a 5), .ref (a 6), .ref (a 7), .ref (a 8), .ref (a 9), .ref (a 10), .ref (a 11), .ref (a 12), .int ap])), (a 12, .inr (7, [.ref (a 48), .ref (a 49), .ref (a 50)])), (a 48, .inl (cI, 36, .inl y0)), (a 49, .inl (cZ, 6, .inl y1)), (a 50, .inl (cI, 6, .inl y2))] (fun r => r = oddF y0 y2 y1 n1) := by
  refine rdl_of2 (by decide) (Nat.le_of_ble_eq_true rfl) ?_
  intro p e s m below meth c A ls H locs hC hK hP hD hA hS hl
  obtain ⟨hx, hb, hr, hml, hown, hts, hlocks, hin⟩ := hC
  have hown : s.vm.findClass RX11 = some m.cls := hown
  have hl : lv_has ls 2 [(0, .ref (a 0)), (1, .int n1)] := hl
  refine W_gQ (fun Q hQ => ?_)
  refine lv_iload_n hx hb dX11_odds_0 rfl (lv_at hl 1 rfl) ?_
  refine lv_iconst (v := (-1)) hx hb dX11_odds_1 (by decide) ?_
  refine lv_icmp_ne (tgt := 13) hx hb dX11_odds_2 (by decide) (fun c_1 => ?_) (fun c_1 => ?_)
  · refine lv_iload_n hx hb dX11_odds_13 rfl (lv_at hl 1 rfl) ?_
    refine lv_iconst (v := 0) hx hb dX11_odds_14 (by decide) ?_
    refine lv_iconst (v := 5) hx hb dX11_odds_15 (by decide) ?_
    refine eRi (va_runS (As := [.int n1, .int 0, .int 5]) (rest := []) ⟨hx, hb, hml, hown, hts⟩ (c_X11_within l D cI cB cZ cJ tx n1 0 5 H.size) (zS hts k_527 v_X11_within ⟨Nat.le_of_ble_eq_true rfl, Nat.le_of_ble_eq_true rfl⟩) (px0 hK) rfl rfl hl.1 rfl (lv_room (Nat.le_of_ble_eq_true rfl)) dX11_odds_16 ⟨Nat.le_of_ble_eq_true rfl, Nat.le_of_ble_eq_true rfl⟩) hP hS hA (fun r_2 H locs wr_2 hP hS => ?_)
    subst wr_2
    refine lv_bi_eq (tgt := 34) hx hb dX11_odds_19 (by decide) (fun c_3 => ?_) (fun c_3 => ?_)
    · refine lv_ldc2 (v := (-1)) hx hb hown (hts _ k_1074) dX11_odds_34 ?_
      rw [hQ]
      exact W.lret (v := (-1)) hx hb hr (fun tt9 ht hW => ⟨⟨((-1) : Int64), (), rfl, (lf_X11_odds_f_4 a ap y0 y1 y2 n1 hs3 c_1 c_3), trivial⟩, hS.F ht⟩) hS.2.2 dX11_odds_37 hlocks
    · obtain ⟨tn1, tn1a, tn1b, tn1e⟩ := of_rng 0 5 rfl rfl c_3
      subst tn1e
      refine lv_aload_n hx hb dX11_odds_22 rfl (lv_at hl 0 rfl) ?_
      refine va_get (D := D) (ci := 11) (v := .ref (a 12)) (C := RX11) (T := TX11) (N := 13) hx hb hts inT_X11 hown hK.1 hP 0 rfl rfl 11 (by decide) (hts _ k_494) (fun _ h9 => h9) rfl dX11_odds_23 ?_
      refine va_getN (D := D) (ci := 7) (v := .ref (a 49)) (C := RX7) (T := TX7) (N := 3) hx hb hts inT_X7 hown hK.1 hP 1 rfl rfl 1 (by decide) (va_Nw.use rfl (hK.2.2.1 _ n_473)) (fun _ h9 => h9) rfl dX11_odds_26 ?_
      refine lv_iload_n hx hb dX11_odds_29 rfl (lv_at hl 1 rfl) ?_
      refine lt_z (j := tn1) hx hb hK hP 3 rfl (lf_X11_odds_f_5 a ap y0 y1 y2 (nI tn1) hs3 c_1 c_3 tn1 tn1a tn1b rfl) (by decide) dX11_odds_30 ?_
      refine lv_if_ne (tgt := 38) hx hb dX11_odds_31 (by decide) (fun c_6 => ?_) (fun c_6 => ?_)
      · refine lv_aload_n hx hb dX11_odds_38 rfl (lv_at hl 0 rfl) ?_
        refine va_get (D := D) (ci := 11) (v := .ref (a 12)) (C := RX11) (T := TX11) (N := 13) hx hb hts inT_X11 hown hK.1 hP 0 rfl rfl 11 (by decide) (hts _ k_494) (fun _ h9 => h9) rfl dX11_odds_39 ?_
        refine lv_iload_n hx hb dX11_odds_42 rfl (lv_at hl 1 rfl) ?_
        refine eRl (va_runV (As := [.int (nI tn1)]) (rest := []) ⟨hx, hb, hml, hown, hts⟩ (c_X7_product_f l D cI cB cZ cJ tx a y0 y2 tn1 (lf_X11_odds_f_7 a ap y0 y1 y2 (nI tn1) hs3 c_1 c_3 tn1 tn1a tn1b rfl c_6) (lf_X11_odds_f_8 a ap y0 y1 y2 (nI tn1) hs3 c_1 c_3 tn1 tn1a tn1b rfl c_6) H.size) (zV hts k_1213 v_X7_product ⟨Nat.le_of_ble_eq_true rfl, Nat.le_of_ble_eq_true rfl⟩) (pV (pxS hK hP hD [1, 2, 4] (by decide) rfl) hK hP 1 rfl rfl) rfl rfl hl.1 rfl (lv_room (Nat.le_of_ble_eq_true rfl)) dX11_odds_43 ⟨Nat.le_of_ble_eq_true rfl, Nat.le_of_ble_eq_true rfl⟩) hP hS hA (fun r_9 H locs wr_9 hP hS => ?_)
        subst wr_9
        rw [hQ]
        exact W.lret (v := prodF y0 y2 tn1 6) hx hb hr (fun tt9 ht hW => ⟨⟨(prodF y0 y2 tn1 6 : Int64), (), rfl, (lf_X11_odds_f_10 a ap y0 y1 y2 (nI tn1) hs3 c_1 c_3 tn1 tn1a tn1b rfl c_6), trivial⟩, hS.F ht⟩) hS.2.2 dX11_odds_46 hlocks
      · refine lv_ldc2 (v := (-1)) hx hb hown (hts _ k_1074) dX11_odds_34 ?_
        rw [hQ]
        exact W.lret (v := (-1)) hx hb hr (fun tt9 ht hW => ⟨⟨((-1) : Int64), (), rfl, (lf_X11_odds_f_11 a ap y0 y1 y2 (nI tn1) hs3 c_1 c_3 tn1 tn1a tn1b rfl c_6), trivial⟩, hS.F ht⟩) hS.2.2 dX11_odds_37 hlocks
  · refine lv_aload_n hx hb dX11_odds_5 rfl (lv_at hl 0 rfl) ?_
    refine va_get (D := D) (ci := 11) (v := .ref (a 12)) (C := RX11) (T := TX11) (N := 13) hx hb hts inT_X11 hown hK.1 hP 0 rfl rfl 11 (by decide) (hts _ k_494) (fun _ h9 => h9) rfl dX11_odds_6 ?_
    refine eRl (va_runV (As := []) (rest := []) ⟨hx, hb, hml, hown, hts⟩ (c_X7_together_f l D cI cB cZ cJ tx a y0 y1 y2 (lf_X11_odds_f_12 a ap y0 y1 y2 n1 hs3 c_1) H.size) (zV hts k_1205 v_X7_together ⟨Nat.le_of_ble_eq_true rfl, Nat.le_of_ble_eq_true rfl⟩) (pV (pxS hK hP hD [1, 2, 3, 4] (by decide) rfl) hK hP 1 rfl rfl) rfl rfl hl.1 rfl (lv_room (Nat.le_of_ble_eq_true rfl)) dX11_odds_9 ⟨Nat.le_of_ble_eq_true rfl, Nat.le_of_ble_eq_true rfl⟩) hP hS hA (fun r_13 H locs wr_13 hP hS => ?_)
    subst wr_13
    rw [hQ]
    exact W.lret (v := sumF y0 y2 y1 6) hx hb hr (fun tt9 ht hW => ⟨⟨(sumF y0 y2 y1 6 : Int64), (), rfl, (lf_X11_odds_f_14 a ap y0 y1 y2 n1 hs3 c_1), trivial⟩, hS.F ht⟩) hS.2.2 dX11_odds_12 hlocks

theorem lf_X12_oddsOf_f_3 (h : Nat) (q : Nat → Nat) (im : Nat → Int32) (m_says : Nat → Int32) (m_signSeen : Nat → Int32) (k1 : Nat) (hk1 : k1 < 6) (j1 : Nat) (w1 : Int64) (k5 : Nat) (hj5 : j1 ≤ 6) (hk5 : 6 < j1 + (k5 + 1)) (hw : w1 = prodF m_says m_signSeen k1 j1) (c_1 : 6 ≤ nI j1) : 6 ≤ j1 := by
  exact (nI_leI (a := 6) (b := j1) (by omega) (by omega)).mp c_1
theorem lf_X12_oddsOf_f_4 (h : Nat) (q : Nat → Nat) (im : Nat → Int32) (m_says : Nat → Int32) (m_signSeen : Nat → Int32) (k1 : Nat) (hk1 : k1 < 6) (j1 : Nat) (w1 : Int64) (k5 : Nat) (hj5 : j1 ≤ 6) (hk5 : 6 < j1 + (k5 + 1)) (hw : w1 = prodF m_says m_signSeen k1 j1) (c_1 : 6 ≤ nI j1) (n_2 : 6 ≤ j1) : (w1 : Int64) = prodF m_says m_signSeen k1 6 := by
  exact at6 (F := fun i => prodF m_says m_signSeen k1 i) (by assumption) (by assumption) (by assumption)
theorem lf_X12_oddsOf_f_6 (h : Nat) (q : Nat → Nat) (im : Nat → Int32) (m_says : Nat → Int32) (m_signSeen : Nat → Int32) (k1 : Nat) (hk1 : k1 < 6) (j1 : Nat) (w1 : Int64) (k5 : Nat) (hj5 : j1 ≤ 6) (hk5 : 6 < j1 + (k5 + 1)) (hw : w1 = prodF m_says m_signSeen k1 j1) (c_1 : ¬ 6 ≤ nI j1) : j1 < 6 := by
  exact Nat.lt_of_not_le (fun q => c_1 ((nI_leI (a := 6) (b := j1) (by omega) (by omega)).mpr q))
theorem lf_X12_oddsOf_f_7 (h : Nat) (q : Nat → Nat) (im : Nat → Int32) (m_says : Nat → Int32) (m_signSeen : Nat → Int32) (k1 : Nat) (hk1 : k1 < 6) (j1 : Nat) (w1 : Int64) (k5 : Nat) (hj5 : j1 ≤ 6) (hk5 : 6 < j1 + (k5 + 1)) (hw : w1 = prodF m_says m_signSeen k1 j1) (c_1 : ¬ 6 ≤ nI j1) (n_5 : j1 < 6) : j1 < 6 := by
  omega
theorem lf_X12_oddsOf_f_9 (h : Nat) (q : Nat → Nat) (im : Nat → Int32) (m_says : Nat → Int32) (m_signSeen : Nat → Int32) (k1 : Nat) (hk1 : k1 < 6) (j1 : Nat) (w1 : Int64) (k5 : Nat) (hj5 : j1 ≤ 6) (hk5 : 6 < j1 + (k5 + 1)) (hw : w1 = prodF m_says m_signSeen k1 j1) (c_1 : ¬ 6 ≤ nI j1) (n_5 : j1 < 6) (c_8 : m_signSeen j1 = (-1)) : w1 = prodF m_says m_signSeen k1 (j1 + 1) := by
  first | exact prodF_n (by assumption) (by assumption) | exact prodF_y1 (by assumption) (by assumption) (by assumption) (by assumption) | exact prodF_y0 (by assumption) (by assumption) (by assumption) (by assumption) (by assumption) | rfl
theorem lf_X12_oddsOf_f_10 (h : Nat) (q : Nat → Nat) (im : Nat → Int32) (m_says : Nat → Int32) (m_signSeen : Nat → Int32) (k1 : Nat) (hk1 : k1 < 6) (j1 : Nat) (w1 : Int64) (k5 : Nat) (hj5 : j1 ≤ 6) (hk5 : 6 < j1 + (k5 + 1)) (hw : w1 = prodF m_says m_signSeen k1 j1) (c_1 : ¬ 6 ≤ nI j1) (n_5 : j1 < 6) (c_8 : ¬ m_signSeen j1 = (-1)) : j1 < 6 := by
  omega
theorem lf_X12_oddsOf_f_12 (h : Nat) (q : Nat → Nat) (im : Nat → Int32) (m_says : Nat → Int32) (m_signSeen : Nat → Int32) (k1 : Nat) (hk1 : k1 < 6) (j1 : Nat) (w1 : Int64) (k5 : Nat) (hj5 : j1 ≤ 6) (hk5 : 6 < j1 + (k5 + 1)) (hw : w1 = prodF m_says m_signSeen k1 j1) (c_1 : ¬ 6 ≤ nI j1) (n_5 : j1 < 6) (c_8 : ¬ m_signSeen j1 = (-1)) (c_11 : ¬ m_signSeen j1 = 1) : ((6 * k1) + j1) < 36 := by
  omega
theorem lf_X12_oddsOf_f_15 (h : Nat) (q : Nat → Nat) (im : Nat → Int32) (m_says : Nat → Int32) (m_signSeen : Nat → Int32) (k1 : Nat) (hk1 : k1 < 6) (j1 : Nat) (w1 : Int64) (k5 : Nat) (hj5 : j1 ≤ 6) (hk5 : 6 < j1 + (k5 + 1)) (hw : w1 = prodF m_says m_signSeen k1 j1) (c_1 : ¬ 6 ≤ nI j1) (n_5 : j1 < 6) (c_8 : ¬ m_signSeen j1 = (-1)) (c_11 : ¬ m_signSeen j1 = 1) (x_13 : Int32) (ex_13 : x_13 = 1000 - m_says ((6 * k1) + j1)) (x_14 : Int64) (ex_14 : x_14 = w1 * x_13.toInt64) : x_14 = prodF m_says m_signSeen k1 (j1 + 1) := by
  first | exact prodF_n (by assumption) (by assumption) | exact prodF_y1 (by assumption) (by assumption) (by assumption) (by assumption) | exact prodF_y0 (by assumption) (by assumption) (by assumption) (by assumption) (by assumption) | rfl
theorem lf_X12_oddsOf_f_16 (h : Nat) (q : Nat → Nat) (im : Nat → Int32) (m_says : Nat → Int32) (m_signSeen : Nat → Int32) (k1 : Nat) (hk1 : k1 < 6) (j1 : Nat) (w1 : Int64) (k5 : Nat) (hj5 : j1 ≤ 6) (hk5 : 6 < j1 + (k5 + 1)) (hw : w1 = prodF m_says m_signSeen k1 j1) (c_1 : ¬ 6 ≤ nI j1) (n_5 : j1 < 6) (c_8 : ¬ m_signSeen j1 = (-1)) (c_11 : m_signSeen j1 = 1) : ((6 * k1) + j1) < 36 := by
  omega
theorem lf_X12_oddsOf_f_18 (h : Nat) (q : Nat → Nat) (im : Nat → Int32) (m_says : Nat → Int32) (m_signSeen : Nat → Int32) (k1 : Nat) (hk1 : k1 < 6) (j1 : Nat) (w1 : Int64) (k5 : Nat) (hj5 : j1 ≤ 6) (hk5 : 6 < j1 + (k5 + 1)) (hw : w1 = prodF m_says m_signSeen k1 j1) (c_1 : ¬ 6 ≤ nI j1) (n_5 : j1 < 6) (c_8 : ¬ m_signSeen j1 = (-1)) (c_11 : m_signSeen j1 = 1) (x_17 : Int64) (ex_17 : x_17 = w1 * (m_says ((6 * k1) + j1)).toInt64) : x_17 = prodF m_says m_signSeen k1 (j1 + 1) := by
  first | exact prodF_n (by assumption) (by assumption) | exact prodF_y1 (by assumption) (by assumption) (by assumption) (by assumption) | exact prodF_y0 (by assumption) (by assumption) (by assumption) (by assumption) (by assumption) | rfl
theorem lf_X12_oddsOf_f_19 (h : Nat) (q : Nat → Nat) (im : Nat → Int32) (m_says : Nat → Int32) (m_signSeen : Nat → Int32) (k1 : Nat) (hk1 : k1 < 6) : (1 : Int64) = prodF m_says m_signSeen k1 0 := by
  first | exact prodF_n (by assumption) (by assumption) | exact prodF_y1 (by assumption) (by assumption) (by assumption) (by assumption) | exact prodF_y0 (by assumption) (by assumption) (by assumption) (by assumption) (by assumption) | rfl
set_option maxHeartbeats 4000000 in
set_option maxRecDepth 100000 in
theorem c_X12_oddsOf_f (l : Launch) (D : va_G) (cI cB cZ cJ : ClassId) (tx : List (ClassId × FieldType)) (h : Nat) (q : Nat → Nat) (im : Nat → Int32) (m_says : Nat → Int32) (m_signSeen : Nat → Int32) (k1 : Nat) (hk1 : k1 < 6) : RdL l D cI cB cZ cJ tx yX12_oddsOf cX12_oddsOf 5 (some .long) 0 [.ref h, .int (nI k1)] [(h, .inr (12, mG q im)), (q 75, .inl (cI, 36, .inl m_says)), (q 77, .inl (cI, 6, .inl m_signSeen))] (fun r => r = prodF m_says m_signSeen k1 6) := by
  refine rdl_of2 (by decide) (Nat.le_of_ble_eq_true rfl) ?_
  intro p e s m below meth c A ls H locs hC hK hP hD hA hS hl
  obtain ⟨hx, hb, hr, hml, hown, hts, hlocks, hin⟩ := hC
  have hown : s.vm.findClass RX12 = some m.cls := hown
  have hl : lv_has ls 5 [(0, .ref h), (1, .int (nI k1))] := hl
  refine W_gQ (fun Q hQ => ?_)
  refine lv_lconst (v := 1) hx hb dX12_oddsOf_0 (by decide) ?_
  refine lv_lstore_n (lv' := [(2, .long 1), (0, .ref h), (1, .int (nI k1))]) hx hb dX12_oddsOf_1 rfl hl (by decide) rfl (fun ls hl => ?_)
  refine lv_iconst (v := 0) hx hb dX12_oddsOf_2 (by decide) ?_
  refine lv_istore (lv' := [(4, .int 0), (2, .long 1), (0, .ref h), (1, .int (nI k1))]) hx hb dX12_oddsOf_3 hl (by decide) rfl (fun ls hl => ?_)
  have lp5 : ∀ (k5 : Nat) (j1 : Nat) (w1 : Int64) (H : Heap) (locs : List Loc) (ls : Array Slot), j1 ≤ 6 → 6 < j1 + k5 → (w1 = prodF m_says m_signSeen k1 j1) → va_P D vwCl [(h, .inr (12, mG q im)), (q 75, .inl (cI, 36, .inl m_says)), (q 77, .inl (cI, 6, .inl m_signSeen))] H → va_S A s.heap H locs → lv_has ls 5 [(4, .int (nI j1)), (2, .long w1), (0, .ref h), (1, .int (nI k1))] → W p l e (rmX 0 0 0) s m ([.ref h, .int (nI k1)] : List Value).toArray below meth c H locs 0 0 Q (F0 m 5 ls []) := by
    intro k5
    induction k5 with
    | zero =>
      intro j1 w1 H locs ls hj5 hk5 hw hP hS hl
      exact absurd hk5 (by omega)
    | succ k5 ih5 =>
      intro j1 w1 H locs ls hj5 hk5 hw hP hS hl
      refine lv_iload hx hb dX12_oddsOf_5 (lv_at hl 0 rfl) ?_
      refine lv_bipush (v := 6) hx hb dX12_oddsOf_7 (by decide) ?_
      refine lv_icmp_ge (tgt := 76) hx hb dX12_oddsOf_9 (by decide) (fun c_1 => ?_) (fun c_1 => ?_)
      · have n_2 : 6 ≤ j1 := (lf_X12_oddsOf_f_3 h q im m_says m_signSeen k1 hk1 j1 w1 k5 hj5 hk5 hw c_1)
        refine lv_lload_n hx hb dX12_oddsOf_76 rfl (lv_at hl 1 rfl) ?_
        rw [hQ]
        exact W.lret (v := w1) hx hb hr (fun tt9 ht hW => ⟨⟨(w1 : Int64), (), rfl, (lf_X12_oddsOf_f_4 h q im m_says m_signSeen k1 hk1 j1 w1 k5 hj5 hk5 hw c_1 n_2), trivial⟩, hS.F ht⟩) hS.2.2 dX12_oddsOf_77 hlocks
      · have n_5 : j1 < 6 := (lf_X12_oddsOf_f_6 h q im m_says m_signSeen k1 hk1 j1 w1 k5 hj5 hk5 hw c_1)
        refine lv_aload_n hx hb dX12_oddsOf_12 rfl (lv_at hl 2 rfl) ?_
        refine va_get (D := D) (ci := 12) (v := .ref (q 77)) (C := RX12) (T := TX12) (N := 81) hx hb hts inT_X12 hown hK.1 hP 0 rfl rfl 77 (by decide) (hts _ k_1430) (fun _ h9 => h9) rfl dX12_oddsOf_13 ?_
        refine lv_iload hx hb dX12_oddsOf_16 (lv_at hl 0 rfl) ?_
        refine lt_i (j := j1) hx hb hK hP 2 rfl (lf_X12_oddsOf_f_7 h q im m_says m_signSeen k1 hk1 j1 w1 k5 hj5 hk5 hw c_1 n_5) (by decide) dX12_oddsOf_18 ?_
        refine lv_iconst (v := (-1)) hx hb dX12_oddsOf_19 (by decide) ?_
        refine lv_icmp_eq (tgt := 70) hx hb dX12_oddsOf_20 (by decide) (fun c_8 => ?_) (fun c_8 => ?_)
        · refine lv_iinc (v := nI (j1 + 1)) (lv' := [(4, .int (nI (j1 + 1))), (2, .long w1), (0, .ref h), (1, .int (nI k1))]) hx hb dX12_oddsOf_70 hl (k := 0) rfl (nI_1 j1) (by decide) rfl (fun ls hl => ?_)
          refine lv_goto (tgt := 5) hx hb dX12_oddsOf_73 (by decide) ?_
          exact ih5 (j1 + 1) w1 H locs ls (by omega) (by omega) (lf_X12_oddsOf_f_9 h q im m_says m_signSeen k1 hk1 j1 w1 k5 hj5 hk5 hw c_1 n_5 c_8) (hP.sub [0, 1, 2] rfl)  hS (lv_sub hl [0, 1, 2, 3] rfl)
        · refine lv_lload_n hx hb dX12_oddsOf_23 rfl (lv_at hl 1 rfl) ?_
          refine lv_aload_n hx hb dX12_oddsOf_24 rfl (lv_at hl 2 rfl) ?_
          refine va_get (D := D) (ci := 12) (v := .ref (q 77)) (C := RX12) (T := TX12) (N := 81) hx hb hts inT_X12 hown hK.1 hP 0 rfl rfl 77 (by decide) (hts _ k_1430) (fun _ h9 => h9) rfl dX12_oddsOf_25 ?_
          refine lv_iload hx hb dX12_oddsOf_28 (lv_at hl 0 rfl) ?_
          refine lt_i (j := j1) hx hb hK hP 2 rfl (lf_X12_oddsOf_f_10 h q im m_says m_signSeen k1 hk1 j1 w1 k5 hj5 hk5 hw c_1 n_5 c_8) (by decide) dX12_oddsOf_30 ?_
          refine lv_iconst (v := 1) hx hb dX12_oddsOf_31 (by decide) ?_
          refine lv_icmp_ne (tgt := 51) hx hb dX12_oddsOf_32 (by decide) (fun c_11 => ?_) (fun c_11 => ?_)
          · refine lv_sipush (v := 1000) hx hb dX12_oddsOf_51 (by decide) ?_
            refine lv_aload_n hx hb dX12_oddsOf_54 rfl (lv_at hl 2 rfl) ?_
            refine va_get (D := D) (ci := 12) (v := .ref (q 75)) (C := RX12) (T := TX12) (N := 81) hx hb hts inT_X12 hown hK.1 hP 0 rfl rfl 75 (by decide) (hts _ k_1428) (fun _ h9 => h9) rfl dX12_oddsOf_55 ?_
            refine lv_bipush (v := 6) hx hb dX12_oddsOf_58 (by decide) ?_
            refine lv_iload_n hx hb dX12_oddsOf_60 rfl (lv_at hl 3 rfl) ?_
            refine lv_imul hx hb dX12_oddsOf_61 ?_
            refine lv_topv (y := nI (6 * k1)) (pk_mul 6 k1) ?_
            refine lv_iload hx hb dX12_oddsOf_62 (lv_at hl 0 rfl) ?_
            refine lv_iadd hx hb dX12_oddsOf_64 ?_
            refine lv_topv (y := nI ((6 * k1) + j1)) (nI_add (6 * k1) j1) ?_
            refine lt_i (j := ((6 * k1) + j1)) hx hb hK hP 1 rfl (lf_X12_oddsOf_f_12 h q im m_says m_signSeen k1 hk1 j1 w1 k5 hj5 hk5 hw c_1 n_5 c_8 c_11) (by decide) dX12_oddsOf_65 ?_
            refine lv_isub hx hb dX12_oddsOf_66 ?_
            refine lv_topi (fun x_13 ex_13 => ?_)
            refine lv_i2l (v := x_13.toInt64) hx hb dX12_oddsOf_67 rfl ?_
            refine lv_lmul hx hb dX12_oddsOf_68 ?_
            refine lv_topl (fun x_14 ex_14 => ?_)
            refine lv_lstore_n (lv' := [(2, .long x_14), (4, .int (nI j1)), (0, .ref h), (1, .int (nI k1))]) hx hb dX12_oddsOf_69 rfl hl (by decide) rfl (fun ls hl => ?_)
            refine lv_iinc (v := nI (j1 + 1)) (lv' := [(4, .int (nI (j1 + 1))), (2, .long x_14), (0, .ref h), (1, .int (nI k1))]) hx hb dX12_oddsOf_70 hl (k := 1) rfl (nI_1 j1) (by decide) rfl (fun ls hl => ?_)
            refine lv_goto (tgt := 5) hx hb dX12_oddsOf_73 (by decide) ?_
            exact ih5 (j1 + 1) x_14 H locs ls (by omega) (by omega) (lf_X12_oddsOf_f_15 h q im m_says m_signSeen k1 hk1 j1 w1 k5 hj5 hk5 hw c_1 n_5 c_8 c_11 x_13 ex_13 x_14 ex_14) (hP.sub [0, 1, 2] rfl)  hS (lv_sub hl [0, 1, 2, 3] rfl)
          · refine lv_aload_n hx hb dX12_oddsOf_35 rfl (lv_at hl 2 rfl) ?_
            refine va_get (D := D) (ci := 12) (v := .ref (q 75)) (C := RX12) (T := TX12) (N := 81) hx hb hts inT_X12 hown hK.1 hP 0 rfl rfl 75 (by decide) (hts _ k_1428) (fun _ h9 => h9) rfl dX12_oddsOf_36 ?_
            refine lv_bipush (v := 6) hx hb dX12_oddsOf_39 (by decide) ?_
            refine lv_iload_n hx hb dX12_oddsOf_41 rfl (lv_at hl 3 rfl) ?_
            refine lv_imul hx hb dX12_oddsOf_42 ?_
            refine lv_topv (y := nI (6 * k1)) (pk_mul 6 k1) ?_
            refine lv_iload hx hb dX12_oddsOf_43 (lv_at hl 0 rfl) ?_
            refine lv_iadd hx hb dX12_oddsOf_45 ?_
            refine lv_topv (y := nI ((6 * k1) + j1)) (nI_add (6 * k1) j1) ?_
            refine lt_i (j := ((6 * k1) + j1)) hx hb hK hP 1 rfl (lf_X12_oddsOf_f_16 h q im m_says m_signSeen k1 hk1 j1 w1 k5 hj5 hk5 hw c_1 n_5 c_8 c_11) (by decide) dX12_oddsOf_46 ?_
            refine lv_i2l (v := (m_says ((6 * k1) + j1)).toInt64) hx hb dX12_oddsOf_47 rfl ?_
            refine lv_goto (tgt := 68) hx hb dX12_oddsOf_48 (by decide) ?_
            refine lv_lmul hx hb dX12_oddsOf_68 ?_
            refine lv_topl (fun x_17 ex_17 => ?_)
            refine lv_lstore_n (lv' := [(2, .long x_17), (4, .int (nI j1)), (0, .ref h), (1, .int (nI k1))]) hx hb dX12_oddsOf_69 rfl hl (by decide) rfl (fun ls hl => ?_)
            refine lv_iinc (v := nI (j1 + 1)) (lv' := [(4, .int (nI (j1 + 1))), (2, .long x_17), (0, .ref h), (1, .int (nI k1))]) hx hb dX12_oddsOf_70 hl (k := 1) rfl (nI_1 j1) (by decide) rfl (fun ls hl => ?_)
            refine lv_goto (tgt := 5) hx hb dX12_oddsOf_73 (by decide) ?_
            exact ih5 (j1 + 1) x_17 H locs ls (by omega) (by omega) (lf_X12_oddsOf_f_18 h q im m_says m_signSeen k1 hk1 j1 w1 k5 hj5 hk5 hw c_1 n_5 c_8 c_11 x_17 ex_17) (hP.sub [0, 1, 2] rfl)  hS (lv_sub hl [0, 1, 2, 3] rfl)
  exact lp5 (6 + 1) 0 1 H locs ls (by omega) (by omega) (lf_X12_oddsOf_f_19 h q im m_says m_signSeen k1 hk1) (hP.sub [0, 1, 2] rfl)  hS (lv_sub hl [0, 1, 2, 3] rfl)

theorem lf_X12_odds_f_4 (h : Nat) (q : Nat → Nat) (im : Nat → Int32) (m_says : Nat → Int32) (m_isStory : Nat → Int32) (m_signSeen : Nat → Int32) (n1 : Int32) (c_1 : n1 = (-1)) (j1 : Nat) (w1 : Int64) (k43 : Nat) (hj43 : j1 ≤ 6) (hk43 : 6 < j1 + (k43 + 1)) (hw : w1 = sumF m_says m_signSeen m_isStory j1) (c_2 : 6 ≤ nI j1) : 6 ≤ j1 := by
  exact (nI_leI (a := 6) (b := j1) (by omega) (by omega)).mp c_2
theorem lf_X12_odds_f_5 (h : Nat) (q : Nat → Nat) (im : Nat → Int32) (m_says : Nat → Int32) (m_isStory : Nat → Int32) (m_signSeen : Nat → Int32) (n1 : Int32) (c_1 : n1 = (-1)) (j1 : Nat) (w1 : Int64) (k43 : Nat) (hj43 : j1 ≤ 6) (hk43 : 6 < j1 + (k43 + 1)) (hw : w1 = sumF m_says m_signSeen m_isStory j1) (c_2 : 6 ≤ nI j1) (n_3 : 6 ≤ j1) : (w1 : Int64) = oddF m_says m_signSeen m_isStory n1 := by
  first | exact oddF_a (by assumption) rfl | exact oddF_a (by assumption) (by assumption) | exact oddF_n (by assumption) (by assumption) | exact oddF_t (by assumption) (by assumption) (by assumption) (by assumption) | exact oddF_y (by assumption) (by assumption) (by assumption) (by assumption) (by assumption) | exact oddF_a (by assumption) (at6 (F := fun i => sumF m_says m_signSeen m_isStory i) (by assumption) (by assumption) (by assumption))
theorem lf_X12_odds_f_7 (h : Nat) (q : Nat → Nat) (im : Nat → Int32) (m_says : Nat → Int32) (m_isStory : Nat → Int32) (m_signSeen : Nat → Int32) (n1 : Int32) (c_1 : n1 = (-1)) (j1 : Nat) (w1 : Int64) (k43 : Nat) (hj43 : j1 ≤ 6) (hk43 : 6 < j1 + (k43 + 1)) (hw : w1 = sumF m_says m_signSeen m_isStory j1) (c_2 : ¬ 6 ≤ nI j1) : j1 < 6 := by
  exact Nat.lt_of_not_le (fun q => c_2 ((nI_leI (a := 6) (b := j1) (by omega) (by omega)).mpr q))
theorem lf_X12_odds_f_8 (h : Nat) (q : Nat → Nat) (im : Nat → Int32) (m_says : Nat → Int32) (m_isStory : Nat → Int32) (m_signSeen : Nat → Int32) (n1 : Int32) (c_1 : n1 = (-1)) (j1 : Nat) (w1 : Int64) (k43 : Nat) (hj43 : j1 ≤ 6) (hk43 : 6 < j1 + (k43 + 1)) (hw : w1 = sumF m_says m_signSeen m_isStory j1) (c_2 : ¬ 6 ≤ nI j1) (n_6 : j1 < 6) : j1 < 6 := by
  omega
theorem lf_X12_odds_f_11 (h : Nat) (q : Nat → Nat) (im : Nat → Int32) (m_says : Nat → Int32) (m_isStory : Nat → Int32) (m_signSeen : Nat → Int32) (n1 : Int32) (c_1 : n1 = (-1)) (j1 : Nat) (w1 : Int64) (k43 : Nat) (hj43 : j1 ≤ 6) (hk43 : 6 < j1 + (k43 + 1)) (hw : w1 = sumF m_says m_signSeen m_isStory j1) (c_2 : ¬ 6 ≤ nI j1) (n_6 : j1 < 6) (c_9 : m_isStory j1 = 0) (x_10 : Int64) (ex_10 : x_10 = w1 + 0) : x_10 = sumF m_says m_signSeen m_isStory (j1 + 1) := by
  first | rfl | exact sumF_n (by assumption) (by assumption) (by assumption) | exact sumF_y (by assumption) (by assumption) (by assumption)
theorem lf_X12_odds_f_12 (h : Nat) (q : Nat → Nat) (im : Nat → Int32) (m_says : Nat → Int32) (m_isStory : Nat → Int32) (m_signSeen : Nat → Int32) (n1 : Int32) (c_1 : n1 = (-1)) (j1 : Nat) (w1 : Int64) (k43 : Nat) (hj43 : j1 ≤ 6) (hk43 : 6 < j1 + (k43 + 1)) (hw : w1 = sumF m_says m_signSeen m_isStory j1) (c_2 : ¬ 6 ≤ nI j1) (n_6 : j1 < 6) (c_9 : ¬ m_isStory j1 = 0) : j1 < 6 := by
  first | assumption | omega | decide | rfl
theorem lf_X12_odds_f_15 (h : Nat) (q : Nat → Nat) (im : Nat → Int32) (m_says : Nat → Int32) (m_isStory : Nat → Int32) (m_signSeen : Nat → Int32) (n1 : Int32) (c_1 : n1 = (-1)) (j1 : Nat) (w1 : Int64) (k43 : Nat) (hj43 : j1 ≤ 6) (hk43 : 6 < j1 + (k43 + 1)) (hw : w1 = sumF m_says m_signSeen m_isStory j1) (c_2 : ¬ 6 ≤ nI j1) (n_6 : j1 < 6) (c_9 : ¬ m_isStory j1 = 0) (x_14 : Int64) (ex_14 : x_14 = w1 + prodF m_says m_signSeen j1 6) : x_14 = sumF m_says m_signSeen m_isStory (j1 + 1) := by
  first | rfl | exact sumF_n (by assumption) (by assumption) (by assumption) | exact sumF_y (by assumption) (by assumption) (by assumption)
theorem lf_X12_odds_f_16 (h : Nat) (q : Nat → Nat) (im : Nat → Int32) (m_says : Nat → Int32) (m_isStory : Nat → Int32) (m_signSeen : Nat → Int32) (n1 : Int32) (c_1 : n1 = (-1)) : (0 : Int64) = sumF m_says m_signSeen m_isStory 0 := by
  first | rfl | exact sumF_n (by assumption) (by assumption) (by assumption) | exact sumF_y (by assumption) (by assumption) (by assumption)
theorem lf_X12_odds_f_19 (h : Nat) (q : Nat → Nat) (im : Nat → Int32) (m_says : Nat → Int32) (m_isStory : Nat → Int32) (m_signSeen : Nat → Int32) (n1 : Int32) (c_1 : ¬ n1 = (-1)) (c_18 : ¬ ((0 : Int32) ≤ n1 ∧ n1 ≤ 5)) : ((-1) : Int64) = oddF m_says m_signSeen m_isStory n1 := by
  first | exact oddF_a (by assumption) rfl | exact oddF_a (by assumption) (by assumption) | exact oddF_n (by assumption) (by assumption) | exact oddF_t (by assumption) (by assumption) (by assumption) (by assumption) | exact oddF_y (by assumption) (by assumption) (by assumption) (by assumption) (by assumption) | exact oddF_a (by assumption) (at6 (F := fun i => sumF m_says m_signSeen m_isStory i) (by assumption) (by assumption) (by assumption))
theorem lf_X12_odds_f_20 (h : Nat) (q : Nat → Nat) (im : Nat → Int32) (m_says : Nat → Int32) (m_isStory : Nat → Int32) (m_signSeen : Nat → Int32) (n1 : Int32) (c_1 : ¬ n1 = (-1)) (c_18 : (0 : Int32) ≤ n1 ∧ n1 ≤ 5) (tn1 : Nat) (tn1a : 0 ≤ tn1) (tn1b : tn1 ≤ 5) (tn1e : n1 = nI tn1) : tn1 < 6 := by
  omega
theorem lf_X12_odds_f_22 (h : Nat) (q : Nat → Nat) (im : Nat → Int32) (m_says : Nat → Int32) (m_isStory : Nat → Int32) (m_signSeen : Nat → Int32) (n1 : Int32) (c_1 : ¬ n1 = (-1)) (c_18 : (0 : Int32) ≤ n1 ∧ n1 ≤ 5) (tn1 : Nat) (tn1a : 0 ≤ tn1) (tn1b : tn1 ≤ 5) (tn1e : n1 = nI tn1) (c_21 : m_isStory tn1 = 0) : ((-1) : Int64) = oddF m_says m_signSeen m_isStory n1 := by
  first | exact oddF_a (by assumption) rfl | exact oddF_a (by assumption) (by assumption) | exact oddF_n (by assumption) (by assumption) | exact oddF_t (by assumption) (by assumption) (by assumption) (by assumption) | exact oddF_y (by assumption) (by assumption) (by assumption) (by assumption) (by assumption) | exact oddF_a (by assumption) (at6 (F := fun i => sumF m_says m_signSeen m_isStory i) (by assumption) (by assumption) (by assumption))
theorem lf_X12_odds_f_23 (h : Nat) (q : Nat → Nat) (im : Nat → Int32) (m_says : Nat → Int32) (m_isStory : Nat → Int32) (m_signSeen : Nat → Int32) (n1 : Int32) (c_1 : ¬ n1 = (-1)) (c_18 : (0 : Int32) ≤ n1 ∧ n1 ≤ 5) (tn1 : Nat) (tn1a : 0 ≤ tn1) (tn1b : tn1 ≤ 5) (tn1e : n1 = nI tn1) (c_21 : ¬ m_isStory tn1 = 0) : tn1 < 6 := by
  first | assumption | omega | decide | rfl
theorem lf_X12_odds_f_25 (h : Nat) (q : Nat → Nat) (im : Nat → Int32) (m_says : Nat → Int32) (m_isStory : Nat → Int32) (m_signSeen : Nat → Int32) (n1 : Int32) (c_1 : ¬ n1 = (-1)) (c_18 : (0 : Int32) ≤ n1 ∧ n1 ≤ 5) (tn1 : Nat) (tn1a : 0 ≤ tn1) (tn1b : tn1 ≤ 5) (tn1e : n1 = nI tn1) (c_21 : ¬ m_isStory tn1 = 0) : (prodF m_says m_signSeen tn1 6 : Int64) = oddF m_says m_signSeen m_isStory n1 := by
  first | exact oddF_a (by assumption) rfl | exact oddF_a (by assumption) (by assumption) | exact oddF_n (by assumption) (by assumption) | exact oddF_t (by assumption) (by assumption) (by assumption) (by assumption) | exact oddF_y (by assumption) (by assumption) (by assumption) (by assumption) (by assumption) | exact oddF_a (by assumption) (at6 (F := fun i => sumF m_says m_signSeen m_isStory i) (by assumption) (by assumption) (by assumption))
set_option maxHeartbeats 4000000 in
set_option maxRecDepth 100000 in
theorem c_X12_odds_f (l : Launch) (D : va_G) (cI cB cZ cJ : ClassId) (tx : List (ClassId × FieldType)) (h : Nat) (q : Nat → Nat) (im : Nat → Int32) (m_says : Nat → Int32) (m_isStory : Nat → Int32) (m_signSeen : Nat → Int32) (n1 : Int32) : RdL l D cI cB cZ cJ tx yX12_odds cX12_odds 5 (some .long) 1 [.ref h, .int n1] [(h, .inr (12, mG q im)), (q 75, .inl (cI, 36, .inl m_says)), (q 76, .inl (cZ, 6, .inl m_isStory)), (q 77, .inl (cI, 6, .inl m_signSeen))] (fun r => r = oddF m_says m_signSeen m_isStory n1) := by
  refine rdl_of2 (by decide) (Nat.le_of_ble_eq_true rfl) ?_
  intro p e s m below meth c A ls H locs hC hK hP hD hA hS hl
  obtain ⟨hx, hb, hr, hml, hown, hts, hlocks, hin⟩ := hC
  have hown : s.vm.findClass RX12 = some m.cls := hown
  have hl : lv_has ls 5 [(0, .ref h), (1, .int n1)] := hl
  refine W_gQ (fun Q hQ => ?_)
  refine lv_iload_n hx hb dX12_odds_0 rfl (lv_at hl 1 rfl) ?_
  refine lv_iconst (v := (-1)) hx hb dX12_odds_1 (by decide) ?_
  refine lv_icmp_eq (tgt := 38) hx hb dX12_odds_2 (by decide) (fun c_1 => ?_) (fun c_1 => ?_)
  · refine lv_lconst (v := 0) hx hb dX12_odds_38 (by decide) ?_
    refine lv_lstore_n (lv' := [(2, .long 0), (0, .ref h), (1, .int n1)]) hx hb dX12_odds_39 rfl hl (by decide) rfl (fun ls hl => ?_)
    refine lv_iconst (v := 0) hx hb dX12_odds_40 (by decide) ?_
    refine lv_istore (lv' := [(4, .int 0), (2, .long 0), (0, .ref h), (1, .int n1)]) hx hb dX12_odds_41 hl (by decide) rfl (fun ls hl => ?_)
    have lp43 : ∀ (k43 : Nat) (j1 : Nat) (w1 : Int64) (H : Heap) (locs : List Loc) (ls : Array Slot), j1 ≤ 6 → 6 < j1 + k43 → (w1 = sumF m_says m_signSeen m_isStory j1) → va_P D vwCl [(h, .inr (12, mG q im)), (q 75, .inl (cI, 36, .inl m_says)), (q 76, .inl (cZ, 6, .inl m_isStory)), (q 77, .inl (cI, 6, .inl m_signSeen))] H → va_S A s.heap H locs → lv_has ls 5 [(4, .int (nI j1)), (2, .long w1), (0, .ref h), (1, .int n1)] → W p l e (rmX 1 0 0) s m ([.ref h, .int n1] : List Value).toArray below meth c H locs 0 0 Q (F0 m 43 ls []) := by
      intro k43
      induction k43 with
      | zero =>
        intro j1 w1 H locs ls hj43 hk43 hw hP hS hl
        exact absurd hk43 (by omega)
      | succ k43 ih43 =>
        intro j1 w1 H locs ls hj43 hk43 hw hP hS hl
        refine lv_iload hx hb dX12_odds_43 (lv_at hl 0 rfl) ?_
        refine lv_bipush (v := 6) hx hb dX12_odds_45 (by decide) ?_
        refine lv_icmp_ge (tgt := 79) hx hb dX12_odds_47 (by decide) (fun c_2 => ?_) (fun c_2 => ?_)
        · have n_3 : 6 ≤ j1 := (lf_X12_odds_f_4 h q im m_says m_isStory m_signSeen n1 c_1 j1 w1 k43 hj43 hk43 hw c_2)
          refine lv_lload_n hx hb dX12_odds_79 rfl (lv_at hl 1 rfl) ?_
          rw [hQ]
          exact W.lret (v := w1) hx hb hr (fun tt9 ht hW => ⟨⟨(w1 : Int64), (), rfl, (lf_X12_odds_f_5 h q im m_says m_isStory m_signSeen n1 c_1 j1 w1 k43 hj43 hk43 hw c_2 n_3), trivial⟩, hS.F ht⟩) hS.2.2 dX12_odds_80 hlocks
        · have n_6 : j1 < 6 := (lf_X12_odds_f_7 h q im m_says m_isStory m_signSeen n1 c_1 j1 w1 k43 hj43 hk43 hw c_2)
          refine lv_lload_n hx hb dX12_odds_50 rfl (lv_at hl 1 rfl) ?_
          refine lv_aload_n hx hb dX12_odds_51 rfl (lv_at hl 2 rfl) ?_
          refine va_get (D := D) (ci := 12) (v := .ref (q 76)) (C := RX12) (T := TX12) (N := 81) hx hb hts inT_X12 hown hK.1 hP 0 rfl rfl 76 (by decide) (hts _ k_1429) (fun _ h9 => h9) rfl dX12_odds_52 ?_
          refine lv_iload hx hb dX12_odds_55 (lv_at hl 0 rfl) ?_
          refine lt_z (j := j1) hx hb hK hP 2 rfl (lf_X12_odds_f_8 h q im m_says m_isStory m_signSeen n1 c_1 j1 w1 k43 hj43 hk43 hw c_2 n_6) (by decide) dX12_odds_57 ?_
          refine lv_if_eq (tgt := 70) hx hb dX12_odds_58 (by decide) (fun c_9 => ?_) (fun c_9 => ?_)
          · refine lv_lconst (v := 0) hx hb dX12_odds_70 (by decide) ?_
            refine lv_ladd hx hb dX12_odds_71 ?_
            refine lv_topl (fun x_10 ex_10 => ?_)
            refine lv_lstore_n (lv' := [(2, .long x_10), (4, .int (nI j1)), (0, .ref h), (1, .int n1)]) hx hb dX12_odds_72 rfl hl (by decide) rfl (fun ls hl => ?_)
            refine lv_iinc (v := nI (j1 + 1)) (lv' := [(4, .int (nI (j1 + 1))), (2, .long x_10), (0, .ref h), (1, .int n1)]) hx hb dX12_odds_73 hl (k := 1) rfl (nI_1 j1) (by decide) rfl (fun ls hl => ?_)
            refine lv_goto (tgt := 43) hx hb dX12_odds_76 (by decide) ?_
            exact ih43 (j1 + 1) x_10 H locs ls (by omega) (by omega) (lf_X12_odds_f_11 h q im m_says m_isStory m_signSeen n1 c_1 j1 w1 k43 hj43 hk43 hw c_2 n_6 c_9 x_10 ex_10) (hP.sub [0, 1, 2, 3] rfl)  hS (lv_sub hl [0, 1, 2, 3] rfl)
          · refine lv_aload_n hx hb dX12_odds_61 rfl (lv_at hl 2 rfl) ?_
            refine lv_iload hx hb dX12_odds_62 (lv_at hl 0 rfl) ?_
            refine eRl (va_runV (As := [.int (nI j1)]) (rest := [.long w1]) ⟨hx, hb, hml, hown, hts⟩ (c_X12_oddsOf_f l D cI cB cZ cJ tx h q im m_says m_signSeen j1 (lf_X12_odds_f_12 h q im m_says m_isStory m_signSeen n1 c_1 j1 w1 k43 hj43 hk43 hw c_2 n_6 c_9) H.size) (zV hts k_2034 v_X12_oddsOf ⟨Nat.le_of_ble_eq_true rfl, Nat.le_of_ble_eq_true rfl⟩) (pV (pxS hK hP hD [0, 1, 3] (by decide) rfl) hK hP 0 rfl rfl) rfl rfl hl.1 rfl (lv_room (Nat.le_of_ble_eq_true rfl)) dX12_odds_64 ⟨Nat.le_of_ble_eq_true rfl, Nat.le_of_ble_eq_true rfl⟩) hP hS hA (fun r_13 H locs wr_13 hP hS => ?_)
            subst wr_13
            refine lv_goto (tgt := 71) hx hb dX12_odds_67 (by decide) ?_
            refine lv_ladd hx hb dX12_odds_71 ?_
            refine lv_topl (fun x_14 ex_14 => ?_)
            refine lv_lstore_n (lv' := [(2, .long x_14), (4, .int (nI j1)), (0, .ref h), (1, .int n1)]) hx hb dX12_odds_72 rfl hl (by decide) rfl (fun ls hl => ?_)
            refine lv_iinc (v := nI (j1 + 1)) (lv' := [(4, .int (nI (j1 + 1))), (2, .long x_14), (0, .ref h), (1, .int n1)]) hx hb dX12_odds_73 hl (k := 1) rfl (nI_1 j1) (by decide) rfl (fun ls hl => ?_)
            refine lv_goto (tgt := 43) hx hb dX12_odds_76 (by decide) ?_
            exact ih43 (j1 + 1) x_14 H locs ls (by omega) (by omega) (lf_X12_odds_f_15 h q im m_says m_isStory m_signSeen n1 c_1 j1 w1 k43 hj43 hk43 hw c_2 n_6 c_9 x_14 ex_14) (hP.sub [0, 1, 2, 3] rfl)  hS (lv_sub hl [0, 1, 2, 3] rfl)
    exact lp43 (6 + 1) 0 0 H locs ls (by omega) (by omega) (lf_X12_odds_f_16 h q im m_says m_isStory m_signSeen n1 c_1) (hP.sub [0, 1, 2, 3] rfl)  hS (lv_sub hl [0, 1, 2, 3] rfl)
  · refine lv_iload_n hx hb dX12_odds_5 rfl (lv_at hl 1 rfl) ?_
    refine lv_i2l (v := n1.toInt64) hx hb dX12_odds_6 rfl ?_
    refine lv_lconst (v := 0) hx hb dX12_odds_7 (by decide) ?_
    refine lv_ldc2 (v := 5) hx hb hown (hts _ k_2010) dX12_odds_8 ?_
    refine eRi (va_runS (As := [.long n1.toInt64, .long 0, .long 5]) (rest := []) ⟨hx, hb, hml, hown, hts⟩ (c_X12_isIn l D cI cB cZ cJ tx n1.toInt64 0 5 H.size) (zS hts k_1602 v_X12_isIn ⟨Nat.le_of_ble_eq_true rfl, Nat.le_of_ble_eq_true rfl⟩) (px0 hK) rfl rfl hl.1 rfl (lv_room (Nat.le_of_ble_eq_true rfl)) dX12_odds_11 ⟨Nat.le_of_ble_eq_true rfl, Nat.le_of_ble_eq_true rfl⟩) hP hS hA (fun r_17 H locs wr_17 hP hS => ?_)
    have wr_17 : r_17 = bi ((0 : Int32) ≤ n1 ∧ n1 ≤ 5) := isIn32 (lo := 0) (hi := 5) (by decide) (by decide) wr_17
    subst wr_17
    refine lv_bi_eq (tgt := 34) hx hb dX12_odds_14 (by decide) (fun c_18 => ?_) (fun c_18 => ?_)
    · refine lv_ldc2 (v := (-1)) hx hb hown (hts _ k_1950) dX12_odds_34 ?_
      rw [hQ]
      exact W.lret (v := (-1)) hx hb hr (fun tt9 ht hW => ⟨⟨((-1) : Int64), (), rfl, (lf_X12_odds_f_19 h q im m_says m_isStory m_signSeen n1 c_1 c_18), trivial⟩, hS.F ht⟩) hS.2.2 dX12_odds_37 hlocks
    · obtain ⟨tn1, tn1a, tn1b, tn1e⟩ := of_rng 0 5 rfl rfl c_18
      subst tn1e
      refine lv_aload_n hx hb dX12_odds_17 rfl (lv_at hl 0 rfl) ?_
      refine va_get (D := D) (ci := 12) (v := .ref (q 76)) (C := RX12) (T := TX12) (N := 81) hx hb hts inT_X12 hown hK.1 hP 0 rfl rfl 76 (by decide) (hts _ k_1429) (fun _ h9 => h9) rfl dX12_odds_18 ?_
      refine lv_iload_n hx hb dX12_odds_21 rfl (lv_at hl 1 rfl) ?_
      refine lt_z (j := tn1) hx hb hK hP 2 rfl (lf_X12_odds_f_20 h q im m_says m_isStory m_signSeen (nI tn1) c_1 c_18 tn1 tn1a tn1b rfl) (by decide) dX12_odds_22 ?_
      refine lv_if_eq (tgt := 34) hx hb dX12_odds_23 (by decide) (fun c_21 => ?_) (fun c_21 => ?_)
      · refine lv_ldc2 (v := (-1)) hx hb hown (hts _ k_1950) dX12_odds_34 ?_
        rw [hQ]
        exact W.lret (v := (-1)) hx hb hr (fun tt9 ht hW => ⟨⟨((-1) : Int64), (), rfl, (lf_X12_odds_f_22 h q im m_says m_isStory m_signSeen (nI tn1) c_1 c_18 tn1 tn1a tn1b rfl c_21), trivial⟩, hS.F ht⟩) hS.2.2 dX12_odds_37 hlocks
      · refine lv_aload_n hx hb dX12_odds_26 rfl (lv_at hl 0 rfl) ?_
        refine lv_iload_n hx hb dX12_odds_27 rfl (lv_at hl 1 rfl) ?_
        refine eRl (va_runV (As := [.int (nI tn1)]) (rest := []) ⟨hx, hb, hml, hown, hts⟩ (c_X12_oddsOf_f l D cI cB cZ cJ tx h q im m_says m_signSeen tn1 (lf_X12_odds_f_23 h q im m_says m_isStory m_signSeen (nI tn1) c_1 c_18 tn1 tn1a tn1b rfl c_21) H.size) (zV hts k_2034 v_X12_oddsOf ⟨Nat.le_of_ble_eq_true rfl, Nat.le_of_ble_eq_true rfl⟩) (pV (pxS hK hP hD [0, 1, 3] (by decide) rfl) hK hP 0 rfl rfl) rfl rfl hl.1 rfl (lv_room (Nat.le_of_ble_eq_true rfl)) dX12_odds_28 ⟨Nat.le_of_ble_eq_true rfl, Nat.le_of_ble_eq_true rfl⟩) hP hS hA (fun r_24 H locs wr_24 hP hS => ?_)
        subst wr_24
        refine lv_goto (tgt := 37) hx hb dX12_odds_31 (by decide) ?_
        rw [hQ]
        exact W.lret (v := prodF m_says m_signSeen tn1 6) hx hb hr (fun tt9 ht hW => ⟨⟨(prodF m_says m_signSeen tn1 6 : Int64), (), rfl, (lf_X12_odds_f_25 h q im m_says m_isStory m_signSeen (nI tn1) c_1 c_18 tn1 tn1a tn1b rfl c_21), trivial⟩, hS.F ht⟩) hS.2.2 dX12_odds_37 hlocks

theorem lf_X7_tell_f_2 (a : Nat → Nat) (y0 : Nat → Int32) (y1 : Nat → Int32) (x1 : Nat) (x2 : Nat) (n3 : Int32) (hx1 : x1 ≤ 5) (hx2 : x2 ≤ 5) : ((x1 * 6) + x2) < 36 := by
  omega
theorem lf_X7_tell_f_4 (a : Nat → Nat) (y0 : Nat → Int32) (y1 : Nat → Int32) (x1 : Nat) (x2 : Nat) (n3 : Int32) (hx1 : x1 ≤ 5) (hx2 : x2 ≤ 5) (f_1 : Nat → Int32) (ef_1 : f_1 = upd y0 ((x1 * 6) + x2) n3) : x1 < 6 := by
  omega
theorem lf_X7_tell_f_5 (a : Nat → Nat) (y0 : Nat → Int32) (y1 : Nat → Int32) (x1 : Nat) (x2 : Nat) (n3 : Int32) (hx1 : x1 ≤ 5) (hx2 : x2 ≤ 5) (f_1 : Nat → Int32) (ef_1 : f_1 = upd y0 ((x1 * 6) + x2) n3) (f_3 : Nat → Int32) (ef_3 : f_3 = upd y1 x1 (vp_nar .boolean 1)) : ((f_1 : Nat → Int32) = upd y0 (x1 * 6 + x2) n3) ∧ ((f_3 : Nat → Int32) = upd y1 x1 1) := by
  refine ⟨by assumption, upd_b1 (by assumption)⟩
set_option maxHeartbeats 4000000 in
set_option maxRecDepth 100000 in
theorem c_X7_tell_f (l : Launch) (D : va_G) (cI cB cZ cJ : ClassId) (tx : List (ClassId × FieldType)) (a : Nat → Nat) (y0 : Nat → Int32) (y1 : Nat → Int32) (x1 : Nat) (x2 : Nat) (n3 : Int32) (hx1 : x1 ≤ 5) (hx2 : x2 ≤ 5) : WrV l D cI cB cZ cJ tx yX7_tell cX7_tell 4 none 0 0 0 [.ref (a 12), .int (nI x1), .int (nI x2), .int n3] [(a 12, .inr (7, [.ref (a 48), .ref (a 49), .ref (a 50)])), (a 48, .inl (cI, 36, .inl y0)), (a 49, .inl (cZ, 6, .inl y1))] (fun (v : (Nat → Int32) × (Nat → Int32)) => (v.1 = upd y0 (x1 * 6 + x2) n3) ∧ (v.2 = upd y1 x1 1)) (fun v => [(a 12, .inr (7, [.ref (a 48), .ref (a 49), .ref (a 50)])), (a 48, .inl (cI, 36, .inl v.1)), (a 49, .inl (cZ, 6, .inl v.2))]) := by
  refine wrv_of2 (by decide) (Nat.le_of_ble_eq_true rfl) ?_
  intro p e s m below meth c A ls H locs hC hK hP hD hA hS hl
  obtain ⟨hx, hb, hr, hml, hown, hts, hlocks, hin⟩ := hC
  have hown : s.vm.findClass RX7 = some m.cls := hown
  have hl : lv_has ls 4 [(0, .ref (a 12)), (1, .int (nI x1)), (2, .int (nI x2)), (3, .int n3)] := hl
  refine W_gQ (fun Q hQ => ?_)
  refine lv_aload_n hx hb dX7_tell_0 rfl (lv_at hl 0 rfl) ?_
  refine va_get (D := D) (ci := 7) (v := .ref (a 48)) (C := RX7) (T := TX7) (N := 3) hx hb hts inT_X7 hown hK.1 hP 0 rfl rfl 0 (by decide) (hts _ k_471) (fun _ h9 => h9) rfl dX7_tell_1 ?_
  refine lv_iload_n hx hb dX7_tell_4 rfl (lv_at hl 1 rfl) ?_
  refine lv_bipush (v := 6) hx hb dX7_tell_5 (by decide) ?_
  refine lv_imul hx hb dX7_tell_7 ?_
  refine lv_topv (y := nI (x1 * 6)) (pk_mul x1 6) ?_
  refine lv_iload_n hx hb dX7_tell_8 rfl (lv_at hl 2 rfl) ?_
  refine lv_iadd hx hb dX7_tell_9 ?_
  refine lv_topv (y := nI ((x1 * 6) + x2)) (nI_add (x1 * 6) x2) ?_
  refine lv_iload_n hx hb dX7_tell_10 rfl (lv_at hl 3 rfl) ?_
  refine su_i (j := ((x1 * 6) + x2)) hx hb hK hP hD hS 1 rfl (lf_X7_tell_f_2 a y0 y1 x1 x2 n3 hx1 hx2) (by first | decide | assumption) dX7_tell_11 (fun f_1 H locs ef_1 hP hD hS => ?_)
  have hP : va_P D vwCl [(a 12, .inr (7, [.ref (a 48), .ref (a 49), .ref (a 50)])), (a 48, .inl (cI, 36, .inl f_1)), (a 49, .inl (cZ, 6, .inl y1))] H := hP
  have hD : va_D A [(a 12, .inr (7, [.ref (a 48), .ref (a 49), .ref (a 50)])), (a 48, .inl (cI, 36, .inl f_1)), (a 49, .inl (cZ, 6, .inl y1))] := hD
  refine lv_aload_n hx hb dX7_tell_12 rfl (lv_at hl 0 rfl) ?_
  refine va_get (D := D) (ci := 7) (v := .ref (a 49)) (C := RX7) (T := TX7) (N := 3) hx hb hts inT_X7 hown hK.1 hP 0 rfl rfl 1 (by decide) (hts _ k_472) (fun _ h9 => h9) rfl dX7_tell_13 ?_
  refine lv_iload_n hx hb dX7_tell_16 rfl (lv_at hl 1 rfl) ?_
  refine lv_iconst (v := 1) hx hb dX7_tell_17 (by decide) ?_
  refine su_z (j := x1) hx hb hK hP hD hS 2 rfl (lf_X7_tell_f_4 a y0 y1 x1 x2 n3 hx1 hx2 f_1 ef_1) (by first | decide | assumption) dX7_tell_18 (fun f_3 H locs ef_3 hP hD hS => ?_)
  have hP : va_P D vwCl [(a 12, .inr (7, [.ref (a 48), .ref (a 49), .ref (a 50)])), (a 48, .inl (cI, 36, .inl f_1)), (a 49, .inl (cZ, 6, .inl f_3))] H := hP
  have hD : va_D A [(a 12, .inr (7, [.ref (a 48), .ref (a 49), .ref (a 50)])), (a 48, .inl (cI, 36, .inl f_1)), (a 49, .inl (cZ, 6, .inl f_3))] := hD
  rw [hQ]
  exact W.vret hx hb hr (fun tt9 ht hW => ⟨⟨((f_1 : Nat → Int32), (f_3 : Nat → Int32)), rfl, (lf_X7_tell_f_5 a y0 y1 x1 x2 n3 hx1 hx2 f_1 ef_1 f_3 ef_3), ⟨by rw [ht]; exact hP, hD⟩⟩, hS.F ht⟩) hS.2.2 dX7_tell_19 hlocks

theorem lf_X11_story_g_3 (a : Nat → Nat) (ap : Int32) (y0 : Nat → Int32) (y1 : Nat → Int32) (n1 : Int32) (n2 : Int32) (n3 : Int32) (c_2 : ¬ ((0 : Int32) ≤ n1 ∧ n1 ≤ 5)) : ((y0 : Nat → Int32) = stF n1 n2 n3 y0) ∧ ((y1 : Nat → Int32) = stT n1 n2 n3 y1) := by
  refine ⟨?_, ?_⟩
  all_goals first | exact stF_y (by assumption) (by assumption) (by assumption) (by assumption) (by assumption) (by assumption) (by assumption) (by first | assumption | (rw [tn3e]; assumption)) | exact stF_z (by assumption) (by assumption) (by assumption) (by assumption) (by assumption) (by assumption) (by assumption) (by first | assumption | (rw [tn3e]; assumption)) | exact stT_y (by assumption) (by assumption) (by assumption) (by assumption) (by assumption) (by assumption) | exact stT_y (by assumption) (by assumption) (by assumption) (by assumption) (by assumption) (upd_b1 (by assumption)) | exact stF_n (fun w => absurd w.1 (by assumption)) | exact stF_n (fun w => absurd w.2.1 (by assumption)) | exact stF_n (fun w => absurd w.2.2 (by assumption)) | exact stT_n (fun w => absurd w.1 (by assumption)) | exact stT_n (fun w => absurd w.2.1 (by assumption)) | exact stT_n (fun w => absurd w.2.2 (by assumption))
theorem lf_X11_story_g_6 (a : Nat → Nat) (ap : Int32) (y0 : Nat → Int32) (y1 : Nat → Int32) (n1 : Int32) (n2 : Int32) (n3 : Int32) (c_2 : (0 : Int32) ≤ n1 ∧ n1 ≤ 5) (tn1 : Nat) (tn1a : 0 ≤ tn1) (tn1b : tn1 ≤ 5) (tn1e : n1 = nI tn1) (c_5 : ¬ ((0 : Int32) ≤ n2 ∧ n2 ≤ 5)) : ((y0 : Nat → Int32) = stF n1 n2 n3 y0) ∧ ((y1 : Nat → Int32) = stT n1 n2 n3 y1) := by
  refine ⟨?_, ?_⟩
  all_goals first | exact stF_y (by assumption) (by assumption) (by assumption) (by assumption) (by assumption) (by assumption) (by assumption) (by first | assumption | (rw [tn3e]; assumption)) | exact stF_z (by assumption) (by assumption) (by assumption) (by assumption) (by assumption) (by assumption) (by assumption) (by first | assumption | (rw [tn3e]; assumption)) | exact stT_y (by assumption) (by assumption) (by assumption) (by assumption) (by assumption) (by assumption) | exact stT_y (by assumption) (by assumption) (by assumption) (by assumption) (by assumption) (upd_b1 (by assumption)) | exact stF_n (fun w => absurd w.1 (by assumption)) | exact stF_n (fun w => absurd w.2.1 (by assumption)) | exact stF_n (fun w => absurd w.2.2 (by assumption)) | exact stT_n (fun w => absurd w.1 (by assumption)) | exact stT_n (fun w => absurd w.2.1 (by assumption)) | exact stT_n (fun w => absurd w.2.2 (by assumption))
theorem lf_X11_story_g_9 (a : Nat → Nat) (ap : Int32) (y0 : Nat → Int32) (y1 : Nat → Int32) (n1 : Int32) (n2 : Int32) (n3 : Int32) (c_2 : (0 : Int32) ≤ n1 ∧ n1 ≤ 5) (tn1 : Nat) (tn1a : 0 ≤ tn1) (tn1b : tn1 ≤ 5) (tn1e : n1 = nI tn1) (c_5 : (0 : Int32) ≤ n2 ∧ n2 ≤ 5) (tn2 : Nat) (tn2a : 0 ≤ tn2) (tn2b : tn2 ≤ 5) (tn2e : n2 = nI tn2) (c_8 : (0 : Int32) ≤ n3 ∧ n3 ≤ 1000) (tn3 : Nat) (tn3a : 0 ≤ tn3) (tn3b : tn3 ≤ 1000) (tn3e : n3 = nI tn3) : tn1 ≤ 5 := by
  first | assumption | omega | decide
theorem lf_X11_story_g_10 (a : Nat → Nat) (ap : Int32) (y0 : Nat → Int32) (y1 : Nat → Int32) (n1 : Int32) (n2 : Int32) (n3 : Int32) (c_2 : (0 : Int32) ≤ n1 ∧ n1 ≤ 5) (tn1 : Nat) (tn1a : 0 ≤ tn1) (tn1b : tn1 ≤ 5) (tn1e : n1 = nI tn1) (c_5 : (0 : Int32) ≤ n2 ∧ n2 ≤ 5) (tn2 : Nat) (tn2a : 0 ≤ tn2) (tn2b : tn2 ≤ 5) (tn2e : n2 = nI tn2) (c_8 : (0 : Int32) ≤ n3 ∧ n3 ≤ 1000) (tn3 : Nat) (tn3a : 0 ≤ tn3) (tn3b : tn3 ≤ 1000) (tn3e : n3 = nI tn3) : tn2 ≤ 5 := by
  first | assumption | omega | decide
theorem lf_X11_story_g_13 (a : Nat → Nat) (ap : Int32) (y0 : Nat → Int32) (y1 : Nat → Int32) (n1 : Int32) (n2 : Int32) (n3 : Int32) (c_2 : (0 : Int32) ≤ n1 ∧ n1 ≤ 5) (tn1 : Nat) (tn1a : 0 ≤ tn1) (tn1b : tn1 ≤ 5) (tn1e : n1 = nI tn1) (c_5 : (0 : Int32) ≤ n2 ∧ n2 ≤ 5) (tn2 : Nat) (tn2a : 0 ≤ tn2) (tn2b : tn2 ≤ 5) (tn2e : n2 = nI tn2) (c_8 : (0 : Int32) ≤ n3 ∧ n3 ≤ 1000) (tn3 : Nat) (tn3a : 0 ≤ tn3) (tn3b : tn3 ≤ 1000) (tn3e : n3 = nI tn3) (y0_12 : Nat → Int32) (y1_12 : Nat → Int32) (hz_12_0 : y0_12 = upd y0 (tn1 * 6 + tn2) (nI tn3)) (hz_12_1 : y1_12 = upd y1 tn1 1) : ((y0_12 : Nat → Int32) = stF n1 n2 n3 y0) ∧ ((y1_12 : Nat → Int32) = stT n1 n2 n3 y1) := by
  refine ⟨?_, ?_⟩
  all_goals first | exact stF_y (by assumption) (by assumption) (by assumption) (by assumption) (by assumption) (by assumption) (by assumption) (by first | assumption | (rw [tn3e]; assumption)) | exact stF_z (by assumption) (by assumption) (by assumption) (by assumption) (by assumption) (by assumption) (by assumption) (by first | assumption | (rw [tn3e]; assumption)) | exact stT_y (by assumption) (by assumption) (by assumption) (by assumption) (by assumption) (by assumption) | exact stT_y (by assumption) (by assumption) (by assumption) (by assumption) (by assumption) (upd_b1 (by assumption)) | exact stF_n (fun w => absurd w.1 (by assumption)) | exact stF_n (fun w => absurd w.2.1 (by assumption)) | exact stF_n (fun w => absurd w.2.2 (by assumption)) | exact stT_n (fun w => absurd w.1 (by assumption)) | exact stT_n (fun w => absurd w.2.1 (by assumption)) | exact stT_n (fun w => absurd w.2.2 (by assumption))
theorem lf_X11_story_g_14 (a : Nat → Nat) (ap : Int32) (y0 : Nat → Int32) (y1 : Nat → Int32) (n1 : Int32) (n2 : Int32) (n3 : Int32) (c_2 : (0 : Int32) ≤ n1 ∧ n1 ≤ 5) (tn1 : Nat) (tn1a : 0 ≤ tn1) (tn1b : tn1 ≤ 5) (tn1e : n1 = nI tn1) (c_5 : (0 : Int32) ≤ n2 ∧ n2 ≤ 5) (tn2 : Nat) (tn2a : 0 ≤ tn2) (tn2b : tn2 ≤ 5) (tn2e : n2 = nI tn2) (c_8 : ¬ ((0 : Int32) ≤ n3 ∧ n3 ≤ 1000)) : ((y0 : Nat → Int32) = stF n1 n2 n3 y0) ∧ ((y1 : Nat → Int32) = stT n1 n2 n3 y1) := by
  refine ⟨?_, ?_⟩
  all_goals first | exact stF_y (by assumption) (by assumption) (by assumption) (by assumption) (by assumption) (by assumption) (by assumption) (by first | assumption | (rw [tn3e]; assumption)) | exact stF_z (by assumption) (by assumption) (by assumption) (by assumption) (by assumption) (by assumption) (by assumption) (by first | assumption | (rw [tn3e]; assumption)) | exact stT_y (by assumption) (by assumption) (by assumption) (by assumption) (by assumption) (by assumption) | exact stT_y (by assumption) (by assumption) (by assumption) (by assumption) (by assumption) (upd_b1 (by assumption)) | exact stF_n (fun w => absurd w.1 (by assumption)) | exact stF_n (fun w => absurd w.2.1 (by assumption)) | exact stF_n (fun w => absurd w.2.2 (by assumption)) | exact stT_n (fun w => absurd w.1 (by assumption)) | exact stT_n (fun w => absurd w.2.1 (by assumption)) | exact stT_n (fun w => absurd w.2.2 (by assumption))
set_option maxHeartbeats 4000000 in
set_option maxRecDepth 100000 in
theorem c_X11_story_g (l : Launch) (D : va_G) (cI cB cZ cJ : ClassId) (tx : List (ClassId × FieldType)) (a : Nat → Nat) (ap : Int32) (y0 : Nat → Int32) (y1 : Nat → Int32) (n1 : Int32) (n2 : Int32) (n3 : Int32) : WrI l D cI cB cZ cJ tx yX11_story cX11_story 4 (some .boolean) 2 0 0 [.ref (a 0), .int n1, .int n2, .int n3] [(a 0, .inr (11, [.ref (a 1), .ref (a 2), .ref (a 3), .ref (a 4), .ref (a 5), .ref (a 6), .ref (a 7), .ref (a 8), .ref (a 9), .ref (a 10), .ref (a 11), .ref (a 12), .int ap])), (a 12, .inr (7, [.ref (a 48), .ref (a 49), .ref (a 50)])), (a 48, .inl (cI, 36, .inl y0)), (a 49, .inl (cZ, 6, .inl y1))] (fun (r : Int32) (v : (Nat → Int32) × (Nat → Int32)) => (v.1 = stF n1 n2 n3 y0) ∧ (v.2 = stT n1 n2 n3 y1)) (fun v => [(a 0, .inr (11, [.ref (a 1), .ref (a 2), .ref (a 3), .ref (a 4), .ref (a 5), .ref (a 6), .ref (a 7), .ref (a 8), .ref (a 9), .ref (a 10), .ref (a 11), .ref (a 12), .int ap])), (a 12, .inr (7, [.ref (a 48), .ref (a 49), .ref (a 50)])), (a 48, .inl (cI, 36, .inl v.1)), (a 49, .inl (cZ, 6, .inl v.2))]) := by
  refine wri_of2 (by decide) (Nat.le_of_ble_eq_true rfl) ?_
  intro p e s m below meth c A ls H locs hC hK hP hD hA hS hl
  obtain ⟨hx, hb, hr, hml, hown, hts, hlocks, hin⟩ := hC
  have hown : s.vm.findClass RX11 = some m.cls := hown
  have hl : lv_has ls 4 [(0, .ref (a 0)), (1, .int n1), (2, .int n2), (3, .int n3)] := hl
  refine W_gQ (fun Q hQ => ?_)
  refine lv_iload_n hx hb dX11_story_0 rfl (lv_at hl 1 rfl) ?_
  refine lv_iconst (v := 0) hx hb dX11_story_1 (by decide) ?_
  refine lv_iconst (v := 5) hx hb dX11_story_2 (by decide) ?_
  refine eRi (va_runS (As := [.int n1, .int 0, .int 5]) (rest := []) ⟨hx, hb, hml, hown, hts⟩ (c_X11_within l D cI cB cZ cJ tx n1 0 5 H.size) (zS hts k_527 v_X11_within ⟨Nat.le_of_ble_eq_true rfl, Nat.le_of_ble_eq_true rfl⟩) (px0 hK) rfl rfl hl.1 rfl (lv_room (Nat.le_of_ble_eq_true rfl)) dX11_story_3 ⟨Nat.le_of_ble_eq_true rfl, Nat.le_of_ble_eq_true rfl⟩) hP hS hA (fun r_1 H locs wr_1 hP hS => ?_)
  subst wr_1
  refine lv_bi_eq (tgt := 29) hx hb dX11_story_6 (by decide) (fun c_2 => ?_) (fun c_2 => ?_)
  · refine lv_iconst (v := 0) hx hb dX11_story_29 (by decide) ?_
    rw [hQ]
    exact W.zret (v := 0) hx hb hr (by decide) (fun tt9 ht hW => ⟨⟨(0 : Int32), ((y0 : Nat → Int32), (y1 : Nat → Int32)), rfl, (lf_X11_story_g_3 a ap y0 y1 n1 n2 n3 c_2), ⟨by rw [ht]; exact hP, hD⟩⟩, hS.F ht⟩) hS.2.2 dX11_story_30 hlocks
  · obtain ⟨tn1, tn1a, tn1b, tn1e⟩ := of_rng 0 5 rfl rfl c_2
    subst tn1e
    refine lv_iload_n hx hb dX11_story_9 rfl (lv_at hl 2 rfl) ?_
    refine lv_iconst (v := 0) hx hb dX11_story_10 (by decide) ?_
    refine lv_iconst (v := 5) hx hb dX11_story_11 (by decide) ?_
    refine eRi (va_runS (As := [.int n2, .int 0, .int 5]) (rest := []) ⟨hx, hb, hml, hown, hts⟩ (c_X11_within l D cI cB cZ cJ tx n2 0 5 H.size) (zS hts k_527 v_X11_within ⟨Nat.le_of_ble_eq_true rfl, Nat.le_of_ble_eq_true rfl⟩) (px0 hK) rfl rfl hl.1 rfl (lv_room (Nat.le_of_ble_eq_true rfl)) dX11_story_12 ⟨Nat.le_of_ble_eq_true rfl, Nat.le_of_ble_eq_true rfl⟩) hP hS hA (fun r_4 H locs wr_4 hP hS => ?_)
    subst wr_4
    refine lv_bi_eq (tgt := 29) hx hb dX11_story_15 (by decide) (fun c_5 => ?_) (fun c_5 => ?_)
    · refine lv_iconst (v := 0) hx hb dX11_story_29 (by decide) ?_
      rw [hQ]
      exact W.zret (v := 0) hx hb hr (by decide) (fun tt9 ht hW => ⟨⟨(0 : Int32), ((y0 : Nat → Int32), (y1 : Nat → Int32)), rfl, (lf_X11_story_g_6 a ap y0 y1 (nI tn1) n2 n3 c_2 tn1 tn1a tn1b rfl c_5), ⟨by rw [ht]; exact hP, hD⟩⟩, hS.F ht⟩) hS.2.2 dX11_story_30 hlocks
    · obtain ⟨tn2, tn2a, tn2b, tn2e⟩ := of_rng 0 5 rfl rfl c_5
      subst tn2e
      refine lv_iload_n hx hb dX11_story_18 rfl (lv_at hl 3 rfl) ?_
      refine lv_iconst (v := 0) hx hb dX11_story_19 (by decide) ?_
      refine lv_sipush (v := 1000) hx hb dX11_story_20 (by decide) ?_
      refine eRi (va_runS (As := [.int n3, .int 0, .int 1000]) (rest := []) ⟨hx, hb, hml, hown, hts⟩ (c_X11_within l D cI cB cZ cJ tx n3 0 1000 H.size) (zS hts k_527 v_X11_within ⟨Nat.le_of_ble_eq_true rfl, Nat.le_of_ble_eq_true rfl⟩) (px0 hK) rfl rfl hl.1 rfl (lv_room (Nat.le_of_ble_eq_true rfl)) dX11_story_23 ⟨Nat.le_of_ble_eq_true rfl, Nat.le_of_ble_eq_true rfl⟩) hP hS hA (fun r_7 H locs wr_7 hP hS => ?_)
      subst wr_7
      refine lv_bi_ne (tgt := 31) hx hb dX11_story_26 (by decide) (fun c_8 => ?_) (fun c_8 => ?_)
      · obtain ⟨tn3, tn3a, tn3b, tn3e⟩ := of_rng 0 1000 rfl rfl c_8
        subst tn3e
        refine lv_aload_n hx hb dX11_story_31 rfl (lv_at hl 0 rfl) ?_
        refine va_get (D := D) (ci := 11) (v := .ref (a 12)) (C := RX11) (T := TX11) (N := 13) hx hb hts inT_X11 hown hK.1 hP 0 rfl rfl 11 (by decide) (hts _ k_494) (fun _ h9 => h9) rfl dX11_story_32 ?_
        refine lv_iload_n hx hb dX11_story_35 rfl (lv_at hl 1 rfl) ?_
        refine lv_iload_n hx hb dX11_story_36 rfl (lv_at hl 2 rfl) ?_
        refine lv_iload_n hx hb dX11_story_37 rfl (lv_at hl 3 rfl) ?_
        refine eWvP (va_runV (As := [.int (nI tn1), .int (nI tn2), .int (nI tn3)]) (rest := []) ⟨hx, hb, hml, hown, hts⟩ (c_X7_tell_f l D cI cB cZ cJ tx a y0 y1 tn1 tn2 (nI tn3) (lf_X11_story_g_9 a ap y0 y1 (nI tn1) (nI tn2) (nI tn3) c_2 tn1 tn1a tn1b rfl c_5 tn2 tn2a tn2b rfl c_8 tn3 tn3a tn3b rfl) (lf_X11_story_g_10 a ap y0 y1 (nI tn1) (nI tn2) (nI tn3) c_2 tn1 tn1a tn1b rfl c_5 tn2 tn2a tn2b rfl c_8 tn3 tn3a tn3b rfl) H.size) (zV hts k_1193 v_X7_tell ⟨Nat.le_of_ble_eq_true rfl, Nat.le_of_ble_eq_true rfl⟩) (pV (pxS hK hP hD [1, 2, 3] (by decide) rfl) hK hP 1 rfl rfl) rfl rfl hl.1 rfl (lv_room (Nat.le_of_ble_eq_true rfl)) dX11_story_38 ⟨Nat.le_of_ble_eq_true rfl, Nat.le_of_ble_eq_true rfl⟩) hP hD hS hA [1, 2, 3] [none, some 0, some 1, some 2] rfl (by decide +kernel) (fun _ => rfl) (fun u_12 H locs wr_11 hP hD hS => ?_)
        obtain ⟨y0_12, y1_12⟩ := u_12
        have hz_12_0 : y0_12 = upd y0 (tn1 * 6 + tn2) (nI tn3) := wr_11.1
        have hz_12_1 : y1_12 = upd y1 tn1 1 := wr_11.2
        have hP : va_P D vwCl [(a 0, .inr (11, [.ref (a 1), .ref (a 2), .ref (a 3), .ref (a 4), .ref (a 5), .ref (a 6), .ref (a 7), .ref (a 8), .ref (a 9), .ref (a 10), .ref (a 11), .ref (a 12), .int ap])), (a 12, .inr (7, [.ref (a 48), .ref (a 49), .ref (a 50)])), (a 48, .inl (cI, 36, .inl y0_12)), (a 49, .inl (cZ, 6, .inl y1_12))] H := hP
        have hD : va_D A [(a 0, .inr (11, [.ref (a 1), .ref (a 2), .ref (a 3), .ref (a 4), .ref (a 5), .ref (a 6), .ref (a 7), .ref (a 8), .ref (a 9), .ref (a 10), .ref (a 11), .ref (a 12), .int ap])), (a 12, .inr (7, [.ref (a 48), .ref (a 49), .ref (a 50)])), (a 48, .inl (cI, 36, .inl y0_12)), (a 49, .inl (cZ, 6, .inl y1_12))] := hD
        refine lv_iconst (v := 1) hx hb dX11_story_41 (by decide) ?_
        rw [hQ]
        exact W.zret (v := 1) hx hb hr (by decide) (fun tt9 ht hW => ⟨⟨(1 : Int32), ((y0_12 : Nat → Int32), (y1_12 : Nat → Int32)), rfl, (lf_X11_story_g_13 a ap y0 y1 (nI tn1) (nI tn2) (nI tn3) c_2 tn1 tn1a tn1b rfl c_5 tn2 tn2a tn2b rfl c_8 tn3 tn3a tn3b rfl y0_12 y1_12 hz_12_0 hz_12_1), ⟨by rw [ht]; exact hP, hD⟩⟩, hS.F ht⟩) hS.2.2 dX11_story_42 hlocks
      · refine lv_iconst (v := 0) hx hb dX11_story_29 (by decide) ?_
        rw [hQ]
        exact W.zret (v := 0) hx hb hr (by decide) (fun tt9 ht hW => ⟨⟨(0 : Int32), ((y0 : Nat → Int32), (y1 : Nat → Int32)), rfl, (lf_X11_story_g_14 a ap y0 y1 (nI tn1) (nI tn2) n3 c_2 tn1 tn1a tn1b rfl c_5 tn2 tn2a tn2b rfl c_8), ⟨by rw [ht]; exact hP, hD⟩⟩, hS.F ht⟩) hS.2.2 dX11_story_30 hlocks

theorem lf_X11_sign_g_3 (a : Nat → Nat) (ap : Int32) (y2 : Nat → Int32) (n1 : Int32) (n2 : Int32) (c_2 : ¬ ((0 : Int32) ≤ n1 ∧ n1 ≤ 5)) : ((y2 : Nat → Int32) = sgF n1 n2 y2) := by
  first | exact sgF_y (by assumption) (by assumption) (by assumption) (by assumption) (by assumption) | exact sgF_n (fun w => absurd w.1 (by assumption)) | exact sgF_n (fun w => absurd w.2 (by assumption))
theorem lf_X11_sign_g_7 (a : Nat → Nat) (ap : Int32) (y2 : Nat → Int32) (n1 : Int32) (n2 : Int32) (c_2 : (0 : Int32) ≤ n1 ∧ n1 ≤ 5) (tn1 : Nat) (tn1a : 0 ≤ tn1) (tn1b : tn1 ≤ 5) (tn1e : n1 = nI tn1) (c_5 : ((-1) : Int32) ≤ n2 ∧ n2 ≤ 1) : tn1 < 6 := by
  omega
theorem lf_X11_sign_g_8 (a : Nat → Nat) (ap : Int32) (y2 : Nat → Int32) (n1 : Int32) (n2 : Int32) (c_2 : (0 : Int32) ≤ n1 ∧ n1 ≤ 5) (tn1 : Nat) (tn1a : 0 ≤ tn1) (tn1b : tn1 ≤ 5) (tn1e : n1 = nI tn1) (c_5 : ((-1) : Int32) ≤ n2 ∧ n2 ≤ 1) (f_6 : Nat → Int32) (ef_6 : f_6 = upd y2 tn1 n2) : ((f_6 : Nat → Int32) = sgF n1 n2 y2) := by
  first | exact sgF_y (by assumption) (by assumption) (by assumption) (by assumption) (by assumption) | exact sgF_n (fun w => absurd w.1 (by assumption)) | exact sgF_n (fun w => absurd w.2 (by assumption))
theorem lf_X11_sign_g_9 (a : Nat → Nat) (ap : Int32) (y2 : Nat → Int32) (n1 : Int32) (n2 : Int32) (c_2 : (0 : Int32) ≤ n1 ∧ n1 ≤ 5) (tn1 : Nat) (tn1a : 0 ≤ tn1) (tn1b : tn1 ≤ 5) (tn1e : n1 = nI tn1) (c_5 : ¬ (((-1) : Int32) ≤ n2 ∧ n2 ≤ 1)) : ((y2 : Nat → Int32) = sgF n1 n2 y2) := by
  first | exact sgF_y (by assumption) (by assumption) (by assumption) (by assumption) (by assumption) | exact sgF_n (fun w => absurd w.1 (by assumption)) | exact sgF_n (fun w => absurd w.2 (by assumption))
set_option maxHeartbeats 4000000 in
set_option maxRecDepth 100000 in
theorem c_X11_sign_g (l : Launch) (D : va_G) (cI cB cZ cJ : ClassId) (tx : List (ClassId × FieldType)) (a : Nat → Nat) (ap : Int32) (y2 : Nat → Int32) (n1 : Int32) (n2 : Int32) : WrI l D cI cB cZ cJ tx yX11_sign cX11_sign 3 (some .boolean) 1 0 0 [.ref (a 0), .int n1, .int n2] [(a 0, .inr (11, [.ref (a 1), .ref (a 2), .ref (a 3), .ref (a 4), .ref (a 5), .ref (a 6), .ref (a 7), .ref (a 8), .ref (a 9), .ref (a 10), .ref (a 11), .ref (a 12), .int ap])), (a 12, .inr (7, [.ref (a 48), .ref (a 49), .ref (a 50)])), (a 50, .inl (cI, 6, .inl y2))] (fun (r : Int32) (v : (Nat → Int32)) => (v = sgF n1 n2 y2)) (fun v => [(a 0, .inr (11, [.ref (a 1), .ref (a 2), .ref (a 3), .ref (a 4), .ref (a 5), .ref (a 6), .ref (a 7), .ref (a 8), .ref (a 9), .ref (a 10), .ref (a 11), .ref (a 12), .int ap])), (a 12, .inr (7, [.ref (a 48), .ref (a 49), .ref (a 50)])), (a 50, .inl (cI, 6, .inl v))]) := by
  refine wri_of2 (by decide) (Nat.le_of_ble_eq_true rfl) ?_
  intro p e s m below meth c A ls H locs hC hK hP hD hA hS hl
  obtain ⟨hx, hb, hr, hml, hown, hts, hlocks, hin⟩ := hC
  have hown : s.vm.findClass RX11 = some m.cls := hown
  have hl : lv_has ls 3 [(0, .ref (a 0)), (1, .int n1), (2, .int n2)] := hl
  refine W_gQ (fun Q hQ => ?_)
  refine lv_iload_n hx hb dX11_sign_0 rfl (lv_at hl 1 rfl) ?_
  refine lv_iconst (v := 0) hx hb dX11_sign_1 (by decide) ?_
  refine lv_iconst (v := 5) hx hb dX11_sign_2 (by decide) ?_
  refine eRi (va_runS (As := [.int n1, .int 0, .int 5]) (rest := []) ⟨hx, hb, hml, hown, hts⟩ (c_X11_within l D cI cB cZ cJ tx n1 0 5 H.size) (zS hts k_527 v_X11_within ⟨Nat.le_of_ble_eq_true rfl, Nat.le_of_ble_eq_true rfl⟩) (px0 hK) rfl rfl hl.1 rfl (lv_room (Nat.le_of_ble_eq_true rfl)) dX11_sign_3 ⟨Nat.le_of_ble_eq_true rfl, Nat.le_of_ble_eq_true rfl⟩) hP hS hA (fun r_1 H locs wr_1 hP hS => ?_)
  subst wr_1
  refine lv_bi_eq (tgt := 18) hx hb dX11_sign_6 (by decide) (fun c_2 => ?_) (fun c_2 => ?_)
  · refine lv_iconst (v := 0) hx hb dX11_sign_18 (by decide) ?_
    rw [hQ]
    exact W.zret (v := 0) hx hb hr (by decide) (fun tt9 ht hW => ⟨⟨(0 : Int32), ((y2 : Nat → Int32)), rfl, (lf_X11_sign_g_3 a ap y2 n1 n2 c_2), ⟨by rw [ht]; exact hP, hD⟩⟩, hS.F ht⟩) hS.2.2 dX11_sign_19 hlocks
  · obtain ⟨tn1, tn1a, tn1b, tn1e⟩ := of_rng 0 5 rfl rfl c_2
    subst tn1e
    refine lv_iload_n hx hb dX11_sign_9 rfl (lv_at hl 2 rfl) ?_
    refine lv_iconst (v := (-1)) hx hb dX11_sign_10 (by decide) ?_
    refine lv_iconst (v := 1) hx hb dX11_sign_11 (by decide) ?_
    refine eRi (va_runS (As := [.int n2, .int (-1), .int 1]) (rest := []) ⟨hx, hb, hml, hown, hts⟩ (c_X11_within l D cI cB cZ cJ tx n2 (-1) 1 H.size) (zS hts k_527 v_X11_within ⟨Nat.le_of_ble_eq_true rfl, Nat.le_of_ble_eq_true rfl⟩) (px0 hK) rfl rfl hl.1 rfl (lv_room (Nat.le_of_ble_eq_true rfl)) dX11_sign_12 ⟨Nat.le_of_ble_eq_true rfl, Nat.le_of_ble_eq_true rfl⟩) hP hS hA (fun r_4 H locs wr_4 hP hS => ?_)
    subst wr_4
    refine lv_bi_ne (tgt := 20) hx hb dX11_sign_15 (by decide) (fun c_5 => ?_) (fun c_5 => ?_)
    · refine lv_aload_n hx hb dX11_sign_20 rfl (lv_at hl 0 rfl) ?_
      refine va_get (D := D) (ci := 11) (v := .ref (a 12)) (C := RX11) (T := TX11) (N := 13) hx hb hts inT_X11 hown hK.1 hP 0 rfl rfl 11 (by decide) (hts _ k_494) (fun _ h9 => h9) rfl dX11_sign_21 ?_
      refine va_getN (D := D) (ci := 7) (v := .ref (a 50)) (C := RX7) (T := TX7) (N := 3) hx hb hts inT_X7 hown hK.1 hP 1 rfl rfl 2 (by decide) (va_Nw.use rfl (hK.2.2.1 _ n_475)) (fun _ h9 => h9) rfl dX11_sign_24 ?_
      refine lv_iload_n hx hb dX11_sign_27 rfl (lv_at hl 1 rfl) ?_
      refine lv_iload_n hx hb dX11_sign_28 rfl (lv_at hl 2 rfl) ?_
      refine su_i (j := tn1) hx hb hK hP hD hS 2 rfl (lf_X11_sign_g_7 a ap y2 (nI tn1) n2 c_2 tn1 tn1a tn1b rfl c_5) (by first | decide | assumption) dX11_sign_29 (fun f_6 H locs ef_6 hP hD hS => ?_)
      have hP : va_P D vwCl [(a 0, .inr (11, [.ref (a 1), .ref (a 2), .ref (a 3), .ref (a 4), .ref (a 5), .ref (a 6), .ref (a 7), .ref (a 8), .ref (a 9), .ref (a 10), .ref (a 11), .ref (a 12), .int ap])), (a 12, .inr (7, [.ref (a 48), .ref (a 49), .ref (a 50)])), (a 50, .inl (cI, 6, .inl f_6))] H := hP
      have hD : va_D A [(a 0, .inr (11, [.ref (a 1), .ref (a 2), .ref (a 3), .ref (a 4), .ref (a 5), .ref (a 6), .ref (a 7), .ref (a 8), .ref (a 9), .ref (a 10), .ref (a 11), .ref (a 12), .int ap])), (a 12, .inr (7, [.ref (a 48), .ref (a 49), .ref (a 50)])), (a 50, .inl (cI, 6, .inl f_6))] := hD
      refine lv_iconst (v := 1) hx hb dX11_sign_30 (by decide) ?_
      rw [hQ]
      exact W.zret (v := 1) hx hb hr (by decide) (fun tt9 ht hW => ⟨⟨(1 : Int32), ((f_6 : Nat → Int32)), rfl, (lf_X11_sign_g_8 a ap y2 (nI tn1) n2 c_2 tn1 tn1a tn1b rfl c_5 f_6 ef_6), ⟨by rw [ht]; exact hP, hD⟩⟩, hS.F ht⟩) hS.2.2 dX11_sign_31 hlocks
    · refine lv_iconst (v := 0) hx hb dX11_sign_18 (by decide) ?_
      rw [hQ]
      exact W.zret (v := 0) hx hb hr (by decide) (fun tt9 ht hW => ⟨⟨(0 : Int32), ((y2 : Nat → Int32)), rfl, (lf_X11_sign_g_9 a ap y2 (nI tn1) n2 c_2 tn1 tn1a tn1b rfl c_5), ⟨by rw [ht]; exact hP, hD⟩⟩, hS.F ht⟩) hS.2.2 dX11_sign_19 hlocks

theorem lf_X12_story_g_3 (h : Nat) (q : Nat → Nat) (im : Nat → Int32) (m_says : Nat → Int32) (m_isStory : Nat → Int32) (n1 : Int32) (n2 : Int32) (n3 : Int32) (c_2 : ¬ ((0 : Int32) ≤ n1 ∧ n1 ≤ 5)) : ((m_says : Nat → Int32) = stF n1 n2 n3 m_says) ∧ ((m_isStory : Nat → Int32) = stT n1 n2 n3 m_isStory) := by
  refine ⟨?_, ?_⟩
  all_goals first | exact stF_y (by assumption) (by assumption) (by assumption) (by assumption) (by assumption) (by assumption) (by assumption) (by first | assumption | (rw [tn3e]; assumption)) | exact stF_z (by assumption) (by assumption) (by assumption) (by assumption) (by assumption) (by assumption) (by assumption) (by first | assumption | (rw [tn3e]; assumption)) | exact stT_y (by assumption) (by assumption) (by assumption) (by assumption) (by assumption) (by assumption) | exact stT_y (by assumption) (by assumption) (by assumption) (by assumption) (by assumption) (upd_b1 (by assumption)) | exact stF_n (fun w => absurd w.1 (by assumption)) | exact stF_n (fun w => absurd w.2.1 (by assumption)) | exact stF_n (fun w => absurd w.2.2 (by assumption)) | exact stT_n (fun w => absurd w.1 (by assumption)) | exact stT_n (fun w => absurd w.2.1 (by assumption)) | exact stT_n (fun w => absurd w.2.2 (by assumption))
theorem lf_X12_story_g_6 (h : Nat) (q : Nat → Nat) (im : Nat → Int32) (m_says : Nat → Int32) (m_isStory : Nat → Int32) (n1 : Int32) (n2 : Int32) (n3 : Int32) (c_2 : (0 : Int32) ≤ n1 ∧ n1 ≤ 5) (tn1 : Nat) (tn1a : 0 ≤ tn1) (tn1b : tn1 ≤ 5) (tn1e : n1 = nI tn1) (c_5 : ¬ ((0 : Int32) ≤ n2 ∧ n2 ≤ 5)) : ((m_says : Nat → Int32) = stF n1 n2 n3 m_says) ∧ ((m_isStory : Nat → Int32) = stT n1 n2 n3 m_isStory) := by
  refine ⟨?_, ?_⟩
  all_goals first | exact stF_y (by assumption) (by assumption) (by assumption) (by assumption) (by assumption) (by assumption) (by assumption) (by first | assumption | (rw [tn3e]; assumption)) | exact stF_z (by assumption) (by assumption) (by assumption) (by assumption) (by assumption) (by assumption) (by assumption) (by first | assumption | (rw [tn3e]; assumption)) | exact stT_y (by assumption) (by assumption) (by assumption) (by assumption) (by assumption) (by assumption) | exact stT_y (by assumption) (by assumption) (by assumption) (by assumption) (by assumption) (upd_b1 (by assumption)) | exact stF_n (fun w => absurd w.1 (by assumption)) | exact stF_n (fun w => absurd w.2.1 (by assumption)) | exact stF_n (fun w => absurd w.2.2 (by assumption)) | exact stT_n (fun w => absurd w.1 (by assumption)) | exact stT_n (fun w => absurd w.2.1 (by assumption)) | exact stT_n (fun w => absurd w.2.2 (by assumption))
theorem lf_X12_story_g_10 (h : Nat) (q : Nat → Nat) (im : Nat → Int32) (m_says : Nat → Int32) (m_isStory : Nat → Int32) (n1 : Int32) (n2 : Int32) (n3 : Int32) (c_2 : (0 : Int32) ≤ n1 ∧ n1 ≤ 5) (tn1 : Nat) (tn1a : 0 ≤ tn1) (tn1b : tn1 ≤ 5) (tn1e : n1 = nI tn1) (c_5 : (0 : Int32) ≤ n2 ∧ n2 ≤ 5) (tn2 : Nat) (tn2a : 0 ≤ tn2) (tn2b : tn2 ≤ 5) (tn2e : n2 = nI tn2) (c_8 : (0 : Int32) ≤ n3 ∧ n3 ≤ 1000) (tn3 : Nat) (tn3a : 0 ≤ tn3) (tn3b : tn3 ≤ 1000) (tn3e : n3 = nI tn3) : ((6 * tn1) + tn2) < 36 := by
  omega
theorem lf_X12_story_g_12 (h : Nat) (q : Nat → Nat) (im : Nat → Int32) (m_says : Nat → Int32) (m_isStory : Nat → Int32) (n1 : Int32) (n2 : Int32) (n3 : Int32) (c_2 : (0 : Int32) ≤ n1 ∧ n1 ≤ 5) (tn1 : Nat) (tn1a : 0 ≤ tn1) (tn1b : tn1 ≤ 5) (tn1e : n1 = nI tn1) (c_5 : (0 : Int32) ≤ n2 ∧ n2 ≤ 5) (tn2 : Nat) (tn2a : 0 ≤ tn2) (tn2b : tn2 ≤ 5) (tn2e : n2 = nI tn2) (c_8 : (0 : Int32) ≤ n3 ∧ n3 ≤ 1000) (tn3 : Nat) (tn3a : 0 ≤ tn3) (tn3b : tn3 ≤ 1000) (tn3e : n3 = nI tn3) (f_9 : Nat → Int32) (ef_9 : f_9 = upd m_says ((6 * tn1) + tn2) (nI tn3)) : tn1 < 6 := by
  omega
theorem lf_X12_story_g_13 (h : Nat) (q : Nat → Nat) (im : Nat → Int32) (m_says : Nat → Int32) (m_isStory : Nat → Int32) (n1 : Int32) (n2 : Int32) (n3 : Int32) (c_2 : (0 : Int32) ≤ n1 ∧ n1 ≤ 5) (tn1 : Nat) (tn1a : 0 ≤ tn1) (tn1b : tn1 ≤ 5) (tn1e : n1 = nI tn1) (c_5 : (0 : Int32) ≤ n2 ∧ n2 ≤ 5) (tn2 : Nat) (tn2a : 0 ≤ tn2) (tn2b : tn2 ≤ 5) (tn2e : n2 = nI tn2) (c_8 : (0 : Int32) ≤ n3 ∧ n3 ≤ 1000) (tn3 : Nat) (tn3a : 0 ≤ tn3) (tn3b : tn3 ≤ 1000) (tn3e : n3 = nI tn3) (f_9 : Nat → Int32) (ef_9 : f_9 = upd m_says ((6 * tn1) + tn2) (nI tn3)) (f_11 : Nat → Int32) (ef_11 : f_11 = upd m_isStory tn1 (vp_nar .boolean 1)) : ((f_9 : Nat → Int32) = stF n1 n2 n3 m_says) ∧ ((f_11 : Nat → Int32) = stT n1 n2 n3 m_isStory) := by
  refine ⟨?_, ?_⟩
  all_goals first | exact stF_y (by assumption) (by assumption) (by assumption) (by assumption) (by assumption) (by assumption) (by assumption) (by first | assumption | (rw [tn3e]; assumption)) | exact stF_z (by assumption) (by assumption) (by assumption) (by assumption) (by assumption) (by assumption) (by assumption) (by first | assumption | (rw [tn3e]; assumption)) | exact stT_y (by assumption) (by assumption) (by assumption) (by assumption) (by assumption) (by assumption) | exact stT_y (by assumption) (by assumption) (by assumption) (by assumption) (by assumption) (upd_b1 (by assumption)) | exact stF_n (fun w => absurd w.1 (by assumption)) | exact stF_n (fun w => absurd w.2.1 (by assumption)) | exact stF_n (fun w => absurd w.2.2 (by assumption)) | exact stT_n (fun w => absurd w.1 (by assumption)) | exact stT_n (fun w => absurd w.2.1 (by assumption)) | exact stT_n (fun w => absurd w.2.2 (by assumption))
theorem lf_X12_story_g_14 (h : Nat) (q : Nat → Nat) (im : Nat → Int32) (m_says : Nat → Int32) (m_isStory : Nat → Int32) (n1 : Int32) (n2 : Int32) (n3 : Int32) (c_2 : (0 : Int32) ≤ n1 ∧ n1 ≤ 5) (tn1 : Nat) (tn1a : 0 ≤ tn1) (tn1b : tn1 ≤ 5) (tn1e : n1 = nI tn1) (c_5 : (0 : Int32) ≤ n2 ∧ n2 ≤ 5) (tn2 : Nat) (tn2a : 0 ≤ tn2) (tn2b : tn2 ≤ 5) (tn2e : n2 = nI tn2) (c_8 : ¬ ((0 : Int32) ≤ n3 ∧ n3 ≤ 1000)) : ((m_says : Nat → Int32) = stF n1 n2 n3 m_says) ∧ ((m_isStory : Nat → Int32) = stT n1 n2 n3 m_isStory) := by
  refine ⟨?_, ?_⟩
  all_goals first | exact stF_y (by assumption) (by assumption) (by assumption) (by assumption) (by assumption) (by assumption) (by assumption) (by first | assumption | (rw [tn3e]; assumption)) | exact stF_z (by assumption) (by assumption) (by assumption) (by assumption) (by assumption) (by assumption) (by assumption) (by first | assumption | (rw [tn3e]; assumption)) | exact stT_y (by assumption) (by assumption) (by assumption) (by assumption) (by assumption) (by assumption) | exact stT_y (by assumption) (by assumption) (by assumption) (by assumption) (by assumption) (upd_b1 (by assumption)) | exact stF_n (fun w => absurd w.1 (by assumption)) | exact stF_n (fun w => absurd w.2.1 (by assumption)) | exact stF_n (fun w => absurd w.2.2 (by assumption)) | exact stT_n (fun w => absurd w.1 (by assumption)) | exact stT_n (fun w => absurd w.2.1 (by assumption)) | exact stT_n (fun w => absurd w.2.2 (by assumption))
set_option maxHeartbeats 4000000 in
set_option maxRecDepth 100000 in
theorem c_X12_story_g (l : Launch) (D : va_G) (cI cB cZ cJ : ClassId) (tx : List (ClassId × FieldType)) (h : Nat) (q : Nat → Nat) (im : Nat → Int32) (m_says : Nat → Int32) (m_isStory : Nat → Int32) (n1 : Int32) (n2 : Int32) (n3 : Int32) : WrI l D cI cB cZ cJ tx yX12_story cX12_story 4 (some .boolean) 1 0 0 [.ref h, .int n1, .int n2, .int n3] [(h, .inr (12, mG q im)), (q 75, .inl (cI, 36, .inl m_says)), (q 76, .inl (cZ, 6, .inl m_isStory))] (fun (r : Int32) (v : (Nat → Int32) × (Nat → Int32)) => (v.1 = stF n1 n2 n3 m_says) ∧ (v.2 = stT n1 n2 n3 m_isStory)) (fun v => [(h, .inr (12, mG q im)), (q 75, .inl (cI, 36, .inl v.1)), (q 76, .inl (cZ, 6, .inl v.2))]) := by
  refine wri_of2 (by decide) (Nat.le_of_ble_eq_true rfl) ?_
  intro p e s m below meth c A ls H locs hC hK hP hD hA hS hl
  obtain ⟨hx, hb, hr, hml, hown, hts, hlocks, hin⟩ := hC
  have hown : s.vm.findClass RX12 = some m.cls := hown
  have hl : lv_has ls 4 [(0, .ref h), (1, .int n1), (2, .int n2), (3, .int n3)] := hl
  refine W_gQ (fun Q hQ => ?_)
  refine lv_iload_n hx hb dX12_story_0 rfl (lv_at hl 1 rfl) ?_
  refine lv_i2l (v := n1.toInt64) hx hb dX12_story_1 rfl ?_
  refine lv_lconst (v := 0) hx hb dX12_story_2 (by decide) ?_
  refine lv_ldc2 (v := 5) hx hb hown (hts _ k_2010) dX12_story_3 ?_
  refine eRi (va_runS (As := [.long n1.toInt64, .long 0, .long 5]) (rest := []) ⟨hx, hb, hml, hown, hts⟩ (c_X12_isIn l D cI cB cZ cJ tx n1.toInt64 0 5 H.size) (zS hts k_1602 v_X12_isIn ⟨Nat.le_of_ble_eq_true rfl, Nat.le_of_ble_eq_true rfl⟩) (px0 hK) rfl rfl hl.1 rfl (lv_room (Nat.le_of_ble_eq_true rfl)) dX12_story_6 ⟨Nat.le_of_ble_eq_true rfl, Nat.le_of_ble_eq_true rfl⟩) hP hS hA (fun r_1 H locs wr_1 hP hS => ?_)
  have wr_1 : r_1 = bi ((0 : Int32) ≤ n1 ∧ n1 ≤ 5) := isIn32 (lo := 0) (hi := 5) (by decide) (by decide) wr_1
  subst wr_1
  refine lv_bi_eq (tgt := 36) hx hb dX12_story_9 (by decide) (fun c_2 => ?_) (fun c_2 => ?_)
  · refine lv_iconst (v := 0) hx hb dX12_story_36 (by decide) ?_
    rw [hQ]
    exact W.zret (v := 0) hx hb hr (by decide) (fun tt9 ht hW => ⟨⟨(0 : Int32), ((m_says : Nat → Int32), (m_isStory : Nat → Int32)), rfl, (lf_X12_story_g_3 h q im m_says m_isStory n1 n2 n3 c_2), ⟨by rw [ht]; exact hP, hD⟩⟩, hS.F ht⟩) hS.2.2 dX12_story_37 hlocks
  · obtain ⟨tn1, tn1a, tn1b, tn1e⟩ := of_rng 0 5 rfl rfl c_2
    subst tn1e
    refine lv_iload_n hx hb dX12_story_12 rfl (lv_at hl 2 rfl) ?_
    refine lv_i2l (v := n2.toInt64) hx hb dX12_story_13 rfl ?_
    refine lv_lconst (v := 0) hx hb dX12_story_14 (by decide) ?_
    refine lv_ldc2 (v := 5) hx hb hown (hts _ k_2010) dX12_story_15 ?_
    refine eRi (va_runS (As := [.long n2.toInt64, .long 0, .long 5]) (rest := []) ⟨hx, hb, hml, hown, hts⟩ (c_X12_isIn l D cI cB cZ cJ tx n2.toInt64 0 5 H.size) (zS hts k_1602 v_X12_isIn ⟨Nat.le_of_ble_eq_true rfl, Nat.le_of_ble_eq_true rfl⟩) (px0 hK) rfl rfl hl.1 rfl (lv_room (Nat.le_of_ble_eq_true rfl)) dX12_story_18 ⟨Nat.le_of_ble_eq_true rfl, Nat.le_of_ble_eq_true rfl⟩) hP hS hA (fun r_4 H locs wr_4 hP hS => ?_)
    have wr_4 : r_4 = bi ((0 : Int32) ≤ n2 ∧ n2 ≤ 5) := isIn32 (lo := 0) (hi := 5) (by decide) (by decide) wr_4
    subst wr_4
    refine lv_bi_eq (tgt := 36) hx hb dX12_story_21 (by decide) (fun c_5 => ?_) (fun c_5 => ?_)
    · refine lv_iconst (v := 0) hx hb dX12_story_36 (by decide) ?_
      rw [hQ]
      exact W.zret (v := 0) hx hb hr (by decide) (fun tt9 ht hW => ⟨⟨(0 : Int32), ((m_says : Nat → Int32), (m_isStory : Nat → Int32)), rfl, (lf_X12_story_g_6 h q im m_says m_isStory (nI tn1) n2 n3 c_2 tn1 tn1a tn1b rfl c_5), ⟨by rw [ht]; exact hP, hD⟩⟩, hS.F ht⟩) hS.2.2 dX12_story_37 hlocks
    · obtain ⟨tn2, tn2a, tn2b, tn2e⟩ := of_rng 0 5 rfl rfl c_5
      subst tn2e
      refine lv_iload_n hx hb dX12_story_24 rfl (lv_at hl 3 rfl) ?_
      refine lv_i2l (v := n3.toInt64) hx hb dX12_story_25 rfl ?_
      refine lv_lconst (v := 0) hx hb dX12_story_26 (by decide) ?_
      refine lv_ldc2 (v := 1000) hx hb hown (hts _ k_1601) dX12_story_27 ?_
      refine eRi (va_runS (As := [.long n3.toInt64, .long 0, .long 1000]) (rest := []) ⟨hx, hb, hml, hown, hts⟩ (c_X12_isIn l D cI cB cZ cJ tx n3.toInt64 0 1000 H.size) (zS hts k_1602 v_X12_isIn ⟨Nat.le_of_ble_eq_true rfl, Nat.le_of_ble_eq_true rfl⟩) (px0 hK) rfl rfl hl.1 rfl (lv_room (Nat.le_of_ble_eq_true rfl)) dX12_story_30 ⟨Nat.le_of_ble_eq_true rfl, Nat.le_of_ble_eq_true rfl⟩) hP hS hA (fun r_7 H locs wr_7 hP hS => ?_)
      have wr_7 : r_7 = bi ((0 : Int32) ≤ n3 ∧ n3 ≤ 1000) := isIn32 (lo := 0) (hi := 1000) (by decide) (by decide) wr_7
      subst wr_7
      refine lv_bi_ne (tgt := 38) hx hb dX12_story_33 (by decide) (fun c_8 => ?_) (fun c_8 => ?_)
      · obtain ⟨tn3, tn3a, tn3b, tn3e⟩ := of_rng 0 1000 rfl rfl c_8
        subst tn3e
        refine lv_aload_n hx hb dX12_story_38 rfl (lv_at hl 0 rfl) ?_
        refine va_get (D := D) (ci := 12) (v := .ref (q 75)) (C := RX12) (T := TX12) (N := 81) hx hb hts inT_X12 hown hK.1 hP 0 rfl rfl 75 (by decide) (hts _ k_1428) (fun _ h9 => h9) rfl dX12_story_39 ?_
        refine lv_bipush (v := 6) hx hb dX12_story_42 (by decide) ?_
        refine lv_iload_n hx hb dX12_story_44 rfl (lv_at hl 1 rfl) ?_
        refine lv_imul hx hb dX12_story_45 ?_
        refine lv_topv (y := nI (6 * tn1)) (pk_mul 6 tn1) ?_
        refine lv_iload_n hx hb dX12_story_46 rfl (lv_at hl 2 rfl) ?_
        refine lv_iadd hx hb dX12_story_47 ?_
        refine lv_topv (y := nI ((6 * tn1) + tn2)) (nI_add (6 * tn1) tn2) ?_
        refine lv_iload_n hx hb dX12_story_48 rfl (lv_at hl 3 rfl) ?_
        refine su_i (j := ((6 * tn1) + tn2)) hx hb hK hP hD hS 1 rfl (lf_X12_story_g_10 h q im m_says m_isStory (nI tn1) (nI tn2) (nI tn3) c_2 tn1 tn1a tn1b rfl c_5 tn2 tn2a tn2b rfl c_8 tn3 tn3a tn3b rfl) (by first | decide | assumption) dX12_story_49 (fun f_9 H locs ef_9 hP hD hS => ?_)
        have hP : va_P D vwCl [(h, .inr (12, mG q im)), (q 75, .inl (cI, 36, .inl f_9)), (q 76, .inl (cZ, 6, .inl m_isStory))] H := hP
        have hD : va_D A [(h, .inr (12, mG q im)), (q 75, .inl (cI, 36, .inl f_9)), (q 76, .inl (cZ, 6, .inl m_isStory))] := hD
        refine lv_aload_n hx hb dX12_story_50 rfl (lv_at hl 0 rfl) ?_
        refine va_get (D := D) (ci := 12) (v := .ref (q 76)) (C := RX12) (T := TX12) (N := 81) hx hb hts inT_X12 hown hK.1 hP 0 rfl rfl 76 (by decide) (hts _ k_1429) (fun _ h9 => h9) rfl dX12_story_51 ?_
        refine lv_iload_n hx hb dX12_story_54 rfl (lv_at hl 1 rfl) ?_
        refine lv_iconst (v := 1) hx hb dX12_story_55 (by decide) ?_
        refine su_z (j := tn1) hx hb hK hP hD hS 2 rfl (lf_X12_story_g_12 h q im m_says m_isStory (nI tn1) (nI tn2) (nI tn3) c_2 tn1 tn1a tn1b rfl c_5 tn2 tn2a tn2b rfl c_8 tn3 tn3a tn3b rfl f_9 ef_9) (by first | decide | assumption) dX12_story_56 (fun f_11 H locs ef_11 hP hD hS => ?_)
        have hP : va_P D vwCl [(h, .inr (12, mG q im)), (q 75, .inl (cI, 36, .inl f_9)), (q 76, .inl (cZ, 6, .inl f_11))] H := hP
        have hD : va_D A [(h, .inr (12, mG q im)), (q 75, .inl (cI, 36, .inl f_9)), (q 76, .inl (cZ, 6, .inl f_11))] := hD
        refine lv_iconst (v := 1) hx hb dX12_story_57 (by decide) ?_
        rw [hQ]
        exact W.zret (v := 1) hx hb hr (by decide) (fun tt9 ht hW => ⟨⟨(1 : Int32), ((f_9 : Nat → Int32), (f_11 : Nat → Int32)), rfl, (lf_X12_story_g_13 h q im m_says m_isStory (nI tn1) (nI tn2) (nI tn3) c_2 tn1 tn1a tn1b rfl c_5 tn2 tn2a tn2b rfl c_8 tn3 tn3a tn3b rfl f_9 ef_9 f_11 ef_11), ⟨by rw [ht]; exact hP, hD⟩⟩, hS.F ht⟩) hS.2.2 dX12_story_58 hlocks
      · refine lv_iconst (v := 0) hx hb dX12_story_36 (by decide) ?_
        rw [hQ]
        exact W.zret (v := 0) hx hb hr (by decide) (fun tt9 ht hW => ⟨⟨(0 : Int32), ((m_says : Nat → Int32), (m_isStory : Nat → Int32)), rfl, (lf_X12_story_g_14 h q im m_says m_isStory (nI tn1) (nI tn2) n3 c_2 tn1 tn1a tn1b rfl c_5 tn2 tn2a tn2b rfl c_8), ⟨by rw [ht]; exact hP, hD⟩⟩, hS.F ht⟩) hS.2.2 dX12_story_37 hlocks

theorem lf_X12_sign_g_3 (h : Nat) (q : Nat → Nat) (im : Nat → Int32) (m_signSeen : Nat → Int32) (n1 : Int32) (n2 : Int32) (c_2 : ¬ ((0 : Int32) ≤ n1 ∧ n1 ≤ 5)) : ((m_signSeen : Nat → Int32) = sgF n1 n2 m_signSeen) := by
  first | exact sgF_y (by assumption) (by assumption) (by assumption) (by assumption) (by assumption) | exact sgF_n (fun w => absurd w.1 (by assumption)) | exact sgF_n (fun w => absurd w.2 (by assumption))
theorem lf_X12_sign_g_7 (h : Nat) (q : Nat → Nat) (im : Nat → Int32) (m_signSeen : Nat → Int32) (n1 : Int32) (n2 : Int32) (c_2 : (0 : Int32) ≤ n1 ∧ n1 ≤ 5) (tn1 : Nat) (tn1a : 0 ≤ tn1) (tn1b : tn1 ≤ 5) (tn1e : n1 = nI tn1) (c_5 : ((-1) : Int32) ≤ n2 ∧ n2 ≤ 1) : tn1 < 6 := by
  omega
theorem lf_X12_sign_g_8 (h : Nat) (q : Nat → Nat) (im : Nat → Int32) (m_signSeen : Nat → Int32) (n1 : Int32) (n2 : Int32) (c_2 : (0 : Int32) ≤ n1 ∧ n1 ≤ 5) (tn1 : Nat) (tn1a : 0 ≤ tn1) (tn1b : tn1 ≤ 5) (tn1e : n1 = nI tn1) (c_5 : ((-1) : Int32) ≤ n2 ∧ n2 ≤ 1) (f_6 : Nat → Int32) (ef_6 : f_6 = upd m_signSeen tn1 n2) : ((f_6 : Nat → Int32) = sgF n1 n2 m_signSeen) := by
  first | exact sgF_y (by assumption) (by assumption) (by assumption) (by assumption) (by assumption) | exact sgF_n (fun w => absurd w.1 (by assumption)) | exact sgF_n (fun w => absurd w.2 (by assumption))
theorem lf_X12_sign_g_9 (h : Nat) (q : Nat → Nat) (im : Nat → Int32) (m_signSeen : Nat → Int32) (n1 : Int32) (n2 : Int32) (c_2 : (0 : Int32) ≤ n1 ∧ n1 ≤ 5) (tn1 : Nat) (tn1a : 0 ≤ tn1) (tn1b : tn1 ≤ 5) (tn1e : n1 = nI tn1) (c_5 : ¬ (((-1) : Int32) ≤ n2 ∧ n2 ≤ 1)) : ((m_signSeen : Nat → Int32) = sgF n1 n2 m_signSeen) := by
  first | exact sgF_y (by assumption) (by assumption) (by assumption) (by assumption) (by assumption) | exact sgF_n (fun w => absurd w.1 (by assumption)) | exact sgF_n (fun w => absurd w.2 (by assumption))
set_option maxHeartbeats 4000000 in
set_option maxRecDepth 100000 in
theorem c_X12_sign_g (l : Launch) (D : va_G) (cI cB cZ cJ : ClassId) (tx : List (ClassId × FieldType)) (h : Nat) (q : Nat → Nat) (im : Nat → Int32) (m_signSeen : Nat → Int32) (n1 : Int32) (n2 : Int32) : WrI l D cI cB cZ cJ tx yX12_sign cX12_sign 3 (some .boolean) 1 0 0 [.ref h, .int n1, .int n2] [(h, .inr (12, mG q im)), (q 77, .inl (cI, 6, .inl m_signSeen))] (fun (r : Int32) (v : (Nat → Int32)) => (v = sgF n1 n2 m_signSeen)) (fun v => [(h, .inr (12, mG q im)), (q 77, .inl (cI, 6, .inl v))]) := by
  refine wri_of2 (by decide) (Nat.le_of_ble_eq_true rfl) ?_
  intro p e s m below meth c A ls H locs hC hK hP hD hA hS hl
  obtain ⟨hx, hb, hr, hml, hown, hts, hlocks, hin⟩ := hC
  have hown : s.vm.findClass RX12 = some m.cls := hown
  have hl : lv_has ls 3 [(0, .ref h), (1, .int n1), (2, .int n2)] := hl
  refine W_gQ (fun Q hQ => ?_)
  refine lv_iload_n hx hb dX12_sign_0 rfl (lv_at hl 1 rfl) ?_
  refine lv_i2l (v := n1.toInt64) hx hb dX12_sign_1 rfl ?_
  refine lv_lconst (v := 0) hx hb dX12_sign_2 (by decide) ?_
  refine lv_ldc2 (v := 5) hx hb hown (hts _ k_2010) dX12_sign_3 ?_
  refine eRi (va_runS (As := [.long n1.toInt64, .long 0, .long 5]) (rest := []) ⟨hx, hb, hml, hown, hts⟩ (c_X12_isIn l D cI cB cZ cJ tx n1.toInt64 0 5 H.size) (zS hts k_1602 v_X12_isIn ⟨Nat.le_of_ble_eq_true rfl, Nat.le_of_ble_eq_true rfl⟩) (px0 hK) rfl rfl hl.1 rfl (lv_room (Nat.le_of_ble_eq_true rfl)) dX12_sign_6 ⟨Nat.le_of_ble_eq_true rfl, Nat.le_of_ble_eq_true rfl⟩) hP hS hA (fun r_1 H locs wr_1 hP hS => ?_)
  have wr_1 : r_1 = bi ((0 : Int32) ≤ n1 ∧ n1 ≤ 5) := isIn32 (lo := 0) (hi := 5) (by decide) (by decide) wr_1
  subst wr_1
  refine lv_bi_eq (tgt := 24) hx hb dX12_sign_9 (by decide) (fun c_2 => ?_) (fun c_2 => ?_)
  · refine lv_iconst (v := 0) hx hb dX12_sign_24 (by decide) ?_
    rw [hQ]
    exact W.zret (v := 0) hx hb hr (by decide) (fun tt9 ht hW => ⟨⟨(0 : Int32), ((m_signSeen : Nat → Int32)), rfl, (lf_X12_sign_g_3 h q im m_signSeen n1 n2 c_2), ⟨by rw [ht]; exact hP, hD⟩⟩, hS.F ht⟩) hS.2.2 dX12_sign_25 hlocks
  · obtain ⟨tn1, tn1a, tn1b, tn1e⟩ := of_rng 0 5 rfl rfl c_2
    subst tn1e
    refine lv_iload_n hx hb dX12_sign_12 rfl (lv_at hl 2 rfl) ?_
    refine lv_i2l (v := n2.toInt64) hx hb dX12_sign_13 rfl ?_
    refine lv_ldc2 (v := (-1)) hx hb hown (hts _ k_1950) dX12_sign_14 ?_
    refine lv_lconst (v := 1) hx hb dX12_sign_17 (by decide) ?_
    refine eRi (va_runS (As := [.long n2.toInt64, .long (-1), .long 1]) (rest := []) ⟨hx, hb, hml, hown, hts⟩ (c_X12_isIn l D cI cB cZ cJ tx n2.toInt64 (-1) 1 H.size) (zS hts k_1602 v_X12_isIn ⟨Nat.le_of_ble_eq_true rfl, Nat.le_of_ble_eq_true rfl⟩) (px0 hK) rfl rfl hl.1 rfl (lv_room (Nat.le_of_ble_eq_true rfl)) dX12_sign_18 ⟨Nat.le_of_ble_eq_true rfl, Nat.le_of_ble_eq_true rfl⟩) hP hS hA (fun r_4 H locs wr_4 hP hS => ?_)
    have wr_4 : r_4 = bi (((-1) : Int32) ≤ n2 ∧ n2 ≤ 1) := isIn32 (lo := (-1)) (hi := 1) (by decide) (by decide) wr_4
    subst wr_4
    refine lv_bi_ne (tgt := 26) hx hb dX12_sign_21 (by decide) (fun c_5 => ?_) (fun c_5 => ?_)
    · refine lv_aload_n hx hb dX12_sign_26 rfl (lv_at hl 0 rfl) ?_
      refine va_get (D := D) (ci := 12) (v := .ref (q 77)) (C := RX12) (T := TX12) (N := 81) hx hb hts inT_X12 hown hK.1 hP 0 rfl rfl 77 (by decide) (hts _ k_1430) (fun _ h9 => h9) rfl dX12_sign_27 ?_
      refine lv_iload_n hx hb dX12_sign_30 rfl (lv_at hl 1 rfl) ?_
      refine lv_iload_n hx hb dX12_sign_31 rfl (lv_at hl 2 rfl) ?_
      refine su_i (j := tn1) hx hb hK hP hD hS 1 rfl (lf_X12_sign_g_7 h q im m_signSeen (nI tn1) n2 c_2 tn1 tn1a tn1b rfl c_5) (by first | decide | assumption) dX12_sign_32 (fun f_6 H locs ef_6 hP hD hS => ?_)
      have hP : va_P D vwCl [(h, .inr (12, mG q im)), (q 77, .inl (cI, 6, .inl f_6))] H := hP
      have hD : va_D A [(h, .inr (12, mG q im)), (q 77, .inl (cI, 6, .inl f_6))] := hD
      refine lv_iconst (v := 1) hx hb dX12_sign_33 (by decide) ?_
      rw [hQ]
      exact W.zret (v := 1) hx hb hr (by decide) (fun tt9 ht hW => ⟨⟨(1 : Int32), ((f_6 : Nat → Int32)), rfl, (lf_X12_sign_g_8 h q im m_signSeen (nI tn1) n2 c_2 tn1 tn1a tn1b rfl c_5 f_6 ef_6), ⟨by rw [ht]; exact hP, hD⟩⟩, hS.F ht⟩) hS.2.2 dX12_sign_34 hlocks
    · refine lv_iconst (v := 0) hx hb dX12_sign_24 (by decide) ?_
      rw [hQ]
      exact W.zret (v := 0) hx hb hr (by decide) (fun tt9 ht hW => ⟨⟨(0 : Int32), ((m_signSeen : Nat → Int32)), rfl, (lf_X12_sign_g_9 h q im m_signSeen (nI tn1) n2 c_2 tn1 tn1a tn1b rfl c_5), ⟨by rw [ht]; exact hP, hD⟩⟩, hS.F ht⟩) hS.2.2 dX12_sign_25 hlocks

abbrev CN (f g t : Nat → Int32) (k : Nat) : Prop := ¬ t k = 0 ∧ ¬ prodF f g k 6 = 0
def abF (d : Int32) : Int32 := if 0 ≤ d then d else 0 - d
def ptI (f g t : Nat → Int32) (i k : Nat) (s : Int32) : Nat → Int32
  | 0 => s
  | j + 1 => if CN f g t k ∧ CN f g t j then ptI f g t i k s j + abF (f (k * 6 + i) - f (j * 6 + i)) else ptI f g t i k s j
def ptF (f g t : Nat → Int32) (i : Nat) : Nat → Int32
  | 0 => 0
  | k + 1 => ptI f g t i k (ptF f g t i k) k
def pmF (f g t : Nat → Int32) : Nat → Int32
  | 0 => -1
  | i + 1 => if g i = -1 ∧ (pmF f g t i = -1 ∨ ptF f g t (pmF f g t i).toNatClampNeg 6 < ptF f g t i 6) then nI i else pmF f g t i
def tdF (t : Nat → Int32) : Nat → Int32
  | 0 => 0
  | k + 1 => if t k = 0 then tdF t k + 0 else tdF t k + 1
def nxF (f g t : Nat → Int32) (n : Int32) : Int32 := if ((0 : Int32) ≤ n ∧ n ≤ 1) ∧ ¬ tdF t 6 = 0 then (if pmF f g t 6 = -1 then -1 else if n = 0 then pmF f g t 6 else ptF f g t (pmF f g t 6).toNatClampNeg 6) else -1
theorem i32_zs (n : Int32) : 0 - n = -n := by
  apply Int32.toBitVec_inj.mp
  simp
theorem abF_p {n : Int32} (h : 0 ≤ n) : n = abF n := by
  unfold abF
  rw [if_pos h]
theorem abF_n {n x : Int32} (h : ¬ 0 ≤ n) (e : x = -n) : x = abF n := by
  unfold abF
  rw [if_neg h, i32_zs]
  exact e
theorem tdF_n {t : Nat → Int32} {k : Nat} {w x : Int32} (h : t k = 0) (hw : w = tdF t k) (ex : x = w + 0) : x = tdF t (k + 1) := by
  show x = if t k = 0 then tdF t k + 0 else tdF t k + 1
  rw [if_pos h, ex, hw]
theorem tdF_y {t : Nat → Int32} {k : Nat} {w x : Int32} (h : ¬ t k = 0) (hw : w = tdF t k) (ex : x = w + 1) : x = tdF t (k + 1) := by
  show x = if t k = 0 then tdF t k + 0 else tdF t k + 1
  rw [if_neg h, ex, hw]
theorem i32_a0 (n : Int32) : n + 0 = n := by
  apply Int32.toBitVec_inj.mp
  simp
theorem ptI_y {f g t : Nat → Int32} {i k j : Nat} {s w d a x : Int32} (h1 : CN f g t k) (h2 : CN f g t j) (hw : w = ptI f g t i k s j) (ed : d = f (k * 6 + i) - f (j * 6 + i)) (ea : a = abF d) (ex : x = w + a) : x = ptI f g t i k s (j + 1) := by
  show x = if CN f g t k ∧ CN f g t j then ptI f g t i k s j + abF (f (k * 6 + i) - f (j * 6 + i)) else ptI f g t i k s j
  rw [if_pos ⟨h1, h2⟩, ex, hw, ea, ed]
theorem ptI_z {f g t : Nat → Int32} {i k j : Nat} {s w d x : Int32} (h1 : CN f g t k) (h2 : CN f g t j) (hw : w = ptI f g t i k s j) (ed : d = f (6 * k + i) - f (6 * j + i)) (ex : x = w + abF d) : x = ptI f g t i k s (j + 1) := by
  rw [Nat.mul_comm 6 k, Nat.mul_comm 6 j] at ed
  exact ptI_y h1 h2 hw ed rfl ex
theorem ptI_n1 {f g t : Nat → Int32} {i k j : Nat} {s w : Int32} (h : ¬ CN f g t k) (hw : w = ptI f g t i k s j) : w = ptI f g t i k s (j + 1) := by
  show w = if CN f g t k ∧ CN f g t j then ptI f g t i k s j + abF (f (k * 6 + i) - f (j * 6 + i)) else ptI f g t i k s j
  rw [if_neg (fun q => h q.1)]
  exact hw
theorem ptI_n2 {f g t : Nat → Int32} {i k j : Nat} {s w : Int32} (h : ¬ CN f g t j) (hw : w = ptI f g t i k s j) : w = ptI f g t i k s (j + 1) := by
  show w = if CN f g t k ∧ CN f g t j then ptI f g t i k s j + abF (f (k * 6 + i) - f (j * 6 + i)) else ptI f g t i k s j
  rw [if_neg (fun q => h q.2)]
  exact hw
theorem ptI_m1 {f g t : Nat → Int32} {i k j : Nat} {s w x : Int32} (h : ¬ CN f g t k) (hw : w = ptI f g t i k s j) (e : x = w + 0) : x = ptI f g t i k s (j + 1) := by
  rw [i32_a0] at e
  exact ptI_n1 h (e.trans hw)
theorem ptI_m2 {f g t : Nat → Int32} {i k j : Nat} {s w x : Int32} (h : ¬ CN f g t j) (hw : w = ptI f g t i k s j) (e : x = w + 0) : x = ptI f g t i k s (j + 1) := by
  rw [i32_a0] at e
  exact ptI_n2 h (e.trans hw)
theorem ptF_s {f g t : Nat → Int32} {i k j : Nat} {s w : Int32} (h1 : j ≤ k) (h2 : k ≤ j) (hs : s = ptF f g t i k) (hw : w = ptI f g t i k s j) : w = ptF f g t i (k + 1) := by
  have e : j = k := by omega
  subst e
  show w = ptI f g t i j (ptF f g t i j) j
  rw [hw, hs]
theorem pmF_n0 {f g t : Nat → Int32} {j : Nat} {b : Int32} (h : ¬ g j = -1) (hw : b = pmF f g t j) : b = pmF f g t (j + 1) := by
  show b = if g j = -1 ∧ (pmF f g t j = -1 ∨ ptF f g t (pmF f g t j).toNatClampNeg 6 < ptF f g t j 6) then nI j else pmF f g t j
  rw [if_neg (fun q => h q.1)]
  exact hw
theorem pmF_y0 {f g t : Nat → Int32} {j : Nat} {b : Int32} (h : g j = -1) (hb : b = -1) (hw : b = pmF f g t j) : nI j = pmF f g t (j + 1) := by
  show nI j = if g j = -1 ∧ (pmF f g t j = -1 ∨ ptF f g t (pmF f g t j).toNatClampNeg 6 < ptF f g t j 6) then nI j else pmF f g t j
  rw [if_pos ⟨h, Or.inl (hw.symm.trans hb)⟩]
theorem nI_ne1 {k : Nat} (hk : k < 6) : ¬ nI k = -1 := by
  rcases (show k = 0 ∨ k = 1 ∨ k = 2 ∨ k = 3 ∨ k = 4 ∨ k = 5 by omega) with rfl | rfl | rfl | rfl | rfl | rfl <;> decide
theorem pmF_y1 {f g t : Nat → Int32} {j k : Nat} (h : g j = -1) (hk : k < 6) (hw : nI k = pmF f g t j) (hl : ¬ ptF f g t j 6 ≤ ptF f g t k 6) : nI j = pmF f g t (j + 1) := by
  show nI j = if g j = -1 ∧ (pmF f g t j = -1 ∨ ptF f g t (pmF f g t j).toNatClampNeg 6 < ptF f g t j 6) then nI j else pmF f g t j
  rw [← hw, nI_clamp (by omega), if_pos ⟨h, Or.inr (Int32.not_le.mp hl)⟩]
theorem pmF_n1 {f g t : Nat → Int32} {j k : Nat} (hk : k < 6) (hw : nI k = pmF f g t j) (hl : ptF f g t j 6 ≤ ptF f g t k 6) : nI k = pmF f g t (j + 1) := by
  show nI k = if g j = -1 ∧ (pmF f g t j = -1 ∨ ptF f g t (pmF f g t j).toNatClampNeg 6 < ptF f g t j 6) then nI j else pmF f g t j
  rw [← hw, nI_clamp (by omega), if_neg (fun q => q.2.elim (fun e => nI_ne1 hk e) (fun e => absurd hl (Int32.not_le.mpr e)))]
theorem best_m {b : Int32} (h : b = -1 ∨ ∃ k : Nat, k < 6 ∧ b = nI k) (c : b < 0) : b = -1 := by
  rcases h with e | ⟨k, hk, e⟩
  · exact e
  · subst e
    exact absurd c (nI_pos (by omega))
abbrev MS (f g t : Nat → Int32) (b m : Int32) : Prop := (b = -1 ∧ m = 0) ∨ ∃ k : Nat, k < 6 ∧ b = nI k ∧ m = ptF f g t k 6
theorem MS_n {f g t : Nat → Int32} {j i : Nat} {s : Int32} (h1 : i ≤ 6) (h2 : 6 ≤ i) (hj : j < 6) (hs : s = ptF f g t j i) : MS f g t (nI j) s := by
  have e : i = 6 := by omega
  subst e
  exact Or.inr ⟨j, hj, rfl, hs⟩
theorem rn_b {f g t : Nat → Int32} {j i : Nat} {b m s : Int32} (hm : MS f g t b m) (hw : b = pmF f g t j) (h : g j = -1) (hb : ¬ b = -1) (h1 : i ≤ 6) (h2 : 6 ≤ i) (hs : s = ptF f g t j i) (hl : m < s) : nI j = pmF f g t (j + 1) := by
  have e : i = 6 := by omega
  subst e
  rcases hm with q | ⟨k, hk, e1, e2⟩
  · exact absurd q.1 hb
  · subst e1
    exact pmF_y1 h hk hw (by rw [← hs, ← e2]; exact Int32.not_le.mpr hl)
theorem rn_c {f g t : Nat → Int32} {j i : Nat} {b m s : Int32} (hm : MS f g t b m) (hw : b = pmF f g t j) (hb : ¬ b = -1) (h1 : i ≤ 6) (h2 : 6 ≤ i) (hs : s = ptF f g t j i) (hl : ¬ m < s) : b = pmF f g t (j + 1) := by
  have e : i = 6 := by omega
  subst e
  rcases hm with q | ⟨k, hk, e1, e2⟩
  · exact absurd q.1 hb
  · subst e1
    exact pmF_n1 hk hw (by rw [← hs, ← e2]; exact Int32.not_lt.mp hl)
theorem nxF_1 {f g t : Nat → Int32} {n : Int32} (h : ¬ ((0 : Int32) ≤ n ∧ n ≤ 1)) : -1 = nxF f g t n := by
  unfold nxF
  rw [if_neg (fun q => h q.1)]
theorem nxF_2 {f g t : Nat → Int32} {n : Int32} (h : tdF t 6 = 0) : -1 = nxF f g t n := by
  unfold nxF
  rw [if_neg (fun q => q.2 h)]
theorem nxF_3 {f g t : Nat → Int32} {n : Int32} (h1 : (0 : Int32) ≤ n ∧ n ≤ 1) (h2 : ¬ tdF t 6 = 0) (hp : pmF f g t 6 = -1) : -1 = nxF f g t n := by
  unfold nxF
  rw [if_pos ⟨h1, h2⟩, if_pos hp]
theorem nxF_4 {f g t : Nat → Int32} {n : Int32} {k u : Nat} (h1 : (0 : Int32) ≤ n ∧ n ≤ 1) (h2 : ¬ tdF t 6 = 0) (hk : k < 6) (hp : pmF f g t 6 = nI k) (e : n = nI u) (hu : u = 0) : nI k = nxF f g t n := by
  have e0 : n = 0 := by rw [e, hu]; rfl
  unfold nxF
  rw [if_pos ⟨h1, h2⟩, hp, if_neg (nI_ne1 hk), if_pos e0]
theorem nxF_5 {f g t : Nat → Int32} {n : Int32} {k u : Nat} (h1 : (0 : Int32) ≤ n ∧ n ≤ 1) (h2 : ¬ tdF t 6 = 0) (hk : k < 6) (hp : pmF f g t 6 = nI k) (e : n = nI u) (hl : u ≤ 1) (hu : u ≠ 0) : ptF f g t k 6 = nxF f g t n := by
  have e0 : ¬ n = 0 := by
    rw [e, show u = 1 by omega]
    decide
  unfold nxF
  rw [if_pos ⟨h1, h2⟩, hp, if_neg (nI_ne1 hk), if_neg e0, nI_clamp (by omega)]
theorem nx_1 {f g t : Nat → Int32} {n b : Int32} {j : Nat} (h1 : (0 : Int32) ≤ n ∧ n ≤ 1) (h2 : ¬ tdF t 6 = 0) (hj : j ≤ 6) (hj2 : 6 ≤ j) (hw : b = pmF f g t j) (hb : b = -1) : b = nxF f g t n := by
  have e : j = 6 := by omega
  subst e
  exact hb.trans (nxF_3 h1 h2 (hw.symm.trans hb))
theorem nx_2 {f g t : Nat → Int32} {n b m : Int32} {j u : Nat} (h1 : (0 : Int32) ≤ n ∧ n ≤ 1) (h2 : ¬ tdF t 6 = 0) (hj : j ≤ 6) (hj2 : 6 ≤ j) (hw : b = pmF f g t j) (hb : ¬ b = -1) (hm : MS f g t b m) (e : n = nI u) (hu : u = 0) : b = nxF f g t n := by
  have e6 : j = 6 := by omega
  subst e6
  rcases hm with q | ⟨k, hk, e1, e2⟩
  · exact absurd q.1 hb
  · subst e1
    exact nxF_4 h1 h2 hk hw.symm e hu
theorem nx_3 {f g t : Nat → Int32} {n b m : Int32} {j u : Nat} (h1 : (0 : Int32) ≤ n ∧ n ≤ 1) (h2 : ¬ tdF t 6 = 0) (hj : j ≤ 6) (hj2 : 6 ≤ j) (hw : b = pmF f g t j) (hb : ¬ b = -1) (hm : MS f g t b m) (e : n = nI u) (hl : u ≤ 1) (hu : u ≠ 0) : m = nxF f g t n := by
  have e6 : j = 6 := by omega
  subst e6
  rcases hm with q | ⟨k, hk, e1, e2⟩
  · exact absurd q.1 hb
  · subst e1
    exact e2.trans (nxF_5 h1 h2 hk hw.symm e hl hu)
theorem CN_e {f g g' t : Nat → Int32} (h : ∀ i, i < 6 → g i = g' i) (k : Nat) : CN f g t k ↔ CN f g' t k := by
  show (¬ t k = 0 ∧ ¬ prodF f g k 6 = 0) ↔ (¬ t k = 0 ∧ ¬ prodF f g' k 6 = 0)
  rw [prodF_e h k 6 (Nat.le_refl _)]
theorem ptI_e {f g g' t : Nat → Int32} (h : ∀ i, i < 6 → g i = g' i) (i k : Nat) (s : Int32) (n : Nat) : ptI f g t i k s n = ptI f g' t i k s n := by
  induction n with
  | zero => rfl
  | succ n ih =>
    show (if CN f g t k ∧ CN f g t n then ptI f g t i k s n + abF (f (k * 6 + i) - f (n * 6 + i)) else ptI f g t i k s n) = if CN f g' t k ∧ CN f g' t n then ptI f g' t i k s n + abF (f (k * 6 + i) - f (n * 6 + i)) else ptI f g' t i k s n
    rw [ih]
    by_cases c : CN f g t k ∧ CN f g t n
    · rw [if_pos c, if_pos ⟨(CN_e h k).mp c.1, (CN_e h n).mp c.2⟩]
    · rw [if_neg c, if_neg (fun q => c ⟨(CN_e h k).mpr q.1, (CN_e h n).mpr q.2⟩)]
theorem ptF_e {f g g' t : Nat → Int32} (h : ∀ i, i < 6 → g i = g' i) (i n : Nat) : ptF f g t i n = ptF f g' t i n := by
  induction n with
  | zero => rfl
  | succ n ih =>
    show ptI f g t i n (ptF f g t i n) n = ptI f g' t i n (ptF f g' t i n) n
    rw [ih, ptI_e h]
theorem pmF_e {f g g' t : Nat → Int32} (h : ∀ i, i < 6 → g i = g' i) (n : Nat) (hn : n ≤ 6) : pmF f g t n = pmF f g' t n := by
  induction n with
  | zero => rfl
  | succ n ih =>
    show (if g n = -1 ∧ (pmF f g t n = -1 ∨ ptF f g t (pmF f g t n).toNatClampNeg 6 < ptF f g t n 6) then nI n else pmF f g t n) = if g' n = -1 ∧ (pmF f g' t n = -1 ∨ ptF f g' t (pmF f g' t n).toNatClampNeg 6 < ptF f g' t n 6) then nI n else pmF f g' t n
    rw [ih (by omega), h n (by omega), ptF_e h, ptF_e h]
theorem nxF_e {f f' g g' t t' : Nat → Int32} {n : Int32} (hf : f = f') (ht : t = t') (h : ∀ i, i < 6 → g i = g' i) : nxF f g t n = nxF f' g' t' n := by
  subst hf ht
  unfold nxF
  rw [pmF_e h 6 (Nat.le_refl _), ptF_e h]
theorem lf_X7_told_f_3 (a : Nat → Nat) (y1 : Nat → Int32) (j1 : Nat) (w1 : Int32) (k4 : Nat) (hj4 : j1 ≤ 6) (hk4 : 6 < j1 + (k4 + 1)) (hw : w1 = tdF y1 j1) (c_1 : 6 ≤ nI j1) : 6 ≤ j1 := by
  exact (nI_leI (a := 6) (b := j1) (by omega) (by omega)).mp c_1
theorem lf_X7_told_f_4 (a : Nat → Nat) (y1 : Nat → Int32) (j1 : Nat) (w1 : Int32) (k4 : Nat) (hj4 : j1 ≤ 6) (hk4 : 6 < j1 + (k4 + 1)) (hw : w1 = tdF y1 j1) (c_1 : 6 ≤ nI j1) (n_2 : 6 ≤ j1) : (w1 : Int32) = tdF y1 6 := by
  exact at6 (F := fun i => tdF y1 i) (by assumption) (by assumption) (by assumption)
theorem lf_X7_told_f_6 (a : Nat → Nat) (y1 : Nat → Int32) (j1 : Nat) (w1 : Int32) (k4 : Nat) (hj4 : j1 ≤ 6) (hk4 : 6 < j1 + (k4 + 1)) (hw : w1 = tdF y1 j1) (c_1 : ¬ 6 ≤ nI j1) : j1 < 6 := by
  exact Nat.lt_of_not_le (fun q => c_1 ((nI_leI (a := 6) (b := j1) (by omega) (by omega)).mpr q))
theorem lf_X7_told_f_7 (a : Nat → Nat) (y1 : Nat → Int32) (j1 : Nat) (w1 : Int32) (k4 : Nat) (hj4 : j1 ≤ 6) (hk4 : 6 < j1 + (k4 + 1)) (hw : w1 = tdF y1 j1) (c_1 : ¬ 6 ≤ nI j1) (n_5 : j1 < 6) : j1 < 6 := by
  omega
theorem lf_X7_told_f_10 (a : Nat → Nat) (y1 : Nat → Int32) (j1 : Nat) (w1 : Int32) (k4 : Nat) (hj4 : j1 ≤ 6) (hk4 : 6 < j1 + (k4 + 1)) (hw : w1 = tdF y1 j1) (c_1 : ¬ 6 ≤ nI j1) (n_5 : j1 < 6) (c_8 : y1 j1 = 0) (x_9 : Int32) (ex_9 : x_9 = w1 + 0) : x_9 = tdF y1 (j1 + 1) := by
  first | rfl | exact tdF_n (by assumption) (by assumption) (by assumption) | exact tdF_y (by assumption) (by assumption) (by assumption)
theorem lf_X7_told_f_12 (a : Nat → Nat) (y1 : Nat → Int32) (j1 : Nat) (w1 : Int32) (k4 : Nat) (hj4 : j1 ≤ 6) (hk4 : 6 < j1 + (k4 + 1)) (hw : w1 = tdF y1 j1) (c_1 : ¬ 6 ≤ nI j1) (n_5 : j1 < 6) (c_8 : ¬ y1 j1 = 0) (x_11 : Int32) (ex_11 : x_11 = w1 + 1) : x_11 = tdF y1 (j1 + 1) := by
  first | rfl | exact tdF_n (by assumption) (by assumption) (by assumption) | exact tdF_y (by assumption) (by assumption) (by assumption)
theorem lf_X7_told_f_13 (a : Nat → Nat) (y1 : Nat → Int32) : (0 : Int32) = tdF y1 0 := by
  first | rfl | exact tdF_n (by assumption) (by assumption) (by assumption) | exact tdF_y (by assumption) (by assumption) (by assumption)
set_option maxHeartbeats 4000000 in
set_option maxRecDepth 100000 in
theorem c_X7_told_f (l : Launch) (D : va_G) (cI cB cZ cJ : ClassId) (tx : List (ClassId × FieldType)) (a : Nat → Nat) (y1 : Nat → Int32) : RdI l D cI cB cZ cJ tx yX7_told cX7_told 3 (some .int) 0 [.ref (a 12)] [(a 12, .inr (7, [.ref (a 48), .ref (a 49), .ref (a 50)])), (a 49, .inl (cZ, 6, .inl y1))] (fun r => r = tdF y1 6) := by
  refine rdi_of2 (by decide) (Nat.le_of_ble_eq_true rfl) ?_
  intro p e s m below meth c A ls H locs hC hK hP hD hA hS hl
  obtain ⟨hx, hb, hr, hml, hown, hts, hlocks, hin⟩ := hC
  have hown : s.vm.findClass RX7 = some m.cls := hown
  have hl : lv_has ls 3 [(0, .ref (a 12))] := hl
  refine W_gQ (fun Q hQ => ?_)
  refine lv_iconst (v := 0) hx hb dX7_told_0 (by decide) ?_
  refine lv_istore_n (lv' := [(1, .int 0), (0, .ref (a 12))]) hx hb dX7_told_1 rfl hl (by decide) rfl (fun ls hl => ?_)
  refine lv_iconst (v := 0) hx hb dX7_told_2 (by decide) ?_
  refine lv_istore_n (lv' := [(2, .int 0), (1, .int 0), (0, .ref (a 12))]) hx hb dX7_told_3 rfl hl (by decide) rfl (fun ls hl => ?_)
  have lp4 : ∀ (k4 : Nat) (j1 : Nat) (w1 : Int32) (H : Heap) (locs : List Loc) (ls : Array Slot), j1 ≤ 6 → 6 < j1 + k4 → (w1 = tdF y1 j1) → va_P D vwCl [(a 12, .inr (7, [.ref (a 48), .ref (a 49), .ref (a 50)])), (a 49, .inl (cZ, 6, .inl y1))] H → va_S A s.heap H locs → lv_has ls 3 [(2, .int (nI j1)), (1, .int w1), (0, .ref (a 12))] → W p l e (rmX 0 0 0) s m ([.ref (a 12)] : List Value).toArray below meth c H locs 0 0 Q (F0 m 4 ls []) := by
    intro k4
    induction k4 with
    | zero =>
      intro j1 w1 H locs ls hj4 hk4 hw hP hS hl
      exact absurd hk4 (by omega)
    | succ k4 ih4 =>
      intro j1 w1 H locs ls hj4 hk4 hw hP hS hl
      refine lv_iload_n hx hb dX7_told_4 rfl (lv_at hl 0 rfl) ?_
      refine lv_bipush (v := 6) hx hb dX7_told_5 (by decide) ?_
      refine lv_icmp_ge (tgt := 33) hx hb dX7_told_7 (by decide) (fun c_1 => ?_) (fun c_1 => ?_)
      · have n_2 : 6 ≤ j1 := (lf_X7_told_f_3 a y1 j1 w1 k4 hj4 hk4 hw c_1)
        refine lv_iload_n hx hb dX7_told_33 rfl (lv_at hl 1 rfl) ?_
        rw [hQ]
        exact W.iret (v := w1) hx hb hr (fun tt9 ht hW => ⟨⟨(w1 : Int32), (), rfl, (lf_X7_told_f_4 a y1 j1 w1 k4 hj4 hk4 hw c_1 n_2), trivial⟩, hS.F ht⟩) hS.2.2 dX7_told_34 hlocks
      · have n_5 : j1 < 6 := (lf_X7_told_f_6 a y1 j1 w1 k4 hj4 hk4 hw c_1)
        refine lv_iload_n hx hb dX7_told_10 rfl (lv_at hl 1 rfl) ?_
        refine lv_aload_n hx hb dX7_told_11 rfl (lv_at hl 2 rfl) ?_
        refine va_get (D := D) (ci := 7) (v := .ref (a 49)) (C := RX7) (T := TX7) (N := 3) hx hb hts inT_X7 hown hK.1 hP 0 rfl rfl 1 (by decide) (hts _ k_472) (fun _ h9 => h9) rfl dX7_told_12 ?_
        refine lv_iload_n hx hb dX7_told_15 rfl (lv_at hl 0 rfl) ?_
        refine lt_z (j := j1) hx hb hK hP 1 rfl (lf_X7_told_f_7 a y1 j1 w1 k4 hj4 hk4 hw c_1 n_5) (by decide) dX7_told_16 ?_
        refine lv_if_eq (tgt := 24) hx hb dX7_told_17 (by decide) (fun c_8 => ?_) (fun c_8 => ?_)
        · refine lv_iconst (v := 0) hx hb dX7_told_24 (by decide) ?_
          refine lv_iadd hx hb dX7_told_25 ?_
          refine lv_topi (fun x_9 ex_9 => ?_)
          refine lv_istore_n (lv' := [(1, .int x_9), (2, .int (nI j1)), (0, .ref (a 12))]) hx hb dX7_told_26 rfl hl (by decide) rfl (fun ls hl => ?_)
          refine lv_iinc (v := nI (j1 + 1)) (lv' := [(2, .int (nI (j1 + 1))), (1, .int x_9), (0, .ref (a 12))]) hx hb dX7_told_27 hl (k := 1) rfl (nI_1 j1) (by decide) rfl (fun ls hl => ?_)
          refine lv_goto (tgt := 4) hx hb dX7_told_30 (by decide) ?_
          exact ih4 (j1 + 1) x_9 H locs ls (by omega) (by omega) (lf_X7_told_f_10 a y1 j1 w1 k4 hj4 hk4 hw c_1 n_5 c_8 x_9 ex_9) (hP.sub [0, 1] rfl)  hS (lv_sub hl [0, 1, 2] rfl)
        · refine lv_iconst (v := 1) hx hb dX7_told_20 (by decide) ?_
          refine lv_goto (tgt := 25) hx hb dX7_told_21 (by decide) ?_
          refine lv_iadd hx hb dX7_told_25 ?_
          refine lv_topi (fun x_11 ex_11 => ?_)
          refine lv_istore_n (lv' := [(1, .int x_11), (2, .int (nI j1)), (0, .ref (a 12))]) hx hb dX7_told_26 rfl hl (by decide) rfl (fun ls hl => ?_)
          refine lv_iinc (v := nI (j1 + 1)) (lv' := [(2, .int (nI (j1 + 1))), (1, .int x_11), (0, .ref (a 12))]) hx hb dX7_told_27 hl (k := 1) rfl (nI_1 j1) (by decide) rfl (fun ls hl => ?_)
          refine lv_goto (tgt := 4) hx hb dX7_told_30 (by decide) ?_
          exact ih4 (j1 + 1) x_11 H locs ls (by omega) (by omega) (lf_X7_told_f_12 a y1 j1 w1 k4 hj4 hk4 hw c_1 n_5 c_8 x_11 ex_11) (hP.sub [0, 1] rfl)  hS (lv_sub hl [0, 1, 2] rfl)
  exact lp4 (6 + 1) 0 0 H locs ls (by omega) (by omega) (lf_X7_told_f_13 a y1) (hP.sub [0, 1] rfl)  hS (lv_sub hl [0, 1, 2] rfl)

theorem lf_X7_counts_f_1 (a : Nat → Nat) (y0 : Nat → Int32) (y1 : Nat → Int32) (y2 : Nat → Int32) (x1 : Nat) (hx1 : x1 < 6) (hs3 : ∀ i, i < 6 → sg3 (y2 i)) : x1 < 6 := by
  omega
theorem lf_X7_counts_f_3 (a : Nat → Nat) (y0 : Nat → Int32) (y1 : Nat → Int32) (y2 : Nat → Int32) (x1 : Nat) (hx1 : x1 < 6) (hs3 : ∀ i, i < 6 → sg3 (y2 i)) (c_2 : y1 x1 = 0) : ((0 : Int32) = 0 ∧ ¬ CN y0 y2 y1 x1) ∨ ((0 : Int32) = 1 ∧ CN y0 y2 y1 x1) := by
  first | exact Or.inl ⟨rfl, fun w => absurd (by assumption) w.1⟩ | exact Or.inl ⟨rfl, fun w => w.2 ((lg_cmp_eq _ _).mp (by assumption))⟩ | exact Or.inr ⟨rfl, by assumption, fun e => absurd ((lg_cmp_eq _ _).mpr e) (by assumption)⟩
theorem lf_X7_counts_f_4 (a : Nat → Nat) (y0 : Nat → Int32) (y1 : Nat → Int32) (y2 : Nat → Int32) (x1 : Nat) (hx1 : x1 < 6) (hs3 : ∀ i, i < 6 → sg3 (y2 i)) (c_2 : ¬ y1 x1 = 0) : x1 < 6 := by
  first | assumption | omega | decide
theorem lf_X7_counts_f_5 (a : Nat → Nat) (y0 : Nat → Int32) (y1 : Nat → Int32) (y2 : Nat → Int32) (x1 : Nat) (hx1 : x1 < 6) (hs3 : ∀ i, i < 6 → sg3 (y2 i)) (c_2 : ¬ y1 x1 = 0) : ∀ i, i < 6 → sg3 (y2 i) := by
  first | assumption | omega | decide
theorem lf_X7_counts_f_8 (a : Nat → Nat) (y0 : Nat → Int32) (y1 : Nat → Int32) (y2 : Nat → Int32) (x1 : Nat) (hx1 : x1 < 6) (hs3 : ∀ i, i < 6 → sg3 (y2 i)) (c_2 : ¬ y1 x1 = 0) (c_7 : lg_cmp (prodF y0 y2 x1 6) 0 = 0) : ((0 : Int32) = 0 ∧ ¬ CN y0 y2 y1 x1) ∨ ((0 : Int32) = 1 ∧ CN y0 y2 y1 x1) := by
  first | exact Or.inl ⟨rfl, fun w => absurd (by assumption) w.1⟩ | exact Or.inl ⟨rfl, fun w => w.2 ((lg_cmp_eq _ _).mp (by assumption))⟩ | exact Or.inr ⟨rfl, by assumption, fun e => absurd ((lg_cmp_eq _ _).mpr e) (by assumption)⟩
theorem lf_X7_counts_f_9 (a : Nat → Nat) (y0 : Nat → Int32) (y1 : Nat → Int32) (y2 : Nat → Int32) (x1 : Nat) (hx1 : x1 < 6) (hs3 : ∀ i, i < 6 → sg3 (y2 i)) (c_2 : ¬ y1 x1 = 0) (c_7 : ¬ lg_cmp (prodF y0 y2 x1 6) 0 = 0) : ((1 : Int32) = 0 ∧ ¬ CN y0 y2 y1 x1) ∨ ((1 : Int32) = 1 ∧ CN y0 y2 y1 x1) := by
  first | exact Or.inl ⟨rfl, fun w => absurd (by assumption) w.1⟩ | exact Or.inl ⟨rfl, fun w => w.2 ((lg_cmp_eq _ _).mp (by assumption))⟩ | exact Or.inr ⟨rfl, by assumption, fun e => absurd ((lg_cmp_eq _ _).mpr e) (by assumption)⟩
set_option maxHeartbeats 4000000 in
set_option maxRecDepth 100000 in
theorem c_X7_counts_f (l : Launch) (D : va_G) (cI cB cZ cJ : ClassId) (tx : List (ClassId × FieldType)) (a : Nat → Nat) (y0 : Nat → Int32) (y1 : Nat → Int32) (y2 : Nat → Int32) (x1 : Nat) (hx1 : x1 < 6) (hs3 : ∀ i, i < 6 → sg3 (y2 i)) : RdI l D cI cB cZ cJ tx yX7_counts cX7_counts 2 (some .boolean) 1 [.ref (a 12), .int (nI x1)] [(a 12, .inr (7, [.ref (a 48), .ref (a 49), .ref (a 50)])), (a 48, .inl (cI, 36, .inl y0)), (a 49, .inl (cZ, 6, .inl y1)), (a 50, .inl (cI, 6, .inl y2))] (fun r => (r = 0 ∧ ¬ CN y0 y2 y1 x1) ∨ (r = 1 ∧ CN y0 y2 y1 x1)) := by
  refine rdi_of2 (by decide) (Nat.le_of_ble_eq_true rfl) ?_
  intro p e s m below meth c A ls H locs hC hK hP hD hA hS hl
  obtain ⟨hx, hb, hr, hml, hown, hts, hlocks, hin⟩ := hC
  have hown : s.vm.findClass RX7 = some m.cls := hown
  have hl : lv_has ls 2 [(0, .ref (a 12)), (1, .int (nI x1))] := hl
  refine W_gQ (fun Q hQ => ?_)
  refine lv_aload_n hx hb dX7_counts_0 rfl (lv_at hl 0 rfl) ?_
  refine va_get (D := D) (ci := 7) (v := .ref (a 49)) (C := RX7) (T := TX7) (N := 3) hx hb hts inT_X7 hown hK.1 hP 0 rfl rfl 1 (by decide) (hts _ k_472) (fun _ h9 => h9) rfl dX7_counts_1 ?_
  refine lv_iload_n hx hb dX7_counts_4 rfl (lv_at hl 1 rfl) ?_
  refine lt_z (j := x1) hx hb hK hP 2 rfl (lf_X7_counts_f_1 a y0 y1 y2 x1 hx1 hs3) (by decide) dX7_counts_5 ?_
  refine lv_if_eq (tgt := 23) hx hb dX7_counts_6 (by decide) (fun c_2 => ?_) (fun c_2 => ?_)
  · refine lv_iconst (v := 0) hx hb dX7_counts_23 (by decide) ?_
    rw [hQ]
    exact W.zret (v := 0) hx hb hr (by decide) (fun tt9 ht hW => ⟨⟨(0 : Int32), (), rfl, (lf_X7_counts_f_3 a y0 y1 y2 x1 hx1 hs3 c_2), trivial⟩, hS.F ht⟩) hS.2.2 dX7_counts_24 hlocks
  · refine lv_aload_n hx hb dX7_counts_9 rfl (lv_at hl 0 rfl) ?_
    refine lv_iload_n hx hb dX7_counts_10 rfl (lv_at hl 1 rfl) ?_
    refine eRl (va_runV (As := [.int (nI x1)]) (rest := []) ⟨hx, hb, hml, hown, hts⟩ (c_X7_product_f l D cI cB cZ cJ tx a y0 y2 x1 (lf_X7_counts_f_4 a y0 y1 y2 x1 hx1 hs3 c_2) (lf_X7_counts_f_5 a y0 y1 y2 x1 hx1 hs3 c_2) H.size) (zV hts k_1209 v_X7_product ⟨Nat.le_of_ble_eq_true rfl, Nat.le_of_ble_eq_true rfl⟩) (pV (pxS hK hP hD [0, 1, 3] (by decide) rfl) hK hP 0 rfl rfl) rfl rfl hl.1 rfl (lv_room (Nat.le_of_ble_eq_true rfl)) dX7_counts_11 ⟨Nat.le_of_ble_eq_true rfl, Nat.le_of_ble_eq_true rfl⟩) hP hS hA (fun r_6 H locs wr_6 hP hS => ?_)
    subst wr_6
    refine lv_lconst (v := 0) hx hb dX7_counts_14 (by decide) ?_
    refine W.lcmp hx hb dX7_counts_15 ?_
    refine lv_if_eq (tgt := 23) hx hb dX7_counts_16 (by decide) (fun c_7 => ?_) (fun c_7 => ?_)
    · refine lv_iconst (v := 0) hx hb dX7_counts_23 (by decide) ?_
      rw [hQ]
      exact W.zret (v := 0) hx hb hr (by decide) (fun tt9 ht hW => ⟨⟨(0 : Int32), (), rfl, (lf_X7_counts_f_8 a y0 y1 y2 x1 hx1 hs3 c_2 c_7), trivial⟩, hS.F ht⟩) hS.2.2 dX7_counts_24 hlocks
    · refine lv_iconst (v := 1) hx hb dX7_counts_19 (by decide) ?_
      refine lv_goto (tgt := 24) hx hb dX7_counts_20 (by decide) ?_
      rw [hQ]
      exact W.zret (v := 1) hx hb hr (by decide) (fun tt9 ht hW => ⟨⟨(1 : Int32), (), rfl, (lf_X7_counts_f_9 a y0 y1 y2 x1 hx1 hs3 c_2 c_7), trivial⟩, hS.F ht⟩) hS.2.2 dX7_counts_24 hlocks

theorem lf_X7_parted_f_3 (a : Nat → Nat) (y0 : Nat → Int32) (y1 : Nat → Int32) (y2 : Nat → Int32) (x1 : Nat) (hx1 : x1 < 6) (hs3 : ∀ i, i < 6 → sg3 (y2 i)) (j1 : Nat) (w1 : Int32) (k4 : Nat) (hj4 : j1 ≤ 6) (hk4 : 6 < j1 + (k4 + 1)) (hw : w1 = ptF y0 y2 y1 x1 j1) (c_1 : 6 ≤ nI j1) : 6 ≤ j1 := by
  exact (nI_leI (a := 6) (b := j1) (by omega) (by omega)).mp c_1
theorem lf_X7_parted_f_4 (a : Nat → Nat) (y0 : Nat → Int32) (y1 : Nat → Int32) (y2 : Nat → Int32) (x1 : Nat) (hx1 : x1 < 6) (hs3 : ∀ i, i < 6 → sg3 (y2 i)) (j1 : Nat) (w1 : Int32) (k4 : Nat) (hj4 : j1 ≤ 6) (hk4 : 6 < j1 + (k4 + 1)) (hw : w1 = ptF y0 y2 y1 x1 j1) (c_1 : 6 ≤ nI j1) (n_2 : 6 ≤ j1) : (w1 : Int32) = ptF y0 y2 y1 x1 6 := by
  exact at6 (F := fun i => ptF y0 y2 y1 x1 i) (by assumption) (by assumption) (by assumption)
theorem lf_X7_parted_f_6 (a : Nat → Nat) (y0 : Nat → Int32) (y1 : Nat → Int32) (y2 : Nat → Int32) (x1 : Nat) (hx1 : x1 < 6) (hs3 : ∀ i, i < 6 → sg3 (y2 i)) (j1 : Nat) (w1 : Int32) (k4 : Nat) (hj4 : j1 ≤ 6) (hk4 : 6 < j1 + (k4 + 1)) (hw : w1 = ptF y0 y2 y1 x1 j1) (c_1 : ¬ 6 ≤ nI j1) : j1 < 6 := by
  exact Nat.lt_of_not_le (fun q => c_1 ((nI_leI (a := 6) (b := j1) (by omega) (by omega)).mpr q))
theorem lf_X7_parted_f_9 (a : Nat → Nat) (y0 : Nat → Int32) (y1 : Nat → Int32) (y2 : Nat → Int32) (x1 : Nat) (hx1 : x1 < 6) (hs3 : ∀ i, i < 6 → sg3 (y2 i)) (j1 : Nat) (w1 : Int32) (k4 : Nat) (hj4 : j1 ≤ 6) (hk4 : 6 < j1 + (k4 + 1)) (hw : w1 = ptF y0 y2 y1 x1 j1) (c_1 : ¬ 6 ≤ nI j1) (n_5 : j1 < 6) (j2 : Nat) (w2 : Int32) (k13 : Nat) (hj13 : j2 ≤ j1) (hk13 : j1 < j2 + (k13 + 1)) (hw2 : w2 = ptI y0 y2 y1 x1 j1 w1 j2) (c_7 : nI j1 ≤ nI j2) : j1 ≤ j2 := by
  exact (nI_leI (a := j1) (b := j2) (by omega) (by omega)).mp c_7
theorem lf_X7_parted_f_10 (a : Nat → Nat) (y0 : Nat → Int32) (y1 : Nat → Int32) (y2 : Nat → Int32) (x1 : Nat) (hx1 : x1 < 6) (hs3 : ∀ i, i < 6 → sg3 (y2 i)) (j1 : Nat) (w1 : Int32) (k4 : Nat) (hj4 : j1 ≤ 6) (hk4 : 6 < j1 + (k4 + 1)) (hw : w1 = ptF y0 y2 y1 x1 j1) (c_1 : ¬ 6 ≤ nI j1) (n_5 : j1 < 6) (j2 : Nat) (w2 : Int32) (k13 : Nat) (hj13 : j2 ≤ j1) (hk13 : j1 < j2 + (k13 + 1)) (hw2 : w2 = ptI y0 y2 y1 x1 j1 w1 j2) (c_7 : nI j1 ≤ nI j2) (n_8 : j1 ≤ j2) : w2 = ptF y0 y2 y1 x1 (j1 + 1) := by
  first | rfl | exact ptI_y (by assumption) (by assumption) (by assumption) (by assumption) (by assumption) (by assumption) | exact ptI_z (by assumption) (by assumption) (by assumption) (by assumption) (by assumption) | exact ptI_n1 (by assumption) (by assumption) | exact ptI_n2 (by assumption) (by assumption) | exact ptI_n1 (by assumption) ((i32_a0 _).symm ▸ (by assumption)) | exact ptF_s (by assumption) (by assumption) (by assumption) (by assumption)
theorem lf_X7_parted_f_12 (a : Nat → Nat) (y0 : Nat → Int32) (y1 : Nat → Int32) (y2 : Nat → Int32) (x1 : Nat) (hx1 : x1 < 6) (hs3 : ∀ i, i < 6 → sg3 (y2 i)) (j1 : Nat) (w1 : Int32) (k4 : Nat) (hj4 : j1 ≤ 6) (hk4 : 6 < j1 + (k4 + 1)) (hw : w1 = ptF y0 y2 y1 x1 j1) (c_1 : ¬ 6 ≤ nI j1) (n_5 : j1 < 6) (j2 : Nat) (w2 : Int32) (k13 : Nat) (hj13 : j2 ≤ j1) (hk13 : j1 < j2 + (k13 + 1)) (hw2 : w2 = ptI y0 y2 y1 x1 j1 w1 j2) (c_7 : ¬ nI j1 ≤ nI j2) : j2 < j1 := by
  exact Nat.lt_of_not_le (fun q => c_7 ((nI_leI (a := j1) (b := j2) (by omega) (by omega)).mpr q))
theorem lf_X7_parted_f_13 (a : Nat → Nat) (y0 : Nat → Int32) (y1 : Nat → Int32) (y2 : Nat → Int32) (x1 : Nat) (hx1 : x1 < 6) (hs3 : ∀ i, i < 6 → sg3 (y2 i)) (j1 : Nat) (w1 : Int32) (k4 : Nat) (hj4 : j1 ≤ 6) (hk4 : 6 < j1 + (k4 + 1)) (hw : w1 = ptF y0 y2 y1 x1 j1) (c_1 : ¬ 6 ≤ nI j1) (n_5 : j1 < 6) (j2 : Nat) (w2 : Int32) (k13 : Nat) (hj13 : j2 ≤ j1) (hk13 : j1 < j2 + (k13 + 1)) (hw2 : w2 = ptI y0 y2 y1 x1 j1 w1 j2) (c_7 : ¬ nI j1 ≤ nI j2) (n_11 : j2 < j1) : j1 < 6 := by
  first | assumption | omega | decide
theorem lf_X7_parted_f_14 (a : Nat → Nat) (y0 : Nat → Int32) (y1 : Nat → Int32) (y2 : Nat → Int32) (x1 : Nat) (hx1 : x1 < 6) (hs3 : ∀ i, i < 6 → sg3 (y2 i)) (j1 : Nat) (w1 : Int32) (k4 : Nat) (hj4 : j1 ≤ 6) (hk4 : 6 < j1 + (k4 + 1)) (hw : w1 = ptF y0 y2 y1 x1 j1) (c_1 : ¬ 6 ≤ nI j1) (n_5 : j1 < 6) (j2 : Nat) (w2 : Int32) (k13 : Nat) (hj13 : j2 ≤ j1) (hk13 : j1 < j2 + (k13 + 1)) (hw2 : w2 = ptI y0 y2 y1 x1 j1 w1 j2) (c_7 : ¬ nI j1 ≤ nI j2) (n_11 : j2 < j1) : ∀ i, i < 6 → sg3 (y2 i) := by
  first | assumption | omega | decide
theorem lf_X7_parted_f_16 (a : Nat → Nat) (y0 : Nat → Int32) (y1 : Nat → Int32) (y2 : Nat → Int32) (x1 : Nat) (hx1 : x1 < 6) (hs3 : ∀ i, i < 6 → sg3 (y2 i)) (j1 : Nat) (w1 : Int32) (k4 : Nat) (hj4 : j1 ≤ 6) (hk4 : 6 < j1 + (k4 + 1)) (hw : w1 = ptF y0 y2 y1 x1 j1) (c_1 : ¬ 6 ≤ nI j1) (n_5 : j1 < 6) (j2 : Nat) (w2 : Int32) (k13 : Nat) (hj13 : j2 ≤ j1) (hk13 : j1 < j2 + (k13 + 1)) (hw2 : w2 = ptI y0 y2 y1 x1 j1 w1 j2) (c_7 : ¬ nI j1 ≤ nI j2) (n_11 : j2 < j1) (hcn15 : ¬ CN y0 y2 y1 j1) : w2 = ptI y0 y2 y1 x1 j1 w1 (j2 + 1) := by
  first | rfl | exact ptI_y (by assumption) (by assumption) (by assumption) (by assumption) (by assumption) (by assumption) | exact ptI_z (by assumption) (by assumption) (by assumption) (by assumption) (by assumption) | exact ptI_n1 (by assumption) (by assumption) | exact ptI_n2 (by assumption) (by assumption) | exact ptI_n1 (by assumption) ((i32_a0 _).symm ▸ (by assumption)) | exact ptF_s (by assumption) (by assumption) (by assumption) (by assumption)
theorem lf_X7_parted_f_17 (a : Nat → Nat) (y0 : Nat → Int32) (y1 : Nat → Int32) (y2 : Nat → Int32) (x1 : Nat) (hx1 : x1 < 6) (hs3 : ∀ i, i < 6 → sg3 (y2 i)) (j1 : Nat) (w1 : Int32) (k4 : Nat) (hj4 : j1 ≤ 6) (hk4 : 6 < j1 + (k4 + 1)) (hw : w1 = ptF y0 y2 y1 x1 j1) (c_1 : ¬ 6 ≤ nI j1) (n_5 : j1 < 6) (j2 : Nat) (w2 : Int32) (k13 : Nat) (hj13 : j2 ≤ j1) (hk13 : j1 < j2 + (k13 + 1)) (hw2 : w2 = ptI y0 y2 y1 x1 j1 w1 j2) (c_7 : ¬ nI j1 ≤ nI j2) (n_11 : j2 < j1) (hcn15 : CN y0 y2 y1 j1) : j2 < 6 := by
  first | assumption | omega | decide
theorem lf_X7_parted_f_18 (a : Nat → Nat) (y0 : Nat → Int32) (y1 : Nat → Int32) (y2 : Nat → Int32) (x1 : Nat) (hx1 : x1 < 6) (hs3 : ∀ i, i < 6 → sg3 (y2 i)) (j1 : Nat) (w1 : Int32) (k4 : Nat) (hj4 : j1 ≤ 6) (hk4 : 6 < j1 + (k4 + 1)) (hw : w1 = ptF y0 y2 y1 x1 j1) (c_1 : ¬ 6 ≤ nI j1) (n_5 : j1 < 6) (j2 : Nat) (w2 : Int32) (k13 : Nat) (hj13 : j2 ≤ j1) (hk13 : j1 < j2 + (k13 + 1)) (hw2 : w2 = ptI y0 y2 y1 x1 j1 w1 j2) (c_7 : ¬ nI j1 ≤ nI j2) (n_11 : j2 < j1) (hcn15 : CN y0 y2 y1 j1) : ∀ i, i < 6 → sg3 (y2 i) := by
  first | assumption | omega | decide
theorem lf_X7_parted_f_20 (a : Nat → Nat) (y0 : Nat → Int32) (y1 : Nat → Int32) (y2 : Nat → Int32) (x1 : Nat) (hx1 : x1 < 6) (hs3 : ∀ i, i < 6 → sg3 (y2 i)) (j1 : Nat) (w1 : Int32) (k4 : Nat) (hj4 : j1 ≤ 6) (hk4 : 6 < j1 + (k4 + 1)) (hw : w1 = ptF y0 y2 y1 x1 j1) (c_1 : ¬ 6 ≤ nI j1) (n_5 : j1 < 6) (j2 : Nat) (w2 : Int32) (k13 : Nat) (hj13 : j2 ≤ j1) (hk13 : j1 < j2 + (k13 + 1)) (hw2 : w2 = ptI y0 y2 y1 x1 j1 w1 j2) (c_7 : ¬ nI j1 ≤ nI j2) (n_11 : j2 < j1) (hcn15 : CN y0 y2 y1 j1) (hcn19 : ¬ CN y0 y2 y1 j2) : w2 = ptI y0 y2 y1 x1 j1 w1 (j2 + 1) := by
  first | rfl | exact ptI_y (by assumption) (by assumption) (by assumption) (by assumption) (by assumption) (by assumption) | exact ptI_z (by assumption) (by assumption) (by assumption) (by assumption) (by assumption) | exact ptI_n1 (by assumption) (by assumption) | exact ptI_n2 (by assumption) (by assumption) | exact ptI_n1 (by assumption) ((i32_a0 _).symm ▸ (by assumption)) | exact ptF_s (by assumption) (by assumption) (by assumption) (by assumption)
theorem lf_X7_parted_f_21 (a : Nat → Nat) (y0 : Nat → Int32) (y1 : Nat → Int32) (y2 : Nat → Int32) (x1 : Nat) (hx1 : x1 < 6) (hs3 : ∀ i, i < 6 → sg3 (y2 i)) (j1 : Nat) (w1 : Int32) (k4 : Nat) (hj4 : j1 ≤ 6) (hk4 : 6 < j1 + (k4 + 1)) (hw : w1 = ptF y0 y2 y1 x1 j1) (c_1 : ¬ 6 ≤ nI j1) (n_5 : j1 < 6) (j2 : Nat) (w2 : Int32) (k13 : Nat) (hj13 : j2 ≤ j1) (hk13 : j1 < j2 + (k13 + 1)) (hw2 : w2 = ptI y0 y2 y1 x1 j1 w1 j2) (c_7 : ¬ nI j1 ≤ nI j2) (n_11 : j2 < j1) (hcn15 : CN y0 y2 y1 j1) (hcn19 : CN y0 y2 y1 j2) : ((j1 * 6) + x1) < 36 := by
  omega
theorem lf_X7_parted_f_22 (a : Nat → Nat) (y0 : Nat → Int32) (y1 : Nat → Int32) (y2 : Nat → Int32) (x1 : Nat) (hx1 : x1 < 6) (hs3 : ∀ i, i < 6 → sg3 (y2 i)) (j1 : Nat) (w1 : Int32) (k4 : Nat) (hj4 : j1 ≤ 6) (hk4 : 6 < j1 + (k4 + 1)) (hw : w1 = ptF y0 y2 y1 x1 j1) (c_1 : ¬ 6 ≤ nI j1) (n_5 : j1 < 6) (j2 : Nat) (w2 : Int32) (k13 : Nat) (hj13 : j2 ≤ j1) (hk13 : j1 < j2 + (k13 + 1)) (hw2 : w2 = ptI y0 y2 y1 x1 j1 w1 j2) (c_7 : ¬ nI j1 ≤ nI j2) (n_11 : j2 < j1) (hcn15 : CN y0 y2 y1 j1) (hcn19 : CN y0 y2 y1 j2) : ((j2 * 6) + x1) < 36 := by
  omega
theorem lf_X7_parted_f_26 (a : Nat → Nat) (y0 : Nat → Int32) (y1 : Nat → Int32) (y2 : Nat → Int32) (x1 : Nat) (hx1 : x1 < 6) (hs3 : ∀ i, i < 6 → sg3 (y2 i)) (j1 : Nat) (w1 : Int32) (k4 : Nat) (hj4 : j1 ≤ 6) (hk4 : 6 < j1 + (k4 + 1)) (hw : w1 = ptF y0 y2 y1 x1 j1) (c_1 : ¬ 6 ≤ nI j1) (n_5 : j1 < 6) (j2 : Nat) (w2 : Int32) (k13 : Nat) (hj13 : j2 ≤ j1) (hk13 : j1 < j2 + (k13 + 1)) (hw2 : w2 = ptI y0 y2 y1 x1 j1 w1 j2) (c_7 : ¬ nI j1 ≤ nI j2) (n_11 : j2 < j1) (hcn15 : CN y0 y2 y1 j1) (hcn19 : CN y0 y2 y1 j2) (x_23 : Int32) (ex_23 : x_23 = y0 ((j1 * 6) + x1) - y0 ((j2 * 6) + x1)) (x_24 : Int32) (ex_24 : x_24 = if 0 ≤ x_23 then x_23 else 0 - x_23) (x_25 : Int32) (ex_25 : x_25 = w2 + x_24) : x_25 = ptI y0 y2 y1 x1 j1 w1 (j2 + 1) := by
  first | rfl | exact ptI_y (by assumption) (by assumption) (by assumption) (by assumption) (by assumption) (by assumption) | exact ptI_z (by assumption) (by assumption) (by assumption) (by assumption) (by assumption) | exact ptI_n1 (by assumption) (by assumption) | exact ptI_n2 (by assumption) (by assumption) | exact ptI_n1 (by assumption) ((i32_a0 _).symm ▸ (by assumption)) | exact ptF_s (by assumption) (by assumption) (by assumption) (by assumption)
theorem lf_X7_parted_f_27 (a : Nat → Nat) (y0 : Nat → Int32) (y1 : Nat → Int32) (y2 : Nat → Int32) (x1 : Nat) (hx1 : x1 < 6) (hs3 : ∀ i, i < 6 → sg3 (y2 i)) (j1 : Nat) (w1 : Int32) (k4 : Nat) (hj4 : j1 ≤ 6) (hk4 : 6 < j1 + (k4 + 1)) (hw : w1 = ptF y0 y2 y1 x1 j1) (c_1 : ¬ 6 ≤ nI j1) (n_5 : j1 < 6) : w1 = ptI y0 y2 y1 x1 j1 w1 0 := by
  first | rfl | exact ptI_y (by assumption) (by assumption) (by assumption) (by assumption) (by assumption) (by assumption) | exact ptI_z (by assumption) (by assumption) (by assumption) (by assumption) (by assumption) | exact ptI_n1 (by assumption) (by assumption) | exact ptI_n2 (by assumption) (by assumption) | exact ptI_n1 (by assumption) ((i32_a0 _).symm ▸ (by assumption)) | exact ptF_s (by assumption) (by assumption) (by assumption) (by assumption)
theorem lf_X7_parted_f_28 (a : Nat → Nat) (y0 : Nat → Int32) (y1 : Nat → Int32) (y2 : Nat → Int32) (x1 : Nat) (hx1 : x1 < 6) (hs3 : ∀ i, i < 6 → sg3 (y2 i)) : (0 : Int32) = ptF y0 y2 y1 x1 0 := by
  first | rfl | exact ptI_y (by assumption) (by assumption) (by assumption) (by assumption) (by assumption) (by assumption) | exact ptI_z (by assumption) (by assumption) (by assumption) (by assumption) (by assumption) | exact ptI_n1 (by assumption) (by assumption) | exact ptI_n2 (by assumption) (by assumption) | exact ptI_n1 (by assumption) ((i32_a0 _).symm ▸ (by assumption)) | exact ptF_s (by assumption) (by assumption) (by assumption) (by assumption)
set_option maxHeartbeats 4000000 in
set_option maxRecDepth 100000 in
theorem c_X7_parted_f (l : Launch) (D : va_G) (cI cB cZ cJ : ClassId) (tx : List (ClassId × FieldType)) (a : Nat → Nat) (y0 : Nat → Int32) (y1 : Nat → Int32) (y2 : Nat → Int32) (x1 : Nat) (hx1 : x1 < 6) (hs3 : ∀ i, i < 6 → sg3 (y2 i)) : RdI l D cI cB cZ cJ tx yX7_parted cX7_parted 5 (some .int) 2 [.ref (a 12), .int (nI x1)] [(a 12, .inr (7, [.ref (a 48), .ref (a 49), .ref (a 50)])), (a 48, .inl (cI, 36, .inl y0)), (a 49, .inl (cZ, 6, .inl y1)), (a 50, .inl (cI, 6, .inl y2))] (fun r => r = ptF y0 y2 y1 x1 6) := by
  refine rdi_of2 (by decide) (Nat.le_of_ble_eq_true rfl) ?_
  intro p e s m below meth c A ls H locs hC hK hP hD hA hS hl
  obtain ⟨hx, hb, hr, hml, hown, hts, hlocks, hin⟩ := hC
  have hown : s.vm.findClass RX7 = some m.cls := hown
  have hl : lv_has ls 5 [(0, .ref (a 12)), (1, .int (nI x1))] := hl
  refine W_gQ (fun Q hQ => ?_)
  refine lv_iconst (v := 0) hx hb dX7_parted_0 (by decide) ?_
  refine lv_istore_n (lv' := [(2, .int 0), (0, .ref (a 12)), (1, .int (nI x1))]) hx hb dX7_parted_1 rfl hl (by decide) rfl (fun ls hl => ?_)
  refine lv_iconst (v := 0) hx hb dX7_parted_2 (by decide) ?_
  refine lv_istore_n (lv' := [(3, .int 0), (2, .int 0), (0, .ref (a 12)), (1, .int (nI x1))]) hx hb dX7_parted_3 rfl hl (by decide) rfl (fun ls hl => ?_)
  have lp4 : ∀ (k4 : Nat) (j1 : Nat) (w1 : Int32) (H : Heap) (locs : List Loc) (ls : Array Slot), j1 ≤ 6 → 6 < j1 + k4 → (w1 = ptF y0 y2 y1 x1 j1) → va_P D vwCl [(a 12, .inr (7, [.ref (a 48), .ref (a 49), .ref (a 50)])), (a 48, .inl (cI, 36, .inl y0)), (a 49, .inl (cZ, 6, .inl y1)), (a 50, .inl (cI, 6, .inl y2))] H → va_S A s.heap H locs → lv_has ls 5 [(3, .int (nI j1)), (2, .int w1), (0, .ref (a 12)), (1, .int (nI x1))] → W p l e (rmX 2 0 0) s m ([.ref (a 12), .int (nI x1)] : List Value).toArray below meth c H locs 0 0 Q (F0 m 4 ls []) := by
    intro k4
    induction k4 with
    | zero =>
      intro j1 w1 H locs ls hj4 hk4 hw hP hS hl
      exact absurd hk4 (by omega)
    | succ k4 ih4 =>
      intro j1 w1 H locs ls hj4 hk4 hw hP hS hl
      refine lv_iload_n hx hb dX7_parted_4 rfl (lv_at hl 0 rfl) ?_
      refine lv_bipush (v := 6) hx hb dX7_parted_5 (by decide) ?_
      refine lv_icmp_ge (tgt := 78) hx hb dX7_parted_7 (by decide) (fun c_1 => ?_) (fun c_1 => ?_)
      · have n_2 : 6 ≤ j1 := (lf_X7_parted_f_3 a y0 y1 y2 x1 hx1 hs3 j1 w1 k4 hj4 hk4 hw c_1)
        refine lv_iload_n hx hb dX7_parted_78 rfl (lv_at hl 1 rfl) ?_
        rw [hQ]
        exact W.iret (v := w1) hx hb hr (fun tt9 ht hW => ⟨⟨(w1 : Int32), (), rfl, (lf_X7_parted_f_4 a y0 y1 y2 x1 hx1 hs3 j1 w1 k4 hj4 hk4 hw c_1 n_2), trivial⟩, hS.F ht⟩) hS.2.2 dX7_parted_79 hlocks
      · have n_5 : j1 < 6 := (lf_X7_parted_f_6 a y0 y1 y2 x1 hx1 hs3 j1 w1 k4 hj4 hk4 hw c_1)
        refine lv_iconst (v := 0) hx hb dX7_parted_10 (by decide) ?_
        refine lv_istore (lv' := [(4, .int 0), (3, .int (nI j1)), (2, .int w1), (0, .ref (a 12)), (1, .int (nI x1))]) hx hb dX7_parted_11 hl (by decide) rfl (fun ls hl => ?_)
        have lp13 : ∀ (k13 : Nat) (j2 : Nat) (w2 : Int32) (H : Heap) (locs : List Loc) (ls : Array Slot), j2 ≤ j1 → j1 < j2 + k13 → (w2 = ptI y0 y2 y1 x1 j1 w1 j2) → va_P D vwCl [(a 12, .inr (7, [.ref (a 48), .ref (a 49), .ref (a 50)])), (a 48, .inl (cI, 36, .inl y0)), (a 49, .inl (cZ, 6, .inl y1)), (a 50, .inl (cI, 6, .inl y2))] H → va_S A s.heap H locs → lv_has ls 5 [(4, .int (nI j2)), (3, .int (nI j1)), (2, .int w2), (0, .ref (a 12)), (1, .int (nI x1))] → W p l e (rmX 2 0 0) s m ([.ref (a 12), .int (nI x1)] : List Value).toArray below meth c H locs 0 0 Q (F0 m 13 ls []) := by
          intro k13
          induction k13 with
          | zero =>
            intro j2 w2 H locs ls hj13 hk13 hw2 hP hS hl
            exact absurd hk13 (by omega)
          | succ k13 ih13 =>
            intro j2 w2 H locs ls hj13 hk13 hw2 hP hS hl
            refine lv_iload hx hb dX7_parted_13 (lv_at hl 0 rfl) ?_
            refine lv_iload_n hx hb dX7_parted_15 rfl (lv_at hl 1 rfl) ?_
            refine lv_icmp_ge (tgt := 72) hx hb dX7_parted_16 (by decide) (fun c_7 => ?_) (fun c_7 => ?_)
            · have n_8 : j1 ≤ j2 := (lf_X7_parted_f_9 a y0 y1 y2 x1 hx1 hs3 j1 w1 k4 hj4 hk4 hw c_1 n_5 j2 w2 k13 hj13 hk13 hw2 c_7)
              refine lv_iinc (v := nI (j1 + 1)) (lv' := [(3, .int (nI (j1 + 1))), (4, .int (nI j2)), (2, .int w2), (0, .ref (a 12)), (1, .int (nI x1))]) hx hb dX7_parted_72 hl (k := 1) rfl (nI_1 j1) (by decide) rfl (fun ls hl => ?_)
              refine lv_goto (tgt := 4) hx hb dX7_parted_75 (by decide) ?_
              exact ih4 (j1 + 1) w2 H locs ls (by omega) (by omega) (lf_X7_parted_f_10 a y0 y1 y2 x1 hx1 hs3 j1 w1 k4 hj4 hk4 hw c_1 n_5 j2 w2 k13 hj13 hk13 hw2 c_7 n_8) (hP.sub [0, 1, 2, 3] rfl)  hS (lv_sub hl [0, 2, 3, 4] rfl)
            · have n_11 : j2 < j1 := (lf_X7_parted_f_12 a y0 y1 y2 x1 hx1 hs3 j1 w1 k4 hj4 hk4 hw c_1 n_5 j2 w2 k13 hj13 hk13 hw2 c_7)
              refine lv_aload_n hx hb dX7_parted_19 rfl (lv_at hl 3 rfl) ?_
              refine lv_iload_n hx hb dX7_parted_20 rfl (lv_at hl 1 rfl) ?_
              refine eRi (va_runV (As := [.int (nI j1)]) (rest := []) ⟨hx, hb, hml, hown, hts⟩ (c_X7_counts_f l D cI cB cZ cJ tx a y0 y1 y2 j1 (lf_X7_parted_f_13 a y0 y1 y2 x1 hx1 hs3 j1 w1 k4 hj4 hk4 hw c_1 n_5 j2 w2 k13 hj13 hk13 hw2 c_7 n_11) (lf_X7_parted_f_14 a y0 y1 y2 x1 hx1 hs3 j1 w1 k4 hj4 hk4 hw c_1 n_5 j2 w2 k13 hj13 hk13 hw2 c_7 n_11) H.size) (zV hts k_1230 v_X7_counts ⟨Nat.le_of_ble_eq_true rfl, Nat.le_of_ble_eq_true rfl⟩) (pV (pxS hK hP hD [0, 1, 2, 3] (by decide) rfl) hK hP 0 rfl rfl) rfl rfl hl.1 rfl (lv_room (Nat.le_of_ble_eq_true rfl)) dX7_parted_21 ⟨Nat.le_of_ble_eq_true rfl, Nat.le_of_ble_eq_true rfl⟩) hP hS hA (fun r_15 H locs wr_15 hP hS => ?_)
              rcases wr_15 with ⟨rfl, hcn15⟩ | ⟨rfl, hcn15⟩
              · refine lv_if_eq (tgt := 66) hx hb dX7_parted_24 (by decide) (fun _ => ?_) (fun c => absurd c (by decide))
                refine lv_iinc (v := nI (j2 + 1)) (lv' := [(4, .int (nI (j2 + 1))), (3, .int (nI j1)), (2, .int w2), (0, .ref (a 12)), (1, .int (nI x1))]) hx hb dX7_parted_66 hl (k := 0) rfl (nI_1 j2) (by decide) rfl (fun ls hl => ?_)
                refine lv_goto (tgt := 13) hx hb dX7_parted_69 (by decide) ?_
                exact ih13 (j2 + 1) w2 H locs ls (by omega) (by omega) (lf_X7_parted_f_16 a y0 y1 y2 x1 hx1 hs3 j1 w1 k4 hj4 hk4 hw c_1 n_5 j2 w2 k13 hj13 hk13 hw2 c_7 n_11 hcn15) (hP.sub [0, 1, 2, 3] rfl)  hS (lv_sub hl [0, 1, 2, 3, 4] rfl)
              · refine lv_if_eq (tgt := 66) hx hb dX7_parted_24 (by decide) (fun c => absurd c (by decide)) (fun _ => ?_)
                refine lv_aload_n hx hb dX7_parted_27 rfl (lv_at hl 3 rfl) ?_
                refine lv_iload hx hb dX7_parted_28 (lv_at hl 0 rfl) ?_
                refine eRi (va_runV (As := [.int (nI j2)]) (rest := []) ⟨hx, hb, hml, hown, hts⟩ (c_X7_counts_f l D cI cB cZ cJ tx a y0 y1 y2 j2 (lf_X7_parted_f_17 a y0 y1 y2 x1 hx1 hs3 j1 w1 k4 hj4 hk4 hw c_1 n_5 j2 w2 k13 hj13 hk13 hw2 c_7 n_11 hcn15) (lf_X7_parted_f_18 a y0 y1 y2 x1 hx1 hs3 j1 w1 k4 hj4 hk4 hw c_1 n_5 j2 w2 k13 hj13 hk13 hw2 c_7 n_11 hcn15) H.size) (zV hts k_1230 v_X7_counts ⟨Nat.le_of_ble_eq_true rfl, Nat.le_of_ble_eq_true rfl⟩) (pV (pxS hK hP hD [0, 1, 2, 3] (by decide) rfl) hK hP 0 rfl rfl) rfl rfl hl.1 rfl (lv_room (Nat.le_of_ble_eq_true rfl)) dX7_parted_30 ⟨Nat.le_of_ble_eq_true rfl, Nat.le_of_ble_eq_true rfl⟩) hP hS hA (fun r_19 H locs wr_19 hP hS => ?_)
                rcases wr_19 with ⟨rfl, hcn19⟩ | ⟨rfl, hcn19⟩
                · refine lv_if_eq (tgt := 66) hx hb dX7_parted_33 (by decide) (fun _ => ?_) (fun c => absurd c (by decide))
                  refine lv_iinc (v := nI (j2 + 1)) (lv' := [(4, .int (nI (j2 + 1))), (3, .int (nI j1)), (2, .int w2), (0, .ref (a 12)), (1, .int (nI x1))]) hx hb dX7_parted_66 hl (k := 0) rfl (nI_1 j2) (by decide) rfl (fun ls hl => ?_)
                  refine lv_goto (tgt := 13) hx hb dX7_parted_69 (by decide) ?_
                  exact ih13 (j2 + 1) w2 H locs ls (by omega) (by omega) (lf_X7_parted_f_20 a y0 y1 y2 x1 hx1 hs3 j1 w1 k4 hj4 hk4 hw c_1 n_5 j2 w2 k13 hj13 hk13 hw2 c_7 n_11 hcn15 hcn19) (hP.sub [0, 1, 2, 3] rfl)  hS (lv_sub hl [0, 1, 2, 3, 4] rfl)
                · refine lv_if_eq (tgt := 66) hx hb dX7_parted_33 (by decide) (fun c => absurd c (by decide)) (fun _ => ?_)
                  refine lv_iload_n hx hb dX7_parted_36 rfl (lv_at hl 2 rfl) ?_
                  refine lv_aload_n hx hb dX7_parted_37 rfl (lv_at hl 3 rfl) ?_
                  refine va_get (D := D) (ci := 7) (v := .ref (a 48)) (C := RX7) (T := TX7) (N := 3) hx hb hts inT_X7 hown hK.1 hP 0 rfl rfl 0 (by decide) (hts _ k_471) (fun _ h9 => h9) rfl dX7_parted_38 ?_
                  refine lv_iload_n hx hb dX7_parted_41 rfl (lv_at hl 1 rfl) ?_
                  refine lv_bipush (v := 6) hx hb dX7_parted_42 (by decide) ?_
                  refine lv_imul hx hb dX7_parted_44 ?_
                  refine lv_topv (y := nI (j1 * 6)) (pk_mul j1 6) ?_
                  refine lv_iload_n hx hb dX7_parted_45 rfl (lv_at hl 4 rfl) ?_
                  refine lv_iadd hx hb dX7_parted_46 ?_
                  refine lv_topv (y := nI ((j1 * 6) + x1)) (nI_add (j1 * 6) x1) ?_
                  refine lt_i (j := ((j1 * 6) + x1)) hx hb hK hP 1 rfl (lf_X7_parted_f_21 a y0 y1 y2 x1 hx1 hs3 j1 w1 k4 hj4 hk4 hw c_1 n_5 j2 w2 k13 hj13 hk13 hw2 c_7 n_11 hcn15 hcn19) (by decide) dX7_parted_47 ?_
                  refine lv_aload_n hx hb dX7_parted_48 rfl (lv_at hl 3 rfl) ?_
                  refine va_get (D := D) (ci := 7) (v := .ref (a 48)) (C := RX7) (T := TX7) (N := 3) hx hb hts inT_X7 hown hK.1 hP 0 rfl rfl 0 (by decide) (hts _ k_471) (fun _ h9 => h9) rfl dX7_parted_49 ?_
                  refine lv_iload hx hb dX7_parted_52 (lv_at hl 0 rfl) ?_
                  refine lv_bipush (v := 6) hx hb dX7_parted_54 (by decide) ?_
                  refine lv_imul hx hb dX7_parted_56 ?_
                  refine lv_topv (y := nI (j2 * 6)) (pk_mul j2 6) ?_
                  refine lv_iload_n hx hb dX7_parted_57 rfl (lv_at hl 4 rfl) ?_
                  refine lv_iadd hx hb dX7_parted_58 ?_
                  refine lv_topv (y := nI ((j2 * 6) + x1)) (nI_add (j2 * 6) x1) ?_
                  refine lt_i (j := ((j2 * 6) + x1)) hx hb hK hP 1 rfl (lf_X7_parted_f_22 a y0 y1 y2 x1 hx1 hs3 j1 w1 k4 hj4 hk4 hw c_1 n_5 j2 w2 k13 hj13 hk13 hw2 c_7 n_11 hcn15 hcn19) (by decide) dX7_parted_59 ?_
                  refine lv_isub hx hb dX7_parted_60 ?_
                  refine lv_topi (fun x_23 ex_23 => ?_)
                  refine va_mabs hx hb (by rw [hml]; exact hl.1.symm) hown (hts _ k_1234) (hts _ k_971) (hts _ k_131) (hts _ k_972) (Nat.le_of_ble_eq_true rfl) (Nat.le_of_ble_eq_true rfl) (Nat.le_of_ble_eq_true rfl) (Nat.le_of_ble_eq_true rfl) dX7_parted_61 ?_
                  refine lv_topi (fun x_24 ex_24 => ?_)
                  refine lv_iadd hx hb dX7_parted_64 ?_
                  refine lv_topi (fun x_25 ex_25 => ?_)
                  refine lv_istore_n (lv' := [(2, .int x_25), (4, .int (nI j2)), (3, .int (nI j1)), (0, .ref (a 12)), (1, .int (nI x1))]) hx hb dX7_parted_65 rfl hl (by decide) rfl (fun ls hl => ?_)
                  refine lv_iinc (v := nI (j2 + 1)) (lv' := [(4, .int (nI (j2 + 1))), (2, .int x_25), (3, .int (nI j1)), (0, .ref (a 12)), (1, .int (nI x1))]) hx hb dX7_parted_66 hl (k := 1) rfl (nI_1 j2) (by decide) rfl (fun ls hl => ?_)
                  refine lv_goto (tgt := 13) hx hb dX7_parted_69 (by decide) ?_
                  exact ih13 (j2 + 1) x_25 H locs ls (by omega) (by omega) (lf_X7_parted_f_26 a y0 y1 y2 x1 hx1 hs3 j1 w1 k4 hj4 hk4 hw c_1 n_5 j2 w2 k13 hj13 hk13 hw2 c_7 n_11 hcn15 hcn19 x_23 ex_23 x_24 ex_24 x_25 ex_25) (hP.sub [0, 1, 2, 3] rfl)  hS (lv_sub hl [0, 2, 1, 3, 4] rfl)
        exact lp13 (j1 + 1) 0 w1 H locs ls (by omega) (by omega) (lf_X7_parted_f_27 a y0 y1 y2 x1 hx1 hs3 j1 w1 k4 hj4 hk4 hw c_1 n_5) (hP.sub [0, 1, 2, 3] rfl)  hS (lv_sub hl [0, 1, 2, 3, 4] rfl)
  exact lp4 (6 + 1) 0 0 H locs ls (by omega) (by omega) (lf_X7_parted_f_28 a y0 y1 y2 x1 hx1 hs3) (hP.sub [0, 1, 2, 3] rfl)  hS (lv_sub hl [0, 1, 2, 3] rfl)

theorem lf_X7_partingMost_f_3 (a : Nat → Nat) (y0 : Nat → Int32) (y1 : Nat → Int32) (y2 : Nat → Int32) (hs3 : ∀ i, i < 6 → sg3 (y2 i)) (j1 : Nat) (bv : Int32) (k4 : Nat) (hj4 : j1 ≤ 6) (hk4 : 6 < j1 + (k4 + 1)) (hbv : bv = -1 ∨ ∃ k : Nat, k < 6 ∧ bv = nI k) (hpm : bv = pmF y0 y2 y1 j1) (c_1 : 6 ≤ nI j1) : 6 ≤ j1 := by
  exact (nI_leI (a := 6) (b := j1) (by omega) (by omega)).mp c_1
theorem lf_X7_partingMost_f_4 (a : Nat → Nat) (y0 : Nat → Int32) (y1 : Nat → Int32) (y2 : Nat → Int32) (hs3 : ∀ i, i < 6 → sg3 (y2 i)) (j1 : Nat) (bv : Int32) (k4 : Nat) (hj4 : j1 ≤ 6) (hk4 : 6 < j1 + (k4 + 1)) (hbv : bv = -1 ∨ ∃ k : Nat, k < 6 ∧ bv = nI k) (hpm : bv = pmF y0 y2 y1 j1) (c_1 : 6 ≤ nI j1) (n_2 : 6 ≤ j1) : ((bv : Int32) = -1 ∧ pmF y0 y2 y1 6 = -1) ∨ (∃ k : Nat, k < 6 ∧ (bv : Int32) = nI k ∧ pmF y0 y2 y1 6 = nI k) := by
  have hp : bv = pmF y0 y2 y1 6 := at6 (F := fun i => pmF y0 y2 y1 i) (by assumption) (by assumption) hpm
  rcases hbv with e | ⟨k, hk, e⟩
  · exact Or.inl ⟨e, hp.symm.trans e⟩
  · exact Or.inr ⟨k, hk, e, hp.symm.trans e⟩
theorem lf_X7_partingMost_f_6 (a : Nat → Nat) (y0 : Nat → Int32) (y1 : Nat → Int32) (y2 : Nat → Int32) (hs3 : ∀ i, i < 6 → sg3 (y2 i)) (j1 : Nat) (bv : Int32) (k4 : Nat) (hj4 : j1 ≤ 6) (hk4 : 6 < j1 + (k4 + 1)) (hbv : bv = -1 ∨ ∃ k : Nat, k < 6 ∧ bv = nI k) (hpm : bv = pmF y0 y2 y1 j1) (c_1 : ¬ 6 ≤ nI j1) : j1 < 6 := by
  exact Nat.lt_of_not_le (fun q => c_1 ((nI_leI (a := 6) (b := j1) (by omega) (by omega)).mpr q))
theorem lf_X7_partingMost_f_7 (a : Nat → Nat) (y0 : Nat → Int32) (y1 : Nat → Int32) (y2 : Nat → Int32) (hs3 : ∀ i, i < 6 → sg3 (y2 i)) (j1 : Nat) (bv : Int32) (k4 : Nat) (hj4 : j1 ≤ 6) (hk4 : 6 < j1 + (k4 + 1)) (hbv : bv = -1 ∨ ∃ k : Nat, k < 6 ∧ bv = nI k) (hpm : bv = pmF y0 y2 y1 j1) (c_1 : ¬ 6 ≤ nI j1) (n_5 : j1 < 6) : j1 < 6 := by
  omega
theorem lf_X7_partingMost_f_9 (a : Nat → Nat) (y0 : Nat → Int32) (y1 : Nat → Int32) (y2 : Nat → Int32) (hs3 : ∀ i, i < 6 → sg3 (y2 i)) (j1 : Nat) (bv : Int32) (k4 : Nat) (hj4 : j1 ≤ 6) (hk4 : 6 < j1 + (k4 + 1)) (hbv : bv = -1 ∨ ∃ k : Nat, k < 6 ∧ bv = nI k) (hpm : bv = pmF y0 y2 y1 j1) (c_1 : ¬ 6 ≤ nI j1) (n_5 : j1 < 6) (c_8 : 0 ≤ y2 j1) : bv = -1 ∨ ∃ k : Nat, k < 6 ∧ bv = nI k := by
  first | exact Or.inl rfl | rfl | exact Or.inr ⟨_, by omega, rfl⟩ | exact pmF_n0 (fun e => absurd (show (0 : Int32) ≤ y2 j1 by assumption) (by rw [e]; decide)) (by assumption) | exact pmF_y0 (sg_m (hs3 _ (by omega)) (Int32.not_le.mp (by assumption))) (best_m hbv (by assumption)) hpm | exact pmF_y1 (sg_m (hs3 _ (by omega)) (Int32.not_le.mp (by assumption))) (by assumption) (by rw [← ekq]; exact hpm) (by assumption) | exact pmF_n1 (by assumption) (by rw [← ekq]; exact hpm) (by assumption) | assumption | exact Or.inr ⟨kq, hkq, rfl⟩
theorem lf_X7_partingMost_f_10 (a : Nat → Nat) (y0 : Nat → Int32) (y1 : Nat → Int32) (y2 : Nat → Int32) (hs3 : ∀ i, i < 6 → sg3 (y2 i)) (j1 : Nat) (bv : Int32) (k4 : Nat) (hj4 : j1 ≤ 6) (hk4 : 6 < j1 + (k4 + 1)) (hbv : bv = -1 ∨ ∃ k : Nat, k < 6 ∧ bv = nI k) (hpm : bv = pmF y0 y2 y1 j1) (c_1 : ¬ 6 ≤ nI j1) (n_5 : j1 < 6) (c_8 : 0 ≤ y2 j1) : bv = pmF y0 y2 y1 (j1 + 1) := by
  first | exact Or.inl rfl | rfl | exact Or.inr ⟨_, by omega, rfl⟩ | exact pmF_n0 (fun e => absurd (show (0 : Int32) ≤ y2 j1 by assumption) (by rw [e]; decide)) (by assumption) | exact pmF_y0 (sg_m (hs3 _ (by omega)) (Int32.not_le.mp (by assumption))) (best_m hbv (by assumption)) hpm | exact pmF_y1 (sg_m (hs3 _ (by omega)) (Int32.not_le.mp (by assumption))) (by assumption) (by rw [← ekq]; exact hpm) (by assumption) | exact pmF_n1 (by assumption) (by rw [← ekq]; exact hpm) (by assumption) | assumption | exact Or.inr ⟨kq, hkq, rfl⟩
theorem lf_X7_partingMost_f_12 (a : Nat → Nat) (y0 : Nat → Int32) (y1 : Nat → Int32) (y2 : Nat → Int32) (hs3 : ∀ i, i < 6 → sg3 (y2 i)) (j1 : Nat) (bv : Int32) (k4 : Nat) (hj4 : j1 ≤ 6) (hk4 : 6 < j1 + (k4 + 1)) (hbv : bv = -1 ∨ ∃ k : Nat, k < 6 ∧ bv = nI k) (hpm : bv = pmF y0 y2 y1 j1) (c_1 : ¬ 6 ≤ nI j1) (n_5 : j1 < 6) (c_8 : ¬ 0 ≤ y2 j1) (c_11 : bv < 0) : (nI j1) = -1 ∨ ∃ k : Nat, k < 6 ∧ (nI j1) = nI k := by
  first | exact Or.inl rfl | rfl | exact Or.inr ⟨_, by omega, rfl⟩ | exact pmF_n0 (fun e => absurd (show (0 : Int32) ≤ y2 j1 by assumption) (by rw [e]; decide)) (by assumption) | exact pmF_y0 (sg_m (hs3 _ (by omega)) (Int32.not_le.mp (by assumption))) (best_m hbv (by assumption)) hpm | exact pmF_y1 (sg_m (hs3 _ (by omega)) (Int32.not_le.mp (by assumption))) (by assumption) (by rw [← ekq]; exact hpm) (by assumption) | exact pmF_n1 (by assumption) (by rw [← ekq]; exact hpm) (by assumption) | assumption | exact Or.inr ⟨kq, hkq, rfl⟩
theorem lf_X7_partingMost_f_13 (a : Nat → Nat) (y0 : Nat → Int32) (y1 : Nat → Int32) (y2 : Nat → Int32) (hs3 : ∀ i, i < 6 → sg3 (y2 i)) (j1 : Nat) (bv : Int32) (k4 : Nat) (hj4 : j1 ≤ 6) (hk4 : 6 < j1 + (k4 + 1)) (hbv : bv = -1 ∨ ∃ k : Nat, k < 6 ∧ bv = nI k) (hpm : bv = pmF y0 y2 y1 j1) (c_1 : ¬ 6 ≤ nI j1) (n_5 : j1 < 6) (c_8 : ¬ 0 ≤ y2 j1) (c_11 : bv < 0) : (nI j1) = pmF y0 y2 y1 (j1 + 1) := by
  first | exact Or.inl rfl | rfl | exact Or.inr ⟨_, by omega, rfl⟩ | exact pmF_n0 (fun e => absurd (show (0 : Int32) ≤ y2 j1 by assumption) (by rw [e]; decide)) (by assumption) | exact pmF_y0 (sg_m (hs3 _ (by omega)) (Int32.not_le.mp (by assumption))) (best_m hbv (by assumption)) hpm | exact pmF_y1 (sg_m (hs3 _ (by omega)) (Int32.not_le.mp (by assumption))) (by assumption) (by rw [← ekq]; exact hpm) (by assumption) | exact pmF_n1 (by assumption) (by rw [← ekq]; exact hpm) (by assumption) | assumption | exact Or.inr ⟨kq, hkq, rfl⟩
theorem lf_X7_partingMost_f_14 (a : Nat → Nat) (y0 : Nat → Int32) (y1 : Nat → Int32) (y2 : Nat → Int32) (hs3 : ∀ i, i < 6 → sg3 (y2 i)) (j1 : Nat) (bv : Int32) (k4 : Nat) (hj4 : j1 ≤ 6) (hk4 : 6 < j1 + (k4 + 1)) (hbv : bv = -1 ∨ ∃ k : Nat, k < 6 ∧ bv = nI k) (hpm : bv = pmF y0 y2 y1 j1) (c_1 : ¬ 6 ≤ nI j1) (n_5 : j1 < 6) (c_8 : ¬ 0 ≤ y2 j1) (c_11 : ¬ bv < 0) (kq : Nat) (hkq : kq < 6) (ekq : bv = nI kq) : j1 < 6 := by
  first | assumption | omega | decide
theorem lf_X7_partingMost_f_15 (a : Nat → Nat) (y0 : Nat → Int32) (y1 : Nat → Int32) (y2 : Nat → Int32) (hs3 : ∀ i, i < 6 → sg3 (y2 i)) (j1 : Nat) (bv : Int32) (k4 : Nat) (hj4 : j1 ≤ 6) (hk4 : 6 < j1 + (k4 + 1)) (hbv : bv = -1 ∨ ∃ k : Nat, k < 6 ∧ bv = nI k) (hpm : bv = pmF y0 y2 y1 j1) (c_1 : ¬ 6 ≤ nI j1) (n_5 : j1 < 6) (c_8 : ¬ 0 ≤ y2 j1) (c_11 : ¬ bv < 0) (kq : Nat) (hkq : kq < 6) (ekq : bv = nI kq) : ∀ i, i < 6 → sg3 (y2 i) := by
  first | assumption | omega | decide
theorem lf_X7_partingMost_f_17 (a : Nat → Nat) (y0 : Nat → Int32) (y1 : Nat → Int32) (y2 : Nat → Int32) (hs3 : ∀ i, i < 6 → sg3 (y2 i)) (j1 : Nat) (bv : Int32) (k4 : Nat) (hj4 : j1 ≤ 6) (hk4 : 6 < j1 + (k4 + 1)) (hbv : bv = -1 ∨ ∃ k : Nat, k < 6 ∧ bv = nI k) (hpm : bv = pmF y0 y2 y1 j1) (c_1 : ¬ 6 ≤ nI j1) (n_5 : j1 < 6) (c_8 : ¬ 0 ≤ y2 j1) (c_11 : ¬ bv < 0) (kq : Nat) (hkq : kq < 6) (ekq : bv = nI kq) : kq < 6 := by
  first | assumption | omega | decide
theorem lf_X7_partingMost_f_18 (a : Nat → Nat) (y0 : Nat → Int32) (y1 : Nat → Int32) (y2 : Nat → Int32) (hs3 : ∀ i, i < 6 → sg3 (y2 i)) (j1 : Nat) (bv : Int32) (k4 : Nat) (hj4 : j1 ≤ 6) (hk4 : 6 < j1 + (k4 + 1)) (hbv : bv = -1 ∨ ∃ k : Nat, k < 6 ∧ bv = nI k) (hpm : bv = pmF y0 y2 y1 j1) (c_1 : ¬ 6 ≤ nI j1) (n_5 : j1 < 6) (c_8 : ¬ 0 ≤ y2 j1) (c_11 : ¬ bv < 0) (kq : Nat) (hkq : kq < 6) (ekq : bv = nI kq) : ∀ i, i < 6 → sg3 (y2 i) := by
  first | assumption | omega | decide
theorem lf_X7_partingMost_f_21 (a : Nat → Nat) (y0 : Nat → Int32) (y1 : Nat → Int32) (y2 : Nat → Int32) (hs3 : ∀ i, i < 6 → sg3 (y2 i)) (j1 : Nat) (bv : Int32) (k4 : Nat) (hj4 : j1 ≤ 6) (hk4 : 6 < j1 + (k4 + 1)) (hbv : bv = -1 ∨ ∃ k : Nat, k < 6 ∧ bv = nI k) (hpm : bv = pmF y0 y2 y1 j1) (c_1 : ¬ 6 ≤ nI j1) (n_5 : j1 < 6) (c_8 : ¬ 0 ≤ y2 j1) (c_11 : ¬ bv < 0) (kq : Nat) (hkq : kq < 6) (ekq : bv = nI kq) (c_20 : ptF y0 y2 y1 j1 6 ≤ ptF y0 y2 y1 kq 6) : (nI kq) = -1 ∨ ∃ k : Nat, k < 6 ∧ (nI kq) = nI k := by
  first | exact Or.inl rfl | rfl | exact Or.inr ⟨_, by omega, rfl⟩ | exact pmF_n0 (fun e => absurd (show (0 : Int32) ≤ y2 j1 by assumption) (by rw [e]; decide)) (by assumption) | exact pmF_y0 (sg_m (hs3 _ (by omega)) (Int32.not_le.mp (by assumption))) (best_m hbv (by assumption)) hpm | exact pmF_y1 (sg_m (hs3 _ (by omega)) (Int32.not_le.mp (by assumption))) (by assumption) (by rw [← ekq]; exact hpm) (by assumption) | exact pmF_n1 (by assumption) (by rw [← ekq]; exact hpm) (by assumption) | assumption | exact Or.inr ⟨kq, hkq, rfl⟩
theorem lf_X7_partingMost_f_22 (a : Nat → Nat) (y0 : Nat → Int32) (y1 : Nat → Int32) (y2 : Nat → Int32) (hs3 : ∀ i, i < 6 → sg3 (y2 i)) (j1 : Nat) (bv : Int32) (k4 : Nat) (hj4 : j1 ≤ 6) (hk4 : 6 < j1 + (k4 + 1)) (hbv : bv = -1 ∨ ∃ k : Nat, k < 6 ∧ bv = nI k) (hpm : bv = pmF y0 y2 y1 j1) (c_1 : ¬ 6 ≤ nI j1) (n_5 : j1 < 6) (c_8 : ¬ 0 ≤ y2 j1) (c_11 : ¬ bv < 0) (kq : Nat) (hkq : kq < 6) (ekq : bv = nI kq) (c_20 : ptF y0 y2 y1 j1 6 ≤ ptF y0 y2 y1 kq 6) : (nI kq) = pmF y0 y2 y1 (j1 + 1) := by
  first | exact Or.inl rfl | rfl | exact Or.inr ⟨_, by omega, rfl⟩ | exact pmF_n0 (fun e => absurd (show (0 : Int32) ≤ y2 j1 by assumption) (by rw [e]; decide)) (by assumption) | exact pmF_y0 (sg_m (hs3 _ (by omega)) (Int32.not_le.mp (by assumption))) (best_m hbv (by assumption)) hpm | exact pmF_y1 (sg_m (hs3 _ (by omega)) (Int32.not_le.mp (by assumption))) (by assumption) (by rw [← ekq]; exact hpm) (by assumption) | exact pmF_n1 (by assumption) (by rw [← ekq]; exact hpm) (by assumption) | assumption | exact Or.inr ⟨kq, hkq, rfl⟩
theorem lf_X7_partingMost_f_23 (a : Nat → Nat) (y0 : Nat → Int32) (y1 : Nat → Int32) (y2 : Nat → Int32) (hs3 : ∀ i, i < 6 → sg3 (y2 i)) (j1 : Nat) (bv : Int32) (k4 : Nat) (hj4 : j1 ≤ 6) (hk4 : 6 < j1 + (k4 + 1)) (hbv : bv = -1 ∨ ∃ k : Nat, k < 6 ∧ bv = nI k) (hpm : bv = pmF y0 y2 y1 j1) (c_1 : ¬ 6 ≤ nI j1) (n_5 : j1 < 6) (c_8 : ¬ 0 ≤ y2 j1) (c_11 : ¬ bv < 0) (kq : Nat) (hkq : kq < 6) (ekq : bv = nI kq) (c_20 : ¬ ptF y0 y2 y1 j1 6 ≤ ptF y0 y2 y1 kq 6) : (nI j1) = -1 ∨ ∃ k : Nat, k < 6 ∧ (nI j1) = nI k := by
  first | exact Or.inl rfl | rfl | exact Or.inr ⟨_, by omega, rfl⟩ | exact pmF_n0 (fun e => absurd (show (0 : Int32) ≤ y2 j1 by assumption) (by rw [e]; decide)) (by assumption) | exact pmF_y0 (sg_m (hs3 _ (by omega)) (Int32.not_le.mp (by assumption))) (best_m hbv (by assumption)) hpm | exact pmF_y1 (sg_m (hs3 _ (by omega)) (Int32.not_le.mp (by assumption))) (by assumption) (by rw [← ekq]; exact hpm) (by assumption) | exact pmF_n1 (by assumption) (by rw [← ekq]; exact hpm) (by assumption) | assumption | exact Or.inr ⟨kq, hkq, rfl⟩
theorem lf_X7_partingMost_f_24 (a : Nat → Nat) (y0 : Nat → Int32) (y1 : Nat → Int32) (y2 : Nat → Int32) (hs3 : ∀ i, i < 6 → sg3 (y2 i)) (j1 : Nat) (bv : Int32) (k4 : Nat) (hj4 : j1 ≤ 6) (hk4 : 6 < j1 + (k4 + 1)) (hbv : bv = -1 ∨ ∃ k : Nat, k < 6 ∧ bv = nI k) (hpm : bv = pmF y0 y2 y1 j1) (c_1 : ¬ 6 ≤ nI j1) (n_5 : j1 < 6) (c_8 : ¬ 0 ≤ y2 j1) (c_11 : ¬ bv < 0) (kq : Nat) (hkq : kq < 6) (ekq : bv = nI kq) (c_20 : ¬ ptF y0 y2 y1 j1 6 ≤ ptF y0 y2 y1 kq 6) : (nI j1) = pmF y0 y2 y1 (j1 + 1) := by
  first | exact Or.inl rfl | rfl | exact Or.inr ⟨_, by omega, rfl⟩ | exact pmF_n0 (fun e => absurd (show (0 : Int32) ≤ y2 j1 by assumption) (by rw [e]; decide)) (by assumption) | exact pmF_y0 (sg_m (hs3 _ (by omega)) (Int32.not_le.mp (by assumption))) (best_m hbv (by assumption)) hpm | exact pmF_y1 (sg_m (hs3 _ (by omega)) (Int32.not_le.mp (by assumption))) (by assumption) (by rw [← ekq]; exact hpm) (by assumption) | exact pmF_n1 (by assumption) (by rw [← ekq]; exact hpm) (by assumption) | assumption | exact Or.inr ⟨kq, hkq, rfl⟩
theorem lf_X7_partingMost_f_25 (a : Nat → Nat) (y0 : Nat → Int32) (y1 : Nat → Int32) (y2 : Nat → Int32) (hs3 : ∀ i, i < 6 → sg3 (y2 i)) : (((-1)) : Int32) = -1 ∨ ∃ k : Nat, k < 6 ∧ (((-1)) : Int32) = nI k := by
  first | exact Or.inl rfl | rfl | exact Or.inr ⟨_, by omega, rfl⟩ | exact pmF_n0 (fun e => absurd (show (0 : Int32) ≤ y2 j1 by assumption) (by rw [e]; decide)) (by assumption) | exact pmF_y0 (sg_m (hs3 _ (by omega)) (Int32.not_le.mp (by assumption))) (best_m hbv (by assumption)) hpm | exact pmF_y1 (sg_m (hs3 _ (by omega)) (Int32.not_le.mp (by assumption))) (by assumption) (by rw [← ekq]; exact hpm) (by assumption) | exact pmF_n1 (by assumption) (by rw [← ekq]; exact hpm) (by assumption) | assumption | exact Or.inr ⟨kq, hkq, rfl⟩
theorem lf_X7_partingMost_f_26 (a : Nat → Nat) (y0 : Nat → Int32) (y1 : Nat → Int32) (y2 : Nat → Int32) (hs3 : ∀ i, i < 6 → sg3 (y2 i)) : (((-1)) : Int32) = pmF y0 y2 y1 0 := by
  first | exact Or.inl rfl | rfl | exact Or.inr ⟨_, by omega, rfl⟩ | exact pmF_n0 (fun e => absurd (show (0 : Int32) ≤ y2 j1 by assumption) (by rw [e]; decide)) (by assumption) | exact pmF_y0 (sg_m (hs3 _ (by omega)) (Int32.not_le.mp (by assumption))) (best_m hbv (by assumption)) hpm | exact pmF_y1 (sg_m (hs3 _ (by omega)) (Int32.not_le.mp (by assumption))) (by assumption) (by rw [← ekq]; exact hpm) (by assumption) | exact pmF_n1 (by assumption) (by rw [← ekq]; exact hpm) (by assumption) | assumption | exact Or.inr ⟨kq, hkq, rfl⟩
set_option maxHeartbeats 4000000 in
set_option maxRecDepth 100000 in
theorem c_X7_partingMost_f (l : Launch) (D : va_G) (cI cB cZ cJ : ClassId) (tx : List (ClassId × FieldType)) (a : Nat → Nat) (y0 : Nat → Int32) (y1 : Nat → Int32) (y2 : Nat → Int32) (hs3 : ∀ i, i < 6 → sg3 (y2 i)) : RdI l D cI cB cZ cJ tx yX7_partingMost cX7_partingMost 3 (some .int) 3 [.ref (a 12)] [(a 12, .inr (7, [.ref (a 48), .ref (a 49), .ref (a 50)])), (a 48, .inl (cI, 36, .inl y0)), (a 49, .inl (cZ, 6, .inl y1)), (a 50, .inl (cI, 6, .inl y2))] (fun r => (r = -1 ∧ pmF y0 y2 y1 6 = -1) ∨ (∃ k : Nat, k < 6 ∧ r = nI k ∧ pmF y0 y2 y1 6 = nI k)) := by
  refine rdi_of2 (by decide) (Nat.le_of_ble_eq_true rfl) ?_
  intro p e s m below meth c A ls H locs hC hK hP hD hA hS hl
  obtain ⟨hx, hb, hr, hml, hown, hts, hlocks, hin⟩ := hC
  have hown : s.vm.findClass RX7 = some m.cls := hown
  have hl : lv_has ls 3 [(0, .ref (a 12))] := hl
  refine W_gQ (fun Q hQ => ?_)
  refine lv_iconst (v := (-1)) hx hb dX7_partingMost_0 (by decide) ?_
  refine lv_istore_n (lv' := [(1, .int (-1)), (0, .ref (a 12))]) hx hb dX7_partingMost_1 rfl hl (by decide) rfl (fun ls hl => ?_)
  refine lv_iconst (v := 0) hx hb dX7_partingMost_2 (by decide) ?_
  refine lv_istore_n (lv' := [(2, .int 0), (1, .int (-1)), (0, .ref (a 12))]) hx hb dX7_partingMost_3 rfl hl (by decide) rfl (fun ls hl => ?_)
  have lp4 : ∀ (k4 : Nat) (j1 : Nat) (bv : Int32) (H : Heap) (locs : List Loc) (ls : Array Slot), j1 ≤ 6 → 6 < j1 + k4 → (bv = -1 ∨ ∃ k : Nat, k < 6 ∧ bv = nI k) → (bv = pmF y0 y2 y1 j1) → va_P D vwCl [(a 12, .inr (7, [.ref (a 48), .ref (a 49), .ref (a 50)])), (a 48, .inl (cI, 36, .inl y0)), (a 49, .inl (cZ, 6, .inl y1)), (a 50, .inl (cI, 6, .inl y2))] H → va_S A s.heap H locs → lv_has ls 3 [(2, .int (nI j1)), (1, .int bv), (0, .ref (a 12))] → W p l e (rmX 3 0 0) s m ([.ref (a 12)] : List Value).toArray below meth c H locs 0 0 Q (F0 m 4 ls []) := by
    intro k4
    induction k4 with
    | zero =>
      intro j1 bv H locs ls hj4 hk4 hbv hpm hP hS hl
      exact absurd hk4 (by omega)
    | succ k4 ih4 =>
      intro j1 bv H locs ls hj4 hk4 hbv hpm hP hS hl
      refine lv_iload_n hx hb dX7_partingMost_4 rfl (lv_at hl 0 rfl) ?_
      refine lv_bipush (v := 6) hx hb dX7_partingMost_5 (by decide) ?_
      refine lv_icmp_ge (tgt := 44) hx hb dX7_partingMost_7 (by decide) (fun c_1 => ?_) (fun c_1 => ?_)
      · have n_2 : 6 ≤ j1 := (lf_X7_partingMost_f_3 a y0 y1 y2 hs3 j1 bv k4 hj4 hk4 hbv hpm c_1)
        refine lv_iload_n hx hb dX7_partingMost_44 rfl (lv_at hl 1 rfl) ?_
        rw [hQ]
        exact W.iret (v := bv) hx hb hr (fun tt9 ht hW => ⟨⟨(bv : Int32), (), rfl, (lf_X7_partingMost_f_4 a y0 y1 y2 hs3 j1 bv k4 hj4 hk4 hbv hpm c_1 n_2), trivial⟩, hS.F ht⟩) hS.2.2 dX7_partingMost_45 hlocks
      · have n_5 : j1 < 6 := (lf_X7_partingMost_f_6 a y0 y1 y2 hs3 j1 bv k4 hj4 hk4 hbv hpm c_1)
        refine lv_aload_n hx hb dX7_partingMost_10 rfl (lv_at hl 2 rfl) ?_
        refine va_get (D := D) (ci := 7) (v := .ref (a 50)) (C := RX7) (T := TX7) (N := 3) hx hb hts inT_X7 hown hK.1 hP 0 rfl rfl 2 (by decide) (hts _ k_474) (fun _ h9 => h9) rfl dX7_partingMost_11 ?_
        refine lv_iload_n hx hb dX7_partingMost_14 rfl (lv_at hl 0 rfl) ?_
        refine lt_i (j := j1) hx hb hK hP 3 rfl (lf_X7_partingMost_f_7 a y0 y1 y2 hs3 j1 bv k4 hj4 hk4 hbv hpm c_1 n_5) (by decide) dX7_partingMost_15 ?_
        refine lv_if_ge (tgt := 38) hx hb dX7_partingMost_16 (by decide) (fun c_8 => ?_) (fun c_8 => ?_)
        · refine lv_iinc (v := nI (j1 + 1)) (lv' := [(2, .int (nI (j1 + 1))), (1, .int bv), (0, .ref (a 12))]) hx hb dX7_partingMost_38 hl (k := 0) rfl (nI_1 j1) (by decide) rfl (fun ls hl => ?_)
          refine lv_goto (tgt := 4) hx hb dX7_partingMost_41 (by decide) ?_
          exact ih4 (j1 + 1) bv H locs ls (by omega) (by omega) (lf_X7_partingMost_f_9 a y0 y1 y2 hs3 j1 bv k4 hj4 hk4 hbv hpm c_1 n_5 c_8) (lf_X7_partingMost_f_10 a y0 y1 y2 hs3 j1 bv k4 hj4 hk4 hbv hpm c_1 n_5 c_8) (hP.sub [0, 1, 2, 3] rfl)  hS (lv_sub hl [0, 1, 2] rfl)
        · refine lv_iload_n hx hb dX7_partingMost_19 rfl (lv_at hl 1 rfl) ?_
          refine lv_if_lt (tgt := 36) hx hb dX7_partingMost_20 (by decide) (fun c_11 => ?_) (fun c_11 => ?_)
          · refine lv_iload_n hx hb dX7_partingMost_36 rfl (lv_at hl 0 rfl) ?_
            refine lv_istore_n (lv' := [(1, .int (nI j1)), (2, .int (nI j1)), (0, .ref (a 12))]) hx hb dX7_partingMost_37 rfl hl (by decide) rfl (fun ls hl => ?_)
            refine lv_iinc (v := nI (j1 + 1)) (lv' := [(2, .int (nI (j1 + 1))), (1, .int (nI j1)), (0, .ref (a 12))]) hx hb dX7_partingMost_38 hl (k := 1) rfl (nI_1 j1) (by decide) rfl (fun ls hl => ?_)
            refine lv_goto (tgt := 4) hx hb dX7_partingMost_41 (by decide) ?_
            exact ih4 (j1 + 1) (nI j1) H locs ls (by omega) (by omega) (lf_X7_partingMost_f_12 a y0 y1 y2 hs3 j1 bv k4 hj4 hk4 hbv hpm c_1 n_5 c_8 c_11) (lf_X7_partingMost_f_13 a y0 y1 y2 hs3 j1 bv k4 hj4 hk4 hbv hpm c_1 n_5 c_8 c_11) (hP.sub [0, 1, 2, 3] rfl)  hS (lv_sub hl [0, 1, 2] rfl)
          · obtain ⟨kq, hkq, ekq⟩ := best_of hbv c_11
            subst ekq
            refine lv_aload_n hx hb dX7_partingMost_23 rfl (lv_at hl 2 rfl) ?_
            refine lv_iload_n hx hb dX7_partingMost_24 rfl (lv_at hl 0 rfl) ?_
            refine eRi (va_runV (As := [.int (nI j1)]) (rest := []) ⟨hx, hb, hml, hown, hts⟩ (c_X7_parted_f l D cI cB cZ cJ tx a y0 y1 y2 j1 (lf_X7_partingMost_f_14 a y0 y1 y2 hs3 j1 (nI kq) k4 hj4 hk4 hbv hpm c_1 n_5 c_8 c_11 kq hkq rfl) (lf_X7_partingMost_f_15 a y0 y1 y2 hs3 j1 (nI kq) k4 hj4 hk4 hbv hpm c_1 n_5 c_8 c_11 kq hkq rfl) H.size) (zV hts k_1226 v_X7_parted ⟨Nat.le_of_ble_eq_true rfl, Nat.le_of_ble_eq_true rfl⟩) (pV (pxS hK hP hD [0, 1, 2, 3] (by decide) rfl) hK hP 0 rfl rfl) rfl rfl hl.1 rfl (lv_room (Nat.le_of_ble_eq_true rfl)) dX7_partingMost_25 ⟨Nat.le_of_ble_eq_true rfl, Nat.le_of_ble_eq_true rfl⟩) hP hS hA (fun r_16 H locs wr_16 hP hS => ?_)
            subst wr_16
            refine lv_aload_n hx hb dX7_partingMost_28 rfl (lv_at hl 2 rfl) ?_
            refine lv_iload_n hx hb dX7_partingMost_29 rfl (lv_at hl 1 rfl) ?_
            refine eRi (va_runV (As := [.int (nI kq)]) (rest := [.int (ptF y0 y2 y1 j1 6)]) ⟨hx, hb, hml, hown, hts⟩ (c_X7_parted_f l D cI cB cZ cJ tx a y0 y1 y2 kq (lf_X7_partingMost_f_17 a y0 y1 y2 hs3 j1 (nI kq) k4 hj4 hk4 hbv hpm c_1 n_5 c_8 c_11 kq hkq rfl) (lf_X7_partingMost_f_18 a y0 y1 y2 hs3 j1 (nI kq) k4 hj4 hk4 hbv hpm c_1 n_5 c_8 c_11 kq hkq rfl) H.size) (zV hts k_1226 v_X7_parted ⟨Nat.le_of_ble_eq_true rfl, Nat.le_of_ble_eq_true rfl⟩) (pV (pxS hK hP hD [0, 1, 2, 3] (by decide) rfl) hK hP 0 rfl rfl) rfl rfl hl.1 rfl (lv_room (Nat.le_of_ble_eq_true rfl)) dX7_partingMost_30 ⟨Nat.le_of_ble_eq_true rfl, Nat.le_of_ble_eq_true rfl⟩) hP hS hA (fun r_19 H locs wr_19 hP hS => ?_)
            subst wr_19
            refine lv_icmp_le (tgt := 38) hx hb dX7_partingMost_33 (by decide) (fun c_20 => ?_) (fun c_20 => ?_)
            · refine lv_iinc (v := nI (j1 + 1)) (lv' := [(2, .int (nI (j1 + 1))), (1, .int (nI kq)), (0, .ref (a 12))]) hx hb dX7_partingMost_38 hl (k := 0) rfl (nI_1 j1) (by decide) rfl (fun ls hl => ?_)
              refine lv_goto (tgt := 4) hx hb dX7_partingMost_41 (by decide) ?_
              exact ih4 (j1 + 1) (nI kq) H locs ls (by omega) (by omega) (lf_X7_partingMost_f_21 a y0 y1 y2 hs3 j1 (nI kq) k4 hj4 hk4 hbv hpm c_1 n_5 c_8 c_11 kq hkq rfl c_20) (lf_X7_partingMost_f_22 a y0 y1 y2 hs3 j1 (nI kq) k4 hj4 hk4 hbv hpm c_1 n_5 c_8 c_11 kq hkq rfl c_20) (hP.sub [0, 1, 2, 3] rfl)  hS (lv_sub hl [0, 1, 2] rfl)
            · refine lv_iload_n hx hb dX7_partingMost_36 rfl (lv_at hl 0 rfl) ?_
              refine lv_istore_n (lv' := [(1, .int (nI j1)), (2, .int (nI j1)), (0, .ref (a 12))]) hx hb dX7_partingMost_37 rfl hl (by decide) rfl (fun ls hl => ?_)
              refine lv_iinc (v := nI (j1 + 1)) (lv' := [(2, .int (nI (j1 + 1))), (1, .int (nI j1)), (0, .ref (a 12))]) hx hb dX7_partingMost_38 hl (k := 1) rfl (nI_1 j1) (by decide) rfl (fun ls hl => ?_)
              refine lv_goto (tgt := 4) hx hb dX7_partingMost_41 (by decide) ?_
              exact ih4 (j1 + 1) (nI j1) H locs ls (by omega) (by omega) (lf_X7_partingMost_f_23 a y0 y1 y2 hs3 j1 (nI kq) k4 hj4 hk4 hbv hpm c_1 n_5 c_8 c_11 kq hkq rfl c_20) (lf_X7_partingMost_f_24 a y0 y1 y2 hs3 j1 (nI kq) k4 hj4 hk4 hbv hpm c_1 n_5 c_8 c_11 kq hkq rfl c_20) (hP.sub [0, 1, 2, 3] rfl)  hS (lv_sub hl [0, 1, 2] rfl)
  exact lp4 (6 + 1) 0 (-1) H locs ls (by omega) (by omega) (lf_X7_partingMost_f_25 a y0 y1 y2 hs3) (lf_X7_partingMost_f_26 a y0 y1 y2 hs3) (hP.sub [0, 1, 2, 3] rfl)  hS (lv_sub hl [0, 1, 2] rfl)

theorem lf_X11_next_f_3 (a : Nat → Nat) (ap : Int32) (y0 : Nat → Int32) (y1 : Nat → Int32) (y2 : Nat → Int32) (n1 : Int32) (hs3 : ∀ i, i < 6 → sg3 (y2 i)) (c_2 : ¬ ((0 : Int32) ≤ n1 ∧ n1 ≤ 1)) : ((-1) : Int32) = nxF y0 y2 y1 n1 := by
  first | exact nxF_1 (by assumption) | exact nxF_2 (by assumption) | exact nxF_3 (by assumption) (by assumption) (by assumption) | exact nxF_4 (by assumption) (by assumption) (by assumption) (by assumption) (by assumption) (by assumption) | exact nxF_5 (by assumption) (by assumption) (by assumption) (by assumption) (by assumption) (by assumption) (by assumption)
theorem lf_X11_next_f_6 (a : Nat → Nat) (ap : Int32) (y0 : Nat → Int32) (y1 : Nat → Int32) (y2 : Nat → Int32) (n1 : Int32) (hs3 : ∀ i, i < 6 → sg3 (y2 i)) (c_2 : (0 : Int32) ≤ n1 ∧ n1 ≤ 1) (tn1 : Nat) (tn1a : 0 ≤ tn1) (tn1b : tn1 ≤ 1) (tn1e : n1 = nI tn1) (c_5 : ¬ tdF y1 6 = 0) : ∀ i, i < 6 → sg3 (y2 i) := by
  first | assumption | omega | decide
theorem lf_X11_next_f_8 (a : Nat → Nat) (ap : Int32) (y0 : Nat → Int32) (y1 : Nat → Int32) (y2 : Nat → Int32) (n1 : Int32) (hs3 : ∀ i, i < 6 → sg3 (y2 i)) (c_2 : (0 : Int32) ≤ n1 ∧ n1 ≤ 1) (tn1 : Nat) (tn1a : 0 ≤ tn1) (tn1b : tn1 ≤ 1) (tn1e : n1 = nI tn1) (c_5 : ¬ tdF y1 6 = 0) (hpm7 : pmF y0 y2 y1 6 = -1) : ((-1) : Int32) = nxF y0 y2 y1 n1 := by
  first | exact nxF_1 (by assumption) | exact nxF_2 (by assumption) | exact nxF_3 (by assumption) (by assumption) (by assumption) | exact nxF_4 (by assumption) (by assumption) (by assumption) (by assumption) (by assumption) (by assumption) | exact nxF_5 (by assumption) (by assumption) (by assumption) (by assumption) (by assumption) (by assumption) (by assumption)
theorem lf_X11_next_f_9 (a : Nat → Nat) (ap : Int32) (y0 : Nat → Int32) (y1 : Nat → Int32) (y2 : Nat → Int32) (n1 : Int32) (hs3 : ∀ i, i < 6 → sg3 (y2 i)) (c_2 : (0 : Int32) ≤ n1 ∧ n1 ≤ 1) (tn1 : Nat) (tn1a : 0 ≤ tn1) (tn1b : tn1 ≤ 1) (tn1e : n1 = nI tn1) (c_5 : ¬ tdF y1 6 = 0) (kb7 : Nat) (hkb7 : kb7 < 6) (hpm7 : pmF y0 y2 y1 6 = nI kb7) : 0 ≤ nI kb7 := by
  first | exact nI_pos (by omega) | exact nI_pos' (by omega)
theorem lf_X11_next_f_12 (a : Nat → Nat) (ap : Int32) (y0 : Nat → Int32) (y1 : Nat → Int32) (y2 : Nat → Int32) (n1 : Int32) (hs3 : ∀ i, i < 6 → sg3 (y2 i)) (c_2 : (0 : Int32) ≤ n1 ∧ n1 ≤ 1) (tn1 : Nat) (tn1a : 0 ≤ tn1) (tn1b : tn1 ≤ 1) (tn1e : n1 = nI tn1) (c_5 : ¬ tdF y1 6 = 0) (kb7 : Nat) (hkb7 : kb7 < 6) (hpm7 : pmF y0 y2 y1 6 = nI kb7) (c_10 : ¬ nI tn1 = 0) : tn1 ≠ 0 := by
  exact fun q => c_10 ((nI_eq (a := tn1) (b := 0) (by omega) (by omega)).mpr q)
theorem lf_X11_next_f_13 (a : Nat → Nat) (ap : Int32) (y0 : Nat → Int32) (y1 : Nat → Int32) (y2 : Nat → Int32) (n1 : Int32) (hs3 : ∀ i, i < 6 → sg3 (y2 i)) (c_2 : (0 : Int32) ≤ n1 ∧ n1 ≤ 1) (tn1 : Nat) (tn1a : 0 ≤ tn1) (tn1b : tn1 ≤ 1) (tn1e : n1 = nI tn1) (c_5 : ¬ tdF y1 6 = 0) (kb7 : Nat) (hkb7 : kb7 < 6) (hpm7 : pmF y0 y2 y1 6 = nI kb7) (c_10 : ¬ nI tn1 = 0) (n_11 : tn1 ≠ 0) : kb7 < 6 := by
  first | assumption | omega | decide
theorem lf_X11_next_f_14 (a : Nat → Nat) (ap : Int32) (y0 : Nat → Int32) (y1 : Nat → Int32) (y2 : Nat → Int32) (n1 : Int32) (hs3 : ∀ i, i < 6 → sg3 (y2 i)) (c_2 : (0 : Int32) ≤ n1 ∧ n1 ≤ 1) (tn1 : Nat) (tn1a : 0 ≤ tn1) (tn1b : tn1 ≤ 1) (tn1e : n1 = nI tn1) (c_5 : ¬ tdF y1 6 = 0) (kb7 : Nat) (hkb7 : kb7 < 6) (hpm7 : pmF y0 y2 y1 6 = nI kb7) (c_10 : ¬ nI tn1 = 0) (n_11 : tn1 ≠ 0) : ∀ i, i < 6 → sg3 (y2 i) := by
  first | assumption | omega | decide
theorem lf_X11_next_f_16 (a : Nat → Nat) (ap : Int32) (y0 : Nat → Int32) (y1 : Nat → Int32) (y2 : Nat → Int32) (n1 : Int32) (hs3 : ∀ i, i < 6 → sg3 (y2 i)) (c_2 : (0 : Int32) ≤ n1 ∧ n1 ≤ 1) (tn1 : Nat) (tn1a : 0 ≤ tn1) (tn1b : tn1 ≤ 1) (tn1e : n1 = nI tn1) (c_5 : ¬ tdF y1 6 = 0) (kb7 : Nat) (hkb7 : kb7 < 6) (hpm7 : pmF y0 y2 y1 6 = nI kb7) (c_10 : ¬ nI tn1 = 0) (n_11 : tn1 ≠ 0) : (ptF y0 y2 y1 kb7 6 : Int32) = nxF y0 y2 y1 n1 := by
  first | exact nxF_1 (by assumption) | exact nxF_2 (by assumption) | exact nxF_3 (by assumption) (by assumption) (by assumption) | exact nxF_4 (by assumption) (by assumption) (by assumption) (by assumption) (by assumption) (by assumption) | exact nxF_5 (by assumption) (by assumption) (by assumption) (by assumption) (by assumption) (by assumption) (by assumption)
theorem lf_X11_next_f_18 (a : Nat → Nat) (ap : Int32) (y0 : Nat → Int32) (y1 : Nat → Int32) (y2 : Nat → Int32) (n1 : Int32) (hs3 : ∀ i, i < 6 → sg3 (y2 i)) (c_2 : (0 : Int32) ≤ n1 ∧ n1 ≤ 1) (tn1 : Nat) (tn1a : 0 ≤ tn1) (tn1b : tn1 ≤ 1) (tn1e : n1 = nI tn1) (c_5 : ¬ tdF y1 6 = 0) (kb7 : Nat) (hkb7 : kb7 < 6) (hpm7 : pmF y0 y2 y1 6 = nI kb7) (c_10 : nI tn1 = 0) : tn1 = 0 := by
  exact (nI_eq (a := tn1) (b := 0) (by omega) (by omega)).mp c_10
theorem lf_X11_next_f_19 (a : Nat → Nat) (ap : Int32) (y0 : Nat → Int32) (y1 : Nat → Int32) (y2 : Nat → Int32) (n1 : Int32) (hs3 : ∀ i, i < 6 → sg3 (y2 i)) (c_2 : (0 : Int32) ≤ n1 ∧ n1 ≤ 1) (tn1 : Nat) (tn1a : 0 ≤ tn1) (tn1b : tn1 ≤ 1) (tn1e : n1 = nI tn1) (c_5 : ¬ tdF y1 6 = 0) (kb7 : Nat) (hkb7 : kb7 < 6) (hpm7 : pmF y0 y2 y1 6 = nI kb7) (c_10 : nI tn1 = 0) (n_17 : tn1 = 0) : (nI kb7 : Int32) = nxF y0 y2 y1 n1 := by
  first | exact nxF_1 (by assumption) | exact nxF_2 (by assumption) | exact nxF_3 (by assumption) (by assumption) (by assumption) | exact nxF_4 (by assumption) (by assumption) (by assumption) (by assumption) (by assumption) (by assumption) | exact nxF_5 (by assumption) (by assumption) (by assumption) (by assumption) (by assumption) (by assumption) (by assumption)
theorem lf_X11_next_f_20 (a : Nat → Nat) (ap : Int32) (y0 : Nat → Int32) (y1 : Nat → Int32) (y2 : Nat → Int32) (n1 : Int32) (hs3 : ∀ i, i < 6 → sg3 (y2 i)) (c_2 : (0 : Int32) ≤ n1 ∧ n1 ≤ 1) (tn1 : Nat) (tn1a : 0 ≤ tn1) (tn1b : tn1 ≤ 1) (tn1e : n1 = nI tn1) (c_5 : tdF y1 6 = 0) : ((-1) : Int32) = nxF y0 y2 y1 n1 := by
  first | exact nxF_1 (by assumption) | exact nxF_2 (by assumption) | exact nxF_3 (by assumption) (by assumption) (by assumption) | exact nxF_4 (by assumption) (by assumption) (by assumption) (by assumption) (by assumption) (by assumption) | exact nxF_5 (by assumption) (by assumption) (by assumption) (by assumption) (by assumption) (by assumption) (by assumption)
set_option maxHeartbeats 4000000 in
set_option maxRecDepth 100000 in
theorem c_X11_next_f (l : Launch) (D : va_G) (cI cB cZ cJ : ClassId) (tx : List (ClassId × FieldType)) (a : Nat → Nat) (ap : Int32) (y0 : Nat → Int32) (y1 : Nat → Int32) (y2 : Nat → Int32) (n1 : Int32) (hs3 : ∀ i, i < 6 → sg3 (y2 i)) : RdI l D cI cB cZ cJ tx yX11_next cX11_next 3 (some .int) 4 [.ref (a 0), .int n1] [(a 0, .inr (11, [.ref (a 1), .ref (a 2), .ref (a 3), .ref (a 4), .ref (a 5), .ref (a 6), .ref (a 7), .ref (a 8), .ref (a 9), .ref (a 10), .ref (a 11), .ref (a 12), .int ap])), (a 12, .inr (7, [.ref (a 48), .ref (a 49), .ref (a 50)])), (a 48, .inl (cI, 36, .inl y0)), (a 49, .inl (cZ, 6, .inl y1)), (a 50, .inl (cI, 6, .inl y2))] (fun r => r = nxF y0 y2 y1 n1) := by
  refine rdi_of2 (by decide) (Nat.le_of_ble_eq_true rfl) ?_
  intro p e s m below meth c A ls H locs hC hK hP hD hA hS hl
  obtain ⟨hx, hb, hr, hml, hown, hts, hlocks, hin⟩ := hC
  have hown : s.vm.findClass RX11 = some m.cls := hown
  have hl : lv_has ls 3 [(0, .ref (a 0)), (1, .int n1)] := hl
  refine W_gQ (fun Q hQ => ?_)
  refine lv_iload_n hx hb dX11_next_0 rfl (lv_at hl 1 rfl) ?_
  refine lv_iconst (v := 0) hx hb dX11_next_1 (by decide) ?_
  refine lv_iconst (v := 1) hx hb dX11_next_2 (by decide) ?_
  refine eRi (va_runS (As := [.int n1, .int 0, .int 1]) (rest := []) ⟨hx, hb, hml, hown, hts⟩ (c_X11_within l D cI cB cZ cJ tx n1 0 1 H.size) (zS hts k_527 v_X11_within ⟨Nat.le_of_ble_eq_true rfl, Nat.le_of_ble_eq_true rfl⟩) (px0 hK) rfl rfl hl.1 rfl (lv_room (Nat.le_of_ble_eq_true rfl)) dX11_next_3 ⟨Nat.le_of_ble_eq_true rfl, Nat.le_of_ble_eq_true rfl⟩) hP hS hA (fun r_1 H locs wr_1 hP hS => ?_)
  subst wr_1
  refine lv_bi_eq (tgt := 19) hx hb dX11_next_6 (by decide) (fun c_2 => ?_) (fun c_2 => ?_)
  · refine lv_iconst (v := (-1)) hx hb dX11_next_19 (by decide) ?_
    rw [hQ]
    exact W.iret (v := (-1)) hx hb hr (fun tt9 ht hW => ⟨⟨((-1) : Int32), (), rfl, (lf_X11_next_f_3 a ap y0 y1 y2 n1 hs3 c_2), trivial⟩, hS.F ht⟩) hS.2.2 dX11_next_20 hlocks
  · obtain ⟨tn1, tn1a, tn1b, tn1e⟩ := of_rng 0 1 rfl rfl c_2
    subst tn1e
    refine lv_aload_n hx hb dX11_next_9 rfl (lv_at hl 0 rfl) ?_
    refine va_get (D := D) (ci := 11) (v := .ref (a 12)) (C := RX11) (T := TX11) (N := 13) hx hb hts inT_X11 hown hK.1 hP 0 rfl rfl 11 (by decide) (hts _ k_494) (fun _ h9 => h9) rfl dX11_next_10 ?_
    refine eRi (va_runV (As := []) (rest := []) ⟨hx, hb, hml, hown, hts⟩ (c_X7_told_f l D cI cB cZ cJ tx a y1 H.size) (zV hts k_1218 v_X7_told ⟨Nat.le_of_ble_eq_true rfl, Nat.le_of_ble_eq_true rfl⟩) (pV (pxS hK hP hD [1, 3] (by decide) rfl) hK hP 1 rfl rfl) rfl rfl hl.1 rfl (lv_room (Nat.le_of_ble_eq_true rfl)) dX11_next_13 ⟨Nat.le_of_ble_eq_true rfl, Nat.le_of_ble_eq_true rfl⟩) hP hS hA (fun r_4 H locs wr_4 hP hS => ?_)
    subst wr_4
    refine lv_if_ne (tgt := 21) hx hb dX11_next_16 (by decide) (fun c_5 => ?_) (fun c_5 => ?_)
    · refine lv_aload_n hx hb dX11_next_21 rfl (lv_at hl 0 rfl) ?_
      refine va_get (D := D) (ci := 11) (v := .ref (a 12)) (C := RX11) (T := TX11) (N := 13) hx hb hts inT_X11 hown hK.1 hP 0 rfl rfl 11 (by decide) (hts _ k_494) (fun _ h9 => h9) rfl dX11_next_22 ?_
      refine eRi (va_runV (As := []) (rest := []) ⟨hx, hb, hml, hown, hts⟩ (c_X7_partingMost_f l D cI cB cZ cJ tx a y0 y1 y2 (lf_X11_next_f_6 a ap y0 y1 y2 (nI tn1) hs3 c_2 tn1 tn1a tn1b rfl c_5) H.size) (zV hts k_1222 v_X7_partingMost ⟨Nat.le_of_ble_eq_true rfl, Nat.le_of_ble_eq_true rfl⟩) (pV (pxS hK hP hD [1, 2, 3, 4] (by decide) rfl) hK hP 1 rfl rfl) rfl rfl hl.1 rfl (lv_room (Nat.le_of_ble_eq_true rfl)) dX11_next_25 ⟨Nat.le_of_ble_eq_true rfl, Nat.le_of_ble_eq_true rfl⟩) hP hS hA (fun r_7 H locs wr_7 hP hS => ?_)
      rcases wr_7 with ⟨rfl, hpm7⟩ | ⟨kb7, hkb7, rfl, hpm7⟩
      · refine lv_istore_n (lv' := [(2, .int (-1)), (0, .ref (a 0)), (1, .int (nI tn1))]) hx hb dX11_next_28 rfl hl (by decide) rfl (fun ls hl => ?_)
        refine lv_iload_n hx hb dX11_next_29 rfl (lv_at hl 0 rfl) ?_
        refine lv_if_ge (tgt := 35) hx hb dX11_next_30 (by decide) (fun c => absurd c (by decide)) (fun _ => ?_)
        refine lv_iconst (v := (-1)) hx hb dX11_next_33 (by decide) ?_
        rw [hQ]
        exact W.iret (v := (-1)) hx hb hr (fun tt9 ht hW => ⟨⟨((-1) : Int32), (), rfl, (lf_X11_next_f_8 a ap y0 y1 y2 (nI tn1) hs3 c_2 tn1 tn1a tn1b rfl c_5 hpm7), trivial⟩, hS.F ht⟩) hS.2.2 dX11_next_34 hlocks
      · refine lv_istore_n (lv' := [(2, .int (nI kb7)), (0, .ref (a 0)), (1, .int (nI tn1))]) hx hb dX11_next_28 rfl hl (by decide) rfl (fun ls hl => ?_)
        refine lv_iload_n hx hb dX11_next_29 rfl (lv_at hl 0 rfl) ?_
        refine lv_if_ge (tgt := 35) hx hb dX11_next_30 (by decide) (fun _ => ?_) (fun c => absurd (lf_X11_next_f_9 a ap y0 y1 y2 (nI tn1) hs3 c_2 tn1 tn1a tn1b rfl c_5 kb7 hkb7 hpm7) c)
        refine lv_iload_n hx hb dX11_next_35 rfl (lv_at hl 2 rfl) ?_
        refine lv_if_ne (tgt := 43) hx hb dX11_next_36 (by decide) (fun c_10 => ?_) (fun c_10 => ?_)
        · have n_11 : tn1 ≠ 0 := (lf_X11_next_f_12 a ap y0 y1 y2 (nI tn1) hs3 c_2 tn1 tn1a tn1b rfl c_5 kb7 hkb7 hpm7 c_10)
          refine lv_aload_n hx hb dX11_next_43 rfl (lv_at hl 1 rfl) ?_
          refine va_get (D := D) (ci := 11) (v := .ref (a 12)) (C := RX11) (T := TX11) (N := 13) hx hb hts inT_X11 hown hK.1 hP 0 rfl rfl 11 (by decide) (hts _ k_494) (fun _ h9 => h9) rfl dX11_next_44 ?_
          refine lv_iload_n hx hb dX11_next_47 rfl (lv_at hl 0 rfl) ?_
          refine eRi (va_runV (As := [.int (nI kb7)]) (rest := []) ⟨hx, hb, hml, hown, hts⟩ (c_X7_parted_f l D cI cB cZ cJ tx a y0 y1 y2 kb7 (lf_X11_next_f_13 a ap y0 y1 y2 (nI tn1) hs3 c_2 tn1 tn1a tn1b rfl c_5 kb7 hkb7 hpm7 c_10 n_11) (lf_X11_next_f_14 a ap y0 y1 y2 (nI tn1) hs3 c_2 tn1 tn1a tn1b rfl c_5 kb7 hkb7 hpm7 c_10 n_11) H.size) (zV hts k_1235 v_X7_parted ⟨Nat.le_of_ble_eq_true rfl, Nat.le_of_ble_eq_true rfl⟩) (pV (pxS hK hP hD [1, 2, 3, 4] (by decide) rfl) hK hP 1 rfl rfl) rfl rfl hl.1 rfl (lv_room (Nat.le_of_ble_eq_true rfl)) dX11_next_48 ⟨Nat.le_of_ble_eq_true rfl, Nat.le_of_ble_eq_true rfl⟩) hP hS hA (fun r_15 H locs wr_15 hP hS => ?_)
          subst wr_15
          rw [hQ]
          exact W.iret (v := ptF y0 y2 y1 kb7 6) hx hb hr (fun tt9 ht hW => ⟨⟨(ptF y0 y2 y1 kb7 6 : Int32), (), rfl, (lf_X11_next_f_16 a ap y0 y1 y2 (nI tn1) hs3 c_2 tn1 tn1a tn1b rfl c_5 kb7 hkb7 hpm7 c_10 n_11), trivial⟩, hS.F ht⟩) hS.2.2 dX11_next_51 hlocks
        · have n_17 : tn1 = 0 := (lf_X11_next_f_18 a ap y0 y1 y2 (nI tn1) hs3 c_2 tn1 tn1a tn1b rfl c_5 kb7 hkb7 hpm7 c_10)
          refine lv_iload_n hx hb dX11_next_39 rfl (lv_at hl 0 rfl) ?_
          refine lv_goto (tgt := 51) hx hb dX11_next_40 (by decide) ?_
          rw [hQ]
          exact W.iret (v := nI kb7) hx hb hr (fun tt9 ht hW => ⟨⟨(nI kb7 : Int32), (), rfl, (lf_X11_next_f_19 a ap y0 y1 y2 (nI tn1) hs3 c_2 tn1 tn1a tn1b rfl c_5 kb7 hkb7 hpm7 c_10 n_17), trivial⟩, hS.F ht⟩) hS.2.2 dX11_next_51 hlocks
    · refine lv_iconst (v := (-1)) hx hb dX11_next_19 (by decide) ?_
      rw [hQ]
      exact W.iret (v := (-1)) hx hb hr (fun tt9 ht hW => ⟨⟨((-1) : Int32), (), rfl, (lf_X11_next_f_20 a ap y0 y1 y2 (nI tn1) hs3 c_2 tn1 tn1a tn1b rfl c_5), trivial⟩, hS.F ht⟩) hS.2.2 dX11_next_20 hlocks

theorem lf_X12_plain_f_2 (n1 : Int32) (c_1 : 0 ≤ n1) : (n1 : Int32) = abF n1 := by
  first | exact abF_p (by assumption) | exact abF_n (by assumption) (by assumption)
theorem lf_X12_plain_f_4 (n1 : Int32) (c_1 : ¬ 0 ≤ n1) (x_3 : Int32) (ex_3 : x_3 = -n1) : (x_3 : Int32) = abF n1 := by
  first | exact abF_p (by assumption) | exact abF_n (by assumption) (by assumption)
set_option maxHeartbeats 4000000 in
set_option maxRecDepth 100000 in
theorem c_X12_plain_f (l : Launch) (D : va_G) (cI cB cZ cJ : ClassId) (tx : List (ClassId × FieldType)) (n1 : Int32) : RdI l D cI cB cZ cJ tx yX12_plain cX12_plain 1 (some .int) 0 [.int n1] [] (fun r => r = abF n1) := by
  refine rdi_of2 (by decide) (Nat.le_of_ble_eq_true rfl) ?_
  intro p e s m below meth c A ls H locs hC hK hP hD hA hS hl
  obtain ⟨hx, hb, hr, hml, hown, hts, hlocks, hin⟩ := hC
  have hown : s.vm.findClass RX12 = some m.cls := hown
  have hl : lv_has ls 1 [(0, .int n1)] := hl
  refine W_gQ (fun Q hQ => ?_)
  refine lv_iload_n hx hb dX12_plain_0 rfl (lv_at hl 0 rfl) ?_
  refine lv_if_ge (tgt := 9) hx hb dX12_plain_1 (by decide) (fun c_1 => ?_) (fun c_1 => ?_)
  · refine lv_iload_n hx hb dX12_plain_9 rfl (lv_at hl 0 rfl) ?_
    rw [hQ]
    exact W.iret (v := n1) hx hb hr (fun tt9 ht hW => ⟨⟨(n1 : Int32), (), rfl, (lf_X12_plain_f_2 n1 c_1), trivial⟩, hS.F ht⟩) hS.2.2 dX12_plain_10 hlocks
  · refine lv_iload_n hx hb dX12_plain_4 rfl (lv_at hl 0 rfl) ?_
    refine lv_ineg hx hb dX12_plain_5 ?_
    refine lv_topi (fun x_3 ex_3 => ?_)
    refine lv_goto (tgt := 10) hx hb dX12_plain_6 (by decide) ?_
    rw [hQ]
    exact W.iret (v := x_3) hx hb hr (fun tt9 ht hW => ⟨⟨(x_3 : Int32), (), rfl, (lf_X12_plain_f_4 n1 c_1 x_3 ex_3), trivial⟩, hS.F ht⟩) hS.2.2 dX12_plain_10 hlocks

theorem lf_X12_storiesTold_f_3 (h : Nat) (q : Nat → Nat) (im : Nat → Int32) (m_isStory : Nat → Int32) (j1 : Nat) (w1 : Int32) (k4 : Nat) (hj4 : j1 ≤ 6) (hk4 : 6 < j1 + (k4 + 1)) (hw : w1 = tdF m_isStory j1) (c_1 : 6 ≤ nI j1) : 6 ≤ j1 := by
  exact (nI_leI (a := 6) (b := j1) (by omega) (by omega)).mp c_1
theorem lf_X12_storiesTold_f_4 (h : Nat) (q : Nat → Nat) (im : Nat → Int32) (m_isStory : Nat → Int32) (j1 : Nat) (w1 : Int32) (k4 : Nat) (hj4 : j1 ≤ 6) (hk4 : 6 < j1 + (k4 + 1)) (hw : w1 = tdF m_isStory j1) (c_1 : 6 ≤ nI j1) (n_2 : 6 ≤ j1) : (w1 : Int32) = tdF m_isStory 6 := by
  exact at6 (F := fun i => tdF m_isStory i) (by assumption) (by assumption) (by assumption)
theorem lf_X12_storiesTold_f_6 (h : Nat) (q : Nat → Nat) (im : Nat → Int32) (m_isStory : Nat → Int32) (j1 : Nat) (w1 : Int32) (k4 : Nat) (hj4 : j1 ≤ 6) (hk4 : 6 < j1 + (k4 + 1)) (hw : w1 = tdF m_isStory j1) (c_1 : ¬ 6 ≤ nI j1) : j1 < 6 := by
  exact Nat.lt_of_not_le (fun q => c_1 ((nI_leI (a := 6) (b := j1) (by omega) (by omega)).mpr q))
theorem lf_X12_storiesTold_f_7 (h : Nat) (q : Nat → Nat) (im : Nat → Int32) (m_isStory : Nat → Int32) (j1 : Nat) (w1 : Int32) (k4 : Nat) (hj4 : j1 ≤ 6) (hk4 : 6 < j1 + (k4 + 1)) (hw : w1 = tdF m_isStory j1) (c_1 : ¬ 6 ≤ nI j1) (n_5 : j1 < 6) : j1 < 6 := by
  omega
theorem lf_X12_storiesTold_f_10 (h : Nat) (q : Nat → Nat) (im : Nat → Int32) (m_isStory : Nat → Int32) (j1 : Nat) (w1 : Int32) (k4 : Nat) (hj4 : j1 ≤ 6) (hk4 : 6 < j1 + (k4 + 1)) (hw : w1 = tdF m_isStory j1) (c_1 : ¬ 6 ≤ nI j1) (n_5 : j1 < 6) (c_8 : m_isStory j1 = 0) (x_9 : Int32) (ex_9 : x_9 = w1 + 0) : x_9 = tdF m_isStory (j1 + 1) := by
  first | rfl | exact tdF_n (by assumption) (by assumption) (by assumption) | exact tdF_y (by assumption) (by assumption) (by assumption)
theorem lf_X12_storiesTold_f_12 (h : Nat) (q : Nat → Nat) (im : Nat → Int32) (m_isStory : Nat → Int32) (j1 : Nat) (w1 : Int32) (k4 : Nat) (hj4 : j1 ≤ 6) (hk4 : 6 < j1 + (k4 + 1)) (hw : w1 = tdF m_isStory j1) (c_1 : ¬ 6 ≤ nI j1) (n_5 : j1 < 6) (c_8 : ¬ m_isStory j1 = 0) (x_11 : Int32) (ex_11 : x_11 = w1 + 1) : x_11 = tdF m_isStory (j1 + 1) := by
  first | rfl | exact tdF_n (by assumption) (by assumption) (by assumption) | exact tdF_y (by assumption) (by assumption) (by assumption)
theorem lf_X12_storiesTold_f_13 (h : Nat) (q : Nat → Nat) (im : Nat → Int32) (m_isStory : Nat → Int32) : (0 : Int32) = tdF m_isStory 0 := by
  first | rfl | exact tdF_n (by assumption) (by assumption) (by assumption) | exact tdF_y (by assumption) (by assumption) (by assumption)
set_option maxHeartbeats 4000000 in
set_option maxRecDepth 100000 in
theorem c_X12_storiesTold_f (l : Launch) (D : va_G) (cI cB cZ cJ : ClassId) (tx : List (ClassId × FieldType)) (h : Nat) (q : Nat → Nat) (im : Nat → Int32) (m_isStory : Nat → Int32) : RdI l D cI cB cZ cJ tx yX12_storiesTold cX12_storiesTold 3 (some .int) 0 [.ref h] [(h, .inr (12, mG q im)), (q 76, .inl (cZ, 6, .inl m_isStory))] (fun r => r = tdF m_isStory 6) := by
  refine rdi_of2 (by decide) (Nat.le_of_ble_eq_true rfl) ?_
  intro p e s m below meth c A ls H locs hC hK hP hD hA hS hl
  obtain ⟨hx, hb, hr, hml, hown, hts, hlocks, hin⟩ := hC
  have hown : s.vm.findClass RX12 = some m.cls := hown
  have hl : lv_has ls 3 [(0, .ref h)] := hl
  refine W_gQ (fun Q hQ => ?_)
  refine lv_iconst (v := 0) hx hb dX12_storiesTold_0 (by decide) ?_
  refine lv_istore_n (lv' := [(1, .int 0), (0, .ref h)]) hx hb dX12_storiesTold_1 rfl hl (by decide) rfl (fun ls hl => ?_)
  refine lv_iconst (v := 0) hx hb dX12_storiesTold_2 (by decide) ?_
  refine lv_istore_n (lv' := [(2, .int 0), (1, .int 0), (0, .ref h)]) hx hb dX12_storiesTold_3 rfl hl (by decide) rfl (fun ls hl => ?_)
  have lp4 : ∀ (k4 : Nat) (j1 : Nat) (w1 : Int32) (H : Heap) (locs : List Loc) (ls : Array Slot), j1 ≤ 6 → 6 < j1 + k4 → (w1 = tdF m_isStory j1) → va_P D vwCl [(h, .inr (12, mG q im)), (q 76, .inl (cZ, 6, .inl m_isStory))] H → va_S A s.heap H locs → lv_has ls 3 [(2, .int (nI j1)), (1, .int w1), (0, .ref h)] → W p l e (rmX 0 0 0) s m ([.ref h] : List Value).toArray below meth c H locs 0 0 Q (F0 m 4 ls []) := by
    intro k4
    induction k4 with
    | zero =>
      intro j1 w1 H locs ls hj4 hk4 hw hP hS hl
      exact absurd hk4 (by omega)
    | succ k4 ih4 =>
      intro j1 w1 H locs ls hj4 hk4 hw hP hS hl
      refine lv_iload_n hx hb dX12_storiesTold_4 rfl (lv_at hl 0 rfl) ?_
      refine lv_bipush (v := 6) hx hb dX12_storiesTold_5 (by decide) ?_
      refine lv_icmp_ge (tgt := 33) hx hb dX12_storiesTold_7 (by decide) (fun c_1 => ?_) (fun c_1 => ?_)
      · have n_2 : 6 ≤ j1 := (lf_X12_storiesTold_f_3 h q im m_isStory j1 w1 k4 hj4 hk4 hw c_1)
        refine lv_iload_n hx hb dX12_storiesTold_33 rfl (lv_at hl 1 rfl) ?_
        rw [hQ]
        exact W.iret (v := w1) hx hb hr (fun tt9 ht hW => ⟨⟨(w1 : Int32), (), rfl, (lf_X12_storiesTold_f_4 h q im m_isStory j1 w1 k4 hj4 hk4 hw c_1 n_2), trivial⟩, hS.F ht⟩) hS.2.2 dX12_storiesTold_34 hlocks
      · have n_5 : j1 < 6 := (lf_X12_storiesTold_f_6 h q im m_isStory j1 w1 k4 hj4 hk4 hw c_1)
        refine lv_iload_n hx hb dX12_storiesTold_10 rfl (lv_at hl 1 rfl) ?_
        refine lv_aload_n hx hb dX12_storiesTold_11 rfl (lv_at hl 2 rfl) ?_
        refine va_get (D := D) (ci := 12) (v := .ref (q 76)) (C := RX12) (T := TX12) (N := 81) hx hb hts inT_X12 hown hK.1 hP 0 rfl rfl 76 (by decide) (hts _ k_1429) (fun _ h9 => h9) rfl dX12_storiesTold_12 ?_
        refine lv_iload_n hx hb dX12_storiesTold_15 rfl (lv_at hl 0 rfl) ?_
        refine lt_z (j := j1) hx hb hK hP 1 rfl (lf_X12_storiesTold_f_7 h q im m_isStory j1 w1 k4 hj4 hk4 hw c_1 n_5) (by decide) dX12_storiesTold_16 ?_
        refine lv_if_eq (tgt := 24) hx hb dX12_storiesTold_17 (by decide) (fun c_8 => ?_) (fun c_8 => ?_)
        · refine lv_iconst (v := 0) hx hb dX12_storiesTold_24 (by decide) ?_
          refine lv_iadd hx hb dX12_storiesTold_25 ?_
          refine lv_topi (fun x_9 ex_9 => ?_)
          refine lv_istore_n (lv' := [(1, .int x_9), (2, .int (nI j1)), (0, .ref h)]) hx hb dX12_storiesTold_26 rfl hl (by decide) rfl (fun ls hl => ?_)
          refine lv_iinc (v := nI (j1 + 1)) (lv' := [(2, .int (nI (j1 + 1))), (1, .int x_9), (0, .ref h)]) hx hb dX12_storiesTold_27 hl (k := 1) rfl (nI_1 j1) (by decide) rfl (fun ls hl => ?_)
          refine lv_goto (tgt := 4) hx hb dX12_storiesTold_30 (by decide) ?_
          exact ih4 (j1 + 1) x_9 H locs ls (by omega) (by omega) (lf_X12_storiesTold_f_10 h q im m_isStory j1 w1 k4 hj4 hk4 hw c_1 n_5 c_8 x_9 ex_9) (hP.sub [0, 1] rfl)  hS (lv_sub hl [0, 1, 2] rfl)
        · refine lv_iconst (v := 1) hx hb dX12_storiesTold_20 (by decide) ?_
          refine lv_goto (tgt := 25) hx hb dX12_storiesTold_21 (by decide) ?_
          refine lv_iadd hx hb dX12_storiesTold_25 ?_
          refine lv_topi (fun x_11 ex_11 => ?_)
          refine lv_istore_n (lv' := [(1, .int x_11), (2, .int (nI j1)), (0, .ref h)]) hx hb dX12_storiesTold_26 rfl hl (by decide) rfl (fun ls hl => ?_)
          refine lv_iinc (v := nI (j1 + 1)) (lv' := [(2, .int (nI (j1 + 1))), (1, .int x_11), (0, .ref h)]) hx hb dX12_storiesTold_27 hl (k := 1) rfl (nI_1 j1) (by decide) rfl (fun ls hl => ?_)
          refine lv_goto (tgt := 4) hx hb dX12_storiesTold_30 (by decide) ?_
          exact ih4 (j1 + 1) x_11 H locs ls (by omega) (by omega) (lf_X12_storiesTold_f_12 h q im m_isStory j1 w1 k4 hj4 hk4 hw c_1 n_5 c_8 x_11 ex_11) (hP.sub [0, 1] rfl)  hS (lv_sub hl [0, 1, 2] rfl)
  exact lp4 (6 + 1) 0 0 H locs ls (by omega) (by omega) (lf_X12_storiesTold_f_13 h q im m_isStory) (hP.sub [0, 1] rfl)  hS (lv_sub hl [0, 1, 2] rfl)

theorem lf_X12_canBe_f_1 (h : Nat) (q : Nat → Nat) (im : Nat → Int32) (m_says : Nat → Int32) (m_isStory : Nat → Int32) (m_signSeen : Nat → Int32) (k1 : Nat) (hk1 : k1 < 6) : k1 < 6 := by
  omega
theorem lf_X12_canBe_f_3 (h : Nat) (q : Nat → Nat) (im : Nat → Int32) (m_says : Nat → Int32) (m_isStory : Nat → Int32) (m_signSeen : Nat → Int32) (k1 : Nat) (hk1 : k1 < 6) (c_2 : m_isStory k1 = 0) : ((0 : Int32) = 0 ∧ ¬ CN m_says m_signSeen m_isStory k1) ∨ ((0 : Int32) = 1 ∧ CN m_says m_signSeen m_isStory k1) := by
  first | exact Or.inl ⟨rfl, fun w => absurd (by assumption) w.1⟩ | exact Or.inl ⟨rfl, fun w => w.2 ((lg_cmp_eq _ _).mp (by assumption))⟩ | exact Or.inr ⟨rfl, by assumption, fun e => absurd ((lg_cmp_eq _ _).mpr e) (by assumption)⟩
theorem lf_X12_canBe_f_4 (h : Nat) (q : Nat → Nat) (im : Nat → Int32) (m_says : Nat → Int32) (m_isStory : Nat → Int32) (m_signSeen : Nat → Int32) (k1 : Nat) (hk1 : k1 < 6) (c_2 : ¬ m_isStory k1 = 0) : k1 < 6 := by
  first | assumption | omega | decide | rfl
theorem lf_X12_canBe_f_7 (h : Nat) (q : Nat → Nat) (im : Nat → Int32) (m_says : Nat → Int32) (m_isStory : Nat → Int32) (m_signSeen : Nat → Int32) (k1 : Nat) (hk1 : k1 < 6) (c_2 : ¬ m_isStory k1 = 0) (c_6 : lg_cmp (prodF m_says m_signSeen k1 6) 0 = 0) : ((0 : Int32) = 0 ∧ ¬ CN m_says m_signSeen m_isStory k1) ∨ ((0 : Int32) = 1 ∧ CN m_says m_signSeen m_isStory k1) := by
  first | exact Or.inl ⟨rfl, fun w => absurd (by assumption) w.1⟩ | exact Or.inl ⟨rfl, fun w => w.2 ((lg_cmp_eq _ _).mp (by assumption))⟩ | exact Or.inr ⟨rfl, by assumption, fun e => absurd ((lg_cmp_eq _ _).mpr e) (by assumption)⟩
theorem lf_X12_canBe_f_8 (h : Nat) (q : Nat → Nat) (im : Nat → Int32) (m_says : Nat → Int32) (m_isStory : Nat → Int32) (m_signSeen : Nat → Int32) (k1 : Nat) (hk1 : k1 < 6) (c_2 : ¬ m_isStory k1 = 0) (c_6 : ¬ lg_cmp (prodF m_says m_signSeen k1 6) 0 = 0) : ((1 : Int32) = 0 ∧ ¬ CN m_says m_signSeen m_isStory k1) ∨ ((1 : Int32) = 1 ∧ CN m_says m_signSeen m_isStory k1) := by
  first | exact Or.inl ⟨rfl, fun w => absurd (by assumption) w.1⟩ | exact Or.inl ⟨rfl, fun w => w.2 ((lg_cmp_eq _ _).mp (by assumption))⟩ | exact Or.inr ⟨rfl, by assumption, fun e => absurd ((lg_cmp_eq _ _).mpr e) (by assumption)⟩
set_option maxHeartbeats 4000000 in
set_option maxRecDepth 100000 in
theorem c_X12_canBe_f (l : Launch) (D : va_G) (cI cB cZ cJ : ClassId) (tx : List (ClassId × FieldType)) (h : Nat) (q : Nat → Nat) (im : Nat → Int32) (m_says : Nat → Int32) (m_isStory : Nat → Int32) (m_signSeen : Nat → Int32) (k1 : Nat) (hk1 : k1 < 6) : RdI l D cI cB cZ cJ tx yX12_canBe cX12_canBe 2 (some .boolean) 1 [.ref h, .int (nI k1)] [(h, .inr (12, mG q im)), (q 75, .inl (cI, 36, .inl m_says)), (q 76, .inl (cZ, 6, .inl m_isStory)), (q 77, .inl (cI, 6, .inl m_signSeen))] (fun r => (r = 0 ∧ ¬ CN m_says m_signSeen m_isStory k1) ∨ (r = 1 ∧ CN m_says m_signSeen m_isStory k1)) := by
  refine rdi_of2 (by decide) (Nat.le_of_ble_eq_true rfl) ?_
  intro p e s m below meth c A ls H locs hC hK hP hD hA hS hl
  obtain ⟨hx, hb, hr, hml, hown, hts, hlocks, hin⟩ := hC
  have hown : s.vm.findClass RX12 = some m.cls := hown
  have hl : lv_has ls 2 [(0, .ref h), (1, .int (nI k1))] := hl
  refine W_gQ (fun Q hQ => ?_)
  refine lv_aload_n hx hb dX12_canBe_0 rfl (lv_at hl 0 rfl) ?_
  refine va_get (D := D) (ci := 12) (v := .ref (q 76)) (C := RX12) (T := TX12) (N := 81) hx hb hts inT_X12 hown hK.1 hP 0 rfl rfl 76 (by decide) (hts _ k_1429) (fun _ h9 => h9) rfl dX12_canBe_1 ?_
  refine lv_iload_n hx hb dX12_canBe_4 rfl (lv_at hl 1 rfl) ?_
  refine lt_z (j := k1) hx hb hK hP 2 rfl (lf_X12_canBe_f_1 h q im m_says m_isStory m_signSeen k1 hk1) (by decide) dX12_canBe_5 ?_
  refine lv_if_eq (tgt := 23) hx hb dX12_canBe_6 (by decide) (fun c_2 => ?_) (fun c_2 => ?_)
  · refine lv_iconst (v := 0) hx hb dX12_canBe_23 (by decide) ?_
    rw [hQ]
    exact W.zret (v := 0) hx hb hr (by decide) (fun tt9 ht hW => ⟨⟨(0 : Int32), (), rfl, (lf_X12_canBe_f_3 h q im m_says m_isStory m_signSeen k1 hk1 c_2), trivial⟩, hS.F ht⟩) hS.2.2 dX12_canBe_24 hlocks
  · refine lv_aload_n hx hb dX12_canBe_9 rfl (lv_at hl 0 rfl) ?_
    refine lv_iload_n hx hb dX12_canBe_10 rfl (lv_at hl 1 rfl) ?_
    refine eRl (va_runV (As := [.int (nI k1)]) (rest := []) ⟨hx, hb, hml, hown, hts⟩ (c_X12_oddsOf_f l D cI cB cZ cJ tx h q im m_says m_signSeen k1 (lf_X12_canBe_f_4 h q im m_says m_isStory m_signSeen k1 hk1 c_2) H.size) (zV hts k_2034 v_X12_oddsOf ⟨Nat.le_of_ble_eq_true rfl, Nat.le_of_ble_eq_true rfl⟩) (pV (pxS hK hP hD [0, 1, 3] (by decide) rfl) hK hP 0 rfl rfl) rfl rfl hl.1 rfl (lv_room (Nat.le_of_ble_eq_true rfl)) dX12_canBe_11 ⟨Nat.le_of_ble_eq_true rfl, Nat.le_of_ble_eq_true rfl⟩) hP hS hA (fun r_5 H locs wr_5 hP hS => ?_)
    subst wr_5
    refine lv_lconst (v := 0) hx hb dX12_canBe_14 (by decide) ?_
    refine W.lcmp hx hb dX12_canBe_15 ?_
    refine lv_if_eq (tgt := 23) hx hb dX12_canBe_16 (by decide) (fun c_6 => ?_) (fun c_6 => ?_)
    · refine lv_iconst (v := 0) hx hb dX12_canBe_23 (by decide) ?_
      rw [hQ]
      exact W.zret (v := 0) hx hb hr (by decide) (fun tt9 ht hW => ⟨⟨(0 : Int32), (), rfl, (lf_X12_canBe_f_7 h q im m_says m_isStory m_signSeen k1 hk1 c_2 c_6), trivial⟩, hS.F ht⟩) hS.2.2 dX12_canBe_24 hlocks
    · refine lv_iconst (v := 1) hx hb dX12_canBe_19 (by decide) ?_
      refine lv_goto (tgt := 24) hx hb dX12_canBe_20 (by decide) ?_
      rw [hQ]
      exact W.zret (v := 1) hx hb hr (by decide) (fun tt9 ht hW => ⟨⟨(1 : Int32), (), rfl, (lf_X12_canBe_f_8 h q im m_says m_isStory m_signSeen k1 hk1 c_2 c_6), trivial⟩, hS.F ht⟩) hS.2.2 dX12_canBe_24 hlocks

theorem lf_X12_next_f_3 (h : Nat) (q : Nat → Nat) (im : Nat → Int32) (m_says : Nat → Int32) (m_isStory : Nat → Int32) (m_signSeen : Nat → Int32) (n1 : Int32) (c_2 : ¬ ((0 : Int32) ≤ n1 ∧ n1 ≤ 1)) : ((-1) : Int32) = nxF m_says m_signSeen m_isStory n1 := by
  first | exact nxF_1 (by assumption) | exact nxF_2 (by assumption) | exact nx_1 (by assumption) (by assumption) (by assumption) (by assumption) (by assumption) (by assumption) | exact nx_2 (by assumption) (by assumption) (by assumption) (by assumption) (by assumption) (by assumption) (by assumption) (by assumption) (by assumption) | exact nx_3 (by assumption) (by assumption) (by assumption) (by assumption) (by assumption) (by assumption) (by assumption) (by assumption) (by assumption) (by assumption)
theorem lf_X12_next_f_8 (h : Nat) (q : Nat → Nat) (im : Nat → Int32) (m_says : Nat → Int32) (m_isStory : Nat → Int32) (m_signSeen : Nat → Int32) (n1 : Int32) (c_2 : (0 : Int32) ≤ n1 ∧ n1 ≤ 1) (tn1 : Nat) (tn1a : 0 ≤ tn1) (tn1b : tn1 ≤ 1) (tn1e : n1 = nI tn1) (c_5 : ¬ tdF m_isStory 6 = 0) (j1 : Nat) (w1 : Int32) (w2 : Int32) (k26 : Nat) (hj26 : j1 ≤ 6) (hk26 : 6 < j1 + (k26 + 1)) (hpm : w1 = pmF m_says m_signSeen m_isStory j1) (hms : MS m_says m_signSeen m_isStory w1 w2) (c_6 : 6 ≤ nI j1) : 6 ≤ j1 := by
  exact (nI_leI (a := 6) (b := j1) (by omega) (by omega)).mp c_6
theorem lf_X12_next_f_10 (h : Nat) (q : Nat → Nat) (im : Nat → Int32) (m_says : Nat → Int32) (m_isStory : Nat → Int32) (m_signSeen : Nat → Int32) (n1 : Int32) (c_2 : (0 : Int32) ≤ n1 ∧ n1 ≤ 1) (tn1 : Nat) (tn1a : 0 ≤ tn1) (tn1b : tn1 ≤ 1) (tn1e : n1 = nI tn1) (c_5 : ¬ tdF m_isStory 6 = 0) (j1 : Nat) (w1 : Int32) (w2 : Int32) (k26 : Nat) (hj26 : j1 ≤ 6) (hk26 : 6 < j1 + (k26 + 1)) (hpm : w1 = pmF m_says m_signSeen m_isStory j1) (hms : MS m_says m_signSeen m_isStory w1 w2) (c_6 : 6 ≤ nI j1) (n_7 : 6 ≤ j1) (c_9 : w1 = (-1)) : (w1 : Int32) = nxF m_says m_signSeen m_isStory n1 := by
  first | exact nxF_1 (by assumption) | exact nxF_2 (by assumption) | exact nx_1 (by assumption) (by assumption) (by assumption) (by assumption) (by assumption) (by assumption) | exact nx_2 (by assumption) (by assumption) (by assumption) (by assumption) (by assumption) (by assumption) (by assumption) (by assumption) (by assumption) | exact nx_3 (by assumption) (by assumption) (by assumption) (by assumption) (by assumption) (by assumption) (by assumption) (by assumption) (by assumption) (by assumption)
theorem lf_X12_next_f_13 (h : Nat) (q : Nat → Nat) (im : Nat → Int32) (m_says : Nat → Int32) (m_isStory : Nat → Int32) (m_signSeen : Nat → Int32) (n1 : Int32) (c_2 : (0 : Int32) ≤ n1 ∧ n1 ≤ 1) (tn1 : Nat) (tn1a : 0 ≤ tn1) (tn1b : tn1 ≤ 1) (tn1e : n1 = nI tn1) (c_5 : ¬ tdF m_isStory 6 = 0) (j1 : Nat) (w1 : Int32) (w2 : Int32) (k26 : Nat) (hj26 : j1 ≤ 6) (hk26 : 6 < j1 + (k26 + 1)) (hpm : w1 = pmF m_says m_signSeen m_isStory j1) (hms : MS m_says m_signSeen m_isStory w1 w2) (c_6 : 6 ≤ nI j1) (n_7 : 6 ≤ j1) (c_9 : ¬ w1 = (-1)) (c_11 : ¬ nI tn1 = 0) : tn1 ≠ 0 := by
  exact fun q => c_11 ((nI_eq (a := tn1) (b := 0) (by omega) (by omega)).mpr q)
theorem lf_X12_next_f_14 (h : Nat) (q : Nat → Nat) (im : Nat → Int32) (m_says : Nat → Int32) (m_isStory : Nat → Int32) (m_signSeen : Nat → Int32) (n1 : Int32) (c_2 : (0 : Int32) ≤ n1 ∧ n1 ≤ 1) (tn1 : Nat) (tn1a : 0 ≤ tn1) (tn1b : tn1 ≤ 1) (tn1e : n1 = nI tn1) (c_5 : ¬ tdF m_isStory 6 = 0) (j1 : Nat) (w1 : Int32) (w2 : Int32) (k26 : Nat) (hj26 : j1 ≤ 6) (hk26 : 6 < j1 + (k26 + 1)) (hpm : w1 = pmF m_says m_signSeen m_isStory j1) (hms : MS m_says m_signSeen m_isStory w1 w2) (c_6 : 6 ≤ nI j1) (n_7 : 6 ≤ j1) (c_9 : ¬ w1 = (-1)) (c_11 : ¬ nI tn1 = 0) (n_12 : tn1 ≠ 0) : (w2 : Int32) = nxF m_says m_signSeen m_isStory n1 := by
  first | exact nxF_1 (by assumption) | exact nxF_2 (by assumption) | exact nx_1 (by assumption) (by assumption) (by assumption) (by assumption) (by assumption) (by assumption) | exact nx_2 (by assumption) (by assumption) (by assumption) (by assumption) (by assumption) (by assumption) (by assumption) (by assumption) (by assumption) | exact nx_3 (by assumption) (by assumption) (by assumption) (by assumption) (by assumption) (by assumption) (by assumption) (by assumption) (by assumption) (by assumption)
theorem lf_X12_next_f_16 (h : Nat) (q : Nat → Nat) (im : Nat → Int32) (m_says : Nat → Int32) (m_isStory : Nat → Int32) (m_signSeen : Nat → Int32) (n1 : Int32) (c_2 : (0 : Int32) ≤ n1 ∧ n1 ≤ 1) (tn1 : Nat) (tn1a : 0 ≤ tn1) (tn1b : tn1 ≤ 1) (tn1e : n1 = nI tn1) (c_5 : ¬ tdF m_isStory 6 = 0) (j1 : Nat) (w1 : Int32) (w2 : Int32) (k26 : Nat) (hj26 : j1 ≤ 6) (hk26 : 6 < j1 + (k26 + 1)) (hpm : w1 = pmF m_says m_signSeen m_isStory j1) (hms : MS m_says m_signSeen m_isStory w1 w2) (c_6 : 6 ≤ nI j1) (n_7 : 6 ≤ j1) (c_9 : ¬ w1 = (-1)) (c_11 : nI tn1 = 0) : tn1 = 0 := by
  exact (nI_eq (a := tn1) (b := 0) (by omega) (by omega)).mp c_11
theorem lf_X12_next_f_17 (h : Nat) (q : Nat → Nat) (im : Nat → Int32) (m_says : Nat → Int32) (m_isStory : Nat → Int32) (m_signSeen : Nat → Int32) (n1 : Int32) (c_2 : (0 : Int32) ≤ n1 ∧ n1 ≤ 1) (tn1 : Nat) (tn1a : 0 ≤ tn1) (tn1b : tn1 ≤ 1) (tn1e : n1 = nI tn1) (c_5 : ¬ tdF m_isStory 6 = 0) (j1 : Nat) (w1 : Int32) (w2 : Int32) (k26 : Nat) (hj26 : j1 ≤ 6) (hk26 : 6 < j1 + (k26 + 1)) (hpm : w1 = pmF m_says m_signSeen m_isStory j1) (hms : MS m_says m_signSeen m_isStory w1 w2) (c_6 : 6 ≤ nI j1) (n_7 : 6 ≤ j1) (c_9 : ¬ w1 = (-1)) (c_11 : nI tn1 = 0) (n_15 : tn1 = 0) : (w1 : Int32) = nxF m_says m_signSeen m_isStory n1 := by
  first | exact nxF_1 (by assumption) | exact nxF_2 (by assumption) | exact nx_1 (by assumption) (by assumption) (by assumption) (by assumption) (by assumption) (by assumption) | exact nx_2 (by assumption) (by assumption) (by assumption) (by assumption) (by assumption) (by assumption) (by assumption) (by assumption) (by assumption) | exact nx_3 (by assumption) (by assumption) (by assumption) (by assumption) (by assumption) (by assumption) (by assumption) (by assumption) (by assumption) (by assumption)
theorem lf_X12_next_f_19 (h : Nat) (q : Nat → Nat) (im : Nat → Int32) (m_says : Nat → Int32) (m_isStory : Nat → Int32) (m_signSeen : Nat → Int32) (n1 : Int32) (c_2 : (0 : Int32) ≤ n1 ∧ n1 ≤ 1) (tn1 : Nat) (tn1a : 0 ≤ tn1) (tn1b : tn1 ≤ 1) (tn1e : n1 = nI tn1) (c_5 : ¬ tdF m_isStory 6 = 0) (j1 : Nat) (w1 : Int32) (w2 : Int32) (k26 : Nat) (hj26 : j1 ≤ 6) (hk26 : 6 < j1 + (k26 + 1)) (hpm : w1 = pmF m_says m_signSeen m_isStory j1) (hms : MS m_says m_signSeen m_isStory w1 w2) (c_6 : ¬ 6 ≤ nI j1) : j1 < 6 := by
  exact Nat.lt_of_not_le (fun q => c_6 ((nI_leI (a := 6) (b := j1) (by omega) (by omega)).mpr q))
theorem lf_X12_next_f_20 (h : Nat) (q : Nat → Nat) (im : Nat → Int32) (m_says : Nat → Int32) (m_isStory : Nat → Int32) (m_signSeen : Nat → Int32) (n1 : Int32) (c_2 : (0 : Int32) ≤ n1 ∧ n1 ≤ 1) (tn1 : Nat) (tn1a : 0 ≤ tn1) (tn1b : tn1 ≤ 1) (tn1e : n1 = nI tn1) (c_5 : ¬ tdF m_isStory 6 = 0) (j1 : Nat) (w1 : Int32) (w2 : Int32) (k26 : Nat) (hj26 : j1 ≤ 6) (hk26 : 6 < j1 + (k26 + 1)) (hpm : w1 = pmF m_says m_signSeen m_isStory j1) (hms : MS m_says m_signSeen m_isStory w1 w2) (c_6 : ¬ 6 ≤ nI j1) (n_18 : j1 < 6) : j1 < 6 := by
  omega
theorem lf_X12_next_f_24 (h : Nat) (q : Nat → Nat) (im : Nat → Int32) (m_says : Nat → Int32) (m_isStory : Nat → Int32) (m_signSeen : Nat → Int32) (n1 : Int32) (c_2 : (0 : Int32) ≤ n1 ∧ n1 ≤ 1) (tn1 : Nat) (tn1a : 0 ≤ tn1) (tn1b : tn1 ≤ 1) (tn1e : n1 = nI tn1) (c_5 : ¬ tdF m_isStory 6 = 0) (j1 : Nat) (w1 : Int32) (w2 : Int32) (k26 : Nat) (hj26 : j1 ≤ 6) (hk26 : 6 < j1 + (k26 + 1)) (hpm : w1 = pmF m_says m_signSeen m_isStory j1) (hms : MS m_says m_signSeen m_isStory w1 w2) (c_6 : ¬ 6 ≤ nI j1) (n_18 : j1 < 6) (c_21 : m_signSeen j1 = (-1)) (j2 : Nat) (w3 : Int32) (k53 : Nat) (hj53 : j2 ≤ 6) (hk53 : 6 < j2 + (k53 + 1)) (hw3 : w3 = ptF m_says m_signSeen m_isStory j1 j2) (c_22 : 6 ≤ nI j2) : 6 ≤ j2 := by
  exact (nI_leI (a := 6) (b := j2) (by omega) (by omega)).mp c_22
theorem lf_X12_next_f_26 (h : Nat) (q : Nat → Nat) (im : Nat → Int32) (m_says : Nat → Int32) (m_isStory : Nat → Int32) (m_signSeen : Nat → Int32) (n1 : Int32) (c_2 : (0 : Int32) ≤ n1 ∧ n1 ≤ 1) (tn1 : Nat) (tn1a : 0 ≤ tn1) (tn1b : tn1 ≤ 1) (tn1e : n1 = nI tn1) (c_5 : ¬ tdF m_isStory 6 = 0) (j1 : Nat) (w1 : Int32) (w2 : Int32) (k26 : Nat) (hj26 : j1 ≤ 6) (hk26 : 6 < j1 + (k26 + 1)) (hpm : w1 = pmF m_says m_signSeen m_isStory j1) (hms : MS m_says m_signSeen m_isStory w1 w2) (c_6 : ¬ 6 ≤ nI j1) (n_18 : j1 < 6) (c_21 : m_signSeen j1 = (-1)) (j2 : Nat) (w3 : Int32) (k53 : Nat) (hj53 : j2 ≤ 6) (hk53 : 6 < j2 + (k53 + 1)) (hw3 : w3 = ptF m_says m_signSeen m_isStory j1 j2) (c_22 : 6 ≤ nI j2) (n_23 : 6 ≤ j2) (c_25 : w1 = (-1)) : (nI j1) = pmF m_says m_signSeen m_isStory (j1 + 1) := by
  first | rfl | exact Or.inl ⟨rfl, rfl⟩ | exact ptI_z (by assumption) (by assumption) (by assumption) (by assumption) (by assumption) | exact ptI_m1 (by assumption) (by assumption) (by assumption) | exact ptI_m2 (by assumption) (by assumption) (by assumption) | exact ptF_s (by assumption) (by assumption) (by assumption) (by assumption) | exact pmF_n0 (by assumption) (by assumption) | exact pmF_y0 (by assumption) (by assumption) (by assumption) | exact rn_b (by assumption) (by assumption) (by assumption) (by assumption) (by assumption) (by assumption) (by assumption) (by assumption) | exact rn_c (by assumption) (by assumption) (by assumption) (by assumption) (by assumption) (by assumption) (by assumption) | exact MS_n (by assumption) (by assumption) (by assumption) (by assumption) | assumption
theorem lf_X12_next_f_27 (h : Nat) (q : Nat → Nat) (im : Nat → Int32) (m_says : Nat → Int32) (m_isStory : Nat → Int32) (m_signSeen : Nat → Int32) (n1 : Int32) (c_2 : (0 : Int32) ≤ n1 ∧ n1 ≤ 1) (tn1 : Nat) (tn1a : 0 ≤ tn1) (tn1b : tn1 ≤ 1) (tn1e : n1 = nI tn1) (c_5 : ¬ tdF m_isStory 6 = 0) (j1 : Nat) (w1 : Int32) (w2 : Int32) (k26 : Nat) (hj26 : j1 ≤ 6) (hk26 : 6 < j1 + (k26 + 1)) (hpm : w1 = pmF m_says m_signSeen m_isStory j1) (hms : MS m_says m_signSeen m_isStory w1 w2) (c_6 : ¬ 6 ≤ nI j1) (n_18 : j1 < 6) (c_21 : m_signSeen j1 = (-1)) (j2 : Nat) (w3 : Int32) (k53 : Nat) (hj53 : j2 ≤ 6) (hk53 : 6 < j2 + (k53 + 1)) (hw3 : w3 = ptF m_says m_signSeen m_isStory j1 j2) (c_22 : 6 ≤ nI j2) (n_23 : 6 ≤ j2) (c_25 : w1 = (-1)) : MS m_says m_signSeen m_isStory (nI j1) w3 := by
  first | rfl | exact Or.inl ⟨rfl, rfl⟩ | exact ptI_z (by assumption) (by assumption) (by assumption) (by assumption) (by assumption) | exact ptI_m1 (by assumption) (by assumption) (by assumption) | exact ptI_m2 (by assumption) (by assumption) (by assumption) | exact ptF_s (by assumption) (by assumption) (by assumption) (by assumption) | exact pmF_n0 (by assumption) (by assumption) | exact pmF_y0 (by assumption) (by assumption) (by assumption) | exact rn_b (by assumption) (by assumption) (by assumption) (by assumption) (by assumption) (by assumption) (by assumption) (by assumption) | exact rn_c (by assumption) (by assumption) (by assumption) (by assumption) (by assumption) (by assumption) (by assumption) | exact MS_n (by assumption) (by assumption) (by assumption) (by assumption) | assumption
theorem lf_X12_next_f_29 (h : Nat) (q : Nat → Nat) (im : Nat → Int32) (m_says : Nat → Int32) (m_isStory : Nat → Int32) (m_signSeen : Nat → Int32) (n1 : Int32) (c_2 : (0 : Int32) ≤ n1 ∧ n1 ≤ 1) (tn1 : Nat) (tn1a : 0 ≤ tn1) (tn1b : tn1 ≤ 1) (tn1e : n1 = nI tn1) (c_5 : ¬ tdF m_isStory 6 = 0) (j1 : Nat) (w1 : Int32) (w2 : Int32) (k26 : Nat) (hj26 : j1 ≤ 6) (hk26 : 6 < j1 + (k26 + 1)) (hpm : w1 = pmF m_says m_signSeen m_isStory j1) (hms : MS m_says m_signSeen m_isStory w1 w2) (c_6 : ¬ 6 ≤ nI j1) (n_18 : j1 < 6) (c_21 : m_signSeen j1 = (-1)) (j2 : Nat) (w3 : Int32) (k53 : Nat) (hj53 : j2 ≤ 6) (hk53 : 6 < j2 + (k53 + 1)) (hw3 : w3 = ptF m_says m_signSeen m_isStory j1 j2) (c_22 : 6 ≤ nI j2) (n_23 : 6 ≤ j2) (c_25 : ¬ w1 = (-1)) (c_28 : w2 < w3) : (nI j1) = pmF m_says m_signSeen m_isStory (j1 + 1) := by
  first | rfl | exact Or.inl ⟨rfl, rfl⟩ | exact ptI_z (by assumption) (by assumption) (by assumption) (by assumption) (by assumption) | exact ptI_m1 (by assumption) (by assumption) (by assumption) | exact ptI_m2 (by assumption) (by assumption) (by assumption) | exact ptF_s (by assumption) (by assumption) (by assumption) (by assumption) | exact pmF_n0 (by assumption) (by assumption) | exact pmF_y0 (by assumption) (by assumption) (by assumption) | exact rn_b (by assumption) (by assumption) (by assumption) (by assumption) (by assumption) (by assumption) (by assumption) (by assumption) | exact rn_c (by assumption) (by assumption) (by assumption) (by assumption) (by assumption) (by assumption) (by assumption) | exact MS_n (by assumption) (by assumption) (by assumption) (by assumption) | assumption
theorem lf_X12_next_f_30 (h : Nat) (q : Nat → Nat) (im : Nat → Int32) (m_says : Nat → Int32) (m_isStory : Nat → Int32) (m_signSeen : Nat → Int32) (n1 : Int32) (c_2 : (0 : Int32) ≤ n1 ∧ n1 ≤ 1) (tn1 : Nat) (tn1a : 0 ≤ tn1) (tn1b : tn1 ≤ 1) (tn1e : n1 = nI tn1) (c_5 : ¬ tdF m_isStory 6 = 0) (j1 : Nat) (w1 : Int32) (w2 : Int32) (k26 : Nat) (hj26 : j1 ≤ 6) (hk26 : 6 < j1 + (k26 + 1)) (hpm : w1 = pmF m_says m_signSeen m_isStory j1) (hms : MS m_says m_signSeen m_isStory w1 w2) (c_6 : ¬ 6 ≤ nI j1) (n_18 : j1 < 6) (c_21 : m_signSeen j1 = (-1)) (j2 : Nat) (w3 : Int32) (k53 : Nat) (hj53 : j2 ≤ 6) (hk53 : 6 < j2 + (k53 + 1)) (hw3 : w3 = ptF m_says m_signSeen m_isStory j1 j2) (c_22 : 6 ≤ nI j2) (n_23 : 6 ≤ j2) (c_25 : ¬ w1 = (-1)) (c_28 : w2 < w3) : MS m_says m_signSeen m_isStory (nI j1) w3 := by
  first | rfl | exact Or.inl ⟨rfl, rfl⟩ | exact ptI_z (by assumption) (by assumption) (by assumption) (by assumption) (by assumption) | exact ptI_m1 (by assumption) (by assumption) (by assumption) | exact ptI_m2 (by assumption) (by assumption) (by assumption) | exact ptF_s (by assumption) (by assumption) (by assumption) (by assumption) | exact pmF_n0 (by assumption) (by assumption) | exact pmF_y0 (by assumption) (by assumption) (by assumption) | exact rn_b (by assumption) (by assumption) (by assumption) (by assumption) (by assumption) (by assumption) (by assumption) (by assumption) | exact rn_c (by assumption) (by assumption) (by assumption) (by assumption) (by assumption) (by assumption) (by assumption) | exact MS_n (by assumption) (by assumption) (by assumption) (by assumption) | assumption
theorem lf_X12_next_f_31 (h : Nat) (q : Nat → Nat) (im : Nat → Int32) (m_says : Nat → Int32) (m_isStory : Nat → Int32) (m_signSeen : Nat → Int32) (n1 : Int32) (c_2 : (0 : Int32) ≤ n1 ∧ n1 ≤ 1) (tn1 : Nat) (tn1a : 0 ≤ tn1) (tn1b : tn1 ≤ 1) (tn1e : n1 = nI tn1) (c_5 : ¬ tdF m_isStory 6 = 0) (j1 : Nat) (w1 : Int32) (w2 : Int32) (k26 : Nat) (hj26 : j1 ≤ 6) (hk26 : 6 < j1 + (k26 + 1)) (hpm : w1 = pmF m_says m_signSeen m_isStory j1) (hms : MS m_says m_signSeen m_isStory w1 w2) (c_6 : ¬ 6 ≤ nI j1) (n_18 : j1 < 6) (c_21 : m_signSeen j1 = (-1)) (j2 : Nat) (w3 : Int32) (k53 : Nat) (hj53 : j2 ≤ 6) (hk53 : 6 < j2 + (k53 + 1)) (hw3 : w3 = ptF m_says m_signSeen m_isStory j1 j2) (c_22 : 6 ≤ nI j2) (n_23 : 6 ≤ j2) (c_25 : ¬ w1 = (-1)) (c_28 : ¬ w2 < w3) : w1 = pmF m_says m_signSeen m_isStory (j1 + 1) := by
  first | rfl | exact Or.inl ⟨rfl, rfl⟩ | exact ptI_z (by assumption) (by assumption) (by assumption) (by assumption) (by assumption) | exact ptI_m1 (by assumption) (by assumption) (by assumption) | exact ptI_m2 (by assumption) (by assumption) (by assumption) | exact ptF_s (by assumption) (by assumption) (by assumption) (by assumption) | exact pmF_n0 (by assumption) (by assumption) | exact pmF_y0 (by assumption) (by assumption) (by assumption) | exact rn_b (by assumption) (by assumption) (by assumption) (by assumption) (by assumption) (by assumption) (by assumption) (by assumption) | exact rn_c (by assumption) (by assumption) (by assumption) (by assumption) (by assumption) (by assumption) (by assumption) | exact MS_n (by assumption) (by assumption) (by assumption) (by assumption) | assumption
theorem lf_X12_next_f_32 (h : Nat) (q : Nat → Nat) (im : Nat → Int32) (m_says : Nat → Int32) (m_isStory : Nat → Int32) (m_signSeen : Nat → Int32) (n1 : Int32) (c_2 : (0 : Int32) ≤ n1 ∧ n1 ≤ 1) (tn1 : Nat) (tn1a : 0 ≤ tn1) (tn1b : tn1 ≤ 1) (tn1e : n1 = nI tn1) (c_5 : ¬ tdF m_isStory 6 = 0) (j1 : Nat) (w1 : Int32) (w2 : Int32) (k26 : Nat) (hj26 : j1 ≤ 6) (hk26 : 6 < j1 + (k26 + 1)) (hpm : w1 = pmF m_says m_signSeen m_isStory j1) (hms : MS m_says m_signSeen m_isStory w1 w2) (c_6 : ¬ 6 ≤ nI j1) (n_18 : j1 < 6) (c_21 : m_signSeen j1 = (-1)) (j2 : Nat) (w3 : Int32) (k53 : Nat) (hj53 : j2 ≤ 6) (hk53 : 6 < j2 + (k53 + 1)) (hw3 : w3 = ptF m_says m_signSeen m_isStory j1 j2) (c_22 : 6 ≤ nI j2) (n_23 : 6 ≤ j2) (c_25 : ¬ w1 = (-1)) (c_28 : ¬ w2 < w3) : MS m_says m_signSeen m_isStory w1 w2 := by
  first | rfl | exact Or.inl ⟨rfl, rfl⟩ | exact ptI_z (by assumption) (by assumption) (by assumption) (by assumption) (by assumption) | exact ptI_m1 (by assumption) (by assumption) (by assumption) | exact ptI_m2 (by assumption) (by assumption) (by assumption) | exact ptF_s (by assumption) (by assumption) (by assumption) (by assumption) | exact pmF_n0 (by assumption) (by assumption) | exact pmF_y0 (by assumption) (by assumption) (by assumption) | exact rn_b (by assumption) (by assumption) (by assumption) (by assumption) (by assumption) (by assumption) (by assumption) (by assumption) | exact rn_c (by assumption) (by assumption) (by assumption) (by assumption) (by assumption) (by assumption) (by assumption) | exact MS_n (by assumption) (by assumption) (by assumption) (by assumption) | assumption
theorem lf_X12_next_f_34 (h : Nat) (q : Nat → Nat) (im : Nat → Int32) (m_says : Nat → Int32) (m_isStory : Nat → Int32) (m_signSeen : Nat → Int32) (n1 : Int32) (c_2 : (0 : Int32) ≤ n1 ∧ n1 ≤ 1) (tn1 : Nat) (tn1a : 0 ≤ tn1) (tn1b : tn1 ≤ 1) (tn1e : n1 = nI tn1) (c_5 : ¬ tdF m_isStory 6 = 0) (j1 : Nat) (w1 : Int32) (w2 : Int32) (k26 : Nat) (hj26 : j1 ≤ 6) (hk26 : 6 < j1 + (k26 + 1)) (hpm : w1 = pmF m_says m_signSeen m_isStory j1) (hms : MS m_says m_signSeen m_isStory w1 w2) (c_6 : ¬ 6 ≤ nI j1) (n_18 : j1 < 6) (c_21 : m_signSeen j1 = (-1)) (j2 : Nat) (w3 : Int32) (k53 : Nat) (hj53 : j2 ≤ 6) (hk53 : 6 < j2 + (k53 + 1)) (hw3 : w3 = ptF m_says m_signSeen m_isStory j1 j2) (c_22 : ¬ 6 ≤ nI j2) : j2 < 6 := by
  exact Nat.lt_of_not_le (fun q => c_22 ((nI_leI (a := 6) (b := j2) (by omega) (by omega)).mpr q))
theorem lf_X12_next_f_37 (h : Nat) (q : Nat → Nat) (im : Nat → Int32) (m_says : Nat → Int32) (m_isStory : Nat → Int32) (m_signSeen : Nat → Int32) (n1 : Int32) (c_2 : (0 : Int32) ≤ n1 ∧ n1 ≤ 1) (tn1 : Nat) (tn1a : 0 ≤ tn1) (tn1b : tn1 ≤ 1) (tn1e : n1 = nI tn1) (c_5 : ¬ tdF m_isStory 6 = 0) (j1 : Nat) (w1 : Int32) (w2 : Int32) (k26 : Nat) (hj26 : j1 ≤ 6) (hk26 : 6 < j1 + (k26 + 1)) (hpm : w1 = pmF m_says m_signSeen m_isStory j1) (hms : MS m_says m_signSeen m_isStory w1 w2) (c_6 : ¬ 6 ≤ nI j1) (n_18 : j1 < 6) (c_21 : m_signSeen j1 = (-1)) (j2 : Nat) (w3 : Int32) (k53 : Nat) (hj53 : j2 ≤ 6) (hk53 : 6 < j2 + (k53 + 1)) (hw3 : w3 = ptF m_says m_signSeen m_isStory j1 j2) (c_22 : ¬ 6 ≤ nI j2) (n_33 : j2 < 6) (j3 : Nat) (w4 : Int32) (k63 : Nat) (hj63 : j3 ≤ j2) (hk63 : j2 < j3 + (k63 + 1)) (hw4 : w4 = ptI m_says m_signSeen m_isStory j1 j2 w3 j3) (c_35 : nI j2 ≤ nI j3) : j2 ≤ j3 := by
  exact (nI_leI (a := j2) (b := j3) (by omega) (by omega)).mp c_35
theorem lf_X12_next_f_38 (h : Nat) (q : Nat → Nat) (im : Nat → Int32) (m_says : Nat → Int32) (m_isStory : Nat → Int32) (m_signSeen : Nat → Int32) (n1 : Int32) (c_2 : (0 : Int32) ≤ n1 ∧ n1 ≤ 1) (tn1 : Nat) (tn1a : 0 ≤ tn1) (tn1b : tn1 ≤ 1) (tn1e : n1 = nI tn1) (c_5 : ¬ tdF m_isStory 6 = 0) (j1 : Nat) (w1 : Int32) (w2 : Int32) (k26 : Nat) (hj26 : j1 ≤ 6) (hk26 : 6 < j1 + (k26 + 1)) (hpm : w1 = pmF m_says m_signSeen m_isStory j1) (hms : MS m_says m_signSeen m_isStory w1 w2) (c_6 : ¬ 6 ≤ nI j1) (n_18 : j1 < 6) (c_21 : m_signSeen j1 = (-1)) (j2 : Nat) (w3 : Int32) (k53 : Nat) (hj53 : j2 ≤ 6) (hk53 : 6 < j2 + (k53 + 1)) (hw3 : w3 = ptF m_says m_signSeen m_isStory j1 j2) (c_22 : ¬ 6 ≤ nI j2) (n_33 : j2 < 6) (j3 : Nat) (w4 : Int32) (k63 : Nat) (hj63 : j3 ≤ j2) (hk63 : j2 < j3 + (k63 + 1)) (hw4 : w4 = ptI m_says m_signSeen m_isStory j1 j2 w3 j3) (c_35 : nI j2 ≤ nI j3) (n_36 : j2 ≤ j3) : w4 = ptF m_says m_signSeen m_isStory j1 (j2 + 1) := by
  first | rfl | exact Or.inl ⟨rfl, rfl⟩ | exact ptI_z (by assumption) (by assumption) (by assumption) (by assumption) (by assumption) | exact ptI_m1 (by assumption) (by assumption) (by assumption) | exact ptI_m2 (by assumption) (by assumption) (by assumption) | exact ptF_s (by assumption) (by assumption) (by assumption) (by assumption) | exact pmF_n0 (by assumption) (by assumption) | exact pmF_y0 (by assumption) (by assumption) (by assumption) | exact rn_b (by assumption) (by assumption) (by assumption) (by assumption) (by assumption) (by assumption) (by assumption) (by assumption) | exact rn_c (by assumption) (by assumption) (by assumption) (by assumption) (by assumption) (by assumption) (by assumption) | exact MS_n (by assumption) (by assumption) (by assumption) (by assumption) | assumption
theorem lf_X12_next_f_40 (h : Nat) (q : Nat → Nat) (im : Nat → Int32) (m_says : Nat → Int32) (m_isStory : Nat → Int32) (m_signSeen : Nat → Int32) (n1 : Int32) (c_2 : (0 : Int32) ≤ n1 ∧ n1 ≤ 1) (tn1 : Nat) (tn1a : 0 ≤ tn1) (tn1b : tn1 ≤ 1) (tn1e : n1 = nI tn1) (c_5 : ¬ tdF m_isStory 6 = 0) (j1 : Nat) (w1 : Int32) (w2 : Int32) (k26 : Nat) (hj26 : j1 ≤ 6) (hk26 : 6 < j1 + (k26 + 1)) (hpm : w1 = pmF m_says m_signSeen m_isStory j1) (hms : MS m_says m_signSeen m_isStory w1 w2) (c_6 : ¬ 6 ≤ nI j1) (n_18 : j1 < 6) (c_21 : m_signSeen j1 = (-1)) (j2 : Nat) (w3 : Int32) (k53 : Nat) (hj53 : j2 ≤ 6) (hk53 : 6 < j2 + (k53 + 1)) (hw3 : w3 = ptF m_says m_signSeen m_isStory j1 j2) (c_22 : ¬ 6 ≤ nI j2) (n_33 : j2 < 6) (j3 : Nat) (w4 : Int32) (k63 : Nat) (hj63 : j3 ≤ j2) (hk63 : j2 < j3 + (k63 + 1)) (hw4 : w4 = ptI m_says m_signSeen m_isStory j1 j2 w3 j3) (c_35 : ¬ nI j2 ≤ nI j3) : j3 < j2 := by
  exact Nat.lt_of_not_le (fun q => c_35 ((nI_leI (a := j2) (b := j3) (by omega) (by omega)).mpr q))
theorem lf_X12_next_f_41 (h : Nat) (q : Nat → Nat) (im : Nat → Int32) (m_says : Nat → Int32) (m_isStory : Nat → Int32) (m_signSeen : Nat → Int32) (n1 : Int32) (c_2 : (0 : Int32) ≤ n1 ∧ n1 ≤ 1) (tn1 : Nat) (tn1a : 0 ≤ tn1) (tn1b : tn1 ≤ 1) (tn1e : n1 = nI tn1) (c_5 : ¬ tdF m_isStory 6 = 0) (j1 : Nat) (w1 : Int32) (w2 : Int32) (k26 : Nat) (hj26 : j1 ≤ 6) (hk26 : 6 < j1 + (k26 + 1)) (hpm : w1 = pmF m_says m_signSeen m_isStory j1) (hms : MS m_says m_signSeen m_isStory w1 w2) (c_6 : ¬ 6 ≤ nI j1) (n_18 : j1 < 6) (c_21 : m_signSeen j1 = (-1)) (j2 : Nat) (w3 : Int32) (k53 : Nat) (hj53 : j2 ≤ 6) (hk53 : 6 < j2 + (k53 + 1)) (hw3 : w3 = ptF m_says m_signSeen m_isStory j1 j2) (c_22 : ¬ 6 ≤ nI j2) (n_33 : j2 < 6) (j3 : Nat) (w4 : Int32) (k63 : Nat) (hj63 : j3 ≤ j2) (hk63 : j2 < j3 + (k63 + 1)) (hw4 : w4 = ptI m_says m_signSeen m_isStory j1 j2 w3 j3) (c_35 : ¬ nI j2 ≤ nI j3) (n_39 : j3 < j2) : j2 < 6 := by
  first | assumption | omega | decide | rfl
theorem lf_X12_next_f_44 (h : Nat) (q : Nat → Nat) (im : Nat → Int32) (m_says : Nat → Int32) (m_isStory : Nat → Int32) (m_signSeen : Nat → Int32) (n1 : Int32) (c_2 : (0 : Int32) ≤ n1 ∧ n1 ≤ 1) (tn1 : Nat) (tn1a : 0 ≤ tn1) (tn1b : tn1 ≤ 1) (tn1e : n1 = nI tn1) (c_5 : ¬ tdF m_isStory 6 = 0) (j1 : Nat) (w1 : Int32) (w2 : Int32) (k26 : Nat) (hj26 : j1 ≤ 6) (hk26 : 6 < j1 + (k26 + 1)) (hpm : w1 = pmF m_says m_signSeen m_isStory j1) (hms : MS m_says m_signSeen m_isStory w1 w2) (c_6 : ¬ 6 ≤ nI j1) (n_18 : j1 < 6) (c_21 : m_signSeen j1 = (-1)) (j2 : Nat) (w3 : Int32) (k53 : Nat) (hj53 : j2 ≤ 6) (hk53 : 6 < j2 + (k53 + 1)) (hw3 : w3 = ptF m_says m_signSeen m_isStory j1 j2) (c_22 : ¬ 6 ≤ nI j2) (n_33 : j2 < 6) (j3 : Nat) (w4 : Int32) (k63 : Nat) (hj63 : j3 ≤ j2) (hk63 : j2 < j3 + (k63 + 1)) (hw4 : w4 = ptI m_says m_signSeen m_isStory j1 j2 w3 j3) (c_35 : ¬ nI j2 ≤ nI j3) (n_39 : j3 < j2) (hcn42 : ¬ CN m_says m_signSeen m_isStory j2) (x_43 : Int32) (ex_43 : x_43 = w4 + 0) : x_43 = ptI m_says m_signSeen m_isStory j1 j2 w3 (j3 + 1) := by
  first | rfl | exact Or.inl ⟨rfl, rfl⟩ | exact ptI_z (by assumption) (by assumption) (by assumption) (by assumption) (by assumption) | exact ptI_m1 (by assumption) (by assumption) (by assumption) | exact ptI_m2 (by assumption) (by assumption) (by assumption) | exact ptF_s (by assumption) (by assumption) (by assumption) (by assumption) | exact pmF_n0 (by assumption) (by assumption) | exact pmF_y0 (by assumption) (by assumption) (by assumption) | exact rn_b (by assumption) (by assumption) (by assumption) (by assumption) (by assumption) (by assumption) (by assumption) (by assumption) | exact rn_c (by assumption) (by assumption) (by assumption) (by assumption) (by assumption) (by assumption) (by assumption) | exact MS_n (by assumption) (by assumption) (by assumption) (by assumption) | assumption
theorem lf_X12_next_f_45 (h : Nat) (q : Nat → Nat) (im : Nat → Int32) (m_says : Nat → Int32) (m_isStory : Nat → Int32) (m_signSeen : Nat → Int32) (n1 : Int32) (c_2 : (0 : Int32) ≤ n1 ∧ n1 ≤ 1) (tn1 : Nat) (tn1a : 0 ≤ tn1) (tn1b : tn1 ≤ 1) (tn1e : n1 = nI tn1) (c_5 : ¬ tdF m_isStory 6 = 0) (j1 : Nat) (w1 : Int32) (w2 : Int32) (k26 : Nat) (hj26 : j1 ≤ 6) (hk26 : 6 < j1 + (k26 + 1)) (hpm : w1 = pmF m_says m_signSeen m_isStory j1) (hms : MS m_says m_signSeen m_isStory w1 w2) (c_6 : ¬ 6 ≤ nI j1) (n_18 : j1 < 6) (c_21 : m_signSeen j1 = (-1)) (j2 : Nat) (w3 : Int32) (k53 : Nat) (hj53 : j2 ≤ 6) (hk53 : 6 < j2 + (k53 + 1)) (hw3 : w3 = ptF m_says m_signSeen m_isStory j1 j2) (c_22 : ¬ 6 ≤ nI j2) (n_33 : j2 < 6) (j3 : Nat) (w4 : Int32) (k63 : Nat) (hj63 : j3 ≤ j2) (hk63 : j2 < j3 + (k63 + 1)) (hw4 : w4 = ptI m_says m_signSeen m_isStory j1 j2 w3 j3) (c_35 : ¬ nI j2 ≤ nI j3) (n_39 : j3 < j2) (hcn42 : CN m_says m_signSeen m_isStory j2) : j3 < 6 := by
  first | assumption | omega | decide | rfl
theorem lf_X12_next_f_48 (h : Nat) (q : Nat → Nat) (im : Nat → Int32) (m_says : Nat → Int32) (m_isStory : Nat → Int32) (m_signSeen : Nat → Int32) (n1 : Int32) (c_2 : (0 : Int32) ≤ n1 ∧ n1 ≤ 1) (tn1 : Nat) (tn1a : 0 ≤ tn1) (tn1b : tn1 ≤ 1) (tn1e : n1 = nI tn1) (c_5 : ¬ tdF m_isStory 6 = 0) (j1 : Nat) (w1 : Int32) (w2 : Int32) (k26 : Nat) (hj26 : j1 ≤ 6) (hk26 : 6 < j1 + (k26 + 1)) (hpm : w1 = pmF m_says m_signSeen m_isStory j1) (hms : MS m_says m_signSeen m_isStory w1 w2) (c_6 : ¬ 6 ≤ nI j1) (n_18 : j1 < 6) (c_21 : m_signSeen j1 = (-1)) (j2 : Nat) (w3 : Int32) (k53 : Nat) (hj53 : j2 ≤ 6) (hk53 : 6 < j2 + (k53 + 1)) (hw3 : w3 = ptF m_says m_signSeen m_isStory j1 j2) (c_22 : ¬ 6 ≤ nI j2) (n_33 : j2 < 6) (j3 : Nat) (w4 : Int32) (k63 : Nat) (hj63 : j3 ≤ j2) (hk63 : j2 < j3 + (k63 + 1)) (hw4 : w4 = ptI m_says m_signSeen m_isStory j1 j2 w3 j3) (c_35 : ¬ nI j2 ≤ nI j3) (n_39 : j3 < j2) (hcn42 : CN m_says m_signSeen m_isStory j2) (hcn46 : ¬ CN m_says m_signSeen m_isStory j3) (x_47 : Int32) (ex_47 : x_47 = w4 + 0) : x_47 = ptI m_says m_signSeen m_isStory j1 j2 w3 (j3 + 1) := by
  first | rfl | exact Or.inl ⟨rfl, rfl⟩ | exact ptI_z (by assumption) (by assumption) (by assumption) (by assumption) (by assumption) | exact ptI_m1 (by assumption) (by assumption) (by assumption) | exact ptI_m2 (by assumption) (by assumption) (by assumption) | exact ptF_s (by assumption) (by assumption) (by assumption) (by assumption) | exact pmF_n0 (by assumption) (by assumption) | exact pmF_y0 (by assumption) (by assumption) (by assumption) | exact rn_b (by assumption) (by assumption) (by assumption) (by assumption) (by assumption) (by assumption) (by assumption) (by assumption) | exact rn_c (by assumption) (by assumption) (by assumption) (by assumption) (by assumption) (by assumption) (by assumption) | exact MS_n (by assumption) (by assumption) (by assumption) (by assumption) | assumption
theorem lf_X12_next_f_49 (h : Nat) (q : Nat → Nat) (im : Nat → Int32) (m_says : Nat → Int32) (m_isStory : Nat → Int32) (m_signSeen : Nat → Int32) (n1 : Int32) (c_2 : (0 : Int32) ≤ n1 ∧ n1 ≤ 1) (tn1 : Nat) (tn1a : 0 ≤ tn1) (tn1b : tn1 ≤ 1) (tn1e : n1 = nI tn1) (c_5 : ¬ tdF m_isStory 6 = 0) (j1 : Nat) (w1 : Int32) (w2 : Int32) (k26 : Nat) (hj26 : j1 ≤ 6) (hk26 : 6 < j1 + (k26 + 1)) (hpm : w1 = pmF m_says m_signSeen m_isStory j1) (hms : MS m_says m_signSeen m_isStory w1 w2) (c_6 : ¬ 6 ≤ nI j1) (n_18 : j1 < 6) (c_21 : m_signSeen j1 = (-1)) (j2 : Nat) (w3 : Int32) (k53 : Nat) (hj53 : j2 ≤ 6) (hk53 : 6 < j2 + (k53 + 1)) (hw3 : w3 = ptF m_says m_signSeen m_isStory j1 j2) (c_22 : ¬ 6 ≤ nI j2) (n_33 : j2 < 6) (j3 : Nat) (w4 : Int32) (k63 : Nat) (hj63 : j3 ≤ j2) (hk63 : j2 < j3 + (k63 + 1)) (hw4 : w4 = ptI m_says m_signSeen m_isStory j1 j2 w3 j3) (c_35 : ¬ nI j2 ≤ nI j3) (n_39 : j3 < j2) (hcn42 : CN m_says m_signSeen m_isStory j2) (hcn46 : CN m_says m_signSeen m_isStory j3) : ((6 * j2) + j1) < 36 := by
  omega
theorem lf_X12_next_f_50 (h : Nat) (q : Nat → Nat) (im : Nat → Int32) (m_says : Nat → Int32) (m_isStory : Nat → Int32) (m_signSeen : Nat → Int32) (n1 : Int32) (c_2 : (0 : Int32) ≤ n1 ∧ n1 ≤ 1) (tn1 : Nat) (tn1a : 0 ≤ tn1) (tn1b : tn1 ≤ 1) (tn1e : n1 = nI tn1) (c_5 : ¬ tdF m_isStory 6 = 0) (j1 : Nat) (w1 : Int32) (w2 : Int32) (k26 : Nat) (hj26 : j1 ≤ 6) (hk26 : 6 < j1 + (k26 + 1)) (hpm : w1 = pmF m_says m_signSeen m_isStory j1) (hms : MS m_says m_signSeen m_isStory w1 w2) (c_6 : ¬ 6 ≤ nI j1) (n_18 : j1 < 6) (c_21 : m_signSeen j1 = (-1)) (j2 : Nat) (w3 : Int32) (k53 : Nat) (hj53 : j2 ≤ 6) (hk53 : 6 < j2 + (k53 + 1)) (hw3 : w3 = ptF m_says m_signSeen m_isStory j1 j2) (c_22 : ¬ 6 ≤ nI j2) (n_33 : j2 < 6) (j3 : Nat) (w4 : Int32) (k63 : Nat) (hj63 : j3 ≤ j2) (hk63 : j2 < j3 + (k63 + 1)) (hw4 : w4 = ptI m_says m_signSeen m_isStory j1 j2 w3 j3) (c_35 : ¬ nI j2 ≤ nI j3) (n_39 : j3 < j2) (hcn42 : CN m_says m_signSeen m_isStory j2) (hcn46 : CN m_says m_signSeen m_isStory j3) : ((6 * j3) + j1) < 36 := by
  omega
theorem lf_X12_next_f_54 (h : Nat) (q : Nat → Nat) (im : Nat → Int32) (m_says : Nat → Int32) (m_isStory : Nat → Int32) (m_signSeen : Nat → Int32) (n1 : Int32) (c_2 : (0 : Int32) ≤ n1 ∧ n1 ≤ 1) (tn1 : Nat) (tn1a : 0 ≤ tn1) (tn1b : tn1 ≤ 1) (tn1e : n1 = nI tn1) (c_5 : ¬ tdF m_isStory 6 = 0) (j1 : Nat) (w1 : Int32) (w2 : Int32) (k26 : Nat) (hj26 : j1 ≤ 6) (hk26 : 6 < j1 + (k26 + 1)) (hpm : w1 = pmF m_says m_signSeen m_isStory j1) (hms : MS m_says m_signSeen m_isStory w1 w2) (c_6 : ¬ 6 ≤ nI j1) (n_18 : j1 < 6) (c_21 : m_signSeen j1 = (-1)) (j2 : Nat) (w3 : Int32) (k53 : Nat) (hj53 : j2 ≤ 6) (hk53 : 6 < j2 + (k53 + 1)) (hw3 : w3 = ptF m_says m_signSeen m_isStory j1 j2) (c_22 : ¬ 6 ≤ nI j2) (n_33 : j2 < 6) (j3 : Nat) (w4 : Int32) (k63 : Nat) (hj63 : j3 ≤ j2) (hk63 : j2 < j3 + (k63 + 1)) (hw4 : w4 = ptI m_says m_signSeen m_isStory j1 j2 w3 j3) (c_35 : ¬ nI j2 ≤ nI j3) (n_39 : j3 < j2) (hcn42 : CN m_says m_signSeen m_isStory j2) (hcn46 : CN m_says m_signSeen m_isStory j3) (x_51 : Int32) (ex_51 : x_51 = m_says ((6 * j2) + j1) - m_says ((6 * j3) + j1)) (x_53 : Int32) (ex_53 : x_53 = w4 + abF x_51) : x_53 = ptI m_says m_signSeen m_isStory j1 j2 w3 (j3 + 1) := by
  first | rfl | exact Or.inl ⟨rfl, rfl⟩ | exact ptI_z (by assumption) (by assumption) (by assumption) (by assumption) (by assumption) | exact ptI_m1 (by assumption) (by assumption) (by assumption) | exact ptI_m2 (by assumption) (by assumption) (by assumption) | exact ptF_s (by assumption) (by assumption) (by assumption) (by assumption) | exact pmF_n0 (by assumption) (by assumption) | exact pmF_y0 (by assumption) (by assumption) (by assumption) | exact rn_b (by assumption) (by assumption) (by assumption) (by assumption) (by assumption) (by assumption) (by assumption) (by assumption) | exact rn_c (by assumption) (by assumption) (by assumption) (by assumption) (by assumption) (by assumption) (by assumption) | exact MS_n (by assumption) (by assumption) (by assumption) (by assumption) | assumption
theorem lf_X12_next_f_55 (h : Nat) (q : Nat → Nat) (im : Nat → Int32) (m_says : Nat → Int32) (m_isStory : Nat → Int32) (m_signSeen : Nat → Int32) (n1 : Int32) (c_2 : (0 : Int32) ≤ n1 ∧ n1 ≤ 1) (tn1 : Nat) (tn1a : 0 ≤ tn1) (tn1b : tn1 ≤ 1) (tn1e : n1 = nI tn1) (c_5 : ¬ tdF m_isStory 6 = 0) (j1 : Nat) (w1 : Int32) (w2 : Int32) (k26 : Nat) (hj26 : j1 ≤ 6) (hk26 : 6 < j1 + (k26 + 1)) (hpm : w1 = pmF m_says m_signSeen m_isStory j1) (hms : MS m_says m_signSeen m_isStory w1 w2) (c_6 : ¬ 6 ≤ nI j1) (n_18 : j1 < 6) (c_21 : m_signSeen j1 = (-1)) (j2 : Nat) (w3 : Int32) (k53 : Nat) (hj53 : j2 ≤ 6) (hk53 : 6 < j2 + (k53 + 1)) (hw3 : w3 = ptF m_says m_signSeen m_isStory j1 j2) (c_22 : ¬ 6 ≤ nI j2) (n_33 : j2 < 6) : w3 = ptI m_says m_signSeen m_isStory j1 j2 w3 0 := by
  first | rfl | exact Or.inl ⟨rfl, rfl⟩ | exact ptI_z (by assumption) (by assumption) (by assumption) (by assumption) (by assumption) | exact ptI_m1 (by assumption) (by assumption) (by assumption) | exact ptI_m2 (by assumption) (by assumption) (by assumption) | exact ptF_s (by assumption) (by assumption) (by assumption) (by assumption) | exact pmF_n0 (by assumption) (by assumption) | exact pmF_y0 (by assumption) (by assumption) (by assumption) | exact rn_b (by assumption) (by assumption) (by assumption) (by assumption) (by assumption) (by assumption) (by assumption) (by assumption) | exact rn_c (by assumption) (by assumption) (by assumption) (by assumption) (by assumption) (by assumption) (by assumption) | exact MS_n (by assumption) (by assumption) (by assumption) (by assumption) | assumption
theorem lf_X12_next_f_56 (h : Nat) (q : Nat → Nat) (im : Nat → Int32) (m_says : Nat → Int32) (m_isStory : Nat → Int32) (m_signSeen : Nat → Int32) (n1 : Int32) (c_2 : (0 : Int32) ≤ n1 ∧ n1 ≤ 1) (tn1 : Nat) (tn1a : 0 ≤ tn1) (tn1b : tn1 ≤ 1) (tn1e : n1 = nI tn1) (c_5 : ¬ tdF m_isStory 6 = 0) (j1 : Nat) (w1 : Int32) (w2 : Int32) (k26 : Nat) (hj26 : j1 ≤ 6) (hk26 : 6 < j1 + (k26 + 1)) (hpm : w1 = pmF m_says m_signSeen m_isStory j1) (hms : MS m_says m_signSeen m_isStory w1 w2) (c_6 : ¬ 6 ≤ nI j1) (n_18 : j1 < 6) (c_21 : m_signSeen j1 = (-1)) : (0 : Int32) = ptF m_says m_signSeen m_isStory j1 0 := by
  first | rfl | exact Or.inl ⟨rfl, rfl⟩ | exact ptI_z (by assumption) (by assumption) (by assumption) (by assumption) (by assumption) | exact ptI_m1 (by assumption) (by assumption) (by assumption) | exact ptI_m2 (by assumption) (by assumption) (by assumption) | exact ptF_s (by assumption) (by assumption) (by assumption) (by assumption) | exact pmF_n0 (by assumption) (by assumption) | exact pmF_y0 (by assumption) (by assumption) (by assumption) | exact rn_b (by assumption) (by assumption) (by assumption) (by assumption) (by assumption) (by assumption) (by assumption) (by assumption) | exact rn_c (by assumption) (by assumption) (by assumption) (by assumption) (by assumption) (by assumption) (by assumption) | exact MS_n (by assumption) (by assumption) (by assumption) (by assumption) | assumption
theorem lf_X12_next_f_57 (h : Nat) (q : Nat → Nat) (im : Nat → Int32) (m_says : Nat → Int32) (m_isStory : Nat → Int32) (m_signSeen : Nat → Int32) (n1 : Int32) (c_2 : (0 : Int32) ≤ n1 ∧ n1 ≤ 1) (tn1 : Nat) (tn1a : 0 ≤ tn1) (tn1b : tn1 ≤ 1) (tn1e : n1 = nI tn1) (c_5 : ¬ tdF m_isStory 6 = 0) (j1 : Nat) (w1 : Int32) (w2 : Int32) (k26 : Nat) (hj26 : j1 ≤ 6) (hk26 : 6 < j1 + (k26 + 1)) (hpm : w1 = pmF m_says m_signSeen m_isStory j1) (hms : MS m_says m_signSeen m_isStory w1 w2) (c_6 : ¬ 6 ≤ nI j1) (n_18 : j1 < 6) (c_21 : ¬ m_signSeen j1 = (-1)) : w1 = pmF m_says m_signSeen m_isStory (j1 + 1) := by
  first | rfl | exact Or.inl ⟨rfl, rfl⟩ | exact ptI_z (by assumption) (by assumption) (by assumption) (by assumption) (by assumption) | exact ptI_m1 (by assumption) (by assumption) (by assumption) | exact ptI_m2 (by assumption) (by assumption) (by assumption) | exact ptF_s (by assumption) (by assumption) (by assumption) (by assumption) | exact pmF_n0 (by assumption) (by assumption) | exact pmF_y0 (by assumption) (by assumption) (by assumption) | exact rn_b (by assumption) (by assumption) (by assumption) (by assumption) (by assumption) (by assumption) (by assumption) (by assumption) | exact rn_c (by assumption) (by assumption) (by assumption) (by assumption) (by assumption) (by assumption) (by assumption) | exact MS_n (by assumption) (by assumption) (by assumption) (by assumption) | assumption
theorem lf_X12_next_f_58 (h : Nat) (q : Nat → Nat) (im : Nat → Int32) (m_says : Nat → Int32) (m_isStory : Nat → Int32) (m_signSeen : Nat → Int32) (n1 : Int32) (c_2 : (0 : Int32) ≤ n1 ∧ n1 ≤ 1) (tn1 : Nat) (tn1a : 0 ≤ tn1) (tn1b : tn1 ≤ 1) (tn1e : n1 = nI tn1) (c_5 : ¬ tdF m_isStory 6 = 0) (j1 : Nat) (w1 : Int32) (w2 : Int32) (k26 : Nat) (hj26 : j1 ≤ 6) (hk26 : 6 < j1 + (k26 + 1)) (hpm : w1 = pmF m_says m_signSeen m_isStory j1) (hms : MS m_says m_signSeen m_isStory w1 w2) (c_6 : ¬ 6 ≤ nI j1) (n_18 : j1 < 6) (c_21 : ¬ m_signSeen j1 = (-1)) : MS m_says m_signSeen m_isStory w1 w2 := by
  first | rfl | exact Or.inl ⟨rfl, rfl⟩ | exact ptI_z (by assumption) (by assumption) (by assumption) (by assumption) (by assumption) | exact ptI_m1 (by assumption) (by assumption) (by assumption) | exact ptI_m2 (by assumption) (by assumption) (by assumption) | exact ptF_s (by assumption) (by assumption) (by assumption) (by assumption) | exact pmF_n0 (by assumption) (by assumption) | exact pmF_y0 (by assumption) (by assumption) (by assumption) | exact rn_b (by assumption) (by assumption) (by assumption) (by assumption) (by assumption) (by assumption) (by assumption) (by assumption) | exact rn_c (by assumption) (by assumption) (by assumption) (by assumption) (by assumption) (by assumption) (by assumption) | exact MS_n (by assumption) (by assumption) (by assumption) (by assumption) | assumption
theorem lf_X12_next_f_59 (h : Nat) (q : Nat → Nat) (im : Nat → Int32) (m_says : Nat → Int32) (m_isStory : Nat → Int32) (m_signSeen : Nat → Int32) (n1 : Int32) (c_2 : (0 : Int32) ≤ n1 ∧ n1 ≤ 1) (tn1 : Nat) (tn1a : 0 ≤ tn1) (tn1b : tn1 ≤ 1) (tn1e : n1 = nI tn1) (c_5 : ¬ tdF m_isStory 6 = 0) : (((-1)) : Int32) = pmF m_says m_signSeen m_isStory 0 := by
  first | rfl | exact Or.inl ⟨rfl, rfl⟩ | exact ptI_z (by assumption) (by assumption) (by assumption) (by assumption) (by assumption) | exact ptI_m1 (by assumption) (by assumption) (by assumption) | exact ptI_m2 (by assumption) (by assumption) (by assumption) | exact ptF_s (by assumption) (by assumption) (by assumption) (by assumption) | exact pmF_n0 (by assumption) (by assumption) | exact pmF_y0 (by assumption) (by assumption) (by assumption) | exact rn_b (by assumption) (by assumption) (by assumption) (by assumption) (by assumption) (by assumption) (by assumption) (by assumption) | exact rn_c (by assumption) (by assumption) (by assumption) (by assumption) (by assumption) (by assumption) (by assumption) | exact MS_n (by assumption) (by assumption) (by assumption) (by assumption) | assumption
theorem lf_X12_next_f_60 (h : Nat) (q : Nat → Nat) (im : Nat → Int32) (m_says : Nat → Int32) (m_isStory : Nat → Int32) (m_signSeen : Nat → Int32) (n1 : Int32) (c_2 : (0 : Int32) ≤ n1 ∧ n1 ≤ 1) (tn1 : Nat) (tn1a : 0 ≤ tn1) (tn1b : tn1 ≤ 1) (tn1e : n1 = nI tn1) (c_5 : ¬ tdF m_isStory 6 = 0) : MS m_says m_signSeen m_isStory (((-1)) : Int32) (0 : Int32) := by
  first | rfl | exact Or.inl ⟨rfl, rfl⟩ | exact ptI_z (by assumption) (by assumption) (by assumption) (by assumption) (by assumption) | exact ptI_m1 (by assumption) (by assumption) (by assumption) | exact ptI_m2 (by assumption) (by assumption) (by assumption) | exact ptF_s (by assumption) (by assumption) (by assumption) (by assumption) | exact pmF_n0 (by assumption) (by assumption) | exact pmF_y0 (by assumption) (by assumption) (by assumption) | exact rn_b (by assumption) (by assumption) (by assumption) (by assumption) (by assumption) (by assumption) (by assumption) (by assumption) | exact rn_c (by assumption) (by assumption) (by assumption) (by assumption) (by assumption) (by assumption) (by assumption) | exact MS_n (by assumption) (by assumption) (by assumption) (by assumption) | assumption
theorem lf_X12_next_f_61 (h : Nat) (q : Nat → Nat) (im : Nat → Int32) (m_says : Nat → Int32) (m_isStory : Nat → Int32) (m_signSeen : Nat → Int32) (n1 : Int32) (c_2 : (0 : Int32) ≤ n1 ∧ n1 ≤ 1) (tn1 : Nat) (tn1a : 0 ≤ tn1) (tn1b : tn1 ≤ 1) (tn1e : n1 = nI tn1) (c_5 : tdF m_isStory 6 = 0) : ((-1) : Int32) = nxF m_says m_signSeen m_isStory n1 := by
  first | exact nxF_1 (by assumption) | exact nxF_2 (by assumption) | exact nx_1 (by assumption) (by assumption) (by assumption) (by assumption) (by assumption) (by assumption) | exact nx_2 (by assumption) (by assumption) (by assumption) (by assumption) (by assumption) (by assumption) (by assumption) (by assumption) (by assumption) | exact nx_3 (by assumption) (by assumption) (by assumption) (by assumption) (by assumption) (by assumption) (by assumption) (by assumption) (by assumption) (by assumption)
set_option maxHeartbeats 4000000 in
set_option maxRecDepth 100000 in
theorem c_X12_next_f (l : Launch) (D : va_G) (cI cB cZ cJ : ClassId) (tx : List (ClassId × FieldType)) (h : Nat) (q : Nat → Nat) (im : Nat → Int32) (m_says : Nat → Int32) (m_isStory : Nat → Int32) (m_signSeen : Nat → Int32) (n1 : Int32) : RdI l D cI cB cZ cJ tx yX12_next cX12_next 8 (some .int) 2 [.ref h, .int n1] [(h, .inr (12, mG q im)), (q 75, .inl (cI, 36, .inl m_says)), (q 76, .inl (cZ, 6, .inl m_isStory)), (q 77, .inl (cI, 6, .inl m_signSeen))] (fun r => r = nxF m_says m_signSeen m_isStory n1) := by
  refine rdi_of2 (by decide) (Nat.le_of_ble_eq_true rfl) ?_
  intro p e s m below meth c A ls H locs hC hK hP hD hA hS hl
  obtain ⟨hx, hb, hr, hml, hown, hts, hlocks, hin⟩ := hC
  have hown : s.vm.findClass RX12 = some m.cls := hown
  have hl : lv_has ls 8 [(0, .ref h), (1, .int n1)] := hl
  refine W_gQ (fun Q hQ => ?_)
  refine lv_iload_n hx hb dX12_next_0 rfl (lv_at hl 1 rfl) ?_
  refine lv_i2l (v := n1.toInt64) hx hb dX12_next_1 rfl ?_
  refine lv_lconst (v := 0) hx hb dX12_next_2 (by decide) ?_
  refine lv_lconst (v := 1) hx hb dX12_next_3 (by decide) ?_
  refine eRi (va_runS (As := [.long n1.toInt64, .long 0, .long 1]) (rest := []) ⟨hx, hb, hml, hown, hts⟩ (c_X12_isIn l D cI cB cZ cJ tx n1.toInt64 0 1 H.size) (zS hts k_1602 v_X12_isIn ⟨Nat.le_of_ble_eq_true rfl, Nat.le_of_ble_eq_true rfl⟩) (px0 hK) rfl rfl hl.1 rfl (lv_room (Nat.le_of_ble_eq_true rfl)) dX12_next_4 ⟨Nat.le_of_ble_eq_true rfl, Nat.le_of_ble_eq_true rfl⟩) hP hS hA (fun r_1 H locs wr_1 hP hS => ?_)
  have wr_1 : r_1 = bi ((0 : Int32) ≤ n1 ∧ n1 ≤ 1) := isIn32 (lo := 0) (hi := 1) (by decide) (by decide) wr_1
  subst wr_1
  refine lv_bi_eq (tgt := 17) hx hb dX12_next_7 (by decide) (fun c_2 => ?_) (fun c_2 => ?_)
  · refine lv_iconst (v := (-1)) hx hb dX12_next_17 (by decide) ?_
    rw [hQ]
    exact W.iret (v := (-1)) hx hb hr (fun tt9 ht hW => ⟨⟨((-1) : Int32), (), rfl, (lf_X12_next_f_3 h q im m_says m_isStory m_signSeen n1 c_2), trivial⟩, hS.F ht⟩) hS.2.2 dX12_next_18 hlocks
  · obtain ⟨tn1, tn1a, tn1b, tn1e⟩ := of_rng 0 1 rfl rfl c_2
    subst tn1e
    refine lv_aload_n hx hb dX12_next_10 rfl (lv_at hl 0 rfl) ?_
    refine eRi (va_runV (As := []) (rest := []) ⟨hx, hb, hml, hown, hts⟩ (c_X12_storiesTold_f l D cI cB cZ cJ tx h q im m_isStory H.size) (zV hts k_2042 v_X12_storiesTold ⟨Nat.le_of_ble_eq_true rfl, Nat.le_of_ble_eq_true rfl⟩) (pV (pxS hK hP hD [0, 2] (by decide) rfl) hK hP 0 rfl rfl) rfl rfl hl.1 rfl (lv_room (Nat.le_of_ble_eq_true rfl)) dX12_next_11 ⟨Nat.le_of_ble_eq_true rfl, Nat.le_of_ble_eq_true rfl⟩) hP hS hA (fun r_4 H locs wr_4 hP hS => ?_)
    subst wr_4
    refine lv_if_ne (tgt := 19) hx hb dX12_next_14 (by decide) (fun c_5 => ?_) (fun c_5 => ?_)
    · refine lv_iconst (v := (-1)) hx hb dX12_next_19 (by decide) ?_
      refine lv_istore_n (lv' := [(2, .int (-1)), (0, .ref h), (1, .int (nI tn1))]) hx hb dX12_next_20 rfl hl (by decide) rfl (fun ls hl => ?_)
      refine lv_iconst (v := 0) hx hb dX12_next_21 (by decide) ?_
      refine lv_istore_n (lv' := [(3, .int 0), (2, .int (-1)), (0, .ref h), (1, .int (nI tn1))]) hx hb dX12_next_22 rfl hl (by decide) rfl (fun ls hl => ?_)
      refine lv_iconst (v := 0) hx hb dX12_next_23 (by decide) ?_
      refine lv_istore (lv' := [(4, .int 0), (3, .int 0), (2, .int (-1)), (0, .ref h), (1, .int (nI tn1))]) hx hb dX12_next_24 hl (by decide) rfl (fun ls hl => ?_)
      have lp26 : ∀ (k26 : Nat) (j1 : Nat) (w1 : Int32) (w2 : Int32) (H : Heap) (locs : List Loc) (ls : Array Slot), j1 ≤ 6 → 6 < j1 + k26 → (w1 = pmF m_says m_signSeen m_isStory j1) → (MS m_says m_signSeen m_isStory w1 w2) → va_P D vwCl [(h, .inr (12, mG q im)), (q 75, .inl (cI, 36, .inl m_says)), (q 76, .inl (cZ, 6, .inl m_isStory)), (q 77, .inl (cI, 6, .inl m_signSeen))] H → va_S A s.heap H locs → lv_has ls 8 [(4, .int (nI j1)), (3, .int w2), (2, .int w1), (0, .ref h), (1, .int (nI tn1))] → W p l e (rmX 2 0 0) s m ([.ref h, .int (nI tn1)] : List Value).toArray below meth c H locs 0 0 Q (F0 m 26 ls []) := by
        intro k26
        induction k26 with
        | zero =>
          intro j1 w1 w2 H locs ls hj26 hk26 hpm hms hP hS hl
          exact absurd hk26 (by omega)
        | succ k26 ih26 =>
          intro j1 w1 w2 H locs ls hj26 hk26 hpm hms hP hS hl
          refine lv_iload hx hb dX12_next_26 (lv_at hl 0 rfl) ?_
          refine lv_bipush (v := 6) hx hb dX12_next_28 (by decide) ?_
          refine lv_icmp_ge (tgt := 165) hx hb dX12_next_30 (by decide) (fun c_6 => ?_) (fun c_6 => ?_)
          · have n_7 : 6 ≤ j1 := (lf_X12_next_f_8 h q im m_says m_isStory m_signSeen (nI tn1) c_2 tn1 tn1a tn1b rfl c_5 j1 w1 w2 k26 hj26 hk26 hpm hms c_6)
            refine lv_iload_n hx hb dX12_next_165 rfl (lv_at hl 2 rfl) ?_
            refine lv_iconst (v := (-1)) hx hb dX12_next_166 (by decide) ?_
            refine lv_icmp_eq (tgt := 174) hx hb dX12_next_167 (by decide) (fun c_9 => ?_) (fun c_9 => ?_)
            · refine lv_iload_n hx hb dX12_next_174 rfl (lv_at hl 2 rfl) ?_
              refine lv_goto (tgt := 179) hx hb dX12_next_175 (by decide) ?_
              rw [hQ]
              exact W.iret (v := w1) hx hb hr (fun tt9 ht hW => ⟨⟨(w1 : Int32), (), rfl, (lf_X12_next_f_10 h q im m_says m_isStory m_signSeen (nI tn1) c_2 tn1 tn1a tn1b rfl c_5 j1 w1 w2 k26 hj26 hk26 hpm hms c_6 n_7 c_9), trivial⟩, hS.F ht⟩) hS.2.2 dX12_next_179 hlocks
            · refine lv_iload_n hx hb dX12_next_170 rfl (lv_at hl 4 rfl) ?_
              refine lv_if_ne (tgt := 178) hx hb dX12_next_171 (by decide) (fun c_11 => ?_) (fun c_11 => ?_)
              · have n_12 : tn1 ≠ 0 := (lf_X12_next_f_13 h q im m_says m_isStory m_signSeen (nI tn1) c_2 tn1 tn1a tn1b rfl c_5 j1 w1 w2 k26 hj26 hk26 hpm hms c_6 n_7 c_9 c_11)
                refine lv_iload_n hx hb dX12_next_178 rfl (lv_at hl 1 rfl) ?_
                rw [hQ]
                exact W.iret (v := w2) hx hb hr (fun tt9 ht hW => ⟨⟨(w2 : Int32), (), rfl, (lf_X12_next_f_14 h q im m_says m_isStory m_signSeen (nI tn1) c_2 tn1 tn1a tn1b rfl c_5 j1 w1 w2 k26 hj26 hk26 hpm hms c_6 n_7 c_9 c_11 n_12), trivial⟩, hS.F ht⟩) hS.2.2 dX12_next_179 hlocks
              · have n_15 : tn1 = 0 := (lf_X12_next_f_16 h q im m_says m_isStory m_signSeen (nI tn1) c_2 tn1 tn1a tn1b rfl c_5 j1 w1 w2 k26 hj26 hk26 hpm hms c_6 n_7 c_9 c_11)
                refine lv_iload_n hx hb dX12_next_174 rfl (lv_at hl 2 rfl) ?_
                refine lv_goto (tgt := 179) hx hb dX12_next_175 (by decide) ?_
                rw [hQ]
                exact W.iret (v := w1) hx hb hr (fun tt9 ht hW => ⟨⟨(w1 : Int32), (), rfl, (lf_X12_next_f_17 h q im m_says m_isStory m_signSeen (nI tn1) c_2 tn1 tn1a tn1b rfl c_5 j1 w1 w2 k26 hj26 hk26 hpm hms c_6 n_7 c_9 c_11 n_15), trivial⟩, hS.F ht⟩) hS.2.2 dX12_next_179 hlocks
          · have n_18 : j1 < 6 := (lf_X12_next_f_19 h q im m_says m_isStory m_signSeen (nI tn1) c_2 tn1 tn1a tn1b rfl c_5 j1 w1 w2 k26 hj26 hk26 hpm hms c_6)
            refine lv_aload_n hx hb dX12_next_33 rfl (lv_at hl 3 rfl) ?_
            refine va_get (D := D) (ci := 12) (v := .ref (q 77)) (C := RX12) (T := TX12) (N := 81) hx hb hts inT_X12 hown hK.1 hP 0 rfl rfl 77 (by decide) (hts _ k_1430) (fun _ h9 => h9) rfl dX12_next_34 ?_
            refine lv_iload hx hb dX12_next_37 (lv_at hl 0 rfl) ?_
            refine lt_i (j := j1) hx hb hK hP 3 rfl (lf_X12_next_f_20 h q im m_says m_isStory m_signSeen (nI tn1) c_2 tn1 tn1a tn1b rfl c_5 j1 w1 w2 k26 hj26 hk26 hpm hms c_6 n_18) (by decide) dX12_next_39 ?_
            refine lv_iconst (v := (-1)) hx hb dX12_next_40 (by decide) ?_
            refine lv_icmp_eq (tgt := 47) hx hb dX12_next_41 (by decide) (fun c_21 => ?_) (fun c_21 => ?_)
            · refine lv_iconst (v := 0) hx hb dX12_next_47 (by decide) ?_
              refine lv_istore (lv' := [(5, .int 0), (4, .int (nI j1)), (3, .int w2), (2, .int w1), (0, .ref h), (1, .int (nI tn1))]) hx hb dX12_next_48 hl (by decide) rfl (fun ls hl => ?_)
              refine lv_iconst (v := 0) hx hb dX12_next_50 (by decide) ?_
              refine lv_istore (lv' := [(6, .int 0), (5, .int 0), (4, .int (nI j1)), (3, .int w2), (2, .int w1), (0, .ref h), (1, .int (nI tn1))]) hx hb dX12_next_51 hl (by decide) rfl (fun ls hl => ?_)
              have lp53 : ∀ (k53 : Nat) (j2 : Nat) (w3 : Int32) (H : Heap) (locs : List Loc) (ls : Array Slot), j2 ≤ 6 → 6 < j2 + k53 → (w3 = ptF m_says m_signSeen m_isStory j1 j2) → va_P D vwCl [(h, .inr (12, mG q im)), (q 75, .inl (cI, 36, .inl m_says)), (q 76, .inl (cZ, 6, .inl m_isStory)), (q 77, .inl (cI, 6, .inl m_signSeen))] H → va_S A s.heap H locs → lv_has ls 8 [(6, .int (nI j2)), (5, .int w3), (4, .int (nI j1)), (3, .int w2), (2, .int w1), (0, .ref h), (1, .int (nI tn1))] → W p l e (rmX 2 0 0) s m ([.ref h, .int (nI tn1)] : List Value).toArray below meth c H locs 0 0 Q (F0 m 53 ls []) := by
                intro k53
                induction k53 with
                | zero =>
                  intro j2 w3 H locs ls hj53 hk53 hw3 hP hS hl
                  exact absurd hk53 (by omega)
                | succ k53 ih53 =>
                  intro j2 w3 H locs ls hj53 hk53 hw3 hP hS hl
                  refine lv_iload hx hb dX12_next_53 (lv_at hl 0 rfl) ?_
                  refine lv_bipush (v := 6) hx hb dX12_next_55 (by decide) ?_
                  refine lv_icmp_ge (tgt := 139) hx hb dX12_next_57 (by decide) (fun c_22 => ?_) (fun c_22 => ?_)
                  · have n_23 : 6 ≤ j2 := (lf_X12_next_f_24 h q im m_says m_isStory m_signSeen (nI tn1) c_2 tn1 tn1a tn1b rfl c_5 j1 w1 w2 k26 hj26 hk26 hpm hms c_6 n_18 c_21 j2 w3 k53 hj53 hk53 hw3 c_22)
                    refine lv_iload_n hx hb dX12_next_139 rfl (lv_at hl 4 rfl) ?_
                    refine lv_iconst (v := (-1)) hx hb dX12_next_140 (by decide) ?_
                    refine lv_icmp_eq (tgt := 153) hx hb dX12_next_141 (by decide) (fun c_25 => ?_) (fun c_25 => ?_)
                    · refine lv_iload hx hb dX12_next_153 (lv_at hl 2 rfl) ?_
                      refine lv_istore_n (lv' := [(2, .int (nI j1)), (6, .int (nI j2)), (5, .int w3), (4, .int (nI j1)), (3, .int w2), (0, .ref h), (1, .int (nI tn1))]) hx hb dX12_next_155 rfl hl (by decide) rfl (fun ls hl => ?_)
                      refine lv_iload hx hb dX12_next_156 (lv_at hl 2 rfl) ?_
                      refine lv_istore_n (lv' := [(3, .int w3), (2, .int (nI j1)), (6, .int (nI j2)), (5, .int w3), (4, .int (nI j1)), (0, .ref h), (1, .int (nI tn1))]) hx hb dX12_next_158 rfl hl (by decide) rfl (fun ls hl => ?_)
                      refine lv_iinc (v := nI (j1 + 1)) (lv' := [(4, .int (nI (j1 + 1))), (3, .int w3), (2, .int (nI j1)), (6, .int (nI j2)), (5, .int w3), (0, .ref h), (1, .int (nI tn1))]) hx hb dX12_next_159 hl (k := 4) rfl (nI_1 j1) (by decide) rfl (fun ls hl => ?_)
                      refine lv_goto (tgt := 26) hx hb dX12_next_162 (by decide) ?_
                      exact ih26 (j1 + 1) (nI j1) w3 H locs ls (by omega) (by omega) (lf_X12_next_f_26 h q im m_says m_isStory m_signSeen (nI tn1) c_2 tn1 tn1a tn1b rfl c_5 j1 w1 w2 k26 hj26 hk26 hpm hms c_6 n_18 c_21 j2 w3 k53 hj53 hk53 hw3 c_22 n_23 c_25) (lf_X12_next_f_27 h q im m_says m_isStory m_signSeen (nI tn1) c_2 tn1 tn1a tn1b rfl c_5 j1 w1 w2 k26 hj26 hk26 hpm hms c_6 n_18 c_21 j2 w3 k53 hj53 hk53 hw3 c_22 n_23 c_25) (hP.sub [0, 1, 2, 3] rfl)  hS (lv_sub hl [0, 1, 2, 5, 6] rfl)
                    · refine lv_iload hx hb dX12_next_144 (lv_at hl 1 rfl) ?_
                      refine lv_iload_n hx hb dX12_next_146 rfl (lv_at hl 3 rfl) ?_
                      refine lv_icmp_gt (tgt := 153) hx hb dX12_next_147 (by decide) (fun c_28 => ?_) (fun c_28 => ?_)
                      · refine lv_iload hx hb dX12_next_153 (lv_at hl 2 rfl) ?_
                        refine lv_istore_n (lv' := [(2, .int (nI j1)), (6, .int (nI j2)), (5, .int w3), (4, .int (nI j1)), (3, .int w2), (0, .ref h), (1, .int (nI tn1))]) hx hb dX12_next_155 rfl hl (by decide) rfl (fun ls hl => ?_)
                        refine lv_iload hx hb dX12_next_156 (lv_at hl 2 rfl) ?_
                        refine lv_istore_n (lv' := [(3, .int w3), (2, .int (nI j1)), (6, .int (nI j2)), (5, .int w3), (4, .int (nI j1)), (0, .ref h), (1, .int (nI tn1))]) hx hb dX12_next_158 rfl hl (by decide) rfl (fun ls hl => ?_)
                        refine lv_iinc (v := nI (j1 + 1)) (lv' := [(4, .int (nI (j1 + 1))), (3, .int w3), (2, .int (nI j1)), (6, .int (nI j2)), (5, .int w3), (0, .ref h), (1, .int (nI tn1))]) hx hb dX12_next_159 hl (k := 4) rfl (nI_1 j1) (by decide) rfl (fun ls hl => ?_)
                        refine lv_goto (tgt := 26) hx hb dX12_next_162 (by decide) ?_
                        exact ih26 (j1 + 1) (nI j1) w3 H locs ls (by omega) (by omega) (lf_X12_next_f_29 h q im m_says m_isStory m_signSeen (nI tn1) c_2 tn1 tn1a tn1b rfl c_5 j1 w1 w2 k26 hj26 hk26 hpm hms c_6 n_18 c_21 j2 w3 k53 hj53 hk53 hw3 c_22 n_23 c_25 c_28) (lf_X12_next_f_30 h q im m_says m_isStory m_signSeen (nI tn1) c_2 tn1 tn1a tn1b rfl c_5 j1 w1 w2 k26 hj26 hk26 hpm hms c_6 n_18 c_21 j2 w3 k53 hj53 hk53 hw3 c_22 n_23 c_25 c_28) (hP.sub [0, 1, 2, 3] rfl)  hS (lv_sub hl [0, 1, 2, 5, 6] rfl)
                      · refine lv_goto (tgt := 159) hx hb dX12_next_150 (by decide) ?_
                        refine lv_iinc (v := nI (j1 + 1)) (lv' := [(4, .int (nI (j1 + 1))), (6, .int (nI j2)), (5, .int w3), (3, .int w2), (2, .int w1), (0, .ref h), (1, .int (nI tn1))]) hx hb dX12_next_159 hl (k := 2) rfl (nI_1 j1) (by decide) rfl (fun ls hl => ?_)
                        refine lv_goto (tgt := 26) hx hb dX12_next_162 (by decide) ?_
                        exact ih26 (j1 + 1) w1 w2 H locs ls (by omega) (by omega) (lf_X12_next_f_31 h q im m_says m_isStory m_signSeen (nI tn1) c_2 tn1 tn1a tn1b rfl c_5 j1 w1 w2 k26 hj26 hk26 hpm hms c_6 n_18 c_21 j2 w3 k53 hj53 hk53 hw3 c_22 n_23 c_25 c_28) (lf_X12_next_f_32 h q im m_says m_isStory m_signSeen (nI tn1) c_2 tn1 tn1a tn1b rfl c_5 j1 w1 w2 k26 hj26 hk26 hpm hms c_6 n_18 c_21 j2 w3 k53 hj53 hk53 hw3 c_22 n_23 c_25 c_28) (hP.sub [0, 1, 2, 3] rfl)  hS (lv_sub hl [0, 3, 4, 5, 6] rfl)
                  · have n_33 : j2 < 6 := (lf_X12_next_f_34 h q im m_says m_isStory m_signSeen (nI tn1) c_2 tn1 tn1a tn1b rfl c_5 j1 w1 w2 k26 hj26 hk26 hpm hms c_6 n_18 c_21 j2 w3 k53 hj53 hk53 hw3 c_22)
                    refine lv_iconst (v := 0) hx hb dX12_next_60 (by decide) ?_
                    refine lv_istore (lv' := [(7, .int 0), (6, .int (nI j2)), (5, .int w3), (4, .int (nI j1)), (3, .int w2), (2, .int w1), (0, .ref h), (1, .int (nI tn1))]) hx hb dX12_next_61 hl (by decide) rfl (fun ls hl => ?_)
                    have lp63 : ∀ (k63 : Nat) (j3 : Nat) (w4 : Int32) (H : Heap) (locs : List Loc) (ls : Array Slot), j3 ≤ j2 → j2 < j3 + k63 → (w4 = ptI m_says m_signSeen m_isStory j1 j2 w3 j3) → va_P D vwCl [(h, .inr (12, mG q im)), (q 75, .inl (cI, 36, .inl m_says)), (q 76, .inl (cZ, 6, .inl m_isStory)), (q 77, .inl (cI, 6, .inl m_signSeen))] H → va_S A s.heap H locs → lv_has ls 8 [(7, .int (nI j3)), (6, .int (nI j2)), (5, .int w4), (4, .int (nI j1)), (3, .int w2), (2, .int w1), (0, .ref h), (1, .int (nI tn1))] → W p l e (rmX 2 0 0) s m ([.ref h, .int (nI tn1)] : List Value).toArray below meth c H locs 0 0 Q (F0 m 63 ls []) := by
                      intro k63
                      induction k63 with
                      | zero =>
                        intro j3 w4 H locs ls hj63 hk63 hw4 hP hS hl
                        exact absurd hk63 (by omega)
                      | succ k63 ih63 =>
                        intro j3 w4 H locs ls hj63 hk63 hw4 hP hS hl
                        refine lv_iload hx hb dX12_next_63 (lv_at hl 0 rfl) ?_
                        refine lv_iload hx hb dX12_next_65 (lv_at hl 1 rfl) ?_
                        refine lv_icmp_ge (tgt := 133) hx hb dX12_next_67 (by decide) (fun c_35 => ?_) (fun c_35 => ?_)
                        · have n_36 : j2 ≤ j3 := (lf_X12_next_f_37 h q im m_says m_isStory m_signSeen (nI tn1) c_2 tn1 tn1a tn1b rfl c_5 j1 w1 w2 k26 hj26 hk26 hpm hms c_6 n_18 c_21 j2 w3 k53 hj53 hk53 hw3 c_22 n_33 j3 w4 k63 hj63 hk63 hw4 c_35)
                          refine lv_iinc (v := nI (j2 + 1)) (lv' := [(6, .int (nI (j2 + 1))), (7, .int (nI j3)), (5, .int w4), (4, .int (nI j1)), (3, .int w2), (2, .int w1), (0, .ref h), (1, .int (nI tn1))]) hx hb dX12_next_133 hl (k := 1) rfl (nI_1 j2) (by decide) rfl (fun ls hl => ?_)
                          refine lv_goto (tgt := 53) hx hb dX12_next_136 (by decide) ?_
                          exact ih53 (j2 + 1) w4 H locs ls (by omega) (by omega) (lf_X12_next_f_38 h q im m_says m_isStory m_signSeen (nI tn1) c_2 tn1 tn1a tn1b rfl c_5 j1 w1 w2 k26 hj26 hk26 hpm hms c_6 n_18 c_21 j2 w3 k53 hj53 hk53 hw3 c_22 n_33 j3 w4 k63 hj63 hk63 hw4 c_35 n_36) (hP.sub [0, 1, 2, 3] rfl)  hS (lv_sub hl [0, 2, 3, 4, 5, 6, 7] rfl)
                        · have n_39 : j3 < j2 := (lf_X12_next_f_40 h q im m_says m_isStory m_signSeen (nI tn1) c_2 tn1 tn1a tn1b rfl c_5 j1 w1 w2 k26 hj26 hk26 hpm hms c_6 n_18 c_21 j2 w3 k53 hj53 hk53 hw3 c_22 n_33 j3 w4 k63 hj63 hk63 hw4 c_35)
                          refine lv_iload hx hb dX12_next_70 (lv_at hl 2 rfl) ?_
                          refine lv_aload_n hx hb dX12_next_72 rfl (lv_at hl 6 rfl) ?_
                          refine lv_iload hx hb dX12_next_73 (lv_at hl 1 rfl) ?_
                          refine eRi (va_runV (As := [.int (nI j2)]) (rest := [.int w4]) ⟨hx, hb, hml, hown, hts⟩ (c_X12_canBe_f l D cI cB cZ cJ tx h q im m_says m_isStory m_signSeen j2 (lf_X12_next_f_41 h q im m_says m_isStory m_signSeen (nI tn1) c_2 tn1 tn1a tn1b rfl c_5 j1 w1 w2 k26 hj26 hk26 hpm hms c_6 n_18 c_21 j2 w3 k53 hj53 hk53 hw3 c_22 n_33 j3 w4 k63 hj63 hk63 hw4 c_35 n_39) H.size) (zV hts k_2046 v_X12_canBe ⟨Nat.le_of_ble_eq_true rfl, Nat.le_of_ble_eq_true rfl⟩) (pV (pxS hK hP hD [0, 1, 2, 3] (by decide) rfl) hK hP 0 rfl rfl) rfl rfl hl.1 rfl (lv_room (Nat.le_of_ble_eq_true rfl)) dX12_next_75 ⟨Nat.le_of_ble_eq_true rfl, Nat.le_of_ble_eq_true rfl⟩) hP hS hA (fun r_42 H locs wr_42 hP hS => ?_)
                          rcases wr_42 with ⟨rfl, hcn42⟩ | ⟨rfl, hcn42⟩
                          · refine lv_if_eq (tgt := 123) hx hb dX12_next_78 (by decide) (fun _ => ?_) (fun c => absurd c (by decide))
                            refine lv_iconst (v := 0) hx hb dX12_next_123 (by decide) ?_
                            refine lv_iadd hx hb dX12_next_124 ?_
                            refine lv_topi (fun x_43 ex_43 => ?_)
                            refine lv_istore (lv' := [(5, .int x_43), (7, .int (nI j3)), (6, .int (nI j2)), (4, .int (nI j1)), (3, .int w2), (2, .int w1), (0, .ref h), (1, .int (nI tn1))]) hx hb dX12_next_125 hl (by decide) rfl (fun ls hl => ?_)
                            refine lv_iinc (v := nI (j3 + 1)) (lv' := [(7, .int (nI (j3 + 1))), (5, .int x_43), (6, .int (nI j2)), (4, .int (nI j1)), (3, .int w2), (2, .int w1), (0, .ref h), (1, .int (nI tn1))]) hx hb dX12_next_127 hl (k := 1) rfl (nI_1 j3) (by decide) rfl (fun ls hl => ?_)
                            refine lv_goto (tgt := 63) hx hb dX12_next_130 (by decide) ?_
                            exact ih63 (j3 + 1) x_43 H locs ls (by omega) (by omega) (lf_X12_next_f_44 h q im m_says m_isStory m_signSeen (nI tn1) c_2 tn1 tn1a tn1b rfl c_5 j1 w1 w2 k26 hj26 hk26 hpm hms c_6 n_18 c_21 j2 w3 k53 hj53 hk53 hw3 c_22 n_33 j3 w4 k63 hj63 hk63 hw4 c_35 n_39 hcn42 x_43 ex_43) (hP.sub [0, 1, 2, 3] rfl)  hS (lv_sub hl [0, 2, 1, 3, 4, 5, 6, 7] rfl)
                          · refine lv_if_eq (tgt := 123) hx hb dX12_next_78 (by decide) (fun c => absurd c (by decide)) (fun _ => ?_)
                            refine lv_aload_n hx hb dX12_next_81 rfl (lv_at hl 6 rfl) ?_
                            refine lv_iload hx hb dX12_next_82 (lv_at hl 0 rfl) ?_
                            refine eRi (va_runV (As := [.int (nI j3)]) (rest := [.int w4]) ⟨hx, hb, hml, hown, hts⟩ (c_X12_canBe_f l D cI cB cZ cJ tx h q im m_says m_isStory m_signSeen j3 (lf_X12_next_f_45 h q im m_says m_isStory m_signSeen (nI tn1) c_2 tn1 tn1a tn1b rfl c_5 j1 w1 w2 k26 hj26 hk26 hpm hms c_6 n_18 c_21 j2 w3 k53 hj53 hk53 hw3 c_22 n_33 j3 w4 k63 hj63 hk63 hw4 c_35 n_39 hcn42) H.size) (zV hts k_2046 v_X12_canBe ⟨Nat.le_of_ble_eq_true rfl, Nat.le_of_ble_eq_true rfl⟩) (pV (pxS hK hP hD [0, 1, 2, 3] (by decide) rfl) hK hP 0 rfl rfl) rfl rfl hl.1 rfl (lv_room (Nat.le_of_ble_eq_true rfl)) dX12_next_84 ⟨Nat.le_of_ble_eq_true rfl, Nat.le_of_ble_eq_true rfl⟩) hP hS hA (fun r_46 H locs wr_46 hP hS => ?_)
                            rcases wr_46 with ⟨rfl, hcn46⟩ | ⟨rfl, hcn46⟩
                            · refine lv_if_eq (tgt := 123) hx hb dX12_next_87 (by decide) (fun _ => ?_) (fun c => absurd c (by decide))
                              refine lv_iconst (v := 0) hx hb dX12_next_123 (by decide) ?_
                              refine lv_iadd hx hb dX12_next_124 ?_
                              refine lv_topi (fun x_47 ex_47 => ?_)
                              refine lv_istore (lv' := [(5, .int x_47), (7, .int (nI j3)), (6, .int (nI j2)), (4, .int (nI j1)), (3, .int w2), (2, .int w1), (0, .ref h), (1, .int (nI tn1))]) hx hb dX12_next_125 hl (by decide) rfl (fun ls hl => ?_)
                              refine lv_iinc (v := nI (j3 + 1)) (lv' := [(7, .int (nI (j3 + 1))), (5, .int x_47), (6, .int (nI j2)), (4, .int (nI j1)), (3, .int w2), (2, .int w1), (0, .ref h), (1, .int (nI tn1))]) hx hb dX12_next_127 hl (k := 1) rfl (nI_1 j3) (by decide) rfl (fun ls hl => ?_)
                              refine lv_goto (tgt := 63) hx hb dX12_next_130 (by decide) ?_
                              exact ih63 (j3 + 1) x_47 H locs ls (by omega) (by omega) (lf_X12_next_f_48 h q im m_says m_isStory m_signSeen (nI tn1) c_2 tn1 tn1a tn1b rfl c_5 j1 w1 w2 k26 hj26 hk26 hpm hms c_6 n_18 c_21 j2 w3 k53 hj53 hk53 hw3 c_22 n_33 j3 w4 k63 hj63 hk63 hw4 c_35 n_39 hcn42 hcn46 x_47 ex_47) (hP.sub [0, 1, 2, 3] rfl)  hS (lv_sub hl [0, 2, 1, 3, 4, 5, 6, 7] rfl)
                            · refine lv_if_eq (tgt := 123) hx hb dX12_next_87 (by decide) (fun c => absurd c (by decide)) (fun _ => ?_)
                              refine lv_aload_n hx hb dX12_next_90 rfl (lv_at hl 6 rfl) ?_
                              refine va_get (D := D) (ci := 12) (v := .ref (q 75)) (C := RX12) (T := TX12) (N := 81) hx hb hts inT_X12 hown hK.1 hP 0 rfl rfl 75 (by decide) (hts _ k_1428) (fun _ h9 => h9) rfl dX12_next_91 ?_
                              refine lv_bipush (v := 6) hx hb dX12_next_94 (by decide) ?_
                              refine lv_iload hx hb dX12_next_96 (lv_at hl 1 rfl) ?_
                              refine lv_imul hx hb dX12_next_98 ?_
                              refine lv_topv (y := nI (6 * j2)) (pk_mul 6 j2) ?_
                              refine lv_iload hx hb dX12_next_99 (lv_at hl 3 rfl) ?_
                              refine lv_iadd hx hb dX12_next_101 ?_
                              refine lv_topv (y := nI ((6 * j2) + j1)) (nI_add (6 * j2) j1) ?_
                              refine lt_i (j := ((6 * j2) + j1)) hx hb hK hP 1 rfl (lf_X12_next_f_49 h q im m_says m_isStory m_signSeen (nI tn1) c_2 tn1 tn1a tn1b rfl c_5 j1 w1 w2 k26 hj26 hk26 hpm hms c_6 n_18 c_21 j2 w3 k53 hj53 hk53 hw3 c_22 n_33 j3 w4 k63 hj63 hk63 hw4 c_35 n_39 hcn42 hcn46) (by decide) dX12_next_102 ?_
                              refine lv_aload_n hx hb dX12_next_103 rfl (lv_at hl 6 rfl) ?_
                              refine va_get (D := D) (ci := 12) (v := .ref (q 75)) (C := RX12) (T := TX12) (N := 81) hx hb hts inT_X12 hown hK.1 hP 0 rfl rfl 75 (by decide) (hts _ k_1428) (fun _ h9 => h9) rfl dX12_next_104 ?_
                              refine lv_bipush (v := 6) hx hb dX12_next_107 (by decide) ?_
                              refine lv_iload hx hb dX12_next_109 (lv_at hl 0 rfl) ?_
                              refine lv_imul hx hb dX12_next_111 ?_
                              refine lv_topv (y := nI (6 * j3)) (pk_mul 6 j3) ?_
                              refine lv_iload hx hb dX12_next_112 (lv_at hl 3 rfl) ?_
                              refine lv_iadd hx hb dX12_next_114 ?_
                              refine lv_topv (y := nI ((6 * j3) + j1)) (nI_add (6 * j3) j1) ?_
                              refine lt_i (j := ((6 * j3) + j1)) hx hb hK hP 1 rfl (lf_X12_next_f_50 h q im m_says m_isStory m_signSeen (nI tn1) c_2 tn1 tn1a tn1b rfl c_5 j1 w1 w2 k26 hj26 hk26 hpm hms c_6 n_18 c_21 j2 w3 k53 hj53 hk53 hw3 c_22 n_33 j3 w4 k63 hj63 hk63 hw4 c_35 n_39 hcn42 hcn46) (by decide) dX12_next_115 ?_
                              refine lv_isub hx hb dX12_next_116 ?_
                              refine lv_topi (fun x_51 ex_51 => ?_)
                              refine eRi (va_runS (As := [.int x_51]) (rest := [.int w4]) ⟨hx, hb, hml, hown, hts⟩ (c_X12_plain_f l D cI cB cZ cJ tx x_51 H.size) (zS hts k_1895 v_X12_plain ⟨Nat.le_of_ble_eq_true rfl, Nat.le_of_ble_eq_true rfl⟩) (px0 hK) rfl rfl hl.1 rfl (lv_room (Nat.le_of_ble_eq_true rfl)) dX12_next_117 ⟨Nat.le_of_ble_eq_true rfl, Nat.le_of_ble_eq_true rfl⟩) hP hS hA (fun r_52 H locs wr_52 hP hS => ?_)
                              subst wr_52
                              refine lv_goto (tgt := 124) hx hb dX12_next_120 (by decide) ?_
                              refine lv_iadd hx hb dX12_next_124 ?_
                              refine lv_topi (fun x_53 ex_53 => ?_)
                              refine lv_istore (lv' := [(5, .int x_53), (7, .int (nI j3)), (6, .int (nI j2)), (4, .int (nI j1)), (3, .int w2), (2, .int w1), (0, .ref h), (1, .int (nI tn1))]) hx hb dX12_next_125 hl (by decide) rfl (fun ls hl => ?_)
                              refine lv_iinc (v := nI (j3 + 1)) (lv' := [(7, .int (nI (j3 + 1))), (5, .int x_53), (6, .int (nI j2)), (4, .int (nI j1)), (3, .int w2), (2, .int w1), (0, .ref h), (1, .int (nI tn1))]) hx hb dX12_next_127 hl (k := 1) rfl (nI_1 j3) (by decide) rfl (fun ls hl => ?_)
                              refine lv_goto (tgt := 63) hx hb dX12_next_130 (by decide) ?_
                              exact ih63 (j3 + 1) x_53 H locs ls (by omega) (by omega) (lf_X12_next_f_54 h q im m_says m_isStory m_signSeen (nI tn1) c_2 tn1 tn1a tn1b rfl c_5 j1 w1 w2 k26 hj26 hk26 hpm hms c_6 n_18 c_21 j2 w3 k53 hj53 hk53 hw3 c_22 n_33 j3 w4 k63 hj63 hk63 hw4 c_35 n_39 hcn42 hcn46 x_51 ex_51 x_53 ex_53) (hP.sub [0, 1, 2, 3] rfl)  hS (lv_sub hl [0, 2, 1, 3, 4, 5, 6, 7] rfl)
                    exact lp63 (j2 + 1) 0 w3 H locs ls (by omega) (by omega) (lf_X12_next_f_55 h q im m_says m_isStory m_signSeen (nI tn1) c_2 tn1 tn1a tn1b rfl c_5 j1 w1 w2 k26 hj26 hk26 hpm hms c_6 n_18 c_21 j2 w3 k53 hj53 hk53 hw3 c_22 n_33) (hP.sub [0, 1, 2, 3] rfl)  hS (lv_sub hl [0, 1, 2, 3, 4, 5, 6, 7] rfl)
              exact lp53 (6 + 1) 0 0 H locs ls (by omega) (by omega) (lf_X12_next_f_56 h q im m_says m_isStory m_signSeen (nI tn1) c_2 tn1 tn1a tn1b rfl c_5 j1 w1 w2 k26 hj26 hk26 hpm hms c_6 n_18 c_21) (hP.sub [0, 1, 2, 3] rfl)  hS (lv_sub hl [0, 1, 2, 3, 4, 5, 6] rfl)
            · refine lv_goto (tgt := 159) hx hb dX12_next_44 (by decide) ?_
              refine lv_iinc (v := nI (j1 + 1)) (lv' := [(4, .int (nI (j1 + 1))), (3, .int w2), (2, .int w1), (0, .ref h), (1, .int (nI tn1))]) hx hb dX12_next_159 hl (k := 0) rfl (nI_1 j1) (by decide) rfl (fun ls hl => ?_)
              refine lv_goto (tgt := 26) hx hb dX12_next_162 (by decide) ?_
              exact ih26 (j1 + 1) w1 w2 H locs ls (by omega) (by omega) (lf_X12_next_f_57 h q im m_says m_isStory m_signSeen (nI tn1) c_2 tn1 tn1a tn1b rfl c_5 j1 w1 w2 k26 hj26 hk26 hpm hms c_6 n_18 c_21) (lf_X12_next_f_58 h q im m_says m_isStory m_signSeen (nI tn1) c_2 tn1 tn1a tn1b rfl c_5 j1 w1 w2 k26 hj26 hk26 hpm hms c_6 n_18 c_21) (hP.sub [0, 1, 2, 3] rfl)  hS (lv_sub hl [0, 1, 2, 3, 4] rfl)
      exact lp26 (6 + 1) 0 (-1) 0 H locs ls (by omega) (by omega) (lf_X12_next_f_59 h q im m_says m_isStory m_signSeen (nI tn1) c_2 tn1 tn1a tn1b rfl c_5) (lf_X12_next_f_60 h q im m_says m_isStory m_signSeen (nI tn1) c_2 tn1 tn1a tn1b rfl c_5) (hP.sub [0, 1, 2, 3] rfl)  hS (lv_sub hl [0, 1, 2, 3, 4] rfl)
    · refine lv_iconst (v := (-1)) hx hb dX12_next_17 (by decide) ?_
      rw [hQ]
      exact W.iret (v := (-1)) hx hb hr (fun tt9 ht hW => ⟨⟨((-1) : Int32), (), rfl, (lf_X12_next_f_61 h q im m_says m_isStory m_signSeen (nI tn1) c_2 tn1 tn1a tn1b rfl c_5), trivial⟩, hS.F ht⟩) hS.2.2 dX12_next_18 hlocks

/-! THE CLAIM OUT OF ONE WALK OF THE LAW'S BODY. Your part is whole_start (and what it stands on); all else here is the same for every law, but numbers. -/
def R_law : String := "NailStainLaw"
def lw_P (b : Addr) (xs : List Int32) (args : Array Value) (s : State) : Prop := args = #[.ref b] ∧ s.IntsAt b xs ∧ xs.length ≤ 3584 ∧ (Jvm.Cond.and given_1 narrow_1).before args s = true
def lw_Q (_ : Array Value) (s : State) (o : Outcome) (t : State) : Prop := o = .returned (some (.int 1)) ∧ Framed s o t [] 600000 7302250
def lw_Z (below : List Frame) (a : Array Value) (s : State) : State → Prop := fun t => ∃ o, t.status = .running ∧ Ended t below o ∧ lw_Q a s o t
/-- the law's own end, with 1 on the stack, nothing written that was there before, its room as the claim has it -/
theorem lw_ret {p : Program} {l : Launch} {e : Env} {s : State} {m : MethodId} {below : List Frame} {meth : Method} {c : Code} {b : Nat} (hx : p.tables.exec = Jvm.exec) (hb : c.code = code) (hr : meth.sig.returnType = ret) (hlocks : meth.locks = false) {pc : Nat} {H : Heap} {ls : Array Slot} (hdg : decode code pc = .ok (.ireturn, 1)) : W p l e room_1 s m #[Value.ref b] below meth c H [] 600000 7302250 (lw_Z below #[Value.ref b] s) (F0 m pc ls [.int 1]) := by
  intro T hT X
  obtain ⟨fs, hret, hrun, hended, hW, hframe⟩ := X.leave (v := some (.int 1)) (hlocks := hlocks) (fun h => by rw [hr] at h; cases h)
  have hmeth' : T.vm.method? m = some meth := X.method'
  refine ⟨T.setFrames fs, ?_, .returned (some (.int 1)), hrun, hended, rfl, ⟨_, rfl⟩, hW, hframe⟩
  jvm_step X.here [X.here.top, hx, hb, hdg, hmeth', hr, ret, narrow_b1]
  (try refine ⟨rfl, ?_⟩); (try refine ⟨rfl, ?_⟩)
  first | (intro acts; rw [hret _ acts rfl rfl rfl]) | rw [hret _ _ rfl rfl rfl]
  exact Steps.refl _
/-- what holds at the law's entry: the machine, the code, the tables' words (any of lw_tbl by 'hts w (by decide +kernel)'), the script of L ints xs at the cell b, what the Statement gives of the start (any of its parts by flat_of_before) -/
def lw_At (p : Program) (s : State) (m : MethodId) (meth : Method) (c : Code) (b L : Nat) (xs : Nat → Int32) : Prop :=
  p.tables.exec = Jvm.exec ∧ c.code = code ∧ meth.sig.returnType = ret ∧ c.maxLocals = 4 ∧ s.vm.findClass R_law = some m.cls ∧ (∀ w ∈ lw_tbl, w.before #[Value.ref b] s = true) ∧ va_X b L xs s s.heap ∧ b < s.heap.size ∧ meth.locks = false ∧ (Jvm.Cond.and given_1 narrow_1).before #[Value.ref b] s = true

theorem lf_X12_lies_f_1 (h : Nat) (q : Nat → Nat) (im : Nat → Int32) (ms : Nat) (mk : Nat) (m_across : Nat → Int32) (m_deep : Nat → Int32) (m_isGone : Nat → Int32) (m_isKnown : Nat → Int32) (n1 : Int32) (n2 : Int32) (n3 : Int32) (n4 : Int32) (n5 : Int32) (hf_ms : im 2 = nI ms) (hf_mk : im 3 = nI mk) (hms : ms ≤ 24) (hmk : mk ≤ 8) (hm3 : mk = 0 ∨ 3 ≤ ms) (hac : ∀ p, in3 (m_across p)) : ms ≤ 24 := by
  first | assumption | omega | decide | rfl
theorem lf_X12_lies_f_2 (h : Nat) (q : Nat → Nat) (im : Nat → Int32) (ms : Nat) (mk : Nat) (m_across : Nat → Int32) (m_deep : Nat → Int32) (m_isGone : Nat → Int32) (m_isKnown : Nat → Int32) (n1 : Int32) (n2 : Int32) (n3 : Int32) (n4 : Int32) (n5 : Int32) (hf_ms : im 2 = nI ms) (hf_mk : im 3 = nI mk) (hms : ms ≤ 24) (hmk : mk ≤ 8) (hm3 : mk = 0 ∨ 3 ≤ ms) (hac : ∀ p, in3 (m_across p)) : mk ≤ 8 := by
  first | assumption | omega | decide | rfl
theorem lf_X12_lies_f_3 (h : Nat) (q : Nat → Nat) (im : Nat → Int32) (ms : Nat) (mk : Nat) (m_across : Nat → Int32) (m_deep : Nat → Int32) (m_isGone : Nat → Int32) (m_isKnown : Nat → Int32) (n1 : Int32) (n2 : Int32) (n3 : Int32) (n4 : Int32) (n5 : Int32) (hf_ms : im 2 = nI ms) (hf_mk : im 3 = nI mk) (hms : ms ≤ 24) (hmk : mk ≤ 8) (hm3 : mk = 0 ∨ 3 ≤ ms) (hac : ∀ p, in3 (m_across p)) : mk = 0 ∨ 3 ≤ ms := by
  first | assumption | omega | decide | rfl
theorem lf_X12_lies_f_5 (h : Nat) (q : Nat → Nat) (im : Nat → Int32) (ms : Nat) (mk : Nat) (m_across : Nat → Int32) (m_deep : Nat → Int32) (m_isGone : Nat → Int32) (m_isKnown : Nat → Int32) (n1 : Int32) (n2 : Int32) (n3 : Int32) (n4 : Int32) (n5 : Int32) (hf_ms : im 2 = nI ms) (hf_mk : im 3 = nI mk) (hms : ms ≤ 24) (hmk : mk ≤ 8) (hm3 : mk = 0 ∨ 3 ≤ ms) (hac : ∀ p, in3 (m_across p)) : (∀ p, in3 ((m_across : Nat → Int32) p)) := by
  first | assumption | exact in3_upd hac (by assumption) (in3_of (Or.inr (by assumption)))
theorem lf_X12_lies_f_8 (h : Nat) (q : Nat → Nat) (im : Nat → Int32) (ms : Nat) (mk : Nat) (m_across : Nat → Int32) (m_deep : Nat → Int32) (m_isGone : Nat → Int32) (m_isKnown : Nat → Int32) (n1 : Int32) (n2 : Int32) (n3 : Int32) (n4 : Int32) (n5 : Int32) (hf_ms : im 2 = nI ms) (hf_mk : im 3 = nI mk) (hms : ms ≤ 24) (hmk : mk ≤ 8) (hm3 : mk = 0 ∨ 3 ≤ ms) (hac : ∀ p, in3 (m_across p)) (ff4 : Nat) (ss4 : Nat) (dd4 : Nat) (hff4 : ff4 < ms) (hss4 : ss4 < mk) (hdd4 : dd4 < 2) (c_7 : ¬ (((-3000) : Int32) ≤ n4 ∧ n4 ≤ 3000)) : (∀ p, in3 ((m_across : Nat → Int32) p)) := by
  first | assumption | exact in3_upd hac (by assumption) (in3_of (Or.inr (by assumption)))
theorem lf_X12_lies_f_13 (h : Nat) (q : Nat → Nat) (im : Nat → Int32) (ms : Nat) (mk : Nat) (m_across : Nat → Int32) (m_deep : Nat → Int32) (m_isGone : Nat → Int32) (m_isKnown : Nat → Int32) (n1 : Int32) (n2 : Int32) (n3 : Int32) (n4 : Int32) (n5 : Int32) (hf_ms : im 2 = nI ms) (hf_mk : im 3 = nI mk) (hms : ms ≤ 24) (hmk : mk ≤ 8) (hm3 : mk = 0 ∨ 3 ≤ ms) (hac : ∀ p, in3 (m_across p)) (ff4 : Nat) (ss4 : Nat) (dd4 : Nat) (hff4 : ff4 < ms) (hss4 : ss4 < mk) (hdd4 : dd4 < 2) (c_7 : ((-3000) : Int32) ≤ n4 ∧ n4 ≤ 3000) (c_10 : ((-3000) : Int32) ≤ n5 ∧ n5 ≤ 3000) : (16 * ff4 + 2 * ss4 + dd4) < 384 := by
  omega
theorem lf_X12_lies_f_16 (h : Nat) (q : Nat → Nat) (im : Nat → Int32) (ms : Nat) (mk : Nat) (m_across : Nat → Int32) (m_deep : Nat → Int32) (m_isGone : Nat → Int32) (m_isKnown : Nat → Int32) (n1 : Int32) (n2 : Int32) (n3 : Int32) (n4 : Int32) (n5 : Int32) (hf_ms : im 2 = nI ms) (hf_mk : im 3 = nI mk) (hms : ms ≤ 24) (hmk : mk ≤ 8) (hm3 : mk = 0 ∨ 3 ≤ ms) (hac : ∀ p, in3 (m_across p)) (ff4 : Nat) (ss4 : Nat) (dd4 : Nat) (hff4 : ff4 < ms) (hss4 : ss4 < mk) (hdd4 : dd4 < 2) (c_7 : ((-3000) : Int32) ≤ n4 ∧ n4 ≤ 3000) (c_10 : ((-3000) : Int32) ≤ n5 ∧ n5 ≤ 3000) (f_12 : Nat → Int32) (ef_12 : f_12 = upd m_across (16 * ff4 + 2 * ss4 + dd4) n4) : vp_in (nI (16 * ff4 + 2 * ss4 + dd4)) 384 := by
  first | exact vp_in_nI (by omega) (by decide) | (unfold vp_in; decide)
theorem lf_X12_lies_f_19 (h : Nat) (q : Nat → Nat) (im : Nat → Int32) (ms : Nat) (mk : Nat) (m_across : Nat → Int32) (m_deep : Nat → Int32) (m_isGone : Nat → Int32) (m_isKnown : Nat → Int32) (n1 : Int32) (n2 : Int32) (n3 : Int32) (n4 : Int32) (n5 : Int32) (hf_ms : im 2 = nI ms) (hf_mk : im 3 = nI mk) (hms : ms ≤ 24) (hmk : mk ≤ 8) (hm3 : mk = 0 ∨ 3 ≤ ms) (hac : ∀ p, in3 (m_across p)) (ff4 : Nat) (ss4 : Nat) (dd4 : Nat) (hff4 : ff4 < ms) (hss4 : ss4 < mk) (hdd4 : dd4 < 2) (c_7 : ((-3000) : Int32) ≤ n4 ∧ n4 ≤ 3000) (c_10 : ((-3000) : Int32) ≤ n5 ∧ n5 ≤ 3000) (f_12 : Nat → Int32) (ef_12 : f_12 = upd m_across (16 * ff4 + 2 * ss4 + dd4) n4) (f_15 : Nat → Int32) : vp_in (nI (16 * ff4 + 2 * ss4 + dd4)) 384 := by
  first | exact vp_in_nI (by omega) (by decide) | (unfold vp_in; decide)
theorem lf_X12_lies_f_22 (h : Nat) (q : Nat → Nat) (im : Nat → Int32) (ms : Nat) (mk : Nat) (m_across : Nat → Int32) (m_deep : Nat → Int32) (m_isGone : Nat → Int32) (m_isKnown : Nat → Int32) (n1 : Int32) (n2 : Int32) (n3 : Int32) (n4 : Int32) (n5 : Int32) (hf_ms : im 2 = nI ms) (hf_mk : im 3 = nI mk) (hms : ms ≤ 24) (hmk : mk ≤ 8) (hm3 : mk = 0 ∨ 3 ≤ ms) (hac : ∀ p, in3 (m_across p)) (ff4 : Nat) (ss4 : Nat) (dd4 : Nat) (hff4 : ff4 < ms) (hss4 : ss4 < mk) (hdd4 : dd4 < 2) (c_7 : ((-3000) : Int32) ≤ n4 ∧ n4 ≤ 3000) (c_10 : ((-3000) : Int32) ≤ n5 ∧ n5 ≤ 3000) (f_12 : Nat → Int32) (ef_12 : f_12 = upd m_across (16 * ff4 + 2 * ss4 + dd4) n4) (f_15 : Nat → Int32) (f_18 : Nat → Int32) (m_isKnown_21 : Nat → Int32) : (∀ p, in3 ((f_12 : Nat → Int32) p)) := by
  first | assumption | exact in3_upd hac (by assumption) (in3_of (Or.inr (by assumption)))
theorem lf_X12_lies_f_23 (h : Nat) (q : Nat → Nat) (im : Nat → Int32) (ms : Nat) (mk : Nat) (m_across : Nat → Int32) (m_deep : Nat → Int32) (m_isGone : Nat → Int32) (m_isKnown : Nat → Int32) (n1 : Int32) (n2 : Int32) (n3 : Int32) (n4 : Int32) (n5 : Int32) (hf_ms : im 2 = nI ms) (hf_mk : im 3 = nI mk) (hms : ms ≤ 24) (hmk : mk ≤ 8) (hm3 : mk = 0 ∨ 3 ≤ ms) (hac : ∀ p, in3 (m_across p)) (ff4 : Nat) (ss4 : Nat) (dd4 : Nat) (hff4 : ff4 < ms) (hss4 : ss4 < mk) (hdd4 : dd4 < 2) (c_7 : ((-3000) : Int32) ≤ n4 ∧ n4 ≤ 3000) (c_10 : ¬ (((-3000) : Int32) ≤ n5 ∧ n5 ≤ 3000)) : (∀ p, in3 ((m_across : Nat → Int32) p)) := by
  first | assumption | exact in3_upd hac (by assumption) (in3_of (Or.inr (by assumption)))
set_option maxHeartbeats 4000000 in
set_option maxRecDepth 100000 in
theorem c_X12_lies_f (l : Launch) (D : va_G) (cI cB cZ cJ : ClassId) (tx : List (ClassId × FieldType)) (h : Nat) (q : Nat → Nat) (im : Nat → Int32) (ms : Nat) (mk : Nat) (m_across : Nat → Int32) (m_deep : Nat → Int32) (m_isGone : Nat → Int32) (m_isKnown : Nat → Int32) (n1 : Int32) (n2 : Int32) (n3 : Int32) (n4 : Int32) (n5 : Int32) (hf_ms : im 2 = nI ms) (hf_mk : im 3 = nI mk) (hms : ms ≤ 24) (hmk : mk ≤ 8) (hm3 : mk = 0 ∨ 3 ≤ ms) (hac : ∀ p, in3 (m_across p)) : WrI l D cI cB cZ cJ tx yX12_lies cX12_lies 6 (some .boolean) 3 0 0 [.ref h, .int n1, .int n2, .int n3, .int n4, .int n5] [(h, .inr (12, mG q im)), (q 44, .inl (cI, 384, .inl m_across)), (q 45, .inl (cI, 384, .inl m_deep)), (q 46, .inl (cZ, 384, .inl m_isGone)), (q 66, .inl (cZ, 8, .inl m_isKnown))] (fun (r : Int32) (v : (Nat → Int32) × (Nat → Int32) × (Nat → Int32) × (Nat → Int32)) => (∀ p, in3 (v.1 p))) (fun v => [(h, .inr (12, mG q im)), (q 44, .inl (cI, 384, .inl v.1)), (q 45, .inl (cI, 384, .inl v.2.1)), (q 46, .inl (cZ, 384, .inl v.2.2.1)), (q 66, .inl (cZ, 8, .inl v.2.2.2))]) := by
  refine wri_of2 (by decide) (Nat.le_of_ble_eq_true rfl) ?_
  intro p e s m below meth c A ls H locs hC hK hP hD hA hS hl
  obtain ⟨hx, hb, hr, hml, hown, hts, hlocks, hin⟩ := hC
  have hown : s.vm.findClass RX12 = some m.cls := hown
  have hl : lv_has ls 6 [(0, .ref h), (1, .int n1), (2, .int n2), (3, .int n3), (4, .int n4), (5, .int n5)] := hl
  refine W_gQ (fun Q hQ => ?_)
  refine lv_aload_n hx hb dX12_lies_0 rfl (lv_at hl 0 rfl) ?_
  refine lv_iload_n hx hb dX12_lies_1 rfl (lv_at hl 1 rfl) ?_
  refine lv_iload_n hx hb dX12_lies_2 rfl (lv_at hl 2 rfl) ?_
  refine lv_iload_n hx hb dX12_lies_3 rfl (lv_at hl 3 rfl) ?_
  refine eRi (va_runV (As := [.int n1, .int n2, .int n3]) (rest := []) ⟨hx, hb, hml, hown, hts⟩ (c_X12_isRivet l D cI cB cZ cJ tx h q im ms mk n1 n2 n3 hf_ms hf_mk (lf_X12_lies_f_1 h q im ms mk m_across m_deep m_isGone m_isKnown n1 n2 n3 n4 n5 hf_ms hf_mk hms hmk hm3 hac) (lf_X12_lies_f_2 h q im ms mk m_across m_deep m_isGone m_isKnown n1 n2 n3 n4 n5 hf_ms hf_mk hms hmk hm3 hac) (lf_X12_lies_f_3 h q im ms mk m_across m_deep m_isGone m_isKnown n1 n2 n3 n4 n5 hf_ms hf_mk hms hmk hm3 hac) H.size) (zV hts k_1799 v_X12_isRivet ⟨Nat.le_of_ble_eq_true rfl, Nat.le_of_ble_eq_true rfl⟩) (pV (px1 hK hP 0 rfl) hK hP 0 rfl rfl) rfl rfl hl.1 rfl (lv_room (Nat.le_of_ble_eq_true rfl)) dX12_lies_4 ⟨Nat.le_of_ble_eq_true rfl, Nat.le_of_ble_eq_true rfl⟩) hP hS hA (fun r_4 H locs wr_4 hP hS => ?_)
  rcases wr_4 with rfl | ⟨ff4, ss4, dd4, hff4, hss4, hdd4, rfl, rfl, rfl, rfl⟩
  · refine lv_if_eq (tgt := 40) hx hb dX12_lies_7 (by decide) (fun _ => ?_) (fun c => absurd c (by decide))
    refine lv_iconst (v := 0) hx hb dX12_lies_40 (by decide) ?_
    rw [hQ]
    exact W.zret (v := 0) hx hb hr (by decide) (fun tt9 ht hW => ⟨⟨(0 : Int32), ((m_across : Nat → Int32), (m_deep : Nat → Int32), (m_isGone : Nat → Int32), (m_isKnown : Nat → Int32)), rfl, (lf_X12_lies_f_5 h q im ms mk m_across m_deep m_isGone m_isKnown n1 n2 n3 n4 n5 hf_ms hf_mk hms hmk hm3 hac), ⟨by rw [ht]; exact hP, hD⟩⟩, hS.F ht⟩) hS.2.2 dX12_lies_41 hlocks
  · refine lv_if_eq (tgt := 40) hx hb dX12_lies_7 (by decide) (fun c => absurd c (by decide)) (fun _ => ?_)
    refine lv_iload hx hb dX12_lies_10 (lv_at hl 4 rfl) ?_
    refine lv_i2l (v := n4.toInt64) hx hb dX12_lies_12 rfl ?_
    refine lv_ldc2 (v := (-3000)) hx hb hown (hts _ k_1811) dX12_lies_13 ?_
    refine lv_ldc2 (v := 3000) hx hb hown (hts _ k_1812) dX12_lies_16 ?_
    refine eRi (va_runS (As := [.long n4.toInt64, .long (-3000), .long 3000]) (rest := []) ⟨hx, hb, hml, hown, hts⟩ (c_X12_isIn l D cI cB cZ cJ tx n4.toInt64 (-3000) 3000 H.size) (zS hts k_1602 v_X12_isIn ⟨Nat.le_of_ble_eq_true rfl, Nat.le_of_ble_eq_true rfl⟩) (px0 hK) rfl rfl hl.1 rfl (lv_room (Nat.le_of_ble_eq_true rfl)) dX12_lies_19 ⟨Nat.le_of_ble_eq_true rfl, Nat.le_of_ble_eq_true rfl⟩) hP hS hA (fun r_6 H locs wr_6 hP hS => ?_)
    have wr_6 : r_6 = bi (((-3000) : Int32) ≤ n4 ∧ n4 ≤ 3000) := isIn32 (lo := (-3000)) (hi := 3000) (by decide) (by decide) wr_6
    subst wr_6
    refine lv_bi_eq (tgt := 40) hx hb dX12_lies_22 (by decide) (fun c_7 => ?_) (fun c_7 => ?_)
    · refine lv_iconst (v := 0) hx hb dX12_lies_40 (by decide) ?_
      rw [hQ]
      exact W.zret (v := 0) hx hb hr (by decide) (fun tt9 ht hW => ⟨⟨(0 : Int32), ((m_across : Nat → Int32), (m_deep : Nat → Int32), (m_isGone : Nat → Int32), (m_isKnown : Nat → Int32)), rfl, (lf_X12_lies_f_8 h q im ms mk m_across m_deep m_isGone m_isKnown (nI ff4) (nI ss4) (nI dd4) n4 n5 hf_ms hf_mk hms hmk hm3 hac ff4 ss4 dd4 hff4 hss4 hdd4 c_7), ⟨by rw [ht]; exact hP, hD⟩⟩, hS.F ht⟩) hS.2.2 dX12_lies_41 hlocks
    · refine lv_iload hx hb dX12_lies_25 (lv_at hl 5 rfl) ?_
      refine lv_i2l (v := n5.toInt64) hx hb dX12_lies_27 rfl ?_
      refine lv_ldc2 (v := (-3000)) hx hb hown (hts _ k_1811) dX12_lies_28 ?_
      refine lv_ldc2 (v := 3000) hx hb hown (hts _ k_1812) dX12_lies_31 ?_
      refine eRi (va_runS (As := [.long n5.toInt64, .long (-3000), .long 3000]) (rest := []) ⟨hx, hb, hml, hown, hts⟩ (c_X12_isIn l D cI cB cZ cJ tx n5.toInt64 (-3000) 3000 H.size) (zS hts k_1602 v_X12_isIn ⟨Nat.le_of_ble_eq_true rfl, Nat.le_of_ble_eq_true rfl⟩) (px0 hK) rfl rfl hl.1 rfl (lv_room (Nat.le_of_ble_eq_true rfl)) dX12_lies_34 ⟨Nat.le_of_ble_eq_true rfl, Nat.le_of_ble_eq_true rfl⟩) hP hS hA (fun r_9 H locs wr_9 hP hS => ?_)
      have wr_9 : r_9 = bi (((-3000) : Int32) ≤ n5 ∧ n5 ≤ 3000) := isIn32 (lo := (-3000)) (hi := 3000) (by decide) (by decide) wr_9
      subst wr_9
      refine lv_bi_ne (tgt := 42) hx hb dX12_lies_37 (by decide) (fun c_10 => ?_) (fun c_10 => ?_)
      · refine lv_aload_n hx hb dX12_lies_42 rfl (lv_at hl 0 rfl) ?_
        refine va_get (D := D) (ci := 12) (v := .ref (q 44)) (C := RX12) (T := TX12) (N := 81) hx hb hts inT_X12 hown hK.1 hP 0 rfl rfl 44 (by decide) (hts _ k_1397) (fun _ h9 => h9) rfl dX12_lies_43 ?_
        refine lv_iload_n hx hb dX12_lies_46 rfl (lv_at hl 1 rfl) ?_
        refine lv_iload_n hx hb dX12_lies_47 rfl (lv_at hl 2 rfl) ?_
        refine lv_iload_n hx hb dX12_lies_48 rfl (lv_at hl 3 rfl) ?_
        refine eRi (va_runS (As := [.int (nI ff4), .int (nI ss4), .int (nI dd4)]) (rest := [.ref (q 44)]) ⟨hx, hb, hml, hown, hts⟩ (c_X12_cellOf l D cI cB cZ cJ tx ff4 ss4 dd4 H.size) (zS hts k_1735 v_X12_cellOf ⟨Nat.le_of_ble_eq_true rfl, Nat.le_of_ble_eq_true rfl⟩) (px0 hK) rfl rfl hl.1 rfl (lv_room (Nat.le_of_ble_eq_true rfl)) dX12_lies_49 ⟨Nat.le_of_ble_eq_true rfl, Nat.le_of_ble_eq_true rfl⟩) hP hS hA (fun r_11 H locs wr_11 hP hS => ?_)
        subst wr_11
        refine lv_iload hx hb dX12_lies_52 (lv_at hl 4 rfl) ?_
        refine su_i (j := (16 * ff4 + 2 * ss4 + dd4)) hx hb hK hP hD hS 1 rfl (lf_X12_lies_f_13 h q im ms mk m_across m_deep m_isGone m_isKnown (nI ff4) (nI ss4) (nI dd4) n4 n5 hf_ms hf_mk hms hmk hm3 hac ff4 ss4 dd4 hff4 hss4 hdd4 c_7 c_10) (by first | decide | assumption) dX12_lies_54 (fun f_12 H locs ef_12 hP hD hS => ?_)
        have hP : va_P D vwCl [(h, .inr (12, mG q im)), (q 44, .inl (cI, 384, .inl f_12)), (q 45, .inl (cI, 384, .inl m_deep)), (q 46, .inl (cZ, 384, .inl m_isGone)), (q 66, .inl (cZ, 8, .inl m_isKnown))] H := hP
        have hD : va_D A [(h, .inr (12, mG q im)), (q 44, .inl (cI, 384, .inl f_12)), (q 45, .inl (cI, 384, .inl m_deep)), (q 46, .inl (cZ, 384, .inl m_isGone)), (q 66, .inl (cZ, 8, .inl m_isKnown))] := hD
        refine lv_aload_n hx hb dX12_lies_55 rfl (lv_at hl 0 rfl) ?_
        refine va_get (D := D) (ci := 12) (v := .ref (q 45)) (C := RX12) (T := TX12) (N := 81) hx hb hts inT_X12 hown hK.1 hP 0 rfl rfl 45 (by decide) (hts _ k_1398) (fun _ h9 => h9) rfl dX12_lies_56 ?_
        refine lv_iload_n hx hb dX12_lies_59 rfl (lv_at hl 1 rfl) ?_
        refine lv_iload_n hx hb dX12_lies_60 rfl (lv_at hl 2 rfl) ?_
        refine lv_iload_n hx hb dX12_lies_61 rfl (lv_at hl 3 rfl) ?_
        refine eRi (va_runS (As := [.int (nI ff4), .int (nI ss4), .int (nI dd4)]) (rest := [.ref (q 45)]) ⟨hx, hb, hml, hown, hts⟩ (c_X12_cellOf l D cI cB cZ cJ tx ff4 ss4 dd4 H.size) (zS hts k_1735 v_X12_cellOf ⟨Nat.le_of_ble_eq_true rfl, Nat.le_of_ble_eq_true rfl⟩) (px0 hK) rfl rfl hl.1 rfl (lv_room (Nat.le_of_ble_eq_true rfl)) dX12_lies_62 ⟨Nat.le_of_ble_eq_true rfl, Nat.le_of_ble_eq_true rfl⟩) hP hS hA (fun r_14 H locs wr_14 hP hS => ?_)
        subst wr_14
        refine lv_iload hx hb dX12_lies_65 (lv_at hl 5 rfl) ?_
        refine st_i hx hb hK hP hD hS 2 rfl (lf_X12_lies_f_16 h q im ms mk m_across m_deep m_isGone m_isKnown (nI ff4) (nI ss4) (nI dd4) n4 n5 hf_ms hf_mk hms hmk hm3 hac ff4 ss4 dd4 hff4 hss4 hdd4 c_7 c_10 f_12 ef_12) dX12_lies_67 (fun f_15 H locs hP hD hS => ?_)
        have hP : va_P D vwCl [(h, .inr (12, mG q im)), (q 44, .inl (cI, 384, .inl f_12)), (q 45, .inl (cI, 384, .inl f_15)), (q 46, .inl (cZ, 384, .inl m_isGone)), (q 66, .inl (cZ, 8, .inl m_isKnown))] H := hP
        have hD : va_D A [(h, .inr (12, mG q im)), (q 44, .inl (cI, 384, .inl f_12)), (q 45, .inl (cI, 384, .inl f_15)), (q 46, .inl (cZ, 384, .inl m_isGone)), (q 66, .inl (cZ, 8, .inl m_isKnown))] := hD
        refine lv_aload_n hx hb dX12_lies_68 rfl (lv_at hl 0 rfl) ?_
        refine va_get (D := D) (ci := 12) (v := .ref (q 46)) (C := RX12) (T := TX12) (N := 81) hx hb hts inT_X12 hown hK.1 hP 0 rfl rfl 46 (by decide) (hts _ k_1399) (fun _ h9 => h9) rfl dX12_lies_69 ?_
        refine lv_iload_n hx hb dX12_lies_72 rfl (lv_at hl 1 rfl) ?_
        refine lv_iload_n hx hb dX12_lies_73 rfl (lv_at hl 2 rfl) ?_
        refine lv_iload_n hx hb dX12_lies_74 rfl (lv_at hl 3 rfl) ?_
        refine eRi (va_runS (As := [.int (nI ff4), .int (nI ss4), .int (nI dd4)]) (rest := [.ref (q 46)]) ⟨hx, hb, hml, hown, hts⟩ (c_X12_cellOf l D cI cB cZ cJ tx ff4 ss4 dd4 H.size) (zS hts k_1735 v_X12_cellOf ⟨Nat.le_of_ble_eq_true rfl, Nat.le_of_ble_eq_true rfl⟩) (px0 hK) rfl rfl hl.1 rfl (lv_room (Nat.le_of_ble_eq_true rfl)) dX12_lies_75 ⟨Nat.le_of_ble_eq_true rfl, Nat.le_of_ble_eq_true rfl⟩) hP hS hA (fun r_17 H locs wr_17 hP hS => ?_)
        subst wr_17
        refine lv_iconst (v := 0) hx hb dX12_lies_78 (by decide) ?_
        refine st_z hx hb hK hP hD hS 3 rfl (lf_X12_lies_f_19 h q im ms mk m_across m_deep m_isGone m_isKnown (nI ff4) (nI ss4) (nI dd4) n4 n5 hf_ms hf_mk hms hmk hm3 hac ff4 ss4 dd4 hff4 hss4 hdd4 c_7 c_10 f_12 ef_12 f_15) dX12_lies_79 (fun f_18 H locs hP hD hS => ?_)
        have hP : va_P D vwCl [(h, .inr (12, mG q im)), (q 44, .inl (cI, 384, .inl f_12)), (q 45, .inl (cI, 384, .inl f_15)), (q 46, .inl (cZ, 384, .inl f_18)), (q 66, .inl (cZ, 8, .inl m_isKnown))] H := hP
        have hD : va_D A [(h, .inr (12, mG q im)), (q 44, .inl (cI, 384, .inl f_12)), (q 45, .inl (cI, 384, .inl f_15)), (q 46, .inl (cZ, 384, .inl f_18)), (q 66, .inl (cZ, 8, .inl m_isKnown))] := hD
        refine lv_aload_n hx hb dX12_lies_80 rfl (lv_at hl 0 rfl) ?_
        refine eWvP (va_runV (As := []) (rest := []) ⟨hx, hb, hml, hown, hts⟩ (c_X12_changes l D cI cB cZ cJ tx h q im m_isKnown H.size) (zV hts k_1765 v_X12_changes ⟨Nat.le_of_ble_eq_true rfl, Nat.le_of_ble_eq_true rfl⟩) (pV (pxS hK hP hD [0, 4] (by decide) rfl) hK hP 0 rfl rfl) rfl rfl hl.1 rfl (lv_room (Nat.le_of_ble_eq_true rfl)) dX12_lies_81 ⟨Nat.le_of_ble_eq_true rfl, Nat.le_of_ble_eq_true rfl⟩) hP hD hS hA [0, 4] [some 0, none, none, none, some 1] rfl (by decide +kernel) (fun _ => rfl) (fun u_21 H locs wr_20 hP hD hS => ?_)
        obtain ⟨m_isKnown_21, rfl⟩ : ∃ z, z = u_21 := ⟨_, rfl⟩
        have hP : va_P D vwCl [(h, .inr (12, mG q im)), (q 44, .inl (cI, 384, .inl f_12)), (q 45, .inl (cI, 384, .inl f_15)), (q 46, .inl (cZ, 384, .inl f_18)), (q 66, .inl (cZ, 8, .inl m_isKnown_21))] H := hP
        have hD : va_D A [(h, .inr (12, mG q im)), (q 44, .inl (cI, 384, .inl f_12)), (q 45, .inl (cI, 384, .inl f_15)), (q 46, .inl (cZ, 384, .inl f_18)), (q 66, .inl (cZ, 8, .inl m_isKnown_21))] := hD
        refine lv_iconst (v := 1) hx hb dX12_lies_84 (by decide) ?_
        rw [hQ]
        exact W.zret (v := 1) hx hb hr (by decide) (fun tt9 ht hW => ⟨⟨(1 : Int32), ((f_12 : Nat → Int32), (f_15 : Nat → Int32), (f_18 : Nat → Int32), (m_isKnown_21 : Nat → Int32)), rfl, (lf_X12_lies_f_22 h q im ms mk m_across m_deep m_isGone m_isKnown (nI ff4) (nI ss4) (nI dd4) n4 n5 hf_ms hf_mk hms hmk hm3 hac ff4 ss4 dd4 hff4 hss4 hdd4 c_7 c_10 f_12 ef_12 f_15 f_18 m_isKnown_21), ⟨by rw [ht]; exact hP, hD⟩⟩, hS.F ht⟩) hS.2.2 dX12_lies_85 hlocks
      · refine lv_iconst (v := 0) hx hb dX12_lies_40 (by decide) ?_
        rw [hQ]
        exact W.zret (v := 0) hx hb hr (by decide) (fun tt9 ht hW => ⟨⟨(0 : Int32), ((m_across : Nat → Int32), (m_deep : Nat → Int32), (m_isGone : Nat → Int32), (m_isKnown : Nat → Int32)), rfl, (lf_X12_lies_f_23 h q im ms mk m_across m_deep m_isGone m_isKnown (nI ff4) (nI ss4) (nI dd4) n4 n5 hf_ms hf_mk hms hmk hm3 hac ff4 ss4 dd4 hff4 hss4 hdd4 c_7 c_10), ⟨by rw [ht]; exact hP, hD⟩⟩, hS.F ht⟩) hS.2.2 dX12_lies_41 hlocks

abbrev lawW (cI cB cZ cJ cT : ClassId) (a : Nat → Nat) (t0 : Nat → Nat) (t1 : Nat → Nat) (t2 : Nat → Nat) (t3 : Nat → Nat) (u9 : Nat) (u10 : Nat) (ap : Int32) (pv : Value) (pe : Int32) (pp : Int32) (ps : Int32) (po : Int32) (pf : Int32) (tu : Nat) (tb : Nat → Int32) (un_0 : Nat) (k1_0 : Nat) (p1_0 : Nat) (rf_0 : Int32) (fs_0 : Nat → Int32) (fk_0 : Nat → Int32) (fa3_0 : Nat → Int32) (fa4_0 : Nat → Int32) (fa5_0 : Nat → Int32) (un_1 : Nat) (k1_1 : Nat) (p1_1 : Nat) (rf_1 : Int32) (fs_1 : Nat → Int32) (fk_1 : Nat → Int32) (fa3_1 : Nat → Int32) (fa4_1 : Nat → Int32) (fa5_1 : Nat → Int32) (un_2 : Nat) (k1_2 : Nat) (p1_2 : Nat) (rf_2 : Int32) (fs_2 : Nat → Int32) (fk_2 : Nat → Int32) (fa3_2 : Nat → Int32) (fa4_2 : Nat → Int32) (fa5_2 : Nat → Int32) (un_3 : Nat) (k1_3 : Nat) (p1_3 : Nat) (rf_3 : Int32) (fs_3 : Nat → Int32) (fk_3 : Nat → Int32) (fa3_3 : Nat → Int32) (fa4_3 : Nat → Int32) (fa5_3 : Nat → Int32) (sl : Nat → Int32) (sn : Nat) (sk : Nat) (scu : Int32) (sch : Int32) (g0 : Nat → Int32) (g1 : Nat → Int32) (g2 : Nat → Int32) (g3 : Nat → Int32) (g4 : Nat → Int32) (g5 : Nat → Int32) (g6 : Nat → Int32) (dm : Nat) (d0 : Nat → Int32) (d1 : Nat → Int32) (d2 : Nat → Int32) (d3 : Nat → Int32) (d4 : Nat → Int32) (l0 : Nat → Int32) (l1 : Nat → Int32) (l2 : Nat → Int32) (l3 : Nat → Int32) (l4 : Nat → Int64) (l5 : Nat → Int32) (l6 : Nat → Int32) (l7 : Nat → Int32) (l8 : Nat → Nat) (l9 : Nat → Int64) (l10 : Nat → Int64) (hm : Nat) (h0 : Nat → Int32) (h1 : Nat → Int32) (h2 : Nat → Int32) (h3 : Nat → Int32) (zs : Nat) (zo : Nat) (zh : Nat) (zx : Nat) (zg : Nat → Int32) (ot : Nat → Int32) (bc : Int32) (br : Int32) (bm : Int32) (ba : Int32) (bp : Int32) (pc_ : Nat → Int32) (y0 : Nat → Int32) (y1 : Nat → Int32) (y2 : Nat → Int32) (h : Nat) (q : Nat → Nat) (im : Nat → Int32) (m_tape : Nat → Int32) (m_many : Nat → Nat) (m_clauseLetter : Nat → Int32) (m_sumFrom : Nat → Nat) (m_codeFrom : Nat → Nat) (m_codeTo : Nat → Nat) (m_code : Nat → Int32) (m_codeArg : Nat → Int32) (m_newLetter : Nat → Int32) (m_newSum : Nat → Nat) (m_newFrom : Nat → Nat) (m_newTo : Nat → Nat) (m_newCode : Nat → Int32) (m_newArg : Nat → Int32) (m_stack : Nat → Int32) (m_worth : Nat → Int32) (m_isRefused : Nat → Int32) (m_across : Nat → Int32) (m_deep : Nat → Int32) (m_isGone : Nat → Int32) (m_sizeOf : Nat → Nat) (m_mounds : Nat → Int32) (m_hasMark : Nat → Int32) (m_markAcross : Nat → Int32) (m_markDeep : Nat → Int32) (m_gaps : Nat → Int32) (m_lowEnd : Nat → Int32) (m_highEnd : Nat → Int32) (m_seenLow : Nat → Int32) (m_seenHigh : Nat → Int32) (m_isThere : Nat → Int32) (m_knownOut : Nat → Int32) (m_isKnown : Nat → Int32) (m_isTold : Nat → Int32) (m_batten : Nat → Int32) (m_squares : Nat → Int64) (m_rest : Nat → Int64) (m_often : Nat → Int32) (m_tholes : Nat → Int32) (m_phosphors : Nat → Int32) (m_says : Nat → Int32) (m_isStory : Nat → Int32) (m_signSeen : Nat → Int32) (m_fewest : Nat → Int32) (tp : Nat) (ms : Nat) (mk : Nat) (md : Nat) (mz : Nat) : va_W := [(a 0, .inr (11, [.ref (a 1), .ref (a 2), .ref (a 3), .ref (a 4), .ref (a 5), .ref (a 6), .ref (a 7), .ref (a 8), .ref (a 9), .ref (a 10), .ref (a 11), .ref (a 12), .int ap])), (a 2, .inr (3, [.ref (a 1), pv, .int pe, .int pp, .int ps, .int po, .int pf])), (a 1, .inr (8, [.ref (a 17), .int (nI tu)])), (a 17, .inl (cB, 220, .inl tb)), (a 3, .inl (cT, 4, .inr (.inr (.inr (.inr (tR t0 t1 t2 t3)))))), (t0 0, .inr (9, [.ref (t0 1), .ref (t0 2), .ref (t0 3), .ref (t0 4), .ref (t0 5), .int (nI un_0), .int (nI k1_0), .int (nI p1_0), .int rf_0])), (t0 1, .inl (cI, 200, .inl fs_0)), (t0 2, .inl (cI, 32, .inl fk_0)), (t0 3, .inl (cI, 14, .inl fa3_0)), (t0 4, .inl (cI, 14, .inl fa4_0)), (t0 5, .inl (cI, 14, .inl fa5_0)), (t1 0, .inr (9, [.ref (t1 1), .ref (t1 2), .ref (t1 3), .ref (t1 4), .ref (t1 5), .int (nI un_1), .int (nI k1_1), .int (nI p1_1), .int rf_1])), (t1 1, .inl (cI, 200, .inl fs_1)), (t1 2, .inl (cI, 32, .inl fk_1)), (t1 3, .inl (cI, 14, .inl fa3_1)), (t1 4, .inl (cI, 14, .inl fa4_1)), (t1 5, .inl (cI, 14, .inl fa5_1)), (t2 0, .inr (9, [.ref (t2 1), .ref (t2 2), .ref (t2 3), .ref (t2 4), .ref (t2 5), .int (nI un_2), .int (nI k1_2), .int (nI p1_2), .int rf_2])), (t2 1, .inl (cI, 200, .inl fs_2)), (t2 2, .inl (cI, 32, .inl fk_2)), (t2 3, .inl (cI, 14, .inl fa3_2)), (t2 4, .inl (cI, 14, .inl fa4_2)), (t2 5, .inl (cI, 14, .inl fa5_2)), (t3 0, .inr (9, [.ref (t3 1), .ref (t3 2), .ref (t3 3), .ref (t3 4), .ref (t3 5), .int (nI un_3), .int (nI k1_3), .int (nI p1_3), .int rf_3])), (t3 1, .inl (cI, 200, .inl fs_3)), (t3 2, .inl (cI, 32, .inl fk_3)), (t3 3, .inl (cI, 14, .inl fa3_3)), (t3 4, .inl (cI, 14, .inl fa4_3)), (t3 5, .inl (cI, 14, .inl fa5_3)), (a 4, .inl (cI, 26, .inl sl)), (a 5, .inr (4, [.ref (a 18), .ref (a 19), .ref (a 20), .ref (a 21), .ref (a 22), .ref (a 23), .ref (a 24), .int (nI sn), .int (nI sk), .int scu, .int sch])), (a 18, .inl (cI, 384, .inl g0)), (a 19, .inl (cI, 384, .inl g1)), (a 20, .inl (cI, 384, .inl g2)), (a 21, .inl (cZ, 384, .inl g3)), (a 22, .inl (cI, 24, .inl g4)), (a 23, .inl (cI, 8, .inl g5)), (a 24, .inl (cI, 26, .inl g6)), (a 6, .inr (0, [.ref (a 5), .ref (a 25), .ref (a 26), .ref (a 27), .ref (a 28), .ref (a 29), .int (nI dm)])), (a 25, .inl (cI, 1536, .inl d0)), (a 26, .inl (cI, 1536, .inl d1)), (a 27, .inl (cZ, 1536, .inl d2)), (a 28, .inl (cI, 384, .inl d3)), (a 29, .inl (cI, 384, .inl d4)), (a 7, .inr (2, [.ref (a 5), .ref (a 30), .ref (a 31), .ref (a 32), .ref (a 33), .ref (a 34), .ref (a 35), .ref (a 36), .ref (a 37), .ref (a 38), .ref u9, .ref u10])), (a 30, .inl (cI, 24, .inl l0)), (a 31, .inl (cI, 24, .inl l1)), (a 32, .inl (cZ, 24, .inl l2)), (a 33, .inl (cI, 192, .inl l3)), (a 34, .inl (cJ, 8, .inr (.inl l4))), (a 35, .inl (cZ, 8, .inl l5)), (a 36, .inl (cI, 8, .inl l6)), (a 37, .inl (cI, 8, .inl l7)), (a 38, .inl (cB, 81862, .inl (nF l8))), (u9, .inl (cJ, 3721, .inr (.inl l9))), (u10, .inl (cJ, 3721, .inr (.inl l10))), (a 8, .inr (1, [.ref (a 5), .ref (a 7), .ref (a 41), .ref (a 42), .ref (a 43), .ref (a 44), .int (nI hm)])), (a 41, .inl (cI, 24, .inl h0)), (a 42, .inl (cI, 24, .inl h1)), (a 43, .inl (cZ, 24, .inl h2)), (a 44, .inl (cI, 24, .inl h3)), (a 9, .inr (5, [.ref (a 5), .ref (a 45), .int (nI zs), .int (nI zo), .int (nI zh), .int (nI zx)])), (a 45, .inl (cI, 100, .inl zg)), (a 10, .inr (10, [.ref (a 5), .ref (a 46)])), (a 46, .inl (cI, 48, .inl ot)), (a 11, .inr (6, [.ref (a 47), .int bc, .int br, .int bm, .int ba, .int bp])), (a 47, .inl (cI, 72, .inl pc_)), (a 12, .inr (7, [.ref (a 48), .ref (a 49), .ref (a 50)])), (a 48, .inl (cI, 36, .inl y0)), (a 49, .inl (cZ, 6, .inl y1)), (a 50, .inl (cI, 6, .inl y2)), (h, .inr (12, mG q im)), (q 0, .inl (cB, 220, .inl m_tape)), (q 6, .inl (cI, 3, .inl (nF m_many))), (q 7, .inl (cI, 42, .inl m_clauseLetter)), (q 8, .inl (cI, 42, .inl (nF m_sumFrom))), (q 9, .inl (cI, 42, .inl (nF m_codeFrom))), (q 10, .inl (cI, 42, .inl (nF m_codeTo))), (q 11, .inl (cI, 600, .inl m_code)), (q 12, .inl (cI, 600, .inl m_codeArg)), (q 13, .inl (cI, 14, .inl m_newLetter)), (q 14, .inl (cI, 14, .inl (nF m_newSum))), (q 15, .inl (cI, 14, .inl (nF m_newFrom))), (q 16, .inl (cI, 14, .inl (nF m_newTo))), (q 17, .inl (cI, 200, .inl m_newCode)), (q 18, .inl (cI, 200, .inl m_newArg)), (q 28, .inl (cI, 240, .inl m_stack)), (q 42, .inl (cI, 240, .inl m_worth)), (q 43, .inl (cZ, 240, .inl m_isRefused)), (q 44, .inl (cI, 384, .inl m_across)), (q 45, .inl (cI, 384, .inl m_deep)), (q 46, .inl (cZ, 384, .inl m_isGone)), (q 47, .inl (cI, 384, .inl (nF m_sizeOf))), (q 48, .inl (cI, 24, .inl m_mounds)), (q 51, .inl (cZ, 1536, .inl m_hasMark)), (q 52, .inl (cI, 1536, .inl m_markAcross)), (q 53, .inl (cI, 1536, .inl m_markDeep)), (q 59, .inl (cI, 384, .inl m_gaps)), (q 60, .inl (cI, 24, .inl m_lowEnd)), (q 61, .inl (cI, 24, .inl m_highEnd)), (q 62, .inl (cI, 24, .inl m_seenLow)), (q 63, .inl (cI, 24, .inl m_seenHigh)), (q 64, .inl (cZ, 24, .inl m_isThere)), (q 65, .inl (cI, 8, .inl m_knownOut)), (q 66, .inl (cZ, 8, .inl m_isKnown)), (q 67, .inl (cZ, 8, .inl m_isTold)), (q 68, .inl (cI, 192, .inl m_batten)), (q 69, .inl (cJ, 8, .inr (.inl m_squares))), (q 70, .inl (cJ, 89304, .inr (.inl m_rest))), (q 72, .inl (cI, 100, .inl m_often)), (q 73, .inl (cI, 48, .inl m_tholes)), (q 74, .inl (cI, 72, .inl m_phosphors)), (q 75, .inl (cI, 36, .inl m_says)), (q 76, .inl (cZ, 6, .inl m_isStory)), (q 77, .inl (cI, 6, .inl m_signSeen)), (q 80, .inl (cI, 24, .inl m_fewest))]
def lawI (a : Nat → Nat) (t0 : Nat → Nat) (t1 : Nat → Nat) (t2 : Nat → Nat) (t3 : Nat → Nat) (u9 : Nat) (u10 : Nat) (ap : Int32) (pv : Value) (pe : Int32) (pp : Int32) (ps : Int32) (po : Int32) (pf : Int32) (tu : Nat) (tb : Nat → Int32) (un_0 : Nat) (k1_0 : Nat) (p1_0 : Nat) (rf_0 : Int32) (fs_0 : Nat → Int32) (fk_0 : Nat → Int32) (fa3_0 : Nat → Int32) (fa4_0 : Nat → Int32) (fa5_0 : Nat → Int32) (un_1 : Nat) (k1_1 : Nat) (p1_1 : Nat) (rf_1 : Int32) (fs_1 : Nat → Int32) (fk_1 : Nat → Int32) (fa3_1 : Nat → Int32) (fa4_1 : Nat → Int32) (fa5_1 : Nat → Int32) (un_2 : Nat) (k1_2 : Nat) (p1_2 : Nat) (rf_2 : Int32) (fs_2 : Nat → Int32) (fk_2 : Nat → Int32) (fa3_2 : Nat → Int32) (fa4_2 : Nat → Int32) (fa5_2 : Nat → Int32) (un_3 : Nat) (k1_3 : Nat) (p1_3 : Nat) (rf_3 : Int32) (fs_3 : Nat → Int32) (fk_3 : Nat → Int32) (fa3_3 : Nat → Int32) (fa4_3 : Nat → Int32) (fa5_3 : Nat → Int32) (sl : Nat → Int32) (sn : Nat) (sk : Nat) (scu : Int32) (sch : Int32) (g0 : Nat → Int32) (g1 : Nat → Int32) (g2 : Nat → Int32) (g3 : Nat → Int32) (g4 : Nat → Int32) (g5 : Nat → Int32) (g6 : Nat → Int32) (dm : Nat) (d0 : Nat → Int32) (d1 : Nat → Int32) (d2 : Nat → Int32) (d3 : Nat → Int32) (d4 : Nat → Int32) (l0 : Nat → Int32) (l1 : Nat → Int32) (l2 : Nat → Int32) (l3 : Nat → Int32) (l4 : Nat → Int64) (l5 : Nat → Int32) (l6 : Nat → Int32) (l7 : Nat → Int32) (l8 : Nat → Nat) (l9 : Nat → Int64) (l10 : Nat → Int64) (hm : Nat) (h0 : Nat → Int32) (h1 : Nat → Int32) (h2 : Nat → Int32) (h3 : Nat → Int32) (zs : Nat) (zo : Nat) (zh : Nat) (zx : Nat) (zg : Nat → Int32) (ot : Nat → Int32) (bc : Int32) (br : Int32) (bm : Int32) (ba : Int32) (bp : Int32) (pc_ : Nat → Int32) (y0 : Nat → Int32) (y1 : Nat → Int32) (y2 : Nat → Int32) (h : Nat) (q : Nat → Nat) (im : Nat → Int32) (m_tape : Nat → Int32) (m_many : Nat → Nat) (m_clauseLetter : Nat → Int32) (m_sumFrom : Nat → Nat) (m_codeFrom : Nat → Nat) (m_codeTo : Nat → Nat) (m_code : Nat → Int32) (m_codeArg : Nat → Int32) (m_newLetter : Nat → Int32) (m_newSum : Nat → Nat) (m_newFrom : Nat → Nat) (m_newTo : Nat → Nat) (m_newCode : Nat → Int32) (m_newArg : Nat → Int32) (m_stack : Nat → Int32) (m_worth : Nat → Int32) (m_isRefused : Nat → Int32) (m_across : Nat → Int32) (m_deep : Nat → Int32) (m_isGone : Nat → Int32) (m_sizeOf : Nat → Nat) (m_mounds : Nat → Int32) (m_hasMark : Nat → Int32) (m_markAcross : Nat → Int32) (m_markDeep : Nat → Int32) (m_gaps : Nat → Int32) (m_lowEnd : Nat → Int32) (m_highEnd : Nat → Int32) (m_seenLow : Nat → Int32) (m_seenHigh : Nat → Int32) (m_isThere : Nat → Int32) (m_knownOut : Nat → Int32) (m_isKnown : Nat → Int32) (m_isTold : Nat → Int32) (m_batten : Nat → Int32) (m_squares : Nat → Int64) (m_rest : Nat → Int64) (m_often : Nat → Int32) (m_tholes : Nat → Int32) (m_phosphors : Nat → Int32) (m_says : Nat → Int32) (m_isStory : Nat → Int32) (m_signSeen : Nat → Int32) (m_fewest : Nat → Int32) (tp : Nat) (ms : Nat) (mk : Nat) (md : Nat) (mz : Nat) : Prop := (tu ≤ 220) ∧ (sn ≤ 24) ∧ (sk ≤ 8) ∧ (sk = 0 ∨ 3 ≤ sn) ∧ (dm ≤ 4) ∧ (∀ p, l8 p ≤ 60) ∧ (∀ p, l5 p = 0 ∨ l5 p = 1) ∧ (hm ≤ 22) ∧ (zs ≤ 384) ∧ (zo ≤ zs ∧ zh ≤ zs ∧ zx ≤ zo ∧ zx ≤ zh) ∧ (p1_0 ≤ 32) ∧ (∀ j, j < 200 → 0 ≤ fs_0 j) ∧ (un_0 ≤ 200) ∧ (k1_0 ≤ 14) ∧ (p1_1 ≤ 32) ∧ (∀ j, j < 200 → 0 ≤ fs_1 j) ∧ (un_1 ≤ 200) ∧ (k1_1 ≤ 14) ∧ (p1_2 ≤ 32) ∧ (∀ j, j < 200 → 0 ≤ fs_2 j) ∧ (un_2 ≤ 200) ∧ (k1_2 ≤ 14) ∧ (p1_3 ≤ 32) ∧ (∀ j, j < 200 → 0 ≤ fs_3 j) ∧ (un_3 ≤ 200) ∧ (k1_3 ≤ 14) ∧ (im 1 = nI tp) ∧ (im 2 = nI ms) ∧ (im 3 = nI mk) ∧ (im 50 = nI md) ∧ (im 71 = nI mz) ∧ (tp ≤ 220) ∧ (ms ≤ 24) ∧ (mk ≤ 8) ∧ (mk = 0 ∨ 3 ≤ ms) ∧ (md ≤ 4) ∧ (∀ p, in3 (m_across p)) ∧ (∀ p, m_sizeOf p ≤ 99) ∧ (mz ≤ 60) ∧ (mz = cN m_sizeOf ms mk 384) ∧ (∀ p, m_isTold p = 0 ∨ m_isTold p = 1) ∧ (TXS m_code m_sumFrom m_codeFrom m_codeTo m_many) ∧ (y0 = m_says) ∧ (y1 = m_isStory) ∧ (∀ i, i < 6 → y2 i = m_signSeen i) ∧ (∀ i, i < 6 → sg3 (y2 i))
