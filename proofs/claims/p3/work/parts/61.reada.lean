/-! the reference's reader: what it writes is a good row for a stack machine -/
def stp (x : Int32) (m n : Nat) : Prop := (2 < x ∧ 2 ≤ m ∧ n + 1 = m) ∨ (x = 2 ∧ 1 ≤ m ∧ n = m) ∨ ((x = 0 ∨ x = 1) ∧ n = m + 1)
def DP (c : Nat → Int32) (a : Nat) : Nat → Nat → Prop
  | 0, n => n = 0
  | k + 1, n => ∃ m, DP c a k m ∧ stp (c (a + k)) m n
theorem DP.congr {c c1 : Nat → Int32} {a : Nat} : ∀ {k n : Nat}, (∀ j, a ≤ j → j < a + k → c1 j = c j) → DP c a k n → DP c1 a k n := by
  intro k
  induction k with
  | zero => intro n _ h; exact h
  | succ k ih =>
    intro n hc h
    obtain ⟨m, h1, h2⟩ := h
    refine ⟨m, ih (fun j h3 h4 => hc j h3 (by omega)) h1, ?_⟩
    rw [hc (a + k) (by omega) (by omega)]
    exact h2
theorem DP.le {c : Nat → Int32} {a : Nat} : ∀ {k n : Nat}, DP c a k n → n ≤ k := by
  intro k
  induction k with
  | zero => intro n h; rw [show n = 0 from h]; exact Nat.le_refl _
  | succ k ih =>
    intro n h
    obtain ⟨m, h1, h2⟩ := h
    have := ih h1
    rcases h2 with ⟨_, _, h⟩ | ⟨_, _, h⟩ | ⟨_, h⟩ <;> omega
theorem DP.uniq {c : Nat → Int32} {a : Nat} : ∀ {k n m : Nat}, DP c a k n → DP c a k m → n = m := by
  intro k
  induction k with
  | zero => intro n m h1 h2; rw [show n = 0 from h1, show m = 0 from h2]
  | succ k ih =>
    intro n m h1 h2
    obtain ⟨x, a1, a2⟩ := h1
    obtain ⟨y, b1, b2⟩ := h2
    have e := ih a1 b1
    subst e
    have z2 : ¬ (2 : Int32) < 2 := by decide
    have z0 : ¬ (2 : Int32) < 0 := by decide
    have z1 : ¬ (2 : Int32) < 1 := by decide
    rcases a2 with ⟨p1, p2, p3⟩ | ⟨p1, p2, p3⟩ | ⟨p1, p3⟩ <;> rcases b2 with ⟨q1, q2, q3⟩ | ⟨q1, q2, q3⟩ | ⟨q1, q3⟩
    · omega
    · rw [q1] at p1; exact absurd p1 z2
    · rcases q1 with q1 | q1 <;> rw [q1] at p1
      · exact absurd p1 z0
      · exact absurd p1 z1
    · rw [p1] at q1; exact absurd q1 z2
    · omega
    · rcases q1 with q1 | q1 <;> rw [q1] at p1 <;> exact absurd p1 (by decide)
    · rcases p1 with p1 | p1 <;> rw [p1] at q1
      · exact absurd q1 z0
      · exact absurd q1 z1
    · rcases p1 with p1 | p1 <;> rw [p1] at q1 <;> exact absurd q1 (by decide)
    · omega
/-- the row from a to b is good -/
def GS (c : Nat → Int32) (a b : Nat) : Prop := ∃ n, DP c a (b - a) n
theorem GS.pre {c : Nat → Int32} {a : Nat} : ∀ {k : Nat}, (∃ n, DP c a k n) → ∀ i, i ≤ k → ∃ m, DP c a i m := by
  intro k
  induction k with
  | zero => intro h i hi; rw [show i = 0 by omega]; exact h
  | succ k ih =>
    intro h i hi
    by_cases q : i = k + 1
    · rw [q]; exact h
    · obtain ⟨n, m, h1, _⟩ := h
      exact ih ⟨m, h1⟩ i (by omega)
/-- one step of the machine: what is there, and what comes -/
theorem GS.at {c : Nat → Int32} {a b i d : Nat} (h : GS c a b) (h1 : a ≤ i) (h2 : i < b) (hd : DP c a (i - a) d) : ∃ n, stp (c i) d n ∧ DP c a (i + 1 - a) n := by
  obtain ⟨n, hn⟩ := GS.pre h (i - a + 1) (by omega)
  have hn2 := hn
  obtain ⟨m, h3, h4⟩ := hn
  have e := DP.uniq hd h3
  subst e
  rw [show a + (i - a) = i by omega] at h4
  exact ⟨n, h4, by rw [show i + 1 - a = i - a + 1 by omega]; exact hn2⟩
theorem DP.bin {c : Nat → Int32} {a cd m : Nat} {x : Int32} (h : DP c a (cd - a) m) (ha : a ≤ cd) (hx : 2 < x) (hm : 2 ≤ m) : DP (upd c cd x) a (cd + 1 - a) (m - 1) := by
  rw [show cd + 1 - a = cd - a + 1 by omega]
  refine ⟨m, h.congr (fun j h1 h2 => pk_un (by omega)), ?_⟩
  rw [show a + (cd - a) = cd by omega, pk_us]
  exact Or.inl ⟨hx, hm, by omega⟩
theorem DP.not {c : Nat → Int32} {a cd m : Nat} (h : DP c a (cd - a) m) (ha : a ≤ cd) (hm : 1 ≤ m) : DP (upd c cd 2) a (cd + 1 - a) m := by
  rw [show cd + 1 - a = cd - a + 1 by omega]
  refine ⟨m, h.congr (fun j h1 h2 => pk_un (by omega)), ?_⟩
  rw [show a + (cd - a) = cd by omega, pk_us]
  exact Or.inr (Or.inl ⟨rfl, hm, rfl⟩)
theorem DP.opd {c : Nat → Int32} {a cd m : Nat} {x : Int32} (h : DP c a (cd - a) m) (ha : a ≤ cd) (hx : x = 0 ∨ x = 1) : DP (upd c cd x) a (cd + 1 - a) (m + 1) := by
  rw [show cd + 1 - a = cd - a + 1 by omega]
  refine ⟨m, h.congr (fun j h1 h2 => pk_un (by omega)), ?_⟩
  rw [show a + (cd - a) = cd by omega, pk_us]
  exact Or.inr (Or.inr ⟨hx, rfl⟩)
abbrev isT (x : Int32) : Prop := x = 42 ∨ x = 47 ∨ x = 37
abbrev isP (x : Int32) : Prop := x = 43 ∨ x = 45
abbrev isA (x : Int32) : Prop := isT x ∨ isP x
abbrev isJ (x : Int32) : Prop := x = 38 ∨ x = 124
def AS_ (x : Int32) : Prop := isA x ∨ x = 91
theorem isA_big {x : Int32} (h : isA x) : 2 < x := by
  rcases h with (rfl | rfl | rfl) | (rfl | rfl) <;> decide
theorem isJ_big {x : Int32} (h : isJ x) : 2 < x := by
  rcases h with rfl | rfl <;> decide
theorem isA_91 : ¬ isA 91 := by decide
/-- how many of the first n are signs of reckoning, how many join -/
def ca (st : Nat → Int32) : Nat → Nat
  | 0 => 0
  | n + 1 => ca st n + (if isA (st n) then 1 else 0)
def cj (st : Nat → Int32) : Nat → Nat
  | 0 => 0
  | n + 1 => cj st n + (if isJ (st n) then 1 else 0)
theorem ca_congr {s t : Nat → Int32} : ∀ {n : Nat}, (∀ j, j < n → t j = s j) → ca t n = ca s n := by
  intro n
  induction n with
  | zero => intro _; rfl
  | succ n ih =>
    intro h
    show ca t n + (if isA (t n) then 1 else 0) = ca s n + (if isA (s n) then 1 else 0)
    rw [ih (fun j hj => h j (by omega)), h n (by omega)]
theorem cj_congr {s t : Nat → Int32} : ∀ {n : Nat}, (∀ j, j < n → t j = s j) → cj t n = cj s n := by
  intro n
  induction n with
  | zero => intro _; rfl
  | succ n ih =>
    intro h
    show cj t n + (if isJ (t n) then 1 else 0) = cj s n + (if isJ (s n) then 1 else 0)
    rw [ih (fun j hj => h j (by omega)), h n (by omega)]
theorem ca_none {st : Nat → Int32} : ∀ {n : Nat}, (∀ j, j < n → ¬ AS_ (st j)) → ca st n = 0 := by
  intro n
  induction n with
  | zero => intro _; rfl
  | succ n ih =>
    intro h
    show ca st n + (if isA (st n) then 1 else 0) = 0
    rw [ih (fun j hj => h j (by omega)), if_neg (fun q => h n (by omega) (Or.inl q))]
/-- within a number: B is what stood on the stack before, s is 1 behind a factor and 0 before one -/
def PS (s0 st n0 nc : Nat → Int32) (B a c0 cd sp pl d0 s : Nat) : Prop :=
  B ≤ sp ∧ (∀ j, j < B → st j = s0 j ∧ ¬ AS_ (st j)) ∧ (∀ j, B ≤ j → j < sp → AS_ (st j)) ∧ (a ≤ c0 ∧ c0 ≤ cd) ∧ cd + sp ≤ pl ∧ (∀ j, j < c0 → nc j = n0 j) ∧ DP nc a (cd - a) (d0 + ca st sp + s)
theorem PS.start {s0 n0 : Nat → Int32} {B a cd pl d0 : Nat} (h1 : ∀ j, j < B → ¬ AS_ (s0 j)) (h2 : a ≤ cd) (h3 : cd + B ≤ pl) (h4 : DP n0 a (cd - a) d0) : PS s0 s0 n0 n0 B a cd cd B pl d0 0 :=
  ⟨Nat.le_refl _, fun j hj => ⟨rfl, h1 j hj⟩, fun j h5 h6 => by omega, ⟨h2, Nat.le_refl _⟩, h3, fun _ _ => rfl, by rw [ca_none h1]; exact h4⟩
theorem PS.pop {s0 st n0 nc n1 : Nat → Int32} {B a c0 cd sp pl d0 : Nat} (h : PS s0 st n0 nc B a c0 cd sp pl d0 1) (h1 : 0 < sp) (h2 : isA (st (sp - 1))) (e : n1 = upd nc cd (st (sp - 1))) : PS s0 st n0 n1 B a c0 (cd + 1) (sp - 1) pl d0 1 := by
  obtain ⟨a1, a2, a3, ⟨a4, a4'⟩, a5, a6, a7⟩ := h
  have hB : B ≤ sp - 1 := by
    rcases Nat.lt_or_ge (sp - 1) B with q | q
    · exact absurd (Or.inl h2) (a2 _ q).2
    · exact q
  have hc : ca st sp = ca st (sp - 1) + 1 := by
    obtain ⟨n, rfl⟩ : ∃ n, sp = n + 1 := ⟨sp - 1, by omega⟩
    show ca st n + (if isA (st n) then 1 else 0) = _
    rw [if_pos (show isA (st n) from h2)]; rfl
  refine ⟨hB, a2, fun j h5 h6 => a3 j h5 (by omega), ⟨a4, by omega⟩, by omega, fun j hj => ?_, ?_⟩
  · rw [e, pk_un (by omega)]; exact a6 j hj
  · rw [e]
    have := DP.bin a7 (by omega) (isA_big h2) (by omega)
    rw [show d0 + ca st (sp - 1) + 1 = d0 + ca st sp + 1 - 1 by omega]
    exact this
theorem PS.op {s0 st n0 nc t1 : Nat → Int32} {B a c0 cd sp pl d0 : Nat} {x : Int32} (h : PS s0 st n0 nc B a c0 cd sp pl d0 1) (hx : isA x) (e : t1 = upd st sp x) : PS s0 t1 n0 nc B a c0 cd (sp + 1) (pl + 1) d0 0 := by
  obtain ⟨a1, a2, a3, a4, a5, a6, a7⟩ := h
  have hk : ∀ j, j < sp → t1 j = st j := fun j hj => by rw [e, pk_un (by omega)]
  have ht : t1 sp = x := by rw [e]; exact pk_us
  refine ⟨by omega, fun j hj => by rw [hk j (by omega)]; exact a2 j hj, fun j h5 h6 => ?_, a4, by omega, a6, ?_⟩
  · by_cases q : j = sp
    · rw [q, ht]; exact Or.inl hx
    · rw [hk j (by omega)]; exact a3 j h5 (by omega)
  · have : ca t1 (sp + 1) = ca st sp + 1 := by
      show ca t1 sp + (if isA (t1 sp) then 1 else 0) = _
      rw [ca_congr hk, ht, if_pos hx]
    rw [this, show d0 + (ca st sp + 1) + 0 = d0 + ca st sp + 1 by omega]
    exact a7
theorem PS.br {s0 st n0 nc t1 : Nat → Int32} {B a c0 cd sp pl d0 : Nat} {x : Int32} (h : PS s0 st n0 nc B a c0 cd sp pl d0 0) (hx : x = 91) (e : t1 = upd st sp x) : PS s0 t1 n0 nc B a c0 cd (sp + 1) (pl + 1) d0 0 := by
  obtain ⟨a1, a2, a3, a4, a5, a6, a7⟩ := h
  have hk : ∀ j, j < sp → t1 j = st j := fun j hj => by rw [e, pk_un (by omega)]
  have ht : t1 sp = 91 := by rw [e, hx]; exact pk_us
  refine ⟨by omega, fun j hj => by rw [hk j (by omega)]; exact a2 j hj, fun j h5 h6 => ?_, a4, by omega, a6, ?_⟩
  · by_cases q : j = sp
    · rw [q, ht]; exact Or.inr rfl
    · rw [hk j (by omega)]; exact a3 j h5 (by omega)
  · have : ca t1 (sp + 1) = ca st sp := by
      show ca t1 sp + (if isA (t1 sp) then 1 else 0) = _
      rw [ca_congr hk, ht, if_neg isA_91]; rfl
    rw [this]
    exact a7
theorem PS.opd {s0 st n0 nc n1 : Nat → Int32} {B a c0 cd sp pl pl1 d0 : Nat} {x : Int32} (h : PS s0 st n0 nc B a c0 cd sp pl d0 0) (hx : x = 0 ∨ x = 1) (e : n1 = upd nc cd x) (hp : pl + 1 ≤ pl1) : PS s0 st n0 n1 B a c0 (cd + 1) sp pl1 d0 1 := by
  obtain ⟨a1, a2, a3, ⟨a4, a4'⟩, a5, a6, a7⟩ := h
  refine ⟨a1, a2, a3, ⟨a4, by omega⟩, by omega, fun j hj => ?_, ?_⟩
  · rw [e, pk_un (by omega)]; exact a6 j hj
  · rw [e]; exact DP.opd a7 (by omega) hx
theorem PS.brp {s0 st n0 nc : Nat → Int32} {B a c0 cd sp pl d0 : Nat} (h : PS s0 st n0 nc B a c0 cd sp pl d0 1) (h1 : 0 < sp) (h2 : st (sp - 1) = 91) : PS s0 st n0 nc B a c0 cd (sp - 1) (pl + 1) d0 1 := by
  obtain ⟨a1, a2, a3, a4, a5, a6, a7⟩ := h
  have hB : B ≤ sp - 1 := by
    rcases Nat.lt_or_ge (sp - 1) B with q | q
    · exact absurd (Or.inr h2) (a2 _ q).2
    · exact q
  have hc : ca st sp = ca st (sp - 1) := by
    obtain ⟨n, rfl⟩ : ∃ n, sp = n + 1 := ⟨sp - 1, by omega⟩
    show ca st n + (if isA (st n) then 1 else 0) = _
    rw [if_neg (by rw [show st n = 91 from h2]; exact isA_91)]; rfl
  exact ⟨hB, a2, fun j h5 h6 => a3 j h5 (by omega), a4, by omega, a6, by rw [← hc]; exact a7⟩
/-- what is left when no such sign is on top -/
theorem PS.fin {s0 st n0 nc : Nat → Int32} {B a c0 cd sp pl d0 : Nat} (h : PS s0 st n0 nc B a c0 cd sp pl d0 1) (h1 : sp = 0 ∨ ¬ AS_ (st (sp - 1))) : sp = B ∧ (∀ j, j < B → st j = s0 j) ∧ (∀ j, j < c0 → nc j = n0 j) ∧ c0 ≤ cd ∧ cd + sp ≤ pl ∧ DP nc a (cd - a) (d0 + 1) := by
  obtain ⟨a1, a2, a3, a4, a5, a6, a7⟩ := h
  have hB : sp = B := by
    rcases h1 with h1 | h1
    · omega
    · rcases Nat.lt_or_ge (sp - 1) B with q | q
      · omega
      · rcases Nat.eq_zero_or_pos sp with z | z
        · omega
        · exact absurd (a3 (sp - 1) q (by omega)) h1
  subst hB
  refine ⟨rfl, fun j hj => (a2 j hj).1, a6, a4.2, a5, ?_⟩
  rw [ca_none (fun j hj => (a2 j hj).2)] at a7
  exact a7
/-- within a condition: s is 1 behind a piece and 0 before one -/
def CS (n0 st nc : Nat → Int32) (a c0 cd sp pl s : Nat) : Prop :=
  (sp = 0 ∨ st 0 = 40) ∧ (∀ j, j < sp → ¬ AS_ (st j)) ∧ (a ≤ c0 ∧ c0 ≤ cd) ∧ cd + sp ≤ pl ∧ (∀ j, j < c0 → nc j = n0 j) ∧ DP nc a (cd - a) (cj st sp + s)
abbrev isO (x : Int32) : Prop := x = 40 ∨ x = 33 ∨ x = 60 ∨ x = 62 ∨ x = 61
theorem isO_AS {x : Int32} (h : isO x) : ¬ AS_ x := by
  rcases h with rfl | rfl | rfl | rfl | rfl <;> (unfold AS_; decide)
theorem isO_J {x : Int32} (h : isO x) : ¬ isJ x := by
  rcases h with rfl | rfl | rfl | rfl | rfl <;> decide
theorem isJ_AS {x : Int32} (h : isJ x) : ¬ AS_ x := by
  rcases h with rfl | rfl <;> (unfold AS_; decide)
/-- a bracket, a not or a comparison goes onto the stack -/
theorem CS.put {n0 st nc t1 : Nat → Int32} {a c0 cd sp pl s : Nat} {x : Int32} (h : CS n0 st nc a c0 cd sp pl s) (hx : isO x) (h0 : 0 < sp ∨ x = 40) (e : t1 = upd st sp x) : CS n0 t1 nc a c0 cd (sp + 1) (pl + 1) s := by
  obtain ⟨a1, a2, a3, a4, a5, a6⟩ := h
  have hk : ∀ j, j < sp → t1 j = st j := fun j hj => by rw [e, pk_un (by omega)]
  have ht : t1 sp = x := by rw [e]; exact pk_us
  refine ⟨Or.inr ?_, fun j hj => ?_, a3, by omega, a5, ?_⟩
  · rcases h0 with h0 | h0
    · rw [hk 0 h0]; exact a1.resolve_left (by omega)
    · rcases Nat.eq_zero_or_pos sp with z | z
      · subst z; rw [ht, h0]
      · rw [hk 0 z]; exact a1.resolve_left (by omega)
  · by_cases q : j = sp
    · rw [q, ht]; exact isO_AS hx
    · rw [hk j (by omega)]; exact a2 j (by omega)
  · have : cj t1 (sp + 1) = cj st sp := by
      show cj t1 sp + (if isJ (t1 sp) then 1 else 0) = _
      rw [cj_congr hk, ht, if_neg (isO_J hx)]; rfl
    rw [this]; exact a6
/-- a joining sign goes onto the stack, behind a piece -/
theorem CS.putJ {n0 st nc t1 : Nat → Int32} {a c0 cd sp pl : Nat} {x : Int32} (h : CS n0 st nc a c0 cd sp pl 1) (hx : isJ x) (h0 : 0 < sp) (e : t1 = upd st sp x) : CS n0 t1 nc a c0 cd (sp + 1) (pl + 1) 0 := by
  obtain ⟨a1, a2, a3, a4, a5, a6⟩ := h
  have hk : ∀ j, j < sp → t1 j = st j := fun j hj => by rw [e, pk_un (by omega)]
  have ht : t1 sp = x := by rw [e]; exact pk_us
  refine ⟨Or.inr ?_, fun j hj => ?_, a3, by omega, a5, ?_⟩
  · rw [hk 0 h0]; exact a1.resolve_left (by omega)
  · by_cases q : j = sp
    · rw [q, ht]; exact isJ_AS hx
    · rw [hk j (by omega)]; exact a2 j (by omega)
  · have : cj t1 (sp + 1) = cj st sp + 1 := by
      show cj t1 sp + (if isJ (t1 sp) then 1 else 0) = _
      rw [cj_congr hk, ht, if_pos hx]
    rw [this]; exact a6
theorem cj_top {st : Nat → Int32} {sp : Nat} (h : 0 < sp) : cj st sp = cj st (sp - 1) + (if isJ (st (sp - 1)) then 1 else 0) := by
  obtain ⟨n, rfl⟩ : ∃ n, sp = n + 1 := ⟨sp - 1, by omega⟩
  rfl
/-- a joining sign comes off, into the row -/
theorem CS.popJ {n0 st nc n1 : Nat → Int32} {a c0 cd sp pl : Nat} (h : CS n0 st nc a c0 cd sp pl 1) (h1 : 0 < sp) (h2 : isJ (st (sp - 1))) (e : n1 = upd nc cd (st (sp - 1))) : CS n0 st n1 a c0 (cd + 1) (sp - 1) pl 1 ∧ 0 < sp - 1 := by
  obtain ⟨a1, a2, ⟨a3, a3'⟩, a4, a5, a6⟩ := h
  have h40 := a1.resolve_left (by omega)
  have hs : 0 < sp - 1 := by
    rcases Nat.eq_zero_or_pos (sp - 1) with z | z
    · rw [z, h40] at h2; exact absurd h2 (by decide)
    · exact z
  have hc := cj_top (st := st) h1
  rw [if_pos h2] at hc
  refine ⟨⟨Or.inr h40, fun j hj => a2 j (by omega), ⟨a3, by omega⟩, by omega, fun j hj => ?_, ?_⟩, hs⟩
  · rw [e, pk_un (by omega)]; exact a5 j hj
  · rw [e]
    have := DP.bin a6 (by omega) (isJ_big h2) (by omega)
    rw [show cj st (sp - 1) + 1 = cj st sp + 1 - 1 by omega]
    exact this
/-- something that doesn't join comes off, and nothing is written -/
theorem CS.pop {n0 st nc : Nat → Int32} {a c0 cd sp pl pl1 s : Nat} (h : CS n0 st nc a c0 cd sp pl s) (h1 : 0 < sp) (h2 : ¬ isJ (st (sp - 1))) (hp : pl ≤ pl1) : CS n0 st nc a c0 cd (sp - 1) pl1 s := by
  obtain ⟨a1, a2, a3, a4, a5, a6⟩ := h
  have hc := cj_top (st := st) h1
  rw [if_neg h2] at hc
  exact ⟨a1.elim (fun q => Or.inl (by omega)) Or.inr, fun j hj => a2 j (by omega), a3, by omega, a5, by rw [show cj st (sp - 1) = cj st sp by omega]; exact a6⟩
/-- a not comes off, into the row -/
theorem CS.popN {n0 st nc n1 : Nat → Int32} {a c0 cd sp pl : Nat} (h : CS n0 st nc a c0 cd sp pl 1) (h1 : 0 < sp) (h2 : st (sp - 1) = 33) (e : n1 = upd nc cd 2) : CS n0 st n1 a c0 (cd + 1) (sp - 1) pl 1 ∧ 0 < sp - 1 := by
  obtain ⟨a1, a2, ⟨a3, a3'⟩, a4, a5, a6⟩ := h
  have h40 := a1.resolve_left (by omega)
  have hs : 0 < sp - 1 := by
    rcases Nat.eq_zero_or_pos (sp - 1) with z | z
    · rw [z, h40] at h2; exact absurd h2 (by decide)
    · exact z
  have hc := cj_top (st := st) h1
  rw [if_neg (by rw [h2]; decide)] at hc
  refine ⟨⟨Or.inr h40, fun j hj => a2 j (by omega), ⟨a3, by omega⟩, by omega, fun j hj => ?_, ?_⟩, hs⟩
  · rw [e, pk_un (by omega)]; exact a5 j hj
  · rw [e, show cj st (sp - 1) = cj st sp by omega]
    exact DP.not a6 (by omega) (by omega)
/-- a comparison comes off, into the row: two numbers become one -/
theorem CS.popC {n0 st nc n1 : Nat → Int32} {a c0 cd sp pl : Nat} (h : CS n0 st nc a c0 cd sp pl 2) (h1 : 0 < sp) (h2 : isO (st (sp - 1)) ∧ 2 < st (sp - 1)) (e : n1 = upd nc cd (st (sp - 1))) : CS n0 st n1 a c0 (cd + 1) (sp - 1) pl 1 := by
  obtain ⟨a1, a2, ⟨a3, a3'⟩, a4, a5, a6⟩ := h
  have hc := cj_top (st := st) h1
  rw [if_neg (isO_J h2.1)] at hc
  refine ⟨a1.elim (fun q => Or.inl (by omega)) Or.inr, fun j hj => a2 j (by omega), ⟨a3, by omega⟩, by omega, fun j hj => ?_, ?_⟩
  · rw [e, pk_un (by omega)]; exact a5 j hj
  · rw [e]
    have := DP.bin a6 (by omega) h2.2 (by omega)
    rw [show cj st (sp - 1) + 1 = cj st sp + 2 - 1 by omega]
    exact this
/-- a number is read within a condition -/
theorem CS.num {n0 st nc s1 n1 : Nat → Int32} {a c0 cd sp pl s cd1 sp1 pl1 : Nat} (h : CS n0 st nc a c0 cd sp pl s) (e : sp1 = sp) (h1 : ∀ j, j < sp → s1 j = st j) (h2 : ∀ j, j < cd → n1 j = nc j) (h3 : cd ≤ cd1) (h4 : cd1 + sp1 ≤ pl1) (h5 : DP n1 a (cd1 - a) (cj st sp + s + 1)) : CS n0 s1 n1 a c0 cd1 sp1 pl1 (s + 1) := by
  obtain ⟨a1, a2, ⟨a3, a3'⟩, a4, a5, a6⟩ := h
  subst e
  refine ⟨a1.elim Or.inl (fun q => ?_), fun j hj => by rw [h1 j hj]; exact a2 j hj, ⟨a3, by omega⟩, h4, fun j hj => by rw [h2 j (by omega)]; exact a5 j hj, ?_⟩
  · rcases Nat.eq_zero_or_pos sp1 with z | z
    · exact Or.inl z
    · exact Or.inr (by rw [h1 0 z]; exact q)
  · rw [cj_congr h1]; exact h5
theorem CS.grow {n0 st nc : Nat → Int32} {a c0 cd sp pl pl1 s : Nat} (h : CS n0 st nc a c0 cd sp pl s) (hp : pl ≤ pl1) : CS n0 st nc a c0 cd sp pl1 s := by
  obtain ⟨a1, a2, a3, a4, a5, a6⟩ := h
  exact ⟨a1, a2, a3, by omega, a5, a6⟩
def heF (tp : Nat → Int32) (pl ed : Nat) : Int32 := if pl < ed then tp pl &&& 255 else 0
theorem he_lt {tp : Nat → Int32} {pl ed : Nat} {x : Int32} (h : heF tp pl ed = x) (hx : ¬ x = 0) : pl < ed := by
  by_cases q : pl < ed
  · exact q
  · exact absurd (h.symm.trans (if_neg q)) hx
theorem he_lt2 {tp : Nat → Int32} {pl ed : Nat} (h : ¬ heF tp pl ed = 0) : pl < ed := he_lt rfl h
theorem he_dig {tp : Nat → Int32} {pl ed : Nat} (h : (48 : Int32) ≤ heF tp pl ed ∧ heF tp pl ed ≤ 57) : pl < ed := he_lt rfl (fun q => by rw [q] at h; exact absurd h.1 (by decide))
theorem he_T {tp : Nat → Int32} {pl ed : Nat} (h : isT (heF tp pl ed)) : pl < ed := he_lt rfl (fun q => by rw [q] at h; exact absurd h (by decide))
theorem he_P {tp : Nat → Int32} {pl ed : Nat} (h : isP (heF tp pl ed)) : pl < ed := he_lt rfl (fun q => by rw [q] at h; exact absurd h (by decide))
theorem wr_lt : ∀ f, f < 6 → 1 ≤ f → ∀ p, p < 201 → (-1000) * nI f - nI p < 0 := by decide +kernel
theorem wr_end {f p : Nat} {x y : Int32} (e1 : x = (-1000) * nI f) (e2 : y = x - nI p) (h1 : 1 ≤ f) (h2 : f ≤ 5) (h3 : p ≤ 200) : y < 0 := by
  rw [e2, e1]
  exact wr_lt f (by omega) h1 p (by omega)
theorem lt_n0 {b : Int32} (h : b < 0) : ¬ b = 0 := fun q => by rw [q] at h; exact absurd h (by decide)
theorem rd_e1 {pl p1 : Nat} {b : Int32} (h3 : p1 = pl → b = 0) (hb : ¬ b = 0) (h : pl ≤ p1) : pl + 1 ≤ p1 := by
  by_cases q : p1 = pl
  · exact absurd (h3 q) hb
  · omega
theorem rd_e2 {tp : Nat → Int32} {pl p1 ed : Nat} (hd : (48 : Int32) ≤ heF tp pl ed ∧ heF tp pl ed ≤ 57) (c : ¬ ((48 : Int32) ≤ heF tp p1 ed ∧ heF tp p1 ed ≤ 57)) (h : pl ≤ p1) : pl + 1 ≤ p1 := by
  by_cases q : p1 = pl
  · rw [q] at c; exact absurd hd c
  · omega
theorem lf_X12_here_3 (h : Nat) (q : Nat → Nat) (im : Nat → Int32) (pl : Nat) (ed : Nat) (m_tape : Nat → Int32) (hf_pl : im 19 = nI pl) (hf_ed : im 20 = nI ed) (hed : ed ≤ 200) (hpl : pl ≤ 1000) (c_1 : nI ed ≤ nI pl) : ed ≤ pl := by
  exact (nI_leI (a := ed) (b := pl) (by omega) (by omega)).mp c_1
theorem lf_X12_here_4 (h : Nat) (q : Nat → Nat) (im : Nat → Int32) (pl : Nat) (ed : Nat) (m_tape : Nat → Int32) (hf_pl : im 19 = nI pl) (hf_ed : im 20 = nI ed) (hed : ed ≤ 200) (hpl : pl ≤ 1000) (c_1 : nI ed ≤ nI pl) (n_2 : ed ≤ pl) : (0 : Int32) = heF m_tape pl ed := by
  first | (subst_vars; exact (if_pos (by omega)).symm) | exact (if_neg (by omega)).symm
theorem lf_X12_here_6 (h : Nat) (q : Nat → Nat) (im : Nat → Int32) (pl : Nat) (ed : Nat) (m_tape : Nat → Int32) (hf_pl : im 19 = nI pl) (hf_ed : im 20 = nI ed) (hed : ed ≤ 200) (hpl : pl ≤ 1000) (c_1 : ¬ nI ed ≤ nI pl) : pl < ed := by
  exact Nat.lt_of_not_le (fun q => c_1 ((nI_leI (a := ed) (b := pl) (by omega) (by omega)).mpr q))
theorem lf_X12_here_7 (h : Nat) (q : Nat → Nat) (im : Nat → Int32) (pl : Nat) (ed : Nat) (m_tape : Nat → Int32) (hf_pl : im 19 = nI pl) (hf_ed : im 20 = nI ed) (hed : ed ≤ 200) (hpl : pl ≤ 1000) (c_1 : ¬ nI ed ≤ nI pl) (n_5 : pl < ed) : pl < 220 := by
  omega
theorem lf_X12_here_9 (h : Nat) (q : Nat → Nat) (im : Nat → Int32) (pl : Nat) (ed : Nat) (m_tape : Nat → Int32) (hf_pl : im 19 = nI pl) (hf_ed : im 20 = nI ed) (hed : ed ≤ 200) (hpl : pl ≤ 1000) (c_1 : ¬ nI ed ≤ nI pl) (n_5 : pl < ed) (x_8 : Int32) (ex_8 : x_8 = m_tape pl &&& 255) : (x_8 : Int32) = heF m_tape pl ed := by
  first | (subst_vars; exact (if_pos (by omega)).symm) | exact (if_neg (by omega)).symm
set_option maxHeartbeats 4000000 in
set_option maxRecDepth 100000 in
theorem c_X12_here (l : Launch) (D : va_G) (cI cB cZ cJ : ClassId) (tx : List (ClassId × FieldType)) (h : Nat) (q : Nat → Nat) (im : Nat → Int32) (pl : Nat) (ed : Nat) (m_tape : Nat → Int32) (hf_pl : im 19 = nI pl) (hf_ed : im 20 = nI ed) (hed : ed ≤ 200) (hpl : pl ≤ 1000) : RdI l D cI cB cZ cJ tx yX12_here cX12_here 1 (some .int) 0 [.ref h] [(h, .inr (12, mG q im)), (q 0, .inl (cB, 220, .inl m_tape))] (fun r => r = heF m_tape pl ed) := by
  refine rdi_of2 (by decide) (Nat.le_of_ble_eq_true rfl) ?_
  intro p e s m below meth c A ls H locs hC hK hP hD hA hS hl
  obtain ⟨hx, hb, hr, hml, hown, hts, hlocks, hin⟩ := hC
  have hown : s.vm.findClass RX12 = some m.cls := hown
  have hl : lv_has ls 1 [(0, .ref h)] := hl
  refine lv_aload_n hx hb dX12_here_0 rfl (lv_at hl 0 rfl) ?_
  refine va_get (D := D) (ci := 12) (v := .int (im 19)) (C := RX12) (T := TX12) (N := 81) hx hb hts inT_X12 hown hK.1 hP 0 rfl rfl 19 (by decide) (hts _ k_1372) (fun _ h9 => h9) rfl dX12_here_1 ?_
  refine lv_topv (y := nI pl) hf_pl ?_
  refine lv_aload_n hx hb dX12_here_4 rfl (lv_at hl 0 rfl) ?_
  refine va_get (D := D) (ci := 12) (v := .int (im 20)) (C := RX12) (T := TX12) (N := 81) hx hb hts inT_X12 hown hK.1 hP 0 rfl rfl 20 (by decide) (hts _ k_1373) (fun _ h9 => h9) rfl dX12_here_5 ?_
  refine lv_topv (y := nI ed) hf_ed ?_
  refine lv_icmp_ge (tgt := 27) hx hb dX12_here_8 (by decide) (fun c_1 => ?_) (fun c_1 => ?_)
  · have n_2 : ed ≤ pl := (lf_X12_here_3 h q im pl ed m_tape hf_pl hf_ed hed hpl c_1)
    refine lv_iconst (v := 0) hx hb dX12_here_27 (by decide) ?_
    exact W.iret (v := 0) hx hb hr (fun tt9 ht hW => ⟨⟨(0 : Int32), (), rfl, (lf_X12_here_4 h q im pl ed m_tape hf_pl hf_ed hed hpl c_1 n_2), trivial⟩, hS.F ht⟩) hS.2.2 dX12_here_28 hlocks
  · have n_5 : pl < ed := (lf_X12_here_6 h q im pl ed m_tape hf_pl hf_ed hed hpl c_1)
    refine lv_aload_n hx hb dX12_here_11 rfl (lv_at hl 0 rfl) ?_
    refine va_get (D := D) (ci := 12) (v := .ref (q 0)) (C := RX12) (T := TX12) (N := 81) hx hb hts inT_X12 hown hK.1 hP 0 rfl rfl 0 (by decide) (hts _ k_1353) (fun _ h9 => h9) rfl dX12_here_12 ?_
    refine lv_aload_n hx hb dX12_here_15 rfl (lv_at hl 0 rfl) ?_
    refine va_get (D := D) (ci := 12) (v := .int (im 19)) (C := RX12) (T := TX12) (N := 81) hx hb hts inT_X12 hown hK.1 hP 0 rfl rfl 19 (by decide) (hts _ k_1372) (fun _ h9 => h9) rfl dX12_here_16 ?_
    refine lv_topv (y := nI pl) hf_pl ?_
    refine lt_b (j := pl) hx hb hK hP 1 rfl (lf_X12_here_7 h q im pl ed m_tape hf_pl hf_ed hed hpl c_1 n_5) (by decide) dX12_here_19 ?_
    refine lv_sipush (v := 255) hx hb dX12_here_20 (by decide) ?_
    refine lv_iand hx hb dX12_here_23 ?_
    refine lv_topi (fun x_8 ex_8 => ?_)
    refine lv_goto (tgt := 28) hx hb dX12_here_24 (by decide) ?_
    exact W.iret (v := x_8) hx hb hr (fun tt9 ht hW => ⟨⟨(x_8 : Int32), (), rfl, (lf_X12_here_9 h q im pl ed m_tape hf_pl hf_ed hed hpl c_1 n_5 x_8 ex_8), trivial⟩, hS.F ht⟩) hS.2.2 dX12_here_28 hlocks

theorem lf_X12_wrongs_5 (h : Nat) (q : Nat → Nat) (im : Nat → Int32) (bd : Int32) (f0 : Nat) (p0 : Nat) (hf_bd : im 21 = bd) (hf0 : 1 ≤ f0) (hf5 : f0 ≤ 5) (hp0 : p0 ≤ 200) (c_1 : 0 ≤ bd) (x_2 : Int32) (ex_2 : x_2 = (-1000) * nI f0) (x_3 : Int32) (ex_3 : x_3 = x_2 - nI p0) (i_4 : Nat → Int32) (hsb : SB [21] im i_4) (hi_4_21 : i_4 21 = x_3) : (SB [21] im (i_4 : Nat → Int32)) ∧ ((i_4 : Nat → Int32) 21 = (x_3 : Int32)) ∧ ((x_3 : Int32) < 0) ∧ (¬ (x_3 : Int32) = 0) := by
  repeat' apply And.intro
  all_goals first | assumption | exact Int32.not_le.mp (by assumption) | exact lt_n0 (Int32.not_le.mp (by assumption)) | exact wr_end (by assumption) (by assumption) (by omega) (by omega) (by omega) | exact lt_n0 (wr_end (by assumption) (by assumption) (by omega) (by omega) (by omega))
theorem lf_X12_wrongs_7 (h : Nat) (q : Nat → Nat) (im : Nat → Int32) (bd : Int32) (f0 : Nat) (p0 : Nat) (hf_bd : im 21 = bd) (hf0 : 1 ≤ f0) (hf5 : f0 ≤ 5) (hp0 : p0 ≤ 200) (c_1 : ¬ 0 ≤ bd) (i_6 : Nat → Int32) (hsb : SB [21] im i_6) (hi_6_21 : i_6 21 = bd) : (SB [21] im (i_6 : Nat → Int32)) ∧ ((i_6 : Nat → Int32) 21 = (bd : Int32)) ∧ ((bd : Int32) < 0) ∧ (¬ (bd : Int32) = 0) := by
  repeat' apply And.intro
  all_goals first | assumption | exact Int32.not_le.mp (by assumption) | exact lt_n0 (Int32.not_le.mp (by assumption)) | exact wr_end (by assumption) (by assumption) (by omega) (by omega) (by omega) | exact lt_n0 (wr_end (by assumption) (by assumption) (by omega) (by omega) (by omega))
set_option maxHeartbeats 4000000 in
set_option maxRecDepth 100000 in
theorem c_X12_wrongs (l : Launch) (D : va_G) (cI cB cZ cJ : ClassId) (tx : List (ClassId × FieldType)) (h : Nat) (q : Nat → Nat) (im : Nat → Int32) (bd : Int32) (f0 : Nat) (p0 : Nat) (hf_bd : im 21 = bd) (hf0 : 1 ≤ f0) (hf5 : f0 ≤ 5) (hp0 : p0 ≤ 200) : WrV l D cI cB cZ cJ tx yX12_wrongs cX12_wrongs 3 none 0 0 0 [.ref h, .int (nI f0), .int (nI p0)] [(h, .inr (12, mG q im))] (fun (v : (Nat → Int32) × (Int32)) => (SB [21] im v.1) ∧ (v.1 21 = v.2) ∧ (v.2 < 0) ∧ (¬ v.2 = 0)) (fun v => [(h, .inr (12, mG q v.1))]) := by
  refine wrv_of2 (by decide) (Nat.le_of_ble_eq_true rfl) ?_
  intro p e s m below meth c A ls H locs hC hK hP hD hA hS hl
  obtain ⟨hx, hb, hr, hml, hown, hts, hlocks, hin⟩ := hC
  have hown : s.vm.findClass RX12 = some m.cls := hown
  have hl : lv_has ls 3 [(0, .ref h), (1, .int (nI f0)), (2, .int (nI p0))] := hl
  have hsb : SB [21] im im := SB.rf
  refine lv_aload_n hx hb dX12_wrongs_0 rfl (lv_at hl 0 rfl) ?_
  refine lv_aload_n hx hb dX12_wrongs_1 rfl (lv_at hl 0 rfl) ?_
  refine va_get (D := D) (ci := 12) (v := .int (im 21)) (C := RX12) (T := TX12) (N := 81) hx hb hts inT_X12 hown hK.1 hP 0 rfl rfl 21 (by decide) (hts _ k_1374) (fun _ h9 => h9) rfl dX12_wrongs_2 ?_
  refine lv_topv (y := bd) hf_bd ?_
  refine lv_if_ge (tgt := 15) hx hb dX12_wrongs_5 (by decide) (fun c_1 => ?_) (fun c_1 => ?_)
  · refine lv_sipush (v := (-1000)) hx hb dX12_wrongs_15 (by decide) ?_
    refine lv_iload_n hx hb dX12_wrongs_18 rfl (lv_at hl 1 rfl) ?_
    refine lv_imul hx hb dX12_wrongs_19 ?_
    refine lv_topi (fun x_2 ex_2 => ?_)
    refine lv_iload_n hx hb dX12_wrongs_20 rfl (lv_at hl 2 rfl) ?_
    refine lv_isub hx hb dX12_wrongs_21 ?_
    refine lv_topi (fun x_3 ex_3 => ?_)
    refine va_put (D := D) (ci := 12) (v := .int x_3) (ty := .int) (C := RX12) (T := TX12) (N := 81) hx hb hts inT_X12 tyX12 tyX12_ok nmX12 hown hK.1 hP hD hS 0 rfl rfl 21 (by decide) (hts _ k_1374) (fun _ h9 => h9) rfl (by decide +kernel) rfl rfl (Nat.le_of_ble_eq_true rfl) dX12_wrongs_22 (fun H locs hP hD hS => ?_)
    obtain ⟨i_4, ei_4⟩ : ∃ z : Nat → Int32, z = upd im 21 x_3 := ⟨_, rfl⟩
    have hi_4_21 : i_4 21 = x_3 := by rw [ei_4]; rfl
    have hsb := SB.put hsb ei_4 (by decide)
    have hP : va_P D vwCl [(h, .inr (12, mG q i_4))] H := by rw [ei_4, ← mG_21]; exact hP
    have hD : va_D A [(h, .inr (12, mG q i_4))] := by rw [ei_4, ← mG_21]; exact hD
    exact W.vret hx hb hr (fun tt9 ht hW => ⟨⟨((i_4 : Nat → Int32), (x_3 : Int32)), rfl, (lf_X12_wrongs_5 h q im bd f0 p0 hf_bd hf0 hf5 hp0 c_1 x_2 ex_2 x_3 ex_3 i_4 hsb hi_4_21), ⟨by rw [ht]; exact hP, hD⟩⟩, hS.F ht⟩) hS.2.2 dX12_wrongs_25 hlocks
  · refine lv_aload_n hx hb dX12_wrongs_8 rfl (lv_at hl 0 rfl) ?_
    refine va_get (D := D) (ci := 12) (v := .int (im 21)) (C := RX12) (T := TX12) (N := 81) hx hb hts inT_X12 hown hK.1 hP 0 rfl rfl 21 (by decide) (hts _ k_1374) (fun _ h9 => h9) rfl dX12_wrongs_9 ?_
    refine lv_topv (y := bd) hf_bd ?_
    refine lv_goto (tgt := 22) hx hb dX12_wrongs_12 (by decide) ?_
    refine va_put (D := D) (ci := 12) (v := .int bd) (ty := .int) (C := RX12) (T := TX12) (N := 81) hx hb hts inT_X12 tyX12 tyX12_ok nmX12 hown hK.1 hP hD hS 0 rfl rfl 21 (by decide) (hts _ k_1374) (fun _ h9 => h9) rfl (by decide +kernel) rfl rfl (Nat.le_of_ble_eq_true rfl) dX12_wrongs_22 (fun H locs hP hD hS => ?_)
    obtain ⟨i_6, ei_6⟩ : ∃ z : Nat → Int32, z = upd im 21 bd := ⟨_, rfl⟩
    have hi_6_21 : i_6 21 = bd := by rw [ei_6]; rfl
    have hsb := SB.put hsb ei_6 (by decide)
    have hP : va_P D vwCl [(h, .inr (12, mG q i_6))] H := by rw [ei_6, ← mG_21]; exact hP
    have hD : va_D A [(h, .inr (12, mG q i_6))] := by rw [ei_6, ← mG_21]; exact hD
    exact W.vret hx hb hr (fun tt9 ht hW => ⟨⟨((i_6 : Nat → Int32), (bd : Int32)), rfl, (lf_X12_wrongs_7 h q im bd f0 p0 hf_bd hf0 hf5 hp0 c_1 i_6 hsb hi_6_21), ⟨by rw [ht]; exact hP, hD⟩⟩, hS.F ht⟩) hS.2.2 dX12_wrongs_25 hlocks

theorem lf_X12_isGood_2 (h : Nat) (q : Nat → Nat) (im : Nat → Int32) (bd : Int32) (hf_bd : im 21 = bd) (c_1 : ¬ bd = 0) : ((0 : Int32) = 0 ∧ ¬ bd = 0) ∨ ((0 : Int32) = 1 ∧ bd = 0) := by
  first | exact Or.inl ⟨rfl, by assumption⟩ | exact Or.inr ⟨rfl, by assumption⟩
theorem lf_X12_isGood_3 (h : Nat) (q : Nat → Nat) (im : Nat → Int32) (bd : Int32) (hf_bd : im 21 = bd) (c_1 : bd = 0) : ((1 : Int32) = 0 ∧ ¬ bd = 0) ∨ ((1 : Int32) = 1 ∧ bd = 0) := by
  first | exact Or.inl ⟨rfl, by assumption⟩ | exact Or.inr ⟨rfl, by assumption⟩
set_option maxHeartbeats 4000000 in
set_option maxRecDepth 100000 in
theorem c_X12_isGood (l : Launch) (D : va_G) (cI cB cZ cJ : ClassId) (tx : List (ClassId × FieldType)) (h : Nat) (q : Nat → Nat) (im : Nat → Int32) (bd : Int32) (hf_bd : im 21 = bd) : RdI l D cI cB cZ cJ tx yX12_isGood cX12_isGood 1 (some .boolean) 0 [.ref h] [(h, .inr (12, mG q im))] (fun r => (r = 0 ∧ ¬ bd = 0) ∨ (r = 1 ∧ bd = 0)) := by
  refine rdi_of2 (by decide) (Nat.le_of_ble_eq_true rfl) ?_
  intro p e s m below meth c A ls H locs hC hK hP hD hA hS hl
  obtain ⟨hx, hb, hr, hml, hown, hts, hlocks, hin⟩ := hC
  have hown : s.vm.findClass RX12 = some m.cls := hown
  have hl : lv_has ls 1 [(0, .ref h)] := hl
  refine lv_aload_n hx hb dX12_isGood_0 rfl (lv_at hl 0 rfl) ?_
  refine va_get (D := D) (ci := 12) (v := .int (im 21)) (C := RX12) (T := TX12) (N := 81) hx hb hts inT_X12 hown hK.1 hP 0 rfl rfl 21 (by decide) (hts _ k_1374) (fun _ h9 => h9) rfl dX12_isGood_1 ?_
  refine lv_topv (y := bd) hf_bd ?_
  refine lv_if_ne (tgt := 11) hx hb dX12_isGood_4 (by decide) (fun c_1 => ?_) (fun c_1 => ?_)
  · refine lv_iconst (v := 0) hx hb dX12_isGood_11 (by decide) ?_
    exact W.zret (v := 0) hx hb hr (by decide) (fun tt9 ht hW => ⟨⟨(0 : Int32), (), rfl, (lf_X12_isGood_2 h q im bd hf_bd c_1), trivial⟩, hS.F ht⟩) hS.2.2 dX12_isGood_12 hlocks
  · refine lv_iconst (v := 1) hx hb dX12_isGood_7 (by decide) ?_
    refine lv_goto (tgt := 12) hx hb dX12_isGood_8 (by decide) ?_
    exact W.zret (v := 1) hx hb hr (by decide) (fun tt9 ht hW => ⟨⟨(1 : Int32), (), rfl, (lf_X12_isGood_3 h q im bd hf_bd c_1), trivial⟩, hS.F ht⟩) hS.2.2 dX12_isGood_12 hlocks

theorem lf_X12_emit_g_3 (h : Nat) (q : Nat → Nat) (im : Nat → Int32) (cd : Nat) (m_newCode : Nat → Int32) (m_newArg : Nat → Int32) (n1 : Int32) (n2 : Int32) (hf_cd : im 23 = nI cd) (hf_b0 : im 21 = 0) (hcd : cd < 200) (hsb : SB [23] im im) : cd < 200 := by
  omega
theorem lf_X12_emit_g_5 (h : Nat) (q : Nat → Nat) (im : Nat → Int32) (cd : Nat) (m_newCode : Nat → Int32) (m_newArg : Nat → Int32) (n1 : Int32) (n2 : Int32) (hf_cd : im 23 = nI cd) (hf_b0 : im 21 = 0) (hcd : cd < 200) (hsb : SB [23] im im) (f_2 : Nat → Int32) (ef_2 : f_2 = upd m_newCode cd n1) : vp_in (nI cd) 200 := by
  first | exact vp_in_nI (by omega) (by decide) | (unfold vp_in; decide)
theorem lf_X12_emit_g_7 (h : Nat) (q : Nat → Nat) (im : Nat → Int32) (cd : Nat) (m_newCode : Nat → Int32) (m_newArg : Nat → Int32) (n1 : Int32) (n2 : Int32) (hf_cd : im 23 = nI cd) (hf_b0 : im 21 = 0) (hcd : cd < 200) (f_2 : Nat → Int32) (ef_2 : f_2 = upd m_newCode cd n1) (f_4 : Nat → Int32) (i_6 : Nat → Int32) (hsb : SB [23] im i_6) (hi_6_21 : i_6 21 = 0) (hi_6_23 : i_6 23 = nI (cd + 1)) : (SB [23] im (i_6 : Nat → Int32)) ∧ ((i_6 : Nat → Int32) 23 = nI ((cd + 1) : Nat)) ∧ (((cd + 1) : Nat) = cd + 1) ∧ ((f_2 : Nat → Int32) = upd m_newCode cd n1) := by
  repeat' apply And.intro
  all_goals first | assumption | omega | rfl | trivial
set_option maxHeartbeats 4000000 in
set_option maxRecDepth 100000 in
theorem c_X12_emit_g (l : Launch) (D : va_G) (cI cB cZ cJ : ClassId) (tx : List (ClassId × FieldType)) (h : Nat) (q : Nat → Nat) (im : Nat → Int32) (cd : Nat) (m_newCode : Nat → Int32) (m_newArg : Nat → Int32) (n1 : Int32) (n2 : Int32) (hf_cd : im 23 = nI cd) (hf_b0 : im 21 = 0) (hcd : cd < 200) : WrV l D cI cB cZ cJ tx yX12_emit cX12_emit 3 none 1 0 0 [.ref h, .int n1, .int n2] [(h, .inr (12, mG q im)), (q 17, .inl (cI, 200, .inl m_newCode)), (q 18, .inl (cI, 200, .inl m_newArg))] (fun (v : (Nat → Int32) × (Nat) × (Nat → Int32) × (Nat → Int32)) => (SB [23] im v.1) ∧ (v.1 23 = nI v.2.1) ∧ (v.2.1 = cd + 1) ∧ (v.2.2.1 = upd m_newCode cd n1)) (fun v => [(h, .inr (12, mG q v.1)), (q 17, .inl (cI, 200, .inl v.2.2.1)), (q 18, .inl (cI, 200, .inl v.2.2.2))]) := by
  refine wrv_of2 (by decide) (Nat.le_of_ble_eq_true rfl) ?_
  intro p e s m below meth c A ls H locs hC hK hP hD hA hS hl
  obtain ⟨hx, hb, hr, hml, hown, hts, hlocks, hin⟩ := hC
  have hown : s.vm.findClass RX12 = some m.cls := hown
  have hl : lv_has ls 3 [(0, .ref h), (1, .int n1), (2, .int n2)] := hl
  have hsb : SB [23] im im := SB.rf
  refine lv_aload_n hx hb dX12_emit_0 rfl (lv_at hl 0 rfl) ?_
  refine eRi (va_runV (As := []) (rest := []) ⟨hx, hb, hml, hown, hts⟩ (c_X12_isGood l D cI cB cZ cJ tx h q im 0 hf_b0 H.size) (zV hts k_1627 v_X12_isGood ⟨Nat.le_of_ble_eq_true rfl, Nat.le_of_ble_eq_true rfl⟩) (pV (px1 hK hP 0 rfl) hK hP 0 rfl rfl) rfl rfl hl.1 rfl (lv_room (Nat.le_of_ble_eq_true rfl)) dX12_emit_1 ⟨Nat.le_of_ble_eq_true rfl, Nat.le_of_ble_eq_true rfl⟩) hP hS hA (fun r_1 H locs wr_1 hP hS => ?_)
  rcases wr_1 with ⟨_, hb1⟩ | ⟨rfl, _⟩
  · exact absurd rfl hb1
  · refine lv_if_ne (tgt := 8) hx hb dX12_emit_4 (by decide) (fun _ => ?_) (fun c => absurd c (by decide))
    refine lv_aload_n hx hb dX12_emit_8 rfl (lv_at hl 0 rfl) ?_
    refine va_get (D := D) (ci := 12) (v := .ref (q 17)) (C := RX12) (T := TX12) (N := 81) hx hb hts inT_X12 hown hK.1 hP 0 rfl rfl 17 (by decide) (hts _ k_1370) (fun _ h9 => h9) rfl dX12_emit_9 ?_
    refine lv_aload_n hx hb dX12_emit_12 rfl (lv_at hl 0 rfl) ?_
    refine va_get (D := D) (ci := 12) (v := .int (im 23)) (C := RX12) (T := TX12) (N := 81) hx hb hts inT_X12 hown hK.1 hP 0 rfl rfl 23 (by decide) (hts _ k_1376) (fun _ h9 => h9) rfl dX12_emit_13 ?_
    refine lv_topv (y := nI cd) hf_cd ?_
    refine lv_iload_n hx hb dX12_emit_16 rfl (lv_at hl 1 rfl) ?_
    refine su_i (j := cd) hx hb hK hP hD hS 1 rfl (lf_X12_emit_g_3 h q im cd m_newCode m_newArg n1 n2 hf_cd hf_b0 hcd hsb) (by decide) dX12_emit_17 (fun f_2 H locs ef_2 hP hD hS => ?_)
    have hP : va_P D vwCl [(h, .inr (12, mG q im)), (q 17, .inl (cI, 200, .inl f_2)), (q 18, .inl (cI, 200, .inl m_newArg))] H := hP
    have hD : va_D A [(h, .inr (12, mG q im)), (q 17, .inl (cI, 200, .inl f_2)), (q 18, .inl (cI, 200, .inl m_newArg))] := hD
    refine lv_aload_n hx hb dX12_emit_18 rfl (lv_at hl 0 rfl) ?_
    refine va_get (D := D) (ci := 12) (v := .ref (q 18)) (C := RX12) (T := TX12) (N := 81) hx hb hts inT_X12 hown hK.1 hP 0 rfl rfl 18 (by decide) (hts _ k_1371) (fun _ h9 => h9) rfl dX12_emit_19 ?_
    refine lv_aload_n hx hb dX12_emit_22 rfl (lv_at hl 0 rfl) ?_
    refine va_get (D := D) (ci := 12) (v := .int (im 23)) (C := RX12) (T := TX12) (N := 81) hx hb hts inT_X12 hown hK.1 hP 0 rfl rfl 23 (by decide) (hts _ k_1376) (fun _ h9 => h9) rfl dX12_emit_23 ?_
    refine lv_topv (y := nI cd) hf_cd ?_
    refine lv_iload_n hx hb dX12_emit_26 rfl (lv_at hl 2 rfl) ?_
    refine st_i hx hb hK hP hD hS 2 rfl (lf_X12_emit_g_5 h q im cd m_newCode m_newArg n1 n2 hf_cd hf_b0 hcd hsb f_2 ef_2) dX12_emit_27 (fun f_4 H locs hP hD hS => ?_)
    have hP : va_P D vwCl [(h, .inr (12, mG q im)), (q 17, .inl (cI, 200, .inl f_2)), (q 18, .inl (cI, 200, .inl f_4))] H := hP
    have hD : va_D A [(h, .inr (12, mG q im)), (q 17, .inl (cI, 200, .inl f_2)), (q 18, .inl (cI, 200, .inl f_4))] := hD
    refine lv_aload_n hx hb dX12_emit_28 rfl (lv_at hl 0 rfl) ?_
    refine lv_dup hx hb dX12_emit_29 rfl ?_
    refine va_get (D := D) (ci := 12) (v := .int (im 23)) (C := RX12) (T := TX12) (N := 81) hx hb hts inT_X12 hown hK.1 hP 0 rfl rfl 23 (by decide) (hts _ k_1376) (fun _ h9 => h9) rfl dX12_emit_30 ?_
    refine lv_topv (y := nI cd) hf_cd ?_
    refine lv_iconst (v := 1) hx hb dX12_emit_33 (by decide) ?_
    refine lv_iadd hx hb dX12_emit_34 ?_
    refine lv_topv (y := nI (cd + 1)) (nI_add cd 1) ?_
    refine va_put (D := D) (ci := 12) (v := .int (nI (cd + 1))) (ty := .int) (C := RX12) (T := TX12) (N := 81) hx hb hts inT_X12 tyX12 tyX12_ok nmX12 hown hK.1 hP hD hS 0 rfl rfl 23 (by decide) (hts _ k_1376) (fun _ h9 => h9) rfl (by decide +kernel) rfl rfl (Nat.le_of_ble_eq_true rfl) dX12_emit_35 (fun H locs hP hD hS => ?_)
    obtain ⟨i_6, ei_6⟩ : ∃ z : Nat → Int32, z = upd im 23 (nI (cd + 1)) := ⟨_, rfl⟩
    have hi_6_21 : i_6 21 = 0 := by rw [ei_6]; exact hf_b0
    have hi_6_23 : i_6 23 = nI (cd + 1) := by rw [ei_6]; rfl
    have hsb := SB.put hsb ei_6 (by decide)
    have hP : va_P D vwCl [(h, .inr (12, mG q i_6)), (q 17, .inl (cI, 200, .inl f_2)), (q 18, .inl (cI, 200, .inl f_4))] H := by rw [ei_6, ← mG_23]; exact hP
    have hD : va_D A [(h, .inr (12, mG q i_6)), (q 17, .inl (cI, 200, .inl f_2)), (q 18, .inl (cI, 200, .inl f_4))] := by rw [ei_6, ← mG_23]; exact hD
    exact W.vret hx hb hr (fun tt9 ht hW => ⟨⟨((i_6 : Nat → Int32), ((cd + 1) : Nat), (f_2 : Nat → Int32), (f_4 : Nat → Int32)), rfl, (lf_X12_emit_g_7 h q im cd m_newCode m_newArg n1 n2 hf_cd hf_b0 hcd f_2 ef_2 f_4 i_6 hsb hi_6_21 hi_6_23), ⟨by rw [ht]; exact hP, hD⟩⟩, hS.F ht⟩) hS.2.2 dX12_emit_38 hlocks

theorem lf_X12_emit_x_2 (h : Nat) (q : Nat → Nat) (im : Nat → Int32) (cd : Nat) (bd : Int32) (m_newCode : Nat → Int32) (m_newArg : Nat → Int32) (n1 : Int32) (n2 : Int32) (hf_cd : im 23 = nI cd) (hf_bd : im 21 = bd) (hcd : cd < 200) (hsb : SB [23] im im) (hb1 : ¬ bd = 0) : (SB [23] im (im : Nat → Int32)) ∧ ((im : Nat → Int32) 23 = nI (cd : Nat)) ∧ ((bd = 0 ∧ (cd : Nat) = cd + 1 ∧ (m_newCode : Nat → Int32) = upd m_newCode cd n1) ∨ (¬ bd = 0 ∧ (cd : Nat) = cd ∧ (m_newCode : Nat → Int32) = m_newCode)) := by
  repeat' apply And.intro
  all_goals first | assumption | exact Or.inl ⟨rfl, rfl, by assumption⟩ | exact Or.inl ⟨by assumption, rfl, by assumption⟩ | exact Or.inr ⟨by assumption, rfl, rfl⟩
theorem lf_X12_emit_x_4 (h : Nat) (q : Nat → Nat) (im : Nat → Int32) (cd : Nat) (bd : Int32) (m_newCode : Nat → Int32) (m_newArg : Nat → Int32) (n1 : Int32) (n2 : Int32) (hf_cd : im 23 = nI cd) (hf_bd : im 21 = bd) (hcd : cd < 200) (hsb : SB [23] im im) (hb1 : bd = 0) : cd < 200 := by
  omega
theorem lf_X12_emit_x_6 (h : Nat) (q : Nat → Nat) (im : Nat → Int32) (cd : Nat) (bd : Int32) (m_newCode : Nat → Int32) (m_newArg : Nat → Int32) (n1 : Int32) (n2 : Int32) (hf_cd : im 23 = nI cd) (hf_bd : im 21 = bd) (hcd : cd < 200) (hsb : SB [23] im im) (hb1 : bd = 0) (f_3 : Nat → Int32) (ef_3 : f_3 = upd m_newCode cd n1) : vp_in (nI cd) 200 := by
  first | exact vp_in_nI (by omega) (by decide) | (unfold vp_in; decide)
theorem lf_X12_emit_x_8 (h : Nat) (q : Nat → Nat) (im : Nat → Int32) (cd : Nat) (bd : Int32) (m_newCode : Nat → Int32) (m_newArg : Nat → Int32) (n1 : Int32) (n2 : Int32) (hf_cd : im 23 = nI cd) (hf_bd : im 21 = bd) (hcd : cd < 200) (hb1 : bd = 0) (f_3 : Nat → Int32) (ef_3 : f_3 = upd m_newCode cd n1) (f_5 : Nat → Int32) (i_7 : Nat → Int32) (hsb : SB [23] im i_7) (hi_7_21 : i_7 21 = 0) (hi_7_23 : i_7 23 = nI (cd + 1)) : (SB [23] im (i_7 : Nat → Int32)) ∧ ((i_7 : Nat → Int32) 23 = nI ((cd + 1) : Nat)) ∧ ((bd = 0 ∧ ((cd + 1) : Nat) = cd + 1 ∧ (f_3 : Nat → Int32) = upd m_newCode cd n1) ∨ (¬ bd = 0 ∧ ((cd + 1) : Nat) = cd ∧ (f_3 : Nat → Int32) = m_newCode)) := by
  repeat' apply And.intro
  all_goals first | assumption | exact Or.inl ⟨rfl, rfl, by assumption⟩ | exact Or.inl ⟨by assumption, rfl, by assumption⟩ | exact Or.inr ⟨by assumption, rfl, rfl⟩
set_option maxHeartbeats 4000000 in
set_option maxRecDepth 100000 in
theorem c_X12_emit_x (l : Launch) (D : va_G) (cI cB cZ cJ : ClassId) (tx : List (ClassId × FieldType)) (h : Nat) (q : Nat → Nat) (im : Nat → Int32) (cd : Nat) (bd : Int32) (m_newCode : Nat → Int32) (m_newArg : Nat → Int32) (n1 : Int32) (n2 : Int32) (hf_cd : im 23 = nI cd) (hf_bd : im 21 = bd) (hcd : cd < 200) : WrV l D cI cB cZ cJ tx yX12_emit cX12_emit 3 none 1 0 0 [.ref h, .int n1, .int n2] [(h, .inr (12, mG q im)), (q 17, .inl (cI, 200, .inl m_newCode)), (q 18, .inl (cI, 200, .inl m_newArg))] (fun (v : (Nat → Int32) × (Nat) × (Nat → Int32) × (Nat → Int32)) => (SB [23] im v.1) ∧ (v.1 23 = nI v.2.1) ∧ ((bd = 0 ∧ v.2.1 = cd + 1 ∧ v.2.2.1 = upd m_newCode cd n1) ∨ (¬ bd = 0 ∧ v.2.1 = cd ∧ v.2.2.1 = m_newCode))) (fun v => [(h, .inr (12, mG q v.1)), (q 17, .inl (cI, 200, .inl v.2.2.1)), (q 18, .inl (cI, 200, .inl v.2.2.2))]) := by
  refine wrv_of2 (by decide) (Nat.le_of_ble_eq_true rfl) ?_
  intro p e s m below meth c A ls H locs hC hK hP hD hA hS hl
  obtain ⟨hx, hb, hr, hml, hown, hts, hlocks, hin⟩ := hC
  have hown : s.vm.findClass RX12 = some m.cls := hown
  have hl : lv_has ls 3 [(0, .ref h), (1, .int n1), (2, .int n2)] := hl
  have hsb : SB [23] im im := SB.rf
  refine lv_aload_n hx hb dX12_emit_0 rfl (lv_at hl 0 rfl) ?_
  refine eRi (va_runV (As := []) (rest := []) ⟨hx, hb, hml, hown, hts⟩ (c_X12_isGood l D cI cB cZ cJ tx h q im bd hf_bd H.size) (zV hts k_1627 v_X12_isGood ⟨Nat.le_of_ble_eq_true rfl, Nat.le_of_ble_eq_true rfl⟩) (pV (px1 hK hP 0 rfl) hK hP 0 rfl rfl) rfl rfl hl.1 rfl (lv_room (Nat.le_of_ble_eq_true rfl)) dX12_emit_1 ⟨Nat.le_of_ble_eq_true rfl, Nat.le_of_ble_eq_true rfl⟩) hP hS hA (fun r_1 H locs wr_1 hP hS => ?_)
  rcases wr_1 with ⟨rfl, hb1⟩ | ⟨rfl, rfl⟩
  · refine lv_if_ne (tgt := 8) hx hb dX12_emit_4 (by decide) (fun c => absurd c (by decide)) (fun _ => ?_)
    exact W.vret hx hb hr (fun tt9 ht hW => ⟨⟨((im : Nat → Int32), (cd : Nat), (m_newCode : Nat → Int32), (m_newArg : Nat → Int32)), rfl, (lf_X12_emit_x_2 h q im cd bd m_newCode m_newArg n1 n2 hf_cd hf_bd hcd hsb hb1), ⟨by rw [ht]; exact hP, hD⟩⟩, hS.F ht⟩) hS.2.2 dX12_emit_7 hlocks
  · refine lv_if_ne (tgt := 8) hx hb dX12_emit_4 (by decide) (fun _ => ?_) (fun c => absurd c (by decide))
    refine lv_aload_n hx hb dX12_emit_8 rfl (lv_at hl 0 rfl) ?_
    refine va_get (D := D) (ci := 12) (v := .ref (q 17)) (C := RX12) (T := TX12) (N := 81) hx hb hts inT_X12 hown hK.1 hP 0 rfl rfl 17 (by decide) (hts _ k_1370) (fun _ h9 => h9) rfl dX12_emit_9 ?_
    refine lv_aload_n hx hb dX12_emit_12 rfl (lv_at hl 0 rfl) ?_
    refine va_get (D := D) (ci := 12) (v := .int (im 23)) (C := RX12) (T := TX12) (N := 81) hx hb hts inT_X12 hown hK.1 hP 0 rfl rfl 23 (by decide) (hts _ k_1376) (fun _ h9 => h9) rfl dX12_emit_13 ?_
    refine lv_topv (y := nI cd) hf_cd ?_
    refine lv_iload_n hx hb dX12_emit_16 rfl (lv_at hl 1 rfl) ?_
    refine su_i (j := cd) hx hb hK hP hD hS 1 rfl (lf_X12_emit_x_4 h q im cd (0) m_newCode m_newArg n1 n2 hf_cd hf_bd hcd hsb rfl) (by decide) dX12_emit_17 (fun f_3 H locs ef_3 hP hD hS => ?_)
    have hP : va_P D vwCl [(h, .inr (12, mG q im)), (q 17, .inl (cI, 200, .inl f_3)), (q 18, .inl (cI, 200, .inl m_newArg))] H := hP
    have hD : va_D A [(h, .inr (12, mG q im)), (q 17, .inl (cI, 200, .inl f_3)), (q 18, .inl (cI, 200, .inl m_newArg))] := hD
    refine lv_aload_n hx hb dX12_emit_18 rfl (lv_at hl 0 rfl) ?_
    refine va_get (D := D) (ci := 12) (v := .ref (q 18)) (C := RX12) (T := TX12) (N := 81) hx hb hts inT_X12 hown hK.1 hP 0 rfl rfl 18 (by decide) (hts _ k_1371) (fun _ h9 => h9) rfl dX12_emit_19 ?_
    refine lv_aload_n hx hb dX12_emit_22 rfl (lv_at hl 0 rfl) ?_
    refine va_get (D := D) (ci := 12) (v := .int (im 23)) (C := RX12) (T := TX12) (N := 81) hx hb hts inT_X12 hown hK.1 hP 0 rfl rfl 23 (by decide) (hts _ k_1376) (fun _ h9 => h9) rfl dX12_emit_23 ?_
    refine lv_topv (y := nI cd) hf_cd ?_
    refine lv_iload_n hx hb dX12_emit_26 rfl (lv_at hl 2 rfl) ?_
    refine st_i hx hb hK hP hD hS 2 rfl (lf_X12_emit_x_6 h q im cd (0) m_newCode m_newArg n1 n2 hf_cd hf_bd hcd hsb rfl f_3 ef_3) dX12_emit_27 (fun f_5 H locs hP hD hS => ?_)
    have hP : va_P D vwCl [(h, .inr (12, mG q im)), (q 17, .inl (cI, 200, .inl f_3)), (q 18, .inl (cI, 200, .inl f_5))] H := hP
    have hD : va_D A [(h, .inr (12, mG q im)), (q 17, .inl (cI, 200, .inl f_3)), (q 18, .inl (cI, 200, .inl f_5))] := hD
    refine lv_aload_n hx hb dX12_emit_28 rfl (lv_at hl 0 rfl) ?_
    refine lv_dup hx hb dX12_emit_29 rfl ?_
    refine va_get (D := D) (ci := 12) (v := .int (im 23)) (C := RX12) (T := TX12) (N := 81) hx hb hts inT_X12 hown hK.1 hP 0 rfl rfl 23 (by decide) (hts _ k_1376) (fun _ h9 => h9) rfl dX12_emit_30 ?_
    refine lv_topv (y := nI cd) hf_cd ?_
    refine lv_iconst (v := 1) hx hb dX12_emit_33 (by decide) ?_
    refine lv_iadd hx hb dX12_emit_34 ?_
    refine lv_topv (y := nI (cd + 1)) (nI_add cd 1) ?_
    refine va_put (D := D) (ci := 12) (v := .int (nI (cd + 1))) (ty := .int) (C := RX12) (T := TX12) (N := 81) hx hb hts inT_X12 tyX12 tyX12_ok nmX12 hown hK.1 hP hD hS 0 rfl rfl 23 (by decide) (hts _ k_1376) (fun _ h9 => h9) rfl (by decide +kernel) rfl rfl (Nat.le_of_ble_eq_true rfl) dX12_emit_35 (fun H locs hP hD hS => ?_)
    obtain ⟨i_7, ei_7⟩ : ∃ z : Nat → Int32, z = upd im 23 (nI (cd + 1)) := ⟨_, rfl⟩
    have hi_7_21 : i_7 21 = 0 := by rw [ei_7]; exact hf_bd
    have hi_7_23 : i_7 23 = nI (cd + 1) := by rw [ei_7]; rfl
    have hsb := SB.put hsb ei_7 (by decide)
    have hP : va_P D vwCl [(h, .inr (12, mG q i_7)), (q 17, .inl (cI, 200, .inl f_3)), (q 18, .inl (cI, 200, .inl f_5))] H := by rw [ei_7, ← mG_23]; exact hP
    have hD : va_D A [(h, .inr (12, mG q i_7)), (q 17, .inl (cI, 200, .inl f_3)), (q 18, .inl (cI, 200, .inl f_5))] := by rw [ei_7, ← mG_23]; exact hD
    exact W.vret hx hb hr (fun tt9 ht hW => ⟨⟨((i_7 : Nat → Int32), ((cd + 1) : Nat), (f_3 : Nat → Int32), (f_5 : Nat → Int32)), rfl, (lf_X12_emit_x_8 h q im cd (0) m_newCode m_newArg n1 n2 hf_cd hf_bd hcd rfl f_3 ef_3 f_5 i_7 hsb hi_7_21 hi_7_23), ⟨by rw [ht]; exact hP, hD⟩⟩, hS.F ht⟩) hS.2.2 dX12_emit_38 hlocks

theorem lf_X12_top_3 (h : Nat) (q : Nat → Nat) (im : Nat → Int32) (sp : Nat) (m_stack : Nat → Int32) (hf_sp : im 25 = nI sp) (hsp : sp ≤ 240) (c_1 : nI sp ≤ 0) : sp ≤ 0 := by
  exact (nI_leI (a := sp) (b := 0) (by omega) (by omega)).mp c_1
theorem lf_X12_top_4 (h : Nat) (q : Nat → Nat) (im : Nat → Int32) (sp : Nat) (m_stack : Nat → Int32) (hf_sp : im 25 = nI sp) (hsp : sp ≤ 240) (c_1 : nI sp ≤ 0) (n_2 : sp ≤ 0) : (sp = 0 ∧ (0 : Int32) = 0) ∨ (0 < sp ∧ (0 : Int32) = m_stack (sp - 1)) := by
  first | exact Or.inl ⟨by omega, rfl⟩ | exact Or.inr ⟨by omega, rfl⟩
theorem lf_X12_top_6 (h : Nat) (q : Nat → Nat) (im : Nat → Int32) (sp : Nat) (m_stack : Nat → Int32) (hf_sp : im 25 = nI sp) (hsp : sp ≤ 240) (c_1 : ¬ nI sp ≤ 0) : 0 < sp := by
  exact Nat.lt_of_not_le (fun q => c_1 ((nI_leI (a := sp) (b := 0) (by omega) (by omega)).mpr q))
theorem lf_X12_top_7 (h : Nat) (q : Nat → Nat) (im : Nat → Int32) (sp : Nat) (m_stack : Nat → Int32) (hf_sp : im 25 = nI sp) (hsp : sp ≤ 240) (c_1 : ¬ nI sp ≤ 0) (n_5 : 0 < sp) : 1 ≤ sp := by
  omega
theorem lf_X12_top_8 (h : Nat) (q : Nat → Nat) (im : Nat → Int32) (sp : Nat) (m_stack : Nat → Int32) (hf_sp : im 25 = nI sp) (hsp : sp ≤ 240) (c_1 : ¬ nI sp ≤ 0) (n_5 : 0 < sp) : (sp - 1) < 240 := by
  omega
theorem lf_X12_top_9 (h : Nat) (q : Nat → Nat) (im : Nat → Int32) (sp : Nat) (m_stack : Nat → Int32) (hf_sp : im 25 = nI sp) (hsp : sp ≤ 240) (c_1 : ¬ nI sp ≤ 0) (n_5 : 0 < sp) : (sp = 0 ∧ (m_stack (sp - 1) : Int32) = 0) ∨ (0 < sp ∧ (m_stack (sp - 1) : Int32) = m_stack (sp - 1)) := by
  first | exact Or.inl ⟨by omega, rfl⟩ | exact Or.inr ⟨by omega, rfl⟩
set_option maxHeartbeats 4000000 in
set_option maxRecDepth 100000 in
theorem c_X12_top (l : Launch) (D : va_G) (cI cB cZ cJ : ClassId) (tx : List (ClassId × FieldType)) (h : Nat) (q : Nat → Nat) (im : Nat → Int32) (sp : Nat) (m_stack : Nat → Int32) (hf_sp : im 25 = nI sp) (hsp : sp ≤ 240) : RdI l D cI cB cZ cJ tx yX12_top cX12_top 1 (some .int) 0 [.ref h] [(h, .inr (12, mG q im)), (q 28, .inl (cI, 240, .inl m_stack))] (fun r => (sp = 0 ∧ r = 0) ∨ (0 < sp ∧ r = m_stack (sp - 1))) := by
  refine rdi_of2 (by decide) (Nat.le_of_ble_eq_true rfl) ?_
  intro p e s m below meth c A ls H locs hC hK hP hD hA hS hl
  obtain ⟨hx, hb, hr, hml, hown, hts, hlocks, hin⟩ := hC
  have hown : s.vm.findClass RX12 = some m.cls := hown
  have hl : lv_has ls 1 [(0, .ref h)] := hl
  refine lv_aload_n hx hb dX12_top_0 rfl (lv_at hl 0 rfl) ?_
  refine va_get (D := D) (ci := 12) (v := .int (im 25)) (C := RX12) (T := TX12) (N := 81) hx hb hts inT_X12 hown hK.1 hP 0 rfl rfl 25 (by decide) (hts _ k_1378) (fun _ h9 => h9) rfl dX12_top_1 ?_
  refine lv_topv (y := nI sp) hf_sp ?_
  refine lv_if_le (tgt := 21) hx hb dX12_top_4 (by decide) (fun c_1 => ?_) (fun c_1 => ?_)
  · have n_2 : sp ≤ 0 := (lf_X12_top_3 h q im sp m_stack hf_sp hsp c_1)
    refine lv_iconst (v := 0) hx hb dX12_top_21 (by decide) ?_
    exact W.iret (v := 0) hx hb hr (fun tt9 ht hW => ⟨⟨(0 : Int32), (), rfl, (lf_X12_top_4 h q im sp m_stack hf_sp hsp c_1 n_2), trivial⟩, hS.F ht⟩) hS.2.2 dX12_top_22 hlocks
  · have n_5 : 0 < sp := (lf_X12_top_6 h q im sp m_stack hf_sp hsp c_1)
    refine lv_aload_n hx hb dX12_top_7 rfl (lv_at hl 0 rfl) ?_
    refine va_get (D := D) (ci := 12) (v := .ref (q 28)) (C := RX12) (T := TX12) (N := 81) hx hb hts inT_X12 hown hK.1 hP 0 rfl rfl 28 (by decide) (hts _ k_1381) (fun _ h9 => h9) rfl dX12_top_8 ?_
    refine lv_aload_n hx hb dX12_top_11 rfl (lv_at hl 0 rfl) ?_
    refine va_get (D := D) (ci := 12) (v := .int (im 25)) (C := RX12) (T := TX12) (N := 81) hx hb hts inT_X12 hown hK.1 hP 0 rfl rfl 25 (by decide) (hts _ k_1378) (fun _ h9 => h9) rfl dX12_top_12 ?_
    refine lv_topv (y := nI sp) hf_sp ?_
    refine lv_iconst (v := 1) hx hb dX12_top_15 (by decide) ?_
    refine lv_isub hx hb dX12_top_16 ?_
    refine lv_topv (y := nI (sp - 1)) (pk_sub (lf_X12_top_7 h q im sp m_stack hf_sp hsp c_1 n_5)) ?_
    refine lt_i (j := (sp - 1)) hx hb hK hP 1 rfl (lf_X12_top_8 h q im sp m_stack hf_sp hsp c_1 n_5) (by decide) dX12_top_17 ?_
    refine lv_goto (tgt := 22) hx hb dX12_top_18 (by decide) ?_
    exact W.iret (v := m_stack (sp - 1)) hx hb hr (fun tt9 ht hW => ⟨⟨(m_stack (sp - 1) : Int32), (), rfl, (lf_X12_top_9 h q im sp m_stack hf_sp hsp c_1 n_5), trivial⟩, hS.F ht⟩) hS.2.2 dX12_top_22 hlocks

theorem lf_X12_puts_2 (h : Nat) (q : Nat → Nat) (im : Nat → Int32) (pl : Nat) (sp : Nat) (m_stack : Nat → Int32) (n1 : Int32) (hf_sp : im 25 = nI sp) (hf_pl : im 19 = nI pl) (hsp : sp < 240) (hsb : SB [19, 25] im im) : sp < 240 := by
  omega
theorem lf_X12_puts_5 (h : Nat) (q : Nat → Nat) (im : Nat → Int32) (pl : Nat) (sp : Nat) (m_stack : Nat → Int32) (n1 : Int32) (hf_sp : im 25 = nI sp) (hf_pl : im 19 = nI pl) (hsp : sp < 240) (f_1 : Nat → Int32) (ef_1 : f_1 = upd m_stack sp n1) (i_3 : Nat → Int32) (i_4 : Nat → Int32) (hsb : SB [19, 25] im i_4) (hi_4_25 : i_4 25 = nI (sp + 1)) (hi_4_19 : i_4 19 = nI (pl + 1)) : (SB [19, 25] im (i_4 : Nat → Int32)) ∧ ((i_4 : Nat → Int32) 25 = nI ((sp + 1) : Nat)) ∧ ((i_4 : Nat → Int32) 19 = nI ((pl + 1) : Nat)) ∧ (((sp + 1) : Nat) = sp + 1) ∧ (((pl + 1) : Nat) = pl + 1) ∧ ((f_1 : Nat → Int32) = upd m_stack sp n1) := by
  repeat' apply And.intro
  all_goals first | assumption | omega | rfl | trivial
set_option maxHeartbeats 4000000 in
set_option maxRecDepth 100000 in
theorem c_X12_puts (l : Launch) (D : va_G) (cI cB cZ cJ : ClassId) (tx : List (ClassId × FieldType)) (h : Nat) (q : Nat → Nat) (im : Nat → Int32) (pl : Nat) (sp : Nat) (m_stack : Nat → Int32) (n1 : Int32) (hf_sp : im 25 = nI sp) (hf_pl : im 19 = nI pl) (hsp : sp < 240) : WrV l D cI cB cZ cJ tx yX12_puts cX12_puts 2 none 0 0 0 [.ref h, .int n1] [(h, .inr (12, mG q im)), (q 28, .inl (cI, 240, .inl m_stack))] (fun (v : (Nat → Int32) × (Nat) × (Nat) × (Nat → Int32)) => (SB [19, 25] im v.1) ∧ (v.1 25 = nI v.2.1) ∧ (v.1 19 = nI v.2.2.1) ∧ (v.2.1 = sp + 1) ∧ (v.2.2.1 = pl + 1) ∧ (v.2.2.2 = upd m_stack sp n1)) (fun v => [(h, .inr (12, mG q v.1)), (q 28, .inl (cI, 240, .inl v.2.2.2))]) := by
  refine wrv_of2 (by decide) (Nat.le_of_ble_eq_true rfl) ?_
  intro p e s m below meth c A ls H locs hC hK hP hD hA hS hl
  obtain ⟨hx, hb, hr, hml, hown, hts, hlocks, hin⟩ := hC
  have hown : s.vm.findClass RX12 = some m.cls := hown
  have hl : lv_has ls 2 [(0, .ref h), (1, .int n1)] := hl
  have hsb : SB [19, 25] im im := SB.rf
  refine lv_aload_n hx hb dX12_puts_0 rfl (lv_at hl 0 rfl) ?_
  refine va_get (D := D) (ci := 12) (v := .ref (q 28)) (C := RX12) (T := TX12) (N := 81) hx hb hts inT_X12 hown hK.1 hP 0 rfl rfl 28 (by decide) (hts _ k_1381) (fun _ h9 => h9) rfl dX12_puts_1 ?_
  refine lv_aload_n hx hb dX12_puts_4 rfl (lv_at hl 0 rfl) ?_
  refine va_get (D := D) (ci := 12) (v := .int (im 25)) (C := RX12) (T := TX12) (N := 81) hx hb hts inT_X12 hown hK.1 hP 0 rfl rfl 25 (by decide) (hts _ k_1378) (fun _ h9 => h9) rfl dX12_puts_5 ?_
  refine lv_topv (y := nI sp) hf_sp ?_
  refine lv_iload_n hx hb dX12_puts_8 rfl (lv_at hl 1 rfl) ?_
  refine su_i (j := sp) hx hb hK hP hD hS 1 rfl (lf_X12_puts_2 h q im pl sp m_stack n1 hf_sp hf_pl hsp hsb) (by decide) dX12_puts_9 (fun f_1 H locs ef_1 hP hD hS => ?_)
  have hP : va_P D vwCl [(h, .inr (12, mG q im)), (q 28, .inl (cI, 240, .inl f_1))] H := hP
  have hD : va_D A [(h, .inr (12, mG q im)), (q 28, .inl (cI, 240, .inl f_1))] := hD
  refine lv_aload_n hx hb dX12_puts_10 rfl (lv_at hl 0 rfl) ?_
  refine lv_dup hx hb dX12_puts_11 rfl ?_
  refine va_get (D := D) (ci := 12) (v := .int (im 25)) (C := RX12) (T := TX12) (N := 81) hx hb hts inT_X12 hown hK.1 hP 0 rfl rfl 25 (by decide) (hts _ k_1378) (fun _ h9 => h9) rfl dX12_puts_12 ?_
  refine lv_topv (y := nI sp) hf_sp ?_
  refine lv_iconst (v := 1) hx hb dX12_puts_15 (by decide) ?_
  refine lv_iadd hx hb dX12_puts_16 ?_
  refine lv_topv (y := nI (sp + 1)) (nI_add sp 1) ?_
  refine va_put (D := D) (ci := 12) (v := .int (nI (sp + 1))) (ty := .int) (C := RX12) (T := TX12) (N := 81) hx hb hts inT_X12 tyX12 tyX12_ok nmX12 hown hK.1 hP hD hS 0 rfl rfl 25 (by decide) (hts _ k_1378) (fun _ h9 => h9) rfl (by decide +kernel) rfl rfl (Nat.le_of_ble_eq_true rfl) dX12_puts_17 (fun H locs hP hD hS => ?_)
  obtain ⟨i_3, ei_3⟩ : ∃ z : Nat → Int32, z = upd im 25 (nI (sp + 1)) := ⟨_, rfl⟩
  have hi_3_19 : i_3 19 = nI pl := by rw [ei_3]; exact hf_pl
  have hi_3_25 : i_3 25 = nI (sp + 1) := by rw [ei_3]; rfl
  have hsb := SB.put hsb ei_3 (by decide)
  have hP : va_P D vwCl [(h, .inr (12, mG q i_3)), (q 28, .inl (cI, 240, .inl f_1))] H := by rw [ei_3, ← mG_25]; exact hP
  have hD : va_D A [(h, .inr (12, mG q i_3)), (q 28, .inl (cI, 240, .inl f_1))] := by rw [ei_3, ← mG_25]; exact hD
  refine lv_aload_n hx hb dX12_puts_20 rfl (lv_at hl 0 rfl) ?_
  refine lv_dup hx hb dX12_puts_21 rfl ?_
  refine va_get (D := D) (ci := 12) (v := .int (i_3 19)) (C := RX12) (T := TX12) (N := 81) hx hb hts inT_X12 hown hK.1 hP 0 rfl rfl 19 (by decide) (hts _ k_1372) (fun _ h9 => h9) rfl dX12_puts_22 ?_
  refine lv_topv (y := nI pl) hi_3_19 ?_
  refine lv_iconst (v := 1) hx hb dX12_puts_25 (by decide) ?_
  refine lv_iadd hx hb dX12_puts_26 ?_
  refine lv_topv (y := nI (pl + 1)) (nI_add pl 1) ?_
  refine va_put (D := D) (ci := 12) (v := .int (nI (pl + 1))) (ty := .int) (C := RX12) (T := TX12) (N := 81) hx hb hts inT_X12 tyX12 tyX12_ok nmX12 hown hK.1 hP hD hS 0 rfl rfl 19 (by decide) (hts _ k_1372) (fun _ h9 => h9) rfl (by decide +kernel) rfl rfl (Nat.le_of_ble_eq_true rfl) dX12_puts_27 (fun H locs hP hD hS => ?_)
  obtain ⟨i_4, ei_4⟩ : ∃ z : Nat → Int32, z = upd i_3 19 (nI (pl + 1)) := ⟨_, rfl⟩
  have hi_4_25 : i_4 25 = nI (sp + 1) := by rw [ei_4]; exact hi_3_25
  have hi_4_19 : i_4 19 = nI (pl + 1) := by rw [ei_4]; rfl
  have hsb := SB.put hsb ei_4 (by decide)
  have hP : va_P D vwCl [(h, .inr (12, mG q i_4)), (q 28, .inl (cI, 240, .inl f_1))] H := by rw [ei_4, ← mG_19]; exact hP
  have hD : va_D A [(h, .inr (12, mG q i_4)), (q 28, .inl (cI, 240, .inl f_1))] := by rw [ei_4, ← mG_19]; exact hD
  exact W.vret hx hb hr (fun tt9 ht hW => ⟨⟨((i_4 : Nat → Int32), ((sp + 1) : Nat), ((pl + 1) : Nat), (f_1 : Nat → Int32)), rfl, (lf_X12_puts_5 h q im pl sp m_stack n1 hf_sp hf_pl hsp f_1 ef_1 i_3 i_4 hsb hi_4_25 hi_4_19), ⟨by rw [ht]; exact hP, hD⟩⟩, hS.F ht⟩) hS.2.2 dX12_puts_30 hlocks

theorem lf_X12_opens_4 (h : Nat) (q : Nat → Nat) (im : Nat → Int32) (pl : Nat) (ed : Nat) (sp : Nat) (m_tape : Nat → Int32) (m_stack : Nat → Int32) (hf_sp : im 25 = nI sp) (hf_pl : im 19 = nI pl) (hf_ed : im 20 = nI ed) (hf_b0 : im 21 = 0) (hed : ed ≤ 200) (hpl : pl ≤ 200) (hsp : sp < 240) (c_1 : ¬ im 24 = 6) (x_2 : Int32) (ex_2 : x_2 = im 24 + 1) (i_3 : Nat → Int32) (hsb : SB [19, 21, 24, 25] im i_3) : ed ≤ 200 := by
  first | assumption | omega | decide | rfl
theorem lf_X12_opens_5 (h : Nat) (q : Nat → Nat) (im : Nat → Int32) (pl : Nat) (ed : Nat) (sp : Nat) (m_tape : Nat → Int32) (m_stack : Nat → Int32) (hf_sp : im 25 = nI sp) (hf_pl : im 19 = nI pl) (hf_ed : im 20 = nI ed) (hf_b0 : im 21 = 0) (hed : ed ≤ 200) (hpl : pl ≤ 200) (hsp : sp < 240) (c_1 : ¬ im 24 = 6) (x_2 : Int32) (ex_2 : x_2 = im 24 + 1) (i_3 : Nat → Int32) (hsb : SB [19, 21, 24, 25] im i_3) : pl ≤ 1000 := by
  first | assumption | omega | decide | rfl
theorem lf_X12_opens_7 (h : Nat) (q : Nat → Nat) (im : Nat → Int32) (pl : Nat) (ed : Nat) (sp : Nat) (m_tape : Nat → Int32) (m_stack : Nat → Int32) (hf_sp : im 25 = nI sp) (hf_pl : im 19 = nI pl) (hf_ed : im 20 = nI ed) (hf_b0 : im 21 = 0) (hed : ed ≤ 200) (hpl : pl ≤ 200) (hsp : sp < 240) (c_1 : ¬ im 24 = 6) (x_2 : Int32) (ex_2 : x_2 = im 24 + 1) (i_3 : Nat → Int32) (hsb : SB [19, 21, 24, 25] im i_3) : sp < 240 := by
  first | assumption | omega | decide | rfl
theorem lf_X12_opens_10 (h : Nat) (q : Nat → Nat) (im : Nat → Int32) (pl : Nat) (ed : Nat) (sp : Nat) (m_tape : Nat → Int32) (m_stack : Nat → Int32) (hf_sp : im 25 = nI sp) (hf_pl : im 19 = nI pl) (hf_ed : im 20 = nI ed) (hf_b0 : im 21 = 0) (hed : ed ≤ 200) (hpl : pl ≤ 200) (hsp : sp < 240) (c_1 : ¬ im 24 = 6) (x_2 : Int32) (ex_2 : x_2 = im 24 + 1) (i_3 : Nat → Int32) (im_9 : Nat → Int32) (sp_9 : Nat) (pl_9 : Nat) (m_stack_9 : Nat → Int32) (hz_9_0 : SB [19, 25] i_3 im_9) (hz_9_1 : im_9 25 = nI sp_9) (hz_9_2 : im_9 19 = nI pl_9) (hz_9_3 : sp_9 = sp + 1) (hz_9_4 : pl_9 = pl + 1) (hz_9_5 : m_stack_9 = upd m_stack sp (heF m_tape pl ed)) (hsb : SB [19, 21, 24, 25] im im_9) (hk_9_20 : im_9 20 = nI ed) (hk_9_21 : im_9 21 = 0) (hk_9_24 : im_9 24 = x_2) : (SB [19, 21, 24, 25] im (im_9 : Nat → Int32)) ∧ ((im_9 : Nat → Int32) 25 = nI (sp_9 : Nat)) ∧ ((im_9 : Nat → Int32) 19 = nI (pl_9 : Nat)) ∧ ((im_9 : Nat → Int32) 21 = (0 : Int32)) ∧ ((sp_9 : Nat) = sp + 1) ∧ ((pl_9 : Nat) = pl + 1) ∧ ((m_stack_9 : Nat → Int32) = upd m_stack sp (heF m_tape pl ed)) ∧ ((0 : Int32) ≤ 0) := by
  repeat' apply And.intro
  all_goals first | assumption | omega | rfl | trivial | exact Int32.le_refl _ | exact Int32.le_of_lt (by assumption) | exact Eq.trans (by assumption) (by assumption)
theorem lf_X12_opens_11 (h : Nat) (q : Nat → Nat) (im : Nat → Int32) (pl : Nat) (ed : Nat) (sp : Nat) (m_tape : Nat → Int32) (m_stack : Nat → Int32) (hf_sp : im 25 = nI sp) (hf_pl : im 19 = nI pl) (hf_ed : im 20 = nI ed) (hf_b0 : im 21 = 0) (hed : ed ≤ 200) (hpl : pl ≤ 200) (hsp : sp < 240) (hsb : SB [19, 21, 24, 25] im im) (c_1 : im 24 = 6) : 1 ≤ 5 := by
  first | assumption | omega | decide | rfl
theorem lf_X12_opens_12 (h : Nat) (q : Nat → Nat) (im : Nat → Int32) (pl : Nat) (ed : Nat) (sp : Nat) (m_tape : Nat → Int32) (m_stack : Nat → Int32) (hf_sp : im 25 = nI sp) (hf_pl : im 19 = nI pl) (hf_ed : im 20 = nI ed) (hf_b0 : im 21 = 0) (hed : ed ≤ 200) (hpl : pl ≤ 200) (hsp : sp < 240) (hsb : SB [19, 21, 24, 25] im im) (c_1 : im 24 = 6) : 5 ≤ 5 := by
  first | assumption | omega | decide | rfl
theorem lf_X12_opens_13 (h : Nat) (q : Nat → Nat) (im : Nat → Int32) (pl : Nat) (ed : Nat) (sp : Nat) (m_tape : Nat → Int32) (m_stack : Nat → Int32) (hf_sp : im 25 = nI sp) (hf_pl : im 19 = nI pl) (hf_ed : im 20 = nI ed) (hf_b0 : im 21 = 0) (hed : ed ≤ 200) (hpl : pl ≤ 200) (hsp : sp < 240) (hsb : SB [19, 21, 24, 25] im im) (c_1 : im 24 = 6) : pl ≤ 200 := by
  first | assumption | omega | decide | rfl
theorem lf_X12_opens_18 (h : Nat) (q : Nat → Nat) (im : Nat → Int32) (pl : Nat) (ed : Nat) (sp : Nat) (m_tape : Nat → Int32) (m_stack : Nat → Int32) (hf_sp : im 25 = nI sp) (hf_pl : im 19 = nI pl) (hf_ed : im 20 = nI ed) (hf_b0 : im 21 = 0) (hed : ed ≤ 200) (hpl : pl ≤ 200) (hsp : sp < 240) (c_1 : im 24 = 6) (im_15 : Nat → Int32) (bd_15 : Int32) (hz_15_0 : SB [21] im im_15) (hz_15_1 : im_15 21 = bd_15) (hz_15_2 : bd_15 < 0) (hz_15_3 : ¬ bd_15 = 0) (x_16 : Int32) (ex_16 : x_16 = im_15 24 + 1) (i_17 : Nat → Int32) (hsb : SB [19, 21, 24, 25] im i_17) : ed ≤ 200 := by
  first | assumption | omega | decide | rfl
theorem lf_X12_opens_19 (h : Nat) (q : Nat → Nat) (im : Nat → Int32) (pl : Nat) (ed : Nat) (sp : Nat) (m_tape : Nat → Int32) (m_stack : Nat → Int32) (hf_sp : im 25 = nI sp) (hf_pl : im 19 = nI pl) (hf_ed : im 20 = nI ed) (hf_b0 : im 21 = 0) (hed : ed ≤ 200) (hpl : pl ≤ 200) (hsp : sp < 240) (c_1 : im 24 = 6) (im_15 : Nat → Int32) (bd_15 : Int32) (hz_15_0 : SB [21] im im_15) (hz_15_1 : im_15 21 = bd_15) (hz_15_2 : bd_15 < 0) (hz_15_3 : ¬ bd_15 = 0) (x_16 : Int32) (ex_16 : x_16 = im_15 24 + 1) (i_17 : Nat → Int32) (hsb : SB [19, 21, 24, 25] im i_17) : pl ≤ 1000 := by
  first | assumption | omega | decide | rfl
theorem lf_X12_opens_21 (h : Nat) (q : Nat → Nat) (im : Nat → Int32) (pl : Nat) (ed : Nat) (sp : Nat) (m_tape : Nat → Int32) (m_stack : Nat → Int32) (hf_sp : im 25 = nI sp) (hf_pl : im 19 = nI pl) (hf_ed : im 20 = nI ed) (hf_b0 : im 21 = 0) (hed : ed ≤ 200) (hpl : pl ≤ 200) (hsp : sp < 240) (c_1 : im 24 = 6) (im_15 : Nat → Int32) (bd_15 : Int32) (hz_15_0 : SB [21] im im_15) (hz_15_1 : im_15 21 = bd_15) (hz_15_2 : bd_15 < 0) (hz_15_3 : ¬ bd_15 = 0) (x_16 : Int32) (ex_16 : x_16 = im_15 24 + 1) (i_17 : Nat → Int32) (hsb : SB [19, 21, 24, 25] im i_17) : sp < 240 := by
  first | assumption | omega | decide | rfl
theorem lf_X12_opens_24 (h : Nat) (q : Nat → Nat) (im : Nat → Int32) (pl : Nat) (ed : Nat) (sp : Nat) (m_tape : Nat → Int32) (m_stack : Nat → Int32) (hf_sp : im 25 = nI sp) (hf_pl : im 19 = nI pl) (hf_ed : im 20 = nI ed) (hf_b0 : im 21 = 0) (hed : ed ≤ 200) (hpl : pl ≤ 200) (hsp : sp < 240) (c_1 : im 24 = 6) (im_15 : Nat → Int32) (bd_15 : Int32) (hz_15_0 : SB [21] im im_15) (hz_15_1 : im_15 21 = bd_15) (hz_15_2 : bd_15 < 0) (hz_15_3 : ¬ bd_15 = 0) (x_16 : Int32) (ex_16 : x_16 = im_15 24 + 1) (i_17 : Nat → Int32) (im_23 : Nat → Int32) (sp_23 : Nat) (pl_23 : Nat) (m_stack_23 : Nat → Int32) (hz_23_0 : SB [19, 25] i_17 im_23) (hz_23_1 : im_23 25 = nI sp_23) (hz_23_2 : im_23 19 = nI pl_23) (hz_23_3 : sp_23 = sp + 1) (hz_23_4 : pl_23 = pl + 1) (hz_23_5 : m_stack_23 = upd m_stack sp (heF m_tape pl ed)) (hsb : SB [19, 21, 24, 25] im im_23) (hk_23_20 : im_23 20 = nI ed) (hk_23_21 : im_23 21 = bd_15) (hk_23_24 : im_23 24 = x_16) : (SB [19, 21, 24, 25] im (im_23 : Nat → Int32)) ∧ ((im_23 : Nat → Int32) 25 = nI (sp_23 : Nat)) ∧ ((im_23 : Nat → Int32) 19 = nI (pl_23 : Nat)) ∧ ((im_23 : Nat → Int32) 21 = (bd_15 : Int32)) ∧ ((sp_23 : Nat) = sp + 1) ∧ ((pl_23 : Nat) = pl + 1) ∧ ((m_stack_23 : Nat → Int32) = upd m_stack sp (heF m_tape pl ed)) ∧ ((bd_15 : Int32) ≤ 0) := by
  repeat' apply And.intro
  all_goals first | assumption | omega | rfl | trivial | exact Int32.le_refl _ | exact Int32.le_of_lt (by assumption) | exact Eq.trans (by assumption) (by assumption)
set_option maxHeartbeats 4000000 in
set_option maxRecDepth 100000 in
theorem c_X12_opens (l : Launch) (D : va_G) (cI cB cZ cJ : ClassId) (tx : List (ClassId × FieldType)) (h : Nat) (q : Nat → Nat) (im : Nat → Int32) (pl : Nat) (ed : Nat) (sp : Nat) (m_tape : Nat → Int32) (m_stack : Nat → Int32) (hf_sp : im 25 = nI sp) (hf_pl : im 19 = nI pl) (hf_ed : im 20 = nI ed) (hf_b0 : im 21 = 0) (hed : ed ≤ 200) (hpl : pl ≤ 200) (hsp : sp < 240) : WrV l D cI cB cZ cJ tx yX12_opens cX12_opens 1 none 1 0 0 [.ref h] [(h, .inr (12, mG q im)), (q 0, .inl (cB, 220, .inl m_tape)), (q 28, .inl (cI, 240, .inl m_stack))] (fun (v : (Nat → Int32) × (Nat) × (Nat) × (Int32) × (Nat → Int32)) => (SB [19, 21, 24, 25] im v.1) ∧ (v.1 25 = nI v.2.1) ∧ (v.1 19 = nI v.2.2.1) ∧ (v.1 21 = v.2.2.2.1) ∧ (v.2.1 = sp + 1) ∧ (v.2.2.1 = pl + 1) ∧ (v.2.2.2.2 = upd m_stack sp (heF m_tape pl ed)) ∧ (v.2.2.2.1 ≤ 0)) (fun v => [(h, .inr (12, mG q v.1)), (q 0, .inl (cB, 220, .inl m_tape)), (q 28, .inl (cI, 240, .inl v.2.2.2.2))]) := by
  refine wrv_of2 (by decide) (Nat.le_of_ble_eq_true rfl) ?_
  intro p e s m below meth c A ls H locs hC hK hP hD hA hS hl
  obtain ⟨hx, hb, hr, hml, hown, hts, hlocks, hin⟩ := hC
  have hown : s.vm.findClass RX12 = some m.cls := hown
  have hl : lv_has ls 1 [(0, .ref h)] := hl
  have hsb : SB [19, 21, 24, 25] im im := SB.rf
  refine lv_aload_n hx hb dX12_opens_0 rfl (lv_at hl 0 rfl) ?_
  refine va_get (D := D) (ci := 12) (v := .int (im 24)) (C := RX12) (T := TX12) (N := 81) hx hb hts inT_X12 hown hK.1 hP 0 rfl rfl 24 (by decide) (hts _ k_1377) (fun _ h9 => h9) rfl dX12_opens_1 ?_
  refine lv_bipush (v := 6) hx hb dX12_opens_4 (by decide) ?_
  refine lv_icmp_ne (tgt := 18) hx hb dX12_opens_6 (by decide) (fun c_1 => ?_) (fun c_1 => ?_)
  · refine lv_aload_n hx hb dX12_opens_18 rfl (lv_at hl 0 rfl) ?_
    refine lv_dup hx hb dX12_opens_19 rfl ?_
    refine va_get (D := D) (ci := 12) (v := .int (im 24)) (C := RX12) (T := TX12) (N := 81) hx hb hts inT_X12 hown hK.1 hP 0 rfl rfl 24 (by decide) (hts _ k_1377) (fun _ h9 => h9) rfl dX12_opens_20 ?_
    refine lv_iconst (v := 1) hx hb dX12_opens_23 (by decide) ?_
    refine lv_iadd hx hb dX12_opens_24 ?_
    refine lv_topi (fun x_2 ex_2 => ?_)
    refine va_put (D := D) (ci := 12) (v := .int x_2) (ty := .int) (C := RX12) (T := TX12) (N := 81) hx hb hts inT_X12 tyX12 tyX12_ok nmX12 hown hK.1 hP hD hS 0 rfl rfl 24 (by decide) (hts _ k_1377) (fun _ h9 => h9) rfl (by decide +kernel) rfl rfl (Nat.le_of_ble_eq_true rfl) dX12_opens_25 (fun H locs hP hD hS => ?_)
    obtain ⟨i_3, ei_3⟩ : ∃ z : Nat → Int32, z = upd im 24 x_2 := ⟨_, rfl⟩
    have hi_3_25 : i_3 25 = nI sp := by rw [ei_3]; exact hf_sp
    have hi_3_19 : i_3 19 = nI pl := by rw [ei_3]; exact hf_pl
    have hi_3_20 : i_3 20 = nI ed := by rw [ei_3]; exact hf_ed
    have hi_3_21 : i_3 21 = 0 := by rw [ei_3]; exact hf_b0
    have hi_3_24 : i_3 24 = x_2 := by rw [ei_3]; rfl
    have hsb := SB.put hsb ei_3 (by decide)
    have hP : va_P D vwCl [(h, .inr (12, mG q i_3)), (q 0, .inl (cB, 220, .inl m_tape)), (q 28, .inl (cI, 240, .inl m_stack))] H := by rw [ei_3, ← mG_24]; exact hP
    have hD : va_D A [(h, .inr (12, mG q i_3)), (q 0, .inl (cB, 220, .inl m_tape)), (q 28, .inl (cI, 240, .inl m_stack))] := by rw [ei_3, ← mG_24]; exact hD
    refine lv_aload_n hx hb dX12_opens_28 rfl (lv_at hl 0 rfl) ?_
    refine lv_aload_n hx hb dX12_opens_29 rfl (lv_at hl 0 rfl) ?_
    refine eRi (va_runV (As := []) (rest := [.ref h]) ⟨hx, hb, hml, hown, hts⟩ (c_X12_here l D cI cB cZ cJ tx h q i_3 pl ed m_tape hi_3_19 hi_3_20 (lf_X12_opens_4 h q im pl ed sp m_tape m_stack hf_sp hf_pl hf_ed hf_b0 hed hpl hsp c_1 x_2 ex_2 i_3 hsb) (lf_X12_opens_5 h q im pl ed sp m_tape m_stack hf_sp hf_pl hf_ed hf_b0 hed hpl hsp c_1 x_2 ex_2 i_3 hsb) H.size) (zV hts k_1635 v_X12_here ⟨Nat.le_of_ble_eq_true rfl, Nat.le_of_ble_eq_true rfl⟩) (pV (pxS hK hP hD [0, 1] (by decide) rfl) hK hP 0 rfl rfl) rfl rfl hl.1 rfl (lv_room (Nat.le_of_ble_eq_true rfl)) dX12_opens_30 ⟨Nat.le_of_ble_eq_true rfl, Nat.le_of_ble_eq_true rfl⟩) hP hS hA (fun r_6 H locs wr_6 hP hS => ?_)
    subst wr_6
    refine eWv (wr := [(q 0, .inl (cB, 220, .inl m_tape))]) (va_runV (As := [.int (heF m_tape pl ed)]) (rest := []) ⟨hx, hb, hml, hown, hts⟩ (c_X12_puts l D cI cB cZ cJ tx h q i_3 pl sp m_stack (heF m_tape pl ed) hi_3_25 hi_3_19 (lf_X12_opens_7 h q im pl ed sp m_tape m_stack hf_sp hf_pl hf_ed hf_b0 hed hpl hsp c_1 x_2 ex_2 i_3 hsb) H.size) (zV hts k_1658 v_X12_puts ⟨Nat.le_of_ble_eq_true rfl, Nat.le_of_ble_eq_true rfl⟩) (pV (pxS hK hP hD [0, 2] (by decide) rfl) hK hP 0 rfl rfl) rfl rfl hl.1 rfl (lv_room (Nat.le_of_ble_eq_true rfl)) dX12_opens_33 ⟨Nat.le_of_ble_eq_true rfl, Nat.le_of_ble_eq_true rfl⟩) hP hD hS hA [0, 2] [1] rfl rfl (by decide) (by decide) (fun u_9 H locs wr_8 hP hD hS => ?_)
    obtain ⟨im_9, sp_9, pl_9, m_stack_9⟩ := u_9
    have hz_9_0 : SB [19, 25] i_3 im_9 := wr_8.1
    have hz_9_1 : im_9 25 = nI sp_9 := wr_8.2.1
    have hz_9_2 : im_9 19 = nI pl_9 := wr_8.2.2.1
    have hz_9_3 : sp_9 = sp + 1 := wr_8.2.2.2.1
    have hz_9_4 : pl_9 = pl + 1 := wr_8.2.2.2.2.1
    have hz_9_5 : m_stack_9 = upd m_stack sp (heF m_tape pl ed) := wr_8.2.2.2.2.2
    have hk_9_20 : im_9 20 = nI ed := (hz_9_0 20 (by decide)).trans hi_3_20
    have hk_9_21 : im_9 21 = 0 := (hz_9_0 21 (by decide)).trans hi_3_21
    have hk_9_24 : im_9 24 = x_2 := (hz_9_0 24 (by decide)).trans hi_3_24
    have hsb := SB.step hsb hz_9_0 (by decide)
    have hP : va_P D vwCl [(q 0, .inl (cB, 220, .inl m_tape)), (h, .inr (12, mG q im_9)), (q 28, .inl (cI, 240, .inl m_stack_9))] H := hP
    have hD : va_D A [(q 0, .inl (cB, 220, .inl m_tape)), (h, .inr (12, mG q im_9)), (q 28, .inl (cI, 240, .inl m_stack_9))] := hD
    have hP := hP.sub (ws' := [(h, .inr (12, mG q im_9)), (q 0, .inl (cB, 220, .inl m_tape)), (q 28, .inl (cI, 240, .inl m_stack_9))]) [1, 0, 2] rfl
    have hD := hD.sub (ws' := [(h, .inr (12, mG q im_9)), (q 0, .inl (cB, 220, .inl m_tape)), (q 28, .inl (cI, 240, .inl m_stack_9))]) [1, 0, 2] (by decide) rfl
    exact W.vret hx hb hr (fun tt9 ht hW => ⟨⟨((im_9 : Nat → Int32), (sp_9 : Nat), (pl_9 : Nat), (0 : Int32), (m_stack_9 : Nat → Int32)), rfl, (lf_X12_opens_10 h q im pl ed sp m_tape m_stack hf_sp hf_pl hf_ed hf_b0 hed hpl hsp c_1 x_2 ex_2 i_3 im_9 sp_9 pl_9 m_stack_9 hz_9_0 hz_9_1 hz_9_2 hz_9_3 hz_9_4 hz_9_5 hsb hk_9_20 hk_9_21 hk_9_24), ⟨by rw [ht]; exact hP, hD⟩⟩, hS.F ht⟩) hS.2.2 dX12_opens_36 hlocks
  · refine lv_aload_n hx hb dX12_opens_9 rfl (lv_at hl 0 rfl) ?_
    refine lv_iconst (v := 5) hx hb dX12_opens_10 (by decide) ?_
    refine lv_aload_n hx hb dX12_opens_11 rfl (lv_at hl 0 rfl) ?_
    refine va_get (D := D) (ci := 12) (v := .int (im 19)) (C := RX12) (T := TX12) (N := 81) hx hb hts inT_X12 hown hK.1 hP 0 rfl rfl 19 (by decide) (hts _ k_1372) (fun _ h9 => h9) rfl dX12_opens_12 ?_
    refine lv_topv (y := nI pl) hf_pl ?_
    refine eWv (wr := [(q 0, .inl (cB, 220, .inl m_tape)), (q 28, .inl (cI, 240, .inl m_stack))]) (va_runV (As := [.int 5, .int (nI pl)]) (rest := []) ⟨hx, hb, hml, hown, hts⟩ (c_X12_wrongs l D cI cB cZ cJ tx h q im 0 5 pl hf_b0 (lf_X12_opens_11 h q im pl ed sp m_tape m_stack hf_sp hf_pl hf_ed hf_b0 hed hpl hsp hsb c_1) (lf_X12_opens_12 h q im pl ed sp m_tape m_stack hf_sp hf_pl hf_ed hf_b0 hed hpl hsp hsb c_1) (lf_X12_opens_13 h q im pl ed sp m_tape m_stack hf_sp hf_pl hf_ed hf_b0 hed hpl hsp hsb c_1) H.size) (zV hts k_1642 v_X12_wrongs ⟨Nat.le_of_ble_eq_true rfl, Nat.le_of_ble_eq_true rfl⟩) (pV (pxS hK hP hD [0] (by decide) rfl) hK hP 0 rfl rfl) rfl rfl hl.1 rfl (lv_room (Nat.le_of_ble_eq_true rfl)) dX12_opens_15 ⟨Nat.le_of_ble_eq_true rfl, Nat.le_of_ble_eq_true rfl⟩) hP hD hS hA [0] [1, 2] rfl rfl (by decide) (by decide) (fun u_15 H locs wr_14 hP hD hS => ?_)
    obtain ⟨im_15, bd_15⟩ := u_15
    have hz_15_0 : SB [21] im im_15 := wr_14.1
    have hz_15_1 : im_15 21 = bd_15 := wr_14.2.1
    have hz_15_2 : bd_15 < 0 := wr_14.2.2.1
    have hz_15_3 : ¬ bd_15 = 0 := wr_14.2.2.2
    have hk_15_25 : im_15 25 = nI sp := (hz_15_0 25 (by decide)).trans hf_sp
    have hk_15_19 : im_15 19 = nI pl := (hz_15_0 19 (by decide)).trans hf_pl
    have hk_15_20 : im_15 20 = nI ed := (hz_15_0 20 (by decide)).trans hf_ed
    have hsb := SB.step hsb hz_15_0 (by decide)
    have hP : va_P D vwCl [(q 0, .inl (cB, 220, .inl m_tape)), (q 28, .inl (cI, 240, .inl m_stack)), (h, .inr (12, mG q im_15))] H := hP
    have hD : va_D A [(q 0, .inl (cB, 220, .inl m_tape)), (q 28, .inl (cI, 240, .inl m_stack)), (h, .inr (12, mG q im_15))] := hD
    refine lv_aload_n hx hb dX12_opens_18 rfl (lv_at hl 0 rfl) ?_
    refine lv_dup hx hb dX12_opens_19 rfl ?_
    refine va_get (D := D) (ci := 12) (v := .int (im_15 24)) (C := RX12) (T := TX12) (N := 81) hx hb hts inT_X12 hown hK.1 hP 2 rfl rfl 24 (by decide) (hts _ k_1377) (fun _ h9 => h9) rfl dX12_opens_20 ?_
    refine lv_iconst (v := 1) hx hb dX12_opens_23 (by decide) ?_
    refine lv_iadd hx hb dX12_opens_24 ?_
    refine lv_topi (fun x_16 ex_16 => ?_)
    refine va_put (D := D) (ci := 12) (v := .int x_16) (ty := .int) (C := RX12) (T := TX12) (N := 81) hx hb hts inT_X12 tyX12 tyX12_ok nmX12 hown hK.1 hP hD hS 2 rfl rfl 24 (by decide) (hts _ k_1377) (fun _ h9 => h9) rfl (by decide +kernel) rfl rfl (Nat.le_of_ble_eq_true rfl) dX12_opens_25 (fun H locs hP hD hS => ?_)
    obtain ⟨i_17, ei_17⟩ : ∃ z : Nat → Int32, z = upd im_15 24 x_16 := ⟨_, rfl⟩
    have hi_17_25 : i_17 25 = nI sp := by rw [ei_17]; exact hk_15_25
    have hi_17_19 : i_17 19 = nI pl := by rw [ei_17]; exact hk_15_19
    have hi_17_20 : i_17 20 = nI ed := by rw [ei_17]; exact hk_15_20
    have hi_17_21 : i_17 21 = bd_15 := by rw [ei_17]; exact hz_15_1
    have hi_17_24 : i_17 24 = x_16 := by rw [ei_17]; rfl
    have hsb := SB.put hsb ei_17 (by decide)
    have hP : va_P D vwCl [(q 0, .inl (cB, 220, .inl m_tape)), (q 28, .inl (cI, 240, .inl m_stack)), (h, .inr (12, mG q i_17))] H := by rw [ei_17, ← mG_24]; exact hP
    have hD : va_D A [(q 0, .inl (cB, 220, .inl m_tape)), (q 28, .inl (cI, 240, .inl m_stack)), (h, .inr (12, mG q i_17))] := by rw [ei_17, ← mG_24]; exact hD
    refine lv_aload_n hx hb dX12_opens_28 rfl (lv_at hl 0 rfl) ?_
    refine lv_aload_n hx hb dX12_opens_29 rfl (lv_at hl 0 rfl) ?_
    refine eRi (va_runV (As := []) (rest := [.ref h]) ⟨hx, hb, hml, hown, hts⟩ (c_X12_here l D cI cB cZ cJ tx h q i_17 pl ed m_tape hi_17_19 hi_17_20 (lf_X12_opens_18 h q im pl ed sp m_tape m_stack hf_sp hf_pl hf_ed hf_b0 hed hpl hsp c_1 im_15 bd_15 hz_15_0 hz_15_1 hz_15_2 hz_15_3 x_16 ex_16 i_17 hsb) (lf_X12_opens_19 h q im pl ed sp m_tape m_stack hf_sp hf_pl hf_ed hf_b0 hed hpl hsp c_1 im_15 bd_15 hz_15_0 hz_15_1 hz_15_2 hz_15_3 x_16 ex_16 i_17 hsb) H.size) (zV hts k_1635 v_X12_here ⟨Nat.le_of_ble_eq_true rfl, Nat.le_of_ble_eq_true rfl⟩) (pV (pxS hK hP hD [2, 0] (by decide) rfl) hK hP 2 rfl rfl) rfl rfl hl.1 rfl (lv_room (Nat.le_of_ble_eq_true rfl)) dX12_opens_30 ⟨Nat.le_of_ble_eq_true rfl, Nat.le_of_ble_eq_true rfl⟩) hP hS hA (fun r_20 H locs wr_20 hP hS => ?_)
    subst wr_20
    refine eWv (wr := [(q 0, .inl (cB, 220, .inl m_tape))]) (va_runV (As := [.int (heF m_tape pl ed)]) (rest := []) ⟨hx, hb, hml, hown, hts⟩ (c_X12_puts l D cI cB cZ cJ tx h q i_17 pl sp m_stack (heF m_tape pl ed) hi_17_25 hi_17_19 (lf_X12_opens_21 h q im pl ed sp m_tape m_stack hf_sp hf_pl hf_ed hf_b0 hed hpl hsp c_1 im_15 bd_15 hz_15_0 hz_15_1 hz_15_2 hz_15_3 x_16 ex_16 i_17 hsb) H.size) (zV hts k_1658 v_X12_puts ⟨Nat.le_of_ble_eq_true rfl, Nat.le_of_ble_eq_true rfl⟩) (pV (pxS hK hP hD [2, 1] (by decide) rfl) hK hP 2 rfl rfl) rfl rfl hl.1 rfl (lv_room (Nat.le_of_ble_eq_true rfl)) dX12_opens_33 ⟨Nat.le_of_ble_eq_true rfl, Nat.le_of_ble_eq_true rfl⟩) hP hD hS hA [2, 1] [0] rfl rfl (by decide) (by decide) (fun u_23 H locs wr_22 hP hD hS => ?_)
    obtain ⟨im_23, sp_23, pl_23, m_stack_23⟩ := u_23
    have hz_23_0 : SB [19, 25] i_17 im_23 := wr_22.1
    have hz_23_1 : im_23 25 = nI sp_23 := wr_22.2.1
    have hz_23_2 : im_23 19 = nI pl_23 := wr_22.2.2.1
    have hz_23_3 : sp_23 = sp + 1 := wr_22.2.2.2.1
    have hz_23_4 : pl_23 = pl + 1 := wr_22.2.2.2.2.1
    have hz_23_5 : m_stack_23 = upd m_stack sp (heF m_tape pl ed) := wr_22.2.2.2.2.2
    have hk_23_20 : im_23 20 = nI ed := (hz_23_0 20 (by decide)).trans hi_17_20
    have hk_23_21 : im_23 21 = bd_15 := (hz_23_0 21 (by decide)).trans hi_17_21
    have hk_23_24 : im_23 24 = x_16 := (hz_23_0 24 (by decide)).trans hi_17_24
    have hsb := SB.step hsb hz_23_0 (by decide)
    have hP : va_P D vwCl [(q 0, .inl (cB, 220, .inl m_tape)), (h, .inr (12, mG q im_23)), (q 28, .inl (cI, 240, .inl m_stack_23))] H := hP
    have hD : va_D A [(q 0, .inl (cB, 220, .inl m_tape)), (h, .inr (12, mG q im_23)), (q 28, .inl (cI, 240, .inl m_stack_23))] := hD
    have hP := hP.sub (ws' := [(h, .inr (12, mG q im_23)), (q 0, .inl (cB, 220, .inl m_tape)), (q 28, .inl (cI, 240, .inl m_stack_23))]) [1, 0, 2] rfl
    have hD := hD.sub (ws' := [(h, .inr (12, mG q im_23)), (q 0, .inl (cB, 220, .inl m_tape)), (q 28, .inl (cI, 240, .inl m_stack_23))]) [1, 0, 2] (by decide) rfl
    exact W.vret hx hb hr (fun tt9 ht hW => ⟨⟨((im_23 : Nat → Int32), (sp_23 : Nat), (pl_23 : Nat), (bd_15 : Int32), (m_stack_23 : Nat → Int32)), rfl, (lf_X12_opens_24 h q im pl ed sp m_tape m_stack hf_sp hf_pl hf_ed hf_b0 hed hpl hsp c_1 im_15 bd_15 hz_15_0 hz_15_1 hz_15_2 hz_15_3 x_16 ex_16 i_17 im_23 sp_23 pl_23 m_stack_23 hz_23_0 hz_23_1 hz_23_2 hz_23_3 hz_23_4 hz_23_5 hsb hk_23_20 hk_23_21 hk_23_24), ⟨by rw [ht]; exact hP, hD⟩⟩, hS.F ht⟩) hS.2.2 dX12_opens_36 hlocks

theorem lf_X12_seesDigit_1 (h : Nat) (q : Nat → Nat) (im : Nat → Int32) (pl : Nat) (ed : Nat) (m_tape : Nat → Int32) (hf_pl : im 19 = nI pl) (hf_ed : im 20 = nI ed) (hed : ed ≤ 200) (hpl : pl ≤ 1000) : ed ≤ 200 := by
  first | assumption | omega | decide | rfl
theorem lf_X12_seesDigit_2 (h : Nat) (q : Nat → Nat) (im : Nat → Int32) (pl : Nat) (ed : Nat) (m_tape : Nat → Int32) (hf_pl : im 19 = nI pl) (hf_ed : im 20 = nI ed) (hed : ed ≤ 200) (hpl : pl ≤ 1000) : pl ≤ 1000 := by
  first | assumption | omega | decide | rfl
theorem lf_X12_seesDigit_5 (h : Nat) (q : Nat → Nat) (im : Nat → Int32) (pl : Nat) (ed : Nat) (m_tape : Nat → Int32) (hf_pl : im 19 = nI pl) (hf_ed : im 20 = nI ed) (hed : ed ≤ 200) (hpl : pl ≤ 1000) : (bi ((48 : Int32) ≤ heF m_tape pl ed ∧ heF m_tape pl ed ≤ 57) : Int32) = bi ((48 : Int32) ≤ heF m_tape pl ed ∧ heF m_tape pl ed ≤ 57) := by
  rfl
set_option maxHeartbeats 4000000 in
set_option maxRecDepth 100000 in
theorem c_X12_seesDigit (l : Launch) (D : va_G) (cI cB cZ cJ : ClassId) (tx : List (ClassId × FieldType)) (h : Nat) (q : Nat → Nat) (im : Nat → Int32) (pl : Nat) (ed : Nat) (m_tape : Nat → Int32) (hf_pl : im 19 = nI pl) (hf_ed : im 20 = nI ed) (hed : ed ≤ 200) (hpl : pl ≤ 1000) : RdI l D cI cB cZ cJ tx yX12_seesDigit cX12_seesDigit 1 (some .boolean) 1 [.ref h] [(h, .inr (12, mG q im)), (q 0, .inl (cB, 220, .inl m_tape))] (fun r => r = bi ((48 : Int32) ≤ heF m_tape pl ed ∧ heF m_tape pl ed ≤ 57)) := by
  refine rdi_of2 (by decide) (Nat.le_of_ble_eq_true rfl) ?_
  intro p e s m below meth c A ls H locs hC hK hP hD hA hS hl
  obtain ⟨hx, hb, hr, hml, hown, hts, hlocks, hin⟩ := hC
  have hown : s.vm.findClass RX12 = some m.cls := hown
  have hl : lv_has ls 1 [(0, .ref h)] := hl
  refine lv_aload_n hx hb dX12_seesDigit_0 rfl (lv_at hl 0 rfl) ?_
  refine eRi (va_runV (As := []) (rest := []) ⟨hx, hb, hml, hown, hts⟩ (c_X12_here l D cI cB cZ cJ tx h q im pl ed m_tape hf_pl hf_ed (lf_X12_seesDigit_1 h q im pl ed m_tape hf_pl hf_ed hed hpl) (lf_X12_seesDigit_2 h q im pl ed m_tape hf_pl hf_ed hed hpl) H.size) (zV hts k_1635 v_X12_here ⟨Nat.le_of_ble_eq_true rfl, Nat.le_of_ble_eq_true rfl⟩) (pV (pxS hK hP hD [0, 1] (by decide) rfl) hK hP 0 rfl rfl) rfl rfl hl.1 rfl (lv_room (Nat.le_of_ble_eq_true rfl)) dX12_seesDigit_1 ⟨Nat.le_of_ble_eq_true rfl, Nat.le_of_ble_eq_true rfl⟩) hP hS hA (fun r_3 H locs wr_3 hP hS => ?_)
  subst wr_3
  refine lv_i2l (v := (heF m_tape pl ed).toInt64) hx hb dX12_seesDigit_4 rfl ?_
  refine lv_ldc2 (v := 48) hx hb hown (hts _ k_1666) dX12_seesDigit_5 ?_
  refine lv_ldc2 (v := 57) hx hb hown (hts _ k_1667) dX12_seesDigit_8 ?_
  refine eRi (va_runS (As := [.long ((heF m_tape pl ed).toInt64), .long 48, .long 57]) (rest := []) ⟨hx, hb, hml, hown, hts⟩ (c_X12_isIn l D cI cB cZ cJ tx ((heF m_tape pl ed).toInt64) 48 57 H.size) (zS hts k_1602 v_X12_isIn ⟨Nat.le_of_ble_eq_true rfl, Nat.le_of_ble_eq_true rfl⟩) (px0 hK) rfl rfl hl.1 rfl (lv_room (Nat.le_of_ble_eq_true rfl)) dX12_seesDigit_11 ⟨Nat.le_of_ble_eq_true rfl, Nat.le_of_ble_eq_true rfl⟩) hP hS hA (fun r_4 H locs wr_4 hP hS => ?_)
  have wr_4 : r_4 = bi ((48 : Int32) ≤ heF m_tape pl ed ∧ heF m_tape pl ed ≤ 57) := isIn32 (lo := 48) (hi := 57) (by decide) (by decide) wr_4
  subst wr_4
  exact W.zret (v := bi ((48 : Int32) ≤ heF m_tape pl ed ∧ heF m_tape pl ed ≤ 57)) hx hb hr nb_bi (fun tt9 ht hW => ⟨⟨(bi ((48 : Int32) ≤ heF m_tape pl ed ∧ heF m_tape pl ed ≤ 57) : Int32), (), rfl, (lf_X12_seesDigit_5 h q im pl ed m_tape hf_pl hf_ed hed hpl), trivial⟩, hS.F ht⟩) hS.2.2 dX12_seesDigit_14 hlocks

theorem lf_X12_isTimes_2 (n1 : Int32) (c_1 : n1 = 42) : (1 : Int32) = bi (isT n1) := by
  unfold isT; first | rfl | (simp only [bi]; rw [if_pos (by grind)]; done) | (simp only [bi]; rw [if_neg (by grind)]; done) | grind
theorem lf_X12_isTimes_4 (n1 : Int32) (c_1 : ¬ n1 = 42) (c_3 : n1 = 47) : (1 : Int32) = bi (isT n1) := by
  unfold isT; first | rfl | (simp only [bi]; rw [if_pos (by grind)]; done) | (simp only [bi]; rw [if_neg (by grind)]; done) | grind
theorem lf_X12_isTimes_6 (n1 : Int32) (c_1 : ¬ n1 = 42) (c_3 : ¬ n1 = 47) (c_5 : ¬ n1 = 37) : (0 : Int32) = bi (isT n1) := by
  unfold isT; first | rfl | (simp only [bi]; rw [if_pos (by grind)]; done) | (simp only [bi]; rw [if_neg (by grind)]; done) | grind
theorem lf_X12_isTimes_7 (n1 : Int32) (c_1 : ¬ n1 = 42) (c_3 : ¬ n1 = 47) (c_5 : n1 = 37) : (1 : Int32) = bi (isT n1) := by
  unfold isT; first | rfl | (simp only [bi]; rw [if_pos (by grind)]; done) | (simp only [bi]; rw [if_neg (by grind)]; done) | grind
set_option maxHeartbeats 4000000 in
set_option maxRecDepth 100000 in
theorem c_X12_isTimes (l : Launch) (D : va_G) (cI cB cZ cJ : ClassId) (tx : List (ClassId × FieldType)) (n1 : Int32) : RdI l D cI cB cZ cJ tx yX12_isTimes cX12_isTimes 1 (some .boolean) 0 [.int n1] [] (fun r => r = bi (isT n1)) := by
  refine rdi_of2 (by decide) (Nat.le_of_ble_eq_true rfl) ?_
  intro p e s m below meth c A ls H locs hC hK hP hD hA hS hl
  obtain ⟨hx, hb, hr, hml, hown, hts, hlocks, hin⟩ := hC
  have hown : s.vm.findClass RX12 = some m.cls := hown
  have hl : lv_has ls 1 [(0, .int n1)] := hl
  refine lv_iload_n hx hb dX12_isTimes_0 rfl (lv_at hl 0 rfl) ?_
  refine lv_bipush (v := 42) hx hb dX12_isTimes_1 (by decide) ?_
  refine lv_icmp_eq (tgt := 18) hx hb dX12_isTimes_3 (by decide) (fun c_1 => ?_) (fun c_1 => ?_)
  · refine lv_iconst (v := 1) hx hb dX12_isTimes_18 (by decide) ?_
    refine lv_goto (tgt := 23) hx hb dX12_isTimes_19 (by decide) ?_
    exact W.zret (v := 1) hx hb hr (by decide) (fun tt9 ht hW => ⟨⟨(1 : Int32), (), rfl, (lf_X12_isTimes_2 n1 c_1), trivial⟩, hS.F ht⟩) hS.2.2 dX12_isTimes_23 hlocks
  · refine lv_iload_n hx hb dX12_isTimes_6 rfl (lv_at hl 0 rfl) ?_
    refine lv_bipush (v := 47) hx hb dX12_isTimes_7 (by decide) ?_
    refine lv_icmp_eq (tgt := 18) hx hb dX12_isTimes_9 (by decide) (fun c_3 => ?_) (fun c_3 => ?_)
    · refine lv_iconst (v := 1) hx hb dX12_isTimes_18 (by decide) ?_
      refine lv_goto (tgt := 23) hx hb dX12_isTimes_19 (by decide) ?_
      exact W.zret (v := 1) hx hb hr (by decide) (fun tt9 ht hW => ⟨⟨(1 : Int32), (), rfl, (lf_X12_isTimes_4 n1 c_1 c_3), trivial⟩, hS.F ht⟩) hS.2.2 dX12_isTimes_23 hlocks
    · refine lv_iload_n hx hb dX12_isTimes_12 rfl (lv_at hl 0 rfl) ?_
      refine lv_bipush (v := 37) hx hb dX12_isTimes_13 (by decide) ?_
      refine lv_icmp_ne (tgt := 22) hx hb dX12_isTimes_15 (by decide) (fun c_5 => ?_) (fun c_5 => ?_)
      · refine lv_iconst (v := 0) hx hb dX12_isTimes_22 (by decide) ?_
        exact W.zret (v := 0) hx hb hr (by decide) (fun tt9 ht hW => ⟨⟨(0 : Int32), (), rfl, (lf_X12_isTimes_6 n1 c_1 c_3 c_5), trivial⟩, hS.F ht⟩) hS.2.2 dX12_isTimes_23 hlocks
      · refine lv_iconst (v := 1) hx hb dX12_isTimes_18 (by decide) ?_
        refine lv_goto (tgt := 23) hx hb dX12_isTimes_19 (by decide) ?_
        exact W.zret (v := 1) hx hb hr (by decide) (fun tt9 ht hW => ⟨⟨(1 : Int32), (), rfl, (lf_X12_isTimes_7 n1 c_1 c_3 c_5), trivial⟩, hS.F ht⟩) hS.2.2 dX12_isTimes_23 hlocks

theorem lf_X12_isPlus_2 (n1 : Int32) (c_1 : n1 = 43) : (1 : Int32) = bi (isP n1) := by
  unfold isP; first | rfl | (simp only [bi]; rw [if_pos (by grind)]; done) | (simp only [bi]; rw [if_neg (by grind)]; done) | grind
theorem lf_X12_isPlus_4 (n1 : Int32) (c_1 : ¬ n1 = 43) (c_3 : ¬ n1 = 45) : (0 : Int32) = bi (isP n1) := by
  unfold isP; first | rfl | (simp only [bi]; rw [if_pos (by grind)]; done) | (simp only [bi]; rw [if_neg (by grind)]; done) | grind
theorem lf_X12_isPlus_5 (n1 : Int32) (c_1 : ¬ n1 = 43) (c_3 : n1 = 45) : (1 : Int32) = bi (isP n1) := by
  unfold isP; first | rfl | (simp only [bi]; rw [if_pos (by grind)]; done) | (simp only [bi]; rw [if_neg (by grind)]; done) | grind
set_option maxHeartbeats 4000000 in
set_option maxRecDepth 100000 in
theorem c_X12_isPlus (l : Launch) (D : va_G) (cI cB cZ cJ : ClassId) (tx : List (ClassId × FieldType)) (n1 : Int32) : RdI l D cI cB cZ cJ tx yX12_isPlus cX12_isPlus 1 (some .boolean) 0 [.int n1] [] (fun r => r = bi (isP n1)) := by
  refine rdi_of2 (by decide) (Nat.le_of_ble_eq_true rfl) ?_
  intro p e s m below meth c A ls H locs hC hK hP hD hA hS hl
  obtain ⟨hx, hb, hr, hml, hown, hts, hlocks, hin⟩ := hC
  have hown : s.vm.findClass RX12 = some m.cls := hown
  have hl : lv_has ls 1 [(0, .int n1)] := hl
  refine lv_iload_n hx hb dX12_isPlus_0 rfl (lv_at hl 0 rfl) ?_
  refine lv_bipush (v := 43) hx hb dX12_isPlus_1 (by decide) ?_
  refine lv_icmp_eq (tgt := 12) hx hb dX12_isPlus_3 (by decide) (fun c_1 => ?_) (fun c_1 => ?_)
  · refine lv_iconst (v := 1) hx hb dX12_isPlus_12 (by decide) ?_
    refine lv_goto (tgt := 17) hx hb dX12_isPlus_13 (by decide) ?_
    exact W.zret (v := 1) hx hb hr (by decide) (fun tt9 ht hW => ⟨⟨(1 : Int32), (), rfl, (lf_X12_isPlus_2 n1 c_1), trivial⟩, hS.F ht⟩) hS.2.2 dX12_isPlus_17 hlocks
  · refine lv_iload_n hx hb dX12_isPlus_6 rfl (lv_at hl 0 rfl) ?_
    refine lv_bipush (v := 45) hx hb dX12_isPlus_7 (by decide) ?_
    refine lv_icmp_ne (tgt := 16) hx hb dX12_isPlus_9 (by decide) (fun c_3 => ?_) (fun c_3 => ?_)
    · refine lv_iconst (v := 0) hx hb dX12_isPlus_16 (by decide) ?_
      exact W.zret (v := 0) hx hb hr (by decide) (fun tt9 ht hW => ⟨⟨(0 : Int32), (), rfl, (lf_X12_isPlus_4 n1 c_1 c_3), trivial⟩, hS.F ht⟩) hS.2.2 dX12_isPlus_17 hlocks
    · refine lv_iconst (v := 1) hx hb dX12_isPlus_12 (by decide) ?_
      refine lv_goto (tgt := 17) hx hb dX12_isPlus_13 (by decide) ?_
      exact W.zret (v := 1) hx hb hr (by decide) (fun tt9 ht hW => ⟨⟨(1 : Int32), (), rfl, (lf_X12_isPlus_5 n1 c_1 c_3), trivial⟩, hS.F ht⟩) hS.2.2 dX12_isPlus_17 hlocks

theorem lf_X12_isSign_2 (n1 : Int32) (c_1 : n1 = 60) : (1 : Int32) = bi (n1 = 60 ∨ n1 = 62 ∨ n1 = 61) := by
  first | rfl | (simp only [bi]; rw [if_pos (by grind)]; done) | (simp only [bi]; rw [if_neg (by grind)]; done) | grind
theorem lf_X12_isSign_4 (n1 : Int32) (c_1 : ¬ n1 = 60) (c_3 : n1 = 62) : (1 : Int32) = bi (n1 = 60 ∨ n1 = 62 ∨ n1 = 61) := by
  first | rfl | (simp only [bi]; rw [if_pos (by grind)]; done) | (simp only [bi]; rw [if_neg (by grind)]; done) | grind
theorem lf_X12_isSign_6 (n1 : Int32) (c_1 : ¬ n1 = 60) (c_3 : ¬ n1 = 62) (c_5 : ¬ n1 = 61) : (0 : Int32) = bi (n1 = 60 ∨ n1 = 62 ∨ n1 = 61) := by
  first | rfl | (simp only [bi]; rw [if_pos (by grind)]; done) | (simp only [bi]; rw [if_neg (by grind)]; done) | grind
theorem lf_X12_isSign_7 (n1 : Int32) (c_1 : ¬ n1 = 60) (c_3 : ¬ n1 = 62) (c_5 : n1 = 61) : (1 : Int32) = bi (n1 = 60 ∨ n1 = 62 ∨ n1 = 61) := by
  first | rfl | (simp only [bi]; rw [if_pos (by grind)]; done) | (simp only [bi]; rw [if_neg (by grind)]; done) | grind
set_option maxHeartbeats 4000000 in
set_option maxRecDepth 100000 in
theorem c_X12_isSign (l : Launch) (D : va_G) (cI cB cZ cJ : ClassId) (tx : List (ClassId × FieldType)) (n1 : Int32) : RdI l D cI cB cZ cJ tx yX12_isSign cX12_isSign 1 (some .boolean) 0 [.int n1] [] (fun r => r = bi (n1 = 60 ∨ n1 = 62 ∨ n1 = 61)) := by
  refine rdi_of2 (by decide) (Nat.le_of_ble_eq_true rfl) ?_
  intro p e s m below meth c A ls H locs hC hK hP hD hA hS hl
  obtain ⟨hx, hb, hr, hml, hown, hts, hlocks, hin⟩ := hC
  have hown : s.vm.findClass RX12 = some m.cls := hown
  have hl : lv_has ls 1 [(0, .int n1)] := hl
  refine lv_iload_n hx hb dX12_isSign_0 rfl (lv_at hl 0 rfl) ?_
  refine lv_bipush (v := 60) hx hb dX12_isSign_1 (by decide) ?_
  refine lv_icmp_eq (tgt := 18) hx hb dX12_isSign_3 (by decide) (fun c_1 => ?_) (fun c_1 => ?_)
  · refine lv_iconst (v := 1) hx hb dX12_isSign_18 (by decide) ?_
    refine lv_goto (tgt := 23) hx hb dX12_isSign_19 (by decide) ?_
    exact W.zret (v := 1) hx hb hr (by decide) (fun tt9 ht hW => ⟨⟨(1 : Int32), (), rfl, (lf_X12_isSign_2 n1 c_1), trivial⟩, hS.F ht⟩) hS.2.2 dX12_isSign_23 hlocks
  · refine lv_iload_n hx hb dX12_isSign_6 rfl (lv_at hl 0 rfl) ?_
    refine lv_bipush (v := 62) hx hb dX12_isSign_7 (by decide) ?_
    refine lv_icmp_eq (tgt := 18) hx hb dX12_isSign_9 (by decide) (fun c_3 => ?_) (fun c_3 => ?_)
    · refine lv_iconst (v := 1) hx hb dX12_isSign_18 (by decide) ?_
      refine lv_goto (tgt := 23) hx hb dX12_isSign_19 (by decide) ?_
      exact W.zret (v := 1) hx hb hr (by decide) (fun tt9 ht hW => ⟨⟨(1 : Int32), (), rfl, (lf_X12_isSign_4 n1 c_1 c_3), trivial⟩, hS.F ht⟩) hS.2.2 dX12_isSign_23 hlocks
    · refine lv_iload_n hx hb dX12_isSign_12 rfl (lv_at hl 0 rfl) ?_
      refine lv_bipush (v := 61) hx hb dX12_isSign_13 (by decide) ?_
      refine lv_icmp_ne (tgt := 22) hx hb dX12_isSign_15 (by decide) (fun c_5 => ?_) (fun c_5 => ?_)
      · refine lv_iconst (v := 0) hx hb dX12_isSign_22 (by decide) ?_
        exact W.zret (v := 0) hx hb hr (by decide) (fun tt9 ht hW => ⟨⟨(0 : Int32), (), rfl, (lf_X12_isSign_6 n1 c_1 c_3 c_5), trivial⟩, hS.F ht⟩) hS.2.2 dX12_isSign_23 hlocks
      · refine lv_iconst (v := 1) hx hb dX12_isSign_18 (by decide) ?_
        refine lv_goto (tgt := 23) hx hb dX12_isSign_19 (by decide) ?_
        exact W.zret (v := 1) hx hb hr (by decide) (fun tt9 ht hW => ⟨⟨(1 : Int32), (), rfl, (lf_X12_isSign_7 n1 c_1 c_3 c_5), trivial⟩, hS.F ht⟩) hS.2.2 dX12_isSign_23 hlocks

theorem lf_X12_isValue_2 (n1 : Int32) (c_1 : n1 = 102) : (1 : Int32) = 0 ∨ ((1 : Int32) = 1 ∧ ¬ n1 = 0) := by
  first | exact Or.inl rfl | exact Or.inr ⟨rfl, fun q => by subst_vars; exact absurd (by assumption) (by decide)⟩
theorem lf_X12_isValue_4 (n1 : Int32) (c_1 : ¬ n1 = 102) (c_3 : n1 = 115) : (1 : Int32) = 0 ∨ ((1 : Int32) = 1 ∧ ¬ n1 = 0) := by
  first | exact Or.inl rfl | exact Or.inr ⟨rfl, fun q => by subst_vars; exact absurd (by assumption) (by decide)⟩
theorem lf_X12_isValue_6 (n1 : Int32) (c_1 : ¬ n1 = 102) (c_3 : ¬ n1 = 115) (c_5 : n1 = 100) : (1 : Int32) = 0 ∨ ((1 : Int32) = 1 ∧ ¬ n1 = 0) := by
  first | exact Or.inl rfl | exact Or.inr ⟨rfl, fun q => by subst_vars; exact absurd (by assumption) (by decide)⟩
theorem lf_X12_isValue_8 (n1 : Int32) (c_1 : ¬ n1 = 102) (c_3 : ¬ n1 = 115) (c_5 : ¬ n1 = 100) (c_7 : n1 = 110) : (1 : Int32) = 0 ∨ ((1 : Int32) = 1 ∧ ¬ n1 = 0) := by
  first | exact Or.inl rfl | exact Or.inr ⟨rfl, fun q => by subst_vars; exact absurd (by assumption) (by decide)⟩
theorem lf_X12_isValue_10 (n1 : Int32) (c_1 : ¬ n1 = 102) (c_3 : ¬ n1 = 115) (c_5 : ¬ n1 = 100) (c_7 : ¬ n1 = 110) (c_9 : n1 = 99) : (1 : Int32) = 0 ∨ ((1 : Int32) = 1 ∧ ¬ n1 = 0) := by
  first | exact Or.inl rfl | exact Or.inr ⟨rfl, fun q => by subst_vars; exact absurd (by assumption) (by decide)⟩
theorem lf_X12_isValue_12 (n1 : Int32) (c_1 : ¬ n1 = 102) (c_3 : ¬ n1 = 115) (c_5 : ¬ n1 = 100) (c_7 : ¬ n1 = 110) (c_9 : ¬ n1 = 99) (c_11 : n1 = 107) : (1 : Int32) = 0 ∨ ((1 : Int32) = 1 ∧ ¬ n1 = 0) := by
  first | exact Or.inl rfl | exact Or.inr ⟨rfl, fun q => by subst_vars; exact absurd (by assumption) (by decide)⟩
theorem lf_X12_isValue_14 (n1 : Int32) (c_1 : ¬ n1 = 102) (c_3 : ¬ n1 = 115) (c_5 : ¬ n1 = 100) (c_7 : ¬ n1 = 110) (c_9 : ¬ n1 = 99) (c_11 : ¬ n1 = 107) (c_13 : n1 = 121) : (1 : Int32) = 0 ∨ ((1 : Int32) = 1 ∧ ¬ n1 = 0) := by
  first | exact Or.inl rfl | exact Or.inr ⟨rfl, fun q => by subst_vars; exact absurd (by assumption) (by decide)⟩
theorem lf_X12_isValue_16 (n1 : Int32) (c_1 : ¬ n1 = 102) (c_3 : ¬ n1 = 115) (c_5 : ¬ n1 = 100) (c_7 : ¬ n1 = 110) (c_9 : ¬ n1 = 99) (c_11 : ¬ n1 = 107) (c_13 : ¬ n1 = 121) (c_15 : n1 = 122) : (1 : Int32) = 0 ∨ ((1 : Int32) = 1 ∧ ¬ n1 = 0) := by
  first | exact Or.inl rfl | exact Or.inr ⟨rfl, fun q => by subst_vars; exact absurd (by assumption) (by decide)⟩
theorem lf_X12_isValue_18 (n1 : Int32) (c_1 : ¬ n1 = 102) (c_3 : ¬ n1 = 115) (c_5 : ¬ n1 = 100) (c_7 : ¬ n1 = 110) (c_9 : ¬ n1 = 99) (c_11 : ¬ n1 = 107) (c_13 : ¬ n1 = 121) (c_15 : ¬ n1 = 122) (c_17 : n1 = 109) : (1 : Int32) = 0 ∨ ((1 : Int32) = 1 ∧ ¬ n1 = 0) := by
  first | exact Or.inl rfl | exact Or.inr ⟨rfl, fun q => by subst_vars; exact absurd (by assumption) (by decide)⟩
theorem lf_X12_isValue_20 (n1 : Int32) (c_1 : ¬ n1 = 102) (c_3 : ¬ n1 = 115) (c_5 : ¬ n1 = 100) (c_7 : ¬ n1 = 110) (c_9 : ¬ n1 = 99) (c_11 : ¬ n1 = 107) (c_13 : ¬ n1 = 121) (c_15 : ¬ n1 = 122) (c_17 : ¬ n1 = 109) (c_19 : n1 = 120) : (1 : Int32) = 0 ∨ ((1 : Int32) = 1 ∧ ¬ n1 = 0) := by
  first | exact Or.inl rfl | exact Or.inr ⟨rfl, fun q => by subst_vars; exact absurd (by assumption) (by decide)⟩
theorem lf_X12_isValue_22 (n1 : Int32) (c_1 : ¬ n1 = 102) (c_3 : ¬ n1 = 115) (c_5 : ¬ n1 = 100) (c_7 : ¬ n1 = 110) (c_9 : ¬ n1 = 99) (c_11 : ¬ n1 = 107) (c_13 : ¬ n1 = 121) (c_15 : ¬ n1 = 122) (c_17 : ¬ n1 = 109) (c_19 : ¬ n1 = 120) (c_21 : n1 = 116) : (1 : Int32) = 0 ∨ ((1 : Int32) = 1 ∧ ¬ n1 = 0) := by
  first | exact Or.inl rfl | exact Or.inr ⟨rfl, fun q => by subst_vars; exact absurd (by assumption) (by decide)⟩
theorem lf_X12_isValue_24 (n1 : Int32) (c_1 : ¬ n1 = 102) (c_3 : ¬ n1 = 115) (c_5 : ¬ n1 = 100) (c_7 : ¬ n1 = 110) (c_9 : ¬ n1 = 99) (c_11 : ¬ n1 = 107) (c_13 : ¬ n1 = 121) (c_15 : ¬ n1 = 122) (c_17 : ¬ n1 = 109) (c_19 : ¬ n1 = 120) (c_21 : ¬ n1 = 116) (c_23 : n1 = 118) : (1 : Int32) = 0 ∨ ((1 : Int32) = 1 ∧ ¬ n1 = 0) := by
  first | exact Or.inl rfl | exact Or.inr ⟨rfl, fun q => by subst_vars; exact absurd (by assumption) (by decide)⟩
theorem lf_X12_isValue_26 (n1 : Int32) (c_1 : ¬ n1 = 102) (c_3 : ¬ n1 = 115) (c_5 : ¬ n1 = 100) (c_7 : ¬ n1 = 110) (c_9 : ¬ n1 = 99) (c_11 : ¬ n1 = 107) (c_13 : ¬ n1 = 121) (c_15 : ¬ n1 = 122) (c_17 : ¬ n1 = 109) (c_19 : ¬ n1 = 120) (c_21 : ¬ n1 = 116) (c_23 : ¬ n1 = 118) (c_25 : ¬ n1 = 119) : (0 : Int32) = 0 ∨ ((0 : Int32) = 1 ∧ ¬ n1 = 0) := by
  first | exact Or.inl rfl | exact Or.inr ⟨rfl, fun q => by subst_vars; exact absurd (by assumption) (by decide)⟩
theorem lf_X12_isValue_27 (n1 : Int32) (c_1 : ¬ n1 = 102) (c_3 : ¬ n1 = 115) (c_5 : ¬ n1 = 100) (c_7 : ¬ n1 = 110) (c_9 : ¬ n1 = 99) (c_11 : ¬ n1 = 107) (c_13 : ¬ n1 = 121) (c_15 : ¬ n1 = 122) (c_17 : ¬ n1 = 109) (c_19 : ¬ n1 = 120) (c_21 : ¬ n1 = 116) (c_23 : ¬ n1 = 118) (c_25 : n1 = 119) : (1 : Int32) = 0 ∨ ((1 : Int32) = 1 ∧ ¬ n1 = 0) := by
  first | exact Or.inl rfl | exact Or.inr ⟨rfl, fun q => by subst_vars; exact absurd (by assumption) (by decide)⟩
set_option maxHeartbeats 4000000 in
set_option maxRecDepth 100000 in
theorem c_X12_isValue (l : Launch) (D : va_G) (cI cB cZ cJ : ClassId) (tx : List (ClassId × FieldType)) (n1 : Int32) : RdI l D cI cB cZ cJ tx yX12_isValue cX12_isValue 1 (some .boolean) 0 [.int n1] [] (fun r => r = 0 ∨ (r = 1 ∧ ¬ n1 = 0)) := by
  refine rdi_of2 (by decide) (Nat.le_of_ble_eq_true rfl) ?_
  intro p e s m below meth c A ls H locs hC hK hP hD hA hS hl
  obtain ⟨hx, hb, hr, hml, hown, hts, hlocks, hin⟩ := hC
  have hown : s.vm.findClass RX12 = some m.cls := hown
  have hl : lv_has ls 1 [(0, .int n1)] := hl
  refine lv_iload_n hx hb dX12_isValue_0 rfl (lv_at hl 0 rfl) ?_
  refine lv_bipush (v := 102) hx hb dX12_isValue_1 (by decide) ?_
  refine lv_icmp_eq (tgt := 78) hx hb dX12_isValue_3 (by decide) (fun c_1 => ?_) (fun c_1 => ?_)
  · refine lv_iconst (v := 1) hx hb dX12_isValue_78 (by decide) ?_
    refine lv_goto (tgt := 83) hx hb dX12_isValue_79 (by decide) ?_
    exact W.zret (v := 1) hx hb hr (by decide) (fun tt9 ht hW => ⟨⟨(1 : Int32), (), rfl, (lf_X12_isValue_2 n1 c_1), trivial⟩, hS.F ht⟩) hS.2.2 dX12_isValue_83 hlocks
  · refine lv_iload_n hx hb dX12_isValue_6 rfl (lv_at hl 0 rfl) ?_
    refine lv_bipush (v := 115) hx hb dX12_isValue_7 (by decide) ?_
    refine lv_icmp_eq (tgt := 78) hx hb dX12_isValue_9 (by decide) (fun c_3 => ?_) (fun c_3 => ?_)
    · refine lv_iconst (v := 1) hx hb dX12_isValue_78 (by decide) ?_
      refine lv_goto (tgt := 83) hx hb dX12_isValue_79 (by decide) ?_
      exact W.zret (v := 1) hx hb hr (by decide) (fun tt9 ht hW => ⟨⟨(1 : Int32), (), rfl, (lf_X12_isValue_4 n1 c_1 c_3), trivial⟩, hS.F ht⟩) hS.2.2 dX12_isValue_83 hlocks
    · refine lv_iload_n hx hb dX12_isValue_12 rfl (lv_at hl 0 rfl) ?_
      refine lv_bipush (v := 100) hx hb dX12_isValue_13 (by decide) ?_
      refine lv_icmp_eq (tgt := 78) hx hb dX12_isValue_15 (by decide) (fun c_5 => ?_) (fun c_5 => ?_)
      · refine lv_iconst (v := 1) hx hb dX12_isValue_78 (by decide) ?_
        refine lv_goto (tgt := 83) hx hb dX12_isValue_79 (by decide) ?_
        exact W.zret (v := 1) hx hb hr (by decide) (fun tt9 ht hW => ⟨⟨(1 : Int32), (), rfl, (lf_X12_isValue_6 n1 c_1 c_3 c_5), trivial⟩, hS.F ht⟩) hS.2.2 dX12_isValue_83 hlocks
      · refine lv_iload_n hx hb dX12_isValue_18 rfl (lv_at hl 0 rfl) ?_
        refine lv_bipush (v := 110) hx hb dX12_isValue_19 (by decide) ?_
        refine lv_icmp_eq (tgt := 78) hx hb dX12_isValue_21 (by decide) (fun c_7 => ?_) (fun c_7 => ?_)
        · refine lv_iconst (v := 1) hx hb dX12_isValue_78 (by decide) ?_
          refine lv_goto (tgt := 83) hx hb dX12_isValue_79 (by decide) ?_
          exact W.zret (v := 1) hx hb hr (by decide) (fun tt9 ht hW => ⟨⟨(1 : Int32), (), rfl, (lf_X12_isValue_8 n1 c_1 c_3 c_5 c_7), trivial⟩, hS.F ht⟩) hS.2.2 dX12_isValue_83 hlocks
        · refine lv_iload_n hx hb dX12_isValue_24 rfl (lv_at hl 0 rfl) ?_
          refine lv_bipush (v := 99) hx hb dX12_isValue_25 (by decide) ?_
          refine lv_icmp_eq (tgt := 78) hx hb dX12_isValue_27 (by decide) (fun c_9 => ?_) (fun c_9 => ?_)
          · refine lv_iconst (v := 1) hx hb dX12_isValue_78 (by decide) ?_
            refine lv_goto (tgt := 83) hx hb dX12_isValue_79 (by decide) ?_
            exact W.zret (v := 1) hx hb hr (by decide) (fun tt9 ht hW => ⟨⟨(1 : Int32), (), rfl, (lf_X12_isValue_10 n1 c_1 c_3 c_5 c_7 c_9), trivial⟩, hS.F ht⟩) hS.2.2 dX12_isValue_83 hlocks
          · refine lv_iload_n hx hb dX12_isValue_30 rfl (lv_at hl 0 rfl) ?_
            refine lv_bipush (v := 107) hx hb dX12_isValue_31 (by decide) ?_
            refine lv_icmp_eq (tgt := 78) hx hb dX12_isValue_33 (by decide) (fun c_11 => ?_) (fun c_11 => ?_)
            · refine lv_iconst (v := 1) hx hb dX12_isValue_78 (by decide) ?_
              refine lv_goto (tgt := 83) hx hb dX12_isValue_79 (by decide) ?_
              exact W.zret (v := 1) hx hb hr (by decide) (fun tt9 ht hW => ⟨⟨(1 : Int32), (), rfl, (lf_X12_isValue_12 n1 c_1 c_3 c_5 c_7 c_9 c_11), trivial⟩, hS.F ht⟩) hS.2.2 dX12_isValue_83 hlocks
            · refine lv_iload_n hx hb dX12_isValue_36 rfl (lv_at hl 0 rfl) ?_
              refine lv_bipush (v := 121) hx hb dX12_isValue_37 (by decide) ?_
              refine lv_icmp_eq (tgt := 78) hx hb dX12_isValue_39 (by decide) (fun c_13 => ?_) (fun c_13 => ?_)
              · refine lv_iconst (v := 1) hx hb dX12_isValue_78 (by decide) ?_
                refine lv_goto (tgt := 83) hx hb dX12_isValue_79 (by decide) ?_
                exact W.zret (v := 1) hx hb hr (by decide) (fun tt9 ht hW => ⟨⟨(1 : Int32), (), rfl, (lf_X12_isValue_14 n1 c_1 c_3 c_5 c_7 c_9 c_11 c_13), trivial⟩, hS.F ht⟩) hS.2.2 dX12_isValue_83 hlocks
              · refine lv_iload_n hx hb dX12_isValue_42 rfl (lv_at hl 0 rfl) ?_
                refine lv_bipush (v := 122) hx hb dX12_isValue_43 (by decide) ?_
                refine lv_icmp_eq (tgt := 78) hx hb dX12_isValue_45 (by decide) (fun c_15 => ?_) (fun c_15 => ?_)
                · refine lv_iconst (v := 1) hx hb dX12_isValue_78 (by decide) ?_
                  refine lv_goto (tgt := 83) hx hb dX12_isValue_79 (by decide) ?_
                  exact W.zret (v := 1) hx hb hr (by decide) (fun tt9 ht hW => ⟨⟨(1 : Int32), (), rfl, (lf_X12_isValue_16 n1 c_1 c_3 c_5 c_7 c_9 c_11 c_13 c_15), trivial⟩, hS.F ht⟩) hS.2.2 dX12_isValue_83 hlocks
                · refine lv_iload_n hx hb dX12_isValue_48 rfl (lv_at hl 0 rfl) ?_
                  refine lv_bipush (v := 109) hx hb dX12_isValue_49 (by decide) ?_
                  refine lv_icmp_eq (tgt := 78) hx hb dX12_isValue_51 (by decide) (fun c_17 => ?_) (fun c_17 => ?_)
                  · refine lv_iconst (v := 1) hx hb dX12_isValue_78 (by decide) ?_
                    refine lv_goto (tgt := 83) hx hb dX12_isValue_79 (by decide) ?_
                    exact W.zret (v := 1) hx hb hr (by decide) (fun tt9 ht hW => ⟨⟨(1 : Int32), (), rfl, (lf_X12_isValue_18 n1 c_1 c_3 c_5 c_7 c_9 c_11 c_13 c_15 c_17), trivial⟩, hS.F ht⟩) hS.2.2 dX12_isValue_83 hlocks
                  · refine lv_iload_n hx hb dX12_isValue_54 rfl (lv_at hl 0 rfl) ?_
                    refine lv_bipush (v := 120) hx hb dX12_isValue_55 (by decide) ?_
                    refine lv_icmp_eq (tgt := 78) hx hb dX12_isValue_57 (by decide) (fun c_19 => ?_) (fun c_19 => ?_)
                    · refine lv_iconst (v := 1) hx hb dX12_isValue_78 (by decide) ?_
                      refine lv_goto (tgt := 83) hx hb dX12_isValue_79 (by decide) ?_
                      exact W.zret (v := 1) hx hb hr (by decide) (fun tt9 ht hW => ⟨⟨(1 : Int32), (), rfl, (lf_X12_isValue_20 n1 c_1 c_3 c_5 c_7 c_9 c_11 c_13 c_15 c_17 c_19), trivial⟩, hS.F ht⟩) hS.2.2 dX12_isValue_83 hlocks
                    · refine lv_iload_n hx hb dX12_isValue_60 rfl (lv_at hl 0 rfl) ?_
                      refine lv_bipush (v := 116) hx hb dX12_isValue_61 (by decide) ?_
                      refine lv_icmp_eq (tgt := 78) hx hb dX12_isValue_63 (by decide) (fun c_21 => ?_) (fun c_21 => ?_)
                      · refine lv_iconst (v := 1) hx hb dX12_isValue_78 (by decide) ?_
                        refine lv_goto (tgt := 83) hx hb dX12_isValue_79 (by decide) ?_
                        exact W.zret (v := 1) hx hb hr (by decide) (fun tt9 ht hW => ⟨⟨(1 : Int32), (), rfl, (lf_X12_isValue_22 n1 c_1 c_3 c_5 c_7 c_9 c_11 c_13 c_15 c_17 c_19 c_21), trivial⟩, hS.F ht⟩) hS.2.2 dX12_isValue_83 hlocks
                      · refine lv_iload_n hx hb dX12_isValue_66 rfl (lv_at hl 0 rfl) ?_
                        refine lv_bipush (v := 118) hx hb dX12_isValue_67 (by decide) ?_
                        refine lv_icmp_eq (tgt := 78) hx hb dX12_isValue_69 (by decide) (fun c_23 => ?_) (fun c_23 => ?_)
                        · refine lv_iconst (v := 1) hx hb dX12_isValue_78 (by decide) ?_
                          refine lv_goto (tgt := 83) hx hb dX12_isValue_79 (by decide) ?_
                          exact W.zret (v := 1) hx hb hr (by decide) (fun tt9 ht hW => ⟨⟨(1 : Int32), (), rfl, (lf_X12_isValue_24 n1 c_1 c_3 c_5 c_7 c_9 c_11 c_13 c_15 c_17 c_19 c_21 c_23), trivial⟩, hS.F ht⟩) hS.2.2 dX12_isValue_83 hlocks
                        · refine lv_iload_n hx hb dX12_isValue_72 rfl (lv_at hl 0 rfl) ?_
                          refine lv_bipush (v := 119) hx hb dX12_isValue_73 (by decide) ?_
                          refine lv_icmp_ne (tgt := 82) hx hb dX12_isValue_75 (by decide) (fun c_25 => ?_) (fun c_25 => ?_)
                          · refine lv_iconst (v := 0) hx hb dX12_isValue_82 (by decide) ?_
                            exact W.zret (v := 0) hx hb hr (by decide) (fun tt9 ht hW => ⟨⟨(0 : Int32), (), rfl, (lf_X12_isValue_26 n1 c_1 c_3 c_5 c_7 c_9 c_11 c_13 c_15 c_17 c_19 c_21 c_23 c_25), trivial⟩, hS.F ht⟩) hS.2.2 dX12_isValue_83 hlocks
                          · refine lv_iconst (v := 1) hx hb dX12_isValue_78 (by decide) ?_
                            refine lv_goto (tgt := 83) hx hb dX12_isValue_79 (by decide) ?_
                            exact W.zret (v := 1) hx hb hr (by decide) (fun tt9 ht hW => ⟨⟨(1 : Int32), (), rfl, (lf_X12_isValue_27 n1 c_1 c_3 c_5 c_7 c_9 c_11 c_13 c_15 c_17 c_19 c_21 c_23 c_25), trivial⟩, hS.F ht⟩) hS.2.2 dX12_isValue_83 hlocks

theorem lf_X12_isClause_4 (n1 : Int32) (n2 : Int32) (c_1 : ¬ n1 = 0) (c_2 : ¬ n1 = 1) (c_3 : ¬ n2 = 101) : (0 : Int32) = 0 ∨ ((0 : Int32) = 1 ∧ ¬ n2 = 0) := by
  first | exact Or.inl rfl | exact Or.inr ⟨rfl, fun q => by subst_vars; exact absurd (by assumption) (by decide)⟩
theorem lf_X12_isClause_5 (n1 : Int32) (n2 : Int32) (c_1 : ¬ n1 = 0) (c_2 : ¬ n1 = 1) (c_3 : n2 = 101) : (1 : Int32) = 0 ∨ ((1 : Int32) = 1 ∧ ¬ n2 = 0) := by
  first | exact Or.inl rfl | exact Or.inr ⟨rfl, fun q => by subst_vars; exact absurd (by assumption) (by decide)⟩
theorem lf_X12_isClause_7 (n1 : Int32) (n2 : Int32) (c_1 : ¬ n1 = 0) (c_2 : n1 = 1) (c_6 : n2 = 97) : (1 : Int32) = 0 ∨ ((1 : Int32) = 1 ∧ ¬ n2 = 0) := by
  first | exact Or.inl rfl | exact Or.inr ⟨rfl, fun q => by subst_vars; exact absurd (by assumption) (by decide)⟩
theorem lf_X12_isClause_9 (n1 : Int32) (n2 : Int32) (c_1 : ¬ n1 = 0) (c_2 : n1 = 1) (c_6 : ¬ n2 = 97) (c_8 : n2 = 98) : (1 : Int32) = 0 ∨ ((1 : Int32) = 1 ∧ ¬ n2 = 0) := by
  first | exact Or.inl rfl | exact Or.inr ⟨rfl, fun q => by subst_vars; exact absurd (by assumption) (by decide)⟩
theorem lf_X12_isClause_11 (n1 : Int32) (n2 : Int32) (c_1 : ¬ n1 = 0) (c_2 : n1 = 1) (c_6 : ¬ n2 = 97) (c_8 : ¬ n2 = 98) (c_10 : ¬ n2 = 103) : (0 : Int32) = 0 ∨ ((0 : Int32) = 1 ∧ ¬ n2 = 0) := by
  first | exact Or.inl rfl | exact Or.inr ⟨rfl, fun q => by subst_vars; exact absurd (by assumption) (by decide)⟩
theorem lf_X12_isClause_12 (n1 : Int32) (n2 : Int32) (c_1 : ¬ n1 = 0) (c_2 : n1 = 1) (c_6 : ¬ n2 = 97) (c_8 : ¬ n2 = 98) (c_10 : n2 = 103) : (1 : Int32) = 0 ∨ ((1 : Int32) = 1 ∧ ¬ n2 = 0) := by
  first | exact Or.inl rfl | exact Or.inr ⟨rfl, fun q => by subst_vars; exact absurd (by assumption) (by decide)⟩
theorem lf_X12_isClause_14 (n1 : Int32) (n2 : Int32) (c_1 : n1 = 0) (c_13 : n2 = 121) : (1 : Int32) = 0 ∨ ((1 : Int32) = 1 ∧ ¬ n2 = 0) := by
  first | exact Or.inl rfl | exact Or.inr ⟨rfl, fun q => by subst_vars; exact absurd (by assumption) (by decide)⟩
theorem lf_X12_isClause_16 (n1 : Int32) (n2 : Int32) (c_1 : n1 = 0) (c_13 : ¬ n2 = 121) (c_15 : ¬ n2 = 122) : (0 : Int32) = 0 ∨ ((0 : Int32) = 1 ∧ ¬ n2 = 0) := by
  first | exact Or.inl rfl | exact Or.inr ⟨rfl, fun q => by subst_vars; exact absurd (by assumption) (by decide)⟩
theorem lf_X12_isClause_17 (n1 : Int32) (n2 : Int32) (c_1 : n1 = 0) (c_13 : ¬ n2 = 121) (c_15 : n2 = 122) : (1 : Int32) = 0 ∨ ((1 : Int32) = 1 ∧ ¬ n2 = 0) := by
  first | exact Or.inl rfl | exact Or.inr ⟨rfl, fun q => by subst_vars; exact absurd (by assumption) (by decide)⟩
set_option maxHeartbeats 4000000 in
set_option maxRecDepth 100000 in
theorem c_X12_isClause (l : Launch) (D : va_G) (cI cB cZ cJ : ClassId) (tx : List (ClassId × FieldType)) (n1 : Int32) (n2 : Int32) : RdI l D cI cB cZ cJ tx yX12_isClause cX12_isClause 2 (some .boolean) 0 [.int n1, .int n2] [] (fun r => r = 0 ∨ (r = 1 ∧ ¬ n2 = 0)) := by
  refine rdi_of2 (by decide) (Nat.le_of_ble_eq_true rfl) ?_
  intro p e s m below meth c A ls H locs hC hK hP hD hA hS hl
  obtain ⟨hx, hb, hr, hml, hown, hts, hlocks, hin⟩ := hC
  have hown : s.vm.findClass RX12 = some m.cls := hown
  have hl : lv_has ls 2 [(0, .int n1), (1, .int n2)] := hl
  refine lv_iload_n hx hb dX12_isClause_0 rfl (lv_at hl 0 rfl) ?_
  refine lv_if_ne (tgt := 24) hx hb dX12_isClause_1 (by decide) (fun c_1 => ?_) (fun c_1 => ?_)
  · refine lv_iload_n hx hb dX12_isClause_24 rfl (lv_at hl 0 rfl) ?_
    refine lv_iconst (v := 1) hx hb dX12_isClause_25 (by decide) ?_
    refine lv_icmp_ne (tgt := 55) hx hb dX12_isClause_26 (by decide) (fun c_2 => ?_) (fun c_2 => ?_)
    · refine lv_iload_n hx hb dX12_isClause_55 rfl (lv_at hl 1 rfl) ?_
      refine lv_bipush (v := 101) hx hb dX12_isClause_56 (by decide) ?_
      refine lv_icmp_ne (tgt := 65) hx hb dX12_isClause_58 (by decide) (fun c_3 => ?_) (fun c_3 => ?_)
      · refine lv_iconst (v := 0) hx hb dX12_isClause_65 (by decide) ?_
        exact W.zret (v := 0) hx hb hr (by decide) (fun tt9 ht hW => ⟨⟨(0 : Int32), (), rfl, (lf_X12_isClause_4 n1 n2 c_1 c_2 c_3), trivial⟩, hS.F ht⟩) hS.2.2 dX12_isClause_66 hlocks
      · refine lv_iconst (v := 1) hx hb dX12_isClause_61 (by decide) ?_
        refine lv_goto (tgt := 66) hx hb dX12_isClause_62 (by decide) ?_
        exact W.zret (v := 1) hx hb hr (by decide) (fun tt9 ht hW => ⟨⟨(1 : Int32), (), rfl, (lf_X12_isClause_5 n1 n2 c_1 c_2 c_3), trivial⟩, hS.F ht⟩) hS.2.2 dX12_isClause_66 hlocks
    · refine lv_iload_n hx hb dX12_isClause_29 rfl (lv_at hl 1 rfl) ?_
      refine lv_bipush (v := 97) hx hb dX12_isClause_30 (by decide) ?_
      refine lv_icmp_eq (tgt := 47) hx hb dX12_isClause_32 (by decide) (fun c_6 => ?_) (fun c_6 => ?_)
      · refine lv_iconst (v := 1) hx hb dX12_isClause_47 (by decide) ?_
        refine lv_goto (tgt := 66) hx hb dX12_isClause_48 (by decide) ?_
        exact W.zret (v := 1) hx hb hr (by decide) (fun tt9 ht hW => ⟨⟨(1 : Int32), (), rfl, (lf_X12_isClause_7 n1 n2 c_1 c_2 c_6), trivial⟩, hS.F ht⟩) hS.2.2 dX12_isClause_66 hlocks
      · refine lv_iload_n hx hb dX12_isClause_35 rfl (lv_at hl 1 rfl) ?_
        refine lv_bipush (v := 98) hx hb dX12_isClause_36 (by decide) ?_
        refine lv_icmp_eq (tgt := 47) hx hb dX12_isClause_38 (by decide) (fun c_8 => ?_) (fun c_8 => ?_)
        · refine lv_iconst (v := 1) hx hb dX12_isClause_47 (by decide) ?_
          refine lv_goto (tgt := 66) hx hb dX12_isClause_48 (by decide) ?_
          exact W.zret (v := 1) hx hb hr (by decide) (fun tt9 ht hW => ⟨⟨(1 : Int32), (), rfl, (lf_X12_isClause_9 n1 n2 c_1 c_2 c_6 c_8), trivial⟩, hS.F ht⟩) hS.2.2 dX12_isClause_66 hlocks
        · refine lv_iload_n hx hb dX12_isClause_41 rfl (lv_at hl 1 rfl) ?_
          refine lv_bipush (v := 103) hx hb dX12_isClause_42 (by decide) ?_
          refine lv_icmp_ne (tgt := 51) hx hb dX12_isClause_44 (by decide) (fun c_10 => ?_) (fun c_10 => ?_)
          · refine lv_iconst (v := 0) hx hb dX12_isClause_51 (by decide) ?_
            refine lv_goto (tgt := 66) hx hb dX12_isClause_52 (by decide) ?_
            exact W.zret (v := 0) hx hb hr (by decide) (fun tt9 ht hW => ⟨⟨(0 : Int32), (), rfl, (lf_X12_isClause_11 n1 n2 c_1 c_2 c_6 c_8 c_10), trivial⟩, hS.F ht⟩) hS.2.2 dX12_isClause_66 hlocks
          · refine lv_iconst (v := 1) hx hb dX12_isClause_47 (by decide) ?_
            refine lv_goto (tgt := 66) hx hb dX12_isClause_48 (by decide) ?_
            exact W.zret (v := 1) hx hb hr (by decide) (fun tt9 ht hW => ⟨⟨(1 : Int32), (), rfl, (lf_X12_isClause_12 n1 n2 c_1 c_2 c_6 c_8 c_10), trivial⟩, hS.F ht⟩) hS.2.2 dX12_isClause_66 hlocks
  · refine lv_iload_n hx hb dX12_isClause_4 rfl (lv_at hl 1 rfl) ?_
    refine lv_bipush (v := 121) hx hb dX12_isClause_5 (by decide) ?_
    refine lv_icmp_eq (tgt := 16) hx hb dX12_isClause_7 (by decide) (fun c_13 => ?_) (fun c_13 => ?_)
    · refine lv_iconst (v := 1) hx hb dX12_isClause_16 (by decide) ?_
      refine lv_goto (tgt := 66) hx hb dX12_isClause_17 (by decide) ?_
      exact W.zret (v := 1) hx hb hr (by decide) (fun tt9 ht hW => ⟨⟨(1 : Int32), (), rfl, (lf_X12_isClause_14 n1 n2 c_1 c_13), trivial⟩, hS.F ht⟩) hS.2.2 dX12_isClause_66 hlocks
    · refine lv_iload_n hx hb dX12_isClause_10 rfl (lv_at hl 1 rfl) ?_
      refine lv_bipush (v := 122) hx hb dX12_isClause_11 (by decide) ?_
      refine lv_icmp_ne (tgt := 20) hx hb dX12_isClause_13 (by decide) (fun c_15 => ?_) (fun c_15 => ?_)
      · refine lv_iconst (v := 0) hx hb dX12_isClause_20 (by decide) ?_
        refine lv_goto (tgt := 66) hx hb dX12_isClause_21 (by decide) ?_
        exact W.zret (v := 0) hx hb hr (by decide) (fun tt9 ht hW => ⟨⟨(0 : Int32), (), rfl, (lf_X12_isClause_16 n1 n2 c_1 c_13 c_15), trivial⟩, hS.F ht⟩) hS.2.2 dX12_isClause_66 hlocks
      · refine lv_iconst (v := 1) hx hb dX12_isClause_16 (by decide) ?_
        refine lv_goto (tgt := 66) hx hb dX12_isClause_17 (by decide) ?_
        exact W.zret (v := 1) hx hb hr (by decide) (fun tt9 ht hW => ⟨⟨(1 : Int32), (), rfl, (lf_X12_isClause_17 n1 n2 c_1 c_13 c_15), trivial⟩, hS.F ht⟩) hS.2.2 dX12_isClause_66 hlocks
