section MORE
variable {p : Program} {l : Launch} {e : Env} {R : Room} {s : State} {m : MethodId} {args : Array Value} {below : List Frame} {meth : Method} {c : Code} {H : Heap} {locs : List Loc} {cells slots : Nat} {Q : State → Prop}
variable {cc : ByteArray} {pc : Nat} {ls : Array Slot} {rest : List Value} {D : va_G} {A : Nat → Prop} {a : Nat} {ws : va_W} {H0 : Heap} {cI cB cZ cJ : ClassId} {tx : List (ClassId × FieldType)}
theorem ld_z (hexec : p.tables.exec = Jvm.exec) (hb : c.code = cc) (hK : KX D cI cB cZ cJ tx s) (hP : va_P D vwCl ws H) (q0 : Nat) {n : Nat} {f : Nat → Int32} (ha : ws[q0]? = some (a, .inl (cZ, n, .inl f))) {i : Int32} (hin : vp_in i n) (hdg : decode cc pc = .ok (.baload, 1))
    (kk : ∀ x : Int32, W p l e R s m args below meth c H locs cells slots Q (F0 m (pc + 1) ls (.int x :: rest))) : W p l e R s m args below meth c H locs cells slots Q (F0 m pc ls (.int i :: .ref a :: rest)) :=
  va_zald hexec hb hK.1 hP q0 2 ha rfl hin hdg (kk _)
theorem ld_b (hexec : p.tables.exec = Jvm.exec) (hb : c.code = cc) (hK : KX D cI cB cZ cJ tx s) (hP : va_P D vwCl ws H) (q0 : Nat) {n : Nat} {f : Nat → Int32} (ha : ws[q0]? = some (a, .inl (cB, n, .inl f))) {i : Int32} (hin : vp_in i n) (hdg : decode cc pc = .ok (.baload, 1))
    (kk : ∀ x : Int32, W p l e R s m args below meth c H locs cells slots Q (F0 m (pc + 1) ls (.int x :: rest))) : W p l e R s m args below meth c H locs cells slots Q (F0 m pc ls (.int i :: .ref a :: rest)) :=
  va_bald hexec hb hK.1 hP q0 1 ha rfl hin hdg (kk _)
theorem ld_l (hexec : p.tables.exec = Jvm.exec) (hb : c.code = cc) (hK : KX D cI cB cZ cJ tx s) (hP : va_P D vwCl ws H) (q0 : Nat) {n : Nat} {f : Nat → Int64} (ha : ws[q0]? = some (a, .inl (cJ, n, .inr (.inl f)))) {i : Int32} (hin : vp_in i n) (hdg : decode cc pc = .ok (.laload, 1))
    (kk : ∀ x : Int64, W p l e R s m args below meth c H locs cells slots Q (F0 m (pc + 1) ls (.long x :: rest))) : W p l e R s m args below meth c H locs cells slots Q (F0 m pc ls (.int i :: .ref a :: rest)) :=
  va_lald hexec hb hK.1 hP q0 3 ha rfl hin hdg (kk _)
theorem st_l (hexec : p.tables.exec = Jvm.exec) (hb : c.code = cc) (hK : KX D cI cB cZ cJ tx s) (hP : va_P D vwCl ws H) (hD : va_D A ws) (hS : va_S A H0 H locs) (q0 : Nat) {n : Nat} {f : Nat → Int64} (ha : ws[q0]? = some (a, .inl (cJ, n, .inr (.inl f)))) {i : Int32} {x : Int64} (hin : vp_in i n) (hdg : decode cc pc = .ok (.lastore, 1))
    (kk : ∀ (f1 : Nat → Int64) (H1 : Heap) (locs1 : List Loc), va_P D vwCl (ws.set q0 (a, .inl (cJ, n, .inr (.inl f1)))) H1 → va_D A (ws.set q0 (a, .inl (cJ, n, .inr (.inl f1)))) → va_S A H0 H1 locs1 → W p l e R s m args below meth c H1 locs1 cells slots Q (F0 m (pc + 1) ls rest)) : W p l e R s m args below meth c H locs cells slots Q (F0 m pc ls (.long x :: .int i :: .ref a :: rest)) :=
  va_last hexec hb hK.1 hP hD hS q0 3 ha rfl hin hdg (fun H1 locs1 h1 h2 h3 => kk _ H1 locs1 h1 h2 h3)
/-- loads whose number is told: the row's at its place -/
theorem lt_i (hexec : p.tables.exec = Jvm.exec) (hb : c.code = cc) (hK : KX D cI cB cZ cJ tx s) (hP : va_P D vwCl ws H) (q0 : Nat) {n : Nat} {f : Nat → Int32} (ha : ws[q0]? = some (a, .inl (cI, n, .inl f))) {j : Nat} (hj : j < n) (hn : n < 2 ^ 31) (hdg : decode cc pc = .ok (.iaload, 1))
    (kk : W p l e R s m args below meth c H locs cells slots Q (F0 m (pc + 1) ls (.int (f j) :: rest))) : W p l e R s m args below meth c H locs cells slots Q (F0 m pc ls (.int (nI j) :: .ref a :: rest)) := by
  refine va_iald hexec hb hK.1 hP q0 0 ha rfl (vp_in_nI hj hn) hdg ?_
  rw [nI_clamp (by omega)]
  exact kk
/-- stores whose new row is told -/
theorem su_i (hexec : p.tables.exec = Jvm.exec) (hb : c.code = cc) (hK : KX D cI cB cZ cJ tx s) (hP : va_P D vwCl ws H) (hD : va_D A ws) (hS : va_S A H0 H locs) (q0 : Nat) {n : Nat} {f : Nat → Int32} (ha : ws[q0]? = some (a, .inl (cI, n, .inl f))) {j : Nat} {x : Int32} (hj : j < n) (hn : n < 2 ^ 31) (hdg : decode cc pc = .ok (.iastore, 1))
    (kk : ∀ (f1 : Nat → Int32) (H1 : Heap) (locs1 : List Loc), f1 = upd f j x → va_P D vwCl (ws.set q0 (a, .inl (cI, n, .inl f1))) H1 → va_D A (ws.set q0 (a, .inl (cI, n, .inl f1))) → va_S A H0 H1 locs1 → W p l e R s m args below meth c H1 locs1 cells slots Q (F0 m (pc + 1) ls rest)) : W p l e R s m args below meth c H locs cells slots Q (F0 m pc ls (.int x :: .int (nI j) :: .ref a :: rest)) := by
  refine va_iast hexec hb hK.1 hP hD hS q0 0 ha rfl (vp_in_nI hj hn) hdg (fun H1 locs1 h1 h2 h3 => ?_)
  rw [nI_clamp (by omega)] at h1 h2
  exact kk _ H1 locs1 rfl h1 h2 h3
end MORE
theorem in_lt {x : Int32} {u N : Nat} (h1 : ¬ x < 0) (h2 : ¬ nI u ≤ x) (hu : u ≤ N) (hN : N < 2 ^ 31) : vp_in x N := by
  obtain ⟨j, hj, e⟩ := nI_of h1
  subst e
  exact vp_in_nI (Nat.lt_of_lt_of_le (Nat.lt_of_not_le (fun q => h2 (nI_le q hj))) hu) hN
theorem shr_in {x y : Int32} (h : 0 ≤ x) (e : y = x >>> ((4 : Int32) &&& 31)) (c : ¬ 26 ≤ y) : vp_in y 26 := by
  subst e
  rw [vp_in_iff]
  have h1 := pk_shr x ((4 : Int32) &&& 31) 4 (by decide)
  have h2 := Int32.le_iff_toInt_le.mp h
  have h4 : (0 : Int32).toInt = 0 := by decide
  have h5 : (26 : Int32).toInt = 26 := by decide
  have h3 : ¬ (26 : Int32).toInt ≤ (x >>> ((4 : Int32) &&& 31)).toInt := fun q => c (Int32.le_iff_toInt_le.mpr q)
  rw [h1, Int.shiftRight_eq_div_pow] at *
  have h6 : 0 ≤ x.toInt / ((2 ^ 4 : Nat) : Int) := Int.ediv_nonneg (by omega) (by omega)
  omega
theorem nat_of {x : Int32} {u : Nat} (h1 : ¬ x < 0) (h2 : ¬ nI u ≤ x) : ∃ j : Nat, j < u ∧ x = nI j := by
  obtain ⟨j, hj, e⟩ := nI_of h1
  subst e
  exact ⟨j, Nat.lt_of_not_le (fun q => h2 (nI_le q hj)), rfl⟩
