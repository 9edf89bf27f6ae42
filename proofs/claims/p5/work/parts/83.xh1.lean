/-! a byte is stored, and known -/
section TOLB
variable {p : Program} {l : Launch} {e : Env} {R : Room} {s : State} {m : MethodId} {args : Array Value} {below : List Frame} {meth : Method} {c : Code} {H : Heap} {locs : List Loc} {cells slots : Nat} {Q : State → Prop}
variable {cc : ByteArray} {pc : Nat} {ls : Array Slot} {rest : List Value} {D : va_G} {A : Nat → Prop} {a : Nat} {ws : va_W} {H0 : Heap} {cI cB cZ cJ : ClassId} {tx : List (ClassId × FieldType)}
theorem su_b (hexec : p.tables.exec = Jvm.exec) (hb : c.code = cc) (hK : KX D cI cB cZ cJ tx s) (hP : va_P D vwCl ws H) (hD : va_D A ws) (hS : va_S A H0 H locs) (q0 : Nat) {n : Nat} {f : Nat → Int32} (ha : ws[q0]? = some (a, .inl (cB, n, .inl f))) {j : Nat} {x : Int32} (hj : j < n) (hn : n < 2 ^ 31) (hdg : decode cc pc = .ok (.bastore, 1))
    (kk : ∀ (f1 : Nat → Int32) (H1 : Heap) (locs1 : List Loc), f1 = upd f j (vp_nar .byte x) → va_P D vwCl (ws.set q0 (a, .inl (cB, n, .inl f1))) H1 → va_D A (ws.set q0 (a, .inl (cB, n, .inl f1))) → va_S A H0 H1 locs1 → W p l e R s m args below meth c H1 locs1 cells slots Q (F0 m (pc + 1) ls rest)) : W p l e R s m args below meth c H locs cells slots Q (F0 m pc ls (.int x :: .int (nI j) :: .ref a :: rest)) := by
  refine va_bast hexec hb hK.1 hP hD hS q0 1 ha rfl (vp_in_nI hj hn) hdg (fun H1 locs1 h1 h2 h3 => ?_)
  rw [nI_clamp (by omega)] at h1 h2
  exact kk _ H1 locs1 rfl h1 h2 h3
end TOLB
/-! the tape: what feed puts on it, both sides -/
theorem by_e {x y : Int32} (h : x.toInt % 256 = y.toInt % 256) : x.toInt8.toInt32 = y.toInt8.toInt32 := by
  have e : x.toInt8 = y.toInt8 := by
    apply Int8.toInt_inj.mp
    rw [Int32.toInt_toInt8, Int32.toInt_toInt8, ← Int.emod_bmod x.toInt, ← Int.emod_bmod y.toInt]
    exact congrArg (fun z => Int.bmod z (2 ^ 8)) h
  rw [e]
theorem i32_n (x : Int32) : x.toInt % 4294967296 = (x.toBitVec.toNat : Int) := by
  have h : x.toInt = Int.bmod (x.toBitVec.toNat : Int) (2 ^ 32) := BitVec.toInt_eq_toNat_bmod x.toBitVec
  have h2 : x.toBitVec.toNat < 4294967296 := x.toBitVec.isLt
  have h3 : Int.bmod (x.toBitVec.toNat : Int) (2 ^ 32) % ((2 ^ 32 : Nat) : Int) = (x.toBitVec.toNat : Int) % ((2 ^ 32 : Nat) : Int) := Int.bmod_emod
  rw [h]
  have e : ((2 ^ 32 : Nat) : Int) = 4294967296 := by decide
  rw [e] at h3
  rw [h3]
  omega
theorem us_n (n : Int32) (k : UInt32) (j : Nat) (hk : k.toNat % 32 = j) : ((n.toUInt32 >>> k).toInt32).toBitVec.toNat = n.toBitVec.toNat / 2 ^ j := by
  show (n.toUInt32 >>> k).toNat = _
  rw [UInt32.toNat_shiftRight, hk, Nat.shiftRight_eq_div_pow]
  rfl
def by4 (n k : Int32) : Int32 := (n >>> (k &&& 31)).toInt8.toInt32
theorem by_24 (n : Int32) : ((n.toUInt32 >>> ((24 : Int32).toUInt32 &&& Int32.toUInt32 31)).toInt32).toInt8.toInt32 = by4 n 24 := by
  apply by_e
  have h1 := i32_n ((n.toUInt32 >>> ((24 : Int32).toUInt32 &&& Int32.toUInt32 31)).toInt32)
  rw [us_n n _ 24 (by decide)] at h1
  have h2 := i32_n n
  have h3 := pk_shr n (24 &&& 31) 24 (by decide)
  rw [h3]
  have e : n.toInt >>> 24 = n.toInt / 16777216 := by
    rw [Int.shiftRight_eq_div_pow]
    rfl
  have e2 : (2 : Nat) ^ 24 = 16777216 := by decide
  rw [e2] at h1
  rw [e]
  omega
theorem by_16 (n : Int32) : ((n.toUInt32 >>> ((16 : Int32).toUInt32 &&& Int32.toUInt32 31)).toInt32).toInt8.toInt32 = by4 n 16 := by
  apply by_e
  have h1 := i32_n ((n.toUInt32 >>> ((16 : Int32).toUInt32 &&& Int32.toUInt32 31)).toInt32)
  rw [us_n n _ 16 (by decide)] at h1
  have h2 := i32_n n
  have h3 := pk_shr n (16 &&& 31) 16 (by decide)
  rw [h3]
  have e : n.toInt >>> 16 = n.toInt / 65536 := by
    rw [Int.shiftRight_eq_div_pow]
    rfl
  have e2 : (2 : Nat) ^ 16 = 65536 := by decide
  rw [e2] at h1
  rw [e]
  omega
theorem by_8 (n : Int32) : ((n.toUInt32 >>> ((8 : Int32).toUInt32 &&& Int32.toUInt32 31)).toInt32).toInt8.toInt32 = by4 n 8 := by
  apply by_e
  have h1 := i32_n ((n.toUInt32 >>> ((8 : Int32).toUInt32 &&& Int32.toUInt32 31)).toInt32)
  rw [us_n n _ 8 (by decide)] at h1
  have h2 := i32_n n
  have h3 := pk_shr n (8 &&& 31) 8 (by decide)
  rw [h3]
  have e : n.toInt >>> 8 = n.toInt / 256 := by
    rw [Int.shiftRight_eq_div_pow]
    rfl
  have e2 : (2 : Nat) ^ 8 = 256 := by decide
  rw [e2] at h1
  rw [e]
  omega
theorem by_0 (n : Int32) : ((n.toUInt32 >>> ((0 : Int32).toUInt32 &&& Int32.toUInt32 31)).toInt32).toInt8.toInt32 = by4 n 0 := by
  apply by_e
  have h1 := i32_n ((n.toUInt32 >>> ((0 : Int32).toUInt32 &&& Int32.toUInt32 31)).toInt32)
  rw [us_n n _ 0 (by decide)] at h1
  have h2 := i32_n n
  have h3 := pk_shr n (0 &&& 31) 0 (by decide)
  rw [h3]
  have e : n.toInt >>> 0 = n.toInt / 1 := by
    rw [Int.shiftRight_eq_div_pow]
    rfl
  have e2 : (2 : Nat) ^ 0 = 1 := by decide
  rw [e2] at h1
  rw [e]
  omega
def put4 (b : Nat → Int32) (u : Nat) (n : Int32) : Nat → Int32 := upd (upd (upd (upd b u (vp_nar .byte (by4 n 24))) (u + 1) (vp_nar .byte (by4 n 16))) (u + 1 + 1) (vp_nar .byte (by4 n 8))) (u + 1 + 1 + 1) (vp_nar .byte (by4 n 0))
section PU
variable {b f1 f2 f3 f4 : Nat → Int32} {u : Nat} {n x1 x2 x3 x4 y1 y2 y3 y4 : Int32}
theorem pt4 (h4 : f4 = upd f3 (u + 1 + 1 + 1) (vp_nar .byte y4)) (h3 : f3 = upd f2 (u + 1 + 1) (vp_nar .byte y3)) (h2 : f2 = upd f1 (u + 1) (vp_nar .byte y2)) (h1 : f1 = upd b u (vp_nar .byte y1)) (q4 : y4 = by4 n 0) (q3 : y3 = by4 n 8) (q2 : y2 = by4 n 16) (q1 : y1 = by4 n 24) : f4 = put4 b u n := by
  subst h4 h3 h2 h1 q4 q3 q2 q1
  rfl
theorem bu_24 (e : y1 = x1.toInt8.toInt32) (e2 : x1 = (n.toUInt32 >>> ((24 : Int32).toUInt32 &&& Int32.toUInt32 31)).toInt32) : y1 = by4 n 24 := by rw [e, e2]; exact by_24 n
theorem bu_16 (e : y1 = x1.toInt8.toInt32) (e2 : x1 = (n.toUInt32 >>> ((16 : Int32).toUInt32 &&& Int32.toUInt32 31)).toInt32) : y1 = by4 n 16 := by rw [e, e2]; exact by_16 n
theorem bu_8 (e : y1 = x1.toInt8.toInt32) (e2 : x1 = (n.toUInt32 >>> ((8 : Int32).toUInt32 &&& Int32.toUInt32 31)).toInt32) : y1 = by4 n 8 := by rw [e, e2]; exact by_8 n
theorem bu_0 (e : y1 = x1.toInt8.toInt32) (e2 : x1 = (n.toUInt32 >>> ((0 : Int32).toUInt32 &&& Int32.toUInt32 31)).toInt32) : y1 = by4 n 0 := by rw [e, e2]; exact by_0 n
theorem bs_k {k : Int32} (e : y1 = x1.toInt8.toInt32) (e2 : x1 = n >>> (k &&& 31)) : y1 = by4 n k := by rw [e, e2]; rfl
end PU
/-- the tape behind feed -/
def feU (u : Nat) : Nat := if u ≤ 200 then u + 20 else u
def feA (u : Nat) : Int32 := if u ≤ 200 then nI (u + 20) else -1
def feB (n1 n2 n3 n4 n5 : Int32) (b : Nat → Int32) (u : Nat) : Nat → Int32 := if u ≤ 200 then put4 (put4 (put4 (put4 (put4 b u n1) (u + 4) n2) (u + 4 + 4) n3) (u + 4 + 4 + 4) n4) (u + 4 + 4 + 4 + 4) n5 else b
section FE
variable {b f1 f2 f3 f4 f5 : Nat → Int32} {u v1 v2 v3 v4 v5 : Nat} {n1 n2 n3 n4 n5 : Int32}
theorem feU_y (h : u ≤ 200) (e : v1 = u + 20) : v1 = feU u := e.trans (if_pos h).symm
theorem feU_n (h : ¬ u ≤ 200) : u = feU u := (if_neg h).symm
theorem feA_y (h : u ≤ 200) (e : v1 = u + 20) : nI v1 = feA u := by subst e; exact (if_pos h).symm
theorem feA_n (h : ¬ u ≤ 200) : -1 = feA u := (if_neg h).symm
theorem feB_n (h : ¬ u ≤ 200) : b = feB n1 n2 n3 n4 n5 b u := (if_neg h).symm
theorem feB_y (h : u ≤ 200) (e5 : f5 = put4 f4 v4 n5) (e4 : f4 = put4 f3 v3 n4) (e3 : f3 = put4 f2 v2 n3) (e2 : f2 = put4 f1 v1 n2) (e1 : f1 = put4 b u n1) (w4 : v4 = u + 16) (w3 : v3 = u + 12) (w2 : v2 = u + 8) (w1 : v1 = u + 4) : f5 = feB n1 n2 n3 n4 n5 b u := by
  unfold feB
  rw [if_pos h]
  subst e5 e4 e3 e2 e1 w4 w3 w2 w1
  rfl
end FE
/-! a rivet is told, or lost -/
abbrev cellN (n1 n2 n3 : Int32) : Nat := 16 * n1.toNatClampNeg + 2 * n2.toNatClampNeg + n3.toNatClampNeg
theorem cellN_e {n1 n2 n3 : Int32} {f s d : Nat} (e1 : n1 = nI f) (e2 : n2 = nI s) (e3 : n3 = nI d) (h1 : f < 2 ^ 31) (h2 : s < 2 ^ 31) (h3 : d < 2 ^ 31) : cellN n1 n2 n3 = 16 * f + 2 * s + d := by
  subst e1 e2 e3
  unfold cellN
  rw [nI_clamp h1, nI_clamp h2, nI_clamp h3]
abbrev LOK (n1 n2 n3 n4 n5 : Int32) (n k : Nat) : Prop := RV n1 n2 n3 n k ∧ ((-3000 : Int32) ≤ n4 ∧ n4 ≤ 3000) ∧ ((-3000 : Int32) ≤ n5 ∧ n5 ≤ 3000)
def lieF (n1 n2 n3 n4 n5 : Int32) (n k : Nat) (x : T3) : T3 := if LOK n1 n2 n3 n4 n5 n k then (upd x.1 (cellN n1 n2 n3) n4, upd x.2.1 (cellN n1 n2 n3) n5, upd x.2.2 (cellN n1 n2 n3) (vp_nar .boolean 0)) else x
def lieT (n1 n2 n3 n4 n5 : Int32) (n k : Nat) (ch : Nat → Int32) : Nat → Int32 := if LOK n1 n2 n3 n4 n5 n k then upd ch n2.toNatClampNeg (ch n2.toNatClampNeg + 1) else ch
abbrev GNK (n1 n2 n3 : Int32) (n k : Nat) (G : Nat → Int32) : Prop := RV n1 n2 n3 n k ∧ G (cellN n1 n2 n3) = 0
def goF (n1 n2 n3 : Int32) (n k : Nat) (G : Nat → Int32) : Nat → Int32 := if GNK n1 n2 n3 n k G then upd G (cellN n1 n2 n3) (vp_nar .boolean 1) else G
def goT (n1 n2 n3 : Int32) (n k : Nat) (G ch : Nat → Int32) : Nat → Int32 := if GNK n1 n2 n3 n k G then upd ch n2.toNatClampNeg (ch n2.toNatClampNeg + 1) else ch
def goA (n1 n2 n3 : Int32) (n k : Nat) (G : Nat → Int32) : Int32 := bi (GNK n1 n2 n3 n k G)
section LG
variable {n1 n2 n3 n4 n5 x : Int32} {n k f s d i i1 i2 : Nat} {a b g a1 b1 g1 ch ch1 : Nat → Int32}
theorem lie_y (e1 : n1 = nI f) (e2 : n2 = nI s) (e3 : n3 = nI d) (h1 : f < n) (h2 : s < k) (h3 : d < 2) (hn : n ≤ 24) (hk : k ≤ 8) (c4 : (-3000 : Int32) ≤ n4 ∧ n4 ≤ 3000) (c5 : (-3000 : Int32) ≤ n5 ∧ n5 ≤ 3000) (q1 : a1 = upd a i n4) (q2 : b1 = upd b i1 n5) (q3 : g1 = upd g i2 (vp_nar .boolean 0)) (w : i = 16 * f + 2 * s + d) (w1 : i1 = 16 * f + 2 * s + d) (w2 : i2 = 16 * f + 2 * s + d) : ((a1, b1, g1) : T3) = lieF n1 n2 n3 n4 n5 n k (a, b, g) := by
  subst q1 q2 q3 w w1 w2
  unfold lieF
  rw [if_pos ⟨RV_e e1 e2 e3 h1 h2 h3 hn hk, c4, c5⟩, cellN_e e1 e2 e3 (by omega) (by omega) (by omega)]
theorem lieT_y (e1 : n1 = nI f) (e2 : n2 = nI s) (e3 : n3 = nI d) (h1 : f < n) (h2 : s < k) (h3 : d < 2) (hn : n ≤ 24) (hk : k ≤ 8) (c4 : (-3000 : Int32) ≤ n4 ∧ n4 ≤ 3000) (c5 : (-3000 : Int32) ≤ n5 ∧ n5 ≤ 3000) (q : ch1 = upd ch s (ch s + 1)) : ch1 = lieT n1 n2 n3 n4 n5 n k ch := by
  unfold lieT
  rw [if_pos ⟨RV_e e1 e2 e3 h1 h2 h3 hn hk, c4, c5⟩, show n2.toNatClampNeg = s by rw [e2, nI_clamp (by omega)]]
  exact q
theorem lie_1 {X : T3} (h : ¬ RV n1 n2 n3 n k) : X = lieF n1 n2 n3 n4 n5 n k X := (if_neg (fun w => h w.1)).symm
theorem lie_2 {X : T3} (h : ¬ ((-3000 : Int32) ≤ n4 ∧ n4 ≤ 3000)) : X = lieF n1 n2 n3 n4 n5 n k X := (if_neg (fun w => h w.2.1)).symm
theorem lie_3 {X : T3} (h : ¬ ((-3000 : Int32) ≤ n5 ∧ n5 ≤ 3000)) : X = lieF n1 n2 n3 n4 n5 n k X := (if_neg (fun w => h w.2.2)).symm
theorem lieT_1 (h : ¬ RV n1 n2 n3 n k) : ch = lieT n1 n2 n3 n4 n5 n k ch := (if_neg (fun w => h w.1)).symm
theorem lieT_2 (h : ¬ ((-3000 : Int32) ≤ n4 ∧ n4 ≤ 3000)) : ch = lieT n1 n2 n3 n4 n5 n k ch := (if_neg (fun w => h w.2.1)).symm
theorem lieT_3 (h : ¬ ((-3000 : Int32) ≤ n5 ∧ n5 ≤ 3000)) : ch = lieT n1 n2 n3 n4 n5 n k ch := (if_neg (fun w => h w.2.2)).symm
theorem goOK (e1 : n1 = nI f) (e2 : n2 = nI s) (e3 : n3 = nI d) (h1 : f < n) (h2 : s < k) (h3 : d < 2) (hn : n ≤ 24) (hk : k ≤ 8) (c : g i = 0) (w : i = 16 * f + 2 * s + d) : GNK n1 n2 n3 n k g := by
  subst w
  refine ⟨RV_e e1 e2 e3 h1 h2 h3 hn hk, ?_⟩
  rw [cellN_e e1 e2 e3 (by omega) (by omega) (by omega)]
  exact c
theorem goNO (e1 : n1 = nI f) (e2 : n2 = nI s) (e3 : n3 = nI d) (h1 : f < n) (h2 : s < k) (h3 : d < 2) (hn : n ≤ 24) (hk : k ≤ 8) (c : ¬ g i = 0) (w : i = 16 * f + 2 * s + d) : ¬ GNK n1 n2 n3 n k g := by
  intro q
  have z := q.2
  rw [cellN_e e1 e2 e3 (by omega) (by omega) (by omega), ← w] at z
  exact c z
theorem goF_y (h : GNK n1 n2 n3 n k g) (e1 : n1 = nI f) (e2 : n2 = nI s) (e3 : n3 = nI d) (h1 : f < 2 ^ 31) (h2 : s < 2 ^ 31) (h3 : d < 2 ^ 31) (q : g1 = upd g i (vp_nar .boolean 1)) (w : i = 16 * f + 2 * s + d) : g1 = goF n1 n2 n3 n k g := by
  subst q w
  unfold goF
  rw [if_pos h, cellN_e e1 e2 e3 h1 h2 h3]
theorem goT_y (h : GNK n1 n2 n3 n k g) (e2 : n2 = nI s) (h2 : s < 2 ^ 31) (q : ch1 = upd ch s (ch s + 1)) : ch1 = goT n1 n2 n3 n k g ch := by
  unfold goT
  rw [if_pos h, show n2.toNatClampNeg = s by rw [e2, nI_clamp h2]]
  exact q
theorem goF_n (h : ¬ GNK n1 n2 n3 n k g) : g = goF n1 n2 n3 n k g := (if_neg h).symm
theorem goT_n (h : ¬ GNK n1 n2 n3 n k g) : ch = goT n1 n2 n3 n k g ch := (if_neg h).symm
theorem goA_y (h : GNK n1 n2 n3 n k g) : 1 = goA n1 n2 n3 n k g := (if_pos h).symm
theorem goA_n (h : ¬ GNK n1 n2 n3 n k g) : 0 = goA n1 n2 n3 n k g := (if_neg h).symm
theorem goRV (h : ¬ RV n1 n2 n3 n k) : ¬ GNK n1 n2 n3 n k g := fun w => h w.1
end LG
/-! the seed, the mounds, how many are left -/
def seF (n x : Int32) : Int32 := if (0 : Int32) ≤ n ∧ n ≤ 65535 then n else x
theorem seF_y {n x r : Int32} (h : (0 : Int32) ≤ n ∧ n ≤ 65535) (e : r = n) : r = seF n x := e.trans (if_pos h).symm
theorem seF_n {n x : Int32} (h : ¬ ((0 : Int32) ≤ n ∧ n ≤ 65535)) : x = seF n x := (if_neg h).symm
abbrev MOK (n m : Int32) : Prop := ((0 : Int32) ≤ n ∧ n ≤ 23) ∧ ((0 : Int32) ≤ m ∧ m ≤ 1000)
def mdF (n m : Int32) (g : Nat → Int32) : Nat → Int32 := if MOK n m then upd g n.toNatClampNeg m else g
theorem mdF_y {n m v : Int32} {f : Nat} {g g1 : Nat → Int32} (h : (0 : Int32) ≤ n ∧ n ≤ 23) (h2 : (0 : Int32) ≤ m ∧ m ≤ 1000) (e : n = nI f) (hf : f ≤ 23) (q : g1 = upd g f v) (ev : v = m) : g1 = mdF n m g := by
  subst ev
  unfold mdF
  rw [if_pos ⟨h, h2⟩, e, nI_clamp (by omega)]
  exact q
theorem mdF_1 {n m : Int32} {g : Nat → Int32} (h : ¬ ((0 : Int32) ≤ n ∧ n ≤ 23)) : g = mdF n m g := (if_neg (fun w => h w.1)).symm
theorem mdF_2 {n m : Int32} {g : Nat → Int32} (h : ¬ ((0 : Int32) ≤ m ∧ m ≤ 1000)) : g = mdF n m g := (if_neg (fun w => h w.2)).symm
/-- one if not gone -/
def lo1 (G : Nat → Int32) (i : Nat) : Int32 := if G i = 0 then 1 else 0
def lf3 (G : Nat → Int32) (f s : Nat) (x : Int32) : Nat → Int32
  | 0 => x
  | j + 1 => lf3 G f s x j + lo1 G (16 * f + 2 * s + j)
def lf2 (G : Nat → Int32) (f : Nat) (x : Int32) : Nat → Int32
  | 0 => x
  | j + 1 => lf3 G f j (lf2 G f x j) 2
def lf1 (G : Nat → Int32) (k : Nat) : Nat → Int32
  | 0 => 0
  | j + 1 => lf2 G j (lf1 G k j) k
section LF
variable {G : Nat → Int32} {f s j k n i i1 : Nat} {x w v y z u : Int32}
theorem lf_s3 (h : w = lf3 G f s x j) (e : v = w + 1) (c : G i = 0) (hi : i = 16 * f + 2 * s + j) : v = lf3 G f s x (j + 1) := by
  subst hi
  show v = lf3 G f s x j + lo1 G (16 * f + 2 * s + j)
  rw [e, h]
  unfold lo1
  rw [if_pos c]
theorem lf_n3 (h : w = lf3 G f s x j) (e : v = w + 0) (c : ¬ G i = 0) (hi : i = 16 * f + 2 * s + j) : v = lf3 G f s x (j + 1) := by
  subst hi
  show v = lf3 G f s x j + lo1 G (16 * f + 2 * s + j)
  rw [e, h]
  unfold lo1
  rw [if_neg c]
theorem lf_s2 (h : w = lf3 G f s (lf2 G f x s) j) (e : j = 2) : w = lf2 G f x (s + 1) := by
  subst e
  exact h
theorem lf_s1 (h : w = lf2 G f (lf1 G k f) j) (e : j = k) : w = lf1 G k (f + 1) := by
  subst e
  exact h
theorem lf_e (h : w = lf1 G k j) (e : j = n) : w = lf1 G k n := by
  subst e
  exact h
theorem lf_11 (h : w = lf2 G f x s) (e : u = w + 2) (c0 : G (16 * f + 2 * s + 0) = 0) (c1 : G (16 * f + 2 * s + 1) = 0) : u = lf2 G f x (s + 1) := by
  show u = (lf2 G f x s + lo1 G (16 * f + 2 * s + 0)) + lo1 G (16 * f + 2 * s + 1)
  unfold lo1
  rw [if_pos c0, if_pos c1, Int32.add_assoc, ← h, e]
  rfl
theorem lf_10 (h : w = lf2 G f x s) (e : u = w + 1) (c0 : G (16 * f + 2 * s + 0) = 0) (c1 : ¬ G (16 * f + 2 * s + 1) = 0) : u = lf2 G f x (s + 1) := by
  show u = (lf2 G f x s + lo1 G (16 * f + 2 * s + 0)) + lo1 G (16 * f + 2 * s + 1)
  unfold lo1
  rw [if_pos c0, if_neg c1, Int32.add_assoc, ← h, e]
  rfl
theorem lf_01 (h : w = lf2 G f x s) (e : u = w + 1) (c0 : ¬ G (16 * f + 2 * s + 0) = 0) (c1 : G (16 * f + 2 * s + 1) = 0) : u = lf2 G f x (s + 1) := by
  show u = (lf2 G f x s + lo1 G (16 * f + 2 * s + 0)) + lo1 G (16 * f + 2 * s + 1)
  unfold lo1
  rw [if_neg c0, if_pos c1, Int32.add_assoc, ← h, e]
  rfl
theorem lf_00 (h : w = lf2 G f x s) (e : u = w + 0) (c0 : ¬ G (16 * f + 2 * s + 0) = 0) (c1 : ¬ G (16 * f + 2 * s + 1) = 0) : u = lf2 G f x (s + 1) := by
  show u = (lf2 G f x s + lo1 G (16 * f + 2 * s + 0)) + lo1 G (16 * f + 2 * s + 1)
  unfold lo1
  rw [if_neg c0, if_neg c1, Int32.add_assoc, ← h, e]
  rfl
end LF
/-! drawings: drawn -/
abbrev D4T := (Nat → Int32) × (Nat → Int32) × (Nat → Int32) × Int32
/-- A, B, G: where the rivets lie and which are gone; c: cut away; q: the drawing; y, z, t: shift and thousandths -/
def drS (A B G : Nat → Int32) (c : Int32) (q : Nat) (y z t : Int32) (f s d : Nat) (x : D4T) : D4T :=
  if vsP G c s f d then (upd x.1 (384 * q + (16 * f + 2 * s + d)) (A (16 * f + 2 * s + d) + y + (if lkM (dwM x.2.2.2) < t then 50 else 0)), upd x.2.1 (384 * q + (16 * f + 2 * s + d)) (B (16 * f + 2 * s + d) + z), upd x.2.2.1 (384 * q + (16 * f + 2 * s + d)) (vp_nar .boolean 1), dwM x.2.2.2) else x
section DRd
variable (A B G : Nat → Int32) (c : Int32) (q : Nat) (y z t : Int32)
def dr3 (f s : Nat) (x : D4T) : Nat → D4T
  | 0 => x
  | j + 1 => drS A B G c q y z t f s j (dr3 f s x j)
def dr2 (f : Nat) (x : D4T) : Nat → D4T
  | 0 => x
  | j + 1 => dr3 A B G c q y z t f j (dr2 f x j) 2
def dr1 (k : Nat) (x : D4T) : Nat → D4T
  | 0 => x
  | j + 1 => dr2 A B G c q y z t j (dr1 k x j) k
end DRd
section DRt
variable {A B G a b g a1 b1 g1 : Nat → Int32} {c c1 y z t x v u w m l r : Int32} {q f s d j i i1 i2 k n p : Nat} {X : D4T}
theorem dr_y (hv : vsP G c s f d) (ec : c1 = dwM m) (e0 : a1 = upd a i u) (e1 : b1 = upd b i1 w) (e2 : g1 = upd g i2 (vp_nar .boolean 1)) (hi : i = 384 * q + (16 * f + 2 * s + d)) (hi1 : i1 = 384 * q + (16 * f + 2 * s + d)) (hi2 : i2 = 384 * q + (16 * f + 2 * s + d)) (eu : u = A (16 * f + 2 * s + d) + y + (if lkM c1 < t then 50 else 0)) (ew : w = B (16 * f + 2 * s + d) + z) : ((a1, b1, g1, c1) : D4T) = drS A B G c q y z t f s d (a, b, g, m) := by
  subst ec hi hi1 hi2 e0 e1 e2 eu ew
  unfold drS
  rw [if_pos hv]
theorem vs_x (h : G i = 0 ∧ ¬ CT c f) (hi : i = 16 * f + 2 * s + d) : vsP G c s f d := by subst hi; exact h
theorem vs_nx (h : ¬ (G i = 0 ∧ ¬ CT c f)) (hi : i = 16 * f + 2 * s + d) : ¬ vsP G c s f d := by subst hi; exact h
theorem dr_n (hv : ¬ vsP G c s f d) : ((a, b, g, m) : D4T) = drS A B G c q y z t f s d (a, b, g, m) := by
  unfold drS
  rw [if_neg hv]
theorem dr_u (e : u = v + x) (ev : v = l + y) (el : l = r) (ex : x = if w < t then 50 else 0) : u = r + y + (if w < t then 50 else 0) := by rw [e, ev, el, ex]
theorem sl_50 (h : w < t) : (50 : Int32) = if w < t then 50 else 0 := (if_pos h).symm
theorem sl_0 (h : ¬ w < t) : (0 : Int32) = if w < t then 50 else 0 := (if_neg h).symm
theorem dr_s3 (h : ((a, b, g, m) : D4T) = dr3 A B G c q y z t f s X j) (e : ((a1, b1, g1, c1) : D4T) = drS A B G c q y z t f s j (a, b, g, m)) : ((a1, b1, g1, c1) : D4T) = dr3 A B G c q y z t f s X (j + 1) := by
  show _ = drS A B G c q y z t f s j (dr3 A B G c q y z t f s X j)
  rw [← h]
  exact e
theorem dr_s2 (h : ((a, b, g, m) : D4T) = dr3 A B G c q y z t f s (dr2 A B G c q y z t f X s) j) (e : j = 2) : ((a, b, g, m) : D4T) = dr2 A B G c q y z t f X (s + 1) := by
  subst e
  exact h
theorem dr_s1 (h : ((a, b, g, m) : D4T) = dr2 A B G c q y z t f (dr1 A B G c q y z t k X f) j) (e : j = k) : ((a, b, g, m) : D4T) = dr1 A B G c q y z t k X (f + 1) := by
  subst e
  exact h
theorem dr_e (h : ((a, b, g, m) : D4T) = dr1 A B G c q y z t k X j) (e : j = n) : ((a, b, g, m) : D4T) = dr1 A B G c q y z t k X n := by
  subst e
  exact h
end DRt
/-- what draw makes of marks and chance -/
abbrev DRK (n1 n2 n3 n4 : Int32) (dm : Nat) : Prop := ((0 : Int32) ≤ n1 ∧ n1 ≤ nI dm - 1) ∧ ((-2000 : Int32) ≤ n2 ∧ n2 ≤ 2000) ∧ ((-2000 : Int32) ≤ n3 ∧ n3 ≤ 2000) ∧ ((0 : Int32) ≤ n4 ∧ n4 ≤ 1000)
def drF (A B G : Nat → Int32) (c : Int32) (n k dm : Nat) (n1 n2 n3 n4 : Int32) (x : D4T) : D4T := if DRK n1 n2 n3 n4 dm then dr1 A B G c n1.toNatClampNeg n2 n3 n4 k x n else x
theorem drF_y {A B G : Nat → Int32} {c n1 n2 n3 n4 v : Int32} {n k dm q : Nat} {x y : D4T} (h1 : (0 : Int32) ≤ n1 ∧ n1 ≤ nI dm - 1) (h2 : (-2000 : Int32) ≤ n2 ∧ n2 ≤ 2000) (h3 : (-2000 : Int32) ≤ n3 ∧ n3 ≤ 2000) (h4 : (0 : Int32) ≤ n4 ∧ n4 ≤ 1000) (e : n1 = nI q) (e4 : n4 = v) (hq : q < 2 ^ 31) (h : y = dr1 A B G c q n2 n3 v k x n) : y = drF A B G c n k dm n1 n2 n3 n4 x := by
  subst e4
  unfold drF
  rw [if_pos ⟨h1, h2, h3, h4⟩, e, nI_clamp hq]
  exact h
theorem drF_1 {A B G : Nat → Int32} {c n1 n2 n3 n4 : Int32} {n k dm : Nat} {x : D4T} (h : ¬ ((0 : Int32) ≤ n1 ∧ n1 ≤ nI dm - 1)) : x = drF A B G c n k dm n1 n2 n3 n4 x := (if_neg (fun w => h w.1)).symm
theorem drF_2 {A B G : Nat → Int32} {c n1 n2 n3 n4 : Int32} {n k dm : Nat} {x : D4T} (h : ¬ ((-2000 : Int32) ≤ n2 ∧ n2 ≤ 2000)) : x = drF A B G c n k dm n1 n2 n3 n4 x := (if_neg (fun w => h w.2.1)).symm
theorem drF_3 {A B G : Nat → Int32} {c n1 n2 n3 n4 : Int32} {n k dm : Nat} {x : D4T} (h : ¬ ((-2000 : Int32) ≤ n3 ∧ n3 ≤ 2000)) : x = drF A B G c n k dm n1 n2 n3 n4 x := (if_neg (fun w => h w.2.2.1)).symm
theorem drF_4 {A B G : Nat → Int32} {c n1 n2 n3 n4 : Int32} {n k dm : Nat} {x : D4T} (h : ¬ ((0 : Int32) ≤ n4 ∧ n4 ≤ 1000)) : x = drF A B G c n k dm n1 n2 n3 n4 x := (if_neg (fun w => h w.2.2.2)).symm
theorem ro_y {u : Nat} (hu : u ≤ 220) (h : (20 : Int32) ≤ 220 - nI u) : u ≤ 200 := by
  have h1 := Int32.le_iff_toInt_le.mp h
  rw [i32_sub (by rw [nI_toInt (by omega)]; have : (220 : Int32).toInt = 220 := by decide
                  omega) (by rw [nI_toInt (by omega)]; have : (220 : Int32).toInt = 220 := by decide
                             omega), nI_toInt (by omega)] at h1
  have e1 : (220 : Int32).toInt = 220 := by decide
  have e2 : (20 : Int32).toInt = 20 := by decide
  omega
theorem ro_n {u : Nat} (hu : u ≤ 220) (h : ¬ (20 : Int32) ≤ 220 - nI u) : ¬ u ≤ 200 := by
  intro q
  apply h
  rw [Int32.le_iff_toInt_le, i32_sub (by rw [nI_toInt (by omega)]; have : (220 : Int32).toInt = 220 := by decide
                                         omega) (by rw [nI_toInt (by omega)]; have : (220 : Int32).toInt = 220 := by decide
                                                    omega), nI_toInt (by omega)]
  have e1 : (220 : Int32).toInt = 220 := by decide
  have e2 : (20 : Int32).toInt = 20 := by decide
  omega
theorem dr_v {A : Nat → Int32} {u v e y r : Int32} {i k : Nat} (e1 : u = v + e) (e2 : v = A i + y) (hi : i = k) (e3 : e = r) : u = A k + y + r := by
  subst hi
  rw [e1, e2, e3]
theorem dr_w {B : Nat → Int32} {u z : Int32} {i k : Nat} (e1 : u = B i + z) (hi : i = k) : u = B k + z := by
  subst hi
  exact e1
theorem dr_l {r t c m : Int32} (h : ¬ t ≤ r) (e : r = lkM (dwM m)) (e2 : c = dwM m) : lkM c < t := by rw [e2, ← e]; exact Int32.not_le.mp h
theorem dr_m {r t c m : Int32} (h : t ≤ r) (e : r = lkM (dwM m)) (e2 : c = dwM m) : ¬ lkM c < t := by rw [e2, ← e]; exact Int32.not_lt.mpr h
theorem lf_X8_hasRoom_t_3 (a : Nat → Nat) (tu : Nat) (tb : Nat → Int32) (n1 : Int32) (htu : tu ≤ 220) (x_1 : Int32) (ex_1 : x_1 = 220 - nI tu) (c_2 : x_1 < n1) : ((0 : Int32) = 1 ∧ n1 ≤ 220 - nI tu) ∨ ((0 : Int32) = 0 ∧ ¬ n1 ≤ 220 - nI tu) := by
  subst_vars
  first | exact Or.inl ⟨rfl, Int32.not_lt.mp (by assumption)⟩ | exact Or.inr ⟨rfl, Int32.not_le.mpr (by assumption)⟩
theorem lf_X8_hasRoom_t_4 (a : Nat → Nat) (tu : Nat) (tb : Nat → Int32) (n1 : Int32) (htu : tu ≤ 220) (x_1 : Int32) (ex_1 : x_1 = 220 - nI tu) (c_2 : ¬ x_1 < n1) : ((1 : Int32) = 1 ∧ n1 ≤ 220 - nI tu) ∨ ((1 : Int32) = 0 ∧ ¬ n1 ≤ 220 - nI tu) := by
  subst_vars
  first | exact Or.inl ⟨rfl, Int32.not_lt.mp (by assumption)⟩ | exact Or.inr ⟨rfl, Int32.not_le.mpr (by assumption)⟩
set_option maxHeartbeats 4000000 in
set_option maxRecDepth 100000 in
theorem c_X8_hasRoom_t (l : Launch) (D : va_G) (cI cB cZ cJ : ClassId) (tx : List (ClassId × FieldType)) (a : Nat → Nat) (tu : Nat) (tb : Nat → Int32) (n1 : Int32) (htu : tu ≤ 220) : RdI l D cI cB cZ cJ tx yX8_hasRoom cX8_hasRoom 2 (some .boolean) 0 [.ref (a 1), .int n1] [(a 1, .inr (8, [.ref (a 17), .int (nI tu)])), (a 17, .inl (cB, 220, .inl tb))] (fun r => (r = 1 ∧ n1 ≤ 220 - nI tu) ∨ (r = 0 ∧ ¬ n1 ≤ 220 - nI tu)) := by
  refine rdi_of2 (by decide) (Nat.le_of_ble_eq_true rfl) ?_
  intro p e s m below meth c A ls H locs hC hK hP hD hA hS hl
  obtain ⟨hx, hb, hr, hml, hown, hts, hlocks, hin⟩ := hC
  have hown : s.vm.findClass RX8 = some m.cls := hown
  have hl : lv_has ls 2 [(0, .ref (a 1)), (1, .int n1)] := hl
  refine W_gQ (fun Q hQ => ?_)
  refine lv_iload_n hx hb dX8_hasRoom_0 rfl (lv_at hl 1 rfl) ?_
  refine lv_aload_n hx hb dX8_hasRoom_1 rfl (lv_at hl 0 rfl) ?_
  refine va_get (D := D) (ci := 8) (v := .ref (a 17)) (C := RX8) (T := TX8) (N := 2) hx hb hts inT_X8 hown hK.1 hP 0 rfl rfl 0 (by decide) (hts _ k_150) (fun _ h9 => h9) rfl dX8_hasRoom_2 ?_
  refine ln_x (v := 220) hx hb hK hP 1 1 rfl rfl (show Int32.ofNat 220 = 220 from by decide) dX8_hasRoom_5 ?_
  refine lv_aload_n hx hb dX8_hasRoom_6 rfl (lv_at hl 0 rfl) ?_
  refine va_get (D := D) (ci := 8) (v := .int (nI tu)) (C := RX8) (T := TX8) (N := 2) hx hb hts inT_X8 hown hK.1 hP 0 rfl rfl 1 (by decide) (hts _ k_151) (fun _ h9 => h9) rfl dX8_hasRoom_7 ?_
  refine lv_isub hx hb dX8_hasRoom_10 ?_
  refine lv_topi (fun x_1 ex_1 => ?_)
  refine lv_icmp_gt (tgt := 18) hx hb dX8_hasRoom_11 (by decide) (fun c_2 => ?_) (fun c_2 => ?_)
  · refine lv_iconst (v := 0) hx hb dX8_hasRoom_18 (by decide) ?_
    rw [hQ]
    exact W.zret (v := 0) hx hb hr (by decide) (fun tt9 ht hW => ⟨⟨(0 : Int32), (), rfl, (lf_X8_hasRoom_t_3 a tu tb n1 htu x_1 ex_1 c_2), trivial⟩, hS.F ht⟩) hS.2.2 dX8_hasRoom_19 hlocks
  · refine lv_iconst (v := 1) hx hb dX8_hasRoom_14 (by decide) ?_
    refine lv_goto (tgt := 19) hx hb dX8_hasRoom_15 (by decide) ?_
    rw [hQ]
    exact W.zret (v := 1) hx hb hr (by decide) (fun tt9 ht hW => ⟨⟨(1 : Int32), (), rfl, (lf_X8_hasRoom_t_4 a tu tb n1 htu x_1 ex_1 c_2), trivial⟩, hS.F ht⟩) hS.2.2 dX8_hasRoom_19 hlocks

theorem lf_X8_put_t_3 (a : Nat → Nat) (tu : Nat) (tb : Nat → Int32) (n1 : Int32) (htu : tu + 4 ≤ 220) (c_1 : 220 ≤ nI tu) : 220 ≤ tu := by
  exact (nI_leI (a := 220) (b := tu) (by omega) (by omega)).mp c_1
theorem lf_X8_put_t_4 (a : Nat → Nat) (tu : Nat) (tb : Nat → Int32) (n1 : Int32) (htu : tu + 4 ≤ 220) (c_1 : 220 ≤ nI tu) (n_2 : 220 ≤ tu) : ((tu : Nat) = tu + 4) ∧ ((tb : Nat → Int32) = put4 tb tu n1) := by
  first | (refine ⟨by omega, ?_⟩; exact pt4 (by assumption) (by assumption) (by assumption) (by assumption) (bu_0 (by assumption) (by assumption)) (bu_8 (by assumption) (by assumption)) (bu_16 (by assumption) (by assumption)) (bu_24 (by assumption) (by assumption))) | (exfalso; omega)
theorem lf_X8_put_t_6 (a : Nat → Nat) (tu : Nat) (tb : Nat → Int32) (n1 : Int32) (htu : tu + 4 ≤ 220) (c_1 : ¬ 220 ≤ nI tu) : tu < 220 := by
  exact Nat.lt_of_not_le (fun q => c_1 ((nI_leI (a := 220) (b := tu) (by omega) (by omega)).mpr q))
theorem lf_X8_put_t_10 (a : Nat → Nat) (tu : Nat) (tb : Nat → Int32) (n1 : Int32) (htu : tu + 4 ≤ 220) (c_1 : ¬ 220 ≤ nI tu) (n_5 : tu < 220) (x_7 : Int32) (ex_7 : x_7 = (n1.toUInt32 >>> ((24 : Int32).toUInt32 &&& Int32.toUInt32 31)).toInt32) (x_8 : Int32) (ex_8 : x_8 = (x_7).toInt8.toInt32) : tu < 220 := by
  omega
theorem lf_X8_put_t_13 (a : Nat → Nat) (tu : Nat) (tb : Nat → Int32) (n1 : Int32) (htu : tu + 4 ≤ 220) (c_1 : ¬ 220 ≤ nI tu) (n_5 : tu < 220) (x_7 : Int32) (ex_7 : x_7 = (n1.toUInt32 >>> ((24 : Int32).toUInt32 &&& Int32.toUInt32 31)).toInt32) (x_8 : Int32) (ex_8 : x_8 = (x_7).toInt8.toInt32) (f_9 : Nat → Int32) (ef_9 : f_9 = upd tb tu (vp_nar .byte x_8)) (c_11 : 220 ≤ nI (tu + 1)) : 220 ≤ (tu + 1) := by
  exact (nI_leI (a := 220) (b := (tu + 1)) (by omega) (by omega)).mp c_11
theorem lf_X8_put_t_14 (a : Nat → Nat) (tu : Nat) (tb : Nat → Int32) (n1 : Int32) (htu : tu + 4 ≤ 220) (c_1 : ¬ 220 ≤ nI tu) (n_5 : tu < 220) (x_7 : Int32) (ex_7 : x_7 = (n1.toUInt32 >>> ((24 : Int32).toUInt32 &&& Int32.toUInt32 31)).toInt32) (x_8 : Int32) (ex_8 : x_8 = (x_7).toInt8.toInt32) (f_9 : Nat → Int32) (ef_9 : f_9 = upd tb tu (vp_nar .byte x_8)) (c_11 : 220 ≤ nI (tu + 1)) (n_12 : 220 ≤ (tu + 1)) : (((tu + 1) : Nat) = tu + 4) ∧ ((f_9 : Nat → Int32) = put4 tb tu n1) := by
  first | (refine ⟨by omega, ?_⟩; exact pt4 (by assumption) (by assumption) (by assumption) (by assumption) (bu_0 (by assumption) (by assumption)) (bu_8 (by assumption) (by assumption)) (bu_16 (by assumption) (by assumption)) (bu_24 (by assumption) (by assumption))) | (exfalso; omega)
theorem lf_X8_put_t_16 (a : Nat → Nat) (tu : Nat) (tb : Nat → Int32) (n1 : Int32) (htu : tu + 4 ≤ 220) (c_1 : ¬ 220 ≤ nI tu) (n_5 : tu < 220) (x_7 : Int32) (ex_7 : x_7 = (n1.toUInt32 >>> ((24 : Int32).toUInt32 &&& Int32.toUInt32 31)).toInt32) (x_8 : Int32) (ex_8 : x_8 = (x_7).toInt8.toInt32) (f_9 : Nat → Int32) (ef_9 : f_9 = upd tb tu (vp_nar .byte x_8)) (c_11 : ¬ 220 ≤ nI (tu + 1)) : (tu + 1) < 220 := by
  exact Nat.lt_of_not_le (fun q => c_11 ((nI_leI (a := 220) (b := (tu + 1)) (by omega) (by omega)).mpr q))
theorem lf_X8_put_t_20 (a : Nat → Nat) (tu : Nat) (tb : Nat → Int32) (n1 : Int32) (htu : tu + 4 ≤ 220) (c_1 : ¬ 220 ≤ nI tu) (n_5 : tu < 220) (x_7 : Int32) (ex_7 : x_7 = (n1.toUInt32 >>> ((24 : Int32).toUInt32 &&& Int32.toUInt32 31)).toInt32) (x_8 : Int32) (ex_8 : x_8 = (x_7).toInt8.toInt32) (f_9 : Nat → Int32) (ef_9 : f_9 = upd tb tu (vp_nar .byte x_8)) (c_11 : ¬ 220 ≤ nI (tu + 1)) (n_15 : (tu + 1) < 220) (x_17 : Int32) (ex_17 : x_17 = (n1.toUInt32 >>> ((16 : Int32).toUInt32 &&& Int32.toUInt32 31)).toInt32) (x_18 : Int32) (ex_18 : x_18 = (x_17).toInt8.toInt32) : (tu + 1) < 220 := by
  omega
theorem lf_X8_put_t_23 (a : Nat → Nat) (tu : Nat) (tb : Nat → Int32) (n1 : Int32) (htu : tu + 4 ≤ 220) (c_1 : ¬ 220 ≤ nI tu) (n_5 : tu < 220) (x_7 : Int32) (ex_7 : x_7 = (n1.toUInt32 >>> ((24 : Int32).toUInt32 &&& Int32.toUInt32 31)).toInt32) (x_8 : Int32) (ex_8 : x_8 = (x_7).toInt8.toInt32) (f_9 : Nat → Int32) (ef_9 : f_9 = upd tb tu (vp_nar .byte x_8)) (c_11 : ¬ 220 ≤ nI (tu + 1)) (n_15 : (tu + 1) < 220) (x_17 : Int32) (ex_17 : x_17 = (n1.toUInt32 >>> ((16 : Int32).toUInt32 &&& Int32.toUInt32 31)).toInt32) (x_18 : Int32) (ex_18 : x_18 = (x_17).toInt8.toInt32) (f_19 : Nat → Int32) (ef_19 : f_19 = upd f_9 (tu + 1) (vp_nar .byte x_18)) (c_21 : 220 ≤ nI ((tu + 1) + 1)) : 220 ≤ ((tu + 1) + 1) := by
  exact (nI_leI (a := 220) (b := ((tu + 1) + 1)) (by omega) (by omega)).mp c_21
theorem lf_X8_put_t_24 (a : Nat → Nat) (tu : Nat) (tb : Nat → Int32) (n1 : Int32) (htu : tu + 4 ≤ 220) (c_1 : ¬ 220 ≤ nI tu) (n_5 : tu < 220) (x_7 : Int32) (ex_7 : x_7 = (n1.toUInt32 >>> ((24 : Int32).toUInt32 &&& Int32.toUInt32 31)).toInt32) (x_8 : Int32) (ex_8 : x_8 = (x_7).toInt8.toInt32) (f_9 : Nat → Int32) (ef_9 : f_9 = upd tb tu (vp_nar .byte x_8)) (c_11 : ¬ 220 ≤ nI (tu + 1)) (n_15 : (tu + 1) < 220) (x_17 : Int32) (ex_17 : x_17 = (n1.toUInt32 >>> ((16 : Int32).toUInt32 &&& Int32.toUInt32 31)).toInt32) (x_18 : Int32) (ex_18 : x_18 = (x_17).toInt8.toInt32) (f_19 : Nat → Int32) (ef_19 : f_19 = upd f_9 (tu + 1) (vp_nar .byte x_18)) (c_21 : 220 ≤ nI ((tu + 1) + 1)) (n_22 : 220 ≤ ((tu + 1) + 1)) : ((((tu + 1) + 1) : Nat) = tu + 4) ∧ ((f_19 : Nat → Int32) = put4 tb tu n1) := by
  first | (refine ⟨by omega, ?_⟩; exact pt4 (by assumption) (by assumption) (by assumption) (by assumption) (bu_0 (by assumption) (by assumption)) (bu_8 (by assumption) (by assumption)) (bu_16 (by assumption) (by assumption)) (bu_24 (by assumption) (by assumption))) | (exfalso; omega)
theorem lf_X8_put_t_26 (a : Nat → Nat) (tu : Nat) (tb : Nat → Int32) (n1 : Int32) (htu : tu + 4 ≤ 220) (c_1 : ¬ 220 ≤ nI tu) (n_5 : tu < 220) (x_7 : Int32) (ex_7 : x_7 = (n1.toUInt32 >>> ((24 : Int32).toUInt32 &&& Int32.toUInt32 31)).toInt32) (x_8 : Int32) (ex_8 : x_8 = (x_7).toInt8.toInt32) (f_9 : Nat → Int32) (ef_9 : f_9 = upd tb tu (vp_nar .byte x_8)) (c_11 : ¬ 220 ≤ nI (tu + 1)) (n_15 : (tu + 1) < 220) (x_17 : Int32) (ex_17 : x_17 = (n1.toUInt32 >>> ((16 : Int32).toUInt32 &&& Int32.toUInt32 31)).toInt32) (x_18 : Int32) (ex_18 : x_18 = (x_17).toInt8.toInt32) (f_19 : Nat → Int32) (ef_19 : f_19 = upd f_9 (tu + 1) (vp_nar .byte x_18)) (c_21 : ¬ 220 ≤ nI ((tu + 1) + 1)) : ((tu + 1) + 1) < 220 := by
  exact Nat.lt_of_not_le (fun q => c_21 ((nI_leI (a := 220) (b := ((tu + 1) + 1)) (by omega) (by omega)).mpr q))
theorem lf_X8_put_t_30 (a : Nat → Nat) (tu : Nat) (tb : Nat → Int32) (n1 : Int32) (htu : tu + 4 ≤ 220) (c_1 : ¬ 220 ≤ nI tu) (n_5 : tu < 220) (x_7 : Int32) (ex_7 : x_7 = (n1.toUInt32 >>> ((24 : Int32).toUInt32 &&& Int32.toUInt32 31)).toInt32) (x_8 : Int32) (ex_8 : x_8 = (x_7).toInt8.toInt32) (f_9 : Nat → Int32) (ef_9 : f_9 = upd tb tu (vp_nar .byte x_8)) (c_11 : ¬ 220 ≤ nI (tu + 1)) (n_15 : (tu + 1) < 220) (x_17 : Int32) (ex_17 : x_17 = (n1.toUInt32 >>> ((16 : Int32).toUInt32 &&& Int32.toUInt32 31)).toInt32) (x_18 : Int32) (ex_18 : x_18 = (x_17).toInt8.toInt32) (f_19 : Nat → Int32) (ef_19 : f_19 = upd f_9 (tu + 1) (vp_nar .byte x_18)) (c_21 : ¬ 220 ≤ nI ((tu + 1) + 1)) (n_25 : ((tu + 1) + 1) < 220) (x_27 : Int32) (ex_27 : x_27 = (n1.toUInt32 >>> ((8 : Int32).toUInt32 &&& Int32.toUInt32 31)).toInt32) (x_28 : Int32) (ex_28 : x_28 = (x_27).toInt8.toInt32) : ((tu + 1) + 1) < 220 := by
  omega
theorem lf_X8_put_t_33 (a : Nat → Nat) (tu : Nat) (tb : Nat → Int32) (n1 : Int32) (htu : tu + 4 ≤ 220) (c_1 : ¬ 220 ≤ nI tu) (n_5 : tu < 220) (x_7 : Int32) (ex_7 : x_7 = (n1.toUInt32 >>> ((24 : Int32).toUInt32 &&& Int32.toUInt32 31)).toInt32) (x_8 : Int32) (ex_8 : x_8 = (x_7).toInt8.toInt32) (f_9 : Nat → Int32) (ef_9 : f_9 = upd tb tu (vp_nar .byte x_8)) (c_11 : ¬ 220 ≤ nI (tu + 1)) (n_15 : (tu + 1) < 220) (x_17 : Int32) (ex_17 : x_17 = (n1.toUInt32 >>> ((16 : Int32).toUInt32 &&& Int32.toUInt32 31)).toInt32) (x_18 : Int32) (ex_18 : x_18 = (x_17).toInt8.toInt32) (f_19 : Nat → Int32) (ef_19 : f_19 = upd f_9 (tu + 1) (vp_nar .byte x_18)) (c_21 : ¬ 220 ≤ nI ((tu + 1) + 1)) (n_25 : ((tu + 1) + 1) < 220) (x_27 : Int32) (ex_27 : x_27 = (n1.toUInt32 >>> ((8 : Int32).toUInt32 &&& Int32.toUInt32 31)).toInt32) (x_28 : Int32) (ex_28 : x_28 = (x_27).toInt8.toInt32) (f_29 : Nat → Int32) (ef_29 : f_29 = upd f_19 ((tu + 1) + 1) (vp_nar .byte x_28)) (c_31 : 220 ≤ nI (((tu + 1) + 1) + 1)) : 220 ≤ (((tu + 1) + 1) + 1) := by
  exact (nI_leI (a := 220) (b := (((tu + 1) + 1) + 1)) (by omega) (by omega)).mp c_31
theorem lf_X8_put_t_34 (a : Nat → Nat) (tu : Nat) (tb : Nat → Int32) (n1 : Int32) (htu : tu + 4 ≤ 220) (c_1 : ¬ 220 ≤ nI tu) (n_5 : tu < 220) (x_7 : Int32) (ex_7 : x_7 = (n1.toUInt32 >>> ((24 : Int32).toUInt32 &&& Int32.toUInt32 31)).toInt32) (x_8 : Int32) (ex_8 : x_8 = (x_7).toInt8.toInt32) (f_9 : Nat → Int32) (ef_9 : f_9 = upd tb tu (vp_nar .byte x_8)) (c_11 : ¬ 220 ≤ nI (tu + 1)) (n_15 : (tu + 1) < 220) (x_17 : Int32) (ex_17 : x_17 = (n1.toUInt32 >>> ((16 : Int32).toUInt32 &&& Int32.toUInt32 31)).toInt32) (x_18 : Int32) (ex_18 : x_18 = (x_17).toInt8.toInt32) (f_19 : Nat → Int32) (ef_19 : f_19 = upd f_9 (tu + 1) (vp_nar .byte x_18)) (c_21 : ¬ 220 ≤ nI ((tu + 1) + 1)) (n_25 : ((tu + 1) + 1) < 220) (x_27 : Int32) (ex_27 : x_27 = (n1.toUInt32 >>> ((8 : Int32).toUInt32 &&& Int32.toUInt32 31)).toInt32) (x_28 : Int32) (ex_28 : x_28 = (x_27).toInt8.toInt32) (f_29 : Nat → Int32) (ef_29 : f_29 = upd f_19 ((tu + 1) + 1) (vp_nar .byte x_28)) (c_31 : 220 ≤ nI (((tu + 1) + 1) + 1)) (n_32 : 220 ≤ (((tu + 1) + 1) + 1)) : (((((tu + 1) + 1) + 1) : Nat) = tu + 4) ∧ ((f_29 : Nat → Int32) = put4 tb tu n1) := by
  first | (refine ⟨by omega, ?_⟩; exact pt4 (by assumption) (by assumption) (by assumption) (by assumption) (bu_0 (by assumption) (by assumption)) (bu_8 (by assumption) (by assumption)) (bu_16 (by assumption) (by assumption)) (bu_24 (by assumption) (by assumption))) | (exfalso; omega)
theorem lf_X8_put_t_36 (a : Nat → Nat) (tu : Nat) (tb : Nat → Int32) (n1 : Int32) (htu : tu + 4 ≤ 220) (c_1 : ¬ 220 ≤ nI tu) (n_5 : tu < 220) (x_7 : Int32) (ex_7 : x_7 = (n1.toUInt32 >>> ((24 : Int32).toUInt32 &&& Int32.toUInt32 31)).toInt32) (x_8 : Int32) (ex_8 : x_8 = (x_7).toInt8.toInt32) (f_9 : Nat → Int32) (ef_9 : f_9 = upd tb tu (vp_nar .byte x_8)) (c_11 : ¬ 220 ≤ nI (tu + 1)) (n_15 : (tu + 1) < 220) (x_17 : Int32) (ex_17 : x_17 = (n1.toUInt32 >>> ((16 : Int32).toUInt32 &&& Int32.toUInt32 31)).toInt32) (x_18 : Int32) (ex_18 : x_18 = (x_17).toInt8.toInt32) (f_19 : Nat → Int32) (ef_19 : f_19 = upd f_9 (tu + 1) (vp_nar .byte x_18)) (c_21 : ¬ 220 ≤ nI ((tu + 1) + 1)) (n_25 : ((tu + 1) + 1) < 220) (x_27 : Int32) (ex_27 : x_27 = (n1.toUInt32 >>> ((8 : Int32).toUInt32 &&& Int32.toUInt32 31)).toInt32) (x_28 : Int32) (ex_28 : x_28 = (x_27).toInt8.toInt32) (f_29 : Nat → Int32) (ef_29 : f_29 = upd f_19 ((tu + 1) + 1) (vp_nar .byte x_28)) (c_31 : ¬ 220 ≤ nI (((tu + 1) + 1) + 1)) : (((tu + 1) + 1) + 1) < 220 := by
  exact Nat.lt_of_not_le (fun q => c_31 ((nI_leI (a := 220) (b := (((tu + 1) + 1) + 1)) (by omega) (by omega)).mpr q))
theorem lf_X8_put_t_40 (a : Nat → Nat) (tu : Nat) (tb : Nat → Int32) (n1 : Int32) (htu : tu + 4 ≤ 220) (c_1 : ¬ 220 ≤ nI tu) (n_5 : tu < 220) (x_7 : Int32) (ex_7 : x_7 = (n1.toUInt32 >>> ((24 : Int32).toUInt32 &&& Int32.toUInt32 31)).toInt32) (x_8 : Int32) (ex_8 : x_8 = (x_7).toInt8.toInt32) (f_9 : Nat → Int32) (ef_9 : f_9 = upd tb tu (vp_nar .byte x_8)) (c_11 : ¬ 220 ≤ nI (tu + 1)) (n_15 : (tu + 1) < 220) (x_17 : Int32) (ex_17 : x_17 = (n1.toUInt32 >>> ((16 : Int32).toUInt32 &&& Int32.toUInt32 31)).toInt32) (x_18 : Int32) (ex_18 : x_18 = (x_17).toInt8.toInt32) (f_19 : Nat → Int32) (ef_19 : f_19 = upd f_9 (tu + 1) (vp_nar .byte x_18)) (c_21 : ¬ 220 ≤ nI ((tu + 1) + 1)) (n_25 : ((tu + 1) + 1) < 220) (x_27 : Int32) (ex_27 : x_27 = (n1.toUInt32 >>> ((8 : Int32).toUInt32 &&& Int32.toUInt32 31)).toInt32) (x_28 : Int32) (ex_28 : x_28 = (x_27).toInt8.toInt32) (f_29 : Nat → Int32) (ef_29 : f_29 = upd f_19 ((tu + 1) + 1) (vp_nar .byte x_28)) (c_31 : ¬ 220 ≤ nI (((tu + 1) + 1) + 1)) (n_35 : (((tu + 1) + 1) + 1) < 220) (x_37 : Int32) (ex_37 : x_37 = (n1.toUInt32 >>> ((0 : Int32).toUInt32 &&& Int32.toUInt32 31)).toInt32) (x_38 : Int32) (ex_38 : x_38 = (x_37).toInt8.toInt32) : (((tu + 1) + 1) + 1) < 220 := by
  omega
theorem lf_X8_put_t_41 (a : Nat → Nat) (tu : Nat) (tb : Nat → Int32) (n1 : Int32) (htu : tu + 4 ≤ 220) (c_1 : ¬ 220 ≤ nI tu) (n_5 : tu < 220) (x_7 : Int32) (ex_7 : x_7 = (n1.toUInt32 >>> ((24 : Int32).toUInt32 &&& Int32.toUInt32 31)).toInt32) (x_8 : Int32) (ex_8 : x_8 = (x_7).toInt8.toInt32) (f_9 : Nat → Int32) (ef_9 : f_9 = upd tb tu (vp_nar .byte x_8)) (c_11 : ¬ 220 ≤ nI (tu + 1)) (n_15 : (tu + 1) < 220) (x_17 : Int32) (ex_17 : x_17 = (n1.toUInt32 >>> ((16 : Int32).toUInt32 &&& Int32.toUInt32 31)).toInt32) (x_18 : Int32) (ex_18 : x_18 = (x_17).toInt8.toInt32) (f_19 : Nat → Int32) (ef_19 : f_19 = upd f_9 (tu + 1) (vp_nar .byte x_18)) (c_21 : ¬ 220 ≤ nI ((tu + 1) + 1)) (n_25 : ((tu + 1) + 1) < 220) (x_27 : Int32) (ex_27 : x_27 = (n1.toUInt32 >>> ((8 : Int32).toUInt32 &&& Int32.toUInt32 31)).toInt32) (x_28 : Int32) (ex_28 : x_28 = (x_27).toInt8.toInt32) (f_29 : Nat → Int32) (ef_29 : f_29 = upd f_19 ((tu + 1) + 1) (vp_nar .byte x_28)) (c_31 : ¬ 220 ≤ nI (((tu + 1) + 1) + 1)) (n_35 : (((tu + 1) + 1) + 1) < 220) (x_37 : Int32) (ex_37 : x_37 = (n1.toUInt32 >>> ((0 : Int32).toUInt32 &&& Int32.toUInt32 31)).toInt32) (x_38 : Int32) (ex_38 : x_38 = (x_37).toInt8.toInt32) (f_39 : Nat → Int32) (ef_39 : f_39 = upd f_29 (((tu + 1) + 1) + 1) (vp_nar .byte x_38)) : ((((((tu + 1) + 1) + 1) + 1) : Nat) = tu + 4) ∧ ((f_39 : Nat → Int32) = put4 tb tu n1) := by
  first | (refine ⟨by omega, ?_⟩; exact pt4 (by assumption) (by assumption) (by assumption) (by assumption) (bu_0 (by assumption) (by assumption)) (bu_8 (by assumption) (by assumption)) (bu_16 (by assumption) (by assumption)) (bu_24 (by assumption) (by assumption))) | (exfalso; omega)
set_option maxHeartbeats 4000000 in
set_option maxRecDepth 100000 in
theorem c_X8_put_t (l : Launch) (D : va_G) (cI cB cZ cJ : ClassId) (tx : List (ClassId × FieldType)) (a : Nat → Nat) (tu : Nat) (tb : Nat → Int32) (n1 : Int32) (htu : tu + 4 ≤ 220) : WrV l D cI cB cZ cJ tx yX8_put cX8_put 3 none 0 0 0 [.ref (a 1), .int n1] [(a 1, .inr (8, [.ref (a 17), .int (nI tu)])), (a 17, .inl (cB, 220, .inl tb))] (fun (v : (Nat) × (Nat → Int32)) => (v.1 = tu + 4) ∧ (v.2 = put4 tb tu n1)) (fun v => [(a 1, .inr (8, [.ref (a 17), .int (nI (v.1))])), (a 17, .inl (cB, 220, .inl v.2))]) := by
  refine wrv_of2 (by decide) (Nat.le_of_ble_eq_true rfl) ?_
  intro p e s m below meth c A ls H locs hC hK hP hD hA hS hl
  obtain ⟨hx, hb, hr, hml, hown, hts, hlocks, hin⟩ := hC
  have hown : s.vm.findClass RX8 = some m.cls := hown
  have hl : lv_has ls 3 [(0, .ref (a 1)), (1, .int n1)] := hl
  refine W_gQ (fun Q hQ => ?_)
  refine lv_bipush (v := 24) hx hb dX8_put_0 (by decide) ?_
  refine lv_istore_n (lv' := [(2, .int 24), (0, .ref (a 1)), (1, .int n1)]) hx hb dX8_put_2 rfl hl (by decide) rfl (fun ls hl => ?_)
  refine lv_iload_n hx hb dX8_put_3 rfl (lv_at hl 0 rfl) ?_
  refine lv_if_lt (tgt := 48) hx hb dX8_put_4 (by decide) (fun c => absurd c (by decide)) (fun _ => ?_)
  refine lv_aload_n hx hb dX8_put_7 rfl (lv_at hl 1 rfl) ?_
  refine va_get (D := D) (ci := 8) (v := .int (nI tu)) (C := RX8) (T := TX8) (N := 2) hx hb hts inT_X8 hown hK.1 hP 0 rfl rfl 1 (by decide) (hts _ k_151) (fun _ h9 => h9) rfl dX8_put_8 ?_
  refine lv_aload_n hx hb dX8_put_11 rfl (lv_at hl 1 rfl) ?_
  refine va_get (D := D) (ci := 8) (v := .ref (a 17)) (C := RX8) (T := TX8) (N := 2) hx hb hts inT_X8 hown hK.1 hP 0 rfl rfl 0 (by decide) (hts _ k_150) (fun _ h9 => h9) rfl dX8_put_12 ?_
  refine ln_x (v := 220) hx hb hK hP 1 1 rfl rfl (show Int32.ofNat 220 = 220 from by decide) dX8_put_15 ?_
  refine lv_icmp_ge (tgt := 48) hx hb dX8_put_16 (by decide) (fun c_1 => ?_) (fun c_1 => ?_)
  · have n_2 : 220 ≤ tu := (lf_X8_put_t_3 a tu tb n1 htu c_1)
    rw [hQ]
    exact W.vret hx hb hr (fun tt9 ht hW => ⟨⟨((tu : Nat), (tb : Nat → Int32)), rfl, (lf_X8_put_t_4 a tu tb n1 htu c_1 n_2), ⟨by rw [ht]; exact hP, hD⟩⟩, hS.F ht⟩) hS.2.2 dX8_put_48 hlocks
  · have n_5 : tu < 220 := (lf_X8_put_t_6 a tu tb n1 htu c_1)
    refine lv_aload_n hx hb dX8_put_19 rfl (lv_at hl 1 rfl) ?_
    refine va_get (D := D) (ci := 8) (v := .ref (a 17)) (C := RX8) (T := TX8) (N := 2) hx hb hts inT_X8 hown hK.1 hP 0 rfl rfl 0 (by decide) (hts _ k_150) (fun _ h9 => h9) rfl dX8_put_20 ?_
    refine lv_aload_n hx hb dX8_put_23 rfl (lv_at hl 1 rfl) ?_
    refine va_get (D := D) (ci := 8) (v := .int (nI tu)) (C := RX8) (T := TX8) (N := 2) hx hb hts inT_X8 hown hK.1 hP 0 rfl rfl 1 (by decide) (hts _ k_151) (fun _ h9 => h9) rfl dX8_put_24 ?_
    refine lv_iload_n hx hb dX8_put_27 rfl (lv_at hl 2 rfl) ?_
    refine lv_iload_n hx hb dX8_put_28 rfl (lv_at hl 0 rfl) ?_
    refine lv_iushr hx hb dX8_put_29 rfl ?_
    refine lv_topi (fun x_7 ex_7 => ?_)
    refine lv_i2b hx hb dX8_put_30 rfl ?_
    refine lv_topi (fun x_8 ex_8 => ?_)
    refine su_b (j := tu) hx hb hK hP hD hS 1 rfl (lf_X8_put_t_10 a tu tb n1 htu c_1 n_5 x_7 ex_7 x_8 ex_8) (by first | decide | assumption) dX8_put_31 (fun f_9 H locs ef_9 hP hD hS => ?_)
    have hPD := pd_mk (ws := [(a 1, .inr (8, [.ref (a 17), .int (nI tu)])), (a 17, .inl (cB, 220, .inl f_9))]) hP hD
    have hP := hPD.1
    have hD := hPD.2
    refine lv_aload_n hx hb dX8_put_32 rfl (lv_at hl 1 rfl) ?_
    refine lv_dup hx hb dX8_put_33 rfl ?_
    refine va_get (D := D) (ci := 8) (v := .int (nI tu)) (C := RX8) (T := TX8) (N := 2) hx hb hts inT_X8 hown hK.1 hP 0 rfl rfl 1 (by decide) (hts _ k_151) (fun _ h9 => h9) rfl dX8_put_34 ?_
    refine lv_iconst (v := 1) hx hb dX8_put_37 (by decide) ?_
    refine lv_iadd hx hb dX8_put_38 ?_
    refine lv_topv (y := nI (tu + 1)) (nI_add tu 1) ?_
    refine va_put (D := D) (ci := 8) (v := .int (nI (tu + 1))) (ty := .int) (C := RX8) (T := TX8) (N := 2) hx hb hts inT_X8 tyX8 tyX8_ok nmX8 hown hK.1 hP hD hS 0 rfl rfl 1 (by decide) (hts _ k_151) (fun _ h9 => h9) rfl (by decide +kernel) rfl rfl (Nat.le_of_ble_eq_true rfl) dX8_put_39 (fun H locs hP hD hS => ?_)
    have hPD := pd_mk (ws := [(a 1, .inr (8, [.ref (a 17), .int (nI (tu + 1))])), (a 17, .inl (cB, 220, .inl f_9))]) hP hD
    have hP := hPD.1
    have hD := hPD.2
    refine lv_iinc (v := 16) (lv' := [(2, .int 16), (0, .ref (a 1)), (1, .int n1)]) hx hb dX8_put_42 hl (k := 0) rfl (by decide) (by decide) rfl (fun ls hl => ?_)
    refine lv_goto (tgt := 3) hx hb dX8_put_45 (by decide) ?_
    refine lv_iload_n hx hb dX8_put_3 rfl (lv_at hl 0 rfl) ?_
    refine lv_if_lt (tgt := 48) hx hb dX8_put_4 (by decide) (fun c => absurd c (by decide)) (fun _ => ?_)
    refine lv_aload_n hx hb dX8_put_7 rfl (lv_at hl 1 rfl) ?_
    refine va_get (D := D) (ci := 8) (v := .int (nI (tu + 1))) (C := RX8) (T := TX8) (N := 2) hx hb hts inT_X8 hown hK.1 hP 0 rfl rfl 1 (by decide) (hts _ k_151) (fun _ h9 => h9) rfl dX8_put_8 ?_
    refine lv_aload_n hx hb dX8_put_11 rfl (lv_at hl 1 rfl) ?_
    refine va_get (D := D) (ci := 8) (v := .ref (a 17)) (C := RX8) (T := TX8) (N := 2) hx hb hts inT_X8 hown hK.1 hP 0 rfl rfl 0 (by decide) (hts _ k_150) (fun _ h9 => h9) rfl dX8_put_12 ?_
    refine ln_x (v := 220) hx hb hK hP 1 1 rfl rfl (show Int32.ofNat 220 = 220 from by decide) dX8_put_15 ?_
    refine lv_icmp_ge (tgt := 48) hx hb dX8_put_16 (by decide) (fun c_11 => ?_) (fun c_11 => ?_)
    · have n_12 : 220 ≤ (tu + 1) := (lf_X8_put_t_13 a tu tb n1 htu c_1 n_5 x_7 ex_7 x_8 ex_8 f_9 ef_9 c_11)
      rw [hQ]
      exact W.vret hx hb hr (fun tt9 ht hW => ⟨⟨(((tu + 1) : Nat), (f_9 : Nat → Int32)), rfl, (lf_X8_put_t_14 a tu tb n1 htu c_1 n_5 x_7 ex_7 x_8 ex_8 f_9 ef_9 c_11 n_12), ⟨by rw [ht]; exact hP, hD⟩⟩, hS.F ht⟩) hS.2.2 dX8_put_48 hlocks
    · have n_15 : (tu + 1) < 220 := (lf_X8_put_t_16 a tu tb n1 htu c_1 n_5 x_7 ex_7 x_8 ex_8 f_9 ef_9 c_11)
      refine lv_aload_n hx hb dX8_put_19 rfl (lv_at hl 1 rfl) ?_
      refine va_get (D := D) (ci := 8) (v := .ref (a 17)) (C := RX8) (T := TX8) (N := 2) hx hb hts inT_X8 hown hK.1 hP 0 rfl rfl 0 (by decide) (hts _ k_150) (fun _ h9 => h9) rfl dX8_put_20 ?_
      refine lv_aload_n hx hb dX8_put_23 rfl (lv_at hl 1 rfl) ?_
      refine va_get (D := D) (ci := 8) (v := .int (nI (tu + 1))) (C := RX8) (T := TX8) (N := 2) hx hb hts inT_X8 hown hK.1 hP 0 rfl rfl 1 (by decide) (hts _ k_151) (fun _ h9 => h9) rfl dX8_put_24 ?_
      refine lv_iload_n hx hb dX8_put_27 rfl (lv_at hl 2 rfl) ?_
      refine lv_iload_n hx hb dX8_put_28 rfl (lv_at hl 0 rfl) ?_
      refine lv_iushr hx hb dX8_put_29 rfl ?_
      refine lv_topi (fun x_17 ex_17 => ?_)
      refine lv_i2b hx hb dX8_put_30 rfl ?_
      refine lv_topi (fun x_18 ex_18 => ?_)
      refine su_b (j := (tu + 1)) hx hb hK hP hD hS 1 rfl (lf_X8_put_t_20 a tu tb n1 htu c_1 n_5 x_7 ex_7 x_8 ex_8 f_9 ef_9 c_11 n_15 x_17 ex_17 x_18 ex_18) (by first | decide | assumption) dX8_put_31 (fun f_19 H locs ef_19 hP hD hS => ?_)
      have hPD := pd_mk (ws := [(a 1, .inr (8, [.ref (a 17), .int (nI (tu + 1))])), (a 17, .inl (cB, 220, .inl f_19))]) hP hD
      have hP := hPD.1
      have hD := hPD.2
      refine lv_aload_n hx hb dX8_put_32 rfl (lv_at hl 1 rfl) ?_
      refine lv_dup hx hb dX8_put_33 rfl ?_
      refine va_get (D := D) (ci := 8) (v := .int (nI (tu + 1))) (C := RX8) (T := TX8) (N := 2) hx hb hts inT_X8 hown hK.1 hP 0 rfl rfl 1 (by decide) (hts _ k_151) (fun _ h9 => h9) rfl dX8_put_34 ?_
      refine lv_iconst (v := 1) hx hb dX8_put_37 (by decide) ?_
      refine lv_iadd hx hb dX8_put_38 ?_
      refine lv_topv (y := nI ((tu + 1) + 1)) (nI_add (tu + 1) 1) ?_
      refine va_put (D := D) (ci := 8) (v := .int (nI ((tu + 1) + 1))) (ty := .int) (C := RX8) (T := TX8) (N := 2) hx hb hts inT_X8 tyX8 tyX8_ok nmX8 hown hK.1 hP hD hS 0 rfl rfl 1 (by decide) (hts _ k_151) (fun _ h9 => h9) rfl (by decide +kernel) rfl rfl (Nat.le_of_ble_eq_true rfl) dX8_put_39 (fun H locs hP hD hS => ?_)
      have hPD := pd_mk (ws := [(a 1, .inr (8, [.ref (a 17), .int (nI ((tu + 1) + 1))])), (a 17, .inl (cB, 220, .inl f_19))]) hP hD
      have hP := hPD.1
      have hD := hPD.2
      refine lv_iinc (v := 8) (lv' := [(2, .int 8), (0, .ref (a 1)), (1, .int n1)]) hx hb dX8_put_42 hl (k := 0) rfl (by decide) (by decide) rfl (fun ls hl => ?_)
      refine lv_goto (tgt := 3) hx hb dX8_put_45 (by decide) ?_
      refine lv_iload_n hx hb dX8_put_3 rfl (lv_at hl 0 rfl) ?_
      refine lv_if_lt (tgt := 48) hx hb dX8_put_4 (by decide) (fun c => absurd c (by decide)) (fun _ => ?_)
      refine lv_aload_n hx hb dX8_put_7 rfl (lv_at hl 1 rfl) ?_
      refine va_get (D := D) (ci := 8) (v := .int (nI ((tu + 1) + 1))) (C := RX8) (T := TX8) (N := 2) hx hb hts inT_X8 hown hK.1 hP 0 rfl rfl 1 (by decide) (hts _ k_151) (fun _ h9 => h9) rfl dX8_put_8 ?_
      refine lv_aload_n hx hb dX8_put_11 rfl (lv_at hl 1 rfl) ?_
      refine va_get (D := D) (ci := 8) (v := .ref (a 17)) (C := RX8) (T := TX8) (N := 2) hx hb hts inT_X8 hown hK.1 hP 0 rfl rfl 0 (by decide) (hts _ k_150) (fun _ h9 => h9) rfl dX8_put_12 ?_
      refine ln_x (v := 220) hx hb hK hP 1 1 rfl rfl (show Int32.ofNat 220 = 220 from by decide) dX8_put_15 ?_
      refine lv_icmp_ge (tgt := 48) hx hb dX8_put_16 (by decide) (fun c_21 => ?_) (fun c_21 => ?_)
      · have n_22 : 220 ≤ ((tu + 1) + 1) := (lf_X8_put_t_23 a tu tb n1 htu c_1 n_5 x_7 ex_7 x_8 ex_8 f_9 ef_9 c_11 n_15 x_17 ex_17 x_18 ex_18 f_19 ef_19 c_21)
        rw [hQ]
        exact W.vret hx hb hr (fun tt9 ht hW => ⟨⟨((((tu + 1) + 1) : Nat), (f_19 : Nat → Int32)), rfl, (lf_X8_put_t_24 a tu tb n1 htu c_1 n_5 x_7 ex_7 x_8 ex_8 f_9 ef_9 c_11 n_15 x_17 ex_17 x_18 ex_18 f_19 ef_19 c_21 n_22), ⟨by rw [ht]; exact hP, hD⟩⟩, hS.F ht⟩) hS.2.2 dX8_put_48 hlocks
      · have n_25 : ((tu + 1) + 1) < 220 := (lf_X8_put_t_26 a tu tb n1 htu c_1 n_5 x_7 ex_7 x_8 ex_8 f_9 ef_9 c_11 n_15 x_17 ex_17 x_18 ex_18 f_19 ef_19 c_21)
        refine lv_aload_n hx hb dX8_put_19 rfl (lv_at hl 1 rfl) ?_
        refine va_get (D := D) (ci := 8) (v := .ref (a 17)) (C := RX8) (T := TX8) (N := 2) hx hb hts inT_X8 hown hK.1 hP 0 rfl rfl 0 (by decide) (hts _ k_150) (fun _ h9 => h9) rfl dX8_put_20 ?_
        refine lv_aload_n hx hb dX8_put_23 rfl (lv_at hl 1 rfl) ?_
        refine va_get (D := D) (ci := 8) (v := .int (nI ((tu + 1) + 1))) (C := RX8) (T := TX8) (N := 2) hx hb hts inT_X8 hown hK.1 hP 0 rfl rfl 1 (by decide) (hts _ k_151) (fun _ h9 => h9) rfl dX8_put_24 ?_
        refine lv_iload_n hx hb dX8_put_27 rfl (lv_at hl 2 rfl) ?_
        refine lv_iload_n hx hb dX8_put_28 rfl (lv_at hl 0 rfl) ?_
        refine lv_iushr hx hb dX8_put_29 rfl ?_
        refine lv_topi (fun x_27 ex_27 => ?_)
        refine lv_i2b hx hb dX8_put_30 rfl ?_
        refine lv_topi (fun x_28 ex_28 => ?_)
        refine su_b (j := ((tu + 1) + 1)) hx hb hK hP hD hS 1 rfl (lf_X8_put_t_30 a tu tb n1 htu c_1 n_5 x_7 ex_7 x_8 ex_8 f_9 ef_9 c_11 n_15 x_17 ex_17 x_18 ex_18 f_19 ef_19 c_21 n_25 x_27 ex_27 x_28 ex_28) (by first | decide | assumption) dX8_put_31 (fun f_29 H locs ef_29 hP hD hS => ?_)
        have hPD := pd_mk (ws := [(a 1, .inr (8, [.ref (a 17), .int (nI ((tu + 1) + 1))])), (a 17, .inl (cB, 220, .inl f_29))]) hP hD
        have hP := hPD.1
        have hD := hPD.2
        refine lv_aload_n hx hb dX8_put_32 rfl (lv_at hl 1 rfl) ?_
        refine lv_dup hx hb dX8_put_33 rfl ?_
        refine va_get (D := D) (ci := 8) (v := .int (nI ((tu + 1) + 1))) (C := RX8) (T := TX8) (N := 2) hx hb hts inT_X8 hown hK.1 hP 0 rfl rfl 1 (by decide) (hts _ k_151) (fun _ h9 => h9) rfl dX8_put_34 ?_
        refine lv_iconst (v := 1) hx hb dX8_put_37 (by decide) ?_
        refine lv_iadd hx hb dX8_put_38 ?_
        refine lv_topv (y := nI (((tu + 1) + 1) + 1)) (nI_add ((tu + 1) + 1) 1) ?_
        refine va_put (D := D) (ci := 8) (v := .int (nI (((tu + 1) + 1) + 1))) (ty := .int) (C := RX8) (T := TX8) (N := 2) hx hb hts inT_X8 tyX8 tyX8_ok nmX8 hown hK.1 hP hD hS 0 rfl rfl 1 (by decide) (hts _ k_151) (fun _ h9 => h9) rfl (by decide +kernel) rfl rfl (Nat.le_of_ble_eq_true rfl) dX8_put_39 (fun H locs hP hD hS => ?_)
        have hPD := pd_mk (ws := [(a 1, .inr (8, [.ref (a 17), .int (nI (((tu + 1) + 1) + 1))])), (a 17, .inl (cB, 220, .inl f_29))]) hP hD
        have hP := hPD.1
        have hD := hPD.2
        refine lv_iinc (v := 0) (lv' := [(2, .int 0), (0, .ref (a 1)), (1, .int n1)]) hx hb dX8_put_42 hl (k := 0) rfl (by decide) (by decide) rfl (fun ls hl => ?_)
        refine lv_goto (tgt := 3) hx hb dX8_put_45 (by decide) ?_
        refine lv_iload_n hx hb dX8_put_3 rfl (lv_at hl 0 rfl) ?_
        refine lv_if_lt (tgt := 48) hx hb dX8_put_4 (by decide) (fun c => absurd c (by decide)) (fun _ => ?_)
        refine lv_aload_n hx hb dX8_put_7 rfl (lv_at hl 1 rfl) ?_
        refine va_get (D := D) (ci := 8) (v := .int (nI (((tu + 1) + 1) + 1))) (C := RX8) (T := TX8) (N := 2) hx hb hts inT_X8 hown hK.1 hP 0 rfl rfl 1 (by decide) (hts _ k_151) (fun _ h9 => h9) rfl dX8_put_8 ?_
        refine lv_aload_n hx hb dX8_put_11 rfl (lv_at hl 1 rfl) ?_
        refine va_get (D := D) (ci := 8) (v := .ref (a 17)) (C := RX8) (T := TX8) (N := 2) hx hb hts inT_X8 hown hK.1 hP 0 rfl rfl 0 (by decide) (hts _ k_150) (fun _ h9 => h9) rfl dX8_put_12 ?_
        refine ln_x (v := 220) hx hb hK hP 1 1 rfl rfl (show Int32.ofNat 220 = 220 from by decide) dX8_put_15 ?_
        refine lv_icmp_ge (tgt := 48) hx hb dX8_put_16 (by decide) (fun c_31 => ?_) (fun c_31 => ?_)
        · have n_32 : 220 ≤ (((tu + 1) + 1) + 1) := (lf_X8_put_t_33 a tu tb n1 htu c_1 n_5 x_7 ex_7 x_8 ex_8 f_9 ef_9 c_11 n_15 x_17 ex_17 x_18 ex_18 f_19 ef_19 c_21 n_25 x_27 ex_27 x_28 ex_28 f_29 ef_29 c_31)
          rw [hQ]
          exact W.vret hx hb hr (fun tt9 ht hW => ⟨⟨(((((tu + 1) + 1) + 1) : Nat), (f_29 : Nat → Int32)), rfl, (lf_X8_put_t_34 a tu tb n1 htu c_1 n_5 x_7 ex_7 x_8 ex_8 f_9 ef_9 c_11 n_15 x_17 ex_17 x_18 ex_18 f_19 ef_19 c_21 n_25 x_27 ex_27 x_28 ex_28 f_29 ef_29 c_31 n_32), ⟨by rw [ht]; exact hP, hD⟩⟩, hS.F ht⟩) hS.2.2 dX8_put_48 hlocks
        · have n_35 : (((tu + 1) + 1) + 1) < 220 := (lf_X8_put_t_36 a tu tb n1 htu c_1 n_5 x_7 ex_7 x_8 ex_8 f_9 ef_9 c_11 n_15 x_17 ex_17 x_18 ex_18 f_19 ef_19 c_21 n_25 x_27 ex_27 x_28 ex_28 f_29 ef_29 c_31)
          refine lv_aload_n hx hb dX8_put_19 rfl (lv_at hl 1 rfl) ?_
          refine va_get (D := D) (ci := 8) (v := .ref (a 17)) (C := RX8) (T := TX8) (N := 2) hx hb hts inT_X8 hown hK.1 hP 0 rfl rfl 0 (by decide) (hts _ k_150) (fun _ h9 => h9) rfl dX8_put_20 ?_
          refine lv_aload_n hx hb dX8_put_23 rfl (lv_at hl 1 rfl) ?_
          refine va_get (D := D) (ci := 8) (v := .int (nI (((tu + 1) + 1) + 1))) (C := RX8) (T := TX8) (N := 2) hx hb hts inT_X8 hown hK.1 hP 0 rfl rfl 1 (by decide) (hts _ k_151) (fun _ h9 => h9) rfl dX8_put_24 ?_
          refine lv_iload_n hx hb dX8_put_27 rfl (lv_at hl 2 rfl) ?_
          refine lv_iload_n hx hb dX8_put_28 rfl (lv_at hl 0 rfl) ?_
          refine lv_iushr hx hb dX8_put_29 rfl ?_
          refine lv_topi (fun x_37 ex_37 => ?_)
          refine lv_i2b hx hb dX8_put_30 rfl ?_
          refine lv_topi (fun x_38 ex_38 => ?_)
          refine su_b (j := (((tu + 1) + 1) + 1)) hx hb hK hP hD hS 1 rfl (lf_X8_put_t_40 a tu tb n1 htu c_1 n_5 x_7 ex_7 x_8 ex_8 f_9 ef_9 c_11 n_15 x_17 ex_17 x_18 ex_18 f_19 ef_19 c_21 n_25 x_27 ex_27 x_28 ex_28 f_29 ef_29 c_31 n_35 x_37 ex_37 x_38 ex_38) (by first | decide | assumption) dX8_put_31 (fun f_39 H locs ef_39 hP hD hS => ?_)
          have hPD := pd_mk (ws := [(a 1, .inr (8, [.ref (a 17), .int (nI (((tu + 1) + 1) + 1))])), (a 17, .inl (cB, 220, .inl f_39))]) hP hD
          have hP := hPD.1
          have hD := hPD.2
          refine lv_aload_n hx hb dX8_put_32 rfl (lv_at hl 1 rfl) ?_
          refine lv_dup hx hb dX8_put_33 rfl ?_
          refine va_get (D := D) (ci := 8) (v := .int (nI (((tu + 1) + 1) + 1))) (C := RX8) (T := TX8) (N := 2) hx hb hts inT_X8 hown hK.1 hP 0 rfl rfl 1 (by decide) (hts _ k_151) (fun _ h9 => h9) rfl dX8_put_34 ?_
          refine lv_iconst (v := 1) hx hb dX8_put_37 (by decide) ?_
          refine lv_iadd hx hb dX8_put_38 ?_
          refine lv_topv (y := nI ((((tu + 1) + 1) + 1) + 1)) (nI_add (((tu + 1) + 1) + 1) 1) ?_
          refine va_put (D := D) (ci := 8) (v := .int (nI ((((tu + 1) + 1) + 1) + 1))) (ty := .int) (C := RX8) (T := TX8) (N := 2) hx hb hts inT_X8 tyX8 tyX8_ok nmX8 hown hK.1 hP hD hS 0 rfl rfl 1 (by decide) (hts _ k_151) (fun _ h9 => h9) rfl (by decide +kernel) rfl rfl (Nat.le_of_ble_eq_true rfl) dX8_put_39 (fun H locs hP hD hS => ?_)
          have hPD := pd_mk (ws := [(a 1, .inr (8, [.ref (a 17), .int (nI ((((tu + 1) + 1) + 1) + 1))])), (a 17, .inl (cB, 220, .inl f_39))]) hP hD
          have hP := hPD.1
          have hD := hPD.2
          refine lv_iinc (v := (-8)) (lv' := [(2, .int (-8)), (0, .ref (a 1)), (1, .int n1)]) hx hb dX8_put_42 hl (k := 0) rfl (by decide) (by decide) rfl (fun ls hl => ?_)
          refine lv_goto (tgt := 3) hx hb dX8_put_45 (by decide) ?_
          refine lv_iload_n hx hb dX8_put_3 rfl (lv_at hl 0 rfl) ?_
          refine lv_if_lt (tgt := 48) hx hb dX8_put_4 (by decide) (fun _ => ?_) (fun c => absurd c (by decide))
          rw [hQ]
          exact W.vret hx hb hr (fun tt9 ht hW => ⟨⟨((((((tu + 1) + 1) + 1) + 1) : Nat), (f_39 : Nat → Int32)), rfl, (lf_X8_put_t_41 a tu tb n1 htu c_1 n_5 x_7 ex_7 x_8 ex_8 f_9 ef_9 c_11 n_15 x_17 ex_17 x_18 ex_18 f_19 ef_19 c_21 n_25 x_27 ex_27 x_28 ex_28 f_29 ef_29 c_31 n_35 x_37 ex_37 x_38 ex_38 f_39 ef_39), ⟨by rw [ht]; exact hP, hD⟩⟩, hS.F ht⟩) hS.2.2 dX8_put_48 hlocks

theorem lf_X11_feed_m_1 (a : Nat → Nat) (ap : Int32) (tu : Nat) (tb : Nat → Int32) (n1 : Int32) (n2 : Int32) (n3 : Int32) (n4 : Int32) (n5 : Int32) (htu : tu ≤ 220) : tu ≤ 220 := by
  first | assumption | omega | decide
theorem lf_X11_feed_m_3 (a : Nat → Nat) (ap : Int32) (tu : Nat) (tb : Nat → Int32) (n1 : Int32) (n2 : Int32) (n3 : Int32) (n4 : Int32) (n5 : Int32) (htu : tu ≤ 220) (hro2 : (20 : Int32) ≤ 220 - nI tu) (hle : tu ≤ 200) : tu + 4 ≤ 220 := by
  first | assumption | omega | decide
theorem lf_X11_feed_m_6 (a : Nat → Nat) (ap : Int32) (tu : Nat) (tb : Nat → Int32) (n1 : Int32) (n2 : Int32) (n3 : Int32) (n4 : Int32) (n5 : Int32) (htu : tu ≤ 220) (hro2 : (20 : Int32) ≤ 220 - nI tu) (hle : tu ≤ 200) (tu_5 : Nat) (tb_5 : Nat → Int32) (hz_5_0 : tu_5 = tu + 4) (hz_5_1 : tb_5 = put4 tb tu n1) : tu_5 + 4 ≤ 220 := by
  first | assumption | omega | decide
theorem lf_X11_feed_m_9 (a : Nat → Nat) (ap : Int32) (tu : Nat) (tb : Nat → Int32) (n1 : Int32) (n2 : Int32) (n3 : Int32) (n4 : Int32) (n5 : Int32) (htu : tu ≤ 220) (hro2 : (20 : Int32) ≤ 220 - nI tu) (hle : tu ≤ 200) (tu_5 : Nat) (tb_5 : Nat → Int32) (hz_5_0 : tu_5 = tu + 4) (hz_5_1 : tb_5 = put4 tb tu n1) (tu_8 : Nat) (tb_8 : Nat → Int32) (hz_8_0 : tu_8 = tu_5 + 4) (hz_8_1 : tb_8 = put4 tb_5 tu_5 n2) : tu_8 + 4 ≤ 220 := by
  first | assumption | omega | decide
theorem lf_X11_feed_m_12 (a : Nat → Nat) (ap : Int32) (tu : Nat) (tb : Nat → Int32) (n1 : Int32) (n2 : Int32) (n3 : Int32) (n4 : Int32) (n5 : Int32) (htu : tu ≤ 220) (hro2 : (20 : Int32) ≤ 220 - nI tu) (hle : tu ≤ 200) (tu_5 : Nat) (tb_5 : Nat → Int32) (hz_5_0 : tu_5 = tu + 4) (hz_5_1 : tb_5 = put4 tb tu n1) (tu_8 : Nat) (tb_8 : Nat → Int32) (hz_8_0 : tu_8 = tu_5 + 4) (hz_8_1 : tb_8 = put4 tb_5 tu_5 n2) (tu_11 : Nat) (tb_11 : Nat → Int32) (hz_11_0 : tu_11 = tu_8 + 4) (hz_11_1 : tb_11 = put4 tb_8 tu_8 n3) : tu_11 + 4 ≤ 220 := by
  first | assumption | omega | decide
theorem lf_X11_feed_m_15 (a : Nat → Nat) (ap : Int32) (tu : Nat) (tb : Nat → Int32) (n1 : Int32) (n2 : Int32) (n3 : Int32) (n4 : Int32) (n5 : Int32) (htu : tu ≤ 220) (hro2 : (20 : Int32) ≤ 220 - nI tu) (hle : tu ≤ 200) (tu_5 : Nat) (tb_5 : Nat → Int32) (hz_5_0 : tu_5 = tu + 4) (hz_5_1 : tb_5 = put4 tb tu n1) (tu_8 : Nat) (tb_8 : Nat → Int32) (hz_8_0 : tu_8 = tu_5 + 4) (hz_8_1 : tb_8 = put4 tb_5 tu_5 n2) (tu_11 : Nat) (tb_11 : Nat → Int32) (hz_11_0 : tu_11 = tu_8 + 4) (hz_11_1 : tb_11 = put4 tb_8 tu_8 n3) (tu_14 : Nat) (tb_14 : Nat → Int32) (hz_14_0 : tu_14 = tu_11 + 4) (hz_14_1 : tb_14 = put4 tb_11 tu_11 n4) : tu_14 + 4 ≤ 220 := by
  first | assumption | omega | decide
theorem lf_X11_feed_m_18 (a : Nat → Nat) (ap : Int32) (tu : Nat) (tb : Nat → Int32) (n1 : Int32) (n2 : Int32) (n3 : Int32) (n4 : Int32) (n5 : Int32) (htu : tu ≤ 220) (hro2 : (20 : Int32) ≤ 220 - nI tu) (hle : tu ≤ 200) (tu_5 : Nat) (tb_5 : Nat → Int32) (hz_5_0 : tu_5 = tu + 4) (hz_5_1 : tb_5 = put4 tb tu n1) (tu_8 : Nat) (tb_8 : Nat → Int32) (hz_8_0 : tu_8 = tu_5 + 4) (hz_8_1 : tb_8 = put4 tb_5 tu_5 n2) (tu_11 : Nat) (tb_11 : Nat → Int32) (hz_11_0 : tu_11 = tu_8 + 4) (hz_11_1 : tb_11 = put4 tb_8 tu_8 n3) (tu_14 : Nat) (tb_14 : Nat → Int32) (hz_14_0 : tu_14 = tu_11 + 4) (hz_14_1 : tb_14 = put4 tb_11 tu_11 n4) (tu_17 : Nat) (tb_17 : Nat → Int32) (hz_17_0 : tu_17 = tu_14 + 4) (hz_17_1 : tb_17 = put4 tb_14 tu_14 n5) : (nI tu_17 : Int32) = feA tu ∧ ((tu_17 : Nat) ≤ 220) ∧ ((tu_17 : Nat) = feU tu) ∧ ((tb_17 : Nat → Int32) = feB n1 n2 n3 n4 n5 tb tu) := by
  first | exact ⟨feA_n hle, by omega, feU_n hle, feB_n hle⟩ | exact ⟨feA_y hle (by omega), by omega, feU_y hle (by omega), feB_y hle (by assumption) (by assumption) (by assumption) (by assumption) (by assumption) (by omega) (by omega) (by omega) (by omega)⟩
theorem lf_X11_feed_m_19 (a : Nat → Nat) (ap : Int32) (tu : Nat) (tb : Nat → Int32) (n1 : Int32) (n2 : Int32) (n3 : Int32) (n4 : Int32) (n5 : Int32) (htu : tu ≤ 220) (hro2 : ¬ (20 : Int32) ≤ 220 - nI tu) (hle : ¬ tu ≤ 200) : ((-1) : Int32) = feA tu ∧ ((tu : Nat) ≤ 220) ∧ ((tu : Nat) = feU tu) ∧ ((tb : Nat → Int32) = feB n1 n2 n3 n4 n5 tb tu) := by
  first | exact ⟨feA_n hle, by omega, feU_n hle, feB_n hle⟩ | exact ⟨feA_y hle (by omega), by omega, feU_y hle (by omega), feB_y hle (by assumption) (by assumption) (by assumption) (by assumption) (by assumption) (by omega) (by omega) (by omega) (by omega)⟩
set_option maxHeartbeats 4000000 in
set_option maxRecDepth 100000 in
theorem c_X11_feed_m (l : Launch) (D : va_G) (cI cB cZ cJ : ClassId) (tx : List (ClassId × FieldType)) (a : Nat → Nat) (ap : Int32) (tu : Nat) (tb : Nat → Int32) (n1 : Int32) (n2 : Int32) (n3 : Int32) (n4 : Int32) (n5 : Int32) (htu : tu ≤ 220) : WrI l D cI cB cZ cJ tx yX11_feed cX11_feed 6 (some .int) 1 0 0 [.ref (a 0), .int n1, .int n2, .int n3, .int n4, .int n5] [(a 0, .inr (11, [.ref (a 1), .ref (a 2), .ref (a 3), .ref (a 4), .ref (a 5), .ref (a 6), .ref (a 7), .ref (a 8), .ref (a 9), .ref (a 10), .ref (a 11), .ref (a 12), .int ap])), (a 1, .inr (8, [.ref (a 17), .int (nI tu)])), (a 17, .inl (cB, 220, .inl tb))] (fun (r : Int32) (v : (Nat) × (Nat → Int32)) => r = feA tu ∧ (v.1 ≤ 220) ∧ (v.1 = feU tu) ∧ (v.2 = feB n1 n2 n3 n4 n5 tb tu)) (fun v => [(a 0, .inr (11, [.ref (a 1), .ref (a 2), .ref (a 3), .ref (a 4), .ref (a 5), .ref (a 6), .ref (a 7), .ref (a 8), .ref (a 9), .ref (a 10), .ref (a 11), .ref (a 12), .int ap])), (a 1, .inr (8, [.ref (a 17), .int (nI (v.1))])), (a 17, .inl (cB, 220, .inl v.2))]) := by
  refine wri_of2 (by decide) (Nat.le_of_ble_eq_true rfl) ?_
  intro p e s m below meth c A ls H locs hC hK hP hD hA hS hl
  obtain ⟨hx, hb, hr, hml, hown, hts, hlocks, hin⟩ := hC
  have hown : s.vm.findClass RX11 = some m.cls := hown
  have hl : lv_has ls 6 [(0, .ref (a 0)), (1, .int n1), (2, .int n2), (3, .int n3), (4, .int n4), (5, .int n5)] := hl
  refine W_gQ (fun Q hQ => ?_)
  refine lv_aload_n hx hb dX11_feed_0 rfl (lv_at hl 0 rfl) ?_
  refine va_get (D := D) (ci := 11) (v := .ref (a 1)) (C := RX11) (T := TX11) (N := 13) hx hb hts inT_X11 hown hK.1 hP 0 rfl rfl 0 (by decide) (hts _ k_483) (fun _ h9 => h9) rfl dX11_feed_1 ?_
  refine lv_bipush (v := 20) hx hb dX11_feed_4 (by decide) ?_
  refine eRi (va_runV (As := [.int 20]) (rest := []) ⟨hx, hb, hml, hown, hts⟩ (c_X8_hasRoom_t l D cI cB cZ cJ tx a tu tb 20 (lf_X11_feed_m_1 a ap tu tb n1 n2 n3 n4 n5 htu) H.size) (zV hts k_539 v_X8_hasRoom ⟨Nat.le_of_ble_eq_true rfl, Nat.le_of_ble_eq_true rfl⟩) (pV (pxS hK hP hD [1, 2] (by decide) rfl) hK hP 1 rfl rfl) rfl rfl hl.1 rfl (lv_room (Nat.le_of_ble_eq_true rfl)) dX11_feed_6 ⟨Nat.le_of_ble_eq_true rfl, Nat.le_of_ble_eq_true rfl⟩) hP hS hA (fun r_2 H locs wr_2 hP hS => ?_)
  rcases wr_2 with ⟨rfl, hro2⟩ | ⟨rfl, hro2⟩
  · have hle : tu ≤ 200 := ro_y htu hro2
    refine lv_if_ne (tgt := 14) hx hb dX11_feed_9 (by decide) (fun _ => ?_) (fun c => absurd c (by decide))
    refine lv_aload_n hx hb dX11_feed_14 rfl (lv_at hl 0 rfl) ?_
    refine va_get (D := D) (ci := 11) (v := .ref (a 1)) (C := RX11) (T := TX11) (N := 13) hx hb hts inT_X11 hown hK.1 hP 0 rfl rfl 0 (by decide) (hts _ k_483) (fun _ h9 => h9) rfl dX11_feed_15 ?_
    refine lv_iload_n hx hb dX11_feed_18 rfl (lv_at hl 1 rfl) ?_
    refine eWvP (va_runV (As := [.int n1]) (rest := []) ⟨hx, hb, hml, hown, hts⟩ (c_X8_put_t l D cI cB cZ cJ tx a tu tb n1 (lf_X11_feed_m_3 a ap tu tb n1 n2 n3 n4 n5 htu hro2 hle) H.size) (zV hts k_543 v_X8_put ⟨Nat.le_of_ble_eq_true rfl, Nat.le_of_ble_eq_true rfl⟩) (pV (pxS hK hP hD [1, 2] (by decide) rfl) hK hP 1 rfl rfl) rfl rfl hl.1 rfl (lv_room (Nat.le_of_ble_eq_true rfl)) dX11_feed_19 ⟨Nat.le_of_ble_eq_true rfl, Nat.le_of_ble_eq_true rfl⟩) hP hD hS hA [1, 2] [none, some 0, some 1] rfl (by decide +kernel) (fun _ => rfl) (fun u_5 H locs wr_4 hP hD hS => ?_)
    obtain ⟨tu_5, tb_5⟩ := u_5
    have hz_5_0 : tu_5 = tu + 4 := wr_4.1
    have hz_5_1 : tb_5 = put4 tb tu n1 := wr_4.2
    have hPD := pd_mk (ws := [(a 0, .inr (11, [.ref (a 1), .ref (a 2), .ref (a 3), .ref (a 4), .ref (a 5), .ref (a 6), .ref (a 7), .ref (a 8), .ref (a 9), .ref (a 10), .ref (a 11), .ref (a 12), .int ap])), (a 1, .inr (8, [.ref (a 17), .int (nI tu_5)])), (a 17, .inl (cB, 220, .inl tb_5))]) hP hD
    have hP := hPD.1
    have hD := hPD.2
    refine lv_aload_n hx hb dX11_feed_22 rfl (lv_at hl 0 rfl) ?_
    refine va_get (D := D) (ci := 11) (v := .ref (a 1)) (C := RX11) (T := TX11) (N := 13) hx hb hts inT_X11 hown hK.1 hP 0 rfl rfl 0 (by decide) (hts _ k_483) (fun _ h9 => h9) rfl dX11_feed_23 ?_
    refine lv_iload_n hx hb dX11_feed_26 rfl (lv_at hl 2 rfl) ?_
    refine eWvP (va_runV (As := [.int n2]) (rest := []) ⟨hx, hb, hml, hown, hts⟩ (c_X8_put_t l D cI cB cZ cJ tx a tu_5 tb_5 n2 (lf_X11_feed_m_6 a ap tu tb n1 n2 n3 n4 n5 htu hro2 hle tu_5 tb_5 hz_5_0 hz_5_1) H.size) (zV hts k_543 v_X8_put ⟨Nat.le_of_ble_eq_true rfl, Nat.le_of_ble_eq_true rfl⟩) (pV (pxS hK hP hD [1, 2] (by decide) rfl) hK hP 1 rfl rfl) rfl rfl hl.1 rfl (lv_room (Nat.le_of_ble_eq_true rfl)) dX11_feed_27 ⟨Nat.le_of_ble_eq_true rfl, Nat.le_of_ble_eq_true rfl⟩) hP hD hS hA [1, 2] [none, some 0, some 1] rfl (by decide +kernel) (fun _ => rfl) (fun u_8 H locs wr_7 hP hD hS => ?_)
    obtain ⟨tu_8, tb_8⟩ := u_8
    have hz_8_0 : tu_8 = tu_5 + 4 := wr_7.1
    have hz_8_1 : tb_8 = put4 tb_5 tu_5 n2 := wr_7.2
    have hPD := pd_mk (ws := [(a 0, .inr (11, [.ref (a 1), .ref (a 2), .ref (a 3), .ref (a 4), .ref (a 5), .ref (a 6), .ref (a 7), .ref (a 8), .ref (a 9), .ref (a 10), .ref (a 11), .ref (a 12), .int ap])), (a 1, .inr (8, [.ref (a 17), .int (nI tu_8)])), (a 17, .inl (cB, 220, .inl tb_8))]) hP hD
    have hP := hPD.1
    have hD := hPD.2
    refine lv_aload_n hx hb dX11_feed_30 rfl (lv_at hl 0 rfl) ?_
    refine va_get (D := D) (ci := 11) (v := .ref (a 1)) (C := RX11) (T := TX11) (N := 13) hx hb hts inT_X11 hown hK.1 hP 0 rfl rfl 0 (by decide) (hts _ k_483) (fun _ h9 => h9) rfl dX11_feed_31 ?_
    refine lv_iload_n hx hb dX11_feed_34 rfl (lv_at hl 3 rfl) ?_
    refine eWvP (va_runV (As := [.int n3]) (rest := []) ⟨hx, hb, hml, hown, hts⟩ (c_X8_put_t l D cI cB cZ cJ tx a tu_8 tb_8 n3 (lf_X11_feed_m_9 a ap tu tb n1 n2 n3 n4 n5 htu hro2 hle tu_5 tb_5 hz_5_0 hz_5_1 tu_8 tb_8 hz_8_0 hz_8_1) H.size) (zV hts k_543 v_X8_put ⟨Nat.le_of_ble_eq_true rfl, Nat.le_of_ble_eq_true rfl⟩) (pV (pxS hK hP hD [1, 2] (by decide) rfl) hK hP 1 rfl rfl) rfl rfl hl.1 rfl (lv_room (Nat.le_of_ble_eq_true rfl)) dX11_feed_35 ⟨Nat.le_of_ble_eq_true rfl, Nat.le_of_ble_eq_true rfl⟩) hP hD hS hA [1, 2] [none, some 0, some 1] rfl (by decide +kernel) (fun _ => rfl) (fun u_11 H locs wr_10 hP hD hS => ?_)
    obtain ⟨tu_11, tb_11⟩ := u_11
    have hz_11_0 : tu_11 = tu_8 + 4 := wr_10.1
    have hz_11_1 : tb_11 = put4 tb_8 tu_8 n3 := wr_10.2
    have hPD := pd_mk (ws := [(a 0, .inr (11, [.ref (a 1), .ref (a 2), .ref (a 3), .ref (a 4), .ref (a 5), .ref (a 6), .ref (a 7), .ref (a 8), .ref (a 9), .ref (a 10), .ref (a 11), .ref (a 12), .int ap])), (a 1, .inr (8, [.ref (a 17), .int (nI tu_11)])), (a 17, .inl (cB, 220, .inl tb_11))]) hP hD
    have hP := hPD.1
    have hD := hPD.2
    refine lv_aload_n hx hb dX11_feed_38 rfl (lv_at hl 0 rfl) ?_
    refine va_get (D := D) (ci := 11) (v := .ref (a 1)) (C := RX11) (T := TX11) (N := 13) hx hb hts inT_X11 hown hK.1 hP 0 rfl rfl 0 (by decide) (hts _ k_483) (fun _ h9 => h9) rfl dX11_feed_39 ?_
    refine lv_iload hx hb dX11_feed_42 (lv_at hl 4 rfl) ?_
    refine eWvP (va_runV (As := [.int n4]) (rest := []) ⟨hx, hb, hml, hown, hts⟩ (c_X8_put_t l D cI cB cZ cJ tx a tu_11 tb_11 n4 (lf_X11_feed_m_12 a ap tu tb n1 n2 n3 n4 n5 htu hro2 hle tu_5 tb_5 hz_5_0 hz_5_1 tu_8 tb_8 hz_8_0 hz_8_1 tu_11 tb_11 hz_11_0 hz_11_1) H.size) (zV hts k_543 v_X8_put ⟨Nat.le_of_ble_eq_true rfl, Nat.le_of_ble_eq_true rfl⟩) (pV (pxS hK hP hD [1, 2] (by decide) rfl) hK hP 1 rfl rfl) rfl rfl hl.1 rfl (lv_room (Nat.le_of_ble_eq_true rfl)) dX11_feed_44 ⟨Nat.le_of_ble_eq_true rfl, Nat.le_of_ble_eq_true rfl⟩) hP hD hS hA [1, 2] [none, some 0, some 1] rfl (by decide +kernel) (fun _ => rfl) (fun u_14 H locs wr_13 hP hD hS => ?_)
    obtain ⟨tu_14, tb_14⟩ := u_14
    have hz_14_0 : tu_14 = tu_11 + 4 := wr_13.1
    have hz_14_1 : tb_14 = put4 tb_11 tu_11 n4 := wr_13.2
    have hPD := pd_mk (ws := [(a 0, .inr (11, [.ref (a 1), .ref (a 2), .ref (a 3), .ref (a 4), .ref (a 5), .ref (a 6), .ref (a 7), .ref (a 8), .ref (a 9), .ref (a 10), .ref (a 11), .ref (a 12), .int ap])), (a 1, .inr (8, [.ref (a 17), .int (nI tu_14)])), (a 17, .inl (cB, 220, .inl tb_14))]) hP hD
    have hP := hPD.1
    have hD := hPD.2
    refine lv_aload_n hx hb dX11_feed_47 rfl (lv_at hl 0 rfl) ?_
    refine va_get (D := D) (ci := 11) (v := .ref (a 1)) (C := RX11) (T := TX11) (N := 13) hx hb hts inT_X11 hown hK.1 hP 0 rfl rfl 0 (by decide) (hts _ k_483) (fun _ h9 => h9) rfl dX11_feed_48 ?_
    refine lv_iload hx hb dX11_feed_51 (lv_at hl 5 rfl) ?_
    refine eWvP (va_runV (As := [.int n5]) (rest := []) ⟨hx, hb, hml, hown, hts⟩ (c_X8_put_t l D cI cB cZ cJ tx a tu_14 tb_14 n5 (lf_X11_feed_m_15 a ap tu tb n1 n2 n3 n4 n5 htu hro2 hle tu_5 tb_5 hz_5_0 hz_5_1 tu_8 tb_8 hz_8_0 hz_8_1 tu_11 tb_11 hz_11_0 hz_11_1 tu_14 tb_14 hz_14_0 hz_14_1) H.size) (zV hts k_543 v_X8_put ⟨Nat.le_of_ble_eq_true rfl, Nat.le_of_ble_eq_true rfl⟩) (pV (pxS hK hP hD [1, 2] (by decide) rfl) hK hP 1 rfl rfl) rfl rfl hl.1 rfl (lv_room (Nat.le_of_ble_eq_true rfl)) dX11_feed_53 ⟨Nat.le_of_ble_eq_true rfl, Nat.le_of_ble_eq_true rfl⟩) hP hD hS hA [1, 2] [none, some 0, some 1] rfl (by decide +kernel) (fun _ => rfl) (fun u_17 H locs wr_16 hP hD hS => ?_)
    obtain ⟨tu_17, tb_17⟩ := u_17
    have hz_17_0 : tu_17 = tu_14 + 4 := wr_16.1
    have hz_17_1 : tb_17 = put4 tb_14 tu_14 n5 := wr_16.2
    have hPD := pd_mk (ws := [(a 0, .inr (11, [.ref (a 1), .ref (a 2), .ref (a 3), .ref (a 4), .ref (a 5), .ref (a 6), .ref (a 7), .ref (a 8), .ref (a 9), .ref (a 10), .ref (a 11), .ref (a 12), .int ap])), (a 1, .inr (8, [.ref (a 17), .int (nI tu_17)])), (a 17, .inl (cB, 220, .inl tb_17))]) hP hD
    have hP := hPD.1
    have hD := hPD.2
    refine lv_aload_n hx hb dX11_feed_56 rfl (lv_at hl 0 rfl) ?_
    refine va_get (D := D) (ci := 11) (v := .ref (a 1)) (C := RX11) (T := TX11) (N := 13) hx hb hts inT_X11 hown hK.1 hP 0 rfl rfl 0 (by decide) (hts _ k_483) (fun _ h9 => h9) rfl dX11_feed_57 ?_
    refine va_getN (D := D) (ci := 8) (v := .int (nI tu_17)) (C := RX8) (T := TX8) (N := 2) hx hb hts inT_X8 hown hK.1 hP 1 rfl rfl 1 (by decide) (va_Nw.use rfl (hK.2.2.1 _ n_152)) (fun _ h9 => h9) rfl dX11_feed_60 ?_
    rw [hQ]
    exact W.iret (v := nI tu_17) hx hb hr (fun tt9 ht hW => ⟨⟨(nI tu_17 : Int32), ((tu_17 : Nat), (tb_17 : Nat → Int32)), rfl, (lf_X11_feed_m_18 a ap tu tb n1 n2 n3 n4 n5 htu hro2 hle tu_5 tb_5 hz_5_0 hz_5_1 tu_8 tb_8 hz_8_0 hz_8_1 tu_11 tb_11 hz_11_0 hz_11_1 tu_14 tb_14 hz_14_0 hz_14_1 tu_17 tb_17 hz_17_0 hz_17_1), ⟨by rw [ht]; exact hP, hD⟩⟩, hS.F ht⟩) hS.2.2 dX11_feed_63 hlocks
  · have hle : ¬ tu ≤ 200 := ro_n htu hro2
    refine lv_if_ne (tgt := 14) hx hb dX11_feed_9 (by decide) (fun c => absurd c (by decide)) (fun _ => ?_)
    refine lv_iconst (v := (-1)) hx hb dX11_feed_12 (by decide) ?_
    rw [hQ]
    exact W.iret (v := (-1)) hx hb hr (fun tt9 ht hW => ⟨⟨((-1) : Int32), ((tu : Nat), (tb : Nat → Int32)), rfl, (lf_X11_feed_m_19 a ap tu tb n1 n2 n3 n4 n5 htu hro2 hle), ⟨by rw [ht]; exact hP, hD⟩⟩, hS.F ht⟩) hS.2.2 dX11_feed_13 hlocks

theorem lf_X11_seed_m_3 (a : Nat → Nat) (ap : Int32) (sn : Nat) (sk : Nat) (scu : Int32) (sch : Int32) (n1 : Int32) (c_2 : (0 : Int32) ≤ n1 ∧ n1 ≤ 65535) (tn1 : Nat) (tn1a : 0 ≤ tn1) (tn1b : tn1 ≤ 65535) (tn1e : n1 = nI tn1) : ((nI tn1 : Int32) = seF n1 sch) := by
  first | exact seF_y (by assumption) (by first | rfl | assumption | exact tn1e.symm) | exact seF_n (by assumption)
theorem lf_X11_seed_m_4 (a : Nat → Nat) (ap : Int32) (sn : Nat) (sk : Nat) (scu : Int32) (sch : Int32) (n1 : Int32) (c_2 : ¬ ((0 : Int32) ≤ n1 ∧ n1 ≤ 65535)) : ((sch : Int32) = seF n1 sch) := by
  first | exact seF_y (by assumption) (by first | rfl | assumption | exact tn1e.symm) | exact seF_n (by assumption)
set_option maxHeartbeats 4000000 in
set_option maxRecDepth 100000 in
theorem c_X11_seed_m (l : Launch) (D : va_G) (cI cB cZ cJ : ClassId) (tx : List (ClassId × FieldType)) (a : Nat → Nat) (ap : Int32) (sn : Nat) (sk : Nat) (scu : Int32) (sch : Int32) (n1 : Int32) : WrI l D cI cB cZ cJ tx yX11_seed cX11_seed 2 (some .boolean) 1 0 0 [.ref (a 0), .int n1] [(a 0, .inr (11, [.ref (a 1), .ref (a 2), .ref (a 3), .ref (a 4), .ref (a 5), .ref (a 6), .ref (a 7), .ref (a 8), .ref (a 9), .ref (a 10), .ref (a 11), .ref (a 12), .int ap])), (a 5, .inr (4, [.ref (a 18), .ref (a 19), .ref (a 20), .ref (a 21), .ref (a 22), .ref (a 23), .ref (a 24), .int (nI sn), .int (nI sk), .int scu, .int sch]))] (fun (r : Int32) (v : (Int32)) => (v = seF n1 sch)) (fun v => [(a 0, .inr (11, [.ref (a 1), .ref (a 2), .ref (a 3), .ref (a 4), .ref (a 5), .ref (a 6), .ref (a 7), .ref (a 8), .ref (a 9), .ref (a 10), .ref (a 11), .ref (a 12), .int ap])), (a 5, .inr (4, [.ref (a 18), .ref (a 19), .ref (a 20), .ref (a 21), .ref (a 22), .ref (a 23), .ref (a 24), .int (nI sn), .int (nI sk), .int scu, .int v]))]) := by
  refine wri_of2 (by decide) (Nat.le_of_ble_eq_true rfl) ?_
  intro p e s m below meth c A ls H locs hC hK hP hD hA hS hl
  obtain ⟨hx, hb, hr, hml, hown, hts, hlocks, hin⟩ := hC
  have hown : s.vm.findClass RX11 = some m.cls := hown
  have hl : lv_has ls 2 [(0, .ref (a 0)), (1, .int n1)] := hl
  refine W_gQ (fun Q hQ => ?_)
  refine lv_iload_n hx hb dX11_seed_0 rfl (lv_at hl 1 rfl) ?_
  refine lv_iconst (v := 0) hx hb dX11_seed_1 (by decide) ?_
  refine lv_ldc (v := 65535) hx hb hown (hts _ k_534) dX11_seed_2 ?_
  refine eRi (va_runS (As := [.int n1, .int 0, .int 65535]) (rest := []) ⟨hx, hb, hml, hown, hts⟩ (c_X11_within l D cI cB cZ cJ tx n1 0 65535 H.size) (zS hts k_527 v_X11_within ⟨Nat.le_of_ble_eq_true rfl, Nat.le_of_ble_eq_true rfl⟩) (px0 hK) rfl rfl hl.1 rfl (lv_room (Nat.le_of_ble_eq_true rfl)) dX11_seed_4 ⟨Nat.le_of_ble_eq_true rfl, Nat.le_of_ble_eq_true rfl⟩) hP hS hA (fun r_1 H locs wr_1 hP hS => ?_)
  subst wr_1
  refine lv_bi_ne (tgt := 12) hx hb dX11_seed_7 (by decide) (fun c_2 => ?_) (fun c_2 => ?_)
  · obtain ⟨tn1, tn1a, tn1b, tn1e⟩ := of_rng 0 65535 rfl rfl c_2
    subst tn1e
    refine lv_aload_n hx hb dX11_seed_12 rfl (lv_at hl 0 rfl) ?_
    refine va_get (D := D) (ci := 11) (v := .ref (a 5)) (C := RX11) (T := TX11) (N := 13) hx hb hts inT_X11 hown hK.1 hP 0 rfl rfl 4 (by decide) (hts _ k_487) (fun _ h9 => h9) rfl dX11_seed_13 ?_
    refine lv_iload_n hx hb dX11_seed_16 rfl (lv_at hl 1 rfl) ?_
    refine va_putN (D := D) (ci := 4) (v := .int (nI tn1)) (ty := .int) (C := RX4) (T := TX4) (N := 11) hx hb hts inT_X4 tyX4 tyX4_ok nmX4 hown hK.1 hP hD hS 1 rfl rfl 10 (by decide) (va_Nw.use rfl (hK.2.2.1 _ n_263)) (fun _ h9 => h9) rfl (by decide +kernel) rfl rfl (Nat.le_of_ble_eq_true rfl) dX11_seed_17 (fun H locs hP hD hS => ?_)
    have hPD := pd_mk (ws := [(a 0, .inr (11, [.ref (a 1), .ref (a 2), .ref (a 3), .ref (a 4), .ref (a 5), .ref (a 6), .ref (a 7), .ref (a 8), .ref (a 9), .ref (a 10), .ref (a 11), .ref (a 12), .int ap])), (a 5, .inr (4, [.ref (a 18), .ref (a 19), .ref (a 20), .ref (a 21), .ref (a 22), .ref (a 23), .ref (a 24), .int (nI sn), .int (nI sk), .int scu, .int (nI tn1)]))]) hP hD
    have hP := hPD.1
    have hD := hPD.2
    refine lv_iconst (v := 1) hx hb dX11_seed_20 (by decide) ?_
    rw [hQ]
    exact W.zret (v := 1) hx hb hr (by decide) (fun tt9 ht hW => ⟨⟨(1 : Int32), ((nI tn1 : Int32)), rfl, (lf_X11_seed_m_3 a ap sn sk scu sch (nI tn1) c_2 tn1 tn1a tn1b rfl), ⟨by rw [ht]; exact hP, hD⟩⟩, hS.F ht⟩) hS.2.2 dX11_seed_21 hlocks
  · refine lv_iconst (v := 0) hx hb dX11_seed_10 (by decide) ?_
    rw [hQ]
    exact W.zret (v := 0) hx hb hr (by decide) (fun tt9 ht hW => ⟨⟨(0 : Int32), ((sch : Int32)), rfl, (lf_X11_seed_m_4 a ap sn sk scu sch n1 c_2), ⟨by rw [ht]; exact hP, hD⟩⟩, hS.F ht⟩) hS.2.2 dX11_seed_11 hlocks

theorem lf_X11_mound_m_3 (a : Nat → Nat) (ap : Int32) (sn : Nat) (sk : Nat) (scu : Int32) (sch : Int32) (g4 : Nat → Int32) (n1 : Int32) (n2 : Int32) (c_2 : ¬ ((0 : Int32) ≤ n1 ∧ n1 ≤ 23)) : ((g4 : Nat → Int32) = mdF n1 n2 g4) := by
  first | exact mdF_1 (by assumption) | exact mdF_2 (by assumption) | exact mdF_y (by assumption) (by assumption) tn1e (by omega) (by assumption) (by first | rfl | assumption | exact tn2e.symm)
theorem lf_X11_mound_m_7 (a : Nat → Nat) (ap : Int32) (sn : Nat) (sk : Nat) (scu : Int32) (sch : Int32) (g4 : Nat → Int32) (n1 : Int32) (n2 : Int32) (c_2 : (0 : Int32) ≤ n1 ∧ n1 ≤ 23) (tn1 : Nat) (tn1a : 0 ≤ tn1) (tn1b : tn1 ≤ 23) (tn1e : n1 = nI tn1) (c_5 : (0 : Int32) ≤ n2 ∧ n2 ≤ 1000) (tn2 : Nat) (tn2a : 0 ≤ tn2) (tn2b : tn2 ≤ 1000) (tn2e : n2 = nI tn2) : tn1 < 24 := by
  omega
theorem lf_X11_mound_m_8 (a : Nat → Nat) (ap : Int32) (sn : Nat) (sk : Nat) (scu : Int32) (sch : Int32) (g4 : Nat → Int32) (n1 : Int32) (n2 : Int32) (c_2 : (0 : Int32) ≤ n1 ∧ n1 ≤ 23) (tn1 : Nat) (tn1a : 0 ≤ tn1) (tn1b : tn1 ≤ 23) (tn1e : n1 = nI tn1) (c_5 : (0 : Int32) ≤ n2 ∧ n2 ≤ 1000) (tn2 : Nat) (tn2a : 0 ≤ tn2) (tn2b : tn2 ≤ 1000) (tn2e : n2 = nI tn2) (f_6 : Nat → Int32) (ef_6 : f_6 = upd g4 tn1 (nI tn2)) : ((f_6 : Nat → Int32) = mdF n1 n2 g4) := by
  first | exact mdF_1 (by assumption) | exact mdF_2 (by assumption) | exact mdF_y (by assumption) (by assumption) tn1e (by omega) (by assumption) (by first | rfl | assumption | exact tn2e.symm)
theorem lf_X11_mound_m_9 (a : Nat → Nat) (ap : Int32) (sn : Nat) (sk : Nat) (scu : Int32) (sch : Int32) (g4 : Nat → Int32) (n1 : Int32) (n2 : Int32) (c_2 : (0 : Int32) ≤ n1 ∧ n1 ≤ 23) (tn1 : Nat) (tn1a : 0 ≤ tn1) (tn1b : tn1 ≤ 23) (tn1e : n1 = nI tn1) (c_5 : ¬ ((0 : Int32) ≤ n2 ∧ n2 ≤ 1000)) : ((g4 : Nat → Int32) = mdF n1 n2 g4) := by
  first | exact mdF_1 (by assumption) | exact mdF_2 (by assumption) | exact mdF_y (by assumption) (by assumption) tn1e (by omega) (by assumption) (by first | rfl | assumption | exact tn2e.symm)
set_option maxHeartbeats 4000000 in
set_option maxRecDepth 100000 in
theorem c_X11_mound_m (l : Launch) (D : va_G) (cI cB cZ cJ : ClassId) (tx : List (ClassId × FieldType)) (a : Nat → Nat) (ap : Int32) (sn : Nat) (sk : Nat) (scu : Int32) (sch : Int32) (g4 : Nat → Int32) (n1 : Int32) (n2 : Int32) : WrI l D cI cB cZ cJ tx yX11_mound cX11_mound 3 (some .boolean) 1 0 0 [.ref (a 0), .int n1, .int n2] [(a 0, .inr (11, [.ref (a 1), .ref (a 2), .ref (a 3), .ref (a 4), .ref (a 5), .ref (a 6), .ref (a 7), .ref (a 8), .ref (a 9), .ref (a 10), .ref (a 11), .ref (a 12), .int ap])), (a 5, .inr (4, [.ref (a 18), .ref (a 19), .ref (a 20), .ref (a 21), .ref (a 22), .ref (a 23), .ref (a 24), .int (nI sn), .int (nI sk), .int scu, .int sch])), (a 22, .inl (cI, 24, .inl g4))] (fun (r : Int32) (v : (Nat → Int32)) => (v = mdF n1 n2 g4)) (fun v => [(a 0, .inr (11, [.ref (a 1), .ref (a 2), .ref (a 3), .ref (a 4), .ref (a 5), .ref (a 6), .ref (a 7), .ref (a 8), .ref (a 9), .ref (a 10), .ref (a 11), .ref (a 12), .int ap])), (a 5, .inr (4, [.ref (a 18), .ref (a 19), .ref (a 20), .ref (a 21), .ref (a 22), .ref (a 23), .ref (a 24), .int (nI sn), .int (nI sk), .int scu, .int sch])), (a 22, .inl (cI, 24, .inl v))]) := by
  refine wri_of2 (by decide) (Nat.le_of_ble_eq_true rfl) ?_
  intro p e s m below meth c A ls H locs hC hK hP hD hA hS hl
  obtain ⟨hx, hb, hr, hml, hown, hts, hlocks, hin⟩ := hC
  have hown : s.vm.findClass RX11 = some m.cls := hown
  have hl : lv_has ls 3 [(0, .ref (a 0)), (1, .int n1), (2, .int n2)] := hl
  refine W_gQ (fun Q hQ => ?_)
  refine lv_iload_n hx hb dX11_mound_0 rfl (lv_at hl 1 rfl) ?_
  refine lv_iconst (v := 0) hx hb dX11_mound_1 (by decide) ?_
  refine lv_bipush (v := 23) hx hb dX11_mound_2 (by decide) ?_
  refine eRi (va_runS (As := [.int n1, .int 0, .int 23]) (rest := []) ⟨hx, hb, hml, hown, hts⟩ (c_X11_within l D cI cB cZ cJ tx n1 0 23 H.size) (zS hts k_527 v_X11_within ⟨Nat.le_of_ble_eq_true rfl, Nat.le_of_ble_eq_true rfl⟩) (px0 hK) rfl rfl hl.1 rfl (lv_room (Nat.le_of_ble_eq_true rfl)) dX11_mound_4 ⟨Nat.le_of_ble_eq_true rfl, Nat.le_of_ble_eq_true rfl⟩) hP hS hA (fun r_1 H locs wr_1 hP hS => ?_)
  subst wr_1
  refine lv_bi_eq (tgt := 21) hx hb dX11_mound_7 (by decide) (fun c_2 => ?_) (fun c_2 => ?_)
  · refine lv_iconst (v := 0) hx hb dX11_mound_21 (by decide) ?_
    rw [hQ]
    exact W.zret (v := 0) hx hb hr (by decide) (fun tt9 ht hW => ⟨⟨(0 : Int32), ((g4 : Nat → Int32)), rfl, (lf_X11_mound_m_3 a ap sn sk scu sch g4 n1 n2 c_2), ⟨by rw [ht]; exact hP, hD⟩⟩, hS.F ht⟩) hS.2.2 dX11_mound_22 hlocks
  · obtain ⟨tn1, tn1a, tn1b, tn1e⟩ := of_rng 0 23 rfl rfl c_2
    subst tn1e
    refine lv_iload_n hx hb dX11_mound_10 rfl (lv_at hl 2 rfl) ?_
    refine lv_iconst (v := 0) hx hb dX11_mound_11 (by decide) ?_
    refine lv_sipush (v := 1000) hx hb dX11_mound_12 (by decide) ?_
    refine eRi (va_runS (As := [.int n2, .int 0, .int 1000]) (rest := []) ⟨hx, hb, hml, hown, hts⟩ (c_X11_within l D cI cB cZ cJ tx n2 0 1000 H.size) (zS hts k_527 v_X11_within ⟨Nat.le_of_ble_eq_true rfl, Nat.le_of_ble_eq_true rfl⟩) (px0 hK) rfl rfl hl.1 rfl (lv_room (Nat.le_of_ble_eq_true rfl)) dX11_mound_15 ⟨Nat.le_of_ble_eq_true rfl, Nat.le_of_ble_eq_true rfl⟩) hP hS hA (fun r_4 H locs wr_4 hP hS => ?_)
    subst wr_4
    refine lv_bi_ne (tgt := 23) hx hb dX11_mound_18 (by decide) (fun c_5 => ?_) (fun c_5 => ?_)
    · obtain ⟨tn2, tn2a, tn2b, tn2e⟩ := of_rng 0 1000 rfl rfl c_5
      subst tn2e
      refine lv_aload_n hx hb dX11_mound_23 rfl (lv_at hl 0 rfl) ?_
      refine va_get (D := D) (ci := 11) (v := .ref (a 5)) (C := RX11) (T := TX11) (N := 13) hx hb hts inT_X11 hown hK.1 hP 0 rfl rfl 4 (by decide) (hts _ k_487) (fun _ h9 => h9) rfl dX11_mound_24 ?_
      refine va_getN (D := D) (ci := 4) (v := .ref (a 22)) (C := RX4) (T := TX4) (N := 11) hx hb hts inT_X4 hown hK.1 hP 1 rfl rfl 4 (by decide) (va_Nw.use rfl (hK.2.2.1 _ n_244)) (fun _ h9 => h9) rfl dX11_mound_27 ?_
      refine lv_iload_n hx hb dX11_mound_30 rfl (lv_at hl 1 rfl) ?_
      refine lv_iload_n hx hb dX11_mound_31 rfl (lv_at hl 2 rfl) ?_
      refine su_i (j := tn1) hx hb hK hP hD hS 2 rfl (lf_X11_mound_m_7 a ap sn sk scu sch g4 (nI tn1) (nI tn2) c_2 tn1 tn1a tn1b rfl c_5 tn2 tn2a tn2b rfl) (by first | decide | assumption) dX11_mound_32 (fun f_6 H locs ef_6 hP hD hS => ?_)
      have hPD := pd_mk (ws := [(a 0, .inr (11, [.ref (a 1), .ref (a 2), .ref (a 3), .ref (a 4), .ref (a 5), .ref (a 6), .ref (a 7), .ref (a 8), .ref (a 9), .ref (a 10), .ref (a 11), .ref (a 12), .int ap])), (a 5, .inr (4, [.ref (a 18), .ref (a 19), .ref (a 20), .ref (a 21), .ref (a 22), .ref (a 23), .ref (a 24), .int (nI sn), .int (nI sk), .int scu, .int sch])), (a 22, .inl (cI, 24, .inl f_6))]) hP hD
      have hP := hPD.1
      have hD := hPD.2
      refine lv_iconst (v := 1) hx hb dX11_mound_33 (by decide) ?_
      rw [hQ]
      exact W.zret (v := 1) hx hb hr (by decide) (fun tt9 ht hW => ⟨⟨(1 : Int32), ((f_6 : Nat → Int32)), rfl, (lf_X11_mound_m_8 a ap sn sk scu sch g4 (nI tn1) (nI tn2) c_2 tn1 tn1a tn1b rfl c_5 tn2 tn2a tn2b rfl f_6 ef_6), ⟨by rw [ht]; exact hP, hD⟩⟩, hS.F ht⟩) hS.2.2 dX11_mound_34 hlocks
    · refine lv_iconst (v := 0) hx hb dX11_mound_21 (by decide) ?_
      rw [hQ]
      exact W.zret (v := 0) hx hb hr (by decide) (fun tt9 ht hW => ⟨⟨(0 : Int32), ((g4 : Nat → Int32)), rfl, (lf_X11_mound_m_9 a ap sn sk scu sch g4 (nI tn1) n2 c_2 tn1 tn1a tn1b rfl c_5), ⟨by rw [ht]; exact hP, hD⟩⟩, hS.F ht⟩) hS.2.2 dX11_mound_22 hlocks

theorem lf_X4_tell_t_2 (a : Nat → Nat) (sn : Nat) (sk : Nat) (scu : Int32) (sch : Int32) (g0 : Nat → Int32) (g1 : Nat → Int32) (g3 : Nat → Int32) (g5 : Nat → Int32) (x1 : Nat) (x2 : Nat) (n3 : Int32) (n4 : Int32) (hx1 : x1 < 384) (hx2 : x2 < 8) : x1 < 384 := by
  omega
theorem lf_X4_tell_t_4 (a : Nat → Nat) (sn : Nat) (sk : Nat) (scu : Int32) (sch : Int32) (g0 : Nat → Int32) (g1 : Nat → Int32) (g3 : Nat → Int32) (g5 : Nat → Int32) (x1 : Nat) (x2 : Nat) (n3 : Int32) (n4 : Int32) (hx1 : x1 < 384) (hx2 : x2 < 8) (f_1 : Nat → Int32) (ef_1 : f_1 = upd g0 x1 n3) : x1 < 384 := by
  omega
theorem lf_X4_tell_t_6 (a : Nat → Nat) (sn : Nat) (sk : Nat) (scu : Int32) (sch : Int32) (g0 : Nat → Int32) (g1 : Nat → Int32) (g3 : Nat → Int32) (g5 : Nat → Int32) (x1 : Nat) (x2 : Nat) (n3 : Int32) (n4 : Int32) (hx1 : x1 < 384) (hx2 : x2 < 8) (f_1 : Nat → Int32) (ef_1 : f_1 = upd g0 x1 n3) (f_3 : Nat → Int32) (ef_3 : f_3 = upd g1 x1 n4) : x1 < 384 := by
  omega
theorem lf_X4_tell_t_7 (a : Nat → Nat) (sn : Nat) (sk : Nat) (scu : Int32) (sch : Int32) (g0 : Nat → Int32) (g1 : Nat → Int32) (g3 : Nat → Int32) (g5 : Nat → Int32) (x1 : Nat) (x2 : Nat) (n3 : Int32) (n4 : Int32) (hx1 : x1 < 384) (hx2 : x2 < 8) (f_1 : Nat → Int32) (ef_1 : f_1 = upd g0 x1 n3) (f_3 : Nat → Int32) (ef_3 : f_3 = upd g1 x1 n4) (f_5 : Nat → Int32) (ef_5 : f_5 = upd g3 x1 (vp_nar .boolean 0)) : x2 < 8 := by
  omega
theorem lf_X4_tell_t_10 (a : Nat → Nat) (sn : Nat) (sk : Nat) (scu : Int32) (sch : Int32) (g0 : Nat → Int32) (g1 : Nat → Int32) (g3 : Nat → Int32) (g5 : Nat → Int32) (x1 : Nat) (x2 : Nat) (n3 : Int32) (n4 : Int32) (hx1 : x1 < 384) (hx2 : x2 < 8) (f_1 : Nat → Int32) (ef_1 : f_1 = upd g0 x1 n3) (f_3 : Nat → Int32) (ef_3 : f_3 = upd g1 x1 n4) (f_5 : Nat → Int32) (ef_5 : f_5 = upd g3 x1 (vp_nar .boolean 0)) (x_8 : Int32) (ex_8 : x_8 = g5 x2 + 1) : x2 < 8 := by
  omega
theorem lf_X4_tell_t_11 (a : Nat → Nat) (sn : Nat) (sk : Nat) (scu : Int32) (sch : Int32) (g0 : Nat → Int32) (g1 : Nat → Int32) (g3 : Nat → Int32) (g5 : Nat → Int32) (x1 : Nat) (x2 : Nat) (n3 : Int32) (n4 : Int32) (hx1 : x1 < 384) (hx2 : x2 < 8) (f_1 : Nat → Int32) (ef_1 : f_1 = upd g0 x1 n3) (f_3 : Nat → Int32) (ef_3 : f_3 = upd g1 x1 n4) (f_5 : Nat → Int32) (ef_5 : f_5 = upd g3 x1 (vp_nar .boolean 0)) (x_8 : Int32) (ex_8 : x_8 = g5 x2 + 1) (f_9 : Nat → Int32) (ef_9 : f_9 = upd g5 x2 x_8) : ((f_1 : Nat → Int32) = upd g0 x1 n3) ∧ ((f_3 : Nat → Int32) = upd g1 x1 n4) ∧ ((f_5 : Nat → Int32) = upd g3 x1 (vp_nar .boolean 0)) ∧ ((f_9 : Nat → Int32) = upd g5 x2 (g5 x2 + 1)) := by
  refine ⟨by assumption, by assumption, by assumption, ?_⟩
  subst_vars
  rfl
set_option maxHeartbeats 4000000 in
set_option maxRecDepth 100000 in
theorem c_X4_tell_t (l : Launch) (D : va_G) (cI cB cZ cJ : ClassId) (tx : List (ClassId × FieldType)) (a : Nat → Nat) (sn : Nat) (sk : Nat) (scu : Int32) (sch : Int32) (g0 : Nat → Int32) (g1 : Nat → Int32) (g3 : Nat → Int32) (g5 : Nat → Int32) (x1 : Nat) (x2 : Nat) (n3 : Int32) (n4 : Int32) (hx1 : x1 < 384) (hx2 : x2 < 8) : WrV l D cI cB cZ cJ tx yX4_tell cX4_tell 5 none 0 0 0 [.ref (a 5), .int (nI x1), .int (nI x2), .int n3, .int n4] [(a 5, .inr (4, [.ref (a 18), .ref (a 19), .ref (a 20), .ref (a 21), .ref (a 22), .ref (a 23), .ref (a 24), .int (nI sn), .int (nI sk), .int scu, .int sch])), (a 18, .inl (cI, 384, .inl g0)), (a 19, .inl (cI, 384, .inl g1)), (a 21, .inl (cZ, 384, .inl g3)), (a 23, .inl (cI, 8, .inl g5))] (fun (v : (Nat → Int32) × (Nat → Int32) × (Nat → Int32) × (Nat → Int32)) => (v.1 = upd g0 x1 n3) ∧ (v.2.1 = upd g1 x1 n4) ∧ (v.2.2.1 = upd g3 x1 (vp_nar .boolean 0)) ∧ (v.2.2.2 = upd g5 x2 (g5 x2 + 1))) (fun v => [(a 5, .inr (4, [.ref (a 18), .ref (a 19), .ref (a 20), .ref (a 21), .ref (a 22), .ref (a 23), .ref (a 24), .int (nI sn), .int (nI sk), .int scu, .int sch])), (a 18, .inl (cI, 384, .inl v.1)), (a 19, .inl (cI, 384, .inl v.2.1)), (a 21, .inl (cZ, 384, .inl v.2.2.1)), (a 23, .inl (cI, 8, .inl v.2.2.2))]) := by
  refine wrv_of2 (by decide) (Nat.le_of_ble_eq_true rfl) ?_
  intro p e s m below meth c A ls H locs hC hK hP hD hA hS hl
  obtain ⟨hx, hb, hr, hml, hown, hts, hlocks, hin⟩ := hC
  have hown : s.vm.findClass RX4 = some m.cls := hown
  have hl : lv_has ls 5 [(0, .ref (a 5)), (1, .int (nI x1)), (2, .int (nI x2)), (3, .int n3), (4, .int n4)] := hl
  refine W_gQ (fun Q hQ => ?_)
  refine lv_aload_n hx hb dX4_tell_0 rfl (lv_at hl 0 rfl) ?_
  refine va_get (D := D) (ci := 4) (v := .ref (a 18)) (C := RX4) (T := TX4) (N := 11) hx hb hts inT_X4 hown hK.1 hP 0 rfl rfl 0 (by decide) (hts _ k_231) (fun _ h9 => h9) rfl dX4_tell_1 ?_
  refine lv_iload_n hx hb dX4_tell_4 rfl (lv_at hl 1 rfl) ?_
  refine lv_iload_n hx hb dX4_tell_5 rfl (lv_at hl 3 rfl) ?_
  refine su_i (j := x1) hx hb hK hP hD hS 1 rfl (lf_X4_tell_t_2 a sn sk scu sch g0 g1 g3 g5 x1 x2 n3 n4 hx1 hx2) (by first | decide | assumption) dX4_tell_6 (fun f_1 H locs ef_1 hP hD hS => ?_)
  have hPD := pd_mk (ws := [(a 5, .inr (4, [.ref (a 18), .ref (a 19), .ref (a 20), .ref (a 21), .ref (a 22), .ref (a 23), .ref (a 24), .int (nI sn), .int (nI sk), .int scu, .int sch])), (a 18, .inl (cI, 384, .inl f_1)), (a 19, .inl (cI, 384, .inl g1)), (a 21, .inl (cZ, 384, .inl g3)), (a 23, .inl (cI, 8, .inl g5))]) hP hD
  have hP := hPD.1
  have hD := hPD.2
  refine lv_aload_n hx hb dX4_tell_7 rfl (lv_at hl 0 rfl) ?_
  refine va_get (D := D) (ci := 4) (v := .ref (a 19)) (C := RX4) (T := TX4) (N := 11) hx hb hts inT_X4 hown hK.1 hP 0 rfl rfl 1 (by decide) (hts _ k_235) (fun _ h9 => h9) rfl dX4_tell_8 ?_
  refine lv_iload_n hx hb dX4_tell_11 rfl (lv_at hl 1 rfl) ?_
  refine lv_iload hx hb dX4_tell_12 (lv_at hl 4 rfl) ?_
  refine su_i (j := x1) hx hb hK hP hD hS 2 rfl (lf_X4_tell_t_4 a sn sk scu sch g0 g1 g3 g5 x1 x2 n3 n4 hx1 hx2 f_1 ef_1) (by first | decide | assumption) dX4_tell_14 (fun f_3 H locs ef_3 hP hD hS => ?_)
  have hPD := pd_mk (ws := [(a 5, .inr (4, [.ref (a 18), .ref (a 19), .ref (a 20), .ref (a 21), .ref (a 22), .ref (a 23), .ref (a 24), .int (nI sn), .int (nI sk), .int scu, .int sch])), (a 18, .inl (cI, 384, .inl f_1)), (a 19, .inl (cI, 384, .inl f_3)), (a 21, .inl (cZ, 384, .inl g3)), (a 23, .inl (cI, 8, .inl g5))]) hP hD
  have hP := hPD.1
  have hD := hPD.2
  refine lv_aload_n hx hb dX4_tell_15 rfl (lv_at hl 0 rfl) ?_
  refine va_get (D := D) (ci := 4) (v := .ref (a 21)) (C := RX4) (T := TX4) (N := 11) hx hb hts inT_X4 hown hK.1 hP 0 rfl rfl 3 (by decide) (hts _ k_241) (fun _ h9 => h9) rfl dX4_tell_16 ?_
  refine lv_iload_n hx hb dX4_tell_19 rfl (lv_at hl 1 rfl) ?_
  refine lv_iconst (v := 0) hx hb dX4_tell_20 (by decide) ?_
  refine su_z (j := x1) hx hb hK hP hD hS 3 rfl (lf_X4_tell_t_6 a sn sk scu sch g0 g1 g3 g5 x1 x2 n3 n4 hx1 hx2 f_1 ef_1 f_3 ef_3) (by first | decide | assumption) dX4_tell_21 (fun f_5 H locs ef_5 hP hD hS => ?_)
  have hPD := pd_mk (ws := [(a 5, .inr (4, [.ref (a 18), .ref (a 19), .ref (a 20), .ref (a 21), .ref (a 22), .ref (a 23), .ref (a 24), .int (nI sn), .int (nI sk), .int scu, .int sch])), (a 18, .inl (cI, 384, .inl f_1)), (a 19, .inl (cI, 384, .inl f_3)), (a 21, .inl (cZ, 384, .inl f_5)), (a 23, .inl (cI, 8, .inl g5))]) hP hD
  have hP := hPD.1
  have hD := hPD.2
  refine lv_aload_n hx hb dX4_tell_22 rfl (lv_at hl 0 rfl) ?_
  refine va_get (D := D) (ci := 4) (v := .ref (a 23)) (C := RX4) (T := TX4) (N := 11) hx hb hts inT_X4 hown hK.1 hP 0 rfl rfl 5 (by decide) (hts _ k_245) (fun _ h9 => h9) rfl dX4_tell_23 ?_
  refine lv_iload_n hx hb dX4_tell_26 rfl (lv_at hl 2 rfl) ?_
  refine lv_dup2_11 hx hb dX4_tell_27 rfl rfl ?_
  refine lt_i (j := x2) hx hb hK hP 4 rfl (lf_X4_tell_t_7 a sn sk scu sch g0 g1 g3 g5 x1 x2 n3 n4 hx1 hx2 f_1 ef_1 f_3 ef_3 f_5 ef_5) (by decide) dX4_tell_28 ?_
  refine lv_iconst (v := 1) hx hb dX4_tell_29 (by decide) ?_
  refine lv_iadd hx hb dX4_tell_30 ?_
  refine lv_topi (fun x_8 ex_8 => ?_)
  refine su_i (j := x2) hx hb hK hP hD hS 4 rfl (lf_X4_tell_t_10 a sn sk scu sch g0 g1 g3 g5 x1 x2 n3 n4 hx1 hx2 f_1 ef_1 f_3 ef_3 f_5 ef_5 x_8 ex_8) (by first | decide | assumption) dX4_tell_31 (fun f_9 H locs ef_9 hP hD hS => ?_)
  have hPD := pd_mk (ws := [(a 5, .inr (4, [.ref (a 18), .ref (a 19), .ref (a 20), .ref (a 21), .ref (a 22), .ref (a 23), .ref (a 24), .int (nI sn), .int (nI sk), .int scu, .int sch])), (a 18, .inl (cI, 384, .inl f_1)), (a 19, .inl (cI, 384, .inl f_3)), (a 21, .inl (cZ, 384, .inl f_5)), (a 23, .inl (cI, 8, .inl f_9))]) hP hD
  have hP := hPD.1
  have hD := hPD.2
  rw [hQ]
  exact W.vret hx hb hr (fun tt9 ht hW => ⟨⟨((f_1 : Nat → Int32), (f_3 : Nat → Int32), (f_5 : Nat → Int32), (f_9 : Nat → Int32)), rfl, (lf_X4_tell_t_11 a sn sk scu sch g0 g1 g3 g5 x1 x2 n3 n4 hx1 hx2 f_1 ef_1 f_3 ef_3 f_5 ef_5 x_8 ex_8 f_9 ef_9), ⟨by rw [ht]; exact hP, hD⟩⟩, hS.F ht⟩) hS.2.2 dX4_tell_32 hlocks

theorem lf_X4_lose_t_2 (a : Nat → Nat) (sn : Nat) (sk : Nat) (scu : Int32) (sch : Int32) (g3 : Nat → Int32) (g5 : Nat → Int32) (x1 : Nat) (x2 : Nat) (hx1 : x1 < 384) (hx2 : x2 < 8) : x1 < 384 := by
  omega
theorem lf_X4_lose_t_3 (a : Nat → Nat) (sn : Nat) (sk : Nat) (scu : Int32) (sch : Int32) (g3 : Nat → Int32) (g5 : Nat → Int32) (x1 : Nat) (x2 : Nat) (hx1 : x1 < 384) (hx2 : x2 < 8) (f_1 : Nat → Int32) (ef_1 : f_1 = upd g3 x1 (vp_nar .boolean 1)) : x2 < 8 := by
  omega
theorem lf_X4_lose_t_6 (a : Nat → Nat) (sn : Nat) (sk : Nat) (scu : Int32) (sch : Int32) (g3 : Nat → Int32) (g5 : Nat → Int32) (x1 : Nat) (x2 : Nat) (hx1 : x1 < 384) (hx2 : x2 < 8) (f_1 : Nat → Int32) (ef_1 : f_1 = upd g3 x1 (vp_nar .boolean 1)) (x_4 : Int32) (ex_4 : x_4 = g5 x2 + 1) : x2 < 8 := by
  omega
theorem lf_X4_lose_t_7 (a : Nat → Nat) (sn : Nat) (sk : Nat) (scu : Int32) (sch : Int32) (g3 : Nat → Int32) (g5 : Nat → Int32) (x1 : Nat) (x2 : Nat) (hx1 : x1 < 384) (hx2 : x2 < 8) (f_1 : Nat → Int32) (ef_1 : f_1 = upd g3 x1 (vp_nar .boolean 1)) (x_4 : Int32) (ex_4 : x_4 = g5 x2 + 1) (f_5 : Nat → Int32) (ef_5 : f_5 = upd g5 x2 x_4) : ((f_1 : Nat → Int32) = upd g3 x1 (vp_nar .boolean 1)) ∧ ((f_5 : Nat → Int32) = upd g5 x2 (g5 x2 + 1)) := by
  refine ⟨by assumption, ?_⟩
  subst_vars
  rfl
set_option maxHeartbeats 4000000 in
set_option maxRecDepth 100000 in
theorem c_X4_lose_t (l : Launch) (D : va_G) (cI cB cZ cJ : ClassId) (tx : List (ClassId × FieldType)) (a : Nat → Nat) (sn : Nat) (sk : Nat) (scu : Int32) (sch : Int32) (g3 : Nat → Int32) (g5 : Nat → Int32) (x1 : Nat) (x2 : Nat) (hx1 : x1 < 384) (hx2 : x2 < 8) : WrV l D cI cB cZ cJ tx yX4_lose cX4_lose 3 none 0 0 0 [.ref (a 5), .int (nI x1), .int (nI x2)] [(a 5, .inr (4, [.ref (a 18), .ref (a 19), .ref (a 20), .ref (a 21), .ref (a 22), .ref (a 23), .ref (a 24), .int (nI sn), .int (nI sk), .int scu, .int sch])), (a 21, .inl (cZ, 384, .inl g3)), (a 23, .inl (cI, 8, .inl g5))] (fun (v : (Nat → Int32) × (Nat → Int32)) => (v.1 = upd g3 x1 (vp_nar .boolean 1)) ∧ (v.2 = upd g5 x2 (g5 x2 + 1))) (fun v => [(a 5, .inr (4, [.ref (a 18), .ref (a 19), .ref (a 20), .ref (a 21), .ref (a 22), .ref (a 23), .ref (a 24), .int (nI sn), .int (nI sk), .int scu, .int sch])), (a 21, .inl (cZ, 384, .inl v.1)), (a 23, .inl (cI, 8, .inl v.2))]) := by
  refine wrv_of2 (by decide) (Nat.le_of_ble_eq_true rfl) ?_
  intro p e s m below meth c A ls H locs hC hK hP hD hA hS hl
  obtain ⟨hx, hb, hr, hml, hown, hts, hlocks, hin⟩ := hC
  have hown : s.vm.findClass RX4 = some m.cls := hown
  have hl : lv_has ls 3 [(0, .ref (a 5)), (1, .int (nI x1)), (2, .int (nI x2))] := hl
  refine W_gQ (fun Q hQ => ?_)
  refine lv_aload_n hx hb dX4_lose_0 rfl (lv_at hl 0 rfl) ?_
  refine va_get (D := D) (ci := 4) (v := .ref (a 21)) (C := RX4) (T := TX4) (N := 11) hx hb hts inT_X4 hown hK.1 hP 0 rfl rfl 3 (by decide) (hts _ k_241) (fun _ h9 => h9) rfl dX4_lose_1 ?_
  refine lv_iload_n hx hb dX4_lose_4 rfl (lv_at hl 1 rfl) ?_
  refine lv_iconst (v := 1) hx hb dX4_lose_5 (by decide) ?_
  refine su_z (j := x1) hx hb hK hP hD hS 1 rfl (lf_X4_lose_t_2 a sn sk scu sch g3 g5 x1 x2 hx1 hx2) (by first | decide | assumption) dX4_lose_6 (fun f_1 H locs ef_1 hP hD hS => ?_)
  have hPD := pd_mk (ws := [(a 5, .inr (4, [.ref (a 18), .ref (a 19), .ref (a 20), .ref (a 21), .ref (a 22), .ref (a 23), .ref (a 24), .int (nI sn), .int (nI sk), .int scu, .int sch])), (a 21, .inl (cZ, 384, .inl f_1)), (a 23, .inl (cI, 8, .inl g5))]) hP hD
  have hP := hPD.1
  have hD := hPD.2
  refine lv_aload_n hx hb dX4_lose_7 rfl (lv_at hl 0 rfl) ?_
  refine va_get (D := D) (ci := 4) (v := .ref (a 23)) (C := RX4) (T := TX4) (N := 11) hx hb hts inT_X4 hown hK.1 hP 0 rfl rfl 5 (by decide) (hts _ k_245) (fun _ h9 => h9) rfl dX4_lose_8 ?_
  refine lv_iload_n hx hb dX4_lose_11 rfl (lv_at hl 2 rfl) ?_
  refine lv_dup2_11 hx hb dX4_lose_12 rfl rfl ?_
  refine lt_i (j := x2) hx hb hK hP 2 rfl (lf_X4_lose_t_3 a sn sk scu sch g3 g5 x1 x2 hx1 hx2 f_1 ef_1) (by decide) dX4_lose_13 ?_
  refine lv_iconst (v := 1) hx hb dX4_lose_14 (by decide) ?_
  refine lv_iadd hx hb dX4_lose_15 ?_
  refine lv_topi (fun x_4 ex_4 => ?_)
  refine su_i (j := x2) hx hb hK hP hD hS 2 rfl (lf_X4_lose_t_6 a sn sk scu sch g3 g5 x1 x2 hx1 hx2 f_1 ef_1 x_4 ex_4) (by first | decide | assumption) dX4_lose_16 (fun f_5 H locs ef_5 hP hD hS => ?_)
  have hPD := pd_mk (ws := [(a 5, .inr (4, [.ref (a 18), .ref (a 19), .ref (a 20), .ref (a 21), .ref (a 22), .ref (a 23), .ref (a 24), .int (nI sn), .int (nI sk), .int scu, .int sch])), (a 21, .inl (cZ, 384, .inl f_1)), (a 23, .inl (cI, 8, .inl f_5))]) hP hD
  have hP := hPD.1
  have hD := hPD.2
  rw [hQ]
  exact W.vret hx hb hr (fun tt9 ht hW => ⟨⟨((f_1 : Nat → Int32), (f_5 : Nat → Int32)), rfl, (lf_X4_lose_t_7 a sn sk scu sch g3 g5 x1 x2 hx1 hx2 f_1 ef_1 x_4 ex_4 f_5 ef_5), ⟨by rw [ht]; exact hP, hD⟩⟩, hS.F ht⟩) hS.2.2 dX4_lose_17 hlocks

theorem lf_X11_lies_m_1 (a : Nat → Nat) (ap : Int32) (sn : Nat) (sk : Nat) (scu : Int32) (sch : Int32) (g0 : Nat → Int32) (g1 : Nat → Int32) (g3 : Nat → Int32) (g5 : Nat → Int32) (n1 : Int32) (n2 : Int32) (n3 : Int32) (n4 : Int32) (n5 : Int32) (hsn : sn ≤ 24) (hsk : sk ≤ 8) : sn ≤ 24 := by
  first | assumption | omega | decide
theorem lf_X11_lies_m_2 (a : Nat → Nat) (ap : Int32) (sn : Nat) (sk : Nat) (scu : Int32) (sch : Int32) (g0 : Nat → Int32) (g1 : Nat → Int32) (g3 : Nat → Int32) (g5 : Nat → Int32) (n1 : Int32) (n2 : Int32) (n3 : Int32) (n4 : Int32) (n5 : Int32) (hsn : sn ≤ 24) (hsk : sk ≤ 8) : sk ≤ 8 := by
  first | assumption | omega | decide
theorem lf_X11_lies_m_4 (a : Nat → Nat) (ap : Int32) (sn : Nat) (sk : Nat) (scu : Int32) (sch : Int32) (g0 : Nat → Int32) (g1 : Nat → Int32) (g3 : Nat → Int32) (g5 : Nat → Int32) (n1 : Int32) (n2 : Int32) (n3 : Int32) (n4 : Int32) (n5 : Int32) (hsn : sn ≤ 24) (hsk : sk ≤ 8) (hrv3 : ¬ RV n1 n2 n3 sn sk) : ((((g0 : Nat → Int32), (g1 : Nat → Int32), (g3 : Nat → Int32)) : T3) = lieF n1 n2 n3 n4 n5 sn sk (g0, g1, g3)) ∧ ((g5 : Nat → Int32) = lieT n1 n2 n3 n4 n5 sn sk g5) := by
  refine ⟨?_, ?_⟩
  · first | exact lie_1 (by assumption) | exact lie_2 (by assumption) | exact lie_3 (by assumption) | exact lie_y (by assumption) (by assumption) (by assumption) (by assumption) (by assumption) (by assumption) hsn hsk (by assumption) (by assumption) (by assumption) (by assumption) (by assumption) (by omega) (by omega) (by omega)
  · first | exact lieT_1 (by assumption) | exact lieT_2 (by assumption) | exact lieT_3 (by assumption) | exact lieT_y (by assumption) (by assumption) (by assumption) (by assumption) (by assumption) (by assumption) hsn hsk (by assumption) (by assumption) (by assumption)
theorem lf_X11_lies_m_5 (a : Nat → Nat) (ap : Int32) (sn : Nat) (sk : Nat) (scu : Int32) (sch : Int32) (g0 : Nat → Int32) (g1 : Nat → Int32) (g3 : Nat → Int32) (g5 : Nat → Int32) (n1 : Int32) (n2 : Int32) (n3 : Int32) (n4 : Int32) (n5 : Int32) (hsn : sn ≤ 24) (hsk : sk ≤ 8) (ff3 : Nat) (ss3 : Nat) (dd3 : Nat) (hff3 : ff3 < sn) (hss3 : ss3 < sk) (hdd3 : dd3 < 2) (eff3 : n1 = nI ff3) (ess3 : n2 = nI ss3) (edd3 : n3 = nI dd3) : ¬ nI ((ff3 * 8 + ss3) * 2 + dd3) < 0 := by
  first | exact nI_pos (by omega) | exact nI_pos' (by omega)
theorem lf_X11_lies_m_8 (a : Nat → Nat) (ap : Int32) (sn : Nat) (sk : Nat) (scu : Int32) (sch : Int32) (g0 : Nat → Int32) (g1 : Nat → Int32) (g3 : Nat → Int32) (g5 : Nat → Int32) (n1 : Int32) (n2 : Int32) (n3 : Int32) (n4 : Int32) (n5 : Int32) (hsn : sn ≤ 24) (hsk : sk ≤ 8) (ff3 : Nat) (ss3 : Nat) (dd3 : Nat) (hff3 : ff3 < sn) (hss3 : ss3 < sk) (hdd3 : dd3 < 2) (eff3 : n1 = nI ff3) (ess3 : n2 = nI ss3) (edd3 : n3 = nI dd3) (c_7 : ¬ (((-3000) : Int32) ≤ n4 ∧ n4 ≤ 3000)) : ((((g0 : Nat → Int32), (g1 : Nat → Int32), (g3 : Nat → Int32)) : T3) = lieF n1 n2 n3 n4 n5 sn sk (g0, g1, g3)) ∧ ((g5 : Nat → Int32) = lieT n1 n2 n3 n4 n5 sn sk g5) := by
  refine ⟨?_, ?_⟩
  · first | exact lie_1 (by assumption) | exact lie_2 (by assumption) | exact lie_3 (by assumption) | exact lie_y (by assumption) (by assumption) (by assumption) (by assumption) (by assumption) (by assumption) hsn hsk (by assumption) (by assumption) (by assumption) (by assumption) (by assumption) (by omega) (by omega) (by omega)
  · first | exact lieT_1 (by assumption) | exact lieT_2 (by assumption) | exact lieT_3 (by assumption) | exact lieT_y (by assumption) (by assumption) (by assumption) (by assumption) (by assumption) (by assumption) hsn hsk (by assumption) (by assumption) (by assumption)
theorem lf_X11_lies_m_11 (a : Nat → Nat) (ap : Int32) (sn : Nat) (sk : Nat) (scu : Int32) (sch : Int32) (g0 : Nat → Int32) (g1 : Nat → Int32) (g3 : Nat → Int32) (g5 : Nat → Int32) (n1 : Int32) (n2 : Int32) (n3 : Int32) (n4 : Int32) (n5 : Int32) (hsn : sn ≤ 24) (hsk : sk ≤ 8) (ff3 : Nat) (ss3 : Nat) (dd3 : Nat) (hff3 : ff3 < sn) (hss3 : ss3 < sk) (hdd3 : dd3 < 2) (eff3 : n1 = nI ff3) (ess3 : n2 = nI ss3) (edd3 : n3 = nI dd3) (c_7 : ((-3000) : Int32) ≤ n4 ∧ n4 ≤ 3000) (c_10 : ((-3000) : Int32) ≤ n5 ∧ n5 ≤ 3000) : ((ff3 * 8 + ss3) * 2 + dd3) < 384 := by
  first | assumption | omega | decide
theorem lf_X11_lies_m_12 (a : Nat → Nat) (ap : Int32) (sn : Nat) (sk : Nat) (scu : Int32) (sch : Int32) (g0 : Nat → Int32) (g1 : Nat → Int32) (g3 : Nat → Int32) (g5 : Nat → Int32) (n1 : Int32) (n2 : Int32) (n3 : Int32) (n4 : Int32) (n5 : Int32) (hsn : sn ≤ 24) (hsk : sk ≤ 8) (ff3 : Nat) (ss3 : Nat) (dd3 : Nat) (hff3 : ff3 < sn) (hss3 : ss3 < sk) (hdd3 : dd3 < 2) (eff3 : n1 = nI ff3) (ess3 : n2 = nI ss3) (edd3 : n3 = nI dd3) (c_7 : ((-3000) : Int32) ≤ n4 ∧ n4 ≤ 3000) (c_10 : ((-3000) : Int32) ≤ n5 ∧ n5 ≤ 3000) : ss3 < 8 := by
  first | assumption | omega | decide
theorem lf_X11_lies_m_15 (a : Nat → Nat) (ap : Int32) (sn : Nat) (sk : Nat) (scu : Int32) (sch : Int32) (g0 : Nat → Int32) (g1 : Nat → Int32) (g3 : Nat → Int32) (g5 : Nat → Int32) (n1 : Int32) (n2 : Int32) (n3 : Int32) (n4 : Int32) (n5 : Int32) (hsn : sn ≤ 24) (hsk : sk ≤ 8) (ff3 : Nat) (ss3 : Nat) (dd3 : Nat) (hff3 : ff3 < sn) (hss3 : ss3 < sk) (hdd3 : dd3 < 2) (eff3 : n1 = nI ff3) (ess3 : n2 = nI ss3) (edd3 : n3 = nI dd3) (c_7 : ((-3000) : Int32) ≤ n4 ∧ n4 ≤ 3000) (c_10 : ((-3000) : Int32) ≤ n5 ∧ n5 ≤ 3000) (g0_14 : Nat → Int32) (g1_14 : Nat → Int32) (g3_14 : Nat → Int32) (g5_14 : Nat → Int32) (hz_14_0 : g0_14 = upd g0 (((ff3 * 8 + ss3) * 2 + dd3)) n4) (hz_14_1 : g1_14 = upd g1 (((ff3 * 8 + ss3) * 2 + dd3)) n5) (hz_14_2 : g3_14 = upd g3 (((ff3 * 8 + ss3) * 2 + dd3)) (vp_nar .boolean 0)) (hz_14_3 : g5_14 = upd g5 ss3 (g5 ss3 + 1)) : ((((g0_14 : Nat → Int32), (g1_14 : Nat → Int32), (g3_14 : Nat → Int32)) : T3) = lieF n1 n2 n3 n4 n5 sn sk (g0, g1, g3)) ∧ ((g5_14 : Nat → Int32) = lieT n1 n2 n3 n4 n5 sn sk g5) := by
  refine ⟨?_, ?_⟩
  · first | exact lie_1 (by assumption) | exact lie_2 (by assumption) | exact lie_3 (by assumption) | exact lie_y (by assumption) (by assumption) (by assumption) (by assumption) (by assumption) (by assumption) hsn hsk (by assumption) (by assumption) (by assumption) (by assumption) (by assumption) (by omega) (by omega) (by omega)
  · first | exact lieT_1 (by assumption) | exact lieT_2 (by assumption) | exact lieT_3 (by assumption) | exact lieT_y (by assumption) (by assumption) (by assumption) (by assumption) (by assumption) (by assumption) hsn hsk (by assumption) (by assumption) (by assumption)
theorem lf_X11_lies_m_16 (a : Nat → Nat) (ap : Int32) (sn : Nat) (sk : Nat) (scu : Int32) (sch : Int32) (g0 : Nat → Int32) (g1 : Nat → Int32) (g3 : Nat → Int32) (g5 : Nat → Int32) (n1 : Int32) (n2 : Int32) (n3 : Int32) (n4 : Int32) (n5 : Int32) (hsn : sn ≤ 24) (hsk : sk ≤ 8) (ff3 : Nat) (ss3 : Nat) (dd3 : Nat) (hff3 : ff3 < sn) (hss3 : ss3 < sk) (hdd3 : dd3 < 2) (eff3 : n1 = nI ff3) (ess3 : n2 = nI ss3) (edd3 : n3 = nI dd3) (c_7 : ((-3000) : Int32) ≤ n4 ∧ n4 ≤ 3000) (c_10 : ¬ (((-3000) : Int32) ≤ n5 ∧ n5 ≤ 3000)) : ((((g0 : Nat → Int32), (g1 : Nat → Int32), (g3 : Nat → Int32)) : T3) = lieF n1 n2 n3 n4 n5 sn sk (g0, g1, g3)) ∧ ((g5 : Nat → Int32) = lieT n1 n2 n3 n4 n5 sn sk g5) := by
  refine ⟨?_, ?_⟩
  · first | exact lie_1 (by assumption) | exact lie_2 (by assumption) | exact lie_3 (by assumption) | exact lie_y (by assumption) (by assumption) (by assumption) (by assumption) (by assumption) (by assumption) hsn hsk (by assumption) (by assumption) (by assumption) (by assumption) (by assumption) (by omega) (by omega) (by omega)
  · first | exact lieT_1 (by assumption) | exact lieT_2 (by assumption) | exact lieT_3 (by assumption) | exact lieT_y (by assumption) (by assumption) (by assumption) (by assumption) (by assumption) (by assumption) hsn hsk (by assumption) (by assumption) (by assumption)
set_option maxHeartbeats 4000000 in
set_option maxRecDepth 100000 in
theorem c_X11_lies_m (l : Launch) (D : va_G) (cI cB cZ cJ : ClassId) (tx : List (ClassId × FieldType)) (a : Nat → Nat) (ap : Int32) (sn : Nat) (sk : Nat) (scu : Int32) (sch : Int32) (g0 : Nat → Int32) (g1 : Nat → Int32) (g3 : Nat → Int32) (g5 : Nat → Int32) (n1 : Int32) (n2 : Int32) (n3 : Int32) (n4 : Int32) (n5 : Int32) (hsn : sn ≤ 24) (hsk : sk ≤ 8) : WrI l D cI cB cZ cJ tx yX11_lies cX11_lies 7 (some .boolean) 2 0 0 [.ref (a 0), .int n1, .int n2, .int n3, .int n4, .int n5] [(a 0, .inr (11, [.ref (a 1), .ref (a 2), .ref (a 3), .ref (a 4), .ref (a 5), .ref (a 6), .ref (a 7), .ref (a 8), .ref (a 9), .ref (a 10), .ref (a 11), .ref (a 12), .int ap])), (a 5, .inr (4, [.ref (a 18), .ref (a 19), .ref (a 20), .ref (a 21), .ref (a 22), .ref (a 23), .ref (a 24), .int (nI sn), .int (nI sk), .int scu, .int sch])), (a 18, .inl (cI, 384, .inl g0)), (a 19, .inl (cI, 384, .inl g1)), (a 21, .inl (cZ, 384, .inl g3)), (a 23, .inl (cI, 8, .inl g5))] (fun (r : Int32) (v : (Nat → Int32) × (Nat → Int32) × (Nat → Int32) × (Nat → Int32)) => (((v.1, v.2.1, v.2.2.1) : T3) = lieF n1 n2 n3 n4 n5 sn sk (g0, g1, g3)) ∧ (v.2.2.2 = lieT n1 n2 n3 n4 n5 sn sk g5)) (fun v => [(a 0, .inr (11, [.ref (a 1), .ref (a 2), .ref (a 3), .ref (a 4), .ref (a 5), .ref (a 6), .ref (a 7), .ref (a 8), .ref (a 9), .ref (a 10), .ref (a 11), .ref (a 12), .int ap])), (a 5, .inr (4, [.ref (a 18), .ref (a 19), .ref (a 20), .ref (a 21), .ref (a 22), .ref (a 23), .ref (a 24), .int (nI sn), .int (nI sk), .int scu, .int sch])), (a 18, .inl (cI, 384, .inl v.1)), (a 19, .inl (cI, 384, .inl v.2.1)), (a 21, .inl (cZ, 384, .inl v.2.2.1)), (a 23, .inl (cI, 8, .inl v.2.2.2))]) := by
  refine wri_of2 (by decide) (Nat.le_of_ble_eq_true rfl) ?_
  intro p e s m below meth c A ls H locs hC hK hP hD hA hS hl
  obtain ⟨hx, hb, hr, hml, hown, hts, hlocks, hin⟩ := hC
  have hown : s.vm.findClass RX11 = some m.cls := hown
  have hl : lv_has ls 7 [(0, .ref (a 0)), (1, .int n1), (2, .int n2), (3, .int n3), (4, .int n4), (5, .int n5)] := hl
  refine W_gQ (fun Q hQ => ?_)
  refine lv_aload_n hx hb dX11_lies_0 rfl (lv_at hl 0 rfl) ?_
  refine va_get (D := D) (ci := 11) (v := .ref (a 5)) (C := RX11) (T := TX11) (N := 13) hx hb hts inT_X11 hown hK.1 hP 0 rfl rfl 4 (by decide) (hts _ k_487) (fun _ h9 => h9) rfl dX11_lies_1 ?_
  refine lv_iload_n hx hb dX11_lies_4 rfl (lv_at hl 1 rfl) ?_
  refine lv_iload_n hx hb dX11_lies_5 rfl (lv_at hl 2 rfl) ?_
  refine lv_iload_n hx hb dX11_lies_6 rfl (lv_at hl 3 rfl) ?_
  refine eRi (va_runV (As := [.int n1, .int n2, .int n3]) (rest := []) ⟨hx, hb, hml, hown, hts⟩ (c_X4_rivetAt_f l D cI cB cZ cJ tx a sn sk scu sch n1 n2 n3 (lf_X11_lies_m_1 a ap sn sk scu sch g0 g1 g3 g5 n1 n2 n3 n4 n5 hsn hsk) (lf_X11_lies_m_2 a ap sn sk scu sch g0 g1 g3 g5 n1 n2 n3 n4 n5 hsn hsk) H.size) (zV hts k_850 v_X4_rivetAt ⟨Nat.le_of_ble_eq_true rfl, Nat.le_of_ble_eq_true rfl⟩) (pV (px1 hK hP 1 rfl) hK hP 1 rfl rfl) rfl rfl hl.1 rfl (lv_room (Nat.le_of_ble_eq_true rfl)) dX11_lies_7 ⟨Nat.le_of_ble_eq_true rfl, Nat.le_of_ble_eq_true rfl⟩) hP hS hA (fun r_3 H locs wr_3 hP hS => ?_)
  rcases wr_3 with ⟨rfl, hrv3⟩ | ⟨ff3, ss3, dd3, hff3, hss3, hdd3, rfl, rfl, rfl, rfl⟩
  · refine lv_istore (lv' := [(6, .int (-1)), (0, .ref (a 0)), (1, .int n1), (2, .int n2), (3, .int n3), (4, .int n4), (5, .int n5)]) hx hb dX11_lies_10 hl (by decide) rfl (fun ls hl => ?_)
    refine lv_iload hx hb dX11_lies_12 (lv_at hl 0 rfl) ?_
    refine lv_if_lt (tgt := 45) hx hb dX11_lies_14 (by decide) (fun _ => ?_) (fun c => absurd c (by decide))
    refine lv_iconst (v := 0) hx hb dX11_lies_45 (by decide) ?_
    rw [hQ]
    exact W.zret (v := 0) hx hb hr (by decide) (fun tt9 ht hW => ⟨⟨(0 : Int32), ((g0 : Nat → Int32), (g1 : Nat → Int32), (g3 : Nat → Int32), (g5 : Nat → Int32)), rfl, (lf_X11_lies_m_4 a ap sn sk scu sch g0 g1 g3 g5 n1 n2 n3 n4 n5 hsn hsk hrv3), ⟨by rw [ht]; exact hP, hD⟩⟩, hS.F ht⟩) hS.2.2 dX11_lies_46 hlocks
  · refine lv_istore (lv' := [(6, .int (nI ((ff3 * 8 + ss3) * 2 + dd3))), (0, .ref (a 0)), (1, .int (nI ff3)), (2, .int (nI ss3)), (3, .int (nI dd3)), (4, .int n4), (5, .int n5)]) hx hb dX11_lies_10 hl (by decide) rfl (fun ls hl => ?_)
    refine lv_iload hx hb dX11_lies_12 (lv_at hl 0 rfl) ?_
    refine lv_if_lt (tgt := 45) hx hb dX11_lies_14 (by decide) (fun c => absurd c (lf_X11_lies_m_5 a ap sn sk scu sch g0 g1 g3 g5 (nI ff3) (nI ss3) (nI dd3) n4 n5 hsn hsk ff3 ss3 dd3 hff3 hss3 hdd3 rfl rfl rfl)) (fun _ => ?_)
    refine lv_iload hx hb dX11_lies_17 (lv_at hl 5 rfl) ?_
    refine lv_sipush (v := (-3000)) hx hb dX11_lies_19 (by decide) ?_
    refine lv_sipush (v := 3000) hx hb dX11_lies_22 (by decide) ?_
    refine eRi (va_runS (As := [.int n4, .int (-3000), .int 3000]) (rest := []) ⟨hx, hb, hml, hown, hts⟩ (c_X11_within l D cI cB cZ cJ tx n4 (-3000) 3000 H.size) (zS hts k_527 v_X11_within ⟨Nat.le_of_ble_eq_true rfl, Nat.le_of_ble_eq_true rfl⟩) (px0 hK) rfl rfl hl.1 rfl (lv_room (Nat.le_of_ble_eq_true rfl)) dX11_lies_25 ⟨Nat.le_of_ble_eq_true rfl, Nat.le_of_ble_eq_true rfl⟩) hP hS hA (fun r_6 H locs wr_6 hP hS => ?_)
    subst wr_6
    refine lv_bi_eq (tgt := 45) hx hb dX11_lies_28 (by decide) (fun c_7 => ?_) (fun c_7 => ?_)
    · refine lv_iconst (v := 0) hx hb dX11_lies_45 (by decide) ?_
      rw [hQ]
      exact W.zret (v := 0) hx hb hr (by decide) (fun tt9 ht hW => ⟨⟨(0 : Int32), ((g0 : Nat → Int32), (g1 : Nat → Int32), (g3 : Nat → Int32), (g5 : Nat → Int32)), rfl, (lf_X11_lies_m_8 a ap sn sk scu sch g0 g1 g3 g5 (nI ff3) (nI ss3) (nI dd3) n4 n5 hsn hsk ff3 ss3 dd3 hff3 hss3 hdd3 rfl rfl rfl c_7), ⟨by rw [ht]; exact hP, hD⟩⟩, hS.F ht⟩) hS.2.2 dX11_lies_46 hlocks
    · refine lv_iload hx hb dX11_lies_31 (lv_at hl 6 rfl) ?_
      refine lv_sipush (v := (-3000)) hx hb dX11_lies_33 (by decide) ?_
      refine lv_sipush (v := 3000) hx hb dX11_lies_36 (by decide) ?_
      refine eRi (va_runS (As := [.int n5, .int (-3000), .int 3000]) (rest := []) ⟨hx, hb, hml, hown, hts⟩ (c_X11_within l D cI cB cZ cJ tx n5 (-3000) 3000 H.size) (zS hts k_527 v_X11_within ⟨Nat.le_of_ble_eq_true rfl, Nat.le_of_ble_eq_true rfl⟩) (px0 hK) rfl rfl hl.1 rfl (lv_room (Nat.le_of_ble_eq_true rfl)) dX11_lies_39 ⟨Nat.le_of_ble_eq_true rfl, Nat.le_of_ble_eq_true rfl⟩) hP hS hA (fun r_9 H locs wr_9 hP hS => ?_)
      subst wr_9
      refine lv_bi_ne (tgt := 47) hx hb dX11_lies_42 (by decide) (fun c_10 => ?_) (fun c_10 => ?_)
      · refine lv_aload_n hx hb dX11_lies_47 rfl (lv_at hl 1 rfl) ?_
        refine va_get (D := D) (ci := 11) (v := .ref (a 5)) (C := RX11) (T := TX11) (N := 13) hx hb hts inT_X11 hown hK.1 hP 0 rfl rfl 4 (by decide) (hts _ k_487) (fun _ h9 => h9) rfl dX11_lies_48 ?_
        refine lv_iload hx hb dX11_lies_51 (lv_at hl 0 rfl) ?_
        refine lv_iload_n hx hb dX11_lies_53 rfl (lv_at hl 3 rfl) ?_
        refine lv_iload hx hb dX11_lies_54 (lv_at hl 5 rfl) ?_
        refine lv_iload hx hb dX11_lies_56 (lv_at hl 6 rfl) ?_
        refine eWvP (va_runV (As := [.int (nI ((ff3 * 8 + ss3) * 2 + dd3)), .int (nI ss3), .int n4, .int n5]) (rest := []) ⟨hx, hb, hml, hown, hts⟩ (c_X4_tell_t l D cI cB cZ cJ tx a sn sk scu sch g0 g1 g3 g5 ((ff3 * 8 + ss3) * 2 + dd3) ss3 n4 n5 (lf_X11_lies_m_11 a ap sn sk scu sch g0 g1 g3 g5 (nI ff3) (nI ss3) (nI dd3) n4 n5 hsn hsk ff3 ss3 dd3 hff3 hss3 hdd3 rfl rfl rfl c_7 c_10) (lf_X11_lies_m_12 a ap sn sk scu sch g0 g1 g3 g5 (nI ff3) (nI ss3) (nI dd3) n4 n5 hsn hsk ff3 ss3 dd3 hff3 hss3 hdd3 rfl rfl rfl c_7 c_10) H.size) (zV hts k_851 v_X4_tell ⟨Nat.le_of_ble_eq_true rfl, Nat.le_of_ble_eq_true rfl⟩) (pV (pxS hK hP hD [1, 2, 3, 4, 5] (by decide) rfl) hK hP 1 rfl rfl) rfl rfl hl.1 rfl (lv_room (Nat.le_of_ble_eq_true rfl)) dX11_lies_58 ⟨Nat.le_of_ble_eq_true rfl, Nat.le_of_ble_eq_true rfl⟩) hP hD hS hA [1, 2, 3, 4, 5] [none, some 0, some 1, some 2, some 3, some 4] rfl (by decide +kernel) (fun _ => rfl) (fun u_14 H locs wr_13 hP hD hS => ?_)
        obtain ⟨g0_14, g1_14, g3_14, g5_14⟩ := u_14
        have hz_14_0 : g0_14 = upd g0 (((ff3 * 8 + ss3) * 2 + dd3)) n4 := wr_13.1
        have hz_14_1 : g1_14 = upd g1 (((ff3 * 8 + ss3) * 2 + dd3)) n5 := wr_13.2.1
        have hz_14_2 : g3_14 = upd g3 (((ff3 * 8 + ss3) * 2 + dd3)) (vp_nar .boolean 0) := wr_13.2.2.1
        have hz_14_3 : g5_14 = upd g5 ss3 (g5 ss3 + 1) := wr_13.2.2.2
        have hPD := pd_mk (ws := [(a 0, .inr (11, [.ref (a 1), .ref (a 2), .ref (a 3), .ref (a 4), .ref (a 5), .ref (a 6), .ref (a 7), .ref (a 8), .ref (a 9), .ref (a 10), .ref (a 11), .ref (a 12), .int ap])), (a 5, .inr (4, [.ref (a 18), .ref (a 19), .ref (a 20), .ref (a 21), .ref (a 22), .ref (a 23), .ref (a 24), .int (nI sn), .int (nI sk), .int scu, .int sch])), (a 18, .inl (cI, 384, .inl g0_14)), (a 19, .inl (cI, 384, .inl g1_14)), (a 21, .inl (cZ, 384, .inl g3_14)), (a 23, .inl (cI, 8, .inl g5_14))]) hP hD
        have hP := hPD.1
        have hD := hPD.2
        refine lv_iconst (v := 1) hx hb dX11_lies_61 (by decide) ?_
        rw [hQ]
        exact W.zret (v := 1) hx hb hr (by decide) (fun tt9 ht hW => ⟨⟨(1 : Int32), ((g0_14 : Nat → Int32), (g1_14 : Nat → Int32), (g3_14 : Nat → Int32), (g5_14 : Nat → Int32)), rfl, (lf_X11_lies_m_15 a ap sn sk scu sch g0 g1 g3 g5 (nI ff3) (nI ss3) (nI dd3) n4 n5 hsn hsk ff3 ss3 dd3 hff3 hss3 hdd3 rfl rfl rfl c_7 c_10 g0_14 g1_14 g3_14 g5_14 hz_14_0 hz_14_1 hz_14_2 hz_14_3), ⟨by rw [ht]; exact hP, hD⟩⟩, hS.F ht⟩) hS.2.2 dX11_lies_62 hlocks
      · refine lv_iconst (v := 0) hx hb dX11_lies_45 (by decide) ?_
        rw [hQ]
        exact W.zret (v := 0) hx hb hr (by decide) (fun tt9 ht hW => ⟨⟨(0 : Int32), ((g0 : Nat → Int32), (g1 : Nat → Int32), (g3 : Nat → Int32), (g5 : Nat → Int32)), rfl, (lf_X11_lies_m_16 a ap sn sk scu sch g0 g1 g3 g5 (nI ff3) (nI ss3) (nI dd3) n4 n5 hsn hsk ff3 ss3 dd3 hff3 hss3 hdd3 rfl rfl rfl c_7 c_10), ⟨by rw [ht]; exact hP, hD⟩⟩, hS.F ht⟩) hS.2.2 dX11_lies_46 hlocks

theorem lf_X11_gone_m_1 (a : Nat → Nat) (ap : Int32) (sn : Nat) (sk : Nat) (scu : Int32) (sch : Int32) (g3 : Nat → Int32) (g5 : Nat → Int32) (n1 : Int32) (n2 : Int32) (n3 : Int32) (hsn : sn ≤ 24) (hsk : sk ≤ 8) : sn ≤ 24 := by
  first | assumption | omega | decide
theorem lf_X11_gone_m_2 (a : Nat → Nat) (ap : Int32) (sn : Nat) (sk : Nat) (scu : Int32) (sch : Int32) (g3 : Nat → Int32) (g5 : Nat → Int32) (n1 : Int32) (n2 : Int32) (n3 : Int32) (hsn : sn ≤ 24) (hsk : sk ≤ 8) : sk ≤ 8 := by
  first | assumption | omega | decide
theorem lf_X11_gone_m_4 (a : Nat → Nat) (ap : Int32) (sn : Nat) (sk : Nat) (scu : Int32) (sch : Int32) (g3 : Nat → Int32) (g5 : Nat → Int32) (n1 : Int32) (n2 : Int32) (n3 : Int32) (hsn : sn ≤ 24) (hsk : sk ≤ 8) (hrv3 : ¬ RV n1 n2 n3 sn sk) : (0 : Int32) = goA n1 n2 n3 sn sk g3 ∧ ((g3 : Nat → Int32) = goF n1 n2 n3 sn sk g3) ∧ ((g5 : Nat → Int32) = goT n1 n2 n3 sn sk g3 g5) := by
  first
    | exact ⟨goA_n (by first | exact goRV (by assumption) | exact goNO (by assumption) (by assumption) (by assumption) (by assumption) (by assumption) (by assumption) hsn hsk (by assumption) (by omega)), goF_n (by first | exact goRV (by assumption) | exact goNO (by assumption) (by assumption) (by assumption) (by assumption) (by assumption) (by assumption) hsn hsk (by assumption) (by omega)), goT_n (by first | exact goRV (by assumption) | exact goNO (by assumption) (by assumption) (by assumption) (by assumption) (by assumption) (by assumption) hsn hsk (by assumption) (by omega))⟩
    | (have hg : GNK n1 n2 n3 sn sk g3 := goOK (by assumption) (by assumption) (by assumption) (by assumption) (by assumption) (by assumption) hsn hsk (by assumption) (by omega)
       exact ⟨goA_y hg, goF_y hg (by assumption) (by assumption) (by assumption) (by omega) (by omega) (by omega) (by assumption) (by omega), goT_y hg (by assumption) (by omega) (by assumption)⟩)
theorem lf_X11_gone_m_5 (a : Nat → Nat) (ap : Int32) (sn : Nat) (sk : Nat) (scu : Int32) (sch : Int32) (g3 : Nat → Int32) (g5 : Nat → Int32) (n1 : Int32) (n2 : Int32) (n3 : Int32) (hsn : sn ≤ 24) (hsk : sk ≤ 8) (ff3 : Nat) (ss3 : Nat) (dd3 : Nat) (hff3 : ff3 < sn) (hss3 : ss3 < sk) (hdd3 : dd3 < 2) (eff3 : n1 = nI ff3) (ess3 : n2 = nI ss3) (edd3 : n3 = nI dd3) : ¬ nI ((ff3 * 8 + ss3) * 2 + dd3) < 0 := by
  first | exact nI_pos (by omega) | exact nI_pos' (by omega)
theorem lf_X11_gone_m_6 (a : Nat → Nat) (ap : Int32) (sn : Nat) (sk : Nat) (scu : Int32) (sch : Int32) (g3 : Nat → Int32) (g5 : Nat → Int32) (n1 : Int32) (n2 : Int32) (n3 : Int32) (hsn : sn ≤ 24) (hsk : sk ≤ 8) (ff3 : Nat) (ss3 : Nat) (dd3 : Nat) (hff3 : ff3 < sn) (hss3 : ss3 < sk) (hdd3 : dd3 < 2) (eff3 : n1 = nI ff3) (ess3 : n2 = nI ss3) (edd3 : n3 = nI dd3) : ((ff3 * 8 + ss3) * 2 + dd3) < 384 := by
  omega
theorem lf_X11_gone_m_8 (a : Nat → Nat) (ap : Int32) (sn : Nat) (sk : Nat) (scu : Int32) (sch : Int32) (g3 : Nat → Int32) (g5 : Nat → Int32) (n1 : Int32) (n2 : Int32) (n3 : Int32) (hsn : sn ≤ 24) (hsk : sk ≤ 8) (ff3 : Nat) (ss3 : Nat) (dd3 : Nat) (hff3 : ff3 < sn) (hss3 : ss3 < sk) (hdd3 : dd3 < 2) (eff3 : n1 = nI ff3) (ess3 : n2 = nI ss3) (edd3 : n3 = nI dd3) (c_7 : g3 ((ff3 * 8 + ss3) * 2 + dd3) = 0) : ((ff3 * 8 + ss3) * 2 + dd3) < 384 := by
  first | assumption | omega | decide
theorem lf_X11_gone_m_9 (a : Nat → Nat) (ap : Int32) (sn : Nat) (sk : Nat) (scu : Int32) (sch : Int32) (g3 : Nat → Int32) (g5 : Nat → Int32) (n1 : Int32) (n2 : Int32) (n3 : Int32) (hsn : sn ≤ 24) (hsk : sk ≤ 8) (ff3 : Nat) (ss3 : Nat) (dd3 : Nat) (hff3 : ff3 < sn) (hss3 : ss3 < sk) (hdd3 : dd3 < 2) (eff3 : n1 = nI ff3) (ess3 : n2 = nI ss3) (edd3 : n3 = nI dd3) (c_7 : g3 ((ff3 * 8 + ss3) * 2 + dd3) = 0) : ss3 < 8 := by
  first | assumption | omega | decide
theorem lf_X11_gone_m_12 (a : Nat → Nat) (ap : Int32) (sn : Nat) (sk : Nat) (scu : Int32) (sch : Int32) (g3 : Nat → Int32) (g5 : Nat → Int32) (n1 : Int32) (n2 : Int32) (n3 : Int32) (hsn : sn ≤ 24) (hsk : sk ≤ 8) (ff3 : Nat) (ss3 : Nat) (dd3 : Nat) (hff3 : ff3 < sn) (hss3 : ss3 < sk) (hdd3 : dd3 < 2) (eff3 : n1 = nI ff3) (ess3 : n2 = nI ss3) (edd3 : n3 = nI dd3) (c_7 : g3 ((ff3 * 8 + ss3) * 2 + dd3) = 0) (g3_11 : Nat → Int32) (g5_11 : Nat → Int32) (hz_11_0 : g3_11 = upd g3 (((ff3 * 8 + ss3) * 2 + dd3)) (vp_nar .boolean 1)) (hz_11_1 : g5_11 = upd g5 ss3 (g5 ss3 + 1)) : (1 : Int32) = goA n1 n2 n3 sn sk g3 ∧ ((g3_11 : Nat → Int32) = goF n1 n2 n3 sn sk g3) ∧ ((g5_11 : Nat → Int32) = goT n1 n2 n3 sn sk g3 g5) := by
  first
    | exact ⟨goA_n (by first | exact goRV (by assumption) | exact goNO (by assumption) (by assumption) (by assumption) (by assumption) (by assumption) (by assumption) hsn hsk (by assumption) (by omega)), goF_n (by first | exact goRV (by assumption) | exact goNO (by assumption) (by assumption) (by assumption) (by assumption) (by assumption) (by assumption) hsn hsk (by assumption) (by omega)), goT_n (by first | exact goRV (by assumption) | exact goNO (by assumption) (by assumption) (by assumption) (by assumption) (by assumption) (by assumption) hsn hsk (by assumption) (by omega))⟩
    | (have hg : GNK n1 n2 n3 sn sk g3 := goOK (by assumption) (by assumption) (by assumption) (by assumption) (by assumption) (by assumption) hsn hsk (by assumption) (by omega)
       exact ⟨goA_y hg, goF_y hg (by assumption) (by assumption) (by assumption) (by omega) (by omega) (by omega) (by assumption) (by omega), goT_y hg (by assumption) (by omega) (by assumption)⟩)
theorem lf_X11_gone_m_13 (a : Nat → Nat) (ap : Int32) (sn : Nat) (sk : Nat) (scu : Int32) (sch : Int32) (g3 : Nat → Int32) (g5 : Nat → Int32) (n1 : Int32) (n2 : Int32) (n3 : Int32) (hsn : sn ≤ 24) (hsk : sk ≤ 8) (ff3 : Nat) (ss3 : Nat) (dd3 : Nat) (hff3 : ff3 < sn) (hss3 : ss3 < sk) (hdd3 : dd3 < 2) (eff3 : n1 = nI ff3) (ess3 : n2 = nI ss3) (edd3 : n3 = nI dd3) (c_7 : ¬ g3 ((ff3 * 8 + ss3) * 2 + dd3) = 0) : (0 : Int32) = goA n1 n2 n3 sn sk g3 ∧ ((g3 : Nat → Int32) = goF n1 n2 n3 sn sk g3) ∧ ((g5 : Nat → Int32) = goT n1 n2 n3 sn sk g3 g5) := by
  first
    | exact ⟨goA_n (by first | exact goRV (by assumption) | exact goNO (by assumption) (by assumption) (by assumption) (by assumption) (by assumption) (by assumption) hsn hsk (by assumption) (by omega)), goF_n (by first | exact goRV (by assumption) | exact goNO (by assumption) (by assumption) (by assumption) (by assumption) (by assumption) (by assumption) hsn hsk (by assumption) (by omega)), goT_n (by first | exact goRV (by assumption) | exact goNO (by assumption) (by assumption) (by assumption) (by assumption) (by assumption) (by assumption) hsn hsk (by assumption) (by omega))⟩
    | (have hg : GNK n1 n2 n3 sn sk g3 := goOK (by assumption) (by assumption) (by assumption) (by assumption) (by assumption) (by assumption) hsn hsk (by assumption) (by omega)
       exact ⟨goA_y hg, goF_y hg (by assumption) (by assumption) (by assumption) (by omega) (by omega) (by omega) (by assumption) (by omega), goT_y hg (by assumption) (by omega) (by assumption)⟩)
set_option maxHeartbeats 4000000 in
set_option maxRecDepth 100000 in
theorem c_X11_gone_m (l : Launch) (D : va_G) (cI cB cZ cJ : ClassId) (tx : List (ClassId × FieldType)) (a : Nat → Nat) (ap : Int32) (sn : Nat) (sk : Nat) (scu : Int32) (sch : Int32) (g3 : Nat → Int32) (g5 : Nat → Int32) (n1 : Int32) (n2 : Int32) (n3 : Int32) (hsn : sn ≤ 24) (hsk : sk ≤ 8) : WrI l D cI cB cZ cJ tx yX11_gone cX11_gone 5 (some .boolean) 2 0 0 [.ref (a 0), .int n1, .int n2, .int n3] [(a 0, .inr (11, [.ref (a 1), .ref (a 2), .ref (a 3), .ref (a 4), .ref (a 5), .ref (a 6), .ref (a 7), .ref (a 8), .ref (a 9), .ref (a 10), .ref (a 11), .ref (a 12), .int ap])), (a 5, .inr (4, [.ref (a 18), .ref (a 19), .ref (a 20), .ref (a 21), .ref (a 22), .ref (a 23), .ref (a 24), .int (nI sn), .int (nI sk), .int scu, .int sch])), (a 21, .inl (cZ, 384, .inl g3)), (a 23, .inl (cI, 8, .inl g5))] (fun (r : Int32) (v : (Nat → Int32) × (Nat → Int32)) => r = goA n1 n2 n3 sn sk g3 ∧ (v.1 = goF n1 n2 n3 sn sk g3) ∧ (v.2 = goT n1 n2 n3 sn sk g3 g5)) (fun v => [(a 0, .inr (11, [.ref (a 1), .ref (a 2), .ref (a 3), .ref (a 4), .ref (a 5), .ref (a 6), .ref (a 7), .ref (a 8), .ref (a 9), .ref (a 10), .ref (a 11), .ref (a 12), .int ap])), (a 5, .inr (4, [.ref (a 18), .ref (a 19), .ref (a 20), .ref (a 21), .ref (a 22), .ref (a 23), .ref (a 24), .int (nI sn), .int (nI sk), .int scu, .int sch])), (a 21, .inl (cZ, 384, .inl v.1)), (a 23, .inl (cI, 8, .inl v.2))]) := by
  refine wri_of2 (by decide) (Nat.le_of_ble_eq_true rfl) ?_
  intro p e s m below meth c A ls H locs hC hK hP hD hA hS hl
  obtain ⟨hx, hb, hr, hml, hown, hts, hlocks, hin⟩ := hC
  have hown : s.vm.findClass RX11 = some m.cls := hown
  have hl : lv_has ls 5 [(0, .ref (a 0)), (1, .int n1), (2, .int n2), (3, .int n3)] := hl
  refine W_gQ (fun Q hQ => ?_)
  refine lv_aload_n hx hb dX11_gone_0 rfl (lv_at hl 0 rfl) ?_
  refine va_get (D := D) (ci := 11) (v := .ref (a 5)) (C := RX11) (T := TX11) (N := 13) hx hb hts inT_X11 hown hK.1 hP 0 rfl rfl 4 (by decide) (hts _ k_487) (fun _ h9 => h9) rfl dX11_gone_1 ?_
  refine lv_iload_n hx hb dX11_gone_4 rfl (lv_at hl 1 rfl) ?_
  refine lv_iload_n hx hb dX11_gone_5 rfl (lv_at hl 2 rfl) ?_
  refine lv_iload_n hx hb dX11_gone_6 rfl (lv_at hl 3 rfl) ?_
  refine eRi (va_runV (As := [.int n1, .int n2, .int n3]) (rest := []) ⟨hx, hb, hml, hown, hts⟩ (c_X4_rivetAt_f l D cI cB cZ cJ tx a sn sk scu sch n1 n2 n3 (lf_X11_gone_m_1 a ap sn sk scu sch g3 g5 n1 n2 n3 hsn hsk) (lf_X11_gone_m_2 a ap sn sk scu sch g3 g5 n1 n2 n3 hsn hsk) H.size) (zV hts k_850 v_X4_rivetAt ⟨Nat.le_of_ble_eq_true rfl, Nat.le_of_ble_eq_true rfl⟩) (pV (px1 hK hP 1 rfl) hK hP 1 rfl rfl) rfl rfl hl.1 rfl (lv_room (Nat.le_of_ble_eq_true rfl)) dX11_gone_7 ⟨Nat.le_of_ble_eq_true rfl, Nat.le_of_ble_eq_true rfl⟩) hP hS hA (fun r_3 H locs wr_3 hP hS => ?_)
  rcases wr_3 with ⟨rfl, hrv3⟩ | ⟨ff3, ss3, dd3, hff3, hss3, hdd3, rfl, rfl, rfl, rfl⟩
  · refine lv_istore (lv' := [(4, .int (-1)), (0, .ref (a 0)), (1, .int n1), (2, .int n2), (3, .int n3)]) hx hb dX11_gone_10 hl (by decide) rfl (fun ls hl => ?_)
    refine lv_iload hx hb dX11_gone_12 (lv_at hl 0 rfl) ?_
    refine lv_if_lt (tgt := 30) hx hb dX11_gone_14 (by decide) (fun _ => ?_) (fun c => absurd c (by decide))
    refine lv_iconst (v := 0) hx hb dX11_gone_30 (by decide) ?_
    rw [hQ]
    exact W.zret (v := 0) hx hb hr (by decide) (fun tt9 ht hW => ⟨⟨(0 : Int32), ((g3 : Nat → Int32), (g5 : Nat → Int32)), rfl, (lf_X11_gone_m_4 a ap sn sk scu sch g3 g5 n1 n2 n3 hsn hsk hrv3), ⟨by rw [ht]; exact hP, hD⟩⟩, hS.F ht⟩) hS.2.2 dX11_gone_31 hlocks
  · refine lv_istore (lv' := [(4, .int (nI ((ff3 * 8 + ss3) * 2 + dd3))), (0, .ref (a 0)), (1, .int (nI ff3)), (2, .int (nI ss3)), (3, .int (nI dd3))]) hx hb dX11_gone_10 hl (by decide) rfl (fun ls hl => ?_)
    refine lv_iload hx hb dX11_gone_12 (lv_at hl 0 rfl) ?_
    refine lv_if_lt (tgt := 30) hx hb dX11_gone_14 (by decide) (fun c => absurd c (lf_X11_gone_m_5 a ap sn sk scu sch g3 g5 (nI ff3) (nI ss3) (nI dd3) hsn hsk ff3 ss3 dd3 hff3 hss3 hdd3 rfl rfl rfl)) (fun _ => ?_)
    refine lv_aload_n hx hb dX11_gone_17 rfl (lv_at hl 1 rfl) ?_
    refine va_get (D := D) (ci := 11) (v := .ref (a 5)) (C := RX11) (T := TX11) (N := 13) hx hb hts inT_X11 hown hK.1 hP 0 rfl rfl 4 (by decide) (hts _ k_487) (fun _ h9 => h9) rfl dX11_gone_18 ?_
    refine va_getN (D := D) (ci := 4) (v := .ref (a 21)) (C := RX4) (T := TX4) (N := 11) hx hb hts inT_X4 hown hK.1 hP 1 rfl rfl 3 (by decide) (va_Nw.use rfl (hK.2.2.1 _ n_242)) (fun _ h9 => h9) rfl dX11_gone_21 ?_
    refine lv_iload hx hb dX11_gone_24 (lv_at hl 0 rfl) ?_
    refine lt_z (j := ((ff3 * 8 + ss3) * 2 + dd3)) hx hb hK hP 2 rfl (lf_X11_gone_m_6 a ap sn sk scu sch g3 g5 (nI ff3) (nI ss3) (nI dd3) hsn hsk ff3 ss3 dd3 hff3 hss3 hdd3 rfl rfl rfl) (by decide) dX11_gone_26 ?_
    refine lv_if_eq (tgt := 32) hx hb dX11_gone_27 (by decide) (fun c_7 => ?_) (fun c_7 => ?_)
    · refine lv_aload_n hx hb dX11_gone_32 rfl (lv_at hl 1 rfl) ?_
      refine va_get (D := D) (ci := 11) (v := .ref (a 5)) (C := RX11) (T := TX11) (N := 13) hx hb hts inT_X11 hown hK.1 hP 0 rfl rfl 4 (by decide) (hts _ k_487) (fun _ h9 => h9) rfl dX11_gone_33 ?_
      refine lv_iload hx hb dX11_gone_36 (lv_at hl 0 rfl) ?_
      refine lv_iload_n hx hb dX11_gone_38 rfl (lv_at hl 3 rfl) ?_
      refine eWvP (va_runV (As := [.int (nI ((ff3 * 8 + ss3) * 2 + dd3)), .int (nI ss3)]) (rest := []) ⟨hx, hb, hml, hown, hts⟩ (c_X4_lose_t l D cI cB cZ cJ tx a sn sk scu sch g3 g5 ((ff3 * 8 + ss3) * 2 + dd3) ss3 (lf_X11_gone_m_8 a ap sn sk scu sch g3 g5 (nI ff3) (nI ss3) (nI dd3) hsn hsk ff3 ss3 dd3 hff3 hss3 hdd3 rfl rfl rfl c_7) (lf_X11_gone_m_9 a ap sn sk scu sch g3 g5 (nI ff3) (nI ss3) (nI dd3) hsn hsk ff3 ss3 dd3 hff3 hss3 hdd3 rfl rfl rfl c_7) H.size) (zV hts k_859 v_X4_lose ⟨Nat.le_of_ble_eq_true rfl, Nat.le_of_ble_eq_true rfl⟩) (pV (pxS hK hP hD [1, 2, 3] (by decide) rfl) hK hP 1 rfl rfl) rfl rfl hl.1 rfl (lv_room (Nat.le_of_ble_eq_true rfl)) dX11_gone_39 ⟨Nat.le_of_ble_eq_true rfl, Nat.le_of_ble_eq_true rfl⟩) hP hD hS hA [1, 2, 3] [none, some 0, some 1, some 2] rfl (by decide +kernel) (fun _ => rfl) (fun u_11 H locs wr_10 hP hD hS => ?_)
      obtain ⟨g3_11, g5_11⟩ := u_11
      have hz_11_0 : g3_11 = upd g3 (((ff3 * 8 + ss3) * 2 + dd3)) (vp_nar .boolean 1) := wr_10.1
      have hz_11_1 : g5_11 = upd g5 ss3 (g5 ss3 + 1) := wr_10.2
      have hPD := pd_mk (ws := [(a 0, .inr (11, [.ref (a 1), .ref (a 2), .ref (a 3), .ref (a 4), .ref (a 5), .ref (a 6), .ref (a 7), .ref (a 8), .ref (a 9), .ref (a 10), .ref (a 11), .ref (a 12), .int ap])), (a 5, .inr (4, [.ref (a 18), .ref (a 19), .ref (a 20), .ref (a 21), .ref (a 22), .ref (a 23), .ref (a 24), .int (nI sn), .int (nI sk), .int scu, .int sch])), (a 21, .inl (cZ, 384, .inl g3_11)), (a 23, .inl (cI, 8, .inl g5_11))]) hP hD
      have hP := hPD.1
      have hD := hPD.2
      refine lv_iconst (v := 1) hx hb dX11_gone_42 (by decide) ?_
      rw [hQ]
      exact W.zret (v := 1) hx hb hr (by decide) (fun tt9 ht hW => ⟨⟨(1 : Int32), ((g3_11 : Nat → Int32), (g5_11 : Nat → Int32)), rfl, (lf_X11_gone_m_12 a ap sn sk scu sch g3 g5 (nI ff3) (nI ss3) (nI dd3) hsn hsk ff3 ss3 dd3 hff3 hss3 hdd3 rfl rfl rfl c_7 g3_11 g5_11 hz_11_0 hz_11_1), ⟨by rw [ht]; exact hP, hD⟩⟩, hS.F ht⟩) hS.2.2 dX11_gone_43 hlocks
    · refine lv_iconst (v := 0) hx hb dX11_gone_30 (by decide) ?_
      rw [hQ]
      exact W.zret (v := 0) hx hb hr (by decide) (fun tt9 ht hW => ⟨⟨(0 : Int32), ((g3 : Nat → Int32), (g5 : Nat → Int32)), rfl, (lf_X11_gone_m_13 a ap sn sk scu sch g3 g5 (nI ff3) (nI ss3) (nI dd3) hsn hsk ff3 ss3 dd3 hff3 hss3 hdd3 rfl rfl rfl c_7), ⟨by rw [ht]; exact hP, hD⟩⟩, hS.F ht⟩) hS.2.2 dX11_gone_31 hlocks

theorem lf_X4_cutAway_t_3 (a : Nat → Nat) (sn : Nat) (sk : Nat) (scu : Int32) (sch : Int32) (g5 : Nat → Int32) (n1 : Int32) (g5_2 : Nat → Int32) (hz_2_0 : TA g5 g5_2) : ((n1 : Int32) = n1) ∧ (TA g5 (g5_2 : Nat → Int32)) := by
  exact ⟨rfl, by assumption⟩
set_option maxHeartbeats 4000000 in
set_option maxRecDepth 100000 in
theorem c_X4_cutAway_t (l : Launch) (D : va_G) (cI cB cZ cJ : ClassId) (tx : List (ClassId × FieldType)) (a : Nat → Nat) (sn : Nat) (sk : Nat) (scu : Int32) (sch : Int32) (g5 : Nat → Int32) (n1 : Int32) : WrV l D cI cB cZ cJ tx yX4_cutAway cX4_cutAway 2 none 1 0 0 [.ref (a 5), .int n1] [(a 5, .inr (4, [.ref (a 18), .ref (a 19), .ref (a 20), .ref (a 21), .ref (a 22), .ref (a 23), .ref (a 24), .int (nI sn), .int (nI sk), .int scu, .int sch])), (a 23, .inl (cI, 8, .inl g5))] (fun (v : (Int32) × (Nat → Int32)) => (v.1 = n1) ∧ (TA g5 v.2)) (fun v => [(a 5, .inr (4, [.ref (a 18), .ref (a 19), .ref (a 20), .ref (a 21), .ref (a 22), .ref (a 23), .ref (a 24), .int (nI sn), .int (nI sk), .int v.1, .int sch])), (a 23, .inl (cI, 8, .inl v.2))]) := by
  refine wrv_of2 (by decide) (Nat.le_of_ble_eq_true rfl) ?_
  intro p e s m below meth c A ls H locs hC hK hP hD hA hS hl
  obtain ⟨hx, hb, hr, hml, hown, hts, hlocks, hin⟩ := hC
  have hown : s.vm.findClass RX4 = some m.cls := hown
  have hl : lv_has ls 2 [(0, .ref (a 5)), (1, .int n1)] := hl
  refine W_gQ (fun Q hQ => ?_)
  refine lv_aload_n hx hb dX4_cutAway_0 rfl (lv_at hl 0 rfl) ?_
  refine lv_iload_n hx hb dX4_cutAway_1 rfl (lv_at hl 1 rfl) ?_
  refine va_put (D := D) (ci := 4) (v := .int n1) (ty := .int) (C := RX4) (T := TX4) (N := 11) hx hb hts inT_X4 tyX4 tyX4_ok nmX4 hown hK.1 hP hD hS 0 rfl rfl 9 (by decide) (hts _ k_261) (fun _ h9 => h9) rfl (by decide +kernel) rfl rfl (Nat.le_of_ble_eq_true rfl) dX4_cutAway_2 (fun H locs hP hD hS => ?_)
  have hPD := pd_mk (ws := [(a 5, .inr (4, [.ref (a 18), .ref (a 19), .ref (a 20), .ref (a 21), .ref (a 22), .ref (a 23), .ref (a 24), .int (nI sn), .int (nI sk), .int n1, .int sch])), (a 23, .inl (cI, 8, .inl g5))]) hP hD
  have hP := hPD.1
  have hD := hPD.2
  refine lv_aload_n hx hb dX4_cutAway_5 rfl (lv_at hl 0 rfl) ?_
  refine eWvP (va_runV (As := []) (rest := []) ⟨hx, hb, hml, hown, hts⟩ (c_X4_touchAll_t l D cI cB cZ cJ tx a sn sk n1 sch g5 H.size) (zV hts k_812 v_X4_touchAll ⟨Nat.le_of_ble_eq_true rfl, Nat.le_of_ble_eq_true rfl⟩) (pV (pxS hK hP hD [0, 1] (by decide) rfl) hK hP 0 rfl rfl) rfl rfl hl.1 rfl (lv_room (Nat.le_of_ble_eq_true rfl)) dX4_cutAway_6 ⟨Nat.le_of_ble_eq_true rfl, Nat.le_of_ble_eq_true rfl⟩) hP hD hS hA [0, 1] [some 0, some 1] rfl (by decide +kernel) (fun _ => rfl) (fun u_2 H locs wr_1 hP hD hS => ?_)
  obtain ⟨g5_2, rfl⟩ : ∃ z, z = u_2 := ⟨_, rfl⟩
  have hz_2_0 : TA g5 g5_2 := wr_1
  have hPD := pd_mk (ws := [(a 5, .inr (4, [.ref (a 18), .ref (a 19), .ref (a 20), .ref (a 21), .ref (a 22), .ref (a 23), .ref (a 24), .int (nI sn), .int (nI sk), .int n1, .int sch])), (a 23, .inl (cI, 8, .inl g5_2))]) hP hD
  have hP := hPD.1
  have hD := hPD.2
  rw [hQ]
  exact W.vret hx hb hr (fun tt9 ht hW => ⟨⟨((n1 : Int32), (g5_2 : Nat → Int32)), rfl, (lf_X4_cutAway_t_3 a sn sk scu sch g5 n1 g5_2 hz_2_0), ⟨by rw [ht]; exact hP, hD⟩⟩, hS.F ht⟩) hS.2.2 dX4_cutAway_9 hlocks

theorem lf_X11_cut_m_7 (a : Nat → Nat) (ap : Int32) (sn : Nat) (sk : Nat) (scu : Int32) (sch : Int32) (g5 : Nat → Int32) (n1 : Int32) (hsn : sn ≤ 24) (hsk : sk ≤ 8) (x_2 : Int32) (ex_2 : x_2 = mkA sn ^^^ (-1)) (x_3 : Int32) (ex_3 : x_3 = n1 &&& x_2) (c_4 : x_3 = 0) (scu_6 : Int32) (g5_6 : Nat → Int32) (hz_6_0 : scu_6 = n1) (hz_6_1 : TA g5 g5_6) : ((scu_6 : Int32) = cuF n1 sn scu) ∧ (TW (COK n1 sn) g5 (g5_6 : Nat → Int32)) := by
  refine ⟨?_, ?_⟩
  · first | exact cuF_y (cu_y (by assumption) (by assumption) (by assumption) (by assumption)) (by assumption) | exact cuF_n (cu_n (by assumption) (by assumption) (by assumption) (by assumption))
  · first | exact TW.y (cu_y (by assumption) (by assumption) (by assumption) (by assumption)) (by assumption) | exact TW.n (cu_n (by assumption) (by assumption) (by assumption) (by assumption))
theorem lf_X11_cut_m_8 (a : Nat → Nat) (ap : Int32) (sn : Nat) (sk : Nat) (scu : Int32) (sch : Int32) (g5 : Nat → Int32) (n1 : Int32) (hsn : sn ≤ 24) (hsk : sk ≤ 8) (x_2 : Int32) (ex_2 : x_2 = mkA sn ^^^ (-1)) (x_3 : Int32) (ex_3 : x_3 = n1 &&& x_2) (c_4 : ¬ x_3 = 0) : ((scu : Int32) = cuF n1 sn scu) ∧ (TW (COK n1 sn) g5 (g5 : Nat → Int32)) := by
  refine ⟨?_, ?_⟩
  · first | exact cuF_y (cu_y (by assumption) (by assumption) (by assumption) (by assumption)) (by assumption) | exact cuF_n (cu_n (by assumption) (by assumption) (by assumption) (by assumption))
  · first | exact TW.y (cu_y (by assumption) (by assumption) (by assumption) (by assumption)) (by assumption) | exact TW.n (cu_n (by assumption) (by assumption) (by assumption) (by assumption))
set_option maxHeartbeats 4000000 in
set_option maxRecDepth 100000 in
theorem c_X11_cut_m (l : Launch) (D : va_G) (cI cB cZ cJ : ClassId) (tx : List (ClassId × FieldType)) (a : Nat → Nat) (ap : Int32) (sn : Nat) (sk : Nat) (scu : Int32) (sch : Int32) (g5 : Nat → Int32) (n1 : Int32) (hsn : sn ≤ 24) (hsk : sk ≤ 8) : WrI l D cI cB cZ cJ tx yX11_cut cX11_cut 2 (some .boolean) 2 0 0 [.ref (a 0), .int n1] [(a 0, .inr (11, [.ref (a 1), .ref (a 2), .ref (a 3), .ref (a 4), .ref (a 5), .ref (a 6), .ref (a 7), .ref (a 8), .ref (a 9), .ref (a 10), .ref (a 11), .ref (a 12), .int ap])), (a 5, .inr (4, [.ref (a 18), .ref (a 19), .ref (a 20), .ref (a 21), .ref (a 22), .ref (a 23), .ref (a 24), .int (nI sn), .int (nI sk), .int scu, .int sch])), (a 23, .inl (cI, 8, .inl g5))] (fun (r : Int32) (v : (Int32) × (Nat → Int32)) => (v.1 = cuF n1 sn scu) ∧ (TW (COK n1 sn) g5 v.2)) (fun v => [(a 0, .inr (11, [.ref (a 1), .ref (a 2), .ref (a 3), .ref (a 4), .ref (a 5), .ref (a 6), .ref (a 7), .ref (a 8), .ref (a 9), .ref (a 10), .ref (a 11), .ref (a 12), .int ap])), (a 5, .inr (4, [.ref (a 18), .ref (a 19), .ref (a 20), .ref (a 21), .ref (a 22), .ref (a 23), .ref (a 24), .int (nI sn), .int (nI sk), .int v.1, .int sch])), (a 23, .inl (cI, 8, .inl v.2))]) := by
  refine wri_of2 (by decide) (Nat.le_of_ble_eq_true rfl) ?_
  intro p e s m below meth c A ls H locs hC hK hP hD hA hS hl
  obtain ⟨hx, hb, hr, hml, hown, hts, hlocks, hin⟩ := hC
  have hown : s.vm.findClass RX11 = some m.cls := hown
  have hl : lv_has ls 2 [(0, .ref (a 0)), (1, .int n1)] := hl
  refine W_gQ (fun Q hQ => ?_)
  refine lv_iload_n hx hb dX11_cut_0 rfl (lv_at hl 1 rfl) ?_
  refine lv_aload_n hx hb dX11_cut_1 rfl (lv_at hl 0 rfl) ?_
  refine va_get (D := D) (ci := 11) (v := .ref (a 5)) (C := RX11) (T := TX11) (N := 13) hx hb hts inT_X11 hown hK.1 hP 0 rfl rfl 4 (by decide) (hts _ k_487) (fun _ h9 => h9) rfl dX11_cut_2 ?_
  refine eRi (va_runV (As := []) (rest := [.int n1]) ⟨hx, hb, hml, hown, hts⟩ (c_X4_allStations_f l D cI cB cZ cJ tx a sn sk scu sch H.size) (zV hts k_879 v_X4_allStations ⟨Nat.le_of_ble_eq_true rfl, Nat.le_of_ble_eq_true rfl⟩) (pV (px1 hK hP 1 rfl) hK hP 1 rfl rfl) rfl rfl hl.1 rfl (lv_room (Nat.le_of_ble_eq_true rfl)) dX11_cut_5 ⟨Nat.le_of_ble_eq_true rfl, Nat.le_of_ble_eq_true rfl⟩) hP hS hA (fun r_1 H locs wr_1 hP hS => ?_)
  subst wr_1
  refine lv_iconst (v := (-1)) hx hb dX11_cut_8 (by decide) ?_
  refine lv_ixor hx hb dX11_cut_9 ?_
  refine lv_topi (fun x_2 ex_2 => ?_)
  refine lv_iand hx hb dX11_cut_10 ?_
  refine lv_topi (fun x_3 ex_3 => ?_)
  refine lv_if_eq (tgt := 16) hx hb dX11_cut_11 (by decide) (fun c_4 => ?_) (fun c_4 => ?_)
  · refine lv_aload_n hx hb dX11_cut_16 rfl (lv_at hl 0 rfl) ?_
    refine va_get (D := D) (ci := 11) (v := .ref (a 5)) (C := RX11) (T := TX11) (N := 13) hx hb hts inT_X11 hown hK.1 hP 0 rfl rfl 4 (by decide) (hts _ k_487) (fun _ h9 => h9) rfl dX11_cut_17 ?_
    refine lv_iload_n hx hb dX11_cut_20 rfl (lv_at hl 1 rfl) ?_
    refine eWvP (va_runV (As := [.int n1]) (rest := []) ⟨hx, hb, hml, hown, hts⟩ (c_X4_cutAway_t l D cI cB cZ cJ tx a sn sk scu sch g5 n1 H.size) (zV hts k_883 v_X4_cutAway ⟨Nat.le_of_ble_eq_true rfl, Nat.le_of_ble_eq_true rfl⟩) (pV (pxS hK hP hD [1, 2] (by decide) rfl) hK hP 1 rfl rfl) rfl rfl hl.1 rfl (lv_room (Nat.le_of_ble_eq_true rfl)) dX11_cut_21 ⟨Nat.le_of_ble_eq_true rfl, Nat.le_of_ble_eq_true rfl⟩) hP hD hS hA [1, 2] [none, some 0, some 1] rfl (by decide +kernel) (fun _ => rfl) (fun u_6 H locs wr_5 hP hD hS => ?_)
    obtain ⟨scu_6, g5_6⟩ := u_6
    have hz_6_0 : scu_6 = n1 := wr_5.1
    have hz_6_1 : TA g5 g5_6 := wr_5.2
    have hPD := pd_mk (ws := [(a 0, .inr (11, [.ref (a 1), .ref (a 2), .ref (a 3), .ref (a 4), .ref (a 5), .ref (a 6), .ref (a 7), .ref (a 8), .ref (a 9), .ref (a 10), .ref (a 11), .ref (a 12), .int ap])), (a 5, .inr (4, [.ref (a 18), .ref (a 19), .ref (a 20), .ref (a 21), .ref (a 22), .ref (a 23), .ref (a 24), .int (nI sn), .int (nI sk), .int scu_6, .int sch])), (a 23, .inl (cI, 8, .inl g5_6))]) hP hD
    have hP := hPD.1
    have hD := hPD.2
    refine lv_iconst (v := 1) hx hb dX11_cut_24 (by decide) ?_
    rw [hQ]
    exact W.zret (v := 1) hx hb hr (by decide) (fun tt9 ht hW => ⟨⟨(1 : Int32), ((scu_6 : Int32), (g5_6 : Nat → Int32)), rfl, (lf_X11_cut_m_7 a ap sn sk scu sch g5 n1 hsn hsk x_2 ex_2 x_3 ex_3 c_4 scu_6 g5_6 hz_6_0 hz_6_1), ⟨by rw [ht]; exact hP, hD⟩⟩, hS.F ht⟩) hS.2.2 dX11_cut_25 hlocks
  · refine lv_iconst (v := 0) hx hb dX11_cut_14 (by decide) ?_
    rw [hQ]
    exact W.zret (v := 0) hx hb hr (by decide) (fun tt9 ht hW => ⟨⟨(0 : Int32), ((scu : Int32), (g5 : Nat → Int32)), rfl, (lf_X11_cut_m_8 a ap sn sk scu sch g5 n1 hsn hsk x_2 ex_2 x_3 ex_3 c_4), ⟨by rw [ht]; exact hP, hD⟩⟩, hS.F ht⟩) hS.2.2 dX11_cut_15 hlocks

theorem lf_X4_left_t_3 (a : Nat → Nat) (sn : Nat) (sk : Nat) (scu : Int32) (sch : Int32) (g3 : Nat → Int32) (hsn : sn ≤ 24) (hsk : sk ≤ 8) (j1 : Nat) (w1 : Int32) (k4 : Nat) (hj4 : j1 ≤ sn) (hk4 : sn < j1 + (k4 + 1)) (hrj1 : w1 = lf1 g3 sk j1) (c_1 : nI sn ≤ nI j1) : sn ≤ j1 := by
  exact (nI_leI (a := sn) (b := j1) (by omega) (by omega)).mp c_1
theorem lf_X4_left_t_4 (a : Nat → Nat) (sn : Nat) (sk : Nat) (scu : Int32) (sch : Int32) (g3 : Nat → Int32) (hsn : sn ≤ 24) (hsk : sk ≤ 8) (j1 : Nat) (w1 : Int32) (k4 : Nat) (hj4 : j1 ≤ sn) (hk4 : sn < j1 + (k4 + 1)) (hrj1 : w1 = lf1 g3 sk j1) (c_1 : nI sn ≤ nI j1) (n_2 : sn ≤ j1) : (w1 : Int32) = lf1 g3 sk sn := by
  exact lf_e hrj1 (by omega)
theorem lf_X4_left_t_6 (a : Nat → Nat) (sn : Nat) (sk : Nat) (scu : Int32) (sch : Int32) (g3 : Nat → Int32) (hsn : sn ≤ 24) (hsk : sk ≤ 8) (j1 : Nat) (w1 : Int32) (k4 : Nat) (hj4 : j1 ≤ sn) (hk4 : sn < j1 + (k4 + 1)) (hrj1 : w1 = lf1 g3 sk j1) (c_1 : ¬ nI sn ≤ nI j1) : j1 < sn := by
  exact Nat.lt_of_not_le (fun q => c_1 ((nI_leI (a := sn) (b := j1) (by omega) (by omega)).mpr q))
theorem lf_X4_left_t_9 (a : Nat → Nat) (sn : Nat) (sk : Nat) (scu : Int32) (sch : Int32) (g3 : Nat → Int32) (hsn : sn ≤ 24) (hsk : sk ≤ 8) (j1 : Nat) (w1 : Int32) (k4 : Nat) (hj4 : j1 ≤ sn) (hk4 : sn < j1 + (k4 + 1)) (hrj1 : w1 = lf1 g3 sk j1) (c_1 : ¬ nI sn ≤ nI j1) (n_5 : j1 < sn) (j2 : Nat) (w2 : Int32) (k14 : Nat) (hj14 : j2 ≤ sk) (hk14 : sk < j2 + (k14 + 1)) (hrj2 : w2 = lf2 g3 j1 (lf1 g3 sk j1) j2) (c_7 : nI sk ≤ nI j2) : sk ≤ j2 := by
  exact (nI_leI (a := sk) (b := j2) (by omega) (by omega)).mp c_7
theorem lf_X4_left_t_10 (a : Nat → Nat) (sn : Nat) (sk : Nat) (scu : Int32) (sch : Int32) (g3 : Nat → Int32) (hsn : sn ≤ 24) (hsk : sk ≤ 8) (j1 : Nat) (w1 : Int32) (k4 : Nat) (hj4 : j1 ≤ sn) (hk4 : sn < j1 + (k4 + 1)) (hrj1 : w1 = lf1 g3 sk j1) (c_1 : ¬ nI sn ≤ nI j1) (n_5 : j1 < sn) (j2 : Nat) (w2 : Int32) (k14 : Nat) (hj14 : j2 ≤ sk) (hk14 : sk < j2 + (k14 + 1)) (hrj2 : w2 = lf2 g3 j1 (lf1 g3 sk j1) j2) (c_7 : nI sk ≤ nI j2) (n_8 : sk ≤ j2) : w2 = lf1 g3 sk (j1 + 1) := by
  first | assumption | exact lf_s3 hrj3 (by assumption) (by assumption) (by omega) | exact lf_n3 hrj3 (by assumption) (by assumption) (by omega) | exact lf_s2 hrj3 (by omega) | exact lf_s1 hrj2 (by omega) | rfl
theorem lf_X4_left_t_12 (a : Nat → Nat) (sn : Nat) (sk : Nat) (scu : Int32) (sch : Int32) (g3 : Nat → Int32) (hsn : sn ≤ 24) (hsk : sk ≤ 8) (j1 : Nat) (w1 : Int32) (k4 : Nat) (hj4 : j1 ≤ sn) (hk4 : sn < j1 + (k4 + 1)) (hrj1 : w1 = lf1 g3 sk j1) (c_1 : ¬ nI sn ≤ nI j1) (n_5 : j1 < sn) (j2 : Nat) (w2 : Int32) (k14 : Nat) (hj14 : j2 ≤ sk) (hk14 : sk < j2 + (k14 + 1)) (hrj2 : w2 = lf2 g3 j1 (lf1 g3 sk j1) j2) (c_7 : ¬ nI sk ≤ nI j2) : j2 < sk := by
  exact Nat.lt_of_not_le (fun q => c_7 ((nI_leI (a := sk) (b := j2) (by omega) (by omega)).mpr q))
theorem lf_X4_left_t_15 (a : Nat → Nat) (sn : Nat) (sk : Nat) (scu : Int32) (sch : Int32) (g3 : Nat → Int32) (hsn : sn ≤ 24) (hsk : sk ≤ 8) (j1 : Nat) (w1 : Int32) (k4 : Nat) (hj4 : j1 ≤ sn) (hk4 : sn < j1 + (k4 + 1)) (hrj1 : w1 = lf1 g3 sk j1) (c_1 : ¬ nI sn ≤ nI j1) (n_5 : j1 < sn) (j2 : Nat) (w2 : Int32) (k14 : Nat) (hj14 : j2 ≤ sk) (hk14 : sk < j2 + (k14 + 1)) (hrj2 : w2 = lf2 g3 j1 (lf1 g3 sk j1) j2) (c_7 : ¬ nI sk ≤ nI j2) (n_11 : j2 < sk) (j3 : Nat) (w3 : Int32) (k25 : Nat) (hj25 : j3 ≤ 2) (hk25 : 2 < j3 + (k25 + 1)) (hrj3 : w3 = lf3 g3 j1 j2 (lf2 g3 j1 (lf1 g3 sk j1) j2) j3) (c_13 : 2 ≤ nI j3) : 2 ≤ j3 := by
  exact (nI_leI (a := 2) (b := j3) (by omega) (by omega)).mp c_13
theorem lf_X4_left_t_16 (a : Nat → Nat) (sn : Nat) (sk : Nat) (scu : Int32) (sch : Int32) (g3 : Nat → Int32) (hsn : sn ≤ 24) (hsk : sk ≤ 8) (j1 : Nat) (w1 : Int32) (k4 : Nat) (hj4 : j1 ≤ sn) (hk4 : sn < j1 + (k4 + 1)) (hrj1 : w1 = lf1 g3 sk j1) (c_1 : ¬ nI sn ≤ nI j1) (n_5 : j1 < sn) (j2 : Nat) (w2 : Int32) (k14 : Nat) (hj14 : j2 ≤ sk) (hk14 : sk < j2 + (k14 + 1)) (hrj2 : w2 = lf2 g3 j1 (lf1 g3 sk j1) j2) (c_7 : ¬ nI sk ≤ nI j2) (n_11 : j2 < sk) (j3 : Nat) (w3 : Int32) (k25 : Nat) (hj25 : j3 ≤ 2) (hk25 : 2 < j3 + (k25 + 1)) (hrj3 : w3 = lf3 g3 j1 j2 (lf2 g3 j1 (lf1 g3 sk j1) j2) j3) (c_13 : 2 ≤ nI j3) (n_14 : 2 ≤ j3) : w3 = lf2 g3 j1 (lf1 g3 sk j1) (j2 + 1) := by
  first | assumption | exact lf_s3 hrj3 (by assumption) (by assumption) (by omega) | exact lf_n3 hrj3 (by assumption) (by assumption) (by omega) | exact lf_s2 hrj3 (by omega) | exact lf_s1 hrj2 (by omega) | rfl
theorem lf_X4_left_t_18 (a : Nat → Nat) (sn : Nat) (sk : Nat) (scu : Int32) (sch : Int32) (g3 : Nat → Int32) (hsn : sn ≤ 24) (hsk : sk ≤ 8) (j1 : Nat) (w1 : Int32) (k4 : Nat) (hj4 : j1 ≤ sn) (hk4 : sn < j1 + (k4 + 1)) (hrj1 : w1 = lf1 g3 sk j1) (c_1 : ¬ nI sn ≤ nI j1) (n_5 : j1 < sn) (j2 : Nat) (w2 : Int32) (k14 : Nat) (hj14 : j2 ≤ sk) (hk14 : sk < j2 + (k14 + 1)) (hrj2 : w2 = lf2 g3 j1 (lf1 g3 sk j1) j2) (c_7 : ¬ nI sk ≤ nI j2) (n_11 : j2 < sk) (j3 : Nat) (w3 : Int32) (k25 : Nat) (hj25 : j3 ≤ 2) (hk25 : 2 < j3 + (k25 + 1)) (hrj3 : w3 = lf3 g3 j1 j2 (lf2 g3 j1 (lf1 g3 sk j1) j2) j3) (c_13 : ¬ 2 ≤ nI j3) : j3 < 2 := by
  exact Nat.lt_of_not_le (fun q => c_13 ((nI_leI (a := 2) (b := j3) (by omega) (by omega)).mpr q))
theorem lf_X4_left_t_19 (a : Nat → Nat) (sn : Nat) (sk : Nat) (scu : Int32) (sch : Int32) (g3 : Nat → Int32) (hsn : sn ≤ 24) (hsk : sk ≤ 8) (j1 : Nat) (w1 : Int32) (k4 : Nat) (hj4 : j1 ≤ sn) (hk4 : sn < j1 + (k4 + 1)) (hrj1 : w1 = lf1 g3 sk j1) (c_1 : ¬ nI sn ≤ nI j1) (n_5 : j1 < sn) (j2 : Nat) (w2 : Int32) (k14 : Nat) (hj14 : j2 ≤ sk) (hk14 : sk < j2 + (k14 + 1)) (hrj2 : w2 = lf2 g3 j1 (lf1 g3 sk j1) j2) (c_7 : ¬ nI sk ≤ nI j2) (n_11 : j2 < sk) (j3 : Nat) (w3 : Int32) (k25 : Nat) (hj25 : j3 ≤ 2) (hk25 : 2 < j3 + (k25 + 1)) (hrj3 : w3 = lf3 g3 j1 j2 (lf2 g3 j1 (lf1 g3 sk j1) j2) j3) (c_13 : ¬ 2 ≤ nI j3) (n_17 : j3 < 2) : sn ≤ 24 := by
  first | assumption | omega | decide
theorem lf_X4_left_t_20 (a : Nat → Nat) (sn : Nat) (sk : Nat) (scu : Int32) (sch : Int32) (g3 : Nat → Int32) (hsn : sn ≤ 24) (hsk : sk ≤ 8) (j1 : Nat) (w1 : Int32) (k4 : Nat) (hj4 : j1 ≤ sn) (hk4 : sn < j1 + (k4 + 1)) (hrj1 : w1 = lf1 g3 sk j1) (c_1 : ¬ nI sn ≤ nI j1) (n_5 : j1 < sn) (j2 : Nat) (w2 : Int32) (k14 : Nat) (hj14 : j2 ≤ sk) (hk14 : sk < j2 + (k14 + 1)) (hrj2 : w2 = lf2 g3 j1 (lf1 g3 sk j1) j2) (c_7 : ¬ nI sk ≤ nI j2) (n_11 : j2 < sk) (j3 : Nat) (w3 : Int32) (k25 : Nat) (hj25 : j3 ≤ 2) (hk25 : 2 < j3 + (k25 + 1)) (hrj3 : w3 = lf3 g3 j1 j2 (lf2 g3 j1 (lf1 g3 sk j1) j2) j3) (c_13 : ¬ 2 ≤ nI j3) (n_17 : j3 < 2) : sk ≤ 8 := by
  first | assumption | omega | decide
theorem lf_X4_left_t_21 (a : Nat → Nat) (sn : Nat) (sk : Nat) (scu : Int32) (sch : Int32) (g3 : Nat → Int32) (hsn : sn ≤ 24) (hsk : sk ≤ 8) (j1 : Nat) (w1 : Int32) (k4 : Nat) (hj4 : j1 ≤ sn) (hk4 : sn < j1 + (k4 + 1)) (hrj1 : w1 = lf1 g3 sk j1) (c_1 : ¬ nI sn ≤ nI j1) (n_5 : j1 < sn) (j2 : Nat) (w2 : Int32) (k14 : Nat) (hj14 : j2 ≤ sk) (hk14 : sk < j2 + (k14 + 1)) (hrj2 : w2 = lf2 g3 j1 (lf1 g3 sk j1) j2) (c_7 : ¬ nI sk ≤ nI j2) (n_11 : j2 < sk) (j3 : Nat) (w3 : Int32) (k25 : Nat) (hj25 : j3 ≤ 2) (hk25 : 2 < j3 + (k25 + 1)) (hrj3 : w3 = lf3 g3 j1 j2 (lf2 g3 j1 (lf1 g3 sk j1) j2) j3) (c_13 : ¬ 2 ≤ nI j3) (n_17 : j3 < 2) : j1 < sn := by
  first | assumption | omega | decide
theorem lf_X4_left_t_22 (a : Nat → Nat) (sn : Nat) (sk : Nat) (scu : Int32) (sch : Int32) (g3 : Nat → Int32) (hsn : sn ≤ 24) (hsk : sk ≤ 8) (j1 : Nat) (w1 : Int32) (k4 : Nat) (hj4 : j1 ≤ sn) (hk4 : sn < j1 + (k4 + 1)) (hrj1 : w1 = lf1 g3 sk j1) (c_1 : ¬ nI sn ≤ nI j1) (n_5 : j1 < sn) (j2 : Nat) (w2 : Int32) (k14 : Nat) (hj14 : j2 ≤ sk) (hk14 : sk < j2 + (k14 + 1)) (hrj2 : w2 = lf2 g3 j1 (lf1 g3 sk j1) j2) (c_7 : ¬ nI sk ≤ nI j2) (n_11 : j2 < sk) (j3 : Nat) (w3 : Int32) (k25 : Nat) (hj25 : j3 ≤ 2) (hk25 : 2 < j3 + (k25 + 1)) (hrj3 : w3 = lf3 g3 j1 j2 (lf2 g3 j1 (lf1 g3 sk j1) j2) j3) (c_13 : ¬ 2 ≤ nI j3) (n_17 : j3 < 2) : j2 < sk := by
  first | assumption | omega | decide
theorem lf_X4_left_t_23 (a : Nat → Nat) (sn : Nat) (sk : Nat) (scu : Int32) (sch : Int32) (g3 : Nat → Int32) (hsn : sn ≤ 24) (hsk : sk ≤ 8) (j1 : Nat) (w1 : Int32) (k4 : Nat) (hj4 : j1 ≤ sn) (hk4 : sn < j1 + (k4 + 1)) (hrj1 : w1 = lf1 g3 sk j1) (c_1 : ¬ nI sn ≤ nI j1) (n_5 : j1 < sn) (j2 : Nat) (w2 : Int32) (k14 : Nat) (hj14 : j2 ≤ sk) (hk14 : sk < j2 + (k14 + 1)) (hrj2 : w2 = lf2 g3 j1 (lf1 g3 sk j1) j2) (c_7 : ¬ nI sk ≤ nI j2) (n_11 : j2 < sk) (j3 : Nat) (w3 : Int32) (k25 : Nat) (hj25 : j3 ≤ 2) (hk25 : 2 < j3 + (k25 + 1)) (hrj3 : w3 = lf3 g3 j1 j2 (lf2 g3 j1 (lf1 g3 sk j1) j2) j3) (c_13 : ¬ 2 ≤ nI j3) (n_17 : j3 < 2) : j3 < 2 := by
  first | assumption | omega | decide
theorem lf_X4_left_t_25 (a : Nat → Nat) (sn : Nat) (sk : Nat) (scu : Int32) (sch : Int32) (g3 : Nat → Int32) (hsn : sn ≤ 24) (hsk : sk ≤ 8) (j1 : Nat) (w1 : Int32) (k4 : Nat) (hj4 : j1 ≤ sn) (hk4 : sn < j1 + (k4 + 1)) (hrj1 : w1 = lf1 g3 sk j1) (c_1 : ¬ nI sn ≤ nI j1) (n_5 : j1 < sn) (j2 : Nat) (w2 : Int32) (k14 : Nat) (hj14 : j2 ≤ sk) (hk14 : sk < j2 + (k14 + 1)) (hrj2 : w2 = lf2 g3 j1 (lf1 g3 sk j1) j2) (c_7 : ¬ nI sk ≤ nI j2) (n_11 : j2 < sk) (j3 : Nat) (w3 : Int32) (k25 : Nat) (hj25 : j3 ≤ 2) (hk25 : 2 < j3 + (k25 + 1)) (hrj3 : w3 = lf3 g3 j1 j2 (lf2 g3 j1 (lf1 g3 sk j1) j2) j3) (c_13 : ¬ 2 ≤ nI j3) (n_17 : j3 < 2) : ¬ nI ((j1 * 8 + j2) * 2 + j3) < 0 := by
  first | exact nI_pos (by omega) | exact nI_pos' (by omega)
theorem lf_X4_left_t_26 (a : Nat → Nat) (sn : Nat) (sk : Nat) (scu : Int32) (sch : Int32) (g3 : Nat → Int32) (hsn : sn ≤ 24) (hsk : sk ≤ 8) (j1 : Nat) (w1 : Int32) (k4 : Nat) (hj4 : j1 ≤ sn) (hk4 : sn < j1 + (k4 + 1)) (hrj1 : w1 = lf1 g3 sk j1) (c_1 : ¬ nI sn ≤ nI j1) (n_5 : j1 < sn) (j2 : Nat) (w2 : Int32) (k14 : Nat) (hj14 : j2 ≤ sk) (hk14 : sk < j2 + (k14 + 1)) (hrj2 : w2 = lf2 g3 j1 (lf1 g3 sk j1) j2) (c_7 : ¬ nI sk ≤ nI j2) (n_11 : j2 < sk) (j3 : Nat) (w3 : Int32) (k25 : Nat) (hj25 : j3 ≤ 2) (hk25 : 2 < j3 + (k25 + 1)) (hrj3 : w3 = lf3 g3 j1 j2 (lf2 g3 j1 (lf1 g3 sk j1) j2) j3) (c_13 : ¬ 2 ≤ nI j3) (n_17 : j3 < 2) : ((j1 * 8 + j2) * 2 + j3) < 384 := by
  omega
theorem lf_X4_left_t_29 (a : Nat → Nat) (sn : Nat) (sk : Nat) (scu : Int32) (sch : Int32) (g3 : Nat → Int32) (hsn : sn ≤ 24) (hsk : sk ≤ 8) (j1 : Nat) (w1 : Int32) (k4 : Nat) (hj4 : j1 ≤ sn) (hk4 : sn < j1 + (k4 + 1)) (hrj1 : w1 = lf1 g3 sk j1) (c_1 : ¬ nI sn ≤ nI j1) (n_5 : j1 < sn) (j2 : Nat) (w2 : Int32) (k14 : Nat) (hj14 : j2 ≤ sk) (hk14 : sk < j2 + (k14 + 1)) (hrj2 : w2 = lf2 g3 j1 (lf1 g3 sk j1) j2) (c_7 : ¬ nI sk ≤ nI j2) (n_11 : j2 < sk) (j3 : Nat) (w3 : Int32) (k25 : Nat) (hj25 : j3 ≤ 2) (hk25 : 2 < j3 + (k25 + 1)) (hrj3 : w3 = lf3 g3 j1 j2 (lf2 g3 j1 (lf1 g3 sk j1) j2) j3) (c_13 : ¬ 2 ≤ nI j3) (n_17 : j3 < 2) (c_27 : g3 ((j1 * 8 + j2) * 2 + j3) = 0) (x_28 : Int32) (ex_28 : x_28 = w3 + 1) : x_28 = lf3 g3 j1 j2 (lf2 g3 j1 (lf1 g3 sk j1) j2) (j3 + 1) := by
  first | assumption | exact lf_s3 hrj3 (by assumption) (by assumption) (by omega) | exact lf_n3 hrj3 (by assumption) (by assumption) (by omega) | exact lf_s2 hrj3 (by omega) | exact lf_s1 hrj2 (by omega) | rfl
theorem lf_X4_left_t_31 (a : Nat → Nat) (sn : Nat) (sk : Nat) (scu : Int32) (sch : Int32) (g3 : Nat → Int32) (hsn : sn ≤ 24) (hsk : sk ≤ 8) (j1 : Nat) (w1 : Int32) (k4 : Nat) (hj4 : j1 ≤ sn) (hk4 : sn < j1 + (k4 + 1)) (hrj1 : w1 = lf1 g3 sk j1) (c_1 : ¬ nI sn ≤ nI j1) (n_5 : j1 < sn) (j2 : Nat) (w2 : Int32) (k14 : Nat) (hj14 : j2 ≤ sk) (hk14 : sk < j2 + (k14 + 1)) (hrj2 : w2 = lf2 g3 j1 (lf1 g3 sk j1) j2) (c_7 : ¬ nI sk ≤ nI j2) (n_11 : j2 < sk) (j3 : Nat) (w3 : Int32) (k25 : Nat) (hj25 : j3 ≤ 2) (hk25 : 2 < j3 + (k25 + 1)) (hrj3 : w3 = lf3 g3 j1 j2 (lf2 g3 j1 (lf1 g3 sk j1) j2) j3) (c_13 : ¬ 2 ≤ nI j3) (n_17 : j3 < 2) (c_27 : ¬ g3 ((j1 * 8 + j2) * 2 + j3) = 0) (x_30 : Int32) (ex_30 : x_30 = w3 + 0) : x_30 = lf3 g3 j1 j2 (lf2 g3 j1 (lf1 g3 sk j1) j2) (j3 + 1) := by
  first | assumption | exact lf_s3 hrj3 (by assumption) (by assumption) (by omega) | exact lf_n3 hrj3 (by assumption) (by assumption) (by omega) | exact lf_s2 hrj3 (by omega) | exact lf_s1 hrj2 (by omega) | rfl
theorem lf_X4_left_t_32 (a : Nat → Nat) (sn : Nat) (sk : Nat) (scu : Int32) (sch : Int32) (g3 : Nat → Int32) (hsn : sn ≤ 24) (hsk : sk ≤ 8) (j1 : Nat) (w1 : Int32) (k4 : Nat) (hj4 : j1 ≤ sn) (hk4 : sn < j1 + (k4 + 1)) (hrj1 : w1 = lf1 g3 sk j1) (c_1 : ¬ nI sn ≤ nI j1) (n_5 : j1 < sn) (j2 : Nat) (w2 : Int32) (k14 : Nat) (hj14 : j2 ≤ sk) (hk14 : sk < j2 + (k14 + 1)) (hrj2 : w2 = lf2 g3 j1 (lf1 g3 sk j1) j2) (c_7 : ¬ nI sk ≤ nI j2) (n_11 : j2 < sk) : w2 = lf3 g3 j1 j2 (lf2 g3 j1 (lf1 g3 sk j1) j2) 0 := by
  first | assumption | exact lf_s3 hrj3 (by assumption) (by assumption) (by omega) | exact lf_n3 hrj3 (by assumption) (by assumption) (by omega) | exact lf_s2 hrj3 (by omega) | exact lf_s1 hrj2 (by omega) | rfl
theorem lf_X4_left_t_33 (a : Nat → Nat) (sn : Nat) (sk : Nat) (scu : Int32) (sch : Int32) (g3 : Nat → Int32) (hsn : sn ≤ 24) (hsk : sk ≤ 8) (j1 : Nat) (w1 : Int32) (k4 : Nat) (hj4 : j1 ≤ sn) (hk4 : sn < j1 + (k4 + 1)) (hrj1 : w1 = lf1 g3 sk j1) (c_1 : ¬ nI sn ≤ nI j1) (n_5 : j1 < sn) : w1 = lf2 g3 j1 (lf1 g3 sk j1) 0 := by
  first | assumption | exact lf_s3 hrj3 (by assumption) (by assumption) (by omega) | exact lf_n3 hrj3 (by assumption) (by assumption) (by omega) | exact lf_s2 hrj3 (by omega) | exact lf_s1 hrj2 (by omega) | rfl
theorem lf_X4_left_t_34 (a : Nat → Nat) (sn : Nat) (sk : Nat) (scu : Int32) (sch : Int32) (g3 : Nat → Int32) (hsn : sn ≤ 24) (hsk : sk ≤ 8) : (0 : Int32) = lf1 g3 sk 0 := by
  first | assumption | exact lf_s3 hrj3 (by assumption) (by assumption) (by omega) | exact lf_n3 hrj3 (by assumption) (by assumption) (by omega) | exact lf_s2 hrj3 (by omega) | exact lf_s1 hrj2 (by omega) | rfl
set_option maxHeartbeats 4000000 in
set_option maxRecDepth 100000 in
theorem c_X4_left_t (l : Launch) (D : va_G) (cI cB cZ cJ : ClassId) (tx : List (ClassId × FieldType)) (a : Nat → Nat) (sn : Nat) (sk : Nat) (scu : Int32) (sch : Int32) (g3 : Nat → Int32) (hsn : sn ≤ 24) (hsk : sk ≤ 8) : RdI l D cI cB cZ cJ tx yX4_left cX4_left 6 (some .int) 2 [.ref (a 5)] [(a 5, .inr (4, [.ref (a 18), .ref (a 19), .ref (a 20), .ref (a 21), .ref (a 22), .ref (a 23), .ref (a 24), .int (nI sn), .int (nI sk), .int scu, .int sch])), (a 21, .inl (cZ, 384, .inl g3))] (fun r => r = lf1 g3 sk sn) := by
  refine rdi_of2 (by decide) (Nat.le_of_ble_eq_true rfl) ?_
  intro p e s m below meth c A ls H locs hC hK hP hD hA hS hl
  obtain ⟨hx, hb, hr, hml, hown, hts, hlocks, hin⟩ := hC
  have hown : s.vm.findClass RX4 = some m.cls := hown
  have hl : lv_has ls 6 [(0, .ref (a 5))] := hl
  refine W_gQ (fun Q hQ => ?_)
  refine lv_iconst (v := 0) hx hb dX4_left_0 (by decide) ?_
  refine lv_istore_n (lv' := [(1, .int 0), (0, .ref (a 5))]) hx hb dX4_left_1 rfl hl (by decide) rfl (fun ls hl => ?_)
  refine lv_iconst (v := 0) hx hb dX4_left_2 (by decide) ?_
  refine lv_istore_n (lv' := [(2, .int 0), (1, .int 0), (0, .ref (a 5))]) hx hb dX4_left_3 rfl hl (by decide) rfl (fun ls hl => ?_)
  have lp4 : ∀ (k4 : Nat) (j1 : Nat) (w1 : Int32) (H : Heap) (locs : List Loc) (ls : Array Slot), j1 ≤ sn → sn < j1 + k4 → (w1 = lf1 g3 sk j1) → va_P D vwCl [(a 5, .inr (4, [.ref (a 18), .ref (a 19), .ref (a 20), .ref (a 21), .ref (a 22), .ref (a 23), .ref (a 24), .int (nI sn), .int (nI sk), .int scu, .int sch])), (a 21, .inl (cZ, 384, .inl g3))] H → va_S A s.heap H locs → lv_has ls 6 [(2, .int (nI j1)), (1, .int w1), (0, .ref (a 5))] → W p l e (rmX 2 0 0) s m ([.ref (a 5)] : List Value).toArray below meth c H locs 0 0 Q (F0 m 4 ls []) := by
    intro k4
    induction k4 with
    | zero =>
      intro j1 w1 H locs ls hj4 hk4 hrj1 hP hS hl
      exact absurd hk4 (by omega)
    | succ k4 ih4 =>
      intro j1 w1 H locs ls hj4 hk4 hrj1 hP hS hl
      refine lv_iload_n hx hb dX4_left_4 rfl (lv_at hl 0 rfl) ?_
      refine lv_aload_n hx hb dX4_left_5 rfl (lv_at hl 2 rfl) ?_
      refine va_get (D := D) (ci := 4) (v := .int (nI sn)) (C := RX4) (T := TX4) (N := 11) hx hb hts inT_X4 hown hK.1 hP 0 rfl rfl 7 (by decide) (hts _ k_248) (fun _ h9 => h9) rfl dX4_left_6 ?_
      refine lv_icmp_ge (tgt := 82) hx hb dX4_left_9 (by decide) (fun c_1 => ?_) (fun c_1 => ?_)
      · have n_2 : sn ≤ j1 := (lf_X4_left_t_3 a sn sk scu sch g3 hsn hsk j1 w1 k4 hj4 hk4 hrj1 c_1)
        refine lv_iload_n hx hb dX4_left_82 rfl (lv_at hl 1 rfl) ?_
        rw [hQ]
        exact W.iret (v := w1) hx hb hr (fun tt9 ht hW => ⟨⟨(w1 : Int32), (), rfl, (lf_X4_left_t_4 a sn sk scu sch g3 hsn hsk j1 w1 k4 hj4 hk4 hrj1 c_1 n_2), trivial⟩, hS.F ht⟩) hS.2.2 dX4_left_83 hlocks
      · have n_5 : j1 < sn := (lf_X4_left_t_6 a sn sk scu sch g3 hsn hsk j1 w1 k4 hj4 hk4 hrj1 c_1)
        refine lv_iconst (v := 0) hx hb dX4_left_12 (by decide) ?_
        refine lv_istore_n (lv' := [(3, .int 0), (2, .int (nI j1)), (1, .int w1), (0, .ref (a 5))]) hx hb dX4_left_13 rfl hl (by decide) rfl (fun ls hl => ?_)
        have lp14 : ∀ (k14 : Nat) (j2 : Nat) (w2 : Int32) (H : Heap) (locs : List Loc) (ls : Array Slot), j2 ≤ sk → sk < j2 + k14 → (w2 = lf2 g3 j1 (lf1 g3 sk j1) j2) → va_P D vwCl [(a 5, .inr (4, [.ref (a 18), .ref (a 19), .ref (a 20), .ref (a 21), .ref (a 22), .ref (a 23), .ref (a 24), .int (nI sn), .int (nI sk), .int scu, .int sch])), (a 21, .inl (cZ, 384, .inl g3))] H → va_S A s.heap H locs → lv_has ls 6 [(3, .int (nI j2)), (2, .int (nI j1)), (1, .int w2), (0, .ref (a 5))] → W p l e (rmX 2 0 0) s m ([.ref (a 5)] : List Value).toArray below meth c H locs 0 0 Q (F0 m 14 ls []) := by
          intro k14
          induction k14 with
          | zero =>
            intro j2 w2 H locs ls hj14 hk14 hrj2 hP hS hl
            exact absurd hk14 (by omega)
          | succ k14 ih14 =>
            intro j2 w2 H locs ls hj14 hk14 hrj2 hP hS hl
            refine lv_iload_n hx hb dX4_left_14 rfl (lv_at hl 0 rfl) ?_
            refine lv_aload_n hx hb dX4_left_15 rfl (lv_at hl 3 rfl) ?_
            refine va_get (D := D) (ci := 4) (v := .int (nI sk)) (C := RX4) (T := TX4) (N := 11) hx hb hts inT_X4 hown hK.1 hP 0 rfl rfl 8 (by decide) (hts _ k_257) (fun _ h9 => h9) rfl dX4_left_16 ?_
            refine lv_icmp_ge (tgt := 76) hx hb dX4_left_19 (by decide) (fun c_7 => ?_) (fun c_7 => ?_)
            · have n_8 : sk ≤ j2 := (lf_X4_left_t_9 a sn sk scu sch g3 hsn hsk j1 w1 k4 hj4 hk4 hrj1 c_1 n_5 j2 w2 k14 hj14 hk14 hrj2 c_7)
              refine lv_iinc (v := nI (j1 + 1)) (lv' := [(2, .int (nI (j1 + 1))), (3, .int (nI j2)), (1, .int w2), (0, .ref (a 5))]) hx hb dX4_left_76 hl (k := 1) rfl (nI_1 j1) (by decide) rfl (fun ls hl => ?_)
              refine lv_goto (tgt := 4) hx hb dX4_left_79 (by decide) ?_
              exact ih4 (j1 + 1) w2 H locs ls (by omega) (by omega) (lf_X4_left_t_10 a sn sk scu sch g3 hsn hsk j1 w1 k4 hj4 hk4 hrj1 c_1 n_5 j2 w2 k14 hj14 hk14 hrj2 c_7 n_8) (hP.sub [0, 1] rfl)  hS (lv_sub hl [0, 2, 3] rfl)
            · have n_11 : j2 < sk := (lf_X4_left_t_12 a sn sk scu sch g3 hsn hsk j1 w1 k4 hj4 hk4 hrj1 c_1 n_5 j2 w2 k14 hj14 hk14 hrj2 c_7)
              refine lv_iconst (v := 0) hx hb dX4_left_22 (by decide) ?_
              refine lv_istore (lv' := [(4, .int 0), (3, .int (nI j2)), (2, .int (nI j1)), (1, .int w2), (0, .ref (a 5))]) hx hb dX4_left_23 hl (by decide) rfl (fun ls hl => ?_)
              have lp25 : ∀ (k25 : Nat) (j3 : Nat) (w3 : Int32) (H : Heap) (locs : List Loc) (ls : Array Slot), j3 ≤ 2 → 2 < j3 + k25 → (w3 = lf3 g3 j1 j2 (lf2 g3 j1 (lf1 g3 sk j1) j2) j3) → va_P D vwCl [(a 5, .inr (4, [.ref (a 18), .ref (a 19), .ref (a 20), .ref (a 21), .ref (a 22), .ref (a 23), .ref (a 24), .int (nI sn), .int (nI sk), .int scu, .int sch])), (a 21, .inl (cZ, 384, .inl g3))] H → va_S A s.heap H locs → lv_has ls 6 [(4, .int (nI j3)), (3, .int (nI j2)), (2, .int (nI j1)), (1, .int w3), (0, .ref (a 5))] → W p l e (rmX 2 0 0) s m ([.ref (a 5)] : List Value).toArray below meth c H locs 0 0 Q (F0 m 25 ls []) := by
                intro k25
                induction k25 with
                | zero =>
                  intro j3 w3 H locs ls hj25 hk25 hrj3 hP hS hl
                  exact absurd hk25 (by omega)
                | succ k25 ih25 =>
                  intro j3 w3 H locs ls hj25 hk25 hrj3 hP hS hl
                  refine lv_iload hx hb dX4_left_25 (lv_at hl 0 rfl) ?_
                  refine lv_iconst (v := 2) hx hb dX4_left_27 (by decide) ?_
                  refine lv_icmp_ge (tgt := 70) hx hb dX4_left_28 (by decide) (fun c_13 => ?_) (fun c_13 => ?_)
                  · have n_14 : 2 ≤ j3 := (lf_X4_left_t_15 a sn sk scu sch g3 hsn hsk j1 w1 k4 hj4 hk4 hrj1 c_1 n_5 j2 w2 k14 hj14 hk14 hrj2 c_7 n_11 j3 w3 k25 hj25 hk25 hrj3 c_13)
                    refine lv_iinc (v := nI (j2 + 1)) (lv' := [(3, .int (nI (j2 + 1))), (4, .int (nI j3)), (2, .int (nI j1)), (1, .int w3), (0, .ref (a 5))]) hx hb dX4_left_70 hl (k := 1) rfl (nI_1 j2) (by decide) rfl (fun ls hl => ?_)
                    refine lv_goto (tgt := 14) hx hb dX4_left_73 (by decide) ?_
                    exact ih14 (j2 + 1) w3 H locs ls (by omega) (by omega) (lf_X4_left_t_16 a sn sk scu sch g3 hsn hsk j1 w1 k4 hj4 hk4 hrj1 c_1 n_5 j2 w2 k14 hj14 hk14 hrj2 c_7 n_11 j3 w3 k25 hj25 hk25 hrj3 c_13 n_14) (hP.sub [0, 1] rfl)  hS (lv_sub hl [0, 2, 3, 4] rfl)
                  · have n_17 : j3 < 2 := (lf_X4_left_t_18 a sn sk scu sch g3 hsn hsk j1 w1 k4 hj4 hk4 hrj1 c_1 n_5 j2 w2 k14 hj14 hk14 hrj2 c_7 n_11 j3 w3 k25 hj25 hk25 hrj3 c_13)
                    refine lv_aload_n hx hb dX4_left_31 rfl (lv_at hl 4 rfl) ?_
                    refine lv_iload_n hx hb dX4_left_32 rfl (lv_at hl 2 rfl) ?_
                    refine lv_iload_n hx hb dX4_left_33 rfl (lv_at hl 1 rfl) ?_
                    refine lv_iload hx hb dX4_left_34 (lv_at hl 0 rfl) ?_
                    refine eRi (va_runV (As := [.int (nI j1), .int (nI j2), .int (nI j3)]) (rest := []) ⟨hx, hb, hml, hown, hts⟩ (c_X4_rivetAt_g l D cI cB cZ cJ tx a sn sk scu sch j1 j2 j3 (lf_X4_left_t_19 a sn sk scu sch g3 hsn hsk j1 w1 k4 hj4 hk4 hrj1 c_1 n_5 j2 w2 k14 hj14 hk14 hrj2 c_7 n_11 j3 w3 k25 hj25 hk25 hrj3 c_13 n_17) (lf_X4_left_t_20 a sn sk scu sch g3 hsn hsk j1 w1 k4 hj4 hk4 hrj1 c_1 n_5 j2 w2 k14 hj14 hk14 hrj2 c_7 n_11 j3 w3 k25 hj25 hk25 hrj3 c_13 n_17) (lf_X4_left_t_21 a sn sk scu sch g3 hsn hsk j1 w1 k4 hj4 hk4 hrj1 c_1 n_5 j2 w2 k14 hj14 hk14 hrj2 c_7 n_11 j3 w3 k25 hj25 hk25 hrj3 c_13 n_17) (lf_X4_left_t_22 a sn sk scu sch g3 hsn hsk j1 w1 k4 hj4 hk4 hrj1 c_1 n_5 j2 w2 k14 hj14 hk14 hrj2 c_7 n_11 j3 w3 k25 hj25 hk25 hrj3 c_13 n_17) (lf_X4_left_t_23 a sn sk scu sch g3 hsn hsk j1 w1 k4 hj4 hk4 hrj1 c_1 n_5 j2 w2 k14 hj14 hk14 hrj2 c_7 n_11 j3 w3 k25 hj25 hk25 hrj3 c_13 n_17) H.size) (zV hts k_773 v_X4_rivetAt ⟨Nat.le_of_ble_eq_true rfl, Nat.le_of_ble_eq_true rfl⟩) (pV (px1 hK hP 0 rfl) hK hP 0 rfl rfl) rfl rfl hl.1 rfl (lv_room (Nat.le_of_ble_eq_true rfl)) dX4_left_36 ⟨Nat.le_of_ble_eq_true rfl, Nat.le_of_ble_eq_true rfl⟩) hP hS hA (fun r_24 H locs wr_24 hP hS => ?_)
                    subst wr_24
                    refine lv_istore (lv' := [(5, .int (nI ((j1 * 8 + j2) * 2 + j3))), (4, .int (nI j3)), (3, .int (nI j2)), (2, .int (nI j1)), (1, .int w3), (0, .ref (a 5))]) hx hb dX4_left_39 hl (by decide) rfl (fun ls hl => ?_)
                    refine lv_iload_n hx hb dX4_left_41 rfl (lv_at hl 4 rfl) ?_
                    refine lv_iload hx hb dX4_left_42 (lv_at hl 0 rfl) ?_
                    refine lv_if_lt (tgt := 57) hx hb dX4_left_44 (by decide) (fun c => absurd c (lf_X4_left_t_25 a sn sk scu sch g3 hsn hsk j1 w1 k4 hj4 hk4 hrj1 c_1 n_5 j2 w2 k14 hj14 hk14 hrj2 c_7 n_11 j3 w3 k25 hj25 hk25 hrj3 c_13 n_17)) (fun _ => ?_)
                    refine lv_aload_n hx hb dX4_left_47 rfl (lv_at hl 5 rfl) ?_
                    refine va_get (D := D) (ci := 4) (v := .ref (a 21)) (C := RX4) (T := TX4) (N := 11) hx hb hts inT_X4 hown hK.1 hP 0 rfl rfl 3 (by decide) (hts _ k_241) (fun _ h9 => h9) rfl dX4_left_48 ?_
                    refine lv_iload hx hb dX4_left_51 (lv_at hl 0 rfl) ?_
                    refine lt_z (j := ((j1 * 8 + j2) * 2 + j3)) hx hb hK hP 1 rfl (lf_X4_left_t_26 a sn sk scu sch g3 hsn hsk j1 w1 k4 hj4 hk4 hrj1 c_1 n_5 j2 w2 k14 hj14 hk14 hrj2 c_7 n_11 j3 w3 k25 hj25 hk25 hrj3 c_13 n_17) (by decide) dX4_left_53 ?_
                    refine lv_if_eq (tgt := 61) hx hb dX4_left_54 (by decide) (fun c_27 => ?_) (fun c_27 => ?_)
                    · refine lv_iconst (v := 1) hx hb dX4_left_61 (by decide) ?_
                      refine lv_iadd hx hb dX4_left_62 ?_
                      refine lv_topi (fun x_28 ex_28 => ?_)
                      refine lv_istore_n (lv' := [(1, .int x_28), (5, .int (nI ((j1 * 8 + j2) * 2 + j3))), (4, .int (nI j3)), (3, .int (nI j2)), (2, .int (nI j1)), (0, .ref (a 5))]) hx hb dX4_left_63 rfl hl (by decide) rfl (fun ls hl => ?_)
                      refine lv_iinc (v := nI (j3 + 1)) (lv' := [(4, .int (nI (j3 + 1))), (1, .int x_28), (5, .int (nI ((j1 * 8 + j2) * 2 + j3))), (3, .int (nI j2)), (2, .int (nI j1)), (0, .ref (a 5))]) hx hb dX4_left_64 hl (k := 2) rfl (nI_1 j3) (by decide) rfl (fun ls hl => ?_)
                      refine lv_goto (tgt := 25) hx hb dX4_left_67 (by decide) ?_
                      exact ih25 (j3 + 1) x_28 H locs ls (by omega) (by omega) (lf_X4_left_t_29 a sn sk scu sch g3 hsn hsk j1 w1 k4 hj4 hk4 hrj1 c_1 n_5 j2 w2 k14 hj14 hk14 hrj2 c_7 n_11 j3 w3 k25 hj25 hk25 hrj3 c_13 n_17 c_27 x_28 ex_28) (hP.sub [0, 1] rfl)  hS (lv_sub hl [0, 3, 4, 1, 5] rfl)
                    · refine lv_iconst (v := 0) hx hb dX4_left_57 (by decide) ?_
                      refine lv_goto (tgt := 62) hx hb dX4_left_58 (by decide) ?_
                      refine lv_iadd hx hb dX4_left_62 ?_
                      refine lv_topi (fun x_30 ex_30 => ?_)
                      refine lv_istore_n (lv' := [(1, .int x_30), (5, .int (nI ((j1 * 8 + j2) * 2 + j3))), (4, .int (nI j3)), (3, .int (nI j2)), (2, .int (nI j1)), (0, .ref (a 5))]) hx hb dX4_left_63 rfl hl (by decide) rfl (fun ls hl => ?_)
                      refine lv_iinc (v := nI (j3 + 1)) (lv' := [(4, .int (nI (j3 + 1))), (1, .int x_30), (5, .int (nI ((j1 * 8 + j2) * 2 + j3))), (3, .int (nI j2)), (2, .int (nI j1)), (0, .ref (a 5))]) hx hb dX4_left_64 hl (k := 2) rfl (nI_1 j3) (by decide) rfl (fun ls hl => ?_)
                      refine lv_goto (tgt := 25) hx hb dX4_left_67 (by decide) ?_
                      exact ih25 (j3 + 1) x_30 H locs ls (by omega) (by omega) (lf_X4_left_t_31 a sn sk scu sch g3 hsn hsk j1 w1 k4 hj4 hk4 hrj1 c_1 n_5 j2 w2 k14 hj14 hk14 hrj2 c_7 n_11 j3 w3 k25 hj25 hk25 hrj3 c_13 n_17 c_27 x_30 ex_30) (hP.sub [0, 1] rfl)  hS (lv_sub hl [0, 3, 4, 1, 5] rfl)
              exact lp25 (2 + 1) 0 w2 H locs ls (by omega) (by omega) (lf_X4_left_t_32 a sn sk scu sch g3 hsn hsk j1 w1 k4 hj4 hk4 hrj1 c_1 n_5 j2 w2 k14 hj14 hk14 hrj2 c_7 n_11) (hP.sub [0, 1] rfl)  hS (lv_sub hl [0, 1, 2, 3, 4] rfl)
        exact lp14 (sk + 1) 0 w1 H locs ls (by omega) (by omega) (lf_X4_left_t_33 a sn sk scu sch g3 hsn hsk j1 w1 k4 hj4 hk4 hrj1 c_1 n_5) (hP.sub [0, 1] rfl)  hS (lv_sub hl [0, 1, 2, 3] rfl)
  exact lp4 (sn + 1) 0 0 H locs ls (by omega) (by omega) (lf_X4_left_t_34 a sn sk scu sch g3 hsn hsk) (hP.sub [0, 1] rfl)  hS (lv_sub hl [0, 1, 2] rfl)

theorem lf_X0_put_t_2 (a : Nat → Nat) (dm : Nat) (d0 : Nat → Int32) (d1 : Nat → Int32) (d2 : Nat → Int32) (x1 : Nat) (x2 : Nat) (n3 : Int32) (n4 : Int32) (hx1 : x1 < 4) (hx2 : x2 < 384) : ((x1 * 384) + x2) < 1536 := by
  omega
theorem lf_X0_put_t_4 (a : Nat → Nat) (dm : Nat) (d0 : Nat → Int32) (d1 : Nat → Int32) (d2 : Nat → Int32) (x1 : Nat) (x2 : Nat) (n3 : Int32) (n4 : Int32) (hx1 : x1 < 4) (hx2 : x2 < 384) (f_1 : Nat → Int32) (ef_1 : f_1 = upd d0 ((x1 * 384) + x2) n3) : ((x1 * 384) + x2) < 1536 := by
  omega
theorem lf_X0_put_t_6 (a : Nat → Nat) (dm : Nat) (d0 : Nat → Int32) (d1 : Nat → Int32) (d2 : Nat → Int32) (x1 : Nat) (x2 : Nat) (n3 : Int32) (n4 : Int32) (hx1 : x1 < 4) (hx2 : x2 < 384) (f_1 : Nat → Int32) (ef_1 : f_1 = upd d0 ((x1 * 384) + x2) n3) (f_3 : Nat → Int32) (ef_3 : f_3 = upd d1 ((x1 * 384) + x2) n4) : ((x1 * 384) + x2) < 1536 := by
  omega
theorem lf_X0_put_t_7 (a : Nat → Nat) (dm : Nat) (d0 : Nat → Int32) (d1 : Nat → Int32) (d2 : Nat → Int32) (x1 : Nat) (x2 : Nat) (n3 : Int32) (n4 : Int32) (hx1 : x1 < 4) (hx2 : x2 < 384) (f_1 : Nat → Int32) (ef_1 : f_1 = upd d0 ((x1 * 384) + x2) n3) (f_3 : Nat → Int32) (ef_3 : f_3 = upd d1 ((x1 * 384) + x2) n4) (f_5 : Nat → Int32) (ef_5 : f_5 = upd d2 ((x1 * 384) + x2) (vp_nar .boolean 1)) : ((f_1 : Nat → Int32) = upd d0 (384 * x1 + x2) n3) ∧ ((f_3 : Nat → Int32) = upd d1 (384 * x1 + x2) n4) ∧ ((f_5 : Nat → Int32) = upd d2 (384 * x1 + x2) (vp_nar .boolean 1)) := by
  rw [show 384 * x1 + x2 = x1 * 384 + x2 by omega]
  exact ⟨by assumption, by assumption, by assumption⟩
set_option maxHeartbeats 4000000 in
set_option maxRecDepth 100000 in
theorem c_X0_put_t (l : Launch) (D : va_G) (cI cB cZ cJ : ClassId) (tx : List (ClassId × FieldType)) (a : Nat → Nat) (dm : Nat) (d0 : Nat → Int32) (d1 : Nat → Int32) (d2 : Nat → Int32) (x1 : Nat) (x2 : Nat) (n3 : Int32) (n4 : Int32) (hx1 : x1 < 4) (hx2 : x2 < 384) : WrV l D cI cB cZ cJ tx yX0_put cX0_put 6 none 0 0 0 [.ref (a 6), .int (nI x1), .int (nI x2), .int n3, .int n4] [(a 6, .inr (0, [.ref (a 5), .ref (a 25), .ref (a 26), .ref (a 27), .ref (a 28), .ref (a 29), .int (nI dm)])), (a 25, .inl (cI, 1536, .inl d0)), (a 26, .inl (cI, 1536, .inl d1)), (a 27, .inl (cZ, 1536, .inl d2))] (fun (v : (Nat → Int32) × (Nat → Int32) × (Nat → Int32)) => (v.1 = upd d0 (384 * x1 + x2) n3) ∧ (v.2.1 = upd d1 (384 * x1 + x2) n4) ∧ (v.2.2 = upd d2 (384 * x1 + x2) (vp_nar .boolean 1))) (fun v => [(a 6, .inr (0, [.ref (a 5), .ref (a 25), .ref (a 26), .ref (a 27), .ref (a 28), .ref (a 29), .int (nI dm)])), (a 25, .inl (cI, 1536, .inl v.1)), (a 26, .inl (cI, 1536, .inl v.2.1)), (a 27, .inl (cZ, 1536, .inl v.2.2))]) := by
  refine wrv_of2 (by decide) (Nat.le_of_ble_eq_true rfl) ?_
  intro p e s m below meth c A ls H locs hC hK hP hD hA hS hl
  obtain ⟨hx, hb, hr, hml, hown, hts, hlocks, hin⟩ := hC
  have hown : s.vm.findClass RX0 = some m.cls := hown
  have hl : lv_has ls 6 [(0, .ref (a 6)), (1, .int (nI x1)), (2, .int (nI x2)), (3, .int n3), (4, .int n4)] := hl
  refine W_gQ (fun Q hQ => ?_)
  refine lv_iload_n hx hb dX0_put_0 rfl (lv_at hl 1 rfl) ?_
  refine lv_sipush (v := 384) hx hb dX0_put_1 (by decide) ?_
  refine lv_imul hx hb dX0_put_4 ?_
  refine lv_topv (y := nI (x1 * 384)) (pk_mul x1 384) ?_
  refine lv_iload_n hx hb dX0_put_5 rfl (lv_at hl 2 rfl) ?_
  refine lv_iadd hx hb dX0_put_6 ?_
  refine lv_topv (y := nI ((x1 * 384) + x2)) (nI_add (x1 * 384) x2) ?_
  refine lv_istore (lv' := [(5, .int (nI ((x1 * 384) + x2))), (0, .ref (a 6)), (1, .int (nI x1)), (2, .int (nI x2)), (3, .int n3), (4, .int n4)]) hx hb dX0_put_7 hl (by decide) rfl (fun ls hl => ?_)
  refine lv_aload_n hx hb dX0_put_9 rfl (lv_at hl 1 rfl) ?_
  refine va_get (D := D) (ci := 0) (v := .ref (a 25)) (C := RX0) (T := TX0) (N := 7) hx hb hts inT_X0 hown hK.1 hP 0 rfl rfl 1 (by decide) (hts _ k_295) (fun _ h9 => h9) rfl dX0_put_10 ?_
  refine lv_iload hx hb dX0_put_13 (lv_at hl 0 rfl) ?_
  refine lv_iload_n hx hb dX0_put_15 rfl (lv_at hl 4 rfl) ?_
  refine su_i (j := ((x1 * 384) + x2)) hx hb hK hP hD hS 1 rfl (lf_X0_put_t_2 a dm d0 d1 d2 x1 x2 n3 n4 hx1 hx2) (by first | decide | assumption) dX0_put_16 (fun f_1 H locs ef_1 hP hD hS => ?_)
  have hPD := pd_mk (ws := [(a 6, .inr (0, [.ref (a 5), .ref (a 25), .ref (a 26), .ref (a 27), .ref (a 28), .ref (a 29), .int (nI dm)])), (a 25, .inl (cI, 1536, .inl f_1)), (a 26, .inl (cI, 1536, .inl d1)), (a 27, .inl (cZ, 1536, .inl d2))]) hP hD
  have hP := hPD.1
  have hD := hPD.2
  refine lv_aload_n hx hb dX0_put_17 rfl (lv_at hl 1 rfl) ?_
  refine va_get (D := D) (ci := 0) (v := .ref (a 26)) (C := RX0) (T := TX0) (N := 7) hx hb hts inT_X0 hown hK.1 hP 0 rfl rfl 2 (by decide) (hts _ k_296) (fun _ h9 => h9) rfl dX0_put_18 ?_
  refine lv_iload hx hb dX0_put_21 (lv_at hl 0 rfl) ?_
  refine lv_iload hx hb dX0_put_23 (lv_at hl 5 rfl) ?_
  refine su_i (j := ((x1 * 384) + x2)) hx hb hK hP hD hS 2 rfl (lf_X0_put_t_4 a dm d0 d1 d2 x1 x2 n3 n4 hx1 hx2 f_1 ef_1) (by first | decide | assumption) dX0_put_25 (fun f_3 H locs ef_3 hP hD hS => ?_)
  have hPD := pd_mk (ws := [(a 6, .inr (0, [.ref (a 5), .ref (a 25), .ref (a 26), .ref (a 27), .ref (a 28), .ref (a 29), .int (nI dm)])), (a 25, .inl (cI, 1536, .inl f_1)), (a 26, .inl (cI, 1536, .inl f_3)), (a 27, .inl (cZ, 1536, .inl d2))]) hP hD
  have hP := hPD.1
  have hD := hPD.2
  refine lv_aload_n hx hb dX0_put_26 rfl (lv_at hl 1 rfl) ?_
  refine va_get (D := D) (ci := 0) (v := .ref (a 27)) (C := RX0) (T := TX0) (N := 7) hx hb hts inT_X0 hown hK.1 hP 0 rfl rfl 3 (by decide) (hts _ k_297) (fun _ h9 => h9) rfl dX0_put_27 ?_
  refine lv_iload hx hb dX0_put_30 (lv_at hl 0 rfl) ?_
  refine lv_iconst (v := 1) hx hb dX0_put_32 (by decide) ?_
  refine su_z (j := ((x1 * 384) + x2)) hx hb hK hP hD hS 3 rfl (lf_X0_put_t_6 a dm d0 d1 d2 x1 x2 n3 n4 hx1 hx2 f_1 ef_1 f_3 ef_3) (by first | decide | assumption) dX0_put_33 (fun f_5 H locs ef_5 hP hD hS => ?_)
  have hPD := pd_mk (ws := [(a 6, .inr (0, [.ref (a 5), .ref (a 25), .ref (a 26), .ref (a 27), .ref (a 28), .ref (a 29), .int (nI dm)])), (a 25, .inl (cI, 1536, .inl f_1)), (a 26, .inl (cI, 1536, .inl f_3)), (a 27, .inl (cZ, 1536, .inl f_5))]) hP hD
  have hP := hPD.1
  have hD := hPD.2
  rw [hQ]
  exact W.vret hx hb hr (fun tt9 ht hW => ⟨⟨((f_1 : Nat → Int32), (f_3 : Nat → Int32), (f_5 : Nat → Int32)), rfl, (lf_X0_put_t_7 a dm d0 d1 d2 x1 x2 n3 n4 hx1 hx2 f_1 ef_1 f_3 ef_3 f_5 ef_5), ⟨by rw [ht]; exact hP, hD⟩⟩, hS.F ht⟩) hS.2.2 dX0_put_34 hlocks

theorem lf_X0_take_t_3 (a : Nat → Nat) (dm : Nat) (d0 : Nat → Int32) (d1 : Nat → Int32) (d2 : Nat → Int32) (sn : Nat) (sk : Nat) (scu : Int32) (sch : Int32) (g0 : Nat → Int32) (g1 : Nat → Int32) (g3 : Nat → Int32) (x1 : Nat) (n2 : Int32) (n3 : Int32) (n4 : Int32) (hdm : dm ≤ 4) (hx1 : x1 < dm) (hsn : sn ≤ 24) (hsk : sk ≤ 8) (j1 : Nat) (d0_j1 : Nat → Int32) (d1_j1 : Nat → Int32) (d2_j1 : Nat → Int32) (sch_j1 : Int32) (k3 : Nat) (hj3 : j1 ≤ sn) (hk3 : sn < j1 + (k3 + 1)) (hrj1 : ((d0_j1, d1_j1, d2_j1, sch_j1) : D4T) = dr1 g0 g1 g3 scu x1 n2 n3 n4 sk (d0, d1, d2, sch) j1) (c_1 : nI sn ≤ nI j1) : sn ≤ j1 := by
  exact (nI_leI (a := sn) (b := j1) (by omega) (by omega)).mp c_1
theorem lf_X0_take_t_4 (a : Nat → Nat) (dm : Nat) (d0 : Nat → Int32) (d1 : Nat → Int32) (d2 : Nat → Int32) (sn : Nat) (sk : Nat) (scu : Int32) (sch : Int32) (g0 : Nat → Int32) (g1 : Nat → Int32) (g3 : Nat → Int32) (x1 : Nat) (n2 : Int32) (n3 : Int32) (n4 : Int32) (hdm : dm ≤ 4) (hx1 : x1 < dm) (hsn : sn ≤ 24) (hsk : sk ≤ 8) (j1 : Nat) (d0_j1 : Nat → Int32) (d1_j1 : Nat → Int32) (d2_j1 : Nat → Int32) (sch_j1 : Int32) (k3 : Nat) (hj3 : j1 ≤ sn) (hk3 : sn < j1 + (k3 + 1)) (hrj1 : ((d0_j1, d1_j1, d2_j1, sch_j1) : D4T) = dr1 g0 g1 g3 scu x1 n2 n3 n4 sk (d0, d1, d2, sch) j1) (c_1 : nI sn ≤ nI j1) (n_2 : sn ≤ j1) : ((((d0_j1 : Nat → Int32), (d1_j1 : Nat → Int32), (d2_j1 : Nat → Int32), (sch_j1 : Int32)) : D4T) = dr1 g0 g1 g3 scu x1 n2 n3 n4 sk (d0, d1, d2, sch) sn) := by
  exact dr_e hrj1 (by omega)
theorem lf_X0_take_t_6 (a : Nat → Nat) (dm : Nat) (d0 : Nat → Int32) (d1 : Nat → Int32) (d2 : Nat → Int32) (sn : Nat) (sk : Nat) (scu : Int32) (sch : Int32) (g0 : Nat → Int32) (g1 : Nat → Int32) (g3 : Nat → Int32) (x1 : Nat) (n2 : Int32) (n3 : Int32) (n4 : Int32) (hdm : dm ≤ 4) (hx1 : x1 < dm) (hsn : sn ≤ 24) (hsk : sk ≤ 8) (j1 : Nat) (d0_j1 : Nat → Int32) (d1_j1 : Nat → Int32) (d2_j1 : Nat → Int32) (sch_j1 : Int32) (k3 : Nat) (hj3 : j1 ≤ sn) (hk3 : sn < j1 + (k3 + 1)) (hrj1 : ((d0_j1, d1_j1, d2_j1, sch_j1) : D4T) = dr1 g0 g1 g3 scu x1 n2 n3 n4 sk (d0, d1, d2, sch) j1) (c_1 : ¬ nI sn ≤ nI j1) : j1 < sn := by
  exact Nat.lt_of_not_le (fun q => c_1 ((nI_leI (a := sn) (b := j1) (by omega) (by omega)).mpr q))
theorem lf_X0_take_t_9 (a : Nat → Nat) (dm : Nat) (d0 : Nat → Int32) (d1 : Nat → Int32) (d2 : Nat → Int32) (sn : Nat) (sk : Nat) (scu : Int32) (sch : Int32) (g0 : Nat → Int32) (g1 : Nat → Int32) (g3 : Nat → Int32) (x1 : Nat) (n2 : Int32) (n3 : Int32) (n4 : Int32) (hdm : dm ≤ 4) (hx1 : x1 < dm) (hsn : sn ≤ 24) (hsk : sk ≤ 8) (j1 : Nat) (d0_j1 : Nat → Int32) (d1_j1 : Nat → Int32) (d2_j1 : Nat → Int32) (sch_j1 : Int32) (k3 : Nat) (hj3 : j1 ≤ sn) (hk3 : sn < j1 + (k3 + 1)) (hrj1 : ((d0_j1, d1_j1, d2_j1, sch_j1) : D4T) = dr1 g0 g1 g3 scu x1 n2 n3 n4 sk (d0, d1, d2, sch) j1) (c_1 : ¬ nI sn ≤ nI j1) (n_5 : j1 < sn) (j2 : Nat) (d0_j2 : Nat → Int32) (d1_j2 : Nat → Int32) (d2_j2 : Nat → Int32) (sch_j2 : Int32) (k18 : Nat) (hj18 : j2 ≤ sk) (hk18 : sk < j2 + (k18 + 1)) (hrj2 : ((d0_j2, d1_j2, d2_j2, sch_j2) : D4T) = dr2 g0 g1 g3 scu x1 n2 n3 n4 j1 (dr1 g0 g1 g3 scu x1 n2 n3 n4 sk (d0, d1, d2, sch) j1) j2) (c_7 : nI sk ≤ nI j2) : sk ≤ j2 := by
  exact (nI_leI (a := sk) (b := j2) (by omega) (by omega)).mp c_7
theorem lf_X0_take_t_10 (a : Nat → Nat) (dm : Nat) (d0 : Nat → Int32) (d1 : Nat → Int32) (d2 : Nat → Int32) (sn : Nat) (sk : Nat) (scu : Int32) (sch : Int32) (g0 : Nat → Int32) (g1 : Nat → Int32) (g3 : Nat → Int32) (x1 : Nat) (n2 : Int32) (n3 : Int32) (n4 : Int32) (hdm : dm ≤ 4) (hx1 : x1 < dm) (hsn : sn ≤ 24) (hsk : sk ≤ 8) (j1 : Nat) (d0_j1 : Nat → Int32) (d1_j1 : Nat → Int32) (d2_j1 : Nat → Int32) (sch_j1 : Int32) (k3 : Nat) (hj3 : j1 ≤ sn) (hk3 : sn < j1 + (k3 + 1)) (hrj1 : ((d0_j1, d1_j1, d2_j1, sch_j1) : D4T) = dr1 g0 g1 g3 scu x1 n2 n3 n4 sk (d0, d1, d2, sch) j1) (c_1 : ¬ nI sn ≤ nI j1) (n_5 : j1 < sn) (j2 : Nat) (d0_j2 : Nat → Int32) (d1_j2 : Nat → Int32) (d2_j2 : Nat → Int32) (sch_j2 : Int32) (k18 : Nat) (hj18 : j2 ≤ sk) (hk18 : sk < j2 + (k18 + 1)) (hrj2 : ((d0_j2, d1_j2, d2_j2, sch_j2) : D4T) = dr2 g0 g1 g3 scu x1 n2 n3 n4 j1 (dr1 g0 g1 g3 scu x1 n2 n3 n4 sk (d0, d1, d2, sch) j1) j2) (c_7 : nI sk ≤ nI j2) (n_8 : sk ≤ j2) : ((d0_j2, d1_j2, d2_j2, sch_j2) : D4T) = dr1 g0 g1 g3 scu x1 n2 n3 n4 sk (d0, d1, d2, sch) (j1 + 1) := by
  first | omega | assumption | exact dr_s3 hrj3 (dr_y (vs_x (by assumption) (by omega)) (by assumption) (by assumption) (by assumption) (by assumption) (by omega) (by omega) (by omega) (dr_v (by assumption) (by assumption) (by omega) (by first | exact sl_50 (dr_l (by assumption) (by assumption) (by assumption)) | exact sl_0 (dr_m (by assumption) (by assumption) (by assumption)))) (dr_w (by assumption) (by omega))) | exact dr_s3 hrj3 (dr_n (vs_nx (by assumption) (by omega))) | exact dr_s2 hrj3 (by omega) | exact dr_s1 hrj2 (by omega) | rfl
theorem lf_X0_take_t_12 (a : Nat → Nat) (dm : Nat) (d0 : Nat → Int32) (d1 : Nat → Int32) (d2 : Nat → Int32) (sn : Nat) (sk : Nat) (scu : Int32) (sch : Int32) (g0 : Nat → Int32) (g1 : Nat → Int32) (g3 : Nat → Int32) (x1 : Nat) (n2 : Int32) (n3 : Int32) (n4 : Int32) (hdm : dm ≤ 4) (hx1 : x1 < dm) (hsn : sn ≤ 24) (hsk : sk ≤ 8) (j1 : Nat) (d0_j1 : Nat → Int32) (d1_j1 : Nat → Int32) (d2_j1 : Nat → Int32) (sch_j1 : Int32) (k3 : Nat) (hj3 : j1 ≤ sn) (hk3 : sn < j1 + (k3 + 1)) (hrj1 : ((d0_j1, d1_j1, d2_j1, sch_j1) : D4T) = dr1 g0 g1 g3 scu x1 n2 n3 n4 sk (d0, d1, d2, sch) j1) (c_1 : ¬ nI sn ≤ nI j1) (n_5 : j1 < sn) (j2 : Nat) (d0_j2 : Nat → Int32) (d1_j2 : Nat → Int32) (d2_j2 : Nat → Int32) (sch_j2 : Int32) (k18 : Nat) (hj18 : j2 ≤ sk) (hk18 : sk < j2 + (k18 + 1)) (hrj2 : ((d0_j2, d1_j2, d2_j2, sch_j2) : D4T) = dr2 g0 g1 g3 scu x1 n2 n3 n4 j1 (dr1 g0 g1 g3 scu x1 n2 n3 n4 sk (d0, d1, d2, sch) j1) j2) (c_7 : ¬ nI sk ≤ nI j2) : j2 < sk := by
  exact Nat.lt_of_not_le (fun q => c_7 ((nI_leI (a := sk) (b := j2) (by omega) (by omega)).mpr q))
theorem lf_X0_take_t_15 (a : Nat → Nat) (dm : Nat) (d0 : Nat → Int32) (d1 : Nat → Int32) (d2 : Nat → Int32) (sn : Nat) (sk : Nat) (scu : Int32) (sch : Int32) (g0 : Nat → Int32) (g1 : Nat → Int32) (g3 : Nat → Int32) (x1 : Nat) (n2 : Int32) (n3 : Int32) (n4 : Int32) (hdm : dm ≤ 4) (hx1 : x1 < dm) (hsn : sn ≤ 24) (hsk : sk ≤ 8) (j1 : Nat) (d0_j1 : Nat → Int32) (d1_j1 : Nat → Int32) (d2_j1 : Nat → Int32) (sch_j1 : Int32) (k3 : Nat) (hj3 : j1 ≤ sn) (hk3 : sn < j1 + (k3 + 1)) (hrj1 : ((d0_j1, d1_j1, d2_j1, sch_j1) : D4T) = dr1 g0 g1 g3 scu x1 n2 n3 n4 sk (d0, d1, d2, sch) j1) (c_1 : ¬ nI sn ≤ nI j1) (n_5 : j1 < sn) (j2 : Nat) (d0_j2 : Nat → Int32) (d1_j2 : Nat → Int32) (d2_j2 : Nat → Int32) (sch_j2 : Int32) (k18 : Nat) (hj18 : j2 ≤ sk) (hk18 : sk < j2 + (k18 + 1)) (hrj2 : ((d0_j2, d1_j2, d2_j2, sch_j2) : D4T) = dr2 g0 g1 g3 scu x1 n2 n3 n4 j1 (dr1 g0 g1 g3 scu x1 n2 n3 n4 sk (d0, d1, d2, sch) j1) j2) (c_7 : ¬ nI sk ≤ nI j2) (n_11 : j2 < sk) (j3 : Nat) (d0_j3 : Nat → Int32) (d1_j3 : Nat → Int32) (d2_j3 : Nat → Int32) (sch_j3 : Int32) (k33 : Nat) (hj33 : j3 ≤ 2) (hk33 : 2 < j3 + (k33 + 1)) (hrj3 : ((d0_j3, d1_j3, d2_j3, sch_j3) : D4T) = dr3 g0 g1 g3 scu x1 n2 n3 n4 j1 j2 (dr2 g0 g1 g3 scu x1 n2 n3 n4 j1 (dr1 g0 g1 g3 scu x1 n2 n3 n4 sk (d0, d1, d2, sch) j1) j2) j3) (c_13 : 2 ≤ nI j3) : 2 ≤ j3 := by
  exact (nI_leI (a := 2) (b := j3) (by omega) (by omega)).mp c_13
theorem lf_X0_take_t_16 (a : Nat → Nat) (dm : Nat) (d0 : Nat → Int32) (d1 : Nat → Int32) (d2 : Nat → Int32) (sn : Nat) (sk : Nat) (scu : Int32) (sch : Int32) (g0 : Nat → Int32) (g1 : Nat → Int32) (g3 : Nat → Int32) (x1 : Nat) (n2 : Int32) (n3 : Int32) (n4 : Int32) (hdm : dm ≤ 4) (hx1 : x1 < dm) (hsn : sn ≤ 24) (hsk : sk ≤ 8) (j1 : Nat) (d0_j1 : Nat → Int32) (d1_j1 : Nat → Int32) (d2_j1 : Nat → Int32) (sch_j1 : Int32) (k3 : Nat) (hj3 : j1 ≤ sn) (hk3 : sn < j1 + (k3 + 1)) (hrj1 : ((d0_j1, d1_j1, d2_j1, sch_j1) : D4T) = dr1 g0 g1 g3 scu x1 n2 n3 n4 sk (d0, d1, d2, sch) j1) (c_1 : ¬ nI sn ≤ nI j1) (n_5 : j1 < sn) (j2 : Nat) (d0_j2 : Nat → Int32) (d1_j2 : Nat → Int32) (d2_j2 : Nat → Int32) (sch_j2 : Int32) (k18 : Nat) (hj18 : j2 ≤ sk) (hk18 : sk < j2 + (k18 + 1)) (hrj2 : ((d0_j2, d1_j2, d2_j2, sch_j2) : D4T) = dr2 g0 g1 g3 scu x1 n2 n3 n4 j1 (dr1 g0 g1 g3 scu x1 n2 n3 n4 sk (d0, d1, d2, sch) j1) j2) (c_7 : ¬ nI sk ≤ nI j2) (n_11 : j2 < sk) (j3 : Nat) (d0_j3 : Nat → Int32) (d1_j3 : Nat → Int32) (d2_j3 : Nat → Int32) (sch_j3 : Int32) (k33 : Nat) (hj33 : j3 ≤ 2) (hk33 : 2 < j3 + (k33 + 1)) (hrj3 : ((d0_j3, d1_j3, d2_j3, sch_j3) : D4T) = dr3 g0 g1 g3 scu x1 n2 n3 n4 j1 j2 (dr2 g0 g1 g3 scu x1 n2 n3 n4 j1 (dr1 g0 g1 g3 scu x1 n2 n3 n4 sk (d0, d1, d2, sch) j1) j2) j3) (c_13 : 2 ≤ nI j3) (n_14 : 2 ≤ j3) : ((d0_j3, d1_j3, d2_j3, sch_j3) : D4T) = dr2 g0 g1 g3 scu x1 n2 n3 n4 j1 (dr1 g0 g1 g3 scu x1 n2 n3 n4 sk (d0, d1, d2, sch) j1) (j2 + 1) := by
  first | omega | assumption | exact dr_s3 hrj3 (dr_y (vs_x (by assumption) (by omega)) (by assumption) (by assumption) (by assumption) (by assumption) (by omega) (by omega) (by omega) (dr_v (by assumption) (by assumption) (by omega) (by first | exact sl_50 (dr_l (by assumption) (by assumption) (by assumption)) | exact sl_0 (dr_m (by assumption) (by assumption) (by assumption)))) (dr_w (by assumption) (by omega))) | exact dr_s3 hrj3 (dr_n (vs_nx (by assumption) (by omega))) | exact dr_s2 hrj3 (by omega) | exact dr_s1 hrj2 (by omega) | rfl
theorem lf_X0_take_t_18 (a : Nat → Nat) (dm : Nat) (d0 : Nat → Int32) (d1 : Nat → Int32) (d2 : Nat → Int32) (sn : Nat) (sk : Nat) (scu : Int32) (sch : Int32) (g0 : Nat → Int32) (g1 : Nat → Int32) (g3 : Nat → Int32) (x1 : Nat) (n2 : Int32) (n3 : Int32) (n4 : Int32) (hdm : dm ≤ 4) (hx1 : x1 < dm) (hsn : sn ≤ 24) (hsk : sk ≤ 8) (j1 : Nat) (d0_j1 : Nat → Int32) (d1_j1 : Nat → Int32) (d2_j1 : Nat → Int32) (sch_j1 : Int32) (k3 : Nat) (hj3 : j1 ≤ sn) (hk3 : sn < j1 + (k3 + 1)) (hrj1 : ((d0_j1, d1_j1, d2_j1, sch_j1) : D4T) = dr1 g0 g1 g3 scu x1 n2 n3 n4 sk (d0, d1, d2, sch) j1) (c_1 : ¬ nI sn ≤ nI j1) (n_5 : j1 < sn) (j2 : Nat) (d0_j2 : Nat → Int32) (d1_j2 : Nat → Int32) (d2_j2 : Nat → Int32) (sch_j2 : Int32) (k18 : Nat) (hj18 : j2 ≤ sk) (hk18 : sk < j2 + (k18 + 1)) (hrj2 : ((d0_j2, d1_j2, d2_j2, sch_j2) : D4T) = dr2 g0 g1 g3 scu x1 n2 n3 n4 j1 (dr1 g0 g1 g3 scu x1 n2 n3 n4 sk (d0, d1, d2, sch) j1) j2) (c_7 : ¬ nI sk ≤ nI j2) (n_11 : j2 < sk) (j3 : Nat) (d0_j3 : Nat → Int32) (d1_j3 : Nat → Int32) (d2_j3 : Nat → Int32) (sch_j3 : Int32) (k33 : Nat) (hj33 : j3 ≤ 2) (hk33 : 2 < j3 + (k33 + 1)) (hrj3 : ((d0_j3, d1_j3, d2_j3, sch_j3) : D4T) = dr3 g0 g1 g3 scu x1 n2 n3 n4 j1 j2 (dr2 g0 g1 g3 scu x1 n2 n3 n4 j1 (dr1 g0 g1 g3 scu x1 n2 n3 n4 sk (d0, d1, d2, sch) j1) j2) j3) (c_13 : ¬ 2 ≤ nI j3) : j3 < 2 := by
  exact Nat.lt_of_not_le (fun q => c_13 ((nI_leI (a := 2) (b := j3) (by omega) (by omega)).mpr q))
theorem lf_X0_take_t_19 (a : Nat → Nat) (dm : Nat) (d0 : Nat → Int32) (d1 : Nat → Int32) (d2 : Nat → Int32) (sn : Nat) (sk : Nat) (scu : Int32) (sch : Int32) (g0 : Nat → Int32) (g1 : Nat → Int32) (g3 : Nat → Int32) (x1 : Nat) (n2 : Int32) (n3 : Int32) (n4 : Int32) (hdm : dm ≤ 4) (hx1 : x1 < dm) (hsn : sn ≤ 24) (hsk : sk ≤ 8) (j1 : Nat) (d0_j1 : Nat → Int32) (d1_j1 : Nat → Int32) (d2_j1 : Nat → Int32) (sch_j1 : Int32) (k3 : Nat) (hj3 : j1 ≤ sn) (hk3 : sn < j1 + (k3 + 1)) (hrj1 : ((d0_j1, d1_j1, d2_j1, sch_j1) : D4T) = dr1 g0 g1 g3 scu x1 n2 n3 n4 sk (d0, d1, d2, sch) j1) (c_1 : ¬ nI sn ≤ nI j1) (n_5 : j1 < sn) (j2 : Nat) (d0_j2 : Nat → Int32) (d1_j2 : Nat → Int32) (d2_j2 : Nat → Int32) (sch_j2 : Int32) (k18 : Nat) (hj18 : j2 ≤ sk) (hk18 : sk < j2 + (k18 + 1)) (hrj2 : ((d0_j2, d1_j2, d2_j2, sch_j2) : D4T) = dr2 g0 g1 g3 scu x1 n2 n3 n4 j1 (dr1 g0 g1 g3 scu x1 n2 n3 n4 sk (d0, d1, d2, sch) j1) j2) (c_7 : ¬ nI sk ≤ nI j2) (n_11 : j2 < sk) (j3 : Nat) (d0_j3 : Nat → Int32) (d1_j3 : Nat → Int32) (d2_j3 : Nat → Int32) (sch_j3 : Int32) (k33 : Nat) (hj33 : j3 ≤ 2) (hk33 : 2 < j3 + (k33 + 1)) (hrj3 : ((d0_j3, d1_j3, d2_j3, sch_j3) : D4T) = dr3 g0 g1 g3 scu x1 n2 n3 n4 j1 j2 (dr2 g0 g1 g3 scu x1 n2 n3 n4 j1 (dr1 g0 g1 g3 scu x1 n2 n3 n4 sk (d0, d1, d2, sch) j1) j2) j3) (c_13 : ¬ 2 ≤ nI j3) (n_17 : j3 < 2) : sn ≤ 24 := by
  first | assumption | omega | decide | rfl
theorem lf_X0_take_t_20 (a : Nat → Nat) (dm : Nat) (d0 : Nat → Int32) (d1 : Nat → Int32) (d2 : Nat → Int32) (sn : Nat) (sk : Nat) (scu : Int32) (sch : Int32) (g0 : Nat → Int32) (g1 : Nat → Int32) (g3 : Nat → Int32) (x1 : Nat) (n2 : Int32) (n3 : Int32) (n4 : Int32) (hdm : dm ≤ 4) (hx1 : x1 < dm) (hsn : sn ≤ 24) (hsk : sk ≤ 8) (j1 : Nat) (d0_j1 : Nat → Int32) (d1_j1 : Nat → Int32) (d2_j1 : Nat → Int32) (sch_j1 : Int32) (k3 : Nat) (hj3 : j1 ≤ sn) (hk3 : sn < j1 + (k3 + 1)) (hrj1 : ((d0_j1, d1_j1, d2_j1, sch_j1) : D4T) = dr1 g0 g1 g3 scu x1 n2 n3 n4 sk (d0, d1, d2, sch) j1) (c_1 : ¬ nI sn ≤ nI j1) (n_5 : j1 < sn) (j2 : Nat) (d0_j2 : Nat → Int32) (d1_j2 : Nat → Int32) (d2_j2 : Nat → Int32) (sch_j2 : Int32) (k18 : Nat) (hj18 : j2 ≤ sk) (hk18 : sk < j2 + (k18 + 1)) (hrj2 : ((d0_j2, d1_j2, d2_j2, sch_j2) : D4T) = dr2 g0 g1 g3 scu x1 n2 n3 n4 j1 (dr1 g0 g1 g3 scu x1 n2 n3 n4 sk (d0, d1, d2, sch) j1) j2) (c_7 : ¬ nI sk ≤ nI j2) (n_11 : j2 < sk) (j3 : Nat) (d0_j3 : Nat → Int32) (d1_j3 : Nat → Int32) (d2_j3 : Nat → Int32) (sch_j3 : Int32) (k33 : Nat) (hj33 : j3 ≤ 2) (hk33 : 2 < j3 + (k33 + 1)) (hrj3 : ((d0_j3, d1_j3, d2_j3, sch_j3) : D4T) = dr3 g0 g1 g3 scu x1 n2 n3 n4 j1 j2 (dr2 g0 g1 g3 scu x1 n2 n3 n4 j1 (dr1 g0 g1 g3 scu x1 n2 n3 n4 sk (d0, d1, d2, sch) j1) j2) j3) (c_13 : ¬ 2 ≤ nI j3) (n_17 : j3 < 2) : sk ≤ 8 := by
  first | assumption | omega | decide | rfl
theorem lf_X0_take_t_21 (a : Nat → Nat) (dm : Nat) (d0 : Nat → Int32) (d1 : Nat → Int32) (d2 : Nat → Int32) (sn : Nat) (sk : Nat) (scu : Int32) (sch : Int32) (g0 : Nat → Int32) (g1 : Nat → Int32) (g3 : Nat → Int32) (x1 : Nat) (n2 : Int32) (n3 : Int32) (n4 : Int32) (hdm : dm ≤ 4) (hx1 : x1 < dm) (hsn : sn ≤ 24) (hsk : sk ≤ 8) (j1 : Nat) (d0_j1 : Nat → Int32) (d1_j1 : Nat → Int32) (d2_j1 : Nat → Int32) (sch_j1 : Int32) (k3 : Nat) (hj3 : j1 ≤ sn) (hk3 : sn < j1 + (k3 + 1)) (hrj1 : ((d0_j1, d1_j1, d2_j1, sch_j1) : D4T) = dr1 g0 g1 g3 scu x1 n2 n3 n4 sk (d0, d1, d2, sch) j1) (c_1 : ¬ nI sn ≤ nI j1) (n_5 : j1 < sn) (j2 : Nat) (d0_j2 : Nat → Int32) (d1_j2 : Nat → Int32) (d2_j2 : Nat → Int32) (sch_j2 : Int32) (k18 : Nat) (hj18 : j2 ≤ sk) (hk18 : sk < j2 + (k18 + 1)) (hrj2 : ((d0_j2, d1_j2, d2_j2, sch_j2) : D4T) = dr2 g0 g1 g3 scu x1 n2 n3 n4 j1 (dr1 g0 g1 g3 scu x1 n2 n3 n4 sk (d0, d1, d2, sch) j1) j2) (c_7 : ¬ nI sk ≤ nI j2) (n_11 : j2 < sk) (j3 : Nat) (d0_j3 : Nat → Int32) (d1_j3 : Nat → Int32) (d2_j3 : Nat → Int32) (sch_j3 : Int32) (k33 : Nat) (hj33 : j3 ≤ 2) (hk33 : 2 < j3 + (k33 + 1)) (hrj3 : ((d0_j3, d1_j3, d2_j3, sch_j3) : D4T) = dr3 g0 g1 g3 scu x1 n2 n3 n4 j1 j2 (dr2 g0 g1 g3 scu x1 n2 n3 n4 j1 (dr1 g0 g1 g3 scu x1 n2 n3 n4 sk (d0, d1, d2, sch) j1) j2) j3) (c_13 : ¬ 2 ≤ nI j3) (n_17 : j3 < 2) : j1 < sn := by
  first | assumption | omega | decide | rfl
theorem lf_X0_take_t_22 (a : Nat → Nat) (dm : Nat) (d0 : Nat → Int32) (d1 : Nat → Int32) (d2 : Nat → Int32) (sn : Nat) (sk : Nat) (scu : Int32) (sch : Int32) (g0 : Nat → Int32) (g1 : Nat → Int32) (g3 : Nat → Int32) (x1 : Nat) (n2 : Int32) (n3 : Int32) (n4 : Int32) (hdm : dm ≤ 4) (hx1 : x1 < dm) (hsn : sn ≤ 24) (hsk : sk ≤ 8) (j1 : Nat) (d0_j1 : Nat → Int32) (d1_j1 : Nat → Int32) (d2_j1 : Nat → Int32) (sch_j1 : Int32) (k3 : Nat) (hj3 : j1 ≤ sn) (hk3 : sn < j1 + (k3 + 1)) (hrj1 : ((d0_j1, d1_j1, d2_j1, sch_j1) : D4T) = dr1 g0 g1 g3 scu x1 n2 n3 n4 sk (d0, d1, d2, sch) j1) (c_1 : ¬ nI sn ≤ nI j1) (n_5 : j1 < sn) (j2 : Nat) (d0_j2 : Nat → Int32) (d1_j2 : Nat → Int32) (d2_j2 : Nat → Int32) (sch_j2 : Int32) (k18 : Nat) (hj18 : j2 ≤ sk) (hk18 : sk < j2 + (k18 + 1)) (hrj2 : ((d0_j2, d1_j2, d2_j2, sch_j2) : D4T) = dr2 g0 g1 g3 scu x1 n2 n3 n4 j1 (dr1 g0 g1 g3 scu x1 n2 n3 n4 sk (d0, d1, d2, sch) j1) j2) (c_7 : ¬ nI sk ≤ nI j2) (n_11 : j2 < sk) (j3 : Nat) (d0_j3 : Nat → Int32) (d1_j3 : Nat → Int32) (d2_j3 : Nat → Int32) (sch_j3 : Int32) (k33 : Nat) (hj33 : j3 ≤ 2) (hk33 : 2 < j3 + (k33 + 1)) (hrj3 : ((d0_j3, d1_j3, d2_j3, sch_j3) : D4T) = dr3 g0 g1 g3 scu x1 n2 n3 n4 j1 j2 (dr2 g0 g1 g3 scu x1 n2 n3 n4 j1 (dr1 g0 g1 g3 scu x1 n2 n3 n4 sk (d0, d1, d2, sch) j1) j2) j3) (c_13 : ¬ 2 ≤ nI j3) (n_17 : j3 < 2) : j2 < sk := by
  first | assumption | omega | decide | rfl
theorem lf_X0_take_t_23 (a : Nat → Nat) (dm : Nat) (d0 : Nat → Int32) (d1 : Nat → Int32) (d2 : Nat → Int32) (sn : Nat) (sk : Nat) (scu : Int32) (sch : Int32) (g0 : Nat → Int32) (g1 : Nat → Int32) (g3 : Nat → Int32) (x1 : Nat) (n2 : Int32) (n3 : Int32) (n4 : Int32) (hdm : dm ≤ 4) (hx1 : x1 < dm) (hsn : sn ≤ 24) (hsk : sk ≤ 8) (j1 : Nat) (d0_j1 : Nat → Int32) (d1_j1 : Nat → Int32) (d2_j1 : Nat → Int32) (sch_j1 : Int32) (k3 : Nat) (hj3 : j1 ≤ sn) (hk3 : sn < j1 + (k3 + 1)) (hrj1 : ((d0_j1, d1_j1, d2_j1, sch_j1) : D4T) = dr1 g0 g1 g3 scu x1 n2 n3 n4 sk (d0, d1, d2, sch) j1) (c_1 : ¬ nI sn ≤ nI j1) (n_5 : j1 < sn) (j2 : Nat) (d0_j2 : Nat → Int32) (d1_j2 : Nat → Int32) (d2_j2 : Nat → Int32) (sch_j2 : Int32) (k18 : Nat) (hj18 : j2 ≤ sk) (hk18 : sk < j2 + (k18 + 1)) (hrj2 : ((d0_j2, d1_j2, d2_j2, sch_j2) : D4T) = dr2 g0 g1 g3 scu x1 n2 n3 n4 j1 (dr1 g0 g1 g3 scu x1 n2 n3 n4 sk (d0, d1, d2, sch) j1) j2) (c_7 : ¬ nI sk ≤ nI j2) (n_11 : j2 < sk) (j3 : Nat) (d0_j3 : Nat → Int32) (d1_j3 : Nat → Int32) (d2_j3 : Nat → Int32) (sch_j3 : Int32) (k33 : Nat) (hj33 : j3 ≤ 2) (hk33 : 2 < j3 + (k33 + 1)) (hrj3 : ((d0_j3, d1_j3, d2_j3, sch_j3) : D4T) = dr3 g0 g1 g3 scu x1 n2 n3 n4 j1 j2 (dr2 g0 g1 g3 scu x1 n2 n3 n4 j1 (dr1 g0 g1 g3 scu x1 n2 n3 n4 sk (d0, d1, d2, sch) j1) j2) j3) (c_13 : ¬ 2 ≤ nI j3) (n_17 : j3 < 2) : j3 < 2 := by
  first | assumption | omega | decide | rfl
theorem lf_X0_take_t_25 (a : Nat → Nat) (dm : Nat) (d0 : Nat → Int32) (d1 : Nat → Int32) (d2 : Nat → Int32) (sn : Nat) (sk : Nat) (scu : Int32) (sch : Int32) (g0 : Nat → Int32) (g1 : Nat → Int32) (g3 : Nat → Int32) (x1 : Nat) (n2 : Int32) (n3 : Int32) (n4 : Int32) (hdm : dm ≤ 4) (hx1 : x1 < dm) (hsn : sn ≤ 24) (hsk : sk ≤ 8) (j1 : Nat) (d0_j1 : Nat → Int32) (d1_j1 : Nat → Int32) (d2_j1 : Nat → Int32) (sch_j1 : Int32) (k3 : Nat) (hj3 : j1 ≤ sn) (hk3 : sn < j1 + (k3 + 1)) (hrj1 : ((d0_j1, d1_j1, d2_j1, sch_j1) : D4T) = dr1 g0 g1 g3 scu x1 n2 n3 n4 sk (d0, d1, d2, sch) j1) (c_1 : ¬ nI sn ≤ nI j1) (n_5 : j1 < sn) (j2 : Nat) (d0_j2 : Nat → Int32) (d1_j2 : Nat → Int32) (d2_j2 : Nat → Int32) (sch_j2 : Int32) (k18 : Nat) (hj18 : j2 ≤ sk) (hk18 : sk < j2 + (k18 + 1)) (hrj2 : ((d0_j2, d1_j2, d2_j2, sch_j2) : D4T) = dr2 g0 g1 g3 scu x1 n2 n3 n4 j1 (dr1 g0 g1 g3 scu x1 n2 n3 n4 sk (d0, d1, d2, sch) j1) j2) (c_7 : ¬ nI sk ≤ nI j2) (n_11 : j2 < sk) (j3 : Nat) (d0_j3 : Nat → Int32) (d1_j3 : Nat → Int32) (d2_j3 : Nat → Int32) (sch_j3 : Int32) (k33 : Nat) (hj33 : j3 ≤ 2) (hk33 : 2 < j3 + (k33 + 1)) (hrj3 : ((d0_j3, d1_j3, d2_j3, sch_j3) : D4T) = dr3 g0 g1 g3 scu x1 n2 n3 n4 j1 j2 (dr2 g0 g1 g3 scu x1 n2 n3 n4 j1 (dr1 g0 g1 g3 scu x1 n2 n3 n4 sk (d0, d1, d2, sch) j1) j2) j3) (c_13 : ¬ 2 ≤ nI j3) (n_17 : j3 < 2) : ¬ nI ((j1 * 8 + j2) * 2 + j3) < 0 := by
  first | exact nI_pos (by omega) | exact nI_pos' (by omega)
theorem lf_X0_take_t_26 (a : Nat → Nat) (dm : Nat) (d0 : Nat → Int32) (d1 : Nat → Int32) (d2 : Nat → Int32) (sn : Nat) (sk : Nat) (scu : Int32) (sch : Int32) (g0 : Nat → Int32) (g1 : Nat → Int32) (g3 : Nat → Int32) (x1 : Nat) (n2 : Int32) (n3 : Int32) (n4 : Int32) (hdm : dm ≤ 4) (hx1 : x1 < dm) (hsn : sn ≤ 24) (hsk : sk ≤ 8) (j1 : Nat) (d0_j1 : Nat → Int32) (d1_j1 : Nat → Int32) (d2_j1 : Nat → Int32) (sch_j1 : Int32) (k3 : Nat) (hj3 : j1 ≤ sn) (hk3 : sn < j1 + (k3 + 1)) (hrj1 : ((d0_j1, d1_j1, d2_j1, sch_j1) : D4T) = dr1 g0 g1 g3 scu x1 n2 n3 n4 sk (d0, d1, d2, sch) j1) (c_1 : ¬ nI sn ≤ nI j1) (n_5 : j1 < sn) (j2 : Nat) (d0_j2 : Nat → Int32) (d1_j2 : Nat → Int32) (d2_j2 : Nat → Int32) (sch_j2 : Int32) (k18 : Nat) (hj18 : j2 ≤ sk) (hk18 : sk < j2 + (k18 + 1)) (hrj2 : ((d0_j2, d1_j2, d2_j2, sch_j2) : D4T) = dr2 g0 g1 g3 scu x1 n2 n3 n4 j1 (dr1 g0 g1 g3 scu x1 n2 n3 n4 sk (d0, d1, d2, sch) j1) j2) (c_7 : ¬ nI sk ≤ nI j2) (n_11 : j2 < sk) (j3 : Nat) (d0_j3 : Nat → Int32) (d1_j3 : Nat → Int32) (d2_j3 : Nat → Int32) (sch_j3 : Int32) (k33 : Nat) (hj33 : j3 ≤ 2) (hk33 : 2 < j3 + (k33 + 1)) (hrj3 : ((d0_j3, d1_j3, d2_j3, sch_j3) : D4T) = dr3 g0 g1 g3 scu x1 n2 n3 n4 j1 j2 (dr2 g0 g1 g3 scu x1 n2 n3 n4 j1 (dr1 g0 g1 g3 scu x1 n2 n3 n4 sk (d0, d1, d2, sch) j1) j2) j3) (c_13 : ¬ 2 ≤ nI j3) (n_17 : j3 < 2) : ((j1 * 8 + j2) * 2 + j3) < 384 := by
  first | assumption | omega | decide | rfl
theorem lf_X0_take_t_27 (a : Nat → Nat) (dm : Nat) (d0 : Nat → Int32) (d1 : Nat → Int32) (d2 : Nat → Int32) (sn : Nat) (sk : Nat) (scu : Int32) (sch : Int32) (g0 : Nat → Int32) (g1 : Nat → Int32) (g3 : Nat → Int32) (x1 : Nat) (n2 : Int32) (n3 : Int32) (n4 : Int32) (hdm : dm ≤ 4) (hx1 : x1 < dm) (hsn : sn ≤ 24) (hsk : sk ≤ 8) (j1 : Nat) (d0_j1 : Nat → Int32) (d1_j1 : Nat → Int32) (d2_j1 : Nat → Int32) (sch_j1 : Int32) (k3 : Nat) (hj3 : j1 ≤ sn) (hk3 : sn < j1 + (k3 + 1)) (hrj1 : ((d0_j1, d1_j1, d2_j1, sch_j1) : D4T) = dr1 g0 g1 g3 scu x1 n2 n3 n4 sk (d0, d1, d2, sch) j1) (c_1 : ¬ nI sn ≤ nI j1) (n_5 : j1 < sn) (j2 : Nat) (d0_j2 : Nat → Int32) (d1_j2 : Nat → Int32) (d2_j2 : Nat → Int32) (sch_j2 : Int32) (k18 : Nat) (hj18 : j2 ≤ sk) (hk18 : sk < j2 + (k18 + 1)) (hrj2 : ((d0_j2, d1_j2, d2_j2, sch_j2) : D4T) = dr2 g0 g1 g3 scu x1 n2 n3 n4 j1 (dr1 g0 g1 g3 scu x1 n2 n3 n4 sk (d0, d1, d2, sch) j1) j2) (c_7 : ¬ nI sk ≤ nI j2) (n_11 : j2 < sk) (j3 : Nat) (d0_j3 : Nat → Int32) (d1_j3 : Nat → Int32) (d2_j3 : Nat → Int32) (sch_j3 : Int32) (k33 : Nat) (hj33 : j3 ≤ 2) (hk33 : 2 < j3 + (k33 + 1)) (hrj3 : ((d0_j3, d1_j3, d2_j3, sch_j3) : D4T) = dr3 g0 g1 g3 scu x1 n2 n3 n4 j1 j2 (dr2 g0 g1 g3 scu x1 n2 n3 n4 j1 (dr1 g0 g1 g3 scu x1 n2 n3 n4 sk (d0, d1, d2, sch) j1) j2) j3) (c_13 : ¬ 2 ≤ nI j3) (n_17 : j3 < 2) : j1 < 24 := by
  first | assumption | omega | decide | rfl
theorem lf_X0_take_t_29 (a : Nat → Nat) (dm : Nat) (d0 : Nat → Int32) (d1 : Nat → Int32) (d2 : Nat → Int32) (sn : Nat) (sk : Nat) (scu : Int32) (sch : Int32) (g0 : Nat → Int32) (g1 : Nat → Int32) (g3 : Nat → Int32) (x1 : Nat) (n2 : Int32) (n3 : Int32) (n4 : Int32) (hdm : dm ≤ 4) (hx1 : x1 < dm) (hsn : sn ≤ 24) (hsk : sk ≤ 8) (j1 : Nat) (d0_j1 : Nat → Int32) (d1_j1 : Nat → Int32) (d2_j1 : Nat → Int32) (sch_j1 : Int32) (k3 : Nat) (hj3 : j1 ≤ sn) (hk3 : sn < j1 + (k3 + 1)) (hrj1 : ((d0_j1, d1_j1, d2_j1, sch_j1) : D4T) = dr1 g0 g1 g3 scu x1 n2 n3 n4 sk (d0, d1, d2, sch) j1) (c_1 : ¬ nI sn ≤ nI j1) (n_5 : j1 < sn) (j2 : Nat) (d0_j2 : Nat → Int32) (d1_j2 : Nat → Int32) (d2_j2 : Nat → Int32) (sch_j2 : Int32) (k18 : Nat) (hj18 : j2 ≤ sk) (hk18 : sk < j2 + (k18 + 1)) (hrj2 : ((d0_j2, d1_j2, d2_j2, sch_j2) : D4T) = dr2 g0 g1 g3 scu x1 n2 n3 n4 j1 (dr1 g0 g1 g3 scu x1 n2 n3 n4 sk (d0, d1, d2, sch) j1) j2) (c_7 : ¬ nI sk ≤ nI j2) (n_11 : j2 < sk) (j3 : Nat) (d0_j3 : Nat → Int32) (d1_j3 : Nat → Int32) (d2_j3 : Nat → Int32) (sch_j3 : Int32) (k33 : Nat) (hj33 : j3 ≤ 2) (hk33 : 2 < j3 + (k33 + 1)) (hrj3 : ((d0_j3, d1_j3, d2_j3, sch_j3) : D4T) = dr3 g0 g1 g3 scu x1 n2 n3 n4 j1 j2 (dr2 g0 g1 g3 scu x1 n2 n3 n4 j1 (dr1 g0 g1 g3 scu x1 n2 n3 n4 sk (d0, d1, d2, sch) j1) j2) j3) (c_13 : ¬ 2 ≤ nI j3) (n_17 : j3 < 2) (his28 : ¬ (g3 ((j1 * 8 + j2) * 2 + j3) = 0 ∧ ¬ CT scu j1)) : ((d0_j3, d1_j3, d2_j3, sch_j3) : D4T) = dr3 g0 g1 g3 scu x1 n2 n3 n4 j1 j2 (dr2 g0 g1 g3 scu x1 n2 n3 n4 j1 (dr1 g0 g1 g3 scu x1 n2 n3 n4 sk (d0, d1, d2, sch) j1) j2) (j3 + 1) := by
  first | omega | assumption | exact dr_s3 hrj3 (dr_y (vs_x (by assumption) (by omega)) (by assumption) (by assumption) (by assumption) (by assumption) (by omega) (by omega) (by omega) (dr_v (by assumption) (by assumption) (by omega) (by first | exact sl_50 (dr_l (by assumption) (by assumption) (by assumption)) | exact sl_0 (dr_m (by assumption) (by assumption) (by assumption)))) (dr_w (by assumption) (by omega))) | exact dr_s3 hrj3 (dr_n (vs_nx (by assumption) (by omega))) | exact dr_s2 hrj3 (by omega) | exact dr_s1 hrj2 (by omega) | rfl
theorem lf_X0_take_t_33 (a : Nat → Nat) (dm : Nat) (d0 : Nat → Int32) (d1 : Nat → Int32) (d2 : Nat → Int32) (sn : Nat) (sk : Nat) (scu : Int32) (sch : Int32) (g0 : Nat → Int32) (g1 : Nat → Int32) (g3 : Nat → Int32) (x1 : Nat) (n2 : Int32) (n3 : Int32) (n4 : Int32) (hdm : dm ≤ 4) (hx1 : x1 < dm) (hsn : sn ≤ 24) (hsk : sk ≤ 8) (j1 : Nat) (d0_j1 : Nat → Int32) (d1_j1 : Nat → Int32) (d2_j1 : Nat → Int32) (sch_j1 : Int32) (k3 : Nat) (hj3 : j1 ≤ sn) (hk3 : sn < j1 + (k3 + 1)) (hrj1 : ((d0_j1, d1_j1, d2_j1, sch_j1) : D4T) = dr1 g0 g1 g3 scu x1 n2 n3 n4 sk (d0, d1, d2, sch) j1) (c_1 : ¬ nI sn ≤ nI j1) (n_5 : j1 < sn) (j2 : Nat) (d0_j2 : Nat → Int32) (d1_j2 : Nat → Int32) (d2_j2 : Nat → Int32) (sch_j2 : Int32) (k18 : Nat) (hj18 : j2 ≤ sk) (hk18 : sk < j2 + (k18 + 1)) (hrj2 : ((d0_j2, d1_j2, d2_j2, sch_j2) : D4T) = dr2 g0 g1 g3 scu x1 n2 n3 n4 j1 (dr1 g0 g1 g3 scu x1 n2 n3 n4 sk (d0, d1, d2, sch) j1) j2) (c_7 : ¬ nI sk ≤ nI j2) (n_11 : j2 < sk) (j3 : Nat) (d0_j3 : Nat → Int32) (d1_j3 : Nat → Int32) (d2_j3 : Nat → Int32) (sch_j3 : Int32) (k33 : Nat) (hj33 : j3 ≤ 2) (hk33 : 2 < j3 + (k33 + 1)) (hrj3 : ((d0_j3, d1_j3, d2_j3, sch_j3) : D4T) = dr3 g0 g1 g3 scu x1 n2 n3 n4 j1 j2 (dr2 g0 g1 g3 scu x1 n2 n3 n4 j1 (dr1 g0 g1 g3 scu x1 n2 n3 n4 sk (d0, d1, d2, sch) j1) j2) j3) (c_13 : ¬ 2 ≤ nI j3) (n_17 : j3 < 2) (his28 : g3 ((j1 * 8 + j2) * 2 + j3) = 0 ∧ ¬ CT scu j1) (sch_31 : Int32) (hz_31_0 : sch_31 = dwM sch_j3) (r_30 : Int32) (hlk31 : r_30 = lkM (dwM sch_j3)) (c_32 : n4 ≤ r_30) : ((j1 * 8 + j2) * 2 + j3) < 384 := by
  omega
theorem lf_X0_take_t_36 (a : Nat → Nat) (dm : Nat) (d0 : Nat → Int32) (d1 : Nat → Int32) (d2 : Nat → Int32) (sn : Nat) (sk : Nat) (scu : Int32) (sch : Int32) (g0 : Nat → Int32) (g1 : Nat → Int32) (g3 : Nat → Int32) (x1 : Nat) (n2 : Int32) (n3 : Int32) (n4 : Int32) (hdm : dm ≤ 4) (hx1 : x1 < dm) (hsn : sn ≤ 24) (hsk : sk ≤ 8) (j1 : Nat) (d0_j1 : Nat → Int32) (d1_j1 : Nat → Int32) (d2_j1 : Nat → Int32) (sch_j1 : Int32) (k3 : Nat) (hj3 : j1 ≤ sn) (hk3 : sn < j1 + (k3 + 1)) (hrj1 : ((d0_j1, d1_j1, d2_j1, sch_j1) : D4T) = dr1 g0 g1 g3 scu x1 n2 n3 n4 sk (d0, d1, d2, sch) j1) (c_1 : ¬ nI sn ≤ nI j1) (n_5 : j1 < sn) (j2 : Nat) (d0_j2 : Nat → Int32) (d1_j2 : Nat → Int32) (d2_j2 : Nat → Int32) (sch_j2 : Int32) (k18 : Nat) (hj18 : j2 ≤ sk) (hk18 : sk < j2 + (k18 + 1)) (hrj2 : ((d0_j2, d1_j2, d2_j2, sch_j2) : D4T) = dr2 g0 g1 g3 scu x1 n2 n3 n4 j1 (dr1 g0 g1 g3 scu x1 n2 n3 n4 sk (d0, d1, d2, sch) j1) j2) (c_7 : ¬ nI sk ≤ nI j2) (n_11 : j2 < sk) (j3 : Nat) (d0_j3 : Nat → Int32) (d1_j3 : Nat → Int32) (d2_j3 : Nat → Int32) (sch_j3 : Int32) (k33 : Nat) (hj33 : j3 ≤ 2) (hk33 : 2 < j3 + (k33 + 1)) (hrj3 : ((d0_j3, d1_j3, d2_j3, sch_j3) : D4T) = dr3 g0 g1 g3 scu x1 n2 n3 n4 j1 j2 (dr2 g0 g1 g3 scu x1 n2 n3 n4 j1 (dr1 g0 g1 g3 scu x1 n2 n3 n4 sk (d0, d1, d2, sch) j1) j2) j3) (c_13 : ¬ 2 ≤ nI j3) (n_17 : j3 < 2) (his28 : g3 ((j1 * 8 + j2) * 2 + j3) = 0 ∧ ¬ CT scu j1) (sch_31 : Int32) (hz_31_0 : sch_31 = dwM sch_j3) (r_30 : Int32) (hlk31 : r_30 = lkM (dwM sch_j3)) (c_32 : n4 ≤ r_30) (x_34 : Int32) (ex_34 : x_34 = g0 ((j1 * 8 + j2) * 2 + j3) + n2) (x_35 : Int32) (ex_35 : x_35 = x_34 + 0) : ((j1 * 8 + j2) * 2 + j3) < 384 := by
  omega
theorem lf_X0_take_t_38 (a : Nat → Nat) (dm : Nat) (d0 : Nat → Int32) (d1 : Nat → Int32) (d2 : Nat → Int32) (sn : Nat) (sk : Nat) (scu : Int32) (sch : Int32) (g0 : Nat → Int32) (g1 : Nat → Int32) (g3 : Nat → Int32) (x1 : Nat) (n2 : Int32) (n3 : Int32) (n4 : Int32) (hdm : dm ≤ 4) (hx1 : x1 < dm) (hsn : sn ≤ 24) (hsk : sk ≤ 8) (j1 : Nat) (d0_j1 : Nat → Int32) (d1_j1 : Nat → Int32) (d2_j1 : Nat → Int32) (sch_j1 : Int32) (k3 : Nat) (hj3 : j1 ≤ sn) (hk3 : sn < j1 + (k3 + 1)) (hrj1 : ((d0_j1, d1_j1, d2_j1, sch_j1) : D4T) = dr1 g0 g1 g3 scu x1 n2 n3 n4 sk (d0, d1, d2, sch) j1) (c_1 : ¬ nI sn ≤ nI j1) (n_5 : j1 < sn) (j2 : Nat) (d0_j2 : Nat → Int32) (d1_j2 : Nat → Int32) (d2_j2 : Nat → Int32) (sch_j2 : Int32) (k18 : Nat) (hj18 : j2 ≤ sk) (hk18 : sk < j2 + (k18 + 1)) (hrj2 : ((d0_j2, d1_j2, d2_j2, sch_j2) : D4T) = dr2 g0 g1 g3 scu x1 n2 n3 n4 j1 (dr1 g0 g1 g3 scu x1 n2 n3 n4 sk (d0, d1, d2, sch) j1) j2) (c_7 : ¬ nI sk ≤ nI j2) (n_11 : j2 < sk) (j3 : Nat) (d0_j3 : Nat → Int32) (d1_j3 : Nat → Int32) (d2_j3 : Nat → Int32) (sch_j3 : Int32) (k33 : Nat) (hj33 : j3 ≤ 2) (hk33 : 2 < j3 + (k33 + 1)) (hrj3 : ((d0_j3, d1_j3, d2_j3, sch_j3) : D4T) = dr3 g0 g1 g3 scu x1 n2 n3 n4 j1 j2 (dr2 g0 g1 g3 scu x1 n2 n3 n4 j1 (dr1 g0 g1 g3 scu x1 n2 n3 n4 sk (d0, d1, d2, sch) j1) j2) j3) (c_13 : ¬ 2 ≤ nI j3) (n_17 : j3 < 2) (his28 : g3 ((j1 * 8 + j2) * 2 + j3) = 0 ∧ ¬ CT scu j1) (sch_31 : Int32) (hz_31_0 : sch_31 = dwM sch_j3) (r_30 : Int32) (hlk31 : r_30 = lkM (dwM sch_j3)) (c_32 : n4 ≤ r_30) (x_34 : Int32) (ex_34 : x_34 = g0 ((j1 * 8 + j2) * 2 + j3) + n2) (x_35 : Int32) (ex_35 : x_35 = x_34 + 0) (x_37 : Int32) (ex_37 : x_37 = g1 ((j1 * 8 + j2) * 2 + j3) + n3) : x1 < 4 := by
  first | assumption | omega | decide | rfl
theorem lf_X0_take_t_39 (a : Nat → Nat) (dm : Nat) (d0 : Nat → Int32) (d1 : Nat → Int32) (d2 : Nat → Int32) (sn : Nat) (sk : Nat) (scu : Int32) (sch : Int32) (g0 : Nat → Int32) (g1 : Nat → Int32) (g3 : Nat → Int32) (x1 : Nat) (n2 : Int32) (n3 : Int32) (n4 : Int32) (hdm : dm ≤ 4) (hx1 : x1 < dm) (hsn : sn ≤ 24) (hsk : sk ≤ 8) (j1 : Nat) (d0_j1 : Nat → Int32) (d1_j1 : Nat → Int32) (d2_j1 : Nat → Int32) (sch_j1 : Int32) (k3 : Nat) (hj3 : j1 ≤ sn) (hk3 : sn < j1 + (k3 + 1)) (hrj1 : ((d0_j1, d1_j1, d2_j1, sch_j1) : D4T) = dr1 g0 g1 g3 scu x1 n2 n3 n4 sk (d0, d1, d2, sch) j1) (c_1 : ¬ nI sn ≤ nI j1) (n_5 : j1 < sn) (j2 : Nat) (d0_j2 : Nat → Int32) (d1_j2 : Nat → Int32) (d2_j2 : Nat → Int32) (sch_j2 : Int32) (k18 : Nat) (hj18 : j2 ≤ sk) (hk18 : sk < j2 + (k18 + 1)) (hrj2 : ((d0_j2, d1_j2, d2_j2, sch_j2) : D4T) = dr2 g0 g1 g3 scu x1 n2 n3 n4 j1 (dr1 g0 g1 g3 scu x1 n2 n3 n4 sk (d0, d1, d2, sch) j1) j2) (c_7 : ¬ nI sk ≤ nI j2) (n_11 : j2 < sk) (j3 : Nat) (d0_j3 : Nat → Int32) (d1_j3 : Nat → Int32) (d2_j3 : Nat → Int32) (sch_j3 : Int32) (k33 : Nat) (hj33 : j3 ≤ 2) (hk33 : 2 < j3 + (k33 + 1)) (hrj3 : ((d0_j3, d1_j3, d2_j3, sch_j3) : D4T) = dr3 g0 g1 g3 scu x1 n2 n3 n4 j1 j2 (dr2 g0 g1 g3 scu x1 n2 n3 n4 j1 (dr1 g0 g1 g3 scu x1 n2 n3 n4 sk (d0, d1, d2, sch) j1) j2) j3) (c_13 : ¬ 2 ≤ nI j3) (n_17 : j3 < 2) (his28 : g3 ((j1 * 8 + j2) * 2 + j3) = 0 ∧ ¬ CT scu j1) (sch_31 : Int32) (hz_31_0 : sch_31 = dwM sch_j3) (r_30 : Int32) (hlk31 : r_30 = lkM (dwM sch_j3)) (c_32 : n4 ≤ r_30) (x_34 : Int32) (ex_34 : x_34 = g0 ((j1 * 8 + j2) * 2 + j3) + n2) (x_35 : Int32) (ex_35 : x_35 = x_34 + 0) (x_37 : Int32) (ex_37 : x_37 = g1 ((j1 * 8 + j2) * 2 + j3) + n3) : ((j1 * 8 + j2) * 2 + j3) < 384 := by
  first | assumption | omega | decide | rfl
theorem lf_X0_take_t_42 (a : Nat → Nat) (dm : Nat) (d0 : Nat → Int32) (d1 : Nat → Int32) (d2 : Nat → Int32) (sn : Nat) (sk : Nat) (scu : Int32) (sch : Int32) (g0 : Nat → Int32) (g1 : Nat → Int32) (g3 : Nat → Int32) (x1 : Nat) (n2 : Int32) (n3 : Int32) (n4 : Int32) (hdm : dm ≤ 4) (hx1 : x1 < dm) (hsn : sn ≤ 24) (hsk : sk ≤ 8) (j1 : Nat) (d0_j1 : Nat → Int32) (d1_j1 : Nat → Int32) (d2_j1 : Nat → Int32) (sch_j1 : Int32) (k3 : Nat) (hj3 : j1 ≤ sn) (hk3 : sn < j1 + (k3 + 1)) (hrj1 : ((d0_j1, d1_j1, d2_j1, sch_j1) : D4T) = dr1 g0 g1 g3 scu x1 n2 n3 n4 sk (d0, d1, d2, sch) j1) (c_1 : ¬ nI sn ≤ nI j1) (n_5 : j1 < sn) (j2 : Nat) (d0_j2 : Nat → Int32) (d1_j2 : Nat → Int32) (d2_j2 : Nat → Int32) (sch_j2 : Int32) (k18 : Nat) (hj18 : j2 ≤ sk) (hk18 : sk < j2 + (k18 + 1)) (hrj2 : ((d0_j2, d1_j2, d2_j2, sch_j2) : D4T) = dr2 g0 g1 g3 scu x1 n2 n3 n4 j1 (dr1 g0 g1 g3 scu x1 n2 n3 n4 sk (d0, d1, d2, sch) j1) j2) (c_7 : ¬ nI sk ≤ nI j2) (n_11 : j2 < sk) (j3 : Nat) (d0_j3 : Nat → Int32) (d1_j3 : Nat → Int32) (d2_j3 : Nat → Int32) (sch_j3 : Int32) (k33 : Nat) (hj33 : j3 ≤ 2) (hk33 : 2 < j3 + (k33 + 1)) (hrj3 : ((d0_j3, d1_j3, d2_j3, sch_j3) : D4T) = dr3 g0 g1 g3 scu x1 n2 n3 n4 j1 j2 (dr2 g0 g1 g3 scu x1 n2 n3 n4 j1 (dr1 g0 g1 g3 scu x1 n2 n3 n4 sk (d0, d1, d2, sch) j1) j2) j3) (c_13 : ¬ 2 ≤ nI j3) (n_17 : j3 < 2) (his28 : g3 ((j1 * 8 + j2) * 2 + j3) = 0 ∧ ¬ CT scu j1) (sch_31 : Int32) (hz_31_0 : sch_31 = dwM sch_j3) (r_30 : Int32) (hlk31 : r_30 = lkM (dwM sch_j3)) (c_32 : n4 ≤ r_30) (x_34 : Int32) (ex_34 : x_34 = g0 ((j1 * 8 + j2) * 2 + j3) + n2) (x_35 : Int32) (ex_35 : x_35 = x_34 + 0) (x_37 : Int32) (ex_37 : x_37 = g1 ((j1 * 8 + j2) * 2 + j3) + n3) (d0_41 : Nat → Int32) (d1_41 : Nat → Int32) (d2_41 : Nat → Int32) (hz_41_0 : d0_41 = upd d0_j3 (384 * x1 + (((j1 * 8 + j2) * 2 + j3))) x_35) (hz_41_1 : d1_41 = upd d1_j3 (384 * x1 + (((j1 * 8 + j2) * 2 + j3))) x_37) (hz_41_2 : d2_41 = upd d2_j3 (384 * x1 + (((j1 * 8 + j2) * 2 + j3))) (vp_nar .boolean 1)) : ((d0_41, d1_41, d2_41, sch_31) : D4T) = dr3 g0 g1 g3 scu x1 n2 n3 n4 j1 j2 (dr2 g0 g1 g3 scu x1 n2 n3 n4 j1 (dr1 g0 g1 g3 scu x1 n2 n3 n4 sk (d0, d1, d2, sch) j1) j2) (j3 + 1) := by
  first | omega | assumption | exact dr_s3 hrj3 (dr_y (vs_x (by assumption) (by omega)) (by assumption) (by assumption) (by assumption) (by assumption) (by omega) (by omega) (by omega) (dr_v (by assumption) (by assumption) (by omega) (by first | exact sl_50 (dr_l (by assumption) (by assumption) (by assumption)) | exact sl_0 (dr_m (by assumption) (by assumption) (by assumption)))) (dr_w (by assumption) (by omega))) | exact dr_s3 hrj3 (dr_n (vs_nx (by assumption) (by omega))) | exact dr_s2 hrj3 (by omega) | exact dr_s1 hrj2 (by omega) | rfl
theorem lf_X0_take_t_43 (a : Nat → Nat) (dm : Nat) (d0 : Nat → Int32) (d1 : Nat → Int32) (d2 : Nat → Int32) (sn : Nat) (sk : Nat) (scu : Int32) (sch : Int32) (g0 : Nat → Int32) (g1 : Nat → Int32) (g3 : Nat → Int32) (x1 : Nat) (n2 : Int32) (n3 : Int32) (n4 : Int32) (hdm : dm ≤ 4) (hx1 : x1 < dm) (hsn : sn ≤ 24) (hsk : sk ≤ 8) (j1 : Nat) (d0_j1 : Nat → Int32) (d1_j1 : Nat → Int32) (d2_j1 : Nat → Int32) (sch_j1 : Int32) (k3 : Nat) (hj3 : j1 ≤ sn) (hk3 : sn < j1 + (k3 + 1)) (hrj1 : ((d0_j1, d1_j1, d2_j1, sch_j1) : D4T) = dr1 g0 g1 g3 scu x1 n2 n3 n4 sk (d0, d1, d2, sch) j1) (c_1 : ¬ nI sn ≤ nI j1) (n_5 : j1 < sn) (j2 : Nat) (d0_j2 : Nat → Int32) (d1_j2 : Nat → Int32) (d2_j2 : Nat → Int32) (sch_j2 : Int32) (k18 : Nat) (hj18 : j2 ≤ sk) (hk18 : sk < j2 + (k18 + 1)) (hrj2 : ((d0_j2, d1_j2, d2_j2, sch_j2) : D4T) = dr2 g0 g1 g3 scu x1 n2 n3 n4 j1 (dr1 g0 g1 g3 scu x1 n2 n3 n4 sk (d0, d1, d2, sch) j1) j2) (c_7 : ¬ nI sk ≤ nI j2) (n_11 : j2 < sk) (j3 : Nat) (d0_j3 : Nat → Int32) (d1_j3 : Nat → Int32) (d2_j3 : Nat → Int32) (sch_j3 : Int32) (k33 : Nat) (hj33 : j3 ≤ 2) (hk33 : 2 < j3 + (k33 + 1)) (hrj3 : ((d0_j3, d1_j3, d2_j3, sch_j3) : D4T) = dr3 g0 g1 g3 scu x1 n2 n3 n4 j1 j2 (dr2 g0 g1 g3 scu x1 n2 n3 n4 j1 (dr1 g0 g1 g3 scu x1 n2 n3 n4 sk (d0, d1, d2, sch) j1) j2) j3) (c_13 : ¬ 2 ≤ nI j3) (n_17 : j3 < 2) (his28 : g3 ((j1 * 8 + j2) * 2 + j3) = 0 ∧ ¬ CT scu j1) (sch_31 : Int32) (hz_31_0 : sch_31 = dwM sch_j3) (r_30 : Int32) (hlk31 : r_30 = lkM (dwM sch_j3)) (c_32 : ¬ n4 ≤ r_30) : ((j1 * 8 + j2) * 2 + j3) < 384 := by
  omega
theorem lf_X0_take_t_46 (a : Nat → Nat) (dm : Nat) (d0 : Nat → Int32) (d1 : Nat → Int32) (d2 : Nat → Int32) (sn : Nat) (sk : Nat) (scu : Int32) (sch : Int32) (g0 : Nat → Int32) (g1 : Nat → Int32) (g3 : Nat → Int32) (x1 : Nat) (n2 : Int32) (n3 : Int32) (n4 : Int32) (hdm : dm ≤ 4) (hx1 : x1 < dm) (hsn : sn ≤ 24) (hsk : sk ≤ 8) (j1 : Nat) (d0_j1 : Nat → Int32) (d1_j1 : Nat → Int32) (d2_j1 : Nat → Int32) (sch_j1 : Int32) (k3 : Nat) (hj3 : j1 ≤ sn) (hk3 : sn < j1 + (k3 + 1)) (hrj1 : ((d0_j1, d1_j1, d2_j1, sch_j1) : D4T) = dr1 g0 g1 g3 scu x1 n2 n3 n4 sk (d0, d1, d2, sch) j1) (c_1 : ¬ nI sn ≤ nI j1) (n_5 : j1 < sn) (j2 : Nat) (d0_j2 : Nat → Int32) (d1_j2 : Nat → Int32) (d2_j2 : Nat → Int32) (sch_j2 : Int32) (k18 : Nat) (hj18 : j2 ≤ sk) (hk18 : sk < j2 + (k18 + 1)) (hrj2 : ((d0_j2, d1_j2, d2_j2, sch_j2) : D4T) = dr2 g0 g1 g3 scu x1 n2 n3 n4 j1 (dr1 g0 g1 g3 scu x1 n2 n3 n4 sk (d0, d1, d2, sch) j1) j2) (c_7 : ¬ nI sk ≤ nI j2) (n_11 : j2 < sk) (j3 : Nat) (d0_j3 : Nat → Int32) (d1_j3 : Nat → Int32) (d2_j3 : Nat → Int32) (sch_j3 : Int32) (k33 : Nat) (hj33 : j3 ≤ 2) (hk33 : 2 < j3 + (k33 + 1)) (hrj3 : ((d0_j3, d1_j3, d2_j3, sch_j3) : D4T) = dr3 g0 g1 g3 scu x1 n2 n3 n4 j1 j2 (dr2 g0 g1 g3 scu x1 n2 n3 n4 j1 (dr1 g0 g1 g3 scu x1 n2 n3 n4 sk (d0, d1, d2, sch) j1) j2) j3) (c_13 : ¬ 2 ≤ nI j3) (n_17 : j3 < 2) (his28 : g3 ((j1 * 8 + j2) * 2 + j3) = 0 ∧ ¬ CT scu j1) (sch_31 : Int32) (hz_31_0 : sch_31 = dwM sch_j3) (r_30 : Int32) (hlk31 : r_30 = lkM (dwM sch_j3)) (c_32 : ¬ n4 ≤ r_30) (x_44 : Int32) (ex_44 : x_44 = g0 ((j1 * 8 + j2) * 2 + j3) + n2) (x_45 : Int32) (ex_45 : x_45 = x_44 + 50) : ((j1 * 8 + j2) * 2 + j3) < 384 := by
  omega
theorem lf_X0_take_t_48 (a : Nat → Nat) (dm : Nat) (d0 : Nat → Int32) (d1 : Nat → Int32) (d2 : Nat → Int32) (sn : Nat) (sk : Nat) (scu : Int32) (sch : Int32) (g0 : Nat → Int32) (g1 : Nat → Int32) (g3 : Nat → Int32) (x1 : Nat) (n2 : Int32) (n3 : Int32) (n4 : Int32) (hdm : dm ≤ 4) (hx1 : x1 < dm) (hsn : sn ≤ 24) (hsk : sk ≤ 8) (j1 : Nat) (d0_j1 : Nat → Int32) (d1_j1 : Nat → Int32) (d2_j1 : Nat → Int32) (sch_j1 : Int32) (k3 : Nat) (hj3 : j1 ≤ sn) (hk3 : sn < j1 + (k3 + 1)) (hrj1 : ((d0_j1, d1_j1, d2_j1, sch_j1) : D4T) = dr1 g0 g1 g3 scu x1 n2 n3 n4 sk (d0, d1, d2, sch) j1) (c_1 : ¬ nI sn ≤ nI j1) (n_5 : j1 < sn) (j2 : Nat) (d0_j2 : Nat → Int32) (d1_j2 : Nat → Int32) (d2_j2 : Nat → Int32) (sch_j2 : Int32) (k18 : Nat) (hj18 : j2 ≤ sk) (hk18 : sk < j2 + (k18 + 1)) (hrj2 : ((d0_j2, d1_j2, d2_j2, sch_j2) : D4T) = dr2 g0 g1 g3 scu x1 n2 n3 n4 j1 (dr1 g0 g1 g3 scu x1 n2 n3 n4 sk (d0, d1, d2, sch) j1) j2) (c_7 : ¬ nI sk ≤ nI j2) (n_11 : j2 < sk) (j3 : Nat) (d0_j3 : Nat → Int32) (d1_j3 : Nat → Int32) (d2_j3 : Nat → Int32) (sch_j3 : Int32) (k33 : Nat) (hj33 : j3 ≤ 2) (hk33 : 2 < j3 + (k33 + 1)) (hrj3 : ((d0_j3, d1_j3, d2_j3, sch_j3) : D4T) = dr3 g0 g1 g3 scu x1 n2 n3 n4 j1 j2 (dr2 g0 g1 g3 scu x1 n2 n3 n4 j1 (dr1 g0 g1 g3 scu x1 n2 n3 n4 sk (d0, d1, d2, sch) j1) j2) j3) (c_13 : ¬ 2 ≤ nI j3) (n_17 : j3 < 2) (his28 : g3 ((j1 * 8 + j2) * 2 + j3) = 0 ∧ ¬ CT scu j1) (sch_31 : Int32) (hz_31_0 : sch_31 = dwM sch_j3) (r_30 : Int32) (hlk31 : r_30 = lkM (dwM sch_j3)) (c_32 : ¬ n4 ≤ r_30) (x_44 : Int32) (ex_44 : x_44 = g0 ((j1 * 8 + j2) * 2 + j3) + n2) (x_45 : Int32) (ex_45 : x_45 = x_44 + 50) (x_47 : Int32) (ex_47 : x_47 = g1 ((j1 * 8 + j2) * 2 + j3) + n3) : x1 < 4 := by
  first | assumption | omega | decide | rfl
theorem lf_X0_take_t_49 (a : Nat → Nat) (dm : Nat) (d0 : Nat → Int32) (d1 : Nat → Int32) (d2 : Nat → Int32) (sn : Nat) (sk : Nat) (scu : Int32) (sch : Int32) (g0 : Nat → Int32) (g1 : Nat → Int32) (g3 : Nat → Int32) (x1 : Nat) (n2 : Int32) (n3 : Int32) (n4 : Int32) (hdm : dm ≤ 4) (hx1 : x1 < dm) (hsn : sn ≤ 24) (hsk : sk ≤ 8) (j1 : Nat) (d0_j1 : Nat → Int32) (d1_j1 : Nat → Int32) (d2_j1 : Nat → Int32) (sch_j1 : Int32) (k3 : Nat) (hj3 : j1 ≤ sn) (hk3 : sn < j1 + (k3 + 1)) (hrj1 : ((d0_j1, d1_j1, d2_j1, sch_j1) : D4T) = dr1 g0 g1 g3 scu x1 n2 n3 n4 sk (d0, d1, d2, sch) j1) (c_1 : ¬ nI sn ≤ nI j1) (n_5 : j1 < sn) (j2 : Nat) (d0_j2 : Nat → Int32) (d1_j2 : Nat → Int32) (d2_j2 : Nat → Int32) (sch_j2 : Int32) (k18 : Nat) (hj18 : j2 ≤ sk) (hk18 : sk < j2 + (k18 + 1)) (hrj2 : ((d0_j2, d1_j2, d2_j2, sch_j2) : D4T) = dr2 g0 g1 g3 scu x1 n2 n3 n4 j1 (dr1 g0 g1 g3 scu x1 n2 n3 n4 sk (d0, d1, d2, sch) j1) j2) (c_7 : ¬ nI sk ≤ nI j2) (n_11 : j2 < sk) (j3 : Nat) (d0_j3 : Nat → Int32) (d1_j3 : Nat → Int32) (d2_j3 : Nat → Int32) (sch_j3 : Int32) (k33 : Nat) (hj33 : j3 ≤ 2) (hk33 : 2 < j3 + (k33 + 1)) (hrj3 : ((d0_j3, d1_j3, d2_j3, sch_j3) : D4T) = dr3 g0 g1 g3 scu x1 n2 n3 n4 j1 j2 (dr2 g0 g1 g3 scu x1 n2 n3 n4 j1 (dr1 g0 g1 g3 scu x1 n2 n3 n4 sk (d0, d1, d2, sch) j1) j2) j3) (c_13 : ¬ 2 ≤ nI j3) (n_17 : j3 < 2) (his28 : g3 ((j1 * 8 + j2) * 2 + j3) = 0 ∧ ¬ CT scu j1) (sch_31 : Int32) (hz_31_0 : sch_31 = dwM sch_j3) (r_30 : Int32) (hlk31 : r_30 = lkM (dwM sch_j3)) (c_32 : ¬ n4 ≤ r_30) (x_44 : Int32) (ex_44 : x_44 = g0 ((j1 * 8 + j2) * 2 + j3) + n2) (x_45 : Int32) (ex_45 : x_45 = x_44 + 50) (x_47 : Int32) (ex_47 : x_47 = g1 ((j1 * 8 + j2) * 2 + j3) + n3) : ((j1 * 8 + j2) * 2 + j3) < 384 := by
  first | assumption | omega | decide | rfl
theorem lf_X0_take_t_52 (a : Nat → Nat) (dm : Nat) (d0 : Nat → Int32) (d1 : Nat → Int32) (d2 : Nat → Int32) (sn : Nat) (sk : Nat) (scu : Int32) (sch : Int32) (g0 : Nat → Int32) (g1 : Nat → Int32) (g3 : Nat → Int32) (x1 : Nat) (n2 : Int32) (n3 : Int32) (n4 : Int32) (hdm : dm ≤ 4) (hx1 : x1 < dm) (hsn : sn ≤ 24) (hsk : sk ≤ 8) (j1 : Nat) (d0_j1 : Nat → Int32) (d1_j1 : Nat → Int32) (d2_j1 : Nat → Int32) (sch_j1 : Int32) (k3 : Nat) (hj3 : j1 ≤ sn) (hk3 : sn < j1 + (k3 + 1)) (hrj1 : ((d0_j1, d1_j1, d2_j1, sch_j1) : D4T) = dr1 g0 g1 g3 scu x1 n2 n3 n4 sk (d0, d1, d2, sch) j1) (c_1 : ¬ nI sn ≤ nI j1) (n_5 : j1 < sn) (j2 : Nat) (d0_j2 : Nat → Int32) (d1_j2 : Nat → Int32) (d2_j2 : Nat → Int32) (sch_j2 : Int32) (k18 : Nat) (hj18 : j2 ≤ sk) (hk18 : sk < j2 + (k18 + 1)) (hrj2 : ((d0_j2, d1_j2, d2_j2, sch_j2) : D4T) = dr2 g0 g1 g3 scu x1 n2 n3 n4 j1 (dr1 g0 g1 g3 scu x1 n2 n3 n4 sk (d0, d1, d2, sch) j1) j2) (c_7 : ¬ nI sk ≤ nI j2) (n_11 : j2 < sk) (j3 : Nat) (d0_j3 : Nat → Int32) (d1_j3 : Nat → Int32) (d2_j3 : Nat → Int32) (sch_j3 : Int32) (k33 : Nat) (hj33 : j3 ≤ 2) (hk33 : 2 < j3 + (k33 + 1)) (hrj3 : ((d0_j3, d1_j3, d2_j3, sch_j3) : D4T) = dr3 g0 g1 g3 scu x1 n2 n3 n4 j1 j2 (dr2 g0 g1 g3 scu x1 n2 n3 n4 j1 (dr1 g0 g1 g3 scu x1 n2 n3 n4 sk (d0, d1, d2, sch) j1) j2) j3) (c_13 : ¬ 2 ≤ nI j3) (n_17 : j3 < 2) (his28 : g3 ((j1 * 8 + j2) * 2 + j3) = 0 ∧ ¬ CT scu j1) (sch_31 : Int32) (hz_31_0 : sch_31 = dwM sch_j3) (r_30 : Int32) (hlk31 : r_30 = lkM (dwM sch_j3)) (c_32 : ¬ n4 ≤ r_30) (x_44 : Int32) (ex_44 : x_44 = g0 ((j1 * 8 + j2) * 2 + j3) + n2) (x_45 : Int32) (ex_45 : x_45 = x_44 + 50) (x_47 : Int32) (ex_47 : x_47 = g1 ((j1 * 8 + j2) * 2 + j3) + n3) (d0_51 : Nat → Int32) (d1_51 : Nat → Int32) (d2_51 : Nat → Int32) (hz_51_0 : d0_51 = upd d0_j3 (384 * x1 + (((j1 * 8 + j2) * 2 + j3))) x_45) (hz_51_1 : d1_51 = upd d1_j3 (384 * x1 + (((j1 * 8 + j2) * 2 + j3))) x_47) (hz_51_2 : d2_51 = upd d2_j3 (384 * x1 + (((j1 * 8 + j2) * 2 + j3))) (vp_nar .boolean 1)) : ((d0_51, d1_51, d2_51, sch_31) : D4T) = dr3 g0 g1 g3 scu x1 n2 n3 n4 j1 j2 (dr2 g0 g1 g3 scu x1 n2 n3 n4 j1 (dr1 g0 g1 g3 scu x1 n2 n3 n4 sk (d0, d1, d2, sch) j1) j2) (j3 + 1) := by
  first | omega | assumption | exact dr_s3 hrj3 (dr_y (vs_x (by assumption) (by omega)) (by assumption) (by assumption) (by assumption) (by assumption) (by omega) (by omega) (by omega) (dr_v (by assumption) (by assumption) (by omega) (by first | exact sl_50 (dr_l (by assumption) (by assumption) (by assumption)) | exact sl_0 (dr_m (by assumption) (by assumption) (by assumption)))) (dr_w (by assumption) (by omega))) | exact dr_s3 hrj3 (dr_n (vs_nx (by assumption) (by omega))) | exact dr_s2 hrj3 (by omega) | exact dr_s1 hrj2 (by omega) | rfl
theorem lf_X0_take_t_53 (a : Nat → Nat) (dm : Nat) (d0 : Nat → Int32) (d1 : Nat → Int32) (d2 : Nat → Int32) (sn : Nat) (sk : Nat) (scu : Int32) (sch : Int32) (g0 : Nat → Int32) (g1 : Nat → Int32) (g3 : Nat → Int32) (x1 : Nat) (n2 : Int32) (n3 : Int32) (n4 : Int32) (hdm : dm ≤ 4) (hx1 : x1 < dm) (hsn : sn ≤ 24) (hsk : sk ≤ 8) (j1 : Nat) (d0_j1 : Nat → Int32) (d1_j1 : Nat → Int32) (d2_j1 : Nat → Int32) (sch_j1 : Int32) (k3 : Nat) (hj3 : j1 ≤ sn) (hk3 : sn < j1 + (k3 + 1)) (hrj1 : ((d0_j1, d1_j1, d2_j1, sch_j1) : D4T) = dr1 g0 g1 g3 scu x1 n2 n3 n4 sk (d0, d1, d2, sch) j1) (c_1 : ¬ nI sn ≤ nI j1) (n_5 : j1 < sn) (j2 : Nat) (d0_j2 : Nat → Int32) (d1_j2 : Nat → Int32) (d2_j2 : Nat → Int32) (sch_j2 : Int32) (k18 : Nat) (hj18 : j2 ≤ sk) (hk18 : sk < j2 + (k18 + 1)) (hrj2 : ((d0_j2, d1_j2, d2_j2, sch_j2) : D4T) = dr2 g0 g1 g3 scu x1 n2 n3 n4 j1 (dr1 g0 g1 g3 scu x1 n2 n3 n4 sk (d0, d1, d2, sch) j1) j2) (c_7 : ¬ nI sk ≤ nI j2) (n_11 : j2 < sk) : ((d0_j2, d1_j2, d2_j2, sch_j2) : D4T) = dr3 g0 g1 g3 scu x1 n2 n3 n4 j1 j2 (dr2 g0 g1 g3 scu x1 n2 n3 n4 j1 (dr1 g0 g1 g3 scu x1 n2 n3 n4 sk (d0, d1, d2, sch) j1) j2) 0 := by
  first | omega | assumption | exact dr_s3 hrj3 (dr_y (vs_x (by assumption) (by omega)) (by assumption) (by assumption) (by assumption) (by assumption) (by omega) (by omega) (by omega) (dr_v (by assumption) (by assumption) (by omega) (by first | exact sl_50 (dr_l (by assumption) (by assumption) (by assumption)) | exact sl_0 (dr_m (by assumption) (by assumption) (by assumption)))) (dr_w (by assumption) (by omega))) | exact dr_s3 hrj3 (dr_n (vs_nx (by assumption) (by omega))) | exact dr_s2 hrj3 (by omega) | exact dr_s1 hrj2 (by omega) | rfl
theorem lf_X0_take_t_54 (a : Nat → Nat) (dm : Nat) (d0 : Nat → Int32) (d1 : Nat → Int32) (d2 : Nat → Int32) (sn : Nat) (sk : Nat) (scu : Int32) (sch : Int32) (g0 : Nat → Int32) (g1 : Nat → Int32) (g3 : Nat → Int32) (x1 : Nat) (n2 : Int32) (n3 : Int32) (n4 : Int32) (hdm : dm ≤ 4) (hx1 : x1 < dm) (hsn : sn ≤ 24) (hsk : sk ≤ 8) (j1 : Nat) (d0_j1 : Nat → Int32) (d1_j1 : Nat → Int32) (d2_j1 : Nat → Int32) (sch_j1 : Int32) (k3 : Nat) (hj3 : j1 ≤ sn) (hk3 : sn < j1 + (k3 + 1)) (hrj1 : ((d0_j1, d1_j1, d2_j1, sch_j1) : D4T) = dr1 g0 g1 g3 scu x1 n2 n3 n4 sk (d0, d1, d2, sch) j1) (c_1 : ¬ nI sn ≤ nI j1) (n_5 : j1 < sn) : ((d0_j1, d1_j1, d2_j1, sch_j1) : D4T) = dr2 g0 g1 g3 scu x1 n2 n3 n4 j1 (dr1 g0 g1 g3 scu x1 n2 n3 n4 sk (d0, d1, d2, sch) j1) 0 := by
  first | omega | assumption | exact dr_s3 hrj3 (dr_y (vs_x (by assumption) (by omega)) (by assumption) (by assumption) (by assumption) (by assumption) (by omega) (by omega) (by omega) (dr_v (by assumption) (by assumption) (by omega) (by first | exact sl_50 (dr_l (by assumption) (by assumption) (by assumption)) | exact sl_0 (dr_m (by assumption) (by assumption) (by assumption)))) (dr_w (by assumption) (by omega))) | exact dr_s3 hrj3 (dr_n (vs_nx (by assumption) (by omega))) | exact dr_s2 hrj3 (by omega) | exact dr_s1 hrj2 (by omega) | rfl
theorem lf_X0_take_t_55 (a : Nat → Nat) (dm : Nat) (d0 : Nat → Int32) (d1 : Nat → Int32) (d2 : Nat → Int32) (sn : Nat) (sk : Nat) (scu : Int32) (sch : Int32) (g0 : Nat → Int32) (g1 : Nat → Int32) (g3 : Nat → Int32) (x1 : Nat) (n2 : Int32) (n3 : Int32) (n4 : Int32) (hdm : dm ≤ 4) (hx1 : x1 < dm) (hsn : sn ≤ 24) (hsk : sk ≤ 8) : ((d0, d1, d2, sch) : D4T) = dr1 g0 g1 g3 scu x1 n2 n3 n4 sk (d0, d1, d2, sch) 0 := by
  first | omega | assumption | exact dr_s3 hrj3 (dr_y (vs_x (by assumption) (by omega)) (by assumption) (by assumption) (by assumption) (by assumption) (by omega) (by omega) (by omega) (dr_v (by assumption) (by assumption) (by omega) (by first | exact sl_50 (dr_l (by assumption) (by assumption) (by assumption)) | exact sl_0 (dr_m (by assumption) (by assumption) (by assumption)))) (dr_w (by assumption) (by omega))) | exact dr_s3 hrj3 (dr_n (vs_nx (by assumption) (by omega))) | exact dr_s2 hrj3 (by omega) | exact dr_s1 hrj2 (by omega) | rfl
set_option maxHeartbeats 4000000 in
set_option maxRecDepth 100000 in
theorem c_X0_take_t (l : Launch) (D : va_G) (cI cB cZ cJ : ClassId) (tx : List (ClassId × FieldType)) (a : Nat → Nat) (dm : Nat) (d0 : Nat → Int32) (d1 : Nat → Int32) (d2 : Nat → Int32) (sn : Nat) (sk : Nat) (scu : Int32) (sch : Int32) (g0 : Nat → Int32) (g1 : Nat → Int32) (g3 : Nat → Int32) (x1 : Nat) (n2 : Int32) (n3 : Int32) (n4 : Int32) (hdm : dm ≤ 4) (hx1 : x1 < dm) (hsn : sn ≤ 24) (hsk : sk ≤ 8) : WrV l D cI cB cZ cJ tx yX0_take cX0_take 10 none 3 0 0 [.ref (a 6), .int (nI x1), .int n2, .int n3, .int n4] [(a 6, .inr (0, [.ref (a 5), .ref (a 25), .ref (a 26), .ref (a 27), .ref (a 28), .ref (a 29), .int (nI dm)])), (a 25, .inl (cI, 1536, .inl d0)), (a 26, .inl (cI, 1536, .inl d1)), (a 27, .inl (cZ, 1536, .inl d2)), (a 5, .inr (4, [.ref (a 18), .ref (a 19), .ref (a 20), .ref (a 21), .ref (a 22), .ref (a 23), .ref (a 24), .int (nI sn), .int (nI sk), .int scu, .int sch])), (a 18, .inl (cI, 384, .inl g0)), (a 19, .inl (cI, 384, .inl g1)), (a 21, .inl (cZ, 384, .inl g3))] (fun (v : (Nat → Int32) × (Nat → Int32) × (Nat → Int32) × (Int32)) => (((v.1, v.2.1, v.2.2.1, v.2.2.2) : D4T) = dr1 g0 g1 g3 scu x1 n2 n3 n4 sk (d0, d1, d2, sch) sn)) (fun v => [(a 6, .inr (0, [.ref (a 5), .ref (a 25), .ref (a 26), .ref (a 27), .ref (a 28), .ref (a 29), .int (nI dm)])), (a 25, .inl (cI, 1536, .inl v.1)), (a 26, .inl (cI, 1536, .inl v.2.1)), (a 27, .inl (cZ, 1536, .inl v.2.2.1)), (a 5, .inr (4, [.ref (a 18), .ref (a 19), .ref (a 20), .ref (a 21), .ref (a 22), .ref (a 23), .ref (a 24), .int (nI sn), .int (nI sk), .int scu, .int v.2.2.2])), (a 18, .inl (cI, 384, .inl g0)), (a 19, .inl (cI, 384, .inl g1)), (a 21, .inl (cZ, 384, .inl g3))]) := by
  refine wrv_of2 (by decide) (Nat.le_of_ble_eq_true rfl) ?_
  intro p e s m below meth c A ls H locs hC hK hP hD hA hS hl
  obtain ⟨hx, hb, hr, hml, hown, hts, hlocks, hin⟩ := hC
  have hown : s.vm.findClass RX0 = some m.cls := hown
  have hl : lv_has ls 10 [(0, .ref (a 6)), (1, .int (nI x1)), (2, .int n2), (3, .int n3), (4, .int n4)] := hl
  refine W_gQ (fun Q hQ => ?_)
  refine lv_iconst (v := 0) hx hb dX0_take_0 (by decide) ?_
  refine lv_istore (lv' := [(5, .int 0), (0, .ref (a 6)), (1, .int (nI x1)), (2, .int n2), (3, .int n3), (4, .int n4)]) hx hb dX0_take_1 hl (by decide) rfl (fun ls hl => ?_)
  have lp3 : ∀ (k3 : Nat) (j1 : Nat) (d0_j1 : Nat → Int32) (d1_j1 : Nat → Int32) (d2_j1 : Nat → Int32) (sch_j1 : Int32) (H : Heap) (locs : List Loc) (ls : Array Slot), j1 ≤ sn → sn < j1 + k3 → (((d0_j1, d1_j1, d2_j1, sch_j1) : D4T) = dr1 g0 g1 g3 scu x1 n2 n3 n4 sk (d0, d1, d2, sch) j1) → va_P D vwCl [(a 6, .inr (0, [.ref (a 5), .ref (a 25), .ref (a 26), .ref (a 27), .ref (a 28), .ref (a 29), .int (nI dm)])), (a 25, .inl (cI, 1536, .inl d0_j1)), (a 26, .inl (cI, 1536, .inl d1_j1)), (a 27, .inl (cZ, 1536, .inl d2_j1)), (a 5, .inr (4, [.ref (a 18), .ref (a 19), .ref (a 20), .ref (a 21), .ref (a 22), .ref (a 23), .ref (a 24), .int (nI sn), .int (nI sk), .int scu, .int sch_j1])), (a 18, .inl (cI, 384, .inl g0)), (a 19, .inl (cI, 384, .inl g1)), (a 21, .inl (cZ, 384, .inl g3))] H → va_D A [(a 6, .inr (0, [.ref (a 5), .ref (a 25), .ref (a 26), .ref (a 27), .ref (a 28), .ref (a 29), .int (nI dm)])), (a 25, .inl (cI, 1536, .inl d0_j1)), (a 26, .inl (cI, 1536, .inl d1_j1)), (a 27, .inl (cZ, 1536, .inl d2_j1)), (a 5, .inr (4, [.ref (a 18), .ref (a 19), .ref (a 20), .ref (a 21), .ref (a 22), .ref (a 23), .ref (a 24), .int (nI sn), .int (nI sk), .int scu, .int sch_j1])), (a 18, .inl (cI, 384, .inl g0)), (a 19, .inl (cI, 384, .inl g1)), (a 21, .inl (cZ, 384, .inl g3))] → va_S A s.heap H locs → lv_has ls 10 [(5, .int (nI j1)), (0, .ref (a 6)), (1, .int (nI x1)), (2, .int n2), (3, .int n3), (4, .int n4)] → W p l e (rmX 3 0 0) s m ([.ref (a 6), .int (nI x1), .int n2, .int n3, .int n4] : List Value).toArray below meth c H locs 0 0 Q (F0 m 3 ls []) := by
    intro k3
    induction k3 with
    | zero =>
      intro j1 d0_j1 d1_j1 d2_j1 sch_j1 H locs ls hj3 hk3 hrj1 hP hD hS hl
      exact absurd hk3 (by omega)
    | succ k3 ih3 =>
      intro j1 d0_j1 d1_j1 d2_j1 sch_j1 H locs ls hj3 hk3 hrj1 hP hD hS hl
      refine lv_iload hx hb dX0_take_3 (lv_at hl 0 rfl) ?_
      refine lv_aload_n hx hb dX0_take_5 rfl (lv_at hl 1 rfl) ?_
      refine va_get (D := D) (ci := 0) (v := .ref (a 5)) (C := RX0) (T := TX0) (N := 7) hx hb hts inT_X0 hown hK.1 hP 0 rfl rfl 0 (by decide) (hts _ k_294) (fun _ h9 => h9) rfl dX0_take_6 ?_
      refine va_getN (D := D) (ci := 4) (v := .int (nI sn)) (C := RX4) (T := TX4) (N := 11) hx hb hts inT_X4 hown hK.1 hP 4 rfl rfl 7 (by decide) (va_Nw.use rfl (hK.2.2.1 _ n_253)) (fun _ h9 => h9) rfl dX0_take_9 ?_
      refine lv_icmp_ge (tgt := 145) hx hb dX0_take_12 (by decide) (fun c_1 => ?_) (fun c_1 => ?_)
      · have n_2 : sn ≤ j1 := (lf_X0_take_t_3 a dm d0 d1 d2 sn sk scu sch g0 g1 g3 x1 n2 n3 n4 hdm hx1 hsn hsk j1 d0_j1 d1_j1 d2_j1 sch_j1 k3 hj3 hk3 hrj1 c_1)
        rw [hQ]
        exact W.vret hx hb hr (fun tt9 ht hW => ⟨⟨((d0_j1 : Nat → Int32), (d1_j1 : Nat → Int32), (d2_j1 : Nat → Int32), (sch_j1 : Int32)), rfl, (lf_X0_take_t_4 a dm d0 d1 d2 sn sk scu sch g0 g1 g3 x1 n2 n3 n4 hdm hx1 hsn hsk j1 d0_j1 d1_j1 d2_j1 sch_j1 k3 hj3 hk3 hrj1 c_1 n_2), ⟨by rw [ht]; exact hP, hD⟩⟩, hS.F ht⟩) hS.2.2 dX0_take_145 hlocks
      · have n_5 : j1 < sn := (lf_X0_take_t_6 a dm d0 d1 d2 sn sk scu sch g0 g1 g3 x1 n2 n3 n4 hdm hx1 hsn hsk j1 d0_j1 d1_j1 d2_j1 sch_j1 k3 hj3 hk3 hrj1 c_1)
        refine lv_iconst (v := 0) hx hb dX0_take_15 (by decide) ?_
        refine lv_istore (lv' := [(6, .int 0), (5, .int (nI j1)), (0, .ref (a 6)), (1, .int (nI x1)), (2, .int n2), (3, .int n3), (4, .int n4)]) hx hb dX0_take_16 hl (by decide) rfl (fun ls hl => ?_)
        have lp18 : ∀ (k18 : Nat) (j2 : Nat) (d0_j2 : Nat → Int32) (d1_j2 : Nat → Int32) (d2_j2 : Nat → Int32) (sch_j2 : Int32) (H : Heap) (locs : List Loc) (ls : Array Slot), j2 ≤ sk → sk < j2 + k18 → (((d0_j2, d1_j2, d2_j2, sch_j2) : D4T) = dr2 g0 g1 g3 scu x1 n2 n3 n4 j1 (dr1 g0 g1 g3 scu x1 n2 n3 n4 sk (d0, d1, d2, sch) j1) j2) → va_P D vwCl [(a 6, .inr (0, [.ref (a 5), .ref (a 25), .ref (a 26), .ref (a 27), .ref (a 28), .ref (a 29), .int (nI dm)])), (a 25, .inl (cI, 1536, .inl d0_j2)), (a 26, .inl (cI, 1536, .inl d1_j2)), (a 27, .inl (cZ, 1536, .inl d2_j2)), (a 5, .inr (4, [.ref (a 18), .ref (a 19), .ref (a 20), .ref (a 21), .ref (a 22), .ref (a 23), .ref (a 24), .int (nI sn), .int (nI sk), .int scu, .int sch_j2])), (a 18, .inl (cI, 384, .inl g0)), (a 19, .inl (cI, 384, .inl g1)), (a 21, .inl (cZ, 384, .inl g3))] H → va_D A [(a 6, .inr (0, [.ref (a 5), .ref (a 25), .ref (a 26), .ref (a 27), .ref (a 28), .ref (a 29), .int (nI dm)])), (a 25, .inl (cI, 1536, .inl d0_j2)), (a 26, .inl (cI, 1536, .inl d1_j2)), (a 27, .inl (cZ, 1536, .inl d2_j2)), (a 5, .inr (4, [.ref (a 18), .ref (a 19), .ref (a 20), .ref (a 21), .ref (a 22), .ref (a 23), .ref (a 24), .int (nI sn), .int (nI sk), .int scu, .int sch_j2])), (a 18, .inl (cI, 384, .inl g0)), (a 19, .inl (cI, 384, .inl g1)), (a 21, .inl (cZ, 384, .inl g3))] → va_S A s.heap H locs → lv_has ls 10 [(6, .int (nI j2)), (5, .int (nI j1)), (0, .ref (a 6)), (1, .int (nI x1)), (2, .int n2), (3, .int n3), (4, .int n4)] → W p l e (rmX 3 0 0) s m ([.ref (a 6), .int (nI x1), .int n2, .int n3, .int n4] : List Value).toArray below meth c H locs 0 0 Q (F0 m 18 ls []) := by
          intro k18
          induction k18 with
          | zero =>
            intro j2 d0_j2 d1_j2 d2_j2 sch_j2 H locs ls hj18 hk18 hrj2 hP hD hS hl
            exact absurd hk18 (by omega)
          | succ k18 ih18 =>
            intro j2 d0_j2 d1_j2 d2_j2 sch_j2 H locs ls hj18 hk18 hrj2 hP hD hS hl
            refine lv_iload hx hb dX0_take_18 (lv_at hl 0 rfl) ?_
            refine lv_aload_n hx hb dX0_take_20 rfl (lv_at hl 2 rfl) ?_
            refine va_get (D := D) (ci := 0) (v := .ref (a 5)) (C := RX0) (T := TX0) (N := 7) hx hb hts inT_X0 hown hK.1 hP 0 rfl rfl 0 (by decide) (hts _ k_294) (fun _ h9 => h9) rfl dX0_take_21 ?_
            refine va_getN (D := D) (ci := 4) (v := .int (nI sk)) (C := RX4) (T := TX4) (N := 11) hx hb hts inT_X4 hown hK.1 hP 4 rfl rfl 8 (by decide) (va_Nw.use rfl (hK.2.2.1 _ n_259)) (fun _ h9 => h9) rfl dX0_take_24 ?_
            refine lv_icmp_ge (tgt := 139) hx hb dX0_take_27 (by decide) (fun c_7 => ?_) (fun c_7 => ?_)
            · have n_8 : sk ≤ j2 := (lf_X0_take_t_9 a dm d0 d1 d2 sn sk scu sch g0 g1 g3 x1 n2 n3 n4 hdm hx1 hsn hsk j1 d0_j1 d1_j1 d2_j1 sch_j1 k3 hj3 hk3 hrj1 c_1 n_5 j2 d0_j2 d1_j2 d2_j2 sch_j2 k18 hj18 hk18 hrj2 c_7)
              refine lv_iinc (v := nI (j1 + 1)) (lv' := [(5, .int (nI (j1 + 1))), (6, .int (nI j2)), (0, .ref (a 6)), (1, .int (nI x1)), (2, .int n2), (3, .int n3), (4, .int n4)]) hx hb dX0_take_139 hl (k := 1) rfl (nI_1 j1) (by decide) rfl (fun ls hl => ?_)
              refine lv_goto (tgt := 3) hx hb dX0_take_142 (by decide) ?_
              exact ih3 (j1 + 1) d0_j2 d1_j2 d2_j2 sch_j2 H locs ls (by omega) (by omega) (lf_X0_take_t_10 a dm d0 d1 d2 sn sk scu sch g0 g1 g3 x1 n2 n3 n4 hdm hx1 hsn hsk j1 d0_j1 d1_j1 d2_j1 sch_j1 k3 hj3 hk3 hrj1 c_1 n_5 j2 d0_j2 d1_j2 d2_j2 sch_j2 k18 hj18 hk18 hrj2 c_7 n_8) (hP.sub [0, 1, 2, 3, 4, 5, 6, 7] rfl) (hD.sub [0, 1, 2, 3, 4, 5, 6, 7] (by decide) rfl) hS (lv_sub hl [0, 2, 3, 4, 5, 6] rfl)
            · have n_11 : j2 < sk := (lf_X0_take_t_12 a dm d0 d1 d2 sn sk scu sch g0 g1 g3 x1 n2 n3 n4 hdm hx1 hsn hsk j1 d0_j1 d1_j1 d2_j1 sch_j1 k3 hj3 hk3 hrj1 c_1 n_5 j2 d0_j2 d1_j2 d2_j2 sch_j2 k18 hj18 hk18 hrj2 c_7)
              refine lv_iconst (v := 0) hx hb dX0_take_30 (by decide) ?_
              refine lv_istore (lv' := [(7, .int 0), (6, .int (nI j2)), (5, .int (nI j1)), (0, .ref (a 6)), (1, .int (nI x1)), (2, .int n2), (3, .int n3), (4, .int n4)]) hx hb dX0_take_31 hl (by decide) rfl (fun ls hl => ?_)
              have lp33 : ∀ (k33 : Nat) (j3 : Nat) (d0_j3 : Nat → Int32) (d1_j3 : Nat → Int32) (d2_j3 : Nat → Int32) (sch_j3 : Int32) (H : Heap) (locs : List Loc) (ls : Array Slot), j3 ≤ 2 → 2 < j3 + k33 → (((d0_j3, d1_j3, d2_j3, sch_j3) : D4T) = dr3 g0 g1 g3 scu x1 n2 n3 n4 j1 j2 (dr2 g0 g1 g3 scu x1 n2 n3 n4 j1 (dr1 g0 g1 g3 scu x1 n2 n3 n4 sk (d0, d1, d2, sch) j1) j2) j3) → va_P D vwCl [(a 6, .inr (0, [.ref (a 5), .ref (a 25), .ref (a 26), .ref (a 27), .ref (a 28), .ref (a 29), .int (nI dm)])), (a 25, .inl (cI, 1536, .inl d0_j3)), (a 26, .inl (cI, 1536, .inl d1_j3)), (a 27, .inl (cZ, 1536, .inl d2_j3)), (a 5, .inr (4, [.ref (a 18), .ref (a 19), .ref (a 20), .ref (a 21), .ref (a 22), .ref (a 23), .ref (a 24), .int (nI sn), .int (nI sk), .int scu, .int sch_j3])), (a 18, .inl (cI, 384, .inl g0)), (a 19, .inl (cI, 384, .inl g1)), (a 21, .inl (cZ, 384, .inl g3))] H → va_D A [(a 6, .inr (0, [.ref (a 5), .ref (a 25), .ref (a 26), .ref (a 27), .ref (a 28), .ref (a 29), .int (nI dm)])), (a 25, .inl (cI, 1536, .inl d0_j3)), (a 26, .inl (cI, 1536, .inl d1_j3)), (a 27, .inl (cZ, 1536, .inl d2_j3)), (a 5, .inr (4, [.ref (a 18), .ref (a 19), .ref (a 20), .ref (a 21), .ref (a 22), .ref (a 23), .ref (a 24), .int (nI sn), .int (nI sk), .int scu, .int sch_j3])), (a 18, .inl (cI, 384, .inl g0)), (a 19, .inl (cI, 384, .inl g1)), (a 21, .inl (cZ, 384, .inl g3))] → va_S A s.heap H locs → lv_has ls 10 [(7, .int (nI j3)), (6, .int (nI j2)), (5, .int (nI j1)), (0, .ref (a 6)), (1, .int (nI x1)), (2, .int n2), (3, .int n3), (4, .int n4)] → W p l e (rmX 3 0 0) s m ([.ref (a 6), .int (nI x1), .int n2, .int n3, .int n4] : List Value).toArray below meth c H locs 0 0 Q (F0 m 33 ls []) := by
                intro k33
                induction k33 with
                | zero =>
                  intro j3 d0_j3 d1_j3 d2_j3 sch_j3 H locs ls hj33 hk33 hrj3 hP hD hS hl
                  exact absurd hk33 (by omega)
                | succ k33 ih33 =>
                  intro j3 d0_j3 d1_j3 d2_j3 sch_j3 H locs ls hj33 hk33 hrj3 hP hD hS hl
                  refine lv_iload hx hb dX0_take_33 (lv_at hl 0 rfl) ?_
                  refine lv_iconst (v := 2) hx hb dX0_take_35 (by decide) ?_
                  refine lv_icmp_ge (tgt := 133) hx hb dX0_take_36 (by decide) (fun c_13 => ?_) (fun c_13 => ?_)
                  · have n_14 : 2 ≤ j3 := (lf_X0_take_t_15 a dm d0 d1 d2 sn sk scu sch g0 g1 g3 x1 n2 n3 n4 hdm hx1 hsn hsk j1 d0_j1 d1_j1 d2_j1 sch_j1 k3 hj3 hk3 hrj1 c_1 n_5 j2 d0_j2 d1_j2 d2_j2 sch_j2 k18 hj18 hk18 hrj2 c_7 n_11 j3 d0_j3 d1_j3 d2_j3 sch_j3 k33 hj33 hk33 hrj3 c_13)
                    refine lv_iinc (v := nI (j2 + 1)) (lv' := [(6, .int (nI (j2 + 1))), (7, .int (nI j3)), (5, .int (nI j1)), (0, .ref (a 6)), (1, .int (nI x1)), (2, .int n2), (3, .int n3), (4, .int n4)]) hx hb dX0_take_133 hl (k := 1) rfl (nI_1 j2) (by decide) rfl (fun ls hl => ?_)
                    refine lv_goto (tgt := 18) hx hb dX0_take_136 (by decide) ?_
                    exact ih18 (j2 + 1) d0_j3 d1_j3 d2_j3 sch_j3 H locs ls (by omega) (by omega) (lf_X0_take_t_16 a dm d0 d1 d2 sn sk scu sch g0 g1 g3 x1 n2 n3 n4 hdm hx1 hsn hsk j1 d0_j1 d1_j1 d2_j1 sch_j1 k3 hj3 hk3 hrj1 c_1 n_5 j2 d0_j2 d1_j2 d2_j2 sch_j2 k18 hj18 hk18 hrj2 c_7 n_11 j3 d0_j3 d1_j3 d2_j3 sch_j3 k33 hj33 hk33 hrj3 c_13 n_14) (hP.sub [0, 1, 2, 3, 4, 5, 6, 7] rfl) (hD.sub [0, 1, 2, 3, 4, 5, 6, 7] (by decide) rfl) hS (lv_sub hl [0, 2, 3, 4, 5, 6, 7] rfl)
                  · have n_17 : j3 < 2 := (lf_X0_take_t_18 a dm d0 d1 d2 sn sk scu sch g0 g1 g3 x1 n2 n3 n4 hdm hx1 hsn hsk j1 d0_j1 d1_j1 d2_j1 sch_j1 k3 hj3 hk3 hrj1 c_1 n_5 j2 d0_j2 d1_j2 d2_j2 sch_j2 k18 hj18 hk18 hrj2 c_7 n_11 j3 d0_j3 d1_j3 d2_j3 sch_j3 k33 hj33 hk33 hrj3 c_13)
                    refine lv_aload_n hx hb dX0_take_39 rfl (lv_at hl 3 rfl) ?_
                    refine va_get (D := D) (ci := 0) (v := .ref (a 5)) (C := RX0) (T := TX0) (N := 7) hx hb hts inT_X0 hown hK.1 hP 0 rfl rfl 0 (by decide) (hts _ k_294) (fun _ h9 => h9) rfl dX0_take_40 ?_
                    refine lv_iload hx hb dX0_take_43 (lv_at hl 2 rfl) ?_
                    refine lv_iload hx hb dX0_take_45 (lv_at hl 1 rfl) ?_
                    refine lv_iload hx hb dX0_take_47 (lv_at hl 0 rfl) ?_
                    refine eRi (va_runV (As := [.int (nI j1), .int (nI j2), .int (nI j3)]) (rest := []) ⟨hx, hb, hml, hown, hts⟩ (c_X4_rivetAt_g l D cI cB cZ cJ tx a sn sk scu sch_j3 j1 j2 j3 (lf_X0_take_t_19 a dm d0 d1 d2 sn sk scu sch g0 g1 g3 x1 n2 n3 n4 hdm hx1 hsn hsk j1 d0_j1 d1_j1 d2_j1 sch_j1 k3 hj3 hk3 hrj1 c_1 n_5 j2 d0_j2 d1_j2 d2_j2 sch_j2 k18 hj18 hk18 hrj2 c_7 n_11 j3 d0_j3 d1_j3 d2_j3 sch_j3 k33 hj33 hk33 hrj3 c_13 n_17) (lf_X0_take_t_20 a dm d0 d1 d2 sn sk scu sch g0 g1 g3 x1 n2 n3 n4 hdm hx1 hsn hsk j1 d0_j1 d1_j1 d2_j1 sch_j1 k3 hj3 hk3 hrj1 c_1 n_5 j2 d0_j2 d1_j2 d2_j2 sch_j2 k18 hj18 hk18 hrj2 c_7 n_11 j3 d0_j3 d1_j3 d2_j3 sch_j3 k33 hj33 hk33 hrj3 c_13 n_17) (lf_X0_take_t_21 a dm d0 d1 d2 sn sk scu sch g0 g1 g3 x1 n2 n3 n4 hdm hx1 hsn hsk j1 d0_j1 d1_j1 d2_j1 sch_j1 k3 hj3 hk3 hrj1 c_1 n_5 j2 d0_j2 d1_j2 d2_j2 sch_j2 k18 hj18 hk18 hrj2 c_7 n_11 j3 d0_j3 d1_j3 d2_j3 sch_j3 k33 hj33 hk33 hrj3 c_13 n_17) (lf_X0_take_t_22 a dm d0 d1 d2 sn sk scu sch g0 g1 g3 x1 n2 n3 n4 hdm hx1 hsn hsk j1 d0_j1 d1_j1 d2_j1 sch_j1 k3 hj3 hk3 hrj1 c_1 n_5 j2 d0_j2 d1_j2 d2_j2 sch_j2 k18 hj18 hk18 hrj2 c_7 n_11 j3 d0_j3 d1_j3 d2_j3 sch_j3 k33 hj33 hk33 hrj3 c_13 n_17) (lf_X0_take_t_23 a dm d0 d1 d2 sn sk scu sch g0 g1 g3 x1 n2 n3 n4 hdm hx1 hsn hsk j1 d0_j1 d1_j1 d2_j1 sch_j1 k3 hj3 hk3 hrj1 c_1 n_5 j2 d0_j2 d1_j2 d2_j2 sch_j2 k18 hj18 hk18 hrj2 c_7 n_11 j3 d0_j3 d1_j3 d2_j3 sch_j3 k33 hj33 hk33 hrj3 c_13 n_17) H.size) (zV hts k_916 v_X4_rivetAt ⟨Nat.le_of_ble_eq_true rfl, Nat.le_of_ble_eq_true rfl⟩) (pV (px1 hK hP 4 rfl) hK hP 4 rfl rfl) rfl rfl hl.1 rfl (lv_room (Nat.le_of_ble_eq_true rfl)) dX0_take_49 ⟨Nat.le_of_ble_eq_true rfl, Nat.le_of_ble_eq_true rfl⟩) hP hS hA (fun r_24 H locs wr_24 hP hS => ?_)
                    subst wr_24
                    refine lv_istore (lv' := [(8, .int (nI ((j1 * 8 + j2) * 2 + j3))), (7, .int (nI j3)), (6, .int (nI j2)), (5, .int (nI j1)), (0, .ref (a 6)), (1, .int (nI x1)), (2, .int n2), (3, .int n3), (4, .int n4)]) hx hb dX0_take_52 hl (by decide) rfl (fun ls hl => ?_)
                    refine lv_iload hx hb dX0_take_54 (lv_at hl 0 rfl) ?_
                    refine lv_if_lt (tgt := 127) hx hb dX0_take_56 (by decide) (fun c => absurd c (lf_X0_take_t_25 a dm d0 d1 d2 sn sk scu sch g0 g1 g3 x1 n2 n3 n4 hdm hx1 hsn hsk j1 d0_j1 d1_j1 d2_j1 sch_j1 k3 hj3 hk3 hrj1 c_1 n_5 j2 d0_j2 d1_j2 d2_j2 sch_j2 k18 hj18 hk18 hrj2 c_7 n_11 j3 d0_j3 d1_j3 d2_j3 sch_j3 k33 hj33 hk33 hrj3 c_13 n_17)) (fun _ => ?_)
                    refine lv_aload_n hx hb dX0_take_59 rfl (lv_at hl 4 rfl) ?_
                    refine va_get (D := D) (ci := 0) (v := .ref (a 5)) (C := RX0) (T := TX0) (N := 7) hx hb hts inT_X0 hown hK.1 hP 0 rfl rfl 0 (by decide) (hts _ k_294) (fun _ h9 => h9) rfl dX0_take_60 ?_
                    refine lv_iload hx hb dX0_take_63 (lv_at hl 0 rfl) ?_
                    refine lv_iload hx hb dX0_take_65 (lv_at hl 3 rfl) ?_
                    refine eRi (va_runV (As := [.int (nI ((j1 * 8 + j2) * 2 + j3)), .int (nI j1)]) (rest := []) ⟨hx, hb, hml, hown, hts⟩ (c_X4_isSeen_t l D cI cB cZ cJ tx a sn sk scu sch_j3 g3 ((j1 * 8 + j2) * 2 + j3) j1 (lf_X0_take_t_26 a dm d0 d1 d2 sn sk scu sch g0 g1 g3 x1 n2 n3 n4 hdm hx1 hsn hsk j1 d0_j1 d1_j1 d2_j1 sch_j1 k3 hj3 hk3 hrj1 c_1 n_5 j2 d0_j2 d1_j2 d2_j2 sch_j2 k18 hj18 hk18 hrj2 c_7 n_11 j3 d0_j3 d1_j3 d2_j3 sch_j3 k33 hj33 hk33 hrj3 c_13 n_17) (lf_X0_take_t_27 a dm d0 d1 d2 sn sk scu sch g0 g1 g3 x1 n2 n3 n4 hdm hx1 hsn hsk j1 d0_j1 d1_j1 d2_j1 sch_j1 k3 hj3 hk3 hrj1 c_1 n_5 j2 d0_j2 d1_j2 d2_j2 sch_j2 k18 hj18 hk18 hrj2 c_7 n_11 j3 d0_j3 d1_j3 d2_j3 sch_j3 k33 hj33 hk33 hrj3 c_13 n_17) H.size) (zV hts k_917 v_X4_isSeen ⟨Nat.le_of_ble_eq_true rfl, Nat.le_of_ble_eq_true rfl⟩) (pV (pxS hK hP hD [4, 7] (by decide) rfl) hK hP 4 rfl rfl) rfl rfl hl.1 rfl (lv_room (Nat.le_of_ble_eq_true rfl)) dX0_take_67 ⟨Nat.le_of_ble_eq_true rfl, Nat.le_of_ble_eq_true rfl⟩) hP hS hA (fun r_28 H locs wr_28 hP hS => ?_)
                    rcases wr_28 with ⟨rfl, his28⟩ | ⟨rfl, his28⟩
                    · refine lv_if_eq (tgt := 127) hx hb dX0_take_70 (by decide) (fun _ => ?_) (fun c => absurd c (by decide))
                      refine lv_iinc (v := nI (j3 + 1)) (lv' := [(7, .int (nI (j3 + 1))), (8, .int (nI ((j1 * 8 + j2) * 2 + j3))), (6, .int (nI j2)), (5, .int (nI j1)), (0, .ref (a 6)), (1, .int (nI x1)), (2, .int n2), (3, .int n3), (4, .int n4)]) hx hb dX0_take_127 hl (k := 1) rfl (nI_1 j3) (by decide) rfl (fun ls hl => ?_)
                      refine lv_goto (tgt := 33) hx hb dX0_take_130 (by decide) ?_
                      exact ih33 (j3 + 1) d0_j3 d1_j3 d2_j3 sch_j3 H locs ls (by omega) (by omega) (lf_X0_take_t_29 a dm d0 d1 d2 sn sk scu sch g0 g1 g3 x1 n2 n3 n4 hdm hx1 hsn hsk j1 d0_j1 d1_j1 d2_j1 sch_j1 k3 hj3 hk3 hrj1 c_1 n_5 j2 d0_j2 d1_j2 d2_j2 sch_j2 k18 hj18 hk18 hrj2 c_7 n_11 j3 d0_j3 d1_j3 d2_j3 sch_j3 k33 hj33 hk33 hrj3 c_13 n_17 his28) (hP.sub [0, 1, 2, 3, 4, 5, 6, 7] rfl) (hD.sub [0, 1, 2, 3, 4, 5, 6, 7] (by decide) rfl) hS (lv_sub hl [0, 2, 3, 4, 5, 6, 7, 8] rfl)
                    · refine lv_if_eq (tgt := 127) hx hb dX0_take_70 (by decide) (fun c => absurd c (by decide)) (fun _ => ?_)
                      refine lv_aload_n hx hb dX0_take_73 rfl (lv_at hl 4 rfl) ?_
                      refine va_get (D := D) (ci := 0) (v := .ref (a 5)) (C := RX0) (T := TX0) (N := 7) hx hb hts inT_X0 hown hK.1 hP 0 rfl rfl 0 (by decide) (hts _ k_294) (fun _ h9 => h9) rfl dX0_take_74 ?_
                      refine eWiP (va_runV (As := []) (rest := []) ⟨hx, hb, hml, hown, hts⟩ (c_X4_luck_t l D cI cB cZ cJ tx a sn sk scu sch_j3 H.size) (zV hts k_918 v_X4_luck ⟨Nat.le_of_ble_eq_true rfl, Nat.le_of_ble_eq_true rfl⟩) (pV (pxS hK hP hD [4] (by decide) rfl) hK hP 4 rfl rfl) rfl rfl hl.1 rfl (lv_room (Nat.le_of_ble_eq_true rfl)) dX0_take_77 ⟨Nat.le_of_ble_eq_true rfl, Nat.le_of_ble_eq_true rfl⟩) hP hD hS hA [4] [none, none, none, none, some 0, none, none, none] rfl (by decide +kernel) (fun _ => rfl) (fun r_30 u_31 H locs wr_30 hP hD hS => ?_)
                      obtain ⟨sch_31, rfl⟩ : ∃ z, z = u_31 := ⟨_, rfl⟩
                      have hz_31_0 : sch_31 = dwM sch_j3 := wr_30.2
                      have hPD := pd_mk (ws := [(a 6, .inr (0, [.ref (a 5), .ref (a 25), .ref (a 26), .ref (a 27), .ref (a 28), .ref (a 29), .int (nI dm)])), (a 25, .inl (cI, 1536, .inl d0_j3)), (a 26, .inl (cI, 1536, .inl d1_j3)), (a 27, .inl (cZ, 1536, .inl d2_j3)), (a 5, .inr (4, [.ref (a 18), .ref (a 19), .ref (a 20), .ref (a 21), .ref (a 22), .ref (a 23), .ref (a 24), .int (nI sn), .int (nI sk), .int scu, .int sch_31])), (a 18, .inl (cI, 384, .inl g0)), (a 19, .inl (cI, 384, .inl g1)), (a 21, .inl (cZ, 384, .inl g3))]) hP hD
                      have hP := hPD.1
                      have hD := hPD.2
                      rcases wr_30 with ⟨hlk31, _⟩
                      · refine lv_iload hx hb dX0_take_80 (lv_at hl 8 rfl) ?_
                        refine lv_icmp_ge (tgt := 90) hx hb dX0_take_82 (by decide) (fun c_32 => ?_) (fun c_32 => ?_)
                        · refine lv_iconst (v := 0) hx hb dX0_take_90 (by decide) ?_
                          refine lv_istore (lv' := [(9, .int 0), (8, .int (nI ((j1 * 8 + j2) * 2 + j3))), (7, .int (nI j3)), (6, .int (nI j2)), (5, .int (nI j1)), (0, .ref (a 6)), (1, .int (nI x1)), (2, .int n2), (3, .int n3), (4, .int n4)]) hx hb dX0_take_91 hl (by decide) rfl (fun ls hl => ?_)
                          refine lv_aload_n hx hb dX0_take_93 rfl (lv_at hl 5 rfl) ?_
                          refine lv_iload_n hx hb dX0_take_94 rfl (lv_at hl 6 rfl) ?_
                          refine lv_iload hx hb dX0_take_95 (lv_at hl 1 rfl) ?_
                          refine lv_aload_n hx hb dX0_take_97 rfl (lv_at hl 5 rfl) ?_
                          refine va_get (D := D) (ci := 0) (v := .ref (a 5)) (C := RX0) (T := TX0) (N := 7) hx hb hts inT_X0 hown hK.1 hP 0 rfl rfl 0 (by decide) (hts _ k_294) (fun _ h9 => h9) rfl dX0_take_98 ?_
                          refine va_getN (D := D) (ci := 4) (v := .ref (a 18)) (C := RX4) (T := TX4) (N := 11) hx hb hts inT_X4 hown hK.1 hP 4 rfl rfl 0 (by decide) (va_Nw.use rfl (hK.2.2.1 _ n_233)) (fun _ h9 => h9) rfl dX0_take_101 ?_
                          refine lv_iload hx hb dX0_take_104 (lv_at hl 1 rfl) ?_
                          refine lt_i (j := ((j1 * 8 + j2) * 2 + j3)) hx hb hK hP 5 rfl (lf_X0_take_t_33 a dm d0 d1 d2 sn sk scu sch g0 g1 g3 x1 n2 n3 n4 hdm hx1 hsn hsk j1 d0_j1 d1_j1 d2_j1 sch_j1 k3 hj3 hk3 hrj1 c_1 n_5 j2 d0_j2 d1_j2 d2_j2 sch_j2 k18 hj18 hk18 hrj2 c_7 n_11 j3 d0_j3 d1_j3 d2_j3 sch_j3 k33 hj33 hk33 hrj3 c_13 n_17 his28 sch_31 hz_31_0 r_30 hlk31 c_32) (by decide) dX0_take_106 ?_
                          refine lv_iload_n hx hb dX0_take_107 rfl (lv_at hl 7 rfl) ?_
                          refine lv_iadd hx hb dX0_take_108 ?_
                          refine lv_topi (fun x_34 ex_34 => ?_)
                          refine lv_iload hx hb dX0_take_109 (lv_at hl 0 rfl) ?_
                          refine lv_iadd hx hb dX0_take_111 ?_
                          refine lv_topi (fun x_35 ex_35 => ?_)
                          refine lv_aload_n hx hb dX0_take_112 rfl (lv_at hl 5 rfl) ?_
                          refine va_get (D := D) (ci := 0) (v := .ref (a 5)) (C := RX0) (T := TX0) (N := 7) hx hb hts inT_X0 hown hK.1 hP 0 rfl rfl 0 (by decide) (hts _ k_294) (fun _ h9 => h9) rfl dX0_take_113 ?_
                          refine va_getN (D := D) (ci := 4) (v := .ref (a 19)) (C := RX4) (T := TX4) (N := 11) hx hb hts inT_X4 hown hK.1 hP 4 rfl rfl 1 (by decide) (va_Nw.use rfl (hK.2.2.1 _ n_236)) (fun _ h9 => h9) rfl dX0_take_116 ?_
                          refine lv_iload hx hb dX0_take_119 (lv_at hl 1 rfl) ?_
                          refine lt_i (j := ((j1 * 8 + j2) * 2 + j3)) hx hb hK hP 6 rfl (lf_X0_take_t_36 a dm d0 d1 d2 sn sk scu sch g0 g1 g3 x1 n2 n3 n4 hdm hx1 hsn hsk j1 d0_j1 d1_j1 d2_j1 sch_j1 k3 hj3 hk3 hrj1 c_1 n_5 j2 d0_j2 d1_j2 d2_j2 sch_j2 k18 hj18 hk18 hrj2 c_7 n_11 j3 d0_j3 d1_j3 d2_j3 sch_j3 k33 hj33 hk33 hrj3 c_13 n_17 his28 sch_31 hz_31_0 r_30 hlk31 c_32 x_34 ex_34 x_35 ex_35) (by decide) dX0_take_121 ?_
                          refine lv_iload_n hx hb dX0_take_122 rfl (lv_at hl 8 rfl) ?_
                          refine lv_iadd hx hb dX0_take_123 ?_
                          refine lv_topi (fun x_37 ex_37 => ?_)
                          refine eWvP (va_runV (As := [.int (nI x1), .int (nI ((j1 * 8 + j2) * 2 + j3)), .int x_35, .int x_37]) (rest := []) ⟨hx, hb, hml, hown, hts⟩ (c_X0_put_t l D cI cB cZ cJ tx a dm d0_j3 d1_j3 d2_j3 x1 ((j1 * 8 + j2) * 2 + j3) x_35 x_37 (lf_X0_take_t_38 a dm d0 d1 d2 sn sk scu sch g0 g1 g3 x1 n2 n3 n4 hdm hx1 hsn hsk j1 d0_j1 d1_j1 d2_j1 sch_j1 k3 hj3 hk3 hrj1 c_1 n_5 j2 d0_j2 d1_j2 d2_j2 sch_j2 k18 hj18 hk18 hrj2 c_7 n_11 j3 d0_j3 d1_j3 d2_j3 sch_j3 k33 hj33 hk33 hrj3 c_13 n_17 his28 sch_31 hz_31_0 r_30 hlk31 c_32 x_34 ex_34 x_35 ex_35 x_37 ex_37) (lf_X0_take_t_39 a dm d0 d1 d2 sn sk scu sch g0 g1 g3 x1 n2 n3 n4 hdm hx1 hsn hsk j1 d0_j1 d1_j1 d2_j1 sch_j1 k3 hj3 hk3 hrj1 c_1 n_5 j2 d0_j2 d1_j2 d2_j2 sch_j2 k18 hj18 hk18 hrj2 c_7 n_11 j3 d0_j3 d1_j3 d2_j3 sch_j3 k33 hj33 hk33 hrj3 c_13 n_17 his28 sch_31 hz_31_0 r_30 hlk31 c_32 x_34 ex_34 x_35 ex_35 x_37 ex_37) H.size) (zV hts k_919 v_X0_put ⟨Nat.le_of_ble_eq_true rfl, Nat.le_of_ble_eq_true rfl⟩) (pV (pxS hK hP hD [0, 1, 2, 3] (by decide) rfl) hK hP 0 rfl rfl) rfl rfl hl.1 rfl (lv_room (Nat.le_of_ble_eq_true rfl)) dX0_take_124 ⟨Nat.le_of_ble_eq_true rfl, Nat.le_of_ble_eq_true rfl⟩) hP hD hS hA [0, 1, 2, 3] [some 0, some 1, some 2, some 3, none, none, none, none] rfl (by decide +kernel) (fun _ => rfl) (fun u_41 H locs wr_40 hP hD hS => ?_)
                          obtain ⟨d0_41, d1_41, d2_41⟩ := u_41
                          have hz_41_0 : d0_41 = upd d0_j3 (384 * x1 + (((j1 * 8 + j2) * 2 + j3))) x_35 := wr_40.1
                          have hz_41_1 : d1_41 = upd d1_j3 (384 * x1 + (((j1 * 8 + j2) * 2 + j3))) x_37 := wr_40.2.1
                          have hz_41_2 : d2_41 = upd d2_j3 (384 * x1 + (((j1 * 8 + j2) * 2 + j3))) (vp_nar .boolean 1) := wr_40.2.2
                          have hPD := pd_mk (ws := [(a 6, .inr (0, [.ref (a 5), .ref (a 25), .ref (a 26), .ref (a 27), .ref (a 28), .ref (a 29), .int (nI dm)])), (a 25, .inl (cI, 1536, .inl d0_41)), (a 26, .inl (cI, 1536, .inl d1_41)), (a 27, .inl (cZ, 1536, .inl d2_41)), (a 5, .inr (4, [.ref (a 18), .ref (a 19), .ref (a 20), .ref (a 21), .ref (a 22), .ref (a 23), .ref (a 24), .int (nI sn), .int (nI sk), .int scu, .int sch_31])), (a 18, .inl (cI, 384, .inl g0)), (a 19, .inl (cI, 384, .inl g1)), (a 21, .inl (cZ, 384, .inl g3))]) hP hD
                          have hP := hPD.1
                          have hD := hPD.2
                          refine lv_iinc (v := nI (j3 + 1)) (lv' := [(7, .int (nI (j3 + 1))), (9, .int 0), (8, .int (nI ((j1 * 8 + j2) * 2 + j3))), (6, .int (nI j2)), (5, .int (nI j1)), (0, .ref (a 6)), (1, .int (nI x1)), (2, .int n2), (3, .int n3), (4, .int n4)]) hx hb dX0_take_127 hl (k := 2) rfl (nI_1 j3) (by decide) rfl (fun ls hl => ?_)
                          refine lv_goto (tgt := 33) hx hb dX0_take_130 (by decide) ?_
                          exact ih33 (j3 + 1) d0_41 d1_41 d2_41 sch_31 H locs ls (by omega) (by omega) (lf_X0_take_t_42 a dm d0 d1 d2 sn sk scu sch g0 g1 g3 x1 n2 n3 n4 hdm hx1 hsn hsk j1 d0_j1 d1_j1 d2_j1 sch_j1 k3 hj3 hk3 hrj1 c_1 n_5 j2 d0_j2 d1_j2 d2_j2 sch_j2 k18 hj18 hk18 hrj2 c_7 n_11 j3 d0_j3 d1_j3 d2_j3 sch_j3 k33 hj33 hk33 hrj3 c_13 n_17 his28 sch_31 hz_31_0 r_30 hlk31 c_32 x_34 ex_34 x_35 ex_35 x_37 ex_37 d0_41 d1_41 d2_41 hz_41_0 hz_41_1 hz_41_2) (hP.sub [0, 1, 2, 3, 4, 5, 6, 7] rfl) (hD.sub [0, 1, 2, 3, 4, 5, 6, 7] (by decide) rfl) hS (lv_sub hl [0, 3, 4, 5, 6, 7, 8, 9] rfl)
                        · refine lv_bipush (v := 50) hx hb dX0_take_85 (by decide) ?_
                          refine lv_goto (tgt := 91) hx hb dX0_take_87 (by decide) ?_
                          refine lv_istore (lv' := [(9, .int 50), (8, .int (nI ((j1 * 8 + j2) * 2 + j3))), (7, .int (nI j3)), (6, .int (nI j2)), (5, .int (nI j1)), (0, .ref (a 6)), (1, .int (nI x1)), (2, .int n2), (3, .int n3), (4, .int n4)]) hx hb dX0_take_91 hl (by decide) rfl (fun ls hl => ?_)
                          refine lv_aload_n hx hb dX0_take_93 rfl (lv_at hl 5 rfl) ?_
                          refine lv_iload_n hx hb dX0_take_94 rfl (lv_at hl 6 rfl) ?_
                          refine lv_iload hx hb dX0_take_95 (lv_at hl 1 rfl) ?_
                          refine lv_aload_n hx hb dX0_take_97 rfl (lv_at hl 5 rfl) ?_
                          refine va_get (D := D) (ci := 0) (v := .ref (a 5)) (C := RX0) (T := TX0) (N := 7) hx hb hts inT_X0 hown hK.1 hP 0 rfl rfl 0 (by decide) (hts _ k_294) (fun _ h9 => h9) rfl dX0_take_98 ?_
                          refine va_getN (D := D) (ci := 4) (v := .ref (a 18)) (C := RX4) (T := TX4) (N := 11) hx hb hts inT_X4 hown hK.1 hP 4 rfl rfl 0 (by decide) (va_Nw.use rfl (hK.2.2.1 _ n_233)) (fun _ h9 => h9) rfl dX0_take_101 ?_
                          refine lv_iload hx hb dX0_take_104 (lv_at hl 1 rfl) ?_
                          refine lt_i (j := ((j1 * 8 + j2) * 2 + j3)) hx hb hK hP 5 rfl (lf_X0_take_t_43 a dm d0 d1 d2 sn sk scu sch g0 g1 g3 x1 n2 n3 n4 hdm hx1 hsn hsk j1 d0_j1 d1_j1 d2_j1 sch_j1 k3 hj3 hk3 hrj1 c_1 n_5 j2 d0_j2 d1_j2 d2_j2 sch_j2 k18 hj18 hk18 hrj2 c_7 n_11 j3 d0_j3 d1_j3 d2_j3 sch_j3 k33 hj33 hk33 hrj3 c_13 n_17 his28 sch_31 hz_31_0 r_30 hlk31 c_32) (by decide) dX0_take_106 ?_
                          refine lv_iload_n hx hb dX0_take_107 rfl (lv_at hl 7 rfl) ?_
                          refine lv_iadd hx hb dX0_take_108 ?_
                          refine lv_topi (fun x_44 ex_44 => ?_)
                          refine lv_iload hx hb dX0_take_109 (lv_at hl 0 rfl) ?_
                          refine lv_iadd hx hb dX0_take_111 ?_
                          refine lv_topi (fun x_45 ex_45 => ?_)
                          refine lv_aload_n hx hb dX0_take_112 rfl (lv_at hl 5 rfl) ?_
                          refine va_get (D := D) (ci := 0) (v := .ref (a 5)) (C := RX0) (T := TX0) (N := 7) hx hb hts inT_X0 hown hK.1 hP 0 rfl rfl 0 (by decide) (hts _ k_294) (fun _ h9 => h9) rfl dX0_take_113 ?_
                          refine va_getN (D := D) (ci := 4) (v := .ref (a 19)) (C := RX4) (T := TX4) (N := 11) hx hb hts inT_X4 hown hK.1 hP 4 rfl rfl 1 (by decide) (va_Nw.use rfl (hK.2.2.1 _ n_236)) (fun _ h9 => h9) rfl dX0_take_116 ?_
                          refine lv_iload hx hb dX0_take_119 (lv_at hl 1 rfl) ?_
                          refine lt_i (j := ((j1 * 8 + j2) * 2 + j3)) hx hb hK hP 6 rfl (lf_X0_take_t_46 a dm d0 d1 d2 sn sk scu sch g0 g1 g3 x1 n2 n3 n4 hdm hx1 hsn hsk j1 d0_j1 d1_j1 d2_j1 sch_j1 k3 hj3 hk3 hrj1 c_1 n_5 j2 d0_j2 d1_j2 d2_j2 sch_j2 k18 hj18 hk18 hrj2 c_7 n_11 j3 d0_j3 d1_j3 d2_j3 sch_j3 k33 hj33 hk33 hrj3 c_13 n_17 his28 sch_31 hz_31_0 r_30 hlk31 c_32 x_44 ex_44 x_45 ex_45) (by decide) dX0_take_121 ?_
                          refine lv_iload_n hx hb dX0_take_122 rfl (lv_at hl 8 rfl) ?_
                          refine lv_iadd hx hb dX0_take_123 ?_
                          refine lv_topi (fun x_47 ex_47 => ?_)
                          refine eWvP (va_runV (As := [.int (nI x1), .int (nI ((j1 * 8 + j2) * 2 + j3)), .int x_45, .int x_47]) (rest := []) ⟨hx, hb, hml, hown, hts⟩ (c_X0_put_t l D cI cB cZ cJ tx a dm d0_j3 d1_j3 d2_j3 x1 ((j1 * 8 + j2) * 2 + j3) x_45 x_47 (lf_X0_take_t_48 a dm d0 d1 d2 sn sk scu sch g0 g1 g3 x1 n2 n3 n4 hdm hx1 hsn hsk j1 d0_j1 d1_j1 d2_j1 sch_j1 k3 hj3 hk3 hrj1 c_1 n_5 j2 d0_j2 d1_j2 d2_j2 sch_j2 k18 hj18 hk18 hrj2 c_7 n_11 j3 d0_j3 d1_j3 d2_j3 sch_j3 k33 hj33 hk33 hrj3 c_13 n_17 his28 sch_31 hz_31_0 r_30 hlk31 c_32 x_44 ex_44 x_45 ex_45 x_47 ex_47) (lf_X0_take_t_49 a dm d0 d1 d2 sn sk scu sch g0 g1 g3 x1 n2 n3 n4 hdm hx1 hsn hsk j1 d0_j1 d1_j1 d2_j1 sch_j1 k3 hj3 hk3 hrj1 c_1 n_5 j2 d0_j2 d1_j2 d2_j2 sch_j2 k18 hj18 hk18 hrj2 c_7 n_11 j3 d0_j3 d1_j3 d2_j3 sch_j3 k33 hj33 hk33 hrj3 c_13 n_17 his28 sch_31 hz_31_0 r_30 hlk31 c_32 x_44 ex_44 x_45 ex_45 x_47 ex_47) H.size) (zV hts k_919 v_X0_put ⟨Nat.le_of_ble_eq_true rfl, Nat.le_of_ble_eq_true rfl⟩) (pV (pxS hK hP hD [0, 1, 2, 3] (by decide) rfl) hK hP 0 rfl rfl) rfl rfl hl.1 rfl (lv_room (Nat.le_of_ble_eq_true rfl)) dX0_take_124 ⟨Nat.le_of_ble_eq_true rfl, Nat.le_of_ble_eq_true rfl⟩) hP hD hS hA [0, 1, 2, 3] [some 0, some 1, some 2, some 3, none, none, none, none] rfl (by decide +kernel) (fun _ => rfl) (fun u_51 H locs wr_50 hP hD hS => ?_)
                          obtain ⟨d0_51, d1_51, d2_51⟩ := u_51
                          have hz_51_0 : d0_51 = upd d0_j3 (384 * x1 + (((j1 * 8 + j2) * 2 + j3))) x_45 := wr_50.1
                          have hz_51_1 : d1_51 = upd d1_j3 (384 * x1 + (((j1 * 8 + j2) * 2 + j3))) x_47 := wr_50.2.1
                          have hz_51_2 : d2_51 = upd d2_j3 (384 * x1 + (((j1 * 8 + j2) * 2 + j3))) (vp_nar .boolean 1) := wr_50.2.2
                          have hPD := pd_mk (ws := [(a 6, .inr (0, [.ref (a 5), .ref (a 25), .ref (a 26), .ref (a 27), .ref (a 28), .ref (a 29), .int (nI dm)])), (a 25, .inl (cI, 1536, .inl d0_51)), (a 26, .inl (cI, 1536, .inl d1_51)), (a 27, .inl (cZ, 1536, .inl d2_51)), (a 5, .inr (4, [.ref (a 18), .ref (a 19), .ref (a 20), .ref (a 21), .ref (a 22), .ref (a 23), .ref (a 24), .int (nI sn), .int (nI sk), .int scu, .int sch_31])), (a 18, .inl (cI, 384, .inl g0)), (a 19, .inl (cI, 384, .inl g1)), (a 21, .inl (cZ, 384, .inl g3))]) hP hD
                          have hP := hPD.1
                          have hD := hPD.2
                          refine lv_iinc (v := nI (j3 + 1)) (lv' := [(7, .int (nI (j3 + 1))), (9, .int 50), (8, .int (nI ((j1 * 8 + j2) * 2 + j3))), (6, .int (nI j2)), (5, .int (nI j1)), (0, .ref (a 6)), (1, .int (nI x1)), (2, .int n2), (3, .int n3), (4, .int n4)]) hx hb dX0_take_127 hl (k := 2) rfl (nI_1 j3) (by decide) rfl (fun ls hl => ?_)
                          refine lv_goto (tgt := 33) hx hb dX0_take_130 (by decide) ?_
                          exact ih33 (j3 + 1) d0_51 d1_51 d2_51 sch_31 H locs ls (by omega) (by omega) (lf_X0_take_t_52 a dm d0 d1 d2 sn sk scu sch g0 g1 g3 x1 n2 n3 n4 hdm hx1 hsn hsk j1 d0_j1 d1_j1 d2_j1 sch_j1 k3 hj3 hk3 hrj1 c_1 n_5 j2 d0_j2 d1_j2 d2_j2 sch_j2 k18 hj18 hk18 hrj2 c_7 n_11 j3 d0_j3 d1_j3 d2_j3 sch_j3 k33 hj33 hk33 hrj3 c_13 n_17 his28 sch_31 hz_31_0 r_30 hlk31 c_32 x_44 ex_44 x_45 ex_45 x_47 ex_47 d0_51 d1_51 d2_51 hz_51_0 hz_51_1 hz_51_2) (hP.sub [0, 1, 2, 3, 4, 5, 6, 7] rfl) (hD.sub [0, 1, 2, 3, 4, 5, 6, 7] (by decide) rfl) hS (lv_sub hl [0, 3, 4, 5, 6, 7, 8, 9] rfl)
              exact lp33 (2 + 1) 0 d0_j2 d1_j2 d2_j2 sch_j2 H locs ls (by omega) (by omega) (lf_X0_take_t_53 a dm d0 d1 d2 sn sk scu sch g0 g1 g3 x1 n2 n3 n4 hdm hx1 hsn hsk j1 d0_j1 d1_j1 d2_j1 sch_j1 k3 hj3 hk3 hrj1 c_1 n_5 j2 d0_j2 d1_j2 d2_j2 sch_j2 k18 hj18 hk18 hrj2 c_7 n_11) (hP.sub [0, 1, 2, 3, 4, 5, 6, 7] rfl) (hD.sub [0, 1, 2, 3, 4, 5, 6, 7] (by decide) rfl) hS (lv_sub hl [0, 1, 2, 3, 4, 5, 6, 7] rfl)
        exact lp18 (sk + 1) 0 d0_j1 d1_j1 d2_j1 sch_j1 H locs ls (by omega) (by omega) (lf_X0_take_t_54 a dm d0 d1 d2 sn sk scu sch g0 g1 g3 x1 n2 n3 n4 hdm hx1 hsn hsk j1 d0_j1 d1_j1 d2_j1 sch_j1 k3 hj3 hk3 hrj1 c_1 n_5) (hP.sub [0, 1, 2, 3, 4, 5, 6, 7] rfl) (hD.sub [0, 1, 2, 3, 4, 5, 6, 7] (by decide) rfl) hS (lv_sub hl [0, 1, 2, 3, 4, 5, 6] rfl)
  exact lp3 (sn + 1) 0 d0 d1 d2 sch H locs ls (by omega) (by omega) (lf_X0_take_t_55 a dm d0 d1 d2 sn sk scu sch g0 g1 g3 x1 n2 n3 n4 hdm hx1 hsn hsk) (hP.sub [0, 1, 2, 3, 4, 5, 6, 7] rfl) (hD.sub [0, 1, 2, 3, 4, 5, 6, 7] (by decide) rfl) hS (lv_sub hl [0, 1, 2, 3, 4, 5] rfl)

theorem lf_X11_draw_m_3 (a : Nat → Nat) (ap : Int32) (sn : Nat) (sk : Nat) (scu : Int32) (sch : Int32) (g0 : Nat → Int32) (g1 : Nat → Int32) (g3 : Nat → Int32) (dm : Nat) (d0 : Nat → Int32) (d1 : Nat → Int32) (d2 : Nat → Int32) (n1 : Int32) (n2 : Int32) (n3 : Int32) (n4 : Int32) (hsn : sn ≤ 24) (hsk : sk ≤ 8) (hdm : dm ≤ 4) (c_2 : ¬ ((0 : Int32) ≤ n1 ∧ n1 ≤ nI dm - 1)) : ((((d0 : Nat → Int32), (d1 : Nat → Int32), (d2 : Nat → Int32), (sch : Int32)) : D4T) = drF g0 g1 g3 scu sn sk dm n1 n2 n3 n4 (d0, d1, d2, sch)) := by
  first | exact drF_1 (by assumption) | exact drF_2 (by assumption) | exact drF_3 (by assumption) | exact drF_4 (by assumption) | exact drF_y (by assumption) (by assumption) (by assumption) (by assumption) tn1e tn4e (by omega) (by assumption)
theorem lf_X11_draw_m_4 (a : Nat → Nat) (ap : Int32) (sn : Nat) (sk : Nat) (scu : Int32) (sch : Int32) (g0 : Nat → Int32) (g1 : Nat → Int32) (g3 : Nat → Int32) (dm : Nat) (d0 : Nat → Int32) (d1 : Nat → Int32) (d2 : Nat → Int32) (n1 : Int32) (n2 : Int32) (n3 : Int32) (n4 : Int32) (hsn : sn ≤ 24) (hsk : sk ≤ 8) (hdm : dm ≤ 4) (c_2 : (0 : Int32) ≤ n1 ∧ n1 ≤ nI dm - 1) : dm < 2 ^ 31 := by
  omega
theorem lf_X11_draw_m_7 (a : Nat → Nat) (ap : Int32) (sn : Nat) (sk : Nat) (scu : Int32) (sch : Int32) (g0 : Nat → Int32) (g1 : Nat → Int32) (g3 : Nat → Int32) (dm : Nat) (d0 : Nat → Int32) (d1 : Nat → Int32) (d2 : Nat → Int32) (n1 : Int32) (n2 : Int32) (n3 : Int32) (n4 : Int32) (hsn : sn ≤ 24) (hsk : sk ≤ 8) (hdm : dm ≤ 4) (c_2 : (0 : Int32) ≤ n1 ∧ n1 ≤ nI dm - 1) (tn1 : Nat) (tn1a : tn1 < dm) (tn1e : n1 = nI tn1) (c_6 : ¬ (((-2000) : Int32) ≤ n2 ∧ n2 ≤ 2000)) : ((((d0 : Nat → Int32), (d1 : Nat → Int32), (d2 : Nat → Int32), (sch : Int32)) : D4T) = drF g0 g1 g3 scu sn sk dm n1 n2 n3 n4 (d0, d1, d2, sch)) := by
  first | exact drF_1 (by assumption) | exact drF_2 (by assumption) | exact drF_3 (by assumption) | exact drF_4 (by assumption) | exact drF_y (by assumption) (by assumption) (by assumption) (by assumption) tn1e tn4e (by omega) (by assumption)
theorem lf_X11_draw_m_10 (a : Nat → Nat) (ap : Int32) (sn : Nat) (sk : Nat) (scu : Int32) (sch : Int32) (g0 : Nat → Int32) (g1 : Nat → Int32) (g3 : Nat → Int32) (dm : Nat) (d0 : Nat → Int32) (d1 : Nat → Int32) (d2 : Nat → Int32) (n1 : Int32) (n2 : Int32) (n3 : Int32) (n4 : Int32) (hsn : sn ≤ 24) (hsk : sk ≤ 8) (hdm : dm ≤ 4) (c_2 : (0 : Int32) ≤ n1 ∧ n1 ≤ nI dm - 1) (tn1 : Nat) (tn1a : tn1 < dm) (tn1e : n1 = nI tn1) (c_6 : ((-2000) : Int32) ≤ n2 ∧ n2 ≤ 2000) (c_9 : ¬ (((-2000) : Int32) ≤ n3 ∧ n3 ≤ 2000)) : ((((d0 : Nat → Int32), (d1 : Nat → Int32), (d2 : Nat → Int32), (sch : Int32)) : D4T) = drF g0 g1 g3 scu sn sk dm n1 n2 n3 n4 (d0, d1, d2, sch)) := by
  first | exact drF_1 (by assumption) | exact drF_2 (by assumption) | exact drF_3 (by assumption) | exact drF_4 (by assumption) | exact drF_y (by assumption) (by assumption) (by assumption) (by assumption) tn1e tn4e (by omega) (by assumption)
theorem lf_X11_draw_m_13 (a : Nat → Nat) (ap : Int32) (sn : Nat) (sk : Nat) (scu : Int32) (sch : Int32) (g0 : Nat → Int32) (g1 : Nat → Int32) (g3 : Nat → Int32) (dm : Nat) (d0 : Nat → Int32) (d1 : Nat → Int32) (d2 : Nat → Int32) (n1 : Int32) (n2 : Int32) (n3 : Int32) (n4 : Int32) (hsn : sn ≤ 24) (hsk : sk ≤ 8) (hdm : dm ≤ 4) (c_2 : (0 : Int32) ≤ n1 ∧ n1 ≤ nI dm - 1) (tn1 : Nat) (tn1a : tn1 < dm) (tn1e : n1 = nI tn1) (c_6 : ((-2000) : Int32) ≤ n2 ∧ n2 ≤ 2000) (c_9 : ((-2000) : Int32) ≤ n3 ∧ n3 ≤ 2000) (c_12 : (0 : Int32) ≤ n4 ∧ n4 ≤ 1000) (tn4 : Nat) (tn4a : 0 ≤ tn4) (tn4b : tn4 ≤ 1000) (tn4e : n4 = nI tn4) : dm ≤ 4 := by
  first | assumption | omega | decide
theorem lf_X11_draw_m_14 (a : Nat → Nat) (ap : Int32) (sn : Nat) (sk : Nat) (scu : Int32) (sch : Int32) (g0 : Nat → Int32) (g1 : Nat → Int32) (g3 : Nat → Int32) (dm : Nat) (d0 : Nat → Int32) (d1 : Nat → Int32) (d2 : Nat → Int32) (n1 : Int32) (n2 : Int32) (n3 : Int32) (n4 : Int32) (hsn : sn ≤ 24) (hsk : sk ≤ 8) (hdm : dm ≤ 4) (c_2 : (0 : Int32) ≤ n1 ∧ n1 ≤ nI dm - 1) (tn1 : Nat) (tn1a : tn1 < dm) (tn1e : n1 = nI tn1) (c_6 : ((-2000) : Int32) ≤ n2 ∧ n2 ≤ 2000) (c_9 : ((-2000) : Int32) ≤ n3 ∧ n3 ≤ 2000) (c_12 : (0 : Int32) ≤ n4 ∧ n4 ≤ 1000) (tn4 : Nat) (tn4a : 0 ≤ tn4) (tn4b : tn4 ≤ 1000) (tn4e : n4 = nI tn4) : tn1 < dm := by
  first | assumption | omega | decide
theorem lf_X11_draw_m_15 (a : Nat → Nat) (ap : Int32) (sn : Nat) (sk : Nat) (scu : Int32) (sch : Int32) (g0 : Nat → Int32) (g1 : Nat → Int32) (g3 : Nat → Int32) (dm : Nat) (d0 : Nat → Int32) (d1 : Nat → Int32) (d2 : Nat → Int32) (n1 : Int32) (n2 : Int32) (n3 : Int32) (n4 : Int32) (hsn : sn ≤ 24) (hsk : sk ≤ 8) (hdm : dm ≤ 4) (c_2 : (0 : Int32) ≤ n1 ∧ n1 ≤ nI dm - 1) (tn1 : Nat) (tn1a : tn1 < dm) (tn1e : n1 = nI tn1) (c_6 : ((-2000) : Int32) ≤ n2 ∧ n2 ≤ 2000) (c_9 : ((-2000) : Int32) ≤ n3 ∧ n3 ≤ 2000) (c_12 : (0 : Int32) ≤ n4 ∧ n4 ≤ 1000) (tn4 : Nat) (tn4a : 0 ≤ tn4) (tn4b : tn4 ≤ 1000) (tn4e : n4 = nI tn4) : sn ≤ 24 := by
  first | assumption | omega | decide
theorem lf_X11_draw_m_16 (a : Nat → Nat) (ap : Int32) (sn : Nat) (sk : Nat) (scu : Int32) (sch : Int32) (g0 : Nat → Int32) (g1 : Nat → Int32) (g3 : Nat → Int32) (dm : Nat) (d0 : Nat → Int32) (d1 : Nat → Int32) (d2 : Nat → Int32) (n1 : Int32) (n2 : Int32) (n3 : Int32) (n4 : Int32) (hsn : sn ≤ 24) (hsk : sk ≤ 8) (hdm : dm ≤ 4) (c_2 : (0 : Int32) ≤ n1 ∧ n1 ≤ nI dm - 1) (tn1 : Nat) (tn1a : tn1 < dm) (tn1e : n1 = nI tn1) (c_6 : ((-2000) : Int32) ≤ n2 ∧ n2 ≤ 2000) (c_9 : ((-2000) : Int32) ≤ n3 ∧ n3 ≤ 2000) (c_12 : (0 : Int32) ≤ n4 ∧ n4 ≤ 1000) (tn4 : Nat) (tn4a : 0 ≤ tn4) (tn4b : tn4 ≤ 1000) (tn4e : n4 = nI tn4) : sk ≤ 8 := by
  first | assumption | omega | decide
theorem lf_X11_draw_m_19 (a : Nat → Nat) (ap : Int32) (sn : Nat) (sk : Nat) (scu : Int32) (sch : Int32) (g0 : Nat → Int32) (g1 : Nat → Int32) (g3 : Nat → Int32) (dm : Nat) (d0 : Nat → Int32) (d1 : Nat → Int32) (d2 : Nat → Int32) (n1 : Int32) (n2 : Int32) (n3 : Int32) (n4 : Int32) (hsn : sn ≤ 24) (hsk : sk ≤ 8) (hdm : dm ≤ 4) (c_2 : (0 : Int32) ≤ n1 ∧ n1 ≤ nI dm - 1) (tn1 : Nat) (tn1a : tn1 < dm) (tn1e : n1 = nI tn1) (c_6 : ((-2000) : Int32) ≤ n2 ∧ n2 ≤ 2000) (c_9 : ((-2000) : Int32) ≤ n3 ∧ n3 ≤ 2000) (c_12 : (0 : Int32) ≤ n4 ∧ n4 ≤ 1000) (tn4 : Nat) (tn4a : 0 ≤ tn4) (tn4b : tn4 ≤ 1000) (tn4e : n4 = nI tn4) (d0_18 : Nat → Int32) (d1_18 : Nat → Int32) (d2_18 : Nat → Int32) (sch_18 : Int32) (hz_18_0 : ((d0_18, d1_18, d2_18, sch_18) : D4T) = dr1 g0 g1 g3 scu tn1 n2 n3 (nI tn4) sk (d0, d1, d2, sch) sn) : dm ≤ 4 := by
  first | assumption | omega | decide
theorem lf_X11_draw_m_20 (a : Nat → Nat) (ap : Int32) (sn : Nat) (sk : Nat) (scu : Int32) (sch : Int32) (g0 : Nat → Int32) (g1 : Nat → Int32) (g3 : Nat → Int32) (dm : Nat) (d0 : Nat → Int32) (d1 : Nat → Int32) (d2 : Nat → Int32) (n1 : Int32) (n2 : Int32) (n3 : Int32) (n4 : Int32) (hsn : sn ≤ 24) (hsk : sk ≤ 8) (hdm : dm ≤ 4) (c_2 : (0 : Int32) ≤ n1 ∧ n1 ≤ nI dm - 1) (tn1 : Nat) (tn1a : tn1 < dm) (tn1e : n1 = nI tn1) (c_6 : ((-2000) : Int32) ≤ n2 ∧ n2 ≤ 2000) (c_9 : ((-2000) : Int32) ≤ n3 ∧ n3 ≤ 2000) (c_12 : (0 : Int32) ≤ n4 ∧ n4 ≤ 1000) (tn4 : Nat) (tn4a : 0 ≤ tn4) (tn4b : tn4 ≤ 1000) (tn4e : n4 = nI tn4) (d0_18 : Nat → Int32) (d1_18 : Nat → Int32) (d2_18 : Nat → Int32) (sch_18 : Int32) (hz_18_0 : ((d0_18, d1_18, d2_18, sch_18) : D4T) = dr1 g0 g1 g3 scu tn1 n2 n3 (nI tn4) sk (d0, d1, d2, sch) sn) : tn1 < dm := by
  first | assumption | omega | decide
theorem lf_X11_draw_m_22 (a : Nat → Nat) (ap : Int32) (sn : Nat) (sk : Nat) (scu : Int32) (sch : Int32) (g0 : Nat → Int32) (g1 : Nat → Int32) (g3 : Nat → Int32) (dm : Nat) (d0 : Nat → Int32) (d1 : Nat → Int32) (d2 : Nat → Int32) (n1 : Int32) (n2 : Int32) (n3 : Int32) (n4 : Int32) (hsn : sn ≤ 24) (hsk : sk ≤ 8) (hdm : dm ≤ 4) (c_2 : (0 : Int32) ≤ n1 ∧ n1 ≤ nI dm - 1) (tn1 : Nat) (tn1a : tn1 < dm) (tn1e : n1 = nI tn1) (c_6 : ((-2000) : Int32) ≤ n2 ∧ n2 ≤ 2000) (c_9 : ((-2000) : Int32) ≤ n3 ∧ n3 ≤ 2000) (c_12 : (0 : Int32) ≤ n4 ∧ n4 ≤ 1000) (tn4 : Nat) (tn4a : 0 ≤ tn4) (tn4b : tn4 ≤ 1000) (tn4e : n4 = nI tn4) (d0_18 : Nat → Int32) (d1_18 : Nat → Int32) (d2_18 : Nat → Int32) (sch_18 : Int32) (hz_18_0 : ((d0_18, d1_18, d2_18, sch_18) : D4T) = dr1 g0 g1 g3 scu tn1 n2 n3 (nI tn4) sk (d0, d1, d2, sch) sn) (r_21 : Int32) : ((((d0_18 : Nat → Int32), (d1_18 : Nat → Int32), (d2_18 : Nat → Int32), (sch_18 : Int32)) : D4T) = drF g0 g1 g3 scu sn sk dm n1 n2 n3 n4 (d0, d1, d2, sch)) := by
  first | exact drF_1 (by assumption) | exact drF_2 (by assumption) | exact drF_3 (by assumption) | exact drF_4 (by assumption) | exact drF_y (by assumption) (by assumption) (by assumption) (by assumption) tn1e tn4e (by omega) (by assumption)
theorem lf_X11_draw_m_23 (a : Nat → Nat) (ap : Int32) (sn : Nat) (sk : Nat) (scu : Int32) (sch : Int32) (g0 : Nat → Int32) (g1 : Nat → Int32) (g3 : Nat → Int32) (dm : Nat) (d0 : Nat → Int32) (d1 : Nat → Int32) (d2 : Nat → Int32) (n1 : Int32) (n2 : Int32) (n3 : Int32) (n4 : Int32) (hsn : sn ≤ 24) (hsk : sk ≤ 8) (hdm : dm ≤ 4) (c_2 : (0 : Int32) ≤ n1 ∧ n1 ≤ nI dm - 1) (tn1 : Nat) (tn1a : tn1 < dm) (tn1e : n1 = nI tn1) (c_6 : ((-2000) : Int32) ≤ n2 ∧ n2 ≤ 2000) (c_9 : ((-2000) : Int32) ≤ n3 ∧ n3 ≤ 2000) (c_12 : ¬ ((0 : Int32) ≤ n4 ∧ n4 ≤ 1000)) : ((((d0 : Nat → Int32), (d1 : Nat → Int32), (d2 : Nat → Int32), (sch : Int32)) : D4T) = drF g0 g1 g3 scu sn sk dm n1 n2 n3 n4 (d0, d1, d2, sch)) := by
  first | exact drF_1 (by assumption) | exact drF_2 (by assumption) | exact drF_3 (by assumption) | exact drF_4 (by assumption) | exact drF_y (by assumption) (by assumption) (by assumption) (by assumption) tn1e tn4e (by omega) (by assumption)
set_option maxHeartbeats 4000000 in
set_option maxRecDepth 100000 in
theorem c_X11_draw_m (l : Launch) (D : va_G) (cI cB cZ cJ : ClassId) (tx : List (ClassId × FieldType)) (a : Nat → Nat) (ap : Int32) (sn : Nat) (sk : Nat) (scu : Int32) (sch : Int32) (g0 : Nat → Int32) (g1 : Nat → Int32) (g3 : Nat → Int32) (dm : Nat) (d0 : Nat → Int32) (d1 : Nat → Int32) (d2 : Nat → Int32) (n1 : Int32) (n2 : Int32) (n3 : Int32) (n4 : Int32) (hsn : sn ≤ 24) (hsk : sk ≤ 8) (hdm : dm ≤ 4) : WrI l D cI cB cZ cJ tx yX11_draw cX11_draw 5 (some .int) 4 0 0 [.ref (a 0), .int n1, .int n2, .int n3, .int n4] [(a 0, .inr (11, [.ref (a 1), .ref (a 2), .ref (a 3), .ref (a 4), .ref (a 5), .ref (a 6), .ref (a 7), .ref (a 8), .ref (a 9), .ref (a 10), .ref (a 11), .ref (a 12), .int ap])), (a 5, .inr (4, [.ref (a 18), .ref (a 19), .ref (a 20), .ref (a 21), .ref (a 22), .ref (a 23), .ref (a 24), .int (nI sn), .int (nI sk), .int scu, .int sch])), (a 18, .inl (cI, 384, .inl g0)), (a 19, .inl (cI, 384, .inl g1)), (a 21, .inl (cZ, 384, .inl g3)), (a 6, .inr (0, [.ref (a 5), .ref (a 25), .ref (a 26), .ref (a 27), .ref (a 28), .ref (a 29), .int (nI dm)])), (a 25, .inl (cI, 1536, .inl d0)), (a 26, .inl (cI, 1536, .inl d1)), (a 27, .inl (cZ, 1536, .inl d2))] (fun (r : Int32) (v : (Nat → Int32) × (Nat → Int32) × (Nat → Int32) × (Int32)) => (((v.1, v.2.1, v.2.2.1, v.2.2.2) : D4T) = drF g0 g1 g3 scu sn sk dm n1 n2 n3 n4 (d0, d1, d2, sch))) (fun v => [(a 0, .inr (11, [.ref (a 1), .ref (a 2), .ref (a 3), .ref (a 4), .ref (a 5), .ref (a 6), .ref (a 7), .ref (a 8), .ref (a 9), .ref (a 10), .ref (a 11), .ref (a 12), .int ap])), (a 5, .inr (4, [.ref (a 18), .ref (a 19), .ref (a 20), .ref (a 21), .ref (a 22), .ref (a 23), .ref (a 24), .int (nI sn), .int (nI sk), .int scu, .int v.2.2.2])), (a 18, .inl (cI, 384, .inl g0)), (a 19, .inl (cI, 384, .inl g1)), (a 21, .inl (cZ, 384, .inl g3)), (a 6, .inr (0, [.ref (a 5), .ref (a 25), .ref (a 26), .ref (a 27), .ref (a 28), .ref (a 29), .int (nI dm)])), (a 25, .inl (cI, 1536, .inl v.1)), (a 26, .inl (cI, 1536, .inl v.2.1)), (a 27, .inl (cZ, 1536, .inl v.2.2.1))]) := by
  refine wri_of2 (by decide) (Nat.le_of_ble_eq_true rfl) ?_
  intro p e s m below meth c A ls H locs hC hK hP hD hA hS hl
  obtain ⟨hx, hb, hr, hml, hown, hts, hlocks, hin⟩ := hC
  have hown : s.vm.findClass RX11 = some m.cls := hown
  have hl : lv_has ls 5 [(0, .ref (a 0)), (1, .int n1), (2, .int n2), (3, .int n3), (4, .int n4)] := hl
  refine W_gQ (fun Q hQ => ?_)
  refine lv_aload_n hx hb dX11_draw_0 rfl (lv_at hl 0 rfl) ?_
  refine va_get (D := D) (ci := 11) (v := .ref (a 6)) (C := RX11) (T := TX11) (N := 13) hx hb hts inT_X11 hown hK.1 hP 0 rfl rfl 5 (by decide) (hts _ k_488) (fun _ h9 => h9) rfl dX11_draw_1 ?_
  refine lv_iload_n hx hb dX11_draw_4 rfl (lv_at hl 1 rfl) ?_
  refine eRi (va_runV (As := [.int n1]) (rest := []) ⟨hx, hb, hml, hown, hts⟩ (c_X0_has l D cI cB cZ cJ tx a dm n1 H.size) (zV hts k_899 v_X0_has ⟨Nat.le_of_ble_eq_true rfl, Nat.le_of_ble_eq_true rfl⟩) (pV (px1 hK hP 5 rfl) hK hP 5 rfl rfl) rfl rfl hl.1 rfl (lv_room (Nat.le_of_ble_eq_true rfl)) dX11_draw_5 ⟨Nat.le_of_ble_eq_true rfl, Nat.le_of_ble_eq_true rfl⟩) hP hS hA (fun r_1 H locs wr_1 hP hS => ?_)
  subst wr_1
  refine lv_bi_eq (tgt := 49) hx hb dX11_draw_8 (by decide) (fun c_2 => ?_) (fun c_2 => ?_)
  · refine lv_iconst (v := (-1)) hx hb dX11_draw_49 (by decide) ?_
    rw [hQ]
    exact W.iret (v := (-1)) hx hb hr (fun tt9 ht hW => ⟨⟨((-1) : Int32), ((d0 : Nat → Int32), (d1 : Nat → Int32), (d2 : Nat → Int32), (sch : Int32)), rfl, (lf_X11_draw_m_3 a ap sn sk scu sch g0 g1 g3 dm d0 d1 d2 n1 n2 n3 n4 hsn hsk hdm c_2), ⟨by rw [ht]; exact hP, hD⟩⟩, hS.F ht⟩) hS.2.2 dX11_draw_50 hlocks
  · obtain ⟨tn1, tn1a, tn1e⟩ := of_within (lf_X11_draw_m_4 a ap sn sk scu sch g0 g1 g3 dm d0 d1 d2 n1 n2 n3 n4 hsn hsk hdm c_2) c_2
    subst tn1e
    refine lv_iload_n hx hb dX11_draw_11 rfl (lv_at hl 2 rfl) ?_
    refine lv_sipush (v := (-2000)) hx hb dX11_draw_12 (by decide) ?_
    refine lv_sipush (v := 2000) hx hb dX11_draw_15 (by decide) ?_
    refine eRi (va_runS (As := [.int n2, .int (-2000), .int 2000]) (rest := []) ⟨hx, hb, hml, hown, hts⟩ (c_X11_within l D cI cB cZ cJ tx n2 (-2000) 2000 H.size) (zS hts k_527 v_X11_within ⟨Nat.le_of_ble_eq_true rfl, Nat.le_of_ble_eq_true rfl⟩) (px0 hK) rfl rfl hl.1 rfl (lv_room (Nat.le_of_ble_eq_true rfl)) dX11_draw_18 ⟨Nat.le_of_ble_eq_true rfl, Nat.le_of_ble_eq_true rfl⟩) hP hS hA (fun r_5 H locs wr_5 hP hS => ?_)
    subst wr_5
    refine lv_bi_eq (tgt := 49) hx hb dX11_draw_21 (by decide) (fun c_6 => ?_) (fun c_6 => ?_)
    · refine lv_iconst (v := (-1)) hx hb dX11_draw_49 (by decide) ?_
      rw [hQ]
      exact W.iret (v := (-1)) hx hb hr (fun tt9 ht hW => ⟨⟨((-1) : Int32), ((d0 : Nat → Int32), (d1 : Nat → Int32), (d2 : Nat → Int32), (sch : Int32)), rfl, (lf_X11_draw_m_7 a ap sn sk scu sch g0 g1 g3 dm d0 d1 d2 (nI tn1) n2 n3 n4 hsn hsk hdm c_2 tn1 tn1a rfl c_6), ⟨by rw [ht]; exact hP, hD⟩⟩, hS.F ht⟩) hS.2.2 dX11_draw_50 hlocks
    · refine lv_iload_n hx hb dX11_draw_24 rfl (lv_at hl 3 rfl) ?_
      refine lv_sipush (v := (-2000)) hx hb dX11_draw_25 (by decide) ?_
      refine lv_sipush (v := 2000) hx hb dX11_draw_28 (by decide) ?_
      refine eRi (va_runS (As := [.int n3, .int (-2000), .int 2000]) (rest := []) ⟨hx, hb, hml, hown, hts⟩ (c_X11_within l D cI cB cZ cJ tx n3 (-2000) 2000 H.size) (zS hts k_527 v_X11_within ⟨Nat.le_of_ble_eq_true rfl, Nat.le_of_ble_eq_true rfl⟩) (px0 hK) rfl rfl hl.1 rfl (lv_room (Nat.le_of_ble_eq_true rfl)) dX11_draw_31 ⟨Nat.le_of_ble_eq_true rfl, Nat.le_of_ble_eq_true rfl⟩) hP hS hA (fun r_8 H locs wr_8 hP hS => ?_)
      subst wr_8
      refine lv_bi_eq (tgt := 49) hx hb dX11_draw_34 (by decide) (fun c_9 => ?_) (fun c_9 => ?_)
      · refine lv_iconst (v := (-1)) hx hb dX11_draw_49 (by decide) ?_
        rw [hQ]
        exact W.iret (v := (-1)) hx hb hr (fun tt9 ht hW => ⟨⟨((-1) : Int32), ((d0 : Nat → Int32), (d1 : Nat → Int32), (d2 : Nat → Int32), (sch : Int32)), rfl, (lf_X11_draw_m_10 a ap sn sk scu sch g0 g1 g3 dm d0 d1 d2 (nI tn1) n2 n3 n4 hsn hsk hdm c_2 tn1 tn1a rfl c_6 c_9), ⟨by rw [ht]; exact hP, hD⟩⟩, hS.F ht⟩) hS.2.2 dX11_draw_50 hlocks
      · refine lv_iload hx hb dX11_draw_37 (lv_at hl 4 rfl) ?_
        refine lv_iconst (v := 0) hx hb dX11_draw_39 (by decide) ?_
        refine lv_sipush (v := 1000) hx hb dX11_draw_40 (by decide) ?_
        refine eRi (va_runS (As := [.int n4, .int 0, .int 1000]) (rest := []) ⟨hx, hb, hml, hown, hts⟩ (c_X11_within l D cI cB cZ cJ tx n4 0 1000 H.size) (zS hts k_527 v_X11_within ⟨Nat.le_of_ble_eq_true rfl, Nat.le_of_ble_eq_true rfl⟩) (px0 hK) rfl rfl hl.1 rfl (lv_room (Nat.le_of_ble_eq_true rfl)) dX11_draw_43 ⟨Nat.le_of_ble_eq_true rfl, Nat.le_of_ble_eq_true rfl⟩) hP hS hA (fun r_11 H locs wr_11 hP hS => ?_)
        subst wr_11
        refine lv_bi_ne (tgt := 51) hx hb dX11_draw_46 (by decide) (fun c_12 => ?_) (fun c_12 => ?_)
        · obtain ⟨tn4, tn4a, tn4b, tn4e⟩ := of_rng 0 1000 rfl rfl c_12
          subst tn4e
          refine lv_aload_n hx hb dX11_draw_51 rfl (lv_at hl 0 rfl) ?_
          refine va_get (D := D) (ci := 11) (v := .ref (a 6)) (C := RX11) (T := TX11) (N := 13) hx hb hts inT_X11 hown hK.1 hP 0 rfl rfl 5 (by decide) (hts _ k_488) (fun _ h9 => h9) rfl dX11_draw_52 ?_
          refine lv_iload_n hx hb dX11_draw_55 rfl (lv_at hl 1 rfl) ?_
          refine lv_iload_n hx hb dX11_draw_56 rfl (lv_at hl 2 rfl) ?_
          refine lv_iload_n hx hb dX11_draw_57 rfl (lv_at hl 3 rfl) ?_
          refine lv_iload hx hb dX11_draw_58 (lv_at hl 4 rfl) ?_
          refine eWvP (va_runV (As := [.int (nI tn1), .int n2, .int n3, .int (nI tn4)]) (rest := []) ⟨hx, hb, hml, hown, hts⟩ (c_X0_take_t l D cI cB cZ cJ tx a dm d0 d1 d2 sn sk scu sch g0 g1 g3 tn1 n2 n3 (nI tn4) (lf_X11_draw_m_13 a ap sn sk scu sch g0 g1 g3 dm d0 d1 d2 (nI tn1) n2 n3 (nI tn4) hsn hsk hdm c_2 tn1 tn1a rfl c_6 c_9 c_12 tn4 tn4a tn4b rfl) (lf_X11_draw_m_14 a ap sn sk scu sch g0 g1 g3 dm d0 d1 d2 (nI tn1) n2 n3 (nI tn4) hsn hsk hdm c_2 tn1 tn1a rfl c_6 c_9 c_12 tn4 tn4a tn4b rfl) (lf_X11_draw_m_15 a ap sn sk scu sch g0 g1 g3 dm d0 d1 d2 (nI tn1) n2 n3 (nI tn4) hsn hsk hdm c_2 tn1 tn1a rfl c_6 c_9 c_12 tn4 tn4a tn4b rfl) (lf_X11_draw_m_16 a ap sn sk scu sch g0 g1 g3 dm d0 d1 d2 (nI tn1) n2 n3 (nI tn4) hsn hsk hdm c_2 tn1 tn1a rfl c_6 c_9 c_12 tn4 tn4a tn4b rfl) H.size) (zV hts k_912 v_X0_take ⟨Nat.le_of_ble_eq_true rfl, Nat.le_of_ble_eq_true rfl⟩) (pV (pxS hK hP hD [5, 6, 7, 8, 1, 2, 3, 4] (by decide) rfl) hK hP 5 rfl rfl) rfl rfl hl.1 rfl (lv_room (Nat.le_of_ble_eq_true rfl)) dX11_draw_60 ⟨Nat.le_of_ble_eq_true rfl, Nat.le_of_ble_eq_true rfl⟩) hP hD hS hA [5, 6, 7, 8, 1, 2, 3, 4] [none, some 4, some 5, some 6, some 7, some 0, some 1, some 2, some 3] rfl (by decide +kernel) (fun _ => rfl) (fun u_18 H locs wr_17 hP hD hS => ?_)
          obtain ⟨d0_18, d1_18, d2_18, sch_18⟩ := u_18
          have hz_18_0 : ((d0_18, d1_18, d2_18, sch_18) : D4T) = dr1 g0 g1 g3 scu tn1 n2 n3 (nI tn4) sk (d0, d1, d2, sch) sn := wr_17
          have hPD := pd_mk (ws := [(a 0, .inr (11, [.ref (a 1), .ref (a 2), .ref (a 3), .ref (a 4), .ref (a 5), .ref (a 6), .ref (a 7), .ref (a 8), .ref (a 9), .ref (a 10), .ref (a 11), .ref (a 12), .int ap])), (a 5, .inr (4, [.ref (a 18), .ref (a 19), .ref (a 20), .ref (a 21), .ref (a 22), .ref (a 23), .ref (a 24), .int (nI sn), .int (nI sk), .int scu, .int sch_18])), (a 18, .inl (cI, 384, .inl g0)), (a 19, .inl (cI, 384, .inl g1)), (a 21, .inl (cZ, 384, .inl g3)), (a 6, .inr (0, [.ref (a 5), .ref (a 25), .ref (a 26), .ref (a 27), .ref (a 28), .ref (a 29), .int (nI dm)])), (a 25, .inl (cI, 1536, .inl d0_18)), (a 26, .inl (cI, 1536, .inl d1_18)), (a 27, .inl (cZ, 1536, .inl d2_18))]) hP hD
          have hP := hPD.1
          have hD := hPD.2
          refine lv_aload_n hx hb dX11_draw_63 rfl (lv_at hl 0 rfl) ?_
          refine va_get (D := D) (ci := 11) (v := .ref (a 6)) (C := RX11) (T := TX11) (N := 13) hx hb hts inT_X11 hown hK.1 hP 0 rfl rfl 5 (by decide) (hts _ k_488) (fun _ h9 => h9) rfl dX11_draw_64 ?_
          refine lv_iload_n hx hb dX11_draw_67 rfl (lv_at hl 1 rfl) ?_
          refine eRi (va_runV (As := [.int (nI tn1)]) (rest := []) ⟨hx, hb, hml, hown, hts⟩ (c_X0_marksOf l D cI cB cZ cJ tx a dm d2_18 tn1 (lf_X11_draw_m_19 a ap sn sk scu sch g0 g1 g3 dm d0 d1 d2 (nI tn1) n2 n3 (nI tn4) hsn hsk hdm c_2 tn1 tn1a rfl c_6 c_9 c_12 tn4 tn4a tn4b rfl d0_18 d1_18 d2_18 sch_18 hz_18_0) (lf_X11_draw_m_20 a ap sn sk scu sch g0 g1 g3 dm d0 d1 d2 (nI tn1) n2 n3 (nI tn4) hsn hsk hdm c_2 tn1 tn1a rfl c_6 c_9 c_12 tn4 tn4a tn4b rfl d0_18 d1_18 d2_18 sch_18 hz_18_0) H.size) (zV hts k_920 v_X0_marksOf ⟨Nat.le_of_ble_eq_true rfl, Nat.le_of_ble_eq_true rfl⟩) (pV (pxS hK hP hD [5, 8] (by decide) rfl) hK hP 5 rfl rfl) rfl rfl hl.1 rfl (lv_room (Nat.le_of_ble_eq_true rfl)) dX11_draw_68 ⟨Nat.le_of_ble_eq_true rfl, Nat.le_of_ble_eq_true rfl⟩) hP hS hA (fun r_21 H locs wr_21 hP hS => ?_)
          rw [hQ]
          exact W.iret (v := r_21) hx hb hr (fun tt9 ht hW => ⟨⟨(r_21 : Int32), ((d0_18 : Nat → Int32), (d1_18 : Nat → Int32), (d2_18 : Nat → Int32), (sch_18 : Int32)), rfl, (lf_X11_draw_m_22 a ap sn sk scu sch g0 g1 g3 dm d0 d1 d2 (nI tn1) n2 n3 (nI tn4) hsn hsk hdm c_2 tn1 tn1a rfl c_6 c_9 c_12 tn4 tn4a tn4b rfl d0_18 d1_18 d2_18 sch_18 hz_18_0 r_21), ⟨by rw [ht]; exact hP, hD⟩⟩, hS.F ht⟩) hS.2.2 dX11_draw_71 hlocks
        · refine lv_iconst (v := (-1)) hx hb dX11_draw_49 (by decide) ?_
          rw [hQ]
          exact W.iret (v := (-1)) hx hb hr (fun tt9 ht hW => ⟨⟨((-1) : Int32), ((d0 : Nat → Int32), (d1 : Nat → Int32), (d2 : Nat → Int32), (sch : Int32)), rfl, (lf_X11_draw_m_23 a ap sn sk scu sch g0 g1 g3 dm d0 d1 d2 (nI tn1) n2 n3 n4 hsn hsk hdm c_2 tn1 tn1a rfl c_6 c_9 c_12), ⟨by rw [ht]; exact hP, hD⟩⟩, hS.F ht⟩) hS.2.2 dX11_draw_50 hlocks

theorem ron {u : Nat} (hu : u ≤ 220) (h : ¬ u + 20 ≤ 220) : ¬ u ≤ 200 := by omega
theorem roy {u : Nat} (h : u + 20 ≤ 220) : u ≤ 200 := by omega
theorem dr_l2 {r t c : Int32} (h : ¬ t ≤ r) (e : r = c - c / 1000 * 1000) : lkM c < t := by
  have e : r = lkM c := e
  rw [← e]
  exact Int32.not_le.mp h
theorem dr_m2 {r t c : Int32} (h : t ≤ r) (e : r = c - c / 1000 * 1000) : ¬ lkM c < t := by
  have e : r = lkM c := e
  rw [← e]
  exact Int32.not_lt.mpr h
theorem lf_X12_push_t_4 (h : Nat) (q : Nat → Nat) (im : Nat → Int32) (tp : Nat) (m_tape : Nat → Int32) (n1 : Int32) (hf_tp : im 1 = nI tp) (htp : tp + 4 ≤ 220) (hsb : SB [1] im im) (x_1 : Int32) (ex_1 : x_1 = n1 >>> (24 &&& 31)) (x_2 : Int32) (ex_2 : x_2 = (x_1).toInt8.toInt32) : tp < 220 := by
  omega
theorem lf_X12_push_t_9 (h : Nat) (q : Nat → Nat) (im : Nat → Int32) (tp : Nat) (m_tape : Nat → Int32) (n1 : Int32) (hf_tp : im 1 = nI tp) (htp : tp + 4 ≤ 220) (x_1 : Int32) (ex_1 : x_1 = n1 >>> (24 &&& 31)) (x_2 : Int32) (ex_2 : x_2 = (x_1).toInt8.toInt32) (f_3 : Nat → Int32) (ef_3 : f_3 = upd m_tape tp (vp_nar .byte x_2)) (i_5 : Nat → Int32) (hsb : SB [1] im i_5) (x_6 : Int32) (ex_6 : x_6 = n1 >>> (16 &&& 31)) (x_7 : Int32) (ex_7 : x_7 = (x_6).toInt8.toInt32) : (tp + 1) < 220 := by
  omega
theorem lf_X12_push_t_14 (h : Nat) (q : Nat → Nat) (im : Nat → Int32) (tp : Nat) (m_tape : Nat → Int32) (n1 : Int32) (hf_tp : im 1 = nI tp) (htp : tp + 4 ≤ 220) (x_1 : Int32) (ex_1 : x_1 = n1 >>> (24 &&& 31)) (x_2 : Int32) (ex_2 : x_2 = (x_1).toInt8.toInt32) (f_3 : Nat → Int32) (ef_3 : f_3 = upd m_tape tp (vp_nar .byte x_2)) (i_5 : Nat → Int32) (x_6 : Int32) (ex_6 : x_6 = n1 >>> (16 &&& 31)) (x_7 : Int32) (ex_7 : x_7 = (x_6).toInt8.toInt32) (f_8 : Nat → Int32) (ef_8 : f_8 = upd f_3 (tp + 1) (vp_nar .byte x_7)) (i_10 : Nat → Int32) (hsb : SB [1] im i_10) (x_11 : Int32) (ex_11 : x_11 = n1 >>> (8 &&& 31)) (x_12 : Int32) (ex_12 : x_12 = (x_11).toInt8.toInt32) : ((tp + 1) + 1) < 220 := by
  omega
theorem lf_X12_push_t_19 (h : Nat) (q : Nat → Nat) (im : Nat → Int32) (tp : Nat) (m_tape : Nat → Int32) (n1 : Int32) (hf_tp : im 1 = nI tp) (htp : tp + 4 ≤ 220) (x_1 : Int32) (ex_1 : x_1 = n1 >>> (24 &&& 31)) (x_2 : Int32) (ex_2 : x_2 = (x_1).toInt8.toInt32) (f_3 : Nat → Int32) (ef_3 : f_3 = upd m_tape tp (vp_nar .byte x_2)) (i_5 : Nat → Int32) (x_6 : Int32) (ex_6 : x_6 = n1 >>> (16 &&& 31)) (x_7 : Int32) (ex_7 : x_7 = (x_6).toInt8.toInt32) (f_8 : Nat → Int32) (ef_8 : f_8 = upd f_3 (tp + 1) (vp_nar .byte x_7)) (i_10 : Nat → Int32) (x_11 : Int32) (ex_11 : x_11 = n1 >>> (8 &&& 31)) (x_12 : Int32) (ex_12 : x_12 = (x_11).toInt8.toInt32) (f_13 : Nat → Int32) (ef_13 : f_13 = upd f_8 ((tp + 1) + 1) (vp_nar .byte x_12)) (i_15 : Nat → Int32) (hsb : SB [1] im i_15) (x_16 : Int32) (ex_16 : x_16 = n1 >>> (0 &&& 31)) (x_17 : Int32) (ex_17 : x_17 = (x_16).toInt8.toInt32) : (((tp + 1) + 1) + 1) < 220 := by
  omega
theorem lf_X12_push_t_21 (h : Nat) (q : Nat → Nat) (im : Nat → Int32) (tp : Nat) (m_tape : Nat → Int32) (n1 : Int32) (hf_tp : im 1 = nI tp) (htp : tp + 4 ≤ 220) (x_1 : Int32) (ex_1 : x_1 = n1 >>> (24 &&& 31)) (x_2 : Int32) (ex_2 : x_2 = (x_1).toInt8.toInt32) (f_3 : Nat → Int32) (ef_3 : f_3 = upd m_tape tp (vp_nar .byte x_2)) (i_5 : Nat → Int32) (x_6 : Int32) (ex_6 : x_6 = n1 >>> (16 &&& 31)) (x_7 : Int32) (ex_7 : x_7 = (x_6).toInt8.toInt32) (f_8 : Nat → Int32) (ef_8 : f_8 = upd f_3 (tp + 1) (vp_nar .byte x_7)) (i_10 : Nat → Int32) (x_11 : Int32) (ex_11 : x_11 = n1 >>> (8 &&& 31)) (x_12 : Int32) (ex_12 : x_12 = (x_11).toInt8.toInt32) (f_13 : Nat → Int32) (ef_13 : f_13 = upd f_8 ((tp + 1) + 1) (vp_nar .byte x_12)) (i_15 : Nat → Int32) (x_16 : Int32) (ex_16 : x_16 = n1 >>> (0 &&& 31)) (x_17 : Int32) (ex_17 : x_17 = (x_16).toInt8.toInt32) (f_18 : Nat → Int32) (ef_18 : f_18 = upd f_13 (((tp + 1) + 1) + 1) (vp_nar .byte x_17)) (i_20 : Nat → Int32) (hsb : SB [1] im i_20) (hi_20_1 : i_20 1 = nI ((((tp + 1) + 1) + 1) + 1)) : (SB [1] im (i_20 : Nat → Int32)) ∧ ((i_20 : Nat → Int32) 1 = nI (((((tp + 1) + 1) + 1) + 1) : Nat)) ∧ ((((((tp + 1) + 1) + 1) + 1) : Nat) = tp + 4) ∧ ((f_18 : Nat → Int32) = put4 m_tape tp n1) := by
  refine ⟨by assumption, by assumption, by omega, ?_⟩
  exact pt4 (by assumption) (by assumption) (by assumption) (by assumption) (bs_k (by assumption) (by assumption)) (bs_k (by assumption) (by assumption)) (bs_k (by assumption) (by assumption)) (bs_k (by assumption) (by assumption))
set_option maxHeartbeats 4000000 in
set_option maxRecDepth 100000 in
theorem c_X12_push_t (l : Launch) (D : va_G) (cI cB cZ cJ : ClassId) (tx : List (ClassId × FieldType)) (h : Nat) (q : Nat → Nat) (im : Nat → Int32) (tp : Nat) (m_tape : Nat → Int32) (n1 : Int32) (hf_tp : im 1 = nI tp) (htp : tp + 4 ≤ 220) : WrV l D cI cB cZ cJ tx yX12_push cX12_push 3 none 0 0 0 [.ref h, .int n1] [(h, .inr (12, mG q im)), (q 0, .inl (cB, 220, .inl m_tape))] (fun (v : (Nat → Int32) × (Nat) × (Nat → Int32)) => (SB [1] im v.1) ∧ (v.1 1 = nI v.2.1) ∧ (v.2.1 = tp + 4) ∧ (v.2.2 = put4 m_tape tp n1)) (fun v => [(h, .inr (12, mG q v.1)), (q 0, .inl (cB, 220, .inl v.2.2))]) := by
  refine wrv_of2 (by decide) (Nat.le_of_ble_eq_true rfl) ?_
  intro p e s m below meth c A ls H locs hC hK hP hD hA hS hl
  obtain ⟨hx, hb, hr, hml, hown, hts, hlocks, hin⟩ := hC
  have hown : s.vm.findClass RX12 = some m.cls := hown
  have hl : lv_has ls 3 [(0, .ref h), (1, .int n1)] := hl
  have hsb : SB [1] im im := SB.rf
  refine W_gQ (fun Q hQ => ?_)
  refine lv_bipush (v := 24) hx hb dX12_push_0 (by decide) ?_
  refine lv_istore_n (lv' := [(2, .int 24), (0, .ref h), (1, .int n1)]) hx hb dX12_push_2 rfl hl (by decide) rfl (fun ls hl => ?_)
  refine lv_iload_n hx hb dX12_push_3 rfl (lv_at hl 0 rfl) ?_
  refine lv_if_lt (tgt := 36) hx hb dX12_push_4 (by decide) (fun c => absurd c (by decide)) (fun _ => ?_)
  refine lv_aload_n hx hb dX12_push_7 rfl (lv_at hl 1 rfl) ?_
  refine va_get (D := D) (ci := 12) (v := .ref (q 0)) (C := RX12) (T := TX12) (N := 81) hx hb hts inT_X12 hown hK.1 hP 0 rfl rfl 0 (by decide) (hts _ k_1353) (fun _ h9 => h9) rfl dX12_push_8 ?_
  refine lv_aload_n hx hb dX12_push_11 rfl (lv_at hl 1 rfl) ?_
  refine va_get (D := D) (ci := 12) (v := .int (im 1)) (C := RX12) (T := TX12) (N := 81) hx hb hts inT_X12 hown hK.1 hP 0 rfl rfl 1 (by decide) (hts _ k_1354) (fun _ h9 => h9) rfl dX12_push_12 ?_
  refine lv_topv (y := nI tp) hf_tp ?_
  refine lv_iload_n hx hb dX12_push_15 rfl (lv_at hl 2 rfl) ?_
  refine lv_iload_n hx hb dX12_push_16 rfl (lv_at hl 0 rfl) ?_
  refine lv_ishr hx hb dX12_push_17 ?_
  refine lv_topi (fun x_1 ex_1 => ?_)
  refine lv_i2b hx hb dX12_push_18 rfl ?_
  refine lv_topi (fun x_2 ex_2 => ?_)
  refine su_b (j := tp) hx hb hK hP hD hS 1 rfl (lf_X12_push_t_4 h q im tp m_tape n1 hf_tp htp hsb x_1 ex_1 x_2 ex_2) (by first | decide | assumption) dX12_push_19 (fun f_3 H locs ef_3 hP hD hS => ?_)
  have hPD := pd_mk (ws := [(h, .inr (12, mG q im)), (q 0, .inl (cB, 220, .inl f_3))]) hP hD
  have hP := hPD.1
  have hD := hPD.2
  refine lv_aload_n hx hb dX12_push_20 rfl (lv_at hl 1 rfl) ?_
  refine lv_dup hx hb dX12_push_21 rfl ?_
  refine va_get (D := D) (ci := 12) (v := .int (im 1)) (C := RX12) (T := TX12) (N := 81) hx hb hts inT_X12 hown hK.1 hP 0 rfl rfl 1 (by decide) (hts _ k_1354) (fun _ h9 => h9) rfl dX12_push_22 ?_
  refine lv_topv (y := nI tp) hf_tp ?_
  refine lv_iconst (v := 1) hx hb dX12_push_25 (by decide) ?_
  refine lv_iadd hx hb dX12_push_26 ?_
  refine lv_topv (y := nI (tp + 1)) (nI_add tp 1) ?_
  refine va_put (D := D) (ci := 12) (v := .int (nI (tp + 1))) (ty := .int) (C := RX12) (T := TX12) (N := 81) hx hb hts inT_X12 tyX12 tyX12_ok nmX12 hown hK.1 hP hD hS 0 rfl rfl 1 (by decide) (hts _ k_1354) (fun _ h9 => h9) rfl (by decide +kernel) rfl rfl (Nat.le_of_ble_eq_true rfl) dX12_push_27 (fun H locs hP hD hS => ?_)
  obtain ⟨i_5, ei_5⟩ : ∃ z : Nat → Int32, z = upd im 1 (nI (tp + 1)) := ⟨_, rfl⟩
  have hi_5_1 : i_5 1 = nI (tp + 1) := by rw [ei_5]; rfl
  have hsb := SB.put hsb ei_5 (by decide)
  have hP : va_P D vwCl [(h, .inr (12, mG q i_5)), (q 0, .inl (cB, 220, .inl f_3))] H := by rw [ei_5, ← mG_1]; exact hP
  have hD : va_D A [(h, .inr (12, mG q i_5)), (q 0, .inl (cB, 220, .inl f_3))] := by rw [ei_5, ← mG_1]; exact hD
  refine lv_iinc (v := 16) (lv' := [(2, .int 16), (0, .ref h), (1, .int n1)]) hx hb dX12_push_30 hl (k := 0) rfl (by decide) (by decide) rfl (fun ls hl => ?_)
  refine lv_goto (tgt := 3) hx hb dX12_push_33 (by decide) ?_
  refine lv_iload_n hx hb dX12_push_3 rfl (lv_at hl 0 rfl) ?_
  refine lv_if_lt (tgt := 36) hx hb dX12_push_4 (by decide) (fun c => absurd c (by decide)) (fun _ => ?_)
  refine lv_aload_n hx hb dX12_push_7 rfl (lv_at hl 1 rfl) ?_
  refine va_get (D := D) (ci := 12) (v := .ref (q 0)) (C := RX12) (T := TX12) (N := 81) hx hb hts inT_X12 hown hK.1 hP 0 rfl rfl 0 (by decide) (hts _ k_1353) (fun _ h9 => h9) rfl dX12_push_8 ?_
  refine lv_aload_n hx hb dX12_push_11 rfl (lv_at hl 1 rfl) ?_
  refine va_get (D := D) (ci := 12) (v := .int (i_5 1)) (C := RX12) (T := TX12) (N := 81) hx hb hts inT_X12 hown hK.1 hP 0 rfl rfl 1 (by decide) (hts _ k_1354) (fun _ h9 => h9) rfl dX12_push_12 ?_
  refine lv_topv (y := nI (tp + 1)) hi_5_1 ?_
  refine lv_iload_n hx hb dX12_push_15 rfl (lv_at hl 2 rfl) ?_
  refine lv_iload_n hx hb dX12_push_16 rfl (lv_at hl 0 rfl) ?_
  refine lv_ishr hx hb dX12_push_17 ?_
  refine lv_topi (fun x_6 ex_6 => ?_)
  refine lv_i2b hx hb dX12_push_18 rfl ?_
  refine lv_topi (fun x_7 ex_7 => ?_)
  refine su_b (j := (tp + 1)) hx hb hK hP hD hS 1 rfl (lf_X12_push_t_9 h q im tp m_tape n1 hf_tp htp x_1 ex_1 x_2 ex_2 f_3 ef_3 i_5 hsb x_6 ex_6 x_7 ex_7) (by first | decide | assumption) dX12_push_19 (fun f_8 H locs ef_8 hP hD hS => ?_)
  have hPD := pd_mk (ws := [(h, .inr (12, mG q i_5)), (q 0, .inl (cB, 220, .inl f_8))]) hP hD
  have hP := hPD.1
  have hD := hPD.2
  refine lv_aload_n hx hb dX12_push_20 rfl (lv_at hl 1 rfl) ?_
  refine lv_dup hx hb dX12_push_21 rfl ?_
  refine va_get (D := D) (ci := 12) (v := .int (i_5 1)) (C := RX12) (T := TX12) (N := 81) hx hb hts inT_X12 hown hK.1 hP 0 rfl rfl 1 (by decide) (hts _ k_1354) (fun _ h9 => h9) rfl dX12_push_22 ?_
  refine lv_topv (y := nI (tp + 1)) hi_5_1 ?_
  refine lv_iconst (v := 1) hx hb dX12_push_25 (by decide) ?_
  refine lv_iadd hx hb dX12_push_26 ?_
  refine lv_topv (y := nI ((tp + 1) + 1)) (nI_add (tp + 1) 1) ?_
  refine va_put (D := D) (ci := 12) (v := .int (nI ((tp + 1) + 1))) (ty := .int) (C := RX12) (T := TX12) (N := 81) hx hb hts inT_X12 tyX12 tyX12_ok nmX12 hown hK.1 hP hD hS 0 rfl rfl 1 (by decide) (hts _ k_1354) (fun _ h9 => h9) rfl (by decide +kernel) rfl rfl (Nat.le_of_ble_eq_true rfl) dX12_push_27 (fun H locs hP hD hS => ?_)
  obtain ⟨i_10, ei_10⟩ : ∃ z : Nat → Int32, z = upd i_5 1 (nI ((tp + 1) + 1)) := ⟨_, rfl⟩
  have hi_10_1 : i_10 1 = nI ((tp + 1) + 1) := by rw [ei_10]; rfl
  have hsb := SB.put hsb ei_10 (by decide)
  have hP : va_P D vwCl [(h, .inr (12, mG q i_10)), (q 0, .inl (cB, 220, .inl f_8))] H := by rw [ei_10, ← mG_1]; exact hP
  have hD : va_D A [(h, .inr (12, mG q i_10)), (q 0, .inl (cB, 220, .inl f_8))] := by rw [ei_10, ← mG_1]; exact hD
  refine lv_iinc (v := 8) (lv' := [(2, .int 8), (0, .ref h), (1, .int n1)]) hx hb dX12_push_30 hl (k := 0) rfl (by decide) (by decide) rfl (fun ls hl => ?_)
  refine lv_goto (tgt := 3) hx hb dX12_push_33 (by decide) ?_
  refine lv_iload_n hx hb dX12_push_3 rfl (lv_at hl 0 rfl) ?_
  refine lv_if_lt (tgt := 36) hx hb dX12_push_4 (by decide) (fun c => absurd c (by decide)) (fun _ => ?_)
  refine lv_aload_n hx hb dX12_push_7 rfl (lv_at hl 1 rfl) ?_
  refine va_get (D := D) (ci := 12) (v := .ref (q 0)) (C := RX12) (T := TX12) (N := 81) hx hb hts inT_X12 hown hK.1 hP 0 rfl rfl 0 (by decide) (hts _ k_1353) (fun _ h9 => h9) rfl dX12_push_8 ?_
  refine lv_aload_n hx hb dX12_push_11 rfl (lv_at hl 1 rfl) ?_
  refine va_get (D := D) (ci := 12) (v := .int (i_10 1)) (C := RX12) (T := TX12) (N := 81) hx hb hts inT_X12 hown hK.1 hP 0 rfl rfl 1 (by decide) (hts _ k_1354) (fun _ h9 => h9) rfl dX12_push_12 ?_
  refine lv_topv (y := nI ((tp + 1) + 1)) hi_10_1 ?_
  refine lv_iload_n hx hb dX12_push_15 rfl (lv_at hl 2 rfl) ?_
  refine lv_iload_n hx hb dX12_push_16 rfl (lv_at hl 0 rfl) ?_
  refine lv_ishr hx hb dX12_push_17 ?_
  refine lv_topi (fun x_11 ex_11 => ?_)
  refine lv_i2b hx hb dX12_push_18 rfl ?_
  refine lv_topi (fun x_12 ex_12 => ?_)
  refine su_b (j := ((tp + 1) + 1)) hx hb hK hP hD hS 1 rfl (lf_X12_push_t_14 h q im tp m_tape n1 hf_tp htp x_1 ex_1 x_2 ex_2 f_3 ef_3 i_5 x_6 ex_6 x_7 ex_7 f_8 ef_8 i_10 hsb x_11 ex_11 x_12 ex_12) (by first | decide | assumption) dX12_push_19 (fun f_13 H locs ef_13 hP hD hS => ?_)
  have hPD := pd_mk (ws := [(h, .inr (12, mG q i_10)), (q 0, .inl (cB, 220, .inl f_13))]) hP hD
  have hP := hPD.1
  have hD := hPD.2
  refine lv_aload_n hx hb dX12_push_20 rfl (lv_at hl 1 rfl) ?_
  refine lv_dup hx hb dX12_push_21 rfl ?_
  refine va_get (D := D) (ci := 12) (v := .int (i_10 1)) (C := RX12) (T := TX12) (N := 81) hx hb hts inT_X12 hown hK.1 hP 0 rfl rfl 1 (by decide) (hts _ k_1354) (fun _ h9 => h9) rfl dX12_push_22 ?_
  refine lv_topv (y := nI ((tp + 1) + 1)) hi_10_1 ?_
  refine lv_iconst (v := 1) hx hb dX12_push_25 (by decide) ?_
  refine lv_iadd hx hb dX12_push_26 ?_
  refine lv_topv (y := nI (((tp + 1) + 1) + 1)) (nI_add ((tp + 1) + 1) 1) ?_
  refine va_put (D := D) (ci := 12) (v := .int (nI (((tp + 1) + 1) + 1))) (ty := .int) (C := RX12) (T := TX12) (N := 81) hx hb hts inT_X12 tyX12 tyX12_ok nmX12 hown hK.1 hP hD hS 0 rfl rfl 1 (by decide) (hts _ k_1354) (fun _ h9 => h9) rfl (by decide +kernel) rfl rfl (Nat.le_of_ble_eq_true rfl) dX12_push_27 (fun H locs hP hD hS => ?_)
  obtain ⟨i_15, ei_15⟩ : ∃ z : Nat → Int32, z = upd i_10 1 (nI (((tp + 1) + 1) + 1)) := ⟨_, rfl⟩
  have hi_15_1 : i_15 1 = nI (((tp + 1) + 1) + 1) := by rw [ei_15]; rfl
  have hsb := SB.put hsb ei_15 (by decide)
  have hP : va_P D vwCl [(h, .inr (12, mG q i_15)), (q 0, .inl (cB, 220, .inl f_13))] H := by rw [ei_15, ← mG_1]; exact hP
  have hD : va_D A [(h, .inr (12, mG q i_15)), (q 0, .inl (cB, 220, .inl f_13))] := by rw [ei_15, ← mG_1]; exact hD
  refine lv_iinc (v := 0) (lv' := [(2, .int 0), (0, .ref h), (1, .int n1)]) hx hb dX12_push_30 hl (k := 0) rfl (by decide) (by decide) rfl (fun ls hl => ?_)
  refine lv_goto (tgt := 3) hx hb dX12_push_33 (by decide) ?_
  refine lv_iload_n hx hb dX12_push_3 rfl (lv_at hl 0 rfl) ?_
  refine lv_if_lt (tgt := 36) hx hb dX12_push_4 (by decide) (fun c => absurd c (by decide)) (fun _ => ?_)
  refine lv_aload_n hx hb dX12_push_7 rfl (lv_at hl 1 rfl) ?_
  refine va_get (D := D) (ci := 12) (v := .ref (q 0)) (C := RX12) (T := TX12) (N := 81) hx hb hts inT_X12 hown hK.1 hP 0 rfl rfl 0 (by decide) (hts _ k_1353) (fun _ h9 => h9) rfl dX12_push_8 ?_
  refine lv_aload_n hx hb dX12_push_11 rfl (lv_at hl 1 rfl) ?_
  refine va_get (D := D) (ci := 12) (v := .int (i_15 1)) (C := RX12) (T := TX12) (N := 81) hx hb hts inT_X12 hown hK.1 hP 0 rfl rfl 1 (by decide) (hts _ k_1354) (fun _ h9 => h9) rfl dX12_push_12 ?_
  refine lv_topv (y := nI (((tp + 1) + 1) + 1)) hi_15_1 ?_
  refine lv_iload_n hx hb dX12_push_15 rfl (lv_at hl 2 rfl) ?_
  refine lv_iload_n hx hb dX12_push_16 rfl (lv_at hl 0 rfl) ?_
  refine lv_ishr hx hb dX12_push_17 ?_
  refine lv_topi (fun x_16 ex_16 => ?_)
  refine lv_i2b hx hb dX12_push_18 rfl ?_
  refine lv_topi (fun x_17 ex_17 => ?_)
  refine su_b (j := (((tp + 1) + 1) + 1)) hx hb hK hP hD hS 1 rfl (lf_X12_push_t_19 h q im tp m_tape n1 hf_tp htp x_1 ex_1 x_2 ex_2 f_3 ef_3 i_5 x_6 ex_6 x_7 ex_7 f_8 ef_8 i_10 x_11 ex_11 x_12 ex_12 f_13 ef_13 i_15 hsb x_16 ex_16 x_17 ex_17) (by first | decide | assumption) dX12_push_19 (fun f_18 H locs ef_18 hP hD hS => ?_)
  have hPD := pd_mk (ws := [(h, .inr (12, mG q i_15)), (q 0, .inl (cB, 220, .inl f_18))]) hP hD
  have hP := hPD.1
  have hD := hPD.2
  refine lv_aload_n hx hb dX12_push_20 rfl (lv_at hl 1 rfl) ?_
  refine lv_dup hx hb dX12_push_21 rfl ?_
  refine va_get (D := D) (ci := 12) (v := .int (i_15 1)) (C := RX12) (T := TX12) (N := 81) hx hb hts inT_X12 hown hK.1 hP 0 rfl rfl 1 (by decide) (hts _ k_1354) (fun _ h9 => h9) rfl dX12_push_22 ?_
  refine lv_topv (y := nI (((tp + 1) + 1) + 1)) hi_15_1 ?_
  refine lv_iconst (v := 1) hx hb dX12_push_25 (by decide) ?_
  refine lv_iadd hx hb dX12_push_26 ?_
  refine lv_topv (y := nI ((((tp + 1) + 1) + 1) + 1)) (nI_add (((tp + 1) + 1) + 1) 1) ?_
  refine va_put (D := D) (ci := 12) (v := .int (nI ((((tp + 1) + 1) + 1) + 1))) (ty := .int) (C := RX12) (T := TX12) (N := 81) hx hb hts inT_X12 tyX12 tyX12_ok nmX12 hown hK.1 hP hD hS 0 rfl rfl 1 (by decide) (hts _ k_1354) (fun _ h9 => h9) rfl (by decide +kernel) rfl rfl (Nat.le_of_ble_eq_true rfl) dX12_push_27 (fun H locs hP hD hS => ?_)
  obtain ⟨i_20, ei_20⟩ : ∃ z : Nat → Int32, z = upd i_15 1 (nI ((((tp + 1) + 1) + 1) + 1)) := ⟨_, rfl⟩
  have hi_20_1 : i_20 1 = nI ((((tp + 1) + 1) + 1) + 1) := by rw [ei_20]; rfl
  have hsb := SB.put hsb ei_20 (by decide)
  have hP : va_P D vwCl [(h, .inr (12, mG q i_20)), (q 0, .inl (cB, 220, .inl f_18))] H := by rw [ei_20, ← mG_1]; exact hP
  have hD : va_D A [(h, .inr (12, mG q i_20)), (q 0, .inl (cB, 220, .inl f_18))] := by rw [ei_20, ← mG_1]; exact hD
  refine lv_iinc (v := (-8)) (lv' := [(2, .int (-8)), (0, .ref h), (1, .int n1)]) hx hb dX12_push_30 hl (k := 0) rfl (by decide) (by decide) rfl (fun ls hl => ?_)
  refine lv_goto (tgt := 3) hx hb dX12_push_33 (by decide) ?_
  refine lv_iload_n hx hb dX12_push_3 rfl (lv_at hl 0 rfl) ?_
  refine lv_if_lt (tgt := 36) hx hb dX12_push_4 (by decide) (fun _ => ?_) (fun c => absurd c (by decide))
  rw [hQ]
  exact W.vret hx hb hr (fun tt9 ht hW => ⟨⟨((i_20 : Nat → Int32), (((((tp + 1) + 1) + 1) + 1) : Nat), (f_18 : Nat → Int32)), rfl, (lf_X12_push_t_21 h q im tp m_tape n1 hf_tp htp x_1 ex_1 x_2 ex_2 f_3 ef_3 i_5 x_6 ex_6 x_7 ex_7 f_8 ef_8 i_10 x_11 ex_11 x_12 ex_12 f_13 ef_13 i_15 x_16 ex_16 x_17 ex_17 f_18 ef_18 i_20 hsb hi_20_1), ⟨by rw [ht]; exact hP, hD⟩⟩, hS.F ht⟩) hS.2.2 dX12_push_36 hlocks

theorem lf_X12_feed_m_3 (h : Nat) (q : Nat → Nat) (im : Nat → Int32) (tp : Nat) (m_tape : Nat → Int32) (n1 : Int32) (n2 : Int32) (n3 : Int32) (n4 : Int32) (n5 : Int32) (hf_tp : im 1 = nI tp) (htp : tp ≤ 220) (hsb : SB [1] im im) (c_1 : nI (tp + 20) ≤ 220) : (tp + 20) ≤ 220 := by
  exact (nI_leI (a := (tp + 20)) (b := 220) (by omega) (by omega)).mp c_1
theorem lf_X12_feed_m_4 (h : Nat) (q : Nat → Nat) (im : Nat → Int32) (tp : Nat) (m_tape : Nat → Int32) (n1 : Int32) (n2 : Int32) (n3 : Int32) (n4 : Int32) (n5 : Int32) (hf_tp : im 1 = nI tp) (htp : tp ≤ 220) (hsb : SB [1] im im) (c_1 : nI (tp + 20) ≤ 220) (n_2 : (tp + 20) ≤ 220) : tp + 4 ≤ 220 := by
  first | assumption | omega | decide
theorem lf_X12_feed_m_7 (h : Nat) (q : Nat → Nat) (im : Nat → Int32) (tp : Nat) (m_tape : Nat → Int32) (n1 : Int32) (n2 : Int32) (n3 : Int32) (n4 : Int32) (n5 : Int32) (hf_tp : im 1 = nI tp) (htp : tp ≤ 220) (c_1 : nI (tp + 20) ≤ 220) (n_2 : (tp + 20) ≤ 220) (im_6 : Nat → Int32) (tp_6 : Nat) (m_tape_6 : Nat → Int32) (hz_6_0 : SB [1] im im_6) (hz_6_1 : im_6 1 = nI tp_6) (hz_6_2 : tp_6 = tp + 4) (hz_6_3 : m_tape_6 = put4 m_tape tp n1) (hsb : SB [1] im im_6) : tp_6 + 4 ≤ 220 := by
  first | assumption | omega | decide
theorem lf_X12_feed_m_10 (h : Nat) (q : Nat → Nat) (im : Nat → Int32) (tp : Nat) (m_tape : Nat → Int32) (n1 : Int32) (n2 : Int32) (n3 : Int32) (n4 : Int32) (n5 : Int32) (hf_tp : im 1 = nI tp) (htp : tp ≤ 220) (c_1 : nI (tp + 20) ≤ 220) (n_2 : (tp + 20) ≤ 220) (im_6 : Nat → Int32) (tp_6 : Nat) (m_tape_6 : Nat → Int32) (hz_6_0 : SB [1] im im_6) (hz_6_1 : im_6 1 = nI tp_6) (hz_6_2 : tp_6 = tp + 4) (hz_6_3 : m_tape_6 = put4 m_tape tp n1) (im_9 : Nat → Int32) (tp_9 : Nat) (m_tape_9 : Nat → Int32) (hz_9_0 : SB [1] im_6 im_9) (hz_9_1 : im_9 1 = nI tp_9) (hz_9_2 : tp_9 = tp_6 + 4) (hz_9_3 : m_tape_9 = put4 m_tape_6 tp_6 n2) (hsb : SB [1] im im_9) : tp_9 + 4 ≤ 220 := by
  first | assumption | omega | decide
theorem lf_X12_feed_m_13 (h : Nat) (q : Nat → Nat) (im : Nat → Int32) (tp : Nat) (m_tape : Nat → Int32) (n1 : Int32) (n2 : Int32) (n3 : Int32) (n4 : Int32) (n5 : Int32) (hf_tp : im 1 = nI tp) (htp : tp ≤ 220) (c_1 : nI (tp + 20) ≤ 220) (n_2 : (tp + 20) ≤ 220) (im_6 : Nat → Int32) (tp_6 : Nat) (m_tape_6 : Nat → Int32) (hz_6_0 : SB [1] im im_6) (hz_6_1 : im_6 1 = nI tp_6) (hz_6_2 : tp_6 = tp + 4) (hz_6_3 : m_tape_6 = put4 m_tape tp n1) (im_9 : Nat → Int32) (tp_9 : Nat) (m_tape_9 : Nat → Int32) (hz_9_0 : SB [1] im_6 im_9) (hz_9_1 : im_9 1 = nI tp_9) (hz_9_2 : tp_9 = tp_6 + 4) (hz_9_3 : m_tape_9 = put4 m_tape_6 tp_6 n2) (im_12 : Nat → Int32) (tp_12 : Nat) (m_tape_12 : Nat → Int32) (hz_12_0 : SB [1] im_9 im_12) (hz_12_1 : im_12 1 = nI tp_12) (hz_12_2 : tp_12 = tp_9 + 4) (hz_12_3 : m_tape_12 = put4 m_tape_9 tp_9 n3) (hsb : SB [1] im im_12) : tp_12 + 4 ≤ 220 := by
  first | assumption | omega | decide
theorem lf_X12_feed_m_16 (h : Nat) (q : Nat → Nat) (im : Nat → Int32) (tp : Nat) (m_tape : Nat → Int32) (n1 : Int32) (n2 : Int32) (n3 : Int32) (n4 : Int32) (n5 : Int32) (hf_tp : im 1 = nI tp) (htp : tp ≤ 220) (c_1 : nI (tp + 20) ≤ 220) (n_2 : (tp + 20) ≤ 220) (im_6 : Nat → Int32) (tp_6 : Nat) (m_tape_6 : Nat → Int32) (hz_6_0 : SB [1] im im_6) (hz_6_1 : im_6 1 = nI tp_6) (hz_6_2 : tp_6 = tp + 4) (hz_6_3 : m_tape_6 = put4 m_tape tp n1) (im_9 : Nat → Int32) (tp_9 : Nat) (m_tape_9 : Nat → Int32) (hz_9_0 : SB [1] im_6 im_9) (hz_9_1 : im_9 1 = nI tp_9) (hz_9_2 : tp_9 = tp_6 + 4) (hz_9_3 : m_tape_9 = put4 m_tape_6 tp_6 n2) (im_12 : Nat → Int32) (tp_12 : Nat) (m_tape_12 : Nat → Int32) (hz_12_0 : SB [1] im_9 im_12) (hz_12_1 : im_12 1 = nI tp_12) (hz_12_2 : tp_12 = tp_9 + 4) (hz_12_3 : m_tape_12 = put4 m_tape_9 tp_9 n3) (im_15 : Nat → Int32) (tp_15 : Nat) (m_tape_15 : Nat → Int32) (hz_15_0 : SB [1] im_12 im_15) (hz_15_1 : im_15 1 = nI tp_15) (hz_15_2 : tp_15 = tp_12 + 4) (hz_15_3 : m_tape_15 = put4 m_tape_12 tp_12 n4) (hsb : SB [1] im im_15) : tp_15 + 4 ≤ 220 := by
  first | assumption | omega | decide
theorem lf_X12_feed_m_19 (h : Nat) (q : Nat → Nat) (im : Nat → Int32) (tp : Nat) (m_tape : Nat → Int32) (n1 : Int32) (n2 : Int32) (n3 : Int32) (n4 : Int32) (n5 : Int32) (hf_tp : im 1 = nI tp) (htp : tp ≤ 220) (c_1 : nI (tp + 20) ≤ 220) (n_2 : (tp + 20) ≤ 220) (im_6 : Nat → Int32) (tp_6 : Nat) (m_tape_6 : Nat → Int32) (hz_6_0 : SB [1] im im_6) (hz_6_1 : im_6 1 = nI tp_6) (hz_6_2 : tp_6 = tp + 4) (hz_6_3 : m_tape_6 = put4 m_tape tp n1) (im_9 : Nat → Int32) (tp_9 : Nat) (m_tape_9 : Nat → Int32) (hz_9_0 : SB [1] im_6 im_9) (hz_9_1 : im_9 1 = nI tp_9) (hz_9_2 : tp_9 = tp_6 + 4) (hz_9_3 : m_tape_9 = put4 m_tape_6 tp_6 n2) (im_12 : Nat → Int32) (tp_12 : Nat) (m_tape_12 : Nat → Int32) (hz_12_0 : SB [1] im_9 im_12) (hz_12_1 : im_12 1 = nI tp_12) (hz_12_2 : tp_12 = tp_9 + 4) (hz_12_3 : m_tape_12 = put4 m_tape_9 tp_9 n3) (im_15 : Nat → Int32) (tp_15 : Nat) (m_tape_15 : Nat → Int32) (hz_15_0 : SB [1] im_12 im_15) (hz_15_1 : im_15 1 = nI tp_15) (hz_15_2 : tp_15 = tp_12 + 4) (hz_15_3 : m_tape_15 = put4 m_tape_12 tp_12 n4) (im_18 : Nat → Int32) (tp_18 : Nat) (m_tape_18 : Nat → Int32) (hz_18_0 : SB [1] im_15 im_18) (hz_18_1 : im_18 1 = nI tp_18) (hz_18_2 : tp_18 = tp_15 + 4) (hz_18_3 : m_tape_18 = put4 m_tape_15 tp_15 n5) (hsb : SB [1] im im_18) : (nI tp_18 : Int32) = feA tp ∧ (SB [1] im (im_18 : Nat → Int32)) ∧ ((im_18 : Nat → Int32) 1 = nI (tp_18 : Nat)) ∧ ((tp_18 : Nat) ≤ 220) ∧ ((tp_18 : Nat) = feU tp) ∧ ((m_tape_18 : Nat → Int32) = feB n1 n2 n3 n4 n5 m_tape tp) := by
  first
    | (have hle : ¬ tp ≤ 200 := by omega
       refine ⟨feA_n hle, ?_, ?_, ?_, feU_n hle, feB_n hle⟩ <;> first | assumption | omega)
    | (have hle : tp ≤ 200 := by omega
       refine ⟨feA_y hle (by omega), ?_, ?_, ?_, feU_y hle (by omega), feB_y hle (by assumption) (by assumption) (by assumption) (by assumption) (by assumption) (by omega) (by omega) (by omega) (by omega)⟩ <;> first | assumption | omega)
theorem lf_X12_feed_m_21 (h : Nat) (q : Nat → Nat) (im : Nat → Int32) (tp : Nat) (m_tape : Nat → Int32) (n1 : Int32) (n2 : Int32) (n3 : Int32) (n4 : Int32) (n5 : Int32) (hf_tp : im 1 = nI tp) (htp : tp ≤ 220) (hsb : SB [1] im im) (c_1 : ¬ nI (tp + 20) ≤ 220) : 220 < (tp + 20) := by
  exact Nat.lt_of_not_le (fun q => c_1 ((nI_leI (a := (tp + 20)) (b := 220) (by omega) (by omega)).mpr q))
theorem lf_X12_feed_m_22 (h : Nat) (q : Nat → Nat) (im : Nat → Int32) (tp : Nat) (m_tape : Nat → Int32) (n1 : Int32) (n2 : Int32) (n3 : Int32) (n4 : Int32) (n5 : Int32) (hf_tp : im 1 = nI tp) (htp : tp ≤ 220) (hsb : SB [1] im im) (c_1 : ¬ nI (tp + 20) ≤ 220) (n_20 : 220 < (tp + 20)) : ((-1) : Int32) = feA tp ∧ (SB [1] im (im : Nat → Int32)) ∧ ((im : Nat → Int32) 1 = nI (tp : Nat)) ∧ ((tp : Nat) ≤ 220) ∧ ((tp : Nat) = feU tp) ∧ ((m_tape : Nat → Int32) = feB n1 n2 n3 n4 n5 m_tape tp) := by
  first
    | (have hle : ¬ tp ≤ 200 := by omega
       refine ⟨feA_n hle, ?_, ?_, ?_, feU_n hle, feB_n hle⟩ <;> first | assumption | omega)
    | (have hle : tp ≤ 200 := by omega
       refine ⟨feA_y hle (by omega), ?_, ?_, ?_, feU_y hle (by omega), feB_y hle (by assumption) (by assumption) (by assumption) (by assumption) (by assumption) (by omega) (by omega) (by omega) (by omega)⟩ <;> first | assumption | omega)
set_option maxHeartbeats 4000000 in
set_option maxRecDepth 100000 in
theorem c_X12_feed_m (l : Launch) (D : va_G) (cI cB cZ cJ : ClassId) (tx : List (ClassId × FieldType)) (h : Nat) (q : Nat → Nat) (im : Nat → Int32) (tp : Nat) (m_tape : Nat → Int32) (n1 : Int32) (n2 : Int32) (n3 : Int32) (n4 : Int32) (n5 : Int32) (hf_tp : im 1 = nI tp) (htp : tp ≤ 220) : WrI l D cI cB cZ cJ tx yX12_feed cX12_feed 6 (some .int) 1 0 0 [.ref h, .int n1, .int n2, .int n3, .int n4, .int n5] [(h, .inr (12, mG q im)), (q 0, .inl (cB, 220, .inl m_tape))] (fun (r : Int32) (v : (Nat → Int32) × (Nat) × (Nat → Int32)) => r = feA tp ∧ (SB [1] im v.1) ∧ (v.1 1 = nI v.2.1) ∧ (v.2.1 ≤ 220) ∧ (v.2.1 = feU tp) ∧ (v.2.2 = feB n1 n2 n3 n4 n5 m_tape tp)) (fun v => [(h, .inr (12, mG q v.1)), (q 0, .inl (cB, 220, .inl v.2.2))]) := by
  refine wri_of2 (by decide) (Nat.le_of_ble_eq_true rfl) ?_
  intro p e s m below meth c A ls H locs hC hK hP hD hA hS hl
  obtain ⟨hx, hb, hr, hml, hown, hts, hlocks, hin⟩ := hC
  have hown : s.vm.findClass RX12 = some m.cls := hown
  have hl : lv_has ls 6 [(0, .ref h), (1, .int n1), (2, .int n2), (3, .int n3), (4, .int n4), (5, .int n5)] := hl
  have hsb : SB [1] im im := SB.rf
  refine W_gQ (fun Q hQ => ?_)
  refine lv_aload_n hx hb dX12_feed_0 rfl (lv_at hl 0 rfl) ?_
  refine va_get (D := D) (ci := 12) (v := .int (im 1)) (C := RX12) (T := TX12) (N := 81) hx hb hts inT_X12 hown hK.1 hP 0 rfl rfl 1 (by decide) (hts _ k_1354) (fun _ h9 => h9) rfl dX12_feed_1 ?_
  refine lv_topv (y := nI tp) hf_tp ?_
  refine lv_bipush (v := 20) hx hb dX12_feed_4 (by decide) ?_
  refine lv_iadd hx hb dX12_feed_6 ?_
  refine lv_topv (y := nI (tp + 20)) (nI_add tp 20) ?_
  refine lv_sipush (v := 220) hx hb dX12_feed_7 (by decide) ?_
  refine lv_icmp_le (tgt := 15) hx hb dX12_feed_10 (by decide) (fun c_1 => ?_) (fun c_1 => ?_)
  · have n_2 : (tp + 20) ≤ 220 := (lf_X12_feed_m_3 h q im tp m_tape n1 n2 n3 n4 n5 hf_tp htp hsb c_1)
    refine lv_aload_n hx hb dX12_feed_15 rfl (lv_at hl 0 rfl) ?_
    refine lv_iload_n hx hb dX12_feed_16 rfl (lv_at hl 1 rfl) ?_
    refine eWvP (va_runV (As := [.int n1]) (rest := []) ⟨hx, hb, hml, hown, hts⟩ (c_X12_push_t l D cI cB cZ cJ tx h q im tp m_tape n1 hf_tp (lf_X12_feed_m_4 h q im tp m_tape n1 n2 n3 n4 n5 hf_tp htp hsb c_1 n_2) H.size) (zV hts k_1614 v_X12_push ⟨Nat.le_of_ble_eq_true rfl, Nat.le_of_ble_eq_true rfl⟩) (pV (pxS hK hP hD [0, 1] (by decide) rfl) hK hP 0 rfl rfl) rfl rfl hl.1 rfl (lv_room (Nat.le_of_ble_eq_true rfl)) dX12_feed_17 ⟨Nat.le_of_ble_eq_true rfl, Nat.le_of_ble_eq_true rfl⟩) hP hD hS hA [0, 1] [some 0, some 1] rfl (by decide +kernel) (fun _ => rfl) (fun u_6 H locs wr_5 hP hD hS => ?_)
    obtain ⟨im_6, tp_6, m_tape_6⟩ := u_6
    have hz_6_0 : SB [1] im im_6 := wr_5.1
    have hz_6_1 : im_6 1 = nI tp_6 := wr_5.2.1
    have hz_6_2 : tp_6 = tp + 4 := wr_5.2.2.1
    have hz_6_3 : m_tape_6 = put4 m_tape tp n1 := wr_5.2.2.2
    have hsb := SB.step hsb hz_6_0 (by decide)
    have hPD := pd_mk (ws := [(h, .inr (12, mG q im_6)), (q 0, .inl (cB, 220, .inl m_tape_6))]) hP hD
    have hP := hPD.1
    have hD := hPD.2
    refine lv_aload_n hx hb dX12_feed_20 rfl (lv_at hl 0 rfl) ?_
    refine lv_iload_n hx hb dX12_feed_21 rfl (lv_at hl 2 rfl) ?_
    refine eWvP (va_runV (As := [.int n2]) (rest := []) ⟨hx, hb, hml, hown, hts⟩ (c_X12_push_t l D cI cB cZ cJ tx h q im_6 tp_6 m_tape_6 n2 hz_6_1 (lf_X12_feed_m_7 h q im tp m_tape n1 n2 n3 n4 n5 hf_tp htp c_1 n_2 im_6 tp_6 m_tape_6 hz_6_0 hz_6_1 hz_6_2 hz_6_3 hsb) H.size) (zV hts k_1614 v_X12_push ⟨Nat.le_of_ble_eq_true rfl, Nat.le_of_ble_eq_true rfl⟩) (pV (pxS hK hP hD [0, 1] (by decide) rfl) hK hP 0 rfl rfl) rfl rfl hl.1 rfl (lv_room (Nat.le_of_ble_eq_true rfl)) dX12_feed_22 ⟨Nat.le_of_ble_eq_true rfl, Nat.le_of_ble_eq_true rfl⟩) hP hD hS hA [0, 1] [some 0, some 1] rfl (by decide +kernel) (fun _ => rfl) (fun u_9 H locs wr_8 hP hD hS => ?_)
    obtain ⟨im_9, tp_9, m_tape_9⟩ := u_9
    have hz_9_0 : SB [1] im_6 im_9 := wr_8.1
    have hz_9_1 : im_9 1 = nI tp_9 := wr_8.2.1
    have hz_9_2 : tp_9 = tp_6 + 4 := wr_8.2.2.1
    have hz_9_3 : m_tape_9 = put4 m_tape_6 tp_6 n2 := wr_8.2.2.2
    have hsb := SB.step hsb hz_9_0 (by decide)
    have hPD := pd_mk (ws := [(h, .inr (12, mG q im_9)), (q 0, .inl (cB, 220, .inl m_tape_9))]) hP hD
    have hP := hPD.1
    have hD := hPD.2
    refine lv_aload_n hx hb dX12_feed_25 rfl (lv_at hl 0 rfl) ?_
    refine lv_iload_n hx hb dX12_feed_26 rfl (lv_at hl 3 rfl) ?_
    refine eWvP (va_runV (As := [.int n3]) (rest := []) ⟨hx, hb, hml, hown, hts⟩ (c_X12_push_t l D cI cB cZ cJ tx h q im_9 tp_9 m_tape_9 n3 hz_9_1 (lf_X12_feed_m_10 h q im tp m_tape n1 n2 n3 n4 n5 hf_tp htp c_1 n_2 im_6 tp_6 m_tape_6 hz_6_0 hz_6_1 hz_6_2 hz_6_3 im_9 tp_9 m_tape_9 hz_9_0 hz_9_1 hz_9_2 hz_9_3 hsb) H.size) (zV hts k_1614 v_X12_push ⟨Nat.le_of_ble_eq_true rfl, Nat.le_of_ble_eq_true rfl⟩) (pV (pxS hK hP hD [0, 1] (by decide) rfl) hK hP 0 rfl rfl) rfl rfl hl.1 rfl (lv_room (Nat.le_of_ble_eq_true rfl)) dX12_feed_27 ⟨Nat.le_of_ble_eq_true rfl, Nat.le_of_ble_eq_true rfl⟩) hP hD hS hA [0, 1] [some 0, some 1] rfl (by decide +kernel) (fun _ => rfl) (fun u_12 H locs wr_11 hP hD hS => ?_)
    obtain ⟨im_12, tp_12, m_tape_12⟩ := u_12
    have hz_12_0 : SB [1] im_9 im_12 := wr_11.1
    have hz_12_1 : im_12 1 = nI tp_12 := wr_11.2.1
    have hz_12_2 : tp_12 = tp_9 + 4 := wr_11.2.2.1
    have hz_12_3 : m_tape_12 = put4 m_tape_9 tp_9 n3 := wr_11.2.2.2
    have hsb := SB.step hsb hz_12_0 (by decide)
    have hPD := pd_mk (ws := [(h, .inr (12, mG q im_12)), (q 0, .inl (cB, 220, .inl m_tape_12))]) hP hD
    have hP := hPD.1
    have hD := hPD.2
    refine lv_aload_n hx hb dX12_feed_30 rfl (lv_at hl 0 rfl) ?_
    refine lv_iload hx hb dX12_feed_31 (lv_at hl 4 rfl) ?_
    refine eWvP (va_runV (As := [.int n4]) (rest := []) ⟨hx, hb, hml, hown, hts⟩ (c_X12_push_t l D cI cB cZ cJ tx h q im_12 tp_12 m_tape_12 n4 hz_12_1 (lf_X12_feed_m_13 h q im tp m_tape n1 n2 n3 n4 n5 hf_tp htp c_1 n_2 im_6 tp_6 m_tape_6 hz_6_0 hz_6_1 hz_6_2 hz_6_3 im_9 tp_9 m_tape_9 hz_9_0 hz_9_1 hz_9_2 hz_9_3 im_12 tp_12 m_tape_12 hz_12_0 hz_12_1 hz_12_2 hz_12_3 hsb) H.size) (zV hts k_1614 v_X12_push ⟨Nat.le_of_ble_eq_true rfl, Nat.le_of_ble_eq_true rfl⟩) (pV (pxS hK hP hD [0, 1] (by decide) rfl) hK hP 0 rfl rfl) rfl rfl hl.1 rfl (lv_room (Nat.le_of_ble_eq_true rfl)) dX12_feed_33 ⟨Nat.le_of_ble_eq_true rfl, Nat.le_of_ble_eq_true rfl⟩) hP hD hS hA [0, 1] [some 0, some 1] rfl (by decide +kernel) (fun _ => rfl) (fun u_15 H locs wr_14 hP hD hS => ?_)
    obtain ⟨im_15, tp_15, m_tape_15⟩ := u_15
    have hz_15_0 : SB [1] im_12 im_15 := wr_14.1
    have hz_15_1 : im_15 1 = nI tp_15 := wr_14.2.1
    have hz_15_2 : tp_15 = tp_12 + 4 := wr_14.2.2.1
    have hz_15_3 : m_tape_15 = put4 m_tape_12 tp_12 n4 := wr_14.2.2.2
    have hsb := SB.step hsb hz_15_0 (by decide)
    have hPD := pd_mk (ws := [(h, .inr (12, mG q im_15)), (q 0, .inl (cB, 220, .inl m_tape_15))]) hP hD
    have hP := hPD.1
    have hD := hPD.2
    refine lv_aload_n hx hb dX12_feed_36 rfl (lv_at hl 0 rfl) ?_
    refine lv_iload hx hb dX12_feed_37 (lv_at hl 5 rfl) ?_
    refine eWvP (va_runV (As := [.int n5]) (rest := []) ⟨hx, hb, hml, hown, hts⟩ (c_X12_push_t l D cI cB cZ cJ tx h q im_15 tp_15 m_tape_15 n5 hz_15_1 (lf_X12_feed_m_16 h q im tp m_tape n1 n2 n3 n4 n5 hf_tp htp c_1 n_2 im_6 tp_6 m_tape_6 hz_6_0 hz_6_1 hz_6_2 hz_6_3 im_9 tp_9 m_tape_9 hz_9_0 hz_9_1 hz_9_2 hz_9_3 im_12 tp_12 m_tape_12 hz_12_0 hz_12_1 hz_12_2 hz_12_3 im_15 tp_15 m_tape_15 hz_15_0 hz_15_1 hz_15_2 hz_15_3 hsb) H.size) (zV hts k_1614 v_X12_push ⟨Nat.le_of_ble_eq_true rfl, Nat.le_of_ble_eq_true rfl⟩) (pV (pxS hK hP hD [0, 1] (by decide) rfl) hK hP 0 rfl rfl) rfl rfl hl.1 rfl (lv_room (Nat.le_of_ble_eq_true rfl)) dX12_feed_39 ⟨Nat.le_of_ble_eq_true rfl, Nat.le_of_ble_eq_true rfl⟩) hP hD hS hA [0, 1] [some 0, some 1] rfl (by decide +kernel) (fun _ => rfl) (fun u_18 H locs wr_17 hP hD hS => ?_)
    obtain ⟨im_18, tp_18, m_tape_18⟩ := u_18
    have hz_18_0 : SB [1] im_15 im_18 := wr_17.1
    have hz_18_1 : im_18 1 = nI tp_18 := wr_17.2.1
    have hz_18_2 : tp_18 = tp_15 + 4 := wr_17.2.2.1
    have hz_18_3 : m_tape_18 = put4 m_tape_15 tp_15 n5 := wr_17.2.2.2
    have hsb := SB.step hsb hz_18_0 (by decide)
    have hPD := pd_mk (ws := [(h, .inr (12, mG q im_18)), (q 0, .inl (cB, 220, .inl m_tape_18))]) hP hD
    have hP := hPD.1
    have hD := hPD.2
    refine lv_aload_n hx hb dX12_feed_42 rfl (lv_at hl 0 rfl) ?_
    refine va_get (D := D) (ci := 12) (v := .int (im_18 1)) (C := RX12) (T := TX12) (N := 81) hx hb hts inT_X12 hown hK.1 hP 0 rfl rfl 1 (by decide) (hts _ k_1354) (fun _ h9 => h9) rfl dX12_feed_43 ?_
    refine lv_topv (y := nI tp_18) hz_18_1 ?_
    rw [hQ]
    exact W.iret (v := nI tp_18) hx hb hr (fun tt9 ht hW => ⟨⟨(nI tp_18 : Int32), ((im_18 : Nat → Int32), (tp_18 : Nat), (m_tape_18 : Nat → Int32)), rfl, (lf_X12_feed_m_19 h q im tp m_tape n1 n2 n3 n4 n5 hf_tp htp c_1 n_2 im_6 tp_6 m_tape_6 hz_6_0 hz_6_1 hz_6_2 hz_6_3 im_9 tp_9 m_tape_9 hz_9_0 hz_9_1 hz_9_2 hz_9_3 im_12 tp_12 m_tape_12 hz_12_0 hz_12_1 hz_12_2 hz_12_3 im_15 tp_15 m_tape_15 hz_15_0 hz_15_1 hz_15_2 hz_15_3 im_18 tp_18 m_tape_18 hz_18_0 hz_18_1 hz_18_2 hz_18_3 hsb), ⟨by rw [ht]; exact hP, hD⟩⟩, hS.F ht⟩) hS.2.2 dX12_feed_46 hlocks
  · have n_20 : 220 < (tp + 20) := (lf_X12_feed_m_21 h q im tp m_tape n1 n2 n3 n4 n5 hf_tp htp hsb c_1)
    refine lv_iconst (v := (-1)) hx hb dX12_feed_13 (by decide) ?_
    rw [hQ]
    exact W.iret (v := (-1)) hx hb hr (fun tt9 ht hW => ⟨⟨((-1) : Int32), ((im : Nat → Int32), (tp : Nat), (m_tape : Nat → Int32)), rfl, (lf_X12_feed_m_22 h q im tp m_tape n1 n2 n3 n4 n5 hf_tp htp hsb c_1 n_20), ⟨by rw [ht]; exact hP, hD⟩⟩, hS.F ht⟩) hS.2.2 dX12_feed_14 hlocks

theorem lf_X12_seed_m_4 (h : Nat) (q : Nat → Nat) (im : Nat → Int32) (mh : Int32) (n1 : Int32) (hf_mh : im 5 = mh) (c_2 : (0 : Int32) ≤ n1 ∧ n1 ≤ 65535) (tn1 : Nat) (tn1a : 0 ≤ tn1) (tn1b : tn1 ≤ 65535) (tn1e : n1 = nI tn1) (i_3 : Nat → Int32) (hsb : SB [5] im i_3) (hi_3_5 : i_3 5 = nI tn1) : (SB [5] im (i_3 : Nat → Int32)) ∧ ((i_3 : Nat → Int32) 5 = (nI tn1 : Int32)) ∧ ((nI tn1 : Int32) = seF n1 mh) := by
  refine ⟨by assumption, by assumption, ?_⟩
  first | exact seF_y (by assumption) (by first | rfl | assumption | exact tn1e.symm) | exact seF_n (by assumption)
theorem lf_X12_seed_m_5 (h : Nat) (q : Nat → Nat) (im : Nat → Int32) (mh : Int32) (n1 : Int32) (hf_mh : im 5 = mh) (hsb : SB [5] im im) (c_2 : ¬ ((0 : Int32) ≤ n1 ∧ n1 ≤ 65535)) : (SB [5] im (im : Nat → Int32)) ∧ ((im : Nat → Int32) 5 = (mh : Int32)) ∧ ((mh : Int32) = seF n1 mh) := by
  refine ⟨by assumption, by assumption, ?_⟩
  first | exact seF_y (by assumption) (by first | rfl | assumption | exact tn1e.symm) | exact seF_n (by assumption)
set_option maxHeartbeats 4000000 in
set_option maxRecDepth 100000 in
theorem c_X12_seed_m (l : Launch) (D : va_G) (cI cB cZ cJ : ClassId) (tx : List (ClassId × FieldType)) (h : Nat) (q : Nat → Nat) (im : Nat → Int32) (mh : Int32) (n1 : Int32) (hf_mh : im 5 = mh) : WrI l D cI cB cZ cJ tx yX12_seed cX12_seed 2 (some .boolean) 1 0 0 [.ref h, .int n1] [(h, .inr (12, mG q im))] (fun (r : Int32) (v : (Nat → Int32) × (Int32)) => (SB [5] im v.1) ∧ (v.1 5 = v.2) ∧ (v.2 = seF n1 mh)) (fun v => [(h, .inr (12, mG q v.1))]) := by
  refine wri_of2 (by decide) (Nat.le_of_ble_eq_true rfl) ?_
  intro p e s m below meth c A ls H locs hC hK hP hD hA hS hl
  obtain ⟨hx, hb, hr, hml, hown, hts, hlocks, hin⟩ := hC
  have hown : s.vm.findClass RX12 = some m.cls := hown
  have hl : lv_has ls 2 [(0, .ref h), (1, .int n1)] := hl
  have hsb : SB [5] im im := SB.rf
  refine W_gQ (fun Q hQ => ?_)
  refine lv_iload_n hx hb dX12_seed_0 rfl (lv_at hl 1 rfl) ?_
  refine lv_i2l (v := n1.toInt64) hx hb dX12_seed_1 rfl ?_
  refine lv_lconst (v := 0) hx hb dX12_seed_2 (by decide) ?_
  refine lv_ldc2 (v := 65535) hx hb hown (hts _ k_1609) dX12_seed_3 ?_
  refine eRi (va_runS (As := [.long n1.toInt64, .long 0, .long 65535]) (rest := []) ⟨hx, hb, hml, hown, hts⟩ (c_X12_isIn l D cI cB cZ cJ tx n1.toInt64 0 65535 H.size) (zS hts k_1602 v_X12_isIn ⟨Nat.le_of_ble_eq_true rfl, Nat.le_of_ble_eq_true rfl⟩) (px0 hK) rfl rfl hl.1 rfl (lv_room (Nat.le_of_ble_eq_true rfl)) dX12_seed_6 ⟨Nat.le_of_ble_eq_true rfl, Nat.le_of_ble_eq_true rfl⟩) hP hS hA (fun r_1 H locs wr_1 hP hS => ?_)
  have wr_1 : r_1 = bi ((0 : Int32) ≤ n1 ∧ n1 ≤ 65535) := isIn32 (lo := 0) (hi := 65535) (by decide) (by decide) wr_1
  subst wr_1
  refine lv_bi_ne (tgt := 14) hx hb dX12_seed_9 (by decide) (fun c_2 => ?_) (fun c_2 => ?_)
  · obtain ⟨tn1, tn1a, tn1b, tn1e⟩ := of_rng 0 65535 rfl rfl c_2
    subst tn1e
    refine lv_aload_n hx hb dX12_seed_14 rfl (lv_at hl 0 rfl) ?_
    refine lv_iload_n hx hb dX12_seed_15 rfl (lv_at hl 1 rfl) ?_
    refine va_put (D := D) (ci := 12) (v := .int (nI tn1)) (ty := .int) (C := RX12) (T := TX12) (N := 81) hx hb hts inT_X12 tyX12 tyX12_ok nmX12 hown hK.1 hP hD hS 0 rfl rfl 5 (by decide) (hts _ k_1358) (fun _ h9 => h9) rfl (by decide +kernel) rfl rfl (Nat.le_of_ble_eq_true rfl) dX12_seed_16 (fun H locs hP hD hS => ?_)
    obtain ⟨i_3, ei_3⟩ : ∃ z : Nat → Int32, z = upd im 5 (nI tn1) := ⟨_, rfl⟩
    have hi_3_5 : i_3 5 = nI tn1 := by rw [ei_3]; rfl
    have hsb := SB.put hsb ei_3 (by decide)
    have hP : va_P D vwCl [(h, .inr (12, mG q i_3))] H := by rw [ei_3, ← mG_5]; exact hP
    have hD : va_D A [(h, .inr (12, mG q i_3))] := by rw [ei_3, ← mG_5]; exact hD
    refine lv_iconst (v := 1) hx hb dX12_seed_19 (by decide) ?_
    rw [hQ]
    exact W.zret (v := 1) hx hb hr (by decide) (fun tt9 ht hW => ⟨⟨(1 : Int32), ((i_3 : Nat → Int32), (nI tn1 : Int32)), rfl, (lf_X12_seed_m_4 h q im mh (nI tn1) hf_mh c_2 tn1 tn1a tn1b rfl i_3 hsb hi_3_5), ⟨by rw [ht]; exact hP, hD⟩⟩, hS.F ht⟩) hS.2.2 dX12_seed_20 hlocks
  · refine lv_iconst (v := 0) hx hb dX12_seed_12 (by decide) ?_
    rw [hQ]
    exact W.zret (v := 0) hx hb hr (by decide) (fun tt9 ht hW => ⟨⟨(0 : Int32), ((im : Nat → Int32), (mh : Int32)), rfl, (lf_X12_seed_m_5 h q im mh n1 hf_mh hsb c_2), ⟨by rw [ht]; exact hP, hD⟩⟩, hS.F ht⟩) hS.2.2 dX12_seed_13 hlocks

theorem lf_X12_mound_m_3 (h : Nat) (q : Nat → Nat) (im : Nat → Int32) (m_mounds : Nat → Int32) (n1 : Int32) (n2 : Int32) (c_2 : ¬ ((0 : Int32) ≤ n1 ∧ n1 ≤ 23)) : ((m_mounds : Nat → Int32) = mdF n1 n2 m_mounds) := by
  first | exact mdF_1 (by assumption) | exact mdF_2 (by assumption) | exact mdF_y (by assumption) (by assumption) tn1e (by omega) (by assumption) (by first | rfl | assumption | exact tn2e.symm)
theorem lf_X12_mound_m_7 (h : Nat) (q : Nat → Nat) (im : Nat → Int32) (m_mounds : Nat → Int32) (n1 : Int32) (n2 : Int32) (c_2 : (0 : Int32) ≤ n1 ∧ n1 ≤ 23) (tn1 : Nat) (tn1a : 0 ≤ tn1) (tn1b : tn1 ≤ 23) (tn1e : n1 = nI tn1) (c_5 : (0 : Int32) ≤ n2 ∧ n2 ≤ 1000) (tn2 : Nat) (tn2a : 0 ≤ tn2) (tn2b : tn2 ≤ 1000) (tn2e : n2 = nI tn2) : tn1 < 24 := by
  omega
theorem lf_X12_mound_m_8 (h : Nat) (q : Nat → Nat) (im : Nat → Int32) (m_mounds : Nat → Int32) (n1 : Int32) (n2 : Int32) (c_2 : (0 : Int32) ≤ n1 ∧ n1 ≤ 23) (tn1 : Nat) (tn1a : 0 ≤ tn1) (tn1b : tn1 ≤ 23) (tn1e : n1 = nI tn1) (c_5 : (0 : Int32) ≤ n2 ∧ n2 ≤ 1000) (tn2 : Nat) (tn2a : 0 ≤ tn2) (tn2b : tn2 ≤ 1000) (tn2e : n2 = nI tn2) (f_6 : Nat → Int32) (ef_6 : f_6 = upd m_mounds tn1 (nI tn2)) : ((f_6 : Nat → Int32) = mdF n1 n2 m_mounds) := by
  first | exact mdF_1 (by assumption) | exact mdF_2 (by assumption) | exact mdF_y (by assumption) (by assumption) tn1e (by omega) (by assumption) (by first | rfl | assumption | exact tn2e.symm)
theorem lf_X12_mound_m_9 (h : Nat) (q : Nat → Nat) (im : Nat → Int32) (m_mounds : Nat → Int32) (n1 : Int32) (n2 : Int32) (c_2 : (0 : Int32) ≤ n1 ∧ n1 ≤ 23) (tn1 : Nat) (tn1a : 0 ≤ tn1) (tn1b : tn1 ≤ 23) (tn1e : n1 = nI tn1) (c_5 : ¬ ((0 : Int32) ≤ n2 ∧ n2 ≤ 1000)) : ((m_mounds : Nat → Int32) = mdF n1 n2 m_mounds) := by
  first | exact mdF_1 (by assumption) | exact mdF_2 (by assumption) | exact mdF_y (by assumption) (by assumption) tn1e (by omega) (by assumption) (by first | rfl | assumption | exact tn2e.symm)
set_option maxHeartbeats 4000000 in
set_option maxRecDepth 100000 in
theorem c_X12_mound_m (l : Launch) (D : va_G) (cI cB cZ cJ : ClassId) (tx : List (ClassId × FieldType)) (h : Nat) (q : Nat → Nat) (im : Nat → Int32) (m_mounds : Nat → Int32) (n1 : Int32) (n2 : Int32) : WrI l D cI cB cZ cJ tx yX12_mound cX12_mound 3 (some .boolean) 1 0 0 [.ref h, .int n1, .int n2] [(h, .inr (12, mG q im)), (q 48, .inl (cI, 24, .inl m_mounds))] (fun (r : Int32) (v : (Nat → Int32)) => (v = mdF n1 n2 m_mounds)) (fun v => [(h, .inr (12, mG q im)), (q 48, .inl (cI, 24, .inl v))]) := by
  refine wri_of2 (by decide) (Nat.le_of_ble_eq_true rfl) ?_
  intro p e s m below meth c A ls H locs hC hK hP hD hA hS hl
  obtain ⟨hx, hb, hr, hml, hown, hts, hlocks, hin⟩ := hC
  have hown : s.vm.findClass RX12 = some m.cls := hown
  have hl : lv_has ls 3 [(0, .ref h), (1, .int n1), (2, .int n2)] := hl
  refine W_gQ (fun Q hQ => ?_)
  refine lv_iload_n hx hb dX12_mound_0 rfl (lv_at hl 1 rfl) ?_
  refine lv_i2l (v := n1.toInt64) hx hb dX12_mound_1 rfl ?_
  refine lv_lconst (v := 0) hx hb dX12_mound_2 (by decide) ?_
  refine lv_ldc2 (v := 23) hx hb hown (hts _ k_1773) dX12_mound_3 ?_
  refine eRi (va_runS (As := [.long n1.toInt64, .long 0, .long 23]) (rest := []) ⟨hx, hb, hml, hown, hts⟩ (c_X12_isIn l D cI cB cZ cJ tx n1.toInt64 0 23 H.size) (zS hts k_1602 v_X12_isIn ⟨Nat.le_of_ble_eq_true rfl, Nat.le_of_ble_eq_true rfl⟩) (px0 hK) rfl rfl hl.1 rfl (lv_room (Nat.le_of_ble_eq_true rfl)) dX12_mound_6 ⟨Nat.le_of_ble_eq_true rfl, Nat.le_of_ble_eq_true rfl⟩) hP hS hA (fun r_1 H locs wr_1 hP hS => ?_)
  have wr_1 : r_1 = bi ((0 : Int32) ≤ n1 ∧ n1 ≤ 23) := isIn32 (lo := 0) (hi := 23) (by decide) (by decide) wr_1
  subst wr_1
  refine lv_bi_eq (tgt := 24) hx hb dX12_mound_9 (by decide) (fun c_2 => ?_) (fun c_2 => ?_)
  · refine lv_iconst (v := 0) hx hb dX12_mound_24 (by decide) ?_
    rw [hQ]
    exact W.zret (v := 0) hx hb hr (by decide) (fun tt9 ht hW => ⟨⟨(0 : Int32), ((m_mounds : Nat → Int32)), rfl, (lf_X12_mound_m_3 h q im m_mounds n1 n2 c_2), ⟨by rw [ht]; exact hP, hD⟩⟩, hS.F ht⟩) hS.2.2 dX12_mound_25 hlocks
  · obtain ⟨tn1, tn1a, tn1b, tn1e⟩ := of_rng 0 23 rfl rfl c_2
    subst tn1e
    refine lv_iload_n hx hb dX12_mound_12 rfl (lv_at hl 2 rfl) ?_
    refine lv_i2l (v := n2.toInt64) hx hb dX12_mound_13 rfl ?_
    refine lv_lconst (v := 0) hx hb dX12_mound_14 (by decide) ?_
    refine lv_ldc2 (v := 1000) hx hb hown (hts _ k_1601) dX12_mound_15 ?_
    refine eRi (va_runS (As := [.long n2.toInt64, .long 0, .long 1000]) (rest := []) ⟨hx, hb, hml, hown, hts⟩ (c_X12_isIn l D cI cB cZ cJ tx n2.toInt64 0 1000 H.size) (zS hts k_1602 v_X12_isIn ⟨Nat.le_of_ble_eq_true rfl, Nat.le_of_ble_eq_true rfl⟩) (px0 hK) rfl rfl hl.1 rfl (lv_room (Nat.le_of_ble_eq_true rfl)) dX12_mound_18 ⟨Nat.le_of_ble_eq_true rfl, Nat.le_of_ble_eq_true rfl⟩) hP hS hA (fun r_4 H locs wr_4 hP hS => ?_)
    have wr_4 : r_4 = bi ((0 : Int32) ≤ n2 ∧ n2 ≤ 1000) := isIn32 (lo := 0) (hi := 1000) (by decide) (by decide) wr_4
    subst wr_4
    refine lv_bi_ne (tgt := 26) hx hb dX12_mound_21 (by decide) (fun c_5 => ?_) (fun c_5 => ?_)
    · obtain ⟨tn2, tn2a, tn2b, tn2e⟩ := of_rng 0 1000 rfl rfl c_5
      subst tn2e
      refine lv_aload_n hx hb dX12_mound_26 rfl (lv_at hl 0 rfl) ?_
      refine va_get (D := D) (ci := 12) (v := .ref (q 48)) (C := RX12) (T := TX12) (N := 81) hx hb hts inT_X12 hown hK.1 hP 0 rfl rfl 48 (by decide) (hts _ k_1401) (fun _ h9 => h9) rfl dX12_mound_27 ?_
      refine lv_iload_n hx hb dX12_mound_30 rfl (lv_at hl 1 rfl) ?_
      refine lv_iload_n hx hb dX12_mound_31 rfl (lv_at hl 2 rfl) ?_
      refine su_i (j := tn1) hx hb hK hP hD hS 1 rfl (lf_X12_mound_m_7 h q im m_mounds (nI tn1) (nI tn2) c_2 tn1 tn1a tn1b rfl c_5 tn2 tn2a tn2b rfl) (by first | decide | assumption) dX12_mound_32 (fun f_6 H locs ef_6 hP hD hS => ?_)
      have hPD := pd_mk (ws := [(h, .inr (12, mG q im)), (q 48, .inl (cI, 24, .inl f_6))]) hP hD
      have hP := hPD.1
      have hD := hPD.2
      refine lv_iconst (v := 1) hx hb dX12_mound_33 (by decide) ?_
      rw [hQ]
      exact W.zret (v := 1) hx hb hr (by decide) (fun tt9 ht hW => ⟨⟨(1 : Int32), ((f_6 : Nat → Int32)), rfl, (lf_X12_mound_m_8 h q im m_mounds (nI tn1) (nI tn2) c_2 tn1 tn1a tn1b rfl c_5 tn2 tn2a tn2b rfl f_6 ef_6), ⟨by rw [ht]; exact hP, hD⟩⟩, hS.F ht⟩) hS.2.2 dX12_mound_34 hlocks
    · refine lv_iconst (v := 0) hx hb dX12_mound_24 (by decide) ?_
      rw [hQ]
      exact W.zret (v := 0) hx hb hr (by decide) (fun tt9 ht hW => ⟨⟨(0 : Int32), ((m_mounds : Nat → Int32)), rfl, (lf_X12_mound_m_9 h q im m_mounds (nI tn1) n2 c_2 tn1 tn1a tn1b rfl c_5), ⟨by rw [ht]; exact hP, hD⟩⟩, hS.F ht⟩) hS.2.2 dX12_mound_25 hlocks

theorem lf_X12_lies_m_1 (h : Nat) (q : Nat → Nat) (im : Nat → Int32) (ms : Nat) (mk : Nat) (m_across : Nat → Int32) (m_deep : Nat → Int32) (m_isGone : Nat → Int32) (m_isKnown : Nat → Int32) (n1 : Int32) (n2 : Int32) (n3 : Int32) (n4 : Int32) (n5 : Int32) (hf_ms : im 2 = nI ms) (hf_mk : im 3 = nI mk) (hms : ms ≤ 24) (hmk : mk ≤ 8) (hm3 : mk = 0 ∨ 3 ≤ ms) (hac : ∀ p, in3 (m_across p)) : ms ≤ 24 := by
  first | assumption | omega | decide | rfl
theorem lf_X12_lies_m_2 (h : Nat) (q : Nat → Nat) (im : Nat → Int32) (ms : Nat) (mk : Nat) (m_across : Nat → Int32) (m_deep : Nat → Int32) (m_isGone : Nat → Int32) (m_isKnown : Nat → Int32) (n1 : Int32) (n2 : Int32) (n3 : Int32) (n4 : Int32) (n5 : Int32) (hf_ms : im 2 = nI ms) (hf_mk : im 3 = nI mk) (hms : ms ≤ 24) (hmk : mk ≤ 8) (hm3 : mk = 0 ∨ 3 ≤ ms) (hac : ∀ p, in3 (m_across p)) : mk ≤ 8 := by
  first | assumption | omega | decide | rfl
theorem lf_X12_lies_m_3 (h : Nat) (q : Nat → Nat) (im : Nat → Int32) (ms : Nat) (mk : Nat) (m_across : Nat → Int32) (m_deep : Nat → Int32) (m_isGone : Nat → Int32) (m_isKnown : Nat → Int32) (n1 : Int32) (n2 : Int32) (n3 : Int32) (n4 : Int32) (n5 : Int32) (hf_ms : im 2 = nI ms) (hf_mk : im 3 = nI mk) (hms : ms ≤ 24) (hmk : mk ≤ 8) (hm3 : mk = 0 ∨ 3 ≤ ms) (hac : ∀ p, in3 (m_across p)) : mk = 0 ∨ 3 ≤ ms := by
  first | assumption | omega | decide | rfl
theorem lf_X12_lies_m_5 (h : Nat) (q : Nat → Nat) (im : Nat → Int32) (ms : Nat) (mk : Nat) (m_across : Nat → Int32) (m_deep : Nat → Int32) (m_isGone : Nat → Int32) (m_isKnown : Nat → Int32) (n1 : Int32) (n2 : Int32) (n3 : Int32) (n4 : Int32) (n5 : Int32) (hf_ms : im 2 = nI ms) (hf_mk : im 3 = nI mk) (hms : ms ≤ 24) (hmk : mk ≤ 8) (hm3 : mk = 0 ∨ 3 ≤ ms) (hac : ∀ p, in3 (m_across p)) (hrv4 : ¬ RV n1 n2 n3 ms mk) : (∀ p, in3 ((m_across : Nat → Int32) p)) ∧ ((((m_across : Nat → Int32), (m_deep : Nat → Int32), (m_isGone : Nat → Int32)) : T3) = lieF n1 n2 n3 n4 n5 ms mk (m_across, m_deep, m_isGone)) ∧ (KW (LOK n1 n2 n3 n4 n5 ms mk) m_isKnown (m_isKnown : Nat → Int32)) := by
  refine ⟨?_, ?_, ?_⟩
  · first | assumption | exact in3_upd hac (by assumption) (in3_of (Or.inr (by assumption)))
  · first | exact lie_1 (by assumption) | exact lie_2 (by assumption) | exact lie_3 (by assumption) | exact lie_y (by assumption) (by assumption) (by assumption) (by assumption) (by assumption) (by assumption) hms hmk (by assumption) (by assumption) (by assumption) (by assumption) (by assumption) (by omega) (by omega) (by omega)
  · first | exact KW.n (fun w => absurd w.1 (by assumption)) | exact KW.n (fun w => absurd w.2.1 (by assumption)) | exact KW.n (fun w => absurd w.2.2 (by assumption)) | exact KW.y ⟨RV_e (by assumption) (by assumption) (by assumption) (by assumption) (by assumption) (by assumption) hms hmk, by assumption, by assumption⟩ (by assumption)
theorem lf_X12_lies_m_8 (h : Nat) (q : Nat → Nat) (im : Nat → Int32) (ms : Nat) (mk : Nat) (m_across : Nat → Int32) (m_deep : Nat → Int32) (m_isGone : Nat → Int32) (m_isKnown : Nat → Int32) (n1 : Int32) (n2 : Int32) (n3 : Int32) (n4 : Int32) (n5 : Int32) (hf_ms : im 2 = nI ms) (hf_mk : im 3 = nI mk) (hms : ms ≤ 24) (hmk : mk ≤ 8) (hm3 : mk = 0 ∨ 3 ≤ ms) (hac : ∀ p, in3 (m_across p)) (ff4 : Nat) (ss4 : Nat) (dd4 : Nat) (hff4 : ff4 < ms) (hss4 : ss4 < mk) (hdd4 : dd4 < 2) (qff4 : n1 = nI ff4) (qss4 : n2 = nI ss4) (qdd4 : n3 = nI dd4) (c_7 : ¬ (((-3000) : Int32) ≤ n4 ∧ n4 ≤ 3000)) : (∀ p, in3 ((m_across : Nat → Int32) p)) ∧ ((((m_across : Nat → Int32), (m_deep : Nat → Int32), (m_isGone : Nat → Int32)) : T3) = lieF n1 n2 n3 n4 n5 ms mk (m_across, m_deep, m_isGone)) ∧ (KW (LOK n1 n2 n3 n4 n5 ms mk) m_isKnown (m_isKnown : Nat → Int32)) := by
  refine ⟨?_, ?_, ?_⟩
  · first | assumption | exact in3_upd hac (by assumption) (in3_of (Or.inr (by assumption)))
  · first | exact lie_1 (by assumption) | exact lie_2 (by assumption) | exact lie_3 (by assumption) | exact lie_y (by assumption) (by assumption) (by assumption) (by assumption) (by assumption) (by assumption) hms hmk (by assumption) (by assumption) (by assumption) (by assumption) (by assumption) (by omega) (by omega) (by omega)
  · first | exact KW.n (fun w => absurd w.1 (by assumption)) | exact KW.n (fun w => absurd w.2.1 (by assumption)) | exact KW.n (fun w => absurd w.2.2 (by assumption)) | exact KW.y ⟨RV_e (by assumption) (by assumption) (by assumption) (by assumption) (by assumption) (by assumption) hms hmk, by assumption, by assumption⟩ (by assumption)
theorem lf_X12_lies_m_13 (h : Nat) (q : Nat → Nat) (im : Nat → Int32) (ms : Nat) (mk : Nat) (m_across : Nat → Int32) (m_deep : Nat → Int32) (m_isGone : Nat → Int32) (m_isKnown : Nat → Int32) (n1 : Int32) (n2 : Int32) (n3 : Int32) (n4 : Int32) (n5 : Int32) (hf_ms : im 2 = nI ms) (hf_mk : im 3 = nI mk) (hms : ms ≤ 24) (hmk : mk ≤ 8) (hm3 : mk = 0 ∨ 3 ≤ ms) (hac : ∀ p, in3 (m_across p)) (ff4 : Nat) (ss4 : Nat) (dd4 : Nat) (hff4 : ff4 < ms) (hss4 : ss4 < mk) (hdd4 : dd4 < 2) (qff4 : n1 = nI ff4) (qss4 : n2 = nI ss4) (qdd4 : n3 = nI dd4) (c_7 : ((-3000) : Int32) ≤ n4 ∧ n4 ≤ 3000) (c_10 : ((-3000) : Int32) ≤ n5 ∧ n5 ≤ 3000) : (16 * ff4 + 2 * ss4 + dd4) < 384 := by
  omega
theorem lf_X12_lies_m_16 (h : Nat) (q : Nat → Nat) (im : Nat → Int32) (ms : Nat) (mk : Nat) (m_across : Nat → Int32) (m_deep : Nat → Int32) (m_isGone : Nat → Int32) (m_isKnown : Nat → Int32) (n1 : Int32) (n2 : Int32) (n3 : Int32) (n4 : Int32) (n5 : Int32) (hf_ms : im 2 = nI ms) (hf_mk : im 3 = nI mk) (hms : ms ≤ 24) (hmk : mk ≤ 8) (hm3 : mk = 0 ∨ 3 ≤ ms) (hac : ∀ p, in3 (m_across p)) (ff4 : Nat) (ss4 : Nat) (dd4 : Nat) (hff4 : ff4 < ms) (hss4 : ss4 < mk) (hdd4 : dd4 < 2) (qff4 : n1 = nI ff4) (qss4 : n2 = nI ss4) (qdd4 : n3 = nI dd4) (c_7 : ((-3000) : Int32) ≤ n4 ∧ n4 ≤ 3000) (c_10 : ((-3000) : Int32) ≤ n5 ∧ n5 ≤ 3000) (f_12 : Nat → Int32) (ef_12 : f_12 = upd m_across (16 * ff4 + 2 * ss4 + dd4) n4) : (16 * ff4 + 2 * ss4 + dd4) < 384 := by
  omega
theorem lf_X12_lies_m_19 (h : Nat) (q : Nat → Nat) (im : Nat → Int32) (ms : Nat) (mk : Nat) (m_across : Nat → Int32) (m_deep : Nat → Int32) (m_isGone : Nat → Int32) (m_isKnown : Nat → Int32) (n1 : Int32) (n2 : Int32) (n3 : Int32) (n4 : Int32) (n5 : Int32) (hf_ms : im 2 = nI ms) (hf_mk : im 3 = nI mk) (hms : ms ≤ 24) (hmk : mk ≤ 8) (hm3 : mk = 0 ∨ 3 ≤ ms) (hac : ∀ p, in3 (m_across p)) (ff4 : Nat) (ss4 : Nat) (dd4 : Nat) (hff4 : ff4 < ms) (hss4 : ss4 < mk) (hdd4 : dd4 < 2) (qff4 : n1 = nI ff4) (qss4 : n2 = nI ss4) (qdd4 : n3 = nI dd4) (c_7 : ((-3000) : Int32) ≤ n4 ∧ n4 ≤ 3000) (c_10 : ((-3000) : Int32) ≤ n5 ∧ n5 ≤ 3000) (f_12 : Nat → Int32) (ef_12 : f_12 = upd m_across (16 * ff4 + 2 * ss4 + dd4) n4) (f_15 : Nat → Int32) (ef_15 : f_15 = upd m_deep (16 * ff4 + 2 * ss4 + dd4) n5) : (16 * ff4 + 2 * ss4 + dd4) < 384 := by
  omega
theorem lf_X12_lies_m_22 (h : Nat) (q : Nat → Nat) (im : Nat → Int32) (ms : Nat) (mk : Nat) (m_across : Nat → Int32) (m_deep : Nat → Int32) (m_isGone : Nat → Int32) (m_isKnown : Nat → Int32) (n1 : Int32) (n2 : Int32) (n3 : Int32) (n4 : Int32) (n5 : Int32) (hf_ms : im 2 = nI ms) (hf_mk : im 3 = nI mk) (hms : ms ≤ 24) (hmk : mk ≤ 8) (hm3 : mk = 0 ∨ 3 ≤ ms) (hac : ∀ p, in3 (m_across p)) (ff4 : Nat) (ss4 : Nat) (dd4 : Nat) (hff4 : ff4 < ms) (hss4 : ss4 < mk) (hdd4 : dd4 < 2) (qff4 : n1 = nI ff4) (qss4 : n2 = nI ss4) (qdd4 : n3 = nI dd4) (c_7 : ((-3000) : Int32) ≤ n4 ∧ n4 ≤ 3000) (c_10 : ((-3000) : Int32) ≤ n5 ∧ n5 ≤ 3000) (f_12 : Nat → Int32) (ef_12 : f_12 = upd m_across (16 * ff4 + 2 * ss4 + dd4) n4) (f_15 : Nat → Int32) (ef_15 : f_15 = upd m_deep (16 * ff4 + 2 * ss4 + dd4) n5) (f_18 : Nat → Int32) (ef_18 : f_18 = upd m_isGone (16 * ff4 + 2 * ss4 + dd4) (vp_nar .boolean 0)) (m_isKnown_21 : Nat → Int32) (hz_21_0 : KZ m_isKnown_21) : (∀ p, in3 ((f_12 : Nat → Int32) p)) ∧ ((((f_12 : Nat → Int32), (f_15 : Nat → Int32), (f_18 : Nat → Int32)) : T3) = lieF n1 n2 n3 n4 n5 ms mk (m_across, m_deep, m_isGone)) ∧ (KW (LOK n1 n2 n3 n4 n5 ms mk) m_isKnown (m_isKnown_21 : Nat → Int32)) := by
  refine ⟨?_, ?_, ?_⟩
  · first | assumption | exact in3_upd hac (by assumption) (in3_of (Or.inr (by assumption)))
  · first | exact lie_1 (by assumption) | exact lie_2 (by assumption) | exact lie_3 (by assumption) | exact lie_y (by assumption) (by assumption) (by assumption) (by assumption) (by assumption) (by assumption) hms hmk (by assumption) (by assumption) (by assumption) (by assumption) (by assumption) (by omega) (by omega) (by omega)
  · first | exact KW.n (fun w => absurd w.1 (by assumption)) | exact KW.n (fun w => absurd w.2.1 (by assumption)) | exact KW.n (fun w => absurd w.2.2 (by assumption)) | exact KW.y ⟨RV_e (by assumption) (by assumption) (by assumption) (by assumption) (by assumption) (by assumption) hms hmk, by assumption, by assumption⟩ (by assumption)
theorem lf_X12_lies_m_23 (h : Nat) (q : Nat → Nat) (im : Nat → Int32) (ms : Nat) (mk : Nat) (m_across : Nat → Int32) (m_deep : Nat → Int32) (m_isGone : Nat → Int32) (m_isKnown : Nat → Int32) (n1 : Int32) (n2 : Int32) (n3 : Int32) (n4 : Int32) (n5 : Int32) (hf_ms : im 2 = nI ms) (hf_mk : im 3 = nI mk) (hms : ms ≤ 24) (hmk : mk ≤ 8) (hm3 : mk = 0 ∨ 3 ≤ ms) (hac : ∀ p, in3 (m_across p)) (ff4 : Nat) (ss4 : Nat) (dd4 : Nat) (hff4 : ff4 < ms) (hss4 : ss4 < mk) (hdd4 : dd4 < 2) (qff4 : n1 = nI ff4) (qss4 : n2 = nI ss4) (qdd4 : n3 = nI dd4) (c_7 : ((-3000) : Int32) ≤ n4 ∧ n4 ≤ 3000) (c_10 : ¬ (((-3000) : Int32) ≤ n5 ∧ n5 ≤ 3000)) : (∀ p, in3 ((m_across : Nat → Int32) p)) ∧ ((((m_across : Nat → Int32), (m_deep : Nat → Int32), (m_isGone : Nat → Int32)) : T3) = lieF n1 n2 n3 n4 n5 ms mk (m_across, m_deep, m_isGone)) ∧ (KW (LOK n1 n2 n3 n4 n5 ms mk) m_isKnown (m_isKnown : Nat → Int32)) := by
  refine ⟨?_, ?_, ?_⟩
  · first | assumption | exact in3_upd hac (by assumption) (in3_of (Or.inr (by assumption)))
  · first | exact lie_1 (by assumption) | exact lie_2 (by assumption) | exact lie_3 (by assumption) | exact lie_y (by assumption) (by assumption) (by assumption) (by assumption) (by assumption) (by assumption) hms hmk (by assumption) (by assumption) (by assumption) (by assumption) (by assumption) (by omega) (by omega) (by omega)
  · first | exact KW.n (fun w => absurd w.1 (by assumption)) | exact KW.n (fun w => absurd w.2.1 (by assumption)) | exact KW.n (fun w => absurd w.2.2 (by assumption)) | exact KW.y ⟨RV_e (by assumption) (by assumption) (by assumption) (by assumption) (by assumption) (by assumption) hms hmk, by assumption, by assumption⟩ (by assumption)
set_option maxHeartbeats 4000000 in
set_option maxRecDepth 100000 in
theorem c_X12_lies_m (l : Launch) (D : va_G) (cI cB cZ cJ : ClassId) (tx : List (ClassId × FieldType)) (h : Nat) (q : Nat → Nat) (im : Nat → Int32) (ms : Nat) (mk : Nat) (m_across : Nat → Int32) (m_deep : Nat → Int32) (m_isGone : Nat → Int32) (m_isKnown : Nat → Int32) (n1 : Int32) (n2 : Int32) (n3 : Int32) (n4 : Int32) (n5 : Int32) (hf_ms : im 2 = nI ms) (hf_mk : im 3 = nI mk) (hms : ms ≤ 24) (hmk : mk ≤ 8) (hm3 : mk = 0 ∨ 3 ≤ ms) (hac : ∀ p, in3 (m_across p)) : WrI l D cI cB cZ cJ tx yX12_lies cX12_lies 6 (some .boolean) 3 0 0 [.ref h, .int n1, .int n2, .int n3, .int n4, .int n5] [(h, .inr (12, mG q im)), (q 44, .inl (cI, 384, .inl m_across)), (q 45, .inl (cI, 384, .inl m_deep)), (q 46, .inl (cZ, 384, .inl m_isGone)), (q 66, .inl (cZ, 8, .inl m_isKnown))] (fun (r : Int32) (v : (Nat → Int32) × (Nat → Int32) × (Nat → Int32) × (Nat → Int32)) => (∀ p, in3 (v.1 p)) ∧ (((v.1, v.2.1, v.2.2.1) : T3) = lieF n1 n2 n3 n4 n5 ms mk (m_across, m_deep, m_isGone)) ∧ (KW (LOK n1 n2 n3 n4 n5 ms mk) m_isKnown v.2.2.2)) (fun v => [(h, .inr (12, mG q im)), (q 44, .inl (cI, 384, .inl v.1)), (q 45, .inl (cI, 384, .inl v.2.1)), (q 46, .inl (cZ, 384, .inl v.2.2.1)), (q 66, .inl (cZ, 8, .inl v.2.2.2))]) := by
  refine wri_of2 (by decide) (Nat.le_of_ble_eq_true rfl) ?_
  intro p e s m below meth c A ls H locs hC hK hP hD hA hS hl
  obtain ⟨hx, hb, hr, hml, hown, hts, hlocks, hin⟩ := hC
  have hown : s.vm.findClass RX12 = some m.cls := hown
  have hl : lv_has ls 6 [(0, .ref h), (1, .int n1), (2, .int n2), (3, .int n3), (4, .int n4), (5, .int n5)] := hl
  refine W_gQ (fun Q hQ => ?_)
  refine lv_aload_n hx hb dX12_lies_0 rfl (lv_at hl 0 rfl) ?_
  refine lv_iload_n hx hb dX12_lies_1 rfl (lv_at hl 1 rfl) ?_
  refine lv_iload_n hx hb dX12_lies_2 rfl (lv_at hl 2 rfl) ?_
  refine lv_iload_n hx hb dX12_lies_3 rfl (lv_at hl 3 rfl) ?_
  refine eRi (va_runV (As := [.int n1, .int n2, .int n3]) (rest := []) ⟨hx, hb, hml, hown, hts⟩ (c_X12_isRivet_f l D cI cB cZ cJ tx h q im ms mk n1 n2 n3 hf_ms hf_mk (lf_X12_lies_m_1 h q im ms mk m_across m_deep m_isGone m_isKnown n1 n2 n3 n4 n5 hf_ms hf_mk hms hmk hm3 hac) (lf_X12_lies_m_2 h q im ms mk m_across m_deep m_isGone m_isKnown n1 n2 n3 n4 n5 hf_ms hf_mk hms hmk hm3 hac) (lf_X12_lies_m_3 h q im ms mk m_across m_deep m_isGone m_isKnown n1 n2 n3 n4 n5 hf_ms hf_mk hms hmk hm3 hac) H.size) (zV hts k_1799 v_X12_isRivet ⟨Nat.le_of_ble_eq_true rfl, Nat.le_of_ble_eq_true rfl⟩) (pV (px1 hK hP 0 rfl) hK hP 0 rfl rfl) rfl rfl hl.1 rfl (lv_room (Nat.le_of_ble_eq_true rfl)) dX12_lies_4 ⟨Nat.le_of_ble_eq_true rfl, Nat.le_of_ble_eq_true rfl⟩) hP hS hA (fun r_4 H locs wr_4 hP hS => ?_)
  rcases wr_4 with ⟨rfl, hrv4⟩ | ⟨ff4, ss4, dd4, hff4, hss4, hdd4, rfl, rfl, rfl, rfl⟩
  · refine lv_if_eq (tgt := 40) hx hb dX12_lies_7 (by decide) (fun _ => ?_) (fun c => absurd c (by decide))
    refine lv_iconst (v := 0) hx hb dX12_lies_40 (by decide) ?_
    rw [hQ]
    exact W.zret (v := 0) hx hb hr (by decide) (fun tt9 ht hW => ⟨⟨(0 : Int32), ((m_across : Nat → Int32), (m_deep : Nat → Int32), (m_isGone : Nat → Int32), (m_isKnown : Nat → Int32)), rfl, (lf_X12_lies_m_5 h q im ms mk m_across m_deep m_isGone m_isKnown n1 n2 n3 n4 n5 hf_ms hf_mk hms hmk hm3 hac hrv4), ⟨by rw [ht]; exact hP, hD⟩⟩, hS.F ht⟩) hS.2.2 dX12_lies_41 hlocks
  · refine lv_if_eq (tgt := 40) hx hb dX12_lies_7 (by decide) (fun c => absurd c (by decide)) (fun _ => ?_)
    refine lv_iload hx hb dX12_lies_10 (lv_at hl 4 rfl) ?_
    refine lv_i2l (v := n4.toInt64) hx hb dX12_lies_12 rfl ?_
    refine lv_ldc2 (v := (-3000)) hx hb hown (hts _ k_1811) dX12_lies_13 ?_
    refine lv_ldc2 (v := 3000) hx hb hown (hts _ k_1812) dX12_lies_16 ?_
    refine eRi (va_runS (As := [.long n4.toInt64, .long (-3000), .long 3000]) (rest := []) ⟨hx, hb, hml, hown, hts⟩ (c_X12_isIn l D cI cB cZ cJ tx n4.toInt64 (-3000) 3000 H.size) (zS hts k_1602 v_X12_isIn ⟨Nat.le_of_ble_eq_true rfl, Nat.le_of_ble_eq_true rfl⟩) (px0 hK) rfl rfl hl.1 rfl (lv_room (Nat.le_of_ble_eq_true rfl)) dX12_lies_19 ⟨Nat.le_of_ble_eq_true rfl, Nat.le_of_ble_eq_true rfl⟩) hP hS hA (fun r_6 H locs wr_6 hP hS => ?_)
    have wr_6 : r_6 = bi (((-3000) : Int32) ≤ n4 ∧ n4 ≤ 3000) := isIn32 (lo := (-3000)) (hi := 3000) (by decide) (by decide) wr_6
    subst wr_6
    refine lv_bi_eq (tgt := 40) hx hb dX12_lies_22 (by decide) (fun c_7 => ?_) (fun c_7 => ?_)
    · refine lv_iconst (v := 0) hx hb dX12_lies_40 (by decide) ?_
      rw [hQ]
      exact W.zret (v := 0) hx hb hr (by decide) (fun tt9 ht hW => ⟨⟨(0 : Int32), ((m_across : Nat → Int32), (m_deep : Nat → Int32), (m_isGone : Nat → Int32), (m_isKnown : Nat → Int32)), rfl, (lf_X12_lies_m_8 h q im ms mk m_across m_deep m_isGone m_isKnown (nI ff4) (nI ss4) (nI dd4) n4 n5 hf_ms hf_mk hms hmk hm3 hac ff4 ss4 dd4 hff4 hss4 hdd4 rfl rfl rfl c_7), ⟨by rw [ht]; exact hP, hD⟩⟩, hS.F ht⟩) hS.2.2 dX12_lies_41 hlocks
    · refine lv_iload hx hb dX12_lies_25 (lv_at hl 5 rfl) ?_
      refine lv_i2l (v := n5.toInt64) hx hb dX12_lies_27 rfl ?_
      refine lv_ldc2 (v := (-3000)) hx hb hown (hts _ k_1811) dX12_lies_28 ?_
      refine lv_ldc2 (v := 3000) hx hb hown (hts _ k_1812) dX12_lies_31 ?_
      refine eRi (va_runS (As := [.long n5.toInt64, .long (-3000), .long 3000]) (rest := []) ⟨hx, hb, hml, hown, hts⟩ (c_X12_isIn l D cI cB cZ cJ tx n5.toInt64 (-3000) 3000 H.size) (zS hts k_1602 v_X12_isIn ⟨Nat.le_of_ble_eq_true rfl, Nat.le_of_ble_eq_true rfl⟩) (px0 hK) rfl rfl hl.1 rfl (lv_room (Nat.le_of_ble_eq_true rfl)) dX12_lies_34 ⟨Nat.le_of_ble_eq_true rfl, Nat.le_of_ble_eq_true rfl⟩) hP hS hA (fun r_9 H locs wr_9 hP hS => ?_)
      have wr_9 : r_9 = bi (((-3000) : Int32) ≤ n5 ∧ n5 ≤ 3000) := isIn32 (lo := (-3000)) (hi := 3000) (by decide) (by decide) wr_9
      subst wr_9
      refine lv_bi_ne (tgt := 42) hx hb dX12_lies_37 (by decide) (fun c_10 => ?_) (fun c_10 => ?_)
      · refine lv_aload_n hx hb dX12_lies_42 rfl (lv_at hl 0 rfl) ?_
        refine va_get (D := D) (ci := 12) (v := .ref (q 44)) (C := RX12) (T := TX12) (N := 81) hx hb hts inT_X12 hown hK.1 hP 0 rfl rfl 44 (by decide) (hts _ k_1397) (fun _ h9 => h9) rfl dX12_lies_43 ?_
        refine lv_iload_n hx hb dX12_lies_46 rfl (lv_at hl 1 rfl) ?_
        refine lv_iload_n hx hb dX12_lies_47 rfl (lv_at hl 2 rfl) ?_
        refine lv_iload_n hx hb dX12_lies_48 rfl (lv_at hl 3 rfl) ?_
        refine eRi (va_runS (As := [.int (nI ff4), .int (nI ss4), .int (nI dd4)]) (rest := [.ref (q 44)]) ⟨hx, hb, hml, hown, hts⟩ (c_X12_cellOf l D cI cB cZ cJ tx ff4 ss4 dd4 H.size) (zS hts k_1735 v_X12_cellOf ⟨Nat.le_of_ble_eq_true rfl, Nat.le_of_ble_eq_true rfl⟩) (px0 hK) rfl rfl hl.1 rfl (lv_room (Nat.le_of_ble_eq_true rfl)) dX12_lies_49 ⟨Nat.le_of_ble_eq_true rfl, Nat.le_of_ble_eq_true rfl⟩) hP hS hA (fun r_11 H locs wr_11 hP hS => ?_)
        subst wr_11
        refine lv_iload hx hb dX12_lies_52 (lv_at hl 4 rfl) ?_
        refine su_i (j := (16 * ff4 + 2 * ss4 + dd4)) hx hb hK hP hD hS 1 rfl (lf_X12_lies_m_13 h q im ms mk m_across m_deep m_isGone m_isKnown (nI ff4) (nI ss4) (nI dd4) n4 n5 hf_ms hf_mk hms hmk hm3 hac ff4 ss4 dd4 hff4 hss4 hdd4 rfl rfl rfl c_7 c_10) (by first | decide | assumption) dX12_lies_54 (fun f_12 H locs ef_12 hP hD hS => ?_)
        have hPD := pd_mk (ws := [(h, .inr (12, mG q im)), (q 44, .inl (cI, 384, .inl f_12)), (q 45, .inl (cI, 384, .inl m_deep)), (q 46, .inl (cZ, 384, .inl m_isGone)), (q 66, .inl (cZ, 8, .inl m_isKnown))]) hP hD
        have hP := hPD.1
        have hD := hPD.2
        refine lv_aload_n hx hb dX12_lies_55 rfl (lv_at hl 0 rfl) ?_
        refine va_get (D := D) (ci := 12) (v := .ref (q 45)) (C := RX12) (T := TX12) (N := 81) hx hb hts inT_X12 hown hK.1 hP 0 rfl rfl 45 (by decide) (hts _ k_1398) (fun _ h9 => h9) rfl dX12_lies_56 ?_
        refine lv_iload_n hx hb dX12_lies_59 rfl (lv_at hl 1 rfl) ?_
        refine lv_iload_n hx hb dX12_lies_60 rfl (lv_at hl 2 rfl) ?_
        refine lv_iload_n hx hb dX12_lies_61 rfl (lv_at hl 3 rfl) ?_
        refine eRi (va_runS (As := [.int (nI ff4), .int (nI ss4), .int (nI dd4)]) (rest := [.ref (q 45)]) ⟨hx, hb, hml, hown, hts⟩ (c_X12_cellOf l D cI cB cZ cJ tx ff4 ss4 dd4 H.size) (zS hts k_1735 v_X12_cellOf ⟨Nat.le_of_ble_eq_true rfl, Nat.le_of_ble_eq_true rfl⟩) (px0 hK) rfl rfl hl.1 rfl (lv_room (Nat.le_of_ble_eq_true rfl)) dX12_lies_62 ⟨Nat.le_of_ble_eq_true rfl, Nat.le_of_ble_eq_true rfl⟩) hP hS hA (fun r_14 H locs wr_14 hP hS => ?_)
        subst wr_14
        refine lv_iload hx hb dX12_lies_65 (lv_at hl 5 rfl) ?_
        refine su_i (j := (16 * ff4 + 2 * ss4 + dd4)) hx hb hK hP hD hS 2 rfl (lf_X12_lies_m_16 h q im ms mk m_across m_deep m_isGone m_isKnown (nI ff4) (nI ss4) (nI dd4) n4 n5 hf_ms hf_mk hms hmk hm3 hac ff4 ss4 dd4 hff4 hss4 hdd4 rfl rfl rfl c_7 c_10 f_12 ef_12) (by first | decide | assumption) dX12_lies_67 (fun f_15 H locs ef_15 hP hD hS => ?_)
        have hPD := pd_mk (ws := [(h, .inr (12, mG q im)), (q 44, .inl (cI, 384, .inl f_12)), (q 45, .inl (cI, 384, .inl f_15)), (q 46, .inl (cZ, 384, .inl m_isGone)), (q 66, .inl (cZ, 8, .inl m_isKnown))]) hP hD
        have hP := hPD.1
        have hD := hPD.2
        refine lv_aload_n hx hb dX12_lies_68 rfl (lv_at hl 0 rfl) ?_
        refine va_get (D := D) (ci := 12) (v := .ref (q 46)) (C := RX12) (T := TX12) (N := 81) hx hb hts inT_X12 hown hK.1 hP 0 rfl rfl 46 (by decide) (hts _ k_1399) (fun _ h9 => h9) rfl dX12_lies_69 ?_
        refine lv_iload_n hx hb dX12_lies_72 rfl (lv_at hl 1 rfl) ?_
        refine lv_iload_n hx hb dX12_lies_73 rfl (lv_at hl 2 rfl) ?_
        refine lv_iload_n hx hb dX12_lies_74 rfl (lv_at hl 3 rfl) ?_
        refine eRi (va_runS (As := [.int (nI ff4), .int (nI ss4), .int (nI dd4)]) (rest := [.ref (q 46)]) ⟨hx, hb, hml, hown, hts⟩ (c_X12_cellOf l D cI cB cZ cJ tx ff4 ss4 dd4 H.size) (zS hts k_1735 v_X12_cellOf ⟨Nat.le_of_ble_eq_true rfl, Nat.le_of_ble_eq_true rfl⟩) (px0 hK) rfl rfl hl.1 rfl (lv_room (Nat.le_of_ble_eq_true rfl)) dX12_lies_75 ⟨Nat.le_of_ble_eq_true rfl, Nat.le_of_ble_eq_true rfl⟩) hP hS hA (fun r_17 H locs wr_17 hP hS => ?_)
        subst wr_17
        refine lv_iconst (v := 0) hx hb dX12_lies_78 (by decide) ?_
        refine su_z (j := (16 * ff4 + 2 * ss4 + dd4)) hx hb hK hP hD hS 3 rfl (lf_X12_lies_m_19 h q im ms mk m_across m_deep m_isGone m_isKnown (nI ff4) (nI ss4) (nI dd4) n4 n5 hf_ms hf_mk hms hmk hm3 hac ff4 ss4 dd4 hff4 hss4 hdd4 rfl rfl rfl c_7 c_10 f_12 ef_12 f_15 ef_15) (by first | decide | assumption) dX12_lies_79 (fun f_18 H locs ef_18 hP hD hS => ?_)
        have hPD := pd_mk (ws := [(h, .inr (12, mG q im)), (q 44, .inl (cI, 384, .inl f_12)), (q 45, .inl (cI, 384, .inl f_15)), (q 46, .inl (cZ, 384, .inl f_18)), (q 66, .inl (cZ, 8, .inl m_isKnown))]) hP hD
        have hP := hPD.1
        have hD := hPD.2
        refine lv_aload_n hx hb dX12_lies_80 rfl (lv_at hl 0 rfl) ?_
        refine eWvP (va_runV (As := []) (rest := []) ⟨hx, hb, hml, hown, hts⟩ (c_X12_changes_t l D cI cB cZ cJ tx h q im m_isKnown H.size) (zV hts k_1765 v_X12_changes ⟨Nat.le_of_ble_eq_true rfl, Nat.le_of_ble_eq_true rfl⟩) (pV (pxS hK hP hD [0, 4] (by decide) rfl) hK hP 0 rfl rfl) rfl rfl hl.1 rfl (lv_room (Nat.le_of_ble_eq_true rfl)) dX12_lies_81 ⟨Nat.le_of_ble_eq_true rfl, Nat.le_of_ble_eq_true rfl⟩) hP hD hS hA [0, 4] [some 0, none, none, none, some 1] rfl (by decide +kernel) (fun _ => rfl) (fun u_21 H locs wr_20 hP hD hS => ?_)
        obtain ⟨m_isKnown_21, rfl⟩ : ∃ z, z = u_21 := ⟨_, rfl⟩
        have hz_21_0 : KZ m_isKnown_21 := wr_20
        have hPD := pd_mk (ws := [(h, .inr (12, mG q im)), (q 44, .inl (cI, 384, .inl f_12)), (q 45, .inl (cI, 384, .inl f_15)), (q 46, .inl (cZ, 384, .inl f_18)), (q 66, .inl (cZ, 8, .inl m_isKnown_21))]) hP hD
        have hP := hPD.1
        have hD := hPD.2
        refine lv_iconst (v := 1) hx hb dX12_lies_84 (by decide) ?_
        rw [hQ]
        exact W.zret (v := 1) hx hb hr (by decide) (fun tt9 ht hW => ⟨⟨(1 : Int32), ((f_12 : Nat → Int32), (f_15 : Nat → Int32), (f_18 : Nat → Int32), (m_isKnown_21 : Nat → Int32)), rfl, (lf_X12_lies_m_22 h q im ms mk m_across m_deep m_isGone m_isKnown (nI ff4) (nI ss4) (nI dd4) n4 n5 hf_ms hf_mk hms hmk hm3 hac ff4 ss4 dd4 hff4 hss4 hdd4 rfl rfl rfl c_7 c_10 f_12 ef_12 f_15 ef_15 f_18 ef_18 m_isKnown_21 hz_21_0), ⟨by rw [ht]; exact hP, hD⟩⟩, hS.F ht⟩) hS.2.2 dX12_lies_85 hlocks
      · refine lv_iconst (v := 0) hx hb dX12_lies_40 (by decide) ?_
        rw [hQ]
        exact W.zret (v := 0) hx hb hr (by decide) (fun tt9 ht hW => ⟨⟨(0 : Int32), ((m_across : Nat → Int32), (m_deep : Nat → Int32), (m_isGone : Nat → Int32), (m_isKnown : Nat → Int32)), rfl, (lf_X12_lies_m_23 h q im ms mk m_across m_deep m_isGone m_isKnown (nI ff4) (nI ss4) (nI dd4) n4 n5 hf_ms hf_mk hms hmk hm3 hac ff4 ss4 dd4 hff4 hss4 hdd4 rfl rfl rfl c_7 c_10), ⟨by rw [ht]; exact hP, hD⟩⟩, hS.F ht⟩) hS.2.2 dX12_lies_41 hlocks

theorem lf_X12_gone_m_1 (h : Nat) (q : Nat → Nat) (im : Nat → Int32) (ms : Nat) (mk : Nat) (m_isGone : Nat → Int32) (m_isKnown : Nat → Int32) (n1 : Int32) (n2 : Int32) (n3 : Int32) (hf_ms : im 2 = nI ms) (hf_mk : im 3 = nI mk) (hms : ms ≤ 24) (hmk : mk ≤ 8) (hm3 : mk = 0 ∨ 3 ≤ ms) : ms ≤ 24 := by
  first | assumption | omega | decide | rfl
theorem lf_X12_gone_m_2 (h : Nat) (q : Nat → Nat) (im : Nat → Int32) (ms : Nat) (mk : Nat) (m_isGone : Nat → Int32) (m_isKnown : Nat → Int32) (n1 : Int32) (n2 : Int32) (n3 : Int32) (hf_ms : im 2 = nI ms) (hf_mk : im 3 = nI mk) (hms : ms ≤ 24) (hmk : mk ≤ 8) (hm3 : mk = 0 ∨ 3 ≤ ms) : mk ≤ 8 := by
  first | assumption | omega | decide | rfl
theorem lf_X12_gone_m_3 (h : Nat) (q : Nat → Nat) (im : Nat → Int32) (ms : Nat) (mk : Nat) (m_isGone : Nat → Int32) (m_isKnown : Nat → Int32) (n1 : Int32) (n2 : Int32) (n3 : Int32) (hf_ms : im 2 = nI ms) (hf_mk : im 3 = nI mk) (hms : ms ≤ 24) (hmk : mk ≤ 8) (hm3 : mk = 0 ∨ 3 ≤ ms) : mk = 0 ∨ 3 ≤ ms := by
  first | assumption | omega | decide | rfl
theorem lf_X12_gone_m_5 (h : Nat) (q : Nat → Nat) (im : Nat → Int32) (ms : Nat) (mk : Nat) (m_isGone : Nat → Int32) (m_isKnown : Nat → Int32) (n1 : Int32) (n2 : Int32) (n3 : Int32) (hf_ms : im 2 = nI ms) (hf_mk : im 3 = nI mk) (hms : ms ≤ 24) (hmk : mk ≤ 8) (hm3 : mk = 0 ∨ 3 ≤ ms) (hrv4 : ¬ RV n1 n2 n3 ms mk) : (0 : Int32) = goA n1 n2 n3 ms mk m_isGone ∧ ((m_isGone : Nat → Int32) = goF n1 n2 n3 ms mk m_isGone) ∧ (KW (GNK n1 n2 n3 ms mk m_isGone) m_isKnown (m_isKnown : Nat → Int32)) := by
  first
    | exact ⟨goA_n (by first | exact goRV (by assumption) | exact goNO (by assumption) (by assumption) (by assumption) (by assumption) (by assumption) (by assumption) hms hmk (by assumption) (by omega)), goF_n (by first | exact goRV (by assumption) | exact goNO (by assumption) (by assumption) (by assumption) (by assumption) (by assumption) (by assumption) hms hmk (by assumption) (by omega)), KW.n (by first | exact goRV (by assumption) | exact goNO (by assumption) (by assumption) (by assumption) (by assumption) (by assumption) (by assumption) hms hmk (by assumption) (by omega))⟩
    | (have hg : GNK n1 n2 n3 ms mk m_isGone := goOK (by assumption) (by assumption) (by assumption) (by assumption) (by assumption) (by assumption) hms hmk (by assumption) (by omega)
       exact ⟨goA_y hg, goF_y hg (by assumption) (by assumption) (by assumption) (by omega) (by omega) (by omega) (by assumption) (by omega), KW.y hg (by assumption)⟩)
theorem lf_X12_gone_m_7 (h : Nat) (q : Nat → Nat) (im : Nat → Int32) (ms : Nat) (mk : Nat) (m_isGone : Nat → Int32) (m_isKnown : Nat → Int32) (n1 : Int32) (n2 : Int32) (n3 : Int32) (hf_ms : im 2 = nI ms) (hf_mk : im 3 = nI mk) (hms : ms ≤ 24) (hmk : mk ≤ 8) (hm3 : mk = 0 ∨ 3 ≤ ms) (ff4 : Nat) (ss4 : Nat) (dd4 : Nat) (hff4 : ff4 < ms) (hss4 : ss4 < mk) (hdd4 : dd4 < 2) (qff4 : n1 = nI ff4) (qss4 : n2 = nI ss4) (qdd4 : n3 = nI dd4) : (16 * ff4 + 2 * ss4 + dd4) < 384 := by
  omega
theorem lf_X12_gone_m_11 (h : Nat) (q : Nat → Nat) (im : Nat → Int32) (ms : Nat) (mk : Nat) (m_isGone : Nat → Int32) (m_isKnown : Nat → Int32) (n1 : Int32) (n2 : Int32) (n3 : Int32) (hf_ms : im 2 = nI ms) (hf_mk : im 3 = nI mk) (hms : ms ≤ 24) (hmk : mk ≤ 8) (hm3 : mk = 0 ∨ 3 ≤ ms) (ff4 : Nat) (ss4 : Nat) (dd4 : Nat) (hff4 : ff4 < ms) (hss4 : ss4 < mk) (hdd4 : dd4 < 2) (qff4 : n1 = nI ff4) (qss4 : n2 = nI ss4) (qdd4 : n3 = nI dd4) (c_8 : m_isGone (16 * ff4 + 2 * ss4 + dd4) = 0) : (16 * ff4 + 2 * ss4 + dd4) < 384 := by
  omega
theorem lf_X12_gone_m_14 (h : Nat) (q : Nat → Nat) (im : Nat → Int32) (ms : Nat) (mk : Nat) (m_isGone : Nat → Int32) (m_isKnown : Nat → Int32) (n1 : Int32) (n2 : Int32) (n3 : Int32) (hf_ms : im 2 = nI ms) (hf_mk : im 3 = nI mk) (hms : ms ≤ 24) (hmk : mk ≤ 8) (hm3 : mk = 0 ∨ 3 ≤ ms) (ff4 : Nat) (ss4 : Nat) (dd4 : Nat) (hff4 : ff4 < ms) (hss4 : ss4 < mk) (hdd4 : dd4 < 2) (qff4 : n1 = nI ff4) (qss4 : n2 = nI ss4) (qdd4 : n3 = nI dd4) (c_8 : m_isGone (16 * ff4 + 2 * ss4 + dd4) = 0) (f_10 : Nat → Int32) (ef_10 : f_10 = upd m_isGone (16 * ff4 + 2 * ss4 + dd4) (vp_nar .boolean 1)) (m_isKnown_13 : Nat → Int32) (hz_13_0 : KZ m_isKnown_13) : (1 : Int32) = goA n1 n2 n3 ms mk m_isGone ∧ ((f_10 : Nat → Int32) = goF n1 n2 n3 ms mk m_isGone) ∧ (KW (GNK n1 n2 n3 ms mk m_isGone) m_isKnown (m_isKnown_13 : Nat → Int32)) := by
  first
    | exact ⟨goA_n (by first | exact goRV (by assumption) | exact goNO (by assumption) (by assumption) (by assumption) (by assumption) (by assumption) (by assumption) hms hmk (by assumption) (by omega)), goF_n (by first | exact goRV (by assumption) | exact goNO (by assumption) (by assumption) (by assumption) (by assumption) (by assumption) (by assumption) hms hmk (by assumption) (by omega)), KW.n (by first | exact goRV (by assumption) | exact goNO (by assumption) (by assumption) (by assumption) (by assumption) (by assumption) (by assumption) hms hmk (by assumption) (by omega))⟩
    | (have hg : GNK n1 n2 n3 ms mk m_isGone := goOK (by assumption) (by assumption) (by assumption) (by assumption) (by assumption) (by assumption) hms hmk (by assumption) (by omega)
       exact ⟨goA_y hg, goF_y hg (by assumption) (by assumption) (by assumption) (by omega) (by omega) (by omega) (by assumption) (by omega), KW.y hg (by assumption)⟩)
theorem lf_X12_gone_m_15 (h : Nat) (q : Nat → Nat) (im : Nat → Int32) (ms : Nat) (mk : Nat) (m_isGone : Nat → Int32) (m_isKnown : Nat → Int32) (n1 : Int32) (n2 : Int32) (n3 : Int32) (hf_ms : im 2 = nI ms) (hf_mk : im 3 = nI mk) (hms : ms ≤ 24) (hmk : mk ≤ 8) (hm3 : mk = 0 ∨ 3 ≤ ms) (ff4 : Nat) (ss4 : Nat) (dd4 : Nat) (hff4 : ff4 < ms) (hss4 : ss4 < mk) (hdd4 : dd4 < 2) (qff4 : n1 = nI ff4) (qss4 : n2 = nI ss4) (qdd4 : n3 = nI dd4) (c_8 : ¬ m_isGone (16 * ff4 + 2 * ss4 + dd4) = 0) : (0 : Int32) = goA n1 n2 n3 ms mk m_isGone ∧ ((m_isGone : Nat → Int32) = goF n1 n2 n3 ms mk m_isGone) ∧ (KW (GNK n1 n2 n3 ms mk m_isGone) m_isKnown (m_isKnown : Nat → Int32)) := by
  first
    | exact ⟨goA_n (by first | exact goRV (by assumption) | exact goNO (by assumption) (by assumption) (by assumption) (by assumption) (by assumption) (by assumption) hms hmk (by assumption) (by omega)), goF_n (by first | exact goRV (by assumption) | exact goNO (by assumption) (by assumption) (by assumption) (by assumption) (by assumption) (by assumption) hms hmk (by assumption) (by omega)), KW.n (by first | exact goRV (by assumption) | exact goNO (by assumption) (by assumption) (by assumption) (by assumption) (by assumption) (by assumption) hms hmk (by assumption) (by omega))⟩
    | (have hg : GNK n1 n2 n3 ms mk m_isGone := goOK (by assumption) (by assumption) (by assumption) (by assumption) (by assumption) (by assumption) hms hmk (by assumption) (by omega)
       exact ⟨goA_y hg, goF_y hg (by assumption) (by assumption) (by assumption) (by omega) (by omega) (by omega) (by assumption) (by omega), KW.y hg (by assumption)⟩)
set_option maxHeartbeats 4000000 in
set_option maxRecDepth 100000 in
theorem c_X12_gone_m (l : Launch) (D : va_G) (cI cB cZ cJ : ClassId) (tx : List (ClassId × FieldType)) (h : Nat) (q : Nat → Nat) (im : Nat → Int32) (ms : Nat) (mk : Nat) (m_isGone : Nat → Int32) (m_isKnown : Nat → Int32) (n1 : Int32) (n2 : Int32) (n3 : Int32) (hf_ms : im 2 = nI ms) (hf_mk : im 3 = nI mk) (hms : ms ≤ 24) (hmk : mk ≤ 8) (hm3 : mk = 0 ∨ 3 ≤ ms) : WrI l D cI cB cZ cJ tx yX12_gone cX12_gone 4 (some .boolean) 3 0 0 [.ref h, .int n1, .int n2, .int n3] [(h, .inr (12, mG q im)), (q 46, .inl (cZ, 384, .inl m_isGone)), (q 66, .inl (cZ, 8, .inl m_isKnown))] (fun (r : Int32) (v : (Nat → Int32) × (Nat → Int32)) => r = goA n1 n2 n3 ms mk m_isGone ∧ (v.1 = goF n1 n2 n3 ms mk m_isGone) ∧ (KW (GNK n1 n2 n3 ms mk m_isGone) m_isKnown v.2)) (fun v => [(h, .inr (12, mG q im)), (q 46, .inl (cZ, 384, .inl v.1)), (q 66, .inl (cZ, 8, .inl v.2))]) := by
  refine wri_of2 (by decide) (Nat.le_of_ble_eq_true rfl) ?_
  intro p e s m below meth c A ls H locs hC hK hP hD hA hS hl
  obtain ⟨hx, hb, hr, hml, hown, hts, hlocks, hin⟩ := hC
  have hown : s.vm.findClass RX12 = some m.cls := hown
  have hl : lv_has ls 4 [(0, .ref h), (1, .int n1), (2, .int n2), (3, .int n3)] := hl
  refine W_gQ (fun Q hQ => ?_)
  refine lv_aload_n hx hb dX12_gone_0 rfl (lv_at hl 0 rfl) ?_
  refine lv_iload_n hx hb dX12_gone_1 rfl (lv_at hl 1 rfl) ?_
  refine lv_iload_n hx hb dX12_gone_2 rfl (lv_at hl 2 rfl) ?_
  refine lv_iload_n hx hb dX12_gone_3 rfl (lv_at hl 3 rfl) ?_
  refine eRi (va_runV (As := [.int n1, .int n2, .int n3]) (rest := []) ⟨hx, hb, hml, hown, hts⟩ (c_X12_isRivet_f l D cI cB cZ cJ tx h q im ms mk n1 n2 n3 hf_ms hf_mk (lf_X12_gone_m_1 h q im ms mk m_isGone m_isKnown n1 n2 n3 hf_ms hf_mk hms hmk hm3) (lf_X12_gone_m_2 h q im ms mk m_isGone m_isKnown n1 n2 n3 hf_ms hf_mk hms hmk hm3) (lf_X12_gone_m_3 h q im ms mk m_isGone m_isKnown n1 n2 n3 hf_ms hf_mk hms hmk hm3) H.size) (zV hts k_1799 v_X12_isRivet ⟨Nat.le_of_ble_eq_true rfl, Nat.le_of_ble_eq_true rfl⟩) (pV (px1 hK hP 0 rfl) hK hP 0 rfl rfl) rfl rfl hl.1 rfl (lv_room (Nat.le_of_ble_eq_true rfl)) dX12_gone_4 ⟨Nat.le_of_ble_eq_true rfl, Nat.le_of_ble_eq_true rfl⟩) hP hS hA (fun r_4 H locs wr_4 hP hS => ?_)
  rcases wr_4 with ⟨rfl, hrv4⟩ | ⟨ff4, ss4, dd4, hff4, hss4, hdd4, rfl, rfl, rfl, rfl⟩
  · refine lv_if_eq (tgt := 24) hx hb dX12_gone_7 (by decide) (fun _ => ?_) (fun c => absurd c (by decide))
    refine lv_iconst (v := 0) hx hb dX12_gone_24 (by decide) ?_
    rw [hQ]
    exact W.zret (v := 0) hx hb hr (by decide) (fun tt9 ht hW => ⟨⟨(0 : Int32), ((m_isGone : Nat → Int32), (m_isKnown : Nat → Int32)), rfl, (lf_X12_gone_m_5 h q im ms mk m_isGone m_isKnown n1 n2 n3 hf_ms hf_mk hms hmk hm3 hrv4), ⟨by rw [ht]; exact hP, hD⟩⟩, hS.F ht⟩) hS.2.2 dX12_gone_25 hlocks
  · refine lv_if_eq (tgt := 24) hx hb dX12_gone_7 (by decide) (fun c => absurd c (by decide)) (fun _ => ?_)
    refine lv_aload_n hx hb dX12_gone_10 rfl (lv_at hl 0 rfl) ?_
    refine va_get (D := D) (ci := 12) (v := .ref (q 46)) (C := RX12) (T := TX12) (N := 81) hx hb hts inT_X12 hown hK.1 hP 0 rfl rfl 46 (by decide) (hts _ k_1399) (fun _ h9 => h9) rfl dX12_gone_11 ?_
    refine lv_iload_n hx hb dX12_gone_14 rfl (lv_at hl 1 rfl) ?_
    refine lv_iload_n hx hb dX12_gone_15 rfl (lv_at hl 2 rfl) ?_
    refine lv_iload_n hx hb dX12_gone_16 rfl (lv_at hl 3 rfl) ?_
    refine eRi (va_runS (As := [.int (nI ff4), .int (nI ss4), .int (nI dd4)]) (rest := [.ref (q 46)]) ⟨hx, hb, hml, hown, hts⟩ (c_X12_cellOf l D cI cB cZ cJ tx ff4 ss4 dd4 H.size) (zS hts k_1735 v_X12_cellOf ⟨Nat.le_of_ble_eq_true rfl, Nat.le_of_ble_eq_true rfl⟩) (px0 hK) rfl rfl hl.1 rfl (lv_room (Nat.le_of_ble_eq_true rfl)) dX12_gone_17 ⟨Nat.le_of_ble_eq_true rfl, Nat.le_of_ble_eq_true rfl⟩) hP hS hA (fun r_6 H locs wr_6 hP hS => ?_)
    subst wr_6
    refine lt_z (j := (16 * ff4 + 2 * ss4 + dd4)) hx hb hK hP 1 rfl (lf_X12_gone_m_7 h q im ms mk m_isGone m_isKnown (nI ff4) (nI ss4) (nI dd4) hf_ms hf_mk hms hmk hm3 ff4 ss4 dd4 hff4 hss4 hdd4 rfl rfl rfl) (by decide) dX12_gone_20 ?_
    refine lv_if_eq (tgt := 26) hx hb dX12_gone_21 (by decide) (fun c_8 => ?_) (fun c_8 => ?_)
    · refine lv_aload_n hx hb dX12_gone_26 rfl (lv_at hl 0 rfl) ?_
      refine va_get (D := D) (ci := 12) (v := .ref (q 46)) (C := RX12) (T := TX12) (N := 81) hx hb hts inT_X12 hown hK.1 hP 0 rfl rfl 46 (by decide) (hts _ k_1399) (fun _ h9 => h9) rfl dX12_gone_27 ?_
      refine lv_iload_n hx hb dX12_gone_30 rfl (lv_at hl 1 rfl) ?_
      refine lv_iload_n hx hb dX12_gone_31 rfl (lv_at hl 2 rfl) ?_
      refine lv_iload_n hx hb dX12_gone_32 rfl (lv_at hl 3 rfl) ?_
      refine eRi (va_runS (As := [.int (nI ff4), .int (nI ss4), .int (nI dd4)]) (rest := [.ref (q 46)]) ⟨hx, hb, hml, hown, hts⟩ (c_X12_cellOf l D cI cB cZ cJ tx ff4 ss4 dd4 H.size) (zS hts k_1735 v_X12_cellOf ⟨Nat.le_of_ble_eq_true rfl, Nat.le_of_ble_eq_true rfl⟩) (px0 hK) rfl rfl hl.1 rfl (lv_room (Nat.le_of_ble_eq_true rfl)) dX12_gone_33 ⟨Nat.le_of_ble_eq_true rfl, Nat.le_of_ble_eq_true rfl⟩) hP hS hA (fun r_9 H locs wr_9 hP hS => ?_)
      subst wr_9
      refine lv_iconst (v := 1) hx hb dX12_gone_36 (by decide) ?_
      refine su_z (j := (16 * ff4 + 2 * ss4 + dd4)) hx hb hK hP hD hS 1 rfl (lf_X12_gone_m_11 h q im ms mk m_isGone m_isKnown (nI ff4) (nI ss4) (nI dd4) hf_ms hf_mk hms hmk hm3 ff4 ss4 dd4 hff4 hss4 hdd4 rfl rfl rfl c_8) (by first | decide | assumption) dX12_gone_37 (fun f_10 H locs ef_10 hP hD hS => ?_)
      have hPD := pd_mk (ws := [(h, .inr (12, mG q im)), (q 46, .inl (cZ, 384, .inl f_10)), (q 66, .inl (cZ, 8, .inl m_isKnown))]) hP hD
      have hP := hPD.1
      have hD := hPD.2
      refine lv_aload_n hx hb dX12_gone_38 rfl (lv_at hl 0 rfl) ?_
      refine eWvP (va_runV (As := []) (rest := []) ⟨hx, hb, hml, hown, hts⟩ (c_X12_changes_t l D cI cB cZ cJ tx h q im m_isKnown H.size) (zV hts k_1765 v_X12_changes ⟨Nat.le_of_ble_eq_true rfl, Nat.le_of_ble_eq_true rfl⟩) (pV (pxS hK hP hD [0, 2] (by decide) rfl) hK hP 0 rfl rfl) rfl rfl hl.1 rfl (lv_room (Nat.le_of_ble_eq_true rfl)) dX12_gone_39 ⟨Nat.le_of_ble_eq_true rfl, Nat.le_of_ble_eq_true rfl⟩) hP hD hS hA [0, 2] [some 0, none, some 1] rfl (by decide +kernel) (fun _ => rfl) (fun u_13 H locs wr_12 hP hD hS => ?_)
      obtain ⟨m_isKnown_13, rfl⟩ : ∃ z, z = u_13 := ⟨_, rfl⟩
      have hz_13_0 : KZ m_isKnown_13 := wr_12
      have hPD := pd_mk (ws := [(h, .inr (12, mG q im)), (q 46, .inl (cZ, 384, .inl f_10)), (q 66, .inl (cZ, 8, .inl m_isKnown_13))]) hP hD
      have hP := hPD.1
      have hD := hPD.2
      refine lv_iconst (v := 1) hx hb dX12_gone_42 (by decide) ?_
      rw [hQ]
      exact W.zret (v := 1) hx hb hr (by decide) (fun tt9 ht hW => ⟨⟨(1 : Int32), ((f_10 : Nat → Int32), (m_isKnown_13 : Nat → Int32)), rfl, (lf_X12_gone_m_14 h q im ms mk m_isGone m_isKnown (nI ff4) (nI ss4) (nI dd4) hf_ms hf_mk hms hmk hm3 ff4 ss4 dd4 hff4 hss4 hdd4 rfl rfl rfl c_8 f_10 ef_10 m_isKnown_13 hz_13_0), ⟨by rw [ht]; exact hP, hD⟩⟩, hS.F ht⟩) hS.2.2 dX12_gone_43 hlocks
    · refine lv_iconst (v := 0) hx hb dX12_gone_24 (by decide) ?_
      rw [hQ]
      exact W.zret (v := 0) hx hb hr (by decide) (fun tt9 ht hW => ⟨⟨(0 : Int32), ((m_isGone : Nat → Int32), (m_isKnown : Nat → Int32)), rfl, (lf_X12_gone_m_15 h q im ms mk m_isGone m_isKnown (nI ff4) (nI ss4) (nI dd4) hf_ms hf_mk hms hmk hm3 ff4 ss4 dd4 hff4 hss4 hdd4 rfl rfl rfl c_8), ⟨by rw [ht]; exact hP, hD⟩⟩, hS.F ht⟩) hS.2.2 dX12_gone_25 hlocks

theorem lf_X12_cut_m_8 (h : Nat) (q : Nat → Nat) (im : Nat → Int32) (ms : Nat) (mc : Int32) (m_isKnown : Nat → Int32) (n1 : Int32) (hf_ms : im 2 = nI ms) (hf_mc : im 49 = mc) (hms : ms ≤ 24) (x_1 : Int32) (ex_1 : x_1 = 1 <<< (nI ms &&& 31)) (x_2 : Int32) (ex_2 : x_2 = x_1 - 1) (c_4 : (0 : Int32) ≤ n1 ∧ n1 ≤ x_2) (i_5 : Nat → Int32) (hsb : SB [49] im i_5) (m_isKnown_7 : Nat → Int32) (hz_7_0 : KZ m_isKnown_7) (hi_5_2 : i_5 2 = nI ms) (hi_5_49 : i_5 49 = n1) : (SB [49] im (i_5 : Nat → Int32)) ∧ ((i_5 : Nat → Int32) 49 = (n1 : Int32)) ∧ ((n1 : Int32) = cuF n1 ms mc) ∧ (KW (COK n1 ms) m_isKnown (m_isKnown_7 : Nat → Int32)) := by
  refine ⟨?_, ?_, ?_, ?_⟩
  · assumption
  · assumption
  · subst_vars
    first | exact cuF_y (by assumption) rfl | exact cuF_n (by assumption)
  · subst_vars
    first | exact KW.y (by assumption) (by assumption) | exact KW.n (by assumption)
theorem lf_X12_cut_m_9 (h : Nat) (q : Nat → Nat) (im : Nat → Int32) (ms : Nat) (mc : Int32) (m_isKnown : Nat → Int32) (n1 : Int32) (hf_ms : im 2 = nI ms) (hf_mc : im 49 = mc) (hms : ms ≤ 24) (hsb : SB [49] im im) (x_1 : Int32) (ex_1 : x_1 = 1 <<< (nI ms &&& 31)) (x_2 : Int32) (ex_2 : x_2 = x_1 - 1) (c_4 : ¬ ((0 : Int32) ≤ n1 ∧ n1 ≤ x_2)) : (SB [49] im (im : Nat → Int32)) ∧ ((im : Nat → Int32) 49 = (mc : Int32)) ∧ ((mc : Int32) = cuF n1 ms mc) ∧ (KW (COK n1 ms) m_isKnown (m_isKnown : Nat → Int32)) := by
  refine ⟨?_, ?_, ?_, ?_⟩
  · assumption
  · assumption
  · subst_vars
    first | exact cuF_y (by assumption) rfl | exact cuF_n (by assumption)
  · subst_vars
    first | exact KW.y (by assumption) (by assumption) | exact KW.n (by assumption)
set_option maxHeartbeats 4000000 in
set_option maxRecDepth 100000 in
theorem c_X12_cut_m (l : Launch) (D : va_G) (cI cB cZ cJ : ClassId) (tx : List (ClassId × FieldType)) (h : Nat) (q : Nat → Nat) (im : Nat → Int32) (ms : Nat) (mc : Int32) (m_isKnown : Nat → Int32) (n1 : Int32) (hf_ms : im 2 = nI ms) (hf_mc : im 49 = mc) (hms : ms ≤ 24) : WrI l D cI cB cZ cJ tx yX12_cut cX12_cut 2 (some .boolean) 1 0 0 [.ref h, .int n1] [(h, .inr (12, mG q im)), (q 66, .inl (cZ, 8, .inl m_isKnown))] (fun (r : Int32) (v : (Nat → Int32) × (Int32) × (Nat → Int32)) => (SB [49] im v.1) ∧ (v.1 49 = v.2.1) ∧ (v.2.1 = cuF n1 ms mc) ∧ (KW (COK n1 ms) m_isKnown v.2.2)) (fun v => [(h, .inr (12, mG q v.1)), (q 66, .inl (cZ, 8, .inl v.2.2))]) := by
  refine wri_of2 (by decide) (Nat.le_of_ble_eq_true rfl) ?_
  intro p e s m below meth c A ls H locs hC hK hP hD hA hS hl
  obtain ⟨hx, hb, hr, hml, hown, hts, hlocks, hin⟩ := hC
  have hown : s.vm.findClass RX12 = some m.cls := hown
  have hl : lv_has ls 2 [(0, .ref h), (1, .int n1)] := hl
  have hsb : SB [49] im im := SB.rf
  refine W_gQ (fun Q hQ => ?_)
  refine lv_iload_n hx hb dX12_cut_0 rfl (lv_at hl 1 rfl) ?_
  refine lv_i2l (v := n1.toInt64) hx hb dX12_cut_1 rfl ?_
  refine lv_lconst (v := 0) hx hb dX12_cut_2 (by decide) ?_
  refine lv_iconst (v := 1) hx hb dX12_cut_3 (by decide) ?_
  refine lv_aload_n hx hb dX12_cut_4 rfl (lv_at hl 0 rfl) ?_
  refine va_get (D := D) (ci := 12) (v := .int (im 2)) (C := RX12) (T := TX12) (N := 81) hx hb hts inT_X12 hown hK.1 hP 0 rfl rfl 2 (by decide) (hts _ k_1355) (fun _ h9 => h9) rfl dX12_cut_5 ?_
  refine lv_topv (y := nI ms) hf_ms ?_
  refine lv_ishl hx hb dX12_cut_8 ?_
  refine lv_topi (fun x_1 ex_1 => ?_)
  refine lv_iconst (v := 1) hx hb dX12_cut_9 (by decide) ?_
  refine lv_isub hx hb dX12_cut_10 ?_
  refine lv_topi (fun x_2 ex_2 => ?_)
  refine lv_i2l (v := x_2.toInt64) hx hb dX12_cut_11 rfl ?_
  refine eRi (va_runS (As := [.long n1.toInt64, .long 0, .long x_2.toInt64]) (rest := []) ⟨hx, hb, hml, hown, hts⟩ (c_X12_isIn l D cI cB cZ cJ tx n1.toInt64 0 x_2.toInt64 H.size) (zS hts k_1602 v_X12_isIn ⟨Nat.le_of_ble_eq_true rfl, Nat.le_of_ble_eq_true rfl⟩) (px0 hK) rfl rfl hl.1 rfl (lv_room (Nat.le_of_ble_eq_true rfl)) dX12_cut_12 ⟨Nat.le_of_ble_eq_true rfl, Nat.le_of_ble_eq_true rfl⟩) hP hS hA (fun r_3 H locs wr_3 hP hS => ?_)
  have wr_3 : r_3 = bi ((0 : Int32) ≤ n1 ∧ n1 ≤ x_2) := isIn32 (lo := 0) (hi := x_2) (by decide) rfl wr_3
  subst wr_3
  refine lv_bi_ne (tgt := 20) hx hb dX12_cut_15 (by decide) (fun c_4 => ?_) (fun c_4 => ?_)
  · refine lv_aload_n hx hb dX12_cut_20 rfl (lv_at hl 0 rfl) ?_
    refine lv_iload_n hx hb dX12_cut_21 rfl (lv_at hl 1 rfl) ?_
    refine va_put (D := D) (ci := 12) (v := .int n1) (ty := .int) (C := RX12) (T := TX12) (N := 81) hx hb hts inT_X12 tyX12 tyX12_ok nmX12 hown hK.1 hP hD hS 0 rfl rfl 49 (by decide) (hts _ k_1402) (fun _ h9 => h9) rfl (by decide +kernel) rfl rfl (Nat.le_of_ble_eq_true rfl) dX12_cut_22 (fun H locs hP hD hS => ?_)
    obtain ⟨i_5, ei_5⟩ : ∃ z : Nat → Int32, z = upd im 49 n1 := ⟨_, rfl⟩
    have hi_5_2 : i_5 2 = nI ms := by rw [ei_5]; exact hf_ms
    have hi_5_49 : i_5 49 = n1 := by rw [ei_5]; rfl
    have hsb := SB.put hsb ei_5 (by decide)
    have hP : va_P D vwCl [(h, .inr (12, mG q i_5)), (q 66, .inl (cZ, 8, .inl m_isKnown))] H := by rw [ei_5, ← mG_49]; exact hP
    have hD : va_D A [(h, .inr (12, mG q i_5)), (q 66, .inl (cZ, 8, .inl m_isKnown))] := by rw [ei_5, ← mG_49]; exact hD
    refine lv_aload_n hx hb dX12_cut_25 rfl (lv_at hl 0 rfl) ?_
    refine eWvP (va_runV (As := []) (rest := []) ⟨hx, hb, hml, hown, hts⟩ (c_X12_changes_t l D cI cB cZ cJ tx h q i_5 m_isKnown H.size) (zV hts k_1765 v_X12_changes ⟨Nat.le_of_ble_eq_true rfl, Nat.le_of_ble_eq_true rfl⟩) (pV (pxS hK hP hD [0, 1] (by decide) rfl) hK hP 0 rfl rfl) rfl rfl hl.1 rfl (lv_room (Nat.le_of_ble_eq_true rfl)) dX12_cut_26 ⟨Nat.le_of_ble_eq_true rfl, Nat.le_of_ble_eq_true rfl⟩) hP hD hS hA [0, 1] [some 0, some 1] rfl (by decide +kernel) (fun _ => rfl) (fun u_7 H locs wr_6 hP hD hS => ?_)
    obtain ⟨m_isKnown_7, rfl⟩ : ∃ z, z = u_7 := ⟨_, rfl⟩
    have hz_7_0 : KZ m_isKnown_7 := wr_6
    have hPD := pd_mk (ws := [(h, .inr (12, mG q i_5)), (q 66, .inl (cZ, 8, .inl m_isKnown_7))]) hP hD
    have hP := hPD.1
    have hD := hPD.2
    refine lv_iconst (v := 1) hx hb dX12_cut_29 (by decide) ?_
    rw [hQ]
    exact W.zret (v := 1) hx hb hr (by decide) (fun tt9 ht hW => ⟨⟨(1 : Int32), ((i_5 : Nat → Int32), (n1 : Int32), (m_isKnown_7 : Nat → Int32)), rfl, (lf_X12_cut_m_8 h q im ms mc m_isKnown n1 hf_ms hf_mc hms x_1 ex_1 x_2 ex_2 c_4 i_5 hsb m_isKnown_7 hz_7_0 hi_5_2 hi_5_49), ⟨by rw [ht]; exact hP, hD⟩⟩, hS.F ht⟩) hS.2.2 dX12_cut_30 hlocks
  · refine lv_iconst (v := 0) hx hb dX12_cut_18 (by decide) ?_
    rw [hQ]
    exact W.zret (v := 0) hx hb hr (by decide) (fun tt9 ht hW => ⟨⟨(0 : Int32), ((im : Nat → Int32), (mc : Int32), (m_isKnown : Nat → Int32)), rfl, (lf_X12_cut_m_9 h q im ms mc m_isKnown n1 hf_ms hf_mc hms hsb x_1 ex_1 x_2 ex_2 c_4), ⟨by rw [ht]; exact hP, hD⟩⟩, hS.F ht⟩) hS.2.2 dX12_cut_19 hlocks

theorem lf_X12_left_t_3 (h : Nat) (q : Nat → Nat) (im : Nat → Int32) (ms : Nat) (mk : Nat) (m_isGone : Nat → Int32) (hf_ms : im 2 = nI ms) (hf_mk : im 3 = nI mk) (hms : ms ≤ 24) (hmk : mk ≤ 8) (hm3 : mk = 0 ∨ 3 ≤ ms) (j1 : Nat) (w1 : Int32) (k4 : Nat) (hj4 : j1 ≤ ms) (hk4 : ms < j1 + (k4 + 1)) (hrj1 : w1 = lf1 m_isGone mk j1) (c_1 : nI ms ≤ nI j1) : ms ≤ j1 := by
  exact (nI_leI (a := ms) (b := j1) (by omega) (by omega)).mp c_1
theorem lf_X12_left_t_4 (h : Nat) (q : Nat → Nat) (im : Nat → Int32) (ms : Nat) (mk : Nat) (m_isGone : Nat → Int32) (hf_ms : im 2 = nI ms) (hf_mk : im 3 = nI mk) (hms : ms ≤ 24) (hmk : mk ≤ 8) (hm3 : mk = 0 ∨ 3 ≤ ms) (j1 : Nat) (w1 : Int32) (k4 : Nat) (hj4 : j1 ≤ ms) (hk4 : ms < j1 + (k4 + 1)) (hrj1 : w1 = lf1 m_isGone mk j1) (c_1 : nI ms ≤ nI j1) (n_2 : ms ≤ j1) : (w1 : Int32) = lf1 m_isGone mk ms := by
  exact lf_e hrj1 (by omega)
theorem lf_X12_left_t_6 (h : Nat) (q : Nat → Nat) (im : Nat → Int32) (ms : Nat) (mk : Nat) (m_isGone : Nat → Int32) (hf_ms : im 2 = nI ms) (hf_mk : im 3 = nI mk) (hms : ms ≤ 24) (hmk : mk ≤ 8) (hm3 : mk = 0 ∨ 3 ≤ ms) (j1 : Nat) (w1 : Int32) (k4 : Nat) (hj4 : j1 ≤ ms) (hk4 : ms < j1 + (k4 + 1)) (hrj1 : w1 = lf1 m_isGone mk j1) (c_1 : ¬ nI ms ≤ nI j1) : j1 < ms := by
  exact Nat.lt_of_not_le (fun q => c_1 ((nI_leI (a := ms) (b := j1) (by omega) (by omega)).mpr q))
theorem lf_X12_left_t_9 (h : Nat) (q : Nat → Nat) (im : Nat → Int32) (ms : Nat) (mk : Nat) (m_isGone : Nat → Int32) (hf_ms : im 2 = nI ms) (hf_mk : im 3 = nI mk) (hms : ms ≤ 24) (hmk : mk ≤ 8) (hm3 : mk = 0 ∨ 3 ≤ ms) (j1 : Nat) (w1 : Int32) (k4 : Nat) (hj4 : j1 ≤ ms) (hk4 : ms < j1 + (k4 + 1)) (hrj1 : w1 = lf1 m_isGone mk j1) (c_1 : ¬ nI ms ≤ nI j1) (n_5 : j1 < ms) (j2 : Nat) (w2 : Int32) (k14 : Nat) (hj14 : j2 ≤ mk) (hk14 : mk < j2 + (k14 + 1)) (hrj2 : w2 = lf2 m_isGone j1 (lf1 m_isGone mk j1) j2) (c_7 : nI mk ≤ nI j2) : mk ≤ j2 := by
  exact (nI_leI (a := mk) (b := j2) (by omega) (by omega)).mp c_7
theorem lf_X12_left_t_10 (h : Nat) (q : Nat → Nat) (im : Nat → Int32) (ms : Nat) (mk : Nat) (m_isGone : Nat → Int32) (hf_ms : im 2 = nI ms) (hf_mk : im 3 = nI mk) (hms : ms ≤ 24) (hmk : mk ≤ 8) (hm3 : mk = 0 ∨ 3 ≤ ms) (j1 : Nat) (w1 : Int32) (k4 : Nat) (hj4 : j1 ≤ ms) (hk4 : ms < j1 + (k4 + 1)) (hrj1 : w1 = lf1 m_isGone mk j1) (c_1 : ¬ nI ms ≤ nI j1) (n_5 : j1 < ms) (j2 : Nat) (w2 : Int32) (k14 : Nat) (hj14 : j2 ≤ mk) (hk14 : mk < j2 + (k14 + 1)) (hrj2 : w2 = lf2 m_isGone j1 (lf1 m_isGone mk j1) j2) (c_7 : nI mk ≤ nI j2) (n_8 : mk ≤ j2) : w2 = lf1 m_isGone mk (j1 + 1) := by
  first | assumption | exact lf_11 hrj2 (by assumption) (by assumption) (by assumption) | exact lf_10 hrj2 (by assumption) (by assumption) (by assumption) | exact lf_01 hrj2 (by assumption) (by assumption) (by assumption) | exact lf_00 hrj2 (by assumption) (by assumption) (by assumption) | exact lf_s1 hrj2 (by omega) | rfl
theorem lf_X12_left_t_12 (h : Nat) (q : Nat → Nat) (im : Nat → Int32) (ms : Nat) (mk : Nat) (m_isGone : Nat → Int32) (hf_ms : im 2 = nI ms) (hf_mk : im 3 = nI mk) (hms : ms ≤ 24) (hmk : mk ≤ 8) (hm3 : mk = 0 ∨ 3 ≤ ms) (j1 : Nat) (w1 : Int32) (k4 : Nat) (hj4 : j1 ≤ ms) (hk4 : ms < j1 + (k4 + 1)) (hrj1 : w1 = lf1 m_isGone mk j1) (c_1 : ¬ nI ms ≤ nI j1) (n_5 : j1 < ms) (j2 : Nat) (w2 : Int32) (k14 : Nat) (hj14 : j2 ≤ mk) (hk14 : mk < j2 + (k14 + 1)) (hrj2 : w2 = lf2 m_isGone j1 (lf1 m_isGone mk j1) j2) (c_7 : ¬ nI mk ≤ nI j2) : j2 < mk := by
  exact Nat.lt_of_not_le (fun q => c_7 ((nI_leI (a := mk) (b := j2) (by omega) (by omega)).mpr q))
theorem lf_X12_left_t_14 (h : Nat) (q : Nat → Nat) (im : Nat → Int32) (ms : Nat) (mk : Nat) (m_isGone : Nat → Int32) (hf_ms : im 2 = nI ms) (hf_mk : im 3 = nI mk) (hms : ms ≤ 24) (hmk : mk ≤ 8) (hm3 : mk = 0 ∨ 3 ≤ ms) (j1 : Nat) (w1 : Int32) (k4 : Nat) (hj4 : j1 ≤ ms) (hk4 : ms < j1 + (k4 + 1)) (hrj1 : w1 = lf1 m_isGone mk j1) (c_1 : ¬ nI ms ≤ nI j1) (n_5 : j1 < ms) (j2 : Nat) (w2 : Int32) (k14 : Nat) (hj14 : j2 ≤ mk) (hk14 : mk < j2 + (k14 + 1)) (hrj2 : w2 = lf2 m_isGone j1 (lf1 m_isGone mk j1) j2) (c_7 : ¬ nI mk ≤ nI j2) (n_11 : j2 < mk) : (16 * j1 + 2 * j2 + 0) < 384 := by
  omega
theorem lf_X12_left_t_17 (h : Nat) (q : Nat → Nat) (im : Nat → Int32) (ms : Nat) (mk : Nat) (m_isGone : Nat → Int32) (hf_ms : im 2 = nI ms) (hf_mk : im 3 = nI mk) (hms : ms ≤ 24) (hmk : mk ≤ 8) (hm3 : mk = 0 ∨ 3 ≤ ms) (j1 : Nat) (w1 : Int32) (k4 : Nat) (hj4 : j1 ≤ ms) (hk4 : ms < j1 + (k4 + 1)) (hrj1 : w1 = lf1 m_isGone mk j1) (c_1 : ¬ nI ms ≤ nI j1) (n_5 : j1 < ms) (j2 : Nat) (w2 : Int32) (k14 : Nat) (hj14 : j2 ≤ mk) (hk14 : mk < j2 + (k14 + 1)) (hrj2 : w2 = lf2 m_isGone j1 (lf1 m_isGone mk j1) j2) (c_7 : ¬ nI mk ≤ nI j2) (n_11 : j2 < mk) (c_15 : m_isGone (16 * j1 + 2 * j2 + 0) = 0) : (16 * j1 + 2 * j2 + 1) < 384 := by
  omega
theorem lf_X12_left_t_20 (h : Nat) (q : Nat → Nat) (im : Nat → Int32) (ms : Nat) (mk : Nat) (m_isGone : Nat → Int32) (hf_ms : im 2 = nI ms) (hf_mk : im 3 = nI mk) (hms : ms ≤ 24) (hmk : mk ≤ 8) (hm3 : mk = 0 ∨ 3 ≤ ms) (j1 : Nat) (w1 : Int32) (k4 : Nat) (hj4 : j1 ≤ ms) (hk4 : ms < j1 + (k4 + 1)) (hrj1 : w1 = lf1 m_isGone mk j1) (c_1 : ¬ nI ms ≤ nI j1) (n_5 : j1 < ms) (j2 : Nat) (w2 : Int32) (k14 : Nat) (hj14 : j2 ≤ mk) (hk14 : mk < j2 + (k14 + 1)) (hrj2 : w2 = lf2 m_isGone j1 (lf1 m_isGone mk j1) j2) (c_7 : ¬ nI mk ≤ nI j2) (n_11 : j2 < mk) (c_15 : m_isGone (16 * j1 + 2 * j2 + 0) = 0) (c_18 : m_isGone (16 * j1 + 2 * j2 + 1) = 0) (x_19 : Int32) (ex_19 : x_19 = w2 + 2) : x_19 = lf2 m_isGone j1 (lf1 m_isGone mk j1) (j2 + 1) := by
  first | assumption | exact lf_11 hrj2 (by assumption) (by assumption) (by assumption) | exact lf_10 hrj2 (by assumption) (by assumption) (by assumption) | exact lf_01 hrj2 (by assumption) (by assumption) (by assumption) | exact lf_00 hrj2 (by assumption) (by assumption) (by assumption) | exact lf_s1 hrj2 (by omega) | rfl
theorem lf_X12_left_t_22 (h : Nat) (q : Nat → Nat) (im : Nat → Int32) (ms : Nat) (mk : Nat) (m_isGone : Nat → Int32) (hf_ms : im 2 = nI ms) (hf_mk : im 3 = nI mk) (hms : ms ≤ 24) (hmk : mk ≤ 8) (hm3 : mk = 0 ∨ 3 ≤ ms) (j1 : Nat) (w1 : Int32) (k4 : Nat) (hj4 : j1 ≤ ms) (hk4 : ms < j1 + (k4 + 1)) (hrj1 : w1 = lf1 m_isGone mk j1) (c_1 : ¬ nI ms ≤ nI j1) (n_5 : j1 < ms) (j2 : Nat) (w2 : Int32) (k14 : Nat) (hj14 : j2 ≤ mk) (hk14 : mk < j2 + (k14 + 1)) (hrj2 : w2 = lf2 m_isGone j1 (lf1 m_isGone mk j1) j2) (c_7 : ¬ nI mk ≤ nI j2) (n_11 : j2 < mk) (c_15 : m_isGone (16 * j1 + 2 * j2 + 0) = 0) (c_18 : ¬ m_isGone (16 * j1 + 2 * j2 + 1) = 0) (x_21 : Int32) (ex_21 : x_21 = w2 + 1) : x_21 = lf2 m_isGone j1 (lf1 m_isGone mk j1) (j2 + 1) := by
  first | assumption | exact lf_11 hrj2 (by assumption) (by assumption) (by assumption) | exact lf_10 hrj2 (by assumption) (by assumption) (by assumption) | exact lf_01 hrj2 (by assumption) (by assumption) (by assumption) | exact lf_00 hrj2 (by assumption) (by assumption) (by assumption) | exact lf_s1 hrj2 (by omega) | rfl
theorem lf_X12_left_t_24 (h : Nat) (q : Nat → Nat) (im : Nat → Int32) (ms : Nat) (mk : Nat) (m_isGone : Nat → Int32) (hf_ms : im 2 = nI ms) (hf_mk : im 3 = nI mk) (hms : ms ≤ 24) (hmk : mk ≤ 8) (hm3 : mk = 0 ∨ 3 ≤ ms) (j1 : Nat) (w1 : Int32) (k4 : Nat) (hj4 : j1 ≤ ms) (hk4 : ms < j1 + (k4 + 1)) (hrj1 : w1 = lf1 m_isGone mk j1) (c_1 : ¬ nI ms ≤ nI j1) (n_5 : j1 < ms) (j2 : Nat) (w2 : Int32) (k14 : Nat) (hj14 : j2 ≤ mk) (hk14 : mk < j2 + (k14 + 1)) (hrj2 : w2 = lf2 m_isGone j1 (lf1 m_isGone mk j1) j2) (c_7 : ¬ nI mk ≤ nI j2) (n_11 : j2 < mk) (c_15 : ¬ m_isGone (16 * j1 + 2 * j2 + 0) = 0) : (16 * j1 + 2 * j2 + 1) < 384 := by
  omega
theorem lf_X12_left_t_27 (h : Nat) (q : Nat → Nat) (im : Nat → Int32) (ms : Nat) (mk : Nat) (m_isGone : Nat → Int32) (hf_ms : im 2 = nI ms) (hf_mk : im 3 = nI mk) (hms : ms ≤ 24) (hmk : mk ≤ 8) (hm3 : mk = 0 ∨ 3 ≤ ms) (j1 : Nat) (w1 : Int32) (k4 : Nat) (hj4 : j1 ≤ ms) (hk4 : ms < j1 + (k4 + 1)) (hrj1 : w1 = lf1 m_isGone mk j1) (c_1 : ¬ nI ms ≤ nI j1) (n_5 : j1 < ms) (j2 : Nat) (w2 : Int32) (k14 : Nat) (hj14 : j2 ≤ mk) (hk14 : mk < j2 + (k14 + 1)) (hrj2 : w2 = lf2 m_isGone j1 (lf1 m_isGone mk j1) j2) (c_7 : ¬ nI mk ≤ nI j2) (n_11 : j2 < mk) (c_15 : ¬ m_isGone (16 * j1 + 2 * j2 + 0) = 0) (c_25 : m_isGone (16 * j1 + 2 * j2 + 1) = 0) (x_26 : Int32) (ex_26 : x_26 = w2 + 1) : x_26 = lf2 m_isGone j1 (lf1 m_isGone mk j1) (j2 + 1) := by
  first | assumption | exact lf_11 hrj2 (by assumption) (by assumption) (by assumption) | exact lf_10 hrj2 (by assumption) (by assumption) (by assumption) | exact lf_01 hrj2 (by assumption) (by assumption) (by assumption) | exact lf_00 hrj2 (by assumption) (by assumption) (by assumption) | exact lf_s1 hrj2 (by omega) | rfl
theorem lf_X12_left_t_29 (h : Nat) (q : Nat → Nat) (im : Nat → Int32) (ms : Nat) (mk : Nat) (m_isGone : Nat → Int32) (hf_ms : im 2 = nI ms) (hf_mk : im 3 = nI mk) (hms : ms ≤ 24) (hmk : mk ≤ 8) (hm3 : mk = 0 ∨ 3 ≤ ms) (j1 : Nat) (w1 : Int32) (k4 : Nat) (hj4 : j1 ≤ ms) (hk4 : ms < j1 + (k4 + 1)) (hrj1 : w1 = lf1 m_isGone mk j1) (c_1 : ¬ nI ms ≤ nI j1) (n_5 : j1 < ms) (j2 : Nat) (w2 : Int32) (k14 : Nat) (hj14 : j2 ≤ mk) (hk14 : mk < j2 + (k14 + 1)) (hrj2 : w2 = lf2 m_isGone j1 (lf1 m_isGone mk j1) j2) (c_7 : ¬ nI mk ≤ nI j2) (n_11 : j2 < mk) (c_15 : ¬ m_isGone (16 * j1 + 2 * j2 + 0) = 0) (c_25 : ¬ m_isGone (16 * j1 + 2 * j2 + 1) = 0) (x_28 : Int32) (ex_28 : x_28 = w2 + 0) : x_28 = lf2 m_isGone j1 (lf1 m_isGone mk j1) (j2 + 1) := by
  first | assumption | exact lf_11 hrj2 (by assumption) (by assumption) (by assumption) | exact lf_10 hrj2 (by assumption) (by assumption) (by assumption) | exact lf_01 hrj2 (by assumption) (by assumption) (by assumption) | exact lf_00 hrj2 (by assumption) (by assumption) (by assumption) | exact lf_s1 hrj2 (by omega) | rfl
theorem lf_X12_left_t_30 (h : Nat) (q : Nat → Nat) (im : Nat → Int32) (ms : Nat) (mk : Nat) (m_isGone : Nat → Int32) (hf_ms : im 2 = nI ms) (hf_mk : im 3 = nI mk) (hms : ms ≤ 24) (hmk : mk ≤ 8) (hm3 : mk = 0 ∨ 3 ≤ ms) (j1 : Nat) (w1 : Int32) (k4 : Nat) (hj4 : j1 ≤ ms) (hk4 : ms < j1 + (k4 + 1)) (hrj1 : w1 = lf1 m_isGone mk j1) (c_1 : ¬ nI ms ≤ nI j1) (n_5 : j1 < ms) : w1 = lf2 m_isGone j1 (lf1 m_isGone mk j1) 0 := by
  first | assumption | exact lf_11 hrj2 (by assumption) (by assumption) (by assumption) | exact lf_10 hrj2 (by assumption) (by assumption) (by assumption) | exact lf_01 hrj2 (by assumption) (by assumption) (by assumption) | exact lf_00 hrj2 (by assumption) (by assumption) (by assumption) | exact lf_s1 hrj2 (by omega) | rfl
theorem lf_X12_left_t_31 (h : Nat) (q : Nat → Nat) (im : Nat → Int32) (ms : Nat) (mk : Nat) (m_isGone : Nat → Int32) (hf_ms : im 2 = nI ms) (hf_mk : im 3 = nI mk) (hms : ms ≤ 24) (hmk : mk ≤ 8) (hm3 : mk = 0 ∨ 3 ≤ ms) : (0 : Int32) = lf1 m_isGone mk 0 := by
  first | assumption | exact lf_11 hrj2 (by assumption) (by assumption) (by assumption) | exact lf_10 hrj2 (by assumption) (by assumption) (by assumption) | exact lf_01 hrj2 (by assumption) (by assumption) (by assumption) | exact lf_00 hrj2 (by assumption) (by assumption) (by assumption) | exact lf_s1 hrj2 (by omega) | rfl
set_option maxHeartbeats 4000000 in
set_option maxRecDepth 100000 in
theorem c_X12_left_t (l : Launch) (D : va_G) (cI cB cZ cJ : ClassId) (tx : List (ClassId × FieldType)) (h : Nat) (q : Nat → Nat) (im : Nat → Int32) (ms : Nat) (mk : Nat) (m_isGone : Nat → Int32) (hf_ms : im 2 = nI ms) (hf_mk : im 3 = nI mk) (hms : ms ≤ 24) (hmk : mk ≤ 8) (hm3 : mk = 0 ∨ 3 ≤ ms) : RdI l D cI cB cZ cJ tx yX12_left cX12_left 4 (some .int) 1 [.ref h] [(h, .inr (12, mG q im)), (q 46, .inl (cZ, 384, .inl m_isGone))] (fun r => r = lf1 m_isGone mk ms) := by
  refine rdi_of2 (by decide) (Nat.le_of_ble_eq_true rfl) ?_
  intro p e s m below meth c A ls H locs hC hK hP hD hA hS hl
  obtain ⟨hx, hb, hr, hml, hown, hts, hlocks, hin⟩ := hC
  have hown : s.vm.findClass RX12 = some m.cls := hown
  have hl : lv_has ls 4 [(0, .ref h)] := hl
  refine W_gQ (fun Q hQ => ?_)
  refine lv_iconst (v := 0) hx hb dX12_left_0 (by decide) ?_
  refine lv_istore_n (lv' := [(1, .int 0), (0, .ref h)]) hx hb dX12_left_1 rfl hl (by decide) rfl (fun ls hl => ?_)
  refine lv_iconst (v := 0) hx hb dX12_left_2 (by decide) ?_
  refine lv_istore_n (lv' := [(2, .int 0), (1, .int 0), (0, .ref h)]) hx hb dX12_left_3 rfl hl (by decide) rfl (fun ls hl => ?_)
  have lp4 : ∀ (k4 : Nat) (j1 : Nat) (w1 : Int32) (H : Heap) (locs : List Loc) (ls : Array Slot), j1 ≤ ms → ms < j1 + k4 → (w1 = lf1 m_isGone mk j1) → va_P D vwCl [(h, .inr (12, mG q im)), (q 46, .inl (cZ, 384, .inl m_isGone))] H → va_S A s.heap H locs → lv_has ls 4 [(2, .int (nI j1)), (1, .int w1), (0, .ref h)] → W p l e (rmX 1 0 0) s m ([.ref h] : List Value).toArray below meth c H locs 0 0 Q (F0 m 4 ls []) := by
    intro k4
    induction k4 with
    | zero =>
      intro j1 w1 H locs ls hj4 hk4 hrj1 hP hS hl
      exact absurd hk4 (by omega)
    | succ k4 ih4 =>
      intro j1 w1 H locs ls hj4 hk4 hrj1 hP hS hl
      refine lv_iload_n hx hb dX12_left_4 rfl (lv_at hl 0 rfl) ?_
      refine lv_aload_n hx hb dX12_left_5 rfl (lv_at hl 2 rfl) ?_
      refine va_get (D := D) (ci := 12) (v := .int (im 2)) (C := RX12) (T := TX12) (N := 81) hx hb hts inT_X12 hown hK.1 hP 0 rfl rfl 2 (by decide) (hts _ k_1355) (fun _ h9 => h9) rfl dX12_left_6 ?_
      refine lv_topv (y := nI ms) hf_ms ?_
      refine lv_icmp_ge (tgt := 76) hx hb dX12_left_9 (by decide) (fun c_1 => ?_) (fun c_1 => ?_)
      · have n_2 : ms ≤ j1 := (lf_X12_left_t_3 h q im ms mk m_isGone hf_ms hf_mk hms hmk hm3 j1 w1 k4 hj4 hk4 hrj1 c_1)
        refine lv_iload_n hx hb dX12_left_76 rfl (lv_at hl 1 rfl) ?_
        rw [hQ]
        exact W.iret (v := w1) hx hb hr (fun tt9 ht hW => ⟨⟨(w1 : Int32), (), rfl, (lf_X12_left_t_4 h q im ms mk m_isGone hf_ms hf_mk hms hmk hm3 j1 w1 k4 hj4 hk4 hrj1 c_1 n_2), trivial⟩, hS.F ht⟩) hS.2.2 dX12_left_77 hlocks
      · have n_5 : j1 < ms := (lf_X12_left_t_6 h q im ms mk m_isGone hf_ms hf_mk hms hmk hm3 j1 w1 k4 hj4 hk4 hrj1 c_1)
        refine lv_iconst (v := 0) hx hb dX12_left_12 (by decide) ?_
        refine lv_istore_n (lv' := [(3, .int 0), (2, .int (nI j1)), (1, .int w1), (0, .ref h)]) hx hb dX12_left_13 rfl hl (by decide) rfl (fun ls hl => ?_)
        have lp14 : ∀ (k14 : Nat) (j2 : Nat) (w2 : Int32) (H : Heap) (locs : List Loc) (ls : Array Slot), j2 ≤ mk → mk < j2 + k14 → (w2 = lf2 m_isGone j1 (lf1 m_isGone mk j1) j2) → va_P D vwCl [(h, .inr (12, mG q im)), (q 46, .inl (cZ, 384, .inl m_isGone))] H → va_S A s.heap H locs → lv_has ls 4 [(3, .int (nI j2)), (2, .int (nI j1)), (1, .int w2), (0, .ref h)] → W p l e (rmX 1 0 0) s m ([.ref h] : List Value).toArray below meth c H locs 0 0 Q (F0 m 14 ls []) := by
          intro k14
          induction k14 with
          | zero =>
            intro j2 w2 H locs ls hj14 hk14 hrj2 hP hS hl
            exact absurd hk14 (by omega)
          | succ k14 ih14 =>
            intro j2 w2 H locs ls hj14 hk14 hrj2 hP hS hl
            refine lv_iload_n hx hb dX12_left_14 rfl (lv_at hl 0 rfl) ?_
            refine lv_aload_n hx hb dX12_left_15 rfl (lv_at hl 3 rfl) ?_
            refine va_get (D := D) (ci := 12) (v := .int (im 3)) (C := RX12) (T := TX12) (N := 81) hx hb hts inT_X12 hown hK.1 hP 0 rfl rfl 3 (by decide) (hts _ k_1356) (fun _ h9 => h9) rfl dX12_left_16 ?_
            refine lv_topv (y := nI mk) hf_mk ?_
            refine lv_icmp_ge (tgt := 70) hx hb dX12_left_19 (by decide) (fun c_7 => ?_) (fun c_7 => ?_)
            · have n_8 : mk ≤ j2 := (lf_X12_left_t_9 h q im ms mk m_isGone hf_ms hf_mk hms hmk hm3 j1 w1 k4 hj4 hk4 hrj1 c_1 n_5 j2 w2 k14 hj14 hk14 hrj2 c_7)
              refine lv_iinc (v := nI (j1 + 1)) (lv' := [(2, .int (nI (j1 + 1))), (3, .int (nI j2)), (1, .int w2), (0, .ref h)]) hx hb dX12_left_70 hl (k := 1) rfl (nI_1 j1) (by decide) rfl (fun ls hl => ?_)
              refine lv_goto (tgt := 4) hx hb dX12_left_73 (by decide) ?_
              exact ih4 (j1 + 1) w2 H locs ls (by omega) (by omega) (lf_X12_left_t_10 h q im ms mk m_isGone hf_ms hf_mk hms hmk hm3 j1 w1 k4 hj4 hk4 hrj1 c_1 n_5 j2 w2 k14 hj14 hk14 hrj2 c_7 n_8) (hP.sub [0, 1] rfl)  hS (lv_sub hl [0, 2, 3] rfl)
            · have n_11 : j2 < mk := (lf_X12_left_t_12 h q im ms mk m_isGone hf_ms hf_mk hms hmk hm3 j1 w1 k4 hj4 hk4 hrj1 c_1 n_5 j2 w2 k14 hj14 hk14 hrj2 c_7)
              refine lv_iload_n hx hb dX12_left_22 rfl (lv_at hl 2 rfl) ?_
              refine lv_aload_n hx hb dX12_left_23 rfl (lv_at hl 3 rfl) ?_
              refine va_get (D := D) (ci := 12) (v := .ref (q 46)) (C := RX12) (T := TX12) (N := 81) hx hb hts inT_X12 hown hK.1 hP 0 rfl rfl 46 (by decide) (hts _ k_1399) (fun _ h9 => h9) rfl dX12_left_24 ?_
              refine lv_iload_n hx hb dX12_left_27 rfl (lv_at hl 1 rfl) ?_
              refine lv_iload_n hx hb dX12_left_28 rfl (lv_at hl 0 rfl) ?_
              refine lv_iconst (v := 0) hx hb dX12_left_29 (by decide) ?_
              refine eRi (va_runS (As := [.int (nI j1), .int (nI j2), .int 0]) (rest := [.ref (q 46), .int w2]) ⟨hx, hb, hml, hown, hts⟩ (c_X12_cellOf l D cI cB cZ cJ tx j1 j2 0 H.size) (zS hts k_1735 v_X12_cellOf ⟨Nat.le_of_ble_eq_true rfl, Nat.le_of_ble_eq_true rfl⟩) (px0 hK) rfl rfl hl.1 rfl (lv_room (Nat.le_of_ble_eq_true rfl)) dX12_left_30 ⟨Nat.le_of_ble_eq_true rfl, Nat.le_of_ble_eq_true rfl⟩) hP hS hA (fun r_13 H locs wr_13 hP hS => ?_)
              subst wr_13
              refine lt_z (j := (16 * j1 + 2 * j2 + 0)) hx hb hK hP 1 rfl (lf_X12_left_t_14 h q im ms mk m_isGone hf_ms hf_mk hms hmk hm3 j1 w1 k4 hj4 hk4 hrj1 c_1 n_5 j2 w2 k14 hj14 hk14 hrj2 c_7 n_11) (by decide) dX12_left_33 ?_
              refine lv_if_eq (tgt := 41) hx hb dX12_left_34 (by decide) (fun c_15 => ?_) (fun c_15 => ?_)
              · refine lv_iconst (v := 1) hx hb dX12_left_41 (by decide) ?_
                refine lv_aload_n hx hb dX12_left_42 rfl (lv_at hl 3 rfl) ?_
                refine va_get (D := D) (ci := 12) (v := .ref (q 46)) (C := RX12) (T := TX12) (N := 81) hx hb hts inT_X12 hown hK.1 hP 0 rfl rfl 46 (by decide) (hts _ k_1399) (fun _ h9 => h9) rfl dX12_left_43 ?_
                refine lv_iload_n hx hb dX12_left_46 rfl (lv_at hl 1 rfl) ?_
                refine lv_iload_n hx hb dX12_left_47 rfl (lv_at hl 0 rfl) ?_
                refine lv_iconst (v := 1) hx hb dX12_left_48 (by decide) ?_
                refine eRi (va_runS (As := [.int (nI j1), .int (nI j2), .int 1]) (rest := [.ref (q 46), .int 1, .int w2]) ⟨hx, hb, hml, hown, hts⟩ (c_X12_cellOf l D cI cB cZ cJ tx j1 j2 1 H.size) (zS hts k_1735 v_X12_cellOf ⟨Nat.le_of_ble_eq_true rfl, Nat.le_of_ble_eq_true rfl⟩) (px0 hK) rfl rfl hl.1 rfl (lv_room (Nat.le_of_ble_eq_true rfl)) dX12_left_49 ⟨Nat.le_of_ble_eq_true rfl, Nat.le_of_ble_eq_true rfl⟩) hP hS hA (fun r_16 H locs wr_16 hP hS => ?_)
                subst wr_16
                refine lt_z (j := (16 * j1 + 2 * j2 + 1)) hx hb hK hP 1 rfl (lf_X12_left_t_17 h q im ms mk m_isGone hf_ms hf_mk hms hmk hm3 j1 w1 k4 hj4 hk4 hrj1 c_1 n_5 j2 w2 k14 hj14 hk14 hrj2 c_7 n_11 c_15) (by decide) dX12_left_52 ?_
                refine lv_if_eq (tgt := 60) hx hb dX12_left_53 (by decide) (fun c_18 => ?_) (fun c_18 => ?_)
                · refine lv_iconst (v := 1) hx hb dX12_left_60 (by decide) ?_
                  refine lv_iadd hx hb dX12_left_61 ?_
                  refine lv_topv (y := 2) (by decide) ?_
                  refine lv_iadd hx hb dX12_left_62 ?_
                  refine lv_topi (fun x_19 ex_19 => ?_)
                  refine lv_istore_n (lv' := [(1, .int x_19), (3, .int (nI j2)), (2, .int (nI j1)), (0, .ref h)]) hx hb dX12_left_63 rfl hl (by decide) rfl (fun ls hl => ?_)
                  refine lv_iinc (v := nI (j2 + 1)) (lv' := [(3, .int (nI (j2 + 1))), (1, .int x_19), (2, .int (nI j1)), (0, .ref h)]) hx hb dX12_left_64 hl (k := 1) rfl (nI_1 j2) (by decide) rfl (fun ls hl => ?_)
                  refine lv_goto (tgt := 14) hx hb dX12_left_67 (by decide) ?_
                  exact ih14 (j2 + 1) x_19 H locs ls (by omega) (by omega) (lf_X12_left_t_20 h q im ms mk m_isGone hf_ms hf_mk hms hmk hm3 j1 w1 k4 hj4 hk4 hrj1 c_1 n_5 j2 w2 k14 hj14 hk14 hrj2 c_7 n_11 c_15 c_18 x_19 ex_19) (hP.sub [0, 1] rfl)  hS (lv_sub hl [0, 2, 1, 3] rfl)
                · refine lv_iconst (v := 0) hx hb dX12_left_56 (by decide) ?_
                  refine lv_goto (tgt := 61) hx hb dX12_left_57 (by decide) ?_
                  refine lv_iadd hx hb dX12_left_61 ?_
                  refine lv_topv (y := 1) (by decide) ?_
                  refine lv_iadd hx hb dX12_left_62 ?_
                  refine lv_topi (fun x_21 ex_21 => ?_)
                  refine lv_istore_n (lv' := [(1, .int x_21), (3, .int (nI j2)), (2, .int (nI j1)), (0, .ref h)]) hx hb dX12_left_63 rfl hl (by decide) rfl (fun ls hl => ?_)
                  refine lv_iinc (v := nI (j2 + 1)) (lv' := [(3, .int (nI (j2 + 1))), (1, .int x_21), (2, .int (nI j1)), (0, .ref h)]) hx hb dX12_left_64 hl (k := 1) rfl (nI_1 j2) (by decide) rfl (fun ls hl => ?_)
                  refine lv_goto (tgt := 14) hx hb dX12_left_67 (by decide) ?_
                  exact ih14 (j2 + 1) x_21 H locs ls (by omega) (by omega) (lf_X12_left_t_22 h q im ms mk m_isGone hf_ms hf_mk hms hmk hm3 j1 w1 k4 hj4 hk4 hrj1 c_1 n_5 j2 w2 k14 hj14 hk14 hrj2 c_7 n_11 c_15 c_18 x_21 ex_21) (hP.sub [0, 1] rfl)  hS (lv_sub hl [0, 2, 1, 3] rfl)
              · refine lv_iconst (v := 0) hx hb dX12_left_37 (by decide) ?_
                refine lv_goto (tgt := 42) hx hb dX12_left_38 (by decide) ?_
                refine lv_aload_n hx hb dX12_left_42 rfl (lv_at hl 3 rfl) ?_
                refine va_get (D := D) (ci := 12) (v := .ref (q 46)) (C := RX12) (T := TX12) (N := 81) hx hb hts inT_X12 hown hK.1 hP 0 rfl rfl 46 (by decide) (hts _ k_1399) (fun _ h9 => h9) rfl dX12_left_43 ?_
                refine lv_iload_n hx hb dX12_left_46 rfl (lv_at hl 1 rfl) ?_
                refine lv_iload_n hx hb dX12_left_47 rfl (lv_at hl 0 rfl) ?_
                refine lv_iconst (v := 1) hx hb dX12_left_48 (by decide) ?_
                refine eRi (va_runS (As := [.int (nI j1), .int (nI j2), .int 1]) (rest := [.ref (q 46), .int 0, .int w2]) ⟨hx, hb, hml, hown, hts⟩ (c_X12_cellOf l D cI cB cZ cJ tx j1 j2 1 H.size) (zS hts k_1735 v_X12_cellOf ⟨Nat.le_of_ble_eq_true rfl, Nat.le_of_ble_eq_true rfl⟩) (px0 hK) rfl rfl hl.1 rfl (lv_room (Nat.le_of_ble_eq_true rfl)) dX12_left_49 ⟨Nat.le_of_ble_eq_true rfl, Nat.le_of_ble_eq_true rfl⟩) hP hS hA (fun r_23 H locs wr_23 hP hS => ?_)
                subst wr_23
                refine lt_z (j := (16 * j1 + 2 * j2 + 1)) hx hb hK hP 1 rfl (lf_X12_left_t_24 h q im ms mk m_isGone hf_ms hf_mk hms hmk hm3 j1 w1 k4 hj4 hk4 hrj1 c_1 n_5 j2 w2 k14 hj14 hk14 hrj2 c_7 n_11 c_15) (by decide) dX12_left_52 ?_
                refine lv_if_eq (tgt := 60) hx hb dX12_left_53 (by decide) (fun c_25 => ?_) (fun c_25 => ?_)
                · refine lv_iconst (v := 1) hx hb dX12_left_60 (by decide) ?_
                  refine lv_iadd hx hb dX12_left_61 ?_
                  refine lv_topv (y := 1) (by decide) ?_
                  refine lv_iadd hx hb dX12_left_62 ?_
                  refine lv_topi (fun x_26 ex_26 => ?_)
                  refine lv_istore_n (lv' := [(1, .int x_26), (3, .int (nI j2)), (2, .int (nI j1)), (0, .ref h)]) hx hb dX12_left_63 rfl hl (by decide) rfl (fun ls hl => ?_)
                  refine lv_iinc (v := nI (j2 + 1)) (lv' := [(3, .int (nI (j2 + 1))), (1, .int x_26), (2, .int (nI j1)), (0, .ref h)]) hx hb dX12_left_64 hl (k := 1) rfl (nI_1 j2) (by decide) rfl (fun ls hl => ?_)
                  refine lv_goto (tgt := 14) hx hb dX12_left_67 (by decide) ?_
                  exact ih14 (j2 + 1) x_26 H locs ls (by omega) (by omega) (lf_X12_left_t_27 h q im ms mk m_isGone hf_ms hf_mk hms hmk hm3 j1 w1 k4 hj4 hk4 hrj1 c_1 n_5 j2 w2 k14 hj14 hk14 hrj2 c_7 n_11 c_15 c_25 x_26 ex_26) (hP.sub [0, 1] rfl)  hS (lv_sub hl [0, 2, 1, 3] rfl)
                · refine lv_iconst (v := 0) hx hb dX12_left_56 (by decide) ?_
                  refine lv_goto (tgt := 61) hx hb dX12_left_57 (by decide) ?_
                  refine lv_iadd hx hb dX12_left_61 ?_
                  refine lv_topv (y := 0) (by decide) ?_
                  refine lv_iadd hx hb dX12_left_62 ?_
                  refine lv_topi (fun x_28 ex_28 => ?_)
                  refine lv_istore_n (lv' := [(1, .int x_28), (3, .int (nI j2)), (2, .int (nI j1)), (0, .ref h)]) hx hb dX12_left_63 rfl hl (by decide) rfl (fun ls hl => ?_)
                  refine lv_iinc (v := nI (j2 + 1)) (lv' := [(3, .int (nI (j2 + 1))), (1, .int x_28), (2, .int (nI j1)), (0, .ref h)]) hx hb dX12_left_64 hl (k := 1) rfl (nI_1 j2) (by decide) rfl (fun ls hl => ?_)
                  refine lv_goto (tgt := 14) hx hb dX12_left_67 (by decide) ?_
                  exact ih14 (j2 + 1) x_28 H locs ls (by omega) (by omega) (lf_X12_left_t_29 h q im ms mk m_isGone hf_ms hf_mk hms hmk hm3 j1 w1 k4 hj4 hk4 hrj1 c_1 n_5 j2 w2 k14 hj14 hk14 hrj2 c_7 n_11 c_15 c_25 x_28 ex_28) (hP.sub [0, 1] rfl)  hS (lv_sub hl [0, 2, 1, 3] rfl)
        exact lp14 (mk + 1) 0 w1 H locs ls (by omega) (by omega) (lf_X12_left_t_30 h q im ms mk m_isGone hf_ms hf_mk hms hmk hm3 j1 w1 k4 hj4 hk4 hrj1 c_1 n_5) (hP.sub [0, 1] rfl)  hS (lv_sub hl [0, 1, 2, 3] rfl)
  exact lp4 (ms + 1) 0 0 H locs ls (by omega) (by omega) (lf_X12_left_t_31 h q im ms mk m_isGone hf_ms hf_mk hms hmk hm3) (hP.sub [0, 1] rfl)  hS (lv_sub hl [0, 1, 2] rfl)

theorem lf_X12_marks_t_2 (h : Nat) (q : Nat → Nat) (im : Nat → Int32) (m_hasMark : Nat → Int32) (m_markAcross : Nat → Int32) (m_markDeep : Nat → Int32) (k1 : Nat) (x1 : Nat) (n3 : Int32) (n4 : Int32) (hk1 : k1 < 4) (hx1 : x1 < 384) : ((384 * k1) + x1) < 1536 := by
  omega
theorem lf_X12_marks_t_4 (h : Nat) (q : Nat → Nat) (im : Nat → Int32) (m_hasMark : Nat → Int32) (m_markAcross : Nat → Int32) (m_markDeep : Nat → Int32) (k1 : Nat) (x1 : Nat) (n3 : Int32) (n4 : Int32) (hk1 : k1 < 4) (hx1 : x1 < 384) (f_1 : Nat → Int32) (ef_1 : f_1 = upd m_hasMark ((384 * k1) + x1) (vp_nar .boolean 1)) : ((384 * k1) + x1) < 1536 := by
  omega
theorem lf_X12_marks_t_6 (h : Nat) (q : Nat → Nat) (im : Nat → Int32) (m_hasMark : Nat → Int32) (m_markAcross : Nat → Int32) (m_markDeep : Nat → Int32) (k1 : Nat) (x1 : Nat) (n3 : Int32) (n4 : Int32) (hk1 : k1 < 4) (hx1 : x1 < 384) (f_1 : Nat → Int32) (ef_1 : f_1 = upd m_hasMark ((384 * k1) + x1) (vp_nar .boolean 1)) (f_3 : Nat → Int32) (ef_3 : f_3 = upd m_markAcross ((384 * k1) + x1) n3) : ((384 * k1) + x1) < 1536 := by
  omega
theorem lf_X12_marks_t_7 (h : Nat) (q : Nat → Nat) (im : Nat → Int32) (m_hasMark : Nat → Int32) (m_markAcross : Nat → Int32) (m_markDeep : Nat → Int32) (k1 : Nat) (x1 : Nat) (n3 : Int32) (n4 : Int32) (hk1 : k1 < 4) (hx1 : x1 < 384) (f_1 : Nat → Int32) (ef_1 : f_1 = upd m_hasMark ((384 * k1) + x1) (vp_nar .boolean 1)) (f_3 : Nat → Int32) (ef_3 : f_3 = upd m_markAcross ((384 * k1) + x1) n3) (f_5 : Nat → Int32) (ef_5 : f_5 = upd m_markDeep ((384 * k1) + x1) n4) : ((f_3 : Nat → Int32) = upd m_markAcross (384 * k1 + x1) n3) ∧ ((f_5 : Nat → Int32) = upd m_markDeep (384 * k1 + x1) n4) ∧ ((f_1 : Nat → Int32) = upd m_hasMark (384 * k1 + x1) (vp_nar .boolean 1)) := by
  exact ⟨by assumption, by assumption, by assumption⟩
set_option maxHeartbeats 4000000 in
set_option maxRecDepth 100000 in
theorem c_X12_marks_t (l : Launch) (D : va_G) (cI cB cZ cJ : ClassId) (tx : List (ClassId × FieldType)) (h : Nat) (q : Nat → Nat) (im : Nat → Int32) (m_hasMark : Nat → Int32) (m_markAcross : Nat → Int32) (m_markDeep : Nat → Int32) (k1 : Nat) (x1 : Nat) (n3 : Int32) (n4 : Int32) (hk1 : k1 < 4) (hx1 : x1 < 384) : WrV l D cI cB cZ cJ tx yX12_marks cX12_marks 5 none 0 0 0 [.ref h, .int (nI k1), .int (nI x1), .int n3, .int n4] [(h, .inr (12, mG q im)), (q 51, .inl (cZ, 1536, .inl m_hasMark)), (q 52, .inl (cI, 1536, .inl m_markAcross)), (q 53, .inl (cI, 1536, .inl m_markDeep))] (fun (v : (Nat → Int32) × (Nat → Int32) × (Nat → Int32)) => (v.2.1 = upd m_markAcross (384 * k1 + x1) n3) ∧ (v.2.2 = upd m_markDeep (384 * k1 + x1) n4) ∧ (v.1 = upd m_hasMark (384 * k1 + x1) (vp_nar .boolean 1))) (fun v => [(h, .inr (12, mG q im)), (q 51, .inl (cZ, 1536, .inl v.1)), (q 52, .inl (cI, 1536, .inl v.2.1)), (q 53, .inl (cI, 1536, .inl v.2.2))]) := by
  refine wrv_of2 (by decide) (Nat.le_of_ble_eq_true rfl) ?_
  intro p e s m below meth c A ls H locs hC hK hP hD hA hS hl
  obtain ⟨hx, hb, hr, hml, hown, hts, hlocks, hin⟩ := hC
  have hown : s.vm.findClass RX12 = some m.cls := hown
  have hl : lv_has ls 5 [(0, .ref h), (1, .int (nI k1)), (2, .int (nI x1)), (3, .int n3), (4, .int n4)] := hl
  refine W_gQ (fun Q hQ => ?_)
  refine lv_aload_n hx hb dX12_marks_0 rfl (lv_at hl 0 rfl) ?_
  refine va_get (D := D) (ci := 12) (v := .ref (q 51)) (C := RX12) (T := TX12) (N := 81) hx hb hts inT_X12 hown hK.1 hP 0 rfl rfl 51 (by decide) (hts _ k_1404) (fun _ h9 => h9) rfl dX12_marks_1 ?_
  refine lv_sipush (v := 384) hx hb dX12_marks_4 (by decide) ?_
  refine lv_iload_n hx hb dX12_marks_7 rfl (lv_at hl 1 rfl) ?_
  refine lv_imul hx hb dX12_marks_8 ?_
  refine lv_topv (y := nI (384 * k1)) (pk_mul 384 k1) ?_
  refine lv_iload_n hx hb dX12_marks_9 rfl (lv_at hl 2 rfl) ?_
  refine lv_iadd hx hb dX12_marks_10 ?_
  refine lv_topv (y := nI ((384 * k1) + x1)) (nI_add (384 * k1) x1) ?_
  refine lv_iconst (v := 1) hx hb dX12_marks_11 (by decide) ?_
  refine su_z (j := ((384 * k1) + x1)) hx hb hK hP hD hS 1 rfl (lf_X12_marks_t_2 h q im m_hasMark m_markAcross m_markDeep k1 x1 n3 n4 hk1 hx1) (by first | decide | assumption) dX12_marks_12 (fun f_1 H locs ef_1 hP hD hS => ?_)
  have hPD := pd_mk (ws := [(h, .inr (12, mG q im)), (q 51, .inl (cZ, 1536, .inl f_1)), (q 52, .inl (cI, 1536, .inl m_markAcross)), (q 53, .inl (cI, 1536, .inl m_markDeep))]) hP hD
  have hP := hPD.1
  have hD := hPD.2
  refine lv_aload_n hx hb dX12_marks_13 rfl (lv_at hl 0 rfl) ?_
  refine va_get (D := D) (ci := 12) (v := .ref (q 52)) (C := RX12) (T := TX12) (N := 81) hx hb hts inT_X12 hown hK.1 hP 0 rfl rfl 52 (by decide) (hts _ k_1405) (fun _ h9 => h9) rfl dX12_marks_14 ?_
  refine lv_sipush (v := 384) hx hb dX12_marks_17 (by decide) ?_
  refine lv_iload_n hx hb dX12_marks_20 rfl (lv_at hl 1 rfl) ?_
  refine lv_imul hx hb dX12_marks_21 ?_
  refine lv_topv (y := nI (384 * k1)) (pk_mul 384 k1) ?_
  refine lv_iload_n hx hb dX12_marks_22 rfl (lv_at hl 2 rfl) ?_
  refine lv_iadd hx hb dX12_marks_23 ?_
  refine lv_topv (y := nI ((384 * k1) + x1)) (nI_add (384 * k1) x1) ?_
  refine lv_iload_n hx hb dX12_marks_24 rfl (lv_at hl 3 rfl) ?_
  refine su_i (j := ((384 * k1) + x1)) hx hb hK hP hD hS 2 rfl (lf_X12_marks_t_4 h q im m_hasMark m_markAcross m_markDeep k1 x1 n3 n4 hk1 hx1 f_1 ef_1) (by first | decide | assumption) dX12_marks_25 (fun f_3 H locs ef_3 hP hD hS => ?_)
  have hPD := pd_mk (ws := [(h, .inr (12, mG q im)), (q 51, .inl (cZ, 1536, .inl f_1)), (q 52, .inl (cI, 1536, .inl f_3)), (q 53, .inl (cI, 1536, .inl m_markDeep))]) hP hD
  have hP := hPD.1
  have hD := hPD.2
  refine lv_aload_n hx hb dX12_marks_26 rfl (lv_at hl 0 rfl) ?_
  refine va_get (D := D) (ci := 12) (v := .ref (q 53)) (C := RX12) (T := TX12) (N := 81) hx hb hts inT_X12 hown hK.1 hP 0 rfl rfl 53 (by decide) (hts _ k_1406) (fun _ h9 => h9) rfl dX12_marks_27 ?_
  refine lv_sipush (v := 384) hx hb dX12_marks_30 (by decide) ?_
  refine lv_iload_n hx hb dX12_marks_33 rfl (lv_at hl 1 rfl) ?_
  refine lv_imul hx hb dX12_marks_34 ?_
  refine lv_topv (y := nI (384 * k1)) (pk_mul 384 k1) ?_
  refine lv_iload_n hx hb dX12_marks_35 rfl (lv_at hl 2 rfl) ?_
  refine lv_iadd hx hb dX12_marks_36 ?_
  refine lv_topv (y := nI ((384 * k1) + x1)) (nI_add (384 * k1) x1) ?_
  refine lv_iload hx hb dX12_marks_37 (lv_at hl 4 rfl) ?_
  refine su_i (j := ((384 * k1) + x1)) hx hb hK hP hD hS 3 rfl (lf_X12_marks_t_6 h q im m_hasMark m_markAcross m_markDeep k1 x1 n3 n4 hk1 hx1 f_1 ef_1 f_3 ef_3) (by first | decide | assumption) dX12_marks_39 (fun f_5 H locs ef_5 hP hD hS => ?_)
  have hPD := pd_mk (ws := [(h, .inr (12, mG q im)), (q 51, .inl (cZ, 1536, .inl f_1)), (q 52, .inl (cI, 1536, .inl f_3)), (q 53, .inl (cI, 1536, .inl f_5))]) hP hD
  have hP := hPD.1
  have hD := hPD.2
  rw [hQ]
  exact W.vret hx hb hr (fun tt9 ht hW => ⟨⟨((f_1 : Nat → Int32), (f_3 : Nat → Int32), (f_5 : Nat → Int32)), rfl, (lf_X12_marks_t_7 h q im m_hasMark m_markAcross m_markDeep k1 x1 n3 n4 hk1 hx1 f_1 ef_1 f_3 ef_3 f_5 ef_5), ⟨by rw [ht]; exact hP, hD⟩⟩, hS.F ht⟩) hS.2.2 dX12_marks_40 hlocks

theorem lf_X12_draw_m_3 (h : Nat) (q : Nat → Nat) (im : Nat → Int32) (ms : Nat) (mk : Nat) (md : Nat) (mc : Int32) (mh : Int32) (m_across : Nat → Int32) (m_deep : Nat → Int32) (m_isGone : Nat → Int32) (m_hasMark : Nat → Int32) (m_markAcross : Nat → Int32) (m_markDeep : Nat → Int32) (n1 : Int32) (n2 : Int32) (n3 : Int32) (n4 : Int32) (hf_ms : im 2 = nI ms) (hf_mk : im 3 = nI mk) (hf_md : im 50 = nI md) (hf_mc : im 49 = mc) (hf_mh : im 5 = mh) (hms : ms ≤ 24) (hmk : mk ≤ 8) (hm3 : mk = 0 ∨ 3 ≤ ms) (hmd : md ≤ 4) (hc0 : (0 : Int32) ≤ mc) (hsb : SB [5] im im) (c_2 : ¬ ((0 : Int32) ≤ n1 ∧ n1 ≤ nI md - 1)) : (SB [5] im (im : Nat → Int32)) ∧ ((im : Nat → Int32) 5 = (mh : Int32)) ∧ ((((m_markAcross : Nat → Int32), (m_markDeep : Nat → Int32), (m_hasMark : Nat → Int32), (mh : Int32)) : D4T) = drF m_across m_deep m_isGone mc ms mk md n1 n2 n3 n4 (m_markAcross, m_markDeep, m_hasMark, mh)) := by
  refine ⟨by assumption, by assumption, ?_⟩
  first | exact drF_1 (by assumption) | exact drF_2 (by assumption) | exact drF_3 (by assumption) | exact drF_4 (by assumption) | exact drF_y (by assumption) (by assumption) (by assumption) (by assumption) tn1e tn4e (by omega) (dr_e (by assumption) (by omega))
theorem lf_X12_draw_m_4 (h : Nat) (q : Nat → Nat) (im : Nat → Int32) (ms : Nat) (mk : Nat) (md : Nat) (mc : Int32) (mh : Int32) (m_across : Nat → Int32) (m_deep : Nat → Int32) (m_isGone : Nat → Int32) (m_hasMark : Nat → Int32) (m_markAcross : Nat → Int32) (m_markDeep : Nat → Int32) (n1 : Int32) (n2 : Int32) (n3 : Int32) (n4 : Int32) (hf_ms : im 2 = nI ms) (hf_mk : im 3 = nI mk) (hf_md : im 50 = nI md) (hf_mc : im 49 = mc) (hf_mh : im 5 = mh) (hms : ms ≤ 24) (hmk : mk ≤ 8) (hm3 : mk = 0 ∨ 3 ≤ ms) (hmd : md ≤ 4) (hc0 : (0 : Int32) ≤ mc) (hsb : SB [5] im im) (c_2 : (0 : Int32) ≤ n1 ∧ n1 ≤ nI md - 1) : md < 2 ^ 31 := by
  omega
theorem lf_X12_draw_m_7 (h : Nat) (q : Nat → Nat) (im : Nat → Int32) (ms : Nat) (mk : Nat) (md : Nat) (mc : Int32) (mh : Int32) (m_across : Nat → Int32) (m_deep : Nat → Int32) (m_isGone : Nat → Int32) (m_hasMark : Nat → Int32) (m_markAcross : Nat → Int32) (m_markDeep : Nat → Int32) (n1 : Int32) (n2 : Int32) (n3 : Int32) (n4 : Int32) (hf_ms : im 2 = nI ms) (hf_mk : im 3 = nI mk) (hf_md : im 50 = nI md) (hf_mc : im 49 = mc) (hf_mh : im 5 = mh) (hms : ms ≤ 24) (hmk : mk ≤ 8) (hm3 : mk = 0 ∨ 3 ≤ ms) (hmd : md ≤ 4) (hc0 : (0 : Int32) ≤ mc) (hsb : SB [5] im im) (c_2 : (0 : Int32) ≤ n1 ∧ n1 ≤ nI md - 1) (tn1 : Nat) (tn1a : tn1 < md) (tn1e : n1 = nI tn1) (c_6 : ¬ (((-2000) : Int32) ≤ n2 ∧ n2 ≤ 2000)) : (SB [5] im (im : Nat → Int32)) ∧ ((im : Nat → Int32) 5 = (mh : Int32)) ∧ ((((m_markAcross : Nat → Int32), (m_markDeep : Nat → Int32), (m_hasMark : Nat → Int32), (mh : Int32)) : D4T) = drF m_across m_deep m_isGone mc ms mk md n1 n2 n3 n4 (m_markAcross, m_markDeep, m_hasMark, mh)) := by
  refine ⟨by assumption, by assumption, ?_⟩
  first | exact drF_1 (by assumption) | exact drF_2 (by assumption) | exact drF_3 (by assumption) | exact drF_4 (by assumption) | exact drF_y (by assumption) (by assumption) (by assumption) (by assumption) tn1e tn4e (by omega) (dr_e (by assumption) (by omega))
theorem lf_X12_draw_m_10 (h : Nat) (q : Nat → Nat) (im : Nat → Int32) (ms : Nat) (mk : Nat) (md : Nat) (mc : Int32) (mh : Int32) (m_across : Nat → Int32) (m_deep : Nat → Int32) (m_isGone : Nat → Int32) (m_hasMark : Nat → Int32) (m_markAcross : Nat → Int32) (m_markDeep : Nat → Int32) (n1 : Int32) (n2 : Int32) (n3 : Int32) (n4 : Int32) (hf_ms : im 2 = nI ms) (hf_mk : im 3 = nI mk) (hf_md : im 50 = nI md) (hf_mc : im 49 = mc) (hf_mh : im 5 = mh) (hms : ms ≤ 24) (hmk : mk ≤ 8) (hm3 : mk = 0 ∨ 3 ≤ ms) (hmd : md ≤ 4) (hc0 : (0 : Int32) ≤ mc) (hsb : SB [5] im im) (c_2 : (0 : Int32) ≤ n1 ∧ n1 ≤ nI md - 1) (tn1 : Nat) (tn1a : tn1 < md) (tn1e : n1 = nI tn1) (c_6 : ((-2000) : Int32) ≤ n2 ∧ n2 ≤ 2000) (c_9 : ¬ (((-2000) : Int32) ≤ n3 ∧ n3 ≤ 2000)) : (SB [5] im (im : Nat → Int32)) ∧ ((im : Nat → Int32) 5 = (mh : Int32)) ∧ ((((m_markAcross : Nat → Int32), (m_markDeep : Nat → Int32), (m_hasMark : Nat → Int32), (mh : Int32)) : D4T) = drF m_across m_deep m_isGone mc ms mk md n1 n2 n3 n4 (m_markAcross, m_markDeep, m_hasMark, mh)) := by
  refine ⟨by assumption, by assumption, ?_⟩
  first | exact drF_1 (by assumption) | exact drF_2 (by assumption) | exact drF_3 (by assumption) | exact drF_4 (by assumption) | exact drF_y (by assumption) (by assumption) (by assumption) (by assumption) tn1e tn4e (by omega) (dr_e (by assumption) (by omega))
theorem lf_X12_draw_m_15 (h : Nat) (q : Nat → Nat) (im : Nat → Int32) (ms : Nat) (mk : Nat) (md : Nat) (mc : Int32) (mh : Int32) (m_across : Nat → Int32) (m_deep : Nat → Int32) (m_isGone : Nat → Int32) (m_hasMark : Nat → Int32) (m_markAcross : Nat → Int32) (m_markDeep : Nat → Int32) (n1 : Int32) (n2 : Int32) (n3 : Int32) (n4 : Int32) (hf_ms : im 2 = nI ms) (hf_mk : im 3 = nI mk) (hf_md : im 50 = nI md) (hf_mc : im 49 = mc) (hf_mh : im 5 = mh) (hms : ms ≤ 24) (hmk : mk ≤ 8) (hm3 : mk = 0 ∨ 3 ≤ ms) (hmd : md ≤ 4) (hc0 : (0 : Int32) ≤ mc) (c_2 : (0 : Int32) ≤ n1 ∧ n1 ≤ nI md - 1) (tn1 : Nat) (tn1a : tn1 < md) (tn1e : n1 = nI tn1) (c_6 : ((-2000) : Int32) ≤ n2 ∧ n2 ≤ 2000) (c_9 : ((-2000) : Int32) ≤ n3 ∧ n3 ≤ 2000) (c_12 : (0 : Int32) ≤ n4 ∧ n4 ≤ 1000) (tn4 : Nat) (tn4a : 0 ≤ tn4) (tn4b : tn4 ≤ 1000) (tn4e : n4 = nI tn4) (j1 : Nat) (m_hasMark_j1 : Nat → Int32) (m_markAcross_j1 : Nat → Int32) (m_markDeep_j1 : Nat → Int32) (im_54 : Nat → Int32) (mh_j1 : Int32) (k54 : Nat) (hj54 : j1 ≤ ms) (hk54 : ms < j1 + (k54 + 1)) (hsb : SB [5] im im_54) (hm54_2 : im_54 2 = nI ms) (hm54_3 : im_54 3 = nI mk) (hm54_5 : im_54 5 = mh_j1) (hm54_49 : im_54 49 = mc) (hm54_50 : im_54 50 = nI md) (hrj1 : ((m_markAcross_j1, m_markDeep_j1, m_hasMark_j1, mh_j1) : D4T) = dr1 m_across m_deep m_isGone mc tn1 n2 n3 (nI tn4) mk (m_markAcross, m_markDeep, m_hasMark, mh) j1) (c_13 : nI ms ≤ nI j1) : ms ≤ j1 := by
  exact (nI_leI (a := ms) (b := j1) (by omega) (by omega)).mp c_13
theorem lf_X12_draw_m_16 (h : Nat) (q : Nat → Nat) (im : Nat → Int32) (ms : Nat) (mk : Nat) (md : Nat) (mc : Int32) (mh : Int32) (m_across : Nat → Int32) (m_deep : Nat → Int32) (m_isGone : Nat → Int32) (m_hasMark : Nat → Int32) (m_markAcross : Nat → Int32) (m_markDeep : Nat → Int32) (n1 : Int32) (n2 : Int32) (n3 : Int32) (n4 : Int32) (hf_ms : im 2 = nI ms) (hf_mk : im 3 = nI mk) (hf_md : im 50 = nI md) (hf_mc : im 49 = mc) (hf_mh : im 5 = mh) (hms : ms ≤ 24) (hmk : mk ≤ 8) (hm3 : mk = 0 ∨ 3 ≤ ms) (hmd : md ≤ 4) (hc0 : (0 : Int32) ≤ mc) (c_2 : (0 : Int32) ≤ n1 ∧ n1 ≤ nI md - 1) (tn1 : Nat) (tn1a : tn1 < md) (tn1e : n1 = nI tn1) (c_6 : ((-2000) : Int32) ≤ n2 ∧ n2 ≤ 2000) (c_9 : ((-2000) : Int32) ≤ n3 ∧ n3 ≤ 2000) (c_12 : (0 : Int32) ≤ n4 ∧ n4 ≤ 1000) (tn4 : Nat) (tn4a : 0 ≤ tn4) (tn4b : tn4 ≤ 1000) (tn4e : n4 = nI tn4) (j1 : Nat) (m_hasMark_j1 : Nat → Int32) (m_markAcross_j1 : Nat → Int32) (m_markDeep_j1 : Nat → Int32) (im_54 : Nat → Int32) (mh_j1 : Int32) (k54 : Nat) (hj54 : j1 ≤ ms) (hk54 : ms < j1 + (k54 + 1)) (hsb : SB [5] im im_54) (hm54_2 : im_54 2 = nI ms) (hm54_3 : im_54 3 = nI mk) (hm54_5 : im_54 5 = mh_j1) (hm54_49 : im_54 49 = mc) (hm54_50 : im_54 50 = nI md) (hrj1 : ((m_markAcross_j1, m_markDeep_j1, m_hasMark_j1, mh_j1) : D4T) = dr1 m_across m_deep m_isGone mc tn1 n2 n3 (nI tn4) mk (m_markAcross, m_markDeep, m_hasMark, mh) j1) (c_13 : nI ms ≤ nI j1) (n_14 : ms ≤ j1) : tn1 < 4 := by
  first | assumption | omega | decide | rfl
theorem lf_X12_draw_m_18 (h : Nat) (q : Nat → Nat) (im : Nat → Int32) (ms : Nat) (mk : Nat) (md : Nat) (mc : Int32) (mh : Int32) (m_across : Nat → Int32) (m_deep : Nat → Int32) (m_isGone : Nat → Int32) (m_hasMark : Nat → Int32) (m_markAcross : Nat → Int32) (m_markDeep : Nat → Int32) (n1 : Int32) (n2 : Int32) (n3 : Int32) (n4 : Int32) (hf_ms : im 2 = nI ms) (hf_mk : im 3 = nI mk) (hf_md : im 50 = nI md) (hf_mc : im 49 = mc) (hf_mh : im 5 = mh) (hms : ms ≤ 24) (hmk : mk ≤ 8) (hm3 : mk = 0 ∨ 3 ≤ ms) (hmd : md ≤ 4) (hc0 : (0 : Int32) ≤ mc) (c_2 : (0 : Int32) ≤ n1 ∧ n1 ≤ nI md - 1) (tn1 : Nat) (tn1a : tn1 < md) (tn1e : n1 = nI tn1) (c_6 : ((-2000) : Int32) ≤ n2 ∧ n2 ≤ 2000) (c_9 : ((-2000) : Int32) ≤ n3 ∧ n3 ≤ 2000) (c_12 : (0 : Int32) ≤ n4 ∧ n4 ≤ 1000) (tn4 : Nat) (tn4a : 0 ≤ tn4) (tn4b : tn4 ≤ 1000) (tn4e : n4 = nI tn4) (j1 : Nat) (m_hasMark_j1 : Nat → Int32) (m_markAcross_j1 : Nat → Int32) (m_markDeep_j1 : Nat → Int32) (im_54 : Nat → Int32) (mh_j1 : Int32) (k54 : Nat) (hj54 : j1 ≤ ms) (hk54 : ms < j1 + (k54 + 1)) (hsb : SB [5] im im_54) (hm54_2 : im_54 2 = nI ms) (hm54_3 : im_54 3 = nI mk) (hm54_5 : im_54 5 = mh_j1) (hm54_49 : im_54 49 = mc) (hm54_50 : im_54 50 = nI md) (hrj1 : ((m_markAcross_j1, m_markDeep_j1, m_hasMark_j1, mh_j1) : D4T) = dr1 m_across m_deep m_isGone mc tn1 n2 n3 (nI tn4) mk (m_markAcross, m_markDeep, m_hasMark, mh) j1) (c_13 : nI ms ≤ nI j1) (n_14 : ms ≤ j1) (r_17 : Int32) : (SB [5] im (im_54 : Nat → Int32)) ∧ ((im_54 : Nat → Int32) 5 = (mh_j1 : Int32)) ∧ ((((m_markAcross_j1 : Nat → Int32), (m_markDeep_j1 : Nat → Int32), (m_hasMark_j1 : Nat → Int32), (mh_j1 : Int32)) : D4T) = drF m_across m_deep m_isGone mc ms mk md n1 n2 n3 n4 (m_markAcross, m_markDeep, m_hasMark, mh)) := by
  refine ⟨by assumption, by assumption, ?_⟩
  first | exact drF_1 (by assumption) | exact drF_2 (by assumption) | exact drF_3 (by assumption) | exact drF_4 (by assumption) | exact drF_y (by assumption) (by assumption) (by assumption) (by assumption) tn1e tn4e (by omega) (dr_e (by assumption) (by omega))
theorem lf_X12_draw_m_20 (h : Nat) (q : Nat → Nat) (im : Nat → Int32) (ms : Nat) (mk : Nat) (md : Nat) (mc : Int32) (mh : Int32) (m_across : Nat → Int32) (m_deep : Nat → Int32) (m_isGone : Nat → Int32) (m_hasMark : Nat → Int32) (m_markAcross : Nat → Int32) (m_markDeep : Nat → Int32) (n1 : Int32) (n2 : Int32) (n3 : Int32) (n4 : Int32) (hf_ms : im 2 = nI ms) (hf_mk : im 3 = nI mk) (hf_md : im 50 = nI md) (hf_mc : im 49 = mc) (hf_mh : im 5 = mh) (hms : ms ≤ 24) (hmk : mk ≤ 8) (hm3 : mk = 0 ∨ 3 ≤ ms) (hmd : md ≤ 4) (hc0 : (0 : Int32) ≤ mc) (c_2 : (0 : Int32) ≤ n1 ∧ n1 ≤ nI md - 1) (tn1 : Nat) (tn1a : tn1 < md) (tn1e : n1 = nI tn1) (c_6 : ((-2000) : Int32) ≤ n2 ∧ n2 ≤ 2000) (c_9 : ((-2000) : Int32) ≤ n3 ∧ n3 ≤ 2000) (c_12 : (0 : Int32) ≤ n4 ∧ n4 ≤ 1000) (tn4 : Nat) (tn4a : 0 ≤ tn4) (tn4b : tn4 ≤ 1000) (tn4e : n4 = nI tn4) (j1 : Nat) (m_hasMark_j1 : Nat → Int32) (m_markAcross_j1 : Nat → Int32) (m_markDeep_j1 : Nat → Int32) (im_54 : Nat → Int32) (mh_j1 : Int32) (k54 : Nat) (hj54 : j1 ≤ ms) (hk54 : ms < j1 + (k54 + 1)) (hsb : SB [5] im im_54) (hm54_2 : im_54 2 = nI ms) (hm54_3 : im_54 3 = nI mk) (hm54_5 : im_54 5 = mh_j1) (hm54_49 : im_54 49 = mc) (hm54_50 : im_54 50 = nI md) (hrj1 : ((m_markAcross_j1, m_markDeep_j1, m_hasMark_j1, mh_j1) : D4T) = dr1 m_across m_deep m_isGone mc tn1 n2 n3 (nI tn4) mk (m_markAcross, m_markDeep, m_hasMark, mh) j1) (c_13 : ¬ nI ms ≤ nI j1) : j1 < ms := by
  exact Nat.lt_of_not_le (fun q => c_13 ((nI_leI (a := ms) (b := j1) (by omega) (by omega)).mpr q))
theorem lf_X12_draw_m_23 (h : Nat) (q : Nat → Nat) (im : Nat → Int32) (ms : Nat) (mk : Nat) (md : Nat) (mc : Int32) (mh : Int32) (m_across : Nat → Int32) (m_deep : Nat → Int32) (m_isGone : Nat → Int32) (m_hasMark : Nat → Int32) (m_markAcross : Nat → Int32) (m_markDeep : Nat → Int32) (n1 : Int32) (n2 : Int32) (n3 : Int32) (n4 : Int32) (hf_ms : im 2 = nI ms) (hf_mk : im 3 = nI mk) (hf_md : im 50 = nI md) (hf_mc : im 49 = mc) (hf_mh : im 5 = mh) (hms : ms ≤ 24) (hmk : mk ≤ 8) (hm3 : mk = 0 ∨ 3 ≤ ms) (hmd : md ≤ 4) (hc0 : (0 : Int32) ≤ mc) (c_2 : (0 : Int32) ≤ n1 ∧ n1 ≤ nI md - 1) (tn1 : Nat) (tn1a : tn1 < md) (tn1e : n1 = nI tn1) (c_6 : ((-2000) : Int32) ≤ n2 ∧ n2 ≤ 2000) (c_9 : ((-2000) : Int32) ≤ n3 ∧ n3 ≤ 2000) (c_12 : (0 : Int32) ≤ n4 ∧ n4 ≤ 1000) (tn4 : Nat) (tn4a : 0 ≤ tn4) (tn4b : tn4 ≤ 1000) (tn4e : n4 = nI tn4) (j1 : Nat) (m_hasMark_j1 : Nat → Int32) (m_markAcross_j1 : Nat → Int32) (m_markDeep_j1 : Nat → Int32) (im_54 : Nat → Int32) (mh_j1 : Int32) (k54 : Nat) (hj54 : j1 ≤ ms) (hk54 : ms < j1 + (k54 + 1)) (hm54_2 : im_54 2 = nI ms) (hm54_3 : im_54 3 = nI mk) (hm54_5 : im_54 5 = mh_j1) (hm54_49 : im_54 49 = mc) (hm54_50 : im_54 50 = nI md) (hrj1 : ((m_markAcross_j1, m_markDeep_j1, m_hasMark_j1, mh_j1) : D4T) = dr1 m_across m_deep m_isGone mc tn1 n2 n3 (nI tn4) mk (m_markAcross, m_markDeep, m_hasMark, mh) j1) (c_13 : ¬ nI ms ≤ nI j1) (n_19 : j1 < ms) (j2 : Nat) (m_hasMark_j2 : Nat → Int32) (m_markAcross_j2 : Nat → Int32) (m_markDeep_j2 : Nat → Int32) (im_66 : Nat → Int32) (mh_j2 : Int32) (k66 : Nat) (hj66 : j2 ≤ mk) (hk66 : mk < j2 + (k66 + 1)) (hsb : SB [5] im im_66) (hm66_2 : im_66 2 = nI ms) (hm66_3 : im_66 3 = nI mk) (hm66_5 : im_66 5 = mh_j2) (hm66_49 : im_66 49 = mc) (hm66_50 : im_66 50 = nI md) (hrj2 : ((m_markAcross_j2, m_markDeep_j2, m_hasMark_j2, mh_j2) : D4T) = dr2 m_across m_deep m_isGone mc tn1 n2 n3 (nI tn4) j1 (dr1 m_across m_deep m_isGone mc tn1 n2 n3 (nI tn4) mk (m_markAcross, m_markDeep, m_hasMark, mh) j1) j2) (c_21 : nI mk ≤ nI j2) : mk ≤ j2 := by
  exact (nI_leI (a := mk) (b := j2) (by omega) (by omega)).mp c_21
theorem lf_X12_draw_m_24 (h : Nat) (q : Nat → Nat) (im : Nat → Int32) (ms : Nat) (mk : Nat) (md : Nat) (mc : Int32) (mh : Int32) (m_across : Nat → Int32) (m_deep : Nat → Int32) (m_isGone : Nat → Int32) (m_hasMark : Nat → Int32) (m_markAcross : Nat → Int32) (m_markDeep : Nat → Int32) (n1 : Int32) (n2 : Int32) (n3 : Int32) (n4 : Int32) (hf_ms : im 2 = nI ms) (hf_mk : im 3 = nI mk) (hf_md : im 50 = nI md) (hf_mc : im 49 = mc) (hf_mh : im 5 = mh) (hms : ms ≤ 24) (hmk : mk ≤ 8) (hm3 : mk = 0 ∨ 3 ≤ ms) (hmd : md ≤ 4) (hc0 : (0 : Int32) ≤ mc) (c_2 : (0 : Int32) ≤ n1 ∧ n1 ≤ nI md - 1) (tn1 : Nat) (tn1a : tn1 < md) (tn1e : n1 = nI tn1) (c_6 : ((-2000) : Int32) ≤ n2 ∧ n2 ≤ 2000) (c_9 : ((-2000) : Int32) ≤ n3 ∧ n3 ≤ 2000) (c_12 : (0 : Int32) ≤ n4 ∧ n4 ≤ 1000) (tn4 : Nat) (tn4a : 0 ≤ tn4) (tn4b : tn4 ≤ 1000) (tn4e : n4 = nI tn4) (j1 : Nat) (m_hasMark_j1 : Nat → Int32) (m_markAcross_j1 : Nat → Int32) (m_markDeep_j1 : Nat → Int32) (im_54 : Nat → Int32) (mh_j1 : Int32) (k54 : Nat) (hj54 : j1 ≤ ms) (hk54 : ms < j1 + (k54 + 1)) (hm54_2 : im_54 2 = nI ms) (hm54_3 : im_54 3 = nI mk) (hm54_5 : im_54 5 = mh_j1) (hm54_49 : im_54 49 = mc) (hm54_50 : im_54 50 = nI md) (hrj1 : ((m_markAcross_j1, m_markDeep_j1, m_hasMark_j1, mh_j1) : D4T) = dr1 m_across m_deep m_isGone mc tn1 n2 n3 (nI tn4) mk (m_markAcross, m_markDeep, m_hasMark, mh) j1) (c_13 : ¬ nI ms ≤ nI j1) (n_19 : j1 < ms) (j2 : Nat) (m_hasMark_j2 : Nat → Int32) (m_markAcross_j2 : Nat → Int32) (m_markDeep_j2 : Nat → Int32) (im_66 : Nat → Int32) (mh_j2 : Int32) (k66 : Nat) (hj66 : j2 ≤ mk) (hk66 : mk < j2 + (k66 + 1)) (hsb : SB [5] im im_66) (hm66_2 : im_66 2 = nI ms) (hm66_3 : im_66 3 = nI mk) (hm66_5 : im_66 5 = mh_j2) (hm66_49 : im_66 49 = mc) (hm66_50 : im_66 50 = nI md) (hrj2 : ((m_markAcross_j2, m_markDeep_j2, m_hasMark_j2, mh_j2) : D4T) = dr2 m_across m_deep m_isGone mc tn1 n2 n3 (nI tn4) j1 (dr1 m_across m_deep m_isGone mc tn1 n2 n3 (nI tn4) mk (m_markAcross, m_markDeep, m_hasMark, mh) j1) j2) (c_21 : nI mk ≤ nI j2) (n_22 : mk ≤ j2) : ((m_markAcross_j2, m_markDeep_j2, m_hasMark_j2, mh_j2) : D4T) = dr1 m_across m_deep m_isGone mc tn1 n2 n3 (nI tn4) mk (m_markAcross, m_markDeep, m_hasMark, mh) (j1 + 1) := by
  first | omega | assumption | exact dr_s3 hrj3 (dr_y (vs_t (by assumption)) (by assumption) (by assumption) (by assumption) (by assumption) rfl rfl rfl (dr_v (by assumption) (by assumption) rfl (by first | exact sl_50 (dr_l2 (by assumption) (by assumption)) | exact sl_0 (dr_m2 (by assumption) (by assumption)))) (dr_w (by assumption) rfl)) | exact dr_s3 hrj3 (dr_n (vs_f (by assumption))) | exact dr_s2 hrj3 (by omega) | exact dr_s1 hrj2 (by omega) | rfl
theorem lf_X12_draw_m_26 (h : Nat) (q : Nat → Nat) (im : Nat → Int32) (ms : Nat) (mk : Nat) (md : Nat) (mc : Int32) (mh : Int32) (m_across : Nat → Int32) (m_deep : Nat → Int32) (m_isGone : Nat → Int32) (m_hasMark : Nat → Int32) (m_markAcross : Nat → Int32) (m_markDeep : Nat → Int32) (n1 : Int32) (n2 : Int32) (n3 : Int32) (n4 : Int32) (hf_ms : im 2 = nI ms) (hf_mk : im 3 = nI mk) (hf_md : im 50 = nI md) (hf_mc : im 49 = mc) (hf_mh : im 5 = mh) (hms : ms ≤ 24) (hmk : mk ≤ 8) (hm3 : mk = 0 ∨ 3 ≤ ms) (hmd : md ≤ 4) (hc0 : (0 : Int32) ≤ mc) (c_2 : (0 : Int32) ≤ n1 ∧ n1 ≤ nI md - 1) (tn1 : Nat) (tn1a : tn1 < md) (tn1e : n1 = nI tn1) (c_6 : ((-2000) : Int32) ≤ n2 ∧ n2 ≤ 2000) (c_9 : ((-2000) : Int32) ≤ n3 ∧ n3 ≤ 2000) (c_12 : (0 : Int32) ≤ n4 ∧ n4 ≤ 1000) (tn4 : Nat) (tn4a : 0 ≤ tn4) (tn4b : tn4 ≤ 1000) (tn4e : n4 = nI tn4) (j1 : Nat) (m_hasMark_j1 : Nat → Int32) (m_markAcross_j1 : Nat → Int32) (m_markDeep_j1 : Nat → Int32) (im_54 : Nat → Int32) (mh_j1 : Int32) (k54 : Nat) (hj54 : j1 ≤ ms) (hk54 : ms < j1 + (k54 + 1)) (hm54_2 : im_54 2 = nI ms) (hm54_3 : im_54 3 = nI mk) (hm54_5 : im_54 5 = mh_j1) (hm54_49 : im_54 49 = mc) (hm54_50 : im_54 50 = nI md) (hrj1 : ((m_markAcross_j1, m_markDeep_j1, m_hasMark_j1, mh_j1) : D4T) = dr1 m_across m_deep m_isGone mc tn1 n2 n3 (nI tn4) mk (m_markAcross, m_markDeep, m_hasMark, mh) j1) (c_13 : ¬ nI ms ≤ nI j1) (n_19 : j1 < ms) (j2 : Nat) (m_hasMark_j2 : Nat → Int32) (m_markAcross_j2 : Nat → Int32) (m_markDeep_j2 : Nat → Int32) (im_66 : Nat → Int32) (mh_j2 : Int32) (k66 : Nat) (hj66 : j2 ≤ mk) (hk66 : mk < j2 + (k66 + 1)) (hsb : SB [5] im im_66) (hm66_2 : im_66 2 = nI ms) (hm66_3 : im_66 3 = nI mk) (hm66_5 : im_66 5 = mh_j2) (hm66_49 : im_66 49 = mc) (hm66_50 : im_66 50 = nI md) (hrj2 : ((m_markAcross_j2, m_markDeep_j2, m_hasMark_j2, mh_j2) : D4T) = dr2 m_across m_deep m_isGone mc tn1 n2 n3 (nI tn4) j1 (dr1 m_across m_deep m_isGone mc tn1 n2 n3 (nI tn4) mk (m_markAcross, m_markDeep, m_hasMark, mh) j1) j2) (c_21 : ¬ nI mk ≤ nI j2) : j2 < mk := by
  exact Nat.lt_of_not_le (fun q => c_21 ((nI_leI (a := mk) (b := j2) (by omega) (by omega)).mpr q))
theorem lf_X12_draw_m_29 (h : Nat) (q : Nat → Nat) (im : Nat → Int32) (ms : Nat) (mk : Nat) (md : Nat) (mc : Int32) (mh : Int32) (m_across : Nat → Int32) (m_deep : Nat → Int32) (m_isGone : Nat → Int32) (m_hasMark : Nat → Int32) (m_markAcross : Nat → Int32) (m_markDeep : Nat → Int32) (n1 : Int32) (n2 : Int32) (n3 : Int32) (n4 : Int32) (hf_ms : im 2 = nI ms) (hf_mk : im 3 = nI mk) (hf_md : im 50 = nI md) (hf_mc : im 49 = mc) (hf_mh : im 5 = mh) (hms : ms ≤ 24) (hmk : mk ≤ 8) (hm3 : mk = 0 ∨ 3 ≤ ms) (hmd : md ≤ 4) (hc0 : (0 : Int32) ≤ mc) (c_2 : (0 : Int32) ≤ n1 ∧ n1 ≤ nI md - 1) (tn1 : Nat) (tn1a : tn1 < md) (tn1e : n1 = nI tn1) (c_6 : ((-2000) : Int32) ≤ n2 ∧ n2 ≤ 2000) (c_9 : ((-2000) : Int32) ≤ n3 ∧ n3 ≤ 2000) (c_12 : (0 : Int32) ≤ n4 ∧ n4 ≤ 1000) (tn4 : Nat) (tn4a : 0 ≤ tn4) (tn4b : tn4 ≤ 1000) (tn4e : n4 = nI tn4) (j1 : Nat) (m_hasMark_j1 : Nat → Int32) (m_markAcross_j1 : Nat → Int32) (m_markDeep_j1 : Nat → Int32) (im_54 : Nat → Int32) (mh_j1 : Int32) (k54 : Nat) (hj54 : j1 ≤ ms) (hk54 : ms < j1 + (k54 + 1)) (hm54_2 : im_54 2 = nI ms) (hm54_3 : im_54 3 = nI mk) (hm54_5 : im_54 5 = mh_j1) (hm54_49 : im_54 49 = mc) (hm54_50 : im_54 50 = nI md) (hrj1 : ((m_markAcross_j1, m_markDeep_j1, m_hasMark_j1, mh_j1) : D4T) = dr1 m_across m_deep m_isGone mc tn1 n2 n3 (nI tn4) mk (m_markAcross, m_markDeep, m_hasMark, mh) j1) (c_13 : ¬ nI ms ≤ nI j1) (n_19 : j1 < ms) (j2 : Nat) (m_hasMark_j2 : Nat → Int32) (m_markAcross_j2 : Nat → Int32) (m_markDeep_j2 : Nat → Int32) (im_66 : Nat → Int32) (mh_j2 : Int32) (k66 : Nat) (hj66 : j2 ≤ mk) (hk66 : mk < j2 + (k66 + 1)) (hm66_2 : im_66 2 = nI ms) (hm66_3 : im_66 3 = nI mk) (hm66_5 : im_66 5 = mh_j2) (hm66_49 : im_66 49 = mc) (hm66_50 : im_66 50 = nI md) (hrj2 : ((m_markAcross_j2, m_markDeep_j2, m_hasMark_j2, mh_j2) : D4T) = dr2 m_across m_deep m_isGone mc tn1 n2 n3 (nI tn4) j1 (dr1 m_across m_deep m_isGone mc tn1 n2 n3 (nI tn4) mk (m_markAcross, m_markDeep, m_hasMark, mh) j1) j2) (c_21 : ¬ nI mk ≤ nI j2) (n_25 : j2 < mk) (j3 : Nat) (m_hasMark_j3 : Nat → Int32) (m_markAcross_j3 : Nat → Int32) (m_markDeep_j3 : Nat → Int32) (im_78 : Nat → Int32) (mh_j3 : Int32) (k78 : Nat) (hj78 : j3 ≤ 2) (hk78 : 2 < j3 + (k78 + 1)) (hsb : SB [5] im im_78) (hm78_2 : im_78 2 = nI ms) (hm78_3 : im_78 3 = nI mk) (hm78_5 : im_78 5 = mh_j3) (hm78_49 : im_78 49 = mc) (hm78_50 : im_78 50 = nI md) (hrj3 : ((m_markAcross_j3, m_markDeep_j3, m_hasMark_j3, mh_j3) : D4T) = dr3 m_across m_deep m_isGone mc tn1 n2 n3 (nI tn4) j1 j2 (dr2 m_across m_deep m_isGone mc tn1 n2 n3 (nI tn4) j1 (dr1 m_across m_deep m_isGone mc tn1 n2 n3 (nI tn4) mk (m_markAcross, m_markDeep, m_hasMark, mh) j1) j2) j3) (c_27 : 2 ≤ nI j3) : 2 ≤ j3 := by
  exact (nI_leI (a := 2) (b := j3) (by omega) (by omega)).mp c_27
theorem lf_X12_draw_m_30 (h : Nat) (q : Nat → Nat) (im : Nat → Int32) (ms : Nat) (mk : Nat) (md : Nat) (mc : Int32) (mh : Int32) (m_across : Nat → Int32) (m_deep : Nat → Int32) (m_isGone : Nat → Int32) (m_hasMark : Nat → Int32) (m_markAcross : Nat → Int32) (m_markDeep : Nat → Int32) (n1 : Int32) (n2 : Int32) (n3 : Int32) (n4 : Int32) (hf_ms : im 2 = nI ms) (hf_mk : im 3 = nI mk) (hf_md : im 50 = nI md) (hf_mc : im 49 = mc) (hf_mh : im 5 = mh) (hms : ms ≤ 24) (hmk : mk ≤ 8) (hm3 : mk = 0 ∨ 3 ≤ ms) (hmd : md ≤ 4) (hc0 : (0 : Int32) ≤ mc) (c_2 : (0 : Int32) ≤ n1 ∧ n1 ≤ nI md - 1) (tn1 : Nat) (tn1a : tn1 < md) (tn1e : n1 = nI tn1) (c_6 : ((-2000) : Int32) ≤ n2 ∧ n2 ≤ 2000) (c_9 : ((-2000) : Int32) ≤ n3 ∧ n3 ≤ 2000) (c_12 : (0 : Int32) ≤ n4 ∧ n4 ≤ 1000) (tn4 : Nat) (tn4a : 0 ≤ tn4) (tn4b : tn4 ≤ 1000) (tn4e : n4 = nI tn4) (j1 : Nat) (m_hasMark_j1 : Nat → Int32) (m_markAcross_j1 : Nat → Int32) (m_markDeep_j1 : Nat → Int32) (im_54 : Nat → Int32) (mh_j1 : Int32) (k54 : Nat) (hj54 : j1 ≤ ms) (hk54 : ms < j1 + (k54 + 1)) (hm54_2 : im_54 2 = nI ms) (hm54_3 : im_54 3 = nI mk) (hm54_5 : im_54 5 = mh_j1) (hm54_49 : im_54 49 = mc) (hm54_50 : im_54 50 = nI md) (hrj1 : ((m_markAcross_j1, m_markDeep_j1, m_hasMark_j1, mh_j1) : D4T) = dr1 m_across m_deep m_isGone mc tn1 n2 n3 (nI tn4) mk (m_markAcross, m_markDeep, m_hasMark, mh) j1) (c_13 : ¬ nI ms ≤ nI j1) (n_19 : j1 < ms) (j2 : Nat) (m_hasMark_j2 : Nat → Int32) (m_markAcross_j2 : Nat → Int32) (m_markDeep_j2 : Nat → Int32) (im_66 : Nat → Int32) (mh_j2 : Int32) (k66 : Nat) (hj66 : j2 ≤ mk) (hk66 : mk < j2 + (k66 + 1)) (hm66_2 : im_66 2 = nI ms) (hm66_3 : im_66 3 = nI mk) (hm66_5 : im_66 5 = mh_j2) (hm66_49 : im_66 49 = mc) (hm66_50 : im_66 50 = nI md) (hrj2 : ((m_markAcross_j2, m_markDeep_j2, m_hasMark_j2, mh_j2) : D4T) = dr2 m_across m_deep m_isGone mc tn1 n2 n3 (nI tn4) j1 (dr1 m_across m_deep m_isGone mc tn1 n2 n3 (nI tn4) mk (m_markAcross, m_markDeep, m_hasMark, mh) j1) j2) (c_21 : ¬ nI mk ≤ nI j2) (n_25 : j2 < mk) (j3 : Nat) (m_hasMark_j3 : Nat → Int32) (m_markAcross_j3 : Nat → Int32) (m_markDeep_j3 : Nat → Int32) (im_78 : Nat → Int32) (mh_j3 : Int32) (k78 : Nat) (hj78 : j3 ≤ 2) (hk78 : 2 < j3 + (k78 + 1)) (hsb : SB [5] im im_78) (hm78_2 : im_78 2 = nI ms) (hm78_3 : im_78 3 = nI mk) (hm78_5 : im_78 5 = mh_j3) (hm78_49 : im_78 49 = mc) (hm78_50 : im_78 50 = nI md) (hrj3 : ((m_markAcross_j3, m_markDeep_j3, m_hasMark_j3, mh_j3) : D4T) = dr3 m_across m_deep m_isGone mc tn1 n2 n3 (nI tn4) j1 j2 (dr2 m_across m_deep m_isGone mc tn1 n2 n3 (nI tn4) j1 (dr1 m_across m_deep m_isGone mc tn1 n2 n3 (nI tn4) mk (m_markAcross, m_markDeep, m_hasMark, mh) j1) j2) j3) (c_27 : 2 ≤ nI j3) (n_28 : 2 ≤ j3) : ((m_markAcross_j3, m_markDeep_j3, m_hasMark_j3, mh_j3) : D4T) = dr2 m_across m_deep m_isGone mc tn1 n2 n3 (nI tn4) j1 (dr1 m_across m_deep m_isGone mc tn1 n2 n3 (nI tn4) mk (m_markAcross, m_markDeep, m_hasMark, mh) j1) (j2 + 1) := by
  first | omega | assumption | exact dr_s3 hrj3 (dr_y (vs_t (by assumption)) (by assumption) (by assumption) (by assumption) (by assumption) rfl rfl rfl (dr_v (by assumption) (by assumption) rfl (by first | exact sl_50 (dr_l2 (by assumption) (by assumption)) | exact sl_0 (dr_m2 (by assumption) (by assumption)))) (dr_w (by assumption) rfl)) | exact dr_s3 hrj3 (dr_n (vs_f (by assumption))) | exact dr_s2 hrj3 (by omega) | exact dr_s1 hrj2 (by omega) | rfl
theorem lf_X12_draw_m_32 (h : Nat) (q : Nat → Nat) (im : Nat → Int32) (ms : Nat) (mk : Nat) (md : Nat) (mc : Int32) (mh : Int32) (m_across : Nat → Int32) (m_deep : Nat → Int32) (m_isGone : Nat → Int32) (m_hasMark : Nat → Int32) (m_markAcross : Nat → Int32) (m_markDeep : Nat → Int32) (n1 : Int32) (n2 : Int32) (n3 : Int32) (n4 : Int32) (hf_ms : im 2 = nI ms) (hf_mk : im 3 = nI mk) (hf_md : im 50 = nI md) (hf_mc : im 49 = mc) (hf_mh : im 5 = mh) (hms : ms ≤ 24) (hmk : mk ≤ 8) (hm3 : mk = 0 ∨ 3 ≤ ms) (hmd : md ≤ 4) (hc0 : (0 : Int32) ≤ mc) (c_2 : (0 : Int32) ≤ n1 ∧ n1 ≤ nI md - 1) (tn1 : Nat) (tn1a : tn1 < md) (tn1e : n1 = nI tn1) (c_6 : ((-2000) : Int32) ≤ n2 ∧ n2 ≤ 2000) (c_9 : ((-2000) : Int32) ≤ n3 ∧ n3 ≤ 2000) (c_12 : (0 : Int32) ≤ n4 ∧ n4 ≤ 1000) (tn4 : Nat) (tn4a : 0 ≤ tn4) (tn4b : tn4 ≤ 1000) (tn4e : n4 = nI tn4) (j1 : Nat) (m_hasMark_j1 : Nat → Int32) (m_markAcross_j1 : Nat → Int32) (m_markDeep_j1 : Nat → Int32) (im_54 : Nat → Int32) (mh_j1 : Int32) (k54 : Nat) (hj54 : j1 ≤ ms) (hk54 : ms < j1 + (k54 + 1)) (hm54_2 : im_54 2 = nI ms) (hm54_3 : im_54 3 = nI mk) (hm54_5 : im_54 5 = mh_j1) (hm54_49 : im_54 49 = mc) (hm54_50 : im_54 50 = nI md) (hrj1 : ((m_markAcross_j1, m_markDeep_j1, m_hasMark_j1, mh_j1) : D4T) = dr1 m_across m_deep m_isGone mc tn1 n2 n3 (nI tn4) mk (m_markAcross, m_markDeep, m_hasMark, mh) j1) (c_13 : ¬ nI ms ≤ nI j1) (n_19 : j1 < ms) (j2 : Nat) (m_hasMark_j2 : Nat → Int32) (m_markAcross_j2 : Nat → Int32) (m_markDeep_j2 : Nat → Int32) (im_66 : Nat → Int32) (mh_j2 : Int32) (k66 : Nat) (hj66 : j2 ≤ mk) (hk66 : mk < j2 + (k66 + 1)) (hm66_2 : im_66 2 = nI ms) (hm66_3 : im_66 3 = nI mk) (hm66_5 : im_66 5 = mh_j2) (hm66_49 : im_66 49 = mc) (hm66_50 : im_66 50 = nI md) (hrj2 : ((m_markAcross_j2, m_markDeep_j2, m_hasMark_j2, mh_j2) : D4T) = dr2 m_across m_deep m_isGone mc tn1 n2 n3 (nI tn4) j1 (dr1 m_across m_deep m_isGone mc tn1 n2 n3 (nI tn4) mk (m_markAcross, m_markDeep, m_hasMark, mh) j1) j2) (c_21 : ¬ nI mk ≤ nI j2) (n_25 : j2 < mk) (j3 : Nat) (m_hasMark_j3 : Nat → Int32) (m_markAcross_j3 : Nat → Int32) (m_markDeep_j3 : Nat → Int32) (im_78 : Nat → Int32) (mh_j3 : Int32) (k78 : Nat) (hj78 : j3 ≤ 2) (hk78 : 2 < j3 + (k78 + 1)) (hsb : SB [5] im im_78) (hm78_2 : im_78 2 = nI ms) (hm78_3 : im_78 3 = nI mk) (hm78_5 : im_78 5 = mh_j3) (hm78_49 : im_78 49 = mc) (hm78_50 : im_78 50 = nI md) (hrj3 : ((m_markAcross_j3, m_markDeep_j3, m_hasMark_j3, mh_j3) : D4T) = dr3 m_across m_deep m_isGone mc tn1 n2 n3 (nI tn4) j1 j2 (dr2 m_across m_deep m_isGone mc tn1 n2 n3 (nI tn4) j1 (dr1 m_across m_deep m_isGone mc tn1 n2 n3 (nI tn4) mk (m_markAcross, m_markDeep, m_hasMark, mh) j1) j2) j3) (c_27 : ¬ 2 ≤ nI j3) : j3 < 2 := by
  exact Nat.lt_of_not_le (fun q => c_27 ((nI_leI (a := 2) (b := j3) (by omega) (by omega)).mpr q))
theorem lf_X12_draw_m_33 (h : Nat) (q : Nat → Nat) (im : Nat → Int32) (ms : Nat) (mk : Nat) (md : Nat) (mc : Int32) (mh : Int32) (m_across : Nat → Int32) (m_deep : Nat → Int32) (m_isGone : Nat → Int32) (m_hasMark : Nat → Int32) (m_markAcross : Nat → Int32) (m_markDeep : Nat → Int32) (n1 : Int32) (n2 : Int32) (n3 : Int32) (n4 : Int32) (hf_ms : im 2 = nI ms) (hf_mk : im 3 = nI mk) (hf_md : im 50 = nI md) (hf_mc : im 49 = mc) (hf_mh : im 5 = mh) (hms : ms ≤ 24) (hmk : mk ≤ 8) (hm3 : mk = 0 ∨ 3 ≤ ms) (hmd : md ≤ 4) (hc0 : (0 : Int32) ≤ mc) (c_2 : (0 : Int32) ≤ n1 ∧ n1 ≤ nI md - 1) (tn1 : Nat) (tn1a : tn1 < md) (tn1e : n1 = nI tn1) (c_6 : ((-2000) : Int32) ≤ n2 ∧ n2 ≤ 2000) (c_9 : ((-2000) : Int32) ≤ n3 ∧ n3 ≤ 2000) (c_12 : (0 : Int32) ≤ n4 ∧ n4 ≤ 1000) (tn4 : Nat) (tn4a : 0 ≤ tn4) (tn4b : tn4 ≤ 1000) (tn4e : n4 = nI tn4) (j1 : Nat) (m_hasMark_j1 : Nat → Int32) (m_markAcross_j1 : Nat → Int32) (m_markDeep_j1 : Nat → Int32) (im_54 : Nat → Int32) (mh_j1 : Int32) (k54 : Nat) (hj54 : j1 ≤ ms) (hk54 : ms < j1 + (k54 + 1)) (hm54_2 : im_54 2 = nI ms) (hm54_3 : im_54 3 = nI mk) (hm54_5 : im_54 5 = mh_j1) (hm54_49 : im_54 49 = mc) (hm54_50 : im_54 50 = nI md) (hrj1 : ((m_markAcross_j1, m_markDeep_j1, m_hasMark_j1, mh_j1) : D4T) = dr1 m_across m_deep m_isGone mc tn1 n2 n3 (nI tn4) mk (m_markAcross, m_markDeep, m_hasMark, mh) j1) (c_13 : ¬ nI ms ≤ nI j1) (n_19 : j1 < ms) (j2 : Nat) (m_hasMark_j2 : Nat → Int32) (m_markAcross_j2 : Nat → Int32) (m_markDeep_j2 : Nat → Int32) (im_66 : Nat → Int32) (mh_j2 : Int32) (k66 : Nat) (hj66 : j2 ≤ mk) (hk66 : mk < j2 + (k66 + 1)) (hm66_2 : im_66 2 = nI ms) (hm66_3 : im_66 3 = nI mk) (hm66_5 : im_66 5 = mh_j2) (hm66_49 : im_66 49 = mc) (hm66_50 : im_66 50 = nI md) (hrj2 : ((m_markAcross_j2, m_markDeep_j2, m_hasMark_j2, mh_j2) : D4T) = dr2 m_across m_deep m_isGone mc tn1 n2 n3 (nI tn4) j1 (dr1 m_across m_deep m_isGone mc tn1 n2 n3 (nI tn4) mk (m_markAcross, m_markDeep, m_hasMark, mh) j1) j2) (c_21 : ¬ nI mk ≤ nI j2) (n_25 : j2 < mk) (j3 : Nat) (m_hasMark_j3 : Nat → Int32) (m_markAcross_j3 : Nat → Int32) (m_markDeep_j3 : Nat → Int32) (im_78 : Nat → Int32) (mh_j3 : Int32) (k78 : Nat) (hj78 : j3 ≤ 2) (hk78 : 2 < j3 + (k78 + 1)) (hsb : SB [5] im im_78) (hm78_2 : im_78 2 = nI ms) (hm78_3 : im_78 3 = nI mk) (hm78_5 : im_78 5 = mh_j3) (hm78_49 : im_78 49 = mc) (hm78_50 : im_78 50 = nI md) (hrj3 : ((m_markAcross_j3, m_markDeep_j3, m_hasMark_j3, mh_j3) : D4T) = dr3 m_across m_deep m_isGone mc tn1 n2 n3 (nI tn4) j1 j2 (dr2 m_across m_deep m_isGone mc tn1 n2 n3 (nI tn4) j1 (dr1 m_across m_deep m_isGone mc tn1 n2 n3 (nI tn4) mk (m_markAcross, m_markDeep, m_hasMark, mh) j1) j2) j3) (c_27 : ¬ 2 ≤ nI j3) (n_31 : j3 < 2) : j1 < 24 := by
  first | assumption | omega | decide | rfl
theorem lf_X12_draw_m_34 (h : Nat) (q : Nat → Nat) (im : Nat → Int32) (ms : Nat) (mk : Nat) (md : Nat) (mc : Int32) (mh : Int32) (m_across : Nat → Int32) (m_deep : Nat → Int32) (m_isGone : Nat → Int32) (m_hasMark : Nat → Int32) (m_markAcross : Nat → Int32) (m_markDeep : Nat → Int32) (n1 : Int32) (n2 : Int32) (n3 : Int32) (n4 : Int32) (hf_ms : im 2 = nI ms) (hf_mk : im 3 = nI mk) (hf_md : im 50 = nI md) (hf_mc : im 49 = mc) (hf_mh : im 5 = mh) (hms : ms ≤ 24) (hmk : mk ≤ 8) (hm3 : mk = 0 ∨ 3 ≤ ms) (hmd : md ≤ 4) (hc0 : (0 : Int32) ≤ mc) (c_2 : (0 : Int32) ≤ n1 ∧ n1 ≤ nI md - 1) (tn1 : Nat) (tn1a : tn1 < md) (tn1e : n1 = nI tn1) (c_6 : ((-2000) : Int32) ≤ n2 ∧ n2 ≤ 2000) (c_9 : ((-2000) : Int32) ≤ n3 ∧ n3 ≤ 2000) (c_12 : (0 : Int32) ≤ n4 ∧ n4 ≤ 1000) (tn4 : Nat) (tn4a : 0 ≤ tn4) (tn4b : tn4 ≤ 1000) (tn4e : n4 = nI tn4) (j1 : Nat) (m_hasMark_j1 : Nat → Int32) (m_markAcross_j1 : Nat → Int32) (m_markDeep_j1 : Nat → Int32) (im_54 : Nat → Int32) (mh_j1 : Int32) (k54 : Nat) (hj54 : j1 ≤ ms) (hk54 : ms < j1 + (k54 + 1)) (hm54_2 : im_54 2 = nI ms) (hm54_3 : im_54 3 = nI mk) (hm54_5 : im_54 5 = mh_j1) (hm54_49 : im_54 49 = mc) (hm54_50 : im_54 50 = nI md) (hrj1 : ((m_markAcross_j1, m_markDeep_j1, m_hasMark_j1, mh_j1) : D4T) = dr1 m_across m_deep m_isGone mc tn1 n2 n3 (nI tn4) mk (m_markAcross, m_markDeep, m_hasMark, mh) j1) (c_13 : ¬ nI ms ≤ nI j1) (n_19 : j1 < ms) (j2 : Nat) (m_hasMark_j2 : Nat → Int32) (m_markAcross_j2 : Nat → Int32) (m_markDeep_j2 : Nat → Int32) (im_66 : Nat → Int32) (mh_j2 : Int32) (k66 : Nat) (hj66 : j2 ≤ mk) (hk66 : mk < j2 + (k66 + 1)) (hm66_2 : im_66 2 = nI ms) (hm66_3 : im_66 3 = nI mk) (hm66_5 : im_66 5 = mh_j2) (hm66_49 : im_66 49 = mc) (hm66_50 : im_66 50 = nI md) (hrj2 : ((m_markAcross_j2, m_markDeep_j2, m_hasMark_j2, mh_j2) : D4T) = dr2 m_across m_deep m_isGone mc tn1 n2 n3 (nI tn4) j1 (dr1 m_across m_deep m_isGone mc tn1 n2 n3 (nI tn4) mk (m_markAcross, m_markDeep, m_hasMark, mh) j1) j2) (c_21 : ¬ nI mk ≤ nI j2) (n_25 : j2 < mk) (j3 : Nat) (m_hasMark_j3 : Nat → Int32) (m_markAcross_j3 : Nat → Int32) (m_markDeep_j3 : Nat → Int32) (im_78 : Nat → Int32) (mh_j3 : Int32) (k78 : Nat) (hj78 : j3 ≤ 2) (hk78 : 2 < j3 + (k78 + 1)) (hsb : SB [5] im im_78) (hm78_2 : im_78 2 = nI ms) (hm78_3 : im_78 3 = nI mk) (hm78_5 : im_78 5 = mh_j3) (hm78_49 : im_78 49 = mc) (hm78_50 : im_78 50 = nI md) (hrj3 : ((m_markAcross_j3, m_markDeep_j3, m_hasMark_j3, mh_j3) : D4T) = dr3 m_across m_deep m_isGone mc tn1 n2 n3 (nI tn4) j1 j2 (dr2 m_across m_deep m_isGone mc tn1 n2 n3 (nI tn4) j1 (dr1 m_across m_deep m_isGone mc tn1 n2 n3 (nI tn4) mk (m_markAcross, m_markDeep, m_hasMark, mh) j1) j2) j3) (c_27 : ¬ 2 ≤ nI j3) (n_31 : j3 < 2) : j2 < 8 := by
  first | assumption | omega | decide | rfl
theorem lf_X12_draw_m_35 (h : Nat) (q : Nat → Nat) (im : Nat → Int32) (ms : Nat) (mk : Nat) (md : Nat) (mc : Int32) (mh : Int32) (m_across : Nat → Int32) (m_deep : Nat → Int32) (m_isGone : Nat → Int32) (m_hasMark : Nat → Int32) (m_markAcross : Nat → Int32) (m_markDeep : Nat → Int32) (n1 : Int32) (n2 : Int32) (n3 : Int32) (n4 : Int32) (hf_ms : im 2 = nI ms) (hf_mk : im 3 = nI mk) (hf_md : im 50 = nI md) (hf_mc : im 49 = mc) (hf_mh : im 5 = mh) (hms : ms ≤ 24) (hmk : mk ≤ 8) (hm3 : mk = 0 ∨ 3 ≤ ms) (hmd : md ≤ 4) (hc0 : (0 : Int32) ≤ mc) (c_2 : (0 : Int32) ≤ n1 ∧ n1 ≤ nI md - 1) (tn1 : Nat) (tn1a : tn1 < md) (tn1e : n1 = nI tn1) (c_6 : ((-2000) : Int32) ≤ n2 ∧ n2 ≤ 2000) (c_9 : ((-2000) : Int32) ≤ n3 ∧ n3 ≤ 2000) (c_12 : (0 : Int32) ≤ n4 ∧ n4 ≤ 1000) (tn4 : Nat) (tn4a : 0 ≤ tn4) (tn4b : tn4 ≤ 1000) (tn4e : n4 = nI tn4) (j1 : Nat) (m_hasMark_j1 : Nat → Int32) (m_markAcross_j1 : Nat → Int32) (m_markDeep_j1 : Nat → Int32) (im_54 : Nat → Int32) (mh_j1 : Int32) (k54 : Nat) (hj54 : j1 ≤ ms) (hk54 : ms < j1 + (k54 + 1)) (hm54_2 : im_54 2 = nI ms) (hm54_3 : im_54 3 = nI mk) (hm54_5 : im_54 5 = mh_j1) (hm54_49 : im_54 49 = mc) (hm54_50 : im_54 50 = nI md) (hrj1 : ((m_markAcross_j1, m_markDeep_j1, m_hasMark_j1, mh_j1) : D4T) = dr1 m_across m_deep m_isGone mc tn1 n2 n3 (nI tn4) mk (m_markAcross, m_markDeep, m_hasMark, mh) j1) (c_13 : ¬ nI ms ≤ nI j1) (n_19 : j1 < ms) (j2 : Nat) (m_hasMark_j2 : Nat → Int32) (m_markAcross_j2 : Nat → Int32) (m_markDeep_j2 : Nat → Int32) (im_66 : Nat → Int32) (mh_j2 : Int32) (k66 : Nat) (hj66 : j2 ≤ mk) (hk66 : mk < j2 + (k66 + 1)) (hm66_2 : im_66 2 = nI ms) (hm66_3 : im_66 3 = nI mk) (hm66_5 : im_66 5 = mh_j2) (hm66_49 : im_66 49 = mc) (hm66_50 : im_66 50 = nI md) (hrj2 : ((m_markAcross_j2, m_markDeep_j2, m_hasMark_j2, mh_j2) : D4T) = dr2 m_across m_deep m_isGone mc tn1 n2 n3 (nI tn4) j1 (dr1 m_across m_deep m_isGone mc tn1 n2 n3 (nI tn4) mk (m_markAcross, m_markDeep, m_hasMark, mh) j1) j2) (c_21 : ¬ nI mk ≤ nI j2) (n_25 : j2 < mk) (j3 : Nat) (m_hasMark_j3 : Nat → Int32) (m_markAcross_j3 : Nat → Int32) (m_markDeep_j3 : Nat → Int32) (im_78 : Nat → Int32) (mh_j3 : Int32) (k78 : Nat) (hj78 : j3 ≤ 2) (hk78 : 2 < j3 + (k78 + 1)) (hsb : SB [5] im im_78) (hm78_2 : im_78 2 = nI ms) (hm78_3 : im_78 3 = nI mk) (hm78_5 : im_78 5 = mh_j3) (hm78_49 : im_78 49 = mc) (hm78_50 : im_78 50 = nI md) (hrj3 : ((m_markAcross_j3, m_markDeep_j3, m_hasMark_j3, mh_j3) : D4T) = dr3 m_across m_deep m_isGone mc tn1 n2 n3 (nI tn4) j1 j2 (dr2 m_across m_deep m_isGone mc tn1 n2 n3 (nI tn4) j1 (dr1 m_across m_deep m_isGone mc tn1 n2 n3 (nI tn4) mk (m_markAcross, m_markDeep, m_hasMark, mh) j1) j2) j3) (c_27 : ¬ 2 ≤ nI j3) (n_31 : j3 < 2) : j3 < 2 := by
  first | assumption | omega | decide | rfl
theorem lf_X12_draw_m_36 (h : Nat) (q : Nat → Nat) (im : Nat → Int32) (ms : Nat) (mk : Nat) (md : Nat) (mc : Int32) (mh : Int32) (m_across : Nat → Int32) (m_deep : Nat → Int32) (m_isGone : Nat → Int32) (m_hasMark : Nat → Int32) (m_markAcross : Nat → Int32) (m_markDeep : Nat → Int32) (n1 : Int32) (n2 : Int32) (n3 : Int32) (n4 : Int32) (hf_ms : im 2 = nI ms) (hf_mk : im 3 = nI mk) (hf_md : im 50 = nI md) (hf_mc : im 49 = mc) (hf_mh : im 5 = mh) (hms : ms ≤ 24) (hmk : mk ≤ 8) (hm3 : mk = 0 ∨ 3 ≤ ms) (hmd : md ≤ 4) (hc0 : (0 : Int32) ≤ mc) (c_2 : (0 : Int32) ≤ n1 ∧ n1 ≤ nI md - 1) (tn1 : Nat) (tn1a : tn1 < md) (tn1e : n1 = nI tn1) (c_6 : ((-2000) : Int32) ≤ n2 ∧ n2 ≤ 2000) (c_9 : ((-2000) : Int32) ≤ n3 ∧ n3 ≤ 2000) (c_12 : (0 : Int32) ≤ n4 ∧ n4 ≤ 1000) (tn4 : Nat) (tn4a : 0 ≤ tn4) (tn4b : tn4 ≤ 1000) (tn4e : n4 = nI tn4) (j1 : Nat) (m_hasMark_j1 : Nat → Int32) (m_markAcross_j1 : Nat → Int32) (m_markDeep_j1 : Nat → Int32) (im_54 : Nat → Int32) (mh_j1 : Int32) (k54 : Nat) (hj54 : j1 ≤ ms) (hk54 : ms < j1 + (k54 + 1)) (hm54_2 : im_54 2 = nI ms) (hm54_3 : im_54 3 = nI mk) (hm54_5 : im_54 5 = mh_j1) (hm54_49 : im_54 49 = mc) (hm54_50 : im_54 50 = nI md) (hrj1 : ((m_markAcross_j1, m_markDeep_j1, m_hasMark_j1, mh_j1) : D4T) = dr1 m_across m_deep m_isGone mc tn1 n2 n3 (nI tn4) mk (m_markAcross, m_markDeep, m_hasMark, mh) j1) (c_13 : ¬ nI ms ≤ nI j1) (n_19 : j1 < ms) (j2 : Nat) (m_hasMark_j2 : Nat → Int32) (m_markAcross_j2 : Nat → Int32) (m_markDeep_j2 : Nat → Int32) (im_66 : Nat → Int32) (mh_j2 : Int32) (k66 : Nat) (hj66 : j2 ≤ mk) (hk66 : mk < j2 + (k66 + 1)) (hm66_2 : im_66 2 = nI ms) (hm66_3 : im_66 3 = nI mk) (hm66_5 : im_66 5 = mh_j2) (hm66_49 : im_66 49 = mc) (hm66_50 : im_66 50 = nI md) (hrj2 : ((m_markAcross_j2, m_markDeep_j2, m_hasMark_j2, mh_j2) : D4T) = dr2 m_across m_deep m_isGone mc tn1 n2 n3 (nI tn4) j1 (dr1 m_across m_deep m_isGone mc tn1 n2 n3 (nI tn4) mk (m_markAcross, m_markDeep, m_hasMark, mh) j1) j2) (c_21 : ¬ nI mk ≤ nI j2) (n_25 : j2 < mk) (j3 : Nat) (m_hasMark_j3 : Nat → Int32) (m_markAcross_j3 : Nat → Int32) (m_markDeep_j3 : Nat → Int32) (im_78 : Nat → Int32) (mh_j3 : Int32) (k78 : Nat) (hj78 : j3 ≤ 2) (hk78 : 2 < j3 + (k78 + 1)) (hsb : SB [5] im im_78) (hm78_2 : im_78 2 = nI ms) (hm78_3 : im_78 3 = nI mk) (hm78_5 : im_78 5 = mh_j3) (hm78_49 : im_78 49 = mc) (hm78_50 : im_78 50 = nI md) (hrj3 : ((m_markAcross_j3, m_markDeep_j3, m_hasMark_j3, mh_j3) : D4T) = dr3 m_across m_deep m_isGone mc tn1 n2 n3 (nI tn4) j1 j2 (dr2 m_across m_deep m_isGone mc tn1 n2 n3 (nI tn4) j1 (dr1 m_across m_deep m_isGone mc tn1 n2 n3 (nI tn4) mk (m_markAcross, m_markDeep, m_hasMark, mh) j1) j2) j3) (c_27 : ¬ 2 ≤ nI j3) (n_31 : j3 < 2) : (0 : Int32) ≤ mc := by
  first | assumption | omega | decide | rfl
theorem lf_X12_draw_m_42 (h : Nat) (q : Nat → Nat) (im : Nat → Int32) (ms : Nat) (mk : Nat) (md : Nat) (mc : Int32) (mh : Int32) (m_across : Nat → Int32) (m_deep : Nat → Int32) (m_isGone : Nat → Int32) (m_hasMark : Nat → Int32) (m_markAcross : Nat → Int32) (m_markDeep : Nat → Int32) (n1 : Int32) (n2 : Int32) (n3 : Int32) (n4 : Int32) (hf_ms : im 2 = nI ms) (hf_mk : im 3 = nI mk) (hf_md : im 50 = nI md) (hf_mc : im 49 = mc) (hf_mh : im 5 = mh) (hms : ms ≤ 24) (hmk : mk ≤ 8) (hm3 : mk = 0 ∨ 3 ≤ ms) (hmd : md ≤ 4) (hc0 : (0 : Int32) ≤ mc) (c_2 : (0 : Int32) ≤ n1 ∧ n1 ≤ nI md - 1) (tn1 : Nat) (tn1a : tn1 < md) (tn1e : n1 = nI tn1) (c_6 : ((-2000) : Int32) ≤ n2 ∧ n2 ≤ 2000) (c_9 : ((-2000) : Int32) ≤ n3 ∧ n3 ≤ 2000) (c_12 : (0 : Int32) ≤ n4 ∧ n4 ≤ 1000) (tn4 : Nat) (tn4a : 0 ≤ tn4) (tn4b : tn4 ≤ 1000) (tn4e : n4 = nI tn4) (j1 : Nat) (m_hasMark_j1 : Nat → Int32) (m_markAcross_j1 : Nat → Int32) (m_markDeep_j1 : Nat → Int32) (im_54 : Nat → Int32) (mh_j1 : Int32) (k54 : Nat) (hj54 : j1 ≤ ms) (hk54 : ms < j1 + (k54 + 1)) (hm54_2 : im_54 2 = nI ms) (hm54_3 : im_54 3 = nI mk) (hm54_5 : im_54 5 = mh_j1) (hm54_49 : im_54 49 = mc) (hm54_50 : im_54 50 = nI md) (hrj1 : ((m_markAcross_j1, m_markDeep_j1, m_hasMark_j1, mh_j1) : D4T) = dr1 m_across m_deep m_isGone mc tn1 n2 n3 (nI tn4) mk (m_markAcross, m_markDeep, m_hasMark, mh) j1) (c_13 : ¬ nI ms ≤ nI j1) (n_19 : j1 < ms) (j2 : Nat) (m_hasMark_j2 : Nat → Int32) (m_markAcross_j2 : Nat → Int32) (m_markDeep_j2 : Nat → Int32) (im_66 : Nat → Int32) (mh_j2 : Int32) (k66 : Nat) (hj66 : j2 ≤ mk) (hk66 : mk < j2 + (k66 + 1)) (hm66_2 : im_66 2 = nI ms) (hm66_3 : im_66 3 = nI mk) (hm66_5 : im_66 5 = mh_j2) (hm66_49 : im_66 49 = mc) (hm66_50 : im_66 50 = nI md) (hrj2 : ((m_markAcross_j2, m_markDeep_j2, m_hasMark_j2, mh_j2) : D4T) = dr2 m_across m_deep m_isGone mc tn1 n2 n3 (nI tn4) j1 (dr1 m_across m_deep m_isGone mc tn1 n2 n3 (nI tn4) mk (m_markAcross, m_markDeep, m_hasMark, mh) j1) j2) (c_21 : ¬ nI mk ≤ nI j2) (n_25 : j2 < mk) (j3 : Nat) (m_hasMark_j3 : Nat → Int32) (m_markAcross_j3 : Nat → Int32) (m_markDeep_j3 : Nat → Int32) (im_78 : Nat → Int32) (mh_j3 : Int32) (k78 : Nat) (hj78 : j3 ≤ 2) (hk78 : 2 < j3 + (k78 + 1)) (hm78_2 : im_78 2 = nI ms) (hm78_3 : im_78 3 = nI mk) (hm78_5 : im_78 5 = mh_j3) (hm78_49 : im_78 49 = mc) (hm78_50 : im_78 50 = nI md) (hrj3 : ((m_markAcross_j3, m_markDeep_j3, m_hasMark_j3, mh_j3) : D4T) = dr3 m_across m_deep m_isGone mc tn1 n2 n3 (nI tn4) j1 j2 (dr2 m_across m_deep m_isGone mc tn1 n2 n3 (nI tn4) j1 (dr1 m_across m_deep m_isGone mc tn1 n2 n3 (nI tn4) mk (m_markAcross, m_markDeep, m_hasMark, mh) j1) j2) j3) (c_27 : ¬ 2 ≤ nI j3) (n_31 : j3 < 2) (c_38 : ¬ vsB m_isGone mc j2 j1 j3 = 0) (im_40 : Nat → Int32) (mh_40 : Int32) (hz_40_0 : SB [5] im_78 im_40) (hz_40_1 : im_40 5 = mh_40) (hz_40_2 : mh_40 = dwM mh_j3) (hsb : SB [5] im im_40) : (16 * j1 + 2 * j2 + j3) < 384 := by
  omega
theorem lf_X12_draw_m_47 (h : Nat) (q : Nat → Nat) (im : Nat → Int32) (ms : Nat) (mk : Nat) (md : Nat) (mc : Int32) (mh : Int32) (m_across : Nat → Int32) (m_deep : Nat → Int32) (m_isGone : Nat → Int32) (m_hasMark : Nat → Int32) (m_markAcross : Nat → Int32) (m_markDeep : Nat → Int32) (n1 : Int32) (n2 : Int32) (n3 : Int32) (n4 : Int32) (hf_ms : im 2 = nI ms) (hf_mk : im 3 = nI mk) (hf_md : im 50 = nI md) (hf_mc : im 49 = mc) (hf_mh : im 5 = mh) (hms : ms ≤ 24) (hmk : mk ≤ 8) (hm3 : mk = 0 ∨ 3 ≤ ms) (hmd : md ≤ 4) (hc0 : (0 : Int32) ≤ mc) (c_2 : (0 : Int32) ≤ n1 ∧ n1 ≤ nI md - 1) (tn1 : Nat) (tn1a : tn1 < md) (tn1e : n1 = nI tn1) (c_6 : ((-2000) : Int32) ≤ n2 ∧ n2 ≤ 2000) (c_9 : ((-2000) : Int32) ≤ n3 ∧ n3 ≤ 2000) (c_12 : (0 : Int32) ≤ n4 ∧ n4 ≤ 1000) (tn4 : Nat) (tn4a : 0 ≤ tn4) (tn4b : tn4 ≤ 1000) (tn4e : n4 = nI tn4) (j1 : Nat) (m_hasMark_j1 : Nat → Int32) (m_markAcross_j1 : Nat → Int32) (m_markDeep_j1 : Nat → Int32) (im_54 : Nat → Int32) (mh_j1 : Int32) (k54 : Nat) (hj54 : j1 ≤ ms) (hk54 : ms < j1 + (k54 + 1)) (hm54_2 : im_54 2 = nI ms) (hm54_3 : im_54 3 = nI mk) (hm54_5 : im_54 5 = mh_j1) (hm54_49 : im_54 49 = mc) (hm54_50 : im_54 50 = nI md) (hrj1 : ((m_markAcross_j1, m_markDeep_j1, m_hasMark_j1, mh_j1) : D4T) = dr1 m_across m_deep m_isGone mc tn1 n2 n3 (nI tn4) mk (m_markAcross, m_markDeep, m_hasMark, mh) j1) (c_13 : ¬ nI ms ≤ nI j1) (n_19 : j1 < ms) (j2 : Nat) (m_hasMark_j2 : Nat → Int32) (m_markAcross_j2 : Nat → Int32) (m_markDeep_j2 : Nat → Int32) (im_66 : Nat → Int32) (mh_j2 : Int32) (k66 : Nat) (hj66 : j2 ≤ mk) (hk66 : mk < j2 + (k66 + 1)) (hm66_2 : im_66 2 = nI ms) (hm66_3 : im_66 3 = nI mk) (hm66_5 : im_66 5 = mh_j2) (hm66_49 : im_66 49 = mc) (hm66_50 : im_66 50 = nI md) (hrj2 : ((m_markAcross_j2, m_markDeep_j2, m_hasMark_j2, mh_j2) : D4T) = dr2 m_across m_deep m_isGone mc tn1 n2 n3 (nI tn4) j1 (dr1 m_across m_deep m_isGone mc tn1 n2 n3 (nI tn4) mk (m_markAcross, m_markDeep, m_hasMark, mh) j1) j2) (c_21 : ¬ nI mk ≤ nI j2) (n_25 : j2 < mk) (j3 : Nat) (m_hasMark_j3 : Nat → Int32) (m_markAcross_j3 : Nat → Int32) (m_markDeep_j3 : Nat → Int32) (im_78 : Nat → Int32) (mh_j3 : Int32) (k78 : Nat) (hj78 : j3 ≤ 2) (hk78 : 2 < j3 + (k78 + 1)) (hm78_2 : im_78 2 = nI ms) (hm78_3 : im_78 3 = nI mk) (hm78_5 : im_78 5 = mh_j3) (hm78_49 : im_78 49 = mc) (hm78_50 : im_78 50 = nI md) (hrj3 : ((m_markAcross_j3, m_markDeep_j3, m_hasMark_j3, mh_j3) : D4T) = dr3 m_across m_deep m_isGone mc tn1 n2 n3 (nI tn4) j1 j2 (dr2 m_across m_deep m_isGone mc tn1 n2 n3 (nI tn4) j1 (dr1 m_across m_deep m_isGone mc tn1 n2 n3 (nI tn4) mk (m_markAcross, m_markDeep, m_hasMark, mh) j1) j2) j3) (c_27 : ¬ 2 ≤ nI j3) (n_31 : j3 < 2) (c_38 : ¬ vsB m_isGone mc j2 j1 j3 = 0) (im_40 : Nat → Int32) (mh_40 : Int32) (hz_40_0 : SB [5] im_78 im_40) (hz_40_1 : im_40 5 = mh_40) (hz_40_2 : mh_40 = dwM mh_j3) (hsb : SB [5] im im_40) (x_43 : Int32) (ex_43 : x_43 = m_across (16 * j1 + 2 * j2 + j3) + n2) (x_44 : Int32) (ex_44 : x_44 = mh_40 - mh_40 / (1000 : Int32) * (1000 : Int32)) (c_45 : nI tn4 ≤ x_44) (x_46 : Int32) (ex_46 : x_46 = x_43 + 0) : (16 * j1 + 2 * j2 + j3) < 384 := by
  omega
theorem lf_X12_draw_m_49 (h : Nat) (q : Nat → Nat) (im : Nat → Int32) (ms : Nat) (mk : Nat) (md : Nat) (mc : Int32) (mh : Int32) (m_across : Nat → Int32) (m_deep : Nat → Int32) (m_isGone : Nat → Int32) (m_hasMark : Nat → Int32) (m_markAcross : Nat → Int32) (m_markDeep : Nat → Int32) (n1 : Int32) (n2 : Int32) (n3 : Int32) (n4 : Int32) (hf_ms : im 2 = nI ms) (hf_mk : im 3 = nI mk) (hf_md : im 50 = nI md) (hf_mc : im 49 = mc) (hf_mh : im 5 = mh) (hms : ms ≤ 24) (hmk : mk ≤ 8) (hm3 : mk = 0 ∨ 3 ≤ ms) (hmd : md ≤ 4) (hc0 : (0 : Int32) ≤ mc) (c_2 : (0 : Int32) ≤ n1 ∧ n1 ≤ nI md - 1) (tn1 : Nat) (tn1a : tn1 < md) (tn1e : n1 = nI tn1) (c_6 : ((-2000) : Int32) ≤ n2 ∧ n2 ≤ 2000) (c_9 : ((-2000) : Int32) ≤ n3 ∧ n3 ≤ 2000) (c_12 : (0 : Int32) ≤ n4 ∧ n4 ≤ 1000) (tn4 : Nat) (tn4a : 0 ≤ tn4) (tn4b : tn4 ≤ 1000) (tn4e : n4 = nI tn4) (j1 : Nat) (m_hasMark_j1 : Nat → Int32) (m_markAcross_j1 : Nat → Int32) (m_markDeep_j1 : Nat → Int32) (im_54 : Nat → Int32) (mh_j1 : Int32) (k54 : Nat) (hj54 : j1 ≤ ms) (hk54 : ms < j1 + (k54 + 1)) (hm54_2 : im_54 2 = nI ms) (hm54_3 : im_54 3 = nI mk) (hm54_5 : im_54 5 = mh_j1) (hm54_49 : im_54 49 = mc) (hm54_50 : im_54 50 = nI md) (hrj1 : ((m_markAcross_j1, m_markDeep_j1, m_hasMark_j1, mh_j1) : D4T) = dr1 m_across m_deep m_isGone mc tn1 n2 n3 (nI tn4) mk (m_markAcross, m_markDeep, m_hasMark, mh) j1) (c_13 : ¬ nI ms ≤ nI j1) (n_19 : j1 < ms) (j2 : Nat) (m_hasMark_j2 : Nat → Int32) (m_markAcross_j2 : Nat → Int32) (m_markDeep_j2 : Nat → Int32) (im_66 : Nat → Int32) (mh_j2 : Int32) (k66 : Nat) (hj66 : j2 ≤ mk) (hk66 : mk < j2 + (k66 + 1)) (hm66_2 : im_66 2 = nI ms) (hm66_3 : im_66 3 = nI mk) (hm66_5 : im_66 5 = mh_j2) (hm66_49 : im_66 49 = mc) (hm66_50 : im_66 50 = nI md) (hrj2 : ((m_markAcross_j2, m_markDeep_j2, m_hasMark_j2, mh_j2) : D4T) = dr2 m_across m_deep m_isGone mc tn1 n2 n3 (nI tn4) j1 (dr1 m_across m_deep m_isGone mc tn1 n2 n3 (nI tn4) mk (m_markAcross, m_markDeep, m_hasMark, mh) j1) j2) (c_21 : ¬ nI mk ≤ nI j2) (n_25 : j2 < mk) (j3 : Nat) (m_hasMark_j3 : Nat → Int32) (m_markAcross_j3 : Nat → Int32) (m_markDeep_j3 : Nat → Int32) (im_78 : Nat → Int32) (mh_j3 : Int32) (k78 : Nat) (hj78 : j3 ≤ 2) (hk78 : 2 < j3 + (k78 + 1)) (hm78_2 : im_78 2 = nI ms) (hm78_3 : im_78 3 = nI mk) (hm78_5 : im_78 5 = mh_j3) (hm78_49 : im_78 49 = mc) (hm78_50 : im_78 50 = nI md) (hrj3 : ((m_markAcross_j3, m_markDeep_j3, m_hasMark_j3, mh_j3) : D4T) = dr3 m_across m_deep m_isGone mc tn1 n2 n3 (nI tn4) j1 j2 (dr2 m_across m_deep m_isGone mc tn1 n2 n3 (nI tn4) j1 (dr1 m_across m_deep m_isGone mc tn1 n2 n3 (nI tn4) mk (m_markAcross, m_markDeep, m_hasMark, mh) j1) j2) j3) (c_27 : ¬ 2 ≤ nI j3) (n_31 : j3 < 2) (c_38 : ¬ vsB m_isGone mc j2 j1 j3 = 0) (im_40 : Nat → Int32) (mh_40 : Int32) (hz_40_0 : SB [5] im_78 im_40) (hz_40_1 : im_40 5 = mh_40) (hz_40_2 : mh_40 = dwM mh_j3) (hsb : SB [5] im im_40) (x_43 : Int32) (ex_43 : x_43 = m_across (16 * j1 + 2 * j2 + j3) + n2) (x_44 : Int32) (ex_44 : x_44 = mh_40 - mh_40 / (1000 : Int32) * (1000 : Int32)) (c_45 : nI tn4 ≤ x_44) (x_46 : Int32) (ex_46 : x_46 = x_43 + 0) (x_48 : Int32) (ex_48 : x_48 = m_deep (16 * j1 + 2 * j2 + j3) + n3) : tn1 < 4 := by
  first | assumption | omega | decide | rfl
theorem lf_X12_draw_m_50 (h : Nat) (q : Nat → Nat) (im : Nat → Int32) (ms : Nat) (mk : Nat) (md : Nat) (mc : Int32) (mh : Int32) (m_across : Nat → Int32) (m_deep : Nat → Int32) (m_isGone : Nat → Int32) (m_hasMark : Nat → Int32) (m_markAcross : Nat → Int32) (m_markDeep : Nat → Int32) (n1 : Int32) (n2 : Int32) (n3 : Int32) (n4 : Int32) (hf_ms : im 2 = nI ms) (hf_mk : im 3 = nI mk) (hf_md : im 50 = nI md) (hf_mc : im 49 = mc) (hf_mh : im 5 = mh) (hms : ms ≤ 24) (hmk : mk ≤ 8) (hm3 : mk = 0 ∨ 3 ≤ ms) (hmd : md ≤ 4) (hc0 : (0 : Int32) ≤ mc) (c_2 : (0 : Int32) ≤ n1 ∧ n1 ≤ nI md - 1) (tn1 : Nat) (tn1a : tn1 < md) (tn1e : n1 = nI tn1) (c_6 : ((-2000) : Int32) ≤ n2 ∧ n2 ≤ 2000) (c_9 : ((-2000) : Int32) ≤ n3 ∧ n3 ≤ 2000) (c_12 : (0 : Int32) ≤ n4 ∧ n4 ≤ 1000) (tn4 : Nat) (tn4a : 0 ≤ tn4) (tn4b : tn4 ≤ 1000) (tn4e : n4 = nI tn4) (j1 : Nat) (m_hasMark_j1 : Nat → Int32) (m_markAcross_j1 : Nat → Int32) (m_markDeep_j1 : Nat → Int32) (im_54 : Nat → Int32) (mh_j1 : Int32) (k54 : Nat) (hj54 : j1 ≤ ms) (hk54 : ms < j1 + (k54 + 1)) (hm54_2 : im_54 2 = nI ms) (hm54_3 : im_54 3 = nI mk) (hm54_5 : im_54 5 = mh_j1) (hm54_49 : im_54 49 = mc) (hm54_50 : im_54 50 = nI md) (hrj1 : ((m_markAcross_j1, m_markDeep_j1, m_hasMark_j1, mh_j1) : D4T) = dr1 m_across m_deep m_isGone mc tn1 n2 n3 (nI tn4) mk (m_markAcross, m_markDeep, m_hasMark, mh) j1) (c_13 : ¬ nI ms ≤ nI j1) (n_19 : j1 < ms) (j2 : Nat) (m_hasMark_j2 : Nat → Int32) (m_markAcross_j2 : Nat → Int32) (m_markDeep_j2 : Nat → Int32) (im_66 : Nat → Int32) (mh_j2 : Int32) (k66 : Nat) (hj66 : j2 ≤ mk) (hk66 : mk < j2 + (k66 + 1)) (hm66_2 : im_66 2 = nI ms) (hm66_3 : im_66 3 = nI mk) (hm66_5 : im_66 5 = mh_j2) (hm66_49 : im_66 49 = mc) (hm66_50 : im_66 50 = nI md) (hrj2 : ((m_markAcross_j2, m_markDeep_j2, m_hasMark_j2, mh_j2) : D4T) = dr2 m_across m_deep m_isGone mc tn1 n2 n3 (nI tn4) j1 (dr1 m_across m_deep m_isGone mc tn1 n2 n3 (nI tn4) mk (m_markAcross, m_markDeep, m_hasMark, mh) j1) j2) (c_21 : ¬ nI mk ≤ nI j2) (n_25 : j2 < mk) (j3 : Nat) (m_hasMark_j3 : Nat → Int32) (m_markAcross_j3 : Nat → Int32) (m_markDeep_j3 : Nat → Int32) (im_78 : Nat → Int32) (mh_j3 : Int32) (k78 : Nat) (hj78 : j3 ≤ 2) (hk78 : 2 < j3 + (k78 + 1)) (hm78_2 : im_78 2 = nI ms) (hm78_3 : im_78 3 = nI mk) (hm78_5 : im_78 5 = mh_j3) (hm78_49 : im_78 49 = mc) (hm78_50 : im_78 50 = nI md) (hrj3 : ((m_markAcross_j3, m_markDeep_j3, m_hasMark_j3, mh_j3) : D4T) = dr3 m_across m_deep m_isGone mc tn1 n2 n3 (nI tn4) j1 j2 (dr2 m_across m_deep m_isGone mc tn1 n2 n3 (nI tn4) j1 (dr1 m_across m_deep m_isGone mc tn1 n2 n3 (nI tn4) mk (m_markAcross, m_markDeep, m_hasMark, mh) j1) j2) j3) (c_27 : ¬ 2 ≤ nI j3) (n_31 : j3 < 2) (c_38 : ¬ vsB m_isGone mc j2 j1 j3 = 0) (im_40 : Nat → Int32) (mh_40 : Int32) (hz_40_0 : SB [5] im_78 im_40) (hz_40_1 : im_40 5 = mh_40) (hz_40_2 : mh_40 = dwM mh_j3) (hsb : SB [5] im im_40) (x_43 : Int32) (ex_43 : x_43 = m_across (16 * j1 + 2 * j2 + j3) + n2) (x_44 : Int32) (ex_44 : x_44 = mh_40 - mh_40 / (1000 : Int32) * (1000 : Int32)) (c_45 : nI tn4 ≤ x_44) (x_46 : Int32) (ex_46 : x_46 = x_43 + 0) (x_48 : Int32) (ex_48 : x_48 = m_deep (16 * j1 + 2 * j2 + j3) + n3) : (16 * j1 + 2 * j2 + j3) < 384 := by
  first | assumption | omega | decide | rfl
theorem lf_X12_draw_m_53 (h : Nat) (q : Nat → Nat) (im : Nat → Int32) (ms : Nat) (mk : Nat) (md : Nat) (mc : Int32) (mh : Int32) (m_across : Nat → Int32) (m_deep : Nat → Int32) (m_isGone : Nat → Int32) (m_hasMark : Nat → Int32) (m_markAcross : Nat → Int32) (m_markDeep : Nat → Int32) (n1 : Int32) (n2 : Int32) (n3 : Int32) (n4 : Int32) (hf_ms : im 2 = nI ms) (hf_mk : im 3 = nI mk) (hf_md : im 50 = nI md) (hf_mc : im 49 = mc) (hf_mh : im 5 = mh) (hms : ms ≤ 24) (hmk : mk ≤ 8) (hm3 : mk = 0 ∨ 3 ≤ ms) (hmd : md ≤ 4) (hc0 : (0 : Int32) ≤ mc) (c_2 : (0 : Int32) ≤ n1 ∧ n1 ≤ nI md - 1) (tn1 : Nat) (tn1a : tn1 < md) (tn1e : n1 = nI tn1) (c_6 : ((-2000) : Int32) ≤ n2 ∧ n2 ≤ 2000) (c_9 : ((-2000) : Int32) ≤ n3 ∧ n3 ≤ 2000) (c_12 : (0 : Int32) ≤ n4 ∧ n4 ≤ 1000) (tn4 : Nat) (tn4a : 0 ≤ tn4) (tn4b : tn4 ≤ 1000) (tn4e : n4 = nI tn4) (j1 : Nat) (m_hasMark_j1 : Nat → Int32) (m_markAcross_j1 : Nat → Int32) (m_markDeep_j1 : Nat → Int32) (im_54 : Nat → Int32) (mh_j1 : Int32) (k54 : Nat) (hj54 : j1 ≤ ms) (hk54 : ms < j1 + (k54 + 1)) (hm54_2 : im_54 2 = nI ms) (hm54_3 : im_54 3 = nI mk) (hm54_5 : im_54 5 = mh_j1) (hm54_49 : im_54 49 = mc) (hm54_50 : im_54 50 = nI md) (hrj1 : ((m_markAcross_j1, m_markDeep_j1, m_hasMark_j1, mh_j1) : D4T) = dr1 m_across m_deep m_isGone mc tn1 n2 n3 (nI tn4) mk (m_markAcross, m_markDeep, m_hasMark, mh) j1) (c_13 : ¬ nI ms ≤ nI j1) (n_19 : j1 < ms) (j2 : Nat) (m_hasMark_j2 : Nat → Int32) (m_markAcross_j2 : Nat → Int32) (m_markDeep_j2 : Nat → Int32) (im_66 : Nat → Int32) (mh_j2 : Int32) (k66 : Nat) (hj66 : j2 ≤ mk) (hk66 : mk < j2 + (k66 + 1)) (hm66_2 : im_66 2 = nI ms) (hm66_3 : im_66 3 = nI mk) (hm66_5 : im_66 5 = mh_j2) (hm66_49 : im_66 49 = mc) (hm66_50 : im_66 50 = nI md) (hrj2 : ((m_markAcross_j2, m_markDeep_j2, m_hasMark_j2, mh_j2) : D4T) = dr2 m_across m_deep m_isGone mc tn1 n2 n3 (nI tn4) j1 (dr1 m_across m_deep m_isGone mc tn1 n2 n3 (nI tn4) mk (m_markAcross, m_markDeep, m_hasMark, mh) j1) j2) (c_21 : ¬ nI mk ≤ nI j2) (n_25 : j2 < mk) (j3 : Nat) (m_hasMark_j3 : Nat → Int32) (m_markAcross_j3 : Nat → Int32) (m_markDeep_j3 : Nat → Int32) (im_78 : Nat → Int32) (mh_j3 : Int32) (k78 : Nat) (hj78 : j3 ≤ 2) (hk78 : 2 < j3 + (k78 + 1)) (hm78_2 : im_78 2 = nI ms) (hm78_3 : im_78 3 = nI mk) (hm78_5 : im_78 5 = mh_j3) (hm78_49 : im_78 49 = mc) (hm78_50 : im_78 50 = nI md) (hrj3 : ((m_markAcross_j3, m_markDeep_j3, m_hasMark_j3, mh_j3) : D4T) = dr3 m_across m_deep m_isGone mc tn1 n2 n3 (nI tn4) j1 j2 (dr2 m_across m_deep m_isGone mc tn1 n2 n3 (nI tn4) j1 (dr1 m_across m_deep m_isGone mc tn1 n2 n3 (nI tn4) mk (m_markAcross, m_markDeep, m_hasMark, mh) j1) j2) j3) (c_27 : ¬ 2 ≤ nI j3) (n_31 : j3 < 2) (c_38 : ¬ vsB m_isGone mc j2 j1 j3 = 0) (im_40 : Nat → Int32) (mh_40 : Int32) (hz_40_0 : SB [5] im_78 im_40) (hz_40_1 : im_40 5 = mh_40) (hz_40_2 : mh_40 = dwM mh_j3) (hsb : SB [5] im im_40) (x_43 : Int32) (ex_43 : x_43 = m_across (16 * j1 + 2 * j2 + j3) + n2) (x_44 : Int32) (ex_44 : x_44 = mh_40 - mh_40 / (1000 : Int32) * (1000 : Int32)) (c_45 : nI tn4 ≤ x_44) (x_46 : Int32) (ex_46 : x_46 = x_43 + 0) (x_48 : Int32) (ex_48 : x_48 = m_deep (16 * j1 + 2 * j2 + j3) + n3) (m_hasMark_52 : Nat → Int32) (m_markAcross_52 : Nat → Int32) (m_markDeep_52 : Nat → Int32) (hz_52_0 : m_markAcross_52 = upd m_markAcross_j3 (384 * tn1 + ((16 * j1 + 2 * j2 + j3))) x_46) (hz_52_1 : m_markDeep_52 = upd m_markDeep_j3 (384 * tn1 + ((16 * j1 + 2 * j2 + j3))) x_48) (hz_52_2 : m_hasMark_52 = upd m_hasMark_j3 (384 * tn1 + ((16 * j1 + 2 * j2 + j3))) (vp_nar .boolean 1)) : ((m_markAcross_52, m_markDeep_52, m_hasMark_52, mh_40) : D4T) = dr3 m_across m_deep m_isGone mc tn1 n2 n3 (nI tn4) j1 j2 (dr2 m_across m_deep m_isGone mc tn1 n2 n3 (nI tn4) j1 (dr1 m_across m_deep m_isGone mc tn1 n2 n3 (nI tn4) mk (m_markAcross, m_markDeep, m_hasMark, mh) j1) j2) (j3 + 1) := by
  first | omega | assumption | exact dr_s3 hrj3 (dr_y (vs_t (by assumption)) (by assumption) (by assumption) (by assumption) (by assumption) rfl rfl rfl (dr_v (by assumption) (by assumption) rfl (by first | exact sl_50 (dr_l2 (by assumption) (by assumption)) | exact sl_0 (dr_m2 (by assumption) (by assumption)))) (dr_w (by assumption) rfl)) | exact dr_s3 hrj3 (dr_n (vs_f (by assumption))) | exact dr_s2 hrj3 (by omega) | exact dr_s1 hrj2 (by omega) | rfl
theorem lf_X12_draw_m_55 (h : Nat) (q : Nat → Nat) (im : Nat → Int32) (ms : Nat) (mk : Nat) (md : Nat) (mc : Int32) (mh : Int32) (m_across : Nat → Int32) (m_deep : Nat → Int32) (m_isGone : Nat → Int32) (m_hasMark : Nat → Int32) (m_markAcross : Nat → Int32) (m_markDeep : Nat → Int32) (n1 : Int32) (n2 : Int32) (n3 : Int32) (n4 : Int32) (hf_ms : im 2 = nI ms) (hf_mk : im 3 = nI mk) (hf_md : im 50 = nI md) (hf_mc : im 49 = mc) (hf_mh : im 5 = mh) (hms : ms ≤ 24) (hmk : mk ≤ 8) (hm3 : mk = 0 ∨ 3 ≤ ms) (hmd : md ≤ 4) (hc0 : (0 : Int32) ≤ mc) (c_2 : (0 : Int32) ≤ n1 ∧ n1 ≤ nI md - 1) (tn1 : Nat) (tn1a : tn1 < md) (tn1e : n1 = nI tn1) (c_6 : ((-2000) : Int32) ≤ n2 ∧ n2 ≤ 2000) (c_9 : ((-2000) : Int32) ≤ n3 ∧ n3 ≤ 2000) (c_12 : (0 : Int32) ≤ n4 ∧ n4 ≤ 1000) (tn4 : Nat) (tn4a : 0 ≤ tn4) (tn4b : tn4 ≤ 1000) (tn4e : n4 = nI tn4) (j1 : Nat) (m_hasMark_j1 : Nat → Int32) (m_markAcross_j1 : Nat → Int32) (m_markDeep_j1 : Nat → Int32) (im_54 : Nat → Int32) (mh_j1 : Int32) (k54 : Nat) (hj54 : j1 ≤ ms) (hk54 : ms < j1 + (k54 + 1)) (hm54_2 : im_54 2 = nI ms) (hm54_3 : im_54 3 = nI mk) (hm54_5 : im_54 5 = mh_j1) (hm54_49 : im_54 49 = mc) (hm54_50 : im_54 50 = nI md) (hrj1 : ((m_markAcross_j1, m_markDeep_j1, m_hasMark_j1, mh_j1) : D4T) = dr1 m_across m_deep m_isGone mc tn1 n2 n3 (nI tn4) mk (m_markAcross, m_markDeep, m_hasMark, mh) j1) (c_13 : ¬ nI ms ≤ nI j1) (n_19 : j1 < ms) (j2 : Nat) (m_hasMark_j2 : Nat → Int32) (m_markAcross_j2 : Nat → Int32) (m_markDeep_j2 : Nat → Int32) (im_66 : Nat → Int32) (mh_j2 : Int32) (k66 : Nat) (hj66 : j2 ≤ mk) (hk66 : mk < j2 + (k66 + 1)) (hm66_2 : im_66 2 = nI ms) (hm66_3 : im_66 3 = nI mk) (hm66_5 : im_66 5 = mh_j2) (hm66_49 : im_66 49 = mc) (hm66_50 : im_66 50 = nI md) (hrj2 : ((m_markAcross_j2, m_markDeep_j2, m_hasMark_j2, mh_j2) : D4T) = dr2 m_across m_deep m_isGone mc tn1 n2 n3 (nI tn4) j1 (dr1 m_across m_deep m_isGone mc tn1 n2 n3 (nI tn4) mk (m_markAcross, m_markDeep, m_hasMark, mh) j1) j2) (c_21 : ¬ nI mk ≤ nI j2) (n_25 : j2 < mk) (j3 : Nat) (m_hasMark_j3 : Nat → Int32) (m_markAcross_j3 : Nat → Int32) (m_markDeep_j3 : Nat → Int32) (im_78 : Nat → Int32) (mh_j3 : Int32) (k78 : Nat) (hj78 : j3 ≤ 2) (hk78 : 2 < j3 + (k78 + 1)) (hm78_2 : im_78 2 = nI ms) (hm78_3 : im_78 3 = nI mk) (hm78_5 : im_78 5 = mh_j3) (hm78_49 : im_78 49 = mc) (hm78_50 : im_78 50 = nI md) (hrj3 : ((m_markAcross_j3, m_markDeep_j3, m_hasMark_j3, mh_j3) : D4T) = dr3 m_across m_deep m_isGone mc tn1 n2 n3 (nI tn4) j1 j2 (dr2 m_across m_deep m_isGone mc tn1 n2 n3 (nI tn4) j1 (dr1 m_across m_deep m_isGone mc tn1 n2 n3 (nI tn4) mk (m_markAcross, m_markDeep, m_hasMark, mh) j1) j2) j3) (c_27 : ¬ 2 ≤ nI j3) (n_31 : j3 < 2) (c_38 : ¬ vsB m_isGone mc j2 j1 j3 = 0) (im_40 : Nat → Int32) (mh_40 : Int32) (hz_40_0 : SB [5] im_78 im_40) (hz_40_1 : im_40 5 = mh_40) (hz_40_2 : mh_40 = dwM mh_j3) (hsb : SB [5] im im_40) (x_43 : Int32) (ex_43 : x_43 = m_across (16 * j1 + 2 * j2 + j3) + n2) (x_44 : Int32) (ex_44 : x_44 = mh_40 - mh_40 / (1000 : Int32) * (1000 : Int32)) (c_45 : ¬ nI tn4 ≤ x_44) (x_54 : Int32) (ex_54 : x_54 = x_43 + 50) : (16 * j1 + 2 * j2 + j3) < 384 := by
  omega
theorem lf_X12_draw_m_57 (h : Nat) (q : Nat → Nat) (im : Nat → Int32) (ms : Nat) (mk : Nat) (md : Nat) (mc : Int32) (mh : Int32) (m_across : Nat → Int32) (m_deep : Nat → Int32) (m_isGone : Nat → Int32) (m_hasMark : Nat → Int32) (m_markAcross : Nat → Int32) (m_markDeep : Nat → Int32) (n1 : Int32) (n2 : Int32) (n3 : Int32) (n4 : Int32) (hf_ms : im 2 = nI ms) (hf_mk : im 3 = nI mk) (hf_md : im 50 = nI md) (hf_mc : im 49 = mc) (hf_mh : im 5 = mh) (hms : ms ≤ 24) (hmk : mk ≤ 8) (hm3 : mk = 0 ∨ 3 ≤ ms) (hmd : md ≤ 4) (hc0 : (0 : Int32) ≤ mc) (c_2 : (0 : Int32) ≤ n1 ∧ n1 ≤ nI md - 1) (tn1 : Nat) (tn1a : tn1 < md) (tn1e : n1 = nI tn1) (c_6 : ((-2000) : Int32) ≤ n2 ∧ n2 ≤ 2000) (c_9 : ((-2000) : Int32) ≤ n3 ∧ n3 ≤ 2000) (c_12 : (0 : Int32) ≤ n4 ∧ n4 ≤ 1000) (tn4 : Nat) (tn4a : 0 ≤ tn4) (tn4b : tn4 ≤ 1000) (tn4e : n4 = nI tn4) (j1 : Nat) (m_hasMark_j1 : Nat → Int32) (m_markAcross_j1 : Nat → Int32) (m_markDeep_j1 : Nat → Int32) (im_54 : Nat → Int32) (mh_j1 : Int32) (k54 : Nat) (hj54 : j1 ≤ ms) (hk54 : ms < j1 + (k54 + 1)) (hm54_2 : im_54 2 = nI ms) (hm54_3 : im_54 3 = nI mk) (hm54_5 : im_54 5 = mh_j1) (hm54_49 : im_54 49 = mc) (hm54_50 : im_54 50 = nI md) (hrj1 : ((m_markAcross_j1, m_markDeep_j1, m_hasMark_j1, mh_j1) : D4T) = dr1 m_across m_deep m_isGone mc tn1 n2 n3 (nI tn4) mk (m_markAcross, m_markDeep, m_hasMark, mh) j1) (c_13 : ¬ nI ms ≤ nI j1) (n_19 : j1 < ms) (j2 : Nat) (m_hasMark_j2 : Nat → Int32) (m_markAcross_j2 : Nat → Int32) (m_markDeep_j2 : Nat → Int32) (im_66 : Nat → Int32) (mh_j2 : Int32) (k66 : Nat) (hj66 : j2 ≤ mk) (hk66 : mk < j2 + (k66 + 1)) (hm66_2 : im_66 2 = nI ms) (hm66_3 : im_66 3 = nI mk) (hm66_5 : im_66 5 = mh_j2) (hm66_49 : im_66 49 = mc) (hm66_50 : im_66 50 = nI md) (hrj2 : ((m_markAcross_j2, m_markDeep_j2, m_hasMark_j2, mh_j2) : D4T) = dr2 m_across m_deep m_isGone mc tn1 n2 n3 (nI tn4) j1 (dr1 m_across m_deep m_isGone mc tn1 n2 n3 (nI tn4) mk (m_markAcross, m_markDeep, m_hasMark, mh) j1) j2) (c_21 : ¬ nI mk ≤ nI j2) (n_25 : j2 < mk) (j3 : Nat) (m_hasMark_j3 : Nat → Int32) (m_markAcross_j3 : Nat → Int32) (m_markDeep_j3 : Nat → Int32) (im_78 : Nat → Int32) (mh_j3 : Int32) (k78 : Nat) (hj78 : j3 ≤ 2) (hk78 : 2 < j3 + (k78 + 1)) (hm78_2 : im_78 2 = nI ms) (hm78_3 : im_78 3 = nI mk) (hm78_5 : im_78 5 = mh_j3) (hm78_49 : im_78 49 = mc) (hm78_50 : im_78 50 = nI md) (hrj3 : ((m_markAcross_j3, m_markDeep_j3, m_hasMark_j3, mh_j3) : D4T) = dr3 m_across m_deep m_isGone mc tn1 n2 n3 (nI tn4) j1 j2 (dr2 m_across m_deep m_isGone mc tn1 n2 n3 (nI tn4) j1 (dr1 m_across m_deep m_isGone mc tn1 n2 n3 (nI tn4) mk (m_markAcross, m_markDeep, m_hasMark, mh) j1) j2) j3) (c_27 : ¬ 2 ≤ nI j3) (n_31 : j3 < 2) (c_38 : ¬ vsB m_isGone mc j2 j1 j3 = 0) (im_40 : Nat → Int32) (mh_40 : Int32) (hz_40_0 : SB [5] im_78 im_40) (hz_40_1 : im_40 5 = mh_40) (hz_40_2 : mh_40 = dwM mh_j3) (hsb : SB [5] im im_40) (x_43 : Int32) (ex_43 : x_43 = m_across (16 * j1 + 2 * j2 + j3) + n2) (x_44 : Int32) (ex_44 : x_44 = mh_40 - mh_40 / (1000 : Int32) * (1000 : Int32)) (c_45 : ¬ nI tn4 ≤ x_44) (x_54 : Int32) (ex_54 : x_54 = x_43 + 50) (x_56 : Int32) (ex_56 : x_56 = m_deep (16 * j1 + 2 * j2 + j3) + n3) : tn1 < 4 := by
  first | assumption | omega | decide | rfl
theorem lf_X12_draw_m_58 (h : Nat) (q : Nat → Nat) (im : Nat → Int32) (ms : Nat) (mk : Nat) (md : Nat) (mc : Int32) (mh : Int32) (m_across : Nat → Int32) (m_deep : Nat → Int32) (m_isGone : Nat → Int32) (m_hasMark : Nat → Int32) (m_markAcross : Nat → Int32) (m_markDeep : Nat → Int32) (n1 : Int32) (n2 : Int32) (n3 : Int32) (n4 : Int32) (hf_ms : im 2 = nI ms) (hf_mk : im 3 = nI mk) (hf_md : im 50 = nI md) (hf_mc : im 49 = mc) (hf_mh : im 5 = mh) (hms : ms ≤ 24) (hmk : mk ≤ 8) (hm3 : mk = 0 ∨ 3 ≤ ms) (hmd : md ≤ 4) (hc0 : (0 : Int32) ≤ mc) (c_2 : (0 : Int32) ≤ n1 ∧ n1 ≤ nI md - 1) (tn1 : Nat) (tn1a : tn1 < md) (tn1e : n1 = nI tn1) (c_6 : ((-2000) : Int32) ≤ n2 ∧ n2 ≤ 2000) (c_9 : ((-2000) : Int32) ≤ n3 ∧ n3 ≤ 2000) (c_12 : (0 : Int32) ≤ n4 ∧ n4 ≤ 1000) (tn4 : Nat) (tn4a : 0 ≤ tn4) (tn4b : tn4 ≤ 1000) (tn4e : n4 = nI tn4) (j1 : Nat) (m_hasMark_j1 : Nat → Int32) (m_markAcross_j1 : Nat → Int32) (m_markDeep_j1 : Nat → Int32) (im_54 : Nat → Int32) (mh_j1 : Int32) (k54 : Nat) (hj54 : j1 ≤ ms) (hk54 : ms < j1 + (k54 + 1)) (hm54_2 : im_54 2 = nI ms) (hm54_3 : im_54 3 = nI mk) (hm54_5 : im_54 5 = mh_j1) (hm54_49 : im_54 49 = mc) (hm54_50 : im_54 50 = nI md) (hrj1 : ((m_markAcross_j1, m_markDeep_j1, m_hasMark_j1, mh_j1) : D4T) = dr1 m_across m_deep m_isGone mc tn1 n2 n3 (nI tn4) mk (m_markAcross, m_markDeep, m_hasMark, mh) j1) (c_13 : ¬ nI ms ≤ nI j1) (n_19 : j1 < ms) (j2 : Nat) (m_hasMark_j2 : Nat → Int32) (m_markAcross_j2 : Nat → Int32) (m_markDeep_j2 : Nat → Int32) (im_66 : Nat → Int32) (mh_j2 : Int32) (k66 : Nat) (hj66 : j2 ≤ mk) (hk66 : mk < j2 + (k66 + 1)) (hm66_2 : im_66 2 = nI ms) (hm66_3 : im_66 3 = nI mk) (hm66_5 : im_66 5 = mh_j2) (hm66_49 : im_66 49 = mc) (hm66_50 : im_66 50 = nI md) (hrj2 : ((m_markAcross_j2, m_markDeep_j2, m_hasMark_j2, mh_j2) : D4T) = dr2 m_across m_deep m_isGone mc tn1 n2 n3 (nI tn4) j1 (dr1 m_across m_deep m_isGone mc tn1 n2 n3 (nI tn4) mk (m_markAcross, m_markDeep, m_hasMark, mh) j1) j2) (c_21 : ¬ nI mk ≤ nI j2) (n_25 : j2 < mk) (j3 : Nat) (m_hasMark_j3 : Nat → Int32) (m_markAcross_j3 : Nat → Int32) (m_markDeep_j3 : Nat → Int32) (im_78 : Nat → Int32) (mh_j3 : Int32) (k78 : Nat) (hj78 : j3 ≤ 2) (hk78 : 2 < j3 + (k78 + 1)) (hm78_2 : im_78 2 = nI ms) (hm78_3 : im_78 3 = nI mk) (hm78_5 : im_78 5 = mh_j3) (hm78_49 : im_78 49 = mc) (hm78_50 : im_78 50 = nI md) (hrj3 : ((m_markAcross_j3, m_markDeep_j3, m_hasMark_j3, mh_j3) : D4T) = dr3 m_across m_deep m_isGone mc tn1 n2 n3 (nI tn4) j1 j2 (dr2 m_across m_deep m_isGone mc tn1 n2 n3 (nI tn4) j1 (dr1 m_across m_deep m_isGone mc tn1 n2 n3 (nI tn4) mk (m_markAcross, m_markDeep, m_hasMark, mh) j1) j2) j3) (c_27 : ¬ 2 ≤ nI j3) (n_31 : j3 < 2) (c_38 : ¬ vsB m_isGone mc j2 j1 j3 = 0) (im_40 : Nat → Int32) (mh_40 : Int32) (hz_40_0 : SB [5] im_78 im_40) (hz_40_1 : im_40 5 = mh_40) (hz_40_2 : mh_40 = dwM mh_j3) (hsb : SB [5] im im_40) (x_43 : Int32) (ex_43 : x_43 = m_across (16 * j1 + 2 * j2 + j3) + n2) (x_44 : Int32) (ex_44 : x_44 = mh_40 - mh_40 / (1000 : Int32) * (1000 : Int32)) (c_45 : ¬ nI tn4 ≤ x_44) (x_54 : Int32) (ex_54 : x_54 = x_43 + 50) (x_56 : Int32) (ex_56 : x_56 = m_deep (16 * j1 + 2 * j2 + j3) + n3) : (16 * j1 + 2 * j2 + j3) < 384 := by
  first | assumption | omega | decide | rfl
theorem lf_X12_draw_m_61 (h : Nat) (q : Nat → Nat) (im : Nat → Int32) (ms : Nat) (mk : Nat) (md : Nat) (mc : Int32) (mh : Int32) (m_across : Nat → Int32) (m_deep : Nat → Int32) (m_isGone : Nat → Int32) (m_hasMark : Nat → Int32) (m_markAcross : Nat → Int32) (m_markDeep : Nat → Int32) (n1 : Int32) (n2 : Int32) (n3 : Int32) (n4 : Int32) (hf_ms : im 2 = nI ms) (hf_mk : im 3 = nI mk) (hf_md : im 50 = nI md) (hf_mc : im 49 = mc) (hf_mh : im 5 = mh) (hms : ms ≤ 24) (hmk : mk ≤ 8) (hm3 : mk = 0 ∨ 3 ≤ ms) (hmd : md ≤ 4) (hc0 : (0 : Int32) ≤ mc) (c_2 : (0 : Int32) ≤ n1 ∧ n1 ≤ nI md - 1) (tn1 : Nat) (tn1a : tn1 < md) (tn1e : n1 = nI tn1) (c_6 : ((-2000) : Int32) ≤ n2 ∧ n2 ≤ 2000) (c_9 : ((-2000) : Int32) ≤ n3 ∧ n3 ≤ 2000) (c_12 : (0 : Int32) ≤ n4 ∧ n4 ≤ 1000) (tn4 : Nat) (tn4a : 0 ≤ tn4) (tn4b : tn4 ≤ 1000) (tn4e : n4 = nI tn4) (j1 : Nat) (m_hasMark_j1 : Nat → Int32) (m_markAcross_j1 : Nat → Int32) (m_markDeep_j1 : Nat → Int32) (im_54 : Nat → Int32) (mh_j1 : Int32) (k54 : Nat) (hj54 : j1 ≤ ms) (hk54 : ms < j1 + (k54 + 1)) (hm54_2 : im_54 2 = nI ms) (hm54_3 : im_54 3 = nI mk) (hm54_5 : im_54 5 = mh_j1) (hm54_49 : im_54 49 = mc) (hm54_50 : im_54 50 = nI md) (hrj1 : ((m_markAcross_j1, m_markDeep_j1, m_hasMark_j1, mh_j1) : D4T) = dr1 m_across m_deep m_isGone mc tn1 n2 n3 (nI tn4) mk (m_markAcross, m_markDeep, m_hasMark, mh) j1) (c_13 : ¬ nI ms ≤ nI j1) (n_19 : j1 < ms) (j2 : Nat) (m_hasMark_j2 : Nat → Int32) (m_markAcross_j2 : Nat → Int32) (m_markDeep_j2 : Nat → Int32) (im_66 : Nat → Int32) (mh_j2 : Int32) (k66 : Nat) (hj66 : j2 ≤ mk) (hk66 : mk < j2 + (k66 + 1)) (hm66_2 : im_66 2 = nI ms) (hm66_3 : im_66 3 = nI mk) (hm66_5 : im_66 5 = mh_j2) (hm66_49 : im_66 49 = mc) (hm66_50 : im_66 50 = nI md) (hrj2 : ((m_markAcross_j2, m_markDeep_j2, m_hasMark_j2, mh_j2) : D4T) = dr2 m_across m_deep m_isGone mc tn1 n2 n3 (nI tn4) j1 (dr1 m_across m_deep m_isGone mc tn1 n2 n3 (nI tn4) mk (m_markAcross, m_markDeep, m_hasMark, mh) j1) j2) (c_21 : ¬ nI mk ≤ nI j2) (n_25 : j2 < mk) (j3 : Nat) (m_hasMark_j3 : Nat → Int32) (m_markAcross_j3 : Nat → Int32) (m_markDeep_j3 : Nat → Int32) (im_78 : Nat → Int32) (mh_j3 : Int32) (k78 : Nat) (hj78 : j3 ≤ 2) (hk78 : 2 < j3 + (k78 + 1)) (hm78_2 : im_78 2 = nI ms) (hm78_3 : im_78 3 = nI mk) (hm78_5 : im_78 5 = mh_j3) (hm78_49 : im_78 49 = mc) (hm78_50 : im_78 50 = nI md) (hrj3 : ((m_markAcross_j3, m_markDeep_j3, m_hasMark_j3, mh_j3) : D4T) = dr3 m_across m_deep m_isGone mc tn1 n2 n3 (nI tn4) j1 j2 (dr2 m_across m_deep m_isGone mc tn1 n2 n3 (nI tn4) j1 (dr1 m_across m_deep m_isGone mc tn1 n2 n3 (nI tn4) mk (m_markAcross, m_markDeep, m_hasMark, mh) j1) j2) j3) (c_27 : ¬ 2 ≤ nI j3) (n_31 : j3 < 2) (c_38 : ¬ vsB m_isGone mc j2 j1 j3 = 0) (im_40 : Nat → Int32) (mh_40 : Int32) (hz_40_0 : SB [5] im_78 im_40) (hz_40_1 : im_40 5 = mh_40) (hz_40_2 : mh_40 = dwM mh_j3) (hsb : SB [5] im im_40) (x_43 : Int32) (ex_43 : x_43 = m_across (16 * j1 + 2 * j2 + j3) + n2) (x_44 : Int32) (ex_44 : x_44 = mh_40 - mh_40 / (1000 : Int32) * (1000 : Int32)) (c_45 : ¬ nI tn4 ≤ x_44) (x_54 : Int32) (ex_54 : x_54 = x_43 + 50) (x_56 : Int32) (ex_56 : x_56 = m_deep (16 * j1 + 2 * j2 + j3) + n3) (m_hasMark_60 : Nat → Int32) (m_markAcross_60 : Nat → Int32) (m_markDeep_60 : Nat → Int32) (hz_60_0 : m_markAcross_60 = upd m_markAcross_j3 (384 * tn1 + ((16 * j1 + 2 * j2 + j3))) x_54) (hz_60_1 : m_markDeep_60 = upd m_markDeep_j3 (384 * tn1 + ((16 * j1 + 2 * j2 + j3))) x_56) (hz_60_2 : m_hasMark_60 = upd m_hasMark_j3 (384 * tn1 + ((16 * j1 + 2 * j2 + j3))) (vp_nar .boolean 1)) : ((m_markAcross_60, m_markDeep_60, m_hasMark_60, mh_40) : D4T) = dr3 m_across m_deep m_isGone mc tn1 n2 n3 (nI tn4) j1 j2 (dr2 m_across m_deep m_isGone mc tn1 n2 n3 (nI tn4) j1 (dr1 m_across m_deep m_isGone mc tn1 n2 n3 (nI tn4) mk (m_markAcross, m_markDeep, m_hasMark, mh) j1) j2) (j3 + 1) := by
  first | omega | assumption | exact dr_s3 hrj3 (dr_y (vs_t (by assumption)) (by assumption) (by assumption) (by assumption) (by assumption) rfl rfl rfl (dr_v (by assumption) (by assumption) rfl (by first | exact sl_50 (dr_l2 (by assumption) (by assumption)) | exact sl_0 (dr_m2 (by assumption) (by assumption)))) (dr_w (by assumption) rfl)) | exact dr_s3 hrj3 (dr_n (vs_f (by assumption))) | exact dr_s2 hrj3 (by omega) | exact dr_s1 hrj2 (by omega) | rfl
theorem lf_X12_draw_m_62 (h : Nat) (q : Nat → Nat) (im : Nat → Int32) (ms : Nat) (mk : Nat) (md : Nat) (mc : Int32) (mh : Int32) (m_across : Nat → Int32) (m_deep : Nat → Int32) (m_isGone : Nat → Int32) (m_hasMark : Nat → Int32) (m_markAcross : Nat → Int32) (m_markDeep : Nat → Int32) (n1 : Int32) (n2 : Int32) (n3 : Int32) (n4 : Int32) (hf_ms : im 2 = nI ms) (hf_mk : im 3 = nI mk) (hf_md : im 50 = nI md) (hf_mc : im 49 = mc) (hf_mh : im 5 = mh) (hms : ms ≤ 24) (hmk : mk ≤ 8) (hm3 : mk = 0 ∨ 3 ≤ ms) (hmd : md ≤ 4) (hc0 : (0 : Int32) ≤ mc) (c_2 : (0 : Int32) ≤ n1 ∧ n1 ≤ nI md - 1) (tn1 : Nat) (tn1a : tn1 < md) (tn1e : n1 = nI tn1) (c_6 : ((-2000) : Int32) ≤ n2 ∧ n2 ≤ 2000) (c_9 : ((-2000) : Int32) ≤ n3 ∧ n3 ≤ 2000) (c_12 : (0 : Int32) ≤ n4 ∧ n4 ≤ 1000) (tn4 : Nat) (tn4a : 0 ≤ tn4) (tn4b : tn4 ≤ 1000) (tn4e : n4 = nI tn4) (j1 : Nat) (m_hasMark_j1 : Nat → Int32) (m_markAcross_j1 : Nat → Int32) (m_markDeep_j1 : Nat → Int32) (im_54 : Nat → Int32) (mh_j1 : Int32) (k54 : Nat) (hj54 : j1 ≤ ms) (hk54 : ms < j1 + (k54 + 1)) (hm54_2 : im_54 2 = nI ms) (hm54_3 : im_54 3 = nI mk) (hm54_5 : im_54 5 = mh_j1) (hm54_49 : im_54 49 = mc) (hm54_50 : im_54 50 = nI md) (hrj1 : ((m_markAcross_j1, m_markDeep_j1, m_hasMark_j1, mh_j1) : D4T) = dr1 m_across m_deep m_isGone mc tn1 n2 n3 (nI tn4) mk (m_markAcross, m_markDeep, m_hasMark, mh) j1) (c_13 : ¬ nI ms ≤ nI j1) (n_19 : j1 < ms) (j2 : Nat) (m_hasMark_j2 : Nat → Int32) (m_markAcross_j2 : Nat → Int32) (m_markDeep_j2 : Nat → Int32) (im_66 : Nat → Int32) (mh_j2 : Int32) (k66 : Nat) (hj66 : j2 ≤ mk) (hk66 : mk < j2 + (k66 + 1)) (hm66_2 : im_66 2 = nI ms) (hm66_3 : im_66 3 = nI mk) (hm66_5 : im_66 5 = mh_j2) (hm66_49 : im_66 49 = mc) (hm66_50 : im_66 50 = nI md) (hrj2 : ((m_markAcross_j2, m_markDeep_j2, m_hasMark_j2, mh_j2) : D4T) = dr2 m_across m_deep m_isGone mc tn1 n2 n3 (nI tn4) j1 (dr1 m_across m_deep m_isGone mc tn1 n2 n3 (nI tn4) mk (m_markAcross, m_markDeep, m_hasMark, mh) j1) j2) (c_21 : ¬ nI mk ≤ nI j2) (n_25 : j2 < mk) (j3 : Nat) (m_hasMark_j3 : Nat → Int32) (m_markAcross_j3 : Nat → Int32) (m_markDeep_j3 : Nat → Int32) (im_78 : Nat → Int32) (mh_j3 : Int32) (k78 : Nat) (hj78 : j3 ≤ 2) (hk78 : 2 < j3 + (k78 + 1)) (hsb : SB [5] im im_78) (hm78_2 : im_78 2 = nI ms) (hm78_3 : im_78 3 = nI mk) (hm78_5 : im_78 5 = mh_j3) (hm78_49 : im_78 49 = mc) (hm78_50 : im_78 50 = nI md) (hrj3 : ((m_markAcross_j3, m_markDeep_j3, m_hasMark_j3, mh_j3) : D4T) = dr3 m_across m_deep m_isGone mc tn1 n2 n3 (nI tn4) j1 j2 (dr2 m_across m_deep m_isGone mc tn1 n2 n3 (nI tn4) j1 (dr1 m_across m_deep m_isGone mc tn1 n2 n3 (nI tn4) mk (m_markAcross, m_markDeep, m_hasMark, mh) j1) j2) j3) (c_27 : ¬ 2 ≤ nI j3) (n_31 : j3 < 2) (c_38 : vsB m_isGone mc j2 j1 j3 = 0) : ((m_markAcross_j3, m_markDeep_j3, m_hasMark_j3, mh_j3) : D4T) = dr3 m_across m_deep m_isGone mc tn1 n2 n3 (nI tn4) j1 j2 (dr2 m_across m_deep m_isGone mc tn1 n2 n3 (nI tn4) j1 (dr1 m_across m_deep m_isGone mc tn1 n2 n3 (nI tn4) mk (m_markAcross, m_markDeep, m_hasMark, mh) j1) j2) (j3 + 1) := by
  first | omega | assumption | exact dr_s3 hrj3 (dr_y (vs_t (by assumption)) (by assumption) (by assumption) (by assumption) (by assumption) rfl rfl rfl (dr_v (by assumption) (by assumption) rfl (by first | exact sl_50 (dr_l2 (by assumption) (by assumption)) | exact sl_0 (dr_m2 (by assumption) (by assumption)))) (dr_w (by assumption) rfl)) | exact dr_s3 hrj3 (dr_n (vs_f (by assumption))) | exact dr_s2 hrj3 (by omega) | exact dr_s1 hrj2 (by omega) | rfl
theorem lf_X12_draw_m_63 (h : Nat) (q : Nat → Nat) (im : Nat → Int32) (ms : Nat) (mk : Nat) (md : Nat) (mc : Int32) (mh : Int32) (m_across : Nat → Int32) (m_deep : Nat → Int32) (m_isGone : Nat → Int32) (m_hasMark : Nat → Int32) (m_markAcross : Nat → Int32) (m_markDeep : Nat → Int32) (n1 : Int32) (n2 : Int32) (n3 : Int32) (n4 : Int32) (hf_ms : im 2 = nI ms) (hf_mk : im 3 = nI mk) (hf_md : im 50 = nI md) (hf_mc : im 49 = mc) (hf_mh : im 5 = mh) (hms : ms ≤ 24) (hmk : mk ≤ 8) (hm3 : mk = 0 ∨ 3 ≤ ms) (hmd : md ≤ 4) (hc0 : (0 : Int32) ≤ mc) (c_2 : (0 : Int32) ≤ n1 ∧ n1 ≤ nI md - 1) (tn1 : Nat) (tn1a : tn1 < md) (tn1e : n1 = nI tn1) (c_6 : ((-2000) : Int32) ≤ n2 ∧ n2 ≤ 2000) (c_9 : ((-2000) : Int32) ≤ n3 ∧ n3 ≤ 2000) (c_12 : (0 : Int32) ≤ n4 ∧ n4 ≤ 1000) (tn4 : Nat) (tn4a : 0 ≤ tn4) (tn4b : tn4 ≤ 1000) (tn4e : n4 = nI tn4) (j1 : Nat) (m_hasMark_j1 : Nat → Int32) (m_markAcross_j1 : Nat → Int32) (m_markDeep_j1 : Nat → Int32) (im_54 : Nat → Int32) (mh_j1 : Int32) (k54 : Nat) (hj54 : j1 ≤ ms) (hk54 : ms < j1 + (k54 + 1)) (hm54_2 : im_54 2 = nI ms) (hm54_3 : im_54 3 = nI mk) (hm54_5 : im_54 5 = mh_j1) (hm54_49 : im_54 49 = mc) (hm54_50 : im_54 50 = nI md) (hrj1 : ((m_markAcross_j1, m_markDeep_j1, m_hasMark_j1, mh_j1) : D4T) = dr1 m_across m_deep m_isGone mc tn1 n2 n3 (nI tn4) mk (m_markAcross, m_markDeep, m_hasMark, mh) j1) (c_13 : ¬ nI ms ≤ nI j1) (n_19 : j1 < ms) (j2 : Nat) (m_hasMark_j2 : Nat → Int32) (m_markAcross_j2 : Nat → Int32) (m_markDeep_j2 : Nat → Int32) (im_66 : Nat → Int32) (mh_j2 : Int32) (k66 : Nat) (hj66 : j2 ≤ mk) (hk66 : mk < j2 + (k66 + 1)) (hsb : SB [5] im im_66) (hm66_2 : im_66 2 = nI ms) (hm66_3 : im_66 3 = nI mk) (hm66_5 : im_66 5 = mh_j2) (hm66_49 : im_66 49 = mc) (hm66_50 : im_66 50 = nI md) (hrj2 : ((m_markAcross_j2, m_markDeep_j2, m_hasMark_j2, mh_j2) : D4T) = dr2 m_across m_deep m_isGone mc tn1 n2 n3 (nI tn4) j1 (dr1 m_across m_deep m_isGone mc tn1 n2 n3 (nI tn4) mk (m_markAcross, m_markDeep, m_hasMark, mh) j1) j2) (c_21 : ¬ nI mk ≤ nI j2) (n_25 : j2 < mk) : ((m_markAcross_j2, m_markDeep_j2, m_hasMark_j2, mh_j2) : D4T) = dr3 m_across m_deep m_isGone mc tn1 n2 n3 (nI tn4) j1 j2 (dr2 m_across m_deep m_isGone mc tn1 n2 n3 (nI tn4) j1 (dr1 m_across m_deep m_isGone mc tn1 n2 n3 (nI tn4) mk (m_markAcross, m_markDeep, m_hasMark, mh) j1) j2) 0 := by
  first | omega | assumption | exact dr_s3 hrj3 (dr_y (vs_t (by assumption)) (by assumption) (by assumption) (by assumption) (by assumption) rfl rfl rfl (dr_v (by assumption) (by assumption) rfl (by first | exact sl_50 (dr_l2 (by assumption) (by assumption)) | exact sl_0 (dr_m2 (by assumption) (by assumption)))) (dr_w (by assumption) rfl)) | exact dr_s3 hrj3 (dr_n (vs_f (by assumption))) | exact dr_s2 hrj3 (by omega) | exact dr_s1 hrj2 (by omega) | rfl
theorem lf_X12_draw_m_64 (h : Nat) (q : Nat → Nat) (im : Nat → Int32) (ms : Nat) (mk : Nat) (md : Nat) (mc : Int32) (mh : Int32) (m_across : Nat → Int32) (m_deep : Nat → Int32) (m_isGone : Nat → Int32) (m_hasMark : Nat → Int32) (m_markAcross : Nat → Int32) (m_markDeep : Nat → Int32) (n1 : Int32) (n2 : Int32) (n3 : Int32) (n4 : Int32) (hf_ms : im 2 = nI ms) (hf_mk : im 3 = nI mk) (hf_md : im 50 = nI md) (hf_mc : im 49 = mc) (hf_mh : im 5 = mh) (hms : ms ≤ 24) (hmk : mk ≤ 8) (hm3 : mk = 0 ∨ 3 ≤ ms) (hmd : md ≤ 4) (hc0 : (0 : Int32) ≤ mc) (c_2 : (0 : Int32) ≤ n1 ∧ n1 ≤ nI md - 1) (tn1 : Nat) (tn1a : tn1 < md) (tn1e : n1 = nI tn1) (c_6 : ((-2000) : Int32) ≤ n2 ∧ n2 ≤ 2000) (c_9 : ((-2000) : Int32) ≤ n3 ∧ n3 ≤ 2000) (c_12 : (0 : Int32) ≤ n4 ∧ n4 ≤ 1000) (tn4 : Nat) (tn4a : 0 ≤ tn4) (tn4b : tn4 ≤ 1000) (tn4e : n4 = nI tn4) (j1 : Nat) (m_hasMark_j1 : Nat → Int32) (m_markAcross_j1 : Nat → Int32) (m_markDeep_j1 : Nat → Int32) (im_54 : Nat → Int32) (mh_j1 : Int32) (k54 : Nat) (hj54 : j1 ≤ ms) (hk54 : ms < j1 + (k54 + 1)) (hsb : SB [5] im im_54) (hm54_2 : im_54 2 = nI ms) (hm54_3 : im_54 3 = nI mk) (hm54_5 : im_54 5 = mh_j1) (hm54_49 : im_54 49 = mc) (hm54_50 : im_54 50 = nI md) (hrj1 : ((m_markAcross_j1, m_markDeep_j1, m_hasMark_j1, mh_j1) : D4T) = dr1 m_across m_deep m_isGone mc tn1 n2 n3 (nI tn4) mk (m_markAcross, m_markDeep, m_hasMark, mh) j1) (c_13 : ¬ nI ms ≤ nI j1) (n_19 : j1 < ms) : ((m_markAcross_j1, m_markDeep_j1, m_hasMark_j1, mh_j1) : D4T) = dr2 m_across m_deep m_isGone mc tn1 n2 n3 (nI tn4) j1 (dr1 m_across m_deep m_isGone mc tn1 n2 n3 (nI tn4) mk (m_markAcross, m_markDeep, m_hasMark, mh) j1) 0 := by
  first | omega | assumption | exact dr_s3 hrj3 (dr_y (vs_t (by assumption)) (by assumption) (by assumption) (by assumption) (by assumption) rfl rfl rfl (dr_v (by assumption) (by assumption) rfl (by first | exact sl_50 (dr_l2 (by assumption) (by assumption)) | exact sl_0 (dr_m2 (by assumption) (by assumption)))) (dr_w (by assumption) rfl)) | exact dr_s3 hrj3 (dr_n (vs_f (by assumption))) | exact dr_s2 hrj3 (by omega) | exact dr_s1 hrj2 (by omega) | rfl
theorem lf_X12_draw_m_65 (h : Nat) (q : Nat → Nat) (im : Nat → Int32) (ms : Nat) (mk : Nat) (md : Nat) (mc : Int32) (mh : Int32) (m_across : Nat → Int32) (m_deep : Nat → Int32) (m_isGone : Nat → Int32) (m_hasMark : Nat → Int32) (m_markAcross : Nat → Int32) (m_markDeep : Nat → Int32) (n1 : Int32) (n2 : Int32) (n3 : Int32) (n4 : Int32) (hf_ms : im 2 = nI ms) (hf_mk : im 3 = nI mk) (hf_md : im 50 = nI md) (hf_mc : im 49 = mc) (hf_mh : im 5 = mh) (hms : ms ≤ 24) (hmk : mk ≤ 8) (hm3 : mk = 0 ∨ 3 ≤ ms) (hmd : md ≤ 4) (hc0 : (0 : Int32) ≤ mc) (hsb : SB [5] im im) (c_2 : (0 : Int32) ≤ n1 ∧ n1 ≤ nI md - 1) (tn1 : Nat) (tn1a : tn1 < md) (tn1e : n1 = nI tn1) (c_6 : ((-2000) : Int32) ≤ n2 ∧ n2 ≤ 2000) (c_9 : ((-2000) : Int32) ≤ n3 ∧ n3 ≤ 2000) (c_12 : (0 : Int32) ≤ n4 ∧ n4 ≤ 1000) (tn4 : Nat) (tn4a : 0 ≤ tn4) (tn4b : tn4 ≤ 1000) (tn4e : n4 = nI tn4) : ((m_markAcross, m_markDeep, m_hasMark, mh) : D4T) = dr1 m_across m_deep m_isGone mc tn1 n2 n3 (nI tn4) mk (m_markAcross, m_markDeep, m_hasMark, mh) 0 := by
  first | omega | assumption | exact dr_s3 hrj3 (dr_y (vs_t (by assumption)) (by assumption) (by assumption) (by assumption) (by assumption) rfl rfl rfl (dr_v (by assumption) (by assumption) rfl (by first | exact sl_50 (dr_l2 (by assumption) (by assumption)) | exact sl_0 (dr_m2 (by assumption) (by assumption)))) (dr_w (by assumption) rfl)) | exact dr_s3 hrj3 (dr_n (vs_f (by assumption))) | exact dr_s2 hrj3 (by omega) | exact dr_s1 hrj2 (by omega) | rfl
theorem lf_X12_draw_m_66 (h : Nat) (q : Nat → Nat) (im : Nat → Int32) (ms : Nat) (mk : Nat) (md : Nat) (mc : Int32) (mh : Int32) (m_across : Nat → Int32) (m_deep : Nat → Int32) (m_isGone : Nat → Int32) (m_hasMark : Nat → Int32) (m_markAcross : Nat → Int32) (m_markDeep : Nat → Int32) (n1 : Int32) (n2 : Int32) (n3 : Int32) (n4 : Int32) (hf_ms : im 2 = nI ms) (hf_mk : im 3 = nI mk) (hf_md : im 50 = nI md) (hf_mc : im 49 = mc) (hf_mh : im 5 = mh) (hms : ms ≤ 24) (hmk : mk ≤ 8) (hm3 : mk = 0 ∨ 3 ≤ ms) (hmd : md ≤ 4) (hc0 : (0 : Int32) ≤ mc) (hsb : SB [5] im im) (c_2 : (0 : Int32) ≤ n1 ∧ n1 ≤ nI md - 1) (tn1 : Nat) (tn1a : tn1 < md) (tn1e : n1 = nI tn1) (c_6 : ((-2000) : Int32) ≤ n2 ∧ n2 ≤ 2000) (c_9 : ((-2000) : Int32) ≤ n3 ∧ n3 ≤ 2000) (c_12 : ¬ ((0 : Int32) ≤ n4 ∧ n4 ≤ 1000)) : (SB [5] im (im : Nat → Int32)) ∧ ((im : Nat → Int32) 5 = (mh : Int32)) ∧ ((((m_markAcross : Nat → Int32), (m_markDeep : Nat → Int32), (m_hasMark : Nat → Int32), (mh : Int32)) : D4T) = drF m_across m_deep m_isGone mc ms mk md n1 n2 n3 n4 (m_markAcross, m_markDeep, m_hasMark, mh)) := by
  refine ⟨by assumption, by assumption, ?_⟩
  first | exact drF_1 (by assumption) | exact drF_2 (by assumption) | exact drF_3 (by assumption) | exact drF_4 (by assumption) | exact drF_y (by assumption) (by assumption) (by assumption) (by assumption) tn1e tn4e (by omega) (dr_e (by assumption) (by omega))
set_option maxHeartbeats 4000000 in
set_option maxRecDepth 100000 in
theorem c_X12_draw_m (l : Launch) (D : va_G) (cI cB cZ cJ : ClassId) (tx : List (ClassId × FieldType)) (h : Nat) (q : Nat → Nat) (im : Nat → Int32) (ms : Nat) (mk : Nat) (md : Nat) (mc : Int32) (mh : Int32) (m_across : Nat → Int32) (m_deep : Nat → Int32) (m_isGone : Nat → Int32) (m_hasMark : Nat → Int32) (m_markAcross : Nat → Int32) (m_markDeep : Nat → Int32) (n1 : Int32) (n2 : Int32) (n3 : Int32) (n4 : Int32) (hf_ms : im 2 = nI ms) (hf_mk : im 3 = nI mk) (hf_md : im 50 = nI md) (hf_mc : im 49 = mc) (hf_mh : im 5 = mh) (hms : ms ≤ 24) (hmk : mk ≤ 8) (hm3 : mk = 0 ∨ 3 ≤ ms) (hmd : md ≤ 4) (hc0 : (0 : Int32) ≤ mc) : WrI l D cI cB cZ cJ tx yX12_draw cX12_draw 9 (some .int) 3 0 0 [.ref h, .int n1, .int n2, .int n3, .int n4] [(h, .inr (12, mG q im)), (q 44, .inl (cI, 384, .inl m_across)), (q 45, .inl (cI, 384, .inl m_deep)), (q 46, .inl (cZ, 384, .inl m_isGone)), (q 51, .inl (cZ, 1536, .inl m_hasMark)), (q 52, .inl (cI, 1536, .inl m_markAcross)), (q 53, .inl (cI, 1536, .inl m_markDeep))] (fun (r : Int32) (v : (Nat → Int32) × (Int32) × (Nat → Int32) × (Nat → Int32) × (Nat → Int32)) => (SB [5] im v.1) ∧ (v.1 5 = v.2.1) ∧ (((v.2.2.2.1, v.2.2.2.2, v.2.2.1, v.2.1) : D4T) = drF m_across m_deep m_isGone mc ms mk md n1 n2 n3 n4 (m_markAcross, m_markDeep, m_hasMark, mh))) (fun v => [(h, .inr (12, mG q v.1)), (q 44, .inl (cI, 384, .inl m_across)), (q 45, .inl (cI, 384, .inl m_deep)), (q 46, .inl (cZ, 384, .inl m_isGone)), (q 51, .inl (cZ, 1536, .inl v.2.2.1)), (q 52, .inl (cI, 1536, .inl v.2.2.2.1)), (q 53, .inl (cI, 1536, .inl v.2.2.2.2))]) := by
  refine wri_of2 (by decide) (Nat.le_of_ble_eq_true rfl) ?_
  intro p e s m below meth c A ls H locs hC hK hP hD hA hS hl
  obtain ⟨hx, hb, hr, hml, hown, hts, hlocks, hin⟩ := hC
  have hown : s.vm.findClass RX12 = some m.cls := hown
  have hl : lv_has ls 9 [(0, .ref h), (1, .int n1), (2, .int n2), (3, .int n3), (4, .int n4)] := hl
  have hsb : SB [5] im im := SB.rf
  refine W_gQ (fun Q hQ => ?_)
  refine lv_aload_n hx hb dX12_draw_0 rfl (lv_at hl 0 rfl) ?_
  refine lv_iload_n hx hb dX12_draw_1 rfl (lv_at hl 1 rfl) ?_
  refine eRi (va_runV (As := [.int n1]) (rest := []) ⟨hx, hb, hml, hown, hts⟩ (c_X12_isDrawing l D cI cB cZ cJ tx h q im md n1 hf_md H.size) (zV hts k_1841 v_X12_isDrawing ⟨Nat.le_of_ble_eq_true rfl, Nat.le_of_ble_eq_true rfl⟩) (pV (px1 hK hP 0 rfl) hK hP 0 rfl rfl) rfl rfl hl.1 rfl (lv_room (Nat.le_of_ble_eq_true rfl)) dX12_draw_2 ⟨Nat.le_of_ble_eq_true rfl, Nat.le_of_ble_eq_true rfl⟩) hP hS hA (fun r_1 H locs wr_1 hP hS => ?_)
  subst wr_1
  refine lv_bi_eq (tgt := 49) hx hb dX12_draw_5 (by decide) (fun c_2 => ?_) (fun c_2 => ?_)
  · refine lv_iconst (v := (-1)) hx hb dX12_draw_49 (by decide) ?_
    rw [hQ]
    exact W.iret (v := (-1)) hx hb hr (fun tt9 ht hW => ⟨⟨((-1) : Int32), ((im : Nat → Int32), (mh : Int32), (m_hasMark : Nat → Int32), (m_markAcross : Nat → Int32), (m_markDeep : Nat → Int32)), rfl, (lf_X12_draw_m_3 h q im ms mk md mc mh m_across m_deep m_isGone m_hasMark m_markAcross m_markDeep n1 n2 n3 n4 hf_ms hf_mk hf_md hf_mc hf_mh hms hmk hm3 hmd hc0 hsb c_2), ⟨by rw [ht]; exact hP, hD⟩⟩, hS.F ht⟩) hS.2.2 dX12_draw_50 hlocks
  · obtain ⟨tn1, tn1a, tn1e⟩ := of_within (lf_X12_draw_m_4 h q im ms mk md mc mh m_across m_deep m_isGone m_hasMark m_markAcross m_markDeep n1 n2 n3 n4 hf_ms hf_mk hf_md hf_mc hf_mh hms hmk hm3 hmd hc0 hsb c_2) c_2
    subst tn1e
    refine lv_iload_n hx hb dX12_draw_8 rfl (lv_at hl 2 rfl) ?_
    refine lv_i2l (v := n2.toInt64) hx hb dX12_draw_9 rfl ?_
    refine lv_ldc2 (v := (-2000)) hx hb hown (hts _ k_1855) dX12_draw_10 ?_
    refine lv_ldc2 (v := 2000) hx hb hown (hts _ k_1856) dX12_draw_13 ?_
    refine eRi (va_runS (As := [.long n2.toInt64, .long (-2000), .long 2000]) (rest := []) ⟨hx, hb, hml, hown, hts⟩ (c_X12_isIn l D cI cB cZ cJ tx n2.toInt64 (-2000) 2000 H.size) (zS hts k_1602 v_X12_isIn ⟨Nat.le_of_ble_eq_true rfl, Nat.le_of_ble_eq_true rfl⟩) (px0 hK) rfl rfl hl.1 rfl (lv_room (Nat.le_of_ble_eq_true rfl)) dX12_draw_16 ⟨Nat.le_of_ble_eq_true rfl, Nat.le_of_ble_eq_true rfl⟩) hP hS hA (fun r_5 H locs wr_5 hP hS => ?_)
    have wr_5 : r_5 = bi (((-2000) : Int32) ≤ n2 ∧ n2 ≤ 2000) := isIn32 (lo := (-2000)) (hi := 2000) (by decide) (by decide) wr_5
    subst wr_5
    refine lv_bi_eq (tgt := 49) hx hb dX12_draw_19 (by decide) (fun c_6 => ?_) (fun c_6 => ?_)
    · refine lv_iconst (v := (-1)) hx hb dX12_draw_49 (by decide) ?_
      rw [hQ]
      exact W.iret (v := (-1)) hx hb hr (fun tt9 ht hW => ⟨⟨((-1) : Int32), ((im : Nat → Int32), (mh : Int32), (m_hasMark : Nat → Int32), (m_markAcross : Nat → Int32), (m_markDeep : Nat → Int32)), rfl, (lf_X12_draw_m_7 h q im ms mk md mc mh m_across m_deep m_isGone m_hasMark m_markAcross m_markDeep (nI tn1) n2 n3 n4 hf_ms hf_mk hf_md hf_mc hf_mh hms hmk hm3 hmd hc0 hsb c_2 tn1 tn1a rfl c_6), ⟨by rw [ht]; exact hP, hD⟩⟩, hS.F ht⟩) hS.2.2 dX12_draw_50 hlocks
    · refine lv_iload_n hx hb dX12_draw_22 rfl (lv_at hl 3 rfl) ?_
      refine lv_i2l (v := n3.toInt64) hx hb dX12_draw_23 rfl ?_
      refine lv_ldc2 (v := (-2000)) hx hb hown (hts _ k_1855) dX12_draw_24 ?_
      refine lv_ldc2 (v := 2000) hx hb hown (hts _ k_1856) dX12_draw_27 ?_
      refine eRi (va_runS (As := [.long n3.toInt64, .long (-2000), .long 2000]) (rest := []) ⟨hx, hb, hml, hown, hts⟩ (c_X12_isIn l D cI cB cZ cJ tx n3.toInt64 (-2000) 2000 H.size) (zS hts k_1602 v_X12_isIn ⟨Nat.le_of_ble_eq_true rfl, Nat.le_of_ble_eq_true rfl⟩) (px0 hK) rfl rfl hl.1 rfl (lv_room (Nat.le_of_ble_eq_true rfl)) dX12_draw_30 ⟨Nat.le_of_ble_eq_true rfl, Nat.le_of_ble_eq_true rfl⟩) hP hS hA (fun r_8 H locs wr_8 hP hS => ?_)
      have wr_8 : r_8 = bi (((-2000) : Int32) ≤ n3 ∧ n3 ≤ 2000) := isIn32 (lo := (-2000)) (hi := 2000) (by decide) (by decide) wr_8
      subst wr_8
      refine lv_bi_eq (tgt := 49) hx hb dX12_draw_33 (by decide) (fun c_9 => ?_) (fun c_9 => ?_)
      · refine lv_iconst (v := (-1)) hx hb dX12_draw_49 (by decide) ?_
        rw [hQ]
        exact W.iret (v := (-1)) hx hb hr (fun tt9 ht hW => ⟨⟨((-1) : Int32), ((im : Nat → Int32), (mh : Int32), (m_hasMark : Nat → Int32), (m_markAcross : Nat → Int32), (m_markDeep : Nat → Int32)), rfl, (lf_X12_draw_m_10 h q im ms mk md mc mh m_across m_deep m_isGone m_hasMark m_markAcross m_markDeep (nI tn1) n2 n3 n4 hf_ms hf_mk hf_md hf_mc hf_mh hms hmk hm3 hmd hc0 hsb c_2 tn1 tn1a rfl c_6 c_9), ⟨by rw [ht]; exact hP, hD⟩⟩, hS.F ht⟩) hS.2.2 dX12_draw_50 hlocks
      · refine lv_iload hx hb dX12_draw_36 (lv_at hl 4 rfl) ?_
        refine lv_i2l (v := n4.toInt64) hx hb dX12_draw_38 rfl ?_
        refine lv_lconst (v := 0) hx hb dX12_draw_39 (by decide) ?_
        refine lv_ldc2 (v := 1000) hx hb hown (hts _ k_1601) dX12_draw_40 ?_
        refine eRi (va_runS (As := [.long n4.toInt64, .long 0, .long 1000]) (rest := []) ⟨hx, hb, hml, hown, hts⟩ (c_X12_isIn l D cI cB cZ cJ tx n4.toInt64 0 1000 H.size) (zS hts k_1602 v_X12_isIn ⟨Nat.le_of_ble_eq_true rfl, Nat.le_of_ble_eq_true rfl⟩) (px0 hK) rfl rfl hl.1 rfl (lv_room (Nat.le_of_ble_eq_true rfl)) dX12_draw_43 ⟨Nat.le_of_ble_eq_true rfl, Nat.le_of_ble_eq_true rfl⟩) hP hS hA (fun r_11 H locs wr_11 hP hS => ?_)
        have wr_11 : r_11 = bi ((0 : Int32) ≤ n4 ∧ n4 ≤ 1000) := isIn32 (lo := 0) (hi := 1000) (by decide) (by decide) wr_11
        subst wr_11
        refine lv_bi_ne (tgt := 51) hx hb dX12_draw_46 (by decide) (fun c_12 => ?_) (fun c_12 => ?_)
        · obtain ⟨tn4, tn4a, tn4b, tn4e⟩ := of_rng 0 1000 rfl rfl c_12
          subst tn4e
          refine lv_iconst (v := 0) hx hb dX12_draw_51 (by decide) ?_
          refine lv_istore (lv' := [(5, .int 0), (0, .ref h), (1, .int (nI tn1)), (2, .int n2), (3, .int n3), (4, .int (nI tn4))]) hx hb dX12_draw_52 hl (by decide) rfl (fun ls hl => ?_)
          have lp54 : ∀ (k54 : Nat) (j1 : Nat) (m_hasMark_j1 : Nat → Int32) (m_markAcross_j1 : Nat → Int32) (m_markDeep_j1 : Nat → Int32) (im_54 : Nat → Int32) (mh_j1 : Int32) (H : Heap) (locs : List Loc) (ls : Array Slot), j1 ≤ ms → ms < j1 + k54 → (SB [5] im im_54) → (im_54 2 = nI ms) → (im_54 3 = nI mk) → (im_54 5 = mh_j1) → (im_54 49 = mc) → (im_54 50 = nI md) → (((m_markAcross_j1, m_markDeep_j1, m_hasMark_j1, mh_j1) : D4T) = dr1 m_across m_deep m_isGone mc tn1 n2 n3 (nI tn4) mk (m_markAcross, m_markDeep, m_hasMark, mh) j1) → va_P D vwCl [(h, .inr (12, mG q im_54)), (q 44, .inl (cI, 384, .inl m_across)), (q 45, .inl (cI, 384, .inl m_deep)), (q 46, .inl (cZ, 384, .inl m_isGone)), (q 51, .inl (cZ, 1536, .inl m_hasMark_j1)), (q 52, .inl (cI, 1536, .inl m_markAcross_j1)), (q 53, .inl (cI, 1536, .inl m_markDeep_j1))] H → va_D A [(h, .inr (12, mG q im_54)), (q 44, .inl (cI, 384, .inl m_across)), (q 45, .inl (cI, 384, .inl m_deep)), (q 46, .inl (cZ, 384, .inl m_isGone)), (q 51, .inl (cZ, 1536, .inl m_hasMark_j1)), (q 52, .inl (cI, 1536, .inl m_markAcross_j1)), (q 53, .inl (cI, 1536, .inl m_markDeep_j1))] → va_S A s.heap H locs → lv_has ls 9 [(5, .int (nI j1)), (0, .ref h), (1, .int (nI tn1)), (2, .int n2), (3, .int n3), (4, .int (nI tn4))] → W p l e (rmX 3 0 0) s m ([.ref h, .int (nI tn1), .int n2, .int n3, .int (nI tn4)] : List Value).toArray below meth c H locs 0 0 Q (F0 m 54 ls []) := by
            intro k54
            induction k54 with
            | zero =>
              intro j1 m_hasMark_j1 m_markAcross_j1 m_markDeep_j1 im_54 mh_j1 H locs ls hj54 hk54 hsb hm54_2 hm54_3 hm54_5 hm54_49 hm54_50 hrj1 hP hD hS hl
              exact absurd hk54 (by omega)
            | succ k54 ih54 =>
              intro j1 m_hasMark_j1 m_markAcross_j1 m_markDeep_j1 im_54 mh_j1 H locs ls hj54 hk54 hsb hm54_2 hm54_3 hm54_5 hm54_49 hm54_50 hrj1 hP hD hS hl
              refine lv_iload hx hb dX12_draw_54 (lv_at hl 0 rfl) ?_
              refine lv_aload_n hx hb dX12_draw_56 rfl (lv_at hl 1 rfl) ?_
              refine va_get (D := D) (ci := 12) (v := .int (im_54 2)) (C := RX12) (T := TX12) (N := 81) hx hb hts inT_X12 hown hK.1 hP 0 rfl rfl 2 (by decide) (hts _ k_1355) (fun _ h9 => h9) rfl dX12_draw_57 ?_
              refine lv_topv (y := nI ms) hm54_2 ?_
              refine lv_icmp_ge (tgt := 178) hx hb dX12_draw_60 (by decide) (fun c_13 => ?_) (fun c_13 => ?_)
              · have n_14 : ms ≤ j1 := (lf_X12_draw_m_15 h q im ms mk md mc mh m_across m_deep m_isGone m_hasMark m_markAcross m_markDeep (nI tn1) n2 n3 (nI tn4) hf_ms hf_mk hf_md hf_mc hf_mh hms hmk hm3 hmd hc0 c_2 tn1 tn1a rfl c_6 c_9 c_12 tn4 tn4a tn4b rfl j1 m_hasMark_j1 m_markAcross_j1 m_markDeep_j1 im_54 mh_j1 k54 hj54 hk54 hsb hm54_2 hm54_3 hm54_5 hm54_49 hm54_50 hrj1 c_13)
                refine lv_aload_n hx hb dX12_draw_178 rfl (lv_at hl 1 rfl) ?_
                refine lv_iload_n hx hb dX12_draw_179 rfl (lv_at hl 2 rfl) ?_
                refine eRi (va_runV (As := [.int (nI tn1)]) (rest := []) ⟨hx, hb, hml, hown, hts⟩ (c_X12_marksOf l D cI cB cZ cJ tx h q im_54 m_hasMark_j1 tn1 (lf_X12_draw_m_16 h q im ms mk md mc mh m_across m_deep m_isGone m_hasMark m_markAcross m_markDeep (nI tn1) n2 n3 (nI tn4) hf_ms hf_mk hf_md hf_mc hf_mh hms hmk hm3 hmd hc0 c_2 tn1 tn1a rfl c_6 c_9 c_12 tn4 tn4a tn4b rfl j1 m_hasMark_j1 m_markAcross_j1 m_markDeep_j1 im_54 mh_j1 k54 hj54 hk54 hsb hm54_2 hm54_3 hm54_5 hm54_49 hm54_50 hrj1 c_13 n_14) H.size) (zV hts k_1857 v_X12_marksOf ⟨Nat.le_of_ble_eq_true rfl, Nat.le_of_ble_eq_true rfl⟩) (pV (pxS hK hP hD [0, 4] (by decide) rfl) hK hP 0 rfl rfl) rfl rfl hl.1 rfl (lv_room (Nat.le_of_ble_eq_true rfl)) dX12_draw_180 ⟨Nat.le_of_ble_eq_true rfl, Nat.le_of_ble_eq_true rfl⟩) hP hS hA (fun r_17 H locs wr_17 hP hS => ?_)
                rw [hQ]
                exact W.iret (v := r_17) hx hb hr (fun tt9 ht hW => ⟨⟨(r_17 : Int32), ((im_54 : Nat → Int32), (mh_j1 : Int32), (m_hasMark_j1 : Nat → Int32), (m_markAcross_j1 : Nat → Int32), (m_markDeep_j1 : Nat → Int32)), rfl, (lf_X12_draw_m_18 h q im ms mk md mc mh m_across m_deep m_isGone m_hasMark m_markAcross m_markDeep (nI tn1) n2 n3 (nI tn4) hf_ms hf_mk hf_md hf_mc hf_mh hms hmk hm3 hmd hc0 c_2 tn1 tn1a rfl c_6 c_9 c_12 tn4 tn4a tn4b rfl j1 m_hasMark_j1 m_markAcross_j1 m_markDeep_j1 im_54 mh_j1 k54 hj54 hk54 hsb hm54_2 hm54_3 hm54_5 hm54_49 hm54_50 hrj1 c_13 n_14 r_17), ⟨by rw [ht]; exact hP, hD⟩⟩, hS.F ht⟩) hS.2.2 dX12_draw_183 hlocks
              · have n_19 : j1 < ms := (lf_X12_draw_m_20 h q im ms mk md mc mh m_across m_deep m_isGone m_hasMark m_markAcross m_markDeep (nI tn1) n2 n3 (nI tn4) hf_ms hf_mk hf_md hf_mc hf_mh hms hmk hm3 hmd hc0 c_2 tn1 tn1a rfl c_6 c_9 c_12 tn4 tn4a tn4b rfl j1 m_hasMark_j1 m_markAcross_j1 m_markDeep_j1 im_54 mh_j1 k54 hj54 hk54 hsb hm54_2 hm54_3 hm54_5 hm54_49 hm54_50 hrj1 c_13)
                refine lv_iconst (v := 0) hx hb dX12_draw_63 (by decide) ?_
                refine lv_istore (lv' := [(6, .int 0), (5, .int (nI j1)), (0, .ref h), (1, .int (nI tn1)), (2, .int n2), (3, .int n3), (4, .int (nI tn4))]) hx hb dX12_draw_64 hl (by decide) rfl (fun ls hl => ?_)
                have lp66 : ∀ (k66 : Nat) (j2 : Nat) (m_hasMark_j2 : Nat → Int32) (m_markAcross_j2 : Nat → Int32) (m_markDeep_j2 : Nat → Int32) (im_66 : Nat → Int32) (mh_j2 : Int32) (H : Heap) (locs : List Loc) (ls : Array Slot), j2 ≤ mk → mk < j2 + k66 → (SB [5] im im_66) → (im_66 2 = nI ms) → (im_66 3 = nI mk) → (im_66 5 = mh_j2) → (im_66 49 = mc) → (im_66 50 = nI md) → (((m_markAcross_j2, m_markDeep_j2, m_hasMark_j2, mh_j2) : D4T) = dr2 m_across m_deep m_isGone mc tn1 n2 n3 (nI tn4) j1 (dr1 m_across m_deep m_isGone mc tn1 n2 n3 (nI tn4) mk (m_markAcross, m_markDeep, m_hasMark, mh) j1) j2) → va_P D vwCl [(h, .inr (12, mG q im_66)), (q 44, .inl (cI, 384, .inl m_across)), (q 45, .inl (cI, 384, .inl m_deep)), (q 46, .inl (cZ, 384, .inl m_isGone)), (q 51, .inl (cZ, 1536, .inl m_hasMark_j2)), (q 52, .inl (cI, 1536, .inl m_markAcross_j2)), (q 53, .inl (cI, 1536, .inl m_markDeep_j2))] H → va_D A [(h, .inr (12, mG q im_66)), (q 44, .inl (cI, 384, .inl m_across)), (q 45, .inl (cI, 384, .inl m_deep)), (q 46, .inl (cZ, 384, .inl m_isGone)), (q 51, .inl (cZ, 1536, .inl m_hasMark_j2)), (q 52, .inl (cI, 1536, .inl m_markAcross_j2)), (q 53, .inl (cI, 1536, .inl m_markDeep_j2))] → va_S A s.heap H locs → lv_has ls 9 [(6, .int (nI j2)), (5, .int (nI j1)), (0, .ref h), (1, .int (nI tn1)), (2, .int n2), (3, .int n3), (4, .int (nI tn4))] → W p l e (rmX 3 0 0) s m ([.ref h, .int (nI tn1), .int n2, .int n3, .int (nI tn4)] : List Value).toArray below meth c H locs 0 0 Q (F0 m 66 ls []) := by
                  intro k66
                  induction k66 with
                  | zero =>
                    intro j2 m_hasMark_j2 m_markAcross_j2 m_markDeep_j2 im_66 mh_j2 H locs ls hj66 hk66 hsb hm66_2 hm66_3 hm66_5 hm66_49 hm66_50 hrj2 hP hD hS hl
                    exact absurd hk66 (by omega)
                  | succ k66 ih66 =>
                    intro j2 m_hasMark_j2 m_markAcross_j2 m_markDeep_j2 im_66 mh_j2 H locs ls hj66 hk66 hsb hm66_2 hm66_3 hm66_5 hm66_49 hm66_50 hrj2 hP hD hS hl
                    refine lv_iload hx hb dX12_draw_66 (lv_at hl 0 rfl) ?_
                    refine lv_aload_n hx hb dX12_draw_68 rfl (lv_at hl 2 rfl) ?_
                    refine va_get (D := D) (ci := 12) (v := .int (im_66 3)) (C := RX12) (T := TX12) (N := 81) hx hb hts inT_X12 hown hK.1 hP 0 rfl rfl 3 (by decide) (hts _ k_1356) (fun _ h9 => h9) rfl dX12_draw_69 ?_
                    refine lv_topv (y := nI mk) hm66_3 ?_
                    refine lv_icmp_ge (tgt := 172) hx hb dX12_draw_72 (by decide) (fun c_21 => ?_) (fun c_21 => ?_)
                    · have n_22 : mk ≤ j2 := (lf_X12_draw_m_23 h q im ms mk md mc mh m_across m_deep m_isGone m_hasMark m_markAcross m_markDeep (nI tn1) n2 n3 (nI tn4) hf_ms hf_mk hf_md hf_mc hf_mh hms hmk hm3 hmd hc0 c_2 tn1 tn1a rfl c_6 c_9 c_12 tn4 tn4a tn4b rfl j1 m_hasMark_j1 m_markAcross_j1 m_markDeep_j1 im_54 mh_j1 k54 hj54 hk54 hm54_2 hm54_3 hm54_5 hm54_49 hm54_50 hrj1 c_13 n_19 j2 m_hasMark_j2 m_markAcross_j2 m_markDeep_j2 im_66 mh_j2 k66 hj66 hk66 hsb hm66_2 hm66_3 hm66_5 hm66_49 hm66_50 hrj2 c_21)
                      refine lv_iinc (v := nI (j1 + 1)) (lv' := [(5, .int (nI (j1 + 1))), (6, .int (nI j2)), (0, .ref h), (1, .int (nI tn1)), (2, .int n2), (3, .int n3), (4, .int (nI tn4))]) hx hb dX12_draw_172 hl (k := 1) rfl (nI_1 j1) (by decide) rfl (fun ls hl => ?_)
                      refine lv_goto (tgt := 54) hx hb dX12_draw_175 (by decide) ?_
                      exact ih54 (j1 + 1) m_hasMark_j2 m_markAcross_j2 m_markDeep_j2 im_66 mh_j2 H locs ls (by omega) (by omega) hsb hm66_2 hm66_3 hm66_5 hm66_49 hm66_50 (lf_X12_draw_m_24 h q im ms mk md mc mh m_across m_deep m_isGone m_hasMark m_markAcross m_markDeep (nI tn1) n2 n3 (nI tn4) hf_ms hf_mk hf_md hf_mc hf_mh hms hmk hm3 hmd hc0 c_2 tn1 tn1a rfl c_6 c_9 c_12 tn4 tn4a tn4b rfl j1 m_hasMark_j1 m_markAcross_j1 m_markDeep_j1 im_54 mh_j1 k54 hj54 hk54 hm54_2 hm54_3 hm54_5 hm54_49 hm54_50 hrj1 c_13 n_19 j2 m_hasMark_j2 m_markAcross_j2 m_markDeep_j2 im_66 mh_j2 k66 hj66 hk66 hsb hm66_2 hm66_3 hm66_5 hm66_49 hm66_50 hrj2 c_21 n_22) (hP.sub [0, 1, 2, 3, 4, 5, 6] rfl) (hD.sub [0, 1, 2, 3, 4, 5, 6] (by decide) rfl) hS (lv_sub hl [0, 2, 3, 4, 5, 6] rfl)
                    · have n_25 : j2 < mk := (lf_X12_draw_m_26 h q im ms mk md mc mh m_across m_deep m_isGone m_hasMark m_markAcross m_markDeep (nI tn1) n2 n3 (nI tn4) hf_ms hf_mk hf_md hf_mc hf_mh hms hmk hm3 hmd hc0 c_2 tn1 tn1a rfl c_6 c_9 c_12 tn4 tn4a tn4b rfl j1 m_hasMark_j1 m_markAcross_j1 m_markDeep_j1 im_54 mh_j1 k54 hj54 hk54 hm54_2 hm54_3 hm54_5 hm54_49 hm54_50 hrj1 c_13 n_19 j2 m_hasMark_j2 m_markAcross_j2 m_markDeep_j2 im_66 mh_j2 k66 hj66 hk66 hsb hm66_2 hm66_3 hm66_5 hm66_49 hm66_50 hrj2 c_21)
                      refine lv_iconst (v := 0) hx hb dX12_draw_75 (by decide) ?_
                      refine lv_istore (lv' := [(7, .int 0), (6, .int (nI j2)), (5, .int (nI j1)), (0, .ref h), (1, .int (nI tn1)), (2, .int n2), (3, .int n3), (4, .int (nI tn4))]) hx hb dX12_draw_76 hl (by decide) rfl (fun ls hl => ?_)
                      have lp78 : ∀ (k78 : Nat) (j3 : Nat) (m_hasMark_j3 : Nat → Int32) (m_markAcross_j3 : Nat → Int32) (m_markDeep_j3 : Nat → Int32) (im_78 : Nat → Int32) (mh_j3 : Int32) (H : Heap) (locs : List Loc) (ls : Array Slot), j3 ≤ 2 → 2 < j3 + k78 → (SB [5] im im_78) → (im_78 2 = nI ms) → (im_78 3 = nI mk) → (im_78 5 = mh_j3) → (im_78 49 = mc) → (im_78 50 = nI md) → (((m_markAcross_j3, m_markDeep_j3, m_hasMark_j3, mh_j3) : D4T) = dr3 m_across m_deep m_isGone mc tn1 n2 n3 (nI tn4) j1 j2 (dr2 m_across m_deep m_isGone mc tn1 n2 n3 (nI tn4) j1 (dr1 m_across m_deep m_isGone mc tn1 n2 n3 (nI tn4) mk (m_markAcross, m_markDeep, m_hasMark, mh) j1) j2) j3) → va_P D vwCl [(h, .inr (12, mG q im_78)), (q 44, .inl (cI, 384, .inl m_across)), (q 45, .inl (cI, 384, .inl m_deep)), (q 46, .inl (cZ, 384, .inl m_isGone)), (q 51, .inl (cZ, 1536, .inl m_hasMark_j3)), (q 52, .inl (cI, 1536, .inl m_markAcross_j3)), (q 53, .inl (cI, 1536, .inl m_markDeep_j3))] H → va_D A [(h, .inr (12, mG q im_78)), (q 44, .inl (cI, 384, .inl m_across)), (q 45, .inl (cI, 384, .inl m_deep)), (q 46, .inl (cZ, 384, .inl m_isGone)), (q 51, .inl (cZ, 1536, .inl m_hasMark_j3)), (q 52, .inl (cI, 1536, .inl m_markAcross_j3)), (q 53, .inl (cI, 1536, .inl m_markDeep_j3))] → va_S A s.heap H locs → lv_has ls 9 [(7, .int (nI j3)), (6, .int (nI j2)), (5, .int (nI j1)), (0, .ref h), (1, .int (nI tn1)), (2, .int n2), (3, .int n3), (4, .int (nI tn4))] → W p l e (rmX 3 0 0) s m ([.ref h, .int (nI tn1), .int n2, .int n3, .int (nI tn4)] : List Value).toArray below meth c H locs 0 0 Q (F0 m 78 ls []) := by
                        intro k78
                        induction k78 with
                        | zero =>
                          intro j3 m_hasMark_j3 m_markAcross_j3 m_markDeep_j3 im_78 mh_j3 H locs ls hj78 hk78 hsb hm78_2 hm78_3 hm78_5 hm78_49 hm78_50 hrj3 hP hD hS hl
                          exact absurd hk78 (by omega)
                        | succ k78 ih78 =>
                          intro j3 m_hasMark_j3 m_markAcross_j3 m_markDeep_j3 im_78 mh_j3 H locs ls hj78 hk78 hsb hm78_2 hm78_3 hm78_5 hm78_49 hm78_50 hrj3 hP hD hS hl
                          refine lv_iload hx hb dX12_draw_78 (lv_at hl 0 rfl) ?_
                          refine lv_iconst (v := 2) hx hb dX12_draw_80 (by decide) ?_
                          refine lv_icmp_ge (tgt := 166) hx hb dX12_draw_81 (by decide) (fun c_27 => ?_) (fun c_27 => ?_)
                          · have n_28 : 2 ≤ j3 := (lf_X12_draw_m_29 h q im ms mk md mc mh m_across m_deep m_isGone m_hasMark m_markAcross m_markDeep (nI tn1) n2 n3 (nI tn4) hf_ms hf_mk hf_md hf_mc hf_mh hms hmk hm3 hmd hc0 c_2 tn1 tn1a rfl c_6 c_9 c_12 tn4 tn4a tn4b rfl j1 m_hasMark_j1 m_markAcross_j1 m_markDeep_j1 im_54 mh_j1 k54 hj54 hk54 hm54_2 hm54_3 hm54_5 hm54_49 hm54_50 hrj1 c_13 n_19 j2 m_hasMark_j2 m_markAcross_j2 m_markDeep_j2 im_66 mh_j2 k66 hj66 hk66 hm66_2 hm66_3 hm66_5 hm66_49 hm66_50 hrj2 c_21 n_25 j3 m_hasMark_j3 m_markAcross_j3 m_markDeep_j3 im_78 mh_j3 k78 hj78 hk78 hsb hm78_2 hm78_3 hm78_5 hm78_49 hm78_50 hrj3 c_27)
                            refine lv_iinc (v := nI (j2 + 1)) (lv' := [(6, .int (nI (j2 + 1))), (7, .int (nI j3)), (5, .int (nI j1)), (0, .ref h), (1, .int (nI tn1)), (2, .int n2), (3, .int n3), (4, .int (nI tn4))]) hx hb dX12_draw_166 hl (k := 1) rfl (nI_1 j2) (by decide) rfl (fun ls hl => ?_)
                            refine lv_goto (tgt := 66) hx hb dX12_draw_169 (by decide) ?_
                            exact ih66 (j2 + 1) m_hasMark_j3 m_markAcross_j3 m_markDeep_j3 im_78 mh_j3 H locs ls (by omega) (by omega) hsb hm78_2 hm78_3 hm78_5 hm78_49 hm78_50 (lf_X12_draw_m_30 h q im ms mk md mc mh m_across m_deep m_isGone m_hasMark m_markAcross m_markDeep (nI tn1) n2 n3 (nI tn4) hf_ms hf_mk hf_md hf_mc hf_mh hms hmk hm3 hmd hc0 c_2 tn1 tn1a rfl c_6 c_9 c_12 tn4 tn4a tn4b rfl j1 m_hasMark_j1 m_markAcross_j1 m_markDeep_j1 im_54 mh_j1 k54 hj54 hk54 hm54_2 hm54_3 hm54_5 hm54_49 hm54_50 hrj1 c_13 n_19 j2 m_hasMark_j2 m_markAcross_j2 m_markDeep_j2 im_66 mh_j2 k66 hj66 hk66 hm66_2 hm66_3 hm66_5 hm66_49 hm66_50 hrj2 c_21 n_25 j3 m_hasMark_j3 m_markAcross_j3 m_markDeep_j3 im_78 mh_j3 k78 hj78 hk78 hsb hm78_2 hm78_3 hm78_5 hm78_49 hm78_50 hrj3 c_27 n_28) (hP.sub [0, 1, 2, 3, 4, 5, 6] rfl) (hD.sub [0, 1, 2, 3, 4, 5, 6] (by decide) rfl) hS (lv_sub hl [0, 2, 3, 4, 5, 6, 7] rfl)
                          · have n_31 : j3 < 2 := (lf_X12_draw_m_32 h q im ms mk md mc mh m_across m_deep m_isGone m_hasMark m_markAcross m_markDeep (nI tn1) n2 n3 (nI tn4) hf_ms hf_mk hf_md hf_mc hf_mh hms hmk hm3 hmd hc0 c_2 tn1 tn1a rfl c_6 c_9 c_12 tn4 tn4a tn4b rfl j1 m_hasMark_j1 m_markAcross_j1 m_markDeep_j1 im_54 mh_j1 k54 hj54 hk54 hm54_2 hm54_3 hm54_5 hm54_49 hm54_50 hrj1 c_13 n_19 j2 m_hasMark_j2 m_markAcross_j2 m_markDeep_j2 im_66 mh_j2 k66 hj66 hk66 hm66_2 hm66_3 hm66_5 hm66_49 hm66_50 hrj2 c_21 n_25 j3 m_hasMark_j3 m_markAcross_j3 m_markDeep_j3 im_78 mh_j3 k78 hj78 hk78 hsb hm78_2 hm78_3 hm78_5 hm78_49 hm78_50 hrj3 c_27)
                            refine lv_aload_n hx hb dX12_draw_84 rfl (lv_at hl 3 rfl) ?_
                            refine lv_iload hx hb dX12_draw_85 (lv_at hl 2 rfl) ?_
                            refine lv_iload hx hb dX12_draw_87 (lv_at hl 1 rfl) ?_
                            refine lv_iload hx hb dX12_draw_89 (lv_at hl 0 rfl) ?_
                            refine eRi (va_runV (As := [.int (nI j1), .int (nI j2), .int (nI j3)]) (rest := []) ⟨hx, hb, hml, hown, hts⟩ (c_X12_isSeen_t l D cI cB cZ cJ tx h q im_78 mc m_isGone j1 j2 j3 hm78_49 (lf_X12_draw_m_33 h q im ms mk md mc mh m_across m_deep m_isGone m_hasMark m_markAcross m_markDeep (nI tn1) n2 n3 (nI tn4) hf_ms hf_mk hf_md hf_mc hf_mh hms hmk hm3 hmd hc0 c_2 tn1 tn1a rfl c_6 c_9 c_12 tn4 tn4a tn4b rfl j1 m_hasMark_j1 m_markAcross_j1 m_markDeep_j1 im_54 mh_j1 k54 hj54 hk54 hm54_2 hm54_3 hm54_5 hm54_49 hm54_50 hrj1 c_13 n_19 j2 m_hasMark_j2 m_markAcross_j2 m_markDeep_j2 im_66 mh_j2 k66 hj66 hk66 hm66_2 hm66_3 hm66_5 hm66_49 hm66_50 hrj2 c_21 n_25 j3 m_hasMark_j3 m_markAcross_j3 m_markDeep_j3 im_78 mh_j3 k78 hj78 hk78 hsb hm78_2 hm78_3 hm78_5 hm78_49 hm78_50 hrj3 c_27 n_31) (lf_X12_draw_m_34 h q im ms mk md mc mh m_across m_deep m_isGone m_hasMark m_markAcross m_markDeep (nI tn1) n2 n3 (nI tn4) hf_ms hf_mk hf_md hf_mc hf_mh hms hmk hm3 hmd hc0 c_2 tn1 tn1a rfl c_6 c_9 c_12 tn4 tn4a tn4b rfl j1 m_hasMark_j1 m_markAcross_j1 m_markDeep_j1 im_54 mh_j1 k54 hj54 hk54 hm54_2 hm54_3 hm54_5 hm54_49 hm54_50 hrj1 c_13 n_19 j2 m_hasMark_j2 m_markAcross_j2 m_markDeep_j2 im_66 mh_j2 k66 hj66 hk66 hm66_2 hm66_3 hm66_5 hm66_49 hm66_50 hrj2 c_21 n_25 j3 m_hasMark_j3 m_markAcross_j3 m_markDeep_j3 im_78 mh_j3 k78 hj78 hk78 hsb hm78_2 hm78_3 hm78_5 hm78_49 hm78_50 hrj3 c_27 n_31) (lf_X12_draw_m_35 h q im ms mk md mc mh m_across m_deep m_isGone m_hasMark m_markAcross m_markDeep (nI tn1) n2 n3 (nI tn4) hf_ms hf_mk hf_md hf_mc hf_mh hms hmk hm3 hmd hc0 c_2 tn1 tn1a rfl c_6 c_9 c_12 tn4 tn4a tn4b rfl j1 m_hasMark_j1 m_markAcross_j1 m_markDeep_j1 im_54 mh_j1 k54 hj54 hk54 hm54_2 hm54_3 hm54_5 hm54_49 hm54_50 hrj1 c_13 n_19 j2 m_hasMark_j2 m_markAcross_j2 m_markDeep_j2 im_66 mh_j2 k66 hj66 hk66 hm66_2 hm66_3 hm66_5 hm66_49 hm66_50 hrj2 c_21 n_25 j3 m_hasMark_j3 m_markAcross_j3 m_markDeep_j3 im_78 mh_j3 k78 hj78 hk78 hsb hm78_2 hm78_3 hm78_5 hm78_49 hm78_50 hrj3 c_27 n_31) (lf_X12_draw_m_36 h q im ms mk md mc mh m_across m_deep m_isGone m_hasMark m_markAcross m_markDeep (nI tn1) n2 n3 (nI tn4) hf_ms hf_mk hf_md hf_mc hf_mh hms hmk hm3 hmd hc0 c_2 tn1 tn1a rfl c_6 c_9 c_12 tn4 tn4a tn4b rfl j1 m_hasMark_j1 m_markAcross_j1 m_markDeep_j1 im_54 mh_j1 k54 hj54 hk54 hm54_2 hm54_3 hm54_5 hm54_49 hm54_50 hrj1 c_13 n_19 j2 m_hasMark_j2 m_markAcross_j2 m_markDeep_j2 im_66 mh_j2 k66 hj66 hk66 hm66_2 hm66_3 hm66_5 hm66_49 hm66_50 hrj2 c_21 n_25 j3 m_hasMark_j3 m_markAcross_j3 m_markDeep_j3 im_78 mh_j3 k78 hj78 hk78 hsb hm78_2 hm78_3 hm78_5 hm78_49 hm78_50 hrj3 c_27 n_31) H.size) (zV hts k_1821 v_X12_isSeen ⟨Nat.le_of_ble_eq_true rfl, Nat.le_of_ble_eq_true rfl⟩) (pV (pxS hK hP hD [0, 3] (by decide) rfl) hK hP 0 rfl rfl) rfl rfl hl.1 rfl (lv_room (Nat.le_of_ble_eq_true rfl)) dX12_draw_91 ⟨Nat.le_of_ble_eq_true rfl, Nat.le_of_ble_eq_true rfl⟩) hP hS hA (fun r_37 H locs wr_37 hP hS => ?_)
                            subst wr_37
                            refine lv_if_ne (tgt := 100) hx hb dX12_draw_94 (by decide) (fun c_38 => ?_) (fun c_38 => ?_)
                            · refine lv_aload_n hx hb dX12_draw_100 rfl (lv_at hl 3 rfl) ?_
                              refine eWvP (va_runV (As := []) (rest := []) ⟨hx, hb, hml, hown, hts⟩ (c_X12_draws_t l D cI cB cZ cJ tx h q im_78 mh_j3 hm78_5 H.size) (zV hts k_1783 v_X12_draws ⟨Nat.le_of_ble_eq_true rfl, Nat.le_of_ble_eq_true rfl⟩) (pV (pxS hK hP hD [0] (by decide) rfl) hK hP 0 rfl rfl) rfl rfl hl.1 rfl (lv_room (Nat.le_of_ble_eq_true rfl)) dX12_draw_101 ⟨Nat.le_of_ble_eq_true rfl, Nat.le_of_ble_eq_true rfl⟩) hP hD hS hA [0] [some 0, none, none, none, none, none, none] rfl (by decide +kernel) (fun _ => rfl) (fun u_40 H locs wr_39 hP hD hS => ?_)
                              obtain ⟨im_40, mh_40⟩ := u_40
                              have hz_40_0 : SB [5] im_78 im_40 := wr_39.1
                              have hz_40_1 : im_40 5 = mh_40 := wr_39.2.1
                              have hz_40_2 : mh_40 = dwM mh_j3 := wr_39.2.2
                              have hk_40_2 : im_40 2 = nI ms := (hz_40_0 2 (by decide)).trans hm78_2
                              have hk_40_3 : im_40 3 = nI mk := (hz_40_0 3 (by decide)).trans hm78_3
                              have hk_40_49 : im_40 49 = mc := (hz_40_0 49 (by decide)).trans hm78_49
                              have hk_40_50 : im_40 50 = nI md := (hz_40_0 50 (by decide)).trans hm78_50
                              have hsb := SB.step hsb hz_40_0 (by decide)
                              have hPD := pd_mk (ws := [(h, .inr (12, mG q im_40)), (q 44, .inl (cI, 384, .inl m_across)), (q 45, .inl (cI, 384, .inl m_deep)), (q 46, .inl (cZ, 384, .inl m_isGone)), (q 51, .inl (cZ, 1536, .inl m_hasMark_j3)), (q 52, .inl (cI, 1536, .inl m_markAcross_j3)), (q 53, .inl (cI, 1536, .inl m_markDeep_j3))]) hP hD
                              have hP := hPD.1
                              have hD := hPD.2
                              refine lv_iload hx hb dX12_draw_104 (lv_at hl 2 rfl) ?_
                              refine lv_iload hx hb dX12_draw_106 (lv_at hl 1 rfl) ?_
                              refine lv_iload hx hb dX12_draw_108 (lv_at hl 0 rfl) ?_
                              refine eRi (va_runS (As := [.int (nI j1), .int (nI j2), .int (nI j3)]) (rest := []) ⟨hx, hb, hml, hown, hts⟩ (c_X12_cellOf l D cI cB cZ cJ tx j1 j2 j3 H.size) (zS hts k_1735 v_X12_cellOf ⟨Nat.le_of_ble_eq_true rfl, Nat.le_of_ble_eq_true rfl⟩) (px0 hK) rfl rfl hl.1 rfl (lv_room (Nat.le_of_ble_eq_true rfl)) dX12_draw_110 ⟨Nat.le_of_ble_eq_true rfl, Nat.le_of_ble_eq_true rfl⟩) hP hS hA (fun r_41 H locs wr_41 hP hS => ?_)
                              subst wr_41
                              refine lv_istore (lv' := [(8, .int (nI (16 * j1 + 2 * j2 + j3))), (7, .int (nI j3)), (6, .int (nI j2)), (5, .int (nI j1)), (0, .ref h), (1, .int (nI tn1)), (2, .int n2), (3, .int n3), (4, .int (nI tn4))]) hx hb dX12_draw_113 hl (by decide) rfl (fun ls hl => ?_)
                              refine lv_aload_n hx hb dX12_draw_115 rfl (lv_at hl 4 rfl) ?_
                              refine lv_iload_n hx hb dX12_draw_116 rfl (lv_at hl 5 rfl) ?_
                              refine lv_iload hx hb dX12_draw_117 (lv_at hl 0 rfl) ?_
                              refine lv_aload_n hx hb dX12_draw_119 rfl (lv_at hl 4 rfl) ?_
                              refine va_get (D := D) (ci := 12) (v := .ref (q 44)) (C := RX12) (T := TX12) (N := 81) hx hb hts inT_X12 hown hK.1 hP 0 rfl rfl 44 (by decide) (hts _ k_1397) (fun _ h9 => h9) rfl dX12_draw_120 ?_
                              refine lv_iload hx hb dX12_draw_123 (lv_at hl 0 rfl) ?_
                              refine lt_i (j := (16 * j1 + 2 * j2 + j3)) hx hb hK hP 1 rfl (lf_X12_draw_m_42 h q im ms mk md mc mh m_across m_deep m_isGone m_hasMark m_markAcross m_markDeep (nI tn1) n2 n3 (nI tn4) hf_ms hf_mk hf_md hf_mc hf_mh hms hmk hm3 hmd hc0 c_2 tn1 tn1a rfl c_6 c_9 c_12 tn4 tn4a tn4b rfl j1 m_hasMark_j1 m_markAcross_j1 m_markDeep_j1 im_54 mh_j1 k54 hj54 hk54 hm54_2 hm54_3 hm54_5 hm54_49 hm54_50 hrj1 c_13 n_19 j2 m_hasMark_j2 m_markAcross_j2 m_markDeep_j2 im_66 mh_j2 k66 hj66 hk66 hm66_2 hm66_3 hm66_5 hm66_49 hm66_50 hrj2 c_21 n_25 j3 m_hasMark_j3 m_markAcross_j3 m_markDeep_j3 im_78 mh_j3 k78 hj78 hk78 hm78_2 hm78_3 hm78_5 hm78_49 hm78_50 hrj3 c_27 n_31 c_38 im_40 mh_40 hz_40_0 hz_40_1 hz_40_2 hsb) (by decide) dX12_draw_125 ?_
                              refine lv_iload_n hx hb dX12_draw_126 rfl (lv_at hl 6 rfl) ?_
                              refine lv_iadd hx hb dX12_draw_127 ?_
                              refine lv_topi (fun x_43 ex_43 => ?_)
                              refine lv_aload_n hx hb dX12_draw_128 rfl (lv_at hl 4 rfl) ?_
                              refine va_get (D := D) (ci := 12) (v := .int (im_40 5)) (C := RX12) (T := TX12) (N := 81) hx hb hts inT_X12 hown hK.1 hP 0 rfl rfl 5 (by decide) (hts _ k_1358) (fun _ h9 => h9) rfl dX12_draw_129 ?_
                              refine lv_topv (y := mh_40) hz_40_1 ?_
                              refine lv_sipush (v := 1000) hx hb dX12_draw_132 (by decide) ?_
                              refine lv_irem hx hb dX12_draw_135 (by decide) ?_
                              refine lv_topi (fun x_44 ex_44 => ?_)
                              refine lv_iload hx hb dX12_draw_136 (lv_at hl 8 rfl) ?_
                              refine lv_icmp_ge (tgt := 146) hx hb dX12_draw_138 (by decide) (fun c_45 => ?_) (fun c_45 => ?_)
                              · refine lv_iconst (v := 0) hx hb dX12_draw_146 (by decide) ?_
                                refine lv_iadd hx hb dX12_draw_147 ?_
                                refine lv_topi (fun x_46 ex_46 => ?_)
                                refine lv_aload_n hx hb dX12_draw_148 rfl (lv_at hl 4 rfl) ?_
                                refine va_get (D := D) (ci := 12) (v := .ref (q 45)) (C := RX12) (T := TX12) (N := 81) hx hb hts inT_X12 hown hK.1 hP 0 rfl rfl 45 (by decide) (hts _ k_1398) (fun _ h9 => h9) rfl dX12_draw_149 ?_
                                refine lv_iload hx hb dX12_draw_152 (lv_at hl 0 rfl) ?_
                                refine lt_i (j := (16 * j1 + 2 * j2 + j3)) hx hb hK hP 2 rfl (lf_X12_draw_m_47 h q im ms mk md mc mh m_across m_deep m_isGone m_hasMark m_markAcross m_markDeep (nI tn1) n2 n3 (nI tn4) hf_ms hf_mk hf_md hf_mc hf_mh hms hmk hm3 hmd hc0 c_2 tn1 tn1a rfl c_6 c_9 c_12 tn4 tn4a tn4b rfl j1 m_hasMark_j1 m_markAcross_j1 m_markDeep_j1 im_54 mh_j1 k54 hj54 hk54 hm54_2 hm54_3 hm54_5 hm54_49 hm54_50 hrj1 c_13 n_19 j2 m_hasMark_j2 m_markAcross_j2 m_markDeep_j2 im_66 mh_j2 k66 hj66 hk66 hm66_2 hm66_3 hm66_5 hm66_49 hm66_50 hrj2 c_21 n_25 j3 m_hasMark_j3 m_markAcross_j3 m_markDeep_j3 im_78 mh_j3 k78 hj78 hk78 hm78_2 hm78_3 hm78_5 hm78_49 hm78_50 hrj3 c_27 n_31 c_38 im_40 mh_40 hz_40_0 hz_40_1 hz_40_2 hsb x_43 ex_43 x_44 ex_44 c_45 x_46 ex_46) (by decide) dX12_draw_154 ?_
                                refine lv_iload_n hx hb dX12_draw_155 rfl (lv_at hl 7 rfl) ?_
                                refine lv_iadd hx hb dX12_draw_156 ?_
                                refine lv_topi (fun x_48 ex_48 => ?_)
                                refine eWvP (va_runV (As := [.int (nI tn1), .int (nI (16 * j1 + 2 * j2 + j3)), .int x_46, .int x_48]) (rest := []) ⟨hx, hb, hml, hown, hts⟩ (c_X12_marks_t l D cI cB cZ cJ tx h q im_40 m_hasMark_j3 m_markAcross_j3 m_markDeep_j3 tn1 (16 * j1 + 2 * j2 + j3) x_46 x_48 (lf_X12_draw_m_49 h q im ms mk md mc mh m_across m_deep m_isGone m_hasMark m_markAcross m_markDeep (nI tn1) n2 n3 (nI tn4) hf_ms hf_mk hf_md hf_mc hf_mh hms hmk hm3 hmd hc0 c_2 tn1 tn1a rfl c_6 c_9 c_12 tn4 tn4a tn4b rfl j1 m_hasMark_j1 m_markAcross_j1 m_markDeep_j1 im_54 mh_j1 k54 hj54 hk54 hm54_2 hm54_3 hm54_5 hm54_49 hm54_50 hrj1 c_13 n_19 j2 m_hasMark_j2 m_markAcross_j2 m_markDeep_j2 im_66 mh_j2 k66 hj66 hk66 hm66_2 hm66_3 hm66_5 hm66_49 hm66_50 hrj2 c_21 n_25 j3 m_hasMark_j3 m_markAcross_j3 m_markDeep_j3 im_78 mh_j3 k78 hj78 hk78 hm78_2 hm78_3 hm78_5 hm78_49 hm78_50 hrj3 c_27 n_31 c_38 im_40 mh_40 hz_40_0 hz_40_1 hz_40_2 hsb x_43 ex_43 x_44 ex_44 c_45 x_46 ex_46 x_48 ex_48) (lf_X12_draw_m_50 h q im ms mk md mc mh m_across m_deep m_isGone m_hasMark m_markAcross m_markDeep (nI tn1) n2 n3 (nI tn4) hf_ms hf_mk hf_md hf_mc hf_mh hms hmk hm3 hmd hc0 c_2 tn1 tn1a rfl c_6 c_9 c_12 tn4 tn4a tn4b rfl j1 m_hasMark_j1 m_markAcross_j1 m_markDeep_j1 im_54 mh_j1 k54 hj54 hk54 hm54_2 hm54_3 hm54_5 hm54_49 hm54_50 hrj1 c_13 n_19 j2 m_hasMark_j2 m_markAcross_j2 m_markDeep_j2 im_66 mh_j2 k66 hj66 hk66 hm66_2 hm66_3 hm66_5 hm66_49 hm66_50 hrj2 c_21 n_25 j3 m_hasMark_j3 m_markAcross_j3 m_markDeep_j3 im_78 mh_j3 k78 hj78 hk78 hm78_2 hm78_3 hm78_5 hm78_49 hm78_50 hrj3 c_27 n_31 c_38 im_40 mh_40 hz_40_0 hz_40_1 hz_40_2 hsb x_43 ex_43 x_44 ex_44 c_45 x_46 ex_46 x_48 ex_48) H.size) (zV hts k_1847 v_X12_marks ⟨Nat.le_of_ble_eq_true rfl, Nat.le_of_ble_eq_true rfl⟩) (pV (pxS hK hP hD [0, 4, 5, 6] (by decide) rfl) hK hP 0 rfl rfl) rfl rfl hl.1 rfl (lv_room (Nat.le_of_ble_eq_true rfl)) dX12_draw_157 ⟨Nat.le_of_ble_eq_true rfl, Nat.le_of_ble_eq_true rfl⟩) hP hD hS hA [0, 4, 5, 6] [some 0, none, none, none, some 1, some 2, some 3] rfl (by decide +kernel) (fun _ => rfl) (fun u_52 H locs wr_51 hP hD hS => ?_)
                                obtain ⟨m_hasMark_52, m_markAcross_52, m_markDeep_52⟩ := u_52
                                have hz_52_0 : m_markAcross_52 = upd m_markAcross_j3 (384 * tn1 + ((16 * j1 + 2 * j2 + j3))) x_46 := wr_51.1
                                have hz_52_1 : m_markDeep_52 = upd m_markDeep_j3 (384 * tn1 + ((16 * j1 + 2 * j2 + j3))) x_48 := wr_51.2.1
                                have hz_52_2 : m_hasMark_52 = upd m_hasMark_j3 (384 * tn1 + ((16 * j1 + 2 * j2 + j3))) (vp_nar .boolean 1) := wr_51.2.2
                                have hPD := pd_mk (ws := [(h, .inr (12, mG q im_40)), (q 44, .inl (cI, 384, .inl m_across)), (q 45, .inl (cI, 384, .inl m_deep)), (q 46, .inl (cZ, 384, .inl m_isGone)), (q 51, .inl (cZ, 1536, .inl m_hasMark_52)), (q 52, .inl (cI, 1536, .inl m_markAcross_52)), (q 53, .inl (cI, 1536, .inl m_markDeep_52))]) hP hD
                                have hP := hPD.1
                                have hD := hPD.2
                                refine lv_iinc (v := nI (j3 + 1)) (lv' := [(7, .int (nI (j3 + 1))), (8, .int (nI (16 * j1 + 2 * j2 + j3))), (6, .int (nI j2)), (5, .int (nI j1)), (0, .ref h), (1, .int (nI tn1)), (2, .int n2), (3, .int n3), (4, .int (nI tn4))]) hx hb dX12_draw_160 hl (k := 1) rfl (nI_1 j3) (by decide) rfl (fun ls hl => ?_)
                                refine lv_goto (tgt := 78) hx hb dX12_draw_163 (by decide) ?_
                                exact ih78 (j3 + 1) m_hasMark_52 m_markAcross_52 m_markDeep_52 im_40 mh_40 H locs ls (by omega) (by omega) hsb hk_40_2 hk_40_3 hz_40_1 hk_40_49 hk_40_50 (lf_X12_draw_m_53 h q im ms mk md mc mh m_across m_deep m_isGone m_hasMark m_markAcross m_markDeep (nI tn1) n2 n3 (nI tn4) hf_ms hf_mk hf_md hf_mc hf_mh hms hmk hm3 hmd hc0 c_2 tn1 tn1a rfl c_6 c_9 c_12 tn4 tn4a tn4b rfl j1 m_hasMark_j1 m_markAcross_j1 m_markDeep_j1 im_54 mh_j1 k54 hj54 hk54 hm54_2 hm54_3 hm54_5 hm54_49 hm54_50 hrj1 c_13 n_19 j2 m_hasMark_j2 m_markAcross_j2 m_markDeep_j2 im_66 mh_j2 k66 hj66 hk66 hm66_2 hm66_3 hm66_5 hm66_49 hm66_50 hrj2 c_21 n_25 j3 m_hasMark_j3 m_markAcross_j3 m_markDeep_j3 im_78 mh_j3 k78 hj78 hk78 hm78_2 hm78_3 hm78_5 hm78_49 hm78_50 hrj3 c_27 n_31 c_38 im_40 mh_40 hz_40_0 hz_40_1 hz_40_2 hsb x_43 ex_43 x_44 ex_44 c_45 x_46 ex_46 x_48 ex_48 m_hasMark_52 m_markAcross_52 m_markDeep_52 hz_52_0 hz_52_1 hz_52_2) (hP.sub [0, 1, 2, 3, 4, 5, 6] rfl) (hD.sub [0, 1, 2, 3, 4, 5, 6] (by decide) rfl) hS (lv_sub hl [0, 2, 3, 4, 5, 6, 7, 8] rfl)
                              · refine lv_bipush (v := 50) hx hb dX12_draw_141 (by decide) ?_
                                refine lv_goto (tgt := 147) hx hb dX12_draw_143 (by decide) ?_
                                refine lv_iadd hx hb dX12_draw_147 ?_
                                refine lv_topi (fun x_54 ex_54 => ?_)
                                refine lv_aload_n hx hb dX12_draw_148 rfl (lv_at hl 4 rfl) ?_
                                refine va_get (D := D) (ci := 12) (v := .ref (q 45)) (C := RX12) (T := TX12) (N := 81) hx hb hts inT_X12 hown hK.1 hP 0 rfl rfl 45 (by decide) (hts _ k_1398) (fun _ h9 => h9) rfl dX12_draw_149 ?_
                                refine lv_iload hx hb dX12_draw_152 (lv_at hl 0 rfl) ?_
                                refine lt_i (j := (16 * j1 + 2 * j2 + j3)) hx hb hK hP 2 rfl (lf_X12_draw_m_55 h q im ms mk md mc mh m_across m_deep m_isGone m_hasMark m_markAcross m_markDeep (nI tn1) n2 n3 (nI tn4) hf_ms hf_mk hf_md hf_mc hf_mh hms hmk hm3 hmd hc0 c_2 tn1 tn1a rfl c_6 c_9 c_12 tn4 tn4a tn4b rfl j1 m_hasMark_j1 m_markAcross_j1 m_markDeep_j1 im_54 mh_j1 k54 hj54 hk54 hm54_2 hm54_3 hm54_5 hm54_49 hm54_50 hrj1 c_13 n_19 j2 m_hasMark_j2 m_markAcross_j2 m_markDeep_j2 im_66 mh_j2 k66 hj66 hk66 hm66_2 hm66_3 hm66_5 hm66_49 hm66_50 hrj2 c_21 n_25 j3 m_hasMark_j3 m_markAcross_j3 m_markDeep_j3 im_78 mh_j3 k78 hj78 hk78 hm78_2 hm78_3 hm78_5 hm78_49 hm78_50 hrj3 c_27 n_31 c_38 im_40 mh_40 hz_40_0 hz_40_1 hz_40_2 hsb x_43 ex_43 x_44 ex_44 c_45 x_54 ex_54) (by decide) dX12_draw_154 ?_
                                refine lv_iload_n hx hb dX12_draw_155 rfl (lv_at hl 7 rfl) ?_
                                refine lv_iadd hx hb dX12_draw_156 ?_
                                refine lv_topi (fun x_56 ex_56 => ?_)
                                refine eWvP (va_runV (As := [.int (nI tn1), .int (nI (16 * j1 + 2 * j2 + j3)), .int x_54, .int x_56]) (rest := []) ⟨hx, hb, hml, hown, hts⟩ (c_X12_marks_t l D cI cB cZ cJ tx h q im_40 m_hasMark_j3 m_markAcross_j3 m_markDeep_j3 tn1 (16 * j1 + 2 * j2 + j3) x_54 x_56 (lf_X12_draw_m_57 h q im ms mk md mc mh m_across m_deep m_isGone m_hasMark m_markAcross m_markDeep (nI tn1) n2 n3 (nI tn4) hf_ms hf_mk hf_md hf_mc hf_mh hms hmk hm3 hmd hc0 c_2 tn1 tn1a rfl c_6 c_9 c_12 tn4 tn4a tn4b rfl j1 m_hasMark_j1 m_markAcross_j1 m_markDeep_j1 im_54 mh_j1 k54 hj54 hk54 hm54_2 hm54_3 hm54_5 hm54_49 hm54_50 hrj1 c_13 n_19 j2 m_hasMark_j2 m_markAcross_j2 m_markDeep_j2 im_66 mh_j2 k66 hj66 hk66 hm66_2 hm66_3 hm66_5 hm66_49 hm66_50 hrj2 c_21 n_25 j3 m_hasMark_j3 m_markAcross_j3 m_markDeep_j3 im_78 mh_j3 k78 hj78 hk78 hm78_2 hm78_3 hm78_5 hm78_49 hm78_50 hrj3 c_27 n_31 c_38 im_40 mh_40 hz_40_0 hz_40_1 hz_40_2 hsb x_43 ex_43 x_44 ex_44 c_45 x_54 ex_54 x_56 ex_56) (lf_X12_draw_m_58 h q im ms mk md mc mh m_across m_deep m_isGone m_hasMark m_markAcross m_markDeep (nI tn1) n2 n3 (nI tn4) hf_ms hf_mk hf_md hf_mc hf_mh hms hmk hm3 hmd hc0 c_2 tn1 tn1a rfl c_6 c_9 c_12 tn4 tn4a tn4b rfl j1 m_hasMark_j1 m_markAcross_j1 m_markDeep_j1 im_54 mh_j1 k54 hj54 hk54 hm54_2 hm54_3 hm54_5 hm54_49 hm54_50 hrj1 c_13 n_19 j2 m_hasMark_j2 m_markAcross_j2 m_markDeep_j2 im_66 mh_j2 k66 hj66 hk66 hm66_2 hm66_3 hm66_5 hm66_49 hm66_50 hrj2 c_21 n_25 j3 m_hasMark_j3 m_markAcross_j3 m_markDeep_j3 im_78 mh_j3 k78 hj78 hk78 hm78_2 hm78_3 hm78_5 hm78_49 hm78_50 hrj3 c_27 n_31 c_38 im_40 mh_40 hz_40_0 hz_40_1 hz_40_2 hsb x_43 ex_43 x_44 ex_44 c_45 x_54 ex_54 x_56 ex_56) H.size) (zV hts k_1847 v_X12_marks ⟨Nat.le_of_ble_eq_true rfl, Nat.le_of_ble_eq_true rfl⟩) (pV (pxS hK hP hD [0, 4, 5, 6] (by decide) rfl) hK hP 0 rfl rfl) rfl rfl hl.1 rfl (lv_room (Nat.le_of_ble_eq_true rfl)) dX12_draw_157 ⟨Nat.le_of_ble_eq_true rfl, Nat.le_of_ble_eq_true rfl⟩) hP hD hS hA [0, 4, 5, 6] [some 0, none, none, none, some 1, some 2, some 3] rfl (by decide +kernel) (fun _ => rfl) (fun u_60 H locs wr_59 hP hD hS => ?_)
                                obtain ⟨m_hasMark_60, m_markAcross_60, m_markDeep_60⟩ := u_60
                                have hz_60_0 : m_markAcross_60 = upd m_markAcross_j3 (384 * tn1 + ((16 * j1 + 2 * j2 + j3))) x_54 := wr_59.1
                                have hz_60_1 : m_markDeep_60 = upd m_markDeep_j3 (384 * tn1 + ((16 * j1 + 2 * j2 + j3))) x_56 := wr_59.2.1
                                have hz_60_2 : m_hasMark_60 = upd m_hasMark_j3 (384 * tn1 + ((16 * j1 + 2 * j2 + j3))) (vp_nar .boolean 1) := wr_59.2.2
                                have hPD := pd_mk (ws := [(h, .inr (12, mG q im_40)), (q 44, .inl (cI, 384, .inl m_across)), (q 45, .inl (cI, 384, .inl m_deep)), (q 46, .inl (cZ, 384, .inl m_isGone)), (q 51, .inl (cZ, 1536, .inl m_hasMark_60)), (q 52, .inl (cI, 1536, .inl m_markAcross_60)), (q 53, .inl (cI, 1536, .inl m_markDeep_60))]) hP hD
                                have hP := hPD.1
                                have hD := hPD.2
                                refine lv_iinc (v := nI (j3 + 1)) (lv' := [(7, .int (nI (j3 + 1))), (8, .int (nI (16 * j1 + 2 * j2 + j3))), (6, .int (nI j2)), (5, .int (nI j1)), (0, .ref h), (1, .int (nI tn1)), (2, .int n2), (3, .int n3), (4, .int (nI tn4))]) hx hb dX12_draw_160 hl (k := 1) rfl (nI_1 j3) (by decide) rfl (fun ls hl => ?_)
                                refine lv_goto (tgt := 78) hx hb dX12_draw_163 (by decide) ?_
                                exact ih78 (j3 + 1) m_hasMark_60 m_markAcross_60 m_markDeep_60 im_40 mh_40 H locs ls (by omega) (by omega) hsb hk_40_2 hk_40_3 hz_40_1 hk_40_49 hk_40_50 (lf_X12_draw_m_61 h q im ms mk md mc mh m_across m_deep m_isGone m_hasMark m_markAcross m_markDeep (nI tn1) n2 n3 (nI tn4) hf_ms hf_mk hf_md hf_mc hf_mh hms hmk hm3 hmd hc0 c_2 tn1 tn1a rfl c_6 c_9 c_12 tn4 tn4a tn4b rfl j1 m_hasMark_j1 m_markAcross_j1 m_markDeep_j1 im_54 mh_j1 k54 hj54 hk54 hm54_2 hm54_3 hm54_5 hm54_49 hm54_50 hrj1 c_13 n_19 j2 m_hasMark_j2 m_markAcross_j2 m_markDeep_j2 im_66 mh_j2 k66 hj66 hk66 hm66_2 hm66_3 hm66_5 hm66_49 hm66_50 hrj2 c_21 n_25 j3 m_hasMark_j3 m_markAcross_j3 m_markDeep_j3 im_78 mh_j3 k78 hj78 hk78 hm78_2 hm78_3 hm78_5 hm78_49 hm78_50 hrj3 c_27 n_31 c_38 im_40 mh_40 hz_40_0 hz_40_1 hz_40_2 hsb x_43 ex_43 x_44 ex_44 c_45 x_54 ex_54 x_56 ex_56 m_hasMark_60 m_markAcross_60 m_markDeep_60 hz_60_0 hz_60_1 hz_60_2) (hP.sub [0, 1, 2, 3, 4, 5, 6] rfl) (hD.sub [0, 1, 2, 3, 4, 5, 6] (by decide) rfl) hS (lv_sub hl [0, 2, 3, 4, 5, 6, 7, 8] rfl)
                            · refine lv_goto (tgt := 160) hx hb dX12_draw_97 (by decide) ?_
                              refine lv_iinc (v := nI (j3 + 1)) (lv' := [(7, .int (nI (j3 + 1))), (6, .int (nI j2)), (5, .int (nI j1)), (0, .ref h), (1, .int (nI tn1)), (2, .int n2), (3, .int n3), (4, .int (nI tn4))]) hx hb dX12_draw_160 hl (k := 0) rfl (nI_1 j3) (by decide) rfl (fun ls hl => ?_)
                              refine lv_goto (tgt := 78) hx hb dX12_draw_163 (by decide) ?_
                              exact ih78 (j3 + 1) m_hasMark_j3 m_markAcross_j3 m_markDeep_j3 im_78 mh_j3 H locs ls (by omega) (by omega) hsb hm78_2 hm78_3 hm78_5 hm78_49 hm78_50 (lf_X12_draw_m_62 h q im ms mk md mc mh m_across m_deep m_isGone m_hasMark m_markAcross m_markDeep (nI tn1) n2 n3 (nI tn4) hf_ms hf_mk hf_md hf_mc hf_mh hms hmk hm3 hmd hc0 c_2 tn1 tn1a rfl c_6 c_9 c_12 tn4 tn4a tn4b rfl j1 m_hasMark_j1 m_markAcross_j1 m_markDeep_j1 im_54 mh_j1 k54 hj54 hk54 hm54_2 hm54_3 hm54_5 hm54_49 hm54_50 hrj1 c_13 n_19 j2 m_hasMark_j2 m_markAcross_j2 m_markDeep_j2 im_66 mh_j2 k66 hj66 hk66 hm66_2 hm66_3 hm66_5 hm66_49 hm66_50 hrj2 c_21 n_25 j3 m_hasMark_j3 m_markAcross_j3 m_markDeep_j3 im_78 mh_j3 k78 hj78 hk78 hsb hm78_2 hm78_3 hm78_5 hm78_49 hm78_50 hrj3 c_27 n_31 c_38) (hP.sub [0, 1, 2, 3, 4, 5, 6] rfl) (hD.sub [0, 1, 2, 3, 4, 5, 6] (by decide) rfl) hS (lv_sub hl [0, 1, 2, 3, 4, 5, 6, 7] rfl)
                      exact lp78 (2 + 1) 0 m_hasMark_j2 m_markAcross_j2 m_markDeep_j2 im_66 mh_j2 H locs ls (by omega) (by omega) hsb hm66_2 hm66_3 hm66_5 hm66_49 hm66_50 (lf_X12_draw_m_63 h q im ms mk md mc mh m_across m_deep m_isGone m_hasMark m_markAcross m_markDeep (nI tn1) n2 n3 (nI tn4) hf_ms hf_mk hf_md hf_mc hf_mh hms hmk hm3 hmd hc0 c_2 tn1 tn1a rfl c_6 c_9 c_12 tn4 tn4a tn4b rfl j1 m_hasMark_j1 m_markAcross_j1 m_markDeep_j1 im_54 mh_j1 k54 hj54 hk54 hm54_2 hm54_3 hm54_5 hm54_49 hm54_50 hrj1 c_13 n_19 j2 m_hasMark_j2 m_markAcross_j2 m_markDeep_j2 im_66 mh_j2 k66 hj66 hk66 hsb hm66_2 hm66_3 hm66_5 hm66_49 hm66_50 hrj2 c_21 n_25) (hP.sub [0, 1, 2, 3, 4, 5, 6] rfl) (hD.sub [0, 1, 2, 3, 4, 5, 6] (by decide) rfl) hS (lv_sub hl [0, 1, 2, 3, 4, 5, 6, 7] rfl)
                exact lp66 (mk + 1) 0 m_hasMark_j1 m_markAcross_j1 m_markDeep_j1 im_54 mh_j1 H locs ls (by omega) (by omega) hsb hm54_2 hm54_3 hm54_5 hm54_49 hm54_50 (lf_X12_draw_m_64 h q im ms mk md mc mh m_across m_deep m_isGone m_hasMark m_markAcross m_markDeep (nI tn1) n2 n3 (nI tn4) hf_ms hf_mk hf_md hf_mc hf_mh hms hmk hm3 hmd hc0 c_2 tn1 tn1a rfl c_6 c_9 c_12 tn4 tn4a tn4b rfl j1 m_hasMark_j1 m_markAcross_j1 m_markDeep_j1 im_54 mh_j1 k54 hj54 hk54 hsb hm54_2 hm54_3 hm54_5 hm54_49 hm54_50 hrj1 c_13 n_19) (hP.sub [0, 1, 2, 3, 4, 5, 6] rfl) (hD.sub [0, 1, 2, 3, 4, 5, 6] (by decide) rfl) hS (lv_sub hl [0, 1, 2, 3, 4, 5, 6] rfl)
          exact lp54 (ms + 1) 0 m_hasMark m_markAcross m_markDeep im mh H locs ls (by omega) (by omega) hsb hf_ms hf_mk hf_mh hf_mc hf_md (lf_X12_draw_m_65 h q im ms mk md mc mh m_across m_deep m_isGone m_hasMark m_markAcross m_markDeep (nI tn1) n2 n3 (nI tn4) hf_ms hf_mk hf_md hf_mc hf_mh hms hmk hm3 hmd hc0 hsb c_2 tn1 tn1a rfl c_6 c_9 c_12 tn4 tn4a tn4b rfl) (hP.sub [0, 1, 2, 3, 4, 5, 6] rfl) (hD.sub [0, 1, 2, 3, 4, 5, 6] (by decide) rfl) hS (lv_sub hl [0, 1, 2, 3, 4, 5] rfl)
        · refine lv_iconst (v := (-1)) hx hb dX12_draw_49 (by decide) ?_
          rw [hQ]
          exact W.iret (v := (-1)) hx hb hr (fun tt9 ht hW => ⟨⟨((-1) : Int32), ((im : Nat → Int32), (mh : Int32), (m_hasMark : Nat → Int32), (m_markAcross : Nat → Int32), (m_markDeep : Nat → Int32)), rfl, (lf_X12_draw_m_66 h q im ms mk md mc mh m_across m_deep m_isGone m_hasMark m_markAcross m_markDeep (nI tn1) n2 n3 n4 hf_ms hf_mk hf_md hf_mc hf_mh hms hmk hm3 hmd hc0 hsb c_2 tn1 tn1a rfl c_6 c_9 c_12), ⟨by rw [ht]; exact hP, hD⟩⟩, hS.F ht⟩) hS.2.2 dX12_draw_50 hlocks

/-! drawings: begun; a mark -/
def flF (g : Nat → Int32) (b n : Nat) : Nat → Int32 := fun i => if b ≤ i ∧ i < b + n then vp_nar .boolean 0 else g i
def bgF (s d : Nat) (y : Int32) (g : Nat → Int32) : Nat → Int32 := if DOK s y ∧ d < 4 then flF g (384 * d) 384 else g
theorem fl_z {g : Nat → Int32} {b : Nat} : g = flF g b 0 := by
  funext i
  unfold flF
  rw [if_neg (by omega)]
theorem fl_s {g f f1 : Nat → Int32} {b i j : Nat} (h : f = flF g b j) (e : f1 = upd f i (vp_nar .boolean 0)) (hi : i = b + j) : f1 = flF g b (j + 1) := by
  subst hi
  rw [e, h]
  funext k
  unfold flF
  show (if k = b + j then vp_nar .boolean 0 else if b ≤ k ∧ k < b + j then vp_nar .boolean 0 else g k) = _
  by_cases c : k = b + j
  · rw [if_pos c, if_pos (by omega)]
  · rw [if_neg c]
    by_cases c2 : b ≤ k ∧ k < b + j
    · rw [if_pos c2, if_pos (by omega)]
    · rw [if_neg c2, if_neg (by omega)]
theorem fl_e {g f : Nat → Int32} {b j n : Nat} (h : f = flF g b j) (hj : j = n) : f = flF g b n := by
  subst hj
  exact h
theorem bg_y {s d : Nat} {y : Int32} {g f : Nat → Int32} (h : DOK s y) (hd : d < 4) (e : f = flF g (384 * d) 384) : f = bgF s d y g := e.trans (if_pos ⟨h, hd⟩).symm
theorem bg_n {s d : Nat} {y : Int32} {g : Nat → Int32} (h : ¬ (DOK s y ∧ d < 4)) : g = bgF s d y g := (if_neg h).symm
abbrev begF (d : Nat) (g : Nat → Int32) : Nat → Int32 := if d < 4 then flF g (384 * d) 384 else g
theorem beg_y {d : Nat} {g f : Nat → Int32} (hd : d < 4) (e : f = flF g (384 * d) 384) : f = begF d g := e.trans (if_pos hd).symm
theorem beg_n {d : Nat} {g : Nat → Int32} (hd : ¬ d < 4) : g = begF d g := (if_neg hd).symm
theorem beg_b {s d : Nat} {y : Int32} {g f : Nat → Int32} (h : DOK s y) (e : f = begF d g) : f = bgF s d y g := by
  by_cases c : d < 4
  · exact bg_y h c (e.trans (if_pos c))
  · exact (e.trans (if_neg c)).trans (bg_n (fun w => c w.2))
theorem bg_e {s d s' d' : Nat} {y : Int32} {g f g' f' : Nat → Int32} (hs : s = s') (hd : d = d') (hg : g = g') (p : f = bgF s d y g) (q : f' = bgF s' d' y g') : f = f' := by
  subst hs hd hg
  exact p.trans q.symm
abbrev MKK (n1 n2 n3 n4 n5 n6 : Int32) (s k d : Nat) : Prop := RV n2 n3 n4 s k ∧ ((0 : Int32) ≤ n1 ∧ n1 ≤ nI d - 1) ∧ ((-6000 : Int32) ≤ n5 ∧ n5 ≤ 6000) ∧ ((-6000 : Int32) ≤ n6 ∧ n6 ≤ 6000)
def mkF (n1 n2 n3 n4 n5 n6 : Int32) (s k d : Nat) (x : T3) : T3 := if MKK n1 n2 n3 n4 n5 n6 s k d then (upd x.1 (384 * n1.toNatClampNeg + cellN n2 n3 n4) n5, upd x.2.1 (384 * n1.toNatClampNeg + cellN n2 n3 n4) n6, upd x.2.2 (384 * n1.toNatClampNeg + cellN n2 n3 n4) (vp_nar .boolean 1)) else x
section MKs
variable {n1 n2 n3 n4 n5 n6 : Int32} {n k d f s e q i i1 i2 n' k' d' : Nat} {a b g a1 b1 g1 a' b' g' a2 b2 g2 : Nat → Int32} {X : T3}
theorem mk_1 (h : ¬ RV n2 n3 n4 n k) : X = mkF n1 n2 n3 n4 n5 n6 n k d X := (if_neg (fun w => h w.1)).symm
theorem mk_2 (h : ¬ ((0 : Int32) ≤ n1 ∧ n1 ≤ nI d - 1)) : X = mkF n1 n2 n3 n4 n5 n6 n k d X := (if_neg (fun w => h w.2.1)).symm
theorem mk_3 (h : ¬ ((-6000 : Int32) ≤ n5 ∧ n5 ≤ 6000)) : X = mkF n1 n2 n3 n4 n5 n6 n k d X := (if_neg (fun w => h w.2.2.1)).symm
theorem mk_4 (h : ¬ ((-6000 : Int32) ≤ n6 ∧ n6 ≤ 6000)) : X = mkF n1 n2 n3 n4 n5 n6 n k d X := (if_neg (fun w => h w.2.2.2)).symm
theorem mk_y (e1 : n2 = nI f) (e2 : n3 = nI s) (e3 : n4 = nI e) (h1 : f < n) (h2 : s < k) (h3 : e < 2) (hn : n ≤ 24) (hk : k ≤ 8) (e0 : n1 = nI q) (hq : q < d) (hd : d ≤ 4) (c5 : (-6000 : Int32) ≤ n5 ∧ n5 ≤ 6000) (c6 : (-6000 : Int32) ≤ n6 ∧ n6 ≤ 6000) (q1 : a1 = upd a i n5) (q2 : b1 = upd b i1 n6) (q3 : g1 = upd g i2 (vp_nar .boolean 1)) (w : i = 384 * q + (16 * f + 2 * s + e)) (w1 : i1 = 384 * q + (16 * f + 2 * s + e)) (w2 : i2 = 384 * q + (16 * f + 2 * s + e)) : ((a1, b1, g1) : T3) = mkF n1 n2 n3 n4 n5 n6 n k d (a, b, g) := by
  have hr := RV_e e1 e2 e3 h1 h2 h3 hn hk
  have h0 : (0 : Int32) ≤ n1 ∧ n1 ≤ nI d - 1 := by
    rw [e0]
    exact in_nI hq (by omega)
  unfold mkF
  rw [if_pos ⟨hr, h0, c5, c6⟩, cellN_e e1 e2 e3 (by omega) (by omega) (by omega), e0, nI_clamp (by omega)]
  subst q1 q2 q3 w w1 w2
  rfl
theorem mk_e (hn : n = n') (hk : k = k') (hd : d = d') (h0 : a = a') (h1 : b = b') (h3 : g = g') (p : ((a1, b1, g1) : T3) = mkF n1 n2 n3 n4 n5 n6 n k d (a, b, g)) (q : ((a2, b2, g2) : T3) = mkF n1 n2 n3 n4 n5 n6 n' k' d' (a', b', g')) : a1 = a2 ∧ b1 = b2 ∧ g1 = g2 := by
  subst hn hk hd h0 h1 h3
  obtain ⟨e1, e2⟩ := Prod.mk.inj (p.trans q.symm)
  obtain ⟨e2, e3⟩ := Prod.mk.inj e2
  exact ⟨e1, e2, e3⟩
end MKs
/-- what bury answers -/
def buA (G : Nat → Int32) (n k : Nat) (n1 : Int32) : Int32 := if BUK n1 n then lf1 G k n else -1
theorem buA_0 {G : Nat → Int32} {n k : Nat} {n1 : Int32} (h : n = 0) : -1 = buA G n k n1 := (if_neg (fun w => w.1 h)).symm
theorem buA_1 {G : Nat → Int32} {n k : Nat} {n1 : Int32} (h : ¬ ((1 : Int32) ≤ n1 ∧ n1 ≤ 9)) : -1 = buA G n k n1 := (if_neg (fun w => h w.2)).symm
theorem buA_y {G : Nat → Int32} {n k : Nat} {n1 : Int32} (h : ¬ n = 0) (h1 : (1 : Int32) ≤ n1 ∧ n1 ≤ 9) : lf1 G k n = buA G n k n1 := (if_pos ⟨h, h1⟩).symm
theorem lf_X0_begin_m_3 (a : Nat → Nat) (dm : Nat) (d2 : Nat → Int32) (hdm : dm ≤ 4) (c_1 : nI dm < 4) : dm < 4 := by
  exact (nI_ltI (a := dm) (b := 4) (by omega) (by omega)).mp c_1
theorem lf_X0_begin_m_6 (a : Nat → Nat) (dm : Nat) (d2 : Nat → Int32) (hdm : dm ≤ 4) (c_1 : nI dm < 4) (n_2 : dm < 4) (j1 : Nat) (d2_j1 : Nat → Int32) (k12 : Nat) (hj12 : j1 ≤ 384) (hk12 : 384 < j1 + (k12 + 1)) (hfl : d2_j1 = flF d2 (384 * dm) j1) (c_4 : 384 ≤ nI j1) : 384 ≤ j1 := by
  exact (nI_leI (a := 384) (b := j1) (by omega) (by omega)).mp c_4
theorem lf_X0_begin_m_7 (a : Nat → Nat) (dm : Nat) (d2 : Nat → Int32) (hdm : dm ≤ 4) (c_1 : nI dm < 4) (n_2 : dm < 4) (j1 : Nat) (d2_j1 : Nat → Int32) (k12 : Nat) (hj12 : j1 ≤ 384) (hk12 : 384 < j1 + (k12 + 1)) (hfl : d2_j1 = flF d2 (384 * dm) j1) (c_4 : 384 ≤ nI j1) (n_5 : 384 ≤ j1) : (((dm + 1) : Nat) ≤ 4) ∧ (((dm + 1) : Nat) = gN dm) ∧ ((d2_j1 : Nat → Int32) = begF dm d2) := by
  refine ⟨?_, ?_, ?_⟩
  all_goals first | omega | assumption | exact gN_y (by omega) (by first | rfl | omega) | exact gN_n (by omega) | exact beg_n (by omega) | exact beg_y (by omega) (fl_e hfl (by omega))
theorem lf_X0_begin_m_9 (a : Nat → Nat) (dm : Nat) (d2 : Nat → Int32) (hdm : dm ≤ 4) (c_1 : nI dm < 4) (n_2 : dm < 4) (j1 : Nat) (d2_j1 : Nat → Int32) (k12 : Nat) (hj12 : j1 ≤ 384) (hk12 : 384 < j1 + (k12 + 1)) (hfl : d2_j1 = flF d2 (384 * dm) j1) (c_4 : ¬ 384 ≤ nI j1) : j1 < 384 := by
  exact Nat.lt_of_not_le (fun q => c_4 ((nI_leI (a := 384) (b := j1) (by omega) (by omega)).mpr q))
theorem lf_X0_begin_m_11 (a : Nat → Nat) (dm : Nat) (d2 : Nat → Int32) (hdm : dm ≤ 4) (c_1 : nI dm < 4) (n_2 : dm < 4) (j1 : Nat) (d2_j1 : Nat → Int32) (k12 : Nat) (hj12 : j1 ≤ 384) (hk12 : 384 < j1 + (k12 + 1)) (hfl : d2_j1 = flF d2 (384 * dm) j1) (c_4 : ¬ 384 ≤ nI j1) (n_8 : j1 < 384) : ((dm * 384) + j1) < 1536 := by
  omega
theorem lf_X0_begin_m_12 (a : Nat → Nat) (dm : Nat) (d2 : Nat → Int32) (hdm : dm ≤ 4) (c_1 : nI dm < 4) (n_2 : dm < 4) (j1 : Nat) (d2_j1 : Nat → Int32) (k12 : Nat) (hj12 : j1 ≤ 384) (hk12 : 384 < j1 + (k12 + 1)) (hfl : d2_j1 = flF d2 (384 * dm) j1) (c_4 : ¬ 384 ≤ nI j1) (n_8 : j1 < 384) (f_10 : Nat → Int32) (ef_10 : f_10 = upd d2_j1 ((dm * 384) + j1) (vp_nar .boolean 0)) : f_10 = flF d2 (384 * dm) (j1 + 1) := by
  first | exact fl_z | exact fl_s hfl (by assumption) (by omega)
theorem lf_X0_begin_m_13 (a : Nat → Nat) (dm : Nat) (d2 : Nat → Int32) (hdm : dm ≤ 4) (c_1 : nI dm < 4) (n_2 : dm < 4) : d2 = flF d2 (384 * dm) 0 := by
  first | exact fl_z | exact fl_s hfl (by assumption) (by omega)
theorem lf_X0_begin_m_15 (a : Nat → Nat) (dm : Nat) (d2 : Nat → Int32) (hdm : dm ≤ 4) (c_1 : ¬ nI dm < 4) : 4 ≤ dm := by
  exact Nat.le_of_not_lt (fun q => c_1 ((nI_ltI (a := dm) (b := 4) (by omega) (by omega)).mpr q))
theorem lf_X0_begin_m_16 (a : Nat → Nat) (dm : Nat) (d2 : Nat → Int32) (hdm : dm ≤ 4) (c_1 : ¬ nI dm < 4) (n_14 : 4 ≤ dm) : ((dm : Nat) ≤ 4) ∧ ((dm : Nat) = gN dm) ∧ ((d2 : Nat → Int32) = begF dm d2) := by
  refine ⟨?_, ?_, ?_⟩
  all_goals first | omega | assumption | exact gN_y (by omega) (by first | rfl | omega) | exact gN_n (by omega) | exact beg_n (by omega) | exact beg_y (by omega) (fl_e hfl (by omega))
set_option maxHeartbeats 4000000 in
set_option maxRecDepth 100000 in
theorem c_X0_begin_m (l : Launch) (D : va_G) (cI cB cZ cJ : ClassId) (tx : List (ClassId × FieldType)) (a : Nat → Nat) (dm : Nat) (d2 : Nat → Int32) (hdm : dm ≤ 4) : WrI l D cI cB cZ cJ tx yX0_begin cX0_begin 2 (some .int) 0 0 0 [.ref (a 6)] [(a 6, .inr (0, [.ref (a 5), .ref (a 25), .ref (a 26), .ref (a 27), .ref (a 28), .ref (a 29), .int (nI dm)])), (a 27, .inl (cZ, 1536, .inl d2))] (fun (r : Int32) (v : (Nat) × (Nat → Int32)) => (v.1 ≤ 4) ∧ (v.1 = gN dm) ∧ (v.2 = begF dm d2)) (fun v => [(a 6, .inr (0, [.ref (a 5), .ref (a 25), .ref (a 26), .ref (a 27), .ref (a 28), .ref (a 29), .int (nI (v.1))])), (a 27, .inl (cZ, 1536, .inl v.2))]) := by
  refine wri_of2 (by decide) (Nat.le_of_ble_eq_true rfl) ?_
  intro p e s m below meth c A ls H locs hC hK hP hD hA hS hl
  obtain ⟨hx, hb, hr, hml, hown, hts, hlocks, hin⟩ := hC
  have hown : s.vm.findClass RX0 = some m.cls := hown
  have hl : lv_has ls 2 [(0, .ref (a 6))] := hl
  refine W_gQ (fun Q hQ => ?_)
  refine lv_aload_n hx hb dX0_begin_0 rfl (lv_at hl 0 rfl) ?_
  refine va_get (D := D) (ci := 0) (v := .int (nI dm)) (C := RX0) (T := TX0) (N := 7) hx hb hts inT_X0 hown hK.1 hP 0 rfl rfl 6 (by decide) (hts _ k_300) (fun _ h9 => h9) rfl dX0_begin_1 ?_
  refine lv_iconst (v := 4) hx hb dX0_begin_4 (by decide) ?_
  refine lv_icmp_lt (tgt := 10) hx hb dX0_begin_5 (by decide) (fun c_1 => ?_) (fun c_1 => ?_)
  · have n_2 : dm < 4 := (lf_X0_begin_m_3 a dm d2 hdm c_1)
    refine lv_iconst (v := 0) hx hb dX0_begin_10 (by decide) ?_
    refine lv_istore_n (lv' := [(1, .int 0), (0, .ref (a 6))]) hx hb dX0_begin_11 rfl hl (by decide) rfl (fun ls hl => ?_)
    have lp12 : ∀ (k12 : Nat) (j1 : Nat) (d2_j1 : Nat → Int32) (H : Heap) (locs : List Loc) (ls : Array Slot), j1 ≤ 384 → 384 < j1 + k12 → (d2_j1 = flF d2 (384 * dm) j1) → va_P D vwCl [(a 6, .inr (0, [.ref (a 5), .ref (a 25), .ref (a 26), .ref (a 27), .ref (a 28), .ref (a 29), .int (nI dm)])), (a 27, .inl (cZ, 1536, .inl d2_j1))] H → va_D A [(a 6, .inr (0, [.ref (a 5), .ref (a 25), .ref (a 26), .ref (a 27), .ref (a 28), .ref (a 29), .int (nI dm)])), (a 27, .inl (cZ, 1536, .inl d2_j1))] → va_S A s.heap H locs → lv_has ls 2 [(1, .int (nI j1)), (0, .ref (a 6))] → W p l e (rmX 0 0 0) s m ([.ref (a 6)] : List Value).toArray below meth c H locs 0 0 Q (F0 m 12 ls []) := by
      intro k12
      induction k12 with
      | zero =>
        intro j1 d2_j1 H locs ls hj12 hk12 hfl hP hD hS hl
        exact absurd hk12 (by omega)
      | succ k12 ih12 =>
        intro j1 d2_j1 H locs ls hj12 hk12 hfl hP hD hS hl
        refine lv_iload_n hx hb dX0_begin_12 rfl (lv_at hl 0 rfl) ?_
        refine lv_sipush (v := 384) hx hb dX0_begin_13 (by decide) ?_
        refine lv_icmp_ge (tgt := 41) hx hb dX0_begin_16 (by decide) (fun c_4 => ?_) (fun c_4 => ?_)
        · have n_5 : 384 ≤ j1 := (lf_X0_begin_m_6 a dm d2 hdm c_1 n_2 j1 d2_j1 k12 hj12 hk12 hfl c_4)
          refine lv_aload_n hx hb dX0_begin_41 rfl (lv_at hl 1 rfl) ?_
          refine lv_dup hx hb dX0_begin_42 rfl ?_
          refine va_get (D := D) (ci := 0) (v := .int (nI dm)) (C := RX0) (T := TX0) (N := 7) hx hb hts inT_X0 hown hK.1 hP 0 rfl rfl 6 (by decide) (hts _ k_300) (fun _ h9 => h9) rfl dX0_begin_43 ?_
          refine lv_iconst (v := 1) hx hb dX0_begin_46 (by decide) ?_
          refine lv_iadd hx hb dX0_begin_47 ?_
          refine lv_topv (y := nI (dm + 1)) (nI_add dm 1) ?_
          refine va_put (D := D) (ci := 0) (v := .int (nI (dm + 1))) (ty := .int) (C := RX0) (T := TX0) (N := 7) hx hb hts inT_X0 tyX0 tyX0_ok nmX0 hown hK.1 hP hD hS 0 rfl rfl 6 (by decide) (hts _ k_300) (fun _ h9 => h9) rfl (by decide +kernel) rfl rfl (Nat.le_of_ble_eq_true rfl) dX0_begin_48 (fun H locs hP hD hS => ?_)
          have hPD := pd_mk (ws := [(a 6, .inr (0, [.ref (a 5), .ref (a 25), .ref (a 26), .ref (a 27), .ref (a 28), .ref (a 29), .int (nI (dm + 1))])), (a 27, .inl (cZ, 1536, .inl d2_j1))]) hP hD
          have hP := hPD.1
          have hD := hPD.2
          refine lv_aload_n hx hb dX0_begin_51 rfl (lv_at hl 1 rfl) ?_
          refine va_get (D := D) (ci := 0) (v := .int (nI (dm + 1))) (C := RX0) (T := TX0) (N := 7) hx hb hts inT_X0 hown hK.1 hP 0 rfl rfl 6 (by decide) (hts _ k_300) (fun _ h9 => h9) rfl dX0_begin_52 ?_
          refine lv_iconst (v := 1) hx hb dX0_begin_55 (by decide) ?_
          refine lv_isub hx hb dX0_begin_56 ?_
          rw [hQ]
          exact W.iret (v := nI (dm + 1) - 1) hx hb hr (fun tt9 ht hW => ⟨⟨(nI (dm + 1) - 1 : Int32), (((dm + 1) : Nat), (d2_j1 : Nat → Int32)), rfl, (lf_X0_begin_m_7 a dm d2 hdm c_1 n_2 j1 d2_j1 k12 hj12 hk12 hfl c_4 n_5), ⟨by rw [ht]; exact hP, hD⟩⟩, hS.F ht⟩) hS.2.2 dX0_begin_57 hlocks
        · have n_8 : j1 < 384 := (lf_X0_begin_m_9 a dm d2 hdm c_1 n_2 j1 d2_j1 k12 hj12 hk12 hfl c_4)
          refine lv_aload_n hx hb dX0_begin_19 rfl (lv_at hl 1 rfl) ?_
          refine va_get (D := D) (ci := 0) (v := .ref (a 27)) (C := RX0) (T := TX0) (N := 7) hx hb hts inT_X0 hown hK.1 hP 0 rfl rfl 3 (by decide) (hts _ k_297) (fun _ h9 => h9) rfl dX0_begin_20 ?_
          refine lv_aload_n hx hb dX0_begin_23 rfl (lv_at hl 1 rfl) ?_
          refine va_get (D := D) (ci := 0) (v := .int (nI dm)) (C := RX0) (T := TX0) (N := 7) hx hb hts inT_X0 hown hK.1 hP 0 rfl rfl 6 (by decide) (hts _ k_300) (fun _ h9 => h9) rfl dX0_begin_24 ?_
          refine lv_sipush (v := 384) hx hb dX0_begin_27 (by decide) ?_
          refine lv_imul hx hb dX0_begin_30 ?_
          refine lv_topv (y := nI (dm * 384)) (pk_mul dm 384) ?_
          refine lv_iload_n hx hb dX0_begin_31 rfl (lv_at hl 0 rfl) ?_
          refine lv_iadd hx hb dX0_begin_32 ?_
          refine lv_topv (y := nI ((dm * 384) + j1)) (nI_add (dm * 384) j1) ?_
          refine lv_iconst (v := 0) hx hb dX0_begin_33 (by decide) ?_
          refine su_z (j := ((dm * 384) + j1)) hx hb hK hP hD hS 1 rfl (lf_X0_begin_m_11 a dm d2 hdm c_1 n_2 j1 d2_j1 k12 hj12 hk12 hfl c_4 n_8) (by first | decide | assumption) dX0_begin_34 (fun f_10 H locs ef_10 hP hD hS => ?_)
          have hPD := pd_mk (ws := [(a 6, .inr (0, [.ref (a 5), .ref (a 25), .ref (a 26), .ref (a 27), .ref (a 28), .ref (a 29), .int (nI dm)])), (a 27, .inl (cZ, 1536, .inl f_10))]) hP hD
          have hP := hPD.1
          have hD := hPD.2
          refine lv_iinc (v := nI (j1 + 1)) (lv' := [(1, .int (nI (j1 + 1))), (0, .ref (a 6))]) hx hb dX0_begin_35 hl (k := 0) rfl (nI_1 j1) (by decide) rfl (fun ls hl => ?_)
          refine lv_goto (tgt := 12) hx hb dX0_begin_38 (by decide) ?_
          exact ih12 (j1 + 1) f_10 H locs ls (by omega) (by omega) (lf_X0_begin_m_12 a dm d2 hdm c_1 n_2 j1 d2_j1 k12 hj12 hk12 hfl c_4 n_8 f_10 ef_10) (hP.sub [0, 1] rfl) (hD.sub [0, 1] (by decide) rfl) hS (lv_sub hl [0, 1] rfl)
    exact lp12 (384 + 1) 0 d2 H locs ls (by omega) (by omega) (lf_X0_begin_m_13 a dm d2 hdm c_1 n_2) (hP.sub [0, 1] rfl) (hD.sub [0, 1] (by decide) rfl) hS (lv_sub hl [0, 1] rfl)
  · have n_14 : 4 ≤ dm := (lf_X0_begin_m_15 a dm d2 hdm c_1)
    refine lv_iconst (v := (-1)) hx hb dX0_begin_8 (by decide) ?_
    rw [hQ]
    exact W.iret (v := (-1)) hx hb hr (fun tt9 ht hW => ⟨⟨((-1) : Int32), ((dm : Nat), (d2 : Nat → Int32)), rfl, (lf_X0_begin_m_16 a dm d2 hdm c_1 n_14), ⟨by rw [ht]; exact hP, hD⟩⟩, hS.F ht⟩) hS.2.2 dX0_begin_9 hlocks

theorem lf_X11_drawing_m_1 (a : Nat → Nat) (ap : Int32) (sn : Nat) (sk : Nat) (scu : Int32) (sch : Int32) (dm : Nat) (d2 : Nat → Int32) (n1 : Int32) (hsn : sn ≤ 24) (hsk : sk ≤ 8) (hdm : dm ≤ 4) : sn ≤ 24 := by
  first | assumption | omega | decide
theorem lf_X11_drawing_m_2 (a : Nat → Nat) (ap : Int32) (sn : Nat) (sk : Nat) (scu : Int32) (sch : Int32) (dm : Nat) (d2 : Nat → Int32) (n1 : Int32) (hsn : sn ≤ 24) (hsk : sk ≤ 8) (hdm : dm ≤ 4) : sk ≤ 8 := by
  first | assumption | omega | decide
theorem lf_X11_drawing_m_4 (a : Nat → Nat) (ap : Int32) (sn : Nat) (sk : Nat) (scu : Int32) (sch : Int32) (dm : Nat) (d2 : Nat → Int32) (n1 : Int32) (hsn : sn ≤ 24) (hsk : sk ≤ 8) (hdm : dm ≤ 4) (hst3 : sn = 0) : ((dm : Nat) ≤ 4) ∧ ((dm : Nat) = dN sn dm n1) ∧ ((d2 : Nat → Int32) = bgF sn dm n1 d2) := by
  refine ⟨?_, ?_, ?_⟩
  all_goals first | omega | assumption | exact dN_y ⟨by omega, by assumption⟩ (by assumption) | exact dN_0 (by omega) | exact dN_1 (by assumption) | exact bg_n (fun w => absurd w.1.1 (by omega)) | exact bg_n (fun w => absurd w.1.2 (by assumption)) | exact beg_b ⟨by omega, by assumption⟩ (by assumption)
theorem lf_X11_drawing_m_7 (a : Nat → Nat) (ap : Int32) (sn : Nat) (sk : Nat) (scu : Int32) (sch : Int32) (dm : Nat) (d2 : Nat → Int32) (n1 : Int32) (hsn : sn ≤ 24) (hsk : sk ≤ 8) (hdm : dm ≤ 4) (hst3 : 0 < sn) (c_6 : (0 : Int32) ≤ n1 ∧ n1 ≤ 2100) (tn1 : Nat) (tn1a : 0 ≤ tn1) (tn1b : tn1 ≤ 2100) (tn1e : n1 = nI tn1) : dm ≤ 4 := by
  first | assumption | omega | decide
theorem lf_X11_drawing_m_10 (a : Nat → Nat) (ap : Int32) (sn : Nat) (sk : Nat) (scu : Int32) (sch : Int32) (dm : Nat) (d2 : Nat → Int32) (n1 : Int32) (hsn : sn ≤ 24) (hsk : sk ≤ 8) (hdm : dm ≤ 4) (hst3 : 0 < sn) (c_6 : (0 : Int32) ≤ n1 ∧ n1 ≤ 2100) (tn1 : Nat) (tn1a : 0 ≤ tn1) (tn1b : tn1 ≤ 2100) (tn1e : n1 = nI tn1) (dm_9 : Nat) (d2_9 : Nat → Int32) (hz_9_0 : dm_9 ≤ 4) (hz_9_1 : dm_9 = gN dm) (hz_9_2 : d2_9 = begF dm d2) (r_8 : Int32) : ((dm_9 : Nat) ≤ 4) ∧ ((dm_9 : Nat) = dN sn dm n1) ∧ ((d2_9 : Nat → Int32) = bgF sn dm n1 d2) := by
  refine ⟨?_, ?_, ?_⟩
  all_goals first | omega | assumption | exact dN_y ⟨by omega, by assumption⟩ (by assumption) | exact dN_0 (by omega) | exact dN_1 (by assumption) | exact bg_n (fun w => absurd w.1.1 (by omega)) | exact bg_n (fun w => absurd w.1.2 (by assumption)) | exact beg_b ⟨by omega, by assumption⟩ (by assumption)
theorem lf_X11_drawing_m_11 (a : Nat → Nat) (ap : Int32) (sn : Nat) (sk : Nat) (scu : Int32) (sch : Int32) (dm : Nat) (d2 : Nat → Int32) (n1 : Int32) (hsn : sn ≤ 24) (hsk : sk ≤ 8) (hdm : dm ≤ 4) (hst3 : 0 < sn) (c_6 : ¬ ((0 : Int32) ≤ n1 ∧ n1 ≤ 2100)) : ((dm : Nat) ≤ 4) ∧ ((dm : Nat) = dN sn dm n1) ∧ ((d2 : Nat → Int32) = bgF sn dm n1 d2) := by
  refine ⟨?_, ?_, ?_⟩
  all_goals first | omega | assumption | exact dN_y ⟨by omega, by assumption⟩ (by assumption) | exact dN_0 (by omega) | exact dN_1 (by assumption) | exact bg_n (fun w => absurd w.1.1 (by omega)) | exact bg_n (fun w => absurd w.1.2 (by assumption)) | exact beg_b ⟨by omega, by assumption⟩ (by assumption)
set_option maxHeartbeats 4000000 in
set_option maxRecDepth 100000 in
theorem c_X11_drawing_m (l : Launch) (D : va_G) (cI cB cZ cJ : ClassId) (tx : List (ClassId × FieldType)) (a : Nat → Nat) (ap : Int32) (sn : Nat) (sk : Nat) (scu : Int32) (sch : Int32) (dm : Nat) (d2 : Nat → Int32) (n1 : Int32) (hsn : sn ≤ 24) (hsk : sk ≤ 8) (hdm : dm ≤ 4) : WrI l D cI cB cZ cJ tx yX11_drawing cX11_drawing 2 (some .int) 2 0 0 [.ref (a 0), .int n1] [(a 0, .inr (11, [.ref (a 1), .ref (a 2), .ref (a 3), .ref (a 4), .ref (a 5), .ref (a 6), .ref (a 7), .ref (a 8), .ref (a 9), .ref (a 10), .ref (a 11), .ref (a 12), .int ap])), (a 5, .inr (4, [.ref (a 18), .ref (a 19), .ref (a 20), .ref (a 21), .ref (a 22), .ref (a 23), .ref (a 24), .int (nI sn), .int (nI sk), .int scu, .int sch])), (a 6, .inr (0, [.ref (a 5), .ref (a 25), .ref (a 26), .ref (a 27), .ref (a 28), .ref (a 29), .int (nI dm)])), (a 27, .inl (cZ, 1536, .inl d2))] (fun (r : Int32) (v : (Nat) × (Nat → Int32)) => (v.1 ≤ 4) ∧ (v.1 = dN sn dm n1) ∧ (v.2 = bgF sn dm n1 d2)) (fun v => [(a 0, .inr (11, [.ref (a 1), .ref (a 2), .ref (a 3), .ref (a 4), .ref (a 5), .ref (a 6), .ref (a 7), .ref (a 8), .ref (a 9), .ref (a 10), .ref (a 11), .ref (a 12), .int ap])), (a 5, .inr (4, [.ref (a 18), .ref (a 19), .ref (a 20), .ref (a 21), .ref (a 22), .ref (a 23), .ref (a 24), .int (nI sn), .int (nI sk), .int scu, .int sch])), (a 6, .inr (0, [.ref (a 5), .ref (a 25), .ref (a 26), .ref (a 27), .ref (a 28), .ref (a 29), .int (nI (v.1))])), (a 27, .inl (cZ, 1536, .inl v.2))]) := by
  refine wri_of2 (by decide) (Nat.le_of_ble_eq_true rfl) ?_
  intro p e s m below meth c A ls H locs hC hK hP hD hA hS hl
  obtain ⟨hx, hb, hr, hml, hown, hts, hlocks, hin⟩ := hC
  have hown : s.vm.findClass RX11 = some m.cls := hown
  have hl : lv_has ls 2 [(0, .ref (a 0)), (1, .int n1)] := hl
  refine W_gQ (fun Q hQ => ?_)
  refine lv_aload_n hx hb dX11_drawing_0 rfl (lv_at hl 0 rfl) ?_
  refine va_get (D := D) (ci := 11) (v := .ref (a 5)) (C := RX11) (T := TX11) (N := 13) hx hb hts inT_X11 hown hK.1 hP 0 rfl rfl 4 (by decide) (hts _ k_487) (fun _ h9 => h9) rfl dX11_drawing_1 ?_
  refine eRi (va_runV (As := []) (rest := []) ⟨hx, hb, hml, hown, hts⟩ (c_X4_stands_f l D cI cB cZ cJ tx a sn sk scu sch (lf_X11_drawing_m_1 a ap sn sk scu sch dm d2 n1 hsn hsk hdm) (lf_X11_drawing_m_2 a ap sn sk scu sch dm d2 n1 hsn hsk hdm) H.size) (zV hts k_824 v_X4_stands ⟨Nat.le_of_ble_eq_true rfl, Nat.le_of_ble_eq_true rfl⟩) (pV (px1 hK hP 1 rfl) hK hP 1 rfl rfl) rfl rfl hl.1 rfl (lv_room (Nat.le_of_ble_eq_true rfl)) dX11_drawing_4 ⟨Nat.le_of_ble_eq_true rfl, Nat.le_of_ble_eq_true rfl⟩) hP hS hA (fun r_3 H locs wr_3 hP hS => ?_)
  rcases wr_3 with ⟨rfl, hst3⟩ | ⟨rfl, hst3⟩
  · refine lv_if_eq (tgt := 21) hx hb dX11_drawing_7 (by decide) (fun _ => ?_) (fun c => absurd c (by decide))
    refine lv_iconst (v := (-1)) hx hb dX11_drawing_21 (by decide) ?_
    rw [hQ]
    exact W.iret (v := (-1)) hx hb hr (fun tt9 ht hW => ⟨⟨((-1) : Int32), ((dm : Nat), (d2 : Nat → Int32)), rfl, (lf_X11_drawing_m_4 a ap sn sk scu sch dm d2 n1 hsn hsk hdm hst3), ⟨by rw [ht]; exact hP, hD⟩⟩, hS.F ht⟩) hS.2.2 dX11_drawing_22 hlocks
  · refine lv_if_eq (tgt := 21) hx hb dX11_drawing_7 (by decide) (fun c => absurd c (by decide)) (fun _ => ?_)
    refine lv_iload_n hx hb dX11_drawing_10 rfl (lv_at hl 1 rfl) ?_
    refine lv_iconst (v := 0) hx hb dX11_drawing_11 (by decide) ?_
    refine lv_sipush (v := 2100) hx hb dX11_drawing_12 (by decide) ?_
    refine eRi (va_runS (As := [.int n1, .int 0, .int 2100]) (rest := []) ⟨hx, hb, hml, hown, hts⟩ (c_X11_within l D cI cB cZ cJ tx n1 0 2100 H.size) (zS hts k_527 v_X11_within ⟨Nat.le_of_ble_eq_true rfl, Nat.le_of_ble_eq_true rfl⟩) (px0 hK) rfl rfl hl.1 rfl (lv_room (Nat.le_of_ble_eq_true rfl)) dX11_drawing_15 ⟨Nat.le_of_ble_eq_true rfl, Nat.le_of_ble_eq_true rfl⟩) hP hS hA (fun r_5 H locs wr_5 hP hS => ?_)
    subst wr_5
    refine lv_bi_ne (tgt := 23) hx hb dX11_drawing_18 (by decide) (fun c_6 => ?_) (fun c_6 => ?_)
    · obtain ⟨tn1, tn1a, tn1b, tn1e⟩ := of_rng 0 2100 rfl rfl c_6
      subst tn1e
      refine lv_aload_n hx hb dX11_drawing_23 rfl (lv_at hl 0 rfl) ?_
      refine va_get (D := D) (ci := 11) (v := .ref (a 6)) (C := RX11) (T := TX11) (N := 13) hx hb hts inT_X11 hown hK.1 hP 0 rfl rfl 5 (by decide) (hts _ k_488) (fun _ h9 => h9) rfl dX11_drawing_24 ?_
      refine eWiP (va_runV (As := []) (rest := []) ⟨hx, hb, hml, hown, hts⟩ (c_X0_begin_m l D cI cB cZ cJ tx a dm d2 (lf_X11_drawing_m_7 a ap sn sk scu sch dm d2 (nI tn1) hsn hsk hdm hst3 c_6 tn1 tn1a tn1b rfl) H.size) (zV hts k_891 v_X0_begin ⟨Nat.le_of_ble_eq_true rfl, Nat.le_of_ble_eq_true rfl⟩) (pV (pxS hK hP hD [2, 3] (by decide) rfl) hK hP 2 rfl rfl) rfl rfl hl.1 rfl (lv_room (Nat.le_of_ble_eq_true rfl)) dX11_drawing_27 ⟨Nat.le_of_ble_eq_true rfl, Nat.le_of_ble_eq_true rfl⟩) hP hD hS hA [2, 3] [none, none, some 0, some 1] rfl (by decide +kernel) (fun _ => rfl) (fun r_8 u_9 H locs wr_8 hP hD hS => ?_)
      obtain ⟨dm_9, d2_9⟩ := u_9
      have hz_9_0 : dm_9 ≤ 4 := wr_8.1
      have hz_9_1 : dm_9 = gN dm := wr_8.2.1
      have hz_9_2 : d2_9 = begF dm d2 := wr_8.2.2
      have hPD := pd_mk (ws := [(a 0, .inr (11, [.ref (a 1), .ref (a 2), .ref (a 3), .ref (a 4), .ref (a 5), .ref (a 6), .ref (a 7), .ref (a 8), .ref (a 9), .ref (a 10), .ref (a 11), .ref (a 12), .int ap])), (a 5, .inr (4, [.ref (a 18), .ref (a 19), .ref (a 20), .ref (a 21), .ref (a 22), .ref (a 23), .ref (a 24), .int (nI sn), .int (nI sk), .int scu, .int sch])), (a 6, .inr (0, [.ref (a 5), .ref (a 25), .ref (a 26), .ref (a 27), .ref (a 28), .ref (a 29), .int (nI dm_9)])), (a 27, .inl (cZ, 1536, .inl d2_9))]) hP hD
      have hP := hPD.1
      have hD := hPD.2
      rw [hQ]
      exact W.iret (v := r_8) hx hb hr (fun tt9 ht hW => ⟨⟨(r_8 : Int32), ((dm_9 : Nat), (d2_9 : Nat → Int32)), rfl, (lf_X11_drawing_m_10 a ap sn sk scu sch dm d2 (nI tn1) hsn hsk hdm hst3 c_6 tn1 tn1a tn1b rfl dm_9 d2_9 hz_9_0 hz_9_1 hz_9_2 r_8), ⟨by rw [ht]; exact hP, hD⟩⟩, hS.F ht⟩) hS.2.2 dX11_drawing_30 hlocks
    · refine lv_iconst (v := (-1)) hx hb dX11_drawing_21 (by decide) ?_
      rw [hQ]
      exact W.iret (v := (-1)) hx hb hr (fun tt9 ht hW => ⟨⟨((-1) : Int32), ((dm : Nat), (d2 : Nat → Int32)), rfl, (lf_X11_drawing_m_11 a ap sn sk scu sch dm d2 n1 hsn hsk hdm hst3 c_6), ⟨by rw [ht]; exact hP, hD⟩⟩, hS.F ht⟩) hS.2.2 dX11_drawing_22 hlocks

theorem lf_X11_mark_m_1 (a : Nat → Nat) (ap : Int32) (sn : Nat) (sk : Nat) (scu : Int32) (sch : Int32) (dm : Nat) (d0 : Nat → Int32) (d1 : Nat → Int32) (d2 : Nat → Int32) (n1 : Int32) (n2 : Int32) (n3 : Int32) (n4 : Int32) (n5 : Int32) (n6 : Int32) (hsn : sn ≤ 24) (hsk : sk ≤ 8) (hdm : dm ≤ 4) : sn ≤ 24 := by
  first | assumption | omega | decide
theorem lf_X11_mark_m_2 (a : Nat → Nat) (ap : Int32) (sn : Nat) (sk : Nat) (scu : Int32) (sch : Int32) (dm : Nat) (d0 : Nat → Int32) (d1 : Nat → Int32) (d2 : Nat → Int32) (n1 : Int32) (n2 : Int32) (n3 : Int32) (n4 : Int32) (n5 : Int32) (n6 : Int32) (hsn : sn ≤ 24) (hsk : sk ≤ 8) (hdm : dm ≤ 4) : sk ≤ 8 := by
  first | assumption | omega | decide
theorem lf_X11_mark_m_4 (a : Nat → Nat) (ap : Int32) (sn : Nat) (sk : Nat) (scu : Int32) (sch : Int32) (dm : Nat) (d0 : Nat → Int32) (d1 : Nat → Int32) (d2 : Nat → Int32) (n1 : Int32) (n2 : Int32) (n3 : Int32) (n4 : Int32) (n5 : Int32) (n6 : Int32) (hsn : sn ≤ 24) (hsk : sk ≤ 8) (hdm : dm ≤ 4) (hrv3 : ¬ RV n2 n3 n4 sn sk) : ((((d0 : Nat → Int32), (d1 : Nat → Int32), (d2 : Nat → Int32)) : T3) = mkF n1 n2 n3 n4 n5 n6 sn sk dm (d0, d1, d2)) := by
  first | exact mk_1 (by assumption) | exact mk_2 (by assumption) | exact mk_3 (by assumption) | exact mk_4 (by assumption) | exact mk_y (by assumption) (by assumption) (by assumption) (by assumption) (by assumption) (by assumption) hsn hsk (by assumption) (by assumption) hdm (by assumption) (by assumption) (by assumption) (by assumption) (by assumption) (by omega) (by omega) (by omega)
theorem lf_X11_mark_m_5 (a : Nat → Nat) (ap : Int32) (sn : Nat) (sk : Nat) (scu : Int32) (sch : Int32) (dm : Nat) (d0 : Nat → Int32) (d1 : Nat → Int32) (d2 : Nat → Int32) (n1 : Int32) (n2 : Int32) (n3 : Int32) (n4 : Int32) (n5 : Int32) (n6 : Int32) (hsn : sn ≤ 24) (hsk : sk ≤ 8) (hdm : dm ≤ 4) (ff3 : Nat) (ss3 : Nat) (dd3 : Nat) (hff3 : ff3 < sn) (hss3 : ss3 < sk) (hdd3 : dd3 < 2) (eff3 : n2 = nI ff3) (ess3 : n3 = nI ss3) (edd3 : n4 = nI dd3) : ¬ nI ((ff3 * 8 + ss3) * 2 + dd3) < 0 := by
  first | exact nI_pos (by omega) | exact nI_pos' (by omega)
theorem lf_X11_mark_m_8 (a : Nat → Nat) (ap : Int32) (sn : Nat) (sk : Nat) (scu : Int32) (sch : Int32) (dm : Nat) (d0 : Nat → Int32) (d1 : Nat → Int32) (d2 : Nat → Int32) (n1 : Int32) (n2 : Int32) (n3 : Int32) (n4 : Int32) (n5 : Int32) (n6 : Int32) (hsn : sn ≤ 24) (hsk : sk ≤ 8) (hdm : dm ≤ 4) (ff3 : Nat) (ss3 : Nat) (dd3 : Nat) (hff3 : ff3 < sn) (hss3 : ss3 < sk) (hdd3 : dd3 < 2) (eff3 : n2 = nI ff3) (ess3 : n3 = nI ss3) (edd3 : n4 = nI dd3) (c_7 : ¬ ((0 : Int32) ≤ n1 ∧ n1 ≤ nI dm - 1)) : ((((d0 : Nat → Int32), (d1 : Nat → Int32), (d2 : Nat → Int32)) : T3) = mkF n1 n2 n3 n4 n5 n6 sn sk dm (d0, d1, d2)) := by
  first | exact mk_1 (by assumption) | exact mk_2 (by assumption) | exact mk_3 (by assumption) | exact mk_4 (by assumption) | exact mk_y (by assumption) (by assumption) (by assumption) (by assumption) (by assumption) (by assumption) hsn hsk (by assumption) (by assumption) hdm (by assumption) (by assumption) (by assumption) (by assumption) (by assumption) (by omega) (by omega) (by omega)
theorem lf_X11_mark_m_9 (a : Nat → Nat) (ap : Int32) (sn : Nat) (sk : Nat) (scu : Int32) (sch : Int32) (dm : Nat) (d0 : Nat → Int32) (d1 : Nat → Int32) (d2 : Nat → Int32) (n1 : Int32) (n2 : Int32) (n3 : Int32) (n4 : Int32) (n5 : Int32) (n6 : Int32) (hsn : sn ≤ 24) (hsk : sk ≤ 8) (hdm : dm ≤ 4) (ff3 : Nat) (ss3 : Nat) (dd3 : Nat) (hff3 : ff3 < sn) (hss3 : ss3 < sk) (hdd3 : dd3 < 2) (eff3 : n2 = nI ff3) (ess3 : n3 = nI ss3) (edd3 : n4 = nI dd3) (c_7 : (0 : Int32) ≤ n1 ∧ n1 ≤ nI dm - 1) : dm < 2 ^ 31 := by
  omega
theorem lf_X11_mark_m_12 (a : Nat → Nat) (ap : Int32) (sn : Nat) (sk : Nat) (scu : Int32) (sch : Int32) (dm : Nat) (d0 : Nat → Int32) (d1 : Nat → Int32) (d2 : Nat → Int32) (n1 : Int32) (n2 : Int32) (n3 : Int32) (n4 : Int32) (n5 : Int32) (n6 : Int32) (hsn : sn ≤ 24) (hsk : sk ≤ 8) (hdm : dm ≤ 4) (ff3 : Nat) (ss3 : Nat) (dd3 : Nat) (hff3 : ff3 < sn) (hss3 : ss3 < sk) (hdd3 : dd3 < 2) (eff3 : n2 = nI ff3) (ess3 : n3 = nI ss3) (edd3 : n4 = nI dd3) (c_7 : (0 : Int32) ≤ n1 ∧ n1 ≤ nI dm - 1) (tn1 : Nat) (tn1a : tn1 < dm) (tn1e : n1 = nI tn1) (c_11 : ¬ (((-6000) : Int32) ≤ n5 ∧ n5 ≤ 6000)) : ((((d0 : Nat → Int32), (d1 : Nat → Int32), (d2 : Nat → Int32)) : T3) = mkF n1 n2 n3 n4 n5 n6 sn sk dm (d0, d1, d2)) := by
  first | exact mk_1 (by assumption) | exact mk_2 (by assumption) | exact mk_3 (by assumption) | exact mk_4 (by assumption) | exact mk_y (by assumption) (by assumption) (by assumption) (by assumption) (by assumption) (by assumption) hsn hsk (by assumption) (by assumption) hdm (by assumption) (by assumption) (by assumption) (by assumption) (by assumption) (by omega) (by omega) (by omega)
theorem lf_X11_mark_m_15 (a : Nat → Nat) (ap : Int32) (sn : Nat) (sk : Nat) (scu : Int32) (sch : Int32) (dm : Nat) (d0 : Nat → Int32) (d1 : Nat → Int32) (d2 : Nat → Int32) (n1 : Int32) (n2 : Int32) (n3 : Int32) (n4 : Int32) (n5 : Int32) (n6 : Int32) (hsn : sn ≤ 24) (hsk : sk ≤ 8) (hdm : dm ≤ 4) (ff3 : Nat) (ss3 : Nat) (dd3 : Nat) (hff3 : ff3 < sn) (hss3 : ss3 < sk) (hdd3 : dd3 < 2) (eff3 : n2 = nI ff3) (ess3 : n3 = nI ss3) (edd3 : n4 = nI dd3) (c_7 : (0 : Int32) ≤ n1 ∧ n1 ≤ nI dm - 1) (tn1 : Nat) (tn1a : tn1 < dm) (tn1e : n1 = nI tn1) (c_11 : ((-6000) : Int32) ≤ n5 ∧ n5 ≤ 6000) (c_14 : ((-6000) : Int32) ≤ n6 ∧ n6 ≤ 6000) : tn1 < 4 := by
  first | assumption | omega | decide
theorem lf_X11_mark_m_16 (a : Nat → Nat) (ap : Int32) (sn : Nat) (sk : Nat) (scu : Int32) (sch : Int32) (dm : Nat) (d0 : Nat → Int32) (d1 : Nat → Int32) (d2 : Nat → Int32) (n1 : Int32) (n2 : Int32) (n3 : Int32) (n4 : Int32) (n5 : Int32) (n6 : Int32) (hsn : sn ≤ 24) (hsk : sk ≤ 8) (hdm : dm ≤ 4) (ff3 : Nat) (ss3 : Nat) (dd3 : Nat) (hff3 : ff3 < sn) (hss3 : ss3 < sk) (hdd3 : dd3 < 2) (eff3 : n2 = nI ff3) (ess3 : n3 = nI ss3) (edd3 : n4 = nI dd3) (c_7 : (0 : Int32) ≤ n1 ∧ n1 ≤ nI dm - 1) (tn1 : Nat) (tn1a : tn1 < dm) (tn1e : n1 = nI tn1) (c_11 : ((-6000) : Int32) ≤ n5 ∧ n5 ≤ 6000) (c_14 : ((-6000) : Int32) ≤ n6 ∧ n6 ≤ 6000) : ((ff3 * 8 + ss3) * 2 + dd3) < 384 := by
  first | assumption | omega | decide
theorem lf_X11_mark_m_19 (a : Nat → Nat) (ap : Int32) (sn : Nat) (sk : Nat) (scu : Int32) (sch : Int32) (dm : Nat) (d0 : Nat → Int32) (d1 : Nat → Int32) (d2 : Nat → Int32) (n1 : Int32) (n2 : Int32) (n3 : Int32) (n4 : Int32) (n5 : Int32) (n6 : Int32) (hsn : sn ≤ 24) (hsk : sk ≤ 8) (hdm : dm ≤ 4) (ff3 : Nat) (ss3 : Nat) (dd3 : Nat) (hff3 : ff3 < sn) (hss3 : ss3 < sk) (hdd3 : dd3 < 2) (eff3 : n2 = nI ff3) (ess3 : n3 = nI ss3) (edd3 : n4 = nI dd3) (c_7 : (0 : Int32) ≤ n1 ∧ n1 ≤ nI dm - 1) (tn1 : Nat) (tn1a : tn1 < dm) (tn1e : n1 = nI tn1) (c_11 : ((-6000) : Int32) ≤ n5 ∧ n5 ≤ 6000) (c_14 : ((-6000) : Int32) ≤ n6 ∧ n6 ≤ 6000) (d0_18 : Nat → Int32) (d1_18 : Nat → Int32) (d2_18 : Nat → Int32) (hz_18_0 : d0_18 = upd d0 (384 * tn1 + (((ff3 * 8 + ss3) * 2 + dd3))) n5) (hz_18_1 : d1_18 = upd d1 (384 * tn1 + (((ff3 * 8 + ss3) * 2 + dd3))) n6) (hz_18_2 : d2_18 = upd d2 (384 * tn1 + (((ff3 * 8 + ss3) * 2 + dd3))) (vp_nar .boolean 1)) : ((((d0_18 : Nat → Int32), (d1_18 : Nat → Int32), (d2_18 : Nat → Int32)) : T3) = mkF n1 n2 n3 n4 n5 n6 sn sk dm (d0, d1, d2)) := by
  first | exact mk_1 (by assumption) | exact mk_2 (by assumption) | exact mk_3 (by assumption) | exact mk_4 (by assumption) | exact mk_y (by assumption) (by assumption) (by assumption) (by assumption) (by assumption) (by assumption) hsn hsk (by assumption) (by assumption) hdm (by assumption) (by assumption) (by assumption) (by assumption) (by assumption) (by omega) (by omega) (by omega)
theorem lf_X11_mark_m_20 (a : Nat → Nat) (ap : Int32) (sn : Nat) (sk : Nat) (scu : Int32) (sch : Int32) (dm : Nat) (d0 : Nat → Int32) (d1 : Nat → Int32) (d2 : Nat → Int32) (n1 : Int32) (n2 : Int32) (n3 : Int32) (n4 : Int32) (n5 : Int32) (n6 : Int32) (hsn : sn ≤ 24) (hsk : sk ≤ 8) (hdm : dm ≤ 4) (ff3 : Nat) (ss3 : Nat) (dd3 : Nat) (hff3 : ff3 < sn) (hss3 : ss3 < sk) (hdd3 : dd3 < 2) (eff3 : n2 = nI ff3) (ess3 : n3 = nI ss3) (edd3 : n4 = nI dd3) (c_7 : (0 : Int32) ≤ n1 ∧ n1 ≤ nI dm - 1) (tn1 : Nat) (tn1a : tn1 < dm) (tn1e : n1 = nI tn1) (c_11 : ((-6000) : Int32) ≤ n5 ∧ n5 ≤ 6000) (c_14 : ¬ (((-6000) : Int32) ≤ n6 ∧ n6 ≤ 6000)) : ((((d0 : Nat → Int32), (d1 : Nat → Int32), (d2 : Nat → Int32)) : T3) = mkF n1 n2 n3 n4 n5 n6 sn sk dm (d0, d1, d2)) := by
  first | exact mk_1 (by assumption) | exact mk_2 (by assumption) | exact mk_3 (by assumption) | exact mk_4 (by assumption) | exact mk_y (by assumption) (by assumption) (by assumption) (by assumption) (by assumption) (by assumption) hsn hsk (by assumption) (by assumption) hdm (by assumption) (by assumption) (by assumption) (by assumption) (by assumption) (by omega) (by omega) (by omega)
set_option maxHeartbeats 4000000 in
set_option maxRecDepth 100000 in
theorem c_X11_mark_m (l : Launch) (D : va_G) (cI cB cZ cJ : ClassId) (tx : List (ClassId × FieldType)) (a : Nat → Nat) (ap : Int32) (sn : Nat) (sk : Nat) (scu : Int32) (sch : Int32) (dm : Nat) (d0 : Nat → Int32) (d1 : Nat → Int32) (d2 : Nat → Int32) (n1 : Int32) (n2 : Int32) (n3 : Int32) (n4 : Int32) (n5 : Int32) (n6 : Int32) (hsn : sn ≤ 24) (hsk : sk ≤ 8) (hdm : dm ≤ 4) : WrI l D cI cB cZ cJ tx yX11_mark cX11_mark 8 (some .boolean) 2 0 0 [.ref (a 0), .int n1, .int n2, .int n3, .int n4, .int n5, .int n6] [(a 0, .inr (11, [.ref (a 1), .ref (a 2), .ref (a 3), .ref (a 4), .ref (a 5), .ref (a 6), .ref (a 7), .ref (a 8), .ref (a 9), .ref (a 10), .ref (a 11), .ref (a 12), .int ap])), (a 5, .inr (4, [.ref (a 18), .ref (a 19), .ref (a 20), .ref (a 21), .ref (a 22), .ref (a 23), .ref (a 24), .int (nI sn), .int (nI sk), .int scu, .int sch])), (a 6, .inr (0, [.ref (a 5), .ref (a 25), .ref (a 26), .ref (a 27), .ref (a 28), .ref (a 29), .int (nI dm)])), (a 25, .inl (cI, 1536, .inl d0)), (a 26, .inl (cI, 1536, .inl d1)), (a 27, .inl (cZ, 1536, .inl d2))] (fun (r : Int32) (v : (Nat → Int32) × (Nat → Int32) × (Nat → Int32)) => (((v.1, v.2.1, v.2.2) : T3) = mkF n1 n2 n3 n4 n5 n6 sn sk dm (d0, d1, d2))) (fun v => [(a 0, .inr (11, [.ref (a 1), .ref (a 2), .ref (a 3), .ref (a 4), .ref (a 5), .ref (a 6), .ref (a 7), .ref (a 8), .ref (a 9), .ref (a 10), .ref (a 11), .ref (a 12), .int ap])), (a 5, .inr (4, [.ref (a 18), .ref (a 19), .ref (a 20), .ref (a 21), .ref (a 22), .ref (a 23), .ref (a 24), .int (nI sn), .int (nI sk), .int scu, .int sch])), (a 6, .inr (0, [.ref (a 5), .ref (a 25), .ref (a 26), .ref (a 27), .ref (a 28), .ref (a 29), .int (nI dm)])), (a 25, .inl (cI, 1536, .inl v.1)), (a 26, .inl (cI, 1536, .inl v.2.1)), (a 27, .inl (cZ, 1536, .inl v.2.2))]) := by
  refine wri_of2 (by decide) (Nat.le_of_ble_eq_true rfl) ?_
  intro p e s m below meth c A ls H locs hC hK hP hD hA hS hl
  obtain ⟨hx, hb, hr, hml, hown, hts, hlocks, hin⟩ := hC
  have hown : s.vm.findClass RX11 = some m.cls := hown
  have hl : lv_has ls 8 [(0, .ref (a 0)), (1, .int n1), (2, .int n2), (3, .int n3), (4, .int n4), (5, .int n5), (6, .int n6)] := hl
  refine W_gQ (fun Q hQ => ?_)
  refine lv_aload_n hx hb dX11_mark_0 rfl (lv_at hl 0 rfl) ?_
  refine va_get (D := D) (ci := 11) (v := .ref (a 5)) (C := RX11) (T := TX11) (N := 13) hx hb hts inT_X11 hown hK.1 hP 0 rfl rfl 4 (by decide) (hts _ k_487) (fun _ h9 => h9) rfl dX11_mark_1 ?_
  refine lv_iload_n hx hb dX11_mark_4 rfl (lv_at hl 2 rfl) ?_
  refine lv_iload_n hx hb dX11_mark_5 rfl (lv_at hl 3 rfl) ?_
  refine lv_iload hx hb dX11_mark_6 (lv_at hl 4 rfl) ?_
  refine eRi (va_runV (As := [.int n2, .int n3, .int n4]) (rest := []) ⟨hx, hb, hml, hown, hts⟩ (c_X4_rivetAt_f l D cI cB cZ cJ tx a sn sk scu sch n2 n3 n4 (lf_X11_mark_m_1 a ap sn sk scu sch dm d0 d1 d2 n1 n2 n3 n4 n5 n6 hsn hsk hdm) (lf_X11_mark_m_2 a ap sn sk scu sch dm d0 d1 d2 n1 n2 n3 n4 n5 n6 hsn hsk hdm) H.size) (zV hts k_850 v_X4_rivetAt ⟨Nat.le_of_ble_eq_true rfl, Nat.le_of_ble_eq_true rfl⟩) (pV (px1 hK hP 1 rfl) hK hP 1 rfl rfl) rfl rfl hl.1 rfl (lv_room (Nat.le_of_ble_eq_true rfl)) dX11_mark_8 ⟨Nat.le_of_ble_eq_true rfl, Nat.le_of_ble_eq_true rfl⟩) hP hS hA (fun r_3 H locs wr_3 hP hS => ?_)
  rcases wr_3 with ⟨rfl, hrv3⟩ | ⟨ff3, ss3, dd3, hff3, hss3, hdd3, rfl, rfl, rfl, rfl⟩
  · refine lv_istore (lv' := [(7, .int (-1)), (0, .ref (a 0)), (1, .int n1), (2, .int n2), (3, .int n3), (4, .int n4), (5, .int n5), (6, .int n6)]) hx hb dX11_mark_11 hl (by decide) rfl (fun ls hl => ?_)
    refine lv_iload hx hb dX11_mark_13 (lv_at hl 0 rfl) ?_
    refine lv_if_lt (tgt := 57) hx hb dX11_mark_15 (by decide) (fun _ => ?_) (fun c => absurd c (by decide))
    refine lv_iconst (v := 0) hx hb dX11_mark_57 (by decide) ?_
    rw [hQ]
    exact W.zret (v := 0) hx hb hr (by decide) (fun tt9 ht hW => ⟨⟨(0 : Int32), ((d0 : Nat → Int32), (d1 : Nat → Int32), (d2 : Nat → Int32)), rfl, (lf_X11_mark_m_4 a ap sn sk scu sch dm d0 d1 d2 n1 n2 n3 n4 n5 n6 hsn hsk hdm hrv3), ⟨by rw [ht]; exact hP, hD⟩⟩, hS.F ht⟩) hS.2.2 dX11_mark_58 hlocks
  · refine lv_istore (lv' := [(7, .int (nI ((ff3 * 8 + ss3) * 2 + dd3))), (0, .ref (a 0)), (1, .int n1), (2, .int (nI ff3)), (3, .int (nI ss3)), (4, .int (nI dd3)), (5, .int n5), (6, .int n6)]) hx hb dX11_mark_11 hl (by decide) rfl (fun ls hl => ?_)
    refine lv_iload hx hb dX11_mark_13 (lv_at hl 0 rfl) ?_
    refine lv_if_lt (tgt := 57) hx hb dX11_mark_15 (by decide) (fun c => absurd c (lf_X11_mark_m_5 a ap sn sk scu sch dm d0 d1 d2 n1 (nI ff3) (nI ss3) (nI dd3) n5 n6 hsn hsk hdm ff3 ss3 dd3 hff3 hss3 hdd3 rfl rfl rfl)) (fun _ => ?_)
    refine lv_aload_n hx hb dX11_mark_18 rfl (lv_at hl 1 rfl) ?_
    refine va_get (D := D) (ci := 11) (v := .ref (a 6)) (C := RX11) (T := TX11) (N := 13) hx hb hts inT_X11 hown hK.1 hP 0 rfl rfl 5 (by decide) (hts _ k_488) (fun _ h9 => h9) rfl dX11_mark_19 ?_
    refine lv_iload_n hx hb dX11_mark_22 rfl (lv_at hl 2 rfl) ?_
    refine eRi (va_runV (As := [.int n1]) (rest := []) ⟨hx, hb, hml, hown, hts⟩ (c_X0_has l D cI cB cZ cJ tx a dm n1 H.size) (zV hts k_899 v_X0_has ⟨Nat.le_of_ble_eq_true rfl, Nat.le_of_ble_eq_true rfl⟩) (pV (px1 hK hP 2 rfl) hK hP 2 rfl rfl) rfl rfl hl.1 rfl (lv_room (Nat.le_of_ble_eq_true rfl)) dX11_mark_23 ⟨Nat.le_of_ble_eq_true rfl, Nat.le_of_ble_eq_true rfl⟩) hP hS hA (fun r_6 H locs wr_6 hP hS => ?_)
    subst wr_6
    refine lv_bi_eq (tgt := 57) hx hb dX11_mark_26 (by decide) (fun c_7 => ?_) (fun c_7 => ?_)
    · refine lv_iconst (v := 0) hx hb dX11_mark_57 (by decide) ?_
      rw [hQ]
      exact W.zret (v := 0) hx hb hr (by decide) (fun tt9 ht hW => ⟨⟨(0 : Int32), ((d0 : Nat → Int32), (d1 : Nat → Int32), (d2 : Nat → Int32)), rfl, (lf_X11_mark_m_8 a ap sn sk scu sch dm d0 d1 d2 n1 (nI ff3) (nI ss3) (nI dd3) n5 n6 hsn hsk hdm ff3 ss3 dd3 hff3 hss3 hdd3 rfl rfl rfl c_7), ⟨by rw [ht]; exact hP, hD⟩⟩, hS.F ht⟩) hS.2.2 dX11_mark_58 hlocks
    · obtain ⟨tn1, tn1a, tn1e⟩ := of_within (lf_X11_mark_m_9 a ap sn sk scu sch dm d0 d1 d2 n1 (nI ff3) (nI ss3) (nI dd3) n5 n6 hsn hsk hdm ff3 ss3 dd3 hff3 hss3 hdd3 rfl rfl rfl c_7) c_7
      subst tn1e
      refine lv_iload hx hb dX11_mark_29 (lv_at hl 6 rfl) ?_
      refine lv_sipush (v := (-6000)) hx hb dX11_mark_31 (by decide) ?_
      refine lv_sipush (v := 6000) hx hb dX11_mark_34 (by decide) ?_
      refine eRi (va_runS (As := [.int n5, .int (-6000), .int 6000]) (rest := []) ⟨hx, hb, hml, hown, hts⟩ (c_X11_within l D cI cB cZ cJ tx n5 (-6000) 6000 H.size) (zS hts k_527 v_X11_within ⟨Nat.le_of_ble_eq_true rfl, Nat.le_of_ble_eq_true rfl⟩) (px0 hK) rfl rfl hl.1 rfl (lv_room (Nat.le_of_ble_eq_true rfl)) dX11_mark_37 ⟨Nat.le_of_ble_eq_true rfl, Nat.le_of_ble_eq_true rfl⟩) hP hS hA (fun r_10 H locs wr_10 hP hS => ?_)
      subst wr_10
      refine lv_bi_eq (tgt := 57) hx hb dX11_mark_40 (by decide) (fun c_11 => ?_) (fun c_11 => ?_)
      · refine lv_iconst (v := 0) hx hb dX11_mark_57 (by decide) ?_
        rw [hQ]
        exact W.zret (v := 0) hx hb hr (by decide) (fun tt9 ht hW => ⟨⟨(0 : Int32), ((d0 : Nat → Int32), (d1 : Nat → Int32), (d2 : Nat → Int32)), rfl, (lf_X11_mark_m_12 a ap sn sk scu sch dm d0 d1 d2 (nI tn1) (nI ff3) (nI ss3) (nI dd3) n5 n6 hsn hsk hdm ff3 ss3 dd3 hff3 hss3 hdd3 rfl rfl rfl c_7 tn1 tn1a rfl c_11), ⟨by rw [ht]; exact hP, hD⟩⟩, hS.F ht⟩) hS.2.2 dX11_mark_58 hlocks
      · refine lv_iload hx hb dX11_mark_43 (lv_at hl 7 rfl) ?_
        refine lv_sipush (v := (-6000)) hx hb dX11_mark_45 (by decide) ?_
        refine lv_sipush (v := 6000) hx hb dX11_mark_48 (by decide) ?_
        refine eRi (va_runS (As := [.int n6, .int (-6000), .int 6000]) (rest := []) ⟨hx, hb, hml, hown, hts⟩ (c_X11_within l D cI cB cZ cJ tx n6 (-6000) 6000 H.size) (zS hts k_527 v_X11_within ⟨Nat.le_of_ble_eq_true rfl, Nat.le_of_ble_eq_true rfl⟩) (px0 hK) rfl rfl hl.1 rfl (lv_room (Nat.le_of_ble_eq_true rfl)) dX11_mark_51 ⟨Nat.le_of_ble_eq_true rfl, Nat.le_of_ble_eq_true rfl⟩) hP hS hA (fun r_13 H locs wr_13 hP hS => ?_)
        subst wr_13
        refine lv_bi_ne (tgt := 59) hx hb dX11_mark_54 (by decide) (fun c_14 => ?_) (fun c_14 => ?_)
        · refine lv_aload_n hx hb dX11_mark_59 rfl (lv_at hl 1 rfl) ?_
          refine va_get (D := D) (ci := 11) (v := .ref (a 6)) (C := RX11) (T := TX11) (N := 13) hx hb hts inT_X11 hown hK.1 hP 0 rfl rfl 5 (by decide) (hts _ k_488) (fun _ h9 => h9) rfl dX11_mark_60 ?_
          refine lv_iload_n hx hb dX11_mark_63 rfl (lv_at hl 2 rfl) ?_
          refine lv_iload hx hb dX11_mark_64 (lv_at hl 0 rfl) ?_
          refine lv_iload hx hb dX11_mark_66 (lv_at hl 6 rfl) ?_
          refine lv_iload hx hb dX11_mark_68 (lv_at hl 7 rfl) ?_
          refine eWvP (va_runV (As := [.int (nI tn1), .int (nI ((ff3 * 8 + ss3) * 2 + dd3)), .int n5, .int n6]) (rest := []) ⟨hx, hb, hml, hown, hts⟩ (c_X0_put_t l D cI cB cZ cJ tx a dm d0 d1 d2 tn1 ((ff3 * 8 + ss3) * 2 + dd3) n5 n6 (lf_X11_mark_m_15 a ap sn sk scu sch dm d0 d1 d2 (nI tn1) (nI ff3) (nI ss3) (nI dd3) n5 n6 hsn hsk hdm ff3 ss3 dd3 hff3 hss3 hdd3 rfl rfl rfl c_7 tn1 tn1a rfl c_11 c_14) (lf_X11_mark_m_16 a ap sn sk scu sch dm d0 d1 d2 (nI tn1) (nI ff3) (nI ss3) (nI dd3) n5 n6 hsn hsk hdm ff3 ss3 dd3 hff3 hss3 hdd3 rfl rfl rfl c_7 tn1 tn1a rfl c_11 c_14) H.size) (zV hts k_904 v_X0_put ⟨Nat.le_of_ble_eq_true rfl, Nat.le_of_ble_eq_true rfl⟩) (pV (pxS hK hP hD [2, 3, 4, 5] (by decide) rfl) hK hP 2 rfl rfl) rfl rfl hl.1 rfl (lv_room (Nat.le_of_ble_eq_true rfl)) dX11_mark_70 ⟨Nat.le_of_ble_eq_true rfl, Nat.le_of_ble_eq_true rfl⟩) hP hD hS hA [2, 3, 4, 5] [none, none, some 0, some 1, some 2, some 3] rfl (by decide +kernel) (fun _ => rfl) (fun u_18 H locs wr_17 hP hD hS => ?_)
          obtain ⟨d0_18, d1_18, d2_18⟩ := u_18
          have hz_18_0 : d0_18 = upd d0 (384 * tn1 + (((ff3 * 8 + ss3) * 2 + dd3))) n5 := wr_17.1
          have hz_18_1 : d1_18 = upd d1 (384 * tn1 + (((ff3 * 8 + ss3) * 2 + dd3))) n6 := wr_17.2.1
          have hz_18_2 : d2_18 = upd d2 (384 * tn1 + (((ff3 * 8 + ss3) * 2 + dd3))) (vp_nar .boolean 1) := wr_17.2.2
          have hPD := pd_mk (ws := [(a 0, .inr (11, [.ref (a 1), .ref (a 2), .ref (a 3), .ref (a 4), .ref (a 5), .ref (a 6), .ref (a 7), .ref (a 8), .ref (a 9), .ref (a 10), .ref (a 11), .ref (a 12), .int ap])), (a 5, .inr (4, [.ref (a 18), .ref (a 19), .ref (a 20), .ref (a 21), .ref (a 22), .ref (a 23), .ref (a 24), .int (nI sn), .int (nI sk), .int scu, .int sch])), (a 6, .inr (0, [.ref (a 5), .ref (a 25), .ref (a 26), .ref (a 27), .ref (a 28), .ref (a 29), .int (nI dm)])), (a 25, .inl (cI, 1536, .inl d0_18)), (a 26, .inl (cI, 1536, .inl d1_18)), (a 27, .inl (cZ, 1536, .inl d2_18))]) hP hD
          have hP := hPD.1
          have hD := hPD.2
          refine lv_iconst (v := 1) hx hb dX11_mark_73 (by decide) ?_
          rw [hQ]
          exact W.zret (v := 1) hx hb hr (by decide) (fun tt9 ht hW => ⟨⟨(1 : Int32), ((d0_18 : Nat → Int32), (d1_18 : Nat → Int32), (d2_18 : Nat → Int32)), rfl, (lf_X11_mark_m_19 a ap sn sk scu sch dm d0 d1 d2 (nI tn1) (nI ff3) (nI ss3) (nI dd3) n5 n6 hsn hsk hdm ff3 ss3 dd3 hff3 hss3 hdd3 rfl rfl rfl c_7 tn1 tn1a rfl c_11 c_14 d0_18 d1_18 d2_18 hz_18_0 hz_18_1 hz_18_2), ⟨by rw [ht]; exact hP, hD⟩⟩, hS.F ht⟩) hS.2.2 dX11_mark_74 hlocks
        · refine lv_iconst (v := 0) hx hb dX11_mark_57 (by decide) ?_
          rw [hQ]
          exact W.zret (v := 0) hx hb hr (by decide) (fun tt9 ht hW => ⟨⟨(0 : Int32), ((d0 : Nat → Int32), (d1 : Nat → Int32), (d2 : Nat → Int32)), rfl, (lf_X11_mark_m_20 a ap sn sk scu sch dm d0 d1 d2 (nI tn1) (nI ff3) (nI ss3) (nI dd3) n5 n6 hsn hsk hdm ff3 ss3 dd3 hff3 hss3 hdd3 rfl rfl rfl c_7 tn1 tn1a rfl c_11 c_14), ⟨by rw [ht]; exact hP, hD⟩⟩, hS.F ht⟩) hS.2.2 dX11_mark_58 hlocks

theorem lf_X11_bury_n_1 (a : Nat → Nat) (t0 : Nat → Nat) (t1 : Nat → Nat) (t2 : Nat → Nat) (t3 : Nat → Nat) (ap : Int32) (sn : Nat) (sk : Nat) (scu : Int32) (sch : Int32) (g0 : Nat → Int32) (g1 : Nat → Int32) (g3 : Nat → Int32) (g4 : Nat → Int32) (g5 : Nat → Int32) (g6 : Nat → Int32) (un_1 : Nat) (k1_1 : Nat) (p1_1 : Nat) (rf_1 : Int32) (fs_1 : Nat → Int32) (fk_1 : Nat → Int32) (fa3_1 : Nat → Int32) (fa4_1 : Nat → Int32) (fa5_1 : Nat → Int32) (cs_1 : List ClA) (n1 : Int32) (hsn : sn ≤ 24) (hsk : sk ≤ 8) (hp_1 : p1_1 ≤ 32) (hst_1 : ∀ j, j < 200 → 0 ≤ fs_1 j) (hun_1 : un_1 ≤ 200) (hk1_1 : k1_1 ≤ 14) (hCT_1 : CTk k1_1 fs_1 un_1 fa3_1 fa4_1 fa5_1 cs_1) (hLY : LY g6) : sn ≤ 24 := by
  first | assumption | omega | decide | rfl
theorem lf_X11_bury_n_2 (a : Nat → Nat) (t0 : Nat → Nat) (t1 : Nat → Nat) (t2 : Nat → Nat) (t3 : Nat → Nat) (ap : Int32) (sn : Nat) (sk : Nat) (scu : Int32) (sch : Int32) (g0 : Nat → Int32) (g1 : Nat → Int32) (g3 : Nat → Int32) (g4 : Nat → Int32) (g5 : Nat → Int32) (g6 : Nat → Int32) (un_1 : Nat) (k1_1 : Nat) (p1_1 : Nat) (rf_1 : Int32) (fs_1 : Nat → Int32) (fk_1 : Nat → Int32) (fa3_1 : Nat → Int32) (fa4_1 : Nat → Int32) (fa5_1 : Nat → Int32) (cs_1 : List ClA) (n1 : Int32) (hsn : sn ≤ 24) (hsk : sk ≤ 8) (hp_1 : p1_1 ≤ 32) (hst_1 : ∀ j, j < 200 → 0 ≤ fs_1 j) (hun_1 : un_1 ≤ 200) (hk1_1 : k1_1 ≤ 14) (hCT_1 : CTk k1_1 fs_1 un_1 fa3_1 fa4_1 fa5_1 cs_1) (hLY : LY g6) : sk ≤ 8 := by
  first | assumption | omega | decide | rfl
theorem lf_X11_bury_n_4 (a : Nat → Nat) (t0 : Nat → Nat) (t1 : Nat → Nat) (t2 : Nat → Nat) (t3 : Nat → Nat) (ap : Int32) (sn : Nat) (sk : Nat) (scu : Int32) (sch : Int32) (g0 : Nat → Int32) (g1 : Nat → Int32) (g3 : Nat → Int32) (g4 : Nat → Int32) (g5 : Nat → Int32) (g6 : Nat → Int32) (un_1 : Nat) (k1_1 : Nat) (p1_1 : Nat) (rf_1 : Int32) (fs_1 : Nat → Int32) (fk_1 : Nat → Int32) (fa3_1 : Nat → Int32) (fa4_1 : Nat → Int32) (fa5_1 : Nat → Int32) (cs_1 : List ClA) (n1 : Int32) (hsn : sn ≤ 24) (hsk : sk ≤ 8) (hp_1 : p1_1 ≤ 32) (hst_1 : ∀ j, j < 200 → 0 ≤ fs_1 j) (hun_1 : un_1 ≤ 200) (hk1_1 : k1_1 ≤ 14) (hCT_1 : CTk k1_1 fs_1 un_1 fa3_1 fa4_1 fa5_1 cs_1) (hLY : LY g6) (hst3 : sn = 0) : ((-1) : Int32) = buA (g3 : Nat → Int32) sn sk n1 ∧ ((p1_1 : Nat) ≤ 32) ∧ (skB cs_1 sn sk g4 n1 (g0, g1, g3, sch) ((g0 : Nat → Int32), (g1 : Nat → Int32), (g3 : Nat → Int32), (sch : Int32))) ∧ (LY (g6 : Nat → Int32)) ∧ (TW (BUK n1 sn) g5 (g5 : Nat → Int32)) := by
  refine ⟨?_, ?_, ?_, ?_, ?_⟩
  all_goals first | assumption | omega | exact skB_0 (by omega) | exact skB_1 (by assumption) | exact skB_y (by omega) (by assumption) (by first | assumption | rfl) (by omega) (by assumption) | exact TW.n (fun w => w.1 (by omega)) | exact TW.n (fun w => absurd w.2 (by assumption)) | exact TW.y ⟨by omega, by assumption⟩ (by assumption) | exact buA_0 (by omega) | exact buA_1 (by assumption) | exact buA_y (by omega) (by assumption)
theorem lf_X11_bury_n_7 (a : Nat → Nat) (t0 : Nat → Nat) (t1 : Nat → Nat) (t2 : Nat → Nat) (t3 : Nat → Nat) (ap : Int32) (sn : Nat) (sk : Nat) (scu : Int32) (sch : Int32) (g0 : Nat → Int32) (g1 : Nat → Int32) (g3 : Nat → Int32) (g4 : Nat → Int32) (g5 : Nat → Int32) (g6 : Nat → Int32) (un_1 : Nat) (k1_1 : Nat) (p1_1 : Nat) (rf_1 : Int32) (fs_1 : Nat → Int32) (fk_1 : Nat → Int32) (fa3_1 : Nat → Int32) (fa4_1 : Nat → Int32) (fa5_1 : Nat → Int32) (cs_1 : List ClA) (n1 : Int32) (hsn : sn ≤ 24) (hsk : sk ≤ 8) (hp_1 : p1_1 ≤ 32) (hst_1 : ∀ j, j < 200 → 0 ≤ fs_1 j) (hun_1 : un_1 ≤ 200) (hk1_1 : k1_1 ≤ 14) (hCT_1 : CTk k1_1 fs_1 un_1 fa3_1 fa4_1 fa5_1 cs_1) (hLY : LY g6) (hst3 : 0 < sn) (c_6 : (1 : Int32) ≤ n1 ∧ n1 ≤ 9) (tn1 : Nat) (tn1a : 1 ≤ tn1) (tn1b : tn1 ≤ 9) (tn1e : n1 = nI tn1) : tn1 ≤ 9 := by
  first | assumption | omega | decide | rfl
theorem lf_X11_bury_n_8 (a : Nat → Nat) (t0 : Nat → Nat) (t1 : Nat → Nat) (t2 : Nat → Nat) (t3 : Nat → Nat) (ap : Int32) (sn : Nat) (sk : Nat) (scu : Int32) (sch : Int32) (g0 : Nat → Int32) (g1 : Nat → Int32) (g3 : Nat → Int32) (g4 : Nat → Int32) (g5 : Nat → Int32) (g6 : Nat → Int32) (un_1 : Nat) (k1_1 : Nat) (p1_1 : Nat) (rf_1 : Int32) (fs_1 : Nat → Int32) (fk_1 : Nat → Int32) (fa3_1 : Nat → Int32) (fa4_1 : Nat → Int32) (fa5_1 : Nat → Int32) (cs_1 : List ClA) (n1 : Int32) (hsn : sn ≤ 24) (hsk : sk ≤ 8) (hp_1 : p1_1 ≤ 32) (hst_1 : ∀ j, j < 200 → 0 ≤ fs_1 j) (hun_1 : un_1 ≤ 200) (hk1_1 : k1_1 ≤ 14) (hCT_1 : CTk k1_1 fs_1 un_1 fa3_1 fa4_1 fa5_1 cs_1) (hLY : LY g6) (hst3 : 0 < sn) (c_6 : (1 : Int32) ≤ n1 ∧ n1 ≤ 9) (tn1 : Nat) (tn1a : 1 ≤ tn1) (tn1b : tn1 ≤ 9) (tn1e : n1 = nI tn1) : sn ≤ 24 := by
  first | assumption | omega | decide | rfl
theorem lf_X11_bury_n_9 (a : Nat → Nat) (t0 : Nat → Nat) (t1 : Nat → Nat) (t2 : Nat → Nat) (t3 : Nat → Nat) (ap : Int32) (sn : Nat) (sk : Nat) (scu : Int32) (sch : Int32) (g0 : Nat → Int32) (g1 : Nat → Int32) (g3 : Nat → Int32) (g4 : Nat → Int32) (g5 : Nat → Int32) (g6 : Nat → Int32) (un_1 : Nat) (k1_1 : Nat) (p1_1 : Nat) (rf_1 : Int32) (fs_1 : Nat → Int32) (fk_1 : Nat → Int32) (fa3_1 : Nat → Int32) (fa4_1 : Nat → Int32) (fa5_1 : Nat → Int32) (cs_1 : List ClA) (n1 : Int32) (hsn : sn ≤ 24) (hsk : sk ≤ 8) (hp_1 : p1_1 ≤ 32) (hst_1 : ∀ j, j < 200 → 0 ≤ fs_1 j) (hun_1 : un_1 ≤ 200) (hk1_1 : k1_1 ≤ 14) (hCT_1 : CTk k1_1 fs_1 un_1 fa3_1 fa4_1 fa5_1 cs_1) (hLY : LY g6) (hst3 : 0 < sn) (c_6 : (1 : Int32) ≤ n1 ∧ n1 ≤ 9) (tn1 : Nat) (tn1a : 1 ≤ tn1) (tn1b : tn1 ≤ 9) (tn1e : n1 = nI tn1) : sk ≤ 8 := by
  first | assumption | omega | decide | rfl
theorem lf_X11_bury_n_10 (a : Nat → Nat) (t0 : Nat → Nat) (t1 : Nat → Nat) (t2 : Nat → Nat) (t3 : Nat → Nat) (ap : Int32) (sn : Nat) (sk : Nat) (scu : Int32) (sch : Int32) (g0 : Nat → Int32) (g1 : Nat → Int32) (g3 : Nat → Int32) (g4 : Nat → Int32) (g5 : Nat → Int32) (g6 : Nat → Int32) (un_1 : Nat) (k1_1 : Nat) (p1_1 : Nat) (rf_1 : Int32) (fs_1 : Nat → Int32) (fk_1 : Nat → Int32) (fa3_1 : Nat → Int32) (fa4_1 : Nat → Int32) (fa5_1 : Nat → Int32) (cs_1 : List ClA) (n1 : Int32) (hsn : sn ≤ 24) (hsk : sk ≤ 8) (hp_1 : p1_1 ≤ 32) (hst_1 : ∀ j, j < 200 → 0 ≤ fs_1 j) (hun_1 : un_1 ≤ 200) (hk1_1 : k1_1 ≤ 14) (hCT_1 : CTk k1_1 fs_1 un_1 fa3_1 fa4_1 fa5_1 cs_1) (hLY : LY g6) (hst3 : 0 < sn) (c_6 : (1 : Int32) ≤ n1 ∧ n1 ≤ 9) (tn1 : Nat) (tn1a : 1 ≤ tn1) (tn1b : tn1 ≤ 9) (tn1e : n1 = nI tn1) : p1_1 ≤ 32 := by
  first | assumption | omega | decide | rfl
theorem lf_X11_bury_n_11 (a : Nat → Nat) (t0 : Nat → Nat) (t1 : Nat → Nat) (t2 : Nat → Nat) (t3 : Nat → Nat) (ap : Int32) (sn : Nat) (sk : Nat) (scu : Int32) (sch : Int32) (g0 : Nat → Int32) (g1 : Nat → Int32) (g3 : Nat → Int32) (g4 : Nat → Int32) (g5 : Nat → Int32) (g6 : Nat → Int32) (un_1 : Nat) (k1_1 : Nat) (p1_1 : Nat) (rf_1 : Int32) (fs_1 : Nat → Int32) (fk_1 : Nat → Int32) (fa3_1 : Nat → Int32) (fa4_1 : Nat → Int32) (fa5_1 : Nat → Int32) (cs_1 : List ClA) (n1 : Int32) (hsn : sn ≤ 24) (hsk : sk ≤ 8) (hp_1 : p1_1 ≤ 32) (hst_1 : ∀ j, j < 200 → 0 ≤ fs_1 j) (hun_1 : un_1 ≤ 200) (hk1_1 : k1_1 ≤ 14) (hCT_1 : CTk k1_1 fs_1 un_1 fa3_1 fa4_1 fa5_1 cs_1) (hLY : LY g6) (hst3 : 0 < sn) (c_6 : (1 : Int32) ≤ n1 ∧ n1 ≤ 9) (tn1 : Nat) (tn1a : 1 ≤ tn1) (tn1b : tn1 ≤ 9) (tn1e : n1 = nI tn1) : ∀ j, j < 200 → 0 ≤ fs_1 j := by
  first | assumption | omega | decide | rfl
theorem lf_X11_bury_n_12 (a : Nat → Nat) (t0 : Nat → Nat) (t1 : Nat → Nat) (t2 : Nat → Nat) (t3 : Nat → Nat) (ap : Int32) (sn : Nat) (sk : Nat) (scu : Int32) (sch : Int32) (g0 : Nat → Int32) (g1 : Nat → Int32) (g3 : Nat → Int32) (g4 : Nat → Int32) (g5 : Nat → Int32) (g6 : Nat → Int32) (un_1 : Nat) (k1_1 : Nat) (p1_1 : Nat) (rf_1 : Int32) (fs_1 : Nat → Int32) (fk_1 : Nat → Int32) (fa3_1 : Nat → Int32) (fa4_1 : Nat → Int32) (fa5_1 : Nat → Int32) (cs_1 : List ClA) (n1 : Int32) (hsn : sn ≤ 24) (hsk : sk ≤ 8) (hp_1 : p1_1 ≤ 32) (hst_1 : ∀ j, j < 200 → 0 ≤ fs_1 j) (hun_1 : un_1 ≤ 200) (hk1_1 : k1_1 ≤ 14) (hCT_1 : CTk k1_1 fs_1 un_1 fa3_1 fa4_1 fa5_1 cs_1) (hLY : LY g6) (hst3 : 0 < sn) (c_6 : (1 : Int32) ≤ n1 ∧ n1 ≤ 9) (tn1 : Nat) (tn1a : 1 ≤ tn1) (tn1b : tn1 ≤ 9) (tn1e : n1 = nI tn1) : un_1 ≤ 200 := by
  first | assumption | omega | decide | rfl
theorem lf_X11_bury_n_13 (a : Nat → Nat) (t0 : Nat → Nat) (t1 : Nat → Nat) (t2 : Nat → Nat) (t3 : Nat → Nat) (ap : Int32) (sn : Nat) (sk : Nat) (scu : Int32) (sch : Int32) (g0 : Nat → Int32) (g1 : Nat → Int32) (g3 : Nat → Int32) (g4 : Nat → Int32) (g5 : Nat → Int32) (g6 : Nat → Int32) (un_1 : Nat) (k1_1 : Nat) (p1_1 : Nat) (rf_1 : Int32) (fs_1 : Nat → Int32) (fk_1 : Nat → Int32) (fa3_1 : Nat → Int32) (fa4_1 : Nat → Int32) (fa5_1 : Nat → Int32) (cs_1 : List ClA) (n1 : Int32) (hsn : sn ≤ 24) (hsk : sk ≤ 8) (hp_1 : p1_1 ≤ 32) (hst_1 : ∀ j, j < 200 → 0 ≤ fs_1 j) (hun_1 : un_1 ≤ 200) (hk1_1 : k1_1 ≤ 14) (hCT_1 : CTk k1_1 fs_1 un_1 fa3_1 fa4_1 fa5_1 cs_1) (hLY : LY g6) (hst3 : 0 < sn) (c_6 : (1 : Int32) ≤ n1 ∧ n1 ≤ 9) (tn1 : Nat) (tn1a : 1 ≤ tn1) (tn1b : tn1 ≤ 9) (tn1e : n1 = nI tn1) : k1_1 ≤ 14 := by
  first | assumption | omega | decide | rfl
theorem lf_X11_bury_n_14 (a : Nat → Nat) (t0 : Nat → Nat) (t1 : Nat → Nat) (t2 : Nat → Nat) (t3 : Nat → Nat) (ap : Int32) (sn : Nat) (sk : Nat) (scu : Int32) (sch : Int32) (g0 : Nat → Int32) (g1 : Nat → Int32) (g3 : Nat → Int32) (g4 : Nat → Int32) (g5 : Nat → Int32) (g6 : Nat → Int32) (un_1 : Nat) (k1_1 : Nat) (p1_1 : Nat) (rf_1 : Int32) (fs_1 : Nat → Int32) (fk_1 : Nat → Int32) (fa3_1 : Nat → Int32) (fa4_1 : Nat → Int32) (fa5_1 : Nat → Int32) (cs_1 : List ClA) (n1 : Int32) (hsn : sn ≤ 24) (hsk : sk ≤ 8) (hp_1 : p1_1 ≤ 32) (hst_1 : ∀ j, j < 200 → 0 ≤ fs_1 j) (hun_1 : un_1 ≤ 200) (hk1_1 : k1_1 ≤ 14) (hCT_1 : CTk k1_1 fs_1 un_1 fa3_1 fa4_1 fa5_1 cs_1) (hLY : LY g6) (hst3 : 0 < sn) (c_6 : (1 : Int32) ≤ n1 ∧ n1 ≤ 9) (tn1 : Nat) (tn1a : 1 ≤ tn1) (tn1b : tn1 ≤ 9) (tn1e : n1 = nI tn1) : CTk k1_1 fs_1 un_1 fa3_1 fa4_1 fa5_1 cs_1 := by
  first | assumption | omega | decide | rfl
theorem lf_X11_bury_n_15 (a : Nat → Nat) (t0 : Nat → Nat) (t1 : Nat → Nat) (t2 : Nat → Nat) (t3 : Nat → Nat) (ap : Int32) (sn : Nat) (sk : Nat) (scu : Int32) (sch : Int32) (g0 : Nat → Int32) (g1 : Nat → Int32) (g3 : Nat → Int32) (g4 : Nat → Int32) (g5 : Nat → Int32) (g6 : Nat → Int32) (un_1 : Nat) (k1_1 : Nat) (p1_1 : Nat) (rf_1 : Int32) (fs_1 : Nat → Int32) (fk_1 : Nat → Int32) (fa3_1 : Nat → Int32) (fa4_1 : Nat → Int32) (fa5_1 : Nat → Int32) (cs_1 : List ClA) (n1 : Int32) (hsn : sn ≤ 24) (hsk : sk ≤ 8) (hp_1 : p1_1 ≤ 32) (hst_1 : ∀ j, j < 200 → 0 ≤ fs_1 j) (hun_1 : un_1 ≤ 200) (hk1_1 : k1_1 ≤ 14) (hCT_1 : CTk k1_1 fs_1 un_1 fa3_1 fa4_1 fa5_1 cs_1) (hLY : LY g6) (hst3 : 0 < sn) (c_6 : (1 : Int32) ≤ n1 ∧ n1 ≤ 9) (tn1 : Nat) (tn1a : 1 ≤ tn1) (tn1b : tn1 ≤ 9) (tn1e : n1 = nI tn1) : LY g6 := by
  first | assumption | omega | decide | rfl
theorem lf_X11_bury_n_18 (a : Nat → Nat) (t0 : Nat → Nat) (t1 : Nat → Nat) (t2 : Nat → Nat) (t3 : Nat → Nat) (ap : Int32) (sn : Nat) (sk : Nat) (scu : Int32) (sch : Int32) (g0 : Nat → Int32) (g1 : Nat → Int32) (g3 : Nat → Int32) (g4 : Nat → Int32) (g5 : Nat → Int32) (g6 : Nat → Int32) (un_1 : Nat) (k1_1 : Nat) (p1_1 : Nat) (rf_1 : Int32) (fs_1 : Nat → Int32) (fk_1 : Nat → Int32) (fa3_1 : Nat → Int32) (fa4_1 : Nat → Int32) (fa5_1 : Nat → Int32) (cs_1 : List ClA) (n1 : Int32) (hsn : sn ≤ 24) (hsk : sk ≤ 8) (hp_1 : p1_1 ≤ 32) (hst_1 : ∀ j, j < 200 → 0 ≤ fs_1 j) (hun_1 : un_1 ≤ 200) (hk1_1 : k1_1 ≤ 14) (hCT_1 : CTk k1_1 fs_1 un_1 fa3_1 fa4_1 fa5_1 cs_1) (hLY : LY g6) (hst3 : 0 < sn) (c_6 : (1 : Int32) ≤ n1 ∧ n1 ≤ 9) (tn1 : Nat) (tn1a : 1 ≤ tn1) (tn1b : tn1 ≤ 9) (tn1e : n1 = nI tn1) (sch_17 : Int32) (g0_17 : Nat → Int32) (g1_17 : Nat → Int32) (g3_17 : Nat → Int32) (g5_17 : Nat → Int32) (g6_17 : Nat → Int32) (p1_17 : Nat) (rf_17 : Int32) (fk_17 : Nat → Int32) (hz_17_0 : p1_17 ≤ 32) (hz_17_1 : ((g0_17, g1_17, g3_17, sch_17) : S4T) = sk0 cs_1 sn sk g4 (g0, g1, g3, sch) tn1) (hz_17_2 : LY g6_17) (hz_17_3 : TA g5 g5_17) : sn ≤ 24 := by
  first | assumption | omega | decide | rfl
theorem lf_X11_bury_n_19 (a : Nat → Nat) (t0 : Nat → Nat) (t1 : Nat → Nat) (t2 : Nat → Nat) (t3 : Nat → Nat) (ap : Int32) (sn : Nat) (sk : Nat) (scu : Int32) (sch : Int32) (g0 : Nat → Int32) (g1 : Nat → Int32) (g3 : Nat → Int32) (g4 : Nat → Int32) (g5 : Nat → Int32) (g6 : Nat → Int32) (un_1 : Nat) (k1_1 : Nat) (p1_1 : Nat) (rf_1 : Int32) (fs_1 : Nat → Int32) (fk_1 : Nat → Int32) (fa3_1 : Nat → Int32) (fa4_1 : Nat → Int32) (fa5_1 : Nat → Int32) (cs_1 : List ClA) (n1 : Int32) (hsn : sn ≤ 24) (hsk : sk ≤ 8) (hp_1 : p1_1 ≤ 32) (hst_1 : ∀ j, j < 200 → 0 ≤ fs_1 j) (hun_1 : un_1 ≤ 200) (hk1_1 : k1_1 ≤ 14) (hCT_1 : CTk k1_1 fs_1 un_1 fa3_1 fa4_1 fa5_1 cs_1) (hLY : LY g6) (hst3 : 0 < sn) (c_6 : (1 : Int32) ≤ n1 ∧ n1 ≤ 9) (tn1 : Nat) (tn1a : 1 ≤ tn1) (tn1b : tn1 ≤ 9) (tn1e : n1 = nI tn1) (sch_17 : Int32) (g0_17 : Nat → Int32) (g1_17 : Nat → Int32) (g3_17 : Nat → Int32) (g5_17 : Nat → Int32) (g6_17 : Nat → Int32) (p1_17 : Nat) (rf_17 : Int32) (fk_17 : Nat → Int32) (hz_17_0 : p1_17 ≤ 32) (hz_17_1 : ((g0_17, g1_17, g3_17, sch_17) : S4T) = sk0 cs_1 sn sk g4 (g0, g1, g3, sch) tn1) (hz_17_2 : LY g6_17) (hz_17_3 : TA g5 g5_17) : sk ≤ 8 := by
  first | assumption | omega | decide | rfl
theorem lf_X11_bury_n_21 (a : Nat → Nat) (t0 : Nat → Nat) (t1 : Nat → Nat) (t2 : Nat → Nat) (t3 : Nat → Nat) (ap : Int32) (sn : Nat) (sk : Nat) (scu : Int32) (sch : Int32) (g0 : Nat → Int32) (g1 : Nat → Int32) (g3 : Nat → Int32) (g4 : Nat → Int32) (g5 : Nat → Int32) (g6 : Nat → Int32) (un_1 : Nat) (k1_1 : Nat) (p1_1 : Nat) (rf_1 : Int32) (fs_1 : Nat → Int32) (fk_1 : Nat → Int32) (fa3_1 : Nat → Int32) (fa4_1 : Nat → Int32) (fa5_1 : Nat → Int32) (cs_1 : List ClA) (n1 : Int32) (hsn : sn ≤ 24) (hsk : sk ≤ 8) (hp_1 : p1_1 ≤ 32) (hst_1 : ∀ j, j < 200 → 0 ≤ fs_1 j) (hun_1 : un_1 ≤ 200) (hk1_1 : k1_1 ≤ 14) (hCT_1 : CTk k1_1 fs_1 un_1 fa3_1 fa4_1 fa5_1 cs_1) (hLY : LY g6) (hst3 : 0 < sn) (c_6 : (1 : Int32) ≤ n1 ∧ n1 ≤ 9) (tn1 : Nat) (tn1a : 1 ≤ tn1) (tn1b : tn1 ≤ 9) (tn1e : n1 = nI tn1) (sch_17 : Int32) (g0_17 : Nat → Int32) (g1_17 : Nat → Int32) (g3_17 : Nat → Int32) (g5_17 : Nat → Int32) (g6_17 : Nat → Int32) (p1_17 : Nat) (rf_17 : Int32) (fk_17 : Nat → Int32) (hz_17_0 : p1_17 ≤ 32) (hz_17_1 : ((g0_17, g1_17, g3_17, sch_17) : S4T) = sk0 cs_1 sn sk g4 (g0, g1, g3, sch) tn1) (hz_17_2 : LY g6_17) (hz_17_3 : TA g5 g5_17) : (lf1 g3_17 sk sn : Int32) = buA (g3_17 : Nat → Int32) sn sk n1 ∧ ((p1_17 : Nat) ≤ 32) ∧ (skB cs_1 sn sk g4 n1 (g0, g1, g3, sch) ((g0_17 : Nat → Int32), (g1_17 : Nat → Int32), (g3_17 : Nat → Int32), (sch_17 : Int32))) ∧ (LY (g6_17 : Nat → Int32)) ∧ (TW (BUK n1 sn) g5 (g5_17 : Nat → Int32)) := by
  refine ⟨?_, ?_, ?_, ?_, ?_⟩
  all_goals first | assumption | omega | exact skB_0 (by omega) | exact skB_1 (by assumption) | exact skB_y (by omega) (by assumption) (by first | assumption | rfl) (by omega) (by assumption) | exact TW.n (fun w => w.1 (by omega)) | exact TW.n (fun w => absurd w.2 (by assumption)) | exact TW.y ⟨by omega, by assumption⟩ (by assumption) | exact buA_0 (by omega) | exact buA_1 (by assumption) | exact buA_y (by omega) (by assumption)
theorem lf_X11_bury_n_22 (a : Nat → Nat) (t0 : Nat → Nat) (t1 : Nat → Nat) (t2 : Nat → Nat) (t3 : Nat → Nat) (ap : Int32) (sn : Nat) (sk : Nat) (scu : Int32) (sch : Int32) (g0 : Nat → Int32) (g1 : Nat → Int32) (g3 : Nat → Int32) (g4 : Nat → Int32) (g5 : Nat → Int32) (g6 : Nat → Int32) (un_1 : Nat) (k1_1 : Nat) (p1_1 : Nat) (rf_1 : Int32) (fs_1 : Nat → Int32) (fk_1 : Nat → Int32) (fa3_1 : Nat → Int32) (fa4_1 : Nat → Int32) (fa5_1 : Nat → Int32) (cs_1 : List ClA) (n1 : Int32) (hsn : sn ≤ 24) (hsk : sk ≤ 8) (hp_1 : p1_1 ≤ 32) (hst_1 : ∀ j, j < 200 → 0 ≤ fs_1 j) (hun_1 : un_1 ≤ 200) (hk1_1 : k1_1 ≤ 14) (hCT_1 : CTk k1_1 fs_1 un_1 fa3_1 fa4_1 fa5_1 cs_1) (hLY : LY g6) (hst3 : 0 < sn) (c_6 : ¬ ((1 : Int32) ≤ n1 ∧ n1 ≤ 9)) : ((-1) : Int32) = buA (g3 : Nat → Int32) sn sk n1 ∧ ((p1_1 : Nat) ≤ 32) ∧ (skB cs_1 sn sk g4 n1 (g0, g1, g3, sch) ((g0 : Nat → Int32), (g1 : Nat → Int32), (g3 : Nat → Int32), (sch : Int32))) ∧ (LY (g6 : Nat → Int32)) ∧ (TW (BUK n1 sn) g5 (g5 : Nat → Int32)) := by
  refine ⟨?_, ?_, ?_, ?_, ?_⟩
  all_goals first | assumption | omega | exact skB_0 (by omega) | exact skB_1 (by assumption) | exact skB_y (by omega) (by assumption) (by first | assumption | rfl) (by omega) (by assumption) | exact TW.n (fun w => w.1 (by omega)) | exact TW.n (fun w => absurd w.2 (by assumption)) | exact TW.y ⟨by omega, by assumption⟩ (by assumption) | exact buA_0 (by omega) | exact buA_1 (by assumption) | exact buA_y (by omega) (by assumption)
set_option maxHeartbeats 4000000 in
set_option maxRecDepth 100000 in
theorem c_X11_bury_n (l : Launch) (D : va_G) (cI cB cZ cJ : ClassId) (cT : ClassId) (a : Nat → Nat) (t0 : Nat → Nat) (t1 : Nat → Nat) (t2 : Nat → Nat) (t3 : Nat → Nat) (ap : Int32) (sn : Nat) (sk : Nat) (scu : Int32) (sch : Int32) (g0 : Nat → Int32) (g1 : Nat → Int32) (g3 : Nat → Int32) (g4 : Nat → Int32) (g5 : Nat → Int32) (g6 : Nat → Int32) (un_1 : Nat) (k1_1 : Nat) (p1_1 : Nat) (rf_1 : Int32) (fs_1 : Nat → Int32) (fk_1 : Nat → Int32) (fa3_1 : Nat → Int32) (fa4_1 : Nat → Int32) (fa5_1 : Nat → Int32) (cs_1 : List ClA) (n1 : Int32) (hsn : sn ≤ 24) (hsk : sk ≤ 8) (hp_1 : p1_1 ≤ 32) (hst_1 : ∀ j, j < 200 → 0 ≤ fs_1 j) (hun_1 : un_1 ≤ 200) (hk1_1 : k1_1 ≤ 14) (hCT_1 : CTk k1_1 fs_1 un_1 fa3_1 fa4_1 fa5_1 cs_1) (hLY : LY g6) : WrI l D cI cB cZ cJ [(cT, .object "NailStain$Text")] yX11_bury cX11_bury 2 (some .int) 6 0 0 [.ref (a 0), .int n1] [(a 0, .inr (11, [.ref (a 1), .ref (a 2), .ref (a 3), .ref (a 4), .ref (a 5), .ref (a 6), .ref (a 7), .ref (a 8), .ref (a 9), .ref (a 10), .ref (a 11), .ref (a 12), .int ap])), (a 5, .inr (4, [.ref (a 18), .ref (a 19), .ref (a 20), .ref (a 21), .ref (a 22), .ref (a 23), .ref (a 24), .int (nI sn), .int (nI sk), .int scu, .int sch])), (a 18, .inl (cI, 384, .inl g0)), (a 19, .inl (cI, 384, .inl g1)), (a 21, .inl (cZ, 384, .inl g3)), (a 22, .inl (cI, 24, .inl g4)), (a 23, .inl (cI, 8, .inl g5)), (a 24, .inl (cI, 26, .inl g6)), (a 3, .inl (cT, 4, .inr (.inr (.inr (.inr (tR t0 t1 t2 t3)))))), (t1 0, .inr (9, [.ref (t1 1), .ref (t1 2), .ref (t1 3), .ref (t1 4), .ref (t1 5), .int (nI un_1), .int (nI k1_1), .int (nI p1_1), .int rf_1])), (t1 1, .inl (cI, 200, .inl fs_1)), (t1 2, .inl (cI, 32, .inl fk_1)), (t1 3, .inl (cI, 14, .inl fa3_1)), (t1 4, .inl (cI, 14, .inl fa4_1)), (t1 5, .inl (cI, 14, .inl fa5_1))] (fun (r : Int32) (v : (Int32) × (Nat → Int32) × (Nat → Int32) × (Nat → Int32) × (Nat → Int32) × (Nat → Int32) × (Nat) × (Int32) × (Nat → Int32)) => r = buA v.2.2.2.1 sn sk n1 ∧ (v.2.2.2.2.2.2.1 ≤ 32) ∧ (skB cs_1 sn sk g4 n1 (g0, g1, g3, sch) (v.2.1, v.2.2.1, v.2.2.2.1, v.1)) ∧ (LY v.2.2.2.2.2.1) ∧ (TW (BUK n1 sn) g5 v.2.2.2.2.1)) (fun v => [(a 0, .inr (11, [.ref (a 1), .ref (a 2), .ref (a 3), .ref (a 4), .ref (a 5), .ref (a 6), .ref (a 7), .ref (a 8), .ref (a 9), .ref (a 10), .ref (a 11), .ref (a 12), .int ap])), (a 5, .inr (4, [.ref (a 18), .ref (a 19), .ref (a 20), .ref (a 21), .ref (a 22), .ref (a 23), .ref (a 24), .int (nI sn), .int (nI sk), .int scu, .int v.1])), (a 18, .inl (cI, 384, .inl v.2.1)), (a 19, .inl (cI, 384, .inl v.2.2.1)), (a 21, .inl (cZ, 384, .inl v.2.2.2.1)), (a 22, .inl (cI, 24, .inl g4)), (a 23, .inl (cI, 8, .inl v.2.2.2.2.1)), (a 24, .inl (cI, 26, .inl v.2.2.2.2.2.1)), (a 3, .inl (cT, 4, .inr (.inr (.inr (.inr (tR t0 t1 t2 t3)))))), (t1 0, .inr (9, [.ref (t1 1), .ref (t1 2), .ref (t1 3), .ref (t1 4), .ref (t1 5), .int (nI un_1), .int (nI k1_1), .int (nI (v.2.2.2.2.2.2.1)), .int v.2.2.2.2.2.2.2.1])), (t1 1, .inl (cI, 200, .inl fs_1)), (t1 2, .inl (cI, 32, .inl v.2.2.2.2.2.2.2.2)), (t1 3, .inl (cI, 14, .inl fa3_1)), (t1 4, .inl (cI, 14, .inl fa4_1)), (t1 5, .inl (cI, 14, .inl fa5_1))]) := by
  refine wri_of2 (by decide) (Nat.le_of_ble_eq_true rfl) ?_
  intro p e s m below meth c A ls H locs hC hK hP hD hA hS hl
  obtain ⟨hx, hb, hr, hml, hown, hts, hlocks, hin⟩ := hC
  have hown : s.vm.findClass RX11 = some m.cls := hown
  have hl : lv_has ls 2 [(0, .ref (a 0)), (1, .int n1)] := hl
  refine W_gQ (fun Q hQ => ?_)
  refine lv_aload_n hx hb dX11_bury_0 rfl (lv_at hl 0 rfl) ?_
  refine va_get (D := D) (ci := 11) (v := .ref (a 5)) (C := RX11) (T := TX11) (N := 13) hx hb hts inT_X11 hown hK.1 hP 0 rfl rfl 4 (by decide) (hts _ k_487) (fun _ h9 => h9) rfl dX11_bury_1 ?_
  refine eRi (va_runV (As := []) (rest := []) ⟨hx, hb, hml, hown, hts⟩ (c_X4_stands_f l D cI cB cZ cJ [(cT, .object "NailStain$Text")] a sn sk scu sch (lf_X11_bury_n_1 a t0 t1 t2 t3 ap sn sk scu sch g0 g1 g3 g4 g5 g6 un_1 k1_1 p1_1 rf_1 fs_1 fk_1 fa3_1 fa4_1 fa5_1 cs_1 n1 hsn hsk hp_1 hst_1 hun_1 hk1_1 hCT_1 hLY) (lf_X11_bury_n_2 a t0 t1 t2 t3 ap sn sk scu sch g0 g1 g3 g4 g5 g6 un_1 k1_1 p1_1 rf_1 fs_1 fk_1 fa3_1 fa4_1 fa5_1 cs_1 n1 hsn hsk hp_1 hst_1 hun_1 hk1_1 hCT_1 hLY) H.size) (zV hts k_824 v_X4_stands ⟨Nat.le_of_ble_eq_true rfl, Nat.le_of_ble_eq_true rfl⟩) (pV (px1 hK hP 1 rfl) hK hP 1 rfl rfl) rfl rfl hl.1 rfl (lv_room (Nat.le_of_ble_eq_true rfl)) dX11_bury_4 ⟨Nat.le_of_ble_eq_true rfl, Nat.le_of_ble_eq_true rfl⟩) hP hS hA (fun r_3 H locs wr_3 hP hS => ?_)
  rcases wr_3 with ⟨rfl, hst3⟩ | ⟨rfl, hst3⟩
  · refine lv_if_eq (tgt := 20) hx hb dX11_bury_7 (by decide) (fun _ => ?_) (fun c => absurd c (by decide))
    refine lv_iconst (v := (-1)) hx hb dX11_bury_20 (by decide) ?_
    rw [hQ]
    exact W.iret (v := (-1)) hx hb hr (fun tt9 ht hW => ⟨⟨((-1) : Int32), ((sch : Int32), (g0 : Nat → Int32), (g1 : Nat → Int32), (g3 : Nat → Int32), (g5 : Nat → Int32), (g6 : Nat → Int32), (p1_1 : Nat), (rf_1 : Int32), (fk_1 : Nat → Int32)), rfl, (lf_X11_bury_n_4 a t0 t1 t2 t3 ap sn sk scu sch g0 g1 g3 g4 g5 g6 un_1 k1_1 p1_1 rf_1 fs_1 fk_1 fa3_1 fa4_1 fa5_1 cs_1 n1 hsn hsk hp_1 hst_1 hun_1 hk1_1 hCT_1 hLY hst3), ⟨by rw [ht]; exact hP, hD⟩⟩, hS.F ht⟩) hS.2.2 dX11_bury_21 hlocks
  · refine lv_if_eq (tgt := 20) hx hb dX11_bury_7 (by decide) (fun c => absurd c (by decide)) (fun _ => ?_)
    refine lv_iload_n hx hb dX11_bury_10 rfl (lv_at hl 1 rfl) ?_
    refine lv_iconst (v := 1) hx hb dX11_bury_11 (by decide) ?_
    refine lv_bipush (v := 9) hx hb dX11_bury_12 (by decide) ?_
    refine eRi (va_runS (As := [.int n1, .int 1, .int 9]) (rest := []) ⟨hx, hb, hml, hown, hts⟩ (c_X11_within l D cI cB cZ cJ [(cT, .object "NailStain$Text")] n1 1 9 H.size) (zS hts k_527 v_X11_within ⟨Nat.le_of_ble_eq_true rfl, Nat.le_of_ble_eq_true rfl⟩) (px0 hK) rfl rfl hl.1 rfl (lv_room (Nat.le_of_ble_eq_true rfl)) dX11_bury_14 ⟨Nat.le_of_ble_eq_true rfl, Nat.le_of_ble_eq_true rfl⟩) hP hS hA (fun r_5 H locs wr_5 hP hS => ?_)
    subst wr_5
    refine lv_bi_ne (tgt := 22) hx hb dX11_bury_17 (by decide) (fun c_6 => ?_) (fun c_6 => ?_)
    · obtain ⟨tn1, tn1a, tn1b, tn1e⟩ := of_rng 1 9 rfl rfl c_6
      subst tn1e
      refine lv_aload_n hx hb dX11_bury_22 rfl (lv_at hl 0 rfl) ?_
      refine va_get (D := D) (ci := 11) (v := .ref (a 5)) (C := RX11) (T := TX11) (N := 13) hx hb hts inT_X11 hown hK.1 hP 0 rfl rfl 4 (by decide) (hts _ k_487) (fun _ h9 => h9) rfl dX11_bury_23 ?_
      refine lv_iload_n hx hb dX11_bury_26 rfl (lv_at hl 1 rfl) ?_
      refine lv_aload_n hx hb dX11_bury_27 rfl (lv_at hl 0 rfl) ?_
      refine va_get (D := D) (ci := 11) (v := .ref (a 3)) (C := RX11) (T := TX11) (N := 13) hx hb hts inT_X11 hown hK.1 hP 0 rfl rfl 2 (by decide) (hts _ k_485) (fun _ h9 => h9) rfl dX11_bury_28 ?_
      refine lv_iconst (v := 1) hx hb dX11_bury_31 (by decide) ?_
      refine va_aldq hx hb hK.1 hP 8 4 rfl rfl (by unfold vp_in; decide) dX11_bury_32 ?_
      refine lv_topr (y := .ref (t1 0)) rfl ?_
      refine eWvP (va_runV (As := [.int (nI tn1), .ref (t1 0)]) (rest := []) ⟨hx, hb, hml, hown, hts⟩ (c_X4_sink_t l D cI cB cZ cJ [(cT, .object "NailStain$Text")] a t1 sn sk scu sch g0 g1 g3 g4 g5 g6 un_1 k1_1 p1_1 rf_1 fs_1 fk_1 fa3_1 fa4_1 fa5_1 cs_1 tn1 (lf_X11_bury_n_7 a t0 t1 t2 t3 ap sn sk scu sch g0 g1 g3 g4 g5 g6 un_1 k1_1 p1_1 rf_1 fs_1 fk_1 fa3_1 fa4_1 fa5_1 cs_1 (nI tn1) hsn hsk hp_1 hst_1 hun_1 hk1_1 hCT_1 hLY hst3 c_6 tn1 tn1a tn1b rfl) (lf_X11_bury_n_8 a t0 t1 t2 t3 ap sn sk scu sch g0 g1 g3 g4 g5 g6 un_1 k1_1 p1_1 rf_1 fs_1 fk_1 fa3_1 fa4_1 fa5_1 cs_1 (nI tn1) hsn hsk hp_1 hst_1 hun_1 hk1_1 hCT_1 hLY hst3 c_6 tn1 tn1a tn1b rfl) (lf_X11_bury_n_9 a t0 t1 t2 t3 ap sn sk scu sch g0 g1 g3 g4 g5 g6 un_1 k1_1 p1_1 rf_1 fs_1 fk_1 fa3_1 fa4_1 fa5_1 cs_1 (nI tn1) hsn hsk hp_1 hst_1 hun_1 hk1_1 hCT_1 hLY hst3 c_6 tn1 tn1a tn1b rfl) (lf_X11_bury_n_10 a t0 t1 t2 t3 ap sn sk scu sch g0 g1 g3 g4 g5 g6 un_1 k1_1 p1_1 rf_1 fs_1 fk_1 fa3_1 fa4_1 fa5_1 cs_1 (nI tn1) hsn hsk hp_1 hst_1 hun_1 hk1_1 hCT_1 hLY hst3 c_6 tn1 tn1a tn1b rfl) (lf_X11_bury_n_11 a t0 t1 t2 t3 ap sn sk scu sch g0 g1 g3 g4 g5 g6 un_1 k1_1 p1_1 rf_1 fs_1 fk_1 fa3_1 fa4_1 fa5_1 cs_1 (nI tn1) hsn hsk hp_1 hst_1 hun_1 hk1_1 hCT_1 hLY hst3 c_6 tn1 tn1a tn1b rfl) (lf_X11_bury_n_12 a t0 t1 t2 t3 ap sn sk scu sch g0 g1 g3 g4 g5 g6 un_1 k1_1 p1_1 rf_1 fs_1 fk_1 fa3_1 fa4_1 fa5_1 cs_1 (nI tn1) hsn hsk hp_1 hst_1 hun_1 hk1_1 hCT_1 hLY hst3 c_6 tn1 tn1a tn1b rfl) (lf_X11_bury_n_13 a t0 t1 t2 t3 ap sn sk scu sch g0 g1 g3 g4 g5 g6 un_1 k1_1 p1_1 rf_1 fs_1 fk_1 fa3_1 fa4_1 fa5_1 cs_1 (nI tn1) hsn hsk hp_1 hst_1 hun_1 hk1_1 hCT_1 hLY hst3 c_6 tn1 tn1a tn1b rfl) (lf_X11_bury_n_14 a t0 t1 t2 t3 ap sn sk scu sch g0 g1 g3 g4 g5 g6 un_1 k1_1 p1_1 rf_1 fs_1 fk_1 fa3_1 fa4_1 fa5_1 cs_1 (nI tn1) hsn hsk hp_1 hst_1 hun_1 hk1_1 hCT_1 hLY hst3 c_6 tn1 tn1a tn1b rfl) (lf_X11_bury_n_15 a t0 t1 t2 t3 ap sn sk scu sch g0 g1 g3 g4 g5 g6 un_1 k1_1 p1_1 rf_1 fs_1 fk_1 fa3_1 fa4_1 fa5_1 cs_1 (nI tn1) hsn hsk hp_1 hst_1 hun_1 hk1_1 hCT_1 hLY hst3 c_6 tn1 tn1a tn1b rfl) H.size) (zV hts k_828 v_X4_sink ⟨Nat.le_of_ble_eq_true rfl, Nat.le_of_ble_eq_true rfl⟩) (pV (pxS hK hP hD [1, 2, 3, 4, 5, 6, 7, 9, 10, 11, 12, 13, 14] (by decide) rfl) hK hP 1 rfl rfl) rfl rfl hl.1 rfl (lv_room (Nat.le_of_ble_eq_true rfl)) dX11_bury_33 ⟨Nat.le_of_ble_eq_true rfl, Nat.le_of_ble_eq_true rfl⟩) hP hD hS hA [1, 2, 3, 4, 5, 6, 7, 9, 10, 11, 12, 13, 14] [none, some 0, some 1, some 2, some 3, some 4, some 5, some 6, none, some 7, some 8, some 9, some 10, some 11, some 12] rfl (by decide +kernel) (fun _ => rfl) (fun u_17 H locs wr_16 hP hD hS => ?_)
      obtain ⟨sch_17, g0_17, g1_17, g3_17, g5_17, g6_17, p1_17, rf_17, fk_17⟩ := u_17
      have hz_17_0 : p1_17 ≤ 32 := wr_16.1
      have hz_17_1 : ((g0_17, g1_17, g3_17, sch_17) : S4T) = sk0 cs_1 sn sk g4 (g0, g1, g3, sch) tn1 := wr_16.2.1
      have hz_17_2 : LY g6_17 := wr_16.2.2.1
      have hz_17_3 : TA g5 g5_17 := wr_16.2.2.2
      have hPD := pd_mk (ws := [(a 0, .inr (11, [.ref (a 1), .ref (a 2), .ref (a 3), .ref (a 4), .ref (a 5), .ref (a 6), .ref (a 7), .ref (a 8), .ref (a 9), .ref (a 10), .ref (a 11), .ref (a 12), .int ap])), (a 5, .inr (4, [.ref (a 18), .ref (a 19), .ref (a 20), .ref (a 21), .ref (a 22), .ref (a 23), .ref (a 24), .int (nI sn), .int (nI sk), .int scu, .int sch_17])), (a 18, .inl (cI, 384, .inl g0_17)), (a 19, .inl (cI, 384, .inl g1_17)), (a 21, .inl (cZ, 384, .inl g3_17)), (a 22, .inl (cI, 24, .inl g4)), (a 23, .inl (cI, 8, .inl g5_17)), (a 24, .inl (cI, 26, .inl g6_17)), (a 3, .inl (cT, 4, .inr (.inr (.inr (.inr (tR t0 t1 t2 t3)))))), (t1 0, .inr (9, [.ref (t1 1), .ref (t1 2), .ref (t1 3), .ref (t1 4), .ref (t1 5), .int (nI un_1), .int (nI k1_1), .int (nI p1_17), .int rf_17])), (t1 1, .inl (cI, 200, .inl fs_1)), (t1 2, .inl (cI, 32, .inl fk_17)), (t1 3, .inl (cI, 14, .inl fa3_1)), (t1 4, .inl (cI, 14, .inl fa4_1)), (t1 5, .inl (cI, 14, .inl fa5_1))]) hP hD
      have hP := hPD.1
      have hD := hPD.2
      refine lv_aload_n hx hb dX11_bury_36 rfl (lv_at hl 0 rfl) ?_
      refine va_get (D := D) (ci := 11) (v := .ref (a 5)) (C := RX11) (T := TX11) (N := 13) hx hb hts inT_X11 hown hK.1 hP 0 rfl rfl 4 (by decide) (hts _ k_487) (fun _ h9 => h9) rfl dX11_bury_37 ?_
      refine eRi (va_runV (As := []) (rest := []) ⟨hx, hb, hml, hown, hts⟩ (c_X4_left_t l D cI cB cZ cJ [(cT, .object "NailStain$Text")] a sn sk scu sch_17 g3_17 (lf_X11_bury_n_18 a t0 t1 t2 t3 ap sn sk scu sch g0 g1 g3 g4 g5 g6 un_1 k1_1 p1_1 rf_1 fs_1 fk_1 fa3_1 fa4_1 fa5_1 cs_1 (nI tn1) hsn hsk hp_1 hst_1 hun_1 hk1_1 hCT_1 hLY hst3 c_6 tn1 tn1a tn1b rfl sch_17 g0_17 g1_17 g3_17 g5_17 g6_17 p1_17 rf_17 fk_17 hz_17_0 hz_17_1 hz_17_2 hz_17_3) (lf_X11_bury_n_19 a t0 t1 t2 t3 ap sn sk scu sch g0 g1 g3 g4 g5 g6 un_1 k1_1 p1_1 rf_1 fs_1 fk_1 fa3_1 fa4_1 fa5_1 cs_1 (nI tn1) hsn hsk hp_1 hst_1 hun_1 hk1_1 hCT_1 hLY hst3 c_6 tn1 tn1a tn1b rfl sch_17 g0_17 g1_17 g3_17 g5_17 g6_17 p1_17 rf_17 fk_17 hz_17_0 hz_17_1 hz_17_2 hz_17_3) H.size) (zV hts k_842 v_X4_left ⟨Nat.le_of_ble_eq_true rfl, Nat.le_of_ble_eq_true rfl⟩) (pV (pxS hK hP hD [1, 4] (by decide) rfl) hK hP 1 rfl rfl) rfl rfl hl.1 rfl (lv_room (Nat.le_of_ble_eq_true rfl)) dX11_bury_40 ⟨Nat.le_of_ble_eq_true rfl, Nat.le_of_ble_eq_true rfl⟩) hP hS hA (fun r_20 H locs wr_20 hP hS => ?_)
      subst wr_20
      rw [hQ]
      exact W.iret (v := lf1 g3_17 sk sn) hx hb hr (fun tt9 ht hW => ⟨⟨(lf1 g3_17 sk sn : Int32), ((sch_17 : Int32), (g0_17 : Nat → Int32), (g1_17 : Nat → Int32), (g3_17 : Nat → Int32), (g5_17 : Nat → Int32), (g6_17 : Nat → Int32), (p1_17 : Nat), (rf_17 : Int32), (fk_17 : Nat → Int32)), rfl, (lf_X11_bury_n_21 a t0 t1 t2 t3 ap sn sk scu sch g0 g1 g3 g4 g5 g6 un_1 k1_1 p1_1 rf_1 fs_1 fk_1 fa3_1 fa4_1 fa5_1 cs_1 (nI tn1) hsn hsk hp_1 hst_1 hun_1 hk1_1 hCT_1 hLY hst3 c_6 tn1 tn1a tn1b rfl sch_17 g0_17 g1_17 g3_17 g5_17 g6_17 p1_17 rf_17 fk_17 hz_17_0 hz_17_1 hz_17_2 hz_17_3), ⟨by rw [ht]; exact hP, hD⟩⟩, hS.F ht⟩) hS.2.2 dX11_bury_43 hlocks
    · refine lv_iconst (v := (-1)) hx hb dX11_bury_20 (by decide) ?_
      rw [hQ]
      exact W.iret (v := (-1)) hx hb hr (fun tt9 ht hW => ⟨⟨((-1) : Int32), ((sch : Int32), (g0 : Nat → Int32), (g1 : Nat → Int32), (g3 : Nat → Int32), (g5 : Nat → Int32), (g6 : Nat → Int32), (p1_1 : Nat), (rf_1 : Int32), (fk_1 : Nat → Int32)), rfl, (lf_X11_bury_n_22 a t0 t1 t2 t3 ap sn sk scu sch g0 g1 g3 g4 g5 g6 un_1 k1_1 p1_1 rf_1 fs_1 fk_1 fa3_1 fa4_1 fa5_1 cs_1 n1 hsn hsk hp_1 hst_1 hun_1 hk1_1 hCT_1 hLY hst3 c_6), ⟨by rw [ht]; exact hP, hD⟩⟩, hS.F ht⟩) hS.2.2 dX11_bury_21 hlocks
