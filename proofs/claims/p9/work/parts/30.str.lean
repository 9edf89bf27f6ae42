/-! The strings of the class: their bytes, outside of all that is written. -/
def sLen : List Nat := [2, 1, 1, 13, 10, 3, 2, 1, 1, 1, 3, 1, 1, 1, 3, 1]
def sByt : List (List Int32) := [[121, 122], [91], [93], [102, 115, 100, 110, 99, 107, 121, 122, 109, 120, 116, 118, 119], [48, 49, 50, 51, 52, 53, 54, 55, 56, 57], [42, 47, 37], [43, 45], [40], [33], [41], [60, 62, 61], [38], [124], [59], [97, 98, 103], [101]]
def sHas (i k : Nat) : Bool := (sByt.getD i []).contains (nI k).toInt8.toInt32
theorem s_len : ∀ i, i < 16 → sLen.getD i 0 = (sByt.getD i []).length ∧ 1 ≤ sLen.getD i 0 ∧ sLen.getD i 0 ≤ 13 := by decide +kernel
theorem s_dig : ∀ k, k < 256 → sHas 4 k = true → 48 ≤ k ∧ k ≤ 57 := by decide +kernel
theorem s_known : ∀ k, k < 256 → sHas 3 k = true → 97 ≤ k ∧ k ≤ 122 := by decide +kernel
theorem s_has {i j k : Nat} (hi : i < 16) (hj : j < sLen.getD i 0) (h : (sByt.getD i []).getD j 0 = (nI k).toInt8.toInt32) : sHas i k = true := by
  have h1 := (s_len i hi).1
  have h2 : j < (sByt.getD i []).length := by omega
  unfold sHas
  rw [List.contains_iff_mem, ← h]
  generalize sByt.getD i [] = L at h2
  rw [List.getD_eq_getElem?_getD, List.getElem?_eq_getElem h2]
  exact List.getElem_mem h2
theorem i2c_nI {k : Nat} (h : k < 65536) : ((nI k).toUInt32 % 65536).toInt32 = nI k := by
  apply Int32.toBitVec_inj.mp
  show (BitVec.ofNat 32 k) % 65536#32 = BitVec.ofNat 32 k
  apply BitVec.eq_of_toNat_eq
  rw [BitVec.toNat_umod]
  show BitVec.toNat (BitVec.ofNat 32 k) % 65536 = _
  rw [BitVec.toNat_ofNat]
  omega
def STR (adK adV : Nat → Nat) (A : Nat → Prop) (U : State) (H : Heap) : Prop :=
  vk_S 16 sLen sByt adK adV A U H ∧ va_Z "java/lang/String" "COMPACT_STRINGS" "Z" (.int 1) A U H ∧ (vk_R RX11 119 "yz" (adK 0) U ∧ vk_R RX3 125 "[" (adK 1) U ∧ vk_R RX3 127 "]" (adK 2) U ∧ vk_R RX3 129 "fsdnckyzmxtvw" (adK 3) U ∧ vk_R RX3 131 "0123456789" (adK 4) U ∧ vk_R RX3 123 "*/%" (adK 5) U ∧ vk_R RX3 118 "+-" (adK 6) U ∧ vk_R RX3 84 "(" (adK 7) U ∧ vk_R RX3 107 "!" (adK 8) U ∧ vk_R RX3 92 ")" (adK 9) U ∧ vk_R RX3 113 "<>=" (adK 10) U ∧ vk_R RX3 105 "&" (adK 11) U ∧ vk_R RX3 97 "|" (adK 12) U ∧ vk_R RX3 50 ";" (adK 13) U ∧ vk_R RX11 125 "abg" (adK 14) U ∧ vk_R RX11 127 "e" (adK 15) U)
section STRS
variable {adK adV : Nat → Nat} {A B : Nat → Prop} {s U : State} {H H1 : Heap}
theorem STR.kept (h : STR adK adV A s H) (hq : ∀ a : Nat, a < H.size → ¬ A a → H1[a]? = H[a]?) : STR adK adV A s H1 := ⟨h.1.kept hq, h.2.1.kept hq, h.2.2⟩
theorem STR.narrow (h : STR adK adV A s H) (hAB : ∀ q, B q → A q) : STR adK adV B s H := ⟨h.1.narrow hAB, h.2.1.narrow hAB, h.2.2⟩
theorem STR.warm (h : STR adK adV A s H) (hW : s.WarmedH U.vm) : STR adK adV A U H := by
  obtain ⟨h1, h2, b0, b1, b2, b3, b4, b5, b6, b7, b8, b9, b10, b11, b12, b13, b14, b15⟩ := h
  exact ⟨vk_S.moved hW.alike h1, va_Z.moved hW.alike h2, b0.warm hW, b1.warm hW, b2.warm hW, b3.warm hW, b4.warm hW, b5.warm hW, b6.warm hW, b7.warm hW, b8.warm hW, b9.warm hW, b10.warm hW, b11.warm hW, b12.warm hW, b13.warm hW, b14.warm hW, b15.warm hW⟩
theorem STR.same (h : STR adK adV A s H) (hv : s.vm = U.vm) : STR adK adV A U H := by
  obtain ⟨h1, h2, b0, b1, b2, b3, b4, b5, b6, b7, b8, b9, b10, b11, b12, b13, b14, b15⟩ := h
  exact ⟨vk_S.moved (by rw [hv]; exact Vm.Alike.refl _) h1, va_Z.moved (by rw [hv]; exact Vm.Alike.refl _) h2, vk_R.same hv.symm b0, vk_R.same hv.symm b1, vk_R.same hv.symm b2, vk_R.same hv.symm b3, vk_R.same hv.symm b4, vk_R.same hv.symm b5, vk_R.same hv.symm b6, vk_R.same hv.symm b7, vk_R.same hv.symm b8, vk_R.same hv.symm b9, vk_R.same hv.symm b10, vk_R.same hv.symm b11, vk_R.same hv.symm b12, vk_R.same hv.symm b13, vk_R.same hv.symm b14, vk_R.same hv.symm b15⟩
end STRS
def PXZ (D : va_G) (cI cB cZ cJ : ClassId) (tx : List (ClassId × FieldType)) (adK adV : Nat → Nat) (ws wa : va_W) (sz : Nat) (U : State) : Prop := PX D cI cB cZ cJ tx ws sz U ∧ STR adK adV (va_A wa sz) U U.heap
theorem pxz_blind {D : va_G} {cI cB cZ cJ : ClassId} {tx : List (ClassId × FieldType)} {adK adV : Nat → Nat} {ws wa : va_W} {sz : Nat} {av : List Value} : FrameBlind (va_Pc av (PXZ D cI cB cZ cJ tx adK adV ws wa sz)) := fun a U g mk q => ⟨q.1, (px_blind a U g mk ⟨q.1, q.2.1⟩).2, STR.same (U := U.calling g mk _) q.2.2 rfl⟩
abbrev RzI (l : Launch) (D : va_G) (cI cB cZ cJ : ClassId) (tx : List (ClassId × FieldType)) (adK adV : Nat → Nat) (y : MethodName) (cc : ByteArray) (mL : Nat) (ret : Option FieldType) (F : Nat) (av : List Value) (ws : va_W) (post : Int32 → Prop) : Prop := ∀ sz : Nat, Met l y (wsY y cc mL ret) (rmX F 0 0) (va_Pc av (PXZ D cI cB cZ cJ tx adK adV ws [] sz)) (va_Qi (fun r (_ : Unit) => post r) (fun _ _ => True) (va_A [] sz)) 0 0 (va_A [] sz)
abbrev WzI (l : Launch) (D : va_G) (cI cB cZ cJ : ClassId) (tx : List (ClassId × FieldType)) (adK adV : Nat → Nat) (y : MethodName) (cc : ByteArray) (mL : Nat) (ret : Option FieldType) (F mc ms : Nat) (av : List Value) (ws : va_W) {S : Type} (post : Int32 → S → Prop) (w1 : S → va_W) : Prop := ∀ sz : Nat, Met l y (wsY y cc mL ret) (rmX F mc ms) (va_Pc av (PXZ D cI cB cZ cJ tx adK adV ws ws sz)) (va_Qi post (fun u => BX D (va_A ws sz) (w1 u)) (va_A ws sz)) mc ms (va_A ws sz)
abbrev WzV (l : Launch) (D : va_G) (cI cB cZ cJ : ClassId) (tx : List (ClassId × FieldType)) (adK adV : Nat → Nat) (y : MethodName) (cc : ByteArray) (mL : Nat) (ret : Option FieldType) (F mc ms : Nat) (av : List Value) (ws : va_W) {S : Type} (post : S → Prop) (w1 : S → va_W) : Prop := ∀ sz : Nat, Met l y (wsY y cc mL ret) (rmX F mc ms) (va_Pc av (PXZ D cI cB cZ cJ tx adK adV ws ws sz)) (va_Qv post (fun u => BX D (va_A ws sz) (w1 u)) (va_A ws sz)) mc ms (va_A ws sz)
section OPENZ
variable {l : Launch} {D : va_G} {cI cB cZ cJ : ClassId} {tx : List (ClassId × FieldType)} {adK adV : Nat → Nat} {y : MethodName} {cc : ByteArray} {mL : Nat} {ret : Option FieldType} {F mc ms : Nat} {av : List Value} {ws : va_W}
theorem rzi_of2 {post : Int32 → Prop} (hy : plainFor y = true) (hn : (lg_sl av).length ≤ mL) (body : ∀ (p : Program) (e : Env) (s : State) (m : MethodId) (below : List Frame) (meth : Method) (c : Code) (A : Nat → Prop) (ls : Array Slot) (H : Heap) (locs : List Loc), CTX p s m meth c av.toArray y cc mL ret → KX D cI cB cZ cJ tx s → STR adK adV A s s.heap → va_P D vwCl ws H → va_D (fun _ => True) ws → (∀ q : Nat, s.heap.size ≤ q → A q) → va_S A s.heap H locs → lv_has ls mL (lv_args 0 av) →
    W p l e (rmX F 0 0) s m av.toArray below meth c H locs 0 0 (MQ below (va_Qi (fun r (_ : Unit) => post r) (fun _ _ => True) A) av.toArray s 0 0 A) (F0 m 0 ls [])) : RzI l D cI cB cZ cJ tx adK adV y cc mL ret F av ws post := by
  intro sz
  refine Met_ofWF (cc := cc) (maxL := mL) (ret := ret) hy rfl ?_
  intro p e s m args below meth c s₁ B hml hv
  obtain ⟨rfl, ⟨hsz, hP, hK, hD0⟩, hZ⟩ := hv
  subst hsz
  have hl := lv_entry av (n := mL) hn
  rw [lg_entry_eq]
  exact body p e s m below meth c _ _ s.heap [] (ctx_of B hml) hK hZ hP hD0 (fun q h => Or.inr h) va_S.rf hl
theorem wzi_of2 {S : Type} {post : Int32 → S → Prop} {w1 : S → va_W} (hy : plainFor y = true) (hn : (lg_sl av).length ≤ mL) (body : ∀ (p : Program) (e : Env) (s : State) (m : MethodId) (below : List Frame) (meth : Method) (c : Code) (A : Nat → Prop) (ls : Array Slot) (H : Heap) (locs : List Loc), CTX p s m meth c av.toArray y cc mL ret → KX D cI cB cZ cJ tx s → STR adK adV A s s.heap → va_P D vwCl ws H → va_D A ws → (∀ q : Nat, s.heap.size ≤ q → A q) → va_S A s.heap H locs → lv_has ls mL (lv_args 0 av) →
    W p l e (rmX F mc ms) s m av.toArray below meth c H locs 0 0 (MQ below (va_Qi post (fun u => BX D A (w1 u)) A) av.toArray s mc ms A) (F0 m 0 ls [])) : WzI l D cI cB cZ cJ tx adK adV y cc mL ret F mc ms av ws post w1 := by
  intro sz
  refine Met_ofWF (cc := cc) (maxL := mL) (ret := ret) hy rfl ?_
  intro p e s m args below meth c s₁ B hml hv
  obtain ⟨rfl, ⟨hsz, hP, hK, hD0⟩, hZ⟩ := hv
  subst hsz
  have hl := lv_entry av (n := mL) hn
  rw [lg_entry_eq]
  exact body p e s m below meth c _ _ s.heap [] (ctx_of B hml) hK hZ hP hD0.self (fun q h => Or.inr h) va_S.rf hl
theorem wzv_of2 {S : Type} {post : S → Prop} {w1 : S → va_W} (hy : plainFor y = true) (hn : (lg_sl av).length ≤ mL) (body : ∀ (p : Program) (e : Env) (s : State) (m : MethodId) (below : List Frame) (meth : Method) (c : Code) (A : Nat → Prop) (ls : Array Slot) (H : Heap) (locs : List Loc), CTX p s m meth c av.toArray y cc mL ret → KX D cI cB cZ cJ tx s → STR adK adV A s s.heap → va_P D vwCl ws H → va_D A ws → (∀ q : Nat, s.heap.size ≤ q → A q) → va_S A s.heap H locs → lv_has ls mL (lv_args 0 av) →
    W p l e (rmX F mc ms) s m av.toArray below meth c H locs 0 0 (MQ below (va_Qv post (fun u => BX D A (w1 u)) A) av.toArray s mc ms A) (F0 m 0 ls [])) : WzV l D cI cB cZ cJ tx adK adV y cc mL ret F mc ms av ws post w1 := by
  intro sz
  refine Met_ofWF (cc := cc) (maxL := mL) (ret := ret) hy rfl ?_
  intro p e s m args below meth c s₁ B hml hv
  obtain ⟨rfl, ⟨hsz, hP, hK, hD0⟩, hZ⟩ := hv
  subst hsz
  have hl := lv_entry av (n := mL) hn
  rw [lg_entry_eq]
  exact body p e s m below meth c _ _ s.heap [] (ctx_of B hml) hK hZ hP hD0.self (fun q h => Or.inr h) va_S.rf hl
end OPENZ
section CALLZ
variable {s : State} {H : Heap} {D : va_G} {cI cB cZ cJ : ClassId} {tx : List (ClassId × FieldType)} {adK adV : Nat → Nat} {A : Nat → Prop} {locs : List Loc} {wp wa : va_W} {av : List Value}
theorem pz (hp : PreS s H (va_Pc av (PX D cI cB cZ cJ tx wp H.size)) av) (hZ : STR adK adV A s s.heap) (hS : va_S A s.heap H locs) (hF : ∀ q, va_A wa H.size q → A q) : PreS s H (va_Pc av (PXZ D cI cB cZ cJ tx adK adV wp wa H.size)) av :=
  ⟨pxz_blind, fun U hU hW => ⟨(hp.2 U hU hW).1, (hp.2 U hU hW).2, by rw [hU]; exact ((hZ.kept hS.2.1).narrow hF).warm hW⟩⟩
theorem pVS {i : Nat} {Pc : Array Value → State → Prop} {As : List Value} (hp : PreS s H Pc (.ref (adK i) :: As)) (hZ : STR adK adV A s s.heap) (hi : i < 16) (hS : va_S A s.heap H locs) : PreV s H RJ0 (adK i) Pc As := ⟨hp.1, vk_recv hZ.1 hi hS, hp.2⟩
end CALLZ
section LOADZ
variable {p : Program} {l : Launch} {e : Env} {R : Room} {s : State} {m : MethodId} {args : Array Value} {below : List Frame} {meth : Method} {c : Code} {H : Heap} {locs : List Loc} {cells slots : Nat} {Q : State → Prop}
variable {cc : ByteArray} {pc : Nat} {ls : Array Slot} {rest : List Value} {A : Nat → Prop} {adK adV : Nat → Nat}
theorem sb_ld {i j : Nat} (hexec : p.tables.exec = Jvm.exec) (hb : c.code = cc) (hZ : STR adK adV A s s.heap) (hS : va_S A s.heap H locs) (hi : i < 16) (hj : j < sLen.getD i 0) (hdg : decode cc pc = .ok (.baload, 1))
    (kk : W p l e R s m args below meth c H locs cells slots Q (F0 m (pc + 1) ls (.int ((sByt.getD i []).getD j 0) :: rest))) : W p l e R s m args below meth c H locs cells slots Q (F0 m pc ls (.int (nI j) :: .ref (adV i) :: rest)) := by
  have h13 := (s_len i hi).2.2
  refine va_tb hexec hb (hZ.1.1 i hi).2.2.2 hS (vp_in_nI hj (by omega)) (v := .int ((sByt.getD i []).getD j 0)) ?_ hdg kk
  rw [nI_clamp (by omega)]
end LOADZ
def SG (sg : Int32) (pa en : Nat) : Prop := sg = -1 ∨ ∃ k : Nat, k < 256 ∧ sg = nI k ∧ pa < en
def tR (x0 x1 x2 x3 : Nat → Nat) : Nat → Option Nat := fun j => if j = 0 then some (x0 0) else if j = 1 then some (x1 0) else if j = 2 then some (x2 0) else if j = 3 then some (x3 0) else none
theorem tR_up0 (x0 x1 x2 x3 y : Nat → Nat) : va_up (tR x0 x1 x2 x3) (0 : Int32).toNatClampNeg (some (y 0)) = tR y x1 x2 x3 := by
  funext j
  show (if j = 0 then some (y 0) else tR x0 x1 x2 x3 j) = tR y x1 x2 x3 j
  unfold tR
  by_cases h : j = 0
  · subst h; simp
  · simp [h]
theorem tR_up1 (x0 x1 x2 x3 y : Nat → Nat) : va_up (tR x0 x1 x2 x3) (1 : Int32).toNatClampNeg (some (y 0)) = tR x0 y x2 x3 := by
  funext j
  show (if j = 1 then some (y 0) else tR x0 x1 x2 x3 j) = tR x0 y x2 x3 j
  unfold tR
  by_cases h : j = 1
  · subst h; simp
  · simp [h]
theorem tR_up2 (x0 x1 x2 x3 y : Nat → Nat) : va_up (tR x0 x1 x2 x3) (2 : Int32).toNatClampNeg (some (y 0)) = tR x0 x1 y x3 := by
  funext j
  show (if j = 2 then some (y 0) else tR x0 x1 x2 x3 j) = tR x0 x1 y x3 j
  unfold tR
  by_cases h : j = 2
  · subst h; simp
  · simp [h]
theorem tR_up3 (x0 x1 x2 x3 y : Nat → Nat) : va_up (tR x0 x1 x2 x3) (3 : Int32).toNatClampNeg (some (y 0)) = tR x0 x1 x2 y := by
  funext j
  show (if j = 3 then some (y 0) else tR x0 x1 x2 x3 j) = tR x0 x1 x2 y j
  unfold tR
  by_cases h : j = 3
  · subst h; simp
  · simp [h]
theorem pk_shr0 (x : Int32) : x >>> ((0 : Int32) &&& 31) = x := Int32.toInt_inj.mp (by rw [pk_shr x _ 0 (by decide)]; simp)
theorem lf_J0_coder_1 (i0 : Nat) (hi0 : i0 < 16) : i0 < 16 := by
  first | rfl | assumption
theorem lf_J0_coder_2 (i0 : Nat) (hi0 : i0 < 16) : (0 : Int32) = 0 := by
  first | rfl | assumption
set_option maxHeartbeats 4000000 in
set_option maxRecDepth 100000 in
theorem c_J0_coder (l : Launch) (D : va_G) (cI cB cZ cJ : ClassId) (tx : List (ClassId × FieldType)) (adK adV : Nat → Nat) (i0 : Nat) (hi0 : i0 < 16) : RzI l D cI cB cZ cJ tx adK adV yJ0_coder_7d493 cJ0_coder_7d493 1 (some .byte) 0 [.ref (adK i0)] [] (fun r => r = 0) := by
  refine rzi_of2 (by decide +kernel) (Nat.le_of_ble_eq_true rfl) ?_
  intro p e s m below meth c A ls H locs hC hK hZ hP hD hA hS hl
  obtain ⟨hx, hb, hr, hml, hown, hts, hlocks, hin⟩ := hC
  have hown : s.vm.findClass RJ0 = some m.cls := hown
  have hl : lv_has ls 1 [(0, .ref (adK i0))] := hl
  refine va_gets hx hb hZ.2.1 hS hown (hts _ k_588) (fun _ h9 => h9) dJ0_coder_7d493_0 ?_
  refine lv_if_eq (tgt := 13) hx hb dJ0_coder_7d493_3 (by decide) (fun c => absurd c (by decide)) (fun _ => ?_)
  refine lv_aload_n hx hb dJ0_coder_7d493_6 rfl (lv_at hl 0 rfl) ?_
  refine vk_getf hx hb (hZ.1.1 i0 (lf_J0_coder_1 i0 hi0)).2.1 hS hown (hts _ k_2129) (fun _ h9 => h9) dJ0_coder_7d493_7 ?_
  refine lv_goto (tgt := 14) hx hb dJ0_coder_7d493_10 (by decide) ?_
  exact W.zret (v := 0) hx hb hr (by decide) (fun tt9 ht hW => ⟨⟨(0 : Int32), (), rfl, (lf_J0_coder_2 i0 hi0), trivial⟩, hS.F ht⟩) hS.2.2 dJ0_coder_7d493_14 hlocks

theorem lf_J0_isLatin1_1 (i0 : Nat) (hi0 : i0 < 16) : i0 < 16 := by
  first | rfl | assumption
theorem lf_J0_isLatin1_2 (i0 : Nat) (hi0 : i0 < 16) : (1 : Int32) = 1 := by
  first | rfl | assumption
set_option maxHeartbeats 4000000 in
set_option maxRecDepth 100000 in
theorem c_J0_isLatin1 (l : Launch) (D : va_G) (cI cB cZ cJ : ClassId) (tx : List (ClassId × FieldType)) (adK adV : Nat → Nat) (i0 : Nat) (hi0 : i0 < 16) : RzI l D cI cB cZ cJ tx adK adV yJ0_isLatin1_aae02 cJ0_isLatin1_aae02 1 (some .boolean) 0 [.ref (adK i0)] [] (fun r => r = 1) := by
  refine rzi_of2 (by decide +kernel) (Nat.le_of_ble_eq_true rfl) ?_
  intro p e s m below meth c A ls H locs hC hK hZ hP hD hA hS hl
  obtain ⟨hx, hb, hr, hml, hown, hts, hlocks, hin⟩ := hC
  have hown : s.vm.findClass RJ0 = some m.cls := hown
  have hl : lv_has ls 1 [(0, .ref (adK i0))] := hl
  refine va_gets hx hb hZ.2.1 hS hown (hts _ k_588) (fun _ h9 => h9) dJ0_isLatin1_aae02_0 ?_
  refine lv_if_eq (tgt := 17) hx hb dJ0_isLatin1_aae02_3 (by decide) (fun c => absurd c (by decide)) (fun _ => ?_)
  refine lv_aload_n hx hb dJ0_isLatin1_aae02_6 rfl (lv_at hl 0 rfl) ?_
  refine vk_getf hx hb (hZ.1.1 i0 (lf_J0_isLatin1_1 i0 hi0)).2.1 hS hown (hts _ k_2129) (fun _ h9 => h9) dJ0_isLatin1_aae02_7 ?_
  refine lv_if_ne (tgt := 17) hx hb dJ0_isLatin1_aae02_10 (by decide) (fun c => absurd c (by decide)) (fun _ => ?_)
  refine lv_iconst (v := 1) hx hb dJ0_isLatin1_aae02_13 (by decide) ?_
  refine lv_goto (tgt := 18) hx hb dJ0_isLatin1_aae02_14 (by decide) ?_
  exact W.zret (v := 1) hx hb hr (by decide) (fun tt9 ht hW => ⟨⟨(1 : Int32), (), rfl, (lf_J0_isLatin1_2 i0 hi0), trivial⟩, hS.F ht⟩) hS.2.2 dJ0_isLatin1_aae02_18 hlocks

theorem lf_J0_length_1 (i0 : Nat) (hi0 : i0 < 16) : i0 < 16 := by
  assumption
theorem lf_J0_length_2 (i0 : Nat) (hi0 : i0 < 16) : i0 < 16 := by
  assumption
theorem lf_J0_length_3 (i0 : Nat) (hi0 : i0 < 16) : i0 < 16 := by
  first | assumption | omega | decide
theorem lf_J0_length_4 (i0 : Nat) (hi0 : i0 < 16) : i0 < 16 := by
  assumption
theorem lf_J0_length_7 (i0 : Nat) (hi0 : i0 < 16) (x_6 : Int32) (ex_6 : x_6 = nI (sLen.getD i0 0) >>> (0 &&& 31)) : (x_6 : Int32) = nI (sLen.getD i0 0) := by
  subst_vars; exact pk_shr0 _
set_option maxHeartbeats 4000000 in
set_option maxRecDepth 100000 in
theorem c_J0_length (l : Launch) (D : va_G) (cI cB cZ cJ : ClassId) (tx : List (ClassId × FieldType)) (adK adV : Nat → Nat) (i0 : Nat) (hi0 : i0 < 16) : RzI l D cI cB cZ cJ tx adK adV yJ0_length_8abf5 cJ0_length_8abf5 1 (some .int) 1 [.ref (adK i0)] [] (fun r => r = nI (sLen.getD i0 0)) := by
  refine rzi_of2 (by decide +kernel) (Nat.le_of_ble_eq_true rfl) ?_
  intro p e s m below meth c A ls H locs hC hK hZ hP hD hA hS hl
  obtain ⟨hx, hb, hr, hml, hown, hts, hlocks, hin⟩ := hC
  have hown : s.vm.findClass RJ0 = some m.cls := hown
  have hl : lv_has ls 1 [(0, .ref (adK i0))] := hl
  refine lv_aload_n hx hb dJ0_length_8abf5_0 rfl (lv_at hl 0 rfl) ?_
  refine vk_getf hx hb (hZ.1.1 i0 (lf_J0_length_1 i0 hi0)).2.2.1 hS hown (hts _ k_2130) (fun _ h9 => h9) dJ0_length_8abf5_1 ?_
  refine va_tlen (v := nI (sLen.getD i0 0)) hx hb (hZ.1.1 i0 (lf_J0_length_2 i0 hi0)).2.2.2 hS rfl dJ0_length_8abf5_4 ?_
  refine lv_aload_n hx hb dJ0_length_8abf5_5 rfl (lv_at hl 0 rfl) ?_
  refine eRi (va_runV (As := []) (rest := [.int (nI (sLen.getD i0 0))]) ⟨hx, hb, hml, hown, hts⟩ (c_J0_coder l D cI cB cZ cJ tx adK adV i0 (lf_J0_length_3 i0 hi0) H.size) (zV hts k_594 v_J0_coder_7d493 ⟨Nat.le_of_ble_eq_true rfl, Nat.le_of_ble_eq_true rfl⟩) (pVS (pz (px0 hK) hZ hS (aR hS hA)) hZ (lf_J0_length_4 i0 hi0) hS) rfl rfl hl.1 rfl (lv_room (Nat.le_of_ble_eq_true rfl)) dJ0_length_8abf5_6 ⟨Nat.le_of_ble_eq_true rfl, Nat.le_of_ble_eq_true rfl⟩) hP hS hA (fun r_5 H locs wr_5 hP hS => ?_)
  subst wr_5
  refine lv_ishr hx hb dJ0_length_8abf5_9 ?_
  refine lv_topi (fun x_6 ex_6 => ?_)
  exact W.iret (v := x_6) hx hb hr (fun tt9 ht hW => ⟨⟨(x_6 : Int32), (), rfl, (lf_J0_length_7 i0 hi0 x_6 ex_6), trivial⟩, hS.F ht⟩) hS.2.2 dJ0_length_8abf5_10 hlocks

theorem lf_J1_canEncode_1 (k0 : Nat) (hk0 : k0 < 256) : ¬ nI k0 < 0 := by
  first | exact nI_pos (by omega) | exact nI_pos' (by omega)
theorem lf_J1_canEncode_4 (k0 : Nat) (hk0 : k0 < 256) (c_2 : 255 < nI k0) : 255 < k0 := by
  exact (nI_ltI (a := 255) (b := k0) (by omega) (by omega)).mp c_2
theorem lf_J1_canEncode_5 (k0 : Nat) (hk0 : k0 < 256) (c_2 : 255 < nI k0) (n_3 : 255 < k0) : (0 : Int32) = 1 := by
  first | rfl | omega
theorem lf_J1_canEncode_7 (k0 : Nat) (hk0 : k0 < 256) (c_2 : ¬ 255 < nI k0) : k0 ≤ 255 := by
  exact Nat.le_of_not_lt (fun q => c_2 ((nI_ltI (a := 255) (b := k0) (by omega) (by omega)).mpr q))
theorem lf_J1_canEncode_8 (k0 : Nat) (hk0 : k0 < 256) (c_2 : ¬ 255 < nI k0) (n_6 : k0 ≤ 255) : (1 : Int32) = 1 := by
  first | rfl | omega
set_option maxHeartbeats 4000000 in
set_option maxRecDepth 100000 in
theorem c_J1_canEncode (l : Launch) (D : va_G) (cI cB cZ cJ : ClassId) (tx : List (ClassId × FieldType)) (k0 : Nat) (hk0 : k0 < 256) : RdI l D cI cB cZ cJ tx yJ1_canEncode_9a6ad cJ1_canEncode_9a6ad 1 (some .boolean) 0 [.int (nI k0)] [] (fun r => r = 1) := by
  refine rdi_of2 (by decide) (Nat.le_of_ble_eq_true rfl) ?_
  intro p e s m below meth c A ls H locs hC hK hP hD hA hS hl
  obtain ⟨hx, hb, hr, hml, hown, hts, hlocks, hin⟩ := hC
  have hown : s.vm.findClass RJ1 = some m.cls := hown
  have hl : lv_has ls 1 [(0, .int (nI k0))] := hl
  refine lv_iload_n hx hb dJ1_canEncode_9a6ad_0 rfl (lv_at hl 0 rfl) ?_
  refine lv_if_lt (tgt := 15) hx hb dJ1_canEncode_9a6ad_1 (by decide) (fun c => absurd c (lf_J1_canEncode_1 k0 hk0)) (fun _ => ?_)
  refine lv_iload_n hx hb dJ1_canEncode_9a6ad_4 rfl (lv_at hl 0 rfl) ?_
  refine lv_sipush (v := 255) hx hb dJ1_canEncode_9a6ad_5 (by decide) ?_
  refine lv_icmp_gt (tgt := 15) hx hb dJ1_canEncode_9a6ad_8 (by decide) (fun c_2 => ?_) (fun c_2 => ?_)
  · have n_3 : 255 < k0 := (lf_J1_canEncode_4 k0 hk0 c_2)
    refine lv_iconst (v := 0) hx hb dJ1_canEncode_9a6ad_15 (by decide) ?_
    exact W.zret (v := 0) hx hb hr (by decide) (fun tt9 ht hW => ⟨⟨(0 : Int32), (), rfl, (lf_J1_canEncode_5 k0 hk0 c_2 n_3), trivial⟩, hS.F ht⟩) hS.2.2 dJ1_canEncode_9a6ad_16 hlocks
  · have n_6 : k0 ≤ 255 := (lf_J1_canEncode_7 k0 hk0 c_2)
    refine lv_iconst (v := 1) hx hb dJ1_canEncode_9a6ad_11 (by decide) ?_
    refine lv_goto (tgt := 16) hx hb dJ1_canEncode_9a6ad_12 (by decide) ?_
    exact W.zret (v := 1) hx hb hr (by decide) (fun tt9 ht hW => ⟨⟨(1 : Int32), (), rfl, (lf_J1_canEncode_8 k0 hk0 c_2 n_6), trivial⟩, hS.F ht⟩) hS.2.2 dJ1_canEncode_9a6ad_16 hlocks

theorem lf_J1_indexOfChar_4 (i0 : Nat) (k0 : Nat) (hi0 : i0 < 16) (hk0 : k0 < 256) (hln : sLen.getD i0 0 ≤ 13) (x_1 : Int32) (ex_1 : x_1 = (nI k0).toInt8.toInt32) (j1 : Nat) (k7 : Nat) (hj7 : j1 ≤ (sLen.getD i0 0)) (hk7 : (sLen.getD i0 0) < j1 + (k7 + 1)) (c_2 : nI (sLen.getD i0 0) ≤ nI j1) : (sLen.getD i0 0) ≤ j1 := by
  exact (nI_leI (a := (sLen.getD i0 0)) (b := j1) (by omega) (by omega)).mp c_2
theorem lf_J1_indexOfChar_5 (i0 : Nat) (k0 : Nat) (hi0 : i0 < 16) (hk0 : k0 < 256) (hln : sLen.getD i0 0 ≤ 13) (x_1 : Int32) (ex_1 : x_1 = (nI k0).toInt8.toInt32) (j1 : Nat) (k7 : Nat) (hj7 : j1 ≤ (sLen.getD i0 0)) (hk7 : (sLen.getD i0 0) < j1 + (k7 + 1)) (c_2 : nI (sLen.getD i0 0) ≤ nI j1) (n_3 : (sLen.getD i0 0) ≤ j1) : 0 ≤ ((-1) : Int32) → sHas i0 k0 = true := by
  first | exact fun q => absurd q (by decide) | (subst_vars; exact fun _ => s_has hi0 (by assumption) (by assumption))
theorem lf_J1_indexOfChar_7 (i0 : Nat) (k0 : Nat) (hi0 : i0 < 16) (hk0 : k0 < 256) (hln : sLen.getD i0 0 ≤ 13) (x_1 : Int32) (ex_1 : x_1 = (nI k0).toInt8.toInt32) (j1 : Nat) (k7 : Nat) (hj7 : j1 ≤ (sLen.getD i0 0)) (hk7 : (sLen.getD i0 0) < j1 + (k7 + 1)) (c_2 : ¬ nI (sLen.getD i0 0) ≤ nI j1) : j1 < (sLen.getD i0 0) := by
  exact Nat.lt_of_not_le (fun q => c_2 ((nI_leI (a := (sLen.getD i0 0)) (b := j1) (by omega) (by omega)).mpr q))
theorem lf_J1_indexOfChar_8 (i0 : Nat) (k0 : Nat) (hi0 : i0 < 16) (hk0 : k0 < 256) (hln : sLen.getD i0 0 ≤ 13) (x_1 : Int32) (ex_1 : x_1 = (nI k0).toInt8.toInt32) (j1 : Nat) (k7 : Nat) (hj7 : j1 ≤ (sLen.getD i0 0)) (hk7 : (sLen.getD i0 0) < j1 + (k7 + 1)) (c_2 : ¬ nI (sLen.getD i0 0) ≤ nI j1) (n_6 : j1 < (sLen.getD i0 0)) : i0 < 16 := by
  first | assumption | omega
theorem lf_J1_indexOfChar_9 (i0 : Nat) (k0 : Nat) (hi0 : i0 < 16) (hk0 : k0 < 256) (hln : sLen.getD i0 0 ≤ 13) (x_1 : Int32) (ex_1 : x_1 = (nI k0).toInt8.toInt32) (j1 : Nat) (k7 : Nat) (hj7 : j1 ≤ (sLen.getD i0 0)) (hk7 : (sLen.getD i0 0) < j1 + (k7 + 1)) (c_2 : ¬ nI (sLen.getD i0 0) ≤ nI j1) (n_6 : j1 < (sLen.getD i0 0)) : j1 < sLen.getD i0 0 := by
  omega
theorem lf_J1_indexOfChar_11 (i0 : Nat) (k0 : Nat) (hi0 : i0 < 16) (hk0 : k0 < 256) (hln : sLen.getD i0 0 ≤ 13) (x_1 : Int32) (ex_1 : x_1 = (nI k0).toInt8.toInt32) (j1 : Nat) (k7 : Nat) (hj7 : j1 ≤ (sLen.getD i0 0)) (hk7 : (sLen.getD i0 0) < j1 + (k7 + 1)) (c_2 : ¬ nI (sLen.getD i0 0) ≤ nI j1) (n_6 : j1 < (sLen.getD i0 0)) (c_10 : (sByt.getD i0 []).getD j1 0 = x_1) : 0 ≤ (nI j1 : Int32) → sHas i0 k0 = true := by
  first | exact fun q => absurd q (by decide) | (subst_vars; exact fun _ => s_has hi0 (by assumption) (by assumption))
set_option maxHeartbeats 4000000 in
set_option maxRecDepth 100000 in
theorem c_J1_indexOfChar (l : Launch) (D : va_G) (cI cB cZ cJ : ClassId) (tx : List (ClassId × FieldType)) (adK adV : Nat → Nat) (i0 : Nat) (k0 : Nat) (hi0 : i0 < 16) (hk0 : k0 < 256) (hln : sLen.getD i0 0 ≤ 13) : RzI l D cI cB cZ cJ tx adK adV yJ1_indexOfChar_4cfef cJ1_indexOfChar_4cfef 6 (some .int) 0 [.ref (adV i0), .int (nI k0), .int 0, .int (nI (sLen.getD i0 0))] [] (fun r => 0 ≤ r → sHas i0 k0 = true) := by
  refine rzi_of2 (by decide +kernel) (Nat.le_of_ble_eq_true rfl) ?_
  intro p e s m below meth c A ls H locs hC hK hZ hP hD hA hS hl
  obtain ⟨hx, hb, hr, hml, hown, hts, hlocks, hin⟩ := hC
  have hown : s.vm.findClass RJ1 = some m.cls := hown
  have hl : lv_has ls 6 [(0, .ref (adV i0)), (1, .int (nI k0)), (2, .int 0), (3, .int (nI (sLen.getD i0 0)))] := hl
  refine lv_iload_n hx hb dJ1_indexOfChar_4cfef_0 rfl (lv_at hl 1 rfl) ?_
  refine lv_i2b hx hb dJ1_indexOfChar_4cfef_1 rfl ?_
  refine lv_topi (fun x_1 ex_1 => ?_)
  refine lv_istore (lv' := [(4, .int x_1), (0, .ref (adV i0)), (1, .int (nI k0)), (2, .int 0), (3, .int (nI (sLen.getD i0 0)))]) hx hb dJ1_indexOfChar_4cfef_2 hl (by decide) rfl (fun ls hl => ?_)
  refine lv_iload_n hx hb dJ1_indexOfChar_4cfef_4 rfl (lv_at hl 3 rfl) ?_
  refine lv_istore (lv' := [(5, .int 0), (4, .int x_1), (0, .ref (adV i0)), (1, .int (nI k0)), (2, .int 0), (3, .int (nI (sLen.getD i0 0)))]) hx hb dJ1_indexOfChar_4cfef_5 hl (by decide) rfl (fun ls hl => ?_)
  have lp7 : ∀ (k7 : Nat) (j1 : Nat) (H : Heap) (locs : List Loc) (ls : Array Slot), j1 ≤ (sLen.getD i0 0) → (sLen.getD i0 0) < j1 + k7 → va_P D vwCl [] H → va_S A s.heap H locs → lv_has ls 6 [(5, .int (nI j1)), (4, .int x_1), (0, .ref (adV i0)), (1, .int (nI k0)), (2, .int 0), (3, .int (nI (sLen.getD i0 0)))] → W p l e (rmX 0 0 0) s m ([.ref (adV i0), .int (nI k0), .int 0, .int (nI (sLen.getD i0 0))] : List Value).toArray below meth c H locs 0 0 (MQ below (va_Qi (fun r (_ : Unit) => (fun r => 0 ≤ r → sHas i0 k0 = true) r) (fun _ _ => True) A) ([.ref (adV i0), .int (nI k0), .int 0, .int (nI (sLen.getD i0 0))] : List Value).toArray s 0 0 A) (F0 m 7 ls []) := by
    intro k7
    induction k7 with
    | zero =>
      intro j1 H locs ls hj7 hk7  hP hS hl
      exact absurd hk7 (by omega)
    | succ k7 ih7 =>
      intro j1 H locs ls hj7 hk7  hP hS hl
      refine lv_iload hx hb dJ1_indexOfChar_4cfef_7 (lv_at hl 0 rfl) ?_
      refine lv_iload_n hx hb dJ1_indexOfChar_4cfef_9 rfl (lv_at hl 5 rfl) ?_
      refine lv_icmp_ge (tgt := 31) hx hb dJ1_indexOfChar_4cfef_10 (by decide) (fun c_2 => ?_) (fun c_2 => ?_)
      · have n_3 : (sLen.getD i0 0) ≤ j1 := (lf_J1_indexOfChar_4 i0 k0 hi0 hk0 hln x_1 ex_1 j1 k7 hj7 hk7 c_2)
        refine lv_iconst (v := (-1)) hx hb dJ1_indexOfChar_4cfef_31 (by decide) ?_
        exact W.iret (v := (-1)) hx hb hr (fun tt9 ht hW => ⟨⟨((-1) : Int32), (), rfl, (lf_J1_indexOfChar_5 i0 k0 hi0 hk0 hln x_1 ex_1 j1 k7 hj7 hk7 c_2 n_3), trivial⟩, hS.F ht⟩) hS.2.2 dJ1_indexOfChar_4cfef_32 hlocks
      · have n_6 : j1 < (sLen.getD i0 0) := (lf_J1_indexOfChar_7 i0 k0 hi0 hk0 hln x_1 ex_1 j1 k7 hj7 hk7 c_2)
        refine lv_aload_n hx hb dJ1_indexOfChar_4cfef_13 rfl (lv_at hl 2 rfl) ?_
        refine lv_iload hx hb dJ1_indexOfChar_4cfef_14 (lv_at hl 0 rfl) ?_
        refine sb_ld (j := j1) hx hb hZ hS (lf_J1_indexOfChar_8 i0 k0 hi0 hk0 hln x_1 ex_1 j1 k7 hj7 hk7 c_2 n_6) (lf_J1_indexOfChar_9 i0 k0 hi0 hk0 hln x_1 ex_1 j1 k7 hj7 hk7 c_2 n_6) dJ1_indexOfChar_4cfef_16 ?_
        refine lv_iload hx hb dJ1_indexOfChar_4cfef_17 (lv_at hl 1 rfl) ?_
        refine lv_icmp_ne (tgt := 25) hx hb dJ1_indexOfChar_4cfef_19 (by decide) (fun c_10 => ?_) (fun c_10 => ?_)
        · refine lv_iinc (v := nI (j1 + 1)) (lv' := [(5, .int (nI (j1 + 1))), (4, .int x_1), (0, .ref (adV i0)), (1, .int (nI k0)), (2, .int 0), (3, .int (nI (sLen.getD i0 0)))]) hx hb dJ1_indexOfChar_4cfef_25 hl (k := 0) rfl (nI_1 j1) (by decide) rfl (fun ls hl => ?_)
          refine lv_goto (tgt := 7) hx hb dJ1_indexOfChar_4cfef_28 (by decide) ?_
          exact ih7 (j1 + 1)  H locs ls (by omega) (by omega)  (hP.sub [] rfl)  hS (lv_sub hl [0, 1, 2, 3, 4, 5] rfl)
        · refine lv_iload hx hb dJ1_indexOfChar_4cfef_22 (lv_at hl 0 rfl) ?_
          exact W.iret (v := nI j1) hx hb hr (fun tt9 ht hW => ⟨⟨(nI j1 : Int32), (), rfl, (lf_J1_indexOfChar_11 i0 k0 hi0 hk0 hln x_1 ex_1 j1 k7 hj7 hk7 c_2 n_6 c_10), trivial⟩, hS.F ht⟩) hS.2.2 dJ1_indexOfChar_4cfef_24 hlocks
  exact lp7 ((sLen.getD i0 0) + 1) 0  H locs ls (by omega) (by omega)  (hP.sub [] rfl)  hS (lv_sub hl [0, 1, 2, 3, 4, 5] rfl)

theorem lf_J1_indexOf_1 (i0 : Nat) (k0 : Nat) (hi0 : i0 < 16) (hk0 : k0 < 256) (hln : sLen.getD i0 0 ≤ 13) : k0 < 256 := by
  first | assumption | omega | decide | exact (s_len _ (by assumption)).2.2
theorem lf_J1_indexOf_4 (i0 : Nat) (k0 : Nat) (hi0 : i0 < 16) (hk0 : k0 < 256) (hln : sLen.getD i0 0 ≤ 13) : i0 < 16 := by
  first | assumption | omega
theorem lf_J1_indexOf_8 (i0 : Nat) (k0 : Nat) (hi0 : i0 < 16) (hk0 : k0 < 256) (hln : sLen.getD i0 0 ≤ 13) (c_6 : (0 : Int32) < nI (sLen.getD i0 0)) : 0 < (sLen.getD i0 0) := by
  exact (nI_ltI (a := 0) (b := (sLen.getD i0 0)) (by omega) (by omega)).mp c_6
theorem lf_J1_indexOf_9 (i0 : Nat) (k0 : Nat) (hi0 : i0 < 16) (hk0 : k0 < 256) (hln : sLen.getD i0 0 ≤ 13) (c_6 : (0 : Int32) < nI (sLen.getD i0 0)) (n_7 : 0 < (sLen.getD i0 0)) : i0 < 16 := by
  first | assumption | omega | decide | exact (s_len _ (by assumption)).2.2
theorem lf_J1_indexOf_10 (i0 : Nat) (k0 : Nat) (hi0 : i0 < 16) (hk0 : k0 < 256) (hln : sLen.getD i0 0 ≤ 13) (c_6 : (0 : Int32) < nI (sLen.getD i0 0)) (n_7 : 0 < (sLen.getD i0 0)) : k0 < 256 := by
  first | assumption | omega | decide | exact (s_len _ (by assumption)).2.2
theorem lf_J1_indexOf_11 (i0 : Nat) (k0 : Nat) (hi0 : i0 < 16) (hk0 : k0 < 256) (hln : sLen.getD i0 0 ≤ 13) (c_6 : (0 : Int32) < nI (sLen.getD i0 0)) (n_7 : 0 < (sLen.getD i0 0)) : sLen.getD i0 0 ≤ 13 := by
  first | assumption | omega | decide | exact (s_len _ (by assumption)).2.2
theorem lf_J1_indexOf_13 (i0 : Nat) (k0 : Nat) (hi0 : i0 < 16) (hk0 : k0 < 256) (hln : sLen.getD i0 0 ≤ 13) (c_6 : (0 : Int32) < nI (sLen.getD i0 0)) (n_7 : 0 < (sLen.getD i0 0)) (r_12 : Int32) (wr_12 : 0 ≤ r_12 → sHas i0 k0 = true) : 0 ≤ (r_12 : Int32) → sHas i0 k0 = true := by
  first | assumption | exact fun q => absurd q (by decide)
theorem lf_J1_indexOf_15 (i0 : Nat) (k0 : Nat) (hi0 : i0 < 16) (hk0 : k0 < 256) (hln : sLen.getD i0 0 ≤ 13) (c_6 : ¬ (0 : Int32) < nI (sLen.getD i0 0)) : (sLen.getD i0 0) ≤ 0 := by
  exact Nat.le_of_not_lt (fun q => c_6 ((nI_ltI (a := 0) (b := (sLen.getD i0 0)) (by omega) (by omega)).mpr q))
theorem lf_J1_indexOf_16 (i0 : Nat) (k0 : Nat) (hi0 : i0 < 16) (hk0 : k0 < 256) (hln : sLen.getD i0 0 ≤ 13) (c_6 : ¬ (0 : Int32) < nI (sLen.getD i0 0)) (n_14 : (sLen.getD i0 0) ≤ 0) : 0 ≤ ((-1) : Int32) → sHas i0 k0 = true := by
  first | assumption | exact fun q => absurd q (by decide)
set_option maxHeartbeats 4000000 in
set_option maxRecDepth 100000 in
theorem c_J1_indexOf (l : Launch) (D : va_G) (cI cB cZ cJ : ClassId) (tx : List (ClassId × FieldType)) (adK adV : Nat → Nat) (i0 : Nat) (k0 : Nat) (hi0 : i0 < 16) (hk0 : k0 < 256) (hln : sLen.getD i0 0 ≤ 13) : RzI l D cI cB cZ cJ tx adK adV yJ1_indexOf_4cfef cJ1_indexOf_4cfef 4 (some .int) 1 [.ref (adV i0), .int (nI k0), .int 0, .int (nI (sLen.getD i0 0))] [] (fun r => 0 ≤ r → sHas i0 k0 = true) := by
  refine rzi_of2 (by decide +kernel) (Nat.le_of_ble_eq_true rfl) ?_
  intro p e s m below meth c A ls H locs hC hK hZ hP hD hA hS hl
  obtain ⟨hx, hb, hr, hml, hown, hts, hlocks, hin⟩ := hC
  have hown : s.vm.findClass RJ1 = some m.cls := hown
  have hl : lv_has ls 4 [(0, .ref (adV i0)), (1, .int (nI k0)), (2, .int 0), (3, .int (nI (sLen.getD i0 0)))] := hl
  refine lv_iload_n hx hb dJ1_indexOf_4cfef_0 rfl (lv_at hl 1 rfl) ?_
  refine eRi (va_runS (As := [.int (nI k0)]) (rest := []) ⟨hx, hb, hml, hown, hts⟩ (c_J1_canEncode l D cI cB cZ cJ tx k0 (lf_J1_indexOf_1 i0 k0 hi0 hk0 hln) H.size) (zS hts k_601 v_J1_canEncode_9a6ad ⟨Nat.le_of_ble_eq_true rfl, Nat.le_of_ble_eq_true rfl⟩) (px0 hK) rfl rfl hl.1 rfl (lv_room (Nat.le_of_ble_eq_true rfl)) dJ1_indexOf_4cfef_1 ⟨Nat.le_of_ble_eq_true rfl, Nat.le_of_ble_eq_true rfl⟩) hP hS hA (fun r_2 H locs wr_2 hP hS => ?_)
  subst wr_2
  refine lv_if_ne (tgt := 9) hx hb dJ1_indexOf_4cfef_4 (by decide) (fun _ => ?_) (fun c => absurd c (by decide))
  refine lv_iload_n hx hb dJ1_indexOf_4cfef_9 rfl (lv_at hl 2 rfl) ?_
  refine lv_iconst (v := 0) hx hb dJ1_indexOf_4cfef_10 (by decide) ?_
  refine va_mmax hx hb (by rw [hml]; exact hl.1.symm) hown (hts _ k_604) (hts _ k_605) (hts _ k_131) (hts _ k_606) (Nat.le_of_ble_eq_true rfl) (Nat.le_of_ble_eq_true rfl) (Nat.le_of_ble_eq_true rfl) (Nat.le_of_ble_eq_true rfl) dJ1_indexOf_4cfef_11 ?_
  refine lv_topv (y := 0) (by decide) ?_
  refine lv_istore_n (lv' := [(2, .int 0), (0, .ref (adV i0)), (1, .int (nI k0)), (3, .int (nI (sLen.getD i0 0)))]) hx hb dJ1_indexOf_4cfef_14 rfl hl (by decide) rfl (fun ls hl => ?_)
  refine lv_iload_n hx hb dJ1_indexOf_4cfef_15 rfl (lv_at hl 3 rfl) ?_
  refine lv_aload_n hx hb dJ1_indexOf_4cfef_16 rfl (lv_at hl 1 rfl) ?_
  refine va_tlen (v := nI (sLen.getD i0 0)) hx hb (hZ.1.1 i0 (lf_J1_indexOf_4 i0 k0 hi0 hk0 hln)).2.2.2 hS rfl dJ1_indexOf_4cfef_17 ?_
  refine va_mmin hx hb (by rw [hml]; exact hl.1.symm) hown (hts _ k_607) (hts _ k_608) (hts _ k_131) (hts _ k_609) (Nat.le_of_ble_eq_true rfl) (Nat.le_of_ble_eq_true rfl) (Nat.le_of_ble_eq_true rfl) (Nat.le_of_ble_eq_true rfl) dJ1_indexOf_4cfef_18 ?_
  refine lv_topv (y := nI (sLen.getD i0 0)) (ite_self _) ?_
  refine lv_istore_n (lv' := [(3, .int (nI (sLen.getD i0 0))), (2, .int 0), (0, .ref (adV i0)), (1, .int (nI k0))]) hx hb dJ1_indexOf_4cfef_21 rfl hl (by decide) rfl (fun ls hl => ?_)
  refine lv_iload_n hx hb dJ1_indexOf_4cfef_22 rfl (lv_at hl 1 rfl) ?_
  refine lv_iload_n hx hb dJ1_indexOf_4cfef_23 rfl (lv_at hl 0 rfl) ?_
  refine lv_icmp_lt (tgt := 29) hx hb dJ1_indexOf_4cfef_24 (by decide) (fun c_6 => ?_) (fun c_6 => ?_)
  · have n_7 : 0 < (sLen.getD i0 0) := (lf_J1_indexOf_8 i0 k0 hi0 hk0 hln c_6)
    refine lv_aload_n hx hb dJ1_indexOf_4cfef_29 rfl (lv_at hl 2 rfl) ?_
    refine lv_iload_n hx hb dJ1_indexOf_4cfef_30 rfl (lv_at hl 3 rfl) ?_
    refine lv_iload_n hx hb dJ1_indexOf_4cfef_31 rfl (lv_at hl 1 rfl) ?_
    refine lv_iload_n hx hb dJ1_indexOf_4cfef_32 rfl (lv_at hl 0 rfl) ?_
    refine eRi (va_runS (As := [.ref (adV i0), .int (nI k0), .int 0, .int (nI (sLen.getD i0 0))]) (rest := []) ⟨hx, hb, hml, hown, hts⟩ (c_J1_indexOfChar l D cI cB cZ cJ tx adK adV i0 k0 (lf_J1_indexOf_9 i0 k0 hi0 hk0 hln c_6 n_7) (lf_J1_indexOf_10 i0 k0 hi0 hk0 hln c_6 n_7) (lf_J1_indexOf_11 i0 k0 hi0 hk0 hln c_6 n_7) H.size) (zS hts k_610 v_J1_indexOfChar_4cfef ⟨Nat.le_of_ble_eq_true rfl, Nat.le_of_ble_eq_true rfl⟩) (pz (px0 hK) hZ hS (aR hS hA)) rfl rfl hl.1 rfl (lv_room (Nat.le_of_ble_eq_true rfl)) dJ1_indexOf_4cfef_33 ⟨Nat.le_of_ble_eq_true rfl, Nat.le_of_ble_eq_true rfl⟩) hP hS hA (fun r_12 H locs wr_12 hP hS => ?_)
    exact W.iret (v := r_12) hx hb hr (fun tt9 ht hW => ⟨⟨(r_12 : Int32), (), rfl, (lf_J1_indexOf_13 i0 k0 hi0 hk0 hln c_6 n_7 r_12 wr_12), trivial⟩, hS.F ht⟩) hS.2.2 dJ1_indexOf_4cfef_36 hlocks
  · have n_14 : (sLen.getD i0 0) ≤ 0 := (lf_J1_indexOf_15 i0 k0 hi0 hk0 hln c_6)
    refine lv_iconst (v := (-1)) hx hb dJ1_indexOf_4cfef_27 (by decide) ?_
    exact W.iret (v := (-1)) hx hb hr (fun tt9 ht hW => ⟨⟨((-1) : Int32), (), rfl, (lf_J1_indexOf_16 i0 k0 hi0 hk0 hln c_6 n_14), trivial⟩, hS.F ht⟩) hS.2.2 dJ1_indexOf_4cfef_28 hlocks

theorem lf_J0_indexOf2_1 (i0 : Nat) (k0 : Nat) (hi0 : i0 < 16) (hk0 : k0 < 256) : i0 < 16 := by
  first | assumption | omega | decide | exact (s_len _ (by assumption)).2.2
theorem lf_J0_indexOf2_2 (i0 : Nat) (k0 : Nat) (hi0 : i0 < 16) (hk0 : k0 < 256) : i0 < 16 := by
  first | assumption | omega
theorem lf_J0_indexOf2_4 (i0 : Nat) (k0 : Nat) (hi0 : i0 < 16) (hk0 : k0 < 256) : i0 < 16 := by
  first | assumption | omega
theorem lf_J0_indexOf2_5 (i0 : Nat) (k0 : Nat) (hi0 : i0 < 16) (hk0 : k0 < 256) : i0 < 16 := by
  first | assumption | omega | decide | exact (s_len _ (by assumption)).2.2
theorem lf_J0_indexOf2_6 (i0 : Nat) (k0 : Nat) (hi0 : i0 < 16) (hk0 : k0 < 256) : i0 < 16 := by
  first | assumption | omega
theorem lf_J0_indexOf2_8 (i0 : Nat) (k0 : Nat) (hi0 : i0 < 16) (hk0 : k0 < 256) : i0 < 16 := by
  first | assumption | omega | decide | exact (s_len _ (by assumption)).2.2
theorem lf_J0_indexOf2_9 (i0 : Nat) (k0 : Nat) (hi0 : i0 < 16) (hk0 : k0 < 256) : k0 < 256 := by
  first | assumption | omega | decide | exact (s_len _ (by assumption)).2.2
theorem lf_J0_indexOf2_10 (i0 : Nat) (k0 : Nat) (hi0 : i0 < 16) (hk0 : k0 < 256) : sLen.getD i0 0 ≤ 13 := by
  first | assumption | omega | decide | exact (s_len _ (by assumption)).2.2
theorem lf_J0_indexOf2_12 (i0 : Nat) (k0 : Nat) (hi0 : i0 < 16) (hk0 : k0 < 256) (r_11 : Int32) (wr_11 : 0 ≤ r_11 → sHas i0 k0 = true) : 0 ≤ (r_11 : Int32) → sHas i0 k0 = true := by
  first | assumption | exact fun q => absurd q (by decide)
set_option maxHeartbeats 4000000 in
set_option maxRecDepth 100000 in
theorem c_J0_indexOf2 (l : Launch) (D : va_G) (cI cB cZ cJ : ClassId) (tx : List (ClassId × FieldType)) (adK adV : Nat → Nat) (i0 : Nat) (k0 : Nat) (hi0 : i0 < 16) (hk0 : k0 < 256) : RzI l D cI cB cZ cJ tx adK adV yJ0_indexOf_7cf53 cJ0_indexOf_7cf53 3 (some .int) 2 [.ref (adK i0), .int (nI k0), .int 0] [] (fun r => 0 ≤ r → sHas i0 k0 = true) := by
  refine rzi_of2 (by decide +kernel) (Nat.le_of_ble_eq_true rfl) ?_
  intro p e s m below meth c A ls H locs hC hK hZ hP hD hA hS hl
  obtain ⟨hx, hb, hr, hml, hown, hts, hlocks, hin⟩ := hC
  have hown : s.vm.findClass RJ0 = some m.cls := hown
  have hl : lv_has ls 3 [(0, .ref (adK i0)), (1, .int (nI k0)), (2, .int 0)] := hl
  refine lv_aload_n hx hb dJ0_indexOf_7cf53_0 rfl (lv_at hl 0 rfl) ?_
  refine eRi (va_runV (As := []) (rest := []) ⟨hx, hb, hml, hown, hts⟩ (c_J0_isLatin1 l D cI cB cZ cJ tx adK adV i0 (lf_J0_indexOf2_1 i0 k0 hi0 hk0) H.size) (zV hts k_584 v_J0_isLatin1_aae02 ⟨Nat.le_of_ble_eq_true rfl, Nat.le_of_ble_eq_true rfl⟩) (pVS (pz (px0 hK) hZ hS (aR hS hA)) hZ (lf_J0_indexOf2_2 i0 k0 hi0 hk0) hS) rfl rfl hl.1 rfl (lv_room (Nat.le_of_ble_eq_true rfl)) dJ0_indexOf_7cf53_1 ⟨Nat.le_of_ble_eq_true rfl, Nat.le_of_ble_eq_true rfl⟩) hP hS hA (fun r_3 H locs wr_3 hP hS => ?_)
  subst wr_3
  refine lv_if_eq (tgt := 23) hx hb dJ0_indexOf_7cf53_4 (by decide) (fun c => absurd c (by decide)) (fun _ => ?_)
  refine lv_aload_n hx hb dJ0_indexOf_7cf53_7 rfl (lv_at hl 0 rfl) ?_
  refine vk_getf hx hb (hZ.1.1 i0 (lf_J0_indexOf2_4 i0 k0 hi0 hk0)).2.2.1 hS hown (hts _ k_2130) (fun _ h9 => h9) dJ0_indexOf_7cf53_8 ?_
  refine lv_iload_n hx hb dJ0_indexOf_7cf53_11 rfl (lv_at hl 1 rfl) ?_
  refine lv_iload_n hx hb dJ0_indexOf_7cf53_12 rfl (lv_at hl 2 rfl) ?_
  refine lv_aload_n hx hb dJ0_indexOf_7cf53_13 rfl (lv_at hl 0 rfl) ?_
  refine eRi (va_runV (As := []) (rest := [.int 0, .int (nI k0), .ref (adV i0)]) ⟨hx, hb, hml, hown, hts⟩ (c_J0_length l D cI cB cZ cJ tx adK adV i0 (lf_J0_indexOf2_5 i0 k0 hi0 hk0) H.size) (zV hts k_590 v_J0_length_8abf5 ⟨Nat.le_of_ble_eq_true rfl, Nat.le_of_ble_eq_true rfl⟩) (pVS (pz (px0 hK) hZ hS (aR hS hA)) hZ (lf_J0_indexOf2_6 i0 k0 hi0 hk0) hS) rfl rfl hl.1 rfl (lv_room (Nat.le_of_ble_eq_true rfl)) dJ0_indexOf_7cf53_14 ⟨Nat.le_of_ble_eq_true rfl, Nat.le_of_ble_eq_true rfl⟩) hP hS hA (fun r_7 H locs wr_7 hP hS => ?_)
  subst wr_7
  refine eRi (va_runS (As := [.ref (adV i0), .int (nI k0), .int 0, .int (nI (sLen.getD i0 0))]) (rest := []) ⟨hx, hb, hml, hown, hts⟩ (c_J1_indexOf l D cI cB cZ cJ tx adK adV i0 k0 (lf_J0_indexOf2_8 i0 k0 hi0 hk0) (lf_J0_indexOf2_9 i0 k0 hi0 hk0) (lf_J0_indexOf2_10 i0 k0 hi0 hk0) H.size) (zS hts k_598 v_J1_indexOf_4cfef ⟨Nat.le_of_ble_eq_true rfl, Nat.le_of_ble_eq_true rfl⟩) (pz (px0 hK) hZ hS (aR hS hA)) rfl rfl hl.1 rfl (lv_room (Nat.le_of_ble_eq_true rfl)) dJ0_indexOf_7cf53_17 ⟨Nat.le_of_ble_eq_true rfl, Nat.le_of_ble_eq_true rfl⟩) hP hS hA (fun r_11 H locs wr_11 hP hS => ?_)
  refine lv_goto (tgt := 36) hx hb dJ0_indexOf_7cf53_20 (by decide) ?_
  exact W.iret (v := r_11) hx hb hr (fun tt9 ht hW => ⟨⟨(r_11 : Int32), (), rfl, (lf_J0_indexOf2_12 i0 k0 hi0 hk0 r_11 wr_11), trivial⟩, hS.F ht⟩) hS.2.2 dJ0_indexOf_7cf53_36 hlocks

theorem lf_J0_indexOf1_1 (i0 : Nat) (k0 : Nat) (hi0 : i0 < 16) (hk0 : k0 < 256) : i0 < 16 := by
  first | assumption | omega | decide | exact (s_len _ (by assumption)).2.2
theorem lf_J0_indexOf1_2 (i0 : Nat) (k0 : Nat) (hi0 : i0 < 16) (hk0 : k0 < 256) : k0 < 256 := by
  first | assumption | omega | decide | exact (s_len _ (by assumption)).2.2
theorem lf_J0_indexOf1_3 (i0 : Nat) (k0 : Nat) (hi0 : i0 < 16) (hk0 : k0 < 256) : i0 < 16 := by
  first | assumption | omega
theorem lf_J0_indexOf1_5 (i0 : Nat) (k0 : Nat) (hi0 : i0 < 16) (hk0 : k0 < 256) (r_4 : Int32) (wr_4 : 0 ≤ r_4 → sHas i0 k0 = true) : 0 ≤ (r_4 : Int32) → sHas i0 k0 = true := by
  first | assumption | exact fun q => absurd q (by decide)
set_option maxHeartbeats 4000000 in
set_option maxRecDepth 100000 in
theorem c_J0_indexOf1 (l : Launch) (D : va_G) (cI cB cZ cJ : ClassId) (tx : List (ClassId × FieldType)) (adK adV : Nat → Nat) (i0 : Nat) (k0 : Nat) (hi0 : i0 < 16) (hk0 : k0 < 256) : RzI l D cI cB cZ cJ tx adK adV yJ0_indexOf_0f7a4 cJ0_indexOf_0f7a4 2 (some .int) 3 [.ref (adK i0), .int (nI k0)] [] (fun r => 0 ≤ r → sHas i0 k0 = true) := by
  refine rzi_of2 (by decide +kernel) (Nat.le_of_ble_eq_true rfl) ?_
  intro p e s m below meth c A ls H locs hC hK hZ hP hD hA hS hl
  obtain ⟨hx, hb, hr, hml, hown, hts, hlocks, hin⟩ := hC
  have hown : s.vm.findClass RJ0 = some m.cls := hown
  have hl : lv_has ls 2 [(0, .ref (adK i0)), (1, .int (nI k0))] := hl
  refine lv_aload_n hx hb dJ0_indexOf_0f7a4_0 rfl (lv_at hl 0 rfl) ?_
  refine lv_iload_n hx hb dJ0_indexOf_0f7a4_1 rfl (lv_at hl 1 rfl) ?_
  refine lv_iconst (v := 0) hx hb dJ0_indexOf_0f7a4_2 (by decide) ?_
  refine eRi (va_runV (As := [.int (nI k0), .int 0]) (rest := []) ⟨hx, hb, hml, hown, hts⟩ (c_J0_indexOf2 l D cI cB cZ cJ tx adK adV i0 k0 (lf_J0_indexOf1_1 i0 k0 hi0 hk0) (lf_J0_indexOf1_2 i0 k0 hi0 hk0) H.size) (zV hts k_580 v_J0_indexOf_7cf53 ⟨Nat.le_of_ble_eq_true rfl, Nat.le_of_ble_eq_true rfl⟩) (pVS (pz (px0 hK) hZ hS (aR hS hA)) hZ (lf_J0_indexOf1_3 i0 k0 hi0 hk0) hS) rfl rfl hl.1 rfl (lv_room (Nat.le_of_ble_eq_true rfl)) dJ0_indexOf_0f7a4_3 ⟨Nat.le_of_ble_eq_true rfl, Nat.le_of_ble_eq_true rfl⟩) hP hS hA (fun r_4 H locs wr_4 hP hS => ?_)
  exact W.iret (v := r_4) hx hb hr (fun tt9 ht hW => ⟨⟨(r_4 : Int32), (), rfl, (lf_J0_indexOf1_5 i0 k0 hi0 hk0 r_4 wr_4), trivial⟩, hS.F ht⟩) hS.2.2 dJ0_indexOf_0f7a4_6 hlocks

theorem sg_of {sg : Int32} {pa en : Nat} (h : SG sg pa en) (c : ¬ sg < 0) : ∃ k : Nat, k < 256 ∧ sg = nI k ∧ pa < en := by
  rcases h with rfl | h
  · exact absurd (by decide) c
  · exact h
theorem sg_mk {r : Int32} {pa en : Nat} (h : r = -1 ∨ ∃ k : Nat, k < 256 ∧ r = nI k) (hl : pa < en) : SG r pa en := h.elim Or.inl (fun ⟨k, h1, h2⟩ => Or.inr ⟨k, h1, h2, hl⟩)
theorem sg_nI {k pa en : Nat} (h : k < 256) (hl : pa < en) : SG (nI k) pa en := Or.inr ⟨k, h, rfl, hl⟩
theorem has_use {i k : Nat} {r : Int32} (h : 0 ≤ r → sHas i k = true) (c : ¬ r < 0) : sHas i k = true := h (Int32.not_lt.mp c)
theorem lf_X8_byteAt_b_2 (a : Nat → Nat) (tu : Nat) (tb : Nat → Int32) (n1 : Int32) (htu : tu ≤ 220) (c_1 : n1 < 0) : (((-1) : Int32) = -1 ∨ ∃ k : Nat, k < 256 ∧ ((-1) : Int32) = nI k) := by
  first
    | exact Or.inl rfl
    | (right; subst_vars; exact pk_andE _ 8 (by decide))
theorem lf_X8_byteAt_b_4 (a : Nat → Nat) (tu : Nat) (tb : Nat → Int32) (n1 : Int32) (htu : tu ≤ 220) (c_1 : ¬ n1 < 0) (c_3 : nI tu ≤ n1) : (((-1) : Int32) = -1 ∨ ∃ k : Nat, k < 256 ∧ ((-1) : Int32) = nI k) := by
  first
    | exact Or.inl rfl
    | (right; subst_vars; exact pk_andE _ 8 (by decide))
theorem lf_X8_byteAt_b_5 (a : Nat → Nat) (tu : Nat) (tb : Nat → Int32) (n1 : Int32) (htu : tu ≤ 220) (c_1 : ¬ n1 < 0) (c_3 : ¬ nI tu ≤ n1) : vp_in n1 220 := by
  exact in_lt (by assumption) (by assumption) (by omega) (by decide)
theorem lf_X8_byteAt_b_8 (a : Nat → Nat) (tu : Nat) (tb : Nat → Int32) (n1 : Int32) (htu : tu ≤ 220) (c_1 : ¬ n1 < 0) (c_3 : ¬ nI tu ≤ n1) (x_6 : Int32) (x_7 : Int32) (ex_7 : x_7 = x_6 &&& 255) : ((x_7 : Int32) = -1 ∨ ∃ k : Nat, k < 256 ∧ (x_7 : Int32) = nI k) := by
  first
    | exact Or.inl rfl
    | (right; subst_vars; exact pk_andE _ 8 (by decide))
set_option maxHeartbeats 4000000 in
set_option maxRecDepth 100000 in
theorem c_X8_byteAt_b (l : Launch) (D : va_G) (cI cB cZ cJ : ClassId) (tx : List (ClassId × FieldType)) (a : Nat → Nat) (tu : Nat) (tb : Nat → Int32) (n1 : Int32) (htu : tu ≤ 220) : RdI l D cI cB cZ cJ tx yX8_byteAt cX8_byteAt 2 (some .int) 0 [.ref (a 1), .int n1] [(a 1, .inr (8, [.ref (a 17), .int (nI tu)])), (a 17, .inl (cB, 220, .inl tb))] (fun r => (r = -1 ∨ ∃ k : Nat, k < 256 ∧ r = nI k)) := by
  refine rdi_of2 (by decide) (Nat.le_of_ble_eq_true rfl) ?_
  intro p e s m below meth c A ls H locs hC hK hP hD hA hS hl
  obtain ⟨hx, hb, hr, hml, hown, hts, hlocks, hin⟩ := hC
  have hown : s.vm.findClass RX8 = some m.cls := hown
  have hl : lv_has ls 2 [(0, .ref (a 1)), (1, .int n1)] := hl
  refine lv_iload_n hx hb dX8_byteAt_0 rfl (lv_at hl 1 rfl) ?_
  refine lv_if_lt (tgt := 25) hx hb dX8_byteAt_1 (by decide) (fun c_1 => ?_) (fun c_1 => ?_)
  · refine lv_iconst (v := (-1)) hx hb dX8_byteAt_25 (by decide) ?_
    exact W.iret (v := (-1)) hx hb hr (fun tt9 ht hW => ⟨⟨((-1) : Int32), (), rfl, (lf_X8_byteAt_b_2 a tu tb n1 htu c_1), trivial⟩, hS.F ht⟩) hS.2.2 dX8_byteAt_26 hlocks
  · refine lv_iload_n hx hb dX8_byteAt_4 rfl (lv_at hl 1 rfl) ?_
    refine lv_aload_n hx hb dX8_byteAt_5 rfl (lv_at hl 0 rfl) ?_
    refine va_get (D := D) (ci := 8) (v := .int (nI tu)) (C := RX8) (T := TX8) (N := 2) hx hb hts inT_X8 hown hK.1 hP 0 rfl rfl 1 (by decide) (hts _ k_151) (fun _ h9 => h9) rfl dX8_byteAt_6 ?_
    refine lv_icmp_ge (tgt := 25) hx hb dX8_byteAt_9 (by decide) (fun c_3 => ?_) (fun c_3 => ?_)
    · refine lv_iconst (v := (-1)) hx hb dX8_byteAt_25 (by decide) ?_
      exact W.iret (v := (-1)) hx hb hr (fun tt9 ht hW => ⟨⟨((-1) : Int32), (), rfl, (lf_X8_byteAt_b_4 a tu tb n1 htu c_1 c_3), trivial⟩, hS.F ht⟩) hS.2.2 dX8_byteAt_26 hlocks
    · refine lv_aload_n hx hb dX8_byteAt_12 rfl (lv_at hl 0 rfl) ?_
      refine va_get (D := D) (ci := 8) (v := .ref (a 17)) (C := RX8) (T := TX8) (N := 2) hx hb hts inT_X8 hown hK.1 hP 0 rfl rfl 0 (by decide) (hts _ k_150) (fun _ h9 => h9) rfl dX8_byteAt_13 ?_
      refine lv_iload_n hx hb dX8_byteAt_16 rfl (lv_at hl 1 rfl) ?_
      refine ld_b hx hb hK hP 1 rfl (lf_X8_byteAt_b_5 a tu tb n1 htu c_1 c_3) dX8_byteAt_17 (fun x_6 => ?_)
      refine lv_sipush (v := 255) hx hb dX8_byteAt_18 (by decide) ?_
      refine lv_iand hx hb dX8_byteAt_21 ?_
      refine lv_topi (fun x_7 ex_7 => ?_)
      refine lv_goto (tgt := 26) hx hb dX8_byteAt_22 (by decide) ?_
      exact W.iret (v := x_7) hx hb hr (fun tt9 ht hW => ⟨⟨(x_7 : Int32), (), rfl, (lf_X8_byteAt_b_8 a tu tb n1 htu c_1 c_3 x_6 x_7 ex_7), trivial⟩, hS.F ht⟩) hS.2.2 dX8_byteAt_26 hlocks

theorem lf_X3_advance_0_3 (a : Nat → Nat) (t : Nat → Nat) (en : Nat) (pa : Nat) (sg : Int32) (fa : Int32) (tu : Nat) (tb : Nat → Int32) (htu : tu ≤ 220) (hen : en ≤ 200) (hpa : pa ≤ en) (hlt : pa < en) (c_1 : nI en ≤ nI (pa + 1)) : en ≤ (pa + 1) := by
  exact (nI_leI (a := en) (b := (pa + 1)) (by omega) (by omega)).mp c_1
theorem lf_X3_advance_0_4 (a : Nat → Nat) (t : Nat → Nat) (en : Nat) (pa : Nat) (sg : Int32) (fa : Int32) (tu : Nat) (tb : Nat → Int32) (htu : tu ≤ 220) (hen : en ≤ 200) (hpa : pa ≤ en) (hlt : pa < en) (c_1 : nI en ≤ nI (pa + 1)) (n_2 : en ≤ (pa + 1)) : (((pa + 1) : Nat) = pa + 1) ∧ (((pa + 1) : Nat) ≤ en) ∧ (SG ((-1) : Int32) ((pa + 1) : Nat) en) := by
  first
    | exact ⟨rfl, by omega, Or.inl rfl⟩
    | exact ⟨rfl, by omega, sg_mk (by assumption) (by omega)⟩
theorem lf_X3_advance_0_6 (a : Nat → Nat) (t : Nat → Nat) (en : Nat) (pa : Nat) (sg : Int32) (fa : Int32) (tu : Nat) (tb : Nat → Int32) (htu : tu ≤ 220) (hen : en ≤ 200) (hpa : pa ≤ en) (hlt : pa < en) (c_1 : ¬ nI en ≤ nI (pa + 1)) : (pa + 1) < en := by
  exact Nat.lt_of_not_le (fun q => c_1 ((nI_leI (a := en) (b := (pa + 1)) (by omega) (by omega)).mpr q))
theorem lf_X3_advance_0_7 (a : Nat → Nat) (t : Nat → Nat) (en : Nat) (pa : Nat) (sg : Int32) (fa : Int32) (tu : Nat) (tb : Nat → Int32) (htu : tu ≤ 220) (hen : en ≤ 200) (hpa : pa ≤ en) (hlt : pa < en) (c_1 : ¬ nI en ≤ nI (pa + 1)) (n_5 : (pa + 1) < en) : tu ≤ 220 := by
  first | assumption | omega | decide
theorem lf_X3_advance_0_9 (a : Nat → Nat) (t : Nat → Nat) (en : Nat) (pa : Nat) (sg : Int32) (fa : Int32) (tu : Nat) (tb : Nat → Int32) (htu : tu ≤ 220) (hen : en ≤ 200) (hpa : pa ≤ en) (hlt : pa < en) (c_1 : ¬ nI en ≤ nI (pa + 1)) (n_5 : (pa + 1) < en) (r_8 : Int32) (wr_8 : (r_8 = -1 ∨ ∃ k : Nat, k < 256 ∧ r_8 = nI k)) : (((pa + 1) : Nat) = pa + 1) ∧ (((pa + 1) : Nat) ≤ en) ∧ (SG (r_8 : Int32) ((pa + 1) : Nat) en) := by
  first
    | exact ⟨rfl, by omega, Or.inl rfl⟩
    | exact ⟨rfl, by omega, sg_mk (by assumption) (by omega)⟩
set_option maxHeartbeats 4000000 in
set_option maxRecDepth 100000 in
theorem c_X3_advance_0 (l : Launch) (D : va_G) (cI cB cZ cJ : ClassId) (tx : List (ClassId × FieldType)) (a : Nat → Nat) (t : Nat → Nat) (en : Nat) (pa : Nat) (sg : Int32) (fa : Int32) (tu : Nat) (tb : Nat → Int32) (htu : tu ≤ 220) (hen : en ≤ 200) (hpa : pa ≤ en) (hlt : pa < en) : WrV l D cI cB cZ cJ tx yX3_advance cX3_advance 1 none 1 0 0 [.ref (a 2)] [(a 2, .inr (3, [.ref (a 1), .ref (t 0), .int (nI en), .int (nI pa), .int sg, .int 0, .int fa])), (a 1, .inr (8, [.ref (a 17), .int (nI tu)])), (a 17, .inl (cB, 220, .inl tb))] (fun (v : (Nat) × (Int32)) => (v.1 = pa + 1) ∧ (v.1 ≤ en) ∧ (SG v.2 v.1 en)) (fun v => [(a 2, .inr (3, [.ref (a 1), .ref (t 0), .int (nI en), .int (nI (v.1)), .int v.2, .int 0, .int fa])), (a 1, .inr (8, [.ref (a 17), .int (nI tu)])), (a 17, .inl (cB, 220, .inl tb))]) := by
  refine wrv_of2 (by decide) (Nat.le_of_ble_eq_true rfl) ?_
  intro p e s m below meth c A ls H locs hC hK hP hD hA hS hl
  obtain ⟨hx, hb, hr, hml, hown, hts, hlocks, hin⟩ := hC
  have hown : s.vm.findClass RX3 = some m.cls := hown
  have hl : lv_has ls 1 [(0, .ref (a 2))] := hl
  refine lv_aload_n hx hb dX3_advance_0 rfl (lv_at hl 0 rfl) ?_
  refine lv_dup hx hb dX3_advance_1 rfl ?_
  refine va_get (D := D) (ci := 3) (v := .int (nI pa)) (C := RX3) (T := TX3) (N := 7) hx hb hts inT_X3 hown hK.1 hP 0 rfl rfl 3 (by decide) (hts _ k_168) (fun _ h9 => h9) rfl dX3_advance_2 ?_
  refine lv_iconst (v := 1) hx hb dX3_advance_5 (by decide) ?_
  refine lv_iadd hx hb dX3_advance_6 ?_
  refine lv_topv (y := nI (pa + 1)) (nI_add pa 1) ?_
  refine va_put (D := D) (ci := 3) (v := .int (nI (pa + 1))) (ty := .int) (C := RX3) (T := TX3) (N := 7) hx hb hts inT_X3 tyX3 tyX3_ok nmX3 hown hK.1 hP hD hS 0 rfl rfl 3 (by decide) (hts _ k_168) (fun _ h9 => h9) rfl (by decide +kernel) rfl rfl (Nat.le_of_ble_eq_true rfl) dX3_advance_7 (fun H locs hP hD hS => ?_)
  have hP : va_P D vwCl [(a 2, .inr (3, [.ref (a 1), .ref (t 0), .int (nI en), .int (nI (pa + 1)), .int sg, .int 0, .int fa])), (a 1, .inr (8, [.ref (a 17), .int (nI tu)])), (a 17, .inl (cB, 220, .inl tb))] H := hP
  have hD : va_D A [(a 2, .inr (3, [.ref (a 1), .ref (t 0), .int (nI en), .int (nI (pa + 1)), .int sg, .int 0, .int fa])), (a 1, .inr (8, [.ref (a 17), .int (nI tu)])), (a 17, .inl (cB, 220, .inl tb))] := hD
  refine lv_aload_n hx hb dX3_advance_10 rfl (lv_at hl 0 rfl) ?_
  refine lv_aload_n hx hb dX3_advance_11 rfl (lv_at hl 0 rfl) ?_
  refine va_get (D := D) (ci := 3) (v := .int (nI (pa + 1))) (C := RX3) (T := TX3) (N := 7) hx hb hts inT_X3 hown hK.1 hP 0 rfl rfl 3 (by decide) (hts _ k_168) (fun _ h9 => h9) rfl dX3_advance_12 ?_
  refine lv_aload_n hx hb dX3_advance_15 rfl (lv_at hl 0 rfl) ?_
  refine va_get (D := D) (ci := 3) (v := .int (nI en)) (C := RX3) (T := TX3) (N := 7) hx hb hts inT_X3 hown hK.1 hP 0 rfl rfl 2 (by decide) (hts _ k_167) (fun _ h9 => h9) rfl dX3_advance_16 ?_
  refine lv_icmp_ge (tgt := 36) hx hb dX3_advance_19 (by decide) (fun c_1 => ?_) (fun c_1 => ?_)
  · have n_2 : en ≤ (pa + 1) := (lf_X3_advance_0_3 a t en pa sg fa tu tb htu hen hpa hlt c_1)
    refine lv_iconst (v := (-1)) hx hb dX3_advance_36 (by decide) ?_
    refine va_put (D := D) (ci := 3) (v := .int (-1)) (ty := .int) (C := RX3) (T := TX3) (N := 7) hx hb hts inT_X3 tyX3 tyX3_ok nmX3 hown hK.1 hP hD hS 0 rfl rfl 4 (by decide) (hts _ k_169) (fun _ h9 => h9) rfl (by decide +kernel) rfl rfl (Nat.le_of_ble_eq_true rfl) dX3_advance_37 (fun H locs hP hD hS => ?_)
    have hP : va_P D vwCl [(a 2, .inr (3, [.ref (a 1), .ref (t 0), .int (nI en), .int (nI (pa + 1)), .int (-1), .int 0, .int fa])), (a 1, .inr (8, [.ref (a 17), .int (nI tu)])), (a 17, .inl (cB, 220, .inl tb))] H := hP
    have hD : va_D A [(a 2, .inr (3, [.ref (a 1), .ref (t 0), .int (nI en), .int (nI (pa + 1)), .int (-1), .int 0, .int fa])), (a 1, .inr (8, [.ref (a 17), .int (nI tu)])), (a 17, .inl (cB, 220, .inl tb))] := hD
    exact W.vret hx hb hr (fun tt9 ht hW => ⟨⟨(((pa + 1) : Nat), ((-1) : Int32)), rfl, (lf_X3_advance_0_4 a t en pa sg fa tu tb htu hen hpa hlt c_1 n_2), ⟨by rw [ht]; exact hP, hD⟩⟩, hS.F ht⟩) hS.2.2 dX3_advance_40 hlocks
  · have n_5 : (pa + 1) < en := (lf_X3_advance_0_6 a t en pa sg fa tu tb htu hen hpa hlt c_1)
    refine lv_aload_n hx hb dX3_advance_22 rfl (lv_at hl 0 rfl) ?_
    refine va_get (D := D) (ci := 3) (v := .ref (a 1)) (C := RX3) (T := TX3) (N := 7) hx hb hts inT_X3 hown hK.1 hP 0 rfl rfl 0 (by decide) (hts _ k_165) (fun _ h9 => h9) rfl dX3_advance_23 ?_
    refine lv_aload_n hx hb dX3_advance_26 rfl (lv_at hl 0 rfl) ?_
    refine va_get (D := D) (ci := 3) (v := .int (nI (pa + 1))) (C := RX3) (T := TX3) (N := 7) hx hb hts inT_X3 hown hK.1 hP 0 rfl rfl 3 (by decide) (hts _ k_168) (fun _ h9 => h9) rfl dX3_advance_27 ?_
    refine eRi (va_runV (As := [.int (nI (pa + 1))]) (rest := [.ref (a 2)]) ⟨hx, hb, hml, hown, hts⟩ (c_X8_byteAt_b l D cI cB cZ cJ tx a tu tb (nI (pa + 1)) (lf_X3_advance_0_7 a t en pa sg fa tu tb htu hen hpa hlt c_1 n_5) H.size) (zV hts k_564 v_X8_byteAt ⟨Nat.le_of_ble_eq_true rfl, Nat.le_of_ble_eq_true rfl⟩) (pV (pxS hK hP hD [1, 2] (by decide) rfl) hK hP 1 rfl rfl) rfl rfl hl.1 rfl (lv_room (Nat.le_of_ble_eq_true rfl)) dX3_advance_30 ⟨Nat.le_of_ble_eq_true rfl, Nat.le_of_ble_eq_true rfl⟩) hP hS hA (fun r_8 H locs wr_8 hP hS => ?_)
    refine lv_goto (tgt := 37) hx hb dX3_advance_33 (by decide) ?_
    refine va_put (D := D) (ci := 3) (v := .int r_8) (ty := .int) (C := RX3) (T := TX3) (N := 7) hx hb hts inT_X3 tyX3 tyX3_ok nmX3 hown hK.1 hP hD hS 0 rfl rfl 4 (by decide) (hts _ k_169) (fun _ h9 => h9) rfl (by decide +kernel) rfl rfl (Nat.le_of_ble_eq_true rfl) dX3_advance_37 (fun H locs hP hD hS => ?_)
    have hP : va_P D vwCl [(a 2, .inr (3, [.ref (a 1), .ref (t 0), .int (nI en), .int (nI (pa + 1)), .int r_8, .int 0, .int fa])), (a 1, .inr (8, [.ref (a 17), .int (nI tu)])), (a 17, .inl (cB, 220, .inl tb))] H := hP
    have hD : va_D A [(a 2, .inr (3, [.ref (a 1), .ref (t 0), .int (nI en), .int (nI (pa + 1)), .int r_8, .int 0, .int fa])), (a 1, .inr (8, [.ref (a 17), .int (nI tu)])), (a 17, .inl (cB, 220, .inl tb))] := hD
    exact W.vret hx hb hr (fun tt9 ht hW => ⟨⟨(((pa + 1) : Nat), (r_8 : Int32)), rfl, (lf_X3_advance_0_9 a t en pa sg fa tu tb htu hen hpa hlt c_1 n_5 r_8 wr_8), ⟨by rw [ht]; exact hP, hD⟩⟩, hS.F ht⟩) hS.2.2 dX3_advance_40 hlocks

set_option maxHeartbeats 4000000 in
set_option maxRecDepth 100000 in
theorem c_X3_refuse_0 (l : Launch) (D : va_G) (cI cB cZ cJ : ClassId) (tx : List (ClassId × FieldType)) (a : Nat → Nat) (t : Nat → Nat) (en : Nat) (pa : Nat) (sg : Int32) (fa : Int32) (n1 : Int32) : WrV l D cI cB cZ cJ tx yX3_refuse cX3_refuse 2 none 0 0 0 [.ref (a 2), .int n1] [(a 2, .inr (3, [.ref (a 1), .ref (t 0), .int (nI en), .int (nI pa), .int sg, .int 0, .int fa]))] (fun (v : (Int32)) => True) (fun v => [(a 2, .inr (3, [.ref (a 1), .ref (t 0), .int (nI en), .int (nI pa), .int sg, .int 0, .int v]))]) := by
  refine wrv_of2 (by decide) (Nat.le_of_ble_eq_true rfl) ?_
  intro p e s m below meth c A ls H locs hC hK hP hD hA hS hl
  obtain ⟨hx, hb, hr, hml, hown, hts, hlocks, hin⟩ := hC
  have hown : s.vm.findClass RX3 = some m.cls := hown
  have hl : lv_has ls 2 [(0, .ref (a 2)), (1, .int n1)] := hl
  refine lv_aload_n hx hb dX3_refuse_0 rfl (lv_at hl 0 rfl) ?_
  refine va_get (D := D) (ci := 3) (v := .int fa) (C := RX3) (T := TX3) (N := 7) hx hb hts inT_X3 hown hK.1 hP 0 rfl rfl 6 (by decide) (hts _ k_171) (fun _ h9 => h9) rfl dX3_refuse_1 ?_
  refine lv_if_ne (tgt := 12) hx hb dX3_refuse_4 (by decide) (fun c_1 => ?_) (fun c_1 => ?_)
  · exact W.vret hx hb hr (fun tt9 ht hW => ⟨⟨((fa : Int32)), rfl, trivial, ⟨by rw [ht]; exact hP, hD⟩⟩, hS.F ht⟩) hS.2.2 dX3_refuse_12 hlocks
  · refine lv_aload_n hx hb dX3_refuse_7 rfl (lv_at hl 0 rfl) ?_
    refine lv_iload_n hx hb dX3_refuse_8 rfl (lv_at hl 1 rfl) ?_
    refine va_put (D := D) (ci := 3) (v := .int n1) (ty := .int) (C := RX3) (T := TX3) (N := 7) hx hb hts inT_X3 tyX3 tyX3_ok nmX3 hown hK.1 hP hD hS 0 rfl rfl 6 (by decide) (hts _ k_171) (fun _ h9 => h9) rfl (by decide +kernel) rfl rfl (Nat.le_of_ble_eq_true rfl) dX3_refuse_9 (fun H locs hP hD hS => ?_)
    have hP : va_P D vwCl [(a 2, .inr (3, [.ref (a 1), .ref (t 0), .int (nI en), .int (nI pa), .int sg, .int 0, .int n1]))] H := hP
    have hD : va_D A [(a 2, .inr (3, [.ref (a 1), .ref (t 0), .int (nI en), .int (nI pa), .int sg, .int 0, .int n1]))] := hD
    exact W.vret hx hb hr (fun tt9 ht hW => ⟨⟨((n1 : Int32)), rfl, trivial, ⟨by rw [ht]; exact hP, hD⟩⟩, hS.F ht⟩) hS.2.2 dX3_refuse_12 hlocks

theorem lf_X3_isOneOf_0_2 (a : Nat → Nat) (t : Nat → Nat) (en : Nat) (pa : Nat) (sg : Int32) (fa : Int32) (i0 : Nat) (hi0 : i0 < 16) (hsg : SG sg pa en) (c_1 : ¬ fa = 0) : ((0 : Int32) = 0) ∨ ((0 : Int32) = 1 ∧ ∃ k : Nat, k < 256 ∧ sg = nI k ∧ pa < en ∧ sHas i0 k = true) := by
  first
    | exact Or.inl rfl
    | exact Or.inr ⟨rfl, kq, hkq, by assumption, lkq, has_use (by assumption) (by assumption)⟩
theorem lf_X3_isOneOf_0_4 (a : Nat → Nat) (t : Nat → Nat) (en : Nat) (pa : Nat) (sg : Int32) (fa : Int32) (i0 : Nat) (hi0 : i0 < 16) (hsg : SG sg pa en) (c_1 : fa = 0) (c_3 : sg < 0) : ((0 : Int32) = 0) ∨ ((0 : Int32) = 1 ∧ ∃ k : Nat, k < 256 ∧ sg = nI k ∧ pa < en ∧ sHas i0 k = true) := by
  first
    | exact Or.inl rfl
    | exact Or.inr ⟨rfl, kq, hkq, by assumption, lkq, has_use (by assumption) (by assumption)⟩
theorem lf_X3_isOneOf_0_5 (a : Nat → Nat) (t : Nat → Nat) (en : Nat) (pa : Nat) (sg : Int32) (fa : Int32) (i0 : Nat) (hi0 : i0 < 16) (hsg : SG sg pa en) (c_1 : fa = 0) (c_3 : ¬ sg < 0) (kq : Nat) (hkq : kq < 256) (ekq : sg = nI kq) (lkq : pa < en) : kq < 65536 := by
  omega
theorem lf_X3_isOneOf_0_6 (a : Nat → Nat) (t : Nat → Nat) (en : Nat) (pa : Nat) (sg : Int32) (fa : Int32) (i0 : Nat) (hi0 : i0 < 16) (hsg : SG sg pa en) (c_1 : fa = 0) (c_3 : ¬ sg < 0) (kq : Nat) (hkq : kq < 256) (ekq : sg = nI kq) (lkq : pa < en) : i0 < 16 := by
  first | assumption | omega | decide | exact sg_nI (by assumption) (by assumption)
theorem lf_X3_isOneOf_0_7 (a : Nat → Nat) (t : Nat → Nat) (en : Nat) (pa : Nat) (sg : Int32) (fa : Int32) (i0 : Nat) (hi0 : i0 < 16) (hsg : SG sg pa en) (c_1 : fa = 0) (c_3 : ¬ sg < 0) (kq : Nat) (hkq : kq < 256) (ekq : sg = nI kq) (lkq : pa < en) : kq < 256 := by
  first | assumption | omega | decide | exact sg_nI (by assumption) (by assumption)
theorem lf_X3_isOneOf_0_8 (a : Nat → Nat) (t : Nat → Nat) (en : Nat) (pa : Nat) (sg : Int32) (fa : Int32) (i0 : Nat) (hi0 : i0 < 16) (hsg : SG sg pa en) (c_1 : fa = 0) (c_3 : ¬ sg < 0) (kq : Nat) (hkq : kq < 256) (ekq : sg = nI kq) (lkq : pa < en) : i0 < 16 := by
  first | omega | assumption
theorem lf_X3_isOneOf_0_11 (a : Nat → Nat) (t : Nat → Nat) (en : Nat) (pa : Nat) (sg : Int32) (fa : Int32) (i0 : Nat) (hi0 : i0 < 16) (hsg : SG sg pa en) (c_1 : fa = 0) (c_3 : ¬ sg < 0) (kq : Nat) (hkq : kq < 256) (ekq : sg = nI kq) (lkq : pa < en) (r_9 : Int32) (wr_9 : 0 ≤ r_9 → sHas i0 kq = true) (c_10 : r_9 < 0) : ((0 : Int32) = 0) ∨ ((0 : Int32) = 1 ∧ ∃ k : Nat, k < 256 ∧ sg = nI k ∧ pa < en ∧ sHas i0 k = true) := by
  first
    | exact Or.inl rfl
    | exact Or.inr ⟨rfl, kq, hkq, by assumption, lkq, has_use (by assumption) (by assumption)⟩
theorem lf_X3_isOneOf_0_12 (a : Nat → Nat) (t : Nat → Nat) (en : Nat) (pa : Nat) (sg : Int32) (fa : Int32) (i0 : Nat) (hi0 : i0 < 16) (hsg : SG sg pa en) (c_1 : fa = 0) (c_3 : ¬ sg < 0) (kq : Nat) (hkq : kq < 256) (ekq : sg = nI kq) (lkq : pa < en) (r_9 : Int32) (wr_9 : 0 ≤ r_9 → sHas i0 kq = true) (c_10 : ¬ r_9 < 0) : ((1 : Int32) = 0) ∨ ((1 : Int32) = 1 ∧ ∃ k : Nat, k < 256 ∧ sg = nI k ∧ pa < en ∧ sHas i0 k = true) := by
  first
    | exact Or.inl rfl
    | exact Or.inr ⟨rfl, kq, hkq, by assumption, lkq, has_use (by assumption) (by assumption)⟩
set_option maxHeartbeats 4000000 in
set_option maxRecDepth 100000 in
theorem c_X3_isOneOf_0 (l : Launch) (D : va_G) (cI cB cZ cJ : ClassId) (tx : List (ClassId × FieldType)) (adK adV : Nat → Nat) (a : Nat → Nat) (t : Nat → Nat) (en : Nat) (pa : Nat) (sg : Int32) (fa : Int32) (i0 : Nat) (hi0 : i0 < 16) (hsg : SG sg pa en) : RzI l D cI cB cZ cJ tx adK adV yX3_isOneOf cX3_isOneOf 2 (some .boolean) 4 [.ref (a 2), .ref (adK i0)] [(a 2, .inr (3, [.ref (a 1), .ref (t 0), .int (nI en), .int (nI pa), .int sg, .int 0, .int fa]))] (fun r => (r = 0) ∨ (r = 1 ∧ ∃ k : Nat, k < 256 ∧ sg = nI k ∧ pa < en ∧ sHas i0 k = true)) := by
  refine rzi_of2 (by decide +kernel) (Nat.le_of_ble_eq_true rfl) ?_
  intro p e s m below meth c A ls H locs hC hK hZ hP hD hA hS hl
  obtain ⟨hx, hb, hr, hml, hown, hts, hlocks, hin⟩ := hC
  have hown : s.vm.findClass RX3 = some m.cls := hown
  have hl : lv_has ls 2 [(0, .ref (a 2)), (1, .ref (adK i0))] := hl
  refine lv_aload_n hx hb dX3_isOneOf_0 rfl (lv_at hl 0 rfl) ?_
  refine va_get (D := D) (ci := 3) (v := .int fa) (C := RX3) (T := TX3) (N := 7) hx hb hts inT_X3 hown hK.1 hP 0 rfl rfl 6 (by decide) (hts _ k_171) (fun _ h9 => h9) rfl dX3_isOneOf_1 ?_
  refine lv_if_ne (tgt := 30) hx hb dX3_isOneOf_4 (by decide) (fun c_1 => ?_) (fun c_1 => ?_)
  · refine lv_iconst (v := 0) hx hb dX3_isOneOf_30 (by decide) ?_
    exact W.zret (v := 0) hx hb hr (by decide) (fun tt9 ht hW => ⟨⟨(0 : Int32), (), rfl, (lf_X3_isOneOf_0_2 a t en pa sg fa i0 hi0 hsg c_1), trivial⟩, hS.F ht⟩) hS.2.2 dX3_isOneOf_31 hlocks
  · refine lv_aload_n hx hb dX3_isOneOf_7 rfl (lv_at hl 0 rfl) ?_
    refine va_get (D := D) (ci := 3) (v := .int sg) (C := RX3) (T := TX3) (N := 7) hx hb hts inT_X3 hown hK.1 hP 0 rfl rfl 4 (by decide) (hts _ k_169) (fun _ h9 => h9) rfl dX3_isOneOf_8 ?_
    refine lv_if_lt (tgt := 30) hx hb dX3_isOneOf_11 (by decide) (fun c_3 => ?_) (fun c_3 => ?_)
    · refine lv_iconst (v := 0) hx hb dX3_isOneOf_30 (by decide) ?_
      exact W.zret (v := 0) hx hb hr (by decide) (fun tt9 ht hW => ⟨⟨(0 : Int32), (), rfl, (lf_X3_isOneOf_0_4 a t en pa sg fa i0 hi0 hsg c_1 c_3), trivial⟩, hS.F ht⟩) hS.2.2 dX3_isOneOf_31 hlocks
    · obtain ⟨kq, hkq, ekq, lkq⟩ := sg_of hsg c_3
      subst ekq
      refine lv_aload_n hx hb dX3_isOneOf_14 rfl (lv_at hl 1 rfl) ?_
      refine lv_aload_n hx hb dX3_isOneOf_15 rfl (lv_at hl 0 rfl) ?_
      refine va_get (D := D) (ci := 3) (v := .int (nI kq)) (C := RX3) (T := TX3) (N := 7) hx hb hts inT_X3 hown hK.1 hP 0 rfl rfl 4 (by decide) (hts _ k_169) (fun _ h9 => h9) rfl dX3_isOneOf_16 ?_
      refine lv_i2c hx hb dX3_isOneOf_19 (i2c_nI (lf_X3_isOneOf_0_5 a t en pa (nI kq) fa i0 hi0 hsg c_1 c_3 kq hkq rfl lkq)) ?_
      refine eRi (va_runV (As := [.int (nI kq)]) (rest := []) ⟨hx, hb, hml, hown, hts⟩ (c_J0_indexOf1 l D cI cB cZ cJ tx adK adV i0 kq (lf_X3_isOneOf_0_6 a t en pa (nI kq) fa i0 hi0 hsg c_1 c_3 kq hkq rfl lkq) (lf_X3_isOneOf_0_7 a t en pa (nI kq) fa i0 hi0 hsg c_1 c_3 kq hkq rfl lkq) H.size) (zV hts k_576 v_J0_indexOf_0f7a4 ⟨Nat.le_of_ble_eq_true rfl, Nat.le_of_ble_eq_true rfl⟩) (pVS (pz (px0 hK) hZ hS (aR hS hA)) hZ (lf_X3_isOneOf_0_8 a t en pa (nI kq) fa i0 hi0 hsg c_1 c_3 kq hkq rfl lkq) hS) rfl rfl hl.1 rfl (lv_room (Nat.le_of_ble_eq_true rfl)) dX3_isOneOf_20 ⟨Nat.le_of_ble_eq_true rfl, Nat.le_of_ble_eq_true rfl⟩) hP hS hA (fun r_9 H locs wr_9 hP hS => ?_)
      refine lv_if_lt (tgt := 30) hx hb dX3_isOneOf_23 (by decide) (fun c_10 => ?_) (fun c_10 => ?_)
      · refine lv_iconst (v := 0) hx hb dX3_isOneOf_30 (by decide) ?_
        exact W.zret (v := 0) hx hb hr (by decide) (fun tt9 ht hW => ⟨⟨(0 : Int32), (), rfl, (lf_X3_isOneOf_0_11 a t en pa (nI kq) fa i0 hi0 hsg c_1 c_3 kq hkq rfl lkq r_9 wr_9 c_10), trivial⟩, hS.F ht⟩) hS.2.2 dX3_isOneOf_31 hlocks
      · refine lv_iconst (v := 1) hx hb dX3_isOneOf_26 (by decide) ?_
        refine lv_goto (tgt := 31) hx hb dX3_isOneOf_27 (by decide) ?_
        exact W.zret (v := 1) hx hb hr (by decide) (fun tt9 ht hW => ⟨⟨(1 : Int32), (), rfl, (lf_X3_isOneOf_0_12 a t en pa (nI kq) fa i0 hi0 hsg c_1 c_3 kq hkq rfl lkq r_9 wr_9 c_10), trivial⟩, hS.F ht⟩) hS.2.2 dX3_isOneOf_31 hlocks

theorem lf_X3_take_0_1 (a : Nat → Nat) (t : Nat → Nat) (en : Nat) (pa : Nat) (sg : Int32) (fa : Int32) (tu : Nat) (tb : Nat → Int32) (i0 : Nat) (hi0 : i0 < 16) (htu : tu ≤ 220) (hen : en ≤ 200) (hpa : pa ≤ en) (hsg : SG sg pa en) : i0 < 16 := by
  first | assumption | omega | decide | exact sg_nI (by assumption) (by assumption)
theorem lf_X3_take_0_2 (a : Nat → Nat) (t : Nat → Nat) (en : Nat) (pa : Nat) (sg : Int32) (fa : Int32) (tu : Nat) (tb : Nat → Int32) (i0 : Nat) (hi0 : i0 < 16) (htu : tu ≤ 220) (hen : en ≤ 200) (hpa : pa ≤ en) (hsg : SG sg pa en) : SG sg pa en := by
  first | assumption | omega | decide | exact sg_nI (by assumption) (by assumption)
theorem lf_X3_take_0_6 (a : Nat → Nat) (t : Nat → Nat) (en : Nat) (pa : Nat) (sg : Int32) (fa : Int32) (tu : Nat) (tb : Nat → Int32) (i0 : Nat) (hi0 : i0 < 16) (htu : tu ≤ 220) (hen : en ≤ 200) (hpa : pa ≤ en) (hsg : SG sg pa en) (fa_5 : Int32) : (pa ≤ (pa : Nat)) ∧ ((pa : Nat) ≤ en) ∧ (SG (sg : Int32) (pa : Nat) en) := by
  first | (refine ⟨?_, ?_, ?_⟩ <;> first | omega | assumption) | (refine ⟨?_, ?_, ?_, ?_⟩ <;> first | omega | assumption)
theorem lf_X3_take_0_7 (a : Nat → Nat) (t : Nat → Nat) (en : Nat) (pa : Nat) (sg : Int32) (fa : Int32) (tu : Nat) (tb : Nat → Int32) (i0 : Nat) (hi0 : i0 < 16) (htu : tu ≤ 220) (hen : en ≤ 200) (hpa : pa ≤ en) (hsg : SG sg pa en) (kk3 : Nat) (hkk3 : kk3 < 256) (lkk3 : pa < en) (skk3 : sHas i0 kk3 = true) : tu ≤ 220 := by
  first | assumption | omega | decide | exact sg_nI (by assumption) (by assumption)
theorem lf_X3_take_0_8 (a : Nat → Nat) (t : Nat → Nat) (en : Nat) (pa : Nat) (sg : Int32) (fa : Int32) (tu : Nat) (tb : Nat → Int32) (i0 : Nat) (hi0 : i0 < 16) (htu : tu ≤ 220) (hen : en ≤ 200) (hpa : pa ≤ en) (hsg : SG sg pa en) (kk3 : Nat) (hkk3 : kk3 < 256) (lkk3 : pa < en) (skk3 : sHas i0 kk3 = true) : en ≤ 200 := by
  first | assumption | omega | decide | exact sg_nI (by assumption) (by assumption)
theorem lf_X3_take_0_9 (a : Nat → Nat) (t : Nat → Nat) (en : Nat) (pa : Nat) (sg : Int32) (fa : Int32) (tu : Nat) (tb : Nat → Int32) (i0 : Nat) (hi0 : i0 < 16) (htu : tu ≤ 220) (hen : en ≤ 200) (hpa : pa ≤ en) (hsg : SG sg pa en) (kk3 : Nat) (hkk3 : kk3 < 256) (lkk3 : pa < en) (skk3 : sHas i0 kk3 = true) : pa ≤ en := by
  first | assumption | omega | decide | exact sg_nI (by assumption) (by assumption)
theorem lf_X3_take_0_10 (a : Nat → Nat) (t : Nat → Nat) (en : Nat) (pa : Nat) (sg : Int32) (fa : Int32) (tu : Nat) (tb : Nat → Int32) (i0 : Nat) (hi0 : i0 < 16) (htu : tu ≤ 220) (hen : en ≤ 200) (hpa : pa ≤ en) (hsg : SG sg pa en) (kk3 : Nat) (hkk3 : kk3 < 256) (lkk3 : pa < en) (skk3 : sHas i0 kk3 = true) : pa < en := by
  first | assumption | omega | decide | exact sg_nI (by assumption) (by assumption)
theorem lf_X3_take_0_13 (a : Nat → Nat) (t : Nat → Nat) (en : Nat) (pa : Nat) (sg : Int32) (fa : Int32) (tu : Nat) (tb : Nat → Int32) (i0 : Nat) (hi0 : i0 < 16) (htu : tu ≤ 220) (hen : en ≤ 200) (hpa : pa ≤ en) (hsg : SG sg pa en) (kk3 : Nat) (hkk3 : kk3 < 256) (lkk3 : pa < en) (skk3 : sHas i0 kk3 = true) (pa_12 : Nat) (sg_12 : Int32) (hz_12_0 : pa_12 = pa + 1) (hz_12_1 : pa_12 ≤ en) (hz_12_2 : SG sg_12 pa_12 en) : (pa ≤ (pa_12 : Nat)) ∧ ((pa_12 : Nat) ≤ en) ∧ (SG (sg_12 : Int32) (pa_12 : Nat) en) := by
  first | (refine ⟨?_, ?_, ?_⟩ <;> first | omega | assumption) | (refine ⟨?_, ?_, ?_, ?_⟩ <;> first | omega | assumption)
set_option maxHeartbeats 4000000 in
set_option maxRecDepth 100000 in
theorem c_X3_take_0 (l : Launch) (D : va_G) (cI cB cZ cJ : ClassId) (tx : List (ClassId × FieldType)) (adK adV : Nat → Nat) (a : Nat → Nat) (t : Nat → Nat) (en : Nat) (pa : Nat) (sg : Int32) (fa : Int32) (tu : Nat) (tb : Nat → Int32) (i0 : Nat) (hi0 : i0 < 16) (htu : tu ≤ 220) (hen : en ≤ 200) (hpa : pa ≤ en) (hsg : SG sg pa en) : WzV l D cI cB cZ cJ tx adK adV yX3_take cX3_take 2 none 5 0 0 [.ref (a 2), .ref (adK i0)] [(a 2, .inr (3, [.ref (a 1), .ref (t 0), .int (nI en), .int (nI pa), .int sg, .int 0, .int fa])), (a 1, .inr (8, [.ref (a 17), .int (nI tu)])), (a 17, .inl (cB, 220, .inl tb))] (fun (v : (Nat) × (Int32) × (Int32)) => (pa ≤ v.1) ∧ (v.1 ≤ en) ∧ (SG v.2.1 v.1 en)) (fun v => [(a 2, .inr (3, [.ref (a 1), .ref (t 0), .int (nI en), .int (nI (v.1)), .int v.2.1, .int 0, .int v.2.2])), (a 1, .inr (8, [.ref (a 17), .int (nI tu)])), (a 17, .inl (cB, 220, .inl tb))]) := by
  refine wzv_of2 (by decide +kernel) (Nat.le_of_ble_eq_true rfl) ?_
  intro p e s m below meth c A ls H locs hC hK hZ hP hD hA hS hl
  obtain ⟨hx, hb, hr, hml, hown, hts, hlocks, hin⟩ := hC
  have hown : s.vm.findClass RX3 = some m.cls := hown
  have hl : lv_has ls 2 [(0, .ref (a 2)), (1, .ref (adK i0))] := hl
  refine lv_aload_n hx hb dX3_take_0 rfl (lv_at hl 0 rfl) ?_
  refine lv_aload_n hx hb dX3_take_1 rfl (lv_at hl 1 rfl) ?_
  refine eRi (va_runV (As := [.ref (adK i0)]) (rest := []) ⟨hx, hb, hml, hown, hts⟩ (c_X3_isOneOf_0 l D cI cB cZ cJ tx adK adV a t en pa sg fa i0 (lf_X3_take_0_1 a t en pa sg fa tu tb i0 hi0 htu hen hpa hsg) (lf_X3_take_0_2 a t en pa sg fa tu tb i0 hi0 htu hen hpa hsg) H.size) (zV hts k_572 v_X3_isOneOf ⟨Nat.le_of_ble_eq_true rfl, Nat.le_of_ble_eq_true rfl⟩) (pV (pz (px1 hK hP 0 rfl) hZ hS (aR hS hA)) hK hP 0 rfl rfl) rfl rfl hl.1 rfl (lv_room (Nat.le_of_ble_eq_true rfl)) dX3_take_2 ⟨Nat.le_of_ble_eq_true rfl, Nat.le_of_ble_eq_true rfl⟩) hP hS hA (fun r_3 H locs wr_3 hP hS => ?_)
  rcases wr_3 with rfl | ⟨rfl, kk3, hkk3, rfl, lkk3, skk3⟩
  · refine lv_if_eq (tgt := 15) hx hb dX3_take_5 (by decide) (fun _ => ?_) (fun c => absurd c (by decide))
    refine lv_aload_n hx hb dX3_take_15 rfl (lv_at hl 0 rfl) ?_
    refine lv_iconst (v := 1) hx hb dX3_take_16 (by decide) ?_
    refine eWv (wr := [(a 1, .inr (8, [.ref (a 17), .int (nI tu)])), (a 17, .inl (cB, 220, .inl tb))]) (va_runV (As := [.int 1]) (rest := []) ⟨hx, hb, hml, hown, hts⟩ (c_X3_refuse_0 l D cI cB cZ cJ tx a t en pa sg fa 1 H.size) (zV hts k_662 v_X3_refuse ⟨Nat.le_of_ble_eq_true rfl, Nat.le_of_ble_eq_true rfl⟩) (pV (pxS hK hP hD [0] (by decide) rfl) hK hP 0 rfl rfl) rfl rfl hl.1 rfl (lv_room (Nat.le_of_ble_eq_true rfl)) dX3_take_17 ⟨Nat.le_of_ble_eq_true rfl, Nat.le_of_ble_eq_true rfl⟩) hP hD hS hA [0] [1, 2] rfl rfl (by decide) (by decide) (fun u_5 H locs wr_4 hP hD hS => ?_)
    obtain ⟨fa_5, rfl⟩ : ∃ z, z = u_5 := ⟨_, rfl⟩
    have hP : va_P D vwCl [(a 1, .inr (8, [.ref (a 17), .int (nI tu)])), (a 17, .inl (cB, 220, .inl tb)), (a 2, .inr (3, [.ref (a 1), .ref (t 0), .int (nI en), .int (nI pa), .int sg, .int 0, .int fa_5]))] H := hP
    have hD : va_D A [(a 1, .inr (8, [.ref (a 17), .int (nI tu)])), (a 17, .inl (cB, 220, .inl tb)), (a 2, .inr (3, [.ref (a 1), .ref (t 0), .int (nI en), .int (nI pa), .int sg, .int 0, .int fa_5]))] := hD
    have hP := hP.sub (ws' := [(a 2, .inr (3, [.ref (a 1), .ref (t 0), .int (nI en), .int (nI pa), .int sg, .int 0, .int fa_5])), (a 1, .inr (8, [.ref (a 17), .int (nI tu)])), (a 17, .inl (cB, 220, .inl tb))]) [2, 0, 1] rfl
    have hD := hD.sub (ws' := [(a 2, .inr (3, [.ref (a 1), .ref (t 0), .int (nI en), .int (nI pa), .int sg, .int 0, .int fa_5])), (a 1, .inr (8, [.ref (a 17), .int (nI tu)])), (a 17, .inl (cB, 220, .inl tb))]) [2, 0, 1] (by decide) rfl
    exact W.vret hx hb hr (fun tt9 ht hW => ⟨⟨((pa : Nat), (sg : Int32), (fa_5 : Int32)), rfl, (lf_X3_take_0_6 a t en pa sg fa tu tb i0 hi0 htu hen hpa hsg fa_5), ⟨by rw [ht]; exact hP, hD⟩⟩, hS.F ht⟩) hS.2.2 dX3_take_20 hlocks
  · refine lv_if_eq (tgt := 15) hx hb dX3_take_5 (by decide) (fun c => absurd c (by decide)) (fun _ => ?_)
    refine lv_aload_n hx hb dX3_take_8 rfl (lv_at hl 0 rfl) ?_
    refine eWv (wr := []) (va_runV (As := []) (rest := []) ⟨hx, hb, hml, hown, hts⟩ (c_X3_advance_0 l D cI cB cZ cJ tx a t en pa (nI kk3) fa tu tb (lf_X3_take_0_7 a t en pa (nI kk3) fa tu tb i0 hi0 htu hen hpa hsg kk3 hkk3 lkk3 skk3) (lf_X3_take_0_8 a t en pa (nI kk3) fa tu tb i0 hi0 htu hen hpa hsg kk3 hkk3 lkk3 skk3) (lf_X3_take_0_9 a t en pa (nI kk3) fa tu tb i0 hi0 htu hen hpa hsg kk3 hkk3 lkk3 skk3) (lf_X3_take_0_10 a t en pa (nI kk3) fa tu tb i0 hi0 htu hen hpa hsg kk3 hkk3 lkk3 skk3) H.size) (zV hts k_670 v_X3_advance ⟨Nat.le_of_ble_eq_true rfl, Nat.le_of_ble_eq_true rfl⟩) (pV (pxS hK hP hD [0, 1, 2] (by decide) rfl) hK hP 0 rfl rfl) rfl rfl hl.1 rfl (lv_room (Nat.le_of_ble_eq_true rfl)) dX3_take_9 ⟨Nat.le_of_ble_eq_true rfl, Nat.le_of_ble_eq_true rfl⟩) hP hD hS hA [0, 1, 2] [] rfl rfl (by decide) (by decide) (fun u_12 H locs wr_11 hP hD hS => ?_)
    obtain ⟨pa_12, sg_12⟩ := u_12
    have hz_12_0 : pa_12 = pa + 1 := wr_11.1
    have hz_12_1 : pa_12 ≤ en := wr_11.2.1
    have hz_12_2 : SG sg_12 pa_12 en := wr_11.2.2
    have hP : va_P D vwCl [(a 2, .inr (3, [.ref (a 1), .ref (t 0), .int (nI en), .int (nI pa_12), .int sg_12, .int 0, .int fa])), (a 1, .inr (8, [.ref (a 17), .int (nI tu)])), (a 17, .inl (cB, 220, .inl tb))] H := hP
    have hD : va_D A [(a 2, .inr (3, [.ref (a 1), .ref (t 0), .int (nI en), .int (nI pa_12), .int sg_12, .int 0, .int fa])), (a 1, .inr (8, [.ref (a 17), .int (nI tu)])), (a 17, .inl (cB, 220, .inl tb))] := hD
    refine lv_goto (tgt := 20) hx hb dX3_take_12 (by decide) ?_
    exact W.vret hx hb hr (fun tt9 ht hW => ⟨⟨((pa_12 : Nat), (sg_12 : Int32), (fa : Int32)), rfl, (lf_X3_take_0_13 a t en pa (nI kk3) fa tu tb i0 hi0 htu hen hpa hsg kk3 hkk3 lkk3 skk3 pa_12 sg_12 hz_12_0 hz_12_1 hz_12_2), ⟨by rw [ht]; exact hP, hD⟩⟩, hS.F ht⟩) hS.2.2 dX3_take_20 hlocks

theorem lf_X3_advance_1_3 (a : Nat → Nat) (t : Nat → Nat) (en : Nat) (pa : Nat) (sg : Int32) (fa : Int32) (tu : Nat) (tb : Nat → Int32) (htu : tu ≤ 220) (hen : en ≤ 200) (hpa : pa ≤ en) (hlt : pa < en) (c_1 : nI en ≤ nI (pa + 1)) : en ≤ (pa + 1) := by
  exact (nI_leI (a := en) (b := (pa + 1)) (by omega) (by omega)).mp c_1
theorem lf_X3_advance_1_4 (a : Nat → Nat) (t : Nat → Nat) (en : Nat) (pa : Nat) (sg : Int32) (fa : Int32) (tu : Nat) (tb : Nat → Int32) (htu : tu ≤ 220) (hen : en ≤ 200) (hpa : pa ≤ en) (hlt : pa < en) (c_1 : nI en ≤ nI (pa + 1)) (n_2 : en ≤ (pa + 1)) : (((pa + 1) : Nat) = pa + 1) ∧ (((pa + 1) : Nat) ≤ en) ∧ (SG ((-1) : Int32) ((pa + 1) : Nat) en) := by
  first
    | exact ⟨rfl, by omega, Or.inl rfl⟩
    | exact ⟨rfl, by omega, sg_mk (by assumption) (by omega)⟩
theorem lf_X3_advance_1_6 (a : Nat → Nat) (t : Nat → Nat) (en : Nat) (pa : Nat) (sg : Int32) (fa : Int32) (tu : Nat) (tb : Nat → Int32) (htu : tu ≤ 220) (hen : en ≤ 200) (hpa : pa ≤ en) (hlt : pa < en) (c_1 : ¬ nI en ≤ nI (pa + 1)) : (pa + 1) < en := by
  exact Nat.lt_of_not_le (fun q => c_1 ((nI_leI (a := en) (b := (pa + 1)) (by omega) (by omega)).mpr q))
theorem lf_X3_advance_1_7 (a : Nat → Nat) (t : Nat → Nat) (en : Nat) (pa : Nat) (sg : Int32) (fa : Int32) (tu : Nat) (tb : Nat → Int32) (htu : tu ≤ 220) (hen : en ≤ 200) (hpa : pa ≤ en) (hlt : pa < en) (c_1 : ¬ nI en ≤ nI (pa + 1)) (n_5 : (pa + 1) < en) : tu ≤ 220 := by
  first | assumption | omega | decide
theorem lf_X3_advance_1_9 (a : Nat → Nat) (t : Nat → Nat) (en : Nat) (pa : Nat) (sg : Int32) (fa : Int32) (tu : Nat) (tb : Nat → Int32) (htu : tu ≤ 220) (hen : en ≤ 200) (hpa : pa ≤ en) (hlt : pa < en) (c_1 : ¬ nI en ≤ nI (pa + 1)) (n_5 : (pa + 1) < en) (r_8 : Int32) (wr_8 : (r_8 = -1 ∨ ∃ k : Nat, k < 256 ∧ r_8 = nI k)) : (((pa + 1) : Nat) = pa + 1) ∧ (((pa + 1) : Nat) ≤ en) ∧ (SG (r_8 : Int32) ((pa + 1) : Nat) en) := by
  first
    | exact ⟨rfl, by omega, Or.inl rfl⟩
    | exact ⟨rfl, by omega, sg_mk (by assumption) (by omega)⟩
set_option maxHeartbeats 4000000 in
set_option maxRecDepth 100000 in
theorem c_X3_advance_1 (l : Launch) (D : va_G) (cI cB cZ cJ : ClassId) (tx : List (ClassId × FieldType)) (a : Nat → Nat) (t : Nat → Nat) (en : Nat) (pa : Nat) (sg : Int32) (fa : Int32) (tu : Nat) (tb : Nat → Int32) (htu : tu ≤ 220) (hen : en ≤ 200) (hpa : pa ≤ en) (hlt : pa < en) : WrV l D cI cB cZ cJ tx yX3_advance cX3_advance 1 none 1 0 0 [.ref (a 2)] [(a 2, .inr (3, [.ref (a 1), .ref (t 0), .int (nI en), .int (nI pa), .int sg, .int 1, .int fa])), (a 1, .inr (8, [.ref (a 17), .int (nI tu)])), (a 17, .inl (cB, 220, .inl tb))] (fun (v : (Nat) × (Int32)) => (v.1 = pa + 1) ∧ (v.1 ≤ en) ∧ (SG v.2 v.1 en)) (fun v => [(a 2, .inr (3, [.ref (a 1), .ref (t 0), .int (nI en), .int (nI (v.1)), .int v.2, .int 1, .int fa])), (a 1, .inr (8, [.ref (a 17), .int (nI tu)])), (a 17, .inl (cB, 220, .inl tb))]) := by
  refine wrv_of2 (by decide) (Nat.le_of_ble_eq_true rfl) ?_
  intro p e s m below meth c A ls H locs hC hK hP hD hA hS hl
  obtain ⟨hx, hb, hr, hml, hown, hts, hlocks, hin⟩ := hC
  have hown : s.vm.findClass RX3 = some m.cls := hown
  have hl : lv_has ls 1 [(0, .ref (a 2))] := hl
  refine lv_aload_n hx hb dX3_advance_0 rfl (lv_at hl 0 rfl) ?_
  refine lv_dup hx hb dX3_advance_1 rfl ?_
  refine va_get (D := D) (ci := 3) (v := .int (nI pa)) (C := RX3) (T := TX3) (N := 7) hx hb hts inT_X3 hown hK.1 hP 0 rfl rfl 3 (by decide) (hts _ k_168) (fun _ h9 => h9) rfl dX3_advance_2 ?_
  refine lv_iconst (v := 1) hx hb dX3_advance_5 (by decide) ?_
  refine lv_iadd hx hb dX3_advance_6 ?_
  refine lv_topv (y := nI (pa + 1)) (nI_add pa 1) ?_
  refine va_put (D := D) (ci := 3) (v := .int (nI (pa + 1))) (ty := .int) (C := RX3) (T := TX3) (N := 7) hx hb hts inT_X3 tyX3 tyX3_ok nmX3 hown hK.1 hP hD hS 0 rfl rfl 3 (by decide) (hts _ k_168) (fun _ h9 => h9) rfl (by decide +kernel) rfl rfl (Nat.le_of_ble_eq_true rfl) dX3_advance_7 (fun H locs hP hD hS => ?_)
  have hP : va_P D vwCl [(a 2, .inr (3, [.ref (a 1), .ref (t 0), .int (nI en), .int (nI (pa + 1)), .int sg, .int 1, .int fa])), (a 1, .inr (8, [.ref (a 17), .int (nI tu)])), (a 17, .inl (cB, 220, .inl tb))] H := hP
  have hD : va_D A [(a 2, .inr (3, [.ref (a 1), .ref (t 0), .int (nI en), .int (nI (pa + 1)), .int sg, .int 1, .int fa])), (a 1, .inr (8, [.ref (a 17), .int (nI tu)])), (a 17, .inl (cB, 220, .inl tb))] := hD
  refine lv_aload_n hx hb dX3_advance_10 rfl (lv_at hl 0 rfl) ?_
  refine lv_aload_n hx hb dX3_advance_11 rfl (lv_at hl 0 rfl) ?_
  refine va_get (D := D) (ci := 3) (v := .int (nI (pa + 1))) (C := RX3) (T := TX3) (N := 7) hx hb hts inT_X3 hown hK.1 hP 0 rfl rfl 3 (by decide) (hts _ k_168) (fun _ h9 => h9) rfl dX3_advance_12 ?_
  refine lv_aload_n hx hb dX3_advance_15 rfl (lv_at hl 0 rfl) ?_
  refine va_get (D := D) (ci := 3) (v := .int (nI en)) (C := RX3) (T := TX3) (N := 7) hx hb hts inT_X3 hown hK.1 hP 0 rfl rfl 2 (by decide) (hts _ k_167) (fun _ h9 => h9) rfl dX3_advance_16 ?_
  refine lv_icmp_ge (tgt := 36) hx hb dX3_advance_19 (by decide) (fun c_1 => ?_) (fun c_1 => ?_)
  · have n_2 : en ≤ (pa + 1) := (lf_X3_advance_1_3 a t en pa sg fa tu tb htu hen hpa hlt c_1)
    refine lv_iconst (v := (-1)) hx hb dX3_advance_36 (by decide) ?_
    refine va_put (D := D) (ci := 3) (v := .int (-1)) (ty := .int) (C := RX3) (T := TX3) (N := 7) hx hb hts inT_X3 tyX3 tyX3_ok nmX3 hown hK.1 hP hD hS 0 rfl rfl 4 (by decide) (hts _ k_169) (fun _ h9 => h9) rfl (by decide +kernel) rfl rfl (Nat.le_of_ble_eq_true rfl) dX3_advance_37 (fun H locs hP hD hS => ?_)
    have hP : va_P D vwCl [(a 2, .inr (3, [.ref (a 1), .ref (t 0), .int (nI en), .int (nI (pa + 1)), .int (-1), .int 1, .int fa])), (a 1, .inr (8, [.ref (a 17), .int (nI tu)])), (a 17, .inl (cB, 220, .inl tb))] H := hP
    have hD : va_D A [(a 2, .inr (3, [.ref (a 1), .ref (t 0), .int (nI en), .int (nI (pa + 1)), .int (-1), .int 1, .int fa])), (a 1, .inr (8, [.ref (a 17), .int (nI tu)])), (a 17, .inl (cB, 220, .inl tb))] := hD
    exact W.vret hx hb hr (fun tt9 ht hW => ⟨⟨(((pa + 1) : Nat), ((-1) : Int32)), rfl, (lf_X3_advance_1_4 a t en pa sg fa tu tb htu hen hpa hlt c_1 n_2), ⟨by rw [ht]; exact hP, hD⟩⟩, hS.F ht⟩) hS.2.2 dX3_advance_40 hlocks
  · have n_5 : (pa + 1) < en := (lf_X3_advance_1_6 a t en pa sg fa tu tb htu hen hpa hlt c_1)
    refine lv_aload_n hx hb dX3_advance_22 rfl (lv_at hl 0 rfl) ?_
    refine va_get (D := D) (ci := 3) (v := .ref (a 1)) (C := RX3) (T := TX3) (N := 7) hx hb hts inT_X3 hown hK.1 hP 0 rfl rfl 0 (by decide) (hts _ k_165) (fun _ h9 => h9) rfl dX3_advance_23 ?_
    refine lv_aload_n hx hb dX3_advance_26 rfl (lv_at hl 0 rfl) ?_
    refine va_get (D := D) (ci := 3) (v := .int (nI (pa + 1))) (C := RX3) (T := TX3) (N := 7) hx hb hts inT_X3 hown hK.1 hP 0 rfl rfl 3 (by decide) (hts _ k_168) (fun _ h9 => h9) rfl dX3_advance_27 ?_
    refine eRi (va_runV (As := [.int (nI (pa + 1))]) (rest := [.ref (a 2)]) ⟨hx, hb, hml, hown, hts⟩ (c_X8_byteAt_b l D cI cB cZ cJ tx a tu tb (nI (pa + 1)) (lf_X3_advance_1_7 a t en pa sg fa tu tb htu hen hpa hlt c_1 n_5) H.size) (zV hts k_564 v_X8_byteAt ⟨Nat.le_of_ble_eq_true rfl, Nat.le_of_ble_eq_true rfl⟩) (pV (pxS hK hP hD [1, 2] (by decide) rfl) hK hP 1 rfl rfl) rfl rfl hl.1 rfl (lv_room (Nat.le_of_ble_eq_true rfl)) dX3_advance_30 ⟨Nat.le_of_ble_eq_true rfl, Nat.le_of_ble_eq_true rfl⟩) hP hS hA (fun r_8 H locs wr_8 hP hS => ?_)
    refine lv_goto (tgt := 37) hx hb dX3_advance_33 (by decide) ?_
    refine va_put (D := D) (ci := 3) (v := .int r_8) (ty := .int) (C := RX3) (T := TX3) (N := 7) hx hb hts inT_X3 tyX3 tyX3_ok nmX3 hown hK.1 hP hD hS 0 rfl rfl 4 (by decide) (hts _ k_169) (fun _ h9 => h9) rfl (by decide +kernel) rfl rfl (Nat.le_of_ble_eq_true rfl) dX3_advance_37 (fun H locs hP hD hS => ?_)
    have hP : va_P D vwCl [(a 2, .inr (3, [.ref (a 1), .ref (t 0), .int (nI en), .int (nI (pa + 1)), .int r_8, .int 1, .int fa])), (a 1, .inr (8, [.ref (a 17), .int (nI tu)])), (a 17, .inl (cB, 220, .inl tb))] H := hP
    have hD : va_D A [(a 2, .inr (3, [.ref (a 1), .ref (t 0), .int (nI en), .int (nI (pa + 1)), .int r_8, .int 1, .int fa])), (a 1, .inr (8, [.ref (a 17), .int (nI tu)])), (a 17, .inl (cB, 220, .inl tb))] := hD
    exact W.vret hx hb hr (fun tt9 ht hW => ⟨⟨(((pa + 1) : Nat), (r_8 : Int32)), rfl, (lf_X3_advance_1_9 a t en pa sg fa tu tb htu hen hpa hlt c_1 n_5 r_8 wr_8), ⟨by rw [ht]; exact hP, hD⟩⟩, hS.F ht⟩) hS.2.2 dX3_advance_40 hlocks

set_option maxHeartbeats 4000000 in
set_option maxRecDepth 100000 in
theorem c_X3_refuse_1 (l : Launch) (D : va_G) (cI cB cZ cJ : ClassId) (tx : List (ClassId × FieldType)) (a : Nat → Nat) (t : Nat → Nat) (en : Nat) (pa : Nat) (sg : Int32) (fa : Int32) (n1 : Int32) : WrV l D cI cB cZ cJ tx yX3_refuse cX3_refuse 2 none 0 0 0 [.ref (a 2), .int n1] [(a 2, .inr (3, [.ref (a 1), .ref (t 0), .int (nI en), .int (nI pa), .int sg, .int 1, .int fa]))] (fun (v : (Int32)) => True) (fun v => [(a 2, .inr (3, [.ref (a 1), .ref (t 0), .int (nI en), .int (nI pa), .int sg, .int 1, .int v]))]) := by
  refine wrv_of2 (by decide) (Nat.le_of_ble_eq_true rfl) ?_
  intro p e s m below meth c A ls H locs hC hK hP hD hA hS hl
  obtain ⟨hx, hb, hr, hml, hown, hts, hlocks, hin⟩ := hC
  have hown : s.vm.findClass RX3 = some m.cls := hown
  have hl : lv_has ls 2 [(0, .ref (a 2)), (1, .int n1)] := hl
  refine lv_aload_n hx hb dX3_refuse_0 rfl (lv_at hl 0 rfl) ?_
  refine va_get (D := D) (ci := 3) (v := .int fa) (C := RX3) (T := TX3) (N := 7) hx hb hts inT_X3 hown hK.1 hP 0 rfl rfl 6 (by decide) (hts _ k_171) (fun _ h9 => h9) rfl dX3_refuse_1 ?_
  refine lv_if_ne (tgt := 12) hx hb dX3_refuse_4 (by decide) (fun c_1 => ?_) (fun c_1 => ?_)
  · exact W.vret hx hb hr (fun tt9 ht hW => ⟨⟨((fa : Int32)), rfl, trivial, ⟨by rw [ht]; exact hP, hD⟩⟩, hS.F ht⟩) hS.2.2 dX3_refuse_12 hlocks
  · refine lv_aload_n hx hb dX3_refuse_7 rfl (lv_at hl 0 rfl) ?_
    refine lv_iload_n hx hb dX3_refuse_8 rfl (lv_at hl 1 rfl) ?_
    refine va_put (D := D) (ci := 3) (v := .int n1) (ty := .int) (C := RX3) (T := TX3) (N := 7) hx hb hts inT_X3 tyX3 tyX3_ok nmX3 hown hK.1 hP hD hS 0 rfl rfl 6 (by decide) (hts _ k_171) (fun _ h9 => h9) rfl (by decide +kernel) rfl rfl (Nat.le_of_ble_eq_true rfl) dX3_refuse_9 (fun H locs hP hD hS => ?_)
    have hP : va_P D vwCl [(a 2, .inr (3, [.ref (a 1), .ref (t 0), .int (nI en), .int (nI pa), .int sg, .int 1, .int n1]))] H := hP
    have hD : va_D A [(a 2, .inr (3, [.ref (a 1), .ref (t 0), .int (nI en), .int (nI pa), .int sg, .int 1, .int n1]))] := hD
    exact W.vret hx hb hr (fun tt9 ht hW => ⟨⟨((n1 : Int32)), rfl, trivial, ⟨by rw [ht]; exact hP, hD⟩⟩, hS.F ht⟩) hS.2.2 dX3_refuse_12 hlocks

theorem lf_X3_isOneOf_1_2 (a : Nat → Nat) (t : Nat → Nat) (en : Nat) (pa : Nat) (sg : Int32) (fa : Int32) (i0 : Nat) (hi0 : i0 < 16) (hsg : SG sg pa en) (c_1 : ¬ fa = 0) : ((0 : Int32) = 0) ∨ ((0 : Int32) = 1 ∧ ∃ k : Nat, k < 256 ∧ sg = nI k ∧ pa < en ∧ sHas i0 k = true) := by
  first
    | exact Or.inl rfl
    | exact Or.inr ⟨rfl, kq, hkq, by assumption, lkq, has_use (by assumption) (by assumption)⟩
theorem lf_X3_isOneOf_1_4 (a : Nat → Nat) (t : Nat → Nat) (en : Nat) (pa : Nat) (sg : Int32) (fa : Int32) (i0 : Nat) (hi0 : i0 < 16) (hsg : SG sg pa en) (c_1 : fa = 0) (c_3 : sg < 0) : ((0 : Int32) = 0) ∨ ((0 : Int32) = 1 ∧ ∃ k : Nat, k < 256 ∧ sg = nI k ∧ pa < en ∧ sHas i0 k = true) := by
  first
    | exact Or.inl rfl
    | exact Or.inr ⟨rfl, kq, hkq, by assumption, lkq, has_use (by assumption) (by assumption)⟩
theorem lf_X3_isOneOf_1_5 (a : Nat → Nat) (t : Nat → Nat) (en : Nat) (pa : Nat) (sg : Int32) (fa : Int32) (i0 : Nat) (hi0 : i0 < 16) (hsg : SG sg pa en) (c_1 : fa = 0) (c_3 : ¬ sg < 0) (kq : Nat) (hkq : kq < 256) (ekq : sg = nI kq) (lkq : pa < en) : kq < 65536 := by
  omega
theorem lf_X3_isOneOf_1_6 (a : Nat → Nat) (t : Nat → Nat) (en : Nat) (pa : Nat) (sg : Int32) (fa : Int32) (i0 : Nat) (hi0 : i0 < 16) (hsg : SG sg pa en) (c_1 : fa = 0) (c_3 : ¬ sg < 0) (kq : Nat) (hkq : kq < 256) (ekq : sg = nI kq) (lkq : pa < en) : i0 < 16 := by
  first | assumption | omega | decide | exact sg_nI (by assumption) (by assumption)
theorem lf_X3_isOneOf_1_7 (a : Nat → Nat) (t : Nat → Nat) (en : Nat) (pa : Nat) (sg : Int32) (fa : Int32) (i0 : Nat) (hi0 : i0 < 16) (hsg : SG sg pa en) (c_1 : fa = 0) (c_3 : ¬ sg < 0) (kq : Nat) (hkq : kq < 256) (ekq : sg = nI kq) (lkq : pa < en) : kq < 256 := by
  first | assumption | omega | decide | exact sg_nI (by assumption) (by assumption)
theorem lf_X3_isOneOf_1_8 (a : Nat → Nat) (t : Nat → Nat) (en : Nat) (pa : Nat) (sg : Int32) (fa : Int32) (i0 : Nat) (hi0 : i0 < 16) (hsg : SG sg pa en) (c_1 : fa = 0) (c_3 : ¬ sg < 0) (kq : Nat) (hkq : kq < 256) (ekq : sg = nI kq) (lkq : pa < en) : i0 < 16 := by
  first | omega | assumption
theorem lf_X3_isOneOf_1_11 (a : Nat → Nat) (t : Nat → Nat) (en : Nat) (pa : Nat) (sg : Int32) (fa : Int32) (i0 : Nat) (hi0 : i0 < 16) (hsg : SG sg pa en) (c_1 : fa = 0) (c_3 : ¬ sg < 0) (kq : Nat) (hkq : kq < 256) (ekq : sg = nI kq) (lkq : pa < en) (r_9 : Int32) (wr_9 : 0 ≤ r_9 → sHas i0 kq = true) (c_10 : r_9 < 0) : ((0 : Int32) = 0) ∨ ((0 : Int32) = 1 ∧ ∃ k : Nat, k < 256 ∧ sg = nI k ∧ pa < en ∧ sHas i0 k = true) := by
  first
    | exact Or.inl rfl
    | exact Or.inr ⟨rfl, kq, hkq, by assumption, lkq, has_use (by assumption) (by assumption)⟩
theorem lf_X3_isOneOf_1_12 (a : Nat → Nat) (t : Nat → Nat) (en : Nat) (pa : Nat) (sg : Int32) (fa : Int32) (i0 : Nat) (hi0 : i0 < 16) (hsg : SG sg pa en) (c_1 : fa = 0) (c_3 : ¬ sg < 0) (kq : Nat) (hkq : kq < 256) (ekq : sg = nI kq) (lkq : pa < en) (r_9 : Int32) (wr_9 : 0 ≤ r_9 → sHas i0 kq = true) (c_10 : ¬ r_9 < 0) : ((1 : Int32) = 0) ∨ ((1 : Int32) = 1 ∧ ∃ k : Nat, k < 256 ∧ sg = nI k ∧ pa < en ∧ sHas i0 k = true) := by
  first
    | exact Or.inl rfl
    | exact Or.inr ⟨rfl, kq, hkq, by assumption, lkq, has_use (by assumption) (by assumption)⟩
set_option maxHeartbeats 4000000 in
set_option maxRecDepth 100000 in
theorem c_X3_isOneOf_1 (l : Launch) (D : va_G) (cI cB cZ cJ : ClassId) (tx : List (ClassId × FieldType)) (adK adV : Nat → Nat) (a : Nat → Nat) (t : Nat → Nat) (en : Nat) (pa : Nat) (sg : Int32) (fa : Int32) (i0 : Nat) (hi0 : i0 < 16) (hsg : SG sg pa en) : RzI l D cI cB cZ cJ tx adK adV yX3_isOneOf cX3_isOneOf 2 (some .boolean) 4 [.ref (a 2), .ref (adK i0)] [(a 2, .inr (3, [.ref (a 1), .ref (t 0), .int (nI en), .int (nI pa), .int sg, .int 1, .int fa]))] (fun r => (r = 0) ∨ (r = 1 ∧ ∃ k : Nat, k < 256 ∧ sg = nI k ∧ pa < en ∧ sHas i0 k = true)) := by
  refine rzi_of2 (by decide +kernel) (Nat.le_of_ble_eq_true rfl) ?_
  intro p e s m below meth c A ls H locs hC hK hZ hP hD hA hS hl
  obtain ⟨hx, hb, hr, hml, hown, hts, hlocks, hin⟩ := hC
  have hown : s.vm.findClass RX3 = some m.cls := hown
  have hl : lv_has ls 2 [(0, .ref (a 2)), (1, .ref (adK i0))] := hl
  refine lv_aload_n hx hb dX3_isOneOf_0 rfl (lv_at hl 0 rfl) ?_
  refine va_get (D := D) (ci := 3) (v := .int fa) (C := RX3) (T := TX3) (N := 7) hx hb hts inT_X3 hown hK.1 hP 0 rfl rfl 6 (by decide) (hts _ k_171) (fun _ h9 => h9) rfl dX3_isOneOf_1 ?_
  refine lv_if_ne (tgt := 30) hx hb dX3_isOneOf_4 (by decide) (fun c_1 => ?_) (fun c_1 => ?_)
  · refine lv_iconst (v := 0) hx hb dX3_isOneOf_30 (by decide) ?_
    exact W.zret (v := 0) hx hb hr (by decide) (fun tt9 ht hW => ⟨⟨(0 : Int32), (), rfl, (lf_X3_isOneOf_1_2 a t en pa sg fa i0 hi0 hsg c_1), trivial⟩, hS.F ht⟩) hS.2.2 dX3_isOneOf_31 hlocks
  · refine lv_aload_n hx hb dX3_isOneOf_7 rfl (lv_at hl 0 rfl) ?_
    refine va_get (D := D) (ci := 3) (v := .int sg) (C := RX3) (T := TX3) (N := 7) hx hb hts inT_X3 hown hK.1 hP 0 rfl rfl 4 (by decide) (hts _ k_169) (fun _ h9 => h9) rfl dX3_isOneOf_8 ?_
    refine lv_if_lt (tgt := 30) hx hb dX3_isOneOf_11 (by decide) (fun c_3 => ?_) (fun c_3 => ?_)
    · refine lv_iconst (v := 0) hx hb dX3_isOneOf_30 (by decide) ?_
      exact W.zret (v := 0) hx hb hr (by decide) (fun tt9 ht hW => ⟨⟨(0 : Int32), (), rfl, (lf_X3_isOneOf_1_4 a t en pa sg fa i0 hi0 hsg c_1 c_3), trivial⟩, hS.F ht⟩) hS.2.2 dX3_isOneOf_31 hlocks
    · obtain ⟨kq, hkq, ekq, lkq⟩ := sg_of hsg c_3
      subst ekq
      refine lv_aload_n hx hb dX3_isOneOf_14 rfl (lv_at hl 1 rfl) ?_
      refine lv_aload_n hx hb dX3_isOneOf_15 rfl (lv_at hl 0 rfl) ?_
      refine va_get (D := D) (ci := 3) (v := .int (nI kq)) (C := RX3) (T := TX3) (N := 7) hx hb hts inT_X3 hown hK.1 hP 0 rfl rfl 4 (by decide) (hts _ k_169) (fun _ h9 => h9) rfl dX3_isOneOf_16 ?_
      refine lv_i2c hx hb dX3_isOneOf_19 (i2c_nI (lf_X3_isOneOf_1_5 a t en pa (nI kq) fa i0 hi0 hsg c_1 c_3 kq hkq rfl lkq)) ?_
      refine eRi (va_runV (As := [.int (nI kq)]) (rest := []) ⟨hx, hb, hml, hown, hts⟩ (c_J0_indexOf1 l D cI cB cZ cJ tx adK adV i0 kq (lf_X3_isOneOf_1_6 a t en pa (nI kq) fa i0 hi0 hsg c_1 c_3 kq hkq rfl lkq) (lf_X3_isOneOf_1_7 a t en pa (nI kq) fa i0 hi0 hsg c_1 c_3 kq hkq rfl lkq) H.size) (zV hts k_576 v_J0_indexOf_0f7a4 ⟨Nat.le_of_ble_eq_true rfl, Nat.le_of_ble_eq_true rfl⟩) (pVS (pz (px0 hK) hZ hS (aR hS hA)) hZ (lf_X3_isOneOf_1_8 a t en pa (nI kq) fa i0 hi0 hsg c_1 c_3 kq hkq rfl lkq) hS) rfl rfl hl.1 rfl (lv_room (Nat.le_of_ble_eq_true rfl)) dX3_isOneOf_20 ⟨Nat.le_of_ble_eq_true rfl, Nat.le_of_ble_eq_true rfl⟩) hP hS hA (fun r_9 H locs wr_9 hP hS => ?_)
      refine lv_if_lt (tgt := 30) hx hb dX3_isOneOf_23 (by decide) (fun c_10 => ?_) (fun c_10 => ?_)
      · refine lv_iconst (v := 0) hx hb dX3_isOneOf_30 (by decide) ?_
        exact W.zret (v := 0) hx hb hr (by decide) (fun tt9 ht hW => ⟨⟨(0 : Int32), (), rfl, (lf_X3_isOneOf_1_11 a t en pa (nI kq) fa i0 hi0 hsg c_1 c_3 kq hkq rfl lkq r_9 wr_9 c_10), trivial⟩, hS.F ht⟩) hS.2.2 dX3_isOneOf_31 hlocks
      · refine lv_iconst (v := 1) hx hb dX3_isOneOf_26 (by decide) ?_
        refine lv_goto (tgt := 31) hx hb dX3_isOneOf_27 (by decide) ?_
        exact W.zret (v := 1) hx hb hr (by decide) (fun tt9 ht hW => ⟨⟨(1 : Int32), (), rfl, (lf_X3_isOneOf_1_12 a t en pa (nI kq) fa i0 hi0 hsg c_1 c_3 kq hkq rfl lkq r_9 wr_9 c_10), trivial⟩, hS.F ht⟩) hS.2.2 dX3_isOneOf_31 hlocks

theorem lf_X3_take_1_1 (a : Nat → Nat) (t : Nat → Nat) (en : Nat) (pa : Nat) (sg : Int32) (fa : Int32) (tu : Nat) (tb : Nat → Int32) (i0 : Nat) (hi0 : i0 < 16) (htu : tu ≤ 220) (hen : en ≤ 200) (hpa : pa ≤ en) (hsg : SG sg pa en) : i0 < 16 := by
  first | assumption | omega | decide | exact sg_nI (by assumption) (by assumption)
theorem lf_X3_take_1_2 (a : Nat → Nat) (t : Nat → Nat) (en : Nat) (pa : Nat) (sg : Int32) (fa : Int32) (tu : Nat) (tb : Nat → Int32) (i0 : Nat) (hi0 : i0 < 16) (htu : tu ≤ 220) (hen : en ≤ 200) (hpa : pa ≤ en) (hsg : SG sg pa en) : SG sg pa en := by
  first | assumption | omega | decide | exact sg_nI (by assumption) (by assumption)
theorem lf_X3_take_1_6 (a : Nat → Nat) (t : Nat → Nat) (en : Nat) (pa : Nat) (sg : Int32) (fa : Int32) (tu : Nat) (tb : Nat → Int32) (i0 : Nat) (hi0 : i0 < 16) (htu : tu ≤ 220) (hen : en ≤ 200) (hpa : pa ≤ en) (hsg : SG sg pa en) (fa_5 : Int32) : (pa ≤ (pa : Nat)) ∧ ((pa : Nat) ≤ en) ∧ (SG (sg : Int32) (pa : Nat) en) := by
  first | (refine ⟨?_, ?_, ?_⟩ <;> first | omega | assumption) | (refine ⟨?_, ?_, ?_, ?_⟩ <;> first | omega | assumption)
theorem lf_X3_take_1_7 (a : Nat → Nat) (t : Nat → Nat) (en : Nat) (pa : Nat) (sg : Int32) (fa : Int32) (tu : Nat) (tb : Nat → Int32) (i0 : Nat) (hi0 : i0 < 16) (htu : tu ≤ 220) (hen : en ≤ 200) (hpa : pa ≤ en) (hsg : SG sg pa en) (kk3 : Nat) (hkk3 : kk3 < 256) (lkk3 : pa < en) (skk3 : sHas i0 kk3 = true) : tu ≤ 220 := by
  first | assumption | omega | decide | exact sg_nI (by assumption) (by assumption)
theorem lf_X3_take_1_8 (a : Nat → Nat) (t : Nat → Nat) (en : Nat) (pa : Nat) (sg : Int32) (fa : Int32) (tu : Nat) (tb : Nat → Int32) (i0 : Nat) (hi0 : i0 < 16) (htu : tu ≤ 220) (hen : en ≤ 200) (hpa : pa ≤ en) (hsg : SG sg pa en) (kk3 : Nat) (hkk3 : kk3 < 256) (lkk3 : pa < en) (skk3 : sHas i0 kk3 = true) : en ≤ 200 := by
  first | assumption | omega | decide | exact sg_nI (by assumption) (by assumption)
theorem lf_X3_take_1_9 (a : Nat → Nat) (t : Nat → Nat) (en : Nat) (pa : Nat) (sg : Int32) (fa : Int32) (tu : Nat) (tb : Nat → Int32) (i0 : Nat) (hi0 : i0 < 16) (htu : tu ≤ 220) (hen : en ≤ 200) (hpa : pa ≤ en) (hsg : SG sg pa en) (kk3 : Nat) (hkk3 : kk3 < 256) (lkk3 : pa < en) (skk3 : sHas i0 kk3 = true) : pa ≤ en := by
  first | assumption | omega | decide | exact sg_nI (by assumption) (by assumption)
theorem lf_X3_take_1_10 (a : Nat → Nat) (t : Nat → Nat) (en : Nat) (pa : Nat) (sg : Int32) (fa : Int32) (tu : Nat) (tb : Nat → Int32) (i0 : Nat) (hi0 : i0 < 16) (htu : tu ≤ 220) (hen : en ≤ 200) (hpa : pa ≤ en) (hsg : SG sg pa en) (kk3 : Nat) (hkk3 : kk3 < 256) (lkk3 : pa < en) (skk3 : sHas i0 kk3 = true) : pa < en := by
  first | assumption | omega | decide | exact sg_nI (by assumption) (by assumption)
theorem lf_X3_take_1_13 (a : Nat → Nat) (t : Nat → Nat) (en : Nat) (pa : Nat) (sg : Int32) (fa : Int32) (tu : Nat) (tb : Nat → Int32) (i0 : Nat) (hi0 : i0 < 16) (htu : tu ≤ 220) (hen : en ≤ 200) (hpa : pa ≤ en) (hsg : SG sg pa en) (kk3 : Nat) (hkk3 : kk3 < 256) (lkk3 : pa < en) (skk3 : sHas i0 kk3 = true) (pa_12 : Nat) (sg_12 : Int32) (hz_12_0 : pa_12 = pa + 1) (hz_12_1 : pa_12 ≤ en) (hz_12_2 : SG sg_12 pa_12 en) : (pa ≤ (pa_12 : Nat)) ∧ ((pa_12 : Nat) ≤ en) ∧ (SG (sg_12 : Int32) (pa_12 : Nat) en) := by
  first | (refine ⟨?_, ?_, ?_⟩ <;> first | omega | assumption) | (refine ⟨?_, ?_, ?_, ?_⟩ <;> first | omega | assumption)
set_option maxHeartbeats 4000000 in
set_option maxRecDepth 100000 in
theorem c_X3_take_1 (l : Launch) (D : va_G) (cI cB cZ cJ : ClassId) (tx : List (ClassId × FieldType)) (adK adV : Nat → Nat) (a : Nat → Nat) (t : Nat → Nat) (en : Nat) (pa : Nat) (sg : Int32) (fa : Int32) (tu : Nat) (tb : Nat → Int32) (i0 : Nat) (hi0 : i0 < 16) (htu : tu ≤ 220) (hen : en ≤ 200) (hpa : pa ≤ en) (hsg : SG sg pa en) : WzV l D cI cB cZ cJ tx adK adV yX3_take cX3_take 2 none 5 0 0 [.ref (a 2), .ref (adK i0)] [(a 2, .inr (3, [.ref (a 1), .ref (t 0), .int (nI en), .int (nI pa), .int sg, .int 1, .int fa])), (a 1, .inr (8, [.ref (a 17), .int (nI tu)])), (a 17, .inl (cB, 220, .inl tb))] (fun (v : (Nat) × (Int32) × (Int32)) => (pa ≤ v.1) ∧ (v.1 ≤ en) ∧ (SG v.2.1 v.1 en)) (fun v => [(a 2, .inr (3, [.ref (a 1), .ref (t 0), .int (nI en), .int (nI (v.1)), .int v.2.1, .int 1, .int v.2.2])), (a 1, .inr (8, [.ref (a 17), .int (nI tu)])), (a 17, .inl (cB, 220, .inl tb))]) := by
  refine wzv_of2 (by decide +kernel) (Nat.le_of_ble_eq_true rfl) ?_
  intro p e s m below meth c A ls H locs hC hK hZ hP hD hA hS hl
  obtain ⟨hx, hb, hr, hml, hown, hts, hlocks, hin⟩ := hC
  have hown : s.vm.findClass RX3 = some m.cls := hown
  have hl : lv_has ls 2 [(0, .ref (a 2)), (1, .ref (adK i0))] := hl
  refine lv_aload_n hx hb dX3_take_0 rfl (lv_at hl 0 rfl) ?_
  refine lv_aload_n hx hb dX3_take_1 rfl (lv_at hl 1 rfl) ?_
  refine eRi (va_runV (As := [.ref (adK i0)]) (rest := []) ⟨hx, hb, hml, hown, hts⟩ (c_X3_isOneOf_1 l D cI cB cZ cJ tx adK adV a t en pa sg fa i0 (lf_X3_take_1_1 a t en pa sg fa tu tb i0 hi0 htu hen hpa hsg) (lf_X3_take_1_2 a t en pa sg fa tu tb i0 hi0 htu hen hpa hsg) H.size) (zV hts k_572 v_X3_isOneOf ⟨Nat.le_of_ble_eq_true rfl, Nat.le_of_ble_eq_true rfl⟩) (pV (pz (px1 hK hP 0 rfl) hZ hS (aR hS hA)) hK hP 0 rfl rfl) rfl rfl hl.1 rfl (lv_room (Nat.le_of_ble_eq_true rfl)) dX3_take_2 ⟨Nat.le_of_ble_eq_true rfl, Nat.le_of_ble_eq_true rfl⟩) hP hS hA (fun r_3 H locs wr_3 hP hS => ?_)
  rcases wr_3 with rfl | ⟨rfl, kk3, hkk3, rfl, lkk3, skk3⟩
  · refine lv_if_eq (tgt := 15) hx hb dX3_take_5 (by decide) (fun _ => ?_) (fun c => absurd c (by decide))
    refine lv_aload_n hx hb dX3_take_15 rfl (lv_at hl 0 rfl) ?_
    refine lv_iconst (v := 1) hx hb dX3_take_16 (by decide) ?_
    refine eWv (wr := [(a 1, .inr (8, [.ref (a 17), .int (nI tu)])), (a 17, .inl (cB, 220, .inl tb))]) (va_runV (As := [.int 1]) (rest := []) ⟨hx, hb, hml, hown, hts⟩ (c_X3_refuse_1 l D cI cB cZ cJ tx a t en pa sg fa 1 H.size) (zV hts k_662 v_X3_refuse ⟨Nat.le_of_ble_eq_true rfl, Nat.le_of_ble_eq_true rfl⟩) (pV (pxS hK hP hD [0] (by decide) rfl) hK hP 0 rfl rfl) rfl rfl hl.1 rfl (lv_room (Nat.le_of_ble_eq_true rfl)) dX3_take_17 ⟨Nat.le_of_ble_eq_true rfl, Nat.le_of_ble_eq_true rfl⟩) hP hD hS hA [0] [1, 2] rfl rfl (by decide) (by decide) (fun u_5 H locs wr_4 hP hD hS => ?_)
    obtain ⟨fa_5, rfl⟩ : ∃ z, z = u_5 := ⟨_, rfl⟩
    have hP : va_P D vwCl [(a 1, .inr (8, [.ref (a 17), .int (nI tu)])), (a 17, .inl (cB, 220, .inl tb)), (a 2, .inr (3, [.ref (a 1), .ref (t 0), .int (nI en), .int (nI pa), .int sg, .int 1, .int fa_5]))] H := hP
    have hD : va_D A [(a 1, .inr (8, [.ref (a 17), .int (nI tu)])), (a 17, .inl (cB, 220, .inl tb)), (a 2, .inr (3, [.ref (a 1), .ref (t 0), .int (nI en), .int (nI pa), .int sg, .int 1, .int fa_5]))] := hD
    have hP := hP.sub (ws' := [(a 2, .inr (3, [.ref (a 1), .ref (t 0), .int (nI en), .int (nI pa), .int sg, .int 1, .int fa_5])), (a 1, .inr (8, [.ref (a 17), .int (nI tu)])), (a 17, .inl (cB, 220, .inl tb))]) [2, 0, 1] rfl
    have hD := hD.sub (ws' := [(a 2, .inr (3, [.ref (a 1), .ref (t 0), .int (nI en), .int (nI pa), .int sg, .int 1, .int fa_5])), (a 1, .inr (8, [.ref (a 17), .int (nI tu)])), (a 17, .inl (cB, 220, .inl tb))]) [2, 0, 1] (by decide) rfl
    exact W.vret hx hb hr (fun tt9 ht hW => ⟨⟨((pa : Nat), (sg : Int32), (fa_5 : Int32)), rfl, (lf_X3_take_1_6 a t en pa sg fa tu tb i0 hi0 htu hen hpa hsg fa_5), ⟨by rw [ht]; exact hP, hD⟩⟩, hS.F ht⟩) hS.2.2 dX3_take_20 hlocks
  · refine lv_if_eq (tgt := 15) hx hb dX3_take_5 (by decide) (fun c => absurd c (by decide)) (fun _ => ?_)
    refine lv_aload_n hx hb dX3_take_8 rfl (lv_at hl 0 rfl) ?_
    refine eWv (wr := []) (va_runV (As := []) (rest := []) ⟨hx, hb, hml, hown, hts⟩ (c_X3_advance_1 l D cI cB cZ cJ tx a t en pa (nI kk3) fa tu tb (lf_X3_take_1_7 a t en pa (nI kk3) fa tu tb i0 hi0 htu hen hpa hsg kk3 hkk3 lkk3 skk3) (lf_X3_take_1_8 a t en pa (nI kk3) fa tu tb i0 hi0 htu hen hpa hsg kk3 hkk3 lkk3 skk3) (lf_X3_take_1_9 a t en pa (nI kk3) fa tu tb i0 hi0 htu hen hpa hsg kk3 hkk3 lkk3 skk3) (lf_X3_take_1_10 a t en pa (nI kk3) fa tu tb i0 hi0 htu hen hpa hsg kk3 hkk3 lkk3 skk3) H.size) (zV hts k_670 v_X3_advance ⟨Nat.le_of_ble_eq_true rfl, Nat.le_of_ble_eq_true rfl⟩) (pV (pxS hK hP hD [0, 1, 2] (by decide) rfl) hK hP 0 rfl rfl) rfl rfl hl.1 rfl (lv_room (Nat.le_of_ble_eq_true rfl)) dX3_take_9 ⟨Nat.le_of_ble_eq_true rfl, Nat.le_of_ble_eq_true rfl⟩) hP hD hS hA [0, 1, 2] [] rfl rfl (by decide) (by decide) (fun u_12 H locs wr_11 hP hD hS => ?_)
    obtain ⟨pa_12, sg_12⟩ := u_12
    have hz_12_0 : pa_12 = pa + 1 := wr_11.1
    have hz_12_1 : pa_12 ≤ en := wr_11.2.1
    have hz_12_2 : SG sg_12 pa_12 en := wr_11.2.2
    have hP : va_P D vwCl [(a 2, .inr (3, [.ref (a 1), .ref (t 0), .int (nI en), .int (nI pa_12), .int sg_12, .int 1, .int fa])), (a 1, .inr (8, [.ref (a 17), .int (nI tu)])), (a 17, .inl (cB, 220, .inl tb))] H := hP
    have hD : va_D A [(a 2, .inr (3, [.ref (a 1), .ref (t 0), .int (nI en), .int (nI pa_12), .int sg_12, .int 1, .int fa])), (a 1, .inr (8, [.ref (a 17), .int (nI tu)])), (a 17, .inl (cB, 220, .inl tb))] := hD
    refine lv_goto (tgt := 20) hx hb dX3_take_12 (by decide) ?_
    exact W.vret hx hb hr (fun tt9 ht hW => ⟨⟨((pa_12 : Nat), (sg_12 : Int32), (fa : Int32)), rfl, (lf_X3_take_1_13 a t en pa (nI kk3) fa tu tb i0 hi0 htu hen hpa hsg kk3 hkk3 lkk3 skk3 pa_12 sg_12 hz_12_0 hz_12_1 hz_12_2), ⟨by rw [ht]; exact hP, hD⟩⟩, hS.F ht⟩) hS.2.2 dX3_take_20 hlocks

theorem lf_X3_advance_2_3 (a : Nat → Nat) (t : Nat → Nat) (en : Nat) (pa : Nat) (sg : Int32) (fa : Int32) (tu : Nat) (tb : Nat → Int32) (htu : tu ≤ 220) (hen : en ≤ 200) (hpa : pa ≤ en) (hlt : pa < en) (c_1 : nI en ≤ nI (pa + 1)) : en ≤ (pa + 1) := by
  exact (nI_leI (a := en) (b := (pa + 1)) (by omega) (by omega)).mp c_1
theorem lf_X3_advance_2_4 (a : Nat → Nat) (t : Nat → Nat) (en : Nat) (pa : Nat) (sg : Int32) (fa : Int32) (tu : Nat) (tb : Nat → Int32) (htu : tu ≤ 220) (hen : en ≤ 200) (hpa : pa ≤ en) (hlt : pa < en) (c_1 : nI en ≤ nI (pa + 1)) (n_2 : en ≤ (pa + 1)) : (((pa + 1) : Nat) = pa + 1) ∧ (((pa + 1) : Nat) ≤ en) ∧ (SG ((-1) : Int32) ((pa + 1) : Nat) en) := by
  first
    | exact ⟨rfl, by omega, Or.inl rfl⟩
    | exact ⟨rfl, by omega, sg_mk (by assumption) (by omega)⟩
theorem lf_X3_advance_2_6 (a : Nat → Nat) (t : Nat → Nat) (en : Nat) (pa : Nat) (sg : Int32) (fa : Int32) (tu : Nat) (tb : Nat → Int32) (htu : tu ≤ 220) (hen : en ≤ 200) (hpa : pa ≤ en) (hlt : pa < en) (c_1 : ¬ nI en ≤ nI (pa + 1)) : (pa + 1) < en := by
  exact Nat.lt_of_not_le (fun q => c_1 ((nI_leI (a := en) (b := (pa + 1)) (by omega) (by omega)).mpr q))
theorem lf_X3_advance_2_7 (a : Nat → Nat) (t : Nat → Nat) (en : Nat) (pa : Nat) (sg : Int32) (fa : Int32) (tu : Nat) (tb : Nat → Int32) (htu : tu ≤ 220) (hen : en ≤ 200) (hpa : pa ≤ en) (hlt : pa < en) (c_1 : ¬ nI en ≤ nI (pa + 1)) (n_5 : (pa + 1) < en) : tu ≤ 220 := by
  first | assumption | omega | decide
theorem lf_X3_advance_2_9 (a : Nat → Nat) (t : Nat → Nat) (en : Nat) (pa : Nat) (sg : Int32) (fa : Int32) (tu : Nat) (tb : Nat → Int32) (htu : tu ≤ 220) (hen : en ≤ 200) (hpa : pa ≤ en) (hlt : pa < en) (c_1 : ¬ nI en ≤ nI (pa + 1)) (n_5 : (pa + 1) < en) (r_8 : Int32) (wr_8 : (r_8 = -1 ∨ ∃ k : Nat, k < 256 ∧ r_8 = nI k)) : (((pa + 1) : Nat) = pa + 1) ∧ (((pa + 1) : Nat) ≤ en) ∧ (SG (r_8 : Int32) ((pa + 1) : Nat) en) := by
  first
    | exact ⟨rfl, by omega, Or.inl rfl⟩
    | exact ⟨rfl, by omega, sg_mk (by assumption) (by omega)⟩
set_option maxHeartbeats 4000000 in
set_option maxRecDepth 100000 in
theorem c_X3_advance_2 (l : Launch) (D : va_G) (cI cB cZ cJ : ClassId) (tx : List (ClassId × FieldType)) (a : Nat → Nat) (t : Nat → Nat) (en : Nat) (pa : Nat) (sg : Int32) (fa : Int32) (tu : Nat) (tb : Nat → Int32) (htu : tu ≤ 220) (hen : en ≤ 200) (hpa : pa ≤ en) (hlt : pa < en) : WrV l D cI cB cZ cJ tx yX3_advance cX3_advance 1 none 1 0 0 [.ref (a 2)] [(a 2, .inr (3, [.ref (a 1), .ref (t 0), .int (nI en), .int (nI pa), .int sg, .int 2, .int fa])), (a 1, .inr (8, [.ref (a 17), .int (nI tu)])), (a 17, .inl (cB, 220, .inl tb))] (fun (v : (Nat) × (Int32)) => (v.1 = pa + 1) ∧ (v.1 ≤ en) ∧ (SG v.2 v.1 en)) (fun v => [(a 2, .inr (3, [.ref (a 1), .ref (t 0), .int (nI en), .int (nI (v.1)), .int v.2, .int 2, .int fa])), (a 1, .inr (8, [.ref (a 17), .int (nI tu)])), (a 17, .inl (cB, 220, .inl tb))]) := by
  refine wrv_of2 (by decide) (Nat.le_of_ble_eq_true rfl) ?_
  intro p e s m below meth c A ls H locs hC hK hP hD hA hS hl
  obtain ⟨hx, hb, hr, hml, hown, hts, hlocks, hin⟩ := hC
  have hown : s.vm.findClass RX3 = some m.cls := hown
  have hl : lv_has ls 1 [(0, .ref (a 2))] := hl
  refine lv_aload_n hx hb dX3_advance_0 rfl (lv_at hl 0 rfl) ?_
  refine lv_dup hx hb dX3_advance_1 rfl ?_
  refine va_get (D := D) (ci := 3) (v := .int (nI pa)) (C := RX3) (T := TX3) (N := 7) hx hb hts inT_X3 hown hK.1 hP 0 rfl rfl 3 (by decide) (hts _ k_168) (fun _ h9 => h9) rfl dX3_advance_2 ?_
  refine lv_iconst (v := 1) hx hb dX3_advance_5 (by decide) ?_
  refine lv_iadd hx hb dX3_advance_6 ?_
  refine lv_topv (y := nI (pa + 1)) (nI_add pa 1) ?_
  refine va_put (D := D) (ci := 3) (v := .int (nI (pa + 1))) (ty := .int) (C := RX3) (T := TX3) (N := 7) hx hb hts inT_X3 tyX3 tyX3_ok nmX3 hown hK.1 hP hD hS 0 rfl rfl 3 (by decide) (hts _ k_168) (fun _ h9 => h9) rfl (by decide +kernel) rfl rfl (Nat.le_of_ble_eq_true rfl) dX3_advance_7 (fun H locs hP hD hS => ?_)
  have hP : va_P D vwCl [(a 2, .inr (3, [.ref (a 1), .ref (t 0), .int (nI en), .int (nI (pa + 1)), .int sg, .int 2, .int fa])), (a 1, .inr (8, [.ref (a 17), .int (nI tu)])), (a 17, .inl (cB, 220, .inl tb))] H := hP
  have hD : va_D A [(a 2, .inr (3, [.ref (a 1), .ref (t 0), .int (nI en), .int (nI (pa + 1)), .int sg, .int 2, .int fa])), (a 1, .inr (8, [.ref (a 17), .int (nI tu)])), (a 17, .inl (cB, 220, .inl tb))] := hD
  refine lv_aload_n hx hb dX3_advance_10 rfl (lv_at hl 0 rfl) ?_
  refine lv_aload_n hx hb dX3_advance_11 rfl (lv_at hl 0 rfl) ?_
  refine va_get (D := D) (ci := 3) (v := .int (nI (pa + 1))) (C := RX3) (T := TX3) (N := 7) hx hb hts inT_X3 hown hK.1 hP 0 rfl rfl 3 (by decide) (hts _ k_168) (fun _ h9 => h9) rfl dX3_advance_12 ?_
  refine lv_aload_n hx hb dX3_advance_15 rfl (lv_at hl 0 rfl) ?_
  refine va_get (D := D) (ci := 3) (v := .int (nI en)) (C := RX3) (T := TX3) (N := 7) hx hb hts inT_X3 hown hK.1 hP 0 rfl rfl 2 (by decide) (hts _ k_167) (fun _ h9 => h9) rfl dX3_advance_16 ?_
  refine lv_icmp_ge (tgt := 36) hx hb dX3_advance_19 (by decide) (fun c_1 => ?_) (fun c_1 => ?_)
  · have n_2 : en ≤ (pa + 1) := (lf_X3_advance_2_3 a t en pa sg fa tu tb htu hen hpa hlt c_1)
    refine lv_iconst (v := (-1)) hx hb dX3_advance_36 (by decide) ?_
    refine va_put (D := D) (ci := 3) (v := .int (-1)) (ty := .int) (C := RX3) (T := TX3) (N := 7) hx hb hts inT_X3 tyX3 tyX3_ok nmX3 hown hK.1 hP hD hS 0 rfl rfl 4 (by decide) (hts _ k_169) (fun _ h9 => h9) rfl (by decide +kernel) rfl rfl (Nat.le_of_ble_eq_true rfl) dX3_advance_37 (fun H locs hP hD hS => ?_)
    have hP : va_P D vwCl [(a 2, .inr (3, [.ref (a 1), .ref (t 0), .int (nI en), .int (nI (pa + 1)), .int (-1), .int 2, .int fa])), (a 1, .inr (8, [.ref (a 17), .int (nI tu)])), (a 17, .inl (cB, 220, .inl tb))] H := hP
    have hD : va_D A [(a 2, .inr (3, [.ref (a 1), .ref (t 0), .int (nI en), .int (nI (pa + 1)), .int (-1), .int 2, .int fa])), (a 1, .inr (8, [.ref (a 17), .int (nI tu)])), (a 17, .inl (cB, 220, .inl tb))] := hD
    exact W.vret hx hb hr (fun tt9 ht hW => ⟨⟨(((pa + 1) : Nat), ((-1) : Int32)), rfl, (lf_X3_advance_2_4 a t en pa sg fa tu tb htu hen hpa hlt c_1 n_2), ⟨by rw [ht]; exact hP, hD⟩⟩, hS.F ht⟩) hS.2.2 dX3_advance_40 hlocks
  · have n_5 : (pa + 1) < en := (lf_X3_advance_2_6 a t en pa sg fa tu tb htu hen hpa hlt c_1)
    refine lv_aload_n hx hb dX3_advance_22 rfl (lv_at hl 0 rfl) ?_
    refine va_get (D := D) (ci := 3) (v := .ref (a 1)) (C := RX3) (T := TX3) (N := 7) hx hb hts inT_X3 hown hK.1 hP 0 rfl rfl 0 (by decide) (hts _ k_165) (fun _ h9 => h9) rfl dX3_advance_23 ?_
    refine lv_aload_n hx hb dX3_advance_26 rfl (lv_at hl 0 rfl) ?_
    refine va_get (D := D) (ci := 3) (v := .int (nI (pa + 1))) (C := RX3) (T := TX3) (N := 7) hx hb hts inT_X3 hown hK.1 hP 0 rfl rfl 3 (by decide) (hts _ k_168) (fun _ h9 => h9) rfl dX3_advance_27 ?_
    refine eRi (va_runV (As := [.int (nI (pa + 1))]) (rest := [.ref (a 2)]) ⟨hx, hb, hml, hown, hts⟩ (c_X8_byteAt_b l D cI cB cZ cJ tx a tu tb (nI (pa + 1)) (lf_X3_advance_2_7 a t en pa sg fa tu tb htu hen hpa hlt c_1 n_5) H.size) (zV hts k_564 v_X8_byteAt ⟨Nat.le_of_ble_eq_true rfl, Nat.le_of_ble_eq_true rfl⟩) (pV (pxS hK hP hD [1, 2] (by decide) rfl) hK hP 1 rfl rfl) rfl rfl hl.1 rfl (lv_room (Nat.le_of_ble_eq_true rfl)) dX3_advance_30 ⟨Nat.le_of_ble_eq_true rfl, Nat.le_of_ble_eq_true rfl⟩) hP hS hA (fun r_8 H locs wr_8 hP hS => ?_)
    refine lv_goto (tgt := 37) hx hb dX3_advance_33 (by decide) ?_
    refine va_put (D := D) (ci := 3) (v := .int r_8) (ty := .int) (C := RX3) (T := TX3) (N := 7) hx hb hts inT_X3 tyX3 tyX3_ok nmX3 hown hK.1 hP hD hS 0 rfl rfl 4 (by decide) (hts _ k_169) (fun _ h9 => h9) rfl (by decide +kernel) rfl rfl (Nat.le_of_ble_eq_true rfl) dX3_advance_37 (fun H locs hP hD hS => ?_)
    have hP : va_P D vwCl [(a 2, .inr (3, [.ref (a 1), .ref (t 0), .int (nI en), .int (nI (pa + 1)), .int r_8, .int 2, .int fa])), (a 1, .inr (8, [.ref (a 17), .int (nI tu)])), (a 17, .inl (cB, 220, .inl tb))] H := hP
    have hD : va_D A [(a 2, .inr (3, [.ref (a 1), .ref (t 0), .int (nI en), .int (nI (pa + 1)), .int r_8, .int 2, .int fa])), (a 1, .inr (8, [.ref (a 17), .int (nI tu)])), (a 17, .inl (cB, 220, .inl tb))] := hD
    exact W.vret hx hb hr (fun tt9 ht hW => ⟨⟨(((pa + 1) : Nat), (r_8 : Int32)), rfl, (lf_X3_advance_2_9 a t en pa sg fa tu tb htu hen hpa hlt c_1 n_5 r_8 wr_8), ⟨by rw [ht]; exact hP, hD⟩⟩, hS.F ht⟩) hS.2.2 dX3_advance_40 hlocks

set_option maxHeartbeats 4000000 in
set_option maxRecDepth 100000 in
theorem c_X3_refuse_2 (l : Launch) (D : va_G) (cI cB cZ cJ : ClassId) (tx : List (ClassId × FieldType)) (a : Nat → Nat) (t : Nat → Nat) (en : Nat) (pa : Nat) (sg : Int32) (fa : Int32) (n1 : Int32) : WrV l D cI cB cZ cJ tx yX3_refuse cX3_refuse 2 none 0 0 0 [.ref (a 2), .int n1] [(a 2, .inr (3, [.ref (a 1), .ref (t 0), .int (nI en), .int (nI pa), .int sg, .int 2, .int fa]))] (fun (v : (Int32)) => True) (fun v => [(a 2, .inr (3, [.ref (a 1), .ref (t 0), .int (nI en), .int (nI pa), .int sg, .int 2, .int v]))]) := by
  refine wrv_of2 (by decide) (Nat.le_of_ble_eq_true rfl) ?_
  intro p e s m below meth c A ls H locs hC hK hP hD hA hS hl
  obtain ⟨hx, hb, hr, hml, hown, hts, hlocks, hin⟩ := hC
  have hown : s.vm.findClass RX3 = some m.cls := hown
  have hl : lv_has ls 2 [(0, .ref (a 2)), (1, .int n1)] := hl
  refine lv_aload_n hx hb dX3_refuse_0 rfl (lv_at hl 0 rfl) ?_
  refine va_get (D := D) (ci := 3) (v := .int fa) (C := RX3) (T := TX3) (N := 7) hx hb hts inT_X3 hown hK.1 hP 0 rfl rfl 6 (by decide) (hts _ k_171) (fun _ h9 => h9) rfl dX3_refuse_1 ?_
  refine lv_if_ne (tgt := 12) hx hb dX3_refuse_4 (by decide) (fun c_1 => ?_) (fun c_1 => ?_)
  · exact W.vret hx hb hr (fun tt9 ht hW => ⟨⟨((fa : Int32)), rfl, trivial, ⟨by rw [ht]; exact hP, hD⟩⟩, hS.F ht⟩) hS.2.2 dX3_refuse_12 hlocks
  · refine lv_aload_n hx hb dX3_refuse_7 rfl (lv_at hl 0 rfl) ?_
    refine lv_iload_n hx hb dX3_refuse_8 rfl (lv_at hl 1 rfl) ?_
    refine va_put (D := D) (ci := 3) (v := .int n1) (ty := .int) (C := RX3) (T := TX3) (N := 7) hx hb hts inT_X3 tyX3 tyX3_ok nmX3 hown hK.1 hP hD hS 0 rfl rfl 6 (by decide) (hts _ k_171) (fun _ h9 => h9) rfl (by decide +kernel) rfl rfl (Nat.le_of_ble_eq_true rfl) dX3_refuse_9 (fun H locs hP hD hS => ?_)
    have hP : va_P D vwCl [(a 2, .inr (3, [.ref (a 1), .ref (t 0), .int (nI en), .int (nI pa), .int sg, .int 2, .int n1]))] H := hP
    have hD : va_D A [(a 2, .inr (3, [.ref (a 1), .ref (t 0), .int (nI en), .int (nI pa), .int sg, .int 2, .int n1]))] := hD
    exact W.vret hx hb hr (fun tt9 ht hW => ⟨⟨((n1 : Int32)), rfl, trivial, ⟨by rw [ht]; exact hP, hD⟩⟩, hS.F ht⟩) hS.2.2 dX3_refuse_12 hlocks

theorem lf_X3_isOneOf_2_2 (a : Nat → Nat) (t : Nat → Nat) (en : Nat) (pa : Nat) (sg : Int32) (fa : Int32) (i0 : Nat) (hi0 : i0 < 16) (hsg : SG sg pa en) (c_1 : ¬ fa = 0) : ((0 : Int32) = 0) ∨ ((0 : Int32) = 1 ∧ ∃ k : Nat, k < 256 ∧ sg = nI k ∧ pa < en ∧ sHas i0 k = true) := by
  first
    | exact Or.inl rfl
    | exact Or.inr ⟨rfl, kq, hkq, by assumption, lkq, has_use (by assumption) (by assumption)⟩
theorem lf_X3_isOneOf_2_4 (a : Nat → Nat) (t : Nat → Nat) (en : Nat) (pa : Nat) (sg : Int32) (fa : Int32) (i0 : Nat) (hi0 : i0 < 16) (hsg : SG sg pa en) (c_1 : fa = 0) (c_3 : sg < 0) : ((0 : Int32) = 0) ∨ ((0 : Int32) = 1 ∧ ∃ k : Nat, k < 256 ∧ sg = nI k ∧ pa < en ∧ sHas i0 k = true) := by
  first
    | exact Or.inl rfl
    | exact Or.inr ⟨rfl, kq, hkq, by assumption, lkq, has_use (by assumption) (by assumption)⟩
theorem lf_X3_isOneOf_2_5 (a : Nat → Nat) (t : Nat → Nat) (en : Nat) (pa : Nat) (sg : Int32) (fa : Int32) (i0 : Nat) (hi0 : i0 < 16) (hsg : SG sg pa en) (c_1 : fa = 0) (c_3 : ¬ sg < 0) (kq : Nat) (hkq : kq < 256) (ekq : sg = nI kq) (lkq : pa < en) : kq < 65536 := by
  omega
theorem lf_X3_isOneOf_2_6 (a : Nat → Nat) (t : Nat → Nat) (en : Nat) (pa : Nat) (sg : Int32) (fa : Int32) (i0 : Nat) (hi0 : i0 < 16) (hsg : SG sg pa en) (c_1 : fa = 0) (c_3 : ¬ sg < 0) (kq : Nat) (hkq : kq < 256) (ekq : sg = nI kq) (lkq : pa < en) : i0 < 16 := by
  first | assumption | omega | decide | exact sg_nI (by assumption) (by assumption)
theorem lf_X3_isOneOf_2_7 (a : Nat → Nat) (t : Nat → Nat) (en : Nat) (pa : Nat) (sg : Int32) (fa : Int32) (i0 : Nat) (hi0 : i0 < 16) (hsg : SG sg pa en) (c_1 : fa = 0) (c_3 : ¬ sg < 0) (kq : Nat) (hkq : kq < 256) (ekq : sg = nI kq) (lkq : pa < en) : kq < 256 := by
  first | assumption | omega | decide | exact sg_nI (by assumption) (by assumption)
theorem lf_X3_isOneOf_2_8 (a : Nat → Nat) (t : Nat → Nat) (en : Nat) (pa : Nat) (sg : Int32) (fa : Int32) (i0 : Nat) (hi0 : i0 < 16) (hsg : SG sg pa en) (c_1 : fa = 0) (c_3 : ¬ sg < 0) (kq : Nat) (hkq : kq < 256) (ekq : sg = nI kq) (lkq : pa < en) : i0 < 16 := by
  first | omega | assumption
theorem lf_X3_isOneOf_2_11 (a : Nat → Nat) (t : Nat → Nat) (en : Nat) (pa : Nat) (sg : Int32) (fa : Int32) (i0 : Nat) (hi0 : i0 < 16) (hsg : SG sg pa en) (c_1 : fa = 0) (c_3 : ¬ sg < 0) (kq : Nat) (hkq : kq < 256) (ekq : sg = nI kq) (lkq : pa < en) (r_9 : Int32) (wr_9 : 0 ≤ r_9 → sHas i0 kq = true) (c_10 : r_9 < 0) : ((0 : Int32) = 0) ∨ ((0 : Int32) = 1 ∧ ∃ k : Nat, k < 256 ∧ sg = nI k ∧ pa < en ∧ sHas i0 k = true) := by
  first
    | exact Or.inl rfl
    | exact Or.inr ⟨rfl, kq, hkq, by assumption, lkq, has_use (by assumption) (by assumption)⟩
theorem lf_X3_isOneOf_2_12 (a : Nat → Nat) (t : Nat → Nat) (en : Nat) (pa : Nat) (sg : Int32) (fa : Int32) (i0 : Nat) (hi0 : i0 < 16) (hsg : SG sg pa en) (c_1 : fa = 0) (c_3 : ¬ sg < 0) (kq : Nat) (hkq : kq < 256) (ekq : sg = nI kq) (lkq : pa < en) (r_9 : Int32) (wr_9 : 0 ≤ r_9 → sHas i0 kq = true) (c_10 : ¬ r_9 < 0) : ((1 : Int32) = 0) ∨ ((1 : Int32) = 1 ∧ ∃ k : Nat, k < 256 ∧ sg = nI k ∧ pa < en ∧ sHas i0 k = true) := by
  first
    | exact Or.inl rfl
    | exact Or.inr ⟨rfl, kq, hkq, by assumption, lkq, has_use (by assumption) (by assumption)⟩
set_option maxHeartbeats 4000000 in
set_option maxRecDepth 100000 in
theorem c_X3_isOneOf_2 (l : Launch) (D : va_G) (cI cB cZ cJ : ClassId) (tx : List (ClassId × FieldType)) (adK adV : Nat → Nat) (a : Nat → Nat) (t : Nat → Nat) (en : Nat) (pa : Nat) (sg : Int32) (fa : Int32) (i0 : Nat) (hi0 : i0 < 16) (hsg : SG sg pa en) : RzI l D cI cB cZ cJ tx adK adV yX3_isOneOf cX3_isOneOf 2 (some .boolean) 4 [.ref (a 2), .ref (adK i0)] [(a 2, .inr (3, [.ref (a 1), .ref (t 0), .int (nI en), .int (nI pa), .int sg, .int 2, .int fa]))] (fun r => (r = 0) ∨ (r = 1 ∧ ∃ k : Nat, k < 256 ∧ sg = nI k ∧ pa < en ∧ sHas i0 k = true)) := by
  refine rzi_of2 (by decide +kernel) (Nat.le_of_ble_eq_true rfl) ?_
  intro p e s m below meth c A ls H locs hC hK hZ hP hD hA hS hl
  obtain ⟨hx, hb, hr, hml, hown, hts, hlocks, hin⟩ := hC
  have hown : s.vm.findClass RX3 = some m.cls := hown
  have hl : lv_has ls 2 [(0, .ref (a 2)), (1, .ref (adK i0))] := hl
  refine lv_aload_n hx hb dX3_isOneOf_0 rfl (lv_at hl 0 rfl) ?_
  refine va_get (D := D) (ci := 3) (v := .int fa) (C := RX3) (T := TX3) (N := 7) hx hb hts inT_X3 hown hK.1 hP 0 rfl rfl 6 (by decide) (hts _ k_171) (fun _ h9 => h9) rfl dX3_isOneOf_1 ?_
  refine lv_if_ne (tgt := 30) hx hb dX3_isOneOf_4 (by decide) (fun c_1 => ?_) (fun c_1 => ?_)
  · refine lv_iconst (v := 0) hx hb dX3_isOneOf_30 (by decide) ?_
    exact W.zret (v := 0) hx hb hr (by decide) (fun tt9 ht hW => ⟨⟨(0 : Int32), (), rfl, (lf_X3_isOneOf_2_2 a t en pa sg fa i0 hi0 hsg c_1), trivial⟩, hS.F ht⟩) hS.2.2 dX3_isOneOf_31 hlocks
  · refine lv_aload_n hx hb dX3_isOneOf_7 rfl (lv_at hl 0 rfl) ?_
    refine va_get (D := D) (ci := 3) (v := .int sg) (C := RX3) (T := TX3) (N := 7) hx hb hts inT_X3 hown hK.1 hP 0 rfl rfl 4 (by decide) (hts _ k_169) (fun _ h9 => h9) rfl dX3_isOneOf_8 ?_
    refine lv_if_lt (tgt := 30) hx hb dX3_isOneOf_11 (by decide) (fun c_3 => ?_) (fun c_3 => ?_)
    · refine lv_iconst (v := 0) hx hb dX3_isOneOf_30 (by decide) ?_
      exact W.zret (v := 0) hx hb hr (by decide) (fun tt9 ht hW => ⟨⟨(0 : Int32), (), rfl, (lf_X3_isOneOf_2_4 a t en pa sg fa i0 hi0 hsg c_1 c_3), trivial⟩, hS.F ht⟩) hS.2.2 dX3_isOneOf_31 hlocks
    · obtain ⟨kq, hkq, ekq, lkq⟩ := sg_of hsg c_3
      subst ekq
      refine lv_aload_n hx hb dX3_isOneOf_14 rfl (lv_at hl 1 rfl) ?_
      refine lv_aload_n hx hb dX3_isOneOf_15 rfl (lv_at hl 0 rfl) ?_
      refine va_get (D := D) (ci := 3) (v := .int (nI kq)) (C := RX3) (T := TX3) (N := 7) hx hb hts inT_X3 hown hK.1 hP 0 rfl rfl 4 (by decide) (hts _ k_169) (fun _ h9 => h9) rfl dX3_isOneOf_16 ?_
      refine lv_i2c hx hb dX3_isOneOf_19 (i2c_nI (lf_X3_isOneOf_2_5 a t en pa (nI kq) fa i0 hi0 hsg c_1 c_3 kq hkq rfl lkq)) ?_
      refine eRi (va_runV (As := [.int (nI kq)]) (rest := []) ⟨hx, hb, hml, hown, hts⟩ (c_J0_indexOf1 l D cI cB cZ cJ tx adK adV i0 kq (lf_X3_isOneOf_2_6 a t en pa (nI kq) fa i0 hi0 hsg c_1 c_3 kq hkq rfl lkq) (lf_X3_isOneOf_2_7 a t en pa (nI kq) fa i0 hi0 hsg c_1 c_3 kq hkq rfl lkq) H.size) (zV hts k_576 v_J0_indexOf_0f7a4 ⟨Nat.le_of_ble_eq_true rfl, Nat.le_of_ble_eq_true rfl⟩) (pVS (pz (px0 hK) hZ hS (aR hS hA)) hZ (lf_X3_isOneOf_2_8 a t en pa (nI kq) fa i0 hi0 hsg c_1 c_3 kq hkq rfl lkq) hS) rfl rfl hl.1 rfl (lv_room (Nat.le_of_ble_eq_true rfl)) dX3_isOneOf_20 ⟨Nat.le_of_ble_eq_true rfl, Nat.le_of_ble_eq_true rfl⟩) hP hS hA (fun r_9 H locs wr_9 hP hS => ?_)
      refine lv_if_lt (tgt := 30) hx hb dX3_isOneOf_23 (by decide) (fun c_10 => ?_) (fun c_10 => ?_)
      · refine lv_iconst (v := 0) hx hb dX3_isOneOf_30 (by decide) ?_
        exact W.zret (v := 0) hx hb hr (by decide) (fun tt9 ht hW => ⟨⟨(0 : Int32), (), rfl, (lf_X3_isOneOf_2_11 a t en pa (nI kq) fa i0 hi0 hsg c_1 c_3 kq hkq rfl lkq r_9 wr_9 c_10), trivial⟩, hS.F ht⟩) hS.2.2 dX3_isOneOf_31 hlocks
      · refine lv_iconst (v := 1) hx hb dX3_isOneOf_26 (by decide) ?_
        refine lv_goto (tgt := 31) hx hb dX3_isOneOf_27 (by decide) ?_
        exact W.zret (v := 1) hx hb hr (by decide) (fun tt9 ht hW => ⟨⟨(1 : Int32), (), rfl, (lf_X3_isOneOf_2_12 a t en pa (nI kq) fa i0 hi0 hsg c_1 c_3 kq hkq rfl lkq r_9 wr_9 c_10), trivial⟩, hS.F ht⟩) hS.2.2 dX3_isOneOf_31 hlocks

theorem lf_X3_take_2_1 (a : Nat → Nat) (t : Nat → Nat) (en : Nat) (pa : Nat) (sg : Int32) (fa : Int32) (tu : Nat) (tb : Nat → Int32) (i0 : Nat) (hi0 : i0 < 16) (htu : tu ≤ 220) (hen : en ≤ 200) (hpa : pa ≤ en) (hsg : SG sg pa en) : i0 < 16 := by
  first | assumption | omega | decide | exact sg_nI (by assumption) (by assumption)
theorem lf_X3_take_2_2 (a : Nat → Nat) (t : Nat → Nat) (en : Nat) (pa : Nat) (sg : Int32) (fa : Int32) (tu : Nat) (tb : Nat → Int32) (i0 : Nat) (hi0 : i0 < 16) (htu : tu ≤ 220) (hen : en ≤ 200) (hpa : pa ≤ en) (hsg : SG sg pa en) : SG sg pa en := by
  first | assumption | omega | decide | exact sg_nI (by assumption) (by assumption)
theorem lf_X3_take_2_6 (a : Nat → Nat) (t : Nat → Nat) (en : Nat) (pa : Nat) (sg : Int32) (fa : Int32) (tu : Nat) (tb : Nat → Int32) (i0 : Nat) (hi0 : i0 < 16) (htu : tu ≤ 220) (hen : en ≤ 200) (hpa : pa ≤ en) (hsg : SG sg pa en) (fa_5 : Int32) : (pa ≤ (pa : Nat)) ∧ ((pa : Nat) ≤ en) ∧ (SG (sg : Int32) (pa : Nat) en) := by
  first | (refine ⟨?_, ?_, ?_⟩ <;> first | omega | assumption) | (refine ⟨?_, ?_, ?_, ?_⟩ <;> first | omega | assumption)
theorem lf_X3_take_2_7 (a : Nat → Nat) (t : Nat → Nat) (en : Nat) (pa : Nat) (sg : Int32) (fa : Int32) (tu : Nat) (tb : Nat → Int32) (i0 : Nat) (hi0 : i0 < 16) (htu : tu ≤ 220) (hen : en ≤ 200) (hpa : pa ≤ en) (hsg : SG sg pa en) (kk3 : Nat) (hkk3 : kk3 < 256) (lkk3 : pa < en) (skk3 : sHas i0 kk3 = true) : tu ≤ 220 := by
  first | assumption | omega | decide | exact sg_nI (by assumption) (by assumption)
theorem lf_X3_take_2_8 (a : Nat → Nat) (t : Nat → Nat) (en : Nat) (pa : Nat) (sg : Int32) (fa : Int32) (tu : Nat) (tb : Nat → Int32) (i0 : Nat) (hi0 : i0 < 16) (htu : tu ≤ 220) (hen : en ≤ 200) (hpa : pa ≤ en) (hsg : SG sg pa en) (kk3 : Nat) (hkk3 : kk3 < 256) (lkk3 : pa < en) (skk3 : sHas i0 kk3 = true) : en ≤ 200 := by
  first | assumption | omega | decide | exact sg_nI (by assumption) (by assumption)
theorem lf_X3_take_2_9 (a : Nat → Nat) (t : Nat → Nat) (en : Nat) (pa : Nat) (sg : Int32) (fa : Int32) (tu : Nat) (tb : Nat → Int32) (i0 : Nat) (hi0 : i0 < 16) (htu : tu ≤ 220) (hen : en ≤ 200) (hpa : pa ≤ en) (hsg : SG sg pa en) (kk3 : Nat) (hkk3 : kk3 < 256) (lkk3 : pa < en) (skk3 : sHas i0 kk3 = true) : pa ≤ en := by
  first | assumption | omega | decide | exact sg_nI (by assumption) (by assumption)
theorem lf_X3_take_2_10 (a : Nat → Nat) (t : Nat → Nat) (en : Nat) (pa : Nat) (sg : Int32) (fa : Int32) (tu : Nat) (tb : Nat → Int32) (i0 : Nat) (hi0 : i0 < 16) (htu : tu ≤ 220) (hen : en ≤ 200) (hpa : pa ≤ en) (hsg : SG sg pa en) (kk3 : Nat) (hkk3 : kk3 < 256) (lkk3 : pa < en) (skk3 : sHas i0 kk3 = true) : pa < en := by
  first | assumption | omega | decide | exact sg_nI (by assumption) (by assumption)
theorem lf_X3_take_2_13 (a : Nat → Nat) (t : Nat → Nat) (en : Nat) (pa : Nat) (sg : Int32) (fa : Int32) (tu : Nat) (tb : Nat → Int32) (i0 : Nat) (hi0 : i0 < 16) (htu : tu ≤ 220) (hen : en ≤ 200) (hpa : pa ≤ en) (hsg : SG sg pa en) (kk3 : Nat) (hkk3 : kk3 < 256) (lkk3 : pa < en) (skk3 : sHas i0 kk3 = true) (pa_12 : Nat) (sg_12 : Int32) (hz_12_0 : pa_12 = pa + 1) (hz_12_1 : pa_12 ≤ en) (hz_12_2 : SG sg_12 pa_12 en) : (pa ≤ (pa_12 : Nat)) ∧ ((pa_12 : Nat) ≤ en) ∧ (SG (sg_12 : Int32) (pa_12 : Nat) en) := by
  first | (refine ⟨?_, ?_, ?_⟩ <;> first | omega | assumption) | (refine ⟨?_, ?_, ?_, ?_⟩ <;> first | omega | assumption)
set_option maxHeartbeats 4000000 in
set_option maxRecDepth 100000 in
theorem c_X3_take_2 (l : Launch) (D : va_G) (cI cB cZ cJ : ClassId) (tx : List (ClassId × FieldType)) (adK adV : Nat → Nat) (a : Nat → Nat) (t : Nat → Nat) (en : Nat) (pa : Nat) (sg : Int32) (fa : Int32) (tu : Nat) (tb : Nat → Int32) (i0 : Nat) (hi0 : i0 < 16) (htu : tu ≤ 220) (hen : en ≤ 200) (hpa : pa ≤ en) (hsg : SG sg pa en) : WzV l D cI cB cZ cJ tx adK adV yX3_take cX3_take 2 none 5 0 0 [.ref (a 2), .ref (adK i0)] [(a 2, .inr (3, [.ref (a 1), .ref (t 0), .int (nI en), .int (nI pa), .int sg, .int 2, .int fa])), (a 1, .inr (8, [.ref (a 17), .int (nI tu)])), (a 17, .inl (cB, 220, .inl tb))] (fun (v : (Nat) × (Int32) × (Int32)) => (pa ≤ v.1) ∧ (v.1 ≤ en) ∧ (SG v.2.1 v.1 en)) (fun v => [(a 2, .inr (3, [.ref (a 1), .ref (t 0), .int (nI en), .int (nI (v.1)), .int v.2.1, .int 2, .int v.2.2])), (a 1, .inr (8, [.ref (a 17), .int (nI tu)])), (a 17, .inl (cB, 220, .inl tb))]) := by
  refine wzv_of2 (by decide +kernel) (Nat.le_of_ble_eq_true rfl) ?_
  intro p e s m below meth c A ls H locs hC hK hZ hP hD hA hS hl
  obtain ⟨hx, hb, hr, hml, hown, hts, hlocks, hin⟩ := hC
  have hown : s.vm.findClass RX3 = some m.cls := hown
  have hl : lv_has ls 2 [(0, .ref (a 2)), (1, .ref (adK i0))] := hl
  refine lv_aload_n hx hb dX3_take_0 rfl (lv_at hl 0 rfl) ?_
  refine lv_aload_n hx hb dX3_take_1 rfl (lv_at hl 1 rfl) ?_
  refine eRi (va_runV (As := [.ref (adK i0)]) (rest := []) ⟨hx, hb, hml, hown, hts⟩ (c_X3_isOneOf_2 l D cI cB cZ cJ tx adK adV a t en pa sg fa i0 (lf_X3_take_2_1 a t en pa sg fa tu tb i0 hi0 htu hen hpa hsg) (lf_X3_take_2_2 a t en pa sg fa tu tb i0 hi0 htu hen hpa hsg) H.size) (zV hts k_572 v_X3_isOneOf ⟨Nat.le_of_ble_eq_true rfl, Nat.le_of_ble_eq_true rfl⟩) (pV (pz (px1 hK hP 0 rfl) hZ hS (aR hS hA)) hK hP 0 rfl rfl) rfl rfl hl.1 rfl (lv_room (Nat.le_of_ble_eq_true rfl)) dX3_take_2 ⟨Nat.le_of_ble_eq_true rfl, Nat.le_of_ble_eq_true rfl⟩) hP hS hA (fun r_3 H locs wr_3 hP hS => ?_)
  rcases wr_3 with rfl | ⟨rfl, kk3, hkk3, rfl, lkk3, skk3⟩
  · refine lv_if_eq (tgt := 15) hx hb dX3_take_5 (by decide) (fun _ => ?_) (fun c => absurd c (by decide))
    refine lv_aload_n hx hb dX3_take_15 rfl (lv_at hl 0 rfl) ?_
    refine lv_iconst (v := 1) hx hb dX3_take_16 (by decide) ?_
    refine eWv (wr := [(a 1, .inr (8, [.ref (a 17), .int (nI tu)])), (a 17, .inl (cB, 220, .inl tb))]) (va_runV (As := [.int 1]) (rest := []) ⟨hx, hb, hml, hown, hts⟩ (c_X3_refuse_2 l D cI cB cZ cJ tx a t en pa sg fa 1 H.size) (zV hts k_662 v_X3_refuse ⟨Nat.le_of_ble_eq_true rfl, Nat.le_of_ble_eq_true rfl⟩) (pV (pxS hK hP hD [0] (by decide) rfl) hK hP 0 rfl rfl) rfl rfl hl.1 rfl (lv_room (Nat.le_of_ble_eq_true rfl)) dX3_take_17 ⟨Nat.le_of_ble_eq_true rfl, Nat.le_of_ble_eq_true rfl⟩) hP hD hS hA [0] [1, 2] rfl rfl (by decide) (by decide) (fun u_5 H locs wr_4 hP hD hS => ?_)
    obtain ⟨fa_5, rfl⟩ : ∃ z, z = u_5 := ⟨_, rfl⟩
    have hP : va_P D vwCl [(a 1, .inr (8, [.ref (a 17), .int (nI tu)])), (a 17, .inl (cB, 220, .inl tb)), (a 2, .inr (3, [.ref (a 1), .ref (t 0), .int (nI en), .int (nI pa), .int sg, .int 2, .int fa_5]))] H := hP
    have hD : va_D A [(a 1, .inr (8, [.ref (a 17), .int (nI tu)])), (a 17, .inl (cB, 220, .inl tb)), (a 2, .inr (3, [.ref (a 1), .ref (t 0), .int (nI en), .int (nI pa), .int sg, .int 2, .int fa_5]))] := hD
    have hP := hP.sub (ws' := [(a 2, .inr (3, [.ref (a 1), .ref (t 0), .int (nI en), .int (nI pa), .int sg, .int 2, .int fa_5])), (a 1, .inr (8, [.ref (a 17), .int (nI tu)])), (a 17, .inl (cB, 220, .inl tb))]) [2, 0, 1] rfl
    have hD := hD.sub (ws' := [(a 2, .inr (3, [.ref (a 1), .ref (t 0), .int (nI en), .int (nI pa), .int sg, .int 2, .int fa_5])), (a 1, .inr (8, [.ref (a 17), .int (nI tu)])), (a 17, .inl (cB, 220, .inl tb))]) [2, 0, 1] (by decide) rfl
    exact W.vret hx hb hr (fun tt9 ht hW => ⟨⟨((pa : Nat), (sg : Int32), (fa_5 : Int32)), rfl, (lf_X3_take_2_6 a t en pa sg fa tu tb i0 hi0 htu hen hpa hsg fa_5), ⟨by rw [ht]; exact hP, hD⟩⟩, hS.F ht⟩) hS.2.2 dX3_take_20 hlocks
  · refine lv_if_eq (tgt := 15) hx hb dX3_take_5 (by decide) (fun c => absurd c (by decide)) (fun _ => ?_)
    refine lv_aload_n hx hb dX3_take_8 rfl (lv_at hl 0 rfl) ?_
    refine eWv (wr := []) (va_runV (As := []) (rest := []) ⟨hx, hb, hml, hown, hts⟩ (c_X3_advance_2 l D cI cB cZ cJ tx a t en pa (nI kk3) fa tu tb (lf_X3_take_2_7 a t en pa (nI kk3) fa tu tb i0 hi0 htu hen hpa hsg kk3 hkk3 lkk3 skk3) (lf_X3_take_2_8 a t en pa (nI kk3) fa tu tb i0 hi0 htu hen hpa hsg kk3 hkk3 lkk3 skk3) (lf_X3_take_2_9 a t en pa (nI kk3) fa tu tb i0 hi0 htu hen hpa hsg kk3 hkk3 lkk3 skk3) (lf_X3_take_2_10 a t en pa (nI kk3) fa tu tb i0 hi0 htu hen hpa hsg kk3 hkk3 lkk3 skk3) H.size) (zV hts k_670 v_X3_advance ⟨Nat.le_of_ble_eq_true rfl, Nat.le_of_ble_eq_true rfl⟩) (pV (pxS hK hP hD [0, 1, 2] (by decide) rfl) hK hP 0 rfl rfl) rfl rfl hl.1 rfl (lv_room (Nat.le_of_ble_eq_true rfl)) dX3_take_9 ⟨Nat.le_of_ble_eq_true rfl, Nat.le_of_ble_eq_true rfl⟩) hP hD hS hA [0, 1, 2] [] rfl rfl (by decide) (by decide) (fun u_12 H locs wr_11 hP hD hS => ?_)
    obtain ⟨pa_12, sg_12⟩ := u_12
    have hz_12_0 : pa_12 = pa + 1 := wr_11.1
    have hz_12_1 : pa_12 ≤ en := wr_11.2.1
    have hz_12_2 : SG sg_12 pa_12 en := wr_11.2.2
    have hP : va_P D vwCl [(a 2, .inr (3, [.ref (a 1), .ref (t 0), .int (nI en), .int (nI pa_12), .int sg_12, .int 2, .int fa])), (a 1, .inr (8, [.ref (a 17), .int (nI tu)])), (a 17, .inl (cB, 220, .inl tb))] H := hP
    have hD : va_D A [(a 2, .inr (3, [.ref (a 1), .ref (t 0), .int (nI en), .int (nI pa_12), .int sg_12, .int 2, .int fa])), (a 1, .inr (8, [.ref (a 17), .int (nI tu)])), (a 17, .inl (cB, 220, .inl tb))] := hD
    refine lv_goto (tgt := 20) hx hb dX3_take_12 (by decide) ?_
    exact W.vret hx hb hr (fun tt9 ht hW => ⟨⟨((pa_12 : Nat), (sg_12 : Int32), (fa : Int32)), rfl, (lf_X3_take_2_13 a t en pa (nI kk3) fa tu tb i0 hi0 htu hen hpa hsg kk3 hkk3 lkk3 skk3 pa_12 sg_12 hz_12_0 hz_12_1 hz_12_2), ⟨by rw [ht]; exact hP, hD⟩⟩, hS.F ht⟩) hS.2.2 dX3_take_20 hlocks

theorem lf_X3_advance_3_3 (a : Nat → Nat) (t : Nat → Nat) (en : Nat) (pa : Nat) (sg : Int32) (fa : Int32) (tu : Nat) (tb : Nat → Int32) (htu : tu ≤ 220) (hen : en ≤ 200) (hpa : pa ≤ en) (hlt : pa < en) (c_1 : nI en ≤ nI (pa + 1)) : en ≤ (pa + 1) := by
  exact (nI_leI (a := en) (b := (pa + 1)) (by omega) (by omega)).mp c_1
theorem lf_X3_advance_3_4 (a : Nat → Nat) (t : Nat → Nat) (en : Nat) (pa : Nat) (sg : Int32) (fa : Int32) (tu : Nat) (tb : Nat → Int32) (htu : tu ≤ 220) (hen : en ≤ 200) (hpa : pa ≤ en) (hlt : pa < en) (c_1 : nI en ≤ nI (pa + 1)) (n_2 : en ≤ (pa + 1)) : (((pa + 1) : Nat) = pa + 1) ∧ (((pa + 1) : Nat) ≤ en) ∧ (SG ((-1) : Int32) ((pa + 1) : Nat) en) := by
  first
    | exact ⟨rfl, by omega, Or.inl rfl⟩
    | exact ⟨rfl, by omega, sg_mk (by assumption) (by omega)⟩
theorem lf_X3_advance_3_6 (a : Nat → Nat) (t : Nat → Nat) (en : Nat) (pa : Nat) (sg : Int32) (fa : Int32) (tu : Nat) (tb : Nat → Int32) (htu : tu ≤ 220) (hen : en ≤ 200) (hpa : pa ≤ en) (hlt : pa < en) (c_1 : ¬ nI en ≤ nI (pa + 1)) : (pa + 1) < en := by
  exact Nat.lt_of_not_le (fun q => c_1 ((nI_leI (a := en) (b := (pa + 1)) (by omega) (by omega)).mpr q))
theorem lf_X3_advance_3_7 (a : Nat → Nat) (t : Nat → Nat) (en : Nat) (pa : Nat) (sg : Int32) (fa : Int32) (tu : Nat) (tb : Nat → Int32) (htu : tu ≤ 220) (hen : en ≤ 200) (hpa : pa ≤ en) (hlt : pa < en) (c_1 : ¬ nI en ≤ nI (pa + 1)) (n_5 : (pa + 1) < en) : tu ≤ 220 := by
  first | assumption | omega | decide
theorem lf_X3_advance_3_9 (a : Nat → Nat) (t : Nat → Nat) (en : Nat) (pa : Nat) (sg : Int32) (fa : Int32) (tu : Nat) (tb : Nat → Int32) (htu : tu ≤ 220) (hen : en ≤ 200) (hpa : pa ≤ en) (hlt : pa < en) (c_1 : ¬ nI en ≤ nI (pa + 1)) (n_5 : (pa + 1) < en) (r_8 : Int32) (wr_8 : (r_8 = -1 ∨ ∃ k : Nat, k < 256 ∧ r_8 = nI k)) : (((pa + 1) : Nat) = pa + 1) ∧ (((pa + 1) : Nat) ≤ en) ∧ (SG (r_8 : Int32) ((pa + 1) : Nat) en) := by
  first
    | exact ⟨rfl, by omega, Or.inl rfl⟩
    | exact ⟨rfl, by omega, sg_mk (by assumption) (by omega)⟩
set_option maxHeartbeats 4000000 in
set_option maxRecDepth 100000 in
theorem c_X3_advance_3 (l : Launch) (D : va_G) (cI cB cZ cJ : ClassId) (tx : List (ClassId × FieldType)) (a : Nat → Nat) (t : Nat → Nat) (en : Nat) (pa : Nat) (sg : Int32) (fa : Int32) (tu : Nat) (tb : Nat → Int32) (htu : tu ≤ 220) (hen : en ≤ 200) (hpa : pa ≤ en) (hlt : pa < en) : WrV l D cI cB cZ cJ tx yX3_advance cX3_advance 1 none 1 0 0 [.ref (a 2)] [(a 2, .inr (3, [.ref (a 1), .ref (t 0), .int (nI en), .int (nI pa), .int sg, .int 3, .int fa])), (a 1, .inr (8, [.ref (a 17), .int (nI tu)])), (a 17, .inl (cB, 220, .inl tb))] (fun (v : (Nat) × (Int32)) => (v.1 = pa + 1) ∧ (v.1 ≤ en) ∧ (SG v.2 v.1 en)) (fun v => [(a 2, .inr (3, [.ref (a 1), .ref (t 0), .int (nI en), .int (nI (v.1)), .int v.2, .int 3, .int fa])), (a 1, .inr (8, [.ref (a 17), .int (nI tu)])), (a 17, .inl (cB, 220, .inl tb))]) := by
  refine wrv_of2 (by decide) (Nat.le_of_ble_eq_true rfl) ?_
  intro p e s m below meth c A ls H locs hC hK hP hD hA hS hl
  obtain ⟨hx, hb, hr, hml, hown, hts, hlocks, hin⟩ := hC
  have hown : s.vm.findClass RX3 = some m.cls := hown
  have hl : lv_has ls 1 [(0, .ref (a 2))] := hl
  refine lv_aload_n hx hb dX3_advance_0 rfl (lv_at hl 0 rfl) ?_
  refine lv_dup hx hb dX3_advance_1 rfl ?_
  refine va_get (D := D) (ci := 3) (v := .int (nI pa)) (C := RX3) (T := TX3) (N := 7) hx hb hts inT_X3 hown hK.1 hP 0 rfl rfl 3 (by decide) (hts _ k_168) (fun _ h9 => h9) rfl dX3_advance_2 ?_
  refine lv_iconst (v := 1) hx hb dX3_advance_5 (by decide) ?_
  refine lv_iadd hx hb dX3_advance_6 ?_
  refine lv_topv (y := nI (pa + 1)) (nI_add pa 1) ?_
  refine va_put (D := D) (ci := 3) (v := .int (nI (pa + 1))) (ty := .int) (C := RX3) (T := TX3) (N := 7) hx hb hts inT_X3 tyX3 tyX3_ok nmX3 hown hK.1 hP hD hS 0 rfl rfl 3 (by decide) (hts _ k_168) (fun _ h9 => h9) rfl (by decide +kernel) rfl rfl (Nat.le_of_ble_eq_true rfl) dX3_advance_7 (fun H locs hP hD hS => ?_)
  have hP : va_P D vwCl [(a 2, .inr (3, [.ref (a 1), .ref (t 0), .int (nI en), .int (nI (pa + 1)), .int sg, .int 3, .int fa])), (a 1, .inr (8, [.ref (a 17), .int (nI tu)])), (a 17, .inl (cB, 220, .inl tb))] H := hP
  have hD : va_D A [(a 2, .inr (3, [.ref (a 1), .ref (t 0), .int (nI en), .int (nI (pa + 1)), .int sg, .int 3, .int fa])), (a 1, .inr (8, [.ref (a 17), .int (nI tu)])), (a 17, .inl (cB, 220, .inl tb))] := hD
  refine lv_aload_n hx hb dX3_advance_10 rfl (lv_at hl 0 rfl) ?_
  refine lv_aload_n hx hb dX3_advance_11 rfl (lv_at hl 0 rfl) ?_
  refine va_get (D := D) (ci := 3) (v := .int (nI (pa + 1))) (C := RX3) (T := TX3) (N := 7) hx hb hts inT_X3 hown hK.1 hP 0 rfl rfl 3 (by decide) (hts _ k_168) (fun _ h9 => h9) rfl dX3_advance_12 ?_
  refine lv_aload_n hx hb dX3_advance_15 rfl (lv_at hl 0 rfl) ?_
  refine va_get (D := D) (ci := 3) (v := .int (nI en)) (C := RX3) (T := TX3) (N := 7) hx hb hts inT_X3 hown hK.1 hP 0 rfl rfl 2 (by decide) (hts _ k_167) (fun _ h9 => h9) rfl dX3_advance_16 ?_
  refine lv_icmp_ge (tgt := 36) hx hb dX3_advance_19 (by decide) (fun c_1 => ?_) (fun c_1 => ?_)
  · have n_2 : en ≤ (pa + 1) := (lf_X3_advance_3_3 a t en pa sg fa tu tb htu hen hpa hlt c_1)
    refine lv_iconst (v := (-1)) hx hb dX3_advance_36 (by decide) ?_
    refine va_put (D := D) (ci := 3) (v := .int (-1)) (ty := .int) (C := RX3) (T := TX3) (N := 7) hx hb hts inT_X3 tyX3 tyX3_ok nmX3 hown hK.1 hP hD hS 0 rfl rfl 4 (by decide) (hts _ k_169) (fun _ h9 => h9) rfl (by decide +kernel) rfl rfl (Nat.le_of_ble_eq_true rfl) dX3_advance_37 (fun H locs hP hD hS => ?_)
    have hP : va_P D vwCl [(a 2, .inr (3, [.ref (a 1), .ref (t 0), .int (nI en), .int (nI (pa + 1)), .int (-1), .int 3, .int fa])), (a 1, .inr (8, [.ref (a 17), .int (nI tu)])), (a 17, .inl (cB, 220, .inl tb))] H := hP
    have hD : va_D A [(a 2, .inr (3, [.ref (a 1), .ref (t 0), .int (nI en), .int (nI (pa + 1)), .int (-1), .int 3, .int fa])), (a 1, .inr (8, [.ref (a 17), .int (nI tu)])), (a 17, .inl (cB, 220, .inl tb))] := hD
    exact W.vret hx hb hr (fun tt9 ht hW => ⟨⟨(((pa + 1) : Nat), ((-1) : Int32)), rfl, (lf_X3_advance_3_4 a t en pa sg fa tu tb htu hen hpa hlt c_1 n_2), ⟨by rw [ht]; exact hP, hD⟩⟩, hS.F ht⟩) hS.2.2 dX3_advance_40 hlocks
  · have n_5 : (pa + 1) < en := (lf_X3_advance_3_6 a t en pa sg fa tu tb htu hen hpa hlt c_1)
    refine lv_aload_n hx hb dX3_advance_22 rfl (lv_at hl 0 rfl) ?_
    refine va_get (D := D) (ci := 3) (v := .ref (a 1)) (C := RX3) (T := TX3) (N := 7) hx hb hts inT_X3 hown hK.1 hP 0 rfl rfl 0 (by decide) (hts _ k_165) (fun _ h9 => h9) rfl dX3_advance_23 ?_
    refine lv_aload_n hx hb dX3_advance_26 rfl (lv_at hl 0 rfl) ?_
    refine va_get (D := D) (ci := 3) (v := .int (nI (pa + 1))) (C := RX3) (T := TX3) (N := 7) hx hb hts inT_X3 hown hK.1 hP 0 rfl rfl 3 (by decide) (hts _ k_168) (fun _ h9 => h9) rfl dX3_advance_27 ?_
    refine eRi (va_runV (As := [.int (nI (pa + 1))]) (rest := [.ref (a 2)]) ⟨hx, hb, hml, hown, hts⟩ (c_X8_byteAt_b l D cI cB cZ cJ tx a tu tb (nI (pa + 1)) (lf_X3_advance_3_7 a t en pa sg fa tu tb htu hen hpa hlt c_1 n_5) H.size) (zV hts k_564 v_X8_byteAt ⟨Nat.le_of_ble_eq_true rfl, Nat.le_of_ble_eq_true rfl⟩) (pV (pxS hK hP hD [1, 2] (by decide) rfl) hK hP 1 rfl rfl) rfl rfl hl.1 rfl (lv_room (Nat.le_of_ble_eq_true rfl)) dX3_advance_30 ⟨Nat.le_of_ble_eq_true rfl, Nat.le_of_ble_eq_true rfl⟩) hP hS hA (fun r_8 H locs wr_8 hP hS => ?_)
    refine lv_goto (tgt := 37) hx hb dX3_advance_33 (by decide) ?_
    refine va_put (D := D) (ci := 3) (v := .int r_8) (ty := .int) (C := RX3) (T := TX3) (N := 7) hx hb hts inT_X3 tyX3 tyX3_ok nmX3 hown hK.1 hP hD hS 0 rfl rfl 4 (by decide) (hts _ k_169) (fun _ h9 => h9) rfl (by decide +kernel) rfl rfl (Nat.le_of_ble_eq_true rfl) dX3_advance_37 (fun H locs hP hD hS => ?_)
    have hP : va_P D vwCl [(a 2, .inr (3, [.ref (a 1), .ref (t 0), .int (nI en), .int (nI (pa + 1)), .int r_8, .int 3, .int fa])), (a 1, .inr (8, [.ref (a 17), .int (nI tu)])), (a 17, .inl (cB, 220, .inl tb))] H := hP
    have hD : va_D A [(a 2, .inr (3, [.ref (a 1), .ref (t 0), .int (nI en), .int (nI (pa + 1)), .int r_8, .int 3, .int fa])), (a 1, .inr (8, [.ref (a 17), .int (nI tu)])), (a 17, .inl (cB, 220, .inl tb))] := hD
    exact W.vret hx hb hr (fun tt9 ht hW => ⟨⟨(((pa + 1) : Nat), (r_8 : Int32)), rfl, (lf_X3_advance_3_9 a t en pa sg fa tu tb htu hen hpa hlt c_1 n_5 r_8 wr_8), ⟨by rw [ht]; exact hP, hD⟩⟩, hS.F ht⟩) hS.2.2 dX3_advance_40 hlocks

set_option maxHeartbeats 4000000 in
set_option maxRecDepth 100000 in
theorem c_X3_refuse_3 (l : Launch) (D : va_G) (cI cB cZ cJ : ClassId) (tx : List (ClassId × FieldType)) (a : Nat → Nat) (t : Nat → Nat) (en : Nat) (pa : Nat) (sg : Int32) (fa : Int32) (n1 : Int32) : WrV l D cI cB cZ cJ tx yX3_refuse cX3_refuse 2 none 0 0 0 [.ref (a 2), .int n1] [(a 2, .inr (3, [.ref (a 1), .ref (t 0), .int (nI en), .int (nI pa), .int sg, .int 3, .int fa]))] (fun (v : (Int32)) => True) (fun v => [(a 2, .inr (3, [.ref (a 1), .ref (t 0), .int (nI en), .int (nI pa), .int sg, .int 3, .int v]))]) := by
  refine wrv_of2 (by decide) (Nat.le_of_ble_eq_true rfl) ?_
  intro p e s m below meth c A ls H locs hC hK hP hD hA hS hl
  obtain ⟨hx, hb, hr, hml, hown, hts, hlocks, hin⟩ := hC
  have hown : s.vm.findClass RX3 = some m.cls := hown
  have hl : lv_has ls 2 [(0, .ref (a 2)), (1, .int n1)] := hl
  refine lv_aload_n hx hb dX3_refuse_0 rfl (lv_at hl 0 rfl) ?_
  refine va_get (D := D) (ci := 3) (v := .int fa) (C := RX3) (T := TX3) (N := 7) hx hb hts inT_X3 hown hK.1 hP 0 rfl rfl 6 (by decide) (hts _ k_171) (fun _ h9 => h9) rfl dX3_refuse_1 ?_
  refine lv_if_ne (tgt := 12) hx hb dX3_refuse_4 (by decide) (fun c_1 => ?_) (fun c_1 => ?_)
  · exact W.vret hx hb hr (fun tt9 ht hW => ⟨⟨((fa : Int32)), rfl, trivial, ⟨by rw [ht]; exact hP, hD⟩⟩, hS.F ht⟩) hS.2.2 dX3_refuse_12 hlocks
  · refine lv_aload_n hx hb dX3_refuse_7 rfl (lv_at hl 0 rfl) ?_
    refine lv_iload_n hx hb dX3_refuse_8 rfl (lv_at hl 1 rfl) ?_
    refine va_put (D := D) (ci := 3) (v := .int n1) (ty := .int) (C := RX3) (T := TX3) (N := 7) hx hb hts inT_X3 tyX3 tyX3_ok nmX3 hown hK.1 hP hD hS 0 rfl rfl 6 (by decide) (hts _ k_171) (fun _ h9 => h9) rfl (by decide +kernel) rfl rfl (Nat.le_of_ble_eq_true rfl) dX3_refuse_9 (fun H locs hP hD hS => ?_)
    have hP : va_P D vwCl [(a 2, .inr (3, [.ref (a 1), .ref (t 0), .int (nI en), .int (nI pa), .int sg, .int 3, .int n1]))] H := hP
    have hD : va_D A [(a 2, .inr (3, [.ref (a 1), .ref (t 0), .int (nI en), .int (nI pa), .int sg, .int 3, .int n1]))] := hD
    exact W.vret hx hb hr (fun tt9 ht hW => ⟨⟨((n1 : Int32)), rfl, trivial, ⟨by rw [ht]; exact hP, hD⟩⟩, hS.F ht⟩) hS.2.2 dX3_refuse_12 hlocks

theorem lf_X3_isOneOf_3_2 (a : Nat → Nat) (t : Nat → Nat) (en : Nat) (pa : Nat) (sg : Int32) (fa : Int32) (i0 : Nat) (hi0 : i0 < 16) (hsg : SG sg pa en) (c_1 : ¬ fa = 0) : ((0 : Int32) = 0) ∨ ((0 : Int32) = 1 ∧ ∃ k : Nat, k < 256 ∧ sg = nI k ∧ pa < en ∧ sHas i0 k = true) := by
  first
    | exact Or.inl rfl
    | exact Or.inr ⟨rfl, kq, hkq, by assumption, lkq, has_use (by assumption) (by assumption)⟩
theorem lf_X3_isOneOf_3_4 (a : Nat → Nat) (t : Nat → Nat) (en : Nat) (pa : Nat) (sg : Int32) (fa : Int32) (i0 : Nat) (hi0 : i0 < 16) (hsg : SG sg pa en) (c_1 : fa = 0) (c_3 : sg < 0) : ((0 : Int32) = 0) ∨ ((0 : Int32) = 1 ∧ ∃ k : Nat, k < 256 ∧ sg = nI k ∧ pa < en ∧ sHas i0 k = true) := by
  first
    | exact Or.inl rfl
    | exact Or.inr ⟨rfl, kq, hkq, by assumption, lkq, has_use (by assumption) (by assumption)⟩
theorem lf_X3_isOneOf_3_5 (a : Nat → Nat) (t : Nat → Nat) (en : Nat) (pa : Nat) (sg : Int32) (fa : Int32) (i0 : Nat) (hi0 : i0 < 16) (hsg : SG sg pa en) (c_1 : fa = 0) (c_3 : ¬ sg < 0) (kq : Nat) (hkq : kq < 256) (ekq : sg = nI kq) (lkq : pa < en) : kq < 65536 := by
  omega
theorem lf_X3_isOneOf_3_6 (a : Nat → Nat) (t : Nat → Nat) (en : Nat) (pa : Nat) (sg : Int32) (fa : Int32) (i0 : Nat) (hi0 : i0 < 16) (hsg : SG sg pa en) (c_1 : fa = 0) (c_3 : ¬ sg < 0) (kq : Nat) (hkq : kq < 256) (ekq : sg = nI kq) (lkq : pa < en) : i0 < 16 := by
  first | assumption | omega | decide | exact sg_nI (by assumption) (by assumption)
theorem lf_X3_isOneOf_3_7 (a : Nat → Nat) (t : Nat → Nat) (en : Nat) (pa : Nat) (sg : Int32) (fa : Int32) (i0 : Nat) (hi0 : i0 < 16) (hsg : SG sg pa en) (c_1 : fa = 0) (c_3 : ¬ sg < 0) (kq : Nat) (hkq : kq < 256) (ekq : sg = nI kq) (lkq : pa < en) : kq < 256 := by
  first | assumption | omega | decide | exact sg_nI (by assumption) (by assumption)
theorem lf_X3_isOneOf_3_8 (a : Nat → Nat) (t : Nat → Nat) (en : Nat) (pa : Nat) (sg : Int32) (fa : Int32) (i0 : Nat) (hi0 : i0 < 16) (hsg : SG sg pa en) (c_1 : fa = 0) (c_3 : ¬ sg < 0) (kq : Nat) (hkq : kq < 256) (ekq : sg = nI kq) (lkq : pa < en) : i0 < 16 := by
  first | omega | assumption
theorem lf_X3_isOneOf_3_11 (a : Nat → Nat) (t : Nat → Nat) (en : Nat) (pa : Nat) (sg : Int32) (fa : Int32) (i0 : Nat) (hi0 : i0 < 16) (hsg : SG sg pa en) (c_1 : fa = 0) (c_3 : ¬ sg < 0) (kq : Nat) (hkq : kq < 256) (ekq : sg = nI kq) (lkq : pa < en) (r_9 : Int32) (wr_9 : 0 ≤ r_9 → sHas i0 kq = true) (c_10 : r_9 < 0) : ((0 : Int32) = 0) ∨ ((0 : Int32) = 1 ∧ ∃ k : Nat, k < 256 ∧ sg = nI k ∧ pa < en ∧ sHas i0 k = true) := by
  first
    | exact Or.inl rfl
    | exact Or.inr ⟨rfl, kq, hkq, by assumption, lkq, has_use (by assumption) (by assumption)⟩
theorem lf_X3_isOneOf_3_12 (a : Nat → Nat) (t : Nat → Nat) (en : Nat) (pa : Nat) (sg : Int32) (fa : Int32) (i0 : Nat) (hi0 : i0 < 16) (hsg : SG sg pa en) (c_1 : fa = 0) (c_3 : ¬ sg < 0) (kq : Nat) (hkq : kq < 256) (ekq : sg = nI kq) (lkq : pa < en) (r_9 : Int32) (wr_9 : 0 ≤ r_9 → sHas i0 kq = true) (c_10 : ¬ r_9 < 0) : ((1 : Int32) = 0) ∨ ((1 : Int32) = 1 ∧ ∃ k : Nat, k < 256 ∧ sg = nI k ∧ pa < en ∧ sHas i0 k = true) := by
  first
    | exact Or.inl rfl
    | exact Or.inr ⟨rfl, kq, hkq, by assumption, lkq, has_use (by assumption) (by assumption)⟩
set_option maxHeartbeats 4000000 in
set_option maxRecDepth 100000 in
theorem c_X3_isOneOf_3 (l : Launch) (D : va_G) (cI cB cZ cJ : ClassId) (tx : List (ClassId × FieldType)) (adK adV : Nat → Nat) (a : Nat → Nat) (t : Nat → Nat) (en : Nat) (pa : Nat) (sg : Int32) (fa : Int32) (i0 : Nat) (hi0 : i0 < 16) (hsg : SG sg pa en) : RzI l D cI cB cZ cJ tx adK adV yX3_isOneOf cX3_isOneOf 2 (some .boolean) 4 [.ref (a 2), .ref (adK i0)] [(a 2, .inr (3, [.ref (a 1), .ref (t 0), .int (nI en), .int (nI pa), .int sg, .int 3, .int fa]))] (fun r => (r = 0) ∨ (r = 1 ∧ ∃ k : Nat, k < 256 ∧ sg = nI k ∧ pa < en ∧ sHas i0 k = true)) := by
  refine rzi_of2 (by decide +kernel) (Nat.le_of_ble_eq_true rfl) ?_
  intro p e s m below meth c A ls H locs hC hK hZ hP hD hA hS hl
  obtain ⟨hx, hb, hr, hml, hown, hts, hlocks, hin⟩ := hC
  have hown : s.vm.findClass RX3 = some m.cls := hown
  have hl : lv_has ls 2 [(0, .ref (a 2)), (1, .ref (adK i0))] := hl
  refine lv_aload_n hx hb dX3_isOneOf_0 rfl (lv_at hl 0 rfl) ?_
  refine va_get (D := D) (ci := 3) (v := .int fa) (C := RX3) (T := TX3) (N := 7) hx hb hts inT_X3 hown hK.1 hP 0 rfl rfl 6 (by decide) (hts _ k_171) (fun _ h9 => h9) rfl dX3_isOneOf_1 ?_
  refine lv_if_ne (tgt := 30) hx hb dX3_isOneOf_4 (by decide) (fun c_1 => ?_) (fun c_1 => ?_)
  · refine lv_iconst (v := 0) hx hb dX3_isOneOf_30 (by decide) ?_
    exact W.zret (v := 0) hx hb hr (by decide) (fun tt9 ht hW => ⟨⟨(0 : Int32), (), rfl, (lf_X3_isOneOf_3_2 a t en pa sg fa i0 hi0 hsg c_1), trivial⟩, hS.F ht⟩) hS.2.2 dX3_isOneOf_31 hlocks
  · refine lv_aload_n hx hb dX3_isOneOf_7 rfl (lv_at hl 0 rfl) ?_
    refine va_get (D := D) (ci := 3) (v := .int sg) (C := RX3) (T := TX3) (N := 7) hx hb hts inT_X3 hown hK.1 hP 0 rfl rfl 4 (by decide) (hts _ k_169) (fun _ h9 => h9) rfl dX3_isOneOf_8 ?_
    refine lv_if_lt (tgt := 30) hx hb dX3_isOneOf_11 (by decide) (fun c_3 => ?_) (fun c_3 => ?_)
    · refine lv_iconst (v := 0) hx hb dX3_isOneOf_30 (by decide) ?_
      exact W.zret (v := 0) hx hb hr (by decide) (fun tt9 ht hW => ⟨⟨(0 : Int32), (), rfl, (lf_X3_isOneOf_3_4 a t en pa sg fa i0 hi0 hsg c_1 c_3), trivial⟩, hS.F ht⟩) hS.2.2 dX3_isOneOf_31 hlocks
    · obtain ⟨kq, hkq, ekq, lkq⟩ := sg_of hsg c_3
      subst ekq
      refine lv_aload_n hx hb dX3_isOneOf_14 rfl (lv_at hl 1 rfl) ?_
      refine lv_aload_n hx hb dX3_isOneOf_15 rfl (lv_at hl 0 rfl) ?_
      refine va_get (D := D) (ci := 3) (v := .int (nI kq)) (C := RX3) (T := TX3) (N := 7) hx hb hts inT_X3 hown hK.1 hP 0 rfl rfl 4 (by decide) (hts _ k_169) (fun _ h9 => h9) rfl dX3_isOneOf_16 ?_
      refine lv_i2c hx hb dX3_isOneOf_19 (i2c_nI (lf_X3_isOneOf_3_5 a t en pa (nI kq) fa i0 hi0 hsg c_1 c_3 kq hkq rfl lkq)) ?_
      refine eRi (va_runV (As := [.int (nI kq)]) (rest := []) ⟨hx, hb, hml, hown, hts⟩ (c_J0_indexOf1 l D cI cB cZ cJ tx adK adV i0 kq (lf_X3_isOneOf_3_6 a t en pa (nI kq) fa i0 hi0 hsg c_1 c_3 kq hkq rfl lkq) (lf_X3_isOneOf_3_7 a t en pa (nI kq) fa i0 hi0 hsg c_1 c_3 kq hkq rfl lkq) H.size) (zV hts k_576 v_J0_indexOf_0f7a4 ⟨Nat.le_of_ble_eq_true rfl, Nat.le_of_ble_eq_true rfl⟩) (pVS (pz (px0 hK) hZ hS (aR hS hA)) hZ (lf_X3_isOneOf_3_8 a t en pa (nI kq) fa i0 hi0 hsg c_1 c_3 kq hkq rfl lkq) hS) rfl rfl hl.1 rfl (lv_room (Nat.le_of_ble_eq_true rfl)) dX3_isOneOf_20 ⟨Nat.le_of_ble_eq_true rfl, Nat.le_of_ble_eq_true rfl⟩) hP hS hA (fun r_9 H locs wr_9 hP hS => ?_)
      refine lv_if_lt (tgt := 30) hx hb dX3_isOneOf_23 (by decide) (fun c_10 => ?_) (fun c_10 => ?_)
      · refine lv_iconst (v := 0) hx hb dX3_isOneOf_30 (by decide) ?_
        exact W.zret (v := 0) hx hb hr (by decide) (fun tt9 ht hW => ⟨⟨(0 : Int32), (), rfl, (lf_X3_isOneOf_3_11 a t en pa (nI kq) fa i0 hi0 hsg c_1 c_3 kq hkq rfl lkq r_9 wr_9 c_10), trivial⟩, hS.F ht⟩) hS.2.2 dX3_isOneOf_31 hlocks
      · refine lv_iconst (v := 1) hx hb dX3_isOneOf_26 (by decide) ?_
        refine lv_goto (tgt := 31) hx hb dX3_isOneOf_27 (by decide) ?_
        exact W.zret (v := 1) hx hb hr (by decide) (fun tt9 ht hW => ⟨⟨(1 : Int32), (), rfl, (lf_X3_isOneOf_3_12 a t en pa (nI kq) fa i0 hi0 hsg c_1 c_3 kq hkq rfl lkq r_9 wr_9 c_10), trivial⟩, hS.F ht⟩) hS.2.2 dX3_isOneOf_31 hlocks

theorem lf_X3_take_3_1 (a : Nat → Nat) (t : Nat → Nat) (en : Nat) (pa : Nat) (sg : Int32) (fa : Int32) (tu : Nat) (tb : Nat → Int32) (i0 : Nat) (hi0 : i0 < 16) (htu : tu ≤ 220) (hen : en ≤ 200) (hpa : pa ≤ en) (hsg : SG sg pa en) : i0 < 16 := by
  first | assumption | omega | decide | exact sg_nI (by assumption) (by assumption)
theorem lf_X3_take_3_2 (a : Nat → Nat) (t : Nat → Nat) (en : Nat) (pa : Nat) (sg : Int32) (fa : Int32) (tu : Nat) (tb : Nat → Int32) (i0 : Nat) (hi0 : i0 < 16) (htu : tu ≤ 220) (hen : en ≤ 200) (hpa : pa ≤ en) (hsg : SG sg pa en) : SG sg pa en := by
  first | assumption | omega | decide | exact sg_nI (by assumption) (by assumption)
theorem lf_X3_take_3_6 (a : Nat → Nat) (t : Nat → Nat) (en : Nat) (pa : Nat) (sg : Int32) (fa : Int32) (tu : Nat) (tb : Nat → Int32) (i0 : Nat) (hi0 : i0 < 16) (htu : tu ≤ 220) (hen : en ≤ 200) (hpa : pa ≤ en) (hsg : SG sg pa en) (fa_5 : Int32) : (pa ≤ (pa : Nat)) ∧ ((pa : Nat) ≤ en) ∧ (SG (sg : Int32) (pa : Nat) en) := by
  first | (refine ⟨?_, ?_, ?_⟩ <;> first | omega | assumption) | (refine ⟨?_, ?_, ?_, ?_⟩ <;> first | omega | assumption)
theorem lf_X3_take_3_7 (a : Nat → Nat) (t : Nat → Nat) (en : Nat) (pa : Nat) (sg : Int32) (fa : Int32) (tu : Nat) (tb : Nat → Int32) (i0 : Nat) (hi0 : i0 < 16) (htu : tu ≤ 220) (hen : en ≤ 200) (hpa : pa ≤ en) (hsg : SG sg pa en) (kk3 : Nat) (hkk3 : kk3 < 256) (lkk3 : pa < en) (skk3 : sHas i0 kk3 = true) : tu ≤ 220 := by
  first | assumption | omega | decide | exact sg_nI (by assumption) (by assumption)
theorem lf_X3_take_3_8 (a : Nat → Nat) (t : Nat → Nat) (en : Nat) (pa : Nat) (sg : Int32) (fa : Int32) (tu : Nat) (tb : Nat → Int32) (i0 : Nat) (hi0 : i0 < 16) (htu : tu ≤ 220) (hen : en ≤ 200) (hpa : pa ≤ en) (hsg : SG sg pa en) (kk3 : Nat) (hkk3 : kk3 < 256) (lkk3 : pa < en) (skk3 : sHas i0 kk3 = true) : en ≤ 200 := by
  first | assumption | omega | decide | exact sg_nI (by assumption) (by assumption)
theorem lf_X3_take_3_9 (a : Nat → Nat) (t : Nat → Nat) (en : Nat) (pa : Nat) (sg : Int32) (fa : Int32) (tu : Nat) (tb : Nat → Int32) (i0 : Nat) (hi0 : i0 < 16) (htu : tu ≤ 220) (hen : en ≤ 200) (hpa : pa ≤ en) (hsg : SG sg pa en) (kk3 : Nat) (hkk3 : kk3 < 256) (lkk3 : pa < en) (skk3 : sHas i0 kk3 = true) : pa ≤ en := by
  first | assumption | omega | decide | exact sg_nI (by assumption) (by assumption)
theorem lf_X3_take_3_10 (a : Nat → Nat) (t : Nat → Nat) (en : Nat) (pa : Nat) (sg : Int32) (fa : Int32) (tu : Nat) (tb : Nat → Int32) (i0 : Nat) (hi0 : i0 < 16) (htu : tu ≤ 220) (hen : en ≤ 200) (hpa : pa ≤ en) (hsg : SG sg pa en) (kk3 : Nat) (hkk3 : kk3 < 256) (lkk3 : pa < en) (skk3 : sHas i0 kk3 = true) : pa < en := by
  first | assumption | omega | decide | exact sg_nI (by assumption) (by assumption)
theorem lf_X3_take_3_13 (a : Nat → Nat) (t : Nat → Nat) (en : Nat) (pa : Nat) (sg : Int32) (fa : Int32) (tu : Nat) (tb : Nat → Int32) (i0 : Nat) (hi0 : i0 < 16) (htu : tu ≤ 220) (hen : en ≤ 200) (hpa : pa ≤ en) (hsg : SG sg pa en) (kk3 : Nat) (hkk3 : kk3 < 256) (lkk3 : pa < en) (skk3 : sHas i0 kk3 = true) (pa_12 : Nat) (sg_12 : Int32) (hz_12_0 : pa_12 = pa + 1) (hz_12_1 : pa_12 ≤ en) (hz_12_2 : SG sg_12 pa_12 en) : (pa ≤ (pa_12 : Nat)) ∧ ((pa_12 : Nat) ≤ en) ∧ (SG (sg_12 : Int32) (pa_12 : Nat) en) := by
  first | (refine ⟨?_, ?_, ?_⟩ <;> first | omega | assumption) | (refine ⟨?_, ?_, ?_, ?_⟩ <;> first | omega | assumption)
set_option maxHeartbeats 4000000 in
set_option maxRecDepth 100000 in
theorem c_X3_take_3 (l : Launch) (D : va_G) (cI cB cZ cJ : ClassId) (tx : List (ClassId × FieldType)) (adK adV : Nat → Nat) (a : Nat → Nat) (t : Nat → Nat) (en : Nat) (pa : Nat) (sg : Int32) (fa : Int32) (tu : Nat) (tb : Nat → Int32) (i0 : Nat) (hi0 : i0 < 16) (htu : tu ≤ 220) (hen : en ≤ 200) (hpa : pa ≤ en) (hsg : SG sg pa en) : WzV l D cI cB cZ cJ tx adK adV yX3_take cX3_take 2 none 5 0 0 [.ref (a 2), .ref (adK i0)] [(a 2, .inr (3, [.ref (a 1), .ref (t 0), .int (nI en), .int (nI pa), .int sg, .int 3, .int fa])), (a 1, .inr (8, [.ref (a 17), .int (nI tu)])), (a 17, .inl (cB, 220, .inl tb))] (fun (v : (Nat) × (Int32) × (Int32)) => (pa ≤ v.1) ∧ (v.1 ≤ en) ∧ (SG v.2.1 v.1 en)) (fun v => [(a 2, .inr (3, [.ref (a 1), .ref (t 0), .int (nI en), .int (nI (v.1)), .int v.2.1, .int 3, .int v.2.2])), (a 1, .inr (8, [.ref (a 17), .int (nI tu)])), (a 17, .inl (cB, 220, .inl tb))]) := by
  refine wzv_of2 (by decide +kernel) (Nat.le_of_ble_eq_true rfl) ?_
  intro p e s m below meth c A ls H locs hC hK hZ hP hD hA hS hl
  obtain ⟨hx, hb, hr, hml, hown, hts, hlocks, hin⟩ := hC
  have hown : s.vm.findClass RX3 = some m.cls := hown
  have hl : lv_has ls 2 [(0, .ref (a 2)), (1, .ref (adK i0))] := hl
  refine lv_aload_n hx hb dX3_take_0 rfl (lv_at hl 0 rfl) ?_
  refine lv_aload_n hx hb dX3_take_1 rfl (lv_at hl 1 rfl) ?_
  refine eRi (va_runV (As := [.ref (adK i0)]) (rest := []) ⟨hx, hb, hml, hown, hts⟩ (c_X3_isOneOf_3 l D cI cB cZ cJ tx adK adV a t en pa sg fa i0 (lf_X3_take_3_1 a t en pa sg fa tu tb i0 hi0 htu hen hpa hsg) (lf_X3_take_3_2 a t en pa sg fa tu tb i0 hi0 htu hen hpa hsg) H.size) (zV hts k_572 v_X3_isOneOf ⟨Nat.le_of_ble_eq_true rfl, Nat.le_of_ble_eq_true rfl⟩) (pV (pz (px1 hK hP 0 rfl) hZ hS (aR hS hA)) hK hP 0 rfl rfl) rfl rfl hl.1 rfl (lv_room (Nat.le_of_ble_eq_true rfl)) dX3_take_2 ⟨Nat.le_of_ble_eq_true rfl, Nat.le_of_ble_eq_true rfl⟩) hP hS hA (fun r_3 H locs wr_3 hP hS => ?_)
  rcases wr_3 with rfl | ⟨rfl, kk3, hkk3, rfl, lkk3, skk3⟩
  · refine lv_if_eq (tgt := 15) hx hb dX3_take_5 (by decide) (fun _ => ?_) (fun c => absurd c (by decide))
    refine lv_aload_n hx hb dX3_take_15 rfl (lv_at hl 0 rfl) ?_
    refine lv_iconst (v := 1) hx hb dX3_take_16 (by decide) ?_
    refine eWv (wr := [(a 1, .inr (8, [.ref (a 17), .int (nI tu)])), (a 17, .inl (cB, 220, .inl tb))]) (va_runV (As := [.int 1]) (rest := []) ⟨hx, hb, hml, hown, hts⟩ (c_X3_refuse_3 l D cI cB cZ cJ tx a t en pa sg fa 1 H.size) (zV hts k_662 v_X3_refuse ⟨Nat.le_of_ble_eq_true rfl, Nat.le_of_ble_eq_true rfl⟩) (pV (pxS hK hP hD [0] (by decide) rfl) hK hP 0 rfl rfl) rfl rfl hl.1 rfl (lv_room (Nat.le_of_ble_eq_true rfl)) dX3_take_17 ⟨Nat.le_of_ble_eq_true rfl, Nat.le_of_ble_eq_true rfl⟩) hP hD hS hA [0] [1, 2] rfl rfl (by decide) (by decide) (fun u_5 H locs wr_4 hP hD hS => ?_)
    obtain ⟨fa_5, rfl⟩ : ∃ z, z = u_5 := ⟨_, rfl⟩
    have hP : va_P D vwCl [(a 1, .inr (8, [.ref (a 17), .int (nI tu)])), (a 17, .inl (cB, 220, .inl tb)), (a 2, .inr (3, [.ref (a 1), .ref (t 0), .int (nI en), .int (nI pa), .int sg, .int 3, .int fa_5]))] H := hP
    have hD : va_D A [(a 1, .inr (8, [.ref (a 17), .int (nI tu)])), (a 17, .inl (cB, 220, .inl tb)), (a 2, .inr (3, [.ref (a 1), .ref (t 0), .int (nI en), .int (nI pa), .int sg, .int 3, .int fa_5]))] := hD
    have hP := hP.sub (ws' := [(a 2, .inr (3, [.ref (a 1), .ref (t 0), .int (nI en), .int (nI pa), .int sg, .int 3, .int fa_5])), (a 1, .inr (8, [.ref (a 17), .int (nI tu)])), (a 17, .inl (cB, 220, .inl tb))]) [2, 0, 1] rfl
    have hD := hD.sub (ws' := [(a 2, .inr (3, [.ref (a 1), .ref (t 0), .int (nI en), .int (nI pa), .int sg, .int 3, .int fa_5])), (a 1, .inr (8, [.ref (a 17), .int (nI tu)])), (a 17, .inl (cB, 220, .inl tb))]) [2, 0, 1] (by decide) rfl
    exact W.vret hx hb hr (fun tt9 ht hW => ⟨⟨((pa : Nat), (sg : Int32), (fa_5 : Int32)), rfl, (lf_X3_take_3_6 a t en pa sg fa tu tb i0 hi0 htu hen hpa hsg fa_5), ⟨by rw [ht]; exact hP, hD⟩⟩, hS.F ht⟩) hS.2.2 dX3_take_20 hlocks
  · refine lv_if_eq (tgt := 15) hx hb dX3_take_5 (by decide) (fun c => absurd c (by decide)) (fun _ => ?_)
    refine lv_aload_n hx hb dX3_take_8 rfl (lv_at hl 0 rfl) ?_
    refine eWv (wr := []) (va_runV (As := []) (rest := []) ⟨hx, hb, hml, hown, hts⟩ (c_X3_advance_3 l D cI cB cZ cJ tx a t en pa (nI kk3) fa tu tb (lf_X3_take_3_7 a t en pa (nI kk3) fa tu tb i0 hi0 htu hen hpa hsg kk3 hkk3 lkk3 skk3) (lf_X3_take_3_8 a t en pa (nI kk3) fa tu tb i0 hi0 htu hen hpa hsg kk3 hkk3 lkk3 skk3) (lf_X3_take_3_9 a t en pa (nI kk3) fa tu tb i0 hi0 htu hen hpa hsg kk3 hkk3 lkk3 skk3) (lf_X3_take_3_10 a t en pa (nI kk3) fa tu tb i0 hi0 htu hen hpa hsg kk3 hkk3 lkk3 skk3) H.size) (zV hts k_670 v_X3_advance ⟨Nat.le_of_ble_eq_true rfl, Nat.le_of_ble_eq_true rfl⟩) (pV (pxS hK hP hD [0, 1, 2] (by decide) rfl) hK hP 0 rfl rfl) rfl rfl hl.1 rfl (lv_room (Nat.le_of_ble_eq_true rfl)) dX3_take_9 ⟨Nat.le_of_ble_eq_true rfl, Nat.le_of_ble_eq_true rfl⟩) hP hD hS hA [0, 1, 2] [] rfl rfl (by decide) (by decide) (fun u_12 H locs wr_11 hP hD hS => ?_)
    obtain ⟨pa_12, sg_12⟩ := u_12
    have hz_12_0 : pa_12 = pa + 1 := wr_11.1
    have hz_12_1 : pa_12 ≤ en := wr_11.2.1
    have hz_12_2 : SG sg_12 pa_12 en := wr_11.2.2
    have hP : va_P D vwCl [(a 2, .inr (3, [.ref (a 1), .ref (t 0), .int (nI en), .int (nI pa_12), .int sg_12, .int 3, .int fa])), (a 1, .inr (8, [.ref (a 17), .int (nI tu)])), (a 17, .inl (cB, 220, .inl tb))] H := hP
    have hD : va_D A [(a 2, .inr (3, [.ref (a 1), .ref (t 0), .int (nI en), .int (nI pa_12), .int sg_12, .int 3, .int fa])), (a 1, .inr (8, [.ref (a 17), .int (nI tu)])), (a 17, .inl (cB, 220, .inl tb))] := hD
    refine lv_goto (tgt := 20) hx hb dX3_take_12 (by decide) ?_
    exact W.vret hx hb hr (fun tt9 ht hW => ⟨⟨((pa_12 : Nat), (sg_12 : Int32), (fa : Int32)), rfl, (lf_X3_take_3_13 a t en pa (nI kk3) fa tu tb i0 hi0 htu hen hpa hsg kk3 hkk3 lkk3 skk3 pa_12 sg_12 hz_12_0 hz_12_1 hz_12_2), ⟨by rw [ht]; exact hP, hD⟩⟩, hS.F ht⟩) hS.2.2 dX3_take_20 hlocks

theorem lf_X3_advance_4_3 (a : Nat → Nat) (t : Nat → Nat) (en : Nat) (pa : Nat) (sg : Int32) (fa : Int32) (tu : Nat) (tb : Nat → Int32) (htu : tu ≤ 220) (hen : en ≤ 200) (hpa : pa ≤ en) (hlt : pa < en) (c_1 : nI en ≤ nI (pa + 1)) : en ≤ (pa + 1) := by
  exact (nI_leI (a := en) (b := (pa + 1)) (by omega) (by omega)).mp c_1
theorem lf_X3_advance_4_4 (a : Nat → Nat) (t : Nat → Nat) (en : Nat) (pa : Nat) (sg : Int32) (fa : Int32) (tu : Nat) (tb : Nat → Int32) (htu : tu ≤ 220) (hen : en ≤ 200) (hpa : pa ≤ en) (hlt : pa < en) (c_1 : nI en ≤ nI (pa + 1)) (n_2 : en ≤ (pa + 1)) : (((pa + 1) : Nat) = pa + 1) ∧ (((pa + 1) : Nat) ≤ en) ∧ (SG ((-1) : Int32) ((pa + 1) : Nat) en) := by
  first
    | exact ⟨rfl, by omega, Or.inl rfl⟩
    | exact ⟨rfl, by omega, sg_mk (by assumption) (by omega)⟩
theorem lf_X3_advance_4_6 (a : Nat → Nat) (t : Nat → Nat) (en : Nat) (pa : Nat) (sg : Int32) (fa : Int32) (tu : Nat) (tb : Nat → Int32) (htu : tu ≤ 220) (hen : en ≤ 200) (hpa : pa ≤ en) (hlt : pa < en) (c_1 : ¬ nI en ≤ nI (pa + 1)) : (pa + 1) < en := by
  exact Nat.lt_of_not_le (fun q => c_1 ((nI_leI (a := en) (b := (pa + 1)) (by omega) (by omega)).mpr q))
theorem lf_X3_advance_4_7 (a : Nat → Nat) (t : Nat → Nat) (en : Nat) (pa : Nat) (sg : Int32) (fa : Int32) (tu : Nat) (tb : Nat → Int32) (htu : tu ≤ 220) (hen : en ≤ 200) (hpa : pa ≤ en) (hlt : pa < en) (c_1 : ¬ nI en ≤ nI (pa + 1)) (n_5 : (pa + 1) < en) : tu ≤ 220 := by
  first | assumption | omega | decide
theorem lf_X3_advance_4_9 (a : Nat → Nat) (t : Nat → Nat) (en : Nat) (pa : Nat) (sg : Int32) (fa : Int32) (tu : Nat) (tb : Nat → Int32) (htu : tu ≤ 220) (hen : en ≤ 200) (hpa : pa ≤ en) (hlt : pa < en) (c_1 : ¬ nI en ≤ nI (pa + 1)) (n_5 : (pa + 1) < en) (r_8 : Int32) (wr_8 : (r_8 = -1 ∨ ∃ k : Nat, k < 256 ∧ r_8 = nI k)) : (((pa + 1) : Nat) = pa + 1) ∧ (((pa + 1) : Nat) ≤ en) ∧ (SG (r_8 : Int32) ((pa + 1) : Nat) en) := by
  first
    | exact ⟨rfl, by omega, Or.inl rfl⟩
    | exact ⟨rfl, by omega, sg_mk (by assumption) (by omega)⟩
set_option maxHeartbeats 4000000 in
set_option maxRecDepth 100000 in
theorem c_X3_advance_4 (l : Launch) (D : va_G) (cI cB cZ cJ : ClassId) (tx : List (ClassId × FieldType)) (a : Nat → Nat) (t : Nat → Nat) (en : Nat) (pa : Nat) (sg : Int32) (fa : Int32) (tu : Nat) (tb : Nat → Int32) (htu : tu ≤ 220) (hen : en ≤ 200) (hpa : pa ≤ en) (hlt : pa < en) : WrV l D cI cB cZ cJ tx yX3_advance cX3_advance 1 none 1 0 0 [.ref (a 2)] [(a 2, .inr (3, [.ref (a 1), .ref (t 0), .int (nI en), .int (nI pa), .int sg, .int 4, .int fa])), (a 1, .inr (8, [.ref (a 17), .int (nI tu)])), (a 17, .inl (cB, 220, .inl tb))] (fun (v : (Nat) × (Int32)) => (v.1 = pa + 1) ∧ (v.1 ≤ en) ∧ (SG v.2 v.1 en)) (fun v => [(a 2, .inr (3, [.ref (a 1), .ref (t 0), .int (nI en), .int (nI (v.1)), .int v.2, .int 4, .int fa])), (a 1, .inr (8, [.ref (a 17), .int (nI tu)])), (a 17, .inl (cB, 220, .inl tb))]) := by
  refine wrv_of2 (by decide) (Nat.le_of_ble_eq_true rfl) ?_
  intro p e s m below meth c A ls H locs hC hK hP hD hA hS hl
  obtain ⟨hx, hb, hr, hml, hown, hts, hlocks, hin⟩ := hC
  have hown : s.vm.findClass RX3 = some m.cls := hown
  have hl : lv_has ls 1 [(0, .ref (a 2))] := hl
  refine lv_aload_n hx hb dX3_advance_0 rfl (lv_at hl 0 rfl) ?_
  refine lv_dup hx hb dX3_advance_1 rfl ?_
  refine va_get (D := D) (ci := 3) (v := .int (nI pa)) (C := RX3) (T := TX3) (N := 7) hx hb hts inT_X3 hown hK.1 hP 0 rfl rfl 3 (by decide) (hts _ k_168) (fun _ h9 => h9) rfl dX3_advance_2 ?_
  refine lv_iconst (v := 1) hx hb dX3_advance_5 (by decide) ?_
  refine lv_iadd hx hb dX3_advance_6 ?_
  refine lv_topv (y := nI (pa + 1)) (nI_add pa 1) ?_
  refine va_put (D := D) (ci := 3) (v := .int (nI (pa + 1))) (ty := .int) (C := RX3) (T := TX3) (N := 7) hx hb hts inT_X3 tyX3 tyX3_ok nmX3 hown hK.1 hP hD hS 0 rfl rfl 3 (by decide) (hts _ k_168) (fun _ h9 => h9) rfl (by decide +kernel) rfl rfl (Nat.le_of_ble_eq_true rfl) dX3_advance_7 (fun H locs hP hD hS => ?_)
  have hP : va_P D vwCl [(a 2, .inr (3, [.ref (a 1), .ref (t 0), .int (nI en), .int (nI (pa + 1)), .int sg, .int 4, .int fa])), (a 1, .inr (8, [.ref (a 17), .int (nI tu)])), (a 17, .inl (cB, 220, .inl tb))] H := hP
  have hD : va_D A [(a 2, .inr (3, [.ref (a 1), .ref (t 0), .int (nI en), .int (nI (pa + 1)), .int sg, .int 4, .int fa])), (a 1, .inr (8, [.ref (a 17), .int (nI tu)])), (a 17, .inl (cB, 220, .inl tb))] := hD
  refine lv_aload_n hx hb dX3_advance_10 rfl (lv_at hl 0 rfl) ?_
  refine lv_aload_n hx hb dX3_advance_11 rfl (lv_at hl 0 rfl) ?_
  refine va_get (D := D) (ci := 3) (v := .int (nI (pa + 1))) (C := RX3) (T := TX3) (N := 7) hx hb hts inT_X3 hown hK.1 hP 0 rfl rfl 3 (by decide) (hts _ k_168) (fun _ h9 => h9) rfl dX3_advance_12 ?_
  refine lv_aload_n hx hb dX3_advance_15 rfl (lv_at hl 0 rfl) ?_
  refine va_get (D := D) (ci := 3) (v := .int (nI en)) (C := RX3) (T := TX3) (N := 7) hx hb hts inT_X3 hown hK.1 hP 0 rfl rfl 2 (by decide) (hts _ k_167) (fun _ h9 => h9) rfl dX3_advance_16 ?_
  refine lv_icmp_ge (tgt := 36) hx hb dX3_advance_19 (by decide) (fun c_1 => ?_) (fun c_1 => ?_)
  · have n_2 : en ≤ (pa + 1) := (lf_X3_advance_4_3 a t en pa sg fa tu tb htu hen hpa hlt c_1)
    refine lv_iconst (v := (-1)) hx hb dX3_advance_36 (by decide) ?_
    refine va_put (D := D) (ci := 3) (v := .int (-1)) (ty := .int) (C := RX3) (T := TX3) (N := 7) hx hb hts inT_X3 tyX3 tyX3_ok nmX3 hown hK.1 hP hD hS 0 rfl rfl 4 (by decide) (hts _ k_169) (fun _ h9 => h9) rfl (by decide +kernel) rfl rfl (Nat.le_of_ble_eq_true rfl) dX3_advance_37 (fun H locs hP hD hS => ?_)
    have hP : va_P D vwCl [(a 2, .inr (3, [.ref (a 1), .ref (t 0), .int (nI en), .int (nI (pa + 1)), .int (-1), .int 4, .int fa])), (a 1, .inr (8, [.ref (a 17), .int (nI tu)])), (a 17, .inl (cB, 220, .inl tb))] H := hP
    have hD : va_D A [(a 2, .inr (3, [.ref (a 1), .ref (t 0), .int (nI en), .int (nI (pa + 1)), .int (-1), .int 4, .int fa])), (a 1, .inr (8, [.ref (a 17), .int (nI tu)])), (a 17, .inl (cB, 220, .inl tb))] := hD
    exact W.vret hx hb hr (fun tt9 ht hW => ⟨⟨(((pa + 1) : Nat), ((-1) : Int32)), rfl, (lf_X3_advance_4_4 a t en pa sg fa tu tb htu hen hpa hlt c_1 n_2), ⟨by rw [ht]; exact hP, hD⟩⟩, hS.F ht⟩) hS.2.2 dX3_advance_40 hlocks
  · have n_5 : (pa + 1) < en := (lf_X3_advance_4_6 a t en pa sg fa tu tb htu hen hpa hlt c_1)
    refine lv_aload_n hx hb dX3_advance_22 rfl (lv_at hl 0 rfl) ?_
    refine va_get (D := D) (ci := 3) (v := .ref (a 1)) (C := RX3) (T := TX3) (N := 7) hx hb hts inT_X3 hown hK.1 hP 0 rfl rfl 0 (by decide) (hts _ k_165) (fun _ h9 => h9) rfl dX3_advance_23 ?_
    refine lv_aload_n hx hb dX3_advance_26 rfl (lv_at hl 0 rfl) ?_
    refine va_get (D := D) (ci := 3) (v := .int (nI (pa + 1))) (C := RX3) (T := TX3) (N := 7) hx hb hts inT_X3 hown hK.1 hP 0 rfl rfl 3 (by decide) (hts _ k_168) (fun _ h9 => h9) rfl dX3_advance_27 ?_
    refine eRi (va_runV (As := [.int (nI (pa + 1))]) (rest := [.ref (a 2)]) ⟨hx, hb, hml, hown, hts⟩ (c_X8_byteAt_b l D cI cB cZ cJ tx a tu tb (nI (pa + 1)) (lf_X3_advance_4_7 a t en pa sg fa tu tb htu hen hpa hlt c_1 n_5) H.size) (zV hts k_564 v_X8_byteAt ⟨Nat.le_of_ble_eq_true rfl, Nat.le_of_ble_eq_true rfl⟩) (pV (pxS hK hP hD [1, 2] (by decide) rfl) hK hP 1 rfl rfl) rfl rfl hl.1 rfl (lv_room (Nat.le_of_ble_eq_true rfl)) dX3_advance_30 ⟨Nat.le_of_ble_eq_true rfl, Nat.le_of_ble_eq_true rfl⟩) hP hS hA (fun r_8 H locs wr_8 hP hS => ?_)
    refine lv_goto (tgt := 37) hx hb dX3_advance_33 (by decide) ?_
    refine va_put (D := D) (ci := 3) (v := .int r_8) (ty := .int) (C := RX3) (T := TX3) (N := 7) hx hb hts inT_X3 tyX3 tyX3_ok nmX3 hown hK.1 hP hD hS 0 rfl rfl 4 (by decide) (hts _ k_169) (fun _ h9 => h9) rfl (by decide +kernel) rfl rfl (Nat.le_of_ble_eq_true rfl) dX3_advance_37 (fun H locs hP hD hS => ?_)
    have hP : va_P D vwCl [(a 2, .inr (3, [.ref (a 1), .ref (t 0), .int (nI en), .int (nI (pa + 1)), .int r_8, .int 4, .int fa])), (a 1, .inr (8, [.ref (a 17), .int (nI tu)])), (a 17, .inl (cB, 220, .inl tb))] H := hP
    have hD : va_D A [(a 2, .inr (3, [.ref (a 1), .ref (t 0), .int (nI en), .int (nI (pa + 1)), .int r_8, .int 4, .int fa])), (a 1, .inr (8, [.ref (a 17), .int (nI tu)])), (a 17, .inl (cB, 220, .inl tb))] := hD
    exact W.vret hx hb hr (fun tt9 ht hW => ⟨⟨(((pa + 1) : Nat), (r_8 : Int32)), rfl, (lf_X3_advance_4_9 a t en pa sg fa tu tb htu hen hpa hlt c_1 n_5 r_8 wr_8), ⟨by rw [ht]; exact hP, hD⟩⟩, hS.F ht⟩) hS.2.2 dX3_advance_40 hlocks

set_option maxHeartbeats 4000000 in
set_option maxRecDepth 100000 in
theorem c_X3_refuse_4 (l : Launch) (D : va_G) (cI cB cZ cJ : ClassId) (tx : List (ClassId × FieldType)) (a : Nat → Nat) (t : Nat → Nat) (en : Nat) (pa : Nat) (sg : Int32) (fa : Int32) (n1 : Int32) : WrV l D cI cB cZ cJ tx yX3_refuse cX3_refuse 2 none 0 0 0 [.ref (a 2), .int n1] [(a 2, .inr (3, [.ref (a 1), .ref (t 0), .int (nI en), .int (nI pa), .int sg, .int 4, .int fa]))] (fun (v : (Int32)) => True) (fun v => [(a 2, .inr (3, [.ref (a 1), .ref (t 0), .int (nI en), .int (nI pa), .int sg, .int 4, .int v]))]) := by
  refine wrv_of2 (by decide) (Nat.le_of_ble_eq_true rfl) ?_
  intro p e s m below meth c A ls H locs hC hK hP hD hA hS hl
  obtain ⟨hx, hb, hr, hml, hown, hts, hlocks, hin⟩ := hC
  have hown : s.vm.findClass RX3 = some m.cls := hown
  have hl : lv_has ls 2 [(0, .ref (a 2)), (1, .int n1)] := hl
  refine lv_aload_n hx hb dX3_refuse_0 rfl (lv_at hl 0 rfl) ?_
  refine va_get (D := D) (ci := 3) (v := .int fa) (C := RX3) (T := TX3) (N := 7) hx hb hts inT_X3 hown hK.1 hP 0 rfl rfl 6 (by decide) (hts _ k_171) (fun _ h9 => h9) rfl dX3_refuse_1 ?_
  refine lv_if_ne (tgt := 12) hx hb dX3_refuse_4 (by decide) (fun c_1 => ?_) (fun c_1 => ?_)
  · exact W.vret hx hb hr (fun tt9 ht hW => ⟨⟨((fa : Int32)), rfl, trivial, ⟨by rw [ht]; exact hP, hD⟩⟩, hS.F ht⟩) hS.2.2 dX3_refuse_12 hlocks
  · refine lv_aload_n hx hb dX3_refuse_7 rfl (lv_at hl 0 rfl) ?_
    refine lv_iload_n hx hb dX3_refuse_8 rfl (lv_at hl 1 rfl) ?_
    refine va_put (D := D) (ci := 3) (v := .int n1) (ty := .int) (C := RX3) (T := TX3) (N := 7) hx hb hts inT_X3 tyX3 tyX3_ok nmX3 hown hK.1 hP hD hS 0 rfl rfl 6 (by decide) (hts _ k_171) (fun _ h9 => h9) rfl (by decide +kernel) rfl rfl (Nat.le_of_ble_eq_true rfl) dX3_refuse_9 (fun H locs hP hD hS => ?_)
    have hP : va_P D vwCl [(a 2, .inr (3, [.ref (a 1), .ref (t 0), .int (nI en), .int (nI pa), .int sg, .int 4, .int n1]))] H := hP
    have hD : va_D A [(a 2, .inr (3, [.ref (a 1), .ref (t 0), .int (nI en), .int (nI pa), .int sg, .int 4, .int n1]))] := hD
    exact W.vret hx hb hr (fun tt9 ht hW => ⟨⟨((n1 : Int32)), rfl, trivial, ⟨by rw [ht]; exact hP, hD⟩⟩, hS.F ht⟩) hS.2.2 dX3_refuse_12 hlocks

theorem lf_X3_isOneOf_4_2 (a : Nat → Nat) (t : Nat → Nat) (en : Nat) (pa : Nat) (sg : Int32) (fa : Int32) (i0 : Nat) (hi0 : i0 < 16) (hsg : SG sg pa en) (c_1 : ¬ fa = 0) : ((0 : Int32) = 0) ∨ ((0 : Int32) = 1 ∧ ∃ k : Nat, k < 256 ∧ sg = nI k ∧ pa < en ∧ sHas i0 k = true) := by
  first
    | exact Or.inl rfl
    | exact Or.inr ⟨rfl, kq, hkq, by assumption, lkq, has_use (by assumption) (by assumption)⟩
theorem lf_X3_isOneOf_4_4 (a : Nat → Nat) (t : Nat → Nat) (en : Nat) (pa : Nat) (sg : Int32) (fa : Int32) (i0 : Nat) (hi0 : i0 < 16) (hsg : SG sg pa en) (c_1 : fa = 0) (c_3 : sg < 0) : ((0 : Int32) = 0) ∨ ((0 : Int32) = 1 ∧ ∃ k : Nat, k < 256 ∧ sg = nI k ∧ pa < en ∧ sHas i0 k = true) := by
  first
    | exact Or.inl rfl
    | exact Or.inr ⟨rfl, kq, hkq, by assumption, lkq, has_use (by assumption) (by assumption)⟩
theorem lf_X3_isOneOf_4_5 (a : Nat → Nat) (t : Nat → Nat) (en : Nat) (pa : Nat) (sg : Int32) (fa : Int32) (i0 : Nat) (hi0 : i0 < 16) (hsg : SG sg pa en) (c_1 : fa = 0) (c_3 : ¬ sg < 0) (kq : Nat) (hkq : kq < 256) (ekq : sg = nI kq) (lkq : pa < en) : kq < 65536 := by
  omega
theorem lf_X3_isOneOf_4_6 (a : Nat → Nat) (t : Nat → Nat) (en : Nat) (pa : Nat) (sg : Int32) (fa : Int32) (i0 : Nat) (hi0 : i0 < 16) (hsg : SG sg pa en) (c_1 : fa = 0) (c_3 : ¬ sg < 0) (kq : Nat) (hkq : kq < 256) (ekq : sg = nI kq) (lkq : pa < en) : i0 < 16 := by
  first | assumption | omega | decide | exact sg_nI (by assumption) (by assumption)
theorem lf_X3_isOneOf_4_7 (a : Nat → Nat) (t : Nat → Nat) (en : Nat) (pa : Nat) (sg : Int32) (fa : Int32) (i0 : Nat) (hi0 : i0 < 16) (hsg : SG sg pa en) (c_1 : fa = 0) (c_3 : ¬ sg < 0) (kq : Nat) (hkq : kq < 256) (ekq : sg = nI kq) (lkq : pa < en) : kq < 256 := by
  first | assumption | omega | decide | exact sg_nI (by assumption) (by assumption)
theorem lf_X3_isOneOf_4_8 (a : Nat → Nat) (t : Nat → Nat) (en : Nat) (pa : Nat) (sg : Int32) (fa : Int32) (i0 : Nat) (hi0 : i0 < 16) (hsg : SG sg pa en) (c_1 : fa = 0) (c_3 : ¬ sg < 0) (kq : Nat) (hkq : kq < 256) (ekq : sg = nI kq) (lkq : pa < en) : i0 < 16 := by
  first | omega | assumption
theorem lf_X3_isOneOf_4_11 (a : Nat → Nat) (t : Nat → Nat) (en : Nat) (pa : Nat) (sg : Int32) (fa : Int32) (i0 : Nat) (hi0 : i0 < 16) (hsg : SG sg pa en) (c_1 : fa = 0) (c_3 : ¬ sg < 0) (kq : Nat) (hkq : kq < 256) (ekq : sg = nI kq) (lkq : pa < en) (r_9 : Int32) (wr_9 : 0 ≤ r_9 → sHas i0 kq = true) (c_10 : r_9 < 0) : ((0 : Int32) = 0) ∨ ((0 : Int32) = 1 ∧ ∃ k : Nat, k < 256 ∧ sg = nI k ∧ pa < en ∧ sHas i0 k = true) := by
  first
    | exact Or.inl rfl
    | exact Or.inr ⟨rfl, kq, hkq, by assumption, lkq, has_use (by assumption) (by assumption)⟩
theorem lf_X3_isOneOf_4_12 (a : Nat → Nat) (t : Nat → Nat) (en : Nat) (pa : Nat) (sg : Int32) (fa : Int32) (i0 : Nat) (hi0 : i0 < 16) (hsg : SG sg pa en) (c_1 : fa = 0) (c_3 : ¬ sg < 0) (kq : Nat) (hkq : kq < 256) (ekq : sg = nI kq) (lkq : pa < en) (r_9 : Int32) (wr_9 : 0 ≤ r_9 → sHas i0 kq = true) (c_10 : ¬ r_9 < 0) : ((1 : Int32) = 0) ∨ ((1 : Int32) = 1 ∧ ∃ k : Nat, k < 256 ∧ sg = nI k ∧ pa < en ∧ sHas i0 k = true) := by
  first
    | exact Or.inl rfl
    | exact Or.inr ⟨rfl, kq, hkq, by assumption, lkq, has_use (by assumption) (by assumption)⟩
set_option maxHeartbeats 4000000 in
set_option maxRecDepth 100000 in
theorem c_X3_isOneOf_4 (l : Launch) (D : va_G) (cI cB cZ cJ : ClassId) (tx : List (ClassId × FieldType)) (adK adV : Nat → Nat) (a : Nat → Nat) (t : Nat → Nat) (en : Nat) (pa : Nat) (sg : Int32) (fa : Int32) (i0 : Nat) (hi0 : i0 < 16) (hsg : SG sg pa en) : RzI l D cI cB cZ cJ tx adK adV yX3_isOneOf cX3_isOneOf 2 (some .boolean) 4 [.ref (a 2), .ref (adK i0)] [(a 2, .inr (3, [.ref (a 1), .ref (t 0), .int (nI en), .int (nI pa), .int sg, .int 4, .int fa]))] (fun r => (r = 0) ∨ (r = 1 ∧ ∃ k : Nat, k < 256 ∧ sg = nI k ∧ pa < en ∧ sHas i0 k = true)) := by
  refine rzi_of2 (by decide +kernel) (Nat.le_of_ble_eq_true rfl) ?_
  intro p e s m below meth c A ls H locs hC hK hZ hP hD hA hS hl
  obtain ⟨hx, hb, hr, hml, hown, hts, hlocks, hin⟩ := hC
  have hown : s.vm.findClass RX3 = some m.cls := hown
  have hl : lv_has ls 2 [(0, .ref (a 2)), (1, .ref (adK i0))] := hl
  refine lv_aload_n hx hb dX3_isOneOf_0 rfl (lv_at hl 0 rfl) ?_
  refine va_get (D := D) (ci := 3) (v := .int fa) (C := RX3) (T := TX3) (N := 7) hx hb hts inT_X3 hown hK.1 hP 0 rfl rfl 6 (by decide) (hts _ k_171) (fun _ h9 => h9) rfl dX3_isOneOf_1 ?_
  refine lv_if_ne (tgt := 30) hx hb dX3_isOneOf_4 (by decide) (fun c_1 => ?_) (fun c_1 => ?_)
  · refine lv_iconst (v := 0) hx hb dX3_isOneOf_30 (by decide) ?_
    exact W.zret (v := 0) hx hb hr (by decide) (fun tt9 ht hW => ⟨⟨(0 : Int32), (), rfl, (lf_X3_isOneOf_4_2 a t en pa sg fa i0 hi0 hsg c_1), trivial⟩, hS.F ht⟩) hS.2.2 dX3_isOneOf_31 hlocks
  · refine lv_aload_n hx hb dX3_isOneOf_7 rfl (lv_at hl 0 rfl) ?_
    refine va_get (D := D) (ci := 3) (v := .int sg) (C := RX3) (T := TX3) (N := 7) hx hb hts inT_X3 hown hK.1 hP 0 rfl rfl 4 (by decide) (hts _ k_169) (fun _ h9 => h9) rfl dX3_isOneOf_8 ?_
    refine lv_if_lt (tgt := 30) hx hb dX3_isOneOf_11 (by decide) (fun c_3 => ?_) (fun c_3 => ?_)
    · refine lv_iconst (v := 0) hx hb dX3_isOneOf_30 (by decide) ?_
      exact W.zret (v := 0) hx hb hr (by decide) (fun tt9 ht hW => ⟨⟨(0 : Int32), (), rfl, (lf_X3_isOneOf_4_4 a t en pa sg fa i0 hi0 hsg c_1 c_3), trivial⟩, hS.F ht⟩) hS.2.2 dX3_isOneOf_31 hlocks
    · obtain ⟨kq, hkq, ekq, lkq⟩ := sg_of hsg c_3
      subst ekq
      refine lv_aload_n hx hb dX3_isOneOf_14 rfl (lv_at hl 1 rfl) ?_
      refine lv_aload_n hx hb dX3_isOneOf_15 rfl (lv_at hl 0 rfl) ?_
      refine va_get (D := D) (ci := 3) (v := .int (nI kq)) (C := RX3) (T := TX3) (N := 7) hx hb hts inT_X3 hown hK.1 hP 0 rfl rfl 4 (by decide) (hts _ k_169) (fun _ h9 => h9) rfl dX3_isOneOf_16 ?_
      refine lv_i2c hx hb dX3_isOneOf_19 (i2c_nI (lf_X3_isOneOf_4_5 a t en pa (nI kq) fa i0 hi0 hsg c_1 c_3 kq hkq rfl lkq)) ?_
      refine eRi (va_runV (As := [.int (nI kq)]) (rest := []) ⟨hx, hb, hml, hown, hts⟩ (c_J0_indexOf1 l D cI cB cZ cJ tx adK adV i0 kq (lf_X3_isOneOf_4_6 a t en pa (nI kq) fa i0 hi0 hsg c_1 c_3 kq hkq rfl lkq) (lf_X3_isOneOf_4_7 a t en pa (nI kq) fa i0 hi0 hsg c_1 c_3 kq hkq rfl lkq) H.size) (zV hts k_576 v_J0_indexOf_0f7a4 ⟨Nat.le_of_ble_eq_true rfl, Nat.le_of_ble_eq_true rfl⟩) (pVS (pz (px0 hK) hZ hS (aR hS hA)) hZ (lf_X3_isOneOf_4_8 a t en pa (nI kq) fa i0 hi0 hsg c_1 c_3 kq hkq rfl lkq) hS) rfl rfl hl.1 rfl (lv_room (Nat.le_of_ble_eq_true rfl)) dX3_isOneOf_20 ⟨Nat.le_of_ble_eq_true rfl, Nat.le_of_ble_eq_true rfl⟩) hP hS hA (fun r_9 H locs wr_9 hP hS => ?_)
      refine lv_if_lt (tgt := 30) hx hb dX3_isOneOf_23 (by decide) (fun c_10 => ?_) (fun c_10 => ?_)
      · refine lv_iconst (v := 0) hx hb dX3_isOneOf_30 (by decide) ?_
        exact W.zret (v := 0) hx hb hr (by decide) (fun tt9 ht hW => ⟨⟨(0 : Int32), (), rfl, (lf_X3_isOneOf_4_11 a t en pa (nI kq) fa i0 hi0 hsg c_1 c_3 kq hkq rfl lkq r_9 wr_9 c_10), trivial⟩, hS.F ht⟩) hS.2.2 dX3_isOneOf_31 hlocks
      · refine lv_iconst (v := 1) hx hb dX3_isOneOf_26 (by decide) ?_
        refine lv_goto (tgt := 31) hx hb dX3_isOneOf_27 (by decide) ?_
        exact W.zret (v := 1) hx hb hr (by decide) (fun tt9 ht hW => ⟨⟨(1 : Int32), (), rfl, (lf_X3_isOneOf_4_12 a t en pa (nI kq) fa i0 hi0 hsg c_1 c_3 kq hkq rfl lkq r_9 wr_9 c_10), trivial⟩, hS.F ht⟩) hS.2.2 dX3_isOneOf_31 hlocks

theorem lf_X3_take_4_1 (a : Nat → Nat) (t : Nat → Nat) (en : Nat) (pa : Nat) (sg : Int32) (fa : Int32) (tu : Nat) (tb : Nat → Int32) (i0 : Nat) (hi0 : i0 < 16) (htu : tu ≤ 220) (hen : en ≤ 200) (hpa : pa ≤ en) (hsg : SG sg pa en) : i0 < 16 := by
  first | assumption | omega | decide | exact sg_nI (by assumption) (by assumption)
theorem lf_X3_take_4_2 (a : Nat → Nat) (t : Nat → Nat) (en : Nat) (pa : Nat) (sg : Int32) (fa : Int32) (tu : Nat) (tb : Nat → Int32) (i0 : Nat) (hi0 : i0 < 16) (htu : tu ≤ 220) (hen : en ≤ 200) (hpa : pa ≤ en) (hsg : SG sg pa en) : SG sg pa en := by
  first | assumption | omega | decide | exact sg_nI (by assumption) (by assumption)
theorem lf_X3_take_4_6 (a : Nat → Nat) (t : Nat → Nat) (en : Nat) (pa : Nat) (sg : Int32) (fa : Int32) (tu : Nat) (tb : Nat → Int32) (i0 : Nat) (hi0 : i0 < 16) (htu : tu ≤ 220) (hen : en ≤ 200) (hpa : pa ≤ en) (hsg : SG sg pa en) (fa_5 : Int32) : (pa ≤ (pa : Nat)) ∧ ((pa : Nat) ≤ en) ∧ (SG (sg : Int32) (pa : Nat) en) := by
  first | (refine ⟨?_, ?_, ?_⟩ <;> first | omega | assumption) | (refine ⟨?_, ?_, ?_, ?_⟩ <;> first | omega | assumption)
theorem lf_X3_take_4_7 (a : Nat → Nat) (t : Nat → Nat) (en : Nat) (pa : Nat) (sg : Int32) (fa : Int32) (tu : Nat) (tb : Nat → Int32) (i0 : Nat) (hi0 : i0 < 16) (htu : tu ≤ 220) (hen : en ≤ 200) (hpa : pa ≤ en) (hsg : SG sg pa en) (kk3 : Nat) (hkk3 : kk3 < 256) (lkk3 : pa < en) (skk3 : sHas i0 kk3 = true) : tu ≤ 220 := by
  first | assumption | omega | decide | exact sg_nI (by assumption) (by assumption)
theorem lf_X3_take_4_8 (a : Nat → Nat) (t : Nat → Nat) (en : Nat) (pa : Nat) (sg : Int32) (fa : Int32) (tu : Nat) (tb : Nat → Int32) (i0 : Nat) (hi0 : i0 < 16) (htu : tu ≤ 220) (hen : en ≤ 200) (hpa : pa ≤ en) (hsg : SG sg pa en) (kk3 : Nat) (hkk3 : kk3 < 256) (lkk3 : pa < en) (skk3 : sHas i0 kk3 = true) : en ≤ 200 := by
  first | assumption | omega | decide | exact sg_nI (by assumption) (by assumption)
theorem lf_X3_take_4_9 (a : Nat → Nat) (t : Nat → Nat) (en : Nat) (pa : Nat) (sg : Int32) (fa : Int32) (tu : Nat) (tb : Nat → Int32) (i0 : Nat) (hi0 : i0 < 16) (htu : tu ≤ 220) (hen : en ≤ 200) (hpa : pa ≤ en) (hsg : SG sg pa en) (kk3 : Nat) (hkk3 : kk3 < 256) (lkk3 : pa < en) (skk3 : sHas i0 kk3 = true) : pa ≤ en := by
  first | assumption | omega | decide | exact sg_nI (by assumption) (by assumption)
theorem lf_X3_take_4_10 (a : Nat → Nat) (t : Nat → Nat) (en : Nat) (pa : Nat) (sg : Int32) (fa : Int32) (tu : Nat) (tb : Nat → Int32) (i0 : Nat) (hi0 : i0 < 16) (htu : tu ≤ 220) (hen : en ≤ 200) (hpa : pa ≤ en) (hsg : SG sg pa en) (kk3 : Nat) (hkk3 : kk3 < 256) (lkk3 : pa < en) (skk3 : sHas i0 kk3 = true) : pa < en := by
  first | assumption | omega | decide | exact sg_nI (by assumption) (by assumption)
theorem lf_X3_take_4_13 (a : Nat → Nat) (t : Nat → Nat) (en : Nat) (pa : Nat) (sg : Int32) (fa : Int32) (tu : Nat) (tb : Nat → Int32) (i0 : Nat) (hi0 : i0 < 16) (htu : tu ≤ 220) (hen : en ≤ 200) (hpa : pa ≤ en) (hsg : SG sg pa en) (kk3 : Nat) (hkk3 : kk3 < 256) (lkk3 : pa < en) (skk3 : sHas i0 kk3 = true) (pa_12 : Nat) (sg_12 : Int32) (hz_12_0 : pa_12 = pa + 1) (hz_12_1 : pa_12 ≤ en) (hz_12_2 : SG sg_12 pa_12 en) : (pa ≤ (pa_12 : Nat)) ∧ ((pa_12 : Nat) ≤ en) ∧ (SG (sg_12 : Int32) (pa_12 : Nat) en) := by
  first | (refine ⟨?_, ?_, ?_⟩ <;> first | omega | assumption) | (refine ⟨?_, ?_, ?_, ?_⟩ <;> first | omega | assumption)
set_option maxHeartbeats 4000000 in
set_option maxRecDepth 100000 in
theorem c_X3_take_4 (l : Launch) (D : va_G) (cI cB cZ cJ : ClassId) (tx : List (ClassId × FieldType)) (adK adV : Nat → Nat) (a : Nat → Nat) (t : Nat → Nat) (en : Nat) (pa : Nat) (sg : Int32) (fa : Int32) (tu : Nat) (tb : Nat → Int32) (i0 : Nat) (hi0 : i0 < 16) (htu : tu ≤ 220) (hen : en ≤ 200) (hpa : pa ≤ en) (hsg : SG sg pa en) : WzV l D cI cB cZ cJ tx adK adV yX3_take cX3_take 2 none 5 0 0 [.ref (a 2), .ref (adK i0)] [(a 2, .inr (3, [.ref (a 1), .ref (t 0), .int (nI en), .int (nI pa), .int sg, .int 4, .int fa])), (a 1, .inr (8, [.ref (a 17), .int (nI tu)])), (a 17, .inl (cB, 220, .inl tb))] (fun (v : (Nat) × (Int32) × (Int32)) => (pa ≤ v.1) ∧ (v.1 ≤ en) ∧ (SG v.2.1 v.1 en)) (fun v => [(a 2, .inr (3, [.ref (a 1), .ref (t 0), .int (nI en), .int (nI (v.1)), .int v.2.1, .int 4, .int v.2.2])), (a 1, .inr (8, [.ref (a 17), .int (nI tu)])), (a 17, .inl (cB, 220, .inl tb))]) := by
  refine wzv_of2 (by decide +kernel) (Nat.le_of_ble_eq_true rfl) ?_
  intro p e s m below meth c A ls H locs hC hK hZ hP hD hA hS hl
  obtain ⟨hx, hb, hr, hml, hown, hts, hlocks, hin⟩ := hC
  have hown : s.vm.findClass RX3 = some m.cls := hown
  have hl : lv_has ls 2 [(0, .ref (a 2)), (1, .ref (adK i0))] := hl
  refine lv_aload_n hx hb dX3_take_0 rfl (lv_at hl 0 rfl) ?_
  refine lv_aload_n hx hb dX3_take_1 rfl (lv_at hl 1 rfl) ?_
  refine eRi (va_runV (As := [.ref (adK i0)]) (rest := []) ⟨hx, hb, hml, hown, hts⟩ (c_X3_isOneOf_4 l D cI cB cZ cJ tx adK adV a t en pa sg fa i0 (lf_X3_take_4_1 a t en pa sg fa tu tb i0 hi0 htu hen hpa hsg) (lf_X3_take_4_2 a t en pa sg fa tu tb i0 hi0 htu hen hpa hsg) H.size) (zV hts k_572 v_X3_isOneOf ⟨Nat.le_of_ble_eq_true rfl, Nat.le_of_ble_eq_true rfl⟩) (pV (pz (px1 hK hP 0 rfl) hZ hS (aR hS hA)) hK hP 0 rfl rfl) rfl rfl hl.1 rfl (lv_room (Nat.le_of_ble_eq_true rfl)) dX3_take_2 ⟨Nat.le_of_ble_eq_true rfl, Nat.le_of_ble_eq_true rfl⟩) hP hS hA (fun r_3 H locs wr_3 hP hS => ?_)
  rcases wr_3 with rfl | ⟨rfl, kk3, hkk3, rfl, lkk3, skk3⟩
  · refine lv_if_eq (tgt := 15) hx hb dX3_take_5 (by decide) (fun _ => ?_) (fun c => absurd c (by decide))
    refine lv_aload_n hx hb dX3_take_15 rfl (lv_at hl 0 rfl) ?_
    refine lv_iconst (v := 1) hx hb dX3_take_16 (by decide) ?_
    refine eWv (wr := [(a 1, .inr (8, [.ref (a 17), .int (nI tu)])), (a 17, .inl (cB, 220, .inl tb))]) (va_runV (As := [.int 1]) (rest := []) ⟨hx, hb, hml, hown, hts⟩ (c_X3_refuse_4 l D cI cB cZ cJ tx a t en pa sg fa 1 H.size) (zV hts k_662 v_X3_refuse ⟨Nat.le_of_ble_eq_true rfl, Nat.le_of_ble_eq_true rfl⟩) (pV (pxS hK hP hD [0] (by decide) rfl) hK hP 0 rfl rfl) rfl rfl hl.1 rfl (lv_room (Nat.le_of_ble_eq_true rfl)) dX3_take_17 ⟨Nat.le_of_ble_eq_true rfl, Nat.le_of_ble_eq_true rfl⟩) hP hD hS hA [0] [1, 2] rfl rfl (by decide) (by decide) (fun u_5 H locs wr_4 hP hD hS => ?_)
    obtain ⟨fa_5, rfl⟩ : ∃ z, z = u_5 := ⟨_, rfl⟩
    have hP : va_P D vwCl [(a 1, .inr (8, [.ref (a 17), .int (nI tu)])), (a 17, .inl (cB, 220, .inl tb)), (a 2, .inr (3, [.ref (a 1), .ref (t 0), .int (nI en), .int (nI pa), .int sg, .int 4, .int fa_5]))] H := hP
    have hD : va_D A [(a 1, .inr (8, [.ref (a 17), .int (nI tu)])), (a 17, .inl (cB, 220, .inl tb)), (a 2, .inr (3, [.ref (a 1), .ref (t 0), .int (nI en), .int (nI pa), .int sg, .int 4, .int fa_5]))] := hD
    have hP := hP.sub (ws' := [(a 2, .inr (3, [.ref (a 1), .ref (t 0), .int (nI en), .int (nI pa), .int sg, .int 4, .int fa_5])), (a 1, .inr (8, [.ref (a 17), .int (nI tu)])), (a 17, .inl (cB, 220, .inl tb))]) [2, 0, 1] rfl
    have hD := hD.sub (ws' := [(a 2, .inr (3, [.ref (a 1), .ref (t 0), .int (nI en), .int (nI pa), .int sg, .int 4, .int fa_5])), (a 1, .inr (8, [.ref (a 17), .int (nI tu)])), (a 17, .inl (cB, 220, .inl tb))]) [2, 0, 1] (by decide) rfl
    exact W.vret hx hb hr (fun tt9 ht hW => ⟨⟨((pa : Nat), (sg : Int32), (fa_5 : Int32)), rfl, (lf_X3_take_4_6 a t en pa sg fa tu tb i0 hi0 htu hen hpa hsg fa_5), ⟨by rw [ht]; exact hP, hD⟩⟩, hS.F ht⟩) hS.2.2 dX3_take_20 hlocks
  · refine lv_if_eq (tgt := 15) hx hb dX3_take_5 (by decide) (fun c => absurd c (by decide)) (fun _ => ?_)
    refine lv_aload_n hx hb dX3_take_8 rfl (lv_at hl 0 rfl) ?_
    refine eWv (wr := []) (va_runV (As := []) (rest := []) ⟨hx, hb, hml, hown, hts⟩ (c_X3_advance_4 l D cI cB cZ cJ tx a t en pa (nI kk3) fa tu tb (lf_X3_take_4_7 a t en pa (nI kk3) fa tu tb i0 hi0 htu hen hpa hsg kk3 hkk3 lkk3 skk3) (lf_X3_take_4_8 a t en pa (nI kk3) fa tu tb i0 hi0 htu hen hpa hsg kk3 hkk3 lkk3 skk3) (lf_X3_take_4_9 a t en pa (nI kk3) fa tu tb i0 hi0 htu hen hpa hsg kk3 hkk3 lkk3 skk3) (lf_X3_take_4_10 a t en pa (nI kk3) fa tu tb i0 hi0 htu hen hpa hsg kk3 hkk3 lkk3 skk3) H.size) (zV hts k_670 v_X3_advance ⟨Nat.le_of_ble_eq_true rfl, Nat.le_of_ble_eq_true rfl⟩) (pV (pxS hK hP hD [0, 1, 2] (by decide) rfl) hK hP 0 rfl rfl) rfl rfl hl.1 rfl (lv_room (Nat.le_of_ble_eq_true rfl)) dX3_take_9 ⟨Nat.le_of_ble_eq_true rfl, Nat.le_of_ble_eq_true rfl⟩) hP hD hS hA [0, 1, 2] [] rfl rfl (by decide) (by decide) (fun u_12 H locs wr_11 hP hD hS => ?_)
    obtain ⟨pa_12, sg_12⟩ := u_12
    have hz_12_0 : pa_12 = pa + 1 := wr_11.1
    have hz_12_1 : pa_12 ≤ en := wr_11.2.1
    have hz_12_2 : SG sg_12 pa_12 en := wr_11.2.2
    have hP : va_P D vwCl [(a 2, .inr (3, [.ref (a 1), .ref (t 0), .int (nI en), .int (nI pa_12), .int sg_12, .int 4, .int fa])), (a 1, .inr (8, [.ref (a 17), .int (nI tu)])), (a 17, .inl (cB, 220, .inl tb))] H := hP
    have hD : va_D A [(a 2, .inr (3, [.ref (a 1), .ref (t 0), .int (nI en), .int (nI pa_12), .int sg_12, .int 4, .int fa])), (a 1, .inr (8, [.ref (a 17), .int (nI tu)])), (a 17, .inl (cB, 220, .inl tb))] := hD
    refine lv_goto (tgt := 20) hx hb dX3_take_12 (by decide) ?_
    exact W.vret hx hb hr (fun tt9 ht hW => ⟨⟨((pa_12 : Nat), (sg_12 : Int32), (fa : Int32)), rfl, (lf_X3_take_4_13 a t en pa (nI kk3) fa tu tb i0 hi0 htu hen hpa hsg kk3 hkk3 lkk3 skk3 pa_12 sg_12 hz_12_0 hz_12_1 hz_12_2), ⟨by rw [ht]; exact hP, hD⟩⟩, hS.F ht⟩) hS.2.2 dX3_take_20 hlocks

theorem lf_X3_advance_5_3 (a : Nat → Nat) (t : Nat → Nat) (en : Nat) (pa : Nat) (sg : Int32) (fa : Int32) (tu : Nat) (tb : Nat → Int32) (htu : tu ≤ 220) (hen : en ≤ 200) (hpa : pa ≤ en) (hlt : pa < en) (c_1 : nI en ≤ nI (pa + 1)) : en ≤ (pa + 1) := by
  exact (nI_leI (a := en) (b := (pa + 1)) (by omega) (by omega)).mp c_1
theorem lf_X3_advance_5_4 (a : Nat → Nat) (t : Nat → Nat) (en : Nat) (pa : Nat) (sg : Int32) (fa : Int32) (tu : Nat) (tb : Nat → Int32) (htu : tu ≤ 220) (hen : en ≤ 200) (hpa : pa ≤ en) (hlt : pa < en) (c_1 : nI en ≤ nI (pa + 1)) (n_2 : en ≤ (pa + 1)) : (((pa + 1) : Nat) = pa + 1) ∧ (((pa + 1) : Nat) ≤ en) ∧ (SG ((-1) : Int32) ((pa + 1) : Nat) en) := by
  first
    | exact ⟨rfl, by omega, Or.inl rfl⟩
    | exact ⟨rfl, by omega, sg_mk (by assumption) (by omega)⟩
theorem lf_X3_advance_5_6 (a : Nat → Nat) (t : Nat → Nat) (en : Nat) (pa : Nat) (sg : Int32) (fa : Int32) (tu : Nat) (tb : Nat → Int32) (htu : tu ≤ 220) (hen : en ≤ 200) (hpa : pa ≤ en) (hlt : pa < en) (c_1 : ¬ nI en ≤ nI (pa + 1)) : (pa + 1) < en := by
  exact Nat.lt_of_not_le (fun q => c_1 ((nI_leI (a := en) (b := (pa + 1)) (by omega) (by omega)).mpr q))
theorem lf_X3_advance_5_7 (a : Nat → Nat) (t : Nat → Nat) (en : Nat) (pa : Nat) (sg : Int32) (fa : Int32) (tu : Nat) (tb : Nat → Int32) (htu : tu ≤ 220) (hen : en ≤ 200) (hpa : pa ≤ en) (hlt : pa < en) (c_1 : ¬ nI en ≤ nI (pa + 1)) (n_5 : (pa + 1) < en) : tu ≤ 220 := by
  first | assumption | omega | decide
theorem lf_X3_advance_5_9 (a : Nat → Nat) (t : Nat → Nat) (en : Nat) (pa : Nat) (sg : Int32) (fa : Int32) (tu : Nat) (tb : Nat → Int32) (htu : tu ≤ 220) (hen : en ≤ 200) (hpa : pa ≤ en) (hlt : pa < en) (c_1 : ¬ nI en ≤ nI (pa + 1)) (n_5 : (pa + 1) < en) (r_8 : Int32) (wr_8 : (r_8 = -1 ∨ ∃ k : Nat, k < 256 ∧ r_8 = nI k)) : (((pa + 1) : Nat) = pa + 1) ∧ (((pa + 1) : Nat) ≤ en) ∧ (SG (r_8 : Int32) ((pa + 1) : Nat) en) := by
  first
    | exact ⟨rfl, by omega, Or.inl rfl⟩
    | exact ⟨rfl, by omega, sg_mk (by assumption) (by omega)⟩
set_option maxHeartbeats 4000000 in
set_option maxRecDepth 100000 in
theorem c_X3_advance_5 (l : Launch) (D : va_G) (cI cB cZ cJ : ClassId) (tx : List (ClassId × FieldType)) (a : Nat → Nat) (t : Nat → Nat) (en : Nat) (pa : Nat) (sg : Int32) (fa : Int32) (tu : Nat) (tb : Nat → Int32) (htu : tu ≤ 220) (hen : en ≤ 200) (hpa : pa ≤ en) (hlt : pa < en) : WrV l D cI cB cZ cJ tx yX3_advance cX3_advance 1 none 1 0 0 [.ref (a 2)] [(a 2, .inr (3, [.ref (a 1), .ref (t 0), .int (nI en), .int (nI pa), .int sg, .int 5, .int fa])), (a 1, .inr (8, [.ref (a 17), .int (nI tu)])), (a 17, .inl (cB, 220, .inl tb))] (fun (v : (Nat) × (Int32)) => (v.1 = pa + 1) ∧ (v.1 ≤ en) ∧ (SG v.2 v.1 en)) (fun v => [(a 2, .inr (3, [.ref (a 1), .ref (t 0), .int (nI en), .int (nI (v.1)), .int v.2, .int 5, .int fa])), (a 1, .inr (8, [.ref (a 17), .int (nI tu)])), (a 17, .inl (cB, 220, .inl tb))]) := by
  refine wrv_of2 (by decide) (Nat.le_of_ble_eq_true rfl) ?_
  intro p e s m below meth c A ls H locs hC hK hP hD hA hS hl
  obtain ⟨hx, hb, hr, hml, hown, hts, hlocks, hin⟩ := hC
  have hown : s.vm.findClass RX3 = some m.cls := hown
  have hl : lv_has ls 1 [(0, .ref (a 2))] := hl
  refine lv_aload_n hx hb dX3_advance_0 rfl (lv_at hl 0 rfl) ?_
  refine lv_dup hx hb dX3_advance_1 rfl ?_
  refine va_get (D := D) (ci := 3) (v := .int (nI pa)) (C := RX3) (T := TX3) (N := 7) hx hb hts inT_X3 hown hK.1 hP 0 rfl rfl 3 (by decide) (hts _ k_168) (fun _ h9 => h9) rfl dX3_advance_2 ?_
  refine lv_iconst (v := 1) hx hb dX3_advance_5 (by decide) ?_
  refine lv_iadd hx hb dX3_advance_6 ?_
  refine lv_topv (y := nI (pa + 1)) (nI_add pa 1) ?_
  refine va_put (D := D) (ci := 3) (v := .int (nI (pa + 1))) (ty := .int) (C := RX3) (T := TX3) (N := 7) hx hb hts inT_X3 tyX3 tyX3_ok nmX3 hown hK.1 hP hD hS 0 rfl rfl 3 (by decide) (hts _ k_168) (fun _ h9 => h9) rfl (by decide +kernel) rfl rfl (Nat.le_of_ble_eq_true rfl) dX3_advance_7 (fun H locs hP hD hS => ?_)
  have hP : va_P D vwCl [(a 2, .inr (3, [.ref (a 1), .ref (t 0), .int (nI en), .int (nI (pa + 1)), .int sg, .int 5, .int fa])), (a 1, .inr (8, [.ref (a 17), .int (nI tu)])), (a 17, .inl (cB, 220, .inl tb))] H := hP
  have hD : va_D A [(a 2, .inr (3, [.ref (a 1), .ref (t 0), .int (nI en), .int (nI (pa + 1)), .int sg, .int 5, .int fa])), (a 1, .inr (8, [.ref (a 17), .int (nI tu)])), (a 17, .inl (cB, 220, .inl tb))] := hD
  refine lv_aload_n hx hb dX3_advance_10 rfl (lv_at hl 0 rfl) ?_
  refine lv_aload_n hx hb dX3_advance_11 rfl (lv_at hl 0 rfl) ?_
  refine va_get (D := D) (ci := 3) (v := .int (nI (pa + 1))) (C := RX3) (T := TX3) (N := 7) hx hb hts inT_X3 hown hK.1 hP 0 rfl rfl 3 (by decide) (hts _ k_168) (fun _ h9 => h9) rfl dX3_advance_12 ?_
  refine lv_aload_n hx hb dX3_advance_15 rfl (lv_at hl 0 rfl) ?_
  refine va_get (D := D) (ci := 3) (v := .int (nI en)) (C := RX3) (T := TX3) (N := 7) hx hb hts inT_X3 hown hK.1 hP 0 rfl rfl 2 (by decide) (hts _ k_167) (fun _ h9 => h9) rfl dX3_advance_16 ?_
  refine lv_icmp_ge (tgt := 36) hx hb dX3_advance_19 (by decide) (fun c_1 => ?_) (fun c_1 => ?_)
  · have n_2 : en ≤ (pa + 1) := (lf_X3_advance_5_3 a t en pa sg fa tu tb htu hen hpa hlt c_1)
    refine lv_iconst (v := (-1)) hx hb dX3_advance_36 (by decide) ?_
    refine va_put (D := D) (ci := 3) (v := .int (-1)) (ty := .int) (C := RX3) (T := TX3) (N := 7) hx hb hts inT_X3 tyX3 tyX3_ok nmX3 hown hK.1 hP hD hS 0 rfl rfl 4 (by decide) (hts _ k_169) (fun _ h9 => h9) rfl (by decide +kernel) rfl rfl (Nat.le_of_ble_eq_true rfl) dX3_advance_37 (fun H locs hP hD hS => ?_)
    have hP : va_P D vwCl [(a 2, .inr (3, [.ref (a 1), .ref (t 0), .int (nI en), .int (nI (pa + 1)), .int (-1), .int 5, .int fa])), (a 1, .inr (8, [.ref (a 17), .int (nI tu)])), (a 17, .inl (cB, 220, .inl tb))] H := hP
    have hD : va_D A [(a 2, .inr (3, [.ref (a 1), .ref (t 0), .int (nI en), .int (nI (pa + 1)), .int (-1), .int 5, .int fa])), (a 1, .inr (8, [.ref (a 17), .int (nI tu)])), (a 17, .inl (cB, 220, .inl tb))] := hD
    exact W.vret hx hb hr (fun tt9 ht hW => ⟨⟨(((pa + 1) : Nat), ((-1) : Int32)), rfl, (lf_X3_advance_5_4 a t en pa sg fa tu tb htu hen hpa hlt c_1 n_2), ⟨by rw [ht]; exact hP, hD⟩⟩, hS.F ht⟩) hS.2.2 dX3_advance_40 hlocks
  · have n_5 : (pa + 1) < en := (lf_X3_advance_5_6 a t en pa sg fa tu tb htu hen hpa hlt c_1)
    refine lv_aload_n hx hb dX3_advance_22 rfl (lv_at hl 0 rfl) ?_
    refine va_get (D := D) (ci := 3) (v := .ref (a 1)) (C := RX3) (T := TX3) (N := 7) hx hb hts inT_X3 hown hK.1 hP 0 rfl rfl 0 (by decide) (hts _ k_165) (fun _ h9 => h9) rfl dX3_advance_23 ?_
    refine lv_aload_n hx hb dX3_advance_26 rfl (lv_at hl 0 rfl) ?_
    refine va_get (D := D) (ci := 3) (v := .int (nI (pa + 1))) (C := RX3) (T := TX3) (N := 7) hx hb hts inT_X3 hown hK.1 hP 0 rfl rfl 3 (by decide) (hts _ k_168) (fun _ h9 => h9) rfl dX3_advance_27 ?_
    refine eRi (va_runV (As := [.int (nI (pa + 1))]) (rest := [.ref (a 2)]) ⟨hx, hb, hml, hown, hts⟩ (c_X8_byteAt_b l D cI cB cZ cJ tx a tu tb (nI (pa + 1)) (lf_X3_advance_5_7 a t en pa sg fa tu tb htu hen hpa hlt c_1 n_5) H.size) (zV hts k_564 v_X8_byteAt ⟨Nat.le_of_ble_eq_true rfl, Nat.le_of_ble_eq_true rfl⟩) (pV (pxS hK hP hD [1, 2] (by decide) rfl) hK hP 1 rfl rfl) rfl rfl hl.1 rfl (lv_room (Nat.le_of_ble_eq_true rfl)) dX3_advance_30 ⟨Nat.le_of_ble_eq_true rfl, Nat.le_of_ble_eq_true rfl⟩) hP hS hA (fun r_8 H locs wr_8 hP hS => ?_)
    refine lv_goto (tgt := 37) hx hb dX3_advance_33 (by decide) ?_
    refine va_put (D := D) (ci := 3) (v := .int r_8) (ty := .int) (C := RX3) (T := TX3) (N := 7) hx hb hts inT_X3 tyX3 tyX3_ok nmX3 hown hK.1 hP hD hS 0 rfl rfl 4 (by decide) (hts _ k_169) (fun _ h9 => h9) rfl (by decide +kernel) rfl rfl (Nat.le_of_ble_eq_true rfl) dX3_advance_37 (fun H locs hP hD hS => ?_)
    have hP : va_P D vwCl [(a 2, .inr (3, [.ref (a 1), .ref (t 0), .int (nI en), .int (nI (pa + 1)), .int r_8, .int 5, .int fa])), (a 1, .inr (8, [.ref (a 17), .int (nI tu)])), (a 17, .inl (cB, 220, .inl tb))] H := hP
    have hD : va_D A [(a 2, .inr (3, [.ref (a 1), .ref (t 0), .int (nI en), .int (nI (pa + 1)), .int r_8, .int 5, .int fa])), (a 1, .inr (8, [.ref (a 17), .int (nI tu)])), (a 17, .inl (cB, 220, .inl tb))] := hD
    exact W.vret hx hb hr (fun tt9 ht hW => ⟨⟨(((pa + 1) : Nat), (r_8 : Int32)), rfl, (lf_X3_advance_5_9 a t en pa sg fa tu tb htu hen hpa hlt c_1 n_5 r_8 wr_8), ⟨by rw [ht]; exact hP, hD⟩⟩, hS.F ht⟩) hS.2.2 dX3_advance_40 hlocks

set_option maxHeartbeats 4000000 in
set_option maxRecDepth 100000 in
theorem c_X3_refuse_5 (l : Launch) (D : va_G) (cI cB cZ cJ : ClassId) (tx : List (ClassId × FieldType)) (a : Nat → Nat) (t : Nat → Nat) (en : Nat) (pa : Nat) (sg : Int32) (fa : Int32) (n1 : Int32) : WrV l D cI cB cZ cJ tx yX3_refuse cX3_refuse 2 none 0 0 0 [.ref (a 2), .int n1] [(a 2, .inr (3, [.ref (a 1), .ref (t 0), .int (nI en), .int (nI pa), .int sg, .int 5, .int fa]))] (fun (v : (Int32)) => True) (fun v => [(a 2, .inr (3, [.ref (a 1), .ref (t 0), .int (nI en), .int (nI pa), .int sg, .int 5, .int v]))]) := by
  refine wrv_of2 (by decide) (Nat.le_of_ble_eq_true rfl) ?_
  intro p e s m below meth c A ls H locs hC hK hP hD hA hS hl
  obtain ⟨hx, hb, hr, hml, hown, hts, hlocks, hin⟩ := hC
  have hown : s.vm.findClass RX3 = some m.cls := hown
  have hl : lv_has ls 2 [(0, .ref (a 2)), (1, .int n1)] := hl
  refine lv_aload_n hx hb dX3_refuse_0 rfl (lv_at hl 0 rfl) ?_
  refine va_get (D := D) (ci := 3) (v := .int fa) (C := RX3) (T := TX3) (N := 7) hx hb hts inT_X3 hown hK.1 hP 0 rfl rfl 6 (by decide) (hts _ k_171) (fun _ h9 => h9) rfl dX3_refuse_1 ?_
  refine lv_if_ne (tgt := 12) hx hb dX3_refuse_4 (by decide) (fun c_1 => ?_) (fun c_1 => ?_)
  · exact W.vret hx hb hr (fun tt9 ht hW => ⟨⟨((fa : Int32)), rfl, trivial, ⟨by rw [ht]; exact hP, hD⟩⟩, hS.F ht⟩) hS.2.2 dX3_refuse_12 hlocks
  · refine lv_aload_n hx hb dX3_refuse_7 rfl (lv_at hl 0 rfl) ?_
    refine lv_iload_n hx hb dX3_refuse_8 rfl (lv_at hl 1 rfl) ?_
    refine va_put (D := D) (ci := 3) (v := .int n1) (ty := .int) (C := RX3) (T := TX3) (N := 7) hx hb hts inT_X3 tyX3 tyX3_ok nmX3 hown hK.1 hP hD hS 0 rfl rfl 6 (by decide) (hts _ k_171) (fun _ h9 => h9) rfl (by decide +kernel) rfl rfl (Nat.le_of_ble_eq_true rfl) dX3_refuse_9 (fun H locs hP hD hS => ?_)
    have hP : va_P D vwCl [(a 2, .inr (3, [.ref (a 1), .ref (t 0), .int (nI en), .int (nI pa), .int sg, .int 5, .int n1]))] H := hP
    have hD : va_D A [(a 2, .inr (3, [.ref (a 1), .ref (t 0), .int (nI en), .int (nI pa), .int sg, .int 5, .int n1]))] := hD
    exact W.vret hx hb hr (fun tt9 ht hW => ⟨⟨((n1 : Int32)), rfl, trivial, ⟨by rw [ht]; exact hP, hD⟩⟩, hS.F ht⟩) hS.2.2 dX3_refuse_12 hlocks

theorem lf_X3_isOneOf_5_2 (a : Nat → Nat) (t : Nat → Nat) (en : Nat) (pa : Nat) (sg : Int32) (fa : Int32) (i0 : Nat) (hi0 : i0 < 16) (hsg : SG sg pa en) (c_1 : ¬ fa = 0) : ((0 : Int32) = 0) ∨ ((0 : Int32) = 1 ∧ ∃ k : Nat, k < 256 ∧ sg = nI k ∧ pa < en ∧ sHas i0 k = true) := by
  first
    | exact Or.inl rfl
    | exact Or.inr ⟨rfl, kq, hkq, by assumption, lkq, has_use (by assumption) (by assumption)⟩
theorem lf_X3_isOneOf_5_4 (a : Nat → Nat) (t : Nat → Nat) (en : Nat) (pa : Nat) (sg : Int32) (fa : Int32) (i0 : Nat) (hi0 : i0 < 16) (hsg : SG sg pa en) (c_1 : fa = 0) (c_3 : sg < 0) : ((0 : Int32) = 0) ∨ ((0 : Int32) = 1 ∧ ∃ k : Nat, k < 256 ∧ sg = nI k ∧ pa < en ∧ sHas i0 k = true) := by
  first
    | exact Or.inl rfl
    | exact Or.inr ⟨rfl, kq, hkq, by assumption, lkq, has_use (by assumption) (by assumption)⟩
theorem lf_X3_isOneOf_5_5 (a : Nat → Nat) (t : Nat → Nat) (en : Nat) (pa : Nat) (sg : Int32) (fa : Int32) (i0 : Nat) (hi0 : i0 < 16) (hsg : SG sg pa en) (c_1 : fa = 0) (c_3 : ¬ sg < 0) (kq : Nat) (hkq : kq < 256) (ekq : sg = nI kq) (lkq : pa < en) : kq < 65536 := by
  omega
theorem lf_X3_isOneOf_5_6 (a : Nat → Nat) (t : Nat → Nat) (en : Nat) (pa : Nat) (sg : Int32) (fa : Int32) (i0 : Nat) (hi0 : i0 < 16) (hsg : SG sg pa en) (c_1 : fa = 0) (c_3 : ¬ sg < 0) (kq : Nat) (hkq : kq < 256) (ekq : sg = nI kq) (lkq : pa < en) : i0 < 16 := by
  first | assumption | omega | decide | exact sg_nI (by assumption) (by assumption)
theorem lf_X3_isOneOf_5_7 (a : Nat → Nat) (t : Nat → Nat) (en : Nat) (pa : Nat) (sg : Int32) (fa : Int32) (i0 : Nat) (hi0 : i0 < 16) (hsg : SG sg pa en) (c_1 : fa = 0) (c_3 : ¬ sg < 0) (kq : Nat) (hkq : kq < 256) (ekq : sg = nI kq) (lkq : pa < en) : kq < 256 := by
  first | assumption | omega | decide | exact sg_nI (by assumption) (by assumption)
theorem lf_X3_isOneOf_5_8 (a : Nat → Nat) (t : Nat → Nat) (en : Nat) (pa : Nat) (sg : Int32) (fa : Int32) (i0 : Nat) (hi0 : i0 < 16) (hsg : SG sg pa en) (c_1 : fa = 0) (c_3 : ¬ sg < 0) (kq : Nat) (hkq : kq < 256) (ekq : sg = nI kq) (lkq : pa < en) : i0 < 16 := by
  first | omega | assumption
theorem lf_X3_isOneOf_5_11 (a : Nat → Nat) (t : Nat → Nat) (en : Nat) (pa : Nat) (sg : Int32) (fa : Int32) (i0 : Nat) (hi0 : i0 < 16) (hsg : SG sg pa en) (c_1 : fa = 0) (c_3 : ¬ sg < 0) (kq : Nat) (hkq : kq < 256) (ekq : sg = nI kq) (lkq : pa < en) (r_9 : Int32) (wr_9 : 0 ≤ r_9 → sHas i0 kq = true) (c_10 : r_9 < 0) : ((0 : Int32) = 0) ∨ ((0 : Int32) = 1 ∧ ∃ k : Nat, k < 256 ∧ sg = nI k ∧ pa < en ∧ sHas i0 k = true) := by
  first
    | exact Or.inl rfl
    | exact Or.inr ⟨rfl, kq, hkq, by assumption, lkq, has_use (by assumption) (by assumption)⟩
theorem lf_X3_isOneOf_5_12 (a : Nat → Nat) (t : Nat → Nat) (en : Nat) (pa : Nat) (sg : Int32) (fa : Int32) (i0 : Nat) (hi0 : i0 < 16) (hsg : SG sg pa en) (c_1 : fa = 0) (c_3 : ¬ sg < 0) (kq : Nat) (hkq : kq < 256) (ekq : sg = nI kq) (lkq : pa < en) (r_9 : Int32) (wr_9 : 0 ≤ r_9 → sHas i0 kq = true) (c_10 : ¬ r_9 < 0) : ((1 : Int32) = 0) ∨ ((1 : Int32) = 1 ∧ ∃ k : Nat, k < 256 ∧ sg = nI k ∧ pa < en ∧ sHas i0 k = true) := by
  first
    | exact Or.inl rfl
    | exact Or.inr ⟨rfl, kq, hkq, by assumption, lkq, has_use (by assumption) (by assumption)⟩
set_option maxHeartbeats 4000000 in
set_option maxRecDepth 100000 in
theorem c_X3_isOneOf_5 (l : Launch) (D : va_G) (cI cB cZ cJ : ClassId) (tx : List (ClassId × FieldType)) (adK adV : Nat → Nat) (a : Nat → Nat) (t : Nat → Nat) (en : Nat) (pa : Nat) (sg : Int32) (fa : Int32) (i0 : Nat) (hi0 : i0 < 16) (hsg : SG sg pa en) : RzI l D cI cB cZ cJ tx adK adV yX3_isOneOf cX3_isOneOf 2 (some .boolean) 4 [.ref (a 2), .ref (adK i0)] [(a 2, .inr (3, [.ref (a 1), .ref (t 0), .int (nI en), .int (nI pa), .int sg, .int 5, .int fa]))] (fun r => (r = 0) ∨ (r = 1 ∧ ∃ k : Nat, k < 256 ∧ sg = nI k ∧ pa < en ∧ sHas i0 k = true)) := by
  refine rzi_of2 (by decide +kernel) (Nat.le_of_ble_eq_true rfl) ?_
  intro p e s m below meth c A ls H locs hC hK hZ hP hD hA hS hl
  obtain ⟨hx, hb, hr, hml, hown, hts, hlocks, hin⟩ := hC
  have hown : s.vm.findClass RX3 = some m.cls := hown
  have hl : lv_has ls 2 [(0, .ref (a 2)), (1, .ref (adK i0))] := hl
  refine lv_aload_n hx hb dX3_isOneOf_0 rfl (lv_at hl 0 rfl) ?_
  refine va_get (D := D) (ci := 3) (v := .int fa) (C := RX3) (T := TX3) (N := 7) hx hb hts inT_X3 hown hK.1 hP 0 rfl rfl 6 (by decide) (hts _ k_171) (fun _ h9 => h9) rfl dX3_isOneOf_1 ?_
  refine lv_if_ne (tgt := 30) hx hb dX3_isOneOf_4 (by decide) (fun c_1 => ?_) (fun c_1 => ?_)
  · refine lv_iconst (v := 0) hx hb dX3_isOneOf_30 (by decide) ?_
    exact W.zret (v := 0) hx hb hr (by decide) (fun tt9 ht hW => ⟨⟨(0 : Int32), (), rfl, (lf_X3_isOneOf_5_2 a t en pa sg fa i0 hi0 hsg c_1), trivial⟩, hS.F ht⟩) hS.2.2 dX3_isOneOf_31 hlocks
  · refine lv_aload_n hx hb dX3_isOneOf_7 rfl (lv_at hl 0 rfl) ?_
    refine va_get (D := D) (ci := 3) (v := .int sg) (C := RX3) (T := TX3) (N := 7) hx hb hts inT_X3 hown hK.1 hP 0 rfl rfl 4 (by decide) (hts _ k_169) (fun _ h9 => h9) rfl dX3_isOneOf_8 ?_
    refine lv_if_lt (tgt := 30) hx hb dX3_isOneOf_11 (by decide) (fun c_3 => ?_) (fun c_3 => ?_)
    · refine lv_iconst (v := 0) hx hb dX3_isOneOf_30 (by decide) ?_
      exact W.zret (v := 0) hx hb hr (by decide) (fun tt9 ht hW => ⟨⟨(0 : Int32), (), rfl, (lf_X3_isOneOf_5_4 a t en pa sg fa i0 hi0 hsg c_1 c_3), trivial⟩, hS.F ht⟩) hS.2.2 dX3_isOneOf_31 hlocks
    · obtain ⟨kq, hkq, ekq, lkq⟩ := sg_of hsg c_3
      subst ekq
      refine lv_aload_n hx hb dX3_isOneOf_14 rfl (lv_at hl 1 rfl) ?_
      refine lv_aload_n hx hb dX3_isOneOf_15 rfl (lv_at hl 0 rfl) ?_
      refine va_get (D := D) (ci := 3) (v := .int (nI kq)) (C := RX3) (T := TX3) (N := 7) hx hb hts inT_X3 hown hK.1 hP 0 rfl rfl 4 (by decide) (hts _ k_169) (fun _ h9 => h9) rfl dX3_isOneOf_16 ?_
      refine lv_i2c hx hb dX3_isOneOf_19 (i2c_nI (lf_X3_isOneOf_5_5 a t en pa (nI kq) fa i0 hi0 hsg c_1 c_3 kq hkq rfl lkq)) ?_
      refine eRi (va_runV (As := [.int (nI kq)]) (rest := []) ⟨hx, hb, hml, hown, hts⟩ (c_J0_indexOf1 l D cI cB cZ cJ tx adK adV i0 kq (lf_X3_isOneOf_5_6 a t en pa (nI kq) fa i0 hi0 hsg c_1 c_3 kq hkq rfl lkq) (lf_X3_isOneOf_5_7 a t en pa (nI kq) fa i0 hi0 hsg c_1 c_3 kq hkq rfl lkq) H.size) (zV hts k_576 v_J0_indexOf_0f7a4 ⟨Nat.le_of_ble_eq_true rfl, Nat.le_of_ble_eq_true rfl⟩) (pVS (pz (px0 hK) hZ hS (aR hS hA)) hZ (lf_X3_isOneOf_5_8 a t en pa (nI kq) fa i0 hi0 hsg c_1 c_3 kq hkq rfl lkq) hS) rfl rfl hl.1 rfl (lv_room (Nat.le_of_ble_eq_true rfl)) dX3_isOneOf_20 ⟨Nat.le_of_ble_eq_true rfl, Nat.le_of_ble_eq_true rfl⟩) hP hS hA (fun r_9 H locs wr_9 hP hS => ?_)
      refine lv_if_lt (tgt := 30) hx hb dX3_isOneOf_23 (by decide) (fun c_10 => ?_) (fun c_10 => ?_)
      · refine lv_iconst (v := 0) hx hb dX3_isOneOf_30 (by decide) ?_
        exact W.zret (v := 0) hx hb hr (by decide) (fun tt9 ht hW => ⟨⟨(0 : Int32), (), rfl, (lf_X3_isOneOf_5_11 a t en pa (nI kq) fa i0 hi0 hsg c_1 c_3 kq hkq rfl lkq r_9 wr_9 c_10), trivial⟩, hS.F ht⟩) hS.2.2 dX3_isOneOf_31 hlocks
      · refine lv_iconst (v := 1) hx hb dX3_isOneOf_26 (by decide) ?_
        refine lv_goto (tgt := 31) hx hb dX3_isOneOf_27 (by decide) ?_
        exact W.zret (v := 1) hx hb hr (by decide) (fun tt9 ht hW => ⟨⟨(1 : Int32), (), rfl, (lf_X3_isOneOf_5_12 a t en pa (nI kq) fa i0 hi0 hsg c_1 c_3 kq hkq rfl lkq r_9 wr_9 c_10), trivial⟩, hS.F ht⟩) hS.2.2 dX3_isOneOf_31 hlocks

theorem lf_X3_take_5_1 (a : Nat → Nat) (t : Nat → Nat) (en : Nat) (pa : Nat) (sg : Int32) (fa : Int32) (tu : Nat) (tb : Nat → Int32) (i0 : Nat) (hi0 : i0 < 16) (htu : tu ≤ 220) (hen : en ≤ 200) (hpa : pa ≤ en) (hsg : SG sg pa en) : i0 < 16 := by
  first | assumption | omega | decide | exact sg_nI (by assumption) (by assumption)
theorem lf_X3_take_5_2 (a : Nat → Nat) (t : Nat → Nat) (en : Nat) (pa : Nat) (sg : Int32) (fa : Int32) (tu : Nat) (tb : Nat → Int32) (i0 : Nat) (hi0 : i0 < 16) (htu : tu ≤ 220) (hen : en ≤ 200) (hpa : pa ≤ en) (hsg : SG sg pa en) : SG sg pa en := by
  first | assumption | omega | decide | exact sg_nI (by assumption) (by assumption)
theorem lf_X3_take_5_6 (a : Nat → Nat) (t : Nat → Nat) (en : Nat) (pa : Nat) (sg : Int32) (fa : Int32) (tu : Nat) (tb : Nat → Int32) (i0 : Nat) (hi0 : i0 < 16) (htu : tu ≤ 220) (hen : en ≤ 200) (hpa : pa ≤ en) (hsg : SG sg pa en) (fa_5 : Int32) : (pa ≤ (pa : Nat)) ∧ ((pa : Nat) ≤ en) ∧ (SG (sg : Int32) (pa : Nat) en) := by
  first | (refine ⟨?_, ?_, ?_⟩ <;> first | omega | assumption) | (refine ⟨?_, ?_, ?_, ?_⟩ <;> first | omega | assumption)
theorem lf_X3_take_5_7 (a : Nat → Nat) (t : Nat → Nat) (en : Nat) (pa : Nat) (sg : Int32) (fa : Int32) (tu : Nat) (tb : Nat → Int32) (i0 : Nat) (hi0 : i0 < 16) (htu : tu ≤ 220) (hen : en ≤ 200) (hpa : pa ≤ en) (hsg : SG sg pa en) (kk3 : Nat) (hkk3 : kk3 < 256) (lkk3 : pa < en) (skk3 : sHas i0 kk3 = true) : tu ≤ 220 := by
  first | assumption | omega | decide | exact sg_nI (by assumption) (by assumption)
theorem lf_X3_take_5_8 (a : Nat → Nat) (t : Nat → Nat) (en : Nat) (pa : Nat) (sg : Int32) (fa : Int32) (tu : Nat) (tb : Nat → Int32) (i0 : Nat) (hi0 : i0 < 16) (htu : tu ≤ 220) (hen : en ≤ 200) (hpa : pa ≤ en) (hsg : SG sg pa en) (kk3 : Nat) (hkk3 : kk3 < 256) (lkk3 : pa < en) (skk3 : sHas i0 kk3 = true) : en ≤ 200 := by
  first | assumption | omega | decide | exact sg_nI (by assumption) (by assumption)
theorem lf_X3_take_5_9 (a : Nat → Nat) (t : Nat → Nat) (en : Nat) (pa : Nat) (sg : Int32) (fa : Int32) (tu : Nat) (tb : Nat → Int32) (i0 : Nat) (hi0 : i0 < 16) (htu : tu ≤ 220) (hen : en ≤ 200) (hpa : pa ≤ en) (hsg : SG sg pa en) (kk3 : Nat) (hkk3 : kk3 < 256) (lkk3 : pa < en) (skk3 : sHas i0 kk3 = true) : pa ≤ en := by
  first | assumption | omega | decide | exact sg_nI (by assumption) (by assumption)
theorem lf_X3_take_5_10 (a : Nat → Nat) (t : Nat → Nat) (en : Nat) (pa : Nat) (sg : Int32) (fa : Int32) (tu : Nat) (tb : Nat → Int32) (i0 : Nat) (hi0 : i0 < 16) (htu : tu ≤ 220) (hen : en ≤ 200) (hpa : pa ≤ en) (hsg : SG sg pa en) (kk3 : Nat) (hkk3 : kk3 < 256) (lkk3 : pa < en) (skk3 : sHas i0 kk3 = true) : pa < en := by
  first | assumption | omega | decide | exact sg_nI (by assumption) (by assumption)
theorem lf_X3_take_5_13 (a : Nat → Nat) (t : Nat → Nat) (en : Nat) (pa : Nat) (sg : Int32) (fa : Int32) (tu : Nat) (tb : Nat → Int32) (i0 : Nat) (hi0 : i0 < 16) (htu : tu ≤ 220) (hen : en ≤ 200) (hpa : pa ≤ en) (hsg : SG sg pa en) (kk3 : Nat) (hkk3 : kk3 < 256) (lkk3 : pa < en) (skk3 : sHas i0 kk3 = true) (pa_12 : Nat) (sg_12 : Int32) (hz_12_0 : pa_12 = pa + 1) (hz_12_1 : pa_12 ≤ en) (hz_12_2 : SG sg_12 pa_12 en) : (pa ≤ (pa_12 : Nat)) ∧ ((pa_12 : Nat) ≤ en) ∧ (SG (sg_12 : Int32) (pa_12 : Nat) en) := by
  first | (refine ⟨?_, ?_, ?_⟩ <;> first | omega | assumption) | (refine ⟨?_, ?_, ?_, ?_⟩ <;> first | omega | assumption)
set_option maxHeartbeats 4000000 in
set_option maxRecDepth 100000 in
theorem c_X3_take_5 (l : Launch) (D : va_G) (cI cB cZ cJ : ClassId) (tx : List (ClassId × FieldType)) (adK adV : Nat → Nat) (a : Nat → Nat) (t : Nat → Nat) (en : Nat) (pa : Nat) (sg : Int32) (fa : Int32) (tu : Nat) (tb : Nat → Int32) (i0 : Nat) (hi0 : i0 < 16) (htu : tu ≤ 220) (hen : en ≤ 200) (hpa : pa ≤ en) (hsg : SG sg pa en) : WzV l D cI cB cZ cJ tx adK adV yX3_take cX3_take 2 none 5 0 0 [.ref (a 2), .ref (adK i0)] [(a 2, .inr (3, [.ref (a 1), .ref (t 0), .int (nI en), .int (nI pa), .int sg, .int 5, .int fa])), (a 1, .inr (8, [.ref (a 17), .int (nI tu)])), (a 17, .inl (cB, 220, .inl tb))] (fun (v : (Nat) × (Int32) × (Int32)) => (pa ≤ v.1) ∧ (v.1 ≤ en) ∧ (SG v.2.1 v.1 en)) (fun v => [(a 2, .inr (3, [.ref (a 1), .ref (t 0), .int (nI en), .int (nI (v.1)), .int v.2.1, .int 5, .int v.2.2])), (a 1, .inr (8, [.ref (a 17), .int (nI tu)])), (a 17, .inl (cB, 220, .inl tb))]) := by
  refine wzv_of2 (by decide +kernel) (Nat.le_of_ble_eq_true rfl) ?_
  intro p e s m below meth c A ls H locs hC hK hZ hP hD hA hS hl
  obtain ⟨hx, hb, hr, hml, hown, hts, hlocks, hin⟩ := hC
  have hown : s.vm.findClass RX3 = some m.cls := hown
  have hl : lv_has ls 2 [(0, .ref (a 2)), (1, .ref (adK i0))] := hl
  refine lv_aload_n hx hb dX3_take_0 rfl (lv_at hl 0 rfl) ?_
  refine lv_aload_n hx hb dX3_take_1 rfl (lv_at hl 1 rfl) ?_
  refine eRi (va_runV (As := [.ref (adK i0)]) (rest := []) ⟨hx, hb, hml, hown, hts⟩ (c_X3_isOneOf_5 l D cI cB cZ cJ tx adK adV a t en pa sg fa i0 (lf_X3_take_5_1 a t en pa sg fa tu tb i0 hi0 htu hen hpa hsg) (lf_X3_take_5_2 a t en pa sg fa tu tb i0 hi0 htu hen hpa hsg) H.size) (zV hts k_572 v_X3_isOneOf ⟨Nat.le_of_ble_eq_true rfl, Nat.le_of_ble_eq_true rfl⟩) (pV (pz (px1 hK hP 0 rfl) hZ hS (aR hS hA)) hK hP 0 rfl rfl) rfl rfl hl.1 rfl (lv_room (Nat.le_of_ble_eq_true rfl)) dX3_take_2 ⟨Nat.le_of_ble_eq_true rfl, Nat.le_of_ble_eq_true rfl⟩) hP hS hA (fun r_3 H locs wr_3 hP hS => ?_)
  rcases wr_3 with rfl | ⟨rfl, kk3, hkk3, rfl, lkk3, skk3⟩
  · refine lv_if_eq (tgt := 15) hx hb dX3_take_5 (by decide) (fun _ => ?_) (fun c => absurd c (by decide))
    refine lv_aload_n hx hb dX3_take_15 rfl (lv_at hl 0 rfl) ?_
    refine lv_iconst (v := 1) hx hb dX3_take_16 (by decide) ?_
    refine eWv (wr := [(a 1, .inr (8, [.ref (a 17), .int (nI tu)])), (a 17, .inl (cB, 220, .inl tb))]) (va_runV (As := [.int 1]) (rest := []) ⟨hx, hb, hml, hown, hts⟩ (c_X3_refuse_5 l D cI cB cZ cJ tx a t en pa sg fa 1 H.size) (zV hts k_662 v_X3_refuse ⟨Nat.le_of_ble_eq_true rfl, Nat.le_of_ble_eq_true rfl⟩) (pV (pxS hK hP hD [0] (by decide) rfl) hK hP 0 rfl rfl) rfl rfl hl.1 rfl (lv_room (Nat.le_of_ble_eq_true rfl)) dX3_take_17 ⟨Nat.le_of_ble_eq_true rfl, Nat.le_of_ble_eq_true rfl⟩) hP hD hS hA [0] [1, 2] rfl rfl (by decide) (by decide) (fun u_5 H locs wr_4 hP hD hS => ?_)
    obtain ⟨fa_5, rfl⟩ : ∃ z, z = u_5 := ⟨_, rfl⟩
    have hP : va_P D vwCl [(a 1, .inr (8, [.ref (a 17), .int (nI tu)])), (a 17, .inl (cB, 220, .inl tb)), (a 2, .inr (3, [.ref (a 1), .ref (t 0), .int (nI en), .int (nI pa), .int sg, .int 5, .int fa_5]))] H := hP
    have hD : va_D A [(a 1, .inr (8, [.ref (a 17), .int (nI tu)])), (a 17, .inl (cB, 220, .inl tb)), (a 2, .inr (3, [.ref (a 1), .ref (t 0), .int (nI en), .int (nI pa), .int sg, .int 5, .int fa_5]))] := hD
    have hP := hP.sub (ws' := [(a 2, .inr (3, [.ref (a 1), .ref (t 0), .int (nI en), .int (nI pa), .int sg, .int 5, .int fa_5])), (a 1, .inr (8, [.ref (a 17), .int (nI tu)])), (a 17, .inl (cB, 220, .inl tb))]) [2, 0, 1] rfl
    have hD := hD.sub (ws' := [(a 2, .inr (3, [.ref (a 1), .ref (t 0), .int (nI en), .int (nI pa), .int sg, .int 5, .int fa_5])), (a 1, .inr (8, [.ref (a 17), .int (nI tu)])), (a 17, .inl (cB, 220, .inl tb))]) [2, 0, 1] (by decide) rfl
    exact W.vret hx hb hr (fun tt9 ht hW => ⟨⟨((pa : Nat), (sg : Int32), (fa_5 : Int32)), rfl, (lf_X3_take_5_6 a t en pa sg fa tu tb i0 hi0 htu hen hpa hsg fa_5), ⟨by rw [ht]; exact hP, hD⟩⟩, hS.F ht⟩) hS.2.2 dX3_take_20 hlocks
  · refine lv_if_eq (tgt := 15) hx hb dX3_take_5 (by decide) (fun c => absurd c (by decide)) (fun _ => ?_)
    refine lv_aload_n hx hb dX3_take_8 rfl (lv_at hl 0 rfl) ?_
    refine eWv (wr := []) (va_runV (As := []) (rest := []) ⟨hx, hb, hml, hown, hts⟩ (c_X3_advance_5 l D cI cB cZ cJ tx a t en pa (nI kk3) fa tu tb (lf_X3_take_5_7 a t en pa (nI kk3) fa tu tb i0 hi0 htu hen hpa hsg kk3 hkk3 lkk3 skk3) (lf_X3_take_5_8 a t en pa (nI kk3) fa tu tb i0 hi0 htu hen hpa hsg kk3 hkk3 lkk3 skk3) (lf_X3_take_5_9 a t en pa (nI kk3) fa tu tb i0 hi0 htu hen hpa hsg kk3 hkk3 lkk3 skk3) (lf_X3_take_5_10 a t en pa (nI kk3) fa tu tb i0 hi0 htu hen hpa hsg kk3 hkk3 lkk3 skk3) H.size) (zV hts k_670 v_X3_advance ⟨Nat.le_of_ble_eq_true rfl, Nat.le_of_ble_eq_true rfl⟩) (pV (pxS hK hP hD [0, 1, 2] (by decide) rfl) hK hP 0 rfl rfl) rfl rfl hl.1 rfl (lv_room (Nat.le_of_ble_eq_true rfl)) dX3_take_9 ⟨Nat.le_of_ble_eq_true rfl, Nat.le_of_ble_eq_true rfl⟩) hP hD hS hA [0, 1, 2] [] rfl rfl (by decide) (by decide) (fun u_12 H locs wr_11 hP hD hS => ?_)
    obtain ⟨pa_12, sg_12⟩ := u_12
    have hz_12_0 : pa_12 = pa + 1 := wr_11.1
    have hz_12_1 : pa_12 ≤ en := wr_11.2.1
    have hz_12_2 : SG sg_12 pa_12 en := wr_11.2.2
    have hP : va_P D vwCl [(a 2, .inr (3, [.ref (a 1), .ref (t 0), .int (nI en), .int (nI pa_12), .int sg_12, .int 5, .int fa])), (a 1, .inr (8, [.ref (a 17), .int (nI tu)])), (a 17, .inl (cB, 220, .inl tb))] H := hP
    have hD : va_D A [(a 2, .inr (3, [.ref (a 1), .ref (t 0), .int (nI en), .int (nI pa_12), .int sg_12, .int 5, .int fa])), (a 1, .inr (8, [.ref (a 17), .int (nI tu)])), (a 17, .inl (cB, 220, .inl tb))] := hD
    refine lv_goto (tgt := 20) hx hb dX3_take_12 (by decide) ?_
    exact W.vret hx hb hr (fun tt9 ht hW => ⟨⟨((pa_12 : Nat), (sg_12 : Int32), (fa : Int32)), rfl, (lf_X3_take_5_13 a t en pa (nI kk3) fa tu tb i0 hi0 htu hen hpa hsg kk3 hkk3 lkk3 skk3 pa_12 sg_12 hz_12_0 hz_12_1 hz_12_2), ⟨by rw [ht]; exact hP, hD⟩⟩, hS.F ht⟩) hS.2.2 dX3_take_20 hlocks

theorem lf_X3_advance_6_3 (a : Nat → Nat) (t : Nat → Nat) (en : Nat) (pa : Nat) (sg : Int32) (fa : Int32) (tu : Nat) (tb : Nat → Int32) (htu : tu ≤ 220) (hen : en ≤ 200) (hpa : pa ≤ en) (hlt : pa < en) (c_1 : nI en ≤ nI (pa + 1)) : en ≤ (pa + 1) := by
  exact (nI_leI (a := en) (b := (pa + 1)) (by omega) (by omega)).mp c_1
theorem lf_X3_advance_6_4 (a : Nat → Nat) (t : Nat → Nat) (en : Nat) (pa : Nat) (sg : Int32) (fa : Int32) (tu : Nat) (tb : Nat → Int32) (htu : tu ≤ 220) (hen : en ≤ 200) (hpa : pa ≤ en) (hlt : pa < en) (c_1 : nI en ≤ nI (pa + 1)) (n_2 : en ≤ (pa + 1)) : (((pa + 1) : Nat) = pa + 1) ∧ (((pa + 1) : Nat) ≤ en) ∧ (SG ((-1) : Int32) ((pa + 1) : Nat) en) := by
  first
    | exact ⟨rfl, by omega, Or.inl rfl⟩
    | exact ⟨rfl, by omega, sg_mk (by assumption) (by omega)⟩
theorem lf_X3_advance_6_6 (a : Nat → Nat) (t : Nat → Nat) (en : Nat) (pa : Nat) (sg : Int32) (fa : Int32) (tu : Nat) (tb : Nat → Int32) (htu : tu ≤ 220) (hen : en ≤ 200) (hpa : pa ≤ en) (hlt : pa < en) (c_1 : ¬ nI en ≤ nI (pa + 1)) : (pa + 1) < en := by
  exact Nat.lt_of_not_le (fun q => c_1 ((nI_leI (a := en) (b := (pa + 1)) (by omega) (by omega)).mpr q))
theorem lf_X3_advance_6_7 (a : Nat → Nat) (t : Nat → Nat) (en : Nat) (pa : Nat) (sg : Int32) (fa : Int32) (tu : Nat) (tb : Nat → Int32) (htu : tu ≤ 220) (hen : en ≤ 200) (hpa : pa ≤ en) (hlt : pa < en) (c_1 : ¬ nI en ≤ nI (pa + 1)) (n_5 : (pa + 1) < en) : tu ≤ 220 := by
  first | assumption | omega | decide
theorem lf_X3_advance_6_9 (a : Nat → Nat) (t : Nat → Nat) (en : Nat) (pa : Nat) (sg : Int32) (fa : Int32) (tu : Nat) (tb : Nat → Int32) (htu : tu ≤ 220) (hen : en ≤ 200) (hpa : pa ≤ en) (hlt : pa < en) (c_1 : ¬ nI en ≤ nI (pa + 1)) (n_5 : (pa + 1) < en) (r_8 : Int32) (wr_8 : (r_8 = -1 ∨ ∃ k : Nat, k < 256 ∧ r_8 = nI k)) : (((pa + 1) : Nat) = pa + 1) ∧ (((pa + 1) : Nat) ≤ en) ∧ (SG (r_8 : Int32) ((pa + 1) : Nat) en) := by
  first
    | exact ⟨rfl, by omega, Or.inl rfl⟩
    | exact ⟨rfl, by omega, sg_mk (by assumption) (by omega)⟩
set_option maxHeartbeats 4000000 in
set_option maxRecDepth 100000 in
theorem c_X3_advance_6 (l : Launch) (D : va_G) (cI cB cZ cJ : ClassId) (tx : List (ClassId × FieldType)) (a : Nat → Nat) (t : Nat → Nat) (en : Nat) (pa : Nat) (sg : Int32) (fa : Int32) (tu : Nat) (tb : Nat → Int32) (htu : tu ≤ 220) (hen : en ≤ 200) (hpa : pa ≤ en) (hlt : pa < en) : WrV l D cI cB cZ cJ tx yX3_advance cX3_advance 1 none 1 0 0 [.ref (a 2)] [(a 2, .inr (3, [.ref (a 1), .ref (t 0), .int (nI en), .int (nI pa), .int sg, .int 6, .int fa])), (a 1, .inr (8, [.ref (a 17), .int (nI tu)])), (a 17, .inl (cB, 220, .inl tb))] (fun (v : (Nat) × (Int32)) => (v.1 = pa + 1) ∧ (v.1 ≤ en) ∧ (SG v.2 v.1 en)) (fun v => [(a 2, .inr (3, [.ref (a 1), .ref (t 0), .int (nI en), .int (nI (v.1)), .int v.2, .int 6, .int fa])), (a 1, .inr (8, [.ref (a 17), .int (nI tu)])), (a 17, .inl (cB, 220, .inl tb))]) := by
  refine wrv_of2 (by decide) (Nat.le_of_ble_eq_true rfl) ?_
  intro p e s m below meth c A ls H locs hC hK hP hD hA hS hl
  obtain ⟨hx, hb, hr, hml, hown, hts, hlocks, hin⟩ := hC
  have hown : s.vm.findClass RX3 = some m.cls := hown
  have hl : lv_has ls 1 [(0, .ref (a 2))] := hl
  refine lv_aload_n hx hb dX3_advance_0 rfl (lv_at hl 0 rfl) ?_
  refine lv_dup hx hb dX3_advance_1 rfl ?_
  refine va_get (D := D) (ci := 3) (v := .int (nI pa)) (C := RX3) (T := TX3) (N := 7) hx hb hts inT_X3 hown hK.1 hP 0 rfl rfl 3 (by decide) (hts _ k_168) (fun _ h9 => h9) rfl dX3_advance_2 ?_
  refine lv_iconst (v := 1) hx hb dX3_advance_5 (by decide) ?_
  refine lv_iadd hx hb dX3_advance_6 ?_
  refine lv_topv (y := nI (pa + 1)) (nI_add pa 1) ?_
  refine va_put (D := D) (ci := 3) (v := .int (nI (pa + 1))) (ty := .int) (C := RX3) (T := TX3) (N := 7) hx hb hts inT_X3 tyX3 tyX3_ok nmX3 hown hK.1 hP hD hS 0 rfl rfl 3 (by decide) (hts _ k_168) (fun _ h9 => h9) rfl (by decide +kernel) rfl rfl (Nat.le_of_ble_eq_true rfl) dX3_advance_7 (fun H locs hP hD hS => ?_)
  have hP : va_P D vwCl [(a 2, .inr (3, [.ref (a 1), .ref (t 0), .int (nI en), .int (nI (pa + 1)), .int sg, .int 6, .int fa])), (a 1, .inr (8, [.ref (a 17), .int (nI tu)])), (a 17, .inl (cB, 220, .inl tb))] H := hP
  have hD : va_D A [(a 2, .inr (3, [.ref (a 1), .ref (t 0), .int (nI en), .int (nI (pa + 1)), .int sg, .int 6, .int fa])), (a 1, .inr (8, [.ref (a 17), .int (nI tu)])), (a 17, .inl (cB, 220, .inl tb))] := hD
  refine lv_aload_n hx hb dX3_advance_10 rfl (lv_at hl 0 rfl) ?_
  refine lv_aload_n hx hb dX3_advance_11 rfl (lv_at hl 0 rfl) ?_
  refine va_get (D := D) (ci := 3) (v := .int (nI (pa + 1))) (C := RX3) (T := TX3) (N := 7) hx hb hts inT_X3 hown hK.1 hP 0 rfl rfl 3 (by decide) (hts _ k_168) (fun _ h9 => h9) rfl dX3_advance_12 ?_
  refine lv_aload_n hx hb dX3_advance_15 rfl (lv_at hl 0 rfl) ?_
  refine va_get (D := D) (ci := 3) (v := .int (nI en)) (C := RX3) (T := TX3) (N := 7) hx hb hts inT_X3 hown hK.1 hP 0 rfl rfl 2 (by decide) (hts _ k_167) (fun _ h9 => h9) rfl dX3_advance_16 ?_
  refine lv_icmp_ge (tgt := 36) hx hb dX3_advance_19 (by decide) (fun c_1 => ?_) (fun c_1 => ?_)
  · have n_2 : en ≤ (pa + 1) := (lf_X3_advance_6_3 a t en pa sg fa tu tb htu hen hpa hlt c_1)
    refine lv_iconst (v := (-1)) hx hb dX3_advance_36 (by decide) ?_
    refine va_put (D := D) (ci := 3) (v := .int (-1)) (ty := .int) (C := RX3) (T := TX3) (N := 7) hx hb hts inT_X3 tyX3 tyX3_ok nmX3 hown hK.1 hP hD hS 0 rfl rfl 4 (by decide) (hts _ k_169) (fun _ h9 => h9) rfl (by decide +kernel) rfl rfl (Nat.le_of_ble_eq_true rfl) dX3_advance_37 (fun H locs hP hD hS => ?_)
    have hP : va_P D vwCl [(a 2, .inr (3, [.ref (a 1), .ref (t 0), .int (nI en), .int (nI (pa + 1)), .int (-1), .int 6, .int fa])), (a 1, .inr (8, [.ref (a 17), .int (nI tu)])), (a 17, .inl (cB, 220, .inl tb))] H := hP
    have hD : va_D A [(a 2, .inr (3, [.ref (a 1), .ref (t 0), .int (nI en), .int (nI (pa + 1)), .int (-1), .int 6, .int fa])), (a 1, .inr (8, [.ref (a 17), .int (nI tu)])), (a 17, .inl (cB, 220, .inl tb))] := hD
    exact W.vret hx hb hr (fun tt9 ht hW => ⟨⟨(((pa + 1) : Nat), ((-1) : Int32)), rfl, (lf_X3_advance_6_4 a t en pa sg fa tu tb htu hen hpa hlt c_1 n_2), ⟨by rw [ht]; exact hP, hD⟩⟩, hS.F ht⟩) hS.2.2 dX3_advance_40 hlocks
  · have n_5 : (pa + 1) < en := (lf_X3_advance_6_6 a t en pa sg fa tu tb htu hen hpa hlt c_1)
    refine lv_aload_n hx hb dX3_advance_22 rfl (lv_at hl 0 rfl) ?_
    refine va_get (D := D) (ci := 3) (v := .ref (a 1)) (C := RX3) (T := TX3) (N := 7) hx hb hts inT_X3 hown hK.1 hP 0 rfl rfl 0 (by decide) (hts _ k_165) (fun _ h9 => h9) rfl dX3_advance_23 ?_
    refine lv_aload_n hx hb dX3_advance_26 rfl (lv_at hl 0 rfl) ?_
    refine va_get (D := D) (ci := 3) (v := .int (nI (pa + 1))) (C := RX3) (T := TX3) (N := 7) hx hb hts inT_X3 hown hK.1 hP 0 rfl rfl 3 (by decide) (hts _ k_168) (fun _ h9 => h9) rfl dX3_advance_27 ?_
    refine eRi (va_runV (As := [.int (nI (pa + 1))]) (rest := [.ref (a 2)]) ⟨hx, hb, hml, hown, hts⟩ (c_X8_byteAt_b l D cI cB cZ cJ tx a tu tb (nI (pa + 1)) (lf_X3_advance_6_7 a t en pa sg fa tu tb htu hen hpa hlt c_1 n_5) H.size) (zV hts k_564 v_X8_byteAt ⟨Nat.le_of_ble_eq_true rfl, Nat.le_of_ble_eq_true rfl⟩) (pV (pxS hK hP hD [1, 2] (by decide) rfl) hK hP 1 rfl rfl) rfl rfl hl.1 rfl (lv_room (Nat.le_of_ble_eq_true rfl)) dX3_advance_30 ⟨Nat.le_of_ble_eq_true rfl, Nat.le_of_ble_eq_true rfl⟩) hP hS hA (fun r_8 H locs wr_8 hP hS => ?_)
    refine lv_goto (tgt := 37) hx hb dX3_advance_33 (by decide) ?_
    refine va_put (D := D) (ci := 3) (v := .int r_8) (ty := .int) (C := RX3) (T := TX3) (N := 7) hx hb hts inT_X3 tyX3 tyX3_ok nmX3 hown hK.1 hP hD hS 0 rfl rfl 4 (by decide) (hts _ k_169) (fun _ h9 => h9) rfl (by decide +kernel) rfl rfl (Nat.le_of_ble_eq_true rfl) dX3_advance_37 (fun H locs hP hD hS => ?_)
    have hP : va_P D vwCl [(a 2, .inr (3, [.ref (a 1), .ref (t 0), .int (nI en), .int (nI (pa + 1)), .int r_8, .int 6, .int fa])), (a 1, .inr (8, [.ref (a 17), .int (nI tu)])), (a 17, .inl (cB, 220, .inl tb))] H := hP
    have hD : va_D A [(a 2, .inr (3, [.ref (a 1), .ref (t 0), .int (nI en), .int (nI (pa + 1)), .int r_8, .int 6, .int fa])), (a 1, .inr (8, [.ref (a 17), .int (nI tu)])), (a 17, .inl (cB, 220, .inl tb))] := hD
    exact W.vret hx hb hr (fun tt9 ht hW => ⟨⟨(((pa + 1) : Nat), (r_8 : Int32)), rfl, (lf_X3_advance_6_9 a t en pa sg fa tu tb htu hen hpa hlt c_1 n_5 r_8 wr_8), ⟨by rw [ht]; exact hP, hD⟩⟩, hS.F ht⟩) hS.2.2 dX3_advance_40 hlocks

set_option maxHeartbeats 4000000 in
set_option maxRecDepth 100000 in
theorem c_X3_refuse_6 (l : Launch) (D : va_G) (cI cB cZ cJ : ClassId) (tx : List (ClassId × FieldType)) (a : Nat → Nat) (t : Nat → Nat) (en : Nat) (pa : Nat) (sg : Int32) (fa : Int32) (n1 : Int32) : WrV l D cI cB cZ cJ tx yX3_refuse cX3_refuse 2 none 0 0 0 [.ref (a 2), .int n1] [(a 2, .inr (3, [.ref (a 1), .ref (t 0), .int (nI en), .int (nI pa), .int sg, .int 6, .int fa]))] (fun (v : (Int32)) => True) (fun v => [(a 2, .inr (3, [.ref (a 1), .ref (t 0), .int (nI en), .int (nI pa), .int sg, .int 6, .int v]))]) := by
  refine wrv_of2 (by decide) (Nat.le_of_ble_eq_true rfl) ?_
  intro p e s m below meth c A ls H locs hC hK hP hD hA hS hl
  obtain ⟨hx, hb, hr, hml, hown, hts, hlocks, hin⟩ := hC
  have hown : s.vm.findClass RX3 = some m.cls := hown
  have hl : lv_has ls 2 [(0, .ref (a 2)), (1, .int n1)] := hl
  refine lv_aload_n hx hb dX3_refuse_0 rfl (lv_at hl 0 rfl) ?_
  refine va_get (D := D) (ci := 3) (v := .int fa) (C := RX3) (T := TX3) (N := 7) hx hb hts inT_X3 hown hK.1 hP 0 rfl rfl 6 (by decide) (hts _ k_171) (fun _ h9 => h9) rfl dX3_refuse_1 ?_
  refine lv_if_ne (tgt := 12) hx hb dX3_refuse_4 (by decide) (fun c_1 => ?_) (fun c_1 => ?_)
  · exact W.vret hx hb hr (fun tt9 ht hW => ⟨⟨((fa : Int32)), rfl, trivial, ⟨by rw [ht]; exact hP, hD⟩⟩, hS.F ht⟩) hS.2.2 dX3_refuse_12 hlocks
  · refine lv_aload_n hx hb dX3_refuse_7 rfl (lv_at hl 0 rfl) ?_
    refine lv_iload_n hx hb dX3_refuse_8 rfl (lv_at hl 1 rfl) ?_
    refine va_put (D := D) (ci := 3) (v := .int n1) (ty := .int) (C := RX3) (T := TX3) (N := 7) hx hb hts inT_X3 tyX3 tyX3_ok nmX3 hown hK.1 hP hD hS 0 rfl rfl 6 (by decide) (hts _ k_171) (fun _ h9 => h9) rfl (by decide +kernel) rfl rfl (Nat.le_of_ble_eq_true rfl) dX3_refuse_9 (fun H locs hP hD hS => ?_)
    have hP : va_P D vwCl [(a 2, .inr (3, [.ref (a 1), .ref (t 0), .int (nI en), .int (nI pa), .int sg, .int 6, .int n1]))] H := hP
    have hD : va_D A [(a 2, .inr (3, [.ref (a 1), .ref (t 0), .int (nI en), .int (nI pa), .int sg, .int 6, .int n1]))] := hD
    exact W.vret hx hb hr (fun tt9 ht hW => ⟨⟨((n1 : Int32)), rfl, trivial, ⟨by rw [ht]; exact hP, hD⟩⟩, hS.F ht⟩) hS.2.2 dX3_refuse_12 hlocks

theorem lf_X3_isOneOf_6_2 (a : Nat → Nat) (t : Nat → Nat) (en : Nat) (pa : Nat) (sg : Int32) (fa : Int32) (i0 : Nat) (hi0 : i0 < 16) (hsg : SG sg pa en) (c_1 : ¬ fa = 0) : ((0 : Int32) = 0) ∨ ((0 : Int32) = 1 ∧ ∃ k : Nat, k < 256 ∧ sg = nI k ∧ pa < en ∧ sHas i0 k = true) := by
  first
    | exact Or.inl rfl
    | exact Or.inr ⟨rfl, kq, hkq, by assumption, lkq, has_use (by assumption) (by assumption)⟩
theorem lf_X3_isOneOf_6_4 (a : Nat → Nat) (t : Nat → Nat) (en : Nat) (pa : Nat) (sg : Int32) (fa : Int32) (i0 : Nat) (hi0 : i0 < 16) (hsg : SG sg pa en) (c_1 : fa = 0) (c_3 : sg < 0) : ((0 : Int32) = 0) ∨ ((0 : Int32) = 1 ∧ ∃ k : Nat, k < 256 ∧ sg = nI k ∧ pa < en ∧ sHas i0 k = true) := by
  first
    | exact Or.inl rfl
    | exact Or.inr ⟨rfl, kq, hkq, by assumption, lkq, has_use (by assumption) (by assumption)⟩
theorem lf_X3_isOneOf_6_5 (a : Nat → Nat) (t : Nat → Nat) (en : Nat) (pa : Nat) (sg : Int32) (fa : Int32) (i0 : Nat) (hi0 : i0 < 16) (hsg : SG sg pa en) (c_1 : fa = 0) (c_3 : ¬ sg < 0) (kq : Nat) (hkq : kq < 256) (ekq : sg = nI kq) (lkq : pa < en) : kq < 65536 := by
  omega
theorem lf_X3_isOneOf_6_6 (a : Nat → Nat) (t : Nat → Nat) (en : Nat) (pa : Nat) (sg : Int32) (fa : Int32) (i0 : Nat) (hi0 : i0 < 16) (hsg : SG sg pa en) (c_1 : fa = 0) (c_3 : ¬ sg < 0) (kq : Nat) (hkq : kq < 256) (ekq : sg = nI kq) (lkq : pa < en) : i0 < 16 := by
  first | assumption | omega | decide | exact sg_nI (by assumption) (by assumption)
theorem lf_X3_isOneOf_6_7 (a : Nat → Nat) (t : Nat → Nat) (en : Nat) (pa : Nat) (sg : Int32) (fa : Int32) (i0 : Nat) (hi0 : i0 < 16) (hsg : SG sg pa en) (c_1 : fa = 0) (c_3 : ¬ sg < 0) (kq : Nat) (hkq : kq < 256) (ekq : sg = nI kq) (lkq : pa < en) : kq < 256 := by
  first | assumption | omega | decide | exact sg_nI (by assumption) (by assumption)
theorem lf_X3_isOneOf_6_8 (a : Nat → Nat) (t : Nat → Nat) (en : Nat) (pa : Nat) (sg : Int32) (fa : Int32) (i0 : Nat) (hi0 : i0 < 16) (hsg : SG sg pa en) (c_1 : fa = 0) (c_3 : ¬ sg < 0) (kq : Nat) (hkq : kq < 256) (ekq : sg = nI kq) (lkq : pa < en) : i0 < 16 := by
  first | omega | assumption
theorem lf_X3_isOneOf_6_11 (a : Nat → Nat) (t : Nat → Nat) (en : Nat) (pa : Nat) (sg : Int32) (fa : Int32) (i0 : Nat) (hi0 : i0 < 16) (hsg : SG sg pa en) (c_1 : fa = 0) (c_3 : ¬ sg < 0) (kq : Nat) (hkq : kq < 256) (ekq : sg = nI kq) (lkq : pa < en) (r_9 : Int32) (wr_9 : 0 ≤ r_9 → sHas i0 kq = true) (c_10 : r_9 < 0) : ((0 : Int32) = 0) ∨ ((0 : Int32) = 1 ∧ ∃ k : Nat, k < 256 ∧ sg = nI k ∧ pa < en ∧ sHas i0 k = true) := by
  first
    | exact Or.inl rfl
    | exact Or.inr ⟨rfl, kq, hkq, by assumption, lkq, has_use (by assumption) (by assumption)⟩
theorem lf_X3_isOneOf_6_12 (a : Nat → Nat) (t : Nat → Nat) (en : Nat) (pa : Nat) (sg : Int32) (fa : Int32) (i0 : Nat) (hi0 : i0 < 16) (hsg : SG sg pa en) (c_1 : fa = 0) (c_3 : ¬ sg < 0) (kq : Nat) (hkq : kq < 256) (ekq : sg = nI kq) (lkq : pa < en) (r_9 : Int32) (wr_9 : 0 ≤ r_9 → sHas i0 kq = true) (c_10 : ¬ r_9 < 0) : ((1 : Int32) = 0) ∨ ((1 : Int32) = 1 ∧ ∃ k : Nat, k < 256 ∧ sg = nI k ∧ pa < en ∧ sHas i0 k = true) := by
  first
    | exact Or.inl rfl
    | exact Or.inr ⟨rfl, kq, hkq, by assumption, lkq, has_use (by assumption) (by assumption)⟩
set_option maxHeartbeats 4000000 in
set_option maxRecDepth 100000 in
theorem c_X3_isOneOf_6 (l : Launch) (D : va_G) (cI cB cZ cJ : ClassId) (tx : List (ClassId × FieldType)) (adK adV : Nat → Nat) (a : Nat → Nat) (t : Nat → Nat) (en : Nat) (pa : Nat) (sg : Int32) (fa : Int32) (i0 : Nat) (hi0 : i0 < 16) (hsg : SG sg pa en) : RzI l D cI cB cZ cJ tx adK adV yX3_isOneOf cX3_isOneOf 2 (some .boolean) 4 [.ref (a 2), .ref (adK i0)] [(a 2, .inr (3, [.ref (a 1), .ref (t 0), .int (nI en), .int (nI pa), .int sg, .int 6, .int fa]))] (fun r => (r = 0) ∨ (r = 1 ∧ ∃ k : Nat, k < 256 ∧ sg = nI k ∧ pa < en ∧ sHas i0 k = true)) := by
  refine rzi_of2 (by decide +kernel) (Nat.le_of_ble_eq_true rfl) ?_
  intro p e s m below meth c A ls H locs hC hK hZ hP hD hA hS hl
  obtain ⟨hx, hb, hr, hml, hown, hts, hlocks, hin⟩ := hC
  have hown : s.vm.findClass RX3 = some m.cls := hown
  have hl : lv_has ls 2 [(0, .ref (a 2)), (1, .ref (adK i0))] := hl
  refine lv_aload_n hx hb dX3_isOneOf_0 rfl (lv_at hl 0 rfl) ?_
  refine va_get (D := D) (ci := 3) (v := .int fa) (C := RX3) (T := TX3) (N := 7) hx hb hts inT_X3 hown hK.1 hP 0 rfl rfl 6 (by decide) (hts _ k_171) (fun _ h9 => h9) rfl dX3_isOneOf_1 ?_
  refine lv_if_ne (tgt := 30) hx hb dX3_isOneOf_4 (by decide) (fun c_1 => ?_) (fun c_1 => ?_)
  · refine lv_iconst (v := 0) hx hb dX3_isOneOf_30 (by decide) ?_
    exact W.zret (v := 0) hx hb hr (by decide) (fun tt9 ht hW => ⟨⟨(0 : Int32), (), rfl, (lf_X3_isOneOf_6_2 a t en pa sg fa i0 hi0 hsg c_1), trivial⟩, hS.F ht⟩) hS.2.2 dX3_isOneOf_31 hlocks
  · refine lv_aload_n hx hb dX3_isOneOf_7 rfl (lv_at hl 0 rfl) ?_
    refine va_get (D := D) (ci := 3) (v := .int sg) (C := RX3) (T := TX3) (N := 7) hx hb hts inT_X3 hown hK.1 hP 0 rfl rfl 4 (by decide) (hts _ k_169) (fun _ h9 => h9) rfl dX3_isOneOf_8 ?_
    refine lv_if_lt (tgt := 30) hx hb dX3_isOneOf_11 (by decide) (fun c_3 => ?_) (fun c_3 => ?_)
    · refine lv_iconst (v := 0) hx hb dX3_isOneOf_30 (by decide) ?_
      exact W.zret (v := 0) hx hb hr (by decide) (fun tt9 ht hW => ⟨⟨(0 : Int32), (), rfl, (lf_X3_isOneOf_6_4 a t en pa sg fa i0 hi0 hsg c_1 c_3), trivial⟩, hS.F ht⟩) hS.2.2 dX3_isOneOf_31 hlocks
    · obtain ⟨kq, hkq, ekq, lkq⟩ := sg_of hsg c_3
      subst ekq
      refine lv_aload_n hx hb dX3_isOneOf_14 rfl (lv_at hl 1 rfl) ?_
      refine lv_aload_n hx hb dX3_isOneOf_15 rfl (lv_at hl 0 rfl) ?_
      refine va_get (D := D) (ci := 3) (v := .int (nI kq)) (C := RX3) (T := TX3) (N := 7) hx hb hts inT_X3 hown hK.1 hP 0 rfl rfl 4 (by decide) (hts _ k_169) (fun _ h9 => h9) rfl dX3_isOneOf_16 ?_
      refine lv_i2c hx hb dX3_isOneOf_19 (i2c_nI (lf_X3_isOneOf_6_5 a t en pa (nI kq) fa i0 hi0 hsg c_1 c_3 kq hkq rfl lkq)) ?_
      refine eRi (va_runV (As := [.int (nI kq)]) (rest := []) ⟨hx, hb, hml, hown, hts⟩ (c_J0_indexOf1 l D cI cB cZ cJ tx adK adV i0 kq (lf_X3_isOneOf_6_6 a t en pa (nI kq) fa i0 hi0 hsg c_1 c_3 kq hkq rfl lkq) (lf_X3_isOneOf_6_7 a t en pa (nI kq) fa i0 hi0 hsg c_1 c_3 kq hkq rfl lkq) H.size) (zV hts k_576 v_J0_indexOf_0f7a4 ⟨Nat.le_of_ble_eq_true rfl, Nat.le_of_ble_eq_true rfl⟩) (pVS (pz (px0 hK) hZ hS (aR hS hA)) hZ (lf_X3_isOneOf_6_8 a t en pa (nI kq) fa i0 hi0 hsg c_1 c_3 kq hkq rfl lkq) hS) rfl rfl hl.1 rfl (lv_room (Nat.le_of_ble_eq_true rfl)) dX3_isOneOf_20 ⟨Nat.le_of_ble_eq_true rfl, Nat.le_of_ble_eq_true rfl⟩) hP hS hA (fun r_9 H locs wr_9 hP hS => ?_)
      refine lv_if_lt (tgt := 30) hx hb dX3_isOneOf_23 (by decide) (fun c_10 => ?_) (fun c_10 => ?_)
      · refine lv_iconst (v := 0) hx hb dX3_isOneOf_30 (by decide) ?_
        exact W.zret (v := 0) hx hb hr (by decide) (fun tt9 ht hW => ⟨⟨(0 : Int32), (), rfl, (lf_X3_isOneOf_6_11 a t en pa (nI kq) fa i0 hi0 hsg c_1 c_3 kq hkq rfl lkq r_9 wr_9 c_10), trivial⟩, hS.F ht⟩) hS.2.2 dX3_isOneOf_31 hlocks
      · refine lv_iconst (v := 1) hx hb dX3_isOneOf_26 (by decide) ?_
        refine lv_goto (tgt := 31) hx hb dX3_isOneOf_27 (by decide) ?_
        exact W.zret (v := 1) hx hb hr (by decide) (fun tt9 ht hW => ⟨⟨(1 : Int32), (), rfl, (lf_X3_isOneOf_6_12 a t en pa (nI kq) fa i0 hi0 hsg c_1 c_3 kq hkq rfl lkq r_9 wr_9 c_10), trivial⟩, hS.F ht⟩) hS.2.2 dX3_isOneOf_31 hlocks

theorem lf_X3_take_6_1 (a : Nat → Nat) (t : Nat → Nat) (en : Nat) (pa : Nat) (sg : Int32) (fa : Int32) (tu : Nat) (tb : Nat → Int32) (i0 : Nat) (hi0 : i0 < 16) (htu : tu ≤ 220) (hen : en ≤ 200) (hpa : pa ≤ en) (hsg : SG sg pa en) : i0 < 16 := by
  first | assumption | omega | decide | exact sg_nI (by assumption) (by assumption)
theorem lf_X3_take_6_2 (a : Nat → Nat) (t : Nat → Nat) (en : Nat) (pa : Nat) (sg : Int32) (fa : Int32) (tu : Nat) (tb : Nat → Int32) (i0 : Nat) (hi0 : i0 < 16) (htu : tu ≤ 220) (hen : en ≤ 200) (hpa : pa ≤ en) (hsg : SG sg pa en) : SG sg pa en := by
  first | assumption | omega | decide | exact sg_nI (by assumption) (by assumption)
theorem lf_X3_take_6_6 (a : Nat → Nat) (t : Nat → Nat) (en : Nat) (pa : Nat) (sg : Int32) (fa : Int32) (tu : Nat) (tb : Nat → Int32) (i0 : Nat) (hi0 : i0 < 16) (htu : tu ≤ 220) (hen : en ≤ 200) (hpa : pa ≤ en) (hsg : SG sg pa en) (fa_5 : Int32) : (pa ≤ (pa : Nat)) ∧ ((pa : Nat) ≤ en) ∧ (SG (sg : Int32) (pa : Nat) en) := by
  first | (refine ⟨?_, ?_, ?_⟩ <;> first | omega | assumption) | (refine ⟨?_, ?_, ?_, ?_⟩ <;> first | omega | assumption)
theorem lf_X3_take_6_7 (a : Nat → Nat) (t : Nat → Nat) (en : Nat) (pa : Nat) (sg : Int32) (fa : Int32) (tu : Nat) (tb : Nat → Int32) (i0 : Nat) (hi0 : i0 < 16) (htu : tu ≤ 220) (hen : en ≤ 200) (hpa : pa ≤ en) (hsg : SG sg pa en) (kk3 : Nat) (hkk3 : kk3 < 256) (lkk3 : pa < en) (skk3 : sHas i0 kk3 = true) : tu ≤ 220 := by
  first | assumption | omega | decide | exact sg_nI (by assumption) (by assumption)
theorem lf_X3_take_6_8 (a : Nat → Nat) (t : Nat → Nat) (en : Nat) (pa : Nat) (sg : Int32) (fa : Int32) (tu : Nat) (tb : Nat → Int32) (i0 : Nat) (hi0 : i0 < 16) (htu : tu ≤ 220) (hen : en ≤ 200) (hpa : pa ≤ en) (hsg : SG sg pa en) (kk3 : Nat) (hkk3 : kk3 < 256) (lkk3 : pa < en) (skk3 : sHas i0 kk3 = true) : en ≤ 200 := by
  first | assumption | omega | decide | exact sg_nI (by assumption) (by assumption)
theorem lf_X3_take_6_9 (a : Nat → Nat) (t : Nat → Nat) (en : Nat) (pa : Nat) (sg : Int32) (fa : Int32) (tu : Nat) (tb : Nat → Int32) (i0 : Nat) (hi0 : i0 < 16) (htu : tu ≤ 220) (hen : en ≤ 200) (hpa : pa ≤ en) (hsg : SG sg pa en) (kk3 : Nat) (hkk3 : kk3 < 256) (lkk3 : pa < en) (skk3 : sHas i0 kk3 = true) : pa ≤ en := by
  first | assumption | omega | decide | exact sg_nI (by assumption) (by assumption)
theorem lf_X3_take_6_10 (a : Nat → Nat) (t : Nat → Nat) (en : Nat) (pa : Nat) (sg : Int32) (fa : Int32) (tu : Nat) (tb : Nat → Int32) (i0 : Nat) (hi0 : i0 < 16) (htu : tu ≤ 220) (hen : en ≤ 200) (hpa : pa ≤ en) (hsg : SG sg pa en) (kk3 : Nat) (hkk3 : kk3 < 256) (lkk3 : pa < en) (skk3 : sHas i0 kk3 = true) : pa < en := by
  first | assumption | omega | decide | exact sg_nI (by assumption) (by assumption)
theorem lf_X3_take_6_13 (a : Nat → Nat) (t : Nat → Nat) (en : Nat) (pa : Nat) (sg : Int32) (fa : Int32) (tu : Nat) (tb : Nat → Int32) (i0 : Nat) (hi0 : i0 < 16) (htu : tu ≤ 220) (hen : en ≤ 200) (hpa : pa ≤ en) (hsg : SG sg pa en) (kk3 : Nat) (hkk3 : kk3 < 256) (lkk3 : pa < en) (skk3 : sHas i0 kk3 = true) (pa_12 : Nat) (sg_12 : Int32) (hz_12_0 : pa_12 = pa + 1) (hz_12_1 : pa_12 ≤ en) (hz_12_2 : SG sg_12 pa_12 en) : (pa ≤ (pa_12 : Nat)) ∧ ((pa_12 : Nat) ≤ en) ∧ (SG (sg_12 : Int32) (pa_12 : Nat) en) := by
  first | (refine ⟨?_, ?_, ?_⟩ <;> first | omega | assumption) | (refine ⟨?_, ?_, ?_, ?_⟩ <;> first | omega | assumption)
set_option maxHeartbeats 4000000 in
set_option maxRecDepth 100000 in
theorem c_X3_take_6 (l : Launch) (D : va_G) (cI cB cZ cJ : ClassId) (tx : List (ClassId × FieldType)) (adK adV : Nat → Nat) (a : Nat → Nat) (t : Nat → Nat) (en : Nat) (pa : Nat) (sg : Int32) (fa : Int32) (tu : Nat) (tb : Nat → Int32) (i0 : Nat) (hi0 : i0 < 16) (htu : tu ≤ 220) (hen : en ≤ 200) (hpa : pa ≤ en) (hsg : SG sg pa en) : WzV l D cI cB cZ cJ tx adK adV yX3_take cX3_take 2 none 5 0 0 [.ref (a 2), .ref (adK i0)] [(a 2, .inr (3, [.ref (a 1), .ref (t 0), .int (nI en), .int (nI pa), .int sg, .int 6, .int fa])), (a 1, .inr (8, [.ref (a 17), .int (nI tu)])), (a 17, .inl (cB, 220, .inl tb))] (fun (v : (Nat) × (Int32) × (Int32)) => (pa ≤ v.1) ∧ (v.1 ≤ en) ∧ (SG v.2.1 v.1 en)) (fun v => [(a 2, .inr (3, [.ref (a 1), .ref (t 0), .int (nI en), .int (nI (v.1)), .int v.2.1, .int 6, .int v.2.2])), (a 1, .inr (8, [.ref (a 17), .int (nI tu)])), (a 17, .inl (cB, 220, .inl tb))]) := by
  refine wzv_of2 (by decide +kernel) (Nat.le_of_ble_eq_true rfl) ?_
  intro p e s m below meth c A ls H locs hC hK hZ hP hD hA hS hl
  obtain ⟨hx, hb, hr, hml, hown, hts, hlocks, hin⟩ := hC
  have hown : s.vm.findClass RX3 = some m.cls := hown
  have hl : lv_has ls 2 [(0, .ref (a 2)), (1, .ref (adK i0))] := hl
  refine lv_aload_n hx hb dX3_take_0 rfl (lv_at hl 0 rfl) ?_
  refine lv_aload_n hx hb dX3_take_1 rfl (lv_at hl 1 rfl) ?_
  refine eRi (va_runV (As := [.ref (adK i0)]) (rest := []) ⟨hx, hb, hml, hown, hts⟩ (c_X3_isOneOf_6 l D cI cB cZ cJ tx adK adV a t en pa sg fa i0 (lf_X3_take_6_1 a t en pa sg fa tu tb i0 hi0 htu hen hpa hsg) (lf_X3_take_6_2 a t en pa sg fa tu tb i0 hi0 htu hen hpa hsg) H.size) (zV hts k_572 v_X3_isOneOf ⟨Nat.le_of_ble_eq_true rfl, Nat.le_of_ble_eq_true rfl⟩) (pV (pz (px1 hK hP 0 rfl) hZ hS (aR hS hA)) hK hP 0 rfl rfl) rfl rfl hl.1 rfl (lv_room (Nat.le_of_ble_eq_true rfl)) dX3_take_2 ⟨Nat.le_of_ble_eq_true rfl, Nat.le_of_ble_eq_true rfl⟩) hP hS hA (fun r_3 H locs wr_3 hP hS => ?_)
  rcases wr_3 with rfl | ⟨rfl, kk3, hkk3, rfl, lkk3, skk3⟩
  · refine lv_if_eq (tgt := 15) hx hb dX3_take_5 (by decide) (fun _ => ?_) (fun c => absurd c (by decide))
    refine lv_aload_n hx hb dX3_take_15 rfl (lv_at hl 0 rfl) ?_
    refine lv_iconst (v := 1) hx hb dX3_take_16 (by decide) ?_
    refine eWv (wr := [(a 1, .inr (8, [.ref (a 17), .int (nI tu)])), (a 17, .inl (cB, 220, .inl tb))]) (va_runV (As := [.int 1]) (rest := []) ⟨hx, hb, hml, hown, hts⟩ (c_X3_refuse_6 l D cI cB cZ cJ tx a t en pa sg fa 1 H.size) (zV hts k_662 v_X3_refuse ⟨Nat.le_of_ble_eq_true rfl, Nat.le_of_ble_eq_true rfl⟩) (pV (pxS hK hP hD [0] (by decide) rfl) hK hP 0 rfl rfl) rfl rfl hl.1 rfl (lv_room (Nat.le_of_ble_eq_true rfl)) dX3_take_17 ⟨Nat.le_of_ble_eq_true rfl, Nat.le_of_ble_eq_true rfl⟩) hP hD hS hA [0] [1, 2] rfl rfl (by decide) (by decide) (fun u_5 H locs wr_4 hP hD hS => ?_)
    obtain ⟨fa_5, rfl⟩ : ∃ z, z = u_5 := ⟨_, rfl⟩
    have hP : va_P D vwCl [(a 1, .inr (8, [.ref (a 17), .int (nI tu)])), (a 17, .inl (cB, 220, .inl tb)), (a 2, .inr (3, [.ref (a 1), .ref (t 0), .int (nI en), .int (nI pa), .int sg, .int 6, .int fa_5]))] H := hP
    have hD : va_D A [(a 1, .inr (8, [.ref (a 17), .int (nI tu)])), (a 17, .inl (cB, 220, .inl tb)), (a 2, .inr (3, [.ref (a 1), .ref (t 0), .int (nI en), .int (nI pa), .int sg, .int 6, .int fa_5]))] := hD
    have hP := hP.sub (ws' := [(a 2, .inr (3, [.ref (a 1), .ref (t 0), .int (nI en), .int (nI pa), .int sg, .int 6, .int fa_5])), (a 1, .inr (8, [.ref (a 17), .int (nI tu)])), (a 17, .inl (cB, 220, .inl tb))]) [2, 0, 1] rfl
    have hD := hD.sub (ws' := [(a 2, .inr (3, [.ref (a 1), .ref (t 0), .int (nI en), .int (nI pa), .int sg, .int 6, .int fa_5])), (a 1, .inr (8, [.ref (a 17), .int (nI tu)])), (a 17, .inl (cB, 220, .inl tb))]) [2, 0, 1] (by decide) rfl
    exact W.vret hx hb hr (fun tt9 ht hW => ⟨⟨((pa : Nat), (sg : Int32), (fa_5 : Int32)), rfl, (lf_X3_take_6_6 a t en pa sg fa tu tb i0 hi0 htu hen hpa hsg fa_5), ⟨by rw [ht]; exact hP, hD⟩⟩, hS.F ht⟩) hS.2.2 dX3_take_20 hlocks
  · refine lv_if_eq (tgt := 15) hx hb dX3_take_5 (by decide) (fun c => absurd c (by decide)) (fun _ => ?_)
    refine lv_aload_n hx hb dX3_take_8 rfl (lv_at hl 0 rfl) ?_
    refine eWv (wr := []) (va_runV (As := []) (rest := []) ⟨hx, hb, hml, hown, hts⟩ (c_X3_advance_6 l D cI cB cZ cJ tx a t en pa (nI kk3) fa tu tb (lf_X3_take_6_7 a t en pa (nI kk3) fa tu tb i0 hi0 htu hen hpa hsg kk3 hkk3 lkk3 skk3) (lf_X3_take_6_8 a t en pa (nI kk3) fa tu tb i0 hi0 htu hen hpa hsg kk3 hkk3 lkk3 skk3) (lf_X3_take_6_9 a t en pa (nI kk3) fa tu tb i0 hi0 htu hen hpa hsg kk3 hkk3 lkk3 skk3) (lf_X3_take_6_10 a t en pa (nI kk3) fa tu tb i0 hi0 htu hen hpa hsg kk3 hkk3 lkk3 skk3) H.size) (zV hts k_670 v_X3_advance ⟨Nat.le_of_ble_eq_true rfl, Nat.le_of_ble_eq_true rfl⟩) (pV (pxS hK hP hD [0, 1, 2] (by decide) rfl) hK hP 0 rfl rfl) rfl rfl hl.1 rfl (lv_room (Nat.le_of_ble_eq_true rfl)) dX3_take_9 ⟨Nat.le_of_ble_eq_true rfl, Nat.le_of_ble_eq_true rfl⟩) hP hD hS hA [0, 1, 2] [] rfl rfl (by decide) (by decide) (fun u_12 H locs wr_11 hP hD hS => ?_)
    obtain ⟨pa_12, sg_12⟩ := u_12
    have hz_12_0 : pa_12 = pa + 1 := wr_11.1
    have hz_12_1 : pa_12 ≤ en := wr_11.2.1
    have hz_12_2 : SG sg_12 pa_12 en := wr_11.2.2
    have hP : va_P D vwCl [(a 2, .inr (3, [.ref (a 1), .ref (t 0), .int (nI en), .int (nI pa_12), .int sg_12, .int 6, .int fa])), (a 1, .inr (8, [.ref (a 17), .int (nI tu)])), (a 17, .inl (cB, 220, .inl tb))] H := hP
    have hD : va_D A [(a 2, .inr (3, [.ref (a 1), .ref (t 0), .int (nI en), .int (nI pa_12), .int sg_12, .int 6, .int fa])), (a 1, .inr (8, [.ref (a 17), .int (nI tu)])), (a 17, .inl (cB, 220, .inl tb))] := hD
    refine lv_goto (tgt := 20) hx hb dX3_take_12 (by decide) ?_
    exact W.vret hx hb hr (fun tt9 ht hW => ⟨⟨((pa_12 : Nat), (sg_12 : Int32), (fa : Int32)), rfl, (lf_X3_take_6_13 a t en pa (nI kk3) fa tu tb i0 hi0 htu hen hpa hsg kk3 hkk3 lkk3 skk3 pa_12 sg_12 hz_12_0 hz_12_1 hz_12_2), ⟨by rw [ht]; exact hP, hD⟩⟩, hS.F ht⟩) hS.2.2 dX3_take_20 hlocks
