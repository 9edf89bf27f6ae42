/-! The ground of all contracts here: one list of words, one context, readers and writers. -/
def TBL : List Cond := lw_tbl.filter goodWord
theorem tb_good : GoodIn TBL TBL := fun w h => ⟨h, good_of_word (List.mem_filter.mp h).2⟩
theorem tb_ix {w : Cond} (i : Nat) (h : lw_tbl[i]? = some w) (hg : goodWord w = true) : w ∈ TBL := List.mem_filter.mpr ⟨List.mem_of_getElem? h, hg⟩
def wNest : Cond → Bool
  | .fieldLinkNest .. => true
  | .methodLinkNest .. => true
  | _ => false
def NWs : List Cond := lw_tbl.filter wNest
theorem nw_ix {w : Cond} (i : Nat) (h : lw_tbl[i]? = some w) (hg : wNest w = true) : w ∈ NWs := List.mem_filter.mpr ⟨List.mem_of_getElem? h, hg⟩
theorem nw_warm {w : Cond} (hw : wNest w = true) {s U : State} (hW : s.WarmedH U.vm) (h : va_Nw w s) : va_Nw w U := by
  cases w <;> first | (simp [wNest] at hw; done) | exact va_Nw.warmF hW h | exact va_Nw.warmM hW h
theorem nw_same {w : Cond} (hw : wNest w = true) {s U : State} (hv : s.vm = U.vm) (h : va_Nw w s) : va_Nw w U := by
  cases w <;> first | (simp [wNest] at hw; done) | exact va_Nw.same rfl hv h
abbrev TYS (cI cB cZ cJ : ClassId) (tx : List (ClassId × FieldType)) : List (ClassId × FieldType) := (cI, .int) :: (cB, .byte) :: (cZ, .boolean) :: (cJ, .long) :: tx
def KX (D : va_G) (cI cB cZ cJ : ClassId) (tx : List (ClassId × FieldType)) (U : State) : Prop :=
  va_K D vwCl (TYS cI cB cZ cJ tx) U ∧ (U.vm.findClass "[I" = some cI ∧ U.vm.findClass "[B" = some cB ∧ U.vm.findClass "[Z" = some cZ ∧ U.vm.findClass "[J" = some cJ) ∧ (∀ w ∈ NWs, va_Nw w U) ∧ ((∃ q, vk_R RX11 119 "yz" q U) ∧ (∃ q, vk_R RX11 125 "abg" q U) ∧ ∃ q, vk_R RX11 127 "e" q U) ∧ va_AO "NailStain$Text" U
section KXS
variable {D : va_G} {cI cB cZ cJ : ClassId} {tx : List (ClassId × FieldType)}
theorem KX.warm {s U : State} (h : KX D cI cB cZ cJ tx s) (hW : s.WarmedH U.vm) : KX D cI cB cZ cJ tx U := by
  obtain ⟨h1, ⟨a1, a2, a3, a4⟩, h2, ⟨⟨q1, b1⟩, ⟨q2, b2⟩, ⟨q3, b3⟩⟩, h4⟩ := h
  refine ⟨va_K.moved hW.alike h1, ⟨?_, ?_, ?_, ?_⟩, fun w hw => nw_warm (List.mem_filter.mp hw).2 hW (h2 w hw), ⟨⟨q1, b1.warm hW⟩, ⟨q2, b2.warm hW⟩, ⟨q3, b3.warm hW⟩⟩, va_AO.moved hW.alike h4⟩
  · rw [hW.alike.findClass]; exact a1
  · rw [hW.alike.findClass]; exact a2
  · rw [hW.alike.findClass]; exact a3
  · rw [hW.alike.findClass]; exact a4
theorem KX.same {s U : State} (h : KX D cI cB cZ cJ tx s) (hv : s.vm = U.vm) : KX D cI cB cZ cJ tx U := by
  obtain ⟨h1, ⟨a1, a2, a3, a4⟩, h2, ⟨⟨q1, b1⟩, ⟨q2, b2⟩, ⟨q3, b3⟩⟩, h4⟩ := h
  exact ⟨va_K.moved (by rw [hv]; exact Vm.Alike.refl _) h1, ⟨by rw [← hv]; exact a1, by rw [← hv]; exact a2, by rw [← hv]; exact a3, by rw [← hv]; exact a4⟩, fun w hw => nw_same (List.mem_filter.mp hw).2 hv (h2 w hw), ⟨⟨q1, vk_R.same hv.symm b1⟩, ⟨q2, vk_R.same hv.symm b2⟩, ⟨q3, vk_R.same hv.symm b3⟩⟩, va_AO.moved (by rw [hv]; exact Vm.Alike.refl _) h4⟩
end KXS
def PX (D : va_G) (cI cB cZ cJ : ClassId) (tx : List (ClassId × FieldType)) (ws : va_W) (sz : Nat) (U : State) : Prop := U.heap.size = sz ∧ va_P D vwCl ws U.heap ∧ KX D cI cB cZ cJ tx U ∧ va_D (fun _ => True) ws
def BX (D : va_G) (A : Nat → Prop) (ws : va_W) (t : State) : Prop := va_P D vwCl ws t.heap ∧ va_D A ws
theorem px_blind {D : va_G} {cI cB cZ cJ : ClassId} {tx : List (ClassId × FieldType)} {ws : va_W} {sz : Nat} {av : List Value} : FrameBlind (va_Pc av (PX D cI cB cZ cJ tx ws sz)) := fun _ U g mk q => ⟨q.1, q.2.1, q.2.2.1, KX.same (U := U.calling g mk _) q.2.2.2.1 rfl, q.2.2.2.2⟩
abbrev rmX (F mc ms : Nat) : Room := { frames := F, cells := mc, slots := ms, locals := 40 * F }
abbrev wsY (y : MethodName) (cc : ByteArray) (mL : Nat) (ret : Option FieldType) : List Cond := .code y cc mL ret :: TBL
/-- a reader: nothing that was there changes -/
abbrev RdI (l : Launch) (D : va_G) (cI cB cZ cJ : ClassId) (tx : List (ClassId × FieldType)) (y : MethodName) (cc : ByteArray) (mL : Nat) (ret : Option FieldType) (F : Nat) (av : List Value) (ws : va_W) (post : Int32 → Prop) : Prop := ∀ sz : Nat, Met l y (wsY y cc mL ret) (rmX F 0 0) (va_Pc av (PX D cI cB cZ cJ tx ws sz)) (va_Qi (fun r (_ : Unit) => post r) (fun _ _ => True) (va_A [] sz)) 0 0 (va_A [] sz)
abbrev RdL (l : Launch) (D : va_G) (cI cB cZ cJ : ClassId) (tx : List (ClassId × FieldType)) (y : MethodName) (cc : ByteArray) (mL : Nat) (ret : Option FieldType) (F : Nat) (av : List Value) (ws : va_W) (post : Int64 → Prop) : Prop := ∀ sz : Nat, Met l y (wsY y cc mL ret) (rmX F 0 0) (va_Pc av (PX D cI cB cZ cJ tx ws sz)) (va_Ql (fun r (_ : Unit) => post r) (fun _ _ => True) (va_A [] sz)) 0 0 (va_A [] sz)
/-- a writer: its world may change, and is told anew -/
abbrev WrI (l : Launch) (D : va_G) (cI cB cZ cJ : ClassId) (tx : List (ClassId × FieldType)) (y : MethodName) (cc : ByteArray) (mL : Nat) (ret : Option FieldType) (F mc ms : Nat) (av : List Value) (ws : va_W) {S : Type} (post : Int32 → S → Prop) (w1 : S → va_W) : Prop := ∀ sz : Nat, Met l y (wsY y cc mL ret) (rmX F mc ms) (va_Pc av (PX D cI cB cZ cJ tx ws sz)) (va_Qi post (fun u => BX D (va_A ws sz) (w1 u)) (va_A ws sz)) mc ms (va_A ws sz)
abbrev WrL (l : Launch) (D : va_G) (cI cB cZ cJ : ClassId) (tx : List (ClassId × FieldType)) (y : MethodName) (cc : ByteArray) (mL : Nat) (ret : Option FieldType) (F mc ms : Nat) (av : List Value) (ws : va_W) {S : Type} (post : Int64 → S → Prop) (w1 : S → va_W) : Prop := ∀ sz : Nat, Met l y (wsY y cc mL ret) (rmX F mc ms) (va_Pc av (PX D cI cB cZ cJ tx ws sz)) (va_Ql post (fun u => BX D (va_A ws sz) (w1 u)) (va_A ws sz)) mc ms (va_A ws sz)
abbrev WrV (l : Launch) (D : va_G) (cI cB cZ cJ : ClassId) (tx : List (ClassId × FieldType)) (y : MethodName) (cc : ByteArray) (mL : Nat) (ret : Option FieldType) (F mc ms : Nat) (av : List Value) (ws : va_W) {S : Type} (post : S → Prop) (w1 : S → va_W) : Prop := ∀ sz : Nat, Met l y (wsY y cc mL ret) (rmX F mc ms) (va_Pc av (PX D cI cB cZ cJ tx ws sz)) (va_Qv post (fun u => BX D (va_A ws sz) (w1 u)) (va_A ws sz)) mc ms (va_A ws sz)
/-- what is at hand in a method's body -/
abbrev CTX (p : Program) (s : State) (m : MethodId) (meth : Method) (c : Code) (args : Array Value) (y : MethodName) (cc : ByteArray) (mL : Nat) (ret : Option FieldType) : Prop := p.tables.exec = Jvm.exec ∧ c.code = cc ∧ meth.sig.returnType = ret ∧ c.maxLocals = mL ∧ s.vm.findClass y.cls = some m.cls ∧ (∀ w ∈ TBL, w.before args s = true) ∧ meth.locks = false ∧ meth.name = y.name
theorem ctx_of {l : Launch} {y : MethodName} {cc : ByteArray} {mL : Nat} {ret : Option FieldType} {rm : Room} {p : Program} {e : Env} {s : State} {m : MethodId} {args : Array Value} {below : List Frame} {meth : Method} {c : Code} {s₁ : State} (B : BodyLoose p l y (headSpec (wsY y cc mL ret) rm) cc mL ret e s m args below meth c s₁) (hml : c.maxLocals = mL) : CTX p s m meth c args y cc mL ret :=
  ⟨B.exec, B.bytes, B.returns, hml, findClass_of_methodNamed B.named, fun w h => atoms_spec (ws := wsY y cc mL ret) B.pre w (List.mem_cons_of_mem _ h), B.notSynchronized, (name_of_methodNamed B.named B.method).1⟩
section OPEN
variable {l : Launch} {D : va_G} {cI cB cZ cJ : ClassId} {tx : List (ClassId × FieldType)} {y : MethodName} {cc : ByteArray} {mL : Nat} {ret : Option FieldType} {F mc ms : Nat} {av : List Value} {ws : va_W}
theorem rdi_of {post : Int32 → Prop} (hy : plainName y.cls = true) (hn : (lg_sl av).length ≤ mL) (body : ∀ (p : Program) (e : Env) (s : State) (m : MethodId) (below : List Frame) (meth : Method) (c : Code) (A : Nat → Prop) (ls : Array Slot), CTX p s m meth c av.toArray y cc mL ret → KX D cI cB cZ cJ tx s → va_P D vwCl ws s.heap → va_D (fun _ => True) ws → (∀ q : Nat, s.heap.size ≤ q → A q) → va_S A s.heap s.heap [] → lv_has ls mL (lv_args 0 av) →
    W p l e (rmX F 0 0) s m av.toArray below meth c s.heap [] 0 0 (MQ below (va_Qi (fun r (_ : Unit) => post r) (fun _ _ => True) A) av.toArray s 0 0 A) (F0 m 0 ls [])) : RdI l D cI cB cZ cJ tx y cc mL ret F av ws post := by
  intro sz
  refine Met.ofW (cc := cc) (maxL := mL) (ret := ret) hy rfl ?_
  intro p e s m args below meth c s₁ B hml hv
  obtain ⟨rfl, hsz, hP, hK, hD0⟩ := hv
  subst hsz
  have hl := lv_entry av (n := mL) hn
  rw [lg_entry_eq]
  exact body p e s m below meth c _ _ (ctx_of B hml) hK hP hD0 (fun q h => Or.inr h) va_S.rf hl
theorem rdl_of {post : Int64 → Prop} (hy : plainName y.cls = true) (hn : (lg_sl av).length ≤ mL) (body : ∀ (p : Program) (e : Env) (s : State) (m : MethodId) (below : List Frame) (meth : Method) (c : Code) (A : Nat → Prop) (ls : Array Slot), CTX p s m meth c av.toArray y cc mL ret → KX D cI cB cZ cJ tx s → va_P D vwCl ws s.heap → va_D (fun _ => True) ws → (∀ q : Nat, s.heap.size ≤ q → A q) → va_S A s.heap s.heap [] → lv_has ls mL (lv_args 0 av) →
    W p l e (rmX F 0 0) s m av.toArray below meth c s.heap [] 0 0 (MQ below (va_Ql (fun r (_ : Unit) => post r) (fun _ _ => True) A) av.toArray s 0 0 A) (F0 m 0 ls [])) : RdL l D cI cB cZ cJ tx y cc mL ret F av ws post := by
  intro sz
  refine Met.ofW (cc := cc) (maxL := mL) (ret := ret) hy rfl ?_
  intro p e s m args below meth c s₁ B hml hv
  obtain ⟨rfl, hsz, hP, hK, hD0⟩ := hv
  subst hsz
  have hl := lv_entry av (n := mL) hn
  rw [lg_entry_eq]
  exact body p e s m below meth c _ _ (ctx_of B hml) hK hP hD0 (fun q h => Or.inr h) va_S.rf hl
theorem wri_of {S : Type} {post : Int32 → S → Prop} {w1 : S → va_W} (hy : plainName y.cls = true) (hn : (lg_sl av).length ≤ mL) (body : ∀ (p : Program) (e : Env) (s : State) (m : MethodId) (below : List Frame) (meth : Method) (c : Code) (A : Nat → Prop) (ls : Array Slot), CTX p s m meth c av.toArray y cc mL ret → KX D cI cB cZ cJ tx s → va_P D vwCl ws s.heap → va_D A ws → (∀ q : Nat, s.heap.size ≤ q → A q) → va_S A s.heap s.heap [] → lv_has ls mL (lv_args 0 av) →
    W p l e (rmX F mc ms) s m av.toArray below meth c s.heap [] 0 0 (MQ below (va_Qi post (fun u => BX D A (w1 u)) A) av.toArray s mc ms A) (F0 m 0 ls [])) : WrI l D cI cB cZ cJ tx y cc mL ret F mc ms av ws post w1 := by
  intro sz
  refine Met.ofW (cc := cc) (maxL := mL) (ret := ret) hy rfl ?_
  intro p e s m args below meth c s₁ B hml hv
  obtain ⟨rfl, hsz, hP, hK, hD0⟩ := hv
  subst hsz
  have hl := lv_entry av (n := mL) hn
  rw [lg_entry_eq]
  exact body p e s m below meth c _ _ (ctx_of B hml) hK hP hD0.self (fun q h => Or.inr h) va_S.rf hl
theorem wrl_of {S : Type} {post : Int64 → S → Prop} {w1 : S → va_W} (hy : plainName y.cls = true) (hn : (lg_sl av).length ≤ mL) (body : ∀ (p : Program) (e : Env) (s : State) (m : MethodId) (below : List Frame) (meth : Method) (c : Code) (A : Nat → Prop) (ls : Array Slot), CTX p s m meth c av.toArray y cc mL ret → KX D cI cB cZ cJ tx s → va_P D vwCl ws s.heap → va_D A ws → (∀ q : Nat, s.heap.size ≤ q → A q) → va_S A s.heap s.heap [] → lv_has ls mL (lv_args 0 av) →
    W p l e (rmX F mc ms) s m av.toArray below meth c s.heap [] 0 0 (MQ below (va_Ql post (fun u => BX D A (w1 u)) A) av.toArray s mc ms A) (F0 m 0 ls [])) : WrL l D cI cB cZ cJ tx y cc mL ret F mc ms av ws post w1 := by
  intro sz
  refine Met.ofW (cc := cc) (maxL := mL) (ret := ret) hy rfl ?_
  intro p e s m args below meth c s₁ B hml hv
  obtain ⟨rfl, hsz, hP, hK, hD0⟩ := hv
  subst hsz
  have hl := lv_entry av (n := mL) hn
  rw [lg_entry_eq]
  exact body p e s m below meth c _ _ (ctx_of B hml) hK hP hD0.self (fun q h => Or.inr h) va_S.rf hl
theorem wrv_of {S : Type} {post : S → Prop} {w1 : S → va_W} (hy : plainName y.cls = true) (hn : (lg_sl av).length ≤ mL) (body : ∀ (p : Program) (e : Env) (s : State) (m : MethodId) (below : List Frame) (meth : Method) (c : Code) (A : Nat → Prop) (ls : Array Slot), CTX p s m meth c av.toArray y cc mL ret → KX D cI cB cZ cJ tx s → va_P D vwCl ws s.heap → va_D A ws → (∀ q : Nat, s.heap.size ≤ q → A q) → va_S A s.heap s.heap [] → lv_has ls mL (lv_args 0 av) →
    W p l e (rmX F mc ms) s m av.toArray below meth c s.heap [] 0 0 (MQ below (va_Qv post (fun u => BX D A (w1 u)) A) av.toArray s mc ms A) (F0 m 0 ls [])) : WrV l D cI cB cZ cJ tx y cc mL ret F mc ms av ws post w1 := by
  intro sz
  refine Met.ofW (cc := cc) (maxL := mL) (ret := ret) hy rfl ?_
  intro p e s m args below meth c s₁ B hml hv
  obtain ⟨rfl, hsz, hP, hK, hD0⟩ := hv
  subst hsz
  have hl := lv_entry av (n := mL) hn
  rw [lg_entry_eq]
  exact body p e s m below meth c _ _ (ctx_of B hml) hK hP hD0.self (fun q h => Or.inr h) va_S.rf hl
end OPEN
/-! calls: the words -/
def mV (y : MethodName) (cc : ByteArray) (mL : Nat) (ret : Option FieldType) (n : Nat) : Prop := (Cond.instanceMethod y ∈ TBL ∧ Cond.selects y.cls y y ∈ TBL ∧ Cond.initialized y.cls ∈ TBL ∧ Cond.code y cc mL ret ∈ TBL) ∧ y.cls ≠ "java/lang/invoke/MethodHandle" ∧ y.cls ≠ "java/lang/invoke/VarHandle" ∧ (parseMethodDescriptor y.desc).map (fun d => d.parameters.length) = some n
def mS (y : MethodName) (cc : ByteArray) (mL : Nat) (ret : Option FieldType) (n : Nat) : Prop := (Cond.static y ∈ TBL ∧ Cond.initialized y.cls ∈ TBL ∧ Cond.code y cc mL ret ∈ TBL) ∧ y.cls ≠ "java/lang/invoke/MethodHandle" ∧ y.cls ≠ "java/lang/invoke/VarHandle" ∧ (parseMethodDescriptor y.desc).map (fun d => d.parameters.length) = some n
def mI (y : MethodName) (cc : ByteArray) (mL : Nat) (n : Nat) : Prop := (Cond.instanceMethod y ∈ TBL ∧ Cond.initialized y.cls ∈ TBL ∧ Cond.code y cc mL none ∈ TBL) ∧ y.cls ≠ "java/lang/invoke/MethodHandle" ∧ y.cls ≠ "java/lang/invoke/VarHandle" ∧ (parseMethodDescriptor y.desc).map (fun d => d.parameters.length) = some n
theorem wsY_good {y : MethodName} {cc : ByteArray} {mL : Nat} {ret : Option FieldType} (h : Cond.code y cc mL ret ∈ TBL) : GoodIn TBL (wsY y cc mL ret) := fun w hw => (List.mem_cons.mp hw).elim (fun e => by rw [e]; exact tb_good _ h) (fun h2 => tb_good _ h2)
section WORDS
variable {R : Room} {s : State} {args : Array Value} {own : String} {index : Nat} {y : MethodName} {cc : ByteArray} {mL n : Nat} {ret : Option FieldType} {F mc ms : Nat}
theorem zV (hts : ∀ w ∈ TBL, w.before args s = true) (hl : Cond.methodLink own index y ∈ TBL) (h : mV y cc mL ret n) (hR : F + 1 ≤ R.frames ∧ 8 + (mL + 11) + 40 * F ≤ R.locals) : CallW R s args own y.cls index y cc mL ret (wsY y cc mL ret) (rmX F mc ms) mc ms n := by
  obtain ⟨⟨h1, h2, h3, h4⟩, h5⟩ := h
  exact ⟨callB_of n hts (wsY_good h4) rfl rfl rfl (hts _ h3) (hts _ hl) h5 hR, hts _ h1, hts _ h2⟩
theorem zS (hts : ∀ w ∈ TBL, w.before args s = true) (hl : Cond.methodLink own index y ∈ TBL) (h : mS y cc mL ret n) (hR : F + 1 ≤ R.frames ∧ 8 + (mL + 11) + 40 * F ≤ R.locals) : CallB R s args own index y cc mL ret (wsY y cc mL ret) (rmX F mc ms) mc ms n ∧ (Cond.static y).before args s = true := by
  obtain ⟨⟨h1, h3, h4⟩, h5⟩ := h
  exact ⟨callB_of n hts (wsY_good h4) rfl rfl rfl (hts _ h3) (hts _ hl) h5 hR, hts _ h1⟩
theorem zI (hts : ∀ w ∈ TBL, w.before args s = true) (hl : Cond.methodLink own index y ∈ TBL) (hn : y.name = "<init>") (h : mI y cc mL n) (hR : F + 1 ≤ R.frames ∧ 8 + (mL + 11) + 40 * F ≤ R.locals) : CallB R s args own index y cc mL none (wsY y cc mL none) (rmX F mc ms) mc ms n ∧ y.name = "<init>" ∧ (Cond.instanceMethod y).before args s = true := by
  obtain ⟨⟨h1, h3, h4⟩, h5⟩ := h
  exact ⟨callB_of n hts (wsY_good h4) rfl rfl rfl (hts _ h3) (hts _ hl) h5 hR, hn, hts _ h1⟩
theorem zIN {D : va_G} {cI cB cZ cJ : ClassId} {tx : List (ClassId × FieldType)} {host : String} (hts : ∀ w ∈ TBL, w.before args s = true) (hK : KX D cI cB cZ cJ tx s) (hl : Cond.methodLinkNest own index y host ∈ NWs) (hn : y.name = "<init>") (h : mI y cc mL n) (hR : F + 1 ≤ R.frames ∧ 8 + (mL + 11) + 40 * F ≤ R.locals) : va_CN R s args own index y host cc mL none (wsY y cc mL none) (rmX F mc ms) mc ms n ∧ y.name = "<init>" ∧ (Cond.instanceMethod y).before args s = true := by
  obtain ⟨⟨h1, h3, h4⟩, h5⟩ := h
  exact ⟨va_cnB n hts (wsY_good h4) rfl rfl rfl (hK.2.2.1 _ hl) (hts _ h3) h5 hR, hn, hts _ h1⟩
theorem zSN {D : va_G} {cI cB cZ cJ : ClassId} {tx : List (ClassId × FieldType)} {host : String} (hts : ∀ w ∈ TBL, w.before args s = true) (hK : KX D cI cB cZ cJ tx s) (hl : Cond.methodLinkNest own index y host ∈ NWs) (h : mS y cc mL ret n) (hR : F + 1 ≤ R.frames ∧ 8 + (mL + 11) + 40 * F ≤ R.locals) : va_CN R s args own index y host cc mL ret (wsY y cc mL ret) (rmX F mc ms) mc ms n ∧ (Cond.static y).before args s = true ∧ True := by
  obtain ⟨⟨h1, h3, h4⟩, h5⟩ := h
  exact ⟨va_cnB n hts (wsY_good h4) rfl rfl rfl (hK.2.2.1 _ hl) (hts _ h3) h5 hR, hts _ h1, trivial⟩
end WORDS
/-! calls: the start -/
theorem pxS {s : State} {H : Heap} {D : va_G} {cI cB cZ cJ : ClassId} {tx : List (ClassId × FieldType)} {A : Nat → Prop} {ws wp : va_W} {av : List Value} (hK : KX D cI cB cZ cJ tx s) (hP : va_P D vwCl ws H) (hD : va_D A ws) (is : List Nat) (hn : va_nd is = true) (hs : is.map (fun i => ws[i]?) = wp.map some) : PreS s H (va_Pc av (PX D cI cB cZ cJ tx wp H.size)) av := by
  have hf : is.filterMap (fun i => ws[i]?) = wp := by
    have h := congrArg (fun l => l.filterMap id) hs
    simpa [List.filterMap_map, Function.comp_def] using h
  exact ⟨px_blind, fun U hU hW => ⟨rfl, by rw [hU], by rw [hU]; exact hP.sub is hf, hK.warm hW, (hD.sub is hn hs).weaken (fun _ _ _ _ => trivial)⟩⟩
theorem px0 {s : State} {H : Heap} {D : va_G} {cI cB cZ cJ : ClassId} {tx : List (ClassId × FieldType)} {av : List Value} (hK : KX D cI cB cZ cJ tx s) : PreS s H (va_Pc av (PX D cI cB cZ cJ tx [] H.size)) av :=
  ⟨px_blind, fun U hU hW => ⟨rfl, by rw [hU], fun k q h => by simp at h, hK.warm hW, ⟨fun i j p q h => by simp at h, fun k q h => by simp at h⟩⟩⟩
/-- one cell alone, by a reader -/
theorem px1 {s : State} {H : Heap} {D : va_G} {cI cB cZ cJ : ClassId} {tx : List (ClassId × FieldType)} {ws : va_W} {q : Nat × va_E} {av : List Value} (hK : KX D cI cB cZ cJ tx s) (hP : va_P D vwCl ws H) (i : Nat) (hs : ws[i]? = some q) : PreS s H (va_Pc av (PX D cI cB cZ cJ tx [q] H.size)) av := by
  refine ⟨px_blind, fun U hU hW => ⟨rfl, by rw [hU], ?_, hK.warm hW, ⟨fun i j p q h1 h2 _ => ?_, fun k q h => trivial⟩⟩⟩
  · rw [hU]
    exact hP.sub [i] (by simp [hs])
  · have a1 := (List.getElem?_eq_some_iff.mp h1).1
    have a2 := (List.getElem?_eq_some_iff.mp h2).1
    simp at a1 a2
    omega
theorem pV {s : State} {H : Heap} {C : String} {b : Nat} {Pc : Array Value → State → Prop} {As : List Value} (hp : PreS s H Pc (.ref b :: As)) {D : va_G} {cI cB cZ cJ : ClassId} {tx : List (ClassId × FieldType)} {ws : va_W} {ci : Nat} {T : u_T} {N : Nat} {fs : List Value} (hK : KX D cI cB cZ cJ tx s) (hP : va_P D vwCl ws H) (q0 : Nat) (hc : vwCl[ci]? = some (C, T, N)) (he : ws[q0]? = some (b, .inr (ci, fs))) : PreV s H C b Pc As := ⟨hp.1, va_recv hK.1 hP hc he, hp.2⟩
/-! calls: the end -/
section ENDS
variable {p : Program} {l : Launch} {e : Env} {R : Room} {s : State} {m : MethodId} {args : Array Value} {below : List Frame} {meth : Method} {c : Code} {H : Heap} {locs : List Loc} {cells slots : Nat} {Q : State → Prop}
variable {pc : Nat} {ls : Array Slot} {rest st0 : List Value} {a : Array Value} {A0 : Nat → Prop} {H0 : Heap} {mc ms : Nat} {D : va_G} {ws : va_W}
theorem kpR {H1 : Heap} (hP : va_P D vwCl ws H) (hk : ∀ q : Nat, q < H.size → ¬ va_A [] H.size q → H1[q]? = H[q]?) : va_P D vwCl ws H1 := hP.kept (fun k q hq => hk q.1 (hP k q hq).lt (fun h => h.elim (fun ⟨k, e, h⟩ => by simp at h) (fun h => absurd h (Nat.not_le.mpr (hP k q hq).lt))))
theorem aR {H0 H : Heap} {locs : List Loc} (hS : va_S A0 H0 H locs) (hA : ∀ q, H0.size ≤ q → A0 q) : ∀ q, va_A [] H.size q → A0 q := fun q h => h.elim (fun ⟨k, e, h⟩ => by simp at h) (fun h => hA q (Nat.le_trans hS.1 h))
theorem eRi {post : Int32 → Prop} (hr : va_Run p l e R s m args below meth c H locs cells slots 0 0 (F0 m pc ls st0) rest (va_Qi (fun r (_ : Unit) => post r) (fun _ _ => True) (va_A [] H.size) a) (va_A [] H.size)) (hP : va_P D vwCl ws H) (hS : va_S A0 H0 H locs) (hA : ∀ q, H0.size ≤ q → A0 q)
    (kk : ∀ (r : Int32) (H1 : Heap) (locs1 : List Loc), post r → va_P D vwCl ws H1 → va_S A0 H0 H1 locs1 → W p l e R s m args below meth c H1 locs1 cells slots Q (F0 m (pc + 3) ls (.int r :: rest))) : W p l e R s m args below meth c H locs cells slots Q (F0 m pc ls st0) :=
  va_calli hr hS (fun q _ h => aR hS hA q h) (aR hS hA) (fun r _ _ H1 locs1 _ _ hw _ _ hk hS => kk r H1 locs1 hw (kpR hP hk) hS)
theorem eRl {post : Int64 → Prop} (hr : va_Run p l e R s m args below meth c H locs cells slots 0 0 (F0 m pc ls st0) rest (va_Ql (fun r (_ : Unit) => post r) (fun _ _ => True) (va_A [] H.size) a) (va_A [] H.size)) (hP : va_P D vwCl ws H) (hS : va_S A0 H0 H locs) (hA : ∀ q, H0.size ≤ q → A0 q)
    (kk : ∀ (r : Int64) (H1 : Heap) (locs1 : List Loc), post r → va_P D vwCl ws H1 → va_S A0 H0 H1 locs1 → W p l e R s m args below meth c H1 locs1 cells slots Q (F0 m (pc + 3) ls (.long r :: rest))) : W p l e R s m args below meth c H locs cells slots Q (F0 m pc ls st0) :=
  va_calll hr hS (fun q _ h => aR hS hA q h) (aR hS hA) (fun r _ _ H1 locs1 _ _ hw _ _ hk hS => kk r H1 locs1 hw (kpR hP hk) hS)
theorem eWi {S : Type} {post : Int32 → S → Prop} {wp wr : va_W} {w1 : S → va_W} (hr : va_Run p l e R s m args below meth c H locs cells slots mc ms (F0 m pc ls st0) rest (va_Qi post (fun u => BX D (va_A wp H.size) (w1 u)) (va_A wp H.size) a) (va_A wp H.size)) (hP : va_P D vwCl ws H) (hD : va_D A0 ws) (hS : va_S A0 H0 H locs) (hA : ∀ q, H0.size ≤ q → A0 q)
    (isC isR : List Nat) (hC : isC.map (fun i => ws[i]?) = wp.map some) (hR : isR.map (fun i => ws[i]?) = wr.map some) (hn : va_nd isR = true) (hdis : ∀ i ∈ isR, i ∉ isC)
    (kk : ∀ (r : Int32) (u : S) (H1 : Heap) (locs1 : List Loc), post r u → va_P D vwCl (wr ++ w1 u) H1 → va_D A0 (wr ++ w1 u) → va_S A0 H0 H1 locs1 → W p l e R s m args below meth c H1 locs1 (cells + mc) (slots + ms) Q (F0 m (pc + 3) ls (.int r :: rest))) : W p l e R s m args below meth c H locs cells slots Q (F0 m pc ls st0) := by
  have hF := va_free hD hS hA isC hC
  refine va_calli hr hS (fun q _ h => hF q h) hF (fun r u t H1 locs1 ht _ hw hB _ hk hS => ?_)
  obtain ⟨hP1, hD1⟩ := hB
  rw [ht] at hP1
  obtain ⟨hP, hD⟩ := va_join hP hD isC isR hC hR hn hdis hk hF hP1 hD1
  exact kk r u H1 locs1 hw hP hD hS
theorem eWl {S : Type} {post : Int64 → S → Prop} {wp wr : va_W} {w1 : S → va_W} (hr : va_Run p l e R s m args below meth c H locs cells slots mc ms (F0 m pc ls st0) rest (va_Ql post (fun u => BX D (va_A wp H.size) (w1 u)) (va_A wp H.size) a) (va_A wp H.size)) (hP : va_P D vwCl ws H) (hD : va_D A0 ws) (hS : va_S A0 H0 H locs) (hA : ∀ q, H0.size ≤ q → A0 q)
    (isC isR : List Nat) (hC : isC.map (fun i => ws[i]?) = wp.map some) (hR : isR.map (fun i => ws[i]?) = wr.map some) (hn : va_nd isR = true) (hdis : ∀ i ∈ isR, i ∉ isC)
    (kk : ∀ (r : Int64) (u : S) (H1 : Heap) (locs1 : List Loc), post r u → va_P D vwCl (wr ++ w1 u) H1 → va_D A0 (wr ++ w1 u) → va_S A0 H0 H1 locs1 → W p l e R s m args below meth c H1 locs1 (cells + mc) (slots + ms) Q (F0 m (pc + 3) ls (.long r :: rest))) : W p l e R s m args below meth c H locs cells slots Q (F0 m pc ls st0) := by
  have hF := va_free hD hS hA isC hC
  refine va_calll hr hS (fun q _ h => hF q h) hF (fun r u t H1 locs1 ht _ hw hB _ hk hS => ?_)
  obtain ⟨hP1, hD1⟩ := hB
  rw [ht] at hP1
  obtain ⟨hP, hD⟩ := va_join hP hD isC isR hC hR hn hdis hk hF hP1 hD1
  exact kk r u H1 locs1 hw hP hD hS
theorem eWv {S : Type} {post : S → Prop} {wp wr : va_W} {w1 : S → va_W} (hr : va_Run p l e R s m args below meth c H locs cells slots mc ms (F0 m pc ls st0) rest (va_Qv post (fun u => BX D (va_A wp H.size) (w1 u)) (va_A wp H.size) a) (va_A wp H.size)) (hP : va_P D vwCl ws H) (hD : va_D A0 ws) (hS : va_S A0 H0 H locs) (hA : ∀ q, H0.size ≤ q → A0 q)
    (isC isR : List Nat) (hC : isC.map (fun i => ws[i]?) = wp.map some) (hR : isR.map (fun i => ws[i]?) = wr.map some) (hn : va_nd isR = true) (hdis : ∀ i ∈ isR, i ∉ isC)
    (kk : ∀ (u : S) (H1 : Heap) (locs1 : List Loc), post u → va_P D vwCl (wr ++ w1 u) H1 → va_D A0 (wr ++ w1 u) → va_S A0 H0 H1 locs1 → W p l e R s m args below meth c H1 locs1 (cells + mc) (slots + ms) Q (F0 m (pc + 3) ls rest)) : W p l e R s m args below meth c H locs cells slots Q (F0 m pc ls st0) := by
  have hF := va_free hD hS hA isC hC
  refine va_callv hr hS (fun q _ h => hF q h) hF (fun u t H1 locs1 ht _ hw hB _ hk hS => ?_)
  obtain ⟨hP1, hD1⟩ := hB
  rw [ht] at hP1
  obtain ⟨hP, hD⟩ := va_join hP hD isC isR hC hR hn hdis hk hF hP1 hD1
  exact kk u H1 locs1 hw hP hD hS
end ENDS
/-! numbers on the stack, truth values -/
abbrev bi (p : Prop) [Decidable p] : Int32 := if p then 1 else 0
section TOPS
variable {p : Program} {l : Launch} {e : Env} {R : Room} {s : State} {m : MethodId} {args : Array Value} {below : List Frame} {meth : Method} {c : Code} {H : Heap} {locs : List Loc} {cells slots : Nat} {Q : State → Prop}
variable {cc : ByteArray} {pc : Nat} {ls : Array Slot} {rest : List Value} {D : va_G} {A : Nat → Prop} {a : Nat} {ws : va_W} {H0 : Heap} {cI cB cZ cJ : ClassId} {tx : List (ClassId × FieldType)}
theorem lv_topv {x y : Int32} (h : x = y) (k : W p l e R s m args below meth c H locs cells slots Q (F0 m pc ls (.int y :: rest))) : W p l e R s m args below meth c H locs cells slots Q (F0 m pc ls (.int x :: rest)) := by rw [h]; exact k
theorem lv_topw {x y : Int64} (h : x = y) (k : W p l e R s m args below meth c H locs cells slots Q (F0 m pc ls (.long y :: rest))) : W p l e R s m args below meth c H locs cells slots Q (F0 m pc ls (.long x :: rest)) := by rw [h]; exact k
theorem lv_topr {x y : Value} (h : x = y) (k : W p l e R s m args below meth c H locs cells slots Q (F0 m pc ls (y :: rest))) : W p l e R s m args below meth c H locs cells slots Q (F0 m pc ls (x :: rest)) := by rw [h]; exact k
theorem lv_bi_ne (hexec : p.tables.exec = Jvm.exec) (hb : c.code = cc) {P : Prop} [Decidable P] {off : Int} {tgt : Nat} (hdg : decode cc pc = .ok (.ifCond .ne off, 3)) (ht : (pc : Int) + off = (tgt : Int))
    (kt : P → W p l e R s m args below meth c H locs cells slots Q (F0 m tgt ls rest)) (kf : ¬ P → W p l e R s m args below meth c H locs cells slots Q (F0 m (pc + 3) ls rest)) : W p l e R s m args below meth c H locs cells slots Q (F0 m pc ls (.int (bi P) :: rest)) :=
  lv_if_ne hexec hb hdg ht (fun h => kt (Decidable.byContradiction fun q => h (if_neg q))) (fun h => kf (fun q => absurd h (by show ¬ (if P then (1 : Int32) else 0) = 0; rw [if_pos q]; decide)))
theorem lv_bi_eq (hexec : p.tables.exec = Jvm.exec) (hb : c.code = cc) {P : Prop} [Decidable P] {off : Int} {tgt : Nat} (hdg : decode cc pc = .ok (.ifCond .eq off, 3)) (ht : (pc : Int) + off = (tgt : Int))
    (kt : ¬ P → W p l e R s m args below meth c H locs cells slots Q (F0 m tgt ls rest)) (kf : P → W p l e R s m args below meth c H locs cells slots Q (F0 m (pc + 3) ls rest)) : W p l e R s m args below meth c H locs cells slots Q (F0 m pc ls (.int (bi P) :: rest)) :=
  lv_if_eq hexec hb hdg ht (fun h => kt (fun q => absurd h (by show ¬ (if P then (1 : Int32) else 0) = 0; rw [if_pos q]; decide))) (fun h => kf (Decidable.byContradiction fun q => h (if_neg q)))
theorem nb_bi {P : Prop} [Decidable P] : narrow .boolean (.int (bi P)) = .int (bi P) := by
  by_cases h : P
  · rw [show bi P = 1 from if_pos h]; decide
  · rw [show bi P = 0 from if_neg h]; decide
/-- stores and loads of rows whose contents nobody asks for -/
theorem st_i (hexec : p.tables.exec = Jvm.exec) (hb : c.code = cc) (hK : KX D cI cB cZ cJ tx s) (hP : va_P D vwCl ws H) (hD : va_D A ws) (hS : va_S A H0 H locs) (q0 : Nat) {n : Nat} {f : Nat → Int32} (ha : ws[q0]? = some (a, .inl (cI, n, .inl f))) {i : Int32} {x : Int32} (hin : vp_in i n) (hdg : decode cc pc = .ok (.iastore, 1))
    (kk : ∀ (f1 : Nat → Int32) (H1 : Heap) (locs1 : List Loc), va_P D vwCl (ws.set q0 (a, .inl (cI, n, .inl f1))) H1 → va_D A (ws.set q0 (a, .inl (cI, n, .inl f1))) → va_S A H0 H1 locs1 → W p l e R s m args below meth c H1 locs1 cells slots Q (F0 m (pc + 1) ls rest)) : W p l e R s m args below meth c H locs cells slots Q (F0 m pc ls (.int x :: .int i :: .ref a :: rest)) :=
  va_iast hexec hb hK.1 hP hD hS q0 0 ha rfl hin hdg (fun H1 locs1 h1 h2 h3 => kk _ H1 locs1 h1 h2 h3)
theorem st_b (hexec : p.tables.exec = Jvm.exec) (hb : c.code = cc) (hK : KX D cI cB cZ cJ tx s) (hP : va_P D vwCl ws H) (hD : va_D A ws) (hS : va_S A H0 H locs) (q0 : Nat) {n : Nat} {f : Nat → Int32} (ha : ws[q0]? = some (a, .inl (cB, n, .inl f))) {i : Int32} {x : Int32} (hin : vp_in i n) (hdg : decode cc pc = .ok (.bastore, 1))
    (kk : ∀ (f1 : Nat → Int32) (H1 : Heap) (locs1 : List Loc), va_P D vwCl (ws.set q0 (a, .inl (cB, n, .inl f1))) H1 → va_D A (ws.set q0 (a, .inl (cB, n, .inl f1))) → va_S A H0 H1 locs1 → W p l e R s m args below meth c H1 locs1 cells slots Q (F0 m (pc + 1) ls rest)) : W p l e R s m args below meth c H locs cells slots Q (F0 m pc ls (.int x :: .int i :: .ref a :: rest)) :=
  va_bast hexec hb hK.1 hP hD hS q0 1 ha rfl hin hdg (fun H1 locs1 h1 h2 h3 => kk _ H1 locs1 h1 h2 h3)
theorem st_z (hexec : p.tables.exec = Jvm.exec) (hb : c.code = cc) (hK : KX D cI cB cZ cJ tx s) (hP : va_P D vwCl ws H) (hD : va_D A ws) (hS : va_S A H0 H locs) (q0 : Nat) {n : Nat} {f : Nat → Int32} (ha : ws[q0]? = some (a, .inl (cZ, n, .inl f))) {i : Int32} {x : Int32} (hin : vp_in i n) (hdg : decode cc pc = .ok (.bastore, 1))
    (kk : ∀ (f1 : Nat → Int32) (H1 : Heap) (locs1 : List Loc), va_P D vwCl (ws.set q0 (a, .inl (cZ, n, .inl f1))) H1 → va_D A (ws.set q0 (a, .inl (cZ, n, .inl f1))) → va_S A H0 H1 locs1 → W p l e R s m args below meth c H1 locs1 cells slots Q (F0 m (pc + 1) ls rest)) : W p l e R s m args below meth c H locs cells slots Q (F0 m pc ls (.int x :: .int i :: .ref a :: rest)) :=
  va_zast hexec hb hK.1 hP hD hS q0 2 ha rfl hin hdg (fun H1 locs1 h1 h2 h3 => kk _ H1 locs1 h1 h2 h3)
theorem ld_i (hexec : p.tables.exec = Jvm.exec) (hb : c.code = cc) (hK : KX D cI cB cZ cJ tx s) (hP : va_P D vwCl ws H) (q0 : Nat) {n : Nat} {f : Nat → Int32} (ha : ws[q0]? = some (a, .inl (cI, n, .inl f))) {i : Int32} (hin : vp_in i n) (hdg : decode cc pc = .ok (.iaload, 1))
    (kk : ∀ x : Int32, W p l e R s m args below meth c H locs cells slots Q (F0 m (pc + 1) ls (.int x :: rest))) : W p l e R s m args below meth c H locs cells slots Q (F0 m pc ls (.int i :: .ref a :: rest)) :=
  va_iald hexec hb hK.1 hP q0 0 ha rfl hin hdg (kk _)
/-- loads of rows of noughts -/
theorem l0_i (hexec : p.tables.exec = Jvm.exec) (hb : c.code = cc) (hK : KX D cI cB cZ cJ tx s) (hP : va_P D vwCl ws H) (q0 : Nat) {n : Nat} (ha : ws[q0]? = some (a, .inl (cI, n, .inl (fun _ => 0)))) {i : Int32} (hin : vp_in i n) (hdg : decode cc pc = .ok (.iaload, 1))
    (kk : W p l e R s m args below meth c H locs cells slots Q (F0 m (pc + 1) ls (.int 0 :: rest))) : W p l e R s m args below meth c H locs cells slots Q (F0 m pc ls (.int i :: .ref a :: rest)) :=
  va_iald hexec hb hK.1 hP q0 0 ha rfl hin hdg kk
theorem l0_z (hexec : p.tables.exec = Jvm.exec) (hb : c.code = cc) (hK : KX D cI cB cZ cJ tx s) (hP : va_P D vwCl ws H) (q0 : Nat) {n : Nat} (ha : ws[q0]? = some (a, .inl (cZ, n, .inl (fun _ => 0)))) {i : Int32} (hin : vp_in i n) (hdg : decode cc pc = .ok (.baload, 1))
    (kk : W p l e R s m args below meth c H locs cells slots Q (F0 m (pc + 1) ls (.int 0 :: rest))) : W p l e R s m args below meth c H locs cells slots Q (F0 m pc ls (.int i :: .ref a :: rest)) :=
  va_zald hexec hb hK.1 hP q0 2 ha rfl hin hdg kk
theorem ln_x (hexec : p.tables.exec = Jvm.exec) (hb : c.code = cc) (hK : KX D cI cB cZ cJ tx s) (hP : va_P D vwCl ws H) (q0 t0 : Nat) {cA : ClassId} {x : vp_A} (ha : ws[q0]? = some (a, .inl (cA, x))) {ty : FieldType} (ht : (TYS cI cB cZ cJ tx)[t0]? = some (cA, ty)) {v : Int32} (hv : Int32.ofNat x.1 = v) (hdg : decode cc pc = .ok (.arraylength, 1))
    (kk : W p l e R s m args below meth c H locs cells slots Q (F0 m (pc + 1) ls (.int v :: rest))) : W p l e R s m args below meth c H locs cells slots Q (F0 m pc ls (.ref a :: rest)) := va_alen hexec hb hK.1 hP q0 t0 ha ht hv hdg kk
/-- new rows, of the class that is known -/
theorem nw_a (hexec : p.tables.exec = Jvm.exec) (hb : c.code = cc) {atype : ArrayType} (harr : (Cond.arrayClass (newarray.typeOf atype)).before args s = true) {ty : FieldType} (hty : newarray.typeOf atype = ty) {cA : ClassId} (hcA : s.vm.findClass ("[" ++ ty.toString) = some cA) (hP : va_P D vwCl ws H) (hD : va_D A ws) (hS : va_S A H0 H locs) (hA : ∀ q, H0.size ≤ q → A q)
    {n : Int32} {N' : Nat} {a0 : vp_A} (ha : ∀ cA : ClassId, vp_cell cA a0 = arrV cA N' (fun _ => defaultValue ty)) (hn : ¬ n < 0) (hN : n.toNatClampNeg = N') (hbytes : N' * componentBytes ty ≤ 536870912) (hcells : cells + 1 ≤ R.cells) (hslots : slots + N' ≤ R.slots) (hdg : decode cc pc = .ok (.newarray atype, 2))
    (kk : ∀ (q : Nat) (H1 : Heap), va_P D vwCl (ws ++ [(q, .inl (cA, a0))]) H1 → va_D A (ws ++ [(q, .inl (cA, a0))]) → va_S A H0 H1 locs →
      W p l e R s m args below meth c H1 locs (cells + 1) (slots + N') Q (F0 m (pc + 2) ls (.ref q :: rest))) : W p l e R s m args below meth c H locs cells slots Q (F0 m pc ls (.int n :: rest)) := by
  subst hty
  refine va_newaK hexec hb harr (g := F0 m pc ls (.int n :: rest)) rfl hdg rfl hn hN hbytes hcells hslots rfl (fun H1 cA' e1 z1 o1 _ hc => ?_)
  have hcc : cA' = cA := Option.some.inj (hc.symm.trans hcA)
  subst hcc
  have hk : ∀ (k : Nat) (x : Nat × va_E), ws[k]? = some x → H1[x.1]? = H[x.1]? := fun k x hx => o1 x.1 ((hP k x hx).lt)
  refine kk H.size H1 ((hP.kept hk).app (fun k x hx => ?_)) (hD.push hP rfl (hA _ hS.1)) ⟨Nat.le_trans hS.1 (by omega), fun x h1 h2 => (o1 x (Nat.lt_of_lt_of_le h1 hS.1)).trans (hS.2.1 x h1 h2), hS.2.2⟩
  have hz : k < 1 := (List.getElem?_eq_some_iff.mp hx).1
  rw [show k = 0 by omega] at hx
  cases hx
  show H1[H.size]? = some (vp_cell _ _)
  rw [ha]
  exact e1
end TOPS
theorem bx0 {D : va_G} {A : Nat → Prop} {t : State} : BX D A [] t := ⟨fun k q h => by simp at h, fun i j p q h => by simp at h, fun k q h => by simp at h⟩
theorem w32_le {a b : Int32} : a.toInt64 ≤ b.toInt64 ↔ a ≤ b := by rw [Int64.le_iff_toInt_le, Int32.le_iff_toInt_le, Int32.toInt_toInt64, Int32.toInt_toInt64]
theorem isIn32 {r x lo hi : Int32} {Lo Hi : Int64} (h1 : lo.toInt64 = Lo) (h2 : hi.toInt64 = Hi) (h : r = bi (Lo ≤ x.toInt64 ∧ x.toInt64 ≤ Hi)) : r = bi (lo ≤ x ∧ x ≤ hi) := by
  rw [h, ← h1, ← h2]
  simp only [bi, w32_le]
theorem in_0 {w : Cond} (i : Nat) (h : tables_1_1[i]? = some w) (hg : goodWord w = true) : w ∈ TBL := List.mem_filter.mpr ⟨by have h := List.mem_of_getElem? h; exact List.mem_append_right _ (List.mem_append_left _ h), hg⟩
theorem im_0 {w : Cond} (i : Nat) (h : tables_1_1[i]? = some w) (hg : wNest w = true) : w ∈ NWs := List.mem_filter.mpr ⟨by have h := List.mem_of_getElem? h; exact List.mem_append_right _ (List.mem_append_left _ h), hg⟩
theorem in_1 {w : Cond} (i : Nat) (h : tables_1_2[i]? = some w) (hg : goodWord w = true) : w ∈ TBL := List.mem_filter.mpr ⟨by have h := List.mem_of_getElem? h; exact List.mem_append_right _ (List.mem_append_right _ (List.mem_append_left _ h)), hg⟩
theorem im_1 {w : Cond} (i : Nat) (h : tables_1_2[i]? = some w) (hg : wNest w = true) : w ∈ NWs := List.mem_filter.mpr ⟨by have h := List.mem_of_getElem? h; exact List.mem_append_right _ (List.mem_append_right _ (List.mem_append_left _ h)), hg⟩
theorem in_2 {w : Cond} (i : Nat) (h : tables_1_3[i]? = some w) (hg : goodWord w = true) : w ∈ TBL := List.mem_filter.mpr ⟨by have h := List.mem_of_getElem? h; exact List.mem_append_right _ (List.mem_append_right _ (List.mem_append_right _ (List.mem_append_left _ h))), hg⟩
theorem im_2 {w : Cond} (i : Nat) (h : tables_1_3[i]? = some w) (hg : wNest w = true) : w ∈ NWs := List.mem_filter.mpr ⟨by have h := List.mem_of_getElem? h; exact List.mem_append_right _ (List.mem_append_right _ (List.mem_append_right _ (List.mem_append_left _ h))), hg⟩
theorem in_3 {w : Cond} (i : Nat) (h : tables_1_4[i]? = some w) (hg : goodWord w = true) : w ∈ TBL := List.mem_filter.mpr ⟨by have h := List.mem_of_getElem? h; exact List.mem_append_right _ (List.mem_append_right _ (List.mem_append_right _ (List.mem_append_right _ (List.mem_append_left _ h)))), hg⟩
theorem im_3 {w : Cond} (i : Nat) (h : tables_1_4[i]? = some w) (hg : wNest w = true) : w ∈ NWs := List.mem_filter.mpr ⟨by have h := List.mem_of_getElem? h; exact List.mem_append_right _ (List.mem_append_right _ (List.mem_append_right _ (List.mem_append_right _ (List.mem_append_left _ h)))), hg⟩
theorem in_4 {w : Cond} (i : Nat) (h : tables_1_5[i]? = some w) (hg : goodWord w = true) : w ∈ TBL := List.mem_filter.mpr ⟨by have h := List.mem_of_getElem? h; exact List.mem_append_right _ (List.mem_append_right _ (List.mem_append_right _ (List.mem_append_right _ (List.mem_append_right _ (List.mem_append_left _ h))))), hg⟩
theorem im_4 {w : Cond} (i : Nat) (h : tables_1_5[i]? = some w) (hg : wNest w = true) : w ∈ NWs := List.mem_filter.mpr ⟨by have h := List.mem_of_getElem? h; exact List.mem_append_right _ (List.mem_append_right _ (List.mem_append_right _ (List.mem_append_right _ (List.mem_append_right _ (List.mem_append_left _ h))))), hg⟩
theorem in_5 {w : Cond} (i : Nat) (h : tables_1_6[i]? = some w) (hg : goodWord w = true) : w ∈ TBL := List.mem_filter.mpr ⟨by have h := List.mem_of_getElem? h; exact List.mem_append_right _ (List.mem_append_right _ (List.mem_append_right _ (List.mem_append_right _ (List.mem_append_right _ (List.mem_append_right _ (List.mem_append_left _ h)))))), hg⟩
theorem im_5 {w : Cond} (i : Nat) (h : tables_1_6[i]? = some w) (hg : wNest w = true) : w ∈ NWs := List.mem_filter.mpr ⟨by have h := List.mem_of_getElem? h; exact List.mem_append_right _ (List.mem_append_right _ (List.mem_append_right _ (List.mem_append_right _ (List.mem_append_right _ (List.mem_append_right _ (List.mem_append_left _ h)))))), hg⟩
theorem in_6 {w : Cond} (i : Nat) (h : tables_1_7[i]? = some w) (hg : goodWord w = true) : w ∈ TBL := List.mem_filter.mpr ⟨by have h := List.mem_of_getElem? h; exact List.mem_append_right _ (List.mem_append_right _ (List.mem_append_right _ (List.mem_append_right _ (List.mem_append_right _ (List.mem_append_right _ (List.mem_append_right _ (List.mem_append_left _ h))))))), hg⟩
theorem im_6 {w : Cond} (i : Nat) (h : tables_1_7[i]? = some w) (hg : wNest w = true) : w ∈ NWs := List.mem_filter.mpr ⟨by have h := List.mem_of_getElem? h; exact List.mem_append_right _ (List.mem_append_right _ (List.mem_append_right _ (List.mem_append_right _ (List.mem_append_right _ (List.mem_append_right _ (List.mem_append_right _ (List.mem_append_left _ h))))))), hg⟩
theorem in_7 {w : Cond} (i : Nat) (h : tables_1_8[i]? = some w) (hg : goodWord w = true) : w ∈ TBL := List.mem_filter.mpr ⟨by have h := List.mem_of_getElem? h; exact List.mem_append_right _ (List.mem_append_right _ (List.mem_append_right _ (List.mem_append_right _ (List.mem_append_right _ (List.mem_append_right _ (List.mem_append_right _ (List.mem_append_right _ (List.mem_append_left _ h)))))))), hg⟩
theorem im_7 {w : Cond} (i : Nat) (h : tables_1_8[i]? = some w) (hg : wNest w = true) : w ∈ NWs := List.mem_filter.mpr ⟨by have h := List.mem_of_getElem? h; exact List.mem_append_right _ (List.mem_append_right _ (List.mem_append_right _ (List.mem_append_right _ (List.mem_append_right _ (List.mem_append_right _ (List.mem_append_right _ (List.mem_append_right _ (List.mem_append_left _ h)))))))), hg⟩
theorem in_8 {w : Cond} (i : Nat) (h : tables_1_9[i]? = some w) (hg : goodWord w = true) : w ∈ TBL := List.mem_filter.mpr ⟨by have h := List.mem_of_getElem? h; exact List.mem_append_right _ (List.mem_append_right _ (List.mem_append_right _ (List.mem_append_right _ (List.mem_append_right _ (List.mem_append_right _ (List.mem_append_right _ (List.mem_append_right _ (List.mem_append_right _ h)))))))), hg⟩
theorem im_8 {w : Cond} (i : Nat) (h : tables_1_9[i]? = some w) (hg : wNest w = true) : w ∈ NWs := List.mem_filter.mpr ⟨by have h := List.mem_of_getElem? h; exact List.mem_append_right _ (List.mem_append_right _ (List.mem_append_right _ (List.mem_append_right _ (List.mem_append_right _ (List.mem_append_right _ (List.mem_append_right _ (List.mem_append_right _ (List.mem_append_right _ h)))))))), hg⟩
section OPEN2
variable {l : Launch} {D : va_G} {cI cB cZ cJ : ClassId} {tx : List (ClassId × FieldType)} {y : MethodName} {cc : ByteArray} {mL : Nat} {ret : Option FieldType} {F mc ms : Nat} {av : List Value} {ws : va_W}
theorem rdi_of2 {post : Int32 → Prop} (hy : plainName y.cls = true) (hn : (lg_sl av).length ≤ mL) (body : ∀ (p : Program) (e : Env) (s : State) (m : MethodId) (below : List Frame) (meth : Method) (c : Code) (A : Nat → Prop) (ls : Array Slot) (H : Heap) (locs : List Loc), CTX p s m meth c av.toArray y cc mL ret → KX D cI cB cZ cJ tx s → va_P D vwCl ws H → va_D (fun _ => True) ws → (∀ q : Nat, s.heap.size ≤ q → A q) → va_S A s.heap H locs → lv_has ls mL (lv_args 0 av) →
    W p l e (rmX F 0 0) s m av.toArray below meth c H locs 0 0 (MQ below (va_Qi (fun r (_ : Unit) => post r) (fun _ _ => True) A) av.toArray s 0 0 A) (F0 m 0 ls [])) : RdI l D cI cB cZ cJ tx y cc mL ret F av ws post :=
  rdi_of hy hn (fun p e s m below meth c A ls hC hK hP hD hA hS hl => body p e s m below meth c A ls s.heap [] hC hK hP hD hA hS hl)
theorem rdl_of2 {post : Int64 → Prop} (hy : plainName y.cls = true) (hn : (lg_sl av).length ≤ mL) (body : ∀ (p : Program) (e : Env) (s : State) (m : MethodId) (below : List Frame) (meth : Method) (c : Code) (A : Nat → Prop) (ls : Array Slot) (H : Heap) (locs : List Loc), CTX p s m meth c av.toArray y cc mL ret → KX D cI cB cZ cJ tx s → va_P D vwCl ws H → va_D (fun _ => True) ws → (∀ q : Nat, s.heap.size ≤ q → A q) → va_S A s.heap H locs → lv_has ls mL (lv_args 0 av) →
    W p l e (rmX F 0 0) s m av.toArray below meth c H locs 0 0 (MQ below (va_Ql (fun r (_ : Unit) => post r) (fun _ _ => True) A) av.toArray s 0 0 A) (F0 m 0 ls [])) : RdL l D cI cB cZ cJ tx y cc mL ret F av ws post :=
  rdl_of hy hn (fun p e s m below meth c A ls hC hK hP hD hA hS hl => body p e s m below meth c A ls s.heap [] hC hK hP hD hA hS hl)
theorem wri_of2 {S : Type} {post : Int32 → S → Prop} {w1 : S → va_W} (hy : plainName y.cls = true) (hn : (lg_sl av).length ≤ mL) (body : ∀ (p : Program) (e : Env) (s : State) (m : MethodId) (below : List Frame) (meth : Method) (c : Code) (A : Nat → Prop) (ls : Array Slot) (H : Heap) (locs : List Loc), CTX p s m meth c av.toArray y cc mL ret → KX D cI cB cZ cJ tx s → va_P D vwCl ws H → va_D A ws → (∀ q : Nat, s.heap.size ≤ q → A q) → va_S A s.heap H locs → lv_has ls mL (lv_args 0 av) →
    W p l e (rmX F mc ms) s m av.toArray below meth c H locs 0 0 (MQ below (va_Qi post (fun u => BX D A (w1 u)) A) av.toArray s mc ms A) (F0 m 0 ls [])) : WrI l D cI cB cZ cJ tx y cc mL ret F mc ms av ws post w1 :=
  wri_of hy hn (fun p e s m below meth c A ls hC hK hP hD hA hS hl => body p e s m below meth c A ls s.heap [] hC hK hP hD hA hS hl)
theorem wrl_of2 {S : Type} {post : Int64 → S → Prop} {w1 : S → va_W} (hy : plainName y.cls = true) (hn : (lg_sl av).length ≤ mL) (body : ∀ (p : Program) (e : Env) (s : State) (m : MethodId) (below : List Frame) (meth : Method) (c : Code) (A : Nat → Prop) (ls : Array Slot) (H : Heap) (locs : List Loc), CTX p s m meth c av.toArray y cc mL ret → KX D cI cB cZ cJ tx s → va_P D vwCl ws H → va_D A ws → (∀ q : Nat, s.heap.size ≤ q → A q) → va_S A s.heap H locs → lv_has ls mL (lv_args 0 av) →
    W p l e (rmX F mc ms) s m av.toArray below meth c H locs 0 0 (MQ below (va_Ql post (fun u => BX D A (w1 u)) A) av.toArray s mc ms A) (F0 m 0 ls [])) : WrL l D cI cB cZ cJ tx y cc mL ret F mc ms av ws post w1 :=
  wrl_of hy hn (fun p e s m below meth c A ls hC hK hP hD hA hS hl => body p e s m below meth c A ls s.heap [] hC hK hP hD hA hS hl)
theorem wrv_of2 {S : Type} {post : S → Prop} {w1 : S → va_W} (hy : plainName y.cls = true) (hn : (lg_sl av).length ≤ mL) (body : ∀ (p : Program) (e : Env) (s : State) (m : MethodId) (below : List Frame) (meth : Method) (c : Code) (A : Nat → Prop) (ls : Array Slot) (H : Heap) (locs : List Loc), CTX p s m meth c av.toArray y cc mL ret → KX D cI cB cZ cJ tx s → va_P D vwCl ws H → va_D A ws → (∀ q : Nat, s.heap.size ≤ q → A q) → va_S A s.heap H locs → lv_has ls mL (lv_args 0 av) →
    W p l e (rmX F mc ms) s m av.toArray below meth c H locs 0 0 (MQ below (va_Qv post (fun u => BX D A (w1 u)) A) av.toArray s mc ms A) (F0 m 0 ls [])) : WrV l D cI cB cZ cJ tx y cc mL ret F mc ms av ws post w1 :=
  wrv_of hy hn (fun p e s m below meth c A ls hC hK hP hD hA hS hl => body p e s m below meth c A ls s.heap [] hC hK hP hD hA hS hl)
end OPEN2
theorem bi_no {n lo hi : Int32} (h : hi < lo) : bi (lo ≤ n ∧ n ≤ hi) = 0 := if_neg (fun q => by
  have h1 := Int32.lt_iff_toInt_lt.mp h
  have h2 := Int32.le_iff_toInt_le.mp q.1
  have h3 := Int32.le_iff_toInt_le.mp q.2
  omega)
theorem vp_in1 {x M : Int32} (N : Nat) (hN : N < 2 ^ 31) (hM : M.toInt + 1 = N) (h : 0 ≤ x ∧ x ≤ M) : vp_in x N := by
  rw [vp_in_iff]
  have h2 := Int32.le_iff_toInt_le.mp h.1
  have h3 := Int32.le_iff_toInt_le.mp h.2
  have h4 : (0 : Int32).toInt = 0 := by decide
  omega
theorem of_in {x M : Int32} (N : Nat) (hM : M.toInt = N) (h : 0 ≤ x ∧ x ≤ M) : ∃ j : Nat, j ≤ N ∧ x = nI j := by
  refine nI_of2 (M := M) hM (fun q => ?_) h.2
  have h2 := Int32.le_iff_toInt_le.mp h.1
  have h3 := Int32.lt_iff_toInt_lt.mp q
  have h4 : (0 : Int32).toInt = 0 := by decide
  omega
theorem vp_in2 {x y X Y w : Int32} (B A W N : Nat) (hN : N < 2 ^ 31) (h : A * W + B < N) (hX : X.toInt = A) (hY : Y.toInt = B) (hw : w = nI W) (hx : 0 ≤ x ∧ x ≤ X) (hy : 0 ≤ y ∧ y ≤ Y) : vp_in (x * w + y) N := by
  obtain ⟨j, hj, rfl⟩ := of_in A hX hx
  obtain ⟨k, hk, rfl⟩ := of_in B hY hy
  subst hw
  rw [pk_mul, nI_add]
  exact vp_in_nI (Nat.lt_of_le_of_lt (Nat.add_le_add (Nat.mul_le_mul_right W hj) hk) h) hN
theorem vp_in3 {x y X Y w : Int32} (B A W N : Nat) (hN : N < 2 ^ 31) (h : A * W + B < N) (hX : X.toInt = A) (hY : Y.toInt = B) (hw : w = nI W) (hx : 0 ≤ x ∧ x ≤ X) (hy : 0 ≤ y ∧ y ≤ Y) : vp_in (w * x + y) N := by
  rw [Int32.mul_comm]
  exact vp_in2 B A W N hN h hX hY hw hx hy
theorem Int32_and_m1 (x : Int32) : x &&& (-1) = x := by
  apply Int32.toBitVec_inj.mp
  rw [Int32.toBitVec_and, show (-1 : Int32).toBitVec = BitVec.allOnes 32 from by decide, BitVec.and_allOnes]
theorem fa_ne {x k : Int32} : (¬ x = k) ↔ x.toInt ≠ k.toInt := ⟨fun h q => h (Int32.toInt_inj.mp q), fun h q => h (by rw [q])⟩
def sp_count (n : Int32) : Int32 := if n = 3 then 1 else if 0 ≤ n ∧ n ≤ 9 then 0 else -1
theorem in_nI {f n : Nat} (h : f < n) (hn : n < 2 ^ 31) : (0 : Int32) ≤ nI f ∧ nI f ≤ nI n - 1 := by
  refine ⟨nI_pos' (by omega), ?_⟩
  rw [show (1 : Int32) = nI 1 from rfl, pk_sub (by omega)]
  exact nI_le (by omega) (by omega)
theorem in_nI1 {d : Nat} (h : d < 2) : (0 : Int32) ≤ nI d ∧ nI d ≤ 1 := ⟨nI_pos' (by omega), nI_le (b := 1) (by omega) (by omega)⟩
theorem of_rng {x lo hi : Int32} (L U : Nat) (hl : lo.toInt = L) (hu : hi.toInt = U) (h : lo ≤ x ∧ x ≤ hi) : ∃ j : Nat, L ≤ j ∧ j ≤ U ∧ x = nI j := by
  have h1 := Int32.le_iff_toInt_le.mp h.1
  have h2 := Int32.le_iff_toInt_le.mp h.2
  obtain ⟨j, hj, e⟩ := nI_of (x := x) (fun q => by
    have h3 := Int32.lt_iff_toInt_lt.mp q
    have h4 : (0 : Int32).toInt = 0 := by decide
    omega)
  subst e
  rw [nI_toInt hj] at h1 h2
  exact ⟨j, by omega, by omega, rfl⟩
theorem of_within {x : Int32} {n : Nat} (hn : n < 2 ^ 31) (h : 0 ≤ x ∧ x ≤ nI n - 1) : ∃ j : Nat, j < n ∧ x = nI j := by
  have h1 := Int32.le_iff_toInt_le.mp h.1
  have h2 := Int32.le_iff_toInt_le.mp h.2
  have h4 : (0 : Int32).toInt = 0 := by decide
  obtain ⟨j, hj, e⟩ := nI_of (x := x) (fun q => by
    have h3 := Int32.lt_iff_toInt_lt.mp q
    omega)
  subst e
  rcases Nat.eq_zero_or_pos n with z | z
  · subst z
    rw [show nI 0 - 1 = (-1 : Int32) from by decide] at h2
    have h5 : (-1 : Int32).toInt = -1 := by decide
    omega
  · rw [show (1 : Int32) = nI 1 from rfl, pk_sub (by omega), nI_toInt hj, nI_toInt (by omega)] at h2
    exact ⟨j, by omega, rfl⟩
