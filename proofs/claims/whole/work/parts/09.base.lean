/-! the frame of all contracts: one world of cells, the tables' words, what may be written -/
/-- what the tables say of casts: the classes of things -/
def bx_Ca (U : State) : Prop := va_Nw (.castable RX0 RX0) U ∧ va_Nw (.castable RX0 RX3) U ∧ va_Nw (.castable RX1 RX1) U ∧ va_Nw (.castable RX1 RX3) U ∧ va_Nw (.castable RX2 RX0) U ∧ va_Nw (.castable RX2 RX2) U ∧ va_Nw (.castable RX2 RX3) U ∧ va_Nc RX1 RX0 U ∧ va_Nc RX0 RX2 U ∧ va_Nc RX1 RX2 U ∧ va_Nc RX0 RX1 U ∧ va_Nc RX2 RX1 U ∧ va_Nw (.declares ⟨RX3, "sortNumber", "()I"⟩) U ∧ va_Nw (.declares ⟨RX3, "wearSoFar", "()I"⟩) U
theorem bx_Ca.warm {s U : State} (hW : s.WarmedH U.vm) (h : bx_Ca s) : bx_Ca U := by
  obtain ⟨h1, h2, h3, h4, h5, h6, h7, n1, n2, n3, n4, n5, n6, n7⟩ := h
  exact ⟨h1.warmC hW, h2.warmC hW, h3.warmC hW, h4.warmC hW, h5.warmC hW, h6.warmC hW, h7.warmC hW, n1.moved hW.alike, n2.moved hW.alike, n3.moved hW.alike, n4.moved hW.alike, n5.moved hW.alike, n6.warmD hW, n7.warmD hW⟩
theorem bx_Ca.same {s U : State} (e : s.vm = U.vm) (h : bx_Ca s) : bx_Ca U := by
  obtain ⟨h1, h2, h3, h4, h5, h6, h7, n1, n2, n3, n4, n5, n6, n7⟩ := h
  have ha : s.vm.Alike U.vm := by rw [e]; exact Vm.Alike.refl _
  exact ⟨h1.same rfl e, h2.same rfl e, h3.same rfl e, h4.same rfl e, h5.same rfl e, h6.same rfl e, h7.same rfl e, n1.moved ha, n2.moved ha, n3.moved ha, n4.moved ha, n5.moved ha, n6.same rfl e, n7.same rfl e⟩
/-- the classes of arrays that the worlds hold -/
abbrev bx_T : Type := ClassId × ClassId × ClassId
def bx_tys (t : bx_T) : List (ClassId × FieldType) := [(t.1, .int), (t.2.1, .object RX3), (t.2.2, .object RX0)]
def bx_K (D : va_G) (t : bx_T) (U : State) : Prop := va_K D vwCl (bx_tys t) U ∧ bx_Ca U
theorem bx_K.warm {D : va_G} {t : bx_T} {s U : State} (hW : s.WarmedH U.vm) (h : bx_K D t s) : bx_K D t U := ⟨h.1.moved hW.alike, h.2.warm hW⟩
theorem bx_K.same {D : va_G} {t : bx_T} {s U : State} (e : s.vm = U.vm) (h : bx_K D t s) : bx_K D t U := ⟨h.1.moved (by rw [e]; exact Vm.Alike.refl _), h.2.same e⟩
/-- a world before a call, and behind it -/
def bx_I (D : va_G) (t : bx_T) (A : Nat → Prop) (w : va_W) (U : State) : Prop := va_P D vwCl w U.heap ∧ va_D A w ∧ bx_K D t U ∧ ∀ q, U.heap.size ≤ q → A q
def bx_J (D : va_G) (A : Nat → Prop) (w : va_W) (U : State) : Prop := va_P D vwCl w U.heap ∧ va_D A w
theorem bx_blind {D : va_G} {t : bx_T} {A : Nat → Prop} {w : va_W} {av : List Value} : FrameBlind (va_Pc av (bx_I D t A w)) := fun a U g mk q => by
  obtain ⟨q0, qP, qD, qK, qA⟩ := q
  exact ⟨q0, qP, qD, qK.same (U := U.calling g mk a) rfl, qA⟩
/-- a contract: the answer is an int (a boolean), nothing, a reference or null -/
abbrev bx_Ci (l : Launch) (y : MethodName) (ws : List Cond) (rm : Room) (D : va_G) (t : bx_T) (A : Nat → Prop) (av : List Value) (w : va_W) {S : Type} (post : Int32 → S → Prop) (wf : S → va_W) (mc ms : Nat) : Prop := Met l y ws rm (va_Pc av (bx_I D t A w)) (va_Qi post (fun u U => bx_J D A (wf u) U) A) mc ms A
abbrev bx_Cv (l : Launch) (y : MethodName) (ws : List Cond) (rm : Room) (D : va_G) (t : bx_T) (A : Nat → Prop) (av : List Value) (w : va_W) {S : Type} (post : S → Prop) (wf : S → va_W) (mc ms : Nat) : Prop := Met l y ws rm (va_Pc av (bx_I D t A w)) (va_Qv post (fun u U => bx_J D A (wf u) U) A) mc ms A
abbrev bx_Cq (l : Launch) (y : MethodName) (ws : List Cond) (rm : Room) (D : va_G) (t : bx_T) (A : Nat → Prop) (av : List Value) (w : va_W) {S : Type} (post : Option Nat → S → Prop) (wf : S → va_W) (mc ms : Nat) : Prop := Met l y ws rm (va_Pc av (bx_I D t A w)) (va_Qq post (fun u U => bx_J D A (wf u) U) A) mc ms A
/-- what stands inside a method -/
def bx_E (p : Program) (m : MethodId) (c : Code) (cc : ByteArray) (nL : Nat) (s : State) (args : Array Value) (Ts : List Cond) (own : String) (D : va_G) (t : bx_T) (A : Nat → Prop) : Prop := CallFix p m c cc nL s args Ts own ∧ bx_K D t s ∧ ∀ q, s.heap.size ≤ q → A q
def bx_M (D : va_G) (A : Nat → Prop) (s : State) (w : va_W) (H : Heap) (locs : List Loc) : Prop := va_P D vwCl w H ∧ va_D A w ∧ va_S A s.heap H locs
section BXA
variable {p : Program} {l : Launch} {e : Env} {R : Room} {s : State} {m : MethodId} {args : Array Value} {below : List Frame} {meth : Method} {c : Code} {H : Heap} {locs : List Loc} {cells slots : Nat} {Q : State → Prop}
variable {cc bytes : ByteArray} {nL maxL n mc ms index pc : Nat} {Ts ws ws' : List Cond} {own C : String} {D : va_G} {t : bx_T} {A : Nat → Prop} {w : va_W} {y : MethodName} {ret : Option FieldType} {rm : Room} {ls : Array Slot} {rest st0 As av : List Value} {b : Addr} {S : Type} {wf : S → va_W}
theorem bx_enter {Qc : Array Value → State → Outcome → State → Prop} (hy : plainName y.cls = true) (hw : ws = Cond.code y cc maxL ret :: ws') (hn : (lg_sl av).length ≤ maxL)
    (body : ∀ (p : Program) (e : Env) (s : State) (m : MethodId) (below : List Frame) (meth : Method) (c : Code) (ls : Array Slot), bx_E p m c cc maxL s av.toArray ws y.cls D t A → meth.sig.returnType = ret → meth.locks = false → (y.name = "<init>" → meth.name = "<init>") → bx_M D A s w s.heap [] → lv_has ls maxL (lv_args 0 av) →
      W p l e rm s m av.toArray below meth c s.heap [] 0 0 (MQ below Qc av.toArray s mc ms A) (F0 m 0 ls [])) : Met l y ws rm (va_Pc av (bx_I D t A w)) Qc mc ms A := by
  refine Met.ofW (cc := cc) (maxL := maxL) (ret := ret) hy hw ?_
  intro p e s m args below meth c s₁ B hml hv
  obtain ⟨rfl, hP, hD, hK, hA⟩ := hv
  have hl := lv_entry av (n := maxL) hn
  rw [lg_entry_eq]
  exact body p e s m below meth c _ ⟨⟨B.exec, B.bytes, hml, findClass_of_methodNamed B.named, atoms_spec (ws := ws) B.pre⟩, hK, hA⟩ B.returns B.notSynchronized (fun h => (name_of_methodNamed B.named B.method).1.trans h) ⟨hP, hD, va_S.rf⟩ hl
theorem bx_reti {post : Int32 → S → Prop} {r : Int32} (E : bx_E p m c cc nL s args Ts own D t A) (hr : meth.sig.returnType = some .int) (hlk : meth.locks = false) (hM : bx_M D A s w H locs) (u : S) (hw : wf u = w) (hp : post r u) (hdg : decode cc pc = .ok (.ireturn, 1)) :
    W p l e R s m args below meth c H locs cells slots (MQ below (va_Qi post (fun u U => bx_J D A (wf u) U) A) args s cells slots A) (F0 m pc ls [.int r]) :=
  W.iret (v := r) E.1.1 E.1.2.1 hr (fun t ht _ => ⟨⟨r, u, rfl, hp, by rw [ht, hw]; exact hM.1, by rw [hw]; exact hM.2.1⟩, hM.2.2.F ht⟩) hM.2.2.2.2 hdg hlk
theorem bx_retz {post : Int32 → S → Prop} {r : Int32} (E : bx_E p m c cc nL s args Ts own D t A) (hr : meth.sig.returnType = some .boolean) (hlk : meth.locks = false) (hM : bx_M D A s w H locs) (u : S) (hw : wf u = w) (hp : post r u) (hz : r = 1 ∨ r = 0) (hdg : decode cc pc = .ok (.ireturn, 1)) :
    W p l e R s m args below meth c H locs cells slots (MQ below (va_Qi post (fun u U => bx_J D A (wf u) U) A) args s cells slots A) (F0 m pc ls [.int r]) :=
  W.zret (v := r) (ty := .boolean) E.1.1 E.1.2.1 hr (by rcases hz with rfl | rfl <;> rfl) (fun t ht _ => ⟨⟨r, u, rfl, hp, by rw [ht, hw]; exact hM.1, by rw [hw]; exact hM.2.1⟩, hM.2.2.F ht⟩) hM.2.2.2.2 hdg hlk
theorem bx_retv {post : S → Prop} (E : bx_E p m c cc nL s args Ts own D t A) (hr : meth.sig.returnType = none) (hlk : meth.locks = false) (hM : bx_M D A s w H locs) (u : S) (hw : wf u = w) (hp : post u) (hdg : decode cc pc = .ok (.return_, 1)) :
    W p l e R s m args below meth c H locs cells slots (MQ below (va_Qv post (fun u U => bx_J D A (wf u) U) A) args s cells slots A) (F0 m pc ls []) :=
  W.vret E.1.1 E.1.2.1 hr (fun t ht _ => ⟨⟨u, rfl, hp, by rw [ht, hw]; exact hM.1, by rw [hw]; exact hM.2.1⟩, hM.2.2.F ht⟩) hM.2.2.2.2 hdg hlk
theorem bx_retq {post : Option Nat → S → Prop} {r : Option Nat} {cn : String} (E : bx_E p m c cc nL s args Ts own D t A) (hr : meth.sig.returnType = some (.object cn)) (hlk : meth.locks = false) (hM : bx_M D A s w H locs) (u : S) (hw : wf u = w) (hp : post r u) (hdg : decode cc pc = .ok (.areturn, 1)) :
    W p l e R s m args below meth c H locs cells slots (MQ below (va_Qq post (fun u U => bx_J D A (wf u) U) A) args s cells slots A) (F0 m pc ls [va_rf r]) :=
  W.aret (v := va_rf r) E.1.1 E.1.2.1 hr (Or.inl ⟨_, rfl⟩) (va_rf_or r) (fun t ht _ => ⟨⟨r, u, rfl, hp, by rw [ht, hw]; exact hM.1, by rw [hw]; exact hM.2.1⟩, hM.2.2.F ht⟩) hM.2.2.2.2 hdg hlk
theorem bx_pre (E : bx_E p m c cc nL s args Ts own D t A) (hM : bx_M D A s w H locs) : PreS s H (va_Pc av (bx_I D t A w)) av :=
  ⟨bx_blind, fun U hU hW => ⟨rfl, by rw [hU]; exact hM.1, hM.2.1, E.2.1.warm hW, fun q h => E.2.2 q (Nat.le_trans hM.2.2.1 (by rw [hU] at h; exact h))⟩⟩
theorem bx_preV (E : bx_E p m c cc nL s args Ts own D t A) (hM : bx_M D A s w H locs) (hrc : ∃ cell : Cell, H[b]? = some cell ∧ cell.vm.isStatics = false ∧ s.vm.findClass C = some cell.cls) : PreV s H C b (va_Pc (.ref b :: As) (bx_I D t A w)) As :=
  ⟨bx_blind, hrc, (bx_pre E hM).2⟩
/-- a run of a call, and how it goes on -/
theorem bx_goi {post : Int32 → S → Prop} {a : Array Value} (hM : bx_M D A s w H locs) (hr : va_Run p l e R s m args below meth c H locs cells slots mc ms (F0 m pc ls st0) rest (va_Qi post (fun u U => bx_J D A (wf u) U) A a) A)
    (kk : ∀ (r : Int32) (u : S) (H1 : Heap) (locs1 : List Loc), post r u → bx_M D A s (wf u) H1 locs1 → W p l e R s m args below meth c H1 locs1 (cells + mc) (slots + ms) Q (F0 m (pc + 3) ls (.int r :: rest))) : W p l e R s m args below meth c H locs cells slots Q (F0 m pc ls st0) :=
  va_calli hr hM.2.2 (fun _ _ h => h) (fun _ h => h) (fun r u t H1 locs1 ht _ hp hB _ _ hS => kk r u H1 locs1 hp ⟨by rw [← ht]; exact hB.1, hB.2, hS⟩)
theorem bx_gov {post : S → Prop} {a : Array Value} (hM : bx_M D A s w H locs) (hr : va_Run p l e R s m args below meth c H locs cells slots mc ms (F0 m pc ls st0) rest (va_Qv post (fun u U => bx_J D A (wf u) U) A a) A)
    (kk : ∀ (u : S) (H1 : Heap) (locs1 : List Loc), post u → bx_M D A s (wf u) H1 locs1 → W p l e R s m args below meth c H1 locs1 (cells + mc) (slots + ms) Q (F0 m (pc + 3) ls rest)) : W p l e R s m args below meth c H locs cells slots Q (F0 m pc ls st0) :=
  va_callv hr hM.2.2 (fun _ _ h => h) (fun _ h => h) (fun u t H1 locs1 ht _ hp hB _ _ hS => kk u H1 locs1 hp ⟨by rw [← ht]; exact hB.1, hB.2, hS⟩)
theorem bx_goq {post : Option Nat → S → Prop} {a : Array Value} (hM : bx_M D A s w H locs) (hr : va_Run p l e R s m args below meth c H locs cells slots mc ms (F0 m pc ls st0) rest (va_Qq post (fun u U => bx_J D A (wf u) U) A a) A)
    (kk : ∀ (r : Option Nat) (u : S) (H1 : Heap) (locs1 : List Loc), post r u → bx_M D A s (wf u) H1 locs1 → W p l e R s m args below meth c H1 locs1 (cells + mc) (slots + ms) Q (F0 m (pc + 3) ls (va_rf r :: rest))) : W p l e R s m args below meth c H locs cells slots Q (F0 m pc ls st0) :=
  va_callq hr hM.2.2 (fun _ _ h => h) (fun _ h => h) (fun r u t H1 locs1 ht _ hp hB _ _ hS => kk r u H1 locs1 hp ⟨by rw [← ht]; exact hB.1, hB.2, hS⟩)
theorem bx_runS {Qc : Array Value → State → Outcome → State → Prop} (E : bx_E p m c cc nL s args Ts own D t A) (hM : bx_M D A s w H locs) (hC : Met l y ws rm (va_Pc As (bx_I D t A w)) Qc mc ms A) (n : Nat) (hg : GoodIn Ts (va_wsS own index y ws)) (hw : ws = Cond.code y bytes maxL ret :: ws') (hrc : rm.cells = mc) (hrs : rm.slots = ms)
    (hd : y.cls ≠ "java/lang/invoke/MethodHandle" ∧ y.cls ≠ "java/lang/invoke/VarHandle" ∧ (parseMethodDescriptor y.desc).map (fun d => d.parameters.length) = some n) (hR : rm.frames + 1 ≤ R.frames ∧ 8 + (maxL + 11) + rm.locals ≤ R.locals)
    (hn : As.length = n) (hl : ls.size = nL) (hst : st0 = As.reverse ++ rest) (hrm : (rest.map fun v => v.category).sum ≤ 8) (hdg : decode cc pc = .ok (.invokestatic index, 3)) (hf : cells + mc ≤ R.cells ∧ slots + ms ≤ R.slots) :
    va_Run p l e R s m args below meth c H locs cells slots mc ms (F0 m pc ls st0) rest (Qc As.toArray) A :=
  va_runS E.1 hC (va_cwS n E.1.2.2.2.2 hg hw hrc hrs hd hR) (bx_pre E hM) rfl hn hl hst (lv_room hrm) hdg hf
theorem bx_runV {Qc : Array Value → State → Outcome → State → Prop} (E : bx_E p m c cc nL s args Ts own D t A) (hM : bx_M D A s w H locs) (hC : Met l y ws rm (va_Pc (.ref b :: As) (bx_I D t A w)) Qc mc ms A) (hrv : ∃ cell : Cell, H[b]? = some cell ∧ cell.vm.isStatics = false ∧ s.vm.findClass C = some cell.cls) (n : Nat) (hg : GoodIn Ts (wsV own index C y ws)) (hw : ws = Cond.code y bytes maxL ret :: ws') (hrc : rm.cells = mc) (hrs : rm.slots = ms)
    (hd : y.cls = C ∧ y.cls ≠ "java/lang/invoke/MethodHandle" ∧ y.cls ≠ "java/lang/invoke/VarHandle" ∧ (parseMethodDescriptor y.desc).map (fun d => d.parameters.length) = some n) (hR : rm.frames + 1 ≤ R.frames ∧ 8 + (maxL + 11) + rm.locals ≤ R.locals)
    (hn : As.length = n) (hl : ls.size = nL) (hst : st0 = As.reverse ++ .ref b :: rest) (hrm : (rest.map fun v => v.category).sum ≤ 8) (hdg : decode cc pc = .ok (.invokevirtual index, 3)) (hf : cells + mc ≤ R.cells ∧ slots + ms ≤ R.slots) :
    va_Run p l e R s m args below meth c H locs cells slots mc ms (F0 m pc ls st0) rest (Qc (Value.ref b :: As).toArray) A :=
  va_runV E.1 hC (cwV n E.1.2.2.2.2 hg hw hrc hrs hd hR) (bx_preV E hM hrv) rfl hn hl hst (lv_room hrm) hdg hf
theorem bx_runI {Qc : Array Value → State → Outcome → State → Prop} (E : bx_E p m c cc nL s args Ts own D t A) (hM : bx_M D A s w H locs) (hC : Met l y ws rm (va_Pc (.ref b :: As) (bx_I D t A w)) Qc mc ms A) (n : Nat) (hg : GoodIn Ts ws) (hw : ws = Cond.code y bytes maxL none :: ws') (hrc : rm.cells = mc) (hrs : rm.slots = ms) (hini : Cond.initialized y.cls ∈ Ts) (hlk : Cond.methodLink own index y ∈ Ts) (him : Cond.instanceMethod y ∈ Ts) (hy1 : y.name = "<init>")
    (hd : y.cls ≠ "java/lang/invoke/MethodHandle" ∧ y.cls ≠ "java/lang/invoke/VarHandle" ∧ (parseMethodDescriptor y.desc).map (fun d => d.parameters.length) = some n) (hR : rm.frames + 1 ≤ R.frames ∧ 8 + (maxL + 11) + rm.locals ≤ R.locals)
    (hn : As.length = n) (hl : ls.size = nL) (hst : st0 = As.reverse ++ .ref b :: rest) (hrm : (rest.map fun v => v.category).sum ≤ 8) (hdg : decode cc pc = .ok (.invokespecial index, 3)) (hf : cells + mc ≤ R.cells ∧ slots + ms ≤ R.slots) :
    va_Run p l e R s m args below meth c H locs cells slots mc ms (F0 m pc ls st0) rest (Qc (Value.ref b :: As).toArray) A :=
  va_runI E.1 hC (cwI n E.1.2.2.2.2 hg hw hrc hrs (E.1.2.2.2.2 _ hini) (E.1.2.2.2.2 _ hlk) (E.1.2.2.2.2 _ him) hy1 hd hR) (bx_pre E hM) rfl hn hl hst (lv_room hrm) hdg hf
end BXA
