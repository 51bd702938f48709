/-! Exceptions: the search for a handler, its row perhaps not resolved yet; an exception made and thrown; calls that throw. -/
theorem xc_go {E : CtlPost} {e : Env} {d : Bool} {acts : List Action} {s : State} {f : JFrame} {a : Addr} {Q : Handler → Pre} {x : ExceptionTableEntry} {t : List ExceptionTableEntry} {c : ClassId} {cell : Cell} (hx : covers x f.pc = true) (h0 : x.catchType ≠ 0)
    (hcl : s.vm.ClassLinks e.platform f.method.cls x.catchType c) (hcell : s.heap[a]? = some cell) (hobj : ∀ k, cell.vm ≠ .statics k) (hW : s.vm.Alike (s.vm.noted f.method.cls x.catchType (.cls c)))
    (hk : ∃ k, s.vm.classes[cell.cls]? = some k) (hc : ∃ k, s.vm.classes[c]? = some k) :
    wp (findHandler.go f a (x :: t)) Q E e d acts s ↔
      if s.vm.assignable cell.cls c = true then Q (.found x.handlerPc) d acts (s.setVm (s.vm.noted f.method.cls x.catchType (.cls c))) else wp (findHandler.go f a t) Q E e d acts (s.setVm (s.vm.noted f.method.cls x.catchType (.cls c))) := by
  obtain ⟨h1, h2⟩ : (VmOp.resolveClass f.method.cls x.catchType).answer e s.vm = .ok c ∧ (VmOp.resolveClass f.method.cls x.catchType).tables e s.vm = s.vm.noted f.method.cls x.catchType (.cls c) := (resolveClass_links e.toSetting hcl).op rfl
  have h3 : (s.vm.noted f.method.cls x.catchType (.cls c)).classes.size ≤ s.vm.classes.size := by no_record
  obtain ⟨k1, hk1⟩ := hk
  obtain ⟨k2, hk2⟩ := hc
  obtain ⟨k1', hk1', -⟩ := hW.2.2 _ _ hk1
  obtain ⟨k2', hk2', -⟩ := hW.2.2 _ _ hk2
  have h4 : (s.vm.noted f.method.cls x.catchType (.cls c)).assignable cell.cls c = s.vm.assignable cell.cls c := by rw [hW.assignable]
  simp only [covers] at hx
  cases hfit : s.vm.assignable cell.cls c <;>
    simp [findHandler.go, hx, h0, h1, VmOp.lands_eq h2 h3, hcell, hobj, hk1', hk2', h4, hfit, VmOp.dirties, VmOp.acts]
/-- the search through a table comes to a handler; tables may be warmer then -/
def xc_Fd (e : Env) (s : State) (f : JFrame) (a : Addr) (tb : List ExceptionTableEntry) (pc : Nat) (vm' : Vm) : Prop := ∀ (d : Bool) (acts : List Action), wp (findHandler.go f a tb) (fun h _ as s'' => h = .found pc ∧ s'' = s.setVm vm' ∧ as = acts) (fun _ _ _ => False) e d acts s
theorem xc_yes {e : Env} {s : State} {f : JFrame} {a : Addr} {x : ExceptionTableEntry} {t : List ExceptionTableEntry} {c : ClassId} {cell : Cell} (hx : covers x f.pc = true) (h0 : x.catchType ≠ 0)
    (hcl : s.vm.ClassLinks e.platform f.method.cls x.catchType c) (hcell : s.heap[a]? = some cell) (hobj : ∀ k, cell.vm ≠ .statics k) (hW : s.vm.Alike (s.vm.noted f.method.cls x.catchType (.cls c)))
    (hk : ∃ k, s.vm.classes[cell.cls]? = some k) (hc : ∃ k, s.vm.classes[c]? = some k) (hy : s.vm.assignable cell.cls c = true) : xc_Fd e s f a (x :: t) x.handlerPc (s.vm.noted f.method.cls x.catchType (.cls c)) := fun d acts => by
  rw [xc_go hx h0 hcl hcell hobj hW hk hc, if_pos hy]
  exact ⟨rfl, rfl, rfl⟩
theorem xc_no {e : Env} {s : State} {f : JFrame} {a : Addr} {x : ExceptionTableEntry} {t : List ExceptionTableEntry} {c : ClassId} {cell : Cell} {pc : Nat} {vm' : Vm} (hx : covers x f.pc = true) (h0 : x.catchType ≠ 0)
    (hcl : s.vm.ClassLinks e.platform f.method.cls x.catchType c) (hcell : s.heap[a]? = some cell) (hobj : ∀ k, cell.vm ≠ .statics k) (hW : s.vm.Alike (s.vm.noted f.method.cls x.catchType (.cls c)))
    (hk : ∃ k, s.vm.classes[cell.cls]? = some k) (hc : ∃ k, s.vm.classes[c]? = some k) (hy : s.vm.assignable cell.cls c = false) (h : xc_Fd e (s.setVm (s.vm.noted f.method.cls x.catchType (.cls c))) f a t pc vm') : xc_Fd e s f a (x :: t) pc vm' := fun d acts => by
  rw [xc_go hx h0 hcl hcell hobj hW hk hc, if_neg (by rw [hy]; decide)]
  exact h d acts
theorem xc_step {e : Env} {s : State} {a : Addr} {f : JFrame} {r : List Frame} {meth : Method} {code : Code} {pc : Nat} {vm' : Vm} (hm : s.vm.method? f.method = some meth) (hc : meth.code = some code) (h : xc_Fd e s f a code.exceptionTable.toList pc vm') :
    (stepThrowing e s a (.java f :: r)).Is ((s.setVm vm').setFrames (.java { f with pc := pc, stack := [.ref a] } :: r)) [] := by
  simp only [stepThrowing, searchFrame, vmDo]
  generalize hr : Sem.go _ e false [] s = res
  obtain ⟨as, rfl, ha⟩ := Sem.eq_ok_of hr (a := Handler.found pc) (s' := s.setVm vm') (acts' := []) (by
    rw [wp_bind', W.findHandler_eq hm hc]
    refine Sem.wp_mono _ e (fun h1 d1 as1 s1 hh => ?_) (fun _ _ _ h1 => h1) _ _ _ (h false (unmarked []))
    obtain ⟨rfl, rfl, rfl⟩ := hh
    simp)
  exact ⟨rfl, ha⟩
theorem xc_caught {tb : Tables} {e : Env} {s target : State} {g : JFrame} {c : Code} {below : List Frame} {a : Addr} (h : At s g.method c below) {meth : Method} {pc : Nat} {vm' : Vm} (hm : s.vm.method? g.method = some meth) (hc : meth.code = some c) (hfind : xc_Fd e ((s.setTop g).pushFrame (.throwing a)) g a c.exceptionTable.toList pc vm')
    (hrest : Steps tb e below ((s.setVm vm').setTop { g with pc := pc, stack := [.ref a] }) target) :
    Steps tb e below ((s.setTop g).pushFrame (.throwing a)) target := by
  obtain ⟨hgo, hw⟩ := h.throwing a
  refine Steps.head hgo hw ?_
  rw [stepThread_throwing (frames_entered h.top _), (xc_step (s := (s.setTop g).pushFrame (.throwing a)) (meth := meth) (by simpa [State.pushFrame, State.setFrames] using hm) hc hfind).1]
  obtain ⟨g₀, hg⟩ := Option.isSome_iff_exists.mp h.top
  obtain ⟨r, hr⟩ := State.topJava?_eq_some.mp hg
  have hr' : (s.setVm vm').frames = .java g₀ :: r := hr
  rw [State.setTop_of_frames _ hr'] at hrest
  have e1 : (((s.setTop g).pushFrame (.throwing a)).setVm vm').setFrames (.java { g with pc := pc, stack := [.ref a] } :: s.frames.tail) = (s.setVm vm').setFrames (.java { g with pc := pc, stack := [.ref a] } :: r) := by
    rw [State.pushFrame, State.setTop_of_frames _ hr, hr]
    show (((s.setFrames _).setFrames _).setVm vm').setFrames _ = _
    rw [State.setFrames_setFrames]
    show ((s.setVm vm').setFrames _).setFrames _ = _
    rw [State.setFrames_setFrames]
    rfl
  rw [e1]
  exact hrest
/-- it threw; the tables are warmer; only what was said was written or made -/
def xk_End (st : State) (o : Outcome) (t : State) (L : List Loc) (k n : Nat) : Prop := (∃ q, o = .threw q) ∧ st.WarmedH t.vm ∧ st.sameButNew ({ t with vm := st.vm } : State) L k n
def xk_Met (l : Launch) (y : MethodName) (ws : List Cond) (rm : Room) (Pc : Array Value → State → Prop) (Qc : Array Value → State → Outcome → State → Prop) (mc ms : Nat) (free : Addr → Prop) : Prop :=
  MetFree l y (headSpec ws rm) Pc (fun _ _ _ _ _ => True) (fun a st o t => Qc a st o t ∧ ∃ L, xk_End st o t L mc ms ∧ ∀ q ∈ L, free q.base)
def xk_MQ (below : List Frame) (Qc : Array Value → State → Outcome → State → Prop) (a : Array Value) (s : State) (mc ms : Nat) (free : Addr → Prop) : State → Prop := fun t => ∃ o, t.status = .running ∧ Ended t below o ∧ Qc a s o t ∧ ∃ L, xk_End s o t L mc ms ∧ ∀ q ∈ L, free q.base
def xk_Q (E : String) (post : va_W → Prop) (B : va_W → State → Prop) (A : Nat → Prop) : Array Value → State → Outcome → State → Prop := fun _ st oc t => (∃ (q : Nat) (u : va_W) (cell : Cell), oc = .threw q ∧ post u ∧ B u t ∧ t.heap[q]? = some cell ∧ cell.vm.isStatics = false ∧ t.vm.findClass E = some cell.cls) ∧ va_F A st t
/-- the method throws an E -/
def kX (l : Launch) (Hs : Heap) (D : va_G) (cl : List vw_C) (tys : List (ClassId × FieldType)) (y : MethodName) (ws : List Cond) (rm : Room) (av : List Value) (wc : va_W) (E : String) (post : va_W → Prop) : Prop := l.flags = flags0 → ∀ sz : Nat, xk_Met l y ws rm (kP Hs D cl tys av wc sz) (xk_Q E post (kB D cl tys wc sz) (va_A wc sz)) rm.cells rm.slots (va_A wc sz)
theorem xk_of {l : Launch} {Hs : Heap} {D : va_G} {cl : List vw_C} {tys : List (ClassId × FieldType)} {y : MethodName} {ws ws' : List Cond} {rm : Room} {av : List Value} {wc : va_W} {sz mc ms : Nat} {Qc : Array Value → State → Outcome → State → Prop} {cc : ByteArray} {maxL : Nat} {ret : Option FieldType}
    (hy : plainName y.cls = true) (hw : ws = Cond.code y cc maxL ret :: ws') (hlen : (lg_sl av).length ≤ maxL)
    (body : ∀ (p : Program) (e : Env) (s : State) (m : MethodId) (args : Array Value) (below : List Frame) (meth : Method) (c : Code) (ls : Array Slot) (H : Heap) (locs : List Loc) (A : Nat → Prop) (Q : State → Prop), Q = xk_MQ below Qc args s mc ms A → p.tables.exec = Jvm.exec → c.code = cc → c.maxLocals = maxL → meth.sig.returnType = ret → (∀ w ∈ ws, w.before args s = true) → s.vm.findClass y.cls = some m.cls → meth.locks = false → meth.name = y.name → s.heap.size = sz → A = va_A wc sz →
      va_P D cl wc H → va_K D cl tys s → va_D A wc → va_S A s.heap H locs → (∀ q, s.heap.size ≤ q → A q) → gE Hs s → (∀ q, A q → Hs.size ≤ q) → lv_has ls maxL (lv_args 0 av) → c.exceptionTable.isEmpty = true → W p l e rm s m args below meth c H locs 0 0 Q (F0 m 0 ls [])) :
    xk_Met l y ws rm (kP Hs D cl tys av wc sz) Qc mc ms (va_A wc sz) := by
  refine MetFree.of_bodyS (code := cc) (maxLocals := maxL) (ret := ret) hy ?_ ?_
  · intro args s m h hn
    obtain ⟨meth, c, h1, h2, h3, h4, h5, h6, -, -⟩ := Cond.code_spec hn (atoms_spec (ws := ws) h _ (by rw [hw]; exact List.mem_cons_self))
    exact ⟨meth, c, h1, h2, h3, h4, h5, h6⟩
  · intro p e s m args below meth c s₁ B hml hv _
    have hh0 : s₁.heap = s.heap := by rw [B.state]; rfl
    have hem := B.noHandlers (atoms_spec (ws := ws) B.pre _ (by rw [hw]; exact List.mem_cons_self))
    obtain ⟨rfl, hsz, hP, hK, hD0, hE⟩ := hv
    have hl := lv_entry av (n := maxL) hlen
    have key : W p l e rm s m av.toArray below meth c s.heap [] 0 0 (xk_MQ below Qc av.toArray s mc ms (va_A wc sz)) (entryFrame m av.toArray maxL) := by
      rw [lg_entry_eq]
      generalize (lg_sl av ++ List.replicate (maxL - (lg_sl av).length) Slot.unset).toArray = ls at hl ⊢
      exact body p e s m _ below meth c ls s.heap [] (va_A wc sz) _ rfl B.exec B.bytes hml B.returns (atoms_spec (ws := ws) B.pre) (findClass_of_methodNamed B.named) B.notSynchronized (name_of_methodNamed B.named B.method).1 hsz rfl hP hK (hD0.self (sz := sz)) va_S.rf (fun q h => Or.inr (by rw [← hsz]; exact h)) hE (fun q h => by
        rcases h with ⟨k, e2, h⟩ | h
        · exact hD0.2 k (q, e2) h
        · exact Nat.le_trans hE.2.1 (by rw [hsz]; exact h)) hl hem
    obtain ⟨t, a1, o, b1, b2, b3⟩ := key s₁ hh0 (Stand.of_body B)
    exact ⟨t, o, a1, b1, b2, ⟨b3.1, b3.2⟩⟩
theorem xk_none {c : Code} (h : c.exceptionTable.isEmpty = true) (pc : Nat) : ∀ x ∈ c.exceptionTable.toList, covers x pc = false := by
  have h0 : c.exceptionTable.size = 0 := by simpa [Array.isEmpty] using h
  have h1 : c.exceptionTable.toList = [] := List.eq_nil_of_length_eq_zero (by simpa using h0)
  intro y hy
  rw [h1] at hy
  cases hy
section XKA
variable {p : Program} {l : Launch} {e : Env} {R : Room} {s : State} {m : MethodId} {args : Array Value} {below : List Frame} {meth : Method} {c : Code} {H : Heap} {locs : List Loc} {cells slots : Nat} {Q : State → Prop}
variable {cc : ByteArray} {pc : Nat} {ls : Array Slot} {rest : List Value} {D : va_G} {cl : List vw_C} {A : Nat → Prop} {tys : List (ClassId × FieldType)} {w wc : va_W} {sz mc ms : Nat} {E : String}
/-- the object on the stack is thrown out of the method -/
theorem xk_athrow {post : va_W → Prop} {a : Nat} {ce : Cell} (hQ : Q = xk_MQ below (xk_Q E post (kB D cl tys wc sz) (va_A wc sz)) args s mc ms A) (hx : p.tables.exec = Jvm.exec) (hb : c.code = cc) (hlk : meth.locks = false) (hem : c.exceptionTable.isEmpty = true) (hAe : A = va_A wc sz) (hK : va_K D cl tys s) (hP : va_P D cl w H) (hD : va_D A w) (hS : va_S A s.heap H locs)
    (hce : H[a]? = some ce) (hst : ce.vm.isStatics = false) (hcl : s.vm.findClass E = some ce.cls) (hl : wc.length ≤ w.length) (hc : cells ≤ mc) (hs : slots ≤ ms) (hpost : post w) (hdg : decode cc pc = .ok (.athrow, 1)) :
    W p l e R s m args below meth c H locs cells slots Q (F0 m pc ls (.ref a :: rest)) := by
  subst hAe
  subst hQ
  refine W.widen hc hs ?_
  intro T hT X
  obtain ⟨st, hrun, hended, hW, hsame⟩ := X.athrowLeaves hx (g := F0 m pc ls (.ref a :: rest)) rfl rfl rfl (xk_none hem _) rfl (by rw [hb]; exact hdg) hlk
  have hh : (T.setFrames (.throwing a :: below)).heap = H := hT
  refine ⟨_, st, .threw a, hrun, hended, ⟨⟨a, w, ce, rfl, hpost, ⟨hl, by rw [hh]; exact hP, va_K.moved hW.alike hK, hD⟩, by rw [hh]; exact hce, hst, by rw [hW.alike.findClass]; exact hcl⟩, hS.F hh⟩, locs, ⟨⟨a, rfl⟩, hW, hsame⟩, hS.2.2⟩
end XKA
theorem xk_ls {C n d : String} {Hs : Heap} {s : State} {args : Array Value} (hk : ∀ q : Nat, q < Hs.size → s.heap[q]? = Hs[q]?) (h : xL C n d Hs s) : (Cond.laysStatic C n d).before args s = true := by
  obtain ⟨c, k, i, f, a, cell, v, h1, h2, h3, h4, h5, h6, h7, h8, h9, h10⟩ := h
  exact Cond.laysStatic_of h1 h2 h3 h4 (by rw [hk a (Array.getElem?_eq_some_iff.mp h5).1]; exact h5) h6 h7 h8 h9
/-- what is asked of an exception class, but the link of its constructor -/
def xk_Ok (E : String) (args : Array Value) (s : State) : Prop := (∀ c ∈ Bundle.throwableAtoms, c.before args s = true) ∧ (∀ c ∈ Bundle.chain0Atoms E ["java/lang/RuntimeException", "java/lang/Exception"], c.before args s = true) ∧
  (∀ c ∈ [Cond.instantiable E 6, .initialized E, .selects E Bundle.tFill0 Bundle.tFill0, .selects E Bundle.tFill Bundle.tFill, .lays E Bundle.tN "cause" "Ljava/lang/Throwable;", .lays E Bundle.tN "stackTrace" Bundle.steD, .lays E Bundle.tN "suppressedExceptions" Bundle.listD, .lays E Bundle.tN "backtrace" "Ljava/lang/Object;"], c.before args s = true) ∧
  (Cond.fieldLink Bundle.tN 198 Bundle.tN "backtrace" "Ljava/lang/Object;").before args s = true ∧ (Cond.lays Bundle.tN Bundle.tN "backtrace" "Ljava/lang/Object;").before args s = true
theorem xk_th {args : Array Value} {s : State} {Hs : Heap} (ht : ∀ w ∈ mw, w.before args s = true) (hE : gE Hs s) : ∀ c ∈ Bundle.throwableAtoms, c.before args s = true :=
  List.forall_mem_cons.mpr ⟨ht _ wd_6, List.forall_mem_cons.mpr ⟨ht _ wd_311, List.forall_mem_cons.mpr ⟨ht _ wd_320, List.forall_mem_cons.mpr ⟨ht _ wd_327, List.forall_mem_cons.mpr ⟨ht _ wd_330, List.forall_mem_cons.mpr ⟨ht _ wd_332, List.forall_mem_cons.mpr ⟨ht _ wd_312, List.forall_mem_cons.mpr ⟨ht _ wd_313, List.forall_mem_cons.mpr ⟨ht _ wd_33, List.forall_mem_cons.mpr ⟨ht _ wd_34, List.forall_mem_cons.mpr ⟨ht _ wd_314, List.forall_mem_cons.mpr ⟨ht _ wd_319, List.forall_mem_cons.mpr ⟨ht _ wd_328, List.forall_mem_cons.mpr ⟨ht _ wd_345, List.forall_mem_cons.mpr ⟨ht _ wd_301, List.forall_mem_cons.mpr ⟨ht _ wd_346, List.forall_mem_cons.mpr ⟨ht _ wd_303, List.forall_mem_cons.mpr ⟨ht _ wd_347, List.forall_mem_cons.mpr ⟨ht _ wd_305, List.forall_mem_cons.mpr ⟨ht _ wd_315, List.forall_mem_cons.mpr ⟨xk_ls hE.2.2.1 hE.2.2.2.2.1, List.forall_mem_cons.mpr ⟨ht _ wd_317, List.forall_mem_cons.mpr ⟨xk_ls hE.2.2.1 hE.2.2.2.2.2.1, List.forall_mem_cons.mpr ⟨ht _ wd_307, fun _ h => absurd h List.not_mem_nil⟩⟩⟩⟩⟩⟩⟩⟩⟩⟩⟩⟩⟩⟩⟩⟩⟩⟩⟩⟩⟩⟩⟩⟩
abbrev e_IA : String := "java/lang/IllegalArgumentException"
theorem xk_IA {args : Array Value} {s : State} {Hs : Heap} (ht : ∀ w ∈ mw, w.before args s = true) (hE : gE Hs s) : xk_Ok e_IA args s :=
  ⟨xk_th ht hE, List.forall_mem_append.mpr ⟨List.forall_mem_cons.mpr ⟨ht _ wd_334, List.forall_mem_cons.mpr ⟨ht _ wd_335, List.forall_mem_cons.mpr ⟨ht _ wd_336, List.forall_mem_cons.mpr ⟨ht _ wd_337, List.forall_mem_cons.mpr ⟨va_Nw.use rfl (nw_292 hE.1), fun _ h => absurd h List.not_mem_nil⟩⟩⟩⟩⟩, List.forall_mem_append.mpr ⟨List.forall_mem_cons.mpr ⟨ht _ wd_337, List.forall_mem_cons.mpr ⟨ht _ wd_338, List.forall_mem_cons.mpr ⟨ht _ wd_339, List.forall_mem_cons.mpr ⟨ht _ wd_340, List.forall_mem_cons.mpr ⟨va_Nw.use rfl (nw_294 hE.1), fun _ h => absurd h List.not_mem_nil⟩⟩⟩⟩⟩, List.forall_mem_cons.mpr ⟨ht _ wd_340, List.forall_mem_cons.mpr ⟨ht _ wd_341, List.forall_mem_cons.mpr ⟨ht _ wd_342, List.forall_mem_cons.mpr ⟨ht _ wd_312, List.forall_mem_cons.mpr ⟨va_Nw.use rfl (nw_296 hE.1), fun _ h => absurd h List.not_mem_nil⟩⟩⟩⟩⟩⟩⟩, List.forall_mem_cons.mpr ⟨ht _ wd_290, List.forall_mem_cons.mpr ⟨ht _ wd_9, List.forall_mem_cons.mpr ⟨ht _ wd_298, List.forall_mem_cons.mpr ⟨ht _ wd_299, List.forall_mem_cons.mpr ⟨ht _ wd_300, List.forall_mem_cons.mpr ⟨ht _ wd_302, List.forall_mem_cons.mpr ⟨ht _ wd_304, List.forall_mem_cons.mpr ⟨ht _ wd_308, fun _ h => absurd h List.not_mem_nil⟩⟩⟩⟩⟩⟩⟩⟩, ht _ wd_310, ht _ wd_309⟩
abbrev e_IS : String := "java/lang/IllegalStateException"
theorem xk_IS {args : Array Value} {s : State} {Hs : Heap} (ht : ∀ w ∈ mw, w.before args s = true) (hE : gE Hs s) : xk_Ok e_IS args s :=
  ⟨xk_th ht hE, List.forall_mem_append.mpr ⟨List.forall_mem_cons.mpr ⟨ht _ wd_366, List.forall_mem_cons.mpr ⟨ht _ wd_367, List.forall_mem_cons.mpr ⟨ht _ wd_368, List.forall_mem_cons.mpr ⟨ht _ wd_337, List.forall_mem_cons.mpr ⟨va_Nw.use rfl (nw_292 hE.1), fun _ h => absurd h List.not_mem_nil⟩⟩⟩⟩⟩, List.forall_mem_append.mpr ⟨List.forall_mem_cons.mpr ⟨ht _ wd_337, List.forall_mem_cons.mpr ⟨ht _ wd_338, List.forall_mem_cons.mpr ⟨ht _ wd_339, List.forall_mem_cons.mpr ⟨ht _ wd_340, List.forall_mem_cons.mpr ⟨va_Nw.use rfl (nw_294 hE.1), fun _ h => absurd h List.not_mem_nil⟩⟩⟩⟩⟩, List.forall_mem_cons.mpr ⟨ht _ wd_340, List.forall_mem_cons.mpr ⟨ht _ wd_341, List.forall_mem_cons.mpr ⟨ht _ wd_342, List.forall_mem_cons.mpr ⟨ht _ wd_312, List.forall_mem_cons.mpr ⟨va_Nw.use rfl (nw_296 hE.1), fun _ h => absurd h List.not_mem_nil⟩⟩⟩⟩⟩⟩⟩, List.forall_mem_cons.mpr ⟨ht _ wd_357, List.forall_mem_cons.mpr ⟨ht _ wd_10, List.forall_mem_cons.mpr ⟨ht _ wd_359, List.forall_mem_cons.mpr ⟨ht _ wd_323, List.forall_mem_cons.mpr ⟨ht _ wd_360, List.forall_mem_cons.mpr ⟨ht _ wd_361, List.forall_mem_cons.mpr ⟨ht _ wd_362, List.forall_mem_cons.mpr ⟨ht _ wd_364, fun _ h => absurd h List.not_mem_nil⟩⟩⟩⟩⟩⟩⟩⟩, ht _ wd_310, ht _ wd_309⟩
abbrev e_UO : String := "java/lang/UnsupportedOperationException"
theorem xk_UO {args : Array Value} {s : State} {Hs : Heap} (ht : ∀ w ∈ mw, w.before args s = true) (hE : gE Hs s) : xk_Ok e_UO args s :=
  ⟨xk_th ht hE, List.forall_mem_append.mpr ⟨List.forall_mem_cons.mpr ⟨ht _ wd_381, List.forall_mem_cons.mpr ⟨ht _ wd_382, List.forall_mem_cons.mpr ⟨ht _ wd_383, List.forall_mem_cons.mpr ⟨ht _ wd_337, List.forall_mem_cons.mpr ⟨va_Nw.use rfl (nw_292 hE.1), fun _ h => absurd h List.not_mem_nil⟩⟩⟩⟩⟩, List.forall_mem_append.mpr ⟨List.forall_mem_cons.mpr ⟨ht _ wd_337, List.forall_mem_cons.mpr ⟨ht _ wd_338, List.forall_mem_cons.mpr ⟨ht _ wd_339, List.forall_mem_cons.mpr ⟨ht _ wd_340, List.forall_mem_cons.mpr ⟨va_Nw.use rfl (nw_294 hE.1), fun _ h => absurd h List.not_mem_nil⟩⟩⟩⟩⟩, List.forall_mem_cons.mpr ⟨ht _ wd_340, List.forall_mem_cons.mpr ⟨ht _ wd_341, List.forall_mem_cons.mpr ⟨ht _ wd_342, List.forall_mem_cons.mpr ⟨ht _ wd_312, List.forall_mem_cons.mpr ⟨va_Nw.use rfl (nw_296 hE.1), fun _ h => absurd h List.not_mem_nil⟩⟩⟩⟩⟩⟩⟩, List.forall_mem_cons.mpr ⟨ht _ wd_372, List.forall_mem_cons.mpr ⟨ht _ wd_11, List.forall_mem_cons.mpr ⟨ht _ wd_374, List.forall_mem_cons.mpr ⟨ht _ wd_325, List.forall_mem_cons.mpr ⟨ht _ wd_375, List.forall_mem_cons.mpr ⟨ht _ wd_376, List.forall_mem_cons.mpr ⟨ht _ wd_377, List.forall_mem_cons.mpr ⟨ht _ wd_379, fun _ h => absurd h List.not_mem_nil⟩⟩⟩⟩⟩⟩⟩⟩, ht _ wd_310, ht _ wd_309⟩
abbrev e_NS : String := "java/util/NoSuchElementException"
theorem xk_NS {args : Array Value} {s : State} {Hs : Heap} (ht : ∀ w ∈ mw, w.before args s = true) (hE : gE Hs s) : xk_Ok e_NS args s :=
  ⟨xk_th ht hE, List.forall_mem_append.mpr ⟨List.forall_mem_cons.mpr ⟨ht _ wd_790, List.forall_mem_cons.mpr ⟨ht _ wd_791, List.forall_mem_cons.mpr ⟨ht _ wd_792, List.forall_mem_cons.mpr ⟨ht _ wd_337, List.forall_mem_cons.mpr ⟨va_Nw.use rfl (nw_292 hE.1), fun _ h => absurd h List.not_mem_nil⟩⟩⟩⟩⟩, List.forall_mem_append.mpr ⟨List.forall_mem_cons.mpr ⟨ht _ wd_337, List.forall_mem_cons.mpr ⟨ht _ wd_338, List.forall_mem_cons.mpr ⟨ht _ wd_339, List.forall_mem_cons.mpr ⟨ht _ wd_340, List.forall_mem_cons.mpr ⟨va_Nw.use rfl (nw_294 hE.1), fun _ h => absurd h List.not_mem_nil⟩⟩⟩⟩⟩, List.forall_mem_cons.mpr ⟨ht _ wd_340, List.forall_mem_cons.mpr ⟨ht _ wd_341, List.forall_mem_cons.mpr ⟨ht _ wd_342, List.forall_mem_cons.mpr ⟨ht _ wd_312, List.forall_mem_cons.mpr ⟨va_Nw.use rfl (nw_296 hE.1), fun _ h => absurd h List.not_mem_nil⟩⟩⟩⟩⟩⟩⟩, List.forall_mem_cons.mpr ⟨ht _ wd_781, List.forall_mem_cons.mpr ⟨ht _ wd_26, List.forall_mem_cons.mpr ⟨ht _ wd_783, List.forall_mem_cons.mpr ⟨ht _ wd_326, List.forall_mem_cons.mpr ⟨ht _ wd_784, List.forall_mem_cons.mpr ⟨ht _ wd_785, List.forall_mem_cons.mpr ⟨ht _ wd_786, List.forall_mem_cons.mpr ⟨ht _ wd_788, fun _ h => absurd h List.not_mem_nil⟩⟩⟩⟩⟩⟩⟩⟩, ht _ wd_310, ht _ wd_309⟩
abbrev e_IO : String := "java/lang/IndexOutOfBoundsException"
theorem xk_IO {args : Array Value} {s : State} {Hs : Heap} (ht : ∀ w ∈ mw, w.before args s = true) (hE : gE Hs s) : xk_Ok e_IO args s :=
  ⟨xk_th ht hE, List.forall_mem_append.mpr ⟨List.forall_mem_cons.mpr ⟨ht _ wd_855, List.forall_mem_cons.mpr ⟨ht _ wd_856, List.forall_mem_cons.mpr ⟨ht _ wd_857, List.forall_mem_cons.mpr ⟨ht _ wd_337, List.forall_mem_cons.mpr ⟨va_Nw.use rfl (nw_292 hE.1), fun _ h => absurd h List.not_mem_nil⟩⟩⟩⟩⟩, List.forall_mem_append.mpr ⟨List.forall_mem_cons.mpr ⟨ht _ wd_337, List.forall_mem_cons.mpr ⟨ht _ wd_338, List.forall_mem_cons.mpr ⟨ht _ wd_339, List.forall_mem_cons.mpr ⟨ht _ wd_340, List.forall_mem_cons.mpr ⟨va_Nw.use rfl (nw_294 hE.1), fun _ h => absurd h List.not_mem_nil⟩⟩⟩⟩⟩, List.forall_mem_cons.mpr ⟨ht _ wd_340, List.forall_mem_cons.mpr ⟨ht _ wd_341, List.forall_mem_cons.mpr ⟨ht _ wd_342, List.forall_mem_cons.mpr ⟨ht _ wd_312, List.forall_mem_cons.mpr ⟨va_Nw.use rfl (nw_296 hE.1), fun _ h => absurd h List.not_mem_nil⟩⟩⟩⟩⟩⟩⟩, List.forall_mem_cons.mpr ⟨ht _ wd_846, List.forall_mem_cons.mpr ⟨ht _ wd_23, List.forall_mem_cons.mpr ⟨ht _ wd_848, List.forall_mem_cons.mpr ⟨ht _ wd_324, List.forall_mem_cons.mpr ⟨ht _ wd_849, List.forall_mem_cons.mpr ⟨ht _ wd_850, List.forall_mem_cons.mpr ⟨ht _ wd_851, List.forall_mem_cons.mpr ⟨ht _ wd_853, fun _ h => absurd h List.not_mem_nil⟩⟩⟩⟩⟩⟩⟩⟩, ht _ wd_310, ht _ wd_309⟩
section XKC
variable {p : Program} {l : Launch} {e : Env} {R : Room} {s : State} {m : MethodId} {args : Array Value} {below : List Frame} {meth : Method} {c : Code} {T : State} {locs : List Loc} {cells slots : Nat}
set_option maxHeartbeats 1000000 in
/-- the constructor of a fresh exception: nothing but its own slots is written -/
theorem xk_ctor (X : Stand p l e R s m args below meth c T locs cells slots) (hexec : p.tables.exec = Jvm.exec) (htr : e.platform.stackTraces = false) {own E : String} {ic : Nat}
    (hown : s.vm.findClass own = some m.cls) (hfE : Bundle.fit E = true) (hOk : xk_Ok E args s) (hlink : (Cond.methodLink own ic (Bundle.init0 E)).before args s = true)
    (hU : (Cond.isRef (.static Bundle.tN "UNASSIGNED_STACK" Bundle.steD)).before args s = true) (hV : (Cond.isRef (.static Bundle.tN "SUPPRESSED_SENTINEL" Bundle.listD)).before args s = true)
    (hsame : ∀ (q : Nat) (cell : Cell), s.heap[q]? = some cell → cell.vm.isStatics = true → (∃ (k : Class), s.vm.findClass Bundle.tN = some cell.cls ∧ s.vm.classes[cell.cls]? = some k ∧ k.statics = some q) → T.heap[q]? = some cell)
    {a : Addr} {cX : ClassId} {kX : Class} (hfoundX : s.vm.findClass E = some cX) (hkX : s.vm.classes[cX]? = some kX) (hcell : T.heap[a]? = some (freshCell cX kX)) (hnew : s.heap.size ≤ a)
    {g : JFrame} (hg : g.method = m) (hsize : g.locals.size = c.maxLocals) {rest : List Value} (hstack : g.stack = .ref a :: .ref a :: rest) (hd : decode c.code g.pc = .ok (.invokespecial ic, 3))
    (hRframes : 5 < R.frames) (hRlocals : 2 * g.monitorRoom + ((Value.ref a :: rest).map fun v => v.category).sum + 80 ≤ R.locals) :
    ∃ (T' : State) (ce : Cell) (L : List Loc), T'.heap = T.heap.setIfInBounds a ce ∧ ce.vm = .none ∧ ce.cls = cX ∧ (∀ q ∈ L, q.base = a) ∧ Stand p l e R s m args below meth c T' (locs ++ L) cells slots ∧
      ∀ target, Steps p.tables e below (T'.setTop { g with pc := g.pc + 3, stack := .ref a :: rest }) target → Steps p.tables e below (T.setTop g) target := by
  obtain ⟨hth, hch, how, hF198, hB⟩ := hOk
  have ow : ∀ x, x ∈ [Cond.instantiable E 6, .initialized E, .selects E Bundle.tFill0 Bundle.tFill0, .selects E Bundle.tFill Bundle.tFill, .lays E Bundle.tN "cause" "Ljava/lang/Throwable;", .lays E Bundle.tN "stackTrace" Bundle.steD, .lays E Bundle.tN "suppressedExceptions" Bundle.listD, .lays E Bundle.tN "backtrace" "Ljava/lang/Object;"] → x.holds args s none s [] = true := how
  have howns : e.platform.frameOwnsMonitors = true := by rw [X.admits.platform]
  have hfin : e.platform.finalization = false := by rw [X.admits.platform]
  have hpl : e.platform.magicAccessors = ({} : Platform).magicAccessors := by rw [X.admits.platform]
  obtain ⟨TT, Z, L, LZ, Y⟩ := ThrowableC.of_atoms (args := args) howns hfin hpl hth
  obtain ⟨P1, Ps, hlen, L1, hL, hP1m, hlink1, hlinks⟩ := Bundle.chain0 (args := args) hpl Y.init0 ["java/lang/RuntimeException", "java/lang/Exception"] E hfE (by decide) hch
  have hfound : s.vm.findClass E = some P1.m.cls := findClass_of_methodNamed hP1m
  cases Option.some.inj (hfoundX.symm.trans hfound)
  obtain ⟨c1, kX', hc1, hk, hord, -, -, hn6⟩ := Cond.instantiable_spec (ow (.instantiable E 6) (by simp))
  cases Option.some.inj (hc1.symm.trans hfound)
  cases Option.some.inj (hkX.symm.trans hk)
  have hsel0 : selectMethod e.platform s.vm P1.m.cls TT.fill0 = .method TT.fill0 := by
    obtain ⟨c2, r2, m2, q1, q2, q3, q4, -⟩ := Cond.selects_spec (ow (.selects E Bundle.tFill0 Bundle.tFill0) (by simp))
    cases Option.some.inj (q1.symm.trans hfound)
    cases Option.some.inj (q2.symm.trans (State.methodFound?_of_named Y.fill0 (by decide)))
    cases Option.some.inj (q3.symm.trans Y.fill0)
    rw [Launch.admits_selectMethod X.admits]; exact q4
  have hselF : selectMethod e.platform s.vm P1.m.cls TT.fill = .method TT.fill := by
    obtain ⟨c2, r2, m2, q1, q2, q3, q4, -⟩ := Cond.selects_spec (ow (.selects E Bundle.tFill Bundle.tFill) (by simp))
    cases Option.some.inj (q1.symm.trans hfound)
    cases Option.some.inj (q2.symm.trans (State.methodFound?_of_named Y.fill (by decide)))
    cases Option.some.inj (q3.symm.trans Y.fill)
    rw [Launch.admits_selectMethod X.admits]; exact q4
  obtain ⟨cellS, hcS0, hiss⟩ := Y.statics
  obtain ⟨u0, hu0⟩ := Cond.staticRefV Y.unassigned L.unassignedStatic L.statics hcS0 hiss hU
  obtain ⟨sen, hsen⟩ := Cond.staticRefV Y.sentinel L.sentinelStatic L.statics hcS0 hiss hV
  obtain ⟨ci198, i198, fB, hk198, hg198, ha198, hsB, -, hnB, htB, hffB⟩ := Cond.ownField (t := .object "java/lang/Object") Y.found L.cls (by decide +kernel) hF198 hB e.platform hpl
  have hclsS : cellS.cls = TT.cT := by
    obtain ⟨c3, k3, i3, f3, a3, cell3, w1, w2, w3, w4, w5, w6, w7, w8, w9⟩ := Cond.laysStatic_spec (hth (.laysStatic Bundle.tN "UNASSIGNED_STACK" Bundle.steD) (by simp [Bundle.throwableAtoms]))
    have e1 := Option.some.inj (w2.symm.trans Y.unassigned)
    simp only [Prod.mk.injEq] at e1
    obtain ⟨rfl, rfl, rfl, rfl⟩ := e1
    cases Option.some.inj (w4.symm.trans L.statics)
    cases Option.some.inj (w5.symm.trans hcS0)
    exact w7
  have hcellS : T.heap[TT.aS]? = some cellS := hsame TT.aS cellS hcS0 hiss ⟨TT.kT, by rw [hclsS]; exact Y.found, by rw [hclsS]; exact L.cls, L.statics⟩
  have hknownS : cellS.vm ≠ .unknown := by
    intro hu
    rw [hu] at hiss
    cases hiss
  have hneS : TT.aS ≠ a := Nat.ne_of_lt (Nat.lt_of_lt_of_le (Array.getElem?_eq_some_iff.mp hcS0).1 hnew)
  obtain ⟨tyC, dC, hdC, hdnC⟩ := Cond.laysAt hfound hk Y.cause (ow (.lays E Bundle.tN "cause" "Ljava/lang/Throwable;") (by simp))
  obtain ⟨tyS, dS, hdS, hdnS⟩ := Cond.laysAt hfound hk Y.stack (ow (.lays E Bundle.tN "stackTrace" Bundle.steD) (by simp))
  obtain ⟨tyP, dP, hdP, hdnP⟩ := Cond.laysAt hfound hk Y.supp (ow (.lays E Bundle.tN "suppressedExceptions" Bundle.listD) (by simp))
  obtain ⟨tyB, dB, hdB, hdnB⟩ := Cond.laysAt hfound hk hffB (ow (.lays E Bundle.tN "backtrace" "Ljava/lang/Object;") (by simp))
  have bC := Cond.laysApart hdB hdC hdnB hdnC (by rw [hnB, Y.causeName]; decide)
  have bS := Cond.laysApart hdB hdS hdnB hdnS (by rw [hnB, Y.stackName]; decide)
  have bP := Cond.laysApart hdB hdP hdnB hdnP (by rw [hnB, Y.suppName]; decide)
  have hskip : SkipFacts TT e.platform s (fun u => u) u0 ((preparedCellV TT.toThrowableT (freshCell P1.m.cls kX) a u0 sen).withEntry T.cur) :=
    ⟨{ ci198 := ci198, i198 := i198, fBack := fB }, ⟨hk198, hg198, ha198, hsB⟩, by
      have := fresh_default (c := P1.m.cls) tyB
      rw [htB] at this
      simpa [preparedCellV, Cell.setSlot, Cell.withEntry, Array.getElem?_setIfInBounds, bC, bS, bP, bC.symm, bS.symm, bP.symm, defaultValue] using this, fun _ _ => rfl⟩
  have hin : (Cond.instanceMethod (Bundle.init0 E)).before args s = true := hch _ (by simp [Bundle.chain0Atoms, Bundle.passAtoms])
  have hco : (Cond.code (Bundle.init0 E) Bundle.five 1 none).before args s = true := hch _ (by simp [Bundle.chain0Atoms, Bundle.passAtoms])
  obtain ⟨tm, methC, cdC, kC, vm₁, hnC, -, -, -, -, -, -, -, hW₁, st1⟩ := Steps.initCold (tb := p.tables) (e := e) (below := below) (s := s) (U := T) X.here hexec X.warmed hpl hown (t := Bundle.init0 E) rfl rfl (Bundle.fit_spec hfE).2
    hlink hin (bytes := Bundle.five) (maxL := 1) hco (f := g) hg (a := a) (rest := .ref a :: rest) hstack hd
  cases Option.some.inj (hnC.symm.trans hP1m)
  have X₁ := X.noted hW₁
  obtain ⟨vm₂, X₂, st2⟩ := X₁.ctorPlainOffV hexec (g := { g with stack := .ref a :: rest }) hg hsize TT L Z LZ (P1 :: Ps)
    (fun P hP => by rcases List.mem_cons.mp hP with rfl | hP; exact L1; exact hL P hP) ⟨hlink1, hlinks⟩ (u0 := u0) (sen := sen) (self := a) (cell := freshCell P1.m.cls kX) (cellS := cellS)
    hcell (fun _ => by simp) (by simp) rfl rfl hsel0 hselF hcellS hneS hknownS hu0 hsen
    (Takes.of_laid hk hord tyC (by rw [Y.causeType]; rfl)) (Takes.of_laid hk hord tyS (by rw [Y.stackType]; exact fits_refV_array _ u0)) (Takes.of_laid hk hord tyP (by rw [Y.suppType]; exact fits_refV_object _ sen)) Y.objLocals hskip htr [] hd
    (by simp only [List.length_cons, hlen, List.length_nil]; omega) (by simp only [List.length_cons, hlen, List.length_nil]; exact hRlocals)
  refine ⟨_, _, _, rfl, rfl, rfl, ?_, X₂, fun target h => st1 _ (fun acts => ?_)⟩
  · intro q hq
    simp only [List.mem_cons, List.not_mem_nil, or_false] at hq
    rcases hq with rfl | rfl | rfl | rfl <;> rfl
  · rw [doInvoke_state]
    exact st2 _ h
end XKC
theorem xk_isref {C n d : String} {Hs : Heap} {s : State} {args : Array Value} (hk : ∀ q : Nat, q < Hs.size → s.heap[q]? = Hs[q]?) (h : xL C n d Hs s) : (Cond.isRef (.static C n d)).before args s = true := by
  obtain ⟨c, k, i, f, a, cell, v, h1, h2, h3, h4, h5, h6, h7, h8, h9, h10, h11⟩ := h
  have h5' : s.heap[a]? = some cell := by rw [hk a (Array.getElem?_eq_some_iff.mp h5).1]; exact h5
  have he : (Term.static C n d).eval args s none [] s = some v := by
    simp [Term.eval, State.fieldNamed?, h2, h3, h4, h5', h6, h10]
  cases v <;> first | (simp [Cond.before, Cond.holds, Cond.value, he]; done) | cases h11
section XKN
variable {p : Program} {l : Launch} {e : Env} {R : Room} {s : State} {m : MethodId} {args : Array Value} {below : List Frame} {meth : Method} {c : Code} {H : Heap} {locs : List Loc} {cells slots : Nat} {Q : State → Prop}
variable {cc : ByteArray} {pc : Nat} {ls : Array Slot} {rest : List Value} {D : va_G} {cl : List vw_C} {A : Nat → Prop} {w : va_W} {Hs : Heap}
/-- new E; dup; its constructor -/
theorem xk_new {own E : String} {idx ic : Nat} (hfl : l.flags = flags0) (hx : p.tables.exec = Jvm.exec) (hb : c.code = cc) (hml : c.maxLocals = ls.size) (hown : s.vm.findClass own = some m.cls) (hfE : Bundle.fit E = true) (hOk : xk_Ok E args s) (hclink : (Cond.classLink own idx E).before args s = true) (hlink : (Cond.methodLink own ic (Bundle.init0 E)).before args s = true)
    (hE : gE Hs s) (hAH : ∀ q, A q → Hs.size ≤ q) (hP : va_P D cl w H) (hS : va_S A s.heap H locs) (hA : ∀ q, s.heap.size ≤ q → A q) (hcells : cells + 1 ≤ R.cells) (hslots : slots + 6 ≤ R.slots) (hfr : 5 < R.frames) (hlo : (rest.map fun v => v.category).sum + 81 ≤ R.locals)
    (d0 : decode cc pc = .ok (.new idx, 3)) (d3 : decode cc (pc + 3) = .ok (.dup, 1)) (d4 : decode cc (pc + 4) = .ok (.invokespecial ic, 3))
    (kk : ∀ (a : Nat) (H1 : Heap) (locs1 : List Loc) (ce : Cell), H1[a]? = some ce → ce.vm.isStatics = false → s.vm.findClass E = some ce.cls → va_P D cl w H1 → va_S A s.heap H1 locs1 → W p l e R s m args below meth c H1 locs1 (cells + 1) (slots + 6) Q (F0 m (pc + 7) ls (.ref a :: rest))) :
    W p l e R s m args below meth c H locs cells slots Q (F0 m pc ls rest) := by
  refine W.newc (C := E) (n := 6) hx hb hown hclink (hOk.2.2.1 _ (by simp)) (hOk.2.2.1 _ (by simp)) rfl d0 hcells hslots (fun cC kC h1 h2 h3 h4 => ?_)
  refine lv_dup (pc := pc + 3) hx hb d3 rfl ?_
  intro T hT X
  have hsz : s.heap.size ≤ H.size := hS.1
  have hcell : T.heap[H.size]? = some (freshCell cC kC) := by rw [hT]; simp
  obtain ⟨T', ce, L, g1, g2, g3, g4, X', st⟩ := xk_ctor X hx (Launch.traces_off hfl X.admits) hown hfE hOk hlink (xk_isref hE.2.2.1 hE.2.2.2.2.1) (xk_isref hE.2.2.1 hE.2.2.2.2.2.1) (fun q cell hq _ hst => by
      obtain ⟨k, hk1, hk2, hk3⟩ := hst
      obtain ⟨c5, k5, i5, f5, a5, cell5, v5, w1, w2, w3, w4, w5, -⟩ := hE.2.2.2.2.1
      cases Option.some.inj (w1.symm.trans hk1)
      cases Option.some.inj ((State.fieldFound?_spec w2).1.symm.trans hk2)
      cases Option.some.inj (w4.symm.trans hk3)
      have hlt : q < Hs.size := (Array.getElem?_eq_some_iff.mp w5).1
      have hq2 : q < s.heap.size := (Array.getElem?_eq_some_iff.mp hq).1
      rw [hT, Array.getElem?_push, if_neg (by omega), hS.2.1 q hq2 (fun z => absurd (hAH q z) (by omega))]
      exact hq) h1 h2 hcell hsz (g := F0 m (pc + 4) ls (.ref H.size :: .ref H.size :: rest)) rfl hml.symm rfl (by rw [hb]; exact d4) hfr (by show 2 * 0 + (1 + (rest.map fun v => v.category).sum) + 80 ≤ R.locals; omega)
  have hlt : H.size < T.heap.size := by rw [hT]; simp
  have hH1 : ∀ q : Nat, q < H.size → T'.heap[q]? = H[q]? := fun q hq => by
    rw [g1, Array.getElem?_setIfInBounds, if_neg (by omega), hT, Array.getElem?_push, if_neg (by omega)]
  have hce : T'.heap[H.size]? = some ce := by rw [g1, Array.getElem?_setIfInBounds, if_pos rfl, if_pos hlt]
  have hsz' : T'.heap.size = H.size + 1 := by rw [g1, hT]; simp
  obtain ⟨t, a1, b1⟩ := kk H.size T'.heap (locs ++ L) ce hce (by rw [g2]; rfl) (by rw [g3]; exact h1) (fun k q hq => (hP k q hq).kept (hH1 _ (hP k q hq).lt)) ⟨by omega, fun q q1 q2 => by rw [hH1 q (by omega)]; exact hS.2.1 q q1 q2, fun q hq => by
      rcases List.mem_append.mp hq with h | h
      · exact hS.2.2 q h
      · rw [g4 q h]; exact hA _ hsz⟩ T' rfl X'
  exact ⟨t, st t a1, b1⟩
end XKN
section XKR
variable {p : Program} {l : Launch} {e : Env} {R : Room} {s : State} {m : MethodId} {args : Array Value} {below : List Frame} {meth : Method} {c : Code} {H : Heap} {locs : List Loc} {cells slots : Nat} {Q : State → Prop}
variable {y : MethodName} {bytes cc : ByteArray} {maxL nL mc ms n index : Nat} {ret : Option FieldType} {ws : List Cond} {rm : Room} {Pc : Array Value → State → Prop} {Qc : Array Value → State → Outcome → State → Prop} {free : Addr → Prop} {Ts : List Cond} {own C : String} {b : Addr} {As rest : List Value} {g : JFrame}
/-- a call that throws: the note lies over the caller's frame -/
def xk_Run (p : Program) (l : Launch) (e : Env) (R : Room) (s : State) (m : MethodId) (args : Array Value) (below : List Frame) (meth : Method) (c : Code) (H : Heap) (locs : List Loc) (cells slots mc ms : Nat) (g : JFrame) (rest : List Value) (Qa : State → Outcome → State → Prop) (free : Addr → Prop) : Prop :=
  ∀ T : State, T.heap = H → Stand p l e R s m args below meth c T locs cells slots → ∃ (q : Addr) (st₀ t T' : State) (L : List Loc), st₀.heap = H ∧ Stand p l e R s m args below meth c T' (locs ++ L) (cells + mc) (slots + ms) ∧ (∀ z ∈ L, free z.base) ∧ T'.heap = t.heap ∧ T'.vm = t.vm ∧ Qa st₀ (.threw q) t ∧
    Steps p.tables e below (T.setTop g) ((T'.setTop { g with stack := rest }).pushFrame (.throwing q))
theorem xk_back {U : State} {mk : MethodId} {a : Array Value} {ig : Instr} {len : Nat} (X : Stand p l e R s m args below meth c U locs cells slots) (hg : g.method = m) (hsize : g.locals.size = c.maxLocals) (hdg : decode c.code g.pc = .ok (ig, len)) (hW : 2 * g.monitorRoom + (g.stack.map fun v => v.category).sum ≤ 8) (hn : U.methodNamed? y = some mk)
    (hM : xk_Met l y ws rm Pc Qc mc ms free) (hblind : FrameBlind Pc) (hrc : rm.cells = mc) (hrs : rm.slots = ms) (hframes : rm.frames + 1 ≤ R.frames) (hlocals : 8 + (maxL + 11) + rm.locals ≤ R.locals) (hws : ∀ w ∈ ws, ∀ (a' : Array Value) (U : State), s.WarmedH U.vm → w.before a' U = true) (hcode : Cond.code y bytes maxL ret ∈ ws) (hinit : (Cond.initialized y.cls).before args s = true)
    (hPc : Pc a U) (hf : cells + mc ≤ R.cells ∧ slots + ms ≤ R.slots) : ∃ (q : Addr) (t T' : State) (L : List Loc), Stand p l e R s m args below meth c T' (locs ++ L) (cells + mc) (slots + ms) ∧ (∀ z ∈ L, free z.base) ∧ T'.heap = t.heap ∧ T'.vm = t.vm ∧ Qc a (U.calling g mk a) (.threw q) t ∧ Steps p.tables e below (doInvoke e (U.setTop g) [] mk a).1 ((T'.setTop g).pushFrame (.throwing q)) := by
  have h2 := hws _ hcode a U X.warmed
  obtain ⟨methY, cY, hmY, hcY, -, hlY, -, -, -, -⟩ := Cond.code_spec hn h2
  obtain ⟨kY, hkY, -⟩ := className_of_methodNamed hn
  have hini : (Cond.initialized y.cls).before a U = true := word_at X.warmed (Or.inl rfl) hinit
  have hinitY : kY.init = .initialized := Cond.initialized_spec (findClass_of_methodNamed hn) hkY hini
  have h : At U g.method c below := by rw [hg]; exact X.here
  have happ : (headSpec ws rm).appliesLoose y e.platform (U.calling g mk a) = true :=
    Spec.appliesLoose_calling (g := g) h hdg hn hkY hinitY
      (X.room_calling (g := g) (R' := (headSpec ws rm).room) hsize hmY hcY hframes (by rw [hlY]; show _ + _ + _ + rm.locals ≤ _; omega) (by show cells + rm.cells ≤ _; rw [hrc]; exact hf.1) (by show slots + rm.slots ≤ _; rw [hrs]; exact hf.2)) (atoms_intro fun w hw => hws w hw _ _ X.warmed)
  obtain ⟨mid, hmid⟩ := h.above
  have hfr : (U.setTop g).frames = (.java g :: mid) ++ below := by rw [State.frames_setTop' g h.top, hmid]; rfl
  obtain ⟨o, s₂, hsteps, -, hend, hq⟩ := Steps.callFree hM p X.admits X.cas X.clock (acts := []) hfr happ (hblind _ _ _ _ hPc) trivial
  have hq' : Qc a (U.calling g mk a) o s₂ ∧ ∃ L, xk_End (U.calling g mk a) o s₂ L mc ms ∧ ∀ q ∈ L, free q.base := hq
  rw [State.frames_setTop' g h.top] at hend
  obtain ⟨hq1, L, ⟨⟨q, rfl⟩, hW₂, hsame⟩, hL⟩ := hq'
  rw [X.tail] at hend
  obtain ⟨T', X', hWT, hs2, ht⟩ := X.outOfThrown (g := g) hg (mk := mk) (a := a) (t := s₂) (x := q) hend hW₂ hsame
  refine ⟨q, s₂, T', L, X', hL, ?_, ?_, hq1, ?_⟩
  · rw [ht]; rfl
  · rw [ht]; rfl
  · rw [← ht]; exact hsteps
theorem xk_runV (S : CallFix p m c cc nL s args Ts own) (hM : xk_Met l y ws rm Pc Qc mc ms free) (cw : CallW R s args own C index y bytes maxL ret ws rm mc ms n) (hp : PreV s H C b Pc As)
    (hg : g.method = m) (hn : As.length = n) (hsize : g.locals.size = nL) (hstack : g.stack = As.reverse ++ .ref b :: rest) (hW : 2 * g.monitorRoom + (rest.map fun v => v.category).sum ≤ 8) (hdg : decode cc g.pc = .ok (.invokevirtual index, 3)) (hf : cells + mc ≤ R.cells ∧ slots + ms ≤ R.slots) :
    xk_Run p l e R s m args below meth c H locs cells slots mc ms g rest (Qc (Value.ref b :: As).toArray) free := by
  obtain ⟨⟨hrc, hrs, hfr, hlo, hws, hcw, hcode, hini, hy, hlen, hl⟩, hinst, hsel⟩ := cw
  obtain ⟨hx, hb, hml, ho, -⟩ := S
  obtain ⟨hblind, ⟨cellB, hcB, hobj, hcls⟩, hPc⟩ := hp
  intro T hT X
  obtain ⟨mk, methM, hnamed, hmethM, hstM, habM⟩ := Cond.instanceMethod_spec hinst
  obtain ⟨methM', cM, hmethM', -, -, -, -, -, -, hsigM⟩ := Cond.code_spec hnamed hcode
  cases hmethM.symm.trans hmethM'
  obtain ⟨c2, r2, m2, q1, q2, q3, q4, kP, hkP, hkPi⟩ := Cond.selects_spec hsel
  cases hcls.symm.trans q1
  cases (State.methodFound?_of_named hnamed hy).symm.trans q2
  cases hnamed.symm.trans q3
  have hselP : selectMethod e.platform s.vm cellB.cls mk = .method mk := by rw [Launch.admits_selectMethod X.admits]; exact q4
  obtain ⟨vm₁, X₁, hstep₁⟩ := X.invokevirtual hx ho hl hnamed hmethM hstM hkP hkPi hy (a := b) (cell := cellB) (by rw [hT]; exact hcB)
    (fun z h => by rw [h] at hobj; cases hobj) hselP hmethM habM hkP hkPi (g := g) hg (argsL := As) (rest := rest) (hn.trans (hlen _ hsigM)) hstack (by rw [hb]; exact hdg)
  obtain ⟨q, t, T', L, X', hL, e1, e2, hq, hsteps⟩ := xk_back X₁ (g := { g with stack := rest }) hg (hsize.trans hml.symm) (by rw [hb]; exact hdg) hW (X₁.named hnamed) hM hblind hrc hrs hfr hlo hws hcw hini (hPc (T.setVm vm₁) hT X₁.warmed) hf
  exact ⟨q, (T.setVm vm₁).calling { g with stack := rest } mk (Value.ref b :: As).toArray, t, T', L, hT, X', hL, e1, e2, hq, hstep₁ _ fun acts => by rw [doInvoke_state]; exact hsteps⟩
end XKR
section XKP
variable {p : Program} {l : Launch} {e : Env} {R : Room} {s : State} {m : MethodId} {args : Array Value} {below : List Frame} {meth : Method} {c : Code} {H : Heap} {locs : List Loc} {cells slots : Nat} {Q : State → Prop}
variable {pc : Nat} {ls : Array Slot} {rest st0 : List Value} {D : va_G} {cl : List vw_C} {A : Nat → Prop} {tys : List (ClassId × FieldType)} {ws wc wc0 : va_W} {mc ms mc0 ms0 sz : Nat} {av : Array Value} {E : String}
/-- what a callee throws goes on out of the method -/
theorem xk_prop {post post' : va_W → Prop} (hQ : Q = xk_MQ below (xk_Q E post' (kB D cl tys wc0 sz) (va_A wc0 sz)) args s mc0 ms0 A) (hlk : meth.locks = false) (hem : c.exceptionTable.isEmpty = true) (hAe : A = va_A wc0 sz) (hK : va_K D cl tys s)
    (hr : xk_Run p l e R s m args below meth c H locs cells slots mc ms (F0 m pc ls st0) rest (xk_Q E post (kB D cl tys wc H.size) (va_A wc H.size) av) (va_A wc H.size)) (hP : va_P D cl ws H) (hD : va_D A ws) (hS : va_S A s.heap H locs) (hA : ∀ q, s.heap.size ≤ q → A q) (is : List Nat) (hC : is.map (fun i => ws[i]?) = wc.map some) (hn : va_nd is = true)
    (hpost : ∀ w1, post w1 → wc0.length ≤ (ck_set ws is w1).length ∧ post' (ck_set ws is w1)) (hc : cells + mc ≤ mc0) (hs : slots + ms ≤ ms0) : W p l e R s m args below meth c H locs cells slots Q (F0 m pc ls st0) := by
  have hF := va_free hD hS hA is hC
  subst hAe
  subst hQ
  intro T hT X
  obtain ⟨q, st₀, t, T', L, h0, X', hL, e1, e2, ⟨⟨q', u, ce, hq', hp, hB, hce, hst, hcl⟩, hz, hk⟩, st⟩ := hr T hT X
  cases hq'
  rw [h0] at hz hk
  obtain ⟨hl, hP1, hK1, hD1⟩ := hB
  obtain ⟨g1, g2⟩ := ck_join hP hD is hC hn (by rw [ck_len hC]; exact hl) hk hF hP1 hD1
  obtain ⟨p1, p2⟩ := hpost u hp
  have X2 := stand_widen X' hc hs
  obtain ⟨st2, hrun, hended, hW, hsame⟩ := X2.leaveThrown q (g := F0 m pc ls rest) rfl rfl rfl (xk_none hem _) hlk
  have hh : (T'.setFrames (.throwing q :: below)).heap = t.heap := e1
  have hS1 : va_S (va_A wc0 sz) s.heap t.heap (locs ++ L) := ⟨Nat.le_trans hS.1 hz, fun z h1 h2 => by rw [hk z (Nat.lt_of_lt_of_le h1 hS.1) (fun y => h2 (hF z y))]; exact hS.2.1 z h1 h2, fun z hz2 => by
      rcases List.mem_append.mp hz2 with h | h
      · exact hS.2.2 z h
      · exact hF _ (hL z h)⟩
  refine ⟨_, st.trans st2, .threw q, hrun, hended, ⟨⟨q, ck_set ws is u, ce, rfl, p2, ⟨p1, by rw [hh]; exact g1, va_K.moved hW.alike hK, g2⟩, by rw [hh]; exact hce, hst, by rw [hW.alike.findClass, ← (by rw [← e2]; exact X'.warmed.alike : s.vm.Alike t.vm).findClass]; exact hcl⟩, hS1.F hh⟩, locs ++ L, ⟨⟨q, rfl⟩, hW, hsame⟩, hS1.2.2⟩
end XKP
/-- the rows of a table up to the one that takes an E -/
def xc_rows (own : String) (args : Array Value) (s : State) (E : String) (pc hpc : Nat) : List ExceptionTableEntry → Prop
  | [] => False
  | x :: t => covers x pc = true ∧ x.catchType ≠ 0 ∧ ∃ B : String, (Cond.classLink own x.catchType B).before args s = true ∧ ((x.handlerPc = hpc ∧ ∀ a b, s.vm.findClass E = some a → s.vm.findClass B = some b → s.vm.assignable a b = true) ∨ ((∀ a b, s.vm.findClass E = some a → s.vm.findClass B = some b → s.vm.assignable a b = false) ∧ xc_rows own args s E pc hpc t))
theorem xc_find {own E : String} {args : Array Value} {s : State} {e : Env} {cM a : Nat} {f : JFrame} {hpc : Nat} (hown : s.vm.findClass own = some f.method.cls) (hpl : e.platform.magicAccessors = ({} : Platform).magicAccessors) {cell : Cell} (hobj : cell.vm.isStatics = false) (hcls : s.vm.findClass E = some cell.cls) :
    ∀ (tb : List ExceptionTableEntry) (U : State), xc_rows own args s E f.pc hpc tb → s.WarmedH U.vm → U.heap[a]? = some cell → ∃ vm', s.WarmedH vm' ∧ xc_Fd e U f a tb hpc vm' := by
  intro tb
  induction tb with
  | nil => intro U h; exact absurd h id
  | cons x t ih =>
    intro U h hW hcell
    obtain ⟨h1, h2, B, h3, h4⟩ := h
    obtain ⟨c', hc', hcl⟩ := Cond.classLink_spec hown h3 e.platform hpl
    obtain ⟨dk, _, _, kt, hd, _, _, _, _, hkt, _, hopen⟩ := hcl.here
    have hclU := hW.classLinks hcl
    have hW' : s.WarmedH (U.vm.noted f.method.cls x.catchType (.cls c')) := hW.noted hd hopen (State.rightAt_cls hcl)
    have hal : U.vm.Alike (U.vm.noted f.method.cls x.catchType (.cls c')) := hW.alike.symm.trans hW'.alike
    obtain ⟨kc, hkc⟩ := Vm.classAt_of_findClass hcls
    obtain ⟨k1, hk1, -⟩ := hW.alike.2.2 _ _ hkc
    obtain ⟨k2, hk2, -⟩ := hW.alike.2.2 _ _ hkt
    rcases h4 with ⟨rfl, hy⟩ | ⟨hy, h5⟩
    · exact ⟨_, hW', xc_yes h1 h2 hclU hcell (VmData.noStatics_of hobj) hal ⟨k1, hk1⟩ ⟨k2, hk2⟩ (by rw [hW.alike.assignable]; exact hy _ _ hcls hc')⟩
    · obtain ⟨vm', hv1, hv2⟩ := ih (U.setVm (U.vm.noted f.method.cls x.catchType (.cls c'))) h5 hW' hcell
      exact ⟨vm', hv1, xc_no h1 h2 hclU hcell (VmData.noStatics_of hobj) hal ⟨k1, hk1⟩ ⟨k2, hk2⟩ (by rw [hW.alike.assignable]; exact hy _ _ hcls hc') hv2⟩
section XKH
variable {p : Program} {l : Launch} {e : Env} {R : Room} {s : State} {m : MethodId} {args : Array Value} {below : List Frame} {meth : Method} {c : Code} {H : Heap} {locs : List Loc} {cells slots : Nat} {Q : State → Prop}
variable {pc : Nat} {ls : Array Slot} {rest st0 : List Value} {D : va_G} {cl : List vw_C} {A : Nat → Prop} {tys : List (ClassId × FieldType)} {ws wc : va_W} {mc ms : Nat} {av : Array Value} {E own : String} {hh : List (Nat × Nat × Nat × Nat)} {hpc : Nat}
/-- what a callee throws is caught here -/
theorem xk_catch {post : va_W → Prop} (hown : s.vm.findClass own = some m.cls) (hr : xk_Run p l e R s m args below meth c H locs cells slots mc ms (F0 m pc ls st0) rest (xk_Q E post (kB D cl tys wc H.size) (va_A wc H.size) av) (va_A wc H.size)) (htb : c.exceptionTable.toList = tableOf hh) (hrows : xc_rows own args s E pc hpc (tableOf hh))
    (hP : va_P D cl ws H) (hD : va_D A ws) (hS : va_S A s.heap H locs) (hA : ∀ q, s.heap.size ≤ q → A q) (is : List Nat) (hC : is.map (fun i => ws[i]?) = wc.map some) (hn : va_nd is = true)
    (kk : ∀ (q : Nat) (w1 : va_W) (H1 : Heap) (locs1 : List Loc), post w1 → va_P D cl (ck_set ws is w1) H1 → va_D A (ck_set ws is w1) → va_S A s.heap H1 locs1 → W p l e R s m args below meth c H1 locs1 (cells + mc) (slots + ms) Q (F0 m hpc ls [.ref q])) : W p l e R s m args below meth c H locs cells slots Q (F0 m pc ls st0) := by
  have hF := va_free hD hS hA is hC
  intro T hT X
  obtain ⟨q, st₀, t, T', L, h0, X', hL, e1, e2, ⟨⟨q', u, ce, hq', hp, hB, hce, hst, hcl⟩, hz, hk⟩, st⟩ := hr T hT X
  cases hq'
  rw [h0] at hz hk
  obtain ⟨hl, hP1, hK1, hD1⟩ := hB
  obtain ⟨g1, g2⟩ := ck_join hP hD is hC hn (by rw [ck_len hC]; exact hl) hk hF hP1 hD1
  have hS1 : va_S A s.heap t.heap (locs ++ L) := ⟨Nat.le_trans hS.1 hz, fun z h1 h2 => by rw [hk z (Nat.lt_of_lt_of_le h1 hS.1) (fun y => h2 (hF z y))]; exact hS.2.1 z h1 h2, fun z hz2 => by
      rcases List.mem_append.mp hz2 with h | h
      · exact hS.2.2 z h
      · exact hF _ (hL z h)⟩
  have hpl : e.platform.magicAccessors = ({} : Platform).magicAccessors := by rw [X.admits.platform]
  have hal : s.vm.Alike t.vm := by rw [← e2]; exact X'.warmed.alike
  obtain ⟨vm', hW', hfd⟩ := xc_find (cM := 0) (f := F0 m pc ls rest) (a := q) (e := e) hown hpl hst (by rw [← hal.findClass]; exact hcl) (tableOf hh) ((T'.setTop (F0 m pc ls rest)).pushFrame (.throwing q)) hrows X'.warmed (by show T'.heap[q]? = _; rw [e1]; exact hce)
  have hm' : T'.vm.method? m = some meth := X'.method'
  obtain ⟨t2, a1, b1⟩ := kk q u t.heap (locs ++ L) hp g1 g2 hS1 (T'.setVm vm') e1 (X'.noted hW')
  refine ⟨t2, st.trans (xc_caught (g := F0 m pc ls rest) X'.here hm' X'.code (by rw [htb]; exact hfd) a1), b1⟩
end XKH
/-- a method with handlers: its start -/
theorem k_ofW {l : Launch} {Hs : Heap} {D : va_G} {cl : List vw_C} {tys : List (ClassId × FieldType)} {y : MethodName} {ws ws' : List Cond} {rm : Room} {av : List Value} {wc : va_W} {sz mc ms : Nat} {Qc : Array Value → State → Outcome → State → Prop} {cc : ByteArray} {maxL : Nat} {ret : Option FieldType} {hh : List (Nat × Nat × Nat × Nat)}
    (hy : plainName y.cls = true) (hw : ws = Cond.codeWith y cc maxL ret hh :: ws') (hlen : (lg_sl av).length ≤ maxL)
    (body : ∀ (p : Program) (e : Env) (s : State) (m : MethodId) (args : Array Value) (below : List Frame) (meth : Method) (c : Code) (ls : Array Slot) (H : Heap) (locs : List Loc) (A : Nat → Prop) (Q : State → Prop), Q = MQ below Qc args s mc ms A → p.tables.exec = Jvm.exec → c.code = cc → c.maxLocals = maxL → meth.sig.returnType = ret → (∀ w ∈ ws, w.before args s = true) → s.vm.findClass y.cls = some m.cls → meth.locks = false → meth.name = y.name → s.heap.size = sz → A = va_A wc sz →
      va_P D cl wc H → va_K D cl tys s → va_D A wc → va_S A s.heap H locs → (∀ q, s.heap.size ≤ q → A q) → gE Hs s → (∀ q, A q → Hs.size ≤ q) → lv_has ls maxL (lv_args 0 av) → c.exceptionTable.toList = tableOf hh → W p l e rm s m args below meth c H locs 0 0 Q (F0 m 0 ls [])) :
    Met l y ws rm (kP Hs D cl tys av wc sz) Qc mc ms (va_A wc sz) := by
  refine va_MetW (cc := cc) (maxL := maxL) (ret := ret) (hh := hh) hy hw ?_
  intro p e s m args below meth c s₁ B hml hv
  have htb : c.exceptionTable.toList = tableOf hh := by
    obtain ⟨m9, meth9, c9, hn9, h1, h2, -, -, h5, -⟩ := Cond.codeWith_spec (atoms_spec (ws := ws) B.pre _ (by rw [hw]; exact List.mem_cons_self))
    cases B.named.symm.trans hn9
    cases B.method.symm.trans h1
    cases (Stand.of_body B).code.symm.trans h2
    rw [← h5, table_eq]
  obtain ⟨rfl, hsz, hP, hK, hD0, hE⟩ := hv
  have hl := lv_entry av (n := maxL) hlen
  rw [lg_entry_eq]
  generalize (lg_sl av ++ List.replicate (maxL - (lg_sl av).length) Slot.unset).toArray = ls at hl ⊢
  exact body p e s m _ below meth c ls s.heap [] (va_A wc sz) _ rfl B.exec B.bytes hml B.returns (atoms_spec (ws := ws) B.pre) (findClass_of_methodNamed B.named) B.notSynchronized (name_of_methodNamed B.named B.method).1 hsz rfl hP hK (hD0.self (sz := sz)) va_S.rf (fun q h => Or.inr (by rw [← hsz]; exact h)) hE (fun q h => by
    rcases h with ⟨k, e2, h⟩ | h
    · exact hD0.2 k (q, e2) h
    · exact Nat.le_trans hE.2.1 (by rw [hsz]; exact h)) hl htb
/-- the words of a method with handlers -/
abbrev mwh (y : MethodName) (bytes : ByteArray) (maxL : Nat) (ret : Option FieldType) (hh : List (Nat × Nat × Nat × Nat)) : List Cond := Cond.codeWith y bytes maxL ret hh :: mw
theorem mwh_at {y : MethodName} {bytes : ByteArray} {maxL : Nat} {ret : Option FieldType} {hh : List (Nat × Nat × Nat × Nat)} {args : Array Value} {s : State} (ht : ∀ w ∈ mw, w.before args s = true) (hc : Cond.codeWith y bytes maxL ret hh ∈ mw) : ∀ w ∈ mwh y bytes maxL ret hh, ∀ (a' : Array Value) (U : State), s.WarmedH U.vm → w.before a' U = true := by
  intro w hw a' U hW
  have hm : w ∈ mw := (List.mem_cons.mp hw).elim (fun e => by rw [e]; exact hc) id
  exact word_at hW (mw_good w hm) (ht w hm)
section XKS
variable {p : Program} {l : Launch} {e : Env} {R : Room} {s : State} {m : MethodId} {args : Array Value} {below : List Frame} {meth : Method} {c : Code} {H : Heap} {locs : List Loc} {cells slots : Nat} {Q : State → Prop}
variable {y : MethodName} {bytes cc : ByteArray} {maxL nL n index : Nat} {ret : Option FieldType} {hh : List (Nat × Nat × Nat × Nat)} {rm : Room} {Pc : Array Value → State → Prop} {Qc : Array Value → State → Outcome → State → Prop} {free : Addr → Prop} {Ts : List Cond} {own : String} {As rest : List Value} {g : JFrame}
/-- a static method with handlers, called -/
theorem xk_runSW (S : CallFix p m c cc nL s args Ts own) (hM : Met l y (mwh y bytes maxL ret hh) rm Pc Qc rm.cells rm.slots free) (ht : ∀ w ∈ mw, w.before args s = true) (hc : Cond.codeWith y bytes maxL ret hh ∈ mw) (hi : Cond.initialized y.cls ∈ mw) (hl : Cond.methodLink own index y ∈ mw) (hst : Cond.static y ∈ mw)
    (hd : y.cls ≠ "java/lang/invoke/MethodHandle" ∧ y.cls ≠ "java/lang/invoke/VarHandle" ∧ (parseMethodDescriptor y.desc).map (fun d => d.parameters.length) = some n) (hR : rm.frames + 1 ≤ R.frames ∧ 8 + (maxL + 11) + rm.locals ≤ R.locals) (hp : PreS s H Pc As)
    (hg : g.method = m) (hn : As.length = n) (hsize : g.locals.size = nL) (hstack : g.stack = As.reverse ++ rest) (hW : 2 * g.monitorRoom + (rest.map fun v => v.category).sum ≤ 8) (hdg : decode cc g.pc = .ok (.invokestatic index, 3)) (hf : cells + rm.cells ≤ R.cells ∧ slots + rm.slots ≤ R.slots) :
    va_Run p l e R s m args below meth c H locs cells slots rm.cells rm.slots g rest (Qc As.toArray) free := by
  have hK : Back l R p e below s args y 3 8 (PreOf R rm.cells rm.slots Pc) (PostOf Qc rm.cells rm.slots free) := va_backW (hh := hh) (bytes := bytes) (maxL := maxL) (ret := ret) hM hp.1 rfl rfl hR.1 hR.2 (mwh_at ht hc) List.mem_cons_self (fun a' U hW => word_at hW (mw_good _ hi) (ht _ hi))
  obtain ⟨hx, hb, hml, ho, -⟩ := S
  intro T hT X
  obtain ⟨mk, methM, cM, hnamed, hmethM, -, -, -, -, -, -, hsigM⟩ := Cond.codeWith_spec (ht _ hc)
  have hstatic : methM.isStatic = true := Cond.static_spec hnamed hmethM (ht _ hst)
  obtain ⟨kP, hkP, -⟩ := className_of_methodNamed hnamed
  have hinitP : kP.init = .initialized := Cond.initialized_spec (findClass_of_methodNamed hnamed) hkP (ht _ hi)
  have hlen : As.length = methM.sig.parameters.length := by
    have h2 := hd.2.2
    rw [hsigM] at h2
    exact hn.trans (Option.some.inj h2).symm
  obtain ⟨vm₁, X₁, hstep₁⟩ := X.invokestatic hx ho (ht _ hl) hnamed hmethM hstatic hkP hinitP ⟨hd.1, hd.2.1⟩ (g := g) hg (argsL := As) (rest := rest) hlen hstack (by rw [hb]; exact hdg)
  obtain ⟨v, ⟨U', l2, c2, s2⟩, X', ⟨g', mk', t, L, e1, e2, hq, h1, hL, h2, h3⟩, hsteps⟩ := hK m meth c ⟨T.setVm vm₁, locs, cells, slots⟩ { g with stack := rest } (.invokestatic index) mk As.toArray X₁ hg (hsize.trans hml.symm) (by rw [hb]; exact hdg) hW (X₁.named hnamed) ⟨hf.1, hf.2, hp.2 (T.setVm vm₁) hT X₁.warmed⟩
  dsimp only [Pt.U, Pt.locs, Pt.cells, Pt.slots] at X' e1 e2 h1 h2 h3 hsteps
  subst h1; subst h2; subst h3
  exact ⟨v, (T.setVm vm₁).calling g' mk' As.toArray, t, U', L, hT, X', hL, e1, e2, hq, fun target h => hstep₁ _ fun acts => by rw [doInvoke_state]; exact hsteps.trans h⟩
end XKS
