/-! The form of the contracts; a method's start and end; behind a call. -/
/-- a static that holds a reference or null, in the heap that the law found -/
def xL (C n d : String) (Hs : Heap) (U : State) : Prop := ∃ (c : ClassId) (k : Class) (i : Nat) (f : Field) (a : Nat) (cell : Cell) (v : Value), U.vm.findClass C = some c ∧ U.fieldFound? C n d = some (c, k, i, f) ∧ f.isStatic = true ∧ k.statics = some a ∧ Hs[a]? = some cell ∧ cell.vm.isStatics = true ∧ cell.cls = c ∧ f.slot < cell.slots.size ∧ k.staticTypes[f.slot]? = some f.type ∧ cell.slots[f.slot]? = some v ∧ v.isRef = true
theorem xL.moved {C n d : String} {Hs : Heap} {u U : State} (hvm : u.vm.Alike U.vm) (h : xL C n d Hs u) : xL C n d Hs U := by
  obtain ⟨c, k, i, f, a, cell, v, h1, h2, h3, h4, h5, h6, h7, h8, h9, h10⟩ := h
  obtain ⟨k', hi', he⟩ := State.fieldFound?_setVm hvm h2
  exact ⟨c, k', i, f, a, cell, v, by rw [hvm.findClass]; exact h1, hi', h3, by rw [he]; exact h4, h5, h6, h7, h8, by rw [he]; exact h9, h10⟩
/-- 3, 5, 7 .. -/
def bsV : Nat → Value := fun j => .int (nI (3 + 2 * j))
def gB (Hs : Heap) (U : State) : Prop := ∃ t : Nat, va_Z "PinwheelKernel" "BASES" "[I" (.ref t) (fun q => Hs.size ≤ q) U U.heap ∧ va_T .int t 7 bsV (fun q => Hs.size ≤ q) U U.heap
theorem gB.moved {Hs : Heap} {u U : State} (hvm : u.vm.Alike U.vm) (hk : ∀ a : Nat, a < Hs.size → U.heap[a]? = u.heap[a]?) (h : gB Hs u) : gB Hs U := by
  obtain ⟨t, h1, h2⟩ := h
  exact ⟨t, (h1.moved hvm).kept (fun a _ h => hk a (Nat.not_le.mp h)), (h2.moved hvm).kept (fun a _ h => hk a (Nat.not_le.mp h))⟩
/-- classes of which the first can't be cast to the second -/
def xnl : List (String × String) := [("java/lang/IllegalStateException", "java/lang/IllegalArgumentException"), ("java/lang/UnsupportedOperationException", "java/lang/IllegalArgumentException"), ("java/lang/UnsupportedOperationException", "java/lang/IllegalStateException"), ("java/lang/IllegalStateException", "java/util/NoSuchElementException"), ("java/lang/IndexOutOfBoundsException", "java/lang/IllegalStateException")]
def xN (U : State) : Prop := ∀ q ∈ xnl, ∀ a b : ClassId, U.vm.findClass q.1 = some a → U.vm.findClass q.2 = some b → U.vm.assignable a b = false
theorem xN.moved {u U : State} (hvm : u.vm.Alike U.vm) (h : xN u) : xN U := fun q hq a b ha hb => by
  rw [hvm.findClass] at ha hb
  rw [hvm.assignable]
  exact h q hq a b ha hb
/-- the words of the nest, and the heap that the law found: nothing of it has changed -/
def gE (Hs : Heap) (U : State) : Prop := nz U ∧ Hs.size ≤ U.heap.size ∧ (∀ q : Nat, q < Hs.size → U.heap[q]? = Hs[q]?) ∧ gB Hs U ∧ xL "java/lang/Throwable" "UNASSIGNED_STACK" "[Ljava/lang/StackTraceElement;" Hs U ∧ xL "java/lang/Throwable" "SUPPRESSED_SENTINEL" "Ljava/util/List;" Hs U ∧ xN U
theorem gE_at {Hs H : Heap} {s U : State} {A : Nat → Prop} {locs : List Loc} (hE : gE Hs s) (hS : va_S A s.heap H locs) (hAH : ∀ q, A q → Hs.size ≤ q) (hU : U.heap = H) (hW : s.WarmedH U.vm) : gE Hs U := by
  obtain ⟨h1, h2, h3, h4, h5, h6, h7⟩ := hE
  have hk : ∀ q : Nat, q < Hs.size → U.heap[q]? = s.heap[q]? := fun q hq => by
    rw [hU, hS.2.1 q (Nat.lt_of_lt_of_le hq h2) (fun z => absurd (hAH q z) (Nat.not_le.mpr hq))]
  exact ⟨nz_warm hW h1, by rw [hU]; exact Nat.le_trans h2 hS.1, fun q hq => (hk q hq).trans (h3 q hq), h4.moved hW.alike hk, h5.moved hW.alike, h6.moved hW.alike, h7.moved hW.alike⟩
abbrev kP (Hs : Heap) (D : va_G) (cl : List vw_C) (tys : List (ClassId × FieldType)) (av : List Value) (wc : va_W) (sz : Nat) : Array Value → State → Prop := va_Pc av (fun U => U.heap.size = sz ∧ va_P D cl wc U.heap ∧ va_K D cl tys U ∧ va_D (fun q => Hs.size ≤ q) wc ∧ gE Hs U)
abbrev kB (D : va_G) (cl : List vw_C) (tys : List (ClassId × FieldType)) (wc : va_W) (sz : Nat) : va_W → State → Prop := fun w t => wc.length ≤ w.length ∧ va_P D cl w t.heap ∧ va_K D cl tys t ∧ va_D (va_A wc sz) w
def kI (l : Launch) (Hs : Heap) (D : va_G) (cl : List vw_C) (tys : List (ClassId × FieldType)) (y : MethodName) (ws : List Cond) (rm : Room) (av : List Value) (wc : va_W) (post : Int32 → va_W → Prop) : Prop := ∀ sz : Nat, Met l y ws rm (kP Hs D cl tys av wc sz) (va_Qi post (kB D cl tys wc sz) (va_A wc sz)) rm.cells rm.slots (va_A wc sz)
def kL (l : Launch) (Hs : Heap) (D : va_G) (cl : List vw_C) (tys : List (ClassId × FieldType)) (y : MethodName) (ws : List Cond) (rm : Room) (av : List Value) (wc : va_W) (post : Int64 → va_W → Prop) : Prop := ∀ sz : Nat, Met l y ws rm (kP Hs D cl tys av wc sz) (va_Ql post (kB D cl tys wc sz) (va_A wc sz)) rm.cells rm.slots (va_A wc sz)
def kV (l : Launch) (Hs : Heap) (D : va_G) (cl : List vw_C) (tys : List (ClassId × FieldType)) (y : MethodName) (ws : List Cond) (rm : Room) (av : List Value) (wc : va_W) (post : va_W → Prop) : Prop := ∀ sz : Nat, Met l y ws rm (kP Hs D cl tys av wc sz) (va_Qv post (kB D cl tys wc sz) (va_A wc sz)) rm.cells rm.slots (va_A wc sz)
def kR (l : Launch) (Hs : Heap) (D : va_G) (cl : List vw_C) (tys : List (ClassId × FieldType)) (y : MethodName) (ws : List Cond) (rm : Room) (av : List Value) (wc : va_W) (post : Nat → va_W → Prop) : Prop := ∀ sz : Nat, Met l y ws rm (kP Hs D cl tys av wc sz) (va_Qr (fun _ : va_W => True) (fun w a t => post a w ∧ kB D cl tys wc sz w t) (va_A wc sz)) rm.cells rm.slots (va_A wc sz)
theorem kP_blind {Hs : Heap} {D : va_G} {cl : List vw_C} {tys : List (ClassId × FieldType)} {av : List Value} {wc : va_W} {sz : Nat} : FrameBlind (kP Hs D cl tys av wc sz) := fun a U g mk q => by
  obtain ⟨q0, q1, qP, qK, qD, qE⟩ := q
  exact ⟨q0, q1, qP, va_K.moved (u := U) (U := U.calling g mk a) (Vm.Alike.refl U.vm) qK, qD, nz_same (s := U) (U := U.calling g mk a) rfl qE.1, qE.2.1, qE.2.2.1, gB.moved (u := U) (U := U.calling g mk a) (Vm.Alike.refl U.vm) (fun _ _ => rfl) qE.2.2.2.1, xL.moved (u := U) (U := U.calling g mk a) (Vm.Alike.refl U.vm) qE.2.2.2.2.1, xL.moved (u := U) (U := U.calling g mk a) (Vm.Alike.refl U.vm) qE.2.2.2.2.2.1, xN.moved (u := U) (U := U.calling g mk a) (Vm.Alike.refl U.vm) qE.2.2.2.2.2.2⟩
theorem k_preS {s : State} {Hs H : Heap} {locs : List Loc} {D : va_G} {cl : List vw_C} {tys : List (ClassId × FieldType)} {A : Nat → Prop} {ws wc : va_W} {As : List Value} (hE : gE Hs s) (hAH : ∀ q, A q → Hs.size ≤ q) (hK : va_K D cl tys s) (hP : va_P D cl ws H) (hD : va_D A ws) (hS : va_S A s.heap H locs) (is : List Nat) (hC : is.map (fun i => ws[i]?) = wc.map some) (hn : va_nd is = true) : PreS s H (kP Hs D cl tys As wc H.size) As := by
  have hs : is.filterMap (fun i => ws[i]?) = wc := by
    have h1 : (is.map (fun i => ws[i]?)).filterMap id = (wc.map some).filterMap id := by rw [hC]
    simpa [List.filterMap_map, Function.comp_def] using h1
  exact ⟨kP_blind, fun U hU hW => ⟨rfl, by rw [hU], by rw [hU]; exact hP.sub is hs, va_K.moved hW.alike hK, (hD.sub is hn hC).weaken (fun _ _ _ h => hAH _ h), gE_at hE hS hAH hU hW⟩⟩
theorem k_preV {s : State} {Hs H : Heap} {locs : List Loc} {D : va_G} {cl : List vw_C} {tys : List (ClassId × FieldType)} {A : Nat → Prop} {ws wc : va_W} {As : List Value} {b : Nat} (hE : gE Hs s) (hAH : ∀ q, A q → Hs.size ≤ q) (hK : va_K D cl tys s) (hP : va_P D cl ws H) (hD : va_D A ws) (hS : va_S A s.heap H locs) (is : List Nat) (hC : is.map (fun i => ws[i]?) = wc.map some) (hn : va_nd is = true) (q0 : Nat) {ci : Nat} {fs : List Value} {C : String} {T : u_T} {N : Nat} (he : ws[q0]? = some (b, .inr (ci, fs))) (hc : cl[ci]? = some (C, T, N)) : PreV s H C b (kP Hs D cl tys (.ref b :: As) wc H.size) As := by
  obtain ⟨h1, h2⟩ := k_preS (As := .ref b :: As) hE hAH hK hP hD hS is hC hn
  exact ⟨h1, va_recv hK hP hc he, h2⟩
theorem k_of {l : Launch} {Hs : Heap} {D : va_G} {cl : List vw_C} {tys : List (ClassId × FieldType)} {y : MethodName} {ws ws' : List Cond} {rm : Room} {av : List Value} {wc : va_W} {sz mc ms : Nat} {Qc : Array Value → State → Outcome → State → Prop} {cc : ByteArray} {maxL : Nat} {ret : Option FieldType}
    (hy : plainName y.cls = true) (hw : ws = Cond.code y cc maxL ret :: ws') (hlen : (lg_sl av).length ≤ maxL)
    (body : ∀ (p : Program) (e : Env) (s : State) (m : MethodId) (args : Array Value) (below : List Frame) (meth : Method) (c : Code) (ls : Array Slot) (H : Heap) (locs : List Loc) (A : Nat → Prop) (Q : State → Prop), Q = MQ below Qc args s mc ms A → p.tables.exec = Jvm.exec → c.code = cc → c.maxLocals = maxL → meth.sig.returnType = ret → (∀ w ∈ ws, w.before args s = true) → s.vm.findClass y.cls = some m.cls → meth.locks = false → meth.name = y.name → s.heap.size = sz → A = va_A wc sz →
      va_P D cl wc H → va_K D cl tys s → va_D A wc → va_S A s.heap H locs → (∀ q, s.heap.size ≤ q → A q) → gE Hs s → (∀ q, A q → Hs.size ≤ q) → lv_has ls maxL (lv_args 0 av) → W p l e rm s m args below meth c H locs 0 0 Q (F0 m 0 ls [])) :
    Met l y ws rm (kP Hs D cl tys av wc sz) Qc mc ms (va_A wc sz) := by
  refine Met.ofW (cc := cc) (maxL := maxL) (ret := ret) hy hw ?_
  intro p e s m args below meth c s₁ B hml hv
  obtain ⟨rfl, hsz, hP, hK, hD0, hE⟩ := hv
  have hl := lv_entry av (n := maxL) hlen
  rw [lg_entry_eq]
  generalize (lg_sl av ++ List.replicate (maxL - (lg_sl av).length) Slot.unset).toArray = ls at hl ⊢
  exact body p e s m _ below meth c ls s.heap [] (va_A wc sz) _ rfl B.exec B.bytes hml B.returns (atoms_spec (ws := ws) B.pre) (findClass_of_methodNamed B.named) B.notSynchronized (name_of_methodNamed B.named B.method).1 hsz rfl hP hK (hD0.self (sz := sz)) va_S.rf (fun q h => Or.inr (by rw [← hsz]; exact h)) hE (fun q h => by
    rcases h with ⟨k, e2, h⟩ | h
    · exact hD0.2 k (q, e2) h
    · exact Nat.le_trans hE.2.1 (by rw [hsz]; exact h)) hl
section KRET
variable {p : Program} {l : Launch} {e : Env} {R : Room} {s : State} {m : MethodId} {args : Array Value} {below : List Frame} {meth : Method} {c : Code} {H : Heap} {locs : List Loc} {cells slots : Nat} {Q : State → Prop}
variable {cc : ByteArray} {pc : Nat} {ls : Array Slot} {rest : List Value} {D : va_G} {cl : List vw_C} {A : Nat → Prop} {tys : List (ClassId × FieldType)} {w wc : va_W} {sz mc ms : Nat}
theorem k_reti {post : Int32 → va_W → Prop} {v : Int32} (hQ : Q = MQ below (va_Qi post (kB D cl tys wc sz) (va_A wc sz)) args s mc ms A) (hx : p.tables.exec = Jvm.exec) (hb : c.code = cc) (hr : meth.sig.returnType = some .int) (hlk : meth.locks = false) (hAe : A = va_A wc sz) (hK : va_K D cl tys s) (hP : va_P D cl w H) (hD : va_D A w) (hS : va_S A s.heap H locs) (hl : wc.length ≤ w.length) (hc : cells ≤ mc) (hs : slots ≤ ms) (hpost : post v w) (hdg : decode cc pc = .ok (.ireturn, 1)) :
    W p l e R s m args below meth c H locs cells slots Q (F0 m pc ls [.int v]) := by
  subst hAe
  subst hQ
  refine W.widen hc hs ?_
  exact W.iret hx hb hr (fun t ht hW => ⟨⟨v, w, rfl, hpost, hl, by rw [ht]; exact hP, va_K.moved hW.alike hK, hD⟩, hS.F ht⟩) hS.2.2 hdg
theorem k_retz {post : Int32 → va_W → Prop} {v : Int32} (hQ : Q = MQ below (va_Qi post (kB D cl tys wc sz) (va_A wc sz)) args s mc ms A) (hx : p.tables.exec = Jvm.exec) (hb : c.code = cc) (hr : meth.sig.returnType = some .boolean) (hlk : meth.locks = false) (hAe : A = va_A wc sz) (hK : va_K D cl tys s) (hP : va_P D cl w H) (hD : va_D A w) (hS : va_S A s.heap H locs) (hl : wc.length ≤ w.length) (hc : cells ≤ mc) (hs : slots ≤ ms) (hn : narrow .boolean (.int v) = .int v) (hpost : post v w) (hdg : decode cc pc = .ok (.ireturn, 1)) :
    W p l e R s m args below meth c H locs cells slots Q (F0 m pc ls [.int v]) := by
  subst hAe
  subst hQ
  refine W.widen hc hs ?_
  exact W.zret hx hb hr hn (fun t ht hW => ⟨⟨v, w, rfl, hpost, hl, by rw [ht]; exact hP, va_K.moved hW.alike hK, hD⟩, hS.F ht⟩) hS.2.2 hdg
theorem k_retl {post : Int64 → va_W → Prop} {v : Int64} (hQ : Q = MQ below (va_Ql post (kB D cl tys wc sz) (va_A wc sz)) args s mc ms A) (hx : p.tables.exec = Jvm.exec) (hb : c.code = cc) (hr : meth.sig.returnType = some .long) (hlk : meth.locks = false) (hAe : A = va_A wc sz) (hK : va_K D cl tys s) (hP : va_P D cl w H) (hD : va_D A w) (hS : va_S A s.heap H locs) (hl : wc.length ≤ w.length) (hc : cells ≤ mc) (hs : slots ≤ ms) (hpost : post v w) (hdg : decode cc pc = .ok (.lreturn, 1)) :
    W p l e R s m args below meth c H locs cells slots Q (F0 m pc ls [.long v]) := by
  subst hAe
  subst hQ
  refine W.widen hc hs ?_
  exact W.lret hx hb hr (fun t ht hW => ⟨⟨v, w, rfl, hpost, hl, by rw [ht]; exact hP, va_K.moved hW.alike hK, hD⟩, hS.F ht⟩) hS.2.2 hdg
theorem k_retv {post : va_W → Prop} (hQ : Q = MQ below (va_Qv post (kB D cl tys wc sz) (va_A wc sz)) args s mc ms A) (hx : p.tables.exec = Jvm.exec) (hb : c.code = cc) (hr : meth.sig.returnType = none) (hlk : meth.locks = false) (hAe : A = va_A wc sz) (hK : va_K D cl tys s) (hP : va_P D cl w H) (hD : va_D A w) (hS : va_S A s.heap H locs) (hl : wc.length ≤ w.length) (hc : cells ≤ mc) (hs : slots ≤ ms) (hpost : post w) (hdg : decode cc pc = .ok (.return_, 1)) :
    W p l e R s m args below meth c H locs cells slots Q (F0 m pc ls []) := by
  subst hAe
  subst hQ
  refine W.widen hc hs ?_
  exact W.vret hx hb hr (fun t ht hW => ⟨⟨w, rfl, hpost, hl, by rw [ht]; exact hP, va_K.moved hW.alike hK, hD⟩, hS.F ht⟩) hS.2.2 hdg
theorem k_retr {post : Nat → va_W → Prop} {a : Nat} {rt : FieldType} (hQ : Q = MQ below (va_Qr (fun _ : va_W => True) (fun w a t => post a w ∧ kB D cl tys wc sz w t) (va_A wc sz)) args s mc ms A) (hx : p.tables.exec = Jvm.exec) (hb : c.code = cc) (hr : meth.sig.returnType = some rt) (hrt : (∃ n, rt = .object n) ∨ ∃ t, rt = .array t) (hlk : meth.locks = false) (hAe : A = va_A wc sz) (hK : va_K D cl tys s) (hP : va_P D cl w H) (hD : va_D A w) (hS : va_S A s.heap H locs) (hl : wc.length ≤ w.length) (hc : cells ≤ mc) (hs : slots ≤ ms) (hpost : post a w) (hdg : decode cc pc = .ok (.areturn, 1)) :
    W p l e R s m args below meth c H locs cells slots Q (F0 m pc ls [.ref a]) := by
  subst hAe
  subst hQ
  refine W.widen hc hs ?_
  exact W.aret hx hb hr hrt (Or.inr ⟨a, rfl⟩) (fun t ht hW => ⟨⟨w, a, rfl, trivial, hpost, hl, by rw [ht]; exact hP, va_K.moved hW.alike hK, hD⟩, hS.F ht⟩) hS.2.2 hdg
end KRET
section KCALL
variable {p : Program} {l : Launch} {e : Env} {R : Room} {s : State} {m : MethodId} {args : Array Value} {below : List Frame} {meth : Method} {c : Code} {H : Heap} {locs : List Loc} {cells slots : Nat} {Q : State → Prop}
variable {pc : Nat} {ls : Array Slot} {rest st0 : List Value} {D : va_G} {cl : List vw_C} {A : Nat → Prop} {tys : List (ClassId × FieldType)} {ws wc : va_W} {H0 : Heap} {mc ms : Nat} {av : Array Value}
theorem ck_len {is : List Nat} (hC : is.map (fun i => ws[i]?) = wc.map some) : is.length = wc.length := by
  have h := congrArg List.length hC
  simpa using h
theorem ck_i {post : Int32 → va_W → Prop} (hr : va_Run p l e R s m args below meth c H locs cells slots mc ms (F0 m pc ls st0) rest (va_Qi post (kB D cl tys wc H.size) (va_A wc H.size) av) (va_A wc H.size)) (hP : va_P D cl ws H) (hD : va_D A ws) (hS : va_S A H0 H locs) (hA : ∀ q, H0.size ≤ q → A q) (is : List Nat) (hC : is.map (fun i => ws[i]?) = wc.map some) (hn : va_nd is = true)
    (kk : ∀ (r : Int32) (w1 : va_W) (H1 : Heap) (locs1 : List Loc), post r w1 → va_P D cl (ck_set ws is w1) H1 → va_D A (ck_set ws is w1) → va_S A H0 H1 locs1 → W p l e R s m args below meth c H1 locs1 (cells + mc) (slots + ms) Q (F0 m (pc + 3) ls (.int r :: rest))) : W p l e R s m args below meth c H locs cells slots Q (F0 m pc ls st0) := by
  have hF := va_free hD hS hA is hC
  refine va_calli hr hS (fun q _ h => hF q h) hF fun r u t H1 locs1 ht hvm hp hB hz hk hS1 => ?_
  obtain ⟨hl, hP1, hK1, hD1⟩ := hB
  rw [ht] at hP1
  obtain ⟨g1, g2⟩ := ck_join hP hD is hC hn (by rw [ck_len hC]; exact hl) hk hF hP1 hD1
  exact kk r u H1 locs1 hp g1 g2 hS1
theorem ck_l {post : Int64 → va_W → Prop} (hr : va_Run p l e R s m args below meth c H locs cells slots mc ms (F0 m pc ls st0) rest (va_Ql post (kB D cl tys wc H.size) (va_A wc H.size) av) (va_A wc H.size)) (hP : va_P D cl ws H) (hD : va_D A ws) (hS : va_S A H0 H locs) (hA : ∀ q, H0.size ≤ q → A q) (is : List Nat) (hC : is.map (fun i => ws[i]?) = wc.map some) (hn : va_nd is = true)
    (kk : ∀ (r : Int64) (w1 : va_W) (H1 : Heap) (locs1 : List Loc), post r w1 → va_P D cl (ck_set ws is w1) H1 → va_D A (ck_set ws is w1) → va_S A H0 H1 locs1 → W p l e R s m args below meth c H1 locs1 (cells + mc) (slots + ms) Q (F0 m (pc + 3) ls (.long r :: rest))) : W p l e R s m args below meth c H locs cells slots Q (F0 m pc ls st0) := by
  have hF := va_free hD hS hA is hC
  refine va_calll hr hS (fun q _ h => hF q h) hF fun r u t H1 locs1 ht hvm hp hB hz hk hS1 => ?_
  obtain ⟨hl, hP1, hK1, hD1⟩ := hB
  rw [ht] at hP1
  obtain ⟨g1, g2⟩ := ck_join hP hD is hC hn (by rw [ck_len hC]; exact hl) hk hF hP1 hD1
  exact kk r u H1 locs1 hp g1 g2 hS1
theorem ck_v {post : va_W → Prop} (hr : va_Run p l e R s m args below meth c H locs cells slots mc ms (F0 m pc ls st0) rest (va_Qv post (kB D cl tys wc H.size) (va_A wc H.size) av) (va_A wc H.size)) (hP : va_P D cl ws H) (hD : va_D A ws) (hS : va_S A H0 H locs) (hA : ∀ q, H0.size ≤ q → A q) (is : List Nat) (hC : is.map (fun i => ws[i]?) = wc.map some) (hn : va_nd is = true)
    (kk : ∀ (w1 : va_W) (H1 : Heap) (locs1 : List Loc), post w1 → va_P D cl (ck_set ws is w1) H1 → va_D A (ck_set ws is w1) → va_S A H0 H1 locs1 → W p l e R s m args below meth c H1 locs1 (cells + mc) (slots + ms) Q (F0 m (pc + 3) ls rest)) : W p l e R s m args below meth c H locs cells slots Q (F0 m pc ls st0) := by
  have hF := va_free hD hS hA is hC
  refine va_callv hr hS (fun q _ h => hF q h) hF fun u t H1 locs1 ht hvm hp hB hz hk hS1 => ?_
  obtain ⟨hl, hP1, hK1, hD1⟩ := hB
  rw [ht] at hP1
  obtain ⟨g1, g2⟩ := ck_join hP hD is hC hn (by rw [ck_len hC]; exact hl) hk hF hP1 hD1
  exact kk u H1 locs1 hp g1 g2 hS1
theorem ck_r {post : Nat → va_W → Prop} (hr : va_Run p l e R s m args below meth c H locs cells slots mc ms (F0 m pc ls st0) rest (va_Qr (fun _ : va_W => True) (fun w a t => post a w ∧ kB D cl tys wc H.size w t) (va_A wc H.size) av) (va_A wc H.size)) (hP : va_P D cl ws H) (hD : va_D A ws) (hS : va_S A H0 H locs) (hA : ∀ q, H0.size ≤ q → A q) (is : List Nat) (hC : is.map (fun i => ws[i]?) = wc.map some) (hn : va_nd is = true)
    (kk : ∀ (a : Nat) (w1 : va_W) (H1 : Heap) (locs1 : List Loc), post a w1 → va_P D cl (ck_set ws is w1) H1 → va_D A (ck_set ws is w1) → va_S A H0 H1 locs1 → W p l e R s m args below meth c H1 locs1 (cells + mc) (slots + ms) Q (F0 m (pc + 3) ls (.ref a :: rest))) : W p l e R s m args below meth c H locs cells slots Q (F0 m pc ls st0) := by
  have hF := va_free hD hS hA is hC
  refine va_callr hr hS (fun q _ h => hF q h) hF fun u a t H1 locs1 ht hvm _ hB hz hk hS1 => ?_
  obtain ⟨hp, hl, hP1, hK1, hD1⟩ := hB
  rw [ht] at hP1
  obtain ⟨g1, g2⟩ := ck_join hP hD is hC hn (by rw [ck_len hC]; exact hl) hk hF hP1 hD1
  exact kk a u H1 locs1 hp g1 g2 hS1
end KCALL
/-- a method's words: its own code, then all words -/
abbrev mws (y : MethodName) (bytes : ByteArray) (maxL : Nat) (ret : Option FieldType) : List Cond := Cond.code y bytes maxL ret :: mw
theorem mws_at {y : MethodName} {bytes : ByteArray} {maxL : Nat} {ret : Option FieldType} {args : Array Value} {s : State} (ht : ∀ w ∈ mw, w.before args s = true) (hc : Cond.code y bytes maxL ret ∈ mw) : ∀ w ∈ mws y bytes maxL ret, ∀ (a' : Array Value) (U : State), s.WarmedH U.vm → w.before a' U = true := by
  intro w hw a' U hW
  have hm : w ∈ mw := (List.mem_cons.mp hw).elim (fun e => by rw [e]; exact hc) id
  exact word_at hW (mw_good w hm) (ht w hm)
theorem gw_B {R : Room} {s : State} {args : Array Value} {own : String} {index : Nat} {y : MethodName} {bytes : ByteArray} {maxL : Nat} {ret : Option FieldType} {rm : Room} (n : Nat) (ht : ∀ w ∈ mw, w.before args s = true) (hc : Cond.code y bytes maxL ret ∈ mw) (hi : Cond.initialized y.cls ∈ mw) (hl : Cond.methodLink own index y ∈ mw)
    (hd : y.cls ≠ "java/lang/invoke/MethodHandle" ∧ y.cls ≠ "java/lang/invoke/VarHandle" ∧ (parseMethodDescriptor y.desc).map (fun d => d.parameters.length) = some n) (hR : rm.frames + 1 ≤ R.frames ∧ 8 + (maxL + 11) + rm.locals ≤ R.locals) : CallB R s args own index y bytes maxL ret (mws y bytes maxL ret) rm rm.cells rm.slots n := by
  refine ⟨rfl, rfl, hR.1, hR.2, mws_at ht hc, List.mem_cons_self, ht _ hc, ht _ hi, ⟨hd.1, hd.2.1⟩, fun sig h => ?_, ht _ hl⟩
  have h2 := hd.2.2
  rw [h] at h2
  exact (Option.some.inj h2).symm
theorem gw_V {R : Room} {s : State} {args : Array Value} {own C : String} {index : Nat} {y : MethodName} {bytes : ByteArray} {maxL : Nat} {ret : Option FieldType} {rm : Room} (n : Nat) (ht : ∀ w ∈ mw, w.before args s = true) (hc : Cond.code y bytes maxL ret ∈ mw) (hi : Cond.initialized y.cls ∈ mw) (hl : Cond.methodLink own index y ∈ mw) (hin : Cond.instanceMethod y ∈ mw) (hse : Cond.selects C y y ∈ mw)
    (hd : y.cls ≠ "java/lang/invoke/MethodHandle" ∧ y.cls ≠ "java/lang/invoke/VarHandle" ∧ (parseMethodDescriptor y.desc).map (fun d => d.parameters.length) = some n) (hR : rm.frames + 1 ≤ R.frames ∧ 8 + (maxL + 11) + rm.locals ≤ R.locals) : CallW R s args own C index y bytes maxL ret (mws y bytes maxL ret) rm rm.cells rm.slots n := ⟨gw_B n ht hc hi hl hd hR, ht _ hin, ht _ hse⟩
theorem gw_S {R : Room} {s : State} {args : Array Value} {own : String} {index : Nat} {y : MethodName} {bytes : ByteArray} {maxL : Nat} {ret : Option FieldType} {rm : Room} (n : Nat) (ht : ∀ w ∈ mw, w.before args s = true) (hc : Cond.code y bytes maxL ret ∈ mw) (hi : Cond.initialized y.cls ∈ mw) (hl : Cond.methodLink own index y ∈ mw) (hst : Cond.static y ∈ mw)
    (hd : y.cls ≠ "java/lang/invoke/MethodHandle" ∧ y.cls ≠ "java/lang/invoke/VarHandle" ∧ (parseMethodDescriptor y.desc).map (fun d => d.parameters.length) = some n) (hR : rm.frames + 1 ≤ R.frames ∧ 8 + (maxL + 11) + rm.locals ≤ R.locals) : CallB R s args own index y bytes maxL ret (mws y bytes maxL ret) rm rm.cells rm.slots n ∧ (Cond.static y).before args s = true := ⟨gw_B n ht hc hi hl hd hR, ht _ hst⟩
/-- the kinds of arrays: ints, yes or no, longs -/
abbrev ty3 (cI cZ cL : ClassId) : List (ClassId × FieldType) := [(cI, .int), (cZ, .boolean), (cL, .long)]
theorem gw_I {R : Room} {s : State} {args : Array Value} {own : String} {index : Nat} {y : MethodName} {bytes : ByteArray} {maxL : Nat} {rm : Room} (n : Nat) (ht : ∀ w ∈ mw, w.before args s = true) (hc : Cond.code y bytes maxL none ∈ mw) (hi : Cond.initialized y.cls ∈ mw) (hl : Cond.methodLink own index y ∈ mw) (hin : Cond.instanceMethod y ∈ mw)
    (hd : y.name = "<init>" ∧ y.cls ≠ "java/lang/invoke/MethodHandle" ∧ y.cls ≠ "java/lang/invoke/VarHandle" ∧ (parseMethodDescriptor y.desc).map (fun d => d.parameters.length) = some n) (hR : rm.frames + 1 ≤ R.frames ∧ 8 + (maxL + 11) + rm.locals ≤ R.locals) : CallB R s args own index y bytes maxL none (mws y bytes maxL none) rm rm.cells rm.slots n ∧ y.name = "<init>" ∧ (Cond.instanceMethod y).before args s = true := ⟨gw_B n ht hc hi hl hd.2 hR, hd.1, ht _ hin⟩
theorem gw_N {R : Room} {s : State} {args : Array Value} {own host : String} {index : Nat} {y : MethodName} {bytes : ByteArray} {maxL : Nat} {rm : Room} (n : Nat) (ht : ∀ w ∈ mw, w.before args s = true) (hc : Cond.code y bytes maxL none ∈ mw) (hi : Cond.initialized y.cls ∈ mw) (hl : va_Nw (.methodLinkNest own index y host) s) (hin : Cond.instanceMethod y ∈ mw)
    (hd : y.name = "<init>" ∧ y.cls ≠ "java/lang/invoke/MethodHandle" ∧ y.cls ≠ "java/lang/invoke/VarHandle" ∧ (parseMethodDescriptor y.desc).map (fun d => d.parameters.length) = some n) (hR : rm.frames + 1 ≤ R.frames ∧ 8 + (maxL + 11) + rm.locals ≤ R.locals) : va_CN R s args own index y host bytes maxL none (mws y bytes maxL none) rm rm.cells rm.slots n ∧ y.name = "<init>" ∧ (Cond.instanceMethod y).before args s = true := by
  refine ⟨⟨⟨rfl, rfl, hR.1, hR.2, mws_at ht hc, List.mem_cons_self⟩, ht _ hc, ht _ hi, ⟨hd.2.1, hd.2.2.1⟩, fun sig h => ?_, va_Nw.use rfl hl⟩, hd.1, ht _ hin⟩
  have h2 := hd.2.2.2
  rw [h] at h2
  exact (Option.some.inj h2).symm
