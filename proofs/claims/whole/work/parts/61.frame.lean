/-! The frame rule for contracts; calls over worlds that are joined of two. -/
theorem fr_cons {l : Launch} {x : MethodName} {S : Spec} {P P' : Array Value → State → Prop} {K : Program → Env → List Frame → State → Array Value → Prop} {Q Q' : Array Value → State → Outcome → State → Prop} (h : MetFree l x S P K Q) (hP : ∀ a s, P' a s → P a s) (hQ : ∀ a s o t, P' a s → Q a s o t → Q' a s o t) : MetFree l x S P' K Q' := by
  intro p e ha hc hk s m args below hf happ hp hK
  obtain ⟨n, o, h1, h2, h3, h4⟩ := h p e ha hc hk s m args below hf happ (hP _ _ hp) hK
  exact ⟨n, o, h1, h2, h3, hQ _ _ _ _ hp h4⟩
/-- the cells wc of W, and the rest wr -/
def fr_S (W wc wr : va_W) (isC isR : List Nat) : Prop := isC.map (fun i => W[i]?) = wc.map some ∧ isR.map (fun i => W[i]?) = wr.map some ∧ va_nd isC = true ∧ va_nd isR = true ∧ (∀ i ∈ isR, i ∉ isC) ∧ isC.length + isR.length = W.length
theorem fr_A {W wc wr : va_W} {isC isR : List Nat} {sz : Nat} (h : fr_S W wc wr isC isR) : ∀ q, va_A wc sz q → va_A W sz q := by
  intro q hq
  rcases hq with ⟨k, e, hq⟩ | hq
  · have h1 : (isC.map (fun i => W[i]?))[k]? = some (some (q, e)) := by rw [h.1, List.getElem?_map, hq]; rfl
    rw [List.getElem?_map] at h1
    cases hi : isC[k]? with
    | none => rw [hi] at h1; cases h1
    | some i => rw [hi] at h1; exact Or.inl ⟨i, e, Option.some.inj h1⟩
  · exact Or.inr hq
theorem fr_pre {Hs : Heap} {D : va_G} {cl : List vw_C} {tys : List (ClassId × FieldType)} {av : List Value} {W wc wr : va_W} {isC isR : List Nat} {sz : Nat} {a : Array Value} {s : State} (h : fr_S W wc wr isC isR) (hp : kP Hs D cl tys av W sz a s) : kP Hs D cl tys av wc sz a s := by
  obtain ⟨p0, p1, p2, p3, p4, p5⟩ := hp
  have hs : isC.filterMap (fun i => W[i]?) = wc := by
    have h1 : (isC.map (fun i => W[i]?)).filterMap id = (wc.map some).filterMap id := by rw [h.1]
    simpa [List.filterMap_map, Function.comp_def] using h1
  exact ⟨p0, p1, p2.sub isC hs, p3, p4.sub isC h.2.2.1 h.1, p5⟩
theorem fr_B {Hs : Heap} {D : va_G} {cl : List vw_C} {tys : List (ClassId × FieldType)} {av : List Value} {W wc wr w1 : va_W} {isC isR : List Nat} {sz : Nat} {a : Array Value} {s t : State} (h : fr_S W wc wr isC isR) (hp : kP Hs D cl tys av W sz a s) (hB : kB D cl tys wc sz w1 t) (hF : va_F (va_A wc sz) s t) : kB D cl tys W sz (wr ++ w1) t ∧ va_F (va_A W sz) s t := by
  obtain ⟨p0, p1, p2, p3, p4, p5⟩ := hp
  obtain ⟨b1, b2, b3, b4⟩ := hB
  subst p1
  obtain ⟨h1, h2, h3, h4, h5, h6⟩ := id h
  have hD : va_D (va_A W s.heap.size) W := p4.self
  obtain ⟨g1, g2⟩ := va_join p2 hD isC isR h1 h2 h4 h5 hF.2 (fr_A h) b2 b4
  have l1 := ck_len h1
  have l2 := ck_len h2
  exact ⟨⟨by rw [List.length_append]; omega, g1, b3, g2⟩, hF.1, fun q q1 q2 => hF.2 q q1 (fun z => q2 (fr_A h q z))⟩
section FRK
variable {l : Launch} {Hs : Heap} {D : va_G} {cl : List vw_C} {tys : List (ClassId × FieldType)} {y : MethodName} {ws : List Cond} {rm : Room} {av : List Value} {W wc wr : va_W} {isC isR : List Nat}
theorem fr_I {post : Int32 → va_W → Prop} (h : kI l Hs D cl tys y ws rm av wc post) (isC isR : List Nat) (hs : fr_S W wc wr isC isR) : kI l Hs D cl tys y ws rm av W (fun r w => ∃ w1, post r w1 ∧ w = wr ++ w1) := fun sz =>
  fr_cons (h sz) (fun a s hp => fr_pre hs hp) (fun a s o t hp hq => by
    obtain ⟨⟨⟨r, u, h1, h2, h3⟩, h4⟩, L, h5, h6⟩ := hq
    obtain ⟨g1, g2⟩ := fr_B hs hp h3 h4
    exact ⟨⟨⟨r, wr ++ u, h1, ⟨u, h2, rfl⟩, g1⟩, g2⟩, L, h5, fun q hq => fr_A hs _ (h6 q hq)⟩)
theorem fr_L {post : Int64 → va_W → Prop} (h : kL l Hs D cl tys y ws rm av wc post) (isC isR : List Nat) (hs : fr_S W wc wr isC isR) : kL l Hs D cl tys y ws rm av W (fun r w => ∃ w1, post r w1 ∧ w = wr ++ w1) := fun sz =>
  fr_cons (h sz) (fun a s hp => fr_pre hs hp) (fun a s o t hp hq => by
    obtain ⟨⟨⟨r, u, h1, h2, h3⟩, h4⟩, L, h5, h6⟩ := hq
    obtain ⟨g1, g2⟩ := fr_B hs hp h3 h4
    exact ⟨⟨⟨r, wr ++ u, h1, ⟨u, h2, rfl⟩, g1⟩, g2⟩, L, h5, fun q hq => fr_A hs _ (h6 q hq)⟩)
theorem fr_V {post : va_W → Prop} (h : kV l Hs D cl tys y ws rm av wc post) (isC isR : List Nat) (hs : fr_S W wc wr isC isR) : kV l Hs D cl tys y ws rm av W (fun w => ∃ w1, post w1 ∧ w = wr ++ w1) := fun sz =>
  fr_cons (h sz) (fun a s hp => fr_pre hs hp) (fun a s o t hp hq => by
    obtain ⟨⟨⟨u, h1, h2, h3⟩, h4⟩, L, h5, h6⟩ := hq
    obtain ⟨g1, g2⟩ := fr_B hs hp h3 h4
    exact ⟨⟨⟨wr ++ u, h1, ⟨u, h2, rfl⟩, g1⟩, g2⟩, L, h5, fun q hq => fr_A hs _ (h6 q hq)⟩)
theorem fr_X {E : String} {post : va_W → Prop} (h : kX l Hs D cl tys y ws rm av wc E post) (isC isR : List Nat) (hs : fr_S W wc wr isC isR) : kX l Hs D cl tys y ws rm av W E (fun w => ∃ w1, post w1 ∧ w = wr ++ w1) := fun hfl sz =>
  fr_cons (h hfl sz) (fun a s hp => fr_pre hs hp) (fun a s o t hp hq => by
    obtain ⟨⟨⟨q, u, ce, h1, h2, h3, h8⟩, h4⟩, L, h5, h6⟩ := hq
    obtain ⟨g1, g2⟩ := fr_B hs hp h3 h4
    exact ⟨⟨⟨q, wr ++ u, ce, h1, ⟨u, h2, rfl⟩, g1, h8⟩, g2⟩, L, h5, fun q hq => fr_A hs _ (h6 q hq)⟩)
end FRK
/-! behind a contract: the cells in another order -/
section FRP
variable {l : Launch} {Hs : Heap} {D : va_G} {cl : List vw_C} {tys : List (ClassId × FieldType)} {y : MethodName} {ws : List Cond} {rm : Room} {av : List Value} {W : va_W}
theorem fr_pm {sz : Nat} {w w' : va_W} {t : State} (is : List Nat) (hn : va_nd is = true) (hs : is.map (fun i => w[i]?) = w'.map some) (hl : w.length ≤ is.length) (hB : kB D cl tys W sz w t) : kB D cl tys W sz w' t := by
  obtain ⟨b1, b2, b3, b4⟩ := hB
  have hf : is.filterMap (fun i => w[i]?) = w' := by
    have h1 : (is.map (fun i => w[i]?)).filterMap id = (w'.map some).filterMap id := by rw [hs]
    simpa [List.filterMap_map, Function.comp_def] using h1
  have l1 := ck_len hs
  exact ⟨by omega, b2.sub is hf, b3, b4.sub is hn hs⟩
/-- w' has the cells of w -/
def fr_R (w w' : va_W) : Prop := ∃ is : List Nat, va_nd is = true ∧ is.map (fun i => w[i]?) = w'.map some ∧ w.length ≤ is.length
theorem wk_I {post post' : Int32 → va_W → Prop} (h : kI l Hs D cl tys y ws rm av W post) (hq : ∀ r w, post r w → ∃ w', fr_R w w' ∧ post' r w') : kI l Hs D cl tys y ws rm av W post' := fun sz =>
  fr_cons (h sz) (fun a s hp => hp) (fun a s o t hp hq2 => by
    obtain ⟨⟨⟨r, u, h1, h2, h3⟩, h4⟩, L, h5, h6⟩ := hq2
    obtain ⟨w', ⟨is, i1, i2, i3⟩, hp'⟩ := hq r u h2
    exact ⟨⟨⟨r, w', h1, hp', fr_pm is i1 i2 i3 h3⟩, h4⟩, L, h5, h6⟩)
theorem wk_L {post post' : Int64 → va_W → Prop} (h : kL l Hs D cl tys y ws rm av W post) (hq : ∀ r w, post r w → ∃ w', fr_R w w' ∧ post' r w') : kL l Hs D cl tys y ws rm av W post' := fun sz =>
  fr_cons (h sz) (fun a s hp => hp) (fun a s o t hp hq2 => by
    obtain ⟨⟨⟨r, u, h1, h2, h3⟩, h4⟩, L, h5, h6⟩ := hq2
    obtain ⟨w', ⟨is, i1, i2, i3⟩, hp'⟩ := hq r u h2
    exact ⟨⟨⟨r, w', h1, hp', fr_pm is i1 i2 i3 h3⟩, h4⟩, L, h5, h6⟩)
theorem wk_V {post post' : va_W → Prop} (h : kV l Hs D cl tys y ws rm av W post) (hq : ∀ w, post w → ∃ w', fr_R w w' ∧ post' w') : kV l Hs D cl tys y ws rm av W post' := fun sz =>
  fr_cons (h sz) (fun a s hp => hp) (fun a s o t hp hq2 => by
    obtain ⟨⟨⟨u, h1, h2, h3⟩, h4⟩, L, h5, h6⟩ := hq2
    obtain ⟨w', ⟨is, i1, i2, i3⟩, hp'⟩ := hq u h2
    exact ⟨⟨⟨w', h1, hp', fr_pm is i1 i2 i3 h3⟩, h4⟩, L, h5, h6⟩)
theorem wk_X {E : String} {post post' : va_W → Prop} (h : kX l Hs D cl tys y ws rm av W E post) (hq : ∀ w, post w → ∃ w', fr_R w w' ∧ post' w') : kX l Hs D cl tys y ws rm av W E post' := fun hfl sz =>
  fr_cons (h hfl sz) (fun a s hp => hp) (fun a s o t hp hq2 => by
    obtain ⟨⟨⟨q, u, ce, h1, h2, h3, h8⟩, h4⟩, L, h5, h6⟩ := hq2
    obtain ⟨w', ⟨is, i1, i2, i3⟩, hp'⟩ := hq u h2
    exact ⟨⟨⟨q, w', ce, h1, hp', fr_pm is i1 i2 i3 h3, h8⟩, h4⟩, L, h5, h6⟩)
end FRP
/-! joined worlds -/
theorem rg_C (a b : va_W) : (List.range a.length).map (fun i => (a ++ b)[i]?) = a.map some := by
  refine List.ext_getElem (by simp) (fun i h1 h2 => ?_)
  simp only [List.length_map, List.length_range] at h1
  simp [List.getElem?_append_left h1, h1]
theorem rg_R (a b : va_W) : (List.range' a.length b.length).map (fun i => (a ++ b)[i]?) = b.map some := by
  refine List.ext_getElem (by simp) (fun i h1 h2 => ?_)
  simp only [List.length_map, List.length_range'] at h1
  simp only [List.getElem_map, List.getElem_range']
  rw [List.getElem?_append_right (by omega), show a.length + 1 * i - a.length = i by omega, List.getElem?_eq_getElem h1]
theorem rg_nd : ∀ l : List Nat, l.Nodup → va_nd l = true := by
  intro l
  induction l with
  | nil => intro _; rfl
  | cons a l ih =>
    intro h
    rw [List.nodup_cons] at h
    simp only [va_nd, Bool.and_eq_true, decide_eq_true_eq]
    exact ⟨h.1, ih h.2⟩
theorem rg_n1 (n : Nat) : va_nd (List.range n) = true := rg_nd _ List.nodup_range
theorem rg_n2 (a n : Nat) : va_nd (List.range' a n) = true := rg_nd _ List.nodup_range'
theorem rg_dis (a b : Nat) : ∀ i ∈ List.range' a b, i ∉ List.range a := by
  intro i h1 h2
  rw [List.mem_range] at h2
  rw [List.mem_range'] at h1
  obtain ⟨j, -, e⟩ := h1
  omega
theorem va_P.rot {D : va_G} {cl : List vw_C} {a b : va_W} {H : Heap} (h : va_P D cl (a ++ b) H) : va_P D cl (b ++ a) H := by
  intro k q hk
  have hm : q ∈ a ++ b := by
    have := List.mem_of_getElem? hk
    rw [List.mem_append] at this ⊢
    exact this.symm
  obtain ⟨i, hi⟩ := List.getElem?_of_mem hm
  exact h i q hi
theorem va_D.rot {A : Nat → Prop} {a b : va_W} (h : va_D A (a ++ b)) : va_D A (b ++ a) :=
  va_D.app (h.sub _ (rg_n2 _ _) (rg_R a b)) (h.sub _ (rg_n1 _) (rg_C a b)) (fun i j p q hp hq e => by
    have h1 : (a ++ b)[a.length + i]? = some p := by rw [List.getElem?_append_right (by omega), show a.length + i - a.length = i by omega]; exact hp
    have hj := (List.getElem?_eq_some_iff.mp hq).1
    have h2 : (a ++ b)[j]? = some q := by rw [List.getElem?_append_left hj]; exact hq
    have := h.1 _ _ _ _ h1 h2 e
    omega)
section CKA
variable {p : Program} {l : Launch} {e : Env} {R : Room} {s : State} {m : MethodId} {args : Array Value} {below : List Frame} {meth : Method} {c : Code} {H : Heap} {locs : List Loc} {cells slots : Nat} {Q : State → Prop}
variable {pc : Nat} {ls : Array Slot} {rest st0 : List Value} {D : va_G} {cl : List vw_C} {A : Nat → Prop} {tys : List (ClassId × FieldType)} {wc wr : va_W} {H0 : Heap} {mc ms : Nat} {av : Array Value}
theorem cka_i {post : Int32 → va_W → Prop} (hr : va_Run p l e R s m args below meth c H locs cells slots mc ms (F0 m pc ls st0) rest (va_Qi post (kB D cl tys wc H.size) (va_A wc H.size) av) (va_A wc H.size)) (hP : va_P D cl (wc ++ wr) H) (hD : va_D A (wc ++ wr)) (hS : va_S A H0 H locs) (hA : ∀ q, H0.size ≤ q → A q)
    (kk : ∀ (r : Int32) (w1 : va_W) (H1 : Heap) (locs1 : List Loc), post r w1 → va_P D cl (wr ++ w1) H1 → va_D A (wr ++ w1) → va_S A H0 H1 locs1 → W p l e R s m args below meth c H1 locs1 (cells + mc) (slots + ms) Q (F0 m (pc + 3) ls (.int r :: rest))) : W p l e R s m args below meth c H locs cells slots Q (F0 m pc ls st0) := by
  have hF := va_free hD hS hA _ (rg_C wc wr)
  refine va_calli hr hS (fun q _ h => hF q h) hF fun r u t H1 locs1 ht hvm hp hB hz hk hS1 => ?_
  obtain ⟨hl, hP1, hK1, hD1⟩ := hB
  rw [ht] at hP1
  obtain ⟨g1, g2⟩ := va_join hP hD _ _ (rg_C wc wr) (rg_R wc wr) (rg_n2 _ _) (rg_dis _ _) hk hF hP1 hD1
  exact kk r u H1 locs1 hp g1 g2 hS1
theorem cka_l {post : Int64 → va_W → Prop} (hr : va_Run p l e R s m args below meth c H locs cells slots mc ms (F0 m pc ls st0) rest (va_Ql post (kB D cl tys wc H.size) (va_A wc H.size) av) (va_A wc H.size)) (hP : va_P D cl (wc ++ wr) H) (hD : va_D A (wc ++ wr)) (hS : va_S A H0 H locs) (hA : ∀ q, H0.size ≤ q → A q)
    (kk : ∀ (r : Int64) (w1 : va_W) (H1 : Heap) (locs1 : List Loc), post r w1 → va_P D cl (wr ++ w1) H1 → va_D A (wr ++ w1) → va_S A H0 H1 locs1 → W p l e R s m args below meth c H1 locs1 (cells + mc) (slots + ms) Q (F0 m (pc + 3) ls (.long r :: rest))) : W p l e R s m args below meth c H locs cells slots Q (F0 m pc ls st0) := by
  have hF := va_free hD hS hA _ (rg_C wc wr)
  refine va_calll hr hS (fun q _ h => hF q h) hF fun r u t H1 locs1 ht hvm hp hB hz hk hS1 => ?_
  obtain ⟨hl, hP1, hK1, hD1⟩ := hB
  rw [ht] at hP1
  obtain ⟨g1, g2⟩ := va_join hP hD _ _ (rg_C wc wr) (rg_R wc wr) (rg_n2 _ _) (rg_dis _ _) hk hF hP1 hD1
  exact kk r u H1 locs1 hp g1 g2 hS1
theorem cka_v {post : va_W → Prop} (hr : va_Run p l e R s m args below meth c H locs cells slots mc ms (F0 m pc ls st0) rest (va_Qv post (kB D cl tys wc H.size) (va_A wc H.size) av) (va_A wc H.size)) (hP : va_P D cl (wc ++ wr) H) (hD : va_D A (wc ++ wr)) (hS : va_S A H0 H locs) (hA : ∀ q, H0.size ≤ q → A q)
    (kk : ∀ (w1 : va_W) (H1 : Heap) (locs1 : List Loc), post w1 → va_P D cl (wr ++ w1) H1 → va_D A (wr ++ w1) → va_S A H0 H1 locs1 → W p l e R s m args below meth c H1 locs1 (cells + mc) (slots + ms) Q (F0 m (pc + 3) ls rest)) : W p l e R s m args below meth c H locs cells slots Q (F0 m pc ls st0) := by
  have hF := va_free hD hS hA _ (rg_C wc wr)
  refine va_callv hr hS (fun q _ h => hF q h) hF fun u t H1 locs1 ht hvm hp hB hz hk hS1 => ?_
  obtain ⟨hl, hP1, hK1, hD1⟩ := hB
  rw [ht] at hP1
  obtain ⟨g1, g2⟩ := va_join hP hD _ _ (rg_C wc wr) (rg_R wc wr) (rg_n2 _ _) (rg_dis _ _) hk hF hP1 hD1
  exact kk u H1 locs1 hp g1 g2 hS1
theorem cka_x {E own : String} {hh : List (Nat × Nat × Nat × Nat)} {hpc : Nat} {post : va_W → Prop} (hown : s.vm.findClass own = some m.cls) (hr : xk_Run p l e R s m args below meth c H locs cells slots mc ms (F0 m pc ls st0) rest (xk_Q E post (kB D cl tys wc H.size) (va_A wc H.size) av) (va_A wc H.size)) (htb : c.exceptionTable.toList = tableOf hh) (hrows : xc_rows own args s E pc hpc (tableOf hh))
    (hP : va_P D cl (wc ++ wr) H) (hD : va_D A (wc ++ wr)) (hS : va_S A s.heap H locs) (hA : ∀ q, s.heap.size ≤ q → A q)
    (kk : ∀ (q : Nat) (w1 : va_W) (H1 : Heap) (locs1 : List Loc), post w1 → va_P D cl (wr ++ w1) H1 → va_D A (wr ++ w1) → va_S A s.heap H1 locs1 → W p l e R s m args below meth c H1 locs1 (cells + mc) (slots + ms) Q (F0 m hpc ls [.ref q])) : W p l e R s m args below meth c H locs cells slots Q (F0 m pc ls st0) := by
  have hF := va_free hD hS hA _ (rg_C wc wr)
  intro T hT X
  obtain ⟨q, st₀, t, T', L, h0, X', hL, e1, e2, ⟨⟨q', u, ce, hq', hp, hB, hce, hst, hcl⟩, hz, hk⟩, st⟩ := hr T hT X
  cases hq'
  rw [h0] at hz hk
  obtain ⟨hl, hP1, hK1, hD1⟩ := hB
  obtain ⟨g1, g2⟩ := va_join hP hD _ _ (rg_C wc wr) (rg_R wc wr) (rg_n2 _ _) (rg_dis _ _) hk hF hP1 hD1
  have hS1 : va_S A s.heap t.heap (locs ++ L) := ⟨Nat.le_trans hS.1 hz, fun z h1 h2 => by rw [hk z (Nat.lt_of_lt_of_le h1 hS.1) (fun y => h2 (hF z y))]; exact hS.2.1 z h1 h2, fun z hz2 => by
      rcases List.mem_append.mp hz2 with h | h
      · exact hS.2.2 z h
      · exact hF _ (hL z h)⟩
  have hpl : e.platform.magicAccessors = ({} : Platform).magicAccessors := by rw [X.admits.platform]
  have hal : s.vm.Alike t.vm := by rw [← e2]; exact X'.warmed.alike
  obtain ⟨vm', hW', hfd⟩ := xc_find (cM := 0) (f := F0 m pc ls rest) (a := q) (e := e) hown hpl hst (by rw [← hal.findClass]; exact hcl) (tableOf hh) ((T'.setTop (F0 m pc ls rest)).pushFrame (.throwing q)) hrows X'.warmed (by show T'.heap[q]? = _; rw [e1]; exact hce)
  have hm' : T'.vm.method? m = some meth := X'.method'
  obtain ⟨t2, a1, b1⟩ := kk q u t.heap (locs ++ L) hp g1 g2 hS1 (T'.setVm vm') e1 (X'.noted hW')
  exact ⟨t2, st.trans (xc_caught (g := F0 m pc ls rest) X'.here hm' X'.code (by rw [htb]; exact hfd) a1), b1⟩
end CKA
