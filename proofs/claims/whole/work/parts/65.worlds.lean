/-! More room; the worlds of both sides. -/
def rm_le (a b : Room) : Prop := a.frames ≤ b.frames ∧ a.cells ≤ b.cells ∧ a.slots ≤ b.slots ∧ a.locals ≤ b.locals
theorem rm_has {s : State} {pl : Platform} {a b : Room} (h : rm_le a b) (hb : s.hasRoom pl b = true) : s.hasRoom pl a = true := by
  obtain ⟨h1, h2, h3, h4⟩ := h
  simp only [State.hasRoom, Bool.and_eq_true, decide_eq_true_eq] at hb ⊢
  obtain ⟨⟨⟨⟨a1, a2, a3, a4, a5, a6⟩, b1⟩, b2⟩, b3⟩ := (by simpa [and_assoc] using hb : ((((s.localsInUse + b.locals + stackMargin ≤ realStackBytes / 8 ∧ s.frames.length + b.frames ≤ pl.maxFrames ∧ s.frames.length + b.frames ≤ (pl.stackLimits s.me).1 ∧ s.localsInUse + b.locals ≤ pl.maxStackSlots ∧ s.localsInUse + b.locals ≤ (pl.stackLimits s.me).2 ∧ s.me.stackBytes = 0) ∧ s.heap.size + b.cells ≤ pl.maxCells) ∧ s.slotsUsed + b.slots ≤ pl.maxSlots) ∧ s.slotsTrue = true))
  exact ⟨⟨⟨⟨by omega, by omega, by omega, by omega, by omega, a6⟩, by omega⟩, by omega⟩, b3⟩
theorem rm_free {l : Launch} {y : MethodName} {ws : List Cond} {a b : Room} {P : Array Value → State → Prop} {K : Program → Env → List Frame → State → Array Value → Prop} {Q : Array Value → State → Outcome → State → Prop} (h : MetFree l y (headSpec ws a) P K Q) (hab : rm_le a b) : MetFree l y (headSpec ws b) P K Q := by
  intro p e ha hc hk s m args below hf happ hp hK
  refine h p e ha hc hk s m args below hf ?_ hp hK
  rw [Spec.appliesLoose_iff hf] at happ ⊢
  obtain ⟨a1, a2, a3, a4, a5, a6, a7, a8⟩ := happ
  exact ⟨a1, a2, a3, a4, a5, a6, rm_has hab a7, a8⟩
theorem rm_End {st t : State} {o : Outcome} {L : List Loc} {k n k' n' : Nat} (h : FrameEnd st o t L k n) (h1 : k ≤ k') (h2 : n ≤ n') : FrameEnd st o t L k' n' := ⟨h.1, h.2.1, h.2.2.mono h1 h2⟩
section RMK
variable {l : Launch} {Hs : Heap} {D : va_G} {cl : List vw_C} {tys : List (ClassId × FieldType)} {y : MethodName} {ws : List Cond} {rm rm' : Room} {av : List Value} {W : va_W}
theorem rm_I {post : Int32 → va_W → Prop} (hab : rm_le rm rm') (h : kI l Hs D cl tys y ws rm av W post) : kI l Hs D cl tys y ws rm' av W post := fun sz =>
  rm_free (fr_cons (h sz) (fun _ _ hp => hp) (fun _ _ _ _ _ hq => ⟨hq.1, hq.2.choose, rm_End hq.2.choose_spec.1 hab.2.1 hab.2.2.1, hq.2.choose_spec.2⟩)) hab
theorem rm_L {post : Int64 → va_W → Prop} (hab : rm_le rm rm') (h : kL l Hs D cl tys y ws rm av W post) : kL l Hs D cl tys y ws rm' av W post := fun sz =>
  rm_free (fr_cons (h sz) (fun _ _ hp => hp) (fun _ _ _ _ _ hq => ⟨hq.1, hq.2.choose, rm_End hq.2.choose_spec.1 hab.2.1 hab.2.2.1, hq.2.choose_spec.2⟩)) hab
theorem rm_V {post : va_W → Prop} (hab : rm_le rm rm') (h : kV l Hs D cl tys y ws rm av W post) : kV l Hs D cl tys y ws rm' av W post := fun sz =>
  rm_free (fr_cons (h sz) (fun _ _ hp => hp) (fun _ _ _ _ _ hq => ⟨hq.1, hq.2.choose, rm_End hq.2.choose_spec.1 hab.2.1 hab.2.2.1, hq.2.choose_spec.2⟩)) hab
theorem rm_X {E : String} {post : va_W → Prop} (hab : rm_le rm rm') (h : kX l Hs D cl tys y ws rm av W E post) : kX l Hs D cl tys y ws rm' av W E post := fun hfl sz =>
  rm_free (fr_cons (h hfl sz) (fun _ _ hp => hp) (fun _ _ _ _ _ hq => ⟨hq.1, hq.2.choose, ⟨hq.2.choose_spec.1.1, hq.2.choose_spec.1.2.1, hq.2.choose_spec.1.2.2.mono hab.2.1 hab.2.2.1⟩, hq.2.choose_spec.2⟩)) hab
end RMK
abbrev RP : Room := { frames := 10, cells := 10, slots := 8000, locals := 200 }
abbrev RM : Room := { frames := 10, cells := 0, slots := 0, locals := 200 }
/-- the cells of StateBuilder -/
def sbX (cI : ClassId) (vs : Value) (X : va_W) : Prop := (vs = .null ∧ X = []) ∨ ∃ (sb i1 i2 i3 i4 i5 i6 i7 K sc aw uc : Nat) (fi fs fw fy fu ft sv : Nat → Nat), vs = .ref sb ∧ X = [(sb, .inr (3, [.ref i1, .ref i2, .ref i3, .int (nI K), .int (nI sc), .int (nI aw), .ref i4, .ref i5, .int (nI uc), .ref i6, .ref i7])), (i1, .inl (cI, 4, .inl (wA fi))), (i2, .inl (cI, 4, .inl (wA fs))), (i3, .inl (cI, 4, .inl (wA fw))), (i4, .inl (cI, 1500, .inl (wA fy))), (i5, .inl (cI, 1500, .inl (wA fu))), (i6, .inl (cI, 1500, .inl (wT ft))), (i7, .inl (cI, 1500, .inl (wA sv)))]
/-- PinwheelKernel's world but StateBuilder's: it holds the state S -/
def PF (cI : ClassId) (S : Nat → Nat → Nat) (h : Nat) (vs : Value) (w : va_W) : Prop := ∃ (rb a0 pr p1 p2 p3 p4 pl q1 q2 q3 q4 fo c0 M1 sa s0 M2 b2 sw : Nat) (u g3 g4 : Nat → Nat), w = [(h, .inr (4, [.ref rb, vs, .ref pr, .ref pl, .ref fo, .ref sa, .int (nI sw), .int (nI (S 0 3)), .int (nI (S 0 4)), .int (nI (S 0 5)), .int (nI (S 0 6))])), (rb, .inr (2, [.ref a0])), (a0, .inl (cI, 10, .inl (wA u))), (pr, .inr (0, [.ref p1, .ref p2, .ref p3, .ref p4, .int (nI (S 0 0))])), (p1, .inl (cI, 10, .inl (wA (S 1)))), (p2, .inl (cI, 10, .inl (wA (S 2)))), (p3, .inl (cI, 10, .inl (wA (S 3)))), (p4, .inl (cI, 10, .inl (wA (S 4)))), (pl, .inr (0, [.ref q1, .ref q2, .ref q3, .ref q4, .int (nI (S 0 8))])), (q1, .inl (cI, 10, .inl (wA (S 6)))), (q2, .inl (cI, 10, .inl (wA (S 7)))), (q3, .inl (cI, 10, .inl (wA g3))), (q4, .inl (cI, 10, .inl (wA g4))), (fo, .inr (1, [.ref c0, .int (nI (S 0 1)), .int (nI (S 0 2))])), (c0, .inl (cI, M1, .inl (wA (S 5)))), (sa, .inr (1, [.ref s0, .int (nI (S 0 9)), .int (nI b2)])), (s0, .inl (cI, M2, .inl (wA (S 8))))] ∧ M1 ≤ 1500 ∧ S 0 1 ≤ M1 ∧ M2 ≤ 1500 ∧ (S 0 7 = 0 → sw = 0) ∧ (0 < S 0 7 → sw = 1 ∧ b2 = S 0 7 ∧ S 0 9 ≤ M2 ∧ pw_nw (S 0 0) (S 1) (S 2) (S 0 8) (S 6) (S 7) g3 g4)
def PW (cI : ClassId) (S : Nat → Nat → Nat) (h : Nat) (w : va_W) : Prop := ∃ (vs : Value) (w1 X : va_W), w = w1 ++ X ∧ PF cI S h vs w1 ∧ sbX cI vs X
theorem fr_app (a b : va_W) : fr_S (a ++ b) a b (List.range a.length) (List.range' a.length b.length) := ⟨rg_C a b, rg_R a b, rg_n1 _, rg_n2 _ _, rg_dis _ _, by rw [List.length_range, List.length_range', List.length_append]⟩
theorem fr_rot (a b : va_W) : fr_R (a ++ b) (b ++ a) := by
  refine ⟨List.range' a.length b.length ++ List.range a.length, rg_nd _ ?_, ?_, ?_⟩
  · rw [List.nodup_append]
    refine ⟨List.nodup_range', List.nodup_range, fun i h1 j h2 e => ?_⟩
    subst e
    exact rg_dis _ _ i h1 h2
  · rw [List.map_append, List.map_append, rg_R, rg_C]
  · rw [List.length_append, List.length_append, List.length_range, List.length_range']; omega
section APX
variable {l : Launch} {Hs : Heap} {D : va_G} {cl : List vw_C} {tys : List (ClassId × FieldType)} {y : MethodName} {ws : List Cond} {rm : Room} {av : List Value} {wc : va_W}
theorem ax_I {post : Int32 → va_W → Prop} (h : kI l Hs D cl tys y ws rm av wc post) (X : va_W) : kI l Hs D cl tys y ws rm av (wc ++ X) (fun r w => ∃ w1, post r w1 ∧ w = w1 ++ X) :=
  wk_I (fr_I h _ _ (fr_app wc X)) (fun r w hq => by
    obtain ⟨w1, h1, rfl⟩ := hq
    exact ⟨w1 ++ X, fr_rot X w1, w1, h1, rfl⟩)
theorem ax_L {post : Int64 → va_W → Prop} (h : kL l Hs D cl tys y ws rm av wc post) (X : va_W) : kL l Hs D cl tys y ws rm av (wc ++ X) (fun r w => ∃ w1, post r w1 ∧ w = w1 ++ X) :=
  wk_L (fr_L h _ _ (fr_app wc X)) (fun r w hq => by
    obtain ⟨w1, h1, rfl⟩ := hq
    exact ⟨w1 ++ X, fr_rot X w1, w1, h1, rfl⟩)
theorem ax_V {post : va_W → Prop} (h : kV l Hs D cl tys y ws rm av wc post) (X : va_W) : kV l Hs D cl tys y ws rm av (wc ++ X) (fun w => ∃ w1, post w1 ∧ w = w1 ++ X) :=
  wk_V (fr_V h _ _ (fr_app wc X)) (fun w hq => by
    obtain ⟨w1, h1, rfl⟩ := hq
    exact ⟨w1 ++ X, fr_rot X w1, w1, h1, rfl⟩)
theorem ax_X {E : String} {post : va_W → Prop} (h : kX l Hs D cl tys y ws rm av wc E post) (X : va_W) : kX l Hs D cl tys y ws rm av (wc ++ X) E (fun w => ∃ w1, post w1 ∧ w = w1 ++ X) :=
  wk_X (fr_X h _ _ (fr_app wc X)) (fun w hq => by
    obtain ⟨w1, h1, rfl⟩ := hq
    exact ⟨w1 ++ X, fr_rot X w1, w1, h1, rfl⟩)
end APX
/-- the model's world: it holds the state S; what it threw last: th -/
def MW (cI cZ : ClassId) (S : Nat → Nat → Nat) (h th : Nat) (w : va_W) : Prop := ∃ (a1 a2 a3 a4 c1 b1 b2 c2 r1 r2 z1 n1 t1 me L2 mn : Nat) (f1 f2 f3 f4 fc g1 g2 cy ro ru zs nu tm : Nat → Nat) (cv : Int32), w = [(h, .inr (5, [.int (nI th), .int (nI (S 0 0)), .ref a1, .ref a2, .ref a3, .ref a4, .int (nI (S 0 4)), .int (nI (S 0 2)), .int (nI (S 0 1)), .ref c1, .int (nI (S 0 3)), .int (nI (S 0 5)), .int (nI (S 0 6)), .int cv, .int (nI me), .ref b1, .ref b2, .int (nI L2), .ref c2, .int (nI mn), .ref r1, .ref r2, .ref z1, .ref n1, .ref t1])), (a1, .inl (cI, 10, .inl (wA f1))), (a2, .inl (cI, 10, .inl (wA f2))), (a3, .inl (cI, 10, .inl (wA f3))), (a4, .inl (cI, 10, .inl (wA f4))), (c1, .inl (cI, 1600, .inl (wA fc))), (b1, .inl (cI, 10, .inl (wA g1))), (b2, .inl (cI, 10, .inl (wA g2))), (c2, .inl (cI, 1600, .inl (wA cy))), (r1, .inl (cI, 10, .inl (wA ro))), (r2, .inl (cI, 10, .inl (wA ru))), (z1, .inl (cZ, 1500, .inl (wA zs))), (n1, .inl (cI, 4, .inl (wA nu))), (t1, .inl (cI, 1500, .inl (wT tm)))] ∧ (∀ t, t < S 0 0 → f1 t = S 1 t ∧ f2 t = S 2 t ∧ f3 t = S 3 t ∧ f4 t = S 4 t) ∧ (∀ j, j < S 0 1 → fc j = S 5 j) ∧ (S 0 7 = 0 → cv = -1) ∧ (0 < S 0 7 → cv = nI (S 0 7) ∧ me = S 0 8 ∧ L2 = S 0 9 ∧ (∀ t, t < S 0 8 → g1 t = S 6 t ∧ g2 t = S 7 t) ∧ ∀ j, j < S 0 9 → cy j = S 8 j)
