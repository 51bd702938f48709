/-! The law's helpers. -/
section CWA
variable {p : Program} {l : Launch} {e : Env} {R : Room} {s : State} {m : MethodId} {args : Array Value} {below : List Frame} {meth : Method} {c : Code} {H : Heap} {locs : List Loc} {cells slots : Nat} {Q : State → Prop}
variable {pc : Nat} {ls : Array Slot} {rest st0 : List Value} {D : va_G} {cl : List vw_C} {A : Nat → Prop} {tys : List (ClassId × FieldType)} {wc wr : va_W} {H0 : Heap} {mc ms : Nat} {av : Array Value}
theorem cwa_i {post : Int32 → va_W → Prop} (hr : va_Run p l e R s m args below meth c H locs cells slots mc ms (F0 m pc ls st0) rest (va_Qi post (kB D cl tys wc H.size) (va_A wc H.size) av) (va_A wc H.size)) (hP : va_P D cl (wc ++ wr) H) (hD : va_D A (wc ++ wr)) (hS : va_S A H0 H locs) (hA : ∀ q, H0.size ≤ q → A q)
    (kk : ∀ (r : Int32) (w1 : va_W) (H1 : Heap) (locs1 : List Loc), post r w1 → wc.length ≤ w1.length → va_P D cl (wr ++ w1) H1 → va_D A (wr ++ w1) → va_S A H0 H1 locs1 → W p l e R s m args below meth c H1 locs1 (cells + mc) (slots + ms) Q (F0 m (pc + 3) ls (.int r :: rest))) : W p l e R s m args below meth c H locs cells slots Q (F0 m pc ls st0) := by
  have hF := va_free hD hS hA _ (rg_C wc wr)
  refine va_calli hr hS (fun q _ h => hF q h) hF fun r u t H1 locs1 ht hvm hp hB hz hk hS1 => ?_
  obtain ⟨hl, hP1, hK1, hD1⟩ := hB
  rw [ht] at hP1
  obtain ⟨g1, g2⟩ := va_join hP hD _ _ (rg_C wc wr) (rg_R wc wr) (rg_n2 _ _) (rg_dis _ _) hk hF hP1 hD1
  exact kk r u H1 locs1 hp hl g1 g2 hS1
theorem cwa_l {post : Int64 → va_W → Prop} (hr : va_Run p l e R s m args below meth c H locs cells slots mc ms (F0 m pc ls st0) rest (va_Ql post (kB D cl tys wc H.size) (va_A wc H.size) av) (va_A wc H.size)) (hP : va_P D cl (wc ++ wr) H) (hD : va_D A (wc ++ wr)) (hS : va_S A H0 H locs) (hA : ∀ q, H0.size ≤ q → A q)
    (kk : ∀ (r : Int64) (w1 : va_W) (H1 : Heap) (locs1 : List Loc), post r w1 → wc.length ≤ w1.length → va_P D cl (wr ++ w1) H1 → va_D A (wr ++ w1) → va_S A H0 H1 locs1 → W p l e R s m args below meth c H1 locs1 (cells + mc) (slots + ms) Q (F0 m (pc + 3) ls (.long r :: rest))) : W p l e R s m args below meth c H locs cells slots Q (F0 m pc ls st0) := by
  have hF := va_free hD hS hA _ (rg_C wc wr)
  refine va_calll hr hS (fun q _ h => hF q h) hF fun r u t H1 locs1 ht hvm hp hB hz hk hS1 => ?_
  obtain ⟨hl, hP1, hK1, hD1⟩ := hB
  rw [ht] at hP1
  obtain ⟨g1, g2⟩ := va_join hP hD _ _ (rg_C wc wr) (rg_R wc wr) (rg_n2 _ _) (rg_dis _ _) hk hF hP1 hD1
  exact kk r u H1 locs1 hp hl g1 g2 hS1
theorem cwa_v {post : va_W → Prop} (hr : va_Run p l e R s m args below meth c H locs cells slots mc ms (F0 m pc ls st0) rest (va_Qv post (kB D cl tys wc H.size) (va_A wc H.size) av) (va_A wc H.size)) (hP : va_P D cl (wc ++ wr) H) (hD : va_D A (wc ++ wr)) (hS : va_S A H0 H locs) (hA : ∀ q, H0.size ≤ q → A q)
    (kk : ∀ (w1 : va_W) (H1 : Heap) (locs1 : List Loc), post w1 → wc.length ≤ w1.length → va_P D cl (wr ++ w1) H1 → va_D A (wr ++ w1) → va_S A H0 H1 locs1 → W p l e R s m args below meth c H1 locs1 (cells + mc) (slots + ms) Q (F0 m (pc + 3) ls rest)) : W p l e R s m args below meth c H locs cells slots Q (F0 m pc ls st0) := by
  have hF := va_free hD hS hA _ (rg_C wc wr)
  refine va_callv hr hS (fun q _ h => hF q h) hF fun u t H1 locs1 ht hvm hp hB hz hk hS1 => ?_
  obtain ⟨hl, hP1, hK1, hD1⟩ := hB
  rw [ht] at hP1
  obtain ⟨g1, g2⟩ := va_join hP hD _ _ (rg_C wc wr) (rg_R wc wr) (rg_n2 _ _) (rg_dis _ _) hk hF hP1 hD1
  exact kk u H1 locs1 hp hl g1 g2 hS1
theorem cwa_x {E own : String} {hh : List (Nat × Nat × Nat × Nat)} {hpc : Nat} {post : va_W → Prop} (hown : s.vm.findClass own = some m.cls) (hr : xk_Run p l e R s m args below meth c H locs cells slots mc ms (F0 m pc ls st0) rest (xk_Q E post (kB D cl tys wc H.size) (va_A wc H.size) av) (va_A wc H.size)) (htb : c.exceptionTable.toList = tableOf hh) (hrows : xc_rows own args s E pc hpc (tableOf hh))
    (hP : va_P D cl (wc ++ wr) H) (hD : va_D A (wc ++ wr)) (hS : va_S A s.heap H locs) (hA : ∀ q, s.heap.size ≤ q → A q)
    (kk : ∀ (q : Nat) (w1 : va_W) (H1 : Heap) (locs1 : List Loc), post w1 → wc.length ≤ w1.length → va_P D cl (wr ++ w1) H1 → va_D A (wr ++ w1) → va_S A s.heap H1 locs1 → W p l e R s m args below meth c H1 locs1 (cells + mc) (slots + ms) Q (F0 m hpc ls [.ref q])) : W p l e R s m args below meth c H locs cells slots Q (F0 m pc ls st0) := by
  have hF := va_free hD hS hA _ (rg_C wc wr)
  intro T hT X
  obtain ⟨q, st₀, t, T', L, h0, X', hL, e1, e2, ⟨⟨q', u, ce, hq', hp, hB, hce, hst, hcl⟩, hz, hk⟩, st⟩ := hr T hT X
  cases hq'
  rw [h0] at hz hk
  obtain ⟨hl, hP1, hK1, hD1⟩ := hB
  obtain ⟨g1, g2⟩ := va_join hP hD _ _ (rg_C wc wr) (rg_R wc wr) (rg_n2 _ _) (rg_dis _ _) hk hF hP1 hD1
  have hS1 : va_S A s.heap t.heap (locs ++ L) := ⟨Nat.le_trans hS.1 hz, fun z h1 h2 => by rw [hk z (Nat.lt_of_lt_of_le h1 hS.1) (fun y => h2 (hF z y))]; exact hS.2.1 z h1 h2, fun z hz2 => by
      rcases List.mem_append.mp hz2 with h | h
      · exact hS.2.2 z h
      · exact hF _ (hL z h)⟩
  have hpl : e.platform.magicAccessors = ({} : Platform).magicAccessors := by rw [X.admits.platform]
  have hal : s.vm.Alike t.vm := by rw [← e2]; exact X'.warmed.alike
  obtain ⟨vm', hW', hfd⟩ := xc_find (cM := 0) (f := F0 m pc ls rest) (a := q) (e := e) hown hpl hst (by rw [← hal.findClass]; exact hcl) (tableOf hh) ((T'.setTop (F0 m pc ls rest)).pushFrame (.throwing q)) hrows X'.warmed (by show T'.heap[q]? = _; rw [e1]; exact hce)
  have hm' : T'.vm.method? m = some meth := X'.method'
  obtain ⟨t2, a1, b1⟩ := kk q u t.heap (locs ++ L) hp hl g1 g2 hS1 (T'.setVm vm') e1 (X'.noted hW')
  exact ⟨t2, st.trans (xc_caught (g := F0 m pc ls rest) X'.here hm' X'.code (by rw [htb]; exact hfd) a1), b1⟩
end CWA
theorem PW_hd {cI : ClassId} {S : Nat → Nat → Nat} {h : Nat} {w : va_W} (hw : PW cI S h w) : ∃ fs tl, w = (h, .inr (4, fs)) :: tl := by
  obtain ⟨vs, w1, X, rfl, hpf, -⟩ := hw
  obtain ⟨rb, a0, pr, p1, p2, p3, p4, pl, q1, q2, q3, q4, fo, c0, M1, sa, s0, M2, b2, sw, u, g3, g4, rfl, -⟩ := hpf
  exact ⟨_, _, rfl⟩
theorem cs_self {E : String} {s : State} (h : va_Nw (Cond.castable E E) s) : ∀ a b, s.vm.findClass E = some a → s.vm.findClass E = some b → s.vm.assignable a b = true := by
  intro a b ha hb
  obtain ⟨c3, t3, w1, w2, w3⟩ := Cond.castable_spec (args := #[]) (va_Nw.use rfl h)
  cases w1.symm.trans ha
  cases w2.symm.trans hb
  exact w3
theorem xr_hit {own : String} {args : Array Value} {s : State} {E : String} {pc hpc : Nat} {x : ExceptionTableEntry} {t : List ExceptionTableEntry} {B : String} (h1 : covers x pc = true) (h2 : x.catchType ≠ 0) (h3 : (Cond.classLink own x.catchType B).before args s = true) (h4 : x.handlerPc = hpc) (h5 : ∀ a b, s.vm.findClass E = some a → s.vm.findClass B = some b → s.vm.assignable a b = true) : xc_rows own args s E pc hpc (x :: t) := ⟨h1, h2, B, h3, Or.inl ⟨h4, h5⟩⟩
theorem xr_miss {own : String} {args : Array Value} {s : State} {E : String} {pc hpc : Nat} {x : ExceptionTableEntry} {t : List ExceptionTableEntry} {B : String} (h1 : covers x pc = true) (h2 : x.catchType ≠ 0) (h3 : (Cond.classLink own x.catchType B).before args s = true) (h5 : ∀ a b, s.vm.findClass E = some a → s.vm.findClass B = some b → s.vm.assignable a b = false) (h6 : xc_rows own args s E pc hpc t) : xc_rows own args s E pc hpc (x :: t) := ⟨h1, h2, B, h3, Or.inr ⟨h5, h6⟩⟩
abbrev RH : Room := { frames := 11, cells := 10, slots := 8000, locals := 240 }
set_option maxHeartbeats 4000000 in
set_option maxRecDepth 100000 in
theorem h_ask (l : Launch) (hfl : l.flags = flags0) (Hs : Heap) (D : va_G) (cI cZ cL : ClassId) {T : Nat} {S : Nat → Nat → Nat} {h o : Nat} {fo : Nat → Int64} {w : va_W} {x y : Int32} (hi : iS T S) (hw : PW cI S h w) : kI l Hs D kcl (ty3 cI cZ cL) y_Lw_ask (mwh y_Lw_ask b_Lw_ask 5 (Option.some Jvm.ClassFile.FieldType.int) [((0 : Nat), (10 : Nat), (13 : Nat), (13 : Nat)), ((0 : Nat), (10 : Nat), (17 : Nat), (15 : Nat)), ((0 : Nat), (10 : Nat), (21 : Nat), (17 : Nat))]) RH [.ref h, .int x, .int y, .ref o] ((o, .inl (cL, 1, .inr (.inl fo))) :: w) (fun r w9 => ∃ (kd : Nat) (S9 : Nat → Nat → Nat) (v : Int32) (fo9 : Nat → Int64) (wp9 : va_W), askR S x y kd S9 v ∧ kd ≤ 3 ∧ r = nI kd ∧ (kd = 0 → fo9 0 = v.toInt64) ∧ PW cI S9 h wp9 ∧ w9 = (o, .inl (cL, 1, .inr (.inl fo9))) :: wp9) := by
  intro sz
  refine k_ofW (cc := b_Lw_ask) (maxL := 5) (ret := (Option.some Jvm.ClassFile.FieldType.int)) (hh := [((0 : Nat), (10 : Nat), (13 : Nat), (13 : Nat)), ((0 : Nat), (10 : Nat), (17 : Nat), (15 : Nat)), ((0 : Nat), (10 : Nat), (21 : Nat), (17 : Nat))]) (by decide) rfl (Nat.le_of_ble_eq_true rfl) ?_
  intro p e s m args below meth c ls H locs A Q hQ hx hb hml hr hts hown hlk hnm hsz hAe hP hK hD hS hA hE hAH hl htb
  have ht : ∀ w ∈ mw, w.before args s = true := fun w h => hts w (List.mem_cons_of_mem _ h)
  have hl : lv_has ls 5 [(0, .ref h), (1, .int x), (2, .int y), (3, .ref o)] := hl
  refine lv_aload_n hx hb d_Lw_ask_0 rfl (lv_at hl 3 rfl) ?_
  refine lv_iconst (v := nI 0) hx hb d_Lw_ask_1 (by decide) ?_
  refine lv_aload_n hx hb d_Lw_ask_2 rfl (lv_at hl 0 rfl) ?_
  refine lv_iload_n hx hb d_Lw_ask_3 rfl (lv_at hl 1 rfl) ?_
  refine lv_iload_n hx hb d_Lw_ask_4 rfl (lv_at hl 2 rfl) ?_
  obtain ⟨fs, tl, hw0⟩ := PW_hd hw
  have hP2 : va_P D kcl (w ++ [(o, .inl (cL, 1, .inr (.inl fo)))]) H := va_P.rot (a := [(o, .inl (cL, 1, .inr (.inl fo)))]) (b := w) hP
  have hD2 : va_D A (w ++ [(o, .inl (cL, 1, .inr (.inl fo)))]) := va_D.rot (a := [(o, .inl (cL, 1, .inr (.inl fo)))]) (b := w) hD
  have he : (w ++ [(o, .inl (cL, 1, .inr (.inl fo)))])[0]? = some (h, .inr (4, fs)) := by rw [hw0]; rfl
  rcases k_Pk_ask l Hs D cI cZ cL hi hw with hk | hk | hk | hk
  · refine cwa_x (own := R_Lw) (wc := w) (wr := [(o, .inl (cL, 1, .inr (.inl fo)))]) (E := e_IA) (hpc := 13) (hh := [((0 : Nat), (10 : Nat), (13 : Nat), (13 : Nat)), ((0 : Nat), (10 : Nat), (17 : Nat), (15 : Nat)), ((0 : Nat), (10 : Nat), (21 : Nat), (17 : Nat))]) hown (xk_runV (As := [.int x, .int y]) (rest := [.int (nI 0), .ref o]) (C := R_Pk) ⟨hx, hb, hml, hown, ht⟩ (hk hfl H.size) (gw_V 2 ht wd_288 wd_1 wd_285 wd_286 wd_287 (by decide +kernel) ⟨Nat.le_of_ble_eq_true rfl, Nat.le_of_ble_eq_true rfl⟩) (k_preV hE hAH hK hP2 hD2 hS (List.range w.length) (rg_C w [(o, .inl (cL, 1, .inr (.inl fo)))]) (rg_n1 _) 0 he rfl) rfl rfl hl.1 rfl (lv_room (Nat.le_of_ble_eq_true rfl)) d_Lw_ask_5 ⟨Nat.le_of_ble_eq_true rfl, Nat.le_of_ble_eq_true rfl⟩) htb (xr_hit rfl (by decide) (ht _ wd_282) rfl (cs_self (nw_291 hE.1))) hP2 hD2 hS hA (fun q w1 H locs hpost hlen hP hD hS => ?_)
    obtain ⟨S9, hrel, hpw⟩ := hpost
    refine lv_astore (lv' := [(4, .ref q), (0, .ref h), (1, .int x), (2, .int y), (3, .ref o)]) hx hb d_Lw_ask_13 hl (by decide) rfl (fun ls hl => ?_)
    refine lv_iconst (v := nI 1) hx hb d_Lw_ask_15 (by decide) ?_
    exact k_reti hQ hx hb hr hlk hAe hK hP hD hS (Nat.succ_le_succ hlen) (Nat.le_of_ble_eq_true rfl) (Nat.le_of_ble_eq_true rfl) ⟨1, S9, 0, fo, w1, hrel 0, by decide, rfl, fun q => absurd q (by decide), hpw, rfl⟩ d_Lw_ask_16
  · refine cwa_x (own := R_Lw) (wc := w) (wr := [(o, .inl (cL, 1, .inr (.inl fo)))]) (E := e_IS) (hpc := 17) (hh := [((0 : Nat), (10 : Nat), (13 : Nat), (13 : Nat)), ((0 : Nat), (10 : Nat), (17 : Nat), (15 : Nat)), ((0 : Nat), (10 : Nat), (21 : Nat), (17 : Nat))]) hown (xk_runV (As := [.int x, .int y]) (rest := [.int (nI 0), .ref o]) (C := R_Pk) ⟨hx, hb, hml, hown, ht⟩ (hk hfl H.size) (gw_V 2 ht wd_288 wd_1 wd_285 wd_286 wd_287 (by decide +kernel) ⟨Nat.le_of_ble_eq_true rfl, Nat.le_of_ble_eq_true rfl⟩) (k_preV hE hAH hK hP2 hD2 hS (List.range w.length) (rg_C w [(o, .inl (cL, 1, .inr (.inl fo)))]) (rg_n1 _) 0 he rfl) rfl rfl hl.1 rfl (lv_room (Nat.le_of_ble_eq_true rfl)) d_Lw_ask_5 ⟨Nat.le_of_ble_eq_true rfl, Nat.le_of_ble_eq_true rfl⟩) htb (xr_miss rfl (by decide) (ht _ wd_282) (hE.2.2.2.2.2.2 _ (List.mem_of_getElem? (i := 0) rfl)) (xr_hit rfl (by decide) (ht _ wd_283) rfl (cs_self (nw_358 hE.1)))) hP2 hD2 hS hA (fun q w1 H locs hpost hlen hP hD hS => ?_)
    obtain ⟨S9, hrel, hpw⟩ := hpost
    refine lv_astore (lv' := [(4, .ref q), (0, .ref h), (1, .int x), (2, .int y), (3, .ref o)]) hx hb d_Lw_ask_17 hl (by decide) rfl (fun ls hl => ?_)
    refine lv_iconst (v := nI 2) hx hb d_Lw_ask_19 (by decide) ?_
    exact k_reti hQ hx hb hr hlk hAe hK hP hD hS (Nat.succ_le_succ hlen) (Nat.le_of_ble_eq_true rfl) (Nat.le_of_ble_eq_true rfl) ⟨2, S9, 0, fo, w1, hrel 0, by decide, rfl, fun q => absurd q (by decide), hpw, rfl⟩ d_Lw_ask_20
  · refine cwa_x (own := R_Lw) (wc := w) (wr := [(o, .inl (cL, 1, .inr (.inl fo)))]) (E := e_UO) (hpc := 21) (hh := [((0 : Nat), (10 : Nat), (13 : Nat), (13 : Nat)), ((0 : Nat), (10 : Nat), (17 : Nat), (15 : Nat)), ((0 : Nat), (10 : Nat), (21 : Nat), (17 : Nat))]) hown (xk_runV (As := [.int x, .int y]) (rest := [.int (nI 0), .ref o]) (C := R_Pk) ⟨hx, hb, hml, hown, ht⟩ (hk hfl H.size) (gw_V 2 ht wd_288 wd_1 wd_285 wd_286 wd_287 (by decide +kernel) ⟨Nat.le_of_ble_eq_true rfl, Nat.le_of_ble_eq_true rfl⟩) (k_preV hE hAH hK hP2 hD2 hS (List.range w.length) (rg_C w [(o, .inl (cL, 1, .inr (.inl fo)))]) (rg_n1 _) 0 he rfl) rfl rfl hl.1 rfl (lv_room (Nat.le_of_ble_eq_true rfl)) d_Lw_ask_5 ⟨Nat.le_of_ble_eq_true rfl, Nat.le_of_ble_eq_true rfl⟩) htb (xr_miss rfl (by decide) (ht _ wd_282) (hE.2.2.2.2.2.2 _ (List.mem_of_getElem? (i := 1) rfl)) (xr_miss rfl (by decide) (ht _ wd_283) (hE.2.2.2.2.2.2 _ (List.mem_of_getElem? (i := 2) rfl)) (xr_hit rfl (by decide) (ht _ wd_284) rfl (cs_self (nw_373 hE.1))))) hP2 hD2 hS hA (fun q w1 H locs hpost hlen hP hD hS => ?_)
    obtain ⟨S9, hrel, hpw⟩ := hpost
    refine lv_astore (lv' := [(4, .ref q), (0, .ref h), (1, .int x), (2, .int y), (3, .ref o)]) hx hb d_Lw_ask_21 hl (by decide) rfl (fun ls hl => ?_)
    refine lv_iconst (v := nI 3) hx hb d_Lw_ask_23 (by decide) ?_
    exact k_reti hQ hx hb hr hlk hAe hK hP hD hS (Nat.succ_le_succ hlen) (Nat.le_of_ble_eq_true rfl) (Nat.le_of_ble_eq_true rfl) ⟨3, S9, 0, fo, w1, hrel 0, by decide, rfl, fun q => absurd q (by decide), hpw, rfl⟩ d_Lw_ask_24
  · refine cwa_i (wc := w) (wr := [(o, .inl (cL, 1, .inr (.inl fo)))]) (va_runV (As := [.int x, .int y]) (rest := [.int (nI 0), .ref o]) (C := R_Pk) ⟨hx, hb, hml, hown, ht⟩ (hk H.size) (gw_V 2 ht wd_288 wd_1 wd_285 wd_286 wd_287 (by decide +kernel) ⟨Nat.le_of_ble_eq_true rfl, Nat.le_of_ble_eq_true rfl⟩) (k_preV hE hAH hK hP2 hD2 hS (List.range w.length) (rg_C w [(o, .inl (cL, 1, .inr (.inl fo)))]) (rg_n1 _) 0 he rfl) rfl rfl hl.1 rfl (lv_room (Nat.le_of_ble_eq_true rfl)) d_Lw_ask_5 ⟨Nat.le_of_ble_eq_true rfl, Nat.le_of_ble_eq_true rfl⟩) hP2 hD2 hS hA (fun r w1 H locs hpost hlen hP hD hS => ?_)
    refine lv_i2l (v := r.toInt64) hx hb d_Lw_ask_8 rfl ?_
    refine va_last hx hb hK hP hD hS 0 2 rfl rfl (vp_in_nI (by decide) (by decide)) d_Lw_ask_9 (fun H locs hP hD hS => ?_)
    have hP : va_P D kcl ((o, .inl (cL, 1, .inr (.inl (vp_updL fo 0 (r.toInt64))))) :: w1) H := hP
    have hD : va_D A ((o, .inl (cL, 1, .inr (.inl (vp_updL fo 0 (r.toInt64))))) :: w1) := hD
    obtain ⟨S9, hrel, hpw⟩ := hpost
    refine lv_goto hx hb d_Lw_ask_10 rfl ?_
    refine lv_iconst (v := nI 0) hx hb d_Lw_ask_25 (by decide) ?_
    exact k_reti hQ hx hb hr hlk hAe hK hP hD hS (Nat.succ_le_succ hlen) (Nat.le_of_ble_eq_true rfl) (Nat.le_of_ble_eq_true rfl) ⟨0, S9, r, _, w1, hrel, by decide, rfl, fun _ => rfl, hpw, rfl⟩ d_Lw_ask_26
set_option maxHeartbeats 4000000 in
set_option maxRecDepth 100000 in
theorem h_drop (l : Launch) (hfl : l.flags = flags0) (Hs : Heap) (D : va_G) (cI cZ cL : ClassId) {T : Nat} {S : Nat → Nat → Nat} {h o : Nat} {fo : Nat → Int64} {w : va_W} {x : Int32} (hi : iS T S) (hw : PW cI S h w) : kI l Hs D kcl (ty3 cI cZ cL) y_Lw_drop (mwh y_Lw_drop b_Lw_drop 4 (Option.some Jvm.ClassFile.FieldType.int) [((0 : Nat), (9 : Nat), (12 : Nat), (23 : Nat)), ((0 : Nat), (9 : Nat), (15 : Nat), (15 : Nat))]) RH [.ref h, .int x, .ref o] ((o, .inl (cL, 1, .inr (.inl fo))) :: w) (fun r w9 => ∃ (kd : Nat) (S9 : Nat → Nat → Nat) (v : Int32) (fo9 : Nat → Int64) (wp9 : va_W), dropR S x kd S9 v ∧ kd ≤ 3 ∧ r = nI kd ∧ (kd = 0 → fo9 0 = v.toInt64) ∧ PW cI S9 h wp9 ∧ w9 = (o, .inl (cL, 1, .inr (.inl fo9))) :: wp9) := by
  intro sz
  refine k_ofW (cc := b_Lw_drop) (maxL := 4) (ret := (Option.some Jvm.ClassFile.FieldType.int)) (hh := [((0 : Nat), (9 : Nat), (12 : Nat), (23 : Nat)), ((0 : Nat), (9 : Nat), (15 : Nat), (15 : Nat))]) (by decide) rfl (Nat.le_of_ble_eq_true rfl) ?_
  intro p e s m args below meth c ls H locs A Q hQ hx hb hml hr hts hown hlk hnm hsz hAe hP hK hD hS hA hE hAH hl htb
  have ht : ∀ w ∈ mw, w.before args s = true := fun w h => hts w (List.mem_cons_of_mem _ h)
  have hl : lv_has ls 4 [(0, .ref h), (1, .int x), (2, .ref o)] := hl
  refine lv_aload_n hx hb d_Lw_drop_0 rfl (lv_at hl 2 rfl) ?_
  refine lv_iconst (v := nI 0) hx hb d_Lw_drop_1 (by decide) ?_
  refine lv_aload_n hx hb d_Lw_drop_2 rfl (lv_at hl 0 rfl) ?_
  refine lv_iload_n hx hb d_Lw_drop_3 rfl (lv_at hl 1 rfl) ?_
  obtain ⟨fs, tl, hw0⟩ := PW_hd hw
  have hP2 : va_P D kcl (w ++ [(o, .inl (cL, 1, .inr (.inl fo)))]) H := va_P.rot (a := [(o, .inl (cL, 1, .inr (.inl fo)))]) (b := w) hP
  have hD2 : va_D A (w ++ [(o, .inl (cL, 1, .inr (.inl fo)))]) := va_D.rot (a := [(o, .inl (cL, 1, .inr (.inl fo)))]) (b := w) hD
  have he : (w ++ [(o, .inl (cL, 1, .inr (.inl fo)))])[0]? = some (h, .inr (4, fs)) := by rw [hw0]; rfl
  rcases k_Pk_drop l Hs D cI cZ cL hi hw with hk | hk | hk
  · refine cwa_x (own := R_Lw) (wc := w) (wr := [(o, .inl (cL, 1, .inr (.inl fo)))]) (E := e_NS) (hpc := 12) (hh := [((0 : Nat), (9 : Nat), (12 : Nat), (23 : Nat)), ((0 : Nat), (9 : Nat), (15 : Nat), (15 : Nat))]) hown (xk_runV (As := [.int x]) (rest := [.int (nI 0), .ref o]) (C := R_Pk) ⟨hx, hb, hml, hown, ht⟩ (hk hfl H.size) (gw_V 1 ht wd_775 wd_1 wd_772 wd_773 wd_774 (by decide +kernel) ⟨Nat.le_of_ble_eq_true rfl, Nat.le_of_ble_eq_true rfl⟩) (k_preV hE hAH hK hP2 hD2 hS (List.range w.length) (rg_C w [(o, .inl (cL, 1, .inr (.inl fo)))]) (rg_n1 _) 0 he rfl) rfl rfl hl.1 rfl (lv_room (Nat.le_of_ble_eq_true rfl)) d_Lw_drop_4 ⟨Nat.le_of_ble_eq_true rfl, Nat.le_of_ble_eq_true rfl⟩) htb (xr_hit rfl (by decide) (ht _ wd_771) rfl (cs_self (nw_782 hE.1))) hP2 hD2 hS hA (fun q w1 H locs hpost hlen hP hD hS => ?_)
    obtain ⟨S9, hrel, hpw⟩ := hpost
    refine lv_astore_n (lv' := [(3, .ref q), (0, .ref h), (1, .int x), (2, .ref o)]) hx hb d_Lw_drop_12 rfl hl (by decide) rfl (fun ls hl => ?_)
    refine lv_iconst (v := nI 1) hx hb d_Lw_drop_13 (by decide) ?_
    exact k_reti hQ hx hb hr hlk hAe hK hP hD hS (Nat.succ_le_succ hlen) (Nat.le_of_ble_eq_true rfl) (Nat.le_of_ble_eq_true rfl) ⟨1, S9, 0, fo, w1, hrel 0, by decide, rfl, fun q => absurd q (by decide), hpw, rfl⟩ d_Lw_drop_14
  · refine cwa_x (own := R_Lw) (wc := w) (wr := [(o, .inl (cL, 1, .inr (.inl fo)))]) (E := e_IS) (hpc := 15) (hh := [((0 : Nat), (9 : Nat), (12 : Nat), (23 : Nat)), ((0 : Nat), (9 : Nat), (15 : Nat), (15 : Nat))]) hown (xk_runV (As := [.int x]) (rest := [.int (nI 0), .ref o]) (C := R_Pk) ⟨hx, hb, hml, hown, ht⟩ (hk hfl H.size) (gw_V 1 ht wd_775 wd_1 wd_772 wd_773 wd_774 (by decide +kernel) ⟨Nat.le_of_ble_eq_true rfl, Nat.le_of_ble_eq_true rfl⟩) (k_preV hE hAH hK hP2 hD2 hS (List.range w.length) (rg_C w [(o, .inl (cL, 1, .inr (.inl fo)))]) (rg_n1 _) 0 he rfl) rfl rfl hl.1 rfl (lv_room (Nat.le_of_ble_eq_true rfl)) d_Lw_drop_4 ⟨Nat.le_of_ble_eq_true rfl, Nat.le_of_ble_eq_true rfl⟩) htb (xr_miss rfl (by decide) (ht _ wd_771) (hE.2.2.2.2.2.2 _ (List.mem_of_getElem? (i := 3) rfl)) (xr_hit rfl (by decide) (ht _ wd_283) rfl (cs_self (nw_358 hE.1)))) hP2 hD2 hS hA (fun q w1 H locs hpost hlen hP hD hS => ?_)
    obtain ⟨S9, hrel, hpw⟩ := hpost
    refine lv_astore_n (lv' := [(3, .ref q), (0, .ref h), (1, .int x), (2, .ref o)]) hx hb d_Lw_drop_15 rfl hl (by decide) rfl (fun ls hl => ?_)
    refine lv_iconst (v := nI 2) hx hb d_Lw_drop_16 (by decide) ?_
    exact k_reti hQ hx hb hr hlk hAe hK hP hD hS (Nat.succ_le_succ hlen) (Nat.le_of_ble_eq_true rfl) (Nat.le_of_ble_eq_true rfl) ⟨2, S9, 0, fo, w1, hrel 0, by decide, rfl, fun q => absurd q (by decide), hpw, rfl⟩ d_Lw_drop_17
  · refine cwa_i (wc := w) (wr := [(o, .inl (cL, 1, .inr (.inl fo)))]) (va_runV (As := [.int x]) (rest := [.int (nI 0), .ref o]) (C := R_Pk) ⟨hx, hb, hml, hown, ht⟩ (hk H.size) (gw_V 1 ht wd_775 wd_1 wd_772 wd_773 wd_774 (by decide +kernel) ⟨Nat.le_of_ble_eq_true rfl, Nat.le_of_ble_eq_true rfl⟩) (k_preV hE hAH hK hP2 hD2 hS (List.range w.length) (rg_C w [(o, .inl (cL, 1, .inr (.inl fo)))]) (rg_n1 _) 0 he rfl) rfl rfl hl.1 rfl (lv_room (Nat.le_of_ble_eq_true rfl)) d_Lw_drop_4 ⟨Nat.le_of_ble_eq_true rfl, Nat.le_of_ble_eq_true rfl⟩) hP2 hD2 hS hA (fun r w1 H locs hpost hlen hP hD hS => ?_)
    refine lv_i2l (v := r.toInt64) hx hb d_Lw_drop_7 rfl ?_
    refine va_last hx hb hK hP hD hS 0 2 rfl rfl (vp_in_nI (by decide) (by decide)) d_Lw_drop_8 (fun H locs hP hD hS => ?_)
    have hP : va_P D kcl ((o, .inl (cL, 1, .inr (.inl (vp_updL fo 0 (r.toInt64))))) :: w1) H := hP
    have hD : va_D A ((o, .inl (cL, 1, .inr (.inl (vp_updL fo 0 (r.toInt64))))) :: w1) := hD
    obtain ⟨S9, hrel, hpw⟩ := hpost
    refine lv_goto hx hb d_Lw_drop_9 rfl ?_
    refine lv_iconst (v := nI 0) hx hb d_Lw_drop_18 (by decide) ?_
    exact k_reti hQ hx hb hr hlk hAe hK hP hD hS (Nat.succ_le_succ hlen) (Nat.le_of_ble_eq_true rfl) (Nat.le_of_ble_eq_true rfl) ⟨0, S9, r, _, w1, hrel, by decide, rfl, fun _ => rfl, hpw, rfl⟩ d_Lw_drop_19
set_option maxHeartbeats 4000000 in
set_option maxRecDepth 100000 in
theorem h_wish (l : Launch) (hfl : l.flags = flags0) (Hs : Heap) (D : va_G) (cI cZ cL : ClassId) {T : Nat} {S : Nat → Nat → Nat} {h : Nat} {w : va_W} {x : Int32} (hi : iS T S) (hw : PW cI S h w) : kI l Hs D kcl (ty3 cI cZ cL) y_Lw_wish (mwh y_Lw_wish b_Lw_wish 3 (Option.some Jvm.ClassFile.FieldType.int) [((0 : Nat), (5 : Nat), (8 : Nat), (23 : Nat)), ((0 : Nat), (5 : Nat), (11 : Nat), (15 : Nat))]) RH [.ref h, .int x] (w) (fun r w9 => ∃ (kd : Nat) (S9 : Nat → Nat → Nat) (wp9 : va_W), wishR S x kd S9 ∧ kd ≤ 3 ∧ r = nI kd ∧ PW cI S9 h wp9 ∧ w9 = wp9) := by
  intro sz
  refine k_ofW (cc := b_Lw_wish) (maxL := 3) (ret := (Option.some Jvm.ClassFile.FieldType.int)) (hh := [((0 : Nat), (5 : Nat), (8 : Nat), (23 : Nat)), ((0 : Nat), (5 : Nat), (11 : Nat), (15 : Nat))]) (by decide) rfl (Nat.le_of_ble_eq_true rfl) ?_
  intro p e s m args below meth c ls H locs A Q hQ hx hb hml hr hts hown hlk hnm hsz hAe hP hK hD hS hA hE hAH hl htb
  have ht : ∀ w ∈ mw, w.before args s = true := fun w h => hts w (List.mem_cons_of_mem _ h)
  have hl : lv_has ls 3 [(0, .ref h), (1, .int x)] := hl
  refine lv_aload_n hx hb d_Lw_wish_0 rfl (lv_at hl 0 rfl) ?_
  refine lv_iload_n hx hb d_Lw_wish_1 rfl (lv_at hl 1 rfl) ?_
  obtain ⟨fs, tl, hw0⟩ := PW_hd hw
  have hP2 : va_P D kcl (w ++ ([] : va_W)) H := va_P.rot (a := ([] : va_W)) (b := w) hP
  have hD2 : va_D A (w ++ ([] : va_W)) := va_D.rot (a := ([] : va_W)) (b := w) hD
  have he : (w ++ ([] : va_W))[0]? = some (h, .inr (4, fs)) := by rw [hw0]; rfl
  rcases k_Pk_wish l Hs D cI cZ cL hi hw with hk | hk | hk
  · refine cwa_x (own := R_Lw) (wc := w) (wr := ([] : va_W)) (E := e_NS) (hpc := 8) (hh := [((0 : Nat), (5 : Nat), (8 : Nat), (23 : Nat)), ((0 : Nat), (5 : Nat), (11 : Nat), (15 : Nat))]) hown (xk_runV (As := [.int x]) (rest := []) (C := R_Pk) ⟨hx, hb, hml, hown, ht⟩ (hk hfl H.size) (gw_V 1 ht wd_805 wd_1 wd_802 wd_803 wd_804 (by decide +kernel) ⟨Nat.le_of_ble_eq_true rfl, Nat.le_of_ble_eq_true rfl⟩) (k_preV hE hAH hK hP2 hD2 hS (List.range w.length) (rg_C w ([] : va_W)) (rg_n1 _) 0 he rfl) rfl rfl hl.1 rfl (lv_room (Nat.le_of_ble_eq_true rfl)) d_Lw_wish_2 ⟨Nat.le_of_ble_eq_true rfl, Nat.le_of_ble_eq_true rfl⟩) htb (xr_hit rfl (by decide) (ht _ wd_771) rfl (cs_self (nw_782 hE.1))) hP2 hD2 hS hA (fun q w1 H locs hpost hlen hP hD hS => ?_)
    obtain ⟨S9, hrel, hpw⟩ := hpost
    refine lv_astore_n (lv' := [(2, .ref q), (0, .ref h), (1, .int x)]) hx hb d_Lw_wish_8 rfl hl (by decide) rfl (fun ls hl => ?_)
    refine lv_iconst (v := nI 1) hx hb d_Lw_wish_9 (by decide) ?_
    exact k_reti hQ hx hb hr hlk hAe hK hP hD hS (hlen) (Nat.le_of_ble_eq_true rfl) (Nat.le_of_ble_eq_true rfl) ⟨1, S9, w1, hrel, by decide, rfl, hpw, rfl⟩ d_Lw_wish_10
  · refine cwa_x (own := R_Lw) (wc := w) (wr := ([] : va_W)) (E := e_IS) (hpc := 11) (hh := [((0 : Nat), (5 : Nat), (8 : Nat), (23 : Nat)), ((0 : Nat), (5 : Nat), (11 : Nat), (15 : Nat))]) hown (xk_runV (As := [.int x]) (rest := []) (C := R_Pk) ⟨hx, hb, hml, hown, ht⟩ (hk hfl H.size) (gw_V 1 ht wd_805 wd_1 wd_802 wd_803 wd_804 (by decide +kernel) ⟨Nat.le_of_ble_eq_true rfl, Nat.le_of_ble_eq_true rfl⟩) (k_preV hE hAH hK hP2 hD2 hS (List.range w.length) (rg_C w ([] : va_W)) (rg_n1 _) 0 he rfl) rfl rfl hl.1 rfl (lv_room (Nat.le_of_ble_eq_true rfl)) d_Lw_wish_2 ⟨Nat.le_of_ble_eq_true rfl, Nat.le_of_ble_eq_true rfl⟩) htb (xr_miss rfl (by decide) (ht _ wd_771) (hE.2.2.2.2.2.2 _ (List.mem_of_getElem? (i := 3) rfl)) (xr_hit rfl (by decide) (ht _ wd_283) rfl (cs_self (nw_358 hE.1)))) hP2 hD2 hS hA (fun q w1 H locs hpost hlen hP hD hS => ?_)
    obtain ⟨S9, hrel, hpw⟩ := hpost
    refine lv_astore_n (lv' := [(2, .ref q), (0, .ref h), (1, .int x)]) hx hb d_Lw_wish_11 rfl hl (by decide) rfl (fun ls hl => ?_)
    refine lv_iconst (v := nI 2) hx hb d_Lw_wish_12 (by decide) ?_
    exact k_reti hQ hx hb hr hlk hAe hK hP hD hS (hlen) (Nat.le_of_ble_eq_true rfl) (Nat.le_of_ble_eq_true rfl) ⟨2, S9, w1, hrel, by decide, rfl, hpw, rfl⟩ d_Lw_wish_13
  · refine cwa_v (wc := w) (wr := ([] : va_W)) (va_runV (As := [.int x]) (rest := []) (C := R_Pk) ⟨hx, hb, hml, hown, ht⟩ (hk H.size) (gw_V 1 ht wd_805 wd_1 wd_802 wd_803 wd_804 (by decide +kernel) ⟨Nat.le_of_ble_eq_true rfl, Nat.le_of_ble_eq_true rfl⟩) (k_preV hE hAH hK hP2 hD2 hS (List.range w.length) (rg_C w ([] : va_W)) (rg_n1 _) 0 he rfl) rfl rfl hl.1 rfl (lv_room (Nat.le_of_ble_eq_true rfl)) d_Lw_wish_2 ⟨Nat.le_of_ble_eq_true rfl, Nat.le_of_ble_eq_true rfl⟩) hP2 hD2 hS hA (fun w1 H locs hpost hlen hP hD hS => ?_)
    obtain ⟨S9, hrel, hpw⟩ := hpost
    refine lv_goto hx hb d_Lw_wish_5 rfl ?_
    refine lv_iconst (v := nI 0) hx hb d_Lw_wish_14 (by decide) ?_
    exact k_reti hQ hx hb hr hlk hAe hK hP hD hS (hlen) (Nat.le_of_ble_eq_true rfl) (Nat.le_of_ble_eq_true rfl) ⟨0, S9, w1, hrel, by decide, rfl, hpw, rfl⟩ d_Lw_wish_15
set_option maxHeartbeats 4000000 in
set_option maxRecDepth 100000 in
theorem h_waited (l : Launch) (hfl : l.flags = flags0) (Hs : Heap) (D : va_G) (cI cZ cL : ClassId) {T : Nat} {S : Nat → Nat → Nat} {h o : Nat} {fo : Nat → Int64} {w : va_W} {x : Int32} (hi : iS T S) (hw : PW cI S h w) : kI l Hs D kcl (ty3 cI cZ cL) y_Lw_waited (mwh y_Lw_waited b_Lw_waited 4 (Option.some Jvm.ClassFile.FieldType.int) [((0 : Nat), (9 : Nat), (12 : Nat), (23 : Nat))]) RH [.ref h, .int x, .ref o] ((o, .inl (cL, 1, .inr (.inl fo))) :: w) (fun r w9 => ∃ (kd : Nat) (v : Int32) (fo9 : Nat → Int64) (wp9 : va_W), getR 3 S x kd v ∧ kd ≤ 3 ∧ r = nI kd ∧ (kd = 0 → fo9 0 = v.toInt64) ∧ PW cI S h wp9 ∧ w9 = (o, .inl (cL, 1, .inr (.inl fo9))) :: wp9) := by
  intro sz
  refine k_ofW (cc := b_Lw_waited) (maxL := 4) (ret := (Option.some Jvm.ClassFile.FieldType.int)) (hh := [((0 : Nat), (9 : Nat), (12 : Nat), (23 : Nat))]) (by decide) rfl (Nat.le_of_ble_eq_true rfl) ?_
  intro p e s m args below meth c ls H locs A Q hQ hx hb hml hr hts hown hlk hnm hsz hAe hP hK hD hS hA hE hAH hl htb
  have ht : ∀ w ∈ mw, w.before args s = true := fun w h => hts w (List.mem_cons_of_mem _ h)
  have hl : lv_has ls 4 [(0, .ref h), (1, .int x), (2, .ref o)] := hl
  refine lv_aload_n hx hb d_Lw_waited_0 rfl (lv_at hl 2 rfl) ?_
  refine lv_iconst (v := nI 0) hx hb d_Lw_waited_1 (by decide) ?_
  refine lv_aload_n hx hb d_Lw_waited_2 rfl (lv_at hl 0 rfl) ?_
  refine lv_iload_n hx hb d_Lw_waited_3 rfl (lv_at hl 1 rfl) ?_
  obtain ⟨fs, tl, hw0⟩ := PW_hd hw
  have hP2 : va_P D kcl (w ++ [(o, .inl (cL, 1, .inr (.inl fo)))]) H := va_P.rot (a := [(o, .inl (cL, 1, .inr (.inl fo)))]) (b := w) hP
  have hD2 : va_D A (w ++ [(o, .inl (cL, 1, .inr (.inl fo)))]) := va_D.rot (a := [(o, .inl (cL, 1, .inr (.inl fo)))]) (b := w) hD
  have he : (w ++ [(o, .inl (cL, 1, .inr (.inl fo)))])[0]? = some (h, .inr (4, fs)) := by rw [hw0]; rfl
  rcases k_Pk_waited l Hs D cI cZ cL hi hw with hk | hk
  · refine cwa_x (own := R_Lw) (wc := w) (wr := [(o, .inl (cL, 1, .inr (.inl fo)))]) (E := e_NS) (hpc := 12) (hh := [((0 : Nat), (9 : Nat), (12 : Nat), (23 : Nat))]) hown (xk_runV (As := [.int x]) (rest := [.int (nI 0), .ref o]) (C := R_Pk) ⟨hx, hb, hml, hown, ht⟩ (hk hfl H.size) (gw_V 1 ht wd_812 wd_1 wd_809 wd_810 wd_811 (by decide +kernel) ⟨Nat.le_of_ble_eq_true rfl, Nat.le_of_ble_eq_true rfl⟩) (k_preV hE hAH hK hP2 hD2 hS (List.range w.length) (rg_C w [(o, .inl (cL, 1, .inr (.inl fo)))]) (rg_n1 _) 0 he rfl) rfl rfl hl.1 rfl (lv_room (Nat.le_of_ble_eq_true rfl)) d_Lw_waited_4 ⟨Nat.le_of_ble_eq_true rfl, Nat.le_of_ble_eq_true rfl⟩) htb (xr_hit rfl (by decide) (ht _ wd_771) rfl (cs_self (nw_782 hE.1))) hP2 hD2 hS hA (fun q w1 H locs hpost hlen hP hD hS => ?_)
    obtain ⟨hrel, hpw⟩ := hpost
    refine lv_astore_n (lv' := [(3, .ref q), (0, .ref h), (1, .int x), (2, .ref o)]) hx hb d_Lw_waited_12 rfl hl (by decide) rfl (fun ls hl => ?_)
    refine lv_iconst (v := nI 1) hx hb d_Lw_waited_13 (by decide) ?_
    exact k_reti hQ hx hb hr hlk hAe hK hP hD hS (Nat.succ_le_succ hlen) (Nat.le_of_ble_eq_true rfl) (Nat.le_of_ble_eq_true rfl) ⟨1, 0, fo, w1, hrel 0, by decide, rfl, fun q => absurd q (by decide), hpw, rfl⟩ d_Lw_waited_14
  · refine cwa_i (wc := w) (wr := [(o, .inl (cL, 1, .inr (.inl fo)))]) (va_runV (As := [.int x]) (rest := [.int (nI 0), .ref o]) (C := R_Pk) ⟨hx, hb, hml, hown, ht⟩ (hk H.size) (gw_V 1 ht wd_812 wd_1 wd_809 wd_810 wd_811 (by decide +kernel) ⟨Nat.le_of_ble_eq_true rfl, Nat.le_of_ble_eq_true rfl⟩) (k_preV hE hAH hK hP2 hD2 hS (List.range w.length) (rg_C w [(o, .inl (cL, 1, .inr (.inl fo)))]) (rg_n1 _) 0 he rfl) rfl rfl hl.1 rfl (lv_room (Nat.le_of_ble_eq_true rfl)) d_Lw_waited_4 ⟨Nat.le_of_ble_eq_true rfl, Nat.le_of_ble_eq_true rfl⟩) hP2 hD2 hS hA (fun r w1 H locs hpost hlen hP hD hS => ?_)
    refine lv_i2l (v := r.toInt64) hx hb d_Lw_waited_7 rfl ?_
    refine va_last hx hb hK hP hD hS 0 2 rfl rfl (vp_in_nI (by decide) (by decide)) d_Lw_waited_8 (fun H locs hP hD hS => ?_)
    have hP : va_P D kcl ((o, .inl (cL, 1, .inr (.inl (vp_updL fo 0 (r.toInt64))))) :: w1) H := hP
    have hD : va_D A ((o, .inl (cL, 1, .inr (.inl (vp_updL fo 0 (r.toInt64))))) :: w1) := hD
    obtain ⟨hrel, hpw⟩ := hpost
    refine lv_goto hx hb d_Lw_waited_9 rfl ?_
    refine lv_iconst (v := nI 0) hx hb d_Lw_waited_15 (by decide) ?_
    exact k_reti hQ hx hb hr hlk hAe hK hP hD hS (Nat.succ_le_succ hlen) (Nat.le_of_ble_eq_true rfl) (Nat.le_of_ble_eq_true rfl) ⟨0, r, _, w1, hrel, by decide, rfl, fun _ => rfl, hpw, rfl⟩ d_Lw_waited_16
set_option maxHeartbeats 4000000 in
set_option maxRecDepth 100000 in
theorem h_worst (l : Launch) (hfl : l.flags = flags0) (Hs : Heap) (D : va_G) (cI cZ cL : ClassId) {T : Nat} {S : Nat → Nat → Nat} {h o : Nat} {fo : Nat → Int64} {w : va_W} {x : Int32} (hi : iS T S) (hw : PW cI S h w) : kI l Hs D kcl (ty3 cI cZ cL) y_Lw_worst (mwh y_Lw_worst b_Lw_worst 4 (Option.some Jvm.ClassFile.FieldType.int) [((0 : Nat), (9 : Nat), (12 : Nat), (23 : Nat))]) RH [.ref h, .int x, .ref o] ((o, .inl (cL, 1, .inr (.inl fo))) :: w) (fun r w9 => ∃ (kd : Nat) (v : Int32) (fo9 : Nat → Int64) (wp9 : va_W), getR 4 S x kd v ∧ kd ≤ 3 ∧ r = nI kd ∧ (kd = 0 → fo9 0 = v.toInt64) ∧ PW cI S h wp9 ∧ w9 = (o, .inl (cL, 1, .inr (.inl fo9))) :: wp9) := by
  intro sz
  refine k_ofW (cc := b_Lw_worst) (maxL := 4) (ret := (Option.some Jvm.ClassFile.FieldType.int)) (hh := [((0 : Nat), (9 : Nat), (12 : Nat), (23 : Nat))]) (by decide) rfl (Nat.le_of_ble_eq_true rfl) ?_
  intro p e s m args below meth c ls H locs A Q hQ hx hb hml hr hts hown hlk hnm hsz hAe hP hK hD hS hA hE hAH hl htb
  have ht : ∀ w ∈ mw, w.before args s = true := fun w h => hts w (List.mem_cons_of_mem _ h)
  have hl : lv_has ls 4 [(0, .ref h), (1, .int x), (2, .ref o)] := hl
  refine lv_aload_n hx hb d_Lw_worst_0 rfl (lv_at hl 2 rfl) ?_
  refine lv_iconst (v := nI 0) hx hb d_Lw_worst_1 (by decide) ?_
  refine lv_aload_n hx hb d_Lw_worst_2 rfl (lv_at hl 0 rfl) ?_
  refine lv_iload_n hx hb d_Lw_worst_3 rfl (lv_at hl 1 rfl) ?_
  obtain ⟨fs, tl, hw0⟩ := PW_hd hw
  have hP2 : va_P D kcl (w ++ [(o, .inl (cL, 1, .inr (.inl fo)))]) H := va_P.rot (a := [(o, .inl (cL, 1, .inr (.inl fo)))]) (b := w) hP
  have hD2 : va_D A (w ++ [(o, .inl (cL, 1, .inr (.inl fo)))]) := va_D.rot (a := [(o, .inl (cL, 1, .inr (.inl fo)))]) (b := w) hD
  have he : (w ++ [(o, .inl (cL, 1, .inr (.inl fo)))])[0]? = some (h, .inr (4, fs)) := by rw [hw0]; rfl
  rcases k_Pk_worst l Hs D cI cZ cL hi hw with hk | hk
  · refine cwa_x (own := R_Lw) (wc := w) (wr := [(o, .inl (cL, 1, .inr (.inl fo)))]) (E := e_NS) (hpc := 12) (hh := [((0 : Nat), (9 : Nat), (12 : Nat), (23 : Nat))]) hown (xk_runV (As := [.int x]) (rest := [.int (nI 0), .ref o]) (C := R_Pk) ⟨hx, hb, hml, hown, ht⟩ (hk hfl H.size) (gw_V 1 ht wd_820 wd_1 wd_817 wd_818 wd_819 (by decide +kernel) ⟨Nat.le_of_ble_eq_true rfl, Nat.le_of_ble_eq_true rfl⟩) (k_preV hE hAH hK hP2 hD2 hS (List.range w.length) (rg_C w [(o, .inl (cL, 1, .inr (.inl fo)))]) (rg_n1 _) 0 he rfl) rfl rfl hl.1 rfl (lv_room (Nat.le_of_ble_eq_true rfl)) d_Lw_worst_4 ⟨Nat.le_of_ble_eq_true rfl, Nat.le_of_ble_eq_true rfl⟩) htb (xr_hit rfl (by decide) (ht _ wd_771) rfl (cs_self (nw_782 hE.1))) hP2 hD2 hS hA (fun q w1 H locs hpost hlen hP hD hS => ?_)
    obtain ⟨hrel, hpw⟩ := hpost
    refine lv_astore_n (lv' := [(3, .ref q), (0, .ref h), (1, .int x), (2, .ref o)]) hx hb d_Lw_worst_12 rfl hl (by decide) rfl (fun ls hl => ?_)
    refine lv_iconst (v := nI 1) hx hb d_Lw_worst_13 (by decide) ?_
    exact k_reti hQ hx hb hr hlk hAe hK hP hD hS (Nat.succ_le_succ hlen) (Nat.le_of_ble_eq_true rfl) (Nat.le_of_ble_eq_true rfl) ⟨1, 0, fo, w1, hrel 0, by decide, rfl, fun q => absurd q (by decide), hpw, rfl⟩ d_Lw_worst_14
  · refine cwa_i (wc := w) (wr := [(o, .inl (cL, 1, .inr (.inl fo)))]) (va_runV (As := [.int x]) (rest := [.int (nI 0), .ref o]) (C := R_Pk) ⟨hx, hb, hml, hown, ht⟩ (hk H.size) (gw_V 1 ht wd_820 wd_1 wd_817 wd_818 wd_819 (by decide +kernel) ⟨Nat.le_of_ble_eq_true rfl, Nat.le_of_ble_eq_true rfl⟩) (k_preV hE hAH hK hP2 hD2 hS (List.range w.length) (rg_C w [(o, .inl (cL, 1, .inr (.inl fo)))]) (rg_n1 _) 0 he rfl) rfl rfl hl.1 rfl (lv_room (Nat.le_of_ble_eq_true rfl)) d_Lw_worst_4 ⟨Nat.le_of_ble_eq_true rfl, Nat.le_of_ble_eq_true rfl⟩) hP2 hD2 hS hA (fun r w1 H locs hpost hlen hP hD hS => ?_)
    refine lv_i2l (v := r.toInt64) hx hb d_Lw_worst_7 rfl ?_
    refine va_last hx hb hK hP hD hS 0 2 rfl rfl (vp_in_nI (by decide) (by decide)) d_Lw_worst_8 (fun H locs hP hD hS => ?_)
    have hP : va_P D kcl ((o, .inl (cL, 1, .inr (.inl (vp_updL fo 0 (r.toInt64))))) :: w1) H := hP
    have hD : va_D A ((o, .inl (cL, 1, .inr (.inl (vp_updL fo 0 (r.toInt64))))) :: w1) := hD
    obtain ⟨hrel, hpw⟩ := hpost
    refine lv_goto hx hb d_Lw_worst_9 rfl ?_
    refine lv_iconst (v := nI 0) hx hb d_Lw_worst_15 (by decide) ?_
    exact k_reti hQ hx hb hr hlk hAe hK hP hD hS (Nat.succ_le_succ hlen) (Nat.le_of_ble_eq_true rfl) (Nat.le_of_ble_eq_true rfl) ⟨0, r, _, w1, hrel, by decide, rfl, fun _ => rfl, hpw, rfl⟩ d_Lw_worst_16
set_option maxHeartbeats 4000000 in
set_option maxRecDepth 100000 in
theorem h_span (l : Launch) (hfl : l.flags = flags0) (Hs : Heap) (D : va_G) (cI cZ cL : ClassId) {T : Nat} {S : Nat → Nat → Nat} {h o : Nat} {fo : Nat → Int64} {w : va_W} {x : Int32} (hi : iS T S) (hw : PW cI S h w) : kI l Hs D kcl (ty3 cI cZ cL) y_Lw_span (mwh y_Lw_span b_Lw_span 4 (Option.some Jvm.ClassFile.FieldType.int) [((0 : Nat), (9 : Nat), (12 : Nat), (23 : Nat))]) RH [.ref h, .int x, .ref o] ((o, .inl (cL, 1, .inr (.inl fo))) :: w) (fun r w9 => ∃ (kd : Nat) (v : Int32) (fo9 : Nat → Int64) (wp9 : va_W), getR 2 S x kd v ∧ kd ≤ 3 ∧ r = nI kd ∧ (kd = 0 → fo9 0 = v.toInt64) ∧ PW cI S h wp9 ∧ w9 = (o, .inl (cL, 1, .inr (.inl fo9))) :: wp9) := by
  intro sz
  refine k_ofW (cc := b_Lw_span) (maxL := 4) (ret := (Option.some Jvm.ClassFile.FieldType.int)) (hh := [((0 : Nat), (9 : Nat), (12 : Nat), (23 : Nat))]) (by decide) rfl (Nat.le_of_ble_eq_true rfl) ?_
  intro p e s m args below meth c ls H locs A Q hQ hx hb hml hr hts hown hlk hnm hsz hAe hP hK hD hS hA hE hAH hl htb
  have ht : ∀ w ∈ mw, w.before args s = true := fun w h => hts w (List.mem_cons_of_mem _ h)
  have hl : lv_has ls 4 [(0, .ref h), (1, .int x), (2, .ref o)] := hl
  refine lv_aload_n hx hb d_Lw_span_0 rfl (lv_at hl 2 rfl) ?_
  refine lv_iconst (v := nI 0) hx hb d_Lw_span_1 (by decide) ?_
  refine lv_aload_n hx hb d_Lw_span_2 rfl (lv_at hl 0 rfl) ?_
  refine lv_iload_n hx hb d_Lw_span_3 rfl (lv_at hl 1 rfl) ?_
  obtain ⟨fs, tl, hw0⟩ := PW_hd hw
  have hP2 : va_P D kcl (w ++ [(o, .inl (cL, 1, .inr (.inl fo)))]) H := va_P.rot (a := [(o, .inl (cL, 1, .inr (.inl fo)))]) (b := w) hP
  have hD2 : va_D A (w ++ [(o, .inl (cL, 1, .inr (.inl fo)))]) := va_D.rot (a := [(o, .inl (cL, 1, .inr (.inl fo)))]) (b := w) hD
  have he : (w ++ [(o, .inl (cL, 1, .inr (.inl fo)))])[0]? = some (h, .inr (4, fs)) := by rw [hw0]; rfl
  rcases k_Pk_span l Hs D cI cZ cL hi hw with hk | hk
  · refine cwa_x (own := R_Lw) (wc := w) (wr := [(o, .inl (cL, 1, .inr (.inl fo)))]) (E := e_NS) (hpc := 12) (hh := [((0 : Nat), (9 : Nat), (12 : Nat), (23 : Nat))]) hown (xk_runV (As := [.int x]) (rest := [.int (nI 0), .ref o]) (C := R_Pk) ⟨hx, hb, hml, hown, ht⟩ (hk hfl H.size) (gw_V 1 ht wd_831 wd_1 wd_828 wd_829 wd_830 (by decide +kernel) ⟨Nat.le_of_ble_eq_true rfl, Nat.le_of_ble_eq_true rfl⟩) (k_preV hE hAH hK hP2 hD2 hS (List.range w.length) (rg_C w [(o, .inl (cL, 1, .inr (.inl fo)))]) (rg_n1 _) 0 he rfl) rfl rfl hl.1 rfl (lv_room (Nat.le_of_ble_eq_true rfl)) d_Lw_span_4 ⟨Nat.le_of_ble_eq_true rfl, Nat.le_of_ble_eq_true rfl⟩) htb (xr_hit rfl (by decide) (ht _ wd_771) rfl (cs_self (nw_782 hE.1))) hP2 hD2 hS hA (fun q w1 H locs hpost hlen hP hD hS => ?_)
    obtain ⟨hrel, hpw⟩ := hpost
    refine lv_astore_n (lv' := [(3, .ref q), (0, .ref h), (1, .int x), (2, .ref o)]) hx hb d_Lw_span_12 rfl hl (by decide) rfl (fun ls hl => ?_)
    refine lv_iconst (v := nI 1) hx hb d_Lw_span_13 (by decide) ?_
    exact k_reti hQ hx hb hr hlk hAe hK hP hD hS (Nat.succ_le_succ hlen) (Nat.le_of_ble_eq_true rfl) (Nat.le_of_ble_eq_true rfl) ⟨1, 0, fo, w1, hrel 0, by decide, rfl, fun q => absurd q (by decide), hpw, rfl⟩ d_Lw_span_14
  · refine cwa_i (wc := w) (wr := [(o, .inl (cL, 1, .inr (.inl fo)))]) (va_runV (As := [.int x]) (rest := [.int (nI 0), .ref o]) (C := R_Pk) ⟨hx, hb, hml, hown, ht⟩ (hk H.size) (gw_V 1 ht wd_831 wd_1 wd_828 wd_829 wd_830 (by decide +kernel) ⟨Nat.le_of_ble_eq_true rfl, Nat.le_of_ble_eq_true rfl⟩) (k_preV hE hAH hK hP2 hD2 hS (List.range w.length) (rg_C w [(o, .inl (cL, 1, .inr (.inl fo)))]) (rg_n1 _) 0 he rfl) rfl rfl hl.1 rfl (lv_room (Nat.le_of_ble_eq_true rfl)) d_Lw_span_4 ⟨Nat.le_of_ble_eq_true rfl, Nat.le_of_ble_eq_true rfl⟩) hP2 hD2 hS hA (fun r w1 H locs hpost hlen hP hD hS => ?_)
    refine lv_i2l (v := r.toInt64) hx hb d_Lw_span_7 rfl ?_
    refine va_last hx hb hK hP hD hS 0 2 rfl rfl (vp_in_nI (by decide) (by decide)) d_Lw_span_8 (fun H locs hP hD hS => ?_)
    have hP : va_P D kcl ((o, .inl (cL, 1, .inr (.inl (vp_updL fo 0 (r.toInt64))))) :: w1) H := hP
    have hD : va_D A ((o, .inl (cL, 1, .inr (.inl (vp_updL fo 0 (r.toInt64))))) :: w1) := hD
    obtain ⟨hrel, hpw⟩ := hpost
    refine lv_goto hx hb d_Lw_span_9 rfl ?_
    refine lv_iconst (v := nI 0) hx hb d_Lw_span_15 (by decide) ?_
    exact k_reti hQ hx hb hr hlk hAe hK hP hD hS (Nat.succ_le_succ hlen) (Nat.le_of_ble_eq_true rfl) (Nat.le_of_ble_eq_true rfl) ⟨0, r, _, w1, hrel, by decide, rfl, fun _ => rfl, hpw, rfl⟩ d_Lw_span_16
set_option maxHeartbeats 4000000 in
set_option maxRecDepth 100000 in
theorem h_cycle0 (l : Launch) (hfl : l.flags = flags0) (Hs : Heap) (D : va_G) (cI cZ cL : ClassId) {T : Nat} {S : Nat → Nat → Nat} {h o : Nat} {fo : Nat → Int64} {w : va_W} {x : Int32} (hi : iS T S) (hw : PW cI S h w) : kI l Hs D kcl (ty3 cI cZ cL) y_Lw_cycle (mwh y_Lw_cycle b_Lw_cycle 5 (Option.some Jvm.ClassFile.FieldType.int) [((0 : Nat), (10 : Nat), (13 : Nat), (15 : Nat)), ((0 : Nat), (10 : Nat), (17 : Nat), (42 : Nat))]) RH [.ref h, .int (nI 0), .int x, .ref o] ((o, .inl (cL, 1, .inr (.inl fo))) :: w) (fun r w9 => ∃ (kd : Nat) (v : Int32) (fo9 : Nat → Int64) (wp9 : va_W), cycR S 0 x kd v ∧ kd ≤ 3 ∧ r = nI kd ∧ (kd = 0 → fo9 0 = v.toInt64) ∧ PW cI S h wp9 ∧ w9 = (o, .inl (cL, 1, .inr (.inl fo9))) :: wp9) := by
  intro sz
  refine k_ofW (cc := b_Lw_cycle) (maxL := 5) (ret := (Option.some Jvm.ClassFile.FieldType.int)) (hh := [((0 : Nat), (10 : Nat), (13 : Nat), (15 : Nat)), ((0 : Nat), (10 : Nat), (17 : Nat), (42 : Nat))]) (by decide) rfl (Nat.le_of_ble_eq_true rfl) ?_
  intro p e s m args below meth c ls H locs A Q hQ hx hb hml hr hts hown hlk hnm hsz hAe hP hK hD hS hA hE hAH hl htb
  have ht : ∀ w ∈ mw, w.before args s = true := fun w h => hts w (List.mem_cons_of_mem _ h)
  have hl : lv_has ls 5 [(0, .ref h), (1, .int (nI 0)), (2, .int x), (3, .ref o)] := hl
  refine lv_aload_n hx hb d_Lw_cycle_0 rfl (lv_at hl 3 rfl) ?_
  refine lv_iconst (v := nI 0) hx hb d_Lw_cycle_1 (by decide) ?_
  refine lv_aload_n hx hb d_Lw_cycle_2 rfl (lv_at hl 0 rfl) ?_
  refine lv_iload_n hx hb d_Lw_cycle_3 rfl (lv_at hl 1 rfl) ?_
  refine lv_iload_n hx hb d_Lw_cycle_4 rfl (lv_at hl 2 rfl) ?_
  obtain ⟨fs, tl, hw0⟩ := PW_hd hw
  have hP2 : va_P D kcl (w ++ [(o, .inl (cL, 1, .inr (.inl fo)))]) H := va_P.rot (a := [(o, .inl (cL, 1, .inr (.inl fo)))]) (b := w) hP
  have hD2 : va_D A (w ++ [(o, .inl (cL, 1, .inr (.inl fo)))]) := va_D.rot (a := [(o, .inl (cL, 1, .inr (.inl fo)))]) (b := w) hD
  have he : (w ++ [(o, .inl (cL, 1, .inr (.inl fo)))])[0]? = some (h, .inr (4, fs)) := by rw [hw0]; rfl
  rcases k_Pk_cycle0 l Hs D cI cZ cL hi hw with hk | hk
  · refine cwa_x (own := R_Lw) (wc := w) (wr := [(o, .inl (cL, 1, .inr (.inl fo)))]) (E := e_IO) (hpc := 17) (hh := [((0 : Nat), (10 : Nat), (13 : Nat), (15 : Nat)), ((0 : Nat), (10 : Nat), (17 : Nat), (42 : Nat))]) hown (xk_runV (As := [.int (nI 0), .int x]) (rest := [.int (nI 0), .ref o]) (C := R_Pk) ⟨hx, hb, hml, hown, ht⟩ (hk hfl H.size) (gw_V 2 ht wd_840 wd_1 wd_837 wd_838 wd_839 (by decide +kernel) ⟨Nat.le_of_ble_eq_true rfl, Nat.le_of_ble_eq_true rfl⟩) (k_preV hE hAH hK hP2 hD2 hS (List.range w.length) (rg_C w [(o, .inl (cL, 1, .inr (.inl fo)))]) (rg_n1 _) 0 he rfl) rfl rfl hl.1 rfl (lv_room (Nat.le_of_ble_eq_true rfl)) d_Lw_cycle_5 ⟨Nat.le_of_ble_eq_true rfl, Nat.le_of_ble_eq_true rfl⟩) htb (xr_miss rfl (by decide) (ht _ wd_283) (hE.2.2.2.2.2.2 _ (List.mem_of_getElem? (i := 4) rfl)) (xr_hit rfl (by decide) (ht _ wd_836) rfl (cs_self (nw_847 hE.1)))) hP2 hD2 hS hA (fun q w1 H locs hpost hlen hP hD hS => ?_)
    obtain ⟨hrel, hpw⟩ := hpost
    refine lv_astore (lv' := [(4, .ref q), (0, .ref h), (1, .int (nI 0)), (2, .int x), (3, .ref o)]) hx hb d_Lw_cycle_17 hl (by decide) rfl (fun ls hl => ?_)
    refine lv_iconst (v := nI 2) hx hb d_Lw_cycle_19 (by decide) ?_
    exact k_reti hQ hx hb hr hlk hAe hK hP hD hS (Nat.succ_le_succ hlen) (Nat.le_of_ble_eq_true rfl) (Nat.le_of_ble_eq_true rfl) ⟨2, 0, fo, w1, hrel 0, by decide, rfl, fun q => absurd q (by decide), hpw, rfl⟩ d_Lw_cycle_20
  · refine cwa_i (wc := w) (wr := [(o, .inl (cL, 1, .inr (.inl fo)))]) (va_runV (As := [.int (nI 0), .int x]) (rest := [.int (nI 0), .ref o]) (C := R_Pk) ⟨hx, hb, hml, hown, ht⟩ (hk H.size) (gw_V 2 ht wd_840 wd_1 wd_837 wd_838 wd_839 (by decide +kernel) ⟨Nat.le_of_ble_eq_true rfl, Nat.le_of_ble_eq_true rfl⟩) (k_preV hE hAH hK hP2 hD2 hS (List.range w.length) (rg_C w [(o, .inl (cL, 1, .inr (.inl fo)))]) (rg_n1 _) 0 he rfl) rfl rfl hl.1 rfl (lv_room (Nat.le_of_ble_eq_true rfl)) d_Lw_cycle_5 ⟨Nat.le_of_ble_eq_true rfl, Nat.le_of_ble_eq_true rfl⟩) hP2 hD2 hS hA (fun r w1 H locs hpost hlen hP hD hS => ?_)
    refine lv_i2l (v := r.toInt64) hx hb d_Lw_cycle_8 rfl ?_
    refine va_last hx hb hK hP hD hS 0 2 rfl rfl (vp_in_nI (by decide) (by decide)) d_Lw_cycle_9 (fun H locs hP hD hS => ?_)
    have hP : va_P D kcl ((o, .inl (cL, 1, .inr (.inl (vp_updL fo 0 (r.toInt64))))) :: w1) H := hP
    have hD : va_D A ((o, .inl (cL, 1, .inr (.inl (vp_updL fo 0 (r.toInt64))))) :: w1) := hD
    obtain ⟨hrel, hpw⟩ := hpost
    refine lv_goto hx hb d_Lw_cycle_10 rfl ?_
    refine lv_iconst (v := nI 0) hx hb d_Lw_cycle_21 (by decide) ?_
    exact k_reti hQ hx hb hr hlk hAe hK hP hD hS (Nat.succ_le_succ hlen) (Nat.le_of_ble_eq_true rfl) (Nat.le_of_ble_eq_true rfl) ⟨0, r, _, w1, hrel, by decide, rfl, fun _ => rfl, hpw, rfl⟩ d_Lw_cycle_22
set_option maxHeartbeats 4000000 in
set_option maxRecDepth 100000 in
theorem h_cycle1 (l : Launch) (hfl : l.flags = flags0) (Hs : Heap) (D : va_G) (cI cZ cL : ClassId) {T : Nat} {S : Nat → Nat → Nat} {h o : Nat} {fo : Nat → Int64} {w : va_W} {x : Int32} (hi : iS T S) (hw : PW cI S h w) : kI l Hs D kcl (ty3 cI cZ cL) y_Lw_cycle (mwh y_Lw_cycle b_Lw_cycle 5 (Option.some Jvm.ClassFile.FieldType.int) [((0 : Nat), (10 : Nat), (13 : Nat), (15 : Nat)), ((0 : Nat), (10 : Nat), (17 : Nat), (42 : Nat))]) RH [.ref h, .int (nI 1), .int x, .ref o] ((o, .inl (cL, 1, .inr (.inl fo))) :: w) (fun r w9 => ∃ (kd : Nat) (v : Int32) (fo9 : Nat → Int64) (wp9 : va_W), cycR S 1 x kd v ∧ kd ≤ 3 ∧ r = nI kd ∧ (kd = 0 → fo9 0 = v.toInt64) ∧ PW cI S h wp9 ∧ w9 = (o, .inl (cL, 1, .inr (.inl fo9))) :: wp9) := by
  intro sz
  refine k_ofW (cc := b_Lw_cycle) (maxL := 5) (ret := (Option.some Jvm.ClassFile.FieldType.int)) (hh := [((0 : Nat), (10 : Nat), (13 : Nat), (15 : Nat)), ((0 : Nat), (10 : Nat), (17 : Nat), (42 : Nat))]) (by decide) rfl (Nat.le_of_ble_eq_true rfl) ?_
  intro p e s m args below meth c ls H locs A Q hQ hx hb hml hr hts hown hlk hnm hsz hAe hP hK hD hS hA hE hAH hl htb
  have ht : ∀ w ∈ mw, w.before args s = true := fun w h => hts w (List.mem_cons_of_mem _ h)
  have hl : lv_has ls 5 [(0, .ref h), (1, .int (nI 1)), (2, .int x), (3, .ref o)] := hl
  refine lv_aload_n hx hb d_Lw_cycle_0 rfl (lv_at hl 3 rfl) ?_
  refine lv_iconst (v := nI 0) hx hb d_Lw_cycle_1 (by decide) ?_
  refine lv_aload_n hx hb d_Lw_cycle_2 rfl (lv_at hl 0 rfl) ?_
  refine lv_iload_n hx hb d_Lw_cycle_3 rfl (lv_at hl 1 rfl) ?_
  refine lv_iload_n hx hb d_Lw_cycle_4 rfl (lv_at hl 2 rfl) ?_
  obtain ⟨fs, tl, hw0⟩ := PW_hd hw
  have hP2 : va_P D kcl (w ++ [(o, .inl (cL, 1, .inr (.inl fo)))]) H := va_P.rot (a := [(o, .inl (cL, 1, .inr (.inl fo)))]) (b := w) hP
  have hD2 : va_D A (w ++ [(o, .inl (cL, 1, .inr (.inl fo)))]) := va_D.rot (a := [(o, .inl (cL, 1, .inr (.inl fo)))]) (b := w) hD
  have he : (w ++ [(o, .inl (cL, 1, .inr (.inl fo)))])[0]? = some (h, .inr (4, fs)) := by rw [hw0]; rfl
  rcases k_Pk_cycle1 l Hs D cI cZ cL hi hw with hk | hk | hk
  · refine cwa_x (own := R_Lw) (wc := w) (wr := [(o, .inl (cL, 1, .inr (.inl fo)))]) (E := e_IS) (hpc := 13) (hh := [((0 : Nat), (10 : Nat), (13 : Nat), (15 : Nat)), ((0 : Nat), (10 : Nat), (17 : Nat), (42 : Nat))]) hown (xk_runV (As := [.int (nI 1), .int x]) (rest := [.int (nI 0), .ref o]) (C := R_Pk) ⟨hx, hb, hml, hown, ht⟩ (hk hfl H.size) (gw_V 2 ht wd_840 wd_1 wd_837 wd_838 wd_839 (by decide +kernel) ⟨Nat.le_of_ble_eq_true rfl, Nat.le_of_ble_eq_true rfl⟩) (k_preV hE hAH hK hP2 hD2 hS (List.range w.length) (rg_C w [(o, .inl (cL, 1, .inr (.inl fo)))]) (rg_n1 _) 0 he rfl) rfl rfl hl.1 rfl (lv_room (Nat.le_of_ble_eq_true rfl)) d_Lw_cycle_5 ⟨Nat.le_of_ble_eq_true rfl, Nat.le_of_ble_eq_true rfl⟩) htb (xr_hit rfl (by decide) (ht _ wd_283) rfl (cs_self (nw_358 hE.1))) hP2 hD2 hS hA (fun q w1 H locs hpost hlen hP hD hS => ?_)
    obtain ⟨hrel, hpw⟩ := hpost
    refine lv_astore (lv' := [(4, .ref q), (0, .ref h), (1, .int (nI 1)), (2, .int x), (3, .ref o)]) hx hb d_Lw_cycle_13 hl (by decide) rfl (fun ls hl => ?_)
    refine lv_iconst (v := nI 1) hx hb d_Lw_cycle_15 (by decide) ?_
    exact k_reti hQ hx hb hr hlk hAe hK hP hD hS (Nat.succ_le_succ hlen) (Nat.le_of_ble_eq_true rfl) (Nat.le_of_ble_eq_true rfl) ⟨1, 0, fo, w1, hrel 0, by decide, rfl, fun q => absurd q (by decide), hpw, rfl⟩ d_Lw_cycle_16
  · refine cwa_x (own := R_Lw) (wc := w) (wr := [(o, .inl (cL, 1, .inr (.inl fo)))]) (E := e_IO) (hpc := 17) (hh := [((0 : Nat), (10 : Nat), (13 : Nat), (15 : Nat)), ((0 : Nat), (10 : Nat), (17 : Nat), (42 : Nat))]) hown (xk_runV (As := [.int (nI 1), .int x]) (rest := [.int (nI 0), .ref o]) (C := R_Pk) ⟨hx, hb, hml, hown, ht⟩ (hk hfl H.size) (gw_V 2 ht wd_840 wd_1 wd_837 wd_838 wd_839 (by decide +kernel) ⟨Nat.le_of_ble_eq_true rfl, Nat.le_of_ble_eq_true rfl⟩) (k_preV hE hAH hK hP2 hD2 hS (List.range w.length) (rg_C w [(o, .inl (cL, 1, .inr (.inl fo)))]) (rg_n1 _) 0 he rfl) rfl rfl hl.1 rfl (lv_room (Nat.le_of_ble_eq_true rfl)) d_Lw_cycle_5 ⟨Nat.le_of_ble_eq_true rfl, Nat.le_of_ble_eq_true rfl⟩) htb (xr_miss rfl (by decide) (ht _ wd_283) (hE.2.2.2.2.2.2 _ (List.mem_of_getElem? (i := 4) rfl)) (xr_hit rfl (by decide) (ht _ wd_836) rfl (cs_self (nw_847 hE.1)))) hP2 hD2 hS hA (fun q w1 H locs hpost hlen hP hD hS => ?_)
    obtain ⟨hrel, hpw⟩ := hpost
    refine lv_astore (lv' := [(4, .ref q), (0, .ref h), (1, .int (nI 1)), (2, .int x), (3, .ref o)]) hx hb d_Lw_cycle_17 hl (by decide) rfl (fun ls hl => ?_)
    refine lv_iconst (v := nI 2) hx hb d_Lw_cycle_19 (by decide) ?_
    exact k_reti hQ hx hb hr hlk hAe hK hP hD hS (Nat.succ_le_succ hlen) (Nat.le_of_ble_eq_true rfl) (Nat.le_of_ble_eq_true rfl) ⟨2, 0, fo, w1, hrel 0, by decide, rfl, fun q => absurd q (by decide), hpw, rfl⟩ d_Lw_cycle_20
  · refine cwa_i (wc := w) (wr := [(o, .inl (cL, 1, .inr (.inl fo)))]) (va_runV (As := [.int (nI 1), .int x]) (rest := [.int (nI 0), .ref o]) (C := R_Pk) ⟨hx, hb, hml, hown, ht⟩ (hk H.size) (gw_V 2 ht wd_840 wd_1 wd_837 wd_838 wd_839 (by decide +kernel) ⟨Nat.le_of_ble_eq_true rfl, Nat.le_of_ble_eq_true rfl⟩) (k_preV hE hAH hK hP2 hD2 hS (List.range w.length) (rg_C w [(o, .inl (cL, 1, .inr (.inl fo)))]) (rg_n1 _) 0 he rfl) rfl rfl hl.1 rfl (lv_room (Nat.le_of_ble_eq_true rfl)) d_Lw_cycle_5 ⟨Nat.le_of_ble_eq_true rfl, Nat.le_of_ble_eq_true rfl⟩) hP2 hD2 hS hA (fun r w1 H locs hpost hlen hP hD hS => ?_)
    refine lv_i2l (v := r.toInt64) hx hb d_Lw_cycle_8 rfl ?_
    refine va_last hx hb hK hP hD hS 0 2 rfl rfl (vp_in_nI (by decide) (by decide)) d_Lw_cycle_9 (fun H locs hP hD hS => ?_)
    have hP : va_P D kcl ((o, .inl (cL, 1, .inr (.inl (vp_updL fo 0 (r.toInt64))))) :: w1) H := hP
    have hD : va_D A ((o, .inl (cL, 1, .inr (.inl (vp_updL fo 0 (r.toInt64))))) :: w1) := hD
    obtain ⟨hrel, hpw⟩ := hpost
    refine lv_goto hx hb d_Lw_cycle_10 rfl ?_
    refine lv_iconst (v := nI 0) hx hb d_Lw_cycle_21 (by decide) ?_
    exact k_reti hQ hx hb hr hlk hAe hK hP hD hS (Nat.succ_le_succ hlen) (Nat.le_of_ble_eq_true rfl) (Nat.le_of_ble_eq_true rfl) ⟨0, r, _, w1, hrel, by decide, rfl, fun _ => rfl, hpw, rfl⟩ d_Lw_cycle_22
set_option maxHeartbeats 4000000 in
set_option maxRecDepth 100000 in
theorem h_about (l : Launch) (hfl : l.flags = flags0) (Hs : Heap) (D : va_G) (cI cZ cL : ClassId) {T : Nat} {S : Nat → Nat → Nat} {h o : Nat} {fo : Nat → Int64} {w : va_W} {x : Int32} (hi : iS T S) (hw : PW cI S h w) : kI l Hs D kcl (ty3 cI cZ cL) y_Lw_about (mwh y_Lw_about b_Lw_about 4 (Option.some Jvm.ClassFile.FieldType.int) [((0 : Nat), (9 : Nat), (12 : Nat), (13 : Nat))]) RH [.ref h, .int x, .ref o] ((o, .inl (cL, 1, .inr (.inl fo))) :: w) (fun r w9 => ∃ (kd : Nat) (v : Int32) (fo9 : Nat → Int64) (wp9 : va_W), abR S x kd v ∧ kd ≤ 3 ∧ r = nI kd ∧ (kd = 0 → fo9 0 = v.toInt64) ∧ PW cI S h wp9 ∧ w9 = (o, .inl (cL, 1, .inr (.inl fo9))) :: wp9) := by
  intro sz
  refine k_ofW (cc := b_Lw_about) (maxL := 4) (ret := (Option.some Jvm.ClassFile.FieldType.int)) (hh := [((0 : Nat), (9 : Nat), (12 : Nat), (13 : Nat))]) (by decide) rfl (Nat.le_of_ble_eq_true rfl) ?_
  intro p e s m args below meth c ls H locs A Q hQ hx hb hml hr hts hown hlk hnm hsz hAe hP hK hD hS hA hE hAH hl htb
  have ht : ∀ w ∈ mw, w.before args s = true := fun w h => hts w (List.mem_cons_of_mem _ h)
  have hl : lv_has ls 4 [(0, .ref h), (1, .int x), (2, .ref o)] := hl
  refine lv_aload_n hx hb d_Lw_about_0 rfl (lv_at hl 2 rfl) ?_
  refine lv_iconst (v := nI 0) hx hb d_Lw_about_1 (by decide) ?_
  refine lv_aload_n hx hb d_Lw_about_2 rfl (lv_at hl 0 rfl) ?_
  refine lv_iload_n hx hb d_Lw_about_3 rfl (lv_at hl 1 rfl) ?_
  obtain ⟨fs, tl, hw0⟩ := PW_hd hw
  have hP2 : va_P D kcl (w ++ [(o, .inl (cL, 1, .inr (.inl fo)))]) H := va_P.rot (a := [(o, .inl (cL, 1, .inr (.inl fo)))]) (b := w) hP
  have hD2 : va_D A (w ++ [(o, .inl (cL, 1, .inr (.inl fo)))]) := va_D.rot (a := [(o, .inl (cL, 1, .inr (.inl fo)))]) (b := w) hD
  have he : (w ++ [(o, .inl (cL, 1, .inr (.inl fo)))])[0]? = some (h, .inr (4, fs)) := by rw [hw0]; rfl
  rcases k_Pk_about l Hs D cI cZ cL hi hw with hk | hk
  · refine cwa_x (own := R_Lw) (wc := w) (wr := [(o, .inl (cL, 1, .inr (.inl fo)))]) (E := e_IA) (hpc := 12) (hh := [((0 : Nat), (9 : Nat), (12 : Nat), (13 : Nat))]) hown (xk_runV (As := [.int x]) (rest := [.int (nI 0), .ref o]) (C := R_Pk) ⟨hx, hb, hml, hown, ht⟩ (hk hfl H.size) (gw_V 1 ht wd_866 wd_1 wd_863 wd_864 wd_865 (by decide +kernel) ⟨Nat.le_of_ble_eq_true rfl, Nat.le_of_ble_eq_true rfl⟩) (k_preV hE hAH hK hP2 hD2 hS (List.range w.length) (rg_C w [(o, .inl (cL, 1, .inr (.inl fo)))]) (rg_n1 _) 0 he rfl) rfl rfl hl.1 rfl (lv_room (Nat.le_of_ble_eq_true rfl)) d_Lw_about_4 ⟨Nat.le_of_ble_eq_true rfl, Nat.le_of_ble_eq_true rfl⟩) htb (xr_hit rfl (by decide) (ht _ wd_282) rfl (cs_self (nw_291 hE.1))) hP2 hD2 hS hA (fun q w1 H locs hpost hlen hP hD hS => ?_)
    obtain ⟨hrel, hpw⟩ := hpost
    refine lv_astore_n (lv' := [(3, .ref q), (0, .ref h), (1, .int x), (2, .ref o)]) hx hb d_Lw_about_12 rfl hl (by decide) rfl (fun ls hl => ?_)
    refine lv_iconst (v := nI 1) hx hb d_Lw_about_13 (by decide) ?_
    exact k_reti hQ hx hb hr hlk hAe hK hP hD hS (Nat.succ_le_succ hlen) (Nat.le_of_ble_eq_true rfl) (Nat.le_of_ble_eq_true rfl) ⟨1, 0, fo, w1, hrel 0, by decide, rfl, fun q => absurd q (by decide), hpw, rfl⟩ d_Lw_about_14
  · refine cwa_i (wc := w) (wr := [(o, .inl (cL, 1, .inr (.inl fo)))]) (va_runV (As := [.int x]) (rest := [.int (nI 0), .ref o]) (C := R_Pk) ⟨hx, hb, hml, hown, ht⟩ (hk H.size) (gw_V 1 ht wd_866 wd_1 wd_863 wd_864 wd_865 (by decide +kernel) ⟨Nat.le_of_ble_eq_true rfl, Nat.le_of_ble_eq_true rfl⟩) (k_preV hE hAH hK hP2 hD2 hS (List.range w.length) (rg_C w [(o, .inl (cL, 1, .inr (.inl fo)))]) (rg_n1 _) 0 he rfl) rfl rfl hl.1 rfl (lv_room (Nat.le_of_ble_eq_true rfl)) d_Lw_about_4 ⟨Nat.le_of_ble_eq_true rfl, Nat.le_of_ble_eq_true rfl⟩) hP2 hD2 hS hA (fun r w1 H locs hpost hlen hP hD hS => ?_)
    refine lv_i2l (v := r.toInt64) hx hb d_Lw_about_7 rfl ?_
    refine va_last hx hb hK hP hD hS 0 2 rfl rfl (vp_in_nI (by decide) (by decide)) d_Lw_about_8 (fun H locs hP hD hS => ?_)
    have hP : va_P D kcl ((o, .inl (cL, 1, .inr (.inl (vp_updL fo 0 (r.toInt64))))) :: w1) H := hP
    have hD : va_D A ((o, .inl (cL, 1, .inr (.inl (vp_updL fo 0 (r.toInt64))))) :: w1) := hD
    obtain ⟨hrel, hpw⟩ := hpost
    refine lv_goto hx hb d_Lw_about_9 rfl ?_
    refine lv_iconst (v := nI 0) hx hb d_Lw_about_15 (by decide) ?_
    exact k_reti hQ hx hb hr hlk hAe hK hP hD hS (Nat.succ_le_succ hlen) (Nat.le_of_ble_eq_true rfl) (Nat.le_of_ble_eq_true rfl) ⟨0, r, _, w1, hrel, by decide, rfl, fun _ => rfl, hpw, rfl⟩ d_Lw_about_16
set_option maxHeartbeats 4000000 in
set_option maxRecDepth 100000 in
theorem h_client (l : Launch) (hfl : l.flags = flags0) (Hs : Heap) (D : va_G) (cI cZ cL : ClassId) {T : Nat} {S : Nat → Nat → Nat} {h o : Nat} {fo : Nat → Int64} {w : va_W} {x : Int32} (hi : iS T S) (hw : PW cI S h w) : kI l Hs D kcl (ty3 cI cZ cL) y_Lw_client (mwh y_Lw_client b_Lw_client 4 (Option.some Jvm.ClassFile.FieldType.int) [((0 : Nat), (9 : Nat), (12 : Nat), (42 : Nat))]) RH [.ref h, .int x, .ref o] ((o, .inl (cL, 1, .inr (.inl fo))) :: w) (fun r w9 => ∃ (kd : Nat) (v : Int32) (fo9 : Nat → Int64) (wp9 : va_W), clR S x kd v ∧ kd ≤ 3 ∧ r = nI kd ∧ (kd = 0 → fo9 0 = v.toInt64) ∧ PW cI S h wp9 ∧ w9 = (o, .inl (cL, 1, .inr (.inl fo9))) :: wp9) := by
  intro sz
  refine k_ofW (cc := b_Lw_client) (maxL := 4) (ret := (Option.some Jvm.ClassFile.FieldType.int)) (hh := [((0 : Nat), (9 : Nat), (12 : Nat), (42 : Nat))]) (by decide) rfl (Nat.le_of_ble_eq_true rfl) ?_
  intro p e s m args below meth c ls H locs A Q hQ hx hb hml hr hts hown hlk hnm hsz hAe hP hK hD hS hA hE hAH hl htb
  have ht : ∀ w ∈ mw, w.before args s = true := fun w h => hts w (List.mem_cons_of_mem _ h)
  have hl : lv_has ls 4 [(0, .ref h), (1, .int x), (2, .ref o)] := hl
  refine lv_aload_n hx hb d_Lw_client_0 rfl (lv_at hl 2 rfl) ?_
  refine lv_iconst (v := nI 0) hx hb d_Lw_client_1 (by decide) ?_
  refine lv_aload_n hx hb d_Lw_client_2 rfl (lv_at hl 0 rfl) ?_
  refine lv_iload_n hx hb d_Lw_client_3 rfl (lv_at hl 1 rfl) ?_
  obtain ⟨fs, tl, hw0⟩ := PW_hd hw
  have hP2 : va_P D kcl (w ++ [(o, .inl (cL, 1, .inr (.inl fo)))]) H := va_P.rot (a := [(o, .inl (cL, 1, .inr (.inl fo)))]) (b := w) hP
  have hD2 : va_D A (w ++ [(o, .inl (cL, 1, .inr (.inl fo)))]) := va_D.rot (a := [(o, .inl (cL, 1, .inr (.inl fo)))]) (b := w) hD
  have he : (w ++ [(o, .inl (cL, 1, .inr (.inl fo)))])[0]? = some (h, .inr (4, fs)) := by rw [hw0]; rfl
  rcases k_Pk_client l Hs D cI cZ cL hi hw with hk | hk
  · refine cwa_x (own := R_Lw) (wc := w) (wr := [(o, .inl (cL, 1, .inr (.inl fo)))]) (E := e_IO) (hpc := 12) (hh := [((0 : Nat), (9 : Nat), (12 : Nat), (42 : Nat))]) hown (xk_runV (As := [.int x]) (rest := [.int (nI 0), .ref o]) (C := R_Pk) ⟨hx, hb, hml, hown, ht⟩ (hk hfl H.size) (gw_V 1 ht wd_877 wd_1 wd_874 wd_875 wd_876 (by decide +kernel) ⟨Nat.le_of_ble_eq_true rfl, Nat.le_of_ble_eq_true rfl⟩) (k_preV hE hAH hK hP2 hD2 hS (List.range w.length) (rg_C w [(o, .inl (cL, 1, .inr (.inl fo)))]) (rg_n1 _) 0 he rfl) rfl rfl hl.1 rfl (lv_room (Nat.le_of_ble_eq_true rfl)) d_Lw_client_4 ⟨Nat.le_of_ble_eq_true rfl, Nat.le_of_ble_eq_true rfl⟩) htb (xr_hit rfl (by decide) (ht _ wd_836) rfl (cs_self (nw_847 hE.1))) hP2 hD2 hS hA (fun q w1 H locs hpost hlen hP hD hS => ?_)
    obtain ⟨hrel, hpw⟩ := hpost
    refine lv_astore_n (lv' := [(3, .ref q), (0, .ref h), (1, .int x), (2, .ref o)]) hx hb d_Lw_client_12 rfl hl (by decide) rfl (fun ls hl => ?_)
    refine lv_iconst (v := nI 1) hx hb d_Lw_client_13 (by decide) ?_
    exact k_reti hQ hx hb hr hlk hAe hK hP hD hS (Nat.succ_le_succ hlen) (Nat.le_of_ble_eq_true rfl) (Nat.le_of_ble_eq_true rfl) ⟨1, 0, fo, w1, hrel 0, by decide, rfl, fun q => absurd q (by decide), hpw, rfl⟩ d_Lw_client_14
  · refine cwa_i (wc := w) (wr := [(o, .inl (cL, 1, .inr (.inl fo)))]) (va_runV (As := [.int x]) (rest := [.int (nI 0), .ref o]) (C := R_Pk) ⟨hx, hb, hml, hown, ht⟩ (hk H.size) (gw_V 1 ht wd_877 wd_1 wd_874 wd_875 wd_876 (by decide +kernel) ⟨Nat.le_of_ble_eq_true rfl, Nat.le_of_ble_eq_true rfl⟩) (k_preV hE hAH hK hP2 hD2 hS (List.range w.length) (rg_C w [(o, .inl (cL, 1, .inr (.inl fo)))]) (rg_n1 _) 0 he rfl) rfl rfl hl.1 rfl (lv_room (Nat.le_of_ble_eq_true rfl)) d_Lw_client_4 ⟨Nat.le_of_ble_eq_true rfl, Nat.le_of_ble_eq_true rfl⟩) hP2 hD2 hS hA (fun r w1 H locs hpost hlen hP hD hS => ?_)
    refine lv_i2l (v := r.toInt64) hx hb d_Lw_client_7 rfl ?_
    refine va_last hx hb hK hP hD hS 0 2 rfl rfl (vp_in_nI (by decide) (by decide)) d_Lw_client_8 (fun H locs hP hD hS => ?_)
    have hP : va_P D kcl ((o, .inl (cL, 1, .inr (.inl (vp_updL fo 0 (r.toInt64))))) :: w1) H := hP
    have hD : va_D A ((o, .inl (cL, 1, .inr (.inl (vp_updL fo 0 (r.toInt64))))) :: w1) := hD
    obtain ⟨hrel, hpw⟩ := hpost
    refine lv_goto hx hb d_Lw_client_9 rfl ?_
    refine lv_iconst (v := nI 0) hx hb d_Lw_client_15 (by decide) ?_
    exact k_reti hQ hx hb hr hlk hAe hK hP hD hS (Nat.succ_le_succ hlen) (Nat.le_of_ble_eq_true rfl) (Nat.le_of_ble_eq_true rfl) ⟨0, r, _, w1, hrel, by decide, rfl, fun _ => rfl, hpw, rfl⟩ d_Lw_client_16
set_option maxHeartbeats 4000000 in
set_option maxRecDepth 100000 in
theorem h_density (l : Launch) (hfl : l.flags = flags0) (Hs : Heap) (D : va_G) (cI cZ cL : ClassId) {T : Nat} {S : Nat → Nat → Nat} {h o : Nat} {fo : Nat → Int64} {w : va_W} {x : Int32} (hi : iS T S) (hw : PW cI S h w) : kI l Hs D kcl (ty3 cI cZ cL) y_Lw_density (mwh y_Lw_density b_Lw_density 4 (Option.some Jvm.ClassFile.FieldType.int) [((0 : Nat), (8 : Nat), (11 : Nat), (13 : Nat))]) RH [.ref h, .int x, .ref o] ((o, .inl (cL, 1, .inr (.inl fo))) :: w) (fun r w9 => ∃ (kd : Nat) (v : Int64) (fo9 : Nat → Int64) (wp9 : va_W), deR S x kd v ∧ kd ≤ 3 ∧ r = nI kd ∧ (kd = 0 → fo9 0 = v) ∧ PW cI S h wp9 ∧ w9 = (o, .inl (cL, 1, .inr (.inl fo9))) :: wp9) := by
  intro sz
  refine k_ofW (cc := b_Lw_density) (maxL := 4) (ret := (Option.some Jvm.ClassFile.FieldType.int)) (hh := [((0 : Nat), (8 : Nat), (11 : Nat), (13 : Nat))]) (by decide) rfl (Nat.le_of_ble_eq_true rfl) ?_
  intro p e s m args below meth c ls H locs A Q hQ hx hb hml hr hts hown hlk hnm hsz hAe hP hK hD hS hA hE hAH hl htb
  have ht : ∀ w ∈ mw, w.before args s = true := fun w h => hts w (List.mem_cons_of_mem _ h)
  have hl : lv_has ls 4 [(0, .ref h), (1, .int x), (2, .ref o)] := hl
  refine lv_aload_n hx hb d_Lw_density_0 rfl (lv_at hl 2 rfl) ?_
  refine lv_iconst (v := nI 0) hx hb d_Lw_density_1 (by decide) ?_
  refine lv_aload_n hx hb d_Lw_density_2 rfl (lv_at hl 0 rfl) ?_
  refine lv_iload_n hx hb d_Lw_density_3 rfl (lv_at hl 1 rfl) ?_
  obtain ⟨fs, tl, hw0⟩ := PW_hd hw
  have hP2 : va_P D kcl (w ++ [(o, .inl (cL, 1, .inr (.inl fo)))]) H := va_P.rot (a := [(o, .inl (cL, 1, .inr (.inl fo)))]) (b := w) hP
  have hD2 : va_D A (w ++ [(o, .inl (cL, 1, .inr (.inl fo)))]) := va_D.rot (a := [(o, .inl (cL, 1, .inr (.inl fo)))]) (b := w) hD
  have he : (w ++ [(o, .inl (cL, 1, .inr (.inl fo)))])[0]? = some (h, .inr (4, fs)) := by rw [hw0]; rfl
  rcases k_Pk_density l Hs D cI cZ cL hi hw with hk | hk
  · refine cwa_x (own := R_Lw) (wc := w) (wr := [(o, .inl (cL, 1, .inr (.inl fo)))]) (E := e_IA) (hpc := 11) (hh := [((0 : Nat), (8 : Nat), (11 : Nat), (13 : Nat))]) hown (xk_runV (As := [.int x]) (rest := [.int (nI 0), .ref o]) (C := R_Pk) ⟨hx, hb, hml, hown, ht⟩ (hk hfl H.size) (gw_V 1 ht wd_885 wd_1 wd_882 wd_883 wd_884 (by decide +kernel) ⟨Nat.le_of_ble_eq_true rfl, Nat.le_of_ble_eq_true rfl⟩) (k_preV hE hAH hK hP2 hD2 hS (List.range w.length) (rg_C w [(o, .inl (cL, 1, .inr (.inl fo)))]) (rg_n1 _) 0 he rfl) rfl rfl hl.1 rfl (lv_room (Nat.le_of_ble_eq_true rfl)) d_Lw_density_4 ⟨Nat.le_of_ble_eq_true rfl, Nat.le_of_ble_eq_true rfl⟩) htb (xr_hit rfl (by decide) (ht _ wd_282) rfl (cs_self (nw_291 hE.1))) hP2 hD2 hS hA (fun q w1 H locs hpost hlen hP hD hS => ?_)
    obtain ⟨hrel, hpw⟩ := hpost
    refine lv_astore_n (lv' := [(3, .ref q), (0, .ref h), (1, .int x), (2, .ref o)]) hx hb d_Lw_density_11 rfl hl (by decide) rfl (fun ls hl => ?_)
    refine lv_iconst (v := nI 1) hx hb d_Lw_density_12 (by decide) ?_
    exact k_reti hQ hx hb hr hlk hAe hK hP hD hS (Nat.succ_le_succ hlen) (Nat.le_of_ble_eq_true rfl) (Nat.le_of_ble_eq_true rfl) ⟨1, 0, fo, w1, hrel 0, by decide, rfl, fun q => absurd q (by decide), hpw, rfl⟩ d_Lw_density_13
  · refine cwa_l (wc := w) (wr := [(o, .inl (cL, 1, .inr (.inl fo)))]) (va_runV (As := [.int x]) (rest := [.int (nI 0), .ref o]) (C := R_Pk) ⟨hx, hb, hml, hown, ht⟩ (hk H.size) (gw_V 1 ht wd_885 wd_1 wd_882 wd_883 wd_884 (by decide +kernel) ⟨Nat.le_of_ble_eq_true rfl, Nat.le_of_ble_eq_true rfl⟩) (k_preV hE hAH hK hP2 hD2 hS (List.range w.length) (rg_C w [(o, .inl (cL, 1, .inr (.inl fo)))]) (rg_n1 _) 0 he rfl) rfl rfl hl.1 rfl (lv_room (Nat.le_of_ble_eq_true rfl)) d_Lw_density_4 ⟨Nat.le_of_ble_eq_true rfl, Nat.le_of_ble_eq_true rfl⟩) hP2 hD2 hS hA (fun r w1 H locs hpost hlen hP hD hS => ?_)
    refine va_last hx hb hK hP hD hS 0 2 rfl rfl (vp_in_nI (by decide) (by decide)) d_Lw_density_7 (fun H locs hP hD hS => ?_)
    have hP : va_P D kcl ((o, .inl (cL, 1, .inr (.inl (vp_updL fo 0 r)))) :: w1) H := hP
    have hD : va_D A ((o, .inl (cL, 1, .inr (.inl (vp_updL fo 0 r)))) :: w1) := hD
    obtain ⟨hrel, hpw⟩ := hpost
    refine lv_goto hx hb d_Lw_density_8 rfl ?_
    refine lv_iconst (v := nI 0) hx hb d_Lw_density_14 (by decide) ?_
    exact k_reti hQ hx hb hr hlk hAe hK hP hD hS (Nat.succ_le_succ hlen) (Nat.le_of_ble_eq_true rfl) (Nat.le_of_ble_eq_true rfl) ⟨0, r, _, w1, hrel, by decide, rfl, fun _ => rfl, hpw, rfl⟩ d_Lw_density_15
