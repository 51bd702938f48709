/-! THE CLAIM OUT OF ONE WALK OF THE LAW'S BODY. Your part is whole_start (and what it stands on); all else here is the same for every law, but numbers. -/
def R_law : String := "PinwheelKernelLaw"
def lw_P (b : Addr) (xs : List Int32) (args : Array Value) (s : State) : Prop := args = #[.ref b] ∧ s.IntsAt b xs ∧ xs.length ≤ 1536 ∧ (Jvm.Cond.and given_1 narrow_1).before args s = true
def lw_Q (_ : Array Value) (s : State) (o : Outcome) (t : State) : Prop := o = .returned (some (.int 1)) ∧ Framed s o t [] 104668 8782102
def lw_Z (below : List Frame) (a : Array Value) (s : State) : State → Prop := fun t => ∃ o, t.status = .running ∧ Ended t below o ∧ lw_Q a s o t
/-- the law's own end, with 1 on the stack, nothing written that was there before, its room as the claim has it -/
theorem lw_ret {p : Program} {l : Launch} {e : Env} {s : State} {m : MethodId} {below : List Frame} {meth : Method} {c : Code} {b : Nat} (hx : p.tables.exec = Jvm.exec) (hb : c.code = code) (hr : meth.sig.returnType = ret) (hlocks : meth.locks = false) {pc : Nat} {H : Heap} {ls : Array Slot} (hdg : decode code pc = .ok (.ireturn, 1)) : W p l e room_1 s m #[Value.ref b] below meth c H [] 104668 8782102 (lw_Z below #[Value.ref b] s) (F0 m pc ls [.int 1]) := by
  intro T hT X
  obtain ⟨fs, hret, hrun, hended, hW, hframe⟩ := X.leave (v := some (.int 1)) (hlocks := hlocks) (fun h => by rw [hr] at h; cases h)
  have hmeth' : T.vm.method? m = some meth := X.method'
  refine ⟨T.setFrames fs, ?_, .returned (some (.int 1)), hrun, hended, rfl, ⟨_, rfl⟩, hW, hframe⟩
  jvm_step X.here [X.here.top, hx, hb, hdg, hmeth', hr, ret, narrow_b1]
  (try refine ⟨rfl, ?_⟩); (try refine ⟨rfl, ?_⟩)
  first | (intro acts; rw [hret _ acts rfl rfl rfl]) | rw [hret _ _ rfl rfl rfl]
  exact Steps.refl _
/-- what holds at the law's entry: the machine, the code, the tables' words (any of lw_tbl by 'hts w (by decide +kernel)'), the script of L ints xs at the cell b, what the Statement gives of the start (any of its parts by flat_of_before) -/
def lw_At (p : Program) (s : State) (m : MethodId) (meth : Method) (c : Code) (b L : Nat) (xs : Nat → Int32) : Prop :=
  p.tables.exec = Jvm.exec ∧ c.code = code ∧ meth.sig.returnType = ret ∧ c.maxLocals = 8 ∧ s.vm.findClass R_law = some m.cls ∧ (∀ w ∈ lw_tbl, w.before #[Value.ref b] s = true) ∧ va_X b L xs s s.heap ∧ b < s.heap.size ∧ meth.locks = false ∧ (Jvm.Cond.and given_1 narrow_1).before #[Value.ref b] s = true
/-! One turn of the law. -/
abbrev aL (s : State) : Nat → Prop := fun q => s.heap.size ≤ q
theorem MW_hd {cI cZ : ClassId} {S : Nat → Nat → Nat} {h th : Nat} {w : va_W} (hw : MW cI cZ S h th w) : ∃ fs tl, w = (h, .inr (5, fs)) :: tl := by
  obtain ⟨a1, a2, a3, a4, c1, b1, b2, c2, r1, r2, z1, n1, t1, me, L2, mn, f1, f2, f3, f4, fc, g1, g2, cy, ro, ru, zs, nu, tm, cv, rfl, -⟩ := hw
  exact ⟨_, _, rfl⟩
/-- behind a turn -/
def lw_nx (p : Program) (l : Launch) (e : Env) (s : State) (m : MethodId) (below : List Frame) (meth : Method) (c : Code) (b : Nat) (D : va_G) (cI cZ cL : ClassId) (h1 h2 o T : Nat) : Prop := ∀ (S : Nat → Nat → Nat) (th : Nat) (fo : Nat → Int64) (wp wm : va_W) (H : Heap) (locs : List Loc) (cells slots : Nat) (ls : Array Slot), iS (T + 1) S → PW cI S h1 wp → MW cI cZ S h2 th wm → va_P D kcl (((o, .inl (cL, 1, .inr (.inl fo))) :: wp) ++ wm) H → va_D (aL s) (((o, .inl (cL, 1, .inr (.inl fo))) :: wp) ++ wm) → va_S (aL s) s.heap H locs → lv_has ls 8 [(4, .int (nI (3 * T))), (0, .ref b), (1, .ref h1), (2, .ref h2), (3, .ref o)] → cells ≤ 32 + 10 * (T + 1) → slots ≤ 6508 + 8000 * (T + 1) → W p l e room_1 s m #[Value.ref b] below meth c H locs cells slots (lw_Z below #[Value.ref b] s) (F0 m 705 ls [])
set_option maxHeartbeats 4000000 in
set_option maxRecDepth 100000 in
theorem arm_0 {p : Program} {l : Launch} {e : Env} {s : State} {m : MethodId} {below : List Frame} {meth : Method} {c : Code} {b L : Nat} {xs : Nat → Int32} {D : va_G} {cI cZ cL : ClassId} {h1 h2 o T th : Nat} {S : Nat → Nat → Nat} {fo : Nat → Int64} {wp wm : va_W} {H : Heap} {locs : List Loc} {cells slots : Nat} {ls : Array Slot} (hfl : l.flags = flags0) (hx : p.tables.exec = Jvm.exec) (hb : c.code = b_Lw_law) (hml : c.maxLocals = 8) (hown : s.vm.findClass R_law = some m.cls) (ht : ∀ w ∈ mw, w.before #[Value.ref b] s = true) (hX : va_X b L xs s s.heap) (hbl : b < s.heap.size) (hK : va_K D kcl (ty3 cI cZ cL) s) (hE : gE s.heap s) (hL : L ≤ 1536) (h3 : 3 * T + 3 ≤ L) (hi : iS T S) (hpw : PW cI S h1 wp) (hmw : MW cI cZ S h2 th wm) (hP : va_P D kcl (((o, .inl (cL, 1, .inr (.inl fo))) :: wp) ++ wm) H) (hD : va_D (aL s) (((o, .inl (cL, 1, .inr (.inl fo))) :: wp) ++ wm)) (hS : va_S (aL s) s.heap H locs) (hl : lv_has ls 8 [(4, .int (nI (3 * T))), (0, .ref b), (1, .ref h1), (2, .ref h2), (3, .ref o)]) (hc : cells ≤ 32 + 10 * T) (hs : slots ≤ 6508 + 8000 * T) (nx : lw_nx p l e s m below meth c b D cI cZ cL h1 h2 o T) : W p l e room_1 s m #[Value.ref b] below meth c H locs cells slots (lw_Z below #[Value.ref b] s) (F0 m 100 ls []) := by
  refine lv_aload_n hx hb d_Lw_law_100 rfl (lv_at hl 2 rfl) ?_
  refine lv_aload_n hx hb d_Lw_law_101 rfl (lv_at hl 1 rfl) ?_
  refine lv_iload hx hb d_Lw_law_102 (lv_at hl 0 rfl) ?_
  refine lv_iconst (v := nI 1) hx hb d_Lw_law_104 (by decide) ?_
  refine wi_add hx hb d_Lw_law_105 ?_
  refine va_sld hx hb hX hbl (Nat.not_le.mpr hbl) hS (vp_in_nI (by omega) (by omega)) d_Lw_law_106 ?_
  rw [nI_clamp (by omega)]
  refine lv_aload_n hx hb d_Lw_law_107 rfl (lv_at hl 1 rfl) ?_
  refine lv_iload hx hb d_Lw_law_108 (lv_at hl 0 rfl) ?_
  refine lv_iconst (v := nI 2) hx hb d_Lw_law_110 (by decide) ?_
  refine wi_add hx hb d_Lw_law_111 ?_
  refine va_sld hx hb hX hbl (Nat.not_le.mpr hbl) hS (vp_in_nI (by omega) (by omega)) d_Lw_law_112 ?_
  rw [nI_clamp (by omega)]
  refine lv_aload_n hx hb d_Lw_law_113 rfl (lv_at hl 4 rfl) ?_
  refine cwa_i (wc := (o, .inl (cL, 1, .inr (.inl fo))) :: wp) (wr := wm) (xk_runSW (n := 4) (As := [.ref h1, .int (xs (3 * T + 1)), .int (xs (3 * T + 2)), .ref o]) (rest := []) ⟨hx, hb, hml, hown, ht⟩ (h_ask l hfl s.heap D cI cZ cL hi hpw H.size) ht wd_281 wd_0 wd_279 wd_280 (by decide +kernel) ⟨Nat.le_of_ble_eq_true rfl, Nat.le_of_ble_eq_true rfl⟩ (k_preS hE (fun _ h => h) hK hP hD hS (List.range ((o, .inl (cL, 1, .inr (.inl fo))) :: wp).length) (rg_C ((o, .inl (cL, 1, .inr (.inl fo))) :: wp) _) (rg_n1 _)) rfl rfl hl.1 rfl (lv_room (Nat.le_of_ble_eq_true rfl)) d_Lw_law_114 ⟨(by show cells + 10 ≤ 104668; omega), (by show slots + 8000 ≤ 8782102; omega)⟩) hP hD hS (fun _ h => h) (fun r w1 H locs hpost hlen hP hD hS => ?_)
  obtain ⟨kd, S9, v, fo9, wp9, hrel, hkd, rfl, hv, hpw9, rfl⟩ := hpost
  refine lv_istore (lv' := [(5, .int (nI kd)), (4, .int (nI (3 * T))), (0, .ref b), (1, .ref h1), (2, .ref h2), (3, .ref o)]) hx hb d_Lw_law_117 hl (by decide) rfl (fun ls hl => ?_)
  refine lv_aload_n hx hb d_Lw_law_119 rfl (lv_at hl 4 rfl) ?_
  refine lv_aload_n hx hb d_Lw_law_120 rfl (lv_at hl 2 rfl) ?_
  refine lv_iload hx hb d_Lw_law_121 (lv_at hl 1 rfl) ?_
  refine lv_iconst (v := nI 1) hx hb d_Lw_law_123 (by decide) ?_
  refine wi_add hx hb d_Lw_law_124 ?_
  refine va_sld hx hb hX hbl (Nat.not_le.mpr hbl) hS (vp_in_nI (by omega) (by omega)) d_Lw_law_125 ?_
  rw [nI_clamp (by omega)]
  refine lv_aload_n hx hb d_Lw_law_126 rfl (lv_at hl 2 rfl) ?_
  refine lv_iload hx hb d_Lw_law_127 (lv_at hl 1 rfl) ?_
  refine lv_iconst (v := nI 2) hx hb d_Lw_law_129 (by decide) ?_
  refine wi_add hx hb d_Lw_law_130 ?_
  refine va_sld hx hb hX hbl (Nat.not_le.mpr hbl) hS (vp_in_nI (by omega) (by omega)) d_Lw_law_131 ?_
  rw [nI_clamp (by omega)]
  obtain ⟨fs132, tl132, hm132⟩ := MW_hd hmw
  have he : ((wm) ++ ((o, .inl (cL, 1, .inr (.inl fo9))) :: wp9))[0]? = some (h2, .inr (5, fs132)) := by rw [hm132]; rfl
  refine cwa_i (wc := wm) (wr := (o, .inl (cL, 1, .inr (.inl fo9))) :: wp9) (va_runV (As := [.int (xs (3 * T + 1)), .int (xs (3 * T + 2))]) (rest := []) (C := R_Md) ⟨hx, hb, hml, hown, ht⟩ (k_Md_ask l s.heap D cI cZ cL hi hmw hrel H.size) (gw_V 2 ht wd_979 wd_5 wd_976 wd_977 wd_978 (by decide +kernel) ⟨Nat.le_of_ble_eq_true rfl, Nat.le_of_ble_eq_true rfl⟩) (k_preV hE (fun _ h => h) hK hP hD hS (List.range (wm).length) (rg_C (wm) _) (rg_n1 _) 0 he rfl) rfl rfl hl.1 rfl (lv_room (Nat.le_of_ble_eq_true rfl)) d_Lw_law_132 ⟨(by show cells + 10 + 0 ≤ 104668; omega), (by show slots + 8000 + 0 ≤ 8782102; omega)⟩) hP hD hS (fun _ h => h) (fun r2 wm9 H locs hpost hlen2 hP hD hS => ?_)
  obtain ⟨hr2, hmw9⟩ := hpost
  have hi9 : iS T S9 := i_ask hi hrel
  refine lv_istore (lv' := [(6, .int r2), (5, .int (nI kd)), (4, .int (nI (3 * T))), (0, .ref b), (1, .ref h1), (2, .ref h2), (3, .ref o)]) hx hb d_Lw_law_135 hl (by decide) rfl (fun ls hl => ?_)
  refine lv_aload_n hx hb d_Lw_law_137 rfl (lv_at hl 5 rfl) ?_
  have hP := va_P.rot (a := ((o, .inl (cL, 1, .inr (.inl fo9))) :: wp9)) (b := wm9) hP
  have hD := va_D.rot (a := ((o, .inl (cL, 1, .inr (.inl fo9))) :: wp9)) (b := wm9) hD
  obtain ⟨fs138, tl138, hm138⟩ := MW_hd hmw9
  have he : ((wm9) ++ ((o, .inl (cL, 1, .inr (.inl fo9))) :: wp9))[0]? = some (h2, .inr (5, fs138)) := by rw [hm138]; rfl
  refine cwa_i (wc := wm9) (wr := (o, .inl (cL, 1, .inr (.inl fo9))) :: wp9) (va_runV (As := []) (rest := []) (C := R_Md) ⟨hx, hb, hml, hown, ht⟩ (k_Md_thrown l s.heap D cI cZ cL hi9 hmw9 H.size) (gw_V 0 ht wd_975 wd_5 wd_972 wd_973 wd_974 (by decide +kernel) ⟨Nat.le_of_ble_eq_true rfl, Nat.le_of_ble_eq_true rfl⟩) (k_preV hE (fun _ h => h) hK hP hD hS (List.range (wm9).length) (rg_C (wm9) _) (rg_n1 _) 0 he rfl) rfl rfl hl.1 rfl (lv_room (Nat.le_of_ble_eq_true rfl)) d_Lw_law_138 ⟨(by show cells + 10 + 0 + 0 ≤ 104668; omega), (by show slots + 8000 + 0 + 0 ≤ 8782102; omega)⟩) hP hD hS (fun _ h => h) (fun r3 wm8 H locs hpost hlen3 hP hD hS => ?_)
  obtain ⟨rfl, hmw8⟩ := hpost
  refine lv_iload hx hb d_Lw_law_141 (lv_at hl 1 rfl) ?_
  refine lv_icmp_eq hx hb d_Lw_law_143 rfl (fun _ => ?_) (fun h => absurd rfl h)
  refine lv_iload hx hb d_Lw_law_148 (lv_at hl 1 rfl) ?_
  refine wi_if_ne hx hb d_Lw_law_150 rfl (by omega) (fun hk0 => ?_) (fun hk0 => ?_)
  · skip
    refine lv_goto hx hb d_Lw_law_165 rfl ?_
    exact nx S9 kd fo9 wp9 wm8 H locs _ _ ls (hi9.mono (Nat.le_succ T)) hpw9 hmw8 hP hD hS (lv_sub hl [2, 3, 4, 5, 6] rfl) (by show cells + 10 + 0 + 0 ≤ 32 + 10 * (T + 1); omega) (by show slots + 8000 + 0 + 0 ≤ 6508 + 8000 * (T + 1); omega)
  · skip
    refine lv_aload_n hx hb d_Lw_law_153 rfl (lv_at hl 6 rfl) ?_
    refine lv_iconst (v := nI 0) hx hb d_Lw_law_154 (by decide) ?_
    refine va_lald hx hb hK hP 0 2 rfl rfl (vp_in_nI (by decide) (by decide)) d_Lw_law_155 ?_
    refine lv_iload hx hb d_Lw_law_156 (lv_at hl 0 rfl) ?_
    refine lv_i2l (v := r2.toInt64) hx hb d_Lw_law_158 rfl ?_
    refine W.lcmp hx hb d_Lw_law_159 ?_
    have heq : fo9 0 = r2.toInt64 := by rw [hr2 hk0]; exact hv hk0
    refine lv_if_eq hx hb d_Lw_law_160 rfl (fun _ => ?_) (fun h => absurd (lg_eq0.mpr heq) h)
    refine lv_goto hx hb d_Lw_law_165 rfl ?_
    exact nx S9 kd fo9 wp9 wm8 H locs _ _ ls (hi9.mono (Nat.le_succ T)) hpw9 hmw8 hP hD hS (lv_sub hl [2, 3, 4, 5, 6] rfl) (by show cells + 10 + 0 + 0 ≤ 32 + 10 * (T + 1); omega) (by show slots + 8000 + 0 + 0 ≤ 6508 + 8000 * (T + 1); omega)
set_option maxHeartbeats 4000000 in
set_option maxRecDepth 100000 in
theorem arm_1 {p : Program} {l : Launch} {e : Env} {s : State} {m : MethodId} {below : List Frame} {meth : Method} {c : Code} {b L : Nat} {xs : Nat → Int32} {D : va_G} {cI cZ cL : ClassId} {h1 h2 o T th : Nat} {S : Nat → Nat → Nat} {fo : Nat → Int64} {wp wm : va_W} {H : Heap} {locs : List Loc} {cells slots : Nat} {ls : Array Slot} (hfl : l.flags = flags0) (hx : p.tables.exec = Jvm.exec) (hb : c.code = b_Lw_law) (hml : c.maxLocals = 8) (hown : s.vm.findClass R_law = some m.cls) (ht : ∀ w ∈ mw, w.before #[Value.ref b] s = true) (hX : va_X b L xs s s.heap) (hbl : b < s.heap.size) (hK : va_K D kcl (ty3 cI cZ cL) s) (hE : gE s.heap s) (hL : L ≤ 1536) (h3 : 3 * T + 3 ≤ L) (hi : iS T S) (hpw : PW cI S h1 wp) (hmw : MW cI cZ S h2 th wm) (hP : va_P D kcl (((o, .inl (cL, 1, .inr (.inl fo))) :: wp) ++ wm) H) (hD : va_D (aL s) (((o, .inl (cL, 1, .inr (.inl fo))) :: wp) ++ wm)) (hS : va_S (aL s) s.heap H locs) (hl : lv_has ls 8 [(4, .int (nI (3 * T))), (0, .ref b), (1, .ref h1), (2, .ref h2), (3, .ref o)]) (hc : cells ≤ 32 + 10 * T) (hs : slots ≤ 6508 + 8000 * T) (nx : lw_nx p l e s m below meth c b D cI cZ cL h1 h2 o T) : W p l e room_1 s m #[Value.ref b] below meth c H locs cells slots (lw_Z below #[Value.ref b] s) (F0 m 168 ls []) := by
  refine lv_aload_n hx hb d_Lw_law_168 rfl (lv_at hl 2 rfl) ?_
  refine lv_aload_n hx hb d_Lw_law_169 rfl (lv_at hl 1 rfl) ?_
  refine lv_iload hx hb d_Lw_law_170 (lv_at hl 0 rfl) ?_
  refine lv_iconst (v := nI 1) hx hb d_Lw_law_172 (by decide) ?_
  refine wi_add hx hb d_Lw_law_173 ?_
  refine va_sld hx hb hX hbl (Nat.not_le.mpr hbl) hS (vp_in_nI (by omega) (by omega)) d_Lw_law_174 ?_
  rw [nI_clamp (by omega)]
  refine lv_aload_n hx hb d_Lw_law_175 rfl (lv_at hl 4 rfl) ?_
  refine cwa_i (wc := (o, .inl (cL, 1, .inr (.inl fo))) :: wp) (wr := wm) (xk_runSW (n := 3) (As := [.ref h1, .int (xs (3 * T + 1)), .ref o]) (rest := []) ⟨hx, hb, hml, hown, ht⟩ (h_drop l hfl s.heap D cI cZ cL hi hpw H.size) ht wd_770 wd_0 wd_768 wd_769 (by decide +kernel) ⟨Nat.le_of_ble_eq_true rfl, Nat.le_of_ble_eq_true rfl⟩ (k_preS hE (fun _ h => h) hK hP hD hS (List.range ((o, .inl (cL, 1, .inr (.inl fo))) :: wp).length) (rg_C ((o, .inl (cL, 1, .inr (.inl fo))) :: wp) _) (rg_n1 _)) rfl rfl hl.1 rfl (lv_room (Nat.le_of_ble_eq_true rfl)) d_Lw_law_176 ⟨(by show cells + 10 ≤ 104668; omega), (by show slots + 8000 ≤ 8782102; omega)⟩) hP hD hS (fun _ h => h) (fun r w1 H locs hpost hlen hP hD hS => ?_)
  obtain ⟨kd, S9, v, fo9, wp9, hrel, hkd, rfl, hv, hpw9, rfl⟩ := hpost
  refine lv_istore (lv' := [(5, .int (nI kd)), (4, .int (nI (3 * T))), (0, .ref b), (1, .ref h1), (2, .ref h2), (3, .ref o)]) hx hb d_Lw_law_179 hl (by decide) rfl (fun ls hl => ?_)
  refine lv_aload_n hx hb d_Lw_law_181 rfl (lv_at hl 4 rfl) ?_
  refine lv_aload_n hx hb d_Lw_law_182 rfl (lv_at hl 2 rfl) ?_
  refine lv_iload hx hb d_Lw_law_183 (lv_at hl 1 rfl) ?_
  refine lv_iconst (v := nI 1) hx hb d_Lw_law_185 (by decide) ?_
  refine wi_add hx hb d_Lw_law_186 ?_
  refine va_sld hx hb hX hbl (Nat.not_le.mpr hbl) hS (vp_in_nI (by omega) (by omega)) d_Lw_law_187 ?_
  rw [nI_clamp (by omega)]
  obtain ⟨fs188, tl188, hm188⟩ := MW_hd hmw
  have he : ((wm) ++ ((o, .inl (cL, 1, .inr (.inl fo9))) :: wp9))[0]? = some (h2, .inr (5, fs188)) := by rw [hm188]; rfl
  refine cwa_i (wc := wm) (wr := (o, .inl (cL, 1, .inr (.inl fo9))) :: wp9) (va_runV (As := [.int (xs (3 * T + 1))]) (rest := []) (C := R_Md) ⟨hx, hb, hml, hown, ht⟩ (k_Md_drop l s.heap D cI cZ cL hi hmw hrel H.size) (gw_V 1 ht wd_1045 wd_5 wd_1042 wd_1043 wd_1044 (by decide +kernel) ⟨Nat.le_of_ble_eq_true rfl, Nat.le_of_ble_eq_true rfl⟩) (k_preV hE (fun _ h => h) hK hP hD hS (List.range (wm).length) (rg_C (wm) _) (rg_n1 _) 0 he rfl) rfl rfl hl.1 rfl (lv_room (Nat.le_of_ble_eq_true rfl)) d_Lw_law_188 ⟨(by show cells + 10 + 0 ≤ 104668; omega), (by show slots + 8000 + 0 ≤ 8782102; omega)⟩) hP hD hS (fun _ h => h) (fun r2 wm9 H locs hpost hlen2 hP hD hS => ?_)
  obtain ⟨hr2, hmw9⟩ := hpost
  have hi9 : iS T S9 := i_drop hi hrel
  refine lv_istore (lv' := [(6, .int r2), (5, .int (nI kd)), (4, .int (nI (3 * T))), (0, .ref b), (1, .ref h1), (2, .ref h2), (3, .ref o)]) hx hb d_Lw_law_191 hl (by decide) rfl (fun ls hl => ?_)
  refine lv_aload_n hx hb d_Lw_law_193 rfl (lv_at hl 5 rfl) ?_
  have hP := va_P.rot (a := ((o, .inl (cL, 1, .inr (.inl fo9))) :: wp9)) (b := wm9) hP
  have hD := va_D.rot (a := ((o, .inl (cL, 1, .inr (.inl fo9))) :: wp9)) (b := wm9) hD
  obtain ⟨fs194, tl194, hm194⟩ := MW_hd hmw9
  have he : ((wm9) ++ ((o, .inl (cL, 1, .inr (.inl fo9))) :: wp9))[0]? = some (h2, .inr (5, fs194)) := by rw [hm194]; rfl
  refine cwa_i (wc := wm9) (wr := (o, .inl (cL, 1, .inr (.inl fo9))) :: wp9) (va_runV (As := []) (rest := []) (C := R_Md) ⟨hx, hb, hml, hown, ht⟩ (k_Md_thrown l s.heap D cI cZ cL hi9 hmw9 H.size) (gw_V 0 ht wd_975 wd_5 wd_972 wd_973 wd_974 (by decide +kernel) ⟨Nat.le_of_ble_eq_true rfl, Nat.le_of_ble_eq_true rfl⟩) (k_preV hE (fun _ h => h) hK hP hD hS (List.range (wm9).length) (rg_C (wm9) _) (rg_n1 _) 0 he rfl) rfl rfl hl.1 rfl (lv_room (Nat.le_of_ble_eq_true rfl)) d_Lw_law_194 ⟨(by show cells + 10 + 0 + 0 ≤ 104668; omega), (by show slots + 8000 + 0 + 0 ≤ 8782102; omega)⟩) hP hD hS (fun _ h => h) (fun r3 wm8 H locs hpost hlen3 hP hD hS => ?_)
  obtain ⟨rfl, hmw8⟩ := hpost
  refine lv_iload hx hb d_Lw_law_197 (lv_at hl 1 rfl) ?_
  refine lv_icmp_eq hx hb d_Lw_law_199 rfl (fun _ => ?_) (fun h => absurd rfl h)
  refine lv_iload hx hb d_Lw_law_204 (lv_at hl 1 rfl) ?_
  refine wi_if_ne hx hb d_Lw_law_206 rfl (by omega) (fun hk0 => ?_) (fun hk0 => ?_)
  · skip
    refine lv_goto hx hb d_Lw_law_221 rfl ?_
    exact nx S9 kd fo9 wp9 wm8 H locs _ _ ls (hi9.mono (Nat.le_succ T)) hpw9 hmw8 hP hD hS (lv_sub hl [2, 3, 4, 5, 6] rfl) (by show cells + 10 + 0 + 0 ≤ 32 + 10 * (T + 1); omega) (by show slots + 8000 + 0 + 0 ≤ 6508 + 8000 * (T + 1); omega)
  · skip
    refine lv_aload_n hx hb d_Lw_law_209 rfl (lv_at hl 6 rfl) ?_
    refine lv_iconst (v := nI 0) hx hb d_Lw_law_210 (by decide) ?_
    refine va_lald hx hb hK hP 0 2 rfl rfl (vp_in_nI (by decide) (by decide)) d_Lw_law_211 ?_
    refine lv_iload hx hb d_Lw_law_212 (lv_at hl 0 rfl) ?_
    refine lv_i2l (v := r2.toInt64) hx hb d_Lw_law_214 rfl ?_
    refine W.lcmp hx hb d_Lw_law_215 ?_
    have heq : fo9 0 = r2.toInt64 := by rw [hr2 hk0]; exact hv hk0
    refine lv_if_eq hx hb d_Lw_law_216 rfl (fun _ => ?_) (fun h => absurd (lg_eq0.mpr heq) h)
    refine lv_goto hx hb d_Lw_law_221 rfl ?_
    exact nx S9 kd fo9 wp9 wm8 H locs _ _ ls (hi9.mono (Nat.le_succ T)) hpw9 hmw8 hP hD hS (lv_sub hl [2, 3, 4, 5, 6] rfl) (by show cells + 10 + 0 + 0 ≤ 32 + 10 * (T + 1); omega) (by show slots + 8000 + 0 + 0 ≤ 6508 + 8000 * (T + 1); omega)
set_option maxHeartbeats 4000000 in
set_option maxRecDepth 100000 in
theorem arm_2 {p : Program} {l : Launch} {e : Env} {s : State} {m : MethodId} {below : List Frame} {meth : Method} {c : Code} {b L : Nat} {xs : Nat → Int32} {D : va_G} {cI cZ cL : ClassId} {h1 h2 o T th : Nat} {S : Nat → Nat → Nat} {fo : Nat → Int64} {wp wm : va_W} {H : Heap} {locs : List Loc} {cells slots : Nat} {ls : Array Slot} (hfl : l.flags = flags0) (hx : p.tables.exec = Jvm.exec) (hb : c.code = b_Lw_law) (hml : c.maxLocals = 8) (hown : s.vm.findClass R_law = some m.cls) (ht : ∀ w ∈ mw, w.before #[Value.ref b] s = true) (hX : va_X b L xs s s.heap) (hbl : b < s.heap.size) (hK : va_K D kcl (ty3 cI cZ cL) s) (hE : gE s.heap s) (hL : L ≤ 1536) (h3 : 3 * T + 3 ≤ L) (hi : iS T S) (hpw : PW cI S h1 wp) (hmw : MW cI cZ S h2 th wm) (hP : va_P D kcl (((o, .inl (cL, 1, .inr (.inl fo))) :: wp) ++ wm) H) (hD : va_D (aL s) (((o, .inl (cL, 1, .inr (.inl fo))) :: wp) ++ wm)) (hS : va_S (aL s) s.heap H locs) (hl : lv_has ls 8 [(4, .int (nI (3 * T))), (0, .ref b), (1, .ref h1), (2, .ref h2), (3, .ref o)]) (hc : cells ≤ 32 + 10 * T) (hs : slots ≤ 6508 + 8000 * T) (nx : lw_nx p l e s m below meth c b D cI cZ cL h1 h2 o T) : W p l e room_1 s m #[Value.ref b] below meth c H locs cells slots (lw_Z below #[Value.ref b] s) (F0 m 224 ls []) := by
  have hP := va_P.rot (a := [(o, .inl (cL, 1, .inr (.inl fo)))]) (b := (wp ++ wm)) hP
  have hD := va_D.rot (a := [(o, .inl (cL, 1, .inr (.inl fo)))]) (b := (wp ++ wm)) hD
  have hP : va_P D kcl (wp ++ (wm ++ [(o, .inl (cL, 1, .inr (.inl fo)))])) H := by rw [← List.append_assoc]; exact hP
  have hD : va_D (aL s) (wp ++ (wm ++ [(o, .inl (cL, 1, .inr (.inl fo)))])) := by rw [← List.append_assoc]; exact hD
  refine lv_aload_n hx hb d_Lw_law_224 rfl (lv_at hl 2 rfl) ?_
  obtain ⟨fs225, tl225, hm225⟩ := PW_hd hpw
  have he : ((wp) ++ (wm ++ [(o, .inl (cL, 1, .inr (.inl fo)))]))[0]? = some (h1, .inr (4, fs225)) := by rw [hm225]; rfl
  refine cwa_i (wc := wp) (wr := wm ++ [(o, .inl (cL, 1, .inr (.inl fo)))]) (va_runV (As := []) (rest := []) (C := R_Pk) ⟨hx, hb, hml, hown, ht⟩ (k_Pk_slot l s.heap D cI cZ cL hi hpw (by omega) H.size) (gw_V 0 ht wd_121 wd_1 wd_118 wd_119 wd_120 (by decide +kernel) ⟨Nat.le_of_ble_eq_true rfl, Nat.le_of_ble_eq_true rfl⟩) (k_preV hE (fun _ h => h) hK hP hD hS (List.range (wp).length) (rg_C (wp) _) (rg_n1 _) 0 he rfl) rfl rfl hl.1 rfl (lv_room (Nat.le_of_ble_eq_true rfl)) d_Lw_law_225 ⟨(by show cells + 10 ≤ 104668; omega), (by show slots + 8000 ≤ 8782102; omega)⟩) hP hD hS (fun _ h => h) (fun r wp9 H locs hpost hlen hP hD hS => ?_)
  obtain ⟨S9, hrel, hpw9⟩ := hpost
  have hP : va_P D kcl (wm ++ ([(o, .inl (cL, 1, .inr (.inl fo)))] ++ wp9)) H := by rw [← List.append_assoc]; exact hP
  have hD : va_D (aL s) (wm ++ ([(o, .inl (cL, 1, .inr (.inl fo)))] ++ wp9)) := by rw [← List.append_assoc]; exact hD
  refine lv_aload_n hx hb d_Lw_law_228 rfl (lv_at hl 3 rfl) ?_
  obtain ⟨fs229, tl229, hm229⟩ := MW_hd hmw
  have he : ((wm) ++ ([(o, .inl (cL, 1, .inr (.inl fo)))] ++ wp9))[0]? = some (h2, .inr (5, fs229)) := by rw [hm229]; rfl
  refine cwa_i (wc := wm) (wr := [(o, .inl (cL, 1, .inr (.inl fo)))] ++ wp9) (va_runV (As := []) (rest := [.int r]) (C := R_Md) ⟨hx, hb, hml, hown, ht⟩ (k_Md_slot l s.heap D cI cZ cL hi hmw (by omega) hrel H.size) (gw_V 0 ht wd_1049 wd_5 wd_1046 wd_1047 wd_1048 (by decide +kernel) ⟨Nat.le_of_ble_eq_true rfl, Nat.le_of_ble_eq_true rfl⟩) (k_preV hE (fun _ h => h) hK hP hD hS (List.range (wm).length) (rg_C (wm) _) (rg_n1 _) 0 he rfl) rfl rfl hl.1 rfl (lv_room (Nat.le_of_ble_eq_true rfl)) d_Lw_law_229 ⟨(by show cells + 10 + 0 ≤ 104668; omega), (by show slots + 8000 + 0 ≤ 8782102; omega)⟩) hP hD hS (fun _ h => h) (fun r2 wm9 H locs hpost hlen2 hP hD hS => ?_)
  obtain ⟨rfl, hmw9⟩ := hpost
  refine lv_icmp_eq hx hb d_Lw_law_232 rfl (fun _ => ?_) (fun h => absurd rfl h)
  exact nx S9 0 fo wp9 wm9 H locs _ _ ls (i_slot hi hrel) hpw9 hmw9 hP hD hS (lv_sub hl [0, 1, 2, 3, 4] rfl) (by show cells + 10 + 0 ≤ 32 + 10 * (T + 1); omega) (by show slots + 8000 + 0 ≤ 6508 + 8000 * (T + 1); omega)
set_option maxHeartbeats 4000000 in
set_option maxRecDepth 100000 in
theorem arm_3 {p : Program} {l : Launch} {e : Env} {s : State} {m : MethodId} {below : List Frame} {meth : Method} {c : Code} {b L : Nat} {xs : Nat → Int32} {D : va_G} {cI cZ cL : ClassId} {h1 h2 o T th : Nat} {S : Nat → Nat → Nat} {fo : Nat → Int64} {wp wm : va_W} {H : Heap} {locs : List Loc} {cells slots : Nat} {ls : Array Slot} (hfl : l.flags = flags0) (hx : p.tables.exec = Jvm.exec) (hb : c.code = b_Lw_law) (hml : c.maxLocals = 8) (hown : s.vm.findClass R_law = some m.cls) (ht : ∀ w ∈ mw, w.before #[Value.ref b] s = true) (hX : va_X b L xs s s.heap) (hbl : b < s.heap.size) (hK : va_K D kcl (ty3 cI cZ cL) s) (hE : gE s.heap s) (hL : L ≤ 1536) (h3 : 3 * T + 3 ≤ L) (hi : iS T S) (hpw : PW cI S h1 wp) (hmw : MW cI cZ S h2 th wm) (hP : va_P D kcl (((o, .inl (cL, 1, .inr (.inl fo))) :: wp) ++ wm) H) (hD : va_D (aL s) (((o, .inl (cL, 1, .inr (.inl fo))) :: wp) ++ wm)) (hS : va_S (aL s) s.heap H locs) (hl : lv_has ls 8 [(4, .int (nI (3 * T))), (0, .ref b), (1, .ref h1), (2, .ref h2), (3, .ref o)]) (hc : cells ≤ 32 + 10 * T) (hs : slots ≤ 6508 + 8000 * T) (nx : lw_nx p l e s m below meth c b D cI cZ cL h1 h2 o T) : W p l e room_1 s m #[Value.ref b] below meth c H locs cells slots (lw_Z below #[Value.ref b] s) (F0 m 237 ls []) := by
  have hP := va_P.rot (a := [(o, .inl (cL, 1, .inr (.inl fo)))]) (b := (wp ++ wm)) hP
  have hD := va_D.rot (a := [(o, .inl (cL, 1, .inr (.inl fo)))]) (b := (wp ++ wm)) hD
  have hP : va_P D kcl (wp ++ (wm ++ [(o, .inl (cL, 1, .inr (.inl fo)))])) H := by rw [← List.append_assoc]; exact hP
  have hD : va_D (aL s) (wp ++ (wm ++ [(o, .inl (cL, 1, .inr (.inl fo)))])) := by rw [← List.append_assoc]; exact hD
  refine lv_aload_n hx hb d_Lw_law_237 rfl (lv_at hl 2 rfl) ?_
  refine lv_aload_n hx hb d_Lw_law_238 rfl (lv_at hl 1 rfl) ?_
  refine lv_iload hx hb d_Lw_law_239 (lv_at hl 0 rfl) ?_
  refine lv_iconst (v := nI 1) hx hb d_Lw_law_241 (by decide) ?_
  refine wi_add hx hb d_Lw_law_242 ?_
  refine va_sld hx hb hX hbl (Nat.not_le.mpr hbl) hS (vp_in_nI (by omega) (by omega)) d_Lw_law_243 ?_
  rw [nI_clamp (by omega)]
  refine cwa_i (wc := wp) (wr := wm ++ [(o, .inl (cL, 1, .inr (.inl fo)))]) (xk_runSW (n := 2) (As := [.ref h1, .int (xs (3 * T + 1))]) (rest := []) ⟨hx, hb, hml, hown, ht⟩ (h_wish l hfl s.heap D cI cZ cL hi hpw H.size) ht wd_801 wd_0 wd_799 wd_800 (by decide +kernel) ⟨Nat.le_of_ble_eq_true rfl, Nat.le_of_ble_eq_true rfl⟩ (k_preS hE (fun _ h => h) hK hP hD hS (List.range (wp).length) (rg_C (wp) _) (rg_n1 _)) rfl rfl hl.1 rfl (lv_room (Nat.le_of_ble_eq_true rfl)) d_Lw_law_244 ⟨(by show cells + 10 ≤ 104668; omega), (by show slots + 8000 ≤ 8782102; omega)⟩) hP hD hS (fun _ h => h) (fun r wp9 H locs hpost hlen hP hD hS => ?_)
  obtain ⟨kd, S9, wx, hrel, hkd, rfl, hpw9, rfl⟩ := hpost
  have hP : va_P D kcl (wm ++ ([(o, .inl (cL, 1, .inr (.inl fo)))] ++ wp9)) H := by rw [← List.append_assoc]; exact hP
  have hD : va_D (aL s) (wm ++ ([(o, .inl (cL, 1, .inr (.inl fo)))] ++ wp9)) := by rw [← List.append_assoc]; exact hD
  refine lv_istore (lv' := [(5, .int (nI kd)), (4, .int (nI (3 * T))), (0, .ref b), (1, .ref h1), (2, .ref h2), (3, .ref o)]) hx hb d_Lw_law_247 hl (by decide) rfl (fun ls hl => ?_)
  refine lv_aload_n hx hb d_Lw_law_249 rfl (lv_at hl 4 rfl) ?_
  refine lv_aload_n hx hb d_Lw_law_250 rfl (lv_at hl 2 rfl) ?_
  refine lv_iload hx hb d_Lw_law_251 (lv_at hl 1 rfl) ?_
  refine lv_iconst (v := nI 1) hx hb d_Lw_law_253 (by decide) ?_
  refine wi_add hx hb d_Lw_law_254 ?_
  refine va_sld hx hb hX hbl (Nat.not_le.mpr hbl) hS (vp_in_nI (by omega) (by omega)) d_Lw_law_255 ?_
  rw [nI_clamp (by omega)]
  obtain ⟨fs256, tl256, hm256⟩ := MW_hd hmw
  have he : ((wm) ++ ([(o, .inl (cL, 1, .inr (.inl fo)))] ++ wp9))[0]? = some (h2, .inr (5, fs256)) := by rw [hm256]; rfl
  refine cwa_v (wc := wm) (wr := [(o, .inl (cL, 1, .inr (.inl fo)))] ++ wp9) (va_runV (As := [.int (xs (3 * T + 1))]) (rest := []) (C := R_Md) ⟨hx, hb, hml, hown, ht⟩ (k_Md_wish l s.heap D cI cZ cL hi hmw hrel H.size) (gw_V 1 ht wd_1065 wd_5 wd_1062 wd_1063 wd_1064 (by decide +kernel) ⟨Nat.le_of_ble_eq_true rfl, Nat.le_of_ble_eq_true rfl⟩) (k_preV hE (fun _ h => h) hK hP hD hS (List.range (wm).length) (rg_C (wm) _) (rg_n1 _) 0 he rfl) rfl rfl hl.1 rfl (lv_room (Nat.le_of_ble_eq_true rfl)) d_Lw_law_256 ⟨(by show cells + 10 + 0 ≤ 104668; omega), (by show slots + 8000 + 0 ≤ 8782102; omega)⟩) hP hD hS (fun _ h => h) (fun wm9 H locs hmw9 hlen2 hP hD hS => ?_)
  have hi9 : iS T S9 := i_wish hi hrel
  refine lv_aload_n hx hb d_Lw_law_259 rfl (lv_at hl 4 rfl) ?_
  have hP := va_P.rot (a := ((o, .inl (cL, 1, .inr (.inl fo))) :: wp9)) (b := wm9) hP
  have hD := va_D.rot (a := ((o, .inl (cL, 1, .inr (.inl fo))) :: wp9)) (b := wm9) hD
  obtain ⟨fs260, tl260, hm260⟩ := MW_hd hmw9
  have he : ((wm9) ++ ((o, .inl (cL, 1, .inr (.inl fo))) :: wp9))[0]? = some (h2, .inr (5, fs260)) := by rw [hm260]; rfl
  refine cwa_i (wc := wm9) (wr := (o, .inl (cL, 1, .inr (.inl fo))) :: wp9) (va_runV (As := []) (rest := []) (C := R_Md) ⟨hx, hb, hml, hown, ht⟩ (k_Md_thrown l s.heap D cI cZ cL hi9 hmw9 H.size) (gw_V 0 ht wd_975 wd_5 wd_972 wd_973 wd_974 (by decide +kernel) ⟨Nat.le_of_ble_eq_true rfl, Nat.le_of_ble_eq_true rfl⟩) (k_preV hE (fun _ h => h) hK hP hD hS (List.range (wm9).length) (rg_C (wm9) _) (rg_n1 _) 0 he rfl) rfl rfl hl.1 rfl (lv_room (Nat.le_of_ble_eq_true rfl)) d_Lw_law_260 ⟨(by show cells + 10 + 0 + 0 ≤ 104668; omega), (by show slots + 8000 + 0 + 0 ≤ 8782102; omega)⟩) hP hD hS (fun _ h => h) (fun r3 wm8 H locs hpost hlen3 hP hD hS => ?_)
  obtain ⟨rfl, hmw8⟩ := hpost
  refine lv_iload hx hb d_Lw_law_263 (lv_at hl 0 rfl) ?_
  refine lv_icmp_eq hx hb d_Lw_law_265 rfl (fun _ => ?_) (fun h => absurd rfl h)
  refine lv_goto hx hb d_Lw_law_270 rfl ?_
  exact nx S9 kd fo wp9 wm8 H locs _ _ ls (hi9.mono (Nat.le_succ T)) hpw9 hmw8 hP hD hS (lv_sub hl [1, 2, 3, 4, 5] rfl) (by show cells + 10 + 0 + 0 ≤ 32 + 10 * (T + 1); omega) (by show slots + 8000 + 0 + 0 ≤ 6508 + 8000 * (T + 1); omega)
set_option maxHeartbeats 4000000 in
set_option maxRecDepth 100000 in
theorem arm_4 {p : Program} {l : Launch} {e : Env} {s : State} {m : MethodId} {below : List Frame} {meth : Method} {c : Code} {b L : Nat} {xs : Nat → Int32} {D : va_G} {cI cZ cL : ClassId} {h1 h2 o T th : Nat} {S : Nat → Nat → Nat} {fo : Nat → Int64} {wp wm : va_W} {H : Heap} {locs : List Loc} {cells slots : Nat} {ls : Array Slot} (hfl : l.flags = flags0) (hx : p.tables.exec = Jvm.exec) (hb : c.code = b_Lw_law) (hml : c.maxLocals = 8) (hown : s.vm.findClass R_law = some m.cls) (ht : ∀ w ∈ mw, w.before #[Value.ref b] s = true) (hX : va_X b L xs s s.heap) (hbl : b < s.heap.size) (hK : va_K D kcl (ty3 cI cZ cL) s) (hE : gE s.heap s) (hL : L ≤ 1536) (h3 : 3 * T + 3 ≤ L) (hi : iS T S) (hpw : PW cI S h1 wp) (hmw : MW cI cZ S h2 th wm) (hP : va_P D kcl (((o, .inl (cL, 1, .inr (.inl fo))) :: wp) ++ wm) H) (hD : va_D (aL s) (((o, .inl (cL, 1, .inr (.inl fo))) :: wp) ++ wm)) (hS : va_S (aL s) s.heap H locs) (hl : lv_has ls 8 [(4, .int (nI (3 * T))), (0, .ref b), (1, .ref h1), (2, .ref h2), (3, .ref o)]) (hc : cells ≤ 32 + 10 * T) (hs : slots ≤ 6508 + 8000 * T) (nx : lw_nx p l e s m below meth c b D cI cZ cL h1 h2 o T) : W p l e room_1 s m #[Value.ref b] below meth c H locs cells slots (lw_Z below #[Value.ref b] s) (F0 m 273 ls []) := by
  refine lv_aload_n hx hb d_Lw_law_273 rfl (lv_at hl 2 rfl) ?_
  refine lv_aload_n hx hb d_Lw_law_274 rfl (lv_at hl 1 rfl) ?_
  refine lv_iload hx hb d_Lw_law_275 (lv_at hl 0 rfl) ?_
  refine lv_iconst (v := nI 1) hx hb d_Lw_law_277 (by decide) ?_
  refine wi_add hx hb d_Lw_law_278 ?_
  refine va_sld hx hb hX hbl (Nat.not_le.mpr hbl) hS (vp_in_nI (by omega) (by omega)) d_Lw_law_279 ?_
  rw [nI_clamp (by omega)]
  refine lv_aload_n hx hb d_Lw_law_280 rfl (lv_at hl 4 rfl) ?_
  refine cwa_i (wc := (o, .inl (cL, 1, .inr (.inl fo))) :: wp) (wr := wm) (xk_runSW (n := 3) (As := [.ref h1, .int (xs (3 * T + 1)), .ref o]) (rest := []) ⟨hx, hb, hml, hown, ht⟩ (h_waited l hfl s.heap D cI cZ cL hi hpw H.size) ht wd_808 wd_0 wd_806 wd_807 (by decide +kernel) ⟨Nat.le_of_ble_eq_true rfl, Nat.le_of_ble_eq_true rfl⟩ (k_preS hE (fun _ h => h) hK hP hD hS (List.range ((o, .inl (cL, 1, .inr (.inl fo))) :: wp).length) (rg_C ((o, .inl (cL, 1, .inr (.inl fo))) :: wp) _) (rg_n1 _)) rfl rfl hl.1 rfl (lv_room (Nat.le_of_ble_eq_true rfl)) d_Lw_law_281 ⟨(by show cells + 10 ≤ 104668; omega), (by show slots + 8000 ≤ 8782102; omega)⟩) hP hD hS (fun _ h => h) (fun r w1 H locs hpost hlen hP hD hS => ?_)
  obtain ⟨kd, v, fo9, wp9, hrel, hkd, rfl, hv, hpw9, rfl⟩ := hpost
  refine lv_istore (lv' := [(5, .int (nI kd)), (4, .int (nI (3 * T))), (0, .ref b), (1, .ref h1), (2, .ref h2), (3, .ref o)]) hx hb d_Lw_law_284 hl (by decide) rfl (fun ls hl => ?_)
  refine lv_aload_n hx hb d_Lw_law_286 rfl (lv_at hl 4 rfl) ?_
  refine lv_aload_n hx hb d_Lw_law_287 rfl (lv_at hl 2 rfl) ?_
  refine lv_iload hx hb d_Lw_law_288 (lv_at hl 1 rfl) ?_
  refine lv_iconst (v := nI 1) hx hb d_Lw_law_290 (by decide) ?_
  refine wi_add hx hb d_Lw_law_291 ?_
  refine va_sld hx hb hX hbl (Nat.not_le.mpr hbl) hS (vp_in_nI (by omega) (by omega)) d_Lw_law_292 ?_
  rw [nI_clamp (by omega)]
  obtain ⟨fs293, tl293, hm293⟩ := MW_hd hmw
  have he : ((wm) ++ ((o, .inl (cL, 1, .inr (.inl fo9))) :: wp9))[0]? = some (h2, .inr (5, fs293)) := by rw [hm293]; rfl
  refine cwa_i (wc := wm) (wr := (o, .inl (cL, 1, .inr (.inl fo9))) :: wp9) (va_runV (As := [.int (xs (3 * T + 1))]) (rest := []) (C := R_Md) ⟨hx, hb, hml, hown, ht⟩ (k_Md_waited l s.heap D cI cZ cL hi hmw hrel H.size) (gw_V 1 ht wd_1069 wd_5 wd_1066 wd_1067 wd_1068 (by decide +kernel) ⟨Nat.le_of_ble_eq_true rfl, Nat.le_of_ble_eq_true rfl⟩) (k_preV hE (fun _ h => h) hK hP hD hS (List.range (wm).length) (rg_C (wm) _) (rg_n1 _) 0 he rfl) rfl rfl hl.1 rfl (lv_room (Nat.le_of_ble_eq_true rfl)) d_Lw_law_293 ⟨(by show cells + 10 + 0 ≤ 104668; omega), (by show slots + 8000 + 0 ≤ 8782102; omega)⟩) hP hD hS (fun _ h => h) (fun r2 wm9 H locs hpost hlen2 hP hD hS => ?_)
  obtain ⟨hr2, hmw9⟩ := hpost
  refine lv_istore (lv' := [(6, .int r2), (5, .int (nI kd)), (4, .int (nI (3 * T))), (0, .ref b), (1, .ref h1), (2, .ref h2), (3, .ref o)]) hx hb d_Lw_law_296 hl (by decide) rfl (fun ls hl => ?_)
  refine lv_aload_n hx hb d_Lw_law_298 rfl (lv_at hl 5 rfl) ?_
  have hP := va_P.rot (a := ((o, .inl (cL, 1, .inr (.inl fo9))) :: wp9)) (b := wm9) hP
  have hD := va_D.rot (a := ((o, .inl (cL, 1, .inr (.inl fo9))) :: wp9)) (b := wm9) hD
  obtain ⟨fs299, tl299, hm299⟩ := MW_hd hmw9
  have he : ((wm9) ++ ((o, .inl (cL, 1, .inr (.inl fo9))) :: wp9))[0]? = some (h2, .inr (5, fs299)) := by rw [hm299]; rfl
  refine cwa_i (wc := wm9) (wr := (o, .inl (cL, 1, .inr (.inl fo9))) :: wp9) (va_runV (As := []) (rest := []) (C := R_Md) ⟨hx, hb, hml, hown, ht⟩ (k_Md_thrown l s.heap D cI cZ cL hi hmw9 H.size) (gw_V 0 ht wd_975 wd_5 wd_972 wd_973 wd_974 (by decide +kernel) ⟨Nat.le_of_ble_eq_true rfl, Nat.le_of_ble_eq_true rfl⟩) (k_preV hE (fun _ h => h) hK hP hD hS (List.range (wm9).length) (rg_C (wm9) _) (rg_n1 _) 0 he rfl) rfl rfl hl.1 rfl (lv_room (Nat.le_of_ble_eq_true rfl)) d_Lw_law_299 ⟨(by show cells + 10 + 0 + 0 ≤ 104668; omega), (by show slots + 8000 + 0 + 0 ≤ 8782102; omega)⟩) hP hD hS (fun _ h => h) (fun r3 wm8 H locs hpost hlen3 hP hD hS => ?_)
  obtain ⟨rfl, hmw8⟩ := hpost
  refine lv_iload hx hb d_Lw_law_302 (lv_at hl 1 rfl) ?_
  refine lv_icmp_eq hx hb d_Lw_law_304 rfl (fun _ => ?_) (fun h => absurd rfl h)
  refine lv_iload hx hb d_Lw_law_309 (lv_at hl 1 rfl) ?_
  refine wi_if_ne hx hb d_Lw_law_311 rfl (by omega) (fun hk0 => ?_) (fun hk0 => ?_)
  · skip
    refine lv_goto hx hb d_Lw_law_326 rfl ?_
    exact nx S kd fo9 wp9 wm8 H locs _ _ ls (hi.mono (Nat.le_succ T)) hpw9 hmw8 hP hD hS (lv_sub hl [2, 3, 4, 5, 6] rfl) (by show cells + 10 + 0 + 0 ≤ 32 + 10 * (T + 1); omega) (by show slots + 8000 + 0 + 0 ≤ 6508 + 8000 * (T + 1); omega)
  · skip
    refine lv_aload_n hx hb d_Lw_law_314 rfl (lv_at hl 6 rfl) ?_
    refine lv_iconst (v := nI 0) hx hb d_Lw_law_315 (by decide) ?_
    refine va_lald hx hb hK hP 0 2 rfl rfl (vp_in_nI (by decide) (by decide)) d_Lw_law_316 ?_
    refine lv_iload hx hb d_Lw_law_317 (lv_at hl 0 rfl) ?_
    refine lv_i2l (v := r2.toInt64) hx hb d_Lw_law_319 rfl ?_
    refine W.lcmp hx hb d_Lw_law_320 ?_
    have heq : fo9 0 = r2.toInt64 := by rw [hr2 hk0]; exact hv hk0
    refine lv_if_eq hx hb d_Lw_law_321 rfl (fun _ => ?_) (fun h => absurd (lg_eq0.mpr heq) h)
    refine lv_goto hx hb d_Lw_law_326 rfl ?_
    exact nx S kd fo9 wp9 wm8 H locs _ _ ls (hi.mono (Nat.le_succ T)) hpw9 hmw8 hP hD hS (lv_sub hl [2, 3, 4, 5, 6] rfl) (by show cells + 10 + 0 + 0 ≤ 32 + 10 * (T + 1); omega) (by show slots + 8000 + 0 + 0 ≤ 6508 + 8000 * (T + 1); omega)
set_option maxHeartbeats 4000000 in
set_option maxRecDepth 100000 in
theorem arm_5 {p : Program} {l : Launch} {e : Env} {s : State} {m : MethodId} {below : List Frame} {meth : Method} {c : Code} {b L : Nat} {xs : Nat → Int32} {D : va_G} {cI cZ cL : ClassId} {h1 h2 o T th : Nat} {S : Nat → Nat → Nat} {fo : Nat → Int64} {wp wm : va_W} {H : Heap} {locs : List Loc} {cells slots : Nat} {ls : Array Slot} (hfl : l.flags = flags0) (hx : p.tables.exec = Jvm.exec) (hb : c.code = b_Lw_law) (hml : c.maxLocals = 8) (hown : s.vm.findClass R_law = some m.cls) (ht : ∀ w ∈ mw, w.before #[Value.ref b] s = true) (hX : va_X b L xs s s.heap) (hbl : b < s.heap.size) (hK : va_K D kcl (ty3 cI cZ cL) s) (hE : gE s.heap s) (hL : L ≤ 1536) (h3 : 3 * T + 3 ≤ L) (hi : iS T S) (hpw : PW cI S h1 wp) (hmw : MW cI cZ S h2 th wm) (hP : va_P D kcl (((o, .inl (cL, 1, .inr (.inl fo))) :: wp) ++ wm) H) (hD : va_D (aL s) (((o, .inl (cL, 1, .inr (.inl fo))) :: wp) ++ wm)) (hS : va_S (aL s) s.heap H locs) (hl : lv_has ls 8 [(4, .int (nI (3 * T))), (0, .ref b), (1, .ref h1), (2, .ref h2), (3, .ref o)]) (hc : cells ≤ 32 + 10 * T) (hs : slots ≤ 6508 + 8000 * T) (nx : lw_nx p l e s m below meth c b D cI cZ cL h1 h2 o T) : W p l e room_1 s m #[Value.ref b] below meth c H locs cells slots (lw_Z below #[Value.ref b] s) (F0 m 329 ls []) := by
  refine lv_aload_n hx hb d_Lw_law_329 rfl (lv_at hl 2 rfl) ?_
  refine lv_aload_n hx hb d_Lw_law_330 rfl (lv_at hl 1 rfl) ?_
  refine lv_iload hx hb d_Lw_law_331 (lv_at hl 0 rfl) ?_
  refine lv_iconst (v := nI 1) hx hb d_Lw_law_333 (by decide) ?_
  refine wi_add hx hb d_Lw_law_334 ?_
  refine va_sld hx hb hX hbl (Nat.not_le.mpr hbl) hS (vp_in_nI (by omega) (by omega)) d_Lw_law_335 ?_
  rw [nI_clamp (by omega)]
  refine lv_aload_n hx hb d_Lw_law_336 rfl (lv_at hl 4 rfl) ?_
  refine cwa_i (wc := (o, .inl (cL, 1, .inr (.inl fo))) :: wp) (wr := wm) (xk_runSW (n := 3) (As := [.ref h1, .int (xs (3 * T + 1)), .ref o]) (rest := []) ⟨hx, hb, hml, hown, ht⟩ (h_worst l hfl s.heap D cI cZ cL hi hpw H.size) ht wd_816 wd_0 wd_814 wd_815 (by decide +kernel) ⟨Nat.le_of_ble_eq_true rfl, Nat.le_of_ble_eq_true rfl⟩ (k_preS hE (fun _ h => h) hK hP hD hS (List.range ((o, .inl (cL, 1, .inr (.inl fo))) :: wp).length) (rg_C ((o, .inl (cL, 1, .inr (.inl fo))) :: wp) _) (rg_n1 _)) rfl rfl hl.1 rfl (lv_room (Nat.le_of_ble_eq_true rfl)) d_Lw_law_337 ⟨(by show cells + 10 ≤ 104668; omega), (by show slots + 8000 ≤ 8782102; omega)⟩) hP hD hS (fun _ h => h) (fun r w1 H locs hpost hlen hP hD hS => ?_)
  obtain ⟨kd, v, fo9, wp9, hrel, hkd, rfl, hv, hpw9, rfl⟩ := hpost
  refine lv_istore (lv' := [(5, .int (nI kd)), (4, .int (nI (3 * T))), (0, .ref b), (1, .ref h1), (2, .ref h2), (3, .ref o)]) hx hb d_Lw_law_340 hl (by decide) rfl (fun ls hl => ?_)
  refine lv_aload_n hx hb d_Lw_law_342 rfl (lv_at hl 4 rfl) ?_
  refine lv_aload_n hx hb d_Lw_law_343 rfl (lv_at hl 2 rfl) ?_
  refine lv_iload hx hb d_Lw_law_344 (lv_at hl 1 rfl) ?_
  refine lv_iconst (v := nI 1) hx hb d_Lw_law_346 (by decide) ?_
  refine wi_add hx hb d_Lw_law_347 ?_
  refine va_sld hx hb hX hbl (Nat.not_le.mpr hbl) hS (vp_in_nI (by omega) (by omega)) d_Lw_law_348 ?_
  rw [nI_clamp (by omega)]
  obtain ⟨fs349, tl349, hm349⟩ := MW_hd hmw
  have he : ((wm) ++ ((o, .inl (cL, 1, .inr (.inl fo9))) :: wp9))[0]? = some (h2, .inr (5, fs349)) := by rw [hm349]; rfl
  refine cwa_i (wc := wm) (wr := (o, .inl (cL, 1, .inr (.inl fo9))) :: wp9) (va_runV (As := [.int (xs (3 * T + 1))]) (rest := []) (C := R_Md) ⟨hx, hb, hml, hown, ht⟩ (k_Md_worst l s.heap D cI cZ cL hi hmw hrel H.size) (gw_V 1 ht wd_1073 wd_5 wd_1070 wd_1071 wd_1072 (by decide +kernel) ⟨Nat.le_of_ble_eq_true rfl, Nat.le_of_ble_eq_true rfl⟩) (k_preV hE (fun _ h => h) hK hP hD hS (List.range (wm).length) (rg_C (wm) _) (rg_n1 _) 0 he rfl) rfl rfl hl.1 rfl (lv_room (Nat.le_of_ble_eq_true rfl)) d_Lw_law_349 ⟨(by show cells + 10 + 0 ≤ 104668; omega), (by show slots + 8000 + 0 ≤ 8782102; omega)⟩) hP hD hS (fun _ h => h) (fun r2 wm9 H locs hpost hlen2 hP hD hS => ?_)
  obtain ⟨hr2, hmw9⟩ := hpost
  refine lv_istore (lv' := [(6, .int r2), (5, .int (nI kd)), (4, .int (nI (3 * T))), (0, .ref b), (1, .ref h1), (2, .ref h2), (3, .ref o)]) hx hb d_Lw_law_352 hl (by decide) rfl (fun ls hl => ?_)
  refine lv_aload_n hx hb d_Lw_law_354 rfl (lv_at hl 5 rfl) ?_
  have hP := va_P.rot (a := ((o, .inl (cL, 1, .inr (.inl fo9))) :: wp9)) (b := wm9) hP
  have hD := va_D.rot (a := ((o, .inl (cL, 1, .inr (.inl fo9))) :: wp9)) (b := wm9) hD
  obtain ⟨fs355, tl355, hm355⟩ := MW_hd hmw9
  have he : ((wm9) ++ ((o, .inl (cL, 1, .inr (.inl fo9))) :: wp9))[0]? = some (h2, .inr (5, fs355)) := by rw [hm355]; rfl
  refine cwa_i (wc := wm9) (wr := (o, .inl (cL, 1, .inr (.inl fo9))) :: wp9) (va_runV (As := []) (rest := []) (C := R_Md) ⟨hx, hb, hml, hown, ht⟩ (k_Md_thrown l s.heap D cI cZ cL hi hmw9 H.size) (gw_V 0 ht wd_975 wd_5 wd_972 wd_973 wd_974 (by decide +kernel) ⟨Nat.le_of_ble_eq_true rfl, Nat.le_of_ble_eq_true rfl⟩) (k_preV hE (fun _ h => h) hK hP hD hS (List.range (wm9).length) (rg_C (wm9) _) (rg_n1 _) 0 he rfl) rfl rfl hl.1 rfl (lv_room (Nat.le_of_ble_eq_true rfl)) d_Lw_law_355 ⟨(by show cells + 10 + 0 + 0 ≤ 104668; omega), (by show slots + 8000 + 0 + 0 ≤ 8782102; omega)⟩) hP hD hS (fun _ h => h) (fun r3 wm8 H locs hpost hlen3 hP hD hS => ?_)
  obtain ⟨rfl, hmw8⟩ := hpost
  refine lv_iload hx hb d_Lw_law_358 (lv_at hl 1 rfl) ?_
  refine lv_icmp_eq hx hb d_Lw_law_360 rfl (fun _ => ?_) (fun h => absurd rfl h)
  refine lv_iload hx hb d_Lw_law_365 (lv_at hl 1 rfl) ?_
  refine wi_if_ne hx hb d_Lw_law_367 rfl (by omega) (fun hk0 => ?_) (fun hk0 => ?_)
  · skip
    refine lv_goto hx hb d_Lw_law_382 rfl ?_
    exact nx S kd fo9 wp9 wm8 H locs _ _ ls (hi.mono (Nat.le_succ T)) hpw9 hmw8 hP hD hS (lv_sub hl [2, 3, 4, 5, 6] rfl) (by show cells + 10 + 0 + 0 ≤ 32 + 10 * (T + 1); omega) (by show slots + 8000 + 0 + 0 ≤ 6508 + 8000 * (T + 1); omega)
  · skip
    refine lv_aload_n hx hb d_Lw_law_370 rfl (lv_at hl 6 rfl) ?_
    refine lv_iconst (v := nI 0) hx hb d_Lw_law_371 (by decide) ?_
    refine va_lald hx hb hK hP 0 2 rfl rfl (vp_in_nI (by decide) (by decide)) d_Lw_law_372 ?_
    refine lv_iload hx hb d_Lw_law_373 (lv_at hl 0 rfl) ?_
    refine lv_i2l (v := r2.toInt64) hx hb d_Lw_law_375 rfl ?_
    refine W.lcmp hx hb d_Lw_law_376 ?_
    have heq : fo9 0 = r2.toInt64 := by rw [hr2 hk0]; exact hv hk0
    refine lv_if_eq hx hb d_Lw_law_377 rfl (fun _ => ?_) (fun h => absurd (lg_eq0.mpr heq) h)
    refine lv_goto hx hb d_Lw_law_382 rfl ?_
    exact nx S kd fo9 wp9 wm8 H locs _ _ ls (hi.mono (Nat.le_succ T)) hpw9 hmw8 hP hD hS (lv_sub hl [2, 3, 4, 5, 6] rfl) (by show cells + 10 + 0 + 0 ≤ 32 + 10 * (T + 1); omega) (by show slots + 8000 + 0 + 0 ≤ 6508 + 8000 * (T + 1); omega)
set_option maxHeartbeats 4000000 in
set_option maxRecDepth 100000 in
theorem arm_6 {p : Program} {l : Launch} {e : Env} {s : State} {m : MethodId} {below : List Frame} {meth : Method} {c : Code} {b L : Nat} {xs : Nat → Int32} {D : va_G} {cI cZ cL : ClassId} {h1 h2 o T th : Nat} {S : Nat → Nat → Nat} {fo : Nat → Int64} {wp wm : va_W} {H : Heap} {locs : List Loc} {cells slots : Nat} {ls : Array Slot} (hfl : l.flags = flags0) (hx : p.tables.exec = Jvm.exec) (hb : c.code = b_Lw_law) (hml : c.maxLocals = 8) (hown : s.vm.findClass R_law = some m.cls) (ht : ∀ w ∈ mw, w.before #[Value.ref b] s = true) (hX : va_X b L xs s s.heap) (hbl : b < s.heap.size) (hK : va_K D kcl (ty3 cI cZ cL) s) (hE : gE s.heap s) (hL : L ≤ 1536) (h3 : 3 * T + 3 ≤ L) (hi : iS T S) (hpw : PW cI S h1 wp) (hmw : MW cI cZ S h2 th wm) (hP : va_P D kcl (((o, .inl (cL, 1, .inr (.inl fo))) :: wp) ++ wm) H) (hD : va_D (aL s) (((o, .inl (cL, 1, .inr (.inl fo))) :: wp) ++ wm)) (hS : va_S (aL s) s.heap H locs) (hl : lv_has ls 8 [(4, .int (nI (3 * T))), (0, .ref b), (1, .ref h1), (2, .ref h2), (3, .ref o)]) (hc : cells ≤ 32 + 10 * T) (hs : slots ≤ 6508 + 8000 * T) (nx : lw_nx p l e s m below meth c b D cI cZ cL h1 h2 o T) : W p l e room_1 s m #[Value.ref b] below meth c H locs cells slots (lw_Z below #[Value.ref b] s) (F0 m 385 ls []) := by
  refine lv_aload_n hx hb d_Lw_law_385 rfl (lv_at hl 2 rfl) ?_
  refine lv_aload_n hx hb d_Lw_law_386 rfl (lv_at hl 1 rfl) ?_
  refine lv_iload hx hb d_Lw_law_387 (lv_at hl 0 rfl) ?_
  refine lv_iconst (v := nI 1) hx hb d_Lw_law_389 (by decide) ?_
  refine wi_add hx hb d_Lw_law_390 ?_
  refine va_sld hx hb hX hbl (Nat.not_le.mpr hbl) hS (vp_in_nI (by omega) (by omega)) d_Lw_law_391 ?_
  rw [nI_clamp (by omega)]
  refine lv_aload_n hx hb d_Lw_law_392 rfl (lv_at hl 4 rfl) ?_
  refine cwa_i (wc := (o, .inl (cL, 1, .inr (.inl fo))) :: wp) (wr := wm) (xk_runSW (n := 3) (As := [.ref h1, .int (xs (3 * T + 1)), .ref o]) (rest := []) ⟨hx, hb, hml, hown, ht⟩ (h_span l hfl s.heap D cI cZ cL hi hpw H.size) ht wd_827 wd_0 wd_825 wd_826 (by decide +kernel) ⟨Nat.le_of_ble_eq_true rfl, Nat.le_of_ble_eq_true rfl⟩ (k_preS hE (fun _ h => h) hK hP hD hS (List.range ((o, .inl (cL, 1, .inr (.inl fo))) :: wp).length) (rg_C ((o, .inl (cL, 1, .inr (.inl fo))) :: wp) _) (rg_n1 _)) rfl rfl hl.1 rfl (lv_room (Nat.le_of_ble_eq_true rfl)) d_Lw_law_393 ⟨(by show cells + 10 ≤ 104668; omega), (by show slots + 8000 ≤ 8782102; omega)⟩) hP hD hS (fun _ h => h) (fun r w1 H locs hpost hlen hP hD hS => ?_)
  obtain ⟨kd, v, fo9, wp9, hrel, hkd, rfl, hv, hpw9, rfl⟩ := hpost
  refine lv_istore (lv' := [(5, .int (nI kd)), (4, .int (nI (3 * T))), (0, .ref b), (1, .ref h1), (2, .ref h2), (3, .ref o)]) hx hb d_Lw_law_396 hl (by decide) rfl (fun ls hl => ?_)
  refine lv_aload_n hx hb d_Lw_law_398 rfl (lv_at hl 4 rfl) ?_
  refine lv_aload_n hx hb d_Lw_law_399 rfl (lv_at hl 2 rfl) ?_
  refine lv_iload hx hb d_Lw_law_400 (lv_at hl 1 rfl) ?_
  refine lv_iconst (v := nI 1) hx hb d_Lw_law_402 (by decide) ?_
  refine wi_add hx hb d_Lw_law_403 ?_
  refine va_sld hx hb hX hbl (Nat.not_le.mpr hbl) hS (vp_in_nI (by omega) (by omega)) d_Lw_law_404 ?_
  rw [nI_clamp (by omega)]
  obtain ⟨fs405, tl405, hm405⟩ := MW_hd hmw
  have he : ((wm) ++ ((o, .inl (cL, 1, .inr (.inl fo9))) :: wp9))[0]? = some (h2, .inr (5, fs405)) := by rw [hm405]; rfl
  refine cwa_i (wc := wm) (wr := (o, .inl (cL, 1, .inr (.inl fo9))) :: wp9) (va_runV (As := [.int (xs (3 * T + 1))]) (rest := []) (C := R_Md) ⟨hx, hb, hml, hown, ht⟩ (k_Md_span l s.heap D cI cZ cL hi hmw hrel H.size) (gw_V 1 ht wd_1077 wd_5 wd_1074 wd_1075 wd_1076 (by decide +kernel) ⟨Nat.le_of_ble_eq_true rfl, Nat.le_of_ble_eq_true rfl⟩) (k_preV hE (fun _ h => h) hK hP hD hS (List.range (wm).length) (rg_C (wm) _) (rg_n1 _) 0 he rfl) rfl rfl hl.1 rfl (lv_room (Nat.le_of_ble_eq_true rfl)) d_Lw_law_405 ⟨(by show cells + 10 + 0 ≤ 104668; omega), (by show slots + 8000 + 0 ≤ 8782102; omega)⟩) hP hD hS (fun _ h => h) (fun r2 wm9 H locs hpost hlen2 hP hD hS => ?_)
  obtain ⟨hr2, hmw9⟩ := hpost
  refine lv_istore (lv' := [(6, .int r2), (5, .int (nI kd)), (4, .int (nI (3 * T))), (0, .ref b), (1, .ref h1), (2, .ref h2), (3, .ref o)]) hx hb d_Lw_law_408 hl (by decide) rfl (fun ls hl => ?_)
  refine lv_aload_n hx hb d_Lw_law_410 rfl (lv_at hl 5 rfl) ?_
  have hP := va_P.rot (a := ((o, .inl (cL, 1, .inr (.inl fo9))) :: wp9)) (b := wm9) hP
  have hD := va_D.rot (a := ((o, .inl (cL, 1, .inr (.inl fo9))) :: wp9)) (b := wm9) hD
  obtain ⟨fs411, tl411, hm411⟩ := MW_hd hmw9
  have he : ((wm9) ++ ((o, .inl (cL, 1, .inr (.inl fo9))) :: wp9))[0]? = some (h2, .inr (5, fs411)) := by rw [hm411]; rfl
  refine cwa_i (wc := wm9) (wr := (o, .inl (cL, 1, .inr (.inl fo9))) :: wp9) (va_runV (As := []) (rest := []) (C := R_Md) ⟨hx, hb, hml, hown, ht⟩ (k_Md_thrown l s.heap D cI cZ cL hi hmw9 H.size) (gw_V 0 ht wd_975 wd_5 wd_972 wd_973 wd_974 (by decide +kernel) ⟨Nat.le_of_ble_eq_true rfl, Nat.le_of_ble_eq_true rfl⟩) (k_preV hE (fun _ h => h) hK hP hD hS (List.range (wm9).length) (rg_C (wm9) _) (rg_n1 _) 0 he rfl) rfl rfl hl.1 rfl (lv_room (Nat.le_of_ble_eq_true rfl)) d_Lw_law_411 ⟨(by show cells + 10 + 0 + 0 ≤ 104668; omega), (by show slots + 8000 + 0 + 0 ≤ 8782102; omega)⟩) hP hD hS (fun _ h => h) (fun r3 wm8 H locs hpost hlen3 hP hD hS => ?_)
  obtain ⟨rfl, hmw8⟩ := hpost
  refine lv_iload hx hb d_Lw_law_414 (lv_at hl 1 rfl) ?_
  refine lv_icmp_eq hx hb d_Lw_law_416 rfl (fun _ => ?_) (fun h => absurd rfl h)
  refine lv_iload hx hb d_Lw_law_421 (lv_at hl 1 rfl) ?_
  refine wi_if_ne hx hb d_Lw_law_423 rfl (by omega) (fun hk0 => ?_) (fun hk0 => ?_)
  · skip
    refine lv_goto hx hb d_Lw_law_438 rfl ?_
    exact nx S kd fo9 wp9 wm8 H locs _ _ ls (hi.mono (Nat.le_succ T)) hpw9 hmw8 hP hD hS (lv_sub hl [2, 3, 4, 5, 6] rfl) (by show cells + 10 + 0 + 0 ≤ 32 + 10 * (T + 1); omega) (by show slots + 8000 + 0 + 0 ≤ 6508 + 8000 * (T + 1); omega)
  · skip
    refine lv_aload_n hx hb d_Lw_law_426 rfl (lv_at hl 6 rfl) ?_
    refine lv_iconst (v := nI 0) hx hb d_Lw_law_427 (by decide) ?_
    refine va_lald hx hb hK hP 0 2 rfl rfl (vp_in_nI (by decide) (by decide)) d_Lw_law_428 ?_
    refine lv_iload hx hb d_Lw_law_429 (lv_at hl 0 rfl) ?_
    refine lv_i2l (v := r2.toInt64) hx hb d_Lw_law_431 rfl ?_
    refine W.lcmp hx hb d_Lw_law_432 ?_
    have heq : fo9 0 = r2.toInt64 := by rw [hr2 hk0]; exact hv hk0
    refine lv_if_eq hx hb d_Lw_law_433 rfl (fun _ => ?_) (fun h => absurd (lg_eq0.mpr heq) h)
    refine lv_goto hx hb d_Lw_law_438 rfl ?_
    exact nx S kd fo9 wp9 wm8 H locs _ _ ls (hi.mono (Nat.le_succ T)) hpw9 hmw8 hP hD hS (lv_sub hl [2, 3, 4, 5, 6] rfl) (by show cells + 10 + 0 + 0 ≤ 32 + 10 * (T + 1); omega) (by show slots + 8000 + 0 + 0 ≤ 6508 + 8000 * (T + 1); omega)
set_option maxHeartbeats 4000000 in
set_option maxRecDepth 100000 in
theorem arm_7 {p : Program} {l : Launch} {e : Env} {s : State} {m : MethodId} {below : List Frame} {meth : Method} {c : Code} {b L : Nat} {xs : Nat → Int32} {D : va_G} {cI cZ cL : ClassId} {h1 h2 o T th : Nat} {S : Nat → Nat → Nat} {fo : Nat → Int64} {wp wm : va_W} {H : Heap} {locs : List Loc} {cells slots : Nat} {ls : Array Slot} (hfl : l.flags = flags0) (hx : p.tables.exec = Jvm.exec) (hb : c.code = b_Lw_law) (hml : c.maxLocals = 8) (hown : s.vm.findClass R_law = some m.cls) (ht : ∀ w ∈ mw, w.before #[Value.ref b] s = true) (hX : va_X b L xs s s.heap) (hbl : b < s.heap.size) (hK : va_K D kcl (ty3 cI cZ cL) s) (hE : gE s.heap s) (hL : L ≤ 1536) (h3 : 3 * T + 3 ≤ L) (hi : iS T S) (hpw : PW cI S h1 wp) (hmw : MW cI cZ S h2 th wm) (hP : va_P D kcl (((o, .inl (cL, 1, .inr (.inl fo))) :: wp) ++ wm) H) (hD : va_D (aL s) (((o, .inl (cL, 1, .inr (.inl fo))) :: wp) ++ wm)) (hS : va_S (aL s) s.heap H locs) (hl : lv_has ls 8 [(4, .int (nI (3 * T))), (0, .ref b), (1, .ref h1), (2, .ref h2), (3, .ref o)]) (hc : cells ≤ 32 + 10 * T) (hs : slots ≤ 6508 + 8000 * T) (nx : lw_nx p l e s m below meth c b D cI cZ cL h1 h2 o T) : W p l e room_1 s m #[Value.ref b] below meth c H locs cells slots (lw_Z below #[Value.ref b] s) (F0 m 441 ls []) := by
  by_cases hz : xs (3 * T + 1) = 0
  · skip
    refine lv_aload_n hx hb d_Lw_law_441 rfl (lv_at hl 2 rfl) ?_
    refine lv_aload_n hx hb d_Lw_law_442 rfl (lv_at hl 1 rfl) ?_
    refine lv_iload hx hb d_Lw_law_443 (lv_at hl 0 rfl) ?_
    refine lv_iconst (v := nI 1) hx hb d_Lw_law_445 (by decide) ?_
    refine wi_add hx hb d_Lw_law_446 ?_
    refine va_sld hx hb hX hbl (Nat.not_le.mpr hbl) hS (vp_in_nI (by omega) (by omega)) d_Lw_law_447 ?_
    rw [nI_clamp (by omega)]
    refine lv_if_eq hx hb d_Lw_law_448 rfl (fun _ => ?_) (fun h => absurd hz h)
    refine lv_iconst (v := nI 0) hx hb d_Lw_law_455 (by decide) ?_
    refine lv_aload_n hx hb d_Lw_law_456 rfl (lv_at hl 1 rfl) ?_
    refine lv_iload hx hb d_Lw_law_457 (lv_at hl 0 rfl) ?_
    refine lv_iconst (v := nI 2) hx hb d_Lw_law_459 (by decide) ?_
    refine wi_add hx hb d_Lw_law_460 ?_
    refine va_sld hx hb hX hbl (Nat.not_le.mpr hbl) hS (vp_in_nI (by omega) (by omega)) d_Lw_law_461 ?_
    rw [nI_clamp (by omega)]
    refine lv_aload_n hx hb d_Lw_law_462 rfl (lv_at hl 4 rfl) ?_
    refine cwa_i (wc := (o, .inl (cL, 1, .inr (.inl fo))) :: wp) (wr := wm) (xk_runSW (n := 4) (As := [.ref h1, .int (nI 0), .int (xs (3 * T + 2)), .ref o]) (rest := []) ⟨hx, hb, hml, hown, ht⟩ (h_cycle0 l hfl s.heap D cI cZ cL hi hpw H.size) ht wd_835 wd_0 wd_833 wd_834 (by decide +kernel) ⟨Nat.le_of_ble_eq_true rfl, Nat.le_of_ble_eq_true rfl⟩ (k_preS hE (fun _ h => h) hK hP hD hS (List.range ((o, .inl (cL, 1, .inr (.inl fo))) :: wp).length) (rg_C ((o, .inl (cL, 1, .inr (.inl fo))) :: wp) _) (rg_n1 _)) rfl rfl hl.1 rfl (lv_room (Nat.le_of_ble_eq_true rfl)) d_Lw_law_463 ⟨(by show cells + 10 ≤ 104668; omega), (by show slots + 8000 ≤ 8782102; omega)⟩) hP hD hS (fun _ h => h) (fun r w1 H locs hpost hlen hP hD hS => ?_)
    obtain ⟨kd, v, fo9, wp9, hrel, hkd, rfl, hv, hpw9, rfl⟩ := hpost
    refine lv_istore (lv' := [(5, .int (nI kd)), (4, .int (nI (3 * T))), (0, .ref b), (1, .ref h1), (2, .ref h2), (3, .ref o)]) hx hb d_Lw_law_466 hl (by decide) rfl (fun ls hl => ?_)
    refine lv_aload_n hx hb d_Lw_law_468 rfl (lv_at hl 4 rfl) ?_
    refine lv_aload_n hx hb d_Lw_law_469 rfl (lv_at hl 2 rfl) ?_
    refine lv_iload hx hb d_Lw_law_470 (lv_at hl 1 rfl) ?_
    refine lv_iconst (v := nI 1) hx hb d_Lw_law_472 (by decide) ?_
    refine wi_add hx hb d_Lw_law_473 ?_
    refine va_sld hx hb hX hbl (Nat.not_le.mpr hbl) hS (vp_in_nI (by omega) (by omega)) d_Lw_law_474 ?_
    rw [nI_clamp (by omega)]
    refine lv_if_eq hx hb d_Lw_law_475 rfl (fun _ => ?_) (fun h => absurd hz h)
    refine lv_iconst (v := nI 0) hx hb d_Lw_law_482 (by decide) ?_
    refine lv_aload_n hx hb d_Lw_law_483 rfl (lv_at hl 2 rfl) ?_
    refine lv_iload hx hb d_Lw_law_484 (lv_at hl 1 rfl) ?_
    refine lv_iconst (v := nI 2) hx hb d_Lw_law_486 (by decide) ?_
    refine wi_add hx hb d_Lw_law_487 ?_
    refine va_sld hx hb hX hbl (Nat.not_le.mpr hbl) hS (vp_in_nI (by omega) (by omega)) d_Lw_law_488 ?_
    rw [nI_clamp (by omega)]
    obtain ⟨fs489, tl489, hm489⟩ := MW_hd hmw
    have he : ((wm) ++ ((o, .inl (cL, 1, .inr (.inl fo9))) :: wp9))[0]? = some (h2, .inr (5, fs489)) := by rw [hm489]; rfl
    refine cwa_i (wc := wm) (wr := (o, .inl (cL, 1, .inr (.inl fo9))) :: wp9) (va_runV (As := [.int (nI 0), .int (xs (3 * T + 2))]) (rest := []) (C := R_Md) ⟨hx, hb, hml, hown, ht⟩ (k_Md_cycle0 l s.heap D cI cZ cL hi hmw hrel H.size) (gw_V 2 ht wd_1081 wd_5 wd_1078 wd_1079 wd_1080 (by decide +kernel) ⟨Nat.le_of_ble_eq_true rfl, Nat.le_of_ble_eq_true rfl⟩) (k_preV hE (fun _ h => h) hK hP hD hS (List.range (wm).length) (rg_C (wm) _) (rg_n1 _) 0 he rfl) rfl rfl hl.1 rfl (lv_room (Nat.le_of_ble_eq_true rfl)) d_Lw_law_489 ⟨(by show cells + 10 + 0 ≤ 104668; omega), (by show slots + 8000 + 0 ≤ 8782102; omega)⟩) hP hD hS (fun _ h => h) (fun r2 wm9 H locs hpost hlen2 hP hD hS => ?_)
    obtain ⟨hr2, hmw9⟩ := hpost
    refine lv_istore (lv' := [(6, .int r2), (5, .int (nI kd)), (4, .int (nI (3 * T))), (0, .ref b), (1, .ref h1), (2, .ref h2), (3, .ref o)]) hx hb d_Lw_law_492 hl (by decide) rfl (fun ls hl => ?_)
    refine lv_aload_n hx hb d_Lw_law_494 rfl (lv_at hl 5 rfl) ?_
    have hP := va_P.rot (a := ((o, .inl (cL, 1, .inr (.inl fo9))) :: wp9)) (b := wm9) hP
    have hD := va_D.rot (a := ((o, .inl (cL, 1, .inr (.inl fo9))) :: wp9)) (b := wm9) hD
    obtain ⟨fs495, tl495, hm495⟩ := MW_hd hmw9
    have he : ((wm9) ++ ((o, .inl (cL, 1, .inr (.inl fo9))) :: wp9))[0]? = some (h2, .inr (5, fs495)) := by rw [hm495]; rfl
    refine cwa_i (wc := wm9) (wr := (o, .inl (cL, 1, .inr (.inl fo9))) :: wp9) (va_runV (As := []) (rest := []) (C := R_Md) ⟨hx, hb, hml, hown, ht⟩ (k_Md_thrown l s.heap D cI cZ cL hi hmw9 H.size) (gw_V 0 ht wd_975 wd_5 wd_972 wd_973 wd_974 (by decide +kernel) ⟨Nat.le_of_ble_eq_true rfl, Nat.le_of_ble_eq_true rfl⟩) (k_preV hE (fun _ h => h) hK hP hD hS (List.range (wm9).length) (rg_C (wm9) _) (rg_n1 _) 0 he rfl) rfl rfl hl.1 rfl (lv_room (Nat.le_of_ble_eq_true rfl)) d_Lw_law_495 ⟨(by show cells + 10 + 0 + 0 ≤ 104668; omega), (by show slots + 8000 + 0 + 0 ≤ 8782102; omega)⟩) hP hD hS (fun _ h => h) (fun r3 wm8 H locs hpost hlen3 hP hD hS => ?_)
    obtain ⟨rfl, hmw8⟩ := hpost
    refine lv_iload hx hb d_Lw_law_498 (lv_at hl 1 rfl) ?_
    refine lv_icmp_eq hx hb d_Lw_law_500 rfl (fun _ => ?_) (fun h => absurd rfl h)
    refine lv_iload hx hb d_Lw_law_505 (lv_at hl 1 rfl) ?_
    refine wi_if_ne hx hb d_Lw_law_507 rfl (by omega) (fun hk0 => ?_) (fun hk0 => ?_)
    · skip
      refine lv_goto hx hb d_Lw_law_522 rfl ?_
      exact nx S kd fo9 wp9 wm8 H locs _ _ ls (hi.mono (Nat.le_succ T)) hpw9 hmw8 hP hD hS (lv_sub hl [2, 3, 4, 5, 6] rfl) (by show cells + 10 + 0 + 0 ≤ 32 + 10 * (T + 1); omega) (by show slots + 8000 + 0 + 0 ≤ 6508 + 8000 * (T + 1); omega)
    · skip
      refine lv_aload_n hx hb d_Lw_law_510 rfl (lv_at hl 6 rfl) ?_
      refine lv_iconst (v := nI 0) hx hb d_Lw_law_511 (by decide) ?_
      refine va_lald hx hb hK hP 0 2 rfl rfl (vp_in_nI (by decide) (by decide)) d_Lw_law_512 ?_
      refine lv_iload hx hb d_Lw_law_513 (lv_at hl 0 rfl) ?_
      refine lv_i2l (v := r2.toInt64) hx hb d_Lw_law_515 rfl ?_
      refine W.lcmp hx hb d_Lw_law_516 ?_
      have heq : fo9 0 = r2.toInt64 := by rw [hr2 hk0]; exact hv hk0
      refine lv_if_eq hx hb d_Lw_law_517 rfl (fun _ => ?_) (fun h => absurd (lg_eq0.mpr heq) h)
      refine lv_goto hx hb d_Lw_law_522 rfl ?_
      exact nx S kd fo9 wp9 wm8 H locs _ _ ls (hi.mono (Nat.le_succ T)) hpw9 hmw8 hP hD hS (lv_sub hl [2, 3, 4, 5, 6] rfl) (by show cells + 10 + 0 + 0 ≤ 32 + 10 * (T + 1); omega) (by show slots + 8000 + 0 + 0 ≤ 6508 + 8000 * (T + 1); omega)
  · skip
    refine lv_aload_n hx hb d_Lw_law_441 rfl (lv_at hl 2 rfl) ?_
    refine lv_aload_n hx hb d_Lw_law_442 rfl (lv_at hl 1 rfl) ?_
    refine lv_iload hx hb d_Lw_law_443 (lv_at hl 0 rfl) ?_
    refine lv_iconst (v := nI 1) hx hb d_Lw_law_445 (by decide) ?_
    refine wi_add hx hb d_Lw_law_446 ?_
    refine va_sld hx hb hX hbl (Nat.not_le.mpr hbl) hS (vp_in_nI (by omega) (by omega)) d_Lw_law_447 ?_
    rw [nI_clamp (by omega)]
    refine lv_if_eq hx hb d_Lw_law_448 rfl (fun h => absurd h hz) (fun _ => ?_)
    refine lv_iconst (v := nI 1) hx hb d_Lw_law_451 (by decide) ?_
    refine lv_goto hx hb d_Lw_law_452 rfl ?_
    refine lv_aload_n hx hb d_Lw_law_456 rfl (lv_at hl 1 rfl) ?_
    refine lv_iload hx hb d_Lw_law_457 (lv_at hl 0 rfl) ?_
    refine lv_iconst (v := nI 2) hx hb d_Lw_law_459 (by decide) ?_
    refine wi_add hx hb d_Lw_law_460 ?_
    refine va_sld hx hb hX hbl (Nat.not_le.mpr hbl) hS (vp_in_nI (by omega) (by omega)) d_Lw_law_461 ?_
    rw [nI_clamp (by omega)]
    refine lv_aload_n hx hb d_Lw_law_462 rfl (lv_at hl 4 rfl) ?_
    refine cwa_i (wc := (o, .inl (cL, 1, .inr (.inl fo))) :: wp) (wr := wm) (xk_runSW (n := 4) (As := [.ref h1, .int (nI 1), .int (xs (3 * T + 2)), .ref o]) (rest := []) ⟨hx, hb, hml, hown, ht⟩ (h_cycle1 l hfl s.heap D cI cZ cL hi hpw H.size) ht wd_835 wd_0 wd_833 wd_834 (by decide +kernel) ⟨Nat.le_of_ble_eq_true rfl, Nat.le_of_ble_eq_true rfl⟩ (k_preS hE (fun _ h => h) hK hP hD hS (List.range ((o, .inl (cL, 1, .inr (.inl fo))) :: wp).length) (rg_C ((o, .inl (cL, 1, .inr (.inl fo))) :: wp) _) (rg_n1 _)) rfl rfl hl.1 rfl (lv_room (Nat.le_of_ble_eq_true rfl)) d_Lw_law_463 ⟨(by show cells + 10 ≤ 104668; omega), (by show slots + 8000 ≤ 8782102; omega)⟩) hP hD hS (fun _ h => h) (fun r w1 H locs hpost hlen hP hD hS => ?_)
    obtain ⟨kd, v, fo9, wp9, hrel, hkd, rfl, hv, hpw9, rfl⟩ := hpost
    refine lv_istore (lv' := [(5, .int (nI kd)), (4, .int (nI (3 * T))), (0, .ref b), (1, .ref h1), (2, .ref h2), (3, .ref o)]) hx hb d_Lw_law_466 hl (by decide) rfl (fun ls hl => ?_)
    refine lv_aload_n hx hb d_Lw_law_468 rfl (lv_at hl 4 rfl) ?_
    refine lv_aload_n hx hb d_Lw_law_469 rfl (lv_at hl 2 rfl) ?_
    refine lv_iload hx hb d_Lw_law_470 (lv_at hl 1 rfl) ?_
    refine lv_iconst (v := nI 1) hx hb d_Lw_law_472 (by decide) ?_
    refine wi_add hx hb d_Lw_law_473 ?_
    refine va_sld hx hb hX hbl (Nat.not_le.mpr hbl) hS (vp_in_nI (by omega) (by omega)) d_Lw_law_474 ?_
    rw [nI_clamp (by omega)]
    refine lv_if_eq hx hb d_Lw_law_475 rfl (fun h => absurd h hz) (fun _ => ?_)
    refine lv_iconst (v := nI 1) hx hb d_Lw_law_478 (by decide) ?_
    refine lv_goto hx hb d_Lw_law_479 rfl ?_
    refine lv_aload_n hx hb d_Lw_law_483 rfl (lv_at hl 2 rfl) ?_
    refine lv_iload hx hb d_Lw_law_484 (lv_at hl 1 rfl) ?_
    refine lv_iconst (v := nI 2) hx hb d_Lw_law_486 (by decide) ?_
    refine wi_add hx hb d_Lw_law_487 ?_
    refine va_sld hx hb hX hbl (Nat.not_le.mpr hbl) hS (vp_in_nI (by omega) (by omega)) d_Lw_law_488 ?_
    rw [nI_clamp (by omega)]
    obtain ⟨fs489, tl489, hm489⟩ := MW_hd hmw
    have he : ((wm) ++ ((o, .inl (cL, 1, .inr (.inl fo9))) :: wp9))[0]? = some (h2, .inr (5, fs489)) := by rw [hm489]; rfl
    refine cwa_i (wc := wm) (wr := (o, .inl (cL, 1, .inr (.inl fo9))) :: wp9) (va_runV (As := [.int (nI 1), .int (xs (3 * T + 2))]) (rest := []) (C := R_Md) ⟨hx, hb, hml, hown, ht⟩ (k_Md_cycle1 l s.heap D cI cZ cL hi hmw hrel H.size) (gw_V 2 ht wd_1081 wd_5 wd_1078 wd_1079 wd_1080 (by decide +kernel) ⟨Nat.le_of_ble_eq_true rfl, Nat.le_of_ble_eq_true rfl⟩) (k_preV hE (fun _ h => h) hK hP hD hS (List.range (wm).length) (rg_C (wm) _) (rg_n1 _) 0 he rfl) rfl rfl hl.1 rfl (lv_room (Nat.le_of_ble_eq_true rfl)) d_Lw_law_489 ⟨(by show cells + 10 + 0 ≤ 104668; omega), (by show slots + 8000 + 0 ≤ 8782102; omega)⟩) hP hD hS (fun _ h => h) (fun r2 wm9 H locs hpost hlen2 hP hD hS => ?_)
    obtain ⟨hr2, hmw9⟩ := hpost
    refine lv_istore (lv' := [(6, .int r2), (5, .int (nI kd)), (4, .int (nI (3 * T))), (0, .ref b), (1, .ref h1), (2, .ref h2), (3, .ref o)]) hx hb d_Lw_law_492 hl (by decide) rfl (fun ls hl => ?_)
    refine lv_aload_n hx hb d_Lw_law_494 rfl (lv_at hl 5 rfl) ?_
    have hP := va_P.rot (a := ((o, .inl (cL, 1, .inr (.inl fo9))) :: wp9)) (b := wm9) hP
    have hD := va_D.rot (a := ((o, .inl (cL, 1, .inr (.inl fo9))) :: wp9)) (b := wm9) hD
    obtain ⟨fs495, tl495, hm495⟩ := MW_hd hmw9
    have he : ((wm9) ++ ((o, .inl (cL, 1, .inr (.inl fo9))) :: wp9))[0]? = some (h2, .inr (5, fs495)) := by rw [hm495]; rfl
    refine cwa_i (wc := wm9) (wr := (o, .inl (cL, 1, .inr (.inl fo9))) :: wp9) (va_runV (As := []) (rest := []) (C := R_Md) ⟨hx, hb, hml, hown, ht⟩ (k_Md_thrown l s.heap D cI cZ cL hi hmw9 H.size) (gw_V 0 ht wd_975 wd_5 wd_972 wd_973 wd_974 (by decide +kernel) ⟨Nat.le_of_ble_eq_true rfl, Nat.le_of_ble_eq_true rfl⟩) (k_preV hE (fun _ h => h) hK hP hD hS (List.range (wm9).length) (rg_C (wm9) _) (rg_n1 _) 0 he rfl) rfl rfl hl.1 rfl (lv_room (Nat.le_of_ble_eq_true rfl)) d_Lw_law_495 ⟨(by show cells + 10 + 0 + 0 ≤ 104668; omega), (by show slots + 8000 + 0 + 0 ≤ 8782102; omega)⟩) hP hD hS (fun _ h => h) (fun r3 wm8 H locs hpost hlen3 hP hD hS => ?_)
    obtain ⟨rfl, hmw8⟩ := hpost
    refine lv_iload hx hb d_Lw_law_498 (lv_at hl 1 rfl) ?_
    refine lv_icmp_eq hx hb d_Lw_law_500 rfl (fun _ => ?_) (fun h => absurd rfl h)
    refine lv_iload hx hb d_Lw_law_505 (lv_at hl 1 rfl) ?_
    refine wi_if_ne hx hb d_Lw_law_507 rfl (by omega) (fun hk0 => ?_) (fun hk0 => ?_)
    · skip
      refine lv_goto hx hb d_Lw_law_522 rfl ?_
      exact nx S kd fo9 wp9 wm8 H locs _ _ ls (hi.mono (Nat.le_succ T)) hpw9 hmw8 hP hD hS (lv_sub hl [2, 3, 4, 5, 6] rfl) (by show cells + 10 + 0 + 0 ≤ 32 + 10 * (T + 1); omega) (by show slots + 8000 + 0 + 0 ≤ 6508 + 8000 * (T + 1); omega)
    · skip
      refine lv_aload_n hx hb d_Lw_law_510 rfl (lv_at hl 6 rfl) ?_
      refine lv_iconst (v := nI 0) hx hb d_Lw_law_511 (by decide) ?_
      refine va_lald hx hb hK hP 0 2 rfl rfl (vp_in_nI (by decide) (by decide)) d_Lw_law_512 ?_
      refine lv_iload hx hb d_Lw_law_513 (lv_at hl 0 rfl) ?_
      refine lv_i2l (v := r2.toInt64) hx hb d_Lw_law_515 rfl ?_
      refine W.lcmp hx hb d_Lw_law_516 ?_
      have heq : fo9 0 = r2.toInt64 := by rw [hr2 hk0]; exact hv hk0
      refine lv_if_eq hx hb d_Lw_law_517 rfl (fun _ => ?_) (fun h => absurd (lg_eq0.mpr heq) h)
      refine lv_goto hx hb d_Lw_law_522 rfl ?_
      exact nx S kd fo9 wp9 wm8 H locs _ _ ls (hi.mono (Nat.le_succ T)) hpw9 hmw8 hP hD hS (lv_sub hl [2, 3, 4, 5, 6] rfl) (by show cells + 10 + 0 + 0 ≤ 32 + 10 * (T + 1); omega) (by show slots + 8000 + 0 + 0 ≤ 6508 + 8000 * (T + 1); omega)
set_option maxHeartbeats 4000000 in
set_option maxRecDepth 100000 in
theorem arm_8 {p : Program} {l : Launch} {e : Env} {s : State} {m : MethodId} {below : List Frame} {meth : Method} {c : Code} {b L : Nat} {xs : Nat → Int32} {D : va_G} {cI cZ cL : ClassId} {h1 h2 o T th : Nat} {S : Nat → Nat → Nat} {fo : Nat → Int64} {wp wm : va_W} {H : Heap} {locs : List Loc} {cells slots : Nat} {ls : Array Slot} (hfl : l.flags = flags0) (hx : p.tables.exec = Jvm.exec) (hb : c.code = b_Lw_law) (hml : c.maxLocals = 8) (hown : s.vm.findClass R_law = some m.cls) (ht : ∀ w ∈ mw, w.before #[Value.ref b] s = true) (hX : va_X b L xs s s.heap) (hbl : b < s.heap.size) (hK : va_K D kcl (ty3 cI cZ cL) s) (hE : gE s.heap s) (hL : L ≤ 1536) (h3 : 3 * T + 3 ≤ L) (hi : iS T S) (hpw : PW cI S h1 wp) (hmw : MW cI cZ S h2 th wm) (hP : va_P D kcl (((o, .inl (cL, 1, .inr (.inl fo))) :: wp) ++ wm) H) (hD : va_D (aL s) (((o, .inl (cL, 1, .inr (.inl fo))) :: wp) ++ wm)) (hS : va_S (aL s) s.heap H locs) (hl : lv_has ls 8 [(4, .int (nI (3 * T))), (0, .ref b), (1, .ref h1), (2, .ref h2), (3, .ref o)]) (hc : cells ≤ 32 + 10 * T) (hs : slots ≤ 6508 + 8000 * T) (nx : lw_nx p l e s m below meth c b D cI cZ cL h1 h2 o T) : W p l e room_1 s m #[Value.ref b] below meth c H locs cells slots (lw_Z below #[Value.ref b] s) (F0 m 525 ls []) := by
  refine lv_aload_n hx hb d_Lw_law_525 rfl (lv_at hl 2 rfl) ?_
  refine lv_aload_n hx hb d_Lw_law_526 rfl (lv_at hl 1 rfl) ?_
  refine lv_iload hx hb d_Lw_law_527 (lv_at hl 0 rfl) ?_
  refine lv_iconst (v := nI 1) hx hb d_Lw_law_529 (by decide) ?_
  refine wi_add hx hb d_Lw_law_530 ?_
  refine va_sld hx hb hX hbl (Nat.not_le.mpr hbl) hS (vp_in_nI (by omega) (by omega)) d_Lw_law_531 ?_
  rw [nI_clamp (by omega)]
  refine lv_aload_n hx hb d_Lw_law_532 rfl (lv_at hl 4 rfl) ?_
  refine cwa_i (wc := (o, .inl (cL, 1, .inr (.inl fo))) :: wp) (wr := wm) (xk_runSW (n := 3) (As := [.ref h1, .int (xs (3 * T + 1)), .ref o]) (rest := []) ⟨hx, hb, hml, hown, ht⟩ (h_about l hfl s.heap D cI cZ cL hi hpw H.size) ht wd_862 wd_0 wd_860 wd_861 (by decide +kernel) ⟨Nat.le_of_ble_eq_true rfl, Nat.le_of_ble_eq_true rfl⟩ (k_preS hE (fun _ h => h) hK hP hD hS (List.range ((o, .inl (cL, 1, .inr (.inl fo))) :: wp).length) (rg_C ((o, .inl (cL, 1, .inr (.inl fo))) :: wp) _) (rg_n1 _)) rfl rfl hl.1 rfl (lv_room (Nat.le_of_ble_eq_true rfl)) d_Lw_law_533 ⟨(by show cells + 10 ≤ 104668; omega), (by show slots + 8000 ≤ 8782102; omega)⟩) hP hD hS (fun _ h => h) (fun r w1 H locs hpost hlen hP hD hS => ?_)
  obtain ⟨kd, v, fo9, wp9, hrel, hkd, rfl, hv, hpw9, rfl⟩ := hpost
  refine lv_istore (lv' := [(5, .int (nI kd)), (4, .int (nI (3 * T))), (0, .ref b), (1, .ref h1), (2, .ref h2), (3, .ref o)]) hx hb d_Lw_law_536 hl (by decide) rfl (fun ls hl => ?_)
  refine lv_aload_n hx hb d_Lw_law_538 rfl (lv_at hl 4 rfl) ?_
  refine lv_aload_n hx hb d_Lw_law_539 rfl (lv_at hl 2 rfl) ?_
  refine lv_iload hx hb d_Lw_law_540 (lv_at hl 1 rfl) ?_
  refine lv_iconst (v := nI 1) hx hb d_Lw_law_542 (by decide) ?_
  refine wi_add hx hb d_Lw_law_543 ?_
  refine va_sld hx hb hX hbl (Nat.not_le.mpr hbl) hS (vp_in_nI (by omega) (by omega)) d_Lw_law_544 ?_
  rw [nI_clamp (by omega)]
  obtain ⟨fs545, tl545, hm545⟩ := MW_hd hmw
  have he : ((wm) ++ ((o, .inl (cL, 1, .inr (.inl fo9))) :: wp9))[0]? = some (h2, .inr (5, fs545)) := by rw [hm545]; rfl
  refine cwa_i (wc := wm) (wr := (o, .inl (cL, 1, .inr (.inl fo9))) :: wp9) (va_runV (As := [.int (xs (3 * T + 1))]) (rest := []) (C := R_Md) ⟨hx, hb, hml, hown, ht⟩ (k_Md_about l s.heap D cI cZ cL hi hmw hrel H.size) (gw_V 1 ht wd_1085 wd_5 wd_1082 wd_1083 wd_1084 (by decide +kernel) ⟨Nat.le_of_ble_eq_true rfl, Nat.le_of_ble_eq_true rfl⟩) (k_preV hE (fun _ h => h) hK hP hD hS (List.range (wm).length) (rg_C (wm) _) (rg_n1 _) 0 he rfl) rfl rfl hl.1 rfl (lv_room (Nat.le_of_ble_eq_true rfl)) d_Lw_law_545 ⟨(by show cells + 10 + 0 ≤ 104668; omega), (by show slots + 8000 + 0 ≤ 8782102; omega)⟩) hP hD hS (fun _ h => h) (fun r2 wm9 H locs hpost hlen2 hP hD hS => ?_)
  obtain ⟨hr2, hmw9⟩ := hpost
  refine lv_istore (lv' := [(6, .int r2), (5, .int (nI kd)), (4, .int (nI (3 * T))), (0, .ref b), (1, .ref h1), (2, .ref h2), (3, .ref o)]) hx hb d_Lw_law_548 hl (by decide) rfl (fun ls hl => ?_)
  refine lv_aload_n hx hb d_Lw_law_550 rfl (lv_at hl 5 rfl) ?_
  have hP := va_P.rot (a := ((o, .inl (cL, 1, .inr (.inl fo9))) :: wp9)) (b := wm9) hP
  have hD := va_D.rot (a := ((o, .inl (cL, 1, .inr (.inl fo9))) :: wp9)) (b := wm9) hD
  obtain ⟨fs551, tl551, hm551⟩ := MW_hd hmw9
  have he : ((wm9) ++ ((o, .inl (cL, 1, .inr (.inl fo9))) :: wp9))[0]? = some (h2, .inr (5, fs551)) := by rw [hm551]; rfl
  refine cwa_i (wc := wm9) (wr := (o, .inl (cL, 1, .inr (.inl fo9))) :: wp9) (va_runV (As := []) (rest := []) (C := R_Md) ⟨hx, hb, hml, hown, ht⟩ (k_Md_thrown l s.heap D cI cZ cL hi hmw9 H.size) (gw_V 0 ht wd_975 wd_5 wd_972 wd_973 wd_974 (by decide +kernel) ⟨Nat.le_of_ble_eq_true rfl, Nat.le_of_ble_eq_true rfl⟩) (k_preV hE (fun _ h => h) hK hP hD hS (List.range (wm9).length) (rg_C (wm9) _) (rg_n1 _) 0 he rfl) rfl rfl hl.1 rfl (lv_room (Nat.le_of_ble_eq_true rfl)) d_Lw_law_551 ⟨(by show cells + 10 + 0 + 0 ≤ 104668; omega), (by show slots + 8000 + 0 + 0 ≤ 8782102; omega)⟩) hP hD hS (fun _ h => h) (fun r3 wm8 H locs hpost hlen3 hP hD hS => ?_)
  obtain ⟨rfl, hmw8⟩ := hpost
  refine lv_iload hx hb d_Lw_law_554 (lv_at hl 1 rfl) ?_
  refine lv_icmp_eq hx hb d_Lw_law_556 rfl (fun _ => ?_) (fun h => absurd rfl h)
  refine lv_iload hx hb d_Lw_law_561 (lv_at hl 1 rfl) ?_
  refine wi_if_ne hx hb d_Lw_law_563 rfl (by omega) (fun hk0 => ?_) (fun hk0 => ?_)
  · skip
    refine lv_goto hx hb d_Lw_law_578 rfl ?_
    exact nx S kd fo9 wp9 wm8 H locs _ _ ls (hi.mono (Nat.le_succ T)) hpw9 hmw8 hP hD hS (lv_sub hl [2, 3, 4, 5, 6] rfl) (by show cells + 10 + 0 + 0 ≤ 32 + 10 * (T + 1); omega) (by show slots + 8000 + 0 + 0 ≤ 6508 + 8000 * (T + 1); omega)
  · skip
    refine lv_aload_n hx hb d_Lw_law_566 rfl (lv_at hl 6 rfl) ?_
    refine lv_iconst (v := nI 0) hx hb d_Lw_law_567 (by decide) ?_
    refine va_lald hx hb hK hP 0 2 rfl rfl (vp_in_nI (by decide) (by decide)) d_Lw_law_568 ?_
    refine lv_iload hx hb d_Lw_law_569 (lv_at hl 0 rfl) ?_
    refine lv_i2l (v := r2.toInt64) hx hb d_Lw_law_571 rfl ?_
    refine W.lcmp hx hb d_Lw_law_572 ?_
    have heq : fo9 0 = r2.toInt64 := by rw [hr2 hk0]; exact hv hk0
    refine lv_if_eq hx hb d_Lw_law_573 rfl (fun _ => ?_) (fun h => absurd (lg_eq0.mpr heq) h)
    refine lv_goto hx hb d_Lw_law_578 rfl ?_
    exact nx S kd fo9 wp9 wm8 H locs _ _ ls (hi.mono (Nat.le_succ T)) hpw9 hmw8 hP hD hS (lv_sub hl [2, 3, 4, 5, 6] rfl) (by show cells + 10 + 0 + 0 ≤ 32 + 10 * (T + 1); omega) (by show slots + 8000 + 0 + 0 ≤ 6508 + 8000 * (T + 1); omega)
set_option maxHeartbeats 4000000 in
set_option maxRecDepth 100000 in
theorem arm_9 {p : Program} {l : Launch} {e : Env} {s : State} {m : MethodId} {below : List Frame} {meth : Method} {c : Code} {b L : Nat} {xs : Nat → Int32} {D : va_G} {cI cZ cL : ClassId} {h1 h2 o T th : Nat} {S : Nat → Nat → Nat} {fo : Nat → Int64} {wp wm : va_W} {H : Heap} {locs : List Loc} {cells slots : Nat} {ls : Array Slot} (hfl : l.flags = flags0) (hx : p.tables.exec = Jvm.exec) (hb : c.code = b_Lw_law) (hml : c.maxLocals = 8) (hown : s.vm.findClass R_law = some m.cls) (ht : ∀ w ∈ mw, w.before #[Value.ref b] s = true) (hX : va_X b L xs s s.heap) (hbl : b < s.heap.size) (hK : va_K D kcl (ty3 cI cZ cL) s) (hE : gE s.heap s) (hL : L ≤ 1536) (h3 : 3 * T + 3 ≤ L) (hi : iS T S) (hpw : PW cI S h1 wp) (hmw : MW cI cZ S h2 th wm) (hP : va_P D kcl (((o, .inl (cL, 1, .inr (.inl fo))) :: wp) ++ wm) H) (hD : va_D (aL s) (((o, .inl (cL, 1, .inr (.inl fo))) :: wp) ++ wm)) (hS : va_S (aL s) s.heap H locs) (hl : lv_has ls 8 [(4, .int (nI (3 * T))), (0, .ref b), (1, .ref h1), (2, .ref h2), (3, .ref o)]) (hc : cells ≤ 32 + 10 * T) (hs : slots ≤ 6508 + 8000 * T) (nx : lw_nx p l e s m below meth c b D cI cZ cL h1 h2 o T) : W p l e room_1 s m #[Value.ref b] below meth c H locs cells slots (lw_Z below #[Value.ref b] s) (F0 m 581 ls []) := by
  refine lv_aload_n hx hb d_Lw_law_581 rfl (lv_at hl 2 rfl) ?_
  refine lv_aload_n hx hb d_Lw_law_582 rfl (lv_at hl 1 rfl) ?_
  refine lv_iload hx hb d_Lw_law_583 (lv_at hl 0 rfl) ?_
  refine lv_iconst (v := nI 1) hx hb d_Lw_law_585 (by decide) ?_
  refine wi_add hx hb d_Lw_law_586 ?_
  refine va_sld hx hb hX hbl (Nat.not_le.mpr hbl) hS (vp_in_nI (by omega) (by omega)) d_Lw_law_587 ?_
  rw [nI_clamp (by omega)]
  refine lv_aload_n hx hb d_Lw_law_588 rfl (lv_at hl 4 rfl) ?_
  refine cwa_i (wc := (o, .inl (cL, 1, .inr (.inl fo))) :: wp) (wr := wm) (xk_runSW (n := 3) (As := [.ref h1, .int (xs (3 * T + 1)), .ref o]) (rest := []) ⟨hx, hb, hml, hown, ht⟩ (h_client l hfl s.heap D cI cZ cL hi hpw H.size) ht wd_873 wd_0 wd_871 wd_872 (by decide +kernel) ⟨Nat.le_of_ble_eq_true rfl, Nat.le_of_ble_eq_true rfl⟩ (k_preS hE (fun _ h => h) hK hP hD hS (List.range ((o, .inl (cL, 1, .inr (.inl fo))) :: wp).length) (rg_C ((o, .inl (cL, 1, .inr (.inl fo))) :: wp) _) (rg_n1 _)) rfl rfl hl.1 rfl (lv_room (Nat.le_of_ble_eq_true rfl)) d_Lw_law_589 ⟨(by show cells + 10 ≤ 104668; omega), (by show slots + 8000 ≤ 8782102; omega)⟩) hP hD hS (fun _ h => h) (fun r w1 H locs hpost hlen hP hD hS => ?_)
  obtain ⟨kd, v, fo9, wp9, hrel, hkd, rfl, hv, hpw9, rfl⟩ := hpost
  refine lv_istore (lv' := [(5, .int (nI kd)), (4, .int (nI (3 * T))), (0, .ref b), (1, .ref h1), (2, .ref h2), (3, .ref o)]) hx hb d_Lw_law_592 hl (by decide) rfl (fun ls hl => ?_)
  refine lv_aload_n hx hb d_Lw_law_594 rfl (lv_at hl 4 rfl) ?_
  refine lv_aload_n hx hb d_Lw_law_595 rfl (lv_at hl 2 rfl) ?_
  refine lv_iload hx hb d_Lw_law_596 (lv_at hl 1 rfl) ?_
  refine lv_iconst (v := nI 1) hx hb d_Lw_law_598 (by decide) ?_
  refine wi_add hx hb d_Lw_law_599 ?_
  refine va_sld hx hb hX hbl (Nat.not_le.mpr hbl) hS (vp_in_nI (by omega) (by omega)) d_Lw_law_600 ?_
  rw [nI_clamp (by omega)]
  obtain ⟨fs601, tl601, hm601⟩ := MW_hd hmw
  have he : ((wm) ++ ((o, .inl (cL, 1, .inr (.inl fo9))) :: wp9))[0]? = some (h2, .inr (5, fs601)) := by rw [hm601]; rfl
  refine cwa_i (wc := wm) (wr := (o, .inl (cL, 1, .inr (.inl fo9))) :: wp9) (va_runV (As := [.int (xs (3 * T + 1))]) (rest := []) (C := R_Md) ⟨hx, hb, hml, hown, ht⟩ (k_Md_client l s.heap D cI cZ cL hi hmw hrel H.size) (gw_V 1 ht wd_1089 wd_5 wd_1086 wd_1087 wd_1088 (by decide +kernel) ⟨Nat.le_of_ble_eq_true rfl, Nat.le_of_ble_eq_true rfl⟩) (k_preV hE (fun _ h => h) hK hP hD hS (List.range (wm).length) (rg_C (wm) _) (rg_n1 _) 0 he rfl) rfl rfl hl.1 rfl (lv_room (Nat.le_of_ble_eq_true rfl)) d_Lw_law_601 ⟨(by show cells + 10 + 0 ≤ 104668; omega), (by show slots + 8000 + 0 ≤ 8782102; omega)⟩) hP hD hS (fun _ h => h) (fun r2 wm9 H locs hpost hlen2 hP hD hS => ?_)
  obtain ⟨hr2, hmw9⟩ := hpost
  refine lv_istore (lv' := [(6, .int r2), (5, .int (nI kd)), (4, .int (nI (3 * T))), (0, .ref b), (1, .ref h1), (2, .ref h2), (3, .ref o)]) hx hb d_Lw_law_604 hl (by decide) rfl (fun ls hl => ?_)
  refine lv_aload_n hx hb d_Lw_law_606 rfl (lv_at hl 5 rfl) ?_
  have hP := va_P.rot (a := ((o, .inl (cL, 1, .inr (.inl fo9))) :: wp9)) (b := wm9) hP
  have hD := va_D.rot (a := ((o, .inl (cL, 1, .inr (.inl fo9))) :: wp9)) (b := wm9) hD
  obtain ⟨fs607, tl607, hm607⟩ := MW_hd hmw9
  have he : ((wm9) ++ ((o, .inl (cL, 1, .inr (.inl fo9))) :: wp9))[0]? = some (h2, .inr (5, fs607)) := by rw [hm607]; rfl
  refine cwa_i (wc := wm9) (wr := (o, .inl (cL, 1, .inr (.inl fo9))) :: wp9) (va_runV (As := []) (rest := []) (C := R_Md) ⟨hx, hb, hml, hown, ht⟩ (k_Md_thrown l s.heap D cI cZ cL hi hmw9 H.size) (gw_V 0 ht wd_975 wd_5 wd_972 wd_973 wd_974 (by decide +kernel) ⟨Nat.le_of_ble_eq_true rfl, Nat.le_of_ble_eq_true rfl⟩) (k_preV hE (fun _ h => h) hK hP hD hS (List.range (wm9).length) (rg_C (wm9) _) (rg_n1 _) 0 he rfl) rfl rfl hl.1 rfl (lv_room (Nat.le_of_ble_eq_true rfl)) d_Lw_law_607 ⟨(by show cells + 10 + 0 + 0 ≤ 104668; omega), (by show slots + 8000 + 0 + 0 ≤ 8782102; omega)⟩) hP hD hS (fun _ h => h) (fun r3 wm8 H locs hpost hlen3 hP hD hS => ?_)
  obtain ⟨rfl, hmw8⟩ := hpost
  refine lv_iload hx hb d_Lw_law_610 (lv_at hl 1 rfl) ?_
  refine lv_icmp_eq hx hb d_Lw_law_612 rfl (fun _ => ?_) (fun h => absurd rfl h)
  refine lv_iload hx hb d_Lw_law_617 (lv_at hl 1 rfl) ?_
  refine wi_if_ne hx hb d_Lw_law_619 rfl (by omega) (fun hk0 => ?_) (fun hk0 => ?_)
  · skip
    refine lv_goto hx hb d_Lw_law_634 rfl ?_
    exact nx S kd fo9 wp9 wm8 H locs _ _ ls (hi.mono (Nat.le_succ T)) hpw9 hmw8 hP hD hS (lv_sub hl [2, 3, 4, 5, 6] rfl) (by show cells + 10 + 0 + 0 ≤ 32 + 10 * (T + 1); omega) (by show slots + 8000 + 0 + 0 ≤ 6508 + 8000 * (T + 1); omega)
  · skip
    refine lv_aload_n hx hb d_Lw_law_622 rfl (lv_at hl 6 rfl) ?_
    refine lv_iconst (v := nI 0) hx hb d_Lw_law_623 (by decide) ?_
    refine va_lald hx hb hK hP 0 2 rfl rfl (vp_in_nI (by decide) (by decide)) d_Lw_law_624 ?_
    refine lv_iload hx hb d_Lw_law_625 (lv_at hl 0 rfl) ?_
    refine lv_i2l (v := r2.toInt64) hx hb d_Lw_law_627 rfl ?_
    refine W.lcmp hx hb d_Lw_law_628 ?_
    have heq : fo9 0 = r2.toInt64 := by rw [hr2 hk0]; exact hv hk0
    refine lv_if_eq hx hb d_Lw_law_629 rfl (fun _ => ?_) (fun h => absurd (lg_eq0.mpr heq) h)
    refine lv_goto hx hb d_Lw_law_634 rfl ?_
    exact nx S kd fo9 wp9 wm8 H locs _ _ ls (hi.mono (Nat.le_succ T)) hpw9 hmw8 hP hD hS (lv_sub hl [2, 3, 4, 5, 6] rfl) (by show cells + 10 + 0 + 0 ≤ 32 + 10 * (T + 1); omega) (by show slots + 8000 + 0 + 0 ≤ 6508 + 8000 * (T + 1); omega)
set_option maxHeartbeats 4000000 in
set_option maxRecDepth 100000 in
theorem arm_10 {p : Program} {l : Launch} {e : Env} {s : State} {m : MethodId} {below : List Frame} {meth : Method} {c : Code} {b L : Nat} {xs : Nat → Int32} {D : va_G} {cI cZ cL : ClassId} {h1 h2 o T th : Nat} {S : Nat → Nat → Nat} {fo : Nat → Int64} {wp wm : va_W} {H : Heap} {locs : List Loc} {cells slots : Nat} {ls : Array Slot} (hfl : l.flags = flags0) (hx : p.tables.exec = Jvm.exec) (hb : c.code = b_Lw_law) (hml : c.maxLocals = 8) (hown : s.vm.findClass R_law = some m.cls) (ht : ∀ w ∈ mw, w.before #[Value.ref b] s = true) (hX : va_X b L xs s s.heap) (hbl : b < s.heap.size) (hK : va_K D kcl (ty3 cI cZ cL) s) (hE : gE s.heap s) (hL : L ≤ 1536) (h3 : 3 * T + 3 ≤ L) (hi : iS T S) (hpw : PW cI S h1 wp) (hmw : MW cI cZ S h2 th wm) (hP : va_P D kcl (((o, .inl (cL, 1, .inr (.inl fo))) :: wp) ++ wm) H) (hD : va_D (aL s) (((o, .inl (cL, 1, .inr (.inl fo))) :: wp) ++ wm)) (hS : va_S (aL s) s.heap H locs) (hl : lv_has ls 8 [(4, .int (nI (3 * T))), (0, .ref b), (1, .ref h1), (2, .ref h2), (3, .ref o)]) (hc : cells ≤ 32 + 10 * T) (hs : slots ≤ 6508 + 8000 * T) (nx : lw_nx p l e s m below meth c b D cI cZ cL h1 h2 o T) : W p l e room_1 s m #[Value.ref b] below meth c H locs cells slots (lw_Z below #[Value.ref b] s) (F0 m 637 ls []) := by
  refine lv_aload_n hx hb d_Lw_law_637 rfl (lv_at hl 2 rfl) ?_
  refine lv_aload_n hx hb d_Lw_law_638 rfl (lv_at hl 1 rfl) ?_
  refine lv_iload hx hb d_Lw_law_639 (lv_at hl 0 rfl) ?_
  refine lv_iconst (v := nI 1) hx hb d_Lw_law_641 (by decide) ?_
  refine wi_add hx hb d_Lw_law_642 ?_
  refine va_sld hx hb hX hbl (Nat.not_le.mpr hbl) hS (vp_in_nI (by omega) (by omega)) d_Lw_law_643 ?_
  rw [nI_clamp (by omega)]
  refine lv_aload_n hx hb d_Lw_law_644 rfl (lv_at hl 4 rfl) ?_
  refine cwa_i (wc := (o, .inl (cL, 1, .inr (.inl fo))) :: wp) (wr := wm) (xk_runSW (n := 3) (As := [.ref h1, .int (xs (3 * T + 1)), .ref o]) (rest := []) ⟨hx, hb, hml, hown, ht⟩ (h_density l hfl s.heap D cI cZ cL hi hpw H.size) ht wd_881 wd_0 wd_879 wd_880 (by decide +kernel) ⟨Nat.le_of_ble_eq_true rfl, Nat.le_of_ble_eq_true rfl⟩ (k_preS hE (fun _ h => h) hK hP hD hS (List.range ((o, .inl (cL, 1, .inr (.inl fo))) :: wp).length) (rg_C ((o, .inl (cL, 1, .inr (.inl fo))) :: wp) _) (rg_n1 _)) rfl rfl hl.1 rfl (lv_room (Nat.le_of_ble_eq_true rfl)) d_Lw_law_645 ⟨(by show cells + 10 ≤ 104668; omega), (by show slots + 8000 ≤ 8782102; omega)⟩) hP hD hS (fun _ h => h) (fun r w1 H locs hpost hlen hP hD hS => ?_)
  obtain ⟨kd, v, fo9, wp9, hrel, hkd, rfl, hv, hpw9, rfl⟩ := hpost
  refine lv_istore (lv' := [(5, .int (nI kd)), (4, .int (nI (3 * T))), (0, .ref b), (1, .ref h1), (2, .ref h2), (3, .ref o)]) hx hb d_Lw_law_648 hl (by decide) rfl (fun ls hl => ?_)
  refine lv_aload_n hx hb d_Lw_law_650 rfl (lv_at hl 4 rfl) ?_
  refine lv_aload_n hx hb d_Lw_law_651 rfl (lv_at hl 2 rfl) ?_
  refine lv_iload hx hb d_Lw_law_652 (lv_at hl 1 rfl) ?_
  refine lv_iconst (v := nI 1) hx hb d_Lw_law_654 (by decide) ?_
  refine wi_add hx hb d_Lw_law_655 ?_
  refine va_sld hx hb hX hbl (Nat.not_le.mpr hbl) hS (vp_in_nI (by omega) (by omega)) d_Lw_law_656 ?_
  rw [nI_clamp (by omega)]
  obtain ⟨fs657, tl657, hm657⟩ := MW_hd hmw
  have he : ((wm) ++ ((o, .inl (cL, 1, .inr (.inl fo9))) :: wp9))[0]? = some (h2, .inr (5, fs657)) := by rw [hm657]; rfl
  refine cwa_l (wc := wm) (wr := (o, .inl (cL, 1, .inr (.inl fo9))) :: wp9) (va_runV (As := [.int (xs (3 * T + 1))]) (rest := []) (C := R_Md) ⟨hx, hb, hml, hown, ht⟩ (k_Md_density l s.heap D cI cZ cL hi hmw hrel H.size) (gw_V 1 ht wd_1093 wd_5 wd_1090 wd_1091 wd_1092 (by decide +kernel) ⟨Nat.le_of_ble_eq_true rfl, Nat.le_of_ble_eq_true rfl⟩) (k_preV hE (fun _ h => h) hK hP hD hS (List.range (wm).length) (rg_C (wm) _) (rg_n1 _) 0 he rfl) rfl rfl hl.1 rfl (lv_room (Nat.le_of_ble_eq_true rfl)) d_Lw_law_657 ⟨(by show cells + 10 + 0 ≤ 104668; omega), (by show slots + 8000 + 0 ≤ 8782102; omega)⟩) hP hD hS (fun _ h => h) (fun r2 wm9 H locs hpost hlen2 hP hD hS => ?_)
  obtain ⟨hr2, hmw9⟩ := hpost
  refine lv_lstore (lv' := [(6, .long r2), (5, .int (nI kd)), (4, .int (nI (3 * T))), (0, .ref b), (1, .ref h1), (2, .ref h2), (3, .ref o)]) hx hb d_Lw_law_660 hl (by decide) rfl (fun ls hl => ?_)
  refine lv_aload_n hx hb d_Lw_law_662 rfl (lv_at hl 5 rfl) ?_
  have hP := va_P.rot (a := ((o, .inl (cL, 1, .inr (.inl fo9))) :: wp9)) (b := wm9) hP
  have hD := va_D.rot (a := ((o, .inl (cL, 1, .inr (.inl fo9))) :: wp9)) (b := wm9) hD
  obtain ⟨fs663, tl663, hm663⟩ := MW_hd hmw9
  have he : ((wm9) ++ ((o, .inl (cL, 1, .inr (.inl fo9))) :: wp9))[0]? = some (h2, .inr (5, fs663)) := by rw [hm663]; rfl
  refine cwa_i (wc := wm9) (wr := (o, .inl (cL, 1, .inr (.inl fo9))) :: wp9) (va_runV (As := []) (rest := []) (C := R_Md) ⟨hx, hb, hml, hown, ht⟩ (k_Md_thrown l s.heap D cI cZ cL hi hmw9 H.size) (gw_V 0 ht wd_975 wd_5 wd_972 wd_973 wd_974 (by decide +kernel) ⟨Nat.le_of_ble_eq_true rfl, Nat.le_of_ble_eq_true rfl⟩) (k_preV hE (fun _ h => h) hK hP hD hS (List.range (wm9).length) (rg_C (wm9) _) (rg_n1 _) 0 he rfl) rfl rfl hl.1 rfl (lv_room (Nat.le_of_ble_eq_true rfl)) d_Lw_law_663 ⟨(by show cells + 10 + 0 + 0 ≤ 104668; omega), (by show slots + 8000 + 0 + 0 ≤ 8782102; omega)⟩) hP hD hS (fun _ h => h) (fun r3 wm8 H locs hpost hlen3 hP hD hS => ?_)
  obtain ⟨rfl, hmw8⟩ := hpost
  refine lv_iload hx hb d_Lw_law_666 (lv_at hl 1 rfl) ?_
  refine lv_icmp_eq hx hb d_Lw_law_668 rfl (fun _ => ?_) (fun h => absurd rfl h)
  refine lv_iload hx hb d_Lw_law_673 (lv_at hl 1 rfl) ?_
  refine wi_if_ne hx hb d_Lw_law_675 rfl (by omega) (fun hk0 => ?_) (fun hk0 => ?_)
  · skip
    refine lv_goto hx hb d_Lw_law_689 rfl ?_
    exact nx S kd fo9 wp9 wm8 H locs _ _ ls (hi.mono (Nat.le_succ T)) hpw9 hmw8 hP hD hS (lv_sub hl [2, 3, 4, 5, 6] rfl) (by show cells + 10 + 0 + 0 ≤ 32 + 10 * (T + 1); omega) (by show slots + 8000 + 0 + 0 ≤ 6508 + 8000 * (T + 1); omega)
  · skip
    refine lv_aload_n hx hb d_Lw_law_678 rfl (lv_at hl 6 rfl) ?_
    refine lv_iconst (v := nI 0) hx hb d_Lw_law_679 (by decide) ?_
    refine va_lald hx hb hK hP 0 2 rfl rfl (vp_in_nI (by decide) (by decide)) d_Lw_law_680 ?_
    refine lv_lload hx hb d_Lw_law_681 (lv_at hl 0 rfl) ?_
    refine W.lcmp hx hb d_Lw_law_683 ?_
    have heq : fo9 0 = r2 := by rw [hr2 hk0]; exact hv hk0
    refine lv_if_eq hx hb d_Lw_law_684 rfl (fun _ => ?_) (fun h => absurd (lg_eq0.mpr heq) h)
    refine lv_goto hx hb d_Lw_law_689 rfl ?_
    exact nx S kd fo9 wp9 wm8 H locs _ _ ls (hi.mono (Nat.le_succ T)) hpw9 hmw8 hP hD hS (lv_sub hl [2, 3, 4, 5, 6] rfl) (by show cells + 10 + 0 + 0 ≤ 32 + 10 * (T + 1); omega) (by show slots + 8000 + 0 + 0 ≤ 6508 + 8000 * (T + 1); omega)
set_option maxHeartbeats 4000000 in
set_option maxRecDepth 100000 in
theorem arm_11 {p : Program} {l : Launch} {e : Env} {s : State} {m : MethodId} {below : List Frame} {meth : Method} {c : Code} {b L : Nat} {xs : Nat → Int32} {D : va_G} {cI cZ cL : ClassId} {h1 h2 o T th : Nat} {S : Nat → Nat → Nat} {fo : Nat → Int64} {wp wm : va_W} {H : Heap} {locs : List Loc} {cells slots : Nat} {ls : Array Slot} (hfl : l.flags = flags0) (hx : p.tables.exec = Jvm.exec) (hb : c.code = b_Lw_law) (hml : c.maxLocals = 8) (hown : s.vm.findClass R_law = some m.cls) (ht : ∀ w ∈ mw, w.before #[Value.ref b] s = true) (hX : va_X b L xs s s.heap) (hbl : b < s.heap.size) (hK : va_K D kcl (ty3 cI cZ cL) s) (hE : gE s.heap s) (hL : L ≤ 1536) (h3 : 3 * T + 3 ≤ L) (hi : iS T S) (hpw : PW cI S h1 wp) (hmw : MW cI cZ S h2 th wm) (hP : va_P D kcl (((o, .inl (cL, 1, .inr (.inl fo))) :: wp) ++ wm) H) (hD : va_D (aL s) (((o, .inl (cL, 1, .inr (.inl fo))) :: wp) ++ wm)) (hS : va_S (aL s) s.heap H locs) (hl : lv_has ls 8 [(4, .int (nI (3 * T))), (0, .ref b), (1, .ref h1), (2, .ref h2), (3, .ref o)]) (hc : cells ≤ 32 + 10 * T) (hs : slots ≤ 6508 + 8000 * T) (nx : lw_nx p l e s m below meth c b D cI cZ cL h1 h2 o T) : W p l e room_1 s m #[Value.ref b] below meth c H locs cells slots (lw_Z below #[Value.ref b] s) (F0 m 692 ls []) := by
  have hP := va_P.rot (a := [(o, .inl (cL, 1, .inr (.inl fo)))]) (b := (wp ++ wm)) hP
  have hD := va_D.rot (a := [(o, .inl (cL, 1, .inr (.inl fo)))]) (b := (wp ++ wm)) hD
  have hP : va_P D kcl (wp ++ (wm ++ [(o, .inl (cL, 1, .inr (.inl fo)))])) H := by rw [← List.append_assoc]; exact hP
  have hD : va_D (aL s) (wp ++ (wm ++ [(o, .inl (cL, 1, .inr (.inl fo)))])) := by rw [← List.append_assoc]; exact hD
  refine lv_aload_n hx hb d_Lw_law_692 rfl (lv_at hl 2 rfl) ?_
  obtain ⟨fs693, tl693, hm693⟩ := PW_hd hpw
  have he : ((wp) ++ (wm ++ [(o, .inl (cL, 1, .inr (.inl fo)))]))[0]? = some (h1, .inr (4, fs693)) := by rw [hm693]; rfl
  refine cwa_i (wc := wp) (wr := wm ++ [(o, .inl (cL, 1, .inr (.inl fo)))]) (va_runV (As := []) (rest := []) (C := R_Pk) ⟨hx, hb, hml, hown, ht⟩ (k_Pk_feasible l s.heap D cI cZ cL hi hpw H.size) (gw_V 0 ht wd_190 wd_1 wd_187 wd_188 wd_189 (by decide +kernel) ⟨Nat.le_of_ble_eq_true rfl, Nat.le_of_ble_eq_true rfl⟩) (k_preV hE (fun _ h => h) hK hP hD hS (List.range (wp).length) (rg_C (wp) _) (rg_n1 _) 0 he rfl) rfl rfl hl.1 rfl (lv_room (Nat.le_of_ble_eq_true rfl)) d_Lw_law_693 ⟨(by show cells + 10 ≤ 104668; omega), (by show slots + 8000 ≤ 8782102; omega)⟩) hP hD hS (fun _ h => h) (fun r wp9 H locs hpost hlen hP hD hS => ?_)
  obtain ⟨hrel, hpw9⟩ := hpost
  have hP : va_P D kcl (wm ++ ([(o, .inl (cL, 1, .inr (.inl fo)))] ++ wp9)) H := by rw [← List.append_assoc]; exact hP
  have hD : va_D (aL s) (wm ++ ([(o, .inl (cL, 1, .inr (.inl fo)))] ++ wp9)) := by rw [← List.append_assoc]; exact hD
  refine lv_aload_n hx hb d_Lw_law_696 rfl (lv_at hl 3 rfl) ?_
  obtain ⟨fs697, tl697, hm697⟩ := MW_hd hmw
  have he : ((wm) ++ ([(o, .inl (cL, 1, .inr (.inl fo)))] ++ wp9))[0]? = some (h2, .inr (5, fs697)) := by rw [hm697]; rfl
  refine cwa_i (wc := wm) (wr := [(o, .inl (cL, 1, .inr (.inl fo)))] ++ wp9) (va_runV (As := []) (rest := [.int r]) (C := R_Md) ⟨hx, hb, hml, hown, ht⟩ (k_Md_feasible l s.heap D cI cZ cL hi hmw hrel H.size) (gw_V 0 ht wd_1100 wd_5 wd_1097 wd_1098 wd_1099 (by decide +kernel) ⟨Nat.le_of_ble_eq_true rfl, Nat.le_of_ble_eq_true rfl⟩) (k_preV hE (fun _ h => h) hK hP hD hS (List.range (wm).length) (rg_C (wm) _) (rg_n1 _) 0 he rfl) rfl rfl hl.1 rfl (lv_room (Nat.le_of_ble_eq_true rfl)) d_Lw_law_697 ⟨(by show cells + 10 + 0 ≤ 104668; omega), (by show slots + 8000 + 0 ≤ 8782102; omega)⟩) hP hD hS (fun _ h => h) (fun r2 wm9 H locs hpost hlen2 hP hD hS => ?_)
  obtain ⟨rfl, hmw9⟩ := hpost
  refine lv_icmp_eq hx hb d_Lw_law_700 rfl (fun _ => ?_) (fun h => absurd rfl h)
  exact nx S 0 fo wp9 wm9 H locs _ _ ls (hi.mono (Nat.le_succ T)) hpw9 hmw9 hP hD hS (lv_sub hl [0, 1, 2, 3, 4] rfl) (by show cells + 10 + 0 ≤ 32 + 10 * (T + 1); omega) (by show slots + 8000 + 0 ≤ 6508 + 8000 * (T + 1); omega)
