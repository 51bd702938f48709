/-! The law: its loop, its start, its end. -/
theorem ll_go {L T : Nat} (hL : L ≤ 1536) (hT : T ≤ 512) (h : ¬ (nI L - nI 3 < nI (3 * T))) : 3 * T + 3 ≤ L := by
  rw [Int32.lt_iff_toInt_lt, pk_sub_toInt (by omega) (by decide), nI_toInt (by omega)] at h
  omega
theorem ll_12 {x : Int32} (h : ¬ (x.toInt < 0 ∨ 11 < x.toInt)) : ∃ j, j < 12 ∧ x = nI j := by
  refine ⟨x.toInt.toNat, by omega, ?_⟩
  apply Int32.toInt_inj.mp
  rw [nI_toInt (by omega)]
  omega
set_option maxHeartbeats 4000000 in
set_option maxRecDepth 100000 in
theorem law_loop {p : Program} {l : Launch} {e : Env} {s : State} {m : MethodId} {below : List Frame} {meth : Method} {c : Code} {b L : Nat} {xs : Nat → Int32} {D : va_G} {cI cZ cL : ClassId} {h1 h2 o : Nat} (hfl : l.flags = flags0) (hx : p.tables.exec = Jvm.exec) (hb : c.code = b_Lw_law) (hr : meth.sig.returnType = ret) (hlk : meth.locks = false) (hml : c.maxLocals = 8) (hown : s.vm.findClass R_law = some m.cls) (ht : ∀ w ∈ mw, w.before #[Value.ref b] s = true) (hX : va_X b L xs s s.heap) (hbl : b < s.heap.size) (hK : va_K D kcl (ty3 cI cZ cL) s) (hE : gE s.heap s) (hL : L ≤ 1536) :
    ∀ (k T : Nat) (S : Nat → Nat → Nat) (th : Nat) (fo : Nat → Int64) (wp wm : va_W) (H : Heap) (locs : List Loc) (cells slots : Nat) (ls : Array Slot), T + k = 513 → T ≤ 512 → iS T S → PW cI S h1 wp → MW cI cZ S h2 th wm → va_P D kcl (((o, .inl (cL, 1, .inr (.inl fo))) :: wp) ++ wm) H → va_D (aL s) (((o, .inl (cL, 1, .inr (.inl fo))) :: wp) ++ wm) → va_S (aL s) s.heap H locs → lv_has ls 8 [(4, .int (nI (3 * T))), (0, .ref b), (1, .ref h1), (2, .ref h2), (3, .ref o)] → cells ≤ 32 + 10 * T → slots ≤ 6508 + 8000 * T → W p l e room_1 s m #[Value.ref b] below meth c H locs cells slots (lw_Z below #[Value.ref b] s) (F0 m 23 ls []) := by
  intro k
  induction k with
  | zero => intro T S th fo wp wm H locs cells slots ls h1 h2; exact absurd h1 (by omega)
  | succ k ih =>
    intro T S th fo wp wm H locs cells slots ls hTk hT hi hpw hmw hP hD hS hl hc hs
    refine lv_iload hx hb d_Lw_law_23 (lv_at hl 0 rfl) ?_
    refine lv_aload_n hx hb d_Lw_law_25 rfl (lv_at hl 1 rfl) ?_
    refine va_slen hx hb hX hbl (Nat.not_le.mpr hbl) hS d_Lw_law_26 ?_
    refine lv_iconst (v := nI 3) hx hb d_Lw_law_27 (by decide) ?_
    refine lv_isub hx hb d_Lw_law_28 ?_
    refine lv_icmp_gt hx hb d_Lw_law_29 rfl (fun _ => ?_) (fun h29 => ?_)
    · refine lv_iconst (v := 1) hx hb d_Lw_law_711 (by decide) ?_
      refine va_forget hS.2.2 ?_
      refine W.widen (k := 104668) (n := 8782102) (by omega) (by omega) ?_
      exact lw_ret hx hb hr hlk d_Lw_law_712
    · have h3 : 3 * T + 3 ≤ L := ll_go hL hT h29
      have nx : lw_nx p l e s m below meth c b D cI cZ cL h1 h2 o T := by
        intro S th fo wp wm H locs cells slots ls hi hpw hmw hP hD hS hl hc hs
        refine lv_iinc (k := 0) (v := nI (3 * (T + 1))) (lv' := [(4, .int (nI (3 * (T + 1)))), (0, .ref b), (1, .ref h1), (2, .ref h2), (3, .ref o)]) hx hb d_Lw_law_705 hl rfl (by rw [show 3 * (T + 1) = 3 * T + 3 by omega]; exact nI_add (3 * T) 3) (by decide) rfl (fun ls hl => ?_)
        refine lv_goto hx hb d_Lw_law_708 rfl ?_
        exact ih (T + 1) S th fo wp wm H locs cells slots ls (by omega) (by omega) hi hpw hmw hP hD hS hl hc hs
      refine lv_aload_n hx hb d_Lw_law_32 rfl (lv_at hl 1 rfl) ?_
      refine lv_iload hx hb d_Lw_law_33 (lv_at hl 0 rfl) ?_
      refine va_sld hx hb hX hbl (Nat.not_le.mpr hbl) hS (vp_in_nI (by omega) (by omega)) d_Lw_law_35 ?_
      refine lv_bipush (v := nI 15) hx hb d_Lw_law_36 (by decide) ?_
      refine lv_iand hx hb d_Lw_law_38 ?_
      generalize xs (nI (3 * T)).toNatClampNeg &&& nI 15 = v
      by_cases hv : v.toInt < 0 ∨ 11 < v.toInt
      · refine lv_tableOut hx hb d_Lw_law_39 hv rfl ?_
        exact nx S th fo wp wm H locs cells slots ls (hi.mono (Nat.le_succ T)) hpw hmw hP hD hS hl (by omega) (by omega)
      obtain ⟨j, hj, rfl⟩ := ll_12 hv
      rcases (by omega : j = 0 ∨ j = 1 ∨ j = 2 ∨ j = 3 ∨ j = 4 ∨ j = 5 ∨ j = 6 ∨ j = 7 ∨ j = 8 ∨ j = 9 ∨ j = 10 ∨ j = 11) with rfl | rfl | rfl | rfl | rfl | rfl | rfl | rfl | rfl | rfl | rfl | rfl
      · refine lv_tableIn (off := 61) hx hb d_Lw_law_39 (by decide) (by decide) rfl rfl ?_
        exact arm_0 hfl hx hb hml hown ht hX hbl hK hE hL h3 hi hpw hmw hP hD hS hl hc hs nx
      · refine lv_tableIn (off := 129) hx hb d_Lw_law_39 (by decide) (by decide) rfl rfl ?_
        exact arm_1 hfl hx hb hml hown ht hX hbl hK hE hL h3 hi hpw hmw hP hD hS hl hc hs nx
      · refine lv_tableIn (off := 185) hx hb d_Lw_law_39 (by decide) (by decide) rfl rfl ?_
        exact arm_2 hfl hx hb hml hown ht hX hbl hK hE hL h3 hi hpw hmw hP hD hS hl hc hs nx
      · refine lv_tableIn (off := 198) hx hb d_Lw_law_39 (by decide) (by decide) rfl rfl ?_
        exact arm_3 hfl hx hb hml hown ht hX hbl hK hE hL h3 hi hpw hmw hP hD hS hl hc hs nx
      · refine lv_tableIn (off := 234) hx hb d_Lw_law_39 (by decide) (by decide) rfl rfl ?_
        exact arm_4 hfl hx hb hml hown ht hX hbl hK hE hL h3 hi hpw hmw hP hD hS hl hc hs nx
      · refine lv_tableIn (off := 290) hx hb d_Lw_law_39 (by decide) (by decide) rfl rfl ?_
        exact arm_5 hfl hx hb hml hown ht hX hbl hK hE hL h3 hi hpw hmw hP hD hS hl hc hs nx
      · refine lv_tableIn (off := 346) hx hb d_Lw_law_39 (by decide) (by decide) rfl rfl ?_
        exact arm_6 hfl hx hb hml hown ht hX hbl hK hE hL h3 hi hpw hmw hP hD hS hl hc hs nx
      · refine lv_tableIn (off := 402) hx hb d_Lw_law_39 (by decide) (by decide) rfl rfl ?_
        exact arm_7 hfl hx hb hml hown ht hX hbl hK hE hL h3 hi hpw hmw hP hD hS hl hc hs nx
      · refine lv_tableIn (off := 486) hx hb d_Lw_law_39 (by decide) (by decide) rfl rfl ?_
        exact arm_8 hfl hx hb hml hown ht hX hbl hK hE hL h3 hi hpw hmw hP hD hS hl hc hs nx
      · refine lv_tableIn (off := 542) hx hb d_Lw_law_39 (by decide) (by decide) rfl rfl ?_
        exact arm_9 hfl hx hb hml hown ht hX hbl hK hE hL h3 hi hpw hmw hP hD hS hl hc hs nx
      · refine lv_tableIn (off := 598) hx hb d_Lw_law_39 (by decide) (by decide) rfl rfl ?_
        exact arm_10 hfl hx hb hml hown ht hX hbl hK hE hL h3 hi hpw hmw hP hD hS hl hc hs nx
      · refine lv_tableIn (off := 653) hx hb d_Lw_law_39 (by decide) (by decide) rfl rfl ?_
        exact arm_11 hfl hx hb hml hown ht hX hbl hK hE hL h3 hi hpw hmw hP hD hS hl hc hs nx
theorem st_arr {args : Array Value} {s : State} {ty : FieldType} (hty : ty = .int ∨ ty = .boolean ∨ ty = .long) (h : (Cond.arrayClass ty).before args s = true) : ∃ cA : ClassId, ArrOfT s cA ty ∧ va_RA s cA ty := by
  obtain ⟨cA, kA, comp, h1, h2, h3⟩ := Cond.arrayClass_spec h
  refine ⟨cA, fun n z => ⟨fun k h => (by cases h), kA, h2, comp, h3⟩, ?_⟩
  rcases hty with rfl | rfl | rfl <;> exact h1
theorem st_K {args : Array Value} {s : State} (ht : ∀ w ∈ mw, w.before args s = true) : ∃ (D : va_G) (cI cZ cL : ClassId), va_K D kcl (ty3 cI cZ cL) s := by
  obtain ⟨c0, i0, k0⟩ := u_known (n := 5) ht u_Cl (ht _ wd_47)
  obtain ⟨c1, i1, k1⟩ := u_known (n := 3) ht u_Cy (ht _ wd_69)
  obtain ⟨c2, i2, k2⟩ := u_known (n := 1) ht u_Rb (ht _ wd_36)
  obtain ⟨c3, i3, k3⟩ := u_known (n := 11) ht u_Sb (ht _ wd_197)
  obtain ⟨c4, i4, k4⟩ := u_known (n := 11) ht u_Pk (ht _ wd_28)
  obtain ⟨c5, i5, k5⟩ := u_known (n := 25) ht u_Md (ht _ wd_890)
  obtain ⟨cI, a1, a2⟩ := st_arr (Or.inl rfl) (ht _ wd_45)
  obtain ⟨cZ, z1, z2⟩ := st_arr (Or.inr (Or.inl rfl)) (ht _ wd_971)
  obtain ⟨cL, l1, l2⟩ := st_arr (Or.inr (Or.inr rfl)) (ht _ wd_1101)
  refine ⟨(fun c => [c0, c1, c2, c3, c4, c5].getD c c0, fun c => [i0, i1, i2, i3, i4, i5].getD c i0), cI, cZ, cL, fun c q hq => ?_, fun k q hq => ?_⟩
  · match c, hq with
    | 0, hq => cases hq; exact k0
    | 1, hq => cases hq; exact k1
    | 2, hq => cases hq; exact k2
    | 3, hq => cases hq; exact k3
    | 4, hq => cases hq; exact k4
    | 5, hq => cases hq; exact k5
    | n + 6, hq => cases hq
  · match k, hq with
    | 0, hq => cases hq; exact ⟨a1, a2⟩
    | 1, hq => cases hq; exact ⟨z1, z2⟩
    | 2, hq => cases hq; exact ⟨l1, l2⟩
    | n + 3, hq => cases hq
theorem st_xL {args : Array Value} {s : State} {C n d : String} (hl : (Cond.laysStatic C n d).before args s = true) (h : (Cond.isRef (.static C n d)).before args s = true) : xL C n d s.heap s := by
  obtain ⟨c, k, i, f, a, cell, hc, hi, hst, ha, hcell, hs, hcls, hlt, hty⟩ := Cond.laysStatic_spec hl
  cases hv : (Term.static C n d).eval args s none [] s with
  | none => simp [Cond.before, Cond.holds, Cond.value, hv] at h
  | some w =>
    obtain ⟨hst', a', cell', ha', hcell', -, hslot⟩ := Term.static_spec hi hv
    cases ha.symm.trans ha'
    cases hcell.symm.trans hcell'
    simp only [Cond.before, Cond.holds, Cond.value, hv] at h
    refine ⟨c, k, i, f, a, cell, w, hc, hi, hst, ha, hcell, hs, hcls, hlt, hty, hslot, ?_⟩
    cases w with
    | null => rfl
    | ref t => rfl
    | _ => simp at h
theorem st_nc {args : Array Value} {s : State} {C B : String} (h : (Cond.not (.castable C B)).before args s = true) : ∀ a b : ClassId, s.vm.findClass C = some a → s.vm.findClass B = some b → s.vm.assignable a b = false := by
  intro a b ha hb
  simp [Cond.before, Cond.holds, Cond.value, ha, hb] at h
  exact h
set_option maxRecDepth 100000 in
theorem st_E {args : Array Value} {s : State} (hts : ∀ w ∈ lw_tbl, w.before args s = true) (hgv : (Jvm.Cond.and given_1 narrow_1).before args s = true) : gE s.heap s := by
  have hq := flat_of_before _ hgv
  have ht : ∀ w ∈ mw, w.before args s = true := fun w h => hts w (List.mem_filter.mp h).1
  have hA : ∀ a : Nat, a < s.heap.size → ¬ (fun q : Nat => s.heap.size ≤ q) a := fun a h => Nat.not_le.mpr h
  refine ⟨nz_of hts, Nat.le_refl _, fun _ _ => rfl, ?_, ?_, ?_, ?_⟩
  · obtain ⟨t, h1, h2⟩ := va_Tof (tm := .static "PinwheelKernel" "BASES" "[I") (ty := .int) (N := 7) (f := bsV) (A := fun q => s.heap.size ≤ q) (by decide) (hq _ (by decide +kernel)) (va_eqt (hq (.eq (.length (.static "PinwheelKernel" "BASES" "[I")) (.int 7)) (by decide +kernel))) (fun j hj => by
      rcases (by omega : j = 0 ∨ j = 1 ∨ j = 2 ∨ j = 3 ∨ j = 4 ∨ j = 5 ∨ j = 6) with rfl | rfl | rfl | rfl | rfl | rfl | rfl
      · exact va_eqt (hq (.eq (.elem (.static "PinwheelKernel" "BASES" "[I") (.int 0)) (.int 3)) (by decide +kernel))
      · exact va_eqt (hq (.eq (.elem (.static "PinwheelKernel" "BASES" "[I") (.int 1)) (.int 5)) (by decide +kernel))
      · exact va_eqt (hq (.eq (.elem (.static "PinwheelKernel" "BASES" "[I") (.int 2)) (.int 7)) (by decide +kernel))
      · exact va_eqt (hq (.eq (.elem (.static "PinwheelKernel" "BASES" "[I") (.int 3)) (.int 9)) (by decide +kernel))
      · exact va_eqt (hq (.eq (.elem (.static "PinwheelKernel" "BASES" "[I") (.int 4)) (.int 11)) (by decide +kernel))
      · exact va_eqt (hq (.eq (.elem (.static "PinwheelKernel" "BASES" "[I") (.int 5)) (.int 13)) (by decide +kernel))
      · exact va_eqt (hq (.eq (.elem (.static "PinwheelKernel" "BASES" "[I") (.int 6)) (.int 15)) (by decide +kernel))) hA
    exact ⟨t, va_Zof (hts _ (by decide +kernel)) (ht _ wd_1) h1 hA, h2⟩
  · exact st_xL (hts _ (by decide +kernel)) (hq _ (by decide +kernel))
  · exact st_xL (hts _ (by decide +kernel)) (hq _ (by decide +kernel))
  · exact List.forall_mem_cons.mpr ⟨st_nc (hq _ (by decide +kernel)), List.forall_mem_cons.mpr ⟨st_nc (hq _ (by decide +kernel)), List.forall_mem_cons.mpr ⟨st_nc (hq _ (by decide +kernel)), List.forall_mem_cons.mpr ⟨st_nc (hq _ (by decide +kernel)), List.forall_mem_cons.mpr ⟨st_nc (hq _ (by decide +kernel)), fun _ h => absurd h List.not_mem_nil⟩⟩⟩⟩⟩
def S0 : Nat → Nat → Nat := mkS 0 1 0 0 0 0 0 0 0 1 (fun _ => 0) (fun _ => 0) (fun _ => 0) (fun _ => 0) (fun _ => 0) (fun _ => 0) (fun _ => 0) (fun _ => 0)
theorem i_S0 : iS 0 S0 := ⟨Nat.zero_le _, ⟨fun t h => absurd h (Nat.not_lt_zero t), fun a b _ h => absurd h (Nat.not_lt_zero b), fun t h => absurd h (Nat.not_lt_zero t)⟩, fun t h => absurd h (Nat.not_lt_zero t), Or.inl ⟨rfl, rfl, rfl⟩, Nat.zero_lt_one, Or.inl rfl, fun q => absurd q (Nat.lt_irrefl 0)⟩
set_option maxHeartbeats 4000000 in
set_option maxRecDepth 100000 in
theorem whole_start {p : Program} {e : Env} {s : State} {m : MethodId} {below : List Frame} {meth : Method} {c : Code} (l : Launch) (hfl : l.flags = flags0) {b L : Nat} {xs : Nat → Int32} (hL : L ≤ 1536) (C0 : lw_At p s m meth c b L xs) : W p l e room_1 s m #[Value.ref b] below meth c s.heap [] 0 0 (lw_Z below #[Value.ref b] s) (entryFrame m ([Value.ref b] : List Value).toArray 8) := by
  obtain ⟨hx, hb, hr, hml, hown, hts, hX, hbl, hlk, hgv⟩ := C0
  have hb : c.code = b_Lw_law := hb
  have ht : ∀ w ∈ mw, w.before #[Value.ref b] s = true := fun w h => hts w (List.mem_filter.mp h).1
  obtain ⟨D, cI, cZ, cL, hK⟩ := st_K ht
  have hE := st_E hts hgv
  have hl := lv_entry ([Value.ref b] : List Value) (n := 8) (Nat.le_of_ble_eq_true rfl)
  rw [lg_entry_eq]
  generalize (lg_sl ([Value.ref b] : List Value) ++ List.replicate (8 - (lg_sl ([Value.ref b] : List Value)).length) Slot.unset).toArray = ls at hl ⊢
  have hl : lv_has ls 8 [(0, .ref b)] := hl
  obtain ⟨A, hAd⟩ : ∃ A : Nat → Prop, A = aL s := ⟨_, rfl⟩
  have hA : ∀ q, s.heap.size ≤ q → A q := fun q h => by rw [hAd]; exact h
  have hAH : ∀ q, A q → s.heap.size ≤ q := fun q h => by rw [hAd] at h; exact h
  have hP : va_P D kcl [] s.heap := fun k q h => by cases h
  have hD : va_D A [] := ⟨fun i j p q h => by (cases h), fun k q h => by (cases h)⟩
  have hS : va_S A s.heap s.heap [] := va_S.rf
  obtain ⟨H, hH⟩ : ∃ H : Heap, H = s.heap := ⟨_, rfl⟩
  obtain ⟨locs, hlo⟩ : ∃ locs : List Loc, locs = [] := ⟨_, rfl⟩
  have hP : va_P D kcl [] H := by rw [hH]; exact hP
  have hS : va_S A s.heap H locs := by rw [hH, hlo]; exact hS
  suffices hgo : W p l e room_1 s m #[Value.ref b] below meth c H locs 0 0 (lw_Z below #[Value.ref b] s) (F0 m 0 ls []) by rw [hH, hlo] at hgo; exact hgo
  refine va_new (ci := 4) (fs := [.null, .null, .null, .null, .null, .null, .int (nI 0), .int (nI 0), .int (nI 0), .int (nI 0), .int (nI 0)]) (C := R_Pk) (T := T_Pk) (N := 11) hx hb ht u_Pk t_Pk t_Pk_ok hown (ht _ wd_27) (ht _ wd_28) (ht _ wd_1) hK hP hD hS hA rfl (fun j hj => co_dec (N := 11) (P := fun j => defaultValue (t_Pk j) = vp_V [.null, .null, .null, .null, .null, .null, .int (nI 0), .int (nI 0), .int (nI 0), .int (nI 0), .int (nI 0)] j) (by decide +kernel) hj) (Nat.le_of_ble_eq_true rfl) (Nat.le_of_ble_eq_true rfl) d_Lw_law_0 (fun q0 H hP hD hS => ?_)
  have hP : va_P D kcl [(q0, .inr (4, [.null, .null, .null, .null, .null, .null, .int (nI 0), .int (nI 0), .int (nI 0), .int (nI 0), .int (nI 0)]))] H := hP
  have hD : va_D A [(q0, .inr (4, [.null, .null, .null, .null, .null, .null, .int (nI 0), .int (nI 0), .int (nI 0), .int (nI 0), .int (nI 0)]))] := hD
  refine W.widen (k := 1) (n := 11) (by decide) (by decide) ?_
  refine lv_dup hx hb d_Lw_law_3 rfl ?_
  refine ck_v (wc := [(q0, .inr (4, [.null, .null, .null, .null, .null, .null, .int (nI 0), .int (nI 0), .int (nI 0), .int (nI 0), .int (nI 0)]))]) (va_runI (As := []) (rest := [.ref q0]) ⟨hx, hb, hml, hown, ht⟩ (c_Pk_init l s.heap D cI cZ cL q0  H.size) (gw_I 0 ht wd_31 wd_1 wd_29 wd_30 (by decide +kernel) ⟨Nat.le_of_ble_eq_true rfl, Nat.le_of_ble_eq_true rfl⟩) (k_preS hE hAH hK hP hD hS [0] rfl rfl) rfl rfl hl.1 rfl (lv_room (Nat.le_of_ble_eq_true rfl)) d_Lw_law_4 ⟨Nat.le_of_ble_eq_true rfl, Nat.le_of_ble_eq_true rfl⟩) hP hD hS hA [0] rfl rfl (fun w1 H locs hpost hP hD hS => ?_)
  obtain ⟨rb, a0, pr, p1, p2, p3, p4, pl, q1, q2, q3, q4, fo, c0, sa, s0, rfl⟩ := hpost
  have hP : va_P D kcl [(q0, .inr (4, [.ref rb, .null, .ref pr, .ref pl, .ref fo, .ref sa, .int (nI 0), .int (nI 0), .int (nI 0), .int (nI 0), .int (nI 0)])), (rb, .inr (2, [.ref a0])), (a0, .inl (cI, 10, .inl (wA (fun _ => 0)))), (pr, .inr (0, [.ref p1, .ref p2, .ref p3, .ref p4, .int (nI 0)])), (p1, .inl (cI, 10, .inl (wA (fun _ => 0)))), (p2, .inl (cI, 10, .inl (wA (fun _ => 0)))), (p3, .inl (cI, 10, .inl (wA (fun _ => 0)))), (p4, .inl (cI, 10, .inl (wA (fun _ => 0)))), (pl, .inr (0, [.ref q1, .ref q2, .ref q3, .ref q4, .int (nI 0)])), (q1, .inl (cI, 10, .inl (wA (fun _ => 0)))), (q2, .inl (cI, 10, .inl (wA (fun _ => 0)))), (q3, .inl (cI, 10, .inl (wA (fun _ => 0)))), (q4, .inl (cI, 10, .inl (wA (fun _ => 0)))), (fo, .inr (1, [.ref c0, .int (nI 1), .int (nI 0)])), (c0, .inl (cI, 40, .inl (wA (fun _ => 0)))), (sa, .inr (1, [.ref s0, .int (nI 1), .int (nI 0)])), (s0, .inl (cI, 40, .inl (wA (fun _ => 0))))] H := hP
  have hD : va_D A [(q0, .inr (4, [.ref rb, .null, .ref pr, .ref pl, .ref fo, .ref sa, .int (nI 0), .int (nI 0), .int (nI 0), .int (nI 0), .int (nI 0)])), (rb, .inr (2, [.ref a0])), (a0, .inl (cI, 10, .inl (wA (fun _ => 0)))), (pr, .inr (0, [.ref p1, .ref p2, .ref p3, .ref p4, .int (nI 0)])), (p1, .inl (cI, 10, .inl (wA (fun _ => 0)))), (p2, .inl (cI, 10, .inl (wA (fun _ => 0)))), (p3, .inl (cI, 10, .inl (wA (fun _ => 0)))), (p4, .inl (cI, 10, .inl (wA (fun _ => 0)))), (pl, .inr (0, [.ref q1, .ref q2, .ref q3, .ref q4, .int (nI 0)])), (q1, .inl (cI, 10, .inl (wA (fun _ => 0)))), (q2, .inl (cI, 10, .inl (wA (fun _ => 0)))), (q3, .inl (cI, 10, .inl (wA (fun _ => 0)))), (q4, .inl (cI, 10, .inl (wA (fun _ => 0)))), (fo, .inr (1, [.ref c0, .int (nI 1), .int (nI 0)])), (c0, .inl (cI, 40, .inl (wA (fun _ => 0)))), (sa, .inr (1, [.ref s0, .int (nI 1), .int (nI 0)])), (s0, .inl (cI, 40, .inl (wA (fun _ => 0))))] := hD
  refine W.widen (k := 17) (n := 198) (by decide) (by decide) ?_
  refine lv_astore_n (lv' := [(1, .ref q0), (0, .ref b)]) hx hb d_Lw_law_7 rfl hl (by decide) rfl (fun ls hl => ?_)
  refine va_new (ci := 5) (fs := [.int (nI 0), .int (nI 0), .null, .null, .null, .null, .int (nI 0), .int (nI 0), .int (nI 0), .null, .int (nI 0), .int (nI 0), .int (nI 0), .int (nI 0), .int (nI 0), .null, .null, .int (nI 0), .null, .int (nI 0), .null, .null, .null, .null, .null]) (C := R_Md) (T := T_Md) (N := 25) hx hb ht u_Md t_Md t_Md_ok hown (ht _ wd_889) (ht _ wd_890) (ht _ wd_5) hK hP hD hS hA rfl (fun j hj => co_dec (N := 25) (P := fun j => defaultValue (t_Md j) = vp_V [.int (nI 0), .int (nI 0), .null, .null, .null, .null, .int (nI 0), .int (nI 0), .int (nI 0), .null, .int (nI 0), .int (nI 0), .int (nI 0), .int (nI 0), .int (nI 0), .null, .null, .int (nI 0), .null, .int (nI 0), .null, .null, .null, .null, .null] j) (by decide +kernel) hj) (Nat.le_of_ble_eq_true rfl) (Nat.le_of_ble_eq_true rfl) d_Lw_law_8 (fun q8 H hP hD hS => ?_)
  have hP : va_P D kcl [(q0, .inr (4, [.ref rb, .null, .ref pr, .ref pl, .ref fo, .ref sa, .int (nI 0), .int (nI 0), .int (nI 0), .int (nI 0), .int (nI 0)])), (rb, .inr (2, [.ref a0])), (a0, .inl (cI, 10, .inl (wA (fun _ => 0)))), (pr, .inr (0, [.ref p1, .ref p2, .ref p3, .ref p4, .int (nI 0)])), (p1, .inl (cI, 10, .inl (wA (fun _ => 0)))), (p2, .inl (cI, 10, .inl (wA (fun _ => 0)))), (p3, .inl (cI, 10, .inl (wA (fun _ => 0)))), (p4, .inl (cI, 10, .inl (wA (fun _ => 0)))), (pl, .inr (0, [.ref q1, .ref q2, .ref q3, .ref q4, .int (nI 0)])), (q1, .inl (cI, 10, .inl (wA (fun _ => 0)))), (q2, .inl (cI, 10, .inl (wA (fun _ => 0)))), (q3, .inl (cI, 10, .inl (wA (fun _ => 0)))), (q4, .inl (cI, 10, .inl (wA (fun _ => 0)))), (fo, .inr (1, [.ref c0, .int (nI 1), .int (nI 0)])), (c0, .inl (cI, 40, .inl (wA (fun _ => 0)))), (sa, .inr (1, [.ref s0, .int (nI 1), .int (nI 0)])), (s0, .inl (cI, 40, .inl (wA (fun _ => 0)))), (q8, .inr (5, [.int (nI 0), .int (nI 0), .null, .null, .null, .null, .int (nI 0), .int (nI 0), .int (nI 0), .null, .int (nI 0), .int (nI 0), .int (nI 0), .int (nI 0), .int (nI 0), .null, .null, .int (nI 0), .null, .int (nI 0), .null, .null, .null, .null, .null]))] H := hP
  have hD : va_D A [(q0, .inr (4, [.ref rb, .null, .ref pr, .ref pl, .ref fo, .ref sa, .int (nI 0), .int (nI 0), .int (nI 0), .int (nI 0), .int (nI 0)])), (rb, .inr (2, [.ref a0])), (a0, .inl (cI, 10, .inl (wA (fun _ => 0)))), (pr, .inr (0, [.ref p1, .ref p2, .ref p3, .ref p4, .int (nI 0)])), (p1, .inl (cI, 10, .inl (wA (fun _ => 0)))), (p2, .inl (cI, 10, .inl (wA (fun _ => 0)))), (p3, .inl (cI, 10, .inl (wA (fun _ => 0)))), (p4, .inl (cI, 10, .inl (wA (fun _ => 0)))), (pl, .inr (0, [.ref q1, .ref q2, .ref q3, .ref q4, .int (nI 0)])), (q1, .inl (cI, 10, .inl (wA (fun _ => 0)))), (q2, .inl (cI, 10, .inl (wA (fun _ => 0)))), (q3, .inl (cI, 10, .inl (wA (fun _ => 0)))), (q4, .inl (cI, 10, .inl (wA (fun _ => 0)))), (fo, .inr (1, [.ref c0, .int (nI 1), .int (nI 0)])), (c0, .inl (cI, 40, .inl (wA (fun _ => 0)))), (sa, .inr (1, [.ref s0, .int (nI 1), .int (nI 0)])), (s0, .inl (cI, 40, .inl (wA (fun _ => 0)))), (q8, .inr (5, [.int (nI 0), .int (nI 0), .null, .null, .null, .null, .int (nI 0), .int (nI 0), .int (nI 0), .null, .int (nI 0), .int (nI 0), .int (nI 0), .int (nI 0), .int (nI 0), .null, .null, .int (nI 0), .null, .int (nI 0), .null, .null, .null, .null, .null]))] := hD
  refine W.widen (k := 18) (n := 223) (by decide) (by decide) ?_
  refine lv_dup hx hb d_Lw_law_11 rfl ?_
  refine ck_v (wc := [(q8, .inr (5, [.int (nI 0), .int (nI 0), .null, .null, .null, .null, .int (nI 0), .int (nI 0), .int (nI 0), .null, .int (nI 0), .int (nI 0), .int (nI 0), .int (nI 0), .int (nI 0), .null, .null, .int (nI 0), .null, .int (nI 0), .null, .null, .null, .null, .null]))]) (va_runI (As := []) (rest := [.ref q8]) ⟨hx, hb, hml, hown, ht⟩ (c_Md_init l s.heap D cI cZ cL q8  H.size) (gw_I 0 ht wd_893 wd_5 wd_891 wd_892 (by decide +kernel) ⟨Nat.le_of_ble_eq_true rfl, Nat.le_of_ble_eq_true rfl⟩) (k_preS hE hAH hK hP hD hS [17] rfl rfl) rfl rfl hl.1 rfl (lv_room (Nat.le_of_ble_eq_true rfl)) d_Lw_law_12 ⟨Nat.le_of_ble_eq_true rfl, Nat.le_of_ble_eq_true rfl⟩) hP hD hS hA [17] rfl rfl (fun w1 H locs hpost hP hD hS => ?_)
  obtain ⟨a1, a2, a3, a4, c1, b1, b2, c2, r1, r2, z1, n1, t1, rfl⟩ := hpost
  have hP : va_P D kcl [(q0, .inr (4, [.ref rb, .null, .ref pr, .ref pl, .ref fo, .ref sa, .int (nI 0), .int (nI 0), .int (nI 0), .int (nI 0), .int (nI 0)])), (rb, .inr (2, [.ref a0])), (a0, .inl (cI, 10, .inl (wA (fun _ => 0)))), (pr, .inr (0, [.ref p1, .ref p2, .ref p3, .ref p4, .int (nI 0)])), (p1, .inl (cI, 10, .inl (wA (fun _ => 0)))), (p2, .inl (cI, 10, .inl (wA (fun _ => 0)))), (p3, .inl (cI, 10, .inl (wA (fun _ => 0)))), (p4, .inl (cI, 10, .inl (wA (fun _ => 0)))), (pl, .inr (0, [.ref q1, .ref q2, .ref q3, .ref q4, .int (nI 0)])), (q1, .inl (cI, 10, .inl (wA (fun _ => 0)))), (q2, .inl (cI, 10, .inl (wA (fun _ => 0)))), (q3, .inl (cI, 10, .inl (wA (fun _ => 0)))), (q4, .inl (cI, 10, .inl (wA (fun _ => 0)))), (fo, .inr (1, [.ref c0, .int (nI 1), .int (nI 0)])), (c0, .inl (cI, 40, .inl (wA (fun _ => 0)))), (sa, .inr (1, [.ref s0, .int (nI 1), .int (nI 0)])), (s0, .inl (cI, 40, .inl (wA (fun _ => 0)))), (q8, .inr (5, [.int (nI 0), .int (nI 0), .ref a1, .ref a2, .ref a3, .ref a4, .int (nI 0), .int (nI 0), .int (nI 1), .ref c1, .int (nI 0), .int (nI 0), .int (nI 0), .int ((-1)), .int (nI 0), .ref b1, .ref b2, .int (nI 0), .ref c2, .int (nI 0), .ref r1, .ref r2, .ref z1, .ref n1, .ref t1])), (a1, .inl (cI, 10, .inl (wA (fun _ => 0)))), (a2, .inl (cI, 10, .inl (wA (fun _ => 0)))), (a3, .inl (cI, 10, .inl (wA (fun _ => 0)))), (a4, .inl (cI, 10, .inl (wA (fun _ => 0)))), (c1, .inl (cI, 1600, .inl (wA (fun _ => 0)))), (b1, .inl (cI, 10, .inl (wA (fun _ => 0)))), (b2, .inl (cI, 10, .inl (wA (fun _ => 0)))), (c2, .inl (cI, 1600, .inl (wA (fun _ => 0)))), (r1, .inl (cI, 10, .inl (wA (fun _ => 0)))), (r2, .inl (cI, 10, .inl (wA (fun _ => 0)))), (z1, .inl (cZ, 1500, .inl (wA (fun _ => 0)))), (n1, .inl (cI, 4, .inl (wA (fun _ => 0)))), (t1, .inl (cI, 1500, .inl (wT (fun _ => 1))))] H := hP
  have hD : va_D A [(q0, .inr (4, [.ref rb, .null, .ref pr, .ref pl, .ref fo, .ref sa, .int (nI 0), .int (nI 0), .int (nI 0), .int (nI 0), .int (nI 0)])), (rb, .inr (2, [.ref a0])), (a0, .inl (cI, 10, .inl (wA (fun _ => 0)))), (pr, .inr (0, [.ref p1, .ref p2, .ref p3, .ref p4, .int (nI 0)])), (p1, .inl (cI, 10, .inl (wA (fun _ => 0)))), (p2, .inl (cI, 10, .inl (wA (fun _ => 0)))), (p3, .inl (cI, 10, .inl (wA (fun _ => 0)))), (p4, .inl (cI, 10, .inl (wA (fun _ => 0)))), (pl, .inr (0, [.ref q1, .ref q2, .ref q3, .ref q4, .int (nI 0)])), (q1, .inl (cI, 10, .inl (wA (fun _ => 0)))), (q2, .inl (cI, 10, .inl (wA (fun _ => 0)))), (q3, .inl (cI, 10, .inl (wA (fun _ => 0)))), (q4, .inl (cI, 10, .inl (wA (fun _ => 0)))), (fo, .inr (1, [.ref c0, .int (nI 1), .int (nI 0)])), (c0, .inl (cI, 40, .inl (wA (fun _ => 0)))), (sa, .inr (1, [.ref s0, .int (nI 1), .int (nI 0)])), (s0, .inl (cI, 40, .inl (wA (fun _ => 0)))), (q8, .inr (5, [.int (nI 0), .int (nI 0), .ref a1, .ref a2, .ref a3, .ref a4, .int (nI 0), .int (nI 0), .int (nI 1), .ref c1, .int (nI 0), .int (nI 0), .int (nI 0), .int ((-1)), .int (nI 0), .ref b1, .ref b2, .int (nI 0), .ref c2, .int (nI 0), .ref r1, .ref r2, .ref z1, .ref n1, .ref t1])), (a1, .inl (cI, 10, .inl (wA (fun _ => 0)))), (a2, .inl (cI, 10, .inl (wA (fun _ => 0)))), (a3, .inl (cI, 10, .inl (wA (fun _ => 0)))), (a4, .inl (cI, 10, .inl (wA (fun _ => 0)))), (c1, .inl (cI, 1600, .inl (wA (fun _ => 0)))), (b1, .inl (cI, 10, .inl (wA (fun _ => 0)))), (b2, .inl (cI, 10, .inl (wA (fun _ => 0)))), (c2, .inl (cI, 1600, .inl (wA (fun _ => 0)))), (r1, .inl (cI, 10, .inl (wA (fun _ => 0)))), (r2, .inl (cI, 10, .inl (wA (fun _ => 0)))), (z1, .inl (cZ, 1500, .inl (wA (fun _ => 0)))), (n1, .inl (cI, 4, .inl (wA (fun _ => 0)))), (t1, .inl (cI, 1500, .inl (wT (fun _ => 1))))] := hD
  refine W.widen (k := 31) (n := 6507) (by decide) (by decide) ?_
  refine lv_astore_n (lv' := [(2, .ref q8), (1, .ref q0), (0, .ref b)]) hx hb d_Lw_law_15 rfl hl (by decide) rfl (fun ls hl => ?_)
  refine lv_iconst (v := nI 1) hx hb d_Lw_law_16 (by decide) ?_
  refine wi_newa (atype := .long) (a0 := (1, .inr (.inl (fun _ => 0)))) (N' := 1) hx hb (ht _ wd_1101) rfl (by decide) hK hP hD hS hA 2 rfl (fun _ => rfl) (by decide) rfl (by decide) (Nat.le_of_ble_eq_true rfl) (Nat.le_of_ble_eq_true rfl) d_Lw_law_17 (fun q17 H hP hD hS => ?_)
  have hP : va_P D kcl [(q0, .inr (4, [.ref rb, .null, .ref pr, .ref pl, .ref fo, .ref sa, .int (nI 0), .int (nI 0), .int (nI 0), .int (nI 0), .int (nI 0)])), (rb, .inr (2, [.ref a0])), (a0, .inl (cI, 10, .inl (wA (fun _ => 0)))), (pr, .inr (0, [.ref p1, .ref p2, .ref p3, .ref p4, .int (nI 0)])), (p1, .inl (cI, 10, .inl (wA (fun _ => 0)))), (p2, .inl (cI, 10, .inl (wA (fun _ => 0)))), (p3, .inl (cI, 10, .inl (wA (fun _ => 0)))), (p4, .inl (cI, 10, .inl (wA (fun _ => 0)))), (pl, .inr (0, [.ref q1, .ref q2, .ref q3, .ref q4, .int (nI 0)])), (q1, .inl (cI, 10, .inl (wA (fun _ => 0)))), (q2, .inl (cI, 10, .inl (wA (fun _ => 0)))), (q3, .inl (cI, 10, .inl (wA (fun _ => 0)))), (q4, .inl (cI, 10, .inl (wA (fun _ => 0)))), (fo, .inr (1, [.ref c0, .int (nI 1), .int (nI 0)])), (c0, .inl (cI, 40, .inl (wA (fun _ => 0)))), (sa, .inr (1, [.ref s0, .int (nI 1), .int (nI 0)])), (s0, .inl (cI, 40, .inl (wA (fun _ => 0)))), (q8, .inr (5, [.int (nI 0), .int (nI 0), .ref a1, .ref a2, .ref a3, .ref a4, .int (nI 0), .int (nI 0), .int (nI 1), .ref c1, .int (nI 0), .int (nI 0), .int (nI 0), .int ((-1)), .int (nI 0), .ref b1, .ref b2, .int (nI 0), .ref c2, .int (nI 0), .ref r1, .ref r2, .ref z1, .ref n1, .ref t1])), (a1, .inl (cI, 10, .inl (wA (fun _ => 0)))), (a2, .inl (cI, 10, .inl (wA (fun _ => 0)))), (a3, .inl (cI, 10, .inl (wA (fun _ => 0)))), (a4, .inl (cI, 10, .inl (wA (fun _ => 0)))), (c1, .inl (cI, 1600, .inl (wA (fun _ => 0)))), (b1, .inl (cI, 10, .inl (wA (fun _ => 0)))), (b2, .inl (cI, 10, .inl (wA (fun _ => 0)))), (c2, .inl (cI, 1600, .inl (wA (fun _ => 0)))), (r1, .inl (cI, 10, .inl (wA (fun _ => 0)))), (r2, .inl (cI, 10, .inl (wA (fun _ => 0)))), (z1, .inl (cZ, 1500, .inl (wA (fun _ => 0)))), (n1, .inl (cI, 4, .inl (wA (fun _ => 0)))), (t1, .inl (cI, 1500, .inl (wT (fun _ => 1)))), (q17, .inl (cL, 1, .inr (.inl (fun _ => 0))))] H := hP
  have hD : va_D A [(q0, .inr (4, [.ref rb, .null, .ref pr, .ref pl, .ref fo, .ref sa, .int (nI 0), .int (nI 0), .int (nI 0), .int (nI 0), .int (nI 0)])), (rb, .inr (2, [.ref a0])), (a0, .inl (cI, 10, .inl (wA (fun _ => 0)))), (pr, .inr (0, [.ref p1, .ref p2, .ref p3, .ref p4, .int (nI 0)])), (p1, .inl (cI, 10, .inl (wA (fun _ => 0)))), (p2, .inl (cI, 10, .inl (wA (fun _ => 0)))), (p3, .inl (cI, 10, .inl (wA (fun _ => 0)))), (p4, .inl (cI, 10, .inl (wA (fun _ => 0)))), (pl, .inr (0, [.ref q1, .ref q2, .ref q3, .ref q4, .int (nI 0)])), (q1, .inl (cI, 10, .inl (wA (fun _ => 0)))), (q2, .inl (cI, 10, .inl (wA (fun _ => 0)))), (q3, .inl (cI, 10, .inl (wA (fun _ => 0)))), (q4, .inl (cI, 10, .inl (wA (fun _ => 0)))), (fo, .inr (1, [.ref c0, .int (nI 1), .int (nI 0)])), (c0, .inl (cI, 40, .inl (wA (fun _ => 0)))), (sa, .inr (1, [.ref s0, .int (nI 1), .int (nI 0)])), (s0, .inl (cI, 40, .inl (wA (fun _ => 0)))), (q8, .inr (5, [.int (nI 0), .int (nI 0), .ref a1, .ref a2, .ref a3, .ref a4, .int (nI 0), .int (nI 0), .int (nI 1), .ref c1, .int (nI 0), .int (nI 0), .int (nI 0), .int ((-1)), .int (nI 0), .ref b1, .ref b2, .int (nI 0), .ref c2, .int (nI 0), .ref r1, .ref r2, .ref z1, .ref n1, .ref t1])), (a1, .inl (cI, 10, .inl (wA (fun _ => 0)))), (a2, .inl (cI, 10, .inl (wA (fun _ => 0)))), (a3, .inl (cI, 10, .inl (wA (fun _ => 0)))), (a4, .inl (cI, 10, .inl (wA (fun _ => 0)))), (c1, .inl (cI, 1600, .inl (wA (fun _ => 0)))), (b1, .inl (cI, 10, .inl (wA (fun _ => 0)))), (b2, .inl (cI, 10, .inl (wA (fun _ => 0)))), (c2, .inl (cI, 1600, .inl (wA (fun _ => 0)))), (r1, .inl (cI, 10, .inl (wA (fun _ => 0)))), (r2, .inl (cI, 10, .inl (wA (fun _ => 0)))), (z1, .inl (cZ, 1500, .inl (wA (fun _ => 0)))), (n1, .inl (cI, 4, .inl (wA (fun _ => 0)))), (t1, .inl (cI, 1500, .inl (wT (fun _ => 1)))), (q17, .inl (cL, 1, .inr (.inl (fun _ => 0))))] := hD
  refine W.widen (k := 32) (n := 6508) (by decide) (by decide) ?_
  refine lv_astore_n (lv' := [(3, .ref q17), (2, .ref q8), (1, .ref q0), (0, .ref b)]) hx hb d_Lw_law_19 rfl hl (by decide) rfl (fun ls hl => ?_)
  refine lv_iconst (v := nI 0) hx hb d_Lw_law_20 (by decide) ?_
  refine lv_istore (lv' := [(4, .int (nI 0)), (3, .ref q17), (2, .ref q8), (1, .ref q0), (0, .ref b)]) hx hb d_Lw_law_21 hl (by decide) rfl (fun ls hl => ?_)
  have hP : va_P D kcl (((q17, .inl (cL, 1, .inr (.inl (fun _ => 0)))) :: [(q0, .inr (4, [.ref rb, .null, .ref pr, .ref pl, .ref fo, .ref sa, .int (nI 0), .int (nI 0), .int (nI 0), .int (nI 0), .int (nI 0)])), (rb, .inr (2, [.ref a0])), (a0, .inl (cI, 10, .inl (wA (fun _ => 0)))), (pr, .inr (0, [.ref p1, .ref p2, .ref p3, .ref p4, .int (nI 0)])), (p1, .inl (cI, 10, .inl (wA (fun _ => 0)))), (p2, .inl (cI, 10, .inl (wA (fun _ => 0)))), (p3, .inl (cI, 10, .inl (wA (fun _ => 0)))), (p4, .inl (cI, 10, .inl (wA (fun _ => 0)))), (pl, .inr (0, [.ref q1, .ref q2, .ref q3, .ref q4, .int (nI 0)])), (q1, .inl (cI, 10, .inl (wA (fun _ => 0)))), (q2, .inl (cI, 10, .inl (wA (fun _ => 0)))), (q3, .inl (cI, 10, .inl (wA (fun _ => 0)))), (q4, .inl (cI, 10, .inl (wA (fun _ => 0)))), (fo, .inr (1, [.ref c0, .int (nI 1), .int (nI 0)])), (c0, .inl (cI, 40, .inl (wA (fun _ => 0)))), (sa, .inr (1, [.ref s0, .int (nI 1), .int (nI 0)])), (s0, .inl (cI, 40, .inl (wA (fun _ => 0))))]) ++ [(q8, .inr (5, [.int (nI 0), .int (nI 0), .ref a1, .ref a2, .ref a3, .ref a4, .int (nI 0), .int (nI 0), .int (nI 1), .ref c1, .int (nI 0), .int (nI 0), .int (nI 0), .int ((-1)), .int (nI 0), .ref b1, .ref b2, .int (nI 0), .ref c2, .int (nI 0), .ref r1, .ref r2, .ref z1, .ref n1, .ref t1])), (a1, .inl (cI, 10, .inl (wA (fun _ => 0)))), (a2, .inl (cI, 10, .inl (wA (fun _ => 0)))), (a3, .inl (cI, 10, .inl (wA (fun _ => 0)))), (a4, .inl (cI, 10, .inl (wA (fun _ => 0)))), (c1, .inl (cI, 1600, .inl (wA (fun _ => 0)))), (b1, .inl (cI, 10, .inl (wA (fun _ => 0)))), (b2, .inl (cI, 10, .inl (wA (fun _ => 0)))), (c2, .inl (cI, 1600, .inl (wA (fun _ => 0)))), (r1, .inl (cI, 10, .inl (wA (fun _ => 0)))), (r2, .inl (cI, 10, .inl (wA (fun _ => 0)))), (z1, .inl (cZ, 1500, .inl (wA (fun _ => 0)))), (n1, .inl (cI, 4, .inl (wA (fun _ => 0)))), (t1, .inl (cI, 1500, .inl (wT (fun _ => 1))))]) H := hP.sub [31, 0, 1, 2, 3, 4, 5, 6, 7, 8, 9, 10, 11, 12, 13, 14, 15, 16, 17, 18, 19, 20, 21, 22, 23, 24, 25, 26, 27, 28, 29, 30] rfl
  have hD : va_D A (((q17, .inl (cL, 1, .inr (.inl (fun _ => 0)))) :: [(q0, .inr (4, [.ref rb, .null, .ref pr, .ref pl, .ref fo, .ref sa, .int (nI 0), .int (nI 0), .int (nI 0), .int (nI 0), .int (nI 0)])), (rb, .inr (2, [.ref a0])), (a0, .inl (cI, 10, .inl (wA (fun _ => 0)))), (pr, .inr (0, [.ref p1, .ref p2, .ref p3, .ref p4, .int (nI 0)])), (p1, .inl (cI, 10, .inl (wA (fun _ => 0)))), (p2, .inl (cI, 10, .inl (wA (fun _ => 0)))), (p3, .inl (cI, 10, .inl (wA (fun _ => 0)))), (p4, .inl (cI, 10, .inl (wA (fun _ => 0)))), (pl, .inr (0, [.ref q1, .ref q2, .ref q3, .ref q4, .int (nI 0)])), (q1, .inl (cI, 10, .inl (wA (fun _ => 0)))), (q2, .inl (cI, 10, .inl (wA (fun _ => 0)))), (q3, .inl (cI, 10, .inl (wA (fun _ => 0)))), (q4, .inl (cI, 10, .inl (wA (fun _ => 0)))), (fo, .inr (1, [.ref c0, .int (nI 1), .int (nI 0)])), (c0, .inl (cI, 40, .inl (wA (fun _ => 0)))), (sa, .inr (1, [.ref s0, .int (nI 1), .int (nI 0)])), (s0, .inl (cI, 40, .inl (wA (fun _ => 0))))]) ++ [(q8, .inr (5, [.int (nI 0), .int (nI 0), .ref a1, .ref a2, .ref a3, .ref a4, .int (nI 0), .int (nI 0), .int (nI 1), .ref c1, .int (nI 0), .int (nI 0), .int (nI 0), .int ((-1)), .int (nI 0), .ref b1, .ref b2, .int (nI 0), .ref c2, .int (nI 0), .ref r1, .ref r2, .ref z1, .ref n1, .ref t1])), (a1, .inl (cI, 10, .inl (wA (fun _ => 0)))), (a2, .inl (cI, 10, .inl (wA (fun _ => 0)))), (a3, .inl (cI, 10, .inl (wA (fun _ => 0)))), (a4, .inl (cI, 10, .inl (wA (fun _ => 0)))), (c1, .inl (cI, 1600, .inl (wA (fun _ => 0)))), (b1, .inl (cI, 10, .inl (wA (fun _ => 0)))), (b2, .inl (cI, 10, .inl (wA (fun _ => 0)))), (c2, .inl (cI, 1600, .inl (wA (fun _ => 0)))), (r1, .inl (cI, 10, .inl (wA (fun _ => 0)))), (r2, .inl (cI, 10, .inl (wA (fun _ => 0)))), (z1, .inl (cZ, 1500, .inl (wA (fun _ => 0)))), (n1, .inl (cI, 4, .inl (wA (fun _ => 0)))), (t1, .inl (cI, 1500, .inl (wT (fun _ => 1))))]) := hD.sub [31, 0, 1, 2, 3, 4, 5, 6, 7, 8, 9, 10, 11, 12, 13, 14, 15, 16, 17, 18, 19, 20, 21, 22, 23, 24, 25, 26, 27, 28, 29, 30] rfl rfl
  subst hAd
  have hpw : PW cI S0 q0 [(q0, .inr (4, [.ref rb, .null, .ref pr, .ref pl, .ref fo, .ref sa, .int (nI 0), .int (nI 0), .int (nI 0), .int (nI 0), .int (nI 0)])), (rb, .inr (2, [.ref a0])), (a0, .inl (cI, 10, .inl (wA (fun _ => 0)))), (pr, .inr (0, [.ref p1, .ref p2, .ref p3, .ref p4, .int (nI 0)])), (p1, .inl (cI, 10, .inl (wA (fun _ => 0)))), (p2, .inl (cI, 10, .inl (wA (fun _ => 0)))), (p3, .inl (cI, 10, .inl (wA (fun _ => 0)))), (p4, .inl (cI, 10, .inl (wA (fun _ => 0)))), (pl, .inr (0, [.ref q1, .ref q2, .ref q3, .ref q4, .int (nI 0)])), (q1, .inl (cI, 10, .inl (wA (fun _ => 0)))), (q2, .inl (cI, 10, .inl (wA (fun _ => 0)))), (q3, .inl (cI, 10, .inl (wA (fun _ => 0)))), (q4, .inl (cI, 10, .inl (wA (fun _ => 0)))), (fo, .inr (1, [.ref c0, .int (nI 1), .int (nI 0)])), (c0, .inl (cI, 40, .inl (wA (fun _ => 0)))), (sa, .inr (1, [.ref s0, .int (nI 1), .int (nI 0)])), (s0, .inl (cI, 40, .inl (wA (fun _ => 0))))] := ⟨.null, [(q0, .inr (4, [.ref rb, .null, .ref pr, .ref pl, .ref fo, .ref sa, .int (nI 0), .int (nI 0), .int (nI 0), .int (nI 0), .int (nI 0)])), (rb, .inr (2, [.ref a0])), (a0, .inl (cI, 10, .inl (wA (fun _ => 0)))), (pr, .inr (0, [.ref p1, .ref p2, .ref p3, .ref p4, .int (nI 0)])), (p1, .inl (cI, 10, .inl (wA (fun _ => 0)))), (p2, .inl (cI, 10, .inl (wA (fun _ => 0)))), (p3, .inl (cI, 10, .inl (wA (fun _ => 0)))), (p4, .inl (cI, 10, .inl (wA (fun _ => 0)))), (pl, .inr (0, [.ref q1, .ref q2, .ref q3, .ref q4, .int (nI 0)])), (q1, .inl (cI, 10, .inl (wA (fun _ => 0)))), (q2, .inl (cI, 10, .inl (wA (fun _ => 0)))), (q3, .inl (cI, 10, .inl (wA (fun _ => 0)))), (q4, .inl (cI, 10, .inl (wA (fun _ => 0)))), (fo, .inr (1, [.ref c0, .int (nI 1), .int (nI 0)])), (c0, .inl (cI, 40, .inl (wA (fun _ => 0)))), (sa, .inr (1, [.ref s0, .int (nI 1), .int (nI 0)])), (s0, .inl (cI, 40, .inl (wA (fun _ => 0))))], [], rfl, ⟨rb, a0, pr, p1, p2, p3, p4, pl, q1, q2, q3, q4, fo, c0, 40, sa, s0, 40, 0, 0, fun _ => 0, fun _ => 0, fun _ => 0, rfl, by decide, by decide, by decide, fun _ => rfl, fun q => absurd q (Nat.lt_irrefl 0)⟩, Or.inl ⟨rfl, rfl⟩⟩
  have hmw : MW cI cZ S0 q8 0 [(q8, .inr (5, [.int (nI 0), .int (nI 0), .ref a1, .ref a2, .ref a3, .ref a4, .int (nI 0), .int (nI 0), .int (nI 1), .ref c1, .int (nI 0), .int (nI 0), .int (nI 0), .int ((-1)), .int (nI 0), .ref b1, .ref b2, .int (nI 0), .ref c2, .int (nI 0), .ref r1, .ref r2, .ref z1, .ref n1, .ref t1])), (a1, .inl (cI, 10, .inl (wA (fun _ => 0)))), (a2, .inl (cI, 10, .inl (wA (fun _ => 0)))), (a3, .inl (cI, 10, .inl (wA (fun _ => 0)))), (a4, .inl (cI, 10, .inl (wA (fun _ => 0)))), (c1, .inl (cI, 1600, .inl (wA (fun _ => 0)))), (b1, .inl (cI, 10, .inl (wA (fun _ => 0)))), (b2, .inl (cI, 10, .inl (wA (fun _ => 0)))), (c2, .inl (cI, 1600, .inl (wA (fun _ => 0)))), (r1, .inl (cI, 10, .inl (wA (fun _ => 0)))), (r2, .inl (cI, 10, .inl (wA (fun _ => 0)))), (z1, .inl (cZ, 1500, .inl (wA (fun _ => 0)))), (n1, .inl (cI, 4, .inl (wA (fun _ => 0)))), (t1, .inl (cI, 1500, .inl (wT (fun _ => 1))))] := ⟨a1, a2, a3, a4, c1, b1, b2, c2, r1, r2, z1, n1, t1, 0, 0, 0, fun _ => 0, fun _ => 0, fun _ => 0, fun _ => 0, fun _ => 0, fun _ => 0, fun _ => 0, fun _ => 0, fun _ => 0, fun _ => 0, fun _ => 0, fun _ => 0, fun _ => 1, -1, rfl, fun t h => absurd h (Nat.not_lt_zero t), fun _ _ => rfl, fun _ => rfl, fun q => absurd q (Nat.lt_irrefl 0)⟩
  exact law_loop hfl hx hb hr hlk hml hown ht hX hbl hK hE hL 513 0 S0 0 (fun _ => 0) _ _ H locs _ _ ls rfl (by decide) i_S0 hpw hmw hP hD hS (lv_sub hl [0, 4, 3, 2, 1] rfl) (by decide) (by decide)
set_option maxHeartbeats 4000000 in
theorem lw_walk (l : Launch) (hfl : l.flags = flags0) (b : Addr) (xs : List Int32) : MetFree l x (headSpec (Jvm.Cond.code x code maxLocals ret :: tables_1) room_1) (lw_P b xs) (fun _ _ _ _ _ => True) lw_Q := by
  refine MetFree.of_bodyS (code := code) (maxLocals := maxLocals) (ret := ret) (by decide) ?_ ?_
  · intro args s m h hn
    obtain ⟨meth, c, h1, h2, h3, h4, h5, h6, -, -⟩ := Cond.code_spec hn (atoms_spec (ws := Jvm.Cond.code x code maxLocals ret :: tables_1) h _ List.mem_cons_self)
    exact ⟨meth, c, h1, h2, h3, h4, h5, h6⟩
  · intro p e s m args below meth c s₁ B hml0 hP _
    obtain ⟨rfl, hx, hbd, hgv⟩ := hP
    obtain ⟨scr, harrAt, hlist, hof, hsmall⟩ := hx
    obtain ⟨hcb, hkn, -, -⟩ := State.arrayAt?_spec harrAt
    have hown : s.vm.findClass R_law = some m.cls := findClass_of_methodNamed B.named
    have hts0 : ∀ c ∈ (Jvm.Cond.code x code maxLocals ret :: tables_1), c.before #[Value.ref b] s = true := atoms_spec (ws := Jvm.Cond.code x code maxLocals ret :: tables_1) B.pre
    have hts : ∀ w ∈ lw_tbl, w.before #[Value.ref b] s = true := k2_hts_sels lw_privs (fun w hw => hts0 w (List.mem_cons_of_mem _ hw)) lw_privs_ok
    have hml : c.maxLocals = 8 := B.maxLocals_eq (hts0 _ List.mem_cons_self)
    have X₀ : Stand p l e room_1 s m #[Value.ref b] below meth c s₁ [] 0 0 := Stand.of_body B
    have hh0 : s₁.heap = s.heap := by rw [B.state]; rfl
    have hsz : scr.slots.size = xs.length := by rw [← Array.length_toList, hlist, List.length_map]
    have hval : ∀ j : Nat, j < xs.length → scr.slots[j]? = some (.int (xs.getD j 0)) := fun j hj => by
      rw [← Array.getElem?_toList, hlist]
      simp [hj]
    have hbl : b < s.heap.size := (Array.getElem?_eq_some_iff.mp hcb).1
    have hX : va_X b xs.length (fun j => xs.getD j 0) s s.heap := ⟨scr, hcb, hof, hkn, hsz, hval⟩
    have K : W p l e room_1 s m #[Value.ref b] below meth c s₁.heap [] 0 0 (lw_Z below #[Value.ref b] s) (entryFrame m ([Value.ref b] : List Value).toArray 8) := by
      rw [hh0]
      exact whole_start l hfl hbd ⟨B.exec, B.bytes, B.returns, hml, hown, hts, hX, hbl, B.notSynchronized, hgv⟩
    obtain ⟨t, a1, o, b1, b2, b3⟩ := K s₁ rfl X₀
    exact ⟨t, o, a1, b1, b2, b3⟩
theorem lw_pre_spec {args : Array Value} {s : State} (h : (Jvm.Cond.and given_1 narrow_1).before args s = true) (hr : rest_1_c.before args s = true) : ∃ (b : Addr) (xs : List Int32), lw_P b xs args s := by
  have hs := flat_of_before _ h
  have hq := flat_of_before _ hr
  have hc : (Cond.count 1).before args s = true := hs _ (by decide +kernel)
  have harr : (Cond.arrayOf (.arg 0) .int).before args s = true := hs _ (by decide +kernel)
  have hle : (Cond.le (.length (.arg 0)) (.int 1536)).before args s = true := hs _ (by decide +kernel)
  have hlen : (Cond.isInt (.length (.arg 0))).before args s = true := hq _ (by decide +kernel)
  have hall : (Cond.all (.arg 0) (.isInt (.elem (.arg 0) (.index 0)))).before args s = true := hq _ (by decide +kernel)
  obtain ⟨b, xs, hb, hx⟩ := State.ints_of_pre rfl harr hlen hall
  have hsm : xs.length < 2 ^ 31 := hx.choose_spec.2.2.2
  have hev : (Term.length (.arg 0)).eval args s none [] s = some (.int xs.length.toInt32) := hx.length_eval hb
  have hv := Cond.le_ints hev (show (Term.int 1536).eval args s none [] s = some (.int 1536) from rfl)
  have hd : xs.length.toInt32 ≤ 1536 := by
    simpa [Cond.before, Cond.holds, hv] using hle
  have hN : xs.length ≤ 1536 := (Int32.ofNat_le_ofNat hsm (by decide)).mp (show Int32.ofNat xs.length ≤ Int32.ofNat 1536 from hd)
  exact ⟨b, xs, Cond.one_arg hc (show args[0]? = some (.ref b) from hb), hx, hN, h⟩
theorem lw_comes (l : Launch) (hfl : l.flags = flags0) : Comes l x (Jvm.Cond.code x code maxLocals ret :: tables_1) room_1 (fun tb e args s => Calls_1 tb e args s ∧ rest_1 tb e args s ∧ Pre_1 tb e args s)
    (fun _ _ args s o t => lw_Q args s o t) := by
  intro p e ha hc hk s m args below hf hfit hheap happ hpre
  obtain ⟨b, xs, hP⟩ := lw_pre_spec hpre.2.2 hpre.2.1
  obtain ⟨k, o, h1, h2, h3, hQ⟩ := lw_walk l hfl b xs p e ha hc hk s m args below hf ((Spec.applies_iff_loose hf).mp happ).1 hP trivial
  exact ⟨k, o, h1, h2, h3, hQ⟩
theorem lw_frame {s t : State} {o : Outcome} {args : Array Value} (h : Framed s o t [] 104668 8782102) :
    Framed s o t (fieldLocs frame_1_writes args s ++ arrayLocs frame_1_arrays args s ++ staticLocs frame_1_statics s) 104668 8782102 := h
theorem lw_limb (L : Cond) (hL : ∀ (args : Array Value) (s t : State), L.after args s (.returned (some (.int 1))) t = true) :
    ArmFor flags0 classFile x code maxLocals ret World_1 tables_1 room_1 Calls_1 rest_1 Pre_1
      (fun tb e a s o t => postC L tb e a s o t ∧ Framed s o t (fieldLocs frame_1_writes a s ++ arrayLocs frame_1_arrays a s ++ staticLocs frame_1_statics s) 104668 8782102) := by
  intro l hfl _ _ p e ha hc hk s m args below hf hfit hheap happ hpre
  obtain ⟨k, o, h1, h2, h3, rfl, hF⟩ := lw_comes l hfl p e ha hc hk s m args below hf hfit hheap happ hpre
  exact ⟨k, _, h1, h2, h3, hL args s _, lw_frame hF⟩
theorem i_vc : Claimed_1_1 ∧ Claimed_1_2 := ⟨lw_limb limb_1_1 (fun args s t => by simp [limb_1_1, Cond.after, Cond.holds, Cond.value]), lw_limb limb_1_2 (fun args s t => Cond.after_iff.mpr (by
  first | (rw [show limb_1_2 = Cond.eq .result (.int 1) from rfl, Cond.eq_ints (x := 1) (y := 1) rfl rfl]; simp; done) | (simp [limb_1_2, Cond.value, Term.eval]; done)))⟩
