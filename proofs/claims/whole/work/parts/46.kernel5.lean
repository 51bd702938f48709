/-! PinwheelKernel: calls that may throw. -/
theorem nI_n0 {n : Nat} (h : 0 < n) (h2 : n < 2 ^ 31) : ¬ nI n = 0 := nI_ne0 h h2
set_option maxHeartbeats 4000000 in
set_option maxRecDepth 100000 in
theorem c_Pk_indexOf1 (l : Launch) (Hs : Heap) (D : va_G) (cI cZ cL : ClassId) (h : Nat) (rb : Nat) (pr : Nat) (pl : Nat) (fo : Nat) (sa : Nat) (sw : Nat) (ax : Nat) (wi : Nat) (va : Nat) (sl : Nat) (vs : Value) (p1 : Nat) (p2 : Nat) (p3 : Nat) (p4 : Nat) (n : Nat) (f1 : Nat → Nat) (i : Nat) (v : Nat) (hn : n ≤ 10) (hi : i < n) (hv : f1 i = v) (hid : ∀ t, t < n → f1 t < 2 ^ 31) (hinj : ∀ i j, i < n → j < n → f1 i = f1 j → i = j) : kI l Hs D kcl (ty3 cI cZ cL) y_Pk_indexOf (mws y_Pk_indexOf b_Pk_indexOf 3 (Option.some Jvm.ClassFile.FieldType.int)) ({ frames := 1, cells := 0, slots := 0, locals := 22 } : Room) [.ref h, .int (nI v)] [(h, .inr (4, [.ref rb, vs, .ref pr, .ref pl, .ref fo, .ref sa, .int (nI sw), .int (nI ax), .int (nI wi), .int (nI va), .int (nI sl)])), (pr, .inr (0, [.ref p1, .ref p2, .ref p3, .ref p4, .int (nI n)])), (p1, .inl (cI, 10, .inl (wA f1)))] (fun r w => r = nI i ∧ w = [(h, .inr (4, [.ref rb, vs, .ref pr, .ref pl, .ref fo, .ref sa, .int (nI sw), .int (nI ax), .int (nI wi), .int (nI va), .int (nI sl)])), (pr, .inr (0, [.ref p1, .ref p2, .ref p3, .ref p4, .int (nI n)])), (p1, .inl (cI, 10, .inl (wA f1)))]) := by
  intro sz
  refine k_of (cc := b_Pk_indexOf) (maxL := 3) (ret := (Option.some Jvm.ClassFile.FieldType.int)) (by decide) rfl (Nat.le_of_ble_eq_true rfl) ?_
  intro p e s m args below meth c ls H locs A Q hQ hx hb hml hr hts hown hlk hnm hsz hAe hP hK hD hS hA hE hAH hl
  have ht : ∀ w ∈ mw, w.before args s = true := fun w h => hts w (List.mem_cons_of_mem _ h)
  have hl : lv_has ls 3 [(0, .ref h), (1, .int (nI v))] := hl
  refine lv_aload_n hx hb d_Pk_indexOf_0 rfl (lv_at hl 0 rfl) ?_
  refine va_get (D := D) (ci := 4) (v := .ref pr) (C := R_Pk) (T := T_Pk) (N := 11) hx hb ht u_Pk hown hK hP 0 rfl rfl 2 (by decide) (ht _ wd_86) (fun _ h9 => h9) rfl d_Pk_indexOf_1 ?_
  refine lv_iload_n hx hb d_Pk_indexOf_4 rfl (lv_at hl 1 rfl) ?_
  refine ck_i (wc := [(pr, .inr (0, [.ref p1, .ref p2, .ref p3, .ref p4, .int (nI n)])), (p1, .inl (cI, 10, .inl (wA f1)))]) (va_runV (As := [.int (nI v)]) (rest := []) (C := R_Cl) ⟨hx, hb, hml, hown, ht⟩ (c_Cl_find l Hs D cI cZ cL pr p1 p2 p3 p4 n f1 (nI v) hn H.size) (gw_V 1 ht wd_133 wd_3 wd_174 wd_131 wd_132 (by decide +kernel) ⟨Nat.le_of_ble_eq_true rfl, Nat.le_of_ble_eq_true rfl⟩) (k_preV hE hAH hK hP hD hS [1, 2] rfl rfl 1 rfl rfl) rfl rfl hl.1 rfl (lv_room (Nat.le_of_ble_eq_true rfl)) d_Pk_indexOf_5 ⟨Nat.le_of_ble_eq_true rfl, Nat.le_of_ble_eq_true rfl⟩) hP hD hS hA [1, 2] rfl rfl (fun r5 w1 H locs hpost hP hD hS => ?_)
  obtain ⟨r0, hfd, rfl, rfl⟩ := hpost
  have hP : va_P D kcl [(h, .inr (4, [.ref rb, vs, .ref pr, .ref pl, .ref fo, .ref sa, .int (nI sw), .int (nI ax), .int (nI wi), .int (nI va), .int (nI sl)])), (pr, .inr (0, [.ref p1, .ref p2, .ref p3, .ref p4, .int (nI n)])), (p1, .inl (cI, 10, .inl (wA f1)))] H := hP
  have hD : va_D A [(h, .inr (4, [.ref rb, vs, .ref pr, .ref pl, .ref fo, .ref sa, .int (nI sw), .int (nI ax), .int (nI wi), .int (nI va), .int (nI sl)])), (pr, .inr (0, [.ref p1, .ref p2, .ref p3, .ref p4, .int (nI n)])), (p1, .inl (cI, 10, .inl (wA f1)))] := hD
  obtain rfl : r5 = nI i := by
    rcases hfd with ⟨j, h1, h2, h3, -⟩ | ⟨-, h2⟩
    · rw [h3, hinj j i h1 hi ((nI_eq (hid j h1) (by rw [← hv]; exact hid i hi)).mp h2 |>.trans hv.symm)]
    · exact absurd (by rw [hv]) (h2 i hi)
  refine lv_istore_n (lv' := [(2, .int (nI i)), (0, .ref h), (1, .int (nI v))]) hx hb d_Pk_indexOf_8 rfl hl (by decide) rfl (fun ls hl => ?_)
  refine lv_iload_n hx hb d_Pk_indexOf_9 rfl (lv_at hl 0 rfl) ?_
  refine lv_iconst (v := -1) hx hb d_Pk_indexOf_10 (by decide) ?_
  refine lv_icmp_ne hx hb d_Pk_indexOf_11 rfl (fun h11 => ?_) (fun h11 => ?_)
  · refine lv_iload_n hx hb d_Pk_indexOf_22 rfl (lv_at hl 0 rfl) ?_
    exact k_reti hQ hx hb hr hlk hAe hK hP hD hS (Nat.le_of_ble_eq_true rfl) (Nat.le_of_ble_eq_true rfl) (Nat.le_of_ble_eq_true rfl) ⟨rfl, rfl⟩ d_Pk_indexOf_23
  · exact absurd h11.symm (nI_m1 (by omega))
set_option maxHeartbeats 4000000 in
set_option maxRecDepth 100000 in
theorem c_Pk_indexOf0 (l : Launch) (Hs : Heap) (D : va_G) (cI cZ cL : ClassId) (h : Nat) (rb : Nat) (pr : Nat) (pl : Nat) (fo : Nat) (sa : Nat) (sw : Nat) (ax : Nat) (wi : Nat) (va : Nat) (sl : Nat) (vs : Value) (p1 : Nat) (p2 : Nat) (p3 : Nat) (p4 : Nat) (n : Nat) (f1 : Nat → Nat) (x : Int32) (hn : n ≤ 10) (hno : ∀ t, t < n → nI (f1 t) ≠ x) : kX l Hs D kcl (ty3 cI cZ cL) y_Pk_indexOf (mws y_Pk_indexOf b_Pk_indexOf 3 (Option.some Jvm.ClassFile.FieldType.int)) ({ frames := 6, cells := 1, slots := 6, locals := 81 } : Room) [.ref h, .int x] [(h, .inr (4, [.ref rb, vs, .ref pr, .ref pl, .ref fo, .ref sa, .int (nI sw), .int (nI ax), .int (nI wi), .int (nI va), .int (nI sl)])), (pr, .inr (0, [.ref p1, .ref p2, .ref p3, .ref p4, .int (nI n)])), (p1, .inl (cI, 10, .inl (wA f1)))] e_NS (fun w => w = [(h, .inr (4, [.ref rb, vs, .ref pr, .ref pl, .ref fo, .ref sa, .int (nI sw), .int (nI ax), .int (nI wi), .int (nI va), .int (nI sl)])), (pr, .inr (0, [.ref p1, .ref p2, .ref p3, .ref p4, .int (nI n)])), (p1, .inl (cI, 10, .inl (wA f1)))]) := by
  intro hfl sz
  refine xk_of (cc := b_Pk_indexOf) (maxL := 3) (ret := (Option.some Jvm.ClassFile.FieldType.int)) (by decide) rfl (Nat.le_of_ble_eq_true rfl) ?_
  intro p e s m args below meth c ls H locs A Q hQ hx hb hml hr hts hown hlk hnm hsz hAe hP hK hD hS hA hE hAH hl hem
  have ht : ∀ w ∈ mw, w.before args s = true := fun w h => hts w (List.mem_cons_of_mem _ h)
  have hl : lv_has ls 3 [(0, .ref h), (1, .int x)] := hl
  refine lv_aload_n hx hb d_Pk_indexOf_0 rfl (lv_at hl 0 rfl) ?_
  refine va_get (D := D) (ci := 4) (v := .ref pr) (C := R_Pk) (T := T_Pk) (N := 11) hx hb ht u_Pk hown hK hP 0 rfl rfl 2 (by decide) (ht _ wd_86) (fun _ h9 => h9) rfl d_Pk_indexOf_1 ?_
  refine lv_iload_n hx hb d_Pk_indexOf_4 rfl (lv_at hl 1 rfl) ?_
  refine ck_i (wc := [(pr, .inr (0, [.ref p1, .ref p2, .ref p3, .ref p4, .int (nI n)])), (p1, .inl (cI, 10, .inl (wA f1)))]) (va_runV (As := [.int x]) (rest := []) (C := R_Cl) ⟨hx, hb, hml, hown, ht⟩ (c_Cl_find l Hs D cI cZ cL pr p1 p2 p3 p4 n f1 x hn H.size) (gw_V 1 ht wd_133 wd_3 wd_174 wd_131 wd_132 (by decide +kernel) ⟨Nat.le_of_ble_eq_true rfl, Nat.le_of_ble_eq_true rfl⟩) (k_preV hE hAH hK hP hD hS [1, 2] rfl rfl 1 rfl rfl) rfl rfl hl.1 rfl (lv_room (Nat.le_of_ble_eq_true rfl)) d_Pk_indexOf_5 ⟨Nat.le_of_ble_eq_true rfl, Nat.le_of_ble_eq_true rfl⟩) hP hD hS hA [1, 2] rfl rfl (fun r5 w1 H locs hpost hP hD hS => ?_)
  obtain ⟨r0, hfd, rfl, rfl⟩ := hpost
  have hP : va_P D kcl [(h, .inr (4, [.ref rb, vs, .ref pr, .ref pl, .ref fo, .ref sa, .int (nI sw), .int (nI ax), .int (nI wi), .int (nI va), .int (nI sl)])), (pr, .inr (0, [.ref p1, .ref p2, .ref p3, .ref p4, .int (nI n)])), (p1, .inl (cI, 10, .inl (wA f1)))] H := hP
  have hD : va_D A [(h, .inr (4, [.ref rb, vs, .ref pr, .ref pl, .ref fo, .ref sa, .int (nI sw), .int (nI ax), .int (nI wi), .int (nI va), .int (nI sl)])), (pr, .inr (0, [.ref p1, .ref p2, .ref p3, .ref p4, .int (nI n)])), (p1, .inl (cI, 10, .inl (wA f1)))] := hD
  refine lv_istore_n (lv' := [(2, .int r5), (0, .ref h), (1, .int x)]) hx hb d_Pk_indexOf_8 rfl hl (by decide) rfl (fun ls hl => ?_)
  refine lv_iload_n hx hb d_Pk_indexOf_9 rfl (lv_at hl 0 rfl) ?_
  refine lv_iconst (v := -1) hx hb d_Pk_indexOf_10 (by decide) ?_
  refine lv_icmp_ne hx hb d_Pk_indexOf_11 rfl (fun h11 => ?_) (fun h11 => ?_)
  · exfalso; rcases hfd with ⟨j, h1, h2, -, -⟩ | ⟨h1, -⟩; exact hno j h1 h2; exact h11 h1
  · refine xk_new (E := e_NS) hfl hx hb (hml.trans hl.1.symm) hown (by decide) (xk_NS ht hE) (ht _ wd_780) (ht _ wd_789) hE hAH hP hS hA (Nat.le_of_ble_eq_true rfl) (Nat.le_of_ble_eq_true rfl) (Nat.le_of_ble_eq_true rfl) (Nat.le_of_ble_eq_true rfl) d_Pk_indexOf_14 d_Pk_indexOf_17 d_Pk_indexOf_18 (fun xa H locs ce hce hst hcl hP hS => ?_)
    exact xk_athrow hQ hx hb hlk hem hAe hK hP hD hS hce hst hcl (Nat.le_of_ble_eq_true rfl) (Nat.le_of_ble_eq_true rfl) (Nat.le_of_ble_eq_true rfl) rfl d_Pk_indexOf_21
set_option maxHeartbeats 4000000 in
set_option maxRecDepth 100000 in
theorem c_Pk_waited1 (l : Launch) (Hs : Heap) (D : va_G) (cI cZ cL : ClassId) (h : Nat) (rb : Nat) (pr : Nat) (pl : Nat) (fo : Nat) (sa : Nat) (sw : Nat) (ax : Nat) (wi : Nat) (va : Nat) (sl : Nat) (vs : Value) (p1 : Nat) (p2 : Nat) (p3 : Nat) (p4 : Nat) (n : Nat) (f1 : Nat → Nat) (f3 : Nat → Nat) (i : Nat) (v : Nat) (hn : n ≤ 10) (hi : i < n) (hv : f1 i = v) (hid : ∀ t, t < n → f1 t < 2 ^ 31) (hinj : ∀ i j, i < n → j < n → f1 i = f1 j → i = j) : kI l Hs D kcl (ty3 cI cZ cL) y_Pk_waited (mws y_Pk_waited b_Pk_waited 2 (Option.some Jvm.ClassFile.FieldType.int)) ({ frames := 2, cells := 0, slots := 0, locals := 44 } : Room) [.ref h, .int (nI v)] [(h, .inr (4, [.ref rb, vs, .ref pr, .ref pl, .ref fo, .ref sa, .int (nI sw), .int (nI ax), .int (nI wi), .int (nI va), .int (nI sl)])), (pr, .inr (0, [.ref p1, .ref p2, .ref p3, .ref p4, .int (nI n)])), (p1, .inl (cI, 10, .inl (wA f1))), (p3, .inl (cI, 10, .inl (wA f3)))] (fun r w => r = nI (f3 i) ∧ w = [(h, .inr (4, [.ref rb, vs, .ref pr, .ref pl, .ref fo, .ref sa, .int (nI sw), .int (nI ax), .int (nI wi), .int (nI va), .int (nI sl)])), (pr, .inr (0, [.ref p1, .ref p2, .ref p3, .ref p4, .int (nI n)])), (p1, .inl (cI, 10, .inl (wA f1))), (p3, .inl (cI, 10, .inl (wA f3)))]) := by
  intro sz
  refine k_of (cc := b_Pk_waited) (maxL := 2) (ret := (Option.some Jvm.ClassFile.FieldType.int)) (by decide) rfl (Nat.le_of_ble_eq_true rfl) ?_
  intro p e s m args below meth c ls H locs A Q hQ hx hb hml hr hts hown hlk hnm hsz hAe hP hK hD hS hA hE hAH hl
  have ht : ∀ w ∈ mw, w.before args s = true := fun w h => hts w (List.mem_cons_of_mem _ h)
  have hl : lv_has ls 2 [(0, .ref h), (1, .int (nI v))] := hl
  refine lv_aload_n hx hb d_Pk_waited_0 rfl (lv_at hl 0 rfl) ?_
  refine va_get (D := D) (ci := 4) (v := .ref pr) (C := R_Pk) (T := T_Pk) (N := 11) hx hb ht u_Pk hown hK hP 0 rfl rfl 2 (by decide) (ht _ wd_86) (fun _ h9 => h9) rfl d_Pk_waited_1 ?_
  refine lv_aload_n hx hb d_Pk_waited_4 rfl (lv_at hl 0 rfl) ?_
  refine lv_iload_n hx hb d_Pk_waited_5 rfl (lv_at hl 1 rfl) ?_
  refine ck_i (wc := [(h, .inr (4, [.ref rb, vs, .ref pr, .ref pl, .ref fo, .ref sa, .int (nI sw), .int (nI ax), .int (nI wi), .int (nI va), .int (nI sl)])), (pr, .inr (0, [.ref p1, .ref p2, .ref p3, .ref p4, .int (nI n)])), (p1, .inl (cI, 10, .inl (wA f1)))]) (va_runV (As := [.int (nI v)]) (rest := [.ref pr]) (C := R_Pk) ⟨hx, hb, hml, hown, ht⟩ (c_Pk_indexOf1 l Hs D cI cZ cL h rb pr pl fo sa sw ax wi va sl vs p1 p2 p3 p4 n f1 i v hn hi hv hid hinj H.size) (gw_V 1 ht wd_779 wd_1 wd_776 wd_778 ws_27 (by decide +kernel) ⟨Nat.le_of_ble_eq_true rfl, Nat.le_of_ble_eq_true rfl⟩) (k_preV hE hAH hK hP hD hS [0, 1, 2] rfl rfl 0 rfl rfl) rfl rfl hl.1 rfl (lv_room (Nat.le_of_ble_eq_true rfl)) d_Pk_waited_6 ⟨Nat.le_of_ble_eq_true rfl, Nat.le_of_ble_eq_true rfl⟩) hP hD hS hA [0, 1, 2] rfl rfl (fun r6 w1 H locs hpost hP hD hS => ?_)
  obtain ⟨rfl, rfl⟩ := hpost
  have hP : va_P D kcl [(h, .inr (4, [.ref rb, vs, .ref pr, .ref pl, .ref fo, .ref sa, .int (nI sw), .int (nI ax), .int (nI wi), .int (nI va), .int (nI sl)])), (pr, .inr (0, [.ref p1, .ref p2, .ref p3, .ref p4, .int (nI n)])), (p1, .inl (cI, 10, .inl (wA f1))), (p3, .inl (cI, 10, .inl (wA f3)))] H := hP
  have hD : va_D A [(h, .inr (4, [.ref rb, vs, .ref pr, .ref pl, .ref fo, .ref sa, .int (nI sw), .int (nI ax), .int (nI wi), .int (nI va), .int (nI sl)])), (pr, .inr (0, [.ref p1, .ref p2, .ref p3, .ref p4, .int (nI n)])), (p1, .inl (cI, 10, .inl (wA f1))), (p3, .inl (cI, 10, .inl (wA f3)))] := hD
  refine ck_i (wc := [(pr, .inr (0, [.ref p1, .ref p2, .ref p3, .ref p4, .int (nI n)])), (p3, .inl (cI, 10, .inl (wA f3)))]) (va_runV (As := [.int (nI i)]) (rest := []) (C := R_Cl) ⟨hx, hb, hml, hown, ht⟩ (c_Cl_waitAt l Hs D cI cZ cL pr p1 p2 p3 p4 n f3 i (by omega) H.size) (gw_V 1 ht wd_157 wd_3 wd_813 wd_155 wd_156 (by decide +kernel) ⟨Nat.le_of_ble_eq_true rfl, Nat.le_of_ble_eq_true rfl⟩) (k_preV hE hAH hK hP hD hS [1, 3] rfl rfl 1 rfl rfl) rfl rfl hl.1 rfl (lv_room (Nat.le_of_ble_eq_true rfl)) d_Pk_waited_9 ⟨Nat.le_of_ble_eq_true rfl, Nat.le_of_ble_eq_true rfl⟩) hP hD hS hA [1, 3] rfl rfl (fun r9 w1 H locs hpost hP hD hS => ?_)
  obtain ⟨rfl, rfl⟩ := hpost
  have hP : va_P D kcl [(h, .inr (4, [.ref rb, vs, .ref pr, .ref pl, .ref fo, .ref sa, .int (nI sw), .int (nI ax), .int (nI wi), .int (nI va), .int (nI sl)])), (pr, .inr (0, [.ref p1, .ref p2, .ref p3, .ref p4, .int (nI n)])), (p1, .inl (cI, 10, .inl (wA f1))), (p3, .inl (cI, 10, .inl (wA f3)))] H := hP
  have hD : va_D A [(h, .inr (4, [.ref rb, vs, .ref pr, .ref pl, .ref fo, .ref sa, .int (nI sw), .int (nI ax), .int (nI wi), .int (nI va), .int (nI sl)])), (pr, .inr (0, [.ref p1, .ref p2, .ref p3, .ref p4, .int (nI n)])), (p1, .inl (cI, 10, .inl (wA f1))), (p3, .inl (cI, 10, .inl (wA f3)))] := hD
  exact k_reti hQ hx hb hr hlk hAe hK hP hD hS (Nat.le_of_ble_eq_true rfl) (Nat.le_of_ble_eq_true rfl) (Nat.le_of_ble_eq_true rfl) ⟨rfl, rfl⟩ d_Pk_waited_12
set_option maxHeartbeats 4000000 in
set_option maxRecDepth 100000 in
theorem c_Pk_waited0 (l : Launch) (Hs : Heap) (D : va_G) (cI cZ cL : ClassId) (h : Nat) (rb : Nat) (pr : Nat) (pl : Nat) (fo : Nat) (sa : Nat) (sw : Nat) (ax : Nat) (wi : Nat) (va : Nat) (sl : Nat) (vs : Value) (p1 : Nat) (p2 : Nat) (p3 : Nat) (p4 : Nat) (n : Nat) (f1 : Nat → Nat) (x : Int32) (hn : n ≤ 10) (hno : ∀ t, t < n → nI (f1 t) ≠ x) : kX l Hs D kcl (ty3 cI cZ cL) y_Pk_waited (mws y_Pk_waited b_Pk_waited 2 (Option.some Jvm.ClassFile.FieldType.int)) ({ frames := 7, cells := 1, slots := 6, locals := 103 } : Room) [.ref h, .int x] [(h, .inr (4, [.ref rb, vs, .ref pr, .ref pl, .ref fo, .ref sa, .int (nI sw), .int (nI ax), .int (nI wi), .int (nI va), .int (nI sl)])), (pr, .inr (0, [.ref p1, .ref p2, .ref p3, .ref p4, .int (nI n)])), (p1, .inl (cI, 10, .inl (wA f1)))] e_NS (fun w => w = [(h, .inr (4, [.ref rb, vs, .ref pr, .ref pl, .ref fo, .ref sa, .int (nI sw), .int (nI ax), .int (nI wi), .int (nI va), .int (nI sl)])), (pr, .inr (0, [.ref p1, .ref p2, .ref p3, .ref p4, .int (nI n)])), (p1, .inl (cI, 10, .inl (wA f1)))]) := by
  intro hfl sz
  refine xk_of (cc := b_Pk_waited) (maxL := 2) (ret := (Option.some Jvm.ClassFile.FieldType.int)) (by decide) rfl (Nat.le_of_ble_eq_true rfl) ?_
  intro p e s m args below meth c ls H locs A Q hQ hx hb hml hr hts hown hlk hnm hsz hAe hP hK hD hS hA hE hAH hl hem
  have ht : ∀ w ∈ mw, w.before args s = true := fun w h => hts w (List.mem_cons_of_mem _ h)
  have hl : lv_has ls 2 [(0, .ref h), (1, .int x)] := hl
  refine lv_aload_n hx hb d_Pk_waited_0 rfl (lv_at hl 0 rfl) ?_
  refine va_get (D := D) (ci := 4) (v := .ref pr) (C := R_Pk) (T := T_Pk) (N := 11) hx hb ht u_Pk hown hK hP 0 rfl rfl 2 (by decide) (ht _ wd_86) (fun _ h9 => h9) rfl d_Pk_waited_1 ?_
  refine lv_aload_n hx hb d_Pk_waited_4 rfl (lv_at hl 0 rfl) ?_
  refine lv_iload_n hx hb d_Pk_waited_5 rfl (lv_at hl 1 rfl) ?_
  refine xk_prop (wc := [(h, .inr (4, [.ref rb, vs, .ref pr, .ref pl, .ref fo, .ref sa, .int (nI sw), .int (nI ax), .int (nI wi), .int (nI va), .int (nI sl)])), (pr, .inr (0, [.ref p1, .ref p2, .ref p3, .ref p4, .int (nI n)])), (p1, .inl (cI, 10, .inl (wA f1)))]) hQ hlk hem hAe hK (xk_runV (As := [.int x]) (rest := [.ref pr]) (C := R_Pk) ⟨hx, hb, hml, hown, ht⟩ (c_Pk_indexOf0 l Hs D cI cZ cL h rb pr pl fo sa sw ax wi va sl vs p1 p2 p3 p4 n f1 x hn hno hfl H.size) (gw_V 1 ht wd_779 wd_1 wd_776 wd_778 ws_27 (by decide +kernel) ⟨Nat.le_of_ble_eq_true rfl, Nat.le_of_ble_eq_true rfl⟩) (k_preV hE hAH hK hP hD hS [0, 1, 2] rfl rfl 0 rfl rfl) rfl rfl hl.1 rfl (lv_room (Nat.le_of_ble_eq_true rfl)) d_Pk_waited_6 ⟨Nat.le_of_ble_eq_true rfl, Nat.le_of_ble_eq_true rfl⟩) hP hD hS hA [0, 1, 2] rfl rfl (fun w1 hpost => ?_) (Nat.le_of_ble_eq_true rfl) (Nat.le_of_ble_eq_true rfl)
  obtain rfl := hpost
  exact ⟨Nat.le_of_ble_eq_true rfl, rfl⟩
set_option maxHeartbeats 4000000 in
set_option maxRecDepth 100000 in
theorem c_Pk_worst1 (l : Launch) (Hs : Heap) (D : va_G) (cI cZ cL : ClassId) (h : Nat) (rb : Nat) (pr : Nat) (pl : Nat) (fo : Nat) (sa : Nat) (sw : Nat) (ax : Nat) (wi : Nat) (va : Nat) (sl : Nat) (vs : Value) (p1 : Nat) (p2 : Nat) (p3 : Nat) (p4 : Nat) (n : Nat) (f1 : Nat → Nat) (f4 : Nat → Nat) (i : Nat) (v : Nat) (hn : n ≤ 10) (hi : i < n) (hv : f1 i = v) (hid : ∀ t, t < n → f1 t < 2 ^ 31) (hinj : ∀ i j, i < n → j < n → f1 i = f1 j → i = j) : kI l Hs D kcl (ty3 cI cZ cL) y_Pk_worst (mws y_Pk_worst b_Pk_worst 2 (Option.some Jvm.ClassFile.FieldType.int)) ({ frames := 2, cells := 0, slots := 0, locals := 44 } : Room) [.ref h, .int (nI v)] [(h, .inr (4, [.ref rb, vs, .ref pr, .ref pl, .ref fo, .ref sa, .int (nI sw), .int (nI ax), .int (nI wi), .int (nI va), .int (nI sl)])), (pr, .inr (0, [.ref p1, .ref p2, .ref p3, .ref p4, .int (nI n)])), (p1, .inl (cI, 10, .inl (wA f1))), (p4, .inl (cI, 10, .inl (wA f4)))] (fun r w => r = nI (f4 i) ∧ w = [(h, .inr (4, [.ref rb, vs, .ref pr, .ref pl, .ref fo, .ref sa, .int (nI sw), .int (nI ax), .int (nI wi), .int (nI va), .int (nI sl)])), (pr, .inr (0, [.ref p1, .ref p2, .ref p3, .ref p4, .int (nI n)])), (p1, .inl (cI, 10, .inl (wA f1))), (p4, .inl (cI, 10, .inl (wA f4)))]) := by
  intro sz
  refine k_of (cc := b_Pk_worst) (maxL := 2) (ret := (Option.some Jvm.ClassFile.FieldType.int)) (by decide) rfl (Nat.le_of_ble_eq_true rfl) ?_
  intro p e s m args below meth c ls H locs A Q hQ hx hb hml hr hts hown hlk hnm hsz hAe hP hK hD hS hA hE hAH hl
  have ht : ∀ w ∈ mw, w.before args s = true := fun w h => hts w (List.mem_cons_of_mem _ h)
  have hl : lv_has ls 2 [(0, .ref h), (1, .int (nI v))] := hl
  refine lv_aload_n hx hb d_Pk_worst_0 rfl (lv_at hl 0 rfl) ?_
  refine va_get (D := D) (ci := 4) (v := .ref pr) (C := R_Pk) (T := T_Pk) (N := 11) hx hb ht u_Pk hown hK hP 0 rfl rfl 2 (by decide) (ht _ wd_86) (fun _ h9 => h9) rfl d_Pk_worst_1 ?_
  refine lv_aload_n hx hb d_Pk_worst_4 rfl (lv_at hl 0 rfl) ?_
  refine lv_iload_n hx hb d_Pk_worst_5 rfl (lv_at hl 1 rfl) ?_
  refine ck_i (wc := [(h, .inr (4, [.ref rb, vs, .ref pr, .ref pl, .ref fo, .ref sa, .int (nI sw), .int (nI ax), .int (nI wi), .int (nI va), .int (nI sl)])), (pr, .inr (0, [.ref p1, .ref p2, .ref p3, .ref p4, .int (nI n)])), (p1, .inl (cI, 10, .inl (wA f1)))]) (va_runV (As := [.int (nI v)]) (rest := [.ref pr]) (C := R_Pk) ⟨hx, hb, hml, hown, ht⟩ (c_Pk_indexOf1 l Hs D cI cZ cL h rb pr pl fo sa sw ax wi va sl vs p1 p2 p3 p4 n f1 i v hn hi hv hid hinj H.size) (gw_V 1 ht wd_779 wd_1 wd_776 wd_778 ws_27 (by decide +kernel) ⟨Nat.le_of_ble_eq_true rfl, Nat.le_of_ble_eq_true rfl⟩) (k_preV hE hAH hK hP hD hS [0, 1, 2] rfl rfl 0 rfl rfl) rfl rfl hl.1 rfl (lv_room (Nat.le_of_ble_eq_true rfl)) d_Pk_worst_6 ⟨Nat.le_of_ble_eq_true rfl, Nat.le_of_ble_eq_true rfl⟩) hP hD hS hA [0, 1, 2] rfl rfl (fun r6 w1 H locs hpost hP hD hS => ?_)
  obtain ⟨rfl, rfl⟩ := hpost
  have hP : va_P D kcl [(h, .inr (4, [.ref rb, vs, .ref pr, .ref pl, .ref fo, .ref sa, .int (nI sw), .int (nI ax), .int (nI wi), .int (nI va), .int (nI sl)])), (pr, .inr (0, [.ref p1, .ref p2, .ref p3, .ref p4, .int (nI n)])), (p1, .inl (cI, 10, .inl (wA f1))), (p4, .inl (cI, 10, .inl (wA f4)))] H := hP
  have hD : va_D A [(h, .inr (4, [.ref rb, vs, .ref pr, .ref pl, .ref fo, .ref sa, .int (nI sw), .int (nI ax), .int (nI wi), .int (nI va), .int (nI sl)])), (pr, .inr (0, [.ref p1, .ref p2, .ref p3, .ref p4, .int (nI n)])), (p1, .inl (cI, 10, .inl (wA f1))), (p4, .inl (cI, 10, .inl (wA f4)))] := hD
  refine ck_i (wc := [(pr, .inr (0, [.ref p1, .ref p2, .ref p3, .ref p4, .int (nI n)])), (p4, .inl (cI, 10, .inl (wA f4)))]) (va_runV (As := [.int (nI i)]) (rest := []) (C := R_Cl) ⟨hx, hb, hml, hown, ht⟩ (c_Cl_worstAt l Hs D cI cZ cL pr p1 p2 p3 p4 n f4 i (by omega) H.size) (gw_V 1 ht wd_824 wd_3 wd_821 wd_822 wd_823 (by decide +kernel) ⟨Nat.le_of_ble_eq_true rfl, Nat.le_of_ble_eq_true rfl⟩) (k_preV hE hAH hK hP hD hS [1, 3] rfl rfl 1 rfl rfl) rfl rfl hl.1 rfl (lv_room (Nat.le_of_ble_eq_true rfl)) d_Pk_worst_9 ⟨Nat.le_of_ble_eq_true rfl, Nat.le_of_ble_eq_true rfl⟩) hP hD hS hA [1, 3] rfl rfl (fun r9 w1 H locs hpost hP hD hS => ?_)
  obtain ⟨rfl, rfl⟩ := hpost
  have hP : va_P D kcl [(h, .inr (4, [.ref rb, vs, .ref pr, .ref pl, .ref fo, .ref sa, .int (nI sw), .int (nI ax), .int (nI wi), .int (nI va), .int (nI sl)])), (pr, .inr (0, [.ref p1, .ref p2, .ref p3, .ref p4, .int (nI n)])), (p1, .inl (cI, 10, .inl (wA f1))), (p4, .inl (cI, 10, .inl (wA f4)))] H := hP
  have hD : va_D A [(h, .inr (4, [.ref rb, vs, .ref pr, .ref pl, .ref fo, .ref sa, .int (nI sw), .int (nI ax), .int (nI wi), .int (nI va), .int (nI sl)])), (pr, .inr (0, [.ref p1, .ref p2, .ref p3, .ref p4, .int (nI n)])), (p1, .inl (cI, 10, .inl (wA f1))), (p4, .inl (cI, 10, .inl (wA f4)))] := hD
  exact k_reti hQ hx hb hr hlk hAe hK hP hD hS (Nat.le_of_ble_eq_true rfl) (Nat.le_of_ble_eq_true rfl) (Nat.le_of_ble_eq_true rfl) ⟨rfl, rfl⟩ d_Pk_worst_12
set_option maxHeartbeats 4000000 in
set_option maxRecDepth 100000 in
theorem c_Pk_worst0 (l : Launch) (Hs : Heap) (D : va_G) (cI cZ cL : ClassId) (h : Nat) (rb : Nat) (pr : Nat) (pl : Nat) (fo : Nat) (sa : Nat) (sw : Nat) (ax : Nat) (wi : Nat) (va : Nat) (sl : Nat) (vs : Value) (p1 : Nat) (p2 : Nat) (p3 : Nat) (p4 : Nat) (n : Nat) (f1 : Nat → Nat) (x : Int32) (hn : n ≤ 10) (hno : ∀ t, t < n → nI (f1 t) ≠ x) : kX l Hs D kcl (ty3 cI cZ cL) y_Pk_worst (mws y_Pk_worst b_Pk_worst 2 (Option.some Jvm.ClassFile.FieldType.int)) ({ frames := 7, cells := 1, slots := 6, locals := 103 } : Room) [.ref h, .int x] [(h, .inr (4, [.ref rb, vs, .ref pr, .ref pl, .ref fo, .ref sa, .int (nI sw), .int (nI ax), .int (nI wi), .int (nI va), .int (nI sl)])), (pr, .inr (0, [.ref p1, .ref p2, .ref p3, .ref p4, .int (nI n)])), (p1, .inl (cI, 10, .inl (wA f1)))] e_NS (fun w => w = [(h, .inr (4, [.ref rb, vs, .ref pr, .ref pl, .ref fo, .ref sa, .int (nI sw), .int (nI ax), .int (nI wi), .int (nI va), .int (nI sl)])), (pr, .inr (0, [.ref p1, .ref p2, .ref p3, .ref p4, .int (nI n)])), (p1, .inl (cI, 10, .inl (wA f1)))]) := by
  intro hfl sz
  refine xk_of (cc := b_Pk_worst) (maxL := 2) (ret := (Option.some Jvm.ClassFile.FieldType.int)) (by decide) rfl (Nat.le_of_ble_eq_true rfl) ?_
  intro p e s m args below meth c ls H locs A Q hQ hx hb hml hr hts hown hlk hnm hsz hAe hP hK hD hS hA hE hAH hl hem
  have ht : ∀ w ∈ mw, w.before args s = true := fun w h => hts w (List.mem_cons_of_mem _ h)
  have hl : lv_has ls 2 [(0, .ref h), (1, .int x)] := hl
  refine lv_aload_n hx hb d_Pk_worst_0 rfl (lv_at hl 0 rfl) ?_
  refine va_get (D := D) (ci := 4) (v := .ref pr) (C := R_Pk) (T := T_Pk) (N := 11) hx hb ht u_Pk hown hK hP 0 rfl rfl 2 (by decide) (ht _ wd_86) (fun _ h9 => h9) rfl d_Pk_worst_1 ?_
  refine lv_aload_n hx hb d_Pk_worst_4 rfl (lv_at hl 0 rfl) ?_
  refine lv_iload_n hx hb d_Pk_worst_5 rfl (lv_at hl 1 rfl) ?_
  refine xk_prop (wc := [(h, .inr (4, [.ref rb, vs, .ref pr, .ref pl, .ref fo, .ref sa, .int (nI sw), .int (nI ax), .int (nI wi), .int (nI va), .int (nI sl)])), (pr, .inr (0, [.ref p1, .ref p2, .ref p3, .ref p4, .int (nI n)])), (p1, .inl (cI, 10, .inl (wA f1)))]) hQ hlk hem hAe hK (xk_runV (As := [.int x]) (rest := [.ref pr]) (C := R_Pk) ⟨hx, hb, hml, hown, ht⟩ (c_Pk_indexOf0 l Hs D cI cZ cL h rb pr pl fo sa sw ax wi va sl vs p1 p2 p3 p4 n f1 x hn hno hfl H.size) (gw_V 1 ht wd_779 wd_1 wd_776 wd_778 ws_27 (by decide +kernel) ⟨Nat.le_of_ble_eq_true rfl, Nat.le_of_ble_eq_true rfl⟩) (k_preV hE hAH hK hP hD hS [0, 1, 2] rfl rfl 0 rfl rfl) rfl rfl hl.1 rfl (lv_room (Nat.le_of_ble_eq_true rfl)) d_Pk_worst_6 ⟨Nat.le_of_ble_eq_true rfl, Nat.le_of_ble_eq_true rfl⟩) hP hD hS hA [0, 1, 2] rfl rfl (fun w1 hpost => ?_) (Nat.le_of_ble_eq_true rfl) (Nat.le_of_ble_eq_true rfl)
  obtain rfl := hpost
  exact ⟨Nat.le_of_ble_eq_true rfl, rfl⟩
set_option maxHeartbeats 4000000 in
set_option maxRecDepth 100000 in
theorem c_Pk_span1 (l : Launch) (Hs : Heap) (D : va_G) (cI cZ cL : ClassId) (h : Nat) (rb : Nat) (pr : Nat) (pl : Nat) (fo : Nat) (sa : Nat) (sw : Nat) (ax : Nat) (wi : Nat) (va : Nat) (sl : Nat) (vs : Value) (p1 : Nat) (p2 : Nat) (p3 : Nat) (p4 : Nat) (n : Nat) (f1 : Nat → Nat) (f2 : Nat → Nat) (i : Nat) (v : Nat) (hn : n ≤ 10) (hi : i < n) (hv : f1 i = v) (hid : ∀ t, t < n → f1 t < 2 ^ 31) (hinj : ∀ i j, i < n → j < n → f1 i = f1 j → i = j) : kI l Hs D kcl (ty3 cI cZ cL) y_Pk_span (mws y_Pk_span b_Pk_span 2 (Option.some Jvm.ClassFile.FieldType.int)) ({ frames := 2, cells := 0, slots := 0, locals := 44 } : Room) [.ref h, .int (nI v)] [(h, .inr (4, [.ref rb, vs, .ref pr, .ref pl, .ref fo, .ref sa, .int (nI sw), .int (nI ax), .int (nI wi), .int (nI va), .int (nI sl)])), (pr, .inr (0, [.ref p1, .ref p2, .ref p3, .ref p4, .int (nI n)])), (p1, .inl (cI, 10, .inl (wA f1))), (p2, .inl (cI, 10, .inl (wA f2)))] (fun r w => r = nI (f2 i) ∧ w = [(h, .inr (4, [.ref rb, vs, .ref pr, .ref pl, .ref fo, .ref sa, .int (nI sw), .int (nI ax), .int (nI wi), .int (nI va), .int (nI sl)])), (pr, .inr (0, [.ref p1, .ref p2, .ref p3, .ref p4, .int (nI n)])), (p1, .inl (cI, 10, .inl (wA f1))), (p2, .inl (cI, 10, .inl (wA f2)))]) := by
  intro sz
  refine k_of (cc := b_Pk_span) (maxL := 2) (ret := (Option.some Jvm.ClassFile.FieldType.int)) (by decide) rfl (Nat.le_of_ble_eq_true rfl) ?_
  intro p e s m args below meth c ls H locs A Q hQ hx hb hml hr hts hown hlk hnm hsz hAe hP hK hD hS hA hE hAH hl
  have ht : ∀ w ∈ mw, w.before args s = true := fun w h => hts w (List.mem_cons_of_mem _ h)
  have hl : lv_has ls 2 [(0, .ref h), (1, .int (nI v))] := hl
  refine lv_aload_n hx hb d_Pk_span_0 rfl (lv_at hl 0 rfl) ?_
  refine va_get (D := D) (ci := 4) (v := .ref pr) (C := R_Pk) (T := T_Pk) (N := 11) hx hb ht u_Pk hown hK hP 0 rfl rfl 2 (by decide) (ht _ wd_86) (fun _ h9 => h9) rfl d_Pk_span_1 ?_
  refine lv_aload_n hx hb d_Pk_span_4 rfl (lv_at hl 0 rfl) ?_
  refine lv_iload_n hx hb d_Pk_span_5 rfl (lv_at hl 1 rfl) ?_
  refine ck_i (wc := [(h, .inr (4, [.ref rb, vs, .ref pr, .ref pl, .ref fo, .ref sa, .int (nI sw), .int (nI ax), .int (nI wi), .int (nI va), .int (nI sl)])), (pr, .inr (0, [.ref p1, .ref p2, .ref p3, .ref p4, .int (nI n)])), (p1, .inl (cI, 10, .inl (wA f1)))]) (va_runV (As := [.int (nI v)]) (rest := [.ref pr]) (C := R_Pk) ⟨hx, hb, hml, hown, ht⟩ (c_Pk_indexOf1 l Hs D cI cZ cL h rb pr pl fo sa sw ax wi va sl vs p1 p2 p3 p4 n f1 i v hn hi hv hid hinj H.size) (gw_V 1 ht wd_779 wd_1 wd_776 wd_778 ws_27 (by decide +kernel) ⟨Nat.le_of_ble_eq_true rfl, Nat.le_of_ble_eq_true rfl⟩) (k_preV hE hAH hK hP hD hS [0, 1, 2] rfl rfl 0 rfl rfl) rfl rfl hl.1 rfl (lv_room (Nat.le_of_ble_eq_true rfl)) d_Pk_span_6 ⟨Nat.le_of_ble_eq_true rfl, Nat.le_of_ble_eq_true rfl⟩) hP hD hS hA [0, 1, 2] rfl rfl (fun r6 w1 H locs hpost hP hD hS => ?_)
  obtain ⟨rfl, rfl⟩ := hpost
  have hP : va_P D kcl [(h, .inr (4, [.ref rb, vs, .ref pr, .ref pl, .ref fo, .ref sa, .int (nI sw), .int (nI ax), .int (nI wi), .int (nI va), .int (nI sl)])), (pr, .inr (0, [.ref p1, .ref p2, .ref p3, .ref p4, .int (nI n)])), (p1, .inl (cI, 10, .inl (wA f1))), (p2, .inl (cI, 10, .inl (wA f2)))] H := hP
  have hD : va_D A [(h, .inr (4, [.ref rb, vs, .ref pr, .ref pl, .ref fo, .ref sa, .int (nI sw), .int (nI ax), .int (nI wi), .int (nI va), .int (nI sl)])), (pr, .inr (0, [.ref p1, .ref p2, .ref p3, .ref p4, .int (nI n)])), (p1, .inl (cI, 10, .inl (wA f1))), (p2, .inl (cI, 10, .inl (wA f2)))] := hD
  refine ck_i (wc := [(pr, .inr (0, [.ref p1, .ref p2, .ref p3, .ref p4, .int (nI n)])), (p2, .inl (cI, 10, .inl (wA f2)))]) (va_runV (As := [.int (nI i)]) (rest := []) (C := R_Cl) ⟨hx, hb, hml, hown, ht⟩ (c_Cl_spanAt l Hs D cI cZ cL pr p1 p2 p3 p4 n f2 i (by omega) H.size) (gw_V 1 ht wd_153 wd_3 wd_832 wd_151 wd_152 (by decide +kernel) ⟨Nat.le_of_ble_eq_true rfl, Nat.le_of_ble_eq_true rfl⟩) (k_preV hE hAH hK hP hD hS [1, 3] rfl rfl 1 rfl rfl) rfl rfl hl.1 rfl (lv_room (Nat.le_of_ble_eq_true rfl)) d_Pk_span_9 ⟨Nat.le_of_ble_eq_true rfl, Nat.le_of_ble_eq_true rfl⟩) hP hD hS hA [1, 3] rfl rfl (fun r9 w1 H locs hpost hP hD hS => ?_)
  obtain ⟨rfl, rfl⟩ := hpost
  have hP : va_P D kcl [(h, .inr (4, [.ref rb, vs, .ref pr, .ref pl, .ref fo, .ref sa, .int (nI sw), .int (nI ax), .int (nI wi), .int (nI va), .int (nI sl)])), (pr, .inr (0, [.ref p1, .ref p2, .ref p3, .ref p4, .int (nI n)])), (p1, .inl (cI, 10, .inl (wA f1))), (p2, .inl (cI, 10, .inl (wA f2)))] H := hP
  have hD : va_D A [(h, .inr (4, [.ref rb, vs, .ref pr, .ref pl, .ref fo, .ref sa, .int (nI sw), .int (nI ax), .int (nI wi), .int (nI va), .int (nI sl)])), (pr, .inr (0, [.ref p1, .ref p2, .ref p3, .ref p4, .int (nI n)])), (p1, .inl (cI, 10, .inl (wA f1))), (p2, .inl (cI, 10, .inl (wA f2)))] := hD
  exact k_reti hQ hx hb hr hlk hAe hK hP hD hS (Nat.le_of_ble_eq_true rfl) (Nat.le_of_ble_eq_true rfl) (Nat.le_of_ble_eq_true rfl) ⟨rfl, rfl⟩ d_Pk_span_12
set_option maxHeartbeats 4000000 in
set_option maxRecDepth 100000 in
theorem c_Pk_span0 (l : Launch) (Hs : Heap) (D : va_G) (cI cZ cL : ClassId) (h : Nat) (rb : Nat) (pr : Nat) (pl : Nat) (fo : Nat) (sa : Nat) (sw : Nat) (ax : Nat) (wi : Nat) (va : Nat) (sl : Nat) (vs : Value) (p1 : Nat) (p2 : Nat) (p3 : Nat) (p4 : Nat) (n : Nat) (f1 : Nat → Nat) (x : Int32) (hn : n ≤ 10) (hno : ∀ t, t < n → nI (f1 t) ≠ x) : kX l Hs D kcl (ty3 cI cZ cL) y_Pk_span (mws y_Pk_span b_Pk_span 2 (Option.some Jvm.ClassFile.FieldType.int)) ({ frames := 7, cells := 1, slots := 6, locals := 103 } : Room) [.ref h, .int x] [(h, .inr (4, [.ref rb, vs, .ref pr, .ref pl, .ref fo, .ref sa, .int (nI sw), .int (nI ax), .int (nI wi), .int (nI va), .int (nI sl)])), (pr, .inr (0, [.ref p1, .ref p2, .ref p3, .ref p4, .int (nI n)])), (p1, .inl (cI, 10, .inl (wA f1)))] e_NS (fun w => w = [(h, .inr (4, [.ref rb, vs, .ref pr, .ref pl, .ref fo, .ref sa, .int (nI sw), .int (nI ax), .int (nI wi), .int (nI va), .int (nI sl)])), (pr, .inr (0, [.ref p1, .ref p2, .ref p3, .ref p4, .int (nI n)])), (p1, .inl (cI, 10, .inl (wA f1)))]) := by
  intro hfl sz
  refine xk_of (cc := b_Pk_span) (maxL := 2) (ret := (Option.some Jvm.ClassFile.FieldType.int)) (by decide) rfl (Nat.le_of_ble_eq_true rfl) ?_
  intro p e s m args below meth c ls H locs A Q hQ hx hb hml hr hts hown hlk hnm hsz hAe hP hK hD hS hA hE hAH hl hem
  have ht : ∀ w ∈ mw, w.before args s = true := fun w h => hts w (List.mem_cons_of_mem _ h)
  have hl : lv_has ls 2 [(0, .ref h), (1, .int x)] := hl
  refine lv_aload_n hx hb d_Pk_span_0 rfl (lv_at hl 0 rfl) ?_
  refine va_get (D := D) (ci := 4) (v := .ref pr) (C := R_Pk) (T := T_Pk) (N := 11) hx hb ht u_Pk hown hK hP 0 rfl rfl 2 (by decide) (ht _ wd_86) (fun _ h9 => h9) rfl d_Pk_span_1 ?_
  refine lv_aload_n hx hb d_Pk_span_4 rfl (lv_at hl 0 rfl) ?_
  refine lv_iload_n hx hb d_Pk_span_5 rfl (lv_at hl 1 rfl) ?_
  refine xk_prop (wc := [(h, .inr (4, [.ref rb, vs, .ref pr, .ref pl, .ref fo, .ref sa, .int (nI sw), .int (nI ax), .int (nI wi), .int (nI va), .int (nI sl)])), (pr, .inr (0, [.ref p1, .ref p2, .ref p3, .ref p4, .int (nI n)])), (p1, .inl (cI, 10, .inl (wA f1)))]) hQ hlk hem hAe hK (xk_runV (As := [.int x]) (rest := [.ref pr]) (C := R_Pk) ⟨hx, hb, hml, hown, ht⟩ (c_Pk_indexOf0 l Hs D cI cZ cL h rb pr pl fo sa sw ax wi va sl vs p1 p2 p3 p4 n f1 x hn hno hfl H.size) (gw_V 1 ht wd_779 wd_1 wd_776 wd_778 ws_27 (by decide +kernel) ⟨Nat.le_of_ble_eq_true rfl, Nat.le_of_ble_eq_true rfl⟩) (k_preV hE hAH hK hP hD hS [0, 1, 2] rfl rfl 0 rfl rfl) rfl rfl hl.1 rfl (lv_room (Nat.le_of_ble_eq_true rfl)) d_Pk_span_6 ⟨Nat.le_of_ble_eq_true rfl, Nat.le_of_ble_eq_true rfl⟩) hP hD hS hA [0, 1, 2] rfl rfl (fun w1 hpost => ?_) (Nat.le_of_ble_eq_true rfl) (Nat.le_of_ble_eq_true rfl)
  obtain rfl := hpost
  exact ⟨Nat.le_of_ble_eq_true rfl, rfl⟩
set_option maxHeartbeats 4000000 in
set_option maxRecDepth 100000 in
theorem c_Pk_wish1 (l : Launch) (Hs : Heap) (D : va_G) (cI cZ cL : ClassId) (h : Nat) (rb : Nat) (pr : Nat) (pl : Nat) (fo : Nat) (sa : Nat) (sw : Nat) (ax : Nat) (va : Nat) (sl : Nat) (vs : Value) (p1 : Nat) (p2 : Nat) (p3 : Nat) (p4 : Nat) (n : Nat) (f1 : Nat → Nat) (i : Nat) (v : Nat) (hn : n ≤ 10) (hi : i < n) (hv : f1 i = v) (hid : ∀ t, t < n → f1 t < 2 ^ 31) (hinj : ∀ i j, i < n → j < n → f1 i = f1 j → i = j) : kV l Hs D kcl (ty3 cI cZ cL) y_Pk_wish (mws y_Pk_wish b_Pk_wish 2 (Option.none : Option Jvm.ClassFile.FieldType)) ({ frames := 2, cells := 0, slots := 0, locals := 44 } : Room) [.ref h, .int (nI v)] [(h, .inr (4, [.ref rb, vs, .ref pr, .ref pl, .ref fo, .ref sa, .int (nI sw), .int (nI ax), .int (nI 0), .int (nI va), .int (nI sl)])), (pr, .inr (0, [.ref p1, .ref p2, .ref p3, .ref p4, .int (nI n)])), (p1, .inl (cI, 10, .inl (wA f1)))] (fun w => w = [(h, .inr (4, [.ref rb, vs, .ref pr, .ref pl, .ref fo, .ref sa, .int (nI sw), .int (nI ax), .int (nI v), .int (nI va), .int (nI sl)])), (pr, .inr (0, [.ref p1, .ref p2, .ref p3, .ref p4, .int (nI n)])), (p1, .inl (cI, 10, .inl (wA f1)))]) := by
  intro sz
  refine k_of (cc := b_Pk_wish) (maxL := 2) (ret := (Option.none : Option Jvm.ClassFile.FieldType)) (by decide) rfl (Nat.le_of_ble_eq_true rfl) ?_
  intro p e s m args below meth c ls H locs A Q hQ hx hb hml hr hts hown hlk hnm hsz hAe hP hK hD hS hA hE hAH hl
  have ht : ∀ w ∈ mw, w.before args s = true := fun w h => hts w (List.mem_cons_of_mem _ h)
  have hl : lv_has ls 2 [(0, .ref h), (1, .int (nI v))] := hl
  refine lv_aload_n hx hb d_Pk_wish_0 rfl (lv_at hl 0 rfl) ?_
  refine lv_iload_n hx hb d_Pk_wish_1 rfl (lv_at hl 1 rfl) ?_
  refine ck_i (wc := [(h, .inr (4, [.ref rb, vs, .ref pr, .ref pl, .ref fo, .ref sa, .int (nI sw), .int (nI ax), .int (nI 0), .int (nI va), .int (nI sl)])), (pr, .inr (0, [.ref p1, .ref p2, .ref p3, .ref p4, .int (nI n)])), (p1, .inl (cI, 10, .inl (wA f1)))]) (va_runV (As := [.int (nI v)]) (rest := []) (C := R_Pk) ⟨hx, hb, hml, hown, ht⟩ (c_Pk_indexOf1 l Hs D cI cZ cL h rb pr pl fo sa sw ax 0 va sl vs p1 p2 p3 p4 n f1 i v hn hi hv hid hinj H.size) (gw_V 1 ht wd_779 wd_1 wd_776 wd_778 ws_27 (by decide +kernel) ⟨Nat.le_of_ble_eq_true rfl, Nat.le_of_ble_eq_true rfl⟩) (k_preV hE hAH hK hP hD hS [0, 1, 2] rfl rfl 0 rfl rfl) rfl rfl hl.1 rfl (lv_room (Nat.le_of_ble_eq_true rfl)) d_Pk_wish_2 ⟨Nat.le_of_ble_eq_true rfl, Nat.le_of_ble_eq_true rfl⟩) hP hD hS hA [0, 1, 2] rfl rfl (fun r2 w1 H locs hpost hP hD hS => ?_)
  obtain ⟨rfl, rfl⟩ := hpost
  have hP : va_P D kcl [(h, .inr (4, [.ref rb, vs, .ref pr, .ref pl, .ref fo, .ref sa, .int (nI sw), .int (nI ax), .int (nI 0), .int (nI va), .int (nI sl)])), (pr, .inr (0, [.ref p1, .ref p2, .ref p3, .ref p4, .int (nI n)])), (p1, .inl (cI, 10, .inl (wA f1)))] H := hP
  have hD : va_D A [(h, .inr (4, [.ref rb, vs, .ref pr, .ref pl, .ref fo, .ref sa, .int (nI sw), .int (nI ax), .int (nI 0), .int (nI va), .int (nI sl)])), (pr, .inr (0, [.ref p1, .ref p2, .ref p3, .ref p4, .int (nI n)])), (p1, .inl (cI, 10, .inl (wA f1)))] := hD
  refine lv_pop hx hb d_Pk_wish_5 rfl ?_
  refine lv_aload_n hx hb d_Pk_wish_6 rfl (lv_at hl 0 rfl) ?_
  refine va_get (D := D) (ci := 4) (v := .int (nI 0)) (C := R_Pk) (T := T_Pk) (N := 11) hx hb ht u_Pk hown hK hP 0 rfl rfl 8 (by decide) (ht _ wd_92) (fun _ h9 => h9) rfl d_Pk_wish_7 ?_
  refine wi_if_eq hx hb d_Pk_wish_10 rfl (by decide) (fun _ => ?_) (fun h => absurd h (by decide))
  refine lv_aload_n hx hb d_Pk_wish_21 rfl (lv_at hl 0 rfl) ?_
  refine lv_iload_n hx hb d_Pk_wish_22 rfl (lv_at hl 1 rfl) ?_
  refine va_put (D := D) (ci := 4) (v := .int (nI v)) (ty := .int) (C := R_Pk) (T := T_Pk) (N := 11) hx hb ht u_Pk t_Pk t_Pk_ok n_Pk hown hK hP hD hS 0 rfl rfl 8 (by decide) (ht _ wd_92) (fun _ h9 => h9) rfl (by decide +kernel) rfl rfl (Nat.le_of_ble_eq_true rfl) d_Pk_wish_23 (fun H locs hP hD hS => ?_)
  have hP : va_P D kcl [(h, .inr (4, [.ref rb, vs, .ref pr, .ref pl, .ref fo, .ref sa, .int (nI sw), .int (nI ax), .int (nI v), .int (nI va), .int (nI sl)])), (pr, .inr (0, [.ref p1, .ref p2, .ref p3, .ref p4, .int (nI n)])), (p1, .inl (cI, 10, .inl (wA f1)))] H := hP
  have hD : va_D A [(h, .inr (4, [.ref rb, vs, .ref pr, .ref pl, .ref fo, .ref sa, .int (nI sw), .int (nI ax), .int (nI v), .int (nI va), .int (nI sl)])), (pr, .inr (0, [.ref p1, .ref p2, .ref p3, .ref p4, .int (nI n)])), (p1, .inl (cI, 10, .inl (wA f1)))] := hD
  exact k_retv hQ hx hb hr hlk hAe hK hP hD hS (Nat.le_of_ble_eq_true rfl) (Nat.le_of_ble_eq_true rfl) (Nat.le_of_ble_eq_true rfl) rfl d_Pk_wish_26
set_option maxHeartbeats 4000000 in
set_option maxRecDepth 100000 in
theorem c_Pk_wish0 (l : Launch) (Hs : Heap) (D : va_G) (cI cZ cL : ClassId) (h : Nat) (rb : Nat) (pr : Nat) (pl : Nat) (fo : Nat) (sa : Nat) (sw : Nat) (ax : Nat) (wi : Nat) (va : Nat) (sl : Nat) (vs : Value) (p1 : Nat) (p2 : Nat) (p3 : Nat) (p4 : Nat) (n : Nat) (f1 : Nat → Nat) (x : Int32) (hn : n ≤ 10) (hno : ∀ t, t < n → nI (f1 t) ≠ x) : kX l Hs D kcl (ty3 cI cZ cL) y_Pk_wish (mws y_Pk_wish b_Pk_wish 2 (Option.none : Option Jvm.ClassFile.FieldType)) ({ frames := 7, cells := 1, slots := 6, locals := 103 } : Room) [.ref h, .int x] [(h, .inr (4, [.ref rb, vs, .ref pr, .ref pl, .ref fo, .ref sa, .int (nI sw), .int (nI ax), .int (nI wi), .int (nI va), .int (nI sl)])), (pr, .inr (0, [.ref p1, .ref p2, .ref p3, .ref p4, .int (nI n)])), (p1, .inl (cI, 10, .inl (wA f1)))] e_NS (fun w => w = [(h, .inr (4, [.ref rb, vs, .ref pr, .ref pl, .ref fo, .ref sa, .int (nI sw), .int (nI ax), .int (nI wi), .int (nI va), .int (nI sl)])), (pr, .inr (0, [.ref p1, .ref p2, .ref p3, .ref p4, .int (nI n)])), (p1, .inl (cI, 10, .inl (wA f1)))]) := by
  intro hfl sz
  refine xk_of (cc := b_Pk_wish) (maxL := 2) (ret := (Option.none : Option Jvm.ClassFile.FieldType)) (by decide) rfl (Nat.le_of_ble_eq_true rfl) ?_
  intro p e s m args below meth c ls H locs A Q hQ hx hb hml hr hts hown hlk hnm hsz hAe hP hK hD hS hA hE hAH hl hem
  have ht : ∀ w ∈ mw, w.before args s = true := fun w h => hts w (List.mem_cons_of_mem _ h)
  have hl : lv_has ls 2 [(0, .ref h), (1, .int x)] := hl
  refine lv_aload_n hx hb d_Pk_wish_0 rfl (lv_at hl 0 rfl) ?_
  refine lv_iload_n hx hb d_Pk_wish_1 rfl (lv_at hl 1 rfl) ?_
  refine xk_prop (wc := [(h, .inr (4, [.ref rb, vs, .ref pr, .ref pl, .ref fo, .ref sa, .int (nI sw), .int (nI ax), .int (nI wi), .int (nI va), .int (nI sl)])), (pr, .inr (0, [.ref p1, .ref p2, .ref p3, .ref p4, .int (nI n)])), (p1, .inl (cI, 10, .inl (wA f1)))]) hQ hlk hem hAe hK (xk_runV (As := [.int x]) (rest := []) (C := R_Pk) ⟨hx, hb, hml, hown, ht⟩ (c_Pk_indexOf0 l Hs D cI cZ cL h rb pr pl fo sa sw ax wi va sl vs p1 p2 p3 p4 n f1 x hn hno hfl H.size) (gw_V 1 ht wd_779 wd_1 wd_776 wd_778 ws_27 (by decide +kernel) ⟨Nat.le_of_ble_eq_true rfl, Nat.le_of_ble_eq_true rfl⟩) (k_preV hE hAH hK hP hD hS [0, 1, 2] rfl rfl 0 rfl rfl) rfl rfl hl.1 rfl (lv_room (Nat.le_of_ble_eq_true rfl)) d_Pk_wish_2 ⟨Nat.le_of_ble_eq_true rfl, Nat.le_of_ble_eq_true rfl⟩) hP hD hS hA [0, 1, 2] rfl rfl (fun w1 hpost => ?_) (Nat.le_of_ble_eq_true rfl) (Nat.le_of_ble_eq_true rfl)
  obtain rfl := hpost
  exact ⟨Nat.le_of_ble_eq_true rfl, rfl⟩
set_option maxHeartbeats 4000000 in
set_option maxRecDepth 100000 in
theorem c_Pk_wish2 (l : Launch) (Hs : Heap) (D : va_G) (cI cZ cL : ClassId) (h : Nat) (rb : Nat) (pr : Nat) (pl : Nat) (fo : Nat) (sa : Nat) (sw : Nat) (ax : Nat) (wi : Nat) (va : Nat) (sl : Nat) (vs : Value) (p1 : Nat) (p2 : Nat) (p3 : Nat) (p4 : Nat) (n : Nat) (f1 : Nat → Nat) (i : Nat) (v : Nat) (hn : n ≤ 10) (hi : i < n) (hv : f1 i = v) (hid : ∀ t, t < n → f1 t < 2 ^ 31) (hinj : ∀ i j, i < n → j < n → f1 i = f1 j → i = j) (hwi : 0 < wi) (hwi2 : wi < 2 ^ 31) : kX l Hs D kcl (ty3 cI cZ cL) y_Pk_wish (mws y_Pk_wish b_Pk_wish 2 (Option.none : Option Jvm.ClassFile.FieldType)) ({ frames := 6, cells := 1, slots := 6, locals := 81 } : Room) [.ref h, .int (nI v)] [(h, .inr (4, [.ref rb, vs, .ref pr, .ref pl, .ref fo, .ref sa, .int (nI sw), .int (nI ax), .int (nI wi), .int (nI va), .int (nI sl)])), (pr, .inr (0, [.ref p1, .ref p2, .ref p3, .ref p4, .int (nI n)])), (p1, .inl (cI, 10, .inl (wA f1)))] e_IS (fun w => w = [(h, .inr (4, [.ref rb, vs, .ref pr, .ref pl, .ref fo, .ref sa, .int (nI sw), .int (nI ax), .int (nI wi), .int (nI va), .int (nI sl)])), (pr, .inr (0, [.ref p1, .ref p2, .ref p3, .ref p4, .int (nI n)])), (p1, .inl (cI, 10, .inl (wA f1)))]) := by
  intro hfl sz
  refine xk_of (cc := b_Pk_wish) (maxL := 2) (ret := (Option.none : Option Jvm.ClassFile.FieldType)) (by decide) rfl (Nat.le_of_ble_eq_true rfl) ?_
  intro p e s m args below meth c ls H locs A Q hQ hx hb hml hr hts hown hlk hnm hsz hAe hP hK hD hS hA hE hAH hl hem
  have ht : ∀ w ∈ mw, w.before args s = true := fun w h => hts w (List.mem_cons_of_mem _ h)
  have hl : lv_has ls 2 [(0, .ref h), (1, .int (nI v))] := hl
  refine lv_aload_n hx hb d_Pk_wish_0 rfl (lv_at hl 0 rfl) ?_
  refine lv_iload_n hx hb d_Pk_wish_1 rfl (lv_at hl 1 rfl) ?_
  refine ck_i (wc := [(h, .inr (4, [.ref rb, vs, .ref pr, .ref pl, .ref fo, .ref sa, .int (nI sw), .int (nI ax), .int (nI wi), .int (nI va), .int (nI sl)])), (pr, .inr (0, [.ref p1, .ref p2, .ref p3, .ref p4, .int (nI n)])), (p1, .inl (cI, 10, .inl (wA f1)))]) (va_runV (As := [.int (nI v)]) (rest := []) (C := R_Pk) ⟨hx, hb, hml, hown, ht⟩ (c_Pk_indexOf1 l Hs D cI cZ cL h rb pr pl fo sa sw ax wi va sl vs p1 p2 p3 p4 n f1 i v hn hi hv hid hinj H.size) (gw_V 1 ht wd_779 wd_1 wd_776 wd_778 ws_27 (by decide +kernel) ⟨Nat.le_of_ble_eq_true rfl, Nat.le_of_ble_eq_true rfl⟩) (k_preV hE hAH hK hP hD hS [0, 1, 2] rfl rfl 0 rfl rfl) rfl rfl hl.1 rfl (lv_room (Nat.le_of_ble_eq_true rfl)) d_Pk_wish_2 ⟨Nat.le_of_ble_eq_true rfl, Nat.le_of_ble_eq_true rfl⟩) hP hD hS hA [0, 1, 2] rfl rfl (fun r2 w1 H locs hpost hP hD hS => ?_)
  obtain ⟨rfl, rfl⟩ := hpost
  have hP : va_P D kcl [(h, .inr (4, [.ref rb, vs, .ref pr, .ref pl, .ref fo, .ref sa, .int (nI sw), .int (nI ax), .int (nI wi), .int (nI va), .int (nI sl)])), (pr, .inr (0, [.ref p1, .ref p2, .ref p3, .ref p4, .int (nI n)])), (p1, .inl (cI, 10, .inl (wA f1)))] H := hP
  have hD : va_D A [(h, .inr (4, [.ref rb, vs, .ref pr, .ref pl, .ref fo, .ref sa, .int (nI sw), .int (nI ax), .int (nI wi), .int (nI va), .int (nI sl)])), (pr, .inr (0, [.ref p1, .ref p2, .ref p3, .ref p4, .int (nI n)])), (p1, .inl (cI, 10, .inl (wA f1)))] := hD
  refine lv_pop hx hb d_Pk_wish_5 rfl ?_
  refine lv_aload_n hx hb d_Pk_wish_6 rfl (lv_at hl 0 rfl) ?_
  refine va_get (D := D) (ci := 4) (v := .int (nI wi)) (C := R_Pk) (T := T_Pk) (N := 11) hx hb ht u_Pk hown hK hP 0 rfl rfl 8 (by decide) (ht _ wd_92) (fun _ h9 => h9) rfl d_Pk_wish_7 ?_
  refine wi_if_eq hx hb d_Pk_wish_10 rfl (by omega) (fun h10 => ?_) (fun h10 => ?_)
  · exfalso; omega
  · refine xk_new (E := e_IS) hfl hx hb (hml.trans hl.1.symm) hown (by decide) (xk_IS ht hE) (ht _ wd_356) (ht _ wd_365) hE hAH hP hS hA (Nat.le_of_ble_eq_true rfl) (Nat.le_of_ble_eq_true rfl) (Nat.le_of_ble_eq_true rfl) (Nat.le_of_ble_eq_true rfl) d_Pk_wish_13 d_Pk_wish_16 d_Pk_wish_17 (fun xa H locs ce hce hst hcl hP hS => ?_)
    exact xk_athrow hQ hx hb hlk hem hAe hK hP hD hS hce hst hcl (Nat.le_of_ble_eq_true rfl) (Nat.le_of_ble_eq_true rfl) (Nat.le_of_ble_eq_true rfl) rfl d_Pk_wish_20
set_option maxHeartbeats 4000000 in
set_option maxRecDepth 100000 in
theorem c_Pk_client1 (l : Launch) (Hs : Heap) (D : va_G) (cI cZ cL : ClassId) (h : Nat) (rb : Nat) (pr : Nat) (pl : Nat) (fo : Nat) (sa : Nat) (sw : Nat) (ax : Nat) (wi : Nat) (va : Nat) (sl : Nat) (vs : Value) (p1 : Nat) (p2 : Nat) (p3 : Nat) (p4 : Nat) (n : Nat) (f1 : Nat → Nat) (k : Nat) (hn : n ≤ 10) (hk : k < n) : kI l Hs D kcl (ty3 cI cZ cL) y_Pk_client (mws y_Pk_client b_Pk_client 2 (Option.some Jvm.ClassFile.FieldType.int)) ({ frames := 1, cells := 0, slots := 0, locals := 21 } : Room) [.ref h, .int (nI k)] [(h, .inr (4, [.ref rb, vs, .ref pr, .ref pl, .ref fo, .ref sa, .int (nI sw), .int (nI ax), .int (nI wi), .int (nI va), .int (nI sl)])), (pr, .inr (0, [.ref p1, .ref p2, .ref p3, .ref p4, .int (nI n)])), (p1, .inl (cI, 10, .inl (wA f1)))] (fun r w => r = nI (f1 k) ∧ w = [(h, .inr (4, [.ref rb, vs, .ref pr, .ref pl, .ref fo, .ref sa, .int (nI sw), .int (nI ax), .int (nI wi), .int (nI va), .int (nI sl)])), (pr, .inr (0, [.ref p1, .ref p2, .ref p3, .ref p4, .int (nI n)])), (p1, .inl (cI, 10, .inl (wA f1)))]) := by
  intro sz
  refine k_of (cc := b_Pk_client) (maxL := 2) (ret := (Option.some Jvm.ClassFile.FieldType.int)) (by decide) rfl (Nat.le_of_ble_eq_true rfl) ?_
  intro p e s m args below meth c ls H locs A Q hQ hx hb hml hr hts hown hlk hnm hsz hAe hP hK hD hS hA hE hAH hl
  have ht : ∀ w ∈ mw, w.before args s = true := fun w h => hts w (List.mem_cons_of_mem _ h)
  have hl : lv_has ls 2 [(0, .ref h), (1, .int (nI k))] := hl
  refine lv_iload_n hx hb d_Pk_client_0 rfl (lv_at hl 1 rfl) ?_
  refine wi_if_lt hx hb d_Pk_client_1 rfl (by omega) ?_
  refine lv_iload_n hx hb d_Pk_client_4 rfl (lv_at hl 1 rfl) ?_
  refine lv_aload_n hx hb d_Pk_client_5 rfl (lv_at hl 0 rfl) ?_
  refine va_get (D := D) (ci := 4) (v := .ref pr) (C := R_Pk) (T := T_Pk) (N := 11) hx hb ht u_Pk hown hK hP 0 rfl rfl 2 (by decide) (ht _ wd_86) (fun _ h9 => h9) rfl d_Pk_client_6 ?_
  refine ck_i (wc := [(pr, .inr (0, [.ref p1, .ref p2, .ref p3, .ref p4, .int (nI n)]))]) (va_runV (As := []) (rest := [.int (nI k)]) (C := R_Cl) ⟨hx, hb, hml, hown, ht⟩ (c_Cl_count l Hs D cI cZ cL pr p1 p2 p3 p4 n  H.size) (gw_V 0 ht wd_149 wd_3 wd_191 wd_147 wd_148 (by decide +kernel) ⟨Nat.le_of_ble_eq_true rfl, Nat.le_of_ble_eq_true rfl⟩) (k_preV hE hAH hK hP hD hS [1] rfl rfl 1 rfl rfl) rfl rfl hl.1 rfl (lv_room (Nat.le_of_ble_eq_true rfl)) d_Pk_client_9 ⟨Nat.le_of_ble_eq_true rfl, Nat.le_of_ble_eq_true rfl⟩) hP hD hS hA [1] rfl rfl (fun r9 w1 H locs hpost hP hD hS => ?_)
  obtain ⟨rfl, rfl⟩ := hpost
  have hP : va_P D kcl [(h, .inr (4, [.ref rb, vs, .ref pr, .ref pl, .ref fo, .ref sa, .int (nI sw), .int (nI ax), .int (nI wi), .int (nI va), .int (nI sl)])), (pr, .inr (0, [.ref p1, .ref p2, .ref p3, .ref p4, .int (nI n)])), (p1, .inl (cI, 10, .inl (wA f1)))] H := hP
  have hD : va_D A [(h, .inr (4, [.ref rb, vs, .ref pr, .ref pl, .ref fo, .ref sa, .int (nI sw), .int (nI ax), .int (nI wi), .int (nI va), .int (nI sl)])), (pr, .inr (0, [.ref p1, .ref p2, .ref p3, .ref p4, .int (nI n)])), (p1, .inl (cI, 10, .inl (wA f1)))] := hD
  refine wi_lt hx hb d_Pk_client_12 rfl (by omega) (by omega) (fun h12 => ?_) (fun h12 => ?_)
  · refine lv_aload_n hx hb d_Pk_client_23 rfl (lv_at hl 0 rfl) ?_
    refine va_get (D := D) (ci := 4) (v := .ref pr) (C := R_Pk) (T := T_Pk) (N := 11) hx hb ht u_Pk hown hK hP 0 rfl rfl 2 (by decide) (ht _ wd_86) (fun _ h9 => h9) rfl d_Pk_client_24 ?_
    refine lv_iload_n hx hb d_Pk_client_27 rfl (lv_at hl 1 rfl) ?_
    refine ck_i (wc := [(pr, .inr (0, [.ref p1, .ref p2, .ref p3, .ref p4, .int (nI n)])), (p1, .inl (cI, 10, .inl (wA f1)))]) (va_runV (As := [.int (nI k)]) (rest := []) (C := R_Cl) ⟨hx, hb, hml, hown, ht⟩ (c_Cl_idAt l Hs D cI cZ cL pr p1 p2 p3 p4 n f1 k (by omega) H.size) (gw_V 1 ht wd_161 wd_3 wd_878 wd_159 wd_160 (by decide +kernel) ⟨Nat.le_of_ble_eq_true rfl, Nat.le_of_ble_eq_true rfl⟩) (k_preV hE hAH hK hP hD hS [1, 2] rfl rfl 1 rfl rfl) rfl rfl hl.1 rfl (lv_room (Nat.le_of_ble_eq_true rfl)) d_Pk_client_28 ⟨Nat.le_of_ble_eq_true rfl, Nat.le_of_ble_eq_true rfl⟩) hP hD hS hA [1, 2] rfl rfl (fun r28 w1 H locs hpost hP hD hS => ?_)
    obtain ⟨rfl, rfl⟩ := hpost
    have hP : va_P D kcl [(h, .inr (4, [.ref rb, vs, .ref pr, .ref pl, .ref fo, .ref sa, .int (nI sw), .int (nI ax), .int (nI wi), .int (nI va), .int (nI sl)])), (pr, .inr (0, [.ref p1, .ref p2, .ref p3, .ref p4, .int (nI n)])), (p1, .inl (cI, 10, .inl (wA f1)))] H := hP
    have hD : va_D A [(h, .inr (4, [.ref rb, vs, .ref pr, .ref pl, .ref fo, .ref sa, .int (nI sw), .int (nI ax), .int (nI wi), .int (nI va), .int (nI sl)])), (pr, .inr (0, [.ref p1, .ref p2, .ref p3, .ref p4, .int (nI n)])), (p1, .inl (cI, 10, .inl (wA f1)))] := hD
    exact k_reti hQ hx hb hr hlk hAe hK hP hD hS (Nat.le_of_ble_eq_true rfl) (Nat.le_of_ble_eq_true rfl) (Nat.le_of_ble_eq_true rfl) ⟨rfl, rfl⟩ d_Pk_client_31
  · exfalso; omega
set_option maxHeartbeats 4000000 in
set_option maxRecDepth 100000 in
theorem c_Pk_client0 (l : Launch) (Hs : Heap) (D : va_G) (cI cZ cL : ClassId) (h : Nat) (rb : Nat) (pr : Nat) (pl : Nat) (fo : Nat) (sa : Nat) (sw : Nat) (ax : Nat) (wi : Nat) (va : Nat) (sl : Nat) (vs : Value) (p1 : Nat) (p2 : Nat) (p3 : Nat) (p4 : Nat) (n : Nat) (x : Int32) (hno : x < 0 ∨ ¬ x < nI n) : kX l Hs D kcl (ty3 cI cZ cL) y_Pk_client (mws y_Pk_client b_Pk_client 2 (Option.some Jvm.ClassFile.FieldType.int)) ({ frames := 6, cells := 1, slots := 6, locals := 81 } : Room) [.ref h, .int x] [(h, .inr (4, [.ref rb, vs, .ref pr, .ref pl, .ref fo, .ref sa, .int (nI sw), .int (nI ax), .int (nI wi), .int (nI va), .int (nI sl)])), (pr, .inr (0, [.ref p1, .ref p2, .ref p3, .ref p4, .int (nI n)]))] e_IO (fun w => w = [(h, .inr (4, [.ref rb, vs, .ref pr, .ref pl, .ref fo, .ref sa, .int (nI sw), .int (nI ax), .int (nI wi), .int (nI va), .int (nI sl)])), (pr, .inr (0, [.ref p1, .ref p2, .ref p3, .ref p4, .int (nI n)]))]) := by
  intro hfl sz
  refine xk_of (cc := b_Pk_client) (maxL := 2) (ret := (Option.some Jvm.ClassFile.FieldType.int)) (by decide) rfl (Nat.le_of_ble_eq_true rfl) ?_
  intro p e s m args below meth c ls H locs A Q hQ hx hb hml hr hts hown hlk hnm hsz hAe hP hK hD hS hA hE hAH hl hem
  have ht : ∀ w ∈ mw, w.before args s = true := fun w h => hts w (List.mem_cons_of_mem _ h)
  have hl : lv_has ls 2 [(0, .ref h), (1, .int x)] := hl
  refine lv_iload_n hx hb d_Pk_client_0 rfl (lv_at hl 1 rfl) ?_
  refine lv_if_lt hx hb d_Pk_client_1 rfl (fun h1 => ?_) (fun h1 => ?_)
  · refine xk_new (E := e_IO) hfl hx hb (hml.trans hl.1.symm) hown (by decide) (xk_IO ht hE) (ht _ wd_845) (ht _ wd_854) hE hAH hP hS hA (Nat.le_of_ble_eq_true rfl) (Nat.le_of_ble_eq_true rfl) (Nat.le_of_ble_eq_true rfl) (Nat.le_of_ble_eq_true rfl) d_Pk_client_15 d_Pk_client_18 d_Pk_client_19 (fun xa H locs ce hce hst hcl hP hS => ?_)
    exact xk_athrow hQ hx hb hlk hem hAe hK hP hD hS hce hst hcl (Nat.le_of_ble_eq_true rfl) (Nat.le_of_ble_eq_true rfl) (Nat.le_of_ble_eq_true rfl) rfl d_Pk_client_22
  · refine lv_iload_n hx hb d_Pk_client_4 rfl (lv_at hl 1 rfl) ?_
    refine lv_aload_n hx hb d_Pk_client_5 rfl (lv_at hl 0 rfl) ?_
    refine va_get (D := D) (ci := 4) (v := .ref pr) (C := R_Pk) (T := T_Pk) (N := 11) hx hb ht u_Pk hown hK hP 0 rfl rfl 2 (by decide) (ht _ wd_86) (fun _ h9 => h9) rfl d_Pk_client_6 ?_
    refine ck_i (wc := [(pr, .inr (0, [.ref p1, .ref p2, .ref p3, .ref p4, .int (nI n)]))]) (va_runV (As := []) (rest := [.int x]) (C := R_Cl) ⟨hx, hb, hml, hown, ht⟩ (c_Cl_count l Hs D cI cZ cL pr p1 p2 p3 p4 n  H.size) (gw_V 0 ht wd_149 wd_3 wd_191 wd_147 wd_148 (by decide +kernel) ⟨Nat.le_of_ble_eq_true rfl, Nat.le_of_ble_eq_true rfl⟩) (k_preV hE hAH hK hP hD hS [1] rfl rfl 1 rfl rfl) rfl rfl hl.1 rfl (lv_room (Nat.le_of_ble_eq_true rfl)) d_Pk_client_9 ⟨Nat.le_of_ble_eq_true rfl, Nat.le_of_ble_eq_true rfl⟩) hP hD hS hA [1] rfl rfl (fun r9 w1 H locs hpost hP hD hS => ?_)
    obtain ⟨rfl, rfl⟩ := hpost
    have hP : va_P D kcl [(h, .inr (4, [.ref rb, vs, .ref pr, .ref pl, .ref fo, .ref sa, .int (nI sw), .int (nI ax), .int (nI wi), .int (nI va), .int (nI sl)])), (pr, .inr (0, [.ref p1, .ref p2, .ref p3, .ref p4, .int (nI n)]))] H := hP
    have hD : va_D A [(h, .inr (4, [.ref rb, vs, .ref pr, .ref pl, .ref fo, .ref sa, .int (nI sw), .int (nI ax), .int (nI wi), .int (nI va), .int (nI sl)])), (pr, .inr (0, [.ref p1, .ref p2, .ref p3, .ref p4, .int (nI n)]))] := hD
    refine lv_icmp_lt hx hb d_Pk_client_12 rfl (fun h12 => ?_) (fun h12 => ?_)
    · rcases hno with h | h; exact absurd h h1; exact absurd h12 h
    · refine xk_new (E := e_IO) hfl hx hb (hml.trans hl.1.symm) hown (by decide) (xk_IO ht hE) (ht _ wd_845) (ht _ wd_854) hE hAH hP hS hA (Nat.le_of_ble_eq_true rfl) (Nat.le_of_ble_eq_true rfl) (Nat.le_of_ble_eq_true rfl) (Nat.le_of_ble_eq_true rfl) d_Pk_client_15 d_Pk_client_18 d_Pk_client_19 (fun xa H locs ce hce hst hcl hP hS => ?_)
      exact xk_athrow hQ hx hb hlk hem hAe hK hP hD hS hce hst hcl (Nat.le_of_ble_eq_true rfl) (Nat.le_of_ble_eq_true rfl) (Nat.le_of_ble_eq_true rfl) rfl d_Pk_client_22
set_option maxHeartbeats 4000000 in
set_option maxRecDepth 100000 in
theorem c_Pk_density2 (l : Launch) (Hs : Heap) (D : va_G) (cI cZ cL : ClassId) (h : Nat) (rb : Nat) (pr : Nat) (pl : Nat) (fo : Nat) (sa : Nat) (sw : Nat) (ax : Nat) (wi : Nat) (va : Nat) (sl : Nat) (vs : Value) (x : Int32) (hq0 : ¬ x = 0) (hq1 : ¬ x = nI 1) : kX l Hs D kcl (ty3 cI cZ cL) y_Pk_density (mws y_Pk_density b_Pk_density 9 (Option.some Jvm.ClassFile.FieldType.long)) ({ frames := 6, cells := 1, slots := 6, locals := 81 } : Room) [.ref h, .int x] [(h, .inr (4, [.ref rb, vs, .ref pr, .ref pl, .ref fo, .ref sa, .int (nI sw), .int (nI ax), .int (nI wi), .int (nI va), .int (nI sl)]))] e_IA (fun w => w = [(h, .inr (4, [.ref rb, vs, .ref pr, .ref pl, .ref fo, .ref sa, .int (nI sw), .int (nI ax), .int (nI wi), .int (nI va), .int (nI sl)]))]) := by
  intro hfl sz
  refine xk_of (cc := b_Pk_density) (maxL := 9) (ret := (Option.some Jvm.ClassFile.FieldType.long)) (by decide) rfl (Nat.le_of_ble_eq_true rfl) ?_
  intro p e s m args below meth c ls H locs A Q hQ hx hb hml hr hts hown hlk hnm hsz hAe hP hK hD hS hA hE hAH hl hem
  have ht : ∀ w ∈ mw, w.before args s = true := fun w h => hts w (List.mem_cons_of_mem _ h)
  have hl : lv_has ls 9 [(0, .ref h), (1, .int x)] := hl
  refine lv_iload_n hx hb d_Pk_density_0 rfl (lv_at hl 1 rfl) ?_
  refine lv_if_eq hx hb d_Pk_density_1 rfl (fun h1 => ?_) (fun h1 => ?_)
  · exact absurd h1 hq0
  · refine lv_iload_n hx hb d_Pk_density_4 rfl (lv_at hl 1 rfl) ?_
    refine lv_iconst (v := nI 1) hx hb d_Pk_density_5 (by decide) ?_
    refine lv_icmp_eq hx hb d_Pk_density_6 rfl (fun h6 => ?_) (fun h6 => ?_)
    · exact absurd h6 hq1
    · refine xk_new (E := e_IA) hfl hx hb (hml.trans hl.1.symm) hown (by decide) (xk_IA ht hE) (ht _ wd_289) (ht _ wd_333) hE hAH hP hS hA (Nat.le_of_ble_eq_true rfl) (Nat.le_of_ble_eq_true rfl) (Nat.le_of_ble_eq_true rfl) (Nat.le_of_ble_eq_true rfl) d_Pk_density_9 d_Pk_density_12 d_Pk_density_13 (fun xa H locs ce hce hst hcl hP hS => ?_)
      exact xk_athrow hQ hx hb hlk hem hAe hK hP hD hS hce hst hcl (Nat.le_of_ble_eq_true rfl) (Nat.le_of_ble_eq_true rfl) (Nat.le_of_ble_eq_true rfl) rfl d_Pk_density_16
/-- what about answers -/
def pw_ab (b cw n wi ax va sl : Nat) : Nat → Int32
  | 0 => nI b
  | 1 => oI (if cw = 0 then 0 else cw + 1)
  | 2 => nI n
  | 3 => nI wi
  | 4 => nI ax
  | 5 => nI va
  | _ => nI sl
set_option maxHeartbeats 4000000 in
set_option maxRecDepth 100000 in
theorem c_Pk_about0 (l : Launch) (Hs : Heap) (D : va_G) (cI cZ cL : ClassId) (h : Nat) (rb : Nat) (pr : Nat) (pl : Nat) (fo : Nat) (sa : Nat) (sw : Nat) (ax : Nat) (wi : Nat) (va : Nat) (sl : Nat) (vs : Value) (p1 : Nat) (p2 : Nat) (p3 : Nat) (p4 : Nat) (n : Nat) (c0 : Nat) (L : Nat) (b : Nat) (s0 : Nat) (L2 : Nat) (b2 : Nat) : kI l Hs D kcl (ty3 cI cZ cL) y_Pk_about (mws y_Pk_about b_Pk_about 2 (Option.some Jvm.ClassFile.FieldType.int)) ({ frames := 1, cells := 0, slots := 0, locals := 20 } : Room) [.ref h, .int (nI 0)] [(h, .inr (4, [.ref rb, vs, .ref pr, .ref pl, .ref fo, .ref sa, .int (nI sw), .int (nI ax), .int (nI wi), .int (nI va), .int (nI sl)])), (pr, .inr (0, [.ref p1, .ref p2, .ref p3, .ref p4, .int (nI n)])), (fo, .inr (1, [.ref c0, .int (nI L), .int (nI b)])), (sa, .inr (1, [.ref s0, .int (nI L2), .int (nI b2)]))] (fun r w => r = nI b ∧ w = [(h, .inr (4, [.ref rb, vs, .ref pr, .ref pl, .ref fo, .ref sa, .int (nI sw), .int (nI ax), .int (nI wi), .int (nI va), .int (nI sl)])), (pr, .inr (0, [.ref p1, .ref p2, .ref p3, .ref p4, .int (nI n)])), (fo, .inr (1, [.ref c0, .int (nI L), .int (nI b)])), (sa, .inr (1, [.ref s0, .int (nI L2), .int (nI b2)]))]) := by
  intro sz
  refine k_of (cc := b_Pk_about) (maxL := 2) (ret := (Option.some Jvm.ClassFile.FieldType.int)) (by decide) rfl (Nat.le_of_ble_eq_true rfl) ?_
  intro p e s m args below meth c ls H locs A Q hQ hx hb hml hr hts hown hlk hnm hsz hAe hP hK hD hS hA hE hAH hl
  have ht : ∀ w ∈ mw, w.before args s = true := fun w h => hts w (List.mem_cons_of_mem _ h)
  have hl : lv_has ls 2 [(0, .ref h), (1, .int (nI 0))] := hl
  refine lv_iload_n hx hb d_Pk_about_0 rfl (lv_at hl 1 rfl) ?_
  refine lv_tableIn (off := 43) hx hb d_Pk_about_1 (by decide) (by decide) rfl rfl ?_
  refine lv_aload_n hx hb d_Pk_about_44 rfl (lv_at hl 0 rfl) ?_
  refine va_get (D := D) (ci := 4) (v := .ref fo) (C := R_Pk) (T := T_Pk) (N := 11) hx hb ht u_Pk hown hK hP 0 rfl rfl 4 (by decide) (ht _ wd_88) (fun _ h9 => h9) rfl d_Pk_about_45 ?_
  refine ck_i (wc := [(fo, .inr (1, [.ref c0, .int (nI L), .int (nI b)]))]) (va_runV (As := []) (rest := []) (C := R_Cy) ⟨hx, hb, hml, hown, ht⟩ (c_Cy_builder l Hs D cI cZ cL fo c0 L b  H.size) (gw_V 0 ht wd_870 wd_4 wd_867 wd_868 wd_869 (by decide +kernel) ⟨Nat.le_of_ble_eq_true rfl, Nat.le_of_ble_eq_true rfl⟩) (k_preV hE hAH hK hP hD hS [2] rfl rfl 2 rfl rfl) rfl rfl hl.1 rfl (lv_room (Nat.le_of_ble_eq_true rfl)) d_Pk_about_48 ⟨Nat.le_of_ble_eq_true rfl, Nat.le_of_ble_eq_true rfl⟩) hP hD hS hA [2] rfl rfl (fun r48 w1 H locs hpost hP hD hS => ?_)
  obtain ⟨rfl, rfl⟩ := hpost
  have hP : va_P D kcl [(h, .inr (4, [.ref rb, vs, .ref pr, .ref pl, .ref fo, .ref sa, .int (nI sw), .int (nI ax), .int (nI wi), .int (nI va), .int (nI sl)])), (pr, .inr (0, [.ref p1, .ref p2, .ref p3, .ref p4, .int (nI n)])), (fo, .inr (1, [.ref c0, .int (nI L), .int (nI b)])), (sa, .inr (1, [.ref s0, .int (nI L2), .int (nI b2)]))] H := hP
  have hD : va_D A [(h, .inr (4, [.ref rb, vs, .ref pr, .ref pl, .ref fo, .ref sa, .int (nI sw), .int (nI ax), .int (nI wi), .int (nI va), .int (nI sl)])), (pr, .inr (0, [.ref p1, .ref p2, .ref p3, .ref p4, .int (nI n)])), (fo, .inr (1, [.ref c0, .int (nI L), .int (nI b)])), (sa, .inr (1, [.ref s0, .int (nI L2), .int (nI b2)]))] := hD
  exact k_reti hQ hx hb hr hlk hAe hK hP hD hS (Nat.le_of_ble_eq_true rfl) (Nat.le_of_ble_eq_true rfl) (Nat.le_of_ble_eq_true rfl) ⟨rfl, rfl⟩ d_Pk_about_51
set_option maxHeartbeats 4000000 in
set_option maxRecDepth 100000 in
theorem c_Pk_about1N (l : Launch) (Hs : Heap) (D : va_G) (cI cZ cL : ClassId) (h : Nat) (rb : Nat) (pr : Nat) (pl : Nat) (fo : Nat) (sa : Nat) (ax : Nat) (wi : Nat) (va : Nat) (sl : Nat) (vs : Value) (p1 : Nat) (p2 : Nat) (p3 : Nat) (p4 : Nat) (n : Nat) (c0 : Nat) (L : Nat) (b : Nat) (s0 : Nat) (L2 : Nat) (b2 : Nat) : kI l Hs D kcl (ty3 cI cZ cL) y_Pk_about (mws y_Pk_about b_Pk_about 2 (Option.some Jvm.ClassFile.FieldType.int)) ({ frames := 0, cells := 0, slots := 0, locals := 0 } : Room) [.ref h, .int (nI 1)] [(h, .inr (4, [.ref rb, vs, .ref pr, .ref pl, .ref fo, .ref sa, .int (nI 0), .int (nI ax), .int (nI wi), .int (nI va), .int (nI sl)])), (pr, .inr (0, [.ref p1, .ref p2, .ref p3, .ref p4, .int (nI n)])), (fo, .inr (1, [.ref c0, .int (nI L), .int (nI b)])), (sa, .inr (1, [.ref s0, .int (nI L2), .int (nI b2)]))] (fun r w => r = -1 ∧ w = [(h, .inr (4, [.ref rb, vs, .ref pr, .ref pl, .ref fo, .ref sa, .int (nI 0), .int (nI ax), .int (nI wi), .int (nI va), .int (nI sl)])), (pr, .inr (0, [.ref p1, .ref p2, .ref p3, .ref p4, .int (nI n)])), (fo, .inr (1, [.ref c0, .int (nI L), .int (nI b)])), (sa, .inr (1, [.ref s0, .int (nI L2), .int (nI b2)]))]) := by
  intro sz
  refine k_of (cc := b_Pk_about) (maxL := 2) (ret := (Option.some Jvm.ClassFile.FieldType.int)) (by decide) rfl (Nat.le_of_ble_eq_true rfl) ?_
  intro p e s m args below meth c ls H locs A Q hQ hx hb hml hr hts hown hlk hnm hsz hAe hP hK hD hS hA hE hAH hl
  have ht : ∀ w ∈ mw, w.before args s = true := fun w h => hts w (List.mem_cons_of_mem _ h)
  have hl : lv_has ls 2 [(0, .ref h), (1, .int (nI 1))] := hl
  refine lv_iload_n hx hb d_Pk_about_0 rfl (lv_at hl 1 rfl) ?_
  refine lv_tableIn (off := 51) hx hb d_Pk_about_1 (by decide) (by decide) rfl rfl ?_
  refine lv_aload_n hx hb d_Pk_about_52 rfl (lv_at hl 0 rfl) ?_
  refine va_get (D := D) (ci := 4) (v := .int (nI 0)) (C := R_Pk) (T := T_Pk) (N := 11) hx hb ht u_Pk hown hK hP 0 rfl rfl 6 (by decide) (ht _ wd_90) (fun _ h9 => h9) rfl d_Pk_about_53 ?_
  refine wi_if_eq hx hb d_Pk_about_56 rfl (by decide) (fun _ => ?_) (fun h => absurd h (by decide))
  refine lv_iconst (v := -1) hx hb d_Pk_about_69 (by decide) ?_
  exact k_reti hQ hx hb hr hlk hAe hK hP hD hS (Nat.le_of_ble_eq_true rfl) (Nat.le_of_ble_eq_true rfl) (Nat.le_of_ble_eq_true rfl) ⟨rfl, rfl⟩ d_Pk_about_70
set_option maxHeartbeats 4000000 in
set_option maxRecDepth 100000 in
theorem c_Pk_about1W (l : Launch) (Hs : Heap) (D : va_G) (cI cZ cL : ClassId) (h : Nat) (rb : Nat) (pr : Nat) (pl : Nat) (fo : Nat) (sa : Nat) (ax : Nat) (wi : Nat) (va : Nat) (sl : Nat) (vs : Value) (p1 : Nat) (p2 : Nat) (p3 : Nat) (p4 : Nat) (n : Nat) (c0 : Nat) (L : Nat) (b : Nat) (s0 : Nat) (L2 : Nat) (b2 : Nat) : kI l Hs D kcl (ty3 cI cZ cL) y_Pk_about (mws y_Pk_about b_Pk_about 2 (Option.some Jvm.ClassFile.FieldType.int)) ({ frames := 1, cells := 0, slots := 0, locals := 20 } : Room) [.ref h, .int (nI 1)] [(h, .inr (4, [.ref rb, vs, .ref pr, .ref pl, .ref fo, .ref sa, .int (nI 1), .int (nI ax), .int (nI wi), .int (nI va), .int (nI sl)])), (pr, .inr (0, [.ref p1, .ref p2, .ref p3, .ref p4, .int (nI n)])), (fo, .inr (1, [.ref c0, .int (nI L), .int (nI b)])), (sa, .inr (1, [.ref s0, .int (nI L2), .int (nI b2)]))] (fun r w => r = nI b2 ∧ w = [(h, .inr (4, [.ref rb, vs, .ref pr, .ref pl, .ref fo, .ref sa, .int (nI 1), .int (nI ax), .int (nI wi), .int (nI va), .int (nI sl)])), (pr, .inr (0, [.ref p1, .ref p2, .ref p3, .ref p4, .int (nI n)])), (fo, .inr (1, [.ref c0, .int (nI L), .int (nI b)])), (sa, .inr (1, [.ref s0, .int (nI L2), .int (nI b2)]))]) := by
  intro sz
  refine k_of (cc := b_Pk_about) (maxL := 2) (ret := (Option.some Jvm.ClassFile.FieldType.int)) (by decide) rfl (Nat.le_of_ble_eq_true rfl) ?_
  intro p e s m args below meth c ls H locs A Q hQ hx hb hml hr hts hown hlk hnm hsz hAe hP hK hD hS hA hE hAH hl
  have ht : ∀ w ∈ mw, w.before args s = true := fun w h => hts w (List.mem_cons_of_mem _ h)
  have hl : lv_has ls 2 [(0, .ref h), (1, .int (nI 1))] := hl
  refine lv_iload_n hx hb d_Pk_about_0 rfl (lv_at hl 1 rfl) ?_
  refine lv_tableIn (off := 51) hx hb d_Pk_about_1 (by decide) (by decide) rfl rfl ?_
  refine lv_aload_n hx hb d_Pk_about_52 rfl (lv_at hl 0 rfl) ?_
  refine va_get (D := D) (ci := 4) (v := .int (nI 1)) (C := R_Pk) (T := T_Pk) (N := 11) hx hb ht u_Pk hown hK hP 0 rfl rfl 6 (by decide) (ht _ wd_90) (fun _ h9 => h9) rfl d_Pk_about_53 ?_
  refine wi_if_eq hx hb d_Pk_about_56 rfl (by decide) (fun h => absurd h (by decide)) (fun _ => ?_)
  refine lv_aload_n hx hb d_Pk_about_59 rfl (lv_at hl 0 rfl) ?_
  refine va_get (D := D) (ci := 4) (v := .ref sa) (C := R_Pk) (T := T_Pk) (N := 11) hx hb ht u_Pk hown hK hP 0 rfl rfl 5 (by decide) (ht _ wd_89) (fun _ h9 => h9) rfl d_Pk_about_60 ?_
  refine ck_i (wc := [(sa, .inr (1, [.ref s0, .int (nI L2), .int (nI b2)]))]) (va_runV (As := []) (rest := []) (C := R_Cy) ⟨hx, hb, hml, hown, ht⟩ (c_Cy_builder l Hs D cI cZ cL sa s0 L2 b2  H.size) (gw_V 0 ht wd_870 wd_4 wd_867 wd_868 wd_869 (by decide +kernel) ⟨Nat.le_of_ble_eq_true rfl, Nat.le_of_ble_eq_true rfl⟩) (k_preV hE hAH hK hP hD hS [3] rfl rfl 3 rfl rfl) rfl rfl hl.1 rfl (lv_room (Nat.le_of_ble_eq_true rfl)) d_Pk_about_63 ⟨Nat.le_of_ble_eq_true rfl, Nat.le_of_ble_eq_true rfl⟩) hP hD hS hA [3] rfl rfl (fun r63 w1 H locs hpost hP hD hS => ?_)
  obtain ⟨rfl, rfl⟩ := hpost
  have hP : va_P D kcl [(h, .inr (4, [.ref rb, vs, .ref pr, .ref pl, .ref fo, .ref sa, .int (nI 1), .int (nI ax), .int (nI wi), .int (nI va), .int (nI sl)])), (pr, .inr (0, [.ref p1, .ref p2, .ref p3, .ref p4, .int (nI n)])), (fo, .inr (1, [.ref c0, .int (nI L), .int (nI b)])), (sa, .inr (1, [.ref s0, .int (nI L2), .int (nI b2)]))] H := hP
  have hD : va_D A [(h, .inr (4, [.ref rb, vs, .ref pr, .ref pl, .ref fo, .ref sa, .int (nI 1), .int (nI ax), .int (nI wi), .int (nI va), .int (nI sl)])), (pr, .inr (0, [.ref p1, .ref p2, .ref p3, .ref p4, .int (nI n)])), (fo, .inr (1, [.ref c0, .int (nI L), .int (nI b)])), (sa, .inr (1, [.ref s0, .int (nI L2), .int (nI b2)]))] := hD
  refine lv_goto hx hb d_Pk_about_66 rfl ?_
  exact k_reti hQ hx hb hr hlk hAe hK hP hD hS (Nat.le_of_ble_eq_true rfl) (Nat.le_of_ble_eq_true rfl) (Nat.le_of_ble_eq_true rfl) ⟨rfl, rfl⟩ d_Pk_about_70
set_option maxHeartbeats 4000000 in
set_option maxRecDepth 100000 in
theorem c_Pk_about2 (l : Launch) (Hs : Heap) (D : va_G) (cI cZ cL : ClassId) (h : Nat) (rb : Nat) (pr : Nat) (pl : Nat) (fo : Nat) (sa : Nat) (sw : Nat) (ax : Nat) (wi : Nat) (va : Nat) (sl : Nat) (vs : Value) (p1 : Nat) (p2 : Nat) (p3 : Nat) (p4 : Nat) (n : Nat) (c0 : Nat) (L : Nat) (b : Nat) (s0 : Nat) (L2 : Nat) (b2 : Nat) : kI l Hs D kcl (ty3 cI cZ cL) y_Pk_about (mws y_Pk_about b_Pk_about 2 (Option.some Jvm.ClassFile.FieldType.int)) ({ frames := 1, cells := 0, slots := 0, locals := 20 } : Room) [.ref h, .int (nI 2)] [(h, .inr (4, [.ref rb, vs, .ref pr, .ref pl, .ref fo, .ref sa, .int (nI sw), .int (nI ax), .int (nI wi), .int (nI va), .int (nI sl)])), (pr, .inr (0, [.ref p1, .ref p2, .ref p3, .ref p4, .int (nI n)])), (fo, .inr (1, [.ref c0, .int (nI L), .int (nI b)])), (sa, .inr (1, [.ref s0, .int (nI L2), .int (nI b2)]))] (fun r w => r = nI n ∧ w = [(h, .inr (4, [.ref rb, vs, .ref pr, .ref pl, .ref fo, .ref sa, .int (nI sw), .int (nI ax), .int (nI wi), .int (nI va), .int (nI sl)])), (pr, .inr (0, [.ref p1, .ref p2, .ref p3, .ref p4, .int (nI n)])), (fo, .inr (1, [.ref c0, .int (nI L), .int (nI b)])), (sa, .inr (1, [.ref s0, .int (nI L2), .int (nI b2)]))]) := by
  intro sz
  refine k_of (cc := b_Pk_about) (maxL := 2) (ret := (Option.some Jvm.ClassFile.FieldType.int)) (by decide) rfl (Nat.le_of_ble_eq_true rfl) ?_
  intro p e s m args below meth c ls H locs A Q hQ hx hb hml hr hts hown hlk hnm hsz hAe hP hK hD hS hA hE hAH hl
  have ht : ∀ w ∈ mw, w.before args s = true := fun w h => hts w (List.mem_cons_of_mem _ h)
  have hl : lv_has ls 2 [(0, .ref h), (1, .int (nI 2))] := hl
  refine lv_iload_n hx hb d_Pk_about_0 rfl (lv_at hl 1 rfl) ?_
  refine lv_tableIn (off := 70) hx hb d_Pk_about_1 (by decide) (by decide) rfl rfl ?_
  refine lv_aload_n hx hb d_Pk_about_71 rfl (lv_at hl 0 rfl) ?_
  refine va_get (D := D) (ci := 4) (v := .ref pr) (C := R_Pk) (T := T_Pk) (N := 11) hx hb ht u_Pk hown hK hP 0 rfl rfl 2 (by decide) (ht _ wd_86) (fun _ h9 => h9) rfl d_Pk_about_72 ?_
  refine ck_i (wc := [(pr, .inr (0, [.ref p1, .ref p2, .ref p3, .ref p4, .int (nI n)]))]) (va_runV (As := []) (rest := []) (C := R_Cl) ⟨hx, hb, hml, hown, ht⟩ (c_Cl_count l Hs D cI cZ cL pr p1 p2 p3 p4 n  H.size) (gw_V 0 ht wd_149 wd_3 wd_191 wd_147 wd_148 (by decide +kernel) ⟨Nat.le_of_ble_eq_true rfl, Nat.le_of_ble_eq_true rfl⟩) (k_preV hE hAH hK hP hD hS [1] rfl rfl 1 rfl rfl) rfl rfl hl.1 rfl (lv_room (Nat.le_of_ble_eq_true rfl)) d_Pk_about_75 ⟨Nat.le_of_ble_eq_true rfl, Nat.le_of_ble_eq_true rfl⟩) hP hD hS hA [1] rfl rfl (fun r75 w1 H locs hpost hP hD hS => ?_)
  obtain ⟨rfl, rfl⟩ := hpost
  have hP : va_P D kcl [(h, .inr (4, [.ref rb, vs, .ref pr, .ref pl, .ref fo, .ref sa, .int (nI sw), .int (nI ax), .int (nI wi), .int (nI va), .int (nI sl)])), (pr, .inr (0, [.ref p1, .ref p2, .ref p3, .ref p4, .int (nI n)])), (fo, .inr (1, [.ref c0, .int (nI L), .int (nI b)])), (sa, .inr (1, [.ref s0, .int (nI L2), .int (nI b2)]))] H := hP
  have hD : va_D A [(h, .inr (4, [.ref rb, vs, .ref pr, .ref pl, .ref fo, .ref sa, .int (nI sw), .int (nI ax), .int (nI wi), .int (nI va), .int (nI sl)])), (pr, .inr (0, [.ref p1, .ref p2, .ref p3, .ref p4, .int (nI n)])), (fo, .inr (1, [.ref c0, .int (nI L), .int (nI b)])), (sa, .inr (1, [.ref s0, .int (nI L2), .int (nI b2)]))] := hD
  exact k_reti hQ hx hb hr hlk hAe hK hP hD hS (Nat.le_of_ble_eq_true rfl) (Nat.le_of_ble_eq_true rfl) (Nat.le_of_ble_eq_true rfl) ⟨rfl, rfl⟩ d_Pk_about_78
set_option maxHeartbeats 4000000 in
set_option maxRecDepth 100000 in
theorem c_Pk_about3 (l : Launch) (Hs : Heap) (D : va_G) (cI cZ cL : ClassId) (h : Nat) (rb : Nat) (pr : Nat) (pl : Nat) (fo : Nat) (sa : Nat) (sw : Nat) (ax : Nat) (wi : Nat) (va : Nat) (sl : Nat) (vs : Value) (p1 : Nat) (p2 : Nat) (p3 : Nat) (p4 : Nat) (n : Nat) (c0 : Nat) (L : Nat) (b : Nat) (s0 : Nat) (L2 : Nat) (b2 : Nat) : kI l Hs D kcl (ty3 cI cZ cL) y_Pk_about (mws y_Pk_about b_Pk_about 2 (Option.some Jvm.ClassFile.FieldType.int)) ({ frames := 0, cells := 0, slots := 0, locals := 0 } : Room) [.ref h, .int (nI 3)] [(h, .inr (4, [.ref rb, vs, .ref pr, .ref pl, .ref fo, .ref sa, .int (nI sw), .int (nI ax), .int (nI wi), .int (nI va), .int (nI sl)])), (pr, .inr (0, [.ref p1, .ref p2, .ref p3, .ref p4, .int (nI n)])), (fo, .inr (1, [.ref c0, .int (nI L), .int (nI b)])), (sa, .inr (1, [.ref s0, .int (nI L2), .int (nI b2)]))] (fun r w => r = nI wi ∧ w = [(h, .inr (4, [.ref rb, vs, .ref pr, .ref pl, .ref fo, .ref sa, .int (nI sw), .int (nI ax), .int (nI wi), .int (nI va), .int (nI sl)])), (pr, .inr (0, [.ref p1, .ref p2, .ref p3, .ref p4, .int (nI n)])), (fo, .inr (1, [.ref c0, .int (nI L), .int (nI b)])), (sa, .inr (1, [.ref s0, .int (nI L2), .int (nI b2)]))]) := by
  intro sz
  refine k_of (cc := b_Pk_about) (maxL := 2) (ret := (Option.some Jvm.ClassFile.FieldType.int)) (by decide) rfl (Nat.le_of_ble_eq_true rfl) ?_
  intro p e s m args below meth c ls H locs A Q hQ hx hb hml hr hts hown hlk hnm hsz hAe hP hK hD hS hA hE hAH hl
  have ht : ∀ w ∈ mw, w.before args s = true := fun w h => hts w (List.mem_cons_of_mem _ h)
  have hl : lv_has ls 2 [(0, .ref h), (1, .int (nI 3))] := hl
  refine lv_iload_n hx hb d_Pk_about_0 rfl (lv_at hl 1 rfl) ?_
  refine lv_tableIn (off := 78) hx hb d_Pk_about_1 (by decide) (by decide) rfl rfl ?_
  refine lv_aload_n hx hb d_Pk_about_79 rfl (lv_at hl 0 rfl) ?_
  refine va_get (D := D) (ci := 4) (v := .int (nI wi)) (C := R_Pk) (T := T_Pk) (N := 11) hx hb ht u_Pk hown hK hP 0 rfl rfl 8 (by decide) (ht _ wd_92) (fun _ h9 => h9) rfl d_Pk_about_80 ?_
  exact k_reti hQ hx hb hr hlk hAe hK hP hD hS (Nat.le_of_ble_eq_true rfl) (Nat.le_of_ble_eq_true rfl) (Nat.le_of_ble_eq_true rfl) ⟨rfl, rfl⟩ d_Pk_about_83
set_option maxHeartbeats 4000000 in
set_option maxRecDepth 100000 in
theorem c_Pk_about4 (l : Launch) (Hs : Heap) (D : va_G) (cI cZ cL : ClassId) (h : Nat) (rb : Nat) (pr : Nat) (pl : Nat) (fo : Nat) (sa : Nat) (sw : Nat) (ax : Nat) (wi : Nat) (va : Nat) (sl : Nat) (vs : Value) (p1 : Nat) (p2 : Nat) (p3 : Nat) (p4 : Nat) (n : Nat) (c0 : Nat) (L : Nat) (b : Nat) (s0 : Nat) (L2 : Nat) (b2 : Nat) : kI l Hs D kcl (ty3 cI cZ cL) y_Pk_about (mws y_Pk_about b_Pk_about 2 (Option.some Jvm.ClassFile.FieldType.int)) ({ frames := 0, cells := 0, slots := 0, locals := 0 } : Room) [.ref h, .int (nI 4)] [(h, .inr (4, [.ref rb, vs, .ref pr, .ref pl, .ref fo, .ref sa, .int (nI sw), .int (nI ax), .int (nI wi), .int (nI va), .int (nI sl)])), (pr, .inr (0, [.ref p1, .ref p2, .ref p3, .ref p4, .int (nI n)])), (fo, .inr (1, [.ref c0, .int (nI L), .int (nI b)])), (sa, .inr (1, [.ref s0, .int (nI L2), .int (nI b2)]))] (fun r w => r = nI ax ∧ w = [(h, .inr (4, [.ref rb, vs, .ref pr, .ref pl, .ref fo, .ref sa, .int (nI sw), .int (nI ax), .int (nI wi), .int (nI va), .int (nI sl)])), (pr, .inr (0, [.ref p1, .ref p2, .ref p3, .ref p4, .int (nI n)])), (fo, .inr (1, [.ref c0, .int (nI L), .int (nI b)])), (sa, .inr (1, [.ref s0, .int (nI L2), .int (nI b2)]))]) := by
  intro sz
  refine k_of (cc := b_Pk_about) (maxL := 2) (ret := (Option.some Jvm.ClassFile.FieldType.int)) (by decide) rfl (Nat.le_of_ble_eq_true rfl) ?_
  intro p e s m args below meth c ls H locs A Q hQ hx hb hml hr hts hown hlk hnm hsz hAe hP hK hD hS hA hE hAH hl
  have ht : ∀ w ∈ mw, w.before args s = true := fun w h => hts w (List.mem_cons_of_mem _ h)
  have hl : lv_has ls 2 [(0, .ref h), (1, .int (nI 4))] := hl
  refine lv_iload_n hx hb d_Pk_about_0 rfl (lv_at hl 1 rfl) ?_
  refine lv_tableIn (off := 83) hx hb d_Pk_about_1 (by decide) (by decide) rfl rfl ?_
  refine lv_aload_n hx hb d_Pk_about_84 rfl (lv_at hl 0 rfl) ?_
  refine va_get (D := D) (ci := 4) (v := .int (nI ax)) (C := R_Pk) (T := T_Pk) (N := 11) hx hb ht u_Pk hown hK hP 0 rfl rfl 7 (by decide) (ht _ wd_91) (fun _ h9 => h9) rfl d_Pk_about_85 ?_
  exact k_reti hQ hx hb hr hlk hAe hK hP hD hS (Nat.le_of_ble_eq_true rfl) (Nat.le_of_ble_eq_true rfl) (Nat.le_of_ble_eq_true rfl) ⟨rfl, rfl⟩ d_Pk_about_88
set_option maxHeartbeats 4000000 in
set_option maxRecDepth 100000 in
theorem c_Pk_about5 (l : Launch) (Hs : Heap) (D : va_G) (cI cZ cL : ClassId) (h : Nat) (rb : Nat) (pr : Nat) (pl : Nat) (fo : Nat) (sa : Nat) (sw : Nat) (ax : Nat) (wi : Nat) (va : Nat) (sl : Nat) (vs : Value) (p1 : Nat) (p2 : Nat) (p3 : Nat) (p4 : Nat) (n : Nat) (c0 : Nat) (L : Nat) (b : Nat) (s0 : Nat) (L2 : Nat) (b2 : Nat) : kI l Hs D kcl (ty3 cI cZ cL) y_Pk_about (mws y_Pk_about b_Pk_about 2 (Option.some Jvm.ClassFile.FieldType.int)) ({ frames := 0, cells := 0, slots := 0, locals := 0 } : Room) [.ref h, .int (nI 5)] [(h, .inr (4, [.ref rb, vs, .ref pr, .ref pl, .ref fo, .ref sa, .int (nI sw), .int (nI ax), .int (nI wi), .int (nI va), .int (nI sl)])), (pr, .inr (0, [.ref p1, .ref p2, .ref p3, .ref p4, .int (nI n)])), (fo, .inr (1, [.ref c0, .int (nI L), .int (nI b)])), (sa, .inr (1, [.ref s0, .int (nI L2), .int (nI b2)]))] (fun r w => r = nI va ∧ w = [(h, .inr (4, [.ref rb, vs, .ref pr, .ref pl, .ref fo, .ref sa, .int (nI sw), .int (nI ax), .int (nI wi), .int (nI va), .int (nI sl)])), (pr, .inr (0, [.ref p1, .ref p2, .ref p3, .ref p4, .int (nI n)])), (fo, .inr (1, [.ref c0, .int (nI L), .int (nI b)])), (sa, .inr (1, [.ref s0, .int (nI L2), .int (nI b2)]))]) := by
  intro sz
  refine k_of (cc := b_Pk_about) (maxL := 2) (ret := (Option.some Jvm.ClassFile.FieldType.int)) (by decide) rfl (Nat.le_of_ble_eq_true rfl) ?_
  intro p e s m args below meth c ls H locs A Q hQ hx hb hml hr hts hown hlk hnm hsz hAe hP hK hD hS hA hE hAH hl
  have ht : ∀ w ∈ mw, w.before args s = true := fun w h => hts w (List.mem_cons_of_mem _ h)
  have hl : lv_has ls 2 [(0, .ref h), (1, .int (nI 5))] := hl
  refine lv_iload_n hx hb d_Pk_about_0 rfl (lv_at hl 1 rfl) ?_
  refine lv_tableIn (off := 88) hx hb d_Pk_about_1 (by decide) (by decide) rfl rfl ?_
  refine lv_aload_n hx hb d_Pk_about_89 rfl (lv_at hl 0 rfl) ?_
  refine va_get (D := D) (ci := 4) (v := .int (nI va)) (C := R_Pk) (T := T_Pk) (N := 11) hx hb ht u_Pk hown hK hP 0 rfl rfl 9 (by decide) (ht _ wd_93) (fun _ h9 => h9) rfl d_Pk_about_90 ?_
  exact k_reti hQ hx hb hr hlk hAe hK hP hD hS (Nat.le_of_ble_eq_true rfl) (Nat.le_of_ble_eq_true rfl) (Nat.le_of_ble_eq_true rfl) ⟨rfl, rfl⟩ d_Pk_about_93
set_option maxHeartbeats 4000000 in
set_option maxRecDepth 100000 in
theorem c_Pk_about6 (l : Launch) (Hs : Heap) (D : va_G) (cI cZ cL : ClassId) (h : Nat) (rb : Nat) (pr : Nat) (pl : Nat) (fo : Nat) (sa : Nat) (sw : Nat) (ax : Nat) (wi : Nat) (va : Nat) (sl : Nat) (vs : Value) (p1 : Nat) (p2 : Nat) (p3 : Nat) (p4 : Nat) (n : Nat) (c0 : Nat) (L : Nat) (b : Nat) (s0 : Nat) (L2 : Nat) (b2 : Nat) : kI l Hs D kcl (ty3 cI cZ cL) y_Pk_about (mws y_Pk_about b_Pk_about 2 (Option.some Jvm.ClassFile.FieldType.int)) ({ frames := 0, cells := 0, slots := 0, locals := 0 } : Room) [.ref h, .int (nI 6)] [(h, .inr (4, [.ref rb, vs, .ref pr, .ref pl, .ref fo, .ref sa, .int (nI sw), .int (nI ax), .int (nI wi), .int (nI va), .int (nI sl)])), (pr, .inr (0, [.ref p1, .ref p2, .ref p3, .ref p4, .int (nI n)])), (fo, .inr (1, [.ref c0, .int (nI L), .int (nI b)])), (sa, .inr (1, [.ref s0, .int (nI L2), .int (nI b2)]))] (fun r w => r = nI sl ∧ w = [(h, .inr (4, [.ref rb, vs, .ref pr, .ref pl, .ref fo, .ref sa, .int (nI sw), .int (nI ax), .int (nI wi), .int (nI va), .int (nI sl)])), (pr, .inr (0, [.ref p1, .ref p2, .ref p3, .ref p4, .int (nI n)])), (fo, .inr (1, [.ref c0, .int (nI L), .int (nI b)])), (sa, .inr (1, [.ref s0, .int (nI L2), .int (nI b2)]))]) := by
  intro sz
  refine k_of (cc := b_Pk_about) (maxL := 2) (ret := (Option.some Jvm.ClassFile.FieldType.int)) (by decide) rfl (Nat.le_of_ble_eq_true rfl) ?_
  intro p e s m args below meth c ls H locs A Q hQ hx hb hml hr hts hown hlk hnm hsz hAe hP hK hD hS hA hE hAH hl
  have ht : ∀ w ∈ mw, w.before args s = true := fun w h => hts w (List.mem_cons_of_mem _ h)
  have hl : lv_has ls 2 [(0, .ref h), (1, .int (nI 6))] := hl
  refine lv_iload_n hx hb d_Pk_about_0 rfl (lv_at hl 1 rfl) ?_
  refine lv_tableIn (off := 93) hx hb d_Pk_about_1 (by decide) (by decide) rfl rfl ?_
  refine lv_aload_n hx hb d_Pk_about_94 rfl (lv_at hl 0 rfl) ?_
  refine va_get (D := D) (ci := 4) (v := .int (nI sl)) (C := R_Pk) (T := T_Pk) (N := 11) hx hb ht u_Pk hown hK hP 0 rfl rfl 10 (by decide) (ht _ wd_94) (fun _ h9 => h9) rfl d_Pk_about_95 ?_
  exact k_reti hQ hx hb hr hlk hAe hK hP hD hS (Nat.le_of_ble_eq_true rfl) (Nat.le_of_ble_eq_true rfl) (Nat.le_of_ble_eq_true rfl) ⟨rfl, rfl⟩ d_Pk_about_98
set_option maxHeartbeats 4000000 in
set_option maxRecDepth 100000 in
theorem c_Pk_about9 (l : Launch) (Hs : Heap) (D : va_G) (cI cZ cL : ClassId) (h : Nat) (rb : Nat) (pr : Nat) (pl : Nat) (fo : Nat) (sa : Nat) (sw : Nat) (ax : Nat) (wi : Nat) (va : Nat) (sl : Nat) (vs : Value) (x : Int32) (hno : x.toInt < 0 ∨ 6 < x.toInt) : kX l Hs D kcl (ty3 cI cZ cL) y_Pk_about (mws y_Pk_about b_Pk_about 2 (Option.some Jvm.ClassFile.FieldType.int)) ({ frames := 6, cells := 1, slots := 6, locals := 81 } : Room) [.ref h, .int x] [(h, .inr (4, [.ref rb, vs, .ref pr, .ref pl, .ref fo, .ref sa, .int (nI sw), .int (nI ax), .int (nI wi), .int (nI va), .int (nI sl)]))] e_IA (fun w => w = [(h, .inr (4, [.ref rb, vs, .ref pr, .ref pl, .ref fo, .ref sa, .int (nI sw), .int (nI ax), .int (nI wi), .int (nI va), .int (nI sl)]))]) := by
  intro hfl sz
  refine xk_of (cc := b_Pk_about) (maxL := 2) (ret := (Option.some Jvm.ClassFile.FieldType.int)) (by decide) rfl (Nat.le_of_ble_eq_true rfl) ?_
  intro p e s m args below meth c ls H locs A Q hQ hx hb hml hr hts hown hlk hnm hsz hAe hP hK hD hS hA hE hAH hl hem
  have ht : ∀ w ∈ mw, w.before args s = true := fun w h => hts w (List.mem_cons_of_mem _ h)
  have hl : lv_has ls 2 [(0, .ref h), (1, .int x)] := hl
  refine lv_iload_n hx hb d_Pk_about_0 rfl (lv_at hl 1 rfl) ?_
  refine lv_tableOut hx hb d_Pk_about_1 hno rfl ?_
  refine xk_new (E := e_IA) hfl hx hb (hml.trans hl.1.symm) hown (by decide) (xk_IA ht hE) (ht _ wd_289) (ht _ wd_333) hE hAH hP hS hA (Nat.le_of_ble_eq_true rfl) (Nat.le_of_ble_eq_true rfl) (Nat.le_of_ble_eq_true rfl) (Nat.le_of_ble_eq_true rfl) d_Pk_about_99 d_Pk_about_102 d_Pk_about_103 (fun xa H locs ce hce hst hcl hP hS => ?_)
  exact xk_athrow hQ hx hb hlk hem hAe hK hP hD hS hce hst hcl (Nat.le_of_ble_eq_true rfl) (Nat.le_of_ble_eq_true rfl) (Nat.le_of_ble_eq_true rfl) rfl d_Pk_about_106
set_option maxHeartbeats 4000000 in
set_option maxRecDepth 100000 in
theorem c_Pk_cycleL0 (l : Launch) (Hs : Heap) (D : va_G) (cI cZ cL : ClassId) (h : Nat) (rb : Nat) (pr : Nat) (pl : Nat) (fo : Nat) (sa : Nat) (sw : Nat) (ax : Nat) (wi : Nat) (va : Nat) (sl : Nat) (vs : Value) (c0 : Nat) (M1 : Nat) (f8 : Nat → Nat) (L : Nat) (b : Nat) (s0 : Nat) (M2 : Nat) (f9 : Nat → Nat) (L2 : Nat) (b2 : Nat) : kI l Hs D kcl (ty3 cI cZ cL) y_Pk_cycle (mws y_Pk_cycle b_Pk_cycle 4 (Option.some Jvm.ClassFile.FieldType.int)) ({ frames := 1, cells := 0, slots := 0, locals := 20 } : Room) [.ref h, .int (nI 0), .int (-1)] [(h, .inr (4, [.ref rb, vs, .ref pr, .ref pl, .ref fo, .ref sa, .int (nI sw), .int (nI ax), .int (nI wi), .int (nI va), .int (nI sl)])), (fo, .inr (1, [.ref c0, .int (nI L), .int (nI b)])), (c0, .inl (cI, M1, .inl (wA f8))), (sa, .inr (1, [.ref s0, .int (nI L2), .int (nI b2)])), (s0, .inl (cI, M2, .inl (wA f9)))] (fun r w => r = nI L ∧ w = [(h, .inr (4, [.ref rb, vs, .ref pr, .ref pl, .ref fo, .ref sa, .int (nI sw), .int (nI ax), .int (nI wi), .int (nI va), .int (nI sl)])), (fo, .inr (1, [.ref c0, .int (nI L), .int (nI b)])), (c0, .inl (cI, M1, .inl (wA f8))), (sa, .inr (1, [.ref s0, .int (nI L2), .int (nI b2)])), (s0, .inl (cI, M2, .inl (wA f9)))]) := by
  intro sz
  refine k_of (cc := b_Pk_cycle) (maxL := 4) (ret := (Option.some Jvm.ClassFile.FieldType.int)) (by decide) rfl (Nat.le_of_ble_eq_true rfl) ?_
  intro p e s m args below meth c ls H locs A Q hQ hx hb hml hr hts hown hlk hnm hsz hAe hP hK hD hS hA hE hAH hl
  have ht : ∀ w ∈ mw, w.before args s = true := fun w h => hts w (List.mem_cons_of_mem _ h)
  have hl : lv_has ls 4 [(0, .ref h), (1, .int (nI 0)), (2, .int (-1))] := hl
  refine lv_iload_n hx hb d_Pk_cycle_0 rfl (lv_at hl 1 rfl) ?_
  refine wi_if_eq hx hb d_Pk_cycle_1 rfl (by decide) (fun _ => ?_) (fun h => absurd h (by decide))
  refine lv_iload_n hx hb d_Pk_cycle_19 rfl (lv_at hl 1 rfl) ?_
  refine wi_if_eq hx hb d_Pk_cycle_20 rfl (by decide) (fun _ => ?_) (fun h => absurd h (by decide))
  refine lv_aload_n hx hb d_Pk_cycle_30 rfl (lv_at hl 0 rfl) ?_
  refine va_get (D := D) (ci := 4) (v := .ref fo) (C := R_Pk) (T := T_Pk) (N := 11) hx hb ht u_Pk hown hK hP 0 rfl rfl 4 (by decide) (ht _ wd_88) (fun _ h9 => h9) rfl d_Pk_cycle_31 ?_
  refine lv_astore_n (lv' := [(3, .ref fo), (0, .ref h), (1, .int (nI 0)), (2, .int (-1))]) hx hb d_Pk_cycle_34 rfl hl (by decide) rfl (fun ls hl => ?_)
  refine lv_iload_n hx hb d_Pk_cycle_35 rfl (lv_at hl 3 rfl) ?_
  refine lv_iconst (v := -1) hx hb d_Pk_cycle_36 (by decide) ?_
  refine lv_icmp_ne hx hb d_Pk_cycle_37 rfl (fun h37 => ?_) (fun h37 => ?_)
  · exact absurd rfl h37
  · refine lv_aload_n hx hb d_Pk_cycle_40 rfl (lv_at hl 0 rfl) ?_
    refine ck_i (wc := [(fo, .inr (1, [.ref c0, .int (nI L), .int (nI b)]))]) (va_runV (As := []) (rest := []) (C := R_Cy) ⟨hx, hb, hml, hown, ht⟩ (c_Cy_length l Hs D cI cZ cL fo c0 L b  H.size) (gw_V 0 ht wd_844 wd_4 wd_841 wd_842 wd_843 (by decide +kernel) ⟨Nat.le_of_ble_eq_true rfl, Nat.le_of_ble_eq_true rfl⟩) (k_preV hE hAH hK hP hD hS [1] rfl rfl 1 rfl rfl) rfl rfl hl.1 rfl (lv_room (Nat.le_of_ble_eq_true rfl)) d_Pk_cycle_41 ⟨Nat.le_of_ble_eq_true rfl, Nat.le_of_ble_eq_true rfl⟩) hP hD hS hA [1] rfl rfl (fun r41 w1 H locs hpost hP hD hS => ?_)
    obtain ⟨rfl, rfl⟩ := hpost
    have hP : va_P D kcl [(h, .inr (4, [.ref rb, vs, .ref pr, .ref pl, .ref fo, .ref sa, .int (nI sw), .int (nI ax), .int (nI wi), .int (nI va), .int (nI sl)])), (fo, .inr (1, [.ref c0, .int (nI L), .int (nI b)])), (c0, .inl (cI, M1, .inl (wA f8))), (sa, .inr (1, [.ref s0, .int (nI L2), .int (nI b2)])), (s0, .inl (cI, M2, .inl (wA f9)))] H := hP
    have hD : va_D A [(h, .inr (4, [.ref rb, vs, .ref pr, .ref pl, .ref fo, .ref sa, .int (nI sw), .int (nI ax), .int (nI wi), .int (nI va), .int (nI sl)])), (fo, .inr (1, [.ref c0, .int (nI L), .int (nI b)])), (c0, .inl (cI, M1, .inl (wA f8))), (sa, .inr (1, [.ref s0, .int (nI L2), .int (nI b2)])), (s0, .inl (cI, M2, .inl (wA f9)))] := hD
    exact k_reti hQ hx hb hr hlk hAe hK hP hD hS (Nat.le_of_ble_eq_true rfl) (Nat.le_of_ble_eq_true rfl) (Nat.le_of_ble_eq_true rfl) ⟨rfl, rfl⟩ d_Pk_cycle_44
set_option maxHeartbeats 4000000 in
set_option maxRecDepth 100000 in
theorem c_Pk_cycleI0 (l : Launch) (Hs : Heap) (D : va_G) (cI cZ cL : ClassId) (h : Nat) (rb : Nat) (pr : Nat) (pl : Nat) (fo : Nat) (sa : Nat) (sw : Nat) (ax : Nat) (wi : Nat) (va : Nat) (sl : Nat) (vs : Value) (c0 : Nat) (M1 : Nat) (f8 : Nat → Nat) (L : Nat) (b : Nat) (s0 : Nat) (M2 : Nat) (f9 : Nat → Nat) (L2 : Nat) (b2 : Nat) (j : Nat) (hLM : L ≤ M1) (hM : M1 ≤ 1500) (hj : j < L) : kI l Hs D kcl (ty3 cI cZ cL) y_Pk_cycle (mws y_Pk_cycle b_Pk_cycle 4 (Option.some Jvm.ClassFile.FieldType.int)) ({ frames := 1, cells := 0, slots := 0, locals := 21 } : Room) [.ref h, .int (nI 0), .int (nI j)] [(h, .inr (4, [.ref rb, vs, .ref pr, .ref pl, .ref fo, .ref sa, .int (nI sw), .int (nI ax), .int (nI wi), .int (nI va), .int (nI sl)])), (fo, .inr (1, [.ref c0, .int (nI L), .int (nI b)])), (c0, .inl (cI, M1, .inl (wA f8))), (sa, .inr (1, [.ref s0, .int (nI L2), .int (nI b2)])), (s0, .inl (cI, M2, .inl (wA f9)))] (fun r w => r = nI (f8 j) ∧ w = [(h, .inr (4, [.ref rb, vs, .ref pr, .ref pl, .ref fo, .ref sa, .int (nI sw), .int (nI ax), .int (nI wi), .int (nI va), .int (nI sl)])), (fo, .inr (1, [.ref c0, .int (nI L), .int (nI b)])), (c0, .inl (cI, M1, .inl (wA f8))), (sa, .inr (1, [.ref s0, .int (nI L2), .int (nI b2)])), (s0, .inl (cI, M2, .inl (wA f9)))]) := by
  intro sz
  refine k_of (cc := b_Pk_cycle) (maxL := 4) (ret := (Option.some Jvm.ClassFile.FieldType.int)) (by decide) rfl (Nat.le_of_ble_eq_true rfl) ?_
  intro p e s m args below meth c ls H locs A Q hQ hx hb hml hr hts hown hlk hnm hsz hAe hP hK hD hS hA hE hAH hl
  have ht : ∀ w ∈ mw, w.before args s = true := fun w h => hts w (List.mem_cons_of_mem _ h)
  have hl : lv_has ls 4 [(0, .ref h), (1, .int (nI 0)), (2, .int (nI j))] := hl
  refine lv_iload_n hx hb d_Pk_cycle_0 rfl (lv_at hl 1 rfl) ?_
  refine wi_if_eq hx hb d_Pk_cycle_1 rfl (by decide) (fun _ => ?_) (fun h => absurd h (by decide))
  refine lv_iload_n hx hb d_Pk_cycle_19 rfl (lv_at hl 1 rfl) ?_
  refine wi_if_eq hx hb d_Pk_cycle_20 rfl (by decide) (fun _ => ?_) (fun h => absurd h (by decide))
  refine lv_aload_n hx hb d_Pk_cycle_30 rfl (lv_at hl 0 rfl) ?_
  refine va_get (D := D) (ci := 4) (v := .ref fo) (C := R_Pk) (T := T_Pk) (N := 11) hx hb ht u_Pk hown hK hP 0 rfl rfl 4 (by decide) (ht _ wd_88) (fun _ h9 => h9) rfl d_Pk_cycle_31 ?_
  refine lv_astore_n (lv' := [(3, .ref fo), (0, .ref h), (1, .int (nI 0)), (2, .int (nI j))]) hx hb d_Pk_cycle_34 rfl hl (by decide) rfl (fun ls hl => ?_)
  refine lv_iload_n hx hb d_Pk_cycle_35 rfl (lv_at hl 3 rfl) ?_
  refine lv_iconst (v := -1) hx hb d_Pk_cycle_36 (by decide) ?_
  refine lv_icmp_ne hx hb d_Pk_cycle_37 rfl (fun h37 => ?_) (fun h37 => ?_)
  · refine lv_iload_n hx hb d_Pk_cycle_45 rfl (lv_at hl 3 rfl) ?_
    refine wi_if_lt hx hb d_Pk_cycle_46 rfl (by omega) ?_
    refine lv_iload_n hx hb d_Pk_cycle_49 rfl (lv_at hl 3 rfl) ?_
    refine lv_aload_n hx hb d_Pk_cycle_50 rfl (lv_at hl 0 rfl) ?_
    refine ck_i (wc := [(fo, .inr (1, [.ref c0, .int (nI L), .int (nI b)]))]) (va_runV (As := []) (rest := [.int (nI j)]) (C := R_Cy) ⟨hx, hb, hml, hown, ht⟩ (c_Cy_length l Hs D cI cZ cL fo c0 L b  H.size) (gw_V 0 ht wd_844 wd_4 wd_841 wd_842 wd_843 (by decide +kernel) ⟨Nat.le_of_ble_eq_true rfl, Nat.le_of_ble_eq_true rfl⟩) (k_preV hE hAH hK hP hD hS [1] rfl rfl 1 rfl rfl) rfl rfl hl.1 rfl (lv_room (Nat.le_of_ble_eq_true rfl)) d_Pk_cycle_51 ⟨Nat.le_of_ble_eq_true rfl, Nat.le_of_ble_eq_true rfl⟩) hP hD hS hA [1] rfl rfl (fun r51 w1 H locs hpost hP hD hS => ?_)
    obtain ⟨rfl, rfl⟩ := hpost
    have hP : va_P D kcl [(h, .inr (4, [.ref rb, vs, .ref pr, .ref pl, .ref fo, .ref sa, .int (nI sw), .int (nI ax), .int (nI wi), .int (nI va), .int (nI sl)])), (fo, .inr (1, [.ref c0, .int (nI L), .int (nI b)])), (c0, .inl (cI, M1, .inl (wA f8))), (sa, .inr (1, [.ref s0, .int (nI L2), .int (nI b2)])), (s0, .inl (cI, M2, .inl (wA f9)))] H := hP
    have hD : va_D A [(h, .inr (4, [.ref rb, vs, .ref pr, .ref pl, .ref fo, .ref sa, .int (nI sw), .int (nI ax), .int (nI wi), .int (nI va), .int (nI sl)])), (fo, .inr (1, [.ref c0, .int (nI L), .int (nI b)])), (c0, .inl (cI, M1, .inl (wA f8))), (sa, .inr (1, [.ref s0, .int (nI L2), .int (nI b2)])), (s0, .inl (cI, M2, .inl (wA f9)))] := hD
    refine wi_lt hx hb d_Pk_cycle_54 rfl (by omega) (by omega) (fun h54 => ?_) (fun h54 => ?_)
    · refine lv_aload_n hx hb d_Pk_cycle_65 rfl (lv_at hl 0 rfl) ?_
      refine lv_iload_n hx hb d_Pk_cycle_66 rfl (lv_at hl 3 rfl) ?_
      refine ck_i (wc := [(fo, .inr (1, [.ref c0, .int (nI L), .int (nI b)])), (c0, .inl (cI, M1, .inl (wA f8)))]) (va_runV (As := [.int (nI j)]) (rest := []) (C := R_Cy) ⟨hx, hb, hml, hown, ht⟩ (c_Cy_idAt l Hs D cI cZ cL fo c0 M1 f8 L b j (by omega) (by omega) H.size) (gw_V 1 ht wd_178 wd_4 wd_175 wd_176 wd_177 (by decide +kernel) ⟨Nat.le_of_ble_eq_true rfl, Nat.le_of_ble_eq_true rfl⟩) (k_preV hE hAH hK hP hD hS [1, 2] rfl rfl 1 rfl rfl) rfl rfl hl.1 rfl (lv_room (Nat.le_of_ble_eq_true rfl)) d_Pk_cycle_67 ⟨Nat.le_of_ble_eq_true rfl, Nat.le_of_ble_eq_true rfl⟩) hP hD hS hA [1, 2] rfl rfl (fun r67 w1 H locs hpost hP hD hS => ?_)
      obtain ⟨rfl, rfl⟩ := hpost
      have hP : va_P D kcl [(h, .inr (4, [.ref rb, vs, .ref pr, .ref pl, .ref fo, .ref sa, .int (nI sw), .int (nI ax), .int (nI wi), .int (nI va), .int (nI sl)])), (fo, .inr (1, [.ref c0, .int (nI L), .int (nI b)])), (c0, .inl (cI, M1, .inl (wA f8))), (sa, .inr (1, [.ref s0, .int (nI L2), .int (nI b2)])), (s0, .inl (cI, M2, .inl (wA f9)))] H := hP
      have hD : va_D A [(h, .inr (4, [.ref rb, vs, .ref pr, .ref pl, .ref fo, .ref sa, .int (nI sw), .int (nI ax), .int (nI wi), .int (nI va), .int (nI sl)])), (fo, .inr (1, [.ref c0, .int (nI L), .int (nI b)])), (c0, .inl (cI, M1, .inl (wA f8))), (sa, .inr (1, [.ref s0, .int (nI L2), .int (nI b2)])), (s0, .inl (cI, M2, .inl (wA f9)))] := hD
      exact k_reti hQ hx hb hr hlk hAe hK hP hD hS (Nat.le_of_ble_eq_true rfl) (Nat.le_of_ble_eq_true rfl) (Nat.le_of_ble_eq_true rfl) ⟨rfl, rfl⟩ d_Pk_cycle_70
    · exfalso; omega
  · exact absurd h37.symm (nI_m1 (by omega))
set_option maxHeartbeats 4000000 in
set_option maxRecDepth 100000 in
theorem c_Pk_cycleO0 (l : Launch) (Hs : Heap) (D : va_G) (cI cZ cL : ClassId) (h : Nat) (rb : Nat) (pr : Nat) (pl : Nat) (fo : Nat) (sa : Nat) (sw : Nat) (ax : Nat) (wi : Nat) (va : Nat) (sl : Nat) (vs : Value) (c0 : Nat) (M1 : Nat) (f8 : Nat → Nat) (L : Nat) (b : Nat) (s0 : Nat) (M2 : Nat) (f9 : Nat → Nat) (L2 : Nat) (b2 : Nat) (x : Int32) (hLM : L ≤ M1) (hM : M1 ≤ 1500) (hx1 : ¬ x = -1) (hno : x < 0 ∨ ¬ x < nI L) : kX l Hs D kcl (ty3 cI cZ cL) y_Pk_cycle (mws y_Pk_cycle b_Pk_cycle 4 (Option.some Jvm.ClassFile.FieldType.int)) ({ frames := 6, cells := 1, slots := 6, locals := 81 } : Room) [.ref h, .int (nI 0), .int x] [(h, .inr (4, [.ref rb, vs, .ref pr, .ref pl, .ref fo, .ref sa, .int (nI sw), .int (nI ax), .int (nI wi), .int (nI va), .int (nI sl)])), (fo, .inr (1, [.ref c0, .int (nI L), .int (nI b)])), (c0, .inl (cI, M1, .inl (wA f8))), (sa, .inr (1, [.ref s0, .int (nI L2), .int (nI b2)])), (s0, .inl (cI, M2, .inl (wA f9)))] e_IO (fun w => w = [(h, .inr (4, [.ref rb, vs, .ref pr, .ref pl, .ref fo, .ref sa, .int (nI sw), .int (nI ax), .int (nI wi), .int (nI va), .int (nI sl)])), (fo, .inr (1, [.ref c0, .int (nI L), .int (nI b)])), (c0, .inl (cI, M1, .inl (wA f8))), (sa, .inr (1, [.ref s0, .int (nI L2), .int (nI b2)])), (s0, .inl (cI, M2, .inl (wA f9)))]) := by
  intro hfl sz
  refine xk_of (cc := b_Pk_cycle) (maxL := 4) (ret := (Option.some Jvm.ClassFile.FieldType.int)) (by decide) rfl (Nat.le_of_ble_eq_true rfl) ?_
  intro p e s m args below meth c ls H locs A Q hQ hx hb hml hr hts hown hlk hnm hsz hAe hP hK hD hS hA hE hAH hl hem
  have ht : ∀ w ∈ mw, w.before args s = true := fun w h => hts w (List.mem_cons_of_mem _ h)
  have hl : lv_has ls 4 [(0, .ref h), (1, .int (nI 0)), (2, .int x)] := hl
  refine lv_iload_n hx hb d_Pk_cycle_0 rfl (lv_at hl 1 rfl) ?_
  refine wi_if_eq hx hb d_Pk_cycle_1 rfl (by decide) (fun _ => ?_) (fun h => absurd h (by decide))
  refine lv_iload_n hx hb d_Pk_cycle_19 rfl (lv_at hl 1 rfl) ?_
  refine wi_if_eq hx hb d_Pk_cycle_20 rfl (by decide) (fun _ => ?_) (fun h => absurd h (by decide))
  refine lv_aload_n hx hb d_Pk_cycle_30 rfl (lv_at hl 0 rfl) ?_
  refine va_get (D := D) (ci := 4) (v := .ref fo) (C := R_Pk) (T := T_Pk) (N := 11) hx hb ht u_Pk hown hK hP 0 rfl rfl 4 (by decide) (ht _ wd_88) (fun _ h9 => h9) rfl d_Pk_cycle_31 ?_
  refine lv_astore_n (lv' := [(3, .ref fo), (0, .ref h), (1, .int (nI 0)), (2, .int x)]) hx hb d_Pk_cycle_34 rfl hl (by decide) rfl (fun ls hl => ?_)
  refine lv_iload_n hx hb d_Pk_cycle_35 rfl (lv_at hl 3 rfl) ?_
  refine lv_iconst (v := -1) hx hb d_Pk_cycle_36 (by decide) ?_
  refine lv_icmp_ne hx hb d_Pk_cycle_37 rfl (fun h37 => ?_) (fun h37 => ?_)
  · refine lv_iload_n hx hb d_Pk_cycle_45 rfl (lv_at hl 3 rfl) ?_
    refine lv_if_lt hx hb d_Pk_cycle_46 rfl (fun h46 => ?_) (fun h46 => ?_)
    · refine xk_new (E := e_IO) hfl hx hb (hml.trans hl.1.symm) hown (by decide) (xk_IO ht hE) (ht _ wd_845) (ht _ wd_854) hE hAH hP hS hA (Nat.le_of_ble_eq_true rfl) (Nat.le_of_ble_eq_true rfl) (Nat.le_of_ble_eq_true rfl) (Nat.le_of_ble_eq_true rfl) d_Pk_cycle_57 d_Pk_cycle_60 d_Pk_cycle_61 (fun xa H locs ce hce hst hcl hP hS => ?_)
      exact xk_athrow hQ hx hb hlk hem hAe hK hP hD hS hce hst hcl (Nat.le_of_ble_eq_true rfl) (Nat.le_of_ble_eq_true rfl) (Nat.le_of_ble_eq_true rfl) rfl d_Pk_cycle_64
    · refine lv_iload_n hx hb d_Pk_cycle_49 rfl (lv_at hl 3 rfl) ?_
      refine lv_aload_n hx hb d_Pk_cycle_50 rfl (lv_at hl 0 rfl) ?_
      refine ck_i (wc := [(fo, .inr (1, [.ref c0, .int (nI L), .int (nI b)]))]) (va_runV (As := []) (rest := [.int x]) (C := R_Cy) ⟨hx, hb, hml, hown, ht⟩ (c_Cy_length l Hs D cI cZ cL fo c0 L b  H.size) (gw_V 0 ht wd_844 wd_4 wd_841 wd_842 wd_843 (by decide +kernel) ⟨Nat.le_of_ble_eq_true rfl, Nat.le_of_ble_eq_true rfl⟩) (k_preV hE hAH hK hP hD hS [1] rfl rfl 1 rfl rfl) rfl rfl hl.1 rfl (lv_room (Nat.le_of_ble_eq_true rfl)) d_Pk_cycle_51 ⟨Nat.le_of_ble_eq_true rfl, Nat.le_of_ble_eq_true rfl⟩) hP hD hS hA [1] rfl rfl (fun r51 w1 H locs hpost hP hD hS => ?_)
      obtain ⟨rfl, rfl⟩ := hpost
      have hP : va_P D kcl [(h, .inr (4, [.ref rb, vs, .ref pr, .ref pl, .ref fo, .ref sa, .int (nI sw), .int (nI ax), .int (nI wi), .int (nI va), .int (nI sl)])), (fo, .inr (1, [.ref c0, .int (nI L), .int (nI b)])), (c0, .inl (cI, M1, .inl (wA f8))), (sa, .inr (1, [.ref s0, .int (nI L2), .int (nI b2)])), (s0, .inl (cI, M2, .inl (wA f9)))] H := hP
      have hD : va_D A [(h, .inr (4, [.ref rb, vs, .ref pr, .ref pl, .ref fo, .ref sa, .int (nI sw), .int (nI ax), .int (nI wi), .int (nI va), .int (nI sl)])), (fo, .inr (1, [.ref c0, .int (nI L), .int (nI b)])), (c0, .inl (cI, M1, .inl (wA f8))), (sa, .inr (1, [.ref s0, .int (nI L2), .int (nI b2)])), (s0, .inl (cI, M2, .inl (wA f9)))] := hD
      refine lv_icmp_lt hx hb d_Pk_cycle_54 rfl (fun h54 => ?_) (fun h54 => ?_)
      · rcases hno with h | h; exact absurd h h46; exact absurd h54 h
      · refine xk_new (E := e_IO) hfl hx hb (hml.trans hl.1.symm) hown (by decide) (xk_IO ht hE) (ht _ wd_845) (ht _ wd_854) hE hAH hP hS hA (Nat.le_of_ble_eq_true rfl) (Nat.le_of_ble_eq_true rfl) (Nat.le_of_ble_eq_true rfl) (Nat.le_of_ble_eq_true rfl) d_Pk_cycle_57 d_Pk_cycle_60 d_Pk_cycle_61 (fun xa H locs ce hce hst hcl hP hS => ?_)
        exact xk_athrow hQ hx hb hlk hem hAe hK hP hD hS hce hst hcl (Nat.le_of_ble_eq_true rfl) (Nat.le_of_ble_eq_true rfl) (Nat.le_of_ble_eq_true rfl) rfl d_Pk_cycle_64
  · exact absurd h37 hx1
set_option maxHeartbeats 4000000 in
set_option maxRecDepth 100000 in
theorem c_Pk_cycleL1 (l : Launch) (Hs : Heap) (D : va_G) (cI cZ cL : ClassId) (h : Nat) (rb : Nat) (pr : Nat) (pl : Nat) (fo : Nat) (sa : Nat) (ax : Nat) (wi : Nat) (va : Nat) (sl : Nat) (vs : Value) (c0 : Nat) (M1 : Nat) (f8 : Nat → Nat) (L : Nat) (b : Nat) (s0 : Nat) (M2 : Nat) (f9 : Nat → Nat) (L2 : Nat) (b2 : Nat) : kI l Hs D kcl (ty3 cI cZ cL) y_Pk_cycle (mws y_Pk_cycle b_Pk_cycle 4 (Option.some Jvm.ClassFile.FieldType.int)) ({ frames := 1, cells := 0, slots := 0, locals := 20 } : Room) [.ref h, .int (nI 1), .int (-1)] [(h, .inr (4, [.ref rb, vs, .ref pr, .ref pl, .ref fo, .ref sa, .int (nI 1), .int (nI ax), .int (nI wi), .int (nI va), .int (nI sl)])), (fo, .inr (1, [.ref c0, .int (nI L), .int (nI b)])), (c0, .inl (cI, M1, .inl (wA f8))), (sa, .inr (1, [.ref s0, .int (nI L2), .int (nI b2)])), (s0, .inl (cI, M2, .inl (wA f9)))] (fun r w => r = nI L2 ∧ w = [(h, .inr (4, [.ref rb, vs, .ref pr, .ref pl, .ref fo, .ref sa, .int (nI 1), .int (nI ax), .int (nI wi), .int (nI va), .int (nI sl)])), (fo, .inr (1, [.ref c0, .int (nI L), .int (nI b)])), (c0, .inl (cI, M1, .inl (wA f8))), (sa, .inr (1, [.ref s0, .int (nI L2), .int (nI b2)])), (s0, .inl (cI, M2, .inl (wA f9)))]) := by
  intro sz
  refine k_of (cc := b_Pk_cycle) (maxL := 4) (ret := (Option.some Jvm.ClassFile.FieldType.int)) (by decide) rfl (Nat.le_of_ble_eq_true rfl) ?_
  intro p e s m args below meth c ls H locs A Q hQ hx hb hml hr hts hown hlk hnm hsz hAe hP hK hD hS hA hE hAH hl
  have ht : ∀ w ∈ mw, w.before args s = true := fun w h => hts w (List.mem_cons_of_mem _ h)
  have hl : lv_has ls 4 [(0, .ref h), (1, .int (nI 1)), (2, .int (-1))] := hl
  refine lv_iload_n hx hb d_Pk_cycle_0 rfl (lv_at hl 1 rfl) ?_
  refine wi_if_eq hx hb d_Pk_cycle_1 rfl (by decide) (fun h => absurd h (by decide)) (fun _ => ?_)
  refine lv_aload_n hx hb d_Pk_cycle_4 rfl (lv_at hl 0 rfl) ?_
  refine va_get (D := D) (ci := 4) (v := .int (nI 1)) (C := R_Pk) (T := T_Pk) (N := 11) hx hb ht u_Pk hown hK hP 0 rfl rfl 6 (by decide) (ht _ wd_90) (fun _ h9 => h9) rfl d_Pk_cycle_5 ?_
  refine wi_if_ne hx hb d_Pk_cycle_8 rfl (by decide) (fun _ => ?_) (fun h => absurd h (by decide))
  refine lv_iload_n hx hb d_Pk_cycle_19 rfl (lv_at hl 1 rfl) ?_
  refine wi_if_eq hx hb d_Pk_cycle_20 rfl (by decide) (fun h => absurd h (by decide)) (fun _ => ?_)
  refine lv_aload_n hx hb d_Pk_cycle_23 rfl (lv_at hl 0 rfl) ?_
  refine va_get (D := D) (ci := 4) (v := .ref sa) (C := R_Pk) (T := T_Pk) (N := 11) hx hb ht u_Pk hown hK hP 0 rfl rfl 5 (by decide) (ht _ wd_89) (fun _ h9 => h9) rfl d_Pk_cycle_24 ?_
  refine lv_goto hx hb d_Pk_cycle_27 rfl ?_
  refine lv_astore_n (lv' := [(3, .ref sa), (0, .ref h), (1, .int (nI 1)), (2, .int (-1))]) hx hb d_Pk_cycle_34 rfl hl (by decide) rfl (fun ls hl => ?_)
  refine lv_iload_n hx hb d_Pk_cycle_35 rfl (lv_at hl 3 rfl) ?_
  refine lv_iconst (v := -1) hx hb d_Pk_cycle_36 (by decide) ?_
  refine lv_icmp_ne hx hb d_Pk_cycle_37 rfl (fun h37 => ?_) (fun h37 => ?_)
  · exact absurd rfl h37
  · refine lv_aload_n hx hb d_Pk_cycle_40 rfl (lv_at hl 0 rfl) ?_
    refine ck_i (wc := [(sa, .inr (1, [.ref s0, .int (nI L2), .int (nI b2)]))]) (va_runV (As := []) (rest := []) (C := R_Cy) ⟨hx, hb, hml, hown, ht⟩ (c_Cy_length l Hs D cI cZ cL sa s0 L2 b2  H.size) (gw_V 0 ht wd_844 wd_4 wd_841 wd_842 wd_843 (by decide +kernel) ⟨Nat.le_of_ble_eq_true rfl, Nat.le_of_ble_eq_true rfl⟩) (k_preV hE hAH hK hP hD hS [3] rfl rfl 3 rfl rfl) rfl rfl hl.1 rfl (lv_room (Nat.le_of_ble_eq_true rfl)) d_Pk_cycle_41 ⟨Nat.le_of_ble_eq_true rfl, Nat.le_of_ble_eq_true rfl⟩) hP hD hS hA [3] rfl rfl (fun r41 w1 H locs hpost hP hD hS => ?_)
    obtain ⟨rfl, rfl⟩ := hpost
    have hP : va_P D kcl [(h, .inr (4, [.ref rb, vs, .ref pr, .ref pl, .ref fo, .ref sa, .int (nI 1), .int (nI ax), .int (nI wi), .int (nI va), .int (nI sl)])), (fo, .inr (1, [.ref c0, .int (nI L), .int (nI b)])), (c0, .inl (cI, M1, .inl (wA f8))), (sa, .inr (1, [.ref s0, .int (nI L2), .int (nI b2)])), (s0, .inl (cI, M2, .inl (wA f9)))] H := hP
    have hD : va_D A [(h, .inr (4, [.ref rb, vs, .ref pr, .ref pl, .ref fo, .ref sa, .int (nI 1), .int (nI ax), .int (nI wi), .int (nI va), .int (nI sl)])), (fo, .inr (1, [.ref c0, .int (nI L), .int (nI b)])), (c0, .inl (cI, M1, .inl (wA f8))), (sa, .inr (1, [.ref s0, .int (nI L2), .int (nI b2)])), (s0, .inl (cI, M2, .inl (wA f9)))] := hD
    exact k_reti hQ hx hb hr hlk hAe hK hP hD hS (Nat.le_of_ble_eq_true rfl) (Nat.le_of_ble_eq_true rfl) (Nat.le_of_ble_eq_true rfl) ⟨rfl, rfl⟩ d_Pk_cycle_44
set_option maxHeartbeats 4000000 in
set_option maxRecDepth 100000 in
theorem c_Pk_cycleI1 (l : Launch) (Hs : Heap) (D : va_G) (cI cZ cL : ClassId) (h : Nat) (rb : Nat) (pr : Nat) (pl : Nat) (fo : Nat) (sa : Nat) (ax : Nat) (wi : Nat) (va : Nat) (sl : Nat) (vs : Value) (c0 : Nat) (M1 : Nat) (f8 : Nat → Nat) (L : Nat) (b : Nat) (s0 : Nat) (M2 : Nat) (f9 : Nat → Nat) (L2 : Nat) (b2 : Nat) (j : Nat) (hLM : L2 ≤ M2) (hM : M2 ≤ 1500) (hj : j < L2) : kI l Hs D kcl (ty3 cI cZ cL) y_Pk_cycle (mws y_Pk_cycle b_Pk_cycle 4 (Option.some Jvm.ClassFile.FieldType.int)) ({ frames := 1, cells := 0, slots := 0, locals := 21 } : Room) [.ref h, .int (nI 1), .int (nI j)] [(h, .inr (4, [.ref rb, vs, .ref pr, .ref pl, .ref fo, .ref sa, .int (nI 1), .int (nI ax), .int (nI wi), .int (nI va), .int (nI sl)])), (fo, .inr (1, [.ref c0, .int (nI L), .int (nI b)])), (c0, .inl (cI, M1, .inl (wA f8))), (sa, .inr (1, [.ref s0, .int (nI L2), .int (nI b2)])), (s0, .inl (cI, M2, .inl (wA f9)))] (fun r w => r = nI (f9 j) ∧ w = [(h, .inr (4, [.ref rb, vs, .ref pr, .ref pl, .ref fo, .ref sa, .int (nI 1), .int (nI ax), .int (nI wi), .int (nI va), .int (nI sl)])), (fo, .inr (1, [.ref c0, .int (nI L), .int (nI b)])), (c0, .inl (cI, M1, .inl (wA f8))), (sa, .inr (1, [.ref s0, .int (nI L2), .int (nI b2)])), (s0, .inl (cI, M2, .inl (wA f9)))]) := by
  intro sz
  refine k_of (cc := b_Pk_cycle) (maxL := 4) (ret := (Option.some Jvm.ClassFile.FieldType.int)) (by decide) rfl (Nat.le_of_ble_eq_true rfl) ?_
  intro p e s m args below meth c ls H locs A Q hQ hx hb hml hr hts hown hlk hnm hsz hAe hP hK hD hS hA hE hAH hl
  have ht : ∀ w ∈ mw, w.before args s = true := fun w h => hts w (List.mem_cons_of_mem _ h)
  have hl : lv_has ls 4 [(0, .ref h), (1, .int (nI 1)), (2, .int (nI j))] := hl
  refine lv_iload_n hx hb d_Pk_cycle_0 rfl (lv_at hl 1 rfl) ?_
  refine wi_if_eq hx hb d_Pk_cycle_1 rfl (by decide) (fun h => absurd h (by decide)) (fun _ => ?_)
  refine lv_aload_n hx hb d_Pk_cycle_4 rfl (lv_at hl 0 rfl) ?_
  refine va_get (D := D) (ci := 4) (v := .int (nI 1)) (C := R_Pk) (T := T_Pk) (N := 11) hx hb ht u_Pk hown hK hP 0 rfl rfl 6 (by decide) (ht _ wd_90) (fun _ h9 => h9) rfl d_Pk_cycle_5 ?_
  refine wi_if_ne hx hb d_Pk_cycle_8 rfl (by decide) (fun _ => ?_) (fun h => absurd h (by decide))
  refine lv_iload_n hx hb d_Pk_cycle_19 rfl (lv_at hl 1 rfl) ?_
  refine wi_if_eq hx hb d_Pk_cycle_20 rfl (by decide) (fun h => absurd h (by decide)) (fun _ => ?_)
  refine lv_aload_n hx hb d_Pk_cycle_23 rfl (lv_at hl 0 rfl) ?_
  refine va_get (D := D) (ci := 4) (v := .ref sa) (C := R_Pk) (T := T_Pk) (N := 11) hx hb ht u_Pk hown hK hP 0 rfl rfl 5 (by decide) (ht _ wd_89) (fun _ h9 => h9) rfl d_Pk_cycle_24 ?_
  refine lv_goto hx hb d_Pk_cycle_27 rfl ?_
  refine lv_astore_n (lv' := [(3, .ref sa), (0, .ref h), (1, .int (nI 1)), (2, .int (nI j))]) hx hb d_Pk_cycle_34 rfl hl (by decide) rfl (fun ls hl => ?_)
  refine lv_iload_n hx hb d_Pk_cycle_35 rfl (lv_at hl 3 rfl) ?_
  refine lv_iconst (v := -1) hx hb d_Pk_cycle_36 (by decide) ?_
  refine lv_icmp_ne hx hb d_Pk_cycle_37 rfl (fun h37 => ?_) (fun h37 => ?_)
  · refine lv_iload_n hx hb d_Pk_cycle_45 rfl (lv_at hl 3 rfl) ?_
    refine wi_if_lt hx hb d_Pk_cycle_46 rfl (by omega) ?_
    refine lv_iload_n hx hb d_Pk_cycle_49 rfl (lv_at hl 3 rfl) ?_
    refine lv_aload_n hx hb d_Pk_cycle_50 rfl (lv_at hl 0 rfl) ?_
    refine ck_i (wc := [(sa, .inr (1, [.ref s0, .int (nI L2), .int (nI b2)]))]) (va_runV (As := []) (rest := [.int (nI j)]) (C := R_Cy) ⟨hx, hb, hml, hown, ht⟩ (c_Cy_length l Hs D cI cZ cL sa s0 L2 b2  H.size) (gw_V 0 ht wd_844 wd_4 wd_841 wd_842 wd_843 (by decide +kernel) ⟨Nat.le_of_ble_eq_true rfl, Nat.le_of_ble_eq_true rfl⟩) (k_preV hE hAH hK hP hD hS [3] rfl rfl 3 rfl rfl) rfl rfl hl.1 rfl (lv_room (Nat.le_of_ble_eq_true rfl)) d_Pk_cycle_51 ⟨Nat.le_of_ble_eq_true rfl, Nat.le_of_ble_eq_true rfl⟩) hP hD hS hA [3] rfl rfl (fun r51 w1 H locs hpost hP hD hS => ?_)
    obtain ⟨rfl, rfl⟩ := hpost
    have hP : va_P D kcl [(h, .inr (4, [.ref rb, vs, .ref pr, .ref pl, .ref fo, .ref sa, .int (nI 1), .int (nI ax), .int (nI wi), .int (nI va), .int (nI sl)])), (fo, .inr (1, [.ref c0, .int (nI L), .int (nI b)])), (c0, .inl (cI, M1, .inl (wA f8))), (sa, .inr (1, [.ref s0, .int (nI L2), .int (nI b2)])), (s0, .inl (cI, M2, .inl (wA f9)))] H := hP
    have hD : va_D A [(h, .inr (4, [.ref rb, vs, .ref pr, .ref pl, .ref fo, .ref sa, .int (nI 1), .int (nI ax), .int (nI wi), .int (nI va), .int (nI sl)])), (fo, .inr (1, [.ref c0, .int (nI L), .int (nI b)])), (c0, .inl (cI, M1, .inl (wA f8))), (sa, .inr (1, [.ref s0, .int (nI L2), .int (nI b2)])), (s0, .inl (cI, M2, .inl (wA f9)))] := hD
    refine wi_lt hx hb d_Pk_cycle_54 rfl (by omega) (by omega) (fun h54 => ?_) (fun h54 => ?_)
    · refine lv_aload_n hx hb d_Pk_cycle_65 rfl (lv_at hl 0 rfl) ?_
      refine lv_iload_n hx hb d_Pk_cycle_66 rfl (lv_at hl 3 rfl) ?_
      refine ck_i (wc := [(sa, .inr (1, [.ref s0, .int (nI L2), .int (nI b2)])), (s0, .inl (cI, M2, .inl (wA f9)))]) (va_runV (As := [.int (nI j)]) (rest := []) (C := R_Cy) ⟨hx, hb, hml, hown, ht⟩ (c_Cy_idAt l Hs D cI cZ cL sa s0 M2 f9 L2 b2 j (by omega) (by omega) H.size) (gw_V 1 ht wd_178 wd_4 wd_175 wd_176 wd_177 (by decide +kernel) ⟨Nat.le_of_ble_eq_true rfl, Nat.le_of_ble_eq_true rfl⟩) (k_preV hE hAH hK hP hD hS [3, 4] rfl rfl 3 rfl rfl) rfl rfl hl.1 rfl (lv_room (Nat.le_of_ble_eq_true rfl)) d_Pk_cycle_67 ⟨Nat.le_of_ble_eq_true rfl, Nat.le_of_ble_eq_true rfl⟩) hP hD hS hA [3, 4] rfl rfl (fun r67 w1 H locs hpost hP hD hS => ?_)
      obtain ⟨rfl, rfl⟩ := hpost
      have hP : va_P D kcl [(h, .inr (4, [.ref rb, vs, .ref pr, .ref pl, .ref fo, .ref sa, .int (nI 1), .int (nI ax), .int (nI wi), .int (nI va), .int (nI sl)])), (fo, .inr (1, [.ref c0, .int (nI L), .int (nI b)])), (c0, .inl (cI, M1, .inl (wA f8))), (sa, .inr (1, [.ref s0, .int (nI L2), .int (nI b2)])), (s0, .inl (cI, M2, .inl (wA f9)))] H := hP
      have hD : va_D A [(h, .inr (4, [.ref rb, vs, .ref pr, .ref pl, .ref fo, .ref sa, .int (nI 1), .int (nI ax), .int (nI wi), .int (nI va), .int (nI sl)])), (fo, .inr (1, [.ref c0, .int (nI L), .int (nI b)])), (c0, .inl (cI, M1, .inl (wA f8))), (sa, .inr (1, [.ref s0, .int (nI L2), .int (nI b2)])), (s0, .inl (cI, M2, .inl (wA f9)))] := hD
      exact k_reti hQ hx hb hr hlk hAe hK hP hD hS (Nat.le_of_ble_eq_true rfl) (Nat.le_of_ble_eq_true rfl) (Nat.le_of_ble_eq_true rfl) ⟨rfl, rfl⟩ d_Pk_cycle_70
    · exfalso; omega
  · exact absurd h37.symm (nI_m1 (by omega))
set_option maxHeartbeats 4000000 in
set_option maxRecDepth 100000 in
theorem c_Pk_cycleO1 (l : Launch) (Hs : Heap) (D : va_G) (cI cZ cL : ClassId) (h : Nat) (rb : Nat) (pr : Nat) (pl : Nat) (fo : Nat) (sa : Nat) (ax : Nat) (wi : Nat) (va : Nat) (sl : Nat) (vs : Value) (c0 : Nat) (M1 : Nat) (f8 : Nat → Nat) (L : Nat) (b : Nat) (s0 : Nat) (M2 : Nat) (f9 : Nat → Nat) (L2 : Nat) (b2 : Nat) (x : Int32) (hLM : L2 ≤ M2) (hM : M2 ≤ 1500) (hx1 : ¬ x = -1) (hno : x < 0 ∨ ¬ x < nI L2) : kX l Hs D kcl (ty3 cI cZ cL) y_Pk_cycle (mws y_Pk_cycle b_Pk_cycle 4 (Option.some Jvm.ClassFile.FieldType.int)) ({ frames := 6, cells := 1, slots := 6, locals := 81 } : Room) [.ref h, .int (nI 1), .int x] [(h, .inr (4, [.ref rb, vs, .ref pr, .ref pl, .ref fo, .ref sa, .int (nI 1), .int (nI ax), .int (nI wi), .int (nI va), .int (nI sl)])), (fo, .inr (1, [.ref c0, .int (nI L), .int (nI b)])), (c0, .inl (cI, M1, .inl (wA f8))), (sa, .inr (1, [.ref s0, .int (nI L2), .int (nI b2)])), (s0, .inl (cI, M2, .inl (wA f9)))] e_IO (fun w => w = [(h, .inr (4, [.ref rb, vs, .ref pr, .ref pl, .ref fo, .ref sa, .int (nI 1), .int (nI ax), .int (nI wi), .int (nI va), .int (nI sl)])), (fo, .inr (1, [.ref c0, .int (nI L), .int (nI b)])), (c0, .inl (cI, M1, .inl (wA f8))), (sa, .inr (1, [.ref s0, .int (nI L2), .int (nI b2)])), (s0, .inl (cI, M2, .inl (wA f9)))]) := by
  intro hfl sz
  refine xk_of (cc := b_Pk_cycle) (maxL := 4) (ret := (Option.some Jvm.ClassFile.FieldType.int)) (by decide) rfl (Nat.le_of_ble_eq_true rfl) ?_
  intro p e s m args below meth c ls H locs A Q hQ hx hb hml hr hts hown hlk hnm hsz hAe hP hK hD hS hA hE hAH hl hem
  have ht : ∀ w ∈ mw, w.before args s = true := fun w h => hts w (List.mem_cons_of_mem _ h)
  have hl : lv_has ls 4 [(0, .ref h), (1, .int (nI 1)), (2, .int x)] := hl
  refine lv_iload_n hx hb d_Pk_cycle_0 rfl (lv_at hl 1 rfl) ?_
  refine wi_if_eq hx hb d_Pk_cycle_1 rfl (by decide) (fun h => absurd h (by decide)) (fun _ => ?_)
  refine lv_aload_n hx hb d_Pk_cycle_4 rfl (lv_at hl 0 rfl) ?_
  refine va_get (D := D) (ci := 4) (v := .int (nI 1)) (C := R_Pk) (T := T_Pk) (N := 11) hx hb ht u_Pk hown hK hP 0 rfl rfl 6 (by decide) (ht _ wd_90) (fun _ h9 => h9) rfl d_Pk_cycle_5 ?_
  refine wi_if_ne hx hb d_Pk_cycle_8 rfl (by decide) (fun _ => ?_) (fun h => absurd h (by decide))
  refine lv_iload_n hx hb d_Pk_cycle_19 rfl (lv_at hl 1 rfl) ?_
  refine wi_if_eq hx hb d_Pk_cycle_20 rfl (by decide) (fun h => absurd h (by decide)) (fun _ => ?_)
  refine lv_aload_n hx hb d_Pk_cycle_23 rfl (lv_at hl 0 rfl) ?_
  refine va_get (D := D) (ci := 4) (v := .ref sa) (C := R_Pk) (T := T_Pk) (N := 11) hx hb ht u_Pk hown hK hP 0 rfl rfl 5 (by decide) (ht _ wd_89) (fun _ h9 => h9) rfl d_Pk_cycle_24 ?_
  refine lv_goto hx hb d_Pk_cycle_27 rfl ?_
  refine lv_astore_n (lv' := [(3, .ref sa), (0, .ref h), (1, .int (nI 1)), (2, .int x)]) hx hb d_Pk_cycle_34 rfl hl (by decide) rfl (fun ls hl => ?_)
  refine lv_iload_n hx hb d_Pk_cycle_35 rfl (lv_at hl 3 rfl) ?_
  refine lv_iconst (v := -1) hx hb d_Pk_cycle_36 (by decide) ?_
  refine lv_icmp_ne hx hb d_Pk_cycle_37 rfl (fun h37 => ?_) (fun h37 => ?_)
  · refine lv_iload_n hx hb d_Pk_cycle_45 rfl (lv_at hl 3 rfl) ?_
    refine lv_if_lt hx hb d_Pk_cycle_46 rfl (fun h46 => ?_) (fun h46 => ?_)
    · refine xk_new (E := e_IO) hfl hx hb (hml.trans hl.1.symm) hown (by decide) (xk_IO ht hE) (ht _ wd_845) (ht _ wd_854) hE hAH hP hS hA (Nat.le_of_ble_eq_true rfl) (Nat.le_of_ble_eq_true rfl) (Nat.le_of_ble_eq_true rfl) (Nat.le_of_ble_eq_true rfl) d_Pk_cycle_57 d_Pk_cycle_60 d_Pk_cycle_61 (fun xa H locs ce hce hst hcl hP hS => ?_)
      exact xk_athrow hQ hx hb hlk hem hAe hK hP hD hS hce hst hcl (Nat.le_of_ble_eq_true rfl) (Nat.le_of_ble_eq_true rfl) (Nat.le_of_ble_eq_true rfl) rfl d_Pk_cycle_64
    · refine lv_iload_n hx hb d_Pk_cycle_49 rfl (lv_at hl 3 rfl) ?_
      refine lv_aload_n hx hb d_Pk_cycle_50 rfl (lv_at hl 0 rfl) ?_
      refine ck_i (wc := [(sa, .inr (1, [.ref s0, .int (nI L2), .int (nI b2)]))]) (va_runV (As := []) (rest := [.int x]) (C := R_Cy) ⟨hx, hb, hml, hown, ht⟩ (c_Cy_length l Hs D cI cZ cL sa s0 L2 b2  H.size) (gw_V 0 ht wd_844 wd_4 wd_841 wd_842 wd_843 (by decide +kernel) ⟨Nat.le_of_ble_eq_true rfl, Nat.le_of_ble_eq_true rfl⟩) (k_preV hE hAH hK hP hD hS [3] rfl rfl 3 rfl rfl) rfl rfl hl.1 rfl (lv_room (Nat.le_of_ble_eq_true rfl)) d_Pk_cycle_51 ⟨Nat.le_of_ble_eq_true rfl, Nat.le_of_ble_eq_true rfl⟩) hP hD hS hA [3] rfl rfl (fun r51 w1 H locs hpost hP hD hS => ?_)
      obtain ⟨rfl, rfl⟩ := hpost
      have hP : va_P D kcl [(h, .inr (4, [.ref rb, vs, .ref pr, .ref pl, .ref fo, .ref sa, .int (nI 1), .int (nI ax), .int (nI wi), .int (nI va), .int (nI sl)])), (fo, .inr (1, [.ref c0, .int (nI L), .int (nI b)])), (c0, .inl (cI, M1, .inl (wA f8))), (sa, .inr (1, [.ref s0, .int (nI L2), .int (nI b2)])), (s0, .inl (cI, M2, .inl (wA f9)))] H := hP
      have hD : va_D A [(h, .inr (4, [.ref rb, vs, .ref pr, .ref pl, .ref fo, .ref sa, .int (nI 1), .int (nI ax), .int (nI wi), .int (nI va), .int (nI sl)])), (fo, .inr (1, [.ref c0, .int (nI L), .int (nI b)])), (c0, .inl (cI, M1, .inl (wA f8))), (sa, .inr (1, [.ref s0, .int (nI L2), .int (nI b2)])), (s0, .inl (cI, M2, .inl (wA f9)))] := hD
      refine lv_icmp_lt hx hb d_Pk_cycle_54 rfl (fun h54 => ?_) (fun h54 => ?_)
      · rcases hno with h | h; exact absurd h h46; exact absurd h54 h
      · refine xk_new (E := e_IO) hfl hx hb (hml.trans hl.1.symm) hown (by decide) (xk_IO ht hE) (ht _ wd_845) (ht _ wd_854) hE hAH hP hS hA (Nat.le_of_ble_eq_true rfl) (Nat.le_of_ble_eq_true rfl) (Nat.le_of_ble_eq_true rfl) (Nat.le_of_ble_eq_true rfl) d_Pk_cycle_57 d_Pk_cycle_60 d_Pk_cycle_61 (fun xa H locs ce hce hst hcl hP hS => ?_)
        exact xk_athrow hQ hx hb hlk hem hAe hK hP hD hS hce hst hcl (Nat.le_of_ble_eq_true rfl) (Nat.le_of_ble_eq_true rfl) (Nat.le_of_ble_eq_true rfl) rfl d_Pk_cycle_64
  · exact absurd h37 hx1
set_option maxHeartbeats 4000000 in
set_option maxRecDepth 100000 in
theorem c_Pk_cycleN (l : Launch) (Hs : Heap) (D : va_G) (cI cZ cL : ClassId) (h : Nat) (rb : Nat) (pr : Nat) (pl : Nat) (fo : Nat) (sa : Nat) (ax : Nat) (wi : Nat) (va : Nat) (sl : Nat) (vs : Value) (x : Int32) : kX l Hs D kcl (ty3 cI cZ cL) y_Pk_cycle (mws y_Pk_cycle b_Pk_cycle 4 (Option.some Jvm.ClassFile.FieldType.int)) ({ frames := 6, cells := 1, slots := 6, locals := 81 } : Room) [.ref h, .int (nI 1), .int x] [(h, .inr (4, [.ref rb, vs, .ref pr, .ref pl, .ref fo, .ref sa, .int (nI 0), .int (nI ax), .int (nI wi), .int (nI va), .int (nI sl)]))] e_IS (fun w => w = [(h, .inr (4, [.ref rb, vs, .ref pr, .ref pl, .ref fo, .ref sa, .int (nI 0), .int (nI ax), .int (nI wi), .int (nI va), .int (nI sl)]))]) := by
  intro hfl sz
  refine xk_of (cc := b_Pk_cycle) (maxL := 4) (ret := (Option.some Jvm.ClassFile.FieldType.int)) (by decide) rfl (Nat.le_of_ble_eq_true rfl) ?_
  intro p e s m args below meth c ls H locs A Q hQ hx hb hml hr hts hown hlk hnm hsz hAe hP hK hD hS hA hE hAH hl hem
  have ht : ∀ w ∈ mw, w.before args s = true := fun w h => hts w (List.mem_cons_of_mem _ h)
  have hl : lv_has ls 4 [(0, .ref h), (1, .int (nI 1)), (2, .int x)] := hl
  refine lv_iload_n hx hb d_Pk_cycle_0 rfl (lv_at hl 1 rfl) ?_
  refine wi_if_eq hx hb d_Pk_cycle_1 rfl (by decide) (fun h => absurd h (by decide)) (fun _ => ?_)
  refine lv_aload_n hx hb d_Pk_cycle_4 rfl (lv_at hl 0 rfl) ?_
  refine va_get (D := D) (ci := 4) (v := .int (nI 0)) (C := R_Pk) (T := T_Pk) (N := 11) hx hb ht u_Pk hown hK hP 0 rfl rfl 6 (by decide) (ht _ wd_90) (fun _ h9 => h9) rfl d_Pk_cycle_5 ?_
  refine wi_if_ne hx hb d_Pk_cycle_8 rfl (by decide) (fun h => absurd h (by decide)) (fun _ => ?_)
  refine xk_new (E := e_IS) hfl hx hb (hml.trans hl.1.symm) hown (by decide) (xk_IS ht hE) (ht _ wd_356) (ht _ wd_365) hE hAH hP hS hA (Nat.le_of_ble_eq_true rfl) (Nat.le_of_ble_eq_true rfl) (Nat.le_of_ble_eq_true rfl) (Nat.le_of_ble_eq_true rfl) d_Pk_cycle_11 d_Pk_cycle_14 d_Pk_cycle_15 (fun xa H locs ce hce hst hcl hP hS => ?_)
  exact xk_athrow hQ hx hb hlk hem hAe hK hP hD hS hce hst hcl (Nat.le_of_ble_eq_true rfl) (Nat.le_of_ble_eq_true rfl) (Nat.le_of_ble_eq_true rfl) rfl d_Pk_cycle_18
