set_option maxHeartbeats 4000000 in
set_option maxRecDepth 100000 in
/-- how many -/
theorem c_Cl_count (l : Launch) (Hs : Heap) (D : va_G) (cI cZ cL : ClassId) (h : Nat) (a1 : Nat) (a2 : Nat) (a3 : Nat) (a4 : Nat) (n : Nat) : kI l Hs D kcl (ty3 cI cZ cL) y_Cl_count (mws y_Cl_count b_Cl_count 1 (Option.some Jvm.ClassFile.FieldType.int)) ({ frames := 0, cells := 0, slots := 0, locals := 0 } : Room) [.ref h] [(h, .inr (0, [.ref a1, .ref a2, .ref a3, .ref a4, .int (nI n)]))] (fun r w => r = nI n ∧ w = [(h, .inr (0, [.ref a1, .ref a2, .ref a3, .ref a4, .int (nI n)]))]) := by
  intro sz
  refine k_of (cc := b_Cl_count) (maxL := 1) (ret := (Option.some Jvm.ClassFile.FieldType.int)) (by decide) rfl (Nat.le_of_ble_eq_true rfl) ?_
  intro p e s m args below meth c ls H locs A Q hQ hx hb hml hr hts hown hlk hnm hsz hAe hP hK hD hS hA hE hAH hl
  have ht : ∀ w ∈ mw, w.before args s = true := fun w h => hts w (List.mem_cons_of_mem _ h)
  have hl : lv_has ls 1 [(0, .ref h)] := hl
  refine lv_aload_n hx hb d_Cl_count_0 rfl (lv_at hl 0 rfl) ?_
  refine va_get (D := D) (ci := 0) (v := .int (nI n)) (C := R_Cl) (T := T_Cl) (N := 5) hx hb ht u_Cl hown hK hP 0 rfl rfl 4 (by decide) (ht _ wd_56) (fun _ h9 => h9) rfl d_Cl_count_1 ?_
  exact k_reti hQ hx hb hr hlk hAe hK hP hD hS (Nat.le_of_ble_eq_true rfl) (Nat.le_of_ble_eq_true rfl) (Nat.le_of_ble_eq_true rfl) ⟨rfl, rfl⟩ d_Cl_count_4
set_option maxHeartbeats 4000000 in
set_option maxRecDepth 100000 in
theorem c_Cl_idAt (l : Launch) (Hs : Heap) (D : va_G) (cI cZ cL : ClassId) (h : Nat) (a1 : Nat) (a2 : Nat) (a3 : Nat) (a4 : Nat) (n : Nat) (f : Nat → Nat) (k : Nat) (hk : k < 10) : kI l Hs D kcl (ty3 cI cZ cL) y_Cl_idAt (mws y_Cl_idAt b_Cl_idAt 2 (Option.some Jvm.ClassFile.FieldType.int)) ({ frames := 0, cells := 0, slots := 0, locals := 0 } : Room) [.ref h, .int (nI k)] [(h, .inr (0, [.ref a1, .ref a2, .ref a3, .ref a4, .int (nI n)])), (a1, .inl (cI, 10, .inl (wA f)))] (fun r w => r = nI (f k) ∧ w = [(h, .inr (0, [.ref a1, .ref a2, .ref a3, .ref a4, .int (nI n)])), (a1, .inl (cI, 10, .inl (wA f)))]) := by
  intro sz
  refine k_of (cc := b_Cl_idAt) (maxL := 2) (ret := (Option.some Jvm.ClassFile.FieldType.int)) (by decide) rfl (Nat.le_of_ble_eq_true rfl) ?_
  intro p e s m args below meth c ls H locs A Q hQ hx hb hml hr hts hown hlk hnm hsz hAe hP hK hD hS hA hE hAH hl
  have ht : ∀ w ∈ mw, w.before args s = true := fun w h => hts w (List.mem_cons_of_mem _ h)
  have hl : lv_has ls 2 [(0, .ref h), (1, .int (nI k))] := hl
  refine lv_aload_n hx hb d_Cl_idAt_0 rfl (lv_at hl 0 rfl) ?_
  refine va_get (D := D) (ci := 0) (v := .ref a1) (C := R_Cl) (T := T_Cl) (N := 5) hx hb ht u_Cl hown hK hP 0 rfl rfl 0 (by decide) (ht _ wd_52) (fun _ h9 => h9) rfl d_Cl_idAt_1 ?_
  refine lv_iload_n hx hb d_Cl_idAt_4 rfl (lv_at hl 1 rfl) ?_
  refine wi_ald hx hb hK hP 1 0 rfl rfl (by omega) (by omega) d_Cl_idAt_5 ?_
  exact k_reti hQ hx hb hr hlk hAe hK hP hD hS (Nat.le_of_ble_eq_true rfl) (Nat.le_of_ble_eq_true rfl) (Nat.le_of_ble_eq_true rfl) ⟨rfl, rfl⟩ d_Cl_idAt_6
set_option maxHeartbeats 4000000 in
set_option maxRecDepth 100000 in
theorem c_Cl_spanAt (l : Launch) (Hs : Heap) (D : va_G) (cI cZ cL : ClassId) (h : Nat) (a1 : Nat) (a2 : Nat) (a3 : Nat) (a4 : Nat) (n : Nat) (f : Nat → Nat) (k : Nat) (hk : k < 10) : kI l Hs D kcl (ty3 cI cZ cL) y_Cl_spanAt (mws y_Cl_spanAt b_Cl_spanAt 2 (Option.some Jvm.ClassFile.FieldType.int)) ({ frames := 0, cells := 0, slots := 0, locals := 0 } : Room) [.ref h, .int (nI k)] [(h, .inr (0, [.ref a1, .ref a2, .ref a3, .ref a4, .int (nI n)])), (a2, .inl (cI, 10, .inl (wA f)))] (fun r w => r = nI (f k) ∧ w = [(h, .inr (0, [.ref a1, .ref a2, .ref a3, .ref a4, .int (nI n)])), (a2, .inl (cI, 10, .inl (wA f)))]) := by
  intro sz
  refine k_of (cc := b_Cl_spanAt) (maxL := 2) (ret := (Option.some Jvm.ClassFile.FieldType.int)) (by decide) rfl (Nat.le_of_ble_eq_true rfl) ?_
  intro p e s m args below meth c ls H locs A Q hQ hx hb hml hr hts hown hlk hnm hsz hAe hP hK hD hS hA hE hAH hl
  have ht : ∀ w ∈ mw, w.before args s = true := fun w h => hts w (List.mem_cons_of_mem _ h)
  have hl : lv_has ls 2 [(0, .ref h), (1, .int (nI k))] := hl
  refine lv_aload_n hx hb d_Cl_spanAt_0 rfl (lv_at hl 0 rfl) ?_
  refine va_get (D := D) (ci := 0) (v := .ref a2) (C := R_Cl) (T := T_Cl) (N := 5) hx hb ht u_Cl hown hK hP 0 rfl rfl 1 (by decide) (ht _ wd_53) (fun _ h9 => h9) rfl d_Cl_spanAt_1 ?_
  refine lv_iload_n hx hb d_Cl_spanAt_4 rfl (lv_at hl 1 rfl) ?_
  refine wi_ald hx hb hK hP 1 0 rfl rfl (by omega) (by omega) d_Cl_spanAt_5 ?_
  exact k_reti hQ hx hb hr hlk hAe hK hP hD hS (Nat.le_of_ble_eq_true rfl) (Nat.le_of_ble_eq_true rfl) (Nat.le_of_ble_eq_true rfl) ⟨rfl, rfl⟩ d_Cl_spanAt_6
set_option maxHeartbeats 4000000 in
set_option maxRecDepth 100000 in
theorem c_Cl_waitAt (l : Launch) (Hs : Heap) (D : va_G) (cI cZ cL : ClassId) (h : Nat) (a1 : Nat) (a2 : Nat) (a3 : Nat) (a4 : Nat) (n : Nat) (f : Nat → Nat) (k : Nat) (hk : k < 10) : kI l Hs D kcl (ty3 cI cZ cL) y_Cl_waitAt (mws y_Cl_waitAt b_Cl_waitAt 2 (Option.some Jvm.ClassFile.FieldType.int)) ({ frames := 0, cells := 0, slots := 0, locals := 0 } : Room) [.ref h, .int (nI k)] [(h, .inr (0, [.ref a1, .ref a2, .ref a3, .ref a4, .int (nI n)])), (a3, .inl (cI, 10, .inl (wA f)))] (fun r w => r = nI (f k) ∧ w = [(h, .inr (0, [.ref a1, .ref a2, .ref a3, .ref a4, .int (nI n)])), (a3, .inl (cI, 10, .inl (wA f)))]) := by
  intro sz
  refine k_of (cc := b_Cl_waitAt) (maxL := 2) (ret := (Option.some Jvm.ClassFile.FieldType.int)) (by decide) rfl (Nat.le_of_ble_eq_true rfl) ?_
  intro p e s m args below meth c ls H locs A Q hQ hx hb hml hr hts hown hlk hnm hsz hAe hP hK hD hS hA hE hAH hl
  have ht : ∀ w ∈ mw, w.before args s = true := fun w h => hts w (List.mem_cons_of_mem _ h)
  have hl : lv_has ls 2 [(0, .ref h), (1, .int (nI k))] := hl
  refine lv_aload_n hx hb d_Cl_waitAt_0 rfl (lv_at hl 0 rfl) ?_
  refine va_get (D := D) (ci := 0) (v := .ref a3) (C := R_Cl) (T := T_Cl) (N := 5) hx hb ht u_Cl hown hK hP 0 rfl rfl 2 (by decide) (ht _ wd_54) (fun _ h9 => h9) rfl d_Cl_waitAt_1 ?_
  refine lv_iload_n hx hb d_Cl_waitAt_4 rfl (lv_at hl 1 rfl) ?_
  refine wi_ald hx hb hK hP 1 0 rfl rfl (by omega) (by omega) d_Cl_waitAt_5 ?_
  exact k_reti hQ hx hb hr hlk hAe hK hP hD hS (Nat.le_of_ble_eq_true rfl) (Nat.le_of_ble_eq_true rfl) (Nat.le_of_ble_eq_true rfl) ⟨rfl, rfl⟩ d_Cl_waitAt_6
set_option maxHeartbeats 4000000 in
set_option maxRecDepth 100000 in
theorem c_Cl_worstAt (l : Launch) (Hs : Heap) (D : va_G) (cI cZ cL : ClassId) (h : Nat) (a1 : Nat) (a2 : Nat) (a3 : Nat) (a4 : Nat) (n : Nat) (f : Nat → Nat) (k : Nat) (hk : k < 10) : kI l Hs D kcl (ty3 cI cZ cL) y_Cl_worstAt (mws y_Cl_worstAt b_Cl_worstAt 2 (Option.some Jvm.ClassFile.FieldType.int)) ({ frames := 0, cells := 0, slots := 0, locals := 0 } : Room) [.ref h, .int (nI k)] [(h, .inr (0, [.ref a1, .ref a2, .ref a3, .ref a4, .int (nI n)])), (a4, .inl (cI, 10, .inl (wA f)))] (fun r w => r = nI (f k) ∧ w = [(h, .inr (0, [.ref a1, .ref a2, .ref a3, .ref a4, .int (nI n)])), (a4, .inl (cI, 10, .inl (wA f)))]) := by
  intro sz
  refine k_of (cc := b_Cl_worstAt) (maxL := 2) (ret := (Option.some Jvm.ClassFile.FieldType.int)) (by decide) rfl (Nat.le_of_ble_eq_true rfl) ?_
  intro p e s m args below meth c ls H locs A Q hQ hx hb hml hr hts hown hlk hnm hsz hAe hP hK hD hS hA hE hAH hl
  have ht : ∀ w ∈ mw, w.before args s = true := fun w h => hts w (List.mem_cons_of_mem _ h)
  have hl : lv_has ls 2 [(0, .ref h), (1, .int (nI k))] := hl
  refine lv_aload_n hx hb d_Cl_worstAt_0 rfl (lv_at hl 0 rfl) ?_
  refine va_get (D := D) (ci := 0) (v := .ref a4) (C := R_Cl) (T := T_Cl) (N := 5) hx hb ht u_Cl hown hK hP 0 rfl rfl 3 (by decide) (ht _ wd_55) (fun _ h9 => h9) rfl d_Cl_worstAt_1 ?_
  refine lv_iload_n hx hb d_Cl_worstAt_4 rfl (lv_at hl 1 rfl) ?_
  refine wi_ald hx hb hK hP 1 0 rfl rfl (by omega) (by omega) d_Cl_worstAt_5 ?_
  exact k_reti hQ hx hb hr hlk hAe hK hP hD hS (Nat.le_of_ble_eq_true rfl) (Nat.le_of_ble_eq_true rfl) (Nat.le_of_ble_eq_true rfl) ⟨rfl, rfl⟩ d_Cl_worstAt_6
set_option maxHeartbeats 4000000 in
set_option maxRecDepth 100000 in
theorem c_Cl_copyAt (l : Launch) (Hs : Heap) (D : va_G) (cI cZ cL : ClassId) (h : Nat) (a1 : Nat) (a2 : Nat) (a3 : Nat) (a4 : Nat) (o : Nat) (b1 : Nat) (b2 : Nat) (b3 : Nat) (b4 : Nat) (n : Nat) (q : Nat) (f1 : Nat → Nat) (f2 : Nat → Nat) (f3 : Nat → Nat) (f4 : Nat → Nat) (g1 : Nat → Nat) (g2 : Nat → Nat) (g3 : Nat → Nat) (g4 : Nat → Nat) (j : Nat) (k : Nat) (hj : j < 10) (hk : k < 10) : kV l Hs D kcl (ty3 cI cZ cL) y_Cl_copyAt (mws y_Cl_copyAt b_Cl_copyAt 4 (Option.none : Option Jvm.ClassFile.FieldType)) ({ frames := 0, cells := 0, slots := 0, locals := 0 } : Room) [.ref h, .int (nI j), .ref o, .int (nI k)] [(h, .inr (0, [.ref a1, .ref a2, .ref a3, .ref a4, .int (nI n)])), (a1, .inl (cI, 10, .inl (wA f1))), (a2, .inl (cI, 10, .inl (wA f2))), (a3, .inl (cI, 10, .inl (wA f3))), (a4, .inl (cI, 10, .inl (wA f4))), (o, .inr (0, [.ref b1, .ref b2, .ref b3, .ref b4, .int (nI q)])), (b1, .inl (cI, 10, .inl (wA g1))), (b2, .inl (cI, 10, .inl (wA g2))), (b3, .inl (cI, 10, .inl (wA g3))), (b4, .inl (cI, 10, .inl (wA g4)))] (fun w => w = [(h, .inr (0, [.ref a1, .ref a2, .ref a3, .ref a4, .int (nI n)])), (a1, .inl (cI, 10, .inl (wA (va_up f1 j (g1 k))))), (a2, .inl (cI, 10, .inl (wA (va_up f2 j (g2 k))))), (a3, .inl (cI, 10, .inl (wA (va_up f3 j (g3 k))))), (a4, .inl (cI, 10, .inl (wA (va_up f4 j (g4 k))))), (o, .inr (0, [.ref b1, .ref b2, .ref b3, .ref b4, .int (nI q)])), (b1, .inl (cI, 10, .inl (wA g1))), (b2, .inl (cI, 10, .inl (wA g2))), (b3, .inl (cI, 10, .inl (wA g3))), (b4, .inl (cI, 10, .inl (wA g4)))]) := by
  intro sz
  refine k_of (cc := b_Cl_copyAt) (maxL := 4) (ret := (Option.none : Option Jvm.ClassFile.FieldType)) (by decide) rfl (Nat.le_of_ble_eq_true rfl) ?_
  intro p e s m args below meth c ls H locs A Q hQ hx hb hml hr hts hown hlk hnm hsz hAe hP hK hD hS hA hE hAH hl
  have ht : ∀ w ∈ mw, w.before args s = true := fun w h => hts w (List.mem_cons_of_mem _ h)
  have hl : lv_has ls 4 [(0, .ref h), (1, .int (nI j)), (2, .ref o), (3, .int (nI k))] := hl
  refine lv_aload_n hx hb d_Cl_copyAt_0 rfl (lv_at hl 0 rfl) ?_
  refine va_get (D := D) (ci := 0) (v := .ref a1) (C := R_Cl) (T := T_Cl) (N := 5) hx hb ht u_Cl hown hK hP 0 rfl rfl 0 (by decide) (ht _ wd_52) (fun _ h9 => h9) rfl d_Cl_copyAt_1 ?_
  refine lv_iload_n hx hb d_Cl_copyAt_4 rfl (lv_at hl 1 rfl) ?_
  refine lv_aload_n hx hb d_Cl_copyAt_5 rfl (lv_at hl 2 rfl) ?_
  refine va_get (D := D) (ci := 0) (v := .ref b1) (C := R_Cl) (T := T_Cl) (N := 5) hx hb ht u_Cl hown hK hP 5 rfl rfl 0 (by decide) (ht _ wd_52) (fun _ h9 => h9) rfl d_Cl_copyAt_6 ?_
  refine lv_iload_n hx hb d_Cl_copyAt_9 rfl (lv_at hl 3 rfl) ?_
  refine wi_ald hx hb hK hP 6 0 rfl rfl (by omega) (by omega) d_Cl_copyAt_10 ?_
  refine wi_ast hx hb hK hP hD hS 1 0 rfl rfl (by omega) (by omega) d_Cl_copyAt_11 (fun H locs hP hD hS => ?_)
  have hP : va_P D kcl [(h, .inr (0, [.ref a1, .ref a2, .ref a3, .ref a4, .int (nI n)])), (a1, .inl (cI, 10, .inl (wA (va_up f1 j (g1 k))))), (a2, .inl (cI, 10, .inl (wA f2))), (a3, .inl (cI, 10, .inl (wA f3))), (a4, .inl (cI, 10, .inl (wA f4))), (o, .inr (0, [.ref b1, .ref b2, .ref b3, .ref b4, .int (nI q)])), (b1, .inl (cI, 10, .inl (wA g1))), (b2, .inl (cI, 10, .inl (wA g2))), (b3, .inl (cI, 10, .inl (wA g3))), (b4, .inl (cI, 10, .inl (wA g4)))] H := hP
  have hD : va_D A [(h, .inr (0, [.ref a1, .ref a2, .ref a3, .ref a4, .int (nI n)])), (a1, .inl (cI, 10, .inl (wA (va_up f1 j (g1 k))))), (a2, .inl (cI, 10, .inl (wA f2))), (a3, .inl (cI, 10, .inl (wA f3))), (a4, .inl (cI, 10, .inl (wA f4))), (o, .inr (0, [.ref b1, .ref b2, .ref b3, .ref b4, .int (nI q)])), (b1, .inl (cI, 10, .inl (wA g1))), (b2, .inl (cI, 10, .inl (wA g2))), (b3, .inl (cI, 10, .inl (wA g3))), (b4, .inl (cI, 10, .inl (wA g4)))] := hD
  refine lv_aload_n hx hb d_Cl_copyAt_12 rfl (lv_at hl 0 rfl) ?_
  refine va_get (D := D) (ci := 0) (v := .ref a2) (C := R_Cl) (T := T_Cl) (N := 5) hx hb ht u_Cl hown hK hP 0 rfl rfl 1 (by decide) (ht _ wd_53) (fun _ h9 => h9) rfl d_Cl_copyAt_13 ?_
  refine lv_iload_n hx hb d_Cl_copyAt_16 rfl (lv_at hl 1 rfl) ?_
  refine lv_aload_n hx hb d_Cl_copyAt_17 rfl (lv_at hl 2 rfl) ?_
  refine va_get (D := D) (ci := 0) (v := .ref b2) (C := R_Cl) (T := T_Cl) (N := 5) hx hb ht u_Cl hown hK hP 5 rfl rfl 1 (by decide) (ht _ wd_53) (fun _ h9 => h9) rfl d_Cl_copyAt_18 ?_
  refine lv_iload_n hx hb d_Cl_copyAt_21 rfl (lv_at hl 3 rfl) ?_
  refine wi_ald hx hb hK hP 7 0 rfl rfl (by omega) (by omega) d_Cl_copyAt_22 ?_
  refine wi_ast hx hb hK hP hD hS 2 0 rfl rfl (by omega) (by omega) d_Cl_copyAt_23 (fun H locs hP hD hS => ?_)
  have hP : va_P D kcl [(h, .inr (0, [.ref a1, .ref a2, .ref a3, .ref a4, .int (nI n)])), (a1, .inl (cI, 10, .inl (wA (va_up f1 j (g1 k))))), (a2, .inl (cI, 10, .inl (wA (va_up f2 j (g2 k))))), (a3, .inl (cI, 10, .inl (wA f3))), (a4, .inl (cI, 10, .inl (wA f4))), (o, .inr (0, [.ref b1, .ref b2, .ref b3, .ref b4, .int (nI q)])), (b1, .inl (cI, 10, .inl (wA g1))), (b2, .inl (cI, 10, .inl (wA g2))), (b3, .inl (cI, 10, .inl (wA g3))), (b4, .inl (cI, 10, .inl (wA g4)))] H := hP
  have hD : va_D A [(h, .inr (0, [.ref a1, .ref a2, .ref a3, .ref a4, .int (nI n)])), (a1, .inl (cI, 10, .inl (wA (va_up f1 j (g1 k))))), (a2, .inl (cI, 10, .inl (wA (va_up f2 j (g2 k))))), (a3, .inl (cI, 10, .inl (wA f3))), (a4, .inl (cI, 10, .inl (wA f4))), (o, .inr (0, [.ref b1, .ref b2, .ref b3, .ref b4, .int (nI q)])), (b1, .inl (cI, 10, .inl (wA g1))), (b2, .inl (cI, 10, .inl (wA g2))), (b3, .inl (cI, 10, .inl (wA g3))), (b4, .inl (cI, 10, .inl (wA g4)))] := hD
  refine lv_aload_n hx hb d_Cl_copyAt_24 rfl (lv_at hl 0 rfl) ?_
  refine va_get (D := D) (ci := 0) (v := .ref a3) (C := R_Cl) (T := T_Cl) (N := 5) hx hb ht u_Cl hown hK hP 0 rfl rfl 2 (by decide) (ht _ wd_54) (fun _ h9 => h9) rfl d_Cl_copyAt_25 ?_
  refine lv_iload_n hx hb d_Cl_copyAt_28 rfl (lv_at hl 1 rfl) ?_
  refine lv_aload_n hx hb d_Cl_copyAt_29 rfl (lv_at hl 2 rfl) ?_
  refine va_get (D := D) (ci := 0) (v := .ref b3) (C := R_Cl) (T := T_Cl) (N := 5) hx hb ht u_Cl hown hK hP 5 rfl rfl 2 (by decide) (ht _ wd_54) (fun _ h9 => h9) rfl d_Cl_copyAt_30 ?_
  refine lv_iload_n hx hb d_Cl_copyAt_33 rfl (lv_at hl 3 rfl) ?_
  refine wi_ald hx hb hK hP 8 0 rfl rfl (by omega) (by omega) d_Cl_copyAt_34 ?_
  refine wi_ast hx hb hK hP hD hS 3 0 rfl rfl (by omega) (by omega) d_Cl_copyAt_35 (fun H locs hP hD hS => ?_)
  have hP : va_P D kcl [(h, .inr (0, [.ref a1, .ref a2, .ref a3, .ref a4, .int (nI n)])), (a1, .inl (cI, 10, .inl (wA (va_up f1 j (g1 k))))), (a2, .inl (cI, 10, .inl (wA (va_up f2 j (g2 k))))), (a3, .inl (cI, 10, .inl (wA (va_up f3 j (g3 k))))), (a4, .inl (cI, 10, .inl (wA f4))), (o, .inr (0, [.ref b1, .ref b2, .ref b3, .ref b4, .int (nI q)])), (b1, .inl (cI, 10, .inl (wA g1))), (b2, .inl (cI, 10, .inl (wA g2))), (b3, .inl (cI, 10, .inl (wA g3))), (b4, .inl (cI, 10, .inl (wA g4)))] H := hP
  have hD : va_D A [(h, .inr (0, [.ref a1, .ref a2, .ref a3, .ref a4, .int (nI n)])), (a1, .inl (cI, 10, .inl (wA (va_up f1 j (g1 k))))), (a2, .inl (cI, 10, .inl (wA (va_up f2 j (g2 k))))), (a3, .inl (cI, 10, .inl (wA (va_up f3 j (g3 k))))), (a4, .inl (cI, 10, .inl (wA f4))), (o, .inr (0, [.ref b1, .ref b2, .ref b3, .ref b4, .int (nI q)])), (b1, .inl (cI, 10, .inl (wA g1))), (b2, .inl (cI, 10, .inl (wA g2))), (b3, .inl (cI, 10, .inl (wA g3))), (b4, .inl (cI, 10, .inl (wA g4)))] := hD
  refine lv_aload_n hx hb d_Cl_copyAt_36 rfl (lv_at hl 0 rfl) ?_
  refine va_get (D := D) (ci := 0) (v := .ref a4) (C := R_Cl) (T := T_Cl) (N := 5) hx hb ht u_Cl hown hK hP 0 rfl rfl 3 (by decide) (ht _ wd_55) (fun _ h9 => h9) rfl d_Cl_copyAt_37 ?_
  refine lv_iload_n hx hb d_Cl_copyAt_40 rfl (lv_at hl 1 rfl) ?_
  refine lv_aload_n hx hb d_Cl_copyAt_41 rfl (lv_at hl 2 rfl) ?_
  refine va_get (D := D) (ci := 0) (v := .ref b4) (C := R_Cl) (T := T_Cl) (N := 5) hx hb ht u_Cl hown hK hP 5 rfl rfl 3 (by decide) (ht _ wd_55) (fun _ h9 => h9) rfl d_Cl_copyAt_42 ?_
  refine lv_iload_n hx hb d_Cl_copyAt_45 rfl (lv_at hl 3 rfl) ?_
  refine wi_ald hx hb hK hP 9 0 rfl rfl (by omega) (by omega) d_Cl_copyAt_46 ?_
  refine wi_ast hx hb hK hP hD hS 4 0 rfl rfl (by omega) (by omega) d_Cl_copyAt_47 (fun H locs hP hD hS => ?_)
  have hP : va_P D kcl [(h, .inr (0, [.ref a1, .ref a2, .ref a3, .ref a4, .int (nI n)])), (a1, .inl (cI, 10, .inl (wA (va_up f1 j (g1 k))))), (a2, .inl (cI, 10, .inl (wA (va_up f2 j (g2 k))))), (a3, .inl (cI, 10, .inl (wA (va_up f3 j (g3 k))))), (a4, .inl (cI, 10, .inl (wA (va_up f4 j (g4 k))))), (o, .inr (0, [.ref b1, .ref b2, .ref b3, .ref b4, .int (nI q)])), (b1, .inl (cI, 10, .inl (wA g1))), (b2, .inl (cI, 10, .inl (wA g2))), (b3, .inl (cI, 10, .inl (wA g3))), (b4, .inl (cI, 10, .inl (wA g4)))] H := hP
  have hD : va_D A [(h, .inr (0, [.ref a1, .ref a2, .ref a3, .ref a4, .int (nI n)])), (a1, .inl (cI, 10, .inl (wA (va_up f1 j (g1 k))))), (a2, .inl (cI, 10, .inl (wA (va_up f2 j (g2 k))))), (a3, .inl (cI, 10, .inl (wA (va_up f3 j (g3 k))))), (a4, .inl (cI, 10, .inl (wA (va_up f4 j (g4 k))))), (o, .inr (0, [.ref b1, .ref b2, .ref b3, .ref b4, .int (nI q)])), (b1, .inl (cI, 10, .inl (wA g1))), (b2, .inl (cI, 10, .inl (wA g2))), (b3, .inl (cI, 10, .inl (wA g3))), (b4, .inl (cI, 10, .inl (wA g4)))] := hD
  exact k_retv hQ hx hb hr hlk hAe hK hP hD hS (Nat.le_of_ble_eq_true rfl) (Nat.le_of_ble_eq_true rfl) (Nat.le_of_ble_eq_true rfl) rfl d_Cl_copyAt_48
set_option maxHeartbeats 4000000 in
set_option maxRecDepth 100000 in
theorem c_Cl_copyAt2 (l : Launch) (Hs : Heap) (D : va_G) (cI cZ cL : ClassId) (h : Nat) (a1 : Nat) (a2 : Nat) (a3 : Nat) (a4 : Nat) (n : Nat) (f1 : Nat → Nat) (f2 : Nat → Nat) (f3 : Nat → Nat) (f4 : Nat → Nat) (j : Nat) (k : Nat) (hj : j < 10) (hk : k < 10) : kV l Hs D kcl (ty3 cI cZ cL) y_Cl_copyAt (mws y_Cl_copyAt b_Cl_copyAt 4 (Option.none : Option Jvm.ClassFile.FieldType)) ({ frames := 0, cells := 0, slots := 0, locals := 0 } : Room) [.ref h, .int (nI j), .ref h, .int (nI k)] [(h, .inr (0, [.ref a1, .ref a2, .ref a3, .ref a4, .int (nI n)])), (a1, .inl (cI, 10, .inl (wA f1))), (a2, .inl (cI, 10, .inl (wA f2))), (a3, .inl (cI, 10, .inl (wA f3))), (a4, .inl (cI, 10, .inl (wA f4)))] (fun w => w = [(h, .inr (0, [.ref a1, .ref a2, .ref a3, .ref a4, .int (nI n)])), (a1, .inl (cI, 10, .inl (wA (va_up f1 j (f1 k))))), (a2, .inl (cI, 10, .inl (wA (va_up f2 j (f2 k))))), (a3, .inl (cI, 10, .inl (wA (va_up f3 j (f3 k))))), (a4, .inl (cI, 10, .inl (wA (va_up f4 j (f4 k)))))]) := by
  intro sz
  refine k_of (cc := b_Cl_copyAt) (maxL := 4) (ret := (Option.none : Option Jvm.ClassFile.FieldType)) (by decide) rfl (Nat.le_of_ble_eq_true rfl) ?_
  intro p e s m args below meth c ls H locs A Q hQ hx hb hml hr hts hown hlk hnm hsz hAe hP hK hD hS hA hE hAH hl
  have ht : ∀ w ∈ mw, w.before args s = true := fun w h => hts w (List.mem_cons_of_mem _ h)
  have hl : lv_has ls 4 [(0, .ref h), (1, .int (nI j)), (2, .ref h), (3, .int (nI k))] := hl
  refine lv_aload_n hx hb d_Cl_copyAt_0 rfl (lv_at hl 0 rfl) ?_
  refine va_get (D := D) (ci := 0) (v := .ref a1) (C := R_Cl) (T := T_Cl) (N := 5) hx hb ht u_Cl hown hK hP 0 rfl rfl 0 (by decide) (ht _ wd_52) (fun _ h9 => h9) rfl d_Cl_copyAt_1 ?_
  refine lv_iload_n hx hb d_Cl_copyAt_4 rfl (lv_at hl 1 rfl) ?_
  refine lv_aload_n hx hb d_Cl_copyAt_5 rfl (lv_at hl 2 rfl) ?_
  refine va_get (D := D) (ci := 0) (v := .ref a1) (C := R_Cl) (T := T_Cl) (N := 5) hx hb ht u_Cl hown hK hP 0 rfl rfl 0 (by decide) (ht _ wd_52) (fun _ h9 => h9) rfl d_Cl_copyAt_6 ?_
  refine lv_iload_n hx hb d_Cl_copyAt_9 rfl (lv_at hl 3 rfl) ?_
  refine wi_ald hx hb hK hP 1 0 rfl rfl (by omega) (by omega) d_Cl_copyAt_10 ?_
  refine wi_ast hx hb hK hP hD hS 1 0 rfl rfl (by omega) (by omega) d_Cl_copyAt_11 (fun H locs hP hD hS => ?_)
  have hP : va_P D kcl [(h, .inr (0, [.ref a1, .ref a2, .ref a3, .ref a4, .int (nI n)])), (a1, .inl (cI, 10, .inl (wA (va_up f1 j (f1 k))))), (a2, .inl (cI, 10, .inl (wA f2))), (a3, .inl (cI, 10, .inl (wA f3))), (a4, .inl (cI, 10, .inl (wA f4)))] H := hP
  have hD : va_D A [(h, .inr (0, [.ref a1, .ref a2, .ref a3, .ref a4, .int (nI n)])), (a1, .inl (cI, 10, .inl (wA (va_up f1 j (f1 k))))), (a2, .inl (cI, 10, .inl (wA f2))), (a3, .inl (cI, 10, .inl (wA f3))), (a4, .inl (cI, 10, .inl (wA f4)))] := hD
  refine lv_aload_n hx hb d_Cl_copyAt_12 rfl (lv_at hl 0 rfl) ?_
  refine va_get (D := D) (ci := 0) (v := .ref a2) (C := R_Cl) (T := T_Cl) (N := 5) hx hb ht u_Cl hown hK hP 0 rfl rfl 1 (by decide) (ht _ wd_53) (fun _ h9 => h9) rfl d_Cl_copyAt_13 ?_
  refine lv_iload_n hx hb d_Cl_copyAt_16 rfl (lv_at hl 1 rfl) ?_
  refine lv_aload_n hx hb d_Cl_copyAt_17 rfl (lv_at hl 2 rfl) ?_
  refine va_get (D := D) (ci := 0) (v := .ref a2) (C := R_Cl) (T := T_Cl) (N := 5) hx hb ht u_Cl hown hK hP 0 rfl rfl 1 (by decide) (ht _ wd_53) (fun _ h9 => h9) rfl d_Cl_copyAt_18 ?_
  refine lv_iload_n hx hb d_Cl_copyAt_21 rfl (lv_at hl 3 rfl) ?_
  refine wi_ald hx hb hK hP 2 0 rfl rfl (by omega) (by omega) d_Cl_copyAt_22 ?_
  refine wi_ast hx hb hK hP hD hS 2 0 rfl rfl (by omega) (by omega) d_Cl_copyAt_23 (fun H locs hP hD hS => ?_)
  have hP : va_P D kcl [(h, .inr (0, [.ref a1, .ref a2, .ref a3, .ref a4, .int (nI n)])), (a1, .inl (cI, 10, .inl (wA (va_up f1 j (f1 k))))), (a2, .inl (cI, 10, .inl (wA (va_up f2 j (f2 k))))), (a3, .inl (cI, 10, .inl (wA f3))), (a4, .inl (cI, 10, .inl (wA f4)))] H := hP
  have hD : va_D A [(h, .inr (0, [.ref a1, .ref a2, .ref a3, .ref a4, .int (nI n)])), (a1, .inl (cI, 10, .inl (wA (va_up f1 j (f1 k))))), (a2, .inl (cI, 10, .inl (wA (va_up f2 j (f2 k))))), (a3, .inl (cI, 10, .inl (wA f3))), (a4, .inl (cI, 10, .inl (wA f4)))] := hD
  refine lv_aload_n hx hb d_Cl_copyAt_24 rfl (lv_at hl 0 rfl) ?_
  refine va_get (D := D) (ci := 0) (v := .ref a3) (C := R_Cl) (T := T_Cl) (N := 5) hx hb ht u_Cl hown hK hP 0 rfl rfl 2 (by decide) (ht _ wd_54) (fun _ h9 => h9) rfl d_Cl_copyAt_25 ?_
  refine lv_iload_n hx hb d_Cl_copyAt_28 rfl (lv_at hl 1 rfl) ?_
  refine lv_aload_n hx hb d_Cl_copyAt_29 rfl (lv_at hl 2 rfl) ?_
  refine va_get (D := D) (ci := 0) (v := .ref a3) (C := R_Cl) (T := T_Cl) (N := 5) hx hb ht u_Cl hown hK hP 0 rfl rfl 2 (by decide) (ht _ wd_54) (fun _ h9 => h9) rfl d_Cl_copyAt_30 ?_
  refine lv_iload_n hx hb d_Cl_copyAt_33 rfl (lv_at hl 3 rfl) ?_
  refine wi_ald hx hb hK hP 3 0 rfl rfl (by omega) (by omega) d_Cl_copyAt_34 ?_
  refine wi_ast hx hb hK hP hD hS 3 0 rfl rfl (by omega) (by omega) d_Cl_copyAt_35 (fun H locs hP hD hS => ?_)
  have hP : va_P D kcl [(h, .inr (0, [.ref a1, .ref a2, .ref a3, .ref a4, .int (nI n)])), (a1, .inl (cI, 10, .inl (wA (va_up f1 j (f1 k))))), (a2, .inl (cI, 10, .inl (wA (va_up f2 j (f2 k))))), (a3, .inl (cI, 10, .inl (wA (va_up f3 j (f3 k))))), (a4, .inl (cI, 10, .inl (wA f4)))] H := hP
  have hD : va_D A [(h, .inr (0, [.ref a1, .ref a2, .ref a3, .ref a4, .int (nI n)])), (a1, .inl (cI, 10, .inl (wA (va_up f1 j (f1 k))))), (a2, .inl (cI, 10, .inl (wA (va_up f2 j (f2 k))))), (a3, .inl (cI, 10, .inl (wA (va_up f3 j (f3 k))))), (a4, .inl (cI, 10, .inl (wA f4)))] := hD
  refine lv_aload_n hx hb d_Cl_copyAt_36 rfl (lv_at hl 0 rfl) ?_
  refine va_get (D := D) (ci := 0) (v := .ref a4) (C := R_Cl) (T := T_Cl) (N := 5) hx hb ht u_Cl hown hK hP 0 rfl rfl 3 (by decide) (ht _ wd_55) (fun _ h9 => h9) rfl d_Cl_copyAt_37 ?_
  refine lv_iload_n hx hb d_Cl_copyAt_40 rfl (lv_at hl 1 rfl) ?_
  refine lv_aload_n hx hb d_Cl_copyAt_41 rfl (lv_at hl 2 rfl) ?_
  refine va_get (D := D) (ci := 0) (v := .ref a4) (C := R_Cl) (T := T_Cl) (N := 5) hx hb ht u_Cl hown hK hP 0 rfl rfl 3 (by decide) (ht _ wd_55) (fun _ h9 => h9) rfl d_Cl_copyAt_42 ?_
  refine lv_iload_n hx hb d_Cl_copyAt_45 rfl (lv_at hl 3 rfl) ?_
  refine wi_ald hx hb hK hP 4 0 rfl rfl (by omega) (by omega) d_Cl_copyAt_46 ?_
  refine wi_ast hx hb hK hP hD hS 4 0 rfl rfl (by omega) (by omega) d_Cl_copyAt_47 (fun H locs hP hD hS => ?_)
  have hP : va_P D kcl [(h, .inr (0, [.ref a1, .ref a2, .ref a3, .ref a4, .int (nI n)])), (a1, .inl (cI, 10, .inl (wA (va_up f1 j (f1 k))))), (a2, .inl (cI, 10, .inl (wA (va_up f2 j (f2 k))))), (a3, .inl (cI, 10, .inl (wA (va_up f3 j (f3 k))))), (a4, .inl (cI, 10, .inl (wA (va_up f4 j (f4 k)))))] H := hP
  have hD : va_D A [(h, .inr (0, [.ref a1, .ref a2, .ref a3, .ref a4, .int (nI n)])), (a1, .inl (cI, 10, .inl (wA (va_up f1 j (f1 k))))), (a2, .inl (cI, 10, .inl (wA (va_up f2 j (f2 k))))), (a3, .inl (cI, 10, .inl (wA (va_up f3 j (f3 k))))), (a4, .inl (cI, 10, .inl (wA (va_up f4 j (f4 k)))))] := hD
  exact k_retv hQ hx hb hr hlk hAe hK hP hD hS (Nat.le_of_ble_eq_true rfl) (Nat.le_of_ble_eq_true rfl) (Nat.le_of_ble_eq_true rfl) rfl d_Cl_copyAt_48
set_option maxHeartbeats 4000000 in
set_option maxRecDepth 100000 in
theorem c_Cl_init (l : Launch) (Hs : Heap) (D : va_G) (cI cZ cL : ClassId) (h : Nat) : kV l Hs D kcl (ty3 cI cZ cL) y_Cl_init (mws y_Cl_init b_Cl_init 1 (Option.none : Option Jvm.ClassFile.FieldType)) ({ frames := 1, cells := 4, slots := 40, locals := 12 } : Room) [.ref h] [(h, .inr (0, [.null, .null, .null, .null, .int (nI 0)]))] (fun w => ∃ (a1 : Nat), ∃ (a2 : Nat), ∃ (a3 : Nat), ∃ (a4 : Nat), w = [(h, .inr (0, [.ref a1, .ref a2, .ref a3, .ref a4, .int (nI 0)])), (a1, .inl (cI, 10, .inl (wA (fun _ => 0)))), (a2, .inl (cI, 10, .inl (wA (fun _ => 0)))), (a3, .inl (cI, 10, .inl (wA (fun _ => 0)))), (a4, .inl (cI, 10, .inl (wA (fun _ => 0))))]) := by
  intro sz
  refine k_of (cc := b_Cl_init) (maxL := 1) (ret := (Option.none : Option Jvm.ClassFile.FieldType)) (by decide) rfl (Nat.le_of_ble_eq_true rfl) ?_
  intro p e s m args below meth c ls H locs A Q hQ hx hb hml hr hts hown hlk hnm hsz hAe hP hK hD hS hA hE hAH hl
  have ht : ∀ w ∈ mw, w.before args s = true := fun w h => hts w (List.mem_cons_of_mem _ h)
  have hl : lv_has ls 1 [(0, .ref h)] := hl
  refine lv_aload_n hx hb d_Cl_init_0 rfl (lv_at hl 0 rfl) ?_
  refine W.objInit hx hb hown (ht _ wd_51) (ht _ wd_33) (ht _ wd_34) rfl (by rw [hml]; exact hl.1) rfl d_Cl_init_1 (Nat.le_of_ble_eq_true rfl) (Nat.le_of_ble_eq_true rfl) ?_
  refine W.eq (g2 := F0 m 4 ls []) rfl ?_
  refine lv_aload_n hx hb d_Cl_init_4 rfl (lv_at hl 0 rfl) ?_
  refine lv_bipush (v := nI 10) hx hb d_Cl_init_5 (by decide) ?_
  refine wi_newa (atype := .int) (a0 := (10, .inl (wA (fun _ => 0)))) (N' := 10) hx hb (ht _ wd_45) rfl (by decide) hK hP hD hS hA 0 rfl (fun _ => rfl) (by decide) rfl (by decide) (Nat.le_of_ble_eq_true rfl) (Nat.le_of_ble_eq_true rfl) d_Cl_init_7 (fun q7 H hP hD hS => ?_)
  have hP : va_P D kcl [(h, .inr (0, [.null, .null, .null, .null, .int (nI 0)])), (q7, .inl (cI, 10, .inl (wA (fun _ => 0))))] H := hP
  have hD : va_D A [(h, .inr (0, [.null, .null, .null, .null, .int (nI 0)])), (q7, .inl (cI, 10, .inl (wA (fun _ => 0))))] := hD
  refine W.widen (k := 1) (n := 10) (by decide) (by decide) ?_
  refine va_putF (D := D) (ci := 0) (v := .ref q7) (ty := (.array .int)) (C := R_Cl) (T := T_Cl) (N := 5) hx hb ht u_Cl t_Cl t_Cl_ok n_Cl hown hK hP hD hS 0 rfl rfl 0 (by decide) (ht _ wd_52) (fun _ h9 => h9) rfl hnm rfl (by decide +kernel) rfl rfl (Nat.le_of_ble_eq_true rfl) d_Cl_init_9 (fun H locs hP hD hS => ?_)
  have hP : va_P D kcl [(h, .inr (0, [.ref q7, .null, .null, .null, .int (nI 0)])), (q7, .inl (cI, 10, .inl (wA (fun _ => 0))))] H := hP
  have hD : va_D A [(h, .inr (0, [.ref q7, .null, .null, .null, .int (nI 0)])), (q7, .inl (cI, 10, .inl (wA (fun _ => 0))))] := hD
  refine lv_aload_n hx hb d_Cl_init_12 rfl (lv_at hl 0 rfl) ?_
  refine lv_bipush (v := nI 10) hx hb d_Cl_init_13 (by decide) ?_
  refine wi_newa (atype := .int) (a0 := (10, .inl (wA (fun _ => 0)))) (N' := 10) hx hb (ht _ wd_45) rfl (by decide) hK hP hD hS hA 0 rfl (fun _ => rfl) (by decide) rfl (by decide) (Nat.le_of_ble_eq_true rfl) (Nat.le_of_ble_eq_true rfl) d_Cl_init_15 (fun q15 H hP hD hS => ?_)
  have hP : va_P D kcl [(h, .inr (0, [.ref q7, .null, .null, .null, .int (nI 0)])), (q7, .inl (cI, 10, .inl (wA (fun _ => 0)))), (q15, .inl (cI, 10, .inl (wA (fun _ => 0))))] H := hP
  have hD : va_D A [(h, .inr (0, [.ref q7, .null, .null, .null, .int (nI 0)])), (q7, .inl (cI, 10, .inl (wA (fun _ => 0)))), (q15, .inl (cI, 10, .inl (wA (fun _ => 0))))] := hD
  refine W.widen (k := 2) (n := 20) (by decide) (by decide) ?_
  refine va_putF (D := D) (ci := 0) (v := .ref q15) (ty := (.array .int)) (C := R_Cl) (T := T_Cl) (N := 5) hx hb ht u_Cl t_Cl t_Cl_ok n_Cl hown hK hP hD hS 0 rfl rfl 1 (by decide) (ht _ wd_53) (fun _ h9 => h9) rfl hnm rfl (by decide +kernel) rfl rfl (Nat.le_of_ble_eq_true rfl) d_Cl_init_17 (fun H locs hP hD hS => ?_)
  have hP : va_P D kcl [(h, .inr (0, [.ref q7, .ref q15, .null, .null, .int (nI 0)])), (q7, .inl (cI, 10, .inl (wA (fun _ => 0)))), (q15, .inl (cI, 10, .inl (wA (fun _ => 0))))] H := hP
  have hD : va_D A [(h, .inr (0, [.ref q7, .ref q15, .null, .null, .int (nI 0)])), (q7, .inl (cI, 10, .inl (wA (fun _ => 0)))), (q15, .inl (cI, 10, .inl (wA (fun _ => 0))))] := hD
  refine lv_aload_n hx hb d_Cl_init_20 rfl (lv_at hl 0 rfl) ?_
  refine lv_bipush (v := nI 10) hx hb d_Cl_init_21 (by decide) ?_
  refine wi_newa (atype := .int) (a0 := (10, .inl (wA (fun _ => 0)))) (N' := 10) hx hb (ht _ wd_45) rfl (by decide) hK hP hD hS hA 0 rfl (fun _ => rfl) (by decide) rfl (by decide) (Nat.le_of_ble_eq_true rfl) (Nat.le_of_ble_eq_true rfl) d_Cl_init_23 (fun q23 H hP hD hS => ?_)
  have hP : va_P D kcl [(h, .inr (0, [.ref q7, .ref q15, .null, .null, .int (nI 0)])), (q7, .inl (cI, 10, .inl (wA (fun _ => 0)))), (q15, .inl (cI, 10, .inl (wA (fun _ => 0)))), (q23, .inl (cI, 10, .inl (wA (fun _ => 0))))] H := hP
  have hD : va_D A [(h, .inr (0, [.ref q7, .ref q15, .null, .null, .int (nI 0)])), (q7, .inl (cI, 10, .inl (wA (fun _ => 0)))), (q15, .inl (cI, 10, .inl (wA (fun _ => 0)))), (q23, .inl (cI, 10, .inl (wA (fun _ => 0))))] := hD
  refine W.widen (k := 3) (n := 30) (by decide) (by decide) ?_
  refine va_putF (D := D) (ci := 0) (v := .ref q23) (ty := (.array .int)) (C := R_Cl) (T := T_Cl) (N := 5) hx hb ht u_Cl t_Cl t_Cl_ok n_Cl hown hK hP hD hS 0 rfl rfl 2 (by decide) (ht _ wd_54) (fun _ h9 => h9) rfl hnm rfl (by decide +kernel) rfl rfl (Nat.le_of_ble_eq_true rfl) d_Cl_init_25 (fun H locs hP hD hS => ?_)
  have hP : va_P D kcl [(h, .inr (0, [.ref q7, .ref q15, .ref q23, .null, .int (nI 0)])), (q7, .inl (cI, 10, .inl (wA (fun _ => 0)))), (q15, .inl (cI, 10, .inl (wA (fun _ => 0)))), (q23, .inl (cI, 10, .inl (wA (fun _ => 0))))] H := hP
  have hD : va_D A [(h, .inr (0, [.ref q7, .ref q15, .ref q23, .null, .int (nI 0)])), (q7, .inl (cI, 10, .inl (wA (fun _ => 0)))), (q15, .inl (cI, 10, .inl (wA (fun _ => 0)))), (q23, .inl (cI, 10, .inl (wA (fun _ => 0))))] := hD
  refine lv_aload_n hx hb d_Cl_init_28 rfl (lv_at hl 0 rfl) ?_
  refine lv_bipush (v := nI 10) hx hb d_Cl_init_29 (by decide) ?_
  refine wi_newa (atype := .int) (a0 := (10, .inl (wA (fun _ => 0)))) (N' := 10) hx hb (ht _ wd_45) rfl (by decide) hK hP hD hS hA 0 rfl (fun _ => rfl) (by decide) rfl (by decide) (Nat.le_of_ble_eq_true rfl) (Nat.le_of_ble_eq_true rfl) d_Cl_init_31 (fun q31 H hP hD hS => ?_)
  have hP : va_P D kcl [(h, .inr (0, [.ref q7, .ref q15, .ref q23, .null, .int (nI 0)])), (q7, .inl (cI, 10, .inl (wA (fun _ => 0)))), (q15, .inl (cI, 10, .inl (wA (fun _ => 0)))), (q23, .inl (cI, 10, .inl (wA (fun _ => 0)))), (q31, .inl (cI, 10, .inl (wA (fun _ => 0))))] H := hP
  have hD : va_D A [(h, .inr (0, [.ref q7, .ref q15, .ref q23, .null, .int (nI 0)])), (q7, .inl (cI, 10, .inl (wA (fun _ => 0)))), (q15, .inl (cI, 10, .inl (wA (fun _ => 0)))), (q23, .inl (cI, 10, .inl (wA (fun _ => 0)))), (q31, .inl (cI, 10, .inl (wA (fun _ => 0))))] := hD
  refine W.widen (k := 4) (n := 40) (by decide) (by decide) ?_
  refine va_putF (D := D) (ci := 0) (v := .ref q31) (ty := (.array .int)) (C := R_Cl) (T := T_Cl) (N := 5) hx hb ht u_Cl t_Cl t_Cl_ok n_Cl hown hK hP hD hS 0 rfl rfl 3 (by decide) (ht _ wd_55) (fun _ h9 => h9) rfl hnm rfl (by decide +kernel) rfl rfl (Nat.le_of_ble_eq_true rfl) d_Cl_init_33 (fun H locs hP hD hS => ?_)
  have hP : va_P D kcl [(h, .inr (0, [.ref q7, .ref q15, .ref q23, .ref q31, .int (nI 0)])), (q7, .inl (cI, 10, .inl (wA (fun _ => 0)))), (q15, .inl (cI, 10, .inl (wA (fun _ => 0)))), (q23, .inl (cI, 10, .inl (wA (fun _ => 0)))), (q31, .inl (cI, 10, .inl (wA (fun _ => 0))))] H := hP
  have hD : va_D A [(h, .inr (0, [.ref q7, .ref q15, .ref q23, .ref q31, .int (nI 0)])), (q7, .inl (cI, 10, .inl (wA (fun _ => 0)))), (q15, .inl (cI, 10, .inl (wA (fun _ => 0)))), (q23, .inl (cI, 10, .inl (wA (fun _ => 0)))), (q31, .inl (cI, 10, .inl (wA (fun _ => 0))))] := hD
  refine lv_aload_n hx hb d_Cl_init_36 rfl (lv_at hl 0 rfl) ?_
  refine lv_iconst (v := nI 0) hx hb d_Cl_init_37 (by decide) ?_
  refine va_put (D := D) (ci := 0) (v := .int (nI 0)) (ty := .int) (C := R_Cl) (T := T_Cl) (N := 5) hx hb ht u_Cl t_Cl t_Cl_ok n_Cl hown hK hP hD hS 0 rfl rfl 4 (by decide) (ht _ wd_56) (fun _ h9 => h9) rfl (by decide +kernel) rfl rfl (Nat.le_of_ble_eq_true rfl) d_Cl_init_38 (fun H locs hP hD hS => ?_)
  have hP : va_P D kcl [(h, .inr (0, [.ref q7, .ref q15, .ref q23, .ref q31, .int (nI 0)])), (q7, .inl (cI, 10, .inl (wA (fun _ => 0)))), (q15, .inl (cI, 10, .inl (wA (fun _ => 0)))), (q23, .inl (cI, 10, .inl (wA (fun _ => 0)))), (q31, .inl (cI, 10, .inl (wA (fun _ => 0))))] H := hP
  have hD : va_D A [(h, .inr (0, [.ref q7, .ref q15, .ref q23, .ref q31, .int (nI 0)])), (q7, .inl (cI, 10, .inl (wA (fun _ => 0)))), (q15, .inl (cI, 10, .inl (wA (fun _ => 0)))), (q23, .inl (cI, 10, .inl (wA (fun _ => 0)))), (q31, .inl (cI, 10, .inl (wA (fun _ => 0))))] := hD
  exact k_retv hQ hx hb hr hlk hAe hK hP hD hS (Nat.le_of_ble_eq_true rfl) (Nat.le_of_ble_eq_true rfl) (Nat.le_of_ble_eq_true rfl) ⟨q7, q15, q23, q31, rfl⟩ d_Cl_init_41
