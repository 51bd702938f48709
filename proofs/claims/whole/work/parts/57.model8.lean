set_option maxHeartbeats 4000000 in
set_option maxRecDepth 100000 in
theorem c_Md_drop0 (l : Launch) (Hs : Heap) (D : va_G) (cI cZ cL : ClassId) (h : Nat) (a1 : Nat) (a2 : Nat) (a3 : Nat) (a4 : Nat) (c1 : Nat) (b1 : Nat) (b2 : Nat) (c2 : Nat) (r1 : Nat) (r2 : Nat) (z1 : Nat) (n1 : Nat) (t1 : Nat) (th : Nat) (n : Nat) (wi : Nat) (bu : Nat) (L : Nat) (ax : Nat) (va : Nat) (sl : Nat) (me : Nat) (L2 : Nat) (mn : Nat) (cv : Int32) (f1 : Nat → Nat) (x : Int32) (hn : n ≤ 10) (hno : ∀ t, t < n → nI (f1 t) ≠ x) : kI l Hs D kcl (ty3 cI cZ cL) y_Md_drop (mws y_Md_drop b_Md_drop 2 (Option.some Jvm.ClassFile.FieldType.int)) ({ frames := 1, cells := 0, slots := 0, locals := 23 } : Room) [.ref h, .int x] [(h, .inr (5, [.int (nI th), .int (nI n), .ref a1, .ref a2, .ref a3, .ref a4, .int (nI wi), .int (nI bu), .int (nI L), .ref c1, .int (nI ax), .int (nI va), .int (nI sl), .int cv, .int (nI me), .ref b1, .ref b2, .int (nI L2), .ref c2, .int (nI mn), .ref r1, .ref r2, .ref z1, .ref n1, .ref t1])), (a1, .inl (cI, 10, .inl (wA f1)))] (fun r w => r = nI 0 ∧ w = [(h, .inr (5, [.int (nI 1), .int (nI n), .ref a1, .ref a2, .ref a3, .ref a4, .int (nI wi), .int (nI bu), .int (nI L), .ref c1, .int (nI ax), .int (nI va), .int (nI sl), .int cv, .int (nI me), .ref b1, .ref b2, .int (nI L2), .ref c2, .int (nI mn), .ref r1, .ref r2, .ref z1, .ref n1, .ref t1])), (a1, .inl (cI, 10, .inl (wA f1)))]) := by
  intro sz
  refine k_of (cc := b_Md_drop) (maxL := 2) (ret := (Option.some Jvm.ClassFile.FieldType.int)) (by decide) rfl (Nat.le_of_ble_eq_true rfl) ?_
  intro p e s m args below meth c ls H locs A Q hQ hx hb hml hr hts hown hlk hnm hsz hAe hP hK hD hS hA hE hAH hl
  have ht : ∀ w ∈ mw, w.before args s = true := fun w h => hts w (List.mem_cons_of_mem _ h)
  have hl : lv_has ls 2 [(0, .ref h), (1, .int x)] := hl
  refine lv_aload_n hx hb d_Md_drop_0 rfl (lv_at hl 0 rfl) ?_
  refine lv_aload_n hx hb d_Md_drop_1 rfl (lv_at hl 0 rfl) ?_
  refine lv_iload_n hx hb d_Md_drop_2 rfl (lv_at hl 1 rfl) ?_
  refine ck_i (wc := [(h, .inr (5, [.int (nI th), .int (nI n), .ref a1, .ref a2, .ref a3, .ref a4, .int (nI wi), .int (nI bu), .int (nI L), .ref c1, .int (nI ax), .int (nI va), .int (nI sl), .int cv, .int (nI me), .ref b1, .ref b2, .int (nI L2), .ref c2, .int (nI mn), .ref r1, .ref r2, .ref z1, .ref n1, .ref t1])), (a1, .inl (cI, 10, .inl (wA f1)))]) (va_runV (As := [.int x]) (rest := [.ref h]) (C := R_Md) ⟨hx, hb, hml, hown, ht⟩ (c_Md_find0 l Hs D cI cZ cL h a1 a2 a3 a4 c1 b1 b2 c2 r1 r2 z1 n1 t1 th n wi bu L ax va sl me L2 mn cv f1 x hn hno H.size) (gw_V 1 ht wd_986 wd_5 wd_983 wd_985 ws_28 (by decide +kernel) ⟨Nat.le_of_ble_eq_true rfl, Nat.le_of_ble_eq_true rfl⟩) (k_preV hE hAH hK hP hD hS [0, 1] rfl rfl 0 rfl rfl) rfl rfl hl.1 rfl (lv_room (Nat.le_of_ble_eq_true rfl)) d_Md_drop_3 ⟨Nat.le_of_ble_eq_true rfl, Nat.le_of_ble_eq_true rfl⟩) hP hD hS hA [0, 1] rfl rfl (fun r3 w1 H locs hpost hP hD hS => ?_)
  obtain ⟨rfl, rfl⟩ := hpost
  have hP : va_P D kcl [(h, .inr (5, [.int (nI th), .int (nI n), .ref a1, .ref a2, .ref a3, .ref a4, .int (nI wi), .int (nI bu), .int (nI L), .ref c1, .int (nI ax), .int (nI va), .int (nI sl), .int cv, .int (nI me), .ref b1, .ref b2, .int (nI L2), .ref c2, .int (nI mn), .ref r1, .ref r2, .ref z1, .ref n1, .ref t1])), (a1, .inl (cI, 10, .inl (wA f1)))] H := hP
  have hD : va_D A [(h, .inr (5, [.int (nI th), .int (nI n), .ref a1, .ref a2, .ref a3, .ref a4, .int (nI wi), .int (nI bu), .int (nI L), .ref c1, .int (nI ax), .int (nI va), .int (nI sl), .int cv, .int (nI me), .ref b1, .ref b2, .int (nI L2), .ref c2, .int (nI mn), .ref r1, .ref r2, .ref z1, .ref n1, .ref t1])), (a1, .inl (cI, 10, .inl (wA f1)))] := hD
  refine lv_if_ge hx hb d_Md_drop_6 rfl (fun h => absurd h (by decide)) (fun _ => ?_)
  refine lv_iconst (v := nI 1) hx hb d_Md_drop_9 (by decide) ?_
  refine lv_goto hx hb d_Md_drop_10 rfl ?_
  refine lv_aload_n hx hb d_Md_drop_14 rfl (lv_at hl 0 rfl) ?_
  refine va_get (D := D) (ci := 5) (v := .int cv) (C := R_Md) (T := T_Md) (N := 25) hx hb ht u_Md hown hK hP 0 rfl rfl 13 (by decide) (ht _ wd_908) (fun _ h9 => h9) rfl d_Md_drop_15 ?_
  refine lv_if_le hx hb d_Md_drop_18 rfl (fun h18 => ?_) (fun h18 => ?_)
  · refine lv_iconst (v := nI 0) hx hb d_Md_drop_25 (by decide) ?_
    refine lv_iconst (v := nI 0) hx hb d_Md_drop_26 (by decide) ?_
    refine ck_i (wc := [(h, .inr (5, [.int (nI th), .int (nI n), .ref a1, .ref a2, .ref a3, .ref a4, .int (nI wi), .int (nI bu), .int (nI L), .ref c1, .int (nI ax), .int (nI va), .int (nI sl), .int cv, .int (nI me), .ref b1, .ref b2, .int (nI L2), .ref c2, .int (nI mn), .ref r1, .ref r2, .ref z1, .ref n1, .ref t1]))]) (va_runV (As := [.int (nI 1), .int (nI 0), .int (nI 0)]) (rest := []) (C := R_Md) ⟨hx, hb, hml, hown, ht⟩ (c_Md_refuseA l Hs D cI cZ cL h a1 a2 a3 a4 c1 b1 b2 c2 r1 r2 z1 n1 t1 th n wi bu L ax va sl me L2 mn cv 0 0  H.size) (gw_V 3 ht wd_990 wd_5 wd_987 wd_989 ws_29 (by decide +kernel) ⟨Nat.le_of_ble_eq_true rfl, Nat.le_of_ble_eq_true rfl⟩) (k_preV hE hAH hK hP hD hS [0] rfl rfl 0 rfl rfl) rfl rfl hl.1 rfl (lv_room (Nat.le_of_ble_eq_true rfl)) d_Md_drop_27 ⟨Nat.le_of_ble_eq_true rfl, Nat.le_of_ble_eq_true rfl⟩) hP hD hS hA [0] rfl rfl (fun r27 w1 H locs hpost hP hD hS => ?_)
    obtain ⟨rfl, rfl⟩ := hpost
    have hP : va_P D kcl [(h, .inr (5, [.int (nI 1), .int (nI n), .ref a1, .ref a2, .ref a3, .ref a4, .int (nI wi), .int (nI bu), .int (nI L), .ref c1, .int (nI ax), .int (nI va), .int (nI sl), .int cv, .int (nI me), .ref b1, .ref b2, .int (nI L2), .ref c2, .int (nI mn), .ref r1, .ref r2, .ref z1, .ref n1, .ref t1])), (a1, .inl (cI, 10, .inl (wA f1)))] H := hP
    have hD : va_D A [(h, .inr (5, [.int (nI 1), .int (nI n), .ref a1, .ref a2, .ref a3, .ref a4, .int (nI wi), .int (nI bu), .int (nI L), .ref c1, .int (nI ax), .int (nI va), .int (nI sl), .int cv, .int (nI me), .ref b1, .ref b2, .int (nI L2), .ref c2, .int (nI mn), .ref r1, .ref r2, .ref z1, .ref n1, .ref t1])), (a1, .inl (cI, 10, .inl (wA f1)))] := hD
    refine wi_if_eq hx hb d_Md_drop_30 rfl (by decide) (fun h => absurd h (by decide)) (fun _ => ?_)
    refine lv_iconst (v := nI 0) hx hb d_Md_drop_33 (by decide) ?_
    exact k_reti hQ hx hb hr hlk hAe hK hP hD hS (Nat.le_of_ble_eq_true rfl) (Nat.le_of_ble_eq_true rfl) (Nat.le_of_ble_eq_true rfl) ⟨rfl, rfl⟩ d_Md_drop_34
  · refine lv_iconst (v := nI 1) hx hb d_Md_drop_21 (by decide) ?_
    refine lv_goto hx hb d_Md_drop_22 rfl ?_
    refine lv_iconst (v := nI 0) hx hb d_Md_drop_26 (by decide) ?_
    refine ck_i (wc := [(h, .inr (5, [.int (nI th), .int (nI n), .ref a1, .ref a2, .ref a3, .ref a4, .int (nI wi), .int (nI bu), .int (nI L), .ref c1, .int (nI ax), .int (nI va), .int (nI sl), .int cv, .int (nI me), .ref b1, .ref b2, .int (nI L2), .ref c2, .int (nI mn), .ref r1, .ref r2, .ref z1, .ref n1, .ref t1]))]) (va_runV (As := [.int (nI 1), .int (nI 1), .int (nI 0)]) (rest := []) (C := R_Md) ⟨hx, hb, hml, hown, ht⟩ (c_Md_refuseA l Hs D cI cZ cL h a1 a2 a3 a4 c1 b1 b2 c2 r1 r2 z1 n1 t1 th n wi bu L ax va sl me L2 mn cv 1 0  H.size) (gw_V 3 ht wd_990 wd_5 wd_987 wd_989 ws_29 (by decide +kernel) ⟨Nat.le_of_ble_eq_true rfl, Nat.le_of_ble_eq_true rfl⟩) (k_preV hE hAH hK hP hD hS [0] rfl rfl 0 rfl rfl) rfl rfl hl.1 rfl (lv_room (Nat.le_of_ble_eq_true rfl)) d_Md_drop_27 ⟨Nat.le_of_ble_eq_true rfl, Nat.le_of_ble_eq_true rfl⟩) hP hD hS hA [0] rfl rfl (fun r27 w1 H locs hpost hP hD hS => ?_)
    obtain ⟨rfl, rfl⟩ := hpost
    have hP : va_P D kcl [(h, .inr (5, [.int (nI 1), .int (nI n), .ref a1, .ref a2, .ref a3, .ref a4, .int (nI wi), .int (nI bu), .int (nI L), .ref c1, .int (nI ax), .int (nI va), .int (nI sl), .int cv, .int (nI me), .ref b1, .ref b2, .int (nI L2), .ref c2, .int (nI mn), .ref r1, .ref r2, .ref z1, .ref n1, .ref t1])), (a1, .inl (cI, 10, .inl (wA f1)))] H := hP
    have hD : va_D A [(h, .inr (5, [.int (nI 1), .int (nI n), .ref a1, .ref a2, .ref a3, .ref a4, .int (nI wi), .int (nI bu), .int (nI L), .ref c1, .int (nI ax), .int (nI va), .int (nI sl), .int cv, .int (nI me), .ref b1, .ref b2, .int (nI L2), .ref c2, .int (nI mn), .ref r1, .ref r2, .ref z1, .ref n1, .ref t1])), (a1, .inl (cI, 10, .inl (wA f1)))] := hD
    refine wi_if_eq hx hb d_Md_drop_30 rfl (by decide) (fun h => absurd h (by decide)) (fun _ => ?_)
    refine lv_iconst (v := nI 0) hx hb d_Md_drop_33 (by decide) ?_
    exact k_reti hQ hx hb hr hlk hAe hK hP hD hS (Nat.le_of_ble_eq_true rfl) (Nat.le_of_ble_eq_true rfl) (Nat.le_of_ble_eq_true rfl) ⟨rfl, rfl⟩ d_Md_drop_34
set_option maxHeartbeats 4000000 in
set_option maxRecDepth 100000 in
theorem c_Md_drop2 (l : Launch) (Hs : Heap) (D : va_G) (cI cZ cL : ClassId) (h : Nat) (a1 : Nat) (a2 : Nat) (a3 : Nat) (a4 : Nat) (c1 : Nat) (b1 : Nat) (b2 : Nat) (c2 : Nat) (r1 : Nat) (r2 : Nat) (z1 : Nat) (n1 : Nat) (t1 : Nat) (th : Nat) (n : Nat) (wi : Nat) (bu : Nat) (L : Nat) (ax : Nat) (va : Nat) (sl : Nat) (me : Nat) (L2 : Nat) (mn : Nat) (cw : Nat) (f1 : Nat → Nat) (f2 : Nat → Nat) (i : Nat) (v : Nat) (hn : n ≤ 10) (hG : pw_G n f1 f2) (hi : i < n) (hv : f1 i = v) (hcw : 0 < cw) (hcw3 : cw ≤ 3) : kI l Hs D kcl (ty3 cI cZ cL) y_Md_drop (mws y_Md_drop b_Md_drop 2 (Option.some Jvm.ClassFile.FieldType.int)) ({ frames := 1, cells := 0, slots := 0, locals := 23 } : Room) [.ref h, .int (nI v)] [(h, .inr (5, [.int (nI th), .int (nI n), .ref a1, .ref a2, .ref a3, .ref a4, .int (nI wi), .int (nI bu), .int (nI L), .ref c1, .int (nI ax), .int (nI va), .int (nI sl), .int (nI cw), .int (nI me), .ref b1, .ref b2, .int (nI L2), .ref c2, .int (nI mn), .ref r1, .ref r2, .ref z1, .ref n1, .ref t1])), (a1, .inl (cI, 10, .inl (wA f1)))] (fun r w => r = nI 0 ∧ w = [(h, .inr (5, [.int (nI 2), .int (nI n), .ref a1, .ref a2, .ref a3, .ref a4, .int (nI wi), .int (nI bu), .int (nI L), .ref c1, .int (nI ax), .int (nI va), .int (nI sl), .int (nI cw), .int (nI me), .ref b1, .ref b2, .int (nI L2), .ref c2, .int (nI mn), .ref r1, .ref r2, .ref z1, .ref n1, .ref t1])), (a1, .inl (cI, 10, .inl (wA f1)))]) := by
  intro sz
  refine k_of (cc := b_Md_drop) (maxL := 2) (ret := (Option.some Jvm.ClassFile.FieldType.int)) (by decide) rfl (Nat.le_of_ble_eq_true rfl) ?_
  intro p e s m args below meth c ls H locs A Q hQ hx hb hml hr hts hown hlk hnm hsz hAe hP hK hD hS hA hE hAH hl
  have ht : ∀ w ∈ mw, w.before args s = true := fun w h => hts w (List.mem_cons_of_mem _ h)
  have hl : lv_has ls 2 [(0, .ref h), (1, .int (nI v))] := hl
  refine lv_aload_n hx hb d_Md_drop_0 rfl (lv_at hl 0 rfl) ?_
  refine lv_aload_n hx hb d_Md_drop_1 rfl (lv_at hl 0 rfl) ?_
  refine lv_iload_n hx hb d_Md_drop_2 rfl (lv_at hl 1 rfl) ?_
  refine ck_i (wc := [(h, .inr (5, [.int (nI th), .int (nI n), .ref a1, .ref a2, .ref a3, .ref a4, .int (nI wi), .int (nI bu), .int (nI L), .ref c1, .int (nI ax), .int (nI va), .int (nI sl), .int (nI cw), .int (nI me), .ref b1, .ref b2, .int (nI L2), .ref c2, .int (nI mn), .ref r1, .ref r2, .ref z1, .ref n1, .ref t1])), (a1, .inl (cI, 10, .inl (wA f1)))]) (va_runV (As := [.int (nI v)]) (rest := [.ref h]) (C := R_Md) ⟨hx, hb, hml, hown, ht⟩ (c_Md_find1 l Hs D cI cZ cL h a1 a2 a3 a4 c1 b1 b2 c2 r1 r2 z1 n1 t1 th n wi bu L ax va sl me L2 mn (nI cw) f1 i v hn hi hv (fun t ht9 => (pw_G_31 hG t ht9).2) (pw_G_inj hG) H.size) (gw_V 1 ht wd_986 wd_5 wd_983 wd_985 ws_28 (by decide +kernel) ⟨Nat.le_of_ble_eq_true rfl, Nat.le_of_ble_eq_true rfl⟩) (k_preV hE hAH hK hP hD hS [0, 1] rfl rfl 0 rfl rfl) rfl rfl hl.1 rfl (lv_room (Nat.le_of_ble_eq_true rfl)) d_Md_drop_3 ⟨Nat.le_of_ble_eq_true rfl, Nat.le_of_ble_eq_true rfl⟩) hP hD hS hA [0, 1] rfl rfl (fun r3 w1 H locs hpost hP hD hS => ?_)
  obtain ⟨rfl, rfl⟩ := hpost
  have hP : va_P D kcl [(h, .inr (5, [.int (nI th), .int (nI n), .ref a1, .ref a2, .ref a3, .ref a4, .int (nI wi), .int (nI bu), .int (nI L), .ref c1, .int (nI ax), .int (nI va), .int (nI sl), .int (nI cw), .int (nI me), .ref b1, .ref b2, .int (nI L2), .ref c2, .int (nI mn), .ref r1, .ref r2, .ref z1, .ref n1, .ref t1])), (a1, .inl (cI, 10, .inl (wA f1)))] H := hP
  have hD : va_D A [(h, .inr (5, [.int (nI th), .int (nI n), .ref a1, .ref a2, .ref a3, .ref a4, .int (nI wi), .int (nI bu), .int (nI L), .ref c1, .int (nI ax), .int (nI va), .int (nI sl), .int (nI cw), .int (nI me), .ref b1, .ref b2, .int (nI L2), .ref c2, .int (nI mn), .ref r1, .ref r2, .ref z1, .ref n1, .ref t1])), (a1, .inl (cI, 10, .inl (wA f1)))] := hD
  refine wi_if_ge hx hb d_Md_drop_6 rfl (by omega) ?_
  refine lv_iconst (v := nI 0) hx hb d_Md_drop_13 (by decide) ?_
  refine lv_aload_n hx hb d_Md_drop_14 rfl (lv_at hl 0 rfl) ?_
  refine va_get (D := D) (ci := 5) (v := .int (nI cw)) (C := R_Md) (T := T_Md) (N := 25) hx hb ht u_Md hown hK hP 0 rfl rfl 13 (by decide) (ht _ wd_908) (fun _ h9 => h9) rfl d_Md_drop_15 ?_
  refine lv_if_le hx hb d_Md_drop_18 rfl (fun h18 => ?_) (fun h18 => ?_)
  · exact absurd h18 (nI_nle hcw (by omega))
  · refine lv_iconst (v := nI 1) hx hb d_Md_drop_21 (by decide) ?_
    refine lv_goto hx hb d_Md_drop_22 rfl ?_
    refine lv_iconst (v := nI 0) hx hb d_Md_drop_26 (by decide) ?_
    refine ck_i (wc := [(h, .inr (5, [.int (nI th), .int (nI n), .ref a1, .ref a2, .ref a3, .ref a4, .int (nI wi), .int (nI bu), .int (nI L), .ref c1, .int (nI ax), .int (nI va), .int (nI sl), .int (nI cw), .int (nI me), .ref b1, .ref b2, .int (nI L2), .ref c2, .int (nI mn), .ref r1, .ref r2, .ref z1, .ref n1, .ref t1]))]) (va_runV (As := [.int (nI 0), .int (nI 1), .int (nI 0)]) (rest := []) (C := R_Md) ⟨hx, hb, hml, hown, ht⟩ (c_Md_refuseB l Hs D cI cZ cL h a1 a2 a3 a4 c1 b1 b2 c2 r1 r2 z1 n1 t1 th n wi bu L ax va sl me L2 mn (nI cw) 0  H.size) (gw_V 3 ht wd_990 wd_5 wd_987 wd_989 ws_29 (by decide +kernel) ⟨Nat.le_of_ble_eq_true rfl, Nat.le_of_ble_eq_true rfl⟩) (k_preV hE hAH hK hP hD hS [0] rfl rfl 0 rfl rfl) rfl rfl hl.1 rfl (lv_room (Nat.le_of_ble_eq_true rfl)) d_Md_drop_27 ⟨Nat.le_of_ble_eq_true rfl, Nat.le_of_ble_eq_true rfl⟩) hP hD hS hA [0] rfl rfl (fun r27 w1 H locs hpost hP hD hS => ?_)
    obtain ⟨rfl, rfl⟩ := hpost
    have hP : va_P D kcl [(h, .inr (5, [.int (nI 2), .int (nI n), .ref a1, .ref a2, .ref a3, .ref a4, .int (nI wi), .int (nI bu), .int (nI L), .ref c1, .int (nI ax), .int (nI va), .int (nI sl), .int (nI cw), .int (nI me), .ref b1, .ref b2, .int (nI L2), .ref c2, .int (nI mn), .ref r1, .ref r2, .ref z1, .ref n1, .ref t1])), (a1, .inl (cI, 10, .inl (wA f1)))] H := hP
    have hD : va_D A [(h, .inr (5, [.int (nI 2), .int (nI n), .ref a1, .ref a2, .ref a3, .ref a4, .int (nI wi), .int (nI bu), .int (nI L), .ref c1, .int (nI ax), .int (nI va), .int (nI sl), .int (nI cw), .int (nI me), .ref b1, .ref b2, .int (nI L2), .ref c2, .int (nI mn), .ref r1, .ref r2, .ref z1, .ref n1, .ref t1])), (a1, .inl (cI, 10, .inl (wA f1)))] := hD
    refine wi_if_eq hx hb d_Md_drop_30 rfl (by decide) (fun h => absurd h (by decide)) (fun _ => ?_)
    refine lv_iconst (v := nI 0) hx hb d_Md_drop_33 (by decide) ?_
    exact k_reti hQ hx hb hr hlk hAe hK hP hD hS (Nat.le_of_ble_eq_true rfl) (Nat.le_of_ble_eq_true rfl) (Nat.le_of_ble_eq_true rfl) ⟨rfl, rfl⟩ d_Md_drop_34
set_option maxHeartbeats 4000000 in
set_option maxRecDepth 100000 in
theorem c_Md_dropY (l : Launch) (Hs : Heap) (D : va_G) (cI cZ cL : ClassId) (h : Nat) (a1 : Nat) (a2 : Nat) (a3 : Nat) (a4 : Nat) (c1 : Nat) (b1 : Nat) (b2 : Nat) (c2 : Nat) (r1 : Nat) (r2 : Nat) (z1 : Nat) (n1 : Nat) (t1 : Nat) (th : Nat) (n : Nat) (wi : Nat) (bu : Nat) (L : Nat) (ax : Nat) (va : Nat) (sl : Nat) (me : Nat) (L2 : Nat) (mn : Nat) (ro : Nat → Nat) (ru : Nat → Nat) (g1 : Nat → Nat) (g2 : Nat → Nat) (cy : Nat → Nat) (nu : Nat → Nat) (zs : Nat → Nat) (tm : Nat → Nat) (f1 : Nat → Nat) (f2 : Nat → Nat) (i : Nat) (v : Nat) (hn : n ≤ 10) (hG : pw_G n f1 f2) (hi : i < n) (hv : f1 i = v) (hlay : ∀ g1 g2, pw_le1 n f1 f2 g1 g2 i → ¬ pw_no (n - 1) g2) : kI l Hs D kcl (ty3 cI cZ cL) y_Md_drop (mws y_Md_drop b_Md_drop 2 (Option.some Jvm.ClassFile.FieldType.int)) ({ frames := 6, cells := 0, slots := 0, locals := 140 } : Room) [.ref h, .int (nI v)] [(h, .inr (5, [.int (nI th), .int (nI n), .ref a1, .ref a2, .ref a3, .ref a4, .int (nI wi), .int (nI bu), .int (nI L), .ref c1, .int (nI ax), .int (nI va), .int (nI sl), .int ((-1)), .int (nI me), .ref b1, .ref b2, .int (nI L2), .ref c2, .int (nI mn), .ref r1, .ref r2, .ref z1, .ref n1, .ref t1])), (a1, .inl (cI, 10, .inl (wA f1))), (a2, .inl (cI, 10, .inl (wA f2))), (r1, .inl (cI, 10, .inl (wA ro))), (r2, .inl (cI, 10, .inl (wA ru))), (b1, .inl (cI, 10, .inl (wA g1))), (b2, .inl (cI, 10, .inl (wA g2))), (c2, .inl (cI, 1600, .inl (wA cy))), (n1, .inl (cI, 4, .inl (wA nu))), (z1, .inl (cZ, 1500, .inl (wA zs))), (t1, .inl (cI, 1500, .inl (wT tm)))] (fun r w => ∃ (y1 : Nat → Nat), ∃ (y2 : Nat → Nat), ∃ (ro2 : Nat → Nat), ∃ (ru2 : Nat → Nat), ∃ (nu2 : Nat → Nat), ∃ (zs2 : Nat → Nat), ∃ (L3 : Nat), ∃ (m3 : Nat), ∃ (tm2 : Nat → Nat), ∃ (cy2 : Nat → Nat), ∃ (bw : Nat), (pw_le1 n f1 f2 y1 y2 i) ∧ (pw_Bld (n - 1) y1 y2 bw L3 cy2) ∧ r = nI bw ∧ w = [(h, .inr (5, [.int (nI 0), .int (nI n), .ref a1, .ref a2, .ref a3, .ref a4, .int (nI wi), .int (nI bu), .int (nI L), .ref c1, .int (nI ax), .int (nI va), .int (nI sl), .int (nI bw), .int (nI (n - 1)), .ref b1, .ref b2, .int (nI L3), .ref c2, .int (nI m3), .ref r1, .ref r2, .ref z1, .ref n1, .ref t1])), (a1, .inl (cI, 10, .inl (wA f1))), (a2, .inl (cI, 10, .inl (wA f2))), (r1, .inl (cI, 10, .inl (wA ro2))), (r2, .inl (cI, 10, .inl (wA ru2))), (b1, .inl (cI, 10, .inl (wA y1))), (b2, .inl (cI, 10, .inl (wA y2))), (c2, .inl (cI, 1600, .inl (wA cy2))), (n1, .inl (cI, 4, .inl (wA nu2))), (z1, .inl (cZ, 1500, .inl (wA zs2))), (t1, .inl (cI, 1500, .inl (wT tm2)))]) := by
  intro sz
  refine k_of (cc := b_Md_drop) (maxL := 2) (ret := (Option.some Jvm.ClassFile.FieldType.int)) (by decide) rfl (Nat.le_of_ble_eq_true rfl) ?_
  intro p e s m args below meth c ls H locs A Q hQ hx hb hml hr hts hown hlk hnm hsz hAe hP hK hD hS hA hE hAH hl
  have ht : ∀ w ∈ mw, w.before args s = true := fun w h => hts w (List.mem_cons_of_mem _ h)
  have hl : lv_has ls 2 [(0, .ref h), (1, .int (nI v))] := hl
  refine lv_aload_n hx hb d_Md_drop_0 rfl (lv_at hl 0 rfl) ?_
  refine lv_aload_n hx hb d_Md_drop_1 rfl (lv_at hl 0 rfl) ?_
  refine lv_iload_n hx hb d_Md_drop_2 rfl (lv_at hl 1 rfl) ?_
  refine ck_i (wc := [(h, .inr (5, [.int (nI th), .int (nI n), .ref a1, .ref a2, .ref a3, .ref a4, .int (nI wi), .int (nI bu), .int (nI L), .ref c1, .int (nI ax), .int (nI va), .int (nI sl), .int (-1), .int (nI me), .ref b1, .ref b2, .int (nI L2), .ref c2, .int (nI mn), .ref r1, .ref r2, .ref z1, .ref n1, .ref t1])), (a1, .inl (cI, 10, .inl (wA f1)))]) (va_runV (As := [.int (nI v)]) (rest := [.ref h]) (C := R_Md) ⟨hx, hb, hml, hown, ht⟩ (c_Md_find1 l Hs D cI cZ cL h a1 a2 a3 a4 c1 b1 b2 c2 r1 r2 z1 n1 t1 th n wi bu L ax va sl me L2 mn (-1) f1 i v hn hi hv (fun t ht9 => (pw_G_31 hG t ht9).2) (pw_G_inj hG) H.size) (gw_V 1 ht wd_986 wd_5 wd_983 wd_985 ws_28 (by decide +kernel) ⟨Nat.le_of_ble_eq_true rfl, Nat.le_of_ble_eq_true rfl⟩) (k_preV hE hAH hK hP hD hS [0, 1] rfl rfl 0 rfl rfl) rfl rfl hl.1 rfl (lv_room (Nat.le_of_ble_eq_true rfl)) d_Md_drop_3 ⟨Nat.le_of_ble_eq_true rfl, Nat.le_of_ble_eq_true rfl⟩) hP hD hS hA [0, 1] rfl rfl (fun r3 w1 H locs hpost hP hD hS => ?_)
  obtain ⟨rfl, rfl⟩ := hpost
  have hP : va_P D kcl [(h, .inr (5, [.int (nI th), .int (nI n), .ref a1, .ref a2, .ref a3, .ref a4, .int (nI wi), .int (nI bu), .int (nI L), .ref c1, .int (nI ax), .int (nI va), .int (nI sl), .int (-1), .int (nI me), .ref b1, .ref b2, .int (nI L2), .ref c2, .int (nI mn), .ref r1, .ref r2, .ref z1, .ref n1, .ref t1])), (a1, .inl (cI, 10, .inl (wA f1))), (a2, .inl (cI, 10, .inl (wA f2))), (r1, .inl (cI, 10, .inl (wA ro))), (r2, .inl (cI, 10, .inl (wA ru))), (b1, .inl (cI, 10, .inl (wA g1))), (b2, .inl (cI, 10, .inl (wA g2))), (c2, .inl (cI, 1600, .inl (wA cy))), (n1, .inl (cI, 4, .inl (wA nu))), (z1, .inl (cZ, 1500, .inl (wA zs))), (t1, .inl (cI, 1500, .inl (wT tm)))] H := hP
  have hD : va_D A [(h, .inr (5, [.int (nI th), .int (nI n), .ref a1, .ref a2, .ref a3, .ref a4, .int (nI wi), .int (nI bu), .int (nI L), .ref c1, .int (nI ax), .int (nI va), .int (nI sl), .int (-1), .int (nI me), .ref b1, .ref b2, .int (nI L2), .ref c2, .int (nI mn), .ref r1, .ref r2, .ref z1, .ref n1, .ref t1])), (a1, .inl (cI, 10, .inl (wA f1))), (a2, .inl (cI, 10, .inl (wA f2))), (r1, .inl (cI, 10, .inl (wA ro))), (r2, .inl (cI, 10, .inl (wA ru))), (b1, .inl (cI, 10, .inl (wA g1))), (b2, .inl (cI, 10, .inl (wA g2))), (c2, .inl (cI, 1600, .inl (wA cy))), (n1, .inl (cI, 4, .inl (wA nu))), (z1, .inl (cZ, 1500, .inl (wA zs))), (t1, .inl (cI, 1500, .inl (wT tm)))] := hD
  refine wi_if_ge hx hb d_Md_drop_6 rfl (by omega) ?_
  refine lv_iconst (v := nI 0) hx hb d_Md_drop_13 (by decide) ?_
  refine lv_aload_n hx hb d_Md_drop_14 rfl (lv_at hl 0 rfl) ?_
  refine va_get (D := D) (ci := 5) (v := .int (-1)) (C := R_Md) (T := T_Md) (N := 25) hx hb ht u_Md hown hK hP 0 rfl rfl 13 (by decide) (ht _ wd_908) (fun _ h9 => h9) rfl d_Md_drop_15 ?_
  refine lv_if_le hx hb d_Md_drop_18 rfl (fun _ => ?_) (fun h => absurd (by decide) h)
  refine lv_iconst (v := nI 0) hx hb d_Md_drop_25 (by decide) ?_
  refine lv_iconst (v := nI 0) hx hb d_Md_drop_26 (by decide) ?_
  refine ck_i (wc := [(h, .inr (5, [.int (nI th), .int (nI n), .ref a1, .ref a2, .ref a3, .ref a4, .int (nI wi), .int (nI bu), .int (nI L), .ref c1, .int (nI ax), .int (nI va), .int (nI sl), .int (-1), .int (nI me), .ref b1, .ref b2, .int (nI L2), .ref c2, .int (nI mn), .ref r1, .ref r2, .ref z1, .ref n1, .ref t1]))]) (va_runV (As := [.int (nI 0), .int (nI 0), .int (nI 0)]) (rest := []) (C := R_Md) ⟨hx, hb, hml, hown, ht⟩ (c_Md_refuseD l Hs D cI cZ cL h a1 a2 a3 a4 c1 b1 b2 c2 r1 r2 z1 n1 t1 th n wi bu L ax va sl me L2 mn (-1)  H.size) (gw_V 3 ht wd_990 wd_5 wd_987 wd_989 ws_29 (by decide +kernel) ⟨Nat.le_of_ble_eq_true rfl, Nat.le_of_ble_eq_true rfl⟩) (k_preV hE hAH hK hP hD hS [0] rfl rfl 0 rfl rfl) rfl rfl hl.1 rfl (lv_room (Nat.le_of_ble_eq_true rfl)) d_Md_drop_27 ⟨Nat.le_of_ble_eq_true rfl, Nat.le_of_ble_eq_true rfl⟩) hP hD hS hA [0] rfl rfl (fun r27 w1 H locs hpost hP hD hS => ?_)
  obtain ⟨rfl, rfl⟩ := hpost
  have hP : va_P D kcl [(h, .inr (5, [.int (nI 0), .int (nI n), .ref a1, .ref a2, .ref a3, .ref a4, .int (nI wi), .int (nI bu), .int (nI L), .ref c1, .int (nI ax), .int (nI va), .int (nI sl), .int (-1), .int (nI me), .ref b1, .ref b2, .int (nI L2), .ref c2, .int (nI mn), .ref r1, .ref r2, .ref z1, .ref n1, .ref t1])), (a1, .inl (cI, 10, .inl (wA f1))), (a2, .inl (cI, 10, .inl (wA f2))), (r1, .inl (cI, 10, .inl (wA ro))), (r2, .inl (cI, 10, .inl (wA ru))), (b1, .inl (cI, 10, .inl (wA g1))), (b2, .inl (cI, 10, .inl (wA g2))), (c2, .inl (cI, 1600, .inl (wA cy))), (n1, .inl (cI, 4, .inl (wA nu))), (z1, .inl (cZ, 1500, .inl (wA zs))), (t1, .inl (cI, 1500, .inl (wT tm)))] H := hP
  have hD : va_D A [(h, .inr (5, [.int (nI 0), .int (nI n), .ref a1, .ref a2, .ref a3, .ref a4, .int (nI wi), .int (nI bu), .int (nI L), .ref c1, .int (nI ax), .int (nI va), .int (nI sl), .int (-1), .int (nI me), .ref b1, .ref b2, .int (nI L2), .ref c2, .int (nI mn), .ref r1, .ref r2, .ref z1, .ref n1, .ref t1])), (a1, .inl (cI, 10, .inl (wA f1))), (a2, .inl (cI, 10, .inl (wA f2))), (r1, .inl (cI, 10, .inl (wA ro))), (r2, .inl (cI, 10, .inl (wA ru))), (b1, .inl (cI, 10, .inl (wA g1))), (b2, .inl (cI, 10, .inl (wA g2))), (c2, .inl (cI, 1600, .inl (wA cy))), (n1, .inl (cI, 4, .inl (wA nu))), (z1, .inl (cZ, 1500, .inl (wA zs))), (t1, .inl (cI, 1500, .inl (wT tm)))] := hD
  refine wi_if_eq hx hb d_Md_drop_30 rfl (by decide) (fun _ => ?_) (fun h => absurd h (by decide))
  refine lv_aload_n hx hb d_Md_drop_35 rfl (lv_at hl 0 rfl) ?_
  refine lv_iload_n hx hb d_Md_drop_36 rfl (lv_at hl 1 rfl) ?_
  refine ck_v (wc := [(h, .inr (5, [.int (nI 0), .int (nI n), .ref a1, .ref a2, .ref a3, .ref a4, .int (nI wi), .int (nI bu), .int (nI L), .ref c1, .int (nI ax), .int (nI va), .int (nI sl), .int (-1), .int (nI me), .ref b1, .ref b2, .int (nI L2), .ref c2, .int (nI mn), .ref r1, .ref r2, .ref z1, .ref n1, .ref t1])), (a1, .inl (cI, 10, .inl (wA f1))), (a2, .inl (cI, 10, .inl (wA f2))), (b1, .inl (cI, 10, .inl (wA g1))), (b2, .inl (cI, 10, .inl (wA g2)))]) (va_runV (As := [.int (nI v)]) (rest := []) (C := R_Md) ⟨hx, hb, hml, hown, ht⟩ (c_Md_copySetB l Hs D cI cZ cL h a1 a2 a3 a4 c1 b1 b2 c2 r1 r2 z1 n1 t1 0 n wi bu L ax va sl me L2 mn (-1) f1 f2 g1 g2 v i hn (fun t ht9 => (pw_G_31 hG t ht9).2) (by rw [← hv]; exact (pw_G_31 hG i hi).2) hi hv (pw_G_inj hG) H.size) (gw_V 1 ht wd_994 wd_5 wd_991 wd_993 ws_30 (by decide +kernel) ⟨Nat.le_of_ble_eq_true rfl, Nat.le_of_ble_eq_true rfl⟩) (k_preV hE hAH hK hP hD hS [0, 1, 2, 5, 6] rfl rfl 0 rfl rfl) rfl rfl hl.1 rfl (lv_room (Nat.le_of_ble_eq_true rfl)) d_Md_drop_37 ⟨Nat.le_of_ble_eq_true rfl, Nat.le_of_ble_eq_true rfl⟩) hP hD hS hA [0, 1, 2, 5, 6] rfl rfl (fun w1 H locs hpost hP hD hS => ?_)
  obtain ⟨y1, y2, hle, rfl⟩ := hpost
  have hP : va_P D kcl [(h, .inr (5, [.int (nI 0), .int (nI n), .ref a1, .ref a2, .ref a3, .ref a4, .int (nI wi), .int (nI bu), .int (nI L), .ref c1, .int (nI ax), .int (nI va), .int (nI sl), .int (-1), .int (nI (n - 1)), .ref b1, .ref b2, .int (nI L2), .ref c2, .int (nI mn), .ref r1, .ref r2, .ref z1, .ref n1, .ref t1])), (a1, .inl (cI, 10, .inl (wA f1))), (a2, .inl (cI, 10, .inl (wA f2))), (r1, .inl (cI, 10, .inl (wA ro))), (r2, .inl (cI, 10, .inl (wA ru))), (b1, .inl (cI, 10, .inl (wA y1))), (b2, .inl (cI, 10, .inl (wA y2))), (c2, .inl (cI, 1600, .inl (wA cy))), (n1, .inl (cI, 4, .inl (wA nu))), (z1, .inl (cZ, 1500, .inl (wA zs))), (t1, .inl (cI, 1500, .inl (wT tm)))] H := hP
  have hD : va_D A [(h, .inr (5, [.int (nI 0), .int (nI n), .ref a1, .ref a2, .ref a3, .ref a4, .int (nI wi), .int (nI bu), .int (nI L), .ref c1, .int (nI ax), .int (nI va), .int (nI sl), .int (-1), .int (nI (n - 1)), .ref b1, .ref b2, .int (nI L2), .ref c2, .int (nI mn), .ref r1, .ref r2, .ref z1, .ref n1, .ref t1])), (a1, .inl (cI, 10, .inl (wA f1))), (a2, .inl (cI, 10, .inl (wA f2))), (r1, .inl (cI, 10, .inl (wA ro))), (r2, .inl (cI, 10, .inl (wA ru))), (b1, .inl (cI, 10, .inl (wA y1))), (b2, .inl (cI, 10, .inl (wA y2))), (c2, .inl (cI, 1600, .inl (wA cy))), (n1, .inl (cI, 4, .inl (wA nu))), (z1, .inl (cZ, 1500, .inl (wA zs))), (t1, .inl (cI, 1500, .inl (wT tm)))] := hD
  have hGn := pw_le1_G hG hle
  have hln := hlay y1 y2 hle
  refine lv_aload_n hx hb d_Md_drop_40 rfl (lv_at hl 0 rfl) ?_
  refine lv_aload_n hx hb d_Md_drop_41 rfl (lv_at hl 0 rfl) ?_
  refine ck_i (wc := [(h, .inr (5, [.int (nI 0), .int (nI n), .ref a1, .ref a2, .ref a3, .ref a4, .int (nI wi), .int (nI bu), .int (nI L), .ref c1, .int (nI ax), .int (nI va), .int (nI sl), .int (-1), .int (nI (n - 1)), .ref b1, .ref b2, .int (nI L2), .ref c2, .int (nI mn), .ref r1, .ref r2, .ref z1, .ref n1, .ref t1])), (r1, .inl (cI, 10, .inl (wA ro))), (r2, .inl (cI, 10, .inl (wA ru))), (b1, .inl (cI, 10, .inl (wA y1))), (b2, .inl (cI, 10, .inl (wA y2))), (c2, .inl (cI, 1600, .inl (wA cy))), (n1, .inl (cI, 4, .inl (wA nu))), (z1, .inl (cZ, 1500, .inl (wA zs))), (t1, .inl (cI, 1500, .inl (wT tm)))]) (va_runV (As := []) (rest := [.ref h]) (C := R_Md) ⟨hx, hb, hml, hown, ht⟩ (c_Md_buildY l Hs D cI cZ cL h a1 a2 a3 a4 c1 b1 b2 c2 r1 r2 z1 n1 t1 0 n wi bu L ax va sl (n - 1) L2 mn (-1) ro ru y1 y2 cy nu zs tm (by omega) (fun t ht9 => ⟨(hGn.2.2 t ht9).1, (hGn.2.2 t ht9).2⟩) (pw_G_31 hGn) (pw_G_inj hGn) hln H.size) (gw_V 0 ht wd_998 wd_5 wd_995 wd_997 ws_31 (by decide +kernel) ⟨Nat.le_of_ble_eq_true rfl, Nat.le_of_ble_eq_true rfl⟩) (k_preV hE hAH hK hP hD hS [0, 3, 4, 5, 6, 7, 8, 9, 10] rfl rfl 0 rfl rfl) rfl rfl hl.1 rfl (lv_room (Nat.le_of_ble_eq_true rfl)) d_Md_drop_42 ⟨Nat.le_of_ble_eq_true rfl, Nat.le_of_ble_eq_true rfl⟩) hP hD hS hA [0, 3, 4, 5, 6, 7, 8, 9, 10] rfl rfl (fun r42 w1 H locs hpost hP hD hS => ?_)
  obtain ⟨ro2, ru2, nu2, zs2, tm2, cy2, L3, m3, bw, hB, rfl, rfl⟩ := hpost
  have hP : va_P D kcl [(h, .inr (5, [.int (nI 0), .int (nI n), .ref a1, .ref a2, .ref a3, .ref a4, .int (nI wi), .int (nI bu), .int (nI L), .ref c1, .int (nI ax), .int (nI va), .int (nI sl), .int (-1), .int (nI (n - 1)), .ref b1, .ref b2, .int (nI L3), .ref c2, .int (nI m3), .ref r1, .ref r2, .ref z1, .ref n1, .ref t1])), (a1, .inl (cI, 10, .inl (wA f1))), (a2, .inl (cI, 10, .inl (wA f2))), (r1, .inl (cI, 10, .inl (wA ro2))), (r2, .inl (cI, 10, .inl (wA ru2))), (b1, .inl (cI, 10, .inl (wA y1))), (b2, .inl (cI, 10, .inl (wA y2))), (c2, .inl (cI, 1600, .inl (wA cy2))), (n1, .inl (cI, 4, .inl (wA nu2))), (z1, .inl (cZ, 1500, .inl (wA zs2))), (t1, .inl (cI, 1500, .inl (wT tm2)))] H := hP
  have hD : va_D A [(h, .inr (5, [.int (nI 0), .int (nI n), .ref a1, .ref a2, .ref a3, .ref a4, .int (nI wi), .int (nI bu), .int (nI L), .ref c1, .int (nI ax), .int (nI va), .int (nI sl), .int (-1), .int (nI (n - 1)), .ref b1, .ref b2, .int (nI L3), .ref c2, .int (nI m3), .ref r1, .ref r2, .ref z1, .ref n1, .ref t1])), (a1, .inl (cI, 10, .inl (wA f1))), (a2, .inl (cI, 10, .inl (wA f2))), (r1, .inl (cI, 10, .inl (wA ro2))), (r2, .inl (cI, 10, .inl (wA ru2))), (b1, .inl (cI, 10, .inl (wA y1))), (b2, .inl (cI, 10, .inl (wA y2))), (c2, .inl (cI, 1600, .inl (wA cy2))), (n1, .inl (cI, 4, .inl (wA nu2))), (z1, .inl (cZ, 1500, .inl (wA zs2))), (t1, .inl (cI, 1500, .inl (wT tm2)))] := hD
  refine va_put (D := D) (ci := 5) (v := .int (nI bw)) (ty := .int) (C := R_Md) (T := T_Md) (N := 25) hx hb ht u_Md t_Md t_Md_ok n_Md hown hK hP hD hS 0 rfl rfl 13 (by decide) (ht _ wd_908) (fun _ h9 => h9) rfl (by decide +kernel) rfl rfl (Nat.le_of_ble_eq_true rfl) d_Md_drop_45 (fun H locs hP hD hS => ?_)
  have hP : va_P D kcl [(h, .inr (5, [.int (nI 0), .int (nI n), .ref a1, .ref a2, .ref a3, .ref a4, .int (nI wi), .int (nI bu), .int (nI L), .ref c1, .int (nI ax), .int (nI va), .int (nI sl), .int (nI bw), .int (nI (n - 1)), .ref b1, .ref b2, .int (nI L3), .ref c2, .int (nI m3), .ref r1, .ref r2, .ref z1, .ref n1, .ref t1])), (a1, .inl (cI, 10, .inl (wA f1))), (a2, .inl (cI, 10, .inl (wA f2))), (r1, .inl (cI, 10, .inl (wA ro2))), (r2, .inl (cI, 10, .inl (wA ru2))), (b1, .inl (cI, 10, .inl (wA y1))), (b2, .inl (cI, 10, .inl (wA y2))), (c2, .inl (cI, 1600, .inl (wA cy2))), (n1, .inl (cI, 4, .inl (wA nu2))), (z1, .inl (cZ, 1500, .inl (wA zs2))), (t1, .inl (cI, 1500, .inl (wT tm2)))] H := hP
  have hD : va_D A [(h, .inr (5, [.int (nI 0), .int (nI n), .ref a1, .ref a2, .ref a3, .ref a4, .int (nI wi), .int (nI bu), .int (nI L), .ref c1, .int (nI ax), .int (nI va), .int (nI sl), .int (nI bw), .int (nI (n - 1)), .ref b1, .ref b2, .int (nI L3), .ref c2, .int (nI m3), .ref r1, .ref r2, .ref z1, .ref n1, .ref t1])), (a1, .inl (cI, 10, .inl (wA f1))), (a2, .inl (cI, 10, .inl (wA f2))), (r1, .inl (cI, 10, .inl (wA ro2))), (r2, .inl (cI, 10, .inl (wA ru2))), (b1, .inl (cI, 10, .inl (wA y1))), (b2, .inl (cI, 10, .inl (wA y2))), (c2, .inl (cI, 1600, .inl (wA cy2))), (n1, .inl (cI, 4, .inl (wA nu2))), (z1, .inl (cZ, 1500, .inl (wA zs2))), (t1, .inl (cI, 1500, .inl (wT tm2)))] := hD
  refine lv_aload_n hx hb d_Md_drop_48 rfl (lv_at hl 0 rfl) ?_
  refine va_get (D := D) (ci := 5) (v := .int (nI bw)) (C := R_Md) (T := T_Md) (N := 25) hx hb ht u_Md hown hK hP 0 rfl rfl 13 (by decide) (ht _ wd_908) (fun _ h9 => h9) rfl d_Md_drop_49 ?_
  exact k_reti hQ hx hb hr hlk hAe hK hP hD hS (Nat.le_of_ble_eq_true rfl) (Nat.le_of_ble_eq_true rfl) (Nat.le_of_ble_eq_true rfl) ⟨y1, y2, ro2, ru2, nu2, zs2, L3, m3, tm2, cy2, bw, hle, hB, rfl, rfl⟩ d_Md_drop_52
/-! PinwheelKernelModel: seams. -/
theorem md_has {L p j : Nat} {cy : Nat → Nat} {v : Nat} (hp : p < L) (hj : j < L) (h : cy j = v) : ∃ d, d < L ∧ cy ((p + d) % L) = v := by
  by_cases a : p ≤ j
  · exact ⟨j - p, by omega, by rw [show p + (j - p) = j by omega, Nat.mod_eq_of_lt hj]; exact h⟩
  · refine ⟨j + L - p, by omega, ?_⟩
    rw [show p + (j + L - p) = j + L by omega, Nat.add_mod_right, Nat.mod_eq_of_lt hj]
    exact h
/-- of one client -/
def md_se (n : Nat) (f1 f3 g1 g2 : Nat → Nat) (L : Nat) (cy : Nat → Nat) (p t : Nat) : Prop := ∃ d, pw_wt n f1 f3 (g1 t) + d < g2 t ∧ cy ((p + d) % L) = g1 t
set_option maxHeartbeats 4000000 in
set_option maxRecDepth 100000 in
theorem c_Md_isSeam (l : Launch) (Hs : Heap) (D : va_G) (cI cZ cL : ClassId) (h : Nat) (a1 : Nat) (a2 : Nat) (a3 : Nat) (a4 : Nat) (c1 : Nat) (b1 : Nat) (b2 : Nat) (c2 : Nat) (r1 : Nat) (r2 : Nat) (z1 : Nat) (n1 : Nat) (t1 : Nat) (th : Nat) (n : Nat) (wi : Nat) (bu : Nat) (L : Nat) (ax : Nat) (va : Nat) (sl : Nat) (me : Nat) (L2 : Nat) (mn : Nat) (cv : Int32) (f1 : Nat → Nat) (f3 : Nat → Nat) (g1 : Nat → Nat) (g2 : Nat → Nat) (cy : Nat → Nat) (x : Nat) (hn : n ≤ 10) (hme : me ≤ 10) (hf : ∀ t, t < n → f1 t < 2 ^ 31 ∧ f3 t < 2 ^ 20) (hinj : ∀ i j, i < n → j < n → f1 i = f1 j → i = j) (hg : ∀ t, t < me → g1 t < 2 ^ 31 ∧ g2 t ≤ 40) (hL0 : 0 < L2) (hL1 : L2 ≤ 1500) (hcy : ∀ t, t < L2 → cy t < 2 ^ 31) (hhas : ∀ t, t < me → ∃ j, j < L2 ∧ cy j = g1 t) (hxL : x < L2) : kI l Hs D kcl (ty3 cI cZ cL) y_Md_isSeam (mws y_Md_isSeam b_Md_isSeam 6 (Option.some Jvm.ClassFile.FieldType.boolean)) ({ frames := 1, cells := 0, slots := 0, locals := 23 } : Room) [.ref h, .int (nI x)] [(h, .inr (5, [.int (nI th), .int (nI n), .ref a1, .ref a2, .ref a3, .ref a4, .int (nI wi), .int (nI bu), .int (nI L), .ref c1, .int (nI ax), .int (nI va), .int (nI sl), .int cv, .int (nI me), .ref b1, .ref b2, .int (nI L2), .ref c2, .int (nI mn), .ref r1, .ref r2, .ref z1, .ref n1, .ref t1])), (a1, .inl (cI, 10, .inl (wA f1))), (a3, .inl (cI, 10, .inl (wA f3))), (b1, .inl (cI, 10, .inl (wA g1))), (b2, .inl (cI, 10, .inl (wA g2))), (c2, .inl (cI, 1600, .inl (wA cy)))] (fun r w => ∃ (r0 : Nat), ((r0 = 1 ∧ pw_SE n f1 f3 me g1 g2 L2 cy x) ∨ (r0 = 0 ∧ ¬ pw_SE n f1 f3 me g1 g2 L2 cy x)) ∧ r = nI r0 ∧ w = [(h, .inr (5, [.int (nI th), .int (nI n), .ref a1, .ref a2, .ref a3, .ref a4, .int (nI wi), .int (nI bu), .int (nI L), .ref c1, .int (nI ax), .int (nI va), .int (nI sl), .int cv, .int (nI me), .ref b1, .ref b2, .int (nI L2), .ref c2, .int (nI mn), .ref r1, .ref r2, .ref z1, .ref n1, .ref t1])), (a1, .inl (cI, 10, .inl (wA f1))), (a3, .inl (cI, 10, .inl (wA f3))), (b1, .inl (cI, 10, .inl (wA g1))), (b2, .inl (cI, 10, .inl (wA g2))), (c2, .inl (cI, 1600, .inl (wA cy)))]) := by
  intro sz
  refine k_of (cc := b_Md_isSeam) (maxL := 6) (ret := (Option.some Jvm.ClassFile.FieldType.boolean)) (by decide) rfl (Nat.le_of_ble_eq_true rfl) ?_
  intro p e s m args below meth c ls H locs A Q hQ hx hb hml hr hts hown hlk hnm hsz hAe hP hK hD hS hA hE hAH hl
  have ht : ∀ w ∈ mw, w.before args s = true := fun w h => hts w (List.mem_cons_of_mem _ h)
  have hl : lv_has ls 6 [(0, .ref h), (1, .int (nI x))] := hl
  refine lv_iconst (v := nI 1) hx hb d_Md_isSeam_0 (by decide) ?_
  refine lv_istore_n (lv' := [(2, .int (nI 1)), (0, .ref h), (1, .int (nI x))]) hx hb d_Md_isSeam_1 rfl hl (by decide) rfl (fun ls hl => ?_)
  refine lv_iconst (v := nI 0) hx hb d_Md_isSeam_2 (by decide) ?_
  refine lv_istore_n (lv' := [(3, .int (nI 0)), (2, .int (nI 1)), (0, .ref h), (1, .int (nI x))]) hx hb d_Md_isSeam_3 rfl hl (by decide) rfl (fun ls hl => ?_)
  have loop4 : ∀ (d : Nat) (k : Nat) (e9 : Nat) (ls : Array Slot) (H : Heap) (locs : List Loc), me - k = d → (k ≤ me) → (e9 < 2) → ((e9 = 1 ∧ ∀ t, t < k → md_se n f1 f3 g1 g2 L2 cy x t) ∨ (e9 = 0 ∧ ∃ t, t < k ∧ ¬ md_se n f1 f3 g1 g2 L2 cy x t)) → lv_has ls 6 [(0, .ref h), (1, .int (nI x)), (2, .int (nI e9)), (3, .int (nI k))] → va_P D kcl [(h, .inr (5, [.int (nI th), .int (nI n), .ref a1, .ref a2, .ref a3, .ref a4, .int (nI wi), .int (nI bu), .int (nI L), .ref c1, .int (nI ax), .int (nI va), .int (nI sl), .int cv, .int (nI me), .ref b1, .ref b2, .int (nI L2), .ref c2, .int (nI mn), .ref r1, .ref r2, .ref z1, .ref n1, .ref t1])), (a1, .inl (cI, 10, .inl (wA f1))), (a3, .inl (cI, 10, .inl (wA f3))), (b1, .inl (cI, 10, .inl (wA g1))), (b2, .inl (cI, 10, .inl (wA g2))), (c2, .inl (cI, 1600, .inl (wA cy)))] H → va_D A [(h, .inr (5, [.int (nI th), .int (nI n), .ref a1, .ref a2, .ref a3, .ref a4, .int (nI wi), .int (nI bu), .int (nI L), .ref c1, .int (nI ax), .int (nI va), .int (nI sl), .int cv, .int (nI me), .ref b1, .ref b2, .int (nI L2), .ref c2, .int (nI mn), .ref r1, .ref r2, .ref z1, .ref n1, .ref t1])), (a1, .inl (cI, 10, .inl (wA f1))), (a3, .inl (cI, 10, .inl (wA f3))), (b1, .inl (cI, 10, .inl (wA g1))), (b2, .inl (cI, 10, .inl (wA g2))), (c2, .inl (cI, 1600, .inl (wA cy)))] → va_S A s.heap H locs → W p l e ({ frames := 1, cells := 0, slots := 0, locals := 23 } : Room) s m args below meth c H locs 0 0 Q (F0 m 4 ls []) := by
    intro d
    induction d using Nat.strongRecOn with
    | ind d ih4 =>
      intro k e9 ls H locs hd4 hk he9 hin hl hP hD hS
      refine lv_iload_n hx hb d_Md_isSeam_4 rfl (lv_at hl 3 rfl) ?_
      refine lv_aload_n hx hb d_Md_isSeam_5 rfl (lv_at hl 0 rfl) ?_
      refine va_get (D := D) (ci := 5) (v := .int (nI me)) (C := R_Md) (T := T_Md) (N := 25) hx hb ht u_Md hown hK hP 0 rfl rfl 14 (by decide) (ht _ wd_909) (fun _ h9 => h9) rfl d_Md_isSeam_6 ?_
      refine wi_ge hx hb d_Md_isSeam_9 rfl (by omega) (by omega) (fun h9 => ?_) (fun h9 => ?_)
      · obtain rfl : me = k := by omega
        refine lv_iload_n hx hb d_Md_isSeam_100 rfl (lv_at hl 2 rfl) ?_
        have hres : (e9 = 1 ∧ pw_SE n f1 f3 me g1 g2 L2 cy x) ∨ (e9 = 0 ∧ ¬ pw_SE n f1 f3 me g1 g2 L2 cy x) := by
          rcases hin with ⟨a, b1⟩ | ⟨a, t, b1, b2⟩
          · exact Or.inl ⟨a, fun t ht => b1 t ht⟩
          · exact Or.inr ⟨a, fun q => b2 (q t b1)⟩
        exact k_retz hQ hx hb hr hlk hAe hK hP hD hS (Nat.le_of_ble_eq_true rfl) (Nat.le_of_ble_eq_true rfl) (Nat.le_of_ble_eq_true rfl) (nb01 he9) ⟨e9, hres, rfl, rfl⟩ d_Md_isSeam_101
      · have hgk := hg k h9
        obtain ⟨jx, hj1, hj2⟩ := hhas k h9
        obtain ⟨dx, hdx1, hdx2⟩ := md_has hxL hj1 hj2
        refine lv_iconst (v := nI 0) hx hb d_Md_isSeam_12 (by decide) ?_
        refine lv_istore (lv' := [(4, .int (nI 0)), (0, .ref h), (1, .int (nI x)), (2, .int (nI e9)), (3, .int (nI k))]) hx hb d_Md_isSeam_13 hl (by decide) rfl (fun ls hl => ?_)
        have loop15 : ∀ (d : Nat) (d9 : Nat) (ls : Array Slot) (H : Heap) (locs : List Loc), dx - d9 = d → (d9 ≤ dx) → (∀ j, j < d9 → cy ((x + j) % L2) ≠ g1 k) → lv_has ls 6 [(0, .ref h), (1, .int (nI x)), (2, .int (nI e9)), (3, .int (nI k)), (4, .int (nI d9))] → va_P D kcl [(h, .inr (5, [.int (nI th), .int (nI n), .ref a1, .ref a2, .ref a3, .ref a4, .int (nI wi), .int (nI bu), .int (nI L), .ref c1, .int (nI ax), .int (nI va), .int (nI sl), .int cv, .int (nI me), .ref b1, .ref b2, .int (nI L2), .ref c2, .int (nI mn), .ref r1, .ref r2, .ref z1, .ref n1, .ref t1])), (a1, .inl (cI, 10, .inl (wA f1))), (a3, .inl (cI, 10, .inl (wA f3))), (b1, .inl (cI, 10, .inl (wA g1))), (b2, .inl (cI, 10, .inl (wA g2))), (c2, .inl (cI, 1600, .inl (wA cy)))] H → va_D A [(h, .inr (5, [.int (nI th), .int (nI n), .ref a1, .ref a2, .ref a3, .ref a4, .int (nI wi), .int (nI bu), .int (nI L), .ref c1, .int (nI ax), .int (nI va), .int (nI sl), .int cv, .int (nI me), .ref b1, .ref b2, .int (nI L2), .ref c2, .int (nI mn), .ref r1, .ref r2, .ref z1, .ref n1, .ref t1])), (a1, .inl (cI, 10, .inl (wA f1))), (a3, .inl (cI, 10, .inl (wA f3))), (b1, .inl (cI, 10, .inl (wA g1))), (b2, .inl (cI, 10, .inl (wA g2))), (c2, .inl (cI, 1600, .inl (wA cy)))] → va_S A s.heap H locs → W p l e ({ frames := 1, cells := 0, slots := 0, locals := 23 } : Room) s m args below meth c H locs 0 0 Q (F0 m 15 ls []) := by
          intro d
          induction d using Nat.strongRecOn with
          | ind d ih15 =>
            intro d9 ls H locs hd15 hd9 hfst hl hP hD hS
            have hmod : (x + d9) % L2 < L2 := Nat.mod_lt _ hL0
            refine lv_aload_n hx hb d_Md_isSeam_15 rfl (lv_at hl 0 rfl) ?_
            refine va_get (D := D) (ci := 5) (v := .ref c2) (C := R_Md) (T := T_Md) (N := 25) hx hb ht u_Md hown hK hP 0 rfl rfl 18 (by decide) (ht _ wd_913) (fun _ h9 => h9) rfl d_Md_isSeam_16 ?_
            refine lv_iload_n hx hb d_Md_isSeam_19 rfl (lv_at hl 1 rfl) ?_
            refine lv_iload hx hb d_Md_isSeam_20 (lv_at hl 4 rfl) ?_
            refine wi_add hx hb d_Md_isSeam_22 ?_
            refine lv_aload_n hx hb d_Md_isSeam_23 rfl (lv_at hl 0 rfl) ?_
            refine va_get (D := D) (ci := 5) (v := .int (nI L2)) (C := R_Md) (T := T_Md) (N := 25) hx hb ht u_Md hown hK hP 0 rfl rfl 17 (by decide) (ht _ wd_912) (fun _ h9 => h9) rfl d_Md_isSeam_24 ?_
            refine wi_rem hx hb d_Md_isSeam_27 (by omega) hL0 (by omega) ?_
            refine wi_ald hx hb hK hP 5 0 rfl rfl (by omega) (by decide) d_Md_isSeam_28 ?_
            refine lv_aload_n hx hb d_Md_isSeam_29 rfl (lv_at hl 0 rfl) ?_
            refine va_get (D := D) (ci := 5) (v := .ref b1) (C := R_Md) (T := T_Md) (N := 25) hx hb ht u_Md hown hK hP 0 rfl rfl 15 (by decide) (ht _ wd_910) (fun _ h9 => h9) rfl d_Md_isSeam_30 ?_
            refine lv_iload_n hx hb d_Md_isSeam_33 rfl (lv_at hl 3 rfl) ?_
            refine wi_ald hx hb hK hP 3 0 rfl rfl (by omega) (by omega) d_Md_isSeam_34 ?_
            refine wi_eq hx hb d_Md_isSeam_35 rfl (hcy _ hmod) hgk.1 (fun h35 => ?_) (fun h35 => ?_)
            · refine lv_aload_n hx hb d_Md_isSeam_44 rfl (lv_at hl 0 rfl) ?_
              refine lv_aload_n hx hb d_Md_isSeam_45 rfl (lv_at hl 0 rfl) ?_
              refine va_get (D := D) (ci := 5) (v := .ref b1) (C := R_Md) (T := T_Md) (N := 25) hx hb ht u_Md hown hK hP 0 rfl rfl 15 (by decide) (ht _ wd_910) (fun _ h9 => h9) rfl d_Md_isSeam_46 ?_
              refine lv_iload_n hx hb d_Md_isSeam_49 rfl (lv_at hl 3 rfl) ?_
              refine wi_ald hx hb hK hP 3 0 rfl rfl (by omega) (by omega) d_Md_isSeam_50 ?_
              refine ck_i (wc := [(h, .inr (5, [.int (nI th), .int (nI n), .ref a1, .ref a2, .ref a3, .ref a4, .int (nI wi), .int (nI bu), .int (nI L), .ref c1, .int (nI ax), .int (nI va), .int (nI sl), .int cv, .int (nI me), .ref b1, .ref b2, .int (nI L2), .ref c2, .int (nI mn), .ref r1, .ref r2, .ref z1, .ref n1, .ref t1])), (a1, .inl (cI, 10, .inl (wA f1)))]) (va_runV (As := [.int (nI (g1 k))]) (rest := []) (C := R_Md) ⟨hx, hb, hml, hown, ht⟩ (c_Md_find l Hs D cI cZ cL h a1 a2 a3 a4 c1 b1 b2 c2 r1 r2 z1 n1 t1 th n wi bu L ax va sl me L2 mn cv f1 (nI (g1 k)) hn H.size) (gw_V 1 ht wd_986 wd_5 wd_983 wd_985 ws_28 (by decide +kernel) ⟨Nat.le_of_ble_eq_true rfl, Nat.le_of_ble_eq_true rfl⟩) (k_preV hE hAH hK hP hD hS [0, 1] rfl rfl 0 rfl rfl) rfl rfl hl.1 rfl (lv_room (Nat.le_of_ble_eq_true rfl)) d_Md_isSeam_51 ⟨Nat.le_of_ble_eq_true rfl, Nat.le_of_ble_eq_true rfl⟩) hP hD hS hA [0, 1] rfl rfl (fun r51 w1 H locs hpost hP hD hS => ?_)
              obtain ⟨r0, hfl, rfl, rfl⟩ := hpost
              have hP : va_P D kcl [(h, .inr (5, [.int (nI th), .int (nI n), .ref a1, .ref a2, .ref a3, .ref a4, .int (nI wi), .int (nI bu), .int (nI L), .ref c1, .int (nI ax), .int (nI va), .int (nI sl), .int cv, .int (nI me), .ref b1, .ref b2, .int (nI L2), .ref c2, .int (nI mn), .ref r1, .ref r2, .ref z1, .ref n1, .ref t1])), (a1, .inl (cI, 10, .inl (wA f1))), (a3, .inl (cI, 10, .inl (wA f3))), (b1, .inl (cI, 10, .inl (wA g1))), (b2, .inl (cI, 10, .inl (wA g2))), (c2, .inl (cI, 1600, .inl (wA cy)))] H := hP
              have hD : va_D A [(h, .inr (5, [.int (nI th), .int (nI n), .ref a1, .ref a2, .ref a3, .ref a4, .int (nI wi), .int (nI bu), .int (nI L), .ref c1, .int (nI ax), .int (nI va), .int (nI sl), .int cv, .int (nI me), .ref b1, .ref b2, .int (nI L2), .ref c2, .int (nI mn), .ref r1, .ref r2, .ref z1, .ref n1, .ref t1])), (a1, .inl (cI, 10, .inl (wA f1))), (a3, .inl (cI, 10, .inl (wA f3))), (b1, .inl (cI, 10, .inl (wA g1))), (b2, .inl (cI, 10, .inl (wA g2))), (c2, .inl (cI, 1600, .inl (wA cy)))] := hD
              refine lv_istore (lv' := [(5, .int (oI r0)), (0, .ref h), (1, .int (nI x)), (2, .int (nI e9)), (3, .int (nI k)), (4, .int (nI d9))]) hx hb d_Md_isSeam_54 hl (by decide) rfl (fun ls hl => ?_)
              refine lv_iload_n hx hb d_Md_isSeam_56 rfl (lv_at hl 3 rfl) ?_
              refine wi_if_eq hx hb d_Md_isSeam_57 rfl (by omega) (fun h57 => ?_) (fun h57 => ?_)
              · refine lv_iconst (v := nI 0) hx hb d_Md_isSeam_92 (by decide) ?_
                refine lv_istore_n (lv' := [(2, .int (nI 0)), (5, .int (oI r0)), (0, .ref h), (1, .int (nI x)), (3, .int (nI k)), (4, .int (nI d9))]) hx hb d_Md_isSeam_93 rfl hl (by decide) rfl (fun ls hl => ?_)
                refine wi_inc (k := 4) (lv' := [(3, .int (nI (k + 1))), (2, .int (nI 0)), (5, .int (oI r0)), (0, .ref h), (1, .int (nI x)), (4, .int (nI d9))]) hx hb d_Md_isSeam_94 hl rfl (by decide) rfl (fun ls hl => ?_)
                refine lv_goto hx hb d_Md_isSeam_97 rfl ?_
                have hnx : (0 = 1 ∧ ∀ t, t < k + 1 → md_se n f1 f3 g1 g2 L2 cy x t) ∨ (0 = 0 ∧ ∃ t, t < k + 1 ∧ ¬ md_se n f1 f3 g1 g2 L2 cy x t) := by
                  rcases hin with ⟨a, -⟩ | ⟨-, t, b1, b2⟩
                  · omega
                  · exact Or.inr ⟨rfl, t, by omega, b2⟩
                exact ih4 (me - (k + 1)) (by omega) (k + 1) (0) ls H locs rfl (by omega) (by decide) hnx (lv_sub hl [3, 4, 1, 0] rfl) hP hD hS
              · refine lv_iload hx hb d_Md_isSeam_60 (lv_at hl 0 rfl) ?_
                refine lv_if_ge hx hb d_Md_isSeam_62 rfl (fun h62 => ?_) (fun h62 => ?_)
                · obtain ⟨i9, hi9, hr9, hix⟩ : ∃ i9, i9 < n ∧ r0 = i9 + 1 ∧ nI (f1 i9) = nI (g1 k) := by
                    rcases hfl with ⟨q, -⟩ | q
                    · rw [q] at h62; exact absurd h62 (by decide)
                    · exact q
                  subst hr9
                  have hix : f1 i9 = g1 k := (nI_eq (hf i9 hi9).1 hgk.1).mp hix
                  have hwt : pw_wt n f1 f3 (g1 k) = f3 i9 := pw_wt_in hinj hi9 hix
                  have hf3 := (hf i9 hi9).2
                  refine lv_aload_n hx hb d_Md_isSeam_69 rfl (lv_at hl 1 rfl) ?_
                  refine va_get (D := D) (ci := 5) (v := .ref a3) (C := R_Md) (T := T_Md) (N := 25) hx hb ht u_Md hown hK hP 0 rfl rfl 4 (by decide) (ht _ wd_899) (fun _ h9 => h9) rfl d_Md_isSeam_70 ?_
                  refine lv_iload hx hb d_Md_isSeam_73 (lv_at hl 0 rfl) ?_
                  rw [oI_s]
                  refine wi_ald hx hb hK hP 2 0 rfl rfl (by omega) (by omega) d_Md_isSeam_75 ?_
                  refine lv_iload hx hb d_Md_isSeam_76 (lv_at hl 5 rfl) ?_
                  refine wi_add hx hb d_Md_isSeam_78 ?_
                  refine lv_aload_n hx hb d_Md_isSeam_79 rfl (lv_at hl 1 rfl) ?_
                  refine va_get (D := D) (ci := 5) (v := .ref b2) (C := R_Md) (T := T_Md) (N := 25) hx hb ht u_Md hown hK hP 0 rfl rfl 16 (by decide) (ht _ wd_911) (fun _ h9 => h9) rfl d_Md_isSeam_80 ?_
                  refine lv_iload_n hx hb d_Md_isSeam_83 rfl (lv_at hl 4 rfl) ?_
                  refine wi_ald hx hb hK hP 4 0 rfl rfl (by omega) (by omega) d_Md_isSeam_84 ?_
                  refine wi_ge hx hb d_Md_isSeam_85 rfl (by omega) (by omega) (fun h85 => ?_) (fun h85 => ?_)
                  · refine lv_iconst (v := nI 0) hx hb d_Md_isSeam_92 (by decide) ?_
                    refine lv_istore_n (lv' := [(2, .int (nI 0)), (5, .int (oI (i9 + 1))), (0, .ref h), (1, .int (nI x)), (3, .int (nI k)), (4, .int (nI d9))]) hx hb d_Md_isSeam_93 rfl hl (by decide) rfl (fun ls hl => ?_)
                    refine wi_inc (k := 4) (lv' := [(3, .int (nI (k + 1))), (2, .int (nI 0)), (5, .int (oI (i9 + 1))), (0, .ref h), (1, .int (nI x)), (4, .int (nI d9))]) hx hb d_Md_isSeam_94 hl rfl (by decide) rfl (fun ls hl => ?_)
                    refine lv_goto hx hb d_Md_isSeam_97 rfl ?_
                    have hkk : ¬ md_se n f1 f3 g1 g2 L2 cy x k := fun ⟨dd, q1, q2⟩ => by
                      rw [hwt] at q1
                      exact hfst dd (by omega) q2
                    have hnx : (0 = 1 ∧ ∀ t, t < k + 1 → md_se n f1 f3 g1 g2 L2 cy x t) ∨ (0 = 0 ∧ ∃ t, t < k + 1 ∧ ¬ md_se n f1 f3 g1 g2 L2 cy x t) := Or.inr ⟨rfl, k, by omega, hkk⟩
                    exact ih4 (me - (k + 1)) (by omega) (k + 1) (0) ls H locs rfl (by omega) (by decide) hnx (lv_sub hl [3, 4, 1, 0] rfl) hP hD hS
                  · refine lv_iconst (v := nI 1) hx hb d_Md_isSeam_88 (by decide) ?_
                    refine lv_goto hx hb d_Md_isSeam_89 rfl ?_
                    refine lv_istore_n (lv' := [(2, .int (nI 1)), (5, .int (oI (i9 + 1))), (0, .ref h), (1, .int (nI x)), (3, .int (nI k)), (4, .int (nI d9))]) hx hb d_Md_isSeam_93 rfl hl (by decide) rfl (fun ls hl => ?_)
                    refine wi_inc (k := 4) (lv' := [(3, .int (nI (k + 1))), (2, .int (nI 1)), (5, .int (oI (i9 + 1))), (0, .ref h), (1, .int (nI x)), (4, .int (nI d9))]) hx hb d_Md_isSeam_94 hl rfl (by decide) rfl (fun ls hl => ?_)
                    refine lv_goto hx hb d_Md_isSeam_97 rfl ?_
                    have hkk : md_se n f1 f3 g1 g2 L2 cy x k := ⟨d9, by rw [hwt]; omega, h35⟩
                    have hnx : (1 = 1 ∧ ∀ t, t < k + 1 → md_se n f1 f3 g1 g2 L2 cy x t) ∨ (1 = 0 ∧ ∃ t, t < k + 1 ∧ ¬ md_se n f1 f3 g1 g2 L2 cy x t) := by
                      rcases hin with ⟨-, a⟩ | ⟨a, -⟩
                      · exact Or.inl ⟨rfl, lt_s a hkk⟩
                      · omega
                    exact ih4 (me - (k + 1)) (by omega) (k + 1) (1) ls H locs rfl (by omega) (by decide) hnx (lv_sub hl [3, 4, 1, 0] rfl) hP hD hS
                · have hwt : pw_wt n f1 f3 (g1 k) = 0 := pw_wt_out fun i hi q => by
                    rcases hfl with ⟨-, q2⟩ | ⟨j, q1, q2, -⟩
                    · exact q2 i hi (by rw [q])
                    · rw [q2, oI_s] at h62; exact h62 (nI_pos' (by omega))
                  refine lv_iconst (v := nI 0) hx hb d_Md_isSeam_65 (by decide) ?_
                  refine lv_goto hx hb d_Md_isSeam_66 rfl ?_
                  refine lv_iload hx hb d_Md_isSeam_76 (lv_at hl 5 rfl) ?_
                  refine wi_add hx hb d_Md_isSeam_78 ?_
                  refine lv_aload_n hx hb d_Md_isSeam_79 rfl (lv_at hl 1 rfl) ?_
                  refine va_get (D := D) (ci := 5) (v := .ref b2) (C := R_Md) (T := T_Md) (N := 25) hx hb ht u_Md hown hK hP 0 rfl rfl 16 (by decide) (ht _ wd_911) (fun _ h9 => h9) rfl d_Md_isSeam_80 ?_
                  refine lv_iload_n hx hb d_Md_isSeam_83 rfl (lv_at hl 4 rfl) ?_
                  refine wi_ald hx hb hK hP 4 0 rfl rfl (by omega) (by omega) d_Md_isSeam_84 ?_
                  refine wi_ge hx hb d_Md_isSeam_85 rfl (by omega) (by omega) (fun h85 => ?_) (fun h85 => ?_)
                  · refine lv_iconst (v := nI 0) hx hb d_Md_isSeam_92 (by decide) ?_
                    refine lv_istore_n (lv' := [(2, .int (nI 0)), (5, .int (oI r0)), (0, .ref h), (1, .int (nI x)), (3, .int (nI k)), (4, .int (nI d9))]) hx hb d_Md_isSeam_93 rfl hl (by decide) rfl (fun ls hl => ?_)
                    refine wi_inc (k := 4) (lv' := [(3, .int (nI (k + 1))), (2, .int (nI 0)), (5, .int (oI r0)), (0, .ref h), (1, .int (nI x)), (4, .int (nI d9))]) hx hb d_Md_isSeam_94 hl rfl (by decide) rfl (fun ls hl => ?_)
                    refine lv_goto hx hb d_Md_isSeam_97 rfl ?_
                    have hkk : ¬ md_se n f1 f3 g1 g2 L2 cy x k := fun ⟨dd, q1, q2⟩ => by
                      rw [hwt] at q1
                      exact hfst dd (by omega) q2
                    have hnx : (0 = 1 ∧ ∀ t, t < k + 1 → md_se n f1 f3 g1 g2 L2 cy x t) ∨ (0 = 0 ∧ ∃ t, t < k + 1 ∧ ¬ md_se n f1 f3 g1 g2 L2 cy x t) := Or.inr ⟨rfl, k, by omega, hkk⟩
                    exact ih4 (me - (k + 1)) (by omega) (k + 1) (0) ls H locs rfl (by omega) (by decide) hnx (lv_sub hl [3, 4, 1, 0] rfl) hP hD hS
                  · refine lv_iconst (v := nI 1) hx hb d_Md_isSeam_88 (by decide) ?_
                    refine lv_goto hx hb d_Md_isSeam_89 rfl ?_
                    refine lv_istore_n (lv' := [(2, .int (nI 1)), (5, .int (oI r0)), (0, .ref h), (1, .int (nI x)), (3, .int (nI k)), (4, .int (nI d9))]) hx hb d_Md_isSeam_93 rfl hl (by decide) rfl (fun ls hl => ?_)
                    refine wi_inc (k := 4) (lv' := [(3, .int (nI (k + 1))), (2, .int (nI 1)), (5, .int (oI r0)), (0, .ref h), (1, .int (nI x)), (4, .int (nI d9))]) hx hb d_Md_isSeam_94 hl rfl (by decide) rfl (fun ls hl => ?_)
                    refine lv_goto hx hb d_Md_isSeam_97 rfl ?_
                    have hkk : md_se n f1 f3 g1 g2 L2 cy x k := ⟨d9, by rw [hwt]; omega, h35⟩
                    have hnx : (1 = 1 ∧ ∀ t, t < k + 1 → md_se n f1 f3 g1 g2 L2 cy x t) ∨ (1 = 0 ∧ ∃ t, t < k + 1 ∧ ¬ md_se n f1 f3 g1 g2 L2 cy x t) := by
                      rcases hin with ⟨-, a⟩ | ⟨a, -⟩
                      · exact Or.inl ⟨rfl, lt_s a hkk⟩
                      · omega
                    exact ih4 (me - (k + 1)) (by omega) (k + 1) (1) ls H locs rfl (by omega) (by decide) hnx (lv_sub hl [3, 4, 1, 0] rfl) hP hD hS
            · refine wi_inc (k := 4) (lv' := [(4, .int (nI (d9 + 1))), (0, .ref h), (1, .int (nI x)), (2, .int (nI e9)), (3, .int (nI k))]) hx hb d_Md_isSeam_38 hl rfl (by decide) rfl (fun ls hl => ?_)
              refine lv_goto hx hb d_Md_isSeam_41 rfl ?_
              exact ih15 (dx - (d9 + 1)) (by have : d9 < dx := Nat.lt_of_le_of_ne hd9 (fun q => h35 (by rw [q]; exact hdx2)); omega) (d9 + 1) ls H locs rfl (Nat.lt_of_le_of_ne hd9 (fun q => h35 (by rw [q]; exact hdx2))) (lt_s hfst h35) (lv_sub hl [1, 2, 3, 4, 0] rfl) hP hD hS
        exact loop15 _ (0) ls H locs rfl (Nat.zero_le _) lt_0 (lv_sub hl [1, 2, 3, 4, 0] rfl) hP hD hS
  exact loop4 _ (0) (1) ls H locs rfl (Nat.zero_le _) (by decide) (Or.inl ⟨rfl, lt_0⟩) (lv_sub hl [2, 3, 1, 0] rfl) hP hD hS
