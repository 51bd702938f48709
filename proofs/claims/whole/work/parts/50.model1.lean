/-! PinwheelKernelModel: small things. -/
theorem pw_rnd_st {f v s : Nat} (h : s < v * 2 ^ (f + 1)) (h2 : 2 * v ≤ s) : ∃ g, f = g + 1 ∧ pw_rnd f v s = pw_rnd g (2 * v) s ∧ s < 2 * v * 2 ^ (g + 1) := by
  cases f with
  | zero => simp at h; omega
  | succ g =>
    refine ⟨g, rfl, ?_, ?_⟩
    · show (if 2 * v ≤ s then pw_rnd g (2 * v) s else v) = _
      rw [if_pos h2]
    · rw [Nat.pow_succ] at h
      have e : v * (2 ^ (g + 1) * 2) = 2 * v * 2 ^ (g + 1) := by simp only [Nat.mul_comm, Nat.mul_left_comm, Nat.mul_assoc]
      omega
theorem pw_rnd_no {f v s : Nat} (h2 : s < 2 * v) : pw_rnd f v s = v := by
  cases f with
  | zero => rfl
  | succ g =>
    show (if 2 * v ≤ s then pw_rnd g (2 * v) s else v) = _
    rw [if_neg (by omega)]
set_option maxHeartbeats 4000000 in
set_option maxRecDepth 100000 in
theorem c_Md_thrown (l : Launch) (Hs : Heap) (D : va_G) (cI cZ cL : ClassId) (h : Nat) (a1 : Nat) (a2 : Nat) (a3 : Nat) (a4 : Nat) (c1 : Nat) (b1 : Nat) (b2 : Nat) (c2 : Nat) (r1 : Nat) (r2 : Nat) (z1 : Nat) (n1 : Nat) (t1 : Nat) (th : Nat) (n : Nat) (wi : Nat) (bu : Nat) (L : Nat) (ax : Nat) (va : Nat) (sl : Nat) (me : Nat) (L2 : Nat) (mn : Nat) (cv : Int32) : kI l Hs D kcl (ty3 cI cZ cL) y_Md_thrown (mws y_Md_thrown b_Md_thrown 1 (Option.some Jvm.ClassFile.FieldType.int)) ({ frames := 0, cells := 0, slots := 0, locals := 0 } : Room) [.ref h] [(h, .inr (5, [.int (nI th), .int (nI n), .ref a1, .ref a2, .ref a3, .ref a4, .int (nI wi), .int (nI bu), .int (nI L), .ref c1, .int (nI ax), .int (nI va), .int (nI sl), .int cv, .int (nI me), .ref b1, .ref b2, .int (nI L2), .ref c2, .int (nI mn), .ref r1, .ref r2, .ref z1, .ref n1, .ref t1]))] (fun r w => r = nI th ∧ w = [(h, .inr (5, [.int (nI th), .int (nI n), .ref a1, .ref a2, .ref a3, .ref a4, .int (nI wi), .int (nI bu), .int (nI L), .ref c1, .int (nI ax), .int (nI va), .int (nI sl), .int cv, .int (nI me), .ref b1, .ref b2, .int (nI L2), .ref c2, .int (nI mn), .ref r1, .ref r2, .ref z1, .ref n1, .ref t1]))]) := by
  intro sz
  refine k_of (cc := b_Md_thrown) (maxL := 1) (ret := (Option.some Jvm.ClassFile.FieldType.int)) (by decide) rfl (Nat.le_of_ble_eq_true rfl) ?_
  intro p e s m args below meth c ls H locs A Q hQ hx hb hml hr hts hown hlk hnm hsz hAe hP hK hD hS hA hE hAH hl
  have ht : ∀ w ∈ mw, w.before args s = true := fun w h => hts w (List.mem_cons_of_mem _ h)
  have hl : lv_has ls 1 [(0, .ref h)] := hl
  refine lv_aload_n hx hb d_Md_thrown_0 rfl (lv_at hl 0 rfl) ?_
  refine va_get (D := D) (ci := 5) (v := .int (nI th)) (C := R_Md) (T := T_Md) (N := 25) hx hb ht u_Md hown hK hP 0 rfl rfl 0 (by decide) (ht _ wd_895) (fun _ h9 => h9) rfl d_Md_thrown_1 ?_
  exact k_reti hQ hx hb hr hlk hAe hK hP hD hS (Nat.le_of_ble_eq_true rfl) (Nat.le_of_ble_eq_true rfl) (Nat.le_of_ble_eq_true rfl) ⟨rfl, rfl⟩ d_Md_thrown_4
set_option maxHeartbeats 4000000 in
set_option maxRecDepth 100000 in
theorem c_Md_refuseA (l : Launch) (Hs : Heap) (D : va_G) (cI cZ cL : ClassId) (h : Nat) (a1 : Nat) (a2 : Nat) (a3 : Nat) (a4 : Nat) (c1 : Nat) (b1 : Nat) (b2 : Nat) (c2 : Nat) (r1 : Nat) (r2 : Nat) (z1 : Nat) (n1 : Nat) (t1 : Nat) (th : Nat) (n : Nat) (wi : Nat) (bu : Nat) (L : Nat) (ax : Nat) (va : Nat) (sl : Nat) (me : Nat) (L2 : Nat) (mn : Nat) (cv : Int32) (y : Nat) (z : Nat) : kI l Hs D kcl (ty3 cI cZ cL) y_Md_refuse (mws y_Md_refuse b_Md_refuse 4 (Option.some Jvm.ClassFile.FieldType.boolean)) ({ frames := 0, cells := 0, slots := 0, locals := 0 } : Room) [.ref h, .int (nI 1), .int (nI y), .int (nI z)] [(h, .inr (5, [.int (nI th), .int (nI n), .ref a1, .ref a2, .ref a3, .ref a4, .int (nI wi), .int (nI bu), .int (nI L), .ref c1, .int (nI ax), .int (nI va), .int (nI sl), .int cv, .int (nI me), .ref b1, .ref b2, .int (nI L2), .ref c2, .int (nI mn), .ref r1, .ref r2, .ref z1, .ref n1, .ref t1]))] (fun r w => r = nI 1 ∧ w = [(h, .inr (5, [.int (nI 1), .int (nI n), .ref a1, .ref a2, .ref a3, .ref a4, .int (nI wi), .int (nI bu), .int (nI L), .ref c1, .int (nI ax), .int (nI va), .int (nI sl), .int cv, .int (nI me), .ref b1, .ref b2, .int (nI L2), .ref c2, .int (nI mn), .ref r1, .ref r2, .ref z1, .ref n1, .ref t1]))]) := by
  intro sz
  refine k_of (cc := b_Md_refuse) (maxL := 4) (ret := (Option.some Jvm.ClassFile.FieldType.boolean)) (by decide) rfl (Nat.le_of_ble_eq_true rfl) ?_
  intro p e s m args below meth c ls H locs A Q hQ hx hb hml hr hts hown hlk hnm hsz hAe hP hK hD hS hA hE hAH hl
  have ht : ∀ w ∈ mw, w.before args s = true := fun w h => hts w (List.mem_cons_of_mem _ h)
  have hl : lv_has ls 4 [(0, .ref h), (1, .int (nI 1)), (2, .int (nI y)), (3, .int (nI z))] := hl
  refine lv_aload_n hx hb d_Md_refuse_0 rfl (lv_at hl 0 rfl) ?_
  refine lv_iload_n hx hb d_Md_refuse_1 rfl (lv_at hl 1 rfl) ?_
  refine wi_if_eq hx hb d_Md_refuse_2 rfl (by decide) (fun h => absurd h (by decide)) (fun _ => ?_)
  refine lv_iconst (v := nI 1) hx hb d_Md_refuse_5 (by decide) ?_
  refine lv_goto hx hb d_Md_refuse_6 rfl ?_
  refine va_put (D := D) (ci := 5) (v := .int (nI 1)) (ty := .int) (C := R_Md) (T := T_Md) (N := 25) hx hb ht u_Md t_Md t_Md_ok n_Md hown hK hP hD hS 0 rfl rfl 0 (by decide) (ht _ wd_895) (fun _ h9 => h9) rfl (by decide +kernel) rfl rfl (Nat.le_of_ble_eq_true rfl) d_Md_refuse_26 (fun H locs hP hD hS => ?_)
  have hP : va_P D kcl [(h, .inr (5, [.int (nI 1), .int (nI n), .ref a1, .ref a2, .ref a3, .ref a4, .int (nI wi), .int (nI bu), .int (nI L), .ref c1, .int (nI ax), .int (nI va), .int (nI sl), .int cv, .int (nI me), .ref b1, .ref b2, .int (nI L2), .ref c2, .int (nI mn), .ref r1, .ref r2, .ref z1, .ref n1, .ref t1]))] H := hP
  have hD : va_D A [(h, .inr (5, [.int (nI 1), .int (nI n), .ref a1, .ref a2, .ref a3, .ref a4, .int (nI wi), .int (nI bu), .int (nI L), .ref c1, .int (nI ax), .int (nI va), .int (nI sl), .int cv, .int (nI me), .ref b1, .ref b2, .int (nI L2), .ref c2, .int (nI mn), .ref r1, .ref r2, .ref z1, .ref n1, .ref t1]))] := hD
  refine lv_aload_n hx hb d_Md_refuse_29 rfl (lv_at hl 0 rfl) ?_
  refine va_get (D := D) (ci := 5) (v := .int (nI 1)) (C := R_Md) (T := T_Md) (N := 25) hx hb ht u_Md hown hK hP 0 rfl rfl 0 (by decide) (ht _ wd_895) (fun _ h9 => h9) rfl d_Md_refuse_30 ?_
  refine wi_if_le hx hb d_Md_refuse_33 rfl (by decide) (fun h => absurd h (by decide)) (fun _ => ?_)
  refine lv_iconst (v := nI 1) hx hb d_Md_refuse_36 (by decide) ?_
  refine lv_goto hx hb d_Md_refuse_37 rfl ?_
  exact k_retz hQ hx hb hr hlk hAe hK hP hD hS (Nat.le_of_ble_eq_true rfl) (Nat.le_of_ble_eq_true rfl) (Nat.le_of_ble_eq_true rfl) rfl ⟨rfl, rfl⟩ d_Md_refuse_41
set_option maxHeartbeats 4000000 in
set_option maxRecDepth 100000 in
theorem c_Md_refuseB (l : Launch) (Hs : Heap) (D : va_G) (cI cZ cL : ClassId) (h : Nat) (a1 : Nat) (a2 : Nat) (a3 : Nat) (a4 : Nat) (c1 : Nat) (b1 : Nat) (b2 : Nat) (c2 : Nat) (r1 : Nat) (r2 : Nat) (z1 : Nat) (n1 : Nat) (t1 : Nat) (th : Nat) (n : Nat) (wi : Nat) (bu : Nat) (L : Nat) (ax : Nat) (va : Nat) (sl : Nat) (me : Nat) (L2 : Nat) (mn : Nat) (cv : Int32) (z : Nat) : kI l Hs D kcl (ty3 cI cZ cL) y_Md_refuse (mws y_Md_refuse b_Md_refuse 4 (Option.some Jvm.ClassFile.FieldType.boolean)) ({ frames := 0, cells := 0, slots := 0, locals := 0 } : Room) [.ref h, .int (nI 0), .int (nI 1), .int (nI z)] [(h, .inr (5, [.int (nI th), .int (nI n), .ref a1, .ref a2, .ref a3, .ref a4, .int (nI wi), .int (nI bu), .int (nI L), .ref c1, .int (nI ax), .int (nI va), .int (nI sl), .int cv, .int (nI me), .ref b1, .ref b2, .int (nI L2), .ref c2, .int (nI mn), .ref r1, .ref r2, .ref z1, .ref n1, .ref t1]))] (fun r w => r = nI 1 ∧ w = [(h, .inr (5, [.int (nI 2), .int (nI n), .ref a1, .ref a2, .ref a3, .ref a4, .int (nI wi), .int (nI bu), .int (nI L), .ref c1, .int (nI ax), .int (nI va), .int (nI sl), .int cv, .int (nI me), .ref b1, .ref b2, .int (nI L2), .ref c2, .int (nI mn), .ref r1, .ref r2, .ref z1, .ref n1, .ref t1]))]) := by
  intro sz
  refine k_of (cc := b_Md_refuse) (maxL := 4) (ret := (Option.some Jvm.ClassFile.FieldType.boolean)) (by decide) rfl (Nat.le_of_ble_eq_true rfl) ?_
  intro p e s m args below meth c ls H locs A Q hQ hx hb hml hr hts hown hlk hnm hsz hAe hP hK hD hS hA hE hAH hl
  have ht : ∀ w ∈ mw, w.before args s = true := fun w h => hts w (List.mem_cons_of_mem _ h)
  have hl : lv_has ls 4 [(0, .ref h), (1, .int (nI 0)), (2, .int (nI 1)), (3, .int (nI z))] := hl
  refine lv_aload_n hx hb d_Md_refuse_0 rfl (lv_at hl 0 rfl) ?_
  refine lv_iload_n hx hb d_Md_refuse_1 rfl (lv_at hl 1 rfl) ?_
  refine wi_if_eq hx hb d_Md_refuse_2 rfl (by decide) (fun _ => ?_) (fun h => absurd h (by decide))
  refine lv_iload_n hx hb d_Md_refuse_9 rfl (lv_at hl 2 rfl) ?_
  refine wi_if_eq hx hb d_Md_refuse_10 rfl (by decide) (fun h => absurd h (by decide)) (fun _ => ?_)
  refine lv_iconst (v := nI 2) hx hb d_Md_refuse_13 (by decide) ?_
  refine lv_goto hx hb d_Md_refuse_14 rfl ?_
  refine va_put (D := D) (ci := 5) (v := .int (nI 2)) (ty := .int) (C := R_Md) (T := T_Md) (N := 25) hx hb ht u_Md t_Md t_Md_ok n_Md hown hK hP hD hS 0 rfl rfl 0 (by decide) (ht _ wd_895) (fun _ h9 => h9) rfl (by decide +kernel) rfl rfl (Nat.le_of_ble_eq_true rfl) d_Md_refuse_26 (fun H locs hP hD hS => ?_)
  have hP : va_P D kcl [(h, .inr (5, [.int (nI 2), .int (nI n), .ref a1, .ref a2, .ref a3, .ref a4, .int (nI wi), .int (nI bu), .int (nI L), .ref c1, .int (nI ax), .int (nI va), .int (nI sl), .int cv, .int (nI me), .ref b1, .ref b2, .int (nI L2), .ref c2, .int (nI mn), .ref r1, .ref r2, .ref z1, .ref n1, .ref t1]))] H := hP
  have hD : va_D A [(h, .inr (5, [.int (nI 2), .int (nI n), .ref a1, .ref a2, .ref a3, .ref a4, .int (nI wi), .int (nI bu), .int (nI L), .ref c1, .int (nI ax), .int (nI va), .int (nI sl), .int cv, .int (nI me), .ref b1, .ref b2, .int (nI L2), .ref c2, .int (nI mn), .ref r1, .ref r2, .ref z1, .ref n1, .ref t1]))] := hD
  refine lv_aload_n hx hb d_Md_refuse_29 rfl (lv_at hl 0 rfl) ?_
  refine va_get (D := D) (ci := 5) (v := .int (nI 2)) (C := R_Md) (T := T_Md) (N := 25) hx hb ht u_Md hown hK hP 0 rfl rfl 0 (by decide) (ht _ wd_895) (fun _ h9 => h9) rfl d_Md_refuse_30 ?_
  refine wi_if_le hx hb d_Md_refuse_33 rfl (by decide) (fun h => absurd h (by decide)) (fun _ => ?_)
  refine lv_iconst (v := nI 1) hx hb d_Md_refuse_36 (by decide) ?_
  refine lv_goto hx hb d_Md_refuse_37 rfl ?_
  exact k_retz hQ hx hb hr hlk hAe hK hP hD hS (Nat.le_of_ble_eq_true rfl) (Nat.le_of_ble_eq_true rfl) (Nat.le_of_ble_eq_true rfl) rfl ⟨rfl, rfl⟩ d_Md_refuse_41
set_option maxHeartbeats 4000000 in
set_option maxRecDepth 100000 in
theorem c_Md_refuseC (l : Launch) (Hs : Heap) (D : va_G) (cI cZ cL : ClassId) (h : Nat) (a1 : Nat) (a2 : Nat) (a3 : Nat) (a4 : Nat) (c1 : Nat) (b1 : Nat) (b2 : Nat) (c2 : Nat) (r1 : Nat) (r2 : Nat) (z1 : Nat) (n1 : Nat) (t1 : Nat) (th : Nat) (n : Nat) (wi : Nat) (bu : Nat) (L : Nat) (ax : Nat) (va : Nat) (sl : Nat) (me : Nat) (L2 : Nat) (mn : Nat) (cv : Int32) : kI l Hs D kcl (ty3 cI cZ cL) y_Md_refuse (mws y_Md_refuse b_Md_refuse 4 (Option.some Jvm.ClassFile.FieldType.boolean)) ({ frames := 0, cells := 0, slots := 0, locals := 0 } : Room) [.ref h, .int (nI 0), .int (nI 0), .int (nI 1)] [(h, .inr (5, [.int (nI th), .int (nI n), .ref a1, .ref a2, .ref a3, .ref a4, .int (nI wi), .int (nI bu), .int (nI L), .ref c1, .int (nI ax), .int (nI va), .int (nI sl), .int cv, .int (nI me), .ref b1, .ref b2, .int (nI L2), .ref c2, .int (nI mn), .ref r1, .ref r2, .ref z1, .ref n1, .ref t1]))] (fun r w => r = nI 1 ∧ w = [(h, .inr (5, [.int (nI 3), .int (nI n), .ref a1, .ref a2, .ref a3, .ref a4, .int (nI wi), .int (nI bu), .int (nI L), .ref c1, .int (nI ax), .int (nI va), .int (nI sl), .int cv, .int (nI me), .ref b1, .ref b2, .int (nI L2), .ref c2, .int (nI mn), .ref r1, .ref r2, .ref z1, .ref n1, .ref t1]))]) := by
  intro sz
  refine k_of (cc := b_Md_refuse) (maxL := 4) (ret := (Option.some Jvm.ClassFile.FieldType.boolean)) (by decide) rfl (Nat.le_of_ble_eq_true rfl) ?_
  intro p e s m args below meth c ls H locs A Q hQ hx hb hml hr hts hown hlk hnm hsz hAe hP hK hD hS hA hE hAH hl
  have ht : ∀ w ∈ mw, w.before args s = true := fun w h => hts w (List.mem_cons_of_mem _ h)
  have hl : lv_has ls 4 [(0, .ref h), (1, .int (nI 0)), (2, .int (nI 0)), (3, .int (nI 1))] := hl
  refine lv_aload_n hx hb d_Md_refuse_0 rfl (lv_at hl 0 rfl) ?_
  refine lv_iload_n hx hb d_Md_refuse_1 rfl (lv_at hl 1 rfl) ?_
  refine wi_if_eq hx hb d_Md_refuse_2 rfl (by decide) (fun _ => ?_) (fun h => absurd h (by decide))
  refine lv_iload_n hx hb d_Md_refuse_9 rfl (lv_at hl 2 rfl) ?_
  refine wi_if_eq hx hb d_Md_refuse_10 rfl (by decide) (fun _ => ?_) (fun h => absurd h (by decide))
  refine lv_iload_n hx hb d_Md_refuse_17 rfl (lv_at hl 3 rfl) ?_
  refine wi_if_eq hx hb d_Md_refuse_18 rfl (by decide) (fun h => absurd h (by decide)) (fun _ => ?_)
  refine lv_iconst (v := nI 3) hx hb d_Md_refuse_21 (by decide) ?_
  refine lv_goto hx hb d_Md_refuse_22 rfl ?_
  refine va_put (D := D) (ci := 5) (v := .int (nI 3)) (ty := .int) (C := R_Md) (T := T_Md) (N := 25) hx hb ht u_Md t_Md t_Md_ok n_Md hown hK hP hD hS 0 rfl rfl 0 (by decide) (ht _ wd_895) (fun _ h9 => h9) rfl (by decide +kernel) rfl rfl (Nat.le_of_ble_eq_true rfl) d_Md_refuse_26 (fun H locs hP hD hS => ?_)
  have hP : va_P D kcl [(h, .inr (5, [.int (nI 3), .int (nI n), .ref a1, .ref a2, .ref a3, .ref a4, .int (nI wi), .int (nI bu), .int (nI L), .ref c1, .int (nI ax), .int (nI va), .int (nI sl), .int cv, .int (nI me), .ref b1, .ref b2, .int (nI L2), .ref c2, .int (nI mn), .ref r1, .ref r2, .ref z1, .ref n1, .ref t1]))] H := hP
  have hD : va_D A [(h, .inr (5, [.int (nI 3), .int (nI n), .ref a1, .ref a2, .ref a3, .ref a4, .int (nI wi), .int (nI bu), .int (nI L), .ref c1, .int (nI ax), .int (nI va), .int (nI sl), .int cv, .int (nI me), .ref b1, .ref b2, .int (nI L2), .ref c2, .int (nI mn), .ref r1, .ref r2, .ref z1, .ref n1, .ref t1]))] := hD
  refine lv_aload_n hx hb d_Md_refuse_29 rfl (lv_at hl 0 rfl) ?_
  refine va_get (D := D) (ci := 5) (v := .int (nI 3)) (C := R_Md) (T := T_Md) (N := 25) hx hb ht u_Md hown hK hP 0 rfl rfl 0 (by decide) (ht _ wd_895) (fun _ h9 => h9) rfl d_Md_refuse_30 ?_
  refine wi_if_le hx hb d_Md_refuse_33 rfl (by decide) (fun h => absurd h (by decide)) (fun _ => ?_)
  refine lv_iconst (v := nI 1) hx hb d_Md_refuse_36 (by decide) ?_
  refine lv_goto hx hb d_Md_refuse_37 rfl ?_
  exact k_retz hQ hx hb hr hlk hAe hK hP hD hS (Nat.le_of_ble_eq_true rfl) (Nat.le_of_ble_eq_true rfl) (Nat.le_of_ble_eq_true rfl) rfl ⟨rfl, rfl⟩ d_Md_refuse_41
set_option maxHeartbeats 4000000 in
set_option maxRecDepth 100000 in
theorem c_Md_refuseD (l : Launch) (Hs : Heap) (D : va_G) (cI cZ cL : ClassId) (h : Nat) (a1 : Nat) (a2 : Nat) (a3 : Nat) (a4 : Nat) (c1 : Nat) (b1 : Nat) (b2 : Nat) (c2 : Nat) (r1 : Nat) (r2 : Nat) (z1 : Nat) (n1 : Nat) (t1 : Nat) (th : Nat) (n : Nat) (wi : Nat) (bu : Nat) (L : Nat) (ax : Nat) (va : Nat) (sl : Nat) (me : Nat) (L2 : Nat) (mn : Nat) (cv : Int32) : kI l Hs D kcl (ty3 cI cZ cL) y_Md_refuse (mws y_Md_refuse b_Md_refuse 4 (Option.some Jvm.ClassFile.FieldType.boolean)) ({ frames := 0, cells := 0, slots := 0, locals := 0 } : Room) [.ref h, .int (nI 0), .int (nI 0), .int (nI 0)] [(h, .inr (5, [.int (nI th), .int (nI n), .ref a1, .ref a2, .ref a3, .ref a4, .int (nI wi), .int (nI bu), .int (nI L), .ref c1, .int (nI ax), .int (nI va), .int (nI sl), .int cv, .int (nI me), .ref b1, .ref b2, .int (nI L2), .ref c2, .int (nI mn), .ref r1, .ref r2, .ref z1, .ref n1, .ref t1]))] (fun r w => r = nI 0 ∧ w = [(h, .inr (5, [.int (nI 0), .int (nI n), .ref a1, .ref a2, .ref a3, .ref a4, .int (nI wi), .int (nI bu), .int (nI L), .ref c1, .int (nI ax), .int (nI va), .int (nI sl), .int cv, .int (nI me), .ref b1, .ref b2, .int (nI L2), .ref c2, .int (nI mn), .ref r1, .ref r2, .ref z1, .ref n1, .ref t1]))]) := by
  intro sz
  refine k_of (cc := b_Md_refuse) (maxL := 4) (ret := (Option.some Jvm.ClassFile.FieldType.boolean)) (by decide) rfl (Nat.le_of_ble_eq_true rfl) ?_
  intro p e s m args below meth c ls H locs A Q hQ hx hb hml hr hts hown hlk hnm hsz hAe hP hK hD hS hA hE hAH hl
  have ht : ∀ w ∈ mw, w.before args s = true := fun w h => hts w (List.mem_cons_of_mem _ h)
  have hl : lv_has ls 4 [(0, .ref h), (1, .int (nI 0)), (2, .int (nI 0)), (3, .int (nI 0))] := hl
  refine lv_aload_n hx hb d_Md_refuse_0 rfl (lv_at hl 0 rfl) ?_
  refine lv_iload_n hx hb d_Md_refuse_1 rfl (lv_at hl 1 rfl) ?_
  refine wi_if_eq hx hb d_Md_refuse_2 rfl (by decide) (fun _ => ?_) (fun h => absurd h (by decide))
  refine lv_iload_n hx hb d_Md_refuse_9 rfl (lv_at hl 2 rfl) ?_
  refine wi_if_eq hx hb d_Md_refuse_10 rfl (by decide) (fun _ => ?_) (fun h => absurd h (by decide))
  refine lv_iload_n hx hb d_Md_refuse_17 rfl (lv_at hl 3 rfl) ?_
  refine wi_if_eq hx hb d_Md_refuse_18 rfl (by decide) (fun _ => ?_) (fun h => absurd h (by decide))
  refine lv_iconst (v := nI 0) hx hb d_Md_refuse_25 (by decide) ?_
  refine va_put (D := D) (ci := 5) (v := .int (nI 0)) (ty := .int) (C := R_Md) (T := T_Md) (N := 25) hx hb ht u_Md t_Md t_Md_ok n_Md hown hK hP hD hS 0 rfl rfl 0 (by decide) (ht _ wd_895) (fun _ h9 => h9) rfl (by decide +kernel) rfl rfl (Nat.le_of_ble_eq_true rfl) d_Md_refuse_26 (fun H locs hP hD hS => ?_)
  have hP : va_P D kcl [(h, .inr (5, [.int (nI 0), .int (nI n), .ref a1, .ref a2, .ref a3, .ref a4, .int (nI wi), .int (nI bu), .int (nI L), .ref c1, .int (nI ax), .int (nI va), .int (nI sl), .int cv, .int (nI me), .ref b1, .ref b2, .int (nI L2), .ref c2, .int (nI mn), .ref r1, .ref r2, .ref z1, .ref n1, .ref t1]))] H := hP
  have hD : va_D A [(h, .inr (5, [.int (nI 0), .int (nI n), .ref a1, .ref a2, .ref a3, .ref a4, .int (nI wi), .int (nI bu), .int (nI L), .ref c1, .int (nI ax), .int (nI va), .int (nI sl), .int cv, .int (nI me), .ref b1, .ref b2, .int (nI L2), .ref c2, .int (nI mn), .ref r1, .ref r2, .ref z1, .ref n1, .ref t1]))] := hD
  refine lv_aload_n hx hb d_Md_refuse_29 rfl (lv_at hl 0 rfl) ?_
  refine va_get (D := D) (ci := 5) (v := .int (nI 0)) (C := R_Md) (T := T_Md) (N := 25) hx hb ht u_Md hown hK hP 0 rfl rfl 0 (by decide) (ht _ wd_895) (fun _ h9 => h9) rfl d_Md_refuse_30 ?_
  refine wi_if_le hx hb d_Md_refuse_33 rfl (by decide) (fun _ => ?_) (fun h => absurd h (by decide))
  refine lv_iconst (v := nI 0) hx hb d_Md_refuse_40 (by decide) ?_
  exact k_retz hQ hx hb hr hlk hAe hK hP hD hS (Nat.le_of_ble_eq_true rfl) (Nat.le_of_ble_eq_true rfl) (Nat.le_of_ble_eq_true rfl) rfl ⟨rfl, rfl⟩ d_Md_refuse_41
set_option maxHeartbeats 4000000 in
set_option maxRecDepth 100000 in
theorem c_Md_in1 (l : Launch) (Hs : Heap) (D : va_G) (cI cZ cL : ClassId) (x : Int32) (lo : Int32) (hi : Int32) (hq1 : ¬ x < lo) (hq2 : ¬ hi < x) : kI l Hs D kcl (ty3 cI cZ cL) y_Md_in (mws y_Md_in b_Md_in 3 (Option.some Jvm.ClassFile.FieldType.boolean)) ({ frames := 0, cells := 0, slots := 0, locals := 0 } : Room) [.int x, .int lo, .int hi] [] (fun r w => r = nI 1 ∧ w = []) := by
  intro sz
  refine k_of (cc := b_Md_in) (maxL := 3) (ret := (Option.some Jvm.ClassFile.FieldType.boolean)) (by decide) rfl (Nat.le_of_ble_eq_true rfl) ?_
  intro p e s m args below meth c ls H locs A Q hQ hx hb hml hr hts hown hlk hnm hsz hAe hP hK hD hS hA hE hAH hl
  have ht : ∀ w ∈ mw, w.before args s = true := fun w h => hts w (List.mem_cons_of_mem _ h)
  have hl : lv_has ls 3 [(0, .int x), (1, .int lo), (2, .int hi)] := hl
  refine lv_iload_n hx hb d_Md_in_0 rfl (lv_at hl 0 rfl) ?_
  refine lv_iload_n hx hb d_Md_in_1 rfl (lv_at hl 1 rfl) ?_
  refine lv_icmp_lt hx hb d_Md_in_2 rfl (fun h2 => ?_) (fun h2 => ?_)
  · exact absurd h2 hq1
  · refine lv_iload_n hx hb d_Md_in_5 rfl (lv_at hl 0 rfl) ?_
    refine lv_iload_n hx hb d_Md_in_6 rfl (lv_at hl 2 rfl) ?_
    refine lv_icmp_gt hx hb d_Md_in_7 rfl (fun h7 => ?_) (fun h7 => ?_)
    · exact absurd h7 hq2
    · refine lv_iconst (v := nI 1) hx hb d_Md_in_10 (by decide) ?_
      refine lv_goto hx hb d_Md_in_11 rfl ?_
      exact k_retz hQ hx hb hr hlk hAe hK hP hD hS (Nat.le_of_ble_eq_true rfl) (Nat.le_of_ble_eq_true rfl) (Nat.le_of_ble_eq_true rfl) rfl ⟨rfl, rfl⟩ d_Md_in_15
set_option maxHeartbeats 4000000 in
set_option maxRecDepth 100000 in
theorem c_Md_in0 (l : Launch) (Hs : Heap) (D : va_G) (cI cZ cL : ClassId) (x : Int32) (lo : Int32) (hi : Int32) (hno : x < lo ∨ hi < x) : kI l Hs D kcl (ty3 cI cZ cL) y_Md_in (mws y_Md_in b_Md_in 3 (Option.some Jvm.ClassFile.FieldType.boolean)) ({ frames := 0, cells := 0, slots := 0, locals := 0 } : Room) [.int x, .int lo, .int hi] [] (fun r w => r = nI 0 ∧ w = []) := by
  intro sz
  refine k_of (cc := b_Md_in) (maxL := 3) (ret := (Option.some Jvm.ClassFile.FieldType.boolean)) (by decide) rfl (Nat.le_of_ble_eq_true rfl) ?_
  intro p e s m args below meth c ls H locs A Q hQ hx hb hml hr hts hown hlk hnm hsz hAe hP hK hD hS hA hE hAH hl
  have ht : ∀ w ∈ mw, w.before args s = true := fun w h => hts w (List.mem_cons_of_mem _ h)
  have hl : lv_has ls 3 [(0, .int x), (1, .int lo), (2, .int hi)] := hl
  refine lv_iload_n hx hb d_Md_in_0 rfl (lv_at hl 0 rfl) ?_
  refine lv_iload_n hx hb d_Md_in_1 rfl (lv_at hl 1 rfl) ?_
  refine lv_icmp_lt hx hb d_Md_in_2 rfl (fun h2 => ?_) (fun h2 => ?_)
  · refine lv_iconst (v := nI 0) hx hb d_Md_in_14 (by decide) ?_
    exact k_retz hQ hx hb hr hlk hAe hK hP hD hS (Nat.le_of_ble_eq_true rfl) (Nat.le_of_ble_eq_true rfl) (Nat.le_of_ble_eq_true rfl) rfl ⟨rfl, rfl⟩ d_Md_in_15
  · refine lv_iload_n hx hb d_Md_in_5 rfl (lv_at hl 0 rfl) ?_
    refine lv_iload_n hx hb d_Md_in_6 rfl (lv_at hl 2 rfl) ?_
    refine lv_icmp_gt hx hb d_Md_in_7 rfl (fun h7 => ?_) (fun h7 => ?_)
    · refine lv_iconst (v := nI 0) hx hb d_Md_in_14 (by decide) ?_
      exact k_retz hQ hx hb hr hlk hAe hK hP hD hS (Nat.le_of_ble_eq_true rfl) (Nat.le_of_ble_eq_true rfl) (Nat.le_of_ble_eq_true rfl) rfl ⟨rfl, rfl⟩ d_Md_in_15
    · rcases hno with h | h; exact absurd h h2; exact absurd h h7
/-- the last place of that number; 0 if there is none, else one more -/
def pw_fl (f : Nat → Nat) (n : Nat) (x : Int32) (r : Nat) : Prop := (r = 0 ∧ ∀ t, t < n → nI (f t) ≠ x) ∨ ∃ i, i < n ∧ r = i + 1 ∧ nI (f i) = x
theorem pw_fl_y {f : Nat → Nat} {n : Nat} {x : Int32} (h : nI (f n) = x) : pw_fl f (n + 1) x (n + 1) := Or.inr ⟨n, by omega, rfl, h⟩
theorem pw_fl_n {f : Nat → Nat} {n r : Nat} {x : Int32} (hf : pw_fl f n x r) (h : ¬ nI (f n) = x) : pw_fl f (n + 1) x r := by
  rcases hf with ⟨h1, h2⟩ | ⟨i, h1, h2, h3⟩
  · exact Or.inl ⟨h1, lt_s h2 h⟩
  · exact Or.inr ⟨i, by omega, h2, h3⟩
theorem pw_fl_0 {f : Nat → Nat} {x : Int32} : pw_fl f 0 x 0 := Or.inl ⟨rfl, fun t h => absurd h (Nat.not_lt_zero t)⟩
set_option maxHeartbeats 4000000 in
set_option maxRecDepth 100000 in
theorem c_Md_find (l : Launch) (Hs : Heap) (D : va_G) (cI cZ cL : ClassId) (h : Nat) (a1 : Nat) (a2 : Nat) (a3 : Nat) (a4 : Nat) (c1 : Nat) (b1 : Nat) (b2 : Nat) (c2 : Nat) (r1 : Nat) (r2 : Nat) (z1 : Nat) (n1 : Nat) (t1 : Nat) (th : Nat) (n : Nat) (wi : Nat) (bu : Nat) (L : Nat) (ax : Nat) (va : Nat) (sl : Nat) (me : Nat) (L2 : Nat) (mn : Nat) (cv : Int32) (f1 : Nat → Nat) (x : Int32) (hn : n ≤ 10) : kI l Hs D kcl (ty3 cI cZ cL) y_Md_find (mws y_Md_find b_Md_find 4 (Option.some Jvm.ClassFile.FieldType.int)) ({ frames := 0, cells := 0, slots := 0, locals := 0 } : Room) [.ref h, .int x] [(h, .inr (5, [.int (nI th), .int (nI n), .ref a1, .ref a2, .ref a3, .ref a4, .int (nI wi), .int (nI bu), .int (nI L), .ref c1, .int (nI ax), .int (nI va), .int (nI sl), .int cv, .int (nI me), .ref b1, .ref b2, .int (nI L2), .ref c2, .int (nI mn), .ref r1, .ref r2, .ref z1, .ref n1, .ref t1])), (a1, .inl (cI, 10, .inl (wA f1)))] (fun r w => ∃ (r0 : Nat), (pw_fl f1 n x r0) ∧ r = oI r0 ∧ w = [(h, .inr (5, [.int (nI th), .int (nI n), .ref a1, .ref a2, .ref a3, .ref a4, .int (nI wi), .int (nI bu), .int (nI L), .ref c1, .int (nI ax), .int (nI va), .int (nI sl), .int cv, .int (nI me), .ref b1, .ref b2, .int (nI L2), .ref c2, .int (nI mn), .ref r1, .ref r2, .ref z1, .ref n1, .ref t1])), (a1, .inl (cI, 10, .inl (wA f1)))]) := by
  intro sz
  refine k_of (cc := b_Md_find) (maxL := 4) (ret := (Option.some Jvm.ClassFile.FieldType.int)) (by decide) rfl (Nat.le_of_ble_eq_true rfl) ?_
  intro p e s m args below meth c ls H locs A Q hQ hx hb hml hr hts hown hlk hnm hsz hAe hP hK hD hS hA hE hAH hl
  have ht : ∀ w ∈ mw, w.before args s = true := fun w h => hts w (List.mem_cons_of_mem _ h)
  have hl : lv_has ls 4 [(0, .ref h), (1, .int x)] := hl
  refine lv_iconst (v := -1) hx hb d_Md_find_0 (by decide) ?_
  refine lv_istore_n (lv' := [(2, .int (oI 0)), (0, .ref h), (1, .int x)]) hx hb d_Md_find_1 rfl hl (by decide) rfl (fun ls hl => ?_)
  refine lv_iconst (v := nI 0) hx hb d_Md_find_2 (by decide) ?_
  refine lv_istore_n (lv' := [(3, .int (nI 0)), (2, .int (oI 0)), (0, .ref h), (1, .int x)]) hx hb d_Md_find_3 rfl hl (by decide) rfl (fun ls hl => ?_)
  have loop4 : ∀ (d : Nat) (k : Nat) (r : Nat) (ls : Array Slot) (H : Heap) (locs : List Loc), n - k = d → (k ≤ n) → (pw_fl f1 k x r) → lv_has ls 4 [(0, .ref h), (1, .int x), (2, .int (oI r)), (3, .int (nI k))] → va_P D kcl [(h, .inr (5, [.int (nI th), .int (nI n), .ref a1, .ref a2, .ref a3, .ref a4, .int (nI wi), .int (nI bu), .int (nI L), .ref c1, .int (nI ax), .int (nI va), .int (nI sl), .int cv, .int (nI me), .ref b1, .ref b2, .int (nI L2), .ref c2, .int (nI mn), .ref r1, .ref r2, .ref z1, .ref n1, .ref t1])), (a1, .inl (cI, 10, .inl (wA f1)))] H → va_D A [(h, .inr (5, [.int (nI th), .int (nI n), .ref a1, .ref a2, .ref a3, .ref a4, .int (nI wi), .int (nI bu), .int (nI L), .ref c1, .int (nI ax), .int (nI va), .int (nI sl), .int cv, .int (nI me), .ref b1, .ref b2, .int (nI L2), .ref c2, .int (nI mn), .ref r1, .ref r2, .ref z1, .ref n1, .ref t1])), (a1, .inl (cI, 10, .inl (wA f1)))] → va_S A s.heap H locs → W p l e ({ frames := 0, cells := 0, slots := 0, locals := 0 } : Room) s m args below meth c H locs 0 0 Q (F0 m 4 ls []) := by
    intro d
    induction d using Nat.strongRecOn with
    | ind d ih4 =>
      intro k r ls H locs hd4 hk hf hl hP hD hS
      refine lv_iload_n hx hb d_Md_find_4 rfl (lv_at hl 3 rfl) ?_
      refine lv_aload_n hx hb d_Md_find_5 rfl (lv_at hl 0 rfl) ?_
      refine va_get (D := D) (ci := 5) (v := .int (nI n)) (C := R_Md) (T := T_Md) (N := 25) hx hb ht u_Md hown hK hP 0 rfl rfl 1 (by decide) (ht _ wd_896) (fun _ h9 => h9) rfl d_Md_find_6 ?_
      refine wi_ge hx hb d_Md_find_9 rfl (by omega) (by omega) (fun h9 => ?_) (fun h9 => ?_)
      · obtain rfl : n = k := by omega
        refine lv_iload_n hx hb d_Md_find_34 rfl (lv_at hl 2 rfl) ?_
        exact k_reti hQ hx hb hr hlk hAe hK hP hD hS (Nat.le_of_ble_eq_true rfl) (Nat.le_of_ble_eq_true rfl) (Nat.le_of_ble_eq_true rfl) ⟨r, hf, rfl, rfl⟩ d_Md_find_35
      · refine lv_aload_n hx hb d_Md_find_12 rfl (lv_at hl 0 rfl) ?_
        refine va_get (D := D) (ci := 5) (v := .ref a1) (C := R_Md) (T := T_Md) (N := 25) hx hb ht u_Md hown hK hP 0 rfl rfl 2 (by decide) (ht _ wd_897) (fun _ h9 => h9) rfl d_Md_find_13 ?_
        refine lv_iload_n hx hb d_Md_find_16 rfl (lv_at hl 3 rfl) ?_
        refine wi_ald hx hb hK hP 1 0 rfl rfl (by omega) (by omega) d_Md_find_17 ?_
        refine lv_iload_n hx hb d_Md_find_18 rfl (lv_at hl 1 rfl) ?_
        refine lv_icmp_ne hx hb d_Md_find_19 rfl (fun h19 => ?_) (fun h19 => ?_)
        · refine lv_iload_n hx hb d_Md_find_26 rfl (lv_at hl 2 rfl) ?_
          refine lv_istore_n (lv' := [(2, .int (oI r)), (0, .ref h), (1, .int x), (3, .int (nI k))]) hx hb d_Md_find_27 rfl hl (by decide) rfl (fun ls hl => ?_)
          refine wi_inc (k := 3) (lv' := [(3, .int (nI (k + 1))), (2, .int (oI r)), (0, .ref h), (1, .int x)]) hx hb d_Md_find_28 hl rfl (by decide) rfl (fun ls hl => ?_)
          refine lv_goto hx hb d_Md_find_31 rfl ?_
          exact ih4 (n - (k + 1)) (by omega) (k + 1) (r) ls H locs rfl (by omega) (pw_fl_n hf h19) (lv_sub hl [2, 3, 1, 0] rfl) hP hD hS
        · refine lv_iload_n hx hb d_Md_find_22 rfl (lv_at hl 3 rfl) ?_
          refine lv_goto hx hb d_Md_find_23 rfl ?_
          refine lv_istore_n (lv' := [(2, .int (oI (k + 1))), (0, .ref h), (1, .int x), (3, .int (nI k))]) hx hb d_Md_find_27 rfl hl (by decide) rfl (fun ls hl => ?_)
          refine wi_inc (k := 3) (lv' := [(3, .int (nI (k + 1))), (2, .int (oI (k + 1))), (0, .ref h), (1, .int x)]) hx hb d_Md_find_28 hl rfl (by decide) rfl (fun ls hl => ?_)
          refine lv_goto hx hb d_Md_find_31 rfl ?_
          exact ih4 (n - (k + 1)) (by omega) (k + 1) (k + 1) ls H locs rfl (by omega) (pw_fl_y h19) (lv_sub hl [2, 3, 1, 0] rfl) hP hD hS
  exact loop4 _ (0) (0) ls H locs rfl (Nat.zero_le _) pw_fl_0 (lv_sub hl [2, 3, 1, 0] rfl) hP hD hS
set_option maxHeartbeats 4000000 in
set_option maxRecDepth 100000 in
theorem c_Md_find0 (l : Launch) (Hs : Heap) (D : va_G) (cI cZ cL : ClassId) (h : Nat) (a1 : Nat) (a2 : Nat) (a3 : Nat) (a4 : Nat) (c1 : Nat) (b1 : Nat) (b2 : Nat) (c2 : Nat) (r1 : Nat) (r2 : Nat) (z1 : Nat) (n1 : Nat) (t1 : Nat) (th : Nat) (n : Nat) (wi : Nat) (bu : Nat) (L : Nat) (ax : Nat) (va : Nat) (sl : Nat) (me : Nat) (L2 : Nat) (mn : Nat) (cv : Int32) (f1 : Nat → Nat) (x : Int32) (hn : n ≤ 10) (hno : ∀ t, t < n → nI (f1 t) ≠ x) : kI l Hs D kcl (ty3 cI cZ cL) y_Md_find (mws y_Md_find b_Md_find 4 (Option.some Jvm.ClassFile.FieldType.int)) ({ frames := 0, cells := 0, slots := 0, locals := 0 } : Room) [.ref h, .int x] [(h, .inr (5, [.int (nI th), .int (nI n), .ref a1, .ref a2, .ref a3, .ref a4, .int (nI wi), .int (nI bu), .int (nI L), .ref c1, .int (nI ax), .int (nI va), .int (nI sl), .int cv, .int (nI me), .ref b1, .ref b2, .int (nI L2), .ref c2, .int (nI mn), .ref r1, .ref r2, .ref z1, .ref n1, .ref t1])), (a1, .inl (cI, 10, .inl (wA f1)))] (fun r w => r = (-1) ∧ w = [(h, .inr (5, [.int (nI th), .int (nI n), .ref a1, .ref a2, .ref a3, .ref a4, .int (nI wi), .int (nI bu), .int (nI L), .ref c1, .int (nI ax), .int (nI va), .int (nI sl), .int cv, .int (nI me), .ref b1, .ref b2, .int (nI L2), .ref c2, .int (nI mn), .ref r1, .ref r2, .ref z1, .ref n1, .ref t1])), (a1, .inl (cI, 10, .inl (wA f1)))]) := by
  intro sz
  refine k_of (cc := b_Md_find) (maxL := 4) (ret := (Option.some Jvm.ClassFile.FieldType.int)) (by decide) rfl (Nat.le_of_ble_eq_true rfl) ?_
  intro p e s m args below meth c ls H locs A Q hQ hx hb hml hr hts hown hlk hnm hsz hAe hP hK hD hS hA hE hAH hl
  have ht : ∀ w ∈ mw, w.before args s = true := fun w h => hts w (List.mem_cons_of_mem _ h)
  have hl : lv_has ls 4 [(0, .ref h), (1, .int x)] := hl
  refine lv_iconst (v := -1) hx hb d_Md_find_0 (by decide) ?_
  refine lv_istore_n (lv' := [(2, .int ((-1))), (0, .ref h), (1, .int x)]) hx hb d_Md_find_1 rfl hl (by decide) rfl (fun ls hl => ?_)
  refine lv_iconst (v := nI 0) hx hb d_Md_find_2 (by decide) ?_
  refine lv_istore_n (lv' := [(3, .int (nI 0)), (2, .int ((-1))), (0, .ref h), (1, .int x)]) hx hb d_Md_find_3 rfl hl (by decide) rfl (fun ls hl => ?_)
  have loop4 : ∀ (d : Nat) (k : Nat) (ls : Array Slot) (H : Heap) (locs : List Loc), n - k = d → (k ≤ n) → lv_has ls 4 [(0, .ref h), (1, .int x), (2, .int ((-1))), (3, .int (nI k))] → va_P D kcl [(h, .inr (5, [.int (nI th), .int (nI n), .ref a1, .ref a2, .ref a3, .ref a4, .int (nI wi), .int (nI bu), .int (nI L), .ref c1, .int (nI ax), .int (nI va), .int (nI sl), .int cv, .int (nI me), .ref b1, .ref b2, .int (nI L2), .ref c2, .int (nI mn), .ref r1, .ref r2, .ref z1, .ref n1, .ref t1])), (a1, .inl (cI, 10, .inl (wA f1)))] H → va_D A [(h, .inr (5, [.int (nI th), .int (nI n), .ref a1, .ref a2, .ref a3, .ref a4, .int (nI wi), .int (nI bu), .int (nI L), .ref c1, .int (nI ax), .int (nI va), .int (nI sl), .int cv, .int (nI me), .ref b1, .ref b2, .int (nI L2), .ref c2, .int (nI mn), .ref r1, .ref r2, .ref z1, .ref n1, .ref t1])), (a1, .inl (cI, 10, .inl (wA f1)))] → va_S A s.heap H locs → W p l e ({ frames := 0, cells := 0, slots := 0, locals := 0 } : Room) s m args below meth c H locs 0 0 Q (F0 m 4 ls []) := by
    intro d
    induction d using Nat.strongRecOn with
    | ind d ih4 =>
      intro k ls H locs hd4 hk hl hP hD hS
      refine lv_iload_n hx hb d_Md_find_4 rfl (lv_at hl 3 rfl) ?_
      refine lv_aload_n hx hb d_Md_find_5 rfl (lv_at hl 0 rfl) ?_
      refine va_get (D := D) (ci := 5) (v := .int (nI n)) (C := R_Md) (T := T_Md) (N := 25) hx hb ht u_Md hown hK hP 0 rfl rfl 1 (by decide) (ht _ wd_896) (fun _ h9 => h9) rfl d_Md_find_6 ?_
      refine wi_ge hx hb d_Md_find_9 rfl (by omega) (by omega) (fun h9 => ?_) (fun h9 => ?_)
      · refine lv_iload_n hx hb d_Md_find_34 rfl (lv_at hl 2 rfl) ?_
        exact k_reti hQ hx hb hr hlk hAe hK hP hD hS (Nat.le_of_ble_eq_true rfl) (Nat.le_of_ble_eq_true rfl) (Nat.le_of_ble_eq_true rfl) ⟨rfl, rfl⟩ d_Md_find_35
      · refine lv_aload_n hx hb d_Md_find_12 rfl (lv_at hl 0 rfl) ?_
        refine va_get (D := D) (ci := 5) (v := .ref a1) (C := R_Md) (T := T_Md) (N := 25) hx hb ht u_Md hown hK hP 0 rfl rfl 2 (by decide) (ht _ wd_897) (fun _ h9 => h9) rfl d_Md_find_13 ?_
        refine lv_iload_n hx hb d_Md_find_16 rfl (lv_at hl 3 rfl) ?_
        refine wi_ald hx hb hK hP 1 0 rfl rfl (by omega) (by omega) d_Md_find_17 ?_
        refine lv_iload_n hx hb d_Md_find_18 rfl (lv_at hl 1 rfl) ?_
        refine lv_icmp_ne hx hb d_Md_find_19 rfl (fun h19 => ?_) (fun h19 => ?_)
        · refine lv_iload_n hx hb d_Md_find_26 rfl (lv_at hl 2 rfl) ?_
          refine lv_istore_n (lv' := [(2, .int ((-1))), (0, .ref h), (1, .int x), (3, .int (nI k))]) hx hb d_Md_find_27 rfl hl (by decide) rfl (fun ls hl => ?_)
          refine wi_inc (k := 3) (lv' := [(3, .int (nI (k + 1))), (2, .int ((-1))), (0, .ref h), (1, .int x)]) hx hb d_Md_find_28 hl rfl (by decide) rfl (fun ls hl => ?_)
          refine lv_goto hx hb d_Md_find_31 rfl ?_
          exact ih4 (n - (k + 1)) (by omega) (k + 1) ls H locs rfl (by omega) (lv_sub hl [2, 3, 1, 0] rfl) hP hD hS
        · exact absurd h19 (hno k h9)
  exact loop4 _ (0) ls H locs rfl (Nat.zero_le _) (lv_sub hl [2, 3, 1, 0] rfl) hP hD hS
set_option maxHeartbeats 4000000 in
set_option maxRecDepth 100000 in
theorem c_Md_find1 (l : Launch) (Hs : Heap) (D : va_G) (cI cZ cL : ClassId) (h : Nat) (a1 : Nat) (a2 : Nat) (a3 : Nat) (a4 : Nat) (c1 : Nat) (b1 : Nat) (b2 : Nat) (c2 : Nat) (r1 : Nat) (r2 : Nat) (z1 : Nat) (n1 : Nat) (t1 : Nat) (th : Nat) (n : Nat) (wi : Nat) (bu : Nat) (L : Nat) (ax : Nat) (va : Nat) (sl : Nat) (me : Nat) (L2 : Nat) (mn : Nat) (cv : Int32) (f1 : Nat → Nat) (i : Nat) (v : Nat) (hn : n ≤ 10) (hi : i < n) (hv : f1 i = v) (hid : ∀ t, t < n → f1 t < 2 ^ 31) (hinj : ∀ i j, i < n → j < n → f1 i = f1 j → i = j) : kI l Hs D kcl (ty3 cI cZ cL) y_Md_find (mws y_Md_find b_Md_find 4 (Option.some Jvm.ClassFile.FieldType.int)) ({ frames := 0, cells := 0, slots := 0, locals := 0 } : Room) [.ref h, .int (nI v)] [(h, .inr (5, [.int (nI th), .int (nI n), .ref a1, .ref a2, .ref a3, .ref a4, .int (nI wi), .int (nI bu), .int (nI L), .ref c1, .int (nI ax), .int (nI va), .int (nI sl), .int cv, .int (nI me), .ref b1, .ref b2, .int (nI L2), .ref c2, .int (nI mn), .ref r1, .ref r2, .ref z1, .ref n1, .ref t1])), (a1, .inl (cI, 10, .inl (wA f1)))] (fun r w => r = nI i ∧ w = [(h, .inr (5, [.int (nI th), .int (nI n), .ref a1, .ref a2, .ref a3, .ref a4, .int (nI wi), .int (nI bu), .int (nI L), .ref c1, .int (nI ax), .int (nI va), .int (nI sl), .int cv, .int (nI me), .ref b1, .ref b2, .int (nI L2), .ref c2, .int (nI mn), .ref r1, .ref r2, .ref z1, .ref n1, .ref t1])), (a1, .inl (cI, 10, .inl (wA f1)))]) := by
  intro sz
  refine k_of (cc := b_Md_find) (maxL := 4) (ret := (Option.some Jvm.ClassFile.FieldType.int)) (by decide) rfl (Nat.le_of_ble_eq_true rfl) ?_
  intro p e s m args below meth c ls H locs A Q hQ hx hb hml hr hts hown hlk hnm hsz hAe hP hK hD hS hA hE hAH hl
  have ht : ∀ w ∈ mw, w.before args s = true := fun w h => hts w (List.mem_cons_of_mem _ h)
  have hl : lv_has ls 4 [(0, .ref h), (1, .int (nI v))] := hl
  refine lv_iconst (v := -1) hx hb d_Md_find_0 (by decide) ?_
  refine lv_istore_n (lv' := [(2, .int (oI 0)), (0, .ref h), (1, .int (nI v))]) hx hb d_Md_find_1 rfl hl (by decide) rfl (fun ls hl => ?_)
  refine lv_iconst (v := nI 0) hx hb d_Md_find_2 (by decide) ?_
  refine lv_istore_n (lv' := [(3, .int (nI 0)), (2, .int (oI 0)), (0, .ref h), (1, .int (nI v))]) hx hb d_Md_find_3 rfl hl (by decide) rfl (fun ls hl => ?_)
  have loop4 : ∀ (d : Nat) (k : Nat) (r : Nat) (ls : Array Slot) (H : Heap) (locs : List Loc), n - k = d → (k ≤ n) → (pw_fl f1 k (nI v) r) → lv_has ls 4 [(0, .ref h), (1, .int (nI v)), (2, .int (oI r)), (3, .int (nI k))] → va_P D kcl [(h, .inr (5, [.int (nI th), .int (nI n), .ref a1, .ref a2, .ref a3, .ref a4, .int (nI wi), .int (nI bu), .int (nI L), .ref c1, .int (nI ax), .int (nI va), .int (nI sl), .int cv, .int (nI me), .ref b1, .ref b2, .int (nI L2), .ref c2, .int (nI mn), .ref r1, .ref r2, .ref z1, .ref n1, .ref t1])), (a1, .inl (cI, 10, .inl (wA f1)))] H → va_D A [(h, .inr (5, [.int (nI th), .int (nI n), .ref a1, .ref a2, .ref a3, .ref a4, .int (nI wi), .int (nI bu), .int (nI L), .ref c1, .int (nI ax), .int (nI va), .int (nI sl), .int cv, .int (nI me), .ref b1, .ref b2, .int (nI L2), .ref c2, .int (nI mn), .ref r1, .ref r2, .ref z1, .ref n1, .ref t1])), (a1, .inl (cI, 10, .inl (wA f1)))] → va_S A s.heap H locs → W p l e ({ frames := 0, cells := 0, slots := 0, locals := 0 } : Room) s m args below meth c H locs 0 0 Q (F0 m 4 ls []) := by
    intro d
    induction d using Nat.strongRecOn with
    | ind d ih4 =>
      intro k r ls H locs hd4 hk hf hl hP hD hS
      refine lv_iload_n hx hb d_Md_find_4 rfl (lv_at hl 3 rfl) ?_
      refine lv_aload_n hx hb d_Md_find_5 rfl (lv_at hl 0 rfl) ?_
      refine va_get (D := D) (ci := 5) (v := .int (nI n)) (C := R_Md) (T := T_Md) (N := 25) hx hb ht u_Md hown hK hP 0 rfl rfl 1 (by decide) (ht _ wd_896) (fun _ h9 => h9) rfl d_Md_find_6 ?_
      refine wi_ge hx hb d_Md_find_9 rfl (by omega) (by omega) (fun h9 => ?_) (fun h9 => ?_)
      · obtain rfl : n = k := by omega
        have hr9 : r = i + 1 := by
          rcases hf with ⟨-, h2⟩ | ⟨j, h1, h2, h3⟩
          · exact absurd (by rw [hv]) (h2 i hi)
          · rw [h2, hinj j i h1 hi (((nI_eq (hid j h1) (by rw [← hv]; exact hid i hi)).mp h3).trans hv.symm)]
        subst hr9
        refine lv_iload_n hx hb d_Md_find_34 rfl (lv_at hl 2 rfl) ?_
        exact k_reti hQ hx hb hr hlk hAe hK hP hD hS (Nat.le_of_ble_eq_true rfl) (Nat.le_of_ble_eq_true rfl) (Nat.le_of_ble_eq_true rfl) ⟨rfl, rfl⟩ d_Md_find_35
      · refine lv_aload_n hx hb d_Md_find_12 rfl (lv_at hl 0 rfl) ?_
        refine va_get (D := D) (ci := 5) (v := .ref a1) (C := R_Md) (T := T_Md) (N := 25) hx hb ht u_Md hown hK hP 0 rfl rfl 2 (by decide) (ht _ wd_897) (fun _ h9 => h9) rfl d_Md_find_13 ?_
        refine lv_iload_n hx hb d_Md_find_16 rfl (lv_at hl 3 rfl) ?_
        refine wi_ald hx hb hK hP 1 0 rfl rfl (by omega) (by omega) d_Md_find_17 ?_
        refine lv_iload_n hx hb d_Md_find_18 rfl (lv_at hl 1 rfl) ?_
        refine wi_ne hx hb d_Md_find_19 rfl (hid k h9) (by rw [← hv]; exact hid i hi) (fun h19 => ?_) (fun h19 => ?_)
        · refine lv_iload_n hx hb d_Md_find_26 rfl (lv_at hl 2 rfl) ?_
          refine lv_istore_n (lv' := [(2, .int (oI r)), (0, .ref h), (1, .int (nI v)), (3, .int (nI k))]) hx hb d_Md_find_27 rfl hl (by decide) rfl (fun ls hl => ?_)
          refine wi_inc (k := 3) (lv' := [(3, .int (nI (k + 1))), (2, .int (oI r)), (0, .ref h), (1, .int (nI v))]) hx hb d_Md_find_28 hl rfl (by decide) rfl (fun ls hl => ?_)
          refine lv_goto hx hb d_Md_find_31 rfl ?_
          exact ih4 (n - (k + 1)) (by omega) (k + 1) (r) ls H locs rfl (by omega) (pw_fl_n hf (fun z => h19 ((nI_eq (hid k h9) (by rw [← hv]; exact hid i hi)).mp z))) (lv_sub hl [2, 3, 1, 0] rfl) hP hD hS
        · refine lv_iload_n hx hb d_Md_find_22 rfl (lv_at hl 3 rfl) ?_
          refine lv_goto hx hb d_Md_find_23 rfl ?_
          refine lv_istore_n (lv' := [(2, .int (oI (k + 1))), (0, .ref h), (1, .int (nI v)), (3, .int (nI k))]) hx hb d_Md_find_27 rfl hl (by decide) rfl (fun ls hl => ?_)
          refine wi_inc (k := 3) (lv' := [(3, .int (nI (k + 1))), (2, .int (oI (k + 1))), (0, .ref h), (1, .int (nI v))]) hx hb d_Md_find_28 hl rfl (by decide) rfl (fun ls hl => ?_)
          refine lv_goto hx hb d_Md_find_31 rfl ?_
          exact ih4 (n - (k + 1)) (by omega) (k + 1) (k + 1) ls H locs rfl (by omega) (pw_fl_y (by rw [h19])) (lv_sub hl [2, 3, 1, 0] rfl) hP hD hS
  exact loop4 _ (0) (0) ls H locs rfl (Nat.zero_le _) pw_fl_0 (lv_sub hl [2, 3, 1, 0] rfl) hP hD hS
set_option maxHeartbeats 4000000 in
set_option maxRecDepth 100000 in
theorem c_Md_round (l : Launch) (Hs : Heap) (D : va_G) (cI cZ cL : ClassId) (sp : Nat) (b : Nat) (hs : sp ≤ 40) (hb9 : 0 < b) (hb15 : b ≤ 15) : kI l Hs D kcl (ty3 cI cZ cL) y_Md_round (mws y_Md_round b_Md_round 3 (Option.some Jvm.ClassFile.FieldType.int)) ({ frames := 0, cells := 0, slots := 0, locals := 0 } : Room) [.int (nI sp), .int (nI b)] [] (fun r w => r = nI (pw_rnd 6 b sp) ∧ w = []) := by
  intro sz
  refine k_of (cc := b_Md_round) (maxL := 3) (ret := (Option.some Jvm.ClassFile.FieldType.int)) (by decide) rfl (Nat.le_of_ble_eq_true rfl) ?_
  intro p e s m args below meth c ls H locs A Q hQ hx hb hml hr hts hown hlk hnm hsz hAe hP hK hD hS hA hE hAH hl
  have ht : ∀ w ∈ mw, w.before args s = true := fun w h => hts w (List.mem_cons_of_mem _ h)
  have hl : lv_has ls 3 [(0, .int (nI sp)), (1, .int (nI b))] := hl
  refine lv_iload_n hx hb d_Md_round_0 rfl (lv_at hl 1 rfl) ?_
  refine lv_istore_n (lv' := [(2, .int (nI b)), (0, .int (nI sp)), (1, .int (nI b))]) hx hb d_Md_round_1 rfl hl (by decide) rfl (fun ls hl => ?_)
  have loop2 : ∀ (d : Nat) (v : Nat) (f : Nat) (ls : Array Slot) (H : Heap) (locs : List Loc), f = d → (v ≤ 40) → (sp < v * 2 ^ (f + 1)) → (pw_rnd f v sp = pw_rnd 6 b sp) → lv_has ls 3 [(0, .int (nI sp)), (1, .int (nI b)), (2, .int (nI v))] → va_P D kcl [] H → va_D A [] → va_S A s.heap H locs → W p l e ({ frames := 0, cells := 0, slots := 0, locals := 0 } : Room) s m args below meth c H locs 0 0 Q (F0 m 2 ls []) := by
    intro d
    induction d using Nat.strongRecOn with
    | ind d ih2 =>
      intro v f ls H locs hd2 hv hfu hr9 hl hP hD hS
      refine lv_iconst (v := nI 2) hx hb d_Md_round_2 (by decide) ?_
      refine lv_iload_n hx hb d_Md_round_3 rfl (lv_at hl 2 rfl) ?_
      refine wi_mul hx hb d_Md_round_4 ?_
      refine lv_iload_n hx hb d_Md_round_5 rfl (lv_at hl 0 rfl) ?_
      refine wi_gt hx hb d_Md_round_6 rfl (by omega) (by omega) (fun h6 => ?_) (fun h6 => ?_)
      · have hfin : v = pw_rnd 6 b sp := by rw [← hr9, pw_rnd_no h6]
        refine lv_iload_n hx hb d_Md_round_16 rfl (lv_at hl 2 rfl) ?_
        exact k_reti hQ hx hb hr hlk hAe hK hP hD hS (Nat.le_of_ble_eq_true rfl) (Nat.le_of_ble_eq_true rfl) (Nat.le_of_ble_eq_true rfl) ⟨by rw [hfin], rfl⟩ d_Md_round_17
      · obtain ⟨g, rfl, hg2, hg3⟩ := pw_rnd_st hfu h6
        refine lv_iconst (v := nI 2) hx hb d_Md_round_9 (by decide) ?_
        refine lv_iload_n hx hb d_Md_round_10 rfl (lv_at hl 2 rfl) ?_
        refine wi_mul hx hb d_Md_round_11 ?_
        refine lv_istore_n (lv' := [(2, .int (nI (2 * v))), (0, .int (nI sp)), (1, .int (nI b))]) hx hb d_Md_round_12 rfl hl (by decide) rfl (fun ls hl => ?_)
        refine lv_goto hx hb d_Md_round_13 rfl ?_
        exact ih2 ((g)) (by omega) (2 * v) (g) ls H locs rfl (by omega) hg3 (hg2.symm.trans hr9) (lv_sub hl [1, 2, 0] rfl) hP hD hS
  exact loop2 _ (b) (6) ls H locs rfl (by omega) (by simp; omega) rfl (lv_sub hl [1, 2, 0] rfl) hP hD hS
