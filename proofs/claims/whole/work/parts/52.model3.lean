/-! PinwheelKernelModel: which states are safe. -/
theorem oI_ge {x : Nat} (h : x < 2 ^ 31) : 0 ≤ oI x ↔ x ≠ 0 := by
  rw [← Int32.not_lt, oI_neg h]
theorem nb01 {x : Nat} (h : x < 2) : narrow .boolean (.int (nI x)) = .int (nI x) := by
  rcases (by omega : x = 0 ∨ x = 1) with rfl | rfl <;> rfl
theorem md_gd_le {K : Nat} {fs zs : Nat → Nat} {v r : Nat} (h : md_gd K fs zs v r) : r ≤ K := by
  rcases h with ⟨h1, -⟩ | ⟨t, h1, h2, -⟩ <;> omega
set_option maxHeartbeats 4000000 in
set_option maxRecDepth 100000 in
theorem c_Md_good (l : Launch) (Hs : Heap) (D : va_G) (cI cZ cL : ClassId) (h : Nat) (a1 : Nat) (a2 : Nat) (a3 : Nat) (a4 : Nat) (c1 : Nat) (b1 : Nat) (b2 : Nat) (c2 : Nat) (r1 : Nat) (r2 : Nat) (z1 : Nat) (n1 : Nat) (t1 : Nat) (th : Nat) (n : Nat) (wi : Nat) (bu : Nat) (L : Nat) (ax : Nat) (va : Nat) (sl : Nat) (me : Nat) (L2 : Nat) (mn : Nat) (cv : Int32) (ru : Nat → Nat) (nu : Nat → Nat) (zs : Nat → Nat) (v : Nat) (hmn : mn ≤ 4) (hru : ∀ t, t < mn → 0 < ru t ∧ ru t ≤ 40) (hW : pw_w ru mn ≤ 1500) (hv : v < 2 ^ 31) (hz : ∀ x, x < pw_w ru mn → zs x < 2) : kI l Hs D kcl (ty3 cI cZ cL) y_Md_good (mws y_Md_good b_Md_good 4 (Option.some Jvm.ClassFile.FieldType.int)) ({ frames := 2, cells := 0, slots := 0, locals := 49 } : Room) [.ref h, .int (nI v)] [(h, .inr (5, [.int (nI th), .int (nI n), .ref a1, .ref a2, .ref a3, .ref a4, .int (nI wi), .int (nI bu), .int (nI L), .ref c1, .int (nI ax), .int (nI va), .int (nI sl), .int cv, .int (nI me), .ref b1, .ref b2, .int (nI L2), .ref c2, .int (nI mn), .ref r1, .ref r2, .ref z1, .ref n1, .ref t1])), (n1, .inl (cI, 4, .inl (wA nu))), (r2, .inl (cI, 10, .inl (wA ru))), (z1, .inl (cZ, 1500, .inl (wA zs)))] (fun r w => ∃ (nu2 : Nat → Nat), ∃ (r0 : Nat), (md_gd mn ru zs v r0) ∧ r = oI r0 ∧ w = [(h, .inr (5, [.int (nI th), .int (nI n), .ref a1, .ref a2, .ref a3, .ref a4, .int (nI wi), .int (nI bu), .int (nI L), .ref c1, .int (nI ax), .int (nI va), .int (nI sl), .int cv, .int (nI me), .ref b1, .ref b2, .int (nI L2), .ref c2, .int (nI mn), .ref r1, .ref r2, .ref z1, .ref n1, .ref t1])), (n1, .inl (cI, 4, .inl (wA nu2))), (r2, .inl (cI, 10, .inl (wA ru))), (z1, .inl (cZ, 1500, .inl (wA zs)))]) := by
  intro sz
  refine k_of (cc := b_Md_good) (maxL := 4) (ret := (Option.some Jvm.ClassFile.FieldType.int)) (by decide) rfl (Nat.le_of_ble_eq_true rfl) ?_
  intro p e s m args below meth c ls H locs A Q hQ hx hb hml hr hts hown hlk hnm hsz hAe hP hK hD hS hA hE hAH hl
  have ht : ∀ w ∈ mw, w.before args s = true := fun w h => hts w (List.mem_cons_of_mem _ h)
  have hl : lv_has ls 4 [(0, .ref h), (1, .int (nI v))] := hl
  refine lv_iconst (v := nI 0) hx hb d_Md_good_0 (by decide) ?_
  refine lv_istore_n (lv' := [(2, .int (nI 0)), (0, .ref h), (1, .int (nI v))]) hx hb d_Md_good_1 rfl hl (by decide) rfl (fun ls hl => ?_)
  have loop2 : ∀ (d : Nat) (k : Nat) (u : Nat → Nat) (ls : Array Slot) (H : Heap) (locs : List Loc), mn - k = d → (k ≤ mn) → (∀ j, j < k → ¬ (pw_ok mn ru v j ∧ zs (pw_nx mn ru v j) ≠ 0)) → lv_has ls 4 [(0, .ref h), (1, .int (nI v)), (2, .int (nI k))] → va_P D kcl [(h, .inr (5, [.int (nI th), .int (nI n), .ref a1, .ref a2, .ref a3, .ref a4, .int (nI wi), .int (nI bu), .int (nI L), .ref c1, .int (nI ax), .int (nI va), .int (nI sl), .int cv, .int (nI me), .ref b1, .ref b2, .int (nI L2), .ref c2, .int (nI mn), .ref r1, .ref r2, .ref z1, .ref n1, .ref t1])), (n1, .inl (cI, 4, .inl (wA u))), (r2, .inl (cI, 10, .inl (wA ru))), (z1, .inl (cZ, 1500, .inl (wA zs)))] H → va_D A [(h, .inr (5, [.int (nI th), .int (nI n), .ref a1, .ref a2, .ref a3, .ref a4, .int (nI wi), .int (nI bu), .int (nI L), .ref c1, .int (nI ax), .int (nI va), .int (nI sl), .int cv, .int (nI me), .ref b1, .ref b2, .int (nI L2), .ref c2, .int (nI mn), .ref r1, .ref r2, .ref z1, .ref n1, .ref t1])), (n1, .inl (cI, 4, .inl (wA u))), (r2, .inl (cI, 10, .inl (wA ru))), (z1, .inl (cZ, 1500, .inl (wA zs)))] → va_S A s.heap H locs → W p l e ({ frames := 2, cells := 0, slots := 0, locals := 49 } : Room) s m args below meth c H locs 0 0 Q (F0 m 2 ls []) := by
    intro d
    induction d using Nat.strongRecOn with
    | ind d ih2 =>
      intro k u ls H locs hd2 hk hno hl hP hD hS
      refine lv_iload_n hx hb d_Md_good_2 rfl (lv_at hl 2 rfl) ?_
      refine lv_aload_n hx hb d_Md_good_3 rfl (lv_at hl 0 rfl) ?_
      refine va_get (D := D) (ci := 5) (v := .int (nI mn)) (C := R_Md) (T := T_Md) (N := 25) hx hb ht u_Md hown hK hP 0 rfl rfl 19 (by decide) (ht _ wd_914) (fun _ h9 => h9) rfl d_Md_good_4 ?_
      refine wi_ge hx hb d_Md_good_7 rfl (by omega) (by omega) (fun h7 => ?_) (fun h7 => ?_)
      · refine lv_iconst (v := -1) hx hb d_Md_good_38 (by decide) ?_
        obtain rfl : mn = k := by omega
        exact k_reti hQ hx hb hr hlk hAe hK hP hD hS (Nat.le_of_ble_eq_true rfl) (Nat.le_of_ble_eq_true rfl) (Nat.le_of_ble_eq_true rfl) ⟨u, 0, Or.inl ⟨rfl, hno⟩, rfl, rfl⟩ d_Md_good_39
      · refine lv_aload_n hx hb d_Md_good_10 rfl (lv_at hl 0 rfl) ?_
        refine lv_iload_n hx hb d_Md_good_11 rfl (lv_at hl 1 rfl) ?_
        refine lv_iload_n hx hb d_Md_good_12 rfl (lv_at hl 2 rfl) ?_
        by_cases hok : pw_ok mn ru v k
        · refine ck_i (wc := [(h, .inr (5, [.int (nI th), .int (nI n), .ref a1, .ref a2, .ref a3, .ref a4, .int (nI wi), .int (nI bu), .int (nI L), .ref c1, .int (nI ax), .int (nI va), .int (nI sl), .int cv, .int (nI me), .ref b1, .ref b2, .int (nI L2), .ref c2, .int (nI mn), .ref r1, .ref r2, .ref z1, .ref n1, .ref t1])), (n1, .inl (cI, 4, .inl (wA u))), (r2, .inl (cI, 10, .inl (wA ru)))]) (va_runV (As := [.int (nI v), .int (nI k)]) (rest := []) (C := R_Md) ⟨hx, hb, hml, hown, ht⟩ (c_Md_after1 l Hs D cI cZ cL h a1 a2 a3 a4 c1 b1 b2 c2 r1 r2 z1 n1 t1 th n wi bu L ax va sl me L2 mn cv ru u v k hmn hru hv (by omega) hok H.size) (gw_V 2 ht wd_1037 wd_5 wd_1034 wd_1036 ws_40 (by decide +kernel) ⟨Nat.le_of_ble_eq_true rfl, Nat.le_of_ble_eq_true rfl⟩) (k_preV hE hAH hK hP hD hS [0, 1, 2] rfl rfl 0 rfl rfl) rfl rfl hl.1 rfl (lv_room (Nat.le_of_ble_eq_true rfl)) d_Md_good_13 ⟨Nat.le_of_ble_eq_true rfl, Nat.le_of_ble_eq_true rfl⟩) hP hD hS hA [0, 1, 2] rfl rfl (fun r13 w1 H locs hpost hP hD hS => ?_)
          obtain ⟨nu2, rfl, rfl⟩ := hpost
          have hP : va_P D kcl [(h, .inr (5, [.int (nI th), .int (nI n), .ref a1, .ref a2, .ref a3, .ref a4, .int (nI wi), .int (nI bu), .int (nI L), .ref c1, .int (nI ax), .int (nI va), .int (nI sl), .int cv, .int (nI me), .ref b1, .ref b2, .int (nI L2), .ref c2, .int (nI mn), .ref r1, .ref r2, .ref z1, .ref n1, .ref t1])), (n1, .inl (cI, 4, .inl (wA nu2))), (r2, .inl (cI, 10, .inl (wA ru))), (z1, .inl (cZ, 1500, .inl (wA zs)))] H := hP
          have hD : va_D A [(h, .inr (5, [.int (nI th), .int (nI n), .ref a1, .ref a2, .ref a3, .ref a4, .int (nI wi), .int (nI bu), .int (nI L), .ref c1, .int (nI ax), .int (nI va), .int (nI sl), .int cv, .int (nI me), .ref b1, .ref b2, .int (nI L2), .ref c2, .int (nI mn), .ref r1, .ref r2, .ref z1, .ref n1, .ref t1])), (n1, .inl (cI, 4, .inl (wA nu2))), (r2, .inl (cI, 10, .inl (wA ru))), (z1, .inl (cZ, 1500, .inl (wA zs)))] := hD
          have hnx := pw_nx_lt (K := mn) (sp := ru) (fun j hj => (hru j hj).1) v k
          have hzn := hz _ hnx
          refine lv_istore_n (lv' := [(3, .int (nI (pw_nx mn ru v k))), (0, .ref h), (1, .int (nI v)), (2, .int (nI k))]) hx hb d_Md_good_16 rfl hl (by decide) rfl (fun ls hl => ?_)
          refine lv_iload_n hx hb d_Md_good_17 rfl (lv_at hl 0 rfl) ?_
          refine wi_if_lt hx hb d_Md_good_18 rfl (by omega) ?_
          refine lv_aload_n hx hb d_Md_good_21 rfl (lv_at hl 1 rfl) ?_
          refine va_get (D := D) (ci := 5) (v := .ref z1) (C := R_Md) (T := T_Md) (N := 25) hx hb ht u_Md hown hK hP 0 rfl rfl 22 (by decide) (ht _ wd_917) (fun _ h9 => h9) rfl d_Md_good_22 ?_
          refine lv_iload_n hx hb d_Md_good_25 rfl (lv_at hl 0 rfl) ?_
          refine wi_zald hx hb hK hP 3 1 rfl rfl (by omega) (by omega) d_Md_good_26 ?_
          refine wi_if_eq hx hb d_Md_good_27 rfl (by omega) (fun h27 => ?_) (fun h27 => ?_)
          · refine wi_inc (k := 3) (lv' := [(2, .int (nI (k + 1))), (3, .int (nI (pw_nx mn ru v k))), (0, .ref h), (1, .int (nI v))]) hx hb d_Md_good_32 hl rfl (by decide) rfl (fun ls hl => ?_)
            refine lv_goto hx hb d_Md_good_35 rfl ?_
            exact ih2 (mn - (k + 1)) (by omega) (k + 1) (nu2) ls H locs rfl (by omega) (lt_s hno (fun z => z.2 h27)) (lv_sub hl [2, 3, 0] rfl) hP hD hS
          · refine lv_iload_n hx hb d_Md_good_30 rfl (lv_at hl 3 rfl) ?_
            exact k_reti hQ hx hb hr hlk hAe hK hP hD hS (Nat.le_of_ble_eq_true rfl) (Nat.le_of_ble_eq_true rfl) (Nat.le_of_ble_eq_true rfl) ⟨nu2, k + 1, Or.inr ⟨k, h7, rfl, ⟨hok, by omega⟩, hno⟩, rfl, rfl⟩ d_Md_good_31
        · refine ck_i (wc := [(h, .inr (5, [.int (nI th), .int (nI n), .ref a1, .ref a2, .ref a3, .ref a4, .int (nI wi), .int (nI bu), .int (nI L), .ref c1, .int (nI ax), .int (nI va), .int (nI sl), .int cv, .int (nI me), .ref b1, .ref b2, .int (nI L2), .ref c2, .int (nI mn), .ref r1, .ref r2, .ref z1, .ref n1, .ref t1])), (n1, .inl (cI, 4, .inl (wA u))), (r2, .inl (cI, 10, .inl (wA ru)))]) (va_runV (As := [.int (nI v), .int (nI k)]) (rest := []) (C := R_Md) ⟨hx, hb, hml, hown, ht⟩ (c_Md_after0 l Hs D cI cZ cL h a1 a2 a3 a4 c1 b1 b2 c2 r1 r2 z1 n1 t1 th n wi bu L ax va sl me L2 mn cv ru u v k hmn hru hv (by omega) hok H.size) (gw_V 2 ht wd_1037 wd_5 wd_1034 wd_1036 ws_40 (by decide +kernel) ⟨Nat.le_of_ble_eq_true rfl, Nat.le_of_ble_eq_true rfl⟩) (k_preV hE hAH hK hP hD hS [0, 1, 2] rfl rfl 0 rfl rfl) rfl rfl hl.1 rfl (lv_room (Nat.le_of_ble_eq_true rfl)) d_Md_good_13 ⟨Nat.le_of_ble_eq_true rfl, Nat.le_of_ble_eq_true rfl⟩) hP hD hS hA [0, 1, 2] rfl rfl (fun r13 w1 H locs hpost hP hD hS => ?_)
          obtain ⟨nu2, rfl, rfl⟩ := hpost
          have hP : va_P D kcl [(h, .inr (5, [.int (nI th), .int (nI n), .ref a1, .ref a2, .ref a3, .ref a4, .int (nI wi), .int (nI bu), .int (nI L), .ref c1, .int (nI ax), .int (nI va), .int (nI sl), .int cv, .int (nI me), .ref b1, .ref b2, .int (nI L2), .ref c2, .int (nI mn), .ref r1, .ref r2, .ref z1, .ref n1, .ref t1])), (n1, .inl (cI, 4, .inl (wA nu2))), (r2, .inl (cI, 10, .inl (wA ru))), (z1, .inl (cZ, 1500, .inl (wA zs)))] H := hP
          have hD : va_D A [(h, .inr (5, [.int (nI th), .int (nI n), .ref a1, .ref a2, .ref a3, .ref a4, .int (nI wi), .int (nI bu), .int (nI L), .ref c1, .int (nI ax), .int (nI va), .int (nI sl), .int cv, .int (nI me), .ref b1, .ref b2, .int (nI L2), .ref c2, .int (nI mn), .ref r1, .ref r2, .ref z1, .ref n1, .ref t1])), (n1, .inl (cI, 4, .inl (wA nu2))), (r2, .inl (cI, 10, .inl (wA ru))), (z1, .inl (cZ, 1500, .inl (wA zs)))] := hD
          refine lv_istore_n (lv' := [(3, .int ((-1))), (0, .ref h), (1, .int (nI v)), (2, .int (nI k))]) hx hb d_Md_good_16 rfl hl (by decide) rfl (fun ls hl => ?_)
          refine lv_iload_n hx hb d_Md_good_17 rfl (lv_at hl 0 rfl) ?_
          refine lv_if_lt hx hb d_Md_good_18 rfl (fun _ => ?_) (fun h => absurd (by decide) h)
          refine wi_inc (k := 3) (lv' := [(2, .int (nI (k + 1))), (3, .int ((-1))), (0, .ref h), (1, .int (nI v))]) hx hb d_Md_good_32 hl rfl (by decide) rfl (fun ls hl => ?_)
          refine lv_goto hx hb d_Md_good_35 rfl ?_
          exact ih2 (mn - (k + 1)) (by omega) (k + 1) (nu2) ls H locs rfl (by omega) (lt_s hno (fun z => hok z.1)) (lv_sub hl [2, 3, 0] rfl) hP hD hS
  exact loop2 _ (0) (nu) ls H locs rfl (Nat.zero_le _) lt_0 (lv_sub hl [1, 2, 0] rfl) hP hD hS
set_option maxHeartbeats 4000000 in
set_option maxRecDepth 100000 in
theorem c_Md_isSafe (l : Launch) (Hs : Heap) (D : va_G) (cI cZ cL : ClassId) (h : Nat) (a1 : Nat) (a2 : Nat) (a3 : Nat) (a4 : Nat) (c1 : Nat) (b1 : Nat) (b2 : Nat) (c2 : Nat) (r1 : Nat) (r2 : Nat) (z1 : Nat) (n1 : Nat) (t1 : Nat) (th : Nat) (n : Nat) (wi : Nat) (bu : Nat) (L : Nat) (ax : Nat) (va : Nat) (sl : Nat) (me : Nat) (L2 : Nat) (mn : Nat) (cv : Int32) (ru : Nat → Nat) (nu : Nat → Nat) (zs : Nat → Nat) (hmn : mn ≤ 4) (hru : ∀ t, t < mn → 0 < ru t ∧ ru t ≤ 40) (hW : pw_w ru mn ≤ 1500) : kI l Hs D kcl (ty3 cI cZ cL) y_Md_isSafe (mws y_Md_isSafe b_Md_isSafe 4 (Option.some Jvm.ClassFile.FieldType.boolean)) ({ frames := 3, cells := 0, slots := 0, locals := 72 } : Room) [.ref h, .int (nI (pw_w ru mn))] [(h, .inr (5, [.int (nI th), .int (nI n), .ref a1, .ref a2, .ref a3, .ref a4, .int (nI wi), .int (nI bu), .int (nI L), .ref c1, .int (nI ax), .int (nI va), .int (nI sl), .int cv, .int (nI me), .ref b1, .ref b2, .int (nI L2), .ref c2, .int (nI mn), .ref r1, .ref r2, .ref z1, .ref n1, .ref t1])), (n1, .inl (cI, 4, .inl (wA nu))), (r2, .inl (cI, 10, .inl (wA ru))), (z1, .inl (cZ, 1500, .inl (wA zs)))] (fun r w => ∃ (nu2 : Nat → Nat), ∃ (z2 : Nat → Nat), ((0 < mn → ∀ x, x < pw_w ru mn → (z2 x ≠ 0 ↔ pw_safe mn ru x))) ∧ ((mn = 0 → z2 (pw_w ru mn - 1) = 1)) ∧ (∀ x, x < pw_w ru mn → z2 x < 2) ∧ r = nI (z2 (pw_w ru mn - 1)) ∧ w = [(h, .inr (5, [.int (nI th), .int (nI n), .ref a1, .ref a2, .ref a3, .ref a4, .int (nI wi), .int (nI bu), .int (nI L), .ref c1, .int (nI ax), .int (nI va), .int (nI sl), .int cv, .int (nI me), .ref b1, .ref b2, .int (nI L2), .ref c2, .int (nI mn), .ref r1, .ref r2, .ref z1, .ref n1, .ref t1])), (n1, .inl (cI, 4, .inl (wA nu2))), (r2, .inl (cI, 10, .inl (wA ru))), (z1, .inl (cZ, 1500, .inl (wA z2)))]) := by
  intro sz
  refine k_of (cc := b_Md_isSafe) (maxL := 4) (ret := (Option.some Jvm.ClassFile.FieldType.boolean)) (by decide) rfl (Nat.le_of_ble_eq_true rfl) ?_
  intro p e s m args below meth c ls H locs A Q hQ hx hb hml hr hts hown hlk hnm hsz hAe hP hK hD hS hA hE hAH hl
  have ht : ∀ w ∈ mw, w.before args s = true := fun w h => hts w (List.mem_cons_of_mem _ h)
  have hl : lv_has ls 4 [(0, .ref h), (1, .int (nI (pw_w ru mn)))] := hl
  have hWp : 0 < pw_w ru mn := pw_w_pos fun j hj => (hru j hj).1
  refine lv_iconst (v := nI 0) hx hb d_Md_isSafe_0 (by decide) ?_
  refine lv_istore_n (lv' := [(2, .int (nI 0)), (0, .ref h), (1, .int (nI (pw_w ru mn)))]) hx hb d_Md_isSafe_1 rfl hl (by decide) rfl (fun ls hl => ?_)
  have loop2 : ∀ (d : Nat) (k : Nat) (z : Nat → Nat) (ls : Array Slot) (H : Heap) (locs : List Loc), pw_w ru mn - k = d → (k ≤ pw_w ru mn) → (∀ x, x < k → z x = 1) → lv_has ls 4 [(0, .ref h), (1, .int (nI (pw_w ru mn))), (2, .int (nI k))] → va_P D kcl [(h, .inr (5, [.int (nI th), .int (nI n), .ref a1, .ref a2, .ref a3, .ref a4, .int (nI wi), .int (nI bu), .int (nI L), .ref c1, .int (nI ax), .int (nI va), .int (nI sl), .int cv, .int (nI me), .ref b1, .ref b2, .int (nI L2), .ref c2, .int (nI mn), .ref r1, .ref r2, .ref z1, .ref n1, .ref t1])), (n1, .inl (cI, 4, .inl (wA nu))), (r2, .inl (cI, 10, .inl (wA ru))), (z1, .inl (cZ, 1500, .inl (wA z)))] H → va_D A [(h, .inr (5, [.int (nI th), .int (nI n), .ref a1, .ref a2, .ref a3, .ref a4, .int (nI wi), .int (nI bu), .int (nI L), .ref c1, .int (nI ax), .int (nI va), .int (nI sl), .int cv, .int (nI me), .ref b1, .ref b2, .int (nI L2), .ref c2, .int (nI mn), .ref r1, .ref r2, .ref z1, .ref n1, .ref t1])), (n1, .inl (cI, 4, .inl (wA nu))), (r2, .inl (cI, 10, .inl (wA ru))), (z1, .inl (cZ, 1500, .inl (wA z)))] → va_S A s.heap H locs → W p l e ({ frames := 3, cells := 0, slots := 0, locals := 72 } : Room) s m args below meth c H locs 0 0 Q (F0 m 2 ls []) := by
    intro d
    induction d using Nat.strongRecOn with
    | ind d ih2 =>
      intro k z ls H locs hd2 hk hz1 hl hP hD hS
      refine lv_iload_n hx hb d_Md_isSafe_2 rfl (lv_at hl 2 rfl) ?_
      refine lv_iload_n hx hb d_Md_isSafe_3 rfl (lv_at hl 1 rfl) ?_
      refine wi_ge hx hb d_Md_isSafe_4 rfl (by omega) (by omega) (fun h4 => ?_) (fun h4 => ?_)
      · refine lv_aload_n hx hb d_Md_isSafe_20 rfl (lv_at hl 0 rfl) ?_
        refine va_get (D := D) (ci := 5) (v := .int (nI mn)) (C := R_Md) (T := T_Md) (N := 25) hx hb ht u_Md hown hK hP 0 rfl rfl 19 (by decide) (ht _ wd_914) (fun _ h9 => h9) rfl d_Md_isSafe_21 ?_
        refine wi_if_le hx hb d_Md_isSafe_24 rfl (by omega) (fun h24 => ?_) (fun h24 => ?_)
        · refine lv_iconst (v := nI 0) hx hb d_Md_isSafe_31 (by decide) ?_
          refine lv_istore_n (lv' := [(2, .int (nI 0)), (0, .ref h), (1, .int (nI (pw_w ru mn)))]) hx hb d_Md_isSafe_32 rfl hl (by decide) rfl (fun ls hl => ?_)
          have loop33 : ∀ (d : Nat) (u : Nat → Nat) (z : Nat → Nat) (e9 : Nat) (ls : Array Slot) (H : Heap) (locs : List Loc), 2 * pw_ct (md_bo z) (pw_w ru mn) + e9 = d → (pw_M mn ru (md_bo z)) → (∀ x, x < pw_w ru mn → z x < 2) → (e9 < 2) → (0 < mn → e9 = 0 → ∀ x, x < pw_w ru mn → md_bo z x = true → pw_gd mn ru (md_bo z) x) → (mn = 0 → z (pw_w ru mn - 1) = 1) → (mn = 0 → e9 = 0) → lv_has ls 4 [(0, .ref h), (1, .int (nI (pw_w ru mn))), (2, .int (nI e9))] → va_P D kcl [(h, .inr (5, [.int (nI th), .int (nI n), .ref a1, .ref a2, .ref a3, .ref a4, .int (nI wi), .int (nI bu), .int (nI L), .ref c1, .int (nI ax), .int (nI va), .int (nI sl), .int cv, .int (nI me), .ref b1, .ref b2, .int (nI L2), .ref c2, .int (nI mn), .ref r1, .ref r2, .ref z1, .ref n1, .ref t1])), (n1, .inl (cI, 4, .inl (wA u))), (r2, .inl (cI, 10, .inl (wA ru))), (z1, .inl (cZ, 1500, .inl (wA z)))] H → va_D A [(h, .inr (5, [.int (nI th), .int (nI n), .ref a1, .ref a2, .ref a3, .ref a4, .int (nI wi), .int (nI bu), .int (nI L), .ref c1, .int (nI ax), .int (nI va), .int (nI sl), .int cv, .int (nI me), .ref b1, .ref b2, .int (nI L2), .ref c2, .int (nI mn), .ref r1, .ref r2, .ref z1, .ref n1, .ref t1])), (n1, .inl (cI, 4, .inl (wA u))), (r2, .inl (cI, 10, .inl (wA ru))), (z1, .inl (cZ, 1500, .inl (wA z)))] → va_S A s.heap H locs → W p l e ({ frames := 3, cells := 0, slots := 0, locals := 72 } : Room) s m args below meth c H locs 0 0 Q (F0 m 33 ls []) := by
            intro d
            induction d using Nat.strongRecOn with
            | ind d ih33 =>
              intro u z e9 ls H locs hd33 hM hz2 he9 hg hm0 hm0e hl hP hD hS
              refine lv_iload_n hx hb d_Md_isSafe_33 rfl (lv_at hl 2 rfl) ?_
              refine wi_if_eq hx hb d_Md_isSafe_34 rfl (by omega) (fun h34 => ?_) (fun h34 => ?_)
              · refine lv_aload_n hx hb d_Md_isSafe_81 rfl (lv_at hl 0 rfl) ?_
                refine va_get (D := D) (ci := 5) (v := .ref z1) (C := R_Md) (T := T_Md) (N := 25) hx hb ht u_Md hown hK hP 0 rfl rfl 22 (by decide) (ht _ wd_917) (fun _ h9 => h9) rfl d_Md_isSafe_82 ?_
                refine lv_iload_n hx hb d_Md_isSafe_85 rfl (lv_at hl 1 rfl) ?_
                refine lv_iconst (v := nI 1) hx hb d_Md_isSafe_86 (by decide) ?_
                refine wi_sub hx hb d_Md_isSafe_87 (by omega) ?_
                refine wi_zald hx hb hK hP 3 1 rfl rfl (by omega) (by decide) d_Md_isSafe_88 ?_
                have hfin : 0 < mn → ∀ x, x < pw_w ru mn → (z x ≠ 0 ↔ pw_safe mn ru x) := fun q x hx9 => by
                  rw [← pw_M_end hM (fun j hj => (hru j hj).1) (hg q h34) x hx9]
                  simp [md_bo]
                exact k_retz hQ hx hb hr hlk hAe hK hP hD hS (Nat.le_of_ble_eq_true rfl) (Nat.le_of_ble_eq_true rfl) (Nat.le_of_ble_eq_true rfl) (nb01 (hz2 _ (by omega))) ⟨u, z, hfin, hm0, hz2, rfl, rfl⟩ d_Md_isSafe_89
              · have he1 : e9 = 1 := by omega
                have hmp : 0 < mn := Nat.pos_of_ne_zero fun z => by have := hm0e z; omega
                subst he1
                refine lv_iconst (v := nI 0) hx hb d_Md_isSafe_37 (by decide) ?_
                refine lv_istore_n (lv' := [(2, .int (nI 0)), (0, .ref h), (1, .int (nI (pw_w ru mn)))]) hx hb d_Md_isSafe_38 rfl hl (by decide) rfl (fun ls hl => ?_)
                refine lv_iconst (v := nI 0) hx hb d_Md_isSafe_39 (by decide) ?_
                refine lv_istore_n (lv' := [(3, .int (nI 0)), (2, .int (nI 0)), (0, .ref h), (1, .int (nI (pw_w ru mn)))]) hx hb d_Md_isSafe_40 rfl hl (by decide) rfl (fun ls hl => ?_)
                have loop41 : ∀ (d : Nat) (x : Nat) (u2 : Nat → Nat) (y : Nat → Nat) (e2 : Nat) (ls : Array Slot) (H : Heap) (locs : List Loc), pw_w ru mn - x = d → (x ≤ pw_w ru mn) → (pw_M mn ru (md_bo y)) → (∀ x, x < pw_w ru mn → y x < 2) → (e2 < 2) → ((e2 = 0 ∧ y = z ∧ ∀ j, j < x → md_bo z j = true → pw_gd mn ru (md_bo z) j) ∨ (e2 = 1 ∧ pw_ct (md_bo y) (pw_w ru mn) < pw_ct (md_bo z) (pw_w ru mn))) → lv_has ls 4 [(0, .ref h), (1, .int (nI (pw_w ru mn))), (2, .int (nI e2)), (3, .int (nI x))] → va_P D kcl [(h, .inr (5, [.int (nI th), .int (nI n), .ref a1, .ref a2, .ref a3, .ref a4, .int (nI wi), .int (nI bu), .int (nI L), .ref c1, .int (nI ax), .int (nI va), .int (nI sl), .int cv, .int (nI me), .ref b1, .ref b2, .int (nI L2), .ref c2, .int (nI mn), .ref r1, .ref r2, .ref z1, .ref n1, .ref t1])), (n1, .inl (cI, 4, .inl (wA u2))), (r2, .inl (cI, 10, .inl (wA ru))), (z1, .inl (cZ, 1500, .inl (wA y)))] H → va_D A [(h, .inr (5, [.int (nI th), .int (nI n), .ref a1, .ref a2, .ref a3, .ref a4, .int (nI wi), .int (nI bu), .int (nI L), .ref c1, .int (nI ax), .int (nI va), .int (nI sl), .int cv, .int (nI me), .ref b1, .ref b2, .int (nI L2), .ref c2, .int (nI mn), .ref r1, .ref r2, .ref z1, .ref n1, .ref t1])), (n1, .inl (cI, 4, .inl (wA u2))), (r2, .inl (cI, 10, .inl (wA ru))), (z1, .inl (cZ, 1500, .inl (wA y)))] → va_S A s.heap H locs → W p l e ({ frames := 3, cells := 0, slots := 0, locals := 72 } : Room) s m args below meth c H locs 0 0 Q (F0 m 41 ls []) := by
                  intro d
                  induction d using Nat.strongRecOn with
                  | ind d ih41 =>
                    intro x u2 y e2 ls H locs hd41 hxk hyM hy2 he2 hch hl hP hD hS
                    refine lv_iload_n hx hb d_Md_isSafe_41 rfl (lv_at hl 3 rfl) ?_
                    refine lv_iload_n hx hb d_Md_isSafe_42 rfl (lv_at hl 1 rfl) ?_
                    refine wi_ge hx hb d_Md_isSafe_43 rfl (by omega) (by omega) (fun h43 => ?_) (fun h43 => ?_)
                    · have hdec : 2 * pw_ct (md_bo y) (pw_w ru mn) + e2 < 2 * pw_ct (md_bo z) (pw_w ru mn) + 1 := by
                        rcases hch with ⟨a, b, c1⟩ | ⟨a, b⟩
                        · subst b; omega
                        · omega
                      have hyg : 0 < mn → e2 = 0 → ∀ j, j < pw_w ru mn → md_bo y j = true → pw_gd mn ru (md_bo y) j := fun _ q => by
                        rcases hch with ⟨a, b, c1⟩ | ⟨a, b⟩
                        · subst b; exact fun j hj => c1 j (by omega)
                        · omega
                      have hym : mn = 0 → y (pw_w ru mn - 1) = 1 := fun q => by omega
                      have hm0p : mn = 0 → e2 = 0 := fun q => by omega
                      refine lv_goto hx hb d_Md_isSafe_78 rfl ?_
                      have hxW : x = pw_w ru mn := by omega
                      exact ih33 (2 * pw_ct (md_bo (y)) (pw_w ru mn) + (e2)) (by omega) (u2) (y) (e2) ls H locs rfl hyM hy2 he2 hyg hym hm0p (lv_sub hl [0, 1, 2] rfl) hP hD hS
                    · refine lv_aload_n hx hb d_Md_isSafe_46 rfl (lv_at hl 0 rfl) ?_
                      refine va_get (D := D) (ci := 5) (v := .ref z1) (C := R_Md) (T := T_Md) (N := 25) hx hb ht u_Md hown hK hP 0 rfl rfl 22 (by decide) (ht _ wd_917) (fun _ h9 => h9) rfl d_Md_isSafe_47 ?_
                      refine lv_iload_n hx hb d_Md_isSafe_50 rfl (lv_at hl 3 rfl) ?_
                      refine wi_zald hx hb hK hP 3 1 rfl rfl (by omega) (by omega) d_Md_isSafe_51 ?_
                      refine wi_if_eq hx hb d_Md_isSafe_52 rfl (by have := hy2 x h43; omega) (fun h52 => ?_) (fun h52 => ?_)
                      · refine wi_inc (k := 3) (lv' := [(3, .int (nI (x + 1))), (0, .ref h), (1, .int (nI (pw_w ru mn))), (2, .int (nI e2))]) hx hb d_Md_isSafe_72 hl rfl (by decide) rfl (fun ls hl => ?_)
                        refine lv_goto hx hb d_Md_isSafe_75 rfl ?_
                        have hchn : (e2 = 0 ∧ y = z ∧ ∀ j, j < x + 1 → md_bo z j = true → pw_gd mn ru (md_bo z) j) ∨ (e2 = 1 ∧ pw_ct (md_bo y) (pw_w ru mn) < pw_ct (md_bo z) (pw_w ru mn)) := by
                          rcases hch with ⟨a, b, c1⟩ | h
                          · subst b; exact Or.inl ⟨a, rfl, lt_s c1 (fun q => by simp [md_bo, h52] at q)⟩
                          · exact Or.inr h
                        exact ih41 (pw_w ru mn - (x + 1)) (by omega) (x + 1) (u2) (y) (e2) ls H locs rfl (by omega) hyM hy2 he2 hchn (lv_sub hl [1, 2, 3, 0] rfl) hP hD hS
                      · refine lv_aload_n hx hb d_Md_isSafe_55 rfl (lv_at hl 0 rfl) ?_
                        refine lv_iload_n hx hb d_Md_isSafe_56 rfl (lv_at hl 3 rfl) ?_
                        refine ck_i (wc := [(h, .inr (5, [.int (nI th), .int (nI n), .ref a1, .ref a2, .ref a3, .ref a4, .int (nI wi), .int (nI bu), .int (nI L), .ref c1, .int (nI ax), .int (nI va), .int (nI sl), .int cv, .int (nI me), .ref b1, .ref b2, .int (nI L2), .ref c2, .int (nI mn), .ref r1, .ref r2, .ref z1, .ref n1, .ref t1])), (n1, .inl (cI, 4, .inl (wA u2))), (r2, .inl (cI, 10, .inl (wA ru))), (z1, .inl (cZ, 1500, .inl (wA y)))]) (va_runV (As := [.int (nI x)]) (rest := []) (C := R_Md) ⟨hx, hb, hml, hown, ht⟩ (c_Md_good l Hs D cI cZ cL h a1 a2 a3 a4 c1 b1 b2 c2 r1 r2 z1 n1 t1 th n wi bu L ax va sl me L2 mn cv ru u2 y x hmn hru hW (by omega) hy2 H.size) (gw_V 1 ht wd_1033 wd_5 wd_1030 wd_1032 ws_39 (by decide +kernel) ⟨Nat.le_of_ble_eq_true rfl, Nat.le_of_ble_eq_true rfl⟩) (k_preV hE hAH hK hP hD hS [0, 1, 2, 3] rfl rfl 0 rfl rfl) rfl rfl hl.1 rfl (lv_room (Nat.le_of_ble_eq_true rfl)) d_Md_isSafe_57 ⟨Nat.le_of_ble_eq_true rfl, Nat.le_of_ble_eq_true rfl⟩) hP hD hS hA [0, 1, 2, 3] rfl rfl (fun r57 w1 H locs hpost hP hD hS => ?_)
                        obtain ⟨nu2, r0, hgd, rfl, rfl⟩ := hpost
                        have hP : va_P D kcl [(h, .inr (5, [.int (nI th), .int (nI n), .ref a1, .ref a2, .ref a3, .ref a4, .int (nI wi), .int (nI bu), .int (nI L), .ref c1, .int (nI ax), .int (nI va), .int (nI sl), .int cv, .int (nI me), .ref b1, .ref b2, .int (nI L2), .ref c2, .int (nI mn), .ref r1, .ref r2, .ref z1, .ref n1, .ref t1])), (n1, .inl (cI, 4, .inl (wA nu2))), (r2, .inl (cI, 10, .inl (wA ru))), (z1, .inl (cZ, 1500, .inl (wA y)))] H := hP
                        have hD : va_D A [(h, .inr (5, [.int (nI th), .int (nI n), .ref a1, .ref a2, .ref a3, .ref a4, .int (nI wi), .int (nI bu), .int (nI L), .ref c1, .int (nI ax), .int (nI va), .int (nI sl), .int cv, .int (nI me), .ref b1, .ref b2, .int (nI L2), .ref c2, .int (nI mn), .ref r1, .ref r2, .ref z1, .ref n1, .ref t1])), (n1, .inl (cI, 4, .inl (wA nu2))), (r2, .inl (cI, 10, .inl (wA ru))), (z1, .inl (cZ, 1500, .inl (wA y)))] := hD
                        have hr0b : r0 < 2 ^ 31 := by have := md_gd_le hgd; omega
                        refine lv_if_ge hx hb d_Md_isSafe_60 rfl (fun h60 => ?_) (fun h60 => ?_)
                        · refine wi_inc (k := 3) (lv' := [(3, .int (nI (x + 1))), (0, .ref h), (1, .int (nI (pw_w ru mn))), (2, .int (nI e2))]) hx hb d_Md_isSafe_72 hl rfl (by decide) rfl (fun ls hl => ?_)
                          refine lv_goto hx hb d_Md_isSafe_75 rfl ?_
                          have hgx : pw_gd mn ru (md_bo y) x := (md_gd_iff hgd).mp ((oI_ge hr0b).mp h60)
                          have hchn : (e2 = 0 ∧ y = z ∧ ∀ j, j < x + 1 → md_bo z j = true → pw_gd mn ru (md_bo z) j) ∨ (e2 = 1 ∧ pw_ct (md_bo y) (pw_w ru mn) < pw_ct (md_bo z) (pw_w ru mn)) := by
                            rcases hch with ⟨a, b, c1⟩ | h
                            · subst b; exact Or.inl ⟨a, rfl, lt_s c1 (fun _ => hgx)⟩
                            · exact Or.inr h
                          exact ih41 (pw_w ru mn - (x + 1)) (by omega) (x + 1) (nu2) (y) (e2) ls H locs rfl (by omega) hyM hy2 he2 hchn (lv_sub hl [1, 2, 3, 0] rfl) hP hD hS
                        · refine lv_aload_n hx hb d_Md_isSafe_63 rfl (lv_at hl 0 rfl) ?_
                          refine va_get (D := D) (ci := 5) (v := .ref z1) (C := R_Md) (T := T_Md) (N := 25) hx hb ht u_Md hown hK hP 0 rfl rfl 22 (by decide) (ht _ wd_917) (fun _ h9 => h9) rfl d_Md_isSafe_64 ?_
                          refine lv_iload_n hx hb d_Md_isSafe_67 rfl (lv_at hl 3 rfl) ?_
                          refine lv_iconst (v := nI 0) hx hb d_Md_isSafe_68 (by decide) ?_
                          refine wi_zast hx hb hK hP hD hS 3 1 rfl rfl (by omega) (by omega) (by decide) d_Md_isSafe_69 (fun H locs hP hD hS => ?_)
                          have hP : va_P D kcl [(h, .inr (5, [.int (nI th), .int (nI n), .ref a1, .ref a2, .ref a3, .ref a4, .int (nI wi), .int (nI bu), .int (nI L), .ref c1, .int (nI ax), .int (nI va), .int (nI sl), .int cv, .int (nI me), .ref b1, .ref b2, .int (nI L2), .ref c2, .int (nI mn), .ref r1, .ref r2, .ref z1, .ref n1, .ref t1])), (n1, .inl (cI, 4, .inl (wA nu2))), (r2, .inl (cI, 10, .inl (wA ru))), (z1, .inl (cZ, 1500, .inl (wA (va_up y x 0))))] H := hP
                          have hD : va_D A [(h, .inr (5, [.int (nI th), .int (nI n), .ref a1, .ref a2, .ref a3, .ref a4, .int (nI wi), .int (nI bu), .int (nI L), .ref c1, .int (nI ax), .int (nI va), .int (nI sl), .int cv, .int (nI me), .ref b1, .ref b2, .int (nI L2), .ref c2, .int (nI mn), .ref r1, .ref r2, .ref z1, .ref n1, .ref t1])), (n1, .inl (cI, 4, .inl (wA nu2))), (r2, .inl (cI, 10, .inl (wA ru))), (z1, .inl (cZ, 1500, .inl (wA (va_up y x 0))))] := hD
                          refine lv_iconst (v := nI 1) hx hb d_Md_isSafe_70 (by decide) ?_
                          refine lv_istore_n (lv' := [(2, .int (nI 1)), (0, .ref h), (1, .int (nI (pw_w ru mn))), (3, .int (nI x))]) hx hb d_Md_isSafe_71 rfl hl (by decide) rfl (fun ls hl => ?_)
                          refine wi_inc (k := 3) (lv' := [(3, .int (nI (x + 1))), (2, .int (nI 1)), (0, .ref h), (1, .int (nI (pw_w ru mn)))]) hx hb d_Md_isSafe_72 hl rfl (by decide) rfl (fun ls hl => ?_)
                          refine lv_goto hx hb d_Md_isSafe_75 rfl ?_
                          have hgx : ¬ pw_gd mn ru (md_bo y) x := fun q => h60 ((oI_ge hr0b).mpr ((md_gd_iff hgd).mpr q))
                          have hyM2 : pw_M mn ru (md_bo (va_up y x 0)) := by rw [md_bo_up]; exact pw_M_off hyM (fun j hj => (hru j hj).1) hgx
                          have hy3 : ∀ j, j < pw_w ru mn → va_up y x 0 j < 2 := fun j hj => by
                            by_cases q : j = x
                            · rw [q, va_up_self]; decide
                            · rw [va_up_ne _ _ q]; exact hy2 j hj
                          have hcu := md_ct_up (z := y) (s := x) h43 (by omega)
                          have hcl : pw_ct (md_bo (va_up y x 0)) (pw_w ru mn) < pw_ct (md_bo z) (pw_w ru mn) := by
                            rcases hch with ⟨a, b, c1⟩ | h
                            · subst b; exact hcu
                            · omega
                          exact ih41 (pw_w ru mn - (x + 1)) (by omega) (x + 1) (nu2) (va_up y x 0) (1) ls H locs rfl (by omega) hyM2 hy3 (by decide) (Or.inr ⟨rfl, hcl⟩) (lv_sub hl [2, 3, 1, 0] rfl) hP hD hS
                exact loop41 _ (0) (u) (z) (0) ls H locs rfl (Nat.zero_le _) hM hz2 (by decide) (Or.inl ⟨rfl, rfl, lt_0⟩) (lv_sub hl [2, 3, 1, 0] rfl) hP hD hS
          exact loop33 _ (nu) (z) (0) ls H locs rfl (fun x hx9 _ => by simp [md_bo, hz1 x (by omega)]) (fun x hx9 => by rw [hz1 x (by omega)]; decide) (by decide) (by first | exact fun _ z => absurd z (by decide) | exact fun z => absurd z (by omega)) (fun _ => hz1 _ (by omega)) (by first | exact fun _ => rfl | exact fun z => absurd z (by omega)) (lv_sub hl [1, 2, 0] rfl) hP hD hS
        · refine lv_iconst (v := nI 1) hx hb d_Md_isSafe_27 (by decide) ?_
          refine lv_goto hx hb d_Md_isSafe_28 rfl ?_
          refine lv_istore_n (lv' := [(2, .int (nI 1)), (0, .ref h), (1, .int (nI (pw_w ru mn)))]) hx hb d_Md_isSafe_32 rfl hl (by decide) rfl (fun ls hl => ?_)
          have loop33 : ∀ (d : Nat) (u : Nat → Nat) (z : Nat → Nat) (e9 : Nat) (ls : Array Slot) (H : Heap) (locs : List Loc), 2 * pw_ct (md_bo z) (pw_w ru mn) + e9 = d → (pw_M mn ru (md_bo z)) → (∀ x, x < pw_w ru mn → z x < 2) → (e9 < 2) → (0 < mn → e9 = 0 → ∀ x, x < pw_w ru mn → md_bo z x = true → pw_gd mn ru (md_bo z) x) → (mn = 0 → z (pw_w ru mn - 1) = 1) → (mn = 0 → e9 = 0) → lv_has ls 4 [(0, .ref h), (1, .int (nI (pw_w ru mn))), (2, .int (nI e9))] → va_P D kcl [(h, .inr (5, [.int (nI th), .int (nI n), .ref a1, .ref a2, .ref a3, .ref a4, .int (nI wi), .int (nI bu), .int (nI L), .ref c1, .int (nI ax), .int (nI va), .int (nI sl), .int cv, .int (nI me), .ref b1, .ref b2, .int (nI L2), .ref c2, .int (nI mn), .ref r1, .ref r2, .ref z1, .ref n1, .ref t1])), (n1, .inl (cI, 4, .inl (wA u))), (r2, .inl (cI, 10, .inl (wA ru))), (z1, .inl (cZ, 1500, .inl (wA z)))] H → va_D A [(h, .inr (5, [.int (nI th), .int (nI n), .ref a1, .ref a2, .ref a3, .ref a4, .int (nI wi), .int (nI bu), .int (nI L), .ref c1, .int (nI ax), .int (nI va), .int (nI sl), .int cv, .int (nI me), .ref b1, .ref b2, .int (nI L2), .ref c2, .int (nI mn), .ref r1, .ref r2, .ref z1, .ref n1, .ref t1])), (n1, .inl (cI, 4, .inl (wA u))), (r2, .inl (cI, 10, .inl (wA ru))), (z1, .inl (cZ, 1500, .inl (wA z)))] → va_S A s.heap H locs → W p l e ({ frames := 3, cells := 0, slots := 0, locals := 72 } : Room) s m args below meth c H locs 0 0 Q (F0 m 33 ls []) := by
            intro d
            induction d using Nat.strongRecOn with
            | ind d ih33 =>
              intro u z e9 ls H locs hd33 hM hz2 he9 hg hm0 hm0e hl hP hD hS
              refine lv_iload_n hx hb d_Md_isSafe_33 rfl (lv_at hl 2 rfl) ?_
              refine wi_if_eq hx hb d_Md_isSafe_34 rfl (by omega) (fun h34 => ?_) (fun h34 => ?_)
              · refine lv_aload_n hx hb d_Md_isSafe_81 rfl (lv_at hl 0 rfl) ?_
                refine va_get (D := D) (ci := 5) (v := .ref z1) (C := R_Md) (T := T_Md) (N := 25) hx hb ht u_Md hown hK hP 0 rfl rfl 22 (by decide) (ht _ wd_917) (fun _ h9 => h9) rfl d_Md_isSafe_82 ?_
                refine lv_iload_n hx hb d_Md_isSafe_85 rfl (lv_at hl 1 rfl) ?_
                refine lv_iconst (v := nI 1) hx hb d_Md_isSafe_86 (by decide) ?_
                refine wi_sub hx hb d_Md_isSafe_87 (by omega) ?_
                refine wi_zald hx hb hK hP 3 1 rfl rfl (by omega) (by decide) d_Md_isSafe_88 ?_
                have hfin : 0 < mn → ∀ x, x < pw_w ru mn → (z x ≠ 0 ↔ pw_safe mn ru x) := fun q x hx9 => by
                  rw [← pw_M_end hM (fun j hj => (hru j hj).1) (hg q h34) x hx9]
                  simp [md_bo]
                exact k_retz hQ hx hb hr hlk hAe hK hP hD hS (Nat.le_of_ble_eq_true rfl) (Nat.le_of_ble_eq_true rfl) (Nat.le_of_ble_eq_true rfl) (nb01 (hz2 _ (by omega))) ⟨u, z, hfin, hm0, hz2, rfl, rfl⟩ d_Md_isSafe_89
              · have he1 : e9 = 1 := by omega
                have hmp : 0 < mn := Nat.pos_of_ne_zero fun z => by have := hm0e z; omega
                subst he1
                refine lv_iconst (v := nI 0) hx hb d_Md_isSafe_37 (by decide) ?_
                refine lv_istore_n (lv' := [(2, .int (nI 0)), (0, .ref h), (1, .int (nI (pw_w ru mn)))]) hx hb d_Md_isSafe_38 rfl hl (by decide) rfl (fun ls hl => ?_)
                refine lv_iconst (v := nI 0) hx hb d_Md_isSafe_39 (by decide) ?_
                refine lv_istore_n (lv' := [(3, .int (nI 0)), (2, .int (nI 0)), (0, .ref h), (1, .int (nI (pw_w ru mn)))]) hx hb d_Md_isSafe_40 rfl hl (by decide) rfl (fun ls hl => ?_)
                have loop41 : ∀ (d : Nat) (x : Nat) (u2 : Nat → Nat) (y : Nat → Nat) (e2 : Nat) (ls : Array Slot) (H : Heap) (locs : List Loc), pw_w ru mn - x = d → (x ≤ pw_w ru mn) → (pw_M mn ru (md_bo y)) → (∀ x, x < pw_w ru mn → y x < 2) → (e2 < 2) → ((e2 = 0 ∧ y = z ∧ ∀ j, j < x → md_bo z j = true → pw_gd mn ru (md_bo z) j) ∨ (e2 = 1 ∧ pw_ct (md_bo y) (pw_w ru mn) < pw_ct (md_bo z) (pw_w ru mn))) → lv_has ls 4 [(0, .ref h), (1, .int (nI (pw_w ru mn))), (2, .int (nI e2)), (3, .int (nI x))] → va_P D kcl [(h, .inr (5, [.int (nI th), .int (nI n), .ref a1, .ref a2, .ref a3, .ref a4, .int (nI wi), .int (nI bu), .int (nI L), .ref c1, .int (nI ax), .int (nI va), .int (nI sl), .int cv, .int (nI me), .ref b1, .ref b2, .int (nI L2), .ref c2, .int (nI mn), .ref r1, .ref r2, .ref z1, .ref n1, .ref t1])), (n1, .inl (cI, 4, .inl (wA u2))), (r2, .inl (cI, 10, .inl (wA ru))), (z1, .inl (cZ, 1500, .inl (wA y)))] H → va_D A [(h, .inr (5, [.int (nI th), .int (nI n), .ref a1, .ref a2, .ref a3, .ref a4, .int (nI wi), .int (nI bu), .int (nI L), .ref c1, .int (nI ax), .int (nI va), .int (nI sl), .int cv, .int (nI me), .ref b1, .ref b2, .int (nI L2), .ref c2, .int (nI mn), .ref r1, .ref r2, .ref z1, .ref n1, .ref t1])), (n1, .inl (cI, 4, .inl (wA u2))), (r2, .inl (cI, 10, .inl (wA ru))), (z1, .inl (cZ, 1500, .inl (wA y)))] → va_S A s.heap H locs → W p l e ({ frames := 3, cells := 0, slots := 0, locals := 72 } : Room) s m args below meth c H locs 0 0 Q (F0 m 41 ls []) := by
                  intro d
                  induction d using Nat.strongRecOn with
                  | ind d ih41 =>
                    intro x u2 y e2 ls H locs hd41 hxk hyM hy2 he2 hch hl hP hD hS
                    refine lv_iload_n hx hb d_Md_isSafe_41 rfl (lv_at hl 3 rfl) ?_
                    refine lv_iload_n hx hb d_Md_isSafe_42 rfl (lv_at hl 1 rfl) ?_
                    refine wi_ge hx hb d_Md_isSafe_43 rfl (by omega) (by omega) (fun h43 => ?_) (fun h43 => ?_)
                    · have hdec : 2 * pw_ct (md_bo y) (pw_w ru mn) + e2 < 2 * pw_ct (md_bo z) (pw_w ru mn) + 1 := by
                        rcases hch with ⟨a, b, c1⟩ | ⟨a, b⟩
                        · subst b; omega
                        · omega
                      have hyg : 0 < mn → e2 = 0 → ∀ j, j < pw_w ru mn → md_bo y j = true → pw_gd mn ru (md_bo y) j := fun _ q => by
                        rcases hch with ⟨a, b, c1⟩ | ⟨a, b⟩
                        · subst b; exact fun j hj => c1 j (by omega)
                        · omega
                      have hym : mn = 0 → y (pw_w ru mn - 1) = 1 := fun q => by omega
                      have hm0p : mn = 0 → e2 = 0 := fun q => by omega
                      refine lv_goto hx hb d_Md_isSafe_78 rfl ?_
                      have hxW : x = pw_w ru mn := by omega
                      exact ih33 (2 * pw_ct (md_bo (y)) (pw_w ru mn) + (e2)) (by omega) (u2) (y) (e2) ls H locs rfl hyM hy2 he2 hyg hym hm0p (lv_sub hl [0, 1, 2] rfl) hP hD hS
                    · refine lv_aload_n hx hb d_Md_isSafe_46 rfl (lv_at hl 0 rfl) ?_
                      refine va_get (D := D) (ci := 5) (v := .ref z1) (C := R_Md) (T := T_Md) (N := 25) hx hb ht u_Md hown hK hP 0 rfl rfl 22 (by decide) (ht _ wd_917) (fun _ h9 => h9) rfl d_Md_isSafe_47 ?_
                      refine lv_iload_n hx hb d_Md_isSafe_50 rfl (lv_at hl 3 rfl) ?_
                      refine wi_zald hx hb hK hP 3 1 rfl rfl (by omega) (by omega) d_Md_isSafe_51 ?_
                      refine wi_if_eq hx hb d_Md_isSafe_52 rfl (by have := hy2 x h43; omega) (fun h52 => ?_) (fun h52 => ?_)
                      · refine wi_inc (k := 3) (lv' := [(3, .int (nI (x + 1))), (0, .ref h), (1, .int (nI (pw_w ru mn))), (2, .int (nI e2))]) hx hb d_Md_isSafe_72 hl rfl (by decide) rfl (fun ls hl => ?_)
                        refine lv_goto hx hb d_Md_isSafe_75 rfl ?_
                        have hchn : (e2 = 0 ∧ y = z ∧ ∀ j, j < x + 1 → md_bo z j = true → pw_gd mn ru (md_bo z) j) ∨ (e2 = 1 ∧ pw_ct (md_bo y) (pw_w ru mn) < pw_ct (md_bo z) (pw_w ru mn)) := by
                          rcases hch with ⟨a, b, c1⟩ | h
                          · subst b; exact Or.inl ⟨a, rfl, lt_s c1 (fun q => by simp [md_bo, h52] at q)⟩
                          · exact Or.inr h
                        exact ih41 (pw_w ru mn - (x + 1)) (by omega) (x + 1) (u2) (y) (e2) ls H locs rfl (by omega) hyM hy2 he2 hchn (lv_sub hl [1, 2, 3, 0] rfl) hP hD hS
                      · refine lv_aload_n hx hb d_Md_isSafe_55 rfl (lv_at hl 0 rfl) ?_
                        refine lv_iload_n hx hb d_Md_isSafe_56 rfl (lv_at hl 3 rfl) ?_
                        refine ck_i (wc := [(h, .inr (5, [.int (nI th), .int (nI n), .ref a1, .ref a2, .ref a3, .ref a4, .int (nI wi), .int (nI bu), .int (nI L), .ref c1, .int (nI ax), .int (nI va), .int (nI sl), .int cv, .int (nI me), .ref b1, .ref b2, .int (nI L2), .ref c2, .int (nI mn), .ref r1, .ref r2, .ref z1, .ref n1, .ref t1])), (n1, .inl (cI, 4, .inl (wA u2))), (r2, .inl (cI, 10, .inl (wA ru))), (z1, .inl (cZ, 1500, .inl (wA y)))]) (va_runV (As := [.int (nI x)]) (rest := []) (C := R_Md) ⟨hx, hb, hml, hown, ht⟩ (c_Md_good l Hs D cI cZ cL h a1 a2 a3 a4 c1 b1 b2 c2 r1 r2 z1 n1 t1 th n wi bu L ax va sl me L2 mn cv ru u2 y x hmn hru hW (by omega) hy2 H.size) (gw_V 1 ht wd_1033 wd_5 wd_1030 wd_1032 ws_39 (by decide +kernel) ⟨Nat.le_of_ble_eq_true rfl, Nat.le_of_ble_eq_true rfl⟩) (k_preV hE hAH hK hP hD hS [0, 1, 2, 3] rfl rfl 0 rfl rfl) rfl rfl hl.1 rfl (lv_room (Nat.le_of_ble_eq_true rfl)) d_Md_isSafe_57 ⟨Nat.le_of_ble_eq_true rfl, Nat.le_of_ble_eq_true rfl⟩) hP hD hS hA [0, 1, 2, 3] rfl rfl (fun r57 w1 H locs hpost hP hD hS => ?_)
                        obtain ⟨nu2, r0, hgd, rfl, rfl⟩ := hpost
                        have hP : va_P D kcl [(h, .inr (5, [.int (nI th), .int (nI n), .ref a1, .ref a2, .ref a3, .ref a4, .int (nI wi), .int (nI bu), .int (nI L), .ref c1, .int (nI ax), .int (nI va), .int (nI sl), .int cv, .int (nI me), .ref b1, .ref b2, .int (nI L2), .ref c2, .int (nI mn), .ref r1, .ref r2, .ref z1, .ref n1, .ref t1])), (n1, .inl (cI, 4, .inl (wA nu2))), (r2, .inl (cI, 10, .inl (wA ru))), (z1, .inl (cZ, 1500, .inl (wA y)))] H := hP
                        have hD : va_D A [(h, .inr (5, [.int (nI th), .int (nI n), .ref a1, .ref a2, .ref a3, .ref a4, .int (nI wi), .int (nI bu), .int (nI L), .ref c1, .int (nI ax), .int (nI va), .int (nI sl), .int cv, .int (nI me), .ref b1, .ref b2, .int (nI L2), .ref c2, .int (nI mn), .ref r1, .ref r2, .ref z1, .ref n1, .ref t1])), (n1, .inl (cI, 4, .inl (wA nu2))), (r2, .inl (cI, 10, .inl (wA ru))), (z1, .inl (cZ, 1500, .inl (wA y)))] := hD
                        have hr0b : r0 < 2 ^ 31 := by have := md_gd_le hgd; omega
                        refine lv_if_ge hx hb d_Md_isSafe_60 rfl (fun h60 => ?_) (fun h60 => ?_)
                        · refine wi_inc (k := 3) (lv' := [(3, .int (nI (x + 1))), (0, .ref h), (1, .int (nI (pw_w ru mn))), (2, .int (nI e2))]) hx hb d_Md_isSafe_72 hl rfl (by decide) rfl (fun ls hl => ?_)
                          refine lv_goto hx hb d_Md_isSafe_75 rfl ?_
                          have hgx : pw_gd mn ru (md_bo y) x := (md_gd_iff hgd).mp ((oI_ge hr0b).mp h60)
                          have hchn : (e2 = 0 ∧ y = z ∧ ∀ j, j < x + 1 → md_bo z j = true → pw_gd mn ru (md_bo z) j) ∨ (e2 = 1 ∧ pw_ct (md_bo y) (pw_w ru mn) < pw_ct (md_bo z) (pw_w ru mn)) := by
                            rcases hch with ⟨a, b, c1⟩ | h
                            · subst b; exact Or.inl ⟨a, rfl, lt_s c1 (fun _ => hgx)⟩
                            · exact Or.inr h
                          exact ih41 (pw_w ru mn - (x + 1)) (by omega) (x + 1) (nu2) (y) (e2) ls H locs rfl (by omega) hyM hy2 he2 hchn (lv_sub hl [1, 2, 3, 0] rfl) hP hD hS
                        · refine lv_aload_n hx hb d_Md_isSafe_63 rfl (lv_at hl 0 rfl) ?_
                          refine va_get (D := D) (ci := 5) (v := .ref z1) (C := R_Md) (T := T_Md) (N := 25) hx hb ht u_Md hown hK hP 0 rfl rfl 22 (by decide) (ht _ wd_917) (fun _ h9 => h9) rfl d_Md_isSafe_64 ?_
                          refine lv_iload_n hx hb d_Md_isSafe_67 rfl (lv_at hl 3 rfl) ?_
                          refine lv_iconst (v := nI 0) hx hb d_Md_isSafe_68 (by decide) ?_
                          refine wi_zast hx hb hK hP hD hS 3 1 rfl rfl (by omega) (by omega) (by decide) d_Md_isSafe_69 (fun H locs hP hD hS => ?_)
                          have hP : va_P D kcl [(h, .inr (5, [.int (nI th), .int (nI n), .ref a1, .ref a2, .ref a3, .ref a4, .int (nI wi), .int (nI bu), .int (nI L), .ref c1, .int (nI ax), .int (nI va), .int (nI sl), .int cv, .int (nI me), .ref b1, .ref b2, .int (nI L2), .ref c2, .int (nI mn), .ref r1, .ref r2, .ref z1, .ref n1, .ref t1])), (n1, .inl (cI, 4, .inl (wA nu2))), (r2, .inl (cI, 10, .inl (wA ru))), (z1, .inl (cZ, 1500, .inl (wA (va_up y x 0))))] H := hP
                          have hD : va_D A [(h, .inr (5, [.int (nI th), .int (nI n), .ref a1, .ref a2, .ref a3, .ref a4, .int (nI wi), .int (nI bu), .int (nI L), .ref c1, .int (nI ax), .int (nI va), .int (nI sl), .int cv, .int (nI me), .ref b1, .ref b2, .int (nI L2), .ref c2, .int (nI mn), .ref r1, .ref r2, .ref z1, .ref n1, .ref t1])), (n1, .inl (cI, 4, .inl (wA nu2))), (r2, .inl (cI, 10, .inl (wA ru))), (z1, .inl (cZ, 1500, .inl (wA (va_up y x 0))))] := hD
                          refine lv_iconst (v := nI 1) hx hb d_Md_isSafe_70 (by decide) ?_
                          refine lv_istore_n (lv' := [(2, .int (nI 1)), (0, .ref h), (1, .int (nI (pw_w ru mn))), (3, .int (nI x))]) hx hb d_Md_isSafe_71 rfl hl (by decide) rfl (fun ls hl => ?_)
                          refine wi_inc (k := 3) (lv' := [(3, .int (nI (x + 1))), (2, .int (nI 1)), (0, .ref h), (1, .int (nI (pw_w ru mn)))]) hx hb d_Md_isSafe_72 hl rfl (by decide) rfl (fun ls hl => ?_)
                          refine lv_goto hx hb d_Md_isSafe_75 rfl ?_
                          have hgx : ¬ pw_gd mn ru (md_bo y) x := fun q => h60 ((oI_ge hr0b).mpr ((md_gd_iff hgd).mpr q))
                          have hyM2 : pw_M mn ru (md_bo (va_up y x 0)) := by rw [md_bo_up]; exact pw_M_off hyM (fun j hj => (hru j hj).1) hgx
                          have hy3 : ∀ j, j < pw_w ru mn → va_up y x 0 j < 2 := fun j hj => by
                            by_cases q : j = x
                            · rw [q, va_up_self]; decide
                            · rw [va_up_ne _ _ q]; exact hy2 j hj
                          have hcu := md_ct_up (z := y) (s := x) h43 (by omega)
                          have hcl : pw_ct (md_bo (va_up y x 0)) (pw_w ru mn) < pw_ct (md_bo z) (pw_w ru mn) := by
                            rcases hch with ⟨a, b, c1⟩ | h
                            · subst b; exact hcu
                            · omega
                          exact ih41 (pw_w ru mn - (x + 1)) (by omega) (x + 1) (nu2) (va_up y x 0) (1) ls H locs rfl (by omega) hyM2 hy3 (by decide) (Or.inr ⟨rfl, hcl⟩) (lv_sub hl [2, 3, 1, 0] rfl) hP hD hS
                exact loop41 _ (0) (u) (z) (0) ls H locs rfl (Nat.zero_le _) hM hz2 (by decide) (Or.inl ⟨rfl, rfl, lt_0⟩) (lv_sub hl [2, 3, 1, 0] rfl) hP hD hS
          exact loop33 _ (nu) (z) (1) ls H locs rfl (fun x hx9 _ => by simp [md_bo, hz1 x (by omega)]) (fun x hx9 => by rw [hz1 x (by omega)]; decide) (by decide) (by first | exact fun _ z => absurd z (by decide) | exact fun z => absurd z (by omega)) (fun _ => hz1 _ (by omega)) (by first | exact fun _ => rfl | exact fun z => absurd z (by omega)) (lv_sub hl [1, 2, 0] rfl) hP hD hS
      · refine lv_aload_n hx hb d_Md_isSafe_7 rfl (lv_at hl 0 rfl) ?_
        refine va_get (D := D) (ci := 5) (v := .ref z1) (C := R_Md) (T := T_Md) (N := 25) hx hb ht u_Md hown hK hP 0 rfl rfl 22 (by decide) (ht _ wd_917) (fun _ h9 => h9) rfl d_Md_isSafe_8 ?_
        refine lv_iload_n hx hb d_Md_isSafe_11 rfl (lv_at hl 2 rfl) ?_
        refine lv_iconst (v := nI 1) hx hb d_Md_isSafe_12 (by decide) ?_
        refine wi_zast hx hb hK hP hD hS 3 1 rfl rfl (by omega) (by omega) (by decide) d_Md_isSafe_13 (fun H locs hP hD hS => ?_)
        have hP : va_P D kcl [(h, .inr (5, [.int (nI th), .int (nI n), .ref a1, .ref a2, .ref a3, .ref a4, .int (nI wi), .int (nI bu), .int (nI L), .ref c1, .int (nI ax), .int (nI va), .int (nI sl), .int cv, .int (nI me), .ref b1, .ref b2, .int (nI L2), .ref c2, .int (nI mn), .ref r1, .ref r2, .ref z1, .ref n1, .ref t1])), (n1, .inl (cI, 4, .inl (wA nu))), (r2, .inl (cI, 10, .inl (wA ru))), (z1, .inl (cZ, 1500, .inl (wA (va_up z k 1))))] H := hP
        have hD : va_D A [(h, .inr (5, [.int (nI th), .int (nI n), .ref a1, .ref a2, .ref a3, .ref a4, .int (nI wi), .int (nI bu), .int (nI L), .ref c1, .int (nI ax), .int (nI va), .int (nI sl), .int cv, .int (nI me), .ref b1, .ref b2, .int (nI L2), .ref c2, .int (nI mn), .ref r1, .ref r2, .ref z1, .ref n1, .ref t1])), (n1, .inl (cI, 4, .inl (wA nu))), (r2, .inl (cI, 10, .inl (wA ru))), (z1, .inl (cZ, 1500, .inl (wA (va_up z k 1))))] := hD
        refine wi_inc (k := 2) (lv' := [(2, .int (nI (k + 1))), (0, .ref h), (1, .int (nI (pw_w ru mn)))]) hx hb d_Md_isSafe_14 hl rfl (by decide) rfl (fun ls hl => ?_)
        refine lv_goto hx hb d_Md_isSafe_17 rfl ?_
        exact ih2 (pw_w ru mn - (k + 1)) (by omega) (k + 1) (va_up z k 1) ls H locs rfl (by omega) (up_lt (g := fun _ => 1) hz1) (lv_sub hl [1, 2, 0] rfl) hP hD hS
  exact loop2 _ (0) (zs) ls H locs rfl (Nat.zero_le _) lt_0 (lv_sub hl [1, 2, 0] rfl) hP hD hS
