set_option maxHeartbeats 4000000 in
set_option maxRecDepth 100000 in
theorem c_Md_common (l : Launch) (Hs : Heap) (D : va_G) (cI cZ cL : ClassId) (a : Nat) (b : Nat) (ha : a < 2 ^ 63) (hb9 : b < 5 ^ 23) (h0 : 0 < a) : kL l Hs D kcl (ty3 cI cZ cL) y_Md_common (mws y_Md_common b_Md_common 10 (Option.some Jvm.ClassFile.FieldType.long)) ({ frames := 0, cells := 0, slots := 0, locals := 0 } : Room) [.long (lN a), .long (lN b)] [] (fun r w => r = lN (pw_eu 92 a b) ∧ w = []) := by
  intro sz
  refine k_of (cc := b_Md_common) (maxL := 10) (ret := (Option.some Jvm.ClassFile.FieldType.long)) (by decide) rfl (Nat.le_of_ble_eq_true rfl) ?_
  intro p e s m args below meth c ls H locs A Q hQ hx hb hml hr hts hown hlk hnm hsz hAe hP hK hD hS hA hE hAH hl
  have ht : ∀ w ∈ mw, w.before args s = true := fun w h => hts w (List.mem_cons_of_mem _ h)
  have hl : lv_has ls 10 [(0, .long (lN a)), (2, .long (lN b))] := hl
  refine lv_lload_n hx hb d_Md_common_0 rfl (lv_at hl 0 rfl) ?_
  refine lv_lstore (lv' := [(4, .long (lN a)), (0, .long (lN a)), (2, .long (lN b))]) hx hb d_Md_common_1 hl (by decide) rfl (fun ls hl => ?_)
  refine lv_lload_n hx hb d_Md_common_3 rfl (lv_at hl 2 rfl) ?_
  refine lv_lstore (lv' := [(6, .long (lN b)), (4, .long (lN a)), (0, .long (lN a)), (2, .long (lN b))]) hx hb d_Md_common_4 hl (by decide) rfl (fun ls hl => ?_)
  have loop6 : ∀ (d : Nat) (x : Nat) (y : Nat) (f : Nat) (ls : Array Slot) (H : Heap) (locs : List Loc), f = d → (pw_ed f x y) → (pw_eu f x y = pw_eu 92 a b) → (0 < x) → (x < 2 ^ 63) → (y < 2 ^ 63) → lv_has ls 10 [(4, .long (lN x)), (6, .long (lN y))] → va_P D kcl [] H → va_D A [] → va_S A s.heap H locs → W p l e ({ frames := 0, cells := 0, slots := 0, locals := 0 } : Room) s m args below meth c H locs 0 0 Q (F0 m 6 ls []) := by
    intro d
    induction d using Nat.strongRecOn with
    | ind d ih6 =>
      intro x y f ls H locs hd6 hed heu hx0 hx9 hy9 hl hP hD hS
      refine lv_lload hx hb d_Md_common_6 (lv_at hl 1 rfl) ?_
      refine lv_lconst (v := lN 0) hx hb d_Md_common_8 (by decide) ?_
      refine W.lcmp hx hb d_Md_common_9 ?_
      refine lv_if_eq hx hb d_Md_common_10 rfl (fun h10 => ?_) (fun h10 => ?_)
      · have hy0 : y = 0 := (pk_lEQ hy9 (by decide)).mp (lg_eq0.mp h10)
        subst hy0
        have hres : x = pw_eu 92 a b := by rw [← heu, pw_eu_0]
        refine lv_lload hx hb d_Md_common_31 (lv_at hl 0 rfl) ?_
        exact k_retl hQ hx hb hr hlk hAe hK hP hD hS (Nat.le_of_ble_eq_true rfl) (Nat.le_of_ble_eq_true rfl) (Nat.le_of_ble_eq_true rfl) ⟨by rw [hres], rfl⟩ d_Md_common_33
      · have hy0 : y ≠ 0 := fun z => h10 (by rw [z]; exact lg_eq0.mpr rfl)
        obtain ⟨g, rfl, hg2, hg3⟩ := pw_ed_s hed hy0
        refine lv_lload hx hb d_Md_common_13 (lv_at hl 0 rfl) ?_
        refine lv_lload hx hb d_Md_common_15 (lv_at hl 1 rfl) ?_
        refine wl_rem hx hb d_Md_common_17 (by omega) (by omega) (by omega) ?_
        refine lv_lstore (lv' := [(8, .long (lN (x % y))), (4, .long (lN x)), (6, .long (lN y))]) hx hb d_Md_common_18 hl (by decide) rfl (fun ls hl => ?_)
        refine lv_lload hx hb d_Md_common_20 (lv_at hl 2 rfl) ?_
        refine lv_lstore (lv' := [(4, .long (lN y)), (8, .long (lN (x % y))), (6, .long (lN y))]) hx hb d_Md_common_22 hl (by decide) rfl (fun ls hl => ?_)
        refine lv_lload hx hb d_Md_common_24 (lv_at hl 1 rfl) ?_
        refine lv_lstore (lv' := [(6, .long (lN (x % y))), (4, .long (lN y)), (8, .long (lN (x % y)))]) hx hb d_Md_common_26 hl (by decide) rfl (fun ls hl => ?_)
        refine lv_goto hx hb d_Md_common_28 rfl ?_
        exact ih6 ((g)) (by omega) (y) (x % y) (g) ls H locs rfl hg2 (hg3.symm.trans heu) (by omega) hy9 (by have := Nat.mod_lt x (by omega : 0 < y); omega) (lv_sub hl [1, 0] rfl) hP hD hS
  exact loop6 _ (a) (b) (92) ls H locs rfl (pw_ed_fast 23 a b hb9) rfl h0 ha (by omega) (lv_sub hl [1, 0] rfl) hP hD hS
set_option maxHeartbeats 4000000 in
set_option maxRecDepth 100000 in
theorem c_Md_density0 (l : Launch) (Hs : Heap) (D : va_G) (cI cZ cL : ClassId) (h : Nat) (a1 : Nat) (a2 : Nat) (a3 : Nat) (a4 : Nat) (c1 : Nat) (b1 : Nat) (b2 : Nat) (c2 : Nat) (r1 : Nat) (r2 : Nat) (z1 : Nat) (n1 : Nat) (t1 : Nat) (th : Nat) (n : Nat) (wi : Nat) (bu : Nat) (L : Nat) (ax : Nat) (va : Nat) (sl : Nat) (me : Nat) (L2 : Nat) (mn : Nat) (cv : Int32) (f2 : Nat → Nat) (hn : n ≤ 10) (hf2 : ∀ t, t < n → 0 < f2 t ∧ f2 t ≤ 40) : kL l Hs D kcl (ty3 cI cZ cL) y_Md_density (mws y_Md_density b_Md_density 9 (Option.some Jvm.ClassFile.FieldType.long)) ({ frames := 1, cells := 0, slots := 0, locals := 29 } : Room) [.ref h, .int (nI 0)] [(h, .inr (5, [.int (nI th), .int (nI n), .ref a1, .ref a2, .ref a3, .ref a4, .int (nI wi), .int (nI bu), .int (nI L), .ref c1, .int (nI ax), .int (nI va), .int (nI sl), .int cv, .int (nI me), .ref b1, .ref b2, .int (nI L2), .ref c2, .int (nI mn), .ref r1, .ref r2, .ref z1, .ref n1, .ref t1])), (a2, .inl (cI, 10, .inl (wA f2)))] (fun r w => r = lN ((pw_de f2 n).1) ∧ w = [(h, .inr (5, [.int (nI 0), .int (nI n), .ref a1, .ref a2, .ref a3, .ref a4, .int (nI wi), .int (nI bu), .int (nI L), .ref c1, .int (nI ax), .int (nI va), .int (nI sl), .int cv, .int (nI me), .ref b1, .ref b2, .int (nI L2), .ref c2, .int (nI mn), .ref r1, .ref r2, .ref z1, .ref n1, .ref t1])), (a2, .inl (cI, 10, .inl (wA f2)))]) := by
  intro sz
  refine k_of (cc := b_Md_density) (maxL := 9) (ret := (Option.some Jvm.ClassFile.FieldType.long)) (by decide) rfl (Nat.le_of_ble_eq_true rfl) ?_
  intro p e s m args below meth c ls H locs A Q hQ hx hb hml hr hts hown hlk hnm hsz hAe hP hK hD hS hA hE hAH hl
  have ht : ∀ w ∈ mw, w.before args s = true := fun w h => hts w (List.mem_cons_of_mem _ h)
  have hl : lv_has ls 9 [(0, .ref h), (1, .int (nI 0))] := hl
  refine lv_aload_n hx hb d_Md_density_0 rfl (lv_at hl 0 rfl) ?_
  refine lv_iload_n hx hb d_Md_density_1 rfl (lv_at hl 1 rfl) ?_
  refine lv_iconst (v := nI 0) hx hb d_Md_density_2 (by decide) ?_
  refine lv_iconst (v := nI 1) hx hb d_Md_density_3 (by decide) ?_
  refine ck_i (wc := []) (va_runS (As := [.int (nI 0), .int (nI 0), .int (nI 1)]) (rest := [.ref h]) ⟨hx, hb, hml, hown, ht⟩ (c_Md_in1 l Hs D cI cZ cL (nI 0) (nI 0) (nI 1) (by decide) (by decide) H.size) (gw_S 3 ht wd_982 wd_5 wd_980 wd_981 (by decide +kernel) ⟨Nat.le_of_ble_eq_true rfl, Nat.le_of_ble_eq_true rfl⟩) (k_preS hE hAH hK hP hD hS [] rfl rfl) rfl rfl hl.1 rfl (lv_room (Nat.le_of_ble_eq_true rfl)) d_Md_density_4 ⟨Nat.le_of_ble_eq_true rfl, Nat.le_of_ble_eq_true rfl⟩) hP hD hS hA [] rfl rfl (fun r4 w1 H locs hpost hP hD hS => ?_)
  obtain ⟨rfl, rfl⟩ := hpost
  have hP : va_P D kcl [(h, .inr (5, [.int (nI th), .int (nI n), .ref a1, .ref a2, .ref a3, .ref a4, .int (nI wi), .int (nI bu), .int (nI L), .ref c1, .int (nI ax), .int (nI va), .int (nI sl), .int cv, .int (nI me), .ref b1, .ref b2, .int (nI L2), .ref c2, .int (nI mn), .ref r1, .ref r2, .ref z1, .ref n1, .ref t1])), (a2, .inl (cI, 10, .inl (wA f2)))] H := hP
  have hD : va_D A [(h, .inr (5, [.int (nI th), .int (nI n), .ref a1, .ref a2, .ref a3, .ref a4, .int (nI wi), .int (nI bu), .int (nI L), .ref c1, .int (nI ax), .int (nI va), .int (nI sl), .int cv, .int (nI me), .ref b1, .ref b2, .int (nI L2), .ref c2, .int (nI mn), .ref r1, .ref r2, .ref z1, .ref n1, .ref t1])), (a2, .inl (cI, 10, .inl (wA f2)))] := hD
  refine wi_if_ne hx hb d_Md_density_7 rfl (by decide) (fun _ => ?_) (fun h => absurd h (by decide))
  refine lv_iconst (v := nI 0) hx hb d_Md_density_14 (by decide) ?_
  refine lv_iconst (v := nI 0) hx hb d_Md_density_15 (by decide) ?_
  refine lv_iconst (v := nI 0) hx hb d_Md_density_16 (by decide) ?_
  refine ck_i (wc := [(h, .inr (5, [.int (nI th), .int (nI n), .ref a1, .ref a2, .ref a3, .ref a4, .int (nI wi), .int (nI bu), .int (nI L), .ref c1, .int (nI ax), .int (nI va), .int (nI sl), .int cv, .int (nI me), .ref b1, .ref b2, .int (nI L2), .ref c2, .int (nI mn), .ref r1, .ref r2, .ref z1, .ref n1, .ref t1]))]) (va_runV (As := [.int (nI 0), .int (nI 0), .int (nI 0)]) (rest := []) (C := R_Md) ⟨hx, hb, hml, hown, ht⟩ (c_Md_refuseD l Hs D cI cZ cL h a1 a2 a3 a4 c1 b1 b2 c2 r1 r2 z1 n1 t1 th n wi bu L ax va sl me L2 mn cv  H.size) (gw_V 3 ht wd_990 wd_5 wd_987 wd_989 ws_29 (by decide +kernel) ⟨Nat.le_of_ble_eq_true rfl, Nat.le_of_ble_eq_true rfl⟩) (k_preV hE hAH hK hP hD hS [0] rfl rfl 0 rfl rfl) rfl rfl hl.1 rfl (lv_room (Nat.le_of_ble_eq_true rfl)) d_Md_density_17 ⟨Nat.le_of_ble_eq_true rfl, Nat.le_of_ble_eq_true rfl⟩) hP hD hS hA [0] rfl rfl (fun r17 w1 H locs hpost hP hD hS => ?_)
  obtain ⟨rfl, rfl⟩ := hpost
  have hP : va_P D kcl [(h, .inr (5, [.int (nI 0), .int (nI n), .ref a1, .ref a2, .ref a3, .ref a4, .int (nI wi), .int (nI bu), .int (nI L), .ref c1, .int (nI ax), .int (nI va), .int (nI sl), .int cv, .int (nI me), .ref b1, .ref b2, .int (nI L2), .ref c2, .int (nI mn), .ref r1, .ref r2, .ref z1, .ref n1, .ref t1])), (a2, .inl (cI, 10, .inl (wA f2)))] H := hP
  have hD : va_D A [(h, .inr (5, [.int (nI 0), .int (nI n), .ref a1, .ref a2, .ref a3, .ref a4, .int (nI wi), .int (nI bu), .int (nI L), .ref c1, .int (nI ax), .int (nI va), .int (nI sl), .int cv, .int (nI me), .ref b1, .ref b2, .int (nI L2), .ref c2, .int (nI mn), .ref r1, .ref r2, .ref z1, .ref n1, .ref t1])), (a2, .inl (cI, 10, .inl (wA f2)))] := hD
  refine wi_if_eq hx hb d_Md_density_20 rfl (by decide) (fun _ => ?_) (fun h => absurd h (by decide))
  refine lv_lconst (v := lN 0) hx hb d_Md_density_25 (by decide) ?_
  refine lv_lstore_n (lv' := [(2, .long (lN 0)), (0, .ref h), (1, .int (nI 0))]) hx hb d_Md_density_26 rfl hl (by decide) rfl (fun ls hl => ?_)
  refine lv_lconst (v := lN 1) hx hb d_Md_density_27 (by decide) ?_
  refine lv_lstore (lv' := [(4, .long (lN 1)), (2, .long (lN 0)), (0, .ref h), (1, .int (nI 0))]) hx hb d_Md_density_28 hl (by decide) rfl (fun ls hl => ?_)
  refine lv_iconst (v := nI 0) hx hb d_Md_density_30 (by decide) ?_
  refine lv_istore (lv' := [(6, .int (nI 0)), (4, .long (lN 1)), (2, .long (lN 0)), (0, .ref h), (1, .int (nI 0))]) hx hb d_Md_density_31 hl (by decide) rfl (fun ls hl => ?_)
  have loop33 : ∀ (d : Nat) (k : Nat) (ls : Array Slot) (H : Heap) (locs : List Loc), n - k = d → (k ≤ n) → lv_has ls 9 [(0, .ref h), (1, .int (nI 0)), (2, .long (lN ((pw_de f2 k).1))), (4, .long (lN ((pw_de f2 k).2))), (6, .int (nI k))] → va_P D kcl [(h, .inr (5, [.int (nI 0), .int (nI n), .ref a1, .ref a2, .ref a3, .ref a4, .int (nI wi), .int (nI bu), .int (nI L), .ref c1, .int (nI ax), .int (nI va), .int (nI sl), .int cv, .int (nI me), .ref b1, .ref b2, .int (nI L2), .ref c2, .int (nI mn), .ref r1, .ref r2, .ref z1, .ref n1, .ref t1])), (a2, .inl (cI, 10, .inl (wA f2)))] H → va_D A [(h, .inr (5, [.int (nI 0), .int (nI n), .ref a1, .ref a2, .ref a3, .ref a4, .int (nI wi), .int (nI bu), .int (nI L), .ref c1, .int (nI ax), .int (nI va), .int (nI sl), .int cv, .int (nI me), .ref b1, .ref b2, .int (nI L2), .ref c2, .int (nI mn), .ref r1, .ref r2, .ref z1, .ref n1, .ref t1])), (a2, .inl (cI, 10, .inl (wA f2)))] → va_S A s.heap H locs → W p l e ({ frames := 1, cells := 0, slots := 0, locals := 29 } : Room) s m args below meth c H locs 0 0 Q (F0 m 33 ls []) := by
    intro d
    induction d using Nat.strongRecOn with
    | ind d ih33 =>
      intro k ls H locs hd33 hk hl hP hD hS
      refine lv_iload hx hb d_Md_density_33 (lv_at hl 4 rfl) ?_
      refine lv_aload_n hx hb d_Md_density_35 rfl (lv_at hl 0 rfl) ?_
      refine va_get (D := D) (ci := 5) (v := .int (nI n)) (C := R_Md) (T := T_Md) (N := 25) hx hb ht u_Md hown hK hP 0 rfl rfl 1 (by decide) (ht _ wd_896) (fun _ h9 => h9) rfl d_Md_density_36 ?_
      refine wi_ge hx hb d_Md_density_39 rfl (by omega) (by omega) (fun h39 => ?_) (fun h39 => ?_)
      · have hkn : k = n := by omega
        subst hkn
        refine lv_iload_n hx hb d_Md_density_95 rfl (lv_at hl 1 rfl) ?_
        refine wi_if_ne hx hb d_Md_density_96 rfl (by decide) (fun h => absurd h (by decide)) (fun _ => ?_)
        refine lv_lload_n hx hb d_Md_density_99 rfl (lv_at hl 2 rfl) ?_
        refine lv_goto hx hb d_Md_density_100 rfl ?_
        exact k_retl hQ hx hb hr hlk hAe hK hP hD hS (Nat.le_of_ble_eq_true rfl) (Nat.le_of_ble_eq_true rfl) (Nat.le_of_ble_eq_true rfl) ⟨rfl, rfl⟩ d_Md_density_105
      · have hst := pw_de_st hn hf2 h39
        have hfk := (hf2 k h39).2
        refine lv_lload_n hx hb d_Md_density_42 rfl (lv_at hl 2 rfl) ?_
        refine lv_aload_n hx hb d_Md_density_43 rfl (lv_at hl 0 rfl) ?_
        refine va_get (D := D) (ci := 5) (v := .ref a2) (C := R_Md) (T := T_Md) (N := 25) hx hb ht u_Md hown hK hP 0 rfl rfl 3 (by decide) (ht _ wd_898) (fun _ h9 => h9) rfl d_Md_density_44 ?_
        refine lv_iload hx hb d_Md_density_47 (lv_at hl 4 rfl) ?_
        refine wi_ald hx hb hK hP 1 0 rfl rfl (by omega) (by omega) d_Md_density_49 ?_
        refine lv_i2l (v := lN (f2 k)) hx hb d_Md_density_50 (nI_l (by omega)) ?_
        refine wl_mul hx hb d_Md_density_51  ?_
        refine lv_lload hx hb d_Md_density_52 (lv_at hl 3 rfl) ?_
        refine wl_add hx hb d_Md_density_54  ?_
        refine lv_lstore_n (lv' := [(2, .long (lN ((((pw_de f2 k).1) * (f2 k)) + ((pw_de f2 k).2)))), (0, .ref h), (1, .int (nI 0)), (4, .long (lN ((pw_de f2 k).2))), (6, .int (nI k))]) hx hb d_Md_density_55 rfl hl (by decide) rfl (fun ls hl => ?_)
        refine lv_lload hx hb d_Md_density_56 (lv_at hl 3 rfl) ?_
        refine lv_aload_n hx hb d_Md_density_58 rfl (lv_at hl 1 rfl) ?_
        refine va_get (D := D) (ci := 5) (v := .ref a2) (C := R_Md) (T := T_Md) (N := 25) hx hb ht u_Md hown hK hP 0 rfl rfl 3 (by decide) (ht _ wd_898) (fun _ h9 => h9) rfl d_Md_density_59 ?_
        refine lv_iload hx hb d_Md_density_62 (lv_at hl 4 rfl) ?_
        refine wi_ald hx hb hK hP 1 0 rfl rfl (by omega) (by omega) d_Md_density_64 ?_
        refine lv_i2l (v := lN (f2 k)) hx hb d_Md_density_65 (nI_l (by omega)) ?_
        refine wl_mul hx hb d_Md_density_66  ?_
        refine lv_lstore (lv' := [(4, .long (lN (((pw_de f2 k).2) * (f2 k)))), (2, .long (lN ((((pw_de f2 k).1) * (f2 k)) + ((pw_de f2 k).2)))), (0, .ref h), (1, .int (nI 0)), (6, .int (nI k))]) hx hb d_Md_density_67 hl (by decide) rfl (fun ls hl => ?_)
        refine lv_lload_n hx hb d_Md_density_69 rfl (lv_at hl 1 rfl) ?_
        refine lv_lload hx hb d_Md_density_70 (lv_at hl 0 rfl) ?_
        refine ck_l (wc := []) (va_runS (As := [.long (lN ((pw_de f2 k).1 * f2 k + (pw_de f2 k).2)), .long (lN ((pw_de f2 k).2 * f2 k))]) (rest := []) ⟨hx, hb, hml, hown, ht⟩ (c_Md_common l Hs D cI cZ cL ((pw_de f2 k).1 * f2 k + (pw_de f2 k).2) ((pw_de f2 k).2 * f2 k) hst.1 hst.2.1 hst.2.2.1 H.size) (gw_S 2 ht wd_1096 wd_5 wd_1094 wd_1095 (by decide +kernel) ⟨Nat.le_of_ble_eq_true rfl, Nat.le_of_ble_eq_true rfl⟩) (k_preS hE hAH hK hP hD hS [] rfl rfl) rfl rfl hl.1 rfl (lv_room (Nat.le_of_ble_eq_true rfl)) d_Md_density_72 ⟨Nat.le_of_ble_eq_true rfl, Nat.le_of_ble_eq_true rfl⟩) hP hD hS hA [] rfl rfl (fun r72 w1 H locs hpost hP hD hS => ?_)
        obtain ⟨rfl, rfl⟩ := hpost
        have hP : va_P D kcl [(h, .inr (5, [.int (nI 0), .int (nI n), .ref a1, .ref a2, .ref a3, .ref a4, .int (nI wi), .int (nI bu), .int (nI L), .ref c1, .int (nI ax), .int (nI va), .int (nI sl), .int cv, .int (nI me), .ref b1, .ref b2, .int (nI L2), .ref c2, .int (nI mn), .ref r1, .ref r2, .ref z1, .ref n1, .ref t1])), (a2, .inl (cI, 10, .inl (wA f2)))] H := hP
        have hD : va_D A [(h, .inr (5, [.int (nI 0), .int (nI n), .ref a1, .ref a2, .ref a3, .ref a4, .int (nI wi), .int (nI bu), .int (nI L), .ref c1, .int (nI ax), .int (nI va), .int (nI sl), .int cv, .int (nI me), .ref b1, .ref b2, .int (nI L2), .ref c2, .int (nI mn), .ref r1, .ref r2, .ref z1, .ref n1, .ref t1])), (a2, .inl (cI, 10, .inl (wA f2)))] := hD
        have hgp := pw_eu_pos 92 ((pw_de f2 k).1 * f2 k + (pw_de f2 k).2) ((pw_de f2 k).2 * f2 k) hst.2.2.1
        refine lv_lstore (lv' := [(7, .long (lN (pw_eu 92 ((pw_de f2 k).1 * f2 k + (pw_de f2 k).2) ((pw_de f2 k).2 * f2 k)))), (4, .long (lN (((pw_de f2 k).2) * (f2 k)))), (2, .long (lN ((((pw_de f2 k).1) * (f2 k)) + ((pw_de f2 k).2)))), (0, .ref h), (1, .int (nI 0)), (6, .int (nI k))]) hx hb d_Md_density_75 hl (by decide) rfl (fun ls hl => ?_)
        refine lv_lload_n hx hb d_Md_density_77 rfl (lv_at hl 2 rfl) ?_
        refine lv_lload hx hb d_Md_density_78 (lv_at hl 0 rfl) ?_
        refine wl_div hx hb d_Md_density_80 hst.1 hgp hst.2.2.2.2 ?_
        refine lv_lstore_n (lv' := [(2, .long (lN (((((pw_de f2 k).1) * (f2 k)) + ((pw_de f2 k).2)) / (pw_eu 92 ((pw_de f2 k).1 * f2 k + (pw_de f2 k).2) ((pw_de f2 k).2 * f2 k))))), (7, .long (lN (pw_eu 92 ((pw_de f2 k).1 * f2 k + (pw_de f2 k).2) ((pw_de f2 k).2 * f2 k)))), (4, .long (lN (((pw_de f2 k).2) * (f2 k)))), (0, .ref h), (1, .int (nI 0)), (6, .int (nI k))]) hx hb d_Md_density_81 rfl hl (by decide) rfl (fun ls hl => ?_)
        refine lv_lload hx hb d_Md_density_82 (lv_at hl 2 rfl) ?_
        refine lv_lload hx hb d_Md_density_84 (lv_at hl 1 rfl) ?_
        refine wl_div hx hb d_Md_density_86 (Nat.lt_trans hst.2.1 (by decide)) hgp hst.2.2.2.2 ?_
        refine lv_lstore (lv' := [(4, .long (lN ((((pw_de f2 k).2) * (f2 k)) / (pw_eu 92 ((pw_de f2 k).1 * f2 k + (pw_de f2 k).2) ((pw_de f2 k).2 * f2 k))))), (2, .long (lN (((((pw_de f2 k).1) * (f2 k)) + ((pw_de f2 k).2)) / (pw_eu 92 ((pw_de f2 k).1 * f2 k + (pw_de f2 k).2) ((pw_de f2 k).2 * f2 k))))), (7, .long (lN (pw_eu 92 ((pw_de f2 k).1 * f2 k + (pw_de f2 k).2) ((pw_de f2 k).2 * f2 k)))), (0, .ref h), (1, .int (nI 0)), (6, .int (nI k))]) hx hb d_Md_density_87 hl (by decide) rfl (fun ls hl => ?_)
        refine wi_inc (k := 5) (lv' := [(6, .int (nI (k + 1))), (4, .long (lN ((((pw_de f2 k).2) * (f2 k)) / (pw_eu 92 ((pw_de f2 k).1 * f2 k + (pw_de f2 k).2) ((pw_de f2 k).2 * f2 k))))), (2, .long (lN (((((pw_de f2 k).1) * (f2 k)) + ((pw_de f2 k).2)) / (pw_eu 92 ((pw_de f2 k).1 * f2 k + (pw_de f2 k).2) ((pw_de f2 k).2 * f2 k))))), (7, .long (lN (pw_eu 92 ((pw_de f2 k).1 * f2 k + (pw_de f2 k).2) ((pw_de f2 k).2 * f2 k)))), (0, .ref h), (1, .int (nI 0))]) hx hb d_Md_density_89 hl rfl (by decide) rfl (fun ls hl => ?_)
        refine lv_goto hx hb d_Md_density_92 rfl ?_
        exact ih33 (n - (k + 1)) (by omega) (k + 1) ls H locs rfl (by omega) (lv_sub hl [4, 5, 2, 1, 0] rfl) hP hD hS
  exact loop33 _ (0) ls H locs rfl (Nat.zero_le _) (lv_sub hl [3, 4, 2, 1, 0] rfl) hP hD hS
set_option maxHeartbeats 4000000 in
set_option maxRecDepth 100000 in
theorem c_Md_density1 (l : Launch) (Hs : Heap) (D : va_G) (cI cZ cL : ClassId) (h : Nat) (a1 : Nat) (a2 : Nat) (a3 : Nat) (a4 : Nat) (c1 : Nat) (b1 : Nat) (b2 : Nat) (c2 : Nat) (r1 : Nat) (r2 : Nat) (z1 : Nat) (n1 : Nat) (t1 : Nat) (th : Nat) (n : Nat) (wi : Nat) (bu : Nat) (L : Nat) (ax : Nat) (va : Nat) (sl : Nat) (me : Nat) (L2 : Nat) (mn : Nat) (cv : Int32) (f2 : Nat → Nat) (hn : n ≤ 10) (hf2 : ∀ t, t < n → 0 < f2 t ∧ f2 t ≤ 40) : kL l Hs D kcl (ty3 cI cZ cL) y_Md_density (mws y_Md_density b_Md_density 9 (Option.some Jvm.ClassFile.FieldType.long)) ({ frames := 1, cells := 0, slots := 0, locals := 29 } : Room) [.ref h, .int (nI 1)] [(h, .inr (5, [.int (nI th), .int (nI n), .ref a1, .ref a2, .ref a3, .ref a4, .int (nI wi), .int (nI bu), .int (nI L), .ref c1, .int (nI ax), .int (nI va), .int (nI sl), .int cv, .int (nI me), .ref b1, .ref b2, .int (nI L2), .ref c2, .int (nI mn), .ref r1, .ref r2, .ref z1, .ref n1, .ref t1])), (a2, .inl (cI, 10, .inl (wA f2)))] (fun r w => r = lN ((pw_de f2 n).2) ∧ w = [(h, .inr (5, [.int (nI 0), .int (nI n), .ref a1, .ref a2, .ref a3, .ref a4, .int (nI wi), .int (nI bu), .int (nI L), .ref c1, .int (nI ax), .int (nI va), .int (nI sl), .int cv, .int (nI me), .ref b1, .ref b2, .int (nI L2), .ref c2, .int (nI mn), .ref r1, .ref r2, .ref z1, .ref n1, .ref t1])), (a2, .inl (cI, 10, .inl (wA f2)))]) := by
  intro sz
  refine k_of (cc := b_Md_density) (maxL := 9) (ret := (Option.some Jvm.ClassFile.FieldType.long)) (by decide) rfl (Nat.le_of_ble_eq_true rfl) ?_
  intro p e s m args below meth c ls H locs A Q hQ hx hb hml hr hts hown hlk hnm hsz hAe hP hK hD hS hA hE hAH hl
  have ht : ∀ w ∈ mw, w.before args s = true := fun w h => hts w (List.mem_cons_of_mem _ h)
  have hl : lv_has ls 9 [(0, .ref h), (1, .int (nI 1))] := hl
  refine lv_aload_n hx hb d_Md_density_0 rfl (lv_at hl 0 rfl) ?_
  refine lv_iload_n hx hb d_Md_density_1 rfl (lv_at hl 1 rfl) ?_
  refine lv_iconst (v := nI 0) hx hb d_Md_density_2 (by decide) ?_
  refine lv_iconst (v := nI 1) hx hb d_Md_density_3 (by decide) ?_
  refine ck_i (wc := []) (va_runS (As := [.int (nI 1), .int (nI 0), .int (nI 1)]) (rest := [.ref h]) ⟨hx, hb, hml, hown, ht⟩ (c_Md_in1 l Hs D cI cZ cL (nI 1) (nI 0) (nI 1) (by decide) (by decide) H.size) (gw_S 3 ht wd_982 wd_5 wd_980 wd_981 (by decide +kernel) ⟨Nat.le_of_ble_eq_true rfl, Nat.le_of_ble_eq_true rfl⟩) (k_preS hE hAH hK hP hD hS [] rfl rfl) rfl rfl hl.1 rfl (lv_room (Nat.le_of_ble_eq_true rfl)) d_Md_density_4 ⟨Nat.le_of_ble_eq_true rfl, Nat.le_of_ble_eq_true rfl⟩) hP hD hS hA [] rfl rfl (fun r4 w1 H locs hpost hP hD hS => ?_)
  obtain ⟨rfl, rfl⟩ := hpost
  have hP : va_P D kcl [(h, .inr (5, [.int (nI th), .int (nI n), .ref a1, .ref a2, .ref a3, .ref a4, .int (nI wi), .int (nI bu), .int (nI L), .ref c1, .int (nI ax), .int (nI va), .int (nI sl), .int cv, .int (nI me), .ref b1, .ref b2, .int (nI L2), .ref c2, .int (nI mn), .ref r1, .ref r2, .ref z1, .ref n1, .ref t1])), (a2, .inl (cI, 10, .inl (wA f2)))] H := hP
  have hD : va_D A [(h, .inr (5, [.int (nI th), .int (nI n), .ref a1, .ref a2, .ref a3, .ref a4, .int (nI wi), .int (nI bu), .int (nI L), .ref c1, .int (nI ax), .int (nI va), .int (nI sl), .int cv, .int (nI me), .ref b1, .ref b2, .int (nI L2), .ref c2, .int (nI mn), .ref r1, .ref r2, .ref z1, .ref n1, .ref t1])), (a2, .inl (cI, 10, .inl (wA f2)))] := hD
  refine wi_if_ne hx hb d_Md_density_7 rfl (by decide) (fun _ => ?_) (fun h => absurd h (by decide))
  refine lv_iconst (v := nI 0) hx hb d_Md_density_14 (by decide) ?_
  refine lv_iconst (v := nI 0) hx hb d_Md_density_15 (by decide) ?_
  refine lv_iconst (v := nI 0) hx hb d_Md_density_16 (by decide) ?_
  refine ck_i (wc := [(h, .inr (5, [.int (nI th), .int (nI n), .ref a1, .ref a2, .ref a3, .ref a4, .int (nI wi), .int (nI bu), .int (nI L), .ref c1, .int (nI ax), .int (nI va), .int (nI sl), .int cv, .int (nI me), .ref b1, .ref b2, .int (nI L2), .ref c2, .int (nI mn), .ref r1, .ref r2, .ref z1, .ref n1, .ref t1]))]) (va_runV (As := [.int (nI 0), .int (nI 0), .int (nI 0)]) (rest := []) (C := R_Md) ⟨hx, hb, hml, hown, ht⟩ (c_Md_refuseD l Hs D cI cZ cL h a1 a2 a3 a4 c1 b1 b2 c2 r1 r2 z1 n1 t1 th n wi bu L ax va sl me L2 mn cv  H.size) (gw_V 3 ht wd_990 wd_5 wd_987 wd_989 ws_29 (by decide +kernel) ⟨Nat.le_of_ble_eq_true rfl, Nat.le_of_ble_eq_true rfl⟩) (k_preV hE hAH hK hP hD hS [0] rfl rfl 0 rfl rfl) rfl rfl hl.1 rfl (lv_room (Nat.le_of_ble_eq_true rfl)) d_Md_density_17 ⟨Nat.le_of_ble_eq_true rfl, Nat.le_of_ble_eq_true rfl⟩) hP hD hS hA [0] rfl rfl (fun r17 w1 H locs hpost hP hD hS => ?_)
  obtain ⟨rfl, rfl⟩ := hpost
  have hP : va_P D kcl [(h, .inr (5, [.int (nI 0), .int (nI n), .ref a1, .ref a2, .ref a3, .ref a4, .int (nI wi), .int (nI bu), .int (nI L), .ref c1, .int (nI ax), .int (nI va), .int (nI sl), .int cv, .int (nI me), .ref b1, .ref b2, .int (nI L2), .ref c2, .int (nI mn), .ref r1, .ref r2, .ref z1, .ref n1, .ref t1])), (a2, .inl (cI, 10, .inl (wA f2)))] H := hP
  have hD : va_D A [(h, .inr (5, [.int (nI 0), .int (nI n), .ref a1, .ref a2, .ref a3, .ref a4, .int (nI wi), .int (nI bu), .int (nI L), .ref c1, .int (nI ax), .int (nI va), .int (nI sl), .int cv, .int (nI me), .ref b1, .ref b2, .int (nI L2), .ref c2, .int (nI mn), .ref r1, .ref r2, .ref z1, .ref n1, .ref t1])), (a2, .inl (cI, 10, .inl (wA f2)))] := hD
  refine wi_if_eq hx hb d_Md_density_20 rfl (by decide) (fun _ => ?_) (fun h => absurd h (by decide))
  refine lv_lconst (v := lN 0) hx hb d_Md_density_25 (by decide) ?_
  refine lv_lstore_n (lv' := [(2, .long (lN 0)), (0, .ref h), (1, .int (nI 1))]) hx hb d_Md_density_26 rfl hl (by decide) rfl (fun ls hl => ?_)
  refine lv_lconst (v := lN 1) hx hb d_Md_density_27 (by decide) ?_
  refine lv_lstore (lv' := [(4, .long (lN 1)), (2, .long (lN 0)), (0, .ref h), (1, .int (nI 1))]) hx hb d_Md_density_28 hl (by decide) rfl (fun ls hl => ?_)
  refine lv_iconst (v := nI 0) hx hb d_Md_density_30 (by decide) ?_
  refine lv_istore (lv' := [(6, .int (nI 0)), (4, .long (lN 1)), (2, .long (lN 0)), (0, .ref h), (1, .int (nI 1))]) hx hb d_Md_density_31 hl (by decide) rfl (fun ls hl => ?_)
  have loop33 : ∀ (d : Nat) (k : Nat) (ls : Array Slot) (H : Heap) (locs : List Loc), n - k = d → (k ≤ n) → lv_has ls 9 [(0, .ref h), (1, .int (nI 1)), (2, .long (lN ((pw_de f2 k).1))), (4, .long (lN ((pw_de f2 k).2))), (6, .int (nI k))] → va_P D kcl [(h, .inr (5, [.int (nI 0), .int (nI n), .ref a1, .ref a2, .ref a3, .ref a4, .int (nI wi), .int (nI bu), .int (nI L), .ref c1, .int (nI ax), .int (nI va), .int (nI sl), .int cv, .int (nI me), .ref b1, .ref b2, .int (nI L2), .ref c2, .int (nI mn), .ref r1, .ref r2, .ref z1, .ref n1, .ref t1])), (a2, .inl (cI, 10, .inl (wA f2)))] H → va_D A [(h, .inr (5, [.int (nI 0), .int (nI n), .ref a1, .ref a2, .ref a3, .ref a4, .int (nI wi), .int (nI bu), .int (nI L), .ref c1, .int (nI ax), .int (nI va), .int (nI sl), .int cv, .int (nI me), .ref b1, .ref b2, .int (nI L2), .ref c2, .int (nI mn), .ref r1, .ref r2, .ref z1, .ref n1, .ref t1])), (a2, .inl (cI, 10, .inl (wA f2)))] → va_S A s.heap H locs → W p l e ({ frames := 1, cells := 0, slots := 0, locals := 29 } : Room) s m args below meth c H locs 0 0 Q (F0 m 33 ls []) := by
    intro d
    induction d using Nat.strongRecOn with
    | ind d ih33 =>
      intro k ls H locs hd33 hk hl hP hD hS
      refine lv_iload hx hb d_Md_density_33 (lv_at hl 4 rfl) ?_
      refine lv_aload_n hx hb d_Md_density_35 rfl (lv_at hl 0 rfl) ?_
      refine va_get (D := D) (ci := 5) (v := .int (nI n)) (C := R_Md) (T := T_Md) (N := 25) hx hb ht u_Md hown hK hP 0 rfl rfl 1 (by decide) (ht _ wd_896) (fun _ h9 => h9) rfl d_Md_density_36 ?_
      refine wi_ge hx hb d_Md_density_39 rfl (by omega) (by omega) (fun h39 => ?_) (fun h39 => ?_)
      · have hkn : k = n := by omega
        subst hkn
        refine lv_iload_n hx hb d_Md_density_95 rfl (lv_at hl 1 rfl) ?_
        refine wi_if_ne hx hb d_Md_density_96 rfl (by decide) (fun _ => ?_) (fun h => absurd h (by decide))
        refine lv_lload hx hb d_Md_density_103 (lv_at hl 3 rfl) ?_
        exact k_retl hQ hx hb hr hlk hAe hK hP hD hS (Nat.le_of_ble_eq_true rfl) (Nat.le_of_ble_eq_true rfl) (Nat.le_of_ble_eq_true rfl) ⟨rfl, rfl⟩ d_Md_density_105
      · have hst := pw_de_st hn hf2 h39
        have hfk := (hf2 k h39).2
        refine lv_lload_n hx hb d_Md_density_42 rfl (lv_at hl 2 rfl) ?_
        refine lv_aload_n hx hb d_Md_density_43 rfl (lv_at hl 0 rfl) ?_
        refine va_get (D := D) (ci := 5) (v := .ref a2) (C := R_Md) (T := T_Md) (N := 25) hx hb ht u_Md hown hK hP 0 rfl rfl 3 (by decide) (ht _ wd_898) (fun _ h9 => h9) rfl d_Md_density_44 ?_
        refine lv_iload hx hb d_Md_density_47 (lv_at hl 4 rfl) ?_
        refine wi_ald hx hb hK hP 1 0 rfl rfl (by omega) (by omega) d_Md_density_49 ?_
        refine lv_i2l (v := lN (f2 k)) hx hb d_Md_density_50 (nI_l (by omega)) ?_
        refine wl_mul hx hb d_Md_density_51  ?_
        refine lv_lload hx hb d_Md_density_52 (lv_at hl 3 rfl) ?_
        refine wl_add hx hb d_Md_density_54  ?_
        refine lv_lstore_n (lv' := [(2, .long (lN ((((pw_de f2 k).1) * (f2 k)) + ((pw_de f2 k).2)))), (0, .ref h), (1, .int (nI 1)), (4, .long (lN ((pw_de f2 k).2))), (6, .int (nI k))]) hx hb d_Md_density_55 rfl hl (by decide) rfl (fun ls hl => ?_)
        refine lv_lload hx hb d_Md_density_56 (lv_at hl 3 rfl) ?_
        refine lv_aload_n hx hb d_Md_density_58 rfl (lv_at hl 1 rfl) ?_
        refine va_get (D := D) (ci := 5) (v := .ref a2) (C := R_Md) (T := T_Md) (N := 25) hx hb ht u_Md hown hK hP 0 rfl rfl 3 (by decide) (ht _ wd_898) (fun _ h9 => h9) rfl d_Md_density_59 ?_
        refine lv_iload hx hb d_Md_density_62 (lv_at hl 4 rfl) ?_
        refine wi_ald hx hb hK hP 1 0 rfl rfl (by omega) (by omega) d_Md_density_64 ?_
        refine lv_i2l (v := lN (f2 k)) hx hb d_Md_density_65 (nI_l (by omega)) ?_
        refine wl_mul hx hb d_Md_density_66  ?_
        refine lv_lstore (lv' := [(4, .long (lN (((pw_de f2 k).2) * (f2 k)))), (2, .long (lN ((((pw_de f2 k).1) * (f2 k)) + ((pw_de f2 k).2)))), (0, .ref h), (1, .int (nI 1)), (6, .int (nI k))]) hx hb d_Md_density_67 hl (by decide) rfl (fun ls hl => ?_)
        refine lv_lload_n hx hb d_Md_density_69 rfl (lv_at hl 1 rfl) ?_
        refine lv_lload hx hb d_Md_density_70 (lv_at hl 0 rfl) ?_
        refine ck_l (wc := []) (va_runS (As := [.long (lN ((pw_de f2 k).1 * f2 k + (pw_de f2 k).2)), .long (lN ((pw_de f2 k).2 * f2 k))]) (rest := []) ⟨hx, hb, hml, hown, ht⟩ (c_Md_common l Hs D cI cZ cL ((pw_de f2 k).1 * f2 k + (pw_de f2 k).2) ((pw_de f2 k).2 * f2 k) hst.1 hst.2.1 hst.2.2.1 H.size) (gw_S 2 ht wd_1096 wd_5 wd_1094 wd_1095 (by decide +kernel) ⟨Nat.le_of_ble_eq_true rfl, Nat.le_of_ble_eq_true rfl⟩) (k_preS hE hAH hK hP hD hS [] rfl rfl) rfl rfl hl.1 rfl (lv_room (Nat.le_of_ble_eq_true rfl)) d_Md_density_72 ⟨Nat.le_of_ble_eq_true rfl, Nat.le_of_ble_eq_true rfl⟩) hP hD hS hA [] rfl rfl (fun r72 w1 H locs hpost hP hD hS => ?_)
        obtain ⟨rfl, rfl⟩ := hpost
        have hP : va_P D kcl [(h, .inr (5, [.int (nI 0), .int (nI n), .ref a1, .ref a2, .ref a3, .ref a4, .int (nI wi), .int (nI bu), .int (nI L), .ref c1, .int (nI ax), .int (nI va), .int (nI sl), .int cv, .int (nI me), .ref b1, .ref b2, .int (nI L2), .ref c2, .int (nI mn), .ref r1, .ref r2, .ref z1, .ref n1, .ref t1])), (a2, .inl (cI, 10, .inl (wA f2)))] H := hP
        have hD : va_D A [(h, .inr (5, [.int (nI 0), .int (nI n), .ref a1, .ref a2, .ref a3, .ref a4, .int (nI wi), .int (nI bu), .int (nI L), .ref c1, .int (nI ax), .int (nI va), .int (nI sl), .int cv, .int (nI me), .ref b1, .ref b2, .int (nI L2), .ref c2, .int (nI mn), .ref r1, .ref r2, .ref z1, .ref n1, .ref t1])), (a2, .inl (cI, 10, .inl (wA f2)))] := hD
        have hgp := pw_eu_pos 92 ((pw_de f2 k).1 * f2 k + (pw_de f2 k).2) ((pw_de f2 k).2 * f2 k) hst.2.2.1
        refine lv_lstore (lv' := [(7, .long (lN (pw_eu 92 ((pw_de f2 k).1 * f2 k + (pw_de f2 k).2) ((pw_de f2 k).2 * f2 k)))), (4, .long (lN (((pw_de f2 k).2) * (f2 k)))), (2, .long (lN ((((pw_de f2 k).1) * (f2 k)) + ((pw_de f2 k).2)))), (0, .ref h), (1, .int (nI 1)), (6, .int (nI k))]) hx hb d_Md_density_75 hl (by decide) rfl (fun ls hl => ?_)
        refine lv_lload_n hx hb d_Md_density_77 rfl (lv_at hl 2 rfl) ?_
        refine lv_lload hx hb d_Md_density_78 (lv_at hl 0 rfl) ?_
        refine wl_div hx hb d_Md_density_80 hst.1 hgp hst.2.2.2.2 ?_
        refine lv_lstore_n (lv' := [(2, .long (lN (((((pw_de f2 k).1) * (f2 k)) + ((pw_de f2 k).2)) / (pw_eu 92 ((pw_de f2 k).1 * f2 k + (pw_de f2 k).2) ((pw_de f2 k).2 * f2 k))))), (7, .long (lN (pw_eu 92 ((pw_de f2 k).1 * f2 k + (pw_de f2 k).2) ((pw_de f2 k).2 * f2 k)))), (4, .long (lN (((pw_de f2 k).2) * (f2 k)))), (0, .ref h), (1, .int (nI 1)), (6, .int (nI k))]) hx hb d_Md_density_81 rfl hl (by decide) rfl (fun ls hl => ?_)
        refine lv_lload hx hb d_Md_density_82 (lv_at hl 2 rfl) ?_
        refine lv_lload hx hb d_Md_density_84 (lv_at hl 1 rfl) ?_
        refine wl_div hx hb d_Md_density_86 (Nat.lt_trans hst.2.1 (by decide)) hgp hst.2.2.2.2 ?_
        refine lv_lstore (lv' := [(4, .long (lN ((((pw_de f2 k).2) * (f2 k)) / (pw_eu 92 ((pw_de f2 k).1 * f2 k + (pw_de f2 k).2) ((pw_de f2 k).2 * f2 k))))), (2, .long (lN (((((pw_de f2 k).1) * (f2 k)) + ((pw_de f2 k).2)) / (pw_eu 92 ((pw_de f2 k).1 * f2 k + (pw_de f2 k).2) ((pw_de f2 k).2 * f2 k))))), (7, .long (lN (pw_eu 92 ((pw_de f2 k).1 * f2 k + (pw_de f2 k).2) ((pw_de f2 k).2 * f2 k)))), (0, .ref h), (1, .int (nI 1)), (6, .int (nI k))]) hx hb d_Md_density_87 hl (by decide) rfl (fun ls hl => ?_)
        refine wi_inc (k := 5) (lv' := [(6, .int (nI (k + 1))), (4, .long (lN ((((pw_de f2 k).2) * (f2 k)) / (pw_eu 92 ((pw_de f2 k).1 * f2 k + (pw_de f2 k).2) ((pw_de f2 k).2 * f2 k))))), (2, .long (lN (((((pw_de f2 k).1) * (f2 k)) + ((pw_de f2 k).2)) / (pw_eu 92 ((pw_de f2 k).1 * f2 k + (pw_de f2 k).2) ((pw_de f2 k).2 * f2 k))))), (7, .long (lN (pw_eu 92 ((pw_de f2 k).1 * f2 k + (pw_de f2 k).2) ((pw_de f2 k).2 * f2 k)))), (0, .ref h), (1, .int (nI 1))]) hx hb d_Md_density_89 hl rfl (by decide) rfl (fun ls hl => ?_)
        refine lv_goto hx hb d_Md_density_92 rfl ?_
        exact ih33 (n - (k + 1)) (by omega) (k + 1) ls H locs rfl (by omega) (lv_sub hl [4, 5, 2, 1, 0] rfl) hP hD hS
  exact loop33 _ (0) ls H locs rfl (Nat.zero_le _) (lv_sub hl [3, 4, 2, 1, 0] rfl) hP hD hS
set_option maxHeartbeats 4000000 in
set_option maxRecDepth 100000 in
theorem c_Md_density2 (l : Launch) (Hs : Heap) (D : va_G) (cI cZ cL : ClassId) (h : Nat) (a1 : Nat) (a2 : Nat) (a3 : Nat) (a4 : Nat) (c1 : Nat) (b1 : Nat) (b2 : Nat) (c2 : Nat) (r1 : Nat) (r2 : Nat) (z1 : Nat) (n1 : Nat) (t1 : Nat) (th : Nat) (n : Nat) (wi : Nat) (bu : Nat) (L : Nat) (ax : Nat) (va : Nat) (sl : Nat) (me : Nat) (L2 : Nat) (mn : Nat) (cv : Int32) (x : Int32) (hno : x < nI 0 ∨ nI 1 < x) : kL l Hs D kcl (ty3 cI cZ cL) y_Md_density (mws y_Md_density b_Md_density 9 (Option.some Jvm.ClassFile.FieldType.long)) ({ frames := 1, cells := 0, slots := 0, locals := 23 } : Room) [.ref h, .int x] [(h, .inr (5, [.int (nI th), .int (nI n), .ref a1, .ref a2, .ref a3, .ref a4, .int (nI wi), .int (nI bu), .int (nI L), .ref c1, .int (nI ax), .int (nI va), .int (nI sl), .int cv, .int (nI me), .ref b1, .ref b2, .int (nI L2), .ref c2, .int (nI mn), .ref r1, .ref r2, .ref z1, .ref n1, .ref t1]))] (fun r w => r = lN 0 ∧ w = [(h, .inr (5, [.int (nI 1), .int (nI n), .ref a1, .ref a2, .ref a3, .ref a4, .int (nI wi), .int (nI bu), .int (nI L), .ref c1, .int (nI ax), .int (nI va), .int (nI sl), .int cv, .int (nI me), .ref b1, .ref b2, .int (nI L2), .ref c2, .int (nI mn), .ref r1, .ref r2, .ref z1, .ref n1, .ref t1]))]) := by
  intro sz
  refine k_of (cc := b_Md_density) (maxL := 9) (ret := (Option.some Jvm.ClassFile.FieldType.long)) (by decide) rfl (Nat.le_of_ble_eq_true rfl) ?_
  intro p e s m args below meth c ls H locs A Q hQ hx hb hml hr hts hown hlk hnm hsz hAe hP hK hD hS hA hE hAH hl
  have ht : ∀ w ∈ mw, w.before args s = true := fun w h => hts w (List.mem_cons_of_mem _ h)
  have hl : lv_has ls 9 [(0, .ref h), (1, .int x)] := hl
  refine lv_aload_n hx hb d_Md_density_0 rfl (lv_at hl 0 rfl) ?_
  refine lv_iload_n hx hb d_Md_density_1 rfl (lv_at hl 1 rfl) ?_
  refine lv_iconst (v := nI 0) hx hb d_Md_density_2 (by decide) ?_
  refine lv_iconst (v := nI 1) hx hb d_Md_density_3 (by decide) ?_
  refine ck_i (wc := []) (va_runS (As := [.int x, .int (nI 0), .int (nI 1)]) (rest := [.ref h]) ⟨hx, hb, hml, hown, ht⟩ (c_Md_in0 l Hs D cI cZ cL x (nI 0) (nI 1) hno H.size) (gw_S 3 ht wd_982 wd_5 wd_980 wd_981 (by decide +kernel) ⟨Nat.le_of_ble_eq_true rfl, Nat.le_of_ble_eq_true rfl⟩) (k_preS hE hAH hK hP hD hS [] rfl rfl) rfl rfl hl.1 rfl (lv_room (Nat.le_of_ble_eq_true rfl)) d_Md_density_4 ⟨Nat.le_of_ble_eq_true rfl, Nat.le_of_ble_eq_true rfl⟩) hP hD hS hA [] rfl rfl (fun r4 w1 H locs hpost hP hD hS => ?_)
  obtain ⟨rfl, rfl⟩ := hpost
  have hP : va_P D kcl [(h, .inr (5, [.int (nI th), .int (nI n), .ref a1, .ref a2, .ref a3, .ref a4, .int (nI wi), .int (nI bu), .int (nI L), .ref c1, .int (nI ax), .int (nI va), .int (nI sl), .int cv, .int (nI me), .ref b1, .ref b2, .int (nI L2), .ref c2, .int (nI mn), .ref r1, .ref r2, .ref z1, .ref n1, .ref t1]))] H := hP
  have hD : va_D A [(h, .inr (5, [.int (nI th), .int (nI n), .ref a1, .ref a2, .ref a3, .ref a4, .int (nI wi), .int (nI bu), .int (nI L), .ref c1, .int (nI ax), .int (nI va), .int (nI sl), .int cv, .int (nI me), .ref b1, .ref b2, .int (nI L2), .ref c2, .int (nI mn), .ref r1, .ref r2, .ref z1, .ref n1, .ref t1]))] := hD
  refine wi_if_ne hx hb d_Md_density_7 rfl (by decide) (fun h => absurd h (by decide)) (fun _ => ?_)
  refine lv_iconst (v := nI 1) hx hb d_Md_density_10 (by decide) ?_
  refine lv_goto hx hb d_Md_density_11 rfl ?_
  refine lv_iconst (v := nI 0) hx hb d_Md_density_15 (by decide) ?_
  refine lv_iconst (v := nI 0) hx hb d_Md_density_16 (by decide) ?_
  refine ck_i (wc := [(h, .inr (5, [.int (nI th), .int (nI n), .ref a1, .ref a2, .ref a3, .ref a4, .int (nI wi), .int (nI bu), .int (nI L), .ref c1, .int (nI ax), .int (nI va), .int (nI sl), .int cv, .int (nI me), .ref b1, .ref b2, .int (nI L2), .ref c2, .int (nI mn), .ref r1, .ref r2, .ref z1, .ref n1, .ref t1]))]) (va_runV (As := [.int (nI 1), .int (nI 0), .int (nI 0)]) (rest := []) (C := R_Md) ⟨hx, hb, hml, hown, ht⟩ (c_Md_refuseA l Hs D cI cZ cL h a1 a2 a3 a4 c1 b1 b2 c2 r1 r2 z1 n1 t1 th n wi bu L ax va sl me L2 mn cv 0 0  H.size) (gw_V 3 ht wd_990 wd_5 wd_987 wd_989 ws_29 (by decide +kernel) ⟨Nat.le_of_ble_eq_true rfl, Nat.le_of_ble_eq_true rfl⟩) (k_preV hE hAH hK hP hD hS [0] rfl rfl 0 rfl rfl) rfl rfl hl.1 rfl (lv_room (Nat.le_of_ble_eq_true rfl)) d_Md_density_17 ⟨Nat.le_of_ble_eq_true rfl, Nat.le_of_ble_eq_true rfl⟩) hP hD hS hA [0] rfl rfl (fun r17 w1 H locs hpost hP hD hS => ?_)
  obtain ⟨rfl, rfl⟩ := hpost
  have hP : va_P D kcl [(h, .inr (5, [.int (nI 1), .int (nI n), .ref a1, .ref a2, .ref a3, .ref a4, .int (nI wi), .int (nI bu), .int (nI L), .ref c1, .int (nI ax), .int (nI va), .int (nI sl), .int cv, .int (nI me), .ref b1, .ref b2, .int (nI L2), .ref c2, .int (nI mn), .ref r1, .ref r2, .ref z1, .ref n1, .ref t1]))] H := hP
  have hD : va_D A [(h, .inr (5, [.int (nI 1), .int (nI n), .ref a1, .ref a2, .ref a3, .ref a4, .int (nI wi), .int (nI bu), .int (nI L), .ref c1, .int (nI ax), .int (nI va), .int (nI sl), .int cv, .int (nI me), .ref b1, .ref b2, .int (nI L2), .ref c2, .int (nI mn), .ref r1, .ref r2, .ref z1, .ref n1, .ref t1]))] := hD
  refine wi_if_eq hx hb d_Md_density_20 rfl (by decide) (fun h => absurd h (by decide)) (fun _ => ?_)
  refine lv_lconst (v := lN 0) hx hb d_Md_density_23 (by decide) ?_
  exact k_retl hQ hx hb hr hlk hAe hK hP hD hS (Nat.le_of_ble_eq_true rfl) (Nat.le_of_ble_eq_true rfl) (Nat.le_of_ble_eq_true rfl) ⟨rfl, rfl⟩ d_Md_density_24
set_option maxHeartbeats 4000000 in
set_option maxRecDepth 100000 in
theorem c_Md_byBases0 (l : Launch) (Hs : Heap) (D : va_G) (cI cZ cL : ClassId) (h : Nat) (a1 : Nat) (a2 : Nat) (a3 : Nat) (a4 : Nat) (c1 : Nat) (b1 : Nat) (b2 : Nat) (c2 : Nat) (r1 : Nat) (r2 : Nat) (z1 : Nat) (n1 : Nat) (t1 : Nat) (th : Nat) (n : Nat) (wi : Nat) (bu : Nat) (L : Nat) (ax : Nat) (va : Nat) (sl : Nat) (me : Nat) (L2 : Nat) (mn : Nat) (cv : Int32) (ro : Nat → Nat) (ru : Nat → Nat) (g1 : Nat → Nat) (g2 : Nat → Nat) (cy : Nat → Nat) (hme : me ≤ 10) (hg2 : ∀ t, t < me → 1 ≤ g2 t ∧ g2 t ≤ 40) (hex : ¬ ∃ x, pw_b2 g2 me x) : kI l Hs D kcl (ty3 cI cZ cL) y_Md_byBases (mws y_Md_byBases b_Md_byBases 3 (Option.some Jvm.ClassFile.FieldType.boolean)) ({ frames := 3, cells := 0, slots := 0, locals := 71 } : Room) [.ref h] [(h, .inr (5, [.int (nI th), .int (nI n), .ref a1, .ref a2, .ref a3, .ref a4, .int (nI wi), .int (nI bu), .int (nI L), .ref c1, .int (nI ax), .int (nI va), .int (nI sl), .int cv, .int (nI me), .ref b1, .ref b2, .int (nI L2), .ref c2, .int (nI mn), .ref r1, .ref r2, .ref z1, .ref n1, .ref t1])), (r1, .inl (cI, 10, .inl (wA ro))), (r2, .inl (cI, 10, .inl (wA ru))), (b1, .inl (cI, 10, .inl (wA g1))), (b2, .inl (cI, 10, .inl (wA g2))), (c2, .inl (cI, 1600, .inl (wA cy)))] (fun r w => ∃ (ro2 : Nat → Nat), ∃ (ru2 : Nat → Nat), ∃ (m3 : Nat), ∃ (L3 : Nat), r = nI 0 ∧ w = [(h, .inr (5, [.int (nI th), .int (nI n), .ref a1, .ref a2, .ref a3, .ref a4, .int (nI wi), .int (nI bu), .int (nI L), .ref c1, .int (nI ax), .int (nI va), .int (nI sl), .int cv, .int (nI me), .ref b1, .ref b2, .int (nI L3), .ref c2, .int (nI m3), .ref r1, .ref r2, .ref z1, .ref n1, .ref t1])), (r1, .inl (cI, 10, .inl (wA ro2))), (r2, .inl (cI, 10, .inl (wA ru2))), (b1, .inl (cI, 10, .inl (wA g1))), (b2, .inl (cI, 10, .inl (wA g2))), (c2, .inl (cI, 1600, .inl (wA cy)))]) := by
  intro sz
  refine k_of (cc := b_Md_byBases) (maxL := 3) (ret := (Option.some Jvm.ClassFile.FieldType.boolean)) (by decide) rfl (Nat.le_of_ble_eq_true rfl) ?_
  intro p e s m args below meth c ls H locs A Q hQ hx hb hml hr hts hown hlk hnm hsz hAe hP hK hD hS hA hE hAH hl
  have ht : ∀ w ∈ mw, w.before args s = true := fun w h => hts w (List.mem_cons_of_mem _ h)
  have hl : lv_has ls 3 [(0, .ref h)] := hl
  refine lv_aload_n hx hb d_Md_byBases_0 rfl (lv_at hl 0 rfl) ?_
  refine ck_i (wc := [(h, .inr (5, [.int (nI th), .int (nI n), .ref a1, .ref a2, .ref a3, .ref a4, .int (nI wi), .int (nI bu), .int (nI L), .ref c1, .int (nI ax), .int (nI va), .int (nI sl), .int cv, .int (nI me), .ref b1, .ref b2, .int (nI L2), .ref c2, .int (nI mn), .ref r1, .ref r2, .ref z1, .ref n1, .ref t1])), (b2, .inl (cI, 10, .inl (wA g2)))]) (va_runV (As := []) (rest := []) (C := R_Md) ⟨hx, hb, hml, hown, ht⟩ (c_Md_leastSpan l Hs D cI cZ cL h a1 a2 a3 a4 c1 b1 b2 c2 r1 r2 z1 n1 t1 th n wi bu L ax va sl me L2 mn cv g2 hme (fun t h => (hg2 t h).2) H.size) (gw_V 0 ht wd_1017 wd_5 wd_1014 wd_1016 ws_35 (by decide +kernel) ⟨Nat.le_of_ble_eq_true rfl, Nat.le_of_ble_eq_true rfl⟩) (k_preV hE hAH hK hP hD hS [0, 4] rfl rfl 0 rfl rfl) rfl rfl hl.1 rfl (lv_room (Nat.le_of_ble_eq_true rfl)) d_Md_byBases_1 ⟨Nat.le_of_ble_eq_true rfl, Nat.le_of_ble_eq_true rfl⟩) hP hD hS hA [0, 4] rfl rfl (fun r1 w1 H locs hpost hP hD hS => ?_)
  obtain ⟨m9, hls, hm99, rfl, rfl⟩ := hpost
  have hP : va_P D kcl [(h, .inr (5, [.int (nI th), .int (nI n), .ref a1, .ref a2, .ref a3, .ref a4, .int (nI wi), .int (nI bu), .int (nI L), .ref c1, .int (nI ax), .int (nI va), .int (nI sl), .int cv, .int (nI me), .ref b1, .ref b2, .int (nI L2), .ref c2, .int (nI mn), .ref r1, .ref r2, .ref z1, .ref n1, .ref t1])), (r1, .inl (cI, 10, .inl (wA ro))), (r2, .inl (cI, 10, .inl (wA ru))), (b1, .inl (cI, 10, .inl (wA g1))), (b2, .inl (cI, 10, .inl (wA g2))), (c2, .inl (cI, 1600, .inl (wA cy)))] H := hP
  have hD : va_D A [(h, .inr (5, [.int (nI th), .int (nI n), .ref a1, .ref a2, .ref a3, .ref a4, .int (nI wi), .int (nI bu), .int (nI L), .ref c1, .int (nI ax), .int (nI va), .int (nI sl), .int cv, .int (nI me), .ref b1, .ref b2, .int (nI L2), .ref c2, .int (nI mn), .ref r1, .ref r2, .ref z1, .ref n1, .ref t1])), (r1, .inl (cI, 10, .inl (wA ro))), (r2, .inl (cI, 10, .inl (wA ru))), (b1, .inl (cI, 10, .inl (wA g1))), (b2, .inl (cI, 10, .inl (wA g2))), (c2, .inl (cI, 1600, .inl (wA cy)))] := hD
  refine lv_istore_n (lv' := [(1, .int (nI m9)), (0, .ref h)]) hx hb d_Md_byBases_4 rfl hl (by decide) rfl (fun ls hl => ?_)
  refine lv_iconst (v := nI 3) hx hb d_Md_byBases_5 (by decide) ?_
  refine lv_istore_n (lv' := [(2, .int (nI 3)), (1, .int (nI m9)), (0, .ref h)]) hx hb d_Md_byBases_6 rfl hl (by decide) rfl (fun ls hl => ?_)
  have loop7 : ∀ (d : Nat) (k : Nat) (u1 : Nat → Nat) (u2 : Nat → Nat) (mm : Nat) (l9 : Nat) (ls : Array Slot) (H : Heap) (locs : List Loc), 7 - k = d → (k ≤ 7) → (∀ j, j < k → ¬ pw_fit (3 + 2 * j) g2 me) → lv_has ls 3 [(0, .ref h), (1, .int (nI m9)), (2, .int (nI (3 + 2 * k)))] → va_P D kcl [(h, .inr (5, [.int (nI th), .int (nI n), .ref a1, .ref a2, .ref a3, .ref a4, .int (nI wi), .int (nI bu), .int (nI L), .ref c1, .int (nI ax), .int (nI va), .int (nI sl), .int cv, .int (nI me), .ref b1, .ref b2, .int (nI l9), .ref c2, .int (nI mm), .ref r1, .ref r2, .ref z1, .ref n1, .ref t1])), (r1, .inl (cI, 10, .inl (wA u1))), (r2, .inl (cI, 10, .inl (wA u2))), (b1, .inl (cI, 10, .inl (wA g1))), (b2, .inl (cI, 10, .inl (wA g2))), (c2, .inl (cI, 1600, .inl (wA cy)))] H → va_D A [(h, .inr (5, [.int (nI th), .int (nI n), .ref a1, .ref a2, .ref a3, .ref a4, .int (nI wi), .int (nI bu), .int (nI L), .ref c1, .int (nI ax), .int (nI va), .int (nI sl), .int cv, .int (nI me), .ref b1, .ref b2, .int (nI l9), .ref c2, .int (nI mm), .ref r1, .ref r2, .ref z1, .ref n1, .ref t1])), (r1, .inl (cI, 10, .inl (wA u1))), (r2, .inl (cI, 10, .inl (wA u2))), (b1, .inl (cI, 10, .inl (wA g1))), (b2, .inl (cI, 10, .inl (wA g2))), (c2, .inl (cI, 1600, .inl (wA cy)))] → va_S A s.heap H locs → W p l e ({ frames := 3, cells := 0, slots := 0, locals := 71 } : Room) s m args below meth c H locs 0 0 Q (F0 m 7 ls []) := by
    intro d
    induction d using Nat.strongRecOn with
    | ind d ih7 =>
      intro k u1 u2 mm l9 ls H locs hd7 hk hno hl hP hD hS
      refine lv_iload_n hx hb d_Md_byBases_7 rfl (lv_at hl 2 rfl) ?_
      refine lv_bipush (v := nI 16) hx hb d_Md_byBases_8 (by decide) ?_
      refine wi_ge hx hb d_Md_byBases_10 rfl (by omega) (by omega) (fun h10 => ?_) (fun h10 => ?_)
      · have hnone : ¬ ∃ x, pw_b2 g2 me x := fun ⟨x, hx2⟩ => by
          obtain ⟨⟨⟨x1, x2, x3⟩, x5⟩, x4, -⟩ := hx2
          have x6 := (hls x (by omega)).mpr x5
          exact hno ((x - 3) / 2) (by omega) (by rw [show 3 + 2 * ((x - 3) / 2) = x by omega]; exact x4)
        refine lv_iconst (v := nI 0) hx hb d_Md_byBases_35 (by decide) ?_
        exact k_retz hQ hx hb hr hlk hAe hK hP hD hS (Nat.le_of_ble_eq_true rfl) (Nat.le_of_ble_eq_true rfl) (Nat.le_of_ble_eq_true rfl) rfl ⟨u1, u2, mm, l9, rfl, rfl⟩ d_Md_byBases_36
      · refine lv_iload_n hx hb d_Md_byBases_13 rfl (lv_at hl 2 rfl) ?_
        refine lv_iload_n hx hb d_Md_byBases_14 rfl (lv_at hl 1 rfl) ?_
        refine wi_gt hx hb d_Md_byBases_15 rfl (by omega) (by omega) (fun h15 => ?_) (fun h15 => ?_)
        · have hnone : ¬ ∃ x, pw_b2 g2 me x := fun ⟨x, hx2⟩ => by
            obtain ⟨⟨⟨x1, x2, x3⟩, x5⟩, x4, -⟩ := hx2
            have x6 := (hls x (by omega)).mpr x5
            exact hno ((x - 3) / 2) (by omega) (by rw [show 3 + 2 * ((x - 3) / 2) = x by omega]; exact x4)
          refine lv_iconst (v := nI 0) hx hb d_Md_byBases_35 (by decide) ?_
          exact k_retz hQ hx hb hr hlk hAe hK hP hD hS (Nat.le_of_ble_eq_true rfl) (Nat.le_of_ble_eq_true rfl) (Nat.le_of_ble_eq_true rfl) rfl ⟨u1, u2, mm, l9, rfl, rfl⟩ d_Md_byBases_36
        · refine lv_aload_n hx hb d_Md_byBases_18 rfl (lv_at hl 0 rfl) ?_
          refine lv_iload_n hx hb d_Md_byBases_19 rfl (lv_at hl 2 rfl) ?_
          by_cases hfk : pw_fit (3 + 2 * k) g2 me
          · have hb2 : pw_b2 g2 me (3 + 2 * k) := ⟨⟨⟨by omega, by omega, by omega⟩, (hls (3 + 2 * k) (by omega)).mp h15⟩, hfk, fun x hx2 hx3 hx4 => hno ((x - 3) / 2) (by have := hx3.1.1; have := hx3.1.2.2; omega) (by rw [show 3 + 2 * ((x - 3) / 2) = x by have := hx3.1.1; have := hx3.1.2.2; omega]; exact hx4)⟩; exact absurd ⟨_, hb2⟩ hex
          · refine ck_i (wc := [(h, .inr (5, [.int (nI th), .int (nI n), .ref a1, .ref a2, .ref a3, .ref a4, .int (nI wi), .int (nI bu), .int (nI L), .ref c1, .int (nI ax), .int (nI va), .int (nI sl), .int cv, .int (nI me), .ref b1, .ref b2, .int (nI l9), .ref c2, .int (nI mm), .ref r1, .ref r2, .ref z1, .ref n1, .ref t1])), (r1, .inl (cI, 10, .inl (wA u1))), (r2, .inl (cI, 10, .inl (wA u2))), (b1, .inl (cI, 10, .inl (wA g1))), (b2, .inl (cI, 10, .inl (wA g2))), (c2, .inl (cI, 1600, .inl (wA cy)))]) (va_runV (As := [.int (nI (3 + 2 * k))]) (rest := []) (C := R_Md) ⟨hx, hb, hml, hown, ht⟩ (c_Md_lay0 l Hs D cI cZ cL h a1 a2 a3 a4 c1 b1 b2 c2 r1 r2 z1 n1 t1 th n wi bu L ax va sl me l9 mm cv u1 u2 g1 g2 cy (3 + 2 * k) hme (fun t h9 => ⟨(hls (3 + 2 * k) (by omega)).mp h15 t h9, (hg2 t h9).2⟩) (by omega) (by omega) hfk H.size) (gw_V 1 ht wd_1002 wd_5 wd_999 wd_1001 ws_32 (by decide +kernel) ⟨Nat.le_of_ble_eq_true rfl, Nat.le_of_ble_eq_true rfl⟩) (k_preV hE hAH hK hP hD hS [0, 1, 2, 3, 4, 5] rfl rfl 0 rfl rfl) rfl rfl hl.1 rfl (lv_room (Nat.le_of_ble_eq_true rfl)) d_Md_byBases_20 ⟨Nat.le_of_ble_eq_true rfl, Nat.le_of_ble_eq_true rfl⟩) hP hD hS hA [0, 1, 2, 3, 4, 5] rfl rfl (fun r20 w1 H locs hpost hP hD hS => ?_)
            obtain ⟨ro2, ru2, rfl, rfl⟩ := hpost
            have hP : va_P D kcl [(h, .inr (5, [.int (nI th), .int (nI n), .ref a1, .ref a2, .ref a3, .ref a4, .int (nI wi), .int (nI bu), .int (nI L), .ref c1, .int (nI ax), .int (nI va), .int (nI sl), .int cv, .int (nI me), .ref b1, .ref b2, .int (nI (pw_mx (pw_r (3 + 2 * k) g2) me)), .ref c2, .int (nI me), .ref r1, .ref r2, .ref z1, .ref n1, .ref t1])), (r1, .inl (cI, 10, .inl (wA ro2))), (r2, .inl (cI, 10, .inl (wA ru2))), (b1, .inl (cI, 10, .inl (wA g1))), (b2, .inl (cI, 10, .inl (wA g2))), (c2, .inl (cI, 1600, .inl (wA cy)))] H := hP
            have hD : va_D A [(h, .inr (5, [.int (nI th), .int (nI n), .ref a1, .ref a2, .ref a3, .ref a4, .int (nI wi), .int (nI bu), .int (nI L), .ref c1, .int (nI ax), .int (nI va), .int (nI sl), .int cv, .int (nI me), .ref b1, .ref b2, .int (nI (pw_mx (pw_r (3 + 2 * k) g2) me)), .ref c2, .int (nI me), .ref r1, .ref r2, .ref z1, .ref n1, .ref t1])), (r1, .inl (cI, 10, .inl (wA ro2))), (r2, .inl (cI, 10, .inl (wA ru2))), (b1, .inl (cI, 10, .inl (wA g1))), (b2, .inl (cI, 10, .inl (wA g2))), (c2, .inl (cI, 1600, .inl (wA cy)))] := hD
            refine wi_if_eq hx hb d_Md_byBases_23 rfl (by decide) (fun _ => ?_) (fun h => absurd h (by decide))
            refine lv_iload_n hx hb d_Md_byBases_28 rfl (lv_at hl 2 rfl) ?_
            refine lv_iconst (v := nI 2) hx hb d_Md_byBases_29 (by decide) ?_
            refine wi_add hx hb d_Md_byBases_30 ?_
            rw [show 3 + 2 * k + 2 = 3 + 2 * (k + 1) by omega]
            refine lv_istore_n (lv' := [(2, .int (nI (3 + 2 * (k + 1)))), (0, .ref h), (1, .int (nI m9))]) hx hb d_Md_byBases_31 rfl hl (by decide) rfl (fun ls hl => ?_)
            refine lv_goto hx hb d_Md_byBases_32 rfl ?_
            exact ih7 (7 - (k + 1)) (by omega) (k + 1) (ro2) (ru2) (me) (pw_mx (pw_r (3 + 2 * k) g2) me) ls H locs rfl (by omega) (lt_s hno hfk) (lv_sub hl [1, 2, 0] rfl) hP hD hS
  exact loop7 _ (0) (ro) (ru) (mn) (L2) ls H locs rfl (Nat.zero_le _) lt_0 (lv_sub hl [2, 1, 0] rfl) hP hD hS
set_option maxHeartbeats 4000000 in
set_option maxRecDepth 100000 in
theorem c_Md_byBases1 (l : Launch) (Hs : Heap) (D : va_G) (cI cZ cL : ClassId) (h : Nat) (a1 : Nat) (a2 : Nat) (a3 : Nat) (a4 : Nat) (c1 : Nat) (b1 : Nat) (b2 : Nat) (c2 : Nat) (r1 : Nat) (r2 : Nat) (z1 : Nat) (n1 : Nat) (t1 : Nat) (th : Nat) (n : Nat) (wi : Nat) (bu : Nat) (L : Nat) (ax : Nat) (va : Nat) (sl : Nat) (me : Nat) (L2 : Nat) (mn : Nat) (cv : Int32) (ro : Nat → Nat) (ru : Nat → Nat) (g1 : Nat → Nat) (g2 : Nat → Nat) (cy : Nat → Nat) (hme : me ≤ 10) (hg2 : ∀ t, t < me → 1 ≤ g2 t ∧ g2 t ≤ 40) (hg1 : ∀ t, t < me → 0 < g1 t ∧ g1 t < 2 ^ 31) (hinj : ∀ i j, i < me → j < me → g1 i = g1 j → i = j) (hex : ∃ x, pw_b2 g2 me x) : kI l Hs D kcl (ty3 cI cZ cL) y_Md_byBases (mws y_Md_byBases b_Md_byBases 3 (Option.some Jvm.ClassFile.FieldType.boolean)) ({ frames := 3, cells := 0, slots := 0, locals := 71 } : Room) [.ref h] [(h, .inr (5, [.int (nI th), .int (nI n), .ref a1, .ref a2, .ref a3, .ref a4, .int (nI wi), .int (nI bu), .int (nI L), .ref c1, .int (nI ax), .int (nI va), .int (nI sl), .int cv, .int (nI me), .ref b1, .ref b2, .int (nI L2), .ref c2, .int (nI mn), .ref r1, .ref r2, .ref z1, .ref n1, .ref t1])), (r1, .inl (cI, 10, .inl (wA ro))), (r2, .inl (cI, 10, .inl (wA ru))), (b1, .inl (cI, 10, .inl (wA g1))), (b2, .inl (cI, 10, .inl (wA g2))), (c2, .inl (cI, 1600, .inl (wA cy)))] (fun r w => ∃ (ro2 : Nat → Nat), ∃ (ru2 : Nat → Nat), ∃ (m3 : Nat), ∃ (L3 : Nat), ∃ (cy2 : Nat → Nat), (∃ x, pw_b2 g2 me x ∧ L3 = pw_mx (pw_r x g2) me ∧ ∀ j, j < L3 → cy2 j = pw_CY x me g1 g2 j) ∧ r = nI 1 ∧ w = [(h, .inr (5, [.int (nI th), .int (nI n), .ref a1, .ref a2, .ref a3, .ref a4, .int (nI wi), .int (nI bu), .int (nI L), .ref c1, .int (nI ax), .int (nI va), .int (nI sl), .int cv, .int (nI me), .ref b1, .ref b2, .int (nI L3), .ref c2, .int (nI m3), .ref r1, .ref r2, .ref z1, .ref n1, .ref t1])), (r1, .inl (cI, 10, .inl (wA ro2))), (r2, .inl (cI, 10, .inl (wA ru2))), (b1, .inl (cI, 10, .inl (wA g1))), (b2, .inl (cI, 10, .inl (wA g2))), (c2, .inl (cI, 1600, .inl (wA cy2)))]) := by
  intro sz
  refine k_of (cc := b_Md_byBases) (maxL := 3) (ret := (Option.some Jvm.ClassFile.FieldType.boolean)) (by decide) rfl (Nat.le_of_ble_eq_true rfl) ?_
  intro p e s m args below meth c ls H locs A Q hQ hx hb hml hr hts hown hlk hnm hsz hAe hP hK hD hS hA hE hAH hl
  have ht : ∀ w ∈ mw, w.before args s = true := fun w h => hts w (List.mem_cons_of_mem _ h)
  have hl : lv_has ls 3 [(0, .ref h)] := hl
  refine lv_aload_n hx hb d_Md_byBases_0 rfl (lv_at hl 0 rfl) ?_
  refine ck_i (wc := [(h, .inr (5, [.int (nI th), .int (nI n), .ref a1, .ref a2, .ref a3, .ref a4, .int (nI wi), .int (nI bu), .int (nI L), .ref c1, .int (nI ax), .int (nI va), .int (nI sl), .int cv, .int (nI me), .ref b1, .ref b2, .int (nI L2), .ref c2, .int (nI mn), .ref r1, .ref r2, .ref z1, .ref n1, .ref t1])), (b2, .inl (cI, 10, .inl (wA g2)))]) (va_runV (As := []) (rest := []) (C := R_Md) ⟨hx, hb, hml, hown, ht⟩ (c_Md_leastSpan l Hs D cI cZ cL h a1 a2 a3 a4 c1 b1 b2 c2 r1 r2 z1 n1 t1 th n wi bu L ax va sl me L2 mn cv g2 hme (fun t h => (hg2 t h).2) H.size) (gw_V 0 ht wd_1017 wd_5 wd_1014 wd_1016 ws_35 (by decide +kernel) ⟨Nat.le_of_ble_eq_true rfl, Nat.le_of_ble_eq_true rfl⟩) (k_preV hE hAH hK hP hD hS [0, 4] rfl rfl 0 rfl rfl) rfl rfl hl.1 rfl (lv_room (Nat.le_of_ble_eq_true rfl)) d_Md_byBases_1 ⟨Nat.le_of_ble_eq_true rfl, Nat.le_of_ble_eq_true rfl⟩) hP hD hS hA [0, 4] rfl rfl (fun r1 w1 H locs hpost hP hD hS => ?_)
  obtain ⟨m9, hls, hm99, rfl, rfl⟩ := hpost
  have hP : va_P D kcl [(h, .inr (5, [.int (nI th), .int (nI n), .ref a1, .ref a2, .ref a3, .ref a4, .int (nI wi), .int (nI bu), .int (nI L), .ref c1, .int (nI ax), .int (nI va), .int (nI sl), .int cv, .int (nI me), .ref b1, .ref b2, .int (nI L2), .ref c2, .int (nI mn), .ref r1, .ref r2, .ref z1, .ref n1, .ref t1])), (r1, .inl (cI, 10, .inl (wA ro))), (r2, .inl (cI, 10, .inl (wA ru))), (b1, .inl (cI, 10, .inl (wA g1))), (b2, .inl (cI, 10, .inl (wA g2))), (c2, .inl (cI, 1600, .inl (wA cy)))] H := hP
  have hD : va_D A [(h, .inr (5, [.int (nI th), .int (nI n), .ref a1, .ref a2, .ref a3, .ref a4, .int (nI wi), .int (nI bu), .int (nI L), .ref c1, .int (nI ax), .int (nI va), .int (nI sl), .int cv, .int (nI me), .ref b1, .ref b2, .int (nI L2), .ref c2, .int (nI mn), .ref r1, .ref r2, .ref z1, .ref n1, .ref t1])), (r1, .inl (cI, 10, .inl (wA ro))), (r2, .inl (cI, 10, .inl (wA ru))), (b1, .inl (cI, 10, .inl (wA g1))), (b2, .inl (cI, 10, .inl (wA g2))), (c2, .inl (cI, 1600, .inl (wA cy)))] := hD
  refine lv_istore_n (lv' := [(1, .int (nI m9)), (0, .ref h)]) hx hb d_Md_byBases_4 rfl hl (by decide) rfl (fun ls hl => ?_)
  refine lv_iconst (v := nI 3) hx hb d_Md_byBases_5 (by decide) ?_
  refine lv_istore_n (lv' := [(2, .int (nI 3)), (1, .int (nI m9)), (0, .ref h)]) hx hb d_Md_byBases_6 rfl hl (by decide) rfl (fun ls hl => ?_)
  have loop7 : ∀ (d : Nat) (k : Nat) (u1 : Nat → Nat) (u2 : Nat → Nat) (mm : Nat) (l9 : Nat) (ls : Array Slot) (H : Heap) (locs : List Loc), 7 - k = d → (k ≤ 7) → (∀ j, j < k → ¬ pw_fit (3 + 2 * j) g2 me) → lv_has ls 3 [(0, .ref h), (1, .int (nI m9)), (2, .int (nI (3 + 2 * k)))] → va_P D kcl [(h, .inr (5, [.int (nI th), .int (nI n), .ref a1, .ref a2, .ref a3, .ref a4, .int (nI wi), .int (nI bu), .int (nI L), .ref c1, .int (nI ax), .int (nI va), .int (nI sl), .int cv, .int (nI me), .ref b1, .ref b2, .int (nI l9), .ref c2, .int (nI mm), .ref r1, .ref r2, .ref z1, .ref n1, .ref t1])), (r1, .inl (cI, 10, .inl (wA u1))), (r2, .inl (cI, 10, .inl (wA u2))), (b1, .inl (cI, 10, .inl (wA g1))), (b2, .inl (cI, 10, .inl (wA g2))), (c2, .inl (cI, 1600, .inl (wA cy)))] H → va_D A [(h, .inr (5, [.int (nI th), .int (nI n), .ref a1, .ref a2, .ref a3, .ref a4, .int (nI wi), .int (nI bu), .int (nI L), .ref c1, .int (nI ax), .int (nI va), .int (nI sl), .int cv, .int (nI me), .ref b1, .ref b2, .int (nI l9), .ref c2, .int (nI mm), .ref r1, .ref r2, .ref z1, .ref n1, .ref t1])), (r1, .inl (cI, 10, .inl (wA u1))), (r2, .inl (cI, 10, .inl (wA u2))), (b1, .inl (cI, 10, .inl (wA g1))), (b2, .inl (cI, 10, .inl (wA g2))), (c2, .inl (cI, 1600, .inl (wA cy)))] → va_S A s.heap H locs → W p l e ({ frames := 3, cells := 0, slots := 0, locals := 71 } : Room) s m args below meth c H locs 0 0 Q (F0 m 7 ls []) := by
    intro d
    induction d using Nat.strongRecOn with
    | ind d ih7 =>
      intro k u1 u2 mm l9 ls H locs hd7 hk hno hl hP hD hS
      refine lv_iload_n hx hb d_Md_byBases_7 rfl (lv_at hl 2 rfl) ?_
      refine lv_bipush (v := nI 16) hx hb d_Md_byBases_8 (by decide) ?_
      refine wi_ge hx hb d_Md_byBases_10 rfl (by omega) (by omega) (fun h10 => ?_) (fun h10 => ?_)
      · have hnone : ¬ ∃ x, pw_b2 g2 me x := fun ⟨x, hx2⟩ => by
          obtain ⟨⟨⟨x1, x2, x3⟩, x5⟩, x4, -⟩ := hx2
          have x6 := (hls x (by omega)).mpr x5
          exact hno ((x - 3) / 2) (by omega) (by rw [show 3 + 2 * ((x - 3) / 2) = x by omega]; exact x4)
        exact absurd hex hnone
      · refine lv_iload_n hx hb d_Md_byBases_13 rfl (lv_at hl 2 rfl) ?_
        refine lv_iload_n hx hb d_Md_byBases_14 rfl (lv_at hl 1 rfl) ?_
        refine wi_gt hx hb d_Md_byBases_15 rfl (by omega) (by omega) (fun h15 => ?_) (fun h15 => ?_)
        · have hnone : ¬ ∃ x, pw_b2 g2 me x := fun ⟨x, hx2⟩ => by
            obtain ⟨⟨⟨x1, x2, x3⟩, x5⟩, x4, -⟩ := hx2
            have x6 := (hls x (by omega)).mpr x5
            exact hno ((x - 3) / 2) (by omega) (by rw [show 3 + 2 * ((x - 3) / 2) = x by omega]; exact x4)
          exact absurd hex hnone
        · refine lv_aload_n hx hb d_Md_byBases_18 rfl (lv_at hl 0 rfl) ?_
          refine lv_iload_n hx hb d_Md_byBases_19 rfl (lv_at hl 2 rfl) ?_
          by_cases hfk : pw_fit (3 + 2 * k) g2 me
          · refine ck_i (wc := [(h, .inr (5, [.int (nI th), .int (nI n), .ref a1, .ref a2, .ref a3, .ref a4, .int (nI wi), .int (nI bu), .int (nI L), .ref c1, .int (nI ax), .int (nI va), .int (nI sl), .int cv, .int (nI me), .ref b1, .ref b2, .int (nI l9), .ref c2, .int (nI mm), .ref r1, .ref r2, .ref z1, .ref n1, .ref t1])), (r1, .inl (cI, 10, .inl (wA u1))), (r2, .inl (cI, 10, .inl (wA u2))), (b1, .inl (cI, 10, .inl (wA g1))), (b2, .inl (cI, 10, .inl (wA g2))), (c2, .inl (cI, 1600, .inl (wA cy)))]) (va_runV (As := [.int (nI (3 + 2 * k))]) (rest := []) (C := R_Md) ⟨hx, hb, hml, hown, ht⟩ (c_Md_lay1 l Hs D cI cZ cL h a1 a2 a3 a4 c1 b1 b2 c2 r1 r2 z1 n1 t1 th n wi bu L ax va sl me l9 mm cv u1 u2 g1 g2 cy (3 + 2 * k) hme (fun t h9 => ⟨(hls (3 + 2 * k) (by omega)).mp h15 t h9, (hg2 t h9).2⟩) (by omega) (by omega) hfk hg1 hinj H.size) (gw_V 1 ht wd_1002 wd_5 wd_999 wd_1001 ws_32 (by decide +kernel) ⟨Nat.le_of_ble_eq_true rfl, Nat.le_of_ble_eq_true rfl⟩) (k_preV hE hAH hK hP hD hS [0, 1, 2, 3, 4, 5] rfl rfl 0 rfl rfl) rfl rfl hl.1 rfl (lv_room (Nat.le_of_ble_eq_true rfl)) d_Md_byBases_20 ⟨Nat.le_of_ble_eq_true rfl, Nat.le_of_ble_eq_true rfl⟩) hP hD hS hA [0, 1, 2, 3, 4, 5] rfl rfl (fun r20 w1 H locs hpost hP hD hS => ?_)
            obtain ⟨ro2, ru2, cy2, hcy, rfl, rfl⟩ := hpost
            have hP : va_P D kcl [(h, .inr (5, [.int (nI th), .int (nI n), .ref a1, .ref a2, .ref a3, .ref a4, .int (nI wi), .int (nI bu), .int (nI L), .ref c1, .int (nI ax), .int (nI va), .int (nI sl), .int cv, .int (nI me), .ref b1, .ref b2, .int (nI (pw_mx (pw_r (3 + 2 * k) g2) me)), .ref c2, .int (nI me), .ref r1, .ref r2, .ref z1, .ref n1, .ref t1])), (r1, .inl (cI, 10, .inl (wA ro2))), (r2, .inl (cI, 10, .inl (wA ru2))), (b1, .inl (cI, 10, .inl (wA g1))), (b2, .inl (cI, 10, .inl (wA g2))), (c2, .inl (cI, 1600, .inl (wA cy2)))] H := hP
            have hD : va_D A [(h, .inr (5, [.int (nI th), .int (nI n), .ref a1, .ref a2, .ref a3, .ref a4, .int (nI wi), .int (nI bu), .int (nI L), .ref c1, .int (nI ax), .int (nI va), .int (nI sl), .int cv, .int (nI me), .ref b1, .ref b2, .int (nI (pw_mx (pw_r (3 + 2 * k) g2) me)), .ref c2, .int (nI me), .ref r1, .ref r2, .ref z1, .ref n1, .ref t1])), (r1, .inl (cI, 10, .inl (wA ro2))), (r2, .inl (cI, 10, .inl (wA ru2))), (b1, .inl (cI, 10, .inl (wA g1))), (b2, .inl (cI, 10, .inl (wA g2))), (c2, .inl (cI, 1600, .inl (wA cy2)))] := hD
            have hb2 : pw_b2 g2 me (3 + 2 * k) := ⟨⟨⟨by omega, by omega, by omega⟩, (hls (3 + 2 * k) (by omega)).mp h15⟩, hfk, fun x hx2 hx3 hx4 => hno ((x - 3) / 2) (by have := hx3.1.1; have := hx3.1.2.2; omega) (by rw [show 3 + 2 * ((x - 3) / 2) = x by have := hx3.1.1; have := hx3.1.2.2; omega]; exact hx4)⟩
            refine wi_if_eq hx hb d_Md_byBases_23 rfl (by decide) (fun h => absurd h (by decide)) (fun _ => ?_)
            refine lv_iconst (v := nI 1) hx hb d_Md_byBases_26 (by decide) ?_
            exact k_retz hQ hx hb hr hlk hAe hK hP hD hS (Nat.le_of_ble_eq_true rfl) (Nat.le_of_ble_eq_true rfl) (Nat.le_of_ble_eq_true rfl) rfl ⟨ro2, ru2, me, pw_mx (pw_r (3 + 2 * k) g2) me, cy2, ⟨_, hb2, rfl, hcy⟩, rfl, rfl⟩ d_Md_byBases_27
          · refine ck_i (wc := [(h, .inr (5, [.int (nI th), .int (nI n), .ref a1, .ref a2, .ref a3, .ref a4, .int (nI wi), .int (nI bu), .int (nI L), .ref c1, .int (nI ax), .int (nI va), .int (nI sl), .int cv, .int (nI me), .ref b1, .ref b2, .int (nI l9), .ref c2, .int (nI mm), .ref r1, .ref r2, .ref z1, .ref n1, .ref t1])), (r1, .inl (cI, 10, .inl (wA u1))), (r2, .inl (cI, 10, .inl (wA u2))), (b1, .inl (cI, 10, .inl (wA g1))), (b2, .inl (cI, 10, .inl (wA g2))), (c2, .inl (cI, 1600, .inl (wA cy)))]) (va_runV (As := [.int (nI (3 + 2 * k))]) (rest := []) (C := R_Md) ⟨hx, hb, hml, hown, ht⟩ (c_Md_lay0 l Hs D cI cZ cL h a1 a2 a3 a4 c1 b1 b2 c2 r1 r2 z1 n1 t1 th n wi bu L ax va sl me l9 mm cv u1 u2 g1 g2 cy (3 + 2 * k) hme (fun t h9 => ⟨(hls (3 + 2 * k) (by omega)).mp h15 t h9, (hg2 t h9).2⟩) (by omega) (by omega) hfk H.size) (gw_V 1 ht wd_1002 wd_5 wd_999 wd_1001 ws_32 (by decide +kernel) ⟨Nat.le_of_ble_eq_true rfl, Nat.le_of_ble_eq_true rfl⟩) (k_preV hE hAH hK hP hD hS [0, 1, 2, 3, 4, 5] rfl rfl 0 rfl rfl) rfl rfl hl.1 rfl (lv_room (Nat.le_of_ble_eq_true rfl)) d_Md_byBases_20 ⟨Nat.le_of_ble_eq_true rfl, Nat.le_of_ble_eq_true rfl⟩) hP hD hS hA [0, 1, 2, 3, 4, 5] rfl rfl (fun r20 w1 H locs hpost hP hD hS => ?_)
            obtain ⟨ro2, ru2, rfl, rfl⟩ := hpost
            have hP : va_P D kcl [(h, .inr (5, [.int (nI th), .int (nI n), .ref a1, .ref a2, .ref a3, .ref a4, .int (nI wi), .int (nI bu), .int (nI L), .ref c1, .int (nI ax), .int (nI va), .int (nI sl), .int cv, .int (nI me), .ref b1, .ref b2, .int (nI (pw_mx (pw_r (3 + 2 * k) g2) me)), .ref c2, .int (nI me), .ref r1, .ref r2, .ref z1, .ref n1, .ref t1])), (r1, .inl (cI, 10, .inl (wA ro2))), (r2, .inl (cI, 10, .inl (wA ru2))), (b1, .inl (cI, 10, .inl (wA g1))), (b2, .inl (cI, 10, .inl (wA g2))), (c2, .inl (cI, 1600, .inl (wA cy)))] H := hP
            have hD : va_D A [(h, .inr (5, [.int (nI th), .int (nI n), .ref a1, .ref a2, .ref a3, .ref a4, .int (nI wi), .int (nI bu), .int (nI L), .ref c1, .int (nI ax), .int (nI va), .int (nI sl), .int cv, .int (nI me), .ref b1, .ref b2, .int (nI (pw_mx (pw_r (3 + 2 * k) g2) me)), .ref c2, .int (nI me), .ref r1, .ref r2, .ref z1, .ref n1, .ref t1])), (r1, .inl (cI, 10, .inl (wA ro2))), (r2, .inl (cI, 10, .inl (wA ru2))), (b1, .inl (cI, 10, .inl (wA g1))), (b2, .inl (cI, 10, .inl (wA g2))), (c2, .inl (cI, 1600, .inl (wA cy)))] := hD
            refine wi_if_eq hx hb d_Md_byBases_23 rfl (by decide) (fun _ => ?_) (fun h => absurd h (by decide))
            refine lv_iload_n hx hb d_Md_byBases_28 rfl (lv_at hl 2 rfl) ?_
            refine lv_iconst (v := nI 2) hx hb d_Md_byBases_29 (by decide) ?_
            refine wi_add hx hb d_Md_byBases_30 ?_
            rw [show 3 + 2 * k + 2 = 3 + 2 * (k + 1) by omega]
            refine lv_istore_n (lv' := [(2, .int (nI (3 + 2 * (k + 1)))), (0, .ref h), (1, .int (nI m9))]) hx hb d_Md_byBases_31 rfl hl (by decide) rfl (fun ls hl => ?_)
            refine lv_goto hx hb d_Md_byBases_32 rfl ?_
            exact ih7 (7 - (k + 1)) (by omega) (k + 1) (ro2) (ru2) (me) (pw_mx (pw_r (3 + 2 * k) g2) me) ls H locs rfl (by omega) (lt_s hno hfk) (lv_sub hl [1, 2, 0] rfl) hP hD hS
  exact loop7 _ (0) (ro) (ru) (mn) (L2) ls H locs rfl (Nat.zero_le _) lt_0 (lv_sub hl [2, 1, 0] rfl) hP hD hS
set_option maxHeartbeats 4000000 in
set_option maxRecDepth 100000 in
theorem c_Md_copySetA (l : Launch) (Hs : Heap) (D : va_G) (cI cZ cL : ClassId) (h : Nat) (a1 : Nat) (a2 : Nat) (a3 : Nat) (a4 : Nat) (c1 : Nat) (b1 : Nat) (b2 : Nat) (c2 : Nat) (r1 : Nat) (r2 : Nat) (z1 : Nat) (n1 : Nat) (t1 : Nat) (th : Nat) (n : Nat) (wi : Nat) (bu : Nat) (L : Nat) (ax : Nat) (va : Nat) (sl : Nat) (me : Nat) (L2 : Nat) (mn : Nat) (cv : Int32) (f1 : Nat → Nat) (f2 : Nat → Nat) (g1 : Nat → Nat) (g2 : Nat → Nat) (v : Nat) (hn : n ≤ 10) (hid : ∀ t, t < n → f1 t < 2 ^ 31) (hv : v < 2 ^ 31) (hno : ∀ t, t < n → f1 t ≠ v) : kV l Hs D kcl (ty3 cI cZ cL) y_Md_copySet (mws y_Md_copySet b_Md_copySet 3 (Option.none : Option Jvm.ClassFile.FieldType)) ({ frames := 0, cells := 0, slots := 0, locals := 0 } : Room) [.ref h, .int (nI v)] [(h, .inr (5, [.int (nI th), .int (nI n), .ref a1, .ref a2, .ref a3, .ref a4, .int (nI wi), .int (nI bu), .int (nI L), .ref c1, .int (nI ax), .int (nI va), .int (nI sl), .int cv, .int (nI me), .ref b1, .ref b2, .int (nI L2), .ref c2, .int (nI mn), .ref r1, .ref r2, .ref z1, .ref n1, .ref t1])), (a1, .inl (cI, 10, .inl (wA f1))), (a2, .inl (cI, 10, .inl (wA f2))), (b1, .inl (cI, 10, .inl (wA g1))), (b2, .inl (cI, 10, .inl (wA g2)))] (fun w => ∃ (x1 : Nat → Nat), ∃ (x2 : Nat → Nat), (∀ t, t < n → x1 t = f1 t) ∧ (∀ t, t < n → x2 t = f2 t) ∧ w = [(h, .inr (5, [.int (nI th), .int (nI n), .ref a1, .ref a2, .ref a3, .ref a4, .int (nI wi), .int (nI bu), .int (nI L), .ref c1, .int (nI ax), .int (nI va), .int (nI sl), .int cv, .int (nI n), .ref b1, .ref b2, .int (nI L2), .ref c2, .int (nI mn), .ref r1, .ref r2, .ref z1, .ref n1, .ref t1])), (a1, .inl (cI, 10, .inl (wA f1))), (a2, .inl (cI, 10, .inl (wA f2))), (b1, .inl (cI, 10, .inl (wA x1))), (b2, .inl (cI, 10, .inl (wA x2)))]) := by
  intro sz
  refine k_of (cc := b_Md_copySet) (maxL := 3) (ret := (Option.none : Option Jvm.ClassFile.FieldType)) (by decide) rfl (Nat.le_of_ble_eq_true rfl) ?_
  intro p e s m args below meth c ls H locs A Q hQ hx hb hml hr hts hown hlk hnm hsz hAe hP hK hD hS hA hE hAH hl
  have ht : ∀ w ∈ mw, w.before args s = true := fun w h => hts w (List.mem_cons_of_mem _ h)
  have hl : lv_has ls 3 [(0, .ref h), (1, .int (nI v))] := hl
  refine lv_aload_n hx hb d_Md_copySet_0 rfl (lv_at hl 0 rfl) ?_
  refine lv_iconst (v := nI 0) hx hb d_Md_copySet_1 (by decide) ?_
  refine va_put (D := D) (ci := 5) (v := .int (nI 0)) (ty := .int) (C := R_Md) (T := T_Md) (N := 25) hx hb ht u_Md t_Md t_Md_ok n_Md hown hK hP hD hS 0 rfl rfl 14 (by decide) (ht _ wd_909) (fun _ h9 => h9) rfl (by decide +kernel) rfl rfl (Nat.le_of_ble_eq_true rfl) d_Md_copySet_2 (fun H locs hP hD hS => ?_)
  have hP : va_P D kcl [(h, .inr (5, [.int (nI th), .int (nI n), .ref a1, .ref a2, .ref a3, .ref a4, .int (nI wi), .int (nI bu), .int (nI L), .ref c1, .int (nI ax), .int (nI va), .int (nI sl), .int cv, .int (nI 0), .ref b1, .ref b2, .int (nI L2), .ref c2, .int (nI mn), .ref r1, .ref r2, .ref z1, .ref n1, .ref t1])), (a1, .inl (cI, 10, .inl (wA f1))), (a2, .inl (cI, 10, .inl (wA f2))), (b1, .inl (cI, 10, .inl (wA g1))), (b2, .inl (cI, 10, .inl (wA g2)))] H := hP
  have hD : va_D A [(h, .inr (5, [.int (nI th), .int (nI n), .ref a1, .ref a2, .ref a3, .ref a4, .int (nI wi), .int (nI bu), .int (nI L), .ref c1, .int (nI ax), .int (nI va), .int (nI sl), .int cv, .int (nI 0), .ref b1, .ref b2, .int (nI L2), .ref c2, .int (nI mn), .ref r1, .ref r2, .ref z1, .ref n1, .ref t1])), (a1, .inl (cI, 10, .inl (wA f1))), (a2, .inl (cI, 10, .inl (wA f2))), (b1, .inl (cI, 10, .inl (wA g1))), (b2, .inl (cI, 10, .inl (wA g2)))] := hD
  refine lv_iconst (v := nI 0) hx hb d_Md_copySet_5 (by decide) ?_
  refine lv_istore_n (lv' := [(2, .int (nI 0)), (0, .ref h), (1, .int (nI v))]) hx hb d_Md_copySet_6 rfl hl (by decide) rfl (fun ls hl => ?_)
  have loop7 : ∀ (d : Nat) (k : Nat) (x1 : Nat → Nat) (x2 : Nat → Nat) (ls : Array Slot) (H : Heap) (locs : List Loc), n - k = d → (k ≤ n) → (∀ t, t < k → x1 t = f1 t) → (∀ t, t < k → x2 t = f2 t) → lv_has ls 3 [(0, .ref h), (1, .int (nI v)), (2, .int (nI k))] → va_P D kcl [(h, .inr (5, [.int (nI th), .int (nI n), .ref a1, .ref a2, .ref a3, .ref a4, .int (nI wi), .int (nI bu), .int (nI L), .ref c1, .int (nI ax), .int (nI va), .int (nI sl), .int cv, .int (nI k), .ref b1, .ref b2, .int (nI L2), .ref c2, .int (nI mn), .ref r1, .ref r2, .ref z1, .ref n1, .ref t1])), (a1, .inl (cI, 10, .inl (wA f1))), (a2, .inl (cI, 10, .inl (wA f2))), (b1, .inl (cI, 10, .inl (wA x1))), (b2, .inl (cI, 10, .inl (wA x2)))] H → va_D A [(h, .inr (5, [.int (nI th), .int (nI n), .ref a1, .ref a2, .ref a3, .ref a4, .int (nI wi), .int (nI bu), .int (nI L), .ref c1, .int (nI ax), .int (nI va), .int (nI sl), .int cv, .int (nI k), .ref b1, .ref b2, .int (nI L2), .ref c2, .int (nI mn), .ref r1, .ref r2, .ref z1, .ref n1, .ref t1])), (a1, .inl (cI, 10, .inl (wA f1))), (a2, .inl (cI, 10, .inl (wA f2))), (b1, .inl (cI, 10, .inl (wA x1))), (b2, .inl (cI, 10, .inl (wA x2)))] → va_S A s.heap H locs → W p l e ({ frames := 0, cells := 0, slots := 0, locals := 0 } : Room) s m args below meth c H locs 0 0 Q (F0 m 7 ls []) := by
    intro d
    induction d using Nat.strongRecOn with
    | ind d ih7 =>
      intro k x1 x2 ls H locs hd7 hk hx1 hx2 hl hP hD hS
      refine lv_iload_n hx hb d_Md_copySet_7 rfl (lv_at hl 2 rfl) ?_
      refine lv_aload_n hx hb d_Md_copySet_8 rfl (lv_at hl 0 rfl) ?_
      refine va_get (D := D) (ci := 5) (v := .int (nI n)) (C := R_Md) (T := T_Md) (N := 25) hx hb ht u_Md hown hK hP 0 rfl rfl 1 (by decide) (ht _ wd_896) (fun _ h9 => h9) rfl d_Md_copySet_9 ?_
      refine wi_ge hx hb d_Md_copySet_12 rfl (by omega) (by omega) (fun h12 => ?_) (fun h12 => ?_)
      · obtain rfl : n = k := by omega
        exact k_retv hQ hx hb hr hlk hAe hK hP hD hS (Nat.le_of_ble_eq_true rfl) (Nat.le_of_ble_eq_true rfl) (Nat.le_of_ble_eq_true rfl) ⟨x1, x2, hx1, hx2, rfl⟩ d_Md_copySet_71
      · refine lv_aload_n hx hb d_Md_copySet_15 rfl (lv_at hl 0 rfl) ?_
        refine va_get (D := D) (ci := 5) (v := .ref a1) (C := R_Md) (T := T_Md) (N := 25) hx hb ht u_Md hown hK hP 0 rfl rfl 2 (by decide) (ht _ wd_897) (fun _ h9 => h9) rfl d_Md_copySet_16 ?_
        refine lv_iload_n hx hb d_Md_copySet_19 rfl (lv_at hl 2 rfl) ?_
        refine wi_ald hx hb hK hP 1 0 rfl rfl (by omega) (by omega) d_Md_copySet_20 ?_
        refine lv_iload_n hx hb d_Md_copySet_21 rfl (lv_at hl 1 rfl) ?_
        refine wi_eq hx hb d_Md_copySet_22 rfl (hid k h12) hv (fun h22 => ?_) (fun h22 => ?_)
        · exact absurd h22 (hno k h12)
        · refine lv_aload_n hx hb d_Md_copySet_25 rfl (lv_at hl 0 rfl) ?_
          refine va_get (D := D) (ci := 5) (v := .ref b1) (C := R_Md) (T := T_Md) (N := 25) hx hb ht u_Md hown hK hP 0 rfl rfl 15 (by decide) (ht _ wd_910) (fun _ h9 => h9) rfl d_Md_copySet_26 ?_
          refine lv_aload_n hx hb d_Md_copySet_29 rfl (lv_at hl 0 rfl) ?_
          refine va_get (D := D) (ci := 5) (v := .int (nI k)) (C := R_Md) (T := T_Md) (N := 25) hx hb ht u_Md hown hK hP 0 rfl rfl 14 (by decide) (ht _ wd_909) (fun _ h9 => h9) rfl d_Md_copySet_30 ?_
          refine lv_aload_n hx hb d_Md_copySet_33 rfl (lv_at hl 0 rfl) ?_
          refine va_get (D := D) (ci := 5) (v := .ref a1) (C := R_Md) (T := T_Md) (N := 25) hx hb ht u_Md hown hK hP 0 rfl rfl 2 (by decide) (ht _ wd_897) (fun _ h9 => h9) rfl d_Md_copySet_34 ?_
          refine lv_iload_n hx hb d_Md_copySet_37 rfl (lv_at hl 2 rfl) ?_
          refine wi_ald hx hb hK hP 1 0 rfl rfl (by omega) (by omega) d_Md_copySet_38 ?_
          refine wi_ast hx hb hK hP hD hS 3 0 rfl rfl (by omega) (by omega) d_Md_copySet_39 (fun H locs hP hD hS => ?_)
          have hP : va_P D kcl [(h, .inr (5, [.int (nI th), .int (nI n), .ref a1, .ref a2, .ref a3, .ref a4, .int (nI wi), .int (nI bu), .int (nI L), .ref c1, .int (nI ax), .int (nI va), .int (nI sl), .int cv, .int (nI k), .ref b1, .ref b2, .int (nI L2), .ref c2, .int (nI mn), .ref r1, .ref r2, .ref z1, .ref n1, .ref t1])), (a1, .inl (cI, 10, .inl (wA f1))), (a2, .inl (cI, 10, .inl (wA f2))), (b1, .inl (cI, 10, .inl (wA (va_up x1 k (f1 k))))), (b2, .inl (cI, 10, .inl (wA x2)))] H := hP
          have hD : va_D A [(h, .inr (5, [.int (nI th), .int (nI n), .ref a1, .ref a2, .ref a3, .ref a4, .int (nI wi), .int (nI bu), .int (nI L), .ref c1, .int (nI ax), .int (nI va), .int (nI sl), .int cv, .int (nI k), .ref b1, .ref b2, .int (nI L2), .ref c2, .int (nI mn), .ref r1, .ref r2, .ref z1, .ref n1, .ref t1])), (a1, .inl (cI, 10, .inl (wA f1))), (a2, .inl (cI, 10, .inl (wA f2))), (b1, .inl (cI, 10, .inl (wA (va_up x1 k (f1 k))))), (b2, .inl (cI, 10, .inl (wA x2)))] := hD
          refine lv_aload_n hx hb d_Md_copySet_40 rfl (lv_at hl 0 rfl) ?_
          refine va_get (D := D) (ci := 5) (v := .ref b2) (C := R_Md) (T := T_Md) (N := 25) hx hb ht u_Md hown hK hP 0 rfl rfl 16 (by decide) (ht _ wd_911) (fun _ h9 => h9) rfl d_Md_copySet_41 ?_
          refine lv_aload_n hx hb d_Md_copySet_44 rfl (lv_at hl 0 rfl) ?_
          refine va_get (D := D) (ci := 5) (v := .int (nI k)) (C := R_Md) (T := T_Md) (N := 25) hx hb ht u_Md hown hK hP 0 rfl rfl 14 (by decide) (ht _ wd_909) (fun _ h9 => h9) rfl d_Md_copySet_45 ?_
          refine lv_aload_n hx hb d_Md_copySet_48 rfl (lv_at hl 0 rfl) ?_
          refine va_get (D := D) (ci := 5) (v := .ref a2) (C := R_Md) (T := T_Md) (N := 25) hx hb ht u_Md hown hK hP 0 rfl rfl 3 (by decide) (ht _ wd_898) (fun _ h9 => h9) rfl d_Md_copySet_49 ?_
          refine lv_iload_n hx hb d_Md_copySet_52 rfl (lv_at hl 2 rfl) ?_
          refine wi_ald hx hb hK hP 2 0 rfl rfl (by omega) (by omega) d_Md_copySet_53 ?_
          refine wi_ast hx hb hK hP hD hS 4 0 rfl rfl (by omega) (by omega) d_Md_copySet_54 (fun H locs hP hD hS => ?_)
          have hP : va_P D kcl [(h, .inr (5, [.int (nI th), .int (nI n), .ref a1, .ref a2, .ref a3, .ref a4, .int (nI wi), .int (nI bu), .int (nI L), .ref c1, .int (nI ax), .int (nI va), .int (nI sl), .int cv, .int (nI k), .ref b1, .ref b2, .int (nI L2), .ref c2, .int (nI mn), .ref r1, .ref r2, .ref z1, .ref n1, .ref t1])), (a1, .inl (cI, 10, .inl (wA f1))), (a2, .inl (cI, 10, .inl (wA f2))), (b1, .inl (cI, 10, .inl (wA (va_up x1 k (f1 k))))), (b2, .inl (cI, 10, .inl (wA (va_up x2 k (f2 k)))))] H := hP
          have hD : va_D A [(h, .inr (5, [.int (nI th), .int (nI n), .ref a1, .ref a2, .ref a3, .ref a4, .int (nI wi), .int (nI bu), .int (nI L), .ref c1, .int (nI ax), .int (nI va), .int (nI sl), .int cv, .int (nI k), .ref b1, .ref b2, .int (nI L2), .ref c2, .int (nI mn), .ref r1, .ref r2, .ref z1, .ref n1, .ref t1])), (a1, .inl (cI, 10, .inl (wA f1))), (a2, .inl (cI, 10, .inl (wA f2))), (b1, .inl (cI, 10, .inl (wA (va_up x1 k (f1 k))))), (b2, .inl (cI, 10, .inl (wA (va_up x2 k (f2 k)))))] := hD
          refine lv_aload_n hx hb d_Md_copySet_55 rfl (lv_at hl 0 rfl) ?_
          refine lv_dup hx hb d_Md_copySet_56 rfl ?_
          refine va_get (D := D) (ci := 5) (v := .int (nI k)) (C := R_Md) (T := T_Md) (N := 25) hx hb ht u_Md hown hK hP 0 rfl rfl 14 (by decide) (ht _ wd_909) (fun _ h9 => h9) rfl d_Md_copySet_57 ?_
          refine lv_iconst (v := nI 1) hx hb d_Md_copySet_60 (by decide) ?_
          refine wi_add hx hb d_Md_copySet_61 ?_
          refine va_put (D := D) (ci := 5) (v := .int (nI (k + 1))) (ty := .int) (C := R_Md) (T := T_Md) (N := 25) hx hb ht u_Md t_Md t_Md_ok n_Md hown hK hP hD hS 0 rfl rfl 14 (by decide) (ht _ wd_909) (fun _ h9 => h9) rfl (by decide +kernel) rfl rfl (Nat.le_of_ble_eq_true rfl) d_Md_copySet_62 (fun H locs hP hD hS => ?_)
          have hP : va_P D kcl [(h, .inr (5, [.int (nI th), .int (nI n), .ref a1, .ref a2, .ref a3, .ref a4, .int (nI wi), .int (nI bu), .int (nI L), .ref c1, .int (nI ax), .int (nI va), .int (nI sl), .int cv, .int (nI (k + 1)), .ref b1, .ref b2, .int (nI L2), .ref c2, .int (nI mn), .ref r1, .ref r2, .ref z1, .ref n1, .ref t1])), (a1, .inl (cI, 10, .inl (wA f1))), (a2, .inl (cI, 10, .inl (wA f2))), (b1, .inl (cI, 10, .inl (wA (va_up x1 k (f1 k))))), (b2, .inl (cI, 10, .inl (wA (va_up x2 k (f2 k)))))] H := hP
          have hD : va_D A [(h, .inr (5, [.int (nI th), .int (nI n), .ref a1, .ref a2, .ref a3, .ref a4, .int (nI wi), .int (nI bu), .int (nI L), .ref c1, .int (nI ax), .int (nI va), .int (nI sl), .int cv, .int (nI (k + 1)), .ref b1, .ref b2, .int (nI L2), .ref c2, .int (nI mn), .ref r1, .ref r2, .ref z1, .ref n1, .ref t1])), (a1, .inl (cI, 10, .inl (wA f1))), (a2, .inl (cI, 10, .inl (wA f2))), (b1, .inl (cI, 10, .inl (wA (va_up x1 k (f1 k))))), (b2, .inl (cI, 10, .inl (wA (va_up x2 k (f2 k)))))] := hD
          refine wi_inc (k := 2) (lv' := [(2, .int (nI (k + 1))), (0, .ref h), (1, .int (nI v))]) hx hb d_Md_copySet_65 hl rfl (by decide) rfl (fun ls hl => ?_)
          refine lv_goto hx hb d_Md_copySet_68 rfl ?_
          exact ih7 (n - (k + 1)) (by omega) (k + 1) (va_up x1 k (f1 k)) (va_up x2 k (f2 k)) ls H locs rfl (by omega) (up_lt hx1) (up_lt hx2) (lv_sub hl [1, 2, 0] rfl) hP hD hS
  exact loop7 _ (0) (g1) (g2) ls H locs rfl (Nat.zero_le _) lt_0 lt_0 (lv_sub hl [1, 2, 0] rfl) hP hD hS
theorem up_sk {u f : Nat → Nat} {k i m : Nat} (h : ∀ t, t < m → u t = if t < i then f t else f (t + 1)) (hm : k = if m < i then m else m + 1) : ∀ t, t < m + 1 → va_up u m (f k) t = if t < i then f t else f (t + 1) := by
  refine lt_s (fun t ht => ?_) ?_
  · rw [va_up_ne _ _ (by omega)]
    exact h t ht
  · rw [va_up_self, hm]
    split <;> rfl
set_option maxHeartbeats 4000000 in
set_option maxRecDepth 100000 in
theorem c_Md_copySetB (l : Launch) (Hs : Heap) (D : va_G) (cI cZ cL : ClassId) (h : Nat) (a1 : Nat) (a2 : Nat) (a3 : Nat) (a4 : Nat) (c1 : Nat) (b1 : Nat) (b2 : Nat) (c2 : Nat) (r1 : Nat) (r2 : Nat) (z1 : Nat) (n1 : Nat) (t1 : Nat) (th : Nat) (n : Nat) (wi : Nat) (bu : Nat) (L : Nat) (ax : Nat) (va : Nat) (sl : Nat) (me : Nat) (L2 : Nat) (mn : Nat) (cv : Int32) (f1 : Nat → Nat) (f2 : Nat → Nat) (g1 : Nat → Nat) (g2 : Nat → Nat) (v : Nat) (i : Nat) (hn : n ≤ 10) (hid : ∀ t, t < n → f1 t < 2 ^ 31) (hv : v < 2 ^ 31) (hi : i < n) (hvi : f1 i = v) (hinj : ∀ i j, i < n → j < n → f1 i = f1 j → i = j) : kV l Hs D kcl (ty3 cI cZ cL) y_Md_copySet (mws y_Md_copySet b_Md_copySet 3 (Option.none : Option Jvm.ClassFile.FieldType)) ({ frames := 0, cells := 0, slots := 0, locals := 0 } : Room) [.ref h, .int (nI v)] [(h, .inr (5, [.int (nI th), .int (nI n), .ref a1, .ref a2, .ref a3, .ref a4, .int (nI wi), .int (nI bu), .int (nI L), .ref c1, .int (nI ax), .int (nI va), .int (nI sl), .int cv, .int (nI me), .ref b1, .ref b2, .int (nI L2), .ref c2, .int (nI mn), .ref r1, .ref r2, .ref z1, .ref n1, .ref t1])), (a1, .inl (cI, 10, .inl (wA f1))), (a2, .inl (cI, 10, .inl (wA f2))), (b1, .inl (cI, 10, .inl (wA g1))), (b2, .inl (cI, 10, .inl (wA g2)))] (fun w => ∃ (x1 : Nat → Nat), ∃ (x2 : Nat → Nat), (pw_le1 n f1 f2 x1 x2 i) ∧ w = [(h, .inr (5, [.int (nI th), .int (nI n), .ref a1, .ref a2, .ref a3, .ref a4, .int (nI wi), .int (nI bu), .int (nI L), .ref c1, .int (nI ax), .int (nI va), .int (nI sl), .int cv, .int (nI (n - 1)), .ref b1, .ref b2, .int (nI L2), .ref c2, .int (nI mn), .ref r1, .ref r2, .ref z1, .ref n1, .ref t1])), (a1, .inl (cI, 10, .inl (wA f1))), (a2, .inl (cI, 10, .inl (wA f2))), (b1, .inl (cI, 10, .inl (wA x1))), (b2, .inl (cI, 10, .inl (wA x2)))]) := by
  intro sz
  refine k_of (cc := b_Md_copySet) (maxL := 3) (ret := (Option.none : Option Jvm.ClassFile.FieldType)) (by decide) rfl (Nat.le_of_ble_eq_true rfl) ?_
  intro p e s m args below meth c ls H locs A Q hQ hx hb hml hr hts hown hlk hnm hsz hAe hP hK hD hS hA hE hAH hl
  have ht : ∀ w ∈ mw, w.before args s = true := fun w h => hts w (List.mem_cons_of_mem _ h)
  have hl : lv_has ls 3 [(0, .ref h), (1, .int (nI v))] := hl
  refine lv_aload_n hx hb d_Md_copySet_0 rfl (lv_at hl 0 rfl) ?_
  refine lv_iconst (v := nI 0) hx hb d_Md_copySet_1 (by decide) ?_
  refine va_put (D := D) (ci := 5) (v := .int (nI 0)) (ty := .int) (C := R_Md) (T := T_Md) (N := 25) hx hb ht u_Md t_Md t_Md_ok n_Md hown hK hP hD hS 0 rfl rfl 14 (by decide) (ht _ wd_909) (fun _ h9 => h9) rfl (by decide +kernel) rfl rfl (Nat.le_of_ble_eq_true rfl) d_Md_copySet_2 (fun H locs hP hD hS => ?_)
  have hP : va_P D kcl [(h, .inr (5, [.int (nI th), .int (nI n), .ref a1, .ref a2, .ref a3, .ref a4, .int (nI wi), .int (nI bu), .int (nI L), .ref c1, .int (nI ax), .int (nI va), .int (nI sl), .int cv, .int (nI 0), .ref b1, .ref b2, .int (nI L2), .ref c2, .int (nI mn), .ref r1, .ref r2, .ref z1, .ref n1, .ref t1])), (a1, .inl (cI, 10, .inl (wA f1))), (a2, .inl (cI, 10, .inl (wA f2))), (b1, .inl (cI, 10, .inl (wA g1))), (b2, .inl (cI, 10, .inl (wA g2)))] H := hP
  have hD : va_D A [(h, .inr (5, [.int (nI th), .int (nI n), .ref a1, .ref a2, .ref a3, .ref a4, .int (nI wi), .int (nI bu), .int (nI L), .ref c1, .int (nI ax), .int (nI va), .int (nI sl), .int cv, .int (nI 0), .ref b1, .ref b2, .int (nI L2), .ref c2, .int (nI mn), .ref r1, .ref r2, .ref z1, .ref n1, .ref t1])), (a1, .inl (cI, 10, .inl (wA f1))), (a2, .inl (cI, 10, .inl (wA f2))), (b1, .inl (cI, 10, .inl (wA g1))), (b2, .inl (cI, 10, .inl (wA g2)))] := hD
  refine lv_iconst (v := nI 0) hx hb d_Md_copySet_5 (by decide) ?_
  refine lv_istore_n (lv' := [(2, .int (nI 0)), (0, .ref h), (1, .int (nI v))]) hx hb d_Md_copySet_6 rfl hl (by decide) rfl (fun ls hl => ?_)
  have loop7 : ∀ (d : Nat) (k : Nat) (m9 : Nat) (x1 : Nat → Nat) (x2 : Nat → Nat) (ls : Array Slot) (H : Heap) (locs : List Loc), n - k = d → (k ≤ n) → (m9 = if k ≤ i then k else k - 1) → (∀ t, t < m9 → x1 t = if t < i then f1 t else f1 (t + 1)) → (∀ t, t < m9 → x2 t = if t < i then f2 t else f2 (t + 1)) → lv_has ls 3 [(0, .ref h), (1, .int (nI v)), (2, .int (nI k))] → va_P D kcl [(h, .inr (5, [.int (nI th), .int (nI n), .ref a1, .ref a2, .ref a3, .ref a4, .int (nI wi), .int (nI bu), .int (nI L), .ref c1, .int (nI ax), .int (nI va), .int (nI sl), .int cv, .int (nI m9), .ref b1, .ref b2, .int (nI L2), .ref c2, .int (nI mn), .ref r1, .ref r2, .ref z1, .ref n1, .ref t1])), (a1, .inl (cI, 10, .inl (wA f1))), (a2, .inl (cI, 10, .inl (wA f2))), (b1, .inl (cI, 10, .inl (wA x1))), (b2, .inl (cI, 10, .inl (wA x2)))] H → va_D A [(h, .inr (5, [.int (nI th), .int (nI n), .ref a1, .ref a2, .ref a3, .ref a4, .int (nI wi), .int (nI bu), .int (nI L), .ref c1, .int (nI ax), .int (nI va), .int (nI sl), .int cv, .int (nI m9), .ref b1, .ref b2, .int (nI L2), .ref c2, .int (nI mn), .ref r1, .ref r2, .ref z1, .ref n1, .ref t1])), (a1, .inl (cI, 10, .inl (wA f1))), (a2, .inl (cI, 10, .inl (wA f2))), (b1, .inl (cI, 10, .inl (wA x1))), (b2, .inl (cI, 10, .inl (wA x2)))] → va_S A s.heap H locs → W p l e ({ frames := 0, cells := 0, slots := 0, locals := 0 } : Room) s m args below meth c H locs 0 0 Q (F0 m 7 ls []) := by
    intro d
    induction d using Nat.strongRecOn with
    | ind d ih7 =>
      intro k m9 x1 x2 ls H locs hd7 hk hm hx1 hx2 hl hP hD hS
      refine lv_iload_n hx hb d_Md_copySet_7 rfl (lv_at hl 2 rfl) ?_
      refine lv_aload_n hx hb d_Md_copySet_8 rfl (lv_at hl 0 rfl) ?_
      refine va_get (D := D) (ci := 5) (v := .int (nI n)) (C := R_Md) (T := T_Md) (N := 25) hx hb ht u_Md hown hK hP 0 rfl rfl 1 (by decide) (ht _ wd_896) (fun _ h9 => h9) rfl d_Md_copySet_9 ?_
      refine wi_ge hx hb d_Md_copySet_12 rfl (by omega) (by omega) (fun h12 => ?_) (fun h12 => ?_)
      · obtain rfl : n = k := by omega
        have hm1 : m9 = n - 1 := by rw [hm, if_neg (by omega)]
        subst hm1
        exact k_retv hQ hx hb hr hlk hAe hK hP hD hS (Nat.le_of_ble_eq_true rfl) (Nat.le_of_ble_eq_true rfl) (Nat.le_of_ble_eq_true rfl) ⟨x1, x2, ⟨fun j hj => hx1 j (by omega), fun j hj => hx2 j (by omega)⟩, rfl⟩ d_Md_copySet_71
      · have hm10 : m9 < 10 := by rw [hm]; split <;> omega
        refine lv_aload_n hx hb d_Md_copySet_15 rfl (lv_at hl 0 rfl) ?_
        refine va_get (D := D) (ci := 5) (v := .ref a1) (C := R_Md) (T := T_Md) (N := 25) hx hb ht u_Md hown hK hP 0 rfl rfl 2 (by decide) (ht _ wd_897) (fun _ h9 => h9) rfl d_Md_copySet_16 ?_
        refine lv_iload_n hx hb d_Md_copySet_19 rfl (lv_at hl 2 rfl) ?_
        refine wi_ald hx hb hK hP 1 0 rfl rfl (by omega) (by omega) d_Md_copySet_20 ?_
        refine lv_iload_n hx hb d_Md_copySet_21 rfl (lv_at hl 1 rfl) ?_
        refine wi_eq hx hb d_Md_copySet_22 rfl (hid k h12) hv (fun h22 => ?_) (fun h22 => ?_)
        · refine wi_inc (k := 2) (lv' := [(2, .int (nI (k + 1))), (0, .ref h), (1, .int (nI v))]) hx hb d_Md_copySet_65 hl rfl (by decide) rfl (fun ls hl => ?_)
          refine lv_goto hx hb d_Md_copySet_68 rfl ?_
          have hki : k = i := hinj k i h12 hi (h22.trans hvi.symm)
          have hmn : m9 = if k + 1 ≤ i then k + 1 else k + 1 - 1 := by rw [hm, if_pos (by omega), if_neg (by omega)]; omega
          exact ih7 (n - (k + 1)) (by omega) (k + 1) (m9) (x1) (x2) ls H locs rfl (by omega) hmn hx1 hx2 (lv_sub hl [1, 2, 0] rfl) hP hD hS
        · have hki : k ≠ i := fun z => h22 (by rw [z]; exact hvi)
          refine lv_aload_n hx hb d_Md_copySet_25 rfl (lv_at hl 0 rfl) ?_
          refine va_get (D := D) (ci := 5) (v := .ref b1) (C := R_Md) (T := T_Md) (N := 25) hx hb ht u_Md hown hK hP 0 rfl rfl 15 (by decide) (ht _ wd_910) (fun _ h9 => h9) rfl d_Md_copySet_26 ?_
          refine lv_aload_n hx hb d_Md_copySet_29 rfl (lv_at hl 0 rfl) ?_
          refine va_get (D := D) (ci := 5) (v := .int (nI m9)) (C := R_Md) (T := T_Md) (N := 25) hx hb ht u_Md hown hK hP 0 rfl rfl 14 (by decide) (ht _ wd_909) (fun _ h9 => h9) rfl d_Md_copySet_30 ?_
          refine lv_aload_n hx hb d_Md_copySet_33 rfl (lv_at hl 0 rfl) ?_
          refine va_get (D := D) (ci := 5) (v := .ref a1) (C := R_Md) (T := T_Md) (N := 25) hx hb ht u_Md hown hK hP 0 rfl rfl 2 (by decide) (ht _ wd_897) (fun _ h9 => h9) rfl d_Md_copySet_34 ?_
          refine lv_iload_n hx hb d_Md_copySet_37 rfl (lv_at hl 2 rfl) ?_
          refine wi_ald hx hb hK hP 1 0 rfl rfl (by omega) (by omega) d_Md_copySet_38 ?_
          refine wi_ast hx hb hK hP hD hS 3 0 rfl rfl (by omega) (by omega) d_Md_copySet_39 (fun H locs hP hD hS => ?_)
          have hP : va_P D kcl [(h, .inr (5, [.int (nI th), .int (nI n), .ref a1, .ref a2, .ref a3, .ref a4, .int (nI wi), .int (nI bu), .int (nI L), .ref c1, .int (nI ax), .int (nI va), .int (nI sl), .int cv, .int (nI m9), .ref b1, .ref b2, .int (nI L2), .ref c2, .int (nI mn), .ref r1, .ref r2, .ref z1, .ref n1, .ref t1])), (a1, .inl (cI, 10, .inl (wA f1))), (a2, .inl (cI, 10, .inl (wA f2))), (b1, .inl (cI, 10, .inl (wA (va_up x1 m9 (f1 k))))), (b2, .inl (cI, 10, .inl (wA x2)))] H := hP
          have hD : va_D A [(h, .inr (5, [.int (nI th), .int (nI n), .ref a1, .ref a2, .ref a3, .ref a4, .int (nI wi), .int (nI bu), .int (nI L), .ref c1, .int (nI ax), .int (nI va), .int (nI sl), .int cv, .int (nI m9), .ref b1, .ref b2, .int (nI L2), .ref c2, .int (nI mn), .ref r1, .ref r2, .ref z1, .ref n1, .ref t1])), (a1, .inl (cI, 10, .inl (wA f1))), (a2, .inl (cI, 10, .inl (wA f2))), (b1, .inl (cI, 10, .inl (wA (va_up x1 m9 (f1 k))))), (b2, .inl (cI, 10, .inl (wA x2)))] := hD
          refine lv_aload_n hx hb d_Md_copySet_40 rfl (lv_at hl 0 rfl) ?_
          refine va_get (D := D) (ci := 5) (v := .ref b2) (C := R_Md) (T := T_Md) (N := 25) hx hb ht u_Md hown hK hP 0 rfl rfl 16 (by decide) (ht _ wd_911) (fun _ h9 => h9) rfl d_Md_copySet_41 ?_
          refine lv_aload_n hx hb d_Md_copySet_44 rfl (lv_at hl 0 rfl) ?_
          refine va_get (D := D) (ci := 5) (v := .int (nI m9)) (C := R_Md) (T := T_Md) (N := 25) hx hb ht u_Md hown hK hP 0 rfl rfl 14 (by decide) (ht _ wd_909) (fun _ h9 => h9) rfl d_Md_copySet_45 ?_
          refine lv_aload_n hx hb d_Md_copySet_48 rfl (lv_at hl 0 rfl) ?_
          refine va_get (D := D) (ci := 5) (v := .ref a2) (C := R_Md) (T := T_Md) (N := 25) hx hb ht u_Md hown hK hP 0 rfl rfl 3 (by decide) (ht _ wd_898) (fun _ h9 => h9) rfl d_Md_copySet_49 ?_
          refine lv_iload_n hx hb d_Md_copySet_52 rfl (lv_at hl 2 rfl) ?_
          refine wi_ald hx hb hK hP 2 0 rfl rfl (by omega) (by omega) d_Md_copySet_53 ?_
          refine wi_ast hx hb hK hP hD hS 4 0 rfl rfl (by omega) (by omega) d_Md_copySet_54 (fun H locs hP hD hS => ?_)
          have hP : va_P D kcl [(h, .inr (5, [.int (nI th), .int (nI n), .ref a1, .ref a2, .ref a3, .ref a4, .int (nI wi), .int (nI bu), .int (nI L), .ref c1, .int (nI ax), .int (nI va), .int (nI sl), .int cv, .int (nI m9), .ref b1, .ref b2, .int (nI L2), .ref c2, .int (nI mn), .ref r1, .ref r2, .ref z1, .ref n1, .ref t1])), (a1, .inl (cI, 10, .inl (wA f1))), (a2, .inl (cI, 10, .inl (wA f2))), (b1, .inl (cI, 10, .inl (wA (va_up x1 m9 (f1 k))))), (b2, .inl (cI, 10, .inl (wA (va_up x2 m9 (f2 k)))))] H := hP
          have hD : va_D A [(h, .inr (5, [.int (nI th), .int (nI n), .ref a1, .ref a2, .ref a3, .ref a4, .int (nI wi), .int (nI bu), .int (nI L), .ref c1, .int (nI ax), .int (nI va), .int (nI sl), .int cv, .int (nI m9), .ref b1, .ref b2, .int (nI L2), .ref c2, .int (nI mn), .ref r1, .ref r2, .ref z1, .ref n1, .ref t1])), (a1, .inl (cI, 10, .inl (wA f1))), (a2, .inl (cI, 10, .inl (wA f2))), (b1, .inl (cI, 10, .inl (wA (va_up x1 m9 (f1 k))))), (b2, .inl (cI, 10, .inl (wA (va_up x2 m9 (f2 k)))))] := hD
          refine lv_aload_n hx hb d_Md_copySet_55 rfl (lv_at hl 0 rfl) ?_
          refine lv_dup hx hb d_Md_copySet_56 rfl ?_
          refine va_get (D := D) (ci := 5) (v := .int (nI m9)) (C := R_Md) (T := T_Md) (N := 25) hx hb ht u_Md hown hK hP 0 rfl rfl 14 (by decide) (ht _ wd_909) (fun _ h9 => h9) rfl d_Md_copySet_57 ?_
          refine lv_iconst (v := nI 1) hx hb d_Md_copySet_60 (by decide) ?_
          refine wi_add hx hb d_Md_copySet_61 ?_
          refine va_put (D := D) (ci := 5) (v := .int (nI (m9 + 1))) (ty := .int) (C := R_Md) (T := T_Md) (N := 25) hx hb ht u_Md t_Md t_Md_ok n_Md hown hK hP hD hS 0 rfl rfl 14 (by decide) (ht _ wd_909) (fun _ h9 => h9) rfl (by decide +kernel) rfl rfl (Nat.le_of_ble_eq_true rfl) d_Md_copySet_62 (fun H locs hP hD hS => ?_)
          have hP : va_P D kcl [(h, .inr (5, [.int (nI th), .int (nI n), .ref a1, .ref a2, .ref a3, .ref a4, .int (nI wi), .int (nI bu), .int (nI L), .ref c1, .int (nI ax), .int (nI va), .int (nI sl), .int cv, .int (nI (m9 + 1)), .ref b1, .ref b2, .int (nI L2), .ref c2, .int (nI mn), .ref r1, .ref r2, .ref z1, .ref n1, .ref t1])), (a1, .inl (cI, 10, .inl (wA f1))), (a2, .inl (cI, 10, .inl (wA f2))), (b1, .inl (cI, 10, .inl (wA (va_up x1 m9 (f1 k))))), (b2, .inl (cI, 10, .inl (wA (va_up x2 m9 (f2 k)))))] H := hP
          have hD : va_D A [(h, .inr (5, [.int (nI th), .int (nI n), .ref a1, .ref a2, .ref a3, .ref a4, .int (nI wi), .int (nI bu), .int (nI L), .ref c1, .int (nI ax), .int (nI va), .int (nI sl), .int cv, .int (nI (m9 + 1)), .ref b1, .ref b2, .int (nI L2), .ref c2, .int (nI mn), .ref r1, .ref r2, .ref z1, .ref n1, .ref t1])), (a1, .inl (cI, 10, .inl (wA f1))), (a2, .inl (cI, 10, .inl (wA f2))), (b1, .inl (cI, 10, .inl (wA (va_up x1 m9 (f1 k))))), (b2, .inl (cI, 10, .inl (wA (va_up x2 m9 (f2 k)))))] := hD
          refine wi_inc (k := 2) (lv' := [(2, .int (nI (k + 1))), (0, .ref h), (1, .int (nI v))]) hx hb d_Md_copySet_65 hl rfl (by decide) rfl (fun ls hl => ?_)
          refine lv_goto hx hb d_Md_copySet_68 rfl ?_
          have hmn : m9 + 1 = if k + 1 ≤ i then k + 1 else k + 1 - 1 := by
            rw [hm]
            split
            · rw [if_pos (by omega)]
            · rw [if_neg (by omega)]; omega
          have hks : k = if m9 < i then m9 else m9 + 1 := by
            rw [hm]
            by_cases a : k ≤ i
            · rw [if_pos a, if_pos (by omega)]
            · rw [if_neg a, if_neg (by omega)]; omega
          exact ih7 (n - (k + 1)) (by omega) (k + 1) (m9 + 1) (va_up x1 m9 (f1 k)) (va_up x2 m9 (f2 k)) ls H locs rfl (by omega) hmn (up_sk hx1 hks) (up_sk hx2 hks) (lv_sub hl [1, 2, 0] rfl) hP hD hS
  exact loop7 _ (0) (0) (g1) (g2) ls H locs rfl (Nat.zero_le _) (by rw [if_pos (Nat.zero_le _)]) lt_0 lt_0 (lv_sub hl [1, 2, 0] rfl) hP hD hS
