/-! StateBuilder: one state. -/
def sb_ok (K : Nat) (fs fw : Nat → Nat) (sc aw : Nat) : Prop := 1 ≤ K ∧ K ≤ 4 ∧ (∀ k, k < K → 0 < fs k ∧ fs k ≤ 40) ∧ (∀ k, k < K → fw k = pw_w fs k) ∧ aw = pw_sw fs K ∧ sc = pw_w fs K ∧ sc ≤ 1500
theorem pw_w_le {f : Nat → Nat} {n B : Nat} (h : ∀ k, k < n → f k ≤ B) : pw_w f n ≤ B ^ n := by
  induction n with
  | zero => exact Nat.le_refl 1
  | succ n ih =>
    rw [Nat.pow_succ]
    exact Nat.mul_le_mul (ih fun k hk => h k (by omega)) (h n (by omega))
theorem pw_w_40 {f : Nat → Nat} {n k : Nat} (hn : n ≤ 4) (hk : k ≤ n) (h : ∀ k, k < n → f k ≤ 40) : pw_w f k ≤ 2560000 := Nat.le_trans (pw_w_le fun j hj => h j (by omega)) (Nat.le_trans (Nat.pow_le_pow_right (by decide) (by omega : k ≤ 4)) (by decide))
theorem sb_ok_w {K : Nat} {fs fw : Nat → Nat} {sc aw : Nat} (h : sb_ok K fs fw sc aw) {k : Nat} (hk : k < K) : 0 < fw k ∧ fw k ≤ 2560000 := by
  obtain ⟨-, h2, h3, h4, -⟩ := h
  rw [h4 k hk]
  exact ⟨pw_w_pos' (K := K) (fun j hj => (h3 j hj).1) (by omega), pw_w_40 h2 (by omega) fun j hj => (h3 j hj).2⟩
theorem pw_sw_le {f : Nat → Nat} {n B : Nat} (h : ∀ k, k < n → pw_w f k ≤ B) : pw_sw f n ≤ n * B := by
  induction n with
  | zero => exact Nat.zero_le _
  | succ n ih =>
    have h1 := ih fun k hk => h k (by omega)
    have h2 := h n (by omega)
    show pw_sw f n + pw_w f n ≤ (n + 1) * B
    rw [Nat.succ_mul]
    omega
theorem sb_ok_aw {K : Nat} {fs fw : Nat → Nat} {sc aw : Nat} (h : sb_ok K fs fw sc aw) : aw ≤ 10240000 := by
  obtain ⟨-, h2, h3, -, h5, -⟩ := h
  have h6 : pw_sw fs K ≤ K * 2560000 := pw_sw_le fun k hk => pw_w_40 h2 (by omega) fun j hj => (h3 j hj).2
  have h7 : K * 2560000 ≤ 4 * 2560000 := Nat.mul_le_mul_right _ h2
  omega
theorem sb_pos {K : Nat} {fs fw : Nat → Nat} {sc aw : Nat} (h : sb_ok K fs fw sc aw) : ∀ k, k < K → 0 < fs k := fun k hk => (h.2.2.1 k hk).1
theorem i32_mv {a b c d : Int32} (h : d + b = a + c) : a - b + c = d := by
  have h1 : a - b + c = (a + c) - b := by rw [Int32.sub_eq_add_neg, Int32.sub_eq_add_neg, Int32.add_assoc, Int32.add_comm (-b), ← Int32.add_assoc]
  rw [h1, ← h, Int32.add_sub_cancel]
theorem sb_after {K : Nat} {fs fw : Nat → Nat} {sc aw s t : Nat} (h : sb_ok K fs fw sc aw) (hs : s < sc) (ht : t < K) (hok : pw_ok K fs s t) : nI s - nI aw + nI (fw t * (fs t - pw_dg fs s t)) = nI (pw_nx K fs s t) := by
  have h1 := pw_nx_sum (sp := fs) (sb_pos h) ht (by rw [← h.2.2.2.2.2.1]; exact hs) hok
  refine i32_mv ?_
  rw [nI_add, nI_add, h.2.2.2.2.1, h.2.2.2.1 t ht, h1]
set_option maxHeartbeats 4000000 in
set_option maxRecDepth 100000 in
theorem c_Sb_digit (l : Launch) (Hs : Heap) (D : va_G) (cI cZ cL : ClassId) (h : Nat) (i1 : Nat) (i2 : Nat) (i3 : Nat) (i4 : Nat) (i5 : Nat) (i6 : Nat) (i7 : Nat) (K : Nat) (sc : Nat) (aw : Nat) (uc : Nat) (fs : Nat → Nat) (fw : Nat → Nat) (v : Nat) (k : Nat) (hok : sb_ok K fs fw sc aw) (hv : v < 2 ^ 31) (hk : k < K) : kI l Hs D kcl (ty3 cI cZ cL) y_Sb_digit (mws y_Sb_digit b_Sb_digit 3 (Option.some Jvm.ClassFile.FieldType.int)) ({ frames := 0, cells := 0, slots := 0, locals := 0 } : Room) [.ref h, .int (nI v), .int (nI k)] [(h, .inr (3, [.ref i1, .ref i2, .ref i3, .int (nI K), .int (nI sc), .int (nI aw), .ref i4, .ref i5, .int (nI uc), .ref i6, .ref i7])), (i3, .inl (cI, 4, .inl (wA fw))), (i2, .inl (cI, 4, .inl (wA fs)))] (fun r w => r = nI (pw_dg fs v k) ∧ w = [(h, .inr (3, [.ref i1, .ref i2, .ref i3, .int (nI K), .int (nI sc), .int (nI aw), .ref i4, .ref i5, .int (nI uc), .ref i6, .ref i7])), (i3, .inl (cI, 4, .inl (wA fw))), (i2, .inl (cI, 4, .inl (wA fs)))]) := by
  intro sz
  refine k_of (cc := b_Sb_digit) (maxL := 3) (ret := (Option.some Jvm.ClassFile.FieldType.int)) (by decide) rfl (Nat.le_of_ble_eq_true rfl) ?_
  intro p e s m args below meth c ls H locs A Q hQ hx hb hml hr hts hown hlk hnm hsz hAe hP hK hD hS hA hE hAH hl
  have ht : ∀ w ∈ mw, w.before args s = true := fun w h => hts w (List.mem_cons_of_mem _ h)
  have hl : lv_has ls 3 [(0, .ref h), (1, .int (nI v)), (2, .int (nI k))] := hl
  have hwk := sb_ok_w hok hk
  have hsk := hok.2.2.1 k hk
  have hK4 := hok.2.1
  refine lv_aload_n hx hb d_Sb_digit_0 rfl (lv_at hl 0 rfl) ?_
  refine va_get (D := D) (ci := 3) (v := .ref i3) (C := R_Sb) (T := T_Sb) (N := 11) hx hb ht u_Sb hown hK hP 0 rfl rfl 2 (by decide) (ht _ wd_204) (fun _ h9 => h9) rfl d_Sb_digit_1 ?_
  refine lv_iload_n hx hb d_Sb_digit_4 rfl (lv_at hl 2 rfl) ?_
  refine wi_ald hx hb hK hP 1 0 rfl rfl (by omega) (by omega) d_Sb_digit_5 ?_
  refine wi_if_le hx hb d_Sb_digit_6 rfl (by omega) (fun h6 => ?_) (fun h6 => ?_)
  · exfalso; omega
  · refine lv_aload_n hx hb d_Sb_digit_9 rfl (lv_at hl 0 rfl) ?_
    refine va_get (D := D) (ci := 3) (v := .ref i2) (C := R_Sb) (T := T_Sb) (N := 11) hx hb ht u_Sb hown hK hP 0 rfl rfl 1 (by decide) (ht _ wd_203) (fun _ h9 => h9) rfl d_Sb_digit_10 ?_
    refine lv_iload_n hx hb d_Sb_digit_13 rfl (lv_at hl 2 rfl) ?_
    refine wi_ald hx hb hK hP 2 0 rfl rfl (by omega) (by omega) d_Sb_digit_14 ?_
    refine wi_if_le hx hb d_Sb_digit_15 rfl (by omega) (fun h15 => ?_) (fun h15 => ?_)
    · exfalso; omega
    · refine lv_iload_n hx hb d_Sb_digit_18 rfl (lv_at hl 1 rfl) ?_
      refine lv_aload_n hx hb d_Sb_digit_19 rfl (lv_at hl 0 rfl) ?_
      refine va_get (D := D) (ci := 3) (v := .ref i3) (C := R_Sb) (T := T_Sb) (N := 11) hx hb ht u_Sb hown hK hP 0 rfl rfl 2 (by decide) (ht _ wd_204) (fun _ h9 => h9) rfl d_Sb_digit_20 ?_
      refine lv_iload_n hx hb d_Sb_digit_23 rfl (lv_at hl 2 rfl) ?_
      refine wi_ald hx hb hK hP 1 0 rfl rfl (by omega) (by omega) d_Sb_digit_24 ?_
      refine wi_div hx hb d_Sb_digit_25 (by omega) (by omega) (by omega) ?_
      refine lv_aload_n hx hb d_Sb_digit_26 rfl (lv_at hl 0 rfl) ?_
      refine va_get (D := D) (ci := 3) (v := .ref i2) (C := R_Sb) (T := T_Sb) (N := 11) hx hb ht u_Sb hown hK hP 0 rfl rfl 1 (by decide) (ht _ wd_203) (fun _ h9 => h9) rfl d_Sb_digit_27 ?_
      refine lv_iload_n hx hb d_Sb_digit_30 rfl (lv_at hl 2 rfl) ?_
      refine wi_ald hx hb hK hP 2 0 rfl rfl (by omega) (by omega) d_Sb_digit_31 ?_
      refine wi_rem hx hb d_Sb_digit_32 (Nat.lt_of_le_of_lt (Nat.div_le_self _ _) hv) (by omega) (by omega) ?_
      refine lv_goto hx hb d_Sb_digit_33 rfl ?_
      exact k_reti hQ hx hb hr hlk hAe hK hP hD hS (Nat.le_of_ble_eq_true rfl) (Nat.le_of_ble_eq_true rfl) (Nat.le_of_ble_eq_true rfl) ⟨by rw [hok.2.2.2.1 k hk]; rfl, rfl⟩ d_Sb_digit_37
set_option maxHeartbeats 4000000 in
set_option maxRecDepth 100000 in
theorem c_Sb_countWaysOn (l : Launch) (Hs : Heap) (D : va_G) (cI cZ cL : ClassId) (h : Nat) (i1 : Nat) (i2 : Nat) (i3 : Nat) (i4 : Nat) (i5 : Nat) (i6 : Nat) (i7 : Nat) (K : Nat) (sc : Nat) (aw : Nat) (uc : Nat) (fs : Nat → Nat) (fw : Nat → Nat) (v : Nat) (hok : sb_ok K fs fw sc aw) (hv : v < sc) : kI l Hs D kcl (ty3 cI cZ cL) y_Sb_countWaysOn (mws y_Sb_countWaysOn b_Sb_countWaysOn 4 (Option.some Jvm.ClassFile.FieldType.int)) ({ frames := 1, cells := 0, slots := 0, locals := 22 } : Room) [.ref h, .int (nI v)] [(h, .inr (3, [.ref i1, .ref i2, .ref i3, .int (nI K), .int (nI sc), .int (nI aw), .ref i4, .ref i5, .int (nI uc), .ref i6, .ref i7])), (i3, .inl (cI, 4, .inl (wA fw))), (i2, .inl (cI, 4, .inl (wA fs)))] (fun r w => r = nI (pw_ct (pw_okb K fs v) K) ∧ w = [(h, .inr (3, [.ref i1, .ref i2, .ref i3, .int (nI K), .int (nI sc), .int (nI aw), .ref i4, .ref i5, .int (nI uc), .ref i6, .ref i7])), (i3, .inl (cI, 4, .inl (wA fw))), (i2, .inl (cI, 4, .inl (wA fs)))]) := by
  intro sz
  refine k_of (cc := b_Sb_countWaysOn) (maxL := 4) (ret := (Option.some Jvm.ClassFile.FieldType.int)) (by decide) rfl (Nat.le_of_ble_eq_true rfl) ?_
  intro p e s m args below meth c ls H locs A Q hQ hx hb hml hr hts hown hlk hnm hsz hAe hP hK hD hS hA hE hAH hl
  have ht : ∀ w ∈ mw, w.before args s = true := fun w h => hts w (List.mem_cons_of_mem _ h)
  have hl : lv_has ls 4 [(0, .ref h), (1, .int (nI v))] := hl
  refine lv_iconst (v := nI 0) hx hb d_Sb_countWaysOn_0 (by decide) ?_
  refine lv_istore_n (lv' := [(2, .int (nI 0)), (0, .ref h), (1, .int (nI v))]) hx hb d_Sb_countWaysOn_1 rfl hl (by decide) rfl (fun ls hl => ?_)
  refine lv_iconst (v := nI 0) hx hb d_Sb_countWaysOn_2 (by decide) ?_
  refine lv_istore_n (lv' := [(3, .int (nI 0)), (2, .int (nI 0)), (0, .ref h), (1, .int (nI v))]) hx hb d_Sb_countWaysOn_3 rfl hl (by decide) rfl (fun ls hl => ?_)
  have loop4 : ∀ (d : Nat) (k : Nat) (ls : Array Slot) (H : Heap) (locs : List Loc), K - k = d → (k ≤ K) → lv_has ls 4 [(0, .ref h), (1, .int (nI v)), (2, .int (nI (pw_ur fs v k))), (3, .int (nI k))] → va_P D kcl [(h, .inr (3, [.ref i1, .ref i2, .ref i3, .int (nI K), .int (nI sc), .int (nI aw), .ref i4, .ref i5, .int (nI uc), .ref i6, .ref i7])), (i3, .inl (cI, 4, .inl (wA fw))), (i2, .inl (cI, 4, .inl (wA fs)))] H → va_D A [(h, .inr (3, [.ref i1, .ref i2, .ref i3, .int (nI K), .int (nI sc), .int (nI aw), .ref i4, .ref i5, .int (nI uc), .ref i6, .ref i7])), (i3, .inl (cI, 4, .inl (wA fw))), (i2, .inl (cI, 4, .inl (wA fs)))] → va_S A s.heap H locs → W p l e ({ frames := 1, cells := 0, slots := 0, locals := 22 } : Room) s m args below meth c H locs 0 0 Q (F0 m 4 ls []) := by
    intro d
    induction d using Nat.strongRecOn with
    | ind d ih4 =>
      intro k ls H locs hd4 hk hl hP hD hS
      have hul : pw_ur fs v k ≤ k := pw_ct_le _ k
      have hK4 := hok.2.1
      refine lv_iload_n hx hb d_Sb_countWaysOn_4 rfl (lv_at hl 3 rfl) ?_
      refine lv_aload_n hx hb d_Sb_countWaysOn_5 rfl (lv_at hl 0 rfl) ?_
      refine va_get (D := D) (ci := 3) (v := .int (nI K)) (C := R_Sb) (T := T_Sb) (N := 11) hx hb ht u_Sb hown hK hP 0 rfl rfl 3 (by decide) (ht _ wd_205) (fun _ h9 => h9) rfl d_Sb_countWaysOn_6 ?_
      refine wi_ge hx hb d_Sb_countWaysOn_9 rfl (by omega) (by omega) (fun h9 => ?_) (fun h9 => ?_)
      · obtain rfl : K = k := by omega
        refine lv_iload_n hx hb d_Sb_countWaysOn_30 rfl (lv_at hl 2 rfl) ?_
        refine wi_if_ne hx hb d_Sb_countWaysOn_31 rfl (by omega) (fun h31 => ?_) (fun h31 => ?_)
        · refine lv_iload_n hx hb d_Sb_countWaysOn_39 rfl (lv_at hl 2 rfl) ?_
          refine lv_iconst (v := nI 1) hx hb d_Sb_countWaysOn_40 (by decide) ?_
          refine wi_ne hx hb d_Sb_countWaysOn_41 rfl (by omega) (by omega) (fun h41 => ?_) (fun h41 => ?_)
          · refine lv_iconst (v := nI 0) hx hb d_Sb_countWaysOn_48 (by decide) ?_
            exact k_reti hQ hx hb hr hlk hAe hK hP hD hS (Nat.le_of_ble_eq_true rfl) (Nat.le_of_ble_eq_true rfl) (Nat.le_of_ble_eq_true rfl) ⟨by rw [pw_ways, if_neg (by omega), if_neg h41], rfl⟩ d_Sb_countWaysOn_49
          · refine lv_iconst (v := nI 1) hx hb d_Sb_countWaysOn_44 (by decide) ?_
            refine lv_goto hx hb d_Sb_countWaysOn_45 rfl ?_
            exact k_reti hQ hx hb hr hlk hAe hK hP hD hS (Nat.le_of_ble_eq_true rfl) (Nat.le_of_ble_eq_true rfl) (Nat.le_of_ble_eq_true rfl) ⟨by rw [pw_ways, if_neg (by omega), if_pos h41], rfl⟩ d_Sb_countWaysOn_49
        · refine lv_aload_n hx hb d_Sb_countWaysOn_34 rfl (lv_at hl 0 rfl) ?_
          refine va_get (D := D) (ci := 3) (v := .int (nI K)) (C := R_Sb) (T := T_Sb) (N := 11) hx hb ht u_Sb hown hK hP 0 rfl rfl 3 (by decide) (ht _ wd_205) (fun _ h9 => h9) rfl d_Sb_countWaysOn_35 ?_
          exact k_reti hQ hx hb hr hlk hAe hK hP hD hS (Nat.le_of_ble_eq_true rfl) (Nat.le_of_ble_eq_true rfl) (Nat.le_of_ble_eq_true rfl) ⟨by rw [pw_ways, if_pos h31], rfl⟩ d_Sb_countWaysOn_38
      · refine lv_aload_n hx hb d_Sb_countWaysOn_12 rfl (lv_at hl 0 rfl) ?_
        refine lv_iload_n hx hb d_Sb_countWaysOn_13 rfl (lv_at hl 1 rfl) ?_
        refine lv_iload_n hx hb d_Sb_countWaysOn_14 rfl (lv_at hl 3 rfl) ?_
        refine ck_i (wc := [(h, .inr (3, [.ref i1, .ref i2, .ref i3, .int (nI K), .int (nI sc), .int (nI aw), .ref i4, .ref i5, .int (nI uc), .ref i6, .ref i7])), (i3, .inl (cI, 4, .inl (wA fw))), (i2, .inl (cI, 4, .inl (wA fs)))]) (va_runV (As := [.int (nI v), .int (nI k)]) (rest := []) (C := R_Sb) ⟨hx, hb, hml, hown, ht⟩ (c_Sb_digit l Hs D cI cZ cL h i1 i2 i3 i4 i5 i6 i7 K sc aw uc fs fw v k hok (by have := hok.2.2.2.2.2.2; omega) (by omega) H.size) (gw_V 2 ht wd_266 wd_25 wd_263 wd_265 ws_10 (by decide +kernel) ⟨Nat.le_of_ble_eq_true rfl, Nat.le_of_ble_eq_true rfl⟩) (k_preV hE hAH hK hP hD hS [0, 1, 2] rfl rfl 0 rfl rfl) rfl rfl hl.1 rfl (lv_room (Nat.le_of_ble_eq_true rfl)) d_Sb_countWaysOn_15 ⟨Nat.le_of_ble_eq_true rfl, Nat.le_of_ble_eq_true rfl⟩) hP hD hS hA [0, 1, 2] rfl rfl (fun r15 w1 H locs hpost hP hD hS => ?_)
        obtain ⟨rfl, rfl⟩ := hpost
        have hP : va_P D kcl [(h, .inr (3, [.ref i1, .ref i2, .ref i3, .int (nI K), .int (nI sc), .int (nI aw), .ref i4, .ref i5, .int (nI uc), .ref i6, .ref i7])), (i3, .inl (cI, 4, .inl (wA fw))), (i2, .inl (cI, 4, .inl (wA fs)))] H := hP
        have hD : va_D A [(h, .inr (3, [.ref i1, .ref i2, .ref i3, .int (nI K), .int (nI sc), .int (nI aw), .ref i4, .ref i5, .int (nI uc), .ref i6, .ref i7])), (i3, .inl (cI, 4, .inl (wA fw))), (i2, .inl (cI, 4, .inl (wA fs)))] := hD
        refine wi_if_ne hx hb d_Sb_countWaysOn_18 rfl (Nat.lt_of_lt_of_le (pw_dg_lt (hok.2.2.1 k h9).1) (by have := (hok.2.2.1 k h9).2; omega)) (fun h18 => ?_) (fun h18 => ?_)
        · have hur : pw_ur fs v (k + 1) = pw_ur fs v k := by
            show pw_ct _ k + (if decide (pw_dg fs v k = 0) = true then 1 else 0) = _
            rw [decide_eq_false (by omega)]; rfl
          rw [← hur] at hl
          refine wi_inc (k := 3) (lv' := [(3, .int (nI (k + 1))), (0, .ref h), (1, .int (nI v)), (2, .int (nI (pw_ur fs v (k + 1))))]) hx hb d_Sb_countWaysOn_24 hl rfl (by decide) rfl (fun ls hl => ?_)
          refine lv_goto hx hb d_Sb_countWaysOn_27 rfl ?_
          exact ih4 (K - (k + 1)) (by omega) (k + 1) ls H locs rfl (by omega) (lv_sub hl [1, 2, 3, 0] rfl) hP hD hS
        · refine wi_inc (k := 2) (lv' := [(2, .int (nI (pw_ur fs v k + 1))), (0, .ref h), (1, .int (nI v)), (3, .int (nI k))]) hx hb d_Sb_countWaysOn_21 hl rfl (by decide) rfl (fun ls hl => ?_)
          have hur : pw_ur fs v (k + 1) = pw_ur fs v k + 1 := by
            show pw_ct _ k + (if decide (pw_dg fs v k = 0) = true then 1 else 0) = _
            rw [decide_eq_true h18]; rfl
          rw [← hur] at hl
          refine wi_inc (k := 3) (lv' := [(3, .int (nI (k + 1))), (2, .int (nI (pw_ur fs v (k + 1)))), (0, .ref h), (1, .int (nI v))]) hx hb d_Sb_countWaysOn_24 hl rfl (by decide) rfl (fun ls hl => ?_)
          refine lv_goto hx hb d_Sb_countWaysOn_27 rfl ?_
          exact ih4 (K - (k + 1)) (by omega) (k + 1) ls H locs rfl (by omega) (lv_sub hl [2, 3, 1, 0] rfl) hP hD hS
  exact loop4 _ (0) ls H locs rfl (Nat.zero_le _) (lv_sub hl [2, 3, 1, 0] rfl) hP hD hS
set_option maxHeartbeats 4000000 in
set_option maxRecDepth 100000 in
theorem c_Sb_canServe (l : Launch) (Hs : Heap) (D : va_G) (cI cZ cL : ClassId) (h : Nat) (i1 : Nat) (i2 : Nat) (i3 : Nat) (i4 : Nat) (i5 : Nat) (i6 : Nat) (i7 : Nat) (K : Nat) (sc : Nat) (aw : Nat) (uc : Nat) (fs : Nat → Nat) (fw : Nat → Nat) (v : Nat) (t : Nat) (hok : sb_ok K fs fw sc aw) (hv : v < sc) (ht9 : t < K) : kI l Hs D kcl (ty3 cI cZ cL) y_Sb_canServe (mws y_Sb_canServe b_Sb_canServe 4 (Option.some Jvm.ClassFile.FieldType.boolean)) ({ frames := 1, cells := 0, slots := 0, locals := 22 } : Room) [.ref h, .int (nI v), .int (nI t)] [(h, .inr (3, [.ref i1, .ref i2, .ref i3, .int (nI K), .int (nI sc), .int (nI aw), .ref i4, .ref i5, .int (nI uc), .ref i6, .ref i7])), (i3, .inl (cI, 4, .inl (wA fw))), (i2, .inl (cI, 4, .inl (wA fs)))] (fun r w => ∃ (r0 : Int32), ((r0 = nI 1 ∧ pw_ok K fs v t) ∨ (r0 = nI 0 ∧ ¬ pw_ok K fs v t)) ∧ r = r0 ∧ w = [(h, .inr (3, [.ref i1, .ref i2, .ref i3, .int (nI K), .int (nI sc), .int (nI aw), .ref i4, .ref i5, .int (nI uc), .ref i6, .ref i7])), (i3, .inl (cI, 4, .inl (wA fw))), (i2, .inl (cI, 4, .inl (wA fs)))]) := by
  intro sz
  refine k_of (cc := b_Sb_canServe) (maxL := 4) (ret := (Option.some Jvm.ClassFile.FieldType.boolean)) (by decide) rfl (Nat.le_of_ble_eq_true rfl) ?_
  intro p e s m args below meth c ls H locs A Q hQ hx hb hml hr hts hown hlk hnm hsz hAe hP hK hD hS hA hE hAH hl
  have ht : ∀ w ∈ mw, w.before args s = true := fun w h => hts w (List.mem_cons_of_mem _ h)
  have hl : lv_has ls 4 [(0, .ref h), (1, .int (nI v)), (2, .int (nI t))] := hl
  refine lv_iconst (v := nI 0) hx hb d_Sb_canServe_0 (by decide) ?_
  refine lv_istore_n (lv' := [(3, .int (nI 0)), (0, .ref h), (1, .int (nI v)), (2, .int (nI t))]) hx hb d_Sb_canServe_1 rfl hl (by decide) rfl (fun ls hl => ?_)
  have loop2 : ∀ (d : Nat) (k : Nat) (ls : Array Slot) (H : Heap) (locs : List Loc), K - k = d → (k ≤ K) → (∀ j, j < k → j ≠ t → pw_dg fs v j ≠ 0) → lv_has ls 4 [(0, .ref h), (1, .int (nI v)), (2, .int (nI t)), (3, .int (nI k))] → va_P D kcl [(h, .inr (3, [.ref i1, .ref i2, .ref i3, .int (nI K), .int (nI sc), .int (nI aw), .ref i4, .ref i5, .int (nI uc), .ref i6, .ref i7])), (i3, .inl (cI, 4, .inl (wA fw))), (i2, .inl (cI, 4, .inl (wA fs)))] H → va_D A [(h, .inr (3, [.ref i1, .ref i2, .ref i3, .int (nI K), .int (nI sc), .int (nI aw), .ref i4, .ref i5, .int (nI uc), .ref i6, .ref i7])), (i3, .inl (cI, 4, .inl (wA fw))), (i2, .inl (cI, 4, .inl (wA fs)))] → va_S A s.heap H locs → W p l e ({ frames := 1, cells := 0, slots := 0, locals := 22 } : Room) s m args below meth c H locs 0 0 Q (F0 m 2 ls []) := by
    intro d
    induction d using Nat.strongRecOn with
    | ind d ih2 =>
      intro k ls H locs hd2 hk hdo hl hP hD hS
      have hK4 := hok.2.1
      refine lv_iload_n hx hb d_Sb_canServe_2 rfl (lv_at hl 3 rfl) ?_
      refine lv_aload_n hx hb d_Sb_canServe_3 rfl (lv_at hl 0 rfl) ?_
      refine va_get (D := D) (ci := 3) (v := .int (nI K)) (C := R_Sb) (T := T_Sb) (N := 11) hx hb ht u_Sb hown hK hP 0 rfl rfl 3 (by decide) (ht _ wd_205) (fun _ h9 => h9) rfl d_Sb_canServe_4 ?_
      refine wi_ge hx hb d_Sb_canServe_7 rfl (by omega) (by omega) (fun h7 => ?_) (fun h7 => ?_)
      · refine lv_iconst (v := nI 1) hx hb d_Sb_canServe_32 (by decide) ?_
        exact k_retz hQ hx hb hr hlk hAe hK hP hD hS (Nat.le_of_ble_eq_true rfl) (Nat.le_of_ble_eq_true rfl) (Nat.le_of_ble_eq_true rfl) rfl ⟨nI 1, Or.inl ⟨rfl, fun j hj => hdo j (by omega)⟩, rfl, rfl⟩ d_Sb_canServe_33
      · refine lv_iload_n hx hb d_Sb_canServe_10 rfl (lv_at hl 3 rfl) ?_
        refine lv_iload_n hx hb d_Sb_canServe_11 rfl (lv_at hl 2 rfl) ?_
        refine wi_eq hx hb d_Sb_canServe_12 rfl (by omega) (by omega) (fun h12 => ?_) (fun h12 => ?_)
        · refine wi_inc (k := 3) (lv' := [(3, .int (nI (k + 1))), (0, .ref h), (1, .int (nI v)), (2, .int (nI t))]) hx hb d_Sb_canServe_26 hl rfl (by decide) rfl (fun ls hl => ?_)
          refine lv_goto hx hb d_Sb_canServe_29 rfl ?_
          exact ih2 (K - (k + 1)) (by omega) (k + 1) ls H locs rfl (by omega) (lt_s hdo (fun z => absurd h12 z)) (lv_sub hl [1, 2, 3, 0] rfl) hP hD hS
        · refine lv_aload_n hx hb d_Sb_canServe_15 rfl (lv_at hl 0 rfl) ?_
          refine lv_iload_n hx hb d_Sb_canServe_16 rfl (lv_at hl 1 rfl) ?_
          refine lv_iload_n hx hb d_Sb_canServe_17 rfl (lv_at hl 3 rfl) ?_
          refine ck_i (wc := [(h, .inr (3, [.ref i1, .ref i2, .ref i3, .int (nI K), .int (nI sc), .int (nI aw), .ref i4, .ref i5, .int (nI uc), .ref i6, .ref i7])), (i3, .inl (cI, 4, .inl (wA fw))), (i2, .inl (cI, 4, .inl (wA fs)))]) (va_runV (As := [.int (nI v), .int (nI k)]) (rest := []) (C := R_Sb) ⟨hx, hb, hml, hown, ht⟩ (c_Sb_digit l Hs D cI cZ cL h i1 i2 i3 i4 i5 i6 i7 K sc aw uc fs fw v k hok (by have := hok.2.2.2.2.2.2; omega) (by omega) H.size) (gw_V 2 ht wd_266 wd_25 wd_263 wd_265 ws_10 (by decide +kernel) ⟨Nat.le_of_ble_eq_true rfl, Nat.le_of_ble_eq_true rfl⟩) (k_preV hE hAH hK hP hD hS [0, 1, 2] rfl rfl 0 rfl rfl) rfl rfl hl.1 rfl (lv_room (Nat.le_of_ble_eq_true rfl)) d_Sb_canServe_18 ⟨Nat.le_of_ble_eq_true rfl, Nat.le_of_ble_eq_true rfl⟩) hP hD hS hA [0, 1, 2] rfl rfl (fun r18 w1 H locs hpost hP hD hS => ?_)
          obtain ⟨rfl, rfl⟩ := hpost
          have hP : va_P D kcl [(h, .inr (3, [.ref i1, .ref i2, .ref i3, .int (nI K), .int (nI sc), .int (nI aw), .ref i4, .ref i5, .int (nI uc), .ref i6, .ref i7])), (i3, .inl (cI, 4, .inl (wA fw))), (i2, .inl (cI, 4, .inl (wA fs)))] H := hP
          have hD : va_D A [(h, .inr (3, [.ref i1, .ref i2, .ref i3, .int (nI K), .int (nI sc), .int (nI aw), .ref i4, .ref i5, .int (nI uc), .ref i6, .ref i7])), (i3, .inl (cI, 4, .inl (wA fw))), (i2, .inl (cI, 4, .inl (wA fs)))] := hD
          refine wi_if_ne hx hb d_Sb_canServe_21 rfl (Nat.lt_of_lt_of_le (pw_dg_lt (hok.2.2.1 k h7).1) (by have := (hok.2.2.1 k h7).2; omega)) (fun h21 => ?_) (fun h21 => ?_)
          · refine wi_inc (k := 3) (lv' := [(3, .int (nI (k + 1))), (0, .ref h), (1, .int (nI v)), (2, .int (nI t))]) hx hb d_Sb_canServe_26 hl rfl (by decide) rfl (fun ls hl => ?_)
            refine lv_goto hx hb d_Sb_canServe_29 rfl ?_
            exact ih2 (K - (k + 1)) (by omega) (k + 1) ls H locs rfl (by omega) (lt_s hdo (fun _ => by omega)) (lv_sub hl [1, 2, 3, 0] rfl) hP hD hS
          · refine lv_iconst (v := nI 0) hx hb d_Sb_canServe_24 (by decide) ?_
            exact k_retz hQ hx hb hr hlk hAe hK hP hD hS (Nat.le_of_ble_eq_true rfl) (Nat.le_of_ble_eq_true rfl) (Nat.le_of_ble_eq_true rfl) rfl ⟨nI 0, Or.inr ⟨rfl, fun z => z k h7 h12 h21⟩, rfl, rfl⟩ d_Sb_canServe_25
  exact loop2 _ (0) ls H locs rfl (Nat.zero_le _) lt_0 (lv_sub hl [1, 2, 3, 0] rfl) hP hD hS
set_option maxHeartbeats 4000000 in
set_option maxRecDepth 100000 in
theorem c_Sb_canComeFrom (l : Launch) (Hs : Heap) (D : va_G) (cI cZ cL : ClassId) (h : Nat) (i1 : Nat) (i2 : Nat) (i3 : Nat) (i4 : Nat) (i5 : Nat) (i6 : Nat) (i7 : Nat) (K : Nat) (sc : Nat) (aw : Nat) (uc : Nat) (fs : Nat → Nat) (fw : Nat → Nat) (v : Nat) (t : Nat) (hok : sb_ok K fs fw sc aw) (hv : v < sc) (ht9 : t < K) : kI l Hs D kcl (ty3 cI cZ cL) y_Sb_canComeFrom (mws y_Sb_canComeFrom b_Sb_canComeFrom 5 (Option.some Jvm.ClassFile.FieldType.boolean)) ({ frames := 1, cells := 0, slots := 0, locals := 22 } : Room) [.ref h, .int (nI v), .int (nI t)] [(h, .inr (3, [.ref i1, .ref i2, .ref i3, .int (nI K), .int (nI sc), .int (nI aw), .ref i4, .ref i5, .int (nI uc), .ref i6, .ref i7])), (i3, .inl (cI, 4, .inl (wA fw))), (i2, .inl (cI, 4, .inl (wA fs)))] (fun r w => ∃ (r0 : Int32), ((r0 = nI 1 ∧ pw_cf K fs v t) ∨ (r0 = nI 0 ∧ ¬ pw_cf K fs v t)) ∧ r = r0 ∧ w = [(h, .inr (3, [.ref i1, .ref i2, .ref i3, .int (nI K), .int (nI sc), .int (nI aw), .ref i4, .ref i5, .int (nI uc), .ref i6, .ref i7])), (i3, .inl (cI, 4, .inl (wA fw))), (i2, .inl (cI, 4, .inl (wA fs)))]) := by
  intro sz
  refine k_of (cc := b_Sb_canComeFrom) (maxL := 5) (ret := (Option.some Jvm.ClassFile.FieldType.boolean)) (by decide) rfl (Nat.le_of_ble_eq_true rfl) ?_
  intro p e s m args below meth c ls H locs A Q hQ hx hb hml hr hts hown hlk hnm hsz hAe hP hK hD hS hA hE hAH hl
  have ht : ∀ w ∈ mw, w.before args s = true := fun w h => hts w (List.mem_cons_of_mem _ h)
  have hl : lv_has ls 5 [(0, .ref h), (1, .int (nI v)), (2, .int (nI t))] := hl
  refine lv_iconst (v := nI 0) hx hb d_Sb_canComeFrom_0 (by decide) ?_
  refine lv_istore_n (lv' := [(3, .int (nI 0)), (0, .ref h), (1, .int (nI v)), (2, .int (nI t))]) hx hb d_Sb_canComeFrom_1 rfl hl (by decide) rfl (fun ls hl => ?_)
  have loop2 : ∀ (d : Nat) (k : Nat) (ls : Array Slot) (H : Heap) (locs : List Loc), K - k = d → (k ≤ K) → (∀ j, j < k → (pw_dg fs v j = fs j - 1 ↔ j = t)) → lv_has ls 5 [(0, .ref h), (1, .int (nI v)), (2, .int (nI t)), (3, .int (nI k))] → va_P D kcl [(h, .inr (3, [.ref i1, .ref i2, .ref i3, .int (nI K), .int (nI sc), .int (nI aw), .ref i4, .ref i5, .int (nI uc), .ref i6, .ref i7])), (i3, .inl (cI, 4, .inl (wA fw))), (i2, .inl (cI, 4, .inl (wA fs)))] H → va_D A [(h, .inr (3, [.ref i1, .ref i2, .ref i3, .int (nI K), .int (nI sc), .int (nI aw), .ref i4, .ref i5, .int (nI uc), .ref i6, .ref i7])), (i3, .inl (cI, 4, .inl (wA fw))), (i2, .inl (cI, 4, .inl (wA fs)))] → va_S A s.heap H locs → W p l e ({ frames := 1, cells := 0, slots := 0, locals := 22 } : Room) s m args below meth c H locs 0 0 Q (F0 m 2 ls []) := by
    intro d
    induction d using Nat.strongRecOn with
    | ind d ih2 =>
      intro k ls H locs hd2 hk hdo hl hP hD hS
      have hK4 := hok.2.1
      refine lv_iload_n hx hb d_Sb_canComeFrom_2 rfl (lv_at hl 3 rfl) ?_
      refine lv_aload_n hx hb d_Sb_canComeFrom_3 rfl (lv_at hl 0 rfl) ?_
      refine va_get (D := D) (ci := 3) (v := .int (nI K)) (C := R_Sb) (T := T_Sb) (N := 11) hx hb ht u_Sb hown hK hP 0 rfl rfl 3 (by decide) (ht _ wd_205) (fun _ h9 => h9) rfl d_Sb_canComeFrom_4 ?_
      refine wi_ge hx hb d_Sb_canComeFrom_7 rfl (by omega) (by omega) (fun h7 => ?_) (fun h7 => ?_)
      · refine lv_iconst (v := nI 1) hx hb d_Sb_canComeFrom_57 (by decide) ?_
        exact k_retz hQ hx hb hr hlk hAe hK hP hD hS (Nat.le_of_ble_eq_true rfl) (Nat.le_of_ble_eq_true rfl) (Nat.le_of_ble_eq_true rfl) rfl ⟨nI 1, Or.inl ⟨rfl, fun j hj => hdo j (by omega)⟩, rfl, rfl⟩ d_Sb_canComeFrom_58
      · have hsk := hok.2.2.1 k h7
        have hdk := pw_dg_lt (sp := fs) (s := v) hsk.1
        refine lv_aload_n hx hb d_Sb_canComeFrom_10 rfl (lv_at hl 0 rfl) ?_
        refine lv_iload_n hx hb d_Sb_canComeFrom_11 rfl (lv_at hl 1 rfl) ?_
        refine lv_iload_n hx hb d_Sb_canComeFrom_12 rfl (lv_at hl 3 rfl) ?_
        refine ck_i (wc := [(h, .inr (3, [.ref i1, .ref i2, .ref i3, .int (nI K), .int (nI sc), .int (nI aw), .ref i4, .ref i5, .int (nI uc), .ref i6, .ref i7])), (i3, .inl (cI, 4, .inl (wA fw))), (i2, .inl (cI, 4, .inl (wA fs)))]) (va_runV (As := [.int (nI v), .int (nI k)]) (rest := []) (C := R_Sb) ⟨hx, hb, hml, hown, ht⟩ (c_Sb_digit l Hs D cI cZ cL h i1 i2 i3 i4 i5 i6 i7 K sc aw uc fs fw v k hok (by have := hok.2.2.2.2.2.2; omega) (by omega) H.size) (gw_V 2 ht wd_266 wd_25 wd_263 wd_265 ws_10 (by decide +kernel) ⟨Nat.le_of_ble_eq_true rfl, Nat.le_of_ble_eq_true rfl⟩) (k_preV hE hAH hK hP hD hS [0, 1, 2] rfl rfl 0 rfl rfl) rfl rfl hl.1 rfl (lv_room (Nat.le_of_ble_eq_true rfl)) d_Sb_canComeFrom_13 ⟨Nat.le_of_ble_eq_true rfl, Nat.le_of_ble_eq_true rfl⟩) hP hD hS hA [0, 1, 2] rfl rfl (fun r13 w1 H locs hpost hP hD hS => ?_)
        obtain ⟨rfl, rfl⟩ := hpost
        have hP : va_P D kcl [(h, .inr (3, [.ref i1, .ref i2, .ref i3, .int (nI K), .int (nI sc), .int (nI aw), .ref i4, .ref i5, .int (nI uc), .ref i6, .ref i7])), (i3, .inl (cI, 4, .inl (wA fw))), (i2, .inl (cI, 4, .inl (wA fs)))] H := hP
        have hD : va_D A [(h, .inr (3, [.ref i1, .ref i2, .ref i3, .int (nI K), .int (nI sc), .int (nI aw), .ref i4, .ref i5, .int (nI uc), .ref i6, .ref i7])), (i3, .inl (cI, 4, .inl (wA fw))), (i2, .inl (cI, 4, .inl (wA fs)))] := hD
        refine lv_aload_n hx hb d_Sb_canComeFrom_16 rfl (lv_at hl 0 rfl) ?_
        refine va_get (D := D) (ci := 3) (v := .ref i2) (C := R_Sb) (T := T_Sb) (N := 11) hx hb ht u_Sb hown hK hP 0 rfl rfl 1 (by decide) (ht _ wd_203) (fun _ h9 => h9) rfl d_Sb_canComeFrom_17 ?_
        refine lv_iload_n hx hb d_Sb_canComeFrom_20 rfl (lv_at hl 3 rfl) ?_
        refine wi_ald hx hb hK hP 2 0 rfl rfl (by omega) (by omega) d_Sb_canComeFrom_21 ?_
        refine lv_iconst (v := nI 1) hx hb d_Sb_canComeFrom_22 (by decide) ?_
        refine wi_sub hx hb d_Sb_canComeFrom_23 (by omega) ?_
        refine wi_ne hx hb d_Sb_canComeFrom_24 rfl (by omega) (by omega) (fun h24 => ?_) (fun h24 => ?_)
        · refine lv_iconst (v := nI 0) hx hb d_Sb_canComeFrom_31 (by decide) ?_
          refine lv_istore (lv' := [(4, .int (nI 0)), (0, .ref h), (1, .int (nI v)), (2, .int (nI t)), (3, .int (nI k))]) hx hb d_Sb_canComeFrom_32 hl (by decide) rfl (fun ls hl => ?_)
          refine lv_iload hx hb d_Sb_canComeFrom_34 (lv_at hl 0 rfl) ?_
          refine lv_iload_n hx hb d_Sb_canComeFrom_36 rfl (lv_at hl 4 rfl) ?_
          refine lv_iload_n hx hb d_Sb_canComeFrom_37 rfl (lv_at hl 3 rfl) ?_
          refine wi_ne hx hb d_Sb_canComeFrom_38 rfl (by omega) (by omega) (fun h38 => ?_) (fun h38 => ?_)
          · refine lv_iconst (v := nI 0) hx hb d_Sb_canComeFrom_45 (by decide) ?_
            refine wi_eq hx hb d_Sb_canComeFrom_46 rfl (by decide) (by decide) (fun _ => ?_) (fun h => absurd h (by decide))
            refine wi_inc (k := 4) (lv' := [(3, .int (nI (k + 1))), (4, .int (nI 0)), (0, .ref h), (1, .int (nI v)), (2, .int (nI t))]) hx hb d_Sb_canComeFrom_51 hl rfl (by decide) rfl (fun ls hl => ?_)
            refine lv_goto hx hb d_Sb_canComeFrom_54 rfl ?_
            exact ih2 (K - (k + 1)) (by omega) (k + 1) ls H locs rfl (by omega) (lt_s hdo ⟨fun z => by omega, fun z => by omega⟩) (lv_sub hl [2, 3, 4, 0] rfl) hP hD hS
          · refine lv_iconst (v := nI 1) hx hb d_Sb_canComeFrom_41 (by decide) ?_
            refine lv_goto hx hb d_Sb_canComeFrom_42 rfl ?_
            refine wi_eq hx hb d_Sb_canComeFrom_46 rfl (by decide) (by decide) (fun h => absurd h (by decide)) (fun _ => ?_)
            refine lv_iconst (v := nI 0) hx hb d_Sb_canComeFrom_49 (by decide) ?_
            exact k_retz hQ hx hb hr hlk hAe hK hP hD hS (Nat.le_of_ble_eq_true rfl) (Nat.le_of_ble_eq_true rfl) (Nat.le_of_ble_eq_true rfl) rfl ⟨nI 0, Or.inr ⟨rfl, fun z => by have := z k h7; omega⟩, rfl, rfl⟩ d_Sb_canComeFrom_50
        · refine lv_iconst (v := nI 1) hx hb d_Sb_canComeFrom_27 (by decide) ?_
          refine lv_goto hx hb d_Sb_canComeFrom_28 rfl ?_
          refine lv_istore (lv' := [(4, .int (nI 1)), (0, .ref h), (1, .int (nI v)), (2, .int (nI t)), (3, .int (nI k))]) hx hb d_Sb_canComeFrom_32 hl (by decide) rfl (fun ls hl => ?_)
          refine lv_iload hx hb d_Sb_canComeFrom_34 (lv_at hl 0 rfl) ?_
          refine lv_iload_n hx hb d_Sb_canComeFrom_36 rfl (lv_at hl 4 rfl) ?_
          refine lv_iload_n hx hb d_Sb_canComeFrom_37 rfl (lv_at hl 3 rfl) ?_
          refine wi_ne hx hb d_Sb_canComeFrom_38 rfl (by omega) (by omega) (fun h38 => ?_) (fun h38 => ?_)
          · refine lv_iconst (v := nI 0) hx hb d_Sb_canComeFrom_45 (by decide) ?_
            refine wi_eq hx hb d_Sb_canComeFrom_46 rfl (by decide) (by decide) (fun h => absurd h (by decide)) (fun _ => ?_)
            refine lv_iconst (v := nI 0) hx hb d_Sb_canComeFrom_49 (by decide) ?_
            exact k_retz hQ hx hb hr hlk hAe hK hP hD hS (Nat.le_of_ble_eq_true rfl) (Nat.le_of_ble_eq_true rfl) (Nat.le_of_ble_eq_true rfl) rfl ⟨nI 0, Or.inr ⟨rfl, fun z => by have := z k h7; omega⟩, rfl, rfl⟩ d_Sb_canComeFrom_50
          · refine lv_iconst (v := nI 1) hx hb d_Sb_canComeFrom_41 (by decide) ?_
            refine lv_goto hx hb d_Sb_canComeFrom_42 rfl ?_
            refine wi_eq hx hb d_Sb_canComeFrom_46 rfl (by decide) (by decide) (fun _ => ?_) (fun h => absurd h (by decide))
            refine wi_inc (k := 4) (lv' := [(3, .int (nI (k + 1))), (4, .int (nI 1)), (0, .ref h), (1, .int (nI v)), (2, .int (nI t))]) hx hb d_Sb_canComeFrom_51 hl rfl (by decide) rfl (fun ls hl => ?_)
            refine lv_goto hx hb d_Sb_canComeFrom_54 rfl ?_
            exact ih2 (K - (k + 1)) (by omega) (k + 1) ls H locs rfl (by omega) (lt_s hdo ⟨fun z => by omega, fun z => by omega⟩) (lv_sub hl [2, 3, 4, 0] rfl) hP hD hS
  exact loop2 _ (0) ls H locs rfl (Nat.zero_le _) lt_0 (lv_sub hl [1, 2, 3, 0] rfl) hP hD hS
set_option maxHeartbeats 4000000 in
set_option maxRecDepth 100000 in
theorem c_Sb_stateAfter (l : Launch) (Hs : Heap) (D : va_G) (cI cZ cL : ClassId) (h : Nat) (i1 : Nat) (i2 : Nat) (i3 : Nat) (i4 : Nat) (i5 : Nat) (i6 : Nat) (i7 : Nat) (K : Nat) (sc : Nat) (aw : Nat) (uc : Nat) (fs : Nat → Nat) (fw : Nat → Nat) (v : Nat) (t : Nat) (hok : sb_ok K fs fw sc aw) (hv : v < sc) (ht9 : t < K) (hgo : pw_ok K fs v t) : kI l Hs D kcl (ty3 cI cZ cL) y_Sb_stateAfter (mws y_Sb_stateAfter b_Sb_stateAfter 4 (Option.some Jvm.ClassFile.FieldType.int)) ({ frames := 1, cells := 0, slots := 0, locals := 22 } : Room) [.ref h, .int (nI v), .int (nI t)] [(h, .inr (3, [.ref i1, .ref i2, .ref i3, .int (nI K), .int (nI sc), .int (nI aw), .ref i4, .ref i5, .int (nI uc), .ref i6, .ref i7])), (i3, .inl (cI, 4, .inl (wA fw))), (i2, .inl (cI, 4, .inl (wA fs)))] (fun r w => r = nI (pw_nx K fs v t) ∧ w = [(h, .inr (3, [.ref i1, .ref i2, .ref i3, .int (nI K), .int (nI sc), .int (nI aw), .ref i4, .ref i5, .int (nI uc), .ref i6, .ref i7])), (i3, .inl (cI, 4, .inl (wA fw))), (i2, .inl (cI, 4, .inl (wA fs)))]) := by
  intro sz
  refine k_of (cc := b_Sb_stateAfter) (maxL := 4) (ret := (Option.some Jvm.ClassFile.FieldType.int)) (by decide) rfl (Nat.le_of_ble_eq_true rfl) ?_
  intro p e s m args below meth c ls H locs A Q hQ hx hb hml hr hts hown hlk hnm hsz hAe hP hK hD hS hA hE hAH hl
  have ht : ∀ w ∈ mw, w.before args s = true := fun w h => hts w (List.mem_cons_of_mem _ h)
  have hl : lv_has ls 4 [(0, .ref h), (1, .int (nI v)), (2, .int (nI t))] := hl
  have hK4 := hok.2.1
  have hst := hok.2.2.1 t ht9
  have hdt := pw_dg_lt (sp := fs) (s := v) hst.1
  refine lv_aload_n hx hb d_Sb_stateAfter_0 rfl (lv_at hl 0 rfl) ?_
  refine va_get (D := D) (ci := 3) (v := .ref i2) (C := R_Sb) (T := T_Sb) (N := 11) hx hb ht u_Sb hown hK hP 0 rfl rfl 1 (by decide) (ht _ wd_203) (fun _ h9 => h9) rfl d_Sb_stateAfter_1 ?_
  refine lv_iload_n hx hb d_Sb_stateAfter_4 rfl (lv_at hl 2 rfl) ?_
  refine wi_ald hx hb hK hP 2 0 rfl rfl (by omega) (by omega) d_Sb_stateAfter_5 ?_
  refine lv_aload_n hx hb d_Sb_stateAfter_6 rfl (lv_at hl 0 rfl) ?_
  refine lv_iload_n hx hb d_Sb_stateAfter_7 rfl (lv_at hl 1 rfl) ?_
  refine lv_iload_n hx hb d_Sb_stateAfter_8 rfl (lv_at hl 2 rfl) ?_
  refine ck_i (wc := [(h, .inr (3, [.ref i1, .ref i2, .ref i3, .int (nI K), .int (nI sc), .int (nI aw), .ref i4, .ref i5, .int (nI uc), .ref i6, .ref i7])), (i3, .inl (cI, 4, .inl (wA fw))), (i2, .inl (cI, 4, .inl (wA fs)))]) (va_runV (As := [.int (nI v), .int (nI t)]) (rest := [.int (nI (fs t))]) (C := R_Sb) ⟨hx, hb, hml, hown, ht⟩ (c_Sb_digit l Hs D cI cZ cL h i1 i2 i3 i4 i5 i6 i7 K sc aw uc fs fw v t hok (by have := hok.2.2.2.2.2.2; omega) (by omega) H.size) (gw_V 2 ht wd_266 wd_25 wd_263 wd_265 ws_10 (by decide +kernel) ⟨Nat.le_of_ble_eq_true rfl, Nat.le_of_ble_eq_true rfl⟩) (k_preV hE hAH hK hP hD hS [0, 1, 2] rfl rfl 0 rfl rfl) rfl rfl hl.1 rfl (lv_room (Nat.le_of_ble_eq_true rfl)) d_Sb_stateAfter_9 ⟨Nat.le_of_ble_eq_true rfl, Nat.le_of_ble_eq_true rfl⟩) hP hD hS hA [0, 1, 2] rfl rfl (fun r9 w1 H locs hpost hP hD hS => ?_)
  obtain ⟨rfl, rfl⟩ := hpost
  have hP : va_P D kcl [(h, .inr (3, [.ref i1, .ref i2, .ref i3, .int (nI K), .int (nI sc), .int (nI aw), .ref i4, .ref i5, .int (nI uc), .ref i6, .ref i7])), (i3, .inl (cI, 4, .inl (wA fw))), (i2, .inl (cI, 4, .inl (wA fs)))] H := hP
  have hD : va_D A [(h, .inr (3, [.ref i1, .ref i2, .ref i3, .int (nI K), .int (nI sc), .int (nI aw), .ref i4, .ref i5, .int (nI uc), .ref i6, .ref i7])), (i3, .inl (cI, 4, .inl (wA fw))), (i2, .inl (cI, 4, .inl (wA fs)))] := hD
  refine wi_sub hx hb d_Sb_stateAfter_12 (by omega) ?_
  refine lv_istore_n (lv' := [(3, .int (nI ((fs t) - (pw_dg fs v t)))), (0, .ref h), (1, .int (nI v)), (2, .int (nI t))]) hx hb d_Sb_stateAfter_13 rfl hl (by decide) rfl (fun ls hl => ?_)
  refine lv_iload_n hx hb d_Sb_stateAfter_14 rfl (lv_at hl 2 rfl) ?_
  refine lv_aload_n hx hb d_Sb_stateAfter_15 rfl (lv_at hl 1 rfl) ?_
  refine va_get (D := D) (ci := 3) (v := .int (nI aw)) (C := R_Sb) (T := T_Sb) (N := 11) hx hb ht u_Sb hown hK hP 0 rfl rfl 5 (by decide) (ht _ wd_207) (fun _ h9 => h9) rfl d_Sb_stateAfter_16 ?_
  refine lv_isub hx hb d_Sb_stateAfter_19 ?_
  refine lv_aload_n hx hb d_Sb_stateAfter_20 rfl (lv_at hl 1 rfl) ?_
  refine va_get (D := D) (ci := 3) (v := .ref i3) (C := R_Sb) (T := T_Sb) (N := 11) hx hb ht u_Sb hown hK hP 0 rfl rfl 2 (by decide) (ht _ wd_204) (fun _ h9 => h9) rfl d_Sb_stateAfter_21 ?_
  refine lv_iload_n hx hb d_Sb_stateAfter_24 rfl (lv_at hl 3 rfl) ?_
  refine wi_ald hx hb hK hP 1 0 rfl rfl (by omega) (by omega) d_Sb_stateAfter_25 ?_
  refine lv_iload_n hx hb d_Sb_stateAfter_26 rfl (lv_at hl 0 rfl) ?_
  refine wi_mul hx hb d_Sb_stateAfter_27 ?_
  refine lv_iadd hx hb d_Sb_stateAfter_28 ?_
  exact k_reti hQ hx hb hr hlk hAe hK hP hD hS (Nat.le_of_ble_eq_true rfl) (Nat.le_of_ble_eq_true rfl) (Nat.le_of_ble_eq_true rfl) ⟨sb_after hok hv ht9 hgo, rfl⟩ d_Sb_stateAfter_29
