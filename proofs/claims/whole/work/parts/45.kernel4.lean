/-! PinwheelKernel: feasible, density. -/
theorem pw_eu_gcd : ∀ (f a b : Nat), pw_ed f a b → pw_eu f a b = Nat.gcd a b := by
  intro f
  induction f with
  | zero =>
    intro a b h
    have h : b = 0 := h
    subst h
    rw [Nat.gcd_zero_right]
    rfl
  | succ f ih =>
    intro a b h
    show (if b = 0 then a else pw_eu f b (a % b)) = _
    by_cases hb : b = 0
    · subst hb; rw [if_pos rfl, Nat.gcd_zero_right]
    · rw [if_neg hb, ih b (a % b) (h.resolve_left hb), Nat.gcd_comm b, ← Nat.gcd_rec b a, Nat.gcd_comm]
theorem pw_de_pos {sp : Nat → Nat} {n : Nat} (hn : n ≤ 10) (h : ∀ k, k < n → 0 < sp k ∧ sp k ≤ 40) : ∀ k, k ≤ n → 0 < (pw_de sp k).2 := by
  intro k
  induction k with
  | zero => intro _; exact Nat.one_pos
  | succ k ih =>
    intro hk
    have h1 := ih (by omega)
    obtain ⟨h3, h4⟩ := h k (by omega)
    have h5 := (pw_de_le h k (by omega)).2
    have h6 : 40 ^ k ≤ 40 ^ 9 := Nat.pow_le_pow_right (by decide) (by omega)
    have h7 : (pw_de sp k).2 * sp k ≤ 40 ^ 9 * 40 := Nat.mul_le_mul (Nat.le_trans h5 h6) h4
    have h8 : 0 < (pw_de sp k).2 * sp k := Nat.mul_pos h1 h3
    show 0 < ((pw_de sp k).2 * sp k) / pw_eu 92 ((pw_de sp k).1 * sp k + (pw_de sp k).2) ((pw_de sp k).2 * sp k)
    rw [pw_eu_gcd 92 _ _ (pw_ed_fast 23 _ _ (Nat.lt_of_le_of_lt h7 (by decide)))]
    exact Nat.div_pos (Nat.gcd_le_right _ h8) (Nat.gcd_pos_of_pos_right _ h8)
/-- the numbers of a step of the sum are small -/
theorem pw_de_st {sp : Nat → Nat} {n k : Nat} (hn : n ≤ 10) (h : ∀ k, k < n → 0 < sp k ∧ sp k ≤ 40) (hk : k < n) : (pw_de sp k).1 * sp k + (pw_de sp k).2 < 2 ^ 63 ∧ (pw_de sp k).2 * sp k < 5 ^ 23 ∧ 0 < (pw_de sp k).1 * sp k + (pw_de sp k).2 ∧ 0 < (pw_de sp k).2 * sp k ∧ pw_eu 92 ((pw_de sp k).1 * sp k + (pw_de sp k).2) ((pw_de sp k).2 * sp k) < 2 ^ 63 := by
  obtain ⟨h1, h2⟩ := pw_de_le h k (by omega)
  have h0 := pw_de_pos hn h k (by omega)
  obtain ⟨h3, h4⟩ := h k hk
  have h6 : 40 ^ k ≤ 40 ^ 9 := Nat.pow_le_pow_right (by decide) (by omega)
  have h7 : (pw_de sp k).2 * sp k ≤ 40 ^ 9 * 40 := Nat.mul_le_mul (Nat.le_trans h2 h6) h4
  have h8 : (pw_de sp k).1 * sp k ≤ (pw_de sp k).1 * 40 := Nat.mul_le_mul_left _ h4
  have h9 : k * 40 ^ k ≤ 9 * 40 ^ 9 := Nat.mul_le_mul (by omega) h6
  have h10 : 0 < (pw_de sp k).2 * sp k := Nat.mul_pos h0 h3
  have h11 : (pw_de sp k).2 * sp k < 5 ^ 23 := Nat.lt_of_le_of_lt h7 (by decide)
  refine ⟨by omega, h11, by omega, h10, ?_⟩
  rw [pw_eu_gcd 92 _ _ (pw_ed_fast 23 _ _ h11)]
  exact Nat.lt_of_le_of_lt (Nat.gcd_le_right _ h10) (by omega)
theorem pw_ed_s {f a b : Nat} (h : pw_ed f a b) (hb : b ≠ 0) : ∃ g, f = g + 1 ∧ pw_ed g b (a % b) ∧ pw_eu f a b = pw_eu g b (a % b) := by
  cases f with
  | zero => exact absurd h hb
  | succ g => exact ⟨g, rfl, h.resolve_left hb, by show (if b = 0 then a else pw_eu g b (a % b)) = _; rw [if_neg hb]⟩
theorem pw_eu_0 (f a : Nat) : pw_eu f a 0 = a := by
  cases f with
  | zero => rfl
  | succ f => show (if 0 = 0 then a else _) = a; rw [if_pos rfl]
set_option maxHeartbeats 4000000 in
set_option maxRecDepth 100000 in
theorem c_Pk_commonDivisor (l : Launch) (Hs : Heap) (D : va_G) (cI cZ cL : ClassId) (a : Nat) (b : Nat) (ha : a < 2 ^ 63) (hb9 : b < 5 ^ 23) (h0 : 0 < a) : kL l Hs D kcl (ty3 cI cZ cL) y_Pk_commonDivisor (mws y_Pk_commonDivisor b_Pk_commonDivisor 11 (Option.some Jvm.ClassFile.FieldType.long)) ({ frames := 0, cells := 0, slots := 0, locals := 0 } : Room) [.long (lN a), .long (lN b)] [] (fun r w => r = lN (pw_eu 92 a b) ∧ w = []) := by
  intro sz
  refine k_of (cc := b_Pk_commonDivisor) (maxL := 11) (ret := (Option.some Jvm.ClassFile.FieldType.long)) (by decide) rfl (Nat.le_of_ble_eq_true rfl) ?_
  intro p e s m args below meth c ls H locs A Q hQ hx hb hml hr hts hown hlk hnm hsz hAe hP hK hD hS hA hE hAH hl
  have ht : ∀ w ∈ mw, w.before args s = true := fun w h => hts w (List.mem_cons_of_mem _ h)
  have hl : lv_has ls 11 [(0, .long (lN a)), (2, .long (lN b))] := hl
  refine lv_lload_n hx hb d_Pk_commonDivisor_0 rfl (lv_at hl 0 rfl) ?_
  refine lv_lstore (lv' := [(4, .long (lN a)), (0, .long (lN a)), (2, .long (lN b))]) hx hb d_Pk_commonDivisor_1 hl (by decide) rfl (fun ls hl => ?_)
  refine lv_lload_n hx hb d_Pk_commonDivisor_3 rfl (lv_at hl 2 rfl) ?_
  refine lv_lstore (lv' := [(6, .long (lN b)), (4, .long (lN a)), (0, .long (lN a)), (2, .long (lN b))]) hx hb d_Pk_commonDivisor_4 hl (by decide) rfl (fun ls hl => ?_)
  refine lv_iconst (v := nI 0) hx hb d_Pk_commonDivisor_6 (by decide) ?_
  refine lv_istore (lv' := [(8, .int (nI 0)), (6, .long (lN b)), (4, .long (lN a)), (0, .long (lN a)), (2, .long (lN b))]) hx hb d_Pk_commonDivisor_7 hl (by decide) rfl (fun ls hl => ?_)
  have loop9 : ∀ (d : Nat) (k : Nat) (x : Nat) (y : Nat) (f : Nat) (ls : Array Slot) (H : Heap) (locs : List Loc), f = d → (k + f = 92) → (pw_ed f x y) → (pw_eu f x y = pw_eu 92 a b) → (0 < x) → (x < 2 ^ 63) → (y < 2 ^ 63) → lv_has ls 11 [(4, .long (lN x)), (6, .long (lN y)), (8, .int (nI k))] → va_P D kcl [] H → va_D A [] → va_S A s.heap H locs → W p l e ({ frames := 0, cells := 0, slots := 0, locals := 0 } : Room) s m args below meth c H locs 0 0 Q (F0 m 9 ls []) := by
    intro d
    induction d using Nat.strongRecOn with
    | ind d ih9 =>
      intro k x y f ls H locs hd9 hkf hed heu hx0 hx9 hy9 hl hP hD hS
      refine lv_iload hx hb d_Pk_commonDivisor_9 (lv_at hl 2 rfl) ?_
      refine lv_bipush (v := nI 100) hx hb d_Pk_commonDivisor_11 (by decide) ?_
      refine wi_ge hx hb d_Pk_commonDivisor_13 rfl (by omega) (by omega) (fun h13 => ?_) (fun h13 => ?_)
      · exfalso; omega
      · refine lv_lload hx hb d_Pk_commonDivisor_16 (lv_at hl 1 rfl) ?_
        refine lv_lconst (v := lN 0) hx hb d_Pk_commonDivisor_18 (by decide) ?_
        refine W.lcmp hx hb d_Pk_commonDivisor_19 ?_
        refine lv_if_eq hx hb d_Pk_commonDivisor_20 rfl (fun h20 => ?_) (fun h20 => ?_)
        · have hy0 : y = 0 := (pk_lEQ hy9 (by decide)).mp (lg_eq0.mp h20)
          subst hy0
          have hres : x = pw_eu 92 a b := by rw [← heu, pw_eu_0]
          refine lv_lload hx hb d_Pk_commonDivisor_44 (lv_at hl 0 rfl) ?_
          refine lv_lconst (v := lN 0) hx hb d_Pk_commonDivisor_46 (by decide) ?_
          refine W.lcmp hx hb d_Pk_commonDivisor_47 ?_
          refine lv_if_le hx hb d_Pk_commonDivisor_48 rfl (fun h48 => ?_) (fun h48 => ?_)
          · exact absurd ((lg_le0 hx9 (by decide)).mp h48) (by omega)
          · refine lv_lload hx hb d_Pk_commonDivisor_51 (lv_at hl 0 rfl) ?_
            refine lv_goto hx hb d_Pk_commonDivisor_53 rfl ?_
            exact k_retl hQ hx hb hr hlk hAe hK hP hD hS (Nat.le_of_ble_eq_true rfl) (Nat.le_of_ble_eq_true rfl) (Nat.le_of_ble_eq_true rfl) ⟨by rw [hres], rfl⟩ d_Pk_commonDivisor_57
        · have hy0 : y ≠ 0 := fun z => h20 (by rw [z]; exact lg_eq0.mpr rfl)
          obtain ⟨g, rfl, hg2, hg3⟩ := pw_ed_s hed hy0
          refine lv_lload hx hb d_Pk_commonDivisor_23 (lv_at hl 0 rfl) ?_
          refine lv_lload hx hb d_Pk_commonDivisor_25 (lv_at hl 1 rfl) ?_
          refine wl_rem hx hb d_Pk_commonDivisor_27 (by omega) (by omega) (by omega) ?_
          refine lv_lstore (lv' := [(9, .long (lN (x % y))), (4, .long (lN x)), (6, .long (lN y)), (8, .int (nI k))]) hx hb d_Pk_commonDivisor_28 hl (by decide) rfl (fun ls hl => ?_)
          refine lv_lload hx hb d_Pk_commonDivisor_30 (lv_at hl 2 rfl) ?_
          refine lv_lstore (lv' := [(4, .long (lN y)), (9, .long (lN (x % y))), (6, .long (lN y)), (8, .int (nI k))]) hx hb d_Pk_commonDivisor_32 hl (by decide) rfl (fun ls hl => ?_)
          refine lv_lload hx hb d_Pk_commonDivisor_34 (lv_at hl 1 rfl) ?_
          refine lv_lstore (lv' := [(6, .long (lN (x % y))), (4, .long (lN y)), (9, .long (lN (x % y))), (8, .int (nI k))]) hx hb d_Pk_commonDivisor_36 hl (by decide) rfl (fun ls hl => ?_)
          refine wi_inc (k := 3) (lv' := [(8, .int (nI (k + 1))), (6, .long (lN (x % y))), (4, .long (lN y)), (9, .long (lN (x % y)))]) hx hb d_Pk_commonDivisor_38 hl rfl (by decide) rfl (fun ls hl => ?_)
          refine lv_goto hx hb d_Pk_commonDivisor_41 rfl ?_
          exact ih9 ((g)) (by omega) (k + 1) (y) (x % y) (g) ls H locs rfl (by omega) hg2 (hg3.symm.trans heu) (by omega) hy9 (by have := Nat.mod_lt x (by omega : 0 < y); omega) (lv_sub hl [2, 1, 0] rfl) hP hD hS
  exact loop9 _ (0) (a) (b) (92) ls H locs rfl rfl (pw_ed_fast 23 a b hb9) rfl h0 ha (by omega) (lv_sub hl [2, 1, 0] rfl) hP hD hS
set_option maxHeartbeats 4000000 in
set_option maxRecDepth 100000 in
theorem c_Pk_density0 (l : Launch) (Hs : Heap) (D : va_G) (cI cZ cL : ClassId) (h : Nat) (rb : Nat) (pr : Nat) (pl : Nat) (fo : Nat) (sa : Nat) (sw : Nat) (ax : Nat) (wi : Nat) (va : Nat) (sl : Nat) (vs : Value) (p1 : Nat) (p2 : Nat) (p3 : Nat) (p4 : Nat) (n : Nat) (f2 : Nat → Nat) (hn : n ≤ 10) (hf2 : ∀ t, t < n → 0 < f2 t ∧ f2 t ≤ 40) : kL l Hs D kcl (ty3 cI cZ cL) y_Pk_density (mws y_Pk_density b_Pk_density 9 (Option.some Jvm.ClassFile.FieldType.long)) ({ frames := 1, cells := 0, slots := 0, locals := 30 } : Room) [.ref h, .int (nI 0)] [(h, .inr (4, [.ref rb, vs, .ref pr, .ref pl, .ref fo, .ref sa, .int (nI sw), .int (nI ax), .int (nI wi), .int (nI va), .int (nI sl)])), (pr, .inr (0, [.ref p1, .ref p2, .ref p3, .ref p4, .int (nI n)])), (p2, .inl (cI, 10, .inl (wA f2)))] (fun r w => r = lN ((pw_de f2 n).1) ∧ w = [(h, .inr (4, [.ref rb, vs, .ref pr, .ref pl, .ref fo, .ref sa, .int (nI sw), .int (nI ax), .int (nI wi), .int (nI va), .int (nI sl)])), (pr, .inr (0, [.ref p1, .ref p2, .ref p3, .ref p4, .int (nI n)])), (p2, .inl (cI, 10, .inl (wA f2)))]) := by
  intro sz
  refine k_of (cc := b_Pk_density) (maxL := 9) (ret := (Option.some Jvm.ClassFile.FieldType.long)) (by decide) rfl (Nat.le_of_ble_eq_true rfl) ?_
  intro p e s m args below meth c ls H locs A Q hQ hx hb hml hr hts hown hlk hnm hsz hAe hP hK hD hS hA hE hAH hl
  have ht : ∀ w ∈ mw, w.before args s = true := fun w h => hts w (List.mem_cons_of_mem _ h)
  have hl : lv_has ls 9 [(0, .ref h), (1, .int (nI 0))] := hl
  refine lv_iload_n hx hb d_Pk_density_0 rfl (lv_at hl 1 rfl) ?_
  refine wi_if_eq hx hb d_Pk_density_1 rfl (by decide) (fun _ => ?_) (fun h => absurd h (by decide))
  refine lv_lconst (v := lN 0) hx hb d_Pk_density_17 (by decide) ?_
  refine lv_lstore_n (lv' := [(2, .long (lN 0)), (0, .ref h), (1, .int (nI 0))]) hx hb d_Pk_density_18 rfl hl (by decide) rfl (fun ls hl => ?_)
  refine lv_lconst (v := lN 1) hx hb d_Pk_density_19 (by decide) ?_
  refine lv_lstore (lv' := [(4, .long (lN 1)), (2, .long (lN 0)), (0, .ref h), (1, .int (nI 0))]) hx hb d_Pk_density_20 hl (by decide) rfl (fun ls hl => ?_)
  refine lv_iconst (v := nI 0) hx hb d_Pk_density_22 (by decide) ?_
  refine lv_istore (lv' := [(6, .int (nI 0)), (4, .long (lN 1)), (2, .long (lN 0)), (0, .ref h), (1, .int (nI 0))]) hx hb d_Pk_density_23 hl (by decide) rfl (fun ls hl => ?_)
  have loop25 : ∀ (d : Nat) (k : Nat) (ls : Array Slot) (H : Heap) (locs : List Loc), n - k = d → (k ≤ n) → lv_has ls 9 [(0, .ref h), (1, .int (nI 0)), (2, .long (lN ((pw_de f2 k).1))), (4, .long (lN ((pw_de f2 k).2))), (6, .int (nI k))] → va_P D kcl [(h, .inr (4, [.ref rb, vs, .ref pr, .ref pl, .ref fo, .ref sa, .int (nI sw), .int (nI ax), .int (nI wi), .int (nI va), .int (nI sl)])), (pr, .inr (0, [.ref p1, .ref p2, .ref p3, .ref p4, .int (nI n)])), (p2, .inl (cI, 10, .inl (wA f2)))] H → va_D A [(h, .inr (4, [.ref rb, vs, .ref pr, .ref pl, .ref fo, .ref sa, .int (nI sw), .int (nI ax), .int (nI wi), .int (nI va), .int (nI sl)])), (pr, .inr (0, [.ref p1, .ref p2, .ref p3, .ref p4, .int (nI n)])), (p2, .inl (cI, 10, .inl (wA f2)))] → va_S A s.heap H locs → W p l e ({ frames := 1, cells := 0, slots := 0, locals := 30 } : Room) s m args below meth c H locs 0 0 Q (F0 m 25 ls []) := by
    intro d
    induction d using Nat.strongRecOn with
    | ind d ih25 =>
      intro k ls H locs hd25 hk hl hP hD hS
      refine lv_iload hx hb d_Pk_density_25 (lv_at hl 4 rfl) ?_
      refine lv_aload_n hx hb d_Pk_density_27 rfl (lv_at hl 0 rfl) ?_
      refine va_get (D := D) (ci := 4) (v := .ref pr) (C := R_Pk) (T := T_Pk) (N := 11) hx hb ht u_Pk hown hK hP 0 rfl rfl 2 (by decide) (ht _ wd_86) (fun _ h9 => h9) rfl d_Pk_density_28 ?_
      refine ck_i (wc := [(pr, .inr (0, [.ref p1, .ref p2, .ref p3, .ref p4, .int (nI n)]))]) (va_runV (As := []) (rest := [.int (nI k)]) (C := R_Cl) ⟨hx, hb, hml, hown, ht⟩ (c_Cl_count l Hs D cI cZ cL pr p1 p2 p3 p4 n  H.size) (gw_V 0 ht wd_149 wd_3 wd_191 wd_147 wd_148 (by decide +kernel) ⟨Nat.le_of_ble_eq_true rfl, Nat.le_of_ble_eq_true rfl⟩) (k_preV hE hAH hK hP hD hS [1] rfl rfl 1 rfl rfl) rfl rfl hl.1 rfl (lv_room (Nat.le_of_ble_eq_true rfl)) d_Pk_density_31 ⟨Nat.le_of_ble_eq_true rfl, Nat.le_of_ble_eq_true rfl⟩) hP hD hS hA [1] rfl rfl (fun r31 w1 H locs hpost hP hD hS => ?_)
      obtain ⟨rfl, rfl⟩ := hpost
      have hP : va_P D kcl [(h, .inr (4, [.ref rb, vs, .ref pr, .ref pl, .ref fo, .ref sa, .int (nI sw), .int (nI ax), .int (nI wi), .int (nI va), .int (nI sl)])), (pr, .inr (0, [.ref p1, .ref p2, .ref p3, .ref p4, .int (nI n)])), (p2, .inl (cI, 10, .inl (wA f2)))] H := hP
      have hD : va_D A [(h, .inr (4, [.ref rb, vs, .ref pr, .ref pl, .ref fo, .ref sa, .int (nI sw), .int (nI ax), .int (nI wi), .int (nI va), .int (nI sl)])), (pr, .inr (0, [.ref p1, .ref p2, .ref p3, .ref p4, .int (nI n)])), (p2, .inl (cI, 10, .inl (wA f2)))] := hD
      refine wi_ge hx hb d_Pk_density_34 rfl (by omega) (by omega) (fun h34 => ?_) (fun h34 => ?_)
      · have hkn : k = n := by omega
        subst hkn
        refine lv_iload_n hx hb d_Pk_density_94 rfl (lv_at hl 1 rfl) ?_
        refine wi_if_ne hx hb d_Pk_density_95 rfl (by decide) (fun h => absurd h (by decide)) (fun _ => ?_)
        refine lv_lload_n hx hb d_Pk_density_98 rfl (lv_at hl 2 rfl) ?_
        refine lv_goto hx hb d_Pk_density_99 rfl ?_
        exact k_retl hQ hx hb hr hlk hAe hK hP hD hS (Nat.le_of_ble_eq_true rfl) (Nat.le_of_ble_eq_true rfl) (Nat.le_of_ble_eq_true rfl) ⟨rfl, rfl⟩ d_Pk_density_104
      · have hst := pw_de_st hn hf2 h34
        have hfk := (hf2 k h34).2
        refine lv_lload_n hx hb d_Pk_density_37 rfl (lv_at hl 2 rfl) ?_
        refine lv_aload_n hx hb d_Pk_density_38 rfl (lv_at hl 0 rfl) ?_
        refine va_get (D := D) (ci := 4) (v := .ref pr) (C := R_Pk) (T := T_Pk) (N := 11) hx hb ht u_Pk hown hK hP 0 rfl rfl 2 (by decide) (ht _ wd_86) (fun _ h9 => h9) rfl d_Pk_density_39 ?_
        refine lv_iload hx hb d_Pk_density_42 (lv_at hl 4 rfl) ?_
        refine ck_i (wc := [(pr, .inr (0, [.ref p1, .ref p2, .ref p3, .ref p4, .int (nI n)])), (p2, .inl (cI, 10, .inl (wA f2)))]) (va_runV (As := [.int (nI k)]) (rest := [.long (lN ((pw_de f2 k).1))]) (C := R_Cl) ⟨hx, hb, hml, hown, ht⟩ (c_Cl_spanAt l Hs D cI cZ cL pr p1 p2 p3 p4 n f2 k (by omega) H.size) (gw_V 1 ht wd_153 wd_3 wd_832 wd_151 wd_152 (by decide +kernel) ⟨Nat.le_of_ble_eq_true rfl, Nat.le_of_ble_eq_true rfl⟩) (k_preV hE hAH hK hP hD hS [1, 2] rfl rfl 1 rfl rfl) rfl rfl hl.1 rfl (lv_room (Nat.le_of_ble_eq_true rfl)) d_Pk_density_44 ⟨Nat.le_of_ble_eq_true rfl, Nat.le_of_ble_eq_true rfl⟩) hP hD hS hA [1, 2] rfl rfl (fun r44 w1 H locs hpost hP hD hS => ?_)
        obtain ⟨rfl, rfl⟩ := hpost
        have hP : va_P D kcl [(h, .inr (4, [.ref rb, vs, .ref pr, .ref pl, .ref fo, .ref sa, .int (nI sw), .int (nI ax), .int (nI wi), .int (nI va), .int (nI sl)])), (pr, .inr (0, [.ref p1, .ref p2, .ref p3, .ref p4, .int (nI n)])), (p2, .inl (cI, 10, .inl (wA f2)))] H := hP
        have hD : va_D A [(h, .inr (4, [.ref rb, vs, .ref pr, .ref pl, .ref fo, .ref sa, .int (nI sw), .int (nI ax), .int (nI wi), .int (nI va), .int (nI sl)])), (pr, .inr (0, [.ref p1, .ref p2, .ref p3, .ref p4, .int (nI n)])), (p2, .inl (cI, 10, .inl (wA f2)))] := hD
        refine lv_i2l (v := lN (f2 k)) hx hb d_Pk_density_47 (nI_l (by omega)) ?_
        refine wl_mul hx hb d_Pk_density_48  ?_
        refine lv_lload hx hb d_Pk_density_49 (lv_at hl 3 rfl) ?_
        refine wl_add hx hb d_Pk_density_51  ?_
        refine lv_lstore_n (lv' := [(2, .long (lN ((((pw_de f2 k).1) * (f2 k)) + ((pw_de f2 k).2)))), (0, .ref h), (1, .int (nI 0)), (4, .long (lN ((pw_de f2 k).2))), (6, .int (nI k))]) hx hb d_Pk_density_52 rfl hl (by decide) rfl (fun ls hl => ?_)
        refine lv_lload hx hb d_Pk_density_53 (lv_at hl 3 rfl) ?_
        refine lv_aload_n hx hb d_Pk_density_55 rfl (lv_at hl 1 rfl) ?_
        refine va_get (D := D) (ci := 4) (v := .ref pr) (C := R_Pk) (T := T_Pk) (N := 11) hx hb ht u_Pk hown hK hP 0 rfl rfl 2 (by decide) (ht _ wd_86) (fun _ h9 => h9) rfl d_Pk_density_56 ?_
        refine lv_iload hx hb d_Pk_density_59 (lv_at hl 4 rfl) ?_
        refine ck_i (wc := [(pr, .inr (0, [.ref p1, .ref p2, .ref p3, .ref p4, .int (nI n)])), (p2, .inl (cI, 10, .inl (wA f2)))]) (va_runV (As := [.int (nI k)]) (rest := [.long (lN ((pw_de f2 k).2))]) (C := R_Cl) ⟨hx, hb, hml, hown, ht⟩ (c_Cl_spanAt l Hs D cI cZ cL pr p1 p2 p3 p4 n f2 k (by omega) H.size) (gw_V 1 ht wd_153 wd_3 wd_832 wd_151 wd_152 (by decide +kernel) ⟨Nat.le_of_ble_eq_true rfl, Nat.le_of_ble_eq_true rfl⟩) (k_preV hE hAH hK hP hD hS [1, 2] rfl rfl 1 rfl rfl) rfl rfl hl.1 rfl (lv_room (Nat.le_of_ble_eq_true rfl)) d_Pk_density_61 ⟨Nat.le_of_ble_eq_true rfl, Nat.le_of_ble_eq_true rfl⟩) hP hD hS hA [1, 2] rfl rfl (fun r61 w1 H locs hpost hP hD hS => ?_)
        obtain ⟨rfl, rfl⟩ := hpost
        have hP : va_P D kcl [(h, .inr (4, [.ref rb, vs, .ref pr, .ref pl, .ref fo, .ref sa, .int (nI sw), .int (nI ax), .int (nI wi), .int (nI va), .int (nI sl)])), (pr, .inr (0, [.ref p1, .ref p2, .ref p3, .ref p4, .int (nI n)])), (p2, .inl (cI, 10, .inl (wA f2)))] H := hP
        have hD : va_D A [(h, .inr (4, [.ref rb, vs, .ref pr, .ref pl, .ref fo, .ref sa, .int (nI sw), .int (nI ax), .int (nI wi), .int (nI va), .int (nI sl)])), (pr, .inr (0, [.ref p1, .ref p2, .ref p3, .ref p4, .int (nI n)])), (p2, .inl (cI, 10, .inl (wA f2)))] := hD
        refine lv_i2l (v := lN (f2 k)) hx hb d_Pk_density_64 (nI_l (by omega)) ?_
        refine wl_mul hx hb d_Pk_density_65  ?_
        refine lv_lstore (lv' := [(4, .long (lN (((pw_de f2 k).2) * (f2 k)))), (2, .long (lN ((((pw_de f2 k).1) * (f2 k)) + ((pw_de f2 k).2)))), (0, .ref h), (1, .int (nI 0)), (6, .int (nI k))]) hx hb d_Pk_density_66 hl (by decide) rfl (fun ls hl => ?_)
        refine lv_lload_n hx hb d_Pk_density_68 rfl (lv_at hl 1 rfl) ?_
        refine lv_lload hx hb d_Pk_density_69 (lv_at hl 0 rfl) ?_
        refine ck_l (wc := []) (va_runS (As := [.long (lN ((pw_de f2 k).1 * f2 k + (pw_de f2 k).2)), .long (lN ((pw_de f2 k).2 * f2 k))]) (rest := []) ⟨hx, hb, hml, hown, ht⟩ (c_Pk_commonDivisor l Hs D cI cZ cL ((pw_de f2 k).1 * f2 k + (pw_de f2 k).2) ((pw_de f2 k).2 * f2 k) hst.1 hst.2.1 hst.2.2.1 H.size) (gw_S 2 ht wd_888 wd_1 wd_886 wd_887 (by decide +kernel) ⟨Nat.le_of_ble_eq_true rfl, Nat.le_of_ble_eq_true rfl⟩) (k_preS hE hAH hK hP hD hS [] rfl rfl) rfl rfl hl.1 rfl (lv_room (Nat.le_of_ble_eq_true rfl)) d_Pk_density_71 ⟨Nat.le_of_ble_eq_true rfl, Nat.le_of_ble_eq_true rfl⟩) hP hD hS hA [] rfl rfl (fun r71 w1 H locs hpost hP hD hS => ?_)
        obtain ⟨rfl, rfl⟩ := hpost
        have hP : va_P D kcl [(h, .inr (4, [.ref rb, vs, .ref pr, .ref pl, .ref fo, .ref sa, .int (nI sw), .int (nI ax), .int (nI wi), .int (nI va), .int (nI sl)])), (pr, .inr (0, [.ref p1, .ref p2, .ref p3, .ref p4, .int (nI n)])), (p2, .inl (cI, 10, .inl (wA f2)))] H := hP
        have hD : va_D A [(h, .inr (4, [.ref rb, vs, .ref pr, .ref pl, .ref fo, .ref sa, .int (nI sw), .int (nI ax), .int (nI wi), .int (nI va), .int (nI sl)])), (pr, .inr (0, [.ref p1, .ref p2, .ref p3, .ref p4, .int (nI n)])), (p2, .inl (cI, 10, .inl (wA f2)))] := hD
        have hgp := pw_eu_pos 92 ((pw_de f2 k).1 * f2 k + (pw_de f2 k).2) ((pw_de f2 k).2 * f2 k) hst.2.2.1
        refine lv_lstore (lv' := [(7, .long (lN (pw_eu 92 ((pw_de f2 k).1 * f2 k + (pw_de f2 k).2) ((pw_de f2 k).2 * f2 k)))), (4, .long (lN (((pw_de f2 k).2) * (f2 k)))), (2, .long (lN ((((pw_de f2 k).1) * (f2 k)) + ((pw_de f2 k).2)))), (0, .ref h), (1, .int (nI 0)), (6, .int (nI k))]) hx hb d_Pk_density_74 hl (by decide) rfl (fun ls hl => ?_)
        refine lv_lload_n hx hb d_Pk_density_76 rfl (lv_at hl 2 rfl) ?_
        refine lv_lload hx hb d_Pk_density_77 (lv_at hl 0 rfl) ?_
        refine wl_div hx hb d_Pk_density_79 hst.1 hgp hst.2.2.2.2 ?_
        refine lv_lstore_n (lv' := [(2, .long (lN (((((pw_de f2 k).1) * (f2 k)) + ((pw_de f2 k).2)) / (pw_eu 92 ((pw_de f2 k).1 * f2 k + (pw_de f2 k).2) ((pw_de f2 k).2 * f2 k))))), (7, .long (lN (pw_eu 92 ((pw_de f2 k).1 * f2 k + (pw_de f2 k).2) ((pw_de f2 k).2 * f2 k)))), (4, .long (lN (((pw_de f2 k).2) * (f2 k)))), (0, .ref h), (1, .int (nI 0)), (6, .int (nI k))]) hx hb d_Pk_density_80 rfl hl (by decide) rfl (fun ls hl => ?_)
        refine lv_lload hx hb d_Pk_density_81 (lv_at hl 2 rfl) ?_
        refine lv_lload hx hb d_Pk_density_83 (lv_at hl 1 rfl) ?_
        refine wl_div hx hb d_Pk_density_85 (Nat.lt_trans hst.2.1 (by decide)) hgp hst.2.2.2.2 ?_
        refine lv_lstore (lv' := [(4, .long (lN ((((pw_de f2 k).2) * (f2 k)) / (pw_eu 92 ((pw_de f2 k).1 * f2 k + (pw_de f2 k).2) ((pw_de f2 k).2 * f2 k))))), (2, .long (lN (((((pw_de f2 k).1) * (f2 k)) + ((pw_de f2 k).2)) / (pw_eu 92 ((pw_de f2 k).1 * f2 k + (pw_de f2 k).2) ((pw_de f2 k).2 * f2 k))))), (7, .long (lN (pw_eu 92 ((pw_de f2 k).1 * f2 k + (pw_de f2 k).2) ((pw_de f2 k).2 * f2 k)))), (0, .ref h), (1, .int (nI 0)), (6, .int (nI k))]) hx hb d_Pk_density_86 hl (by decide) rfl (fun ls hl => ?_)
        refine wi_inc (k := 5) (lv' := [(6, .int (nI (k + 1))), (4, .long (lN ((((pw_de f2 k).2) * (f2 k)) / (pw_eu 92 ((pw_de f2 k).1 * f2 k + (pw_de f2 k).2) ((pw_de f2 k).2 * f2 k))))), (2, .long (lN (((((pw_de f2 k).1) * (f2 k)) + ((pw_de f2 k).2)) / (pw_eu 92 ((pw_de f2 k).1 * f2 k + (pw_de f2 k).2) ((pw_de f2 k).2 * f2 k))))), (7, .long (lN (pw_eu 92 ((pw_de f2 k).1 * f2 k + (pw_de f2 k).2) ((pw_de f2 k).2 * f2 k)))), (0, .ref h), (1, .int (nI 0))]) hx hb d_Pk_density_88 hl rfl (by decide) rfl (fun ls hl => ?_)
        refine lv_goto hx hb d_Pk_density_91 rfl ?_
        exact ih25 (n - (k + 1)) (by omega) (k + 1) ls H locs rfl (by omega) (lv_sub hl [4, 5, 2, 1, 0] rfl) hP hD hS
  exact loop25 _ (0) ls H locs rfl (Nat.zero_le _) (lv_sub hl [3, 4, 2, 1, 0] rfl) hP hD hS
set_option maxHeartbeats 4000000 in
set_option maxRecDepth 100000 in
theorem c_Pk_density1 (l : Launch) (Hs : Heap) (D : va_G) (cI cZ cL : ClassId) (h : Nat) (rb : Nat) (pr : Nat) (pl : Nat) (fo : Nat) (sa : Nat) (sw : Nat) (ax : Nat) (wi : Nat) (va : Nat) (sl : Nat) (vs : Value) (p1 : Nat) (p2 : Nat) (p3 : Nat) (p4 : Nat) (n : Nat) (f2 : Nat → Nat) (hn : n ≤ 10) (hf2 : ∀ t, t < n → 0 < f2 t ∧ f2 t ≤ 40) : kL l Hs D kcl (ty3 cI cZ cL) y_Pk_density (mws y_Pk_density b_Pk_density 9 (Option.some Jvm.ClassFile.FieldType.long)) ({ frames := 1, cells := 0, slots := 0, locals := 30 } : Room) [.ref h, .int (nI 1)] [(h, .inr (4, [.ref rb, vs, .ref pr, .ref pl, .ref fo, .ref sa, .int (nI sw), .int (nI ax), .int (nI wi), .int (nI va), .int (nI sl)])), (pr, .inr (0, [.ref p1, .ref p2, .ref p3, .ref p4, .int (nI n)])), (p2, .inl (cI, 10, .inl (wA f2)))] (fun r w => r = lN ((pw_de f2 n).2) ∧ w = [(h, .inr (4, [.ref rb, vs, .ref pr, .ref pl, .ref fo, .ref sa, .int (nI sw), .int (nI ax), .int (nI wi), .int (nI va), .int (nI sl)])), (pr, .inr (0, [.ref p1, .ref p2, .ref p3, .ref p4, .int (nI n)])), (p2, .inl (cI, 10, .inl (wA f2)))]) := by
  intro sz
  refine k_of (cc := b_Pk_density) (maxL := 9) (ret := (Option.some Jvm.ClassFile.FieldType.long)) (by decide) rfl (Nat.le_of_ble_eq_true rfl) ?_
  intro p e s m args below meth c ls H locs A Q hQ hx hb hml hr hts hown hlk hnm hsz hAe hP hK hD hS hA hE hAH hl
  have ht : ∀ w ∈ mw, w.before args s = true := fun w h => hts w (List.mem_cons_of_mem _ h)
  have hl : lv_has ls 9 [(0, .ref h), (1, .int (nI 1))] := hl
  refine lv_iload_n hx hb d_Pk_density_0 rfl (lv_at hl 1 rfl) ?_
  refine wi_if_eq hx hb d_Pk_density_1 rfl (by decide) (fun h => absurd h (by decide)) (fun _ => ?_)
  refine lv_iload_n hx hb d_Pk_density_4 rfl (lv_at hl 1 rfl) ?_
  refine lv_iconst (v := nI 1) hx hb d_Pk_density_5 (by decide) ?_
  refine wi_eq hx hb d_Pk_density_6 rfl (by decide) (by decide) (fun _ => ?_) (fun h => absurd h (by decide))
  refine lv_lconst (v := lN 0) hx hb d_Pk_density_17 (by decide) ?_
  refine lv_lstore_n (lv' := [(2, .long (lN 0)), (0, .ref h), (1, .int (nI 1))]) hx hb d_Pk_density_18 rfl hl (by decide) rfl (fun ls hl => ?_)
  refine lv_lconst (v := lN 1) hx hb d_Pk_density_19 (by decide) ?_
  refine lv_lstore (lv' := [(4, .long (lN 1)), (2, .long (lN 0)), (0, .ref h), (1, .int (nI 1))]) hx hb d_Pk_density_20 hl (by decide) rfl (fun ls hl => ?_)
  refine lv_iconst (v := nI 0) hx hb d_Pk_density_22 (by decide) ?_
  refine lv_istore (lv' := [(6, .int (nI 0)), (4, .long (lN 1)), (2, .long (lN 0)), (0, .ref h), (1, .int (nI 1))]) hx hb d_Pk_density_23 hl (by decide) rfl (fun ls hl => ?_)
  have loop25 : ∀ (d : Nat) (k : Nat) (ls : Array Slot) (H : Heap) (locs : List Loc), n - k = d → (k ≤ n) → lv_has ls 9 [(0, .ref h), (1, .int (nI 1)), (2, .long (lN ((pw_de f2 k).1))), (4, .long (lN ((pw_de f2 k).2))), (6, .int (nI k))] → va_P D kcl [(h, .inr (4, [.ref rb, vs, .ref pr, .ref pl, .ref fo, .ref sa, .int (nI sw), .int (nI ax), .int (nI wi), .int (nI va), .int (nI sl)])), (pr, .inr (0, [.ref p1, .ref p2, .ref p3, .ref p4, .int (nI n)])), (p2, .inl (cI, 10, .inl (wA f2)))] H → va_D A [(h, .inr (4, [.ref rb, vs, .ref pr, .ref pl, .ref fo, .ref sa, .int (nI sw), .int (nI ax), .int (nI wi), .int (nI va), .int (nI sl)])), (pr, .inr (0, [.ref p1, .ref p2, .ref p3, .ref p4, .int (nI n)])), (p2, .inl (cI, 10, .inl (wA f2)))] → va_S A s.heap H locs → W p l e ({ frames := 1, cells := 0, slots := 0, locals := 30 } : Room) s m args below meth c H locs 0 0 Q (F0 m 25 ls []) := by
    intro d
    induction d using Nat.strongRecOn with
    | ind d ih25 =>
      intro k ls H locs hd25 hk hl hP hD hS
      refine lv_iload hx hb d_Pk_density_25 (lv_at hl 4 rfl) ?_
      refine lv_aload_n hx hb d_Pk_density_27 rfl (lv_at hl 0 rfl) ?_
      refine va_get (D := D) (ci := 4) (v := .ref pr) (C := R_Pk) (T := T_Pk) (N := 11) hx hb ht u_Pk hown hK hP 0 rfl rfl 2 (by decide) (ht _ wd_86) (fun _ h9 => h9) rfl d_Pk_density_28 ?_
      refine ck_i (wc := [(pr, .inr (0, [.ref p1, .ref p2, .ref p3, .ref p4, .int (nI n)]))]) (va_runV (As := []) (rest := [.int (nI k)]) (C := R_Cl) ⟨hx, hb, hml, hown, ht⟩ (c_Cl_count l Hs D cI cZ cL pr p1 p2 p3 p4 n  H.size) (gw_V 0 ht wd_149 wd_3 wd_191 wd_147 wd_148 (by decide +kernel) ⟨Nat.le_of_ble_eq_true rfl, Nat.le_of_ble_eq_true rfl⟩) (k_preV hE hAH hK hP hD hS [1] rfl rfl 1 rfl rfl) rfl rfl hl.1 rfl (lv_room (Nat.le_of_ble_eq_true rfl)) d_Pk_density_31 ⟨Nat.le_of_ble_eq_true rfl, Nat.le_of_ble_eq_true rfl⟩) hP hD hS hA [1] rfl rfl (fun r31 w1 H locs hpost hP hD hS => ?_)
      obtain ⟨rfl, rfl⟩ := hpost
      have hP : va_P D kcl [(h, .inr (4, [.ref rb, vs, .ref pr, .ref pl, .ref fo, .ref sa, .int (nI sw), .int (nI ax), .int (nI wi), .int (nI va), .int (nI sl)])), (pr, .inr (0, [.ref p1, .ref p2, .ref p3, .ref p4, .int (nI n)])), (p2, .inl (cI, 10, .inl (wA f2)))] H := hP
      have hD : va_D A [(h, .inr (4, [.ref rb, vs, .ref pr, .ref pl, .ref fo, .ref sa, .int (nI sw), .int (nI ax), .int (nI wi), .int (nI va), .int (nI sl)])), (pr, .inr (0, [.ref p1, .ref p2, .ref p3, .ref p4, .int (nI n)])), (p2, .inl (cI, 10, .inl (wA f2)))] := hD
      refine wi_ge hx hb d_Pk_density_34 rfl (by omega) (by omega) (fun h34 => ?_) (fun h34 => ?_)
      · have hkn : k = n := by omega
        subst hkn
        refine lv_iload_n hx hb d_Pk_density_94 rfl (lv_at hl 1 rfl) ?_
        refine wi_if_ne hx hb d_Pk_density_95 rfl (by decide) (fun _ => ?_) (fun h => absurd h (by decide))
        refine lv_lload hx hb d_Pk_density_102 (lv_at hl 3 rfl) ?_
        exact k_retl hQ hx hb hr hlk hAe hK hP hD hS (Nat.le_of_ble_eq_true rfl) (Nat.le_of_ble_eq_true rfl) (Nat.le_of_ble_eq_true rfl) ⟨rfl, rfl⟩ d_Pk_density_104
      · have hst := pw_de_st hn hf2 h34
        have hfk := (hf2 k h34).2
        refine lv_lload_n hx hb d_Pk_density_37 rfl (lv_at hl 2 rfl) ?_
        refine lv_aload_n hx hb d_Pk_density_38 rfl (lv_at hl 0 rfl) ?_
        refine va_get (D := D) (ci := 4) (v := .ref pr) (C := R_Pk) (T := T_Pk) (N := 11) hx hb ht u_Pk hown hK hP 0 rfl rfl 2 (by decide) (ht _ wd_86) (fun _ h9 => h9) rfl d_Pk_density_39 ?_
        refine lv_iload hx hb d_Pk_density_42 (lv_at hl 4 rfl) ?_
        refine ck_i (wc := [(pr, .inr (0, [.ref p1, .ref p2, .ref p3, .ref p4, .int (nI n)])), (p2, .inl (cI, 10, .inl (wA f2)))]) (va_runV (As := [.int (nI k)]) (rest := [.long (lN ((pw_de f2 k).1))]) (C := R_Cl) ⟨hx, hb, hml, hown, ht⟩ (c_Cl_spanAt l Hs D cI cZ cL pr p1 p2 p3 p4 n f2 k (by omega) H.size) (gw_V 1 ht wd_153 wd_3 wd_832 wd_151 wd_152 (by decide +kernel) ⟨Nat.le_of_ble_eq_true rfl, Nat.le_of_ble_eq_true rfl⟩) (k_preV hE hAH hK hP hD hS [1, 2] rfl rfl 1 rfl rfl) rfl rfl hl.1 rfl (lv_room (Nat.le_of_ble_eq_true rfl)) d_Pk_density_44 ⟨Nat.le_of_ble_eq_true rfl, Nat.le_of_ble_eq_true rfl⟩) hP hD hS hA [1, 2] rfl rfl (fun r44 w1 H locs hpost hP hD hS => ?_)
        obtain ⟨rfl, rfl⟩ := hpost
        have hP : va_P D kcl [(h, .inr (4, [.ref rb, vs, .ref pr, .ref pl, .ref fo, .ref sa, .int (nI sw), .int (nI ax), .int (nI wi), .int (nI va), .int (nI sl)])), (pr, .inr (0, [.ref p1, .ref p2, .ref p3, .ref p4, .int (nI n)])), (p2, .inl (cI, 10, .inl (wA f2)))] H := hP
        have hD : va_D A [(h, .inr (4, [.ref rb, vs, .ref pr, .ref pl, .ref fo, .ref sa, .int (nI sw), .int (nI ax), .int (nI wi), .int (nI va), .int (nI sl)])), (pr, .inr (0, [.ref p1, .ref p2, .ref p3, .ref p4, .int (nI n)])), (p2, .inl (cI, 10, .inl (wA f2)))] := hD
        refine lv_i2l (v := lN (f2 k)) hx hb d_Pk_density_47 (nI_l (by omega)) ?_
        refine wl_mul hx hb d_Pk_density_48  ?_
        refine lv_lload hx hb d_Pk_density_49 (lv_at hl 3 rfl) ?_
        refine wl_add hx hb d_Pk_density_51  ?_
        refine lv_lstore_n (lv' := [(2, .long (lN ((((pw_de f2 k).1) * (f2 k)) + ((pw_de f2 k).2)))), (0, .ref h), (1, .int (nI 1)), (4, .long (lN ((pw_de f2 k).2))), (6, .int (nI k))]) hx hb d_Pk_density_52 rfl hl (by decide) rfl (fun ls hl => ?_)
        refine lv_lload hx hb d_Pk_density_53 (lv_at hl 3 rfl) ?_
        refine lv_aload_n hx hb d_Pk_density_55 rfl (lv_at hl 1 rfl) ?_
        refine va_get (D := D) (ci := 4) (v := .ref pr) (C := R_Pk) (T := T_Pk) (N := 11) hx hb ht u_Pk hown hK hP 0 rfl rfl 2 (by decide) (ht _ wd_86) (fun _ h9 => h9) rfl d_Pk_density_56 ?_
        refine lv_iload hx hb d_Pk_density_59 (lv_at hl 4 rfl) ?_
        refine ck_i (wc := [(pr, .inr (0, [.ref p1, .ref p2, .ref p3, .ref p4, .int (nI n)])), (p2, .inl (cI, 10, .inl (wA f2)))]) (va_runV (As := [.int (nI k)]) (rest := [.long (lN ((pw_de f2 k).2))]) (C := R_Cl) ⟨hx, hb, hml, hown, ht⟩ (c_Cl_spanAt l Hs D cI cZ cL pr p1 p2 p3 p4 n f2 k (by omega) H.size) (gw_V 1 ht wd_153 wd_3 wd_832 wd_151 wd_152 (by decide +kernel) ⟨Nat.le_of_ble_eq_true rfl, Nat.le_of_ble_eq_true rfl⟩) (k_preV hE hAH hK hP hD hS [1, 2] rfl rfl 1 rfl rfl) rfl rfl hl.1 rfl (lv_room (Nat.le_of_ble_eq_true rfl)) d_Pk_density_61 ⟨Nat.le_of_ble_eq_true rfl, Nat.le_of_ble_eq_true rfl⟩) hP hD hS hA [1, 2] rfl rfl (fun r61 w1 H locs hpost hP hD hS => ?_)
        obtain ⟨rfl, rfl⟩ := hpost
        have hP : va_P D kcl [(h, .inr (4, [.ref rb, vs, .ref pr, .ref pl, .ref fo, .ref sa, .int (nI sw), .int (nI ax), .int (nI wi), .int (nI va), .int (nI sl)])), (pr, .inr (0, [.ref p1, .ref p2, .ref p3, .ref p4, .int (nI n)])), (p2, .inl (cI, 10, .inl (wA f2)))] H := hP
        have hD : va_D A [(h, .inr (4, [.ref rb, vs, .ref pr, .ref pl, .ref fo, .ref sa, .int (nI sw), .int (nI ax), .int (nI wi), .int (nI va), .int (nI sl)])), (pr, .inr (0, [.ref p1, .ref p2, .ref p3, .ref p4, .int (nI n)])), (p2, .inl (cI, 10, .inl (wA f2)))] := hD
        refine lv_i2l (v := lN (f2 k)) hx hb d_Pk_density_64 (nI_l (by omega)) ?_
        refine wl_mul hx hb d_Pk_density_65  ?_
        refine lv_lstore (lv' := [(4, .long (lN (((pw_de f2 k).2) * (f2 k)))), (2, .long (lN ((((pw_de f2 k).1) * (f2 k)) + ((pw_de f2 k).2)))), (0, .ref h), (1, .int (nI 1)), (6, .int (nI k))]) hx hb d_Pk_density_66 hl (by decide) rfl (fun ls hl => ?_)
        refine lv_lload_n hx hb d_Pk_density_68 rfl (lv_at hl 1 rfl) ?_
        refine lv_lload hx hb d_Pk_density_69 (lv_at hl 0 rfl) ?_
        refine ck_l (wc := []) (va_runS (As := [.long (lN ((pw_de f2 k).1 * f2 k + (pw_de f2 k).2)), .long (lN ((pw_de f2 k).2 * f2 k))]) (rest := []) ⟨hx, hb, hml, hown, ht⟩ (c_Pk_commonDivisor l Hs D cI cZ cL ((pw_de f2 k).1 * f2 k + (pw_de f2 k).2) ((pw_de f2 k).2 * f2 k) hst.1 hst.2.1 hst.2.2.1 H.size) (gw_S 2 ht wd_888 wd_1 wd_886 wd_887 (by decide +kernel) ⟨Nat.le_of_ble_eq_true rfl, Nat.le_of_ble_eq_true rfl⟩) (k_preS hE hAH hK hP hD hS [] rfl rfl) rfl rfl hl.1 rfl (lv_room (Nat.le_of_ble_eq_true rfl)) d_Pk_density_71 ⟨Nat.le_of_ble_eq_true rfl, Nat.le_of_ble_eq_true rfl⟩) hP hD hS hA [] rfl rfl (fun r71 w1 H locs hpost hP hD hS => ?_)
        obtain ⟨rfl, rfl⟩ := hpost
        have hP : va_P D kcl [(h, .inr (4, [.ref rb, vs, .ref pr, .ref pl, .ref fo, .ref sa, .int (nI sw), .int (nI ax), .int (nI wi), .int (nI va), .int (nI sl)])), (pr, .inr (0, [.ref p1, .ref p2, .ref p3, .ref p4, .int (nI n)])), (p2, .inl (cI, 10, .inl (wA f2)))] H := hP
        have hD : va_D A [(h, .inr (4, [.ref rb, vs, .ref pr, .ref pl, .ref fo, .ref sa, .int (nI sw), .int (nI ax), .int (nI wi), .int (nI va), .int (nI sl)])), (pr, .inr (0, [.ref p1, .ref p2, .ref p3, .ref p4, .int (nI n)])), (p2, .inl (cI, 10, .inl (wA f2)))] := hD
        have hgp := pw_eu_pos 92 ((pw_de f2 k).1 * f2 k + (pw_de f2 k).2) ((pw_de f2 k).2 * f2 k) hst.2.2.1
        refine lv_lstore (lv' := [(7, .long (lN (pw_eu 92 ((pw_de f2 k).1 * f2 k + (pw_de f2 k).2) ((pw_de f2 k).2 * f2 k)))), (4, .long (lN (((pw_de f2 k).2) * (f2 k)))), (2, .long (lN ((((pw_de f2 k).1) * (f2 k)) + ((pw_de f2 k).2)))), (0, .ref h), (1, .int (nI 1)), (6, .int (nI k))]) hx hb d_Pk_density_74 hl (by decide) rfl (fun ls hl => ?_)
        refine lv_lload_n hx hb d_Pk_density_76 rfl (lv_at hl 2 rfl) ?_
        refine lv_lload hx hb d_Pk_density_77 (lv_at hl 0 rfl) ?_
        refine wl_div hx hb d_Pk_density_79 hst.1 hgp hst.2.2.2.2 ?_
        refine lv_lstore_n (lv' := [(2, .long (lN (((((pw_de f2 k).1) * (f2 k)) + ((pw_de f2 k).2)) / (pw_eu 92 ((pw_de f2 k).1 * f2 k + (pw_de f2 k).2) ((pw_de f2 k).2 * f2 k))))), (7, .long (lN (pw_eu 92 ((pw_de f2 k).1 * f2 k + (pw_de f2 k).2) ((pw_de f2 k).2 * f2 k)))), (4, .long (lN (((pw_de f2 k).2) * (f2 k)))), (0, .ref h), (1, .int (nI 1)), (6, .int (nI k))]) hx hb d_Pk_density_80 rfl hl (by decide) rfl (fun ls hl => ?_)
        refine lv_lload hx hb d_Pk_density_81 (lv_at hl 2 rfl) ?_
        refine lv_lload hx hb d_Pk_density_83 (lv_at hl 1 rfl) ?_
        refine wl_div hx hb d_Pk_density_85 (Nat.lt_trans hst.2.1 (by decide)) hgp hst.2.2.2.2 ?_
        refine lv_lstore (lv' := [(4, .long (lN ((((pw_de f2 k).2) * (f2 k)) / (pw_eu 92 ((pw_de f2 k).1 * f2 k + (pw_de f2 k).2) ((pw_de f2 k).2 * f2 k))))), (2, .long (lN (((((pw_de f2 k).1) * (f2 k)) + ((pw_de f2 k).2)) / (pw_eu 92 ((pw_de f2 k).1 * f2 k + (pw_de f2 k).2) ((pw_de f2 k).2 * f2 k))))), (7, .long (lN (pw_eu 92 ((pw_de f2 k).1 * f2 k + (pw_de f2 k).2) ((pw_de f2 k).2 * f2 k)))), (0, .ref h), (1, .int (nI 1)), (6, .int (nI k))]) hx hb d_Pk_density_86 hl (by decide) rfl (fun ls hl => ?_)
        refine wi_inc (k := 5) (lv' := [(6, .int (nI (k + 1))), (4, .long (lN ((((pw_de f2 k).2) * (f2 k)) / (pw_eu 92 ((pw_de f2 k).1 * f2 k + (pw_de f2 k).2) ((pw_de f2 k).2 * f2 k))))), (2, .long (lN (((((pw_de f2 k).1) * (f2 k)) + ((pw_de f2 k).2)) / (pw_eu 92 ((pw_de f2 k).1 * f2 k + (pw_de f2 k).2) ((pw_de f2 k).2 * f2 k))))), (7, .long (lN (pw_eu 92 ((pw_de f2 k).1 * f2 k + (pw_de f2 k).2) ((pw_de f2 k).2 * f2 k)))), (0, .ref h), (1, .int (nI 1))]) hx hb d_Pk_density_88 hl rfl (by decide) rfl (fun ls hl => ?_)
        refine lv_goto hx hb d_Pk_density_91 rfl ?_
        exact ih25 (n - (k + 1)) (by omega) (k + 1) ls H locs rfl (by omega) (lv_sub hl [4, 5, 2, 1, 0] rfl) hP hD hS
  exact loop25 _ (0) ls H locs rfl (Nat.zero_le _) (lv_sub hl [3, 4, 2, 1, 0] rfl) hP hD hS
set_option maxHeartbeats 4000000 in
set_option maxRecDepth 100000 in
theorem c_Pk_feasible0 (l : Launch) (Hs : Heap) (D : va_G) (cI cZ cL : ClassId) (h : Nat) (rb : Nat) (pr : Nat) (pl : Nat) (fo : Nat) (sa : Nat) (sw : Nat) (ax : Nat) (wi : Nat) (va : Nat) (sl : Nat) (vs : Value) (p1 : Nat) (p2 : Nat) (p3 : Nat) (p4 : Nat) : kI l Hs D kcl (ty3 cI cZ cL) y_Pk_feasible (mws y_Pk_feasible b_Pk_feasible 2 (Option.some Jvm.ClassFile.FieldType.int)) ({ frames := 1, cells := 0, slots := 0, locals := 20 } : Room) [.ref h] [(h, .inr (4, [.ref rb, vs, .ref pr, .ref pl, .ref fo, .ref sa, .int (nI sw), .int (nI ax), .int (nI wi), .int (nI va), .int (nI sl)])), (pr, .inr (0, [.ref p1, .ref p2, .ref p3, .ref p4, .int (nI 0)]))] (fun r w => r = nI 1 ∧ w = [(h, .inr (4, [.ref rb, vs, .ref pr, .ref pl, .ref fo, .ref sa, .int (nI sw), .int (nI ax), .int (nI wi), .int (nI va), .int (nI sl)])), (pr, .inr (0, [.ref p1, .ref p2, .ref p3, .ref p4, .int (nI 0)]))]) := by
  intro sz
  refine k_of (cc := b_Pk_feasible) (maxL := 2) (ret := (Option.some Jvm.ClassFile.FieldType.int)) (by decide) rfl (Nat.le_of_ble_eq_true rfl) ?_
  intro p e s m args below meth c ls H locs A Q hQ hx hb hml hr hts hown hlk hnm hsz hAe hP hK hD hS hA hE hAH hl
  have ht : ∀ w ∈ mw, w.before args s = true := fun w h => hts w (List.mem_cons_of_mem _ h)
  have hl : lv_has ls 2 [(0, .ref h)] := hl
  refine lv_aload_n hx hb d_Pk_feasible_0 rfl (lv_at hl 0 rfl) ?_
  refine va_get (D := D) (ci := 4) (v := .ref pr) (C := R_Pk) (T := T_Pk) (N := 11) hx hb ht u_Pk hown hK hP 0 rfl rfl 2 (by decide) (ht _ wd_86) (fun _ h9 => h9) rfl d_Pk_feasible_1 ?_
  refine ck_i (wc := [(pr, .inr (0, [.ref p1, .ref p2, .ref p3, .ref p4, .int (nI 0)]))]) (va_runV (As := []) (rest := []) (C := R_Cl) ⟨hx, hb, hml, hown, ht⟩ (c_Cl_count l Hs D cI cZ cL pr p1 p2 p3 p4 0  H.size) (gw_V 0 ht wd_149 wd_3 wd_191 wd_147 wd_148 (by decide +kernel) ⟨Nat.le_of_ble_eq_true rfl, Nat.le_of_ble_eq_true rfl⟩) (k_preV hE hAH hK hP hD hS [1] rfl rfl 1 rfl rfl) rfl rfl hl.1 rfl (lv_room (Nat.le_of_ble_eq_true rfl)) d_Pk_feasible_4 ⟨Nat.le_of_ble_eq_true rfl, Nat.le_of_ble_eq_true rfl⟩) hP hD hS hA [1] rfl rfl (fun r4 w1 H locs hpost hP hD hS => ?_)
  obtain ⟨rfl, rfl⟩ := hpost
  have hP : va_P D kcl [(h, .inr (4, [.ref rb, vs, .ref pr, .ref pl, .ref fo, .ref sa, .int (nI sw), .int (nI ax), .int (nI wi), .int (nI va), .int (nI sl)])), (pr, .inr (0, [.ref p1, .ref p2, .ref p3, .ref p4, .int (nI 0)]))] H := hP
  have hD : va_D A [(h, .inr (4, [.ref rb, vs, .ref pr, .ref pl, .ref fo, .ref sa, .int (nI sw), .int (nI ax), .int (nI wi), .int (nI va), .int (nI sl)])), (pr, .inr (0, [.ref p1, .ref p2, .ref p3, .ref p4, .int (nI 0)]))] := hD
  refine wi_if_ne hx hb d_Pk_feasible_7 rfl (by decide) (fun h => absurd h (by decide)) (fun _ => ?_)
  refine lv_iconst (v := nI 1) hx hb d_Pk_feasible_10 (by decide) ?_
  exact k_reti hQ hx hb hr hlk hAe hK hP hD hS (Nat.le_of_ble_eq_true rfl) (Nat.le_of_ble_eq_true rfl) (Nat.le_of_ble_eq_true rfl) ⟨rfl, rfl⟩ d_Pk_feasible_11
set_option maxHeartbeats 4000000 in
set_option maxRecDepth 100000 in
theorem c_Pk_feasibleN1 (l : Launch) (Hs : Heap) (D : va_G) (cI cZ cL : ClassId) (h : Nat) (rb : Nat) (pr : Nat) (pl : Nat) (fo : Nat) (sa : Nat) (sw : Nat) (ax : Nat) (wi : Nat) (va : Nat) (sl : Nat) (p1 : Nat) (p2 : Nat) (p3 : Nat) (p4 : Nat) (n : Nat) (f1 : Nat → Nat) (f2 : Nat → Nat) (hn : n ≤ 10) (hn1 : 1 ≤ n) (hf2 : ∀ t, t < n → 0 < f2 t ∧ f2 t ≤ 40) (htk : pw_tk f2 n) : kI l Hs D kcl (ty3 cI cZ cL) y_Pk_feasible (mws y_Pk_feasible b_Pk_feasible 2 (Option.some Jvm.ClassFile.FieldType.int)) ({ frames := 4, cells := 8, slots := 6023, locals := 91 } : Room) [.ref h] [(h, .inr (4, [.ref rb, .null, .ref pr, .ref pl, .ref fo, .ref sa, .int (nI sw), .int (nI ax), .int (nI wi), .int (nI va), .int (nI sl)])), (pr, .inr (0, [.ref p1, .ref p2, .ref p3, .ref p4, .int (nI n)])), (p1, .inl (cI, 10, .inl (wA f1))), (p2, .inl (cI, 10, .inl (wA f2)))] (fun r w => ∃ (sb : Nat), ∃ (i1 : Nat), ∃ (i2 : Nat), ∃ (i3 : Nat), ∃ (i4 : Nat), ∃ (i5 : Nat), ∃ (i6 : Nat), ∃ (i7 : Nat), ∃ (aw3 : Nat), ∃ (uc3 : Nat), ∃ (gi : Nat → Nat), ∃ (gs : Nat → Nat), ∃ (gw : Nat → Nat), ∃ (gy : Nat → Nat), ∃ (gu : Nat → Nat), ∃ (r0 : Int32), ((r0 = nI 1 ∧ pw_sf f2 n) ∨ (r0 = nI 0 ∧ ¬ pw_sf f2 n)) ∧ r = r0 ∧ w = [(h, .inr (4, [.ref rb, .ref sb, .ref pr, .ref pl, .ref fo, .ref sa, .int (nI sw), .int (nI ax), .int (nI wi), .int (nI va), .int (nI sl)])), (pr, .inr (0, [.ref p1, .ref p2, .ref p3, .ref p4, .int (nI n)])), (p1, .inl (cI, 10, .inl (wA f1))), (p2, .inl (cI, 10, .inl (wA f2))), (sb, .inr (3, [.ref i1, .ref i2, .ref i3, .int (nI n), .int (nI (pw_w f2 n)), .int (nI aw3), .ref i4, .ref i5, .int (nI uc3), .ref i6, .ref i7])), (i1, .inl (cI, 4, .inl (wA gi))), (i2, .inl (cI, 4, .inl (wA gs))), (i3, .inl (cI, 4, .inl (wA gw))), (i4, .inl (cI, 1500, .inl (wA gy))), (i5, .inl (cI, 1500, .inl (wA gu))), (i6, .inl (cI, 1500, .inl (wT (fun _ => 1)))), (i7, .inl (cI, 1500, .inl (wA (fun _ => 0))))]) := by
  intro sz
  refine k_of (cc := b_Pk_feasible) (maxL := 2) (ret := (Option.some Jvm.ClassFile.FieldType.int)) (by decide) rfl (Nat.le_of_ble_eq_true rfl) ?_
  intro p e s m args below meth c ls H locs A Q hQ hx hb hml hr hts hown hlk hnm hsz hAe hP hK hD hS hA hE hAH hl
  have ht : ∀ w ∈ mw, w.before args s = true := fun w h => hts w (List.mem_cons_of_mem _ h)
  have hl : lv_has ls 2 [(0, .ref h)] := hl
  refine lv_aload_n hx hb d_Pk_feasible_0 rfl (lv_at hl 0 rfl) ?_
  refine va_get (D := D) (ci := 4) (v := .ref pr) (C := R_Pk) (T := T_Pk) (N := 11) hx hb ht u_Pk hown hK hP 0 rfl rfl 2 (by decide) (ht _ wd_86) (fun _ h9 => h9) rfl d_Pk_feasible_1 ?_
  refine ck_i (wc := [(pr, .inr (0, [.ref p1, .ref p2, .ref p3, .ref p4, .int (nI n)]))]) (va_runV (As := []) (rest := []) (C := R_Cl) ⟨hx, hb, hml, hown, ht⟩ (c_Cl_count l Hs D cI cZ cL pr p1 p2 p3 p4 n  H.size) (gw_V 0 ht wd_149 wd_3 wd_191 wd_147 wd_148 (by decide +kernel) ⟨Nat.le_of_ble_eq_true rfl, Nat.le_of_ble_eq_true rfl⟩) (k_preV hE hAH hK hP hD hS [1] rfl rfl 1 rfl rfl) rfl rfl hl.1 rfl (lv_room (Nat.le_of_ble_eq_true rfl)) d_Pk_feasible_4 ⟨Nat.le_of_ble_eq_true rfl, Nat.le_of_ble_eq_true rfl⟩) hP hD hS hA [1] rfl rfl (fun r4 w1 H locs hpost hP hD hS => ?_)
  obtain ⟨rfl, rfl⟩ := hpost
  have hP : va_P D kcl [(h, .inr (4, [.ref rb, .null, .ref pr, .ref pl, .ref fo, .ref sa, .int (nI sw), .int (nI ax), .int (nI wi), .int (nI va), .int (nI sl)])), (pr, .inr (0, [.ref p1, .ref p2, .ref p3, .ref p4, .int (nI n)])), (p1, .inl (cI, 10, .inl (wA f1))), (p2, .inl (cI, 10, .inl (wA f2)))] H := hP
  have hD : va_D A [(h, .inr (4, [.ref rb, .null, .ref pr, .ref pl, .ref fo, .ref sa, .int (nI sw), .int (nI ax), .int (nI wi), .int (nI va), .int (nI sl)])), (pr, .inr (0, [.ref p1, .ref p2, .ref p3, .ref p4, .int (nI n)])), (p1, .inl (cI, 10, .inl (wA f1))), (p2, .inl (cI, 10, .inl (wA f2)))] := hD
  refine wi_if_ne hx hb d_Pk_feasible_7 rfl (by omega) (fun h7 => ?_) (fun h7 => ?_)
  · refine lv_aload_n hx hb d_Pk_feasible_12 rfl (lv_at hl 0 rfl) ?_
    refine ck_r (wc := [(h, .inr (4, [.ref rb, .null, .ref pr, .ref pl, .ref fo, .ref sa, .int (nI sw), .int (nI ax), .int (nI wi), .int (nI va), .int (nI sl)]))]) (va_runV (As := []) (rest := []) (C := R_Pk) ⟨hx, hb, hml, hown, ht⟩ (c_Pk_sb0 l Hs D cI cZ cL h rb pr pl fo sa sw ax wi va sl  H.size) (gw_V 0 ht wd_195 wd_1 wd_192 wd_194 ws_5 (by decide +kernel) ⟨Nat.le_of_ble_eq_true rfl, Nat.le_of_ble_eq_true rfl⟩) (k_preV hE hAH hK hP hD hS [0] rfl rfl 0 rfl rfl) rfl rfl hl.1 rfl (lv_room (Nat.le_of_ble_eq_true rfl)) d_Pk_feasible_13 ⟨Nat.le_of_ble_eq_true rfl, Nat.le_of_ble_eq_true rfl⟩) hP hD hS hA [0] rfl rfl (fun r13 w1 H locs hpost hP hD hS => ?_)
    obtain ⟨sb, i1, i2, i3, i4, i5, i6, i7, hr13, rfl⟩ := hpost
    subst r13
    have hP : va_P D kcl [(h, .inr (4, [.ref rb, .ref sb, .ref pr, .ref pl, .ref fo, .ref sa, .int (nI sw), .int (nI ax), .int (nI wi), .int (nI va), .int (nI sl)])), (pr, .inr (0, [.ref p1, .ref p2, .ref p3, .ref p4, .int (nI n)])), (p1, .inl (cI, 10, .inl (wA f1))), (p2, .inl (cI, 10, .inl (wA f2))), (sb, .inr (3, [.ref i1, .ref i2, .ref i3, .int (nI 0), .int (nI 1), .int (nI 0), .ref i4, .ref i5, .int (nI 0), .ref i6, .ref i7])), (i1, .inl (cI, 4, .inl (wA (fun _ => 0)))), (i2, .inl (cI, 4, .inl (wA (fun _ => 0)))), (i3, .inl (cI, 4, .inl (wA (fun _ => 0)))), (i4, .inl (cI, 1500, .inl (wA (fun _ => 0)))), (i5, .inl (cI, 1500, .inl (wA (fun _ => 0)))), (i6, .inl (cI, 1500, .inl (wT (fun _ => 1)))), (i7, .inl (cI, 1500, .inl (wA (fun _ => 0))))] H := hP
    have hD : va_D A [(h, .inr (4, [.ref rb, .ref sb, .ref pr, .ref pl, .ref fo, .ref sa, .int (nI sw), .int (nI ax), .int (nI wi), .int (nI va), .int (nI sl)])), (pr, .inr (0, [.ref p1, .ref p2, .ref p3, .ref p4, .int (nI n)])), (p1, .inl (cI, 10, .inl (wA f1))), (p2, .inl (cI, 10, .inl (wA f2))), (sb, .inr (3, [.ref i1, .ref i2, .ref i3, .int (nI 0), .int (nI 1), .int (nI 0), .ref i4, .ref i5, .int (nI 0), .ref i6, .ref i7])), (i1, .inl (cI, 4, .inl (wA (fun _ => 0)))), (i2, .inl (cI, 4, .inl (wA (fun _ => 0)))), (i3, .inl (cI, 4, .inl (wA (fun _ => 0)))), (i4, .inl (cI, 1500, .inl (wA (fun _ => 0)))), (i5, .inl (cI, 1500, .inl (wA (fun _ => 0)))), (i6, .inl (cI, 1500, .inl (wT (fun _ => 1)))), (i7, .inl (cI, 1500, .inl (wA (fun _ => 0))))] := hD
    refine W.widen (k := 8) (n := 6023) (by decide) (by decide) ?_
    refine lv_astore_n (lv' := [(1, .ref sb), (0, .ref h)]) hx hb d_Pk_feasible_16 rfl hl (by decide) rfl (fun ls hl => ?_)
    refine lv_aload_n hx hb d_Pk_feasible_17 rfl (lv_at hl 0 rfl) ?_
    refine lv_aload_n hx hb d_Pk_feasible_18 rfl (lv_at hl 1 rfl) ?_
    refine va_get (D := D) (ci := 4) (v := .ref pr) (C := R_Pk) (T := T_Pk) (N := 11) hx hb ht u_Pk hown hK hP 0 rfl rfl 2 (by decide) (ht _ wd_86) (fun _ h9 => h9) rfl d_Pk_feasible_19 ?_
    refine ck_i (wc := [(sb, .inr (3, [.ref i1, .ref i2, .ref i3, .int (nI 0), .int (nI 1), .int (nI 0), .ref i4, .ref i5, .int (nI 0), .ref i6, .ref i7])), (i1, .inl (cI, 4, .inl (wA (fun _ => 0)))), (i2, .inl (cI, 4, .inl (wA (fun _ => 0)))), (i3, .inl (cI, 4, .inl (wA (fun _ => 0)))), (pr, .inr (0, [.ref p1, .ref p2, .ref p3, .ref p4, .int (nI n)])), (p1, .inl (cI, 10, .inl (wA f1))), (p2, .inl (cI, 10, .inl (wA f2)))]) (va_runV (As := [.ref pr]) (rest := []) (C := R_Sb) ⟨hx, hb, hml, hown, ht⟩ (c_Sb_takes1 l Hs D cI cZ cL sb i1 i2 i3 i4 i5 i6 i7 0 1 0 0 (fun _ => 0) (fun _ => 0) (fun _ => 0) pr p1 p2 p3 p4 n f1 f2 hn1 hf2 htk H.size) (gw_V 1 ht wd_239 wd_25 wd_236 wd_237 wd_238 (by decide +kernel) ⟨Nat.le_of_ble_eq_true rfl, Nat.le_of_ble_eq_true rfl⟩) (k_preV hE hAH hK hP hD hS [4, 5, 6, 7, 1, 2, 3] rfl rfl 4 rfl rfl) rfl rfl hl.1 rfl (lv_room (Nat.le_of_ble_eq_true rfl)) d_Pk_feasible_22 ⟨Nat.le_of_ble_eq_true rfl, Nat.le_of_ble_eq_true rfl⟩) hP hD hS hA [4, 5, 6, 7, 1, 2, 3] rfl rfl (fun r22 w1 H locs hpost hP hD hS => ?_)
    obtain ⟨gi, gs, gw, aw3, hok, hgi, hgs, rfl, rfl⟩ := hpost
    have hP : va_P D kcl [(h, .inr (4, [.ref rb, .ref sb, .ref pr, .ref pl, .ref fo, .ref sa, .int (nI sw), .int (nI ax), .int (nI wi), .int (nI va), .int (nI sl)])), (pr, .inr (0, [.ref p1, .ref p2, .ref p3, .ref p4, .int (nI n)])), (p1, .inl (cI, 10, .inl (wA f1))), (p2, .inl (cI, 10, .inl (wA f2))), (sb, .inr (3, [.ref i1, .ref i2, .ref i3, .int (nI n), .int (nI (pw_w f2 n)), .int (nI aw3), .ref i4, .ref i5, .int (nI 0), .ref i6, .ref i7])), (i1, .inl (cI, 4, .inl (wA gi))), (i2, .inl (cI, 4, .inl (wA gs))), (i3, .inl (cI, 4, .inl (wA gw))), (i4, .inl (cI, 1500, .inl (wA (fun _ => 0)))), (i5, .inl (cI, 1500, .inl (wA (fun _ => 0)))), (i6, .inl (cI, 1500, .inl (wT (fun _ => 1)))), (i7, .inl (cI, 1500, .inl (wA (fun _ => 0))))] H := hP
    have hD : va_D A [(h, .inr (4, [.ref rb, .ref sb, .ref pr, .ref pl, .ref fo, .ref sa, .int (nI sw), .int (nI ax), .int (nI wi), .int (nI va), .int (nI sl)])), (pr, .inr (0, [.ref p1, .ref p2, .ref p3, .ref p4, .int (nI n)])), (p1, .inl (cI, 10, .inl (wA f1))), (p2, .inl (cI, 10, .inl (wA f2))), (sb, .inr (3, [.ref i1, .ref i2, .ref i3, .int (nI n), .int (nI (pw_w f2 n)), .int (nI aw3), .ref i4, .ref i5, .int (nI 0), .ref i6, .ref i7])), (i1, .inl (cI, 4, .inl (wA gi))), (i2, .inl (cI, 4, .inl (wA gs))), (i3, .inl (cI, 4, .inl (wA gw))), (i4, .inl (cI, 1500, .inl (wA (fun _ => 0)))), (i5, .inl (cI, 1500, .inl (wA (fun _ => 0)))), (i6, .inl (cI, 1500, .inl (wT (fun _ => 1)))), (i7, .inl (cI, 1500, .inl (wA (fun _ => 0))))] := hD
    refine wi_if_ne hx hb d_Pk_feasible_25 rfl (by decide) (fun _ => ?_) (fun h => absurd h (by decide))
    refine lv_aload_n hx hb d_Pk_feasible_30 rfl (lv_at hl 0 rfl) ?_
    refine ck_i (wc := [(sb, .inr (3, [.ref i1, .ref i2, .ref i3, .int (nI n), .int (nI (pw_w f2 n)), .int (nI aw3), .ref i4, .ref i5, .int (nI 0), .ref i6, .ref i7])), (i3, .inl (cI, 4, .inl (wA gw))), (i2, .inl (cI, 4, .inl (wA gs))), (i4, .inl (cI, 1500, .inl (wA (fun _ => 0)))), (i5, .inl (cI, 1500, .inl (wA (fun _ => 0))))]) (va_runV (As := []) (rest := []) (C := R_Sb) ⟨hx, hb, hml, hown, ht⟩ (c_Sb_startsSafe l Hs D cI cZ cL sb i1 i2 i3 i4 i5 i6 i7 n (pw_w f2 n) aw3 0 gs gw (fun _ => 0) (fun _ => 0) hok H.size) (gw_V 0 ht wd_254 wd_25 wd_251 wd_252 wd_253 (by decide +kernel) ⟨Nat.le_of_ble_eq_true rfl, Nat.le_of_ble_eq_true rfl⟩) (k_preV hE hAH hK hP hD hS [4, 7, 6, 8, 9] rfl rfl 4 rfl rfl) rfl rfl hl.1 rfl (lv_room (Nat.le_of_ble_eq_true rfl)) d_Pk_feasible_31 ⟨Nat.le_of_ble_eq_true rfl, Nat.le_of_ble_eq_true rfl⟩) hP hD hS hA [4, 7, 6, 8, 9] rfl rfl (fun r31 w1 H locs hpost hP hD hS => ?_)
    obtain ⟨r0, gy, gu, uc3, hye, hyb, hss, rfl, rfl⟩ := hpost
    have hP : va_P D kcl [(h, .inr (4, [.ref rb, .ref sb, .ref pr, .ref pl, .ref fo, .ref sa, .int (nI sw), .int (nI ax), .int (nI wi), .int (nI va), .int (nI sl)])), (pr, .inr (0, [.ref p1, .ref p2, .ref p3, .ref p4, .int (nI n)])), (p1, .inl (cI, 10, .inl (wA f1))), (p2, .inl (cI, 10, .inl (wA f2))), (sb, .inr (3, [.ref i1, .ref i2, .ref i3, .int (nI n), .int (nI (pw_w f2 n)), .int (nI aw3), .ref i4, .ref i5, .int (nI uc3), .ref i6, .ref i7])), (i1, .inl (cI, 4, .inl (wA gi))), (i2, .inl (cI, 4, .inl (wA gs))), (i3, .inl (cI, 4, .inl (wA gw))), (i4, .inl (cI, 1500, .inl (wA gy))), (i5, .inl (cI, 1500, .inl (wA gu))), (i6, .inl (cI, 1500, .inl (wT (fun _ => 1)))), (i7, .inl (cI, 1500, .inl (wA (fun _ => 0))))] H := hP
    have hD : va_D A [(h, .inr (4, [.ref rb, .ref sb, .ref pr, .ref pl, .ref fo, .ref sa, .int (nI sw), .int (nI ax), .int (nI wi), .int (nI va), .int (nI sl)])), (pr, .inr (0, [.ref p1, .ref p2, .ref p3, .ref p4, .int (nI n)])), (p1, .inl (cI, 10, .inl (wA f1))), (p2, .inl (cI, 10, .inl (wA f2))), (sb, .inr (3, [.ref i1, .ref i2, .ref i3, .int (nI n), .int (nI (pw_w f2 n)), .int (nI aw3), .ref i4, .ref i5, .int (nI uc3), .ref i6, .ref i7])), (i1, .inl (cI, 4, .inl (wA gi))), (i2, .inl (cI, 4, .inl (wA gs))), (i3, .inl (cI, 4, .inl (wA gw))), (i4, .inl (cI, 1500, .inl (wA gy))), (i5, .inl (cI, 1500, .inl (wA gu))), (i6, .inl (cI, 1500, .inl (wT (fun _ => 1)))), (i7, .inl (cI, 1500, .inl (wA (fun _ => 0))))] := hD
    have hgsw := sb_weigh hgs
    have hsfe : pw_safe n gs (pw_w f2 n - 1) ↔ pw_sf f2 n := by
      unfold pw_sf
      rw [pw_os_w]
      exact pw_safe_cg hgs _
    refine lv_if_eq hx hb d_Pk_feasible_34 rfl (fun h34 => ?_) (fun h34 => ?_)
    · refine lv_iconst (v := nI 0) hx hb d_Pk_feasible_41 (by decide) ?_
      have hnsf : ¬ pw_sf f2 n := fun z => by
        rcases hss with ⟨e, -⟩ | ⟨-, z2⟩
        · rw [e] at h34; exact absurd h34 (by decide)
        · exact z2 (hsfe.mpr z)
      exact k_reti hQ hx hb hr hlk hAe hK hP hD hS (Nat.le_of_ble_eq_true rfl) (Nat.le_of_ble_eq_true rfl) (Nat.le_of_ble_eq_true rfl) ⟨sb, i1, i2, i3, i4, i5, i6, i7, aw3, uc3, gi, gs, gw, gy, gu, nI 0, Or.inr ⟨rfl, hnsf⟩, rfl, rfl⟩ d_Pk_feasible_42
    · refine lv_iconst (v := nI 1) hx hb d_Pk_feasible_37 (by decide) ?_
      refine lv_goto hx hb d_Pk_feasible_38 rfl ?_
      have hsf : pw_sf f2 n := by
        rcases hss with ⟨-, z⟩ | ⟨e, -⟩
        · exact hsfe.mp z
        · exact absurd e h34
      exact k_reti hQ hx hb hr hlk hAe hK hP hD hS (Nat.le_of_ble_eq_true rfl) (Nat.le_of_ble_eq_true rfl) (Nat.le_of_ble_eq_true rfl) ⟨sb, i1, i2, i3, i4, i5, i6, i7, aw3, uc3, gi, gs, gw, gy, gu, nI 1, Or.inl ⟨rfl, hsf⟩, rfl, rfl⟩ d_Pk_feasible_42
  · exfalso; omega
set_option maxHeartbeats 4000000 in
set_option maxRecDepth 100000 in
theorem c_Pk_feasibleN0 (l : Launch) (Hs : Heap) (D : va_G) (cI cZ cL : ClassId) (h : Nat) (rb : Nat) (pr : Nat) (pl : Nat) (fo : Nat) (sa : Nat) (sw : Nat) (ax : Nat) (wi : Nat) (va : Nat) (sl : Nat) (p1 : Nat) (p2 : Nat) (p3 : Nat) (p4 : Nat) (n : Nat) (f1 : Nat → Nat) (f2 : Nat → Nat) (hn : n ≤ 10) (hn1 : 1 ≤ n) (hf2 : ∀ t, t < n → 0 < f2 t ∧ f2 t ≤ 40) (htk : ¬ pw_tk f2 n) : kI l Hs D kcl (ty3 cI cZ cL) y_Pk_feasible (mws y_Pk_feasible b_Pk_feasible 2 (Option.some Jvm.ClassFile.FieldType.int)) ({ frames := 3, cells := 8, slots := 6023, locals := 52 } : Room) [.ref h] [(h, .inr (4, [.ref rb, .null, .ref pr, .ref pl, .ref fo, .ref sa, .int (nI sw), .int (nI ax), .int (nI wi), .int (nI va), .int (nI sl)])), (pr, .inr (0, [.ref p1, .ref p2, .ref p3, .ref p4, .int (nI n)])), (p1, .inl (cI, 10, .inl (wA f1))), (p2, .inl (cI, 10, .inl (wA f2)))] (fun r w => ∃ (sb : Nat), ∃ (i1 : Nat), ∃ (i2 : Nat), ∃ (i3 : Nat), ∃ (i4 : Nat), ∃ (i5 : Nat), ∃ (i6 : Nat), ∃ (i7 : Nat), r = -1 ∧ w = [(h, .inr (4, [.ref rb, .ref sb, .ref pr, .ref pl, .ref fo, .ref sa, .int (nI sw), .int (nI ax), .int (nI wi), .int (nI va), .int (nI sl)])), (pr, .inr (0, [.ref p1, .ref p2, .ref p3, .ref p4, .int (nI n)])), (p1, .inl (cI, 10, .inl (wA f1))), (p2, .inl (cI, 10, .inl (wA f2))), (sb, .inr (3, [.ref i1, .ref i2, .ref i3, .int (nI 0), .int (nI 1), .int (nI 0), .ref i4, .ref i5, .int (nI 0), .ref i6, .ref i7])), (i1, .inl (cI, 4, .inl (wA (fun _ => 0)))), (i2, .inl (cI, 4, .inl (wA (fun _ => 0)))), (i3, .inl (cI, 4, .inl (wA (fun _ => 0)))), (i4, .inl (cI, 1500, .inl (wA (fun _ => 0)))), (i5, .inl (cI, 1500, .inl (wA (fun _ => 0)))), (i6, .inl (cI, 1500, .inl (wT (fun _ => 1)))), (i7, .inl (cI, 1500, .inl (wA (fun _ => 0))))]) := by
  intro sz
  refine k_of (cc := b_Pk_feasible) (maxL := 2) (ret := (Option.some Jvm.ClassFile.FieldType.int)) (by decide) rfl (Nat.le_of_ble_eq_true rfl) ?_
  intro p e s m args below meth c ls H locs A Q hQ hx hb hml hr hts hown hlk hnm hsz hAe hP hK hD hS hA hE hAH hl
  have ht : ∀ w ∈ mw, w.before args s = true := fun w h => hts w (List.mem_cons_of_mem _ h)
  have hl : lv_has ls 2 [(0, .ref h)] := hl
  refine lv_aload_n hx hb d_Pk_feasible_0 rfl (lv_at hl 0 rfl) ?_
  refine va_get (D := D) (ci := 4) (v := .ref pr) (C := R_Pk) (T := T_Pk) (N := 11) hx hb ht u_Pk hown hK hP 0 rfl rfl 2 (by decide) (ht _ wd_86) (fun _ h9 => h9) rfl d_Pk_feasible_1 ?_
  refine ck_i (wc := [(pr, .inr (0, [.ref p1, .ref p2, .ref p3, .ref p4, .int (nI n)]))]) (va_runV (As := []) (rest := []) (C := R_Cl) ⟨hx, hb, hml, hown, ht⟩ (c_Cl_count l Hs D cI cZ cL pr p1 p2 p3 p4 n  H.size) (gw_V 0 ht wd_149 wd_3 wd_191 wd_147 wd_148 (by decide +kernel) ⟨Nat.le_of_ble_eq_true rfl, Nat.le_of_ble_eq_true rfl⟩) (k_preV hE hAH hK hP hD hS [1] rfl rfl 1 rfl rfl) rfl rfl hl.1 rfl (lv_room (Nat.le_of_ble_eq_true rfl)) d_Pk_feasible_4 ⟨Nat.le_of_ble_eq_true rfl, Nat.le_of_ble_eq_true rfl⟩) hP hD hS hA [1] rfl rfl (fun r4 w1 H locs hpost hP hD hS => ?_)
  obtain ⟨rfl, rfl⟩ := hpost
  have hP : va_P D kcl [(h, .inr (4, [.ref rb, .null, .ref pr, .ref pl, .ref fo, .ref sa, .int (nI sw), .int (nI ax), .int (nI wi), .int (nI va), .int (nI sl)])), (pr, .inr (0, [.ref p1, .ref p2, .ref p3, .ref p4, .int (nI n)])), (p1, .inl (cI, 10, .inl (wA f1))), (p2, .inl (cI, 10, .inl (wA f2)))] H := hP
  have hD : va_D A [(h, .inr (4, [.ref rb, .null, .ref pr, .ref pl, .ref fo, .ref sa, .int (nI sw), .int (nI ax), .int (nI wi), .int (nI va), .int (nI sl)])), (pr, .inr (0, [.ref p1, .ref p2, .ref p3, .ref p4, .int (nI n)])), (p1, .inl (cI, 10, .inl (wA f1))), (p2, .inl (cI, 10, .inl (wA f2)))] := hD
  refine wi_if_ne hx hb d_Pk_feasible_7 rfl (by omega) (fun h7 => ?_) (fun h7 => ?_)
  · refine lv_aload_n hx hb d_Pk_feasible_12 rfl (lv_at hl 0 rfl) ?_
    refine ck_r (wc := [(h, .inr (4, [.ref rb, .null, .ref pr, .ref pl, .ref fo, .ref sa, .int (nI sw), .int (nI ax), .int (nI wi), .int (nI va), .int (nI sl)]))]) (va_runV (As := []) (rest := []) (C := R_Pk) ⟨hx, hb, hml, hown, ht⟩ (c_Pk_sb0 l Hs D cI cZ cL h rb pr pl fo sa sw ax wi va sl  H.size) (gw_V 0 ht wd_195 wd_1 wd_192 wd_194 ws_5 (by decide +kernel) ⟨Nat.le_of_ble_eq_true rfl, Nat.le_of_ble_eq_true rfl⟩) (k_preV hE hAH hK hP hD hS [0] rfl rfl 0 rfl rfl) rfl rfl hl.1 rfl (lv_room (Nat.le_of_ble_eq_true rfl)) d_Pk_feasible_13 ⟨Nat.le_of_ble_eq_true rfl, Nat.le_of_ble_eq_true rfl⟩) hP hD hS hA [0] rfl rfl (fun r13 w1 H locs hpost hP hD hS => ?_)
    obtain ⟨sb, i1, i2, i3, i4, i5, i6, i7, hr13, rfl⟩ := hpost
    subst r13
    have hP : va_P D kcl [(h, .inr (4, [.ref rb, .ref sb, .ref pr, .ref pl, .ref fo, .ref sa, .int (nI sw), .int (nI ax), .int (nI wi), .int (nI va), .int (nI sl)])), (pr, .inr (0, [.ref p1, .ref p2, .ref p3, .ref p4, .int (nI n)])), (p1, .inl (cI, 10, .inl (wA f1))), (p2, .inl (cI, 10, .inl (wA f2))), (sb, .inr (3, [.ref i1, .ref i2, .ref i3, .int (nI 0), .int (nI 1), .int (nI 0), .ref i4, .ref i5, .int (nI 0), .ref i6, .ref i7])), (i1, .inl (cI, 4, .inl (wA (fun _ => 0)))), (i2, .inl (cI, 4, .inl (wA (fun _ => 0)))), (i3, .inl (cI, 4, .inl (wA (fun _ => 0)))), (i4, .inl (cI, 1500, .inl (wA (fun _ => 0)))), (i5, .inl (cI, 1500, .inl (wA (fun _ => 0)))), (i6, .inl (cI, 1500, .inl (wT (fun _ => 1)))), (i7, .inl (cI, 1500, .inl (wA (fun _ => 0))))] H := hP
    have hD : va_D A [(h, .inr (4, [.ref rb, .ref sb, .ref pr, .ref pl, .ref fo, .ref sa, .int (nI sw), .int (nI ax), .int (nI wi), .int (nI va), .int (nI sl)])), (pr, .inr (0, [.ref p1, .ref p2, .ref p3, .ref p4, .int (nI n)])), (p1, .inl (cI, 10, .inl (wA f1))), (p2, .inl (cI, 10, .inl (wA f2))), (sb, .inr (3, [.ref i1, .ref i2, .ref i3, .int (nI 0), .int (nI 1), .int (nI 0), .ref i4, .ref i5, .int (nI 0), .ref i6, .ref i7])), (i1, .inl (cI, 4, .inl (wA (fun _ => 0)))), (i2, .inl (cI, 4, .inl (wA (fun _ => 0)))), (i3, .inl (cI, 4, .inl (wA (fun _ => 0)))), (i4, .inl (cI, 1500, .inl (wA (fun _ => 0)))), (i5, .inl (cI, 1500, .inl (wA (fun _ => 0)))), (i6, .inl (cI, 1500, .inl (wT (fun _ => 1)))), (i7, .inl (cI, 1500, .inl (wA (fun _ => 0))))] := hD
    refine W.widen (k := 8) (n := 6023) (by decide) (by decide) ?_
    refine lv_astore_n (lv' := [(1, .ref sb), (0, .ref h)]) hx hb d_Pk_feasible_16 rfl hl (by decide) rfl (fun ls hl => ?_)
    refine lv_aload_n hx hb d_Pk_feasible_17 rfl (lv_at hl 0 rfl) ?_
    refine lv_aload_n hx hb d_Pk_feasible_18 rfl (lv_at hl 1 rfl) ?_
    refine va_get (D := D) (ci := 4) (v := .ref pr) (C := R_Pk) (T := T_Pk) (N := 11) hx hb ht u_Pk hown hK hP 0 rfl rfl 2 (by decide) (ht _ wd_86) (fun _ h9 => h9) rfl d_Pk_feasible_19 ?_
    refine ck_i (wc := [(sb, .inr (3, [.ref i1, .ref i2, .ref i3, .int (nI 0), .int (nI 1), .int (nI 0), .ref i4, .ref i5, .int (nI 0), .ref i6, .ref i7])), (i1, .inl (cI, 4, .inl (wA (fun _ => 0)))), (i2, .inl (cI, 4, .inl (wA (fun _ => 0)))), (i3, .inl (cI, 4, .inl (wA (fun _ => 0)))), (pr, .inr (0, [.ref p1, .ref p2, .ref p3, .ref p4, .int (nI n)])), (p1, .inl (cI, 10, .inl (wA f1))), (p2, .inl (cI, 10, .inl (wA f2)))]) (va_runV (As := [.ref pr]) (rest := []) (C := R_Sb) ⟨hx, hb, hml, hown, ht⟩ (c_Sb_takes0 l Hs D cI cZ cL sb i1 i2 i3 i4 i5 i6 i7 0 1 0 0 (fun _ => 0) (fun _ => 0) (fun _ => 0) pr p1 p2 p3 p4 n f1 f2 hn hf2 htk H.size) (gw_V 1 ht wd_239 wd_25 wd_236 wd_237 wd_238 (by decide +kernel) ⟨Nat.le_of_ble_eq_true rfl, Nat.le_of_ble_eq_true rfl⟩) (k_preV hE hAH hK hP hD hS [4, 5, 6, 7, 1, 2, 3] rfl rfl 4 rfl rfl) rfl rfl hl.1 rfl (lv_room (Nat.le_of_ble_eq_true rfl)) d_Pk_feasible_22 ⟨Nat.le_of_ble_eq_true rfl, Nat.le_of_ble_eq_true rfl⟩) hP hD hS hA [4, 5, 6, 7, 1, 2, 3] rfl rfl (fun r22 w1 H locs hpost hP hD hS => ?_)
    obtain ⟨rfl, rfl⟩ := hpost
    have hP : va_P D kcl [(h, .inr (4, [.ref rb, .ref sb, .ref pr, .ref pl, .ref fo, .ref sa, .int (nI sw), .int (nI ax), .int (nI wi), .int (nI va), .int (nI sl)])), (pr, .inr (0, [.ref p1, .ref p2, .ref p3, .ref p4, .int (nI n)])), (p1, .inl (cI, 10, .inl (wA f1))), (p2, .inl (cI, 10, .inl (wA f2))), (sb, .inr (3, [.ref i1, .ref i2, .ref i3, .int (nI 0), .int (nI 1), .int (nI 0), .ref i4, .ref i5, .int (nI 0), .ref i6, .ref i7])), (i1, .inl (cI, 4, .inl (wA (fun _ => 0)))), (i2, .inl (cI, 4, .inl (wA (fun _ => 0)))), (i3, .inl (cI, 4, .inl (wA (fun _ => 0)))), (i4, .inl (cI, 1500, .inl (wA (fun _ => 0)))), (i5, .inl (cI, 1500, .inl (wA (fun _ => 0)))), (i6, .inl (cI, 1500, .inl (wT (fun _ => 1)))), (i7, .inl (cI, 1500, .inl (wA (fun _ => 0))))] H := hP
    have hD : va_D A [(h, .inr (4, [.ref rb, .ref sb, .ref pr, .ref pl, .ref fo, .ref sa, .int (nI sw), .int (nI ax), .int (nI wi), .int (nI va), .int (nI sl)])), (pr, .inr (0, [.ref p1, .ref p2, .ref p3, .ref p4, .int (nI n)])), (p1, .inl (cI, 10, .inl (wA f1))), (p2, .inl (cI, 10, .inl (wA f2))), (sb, .inr (3, [.ref i1, .ref i2, .ref i3, .int (nI 0), .int (nI 1), .int (nI 0), .ref i4, .ref i5, .int (nI 0), .ref i6, .ref i7])), (i1, .inl (cI, 4, .inl (wA (fun _ => 0)))), (i2, .inl (cI, 4, .inl (wA (fun _ => 0)))), (i3, .inl (cI, 4, .inl (wA (fun _ => 0)))), (i4, .inl (cI, 1500, .inl (wA (fun _ => 0)))), (i5, .inl (cI, 1500, .inl (wA (fun _ => 0)))), (i6, .inl (cI, 1500, .inl (wT (fun _ => 1)))), (i7, .inl (cI, 1500, .inl (wA (fun _ => 0))))] := hD
    refine wi_if_ne hx hb d_Pk_feasible_25 rfl (by decide) (fun h => absurd h (by decide)) (fun _ => ?_)
    refine lv_iconst (v := -1) hx hb d_Pk_feasible_28 (by decide) ?_
    exact k_reti hQ hx hb hr hlk hAe hK hP hD hS (Nat.le_of_ble_eq_true rfl) (Nat.le_of_ble_eq_true rfl) (Nat.le_of_ble_eq_true rfl) ⟨sb, i1, i2, i3, i4, i5, i6, i7, rfl, rfl⟩ d_Pk_feasible_29
  · exfalso; omega
set_option maxHeartbeats 4000000 in
set_option maxRecDepth 100000 in
theorem c_Pk_feasibleS1 (l : Launch) (Hs : Heap) (D : va_G) (cI cZ cL : ClassId) (h : Nat) (rb : Nat) (pr : Nat) (pl : Nat) (fo : Nat) (sa : Nat) (sw : Nat) (ax : Nat) (wi : Nat) (va : Nat) (sl : Nat) (p1 : Nat) (p2 : Nat) (p3 : Nat) (p4 : Nat) (n : Nat) (f1 : Nat → Nat) (f2 : Nat → Nat) (sb : Nat) (i1 : Nat) (i2 : Nat) (i3 : Nat) (i4 : Nat) (i5 : Nat) (i6 : Nat) (i7 : Nat) (K : Nat) (sc : Nat) (aw : Nat) (uc : Nat) (fi : Nat → Nat) (fy : Nat → Nat) (fu : Nat → Nat) (ft : Nat → Nat) (sv : Nat → Nat) (fs : Nat → Nat) (fw : Nat → Nat) (hn : n ≤ 10) (hn1 : 1 ≤ n) (hf2 : ∀ t, t < n → 0 < f2 t ∧ f2 t ≤ 40) (htk : pw_tk f2 n) : kI l Hs D kcl (ty3 cI cZ cL) y_Pk_feasible (mws y_Pk_feasible b_Pk_feasible 2 (Option.some Jvm.ClassFile.FieldType.int)) ({ frames := 4, cells := 0, slots := 0, locals := 91 } : Room) [.ref h] [(h, .inr (4, [.ref rb, .ref sb, .ref pr, .ref pl, .ref fo, .ref sa, .int (nI sw), .int (nI ax), .int (nI wi), .int (nI va), .int (nI sl)])), (pr, .inr (0, [.ref p1, .ref p2, .ref p3, .ref p4, .int (nI n)])), (p1, .inl (cI, 10, .inl (wA f1))), (p2, .inl (cI, 10, .inl (wA f2))), (sb, .inr (3, [.ref i1, .ref i2, .ref i3, .int (nI K), .int (nI sc), .int (nI aw), .ref i4, .ref i5, .int (nI uc), .ref i6, .ref i7])), (i1, .inl (cI, 4, .inl (wA fi))), (i2, .inl (cI, 4, .inl (wA fs))), (i3, .inl (cI, 4, .inl (wA fw))), (i4, .inl (cI, 1500, .inl (wA fy))), (i5, .inl (cI, 1500, .inl (wA fu))), (i6, .inl (cI, 1500, .inl (wT ft))), (i7, .inl (cI, 1500, .inl (wA sv)))] (fun r w => ∃ (aw3 : Nat), ∃ (uc3 : Nat), ∃ (gi : Nat → Nat), ∃ (gs : Nat → Nat), ∃ (gw : Nat → Nat), ∃ (gy : Nat → Nat), ∃ (gu : Nat → Nat), ∃ (r0 : Int32), ((r0 = nI 1 ∧ pw_sf f2 n) ∨ (r0 = nI 0 ∧ ¬ pw_sf f2 n)) ∧ r = r0 ∧ w = [(h, .inr (4, [.ref rb, .ref sb, .ref pr, .ref pl, .ref fo, .ref sa, .int (nI sw), .int (nI ax), .int (nI wi), .int (nI va), .int (nI sl)])), (pr, .inr (0, [.ref p1, .ref p2, .ref p3, .ref p4, .int (nI n)])), (p1, .inl (cI, 10, .inl (wA f1))), (p2, .inl (cI, 10, .inl (wA f2))), (sb, .inr (3, [.ref i1, .ref i2, .ref i3, .int (nI n), .int (nI (pw_w f2 n)), .int (nI aw3), .ref i4, .ref i5, .int (nI uc3), .ref i6, .ref i7])), (i1, .inl (cI, 4, .inl (wA gi))), (i2, .inl (cI, 4, .inl (wA gs))), (i3, .inl (cI, 4, .inl (wA gw))), (i4, .inl (cI, 1500, .inl (wA gy))), (i5, .inl (cI, 1500, .inl (wA gu))), (i6, .inl (cI, 1500, .inl (wT ft))), (i7, .inl (cI, 1500, .inl (wA sv)))]) := by
  intro sz
  refine k_of (cc := b_Pk_feasible) (maxL := 2) (ret := (Option.some Jvm.ClassFile.FieldType.int)) (by decide) rfl (Nat.le_of_ble_eq_true rfl) ?_
  intro p e s m args below meth c ls H locs A Q hQ hx hb hml hr hts hown hlk hnm hsz hAe hP hK hD hS hA hE hAH hl
  have ht : ∀ w ∈ mw, w.before args s = true := fun w h => hts w (List.mem_cons_of_mem _ h)
  have hl : lv_has ls 2 [(0, .ref h)] := hl
  refine lv_aload_n hx hb d_Pk_feasible_0 rfl (lv_at hl 0 rfl) ?_
  refine va_get (D := D) (ci := 4) (v := .ref pr) (C := R_Pk) (T := T_Pk) (N := 11) hx hb ht u_Pk hown hK hP 0 rfl rfl 2 (by decide) (ht _ wd_86) (fun _ h9 => h9) rfl d_Pk_feasible_1 ?_
  refine ck_i (wc := [(pr, .inr (0, [.ref p1, .ref p2, .ref p3, .ref p4, .int (nI n)]))]) (va_runV (As := []) (rest := []) (C := R_Cl) ⟨hx, hb, hml, hown, ht⟩ (c_Cl_count l Hs D cI cZ cL pr p1 p2 p3 p4 n  H.size) (gw_V 0 ht wd_149 wd_3 wd_191 wd_147 wd_148 (by decide +kernel) ⟨Nat.le_of_ble_eq_true rfl, Nat.le_of_ble_eq_true rfl⟩) (k_preV hE hAH hK hP hD hS [1] rfl rfl 1 rfl rfl) rfl rfl hl.1 rfl (lv_room (Nat.le_of_ble_eq_true rfl)) d_Pk_feasible_4 ⟨Nat.le_of_ble_eq_true rfl, Nat.le_of_ble_eq_true rfl⟩) hP hD hS hA [1] rfl rfl (fun r4 w1 H locs hpost hP hD hS => ?_)
  obtain ⟨rfl, rfl⟩ := hpost
  have hP : va_P D kcl [(h, .inr (4, [.ref rb, .ref sb, .ref pr, .ref pl, .ref fo, .ref sa, .int (nI sw), .int (nI ax), .int (nI wi), .int (nI va), .int (nI sl)])), (pr, .inr (0, [.ref p1, .ref p2, .ref p3, .ref p4, .int (nI n)])), (p1, .inl (cI, 10, .inl (wA f1))), (p2, .inl (cI, 10, .inl (wA f2))), (sb, .inr (3, [.ref i1, .ref i2, .ref i3, .int (nI K), .int (nI sc), .int (nI aw), .ref i4, .ref i5, .int (nI uc), .ref i6, .ref i7])), (i1, .inl (cI, 4, .inl (wA fi))), (i2, .inl (cI, 4, .inl (wA fs))), (i3, .inl (cI, 4, .inl (wA fw))), (i4, .inl (cI, 1500, .inl (wA fy))), (i5, .inl (cI, 1500, .inl (wA fu))), (i6, .inl (cI, 1500, .inl (wT ft))), (i7, .inl (cI, 1500, .inl (wA sv)))] H := hP
  have hD : va_D A [(h, .inr (4, [.ref rb, .ref sb, .ref pr, .ref pl, .ref fo, .ref sa, .int (nI sw), .int (nI ax), .int (nI wi), .int (nI va), .int (nI sl)])), (pr, .inr (0, [.ref p1, .ref p2, .ref p3, .ref p4, .int (nI n)])), (p1, .inl (cI, 10, .inl (wA f1))), (p2, .inl (cI, 10, .inl (wA f2))), (sb, .inr (3, [.ref i1, .ref i2, .ref i3, .int (nI K), .int (nI sc), .int (nI aw), .ref i4, .ref i5, .int (nI uc), .ref i6, .ref i7])), (i1, .inl (cI, 4, .inl (wA fi))), (i2, .inl (cI, 4, .inl (wA fs))), (i3, .inl (cI, 4, .inl (wA fw))), (i4, .inl (cI, 1500, .inl (wA fy))), (i5, .inl (cI, 1500, .inl (wA fu))), (i6, .inl (cI, 1500, .inl (wT ft))), (i7, .inl (cI, 1500, .inl (wA sv)))] := hD
  refine wi_if_ne hx hb d_Pk_feasible_7 rfl (by omega) (fun h7 => ?_) (fun h7 => ?_)
  · refine lv_aload_n hx hb d_Pk_feasible_12 rfl (lv_at hl 0 rfl) ?_
    refine ck_r (wc := [(h, .inr (4, [.ref rb, .ref sb, .ref pr, .ref pl, .ref fo, .ref sa, .int (nI sw), .int (nI ax), .int (nI wi), .int (nI va), .int (nI sl)]))]) (va_runV (As := []) (rest := []) (C := R_Pk) ⟨hx, hb, hml, hown, ht⟩ (c_Pk_sb1 l Hs D cI cZ cL h rb pr pl fo sa sw ax wi va sl sb  H.size) (gw_V 0 ht wd_195 wd_1 wd_192 wd_194 ws_5 (by decide +kernel) ⟨Nat.le_of_ble_eq_true rfl, Nat.le_of_ble_eq_true rfl⟩) (k_preV hE hAH hK hP hD hS [0] rfl rfl 0 rfl rfl) rfl rfl hl.1 rfl (lv_room (Nat.le_of_ble_eq_true rfl)) d_Pk_feasible_13 ⟨Nat.le_of_ble_eq_true rfl, Nat.le_of_ble_eq_true rfl⟩) hP hD hS hA [0] rfl rfl (fun r13 w1 H locs hpost hP hD hS => ?_)
    obtain ⟨hr13, rfl⟩ := hpost
    subst r13
    have hP : va_P D kcl [(h, .inr (4, [.ref rb, .ref sb, .ref pr, .ref pl, .ref fo, .ref sa, .int (nI sw), .int (nI ax), .int (nI wi), .int (nI va), .int (nI sl)])), (pr, .inr (0, [.ref p1, .ref p2, .ref p3, .ref p4, .int (nI n)])), (p1, .inl (cI, 10, .inl (wA f1))), (p2, .inl (cI, 10, .inl (wA f2))), (sb, .inr (3, [.ref i1, .ref i2, .ref i3, .int (nI K), .int (nI sc), .int (nI aw), .ref i4, .ref i5, .int (nI uc), .ref i6, .ref i7])), (i1, .inl (cI, 4, .inl (wA fi))), (i2, .inl (cI, 4, .inl (wA fs))), (i3, .inl (cI, 4, .inl (wA fw))), (i4, .inl (cI, 1500, .inl (wA fy))), (i5, .inl (cI, 1500, .inl (wA fu))), (i6, .inl (cI, 1500, .inl (wT ft))), (i7, .inl (cI, 1500, .inl (wA sv)))] H := hP
    have hD : va_D A [(h, .inr (4, [.ref rb, .ref sb, .ref pr, .ref pl, .ref fo, .ref sa, .int (nI sw), .int (nI ax), .int (nI wi), .int (nI va), .int (nI sl)])), (pr, .inr (0, [.ref p1, .ref p2, .ref p3, .ref p4, .int (nI n)])), (p1, .inl (cI, 10, .inl (wA f1))), (p2, .inl (cI, 10, .inl (wA f2))), (sb, .inr (3, [.ref i1, .ref i2, .ref i3, .int (nI K), .int (nI sc), .int (nI aw), .ref i4, .ref i5, .int (nI uc), .ref i6, .ref i7])), (i1, .inl (cI, 4, .inl (wA fi))), (i2, .inl (cI, 4, .inl (wA fs))), (i3, .inl (cI, 4, .inl (wA fw))), (i4, .inl (cI, 1500, .inl (wA fy))), (i5, .inl (cI, 1500, .inl (wA fu))), (i6, .inl (cI, 1500, .inl (wT ft))), (i7, .inl (cI, 1500, .inl (wA sv)))] := hD
    refine lv_astore_n (lv' := [(1, .ref sb), (0, .ref h)]) hx hb d_Pk_feasible_16 rfl hl (by decide) rfl (fun ls hl => ?_)
    refine lv_aload_n hx hb d_Pk_feasible_17 rfl (lv_at hl 0 rfl) ?_
    refine lv_aload_n hx hb d_Pk_feasible_18 rfl (lv_at hl 1 rfl) ?_
    refine va_get (D := D) (ci := 4) (v := .ref pr) (C := R_Pk) (T := T_Pk) (N := 11) hx hb ht u_Pk hown hK hP 0 rfl rfl 2 (by decide) (ht _ wd_86) (fun _ h9 => h9) rfl d_Pk_feasible_19 ?_
    refine ck_i (wc := [(sb, .inr (3, [.ref i1, .ref i2, .ref i3, .int (nI K), .int (nI sc), .int (nI aw), .ref i4, .ref i5, .int (nI uc), .ref i6, .ref i7])), (i1, .inl (cI, 4, .inl (wA fi))), (i2, .inl (cI, 4, .inl (wA fs))), (i3, .inl (cI, 4, .inl (wA fw))), (pr, .inr (0, [.ref p1, .ref p2, .ref p3, .ref p4, .int (nI n)])), (p1, .inl (cI, 10, .inl (wA f1))), (p2, .inl (cI, 10, .inl (wA f2)))]) (va_runV (As := [.ref pr]) (rest := []) (C := R_Sb) ⟨hx, hb, hml, hown, ht⟩ (c_Sb_takes1 l Hs D cI cZ cL sb i1 i2 i3 i4 i5 i6 i7 K sc aw uc fi fs fw pr p1 p2 p3 p4 n f1 f2 hn1 hf2 htk H.size) (gw_V 1 ht wd_239 wd_25 wd_236 wd_237 wd_238 (by decide +kernel) ⟨Nat.le_of_ble_eq_true rfl, Nat.le_of_ble_eq_true rfl⟩) (k_preV hE hAH hK hP hD hS [4, 5, 6, 7, 1, 2, 3] rfl rfl 4 rfl rfl) rfl rfl hl.1 rfl (lv_room (Nat.le_of_ble_eq_true rfl)) d_Pk_feasible_22 ⟨Nat.le_of_ble_eq_true rfl, Nat.le_of_ble_eq_true rfl⟩) hP hD hS hA [4, 5, 6, 7, 1, 2, 3] rfl rfl (fun r22 w1 H locs hpost hP hD hS => ?_)
    obtain ⟨gi, gs, gw, aw3, hok, hgi, hgs, rfl, rfl⟩ := hpost
    have hP : va_P D kcl [(h, .inr (4, [.ref rb, .ref sb, .ref pr, .ref pl, .ref fo, .ref sa, .int (nI sw), .int (nI ax), .int (nI wi), .int (nI va), .int (nI sl)])), (pr, .inr (0, [.ref p1, .ref p2, .ref p3, .ref p4, .int (nI n)])), (p1, .inl (cI, 10, .inl (wA f1))), (p2, .inl (cI, 10, .inl (wA f2))), (sb, .inr (3, [.ref i1, .ref i2, .ref i3, .int (nI n), .int (nI (pw_w f2 n)), .int (nI aw3), .ref i4, .ref i5, .int (nI uc), .ref i6, .ref i7])), (i1, .inl (cI, 4, .inl (wA gi))), (i2, .inl (cI, 4, .inl (wA gs))), (i3, .inl (cI, 4, .inl (wA gw))), (i4, .inl (cI, 1500, .inl (wA fy))), (i5, .inl (cI, 1500, .inl (wA fu))), (i6, .inl (cI, 1500, .inl (wT ft))), (i7, .inl (cI, 1500, .inl (wA sv)))] H := hP
    have hD : va_D A [(h, .inr (4, [.ref rb, .ref sb, .ref pr, .ref pl, .ref fo, .ref sa, .int (nI sw), .int (nI ax), .int (nI wi), .int (nI va), .int (nI sl)])), (pr, .inr (0, [.ref p1, .ref p2, .ref p3, .ref p4, .int (nI n)])), (p1, .inl (cI, 10, .inl (wA f1))), (p2, .inl (cI, 10, .inl (wA f2))), (sb, .inr (3, [.ref i1, .ref i2, .ref i3, .int (nI n), .int (nI (pw_w f2 n)), .int (nI aw3), .ref i4, .ref i5, .int (nI uc), .ref i6, .ref i7])), (i1, .inl (cI, 4, .inl (wA gi))), (i2, .inl (cI, 4, .inl (wA gs))), (i3, .inl (cI, 4, .inl (wA gw))), (i4, .inl (cI, 1500, .inl (wA fy))), (i5, .inl (cI, 1500, .inl (wA fu))), (i6, .inl (cI, 1500, .inl (wT ft))), (i7, .inl (cI, 1500, .inl (wA sv)))] := hD
    refine wi_if_ne hx hb d_Pk_feasible_25 rfl (by decide) (fun _ => ?_) (fun h => absurd h (by decide))
    refine lv_aload_n hx hb d_Pk_feasible_30 rfl (lv_at hl 0 rfl) ?_
    refine ck_i (wc := [(sb, .inr (3, [.ref i1, .ref i2, .ref i3, .int (nI n), .int (nI (pw_w f2 n)), .int (nI aw3), .ref i4, .ref i5, .int (nI uc), .ref i6, .ref i7])), (i3, .inl (cI, 4, .inl (wA gw))), (i2, .inl (cI, 4, .inl (wA gs))), (i4, .inl (cI, 1500, .inl (wA fy))), (i5, .inl (cI, 1500, .inl (wA fu)))]) (va_runV (As := []) (rest := []) (C := R_Sb) ⟨hx, hb, hml, hown, ht⟩ (c_Sb_startsSafe l Hs D cI cZ cL sb i1 i2 i3 i4 i5 i6 i7 n (pw_w f2 n) aw3 uc gs gw fy fu hok H.size) (gw_V 0 ht wd_254 wd_25 wd_251 wd_252 wd_253 (by decide +kernel) ⟨Nat.le_of_ble_eq_true rfl, Nat.le_of_ble_eq_true rfl⟩) (k_preV hE hAH hK hP hD hS [4, 7, 6, 8, 9] rfl rfl 4 rfl rfl) rfl rfl hl.1 rfl (lv_room (Nat.le_of_ble_eq_true rfl)) d_Pk_feasible_31 ⟨Nat.le_of_ble_eq_true rfl, Nat.le_of_ble_eq_true rfl⟩) hP hD hS hA [4, 7, 6, 8, 9] rfl rfl (fun r31 w1 H locs hpost hP hD hS => ?_)
    obtain ⟨r0, gy, gu, uc3, hye, hyb, hss, rfl, rfl⟩ := hpost
    have hP : va_P D kcl [(h, .inr (4, [.ref rb, .ref sb, .ref pr, .ref pl, .ref fo, .ref sa, .int (nI sw), .int (nI ax), .int (nI wi), .int (nI va), .int (nI sl)])), (pr, .inr (0, [.ref p1, .ref p2, .ref p3, .ref p4, .int (nI n)])), (p1, .inl (cI, 10, .inl (wA f1))), (p2, .inl (cI, 10, .inl (wA f2))), (sb, .inr (3, [.ref i1, .ref i2, .ref i3, .int (nI n), .int (nI (pw_w f2 n)), .int (nI aw3), .ref i4, .ref i5, .int (nI uc3), .ref i6, .ref i7])), (i1, .inl (cI, 4, .inl (wA gi))), (i2, .inl (cI, 4, .inl (wA gs))), (i3, .inl (cI, 4, .inl (wA gw))), (i4, .inl (cI, 1500, .inl (wA gy))), (i5, .inl (cI, 1500, .inl (wA gu))), (i6, .inl (cI, 1500, .inl (wT ft))), (i7, .inl (cI, 1500, .inl (wA sv)))] H := hP
    have hD : va_D A [(h, .inr (4, [.ref rb, .ref sb, .ref pr, .ref pl, .ref fo, .ref sa, .int (nI sw), .int (nI ax), .int (nI wi), .int (nI va), .int (nI sl)])), (pr, .inr (0, [.ref p1, .ref p2, .ref p3, .ref p4, .int (nI n)])), (p1, .inl (cI, 10, .inl (wA f1))), (p2, .inl (cI, 10, .inl (wA f2))), (sb, .inr (3, [.ref i1, .ref i2, .ref i3, .int (nI n), .int (nI (pw_w f2 n)), .int (nI aw3), .ref i4, .ref i5, .int (nI uc3), .ref i6, .ref i7])), (i1, .inl (cI, 4, .inl (wA gi))), (i2, .inl (cI, 4, .inl (wA gs))), (i3, .inl (cI, 4, .inl (wA gw))), (i4, .inl (cI, 1500, .inl (wA gy))), (i5, .inl (cI, 1500, .inl (wA gu))), (i6, .inl (cI, 1500, .inl (wT ft))), (i7, .inl (cI, 1500, .inl (wA sv)))] := hD
    have hgsw := sb_weigh hgs
    have hsfe : pw_safe n gs (pw_w f2 n - 1) ↔ pw_sf f2 n := by
      unfold pw_sf
      rw [pw_os_w]
      exact pw_safe_cg hgs _
    refine lv_if_eq hx hb d_Pk_feasible_34 rfl (fun h34 => ?_) (fun h34 => ?_)
    · refine lv_iconst (v := nI 0) hx hb d_Pk_feasible_41 (by decide) ?_
      have hnsf : ¬ pw_sf f2 n := fun z => by
        rcases hss with ⟨e, -⟩ | ⟨-, z2⟩
        · rw [e] at h34; exact absurd h34 (by decide)
        · exact z2 (hsfe.mpr z)
      exact k_reti hQ hx hb hr hlk hAe hK hP hD hS (Nat.le_of_ble_eq_true rfl) (Nat.le_of_ble_eq_true rfl) (Nat.le_of_ble_eq_true rfl) ⟨aw3, uc3, gi, gs, gw, gy, gu, nI 0, Or.inr ⟨rfl, hnsf⟩, rfl, rfl⟩ d_Pk_feasible_42
    · refine lv_iconst (v := nI 1) hx hb d_Pk_feasible_37 (by decide) ?_
      refine lv_goto hx hb d_Pk_feasible_38 rfl ?_
      have hsf : pw_sf f2 n := by
        rcases hss with ⟨-, z⟩ | ⟨e, -⟩
        · exact hsfe.mp z
        · exact absurd e h34
      exact k_reti hQ hx hb hr hlk hAe hK hP hD hS (Nat.le_of_ble_eq_true rfl) (Nat.le_of_ble_eq_true rfl) (Nat.le_of_ble_eq_true rfl) ⟨aw3, uc3, gi, gs, gw, gy, gu, nI 1, Or.inl ⟨rfl, hsf⟩, rfl, rfl⟩ d_Pk_feasible_42
  · exfalso; omega
set_option maxHeartbeats 4000000 in
set_option maxRecDepth 100000 in
theorem c_Pk_feasibleS0 (l : Launch) (Hs : Heap) (D : va_G) (cI cZ cL : ClassId) (h : Nat) (rb : Nat) (pr : Nat) (pl : Nat) (fo : Nat) (sa : Nat) (sw : Nat) (ax : Nat) (wi : Nat) (va : Nat) (sl : Nat) (p1 : Nat) (p2 : Nat) (p3 : Nat) (p4 : Nat) (n : Nat) (f1 : Nat → Nat) (f2 : Nat → Nat) (sb : Nat) (i1 : Nat) (i2 : Nat) (i3 : Nat) (i4 : Nat) (i5 : Nat) (i6 : Nat) (i7 : Nat) (K : Nat) (sc : Nat) (aw : Nat) (uc : Nat) (fi : Nat → Nat) (fy : Nat → Nat) (fu : Nat → Nat) (ft : Nat → Nat) (sv : Nat → Nat) (fs : Nat → Nat) (fw : Nat → Nat) (hn : n ≤ 10) (hn1 : 1 ≤ n) (hf2 : ∀ t, t < n → 0 < f2 t ∧ f2 t ≤ 40) (htk : ¬ pw_tk f2 n) : kI l Hs D kcl (ty3 cI cZ cL) y_Pk_feasible (mws y_Pk_feasible b_Pk_feasible 2 (Option.some Jvm.ClassFile.FieldType.int)) ({ frames := 2, cells := 0, slots := 0, locals := 44 } : Room) [.ref h] [(h, .inr (4, [.ref rb, .ref sb, .ref pr, .ref pl, .ref fo, .ref sa, .int (nI sw), .int (nI ax), .int (nI wi), .int (nI va), .int (nI sl)])), (pr, .inr (0, [.ref p1, .ref p2, .ref p3, .ref p4, .int (nI n)])), (p1, .inl (cI, 10, .inl (wA f1))), (p2, .inl (cI, 10, .inl (wA f2))), (sb, .inr (3, [.ref i1, .ref i2, .ref i3, .int (nI K), .int (nI sc), .int (nI aw), .ref i4, .ref i5, .int (nI uc), .ref i6, .ref i7])), (i1, .inl (cI, 4, .inl (wA fi))), (i2, .inl (cI, 4, .inl (wA fs))), (i3, .inl (cI, 4, .inl (wA fw))), (i4, .inl (cI, 1500, .inl (wA fy))), (i5, .inl (cI, 1500, .inl (wA fu))), (i6, .inl (cI, 1500, .inl (wT ft))), (i7, .inl (cI, 1500, .inl (wA sv)))] (fun r w => r = -1 ∧ w = [(h, .inr (4, [.ref rb, .ref sb, .ref pr, .ref pl, .ref fo, .ref sa, .int (nI sw), .int (nI ax), .int (nI wi), .int (nI va), .int (nI sl)])), (pr, .inr (0, [.ref p1, .ref p2, .ref p3, .ref p4, .int (nI n)])), (p1, .inl (cI, 10, .inl (wA f1))), (p2, .inl (cI, 10, .inl (wA f2))), (sb, .inr (3, [.ref i1, .ref i2, .ref i3, .int (nI K), .int (nI sc), .int (nI aw), .ref i4, .ref i5, .int (nI uc), .ref i6, .ref i7])), (i1, .inl (cI, 4, .inl (wA fi))), (i2, .inl (cI, 4, .inl (wA fs))), (i3, .inl (cI, 4, .inl (wA fw))), (i4, .inl (cI, 1500, .inl (wA fy))), (i5, .inl (cI, 1500, .inl (wA fu))), (i6, .inl (cI, 1500, .inl (wT ft))), (i7, .inl (cI, 1500, .inl (wA sv)))]) := by
  intro sz
  refine k_of (cc := b_Pk_feasible) (maxL := 2) (ret := (Option.some Jvm.ClassFile.FieldType.int)) (by decide) rfl (Nat.le_of_ble_eq_true rfl) ?_
  intro p e s m args below meth c ls H locs A Q hQ hx hb hml hr hts hown hlk hnm hsz hAe hP hK hD hS hA hE hAH hl
  have ht : ∀ w ∈ mw, w.before args s = true := fun w h => hts w (List.mem_cons_of_mem _ h)
  have hl : lv_has ls 2 [(0, .ref h)] := hl
  refine lv_aload_n hx hb d_Pk_feasible_0 rfl (lv_at hl 0 rfl) ?_
  refine va_get (D := D) (ci := 4) (v := .ref pr) (C := R_Pk) (T := T_Pk) (N := 11) hx hb ht u_Pk hown hK hP 0 rfl rfl 2 (by decide) (ht _ wd_86) (fun _ h9 => h9) rfl d_Pk_feasible_1 ?_
  refine ck_i (wc := [(pr, .inr (0, [.ref p1, .ref p2, .ref p3, .ref p4, .int (nI n)]))]) (va_runV (As := []) (rest := []) (C := R_Cl) ⟨hx, hb, hml, hown, ht⟩ (c_Cl_count l Hs D cI cZ cL pr p1 p2 p3 p4 n  H.size) (gw_V 0 ht wd_149 wd_3 wd_191 wd_147 wd_148 (by decide +kernel) ⟨Nat.le_of_ble_eq_true rfl, Nat.le_of_ble_eq_true rfl⟩) (k_preV hE hAH hK hP hD hS [1] rfl rfl 1 rfl rfl) rfl rfl hl.1 rfl (lv_room (Nat.le_of_ble_eq_true rfl)) d_Pk_feasible_4 ⟨Nat.le_of_ble_eq_true rfl, Nat.le_of_ble_eq_true rfl⟩) hP hD hS hA [1] rfl rfl (fun r4 w1 H locs hpost hP hD hS => ?_)
  obtain ⟨rfl, rfl⟩ := hpost
  have hP : va_P D kcl [(h, .inr (4, [.ref rb, .ref sb, .ref pr, .ref pl, .ref fo, .ref sa, .int (nI sw), .int (nI ax), .int (nI wi), .int (nI va), .int (nI sl)])), (pr, .inr (0, [.ref p1, .ref p2, .ref p3, .ref p4, .int (nI n)])), (p1, .inl (cI, 10, .inl (wA f1))), (p2, .inl (cI, 10, .inl (wA f2))), (sb, .inr (3, [.ref i1, .ref i2, .ref i3, .int (nI K), .int (nI sc), .int (nI aw), .ref i4, .ref i5, .int (nI uc), .ref i6, .ref i7])), (i1, .inl (cI, 4, .inl (wA fi))), (i2, .inl (cI, 4, .inl (wA fs))), (i3, .inl (cI, 4, .inl (wA fw))), (i4, .inl (cI, 1500, .inl (wA fy))), (i5, .inl (cI, 1500, .inl (wA fu))), (i6, .inl (cI, 1500, .inl (wT ft))), (i7, .inl (cI, 1500, .inl (wA sv)))] H := hP
  have hD : va_D A [(h, .inr (4, [.ref rb, .ref sb, .ref pr, .ref pl, .ref fo, .ref sa, .int (nI sw), .int (nI ax), .int (nI wi), .int (nI va), .int (nI sl)])), (pr, .inr (0, [.ref p1, .ref p2, .ref p3, .ref p4, .int (nI n)])), (p1, .inl (cI, 10, .inl (wA f1))), (p2, .inl (cI, 10, .inl (wA f2))), (sb, .inr (3, [.ref i1, .ref i2, .ref i3, .int (nI K), .int (nI sc), .int (nI aw), .ref i4, .ref i5, .int (nI uc), .ref i6, .ref i7])), (i1, .inl (cI, 4, .inl (wA fi))), (i2, .inl (cI, 4, .inl (wA fs))), (i3, .inl (cI, 4, .inl (wA fw))), (i4, .inl (cI, 1500, .inl (wA fy))), (i5, .inl (cI, 1500, .inl (wA fu))), (i6, .inl (cI, 1500, .inl (wT ft))), (i7, .inl (cI, 1500, .inl (wA sv)))] := hD
  refine wi_if_ne hx hb d_Pk_feasible_7 rfl (by omega) (fun h7 => ?_) (fun h7 => ?_)
  · refine lv_aload_n hx hb d_Pk_feasible_12 rfl (lv_at hl 0 rfl) ?_
    refine ck_r (wc := [(h, .inr (4, [.ref rb, .ref sb, .ref pr, .ref pl, .ref fo, .ref sa, .int (nI sw), .int (nI ax), .int (nI wi), .int (nI va), .int (nI sl)]))]) (va_runV (As := []) (rest := []) (C := R_Pk) ⟨hx, hb, hml, hown, ht⟩ (c_Pk_sb1 l Hs D cI cZ cL h rb pr pl fo sa sw ax wi va sl sb  H.size) (gw_V 0 ht wd_195 wd_1 wd_192 wd_194 ws_5 (by decide +kernel) ⟨Nat.le_of_ble_eq_true rfl, Nat.le_of_ble_eq_true rfl⟩) (k_preV hE hAH hK hP hD hS [0] rfl rfl 0 rfl rfl) rfl rfl hl.1 rfl (lv_room (Nat.le_of_ble_eq_true rfl)) d_Pk_feasible_13 ⟨Nat.le_of_ble_eq_true rfl, Nat.le_of_ble_eq_true rfl⟩) hP hD hS hA [0] rfl rfl (fun r13 w1 H locs hpost hP hD hS => ?_)
    obtain ⟨hr13, rfl⟩ := hpost
    subst r13
    have hP : va_P D kcl [(h, .inr (4, [.ref rb, .ref sb, .ref pr, .ref pl, .ref fo, .ref sa, .int (nI sw), .int (nI ax), .int (nI wi), .int (nI va), .int (nI sl)])), (pr, .inr (0, [.ref p1, .ref p2, .ref p3, .ref p4, .int (nI n)])), (p1, .inl (cI, 10, .inl (wA f1))), (p2, .inl (cI, 10, .inl (wA f2))), (sb, .inr (3, [.ref i1, .ref i2, .ref i3, .int (nI K), .int (nI sc), .int (nI aw), .ref i4, .ref i5, .int (nI uc), .ref i6, .ref i7])), (i1, .inl (cI, 4, .inl (wA fi))), (i2, .inl (cI, 4, .inl (wA fs))), (i3, .inl (cI, 4, .inl (wA fw))), (i4, .inl (cI, 1500, .inl (wA fy))), (i5, .inl (cI, 1500, .inl (wA fu))), (i6, .inl (cI, 1500, .inl (wT ft))), (i7, .inl (cI, 1500, .inl (wA sv)))] H := hP
    have hD : va_D A [(h, .inr (4, [.ref rb, .ref sb, .ref pr, .ref pl, .ref fo, .ref sa, .int (nI sw), .int (nI ax), .int (nI wi), .int (nI va), .int (nI sl)])), (pr, .inr (0, [.ref p1, .ref p2, .ref p3, .ref p4, .int (nI n)])), (p1, .inl (cI, 10, .inl (wA f1))), (p2, .inl (cI, 10, .inl (wA f2))), (sb, .inr (3, [.ref i1, .ref i2, .ref i3, .int (nI K), .int (nI sc), .int (nI aw), .ref i4, .ref i5, .int (nI uc), .ref i6, .ref i7])), (i1, .inl (cI, 4, .inl (wA fi))), (i2, .inl (cI, 4, .inl (wA fs))), (i3, .inl (cI, 4, .inl (wA fw))), (i4, .inl (cI, 1500, .inl (wA fy))), (i5, .inl (cI, 1500, .inl (wA fu))), (i6, .inl (cI, 1500, .inl (wT ft))), (i7, .inl (cI, 1500, .inl (wA sv)))] := hD
    refine lv_astore_n (lv' := [(1, .ref sb), (0, .ref h)]) hx hb d_Pk_feasible_16 rfl hl (by decide) rfl (fun ls hl => ?_)
    refine lv_aload_n hx hb d_Pk_feasible_17 rfl (lv_at hl 0 rfl) ?_
    refine lv_aload_n hx hb d_Pk_feasible_18 rfl (lv_at hl 1 rfl) ?_
    refine va_get (D := D) (ci := 4) (v := .ref pr) (C := R_Pk) (T := T_Pk) (N := 11) hx hb ht u_Pk hown hK hP 0 rfl rfl 2 (by decide) (ht _ wd_86) (fun _ h9 => h9) rfl d_Pk_feasible_19 ?_
    refine ck_i (wc := [(sb, .inr (3, [.ref i1, .ref i2, .ref i3, .int (nI K), .int (nI sc), .int (nI aw), .ref i4, .ref i5, .int (nI uc), .ref i6, .ref i7])), (i1, .inl (cI, 4, .inl (wA fi))), (i2, .inl (cI, 4, .inl (wA fs))), (i3, .inl (cI, 4, .inl (wA fw))), (pr, .inr (0, [.ref p1, .ref p2, .ref p3, .ref p4, .int (nI n)])), (p1, .inl (cI, 10, .inl (wA f1))), (p2, .inl (cI, 10, .inl (wA f2)))]) (va_runV (As := [.ref pr]) (rest := []) (C := R_Sb) ⟨hx, hb, hml, hown, ht⟩ (c_Sb_takes0 l Hs D cI cZ cL sb i1 i2 i3 i4 i5 i6 i7 K sc aw uc fi fs fw pr p1 p2 p3 p4 n f1 f2 hn hf2 htk H.size) (gw_V 1 ht wd_239 wd_25 wd_236 wd_237 wd_238 (by decide +kernel) ⟨Nat.le_of_ble_eq_true rfl, Nat.le_of_ble_eq_true rfl⟩) (k_preV hE hAH hK hP hD hS [4, 5, 6, 7, 1, 2, 3] rfl rfl 4 rfl rfl) rfl rfl hl.1 rfl (lv_room (Nat.le_of_ble_eq_true rfl)) d_Pk_feasible_22 ⟨Nat.le_of_ble_eq_true rfl, Nat.le_of_ble_eq_true rfl⟩) hP hD hS hA [4, 5, 6, 7, 1, 2, 3] rfl rfl (fun r22 w1 H locs hpost hP hD hS => ?_)
    obtain ⟨rfl, rfl⟩ := hpost
    have hP : va_P D kcl [(h, .inr (4, [.ref rb, .ref sb, .ref pr, .ref pl, .ref fo, .ref sa, .int (nI sw), .int (nI ax), .int (nI wi), .int (nI va), .int (nI sl)])), (pr, .inr (0, [.ref p1, .ref p2, .ref p3, .ref p4, .int (nI n)])), (p1, .inl (cI, 10, .inl (wA f1))), (p2, .inl (cI, 10, .inl (wA f2))), (sb, .inr (3, [.ref i1, .ref i2, .ref i3, .int (nI K), .int (nI sc), .int (nI aw), .ref i4, .ref i5, .int (nI uc), .ref i6, .ref i7])), (i1, .inl (cI, 4, .inl (wA fi))), (i2, .inl (cI, 4, .inl (wA fs))), (i3, .inl (cI, 4, .inl (wA fw))), (i4, .inl (cI, 1500, .inl (wA fy))), (i5, .inl (cI, 1500, .inl (wA fu))), (i6, .inl (cI, 1500, .inl (wT ft))), (i7, .inl (cI, 1500, .inl (wA sv)))] H := hP
    have hD : va_D A [(h, .inr (4, [.ref rb, .ref sb, .ref pr, .ref pl, .ref fo, .ref sa, .int (nI sw), .int (nI ax), .int (nI wi), .int (nI va), .int (nI sl)])), (pr, .inr (0, [.ref p1, .ref p2, .ref p3, .ref p4, .int (nI n)])), (p1, .inl (cI, 10, .inl (wA f1))), (p2, .inl (cI, 10, .inl (wA f2))), (sb, .inr (3, [.ref i1, .ref i2, .ref i3, .int (nI K), .int (nI sc), .int (nI aw), .ref i4, .ref i5, .int (nI uc), .ref i6, .ref i7])), (i1, .inl (cI, 4, .inl (wA fi))), (i2, .inl (cI, 4, .inl (wA fs))), (i3, .inl (cI, 4, .inl (wA fw))), (i4, .inl (cI, 1500, .inl (wA fy))), (i5, .inl (cI, 1500, .inl (wA fu))), (i6, .inl (cI, 1500, .inl (wT ft))), (i7, .inl (cI, 1500, .inl (wA sv)))] := hD
    refine wi_if_ne hx hb d_Pk_feasible_25 rfl (by decide) (fun h => absurd h (by decide)) (fun _ => ?_)
    refine lv_iconst (v := -1) hx hb d_Pk_feasible_28 (by decide) ?_
    exact k_reti hQ hx hb hr hlk hAe hK hP hD hS (Nat.le_of_ble_eq_true rfl) (Nat.le_of_ble_eq_true rfl) (Nat.le_of_ble_eq_true rfl) ⟨rfl, rfl⟩ d_Pk_feasible_29
  · exfalso; omega
