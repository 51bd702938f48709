/-! Cycle. -/
def pw_nxt (a L : Nat) : Nat := if a + 1 < L then a + 1 else 0
theorem pw_nxt_mod {a L : Nat} (h : a < L) : pw_nxt a L = (a + 1) % L := by
  unfold pw_nxt
  by_cases e : a + 1 < L
  · rw [if_pos e, Nat.mod_eq_of_lt e]
  · rw [if_neg e, show a + 1 = L by omega, Nat.mod_self]
theorem pw_ff_at {f : Nat → Nat} {L k : Nat} (hk : k < L) (h0 : f k = 0) : pw_ff f (L - k) k = k := by
  rw [show L - k = (L - k - 1) + 1 by omega]
  show (if f k = 0 then k else _) = k
  rw [if_pos h0]
theorem pw_ff_on {f : Nat → Nat} {L k : Nat} (hk : k < L) (h0 : 0 < f k) : pw_ff f (L - k) k = pw_ff f (L - (k + 1)) (k + 1) := by
  rw [show L - k = (L - (k + 1)) + 1 by omega]
  show (if f k = 0 then k else _) = _
  rw [if_neg (by omega)]
theorem pw_ff_end {f : Nat → Nat} {L k : Nat} (hk : L ≤ k) : pw_ff f (L - k) k = k := by
  rw [show L - k = 0 by omega]
  rfl
/-- the places so far -/
def pw_gp (ff k r v : Nat) (f : Nat → Nat) : Nat → Nat := fun j => if ff ≤ j ∧ j < k ∧ (j - ff) % r = 0 then v else f j
theorem pw_gp_0 {ff r v : Nat} {f : Nat → Nat} : f = pw_gp ff ff r v f := by
  funext j
  unfold pw_gp
  rw [if_neg (by omega)]
theorem pw_gp_up {ff k r v : Nat} {f : Nat → Nat} (hr : 0 < r) (hk : ff ≤ k) (hm : (k - ff) % r = 0) : va_up (pw_gp ff k r v f) k v = pw_gp ff (k + r) r v f := by
  funext j
  by_cases e : j = k
  · subst e
    rw [va_up_self]
    unfold pw_gp
    rw [if_pos ⟨hk, by omega, hm⟩]
  · rw [va_up_ne _ _ e]
    unfold pw_gp
    by_cases h : ff ≤ j ∧ j < k ∧ (j - ff) % r = 0
    · rw [if_pos h, if_pos ⟨h.1, by omega, h.2.2⟩]
    · rw [if_neg h, if_neg fun z => h ⟨z.1, ?_, z.2.2⟩]
      by_cases h2 : j < k
      · exact h2
      · exfalso
        obtain ⟨a, ha⟩ := Nat.dvd_of_mod_eq_zero hm
        obtain ⟨b, hb⟩ := Nat.dvd_of_mod_eq_zero z.2.2
        have h3 : r * a < r * b := by omega
        have h4 : r * b < r * (a + 1) := by rw [Nat.mul_succ]; omega
        have h5 := Nat.lt_of_mul_lt_mul_left h3
        have h6 := Nat.lt_of_mul_lt_mul_left h4
        omega
theorem pw_gp_m {ff k r : Nat} (hk : ff ≤ k) (hm : (k - ff) % r = 0) : (k + r - ff) % r = 0 := by
  rw [show k + r - ff = (k - ff) + r by omega, Nat.add_mod_right]
  exact hm
theorem pw_gp_end {ff k r v L : Nat} {f : Nat → Nat} (hff : ff = pw_ff f L 0) (hr : 0 < r) (hk : ff ≤ k) (hm : (k - ff) % r = 0) (hL : L ≤ k) (hl : k = ff ∨ k < L + r) : pw_gp ff k r v f = pw_gv L v r f := by
  funext j
  unfold pw_gp pw_gv
  rw [← hff]
  by_cases h : ff ≤ j ∧ j < L ∧ (j - ff) % r = 0
  · rw [if_pos h, if_pos ⟨h.1, by omega, h.2.2⟩]
  · rw [if_neg h, if_neg fun z => h ⟨z.1, ?_, z.2.2⟩]
    by_cases h2 : j < L
    · exact h2
    · exfalso
      obtain ⟨a, ha⟩ := Nat.dvd_of_mod_eq_zero hm
      obtain ⟨b, hb⟩ := Nat.dvd_of_mod_eq_zero z.2.2
      have h3 : r * b < r * a := by omega
      have h5 := Nat.lt_of_mul_lt_mul_left h3
      have h6 : r * (b + 1) ≤ r * a := Nat.mul_le_mul_left r h5
      rw [Nat.mul_succ] at h6
      omega
theorem wi_sle {a b k : Nat} (ha : a < 2 ^ 30) (hb : b < 2 ^ 30) (hk : k < 2 ^ 30) : nI a - nI b ≤ nI k ↔ a ≤ b + k := by
  rw [Int32.le_iff_toInt_le, pk_sub_toInt ha hb, nI_toInt (by omega)]
  omega
theorem wA_cpy {f g : Nat → Nat} {a d n : Nat} : va_cpy (wA f) (wA g) a d n = wA (va_cpy f g a d n) := by
  funext j
  by_cases h : d ≤ j ∧ j < d + n
  · simp only [va_cpy, wA, if_pos h]
  · simp only [va_cpy, wA, if_neg h]
/-- from p on each client comes in time -/
def pw_sea (n : Nat) (id sp wt : Nat → Nat) (L : Nat) (cy : Nat → Nat) (p : Nat) : Prop := ∀ k, k < n → ∃ d, wt k + d < sp k ∧ cy ((p + d) % L) = id k
set_option maxHeartbeats 4000000 in
set_option maxRecDepth 100000 in
theorem c_Cy_length (l : Launch) (Hs : Heap) (D : va_G) (cI cZ cL : ClassId) (h : Nat) (p0 : Nat) (L : Nat) (b : Nat) : kI l Hs D kcl (ty3 cI cZ cL) y_Cy_length (mws y_Cy_length b_Cy_length 1 (Option.some Jvm.ClassFile.FieldType.int)) ({ frames := 0, cells := 0, slots := 0, locals := 0 } : Room) [.ref h] [(h, .inr (1, [.ref p0, .int (nI L), .int (nI b)]))] (fun r w => r = nI L ∧ w = [(h, .inr (1, [.ref p0, .int (nI L), .int (nI b)]))]) := by
  intro sz
  refine k_of (cc := b_Cy_length) (maxL := 1) (ret := (Option.some Jvm.ClassFile.FieldType.int)) (by decide) rfl (Nat.le_of_ble_eq_true rfl) ?_
  intro p e s m args below meth c ls H locs A Q hQ hx hb hml hr hts hown hlk hnm hsz hAe hP hK hD hS hA hE hAH hl
  have ht : ∀ w ∈ mw, w.before args s = true := fun w h => hts w (List.mem_cons_of_mem _ h)
  have hl : lv_has ls 1 [(0, .ref h)] := hl
  refine lv_aload_n hx hb d_Cy_length_0 rfl (lv_at hl 0 rfl) ?_
  refine va_get (D := D) (ci := 1) (v := .int (nI L)) (C := R_Cy) (T := T_Cy) (N := 3) hx hb ht u_Cy hown hK hP 0 rfl rfl 1 (by decide) (ht _ wd_75) (fun _ h9 => h9) rfl d_Cy_length_1 ?_
  exact k_reti hQ hx hb hr hlk hAe hK hP hD hS (Nat.le_of_ble_eq_true rfl) (Nat.le_of_ble_eq_true rfl) (Nat.le_of_ble_eq_true rfl) ⟨rfl, rfl⟩ d_Cy_length_4
set_option maxHeartbeats 4000000 in
set_option maxRecDepth 100000 in
theorem c_Cy_builder (l : Launch) (Hs : Heap) (D : va_G) (cI cZ cL : ClassId) (h : Nat) (p0 : Nat) (L : Nat) (b : Nat) : kI l Hs D kcl (ty3 cI cZ cL) y_Cy_builder (mws y_Cy_builder b_Cy_builder 1 (Option.some Jvm.ClassFile.FieldType.int)) ({ frames := 0, cells := 0, slots := 0, locals := 0 } : Room) [.ref h] [(h, .inr (1, [.ref p0, .int (nI L), .int (nI b)]))] (fun r w => r = nI b ∧ w = [(h, .inr (1, [.ref p0, .int (nI L), .int (nI b)]))]) := by
  intro sz
  refine k_of (cc := b_Cy_builder) (maxL := 1) (ret := (Option.some Jvm.ClassFile.FieldType.int)) (by decide) rfl (Nat.le_of_ble_eq_true rfl) ?_
  intro p e s m args below meth c ls H locs A Q hQ hx hb hml hr hts hown hlk hnm hsz hAe hP hK hD hS hA hE hAH hl
  have ht : ∀ w ∈ mw, w.before args s = true := fun w h => hts w (List.mem_cons_of_mem _ h)
  have hl : lv_has ls 1 [(0, .ref h)] := hl
  refine lv_aload_n hx hb d_Cy_builder_0 rfl (lv_at hl 0 rfl) ?_
  refine va_get (D := D) (ci := 1) (v := .int (nI b)) (C := R_Cy) (T := T_Cy) (N := 3) hx hb ht u_Cy hown hK hP 0 rfl rfl 2 (by decide) (ht _ wd_76) (fun _ h9 => h9) rfl d_Cy_builder_1 ?_
  exact k_reti hQ hx hb hr hlk hAe hK hP hD hS (Nat.le_of_ble_eq_true rfl) (Nat.le_of_ble_eq_true rfl) (Nat.le_of_ble_eq_true rfl) ⟨rfl, rfl⟩ d_Cy_builder_4
set_option maxHeartbeats 4000000 in
set_option maxRecDepth 100000 in
theorem c_Cy_idAt (l : Launch) (Hs : Heap) (D : va_G) (cI cZ cL : ClassId) (h : Nat) (p0 : Nat) (M : Nat) (f : Nat → Nat) (L : Nat) (b : Nat) (k : Nat) (hk : k < M) (hM : M < 2 ^ 31) : kI l Hs D kcl (ty3 cI cZ cL) y_Cy_idAt (mws y_Cy_idAt b_Cy_idAt 2 (Option.some Jvm.ClassFile.FieldType.int)) ({ frames := 0, cells := 0, slots := 0, locals := 0 } : Room) [.ref h, .int (nI k)] [(h, .inr (1, [.ref p0, .int (nI L), .int (nI b)])), (p0, .inl (cI, M, .inl (wA f)))] (fun r w => r = nI (f k) ∧ w = [(h, .inr (1, [.ref p0, .int (nI L), .int (nI b)])), (p0, .inl (cI, M, .inl (wA f)))]) := by
  intro sz
  refine k_of (cc := b_Cy_idAt) (maxL := 2) (ret := (Option.some Jvm.ClassFile.FieldType.int)) (by decide) rfl (Nat.le_of_ble_eq_true rfl) ?_
  intro p e s m args below meth c ls H locs A Q hQ hx hb hml hr hts hown hlk hnm hsz hAe hP hK hD hS hA hE hAH hl
  have ht : ∀ w ∈ mw, w.before args s = true := fun w h => hts w (List.mem_cons_of_mem _ h)
  have hl : lv_has ls 2 [(0, .ref h), (1, .int (nI k))] := hl
  refine lv_aload_n hx hb d_Cy_idAt_0 rfl (lv_at hl 0 rfl) ?_
  refine va_get (D := D) (ci := 1) (v := .ref p0) (C := R_Cy) (T := T_Cy) (N := 3) hx hb ht u_Cy hown hK hP 0 rfl rfl 0 (by decide) (ht _ wd_74) (fun _ h9 => h9) rfl d_Cy_idAt_1 ?_
  refine lv_iload_n hx hb d_Cy_idAt_4 rfl (lv_at hl 1 rfl) ?_
  refine wi_ald hx hb hK hP 1 0 rfl rfl (by omega) (by omega) d_Cy_idAt_5 ?_
  exact k_reti hQ hx hb hr hlk hAe hK hP hD hS (Nat.le_of_ble_eq_true rfl) (Nat.le_of_ble_eq_true rfl) (Nat.le_of_ble_eq_true rfl) ⟨rfl, rfl⟩ d_Cy_idAt_6
set_option maxHeartbeats 4000000 in
set_option maxRecDepth 100000 in
theorem c_Cy_placeAfter (l : Launch) (Hs : Heap) (D : va_G) (cI cZ cL : ClassId) (h : Nat) (p0 : Nat) (L : Nat) (b : Nat) (k : Nat) (hk : k < 2 ^ 30) (hL : L < 2 ^ 30) : kI l Hs D kcl (ty3 cI cZ cL) y_Cy_placeAfter (mws y_Cy_placeAfter b_Cy_placeAfter 2 (Option.some Jvm.ClassFile.FieldType.int)) ({ frames := 0, cells := 0, slots := 0, locals := 0 } : Room) [.ref h, .int (nI k)] [(h, .inr (1, [.ref p0, .int (nI L), .int (nI b)]))] (fun r w => r = nI (pw_nxt k L) ∧ w = [(h, .inr (1, [.ref p0, .int (nI L), .int (nI b)]))]) := by
  intro sz
  refine k_of (cc := b_Cy_placeAfter) (maxL := 2) (ret := (Option.some Jvm.ClassFile.FieldType.int)) (by decide) rfl (Nat.le_of_ble_eq_true rfl) ?_
  intro p e s m args below meth c ls H locs A Q hQ hx hb hml hr hts hown hlk hnm hsz hAe hP hK hD hS hA hE hAH hl
  have ht : ∀ w ∈ mw, w.before args s = true := fun w h => hts w (List.mem_cons_of_mem _ h)
  have hl : lv_has ls 2 [(0, .ref h), (1, .int (nI k))] := hl
  refine lv_iload_n hx hb d_Cy_placeAfter_0 rfl (lv_at hl 1 rfl) ?_
  refine lv_iconst (v := nI 1) hx hb d_Cy_placeAfter_1 (by decide) ?_
  refine wi_add hx hb d_Cy_placeAfter_2 ?_
  refine lv_aload_n hx hb d_Cy_placeAfter_3 rfl (lv_at hl 0 rfl) ?_
  refine va_get (D := D) (ci := 1) (v := .int (nI L)) (C := R_Cy) (T := T_Cy) (N := 3) hx hb ht u_Cy hown hK hP 0 rfl rfl 1 (by decide) (ht _ wd_75) (fun _ h9 => h9) rfl d_Cy_placeAfter_4 ?_
  refine wi_ge hx hb d_Cy_placeAfter_7 rfl (by omega) (by omega) (fun h7 => ?_) (fun h7 => ?_)
  · refine lv_iconst (v := nI 0) hx hb d_Cy_placeAfter_16 (by decide) ?_
    exact k_reti hQ hx hb hr hlk hAe hK hP hD hS (Nat.le_of_ble_eq_true rfl) (Nat.le_of_ble_eq_true rfl) (Nat.le_of_ble_eq_true rfl) ⟨by rw [pw_nxt, if_neg (by omega)], rfl⟩ d_Cy_placeAfter_17
  · refine lv_iload_n hx hb d_Cy_placeAfter_10 rfl (lv_at hl 1 rfl) ?_
    refine lv_iconst (v := nI 1) hx hb d_Cy_placeAfter_11 (by decide) ?_
    refine wi_add hx hb d_Cy_placeAfter_12 ?_
    refine lv_goto hx hb d_Cy_placeAfter_13 rfl ?_
    exact k_reti hQ hx hb hr hlk hAe hK hP hD hS (Nat.le_of_ble_eq_true rfl) (Nat.le_of_ble_eq_true rfl) (Nat.le_of_ble_eq_true rfl) ⟨by rw [pw_nxt, if_pos (by omega)], rfl⟩ d_Cy_placeAfter_17
set_option maxHeartbeats 4000000 in
set_option maxRecDepth 100000 in
theorem c_Cy_setBuilder (l : Launch) (Hs : Heap) (D : va_G) (cI cZ cL : ClassId) (h : Nat) (p0 : Nat) (L : Nat) (b : Nat) (k : Nat) : kV l Hs D kcl (ty3 cI cZ cL) y_Cy_setBuilder (mws y_Cy_setBuilder b_Cy_setBuilder 2 (Option.none : Option Jvm.ClassFile.FieldType)) ({ frames := 0, cells := 0, slots := 0, locals := 0 } : Room) [.ref h, .int (nI k)] [(h, .inr (1, [.ref p0, .int (nI L), .int (nI b)]))] (fun w => w = [(h, .inr (1, [.ref p0, .int (nI L), .int (nI k)]))]) := by
  intro sz
  refine k_of (cc := b_Cy_setBuilder) (maxL := 2) (ret := (Option.none : Option Jvm.ClassFile.FieldType)) (by decide) rfl (Nat.le_of_ble_eq_true rfl) ?_
  intro p e s m args below meth c ls H locs A Q hQ hx hb hml hr hts hown hlk hnm hsz hAe hP hK hD hS hA hE hAH hl
  have ht : ∀ w ∈ mw, w.before args s = true := fun w h => hts w (List.mem_cons_of_mem _ h)
  have hl : lv_has ls 2 [(0, .ref h), (1, .int (nI k))] := hl
  refine lv_aload_n hx hb d_Cy_setBuilder_0 rfl (lv_at hl 0 rfl) ?_
  refine lv_iload_n hx hb d_Cy_setBuilder_1 rfl (lv_at hl 1 rfl) ?_
  refine va_put (D := D) (ci := 1) (v := .int (nI k)) (ty := .int) (C := R_Cy) (T := T_Cy) (N := 3) hx hb ht u_Cy t_Cy t_Cy_ok n_Cy hown hK hP hD hS 0 rfl rfl 2 (by decide) (ht _ wd_76) (fun _ h9 => h9) rfl (by decide +kernel) rfl rfl (Nat.le_of_ble_eq_true rfl) d_Cy_setBuilder_2 (fun H locs hP hD hS => ?_)
  have hP : va_P D kcl [(h, .inr (1, [.ref p0, .int (nI L), .int (nI k)]))] H := hP
  have hD : va_D A [(h, .inr (1, [.ref p0, .int (nI L), .int (nI k)]))] := hD
  exact k_retv hQ hx hb hr hlk hAe hK hP hD hS (Nat.le_of_ble_eq_true rfl) (Nat.le_of_ble_eq_true rfl) (Nat.le_of_ble_eq_true rfl) rfl d_Cy_setBuilder_5
set_option maxHeartbeats 4000000 in
set_option maxRecDepth 100000 in
theorem c_Cy_init (l : Launch) (Hs : Heap) (D : va_G) (cI cZ cL : ClassId) (h : Nat) : kV l Hs D kcl (ty3 cI cZ cL) y_Cy_init (mws y_Cy_init b_Cy_init 1 (Option.none : Option Jvm.ClassFile.FieldType)) ({ frames := 1, cells := 1, slots := 40, locals := 12 } : Room) [.ref h] [(h, .inr (1, [.null, .int (nI 0), .int (nI 0)]))] (fun w => ∃ (p0 : Nat), w = [(h, .inr (1, [.ref p0, .int (nI 1), .int (nI 0)])), (p0, .inl (cI, 40, .inl (wA (fun _ => 0))))]) := by
  intro sz
  refine k_of (cc := b_Cy_init) (maxL := 1) (ret := (Option.none : Option Jvm.ClassFile.FieldType)) (by decide) rfl (Nat.le_of_ble_eq_true rfl) ?_
  intro p e s m args below meth c ls H locs A Q hQ hx hb hml hr hts hown hlk hnm hsz hAe hP hK hD hS hA hE hAH hl
  have ht : ∀ w ∈ mw, w.before args s = true := fun w h => hts w (List.mem_cons_of_mem _ h)
  have hl : lv_has ls 1 [(0, .ref h)] := hl
  refine lv_aload_n hx hb d_Cy_init_0 rfl (lv_at hl 0 rfl) ?_
  refine W.objInit hx hb hown (ht _ wd_73) (ht _ wd_33) (ht _ wd_34) rfl (by rw [hml]; exact hl.1) rfl d_Cy_init_1 (Nat.le_of_ble_eq_true rfl) (Nat.le_of_ble_eq_true rfl) ?_
  refine W.eq (g2 := F0 m 4 ls []) rfl ?_
  refine lv_aload_n hx hb d_Cy_init_4 rfl (lv_at hl 0 rfl) ?_
  refine lv_bipush (v := nI 40) hx hb d_Cy_init_5 (by decide) ?_
  refine wi_newa (atype := .int) (a0 := (40, .inl (wA (fun _ => 0)))) (N' := 40) hx hb (ht _ wd_45) rfl (by decide) hK hP hD hS hA 0 rfl (fun _ => rfl) (by decide) rfl (by decide) (Nat.le_of_ble_eq_true rfl) (Nat.le_of_ble_eq_true rfl) d_Cy_init_7 (fun q7 H hP hD hS => ?_)
  have hP : va_P D kcl [(h, .inr (1, [.null, .int (nI 0), .int (nI 0)])), (q7, .inl (cI, 40, .inl (wA (fun _ => 0))))] H := hP
  have hD : va_D A [(h, .inr (1, [.null, .int (nI 0), .int (nI 0)])), (q7, .inl (cI, 40, .inl (wA (fun _ => 0))))] := hD
  refine W.widen (k := 1) (n := 40) (by decide) (by decide) ?_
  refine va_put (D := D) (ci := 1) (v := .ref q7) (ty := (.array .int)) (C := R_Cy) (T := T_Cy) (N := 3) hx hb ht u_Cy t_Cy t_Cy_ok n_Cy hown hK hP hD hS 0 rfl rfl 0 (by decide) (ht _ wd_74) (fun _ h9 => h9) rfl (by decide +kernel) rfl rfl (Nat.le_of_ble_eq_true rfl) d_Cy_init_9 (fun H locs hP hD hS => ?_)
  have hP : va_P D kcl [(h, .inr (1, [.ref q7, .int (nI 0), .int (nI 0)])), (q7, .inl (cI, 40, .inl (wA (fun _ => 0))))] H := hP
  have hD : va_D A [(h, .inr (1, [.ref q7, .int (nI 0), .int (nI 0)])), (q7, .inl (cI, 40, .inl (wA (fun _ => 0))))] := hD
  refine lv_aload_n hx hb d_Cy_init_12 rfl (lv_at hl 0 rfl) ?_
  refine lv_iconst (v := nI 1) hx hb d_Cy_init_13 (by decide) ?_
  refine va_put (D := D) (ci := 1) (v := .int (nI 1)) (ty := .int) (C := R_Cy) (T := T_Cy) (N := 3) hx hb ht u_Cy t_Cy t_Cy_ok n_Cy hown hK hP hD hS 0 rfl rfl 1 (by decide) (ht _ wd_75) (fun _ h9 => h9) rfl (by decide +kernel) rfl rfl (Nat.le_of_ble_eq_true rfl) d_Cy_init_14 (fun H locs hP hD hS => ?_)
  have hP : va_P D kcl [(h, .inr (1, [.ref q7, .int (nI 1), .int (nI 0)])), (q7, .inl (cI, 40, .inl (wA (fun _ => 0))))] H := hP
  have hD : va_D A [(h, .inr (1, [.ref q7, .int (nI 1), .int (nI 0)])), (q7, .inl (cI, 40, .inl (wA (fun _ => 0))))] := hD
  refine lv_aload_n hx hb d_Cy_init_17 rfl (lv_at hl 0 rfl) ?_
  refine lv_iconst (v := nI 0) hx hb d_Cy_init_18 (by decide) ?_
  refine va_put (D := D) (ci := 1) (v := .int (nI 0)) (ty := .int) (C := R_Cy) (T := T_Cy) (N := 3) hx hb ht u_Cy t_Cy t_Cy_ok n_Cy hown hK hP hD hS 0 rfl rfl 2 (by decide) (ht _ wd_76) (fun _ h9 => h9) rfl (by decide +kernel) rfl rfl (Nat.le_of_ble_eq_true rfl) d_Cy_init_19 (fun H locs hP hD hS => ?_)
  have hP : va_P D kcl [(h, .inr (1, [.ref q7, .int (nI 1), .int (nI 0)])), (q7, .inl (cI, 40, .inl (wA (fun _ => 0))))] H := hP
  have hD : va_D A [(h, .inr (1, [.ref q7, .int (nI 1), .int (nI 0)])), (q7, .inl (cI, 40, .inl (wA (fun _ => 0))))] := hD
  exact k_retv hQ hx hb hr hlk hAe hK hP hD hS (Nat.le_of_ble_eq_true rfl) (Nat.le_of_ble_eq_true rfl) (Nat.le_of_ble_eq_true rfl) ⟨q7, rfl⟩ d_Cy_init_22
set_option maxHeartbeats 4000000 in
set_option maxRecDepth 100000 in
theorem c_Cy_makeRoom (l : Launch) (Hs : Heap) (D : va_G) (cI cZ cL : ClassId) (h : Nat) (p0 : Nat) (M : Nat) (f : Nat → Nat) (L : Nat) (b : Nat) (k : Nat) (hk : k ≤ 1500) (hM : M ≤ 1500) : kV l Hs D kcl (ty3 cI cZ cL) y_Cy_makeRoom (mws y_Cy_makeRoom b_Cy_makeRoom 2 (Option.none : Option Jvm.ClassFile.FieldType)) ({ frames := 0, cells := 1, slots := 1500, locals := 0 } : Room) [.ref h, .int (nI k)] [(h, .inr (1, [.ref p0, .int (nI L), .int (nI b)])), (p0, .inl (cI, M, .inl (wA f)))] (fun w => ∃ (p2 : Nat), ∃ (M2 : Nat), ∃ (f2 : Nat → Nat), (k ≤ M2) ∧ (M2 ≤ 1500) ∧ (M ≤ M2) ∧ w = [(h, .inr (1, [.ref p2, .int (nI k), .int (nI b)])), (p2, .inl (cI, M2, .inl (wA f2)))]) := by
  intro sz
  refine k_of (cc := b_Cy_makeRoom) (maxL := 2) (ret := (Option.none : Option Jvm.ClassFile.FieldType)) (by decide) rfl (Nat.le_of_ble_eq_true rfl) ?_
  intro p e s m args below meth c ls H locs A Q hQ hx hb hml hr hts hown hlk hnm hsz hAe hP hK hD hS hA hE hAH hl
  have ht : ∀ w ∈ mw, w.before args s = true := fun w h => hts w (List.mem_cons_of_mem _ h)
  have hl : lv_has ls 2 [(0, .ref h), (1, .int (nI k))] := hl
  refine lv_iload_n hx hb d_Cy_makeRoom_0 rfl (lv_at hl 1 rfl) ?_
  refine lv_aload_n hx hb d_Cy_makeRoom_1 rfl (lv_at hl 0 rfl) ?_
  refine va_get (D := D) (ci := 1) (v := .ref p0) (C := R_Cy) (T := T_Cy) (N := 3) hx hb ht u_Cy hown hK hP 0 rfl rfl 0 (by decide) (ht _ wd_74) (fun _ h9 => h9) rfl d_Cy_makeRoom_2 ?_
  refine va_alen (v := nI M) hx hb hK hP 1 0 rfl rfl rfl d_Cy_makeRoom_5 ?_
  refine wi_le hx hb d_Cy_makeRoom_6 rfl (by omega) (by omega) (fun h6 => ?_) (fun h6 => ?_)
  · refine lv_aload_n hx hb d_Cy_makeRoom_16 rfl (lv_at hl 0 rfl) ?_
    refine lv_iload_n hx hb d_Cy_makeRoom_17 rfl (lv_at hl 1 rfl) ?_
    refine va_put (D := D) (ci := 1) (v := .int (nI k)) (ty := .int) (C := R_Cy) (T := T_Cy) (N := 3) hx hb ht u_Cy t_Cy t_Cy_ok n_Cy hown hK hP hD hS 0 rfl rfl 1 (by decide) (ht _ wd_75) (fun _ h9 => h9) rfl (by decide +kernel) rfl rfl (Nat.le_of_ble_eq_true rfl) d_Cy_makeRoom_18 (fun H locs hP hD hS => ?_)
    have hP : va_P D kcl [(h, .inr (1, [.ref p0, .int (nI k), .int (nI b)])), (p0, .inl (cI, M, .inl (wA f)))] H := hP
    have hD : va_D A [(h, .inr (1, [.ref p0, .int (nI k), .int (nI b)])), (p0, .inl (cI, M, .inl (wA f)))] := hD
    exact k_retv hQ hx hb hr hlk hAe hK hP hD hS (Nat.le_of_ble_eq_true rfl) (Nat.le_of_ble_eq_true rfl) (Nat.le_of_ble_eq_true rfl) ⟨p0, M, f, by omega, hM, Nat.le_refl _, rfl⟩ d_Cy_makeRoom_21
  · refine lv_aload_n hx hb d_Cy_makeRoom_9 rfl (lv_at hl 0 rfl) ?_
    refine lv_iload_n hx hb d_Cy_makeRoom_10 rfl (lv_at hl 1 rfl) ?_
    refine wi_newa (atype := .int) (a0 := (k, .inl (wA (fun _ => 0)))) (N' := k) hx hb (ht _ wd_45) rfl (by decide) hK hP hD hS hA 0 rfl (fun _ => rfl) (nI_pos (by omega)) (nI_clamp (by omega)) (show k * 4 ≤ 536870912 by omega) (Nat.le_of_ble_eq_true rfl) (show 0 + k ≤ 1500 by omega) d_Cy_makeRoom_11 (fun q11 H hP hD hS => ?_)
    have hP : va_P D kcl [(h, .inr (1, [.ref p0, .int (nI L), .int (nI b)])), (p0, .inl (cI, M, .inl (wA f))), (q11, .inl (cI, k, .inl (wA (fun _ => 0))))] H := hP
    have hD : va_D A [(h, .inr (1, [.ref p0, .int (nI L), .int (nI b)])), (p0, .inl (cI, M, .inl (wA f))), (q11, .inl (cI, k, .inl (wA (fun _ => 0))))] := hD
    refine W.widen (k := 1) (n := 1500) (by decide) (by omega) ?_
    refine va_put (D := D) (ci := 1) (v := .ref q11) (ty := (.array .int)) (C := R_Cy) (T := T_Cy) (N := 3) hx hb ht u_Cy t_Cy t_Cy_ok n_Cy hown hK hP hD hS 0 rfl rfl 0 (by decide) (ht _ wd_74) (fun _ h9 => h9) rfl (by decide +kernel) rfl rfl (Nat.le_of_ble_eq_true rfl) d_Cy_makeRoom_13 (fun H locs hP hD hS => ?_)
    have hP : va_P D kcl [(h, .inr (1, [.ref q11, .int (nI L), .int (nI b)])), (p0, .inl (cI, M, .inl (wA f))), (q11, .inl (cI, k, .inl (wA (fun _ => 0))))] H := hP
    have hD : va_D A [(h, .inr (1, [.ref q11, .int (nI L), .int (nI b)])), (p0, .inl (cI, M, .inl (wA f))), (q11, .inl (cI, k, .inl (wA (fun _ => 0))))] := hD
    refine lv_aload_n hx hb d_Cy_makeRoom_16 rfl (lv_at hl 0 rfl) ?_
    refine lv_iload_n hx hb d_Cy_makeRoom_17 rfl (lv_at hl 1 rfl) ?_
    refine va_put (D := D) (ci := 1) (v := .int (nI k)) (ty := .int) (C := R_Cy) (T := T_Cy) (N := 3) hx hb ht u_Cy t_Cy t_Cy_ok n_Cy hown hK hP hD hS 0 rfl rfl 1 (by decide) (ht _ wd_75) (fun _ h9 => h9) rfl (by decide +kernel) rfl rfl (Nat.le_of_ble_eq_true rfl) d_Cy_makeRoom_18 (fun H locs hP hD hS => ?_)
    have hP : va_P D kcl [(h, .inr (1, [.ref q11, .int (nI k), .int (nI b)])), (p0, .inl (cI, M, .inl (wA f))), (q11, .inl (cI, k, .inl (wA (fun _ => 0))))] H := hP
    have hD : va_D A [(h, .inr (1, [.ref q11, .int (nI k), .int (nI b)])), (p0, .inl (cI, M, .inl (wA f))), (q11, .inl (cI, k, .inl (wA (fun _ => 0))))] := hD
    have hP := hP.sub (ws' := [(h, .inr (1, [.ref q11, .int (nI k), .int (nI b)])), (q11, .inl (cI, k, .inl (wA (fun _ => 0))))]) [0, 2] rfl
    have hD := hD.sub (ws' := [(h, .inr (1, [.ref q11, .int (nI k), .int (nI b)])), (q11, .inl (cI, k, .inl (wA (fun _ => 0))))]) [0, 2] (by decide) rfl
    exact k_retv hQ hx hb hr hlk hAe hK hP hD hS (Nat.le_of_ble_eq_true rfl) (Nat.le_of_ble_eq_true rfl) (Nat.le_of_ble_eq_true rfl) ⟨q11, k, fun _ => 0, Nat.le_refl _, hk, by omega, rfl⟩ d_Cy_makeRoom_21
set_option maxHeartbeats 4000000 in
set_option maxRecDepth 100000 in
theorem c_Ar_rangeCheck (l : Launch) (Hs : Heap) (D : va_G) (cI cZ cL : ClassId) (n : Nat) (i : Nat) (j : Nat) (hij : i ≤ j) (hjn : j ≤ n) (hn : n < 2 ^ 31) : kV l Hs D kcl (ty3 cI cZ cL) y_Ar_rangeCheck (mws y_Ar_rangeCheck b_Ar_rangeCheck 3 (Option.none : Option Jvm.ClassFile.FieldType)) ({ frames := 0, cells := 0, slots := 0, locals := 0 } : Room) [.int (nI n), .int (nI i), .int (nI j)] [] (fun w => w = []) := by
  intro sz
  refine k_of (cc := b_Ar_rangeCheck) (maxL := 3) (ret := (Option.none : Option Jvm.ClassFile.FieldType)) (by decide) rfl (Nat.le_of_ble_eq_true rfl) ?_
  intro p e s m args below meth c ls H locs A Q hQ hx hb hml hr hts hown hlk hnm hsz hAe hP hK hD hS hA hE hAH hl
  have ht : ∀ w ∈ mw, w.before args s = true := fun w h => hts w (List.mem_cons_of_mem _ h)
  have hl : lv_has ls 3 [(0, .int (nI n)), (1, .int (nI i)), (2, .int (nI j))] := hl
  refine lv_iload_n hx hb d_Ar_rangeCheck_0 rfl (lv_at hl 1 rfl) ?_
  refine lv_iload_n hx hb d_Ar_rangeCheck_1 rfl (lv_at hl 2 rfl) ?_
  refine wi_le hx hb d_Ar_rangeCheck_2 rfl (by omega) (by omega) (fun h2 => ?_) (fun h2 => ?_)
  · refine lv_iload_n hx hb d_Ar_rangeCheck_46 rfl (lv_at hl 1 rfl) ?_
    refine wi_if_ge hx hb d_Ar_rangeCheck_47 rfl (by omega) ?_
    refine lv_iload_n hx hb d_Ar_rangeCheck_59 rfl (lv_at hl 2 rfl) ?_
    refine lv_iload_n hx hb d_Ar_rangeCheck_60 rfl (lv_at hl 0 rfl) ?_
    refine wi_le hx hb d_Ar_rangeCheck_61 rfl (by omega) (by omega) (fun h61 => ?_) (fun h61 => ?_)
    · exact k_retv hQ hx hb hr hlk hAe hK hP hD hS (Nat.le_of_ble_eq_true rfl) (Nat.le_of_ble_eq_true rfl) (Nat.le_of_ble_eq_true rfl) rfl d_Ar_rangeCheck_73
    · exfalso; omega
  · exfalso; omega
set_option maxHeartbeats 4000000 in
set_option maxRecDepth 100000 in
theorem c_Ar_fill (l : Launch) (Hs : Heap) (D : va_G) (cI cZ cL : ClassId) (a : Nat) (n : Nat) (f : Nat → Nat) (i : Nat) (j : Nat) (v : Nat) (hij : i ≤ j) (hjn : j ≤ n) (hn : n < 2 ^ 31) : kV l Hs D kcl (ty3 cI cZ cL) y_Ar_fill (mws y_Ar_fill b_Ar_fill 5 (Option.none : Option Jvm.ClassFile.FieldType)) ({ frames := 1, cells := 0, slots := 0, locals := 22 } : Room) [.ref a, .int (nI i), .int (nI j), .int (nI v)] [(a, .inl (cI, n, .inl (wA f)))] (fun w => ∃ (u : Nat → Nat), (∀ t, i ≤ t → t < j → u t = v) ∧ w = [(a, .inl (cI, n, .inl (wA u)))]) := by
  intro sz
  refine k_of (cc := b_Ar_fill) (maxL := 5) (ret := (Option.none : Option Jvm.ClassFile.FieldType)) (by decide) rfl (Nat.le_of_ble_eq_true rfl) ?_
  intro p e s m args below meth c ls H locs A Q hQ hx hb hml hr hts hown hlk hnm hsz hAe hP hK hD hS hA hE hAH hl
  have ht : ∀ w ∈ mw, w.before args s = true := fun w h => hts w (List.mem_cons_of_mem _ h)
  have hl : lv_has ls 5 [(0, .ref a), (1, .int (nI i)), (2, .int (nI j)), (3, .int (nI v))] := hl
  refine lv_aload_n hx hb d_Ar_fill_0 rfl (lv_at hl 0 rfl) ?_
  refine va_alen (v := nI n) hx hb hK hP 0 0 rfl rfl rfl d_Ar_fill_1 ?_
  refine lv_iload_n hx hb d_Ar_fill_2 rfl (lv_at hl 1 rfl) ?_
  refine lv_iload_n hx hb d_Ar_fill_3 rfl (lv_at hl 2 rfl) ?_
  refine ck_v (wc := []) (va_runS (As := [.int (nI n), .int (nI i), .int (nI j)]) (rest := []) ⟨hx, hb, hml, hown, ht⟩ (c_Ar_rangeCheck l Hs D cI cZ cL n i j hij hjn hn H.size) (gw_S 3 ht wd_433 wd_13 wd_431 wd_432 (by decide +kernel) ⟨Nat.le_of_ble_eq_true rfl, Nat.le_of_ble_eq_true rfl⟩) (k_preS hE hAH hK hP hD hS [] rfl rfl) rfl rfl hl.1 rfl (lv_room (Nat.le_of_ble_eq_true rfl)) d_Ar_fill_4 ⟨Nat.le_of_ble_eq_true rfl, Nat.le_of_ble_eq_true rfl⟩) hP hD hS hA [] rfl rfl (fun w1 H locs hpost hP hD hS => ?_)
  obtain rfl := hpost
  have hP : va_P D kcl [(a, .inl (cI, n, .inl (wA f)))] H := hP
  have hD : va_D A [(a, .inl (cI, n, .inl (wA f)))] := hD
  refine lv_iload_n hx hb d_Ar_fill_7 rfl (lv_at hl 1 rfl) ?_
  refine lv_istore (lv' := [(4, .int (nI i)), (0, .ref a), (1, .int (nI i)), (2, .int (nI j)), (3, .int (nI v))]) hx hb d_Ar_fill_8 hl (by decide) rfl (fun ls hl => ?_)
  have loop10 : ∀ (d : Nat) (k : Nat) (u : Nat → Nat) (ls : Array Slot) (H : Heap) (locs : List Loc), j - k = d → (k ≤ j) → (i ≤ k) → (∀ t, i ≤ t → t < k → u t = v) → lv_has ls 5 [(0, .ref a), (1, .int (nI i)), (2, .int (nI j)), (3, .int (nI v)), (4, .int (nI k))] → va_P D kcl [(a, .inl (cI, n, .inl (wA u)))] H → va_D A [(a, .inl (cI, n, .inl (wA u)))] → va_S A s.heap H locs → W p l e ({ frames := 1, cells := 0, slots := 0, locals := 22 } : Room) s m args below meth c H locs 0 0 Q (F0 m 10 ls []) := by
    intro d
    induction d using Nat.strongRecOn with
    | ind d ih10 =>
      intro k u ls H locs hd10 hk hik hu hl hP hD hS
      refine lv_iload hx hb d_Ar_fill_10 (lv_at hl 4 rfl) ?_
      refine lv_iload_n hx hb d_Ar_fill_12 rfl (lv_at hl 2 rfl) ?_
      refine wi_ge hx hb d_Ar_fill_13 rfl (by omega) (by omega) (fun h13 => ?_) (fun h13 => ?_)
      · exact k_retv hQ hx hb hr hlk hAe hK hP hD hS (Nat.le_of_ble_eq_true rfl) (Nat.le_of_ble_eq_true rfl) (Nat.le_of_ble_eq_true rfl) ⟨u, fun t h1 h2 => hu t h1 (by omega), rfl⟩ d_Ar_fill_27
      · refine lv_aload_n hx hb d_Ar_fill_16 rfl (lv_at hl 0 rfl) ?_
        refine lv_iload hx hb d_Ar_fill_17 (lv_at hl 4 rfl) ?_
        refine lv_iload_n hx hb d_Ar_fill_19 rfl (lv_at hl 3 rfl) ?_
        refine wi_ast hx hb hK hP hD hS 0 0 rfl rfl (by omega) (by omega) d_Ar_fill_20 (fun H locs hP hD hS => ?_)
        have hP : va_P D kcl [(a, .inl (cI, n, .inl (wA (va_up u k v))))] H := hP
        have hD : va_D A [(a, .inl (cI, n, .inl (wA (va_up u k v))))] := hD
        refine wi_inc (k := 4) (lv' := [(4, .int (nI (k + 1))), (0, .ref a), (1, .int (nI i)), (2, .int (nI j)), (3, .int (nI v))]) hx hb d_Ar_fill_21 hl rfl (by decide) rfl (fun ls hl => ?_)
        refine lv_goto hx hb d_Ar_fill_24 rfl ?_
        exact ih10 (j - (k + 1)) (by omega) (k + 1) (va_up u k v) ls H locs rfl (by omega) (by omega) (fun t h1 h2 => by
    by_cases e : t = k
    · rw [e, va_up_self]
    · rw [va_up_ne _ _ e]; exact hu t h1 (by omega)) (lv_sub hl [1, 2, 3, 4, 0] rfl) hP hD hS
  exact loop10 _ (i) (f) ls H locs rfl hij (Nat.le_refl _) (fun t h1 h2 => by omega) (lv_sub hl [1, 2, 3, 4, 0] rfl) hP hD hS
set_option maxHeartbeats 4000000 in
set_option maxRecDepth 100000 in
theorem c_Cy_clear (l : Launch) (Hs : Heap) (D : va_G) (cI cZ cL : ClassId) (h : Nat) (p0 : Nat) (M : Nat) (f : Nat → Nat) (L : Nat) (b : Nat) (k : Nat) (hk : k ≤ 1500) (hM : M ≤ 1500) : kV l Hs D kcl (ty3 cI cZ cL) y_Cy_clear (mws y_Cy_clear b_Cy_clear 2 (Option.none : Option Jvm.ClassFile.FieldType)) ({ frames := 2, cells := 1, slots := 1500, locals := 46 } : Room) [.ref h, .int (nI k)] [(h, .inr (1, [.ref p0, .int (nI L), .int (nI b)])), (p0, .inl (cI, M, .inl (wA f)))] (fun w => ∃ (p2 : Nat), ∃ (M2 : Nat), ∃ (f2 : Nat → Nat), (k ≤ M2) ∧ (M2 ≤ 1500) ∧ (M ≤ M2) ∧ (∀ t, t < k → f2 t = 0) ∧ w = [(h, .inr (1, [.ref p2, .int (nI k), .int (nI b)])), (p2, .inl (cI, M2, .inl (wA f2)))]) := by
  intro sz
  refine k_of (cc := b_Cy_clear) (maxL := 2) (ret := (Option.none : Option Jvm.ClassFile.FieldType)) (by decide) rfl (Nat.le_of_ble_eq_true rfl) ?_
  intro p e s m args below meth c ls H locs A Q hQ hx hb hml hr hts hown hlk hnm hsz hAe hP hK hD hS hA hE hAH hl
  have ht : ∀ w ∈ mw, w.before args s = true := fun w h => hts w (List.mem_cons_of_mem _ h)
  have hl : lv_has ls 2 [(0, .ref h), (1, .int (nI k))] := hl
  refine lv_aload_n hx hb d_Cy_clear_0 rfl (lv_at hl 0 rfl) ?_
  refine lv_iload_n hx hb d_Cy_clear_1 rfl (lv_at hl 1 rfl) ?_
  refine ck_v (wc := [(h, .inr (1, [.ref p0, .int (nI L), .int (nI b)])), (p0, .inl (cI, M, .inl (wA f)))]) (va_runV (As := [.int (nI k)]) (rest := []) (C := R_Cy) ⟨hx, hb, hml, hown, ht⟩ (c_Cy_makeRoom l Hs D cI cZ cL h p0 M f L b k hk hM H.size) (gw_V 1 ht wd_427 wd_4 wd_424 wd_426 ws_19 (by decide +kernel) ⟨Nat.le_of_ble_eq_true rfl, Nat.le_of_ble_eq_true rfl⟩) (k_preV hE hAH hK hP hD hS [0, 1] rfl rfl 0 rfl rfl) rfl rfl hl.1 rfl (lv_room (Nat.le_of_ble_eq_true rfl)) d_Cy_clear_2 ⟨Nat.le_of_ble_eq_true rfl, Nat.le_of_ble_eq_true rfl⟩) hP hD hS hA [0, 1] rfl rfl (fun w1 H locs hpost hP hD hS => ?_)
  obtain ⟨p2, M2, f2, hk2, hM2, hMM, rfl⟩ := hpost
  have hP : va_P D kcl [(h, .inr (1, [.ref p2, .int (nI k), .int (nI b)])), (p2, .inl (cI, M2, .inl (wA f2)))] H := hP
  have hD : va_D A [(h, .inr (1, [.ref p2, .int (nI k), .int (nI b)])), (p2, .inl (cI, M2, .inl (wA f2)))] := hD
  refine W.widen (k := 1) (n := 1500) (by decide) (by decide) ?_
  refine lv_aload_n hx hb d_Cy_clear_5 rfl (lv_at hl 0 rfl) ?_
  refine va_get (D := D) (ci := 1) (v := .ref p2) (C := R_Cy) (T := T_Cy) (N := 3) hx hb ht u_Cy hown hK hP 0 rfl rfl 0 (by decide) (ht _ wd_74) (fun _ h9 => h9) rfl d_Cy_clear_6 ?_
  refine lv_iconst (v := nI 0) hx hb d_Cy_clear_9 (by decide) ?_
  refine lv_aload_n hx hb d_Cy_clear_10 rfl (lv_at hl 0 rfl) ?_
  refine va_get (D := D) (ci := 1) (v := .int (nI k)) (C := R_Cy) (T := T_Cy) (N := 3) hx hb ht u_Cy hown hK hP 0 rfl rfl 1 (by decide) (ht _ wd_75) (fun _ h9 => h9) rfl d_Cy_clear_11 ?_
  refine lv_iconst (v := nI 0) hx hb d_Cy_clear_14 (by decide) ?_
  refine ck_v (wc := [(p2, .inl (cI, M2, .inl (wA f2)))]) (va_runS (As := [.ref p2, .int (nI 0), .int (nI k), .int (nI 0)]) (rest := []) ⟨hx, hb, hml, hown, ht⟩ (c_Ar_fill l Hs D cI cZ cL p2 M2 f2 0 k 0 (Nat.zero_le _) hk2 (by omega) H.size) (gw_S 4 ht wd_430 wd_13 wd_428 wd_429 (by decide +kernel) ⟨Nat.le_of_ble_eq_true rfl, Nat.le_of_ble_eq_true rfl⟩) (k_preS hE hAH hK hP hD hS [1] rfl rfl) rfl rfl hl.1 rfl (lv_room (Nat.le_of_ble_eq_true rfl)) d_Cy_clear_15 ⟨Nat.le_of_ble_eq_true rfl, Nat.le_of_ble_eq_true rfl⟩) hP hD hS hA [1] rfl rfl (fun w1 H locs hpost hP hD hS => ?_)
  obtain ⟨u, hu, rfl⟩ := hpost
  have hP : va_P D kcl [(h, .inr (1, [.ref p2, .int (nI k), .int (nI b)])), (p2, .inl (cI, M2, .inl (wA u)))] H := hP
  have hD : va_D A [(h, .inr (1, [.ref p2, .int (nI k), .int (nI b)])), (p2, .inl (cI, M2, .inl (wA u)))] := hD
  exact k_retv hQ hx hb hr hlk hAe hK hP hD hS (Nat.le_of_ble_eq_true rfl) (Nat.le_of_ble_eq_true rfl) (Nat.le_of_ble_eq_true rfl) ⟨p2, M2, u, hk2, hM2, hMM, fun t h9 => hu t (Nat.zero_le _) h9, rfl⟩ d_Cy_clear_18
set_option maxHeartbeats 4000000 in
set_option maxRecDepth 100000 in
theorem c_Cy_firstFree (l : Launch) (Hs : Heap) (D : va_G) (cI cZ cL : ClassId) (h : Nat) (p0 : Nat) (M : Nat) (f : Nat → Nat) (L : Nat) (b : Nat) (hM : L ≤ M) (hM2 : M ≤ 1500) (hf : ∀ t, t < L → f t < 2 ^ 31) : kI l Hs D kcl (ty3 cI cZ cL) y_Cy_firstFree (mws y_Cy_firstFree b_Cy_firstFree 2 (Option.some Jvm.ClassFile.FieldType.int)) ({ frames := 0, cells := 0, slots := 0, locals := 0 } : Room) [.ref h] [(h, .inr (1, [.ref p0, .int (nI L), .int (nI b)])), (p0, .inl (cI, M, .inl (wA f)))] (fun r w => r = nI (pw_ff f L 0) ∧ w = [(h, .inr (1, [.ref p0, .int (nI L), .int (nI b)])), (p0, .inl (cI, M, .inl (wA f)))]) := by
  intro sz
  refine k_of (cc := b_Cy_firstFree) (maxL := 2) (ret := (Option.some Jvm.ClassFile.FieldType.int)) (by decide) rfl (Nat.le_of_ble_eq_true rfl) ?_
  intro p e s m args below meth c ls H locs A Q hQ hx hb hml hr hts hown hlk hnm hsz hAe hP hK hD hS hA hE hAH hl
  have ht : ∀ w ∈ mw, w.before args s = true := fun w h => hts w (List.mem_cons_of_mem _ h)
  have hl : lv_has ls 2 [(0, .ref h)] := hl
  refine lv_iconst (v := nI 0) hx hb d_Cy_firstFree_0 (by decide) ?_
  refine lv_istore_n (lv' := [(1, .int (nI 0)), (0, .ref h)]) hx hb d_Cy_firstFree_1 rfl hl (by decide) rfl (fun ls hl => ?_)
  have loop2 : ∀ (d : Nat) (k : Nat) (ls : Array Slot) (H : Heap) (locs : List Loc), L - k = d → (k ≤ L) → (pw_ff f L 0 = pw_ff f (L - k) k) → lv_has ls 2 [(0, .ref h), (1, .int (nI k))] → va_P D kcl [(h, .inr (1, [.ref p0, .int (nI L), .int (nI b)])), (p0, .inl (cI, M, .inl (wA f)))] H → va_D A [(h, .inr (1, [.ref p0, .int (nI L), .int (nI b)])), (p0, .inl (cI, M, .inl (wA f)))] → va_S A s.heap H locs → W p l e ({ frames := 0, cells := 0, slots := 0, locals := 0 } : Room) s m args below meth c H locs 0 0 Q (F0 m 2 ls []) := by
    intro d
    induction d using Nat.strongRecOn with
    | ind d ih2 =>
      intro k ls H locs hd2 hk hff hl hP hD hS
      refine lv_iload_n hx hb d_Cy_firstFree_2 rfl (lv_at hl 1 rfl) ?_
      refine lv_aload_n hx hb d_Cy_firstFree_3 rfl (lv_at hl 0 rfl) ?_
      refine va_get (D := D) (ci := 1) (v := .int (nI L)) (C := R_Cy) (T := T_Cy) (N := 3) hx hb ht u_Cy hown hK hP 0 rfl rfl 1 (by decide) (ht _ wd_75) (fun _ h9 => h9) rfl d_Cy_firstFree_4 ?_
      refine wi_ge hx hb d_Cy_firstFree_7 rfl (by omega) (by omega) (fun h7 => ?_) (fun h7 => ?_)
      · refine lv_iload_n hx hb d_Cy_firstFree_25 rfl (lv_at hl 1 rfl) ?_
        exact k_reti hQ hx hb hr hlk hAe hK hP hD hS (Nat.le_of_ble_eq_true rfl) (Nat.le_of_ble_eq_true rfl) (Nat.le_of_ble_eq_true rfl) ⟨by rw [hff, pw_ff_end h7], rfl⟩ d_Cy_firstFree_26
      · refine lv_aload_n hx hb d_Cy_firstFree_10 rfl (lv_at hl 0 rfl) ?_
        refine va_get (D := D) (ci := 1) (v := .ref p0) (C := R_Cy) (T := T_Cy) (N := 3) hx hb ht u_Cy hown hK hP 0 rfl rfl 0 (by decide) (ht _ wd_74) (fun _ h9 => h9) rfl d_Cy_firstFree_11 ?_
        refine lv_iload_n hx hb d_Cy_firstFree_14 rfl (lv_at hl 1 rfl) ?_
        refine wi_ald hx hb hK hP 1 0 rfl rfl (by omega) (by omega) d_Cy_firstFree_15 ?_
        refine wi_if_eq hx hb d_Cy_firstFree_16 rfl (hf k h7) (fun h16 => ?_) (fun h16 => ?_)
        · refine lv_iload_n hx hb d_Cy_firstFree_25 rfl (lv_at hl 1 rfl) ?_
          exact k_reti hQ hx hb hr hlk hAe hK hP hD hS (Nat.le_of_ble_eq_true rfl) (Nat.le_of_ble_eq_true rfl) (Nat.le_of_ble_eq_true rfl) ⟨by rw [hff, pw_ff_at h7 h16], rfl⟩ d_Cy_firstFree_26
        · refine wi_inc (k := 1) (lv' := [(1, .int (nI (k + 1))), (0, .ref h)]) hx hb d_Cy_firstFree_19 hl rfl (by decide) rfl (fun ls hl => ?_)
          refine lv_goto hx hb d_Cy_firstFree_22 rfl ?_
          exact ih2 (L - (k + 1)) (by omega) (k + 1) ls H locs rfl (by omega) (hff.trans (pw_ff_on h7 h16)) (lv_sub hl [1, 0] rfl) hP hD hS
  exact loop2 _ (0) ls H locs rfl (Nat.zero_le _) rfl (lv_sub hl [1, 0] rfl) hP hD hS
set_option maxHeartbeats 4000000 in
set_option maxRecDepth 100000 in
theorem c_Cy_giveTo (l : Launch) (Hs : Heap) (D : va_G) (cI cZ cL : ClassId) (h : Nat) (p0 : Nat) (M : Nat) (f : Nat → Nat) (L : Nat) (b : Nat) (v : Nat) (r : Nat) (hM : L ≤ M) (hM2 : M ≤ 1500) (hf : ∀ t, t < L → f t < 2 ^ 31) (hr0 : 0 < r) (hr1 : r ≤ 1500) : kV l Hs D kcl (ty3 cI cZ cL) y_Cy_giveTo (mws y_Cy_giveTo b_Cy_giveTo 4 (Option.none : Option Jvm.ClassFile.FieldType)) ({ frames := 1, cells := 0, slots := 0, locals := 21 } : Room) [.ref h, .int (nI v), .int (nI r)] [(h, .inr (1, [.ref p0, .int (nI L), .int (nI b)])), (p0, .inl (cI, M, .inl (wA f)))] (fun w => w = [(h, .inr (1, [.ref p0, .int (nI L), .int (nI b)])), (p0, .inl (cI, M, .inl (wA (pw_gv L v r f))))]) := by
  intro sz
  refine k_of (cc := b_Cy_giveTo) (maxL := 4) (ret := (Option.none : Option Jvm.ClassFile.FieldType)) (by decide) rfl (Nat.le_of_ble_eq_true rfl) ?_
  intro p e s m args below meth c ls H locs A Q hQ hx hb hml hr hts hown hlk hnm hsz hAe hP hK hD hS hA hE hAH hl
  have ht : ∀ w ∈ mw, w.before args s = true := fun w h => hts w (List.mem_cons_of_mem _ h)
  have hl : lv_has ls 4 [(0, .ref h), (1, .int (nI v)), (2, .int (nI r))] := hl
  refine lv_aload_n hx hb d_Cy_giveTo_0 rfl (lv_at hl 0 rfl) ?_
  refine ck_i (wc := [(h, .inr (1, [.ref p0, .int (nI L), .int (nI b)])), (p0, .inl (cI, M, .inl (wA f)))]) (va_runV (As := []) (rest := []) (C := R_Cy) ⟨hx, hb, hml, hown, ht⟩ (c_Cy_firstFree l Hs D cI cZ cL h p0 M f L b hM hM2 hf H.size) (gw_V 0 ht wd_720 wd_4 wd_717 wd_719 ws_21 (by decide +kernel) ⟨Nat.le_of_ble_eq_true rfl, Nat.le_of_ble_eq_true rfl⟩) (k_preV hE hAH hK hP hD hS [0, 1] rfl rfl 0 rfl rfl) rfl rfl hl.1 rfl (lv_room (Nat.le_of_ble_eq_true rfl)) d_Cy_giveTo_1 ⟨Nat.le_of_ble_eq_true rfl, Nat.le_of_ble_eq_true rfl⟩) hP hD hS hA [0, 1] rfl rfl (fun r1 w1 H locs hpost hP hD hS => ?_)
  obtain ⟨rfl, rfl⟩ := hpost
  have hP : va_P D kcl [(h, .inr (1, [.ref p0, .int (nI L), .int (nI b)])), (p0, .inl (cI, M, .inl (wA f)))] H := hP
  have hD : va_D A [(h, .inr (1, [.ref p0, .int (nI L), .int (nI b)])), (p0, .inl (cI, M, .inl (wA f)))] := hD
  generalize hffe : pw_ff f L 0 = ff
  have hffl : ff ≤ L := by have := (pw_ff_spec f L 0).2.1; omega
  refine lv_istore_n (lv' := [(3, .int (nI ff)), (0, .ref h), (1, .int (nI v)), (2, .int (nI r))]) hx hb d_Cy_giveTo_4 rfl hl (by decide) rfl (fun ls hl => ?_)
  have loop5 : ∀ (d : Nat) (k : Nat) (u : Nat → Nat) (ls : Array Slot) (H : Heap) (locs : List Loc), L + r - k = d → (ff ≤ k) → ((k - ff) % r = 0) → (k = ff ∨ k < L + r) → (u = pw_gp ff k r v f) → lv_has ls 4 [(0, .ref h), (1, .int (nI v)), (2, .int (nI r)), (3, .int (nI k))] → va_P D kcl [(h, .inr (1, [.ref p0, .int (nI L), .int (nI b)])), (p0, .inl (cI, M, .inl (wA u)))] H → va_D A [(h, .inr (1, [.ref p0, .int (nI L), .int (nI b)])), (p0, .inl (cI, M, .inl (wA u)))] → va_S A s.heap H locs → W p l e ({ frames := 1, cells := 0, slots := 0, locals := 21 } : Room) s m args below meth c H locs 0 0 Q (F0 m 5 ls []) := by
    intro d
    induction d using Nat.strongRecOn with
    | ind d ih5 =>
      intro k u ls H locs hd5 hk hm hl2 hu hl hP hD hS
      refine lv_iload_n hx hb d_Cy_giveTo_5 rfl (lv_at hl 2 rfl) ?_
      refine wi_if_le hx hb d_Cy_giveTo_6 rfl (by omega) (fun h6 => ?_) (fun h6 => ?_)
      · exfalso; omega
      · refine lv_iload_n hx hb d_Cy_giveTo_9 rfl (lv_at hl 3 rfl) ?_
        refine lv_aload_n hx hb d_Cy_giveTo_10 rfl (lv_at hl 0 rfl) ?_
        refine va_get (D := D) (ci := 1) (v := .int (nI L)) (C := R_Cy) (T := T_Cy) (N := 3) hx hb ht u_Cy hown hK hP 0 rfl rfl 1 (by decide) (ht _ wd_75) (fun _ h9 => h9) rfl d_Cy_giveTo_11 ?_
        refine wi_ge hx hb d_Cy_giveTo_14 rfl (by omega) (by omega) (fun h14 => ?_) (fun h14 => ?_)
        · have hu2 : u = pw_gv L v r f := by rw [hu]; exact pw_gp_end hffe.symm hr0 hk hm (by omega) hl2
          subst hu2
          exact k_retv hQ hx hb hr hlk hAe hK hP hD hS (Nat.le_of_ble_eq_true rfl) (Nat.le_of_ble_eq_true rfl) (Nat.le_of_ble_eq_true rfl) rfl d_Cy_giveTo_31
        · refine lv_aload_n hx hb d_Cy_giveTo_17 rfl (lv_at hl 0 rfl) ?_
          refine va_get (D := D) (ci := 1) (v := .ref p0) (C := R_Cy) (T := T_Cy) (N := 3) hx hb ht u_Cy hown hK hP 0 rfl rfl 0 (by decide) (ht _ wd_74) (fun _ h9 => h9) rfl d_Cy_giveTo_18 ?_
          refine lv_iload_n hx hb d_Cy_giveTo_21 rfl (lv_at hl 3 rfl) ?_
          refine lv_iload_n hx hb d_Cy_giveTo_22 rfl (lv_at hl 1 rfl) ?_
          refine wi_ast hx hb hK hP hD hS 1 0 rfl rfl (by omega) (by omega) d_Cy_giveTo_23 (fun H locs hP hD hS => ?_)
          have hP : va_P D kcl [(h, .inr (1, [.ref p0, .int (nI L), .int (nI b)])), (p0, .inl (cI, M, .inl (wA (va_up u k v))))] H := hP
          have hD : va_D A [(h, .inr (1, [.ref p0, .int (nI L), .int (nI b)])), (p0, .inl (cI, M, .inl (wA (va_up u k v))))] := hD
          refine lv_iload_n hx hb d_Cy_giveTo_24 rfl (lv_at hl 3 rfl) ?_
          refine lv_iload_n hx hb d_Cy_giveTo_25 rfl (lv_at hl 2 rfl) ?_
          refine wi_add hx hb d_Cy_giveTo_26 ?_
          refine lv_istore_n (lv' := [(3, .int (nI (k + r))), (0, .ref h), (1, .int (nI v)), (2, .int (nI r))]) hx hb d_Cy_giveTo_27 rfl hl (by decide) rfl (fun ls hl => ?_)
          refine lv_goto hx hb d_Cy_giveTo_28 rfl ?_
          exact ih5 (L + r - (k + r)) (by omega) (k + r) (va_up u k v) ls H locs rfl (by omega) (pw_gp_m hk hm) (by omega) (by rw [hu]; exact pw_gp_up hr0 hk hm) (lv_sub hl [1, 2, 3, 0] rfl) hP hD hS
  exact loop5 _ (ff) (f) ls H locs rfl (Nat.le_refl _) (by rw [Nat.sub_self, Nat.zero_mod]) (Or.inl rfl) pw_gp_0 (lv_sub hl [1, 2, 3, 0] rfl) hP hD hS
