/-! PinwheelKernel: a slot. -/
/-- what the set has for that id; 0 if it isn't there -/
def pw_wt (n : Nat) (id f : Nat → Nat) (v : Nat) : Nat := match (List.range n).find? (fun i => id i == v) with
  | some i => f i
  | none => 0
theorem pw_wt_in {n : Nat} {id f : Nat → Nat} {v i : Nat} (hinj : ∀ i j, i < n → j < n → id i = id j → i = j) (hi : i < n) (h : id i = v) : pw_wt n id f v = f i := by
  unfold pw_wt
  cases hf : (List.range n).find? (fun i => id i == v) with
  | none =>
    have := List.find?_eq_none.mp hf i (List.mem_range.mpr hi)
    simp [h] at this
  | some j =>
    have h1 := List.find?_some hf
    have h2 := List.mem_range.mp (List.mem_of_find?_eq_some hf)
    have h3 : id j = v := by simpa using h1
    rw [hinj j i h2 hi (h3.trans h.symm)]
theorem pw_wt_out {n : Nat} {id f : Nat → Nat} {v : Nat} (h : ∀ i, i < n → id i ≠ v) : pw_wt n id f v = 0 := by
  unfold pw_wt
  cases hf : (List.range n).find? (fun i => id i == v) with
  | none => rfl
  | some j =>
    have h1 := List.find?_some hf
    have h2 := List.mem_range.mp (List.mem_of_find?_eq_some hf)
    have h3 : id j = v := by simpa using h1
    exact absurd h3 (h j h2)
theorem pw_wt_le {n : Nat} {id f : Nat → Nat} {v B : Nat} (h : ∀ i, i < n → f i ≤ B) : pw_wt n id f v ≤ B := by
  unfold pw_wt
  cases hf : (List.range n).find? (fun i => id i == v) with
  | none => exact Nat.zero_le _
  | some j => exact h j (List.mem_range.mp (List.mem_of_find?_eq_some hf))
/-- a seam for those that wait, with the times of those that are there -/
def pw_SE (n : Nat) (id wt : Nat → Nat) (k : Nat) (id2 sp2 : Nat → Nat) (L : Nat) (cy : Nat → Nat) (j : Nat) : Prop := pw_sea k id2 sp2 (fun t => pw_wt n id wt (id2 t)) L cy j
theorem pw_sea_cg {k : Nat} {i1 s1 w1 i2 s2 w2 : Nat → Nat} {L j : Nat} {cy : Nat → Nat} (h : ∀ t, t < k → i1 t = i2 t ∧ s1 t = s2 t ∧ w1 t = w2 t) : pw_sea k i1 s1 w1 L cy j ↔ pw_sea k i2 s2 w2 L cy j := by
  constructor
  · intro z t ht
    obtain ⟨d, h1, h2⟩ := z t ht
    obtain ⟨a, b, c⟩ := h t ht
    exact ⟨d, by rw [← c, ← b]; exact h1, by rw [← a]; exact h2⟩
  · intro z t ht
    obtain ⟨d, h1, h2⟩ := z t ht
    obtain ⟨a, b, c⟩ := h t ht
    exact ⟨d, by rw [c, b]; exact h1, by rw [a]; exact h2⟩
set_option maxHeartbeats 4000000 in
set_option maxRecDepth 100000 in
theorem c_Pk_goOver (l : Launch) (Hs : Heap) (D : va_G) (cI cZ cL : ClassId) (h : Nat) (rb : Nat) (pr : Nat) (pl : Nat) (fo : Nat) (sa : Nat) (sw : Nat) (ax : Nat) (wi : Nat) (va : Nat) (sl : Nat) (vs : Value) (q1 : Nat) (q2 : Nat) (q3 : Nat) (q4 : Nat) (k : Nat) (g1 : Nat → Nat) (x : Nat) (hk : k ≤ 10) (hid : ∀ t, t < k → g1 t < 2 ^ 31) (hwi : wi < 2 ^ 31) : kV l Hs D kcl (ty3 cI cZ cL) y_Pk_goOver (mws y_Pk_goOver b_Pk_goOver 4 (Option.none : Option Jvm.ClassFile.FieldType)) ({ frames := 1, cells := 0, slots := 0, locals := 22 } : Room) [.ref h, .int (nI x)] [(h, .inr (4, [.ref rb, vs, .ref pr, .ref pl, .ref fo, .ref sa, .int (nI sw), .int (nI ax), .int (nI wi), .int (nI va), .int (nI sl)])), (pl, .inr (0, [.ref q1, .ref q2, .ref q3, .ref q4, .int (nI k)])), (q1, .inl (cI, 10, .inl (wA g1)))] (fun w => ∃ (wi2 : Nat), ((wi2 = wi ∧ ∃ t, t < k ∧ g1 t = wi) ∨ (wi2 = 0 ∧ ∀ t, t < k → g1 t ≠ wi)) ∧ w = [(h, .inr (4, [.ref rb, vs, .ref pl, .ref pr, .ref sa, .ref fo, .int (nI 0), .int (nI x), .int (nI wi2), .int (nI va), .int (nI sl)])), (pl, .inr (0, [.ref q1, .ref q2, .ref q3, .ref q4, .int (nI k)])), (q1, .inl (cI, 10, .inl (wA g1)))]) := by
  intro sz
  refine k_of (cc := b_Pk_goOver) (maxL := 4) (ret := (Option.none : Option Jvm.ClassFile.FieldType)) (by decide) rfl (Nat.le_of_ble_eq_true rfl) ?_
  intro p e s m args below meth c ls H locs A Q hQ hx hb hml hr hts hown hlk hnm hsz hAe hP hK hD hS hA hE hAH hl
  have ht : ∀ w ∈ mw, w.before args s = true := fun w h => hts w (List.mem_cons_of_mem _ h)
  have hl : lv_has ls 4 [(0, .ref h), (1, .int (nI x))] := hl
  refine lv_aload_n hx hb d_Pk_goOver_0 rfl (lv_at hl 0 rfl) ?_
  refine va_get (D := D) (ci := 4) (v := .ref pr) (C := R_Pk) (T := T_Pk) (N := 11) hx hb ht u_Pk hown hK hP 0 rfl rfl 2 (by decide) (ht _ wd_86) (fun _ h9 => h9) rfl d_Pk_goOver_1 ?_
  refine lv_astore_n (lv' := [(2, .ref pr), (0, .ref h), (1, .int (nI x))]) hx hb d_Pk_goOver_4 rfl hl (by decide) rfl (fun ls hl => ?_)
  refine lv_aload_n hx hb d_Pk_goOver_5 rfl (lv_at hl 1 rfl) ?_
  refine lv_aload_n hx hb d_Pk_goOver_6 rfl (lv_at hl 1 rfl) ?_
  refine va_get (D := D) (ci := 4) (v := .ref pl) (C := R_Pk) (T := T_Pk) (N := 11) hx hb ht u_Pk hown hK hP 0 rfl rfl 3 (by decide) (ht _ wd_87) (fun _ h9 => h9) rfl d_Pk_goOver_7 ?_
  refine va_put (D := D) (ci := 4) (v := .ref pl) (ty := (.object "PinwheelKernel$Clients")) (C := R_Pk) (T := T_Pk) (N := 11) hx hb ht u_Pk t_Pk t_Pk_ok n_Pk hown hK hP hD hS 0 rfl rfl 2 (by decide) (ht _ wd_86) (fun _ h9 => h9) rfl (by decide +kernel) rfl rfl (Nat.le_of_ble_eq_true rfl) d_Pk_goOver_10 (fun H locs hP hD hS => ?_)
  have hP : va_P D kcl [(h, .inr (4, [.ref rb, vs, .ref pl, .ref pl, .ref fo, .ref sa, .int (nI sw), .int (nI ax), .int (nI wi), .int (nI va), .int (nI sl)])), (pl, .inr (0, [.ref q1, .ref q2, .ref q3, .ref q4, .int (nI k)])), (q1, .inl (cI, 10, .inl (wA g1)))] H := hP
  have hD : va_D A [(h, .inr (4, [.ref rb, vs, .ref pl, .ref pl, .ref fo, .ref sa, .int (nI sw), .int (nI ax), .int (nI wi), .int (nI va), .int (nI sl)])), (pl, .inr (0, [.ref q1, .ref q2, .ref q3, .ref q4, .int (nI k)])), (q1, .inl (cI, 10, .inl (wA g1)))] := hD
  refine lv_aload_n hx hb d_Pk_goOver_13 rfl (lv_at hl 1 rfl) ?_
  refine lv_aload_n hx hb d_Pk_goOver_14 rfl (lv_at hl 0 rfl) ?_
  refine va_put (D := D) (ci := 4) (v := .ref pr) (ty := (.object "PinwheelKernel$Clients")) (C := R_Pk) (T := T_Pk) (N := 11) hx hb ht u_Pk t_Pk t_Pk_ok n_Pk hown hK hP hD hS 0 rfl rfl 3 (by decide) (ht _ wd_87) (fun _ h9 => h9) rfl (by decide +kernel) rfl rfl (Nat.le_of_ble_eq_true rfl) d_Pk_goOver_15 (fun H locs hP hD hS => ?_)
  have hP : va_P D kcl [(h, .inr (4, [.ref rb, vs, .ref pl, .ref pr, .ref fo, .ref sa, .int (nI sw), .int (nI ax), .int (nI wi), .int (nI va), .int (nI sl)])), (pl, .inr (0, [.ref q1, .ref q2, .ref q3, .ref q4, .int (nI k)])), (q1, .inl (cI, 10, .inl (wA g1)))] H := hP
  have hD : va_D A [(h, .inr (4, [.ref rb, vs, .ref pl, .ref pr, .ref fo, .ref sa, .int (nI sw), .int (nI ax), .int (nI wi), .int (nI va), .int (nI sl)])), (pl, .inr (0, [.ref q1, .ref q2, .ref q3, .ref q4, .int (nI k)])), (q1, .inl (cI, 10, .inl (wA g1)))] := hD
  refine lv_aload_n hx hb d_Pk_goOver_18 rfl (lv_at hl 1 rfl) ?_
  refine va_get (D := D) (ci := 4) (v := .ref fo) (C := R_Pk) (T := T_Pk) (N := 11) hx hb ht u_Pk hown hK hP 0 rfl rfl 4 (by decide) (ht _ wd_88) (fun _ h9 => h9) rfl d_Pk_goOver_19 ?_
  refine lv_astore_n (lv' := [(3, .ref fo), (2, .ref pr), (0, .ref h), (1, .int (nI x))]) hx hb d_Pk_goOver_22 rfl hl (by decide) rfl (fun ls hl => ?_)
  refine lv_aload_n hx hb d_Pk_goOver_23 rfl (lv_at hl 2 rfl) ?_
  refine lv_aload_n hx hb d_Pk_goOver_24 rfl (lv_at hl 2 rfl) ?_
  refine va_get (D := D) (ci := 4) (v := .ref sa) (C := R_Pk) (T := T_Pk) (N := 11) hx hb ht u_Pk hown hK hP 0 rfl rfl 5 (by decide) (ht _ wd_89) (fun _ h9 => h9) rfl d_Pk_goOver_25 ?_
  refine va_put (D := D) (ci := 4) (v := .ref sa) (ty := (.object "PinwheelKernel$Cycle")) (C := R_Pk) (T := T_Pk) (N := 11) hx hb ht u_Pk t_Pk t_Pk_ok n_Pk hown hK hP hD hS 0 rfl rfl 4 (by decide) (ht _ wd_88) (fun _ h9 => h9) rfl (by decide +kernel) rfl rfl (Nat.le_of_ble_eq_true rfl) d_Pk_goOver_28 (fun H locs hP hD hS => ?_)
  have hP : va_P D kcl [(h, .inr (4, [.ref rb, vs, .ref pl, .ref pr, .ref sa, .ref sa, .int (nI sw), .int (nI ax), .int (nI wi), .int (nI va), .int (nI sl)])), (pl, .inr (0, [.ref q1, .ref q2, .ref q3, .ref q4, .int (nI k)])), (q1, .inl (cI, 10, .inl (wA g1)))] H := hP
  have hD : va_D A [(h, .inr (4, [.ref rb, vs, .ref pl, .ref pr, .ref sa, .ref sa, .int (nI sw), .int (nI ax), .int (nI wi), .int (nI va), .int (nI sl)])), (pl, .inr (0, [.ref q1, .ref q2, .ref q3, .ref q4, .int (nI k)])), (q1, .inl (cI, 10, .inl (wA g1)))] := hD
  refine lv_aload_n hx hb d_Pk_goOver_31 rfl (lv_at hl 2 rfl) ?_
  refine lv_aload_n hx hb d_Pk_goOver_32 rfl (lv_at hl 0 rfl) ?_
  refine va_put (D := D) (ci := 4) (v := .ref fo) (ty := (.object "PinwheelKernel$Cycle")) (C := R_Pk) (T := T_Pk) (N := 11) hx hb ht u_Pk t_Pk t_Pk_ok n_Pk hown hK hP hD hS 0 rfl rfl 5 (by decide) (ht _ wd_89) (fun _ h9 => h9) rfl (by decide +kernel) rfl rfl (Nat.le_of_ble_eq_true rfl) d_Pk_goOver_33 (fun H locs hP hD hS => ?_)
  have hP : va_P D kcl [(h, .inr (4, [.ref rb, vs, .ref pl, .ref pr, .ref sa, .ref fo, .int (nI sw), .int (nI ax), .int (nI wi), .int (nI va), .int (nI sl)])), (pl, .inr (0, [.ref q1, .ref q2, .ref q3, .ref q4, .int (nI k)])), (q1, .inl (cI, 10, .inl (wA g1)))] H := hP
  have hD : va_D A [(h, .inr (4, [.ref rb, vs, .ref pl, .ref pr, .ref sa, .ref fo, .int (nI sw), .int (nI ax), .int (nI wi), .int (nI va), .int (nI sl)])), (pl, .inr (0, [.ref q1, .ref q2, .ref q3, .ref q4, .int (nI k)])), (q1, .inl (cI, 10, .inl (wA g1)))] := hD
  refine lv_aload_n hx hb d_Pk_goOver_36 rfl (lv_at hl 2 rfl) ?_
  refine lv_iconst (v := nI 0) hx hb d_Pk_goOver_37 (by decide) ?_
  refine va_put (D := D) (ci := 4) (v := .int (nI 0)) (ty := .boolean) (C := R_Pk) (T := T_Pk) (N := 11) hx hb ht u_Pk t_Pk t_Pk_ok n_Pk hown hK hP hD hS 0 rfl rfl 6 (by decide) (ht _ wd_90) (fun _ h9 => h9) rfl (by decide +kernel) rfl rfl (Nat.le_of_ble_eq_true rfl) d_Pk_goOver_38 (fun H locs hP hD hS => ?_)
  have hP : va_P D kcl [(h, .inr (4, [.ref rb, vs, .ref pl, .ref pr, .ref sa, .ref fo, .int (nI 0), .int (nI ax), .int (nI wi), .int (nI va), .int (nI sl)])), (pl, .inr (0, [.ref q1, .ref q2, .ref q3, .ref q4, .int (nI k)])), (q1, .inl (cI, 10, .inl (wA g1)))] H := hP
  have hD : va_D A [(h, .inr (4, [.ref rb, vs, .ref pl, .ref pr, .ref sa, .ref fo, .int (nI 0), .int (nI ax), .int (nI wi), .int (nI va), .int (nI sl)])), (pl, .inr (0, [.ref q1, .ref q2, .ref q3, .ref q4, .int (nI k)])), (q1, .inl (cI, 10, .inl (wA g1)))] := hD
  refine lv_aload_n hx hb d_Pk_goOver_41 rfl (lv_at hl 2 rfl) ?_
  refine lv_iload_n hx hb d_Pk_goOver_42 rfl (lv_at hl 3 rfl) ?_
  refine va_put (D := D) (ci := 4) (v := .int (nI x)) (ty := .int) (C := R_Pk) (T := T_Pk) (N := 11) hx hb ht u_Pk t_Pk t_Pk_ok n_Pk hown hK hP hD hS 0 rfl rfl 7 (by decide) (ht _ wd_91) (fun _ h9 => h9) rfl (by decide +kernel) rfl rfl (Nat.le_of_ble_eq_true rfl) d_Pk_goOver_43 (fun H locs hP hD hS => ?_)
  have hP : va_P D kcl [(h, .inr (4, [.ref rb, vs, .ref pl, .ref pr, .ref sa, .ref fo, .int (nI 0), .int (nI x), .int (nI wi), .int (nI va), .int (nI sl)])), (pl, .inr (0, [.ref q1, .ref q2, .ref q3, .ref q4, .int (nI k)])), (q1, .inl (cI, 10, .inl (wA g1)))] H := hP
  have hD : va_D A [(h, .inr (4, [.ref rb, vs, .ref pl, .ref pr, .ref sa, .ref fo, .int (nI 0), .int (nI x), .int (nI wi), .int (nI va), .int (nI sl)])), (pl, .inr (0, [.ref q1, .ref q2, .ref q3, .ref q4, .int (nI k)])), (q1, .inl (cI, 10, .inl (wA g1)))] := hD
  refine lv_aload_n hx hb d_Pk_goOver_46 rfl (lv_at hl 2 rfl) ?_
  refine va_get (D := D) (ci := 4) (v := .ref pl) (C := R_Pk) (T := T_Pk) (N := 11) hx hb ht u_Pk hown hK hP 0 rfl rfl 2 (by decide) (ht _ wd_86) (fun _ h9 => h9) rfl d_Pk_goOver_47 ?_
  refine lv_aload_n hx hb d_Pk_goOver_50 rfl (lv_at hl 2 rfl) ?_
  refine va_get (D := D) (ci := 4) (v := .int (nI wi)) (C := R_Pk) (T := T_Pk) (N := 11) hx hb ht u_Pk hown hK hP 0 rfl rfl 8 (by decide) (ht _ wd_92) (fun _ h9 => h9) rfl d_Pk_goOver_51 ?_
  refine ck_i (wc := [(pl, .inr (0, [.ref q1, .ref q2, .ref q3, .ref q4, .int (nI k)])), (q1, .inl (cI, 10, .inl (wA g1)))]) (va_runV (As := [.int (nI wi)]) (rest := []) (C := R_Cl) ⟨hx, hb, hml, hown, ht⟩ (c_Cl_find l Hs D cI cZ cL pl q1 q2 q3 q4 k g1 (nI wi) hk H.size) (gw_V 1 ht wd_133 wd_3 wd_174 wd_131 wd_132 (by decide +kernel) ⟨Nat.le_of_ble_eq_true rfl, Nat.le_of_ble_eq_true rfl⟩) (k_preV hE hAH hK hP hD hS [1, 2] rfl rfl 1 rfl rfl) rfl rfl hl.1 rfl (lv_room (Nat.le_of_ble_eq_true rfl)) d_Pk_goOver_54 ⟨Nat.le_of_ble_eq_true rfl, Nat.le_of_ble_eq_true rfl⟩) hP hD hS hA [1, 2] rfl rfl (fun r54 w1 H locs hpost hP hD hS => ?_)
  obtain ⟨r0, hfd, rfl, rfl⟩ := hpost
  have hP : va_P D kcl [(h, .inr (4, [.ref rb, vs, .ref pl, .ref pr, .ref sa, .ref fo, .int (nI 0), .int (nI x), .int (nI wi), .int (nI va), .int (nI sl)])), (pl, .inr (0, [.ref q1, .ref q2, .ref q3, .ref q4, .int (nI k)])), (q1, .inl (cI, 10, .inl (wA g1)))] H := hP
  have hD : va_D A [(h, .inr (4, [.ref rb, vs, .ref pl, .ref pr, .ref sa, .ref fo, .int (nI 0), .int (nI x), .int (nI wi), .int (nI va), .int (nI sl)])), (pl, .inr (0, [.ref q1, .ref q2, .ref q3, .ref q4, .int (nI k)])), (q1, .inl (cI, 10, .inl (wA g1)))] := hD
  refine lv_iconst (v := -1) hx hb d_Pk_goOver_57 (by decide) ?_
  refine lv_icmp_ne hx hb d_Pk_goOver_58 rfl (fun h58 => ?_) (fun h58 => ?_)
  · have hin : ∃ t, t < k ∧ g1 t = wi := by
      rcases hfd with ⟨t, h1, h2, -⟩ | ⟨h1, -⟩
      · exact ⟨t, h1, (nI_eq (hid t h1) hwi).mp h2⟩
      · exact absurd h1 h58
    exact k_retv hQ hx hb hr hlk hAe hK hP hD hS (Nat.le_of_ble_eq_true rfl) (Nat.le_of_ble_eq_true rfl) (Nat.le_of_ble_eq_true rfl) ⟨wi, Or.inl ⟨rfl, hin⟩, rfl⟩ d_Pk_goOver_66
  · refine lv_aload_n hx hb d_Pk_goOver_61 rfl (lv_at hl 2 rfl) ?_
    refine lv_iconst (v := nI 0) hx hb d_Pk_goOver_62 (by decide) ?_
    refine va_put (D := D) (ci := 4) (v := .int (nI 0)) (ty := .int) (C := R_Pk) (T := T_Pk) (N := 11) hx hb ht u_Pk t_Pk t_Pk_ok n_Pk hown hK hP hD hS 0 rfl rfl 8 (by decide) (ht _ wd_92) (fun _ h9 => h9) rfl (by decide +kernel) rfl rfl (Nat.le_of_ble_eq_true rfl) d_Pk_goOver_63 (fun H locs hP hD hS => ?_)
    have hP : va_P D kcl [(h, .inr (4, [.ref rb, vs, .ref pl, .ref pr, .ref sa, .ref fo, .int (nI 0), .int (nI x), .int (nI 0), .int (nI va), .int (nI sl)])), (pl, .inr (0, [.ref q1, .ref q2, .ref q3, .ref q4, .int (nI k)])), (q1, .inl (cI, 10, .inl (wA g1)))] H := hP
    have hD : va_D A [(h, .inr (4, [.ref rb, vs, .ref pl, .ref pr, .ref sa, .ref fo, .int (nI 0), .int (nI x), .int (nI 0), .int (nI va), .int (nI sl)])), (pl, .inr (0, [.ref q1, .ref q2, .ref q3, .ref q4, .int (nI k)])), (q1, .inl (cI, 10, .inl (wA g1)))] := hD
    have hout : ∀ t, t < k → g1 t ≠ wi := by
      rcases hfd with ⟨t, h1, -, h3, -⟩ | ⟨-, h2⟩
      · rw [h58] at h3; exact absurd h3 (nI_m1 (by omega))
      · exact fun t ht z => h2 t ht (by rw [z])
    exact k_retv hQ hx hb hr hlk hAe hK hP hD hS (Nat.le_of_ble_eq_true rfl) (Nat.le_of_ble_eq_true rfl) (Nat.le_of_ble_eq_true rfl) ⟨0, Or.inr ⟨rfl, hout⟩, rfl⟩ d_Pk_goOver_66
set_option maxHeartbeats 4000000 in
set_option maxRecDepth 100000 in
theorem c_Pk_lookForSeam0 (l : Launch) (Hs : Heap) (D : va_G) (cI cZ cL : ClassId) (h : Nat) (rb : Nat) (pr : Nat) (pl : Nat) (fo : Nat) (sa : Nat) (sw : Nat) (ax : Nat) (wi : Nat) (va : Nat) (sl : Nat) (vs : Value) (p1 : Nat) (p2 : Nat) (p3 : Nat) (p4 : Nat) (n : Nat) (f1 : Nat → Nat) (f2 : Nat → Nat) (f3 : Nat → Nat) (f4 : Nat → Nat) (q1 : Nat) (q2 : Nat) (q3 : Nat) (q4 : Nat) (k : Nat) (g1 : Nat → Nat) (g2 : Nat → Nat) (g3 : Nat → Nat) (g4 : Nat → Nat) (s0 : Nat) (M2 : Nat) (f9 : Nat → Nat) (L2 : Nat) (b2 : Nat) (hn : n ≤ 10) (hk : k ≤ 10) (hf : ∀ t, t < n → f1 t < 2 ^ 31 ∧ f3 t < 2 ^ 20) (hg : ∀ t, t < k → g1 t < 2 ^ 31 ∧ g2 t ≤ 40) (hinj : ∀ i j, i < n → j < n → f1 i = f1 j → i = j) (hnew : ∀ t, t < k → (∀ i, i < n → f1 i ≠ g1 t) → g3 t = 0 ∧ g4 t = 0) (hsame : ∀ t i, t < k → i < n → f1 i = g1 t → f2 i = g2 t) (hLM : L2 ≤ M2) (hM : M2 ≤ 1500) (hcy : ∀ t, t < L2 → f9 t < 2 ^ 31) (hwi : wi < 2 ^ 31) (hno : ∀ j, j < L2 → ¬ pw_SE n f1 f3 k g1 g2 L2 f9 j) : kV l Hs D kcl (ty3 cI cZ cL) y_Pk_lookForSeam (mws y_Pk_lookForSeam b_Pk_lookForSeam 2 (Option.none : Option Jvm.ClassFile.FieldType)) ({ frames := 4, cells := 0, slots := 0, locals := 91 } : Room) [.ref h] [(h, .inr (4, [.ref rb, vs, .ref pr, .ref pl, .ref fo, .ref sa, .int (nI sw), .int (nI ax), .int (nI wi), .int (nI va), .int (nI sl)])), (pr, .inr (0, [.ref p1, .ref p2, .ref p3, .ref p4, .int (nI n)])), (p1, .inl (cI, 10, .inl (wA f1))), (p2, .inl (cI, 10, .inl (wA f2))), (p3, .inl (cI, 10, .inl (wA f3))), (p4, .inl (cI, 10, .inl (wA f4))), (pl, .inr (0, [.ref q1, .ref q2, .ref q3, .ref q4, .int (nI k)])), (q1, .inl (cI, 10, .inl (wA g1))), (q2, .inl (cI, 10, .inl (wA g2))), (q3, .inl (cI, 10, .inl (wA g3))), (q4, .inl (cI, 10, .inl (wA g4))), (sa, .inr (1, [.ref s0, .int (nI L2), .int (nI b2)])), (s0, .inl (cI, M2, .inl (wA f9)))] (fun w => ∃ (u1 : Nat → Nat), ∃ (u2 : Nat → Nat), ∃ (u3 : Nat → Nat), ∃ (u4 : Nat → Nat), (∀ t, t < k → u1 t = g1 t ∧ u2 t = g2 t ∧ u3 t = pw_wt n f1 f3 (g1 t) ∧ u4 t = pw_wt n f1 f4 (g1 t)) ∧ w = [(h, .inr (4, [.ref rb, vs, .ref pr, .ref pl, .ref fo, .ref sa, .int (nI sw), .int (nI ax), .int (nI wi), .int (nI (va + 1)), .int (nI sl)])), (pr, .inr (0, [.ref p1, .ref p2, .ref p3, .ref p4, .int (nI n)])), (p1, .inl (cI, 10, .inl (wA f1))), (p2, .inl (cI, 10, .inl (wA f2))), (p3, .inl (cI, 10, .inl (wA f3))), (p4, .inl (cI, 10, .inl (wA f4))), (pl, .inr (0, [.ref q1, .ref q2, .ref q3, .ref q4, .int (nI k)])), (q1, .inl (cI, 10, .inl (wA u1))), (q2, .inl (cI, 10, .inl (wA u2))), (q3, .inl (cI, 10, .inl (wA u3))), (q4, .inl (cI, 10, .inl (wA u4))), (sa, .inr (1, [.ref s0, .int (nI L2), .int (nI b2)])), (s0, .inl (cI, M2, .inl (wA f9)))]) := by
  intro sz
  refine k_of (cc := b_Pk_lookForSeam) (maxL := 2) (ret := (Option.none : Option Jvm.ClassFile.FieldType)) (by decide) rfl (Nat.le_of_ble_eq_true rfl) ?_
  intro p e s m args below meth c ls H locs A Q hQ hx hb hml hr hts hown hlk hnm hsz hAe hP hK hD hS hA hE hAH hl
  have ht : ∀ w ∈ mw, w.before args s = true := fun w h => hts w (List.mem_cons_of_mem _ h)
  have hl : lv_has ls 2 [(0, .ref h)] := hl
  refine lv_aload_n hx hb d_Pk_lookForSeam_0 rfl (lv_at hl 0 rfl) ?_
  refine va_get (D := D) (ci := 4) (v := .ref pl) (C := R_Pk) (T := T_Pk) (N := 11) hx hb ht u_Pk hown hK hP 0 rfl rfl 3 (by decide) (ht _ wd_87) (fun _ h9 => h9) rfl d_Pk_lookForSeam_1 ?_
  refine lv_aload_n hx hb d_Pk_lookForSeam_4 rfl (lv_at hl 0 rfl) ?_
  refine va_get (D := D) (ci := 4) (v := .ref pr) (C := R_Pk) (T := T_Pk) (N := 11) hx hb ht u_Pk hown hK hP 0 rfl rfl 2 (by decide) (ht _ wd_86) (fun _ h9 => h9) rfl d_Pk_lookForSeam_5 ?_
  refine ck_v (wc := [(pl, .inr (0, [.ref q1, .ref q2, .ref q3, .ref q4, .int (nI k)])), (q1, .inl (cI, 10, .inl (wA g1))), (q2, .inl (cI, 10, .inl (wA g2))), (q3, .inl (cI, 10, .inl (wA g3))), (q4, .inl (cI, 10, .inl (wA g4))), (pr, .inr (0, [.ref p1, .ref p2, .ref p3, .ref p4, .int (nI n)])), (p1, .inl (cI, 10, .inl (wA f1))), (p2, .inl (cI, 10, .inl (wA f2))), (p3, .inl (cI, 10, .inl (wA f3))), (p4, .inl (cI, 10, .inl (wA f4)))]) (va_runV (As := [.ref pr]) (rest := []) (C := R_Cl) ⟨hx, hb, hml, hown, ht⟩ (c_Cl_takeTimesFrom l Hs D cI cZ cL pl q1 q2 q3 q4 pr p1 p2 p3 p4 k n g1 g2 g3 g4 f1 f2 f3 f4 hk hn (fun t h => (hg t h).1) (fun t h => (hf t h).1) H.size) (gw_V 1 ht wd_129 wd_3 wd_126 wd_127 wd_128 (by decide +kernel) ⟨Nat.le_of_ble_eq_true rfl, Nat.le_of_ble_eq_true rfl⟩) (k_preV hE hAH hK hP hD hS [6, 7, 8, 9, 10, 1, 2, 3, 4, 5] rfl rfl 6 rfl rfl) rfl rfl hl.1 rfl (lv_room (Nat.le_of_ble_eq_true rfl)) d_Pk_lookForSeam_8 ⟨Nat.le_of_ble_eq_true rfl, Nat.le_of_ble_eq_true rfl⟩) hP hD hS hA [6, 7, 8, 9, 10, 1, 2, 3, 4, 5] rfl rfl (fun w1 H locs hpost hP hD hS => ?_)
  obtain ⟨u1, u2, u3, u4, htt, rfl⟩ := hpost
  have hP : va_P D kcl [(h, .inr (4, [.ref rb, vs, .ref pr, .ref pl, .ref fo, .ref sa, .int (nI sw), .int (nI ax), .int (nI wi), .int (nI va), .int (nI sl)])), (pr, .inr (0, [.ref p1, .ref p2, .ref p3, .ref p4, .int (nI n)])), (p1, .inl (cI, 10, .inl (wA f1))), (p2, .inl (cI, 10, .inl (wA f2))), (p3, .inl (cI, 10, .inl (wA f3))), (p4, .inl (cI, 10, .inl (wA f4))), (pl, .inr (0, [.ref q1, .ref q2, .ref q3, .ref q4, .int (nI k)])), (q1, .inl (cI, 10, .inl (wA u1))), (q2, .inl (cI, 10, .inl (wA u2))), (q3, .inl (cI, 10, .inl (wA u3))), (q4, .inl (cI, 10, .inl (wA u4))), (sa, .inr (1, [.ref s0, .int (nI L2), .int (nI b2)])), (s0, .inl (cI, M2, .inl (wA f9)))] H := hP
  have hD : va_D A [(h, .inr (4, [.ref rb, vs, .ref pr, .ref pl, .ref fo, .ref sa, .int (nI sw), .int (nI ax), .int (nI wi), .int (nI va), .int (nI sl)])), (pr, .inr (0, [.ref p1, .ref p2, .ref p3, .ref p4, .int (nI n)])), (p1, .inl (cI, 10, .inl (wA f1))), (p2, .inl (cI, 10, .inl (wA f2))), (p3, .inl (cI, 10, .inl (wA f3))), (p4, .inl (cI, 10, .inl (wA f4))), (pl, .inr (0, [.ref q1, .ref q2, .ref q3, .ref q4, .int (nI k)])), (q1, .inl (cI, 10, .inl (wA u1))), (q2, .inl (cI, 10, .inl (wA u2))), (q3, .inl (cI, 10, .inl (wA u3))), (q4, .inl (cI, 10, .inl (wA u4))), (sa, .inr (1, [.ref s0, .int (nI L2), .int (nI b2)])), (s0, .inl (cI, M2, .inl (wA f9)))] := hD
  have hU : ∀ t, t < k → u1 t = g1 t ∧ u2 t = g2 t ∧ u3 t = pw_wt n f1 f3 (g1 t) ∧ u4 t = pw_wt n f1 f4 (g1 t) := fun t ht => by
    rcases htt t ht with ⟨i, h1, h2, h3, h4, h5, h6⟩ | ⟨h1, h2, h3, h4, h5⟩
    · exact ⟨h3.trans h2, h4.trans (hsame t i ht h1 h2), h5.trans (pw_wt_in hinj h1 h2).symm, h6.trans (pw_wt_in hinj h1 h2).symm⟩
    · exact ⟨h2, h3, by rw [h4, (hnew t ht h1).1, pw_wt_out h1], by rw [h5, (hnew t ht h1).2, pw_wt_out h1]⟩
  have hse : ∀ j, pw_sea k u1 u2 u3 L2 f9 j ↔ pw_SE n f1 f3 k g1 g2 L2 f9 j := fun j => pw_sea_cg fun t ht => ⟨(hU t ht).1, (hU t ht).2.1, (hU t ht).2.2.1⟩
  have hub : ∀ t, t < k → u1 t < 2 ^ 31 ∧ u2 t ≤ 40 ∧ u3 t < 2 ^ 20 := fun t ht => by
    obtain ⟨a, b, c1, -⟩ := hU t ht
    rw [a, b, c1]
    exact ⟨(hg t ht).1, (hg t ht).2, Nat.lt_of_le_of_lt (pw_wt_le (B := 2 ^ 20 - 1) fun i hi => by have := (hf i hi).2; omega) (by decide)⟩
  refine lv_aload_n hx hb d_Pk_lookForSeam_11 rfl (lv_at hl 0 rfl) ?_
  refine va_get (D := D) (ci := 4) (v := .ref sa) (C := R_Pk) (T := T_Pk) (N := 11) hx hb ht u_Pk hown hK hP 0 rfl rfl 5 (by decide) (ht _ wd_89) (fun _ h9 => h9) rfl d_Pk_lookForSeam_12 ?_
  refine lv_aload_n hx hb d_Pk_lookForSeam_15 rfl (lv_at hl 0 rfl) ?_
  refine va_get (D := D) (ci := 4) (v := .ref pl) (C := R_Pk) (T := T_Pk) (N := 11) hx hb ht u_Pk hown hK hP 0 rfl rfl 3 (by decide) (ht _ wd_87) (fun _ h9 => h9) rfl d_Pk_lookForSeam_16 ?_
  refine ck_i (wc := [(sa, .inr (1, [.ref s0, .int (nI L2), .int (nI b2)])), (s0, .inl (cI, M2, .inl (wA f9))), (pl, .inr (0, [.ref q1, .ref q2, .ref q3, .ref q4, .int (nI k)])), (q1, .inl (cI, 10, .inl (wA u1))), (q2, .inl (cI, 10, .inl (wA u2))), (q3, .inl (cI, 10, .inl (wA u3)))]) (va_runV (As := [.ref pl]) (rest := []) (C := R_Cy) ⟨hx, hb, hml, hown, ht⟩ (c_Cy_seamFor l Hs D cI cZ cL sa s0 M2 f9 L2 b2 pl q1 q2 q3 q4 k u1 u2 u3 hLM hM hcy hk hub H.size) (gw_V 1 ht wd_141 wd_4 wd_138 wd_139 wd_140 (by decide +kernel) ⟨Nat.le_of_ble_eq_true rfl, Nat.le_of_ble_eq_true rfl⟩) (k_preV hE hAH hK hP hD hS [11, 12, 6, 7, 8, 9] rfl rfl 11 rfl rfl) rfl rfl hl.1 rfl (lv_room (Nat.le_of_ble_eq_true rfl)) d_Pk_lookForSeam_19 ⟨Nat.le_of_ble_eq_true rfl, Nat.le_of_ble_eq_true rfl⟩) hP hD hS hA [11, 12, 6, 7, 8, 9] rfl rfl (fun r19 w1 H locs hpost hP hD hS => ?_)
  obtain ⟨r0, hsf, rfl, rfl⟩ := hpost
  have hP : va_P D kcl [(h, .inr (4, [.ref rb, vs, .ref pr, .ref pl, .ref fo, .ref sa, .int (nI sw), .int (nI ax), .int (nI wi), .int (nI va), .int (nI sl)])), (pr, .inr (0, [.ref p1, .ref p2, .ref p3, .ref p4, .int (nI n)])), (p1, .inl (cI, 10, .inl (wA f1))), (p2, .inl (cI, 10, .inl (wA f2))), (p3, .inl (cI, 10, .inl (wA f3))), (p4, .inl (cI, 10, .inl (wA f4))), (pl, .inr (0, [.ref q1, .ref q2, .ref q3, .ref q4, .int (nI k)])), (q1, .inl (cI, 10, .inl (wA u1))), (q2, .inl (cI, 10, .inl (wA u2))), (q3, .inl (cI, 10, .inl (wA u3))), (q4, .inl (cI, 10, .inl (wA u4))), (sa, .inr (1, [.ref s0, .int (nI L2), .int (nI b2)])), (s0, .inl (cI, M2, .inl (wA f9)))] H := hP
  have hD : va_D A [(h, .inr (4, [.ref rb, vs, .ref pr, .ref pl, .ref fo, .ref sa, .int (nI sw), .int (nI ax), .int (nI wi), .int (nI va), .int (nI sl)])), (pr, .inr (0, [.ref p1, .ref p2, .ref p3, .ref p4, .int (nI n)])), (p1, .inl (cI, 10, .inl (wA f1))), (p2, .inl (cI, 10, .inl (wA f2))), (p3, .inl (cI, 10, .inl (wA f3))), (p4, .inl (cI, 10, .inl (wA f4))), (pl, .inr (0, [.ref q1, .ref q2, .ref q3, .ref q4, .int (nI k)])), (q1, .inl (cI, 10, .inl (wA u1))), (q2, .inl (cI, 10, .inl (wA u2))), (q3, .inl (cI, 10, .inl (wA u3))), (q4, .inl (cI, 10, .inl (wA u4))), (sa, .inr (1, [.ref s0, .int (nI L2), .int (nI b2)])), (s0, .inl (cI, M2, .inl (wA f9)))] := hD
  refine lv_istore_n (lv' := [(1, .int r19), (0, .ref h)]) hx hb d_Pk_lookForSeam_22 rfl hl (by decide) rfl (fun ls hl => ?_)
  refine lv_iload_n hx hb d_Pk_lookForSeam_23 rfl (lv_at hl 0 rfl) ?_
  refine lv_iconst (v := -1) hx hb d_Pk_lookForSeam_24 (by decide) ?_
  refine lv_icmp_ne hx hb d_Pk_lookForSeam_25 rfl (fun h25 => ?_) (fun h25 => ?_)
  · exfalso; rcases hsf with ⟨x, h1, -, h3, -⟩ | ⟨h1, -⟩; exact hno x h1 ((hse x).mp h3); exact h25 h1
  · refine lv_aload_n hx hb d_Pk_lookForSeam_28 rfl (lv_at hl 1 rfl) ?_
    refine lv_dup hx hb d_Pk_lookForSeam_29 rfl ?_
    refine va_get (D := D) (ci := 4) (v := .int (nI va)) (C := R_Pk) (T := T_Pk) (N := 11) hx hb ht u_Pk hown hK hP 0 rfl rfl 9 (by decide) (ht _ wd_93) (fun _ h9 => h9) rfl d_Pk_lookForSeam_30 ?_
    refine lv_iconst (v := nI 1) hx hb d_Pk_lookForSeam_33 (by decide) ?_
    refine wi_add hx hb d_Pk_lookForSeam_34 ?_
    refine va_put (D := D) (ci := 4) (v := .int (nI (va + 1))) (ty := .int) (C := R_Pk) (T := T_Pk) (N := 11) hx hb ht u_Pk t_Pk t_Pk_ok n_Pk hown hK hP hD hS 0 rfl rfl 9 (by decide) (ht _ wd_93) (fun _ h9 => h9) rfl (by decide +kernel) rfl rfl (Nat.le_of_ble_eq_true rfl) d_Pk_lookForSeam_35 (fun H locs hP hD hS => ?_)
    have hP : va_P D kcl [(h, .inr (4, [.ref rb, vs, .ref pr, .ref pl, .ref fo, .ref sa, .int (nI sw), .int (nI ax), .int (nI wi), .int (nI (va + 1)), .int (nI sl)])), (pr, .inr (0, [.ref p1, .ref p2, .ref p3, .ref p4, .int (nI n)])), (p1, .inl (cI, 10, .inl (wA f1))), (p2, .inl (cI, 10, .inl (wA f2))), (p3, .inl (cI, 10, .inl (wA f3))), (p4, .inl (cI, 10, .inl (wA f4))), (pl, .inr (0, [.ref q1, .ref q2, .ref q3, .ref q4, .int (nI k)])), (q1, .inl (cI, 10, .inl (wA u1))), (q2, .inl (cI, 10, .inl (wA u2))), (q3, .inl (cI, 10, .inl (wA u3))), (q4, .inl (cI, 10, .inl (wA u4))), (sa, .inr (1, [.ref s0, .int (nI L2), .int (nI b2)])), (s0, .inl (cI, M2, .inl (wA f9)))] H := hP
    have hD : va_D A [(h, .inr (4, [.ref rb, vs, .ref pr, .ref pl, .ref fo, .ref sa, .int (nI sw), .int (nI ax), .int (nI wi), .int (nI (va + 1)), .int (nI sl)])), (pr, .inr (0, [.ref p1, .ref p2, .ref p3, .ref p4, .int (nI n)])), (p1, .inl (cI, 10, .inl (wA f1))), (p2, .inl (cI, 10, .inl (wA f2))), (p3, .inl (cI, 10, .inl (wA f3))), (p4, .inl (cI, 10, .inl (wA f4))), (pl, .inr (0, [.ref q1, .ref q2, .ref q3, .ref q4, .int (nI k)])), (q1, .inl (cI, 10, .inl (wA u1))), (q2, .inl (cI, 10, .inl (wA u2))), (q3, .inl (cI, 10, .inl (wA u3))), (q4, .inl (cI, 10, .inl (wA u4))), (sa, .inr (1, [.ref s0, .int (nI L2), .int (nI b2)])), (s0, .inl (cI, M2, .inl (wA f9)))] := hD
    refine lv_goto hx hb d_Pk_lookForSeam_38 rfl ?_
    exact k_retv hQ hx hb hr hlk hAe hK hP hD hS (Nat.le_of_ble_eq_true rfl) (Nat.le_of_ble_eq_true rfl) (Nat.le_of_ble_eq_true rfl) ⟨u1, u2, u3, u4, hU, rfl⟩ d_Pk_lookForSeam_46
set_option maxHeartbeats 4000000 in
set_option maxRecDepth 100000 in
theorem c_Pk_lookForSeam1 (l : Launch) (Hs : Heap) (D : va_G) (cI cZ cL : ClassId) (h : Nat) (rb : Nat) (pr : Nat) (pl : Nat) (fo : Nat) (sa : Nat) (sw : Nat) (ax : Nat) (wi : Nat) (va : Nat) (sl : Nat) (vs : Value) (p1 : Nat) (p2 : Nat) (p3 : Nat) (p4 : Nat) (n : Nat) (f1 : Nat → Nat) (f2 : Nat → Nat) (f3 : Nat → Nat) (f4 : Nat → Nat) (q1 : Nat) (q2 : Nat) (q3 : Nat) (q4 : Nat) (k : Nat) (g1 : Nat → Nat) (g2 : Nat → Nat) (g3 : Nat → Nat) (g4 : Nat → Nat) (s0 : Nat) (M2 : Nat) (f9 : Nat → Nat) (L2 : Nat) (b2 : Nat) (x : Nat) (hn : n ≤ 10) (hk : k ≤ 10) (hf : ∀ t, t < n → f1 t < 2 ^ 31 ∧ f3 t < 2 ^ 20) (hg : ∀ t, t < k → g1 t < 2 ^ 31 ∧ g2 t ≤ 40) (hinj : ∀ i j, i < n → j < n → f1 i = f1 j → i = j) (hnew : ∀ t, t < k → (∀ i, i < n → f1 i ≠ g1 t) → g3 t = 0 ∧ g4 t = 0) (hsame : ∀ t i, t < k → i < n → f1 i = g1 t → f2 i = g2 t) (hLM : L2 ≤ M2) (hM : M2 ≤ 1500) (hcy : ∀ t, t < L2 → f9 t < 2 ^ 31) (hwi : wi < 2 ^ 31) (hxL : x < L2) (hyes : pw_SE n f1 f3 k g1 g2 L2 f9 x) (hfst : ∀ j, j < x → ¬ pw_SE n f1 f3 k g1 g2 L2 f9 j) : kV l Hs D kcl (ty3 cI cZ cL) y_Pk_lookForSeam (mws y_Pk_lookForSeam b_Pk_lookForSeam 2 (Option.none : Option Jvm.ClassFile.FieldType)) ({ frames := 4, cells := 0, slots := 0, locals := 91 } : Room) [.ref h] [(h, .inr (4, [.ref rb, vs, .ref pr, .ref pl, .ref fo, .ref sa, .int (nI sw), .int (nI ax), .int (nI wi), .int (nI va), .int (nI sl)])), (pr, .inr (0, [.ref p1, .ref p2, .ref p3, .ref p4, .int (nI n)])), (p1, .inl (cI, 10, .inl (wA f1))), (p2, .inl (cI, 10, .inl (wA f2))), (p3, .inl (cI, 10, .inl (wA f3))), (p4, .inl (cI, 10, .inl (wA f4))), (pl, .inr (0, [.ref q1, .ref q2, .ref q3, .ref q4, .int (nI k)])), (q1, .inl (cI, 10, .inl (wA g1))), (q2, .inl (cI, 10, .inl (wA g2))), (q3, .inl (cI, 10, .inl (wA g3))), (q4, .inl (cI, 10, .inl (wA g4))), (sa, .inr (1, [.ref s0, .int (nI L2), .int (nI b2)])), (s0, .inl (cI, M2, .inl (wA f9)))] (fun w => ∃ (u1 : Nat → Nat), ∃ (u2 : Nat → Nat), ∃ (u3 : Nat → Nat), ∃ (u4 : Nat → Nat), ∃ (wi2 : Nat), (∀ t, t < k → u1 t = g1 t ∧ u2 t = g2 t ∧ u3 t = pw_wt n f1 f3 (g1 t) ∧ u4 t = pw_wt n f1 f4 (g1 t)) ∧ ((wi2 = wi ∧ ∃ t, t < k ∧ g1 t = wi) ∨ (wi2 = 0 ∧ ∀ t, t < k → g1 t ≠ wi)) ∧ w = [(h, .inr (4, [.ref rb, vs, .ref pl, .ref pr, .ref sa, .ref fo, .int (nI 0), .int (nI x), .int (nI wi2), .int (nI va), .int (nI sl)])), (pr, .inr (0, [.ref p1, .ref p2, .ref p3, .ref p4, .int (nI n)])), (p1, .inl (cI, 10, .inl (wA f1))), (p2, .inl (cI, 10, .inl (wA f2))), (p3, .inl (cI, 10, .inl (wA f3))), (p4, .inl (cI, 10, .inl (wA f4))), (pl, .inr (0, [.ref q1, .ref q2, .ref q3, .ref q4, .int (nI k)])), (q1, .inl (cI, 10, .inl (wA u1))), (q2, .inl (cI, 10, .inl (wA u2))), (q3, .inl (cI, 10, .inl (wA u3))), (q4, .inl (cI, 10, .inl (wA u4))), (sa, .inr (1, [.ref s0, .int (nI L2), .int (nI b2)])), (s0, .inl (cI, M2, .inl (wA f9)))]) := by
  intro sz
  refine k_of (cc := b_Pk_lookForSeam) (maxL := 2) (ret := (Option.none : Option Jvm.ClassFile.FieldType)) (by decide) rfl (Nat.le_of_ble_eq_true rfl) ?_
  intro p e s m args below meth c ls H locs A Q hQ hx hb hml hr hts hown hlk hnm hsz hAe hP hK hD hS hA hE hAH hl
  have ht : ∀ w ∈ mw, w.before args s = true := fun w h => hts w (List.mem_cons_of_mem _ h)
  have hl : lv_has ls 2 [(0, .ref h)] := hl
  refine lv_aload_n hx hb d_Pk_lookForSeam_0 rfl (lv_at hl 0 rfl) ?_
  refine va_get (D := D) (ci := 4) (v := .ref pl) (C := R_Pk) (T := T_Pk) (N := 11) hx hb ht u_Pk hown hK hP 0 rfl rfl 3 (by decide) (ht _ wd_87) (fun _ h9 => h9) rfl d_Pk_lookForSeam_1 ?_
  refine lv_aload_n hx hb d_Pk_lookForSeam_4 rfl (lv_at hl 0 rfl) ?_
  refine va_get (D := D) (ci := 4) (v := .ref pr) (C := R_Pk) (T := T_Pk) (N := 11) hx hb ht u_Pk hown hK hP 0 rfl rfl 2 (by decide) (ht _ wd_86) (fun _ h9 => h9) rfl d_Pk_lookForSeam_5 ?_
  refine ck_v (wc := [(pl, .inr (0, [.ref q1, .ref q2, .ref q3, .ref q4, .int (nI k)])), (q1, .inl (cI, 10, .inl (wA g1))), (q2, .inl (cI, 10, .inl (wA g2))), (q3, .inl (cI, 10, .inl (wA g3))), (q4, .inl (cI, 10, .inl (wA g4))), (pr, .inr (0, [.ref p1, .ref p2, .ref p3, .ref p4, .int (nI n)])), (p1, .inl (cI, 10, .inl (wA f1))), (p2, .inl (cI, 10, .inl (wA f2))), (p3, .inl (cI, 10, .inl (wA f3))), (p4, .inl (cI, 10, .inl (wA f4)))]) (va_runV (As := [.ref pr]) (rest := []) (C := R_Cl) ⟨hx, hb, hml, hown, ht⟩ (c_Cl_takeTimesFrom l Hs D cI cZ cL pl q1 q2 q3 q4 pr p1 p2 p3 p4 k n g1 g2 g3 g4 f1 f2 f3 f4 hk hn (fun t h => (hg t h).1) (fun t h => (hf t h).1) H.size) (gw_V 1 ht wd_129 wd_3 wd_126 wd_127 wd_128 (by decide +kernel) ⟨Nat.le_of_ble_eq_true rfl, Nat.le_of_ble_eq_true rfl⟩) (k_preV hE hAH hK hP hD hS [6, 7, 8, 9, 10, 1, 2, 3, 4, 5] rfl rfl 6 rfl rfl) rfl rfl hl.1 rfl (lv_room (Nat.le_of_ble_eq_true rfl)) d_Pk_lookForSeam_8 ⟨Nat.le_of_ble_eq_true rfl, Nat.le_of_ble_eq_true rfl⟩) hP hD hS hA [6, 7, 8, 9, 10, 1, 2, 3, 4, 5] rfl rfl (fun w1 H locs hpost hP hD hS => ?_)
  obtain ⟨u1, u2, u3, u4, htt, rfl⟩ := hpost
  have hP : va_P D kcl [(h, .inr (4, [.ref rb, vs, .ref pr, .ref pl, .ref fo, .ref sa, .int (nI sw), .int (nI ax), .int (nI wi), .int (nI va), .int (nI sl)])), (pr, .inr (0, [.ref p1, .ref p2, .ref p3, .ref p4, .int (nI n)])), (p1, .inl (cI, 10, .inl (wA f1))), (p2, .inl (cI, 10, .inl (wA f2))), (p3, .inl (cI, 10, .inl (wA f3))), (p4, .inl (cI, 10, .inl (wA f4))), (pl, .inr (0, [.ref q1, .ref q2, .ref q3, .ref q4, .int (nI k)])), (q1, .inl (cI, 10, .inl (wA u1))), (q2, .inl (cI, 10, .inl (wA u2))), (q3, .inl (cI, 10, .inl (wA u3))), (q4, .inl (cI, 10, .inl (wA u4))), (sa, .inr (1, [.ref s0, .int (nI L2), .int (nI b2)])), (s0, .inl (cI, M2, .inl (wA f9)))] H := hP
  have hD : va_D A [(h, .inr (4, [.ref rb, vs, .ref pr, .ref pl, .ref fo, .ref sa, .int (nI sw), .int (nI ax), .int (nI wi), .int (nI va), .int (nI sl)])), (pr, .inr (0, [.ref p1, .ref p2, .ref p3, .ref p4, .int (nI n)])), (p1, .inl (cI, 10, .inl (wA f1))), (p2, .inl (cI, 10, .inl (wA f2))), (p3, .inl (cI, 10, .inl (wA f3))), (p4, .inl (cI, 10, .inl (wA f4))), (pl, .inr (0, [.ref q1, .ref q2, .ref q3, .ref q4, .int (nI k)])), (q1, .inl (cI, 10, .inl (wA u1))), (q2, .inl (cI, 10, .inl (wA u2))), (q3, .inl (cI, 10, .inl (wA u3))), (q4, .inl (cI, 10, .inl (wA u4))), (sa, .inr (1, [.ref s0, .int (nI L2), .int (nI b2)])), (s0, .inl (cI, M2, .inl (wA f9)))] := hD
  have hU : ∀ t, t < k → u1 t = g1 t ∧ u2 t = g2 t ∧ u3 t = pw_wt n f1 f3 (g1 t) ∧ u4 t = pw_wt n f1 f4 (g1 t) := fun t ht => by
    rcases htt t ht with ⟨i, h1, h2, h3, h4, h5, h6⟩ | ⟨h1, h2, h3, h4, h5⟩
    · exact ⟨h3.trans h2, h4.trans (hsame t i ht h1 h2), h5.trans (pw_wt_in hinj h1 h2).symm, h6.trans (pw_wt_in hinj h1 h2).symm⟩
    · exact ⟨h2, h3, by rw [h4, (hnew t ht h1).1, pw_wt_out h1], by rw [h5, (hnew t ht h1).2, pw_wt_out h1]⟩
  have hse : ∀ j, pw_sea k u1 u2 u3 L2 f9 j ↔ pw_SE n f1 f3 k g1 g2 L2 f9 j := fun j => pw_sea_cg fun t ht => ⟨(hU t ht).1, (hU t ht).2.1, (hU t ht).2.2.1⟩
  have hub : ∀ t, t < k → u1 t < 2 ^ 31 ∧ u2 t ≤ 40 ∧ u3 t < 2 ^ 20 := fun t ht => by
    obtain ⟨a, b, c1, -⟩ := hU t ht
    rw [a, b, c1]
    exact ⟨(hg t ht).1, (hg t ht).2, Nat.lt_of_le_of_lt (pw_wt_le (B := 2 ^ 20 - 1) fun i hi => by have := (hf i hi).2; omega) (by decide)⟩
  refine lv_aload_n hx hb d_Pk_lookForSeam_11 rfl (lv_at hl 0 rfl) ?_
  refine va_get (D := D) (ci := 4) (v := .ref sa) (C := R_Pk) (T := T_Pk) (N := 11) hx hb ht u_Pk hown hK hP 0 rfl rfl 5 (by decide) (ht _ wd_89) (fun _ h9 => h9) rfl d_Pk_lookForSeam_12 ?_
  refine lv_aload_n hx hb d_Pk_lookForSeam_15 rfl (lv_at hl 0 rfl) ?_
  refine va_get (D := D) (ci := 4) (v := .ref pl) (C := R_Pk) (T := T_Pk) (N := 11) hx hb ht u_Pk hown hK hP 0 rfl rfl 3 (by decide) (ht _ wd_87) (fun _ h9 => h9) rfl d_Pk_lookForSeam_16 ?_
  refine ck_i (wc := [(sa, .inr (1, [.ref s0, .int (nI L2), .int (nI b2)])), (s0, .inl (cI, M2, .inl (wA f9))), (pl, .inr (0, [.ref q1, .ref q2, .ref q3, .ref q4, .int (nI k)])), (q1, .inl (cI, 10, .inl (wA u1))), (q2, .inl (cI, 10, .inl (wA u2))), (q3, .inl (cI, 10, .inl (wA u3)))]) (va_runV (As := [.ref pl]) (rest := []) (C := R_Cy) ⟨hx, hb, hml, hown, ht⟩ (c_Cy_seamFor l Hs D cI cZ cL sa s0 M2 f9 L2 b2 pl q1 q2 q3 q4 k u1 u2 u3 hLM hM hcy hk hub H.size) (gw_V 1 ht wd_141 wd_4 wd_138 wd_139 wd_140 (by decide +kernel) ⟨Nat.le_of_ble_eq_true rfl, Nat.le_of_ble_eq_true rfl⟩) (k_preV hE hAH hK hP hD hS [11, 12, 6, 7, 8, 9] rfl rfl 11 rfl rfl) rfl rfl hl.1 rfl (lv_room (Nat.le_of_ble_eq_true rfl)) d_Pk_lookForSeam_19 ⟨Nat.le_of_ble_eq_true rfl, Nat.le_of_ble_eq_true rfl⟩) hP hD hS hA [11, 12, 6, 7, 8, 9] rfl rfl (fun r19 w1 H locs hpost hP hD hS => ?_)
  obtain ⟨r0, hsf, rfl, rfl⟩ := hpost
  have hP : va_P D kcl [(h, .inr (4, [.ref rb, vs, .ref pr, .ref pl, .ref fo, .ref sa, .int (nI sw), .int (nI ax), .int (nI wi), .int (nI va), .int (nI sl)])), (pr, .inr (0, [.ref p1, .ref p2, .ref p3, .ref p4, .int (nI n)])), (p1, .inl (cI, 10, .inl (wA f1))), (p2, .inl (cI, 10, .inl (wA f2))), (p3, .inl (cI, 10, .inl (wA f3))), (p4, .inl (cI, 10, .inl (wA f4))), (pl, .inr (0, [.ref q1, .ref q2, .ref q3, .ref q4, .int (nI k)])), (q1, .inl (cI, 10, .inl (wA u1))), (q2, .inl (cI, 10, .inl (wA u2))), (q3, .inl (cI, 10, .inl (wA u3))), (q4, .inl (cI, 10, .inl (wA u4))), (sa, .inr (1, [.ref s0, .int (nI L2), .int (nI b2)])), (s0, .inl (cI, M2, .inl (wA f9)))] H := hP
  have hD : va_D A [(h, .inr (4, [.ref rb, vs, .ref pr, .ref pl, .ref fo, .ref sa, .int (nI sw), .int (nI ax), .int (nI wi), .int (nI va), .int (nI sl)])), (pr, .inr (0, [.ref p1, .ref p2, .ref p3, .ref p4, .int (nI n)])), (p1, .inl (cI, 10, .inl (wA f1))), (p2, .inl (cI, 10, .inl (wA f2))), (p3, .inl (cI, 10, .inl (wA f3))), (p4, .inl (cI, 10, .inl (wA f4))), (pl, .inr (0, [.ref q1, .ref q2, .ref q3, .ref q4, .int (nI k)])), (q1, .inl (cI, 10, .inl (wA u1))), (q2, .inl (cI, 10, .inl (wA u2))), (q3, .inl (cI, 10, .inl (wA u3))), (q4, .inl (cI, 10, .inl (wA u4))), (sa, .inr (1, [.ref s0, .int (nI L2), .int (nI b2)])), (s0, .inl (cI, M2, .inl (wA f9)))] := hD
  obtain rfl : r19 = nI x := by
    rcases hsf with ⟨y, h1, h2, h3, h4⟩ | ⟨-, h2⟩
    · have e : y = x := by
        rcases Nat.lt_trichotomy y x with z | z | z
        · exact absurd ((hse y).mp h3) (hfst y z)
        · exact z
        · exact absurd ((hse x).mpr hyes) (h4 x z)
      rw [h2, e]
    · exact absurd ((hse x).mpr hyes) (h2 x hxL)
  refine lv_istore_n (lv' := [(1, .int (nI x)), (0, .ref h)]) hx hb d_Pk_lookForSeam_22 rfl hl (by decide) rfl (fun ls hl => ?_)
  refine lv_iload_n hx hb d_Pk_lookForSeam_23 rfl (lv_at hl 0 rfl) ?_
  refine lv_iconst (v := -1) hx hb d_Pk_lookForSeam_24 (by decide) ?_
  refine lv_icmp_ne hx hb d_Pk_lookForSeam_25 rfl (fun h25 => ?_) (fun h25 => ?_)
  · refine lv_aload_n hx hb d_Pk_lookForSeam_41 rfl (lv_at hl 1 rfl) ?_
    refine lv_iload_n hx hb d_Pk_lookForSeam_42 rfl (lv_at hl 0 rfl) ?_
    refine ck_v (wc := [(h, .inr (4, [.ref rb, vs, .ref pr, .ref pl, .ref fo, .ref sa, .int (nI sw), .int (nI ax), .int (nI wi), .int (nI va), .int (nI sl)])), (pl, .inr (0, [.ref q1, .ref q2, .ref q3, .ref q4, .int (nI k)])), (q1, .inl (cI, 10, .inl (wA u1)))]) (va_runV (As := [.int (nI x)]) (rest := []) (C := R_Pk) ⟨hx, hb, hml, hown, ht⟩ (c_Pk_goOver l Hs D cI cZ cL h rb pr pl fo sa sw ax wi va sl vs q1 q2 q3 q4 k u1 x hk (fun t h => (hub t h).1) hwi H.size) (gw_V 1 ht wd_173 wd_1 wd_170 wd_172 ws_4 (by decide +kernel) ⟨Nat.le_of_ble_eq_true rfl, Nat.le_of_ble_eq_true rfl⟩) (k_preV hE hAH hK hP hD hS [0, 6, 7] rfl rfl 0 rfl rfl) rfl rfl hl.1 rfl (lv_room (Nat.le_of_ble_eq_true rfl)) d_Pk_lookForSeam_43 ⟨Nat.le_of_ble_eq_true rfl, Nat.le_of_ble_eq_true rfl⟩) hP hD hS hA [0, 6, 7] rfl rfl (fun w1 H locs hpost hP hD hS => ?_)
    obtain ⟨wi2, hwi2, rfl⟩ := hpost
    have hP : va_P D kcl [(h, .inr (4, [.ref rb, vs, .ref pl, .ref pr, .ref sa, .ref fo, .int (nI 0), .int (nI x), .int (nI wi2), .int (nI va), .int (nI sl)])), (pr, .inr (0, [.ref p1, .ref p2, .ref p3, .ref p4, .int (nI n)])), (p1, .inl (cI, 10, .inl (wA f1))), (p2, .inl (cI, 10, .inl (wA f2))), (p3, .inl (cI, 10, .inl (wA f3))), (p4, .inl (cI, 10, .inl (wA f4))), (pl, .inr (0, [.ref q1, .ref q2, .ref q3, .ref q4, .int (nI k)])), (q1, .inl (cI, 10, .inl (wA u1))), (q2, .inl (cI, 10, .inl (wA u2))), (q3, .inl (cI, 10, .inl (wA u3))), (q4, .inl (cI, 10, .inl (wA u4))), (sa, .inr (1, [.ref s0, .int (nI L2), .int (nI b2)])), (s0, .inl (cI, M2, .inl (wA f9)))] H := hP
    have hD : va_D A [(h, .inr (4, [.ref rb, vs, .ref pl, .ref pr, .ref sa, .ref fo, .int (nI 0), .int (nI x), .int (nI wi2), .int (nI va), .int (nI sl)])), (pr, .inr (0, [.ref p1, .ref p2, .ref p3, .ref p4, .int (nI n)])), (p1, .inl (cI, 10, .inl (wA f1))), (p2, .inl (cI, 10, .inl (wA f2))), (p3, .inl (cI, 10, .inl (wA f3))), (p4, .inl (cI, 10, .inl (wA f4))), (pl, .inr (0, [.ref q1, .ref q2, .ref q3, .ref q4, .int (nI k)])), (q1, .inl (cI, 10, .inl (wA u1))), (q2, .inl (cI, 10, .inl (wA u2))), (q3, .inl (cI, 10, .inl (wA u3))), (q4, .inl (cI, 10, .inl (wA u4))), (sa, .inr (1, [.ref s0, .int (nI L2), .int (nI b2)])), (s0, .inl (cI, M2, .inl (wA f9)))] := hD
    have hwi3 : (wi2 = wi ∧ ∃ t, t < k ∧ g1 t = wi) ∨ (wi2 = 0 ∧ ∀ t, t < k → g1 t ≠ wi) := by
      rcases hwi2 with ⟨h1, t, h2, h3⟩ | ⟨h1, h2⟩
      · exact Or.inl ⟨h1, t, h2, (hU t h2).1.symm.trans h3⟩
      · exact Or.inr ⟨h1, fun t ht z => h2 t ht ((hU t ht).1.trans z)⟩
    exact k_retv hQ hx hb hr hlk hAe hK hP hD hS (Nat.le_of_ble_eq_true rfl) (Nat.le_of_ble_eq_true rfl) (Nat.le_of_ble_eq_true rfl) ⟨u1, u2, u3, u4, wi2, hU, hwi3, rfl⟩ d_Pk_lookForSeam_46
  · exact absurd h25.symm (nI_m1 (by omega))
