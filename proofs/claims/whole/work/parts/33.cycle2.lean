set_option maxHeartbeats 4000000 in
set_option maxRecDepth 100000 in
theorem c_Cy_copyFrom (l : Launch) (Hs : Heap) (D : va_G) (cI cZ cL : ClassId) (h : Nat) (p0 : Nat) (M : Nat) (f : Nat → Nat) (L : Nat) (b : Nat) (a : Nat) (g : Nat → Nat) (i : Nat) (k : Nat) (hk : i + k ≤ 1500) (hM : M ≤ 1500) : kV l Hs D kcl (ty3 cI cZ cL) y_Cy_copyFrom (mws y_Cy_copyFrom b_Cy_copyFrom 4 (Option.none : Option Jvm.ClassFile.FieldType)) ({ frames := 1, cells := 1, slots := 1500, locals := 40 } : Room) [.ref h, .ref a, .int (nI i), .int (nI k)] [(h, .inr (1, [.ref p0, .int (nI L), .int (nI b)])), (p0, .inl (cI, M, .inl (wA f))), (a, .inl (cI, 1500, .inl (wA g)))] (fun w => ∃ (p2 : Nat), ∃ (M2 : Nat), ∃ (f2 : Nat → Nat), (k ≤ M2) ∧ (M2 ≤ 1500) ∧ (M ≤ M2) ∧ (∀ t, t < k → f2 t = g (i + t)) ∧ w = [(h, .inr (1, [.ref p2, .int (nI k), .int (nI b)])), (p2, .inl (cI, M2, .inl (wA f2))), (a, .inl (cI, 1500, .inl (wA g)))]) := by
  intro sz
  refine k_of (cc := b_Cy_copyFrom) (maxL := 4) (ret := (Option.none : Option Jvm.ClassFile.FieldType)) (by decide) rfl (Nat.le_of_ble_eq_true rfl) ?_
  intro p e s m args below meth c ls H locs A Q hQ hx hb hml hr hts hown hlk hnm hsz hAe hP hK hD hS hA hE hAH hl
  have ht : ∀ w ∈ mw, w.before args s = true := fun w h => hts w (List.mem_cons_of_mem _ h)
  have hl : lv_has ls 4 [(0, .ref h), (1, .ref a), (2, .int (nI i)), (3, .int (nI k))] := hl
  refine lv_aload_n hx hb d_Cy_copyFrom_0 rfl (lv_at hl 0 rfl) ?_
  refine lv_iload_n hx hb d_Cy_copyFrom_1 rfl (lv_at hl 3 rfl) ?_
  refine ck_v (wc := [(h, .inr (1, [.ref p0, .int (nI L), .int (nI b)])), (p0, .inl (cI, M, .inl (wA f)))]) (va_runV (As := [.int (nI k)]) (rest := []) (C := R_Cy) ⟨hx, hb, hml, hown, ht⟩ (c_Cy_makeRoom l Hs D cI cZ cL h p0 M f L b k (by omega) hM H.size) (gw_V 1 ht wd_427 wd_4 wd_424 wd_426 ws_19 (by decide +kernel) ⟨Nat.le_of_ble_eq_true rfl, Nat.le_of_ble_eq_true rfl⟩) (k_preV hE hAH hK hP hD hS [0, 1] rfl rfl 0 rfl rfl) rfl rfl hl.1 rfl (lv_room (Nat.le_of_ble_eq_true rfl)) d_Cy_copyFrom_2 ⟨Nat.le_of_ble_eq_true rfl, Nat.le_of_ble_eq_true rfl⟩) hP hD hS hA [0, 1] rfl rfl (fun w1 H locs hpost hP hD hS => ?_)
  obtain ⟨p2, M2, f2, hk2, hM2, hMM, rfl⟩ := hpost
  have hP : va_P D kcl [(h, .inr (1, [.ref p2, .int (nI k), .int (nI b)])), (p2, .inl (cI, M2, .inl (wA f2))), (a, .inl (cI, 1500, .inl (wA g)))] H := hP
  have hD : va_D A [(h, .inr (1, [.ref p2, .int (nI k), .int (nI b)])), (p2, .inl (cI, M2, .inl (wA f2))), (a, .inl (cI, 1500, .inl (wA g)))] := hD
  refine W.widen (k := 1) (n := 1500) (by decide) (by decide) ?_
  refine lv_aload_n hx hb d_Cy_copyFrom_5 rfl (lv_at hl 1 rfl) ?_
  refine lv_iload_n hx hb d_Cy_copyFrom_6 rfl (lv_at hl 2 rfl) ?_
  refine lv_aload_n hx hb d_Cy_copyFrom_7 rfl (lv_at hl 0 rfl) ?_
  refine va_get (D := D) (ci := 1) (v := .ref p2) (C := R_Cy) (T := T_Cy) (N := 3) hx hb ht u_Cy hown hK hP 0 rfl rfl 0 (by decide) (ht _ wd_74) (fun _ h9 => h9) rfl d_Cy_copyFrom_8 ?_
  refine lv_iconst (v := nI 0) hx hb d_Cy_copyFrom_11 (by decide) ?_
  refine lv_aload_n hx hb d_Cy_copyFrom_12 rfl (lv_at hl 0 rfl) ?_
  refine va_get (D := D) (ci := 1) (v := .int (nI k)) (C := R_Cy) (T := T_Cy) (N := 3) hx hb ht u_Cy hown hK hP 0 rfl rfl 1 (by decide) (ht _ wd_75) (fun _ h9 => h9) rfl d_Cy_copyFrom_13 ?_
  refine va_copyi hx hb (hml.trans hl.1.symm) hown (ht _ wd_759) (ht _ wd_511) (ht _ wd_510) (ht _ wd_19) hK hP hD hS 2 1 0 0 rfl rfl rfl rfl rfl (nI_pos (by omega)) (nI_pos (by omega)) (nI_pos (by omega)) (by rw [nI_clamp (by omega), nI_clamp (by omega)]; omega) (by rw [nI_clamp (by omega), nI_clamp (by omega)]; omega) (fun _ _ => rfl) (Nat.le_of_ble_eq_true rfl) (Nat.le_of_ble_eq_true rfl) d_Cy_copyFrom_16 (fun H locs hP hD hS => ?_)
  rw [nI_clamp (by omega), nI_clamp (by omega), nI_clamp (by omega), wA_cpy] at hP hD
  have hP : va_P D kcl [(h, .inr (1, [.ref p2, .int (nI k), .int (nI b)])), (p2, .inl (cI, M2, .inl (wA (va_cpy g f2 i 0 k)))), (a, .inl (cI, 1500, .inl (wA g)))] H := hP
  have hD : va_D A [(h, .inr (1, [.ref p2, .int (nI k), .int (nI b)])), (p2, .inl (cI, M2, .inl (wA (va_cpy g f2 i 0 k)))), (a, .inl (cI, 1500, .inl (wA g)))] := hD
  exact k_retv hQ hx hb hr hlk hAe hK hP hD hS (Nat.le_of_ble_eq_true rfl) (Nat.le_of_ble_eq_true rfl) (Nat.le_of_ble_eq_true rfl) ⟨p2, M2, va_cpy g f2 i 0 k, hk2, hM2, hMM, fun t h9 => by rw [pk_cpy_in (Nat.zero_le _) (by omega), Nat.sub_zero], rfl⟩ d_Cy_copyFrom_19
set_option maxHeartbeats 4000000 in
set_option maxRecDepth 100000 in
theorem c_Cy_comesWithin (l : Launch) (Hs : Heap) (D : va_G) (cI cZ cL : ClassId) (h : Nat) (p0 : Nat) (M : Nat) (f : Nat → Nat) (L : Nat) (b : Nat) (a2 : Nat) (b2 : Nat) (i : Nat) (v : Nat) (hL : i < L) (hM : L ≤ M) (hM2 : M ≤ 1500) (ha : a2 ≤ 40) (hb2 : b2 < 2 ^ 20) (hv : v < 2 ^ 31) (hf : ∀ t, t < L → f t < 2 ^ 31) : kI l Hs D kcl (ty3 cI cZ cL) y_Cy_comesWithin (mws y_Cy_comesWithin b_Cy_comesWithin 6 (Option.some Jvm.ClassFile.FieldType.boolean)) ({ frames := 1, cells := 0, slots := 0, locals := 21 } : Room) [.ref h, .int (nI a2 - nI b2), .int (nI i), .int (nI v)] [(h, .inr (1, [.ref p0, .int (nI L), .int (nI b)])), (p0, .inl (cI, M, .inl (wA f)))] (fun r w => ∃ (r0 : Int32), ((r0 = nI 1 ∧ ∃ d, b2 + d < a2 ∧ f ((i + d) % L) = v) ∨ (r0 = nI 0 ∧ ∀ d, b2 + d < a2 → f ((i + d) % L) ≠ v)) ∧ r = r0 ∧ w = [(h, .inr (1, [.ref p0, .int (nI L), .int (nI b)])), (p0, .inl (cI, M, .inl (wA f)))]) := by
  intro sz
  refine k_of (cc := b_Cy_comesWithin) (maxL := 6) (ret := (Option.some Jvm.ClassFile.FieldType.boolean)) (by decide) rfl (Nat.le_of_ble_eq_true rfl) ?_
  intro p e s m args below meth c ls H locs A Q hQ hx hb hml hr hts hown hlk hnm hsz hAe hP hK hD hS hA hE hAH hl
  have ht : ∀ w ∈ mw, w.before args s = true := fun w h => hts w (List.mem_cons_of_mem _ h)
  have hl : lv_has ls 6 [(0, .ref h), (1, .int (nI a2 - nI b2)), (2, .int (nI i)), (3, .int (nI v))] := hl
  have hi0 : i = (i + 0) % L := by rw [Nat.add_zero, Nat.mod_eq_of_lt hL]
  refine lv_iload_n hx hb d_Cy_comesWithin_0 rfl (lv_at hl 2 rfl) ?_
  rw [show nI i = nI ((i + 0) % L) by rw [← hi0]]
  refine lv_istore (lv' := [(4, .int (nI ((i + 0) % L))), (0, .ref h), (1, .int (nI a2 - nI b2)), (2, .int (nI i)), (3, .int (nI v))]) hx hb d_Cy_comesWithin_1 hl (by decide) rfl (fun ls hl => ?_)
  refine lv_iconst (v := nI 0) hx hb d_Cy_comesWithin_3 (by decide) ?_
  refine lv_istore (lv' := [(5, .int (nI 0)), (4, .int (nI ((i + 0) % L))), (0, .ref h), (1, .int (nI a2 - nI b2)), (2, .int (nI i)), (3, .int (nI v))]) hx hb d_Cy_comesWithin_4 hl (by decide) rfl (fun ls hl => ?_)
  have loop6 : ∀ (d : Nat) (k : Nat) (ls : Array Slot) (H : Heap) (locs : List Loc), a2 - (b2 + k) = d → (∀ d, d < k → f ((i + d) % L) ≠ v) → (k ≤ 40) → lv_has ls 6 [(0, .ref h), (1, .int (nI a2 - nI b2)), (2, .int (nI i)), (3, .int (nI v)), (4, .int (nI ((i + k) % L))), (5, .int (nI k))] → va_P D kcl [(h, .inr (1, [.ref p0, .int (nI L), .int (nI b)])), (p0, .inl (cI, M, .inl (wA f)))] H → va_D A [(h, .inr (1, [.ref p0, .int (nI L), .int (nI b)])), (p0, .inl (cI, M, .inl (wA f)))] → va_S A s.heap H locs → W p l e ({ frames := 1, cells := 0, slots := 0, locals := 21 } : Room) s m args below meth c H locs 0 0 Q (F0 m 6 ls []) := by
    intro d
    induction d using Nat.strongRecOn with
    | ind d ih6 =>
      intro k ls H locs hd6 hno hk9 hl hP hD hS
      have hlt : (i + k) % L < L := Nat.mod_lt _ (by omega)
      refine lv_iload hx hb d_Cy_comesWithin_6 (lv_at hl 5 rfl) ?_
      refine lv_iload_n hx hb d_Cy_comesWithin_8 rfl (lv_at hl 1 rfl) ?_
      refine lv_icmp_ge hx hb d_Cy_comesWithin_9 rfl (fun h9 => ?_) (fun h9 => ?_)
      · have h9 : a2 ≤ b2 + k := (wi_sle (by omega) (by omega) (by omega)).mp h9
        refine lv_iconst (v := nI 0) hx hb d_Cy_comesWithin_39 (by decide) ?_
        exact k_retz hQ hx hb hr hlk hAe hK hP hD hS (Nat.le_of_ble_eq_true rfl) (Nat.le_of_ble_eq_true rfl) (Nat.le_of_ble_eq_true rfl) rfl ⟨nI 0, Or.inr ⟨rfl, fun d hd => hno d (by omega)⟩, rfl, rfl⟩ d_Cy_comesWithin_40
      · have h9 : ¬ a2 ≤ b2 + k := fun z => h9 ((wi_sle (by omega) (by omega) (by omega)).mpr z)
        refine lv_aload_n hx hb d_Cy_comesWithin_12 rfl (lv_at hl 0 rfl) ?_
        refine va_get (D := D) (ci := 1) (v := .ref p0) (C := R_Cy) (T := T_Cy) (N := 3) hx hb ht u_Cy hown hK hP 0 rfl rfl 0 (by decide) (ht _ wd_74) (fun _ h9 => h9) rfl d_Cy_comesWithin_13 ?_
        refine lv_iload hx hb d_Cy_comesWithin_16 (lv_at hl 4 rfl) ?_
        refine wi_ald hx hb hK hP 1 0 rfl rfl (by omega) (by omega) d_Cy_comesWithin_18 ?_
        refine lv_iload_n hx hb d_Cy_comesWithin_19 rfl (lv_at hl 3 rfl) ?_
        refine wi_ne hx hb d_Cy_comesWithin_20 rfl (hf _ hlt) hv (fun h20 => ?_) (fun h20 => ?_)
        · refine lv_aload_n hx hb d_Cy_comesWithin_25 rfl (lv_at hl 0 rfl) ?_
          refine lv_iload hx hb d_Cy_comesWithin_26 (lv_at hl 4 rfl) ?_
          refine ck_i (wc := [(h, .inr (1, [.ref p0, .int (nI L), .int (nI b)]))]) (va_runV (As := [.int (nI ((i + k) % L))]) (rest := []) (C := R_Cy) ⟨hx, hb, hml, hown, ht⟩ (c_Cy_placeAfter l Hs D cI cZ cL h p0 L b ((i + k) % L) (by omega) (by omega) H.size) (gw_V 1 ht wd_169 wd_4 wd_166 wd_167 wd_168 (by decide +kernel) ⟨Nat.le_of_ble_eq_true rfl, Nat.le_of_ble_eq_true rfl⟩) (k_preV hE hAH hK hP hD hS [0] rfl rfl 0 rfl rfl) rfl rfl hl.1 rfl (lv_room (Nat.le_of_ble_eq_true rfl)) d_Cy_comesWithin_28 ⟨Nat.le_of_ble_eq_true rfl, Nat.le_of_ble_eq_true rfl⟩) hP hD hS hA [0] rfl rfl (fun r28 w1 H locs hpost hP hD hS => ?_)
          obtain ⟨rfl, rfl⟩ := hpost
          have hP : va_P D kcl [(h, .inr (1, [.ref p0, .int (nI L), .int (nI b)])), (p0, .inl (cI, M, .inl (wA f)))] H := hP
          have hD : va_D A [(h, .inr (1, [.ref p0, .int (nI L), .int (nI b)])), (p0, .inl (cI, M, .inl (wA f)))] := hD
          have hnx : pw_nxt ((i + k) % L) L = (i + (k + 1)) % L := by rw [pw_nxt_mod hlt, Nat.mod_add_mod]; rfl
          rw [hnx]
          refine lv_istore (lv' := [(4, .int (nI ((i + (k + 1)) % L))), (0, .ref h), (1, .int (nI a2 - nI b2)), (2, .int (nI i)), (3, .int (nI v)), (5, .int (nI k))]) hx hb d_Cy_comesWithin_31 hl (by decide) rfl (fun ls hl => ?_)
          refine wi_inc (k := 5) (lv' := [(5, .int (nI (k + 1))), (4, .int (nI ((i + (k + 1)) % L))), (0, .ref h), (1, .int (nI a2 - nI b2)), (2, .int (nI i)), (3, .int (nI v))]) hx hb d_Cy_comesWithin_33 hl rfl (by decide) rfl (fun ls hl => ?_)
          refine lv_goto hx hb d_Cy_comesWithin_36 rfl ?_
          exact ih6 (a2 - (b2 + (k + 1))) (by omega) (k + 1) ls H locs rfl (lt_s hno h20) (by omega) (lv_sub hl [2, 3, 4, 5, 1, 0] rfl) hP hD hS
        · refine lv_iconst (v := nI 1) hx hb d_Cy_comesWithin_23 (by decide) ?_
          exact k_retz hQ hx hb hr hlk hAe hK hP hD hS (Nat.le_of_ble_eq_true rfl) (Nat.le_of_ble_eq_true rfl) (Nat.le_of_ble_eq_true rfl) rfl ⟨nI 1, Or.inl ⟨rfl, k, by omega, h20⟩, rfl, rfl⟩ d_Cy_comesWithin_24
  exact loop6 _ (0) ls H locs rfl lt_0 (Nat.zero_le _) (lv_sub hl [2, 3, 4, 5, 1, 0] rfl) hP hD hS
set_option maxHeartbeats 4000000 in
set_option maxRecDepth 100000 in
theorem c_Cy_canGoOnFrom (l : Launch) (Hs : Heap) (D : va_G) (cI cZ cL : ClassId) (h : Nat) (p0 : Nat) (M : Nat) (f : Nat → Nat) (L : Nat) (b : Nat) (i : Nat) (co : Nat) (a1 : Nat) (a2 : Nat) (a3 : Nat) (a4 : Nat) (n : Nat) (f1 : Nat → Nat) (f2 : Nat → Nat) (f3 : Nat → Nat) (hL : i < L) (hM : L ≤ M) (hM2 : M ≤ 1500) (hf : ∀ t, t < L → f t < 2 ^ 31) (hn : n ≤ 10) (hc : ∀ t, t < n → f1 t < 2 ^ 31 ∧ f2 t ≤ 40 ∧ f3 t < 2 ^ 20) : kI l Hs D kcl (ty3 cI cZ cL) y_Cy_canGoOnFrom (mws y_Cy_canGoOnFrom b_Cy_canGoOnFrom 4 (Option.some Jvm.ClassFile.FieldType.boolean)) ({ frames := 2, cells := 0, slots := 0, locals := 46 } : Room) [.ref h, .int (nI i), .ref co] [(h, .inr (1, [.ref p0, .int (nI L), .int (nI b)])), (p0, .inl (cI, M, .inl (wA f))), (co, .inr (0, [.ref a1, .ref a2, .ref a3, .ref a4, .int (nI n)])), (a1, .inl (cI, 10, .inl (wA f1))), (a2, .inl (cI, 10, .inl (wA f2))), (a3, .inl (cI, 10, .inl (wA f3)))] (fun r w => ∃ (r0 : Int32), ((r0 = nI 1 ∧ pw_sea n f1 f2 f3 L f i) ∨ (r0 = nI 0 ∧ ¬ pw_sea n f1 f2 f3 L f i)) ∧ r = r0 ∧ w = [(h, .inr (1, [.ref p0, .int (nI L), .int (nI b)])), (p0, .inl (cI, M, .inl (wA f))), (co, .inr (0, [.ref a1, .ref a2, .ref a3, .ref a4, .int (nI n)])), (a1, .inl (cI, 10, .inl (wA f1))), (a2, .inl (cI, 10, .inl (wA f2))), (a3, .inl (cI, 10, .inl (wA f3)))]) := by
  intro sz
  refine k_of (cc := b_Cy_canGoOnFrom) (maxL := 4) (ret := (Option.some Jvm.ClassFile.FieldType.boolean)) (by decide) rfl (Nat.le_of_ble_eq_true rfl) ?_
  intro p e s m args below meth c ls H locs A Q hQ hx hb hml hr hts hown hlk hnm hsz hAe hP hK hD hS hA hE hAH hl
  have ht : ∀ w ∈ mw, w.before args s = true := fun w h => hts w (List.mem_cons_of_mem _ h)
  have hl : lv_has ls 4 [(0, .ref h), (1, .int (nI i)), (2, .ref co)] := hl
  refine lv_iconst (v := nI 0) hx hb d_Cy_canGoOnFrom_0 (by decide) ?_
  refine lv_istore_n (lv' := [(3, .int (nI 0)), (0, .ref h), (1, .int (nI i)), (2, .ref co)]) hx hb d_Cy_canGoOnFrom_1 rfl hl (by decide) rfl (fun ls hl => ?_)
  have loop2 : ∀ (d : Nat) (k : Nat) (ls : Array Slot) (H : Heap) (locs : List Loc), n - k = d → (k ≤ n) → (∀ t, t < k → ∃ d, f3 t + d < f2 t ∧ f ((i + d) % L) = f1 t) → lv_has ls 4 [(0, .ref h), (1, .int (nI i)), (2, .ref co), (3, .int (nI k))] → va_P D kcl [(h, .inr (1, [.ref p0, .int (nI L), .int (nI b)])), (p0, .inl (cI, M, .inl (wA f))), (co, .inr (0, [.ref a1, .ref a2, .ref a3, .ref a4, .int (nI n)])), (a1, .inl (cI, 10, .inl (wA f1))), (a2, .inl (cI, 10, .inl (wA f2))), (a3, .inl (cI, 10, .inl (wA f3)))] H → va_D A [(h, .inr (1, [.ref p0, .int (nI L), .int (nI b)])), (p0, .inl (cI, M, .inl (wA f))), (co, .inr (0, [.ref a1, .ref a2, .ref a3, .ref a4, .int (nI n)])), (a1, .inl (cI, 10, .inl (wA f1))), (a2, .inl (cI, 10, .inl (wA f2))), (a3, .inl (cI, 10, .inl (wA f3)))] → va_S A s.heap H locs → W p l e ({ frames := 2, cells := 0, slots := 0, locals := 46 } : Room) s m args below meth c H locs 0 0 Q (F0 m 2 ls []) := by
    intro d
    induction d using Nat.strongRecOn with
    | ind d ih2 =>
      intro k ls H locs hd2 hk hdo hl hP hD hS
      refine lv_iload_n hx hb d_Cy_canGoOnFrom_2 rfl (lv_at hl 3 rfl) ?_
      refine lv_aload_n hx hb d_Cy_canGoOnFrom_3 rfl (lv_at hl 2 rfl) ?_
      refine ck_i (wc := [(co, .inr (0, [.ref a1, .ref a2, .ref a3, .ref a4, .int (nI n)]))]) (va_runV (As := []) (rest := [.int (nI k)]) (C := R_Cl) ⟨hx, hb, hml, hown, ht⟩ (c_Cl_count l Hs D cI cZ cL co a1 a2 a3 a4 n  H.size) (gw_V 0 ht wd_149 wd_3 wd_146 wd_147 wd_148 (by decide +kernel) ⟨Nat.le_of_ble_eq_true rfl, Nat.le_of_ble_eq_true rfl⟩) (k_preV hE hAH hK hP hD hS [2] rfl rfl 2 rfl rfl) rfl rfl hl.1 rfl (lv_room (Nat.le_of_ble_eq_true rfl)) d_Cy_canGoOnFrom_4 ⟨Nat.le_of_ble_eq_true rfl, Nat.le_of_ble_eq_true rfl⟩) hP hD hS hA [2] rfl rfl (fun r4 w1 H locs hpost hP hD hS => ?_)
      obtain ⟨rfl, rfl⟩ := hpost
      have hP : va_P D kcl [(h, .inr (1, [.ref p0, .int (nI L), .int (nI b)])), (p0, .inl (cI, M, .inl (wA f))), (co, .inr (0, [.ref a1, .ref a2, .ref a3, .ref a4, .int (nI n)])), (a1, .inl (cI, 10, .inl (wA f1))), (a2, .inl (cI, 10, .inl (wA f2))), (a3, .inl (cI, 10, .inl (wA f3)))] H := hP
      have hD : va_D A [(h, .inr (1, [.ref p0, .int (nI L), .int (nI b)])), (p0, .inl (cI, M, .inl (wA f))), (co, .inr (0, [.ref a1, .ref a2, .ref a3, .ref a4, .int (nI n)])), (a1, .inl (cI, 10, .inl (wA f1))), (a2, .inl (cI, 10, .inl (wA f2))), (a3, .inl (cI, 10, .inl (wA f3)))] := hD
      refine wi_ge hx hb d_Cy_canGoOnFrom_7 rfl (by omega) (by omega) (fun h7 => ?_) (fun h7 => ?_)
      · refine lv_iconst (v := nI 1) hx hb d_Cy_canGoOnFrom_42 (by decide) ?_
        exact k_retz hQ hx hb hr hlk hAe hK hP hD hS (Nat.le_of_ble_eq_true rfl) (Nat.le_of_ble_eq_true rfl) (Nat.le_of_ble_eq_true rfl) rfl ⟨nI 1, Or.inl ⟨rfl, fun t h9 => hdo t (by omega)⟩, rfl, rfl⟩ d_Cy_canGoOnFrom_43
      · have hck := hc k h7
        refine lv_aload_n hx hb d_Cy_canGoOnFrom_10 rfl (lv_at hl 0 rfl) ?_
        refine lv_aload_n hx hb d_Cy_canGoOnFrom_11 rfl (lv_at hl 2 rfl) ?_
        refine lv_iload_n hx hb d_Cy_canGoOnFrom_12 rfl (lv_at hl 3 rfl) ?_
        refine ck_i (wc := [(co, .inr (0, [.ref a1, .ref a2, .ref a3, .ref a4, .int (nI n)])), (a2, .inl (cI, 10, .inl (wA f2)))]) (va_runV (As := [.int (nI k)]) (rest := [.ref h]) (C := R_Cl) ⟨hx, hb, hml, hown, ht⟩ (c_Cl_spanAt l Hs D cI cZ cL co a1 a2 a3 a4 n f2 k (by omega) H.size) (gw_V 1 ht wd_153 wd_3 wd_150 wd_151 wd_152 (by decide +kernel) ⟨Nat.le_of_ble_eq_true rfl, Nat.le_of_ble_eq_true rfl⟩) (k_preV hE hAH hK hP hD hS [2, 4] rfl rfl 2 rfl rfl) rfl rfl hl.1 rfl (lv_room (Nat.le_of_ble_eq_true rfl)) d_Cy_canGoOnFrom_13 ⟨Nat.le_of_ble_eq_true rfl, Nat.le_of_ble_eq_true rfl⟩) hP hD hS hA [2, 4] rfl rfl (fun r13 w1 H locs hpost hP hD hS => ?_)
        obtain ⟨rfl, rfl⟩ := hpost
        have hP : va_P D kcl [(h, .inr (1, [.ref p0, .int (nI L), .int (nI b)])), (p0, .inl (cI, M, .inl (wA f))), (co, .inr (0, [.ref a1, .ref a2, .ref a3, .ref a4, .int (nI n)])), (a1, .inl (cI, 10, .inl (wA f1))), (a2, .inl (cI, 10, .inl (wA f2))), (a3, .inl (cI, 10, .inl (wA f3)))] H := hP
        have hD : va_D A [(h, .inr (1, [.ref p0, .int (nI L), .int (nI b)])), (p0, .inl (cI, M, .inl (wA f))), (co, .inr (0, [.ref a1, .ref a2, .ref a3, .ref a4, .int (nI n)])), (a1, .inl (cI, 10, .inl (wA f1))), (a2, .inl (cI, 10, .inl (wA f2))), (a3, .inl (cI, 10, .inl (wA f3)))] := hD
        refine lv_aload_n hx hb d_Cy_canGoOnFrom_16 rfl (lv_at hl 2 rfl) ?_
        refine lv_iload_n hx hb d_Cy_canGoOnFrom_17 rfl (lv_at hl 3 rfl) ?_
        refine ck_i (wc := [(co, .inr (0, [.ref a1, .ref a2, .ref a3, .ref a4, .int (nI n)])), (a3, .inl (cI, 10, .inl (wA f3)))]) (va_runV (As := [.int (nI k)]) (rest := [.int (nI (f2 k)), .ref h]) (C := R_Cl) ⟨hx, hb, hml, hown, ht⟩ (c_Cl_waitAt l Hs D cI cZ cL co a1 a2 a3 a4 n f3 k (by omega) H.size) (gw_V 1 ht wd_157 wd_3 wd_154 wd_155 wd_156 (by decide +kernel) ⟨Nat.le_of_ble_eq_true rfl, Nat.le_of_ble_eq_true rfl⟩) (k_preV hE hAH hK hP hD hS [2, 5] rfl rfl 2 rfl rfl) rfl rfl hl.1 rfl (lv_room (Nat.le_of_ble_eq_true rfl)) d_Cy_canGoOnFrom_18 ⟨Nat.le_of_ble_eq_true rfl, Nat.le_of_ble_eq_true rfl⟩) hP hD hS hA [2, 5] rfl rfl (fun r18 w1 H locs hpost hP hD hS => ?_)
        obtain ⟨rfl, rfl⟩ := hpost
        have hP : va_P D kcl [(h, .inr (1, [.ref p0, .int (nI L), .int (nI b)])), (p0, .inl (cI, M, .inl (wA f))), (co, .inr (0, [.ref a1, .ref a2, .ref a3, .ref a4, .int (nI n)])), (a1, .inl (cI, 10, .inl (wA f1))), (a2, .inl (cI, 10, .inl (wA f2))), (a3, .inl (cI, 10, .inl (wA f3)))] H := hP
        have hD : va_D A [(h, .inr (1, [.ref p0, .int (nI L), .int (nI b)])), (p0, .inl (cI, M, .inl (wA f))), (co, .inr (0, [.ref a1, .ref a2, .ref a3, .ref a4, .int (nI n)])), (a1, .inl (cI, 10, .inl (wA f1))), (a2, .inl (cI, 10, .inl (wA f2))), (a3, .inl (cI, 10, .inl (wA f3)))] := hD
        refine lv_isub hx hb d_Cy_canGoOnFrom_21 ?_
        refine lv_iload_n hx hb d_Cy_canGoOnFrom_22 rfl (lv_at hl 1 rfl) ?_
        refine lv_aload_n hx hb d_Cy_canGoOnFrom_23 rfl (lv_at hl 2 rfl) ?_
        refine lv_iload_n hx hb d_Cy_canGoOnFrom_24 rfl (lv_at hl 3 rfl) ?_
        refine ck_i (wc := [(co, .inr (0, [.ref a1, .ref a2, .ref a3, .ref a4, .int (nI n)])), (a1, .inl (cI, 10, .inl (wA f1)))]) (va_runV (As := [.int (nI k)]) (rest := [.int (nI i), .int ((nI (f2 k)) - (nI (f3 k))), .ref h]) (C := R_Cl) ⟨hx, hb, hml, hown, ht⟩ (c_Cl_idAt l Hs D cI cZ cL co a1 a2 a3 a4 n f1 k (by omega) H.size) (gw_V 1 ht wd_161 wd_3 wd_158 wd_159 wd_160 (by decide +kernel) ⟨Nat.le_of_ble_eq_true rfl, Nat.le_of_ble_eq_true rfl⟩) (k_preV hE hAH hK hP hD hS [2, 3] rfl rfl 2 rfl rfl) rfl rfl hl.1 rfl (lv_room (Nat.le_of_ble_eq_true rfl)) d_Cy_canGoOnFrom_25 ⟨Nat.le_of_ble_eq_true rfl, Nat.le_of_ble_eq_true rfl⟩) hP hD hS hA [2, 3] rfl rfl (fun r25 w1 H locs hpost hP hD hS => ?_)
        obtain ⟨rfl, rfl⟩ := hpost
        have hP : va_P D kcl [(h, .inr (1, [.ref p0, .int (nI L), .int (nI b)])), (p0, .inl (cI, M, .inl (wA f))), (co, .inr (0, [.ref a1, .ref a2, .ref a3, .ref a4, .int (nI n)])), (a1, .inl (cI, 10, .inl (wA f1))), (a2, .inl (cI, 10, .inl (wA f2))), (a3, .inl (cI, 10, .inl (wA f3)))] H := hP
        have hD : va_D A [(h, .inr (1, [.ref p0, .int (nI L), .int (nI b)])), (p0, .inl (cI, M, .inl (wA f))), (co, .inr (0, [.ref a1, .ref a2, .ref a3, .ref a4, .int (nI n)])), (a1, .inl (cI, 10, .inl (wA f1))), (a2, .inl (cI, 10, .inl (wA f2))), (a3, .inl (cI, 10, .inl (wA f3)))] := hD
        refine ck_i (wc := [(h, .inr (1, [.ref p0, .int (nI L), .int (nI b)])), (p0, .inl (cI, M, .inl (wA f)))]) (va_runV (As := [.int (nI (f2 k) - nI (f3 k)), .int (nI i), .int (nI (f1 k))]) (rest := []) (C := R_Cy) ⟨hx, hb, hml, hown, ht⟩ (c_Cy_comesWithin l Hs D cI cZ cL h p0 M f L b (f2 k) (f3 k) i (f1 k) hL hM hM2 hck.2.1 hck.2.2 hck.1 hf H.size) (gw_V 3 ht wd_165 wd_4 wd_162 wd_164 ws_3 (by decide +kernel) ⟨Nat.le_of_ble_eq_true rfl, Nat.le_of_ble_eq_true rfl⟩) (k_preV hE hAH hK hP hD hS [0, 1] rfl rfl 0 rfl rfl) rfl rfl hl.1 rfl (lv_room (Nat.le_of_ble_eq_true rfl)) d_Cy_canGoOnFrom_28 ⟨Nat.le_of_ble_eq_true rfl, Nat.le_of_ble_eq_true rfl⟩) hP hD hS hA [0, 1] rfl rfl (fun r28 w1 H locs hpost hP hD hS => ?_)
        obtain ⟨r0, hcw, rfl, rfl⟩ := hpost
        have hP : va_P D kcl [(h, .inr (1, [.ref p0, .int (nI L), .int (nI b)])), (p0, .inl (cI, M, .inl (wA f))), (co, .inr (0, [.ref a1, .ref a2, .ref a3, .ref a4, .int (nI n)])), (a1, .inl (cI, 10, .inl (wA f1))), (a2, .inl (cI, 10, .inl (wA f2))), (a3, .inl (cI, 10, .inl (wA f3)))] H := hP
        have hD : va_D A [(h, .inr (1, [.ref p0, .int (nI L), .int (nI b)])), (p0, .inl (cI, M, .inl (wA f))), (co, .inr (0, [.ref a1, .ref a2, .ref a3, .ref a4, .int (nI n)])), (a1, .inl (cI, 10, .inl (wA f1))), (a2, .inl (cI, 10, .inl (wA f2))), (a3, .inl (cI, 10, .inl (wA f3)))] := hD
        refine lv_if_ne hx hb d_Cy_canGoOnFrom_31 rfl (fun h31 => ?_) (fun h31 => ?_)
        · have hyes : ∃ d, f3 k + d < f2 k ∧ f ((i + d) % L) = f1 k := by
            rcases hcw with ⟨-, hd⟩ | ⟨e, -⟩
            · exact hd
            · exact absurd e h31
          refine wi_inc (k := 3) (lv' := [(3, .int (nI (k + 1))), (0, .ref h), (1, .int (nI i)), (2, .ref co)]) hx hb d_Cy_canGoOnFrom_36 hl rfl (by decide) rfl (fun ls hl => ?_)
          refine lv_goto hx hb d_Cy_canGoOnFrom_39 rfl ?_
          exact ih2 (n - (k + 1)) (by omega) (k + 1) ls H locs rfl (by omega) (lt_s hdo hyes) (lv_sub hl [1, 2, 3, 0] rfl) hP hD hS
        · have hnot : ∀ d, f3 k + d < f2 k → f ((i + d) % L) ≠ f1 k := by
            rcases hcw with ⟨e, -⟩ | ⟨-, hd⟩
            · rw [e] at h31; exact absurd h31 (by decide)
            · exact hd
          refine lv_iconst (v := nI 0) hx hb d_Cy_canGoOnFrom_34 (by decide) ?_
          exact k_retz hQ hx hb hr hlk hAe hK hP hD hS (Nat.le_of_ble_eq_true rfl) (Nat.le_of_ble_eq_true rfl) (Nat.le_of_ble_eq_true rfl) rfl ⟨nI 0, Or.inr ⟨rfl, fun z => by obtain ⟨d, h1, h2⟩ := z k h7; exact hnot d h1 h2⟩, rfl, rfl⟩ d_Cy_canGoOnFrom_35
  exact loop2 _ (0) ls H locs rfl (Nat.zero_le _) lt_0 (lv_sub hl [1, 2, 3, 0] rfl) hP hD hS
set_option maxHeartbeats 4000000 in
set_option maxRecDepth 100000 in
theorem c_Cy_seamFor (l : Launch) (Hs : Heap) (D : va_G) (cI cZ cL : ClassId) (h : Nat) (p0 : Nat) (M : Nat) (f : Nat → Nat) (L : Nat) (b : Nat) (co : Nat) (a1 : Nat) (a2 : Nat) (a3 : Nat) (a4 : Nat) (n : Nat) (f1 : Nat → Nat) (f2 : Nat → Nat) (f3 : Nat → Nat) (hM : L ≤ M) (hM2 : M ≤ 1500) (hf : ∀ t, t < L → f t < 2 ^ 31) (hn : n ≤ 10) (hc : ∀ t, t < n → f1 t < 2 ^ 31 ∧ f2 t ≤ 40 ∧ f3 t < 2 ^ 20) : kI l Hs D kcl (ty3 cI cZ cL) y_Cy_seamFor (mws y_Cy_seamFor b_Cy_seamFor 3 (Option.some Jvm.ClassFile.FieldType.int)) ({ frames := 3, cells := 0, slots := 0, locals := 69 } : Room) [.ref h, .ref co] [(h, .inr (1, [.ref p0, .int (nI L), .int (nI b)])), (p0, .inl (cI, M, .inl (wA f))), (co, .inr (0, [.ref a1, .ref a2, .ref a3, .ref a4, .int (nI n)])), (a1, .inl (cI, 10, .inl (wA f1))), (a2, .inl (cI, 10, .inl (wA f2))), (a3, .inl (cI, 10, .inl (wA f3)))] (fun r w => ∃ (r0 : Int32), ((∃ x, x < L ∧ r0 = nI x ∧ pw_sea n f1 f2 f3 L f x ∧ ∀ j, j < x → ¬ pw_sea n f1 f2 f3 L f j) ∨ (r0 = -1 ∧ ∀ j, j < L → ¬ pw_sea n f1 f2 f3 L f j)) ∧ r = r0 ∧ w = [(h, .inr (1, [.ref p0, .int (nI L), .int (nI b)])), (p0, .inl (cI, M, .inl (wA f))), (co, .inr (0, [.ref a1, .ref a2, .ref a3, .ref a4, .int (nI n)])), (a1, .inl (cI, 10, .inl (wA f1))), (a2, .inl (cI, 10, .inl (wA f2))), (a3, .inl (cI, 10, .inl (wA f3)))]) := by
  intro sz
  refine k_of (cc := b_Cy_seamFor) (maxL := 3) (ret := (Option.some Jvm.ClassFile.FieldType.int)) (by decide) rfl (Nat.le_of_ble_eq_true rfl) ?_
  intro p e s m args below meth c ls H locs A Q hQ hx hb hml hr hts hown hlk hnm hsz hAe hP hK hD hS hA hE hAH hl
  have ht : ∀ w ∈ mw, w.before args s = true := fun w h => hts w (List.mem_cons_of_mem _ h)
  have hl : lv_has ls 3 [(0, .ref h), (1, .ref co)] := hl
  refine lv_iconst (v := nI 0) hx hb d_Cy_seamFor_0 (by decide) ?_
  refine lv_istore_n (lv' := [(2, .int (nI 0)), (0, .ref h), (1, .ref co)]) hx hb d_Cy_seamFor_1 rfl hl (by decide) rfl (fun ls hl => ?_)
  have loop2 : ∀ (d : Nat) (k : Nat) (ls : Array Slot) (H : Heap) (locs : List Loc), L - k = d → (k ≤ L) → (∀ j, j < k → ¬ pw_sea n f1 f2 f3 L f j) → lv_has ls 3 [(0, .ref h), (1, .ref co), (2, .int (nI k))] → va_P D kcl [(h, .inr (1, [.ref p0, .int (nI L), .int (nI b)])), (p0, .inl (cI, M, .inl (wA f))), (co, .inr (0, [.ref a1, .ref a2, .ref a3, .ref a4, .int (nI n)])), (a1, .inl (cI, 10, .inl (wA f1))), (a2, .inl (cI, 10, .inl (wA f2))), (a3, .inl (cI, 10, .inl (wA f3)))] H → va_D A [(h, .inr (1, [.ref p0, .int (nI L), .int (nI b)])), (p0, .inl (cI, M, .inl (wA f))), (co, .inr (0, [.ref a1, .ref a2, .ref a3, .ref a4, .int (nI n)])), (a1, .inl (cI, 10, .inl (wA f1))), (a2, .inl (cI, 10, .inl (wA f2))), (a3, .inl (cI, 10, .inl (wA f3)))] → va_S A s.heap H locs → W p l e ({ frames := 3, cells := 0, slots := 0, locals := 69 } : Room) s m args below meth c H locs 0 0 Q (F0 m 2 ls []) := by
    intro d
    induction d using Nat.strongRecOn with
    | ind d ih2 =>
      intro k ls H locs hd2 hk hno hl hP hD hS
      refine lv_iload_n hx hb d_Cy_seamFor_2 rfl (lv_at hl 2 rfl) ?_
      refine lv_aload_n hx hb d_Cy_seamFor_3 rfl (lv_at hl 0 rfl) ?_
      refine va_get (D := D) (ci := 1) (v := .int (nI L)) (C := R_Cy) (T := T_Cy) (N := 3) hx hb ht u_Cy hown hK hP 0 rfl rfl 1 (by decide) (ht _ wd_75) (fun _ h9 => h9) rfl d_Cy_seamFor_4 ?_
      refine wi_ge hx hb d_Cy_seamFor_7 rfl (by omega) (by omega) (fun h7 => ?_) (fun h7 => ?_)
      · refine lv_iconst (v := -1) hx hb d_Cy_seamFor_27 (by decide) ?_
        exact k_reti hQ hx hb hr hlk hAe hK hP hD hS (Nat.le_of_ble_eq_true rfl) (Nat.le_of_ble_eq_true rfl) (Nat.le_of_ble_eq_true rfl) ⟨-1, Or.inr ⟨rfl, fun j hj => hno j (by omega)⟩, rfl, rfl⟩ d_Cy_seamFor_28
      · refine lv_aload_n hx hb d_Cy_seamFor_10 rfl (lv_at hl 0 rfl) ?_
        refine lv_iload_n hx hb d_Cy_seamFor_11 rfl (lv_at hl 2 rfl) ?_
        refine lv_aload_n hx hb d_Cy_seamFor_12 rfl (lv_at hl 1 rfl) ?_
        refine ck_i (wc := [(h, .inr (1, [.ref p0, .int (nI L), .int (nI b)])), (p0, .inl (cI, M, .inl (wA f))), (co, .inr (0, [.ref a1, .ref a2, .ref a3, .ref a4, .int (nI n)])), (a1, .inl (cI, 10, .inl (wA f1))), (a2, .inl (cI, 10, .inl (wA f2))), (a3, .inl (cI, 10, .inl (wA f3)))]) (va_runV (As := [.int (nI k), .ref co]) (rest := []) (C := R_Cy) ⟨hx, hb, hml, hown, ht⟩ (c_Cy_canGoOnFrom l Hs D cI cZ cL h p0 M f L b k co a1 a2 a3 a4 n f1 f2 f3 h7 hM hM2 hf hn hc H.size) (gw_V 2 ht wd_145 wd_4 wd_142 wd_144 ws_2 (by decide +kernel) ⟨Nat.le_of_ble_eq_true rfl, Nat.le_of_ble_eq_true rfl⟩) (k_preV hE hAH hK hP hD hS [0, 1, 2, 3, 4, 5] rfl rfl 0 rfl rfl) rfl rfl hl.1 rfl (lv_room (Nat.le_of_ble_eq_true rfl)) d_Cy_seamFor_13 ⟨Nat.le_of_ble_eq_true rfl, Nat.le_of_ble_eq_true rfl⟩) hP hD hS hA [0, 1, 2, 3, 4, 5] rfl rfl (fun r13 w1 H locs hpost hP hD hS => ?_)
        obtain ⟨r0, hcg, rfl, rfl⟩ := hpost
        have hP : va_P D kcl [(h, .inr (1, [.ref p0, .int (nI L), .int (nI b)])), (p0, .inl (cI, M, .inl (wA f))), (co, .inr (0, [.ref a1, .ref a2, .ref a3, .ref a4, .int (nI n)])), (a1, .inl (cI, 10, .inl (wA f1))), (a2, .inl (cI, 10, .inl (wA f2))), (a3, .inl (cI, 10, .inl (wA f3)))] H := hP
        have hD : va_D A [(h, .inr (1, [.ref p0, .int (nI L), .int (nI b)])), (p0, .inl (cI, M, .inl (wA f))), (co, .inr (0, [.ref a1, .ref a2, .ref a3, .ref a4, .int (nI n)])), (a1, .inl (cI, 10, .inl (wA f1))), (a2, .inl (cI, 10, .inl (wA f2))), (a3, .inl (cI, 10, .inl (wA f3)))] := hD
        refine lv_if_eq hx hb d_Cy_seamFor_16 rfl (fun h16 => ?_) (fun h16 => ?_)
        · have hnk : ¬ pw_sea n f1 f2 f3 L f k := by
            rcases hcg with ⟨e, -⟩ | ⟨-, hd⟩
            · rw [e] at h16; exact absurd h16 (by decide)
            · exact hd
          refine wi_inc (k := 2) (lv' := [(2, .int (nI (k + 1))), (0, .ref h), (1, .ref co)]) hx hb d_Cy_seamFor_21 hl rfl (by decide) rfl (fun ls hl => ?_)
          refine lv_goto hx hb d_Cy_seamFor_24 rfl ?_
          exact ih2 (L - (k + 1)) (by omega) (k + 1) ls H locs rfl (by omega) (lt_s hno hnk) (lv_sub hl [1, 2, 0] rfl) hP hD hS
        · have hyk : pw_sea n f1 f2 f3 L f k := by
            rcases hcg with ⟨-, hd⟩ | ⟨e, -⟩
            · exact hd
            · exact absurd e h16
          refine lv_iload_n hx hb d_Cy_seamFor_19 rfl (lv_at hl 2 rfl) ?_
          exact k_reti hQ hx hb hr hlk hAe hK hP hD hS (Nat.le_of_ble_eq_true rfl) (Nat.le_of_ble_eq_true rfl) (Nat.le_of_ble_eq_true rfl) ⟨nI k, Or.inl ⟨k, h7, rfl, hyk, hno⟩, rfl, rfl⟩ d_Cy_seamFor_20
  exact loop2 _ (0) ls H locs rfl (Nat.zero_le _) lt_0 (lv_sub hl [1, 2, 0] rfl) hP hD hS
