/-! RoundingBuilder: a cycle laid with a base. -/
theorem pw_sm_le {f : Nat → Nat} {n B : Nat} (h : ∀ t, t < n → f t ≤ B) : pw_sm f n ≤ n * B := by
  induction n with
  | zero => exact Nat.zero_le _
  | succ n ih =>
    have h1 := ih fun t ht => h t (by omega)
    have h2 := h n (by omega)
    show pw_sm f n + f n ≤ (n + 1) * B
    rw [Nat.succ_mul]
    omega
theorem pw_dl_cg {b n k : Nat} {r r' : Nat → Nat} (h : ∀ t, t < n → r t = r' t) : pw_dl b r n k = pw_dl b r' n k := by
  induction k with
  | zero => rfl
  | succ k ih =>
    show pw_dl b r n k ++ _ = pw_dl b r' n k ++ _
    rw [ih]
    congr 1
    exact List.filter_congr fun t ht => by rw [h t (List.mem_range.mp ht)]
theorem pw_cy_cg {L : Nat} {id r r' : Nat → Nat} : ∀ (l : List Nat), (∀ t ∈ l, r t = r' t) → pw_cy L id r l = pw_cy L id r' l := by
  intro l h
  have key : ∀ (l : List Nat) (c : Nat → Nat), (∀ t ∈ l, r t = r' t) → l.foldl (fun c k => pw_gv L (id k) (r k) c) c = l.foldl (fun c k => pw_gv L (id k) (r' k) c) c := by
    intro l
    induction l with
    | nil => intro c _; rfl
    | cons x t ih =>
      intro c h
      show List.foldl _ (pw_gv L (id x) (r x) c) t = List.foldl _ (pw_gv L (id x) (r' x) c) t
      rw [h x List.mem_cons_self]
      exact ih _ fun y hy => h y (List.mem_cons_of_mem _ hy)
  exact key l _ h
theorem pw_mn_ge {f : Nat → Nat} {n b : Nat} (hb : b ≤ 40) (h : ∀ t, t < n → b ≤ f t) : b ≤ pw_mn f n := by
  induction n with
  | zero => exact hb
  | succ n ih => exact Nat.le_min.mpr ⟨ih fun t ht => h t (by omega), h n (by omega)⟩
theorem pw_mn_all {f : Nat → Nat} {n b : Nat} (h : b ≤ pw_mn f n) : ∀ t, t < n → b ≤ f t := by
  induction n with
  | zero => intro t ht; omega
  | succ n ih =>
    have h2 : b ≤ min (pw_mn f n) (f n) := h
    intro t ht
    by_cases e : t = n
    · subst e; exact (Nat.le_min.mp h2).2
    · exact ih (Nat.le_min.mp h2).1 t (by omega)
set_option maxHeartbeats 4000000 in
set_option maxRecDepth 100000 in
theorem c_Rb_layWithBase0 (l : Launch) (Hs : Heap) (D : va_G) (cI cZ cL : ClassId) (h : Nat) (a0 : Nat) (u : Nat → Nat) (co : Nat) (a1 : Nat) (a2 : Nat) (a3 : Nat) (a4 : Nat) (n : Nat) (f1 : Nat → Nat) (f2 : Nat → Nat) (cy : Nat) (p0 : Nat) (M : Nat) (f : Nat → Nat) (L : Nat) (bu : Nat) (b : Nat) (hn : n ≤ 10) (hid : ∀ t, t < n → f1 t < 2 ^ 31) (hM : M ≤ 1500) (hf2 : ∀ t, t < n → b ≤ f2 t ∧ f2 t ≤ 40) (hb0 : 0 < b) (hb1 : b ≤ 15) (hfit : ¬ pw_fit b f2 n) : kI l Hs D kcl (ty3 cI cZ cL) y_Rb_layWithBase (mws y_Rb_layWithBase b_Rb_layWithBase 7 (Option.some Jvm.ClassFile.FieldType.boolean)) ({ frames := 2, cells := 0, slots := 0, locals := 47 } : Room) [.ref h, .int (nI b), .ref co, .ref cy] [(h, .inr (2, [.ref a0])), (a0, .inl (cI, 10, .inl (wA u))), (co, .inr (0, [.ref a1, .ref a2, .ref a3, .ref a4, .int (nI n)])), (a1, .inl (cI, 10, .inl (wA f1))), (a2, .inl (cI, 10, .inl (wA f2))), (cy, .inr (1, [.ref p0, .int (nI L), .int (nI bu)])), (p0, .inl (cI, M, .inl (wA f)))] (fun r w => ∃ (u2 : Nat → Nat), r = nI 0 ∧ w = [(h, .inr (2, [.ref a0])), (a0, .inl (cI, 10, .inl (wA u2))), (co, .inr (0, [.ref a1, .ref a2, .ref a3, .ref a4, .int (nI n)])), (a1, .inl (cI, 10, .inl (wA f1))), (a2, .inl (cI, 10, .inl (wA f2))), (cy, .inr (1, [.ref p0, .int (nI L), .int (nI bu)])), (p0, .inl (cI, M, .inl (wA f)))]) := by
  intro sz
  refine k_of (cc := b_Rb_layWithBase) (maxL := 7) (ret := (Option.some Jvm.ClassFile.FieldType.boolean)) (by decide) rfl (Nat.le_of_ble_eq_true rfl) ?_
  intro p e s m args below meth c ls H locs A Q hQ hx hb hml hr hts hown hlk hnm hsz hAe hP hK hD hS hA hE hAH hl
  have ht : ∀ w ∈ mw, w.before args s = true := fun w h => hts w (List.mem_cons_of_mem _ h)
  have hl : lv_has ls 7 [(0, .ref h), (1, .int (nI b)), (2, .ref co), (3, .ref cy)] := hl
  refine lv_aload_n hx hb d_Rb_layWithBase_0 rfl (lv_at hl 0 rfl) ?_
  refine lv_iload_n hx hb d_Rb_layWithBase_1 rfl (lv_at hl 1 rfl) ?_
  refine lv_aload_n hx hb d_Rb_layWithBase_2 rfl (lv_at hl 2 rfl) ?_
  refine ck_i (wc := [(h, .inr (2, [.ref a0])), (a0, .inl (cI, 10, .inl (wA u))), (co, .inr (0, [.ref a1, .ref a2, .ref a3, .ref a4, .int (nI n)])), (a2, .inl (cI, 10, .inl (wA f2)))]) (va_runV (As := [.int (nI b), .ref co]) (rest := []) (C := R_Rb) ⟨hx, hb, hml, hown, ht⟩ (c_Rb_roundAll l Hs D cI cZ cL h a0 u co a1 a2 a3 a4 n f2 b hn hf2 H.size) (gw_V 2 ht wd_409 wd_2 wd_406 wd_408 ws_17 (by decide +kernel) ⟨Nat.le_of_ble_eq_true rfl, Nat.le_of_ble_eq_true rfl⟩) (k_preV hE hAH hK hP hD hS [0, 1, 2, 4] rfl rfl 0 rfl rfl) rfl rfl hl.1 rfl (lv_room (Nat.le_of_ble_eq_true rfl)) d_Rb_layWithBase_3 ⟨Nat.le_of_ble_eq_true rfl, Nat.le_of_ble_eq_true rfl⟩) hP hD hS hA [0, 1, 2, 4] rfl rfl (fun r3 w1 H locs hpost hP hD hS => ?_)
  obtain ⟨u2, hu2, rfl, rfl⟩ := hpost
  have hP : va_P D kcl [(h, .inr (2, [.ref a0])), (a0, .inl (cI, 10, .inl (wA u2))), (co, .inr (0, [.ref a1, .ref a2, .ref a3, .ref a4, .int (nI n)])), (a1, .inl (cI, 10, .inl (wA f1))), (a2, .inl (cI, 10, .inl (wA f2))), (cy, .inr (1, [.ref p0, .int (nI L), .int (nI bu)])), (p0, .inl (cI, M, .inl (wA f)))] H := hP
  have hD : va_D A [(h, .inr (2, [.ref a0])), (a0, .inl (cI, 10, .inl (wA u2))), (co, .inr (0, [.ref a1, .ref a2, .ref a3, .ref a4, .int (nI n)])), (a1, .inl (cI, 10, .inl (wA f1))), (a2, .inl (cI, 10, .inl (wA f2))), (cy, .inr (1, [.ref p0, .int (nI L), .int (nI bu)])), (p0, .inl (cI, M, .inl (wA f)))] := hD
  have hLL : pw_mx (pw_r b f2) n ≤ 40 := pw_mx_b (Nat.le_refl n) hf2
  have hLe2 : ∀ X, X = pw_mx (pw_r b f2) n → X ≤ 40 := fun X e => by rw [e]; exact hLL
  generalize hLe : pw_mx (pw_r b f2) n = LL at hLL ⊢
  have hu3 : ∀ t, t < n → 0 < u2 t ∧ u2 t ≤ 40 := fun t ht => by
    rw [hu2 t ht]
    exact ⟨pw_r_pos hb0, Nat.le_trans (pw_rnd_le 6 b (f2 t) (hf2 t ht).1) (hf2 t ht).2⟩
  refine lv_istore (lv' := [(4, .int (nI LL)), (0, .ref h), (1, .int (nI b)), (2, .ref co), (3, .ref cy)]) hx hb d_Rb_layWithBase_6 hl (by decide) rfl (fun ls hl => ?_)
  refine lv_aload_n hx hb d_Rb_layWithBase_8 rfl (lv_at hl 1 rfl) ?_
  refine lv_aload_n hx hb d_Rb_layWithBase_9 rfl (lv_at hl 3 rfl) ?_
  refine ck_i (wc := [(co, .inr (0, [.ref a1, .ref a2, .ref a3, .ref a4, .int (nI n)]))]) (va_runV (As := []) (rest := [.ref h]) (C := R_Cl) ⟨hx, hb, hml, hown, ht⟩ (c_Cl_count l Hs D cI cZ cL co a1 a2 a3 a4 n  H.size) (gw_V 0 ht wd_149 wd_3 wd_410 wd_147 wd_148 (by decide +kernel) ⟨Nat.le_of_ble_eq_true rfl, Nat.le_of_ble_eq_true rfl⟩) (k_preV hE hAH hK hP hD hS [2] rfl rfl 2 rfl rfl) rfl rfl hl.1 rfl (lv_room (Nat.le_of_ble_eq_true rfl)) d_Rb_layWithBase_10 ⟨Nat.le_of_ble_eq_true rfl, Nat.le_of_ble_eq_true rfl⟩) hP hD hS hA [2] rfl rfl (fun r10 w1 H locs hpost hP hD hS => ?_)
  obtain ⟨rfl, rfl⟩ := hpost
  have hP : va_P D kcl [(h, .inr (2, [.ref a0])), (a0, .inl (cI, 10, .inl (wA u2))), (co, .inr (0, [.ref a1, .ref a2, .ref a3, .ref a4, .int (nI n)])), (a1, .inl (cI, 10, .inl (wA f1))), (a2, .inl (cI, 10, .inl (wA f2))), (cy, .inr (1, [.ref p0, .int (nI L), .int (nI bu)])), (p0, .inl (cI, M, .inl (wA f)))] H := hP
  have hD : va_D A [(h, .inr (2, [.ref a0])), (a0, .inl (cI, 10, .inl (wA u2))), (co, .inr (0, [.ref a1, .ref a2, .ref a3, .ref a4, .int (nI n)])), (a1, .inl (cI, 10, .inl (wA f1))), (a2, .inl (cI, 10, .inl (wA f2))), (cy, .inr (1, [.ref p0, .int (nI L), .int (nI bu)])), (p0, .inl (cI, M, .inl (wA f)))] := hD
  refine lv_iload hx hb d_Rb_layWithBase_13 (lv_at hl 0 rfl) ?_
  refine ck_i (wc := [(h, .inr (2, [.ref a0])), (a0, .inl (cI, 10, .inl (wA u2)))]) (va_runV (As := [.int (nI n), .int (nI LL)]) (rest := []) (C := R_Rb) ⟨hx, hb, hml, hown, ht⟩ (c_Rb_placesNeeded l Hs D cI cZ cL h a0 u2 n LL hn (fun t h9 => ⟨(hu3 t h9).1, by have := (hu3 t h9).2; omega⟩) (by omega) H.size) (gw_V 2 ht wd_419 wd_2 wd_416 wd_418 ws_18 (by decide +kernel) ⟨Nat.le_of_ble_eq_true rfl, Nat.le_of_ble_eq_true rfl⟩) (k_preV hE hAH hK hP hD hS [0, 1] rfl rfl 0 rfl rfl) rfl rfl hl.1 rfl (lv_room (Nat.le_of_ble_eq_true rfl)) d_Rb_layWithBase_15 ⟨Nat.le_of_ble_eq_true rfl, Nat.le_of_ble_eq_true rfl⟩) hP hD hS hA [0, 1] rfl rfl (fun r15 w1 H locs hpost hP hD hS => ?_)
  obtain ⟨rfl, rfl⟩ := hpost
  have hP : va_P D kcl [(h, .inr (2, [.ref a0])), (a0, .inl (cI, 10, .inl (wA u2))), (co, .inr (0, [.ref a1, .ref a2, .ref a3, .ref a4, .int (nI n)])), (a1, .inl (cI, 10, .inl (wA f1))), (a2, .inl (cI, 10, .inl (wA f2))), (cy, .inr (1, [.ref p0, .int (nI L), .int (nI bu)])), (p0, .inl (cI, M, .inl (wA f)))] H := hP
  have hD : va_D A [(h, .inr (2, [.ref a0])), (a0, .inl (cI, 10, .inl (wA u2))), (co, .inr (0, [.ref a1, .ref a2, .ref a3, .ref a4, .int (nI n)])), (a1, .inl (cI, 10, .inl (wA f1))), (a2, .inl (cI, 10, .inl (wA f2))), (cy, .inr (1, [.ref p0, .int (nI L), .int (nI bu)])), (p0, .inl (cI, M, .inl (wA f)))] := hD
  have hnd : pw_sm (fun t => LL / u2 t) n = pw_nd2 b f2 n := by
    unfold pw_nd2
    rw [hLe]
    exact pw_sm_congr fun t h9 => by rw [hu2 t h9]
  have hsm : pw_sm (fun t => LL / u2 t) n ≤ n * LL := pw_sm_le fun t _ => Nat.div_le_self _ _
  have hsm2 : n * LL ≤ 10 * 40 := Nat.mul_le_mul hn hLL
  refine lv_iload hx hb d_Rb_layWithBase_18 (lv_at hl 0 rfl) ?_
  refine wi_le hx hb d_Rb_layWithBase_20 rfl (by omega) (by omega) (fun h20 => ?_) (fun h20 => ?_)
  · exact absurd (show pw_nd2 b f2 n ≤ pw_mx (pw_r b f2) n by rw [← hnd, hLe]; exact h20) hfit
  · refine lv_iconst (v := nI 0) hx hb d_Rb_layWithBase_23 (by decide) ?_
    exact k_retz hQ hx hb hr hlk hAe hK hP hD hS (Nat.le_of_ble_eq_true rfl) (Nat.le_of_ble_eq_true rfl) (Nat.le_of_ble_eq_true rfl) rfl ⟨u2, rfl, rfl⟩ d_Rb_layWithBase_24
set_option maxHeartbeats 4000000 in
set_option maxRecDepth 100000 in
theorem c_Rb_layWithBase1 (l : Launch) (Hs : Heap) (D : va_G) (cI cZ cL : ClassId) (h : Nat) (a0 : Nat) (u : Nat → Nat) (co : Nat) (a1 : Nat) (a2 : Nat) (a3 : Nat) (a4 : Nat) (n : Nat) (f1 : Nat → Nat) (f2 : Nat → Nat) (cy : Nat) (p0 : Nat) (M : Nat) (f : Nat → Nat) (L : Nat) (bu : Nat) (b : Nat) (hn : n ≤ 10) (hid : ∀ t, t < n → f1 t < 2 ^ 31) (hM : M ≤ 1500) (hf2 : ∀ t, t < n → b ≤ f2 t ∧ f2 t ≤ 40) (hb0 : 0 < b) (hb1 : b ≤ 15) (hfit : pw_fit b f2 n) : kI l Hs D kcl (ty3 cI cZ cL) y_Rb_layWithBase (mws y_Rb_layWithBase b_Rb_layWithBase 7 (Option.some Jvm.ClassFile.FieldType.boolean)) ({ frames := 3, cells := 1, slots := 1500, locals := 68 } : Room) [.ref h, .int (nI b), .ref co, .ref cy] [(h, .inr (2, [.ref a0])), (a0, .inl (cI, 10, .inl (wA u))), (co, .inr (0, [.ref a1, .ref a2, .ref a3, .ref a4, .int (nI n)])), (a1, .inl (cI, 10, .inl (wA f1))), (a2, .inl (cI, 10, .inl (wA f2))), (cy, .inr (1, [.ref p0, .int (nI L), .int (nI bu)])), (p0, .inl (cI, M, .inl (wA f)))] (fun r w => ∃ (u2 : Nat → Nat), ∃ (p2 : Nat), ∃ (M2 : Nat), ∃ (f3 : Nat → Nat), ∃ (L2 : Nat), (L2 = pw_mx (pw_r b f2) n ∧ L2 ≤ M2 ∧ M2 ≤ 1500 ∧ M ≤ M2 ∧ ∀ j, j < L2 → f3 j = pw_CY b n f1 f2 j) ∧ r = nI 1 ∧ w = [(h, .inr (2, [.ref a0])), (a0, .inl (cI, 10, .inl (wA u2))), (co, .inr (0, [.ref a1, .ref a2, .ref a3, .ref a4, .int (nI n)])), (a1, .inl (cI, 10, .inl (wA f1))), (a2, .inl (cI, 10, .inl (wA f2))), (cy, .inr (1, [.ref p2, .int (nI L2), .int (nI bu)])), (p2, .inl (cI, M2, .inl (wA f3)))]) := by
  intro sz
  refine k_of (cc := b_Rb_layWithBase) (maxL := 7) (ret := (Option.some Jvm.ClassFile.FieldType.boolean)) (by decide) rfl (Nat.le_of_ble_eq_true rfl) ?_
  intro p e s m args below meth c ls H locs A Q hQ hx hb hml hr hts hown hlk hnm hsz hAe hP hK hD hS hA hE hAH hl
  have ht : ∀ w ∈ mw, w.before args s = true := fun w h => hts w (List.mem_cons_of_mem _ h)
  have hl : lv_has ls 7 [(0, .ref h), (1, .int (nI b)), (2, .ref co), (3, .ref cy)] := hl
  refine lv_aload_n hx hb d_Rb_layWithBase_0 rfl (lv_at hl 0 rfl) ?_
  refine lv_iload_n hx hb d_Rb_layWithBase_1 rfl (lv_at hl 1 rfl) ?_
  refine lv_aload_n hx hb d_Rb_layWithBase_2 rfl (lv_at hl 2 rfl) ?_
  refine ck_i (wc := [(h, .inr (2, [.ref a0])), (a0, .inl (cI, 10, .inl (wA u))), (co, .inr (0, [.ref a1, .ref a2, .ref a3, .ref a4, .int (nI n)])), (a2, .inl (cI, 10, .inl (wA f2)))]) (va_runV (As := [.int (nI b), .ref co]) (rest := []) (C := R_Rb) ⟨hx, hb, hml, hown, ht⟩ (c_Rb_roundAll l Hs D cI cZ cL h a0 u co a1 a2 a3 a4 n f2 b hn hf2 H.size) (gw_V 2 ht wd_409 wd_2 wd_406 wd_408 ws_17 (by decide +kernel) ⟨Nat.le_of_ble_eq_true rfl, Nat.le_of_ble_eq_true rfl⟩) (k_preV hE hAH hK hP hD hS [0, 1, 2, 4] rfl rfl 0 rfl rfl) rfl rfl hl.1 rfl (lv_room (Nat.le_of_ble_eq_true rfl)) d_Rb_layWithBase_3 ⟨Nat.le_of_ble_eq_true rfl, Nat.le_of_ble_eq_true rfl⟩) hP hD hS hA [0, 1, 2, 4] rfl rfl (fun r3 w1 H locs hpost hP hD hS => ?_)
  obtain ⟨u2, hu2, rfl, rfl⟩ := hpost
  have hP : va_P D kcl [(h, .inr (2, [.ref a0])), (a0, .inl (cI, 10, .inl (wA u2))), (co, .inr (0, [.ref a1, .ref a2, .ref a3, .ref a4, .int (nI n)])), (a1, .inl (cI, 10, .inl (wA f1))), (a2, .inl (cI, 10, .inl (wA f2))), (cy, .inr (1, [.ref p0, .int (nI L), .int (nI bu)])), (p0, .inl (cI, M, .inl (wA f)))] H := hP
  have hD : va_D A [(h, .inr (2, [.ref a0])), (a0, .inl (cI, 10, .inl (wA u2))), (co, .inr (0, [.ref a1, .ref a2, .ref a3, .ref a4, .int (nI n)])), (a1, .inl (cI, 10, .inl (wA f1))), (a2, .inl (cI, 10, .inl (wA f2))), (cy, .inr (1, [.ref p0, .int (nI L), .int (nI bu)])), (p0, .inl (cI, M, .inl (wA f)))] := hD
  have hLL : pw_mx (pw_r b f2) n ≤ 40 := pw_mx_b (Nat.le_refl n) hf2
  have hLe2 : ∀ X, X = pw_mx (pw_r b f2) n → X ≤ 40 := fun X e => by rw [e]; exact hLL
  generalize hLe : pw_mx (pw_r b f2) n = LL at hLL ⊢
  have hu3 : ∀ t, t < n → 0 < u2 t ∧ u2 t ≤ 40 := fun t ht => by
    rw [hu2 t ht]
    exact ⟨pw_r_pos hb0, Nat.le_trans (pw_rnd_le 6 b (f2 t) (hf2 t ht).1) (hf2 t ht).2⟩
  refine lv_istore (lv' := [(4, .int (nI LL)), (0, .ref h), (1, .int (nI b)), (2, .ref co), (3, .ref cy)]) hx hb d_Rb_layWithBase_6 hl (by decide) rfl (fun ls hl => ?_)
  refine lv_aload_n hx hb d_Rb_layWithBase_8 rfl (lv_at hl 1 rfl) ?_
  refine lv_aload_n hx hb d_Rb_layWithBase_9 rfl (lv_at hl 3 rfl) ?_
  refine ck_i (wc := [(co, .inr (0, [.ref a1, .ref a2, .ref a3, .ref a4, .int (nI n)]))]) (va_runV (As := []) (rest := [.ref h]) (C := R_Cl) ⟨hx, hb, hml, hown, ht⟩ (c_Cl_count l Hs D cI cZ cL co a1 a2 a3 a4 n  H.size) (gw_V 0 ht wd_149 wd_3 wd_410 wd_147 wd_148 (by decide +kernel) ⟨Nat.le_of_ble_eq_true rfl, Nat.le_of_ble_eq_true rfl⟩) (k_preV hE hAH hK hP hD hS [2] rfl rfl 2 rfl rfl) rfl rfl hl.1 rfl (lv_room (Nat.le_of_ble_eq_true rfl)) d_Rb_layWithBase_10 ⟨Nat.le_of_ble_eq_true rfl, Nat.le_of_ble_eq_true rfl⟩) hP hD hS hA [2] rfl rfl (fun r10 w1 H locs hpost hP hD hS => ?_)
  obtain ⟨rfl, rfl⟩ := hpost
  have hP : va_P D kcl [(h, .inr (2, [.ref a0])), (a0, .inl (cI, 10, .inl (wA u2))), (co, .inr (0, [.ref a1, .ref a2, .ref a3, .ref a4, .int (nI n)])), (a1, .inl (cI, 10, .inl (wA f1))), (a2, .inl (cI, 10, .inl (wA f2))), (cy, .inr (1, [.ref p0, .int (nI L), .int (nI bu)])), (p0, .inl (cI, M, .inl (wA f)))] H := hP
  have hD : va_D A [(h, .inr (2, [.ref a0])), (a0, .inl (cI, 10, .inl (wA u2))), (co, .inr (0, [.ref a1, .ref a2, .ref a3, .ref a4, .int (nI n)])), (a1, .inl (cI, 10, .inl (wA f1))), (a2, .inl (cI, 10, .inl (wA f2))), (cy, .inr (1, [.ref p0, .int (nI L), .int (nI bu)])), (p0, .inl (cI, M, .inl (wA f)))] := hD
  refine lv_iload hx hb d_Rb_layWithBase_13 (lv_at hl 0 rfl) ?_
  refine ck_i (wc := [(h, .inr (2, [.ref a0])), (a0, .inl (cI, 10, .inl (wA u2)))]) (va_runV (As := [.int (nI n), .int (nI LL)]) (rest := []) (C := R_Rb) ⟨hx, hb, hml, hown, ht⟩ (c_Rb_placesNeeded l Hs D cI cZ cL h a0 u2 n LL hn (fun t h9 => ⟨(hu3 t h9).1, by have := (hu3 t h9).2; omega⟩) (by omega) H.size) (gw_V 2 ht wd_419 wd_2 wd_416 wd_418 ws_18 (by decide +kernel) ⟨Nat.le_of_ble_eq_true rfl, Nat.le_of_ble_eq_true rfl⟩) (k_preV hE hAH hK hP hD hS [0, 1] rfl rfl 0 rfl rfl) rfl rfl hl.1 rfl (lv_room (Nat.le_of_ble_eq_true rfl)) d_Rb_layWithBase_15 ⟨Nat.le_of_ble_eq_true rfl, Nat.le_of_ble_eq_true rfl⟩) hP hD hS hA [0, 1] rfl rfl (fun r15 w1 H locs hpost hP hD hS => ?_)
  obtain ⟨rfl, rfl⟩ := hpost
  have hP : va_P D kcl [(h, .inr (2, [.ref a0])), (a0, .inl (cI, 10, .inl (wA u2))), (co, .inr (0, [.ref a1, .ref a2, .ref a3, .ref a4, .int (nI n)])), (a1, .inl (cI, 10, .inl (wA f1))), (a2, .inl (cI, 10, .inl (wA f2))), (cy, .inr (1, [.ref p0, .int (nI L), .int (nI bu)])), (p0, .inl (cI, M, .inl (wA f)))] H := hP
  have hD : va_D A [(h, .inr (2, [.ref a0])), (a0, .inl (cI, 10, .inl (wA u2))), (co, .inr (0, [.ref a1, .ref a2, .ref a3, .ref a4, .int (nI n)])), (a1, .inl (cI, 10, .inl (wA f1))), (a2, .inl (cI, 10, .inl (wA f2))), (cy, .inr (1, [.ref p0, .int (nI L), .int (nI bu)])), (p0, .inl (cI, M, .inl (wA f)))] := hD
  have hnd : pw_sm (fun t => LL / u2 t) n = pw_nd2 b f2 n := by
    unfold pw_nd2
    rw [hLe]
    exact pw_sm_congr fun t h9 => by rw [hu2 t h9]
  have hsm : pw_sm (fun t => LL / u2 t) n ≤ n * LL := pw_sm_le fun t _ => Nat.div_le_self _ _
  have hsm2 : n * LL ≤ 10 * 40 := Nat.mul_le_mul hn hLL
  refine lv_iload hx hb d_Rb_layWithBase_18 (lv_at hl 0 rfl) ?_
  refine wi_le hx hb d_Rb_layWithBase_20 rfl (by omega) (by omega) (fun h20 => ?_) (fun h20 => ?_)
  · refine lv_aload_n hx hb d_Rb_layWithBase_25 rfl (lv_at hl 4 rfl) ?_
    refine lv_iload hx hb d_Rb_layWithBase_26 (lv_at hl 0 rfl) ?_
    refine ck_v (wc := [(cy, .inr (1, [.ref p0, .int (nI L), .int (nI bu)])), (p0, .inl (cI, M, .inl (wA f)))]) (va_runV (As := [.int (nI LL)]) (rest := []) (C := R_Cy) ⟨hx, hb, hml, hown, ht⟩ (c_Cy_clear l Hs D cI cZ cL cy p0 M f L bu LL (by omega) hM H.size) (gw_V 1 ht wd_423 wd_4 wd_420 wd_421 wd_422 (by decide +kernel) ⟨Nat.le_of_ble_eq_true rfl, Nat.le_of_ble_eq_true rfl⟩) (k_preV hE hAH hK hP hD hS [5, 6] rfl rfl 5 rfl rfl) rfl rfl hl.1 rfl (lv_room (Nat.le_of_ble_eq_true rfl)) d_Rb_layWithBase_28 ⟨Nat.le_of_ble_eq_true rfl, Nat.le_of_ble_eq_true rfl⟩) hP hD hS hA [5, 6] rfl rfl (fun w1 H locs hpost hP hD hS => ?_)
    obtain ⟨p2, M2, f3, hk2, hM2, hMM, h00, rfl⟩ := hpost
    have hP : va_P D kcl [(h, .inr (2, [.ref a0])), (a0, .inl (cI, 10, .inl (wA u2))), (co, .inr (0, [.ref a1, .ref a2, .ref a3, .ref a4, .int (nI n)])), (a1, .inl (cI, 10, .inl (wA f1))), (a2, .inl (cI, 10, .inl (wA f2))), (cy, .inr (1, [.ref p2, .int (nI LL), .int (nI bu)])), (p2, .inl (cI, M2, .inl (wA f3)))] H := hP
    have hD : va_D A [(h, .inr (2, [.ref a0])), (a0, .inl (cI, 10, .inl (wA u2))), (co, .inr (0, [.ref a1, .ref a2, .ref a3, .ref a4, .int (nI n)])), (a1, .inl (cI, 10, .inl (wA f1))), (a2, .inl (cI, 10, .inl (wA f2))), (cy, .inr (1, [.ref p2, .int (nI LL), .int (nI bu)])), (p2, .inl (cI, M2, .inl (wA f3)))] := hD
    refine W.widen (k := 1) (n := 1500) (by decide) (by decide) ?_
    refine lv_iload_n hx hb d_Rb_layWithBase_31 rfl (lv_at hl 2 rfl) ?_
    rw [show nI b = nI (b * 2 ^ 0) by rw [Nat.pow_zero, Nat.mul_one]]
    refine lv_istore (lv' := [(5, .int (nI (b * 2 ^ 0))), (4, .int (nI LL)), (0, .ref h), (1, .int (nI b)), (2, .ref co), (3, .ref cy)]) hx hb d_Rb_layWithBase_32 hl (by decide) rfl (fun ls hl => ?_)
    refine lv_iconst (v := nI 0) hx hb d_Rb_layWithBase_34 (by decide) ?_
    refine lv_istore (lv' := [(6, .int (nI 0)), (5, .int (nI (b * 2 ^ 0))), (4, .int (nI LL)), (0, .ref h), (1, .int (nI b)), (2, .ref co), (3, .ref cy)]) hx hb d_Rb_layWithBase_35 hl (by decide) rfl (fun ls hl => ?_)
    have loop37 : ∀ (d : Nat) (k : Nat) (g : Nat → Nat) (ls : Array Slot) (H : Heap) (locs : List Loc), 7 - k = d → (k ≤ 7) → (∀ j, j < LL → g j = pw_cy LL f1 u2 (pw_dl b u2 n k) j) → (∀ t, t < LL → g t < 2 ^ 31) → lv_has ls 7 [(0, .ref h), (1, .int (nI b)), (2, .ref co), (3, .ref cy), (4, .int (nI LL)), (5, .int (nI (b * 2 ^ k))), (6, .int (nI k))] → va_P D kcl [(h, .inr (2, [.ref a0])), (a0, .inl (cI, 10, .inl (wA u2))), (co, .inr (0, [.ref a1, .ref a2, .ref a3, .ref a4, .int (nI n)])), (a1, .inl (cI, 10, .inl (wA f1))), (a2, .inl (cI, 10, .inl (wA f2))), (cy, .inr (1, [.ref p2, .int (nI LL), .int (nI bu)])), (p2, .inl (cI, M2, .inl (wA g)))] H → va_D A [(h, .inr (2, [.ref a0])), (a0, .inl (cI, 10, .inl (wA u2))), (co, .inr (0, [.ref a1, .ref a2, .ref a3, .ref a4, .int (nI n)])), (a1, .inl (cI, 10, .inl (wA f1))), (a2, .inl (cI, 10, .inl (wA f2))), (cy, .inr (1, [.ref p2, .int (nI LL), .int (nI bu)])), (p2, .inl (cI, M2, .inl (wA g)))] → va_S A s.heap H locs → W p l e ({ frames := 3, cells := 1, slots := 1500, locals := 68 } : Room) s m args below meth c H locs 1 1500 Q (F0 m 37 ls []) := by
      intro d
      induction d using Nat.strongRecOn with
      | ind d ih37 =>
        intro k g ls H locs hd37 hk hg hgl hl hP hD hS
        have hst : b * 2 ^ k ≤ 15 * 2 ^ 7 := Nat.mul_le_mul hb1 (Nat.pow_le_pow_right (by decide) hk)
        refine lv_iload hx hb d_Rb_layWithBase_37 (lv_at hl 6 rfl) ?_
        refine lv_bipush (v := nI 6) hx hb d_Rb_layWithBase_39 (by decide) ?_
        refine wi_gt hx hb d_Rb_layWithBase_41 rfl (by omega) (by omega) (fun h41 => ?_) (fun h41 => ?_)
        · have hex : k = 7 ∨ pw_mx (pw_r b f2) n < b * 2 ^ k := Or.inl (by omega)
          refine lv_iconst (v := nI 1) hx hb d_Rb_layWithBase_71 (by decide) ?_
          have hfin : ∀ j, j < LL → g j = pw_CY b n f1 f2 j := fun j hj => by
            rw [hg j hj, pw_CY, hLe, ← pw_dl_all hb0 hex, pw_dl_cg hu2, pw_cy_cg _ fun t h9 => hu2 t ((pw_dl_mem k).mp h9).1]
          exact k_retz hQ hx hb hr hlk hAe hK hP hD hS (Nat.le_of_ble_eq_true rfl) (Nat.le_of_ble_eq_true rfl) (Nat.le_of_ble_eq_true rfl) rfl ⟨u2, p2, M2, g, LL, ⟨hLe.symm, hk2, hM2, hMM, hfin⟩, rfl, rfl⟩ d_Rb_layWithBase_72
        · refine lv_iload hx hb d_Rb_layWithBase_44 (lv_at hl 5 rfl) ?_
          refine lv_iload hx hb d_Rb_layWithBase_46 (lv_at hl 4 rfl) ?_
          refine wi_gt hx hb d_Rb_layWithBase_48 rfl (by omega) (by omega) (fun h48 => ?_) (fun h48 => ?_)
          · have hex : k = 7 ∨ pw_mx (pw_r b f2) n < b * 2 ^ k := Or.inr (by rw [hLe]; exact h48)
            refine lv_iconst (v := nI 1) hx hb d_Rb_layWithBase_71 (by decide) ?_
            have hfin : ∀ j, j < LL → g j = pw_CY b n f1 f2 j := fun j hj => by
              rw [hg j hj, pw_CY, hLe, ← pw_dl_all hb0 hex, pw_dl_cg hu2, pw_cy_cg _ fun t h9 => hu2 t ((pw_dl_mem k).mp h9).1]
            exact k_retz hQ hx hb hr hlk hAe hK hP hD hS (Nat.le_of_ble_eq_true rfl) (Nat.le_of_ble_eq_true rfl) (Nat.le_of_ble_eq_true rfl) rfl ⟨u2, p2, M2, g, LL, ⟨hLe.symm, hk2, hM2, hMM, hfin⟩, rfl, rfl⟩ d_Rb_layWithBase_72
          · refine lv_aload_n hx hb d_Rb_layWithBase_51 rfl (lv_at hl 0 rfl) ?_
            refine lv_iload hx hb d_Rb_layWithBase_52 (lv_at hl 5 rfl) ?_
            refine lv_aload_n hx hb d_Rb_layWithBase_54 rfl (lv_at hl 2 rfl) ?_
            refine lv_aload_n hx hb d_Rb_layWithBase_55 rfl (lv_at hl 3 rfl) ?_
            refine ck_v (wc := [(h, .inr (2, [.ref a0])), (a0, .inl (cI, 10, .inl (wA u2))), (co, .inr (0, [.ref a1, .ref a2, .ref a3, .ref a4, .int (nI n)])), (a1, .inl (cI, 10, .inl (wA f1))), (cy, .inr (1, [.ref p2, .int (nI LL), .int (nI bu)])), (p2, .inl (cI, M2, .inl (wA g)))]) (va_runV (As := [.int (nI (b * 2 ^ k)), .ref co, .ref cy]) (rest := []) (C := R_Rb) ⟨hx, hb, hml, hown, ht⟩ (c_Rb_giveToAllWith l Hs D cI cZ cL h a0 u2 co a1 a2 a3 a4 n f1 cy p2 M2 g LL bu (b * 2 ^ k) hn (fun t h9 => by have := (hu3 t h9).2; omega) hid hk2 hM2 hgl (Nat.mul_pos hb0 (Nat.pow_pos (by decide))) (by omega) H.size) (gw_V 3 ht wd_711 wd_2 wd_708 wd_710 ws_20 (by decide +kernel) ⟨Nat.le_of_ble_eq_true rfl, Nat.le_of_ble_eq_true rfl⟩) (k_preV hE hAH hK hP hD hS [0, 1, 2, 3, 5, 6] rfl rfl 0 rfl rfl) rfl rfl hl.1 rfl (lv_room (Nat.le_of_ble_eq_true rfl)) d_Rb_layWithBase_56 ⟨Nat.le_of_ble_eq_true rfl, Nat.le_of_ble_eq_true rfl⟩) hP hD hS hA [0, 1, 2, 3, 5, 6] rfl rfl (fun w1 H locs hpost hP hD hS => ?_)
            obtain rfl := hpost
            have hP : va_P D kcl [(h, .inr (2, [.ref a0])), (a0, .inl (cI, 10, .inl (wA u2))), (co, .inr (0, [.ref a1, .ref a2, .ref a3, .ref a4, .int (nI n)])), (a1, .inl (cI, 10, .inl (wA f1))), (a2, .inl (cI, 10, .inl (wA f2))), (cy, .inr (1, [.ref p2, .int (nI LL), .int (nI bu)])), (p2, .inl (cI, M2, .inl (wA (pw_gf LL f1 u2 (b * 2 ^ k) g n))))] H := hP
            have hD : va_D A [(h, .inr (2, [.ref a0])), (a0, .inl (cI, 10, .inl (wA u2))), (co, .inr (0, [.ref a1, .ref a2, .ref a3, .ref a4, .int (nI n)])), (a1, .inl (cI, 10, .inl (wA f1))), (a2, .inl (cI, 10, .inl (wA f2))), (cy, .inr (1, [.ref p2, .int (nI LL), .int (nI bu)])), (p2, .inl (cI, M2, .inl (wA (pw_gf LL f1 u2 (b * 2 ^ k) g n))))] := hD
            refine lv_iload hx hb d_Rb_layWithBase_59 (lv_at hl 5 rfl) ?_
            refine lv_iconst (v := nI 2) hx hb d_Rb_layWithBase_61 (by decide) ?_
            refine wi_mul hx hb d_Rb_layWithBase_62 ?_
            rw [show b * 2 ^ k * 2 = b * 2 ^ (k + 1) by rw [Nat.pow_succ, Nat.mul_assoc]]
            refine lv_istore (lv' := [(5, .int (nI (b * 2 ^ (k + 1)))), (0, .ref h), (1, .int (nI b)), (2, .ref co), (3, .ref cy), (4, .int (nI LL)), (6, .int (nI k))]) hx hb d_Rb_layWithBase_63 hl (by decide) rfl (fun ls hl => ?_)
            refine wi_inc (k := 6) (lv' := [(6, .int (nI (k + 1))), (5, .int (nI (b * 2 ^ (k + 1)))), (0, .ref h), (1, .int (nI b)), (2, .ref co), (3, .ref cy), (4, .int (nI LL))]) hx hb d_Rb_layWithBase_65 hl rfl (by decide) rfl (fun ls hl => ?_)
            refine lv_goto hx hb d_Rb_layWithBase_68 rfl ?_
            exact ih37 (7 - (k + 1)) (by omega) (k + 1) (pw_gf LL f1 u2 (b * 2 ^ k) g n) ls H locs rfl (by omega) (pw_gf_cy hg n) (pw_gf_lt hgl hid n (Nat.le_refl n)) (lv_sub hl [2, 3, 4, 5, 6, 1, 0] rfl) hP hD hS
    exact loop37 _ (0) (f3) ls H locs rfl (Nat.zero_le _) (fun j hj => h00 j hj) (fun j hj => by rw [h00 j hj]; decide) (lv_sub hl [3, 4, 5, 6, 2, 1, 0] rfl) hP hD hS
  · exact absurd (show pw_nd2 b f2 n ≤ pw_mx (pw_r b f2) n from hfit) (by rw [← hnd, hLe]; omega)
set_option maxHeartbeats 4000000 in
set_option maxRecDepth 100000 in
theorem c_Rb_layByPowers1 (l : Launch) (Hs : Heap) (D : va_G) (cI cZ cL : ClassId) (h : Nat) (a0 : Nat) (u : Nat → Nat) (co : Nat) (a1 : Nat) (a2 : Nat) (a3 : Nat) (a4 : Nat) (n : Nat) (f1 : Nat → Nat) (f2 : Nat → Nat) (cy : Nat) (p0 : Nat) (M : Nat) (f : Nat → Nat) (L : Nat) (bu : Nat) (hn : n ≤ 10) (hid : ∀ t, t < n → f1 t < 2 ^ 31) (hM : M ≤ 1500) (hf2 : ∀ t, t < n → 1 ≤ f2 t ∧ f2 t ≤ 40) (hfit : pw_fit 1 f2 n) : kI l Hs D kcl (ty3 cI cZ cL) y_Rb_layByPowers (mws y_Rb_layByPowers b_Rb_layByPowers 3 (Option.some Jvm.ClassFile.FieldType.boolean)) ({ frames := 4, cells := 1, slots := 1500, locals := 94 } : Room) [.ref h, .ref co, .ref cy] [(h, .inr (2, [.ref a0])), (a0, .inl (cI, 10, .inl (wA u))), (co, .inr (0, [.ref a1, .ref a2, .ref a3, .ref a4, .int (nI n)])), (a1, .inl (cI, 10, .inl (wA f1))), (a2, .inl (cI, 10, .inl (wA f2))), (cy, .inr (1, [.ref p0, .int (nI L), .int (nI bu)])), (p0, .inl (cI, M, .inl (wA f)))] (fun r w => ∃ (u2 : Nat → Nat), ∃ (p2 : Nat), ∃ (M2 : Nat), ∃ (f3 : Nat → Nat), ∃ (L2 : Nat), (L2 = pw_mx (pw_r 1 f2) n ∧ L2 ≤ M2 ∧ M2 ≤ 1500 ∧ M ≤ M2 ∧ ∀ j, j < L2 → f3 j = pw_CY 1 n f1 f2 j) ∧ r = nI 1 ∧ w = [(h, .inr (2, [.ref a0])), (a0, .inl (cI, 10, .inl (wA u2))), (co, .inr (0, [.ref a1, .ref a2, .ref a3, .ref a4, .int (nI n)])), (a1, .inl (cI, 10, .inl (wA f1))), (a2, .inl (cI, 10, .inl (wA f2))), (cy, .inr (1, [.ref p2, .int (nI L2), .int (nI bu)])), (p2, .inl (cI, M2, .inl (wA f3)))]) := by
  intro sz
  refine k_of (cc := b_Rb_layByPowers) (maxL := 3) (ret := (Option.some Jvm.ClassFile.FieldType.boolean)) (by decide) rfl (Nat.le_of_ble_eq_true rfl) ?_
  intro p e s m args below meth c ls H locs A Q hQ hx hb hml hr hts hown hlk hnm hsz hAe hP hK hD hS hA hE hAH hl
  have ht : ∀ w ∈ mw, w.before args s = true := fun w h => hts w (List.mem_cons_of_mem _ h)
  have hl : lv_has ls 3 [(0, .ref h), (1, .ref co), (2, .ref cy)] := hl
  refine lv_aload_n hx hb d_Rb_layByPowers_0 rfl (lv_at hl 0 rfl) ?_
  refine lv_iconst (v := nI 1) hx hb d_Rb_layByPowers_1 (by decide) ?_
  refine lv_aload_n hx hb d_Rb_layByPowers_2 rfl (lv_at hl 1 rfl) ?_
  refine lv_aload_n hx hb d_Rb_layByPowers_3 rfl (lv_at hl 2 rfl) ?_
  refine ck_i (wc := [(h, .inr (2, [.ref a0])), (a0, .inl (cI, 10, .inl (wA u))), (co, .inr (0, [.ref a1, .ref a2, .ref a3, .ref a4, .int (nI n)])), (a1, .inl (cI, 10, .inl (wA f1))), (a2, .inl (cI, 10, .inl (wA f2))), (cy, .inr (1, [.ref p0, .int (nI L), .int (nI bu)])), (p0, .inl (cI, M, .inl (wA f)))]) (va_runV (As := [.int (nI 1), .ref co, .ref cy]) (rest := []) (C := R_Rb) ⟨hx, hb, hml, hown, ht⟩ (c_Rb_layWithBase1 l Hs D cI cZ cL h a0 u co a1 a2 a3 a4 n f1 f2 cy p0 M f L bu 1 hn hid hM hf2 (by decide) (by decide) hfit H.size) (gw_V 3 ht wd_405 wd_2 wd_402 wd_404 ws_16 (by decide +kernel) ⟨Nat.le_of_ble_eq_true rfl, Nat.le_of_ble_eq_true rfl⟩) (k_preV hE hAH hK hP hD hS [0, 1, 2, 3, 4, 5, 6] rfl rfl 0 rfl rfl) rfl rfl hl.1 rfl (lv_room (Nat.le_of_ble_eq_true rfl)) d_Rb_layByPowers_4 ⟨Nat.le_of_ble_eq_true rfl, Nat.le_of_ble_eq_true rfl⟩) hP hD hS hA [0, 1, 2, 3, 4, 5, 6] rfl rfl (fun r4 w1 H locs hpost hP hD hS => ?_)
  obtain ⟨u2, p2, M2, f3, L2, hlw, rfl, rfl⟩ := hpost
  have hP : va_P D kcl [(h, .inr (2, [.ref a0])), (a0, .inl (cI, 10, .inl (wA u2))), (co, .inr (0, [.ref a1, .ref a2, .ref a3, .ref a4, .int (nI n)])), (a1, .inl (cI, 10, .inl (wA f1))), (a2, .inl (cI, 10, .inl (wA f2))), (cy, .inr (1, [.ref p2, .int (nI L2), .int (nI bu)])), (p2, .inl (cI, M2, .inl (wA f3)))] H := hP
  have hD : va_D A [(h, .inr (2, [.ref a0])), (a0, .inl (cI, 10, .inl (wA u2))), (co, .inr (0, [.ref a1, .ref a2, .ref a3, .ref a4, .int (nI n)])), (a1, .inl (cI, 10, .inl (wA f1))), (a2, .inl (cI, 10, .inl (wA f2))), (cy, .inr (1, [.ref p2, .int (nI L2), .int (nI bu)])), (p2, .inl (cI, M2, .inl (wA f3)))] := hD
  refine W.widen (k := 1) (n := 1500) (by decide) (by decide) ?_
  exact k_retz hQ hx hb hr hlk hAe hK hP hD hS (Nat.le_of_ble_eq_true rfl) (Nat.le_of_ble_eq_true rfl) (Nat.le_of_ble_eq_true rfl) rfl ⟨u2, p2, M2, f3, L2, hlw, rfl, rfl⟩ d_Rb_layByPowers_7
set_option maxHeartbeats 4000000 in
set_option maxRecDepth 100000 in
theorem c_Rb_layByPowers0 (l : Launch) (Hs : Heap) (D : va_G) (cI cZ cL : ClassId) (h : Nat) (a0 : Nat) (u : Nat → Nat) (co : Nat) (a1 : Nat) (a2 : Nat) (a3 : Nat) (a4 : Nat) (n : Nat) (f1 : Nat → Nat) (f2 : Nat → Nat) (cy : Nat) (p0 : Nat) (M : Nat) (f : Nat → Nat) (L : Nat) (bu : Nat) (hn : n ≤ 10) (hid : ∀ t, t < n → f1 t < 2 ^ 31) (hM : M ≤ 1500) (hf2 : ∀ t, t < n → 1 ≤ f2 t ∧ f2 t ≤ 40) (hfit : ¬ pw_fit 1 f2 n) : kI l Hs D kcl (ty3 cI cZ cL) y_Rb_layByPowers (mws y_Rb_layByPowers b_Rb_layByPowers 3 (Option.some Jvm.ClassFile.FieldType.boolean)) ({ frames := 3, cells := 0, slots := 0, locals := 73 } : Room) [.ref h, .ref co, .ref cy] [(h, .inr (2, [.ref a0])), (a0, .inl (cI, 10, .inl (wA u))), (co, .inr (0, [.ref a1, .ref a2, .ref a3, .ref a4, .int (nI n)])), (a1, .inl (cI, 10, .inl (wA f1))), (a2, .inl (cI, 10, .inl (wA f2))), (cy, .inr (1, [.ref p0, .int (nI L), .int (nI bu)])), (p0, .inl (cI, M, .inl (wA f)))] (fun r w => ∃ (u2 : Nat → Nat), r = nI 0 ∧ w = [(h, .inr (2, [.ref a0])), (a0, .inl (cI, 10, .inl (wA u2))), (co, .inr (0, [.ref a1, .ref a2, .ref a3, .ref a4, .int (nI n)])), (a1, .inl (cI, 10, .inl (wA f1))), (a2, .inl (cI, 10, .inl (wA f2))), (cy, .inr (1, [.ref p0, .int (nI L), .int (nI bu)])), (p0, .inl (cI, M, .inl (wA f)))]) := by
  intro sz
  refine k_of (cc := b_Rb_layByPowers) (maxL := 3) (ret := (Option.some Jvm.ClassFile.FieldType.boolean)) (by decide) rfl (Nat.le_of_ble_eq_true rfl) ?_
  intro p e s m args below meth c ls H locs A Q hQ hx hb hml hr hts hown hlk hnm hsz hAe hP hK hD hS hA hE hAH hl
  have ht : ∀ w ∈ mw, w.before args s = true := fun w h => hts w (List.mem_cons_of_mem _ h)
  have hl : lv_has ls 3 [(0, .ref h), (1, .ref co), (2, .ref cy)] := hl
  refine lv_aload_n hx hb d_Rb_layByPowers_0 rfl (lv_at hl 0 rfl) ?_
  refine lv_iconst (v := nI 1) hx hb d_Rb_layByPowers_1 (by decide) ?_
  refine lv_aload_n hx hb d_Rb_layByPowers_2 rfl (lv_at hl 1 rfl) ?_
  refine lv_aload_n hx hb d_Rb_layByPowers_3 rfl (lv_at hl 2 rfl) ?_
  refine ck_i (wc := [(h, .inr (2, [.ref a0])), (a0, .inl (cI, 10, .inl (wA u))), (co, .inr (0, [.ref a1, .ref a2, .ref a3, .ref a4, .int (nI n)])), (a1, .inl (cI, 10, .inl (wA f1))), (a2, .inl (cI, 10, .inl (wA f2))), (cy, .inr (1, [.ref p0, .int (nI L), .int (nI bu)])), (p0, .inl (cI, M, .inl (wA f)))]) (va_runV (As := [.int (nI 1), .ref co, .ref cy]) (rest := []) (C := R_Rb) ⟨hx, hb, hml, hown, ht⟩ (c_Rb_layWithBase0 l Hs D cI cZ cL h a0 u co a1 a2 a3 a4 n f1 f2 cy p0 M f L bu 1 hn hid hM hf2 (by decide) (by decide) hfit H.size) (gw_V 3 ht wd_405 wd_2 wd_402 wd_404 ws_16 (by decide +kernel) ⟨Nat.le_of_ble_eq_true rfl, Nat.le_of_ble_eq_true rfl⟩) (k_preV hE hAH hK hP hD hS [0, 1, 2, 3, 4, 5, 6] rfl rfl 0 rfl rfl) rfl rfl hl.1 rfl (lv_room (Nat.le_of_ble_eq_true rfl)) d_Rb_layByPowers_4 ⟨Nat.le_of_ble_eq_true rfl, Nat.le_of_ble_eq_true rfl⟩) hP hD hS hA [0, 1, 2, 3, 4, 5, 6] rfl rfl (fun r4 w1 H locs hpost hP hD hS => ?_)
  obtain ⟨u2, rfl, rfl⟩ := hpost
  have hP : va_P D kcl [(h, .inr (2, [.ref a0])), (a0, .inl (cI, 10, .inl (wA u2))), (co, .inr (0, [.ref a1, .ref a2, .ref a3, .ref a4, .int (nI n)])), (a1, .inl (cI, 10, .inl (wA f1))), (a2, .inl (cI, 10, .inl (wA f2))), (cy, .inr (1, [.ref p0, .int (nI L), .int (nI bu)])), (p0, .inl (cI, M, .inl (wA f)))] H := hP
  have hD : va_D A [(h, .inr (2, [.ref a0])), (a0, .inl (cI, 10, .inl (wA u2))), (co, .inr (0, [.ref a1, .ref a2, .ref a3, .ref a4, .int (nI n)])), (a1, .inl (cI, 10, .inl (wA f1))), (a2, .inl (cI, 10, .inl (wA f2))), (cy, .inr (1, [.ref p0, .int (nI L), .int (nI bu)])), (p0, .inl (cI, M, .inl (wA f)))] := hD
  exact k_retz hQ hx hb hr hlk hAe hK hP hD hS (Nat.le_of_ble_eq_true rfl) (Nat.le_of_ble_eq_true rfl) (Nat.le_of_ble_eq_true rfl) rfl ⟨u2, rfl, rfl⟩ d_Rb_layByPowers_7
set_option maxHeartbeats 4000000 in
set_option maxRecDepth 100000 in
theorem c_Rb_layByBases0 (l : Launch) (Hs : Heap) (D : va_G) (cI cZ cL : ClassId) (h : Nat) (a0 : Nat) (u : Nat → Nat) (co : Nat) (a1 : Nat) (a2 : Nat) (a3 : Nat) (a4 : Nat) (n : Nat) (f1 : Nat → Nat) (f2 : Nat → Nat) (cy : Nat) (p0 : Nat) (M : Nat) (f : Nat → Nat) (L : Nat) (bu : Nat) (hn : n ≤ 10) (hid : ∀ t, t < n → f1 t < 2 ^ 31) (hM : M ≤ 1500) (hf2 : ∀ t, t < n → 1 ≤ f2 t ∧ f2 t ≤ 40) (hex : ¬ ∃ x, pw_b2 f2 n x) : kI l Hs D kcl (ty3 cI cZ cL) y_Rb_layByBases (mws y_Rb_layByBases b_Rb_layByBases 5 (Option.some Jvm.ClassFile.FieldType.boolean)) ({ frames := 3, cells := 0, slots := 0, locals := 73 } : Room) [.ref h, .ref co, .ref cy] [(h, .inr (2, [.ref a0])), (a0, .inl (cI, 10, .inl (wA u))), (co, .inr (0, [.ref a1, .ref a2, .ref a3, .ref a4, .int (nI n)])), (a1, .inl (cI, 10, .inl (wA f1))), (a2, .inl (cI, 10, .inl (wA f2))), (cy, .inr (1, [.ref p0, .int (nI L), .int (nI bu)])), (p0, .inl (cI, M, .inl (wA f)))] (fun r w => ∃ (u2 : Nat → Nat), r = nI 0 ∧ w = [(h, .inr (2, [.ref a0])), (a0, .inl (cI, 10, .inl (wA u2))), (co, .inr (0, [.ref a1, .ref a2, .ref a3, .ref a4, .int (nI n)])), (a1, .inl (cI, 10, .inl (wA f1))), (a2, .inl (cI, 10, .inl (wA f2))), (cy, .inr (1, [.ref p0, .int (nI L), .int (nI bu)])), (p0, .inl (cI, M, .inl (wA f)))]) := by
  intro sz
  refine k_of (cc := b_Rb_layByBases) (maxL := 5) (ret := (Option.some Jvm.ClassFile.FieldType.boolean)) (by decide) rfl (Nat.le_of_ble_eq_true rfl) ?_
  intro p e s m args below meth c ls H locs A Q hQ hx hb hml hr hts hown hlk hnm hsz hAe hP hK hD hS hA hE hAH hl
  have ht : ∀ w ∈ mw, w.before args s = true := fun w h => hts w (List.mem_cons_of_mem _ h)
  have hl : lv_has ls 5 [(0, .ref h), (1, .ref co), (2, .ref cy)] := hl
  obtain ⟨tb, hZ, hT⟩ := hE.2.2.2.1
  have hZ := hZ.narrow hAH
  have hT := hT.narrow hAH
  refine lv_aload_n hx hb d_Rb_layByBases_0 rfl (lv_at hl 1 rfl) ?_
  refine ck_i (wc := [(co, .inr (0, [.ref a1, .ref a2, .ref a3, .ref a4, .int (nI n)])), (a2, .inl (cI, 10, .inl (wA f2)))]) (va_runV (As := []) (rest := []) (C := R_Cl) ⟨hx, hb, hml, hown, ht⟩ (c_Cl_leastSpan l Hs D cI cZ cL co a1 a2 a3 a4 n f2 hn (fun t h9 => (hf2 t h9).2) H.size) (gw_V 0 ht wd_728 wd_3 wd_725 wd_726 wd_727 (by decide +kernel) ⟨Nat.le_of_ble_eq_true rfl, Nat.le_of_ble_eq_true rfl⟩) (k_preV hE hAH hK hP hD hS [2, 4] rfl rfl 2 rfl rfl) rfl rfl hl.1 rfl (lv_room (Nat.le_of_ble_eq_true rfl)) d_Rb_layByBases_1 ⟨Nat.le_of_ble_eq_true rfl, Nat.le_of_ble_eq_true rfl⟩) hP hD hS hA [2, 4] rfl rfl (fun r1 w1 H locs hpost hP hD hS => ?_)
  obtain ⟨rfl, rfl⟩ := hpost
  have hP : va_P D kcl [(h, .inr (2, [.ref a0])), (a0, .inl (cI, 10, .inl (wA u))), (co, .inr (0, [.ref a1, .ref a2, .ref a3, .ref a4, .int (nI n)])), (a1, .inl (cI, 10, .inl (wA f1))), (a2, .inl (cI, 10, .inl (wA f2))), (cy, .inr (1, [.ref p0, .int (nI L), .int (nI bu)])), (p0, .inl (cI, M, .inl (wA f)))] H := hP
  have hD : va_D A [(h, .inr (2, [.ref a0])), (a0, .inl (cI, 10, .inl (wA u))), (co, .inr (0, [.ref a1, .ref a2, .ref a3, .ref a4, .int (nI n)])), (a1, .inl (cI, 10, .inl (wA f1))), (a2, .inl (cI, 10, .inl (wA f2))), (cy, .inr (1, [.ref p0, .int (nI L), .int (nI bu)])), (p0, .inl (cI, M, .inl (wA f)))] := hD
  have hmn := pw_mn_le f2 n
  refine lv_istore_n (lv' := [(3, .int (nI (pw_mn f2 n))), (0, .ref h), (1, .ref co), (2, .ref cy)]) hx hb d_Rb_layByBases_4 rfl hl (by decide) rfl (fun ls hl => ?_)
  refine lv_iconst (v := nI 0) hx hb d_Rb_layByBases_5 (by decide) ?_
  refine lv_istore (lv' := [(4, .int (nI 0)), (3, .int (nI (pw_mn f2 n))), (0, .ref h), (1, .ref co), (2, .ref cy)]) hx hb d_Rb_layByBases_6 hl (by decide) rfl (fun ls hl => ?_)
  have loop8 : ∀ (d : Nat) (k : Nat) (v : Nat → Nat) (ls : Array Slot) (H : Heap) (locs : List Loc), 7 - k = d → (k ≤ 7) → (∀ j, j < k → ¬ pw_fit (3 + 2 * j) f2 n) → lv_has ls 5 [(0, .ref h), (1, .ref co), (2, .ref cy), (3, .int (nI (pw_mn f2 n))), (4, .int (nI k))] → va_P D kcl [(h, .inr (2, [.ref a0])), (a0, .inl (cI, 10, .inl (wA v))), (co, .inr (0, [.ref a1, .ref a2, .ref a3, .ref a4, .int (nI n)])), (a1, .inl (cI, 10, .inl (wA f1))), (a2, .inl (cI, 10, .inl (wA f2))), (cy, .inr (1, [.ref p0, .int (nI L), .int (nI bu)])), (p0, .inl (cI, M, .inl (wA f)))] H → va_D A [(h, .inr (2, [.ref a0])), (a0, .inl (cI, 10, .inl (wA v))), (co, .inr (0, [.ref a1, .ref a2, .ref a3, .ref a4, .int (nI n)])), (a1, .inl (cI, 10, .inl (wA f1))), (a2, .inl (cI, 10, .inl (wA f2))), (cy, .inr (1, [.ref p0, .int (nI L), .int (nI bu)])), (p0, .inl (cI, M, .inl (wA f)))] → va_S A s.heap H locs → W p l e ({ frames := 3, cells := 0, slots := 0, locals := 73 } : Room) s m args below meth c H locs 0 0 Q (F0 m 8 ls []) := by
    intro d
    induction d using Nat.strongRecOn with
    | ind d ih8 =>
      intro k v ls H locs hd8 hk hno hl hP hD hS
      refine lv_iload hx hb d_Rb_layByBases_8 (lv_at hl 4 rfl) ?_
      refine va_getsN hx hb hZ hS hown (va_Nw.use rfl (nw_730 hE.1)) (fun _ h9 => h9) d_Rb_layByBases_10 ?_
      refine va_tlen (v := nI 7) hx hb hT hS rfl d_Rb_layByBases_13 ?_
      refine wi_ge hx hb d_Rb_layByBases_14 rfl (by omega) (by omega) (fun h14 => ?_) (fun h14 => ?_)
      · have hnone : ¬ ∃ x, pw_b2 f2 n x := fun ⟨x, hx2⟩ => by
          obtain ⟨⟨⟨x1, x2, x3⟩, x5⟩, x4, -⟩ := hx2
          have x6 := pw_mn_ge (b := x) (by omega) x5
          exact hno ((x - 3) / 2) (by omega) (by rw [show 3 + 2 * ((x - 3) / 2) = x by omega]; exact x4)
        refine lv_iconst (v := nI 0) hx hb d_Rb_layByBases_50 (by decide) ?_
        exact k_retz hQ hx hb hr hlk hAe hK hP hD hS (Nat.le_of_ble_eq_true rfl) (Nat.le_of_ble_eq_true rfl) (Nat.le_of_ble_eq_true rfl) rfl ⟨v, rfl, rfl⟩ d_Rb_layByBases_51
      · refine va_getsN hx hb hZ hS hown (va_Nw.use rfl (nw_730 hE.1)) (fun _ h9 => h9) d_Rb_layByBases_17 ?_
        refine lv_iload hx hb d_Rb_layByBases_20 (lv_at hl 4 rfl) ?_
        refine va_ti (v := .int (nI (3 + 2 * k))) hx hb hT hS (vp_in_nI h14 (by decide)) (by rw [nI_clamp (by omega)]; rfl) d_Rb_layByBases_22 ?_
        refine lv_iload_n hx hb d_Rb_layByBases_23 rfl (lv_at hl 3 rfl) ?_
        refine wi_gt hx hb d_Rb_layByBases_24 rfl (by omega) (by omega) (fun h24 => ?_) (fun h24 => ?_)
        · have hnone : ¬ ∃ x, pw_b2 f2 n x := fun ⟨x, hx2⟩ => by
            obtain ⟨⟨⟨x1, x2, x3⟩, x5⟩, x4, -⟩ := hx2
            have x6 := pw_mn_ge (b := x) (by omega) x5
            exact hno ((x - 3) / 2) (by omega) (by rw [show 3 + 2 * ((x - 3) / 2) = x by omega]; exact x4)
          refine lv_iconst (v := nI 0) hx hb d_Rb_layByBases_50 (by decide) ?_
          exact k_retz hQ hx hb hr hlk hAe hK hP hD hS (Nat.le_of_ble_eq_true rfl) (Nat.le_of_ble_eq_true rfl) (Nat.le_of_ble_eq_true rfl) rfl ⟨v, rfl, rfl⟩ d_Rb_layByBases_51
        · refine lv_aload_n hx hb d_Rb_layByBases_27 rfl (lv_at hl 0 rfl) ?_
          refine va_getsN hx hb hZ hS hown (va_Nw.use rfl (nw_730 hE.1)) (fun _ h9 => h9) d_Rb_layByBases_28 ?_
          refine lv_iload hx hb d_Rb_layByBases_31 (lv_at hl 4 rfl) ?_
          refine va_ti (v := .int (nI (3 + 2 * k))) hx hb hT hS (vp_in_nI h14 (by decide)) (by rw [nI_clamp (by omega)]; rfl) d_Rb_layByBases_33 ?_
          refine lv_aload_n hx hb d_Rb_layByBases_34 rfl (lv_at hl 1 rfl) ?_
          refine lv_aload_n hx hb d_Rb_layByBases_35 rfl (lv_at hl 2 rfl) ?_
          by_cases hfk : pw_fit (3 + 2 * k) f2 n
          · have hb2 : pw_b2 f2 n (3 + 2 * k) := ⟨⟨⟨by omega, by omega, by omega⟩, fun t h9 => pw_mn_all h24 t h9⟩, hfk, fun x hx2 hx3 hx4 => hno ((x - 3) / 2) (by have := hx3.1.1; have := hx3.1.2.2; omega) (by rw [show 3 + 2 * ((x - 3) / 2) = x by have := hx3.1.1; have := hx3.1.2.2; omega]; exact hx4)⟩; exact absurd ⟨_, hb2⟩ hex
          · refine ck_i (wc := [(h, .inr (2, [.ref a0])), (a0, .inl (cI, 10, .inl (wA v))), (co, .inr (0, [.ref a1, .ref a2, .ref a3, .ref a4, .int (nI n)])), (a1, .inl (cI, 10, .inl (wA f1))), (a2, .inl (cI, 10, .inl (wA f2))), (cy, .inr (1, [.ref p0, .int (nI L), .int (nI bu)])), (p0, .inl (cI, M, .inl (wA f)))]) (va_runV (As := [.int (nI (3 + 2 * k)), .ref co, .ref cy]) (rest := []) (C := R_Rb) ⟨hx, hb, hml, hown, ht⟩ (c_Rb_layWithBase0 l Hs D cI cZ cL h a0 v co a1 a2 a3 a4 n f1 f2 cy p0 M f L bu (3 + 2 * k) hn hid hM (fun t h9 => ⟨pw_mn_all h24 t h9, (hf2 t h9).2⟩) (by omega) (by omega) hfk H.size) (gw_V 3 ht wd_405 wd_2 wd_402 wd_404 ws_16 (by decide +kernel) ⟨Nat.le_of_ble_eq_true rfl, Nat.le_of_ble_eq_true rfl⟩) (k_preV hE hAH hK hP hD hS [0, 1, 2, 3, 4, 5, 6] rfl rfl 0 rfl rfl) rfl rfl hl.1 rfl (lv_room (Nat.le_of_ble_eq_true rfl)) d_Rb_layByBases_36 ⟨Nat.le_of_ble_eq_true rfl, Nat.le_of_ble_eq_true rfl⟩) hP hD hS hA [0, 1, 2, 3, 4, 5, 6] rfl rfl (fun r36 w1 H locs hpost hP hD hS => ?_)
            obtain ⟨u2, rfl, rfl⟩ := hpost
            have hP : va_P D kcl [(h, .inr (2, [.ref a0])), (a0, .inl (cI, 10, .inl (wA u2))), (co, .inr (0, [.ref a1, .ref a2, .ref a3, .ref a4, .int (nI n)])), (a1, .inl (cI, 10, .inl (wA f1))), (a2, .inl (cI, 10, .inl (wA f2))), (cy, .inr (1, [.ref p0, .int (nI L), .int (nI bu)])), (p0, .inl (cI, M, .inl (wA f)))] H := hP
            have hD : va_D A [(h, .inr (2, [.ref a0])), (a0, .inl (cI, 10, .inl (wA u2))), (co, .inr (0, [.ref a1, .ref a2, .ref a3, .ref a4, .int (nI n)])), (a1, .inl (cI, 10, .inl (wA f1))), (a2, .inl (cI, 10, .inl (wA f2))), (cy, .inr (1, [.ref p0, .int (nI L), .int (nI bu)])), (p0, .inl (cI, M, .inl (wA f)))] := hD
            refine wi_if_eq hx hb d_Rb_layByBases_39 rfl (by decide) (fun _ => ?_) (fun h => absurd h (by decide))
            refine wi_inc (k := 4) (lv' := [(4, .int (nI (k + 1))), (0, .ref h), (1, .ref co), (2, .ref cy), (3, .int (nI (pw_mn f2 n)))]) hx hb d_Rb_layByBases_44 hl rfl (by decide) rfl (fun ls hl => ?_)
            refine lv_goto hx hb d_Rb_layByBases_47 rfl ?_
            exact ih8 (7 - (k + 1)) (by omega) (k + 1) (u2) ls H locs rfl (by omega) (lt_s hno hfk) (lv_sub hl [1, 2, 3, 4, 0] rfl) hP hD hS
  exact loop8 _ (0) (u) ls H locs rfl (Nat.zero_le _) lt_0 (lv_sub hl [2, 3, 4, 1, 0] rfl) hP hD hS
set_option maxHeartbeats 4000000 in
set_option maxRecDepth 100000 in
theorem c_Rb_layByBases1 (l : Launch) (Hs : Heap) (D : va_G) (cI cZ cL : ClassId) (h : Nat) (a0 : Nat) (u : Nat → Nat) (co : Nat) (a1 : Nat) (a2 : Nat) (a3 : Nat) (a4 : Nat) (n : Nat) (f1 : Nat → Nat) (f2 : Nat → Nat) (cy : Nat) (p0 : Nat) (M : Nat) (f : Nat → Nat) (L : Nat) (bu : Nat) (hn : n ≤ 10) (hid : ∀ t, t < n → f1 t < 2 ^ 31) (hM : M ≤ 1500) (hf2 : ∀ t, t < n → 1 ≤ f2 t ∧ f2 t ≤ 40) (hex : ∃ x, pw_b2 f2 n x) : kI l Hs D kcl (ty3 cI cZ cL) y_Rb_layByBases (mws y_Rb_layByBases b_Rb_layByBases 5 (Option.some Jvm.ClassFile.FieldType.boolean)) ({ frames := 4, cells := 1, slots := 1500, locals := 94 } : Room) [.ref h, .ref co, .ref cy] [(h, .inr (2, [.ref a0])), (a0, .inl (cI, 10, .inl (wA u))), (co, .inr (0, [.ref a1, .ref a2, .ref a3, .ref a4, .int (nI n)])), (a1, .inl (cI, 10, .inl (wA f1))), (a2, .inl (cI, 10, .inl (wA f2))), (cy, .inr (1, [.ref p0, .int (nI L), .int (nI bu)])), (p0, .inl (cI, M, .inl (wA f)))] (fun r w => ∃ (u2 : Nat → Nat), ∃ (p2 : Nat), ∃ (M2 : Nat), ∃ (f3 : Nat → Nat), ∃ (L2 : Nat), (∃ x, pw_b2 f2 n x ∧ L2 = pw_mx (pw_r x f2) n ∧ L2 ≤ M2 ∧ M2 ≤ 1500 ∧ M ≤ M2 ∧ ∀ j, j < L2 → f3 j = pw_CY x n f1 f2 j) ∧ r = nI 1 ∧ w = [(h, .inr (2, [.ref a0])), (a0, .inl (cI, 10, .inl (wA u2))), (co, .inr (0, [.ref a1, .ref a2, .ref a3, .ref a4, .int (nI n)])), (a1, .inl (cI, 10, .inl (wA f1))), (a2, .inl (cI, 10, .inl (wA f2))), (cy, .inr (1, [.ref p2, .int (nI L2), .int (nI bu)])), (p2, .inl (cI, M2, .inl (wA f3)))]) := by
  intro sz
  refine k_of (cc := b_Rb_layByBases) (maxL := 5) (ret := (Option.some Jvm.ClassFile.FieldType.boolean)) (by decide) rfl (Nat.le_of_ble_eq_true rfl) ?_
  intro p e s m args below meth c ls H locs A Q hQ hx hb hml hr hts hown hlk hnm hsz hAe hP hK hD hS hA hE hAH hl
  have ht : ∀ w ∈ mw, w.before args s = true := fun w h => hts w (List.mem_cons_of_mem _ h)
  have hl : lv_has ls 5 [(0, .ref h), (1, .ref co), (2, .ref cy)] := hl
  obtain ⟨tb, hZ, hT⟩ := hE.2.2.2.1
  have hZ := hZ.narrow hAH
  have hT := hT.narrow hAH
  refine lv_aload_n hx hb d_Rb_layByBases_0 rfl (lv_at hl 1 rfl) ?_
  refine ck_i (wc := [(co, .inr (0, [.ref a1, .ref a2, .ref a3, .ref a4, .int (nI n)])), (a2, .inl (cI, 10, .inl (wA f2)))]) (va_runV (As := []) (rest := []) (C := R_Cl) ⟨hx, hb, hml, hown, ht⟩ (c_Cl_leastSpan l Hs D cI cZ cL co a1 a2 a3 a4 n f2 hn (fun t h9 => (hf2 t h9).2) H.size) (gw_V 0 ht wd_728 wd_3 wd_725 wd_726 wd_727 (by decide +kernel) ⟨Nat.le_of_ble_eq_true rfl, Nat.le_of_ble_eq_true rfl⟩) (k_preV hE hAH hK hP hD hS [2, 4] rfl rfl 2 rfl rfl) rfl rfl hl.1 rfl (lv_room (Nat.le_of_ble_eq_true rfl)) d_Rb_layByBases_1 ⟨Nat.le_of_ble_eq_true rfl, Nat.le_of_ble_eq_true rfl⟩) hP hD hS hA [2, 4] rfl rfl (fun r1 w1 H locs hpost hP hD hS => ?_)
  obtain ⟨rfl, rfl⟩ := hpost
  have hP : va_P D kcl [(h, .inr (2, [.ref a0])), (a0, .inl (cI, 10, .inl (wA u))), (co, .inr (0, [.ref a1, .ref a2, .ref a3, .ref a4, .int (nI n)])), (a1, .inl (cI, 10, .inl (wA f1))), (a2, .inl (cI, 10, .inl (wA f2))), (cy, .inr (1, [.ref p0, .int (nI L), .int (nI bu)])), (p0, .inl (cI, M, .inl (wA f)))] H := hP
  have hD : va_D A [(h, .inr (2, [.ref a0])), (a0, .inl (cI, 10, .inl (wA u))), (co, .inr (0, [.ref a1, .ref a2, .ref a3, .ref a4, .int (nI n)])), (a1, .inl (cI, 10, .inl (wA f1))), (a2, .inl (cI, 10, .inl (wA f2))), (cy, .inr (1, [.ref p0, .int (nI L), .int (nI bu)])), (p0, .inl (cI, M, .inl (wA f)))] := hD
  have hmn := pw_mn_le f2 n
  refine lv_istore_n (lv' := [(3, .int (nI (pw_mn f2 n))), (0, .ref h), (1, .ref co), (2, .ref cy)]) hx hb d_Rb_layByBases_4 rfl hl (by decide) rfl (fun ls hl => ?_)
  refine lv_iconst (v := nI 0) hx hb d_Rb_layByBases_5 (by decide) ?_
  refine lv_istore (lv' := [(4, .int (nI 0)), (3, .int (nI (pw_mn f2 n))), (0, .ref h), (1, .ref co), (2, .ref cy)]) hx hb d_Rb_layByBases_6 hl (by decide) rfl (fun ls hl => ?_)
  have loop8 : ∀ (d : Nat) (k : Nat) (v : Nat → Nat) (ls : Array Slot) (H : Heap) (locs : List Loc), 7 - k = d → (k ≤ 7) → (∀ j, j < k → ¬ pw_fit (3 + 2 * j) f2 n) → lv_has ls 5 [(0, .ref h), (1, .ref co), (2, .ref cy), (3, .int (nI (pw_mn f2 n))), (4, .int (nI k))] → va_P D kcl [(h, .inr (2, [.ref a0])), (a0, .inl (cI, 10, .inl (wA v))), (co, .inr (0, [.ref a1, .ref a2, .ref a3, .ref a4, .int (nI n)])), (a1, .inl (cI, 10, .inl (wA f1))), (a2, .inl (cI, 10, .inl (wA f2))), (cy, .inr (1, [.ref p0, .int (nI L), .int (nI bu)])), (p0, .inl (cI, M, .inl (wA f)))] H → va_D A [(h, .inr (2, [.ref a0])), (a0, .inl (cI, 10, .inl (wA v))), (co, .inr (0, [.ref a1, .ref a2, .ref a3, .ref a4, .int (nI n)])), (a1, .inl (cI, 10, .inl (wA f1))), (a2, .inl (cI, 10, .inl (wA f2))), (cy, .inr (1, [.ref p0, .int (nI L), .int (nI bu)])), (p0, .inl (cI, M, .inl (wA f)))] → va_S A s.heap H locs → W p l e ({ frames := 4, cells := 1, slots := 1500, locals := 94 } : Room) s m args below meth c H locs 0 0 Q (F0 m 8 ls []) := by
    intro d
    induction d using Nat.strongRecOn with
    | ind d ih8 =>
      intro k v ls H locs hd8 hk hno hl hP hD hS
      refine lv_iload hx hb d_Rb_layByBases_8 (lv_at hl 4 rfl) ?_
      refine va_getsN hx hb hZ hS hown (va_Nw.use rfl (nw_730 hE.1)) (fun _ h9 => h9) d_Rb_layByBases_10 ?_
      refine va_tlen (v := nI 7) hx hb hT hS rfl d_Rb_layByBases_13 ?_
      refine wi_ge hx hb d_Rb_layByBases_14 rfl (by omega) (by omega) (fun h14 => ?_) (fun h14 => ?_)
      · have hnone : ¬ ∃ x, pw_b2 f2 n x := fun ⟨x, hx2⟩ => by
          obtain ⟨⟨⟨x1, x2, x3⟩, x5⟩, x4, -⟩ := hx2
          have x6 := pw_mn_ge (b := x) (by omega) x5
          exact hno ((x - 3) / 2) (by omega) (by rw [show 3 + 2 * ((x - 3) / 2) = x by omega]; exact x4)
        exact absurd hex hnone
      · refine va_getsN hx hb hZ hS hown (va_Nw.use rfl (nw_730 hE.1)) (fun _ h9 => h9) d_Rb_layByBases_17 ?_
        refine lv_iload hx hb d_Rb_layByBases_20 (lv_at hl 4 rfl) ?_
        refine va_ti (v := .int (nI (3 + 2 * k))) hx hb hT hS (vp_in_nI h14 (by decide)) (by rw [nI_clamp (by omega)]; rfl) d_Rb_layByBases_22 ?_
        refine lv_iload_n hx hb d_Rb_layByBases_23 rfl (lv_at hl 3 rfl) ?_
        refine wi_gt hx hb d_Rb_layByBases_24 rfl (by omega) (by omega) (fun h24 => ?_) (fun h24 => ?_)
        · have hnone : ¬ ∃ x, pw_b2 f2 n x := fun ⟨x, hx2⟩ => by
            obtain ⟨⟨⟨x1, x2, x3⟩, x5⟩, x4, -⟩ := hx2
            have x6 := pw_mn_ge (b := x) (by omega) x5
            exact hno ((x - 3) / 2) (by omega) (by rw [show 3 + 2 * ((x - 3) / 2) = x by omega]; exact x4)
          exact absurd hex hnone
        · refine lv_aload_n hx hb d_Rb_layByBases_27 rfl (lv_at hl 0 rfl) ?_
          refine va_getsN hx hb hZ hS hown (va_Nw.use rfl (nw_730 hE.1)) (fun _ h9 => h9) d_Rb_layByBases_28 ?_
          refine lv_iload hx hb d_Rb_layByBases_31 (lv_at hl 4 rfl) ?_
          refine va_ti (v := .int (nI (3 + 2 * k))) hx hb hT hS (vp_in_nI h14 (by decide)) (by rw [nI_clamp (by omega)]; rfl) d_Rb_layByBases_33 ?_
          refine lv_aload_n hx hb d_Rb_layByBases_34 rfl (lv_at hl 1 rfl) ?_
          refine lv_aload_n hx hb d_Rb_layByBases_35 rfl (lv_at hl 2 rfl) ?_
          by_cases hfk : pw_fit (3 + 2 * k) f2 n
          · refine ck_i (wc := [(h, .inr (2, [.ref a0])), (a0, .inl (cI, 10, .inl (wA v))), (co, .inr (0, [.ref a1, .ref a2, .ref a3, .ref a4, .int (nI n)])), (a1, .inl (cI, 10, .inl (wA f1))), (a2, .inl (cI, 10, .inl (wA f2))), (cy, .inr (1, [.ref p0, .int (nI L), .int (nI bu)])), (p0, .inl (cI, M, .inl (wA f)))]) (va_runV (As := [.int (nI (3 + 2 * k)), .ref co, .ref cy]) (rest := []) (C := R_Rb) ⟨hx, hb, hml, hown, ht⟩ (c_Rb_layWithBase1 l Hs D cI cZ cL h a0 v co a1 a2 a3 a4 n f1 f2 cy p0 M f L bu (3 + 2 * k) hn hid hM (fun t h9 => ⟨pw_mn_all h24 t h9, (hf2 t h9).2⟩) (by omega) (by omega) hfk H.size) (gw_V 3 ht wd_405 wd_2 wd_402 wd_404 ws_16 (by decide +kernel) ⟨Nat.le_of_ble_eq_true rfl, Nat.le_of_ble_eq_true rfl⟩) (k_preV hE hAH hK hP hD hS [0, 1, 2, 3, 4, 5, 6] rfl rfl 0 rfl rfl) rfl rfl hl.1 rfl (lv_room (Nat.le_of_ble_eq_true rfl)) d_Rb_layByBases_36 ⟨Nat.le_of_ble_eq_true rfl, Nat.le_of_ble_eq_true rfl⟩) hP hD hS hA [0, 1, 2, 3, 4, 5, 6] rfl rfl (fun r36 w1 H locs hpost hP hD hS => ?_)
            obtain ⟨u2, p2, M2, f3, L2, hlw, rfl, rfl⟩ := hpost
            have hP : va_P D kcl [(h, .inr (2, [.ref a0])), (a0, .inl (cI, 10, .inl (wA u2))), (co, .inr (0, [.ref a1, .ref a2, .ref a3, .ref a4, .int (nI n)])), (a1, .inl (cI, 10, .inl (wA f1))), (a2, .inl (cI, 10, .inl (wA f2))), (cy, .inr (1, [.ref p2, .int (nI L2), .int (nI bu)])), (p2, .inl (cI, M2, .inl (wA f3)))] H := hP
            have hD : va_D A [(h, .inr (2, [.ref a0])), (a0, .inl (cI, 10, .inl (wA u2))), (co, .inr (0, [.ref a1, .ref a2, .ref a3, .ref a4, .int (nI n)])), (a1, .inl (cI, 10, .inl (wA f1))), (a2, .inl (cI, 10, .inl (wA f2))), (cy, .inr (1, [.ref p2, .int (nI L2), .int (nI bu)])), (p2, .inl (cI, M2, .inl (wA f3)))] := hD
            refine W.widen (k := 1) (n := 1500) (by decide) (by decide) ?_
            have hb2 : pw_b2 f2 n (3 + 2 * k) := ⟨⟨⟨by omega, by omega, by omega⟩, fun t h9 => pw_mn_all h24 t h9⟩, hfk, fun x hx2 hx3 hx4 => hno ((x - 3) / 2) (by have := hx3.1.1; have := hx3.1.2.2; omega) (by rw [show 3 + 2 * ((x - 3) / 2) = x by have := hx3.1.1; have := hx3.1.2.2; omega]; exact hx4)⟩
            refine wi_if_eq hx hb d_Rb_layByBases_39 rfl (by decide) (fun h => absurd h (by decide)) (fun _ => ?_)
            refine lv_iconst (v := nI 1) hx hb d_Rb_layByBases_42 (by decide) ?_
            exact k_retz hQ hx hb hr hlk hAe hK hP hD hS (Nat.le_of_ble_eq_true rfl) (Nat.le_of_ble_eq_true rfl) (Nat.le_of_ble_eq_true rfl) rfl ⟨u2, p2, M2, f3, L2, ⟨_, hb2, hlw⟩, rfl, rfl⟩ d_Rb_layByBases_43
          · refine ck_i (wc := [(h, .inr (2, [.ref a0])), (a0, .inl (cI, 10, .inl (wA v))), (co, .inr (0, [.ref a1, .ref a2, .ref a3, .ref a4, .int (nI n)])), (a1, .inl (cI, 10, .inl (wA f1))), (a2, .inl (cI, 10, .inl (wA f2))), (cy, .inr (1, [.ref p0, .int (nI L), .int (nI bu)])), (p0, .inl (cI, M, .inl (wA f)))]) (va_runV (As := [.int (nI (3 + 2 * k)), .ref co, .ref cy]) (rest := []) (C := R_Rb) ⟨hx, hb, hml, hown, ht⟩ (c_Rb_layWithBase0 l Hs D cI cZ cL h a0 v co a1 a2 a3 a4 n f1 f2 cy p0 M f L bu (3 + 2 * k) hn hid hM (fun t h9 => ⟨pw_mn_all h24 t h9, (hf2 t h9).2⟩) (by omega) (by omega) hfk H.size) (gw_V 3 ht wd_405 wd_2 wd_402 wd_404 ws_16 (by decide +kernel) ⟨Nat.le_of_ble_eq_true rfl, Nat.le_of_ble_eq_true rfl⟩) (k_preV hE hAH hK hP hD hS [0, 1, 2, 3, 4, 5, 6] rfl rfl 0 rfl rfl) rfl rfl hl.1 rfl (lv_room (Nat.le_of_ble_eq_true rfl)) d_Rb_layByBases_36 ⟨Nat.le_of_ble_eq_true rfl, Nat.le_of_ble_eq_true rfl⟩) hP hD hS hA [0, 1, 2, 3, 4, 5, 6] rfl rfl (fun r36 w1 H locs hpost hP hD hS => ?_)
            obtain ⟨u2, rfl, rfl⟩ := hpost
            have hP : va_P D kcl [(h, .inr (2, [.ref a0])), (a0, .inl (cI, 10, .inl (wA u2))), (co, .inr (0, [.ref a1, .ref a2, .ref a3, .ref a4, .int (nI n)])), (a1, .inl (cI, 10, .inl (wA f1))), (a2, .inl (cI, 10, .inl (wA f2))), (cy, .inr (1, [.ref p0, .int (nI L), .int (nI bu)])), (p0, .inl (cI, M, .inl (wA f)))] H := hP
            have hD : va_D A [(h, .inr (2, [.ref a0])), (a0, .inl (cI, 10, .inl (wA u2))), (co, .inr (0, [.ref a1, .ref a2, .ref a3, .ref a4, .int (nI n)])), (a1, .inl (cI, 10, .inl (wA f1))), (a2, .inl (cI, 10, .inl (wA f2))), (cy, .inr (1, [.ref p0, .int (nI L), .int (nI bu)])), (p0, .inl (cI, M, .inl (wA f)))] := hD
            refine wi_if_eq hx hb d_Rb_layByBases_39 rfl (by decide) (fun _ => ?_) (fun h => absurd h (by decide))
            refine wi_inc (k := 4) (lv' := [(4, .int (nI (k + 1))), (0, .ref h), (1, .ref co), (2, .ref cy), (3, .int (nI (pw_mn f2 n)))]) hx hb d_Rb_layByBases_44 hl rfl (by decide) rfl (fun ls hl => ?_)
            refine lv_goto hx hb d_Rb_layByBases_47 rfl ?_
            exact ih8 (7 - (k + 1)) (by omega) (k + 1) (u2) ls H locs rfl (by omega) (lt_s hno hfk) (lv_sub hl [1, 2, 3, 4, 0] rfl) hP hD hS
  exact loop8 _ (0) (u) ls H locs rfl (Nat.zero_le _) lt_0 (lv_sub hl [2, 3, 4, 1, 0] rfl) hP hD hS
