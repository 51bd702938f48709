/-! Clients: its loops. -/
/-- where x stands among the first n, or -1 -/
def pw_fnd (f : Nat → Nat) (n : Nat) (x r : Int32) : Prop := (∃ k, k < n ∧ nI (f k) = x ∧ r = nI k ∧ ∀ j, j < k → nI (f j) ≠ x) ∨ (r = -1 ∧ ∀ k, k < n → nI (f k) ≠ x)
/-- the least, at most 40 -/
def pw_mn (f : Nat → Nat) : Nat → Nat
  | 0 => 40
  | k + 1 => min (pw_mn f k) (f k)
theorem pw_mn_le (f : Nat → Nat) : ∀ k, pw_mn f k ≤ 40 := by
  intro k
  induction k with
  | zero => exact Nat.le_refl 40
  | succ k ih => exact Nat.le_trans (Nat.min_le_left _ _) ih
/-- v comes in at p, the others move up -/
def pw_in (f u : Nat → Nat) (n p v : Nat) : Prop := (∀ j, j < p → u j = f j) ∧ u p = v ∧ ∀ j, p ≤ j → j < n → u (j + 1) = f j
theorem up_in {u f : Nat → Nat} {k n : Nat} (h : (∀ t, t < k → u t = f t) ∧ ∀ t, k ≤ t → t < n → u (t + 1) = f t) (v : Nat) : pw_in f (va_up u k v) n k v := by
  refine ⟨fun t ht => ?_, va_up_self _ _ _, fun t h1 h2 => ?_⟩
  · rw [va_up_ne _ _ (by omega)]
    exact h.1 t ht
  · rw [va_up_ne _ _ (by omega)]
    exact h.2 t h1 h2
/-- the one at p goes -/
def pw_ou (f u : Nat → Nat) (n p : Nat) : Prop := ∀ j, j + 1 < n → u j = if j < p then f j else f (j + 1)
set_option maxHeartbeats 4000000 in
set_option maxRecDepth 100000 in
theorem c_Cl_find (l : Launch) (Hs : Heap) (D : va_G) (cI cZ cL : ClassId) (h : Nat) (a1 : Nat) (a2 : Nat) (a3 : Nat) (a4 : Nat) (n : Nat) (f : Nat → Nat) (x : Int32) (hn : n ≤ 10) : kI l Hs D kcl (ty3 cI cZ cL) y_Cl_find (mws y_Cl_find b_Cl_find 3 (Option.some Jvm.ClassFile.FieldType.int)) ({ frames := 0, cells := 0, slots := 0, locals := 0 } : Room) [.ref h, .int x] [(h, .inr (0, [.ref a1, .ref a2, .ref a3, .ref a4, .int (nI n)])), (a1, .inl (cI, 10, .inl (wA f)))] (fun r w => ∃ (r0 : Int32), (pw_fnd f n x r0) ∧ r = r0 ∧ w = [(h, .inr (0, [.ref a1, .ref a2, .ref a3, .ref a4, .int (nI n)])), (a1, .inl (cI, 10, .inl (wA f)))]) := by
  intro sz
  refine k_of (cc := b_Cl_find) (maxL := 3) (ret := (Option.some Jvm.ClassFile.FieldType.int)) (by decide) rfl (Nat.le_of_ble_eq_true rfl) ?_
  intro p e s m args below meth c ls H locs A Q hQ hx hb hml hr hts hown hlk hnm hsz hAe hP hK hD hS hA hE hAH hl
  have ht : ∀ w ∈ mw, w.before args s = true := fun w h => hts w (List.mem_cons_of_mem _ h)
  have hl : lv_has ls 3 [(0, .ref h), (1, .int x)] := hl
  refine lv_iconst (v := nI 0) hx hb d_Cl_find_0 (by decide) ?_
  refine lv_istore_n (lv' := [(2, .int (nI 0)), (0, .ref h), (1, .int x)]) hx hb d_Cl_find_1 rfl hl (by decide) rfl (fun ls hl => ?_)
  have loop2 : ∀ (d : Nat) (k : Nat) (ls : Array Slot) (H : Heap) (locs : List Loc), n - k = d → (k ≤ n) → (∀ j, j < k → nI (f j) ≠ x) → lv_has ls 3 [(0, .ref h), (1, .int x), (2, .int (nI k))] → va_P D kcl [(h, .inr (0, [.ref a1, .ref a2, .ref a3, .ref a4, .int (nI n)])), (a1, .inl (cI, 10, .inl (wA f)))] H → va_D A [(h, .inr (0, [.ref a1, .ref a2, .ref a3, .ref a4, .int (nI n)])), (a1, .inl (cI, 10, .inl (wA f)))] → va_S A s.heap H locs → W p l e ({ frames := 0, cells := 0, slots := 0, locals := 0 } : Room) s m args below meth c H locs 0 0 Q (F0 m 2 ls []) := by
    intro d
    induction d using Nat.strongRecOn with
    | ind d ih2 =>
      intro k ls H locs hd2 hk hno hl hP hD hS
      refine lv_iload_n hx hb d_Cl_find_2 rfl (lv_at hl 2 rfl) ?_
      refine lv_aload_n hx hb d_Cl_find_3 rfl (lv_at hl 0 rfl) ?_
      refine va_get (D := D) (ci := 0) (v := .int (nI n)) (C := R_Cl) (T := T_Cl) (N := 5) hx hb ht u_Cl hown hK hP 0 rfl rfl 4 (by decide) (ht _ wd_56) (fun _ h9 => h9) rfl d_Cl_find_4 ?_
      refine wi_ge hx hb d_Cl_find_7 rfl (by omega) (by omega) (fun h7 => ?_) (fun h7 => ?_)
      · refine lv_iconst (v := -1) hx hb d_Cl_find_28 (by decide) ?_
        exact k_reti hQ hx hb hr hlk hAe hK hP hD hS (Nat.le_of_ble_eq_true rfl) (Nat.le_of_ble_eq_true rfl) (Nat.le_of_ble_eq_true rfl) ⟨-1, Or.inr ⟨rfl, fun j hj => hno j (by omega)⟩, rfl, rfl⟩ d_Cl_find_29
      · refine lv_aload_n hx hb d_Cl_find_10 rfl (lv_at hl 0 rfl) ?_
        refine va_get (D := D) (ci := 0) (v := .ref a1) (C := R_Cl) (T := T_Cl) (N := 5) hx hb ht u_Cl hown hK hP 0 rfl rfl 0 (by decide) (ht _ wd_52) (fun _ h9 => h9) rfl d_Cl_find_11 ?_
        refine lv_iload_n hx hb d_Cl_find_14 rfl (lv_at hl 2 rfl) ?_
        refine wi_ald hx hb hK hP 1 0 rfl rfl (by omega) (by omega) d_Cl_find_15 ?_
        refine lv_iload_n hx hb d_Cl_find_16 rfl (lv_at hl 1 rfl) ?_
        refine lv_icmp_ne hx hb d_Cl_find_17 rfl (fun h17 => ?_) (fun h17 => ?_)
        · refine wi_inc (k := 2) (lv' := [(2, .int (nI (k + 1))), (0, .ref h), (1, .int x)]) hx hb d_Cl_find_22 hl rfl (by decide) rfl (fun ls hl => ?_)
          refine lv_goto hx hb d_Cl_find_25 rfl ?_
          exact ih2 (n - (k + 1)) (by omega) (k + 1) ls H locs rfl (by omega) (lt_s hno h17) (lv_sub hl [1, 2, 0] rfl) hP hD hS
        · refine lv_iload_n hx hb d_Cl_find_20 rfl (lv_at hl 2 rfl) ?_
          exact k_reti hQ hx hb hr hlk hAe hK hP hD hS (Nat.le_of_ble_eq_true rfl) (Nat.le_of_ble_eq_true rfl) (Nat.le_of_ble_eq_true rfl) ⟨nI k, Or.inl ⟨k, h7, h17, rfl, hno⟩, rfl, rfl⟩ d_Cl_find_21
  exact loop2 _ (0) ls H locs rfl (Nat.zero_le _) lt_0 (lv_sub hl [1, 2, 0] rfl) hP hD hS
set_option maxHeartbeats 4000000 in
set_option maxRecDepth 100000 in
theorem c_Cl_leastSpan (l : Launch) (Hs : Heap) (D : va_G) (cI cZ cL : ClassId) (h : Nat) (a1 : Nat) (a2 : Nat) (a3 : Nat) (a4 : Nat) (n : Nat) (f : Nat → Nat) (hn : n ≤ 10) (hf : ∀ k, k < n → f k ≤ 40) : kI l Hs D kcl (ty3 cI cZ cL) y_Cl_leastSpan (mws y_Cl_leastSpan b_Cl_leastSpan 3 (Option.some Jvm.ClassFile.FieldType.int)) ({ frames := 1, cells := 0, slots := 0, locals := 13 } : Room) [.ref h] [(h, .inr (0, [.ref a1, .ref a2, .ref a3, .ref a4, .int (nI n)])), (a2, .inl (cI, 10, .inl (wA f)))] (fun r w => r = nI (pw_mn f n) ∧ w = [(h, .inr (0, [.ref a1, .ref a2, .ref a3, .ref a4, .int (nI n)])), (a2, .inl (cI, 10, .inl (wA f)))]) := by
  intro sz
  refine k_of (cc := b_Cl_leastSpan) (maxL := 3) (ret := (Option.some Jvm.ClassFile.FieldType.int)) (by decide) rfl (Nat.le_of_ble_eq_true rfl) ?_
  intro p e s m args below meth c ls H locs A Q hQ hx hb hml hr hts hown hlk hnm hsz hAe hP hK hD hS hA hE hAH hl
  have ht : ∀ w ∈ mw, w.before args s = true := fun w h => hts w (List.mem_cons_of_mem _ h)
  have hl : lv_has ls 3 [(0, .ref h)] := hl
  refine lv_bipush (v := nI 40) hx hb d_Cl_leastSpan_0 (by decide) ?_
  refine lv_istore_n (lv' := [(1, .int (nI 40)), (0, .ref h)]) hx hb d_Cl_leastSpan_2 rfl hl (by decide) rfl (fun ls hl => ?_)
  refine lv_iconst (v := nI 0) hx hb d_Cl_leastSpan_3 (by decide) ?_
  refine lv_istore_n (lv' := [(2, .int (nI 0)), (1, .int (nI 40)), (0, .ref h)]) hx hb d_Cl_leastSpan_4 rfl hl (by decide) rfl (fun ls hl => ?_)
  have loop5 : ∀ (d : Nat) (k : Nat) (ls : Array Slot) (H : Heap) (locs : List Loc), n - k = d → (k ≤ n) → lv_has ls 3 [(0, .ref h), (1, .int (nI (pw_mn f k))), (2, .int (nI k))] → va_P D kcl [(h, .inr (0, [.ref a1, .ref a2, .ref a3, .ref a4, .int (nI n)])), (a2, .inl (cI, 10, .inl (wA f)))] H → va_D A [(h, .inr (0, [.ref a1, .ref a2, .ref a3, .ref a4, .int (nI n)])), (a2, .inl (cI, 10, .inl (wA f)))] → va_S A s.heap H locs → W p l e ({ frames := 1, cells := 0, slots := 0, locals := 13 } : Room) s m args below meth c H locs 0 0 Q (F0 m 5 ls []) := by
    intro d
    induction d using Nat.strongRecOn with
    | ind d ih5 =>
      intro k ls H locs hd5 hk hl hP hD hS
      have hm := pw_mn_le f k
      refine lv_iload_n hx hb d_Cl_leastSpan_5 rfl (lv_at hl 2 rfl) ?_
      refine lv_aload_n hx hb d_Cl_leastSpan_6 rfl (lv_at hl 0 rfl) ?_
      refine va_get (D := D) (ci := 0) (v := .int (nI n)) (C := R_Cl) (T := T_Cl) (N := 5) hx hb ht u_Cl hown hK hP 0 rfl rfl 4 (by decide) (ht _ wd_56) (fun _ h9 => h9) rfl d_Cl_leastSpan_7 ?_
      refine wi_ge hx hb d_Cl_leastSpan_10 rfl (by omega) (by omega) (fun h10 => ?_) (fun h10 => ?_)
      · obtain rfl : k = n := by omega
        refine lv_iload_n hx hb d_Cl_leastSpan_30 rfl (lv_at hl 1 rfl) ?_
        exact k_reti hQ hx hb hr hlk hAe hK hP hD hS (Nat.le_of_ble_eq_true rfl) (Nat.le_of_ble_eq_true rfl) (Nat.le_of_ble_eq_true rfl) ⟨rfl, rfl⟩ d_Cl_leastSpan_31
      · have hfk := hf k h10
        refine lv_iload_n hx hb d_Cl_leastSpan_13 rfl (lv_at hl 1 rfl) ?_
        refine lv_aload_n hx hb d_Cl_leastSpan_14 rfl (lv_at hl 0 rfl) ?_
        refine va_get (D := D) (ci := 0) (v := .ref a2) (C := R_Cl) (T := T_Cl) (N := 5) hx hb ht u_Cl hown hK hP 0 rfl rfl 1 (by decide) (ht _ wd_53) (fun _ h9 => h9) rfl d_Cl_leastSpan_15 ?_
        refine lv_iload_n hx hb d_Cl_leastSpan_18 rfl (lv_at hl 2 rfl) ?_
        refine wi_ald hx hb hK hP 1 0 rfl rfl (by omega) (by omega) d_Cl_leastSpan_19 ?_
        refine va_mmin hx hb (hml.trans hl.1.symm) hown (ht _ wd_729) (ht _ wd_507) (ht _ wd_12) (ht _ wd_508) (Nat.le_of_ble_eq_true rfl) (Nat.le_of_ble_eq_true rfl) (Nat.le_of_ble_eq_true rfl) (Nat.le_of_ble_eq_true rfl) d_Cl_leastSpan_20 ?_
        rw [wi_min (by omega) (by omega)]
        refine lv_istore_n (lv' := [(1, .int (nI (min (pw_mn f k) (f k)))), (0, .ref h), (2, .int (nI k))]) hx hb d_Cl_leastSpan_23 rfl hl (by decide) rfl (fun ls hl => ?_)
        refine wi_inc (k := 2) (lv' := [(2, .int (nI (k + 1))), (1, .int (nI (min (pw_mn f k) (f k)))), (0, .ref h)]) hx hb d_Cl_leastSpan_24 hl rfl (by decide) rfl (fun ls hl => ?_)
        refine lv_goto hx hb d_Cl_leastSpan_27 rfl ?_
        exact ih5 (n - (k + 1)) (by omega) (k + 1) ls H locs rfl (by omega) (lv_sub hl [2, 1, 0] rfl) hP hD hS
  exact loop5 _ (0) ls H locs rfl (Nat.zero_le _) (lv_sub hl [2, 1, 0] rfl) hP hD hS
set_option maxHeartbeats 4000000 in
set_option maxRecDepth 100000 in
theorem c_Cl_copyFrom (l : Launch) (Hs : Heap) (D : va_G) (cI cZ cL : ClassId) (h : Nat) (a1 : Nat) (a2 : Nat) (a3 : Nat) (a4 : Nat) (o : Nat) (b1 : Nat) (b2 : Nat) (b3 : Nat) (b4 : Nat) (n : Nat) (q : Nat) (f1 : Nat → Nat) (f2 : Nat → Nat) (f3 : Nat → Nat) (f4 : Nat → Nat) (g1 : Nat → Nat) (g2 : Nat → Nat) (g3 : Nat → Nat) (g4 : Nat → Nat) (hq : q ≤ 10) : kV l Hs D kcl (ty3 cI cZ cL) y_Cl_copyFrom (mws y_Cl_copyFrom b_Cl_copyFrom 3 (Option.none : Option Jvm.ClassFile.FieldType)) ({ frames := 1, cells := 0, slots := 0, locals := 23 } : Room) [.ref h, .ref o] [(h, .inr (0, [.ref a1, .ref a2, .ref a3, .ref a4, .int (nI n)])), (a1, .inl (cI, 10, .inl (wA f1))), (a2, .inl (cI, 10, .inl (wA f2))), (a3, .inl (cI, 10, .inl (wA f3))), (a4, .inl (cI, 10, .inl (wA f4))), (o, .inr (0, [.ref b1, .ref b2, .ref b3, .ref b4, .int (nI q)])), (b1, .inl (cI, 10, .inl (wA g1))), (b2, .inl (cI, 10, .inl (wA g2))), (b3, .inl (cI, 10, .inl (wA g3))), (b4, .inl (cI, 10, .inl (wA g4)))] (fun w => ∃ (u1 : Nat → Nat), ∃ (u2 : Nat → Nat), ∃ (u3 : Nat → Nat), ∃ (u4 : Nat → Nat), (∀ t, t < q → u1 t = g1 t) ∧ (∀ t, t < q → u2 t = g2 t) ∧ (∀ t, t < q → u3 t = g3 t) ∧ (∀ t, t < q → u4 t = g4 t) ∧ w = [(h, .inr (0, [.ref a1, .ref a2, .ref a3, .ref a4, .int (nI q)])), (a1, .inl (cI, 10, .inl (wA u1))), (a2, .inl (cI, 10, .inl (wA u2))), (a3, .inl (cI, 10, .inl (wA u3))), (a4, .inl (cI, 10, .inl (wA u4))), (o, .inr (0, [.ref b1, .ref b2, .ref b3, .ref b4, .int (nI q)])), (b1, .inl (cI, 10, .inl (wA g1))), (b2, .inl (cI, 10, .inl (wA g2))), (b3, .inl (cI, 10, .inl (wA g3))), (b4, .inl (cI, 10, .inl (wA g4)))]) := by
  intro sz
  refine k_of (cc := b_Cl_copyFrom) (maxL := 3) (ret := (Option.none : Option Jvm.ClassFile.FieldType)) (by decide) rfl (Nat.le_of_ble_eq_true rfl) ?_
  intro p e s m args below meth c ls H locs A Q hQ hx hb hml hr hts hown hlk hnm hsz hAe hP hK hD hS hA hE hAH hl
  have ht : ∀ w ∈ mw, w.before args s = true := fun w h => hts w (List.mem_cons_of_mem _ h)
  have hl : lv_has ls 3 [(0, .ref h), (1, .ref o)] := hl
  refine lv_aload_n hx hb d_Cl_copyFrom_0 rfl (lv_at hl 0 rfl) ?_
  refine lv_aload_n hx hb d_Cl_copyFrom_1 rfl (lv_at hl 1 rfl) ?_
  refine va_get (D := D) (ci := 0) (v := .int (nI q)) (C := R_Cl) (T := T_Cl) (N := 5) hx hb ht u_Cl hown hK hP 5 rfl rfl 4 (by decide) (ht _ wd_56) (fun _ h9 => h9) rfl d_Cl_copyFrom_2 ?_
  refine va_put (D := D) (ci := 0) (v := .int (nI q)) (ty := .int) (C := R_Cl) (T := T_Cl) (N := 5) hx hb ht u_Cl t_Cl t_Cl_ok n_Cl hown hK hP hD hS 0 rfl rfl 4 (by decide) (ht _ wd_56) (fun _ h9 => h9) rfl (by decide +kernel) rfl rfl (Nat.le_of_ble_eq_true rfl) d_Cl_copyFrom_5 (fun H locs hP hD hS => ?_)
  have hP : va_P D kcl [(h, .inr (0, [.ref a1, .ref a2, .ref a3, .ref a4, .int (nI q)])), (a1, .inl (cI, 10, .inl (wA f1))), (a2, .inl (cI, 10, .inl (wA f2))), (a3, .inl (cI, 10, .inl (wA f3))), (a4, .inl (cI, 10, .inl (wA f4))), (o, .inr (0, [.ref b1, .ref b2, .ref b3, .ref b4, .int (nI q)])), (b1, .inl (cI, 10, .inl (wA g1))), (b2, .inl (cI, 10, .inl (wA g2))), (b3, .inl (cI, 10, .inl (wA g3))), (b4, .inl (cI, 10, .inl (wA g4)))] H := hP
  have hD : va_D A [(h, .inr (0, [.ref a1, .ref a2, .ref a3, .ref a4, .int (nI q)])), (a1, .inl (cI, 10, .inl (wA f1))), (a2, .inl (cI, 10, .inl (wA f2))), (a3, .inl (cI, 10, .inl (wA f3))), (a4, .inl (cI, 10, .inl (wA f4))), (o, .inr (0, [.ref b1, .ref b2, .ref b3, .ref b4, .int (nI q)])), (b1, .inl (cI, 10, .inl (wA g1))), (b2, .inl (cI, 10, .inl (wA g2))), (b3, .inl (cI, 10, .inl (wA g3))), (b4, .inl (cI, 10, .inl (wA g4)))] := hD
  refine lv_iconst (v := nI 0) hx hb d_Cl_copyFrom_8 (by decide) ?_
  refine lv_istore_n (lv' := [(2, .int (nI 0)), (0, .ref h), (1, .ref o)]) hx hb d_Cl_copyFrom_9 rfl hl (by decide) rfl (fun ls hl => ?_)
  have loop10 : ∀ (d : Nat) (k : Nat) (u1 : Nat → Nat) (u2 : Nat → Nat) (u3 : Nat → Nat) (u4 : Nat → Nat) (ls : Array Slot) (H : Heap) (locs : List Loc), q - k = d → (k ≤ q) → (∀ t, t < k → u1 t = g1 t) → (∀ t, t < k → u2 t = g2 t) → (∀ t, t < k → u3 t = g3 t) → (∀ t, t < k → u4 t = g4 t) → lv_has ls 3 [(0, .ref h), (1, .ref o), (2, .int (nI k))] → va_P D kcl [(h, .inr (0, [.ref a1, .ref a2, .ref a3, .ref a4, .int (nI q)])), (a1, .inl (cI, 10, .inl (wA u1))), (a2, .inl (cI, 10, .inl (wA u2))), (a3, .inl (cI, 10, .inl (wA u3))), (a4, .inl (cI, 10, .inl (wA u4))), (o, .inr (0, [.ref b1, .ref b2, .ref b3, .ref b4, .int (nI q)])), (b1, .inl (cI, 10, .inl (wA g1))), (b2, .inl (cI, 10, .inl (wA g2))), (b3, .inl (cI, 10, .inl (wA g3))), (b4, .inl (cI, 10, .inl (wA g4)))] H → va_D A [(h, .inr (0, [.ref a1, .ref a2, .ref a3, .ref a4, .int (nI q)])), (a1, .inl (cI, 10, .inl (wA u1))), (a2, .inl (cI, 10, .inl (wA u2))), (a3, .inl (cI, 10, .inl (wA u3))), (a4, .inl (cI, 10, .inl (wA u4))), (o, .inr (0, [.ref b1, .ref b2, .ref b3, .ref b4, .int (nI q)])), (b1, .inl (cI, 10, .inl (wA g1))), (b2, .inl (cI, 10, .inl (wA g2))), (b3, .inl (cI, 10, .inl (wA g3))), (b4, .inl (cI, 10, .inl (wA g4)))] → va_S A s.heap H locs → W p l e ({ frames := 1, cells := 0, slots := 0, locals := 23 } : Room) s m args below meth c H locs 0 0 Q (F0 m 10 ls []) := by
    intro d
    induction d using Nat.strongRecOn with
    | ind d ih10 =>
      intro k u1 u2 u3 u4 ls H locs hd10 hk hu1 hu2 hu3 hu4 hl hP hD hS
      refine lv_iload_n hx hb d_Cl_copyFrom_10 rfl (lv_at hl 2 rfl) ?_
      refine lv_aload_n hx hb d_Cl_copyFrom_11 rfl (lv_at hl 0 rfl) ?_
      refine va_get (D := D) (ci := 0) (v := .int (nI q)) (C := R_Cl) (T := T_Cl) (N := 5) hx hb ht u_Cl hown hK hP 0 rfl rfl 4 (by decide) (ht _ wd_56) (fun _ h9 => h9) rfl d_Cl_copyFrom_12 ?_
      refine wi_ge hx hb d_Cl_copyFrom_15 rfl (by omega) (by omega) (fun h15 => ?_) (fun h15 => ?_)
      · exact k_retv hQ hx hb hr hlk hAe hK hP hD hS (Nat.le_of_ble_eq_true rfl) (Nat.le_of_ble_eq_true rfl) (Nat.le_of_ble_eq_true rfl) ⟨u1, u2, u3, u4, fun t ht => hu1 t (by omega), fun t ht => hu2 t (by omega), fun t ht => hu3 t (by omega), fun t ht => hu4 t (by omega), rfl⟩ d_Cl_copyFrom_31
      · refine lv_aload_n hx hb d_Cl_copyFrom_18 rfl (lv_at hl 0 rfl) ?_
        refine lv_iload_n hx hb d_Cl_copyFrom_19 rfl (lv_at hl 2 rfl) ?_
        refine lv_aload_n hx hb d_Cl_copyFrom_20 rfl (lv_at hl 1 rfl) ?_
        refine lv_iload_n hx hb d_Cl_copyFrom_21 rfl (lv_at hl 2 rfl) ?_
        refine ck_v (wc := [(h, .inr (0, [.ref a1, .ref a2, .ref a3, .ref a4, .int (nI q)])), (a1, .inl (cI, 10, .inl (wA u1))), (a2, .inl (cI, 10, .inl (wA u2))), (a3, .inl (cI, 10, .inl (wA u3))), (a4, .inl (cI, 10, .inl (wA u4))), (o, .inr (0, [.ref b1, .ref b2, .ref b3, .ref b4, .int (nI q)])), (b1, .inl (cI, 10, .inl (wA g1))), (b2, .inl (cI, 10, .inl (wA g2))), (b3, .inl (cI, 10, .inl (wA g3))), (b4, .inl (cI, 10, .inl (wA g4)))]) (va_runV (As := [.int (nI k), .ref o, .int (nI k)]) (rest := []) (C := R_Cl) ⟨hx, hb, hml, hown, ht⟩ (c_Cl_copyAt l Hs D cI cZ cL h a1 a2 a3 a4 o b1 b2 b3 b4 q q u1 u2 u3 u4 g1 g2 g3 g4 k k (by omega) (by omega) H.size) (gw_V 3 ht wd_137 wd_3 wd_134 wd_136 ws_1 (by decide +kernel) ⟨Nat.le_of_ble_eq_true rfl, Nat.le_of_ble_eq_true rfl⟩) (k_preV hE hAH hK hP hD hS [0, 1, 2, 3, 4, 5, 6, 7, 8, 9] rfl rfl 0 rfl rfl) rfl rfl hl.1 rfl (lv_room (Nat.le_of_ble_eq_true rfl)) d_Cl_copyFrom_22 ⟨Nat.le_of_ble_eq_true rfl, Nat.le_of_ble_eq_true rfl⟩) hP hD hS hA [0, 1, 2, 3, 4, 5, 6, 7, 8, 9] rfl rfl (fun w1 H locs hpost hP hD hS => ?_)
        obtain rfl := hpost
        have hP : va_P D kcl [(h, .inr (0, [.ref a1, .ref a2, .ref a3, .ref a4, .int (nI q)])), (a1, .inl (cI, 10, .inl (wA (va_up u1 k (g1 k))))), (a2, .inl (cI, 10, .inl (wA (va_up u2 k (g2 k))))), (a3, .inl (cI, 10, .inl (wA (va_up u3 k (g3 k))))), (a4, .inl (cI, 10, .inl (wA (va_up u4 k (g4 k))))), (o, .inr (0, [.ref b1, .ref b2, .ref b3, .ref b4, .int (nI q)])), (b1, .inl (cI, 10, .inl (wA g1))), (b2, .inl (cI, 10, .inl (wA g2))), (b3, .inl (cI, 10, .inl (wA g3))), (b4, .inl (cI, 10, .inl (wA g4)))] H := hP
        have hD : va_D A [(h, .inr (0, [.ref a1, .ref a2, .ref a3, .ref a4, .int (nI q)])), (a1, .inl (cI, 10, .inl (wA (va_up u1 k (g1 k))))), (a2, .inl (cI, 10, .inl (wA (va_up u2 k (g2 k))))), (a3, .inl (cI, 10, .inl (wA (va_up u3 k (g3 k))))), (a4, .inl (cI, 10, .inl (wA (va_up u4 k (g4 k))))), (o, .inr (0, [.ref b1, .ref b2, .ref b3, .ref b4, .int (nI q)])), (b1, .inl (cI, 10, .inl (wA g1))), (b2, .inl (cI, 10, .inl (wA g2))), (b3, .inl (cI, 10, .inl (wA g3))), (b4, .inl (cI, 10, .inl (wA g4)))] := hD
        refine wi_inc (k := 2) (lv' := [(2, .int (nI (k + 1))), (0, .ref h), (1, .ref o)]) hx hb d_Cl_copyFrom_25 hl rfl (by decide) rfl (fun ls hl => ?_)
        refine lv_goto hx hb d_Cl_copyFrom_28 rfl ?_
        exact ih10 (q - (k + 1)) (by omega) (k + 1) (va_up u1 k (g1 k)) (va_up u2 k (g2 k)) (va_up u3 k (g3 k)) (va_up u4 k (g4 k)) ls H locs rfl (by omega) (up_lt hu1) (up_lt hu2) (up_lt hu3) (up_lt hu4) (lv_sub hl [1, 2, 0] rfl) hP hD hS
  exact loop10 _ (0) (f1) (f2) (f3) (f4) ls H locs rfl (Nat.zero_le _) lt_0 lt_0 lt_0 lt_0 (lv_sub hl [1, 2, 0] rfl) hP hD hS
set_option maxHeartbeats 4000000 in
set_option maxRecDepth 100000 in
theorem c_Cl_insert (l : Launch) (Hs : Heap) (D : va_G) (cI cZ cL : ClassId) (h : Nat) (a1 : Nat) (a2 : Nat) (a3 : Nat) (a4 : Nat) (n : Nat) (f1 : Nat → Nat) (f2 : Nat → Nat) (f3 : Nat → Nat) (f4 : Nat → Nat) (v : Nat) (z : Nat) (hn : n < 10) (hv : v < 2 ^ 31) (hf : ∀ t, t < n → f1 t < 2 ^ 31) : kV l Hs D kcl (ty3 cI cZ cL) y_Cl_insert (mws y_Cl_insert b_Cl_insert 4 (Option.none : Option Jvm.ClassFile.FieldType)) ({ frames := 1, cells := 0, slots := 0, locals := 23 } : Room) [.ref h, .int (nI v), .int (nI z)] [(h, .inr (0, [.ref a1, .ref a2, .ref a3, .ref a4, .int (nI n)])), (a1, .inl (cI, 10, .inl (wA f1))), (a2, .inl (cI, 10, .inl (wA f2))), (a3, .inl (cI, 10, .inl (wA f3))), (a4, .inl (cI, 10, .inl (wA f4)))] (fun w => ∃ (pp : Nat), ∃ (u1 : Nat → Nat), ∃ (u2 : Nat → Nat), ∃ (u3 : Nat → Nat), ∃ (u4 : Nat → Nat), (pp ≤ n) ∧ ((pp = 0 ∨ f1 (pp - 1) ≤ v)) ∧ ((∀ j, pp ≤ j → j < n → v < f1 j)) ∧ (pw_in f1 u1 n pp v) ∧ (pw_in f2 u2 n pp z) ∧ (pw_in f3 u3 n pp 0) ∧ (pw_in f4 u4 n pp 0) ∧ w = [(h, .inr (0, [.ref a1, .ref a2, .ref a3, .ref a4, .int (nI (n + 1))])), (a1, .inl (cI, 10, .inl (wA u1))), (a2, .inl (cI, 10, .inl (wA u2))), (a3, .inl (cI, 10, .inl (wA u3))), (a4, .inl (cI, 10, .inl (wA u4)))]) := by
  intro sz
  refine k_of (cc := b_Cl_insert) (maxL := 4) (ret := (Option.none : Option Jvm.ClassFile.FieldType)) (by decide) rfl (Nat.le_of_ble_eq_true rfl) ?_
  intro p e s m args below meth c ls H locs A Q hQ hx hb hml hr hts hown hlk hnm hsz hAe hP hK hD hS hA hE hAH hl
  have ht : ∀ w ∈ mw, w.before args s = true := fun w h => hts w (List.mem_cons_of_mem _ h)
  have hl : lv_has ls 4 [(0, .ref h), (1, .int (nI v)), (2, .int (nI z))] := hl
  refine lv_aload_n hx hb d_Cl_insert_0 rfl (lv_at hl 0 rfl) ?_
  refine va_get (D := D) (ci := 0) (v := .int (nI n)) (C := R_Cl) (T := T_Cl) (N := 5) hx hb ht u_Cl hown hK hP 0 rfl rfl 4 (by decide) (ht _ wd_56) (fun _ h9 => h9) rfl d_Cl_insert_1 ?_
  refine lv_istore_n (lv' := [(3, .int (nI n)), (0, .ref h), (1, .int (nI v)), (2, .int (nI z))]) hx hb d_Cl_insert_4 rfl hl (by decide) rfl (fun ls hl => ?_)
  have loop5 : ∀ (d : Nat) (k : Nat) (u1 : Nat → Nat) (u2 : Nat → Nat) (u3 : Nat → Nat) (u4 : Nat → Nat) (ls : Array Slot) (H : Heap) (locs : List Loc), k = d → (k ≤ n) → (∀ j, k ≤ j → j < n → v < f1 j) → ((∀ t, t < k → u1 t = f1 t) ∧ ∀ t, k ≤ t → t < n → u1 (t + 1) = f1 t) → ((∀ t, t < k → u2 t = f2 t) ∧ ∀ t, k ≤ t → t < n → u2 (t + 1) = f2 t) → ((∀ t, t < k → u3 t = f3 t) ∧ ∀ t, k ≤ t → t < n → u3 (t + 1) = f3 t) → ((∀ t, t < k → u4 t = f4 t) ∧ ∀ t, k ≤ t → t < n → u4 (t + 1) = f4 t) → lv_has ls 4 [(0, .ref h), (1, .int (nI v)), (2, .int (nI z)), (3, .int (nI k))] → va_P D kcl [(h, .inr (0, [.ref a1, .ref a2, .ref a3, .ref a4, .int (nI n)])), (a1, .inl (cI, 10, .inl (wA u1))), (a2, .inl (cI, 10, .inl (wA u2))), (a3, .inl (cI, 10, .inl (wA u3))), (a4, .inl (cI, 10, .inl (wA u4)))] H → va_D A [(h, .inr (0, [.ref a1, .ref a2, .ref a3, .ref a4, .int (nI n)])), (a1, .inl (cI, 10, .inl (wA u1))), (a2, .inl (cI, 10, .inl (wA u2))), (a3, .inl (cI, 10, .inl (wA u3))), (a4, .inl (cI, 10, .inl (wA u4)))] → va_S A s.heap H locs → W p l e ({ frames := 1, cells := 0, slots := 0, locals := 23 } : Room) s m args below meth c H locs 0 0 Q (F0 m 5 ls []) := by
    intro d
    induction d using Nat.strongRecOn with
    | ind d ih5 =>
      intro k u1 u2 u3 u4 ls H locs hd5 hk hbig hu1 hu2 hu3 hu4 hl hP hD hS
      refine lv_iload_n hx hb d_Cl_insert_5 rfl (lv_at hl 3 rfl) ?_
      refine wi_if_le hx hb d_Cl_insert_6 rfl (by omega) (fun h6 => ?_) (fun h6 => ?_)
      · have hlow : k = 0 ∨ f1 (k - 1) ≤ v := Or.inl h6
        refine lv_aload_n hx hb d_Cl_insert_36 rfl (lv_at hl 0 rfl) ?_
        refine va_get (D := D) (ci := 0) (v := .ref a1) (C := R_Cl) (T := T_Cl) (N := 5) hx hb ht u_Cl hown hK hP 0 rfl rfl 0 (by decide) (ht _ wd_52) (fun _ h9 => h9) rfl d_Cl_insert_37 ?_
        refine lv_iload_n hx hb d_Cl_insert_40 rfl (lv_at hl 3 rfl) ?_
        refine lv_iload_n hx hb d_Cl_insert_41 rfl (lv_at hl 1 rfl) ?_
        refine wi_ast hx hb hK hP hD hS 1 0 rfl rfl (by omega) (by omega) d_Cl_insert_42 (fun H locs hP hD hS => ?_)
        have hP : va_P D kcl [(h, .inr (0, [.ref a1, .ref a2, .ref a3, .ref a4, .int (nI n)])), (a1, .inl (cI, 10, .inl (wA (va_up u1 k v)))), (a2, .inl (cI, 10, .inl (wA u2))), (a3, .inl (cI, 10, .inl (wA u3))), (a4, .inl (cI, 10, .inl (wA u4)))] H := hP
        have hD : va_D A [(h, .inr (0, [.ref a1, .ref a2, .ref a3, .ref a4, .int (nI n)])), (a1, .inl (cI, 10, .inl (wA (va_up u1 k v)))), (a2, .inl (cI, 10, .inl (wA u2))), (a3, .inl (cI, 10, .inl (wA u3))), (a4, .inl (cI, 10, .inl (wA u4)))] := hD
        refine lv_aload_n hx hb d_Cl_insert_43 rfl (lv_at hl 0 rfl) ?_
        refine va_get (D := D) (ci := 0) (v := .ref a2) (C := R_Cl) (T := T_Cl) (N := 5) hx hb ht u_Cl hown hK hP 0 rfl rfl 1 (by decide) (ht _ wd_53) (fun _ h9 => h9) rfl d_Cl_insert_44 ?_
        refine lv_iload_n hx hb d_Cl_insert_47 rfl (lv_at hl 3 rfl) ?_
        refine lv_iload_n hx hb d_Cl_insert_48 rfl (lv_at hl 2 rfl) ?_
        refine wi_ast hx hb hK hP hD hS 2 0 rfl rfl (by omega) (by omega) d_Cl_insert_49 (fun H locs hP hD hS => ?_)
        have hP : va_P D kcl [(h, .inr (0, [.ref a1, .ref a2, .ref a3, .ref a4, .int (nI n)])), (a1, .inl (cI, 10, .inl (wA (va_up u1 k v)))), (a2, .inl (cI, 10, .inl (wA (va_up u2 k z)))), (a3, .inl (cI, 10, .inl (wA u3))), (a4, .inl (cI, 10, .inl (wA u4)))] H := hP
        have hD : va_D A [(h, .inr (0, [.ref a1, .ref a2, .ref a3, .ref a4, .int (nI n)])), (a1, .inl (cI, 10, .inl (wA (va_up u1 k v)))), (a2, .inl (cI, 10, .inl (wA (va_up u2 k z)))), (a3, .inl (cI, 10, .inl (wA u3))), (a4, .inl (cI, 10, .inl (wA u4)))] := hD
        refine lv_aload_n hx hb d_Cl_insert_50 rfl (lv_at hl 0 rfl) ?_
        refine va_get (D := D) (ci := 0) (v := .ref a3) (C := R_Cl) (T := T_Cl) (N := 5) hx hb ht u_Cl hown hK hP 0 rfl rfl 2 (by decide) (ht _ wd_54) (fun _ h9 => h9) rfl d_Cl_insert_51 ?_
        refine lv_iload_n hx hb d_Cl_insert_54 rfl (lv_at hl 3 rfl) ?_
        refine lv_iconst (v := nI 0) hx hb d_Cl_insert_55 (by decide) ?_
        refine wi_ast hx hb hK hP hD hS 3 0 rfl rfl (by omega) (by omega) d_Cl_insert_56 (fun H locs hP hD hS => ?_)
        have hP : va_P D kcl [(h, .inr (0, [.ref a1, .ref a2, .ref a3, .ref a4, .int (nI n)])), (a1, .inl (cI, 10, .inl (wA (va_up u1 k v)))), (a2, .inl (cI, 10, .inl (wA (va_up u2 k z)))), (a3, .inl (cI, 10, .inl (wA (va_up u3 k 0)))), (a4, .inl (cI, 10, .inl (wA u4)))] H := hP
        have hD : va_D A [(h, .inr (0, [.ref a1, .ref a2, .ref a3, .ref a4, .int (nI n)])), (a1, .inl (cI, 10, .inl (wA (va_up u1 k v)))), (a2, .inl (cI, 10, .inl (wA (va_up u2 k z)))), (a3, .inl (cI, 10, .inl (wA (va_up u3 k 0)))), (a4, .inl (cI, 10, .inl (wA u4)))] := hD
        refine lv_aload_n hx hb d_Cl_insert_57 rfl (lv_at hl 0 rfl) ?_
        refine va_get (D := D) (ci := 0) (v := .ref a4) (C := R_Cl) (T := T_Cl) (N := 5) hx hb ht u_Cl hown hK hP 0 rfl rfl 3 (by decide) (ht _ wd_55) (fun _ h9 => h9) rfl d_Cl_insert_58 ?_
        refine lv_iload_n hx hb d_Cl_insert_61 rfl (lv_at hl 3 rfl) ?_
        refine lv_iconst (v := nI 0) hx hb d_Cl_insert_62 (by decide) ?_
        refine wi_ast hx hb hK hP hD hS 4 0 rfl rfl (by omega) (by omega) d_Cl_insert_63 (fun H locs hP hD hS => ?_)
        have hP : va_P D kcl [(h, .inr (0, [.ref a1, .ref a2, .ref a3, .ref a4, .int (nI n)])), (a1, .inl (cI, 10, .inl (wA (va_up u1 k v)))), (a2, .inl (cI, 10, .inl (wA (va_up u2 k z)))), (a3, .inl (cI, 10, .inl (wA (va_up u3 k 0)))), (a4, .inl (cI, 10, .inl (wA (va_up u4 k 0))))] H := hP
        have hD : va_D A [(h, .inr (0, [.ref a1, .ref a2, .ref a3, .ref a4, .int (nI n)])), (a1, .inl (cI, 10, .inl (wA (va_up u1 k v)))), (a2, .inl (cI, 10, .inl (wA (va_up u2 k z)))), (a3, .inl (cI, 10, .inl (wA (va_up u3 k 0)))), (a4, .inl (cI, 10, .inl (wA (va_up u4 k 0))))] := hD
        refine lv_aload_n hx hb d_Cl_insert_64 rfl (lv_at hl 0 rfl) ?_
        refine lv_dup hx hb d_Cl_insert_65 rfl ?_
        refine va_get (D := D) (ci := 0) (v := .int (nI n)) (C := R_Cl) (T := T_Cl) (N := 5) hx hb ht u_Cl hown hK hP 0 rfl rfl 4 (by decide) (ht _ wd_56) (fun _ h9 => h9) rfl d_Cl_insert_66 ?_
        refine lv_iconst (v := nI 1) hx hb d_Cl_insert_69 (by decide) ?_
        refine wi_add hx hb d_Cl_insert_70 ?_
        refine va_put (D := D) (ci := 0) (v := .int (nI (n + 1))) (ty := .int) (C := R_Cl) (T := T_Cl) (N := 5) hx hb ht u_Cl t_Cl t_Cl_ok n_Cl hown hK hP hD hS 0 rfl rfl 4 (by decide) (ht _ wd_56) (fun _ h9 => h9) rfl (by decide +kernel) rfl rfl (Nat.le_of_ble_eq_true rfl) d_Cl_insert_71 (fun H locs hP hD hS => ?_)
        have hP : va_P D kcl [(h, .inr (0, [.ref a1, .ref a2, .ref a3, .ref a4, .int (nI (n + 1))])), (a1, .inl (cI, 10, .inl (wA (va_up u1 k v)))), (a2, .inl (cI, 10, .inl (wA (va_up u2 k z)))), (a3, .inl (cI, 10, .inl (wA (va_up u3 k 0)))), (a4, .inl (cI, 10, .inl (wA (va_up u4 k 0))))] H := hP
        have hD : va_D A [(h, .inr (0, [.ref a1, .ref a2, .ref a3, .ref a4, .int (nI (n + 1))])), (a1, .inl (cI, 10, .inl (wA (va_up u1 k v)))), (a2, .inl (cI, 10, .inl (wA (va_up u2 k z)))), (a3, .inl (cI, 10, .inl (wA (va_up u3 k 0)))), (a4, .inl (cI, 10, .inl (wA (va_up u4 k 0))))] := hD
        exact k_retv hQ hx hb hr hlk hAe hK hP hD hS (Nat.le_of_ble_eq_true rfl) (Nat.le_of_ble_eq_true rfl) (Nat.le_of_ble_eq_true rfl) ⟨k, _, _, _, _, hk, hlow, hbig, up_in hu1 v, up_in hu2 z, up_in hu3 0, up_in hu4 0, rfl⟩ d_Cl_insert_74
      · refine lv_aload_n hx hb d_Cl_insert_9 rfl (lv_at hl 0 rfl) ?_
        refine va_get (D := D) (ci := 0) (v := .ref a1) (C := R_Cl) (T := T_Cl) (N := 5) hx hb ht u_Cl hown hK hP 0 rfl rfl 0 (by decide) (ht _ wd_52) (fun _ h9 => h9) rfl d_Cl_insert_10 ?_
        refine lv_iload_n hx hb d_Cl_insert_13 rfl (lv_at hl 3 rfl) ?_
        refine lv_iconst (v := nI 1) hx hb d_Cl_insert_14 (by decide) ?_
        refine wi_sub hx hb d_Cl_insert_15 (by omega) ?_
        refine wi_ald hx hb hK hP 1 0 rfl rfl (by omega) (by decide) d_Cl_insert_16 ?_
        refine lv_iload_n hx hb d_Cl_insert_17 rfl (lv_at hl 1 rfl) ?_
        refine wi_le hx hb d_Cl_insert_18 rfl (by have := hu1.1 (k - 1) (by omega); have := hf (k - 1) (by omega); omega) hv (fun h18 => ?_) (fun h18 => ?_)
        · have hlow : k = 0 ∨ f1 (k - 1) ≤ v := Or.inr (by rw [← hu1.1 (k - 1) (by omega)]; exact h18)
          refine lv_aload_n hx hb d_Cl_insert_36 rfl (lv_at hl 0 rfl) ?_
          refine va_get (D := D) (ci := 0) (v := .ref a1) (C := R_Cl) (T := T_Cl) (N := 5) hx hb ht u_Cl hown hK hP 0 rfl rfl 0 (by decide) (ht _ wd_52) (fun _ h9 => h9) rfl d_Cl_insert_37 ?_
          refine lv_iload_n hx hb d_Cl_insert_40 rfl (lv_at hl 3 rfl) ?_
          refine lv_iload_n hx hb d_Cl_insert_41 rfl (lv_at hl 1 rfl) ?_
          refine wi_ast hx hb hK hP hD hS 1 0 rfl rfl (by omega) (by omega) d_Cl_insert_42 (fun H locs hP hD hS => ?_)
          have hP : va_P D kcl [(h, .inr (0, [.ref a1, .ref a2, .ref a3, .ref a4, .int (nI n)])), (a1, .inl (cI, 10, .inl (wA (va_up u1 k v)))), (a2, .inl (cI, 10, .inl (wA u2))), (a3, .inl (cI, 10, .inl (wA u3))), (a4, .inl (cI, 10, .inl (wA u4)))] H := hP
          have hD : va_D A [(h, .inr (0, [.ref a1, .ref a2, .ref a3, .ref a4, .int (nI n)])), (a1, .inl (cI, 10, .inl (wA (va_up u1 k v)))), (a2, .inl (cI, 10, .inl (wA u2))), (a3, .inl (cI, 10, .inl (wA u3))), (a4, .inl (cI, 10, .inl (wA u4)))] := hD
          refine lv_aload_n hx hb d_Cl_insert_43 rfl (lv_at hl 0 rfl) ?_
          refine va_get (D := D) (ci := 0) (v := .ref a2) (C := R_Cl) (T := T_Cl) (N := 5) hx hb ht u_Cl hown hK hP 0 rfl rfl 1 (by decide) (ht _ wd_53) (fun _ h9 => h9) rfl d_Cl_insert_44 ?_
          refine lv_iload_n hx hb d_Cl_insert_47 rfl (lv_at hl 3 rfl) ?_
          refine lv_iload_n hx hb d_Cl_insert_48 rfl (lv_at hl 2 rfl) ?_
          refine wi_ast hx hb hK hP hD hS 2 0 rfl rfl (by omega) (by omega) d_Cl_insert_49 (fun H locs hP hD hS => ?_)
          have hP : va_P D kcl [(h, .inr (0, [.ref a1, .ref a2, .ref a3, .ref a4, .int (nI n)])), (a1, .inl (cI, 10, .inl (wA (va_up u1 k v)))), (a2, .inl (cI, 10, .inl (wA (va_up u2 k z)))), (a3, .inl (cI, 10, .inl (wA u3))), (a4, .inl (cI, 10, .inl (wA u4)))] H := hP
          have hD : va_D A [(h, .inr (0, [.ref a1, .ref a2, .ref a3, .ref a4, .int (nI n)])), (a1, .inl (cI, 10, .inl (wA (va_up u1 k v)))), (a2, .inl (cI, 10, .inl (wA (va_up u2 k z)))), (a3, .inl (cI, 10, .inl (wA u3))), (a4, .inl (cI, 10, .inl (wA u4)))] := hD
          refine lv_aload_n hx hb d_Cl_insert_50 rfl (lv_at hl 0 rfl) ?_
          refine va_get (D := D) (ci := 0) (v := .ref a3) (C := R_Cl) (T := T_Cl) (N := 5) hx hb ht u_Cl hown hK hP 0 rfl rfl 2 (by decide) (ht _ wd_54) (fun _ h9 => h9) rfl d_Cl_insert_51 ?_
          refine lv_iload_n hx hb d_Cl_insert_54 rfl (lv_at hl 3 rfl) ?_
          refine lv_iconst (v := nI 0) hx hb d_Cl_insert_55 (by decide) ?_
          refine wi_ast hx hb hK hP hD hS 3 0 rfl rfl (by omega) (by omega) d_Cl_insert_56 (fun H locs hP hD hS => ?_)
          have hP : va_P D kcl [(h, .inr (0, [.ref a1, .ref a2, .ref a3, .ref a4, .int (nI n)])), (a1, .inl (cI, 10, .inl (wA (va_up u1 k v)))), (a2, .inl (cI, 10, .inl (wA (va_up u2 k z)))), (a3, .inl (cI, 10, .inl (wA (va_up u3 k 0)))), (a4, .inl (cI, 10, .inl (wA u4)))] H := hP
          have hD : va_D A [(h, .inr (0, [.ref a1, .ref a2, .ref a3, .ref a4, .int (nI n)])), (a1, .inl (cI, 10, .inl (wA (va_up u1 k v)))), (a2, .inl (cI, 10, .inl (wA (va_up u2 k z)))), (a3, .inl (cI, 10, .inl (wA (va_up u3 k 0)))), (a4, .inl (cI, 10, .inl (wA u4)))] := hD
          refine lv_aload_n hx hb d_Cl_insert_57 rfl (lv_at hl 0 rfl) ?_
          refine va_get (D := D) (ci := 0) (v := .ref a4) (C := R_Cl) (T := T_Cl) (N := 5) hx hb ht u_Cl hown hK hP 0 rfl rfl 3 (by decide) (ht _ wd_55) (fun _ h9 => h9) rfl d_Cl_insert_58 ?_
          refine lv_iload_n hx hb d_Cl_insert_61 rfl (lv_at hl 3 rfl) ?_
          refine lv_iconst (v := nI 0) hx hb d_Cl_insert_62 (by decide) ?_
          refine wi_ast hx hb hK hP hD hS 4 0 rfl rfl (by omega) (by omega) d_Cl_insert_63 (fun H locs hP hD hS => ?_)
          have hP : va_P D kcl [(h, .inr (0, [.ref a1, .ref a2, .ref a3, .ref a4, .int (nI n)])), (a1, .inl (cI, 10, .inl (wA (va_up u1 k v)))), (a2, .inl (cI, 10, .inl (wA (va_up u2 k z)))), (a3, .inl (cI, 10, .inl (wA (va_up u3 k 0)))), (a4, .inl (cI, 10, .inl (wA (va_up u4 k 0))))] H := hP
          have hD : va_D A [(h, .inr (0, [.ref a1, .ref a2, .ref a3, .ref a4, .int (nI n)])), (a1, .inl (cI, 10, .inl (wA (va_up u1 k v)))), (a2, .inl (cI, 10, .inl (wA (va_up u2 k z)))), (a3, .inl (cI, 10, .inl (wA (va_up u3 k 0)))), (a4, .inl (cI, 10, .inl (wA (va_up u4 k 0))))] := hD
          refine lv_aload_n hx hb d_Cl_insert_64 rfl (lv_at hl 0 rfl) ?_
          refine lv_dup hx hb d_Cl_insert_65 rfl ?_
          refine va_get (D := D) (ci := 0) (v := .int (nI n)) (C := R_Cl) (T := T_Cl) (N := 5) hx hb ht u_Cl hown hK hP 0 rfl rfl 4 (by decide) (ht _ wd_56) (fun _ h9 => h9) rfl d_Cl_insert_66 ?_
          refine lv_iconst (v := nI 1) hx hb d_Cl_insert_69 (by decide) ?_
          refine wi_add hx hb d_Cl_insert_70 ?_
          refine va_put (D := D) (ci := 0) (v := .int (nI (n + 1))) (ty := .int) (C := R_Cl) (T := T_Cl) (N := 5) hx hb ht u_Cl t_Cl t_Cl_ok n_Cl hown hK hP hD hS 0 rfl rfl 4 (by decide) (ht _ wd_56) (fun _ h9 => h9) rfl (by decide +kernel) rfl rfl (Nat.le_of_ble_eq_true rfl) d_Cl_insert_71 (fun H locs hP hD hS => ?_)
          have hP : va_P D kcl [(h, .inr (0, [.ref a1, .ref a2, .ref a3, .ref a4, .int (nI (n + 1))])), (a1, .inl (cI, 10, .inl (wA (va_up u1 k v)))), (a2, .inl (cI, 10, .inl (wA (va_up u2 k z)))), (a3, .inl (cI, 10, .inl (wA (va_up u3 k 0)))), (a4, .inl (cI, 10, .inl (wA (va_up u4 k 0))))] H := hP
          have hD : va_D A [(h, .inr (0, [.ref a1, .ref a2, .ref a3, .ref a4, .int (nI (n + 1))])), (a1, .inl (cI, 10, .inl (wA (va_up u1 k v)))), (a2, .inl (cI, 10, .inl (wA (va_up u2 k z)))), (a3, .inl (cI, 10, .inl (wA (va_up u3 k 0)))), (a4, .inl (cI, 10, .inl (wA (va_up u4 k 0))))] := hD
          exact k_retv hQ hx hb hr hlk hAe hK hP hD hS (Nat.le_of_ble_eq_true rfl) (Nat.le_of_ble_eq_true rfl) (Nat.le_of_ble_eq_true rfl) ⟨k, _, _, _, _, hk, hlow, hbig, up_in hu1 v, up_in hu2 z, up_in hu3 0, up_in hu4 0, rfl⟩ d_Cl_insert_74
        · refine lv_aload_n hx hb d_Cl_insert_21 rfl (lv_at hl 0 rfl) ?_
          refine lv_iload_n hx hb d_Cl_insert_22 rfl (lv_at hl 3 rfl) ?_
          refine lv_aload_n hx hb d_Cl_insert_23 rfl (lv_at hl 0 rfl) ?_
          refine lv_iload_n hx hb d_Cl_insert_24 rfl (lv_at hl 3 rfl) ?_
          refine lv_iconst (v := nI 1) hx hb d_Cl_insert_25 (by decide) ?_
          refine wi_sub hx hb d_Cl_insert_26 (by omega) ?_
          refine ck_v (wc := [(h, .inr (0, [.ref a1, .ref a2, .ref a3, .ref a4, .int (nI n)])), (a1, .inl (cI, 10, .inl (wA u1))), (a2, .inl (cI, 10, .inl (wA u2))), (a3, .inl (cI, 10, .inl (wA u3))), (a4, .inl (cI, 10, .inl (wA u4)))]) (va_runV (As := [.int (nI k), .ref h, .int (nI (k - 1))]) (rest := []) (C := R_Cl) ⟨hx, hb, hml, hown, ht⟩ (c_Cl_copyAt2 l Hs D cI cZ cL h a1 a2 a3 a4 n u1 u2 u3 u4 k (k - 1) (by omega) (by omega) H.size) (gw_V 3 ht wd_137 wd_3 wd_134 wd_136 ws_1 (by decide +kernel) ⟨Nat.le_of_ble_eq_true rfl, Nat.le_of_ble_eq_true rfl⟩) (k_preV hE hAH hK hP hD hS [0, 1, 2, 3, 4] rfl rfl 0 rfl rfl) rfl rfl hl.1 rfl (lv_room (Nat.le_of_ble_eq_true rfl)) d_Cl_insert_27 ⟨Nat.le_of_ble_eq_true rfl, Nat.le_of_ble_eq_true rfl⟩) hP hD hS hA [0, 1, 2, 3, 4] rfl rfl (fun w1 H locs hpost hP hD hS => ?_)
          obtain rfl := hpost
          have hP : va_P D kcl [(h, .inr (0, [.ref a1, .ref a2, .ref a3, .ref a4, .int (nI n)])), (a1, .inl (cI, 10, .inl (wA (va_up u1 k (u1 (k - 1)))))), (a2, .inl (cI, 10, .inl (wA (va_up u2 k (u2 (k - 1)))))), (a3, .inl (cI, 10, .inl (wA (va_up u3 k (u3 (k - 1)))))), (a4, .inl (cI, 10, .inl (wA (va_up u4 k (u4 (k - 1))))))] H := hP
          have hD : va_D A [(h, .inr (0, [.ref a1, .ref a2, .ref a3, .ref a4, .int (nI n)])), (a1, .inl (cI, 10, .inl (wA (va_up u1 k (u1 (k - 1)))))), (a2, .inl (cI, 10, .inl (wA (va_up u2 k (u2 (k - 1)))))), (a3, .inl (cI, 10, .inl (wA (va_up u3 k (u3 (k - 1)))))), (a4, .inl (cI, 10, .inl (wA (va_up u4 k (u4 (k - 1))))))] := hD
          refine wi_dec (k := 3) (lv' := [(3, .int (nI (k - 1))), (0, .ref h), (1, .int (nI v)), (2, .int (nI z))]) hx hb d_Cl_insert_30 hl (by omega) rfl (by decide) rfl (fun ls hl => ?_)
          refine lv_goto hx hb d_Cl_insert_33 rfl ?_
          exact ih5 ((k - 1)) (by omega) (k - 1) (va_up u1 k (u1 (k - 1))) (va_up u2 k (u2 (k - 1))) (va_up u3 k (u3 (k - 1))) (va_up u4 k (u4 (k - 1))) ls H locs rfl (by omega) (fun j h1 h2 => by
      by_cases e : j = k - 1
      · rw [e, ← hu1.1 (k - 1) (by omega)]; exact h18
      · exact hbig j (by omega) h2) (up_mv hu1 h6 hk) (up_mv hu2 h6 hk) (up_mv hu3 h6 hk) (up_mv hu4 h6 hk) (lv_sub hl [1, 2, 3, 0] rfl) hP hD hS
  exact loop5 _ (n) (f1) (f2) (f3) (f4) ls H locs rfl (Nat.le_refl _) (fun j h1 h2 => by omega) ⟨fun t _ => rfl, fun t h1 h2 => by omega⟩ ⟨fun t _ => rfl, fun t h1 h2 => by omega⟩ ⟨fun t _ => rfl, fun t h1 h2 => by omega⟩ ⟨fun t _ => rfl, fun t h1 h2 => by omega⟩ (lv_sub hl [1, 2, 3, 0] rfl) hP hD hS
set_option maxHeartbeats 4000000 in
set_option maxRecDepth 100000 in
theorem c_Cl_removeAt (l : Launch) (Hs : Heap) (D : va_G) (cI cZ cL : ClassId) (h : Nat) (a1 : Nat) (a2 : Nat) (a3 : Nat) (a4 : Nat) (n : Nat) (f1 : Nat → Nat) (f2 : Nat → Nat) (f3 : Nat → Nat) (f4 : Nat → Nat) (i : Nat) (hn : n ≤ 10) (hi : i < n) : kV l Hs D kcl (ty3 cI cZ cL) y_Cl_removeAt (mws y_Cl_removeAt b_Cl_removeAt 3 (Option.none : Option Jvm.ClassFile.FieldType)) ({ frames := 1, cells := 0, slots := 0, locals := 23 } : Room) [.ref h, .int (nI i)] [(h, .inr (0, [.ref a1, .ref a2, .ref a3, .ref a4, .int (nI n)])), (a1, .inl (cI, 10, .inl (wA f1))), (a2, .inl (cI, 10, .inl (wA f2))), (a3, .inl (cI, 10, .inl (wA f3))), (a4, .inl (cI, 10, .inl (wA f4)))] (fun w => ∃ (u1 : Nat → Nat), ∃ (u2 : Nat → Nat), ∃ (u3 : Nat → Nat), ∃ (u4 : Nat → Nat), (pw_ou f1 u1 n i) ∧ (pw_ou f2 u2 n i) ∧ (pw_ou f3 u3 n i) ∧ (pw_ou f4 u4 n i) ∧ w = [(h, .inr (0, [.ref a1, .ref a2, .ref a3, .ref a4, .int (nI (n - 1))])), (a1, .inl (cI, 10, .inl (wA u1))), (a2, .inl (cI, 10, .inl (wA u2))), (a3, .inl (cI, 10, .inl (wA u3))), (a4, .inl (cI, 10, .inl (wA u4)))]) := by
  intro sz
  refine k_of (cc := b_Cl_removeAt) (maxL := 3) (ret := (Option.none : Option Jvm.ClassFile.FieldType)) (by decide) rfl (Nat.le_of_ble_eq_true rfl) ?_
  intro p e s m args below meth c ls H locs A Q hQ hx hb hml hr hts hown hlk hnm hsz hAe hP hK hD hS hA hE hAH hl
  have ht : ∀ w ∈ mw, w.before args s = true := fun w h => hts w (List.mem_cons_of_mem _ h)
  have hl : lv_has ls 3 [(0, .ref h), (1, .int (nI i))] := hl
  refine lv_aload_n hx hb d_Cl_removeAt_0 rfl (lv_at hl 0 rfl) ?_
  refine lv_dup hx hb d_Cl_removeAt_1 rfl ?_
  refine va_get (D := D) (ci := 0) (v := .int (nI n)) (C := R_Cl) (T := T_Cl) (N := 5) hx hb ht u_Cl hown hK hP 0 rfl rfl 4 (by decide) (ht _ wd_56) (fun _ h9 => h9) rfl d_Cl_removeAt_2 ?_
  refine lv_iconst (v := nI 1) hx hb d_Cl_removeAt_5 (by decide) ?_
  refine wi_sub hx hb d_Cl_removeAt_6 (by omega) ?_
  refine va_put (D := D) (ci := 0) (v := .int (nI (n - 1))) (ty := .int) (C := R_Cl) (T := T_Cl) (N := 5) hx hb ht u_Cl t_Cl t_Cl_ok n_Cl hown hK hP hD hS 0 rfl rfl 4 (by decide) (ht _ wd_56) (fun _ h9 => h9) rfl (by decide +kernel) rfl rfl (Nat.le_of_ble_eq_true rfl) d_Cl_removeAt_7 (fun H locs hP hD hS => ?_)
  have hP : va_P D kcl [(h, .inr (0, [.ref a1, .ref a2, .ref a3, .ref a4, .int (nI (n - 1))])), (a1, .inl (cI, 10, .inl (wA f1))), (a2, .inl (cI, 10, .inl (wA f2))), (a3, .inl (cI, 10, .inl (wA f3))), (a4, .inl (cI, 10, .inl (wA f4)))] H := hP
  have hD : va_D A [(h, .inr (0, [.ref a1, .ref a2, .ref a3, .ref a4, .int (nI (n - 1))])), (a1, .inl (cI, 10, .inl (wA f1))), (a2, .inl (cI, 10, .inl (wA f2))), (a3, .inl (cI, 10, .inl (wA f3))), (a4, .inl (cI, 10, .inl (wA f4)))] := hD
  refine lv_iload_n hx hb d_Cl_removeAt_10 rfl (lv_at hl 1 rfl) ?_
  refine lv_istore_n (lv' := [(2, .int (nI i)), (0, .ref h), (1, .int (nI i))]) hx hb d_Cl_removeAt_11 rfl hl (by decide) rfl (fun ls hl => ?_)
  have loop12 : ∀ (d : Nat) (k : Nat) (u1 : Nat → Nat) (u2 : Nat → Nat) (u3 : Nat → Nat) (u4 : Nat → Nat) (ls : Array Slot) (H : Heap) (locs : List Loc), n - k = d → (k < n) → (i ≤ k) → ((∀ t, t < k → u1 t = if t < i then f1 t else f1 (t + 1)) ∧ ∀ t, k ≤ t → u1 t = f1 t) → ((∀ t, t < k → u2 t = if t < i then f2 t else f2 (t + 1)) ∧ ∀ t, k ≤ t → u2 t = f2 t) → ((∀ t, t < k → u3 t = if t < i then f3 t else f3 (t + 1)) ∧ ∀ t, k ≤ t → u3 t = f3 t) → ((∀ t, t < k → u4 t = if t < i then f4 t else f4 (t + 1)) ∧ ∀ t, k ≤ t → u4 t = f4 t) → lv_has ls 3 [(0, .ref h), (1, .int (nI i)), (2, .int (nI k))] → va_P D kcl [(h, .inr (0, [.ref a1, .ref a2, .ref a3, .ref a4, .int (nI (n - 1))])), (a1, .inl (cI, 10, .inl (wA u1))), (a2, .inl (cI, 10, .inl (wA u2))), (a3, .inl (cI, 10, .inl (wA u3))), (a4, .inl (cI, 10, .inl (wA u4)))] H → va_D A [(h, .inr (0, [.ref a1, .ref a2, .ref a3, .ref a4, .int (nI (n - 1))])), (a1, .inl (cI, 10, .inl (wA u1))), (a2, .inl (cI, 10, .inl (wA u2))), (a3, .inl (cI, 10, .inl (wA u3))), (a4, .inl (cI, 10, .inl (wA u4)))] → va_S A s.heap H locs → W p l e ({ frames := 1, cells := 0, slots := 0, locals := 23 } : Room) s m args below meth c H locs 0 0 Q (F0 m 12 ls []) := by
    intro d
    induction d using Nat.strongRecOn with
    | ind d ih12 =>
      intro k u1 u2 u3 u4 ls H locs hd12 hk hik hu1 hu2 hu3 hu4 hl hP hD hS
      refine lv_iload_n hx hb d_Cl_removeAt_12 rfl (lv_at hl 2 rfl) ?_
      refine lv_aload_n hx hb d_Cl_removeAt_13 rfl (lv_at hl 0 rfl) ?_
      refine va_get (D := D) (ci := 0) (v := .int (nI (n - 1))) (C := R_Cl) (T := T_Cl) (N := 5) hx hb ht u_Cl hown hK hP 0 rfl rfl 4 (by decide) (ht _ wd_56) (fun _ h9 => h9) rfl d_Cl_removeAt_14 ?_
      refine wi_ge hx hb d_Cl_removeAt_17 rfl (by omega) (by omega) (fun h17 => ?_) (fun h17 => ?_)
      · exact k_retv hQ hx hb hr hlk hAe hK hP hD hS (Nat.le_of_ble_eq_true rfl) (Nat.le_of_ble_eq_true rfl) (Nat.le_of_ble_eq_true rfl) ⟨u1, u2, u3, u4, fun t ht => hu1.1 t (by omega), fun t ht => hu2.1 t (by omega), fun t ht => hu3.1 t (by omega), fun t ht => hu4.1 t (by omega), rfl⟩ d_Cl_removeAt_35
      · refine lv_aload_n hx hb d_Cl_removeAt_20 rfl (lv_at hl 0 rfl) ?_
        refine lv_iload_n hx hb d_Cl_removeAt_21 rfl (lv_at hl 2 rfl) ?_
        refine lv_aload_n hx hb d_Cl_removeAt_22 rfl (lv_at hl 0 rfl) ?_
        refine lv_iload_n hx hb d_Cl_removeAt_23 rfl (lv_at hl 2 rfl) ?_
        refine lv_iconst (v := nI 1) hx hb d_Cl_removeAt_24 (by decide) ?_
        refine wi_add hx hb d_Cl_removeAt_25 ?_
        refine ck_v (wc := [(h, .inr (0, [.ref a1, .ref a2, .ref a3, .ref a4, .int (nI (n - 1))])), (a1, .inl (cI, 10, .inl (wA u1))), (a2, .inl (cI, 10, .inl (wA u2))), (a3, .inl (cI, 10, .inl (wA u3))), (a4, .inl (cI, 10, .inl (wA u4)))]) (va_runV (As := [.int (nI k), .ref h, .int (nI (k + 1))]) (rest := []) (C := R_Cl) ⟨hx, hb, hml, hown, ht⟩ (c_Cl_copyAt2 l Hs D cI cZ cL h a1 a2 a3 a4 (n - 1) u1 u2 u3 u4 k (k + 1) (by omega) (by omega) H.size) (gw_V 3 ht wd_137 wd_3 wd_134 wd_136 ws_1 (by decide +kernel) ⟨Nat.le_of_ble_eq_true rfl, Nat.le_of_ble_eq_true rfl⟩) (k_preV hE hAH hK hP hD hS [0, 1, 2, 3, 4] rfl rfl 0 rfl rfl) rfl rfl hl.1 rfl (lv_room (Nat.le_of_ble_eq_true rfl)) d_Cl_removeAt_26 ⟨Nat.le_of_ble_eq_true rfl, Nat.le_of_ble_eq_true rfl⟩) hP hD hS hA [0, 1, 2, 3, 4] rfl rfl (fun w1 H locs hpost hP hD hS => ?_)
        obtain rfl := hpost
        have hP : va_P D kcl [(h, .inr (0, [.ref a1, .ref a2, .ref a3, .ref a4, .int (nI (n - 1))])), (a1, .inl (cI, 10, .inl (wA (va_up u1 k (u1 (k + 1)))))), (a2, .inl (cI, 10, .inl (wA (va_up u2 k (u2 (k + 1)))))), (a3, .inl (cI, 10, .inl (wA (va_up u3 k (u3 (k + 1)))))), (a4, .inl (cI, 10, .inl (wA (va_up u4 k (u4 (k + 1))))))] H := hP
        have hD : va_D A [(h, .inr (0, [.ref a1, .ref a2, .ref a3, .ref a4, .int (nI (n - 1))])), (a1, .inl (cI, 10, .inl (wA (va_up u1 k (u1 (k + 1)))))), (a2, .inl (cI, 10, .inl (wA (va_up u2 k (u2 (k + 1)))))), (a3, .inl (cI, 10, .inl (wA (va_up u3 k (u3 (k + 1)))))), (a4, .inl (cI, 10, .inl (wA (va_up u4 k (u4 (k + 1))))))] := hD
        refine wi_inc (k := 2) (lv' := [(2, .int (nI (k + 1))), (0, .ref h), (1, .int (nI i))]) hx hb d_Cl_removeAt_29 hl rfl (by decide) rfl (fun ls hl => ?_)
        refine lv_goto hx hb d_Cl_removeAt_32 rfl ?_
        exact ih12 (n - (k + 1)) (by omega) (k + 1) (va_up u1 k (u1 (k + 1))) (va_up u2 k (u2 (k + 1))) (va_up u3 k (u3 (k + 1))) (va_up u4 k (u4 (k + 1))) ls H locs rfl (by omega) (by omega) (up_ou hu1 hik) (up_ou hu2 hik) (up_ou hu3 hik) (up_ou hu4 hik) (lv_sub hl [1, 2, 0] rfl) hP hD hS
  exact loop12 _ (i) (f1) (f2) (f3) (f4) ls H locs rfl hi (Nat.le_refl _) ⟨fun t ht => by rw [if_pos ht], fun _ _ => rfl⟩ ⟨fun t ht => by rw [if_pos ht], fun _ _ => rfl⟩ ⟨fun t ht => by rw [if_pos ht], fun _ _ => rfl⟩ ⟨fun t ht => by rw [if_pos ht], fun _ _ => rfl⟩ (lv_sub hl [1, 2, 0] rfl) hP hD hS
set_option maxHeartbeats 4000000 in
set_option maxRecDepth 100000 in
theorem c_Cl_takeTimesFrom (l : Launch) (Hs : Heap) (D : va_G) (cI cZ cL : ClassId) (h : Nat) (a1 : Nat) (a2 : Nat) (a3 : Nat) (a4 : Nat) (o : Nat) (b1 : Nat) (b2 : Nat) (b3 : Nat) (b4 : Nat) (n : Nat) (q : Nat) (f1 : Nat → Nat) (f2 : Nat → Nat) (f3 : Nat → Nat) (f4 : Nat → Nat) (g1 : Nat → Nat) (g2 : Nat → Nat) (g3 : Nat → Nat) (g4 : Nat → Nat) (hn : n ≤ 10) (hq : q ≤ 10) (hf : ∀ t, t < n → f1 t < 2 ^ 31) (hg : ∀ t, t < q → g1 t < 2 ^ 31) : kV l Hs D kcl (ty3 cI cZ cL) y_Cl_takeTimesFrom (mws y_Cl_takeTimesFrom b_Cl_takeTimesFrom 4 (Option.none : Option Jvm.ClassFile.FieldType)) ({ frames := 1, cells := 0, slots := 0, locals := 23 } : Room) [.ref h, .ref o] [(h, .inr (0, [.ref a1, .ref a2, .ref a3, .ref a4, .int (nI n)])), (a1, .inl (cI, 10, .inl (wA f1))), (a2, .inl (cI, 10, .inl (wA f2))), (a3, .inl (cI, 10, .inl (wA f3))), (a4, .inl (cI, 10, .inl (wA f4))), (o, .inr (0, [.ref b1, .ref b2, .ref b3, .ref b4, .int (nI q)])), (b1, .inl (cI, 10, .inl (wA g1))), (b2, .inl (cI, 10, .inl (wA g2))), (b3, .inl (cI, 10, .inl (wA g3))), (b4, .inl (cI, 10, .inl (wA g4)))] (fun w => ∃ (u1 : Nat → Nat), ∃ (u2 : Nat → Nat), ∃ (u3 : Nat → Nat), ∃ (u4 : Nat → Nat), (∀ t, t < n → (∃ i, i < q ∧ g1 i = f1 t ∧ u1 t = g1 i ∧ u2 t = g2 i ∧ u3 t = g3 i ∧ u4 t = g4 i) ∨ ((∀ i, i < q → g1 i ≠ f1 t) ∧ u1 t = f1 t ∧ u2 t = f2 t ∧ u3 t = f3 t ∧ u4 t = f4 t)) ∧ w = [(h, .inr (0, [.ref a1, .ref a2, .ref a3, .ref a4, .int (nI n)])), (a1, .inl (cI, 10, .inl (wA u1))), (a2, .inl (cI, 10, .inl (wA u2))), (a3, .inl (cI, 10, .inl (wA u3))), (a4, .inl (cI, 10, .inl (wA u4))), (o, .inr (0, [.ref b1, .ref b2, .ref b3, .ref b4, .int (nI q)])), (b1, .inl (cI, 10, .inl (wA g1))), (b2, .inl (cI, 10, .inl (wA g2))), (b3, .inl (cI, 10, .inl (wA g3))), (b4, .inl (cI, 10, .inl (wA g4)))]) := by
  intro sz
  refine k_of (cc := b_Cl_takeTimesFrom) (maxL := 4) (ret := (Option.none : Option Jvm.ClassFile.FieldType)) (by decide) rfl (Nat.le_of_ble_eq_true rfl) ?_
  intro p e s m args below meth c ls H locs A Q hQ hx hb hml hr hts hown hlk hnm hsz hAe hP hK hD hS hA hE hAH hl
  have ht : ∀ w ∈ mw, w.before args s = true := fun w h => hts w (List.mem_cons_of_mem _ h)
  have hl : lv_has ls 4 [(0, .ref h), (1, .ref o)] := hl
  refine lv_iconst (v := nI 0) hx hb d_Cl_takeTimesFrom_0 (by decide) ?_
  refine lv_istore_n (lv' := [(2, .int (nI 0)), (0, .ref h), (1, .ref o)]) hx hb d_Cl_takeTimesFrom_1 rfl hl (by decide) rfl (fun ls hl => ?_)
  have loop2 : ∀ (d : Nat) (k : Nat) (u1 : Nat → Nat) (u2 : Nat → Nat) (u3 : Nat → Nat) (u4 : Nat → Nat) (ls : Array Slot) (H : Heap) (locs : List Loc), n - k = d → (k ≤ n) → (∀ t, t < k → (∃ i, i < q ∧ g1 i = f1 t ∧ u1 t = g1 i ∧ u2 t = g2 i ∧ u3 t = g3 i ∧ u4 t = g4 i) ∨ ((∀ i, i < q → g1 i ≠ f1 t) ∧ u1 t = f1 t ∧ u2 t = f2 t ∧ u3 t = f3 t ∧ u4 t = f4 t)) → (∀ t, k ≤ t → u1 t = f1 t ∧ u2 t = f2 t ∧ u3 t = f3 t ∧ u4 t = f4 t) → lv_has ls 4 [(0, .ref h), (1, .ref o), (2, .int (nI k))] → va_P D kcl [(h, .inr (0, [.ref a1, .ref a2, .ref a3, .ref a4, .int (nI n)])), (a1, .inl (cI, 10, .inl (wA u1))), (a2, .inl (cI, 10, .inl (wA u2))), (a3, .inl (cI, 10, .inl (wA u3))), (a4, .inl (cI, 10, .inl (wA u4))), (o, .inr (0, [.ref b1, .ref b2, .ref b3, .ref b4, .int (nI q)])), (b1, .inl (cI, 10, .inl (wA g1))), (b2, .inl (cI, 10, .inl (wA g2))), (b3, .inl (cI, 10, .inl (wA g3))), (b4, .inl (cI, 10, .inl (wA g4)))] H → va_D A [(h, .inr (0, [.ref a1, .ref a2, .ref a3, .ref a4, .int (nI n)])), (a1, .inl (cI, 10, .inl (wA u1))), (a2, .inl (cI, 10, .inl (wA u2))), (a3, .inl (cI, 10, .inl (wA u3))), (a4, .inl (cI, 10, .inl (wA u4))), (o, .inr (0, [.ref b1, .ref b2, .ref b3, .ref b4, .int (nI q)])), (b1, .inl (cI, 10, .inl (wA g1))), (b2, .inl (cI, 10, .inl (wA g2))), (b3, .inl (cI, 10, .inl (wA g3))), (b4, .inl (cI, 10, .inl (wA g4)))] → va_S A s.heap H locs → W p l e ({ frames := 1, cells := 0, slots := 0, locals := 23 } : Room) s m args below meth c H locs 0 0 Q (F0 m 2 ls []) := by
    intro d
    induction d using Nat.strongRecOn with
    | ind d ih2 =>
      intro k u1 u2 u3 u4 ls H locs hd2 hk hdo hun hl hP hD hS
      refine lv_iload_n hx hb d_Cl_takeTimesFrom_2 rfl (lv_at hl 2 rfl) ?_
      refine lv_aload_n hx hb d_Cl_takeTimesFrom_3 rfl (lv_at hl 0 rfl) ?_
      refine va_get (D := D) (ci := 0) (v := .int (nI n)) (C := R_Cl) (T := T_Cl) (N := 5) hx hb ht u_Cl hown hK hP 0 rfl rfl 4 (by decide) (ht _ wd_56) (fun _ h9 => h9) rfl d_Cl_takeTimesFrom_4 ?_
      refine wi_ge hx hb d_Cl_takeTimesFrom_7 rfl (by omega) (by omega) (fun h7 => ?_) (fun h7 => ?_)
      · exact k_retv hQ hx hb hr hlk hAe hK hP hD hS (Nat.le_of_ble_eq_true rfl) (Nat.le_of_ble_eq_true rfl) (Nat.le_of_ble_eq_true rfl) ⟨u1, u2, u3, u4, fun t h9 => hdo t (by omega), rfl⟩ d_Cl_takeTimesFrom_39
      · have huk := hun k (Nat.le_refl k)
        have hfk := hf k h7
        refine lv_aload_n hx hb d_Cl_takeTimesFrom_10 rfl (lv_at hl 1 rfl) ?_
        refine lv_aload_n hx hb d_Cl_takeTimesFrom_11 rfl (lv_at hl 0 rfl) ?_
        refine va_get (D := D) (ci := 0) (v := .ref a1) (C := R_Cl) (T := T_Cl) (N := 5) hx hb ht u_Cl hown hK hP 0 rfl rfl 0 (by decide) (ht _ wd_52) (fun _ h9 => h9) rfl d_Cl_takeTimesFrom_12 ?_
        refine lv_iload_n hx hb d_Cl_takeTimesFrom_15 rfl (lv_at hl 2 rfl) ?_
        refine wi_ald hx hb hK hP 1 0 rfl rfl (by omega) (by omega) d_Cl_takeTimesFrom_16 ?_
        refine ck_i (wc := [(o, .inr (0, [.ref b1, .ref b2, .ref b3, .ref b4, .int (nI q)])), (b1, .inl (cI, 10, .inl (wA g1)))]) (va_runV (As := [.int (nI (u1 k))]) (rest := []) (C := R_Cl) ⟨hx, hb, hml, hown, ht⟩ (c_Cl_find l Hs D cI cZ cL o b1 b2 b3 b4 q g1 (nI (u1 k)) hq H.size) (gw_V 1 ht wd_133 wd_3 wd_130 wd_131 wd_132 (by decide +kernel) ⟨Nat.le_of_ble_eq_true rfl, Nat.le_of_ble_eq_true rfl⟩) (k_preV hE hAH hK hP hD hS [5, 6] rfl rfl 5 rfl rfl) rfl rfl hl.1 rfl (lv_room (Nat.le_of_ble_eq_true rfl)) d_Cl_takeTimesFrom_17 ⟨Nat.le_of_ble_eq_true rfl, Nat.le_of_ble_eq_true rfl⟩) hP hD hS hA [5, 6] rfl rfl (fun r17 w1 H locs hpost hP hD hS => ?_)
        obtain ⟨r0, hfd, rfl, rfl⟩ := hpost
        have hP : va_P D kcl [(h, .inr (0, [.ref a1, .ref a2, .ref a3, .ref a4, .int (nI n)])), (a1, .inl (cI, 10, .inl (wA u1))), (a2, .inl (cI, 10, .inl (wA u2))), (a3, .inl (cI, 10, .inl (wA u3))), (a4, .inl (cI, 10, .inl (wA u4))), (o, .inr (0, [.ref b1, .ref b2, .ref b3, .ref b4, .int (nI q)])), (b1, .inl (cI, 10, .inl (wA g1))), (b2, .inl (cI, 10, .inl (wA g2))), (b3, .inl (cI, 10, .inl (wA g3))), (b4, .inl (cI, 10, .inl (wA g4)))] H := hP
        have hD : va_D A [(h, .inr (0, [.ref a1, .ref a2, .ref a3, .ref a4, .int (nI n)])), (a1, .inl (cI, 10, .inl (wA u1))), (a2, .inl (cI, 10, .inl (wA u2))), (a3, .inl (cI, 10, .inl (wA u3))), (a4, .inl (cI, 10, .inl (wA u4))), (o, .inr (0, [.ref b1, .ref b2, .ref b3, .ref b4, .int (nI q)])), (b1, .inl (cI, 10, .inl (wA g1))), (b2, .inl (cI, 10, .inl (wA g2))), (b3, .inl (cI, 10, .inl (wA g3))), (b4, .inl (cI, 10, .inl (wA g4)))] := hD
        refine lv_istore_n (lv' := [(3, .int r17), (0, .ref h), (1, .ref o), (2, .int (nI k))]) hx hb d_Cl_takeTimesFrom_20 rfl hl (by decide) rfl (fun ls hl => ?_)
        refine lv_iload_n hx hb d_Cl_takeTimesFrom_21 rfl (lv_at hl 0 rfl) ?_
        refine lv_iconst (v := -1) hx hb d_Cl_takeTimesFrom_22 (by decide) ?_
        refine lv_icmp_eq hx hb d_Cl_takeTimesFrom_23 rfl (fun h23 => ?_) (fun h23 => ?_)
        · have hna : ∀ i, i < q → g1 i ≠ f1 k := by
            rcases hfd with ⟨i, hi, -, e, -⟩ | ⟨-, hall⟩
            · rw [h23] at e; exact absurd e (nI_m1 (by omega))
            · intro i hi e; exact hall i hi (by rw [e, huk.1])
          have hdo2 := lt_s hdo (Or.inr ⟨hna, huk⟩)
          have hun2 : ∀ t, k + 1 ≤ t → u1 t = f1 t ∧ u2 t = f2 t ∧ u3 t = f3 t ∧ u4 t = f4 t := fun t h9 => hun t (by omega)
          refine wi_inc (k := 3) (lv' := [(2, .int (nI (k + 1))), (3, .int r17), (0, .ref h), (1, .ref o)]) hx hb d_Cl_takeTimesFrom_33 hl rfl (by decide) rfl (fun ls hl => ?_)
          refine lv_goto hx hb d_Cl_takeTimesFrom_36 rfl ?_
          exact ih2 (n - (k + 1)) (by omega) (k + 1) (u1) (u2) (u3) (u4) ls H locs rfl (by omega) hdo2 hun2 (lv_sub hl [2, 3, 0] rfl) hP hD hS
        · obtain ⟨i, hi, hgi, rfl, hni⟩ := hfd.resolve_right (fun z => h23 z.1)
          have hgi : g1 i = f1 k := by rw [← huk.1]; exact (nI_eq (hg i hi) (by rw [huk.1]; exact hfk)).mp hgi
          have hl : lv_has ls 4 [(3, .int (nI i)), (0, .ref h), (1, .ref o), (2, .int (nI k))] := hl
          refine lv_aload_n hx hb d_Cl_takeTimesFrom_26 rfl (lv_at hl 1 rfl) ?_
          refine lv_iload_n hx hb d_Cl_takeTimesFrom_27 rfl (lv_at hl 3 rfl) ?_
          refine lv_aload_n hx hb d_Cl_takeTimesFrom_28 rfl (lv_at hl 2 rfl) ?_
          refine lv_iload_n hx hb d_Cl_takeTimesFrom_29 rfl (lv_at hl 0 rfl) ?_
          refine ck_v (wc := [(h, .inr (0, [.ref a1, .ref a2, .ref a3, .ref a4, .int (nI n)])), (a1, .inl (cI, 10, .inl (wA u1))), (a2, .inl (cI, 10, .inl (wA u2))), (a3, .inl (cI, 10, .inl (wA u3))), (a4, .inl (cI, 10, .inl (wA u4))), (o, .inr (0, [.ref b1, .ref b2, .ref b3, .ref b4, .int (nI q)])), (b1, .inl (cI, 10, .inl (wA g1))), (b2, .inl (cI, 10, .inl (wA g2))), (b3, .inl (cI, 10, .inl (wA g3))), (b4, .inl (cI, 10, .inl (wA g4)))]) (va_runV (As := [.int (nI k), .ref o, .int (nI i)]) (rest := []) (C := R_Cl) ⟨hx, hb, hml, hown, ht⟩ (c_Cl_copyAt l Hs D cI cZ cL h a1 a2 a3 a4 o b1 b2 b3 b4 n q u1 u2 u3 u4 g1 g2 g3 g4 k i (by omega) (by omega) H.size) (gw_V 3 ht wd_137 wd_3 wd_134 wd_136 ws_1 (by decide +kernel) ⟨Nat.le_of_ble_eq_true rfl, Nat.le_of_ble_eq_true rfl⟩) (k_preV hE hAH hK hP hD hS [0, 1, 2, 3, 4, 5, 6, 7, 8, 9] rfl rfl 0 rfl rfl) rfl rfl hl.1 rfl (lv_room (Nat.le_of_ble_eq_true rfl)) d_Cl_takeTimesFrom_30 ⟨Nat.le_of_ble_eq_true rfl, Nat.le_of_ble_eq_true rfl⟩) hP hD hS hA [0, 1, 2, 3, 4, 5, 6, 7, 8, 9] rfl rfl (fun w1 H locs hpost hP hD hS => ?_)
          obtain rfl := hpost
          have hP : va_P D kcl [(h, .inr (0, [.ref a1, .ref a2, .ref a3, .ref a4, .int (nI n)])), (a1, .inl (cI, 10, .inl (wA (va_up u1 k (g1 i))))), (a2, .inl (cI, 10, .inl (wA (va_up u2 k (g2 i))))), (a3, .inl (cI, 10, .inl (wA (va_up u3 k (g3 i))))), (a4, .inl (cI, 10, .inl (wA (va_up u4 k (g4 i))))), (o, .inr (0, [.ref b1, .ref b2, .ref b3, .ref b4, .int (nI q)])), (b1, .inl (cI, 10, .inl (wA g1))), (b2, .inl (cI, 10, .inl (wA g2))), (b3, .inl (cI, 10, .inl (wA g3))), (b4, .inl (cI, 10, .inl (wA g4)))] H := hP
          have hD : va_D A [(h, .inr (0, [.ref a1, .ref a2, .ref a3, .ref a4, .int (nI n)])), (a1, .inl (cI, 10, .inl (wA (va_up u1 k (g1 i))))), (a2, .inl (cI, 10, .inl (wA (va_up u2 k (g2 i))))), (a3, .inl (cI, 10, .inl (wA (va_up u3 k (g3 i))))), (a4, .inl (cI, 10, .inl (wA (va_up u4 k (g4 i))))), (o, .inr (0, [.ref b1, .ref b2, .ref b3, .ref b4, .int (nI q)])), (b1, .inl (cI, 10, .inl (wA g1))), (b2, .inl (cI, 10, .inl (wA g2))), (b3, .inl (cI, 10, .inl (wA g3))), (b4, .inl (cI, 10, .inl (wA g4)))] := hD
          have hdo2 : ∀ t, t < k + 1 → (∃ x, x < q ∧ g1 x = f1 t ∧ va_up u1 k (g1 i) t = g1 x ∧ va_up u2 k (g2 i) t = g2 x ∧ va_up u3 k (g3 i) t = g3 x ∧ va_up u4 k (g4 i) t = g4 x) ∨ ((∀ i, i < q → g1 i ≠ f1 t) ∧ va_up u1 k (g1 i) t = f1 t ∧ va_up u2 k (g2 i) t = f2 t ∧ va_up u3 k (g3 i) t = f3 t ∧ va_up u4 k (g4 i) t = f4 t) := by
            refine lt_s (fun t ht => ?_) (Or.inl ⟨i, hi, hgi, by rw [va_up_self], by rw [va_up_self], by rw [va_up_self], by rw [va_up_self]⟩)
            have hne : t ≠ k := by omega
            simp only [va_up_ne _ _ hne]
            exact hdo t ht
          have hun2 : ∀ t, k + 1 ≤ t → va_up u1 k (g1 i) t = f1 t ∧ va_up u2 k (g2 i) t = f2 t ∧ va_up u3 k (g3 i) t = f3 t ∧ va_up u4 k (g4 i) t = f4 t := fun t h9 => by
            have hne : t ≠ k := by omega
            simp only [va_up_ne _ _ hne]
            exact hun t (by omega)
          refine wi_inc (k := 3) (lv' := [(2, .int (nI (k + 1))), (3, .int (nI i)), (0, .ref h), (1, .ref o)]) hx hb d_Cl_takeTimesFrom_33 hl rfl (by decide) rfl (fun ls hl => ?_)
          refine lv_goto hx hb d_Cl_takeTimesFrom_36 rfl ?_
          exact ih2 (n - (k + 1)) (by omega) (k + 1) (va_up u1 k (g1 i)) (va_up u2 k (g2 i)) (va_up u3 k (g3 i)) (va_up u4 k (g4 i)) ls H locs rfl (by omega) hdo2 hun2 (lv_sub hl [2, 3, 0] rfl) hP hD hS
  exact loop2 _ (0) (f1) (f2) (f3) (f4) ls H locs rfl (Nat.zero_le _) lt_0 (fun _ _ => ⟨rfl, rfl, rfl, rfl⟩) (lv_sub hl [1, 2, 0] rfl) hP hD hS
set_option maxHeartbeats 4000000 in
set_option maxRecDepth 100000 in
theorem c_Cl_passSlot (l : Launch) (Hs : Heap) (D : va_G) (cI cZ cL : ClassId) (h : Nat) (a1 : Nat) (a2 : Nat) (a3 : Nat) (a4 : Nat) (n : Nat) (f1 : Nat → Nat) (f2 : Nat → Nat) (f3 : Nat → Nat) (f4 : Nat → Nat) (v : Nat) (hn : n ≤ 10) (hv : v < 2 ^ 31) (hf : ∀ t, t < n → f1 t < 2 ^ 31 ∧ f3 t < 2 ^ 30 ∧ f4 t < 2 ^ 30) : kV l Hs D kcl (ty3 cI cZ cL) y_Cl_passSlot (mws y_Cl_passSlot b_Cl_passSlot 3 (Option.none : Option Jvm.ClassFile.FieldType)) ({ frames := 1, cells := 0, slots := 0, locals := 15 } : Room) [.ref h, .int (nI v)] [(h, .inr (0, [.ref a1, .ref a2, .ref a3, .ref a4, .int (nI n)])), (a1, .inl (cI, 10, .inl (wA f1))), (a2, .inl (cI, 10, .inl (wA f2))), (a3, .inl (cI, 10, .inl (wA f3))), (a4, .inl (cI, 10, .inl (wA f4)))] (fun w => ∃ (u3 : Nat → Nat), ∃ (u4 : Nat → Nat), (∀ t, t < n → u3 t = (if f1 t = v then 0 else f3 t + 1) ∧ u4 t = max (f4 t) (if f1 t = v then 0 else f3 t + 1)) ∧ w = [(h, .inr (0, [.ref a1, .ref a2, .ref a3, .ref a4, .int (nI n)])), (a1, .inl (cI, 10, .inl (wA f1))), (a2, .inl (cI, 10, .inl (wA f2))), (a3, .inl (cI, 10, .inl (wA u3))), (a4, .inl (cI, 10, .inl (wA u4)))]) := by
  intro sz
  refine k_of (cc := b_Cl_passSlot) (maxL := 3) (ret := (Option.none : Option Jvm.ClassFile.FieldType)) (by decide) rfl (Nat.le_of_ble_eq_true rfl) ?_
  intro p e s m args below meth c ls H locs A Q hQ hx hb hml hr hts hown hlk hnm hsz hAe hP hK hD hS hA hE hAH hl
  have ht : ∀ w ∈ mw, w.before args s = true := fun w h => hts w (List.mem_cons_of_mem _ h)
  have hl : lv_has ls 3 [(0, .ref h), (1, .int (nI v))] := hl
  refine lv_iconst (v := nI 0) hx hb d_Cl_passSlot_0 (by decide) ?_
  refine lv_istore_n (lv' := [(2, .int (nI 0)), (0, .ref h), (1, .int (nI v))]) hx hb d_Cl_passSlot_1 rfl hl (by decide) rfl (fun ls hl => ?_)
  have loop2 : ∀ (d : Nat) (k : Nat) (u3 : Nat → Nat) (u4 : Nat → Nat) (ls : Array Slot) (H : Heap) (locs : List Loc), n - k = d → (k ≤ n) → (∀ t, t < k → u3 t = (if f1 t = v then 0 else f3 t + 1) ∧ u4 t = max (f4 t) (if f1 t = v then 0 else f3 t + 1)) → (∀ t, k ≤ t → u3 t = f3 t ∧ u4 t = f4 t) → lv_has ls 3 [(0, .ref h), (1, .int (nI v)), (2, .int (nI k))] → va_P D kcl [(h, .inr (0, [.ref a1, .ref a2, .ref a3, .ref a4, .int (nI n)])), (a1, .inl (cI, 10, .inl (wA f1))), (a2, .inl (cI, 10, .inl (wA f2))), (a3, .inl (cI, 10, .inl (wA u3))), (a4, .inl (cI, 10, .inl (wA u4)))] H → va_D A [(h, .inr (0, [.ref a1, .ref a2, .ref a3, .ref a4, .int (nI n)])), (a1, .inl (cI, 10, .inl (wA f1))), (a2, .inl (cI, 10, .inl (wA f2))), (a3, .inl (cI, 10, .inl (wA u3))), (a4, .inl (cI, 10, .inl (wA u4)))] → va_S A s.heap H locs → W p l e ({ frames := 1, cells := 0, slots := 0, locals := 15 } : Room) s m args below meth c H locs 0 0 Q (F0 m 2 ls []) := by
    intro d
    induction d using Nat.strongRecOn with
    | ind d ih2 =>
      intro k u3 u4 ls H locs hd2 hk hdo hun hl hP hD hS
      refine lv_iload_n hx hb d_Cl_passSlot_2 rfl (lv_at hl 2 rfl) ?_
      refine lv_aload_n hx hb d_Cl_passSlot_3 rfl (lv_at hl 0 rfl) ?_
      refine va_get (D := D) (ci := 0) (v := .int (nI n)) (C := R_Cl) (T := T_Cl) (N := 5) hx hb ht u_Cl hown hK hP 0 rfl rfl 4 (by decide) (ht _ wd_56) (fun _ h9 => h9) rfl d_Cl_passSlot_4 ?_
      refine wi_ge hx hb d_Cl_passSlot_7 rfl (by omega) (by omega) (fun h7 => ?_) (fun h7 => ?_)
      · exact k_retv hQ hx hb hr hlk hAe hK hP hD hS (Nat.le_of_ble_eq_true rfl) (Nat.le_of_ble_eq_true rfl) (Nat.le_of_ble_eq_true rfl) ⟨u3, u4, fun t h9 => hdo t (by omega), rfl⟩ d_Cl_passSlot_65
      · have huk := hun k (Nat.le_refl k)
        have hfk := hf k h7
        refine lv_aload_n hx hb d_Cl_passSlot_10 rfl (lv_at hl 0 rfl) ?_
        refine va_get (D := D) (ci := 0) (v := .ref a3) (C := R_Cl) (T := T_Cl) (N := 5) hx hb ht u_Cl hown hK hP 0 rfl rfl 2 (by decide) (ht _ wd_54) (fun _ h9 => h9) rfl d_Cl_passSlot_11 ?_
        refine lv_iload_n hx hb d_Cl_passSlot_14 rfl (lv_at hl 2 rfl) ?_
        refine lv_aload_n hx hb d_Cl_passSlot_15 rfl (lv_at hl 0 rfl) ?_
        refine va_get (D := D) (ci := 0) (v := .ref a1) (C := R_Cl) (T := T_Cl) (N := 5) hx hb ht u_Cl hown hK hP 0 rfl rfl 0 (by decide) (ht _ wd_52) (fun _ h9 => h9) rfl d_Cl_passSlot_16 ?_
        refine lv_iload_n hx hb d_Cl_passSlot_19 rfl (lv_at hl 2 rfl) ?_
        refine wi_ald hx hb hK hP 1 0 rfl rfl (by omega) (by omega) d_Cl_passSlot_20 ?_
        refine lv_iload_n hx hb d_Cl_passSlot_21 rfl (lv_at hl 1 rfl) ?_
        refine wi_ne hx hb d_Cl_passSlot_22 rfl hfk.1 hv (fun h22 => ?_) (fun h22 => ?_)
        · have hdo2 : ∀ t, t < k + 1 → va_up u3 k (u3 k + 1) t = (if f1 t = v then 0 else f3 t + 1) ∧ va_up u4 k (max (u4 k) (va_up u3 k (u3 k + 1) k)) t = max (f4 t) (if f1 t = v then 0 else f3 t + 1) := by
            refine lt_s (fun t ht => ?_) ?_
            · have hne : t ≠ k := by omega
              simp only [va_up_ne _ _ hne]
              exact hdo t ht
            · simp [va_up_self, huk.1, huk.2, h22]
          have hun2 : ∀ t, k + 1 ≤ t → va_up u3 k (u3 k + 1) t = f3 t ∧ va_up u4 k (max (u4 k) (va_up u3 k (u3 k + 1) k)) t = f4 t := fun t h9 => by
            have hne : t ≠ k := by omega
            simp only [va_up_ne _ _ hne]
            exact hun t (by omega)
          refine lv_aload_n hx hb d_Cl_passSlot_29 rfl (lv_at hl 0 rfl) ?_
          refine va_get (D := D) (ci := 0) (v := .ref a3) (C := R_Cl) (T := T_Cl) (N := 5) hx hb ht u_Cl hown hK hP 0 rfl rfl 2 (by decide) (ht _ wd_54) (fun _ h9 => h9) rfl d_Cl_passSlot_30 ?_
          refine lv_iload_n hx hb d_Cl_passSlot_33 rfl (lv_at hl 2 rfl) ?_
          refine wi_ald hx hb hK hP 3 0 rfl rfl (by omega) (by omega) d_Cl_passSlot_34 ?_
          refine lv_iconst (v := nI 1) hx hb d_Cl_passSlot_35 (by decide) ?_
          refine wi_add hx hb d_Cl_passSlot_36 ?_
          refine wi_ast hx hb hK hP hD hS 3 0 rfl rfl (by omega) (by omega) d_Cl_passSlot_37 (fun H locs hP hD hS => ?_)
          have hP : va_P D kcl [(h, .inr (0, [.ref a1, .ref a2, .ref a3, .ref a4, .int (nI n)])), (a1, .inl (cI, 10, .inl (wA f1))), (a2, .inl (cI, 10, .inl (wA f2))), (a3, .inl (cI, 10, .inl (wA (va_up u3 k ((u3 k) + 1))))), (a4, .inl (cI, 10, .inl (wA u4)))] H := hP
          have hD : va_D A [(h, .inr (0, [.ref a1, .ref a2, .ref a3, .ref a4, .int (nI n)])), (a1, .inl (cI, 10, .inl (wA f1))), (a2, .inl (cI, 10, .inl (wA f2))), (a3, .inl (cI, 10, .inl (wA (va_up u3 k ((u3 k) + 1))))), (a4, .inl (cI, 10, .inl (wA u4)))] := hD
          refine lv_aload_n hx hb d_Cl_passSlot_38 rfl (lv_at hl 0 rfl) ?_
          refine va_get (D := D) (ci := 0) (v := .ref a4) (C := R_Cl) (T := T_Cl) (N := 5) hx hb ht u_Cl hown hK hP 0 rfl rfl 3 (by decide) (ht _ wd_55) (fun _ h9 => h9) rfl d_Cl_passSlot_39 ?_
          refine lv_iload_n hx hb d_Cl_passSlot_42 rfl (lv_at hl 2 rfl) ?_
          refine lv_aload_n hx hb d_Cl_passSlot_43 rfl (lv_at hl 0 rfl) ?_
          refine va_get (D := D) (ci := 0) (v := .ref a4) (C := R_Cl) (T := T_Cl) (N := 5) hx hb ht u_Cl hown hK hP 0 rfl rfl 3 (by decide) (ht _ wd_55) (fun _ h9 => h9) rfl d_Cl_passSlot_44 ?_
          refine lv_iload_n hx hb d_Cl_passSlot_47 rfl (lv_at hl 2 rfl) ?_
          refine wi_ald hx hb hK hP 4 0 rfl rfl (by omega) (by omega) d_Cl_passSlot_48 ?_
          refine lv_aload_n hx hb d_Cl_passSlot_49 rfl (lv_at hl 0 rfl) ?_
          refine va_get (D := D) (ci := 0) (v := .ref a3) (C := R_Cl) (T := T_Cl) (N := 5) hx hb ht u_Cl hown hK hP 0 rfl rfl 2 (by decide) (ht _ wd_54) (fun _ h9 => h9) rfl d_Cl_passSlot_50 ?_
          refine lv_iload_n hx hb d_Cl_passSlot_53 rfl (lv_at hl 2 rfl) ?_
          refine wi_ald hx hb hK hP 3 0 rfl rfl (by omega) (by omega) d_Cl_passSlot_54 ?_
          refine va_mmax hx hb (hml.trans hl.1.symm) hown (ht _ wd_183) (ht _ wd_184) (ht _ wd_12) (ht _ wd_185) (Nat.le_of_ble_eq_true rfl) (Nat.le_of_ble_eq_true rfl) (Nat.le_of_ble_eq_true rfl) (Nat.le_of_ble_eq_true rfl) d_Cl_passSlot_55 ?_
          rw [wi_max (by omega) (by have e := va_up_self u3 k; (first | (rw [e 0]; omega) | (rw [e (u3 k + 1)]; omega)))]
          refine wi_ast hx hb hK hP hD hS 4 0 rfl rfl (by omega) (by omega) d_Cl_passSlot_58 (fun H locs hP hD hS => ?_)
          have hP : va_P D kcl [(h, .inr (0, [.ref a1, .ref a2, .ref a3, .ref a4, .int (nI n)])), (a1, .inl (cI, 10, .inl (wA f1))), (a2, .inl (cI, 10, .inl (wA f2))), (a3, .inl (cI, 10, .inl (wA (va_up u3 k ((u3 k) + 1))))), (a4, .inl (cI, 10, .inl (wA (va_up u4 k (max (u4 k) ((va_up u3 k ((u3 k) + 1)) k))))))] H := hP
          have hD : va_D A [(h, .inr (0, [.ref a1, .ref a2, .ref a3, .ref a4, .int (nI n)])), (a1, .inl (cI, 10, .inl (wA f1))), (a2, .inl (cI, 10, .inl (wA f2))), (a3, .inl (cI, 10, .inl (wA (va_up u3 k ((u3 k) + 1))))), (a4, .inl (cI, 10, .inl (wA (va_up u4 k (max (u4 k) ((va_up u3 k ((u3 k) + 1)) k))))))] := hD
          refine wi_inc (k := 2) (lv' := [(2, .int (nI (k + 1))), (0, .ref h), (1, .int (nI v))]) hx hb d_Cl_passSlot_59 hl rfl (by decide) rfl (fun ls hl => ?_)
          refine lv_goto hx hb d_Cl_passSlot_62 rfl ?_
          exact ih2 (n - (k + 1)) (by omega) (k + 1) (va_up u3 k ((u3 k) + 1)) (va_up u4 k (max (u4 k) ((va_up u3 k ((u3 k) + 1)) k))) ls H locs rfl (by omega) hdo2 hun2 (lv_sub hl [1, 2, 0] rfl) hP hD hS
        · have hdo2 : ∀ t, t < k + 1 → va_up u3 k 0 t = (if f1 t = v then 0 else f3 t + 1) ∧ va_up u4 k (max (u4 k) (va_up u3 k 0 k)) t = max (f4 t) (if f1 t = v then 0 else f3 t + 1) := by
            refine lt_s (fun t ht => ?_) ?_
            · have hne : t ≠ k := by omega
              simp only [va_up_ne _ _ hne]
              exact hdo t ht
            · simp [va_up_self, huk.1, huk.2, h22]
          have hun2 : ∀ t, k + 1 ≤ t → va_up u3 k 0 t = f3 t ∧ va_up u4 k (max (u4 k) (va_up u3 k 0 k)) t = f4 t := fun t h9 => by
            have hne : t ≠ k := by omega
            simp only [va_up_ne _ _ hne]
            exact hun t (by omega)
          refine lv_iconst (v := nI 0) hx hb d_Cl_passSlot_25 (by decide) ?_
          refine lv_goto hx hb d_Cl_passSlot_26 rfl ?_
          refine wi_ast hx hb hK hP hD hS 3 0 rfl rfl (by omega) (by omega) d_Cl_passSlot_37 (fun H locs hP hD hS => ?_)
          have hP : va_P D kcl [(h, .inr (0, [.ref a1, .ref a2, .ref a3, .ref a4, .int (nI n)])), (a1, .inl (cI, 10, .inl (wA f1))), (a2, .inl (cI, 10, .inl (wA f2))), (a3, .inl (cI, 10, .inl (wA (va_up u3 k 0)))), (a4, .inl (cI, 10, .inl (wA u4)))] H := hP
          have hD : va_D A [(h, .inr (0, [.ref a1, .ref a2, .ref a3, .ref a4, .int (nI n)])), (a1, .inl (cI, 10, .inl (wA f1))), (a2, .inl (cI, 10, .inl (wA f2))), (a3, .inl (cI, 10, .inl (wA (va_up u3 k 0)))), (a4, .inl (cI, 10, .inl (wA u4)))] := hD
          refine lv_aload_n hx hb d_Cl_passSlot_38 rfl (lv_at hl 0 rfl) ?_
          refine va_get (D := D) (ci := 0) (v := .ref a4) (C := R_Cl) (T := T_Cl) (N := 5) hx hb ht u_Cl hown hK hP 0 rfl rfl 3 (by decide) (ht _ wd_55) (fun _ h9 => h9) rfl d_Cl_passSlot_39 ?_
          refine lv_iload_n hx hb d_Cl_passSlot_42 rfl (lv_at hl 2 rfl) ?_
          refine lv_aload_n hx hb d_Cl_passSlot_43 rfl (lv_at hl 0 rfl) ?_
          refine va_get (D := D) (ci := 0) (v := .ref a4) (C := R_Cl) (T := T_Cl) (N := 5) hx hb ht u_Cl hown hK hP 0 rfl rfl 3 (by decide) (ht _ wd_55) (fun _ h9 => h9) rfl d_Cl_passSlot_44 ?_
          refine lv_iload_n hx hb d_Cl_passSlot_47 rfl (lv_at hl 2 rfl) ?_
          refine wi_ald hx hb hK hP 4 0 rfl rfl (by omega) (by omega) d_Cl_passSlot_48 ?_
          refine lv_aload_n hx hb d_Cl_passSlot_49 rfl (lv_at hl 0 rfl) ?_
          refine va_get (D := D) (ci := 0) (v := .ref a3) (C := R_Cl) (T := T_Cl) (N := 5) hx hb ht u_Cl hown hK hP 0 rfl rfl 2 (by decide) (ht _ wd_54) (fun _ h9 => h9) rfl d_Cl_passSlot_50 ?_
          refine lv_iload_n hx hb d_Cl_passSlot_53 rfl (lv_at hl 2 rfl) ?_
          refine wi_ald hx hb hK hP 3 0 rfl rfl (by omega) (by omega) d_Cl_passSlot_54 ?_
          refine va_mmax hx hb (hml.trans hl.1.symm) hown (ht _ wd_183) (ht _ wd_184) (ht _ wd_12) (ht _ wd_185) (Nat.le_of_ble_eq_true rfl) (Nat.le_of_ble_eq_true rfl) (Nat.le_of_ble_eq_true rfl) (Nat.le_of_ble_eq_true rfl) d_Cl_passSlot_55 ?_
          rw [wi_max (by omega) (by have e := va_up_self u3 k; (first | (rw [e 0]; omega) | (rw [e (u3 k + 1)]; omega)))]
          refine wi_ast hx hb hK hP hD hS 4 0 rfl rfl (by omega) (by omega) d_Cl_passSlot_58 (fun H locs hP hD hS => ?_)
          have hP : va_P D kcl [(h, .inr (0, [.ref a1, .ref a2, .ref a3, .ref a4, .int (nI n)])), (a1, .inl (cI, 10, .inl (wA f1))), (a2, .inl (cI, 10, .inl (wA f2))), (a3, .inl (cI, 10, .inl (wA (va_up u3 k 0)))), (a4, .inl (cI, 10, .inl (wA (va_up u4 k (max (u4 k) ((va_up u3 k 0) k))))))] H := hP
          have hD : va_D A [(h, .inr (0, [.ref a1, .ref a2, .ref a3, .ref a4, .int (nI n)])), (a1, .inl (cI, 10, .inl (wA f1))), (a2, .inl (cI, 10, .inl (wA f2))), (a3, .inl (cI, 10, .inl (wA (va_up u3 k 0)))), (a4, .inl (cI, 10, .inl (wA (va_up u4 k (max (u4 k) ((va_up u3 k 0) k))))))] := hD
          refine wi_inc (k := 2) (lv' := [(2, .int (nI (k + 1))), (0, .ref h), (1, .int (nI v))]) hx hb d_Cl_passSlot_59 hl rfl (by decide) rfl (fun ls hl => ?_)
          refine lv_goto hx hb d_Cl_passSlot_62 rfl ?_
          exact ih2 (n - (k + 1)) (by omega) (k + 1) (va_up u3 k 0) (va_up u4 k (max (u4 k) ((va_up u3 k 0) k))) ls H locs rfl (by omega) hdo2 hun2 (lv_sub hl [1, 2, 0] rfl) hP hD hS
  exact loop2 _ (0) (f3) (f4) ls H locs rfl (Nat.zero_le _) lt_0 (fun _ _ => ⟨rfl, rfl⟩) (lv_sub hl [1, 2, 0] rfl) hP hD hS
