/-! PinwheelKernelModel: states. -/
/-- the first client with which a state marked comes; 0 if there is none, else one more -/
def md_gd (K : Nat) (fs zs : Nat → Nat) (v r : Nat) : Prop := (r = 0 ∧ ∀ t, t < K → ¬ (pw_ok K fs v t ∧ zs (pw_nx K fs v t) ≠ 0)) ∨ ∃ t, t < K ∧ r = t + 1 ∧ (pw_ok K fs v t ∧ zs (pw_nx K fs v t) ≠ 0) ∧ ∀ j, j < t → ¬ (pw_ok K fs v j ∧ zs (pw_nx K fs v j) ≠ 0)
def md_bo (z : Nat → Nat) : Nat → Bool := fun j => decide (z j ≠ 0)
theorem md_gd_iff {K : Nat} {fs zs : Nat → Nat} {v r : Nat} (h : md_gd K fs zs v r) : r ≠ 0 ↔ pw_gd K fs (md_bo zs) v := by
  rcases h with ⟨h1, h2⟩ | ⟨t, h1, h2, h3, -⟩
  · refine ⟨fun z => absurd h1 z, fun ⟨t, a, b, c⟩ => absurd ⟨b, by simpa [md_bo] using c⟩ (h2 t a)⟩
  · exact ⟨fun _ => ⟨t, h1, h3.1, by simpa [md_bo] using h3.2⟩, fun _ => by omega⟩
theorem md_bo_up {z : Nat → Nat} {s : Nat} : md_bo (va_up z s 0) = fun j => if j = s then false else md_bo z j := by
  funext j
  unfold md_bo
  by_cases h : j = s
  · subst h; rw [va_up_self]; simp
  · rw [va_up_ne _ _ h, if_neg h]
theorem md_ct_up {z : Nat → Nat} {s : Nat} : ∀ {W : Nat}, s < W → z s ≠ 0 → pw_ct (md_bo (va_up z s 0)) W < pw_ct (md_bo z) W := by
  intro W
  induction W with
  | zero => intro h; omega
  | succ W ih =>
    intro h h0
    show pw_ct (md_bo (va_up z s 0)) W + (if md_bo (va_up z s 0) W then 1 else 0) < pw_ct (md_bo z) W + (if md_bo z W then 1 else 0)
    by_cases e : s = W
    · subst e
      have e1 : ∀ n, n ≤ s → pw_ct (md_bo (va_up z s 0)) n = pw_ct (md_bo z) n := by
        intro n
        induction n with
        | zero => intro _; rfl
        | succ n ih =>
          intro hn
          show pw_ct (md_bo (va_up z s 0)) n + _ = pw_ct (md_bo z) n + _
          rw [ih (by omega)]
          congr 1
          rw [show md_bo (va_up z s 0) n = md_bo z n by rw [md_bo_up]; simp only [if_neg (show ¬ n = s by omega)]]
      rw [e1 s (Nat.le_refl s)]
      have e2 : md_bo (va_up z s 0) s = false := by rw [md_bo_up]; simp
      have e3 : md_bo z s = true := by simp [md_bo, h0]
      rw [e2, e3]
      simp
    · have h1 := ih (by omega) h0
      have e2 : md_bo (va_up z s 0) W = md_bo z W := by rw [md_bo_up]; simp only [if_neg (show ¬ W = s by omega)]
      rw [e2]
      omega
set_option maxHeartbeats 4000000 in
set_option maxRecDepth 100000 in
theorem c_Md_leastSpan (l : Launch) (Hs : Heap) (D : va_G) (cI cZ cL : ClassId) (h : Nat) (a1 : Nat) (a2 : Nat) (a3 : Nat) (a4 : Nat) (c1 : Nat) (b1 : Nat) (b2 : Nat) (c2 : Nat) (r1 : Nat) (r2 : Nat) (z1 : Nat) (n1 : Nat) (t1 : Nat) (th : Nat) (n : Nat) (wi : Nat) (bu : Nat) (L : Nat) (ax : Nat) (va : Nat) (sl : Nat) (me : Nat) (L2 : Nat) (mn : Nat) (cv : Int32) (g2 : Nat → Nat) (hme : me ≤ 10) (hg2 : ∀ t, t < me → g2 t ≤ 40) : kI l Hs D kcl (ty3 cI cZ cL) y_Md_leastSpan (mws y_Md_leastSpan b_Md_leastSpan 3 (Option.some Jvm.ClassFile.FieldType.int)) ({ frames := 0, cells := 0, slots := 0, locals := 0 } : Room) [.ref h] [(h, .inr (5, [.int (nI th), .int (nI n), .ref a1, .ref a2, .ref a3, .ref a4, .int (nI wi), .int (nI bu), .int (nI L), .ref c1, .int (nI ax), .int (nI va), .int (nI sl), .int cv, .int (nI me), .ref b1, .ref b2, .int (nI L2), .ref c2, .int (nI mn), .ref r1, .ref r2, .ref z1, .ref n1, .ref t1])), (b2, .inl (cI, 10, .inl (wA g2)))] (fun r w => ∃ (m9 : Nat), (∀ b, b ≤ 16 → (b ≤ m9 ↔ ∀ t, t < me → b ≤ g2 t)) ∧ (m9 ≤ 99) ∧ r = nI m9 ∧ w = [(h, .inr (5, [.int (nI th), .int (nI n), .ref a1, .ref a2, .ref a3, .ref a4, .int (nI wi), .int (nI bu), .int (nI L), .ref c1, .int (nI ax), .int (nI va), .int (nI sl), .int cv, .int (nI me), .ref b1, .ref b2, .int (nI L2), .ref c2, .int (nI mn), .ref r1, .ref r2, .ref z1, .ref n1, .ref t1])), (b2, .inl (cI, 10, .inl (wA g2)))]) := by
  intro sz
  refine k_of (cc := b_Md_leastSpan) (maxL := 3) (ret := (Option.some Jvm.ClassFile.FieldType.int)) (by decide) rfl (Nat.le_of_ble_eq_true rfl) ?_
  intro p e s m args below meth c ls H locs A Q hQ hx hb hml hr hts hown hlk hnm hsz hAe hP hK hD hS hA hE hAH hl
  have ht : ∀ w ∈ mw, w.before args s = true := fun w h => hts w (List.mem_cons_of_mem _ h)
  have hl : lv_has ls 3 [(0, .ref h)] := hl
  refine lv_bipush (v := nI 99) hx hb d_Md_leastSpan_0 (by decide) ?_
  refine lv_istore_n (lv' := [(1, .int (nI 99)), (0, .ref h)]) hx hb d_Md_leastSpan_2 rfl hl (by decide) rfl (fun ls hl => ?_)
  refine lv_iconst (v := nI 0) hx hb d_Md_leastSpan_3 (by decide) ?_
  refine lv_istore_n (lv' := [(2, .int (nI 0)), (1, .int (nI 99)), (0, .ref h)]) hx hb d_Md_leastSpan_4 rfl hl (by decide) rfl (fun ls hl => ?_)
  have loop5 : ∀ (d : Nat) (k : Nat) (m9 : Nat) (ls : Array Slot) (H : Heap) (locs : List Loc), me - k = d → (k ≤ me) → (∀ b, b ≤ 16 → (b ≤ m9 ↔ ∀ t, t < k → b ≤ g2 t)) → (m9 ≤ 99) → lv_has ls 3 [(0, .ref h), (1, .int (nI m9)), (2, .int (nI k))] → va_P D kcl [(h, .inr (5, [.int (nI th), .int (nI n), .ref a1, .ref a2, .ref a3, .ref a4, .int (nI wi), .int (nI bu), .int (nI L), .ref c1, .int (nI ax), .int (nI va), .int (nI sl), .int cv, .int (nI me), .ref b1, .ref b2, .int (nI L2), .ref c2, .int (nI mn), .ref r1, .ref r2, .ref z1, .ref n1, .ref t1])), (b2, .inl (cI, 10, .inl (wA g2)))] H → va_D A [(h, .inr (5, [.int (nI th), .int (nI n), .ref a1, .ref a2, .ref a3, .ref a4, .int (nI wi), .int (nI bu), .int (nI L), .ref c1, .int (nI ax), .int (nI va), .int (nI sl), .int cv, .int (nI me), .ref b1, .ref b2, .int (nI L2), .ref c2, .int (nI mn), .ref r1, .ref r2, .ref z1, .ref n1, .ref t1])), (b2, .inl (cI, 10, .inl (wA g2)))] → va_S A s.heap H locs → W p l e ({ frames := 0, cells := 0, slots := 0, locals := 0 } : Room) s m args below meth c H locs 0 0 Q (F0 m 5 ls []) := by
    intro d
    induction d using Nat.strongRecOn with
    | ind d ih5 =>
      intro k m9 ls H locs hd5 hk hm hm9 hl hP hD hS
      refine lv_iload_n hx hb d_Md_leastSpan_5 rfl (lv_at hl 2 rfl) ?_
      refine lv_aload_n hx hb d_Md_leastSpan_6 rfl (lv_at hl 0 rfl) ?_
      refine va_get (D := D) (ci := 5) (v := .int (nI me)) (C := R_Md) (T := T_Md) (N := 25) hx hb ht u_Md hown hK hP 0 rfl rfl 14 (by decide) (ht _ wd_909) (fun _ h9 => h9) rfl d_Md_leastSpan_7 ?_
      refine wi_ge hx hb d_Md_leastSpan_10 rfl (by omega) (by omega) (fun h10 => ?_) (fun h10 => ?_)
      · obtain rfl : me = k := by omega
        refine lv_iload_n hx hb d_Md_leastSpan_40 rfl (lv_at hl 1 rfl) ?_
        exact k_reti hQ hx hb hr hlk hAe hK hP hD hS (Nat.le_of_ble_eq_true rfl) (Nat.le_of_ble_eq_true rfl) (Nat.le_of_ble_eq_true rfl) ⟨m9, hm, hm9, rfl, rfl⟩ d_Md_leastSpan_41
      · refine lv_aload_n hx hb d_Md_leastSpan_13 rfl (lv_at hl 0 rfl) ?_
        refine va_get (D := D) (ci := 5) (v := .ref b2) (C := R_Md) (T := T_Md) (N := 25) hx hb ht u_Md hown hK hP 0 rfl rfl 16 (by decide) (ht _ wd_911) (fun _ h9 => h9) rfl d_Md_leastSpan_14 ?_
        refine lv_iload_n hx hb d_Md_leastSpan_17 rfl (lv_at hl 2 rfl) ?_
        refine wi_ald hx hb hK hP 1 0 rfl rfl (by omega) (by omega) d_Md_leastSpan_18 ?_
        refine lv_iload_n hx hb d_Md_leastSpan_19 rfl (lv_at hl 1 rfl) ?_
        refine wi_ge hx hb d_Md_leastSpan_20 rfl (by have := hg2 k h10; omega) (by omega) (fun h20 => ?_) (fun h20 => ?_)
        · refine lv_iload_n hx hb d_Md_leastSpan_32 rfl (lv_at hl 1 rfl) ?_
          refine lv_istore_n (lv' := [(1, .int (nI m9)), (0, .ref h), (2, .int (nI k))]) hx hb d_Md_leastSpan_33 rfl hl (by decide) rfl (fun ls hl => ?_)
          refine wi_inc (k := 2) (lv' := [(2, .int (nI (k + 1))), (1, .int (nI m9)), (0, .ref h)]) hx hb d_Md_leastSpan_34 hl rfl (by decide) rfl (fun ls hl => ?_)
          refine lv_goto hx hb d_Md_leastSpan_37 rfl ?_
          exact ih5 (me - (k + 1)) (by omega) (k + 1) (m9) ls H locs rfl (by omega) (fun b h => ⟨fun z => lt_s ((hm b h).mp z) (by omega), fun z => (hm b h).mpr fun t ht => z t (by omega)⟩) hm9 (lv_sub hl [2, 1, 0] rfl) hP hD hS
        · refine lv_aload_n hx hb d_Md_leastSpan_23 rfl (lv_at hl 0 rfl) ?_
          refine va_get (D := D) (ci := 5) (v := .ref b2) (C := R_Md) (T := T_Md) (N := 25) hx hb ht u_Md hown hK hP 0 rfl rfl 16 (by decide) (ht _ wd_911) (fun _ h9 => h9) rfl d_Md_leastSpan_24 ?_
          refine lv_iload_n hx hb d_Md_leastSpan_27 rfl (lv_at hl 2 rfl) ?_
          refine wi_ald hx hb hK hP 1 0 rfl rfl (by omega) (by omega) d_Md_leastSpan_28 ?_
          refine lv_goto hx hb d_Md_leastSpan_29 rfl ?_
          refine lv_istore_n (lv' := [(1, .int (nI (g2 k))), (0, .ref h), (2, .int (nI k))]) hx hb d_Md_leastSpan_33 rfl hl (by decide) rfl (fun ls hl => ?_)
          refine wi_inc (k := 2) (lv' := [(2, .int (nI (k + 1))), (1, .int (nI (g2 k))), (0, .ref h)]) hx hb d_Md_leastSpan_34 hl rfl (by decide) rfl (fun ls hl => ?_)
          refine lv_goto hx hb d_Md_leastSpan_37 rfl ?_
          exact ih5 (me - (k + 1)) (by omega) (k + 1) (g2 k) ls H locs rfl (by omega) (fun b h => ⟨fun z => lt_s ((hm b h).mp (by omega)) z, fun z => z k (by omega)⟩) (by have := hg2 k h10; omega) (lv_sub hl [2, 1, 0] rfl) hP hD hS
  exact loop5 _ (0) (99) ls H locs rfl (Nat.zero_le _) (fun b h => ⟨fun _ t z => absurd z (Nat.not_lt_zero t), fun _ => by omega⟩) (by decide) (lv_sub hl [2, 1, 0] rfl) hP hD hS
set_option maxHeartbeats 4000000 in
set_option maxRecDepth 100000 in
theorem c_Md_product1 (l : Launch) (Hs : Heap) (D : va_G) (cI cZ cL : ClassId) (h : Nat) (a1 : Nat) (a2 : Nat) (a3 : Nat) (a4 : Nat) (c1 : Nat) (b1 : Nat) (b2 : Nat) (c2 : Nat) (r1 : Nat) (r2 : Nat) (z1 : Nat) (n1 : Nat) (t1 : Nat) (th : Nat) (n : Nat) (wi : Nat) (bu : Nat) (L : Nat) (ax : Nat) (va : Nat) (sl : Nat) (me : Nat) (L2 : Nat) (mn : Nat) (cv : Int32) (ru : Nat → Nat) (hmn : mn ≤ 4) (hW : pw_w ru mn ≤ 1500) (hru : ∀ t, t < mn → 0 < ru t ∧ ru t ≤ 40) : kI l Hs D kcl (ty3 cI cZ cL) y_Md_product (mws y_Md_product b_Md_product 3 (Option.some Jvm.ClassFile.FieldType.int)) ({ frames := 0, cells := 0, slots := 0, locals := 0 } : Room) [.ref h] [(h, .inr (5, [.int (nI th), .int (nI n), .ref a1, .ref a2, .ref a3, .ref a4, .int (nI wi), .int (nI bu), .int (nI L), .ref c1, .int (nI ax), .int (nI va), .int (nI sl), .int cv, .int (nI me), .ref b1, .ref b2, .int (nI L2), .ref c2, .int (nI mn), .ref r1, .ref r2, .ref z1, .ref n1, .ref t1])), (r2, .inl (cI, 10, .inl (wA ru)))] (fun r w => r = nI (pw_w ru mn) ∧ w = [(h, .inr (5, [.int (nI th), .int (nI n), .ref a1, .ref a2, .ref a3, .ref a4, .int (nI wi), .int (nI bu), .int (nI L), .ref c1, .int (nI ax), .int (nI va), .int (nI sl), .int cv, .int (nI me), .ref b1, .ref b2, .int (nI L2), .ref c2, .int (nI mn), .ref r1, .ref r2, .ref z1, .ref n1, .ref t1])), (r2, .inl (cI, 10, .inl (wA ru)))]) := by
  intro sz
  refine k_of (cc := b_Md_product) (maxL := 3) (ret := (Option.some Jvm.ClassFile.FieldType.int)) (by decide) rfl (Nat.le_of_ble_eq_true rfl) ?_
  intro p e s m args below meth c ls H locs A Q hQ hx hb hml hr hts hown hlk hnm hsz hAe hP hK hD hS hA hE hAH hl
  have ht : ∀ w ∈ mw, w.before args s = true := fun w h => hts w (List.mem_cons_of_mem _ h)
  have hl : lv_has ls 3 [(0, .ref h)] := hl
  refine lv_aload_n hx hb d_Md_product_0 rfl (lv_at hl 0 rfl) ?_
  refine va_get (D := D) (ci := 5) (v := .int (nI mn)) (C := R_Md) (T := T_Md) (N := 25) hx hb ht u_Md hown hK hP 0 rfl rfl 19 (by decide) (ht _ wd_914) (fun _ h9 => h9) rfl d_Md_product_1 ?_
  refine lv_iconst (v := nI 4) hx hb d_Md_product_4 (by decide) ?_
  refine wi_le hx hb d_Md_product_5 rfl (by omega) (by omega) (fun h5 => ?_) (fun h5 => ?_)
  · refine lv_iconst (v := nI 1) hx hb d_Md_product_14 (by decide) ?_
    refine lv_istore_n (lv' := [(1, .int (nI 1)), (0, .ref h)]) hx hb d_Md_product_15 rfl hl (by decide) rfl (fun ls hl => ?_)
    refine lv_iconst (v := nI 0) hx hb d_Md_product_16 (by decide) ?_
    refine lv_istore_n (lv' := [(2, .int (nI 0)), (1, .int (nI 1)), (0, .ref h)]) hx hb d_Md_product_17 rfl hl (by decide) rfl (fun ls hl => ?_)
    have loop18 : ∀ (d : Nat) (k : Nat) (ls : Array Slot) (H : Heap) (locs : List Loc), mn - k = d → (k ≤ mn) → lv_has ls 3 [(0, .ref h), (1, .int (nI (pw_w ru k))), (2, .int (nI k))] → va_P D kcl [(h, .inr (5, [.int (nI th), .int (nI n), .ref a1, .ref a2, .ref a3, .ref a4, .int (nI wi), .int (nI bu), .int (nI L), .ref c1, .int (nI ax), .int (nI va), .int (nI sl), .int cv, .int (nI me), .ref b1, .ref b2, .int (nI L2), .ref c2, .int (nI mn), .ref r1, .ref r2, .ref z1, .ref n1, .ref t1])), (r2, .inl (cI, 10, .inl (wA ru)))] H → va_D A [(h, .inr (5, [.int (nI th), .int (nI n), .ref a1, .ref a2, .ref a3, .ref a4, .int (nI wi), .int (nI bu), .int (nI L), .ref c1, .int (nI ax), .int (nI va), .int (nI sl), .int cv, .int (nI me), .ref b1, .ref b2, .int (nI L2), .ref c2, .int (nI mn), .ref r1, .ref r2, .ref z1, .ref n1, .ref t1])), (r2, .inl (cI, 10, .inl (wA ru)))] → va_S A s.heap H locs → W p l e ({ frames := 0, cells := 0, slots := 0, locals := 0 } : Room) s m args below meth c H locs 0 0 Q (F0 m 18 ls []) := by
      intro d
      induction d using Nat.strongRecOn with
      | ind d ih18 =>
        intro k ls H locs hd18 hk hl hP hD hS
        have hwk := pw_w_mono (f := ru) (fun j hj => (hru j hj).1) hk
        refine lv_iload_n hx hb d_Md_product_18 rfl (lv_at hl 2 rfl) ?_
        refine lv_aload_n hx hb d_Md_product_19 rfl (lv_at hl 0 rfl) ?_
        refine va_get (D := D) (ci := 5) (v := .int (nI mn)) (C := R_Md) (T := T_Md) (N := 25) hx hb ht u_Md hown hK hP 0 rfl rfl 19 (by decide) (ht _ wd_914) (fun _ h9 => h9) rfl d_Md_product_20 ?_
        refine wi_ge hx hb d_Md_product_23 rfl (by omega) (by omega) (fun h23 => ?_) (fun h23 => ?_)
        · obtain rfl : mn = k := by omega
          refine lv_iload_n hx hb d_Md_product_48 rfl (lv_at hl 1 rfl) ?_
          exact k_reti hQ hx hb hr hlk hAe hK hP hD hS (Nat.le_of_ble_eq_true rfl) (Nat.le_of_ble_eq_true rfl) (Nat.le_of_ble_eq_true rfl) ⟨rfl, rfl⟩ d_Md_product_49
        · refine lv_iload_n hx hb d_Md_product_26 rfl (lv_at hl 1 rfl) ?_
          refine lv_sipush (v := nI 1500) hx hb d_Md_product_27 (by decide) ?_
          refine wi_gt hx hb d_Md_product_30 rfl (by omega) (by omega) (fun h30 => ?_) (fun h30 => ?_)
          · exfalso; omega
          · refine lv_iload_n hx hb d_Md_product_33 rfl (lv_at hl 1 rfl) ?_
            refine lv_aload_n hx hb d_Md_product_34 rfl (lv_at hl 0 rfl) ?_
            refine va_get (D := D) (ci := 5) (v := .ref r2) (C := R_Md) (T := T_Md) (N := 25) hx hb ht u_Md hown hK hP 0 rfl rfl 21 (by decide) (ht _ wd_916) (fun _ h9 => h9) rfl d_Md_product_35 ?_
            refine lv_iload_n hx hb d_Md_product_38 rfl (lv_at hl 2 rfl) ?_
            refine wi_ald hx hb hK hP 1 0 rfl rfl (by omega) (by omega) d_Md_product_39 ?_
            refine wi_mul hx hb d_Md_product_40 ?_
            refine lv_istore_n (lv' := [(1, .int (nI ((pw_w ru k) * (ru k)))), (0, .ref h), (2, .int (nI k))]) hx hb d_Md_product_41 rfl hl (by decide) rfl (fun ls hl => ?_)
            refine wi_inc (k := 2) (lv' := [(2, .int (nI (k + 1))), (1, .int (nI ((pw_w ru k) * (ru k)))), (0, .ref h)]) hx hb d_Md_product_42 hl rfl (by decide) rfl (fun ls hl => ?_)
            refine lv_goto hx hb d_Md_product_45 rfl ?_
            exact ih18 (mn - (k + 1)) (by omega) (k + 1) ls H locs rfl (by omega) (lv_sub hl [2, 1, 0] rfl) hP hD hS
    exact loop18 _ (0) ls H locs rfl (Nat.zero_le _) (lv_sub hl [2, 1, 0] rfl) hP hD hS
  · exfalso; omega
set_option maxHeartbeats 4000000 in
set_option maxRecDepth 100000 in
theorem c_Md_product0 (l : Launch) (Hs : Heap) (D : va_G) (cI cZ cL : ClassId) (h : Nat) (a1 : Nat) (a2 : Nat) (a3 : Nat) (a4 : Nat) (c1 : Nat) (b1 : Nat) (b2 : Nat) (c2 : Nat) (r1 : Nat) (r2 : Nat) (z1 : Nat) (n1 : Nat) (t1 : Nat) (th : Nat) (n : Nat) (wi : Nat) (bu : Nat) (L : Nat) (ax : Nat) (va : Nat) (sl : Nat) (me : Nat) (L2 : Nat) (mn : Nat) (cv : Int32) (ru : Nat → Nat) (hmn : mn ≤ 10) (hW : ¬ (mn ≤ 4 ∧ pw_w ru mn ≤ 1500)) (hru : ∀ t, t < mn → 0 < ru t ∧ ru t ≤ 40) : kI l Hs D kcl (ty3 cI cZ cL) y_Md_product (mws y_Md_product b_Md_product 3 (Option.some Jvm.ClassFile.FieldType.int)) ({ frames := 0, cells := 0, slots := 0, locals := 0 } : Room) [.ref h] [(h, .inr (5, [.int (nI th), .int (nI n), .ref a1, .ref a2, .ref a3, .ref a4, .int (nI wi), .int (nI bu), .int (nI L), .ref c1, .int (nI ax), .int (nI va), .int (nI sl), .int cv, .int (nI me), .ref b1, .ref b2, .int (nI L2), .ref c2, .int (nI mn), .ref r1, .ref r2, .ref z1, .ref n1, .ref t1])), (r2, .inl (cI, 10, .inl (wA ru)))] (fun r w => ∃ (v9 : Nat), (1500 < v9) ∧ (v9 < 2 ^ 31) ∧ r = nI v9 ∧ w = [(h, .inr (5, [.int (nI th), .int (nI n), .ref a1, .ref a2, .ref a3, .ref a4, .int (nI wi), .int (nI bu), .int (nI L), .ref c1, .int (nI ax), .int (nI va), .int (nI sl), .int cv, .int (nI me), .ref b1, .ref b2, .int (nI L2), .ref c2, .int (nI mn), .ref r1, .ref r2, .ref z1, .ref n1, .ref t1])), (r2, .inl (cI, 10, .inl (wA ru)))]) := by
  intro sz
  refine k_of (cc := b_Md_product) (maxL := 3) (ret := (Option.some Jvm.ClassFile.FieldType.int)) (by decide) rfl (Nat.le_of_ble_eq_true rfl) ?_
  intro p e s m args below meth c ls H locs A Q hQ hx hb hml hr hts hown hlk hnm hsz hAe hP hK hD hS hA hE hAH hl
  have ht : ∀ w ∈ mw, w.before args s = true := fun w h => hts w (List.mem_cons_of_mem _ h)
  have hl : lv_has ls 3 [(0, .ref h)] := hl
  refine lv_aload_n hx hb d_Md_product_0 rfl (lv_at hl 0 rfl) ?_
  refine va_get (D := D) (ci := 5) (v := .int (nI mn)) (C := R_Md) (T := T_Md) (N := 25) hx hb ht u_Md hown hK hP 0 rfl rfl 19 (by decide) (ht _ wd_914) (fun _ h9 => h9) rfl d_Md_product_1 ?_
  refine lv_iconst (v := nI 4) hx hb d_Md_product_4 (by decide) ?_
  refine wi_le hx hb d_Md_product_5 rfl (by omega) (by omega) (fun h5 => ?_) (fun h5 => ?_)
  · refine lv_iconst (v := nI 1) hx hb d_Md_product_14 (by decide) ?_
    refine lv_istore_n (lv' := [(1, .int (nI 1)), (0, .ref h)]) hx hb d_Md_product_15 rfl hl (by decide) rfl (fun ls hl => ?_)
    refine lv_iconst (v := nI 0) hx hb d_Md_product_16 (by decide) ?_
    refine lv_istore_n (lv' := [(2, .int (nI 0)), (1, .int (nI 1)), (0, .ref h)]) hx hb d_Md_product_17 rfl hl (by decide) rfl (fun ls hl => ?_)
    have loop18 : ∀ (d : Nat) (k : Nat) (v : Nat) (ls : Array Slot) (H : Heap) (locs : List Loc), mn - k = d → (k ≤ mn) → ((v = 1501 ∧ 4 < mn) ∨ (mn ≤ 4 ∧ v = pw_w ru k)) → (v ≤ 60000) → lv_has ls 3 [(0, .ref h), (1, .int (nI v)), (2, .int (nI k))] → va_P D kcl [(h, .inr (5, [.int (nI th), .int (nI n), .ref a1, .ref a2, .ref a3, .ref a4, .int (nI wi), .int (nI bu), .int (nI L), .ref c1, .int (nI ax), .int (nI va), .int (nI sl), .int cv, .int (nI me), .ref b1, .ref b2, .int (nI L2), .ref c2, .int (nI mn), .ref r1, .ref r2, .ref z1, .ref n1, .ref t1])), (r2, .inl (cI, 10, .inl (wA ru)))] H → va_D A [(h, .inr (5, [.int (nI th), .int (nI n), .ref a1, .ref a2, .ref a3, .ref a4, .int (nI wi), .int (nI bu), .int (nI L), .ref c1, .int (nI ax), .int (nI va), .int (nI sl), .int cv, .int (nI me), .ref b1, .ref b2, .int (nI L2), .ref c2, .int (nI mn), .ref r1, .ref r2, .ref z1, .ref n1, .ref t1])), (r2, .inl (cI, 10, .inl (wA ru)))] → va_S A s.heap H locs → W p l e ({ frames := 0, cells := 0, slots := 0, locals := 0 } : Room) s m args below meth c H locs 0 0 Q (F0 m 18 ls []) := by
      intro d
      induction d using Nat.strongRecOn with
      | ind d ih18 =>
        intro k v ls H locs hd18 hk hv hv9 hl hP hD hS
        refine lv_iload_n hx hb d_Md_product_18 rfl (lv_at hl 2 rfl) ?_
        refine lv_aload_n hx hb d_Md_product_19 rfl (lv_at hl 0 rfl) ?_
        refine va_get (D := D) (ci := 5) (v := .int (nI mn)) (C := R_Md) (T := T_Md) (N := 25) hx hb ht u_Md hown hK hP 0 rfl rfl 19 (by decide) (ht _ wd_914) (fun _ h9 => h9) rfl d_Md_product_20 ?_
        refine wi_ge hx hb d_Md_product_23 rfl (by omega) (by omega) (fun h23 => ?_) (fun h23 => ?_)
        · obtain rfl : mn = k := by omega
          have hbig : 1500 < v := by
            rcases hv with ⟨a, -⟩ | ⟨a, b⟩
            · omega
            · exact Nat.not_le.mp fun z => hW ⟨a, by rw [← b]; exact z⟩
          refine lv_iload_n hx hb d_Md_product_48 rfl (lv_at hl 1 rfl) ?_
          exact k_reti hQ hx hb hr hlk hAe hK hP hD hS (Nat.le_of_ble_eq_true rfl) (Nat.le_of_ble_eq_true rfl) (Nat.le_of_ble_eq_true rfl) ⟨v, hbig, by omega, rfl, rfl⟩ d_Md_product_49
        · refine lv_iload_n hx hb d_Md_product_26 rfl (lv_at hl 1 rfl) ?_
          refine lv_sipush (v := nI 1500) hx hb d_Md_product_27 (by decide) ?_
          refine wi_gt hx hb d_Md_product_30 rfl (by omega) (by omega) (fun h30 => ?_) (fun h30 => ?_)
          · refine lv_iload_n hx hb d_Md_product_48 rfl (lv_at hl 1 rfl) ?_
            exact k_reti hQ hx hb hr hlk hAe hK hP hD hS (Nat.le_of_ble_eq_true rfl) (Nat.le_of_ble_eq_true rfl) (Nat.le_of_ble_eq_true rfl) ⟨v, h30, by omega, rfl, rfl⟩ d_Md_product_49
          · refine lv_iload_n hx hb d_Md_product_33 rfl (lv_at hl 1 rfl) ?_
            refine lv_aload_n hx hb d_Md_product_34 rfl (lv_at hl 0 rfl) ?_
            refine va_get (D := D) (ci := 5) (v := .ref r2) (C := R_Md) (T := T_Md) (N := 25) hx hb ht u_Md hown hK hP 0 rfl rfl 21 (by decide) (ht _ wd_916) (fun _ h9 => h9) rfl d_Md_product_35 ?_
            refine lv_iload_n hx hb d_Md_product_38 rfl (lv_at hl 2 rfl) ?_
            refine wi_ald hx hb hK hP 1 0 rfl rfl (by omega) (by omega) d_Md_product_39 ?_
            refine wi_mul hx hb d_Md_product_40 ?_
            refine lv_istore_n (lv' := [(1, .int (nI (v * (ru k)))), (0, .ref h), (2, .int (nI k))]) hx hb d_Md_product_41 rfl hl (by decide) rfl (fun ls hl => ?_)
            refine wi_inc (k := 2) (lv' := [(2, .int (nI (k + 1))), (1, .int (nI (v * (ru k)))), (0, .ref h)]) hx hb d_Md_product_42 hl rfl (by decide) rfl (fun ls hl => ?_)
            refine lv_goto hx hb d_Md_product_45 rfl ?_
            have hrk := hru k h23
            have hvn : (v * ru k = 1501 ∧ 4 < mn) ∨ (mn ≤ 4 ∧ v * ru k = pw_w ru (k + 1)) := by
              rcases hv with ⟨a, b⟩ | ⟨a, b⟩
              · omega
              · exact Or.inr ⟨a, by rw [b]; rfl⟩
            have hvb : v * ru k ≤ 60000 := Nat.le_trans (Nat.mul_le_mul (by omega : v ≤ 1500) hrk.2) (by decide)
            exact ih18 (mn - (k + 1)) (by omega) (k + 1) (v * ru k) ls H locs rfl (by omega) hvn hvb (lv_sub hl [2, 1, 0] rfl) hP hD hS
    exact loop18 _ (0) (1) ls H locs rfl (Nat.zero_le _) (by first | exact Or.inl ⟨rfl, by omega⟩ | exact Or.inr ⟨by omega, rfl⟩) (by decide) (lv_sub hl [2, 1, 0] rfl) hP hD hS
  · refine lv_sipush (v := nI 1501) hx hb d_Md_product_8 (by decide) ?_
    refine lv_goto hx hb d_Md_product_11 rfl ?_
    refine lv_istore_n (lv' := [(1, .int (nI 1501)), (0, .ref h)]) hx hb d_Md_product_15 rfl hl (by decide) rfl (fun ls hl => ?_)
    refine lv_iconst (v := nI 0) hx hb d_Md_product_16 (by decide) ?_
    refine lv_istore_n (lv' := [(2, .int (nI 0)), (1, .int (nI 1501)), (0, .ref h)]) hx hb d_Md_product_17 rfl hl (by decide) rfl (fun ls hl => ?_)
    have loop18 : ∀ (d : Nat) (k : Nat) (v : Nat) (ls : Array Slot) (H : Heap) (locs : List Loc), mn - k = d → (k ≤ mn) → ((v = 1501 ∧ 4 < mn) ∨ (mn ≤ 4 ∧ v = pw_w ru k)) → (v ≤ 60000) → lv_has ls 3 [(0, .ref h), (1, .int (nI v)), (2, .int (nI k))] → va_P D kcl [(h, .inr (5, [.int (nI th), .int (nI n), .ref a1, .ref a2, .ref a3, .ref a4, .int (nI wi), .int (nI bu), .int (nI L), .ref c1, .int (nI ax), .int (nI va), .int (nI sl), .int cv, .int (nI me), .ref b1, .ref b2, .int (nI L2), .ref c2, .int (nI mn), .ref r1, .ref r2, .ref z1, .ref n1, .ref t1])), (r2, .inl (cI, 10, .inl (wA ru)))] H → va_D A [(h, .inr (5, [.int (nI th), .int (nI n), .ref a1, .ref a2, .ref a3, .ref a4, .int (nI wi), .int (nI bu), .int (nI L), .ref c1, .int (nI ax), .int (nI va), .int (nI sl), .int cv, .int (nI me), .ref b1, .ref b2, .int (nI L2), .ref c2, .int (nI mn), .ref r1, .ref r2, .ref z1, .ref n1, .ref t1])), (r2, .inl (cI, 10, .inl (wA ru)))] → va_S A s.heap H locs → W p l e ({ frames := 0, cells := 0, slots := 0, locals := 0 } : Room) s m args below meth c H locs 0 0 Q (F0 m 18 ls []) := by
      intro d
      induction d using Nat.strongRecOn with
      | ind d ih18 =>
        intro k v ls H locs hd18 hk hv hv9 hl hP hD hS
        refine lv_iload_n hx hb d_Md_product_18 rfl (lv_at hl 2 rfl) ?_
        refine lv_aload_n hx hb d_Md_product_19 rfl (lv_at hl 0 rfl) ?_
        refine va_get (D := D) (ci := 5) (v := .int (nI mn)) (C := R_Md) (T := T_Md) (N := 25) hx hb ht u_Md hown hK hP 0 rfl rfl 19 (by decide) (ht _ wd_914) (fun _ h9 => h9) rfl d_Md_product_20 ?_
        refine wi_ge hx hb d_Md_product_23 rfl (by omega) (by omega) (fun h23 => ?_) (fun h23 => ?_)
        · obtain rfl : mn = k := by omega
          have hbig : 1500 < v := by
            rcases hv with ⟨a, -⟩ | ⟨a, b⟩
            · omega
            · exact Nat.not_le.mp fun z => hW ⟨a, by rw [← b]; exact z⟩
          refine lv_iload_n hx hb d_Md_product_48 rfl (lv_at hl 1 rfl) ?_
          exact k_reti hQ hx hb hr hlk hAe hK hP hD hS (Nat.le_of_ble_eq_true rfl) (Nat.le_of_ble_eq_true rfl) (Nat.le_of_ble_eq_true rfl) ⟨v, hbig, by omega, rfl, rfl⟩ d_Md_product_49
        · refine lv_iload_n hx hb d_Md_product_26 rfl (lv_at hl 1 rfl) ?_
          refine lv_sipush (v := nI 1500) hx hb d_Md_product_27 (by decide) ?_
          refine wi_gt hx hb d_Md_product_30 rfl (by omega) (by omega) (fun h30 => ?_) (fun h30 => ?_)
          · refine lv_iload_n hx hb d_Md_product_48 rfl (lv_at hl 1 rfl) ?_
            exact k_reti hQ hx hb hr hlk hAe hK hP hD hS (Nat.le_of_ble_eq_true rfl) (Nat.le_of_ble_eq_true rfl) (Nat.le_of_ble_eq_true rfl) ⟨v, h30, by omega, rfl, rfl⟩ d_Md_product_49
          · refine lv_iload_n hx hb d_Md_product_33 rfl (lv_at hl 1 rfl) ?_
            refine lv_aload_n hx hb d_Md_product_34 rfl (lv_at hl 0 rfl) ?_
            refine va_get (D := D) (ci := 5) (v := .ref r2) (C := R_Md) (T := T_Md) (N := 25) hx hb ht u_Md hown hK hP 0 rfl rfl 21 (by decide) (ht _ wd_916) (fun _ h9 => h9) rfl d_Md_product_35 ?_
            refine lv_iload_n hx hb d_Md_product_38 rfl (lv_at hl 2 rfl) ?_
            refine wi_ald hx hb hK hP 1 0 rfl rfl (by omega) (by omega) d_Md_product_39 ?_
            refine wi_mul hx hb d_Md_product_40 ?_
            refine lv_istore_n (lv' := [(1, .int (nI (v * (ru k)))), (0, .ref h), (2, .int (nI k))]) hx hb d_Md_product_41 rfl hl (by decide) rfl (fun ls hl => ?_)
            refine wi_inc (k := 2) (lv' := [(2, .int (nI (k + 1))), (1, .int (nI (v * (ru k)))), (0, .ref h)]) hx hb d_Md_product_42 hl rfl (by decide) rfl (fun ls hl => ?_)
            refine lv_goto hx hb d_Md_product_45 rfl ?_
            have hrk := hru k h23
            have hvn : (v * ru k = 1501 ∧ 4 < mn) ∨ (mn ≤ 4 ∧ v * ru k = pw_w ru (k + 1)) := by
              rcases hv with ⟨a, b⟩ | ⟨a, b⟩
              · omega
              · exact Or.inr ⟨a, by rw [b]; rfl⟩
            have hvb : v * ru k ≤ 60000 := Nat.le_trans (Nat.mul_le_mul (by omega : v ≤ 1500) hrk.2) (by decide)
            exact ih18 (mn - (k + 1)) (by omega) (k + 1) (v * ru k) ls H locs rfl (by omega) hvn hvb (lv_sub hl [2, 1, 0] rfl) hP hD hS
    exact loop18 _ (0) (1501) ls H locs rfl (Nat.zero_le _) (by first | exact Or.inl ⟨rfl, by omega⟩ | exact Or.inr ⟨by omega, rfl⟩) (by decide) (lv_sub hl [2, 1, 0] rfl) hP hD hS
set_option maxHeartbeats 4000000 in
set_option maxRecDepth 100000 in
theorem c_Md_open (l : Launch) (Hs : Heap) (D : va_G) (cI cZ cL : ClassId) (h : Nat) (a1 : Nat) (a2 : Nat) (a3 : Nat) (a4 : Nat) (c1 : Nat) (b1 : Nat) (b2 : Nat) (c2 : Nat) (r1 : Nat) (r2 : Nat) (z1 : Nat) (n1 : Nat) (t1 : Nat) (th : Nat) (n : Nat) (wi : Nat) (bu : Nat) (L : Nat) (ax : Nat) (va : Nat) (sl : Nat) (me : Nat) (L2 : Nat) (mn : Nat) (cv : Int32) (ru : Nat → Nat) (nu : Nat → Nat) (v : Nat) (hmn : mn ≤ 4) (hru : ∀ t, t < mn → 0 < ru t ∧ ru t ≤ 40) (hv : v < 2 ^ 31) : kV l Hs D kcl (ty3 cI cZ cL) y_Md_open (mws y_Md_open b_Md_open 4 (Option.none : Option Jvm.ClassFile.FieldType)) ({ frames := 0, cells := 0, slots := 0, locals := 0 } : Room) [.ref h, .int (nI v)] [(h, .inr (5, [.int (nI th), .int (nI n), .ref a1, .ref a2, .ref a3, .ref a4, .int (nI wi), .int (nI bu), .int (nI L), .ref c1, .int (nI ax), .int (nI va), .int (nI sl), .int cv, .int (nI me), .ref b1, .ref b2, .int (nI L2), .ref c2, .int (nI mn), .ref r1, .ref r2, .ref z1, .ref n1, .ref t1])), (n1, .inl (cI, 4, .inl (wA nu))), (r2, .inl (cI, 10, .inl (wA ru)))] (fun w => ∃ (nu2 : Nat → Nat), (∀ t, t < mn → nu2 t = pw_dg ru v t + 1) ∧ w = [(h, .inr (5, [.int (nI th), .int (nI n), .ref a1, .ref a2, .ref a3, .ref a4, .int (nI wi), .int (nI bu), .int (nI L), .ref c1, .int (nI ax), .int (nI va), .int (nI sl), .int cv, .int (nI me), .ref b1, .ref b2, .int (nI L2), .ref c2, .int (nI mn), .ref r1, .ref r2, .ref z1, .ref n1, .ref t1])), (n1, .inl (cI, 4, .inl (wA nu2))), (r2, .inl (cI, 10, .inl (wA ru)))]) := by
  intro sz
  refine k_of (cc := b_Md_open) (maxL := 4) (ret := (Option.none : Option Jvm.ClassFile.FieldType)) (by decide) rfl (Nat.le_of_ble_eq_true rfl) ?_
  intro p e s m args below meth c ls H locs A Q hQ hx hb hml hr hts hown hlk hnm hsz hAe hP hK hD hS hA hE hAH hl
  have ht : ∀ w ∈ mw, w.before args s = true := fun w h => hts w (List.mem_cons_of_mem _ h)
  have hl : lv_has ls 4 [(0, .ref h), (1, .int (nI v))] := hl
  refine lv_iload_n hx hb d_Md_open_0 rfl (lv_at hl 1 rfl) ?_
  rw [show nI v = nI (v / pw_w ru 0) by rw [show pw_w ru 0 = 1 from rfl, Nat.div_one]]
  refine lv_istore_n (lv' := [(2, .int (nI (v / pw_w ru 0))), (0, .ref h), (1, .int (nI v))]) hx hb d_Md_open_1 rfl hl (by decide) rfl (fun ls hl => ?_)
  refine lv_iconst (v := nI 0) hx hb d_Md_open_2 (by decide) ?_
  refine lv_istore_n (lv' := [(3, .int (nI 0)), (2, .int (nI (v / pw_w ru 0))), (0, .ref h), (1, .int (nI v))]) hx hb d_Md_open_3 rfl hl (by decide) rfl (fun ls hl => ?_)
  have loop4 : ∀ (d : Nat) (k : Nat) (u : Nat → Nat) (ls : Array Slot) (H : Heap) (locs : List Loc), mn - k = d → (k ≤ mn) → (∀ t, t < k → u t = pw_dg ru v t + 1) → lv_has ls 4 [(0, .ref h), (1, .int (nI v)), (2, .int (nI (v / pw_w ru k))), (3, .int (nI k))] → va_P D kcl [(h, .inr (5, [.int (nI th), .int (nI n), .ref a1, .ref a2, .ref a3, .ref a4, .int (nI wi), .int (nI bu), .int (nI L), .ref c1, .int (nI ax), .int (nI va), .int (nI sl), .int cv, .int (nI me), .ref b1, .ref b2, .int (nI L2), .ref c2, .int (nI mn), .ref r1, .ref r2, .ref z1, .ref n1, .ref t1])), (n1, .inl (cI, 4, .inl (wA u))), (r2, .inl (cI, 10, .inl (wA ru)))] H → va_D A [(h, .inr (5, [.int (nI th), .int (nI n), .ref a1, .ref a2, .ref a3, .ref a4, .int (nI wi), .int (nI bu), .int (nI L), .ref c1, .int (nI ax), .int (nI va), .int (nI sl), .int cv, .int (nI me), .ref b1, .ref b2, .int (nI L2), .ref c2, .int (nI mn), .ref r1, .ref r2, .ref z1, .ref n1, .ref t1])), (n1, .inl (cI, 4, .inl (wA u))), (r2, .inl (cI, 10, .inl (wA ru)))] → va_S A s.heap H locs → W p l e ({ frames := 0, cells := 0, slots := 0, locals := 0 } : Room) s m args below meth c H locs 0 0 Q (F0 m 4 ls []) := by
    intro d
    induction d using Nat.strongRecOn with
    | ind d ih4 =>
      intro k u ls H locs hd4 hk hu hl hP hD hS
      refine lv_iload_n hx hb d_Md_open_4 rfl (lv_at hl 3 rfl) ?_
      refine lv_aload_n hx hb d_Md_open_5 rfl (lv_at hl 0 rfl) ?_
      refine va_get (D := D) (ci := 5) (v := .int (nI mn)) (C := R_Md) (T := T_Md) (N := 25) hx hb ht u_Md hown hK hP 0 rfl rfl 19 (by decide) (ht _ wd_914) (fun _ h9 => h9) rfl d_Md_open_6 ?_
      refine wi_ge hx hb d_Md_open_9 rfl (by omega) (by omega) (fun h9 => ?_) (fun h9 => ?_)
      · obtain rfl : mn = k := by omega
        exact k_retv hQ hx hb hr hlk hAe hK hP hD hS (Nat.le_of_ble_eq_true rfl) (Nat.le_of_ble_eq_true rfl) (Nat.le_of_ble_eq_true rfl) ⟨u, hu, rfl⟩ d_Md_open_43
      · have hrk := hru k h9
        have hdl := Nat.div_le_self v (pw_w ru k)
        refine lv_aload_n hx hb d_Md_open_12 rfl (lv_at hl 0 rfl) ?_
        refine va_get (D := D) (ci := 5) (v := .ref n1) (C := R_Md) (T := T_Md) (N := 25) hx hb ht u_Md hown hK hP 0 rfl rfl 23 (by decide) (ht _ wd_918) (fun _ h9 => h9) rfl d_Md_open_13 ?_
        refine lv_iload_n hx hb d_Md_open_16 rfl (lv_at hl 3 rfl) ?_
        refine lv_iload_n hx hb d_Md_open_17 rfl (lv_at hl 2 rfl) ?_
        refine lv_aload_n hx hb d_Md_open_18 rfl (lv_at hl 0 rfl) ?_
        refine va_get (D := D) (ci := 5) (v := .ref r2) (C := R_Md) (T := T_Md) (N := 25) hx hb ht u_Md hown hK hP 0 rfl rfl 21 (by decide) (ht _ wd_916) (fun _ h9 => h9) rfl d_Md_open_19 ?_
        refine lv_iload_n hx hb d_Md_open_22 rfl (lv_at hl 3 rfl) ?_
        refine wi_ald hx hb hK hP 2 0 rfl rfl (by omega) (by omega) d_Md_open_23 ?_
        refine wi_rem hx hb d_Md_open_24 (by omega) (by omega) (by omega) ?_
        refine lv_iconst (v := nI 1) hx hb d_Md_open_25 (by decide) ?_
        refine wi_add hx hb d_Md_open_26 ?_
        refine wi_ast hx hb hK hP hD hS 1 0 rfl rfl (by omega) (by omega) d_Md_open_27 (fun H locs hP hD hS => ?_)
        have hP : va_P D kcl [(h, .inr (5, [.int (nI th), .int (nI n), .ref a1, .ref a2, .ref a3, .ref a4, .int (nI wi), .int (nI bu), .int (nI L), .ref c1, .int (nI ax), .int (nI va), .int (nI sl), .int cv, .int (nI me), .ref b1, .ref b2, .int (nI L2), .ref c2, .int (nI mn), .ref r1, .ref r2, .ref z1, .ref n1, .ref t1])), (n1, .inl (cI, 4, .inl (wA (va_up u k (((v / pw_w ru k) % (ru k)) + 1))))), (r2, .inl (cI, 10, .inl (wA ru)))] H := hP
        have hD : va_D A [(h, .inr (5, [.int (nI th), .int (nI n), .ref a1, .ref a2, .ref a3, .ref a4, .int (nI wi), .int (nI bu), .int (nI L), .ref c1, .int (nI ax), .int (nI va), .int (nI sl), .int cv, .int (nI me), .ref b1, .ref b2, .int (nI L2), .ref c2, .int (nI mn), .ref r1, .ref r2, .ref z1, .ref n1, .ref t1])), (n1, .inl (cI, 4, .inl (wA (va_up u k (((v / pw_w ru k) % (ru k)) + 1))))), (r2, .inl (cI, 10, .inl (wA ru)))] := hD
        refine lv_iload_n hx hb d_Md_open_28 rfl (lv_at hl 2 rfl) ?_
        refine lv_aload_n hx hb d_Md_open_29 rfl (lv_at hl 0 rfl) ?_
        refine va_get (D := D) (ci := 5) (v := .ref r2) (C := R_Md) (T := T_Md) (N := 25) hx hb ht u_Md hown hK hP 0 rfl rfl 21 (by decide) (ht _ wd_916) (fun _ h9 => h9) rfl d_Md_open_30 ?_
        refine lv_iload_n hx hb d_Md_open_33 rfl (lv_at hl 3 rfl) ?_
        refine wi_ald hx hb hK hP 2 0 rfl rfl (by omega) (by omega) d_Md_open_34 ?_
        refine wi_div hx hb d_Md_open_35 (by omega) (by omega) (by omega) ?_
        rw [Nat.div_div_eq_div_mul]
        refine lv_istore_n (lv' := [(2, .int (nI (v / pw_w ru (k + 1)))), (0, .ref h), (1, .int (nI v)), (3, .int (nI k))]) hx hb d_Md_open_36 rfl hl (by decide) rfl (fun ls hl => ?_)
        refine wi_inc (k := 3) (lv' := [(3, .int (nI (k + 1))), (2, .int (nI (v / pw_w ru (k + 1)))), (0, .ref h), (1, .int (nI v))]) hx hb d_Md_open_37 hl rfl (by decide) rfl (fun ls hl => ?_)
        refine lv_goto hx hb d_Md_open_40 rfl ?_
        exact ih4 (mn - (k + 1)) (by omega) (k + 1) (va_up u k (pw_dg ru v k + 1)) ls H locs rfl (by omega) (up_lt (g := fun t => pw_dg ru v t + 1) hu) (lv_sub hl [2, 3, 1, 0] rfl) hP hD hS
  exact loop4 _ (0) (nu) ls H locs rfl (Nat.zero_le _) lt_0 (lv_sub hl [2, 3, 1, 0] rfl) hP hD hS
set_option maxHeartbeats 4000000 in
set_option maxRecDepth 100000 in
theorem c_Md_after1 (l : Launch) (Hs : Heap) (D : va_G) (cI cZ cL : ClassId) (h : Nat) (a1 : Nat) (a2 : Nat) (a3 : Nat) (a4 : Nat) (c1 : Nat) (b1 : Nat) (b2 : Nat) (c2 : Nat) (r1 : Nat) (r2 : Nat) (z1 : Nat) (n1 : Nat) (t1 : Nat) (th : Nat) (n : Nat) (wi : Nat) (bu : Nat) (L : Nat) (ax : Nat) (va : Nat) (sl : Nat) (me : Nat) (L2 : Nat) (mn : Nat) (cv : Int32) (ru : Nat → Nat) (nu : Nat → Nat) (v : Nat) (t : Nat) (hmn : mn ≤ 4) (hru : ∀ t, t < mn → 0 < ru t ∧ ru t ≤ 40) (hv : v < 2 ^ 31) (htb : t < 2 ^ 31) (hok : pw_ok mn ru v t) : kI l Hs D kcl (ty3 cI cZ cL) y_Md_after (mws y_Md_after b_Md_after 7 (Option.some Jvm.ClassFile.FieldType.int)) ({ frames := 1, cells := 0, slots := 0, locals := 23 } : Room) [.ref h, .int (nI v), .int (nI t)] [(h, .inr (5, [.int (nI th), .int (nI n), .ref a1, .ref a2, .ref a3, .ref a4, .int (nI wi), .int (nI bu), .int (nI L), .ref c1, .int (nI ax), .int (nI va), .int (nI sl), .int cv, .int (nI me), .ref b1, .ref b2, .int (nI L2), .ref c2, .int (nI mn), .ref r1, .ref r2, .ref z1, .ref n1, .ref t1])), (n1, .inl (cI, 4, .inl (wA nu))), (r2, .inl (cI, 10, .inl (wA ru)))] (fun r w => ∃ (nu2 : Nat → Nat), r = nI (pw_nx mn ru v t) ∧ w = [(h, .inr (5, [.int (nI th), .int (nI n), .ref a1, .ref a2, .ref a3, .ref a4, .int (nI wi), .int (nI bu), .int (nI L), .ref c1, .int (nI ax), .int (nI va), .int (nI sl), .int cv, .int (nI me), .ref b1, .ref b2, .int (nI L2), .ref c2, .int (nI mn), .ref r1, .ref r2, .ref z1, .ref n1, .ref t1])), (n1, .inl (cI, 4, .inl (wA nu2))), (r2, .inl (cI, 10, .inl (wA ru)))]) := by
  intro sz
  refine k_of (cc := b_Md_after) (maxL := 7) (ret := (Option.some Jvm.ClassFile.FieldType.int)) (by decide) rfl (Nat.le_of_ble_eq_true rfl) ?_
  intro p e s m args below meth c ls H locs A Q hQ hx hb hml hr hts hown hlk hnm hsz hAe hP hK hD hS hA hE hAH hl
  have ht : ∀ w ∈ mw, w.before args s = true := fun w h => hts w (List.mem_cons_of_mem _ h)
  have hl : lv_has ls 7 [(0, .ref h), (1, .int (nI v)), (2, .int (nI t))] := hl
  refine lv_aload_n hx hb d_Md_after_0 rfl (lv_at hl 0 rfl) ?_
  refine lv_iload_n hx hb d_Md_after_1 rfl (lv_at hl 1 rfl) ?_
  refine ck_v (wc := [(h, .inr (5, [.int (nI th), .int (nI n), .ref a1, .ref a2, .ref a3, .ref a4, .int (nI wi), .int (nI bu), .int (nI L), .ref c1, .int (nI ax), .int (nI va), .int (nI sl), .int cv, .int (nI me), .ref b1, .ref b2, .int (nI L2), .ref c2, .int (nI mn), .ref r1, .ref r2, .ref z1, .ref n1, .ref t1])), (n1, .inl (cI, 4, .inl (wA nu))), (r2, .inl (cI, 10, .inl (wA ru)))]) (va_runV (As := [.int (nI v)]) (rest := []) (C := R_Md) ⟨hx, hb, hml, hown, ht⟩ (c_Md_open l Hs D cI cZ cL h a1 a2 a3 a4 c1 b1 b2 c2 r1 r2 z1 n1 t1 th n wi bu L ax va sl me L2 mn cv ru nu v hmn hru hv H.size) (gw_V 1 ht wd_1041 wd_5 wd_1038 wd_1040 ws_41 (by decide +kernel) ⟨Nat.le_of_ble_eq_true rfl, Nat.le_of_ble_eq_true rfl⟩) (k_preV hE hAH hK hP hD hS [0, 1, 2] rfl rfl 0 rfl rfl) rfl rfl hl.1 rfl (lv_room (Nat.le_of_ble_eq_true rfl)) d_Md_after_2 ⟨Nat.le_of_ble_eq_true rfl, Nat.le_of_ble_eq_true rfl⟩) hP hD hS hA [0, 1, 2] rfl rfl (fun w1 H locs hpost hP hD hS => ?_)
  obtain ⟨nu2, hnu, rfl⟩ := hpost
  have hP : va_P D kcl [(h, .inr (5, [.int (nI th), .int (nI n), .ref a1, .ref a2, .ref a3, .ref a4, .int (nI wi), .int (nI bu), .int (nI L), .ref c1, .int (nI ax), .int (nI va), .int (nI sl), .int cv, .int (nI me), .ref b1, .ref b2, .int (nI L2), .ref c2, .int (nI mn), .ref r1, .ref r2, .ref z1, .ref n1, .ref t1])), (n1, .inl (cI, 4, .inl (wA nu2))), (r2, .inl (cI, 10, .inl (wA ru)))] H := hP
  have hD : va_D A [(h, .inr (5, [.int (nI th), .int (nI n), .ref a1, .ref a2, .ref a3, .ref a4, .int (nI wi), .int (nI bu), .int (nI L), .ref c1, .int (nI ax), .int (nI va), .int (nI sl), .int cv, .int (nI me), .ref b1, .ref b2, .int (nI L2), .ref c2, .int (nI mn), .ref r1, .ref r2, .ref z1, .ref n1, .ref t1])), (n1, .inl (cI, 4, .inl (wA nu2))), (r2, .inl (cI, 10, .inl (wA ru)))] := hD
  refine lv_iconst (v := nI 0) hx hb d_Md_after_5 (by decide) ?_
  refine lv_istore_n (lv' := [(3, .int (nI 0)), (0, .ref h), (1, .int (nI v)), (2, .int (nI t))]) hx hb d_Md_after_6 rfl hl (by decide) rfl (fun ls hl => ?_)
  refine lv_iconst (v := nI 1) hx hb d_Md_after_7 (by decide) ?_
  refine lv_istore (lv' := [(4, .int (nI 1)), (3, .int (nI 0)), (0, .ref h), (1, .int (nI v)), (2, .int (nI t))]) hx hb d_Md_after_8 hl (by decide) rfl (fun ls hl => ?_)
  refine lv_iconst (v := nI 0) hx hb d_Md_after_10 (by decide) ?_
  refine lv_istore (lv' := [(5, .int (nI 0)), (4, .int (nI 1)), (3, .int (nI 0)), (0, .ref h), (1, .int (nI v)), (2, .int (nI t))]) hx hb d_Md_after_11 hl (by decide) rfl (fun ls hl => ?_)
  have loop13 : ∀ (d : Nat) (k : Nat) (ls : Array Slot) (H : Heap) (locs : List Loc), mn - k = d → (k ≤ mn) → (∀ j, j < k → j ≠ t → pw_dg ru v j ≠ 0) → lv_has ls 7 [(0, .ref h), (1, .int (nI v)), (2, .int (nI t)), (3, .int (nI (pw_en ru (pw_nd ru v t) k))), (4, .int (nI (pw_w ru k))), (5, .int (nI k))] → va_P D kcl [(h, .inr (5, [.int (nI th), .int (nI n), .ref a1, .ref a2, .ref a3, .ref a4, .int (nI wi), .int (nI bu), .int (nI L), .ref c1, .int (nI ax), .int (nI va), .int (nI sl), .int cv, .int (nI me), .ref b1, .ref b2, .int (nI L2), .ref c2, .int (nI mn), .ref r1, .ref r2, .ref z1, .ref n1, .ref t1])), (n1, .inl (cI, 4, .inl (wA nu2))), (r2, .inl (cI, 10, .inl (wA ru)))] H → va_D A [(h, .inr (5, [.int (nI th), .int (nI n), .ref a1, .ref a2, .ref a3, .ref a4, .int (nI wi), .int (nI bu), .int (nI L), .ref c1, .int (nI ax), .int (nI va), .int (nI sl), .int cv, .int (nI me), .ref b1, .ref b2, .int (nI L2), .ref c2, .int (nI mn), .ref r1, .ref r2, .ref z1, .ref n1, .ref t1])), (n1, .inl (cI, 4, .inl (wA nu2))), (r2, .inl (cI, 10, .inl (wA ru)))] → va_S A s.heap H locs → W p l e ({ frames := 1, cells := 0, slots := 0, locals := 23 } : Room) s m args below meth c H locs 0 0 Q (F0 m 13 ls []) := by
    intro d
    induction d using Nat.strongRecOn with
    | ind d ih13 =>
      intro k ls H locs hd13 hk hdo hl hP hD hS
      refine lv_iload hx hb d_Md_after_13 (lv_at hl 5 rfl) ?_
      refine lv_aload_n hx hb d_Md_after_15 rfl (lv_at hl 0 rfl) ?_
      refine va_get (D := D) (ci := 5) (v := .int (nI mn)) (C := R_Md) (T := T_Md) (N := 25) hx hb ht u_Md hown hK hP 0 rfl rfl 19 (by decide) (ht _ wd_914) (fun _ h9 => h9) rfl d_Md_after_16 ?_
      refine wi_ge hx hb d_Md_after_19 rfl (by omega) (by omega) (fun h19 => ?_) (fun h19 => ?_)
      · obtain rfl : mn = k := by omega
        refine lv_iload_n hx hb d_Md_after_84 rfl (lv_at hl 3 rfl) ?_
        exact k_reti hQ hx hb hr hlk hAe hK hP hD hS (Nat.le_of_ble_eq_true rfl) (Nat.le_of_ble_eq_true rfl) (Nat.le_of_ble_eq_true rfl) ⟨nu2, rfl, rfl⟩ d_Md_after_85
      · have hrk := hru k h19
        have hnk := hnu k h19
        have hdk := pw_dg_lt (s := v) hrk.1
        refine lv_iload hx hb d_Md_after_22 (lv_at hl 5 rfl) ?_
        refine lv_iload_n hx hb d_Md_after_24 rfl (lv_at hl 2 rfl) ?_
        refine wi_ne hx hb d_Md_after_25 rfl (by omega) (by omega) (fun h25 => ?_) (fun h25 => ?_)
        · refine lv_aload_n hx hb d_Md_after_38 rfl (lv_at hl 0 rfl) ?_
          refine va_get (D := D) (ci := 5) (v := .ref n1) (C := R_Md) (T := T_Md) (N := 25) hx hb ht u_Md hown hK hP 0 rfl rfl 23 (by decide) (ht _ wd_918) (fun _ h9 => h9) rfl d_Md_after_39 ?_
          refine lv_iload hx hb d_Md_after_42 (lv_at hl 5 rfl) ?_
          refine wi_ald hx hb hK hP 1 0 rfl rfl (by omega) (by omega) d_Md_after_44 ?_
          refine lv_iconst (v := nI 1) hx hb d_Md_after_45 (by decide) ?_
          refine wi_sub hx hb d_Md_after_46 (by omega) ?_
          rw [show nu2 k - 1 = pw_dg ru v k by omega]
          refine lv_istore (lv' := [(6, .int (nI (pw_dg ru v k))), (0, .ref h), (1, .int (nI v)), (2, .int (nI t)), (3, .int (nI (pw_en ru (pw_nd ru v t) k))), (4, .int (nI (pw_w ru k))), (5, .int (nI k))]) hx hb d_Md_after_47 hl (by decide) rfl (fun ls hl => ?_)
          refine lv_iload hx hb d_Md_after_49 (lv_at hl 0 rfl) ?_
          refine wi_if_ne hx hb d_Md_after_51 rfl (by omega) (fun h51 => ?_) (fun h51 => ?_)
          · refine lv_iload_n hx hb d_Md_after_56 rfl (lv_at hl 4 rfl) ?_
            refine lv_iload hx hb d_Md_after_57 (lv_at hl 0 rfl) ?_
            refine lv_iconst (v := nI 1) hx hb d_Md_after_59 (by decide) ?_
            refine wi_sub hx hb d_Md_after_60 (by omega) ?_
            refine lv_iload hx hb d_Md_after_61 (lv_at hl 5 rfl) ?_
            refine wi_mul hx hb d_Md_after_63 ?_
            refine wi_add hx hb d_Md_after_64 ?_
            rw [show pw_en ru (pw_nd ru v t) k + (pw_dg ru v k - 1) * pw_w ru k = pw_en ru (pw_nd ru v t) (k + 1) by show _ = pw_en ru (pw_nd ru v t) k + pw_nd ru v t k * pw_w ru k; unfold pw_nd; rw [if_neg h25]]
            refine lv_istore_n (lv' := [(3, .int (nI (pw_en ru (pw_nd ru v t) (k + 1)))), (6, .int (nI (pw_dg ru v k))), (0, .ref h), (1, .int (nI v)), (2, .int (nI t)), (4, .int (nI (pw_w ru k))), (5, .int (nI k))]) hx hb d_Md_after_65 rfl hl (by decide) rfl (fun ls hl => ?_)
            refine lv_iload hx hb d_Md_after_66 (lv_at hl 5 rfl) ?_
            refine lv_aload_n hx hb d_Md_after_68 rfl (lv_at hl 2 rfl) ?_
            refine va_get (D := D) (ci := 5) (v := .ref r2) (C := R_Md) (T := T_Md) (N := 25) hx hb ht u_Md hown hK hP 0 rfl rfl 21 (by decide) (ht _ wd_916) (fun _ h9 => h9) rfl d_Md_after_69 ?_
            refine lv_iload hx hb d_Md_after_72 (lv_at hl 6 rfl) ?_
            refine wi_ald hx hb hK hP 2 0 rfl rfl (by omega) (by omega) d_Md_after_74 ?_
            refine wi_mul hx hb d_Md_after_75 ?_
            refine lv_istore (lv' := [(4, .int (nI ((pw_w ru k) * (ru k)))), (3, .int (nI (pw_en ru (pw_nd ru v t) (k + 1)))), (6, .int (nI (pw_dg ru v k))), (0, .ref h), (1, .int (nI v)), (2, .int (nI t)), (5, .int (nI k))]) hx hb d_Md_after_76 hl (by decide) rfl (fun ls hl => ?_)
            refine wi_inc (k := 6) (lv' := [(5, .int (nI (k + 1))), (4, .int (nI ((pw_w ru k) * (ru k)))), (3, .int (nI (pw_en ru (pw_nd ru v t) (k + 1)))), (6, .int (nI (pw_dg ru v k))), (0, .ref h), (1, .int (nI v)), (2, .int (nI t))]) hx hb d_Md_after_78 hl rfl (by decide) rfl (fun ls hl => ?_)
            refine lv_goto hx hb d_Md_after_81 rfl ?_
            exact ih13 (mn - (k + 1)) (by omega) (k + 1) ls H locs rfl (by omega) (lt_s hdo (fun z => by omega)) (lv_sub hl [4, 5, 6, 2, 1, 0] rfl) hP hD hS
          · exfalso; first | omega | exact hok k h19 (by omega) h51
        · refine lv_aload_n hx hb d_Md_after_28 rfl (lv_at hl 0 rfl) ?_
          refine va_get (D := D) (ci := 5) (v := .ref r2) (C := R_Md) (T := T_Md) (N := 25) hx hb ht u_Md hown hK hP 0 rfl rfl 21 (by decide) (ht _ wd_916) (fun _ h9 => h9) rfl d_Md_after_29 ?_
          refine lv_iload hx hb d_Md_after_32 (lv_at hl 5 rfl) ?_
          refine wi_ald hx hb hK hP 2 0 rfl rfl (by omega) (by omega) d_Md_after_34 ?_
          refine lv_goto hx hb d_Md_after_35 rfl ?_
          refine lv_istore (lv' := [(6, .int (nI (ru k))), (0, .ref h), (1, .int (nI v)), (2, .int (nI t)), (3, .int (nI (pw_en ru (pw_nd ru v t) k))), (4, .int (nI (pw_w ru k))), (5, .int (nI k))]) hx hb d_Md_after_47 hl (by decide) rfl (fun ls hl => ?_)
          refine lv_iload hx hb d_Md_after_49 (lv_at hl 0 rfl) ?_
          refine wi_if_ne hx hb d_Md_after_51 rfl (by omega) (fun h51 => ?_) (fun h51 => ?_)
          · refine lv_iload_n hx hb d_Md_after_56 rfl (lv_at hl 4 rfl) ?_
            refine lv_iload hx hb d_Md_after_57 (lv_at hl 0 rfl) ?_
            refine lv_iconst (v := nI 1) hx hb d_Md_after_59 (by decide) ?_
            refine wi_sub hx hb d_Md_after_60 (by omega) ?_
            refine lv_iload hx hb d_Md_after_61 (lv_at hl 5 rfl) ?_
            refine wi_mul hx hb d_Md_after_63 ?_
            refine wi_add hx hb d_Md_after_64 ?_
            rw [show pw_en ru (pw_nd ru v t) k + (ru k - 1) * pw_w ru k = pw_en ru (pw_nd ru v t) (k + 1) by show _ = pw_en ru (pw_nd ru v t) k + pw_nd ru v t k * pw_w ru k; unfold pw_nd; rw [if_pos h25]]
            refine lv_istore_n (lv' := [(3, .int (nI (pw_en ru (pw_nd ru v t) (k + 1)))), (6, .int (nI (ru k))), (0, .ref h), (1, .int (nI v)), (2, .int (nI t)), (4, .int (nI (pw_w ru k))), (5, .int (nI k))]) hx hb d_Md_after_65 rfl hl (by decide) rfl (fun ls hl => ?_)
            refine lv_iload hx hb d_Md_after_66 (lv_at hl 5 rfl) ?_
            refine lv_aload_n hx hb d_Md_after_68 rfl (lv_at hl 2 rfl) ?_
            refine va_get (D := D) (ci := 5) (v := .ref r2) (C := R_Md) (T := T_Md) (N := 25) hx hb ht u_Md hown hK hP 0 rfl rfl 21 (by decide) (ht _ wd_916) (fun _ h9 => h9) rfl d_Md_after_69 ?_
            refine lv_iload hx hb d_Md_after_72 (lv_at hl 6 rfl) ?_
            refine wi_ald hx hb hK hP 2 0 rfl rfl (by omega) (by omega) d_Md_after_74 ?_
            refine wi_mul hx hb d_Md_after_75 ?_
            refine lv_istore (lv' := [(4, .int (nI ((pw_w ru k) * (ru k)))), (3, .int (nI (pw_en ru (pw_nd ru v t) (k + 1)))), (6, .int (nI (ru k))), (0, .ref h), (1, .int (nI v)), (2, .int (nI t)), (5, .int (nI k))]) hx hb d_Md_after_76 hl (by decide) rfl (fun ls hl => ?_)
            refine wi_inc (k := 6) (lv' := [(5, .int (nI (k + 1))), (4, .int (nI ((pw_w ru k) * (ru k)))), (3, .int (nI (pw_en ru (pw_nd ru v t) (k + 1)))), (6, .int (nI (ru k))), (0, .ref h), (1, .int (nI v)), (2, .int (nI t))]) hx hb d_Md_after_78 hl rfl (by decide) rfl (fun ls hl => ?_)
            refine lv_goto hx hb d_Md_after_81 rfl ?_
            exact ih13 (mn - (k + 1)) (by omega) (k + 1) ls H locs rfl (by omega) (lt_s hdo (fun z => by omega)) (lv_sub hl [4, 5, 6, 2, 1, 0] rfl) hP hD hS
          · exfalso; first | omega | exact hok k h19 (by omega) h51
  exact loop13 _ (0) ls H locs rfl (Nat.zero_le _) lt_0 (lv_sub hl [3, 4, 5, 2, 1, 0] rfl) hP hD hS
set_option maxHeartbeats 4000000 in
set_option maxRecDepth 100000 in
theorem c_Md_after0 (l : Launch) (Hs : Heap) (D : va_G) (cI cZ cL : ClassId) (h : Nat) (a1 : Nat) (a2 : Nat) (a3 : Nat) (a4 : Nat) (c1 : Nat) (b1 : Nat) (b2 : Nat) (c2 : Nat) (r1 : Nat) (r2 : Nat) (z1 : Nat) (n1 : Nat) (t1 : Nat) (th : Nat) (n : Nat) (wi : Nat) (bu : Nat) (L : Nat) (ax : Nat) (va : Nat) (sl : Nat) (me : Nat) (L2 : Nat) (mn : Nat) (cv : Int32) (ru : Nat → Nat) (nu : Nat → Nat) (v : Nat) (t : Nat) (hmn : mn ≤ 4) (hru : ∀ t, t < mn → 0 < ru t ∧ ru t ≤ 40) (hv : v < 2 ^ 31) (htb : t < 2 ^ 31) (hok : ¬ pw_ok mn ru v t) : kI l Hs D kcl (ty3 cI cZ cL) y_Md_after (mws y_Md_after b_Md_after 7 (Option.some Jvm.ClassFile.FieldType.int)) ({ frames := 1, cells := 0, slots := 0, locals := 23 } : Room) [.ref h, .int (nI v), .int (nI t)] [(h, .inr (5, [.int (nI th), .int (nI n), .ref a1, .ref a2, .ref a3, .ref a4, .int (nI wi), .int (nI bu), .int (nI L), .ref c1, .int (nI ax), .int (nI va), .int (nI sl), .int cv, .int (nI me), .ref b1, .ref b2, .int (nI L2), .ref c2, .int (nI mn), .ref r1, .ref r2, .ref z1, .ref n1, .ref t1])), (n1, .inl (cI, 4, .inl (wA nu))), (r2, .inl (cI, 10, .inl (wA ru)))] (fun r w => ∃ (nu2 : Nat → Nat), r = (-1) ∧ w = [(h, .inr (5, [.int (nI th), .int (nI n), .ref a1, .ref a2, .ref a3, .ref a4, .int (nI wi), .int (nI bu), .int (nI L), .ref c1, .int (nI ax), .int (nI va), .int (nI sl), .int cv, .int (nI me), .ref b1, .ref b2, .int (nI L2), .ref c2, .int (nI mn), .ref r1, .ref r2, .ref z1, .ref n1, .ref t1])), (n1, .inl (cI, 4, .inl (wA nu2))), (r2, .inl (cI, 10, .inl (wA ru)))]) := by
  intro sz
  refine k_of (cc := b_Md_after) (maxL := 7) (ret := (Option.some Jvm.ClassFile.FieldType.int)) (by decide) rfl (Nat.le_of_ble_eq_true rfl) ?_
  intro p e s m args below meth c ls H locs A Q hQ hx hb hml hr hts hown hlk hnm hsz hAe hP hK hD hS hA hE hAH hl
  have ht : ∀ w ∈ mw, w.before args s = true := fun w h => hts w (List.mem_cons_of_mem _ h)
  have hl : lv_has ls 7 [(0, .ref h), (1, .int (nI v)), (2, .int (nI t))] := hl
  refine lv_aload_n hx hb d_Md_after_0 rfl (lv_at hl 0 rfl) ?_
  refine lv_iload_n hx hb d_Md_after_1 rfl (lv_at hl 1 rfl) ?_
  refine ck_v (wc := [(h, .inr (5, [.int (nI th), .int (nI n), .ref a1, .ref a2, .ref a3, .ref a4, .int (nI wi), .int (nI bu), .int (nI L), .ref c1, .int (nI ax), .int (nI va), .int (nI sl), .int cv, .int (nI me), .ref b1, .ref b2, .int (nI L2), .ref c2, .int (nI mn), .ref r1, .ref r2, .ref z1, .ref n1, .ref t1])), (n1, .inl (cI, 4, .inl (wA nu))), (r2, .inl (cI, 10, .inl (wA ru)))]) (va_runV (As := [.int (nI v)]) (rest := []) (C := R_Md) ⟨hx, hb, hml, hown, ht⟩ (c_Md_open l Hs D cI cZ cL h a1 a2 a3 a4 c1 b1 b2 c2 r1 r2 z1 n1 t1 th n wi bu L ax va sl me L2 mn cv ru nu v hmn hru hv H.size) (gw_V 1 ht wd_1041 wd_5 wd_1038 wd_1040 ws_41 (by decide +kernel) ⟨Nat.le_of_ble_eq_true rfl, Nat.le_of_ble_eq_true rfl⟩) (k_preV hE hAH hK hP hD hS [0, 1, 2] rfl rfl 0 rfl rfl) rfl rfl hl.1 rfl (lv_room (Nat.le_of_ble_eq_true rfl)) d_Md_after_2 ⟨Nat.le_of_ble_eq_true rfl, Nat.le_of_ble_eq_true rfl⟩) hP hD hS hA [0, 1, 2] rfl rfl (fun w1 H locs hpost hP hD hS => ?_)
  obtain ⟨nu2, hnu, rfl⟩ := hpost
  have hP : va_P D kcl [(h, .inr (5, [.int (nI th), .int (nI n), .ref a1, .ref a2, .ref a3, .ref a4, .int (nI wi), .int (nI bu), .int (nI L), .ref c1, .int (nI ax), .int (nI va), .int (nI sl), .int cv, .int (nI me), .ref b1, .ref b2, .int (nI L2), .ref c2, .int (nI mn), .ref r1, .ref r2, .ref z1, .ref n1, .ref t1])), (n1, .inl (cI, 4, .inl (wA nu2))), (r2, .inl (cI, 10, .inl (wA ru)))] H := hP
  have hD : va_D A [(h, .inr (5, [.int (nI th), .int (nI n), .ref a1, .ref a2, .ref a3, .ref a4, .int (nI wi), .int (nI bu), .int (nI L), .ref c1, .int (nI ax), .int (nI va), .int (nI sl), .int cv, .int (nI me), .ref b1, .ref b2, .int (nI L2), .ref c2, .int (nI mn), .ref r1, .ref r2, .ref z1, .ref n1, .ref t1])), (n1, .inl (cI, 4, .inl (wA nu2))), (r2, .inl (cI, 10, .inl (wA ru)))] := hD
  refine lv_iconst (v := nI 0) hx hb d_Md_after_5 (by decide) ?_
  refine lv_istore_n (lv' := [(3, .int (nI 0)), (0, .ref h), (1, .int (nI v)), (2, .int (nI t))]) hx hb d_Md_after_6 rfl hl (by decide) rfl (fun ls hl => ?_)
  refine lv_iconst (v := nI 1) hx hb d_Md_after_7 (by decide) ?_
  refine lv_istore (lv' := [(4, .int (nI 1)), (3, .int (nI 0)), (0, .ref h), (1, .int (nI v)), (2, .int (nI t))]) hx hb d_Md_after_8 hl (by decide) rfl (fun ls hl => ?_)
  refine lv_iconst (v := nI 0) hx hb d_Md_after_10 (by decide) ?_
  refine lv_istore (lv' := [(5, .int (nI 0)), (4, .int (nI 1)), (3, .int (nI 0)), (0, .ref h), (1, .int (nI v)), (2, .int (nI t))]) hx hb d_Md_after_11 hl (by decide) rfl (fun ls hl => ?_)
  have loop13 : ∀ (d : Nat) (k : Nat) (ls : Array Slot) (H : Heap) (locs : List Loc), mn - k = d → (k ≤ mn) → (∀ j, j < k → j ≠ t → pw_dg ru v j ≠ 0) → lv_has ls 7 [(0, .ref h), (1, .int (nI v)), (2, .int (nI t)), (3, .int (nI (pw_en ru (pw_nd ru v t) k))), (4, .int (nI (pw_w ru k))), (5, .int (nI k))] → va_P D kcl [(h, .inr (5, [.int (nI th), .int (nI n), .ref a1, .ref a2, .ref a3, .ref a4, .int (nI wi), .int (nI bu), .int (nI L), .ref c1, .int (nI ax), .int (nI va), .int (nI sl), .int cv, .int (nI me), .ref b1, .ref b2, .int (nI L2), .ref c2, .int (nI mn), .ref r1, .ref r2, .ref z1, .ref n1, .ref t1])), (n1, .inl (cI, 4, .inl (wA nu2))), (r2, .inl (cI, 10, .inl (wA ru)))] H → va_D A [(h, .inr (5, [.int (nI th), .int (nI n), .ref a1, .ref a2, .ref a3, .ref a4, .int (nI wi), .int (nI bu), .int (nI L), .ref c1, .int (nI ax), .int (nI va), .int (nI sl), .int cv, .int (nI me), .ref b1, .ref b2, .int (nI L2), .ref c2, .int (nI mn), .ref r1, .ref r2, .ref z1, .ref n1, .ref t1])), (n1, .inl (cI, 4, .inl (wA nu2))), (r2, .inl (cI, 10, .inl (wA ru)))] → va_S A s.heap H locs → W p l e ({ frames := 1, cells := 0, slots := 0, locals := 23 } : Room) s m args below meth c H locs 0 0 Q (F0 m 13 ls []) := by
    intro d
    induction d using Nat.strongRecOn with
    | ind d ih13 =>
      intro k ls H locs hd13 hk hdo hl hP hD hS
      refine lv_iload hx hb d_Md_after_13 (lv_at hl 5 rfl) ?_
      refine lv_aload_n hx hb d_Md_after_15 rfl (lv_at hl 0 rfl) ?_
      refine va_get (D := D) (ci := 5) (v := .int (nI mn)) (C := R_Md) (T := T_Md) (N := 25) hx hb ht u_Md hown hK hP 0 rfl rfl 19 (by decide) (ht _ wd_914) (fun _ h9 => h9) rfl d_Md_after_16 ?_
      refine wi_ge hx hb d_Md_after_19 rfl (by omega) (by omega) (fun h19 => ?_) (fun h19 => ?_)
      · obtain rfl : mn = k := by omega
        exact absurd (fun j h1 h2 => hdo j h1 h2) hok
      · have hrk := hru k h19
        have hnk := hnu k h19
        have hdk := pw_dg_lt (s := v) hrk.1
        refine lv_iload hx hb d_Md_after_22 (lv_at hl 5 rfl) ?_
        refine lv_iload_n hx hb d_Md_after_24 rfl (lv_at hl 2 rfl) ?_
        refine wi_ne hx hb d_Md_after_25 rfl (by omega) (by omega) (fun h25 => ?_) (fun h25 => ?_)
        · refine lv_aload_n hx hb d_Md_after_38 rfl (lv_at hl 0 rfl) ?_
          refine va_get (D := D) (ci := 5) (v := .ref n1) (C := R_Md) (T := T_Md) (N := 25) hx hb ht u_Md hown hK hP 0 rfl rfl 23 (by decide) (ht _ wd_918) (fun _ h9 => h9) rfl d_Md_after_39 ?_
          refine lv_iload hx hb d_Md_after_42 (lv_at hl 5 rfl) ?_
          refine wi_ald hx hb hK hP 1 0 rfl rfl (by omega) (by omega) d_Md_after_44 ?_
          refine lv_iconst (v := nI 1) hx hb d_Md_after_45 (by decide) ?_
          refine wi_sub hx hb d_Md_after_46 (by omega) ?_
          rw [show nu2 k - 1 = pw_dg ru v k by omega]
          refine lv_istore (lv' := [(6, .int (nI (pw_dg ru v k))), (0, .ref h), (1, .int (nI v)), (2, .int (nI t)), (3, .int (nI (pw_en ru (pw_nd ru v t) k))), (4, .int (nI (pw_w ru k))), (5, .int (nI k))]) hx hb d_Md_after_47 hl (by decide) rfl (fun ls hl => ?_)
          refine lv_iload hx hb d_Md_after_49 (lv_at hl 0 rfl) ?_
          refine wi_if_ne hx hb d_Md_after_51 rfl (by omega) (fun h51 => ?_) (fun h51 => ?_)
          · refine lv_iload_n hx hb d_Md_after_56 rfl (lv_at hl 4 rfl) ?_
            refine lv_iload hx hb d_Md_after_57 (lv_at hl 0 rfl) ?_
            refine lv_iconst (v := nI 1) hx hb d_Md_after_59 (by decide) ?_
            refine wi_sub hx hb d_Md_after_60 (by omega) ?_
            refine lv_iload hx hb d_Md_after_61 (lv_at hl 5 rfl) ?_
            refine wi_mul hx hb d_Md_after_63 ?_
            refine wi_add hx hb d_Md_after_64 ?_
            rw [show pw_en ru (pw_nd ru v t) k + (pw_dg ru v k - 1) * pw_w ru k = pw_en ru (pw_nd ru v t) (k + 1) by show _ = pw_en ru (pw_nd ru v t) k + pw_nd ru v t k * pw_w ru k; unfold pw_nd; rw [if_neg h25]]
            refine lv_istore_n (lv' := [(3, .int (nI (pw_en ru (pw_nd ru v t) (k + 1)))), (6, .int (nI (pw_dg ru v k))), (0, .ref h), (1, .int (nI v)), (2, .int (nI t)), (4, .int (nI (pw_w ru k))), (5, .int (nI k))]) hx hb d_Md_after_65 rfl hl (by decide) rfl (fun ls hl => ?_)
            refine lv_iload hx hb d_Md_after_66 (lv_at hl 5 rfl) ?_
            refine lv_aload_n hx hb d_Md_after_68 rfl (lv_at hl 2 rfl) ?_
            refine va_get (D := D) (ci := 5) (v := .ref r2) (C := R_Md) (T := T_Md) (N := 25) hx hb ht u_Md hown hK hP 0 rfl rfl 21 (by decide) (ht _ wd_916) (fun _ h9 => h9) rfl d_Md_after_69 ?_
            refine lv_iload hx hb d_Md_after_72 (lv_at hl 6 rfl) ?_
            refine wi_ald hx hb hK hP 2 0 rfl rfl (by omega) (by omega) d_Md_after_74 ?_
            refine wi_mul hx hb d_Md_after_75 ?_
            refine lv_istore (lv' := [(4, .int (nI ((pw_w ru k) * (ru k)))), (3, .int (nI (pw_en ru (pw_nd ru v t) (k + 1)))), (6, .int (nI (pw_dg ru v k))), (0, .ref h), (1, .int (nI v)), (2, .int (nI t)), (5, .int (nI k))]) hx hb d_Md_after_76 hl (by decide) rfl (fun ls hl => ?_)
            refine wi_inc (k := 6) (lv' := [(5, .int (nI (k + 1))), (4, .int (nI ((pw_w ru k) * (ru k)))), (3, .int (nI (pw_en ru (pw_nd ru v t) (k + 1)))), (6, .int (nI (pw_dg ru v k))), (0, .ref h), (1, .int (nI v)), (2, .int (nI t))]) hx hb d_Md_after_78 hl rfl (by decide) rfl (fun ls hl => ?_)
            refine lv_goto hx hb d_Md_after_81 rfl ?_
            exact ih13 (mn - (k + 1)) (by omega) (k + 1) ls H locs rfl (by omega) (lt_s hdo (fun z => by omega)) (lv_sub hl [4, 5, 6, 2, 1, 0] rfl) hP hD hS
          · refine lv_iconst (v := -1) hx hb d_Md_after_54 (by decide) ?_
            exact k_reti hQ hx hb hr hlk hAe hK hP hD hS (Nat.le_of_ble_eq_true rfl) (Nat.le_of_ble_eq_true rfl) (Nat.le_of_ble_eq_true rfl) ⟨nu2, rfl, rfl⟩ d_Md_after_55
        · refine lv_aload_n hx hb d_Md_after_28 rfl (lv_at hl 0 rfl) ?_
          refine va_get (D := D) (ci := 5) (v := .ref r2) (C := R_Md) (T := T_Md) (N := 25) hx hb ht u_Md hown hK hP 0 rfl rfl 21 (by decide) (ht _ wd_916) (fun _ h9 => h9) rfl d_Md_after_29 ?_
          refine lv_iload hx hb d_Md_after_32 (lv_at hl 5 rfl) ?_
          refine wi_ald hx hb hK hP 2 0 rfl rfl (by omega) (by omega) d_Md_after_34 ?_
          refine lv_goto hx hb d_Md_after_35 rfl ?_
          refine lv_istore (lv' := [(6, .int (nI (ru k))), (0, .ref h), (1, .int (nI v)), (2, .int (nI t)), (3, .int (nI (pw_en ru (pw_nd ru v t) k))), (4, .int (nI (pw_w ru k))), (5, .int (nI k))]) hx hb d_Md_after_47 hl (by decide) rfl (fun ls hl => ?_)
          refine lv_iload hx hb d_Md_after_49 (lv_at hl 0 rfl) ?_
          refine wi_if_ne hx hb d_Md_after_51 rfl (by omega) (fun h51 => ?_) (fun h51 => ?_)
          · refine lv_iload_n hx hb d_Md_after_56 rfl (lv_at hl 4 rfl) ?_
            refine lv_iload hx hb d_Md_after_57 (lv_at hl 0 rfl) ?_
            refine lv_iconst (v := nI 1) hx hb d_Md_after_59 (by decide) ?_
            refine wi_sub hx hb d_Md_after_60 (by omega) ?_
            refine lv_iload hx hb d_Md_after_61 (lv_at hl 5 rfl) ?_
            refine wi_mul hx hb d_Md_after_63 ?_
            refine wi_add hx hb d_Md_after_64 ?_
            rw [show pw_en ru (pw_nd ru v t) k + (ru k - 1) * pw_w ru k = pw_en ru (pw_nd ru v t) (k + 1) by show _ = pw_en ru (pw_nd ru v t) k + pw_nd ru v t k * pw_w ru k; unfold pw_nd; rw [if_pos h25]]
            refine lv_istore_n (lv' := [(3, .int (nI (pw_en ru (pw_nd ru v t) (k + 1)))), (6, .int (nI (ru k))), (0, .ref h), (1, .int (nI v)), (2, .int (nI t)), (4, .int (nI (pw_w ru k))), (5, .int (nI k))]) hx hb d_Md_after_65 rfl hl (by decide) rfl (fun ls hl => ?_)
            refine lv_iload hx hb d_Md_after_66 (lv_at hl 5 rfl) ?_
            refine lv_aload_n hx hb d_Md_after_68 rfl (lv_at hl 2 rfl) ?_
            refine va_get (D := D) (ci := 5) (v := .ref r2) (C := R_Md) (T := T_Md) (N := 25) hx hb ht u_Md hown hK hP 0 rfl rfl 21 (by decide) (ht _ wd_916) (fun _ h9 => h9) rfl d_Md_after_69 ?_
            refine lv_iload hx hb d_Md_after_72 (lv_at hl 6 rfl) ?_
            refine wi_ald hx hb hK hP 2 0 rfl rfl (by omega) (by omega) d_Md_after_74 ?_
            refine wi_mul hx hb d_Md_after_75 ?_
            refine lv_istore (lv' := [(4, .int (nI ((pw_w ru k) * (ru k)))), (3, .int (nI (pw_en ru (pw_nd ru v t) (k + 1)))), (6, .int (nI (ru k))), (0, .ref h), (1, .int (nI v)), (2, .int (nI t)), (5, .int (nI k))]) hx hb d_Md_after_76 hl (by decide) rfl (fun ls hl => ?_)
            refine wi_inc (k := 6) (lv' := [(5, .int (nI (k + 1))), (4, .int (nI ((pw_w ru k) * (ru k)))), (3, .int (nI (pw_en ru (pw_nd ru v t) (k + 1)))), (6, .int (nI (ru k))), (0, .ref h), (1, .int (nI v)), (2, .int (nI t))]) hx hb d_Md_after_78 hl rfl (by decide) rfl (fun ls hl => ?_)
            refine lv_goto hx hb d_Md_after_81 rfl ?_
            exact ih13 (mn - (k + 1)) (by omega) (k + 1) ls H locs rfl (by omega) (lt_s hdo (fun z => by omega)) (lv_sub hl [4, 5, 6, 2, 1, 0] rfl) hP hD hS
          · refine lv_iconst (v := -1) hx hb d_Md_after_54 (by decide) ?_
            exact k_reti hQ hx hb hr hlk hAe hK hP hD hS (Nat.le_of_ble_eq_true rfl) (Nat.le_of_ble_eq_true rfl) (Nat.le_of_ble_eq_true rfl) ⟨nu2, rfl, rfl⟩ d_Md_after_55
  exact loop13 _ (0) ls H locs rfl (Nat.zero_le _) lt_0 (lv_sub hl [3, 4, 5, 2, 1, 0] rfl) hP hD hS
