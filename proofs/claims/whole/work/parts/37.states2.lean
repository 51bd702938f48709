/-! StateBuilder: turns, the order, the weights. -/
/-- t can be served in v, and a state with a way on comes -/
def sb_ld (K : Nat) (fs fy : Nat → Nat) (v t : Nat) : Prop := pw_ok K fs v t ∧ 0 < fy (pw_nx K fs v t)
/-- in the order so far -/
def sb_so (f2 g : Nat → Nat) (q : Nat → Nat) (k : Nat) : Prop := ∀ i, i < k → g i = q ((pw_srt f2 k).getD i 0)
theorem sb_so_in {f2 g g' q : Nat → Nat} {k at_ : Nat} (h : sb_so f2 g q k) (hat : at_ ≤ k) (hlo : at_ = 0 ∨ f2 ((pw_srt f2 k).getD (at_ - 1) 0) ≤ f2 k) (hhi : ∀ j, at_ ≤ j → j < k → f2 k < f2 ((pw_srt f2 k).getD j 0)) (hin : pw_in g g' k at_ (q k)) : sb_so f2 g' q (k + 1) := by
  have hlen := pw_srt_len (r := f2) k
  have hins := pw_ins_at (r := f2) (k := k) (pw_srt f2 k) at_ (by omega) (fun j hj => by
    rcases hlo with h0 | h0
    · omega
    · by_cases e : j = at_ - 1
      · rw [e]; exact h0
      · have := pw_srt_le (r := f2) (n := k) j (at_ - 1) (by omega) (by omega)
        unfold pw_lt at this
        omega) (fun j h1 h2 => hhi j h1 (by omega))
  intro i hi
  show g' i = q ((pw_ins f2 k (pw_srt f2 k)).getD i 0)
  rw [pw_ins_get (by omega) hins i (by omega)]
  by_cases h1 : i < at_
  · rw [if_pos h1, hin.1 i h1]
    exact h i (by omega)
  · rw [if_neg h1]
    by_cases h2 : i = at_
    · rw [if_pos h2, h2]; exact hin.2.1
    · rw [if_neg h2, show i = (i - 1) + 1 by omega, hin.2.2 (i - 1) (by omega) (by omega), Nat.add_sub_cancel]
      exact h (i - 1) (by omega)
theorem sb_weigh {K : Nat} {gs f2 : Nat → Nat} (h : ∀ i, i < K → gs i = pw_os f2 K i) : pw_w gs K = pw_w f2 K := by rw [pw_w_congr h]; exact pw_os_w f2 K
set_option maxHeartbeats 4000000 in
set_option maxRecDepth 100000 in
theorem c_Sb_leadsToSafe (l : Launch) (Hs : Heap) (D : va_G) (cI cZ cL : ClassId) (h : Nat) (i1 : Nat) (i2 : Nat) (i3 : Nat) (i4 : Nat) (i5 : Nat) (i6 : Nat) (i7 : Nat) (K : Nat) (sc : Nat) (aw : Nat) (uc : Nat) (fs : Nat → Nat) (fw : Nat → Nat) (fy : Nat → Nat) (v : Nat) (t : Nat) (hok : sb_ok K fs fw sc aw) (hv : v < sc) (ht9 : t < K) (hy : ∀ x, x < sc → fy x < 2 ^ 31) : kI l Hs D kcl (ty3 cI cZ cL) y_Sb_leadsToSafe (mws y_Sb_leadsToSafe b_Sb_leadsToSafe 3 (Option.some Jvm.ClassFile.FieldType.boolean)) ({ frames := 2, cells := 0, slots := 0, locals := 45 } : Room) [.ref h, .int (nI v), .int (nI t)] [(h, .inr (3, [.ref i1, .ref i2, .ref i3, .int (nI K), .int (nI sc), .int (nI aw), .ref i4, .ref i5, .int (nI uc), .ref i6, .ref i7])), (i3, .inl (cI, 4, .inl (wA fw))), (i2, .inl (cI, 4, .inl (wA fs))), (i4, .inl (cI, 1500, .inl (wA fy)))] (fun r w => ∃ (r0 : Int32), ((r0 = nI 1 ∧ sb_ld K fs fy v t) ∨ (r0 = nI 0 ∧ ¬ sb_ld K fs fy v t)) ∧ r = r0 ∧ w = [(h, .inr (3, [.ref i1, .ref i2, .ref i3, .int (nI K), .int (nI sc), .int (nI aw), .ref i4, .ref i5, .int (nI uc), .ref i6, .ref i7])), (i3, .inl (cI, 4, .inl (wA fw))), (i2, .inl (cI, 4, .inl (wA fs))), (i4, .inl (cI, 1500, .inl (wA fy)))]) := by
  intro sz
  refine k_of (cc := b_Sb_leadsToSafe) (maxL := 3) (ret := (Option.some Jvm.ClassFile.FieldType.boolean)) (by decide) rfl (Nat.le_of_ble_eq_true rfl) ?_
  intro p e s m args below meth c ls H locs A Q hQ hx hb hml hr hts hown hlk hnm hsz hAe hP hK hD hS hA hE hAH hl
  have ht : ∀ w ∈ mw, w.before args s = true := fun w h => hts w (List.mem_cons_of_mem _ h)
  have hl : lv_has ls 3 [(0, .ref h), (1, .int (nI v)), (2, .int (nI t))] := hl
  refine lv_aload_n hx hb d_Sb_leadsToSafe_0 rfl (lv_at hl 0 rfl) ?_
  refine lv_iload_n hx hb d_Sb_leadsToSafe_1 rfl (lv_at hl 1 rfl) ?_
  refine lv_iload_n hx hb d_Sb_leadsToSafe_2 rfl (lv_at hl 2 rfl) ?_
  refine ck_i (wc := [(h, .inr (3, [.ref i1, .ref i2, .ref i3, .int (nI K), .int (nI sc), .int (nI aw), .ref i4, .ref i5, .int (nI uc), .ref i6, .ref i7])), (i3, .inl (cI, 4, .inl (wA fw))), (i2, .inl (cI, 4, .inl (wA fs)))]) (va_runV (As := [.int (nI v), .int (nI t)]) (rest := []) (C := R_Sb) ⟨hx, hb, hml, hown, ht⟩ (c_Sb_canServe l Hs D cI cZ cL h i1 i2 i3 i4 i5 i6 i7 K sc aw uc fs fw v t hok hv ht9 H.size) (gw_V 2 ht wd_750 wd_25 wd_747 wd_749 ws_24 (by decide +kernel) ⟨Nat.le_of_ble_eq_true rfl, Nat.le_of_ble_eq_true rfl⟩) (k_preV hE hAH hK hP hD hS [0, 1, 2] rfl rfl 0 rfl rfl) rfl rfl hl.1 rfl (lv_room (Nat.le_of_ble_eq_true rfl)) d_Sb_leadsToSafe_3 ⟨Nat.le_of_ble_eq_true rfl, Nat.le_of_ble_eq_true rfl⟩) hP hD hS hA [0, 1, 2] rfl rfl (fun r3 w1 H locs hpost hP hD hS => ?_)
  obtain ⟨r0, hcs, rfl, rfl⟩ := hpost
  have hP : va_P D kcl [(h, .inr (3, [.ref i1, .ref i2, .ref i3, .int (nI K), .int (nI sc), .int (nI aw), .ref i4, .ref i5, .int (nI uc), .ref i6, .ref i7])), (i3, .inl (cI, 4, .inl (wA fw))), (i2, .inl (cI, 4, .inl (wA fs))), (i4, .inl (cI, 1500, .inl (wA fy)))] H := hP
  have hD : va_D A [(h, .inr (3, [.ref i1, .ref i2, .ref i3, .int (nI K), .int (nI sc), .int (nI aw), .ref i4, .ref i5, .int (nI uc), .ref i6, .ref i7])), (i3, .inl (cI, 4, .inl (wA fw))), (i2, .inl (cI, 4, .inl (wA fs))), (i4, .inl (cI, 1500, .inl (wA fy)))] := hD
  refine lv_if_eq hx hb d_Sb_leadsToSafe_6 rfl (fun h6 => ?_) (fun h6 => ?_)
  · have hno : ¬ sb_ld K fs fy v t := by
      rcases hcs with ⟨e, -⟩ | ⟨-, hd⟩
      · rw [e] at h6; exact absurd h6 (by decide)
      · exact fun z => hd z.1
    refine lv_iconst (v := nI 0) hx hb d_Sb_leadsToSafe_27 (by decide) ?_
    exact k_retz hQ hx hb hr hlk hAe hK hP hD hS (Nat.le_of_ble_eq_true rfl) (Nat.le_of_ble_eq_true rfl) (Nat.le_of_ble_eq_true rfl) rfl ⟨nI 0, Or.inr ⟨rfl, hno⟩, rfl, rfl⟩ d_Sb_leadsToSafe_28
  · have hgo : pw_ok K fs v t := by
      rcases hcs with ⟨-, hd⟩ | ⟨e, -⟩
      · exact hd
      · exact absurd e h6
    refine lv_aload_n hx hb d_Sb_leadsToSafe_9 rfl (lv_at hl 0 rfl) ?_
    refine va_get (D := D) (ci := 3) (v := .ref i4) (C := R_Sb) (T := T_Sb) (N := 11) hx hb ht u_Sb hown hK hP 0 rfl rfl 6 (by decide) (ht _ wd_208) (fun _ h9 => h9) rfl d_Sb_leadsToSafe_10 ?_
    refine lv_aload_n hx hb d_Sb_leadsToSafe_13 rfl (lv_at hl 0 rfl) ?_
    refine lv_iload_n hx hb d_Sb_leadsToSafe_14 rfl (lv_at hl 1 rfl) ?_
    refine lv_iload_n hx hb d_Sb_leadsToSafe_15 rfl (lv_at hl 2 rfl) ?_
    refine ck_i (wc := [(h, .inr (3, [.ref i1, .ref i2, .ref i3, .int (nI K), .int (nI sc), .int (nI aw), .ref i4, .ref i5, .int (nI uc), .ref i6, .ref i7])), (i3, .inl (cI, 4, .inl (wA fw))), (i2, .inl (cI, 4, .inl (wA fs)))]) (va_runV (As := [.int (nI v), .int (nI t)]) (rest := [.ref i4]) (C := R_Sb) ⟨hx, hb, hml, hown, ht⟩ (c_Sb_stateAfter l Hs D cI cZ cL h i1 i2 i3 i4 i5 i6 i7 K sc aw uc fs fw v t hok hv ht9 hgo H.size) (gw_V 2 ht wd_754 wd_25 wd_751 wd_753 ws_25 (by decide +kernel) ⟨Nat.le_of_ble_eq_true rfl, Nat.le_of_ble_eq_true rfl⟩) (k_preV hE hAH hK hP hD hS [0, 1, 2] rfl rfl 0 rfl rfl) rfl rfl hl.1 rfl (lv_room (Nat.le_of_ble_eq_true rfl)) d_Sb_leadsToSafe_16 ⟨Nat.le_of_ble_eq_true rfl, Nat.le_of_ble_eq_true rfl⟩) hP hD hS hA [0, 1, 2] rfl rfl (fun r16 w1 H locs hpost hP hD hS => ?_)
    obtain ⟨rfl, rfl⟩ := hpost
    have hP : va_P D kcl [(h, .inr (3, [.ref i1, .ref i2, .ref i3, .int (nI K), .int (nI sc), .int (nI aw), .ref i4, .ref i5, .int (nI uc), .ref i6, .ref i7])), (i3, .inl (cI, 4, .inl (wA fw))), (i2, .inl (cI, 4, .inl (wA fs))), (i4, .inl (cI, 1500, .inl (wA fy)))] H := hP
    have hD : va_D A [(h, .inr (3, [.ref i1, .ref i2, .ref i3, .int (nI K), .int (nI sc), .int (nI aw), .ref i4, .ref i5, .int (nI uc), .ref i6, .ref i7])), (i3, .inl (cI, 4, .inl (wA fw))), (i2, .inl (cI, 4, .inl (wA fs))), (i4, .inl (cI, 1500, .inl (wA fy)))] := hD
    have hnx : pw_nx K fs v t < sc := by rw [hok.2.2.2.2.2.1]; exact pw_nx_lt (sb_pos hok) v t
    have hyn := hy _ hnx
    have hsc := hok.2.2.2.2.2.2
    refine wi_ald hx hb hK hP 3 0 rfl rfl (by omega) (by omega) d_Sb_leadsToSafe_19 ?_
    refine wi_if_le hx hb d_Sb_leadsToSafe_20 rfl (by omega) (fun h20 => ?_) (fun h20 => ?_)
    · have hno : ¬ sb_ld K fs fy v t := fun z => by have := z.2; omega
      refine lv_iconst (v := nI 0) hx hb d_Sb_leadsToSafe_27 (by decide) ?_
      exact k_retz hQ hx hb hr hlk hAe hK hP hD hS (Nat.le_of_ble_eq_true rfl) (Nat.le_of_ble_eq_true rfl) (Nat.le_of_ble_eq_true rfl) rfl ⟨nI 0, Or.inr ⟨rfl, hno⟩, rfl, rfl⟩ d_Sb_leadsToSafe_28
    · refine lv_iconst (v := nI 1) hx hb d_Sb_leadsToSafe_23 (by decide) ?_
      refine lv_goto hx hb d_Sb_leadsToSafe_24 rfl ?_
      exact k_retz hQ hx hb hr hlk hAe hK hP hD hS (Nat.le_of_ble_eq_true rfl) (Nat.le_of_ble_eq_true rfl) (Nat.le_of_ble_eq_true rfl) rfl ⟨nI 1, Or.inl ⟨rfl, hgo, h20⟩, rfl, rfl⟩ d_Sb_leadsToSafe_28
set_option maxHeartbeats 4000000 in
set_option maxRecDepth 100000 in
theorem c_Sb_firstSafeTurn (l : Launch) (Hs : Heap) (D : va_G) (cI cZ cL : ClassId) (h : Nat) (i1 : Nat) (i2 : Nat) (i3 : Nat) (i4 : Nat) (i5 : Nat) (i6 : Nat) (i7 : Nat) (K : Nat) (sc : Nat) (aw : Nat) (uc : Nat) (fs : Nat → Nat) (fw : Nat → Nat) (fy : Nat → Nat) (v : Nat) (hok : sb_ok K fs fw sc aw) (hv : v < sc) (hy : ∀ x, x < sc → fy x < 2 ^ 31) : kI l Hs D kcl (ty3 cI cZ cL) y_Sb_firstSafeTurn (mws y_Sb_firstSafeTurn b_Sb_firstSafeTurn 3 (Option.some Jvm.ClassFile.FieldType.int)) ({ frames := 3, cells := 0, slots := 0, locals := 67 } : Room) [.ref h, .int (nI v)] [(h, .inr (3, [.ref i1, .ref i2, .ref i3, .int (nI K), .int (nI sc), .int (nI aw), .ref i4, .ref i5, .int (nI uc), .ref i6, .ref i7])), (i3, .inl (cI, 4, .inl (wA fw))), (i2, .inl (cI, 4, .inl (wA fs))), (i4, .inl (cI, 1500, .inl (wA fy)))] (fun r w => ∃ (t : Nat), (t < K) ∧ ((t + 1 = K ∨ sb_ld K fs fy v t)) ∧ ((∀ j, j < t → ¬ sb_ld K fs fy v j)) ∧ r = nI t ∧ w = [(h, .inr (3, [.ref i1, .ref i2, .ref i3, .int (nI K), .int (nI sc), .int (nI aw), .ref i4, .ref i5, .int (nI uc), .ref i6, .ref i7])), (i3, .inl (cI, 4, .inl (wA fw))), (i2, .inl (cI, 4, .inl (wA fs))), (i4, .inl (cI, 1500, .inl (wA fy)))]) := by
  intro sz
  refine k_of (cc := b_Sb_firstSafeTurn) (maxL := 3) (ret := (Option.some Jvm.ClassFile.FieldType.int)) (by decide) rfl (Nat.le_of_ble_eq_true rfl) ?_
  intro p e s m args below meth c ls H locs A Q hQ hx hb hml hr hts hown hlk hnm hsz hAe hP hK hD hS hA hE hAH hl
  have ht : ∀ w ∈ mw, w.before args s = true := fun w h => hts w (List.mem_cons_of_mem _ h)
  have hl : lv_has ls 3 [(0, .ref h), (1, .int (nI v))] := hl
  refine lv_iconst (v := nI 0) hx hb d_Sb_firstSafeTurn_0 (by decide) ?_
  refine lv_istore_n (lv' := [(2, .int (nI 0)), (0, .ref h), (1, .int (nI v))]) hx hb d_Sb_firstSafeTurn_1 rfl hl (by decide) rfl (fun ls hl => ?_)
  have loop2 : ∀ (d : Nat) (k : Nat) (ls : Array Slot) (H : Heap) (locs : List Loc), K - k = d → (k < K) → (∀ j, j < k → ¬ sb_ld K fs fy v j) → lv_has ls 3 [(0, .ref h), (1, .int (nI v)), (2, .int (nI k))] → va_P D kcl [(h, .inr (3, [.ref i1, .ref i2, .ref i3, .int (nI K), .int (nI sc), .int (nI aw), .ref i4, .ref i5, .int (nI uc), .ref i6, .ref i7])), (i3, .inl (cI, 4, .inl (wA fw))), (i2, .inl (cI, 4, .inl (wA fs))), (i4, .inl (cI, 1500, .inl (wA fy)))] H → va_D A [(h, .inr (3, [.ref i1, .ref i2, .ref i3, .int (nI K), .int (nI sc), .int (nI aw), .ref i4, .ref i5, .int (nI uc), .ref i6, .ref i7])), (i3, .inl (cI, 4, .inl (wA fw))), (i2, .inl (cI, 4, .inl (wA fs))), (i4, .inl (cI, 1500, .inl (wA fy)))] → va_S A s.heap H locs → W p l e ({ frames := 3, cells := 0, slots := 0, locals := 67 } : Room) s m args below meth c H locs 0 0 Q (F0 m 2 ls []) := by
    intro d
    induction d using Nat.strongRecOn with
    | ind d ih2 =>
      intro k ls H locs hd2 hk hno hl hP hD hS
      have hK4 := hok.2.1
      refine lv_iload_n hx hb d_Sb_firstSafeTurn_2 rfl (lv_at hl 2 rfl) ?_
      refine lv_aload_n hx hb d_Sb_firstSafeTurn_3 rfl (lv_at hl 0 rfl) ?_
      refine va_get (D := D) (ci := 3) (v := .int (nI K)) (C := R_Sb) (T := T_Sb) (N := 11) hx hb ht u_Sb hown hK hP 0 rfl rfl 3 (by decide) (ht _ wd_205) (fun _ h9 => h9) rfl d_Sb_firstSafeTurn_4 ?_
      refine lv_iconst (v := nI 1) hx hb d_Sb_firstSafeTurn_7 (by decide) ?_
      refine wi_sub hx hb d_Sb_firstSafeTurn_8 (by omega) ?_
      refine wi_ge hx hb d_Sb_firstSafeTurn_9 rfl (by omega) (by omega) (fun h9 => ?_) (fun h9 => ?_)
      · refine lv_iload_n hx hb d_Sb_firstSafeTurn_27 rfl (lv_at hl 2 rfl) ?_
        exact k_reti hQ hx hb hr hlk hAe hK hP hD hS (Nat.le_of_ble_eq_true rfl) (Nat.le_of_ble_eq_true rfl) (Nat.le_of_ble_eq_true rfl) ⟨k, hk, Or.inl (by omega), hno, rfl, rfl⟩ d_Sb_firstSafeTurn_28
      · refine lv_aload_n hx hb d_Sb_firstSafeTurn_12 rfl (lv_at hl 0 rfl) ?_
        refine lv_iload_n hx hb d_Sb_firstSafeTurn_13 rfl (lv_at hl 1 rfl) ?_
        refine lv_iload_n hx hb d_Sb_firstSafeTurn_14 rfl (lv_at hl 2 rfl) ?_
        refine ck_i (wc := [(h, .inr (3, [.ref i1, .ref i2, .ref i3, .int (nI K), .int (nI sc), .int (nI aw), .ref i4, .ref i5, .int (nI uc), .ref i6, .ref i7])), (i3, .inl (cI, 4, .inl (wA fw))), (i2, .inl (cI, 4, .inl (wA fs))), (i4, .inl (cI, 1500, .inl (wA fy)))]) (va_runV (As := [.int (nI v), .int (nI k)]) (rest := []) (C := R_Sb) ⟨hx, hb, hml, hown, ht⟩ (c_Sb_leadsToSafe l Hs D cI cZ cL h i1 i2 i3 i4 i5 i6 i7 K sc aw uc fs fw fy v k hok hv hk hy H.size) (gw_V 2 ht wd_746 wd_25 wd_743 wd_745 ws_23 (by decide +kernel) ⟨Nat.le_of_ble_eq_true rfl, Nat.le_of_ble_eq_true rfl⟩) (k_preV hE hAH hK hP hD hS [0, 1, 2, 3] rfl rfl 0 rfl rfl) rfl rfl hl.1 rfl (lv_room (Nat.le_of_ble_eq_true rfl)) d_Sb_firstSafeTurn_15 ⟨Nat.le_of_ble_eq_true rfl, Nat.le_of_ble_eq_true rfl⟩) hP hD hS hA [0, 1, 2, 3] rfl rfl (fun r15 w1 H locs hpost hP hD hS => ?_)
        obtain ⟨r0, hld, rfl, rfl⟩ := hpost
        have hP : va_P D kcl [(h, .inr (3, [.ref i1, .ref i2, .ref i3, .int (nI K), .int (nI sc), .int (nI aw), .ref i4, .ref i5, .int (nI uc), .ref i6, .ref i7])), (i3, .inl (cI, 4, .inl (wA fw))), (i2, .inl (cI, 4, .inl (wA fs))), (i4, .inl (cI, 1500, .inl (wA fy)))] H := hP
        have hD : va_D A [(h, .inr (3, [.ref i1, .ref i2, .ref i3, .int (nI K), .int (nI sc), .int (nI aw), .ref i4, .ref i5, .int (nI uc), .ref i6, .ref i7])), (i3, .inl (cI, 4, .inl (wA fw))), (i2, .inl (cI, 4, .inl (wA fs))), (i4, .inl (cI, 1500, .inl (wA fy)))] := hD
        refine lv_if_ne hx hb d_Sb_firstSafeTurn_18 rfl (fun h18 => ?_) (fun h18 => ?_)
        · have hyk : sb_ld K fs fy v k := by
            rcases hld with ⟨-, hd⟩ | ⟨e, -⟩
            · exact hd
            · exact absurd e h18
          refine lv_iload_n hx hb d_Sb_firstSafeTurn_27 rfl (lv_at hl 2 rfl) ?_
          exact k_reti hQ hx hb hr hlk hAe hK hP hD hS (Nat.le_of_ble_eq_true rfl) (Nat.le_of_ble_eq_true rfl) (Nat.le_of_ble_eq_true rfl) ⟨k, hk, Or.inr hyk, hno, rfl, rfl⟩ d_Sb_firstSafeTurn_28
        · have hnk : ¬ sb_ld K fs fy v k := by
            rcases hld with ⟨e, -⟩ | ⟨-, hd⟩
            · rw [e] at h18; exact absurd h18 (by decide)
            · exact hd
          refine wi_inc (k := 2) (lv' := [(2, .int (nI (k + 1))), (0, .ref h), (1, .int (nI v))]) hx hb d_Sb_firstSafeTurn_21 hl rfl (by decide) rfl (fun ls hl => ?_)
          refine lv_goto hx hb d_Sb_firstSafeTurn_24 rfl ?_
          exact ih2 (K - (k + 1)) (by omega) (k + 1) ls H locs rfl (by omega) (lt_s hno hnk) (lv_sub hl [1, 2, 0] rfl) hP hD hS
  exact loop2 _ (0) ls H locs rfl hok.1 lt_0 (lv_sub hl [1, 2, 0] rfl) hP hD hS
set_option maxHeartbeats 4000000 in
set_option maxRecDepth 100000 in
theorem c_Sb_weigh (l : Launch) (Hs : Heap) (D : va_G) (cI cZ cL : ClassId) (h : Nat) (i1 : Nat) (i2 : Nat) (i3 : Nat) (i4 : Nat) (i5 : Nat) (i6 : Nat) (i7 : Nat) (K : Nat) (sc : Nat) (aw : Nat) (uc : Nat) (fs : Nat → Nat) (fw : Nat → Nat) (hK4 : K ≤ 4) (hs : ∀ k, k < K → 0 < fs k ∧ fs k ≤ 40) : kV l Hs D kcl (ty3 cI cZ cL) y_Sb_weigh (mws y_Sb_weigh b_Sb_weigh 3 (Option.none : Option Jvm.ClassFile.FieldType)) ({ frames := 0, cells := 0, slots := 0, locals := 0 } : Room) [.ref h] [(h, .inr (3, [.ref i1, .ref i2, .ref i3, .int (nI K), .int (nI sc), .int (nI aw), .ref i4, .ref i5, .int (nI uc), .ref i6, .ref i7])), (i2, .inl (cI, 4, .inl (wA fs))), (i3, .inl (cI, 4, .inl (wA fw)))] (fun w => ∃ (gw : Nat → Nat), (∀ k, k < K → gw k = pw_w fs k) ∧ w = [(h, .inr (3, [.ref i1, .ref i2, .ref i3, .int (nI K), .int (nI sc), .int (nI (pw_sw fs K)), .ref i4, .ref i5, .int (nI uc), .ref i6, .ref i7])), (i2, .inl (cI, 4, .inl (wA fs))), (i3, .inl (cI, 4, .inl (wA gw)))]) := by
  intro sz
  refine k_of (cc := b_Sb_weigh) (maxL := 3) (ret := (Option.none : Option Jvm.ClassFile.FieldType)) (by decide) rfl (Nat.le_of_ble_eq_true rfl) ?_
  intro p e s m args below meth c ls H locs A Q hQ hx hb hml hr hts hown hlk hnm hsz hAe hP hK hD hS hA hE hAH hl
  have ht : ∀ w ∈ mw, w.before args s = true := fun w h => hts w (List.mem_cons_of_mem _ h)
  have hl : lv_has ls 3 [(0, .ref h)] := hl
  refine lv_iconst (v := nI 1) hx hb d_Sb_weigh_0 (by decide) ?_
  refine lv_istore_n (lv' := [(1, .int (nI 1)), (0, .ref h)]) hx hb d_Sb_weigh_1 rfl hl (by decide) rfl (fun ls hl => ?_)
  refine lv_aload_n hx hb d_Sb_weigh_2 rfl (lv_at hl 1 rfl) ?_
  refine lv_iconst (v := nI 0) hx hb d_Sb_weigh_3 (by decide) ?_
  refine va_put (D := D) (ci := 3) (v := .int (nI 0)) (ty := .int) (C := R_Sb) (T := T_Sb) (N := 11) hx hb ht u_Sb t_Sb t_Sb_ok n_Sb hown hK hP hD hS 0 rfl rfl 5 (by decide) (ht _ wd_207) (fun _ h9 => h9) rfl (by decide +kernel) rfl rfl (Nat.le_of_ble_eq_true rfl) d_Sb_weigh_4 (fun H locs hP hD hS => ?_)
  have hP : va_P D kcl [(h, .inr (3, [.ref i1, .ref i2, .ref i3, .int (nI K), .int (nI sc), .int (nI 0), .ref i4, .ref i5, .int (nI uc), .ref i6, .ref i7])), (i2, .inl (cI, 4, .inl (wA fs))), (i3, .inl (cI, 4, .inl (wA fw)))] H := hP
  have hD : va_D A [(h, .inr (3, [.ref i1, .ref i2, .ref i3, .int (nI K), .int (nI sc), .int (nI 0), .ref i4, .ref i5, .int (nI uc), .ref i6, .ref i7])), (i2, .inl (cI, 4, .inl (wA fs))), (i3, .inl (cI, 4, .inl (wA fw)))] := hD
  refine lv_iconst (v := nI 0) hx hb d_Sb_weigh_7 (by decide) ?_
  refine lv_istore_n (lv' := [(2, .int (nI 0)), (1, .int (nI 1)), (0, .ref h)]) hx hb d_Sb_weigh_8 rfl hl (by decide) rfl (fun ls hl => ?_)
  have loop9 : ∀ (d : Nat) (k : Nat) (gw : Nat → Nat) (ls : Array Slot) (H : Heap) (locs : List Loc), K - k = d → (k ≤ K) → (∀ j, j < k → gw j = pw_w fs j) → lv_has ls 3 [(0, .ref h), (1, .int (nI (pw_w fs k))), (2, .int (nI k))] → va_P D kcl [(h, .inr (3, [.ref i1, .ref i2, .ref i3, .int (nI K), .int (nI sc), .int (nI (pw_sw fs k)), .ref i4, .ref i5, .int (nI uc), .ref i6, .ref i7])), (i2, .inl (cI, 4, .inl (wA fs))), (i3, .inl (cI, 4, .inl (wA gw)))] H → va_D A [(h, .inr (3, [.ref i1, .ref i2, .ref i3, .int (nI K), .int (nI sc), .int (nI (pw_sw fs k)), .ref i4, .ref i5, .int (nI uc), .ref i6, .ref i7])), (i2, .inl (cI, 4, .inl (wA fs))), (i3, .inl (cI, 4, .inl (wA gw)))] → va_S A s.heap H locs → W p l e ({ frames := 0, cells := 0, slots := 0, locals := 0 } : Room) s m args below meth c H locs 0 0 Q (F0 m 9 ls []) := by
    intro d
    induction d using Nat.strongRecOn with
    | ind d ih9 =>
      intro k gw ls H locs hd9 hk hg hl hP hD hS
      refine lv_iload_n hx hb d_Sb_weigh_9 rfl (lv_at hl 2 rfl) ?_
      refine lv_aload_n hx hb d_Sb_weigh_10 rfl (lv_at hl 0 rfl) ?_
      refine va_get (D := D) (ci := 3) (v := .int (nI K)) (C := R_Sb) (T := T_Sb) (N := 11) hx hb ht u_Sb hown hK hP 0 rfl rfl 3 (by decide) (ht _ wd_205) (fun _ h9 => h9) rfl d_Sb_weigh_11 ?_
      refine wi_ge hx hb d_Sb_weigh_14 rfl (by omega) (by omega) (fun h14 => ?_) (fun h14 => ?_)
      · obtain rfl : K = k := by omega
        exact k_retv hQ hx hb hr hlk hAe hK hP hD hS (Nat.le_of_ble_eq_true rfl) (Nat.le_of_ble_eq_true rfl) (Nat.le_of_ble_eq_true rfl) ⟨gw, hg, rfl⟩ d_Sb_weigh_49
      · refine lv_aload_n hx hb d_Sb_weigh_17 rfl (lv_at hl 0 rfl) ?_
        refine va_get (D := D) (ci := 3) (v := .ref i3) (C := R_Sb) (T := T_Sb) (N := 11) hx hb ht u_Sb hown hK hP 0 rfl rfl 2 (by decide) (ht _ wd_204) (fun _ h9 => h9) rfl d_Sb_weigh_18 ?_
        refine lv_iload_n hx hb d_Sb_weigh_21 rfl (lv_at hl 2 rfl) ?_
        refine lv_iload_n hx hb d_Sb_weigh_22 rfl (lv_at hl 1 rfl) ?_
        refine wi_ast hx hb hK hP hD hS 2 0 rfl rfl (by omega) (by omega) d_Sb_weigh_23 (fun H locs hP hD hS => ?_)
        have hP : va_P D kcl [(h, .inr (3, [.ref i1, .ref i2, .ref i3, .int (nI K), .int (nI sc), .int (nI (pw_sw fs k)), .ref i4, .ref i5, .int (nI uc), .ref i6, .ref i7])), (i2, .inl (cI, 4, .inl (wA fs))), (i3, .inl (cI, 4, .inl (wA (va_up gw k (pw_w fs k)))))] H := hP
        have hD : va_D A [(h, .inr (3, [.ref i1, .ref i2, .ref i3, .int (nI K), .int (nI sc), .int (nI (pw_sw fs k)), .ref i4, .ref i5, .int (nI uc), .ref i6, .ref i7])), (i2, .inl (cI, 4, .inl (wA fs))), (i3, .inl (cI, 4, .inl (wA (va_up gw k (pw_w fs k)))))] := hD
        refine lv_aload_n hx hb d_Sb_weigh_24 rfl (lv_at hl 0 rfl) ?_
        refine lv_dup hx hb d_Sb_weigh_25 rfl ?_
        refine va_get (D := D) (ci := 3) (v := .int (nI (pw_sw fs k))) (C := R_Sb) (T := T_Sb) (N := 11) hx hb ht u_Sb hown hK hP 0 rfl rfl 5 (by decide) (ht _ wd_207) (fun _ h9 => h9) rfl d_Sb_weigh_26 ?_
        refine lv_iload_n hx hb d_Sb_weigh_29 rfl (lv_at hl 1 rfl) ?_
        refine wi_add hx hb d_Sb_weigh_30 ?_
        refine va_put (D := D) (ci := 3) (v := .int (nI ((pw_sw fs k) + (pw_w fs k)))) (ty := .int) (C := R_Sb) (T := T_Sb) (N := 11) hx hb ht u_Sb t_Sb t_Sb_ok n_Sb hown hK hP hD hS 0 rfl rfl 5 (by decide) (ht _ wd_207) (fun _ h9 => h9) rfl (by decide +kernel) rfl rfl (Nat.le_of_ble_eq_true rfl) d_Sb_weigh_31 (fun H locs hP hD hS => ?_)
        have hP : va_P D kcl [(h, .inr (3, [.ref i1, .ref i2, .ref i3, .int (nI K), .int (nI sc), .int (nI ((pw_sw fs k) + (pw_w fs k))), .ref i4, .ref i5, .int (nI uc), .ref i6, .ref i7])), (i2, .inl (cI, 4, .inl (wA fs))), (i3, .inl (cI, 4, .inl (wA (va_up gw k (pw_w fs k)))))] H := hP
        have hD : va_D A [(h, .inr (3, [.ref i1, .ref i2, .ref i3, .int (nI K), .int (nI sc), .int (nI ((pw_sw fs k) + (pw_w fs k))), .ref i4, .ref i5, .int (nI uc), .ref i6, .ref i7])), (i2, .inl (cI, 4, .inl (wA fs))), (i3, .inl (cI, 4, .inl (wA (va_up gw k (pw_w fs k)))))] := hD
        refine lv_iload_n hx hb d_Sb_weigh_34 rfl (lv_at hl 1 rfl) ?_
        refine lv_aload_n hx hb d_Sb_weigh_35 rfl (lv_at hl 0 rfl) ?_
        refine va_get (D := D) (ci := 3) (v := .ref i2) (C := R_Sb) (T := T_Sb) (N := 11) hx hb ht u_Sb hown hK hP 0 rfl rfl 1 (by decide) (ht _ wd_203) (fun _ h9 => h9) rfl d_Sb_weigh_36 ?_
        refine lv_iload_n hx hb d_Sb_weigh_39 rfl (lv_at hl 2 rfl) ?_
        refine wi_ald hx hb hK hP 1 0 rfl rfl (by omega) (by omega) d_Sb_weigh_40 ?_
        refine wi_mul hx hb d_Sb_weigh_41 ?_
        refine lv_istore_n (lv' := [(1, .int (nI ((pw_w fs k) * (fs k)))), (0, .ref h), (2, .int (nI k))]) hx hb d_Sb_weigh_42 rfl hl (by decide) rfl (fun ls hl => ?_)
        refine wi_inc (k := 2) (lv' := [(2, .int (nI (k + 1))), (1, .int (nI ((pw_w fs k) * (fs k)))), (0, .ref h)]) hx hb d_Sb_weigh_43 hl rfl (by decide) rfl (fun ls hl => ?_)
        refine lv_goto hx hb d_Sb_weigh_46 rfl ?_
        exact ih9 (K - (k + 1)) (by omega) (k + 1) (va_up gw k (pw_w fs k)) ls H locs rfl (by omega) (up_lt hg) (lv_sub hl [2, 1, 0] rfl) hP hD hS
  exact loop9 _ (0) (fw) ls H locs rfl (Nat.zero_le _) lt_0 (lv_sub hl [2, 1, 0] rfl) hP hD hS
set_option maxHeartbeats 4000000 in
set_option maxRecDepth 100000 in
theorem c_Sb_takeInOrder (l : Launch) (Hs : Heap) (D : va_G) (cI cZ cL : ClassId) (h : Nat) (i1 : Nat) (i2 : Nat) (i3 : Nat) (i4 : Nat) (i5 : Nat) (i6 : Nat) (i7 : Nat) (K : Nat) (sc : Nat) (aw : Nat) (uc : Nat) (fi : Nat → Nat) (fs : Nat → Nat) (co : Nat) (a1 : Nat) (a2 : Nat) (a3 : Nat) (a4 : Nat) (n : Nat) (f1 : Nat → Nat) (f2 : Nat → Nat) (hn : n ≤ 4) (hf2 : ∀ t, t < n → f2 t ≤ 40) : kV l Hs D kcl (ty3 cI cZ cL) y_Sb_takeInOrder (mws y_Sb_takeInOrder b_Sb_takeInOrder 4 (Option.none : Option Jvm.ClassFile.FieldType)) ({ frames := 1, cells := 0, slots := 0, locals := 21 } : Room) [.ref h, .ref co] [(h, .inr (3, [.ref i1, .ref i2, .ref i3, .int (nI K), .int (nI sc), .int (nI aw), .ref i4, .ref i5, .int (nI uc), .ref i6, .ref i7])), (i1, .inl (cI, 4, .inl (wA fi))), (i2, .inl (cI, 4, .inl (wA fs))), (co, .inr (0, [.ref a1, .ref a2, .ref a3, .ref a4, .int (nI n)])), (a1, .inl (cI, 10, .inl (wA f1))), (a2, .inl (cI, 10, .inl (wA f2)))] (fun w => ∃ (gi : Nat → Nat), ∃ (gs : Nat → Nat), (∀ i, i < n → gi i = pw_oi f1 f2 n i) ∧ (∀ i, i < n → gs i = pw_os f2 n i) ∧ w = [(h, .inr (3, [.ref i1, .ref i2, .ref i3, .int (nI n), .int (nI sc), .int (nI aw), .ref i4, .ref i5, .int (nI uc), .ref i6, .ref i7])), (i1, .inl (cI, 4, .inl (wA gi))), (i2, .inl (cI, 4, .inl (wA gs))), (co, .inr (0, [.ref a1, .ref a2, .ref a3, .ref a4, .int (nI n)])), (a1, .inl (cI, 10, .inl (wA f1))), (a2, .inl (cI, 10, .inl (wA f2)))]) := by
  intro sz
  refine k_of (cc := b_Sb_takeInOrder) (maxL := 4) (ret := (Option.none : Option Jvm.ClassFile.FieldType)) (by decide) rfl (Nat.le_of_ble_eq_true rfl) ?_
  intro p e s m args below meth c ls H locs A Q hQ hx hb hml hr hts hown hlk hnm hsz hAe hP hK hD hS hA hE hAH hl
  have ht : ∀ w ∈ mw, w.before args s = true := fun w h => hts w (List.mem_cons_of_mem _ h)
  have hl : lv_has ls 4 [(0, .ref h), (1, .ref co)] := hl
  refine lv_aload_n hx hb d_Sb_takeInOrder_0 rfl (lv_at hl 0 rfl) ?_
  refine lv_aload_n hx hb d_Sb_takeInOrder_1 rfl (lv_at hl 1 rfl) ?_
  refine ck_i (wc := [(co, .inr (0, [.ref a1, .ref a2, .ref a3, .ref a4, .int (nI n)]))]) (va_runV (As := []) (rest := [.ref h]) (C := R_Cl) ⟨hx, hb, hml, hown, ht⟩ (c_Cl_count l Hs D cI cZ cL co a1 a2 a3 a4 n  H.size) (gw_V 0 ht wd_149 wd_3 wd_240 wd_147 wd_148 (by decide +kernel) ⟨Nat.le_of_ble_eq_true rfl, Nat.le_of_ble_eq_true rfl⟩) (k_preV hE hAH hK hP hD hS [3] rfl rfl 3 rfl rfl) rfl rfl hl.1 rfl (lv_room (Nat.le_of_ble_eq_true rfl)) d_Sb_takeInOrder_2 ⟨Nat.le_of_ble_eq_true rfl, Nat.le_of_ble_eq_true rfl⟩) hP hD hS hA [3] rfl rfl (fun r2 w1 H locs hpost hP hD hS => ?_)
  obtain ⟨rfl, rfl⟩ := hpost
  have hP : va_P D kcl [(h, .inr (3, [.ref i1, .ref i2, .ref i3, .int (nI K), .int (nI sc), .int (nI aw), .ref i4, .ref i5, .int (nI uc), .ref i6, .ref i7])), (i1, .inl (cI, 4, .inl (wA fi))), (i2, .inl (cI, 4, .inl (wA fs))), (co, .inr (0, [.ref a1, .ref a2, .ref a3, .ref a4, .int (nI n)])), (a1, .inl (cI, 10, .inl (wA f1))), (a2, .inl (cI, 10, .inl (wA f2)))] H := hP
  have hD : va_D A [(h, .inr (3, [.ref i1, .ref i2, .ref i3, .int (nI K), .int (nI sc), .int (nI aw), .ref i4, .ref i5, .int (nI uc), .ref i6, .ref i7])), (i1, .inl (cI, 4, .inl (wA fi))), (i2, .inl (cI, 4, .inl (wA fs))), (co, .inr (0, [.ref a1, .ref a2, .ref a3, .ref a4, .int (nI n)])), (a1, .inl (cI, 10, .inl (wA f1))), (a2, .inl (cI, 10, .inl (wA f2)))] := hD
  refine va_put (D := D) (ci := 3) (v := .int (nI n)) (ty := .int) (C := R_Sb) (T := T_Sb) (N := 11) hx hb ht u_Sb t_Sb t_Sb_ok n_Sb hown hK hP hD hS 0 rfl rfl 3 (by decide) (ht _ wd_205) (fun _ h9 => h9) rfl (by decide +kernel) rfl rfl (Nat.le_of_ble_eq_true rfl) d_Sb_takeInOrder_5 (fun H locs hP hD hS => ?_)
  have hP : va_P D kcl [(h, .inr (3, [.ref i1, .ref i2, .ref i3, .int (nI n), .int (nI sc), .int (nI aw), .ref i4, .ref i5, .int (nI uc), .ref i6, .ref i7])), (i1, .inl (cI, 4, .inl (wA fi))), (i2, .inl (cI, 4, .inl (wA fs))), (co, .inr (0, [.ref a1, .ref a2, .ref a3, .ref a4, .int (nI n)])), (a1, .inl (cI, 10, .inl (wA f1))), (a2, .inl (cI, 10, .inl (wA f2)))] H := hP
  have hD : va_D A [(h, .inr (3, [.ref i1, .ref i2, .ref i3, .int (nI n), .int (nI sc), .int (nI aw), .ref i4, .ref i5, .int (nI uc), .ref i6, .ref i7])), (i1, .inl (cI, 4, .inl (wA fi))), (i2, .inl (cI, 4, .inl (wA fs))), (co, .inr (0, [.ref a1, .ref a2, .ref a3, .ref a4, .int (nI n)])), (a1, .inl (cI, 10, .inl (wA f1))), (a2, .inl (cI, 10, .inl (wA f2)))] := hD
  refine lv_iconst (v := nI 0) hx hb d_Sb_takeInOrder_8 (by decide) ?_
  refine lv_istore_n (lv' := [(2, .int (nI 0)), (0, .ref h), (1, .ref co)]) hx hb d_Sb_takeInOrder_9 rfl hl (by decide) rfl (fun ls hl => ?_)
  have loop10 : ∀ (d : Nat) (k : Nat) (gi : Nat → Nat) (gs : Nat → Nat) (ls : Array Slot) (H : Heap) (locs : List Loc), n - k = d → (k ≤ n) → (sb_so f2 gi f1 k) → (sb_so f2 gs f2 k) → lv_has ls 4 [(0, .ref h), (1, .ref co), (2, .int (nI k))] → va_P D kcl [(h, .inr (3, [.ref i1, .ref i2, .ref i3, .int (nI n), .int (nI sc), .int (nI aw), .ref i4, .ref i5, .int (nI uc), .ref i6, .ref i7])), (i1, .inl (cI, 4, .inl (wA gi))), (i2, .inl (cI, 4, .inl (wA gs))), (co, .inr (0, [.ref a1, .ref a2, .ref a3, .ref a4, .int (nI n)])), (a1, .inl (cI, 10, .inl (wA f1))), (a2, .inl (cI, 10, .inl (wA f2)))] H → va_D A [(h, .inr (3, [.ref i1, .ref i2, .ref i3, .int (nI n), .int (nI sc), .int (nI aw), .ref i4, .ref i5, .int (nI uc), .ref i6, .ref i7])), (i1, .inl (cI, 4, .inl (wA gi))), (i2, .inl (cI, 4, .inl (wA gs))), (co, .inr (0, [.ref a1, .ref a2, .ref a3, .ref a4, .int (nI n)])), (a1, .inl (cI, 10, .inl (wA f1))), (a2, .inl (cI, 10, .inl (wA f2)))] → va_S A s.heap H locs → W p l e ({ frames := 1, cells := 0, slots := 0, locals := 21 } : Room) s m args below meth c H locs 0 0 Q (F0 m 10 ls []) := by
    intro d
    induction d using Nat.strongRecOn with
    | ind d ih10 =>
      intro k gi gs ls H locs hd10 hk hgi hgs hl hP hD hS
      refine lv_iload_n hx hb d_Sb_takeInOrder_10 rfl (lv_at hl 2 rfl) ?_
      refine lv_aload_n hx hb d_Sb_takeInOrder_11 rfl (lv_at hl 0 rfl) ?_
      refine va_get (D := D) (ci := 3) (v := .int (nI n)) (C := R_Sb) (T := T_Sb) (N := 11) hx hb ht u_Sb hown hK hP 0 rfl rfl 3 (by decide) (ht _ wd_205) (fun _ h9 => h9) rfl d_Sb_takeInOrder_12 ?_
      refine wi_ge hx hb d_Sb_takeInOrder_15 rfl (by omega) (by omega) (fun h15 => ?_) (fun h15 => ?_)
      · obtain rfl : n = k := by omega
        exact k_retv hQ hx hb hr hlk hAe hK hP hD hS (Nat.le_of_ble_eq_true rfl) (Nat.le_of_ble_eq_true rfl) (Nat.le_of_ble_eq_true rfl) ⟨gi, gs, hgi, hgs, rfl⟩ d_Sb_takeInOrder_102
      · have hf2k := hf2 k h15
        refine lv_iload_n hx hb d_Sb_takeInOrder_18 rfl (lv_at hl 2 rfl) ?_
        refine lv_istore_n (lv' := [(3, .int (nI k)), (0, .ref h), (1, .ref co), (2, .int (nI k))]) hx hb d_Sb_takeInOrder_19 rfl hl (by decide) rfl (fun ls hl => ?_)
        have loop20 : ∀ (d : Nat) (j : Nat) (vi : Nat → Nat) (vs : Nat → Nat) (ls : Array Slot) (H : Heap) (locs : List Loc), j = d → (j ≤ k) → (∀ x, j ≤ x → x < k → f2 k < gs x) → ((∀ t, t < j → vi t = gi t) ∧ ∀ t, j ≤ t → t < k → vi (t + 1) = gi t) → ((∀ t, t < j → vs t = gs t) ∧ ∀ t, j ≤ t → t < k → vs (t + 1) = gs t) → lv_has ls 4 [(0, .ref h), (1, .ref co), (2, .int (nI k)), (3, .int (nI j))] → va_P D kcl [(h, .inr (3, [.ref i1, .ref i2, .ref i3, .int (nI n), .int (nI sc), .int (nI aw), .ref i4, .ref i5, .int (nI uc), .ref i6, .ref i7])), (i1, .inl (cI, 4, .inl (wA vi))), (i2, .inl (cI, 4, .inl (wA vs))), (co, .inr (0, [.ref a1, .ref a2, .ref a3, .ref a4, .int (nI n)])), (a1, .inl (cI, 10, .inl (wA f1))), (a2, .inl (cI, 10, .inl (wA f2)))] H → va_D A [(h, .inr (3, [.ref i1, .ref i2, .ref i3, .int (nI n), .int (nI sc), .int (nI aw), .ref i4, .ref i5, .int (nI uc), .ref i6, .ref i7])), (i1, .inl (cI, 4, .inl (wA vi))), (i2, .inl (cI, 4, .inl (wA vs))), (co, .inr (0, [.ref a1, .ref a2, .ref a3, .ref a4, .int (nI n)])), (a1, .inl (cI, 10, .inl (wA f1))), (a2, .inl (cI, 10, .inl (wA f2)))] → va_S A s.heap H locs → W p l e ({ frames := 1, cells := 0, slots := 0, locals := 21 } : Room) s m args below meth c H locs 0 0 Q (F0 m 20 ls []) := by
          intro d
          induction d using Nat.strongRecOn with
          | ind d ih20 =>
            intro j vi vs ls H locs hd20 hj hbig hvi hvs hl hP hD hS
            have hhigh : ∀ x, j ≤ x → x < k → f2 k < f2 ((pw_srt f2 k).getD x 0) := fun x h1 h2 => by rw [← hgs x h2]; exact hbig x h1 h2
            refine lv_iload_n hx hb d_Sb_takeInOrder_20 rfl (lv_at hl 3 rfl) ?_
            refine wi_if_le hx hb d_Sb_takeInOrder_21 rfl (by omega) (fun h21 => ?_) (fun h21 => ?_)
            · have hlow : j = 0 ∨ f2 ((pw_srt f2 k).getD (j - 1) 0) ≤ f2 k := Or.inl h21
              refine lv_aload_n hx hb d_Sb_takeInOrder_74 rfl (lv_at hl 0 rfl) ?_
              refine va_get (D := D) (ci := 3) (v := .ref i2) (C := R_Sb) (T := T_Sb) (N := 11) hx hb ht u_Sb hown hK hP 0 rfl rfl 1 (by decide) (ht _ wd_203) (fun _ h9 => h9) rfl d_Sb_takeInOrder_75 ?_
              refine lv_iload_n hx hb d_Sb_takeInOrder_78 rfl (lv_at hl 3 rfl) ?_
              refine lv_aload_n hx hb d_Sb_takeInOrder_79 rfl (lv_at hl 1 rfl) ?_
              refine lv_iload_n hx hb d_Sb_takeInOrder_80 rfl (lv_at hl 2 rfl) ?_
              refine ck_i (wc := [(co, .inr (0, [.ref a1, .ref a2, .ref a3, .ref a4, .int (nI n)])), (a2, .inl (cI, 10, .inl (wA f2)))]) (va_runV (As := [.int (nI k)]) (rest := [.int (nI j), .ref i2]) (C := R_Cl) ⟨hx, hb, hml, hown, ht⟩ (c_Cl_spanAt l Hs D cI cZ cL co a1 a2 a3 a4 n f2 k (by omega) H.size) (gw_V 1 ht wd_153 wd_3 wd_241 wd_151 wd_152 (by decide +kernel) ⟨Nat.le_of_ble_eq_true rfl, Nat.le_of_ble_eq_true rfl⟩) (k_preV hE hAH hK hP hD hS [3, 5] rfl rfl 3 rfl rfl) rfl rfl hl.1 rfl (lv_room (Nat.le_of_ble_eq_true rfl)) d_Sb_takeInOrder_81 ⟨Nat.le_of_ble_eq_true rfl, Nat.le_of_ble_eq_true rfl⟩) hP hD hS hA [3, 5] rfl rfl (fun r81 w1 H locs hpost hP hD hS => ?_)
              obtain ⟨rfl, rfl⟩ := hpost
              have hP : va_P D kcl [(h, .inr (3, [.ref i1, .ref i2, .ref i3, .int (nI n), .int (nI sc), .int (nI aw), .ref i4, .ref i5, .int (nI uc), .ref i6, .ref i7])), (i1, .inl (cI, 4, .inl (wA vi))), (i2, .inl (cI, 4, .inl (wA vs))), (co, .inr (0, [.ref a1, .ref a2, .ref a3, .ref a4, .int (nI n)])), (a1, .inl (cI, 10, .inl (wA f1))), (a2, .inl (cI, 10, .inl (wA f2)))] H := hP
              have hD : va_D A [(h, .inr (3, [.ref i1, .ref i2, .ref i3, .int (nI n), .int (nI sc), .int (nI aw), .ref i4, .ref i5, .int (nI uc), .ref i6, .ref i7])), (i1, .inl (cI, 4, .inl (wA vi))), (i2, .inl (cI, 4, .inl (wA vs))), (co, .inr (0, [.ref a1, .ref a2, .ref a3, .ref a4, .int (nI n)])), (a1, .inl (cI, 10, .inl (wA f1))), (a2, .inl (cI, 10, .inl (wA f2)))] := hD
              refine wi_ast hx hb hK hP hD hS 2 0 rfl rfl (by omega) (by omega) d_Sb_takeInOrder_84 (fun H locs hP hD hS => ?_)
              have hP : va_P D kcl [(h, .inr (3, [.ref i1, .ref i2, .ref i3, .int (nI n), .int (nI sc), .int (nI aw), .ref i4, .ref i5, .int (nI uc), .ref i6, .ref i7])), (i1, .inl (cI, 4, .inl (wA vi))), (i2, .inl (cI, 4, .inl (wA (va_up vs j (f2 k))))), (co, .inr (0, [.ref a1, .ref a2, .ref a3, .ref a4, .int (nI n)])), (a1, .inl (cI, 10, .inl (wA f1))), (a2, .inl (cI, 10, .inl (wA f2)))] H := hP
              have hD : va_D A [(h, .inr (3, [.ref i1, .ref i2, .ref i3, .int (nI n), .int (nI sc), .int (nI aw), .ref i4, .ref i5, .int (nI uc), .ref i6, .ref i7])), (i1, .inl (cI, 4, .inl (wA vi))), (i2, .inl (cI, 4, .inl (wA (va_up vs j (f2 k))))), (co, .inr (0, [.ref a1, .ref a2, .ref a3, .ref a4, .int (nI n)])), (a1, .inl (cI, 10, .inl (wA f1))), (a2, .inl (cI, 10, .inl (wA f2)))] := hD
              refine lv_aload_n hx hb d_Sb_takeInOrder_85 rfl (lv_at hl 0 rfl) ?_
              refine va_get (D := D) (ci := 3) (v := .ref i1) (C := R_Sb) (T := T_Sb) (N := 11) hx hb ht u_Sb hown hK hP 0 rfl rfl 0 (by decide) (ht _ wd_202) (fun _ h9 => h9) rfl d_Sb_takeInOrder_86 ?_
              refine lv_iload_n hx hb d_Sb_takeInOrder_89 rfl (lv_at hl 3 rfl) ?_
              refine lv_aload_n hx hb d_Sb_takeInOrder_90 rfl (lv_at hl 1 rfl) ?_
              refine lv_iload_n hx hb d_Sb_takeInOrder_91 rfl (lv_at hl 2 rfl) ?_
              refine ck_i (wc := [(co, .inr (0, [.ref a1, .ref a2, .ref a3, .ref a4, .int (nI n)])), (a1, .inl (cI, 10, .inl (wA f1)))]) (va_runV (As := [.int (nI k)]) (rest := [.int (nI j), .ref i1]) (C := R_Cl) ⟨hx, hb, hml, hown, ht⟩ (c_Cl_idAt l Hs D cI cZ cL co a1 a2 a3 a4 n f1 k (by omega) H.size) (gw_V 1 ht wd_161 wd_3 wd_246 wd_159 wd_160 (by decide +kernel) ⟨Nat.le_of_ble_eq_true rfl, Nat.le_of_ble_eq_true rfl⟩) (k_preV hE hAH hK hP hD hS [3, 4] rfl rfl 3 rfl rfl) rfl rfl hl.1 rfl (lv_room (Nat.le_of_ble_eq_true rfl)) d_Sb_takeInOrder_92 ⟨Nat.le_of_ble_eq_true rfl, Nat.le_of_ble_eq_true rfl⟩) hP hD hS hA [3, 4] rfl rfl (fun r92 w1 H locs hpost hP hD hS => ?_)
              obtain ⟨rfl, rfl⟩ := hpost
              have hP : va_P D kcl [(h, .inr (3, [.ref i1, .ref i2, .ref i3, .int (nI n), .int (nI sc), .int (nI aw), .ref i4, .ref i5, .int (nI uc), .ref i6, .ref i7])), (i1, .inl (cI, 4, .inl (wA vi))), (i2, .inl (cI, 4, .inl (wA (va_up vs j (f2 k))))), (co, .inr (0, [.ref a1, .ref a2, .ref a3, .ref a4, .int (nI n)])), (a1, .inl (cI, 10, .inl (wA f1))), (a2, .inl (cI, 10, .inl (wA f2)))] H := hP
              have hD : va_D A [(h, .inr (3, [.ref i1, .ref i2, .ref i3, .int (nI n), .int (nI sc), .int (nI aw), .ref i4, .ref i5, .int (nI uc), .ref i6, .ref i7])), (i1, .inl (cI, 4, .inl (wA vi))), (i2, .inl (cI, 4, .inl (wA (va_up vs j (f2 k))))), (co, .inr (0, [.ref a1, .ref a2, .ref a3, .ref a4, .int (nI n)])), (a1, .inl (cI, 10, .inl (wA f1))), (a2, .inl (cI, 10, .inl (wA f2)))] := hD
              refine wi_ast hx hb hK hP hD hS 1 0 rfl rfl (by omega) (by omega) d_Sb_takeInOrder_95 (fun H locs hP hD hS => ?_)
              have hP : va_P D kcl [(h, .inr (3, [.ref i1, .ref i2, .ref i3, .int (nI n), .int (nI sc), .int (nI aw), .ref i4, .ref i5, .int (nI uc), .ref i6, .ref i7])), (i1, .inl (cI, 4, .inl (wA (va_up vi j (f1 k))))), (i2, .inl (cI, 4, .inl (wA (va_up vs j (f2 k))))), (co, .inr (0, [.ref a1, .ref a2, .ref a3, .ref a4, .int (nI n)])), (a1, .inl (cI, 10, .inl (wA f1))), (a2, .inl (cI, 10, .inl (wA f2)))] H := hP
              have hD : va_D A [(h, .inr (3, [.ref i1, .ref i2, .ref i3, .int (nI n), .int (nI sc), .int (nI aw), .ref i4, .ref i5, .int (nI uc), .ref i6, .ref i7])), (i1, .inl (cI, 4, .inl (wA (va_up vi j (f1 k))))), (i2, .inl (cI, 4, .inl (wA (va_up vs j (f2 k))))), (co, .inr (0, [.ref a1, .ref a2, .ref a3, .ref a4, .int (nI n)])), (a1, .inl (cI, 10, .inl (wA f1))), (a2, .inl (cI, 10, .inl (wA f2)))] := hD
              refine wi_inc (k := 2) (lv' := [(2, .int (nI (k + 1))), (0, .ref h), (1, .ref co), (3, .int (nI j))]) hx hb d_Sb_takeInOrder_96 hl rfl (by decide) rfl (fun ls hl => ?_)
              refine lv_goto hx hb d_Sb_takeInOrder_99 rfl ?_
              exact ih10 (n - (k + 1)) (by omega) (k + 1) (va_up vi j (f1 k)) (va_up vs j (f2 k)) ls H locs rfl (by omega) (sb_so_in hgi hj hlow hhigh (up_in hvi (f1 k))) (sb_so_in hgs hj hlow hhigh (up_in hvs (f2 k))) (lv_sub hl [1, 2, 0] rfl) hP hD hS
            · refine lv_aload_n hx hb d_Sb_takeInOrder_24 rfl (lv_at hl 0 rfl) ?_
              refine va_get (D := D) (ci := 3) (v := .ref i2) (C := R_Sb) (T := T_Sb) (N := 11) hx hb ht u_Sb hown hK hP 0 rfl rfl 1 (by decide) (ht _ wd_203) (fun _ h9 => h9) rfl d_Sb_takeInOrder_25 ?_
              refine lv_iload_n hx hb d_Sb_takeInOrder_28 rfl (lv_at hl 3 rfl) ?_
              refine lv_iconst (v := nI 1) hx hb d_Sb_takeInOrder_29 (by decide) ?_
              refine wi_sub hx hb d_Sb_takeInOrder_30 (by omega) ?_
              refine wi_ald hx hb hK hP 2 0 rfl rfl (by omega) (by omega) d_Sb_takeInOrder_31 ?_
              refine lv_aload_n hx hb d_Sb_takeInOrder_32 rfl (lv_at hl 1 rfl) ?_
              refine lv_iload_n hx hb d_Sb_takeInOrder_33 rfl (lv_at hl 2 rfl) ?_
              refine ck_i (wc := [(co, .inr (0, [.ref a1, .ref a2, .ref a3, .ref a4, .int (nI n)])), (a2, .inl (cI, 10, .inl (wA f2)))]) (va_runV (As := [.int (nI k)]) (rest := [.int (nI (vs (j - 1)))]) (C := R_Cl) ⟨hx, hb, hml, hown, ht⟩ (c_Cl_spanAt l Hs D cI cZ cL co a1 a2 a3 a4 n f2 k (by omega) H.size) (gw_V 1 ht wd_153 wd_3 wd_241 wd_151 wd_152 (by decide +kernel) ⟨Nat.le_of_ble_eq_true rfl, Nat.le_of_ble_eq_true rfl⟩) (k_preV hE hAH hK hP hD hS [3, 5] rfl rfl 3 rfl rfl) rfl rfl hl.1 rfl (lv_room (Nat.le_of_ble_eq_true rfl)) d_Sb_takeInOrder_34 ⟨Nat.le_of_ble_eq_true rfl, Nat.le_of_ble_eq_true rfl⟩) hP hD hS hA [3, 5] rfl rfl (fun r34 w1 H locs hpost hP hD hS => ?_)
              obtain ⟨rfl, rfl⟩ := hpost
              have hP : va_P D kcl [(h, .inr (3, [.ref i1, .ref i2, .ref i3, .int (nI n), .int (nI sc), .int (nI aw), .ref i4, .ref i5, .int (nI uc), .ref i6, .ref i7])), (i1, .inl (cI, 4, .inl (wA vi))), (i2, .inl (cI, 4, .inl (wA vs))), (co, .inr (0, [.ref a1, .ref a2, .ref a3, .ref a4, .int (nI n)])), (a1, .inl (cI, 10, .inl (wA f1))), (a2, .inl (cI, 10, .inl (wA f2)))] H := hP
              have hD : va_D A [(h, .inr (3, [.ref i1, .ref i2, .ref i3, .int (nI n), .int (nI sc), .int (nI aw), .ref i4, .ref i5, .int (nI uc), .ref i6, .ref i7])), (i1, .inl (cI, 4, .inl (wA vi))), (i2, .inl (cI, 4, .inl (wA vs))), (co, .inr (0, [.ref a1, .ref a2, .ref a3, .ref a4, .int (nI n)])), (a1, .inl (cI, 10, .inl (wA f1))), (a2, .inl (cI, 10, .inl (wA f2)))] := hD
              refine wi_le hx hb d_Sb_takeInOrder_37 rfl (by rw [hvs.1 (j - 1) (by omega), hgs (j - 1) (by omega)]; have := hf2 _ (Nat.lt_of_lt_of_le (pw_srt_get (r := f2) (n := k) (i := j - 1) (by omega)) hk); omega) (by omega) (fun h37 => ?_) (fun h37 => ?_)
              · have hlow : j = 0 ∨ f2 ((pw_srt f2 k).getD (j - 1) 0) ≤ f2 k := Or.inr (by rw [← hgs (j - 1) (by omega), ← hvs.1 (j - 1) (by omega)]; exact h37)
                refine lv_aload_n hx hb d_Sb_takeInOrder_74 rfl (lv_at hl 0 rfl) ?_
                refine va_get (D := D) (ci := 3) (v := .ref i2) (C := R_Sb) (T := T_Sb) (N := 11) hx hb ht u_Sb hown hK hP 0 rfl rfl 1 (by decide) (ht _ wd_203) (fun _ h9 => h9) rfl d_Sb_takeInOrder_75 ?_
                refine lv_iload_n hx hb d_Sb_takeInOrder_78 rfl (lv_at hl 3 rfl) ?_
                refine lv_aload_n hx hb d_Sb_takeInOrder_79 rfl (lv_at hl 1 rfl) ?_
                refine lv_iload_n hx hb d_Sb_takeInOrder_80 rfl (lv_at hl 2 rfl) ?_
                refine ck_i (wc := [(co, .inr (0, [.ref a1, .ref a2, .ref a3, .ref a4, .int (nI n)])), (a2, .inl (cI, 10, .inl (wA f2)))]) (va_runV (As := [.int (nI k)]) (rest := [.int (nI j), .ref i2]) (C := R_Cl) ⟨hx, hb, hml, hown, ht⟩ (c_Cl_spanAt l Hs D cI cZ cL co a1 a2 a3 a4 n f2 k (by omega) H.size) (gw_V 1 ht wd_153 wd_3 wd_241 wd_151 wd_152 (by decide +kernel) ⟨Nat.le_of_ble_eq_true rfl, Nat.le_of_ble_eq_true rfl⟩) (k_preV hE hAH hK hP hD hS [3, 5] rfl rfl 3 rfl rfl) rfl rfl hl.1 rfl (lv_room (Nat.le_of_ble_eq_true rfl)) d_Sb_takeInOrder_81 ⟨Nat.le_of_ble_eq_true rfl, Nat.le_of_ble_eq_true rfl⟩) hP hD hS hA [3, 5] rfl rfl (fun r81 w1 H locs hpost hP hD hS => ?_)
                obtain ⟨rfl, rfl⟩ := hpost
                have hP : va_P D kcl [(h, .inr (3, [.ref i1, .ref i2, .ref i3, .int (nI n), .int (nI sc), .int (nI aw), .ref i4, .ref i5, .int (nI uc), .ref i6, .ref i7])), (i1, .inl (cI, 4, .inl (wA vi))), (i2, .inl (cI, 4, .inl (wA vs))), (co, .inr (0, [.ref a1, .ref a2, .ref a3, .ref a4, .int (nI n)])), (a1, .inl (cI, 10, .inl (wA f1))), (a2, .inl (cI, 10, .inl (wA f2)))] H := hP
                have hD : va_D A [(h, .inr (3, [.ref i1, .ref i2, .ref i3, .int (nI n), .int (nI sc), .int (nI aw), .ref i4, .ref i5, .int (nI uc), .ref i6, .ref i7])), (i1, .inl (cI, 4, .inl (wA vi))), (i2, .inl (cI, 4, .inl (wA vs))), (co, .inr (0, [.ref a1, .ref a2, .ref a3, .ref a4, .int (nI n)])), (a1, .inl (cI, 10, .inl (wA f1))), (a2, .inl (cI, 10, .inl (wA f2)))] := hD
                refine wi_ast hx hb hK hP hD hS 2 0 rfl rfl (by omega) (by omega) d_Sb_takeInOrder_84 (fun H locs hP hD hS => ?_)
                have hP : va_P D kcl [(h, .inr (3, [.ref i1, .ref i2, .ref i3, .int (nI n), .int (nI sc), .int (nI aw), .ref i4, .ref i5, .int (nI uc), .ref i6, .ref i7])), (i1, .inl (cI, 4, .inl (wA vi))), (i2, .inl (cI, 4, .inl (wA (va_up vs j (f2 k))))), (co, .inr (0, [.ref a1, .ref a2, .ref a3, .ref a4, .int (nI n)])), (a1, .inl (cI, 10, .inl (wA f1))), (a2, .inl (cI, 10, .inl (wA f2)))] H := hP
                have hD : va_D A [(h, .inr (3, [.ref i1, .ref i2, .ref i3, .int (nI n), .int (nI sc), .int (nI aw), .ref i4, .ref i5, .int (nI uc), .ref i6, .ref i7])), (i1, .inl (cI, 4, .inl (wA vi))), (i2, .inl (cI, 4, .inl (wA (va_up vs j (f2 k))))), (co, .inr (0, [.ref a1, .ref a2, .ref a3, .ref a4, .int (nI n)])), (a1, .inl (cI, 10, .inl (wA f1))), (a2, .inl (cI, 10, .inl (wA f2)))] := hD
                refine lv_aload_n hx hb d_Sb_takeInOrder_85 rfl (lv_at hl 0 rfl) ?_
                refine va_get (D := D) (ci := 3) (v := .ref i1) (C := R_Sb) (T := T_Sb) (N := 11) hx hb ht u_Sb hown hK hP 0 rfl rfl 0 (by decide) (ht _ wd_202) (fun _ h9 => h9) rfl d_Sb_takeInOrder_86 ?_
                refine lv_iload_n hx hb d_Sb_takeInOrder_89 rfl (lv_at hl 3 rfl) ?_
                refine lv_aload_n hx hb d_Sb_takeInOrder_90 rfl (lv_at hl 1 rfl) ?_
                refine lv_iload_n hx hb d_Sb_takeInOrder_91 rfl (lv_at hl 2 rfl) ?_
                refine ck_i (wc := [(co, .inr (0, [.ref a1, .ref a2, .ref a3, .ref a4, .int (nI n)])), (a1, .inl (cI, 10, .inl (wA f1)))]) (va_runV (As := [.int (nI k)]) (rest := [.int (nI j), .ref i1]) (C := R_Cl) ⟨hx, hb, hml, hown, ht⟩ (c_Cl_idAt l Hs D cI cZ cL co a1 a2 a3 a4 n f1 k (by omega) H.size) (gw_V 1 ht wd_161 wd_3 wd_246 wd_159 wd_160 (by decide +kernel) ⟨Nat.le_of_ble_eq_true rfl, Nat.le_of_ble_eq_true rfl⟩) (k_preV hE hAH hK hP hD hS [3, 4] rfl rfl 3 rfl rfl) rfl rfl hl.1 rfl (lv_room (Nat.le_of_ble_eq_true rfl)) d_Sb_takeInOrder_92 ⟨Nat.le_of_ble_eq_true rfl, Nat.le_of_ble_eq_true rfl⟩) hP hD hS hA [3, 4] rfl rfl (fun r92 w1 H locs hpost hP hD hS => ?_)
                obtain ⟨rfl, rfl⟩ := hpost
                have hP : va_P D kcl [(h, .inr (3, [.ref i1, .ref i2, .ref i3, .int (nI n), .int (nI sc), .int (nI aw), .ref i4, .ref i5, .int (nI uc), .ref i6, .ref i7])), (i1, .inl (cI, 4, .inl (wA vi))), (i2, .inl (cI, 4, .inl (wA (va_up vs j (f2 k))))), (co, .inr (0, [.ref a1, .ref a2, .ref a3, .ref a4, .int (nI n)])), (a1, .inl (cI, 10, .inl (wA f1))), (a2, .inl (cI, 10, .inl (wA f2)))] H := hP
                have hD : va_D A [(h, .inr (3, [.ref i1, .ref i2, .ref i3, .int (nI n), .int (nI sc), .int (nI aw), .ref i4, .ref i5, .int (nI uc), .ref i6, .ref i7])), (i1, .inl (cI, 4, .inl (wA vi))), (i2, .inl (cI, 4, .inl (wA (va_up vs j (f2 k))))), (co, .inr (0, [.ref a1, .ref a2, .ref a3, .ref a4, .int (nI n)])), (a1, .inl (cI, 10, .inl (wA f1))), (a2, .inl (cI, 10, .inl (wA f2)))] := hD
                refine wi_ast hx hb hK hP hD hS 1 0 rfl rfl (by omega) (by omega) d_Sb_takeInOrder_95 (fun H locs hP hD hS => ?_)
                have hP : va_P D kcl [(h, .inr (3, [.ref i1, .ref i2, .ref i3, .int (nI n), .int (nI sc), .int (nI aw), .ref i4, .ref i5, .int (nI uc), .ref i6, .ref i7])), (i1, .inl (cI, 4, .inl (wA (va_up vi j (f1 k))))), (i2, .inl (cI, 4, .inl (wA (va_up vs j (f2 k))))), (co, .inr (0, [.ref a1, .ref a2, .ref a3, .ref a4, .int (nI n)])), (a1, .inl (cI, 10, .inl (wA f1))), (a2, .inl (cI, 10, .inl (wA f2)))] H := hP
                have hD : va_D A [(h, .inr (3, [.ref i1, .ref i2, .ref i3, .int (nI n), .int (nI sc), .int (nI aw), .ref i4, .ref i5, .int (nI uc), .ref i6, .ref i7])), (i1, .inl (cI, 4, .inl (wA (va_up vi j (f1 k))))), (i2, .inl (cI, 4, .inl (wA (va_up vs j (f2 k))))), (co, .inr (0, [.ref a1, .ref a2, .ref a3, .ref a4, .int (nI n)])), (a1, .inl (cI, 10, .inl (wA f1))), (a2, .inl (cI, 10, .inl (wA f2)))] := hD
                refine wi_inc (k := 2) (lv' := [(2, .int (nI (k + 1))), (0, .ref h), (1, .ref co), (3, .int (nI j))]) hx hb d_Sb_takeInOrder_96 hl rfl (by decide) rfl (fun ls hl => ?_)
                refine lv_goto hx hb d_Sb_takeInOrder_99 rfl ?_
                exact ih10 (n - (k + 1)) (by omega) (k + 1) (va_up vi j (f1 k)) (va_up vs j (f2 k)) ls H locs rfl (by omega) (sb_so_in hgi hj hlow hhigh (up_in hvi (f1 k))) (sb_so_in hgs hj hlow hhigh (up_in hvs (f2 k))) (lv_sub hl [1, 2, 0] rfl) hP hD hS
              · refine lv_aload_n hx hb d_Sb_takeInOrder_40 rfl (lv_at hl 0 rfl) ?_
                refine va_get (D := D) (ci := 3) (v := .ref i2) (C := R_Sb) (T := T_Sb) (N := 11) hx hb ht u_Sb hown hK hP 0 rfl rfl 1 (by decide) (ht _ wd_203) (fun _ h9 => h9) rfl d_Sb_takeInOrder_41 ?_
                refine lv_iload_n hx hb d_Sb_takeInOrder_44 rfl (lv_at hl 3 rfl) ?_
                refine lv_aload_n hx hb d_Sb_takeInOrder_45 rfl (lv_at hl 0 rfl) ?_
                refine va_get (D := D) (ci := 3) (v := .ref i2) (C := R_Sb) (T := T_Sb) (N := 11) hx hb ht u_Sb hown hK hP 0 rfl rfl 1 (by decide) (ht _ wd_203) (fun _ h9 => h9) rfl d_Sb_takeInOrder_46 ?_
                refine lv_iload_n hx hb d_Sb_takeInOrder_49 rfl (lv_at hl 3 rfl) ?_
                refine lv_iconst (v := nI 1) hx hb d_Sb_takeInOrder_50 (by decide) ?_
                refine wi_sub hx hb d_Sb_takeInOrder_51 (by omega) ?_
                refine wi_ald hx hb hK hP 2 0 rfl rfl (by omega) (by omega) d_Sb_takeInOrder_52 ?_
                refine wi_ast hx hb hK hP hD hS 2 0 rfl rfl (by omega) (by omega) d_Sb_takeInOrder_53 (fun H locs hP hD hS => ?_)
                have hP : va_P D kcl [(h, .inr (3, [.ref i1, .ref i2, .ref i3, .int (nI n), .int (nI sc), .int (nI aw), .ref i4, .ref i5, .int (nI uc), .ref i6, .ref i7])), (i1, .inl (cI, 4, .inl (wA vi))), (i2, .inl (cI, 4, .inl (wA (va_up vs j (vs (j - 1)))))), (co, .inr (0, [.ref a1, .ref a2, .ref a3, .ref a4, .int (nI n)])), (a1, .inl (cI, 10, .inl (wA f1))), (a2, .inl (cI, 10, .inl (wA f2)))] H := hP
                have hD : va_D A [(h, .inr (3, [.ref i1, .ref i2, .ref i3, .int (nI n), .int (nI sc), .int (nI aw), .ref i4, .ref i5, .int (nI uc), .ref i6, .ref i7])), (i1, .inl (cI, 4, .inl (wA vi))), (i2, .inl (cI, 4, .inl (wA (va_up vs j (vs (j - 1)))))), (co, .inr (0, [.ref a1, .ref a2, .ref a3, .ref a4, .int (nI n)])), (a1, .inl (cI, 10, .inl (wA f1))), (a2, .inl (cI, 10, .inl (wA f2)))] := hD
                refine lv_aload_n hx hb d_Sb_takeInOrder_54 rfl (lv_at hl 0 rfl) ?_
                refine va_get (D := D) (ci := 3) (v := .ref i1) (C := R_Sb) (T := T_Sb) (N := 11) hx hb ht u_Sb hown hK hP 0 rfl rfl 0 (by decide) (ht _ wd_202) (fun _ h9 => h9) rfl d_Sb_takeInOrder_55 ?_
                refine lv_iload_n hx hb d_Sb_takeInOrder_58 rfl (lv_at hl 3 rfl) ?_
                refine lv_aload_n hx hb d_Sb_takeInOrder_59 rfl (lv_at hl 0 rfl) ?_
                refine va_get (D := D) (ci := 3) (v := .ref i1) (C := R_Sb) (T := T_Sb) (N := 11) hx hb ht u_Sb hown hK hP 0 rfl rfl 0 (by decide) (ht _ wd_202) (fun _ h9 => h9) rfl d_Sb_takeInOrder_60 ?_
                refine lv_iload_n hx hb d_Sb_takeInOrder_63 rfl (lv_at hl 3 rfl) ?_
                refine lv_iconst (v := nI 1) hx hb d_Sb_takeInOrder_64 (by decide) ?_
                refine wi_sub hx hb d_Sb_takeInOrder_65 (by omega) ?_
                refine wi_ald hx hb hK hP 1 0 rfl rfl (by omega) (by omega) d_Sb_takeInOrder_66 ?_
                refine wi_ast hx hb hK hP hD hS 1 0 rfl rfl (by omega) (by omega) d_Sb_takeInOrder_67 (fun H locs hP hD hS => ?_)
                have hP : va_P D kcl [(h, .inr (3, [.ref i1, .ref i2, .ref i3, .int (nI n), .int (nI sc), .int (nI aw), .ref i4, .ref i5, .int (nI uc), .ref i6, .ref i7])), (i1, .inl (cI, 4, .inl (wA (va_up vi j (vi (j - 1)))))), (i2, .inl (cI, 4, .inl (wA (va_up vs j (vs (j - 1)))))), (co, .inr (0, [.ref a1, .ref a2, .ref a3, .ref a4, .int (nI n)])), (a1, .inl (cI, 10, .inl (wA f1))), (a2, .inl (cI, 10, .inl (wA f2)))] H := hP
                have hD : va_D A [(h, .inr (3, [.ref i1, .ref i2, .ref i3, .int (nI n), .int (nI sc), .int (nI aw), .ref i4, .ref i5, .int (nI uc), .ref i6, .ref i7])), (i1, .inl (cI, 4, .inl (wA (va_up vi j (vi (j - 1)))))), (i2, .inl (cI, 4, .inl (wA (va_up vs j (vs (j - 1)))))), (co, .inr (0, [.ref a1, .ref a2, .ref a3, .ref a4, .int (nI n)])), (a1, .inl (cI, 10, .inl (wA f1))), (a2, .inl (cI, 10, .inl (wA f2)))] := hD
                refine wi_dec (k := 3) (lv' := [(3, .int (nI (j - 1))), (0, .ref h), (1, .ref co), (2, .int (nI k))]) hx hb d_Sb_takeInOrder_68 hl (by omega) rfl (by decide) rfl (fun ls hl => ?_)
                refine lv_goto hx hb d_Sb_takeInOrder_71 rfl ?_
                exact ih20 ((j - 1)) (by omega) (j - 1) (va_up vi j (vi (j - 1))) (va_up vs j (vs (j - 1))) ls H locs rfl (by omega) (fun x h1 h2 => by
            by_cases e : x = j - 1
            · rw [e, ← hvs.1 (j - 1) (by omega)]; exact h37
            · exact hbig x (by omega) h2) (up_mv hvi h21 hj) (up_mv hvs h21 hj) (lv_sub hl [1, 2, 3, 0] rfl) hP hD hS
        exact loop20 _ (k) (gi) (gs) ls H locs rfl (Nat.le_refl _) (fun x h1 h2 => by omega) ⟨fun t _ => rfl, fun t h1 h2 => by omega⟩ ⟨fun t _ => rfl, fun t h1 h2 => by omega⟩ (lv_sub hl [1, 2, 3, 0] rfl) hP hD hS
  exact loop10 _ (0) (fi) (fs) ls H locs rfl (Nat.zero_le _) (fun i hi => absurd hi (Nat.not_lt_zero i)) (fun i hi => absurd hi (Nat.not_lt_zero i)) (lv_sub hl [1, 2, 0] rfl) hP hD hS
