/-! PinwheelKernelModel: the order; a cycle laid with a base. -/
theorem pw_mx_last {r : Nat → Nat} {n : Nat} (hn : 0 < n) (hr : ∀ k, k < n → 0 < r k) : r ((pw_srt r n).getD (n - 1) 0) = pw_mx r n := by
  have h1 : r ((pw_srt r n).getD (n - 1) 0) ≤ pw_mx r n := pw_mx_ge _ (pw_srt_get (by omega))
  obtain ⟨k, hk, e⟩ := pw_mx_is hn hr
  obtain ⟨i, hi, ei⟩ := pw_srt_all (r := r) hk
  have h2 : pw_mx r n ≤ r ((pw_srt r n).getD (n - 1) 0) := by
    rw [e, ← ei]
    by_cases h : i = n - 1
    · rw [h]; exact Nat.le_refl _
    · have := pw_srt_le (r := r) (n := n) i (n - 1) (by omega) (by omega)
      unfold pw_lt at this
      omega
  omega
theorem pw_take_s {l : List Nat} {k : Nat} (h : k < l.length) : l.take (k + 1) = l.take k ++ [l.getD k 0] := by
  rw [List.take_add_one, List.getElem?_eq_getElem h, pw_getD l 0 h]
  rfl
/-- a function's values: those of a list in its order -/
def md_or (r : Nat → Nat) (n : Nat) (ro ru : Nat → Nat) : Prop := (∀ i, i < n → ru i = r ((pw_srt r n).getD i 0)) ∧ ∀ i, i < n → ro i = (pw_srt r n).getD i 0
theorem md_or_sm {r : Nat → Nat} {n L : Nat} {ro ru : Nat → Nat} (h : md_or r n ro ru) : pw_sm (fun i => L / ru i) n = pw_sm (fun t => L / r t) n := by
  rw [← pw_srt_sm (r := r) (f := fun t => L / r t) n]
  exact pw_sm_congr fun i hi => by rw [h.1 i hi]
theorem md_lay_s {b n L : Nat} {id sp ro ru y : Nat → Nat} {k : Nat} (hor : md_or (pw_r b sp) n ro ru) (hk : k < n) (hy : ∀ j, j < L → y j = pw_cy L id (pw_r b sp) ((pw_srt (pw_r b sp) n).take k) j) : ∀ j, j < L → pw_gv L (id (ro k)) (ru k) y j = pw_cy L id (pw_r b sp) ((pw_srt (pw_r b sp) n).take (k + 1)) j := by
  intro j hj
  rw [pw_take_s (by rw [pw_srt_len]; exact hk), pw_cy_add, hor.1 k hk, hor.2 k hk]
  exact pw_gv_cg hy j hj
theorem pw_ff_is {c : Nat → Nat} {L x : Nat} (hx : x < L) (h : ∀ j, j < x → c j ≠ 0) (h0 : c x = 0) : pw_ff c L 0 = x := by
  obtain ⟨-, h2, h3, h4⟩ := pw_ff_spec c L 0
  rcases Nat.lt_trichotomy (pw_ff c L 0) x with z | z | z
  · exact absurd (h4 (by omega)) (h _ z)
  · exact z
  · exact absurd h0 (h3 x (by omega) z)
set_option maxHeartbeats 4000000 in
set_option maxRecDepth 100000 in
theorem c_Md_arrange0 (l : Launch) (Hs : Heap) (D : va_G) (cI cZ cL : ClassId) (h : Nat) (a1 : Nat) (a2 : Nat) (a3 : Nat) (a4 : Nat) (c1 : Nat) (b1 : Nat) (b2 : Nat) (c2 : Nat) (r1 : Nat) (r2 : Nat) (z1 : Nat) (n1 : Nat) (t1 : Nat) (th : Nat) (n : Nat) (wi : Nat) (bu : Nat) (L : Nat) (ax : Nat) (va : Nat) (sl : Nat) (me : Nat) (L2 : Nat) (mn : Nat) (cv : Int32) (ro : Nat → Nat) (ru : Nat → Nat) (g2 : Nat → Nat) (hme : me ≤ 10) (hg2 : ∀ t, t < me → g2 t ≤ 40) : kV l Hs D kcl (ty3 cI cZ cL) y_Md_arrange (mws y_Md_arrange b_Md_arrange 5 (Option.none : Option Jvm.ClassFile.FieldType)) ({ frames := 0, cells := 0, slots := 0, locals := 0 } : Room) [.ref h, .int (nI 0)] [(h, .inr (5, [.int (nI th), .int (nI n), .ref a1, .ref a2, .ref a3, .ref a4, .int (nI wi), .int (nI bu), .int (nI L), .ref c1, .int (nI ax), .int (nI va), .int (nI sl), .int cv, .int (nI me), .ref b1, .ref b2, .int (nI L2), .ref c2, .int (nI mn), .ref r1, .ref r2, .ref z1, .ref n1, .ref t1])), (r1, .inl (cI, 10, .inl (wA ro))), (r2, .inl (cI, 10, .inl (wA ru))), (b2, .inl (cI, 10, .inl (wA g2)))] (fun w => ∃ (ro2 : Nat → Nat), ∃ (ru2 : Nat → Nat), (md_or g2 me ro2 ru2) ∧ w = [(h, .inr (5, [.int (nI th), .int (nI n), .ref a1, .ref a2, .ref a3, .ref a4, .int (nI wi), .int (nI bu), .int (nI L), .ref c1, .int (nI ax), .int (nI va), .int (nI sl), .int cv, .int (nI me), .ref b1, .ref b2, .int (nI L2), .ref c2, .int (nI me), .ref r1, .ref r2, .ref z1, .ref n1, .ref t1])), (r1, .inl (cI, 10, .inl (wA ro2))), (r2, .inl (cI, 10, .inl (wA ru2))), (b2, .inl (cI, 10, .inl (wA g2)))]) := by
  intro sz
  refine k_of (cc := b_Md_arrange) (maxL := 5) (ret := (Option.none : Option Jvm.ClassFile.FieldType)) (by decide) rfl (Nat.le_of_ble_eq_true rfl) ?_
  intro p e s m args below meth c ls H locs A Q hQ hx hb hml hr hts hown hlk hnm hsz hAe hP hK hD hS hA hE hAH hl
  have ht : ∀ w ∈ mw, w.before args s = true := fun w h => hts w (List.mem_cons_of_mem _ h)
  have hl : lv_has ls 5 [(0, .ref h), (1, .int (nI 0))] := hl
  have hFb : ∀ t, t < me → g2 t ≤ 40 := fun t ht => hg2 t ht
  refine lv_aload_n hx hb d_Md_arrange_0 rfl (lv_at hl 0 rfl) ?_
  refine lv_iconst (v := nI 0) hx hb d_Md_arrange_1 (by decide) ?_
  refine va_put (D := D) (ci := 5) (v := .int (nI 0)) (ty := .int) (C := R_Md) (T := T_Md) (N := 25) hx hb ht u_Md t_Md t_Md_ok n_Md hown hK hP hD hS 0 rfl rfl 19 (by decide) (ht _ wd_914) (fun _ h9 => h9) rfl (by decide +kernel) rfl rfl (Nat.le_of_ble_eq_true rfl) d_Md_arrange_2 (fun H locs hP hD hS => ?_)
  have hP : va_P D kcl [(h, .inr (5, [.int (nI th), .int (nI n), .ref a1, .ref a2, .ref a3, .ref a4, .int (nI wi), .int (nI bu), .int (nI L), .ref c1, .int (nI ax), .int (nI va), .int (nI sl), .int cv, .int (nI me), .ref b1, .ref b2, .int (nI L2), .ref c2, .int (nI 0), .ref r1, .ref r2, .ref z1, .ref n1, .ref t1])), (r1, .inl (cI, 10, .inl (wA ro))), (r2, .inl (cI, 10, .inl (wA ru))), (b2, .inl (cI, 10, .inl (wA g2)))] H := hP
  have hD : va_D A [(h, .inr (5, [.int (nI th), .int (nI n), .ref a1, .ref a2, .ref a3, .ref a4, .int (nI wi), .int (nI bu), .int (nI L), .ref c1, .int (nI ax), .int (nI va), .int (nI sl), .int cv, .int (nI me), .ref b1, .ref b2, .int (nI L2), .ref c2, .int (nI 0), .ref r1, .ref r2, .ref z1, .ref n1, .ref t1])), (r1, .inl (cI, 10, .inl (wA ro))), (r2, .inl (cI, 10, .inl (wA ru))), (b2, .inl (cI, 10, .inl (wA g2)))] := hD
  refine lv_iconst (v := nI 0) hx hb d_Md_arrange_5 (by decide) ?_
  refine lv_istore_n (lv' := [(2, .int (nI 0)), (0, .ref h), (1, .int (nI 0))]) hx hb d_Md_arrange_6 rfl hl (by decide) rfl (fun ls hl => ?_)
  have loop7 : ∀ (d : Nat) (k : Nat) (gi : Nat → Nat) (gs : Nat → Nat) (ls : Array Slot) (H : Heap) (locs : List Loc), me - k = d → (k ≤ me) → (sb_so g2 gi (fun t => t) k) → (sb_so g2 gs g2 k) → lv_has ls 5 [(0, .ref h), (1, .int (nI 0)), (2, .int (nI k))] → va_P D kcl [(h, .inr (5, [.int (nI th), .int (nI n), .ref a1, .ref a2, .ref a3, .ref a4, .int (nI wi), .int (nI bu), .int (nI L), .ref c1, .int (nI ax), .int (nI va), .int (nI sl), .int cv, .int (nI me), .ref b1, .ref b2, .int (nI L2), .ref c2, .int (nI k), .ref r1, .ref r2, .ref z1, .ref n1, .ref t1])), (r1, .inl (cI, 10, .inl (wA gi))), (r2, .inl (cI, 10, .inl (wA gs))), (b2, .inl (cI, 10, .inl (wA g2)))] H → va_D A [(h, .inr (5, [.int (nI th), .int (nI n), .ref a1, .ref a2, .ref a3, .ref a4, .int (nI wi), .int (nI bu), .int (nI L), .ref c1, .int (nI ax), .int (nI va), .int (nI sl), .int cv, .int (nI me), .ref b1, .ref b2, .int (nI L2), .ref c2, .int (nI k), .ref r1, .ref r2, .ref z1, .ref n1, .ref t1])), (r1, .inl (cI, 10, .inl (wA gi))), (r2, .inl (cI, 10, .inl (wA gs))), (b2, .inl (cI, 10, .inl (wA g2)))] → va_S A s.heap H locs → W p l e ({ frames := 0, cells := 0, slots := 0, locals := 0 } : Room) s m args below meth c H locs 0 0 Q (F0 m 7 ls []) := by
    intro d
    induction d using Nat.strongRecOn with
    | ind d ih7 =>
      intro k gi gs ls H locs hd7 hk hgi hgs hl hP hD hS
      refine lv_iload_n hx hb d_Md_arrange_7 rfl (lv_at hl 2 rfl) ?_
      refine lv_aload_n hx hb d_Md_arrange_8 rfl (lv_at hl 0 rfl) ?_
      refine va_get (D := D) (ci := 5) (v := .int (nI me)) (C := R_Md) (T := T_Md) (N := 25) hx hb ht u_Md hown hK hP 0 rfl rfl 14 (by decide) (ht _ wd_909) (fun _ h9 => h9) rfl d_Md_arrange_9 ?_
      refine wi_ge hx hb d_Md_arrange_12 rfl (by omega) (by omega) (fun h12 => ?_) (fun h12 => ?_)
      · obtain rfl : me = k := by omega
        exact k_retv hQ hx hb hr hlk hAe hK hP hD hS (Nat.le_of_ble_eq_true rfl) (Nat.le_of_ble_eq_true rfl) (Nat.le_of_ble_eq_true rfl) ⟨gi, gs, ⟨hgs, hgi⟩, rfl⟩ d_Md_arrange_133
      · have hf2k := hFb k h12
        refine lv_iload_n hx hb d_Md_arrange_15 rfl (lv_at hl 1 rfl) ?_
        refine wi_if_ne hx hb d_Md_arrange_16 rfl (by decide) (fun h => absurd h (by decide)) (fun _ => ?_)
        refine lv_aload_n hx hb d_Md_arrange_19 rfl (lv_at hl 0 rfl) ?_
        refine va_get (D := D) (ci := 5) (v := .ref b2) (C := R_Md) (T := T_Md) (N := 25) hx hb ht u_Md hown hK hP 0 rfl rfl 16 (by decide) (ht _ wd_911) (fun _ h9 => h9) rfl d_Md_arrange_20 ?_
        refine lv_iload_n hx hb d_Md_arrange_23 rfl (lv_at hl 2 rfl) ?_
        refine wi_ald hx hb hK hP 3 0 rfl rfl (by omega) (by omega) d_Md_arrange_24 ?_
        refine lv_goto hx hb d_Md_arrange_25 rfl ?_
        refine lv_istore_n (lv' := [(3, .int (nI (g2 k))), (0, .ref h), (1, .int (nI 0)), (2, .int (nI k))]) hx hb d_Md_arrange_38 rfl hl (by decide) rfl (fun ls hl => ?_)
        refine lv_aload_n hx hb d_Md_arrange_39 rfl (lv_at hl 1 rfl) ?_
        refine va_get (D := D) (ci := 5) (v := .int (nI k)) (C := R_Md) (T := T_Md) (N := 25) hx hb ht u_Md hown hK hP 0 rfl rfl 19 (by decide) (ht _ wd_914) (fun _ h9 => h9) rfl d_Md_arrange_40 ?_
        refine lv_istore (lv' := [(4, .int (nI k)), (3, .int (nI (g2 k))), (0, .ref h), (1, .int (nI 0)), (2, .int (nI k))]) hx hb d_Md_arrange_43 hl (by decide) rfl (fun ls hl => ?_)
        have loop45 : ∀ (d : Nat) (j : Nat) (vi : Nat → Nat) (vs : Nat → Nat) (ls : Array Slot) (H : Heap) (locs : List Loc), j = d → (j ≤ k) → (∀ x, j ≤ x → x < k → g2 k < gs x) → ((∀ t, t < j → vi t = gi t) ∧ ∀ t, j ≤ t → t < k → vi (t + 1) = gi t) → ((∀ t, t < j → vs t = gs t) ∧ ∀ t, j ≤ t → t < k → vs (t + 1) = gs t) → lv_has ls 5 [(0, .ref h), (1, .int (nI 0)), (2, .int (nI k)), (3, .int (nI (g2 k))), (4, .int (nI j))] → va_P D kcl [(h, .inr (5, [.int (nI th), .int (nI n), .ref a1, .ref a2, .ref a3, .ref a4, .int (nI wi), .int (nI bu), .int (nI L), .ref c1, .int (nI ax), .int (nI va), .int (nI sl), .int cv, .int (nI me), .ref b1, .ref b2, .int (nI L2), .ref c2, .int (nI k), .ref r1, .ref r2, .ref z1, .ref n1, .ref t1])), (r1, .inl (cI, 10, .inl (wA vi))), (r2, .inl (cI, 10, .inl (wA vs))), (b2, .inl (cI, 10, .inl (wA g2)))] H → va_D A [(h, .inr (5, [.int (nI th), .int (nI n), .ref a1, .ref a2, .ref a3, .ref a4, .int (nI wi), .int (nI bu), .int (nI L), .ref c1, .int (nI ax), .int (nI va), .int (nI sl), .int cv, .int (nI me), .ref b1, .ref b2, .int (nI L2), .ref c2, .int (nI k), .ref r1, .ref r2, .ref z1, .ref n1, .ref t1])), (r1, .inl (cI, 10, .inl (wA vi))), (r2, .inl (cI, 10, .inl (wA vs))), (b2, .inl (cI, 10, .inl (wA g2)))] → va_S A s.heap H locs → W p l e ({ frames := 0, cells := 0, slots := 0, locals := 0 } : Room) s m args below meth c H locs 0 0 Q (F0 m 45 ls []) := by
          intro d
          induction d using Nat.strongRecOn with
          | ind d ih45 =>
            intro j vi vs ls H locs hd45 hj hbig hvi hvs hl hP hD hS
            have hhigh : ∀ x, j ≤ x → x < k → g2 k < g2 ((pw_srt g2 k).getD x 0) := fun x h1 h2 => by rw [← hgs x h2]; exact hbig x h1 h2
            refine lv_iload hx hb d_Md_arrange_45 (lv_at hl 4 rfl) ?_
            refine wi_if_le hx hb d_Md_arrange_47 rfl (by omega) (fun h47 => ?_) (fun h47 => ?_)
            · have hlow : j = 0 ∨ g2 ((pw_srt g2 k).getD (j - 1) 0) ≤ g2 k := Or.inl h47
              refine lv_aload_n hx hb d_Md_arrange_101 rfl (lv_at hl 0 rfl) ?_
              refine va_get (D := D) (ci := 5) (v := .ref r2) (C := R_Md) (T := T_Md) (N := 25) hx hb ht u_Md hown hK hP 0 rfl rfl 21 (by decide) (ht _ wd_916) (fun _ h9 => h9) rfl d_Md_arrange_102 ?_
              refine lv_iload hx hb d_Md_arrange_105 (lv_at hl 4 rfl) ?_
              refine lv_iload_n hx hb d_Md_arrange_107 rfl (lv_at hl 3 rfl) ?_
              refine wi_ast hx hb hK hP hD hS 2 0 rfl rfl (by omega) (by omega) d_Md_arrange_108 (fun H locs hP hD hS => ?_)
              have hP : va_P D kcl [(h, .inr (5, [.int (nI th), .int (nI n), .ref a1, .ref a2, .ref a3, .ref a4, .int (nI wi), .int (nI bu), .int (nI L), .ref c1, .int (nI ax), .int (nI va), .int (nI sl), .int cv, .int (nI me), .ref b1, .ref b2, .int (nI L2), .ref c2, .int (nI k), .ref r1, .ref r2, .ref z1, .ref n1, .ref t1])), (r1, .inl (cI, 10, .inl (wA vi))), (r2, .inl (cI, 10, .inl (wA (va_up vs j (g2 k))))), (b2, .inl (cI, 10, .inl (wA g2)))] H := hP
              have hD : va_D A [(h, .inr (5, [.int (nI th), .int (nI n), .ref a1, .ref a2, .ref a3, .ref a4, .int (nI wi), .int (nI bu), .int (nI L), .ref c1, .int (nI ax), .int (nI va), .int (nI sl), .int cv, .int (nI me), .ref b1, .ref b2, .int (nI L2), .ref c2, .int (nI k), .ref r1, .ref r2, .ref z1, .ref n1, .ref t1])), (r1, .inl (cI, 10, .inl (wA vi))), (r2, .inl (cI, 10, .inl (wA (va_up vs j (g2 k))))), (b2, .inl (cI, 10, .inl (wA g2)))] := hD
              refine lv_aload_n hx hb d_Md_arrange_109 rfl (lv_at hl 0 rfl) ?_
              refine va_get (D := D) (ci := 5) (v := .ref r1) (C := R_Md) (T := T_Md) (N := 25) hx hb ht u_Md hown hK hP 0 rfl rfl 20 (by decide) (ht _ wd_915) (fun _ h9 => h9) rfl d_Md_arrange_110 ?_
              refine lv_iload hx hb d_Md_arrange_113 (lv_at hl 4 rfl) ?_
              refine lv_iload_n hx hb d_Md_arrange_115 rfl (lv_at hl 2 rfl) ?_
              refine wi_ast hx hb hK hP hD hS 1 0 rfl rfl (by omega) (by omega) d_Md_arrange_116 (fun H locs hP hD hS => ?_)
              have hP : va_P D kcl [(h, .inr (5, [.int (nI th), .int (nI n), .ref a1, .ref a2, .ref a3, .ref a4, .int (nI wi), .int (nI bu), .int (nI L), .ref c1, .int (nI ax), .int (nI va), .int (nI sl), .int cv, .int (nI me), .ref b1, .ref b2, .int (nI L2), .ref c2, .int (nI k), .ref r1, .ref r2, .ref z1, .ref n1, .ref t1])), (r1, .inl (cI, 10, .inl (wA (va_up vi j k)))), (r2, .inl (cI, 10, .inl (wA (va_up vs j (g2 k))))), (b2, .inl (cI, 10, .inl (wA g2)))] H := hP
              have hD : va_D A [(h, .inr (5, [.int (nI th), .int (nI n), .ref a1, .ref a2, .ref a3, .ref a4, .int (nI wi), .int (nI bu), .int (nI L), .ref c1, .int (nI ax), .int (nI va), .int (nI sl), .int cv, .int (nI me), .ref b1, .ref b2, .int (nI L2), .ref c2, .int (nI k), .ref r1, .ref r2, .ref z1, .ref n1, .ref t1])), (r1, .inl (cI, 10, .inl (wA (va_up vi j k)))), (r2, .inl (cI, 10, .inl (wA (va_up vs j (g2 k))))), (b2, .inl (cI, 10, .inl (wA g2)))] := hD
              refine lv_aload_n hx hb d_Md_arrange_117 rfl (lv_at hl 0 rfl) ?_
              refine lv_dup hx hb d_Md_arrange_118 rfl ?_
              refine va_get (D := D) (ci := 5) (v := .int (nI k)) (C := R_Md) (T := T_Md) (N := 25) hx hb ht u_Md hown hK hP 0 rfl rfl 19 (by decide) (ht _ wd_914) (fun _ h9 => h9) rfl d_Md_arrange_119 ?_
              refine lv_iconst (v := nI 1) hx hb d_Md_arrange_122 (by decide) ?_
              refine wi_add hx hb d_Md_arrange_123 ?_
              refine va_put (D := D) (ci := 5) (v := .int (nI (k + 1))) (ty := .int) (C := R_Md) (T := T_Md) (N := 25) hx hb ht u_Md t_Md t_Md_ok n_Md hown hK hP hD hS 0 rfl rfl 19 (by decide) (ht _ wd_914) (fun _ h9 => h9) rfl (by decide +kernel) rfl rfl (Nat.le_of_ble_eq_true rfl) d_Md_arrange_124 (fun H locs hP hD hS => ?_)
              have hP : va_P D kcl [(h, .inr (5, [.int (nI th), .int (nI n), .ref a1, .ref a2, .ref a3, .ref a4, .int (nI wi), .int (nI bu), .int (nI L), .ref c1, .int (nI ax), .int (nI va), .int (nI sl), .int cv, .int (nI me), .ref b1, .ref b2, .int (nI L2), .ref c2, .int (nI (k + 1)), .ref r1, .ref r2, .ref z1, .ref n1, .ref t1])), (r1, .inl (cI, 10, .inl (wA (va_up vi j k)))), (r2, .inl (cI, 10, .inl (wA (va_up vs j (g2 k))))), (b2, .inl (cI, 10, .inl (wA g2)))] H := hP
              have hD : va_D A [(h, .inr (5, [.int (nI th), .int (nI n), .ref a1, .ref a2, .ref a3, .ref a4, .int (nI wi), .int (nI bu), .int (nI L), .ref c1, .int (nI ax), .int (nI va), .int (nI sl), .int cv, .int (nI me), .ref b1, .ref b2, .int (nI L2), .ref c2, .int (nI (k + 1)), .ref r1, .ref r2, .ref z1, .ref n1, .ref t1])), (r1, .inl (cI, 10, .inl (wA (va_up vi j k)))), (r2, .inl (cI, 10, .inl (wA (va_up vs j (g2 k))))), (b2, .inl (cI, 10, .inl (wA g2)))] := hD
              refine wi_inc (k := 2) (lv' := [(2, .int (nI (k + 1))), (0, .ref h), (1, .int (nI 0)), (3, .int (nI (g2 k))), (4, .int (nI j))]) hx hb d_Md_arrange_127 hl rfl (by decide) rfl (fun ls hl => ?_)
              refine lv_goto hx hb d_Md_arrange_130 rfl ?_
              exact ih7 (me - (k + 1)) (by omega) (k + 1) (va_up vi j k) (va_up vs j (g2 k)) ls H locs rfl (by omega) (sb_so_in hgi hj hlow hhigh (up_in hvi k)) (sb_so_in hgs hj hlow hhigh (up_in hvs (g2 k))) (lv_sub hl [1, 2, 0] rfl) hP hD hS
            · refine lv_aload_n hx hb d_Md_arrange_50 rfl (lv_at hl 0 rfl) ?_
              refine va_get (D := D) (ci := 5) (v := .ref r2) (C := R_Md) (T := T_Md) (N := 25) hx hb ht u_Md hown hK hP 0 rfl rfl 21 (by decide) (ht _ wd_916) (fun _ h9 => h9) rfl d_Md_arrange_51 ?_
              refine lv_iload hx hb d_Md_arrange_54 (lv_at hl 4 rfl) ?_
              refine lv_iconst (v := nI 1) hx hb d_Md_arrange_56 (by decide) ?_
              refine wi_sub hx hb d_Md_arrange_57 (by omega) ?_
              refine wi_ald hx hb hK hP 2 0 rfl rfl (by omega) (by omega) d_Md_arrange_58 ?_
              refine lv_iload_n hx hb d_Md_arrange_59 rfl (lv_at hl 3 rfl) ?_
              refine wi_le hx hb d_Md_arrange_60 rfl (by rw [hvs.1 (j - 1) (by omega), hgs (j - 1) (by omega)]; have := hFb _ (Nat.lt_of_lt_of_le (pw_srt_get (r := g2) (n := k) (i := j - 1) (by omega)) hk); omega) (by omega) (fun h60 => ?_) (fun h60 => ?_)
              · have hlow : j = 0 ∨ g2 ((pw_srt g2 k).getD (j - 1) 0) ≤ g2 k := Or.inr (by rw [← hgs (j - 1) (by omega), ← hvs.1 (j - 1) (by omega)]; exact h60)
                refine lv_aload_n hx hb d_Md_arrange_101 rfl (lv_at hl 0 rfl) ?_
                refine va_get (D := D) (ci := 5) (v := .ref r2) (C := R_Md) (T := T_Md) (N := 25) hx hb ht u_Md hown hK hP 0 rfl rfl 21 (by decide) (ht _ wd_916) (fun _ h9 => h9) rfl d_Md_arrange_102 ?_
                refine lv_iload hx hb d_Md_arrange_105 (lv_at hl 4 rfl) ?_
                refine lv_iload_n hx hb d_Md_arrange_107 rfl (lv_at hl 3 rfl) ?_
                refine wi_ast hx hb hK hP hD hS 2 0 rfl rfl (by omega) (by omega) d_Md_arrange_108 (fun H locs hP hD hS => ?_)
                have hP : va_P D kcl [(h, .inr (5, [.int (nI th), .int (nI n), .ref a1, .ref a2, .ref a3, .ref a4, .int (nI wi), .int (nI bu), .int (nI L), .ref c1, .int (nI ax), .int (nI va), .int (nI sl), .int cv, .int (nI me), .ref b1, .ref b2, .int (nI L2), .ref c2, .int (nI k), .ref r1, .ref r2, .ref z1, .ref n1, .ref t1])), (r1, .inl (cI, 10, .inl (wA vi))), (r2, .inl (cI, 10, .inl (wA (va_up vs j (g2 k))))), (b2, .inl (cI, 10, .inl (wA g2)))] H := hP
                have hD : va_D A [(h, .inr (5, [.int (nI th), .int (nI n), .ref a1, .ref a2, .ref a3, .ref a4, .int (nI wi), .int (nI bu), .int (nI L), .ref c1, .int (nI ax), .int (nI va), .int (nI sl), .int cv, .int (nI me), .ref b1, .ref b2, .int (nI L2), .ref c2, .int (nI k), .ref r1, .ref r2, .ref z1, .ref n1, .ref t1])), (r1, .inl (cI, 10, .inl (wA vi))), (r2, .inl (cI, 10, .inl (wA (va_up vs j (g2 k))))), (b2, .inl (cI, 10, .inl (wA g2)))] := hD
                refine lv_aload_n hx hb d_Md_arrange_109 rfl (lv_at hl 0 rfl) ?_
                refine va_get (D := D) (ci := 5) (v := .ref r1) (C := R_Md) (T := T_Md) (N := 25) hx hb ht u_Md hown hK hP 0 rfl rfl 20 (by decide) (ht _ wd_915) (fun _ h9 => h9) rfl d_Md_arrange_110 ?_
                refine lv_iload hx hb d_Md_arrange_113 (lv_at hl 4 rfl) ?_
                refine lv_iload_n hx hb d_Md_arrange_115 rfl (lv_at hl 2 rfl) ?_
                refine wi_ast hx hb hK hP hD hS 1 0 rfl rfl (by omega) (by omega) d_Md_arrange_116 (fun H locs hP hD hS => ?_)
                have hP : va_P D kcl [(h, .inr (5, [.int (nI th), .int (nI n), .ref a1, .ref a2, .ref a3, .ref a4, .int (nI wi), .int (nI bu), .int (nI L), .ref c1, .int (nI ax), .int (nI va), .int (nI sl), .int cv, .int (nI me), .ref b1, .ref b2, .int (nI L2), .ref c2, .int (nI k), .ref r1, .ref r2, .ref z1, .ref n1, .ref t1])), (r1, .inl (cI, 10, .inl (wA (va_up vi j k)))), (r2, .inl (cI, 10, .inl (wA (va_up vs j (g2 k))))), (b2, .inl (cI, 10, .inl (wA g2)))] H := hP
                have hD : va_D A [(h, .inr (5, [.int (nI th), .int (nI n), .ref a1, .ref a2, .ref a3, .ref a4, .int (nI wi), .int (nI bu), .int (nI L), .ref c1, .int (nI ax), .int (nI va), .int (nI sl), .int cv, .int (nI me), .ref b1, .ref b2, .int (nI L2), .ref c2, .int (nI k), .ref r1, .ref r2, .ref z1, .ref n1, .ref t1])), (r1, .inl (cI, 10, .inl (wA (va_up vi j k)))), (r2, .inl (cI, 10, .inl (wA (va_up vs j (g2 k))))), (b2, .inl (cI, 10, .inl (wA g2)))] := hD
                refine lv_aload_n hx hb d_Md_arrange_117 rfl (lv_at hl 0 rfl) ?_
                refine lv_dup hx hb d_Md_arrange_118 rfl ?_
                refine va_get (D := D) (ci := 5) (v := .int (nI k)) (C := R_Md) (T := T_Md) (N := 25) hx hb ht u_Md hown hK hP 0 rfl rfl 19 (by decide) (ht _ wd_914) (fun _ h9 => h9) rfl d_Md_arrange_119 ?_
                refine lv_iconst (v := nI 1) hx hb d_Md_arrange_122 (by decide) ?_
                refine wi_add hx hb d_Md_arrange_123 ?_
                refine va_put (D := D) (ci := 5) (v := .int (nI (k + 1))) (ty := .int) (C := R_Md) (T := T_Md) (N := 25) hx hb ht u_Md t_Md t_Md_ok n_Md hown hK hP hD hS 0 rfl rfl 19 (by decide) (ht _ wd_914) (fun _ h9 => h9) rfl (by decide +kernel) rfl rfl (Nat.le_of_ble_eq_true rfl) d_Md_arrange_124 (fun H locs hP hD hS => ?_)
                have hP : va_P D kcl [(h, .inr (5, [.int (nI th), .int (nI n), .ref a1, .ref a2, .ref a3, .ref a4, .int (nI wi), .int (nI bu), .int (nI L), .ref c1, .int (nI ax), .int (nI va), .int (nI sl), .int cv, .int (nI me), .ref b1, .ref b2, .int (nI L2), .ref c2, .int (nI (k + 1)), .ref r1, .ref r2, .ref z1, .ref n1, .ref t1])), (r1, .inl (cI, 10, .inl (wA (va_up vi j k)))), (r2, .inl (cI, 10, .inl (wA (va_up vs j (g2 k))))), (b2, .inl (cI, 10, .inl (wA g2)))] H := hP
                have hD : va_D A [(h, .inr (5, [.int (nI th), .int (nI n), .ref a1, .ref a2, .ref a3, .ref a4, .int (nI wi), .int (nI bu), .int (nI L), .ref c1, .int (nI ax), .int (nI va), .int (nI sl), .int cv, .int (nI me), .ref b1, .ref b2, .int (nI L2), .ref c2, .int (nI (k + 1)), .ref r1, .ref r2, .ref z1, .ref n1, .ref t1])), (r1, .inl (cI, 10, .inl (wA (va_up vi j k)))), (r2, .inl (cI, 10, .inl (wA (va_up vs j (g2 k))))), (b2, .inl (cI, 10, .inl (wA g2)))] := hD
                refine wi_inc (k := 2) (lv' := [(2, .int (nI (k + 1))), (0, .ref h), (1, .int (nI 0)), (3, .int (nI (g2 k))), (4, .int (nI j))]) hx hb d_Md_arrange_127 hl rfl (by decide) rfl (fun ls hl => ?_)
                refine lv_goto hx hb d_Md_arrange_130 rfl ?_
                exact ih7 (me - (k + 1)) (by omega) (k + 1) (va_up vi j k) (va_up vs j (g2 k)) ls H locs rfl (by omega) (sb_so_in hgi hj hlow hhigh (up_in hvi k)) (sb_so_in hgs hj hlow hhigh (up_in hvs (g2 k))) (lv_sub hl [1, 2, 0] rfl) hP hD hS
              · refine lv_aload_n hx hb d_Md_arrange_63 rfl (lv_at hl 0 rfl) ?_
                refine va_get (D := D) (ci := 5) (v := .ref r2) (C := R_Md) (T := T_Md) (N := 25) hx hb ht u_Md hown hK hP 0 rfl rfl 21 (by decide) (ht _ wd_916) (fun _ h9 => h9) rfl d_Md_arrange_64 ?_
                refine lv_iload hx hb d_Md_arrange_67 (lv_at hl 4 rfl) ?_
                refine lv_aload_n hx hb d_Md_arrange_69 rfl (lv_at hl 0 rfl) ?_
                refine va_get (D := D) (ci := 5) (v := .ref r2) (C := R_Md) (T := T_Md) (N := 25) hx hb ht u_Md hown hK hP 0 rfl rfl 21 (by decide) (ht _ wd_916) (fun _ h9 => h9) rfl d_Md_arrange_70 ?_
                refine lv_iload hx hb d_Md_arrange_73 (lv_at hl 4 rfl) ?_
                refine lv_iconst (v := nI 1) hx hb d_Md_arrange_75 (by decide) ?_
                refine wi_sub hx hb d_Md_arrange_76 (by omega) ?_
                refine wi_ald hx hb hK hP 2 0 rfl rfl (by omega) (by omega) d_Md_arrange_77 ?_
                refine wi_ast hx hb hK hP hD hS 2 0 rfl rfl (by omega) (by omega) d_Md_arrange_78 (fun H locs hP hD hS => ?_)
                have hP : va_P D kcl [(h, .inr (5, [.int (nI th), .int (nI n), .ref a1, .ref a2, .ref a3, .ref a4, .int (nI wi), .int (nI bu), .int (nI L), .ref c1, .int (nI ax), .int (nI va), .int (nI sl), .int cv, .int (nI me), .ref b1, .ref b2, .int (nI L2), .ref c2, .int (nI k), .ref r1, .ref r2, .ref z1, .ref n1, .ref t1])), (r1, .inl (cI, 10, .inl (wA vi))), (r2, .inl (cI, 10, .inl (wA (va_up vs j (vs (j - 1)))))), (b2, .inl (cI, 10, .inl (wA g2)))] H := hP
                have hD : va_D A [(h, .inr (5, [.int (nI th), .int (nI n), .ref a1, .ref a2, .ref a3, .ref a4, .int (nI wi), .int (nI bu), .int (nI L), .ref c1, .int (nI ax), .int (nI va), .int (nI sl), .int cv, .int (nI me), .ref b1, .ref b2, .int (nI L2), .ref c2, .int (nI k), .ref r1, .ref r2, .ref z1, .ref n1, .ref t1])), (r1, .inl (cI, 10, .inl (wA vi))), (r2, .inl (cI, 10, .inl (wA (va_up vs j (vs (j - 1)))))), (b2, .inl (cI, 10, .inl (wA g2)))] := hD
                refine lv_aload_n hx hb d_Md_arrange_79 rfl (lv_at hl 0 rfl) ?_
                refine va_get (D := D) (ci := 5) (v := .ref r1) (C := R_Md) (T := T_Md) (N := 25) hx hb ht u_Md hown hK hP 0 rfl rfl 20 (by decide) (ht _ wd_915) (fun _ h9 => h9) rfl d_Md_arrange_80 ?_
                refine lv_iload hx hb d_Md_arrange_83 (lv_at hl 4 rfl) ?_
                refine lv_aload_n hx hb d_Md_arrange_85 rfl (lv_at hl 0 rfl) ?_
                refine va_get (D := D) (ci := 5) (v := .ref r1) (C := R_Md) (T := T_Md) (N := 25) hx hb ht u_Md hown hK hP 0 rfl rfl 20 (by decide) (ht _ wd_915) (fun _ h9 => h9) rfl d_Md_arrange_86 ?_
                refine lv_iload hx hb d_Md_arrange_89 (lv_at hl 4 rfl) ?_
                refine lv_iconst (v := nI 1) hx hb d_Md_arrange_91 (by decide) ?_
                refine wi_sub hx hb d_Md_arrange_92 (by omega) ?_
                refine wi_ald hx hb hK hP 1 0 rfl rfl (by omega) (by omega) d_Md_arrange_93 ?_
                refine wi_ast hx hb hK hP hD hS 1 0 rfl rfl (by omega) (by omega) d_Md_arrange_94 (fun H locs hP hD hS => ?_)
                have hP : va_P D kcl [(h, .inr (5, [.int (nI th), .int (nI n), .ref a1, .ref a2, .ref a3, .ref a4, .int (nI wi), .int (nI bu), .int (nI L), .ref c1, .int (nI ax), .int (nI va), .int (nI sl), .int cv, .int (nI me), .ref b1, .ref b2, .int (nI L2), .ref c2, .int (nI k), .ref r1, .ref r2, .ref z1, .ref n1, .ref t1])), (r1, .inl (cI, 10, .inl (wA (va_up vi j (vi (j - 1)))))), (r2, .inl (cI, 10, .inl (wA (va_up vs j (vs (j - 1)))))), (b2, .inl (cI, 10, .inl (wA g2)))] H := hP
                have hD : va_D A [(h, .inr (5, [.int (nI th), .int (nI n), .ref a1, .ref a2, .ref a3, .ref a4, .int (nI wi), .int (nI bu), .int (nI L), .ref c1, .int (nI ax), .int (nI va), .int (nI sl), .int cv, .int (nI me), .ref b1, .ref b2, .int (nI L2), .ref c2, .int (nI k), .ref r1, .ref r2, .ref z1, .ref n1, .ref t1])), (r1, .inl (cI, 10, .inl (wA (va_up vi j (vi (j - 1)))))), (r2, .inl (cI, 10, .inl (wA (va_up vs j (vs (j - 1)))))), (b2, .inl (cI, 10, .inl (wA g2)))] := hD
                refine wi_dec (k := 4) (lv' := [(4, .int (nI (j - 1))), (0, .ref h), (1, .int (nI 0)), (2, .int (nI k)), (3, .int (nI (g2 k)))]) hx hb d_Md_arrange_95 hl (by omega) rfl (by decide) rfl (fun ls hl => ?_)
                refine lv_goto hx hb d_Md_arrange_98 rfl ?_
                exact ih45 ((j - 1)) (by omega) (j - 1) (va_up vi j (vi (j - 1))) (va_up vs j (vs (j - 1))) ls H locs rfl (by omega) (fun x h1 h2 => by
            by_cases e : x = j - 1
            · rw [e, ← hvs.1 (j - 1) (by omega)]; exact h60
            · exact hbig x (by omega) h2) (up_mv hvi h47 hj) (up_mv hvs h47 hj) (lv_sub hl [1, 2, 3, 4, 0] rfl) hP hD hS
        exact loop45 _ (k) (gi) (gs) ls H locs rfl (Nat.le_refl _) (fun x h1 h2 => by omega) ⟨fun t _ => rfl, fun t h1 h2 => by omega⟩ ⟨fun t _ => rfl, fun t h1 h2 => by omega⟩ (lv_sub hl [2, 3, 4, 1, 0] rfl) hP hD hS
  exact loop7 _ (0) (ro) (ru) ls H locs rfl (Nat.zero_le _) (fun i hi => absurd hi (Nat.not_lt_zero i)) (fun i hi => absurd hi (Nat.not_lt_zero i)) (lv_sub hl [1, 2, 0] rfl) hP hD hS
set_option maxHeartbeats 4000000 in
set_option maxRecDepth 100000 in
theorem c_Md_arrange1 (l : Launch) (Hs : Heap) (D : va_G) (cI cZ cL : ClassId) (h : Nat) (a1 : Nat) (a2 : Nat) (a3 : Nat) (a4 : Nat) (c1 : Nat) (b1 : Nat) (b2 : Nat) (c2 : Nat) (r1 : Nat) (r2 : Nat) (z1 : Nat) (n1 : Nat) (t1 : Nat) (th : Nat) (n : Nat) (wi : Nat) (bu : Nat) (L : Nat) (ax : Nat) (va : Nat) (sl : Nat) (me : Nat) (L2 : Nat) (mn : Nat) (cv : Int32) (ro : Nat → Nat) (ru : Nat → Nat) (g2 : Nat → Nat) (b : Nat) (hme : me ≤ 10) (hg2 : ∀ t, t < me → g2 t ≤ 40) (hb0 : 0 < b) (hb1 : b ≤ 15) (hbs : ∀ t, t < me → b ≤ g2 t) : kV l Hs D kcl (ty3 cI cZ cL) y_Md_arrange (mws y_Md_arrange b_Md_arrange 5 (Option.none : Option Jvm.ClassFile.FieldType)) ({ frames := 1, cells := 0, slots := 0, locals := 22 } : Room) [.ref h, .int (nI b)] [(h, .inr (5, [.int (nI th), .int (nI n), .ref a1, .ref a2, .ref a3, .ref a4, .int (nI wi), .int (nI bu), .int (nI L), .ref c1, .int (nI ax), .int (nI va), .int (nI sl), .int cv, .int (nI me), .ref b1, .ref b2, .int (nI L2), .ref c2, .int (nI mn), .ref r1, .ref r2, .ref z1, .ref n1, .ref t1])), (r1, .inl (cI, 10, .inl (wA ro))), (r2, .inl (cI, 10, .inl (wA ru))), (b2, .inl (cI, 10, .inl (wA g2)))] (fun w => ∃ (ro2 : Nat → Nat), ∃ (ru2 : Nat → Nat), (md_or (pw_r b g2) me ro2 ru2) ∧ w = [(h, .inr (5, [.int (nI th), .int (nI n), .ref a1, .ref a2, .ref a3, .ref a4, .int (nI wi), .int (nI bu), .int (nI L), .ref c1, .int (nI ax), .int (nI va), .int (nI sl), .int cv, .int (nI me), .ref b1, .ref b2, .int (nI L2), .ref c2, .int (nI me), .ref r1, .ref r2, .ref z1, .ref n1, .ref t1])), (r1, .inl (cI, 10, .inl (wA ro2))), (r2, .inl (cI, 10, .inl (wA ru2))), (b2, .inl (cI, 10, .inl (wA g2)))]) := by
  intro sz
  refine k_of (cc := b_Md_arrange) (maxL := 5) (ret := (Option.none : Option Jvm.ClassFile.FieldType)) (by decide) rfl (Nat.le_of_ble_eq_true rfl) ?_
  intro p e s m args below meth c ls H locs A Q hQ hx hb hml hr hts hown hlk hnm hsz hAe hP hK hD hS hA hE hAH hl
  have ht : ∀ w ∈ mw, w.before args s = true := fun w h => hts w (List.mem_cons_of_mem _ h)
  have hl : lv_has ls 5 [(0, .ref h), (1, .int (nI b))] := hl
  have hFb : ∀ t, t < me → (pw_r b g2) t ≤ 40 := fun t ht => Nat.le_trans (pw_rnd_le 6 b (g2 t) (hbs t ht)) (hg2 t ht)
  refine lv_aload_n hx hb d_Md_arrange_0 rfl (lv_at hl 0 rfl) ?_
  refine lv_iconst (v := nI 0) hx hb d_Md_arrange_1 (by decide) ?_
  refine va_put (D := D) (ci := 5) (v := .int (nI 0)) (ty := .int) (C := R_Md) (T := T_Md) (N := 25) hx hb ht u_Md t_Md t_Md_ok n_Md hown hK hP hD hS 0 rfl rfl 19 (by decide) (ht _ wd_914) (fun _ h9 => h9) rfl (by decide +kernel) rfl rfl (Nat.le_of_ble_eq_true rfl) d_Md_arrange_2 (fun H locs hP hD hS => ?_)
  have hP : va_P D kcl [(h, .inr (5, [.int (nI th), .int (nI n), .ref a1, .ref a2, .ref a3, .ref a4, .int (nI wi), .int (nI bu), .int (nI L), .ref c1, .int (nI ax), .int (nI va), .int (nI sl), .int cv, .int (nI me), .ref b1, .ref b2, .int (nI L2), .ref c2, .int (nI 0), .ref r1, .ref r2, .ref z1, .ref n1, .ref t1])), (r1, .inl (cI, 10, .inl (wA ro))), (r2, .inl (cI, 10, .inl (wA ru))), (b2, .inl (cI, 10, .inl (wA g2)))] H := hP
  have hD : va_D A [(h, .inr (5, [.int (nI th), .int (nI n), .ref a1, .ref a2, .ref a3, .ref a4, .int (nI wi), .int (nI bu), .int (nI L), .ref c1, .int (nI ax), .int (nI va), .int (nI sl), .int cv, .int (nI me), .ref b1, .ref b2, .int (nI L2), .ref c2, .int (nI 0), .ref r1, .ref r2, .ref z1, .ref n1, .ref t1])), (r1, .inl (cI, 10, .inl (wA ro))), (r2, .inl (cI, 10, .inl (wA ru))), (b2, .inl (cI, 10, .inl (wA g2)))] := hD
  refine lv_iconst (v := nI 0) hx hb d_Md_arrange_5 (by decide) ?_
  refine lv_istore_n (lv' := [(2, .int (nI 0)), (0, .ref h), (1, .int (nI b))]) hx hb d_Md_arrange_6 rfl hl (by decide) rfl (fun ls hl => ?_)
  have loop7 : ∀ (d : Nat) (k : Nat) (gi : Nat → Nat) (gs : Nat → Nat) (ls : Array Slot) (H : Heap) (locs : List Loc), me - k = d → (k ≤ me) → (sb_so (pw_r b g2) gi (fun t => t) k) → (sb_so (pw_r b g2) gs (pw_r b g2) k) → lv_has ls 5 [(0, .ref h), (1, .int (nI b)), (2, .int (nI k))] → va_P D kcl [(h, .inr (5, [.int (nI th), .int (nI n), .ref a1, .ref a2, .ref a3, .ref a4, .int (nI wi), .int (nI bu), .int (nI L), .ref c1, .int (nI ax), .int (nI va), .int (nI sl), .int cv, .int (nI me), .ref b1, .ref b2, .int (nI L2), .ref c2, .int (nI k), .ref r1, .ref r2, .ref z1, .ref n1, .ref t1])), (r1, .inl (cI, 10, .inl (wA gi))), (r2, .inl (cI, 10, .inl (wA gs))), (b2, .inl (cI, 10, .inl (wA g2)))] H → va_D A [(h, .inr (5, [.int (nI th), .int (nI n), .ref a1, .ref a2, .ref a3, .ref a4, .int (nI wi), .int (nI bu), .int (nI L), .ref c1, .int (nI ax), .int (nI va), .int (nI sl), .int cv, .int (nI me), .ref b1, .ref b2, .int (nI L2), .ref c2, .int (nI k), .ref r1, .ref r2, .ref z1, .ref n1, .ref t1])), (r1, .inl (cI, 10, .inl (wA gi))), (r2, .inl (cI, 10, .inl (wA gs))), (b2, .inl (cI, 10, .inl (wA g2)))] → va_S A s.heap H locs → W p l e ({ frames := 1, cells := 0, slots := 0, locals := 22 } : Room) s m args below meth c H locs 0 0 Q (F0 m 7 ls []) := by
    intro d
    induction d using Nat.strongRecOn with
    | ind d ih7 =>
      intro k gi gs ls H locs hd7 hk hgi hgs hl hP hD hS
      refine lv_iload_n hx hb d_Md_arrange_7 rfl (lv_at hl 2 rfl) ?_
      refine lv_aload_n hx hb d_Md_arrange_8 rfl (lv_at hl 0 rfl) ?_
      refine va_get (D := D) (ci := 5) (v := .int (nI me)) (C := R_Md) (T := T_Md) (N := 25) hx hb ht u_Md hown hK hP 0 rfl rfl 14 (by decide) (ht _ wd_909) (fun _ h9 => h9) rfl d_Md_arrange_9 ?_
      refine wi_ge hx hb d_Md_arrange_12 rfl (by omega) (by omega) (fun h12 => ?_) (fun h12 => ?_)
      · obtain rfl : me = k := by omega
        exact k_retv hQ hx hb hr hlk hAe hK hP hD hS (Nat.le_of_ble_eq_true rfl) (Nat.le_of_ble_eq_true rfl) (Nat.le_of_ble_eq_true rfl) ⟨gi, gs, ⟨hgs, hgi⟩, rfl⟩ d_Md_arrange_133
      · have hf2k := hFb k h12
        refine lv_iload_n hx hb d_Md_arrange_15 rfl (lv_at hl 1 rfl) ?_
        refine wi_if_ne hx hb d_Md_arrange_16 rfl (by omega) (fun h16 => ?_) (fun h16 => ?_)
        · refine lv_aload_n hx hb d_Md_arrange_28 rfl (lv_at hl 0 rfl) ?_
          refine va_get (D := D) (ci := 5) (v := .ref b2) (C := R_Md) (T := T_Md) (N := 25) hx hb ht u_Md hown hK hP 0 rfl rfl 16 (by decide) (ht _ wd_911) (fun _ h9 => h9) rfl d_Md_arrange_29 ?_
          refine lv_iload_n hx hb d_Md_arrange_32 rfl (lv_at hl 2 rfl) ?_
          refine wi_ald hx hb hK hP 3 0 rfl rfl (by omega) (by omega) d_Md_arrange_33 ?_
          refine lv_iload_n hx hb d_Md_arrange_34 rfl (lv_at hl 1 rfl) ?_
          refine ck_i (wc := []) (va_runS (As := [.int (nI (g2 k)), .int (nI b)]) (rest := []) ⟨hx, hb, hml, hown, ht⟩ (c_Md_round l Hs D cI cZ cL (g2 k) b (hg2 k h12) hb0 hb1 H.size) (gw_S 2 ht wd_1009 wd_5 wd_1007 wd_1008 (by decide +kernel) ⟨Nat.le_of_ble_eq_true rfl, Nat.le_of_ble_eq_true rfl⟩) (k_preS hE hAH hK hP hD hS [] rfl rfl) rfl rfl hl.1 rfl (lv_room (Nat.le_of_ble_eq_true rfl)) d_Md_arrange_35 ⟨Nat.le_of_ble_eq_true rfl, Nat.le_of_ble_eq_true rfl⟩) hP hD hS hA [] rfl rfl (fun r35 w1 H locs hpost hP hD hS => ?_)
          obtain ⟨rfl, rfl⟩ := hpost
          have hP : va_P D kcl [(h, .inr (5, [.int (nI th), .int (nI n), .ref a1, .ref a2, .ref a3, .ref a4, .int (nI wi), .int (nI bu), .int (nI L), .ref c1, .int (nI ax), .int (nI va), .int (nI sl), .int cv, .int (nI me), .ref b1, .ref b2, .int (nI L2), .ref c2, .int (nI k), .ref r1, .ref r2, .ref z1, .ref n1, .ref t1])), (r1, .inl (cI, 10, .inl (wA gi))), (r2, .inl (cI, 10, .inl (wA gs))), (b2, .inl (cI, 10, .inl (wA g2)))] H := hP
          have hD : va_D A [(h, .inr (5, [.int (nI th), .int (nI n), .ref a1, .ref a2, .ref a3, .ref a4, .int (nI wi), .int (nI bu), .int (nI L), .ref c1, .int (nI ax), .int (nI va), .int (nI sl), .int cv, .int (nI me), .ref b1, .ref b2, .int (nI L2), .ref c2, .int (nI k), .ref r1, .ref r2, .ref z1, .ref n1, .ref t1])), (r1, .inl (cI, 10, .inl (wA gi))), (r2, .inl (cI, 10, .inl (wA gs))), (b2, .inl (cI, 10, .inl (wA g2)))] := hD
          refine lv_istore_n (lv' := [(3, .int (nI (pw_r b g2 k))), (0, .ref h), (1, .int (nI b)), (2, .int (nI k))]) hx hb d_Md_arrange_38 rfl hl (by decide) rfl (fun ls hl => ?_)
          refine lv_aload_n hx hb d_Md_arrange_39 rfl (lv_at hl 1 rfl) ?_
          refine va_get (D := D) (ci := 5) (v := .int (nI k)) (C := R_Md) (T := T_Md) (N := 25) hx hb ht u_Md hown hK hP 0 rfl rfl 19 (by decide) (ht _ wd_914) (fun _ h9 => h9) rfl d_Md_arrange_40 ?_
          refine lv_istore (lv' := [(4, .int (nI k)), (3, .int (nI (pw_r b g2 k))), (0, .ref h), (1, .int (nI b)), (2, .int (nI k))]) hx hb d_Md_arrange_43 hl (by decide) rfl (fun ls hl => ?_)
          have loop45 : ∀ (d : Nat) (j : Nat) (vi : Nat → Nat) (vs : Nat → Nat) (ls : Array Slot) (H : Heap) (locs : List Loc), j = d → (j ≤ k) → (∀ x, j ≤ x → x < k → pw_r b g2 k < gs x) → ((∀ t, t < j → vi t = gi t) ∧ ∀ t, j ≤ t → t < k → vi (t + 1) = gi t) → ((∀ t, t < j → vs t = gs t) ∧ ∀ t, j ≤ t → t < k → vs (t + 1) = gs t) → lv_has ls 5 [(0, .ref h), (1, .int (nI b)), (2, .int (nI k)), (3, .int (nI (pw_r b g2 k))), (4, .int (nI j))] → va_P D kcl [(h, .inr (5, [.int (nI th), .int (nI n), .ref a1, .ref a2, .ref a3, .ref a4, .int (nI wi), .int (nI bu), .int (nI L), .ref c1, .int (nI ax), .int (nI va), .int (nI sl), .int cv, .int (nI me), .ref b1, .ref b2, .int (nI L2), .ref c2, .int (nI k), .ref r1, .ref r2, .ref z1, .ref n1, .ref t1])), (r1, .inl (cI, 10, .inl (wA vi))), (r2, .inl (cI, 10, .inl (wA vs))), (b2, .inl (cI, 10, .inl (wA g2)))] H → va_D A [(h, .inr (5, [.int (nI th), .int (nI n), .ref a1, .ref a2, .ref a3, .ref a4, .int (nI wi), .int (nI bu), .int (nI L), .ref c1, .int (nI ax), .int (nI va), .int (nI sl), .int cv, .int (nI me), .ref b1, .ref b2, .int (nI L2), .ref c2, .int (nI k), .ref r1, .ref r2, .ref z1, .ref n1, .ref t1])), (r1, .inl (cI, 10, .inl (wA vi))), (r2, .inl (cI, 10, .inl (wA vs))), (b2, .inl (cI, 10, .inl (wA g2)))] → va_S A s.heap H locs → W p l e ({ frames := 1, cells := 0, slots := 0, locals := 22 } : Room) s m args below meth c H locs 0 0 Q (F0 m 45 ls []) := by
            intro d
            induction d using Nat.strongRecOn with
            | ind d ih45 =>
              intro j vi vs ls H locs hd45 hj hbig hvi hvs hl hP hD hS
              have hhigh : ∀ x, j ≤ x → x < k → (pw_r b g2) k < (pw_r b g2) ((pw_srt (pw_r b g2) k).getD x 0) := fun x h1 h2 => by rw [← hgs x h2]; exact hbig x h1 h2
              refine lv_iload hx hb d_Md_arrange_45 (lv_at hl 4 rfl) ?_
              refine wi_if_le hx hb d_Md_arrange_47 rfl (by omega) (fun h47 => ?_) (fun h47 => ?_)
              · have hlow : j = 0 ∨ (pw_r b g2) ((pw_srt (pw_r b g2) k).getD (j - 1) 0) ≤ (pw_r b g2) k := Or.inl h47
                refine lv_aload_n hx hb d_Md_arrange_101 rfl (lv_at hl 0 rfl) ?_
                refine va_get (D := D) (ci := 5) (v := .ref r2) (C := R_Md) (T := T_Md) (N := 25) hx hb ht u_Md hown hK hP 0 rfl rfl 21 (by decide) (ht _ wd_916) (fun _ h9 => h9) rfl d_Md_arrange_102 ?_
                refine lv_iload hx hb d_Md_arrange_105 (lv_at hl 4 rfl) ?_
                refine lv_iload_n hx hb d_Md_arrange_107 rfl (lv_at hl 3 rfl) ?_
                refine wi_ast hx hb hK hP hD hS 2 0 rfl rfl (by omega) (by omega) d_Md_arrange_108 (fun H locs hP hD hS => ?_)
                have hP : va_P D kcl [(h, .inr (5, [.int (nI th), .int (nI n), .ref a1, .ref a2, .ref a3, .ref a4, .int (nI wi), .int (nI bu), .int (nI L), .ref c1, .int (nI ax), .int (nI va), .int (nI sl), .int cv, .int (nI me), .ref b1, .ref b2, .int (nI L2), .ref c2, .int (nI k), .ref r1, .ref r2, .ref z1, .ref n1, .ref t1])), (r1, .inl (cI, 10, .inl (wA vi))), (r2, .inl (cI, 10, .inl (wA (va_up vs j (pw_r b g2 k))))), (b2, .inl (cI, 10, .inl (wA g2)))] H := hP
                have hD : va_D A [(h, .inr (5, [.int (nI th), .int (nI n), .ref a1, .ref a2, .ref a3, .ref a4, .int (nI wi), .int (nI bu), .int (nI L), .ref c1, .int (nI ax), .int (nI va), .int (nI sl), .int cv, .int (nI me), .ref b1, .ref b2, .int (nI L2), .ref c2, .int (nI k), .ref r1, .ref r2, .ref z1, .ref n1, .ref t1])), (r1, .inl (cI, 10, .inl (wA vi))), (r2, .inl (cI, 10, .inl (wA (va_up vs j (pw_r b g2 k))))), (b2, .inl (cI, 10, .inl (wA g2)))] := hD
                refine lv_aload_n hx hb d_Md_arrange_109 rfl (lv_at hl 0 rfl) ?_
                refine va_get (D := D) (ci := 5) (v := .ref r1) (C := R_Md) (T := T_Md) (N := 25) hx hb ht u_Md hown hK hP 0 rfl rfl 20 (by decide) (ht _ wd_915) (fun _ h9 => h9) rfl d_Md_arrange_110 ?_
                refine lv_iload hx hb d_Md_arrange_113 (lv_at hl 4 rfl) ?_
                refine lv_iload_n hx hb d_Md_arrange_115 rfl (lv_at hl 2 rfl) ?_
                refine wi_ast hx hb hK hP hD hS 1 0 rfl rfl (by omega) (by omega) d_Md_arrange_116 (fun H locs hP hD hS => ?_)
                have hP : va_P D kcl [(h, .inr (5, [.int (nI th), .int (nI n), .ref a1, .ref a2, .ref a3, .ref a4, .int (nI wi), .int (nI bu), .int (nI L), .ref c1, .int (nI ax), .int (nI va), .int (nI sl), .int cv, .int (nI me), .ref b1, .ref b2, .int (nI L2), .ref c2, .int (nI k), .ref r1, .ref r2, .ref z1, .ref n1, .ref t1])), (r1, .inl (cI, 10, .inl (wA (va_up vi j k)))), (r2, .inl (cI, 10, .inl (wA (va_up vs j (pw_r b g2 k))))), (b2, .inl (cI, 10, .inl (wA g2)))] H := hP
                have hD : va_D A [(h, .inr (5, [.int (nI th), .int (nI n), .ref a1, .ref a2, .ref a3, .ref a4, .int (nI wi), .int (nI bu), .int (nI L), .ref c1, .int (nI ax), .int (nI va), .int (nI sl), .int cv, .int (nI me), .ref b1, .ref b2, .int (nI L2), .ref c2, .int (nI k), .ref r1, .ref r2, .ref z1, .ref n1, .ref t1])), (r1, .inl (cI, 10, .inl (wA (va_up vi j k)))), (r2, .inl (cI, 10, .inl (wA (va_up vs j (pw_r b g2 k))))), (b2, .inl (cI, 10, .inl (wA g2)))] := hD
                refine lv_aload_n hx hb d_Md_arrange_117 rfl (lv_at hl 0 rfl) ?_
                refine lv_dup hx hb d_Md_arrange_118 rfl ?_
                refine va_get (D := D) (ci := 5) (v := .int (nI k)) (C := R_Md) (T := T_Md) (N := 25) hx hb ht u_Md hown hK hP 0 rfl rfl 19 (by decide) (ht _ wd_914) (fun _ h9 => h9) rfl d_Md_arrange_119 ?_
                refine lv_iconst (v := nI 1) hx hb d_Md_arrange_122 (by decide) ?_
                refine wi_add hx hb d_Md_arrange_123 ?_
                refine va_put (D := D) (ci := 5) (v := .int (nI (k + 1))) (ty := .int) (C := R_Md) (T := T_Md) (N := 25) hx hb ht u_Md t_Md t_Md_ok n_Md hown hK hP hD hS 0 rfl rfl 19 (by decide) (ht _ wd_914) (fun _ h9 => h9) rfl (by decide +kernel) rfl rfl (Nat.le_of_ble_eq_true rfl) d_Md_arrange_124 (fun H locs hP hD hS => ?_)
                have hP : va_P D kcl [(h, .inr (5, [.int (nI th), .int (nI n), .ref a1, .ref a2, .ref a3, .ref a4, .int (nI wi), .int (nI bu), .int (nI L), .ref c1, .int (nI ax), .int (nI va), .int (nI sl), .int cv, .int (nI me), .ref b1, .ref b2, .int (nI L2), .ref c2, .int (nI (k + 1)), .ref r1, .ref r2, .ref z1, .ref n1, .ref t1])), (r1, .inl (cI, 10, .inl (wA (va_up vi j k)))), (r2, .inl (cI, 10, .inl (wA (va_up vs j (pw_r b g2 k))))), (b2, .inl (cI, 10, .inl (wA g2)))] H := hP
                have hD : va_D A [(h, .inr (5, [.int (nI th), .int (nI n), .ref a1, .ref a2, .ref a3, .ref a4, .int (nI wi), .int (nI bu), .int (nI L), .ref c1, .int (nI ax), .int (nI va), .int (nI sl), .int cv, .int (nI me), .ref b1, .ref b2, .int (nI L2), .ref c2, .int (nI (k + 1)), .ref r1, .ref r2, .ref z1, .ref n1, .ref t1])), (r1, .inl (cI, 10, .inl (wA (va_up vi j k)))), (r2, .inl (cI, 10, .inl (wA (va_up vs j (pw_r b g2 k))))), (b2, .inl (cI, 10, .inl (wA g2)))] := hD
                refine wi_inc (k := 2) (lv' := [(2, .int (nI (k + 1))), (0, .ref h), (1, .int (nI b)), (3, .int (nI (pw_r b g2 k))), (4, .int (nI j))]) hx hb d_Md_arrange_127 hl rfl (by decide) rfl (fun ls hl => ?_)
                refine lv_goto hx hb d_Md_arrange_130 rfl ?_
                exact ih7 (me - (k + 1)) (by omega) (k + 1) (va_up vi j k) (va_up vs j (pw_r b g2 k)) ls H locs rfl (by omega) (sb_so_in hgi hj hlow hhigh (up_in hvi k)) (sb_so_in hgs hj hlow hhigh (up_in hvs (pw_r b g2 k))) (lv_sub hl [1, 2, 0] rfl) hP hD hS
              · refine lv_aload_n hx hb d_Md_arrange_50 rfl (lv_at hl 0 rfl) ?_
                refine va_get (D := D) (ci := 5) (v := .ref r2) (C := R_Md) (T := T_Md) (N := 25) hx hb ht u_Md hown hK hP 0 rfl rfl 21 (by decide) (ht _ wd_916) (fun _ h9 => h9) rfl d_Md_arrange_51 ?_
                refine lv_iload hx hb d_Md_arrange_54 (lv_at hl 4 rfl) ?_
                refine lv_iconst (v := nI 1) hx hb d_Md_arrange_56 (by decide) ?_
                refine wi_sub hx hb d_Md_arrange_57 (by omega) ?_
                refine wi_ald hx hb hK hP 2 0 rfl rfl (by omega) (by omega) d_Md_arrange_58 ?_
                refine lv_iload_n hx hb d_Md_arrange_59 rfl (lv_at hl 3 rfl) ?_
                refine wi_le hx hb d_Md_arrange_60 rfl (by rw [hvs.1 (j - 1) (by omega), hgs (j - 1) (by omega)]; have := hFb _ (Nat.lt_of_lt_of_le (pw_srt_get (r := (pw_r b g2)) (n := k) (i := j - 1) (by omega)) hk); omega) (by omega) (fun h60 => ?_) (fun h60 => ?_)
                · have hlow : j = 0 ∨ (pw_r b g2) ((pw_srt (pw_r b g2) k).getD (j - 1) 0) ≤ (pw_r b g2) k := Or.inr (by rw [← hgs (j - 1) (by omega), ← hvs.1 (j - 1) (by omega)]; exact h60)
                  refine lv_aload_n hx hb d_Md_arrange_101 rfl (lv_at hl 0 rfl) ?_
                  refine va_get (D := D) (ci := 5) (v := .ref r2) (C := R_Md) (T := T_Md) (N := 25) hx hb ht u_Md hown hK hP 0 rfl rfl 21 (by decide) (ht _ wd_916) (fun _ h9 => h9) rfl d_Md_arrange_102 ?_
                  refine lv_iload hx hb d_Md_arrange_105 (lv_at hl 4 rfl) ?_
                  refine lv_iload_n hx hb d_Md_arrange_107 rfl (lv_at hl 3 rfl) ?_
                  refine wi_ast hx hb hK hP hD hS 2 0 rfl rfl (by omega) (by omega) d_Md_arrange_108 (fun H locs hP hD hS => ?_)
                  have hP : va_P D kcl [(h, .inr (5, [.int (nI th), .int (nI n), .ref a1, .ref a2, .ref a3, .ref a4, .int (nI wi), .int (nI bu), .int (nI L), .ref c1, .int (nI ax), .int (nI va), .int (nI sl), .int cv, .int (nI me), .ref b1, .ref b2, .int (nI L2), .ref c2, .int (nI k), .ref r1, .ref r2, .ref z1, .ref n1, .ref t1])), (r1, .inl (cI, 10, .inl (wA vi))), (r2, .inl (cI, 10, .inl (wA (va_up vs j (pw_r b g2 k))))), (b2, .inl (cI, 10, .inl (wA g2)))] H := hP
                  have hD : va_D A [(h, .inr (5, [.int (nI th), .int (nI n), .ref a1, .ref a2, .ref a3, .ref a4, .int (nI wi), .int (nI bu), .int (nI L), .ref c1, .int (nI ax), .int (nI va), .int (nI sl), .int cv, .int (nI me), .ref b1, .ref b2, .int (nI L2), .ref c2, .int (nI k), .ref r1, .ref r2, .ref z1, .ref n1, .ref t1])), (r1, .inl (cI, 10, .inl (wA vi))), (r2, .inl (cI, 10, .inl (wA (va_up vs j (pw_r b g2 k))))), (b2, .inl (cI, 10, .inl (wA g2)))] := hD
                  refine lv_aload_n hx hb d_Md_arrange_109 rfl (lv_at hl 0 rfl) ?_
                  refine va_get (D := D) (ci := 5) (v := .ref r1) (C := R_Md) (T := T_Md) (N := 25) hx hb ht u_Md hown hK hP 0 rfl rfl 20 (by decide) (ht _ wd_915) (fun _ h9 => h9) rfl d_Md_arrange_110 ?_
                  refine lv_iload hx hb d_Md_arrange_113 (lv_at hl 4 rfl) ?_
                  refine lv_iload_n hx hb d_Md_arrange_115 rfl (lv_at hl 2 rfl) ?_
                  refine wi_ast hx hb hK hP hD hS 1 0 rfl rfl (by omega) (by omega) d_Md_arrange_116 (fun H locs hP hD hS => ?_)
                  have hP : va_P D kcl [(h, .inr (5, [.int (nI th), .int (nI n), .ref a1, .ref a2, .ref a3, .ref a4, .int (nI wi), .int (nI bu), .int (nI L), .ref c1, .int (nI ax), .int (nI va), .int (nI sl), .int cv, .int (nI me), .ref b1, .ref b2, .int (nI L2), .ref c2, .int (nI k), .ref r1, .ref r2, .ref z1, .ref n1, .ref t1])), (r1, .inl (cI, 10, .inl (wA (va_up vi j k)))), (r2, .inl (cI, 10, .inl (wA (va_up vs j (pw_r b g2 k))))), (b2, .inl (cI, 10, .inl (wA g2)))] H := hP
                  have hD : va_D A [(h, .inr (5, [.int (nI th), .int (nI n), .ref a1, .ref a2, .ref a3, .ref a4, .int (nI wi), .int (nI bu), .int (nI L), .ref c1, .int (nI ax), .int (nI va), .int (nI sl), .int cv, .int (nI me), .ref b1, .ref b2, .int (nI L2), .ref c2, .int (nI k), .ref r1, .ref r2, .ref z1, .ref n1, .ref t1])), (r1, .inl (cI, 10, .inl (wA (va_up vi j k)))), (r2, .inl (cI, 10, .inl (wA (va_up vs j (pw_r b g2 k))))), (b2, .inl (cI, 10, .inl (wA g2)))] := hD
                  refine lv_aload_n hx hb d_Md_arrange_117 rfl (lv_at hl 0 rfl) ?_
                  refine lv_dup hx hb d_Md_arrange_118 rfl ?_
                  refine va_get (D := D) (ci := 5) (v := .int (nI k)) (C := R_Md) (T := T_Md) (N := 25) hx hb ht u_Md hown hK hP 0 rfl rfl 19 (by decide) (ht _ wd_914) (fun _ h9 => h9) rfl d_Md_arrange_119 ?_
                  refine lv_iconst (v := nI 1) hx hb d_Md_arrange_122 (by decide) ?_
                  refine wi_add hx hb d_Md_arrange_123 ?_
                  refine va_put (D := D) (ci := 5) (v := .int (nI (k + 1))) (ty := .int) (C := R_Md) (T := T_Md) (N := 25) hx hb ht u_Md t_Md t_Md_ok n_Md hown hK hP hD hS 0 rfl rfl 19 (by decide) (ht _ wd_914) (fun _ h9 => h9) rfl (by decide +kernel) rfl rfl (Nat.le_of_ble_eq_true rfl) d_Md_arrange_124 (fun H locs hP hD hS => ?_)
                  have hP : va_P D kcl [(h, .inr (5, [.int (nI th), .int (nI n), .ref a1, .ref a2, .ref a3, .ref a4, .int (nI wi), .int (nI bu), .int (nI L), .ref c1, .int (nI ax), .int (nI va), .int (nI sl), .int cv, .int (nI me), .ref b1, .ref b2, .int (nI L2), .ref c2, .int (nI (k + 1)), .ref r1, .ref r2, .ref z1, .ref n1, .ref t1])), (r1, .inl (cI, 10, .inl (wA (va_up vi j k)))), (r2, .inl (cI, 10, .inl (wA (va_up vs j (pw_r b g2 k))))), (b2, .inl (cI, 10, .inl (wA g2)))] H := hP
                  have hD : va_D A [(h, .inr (5, [.int (nI th), .int (nI n), .ref a1, .ref a2, .ref a3, .ref a4, .int (nI wi), .int (nI bu), .int (nI L), .ref c1, .int (nI ax), .int (nI va), .int (nI sl), .int cv, .int (nI me), .ref b1, .ref b2, .int (nI L2), .ref c2, .int (nI (k + 1)), .ref r1, .ref r2, .ref z1, .ref n1, .ref t1])), (r1, .inl (cI, 10, .inl (wA (va_up vi j k)))), (r2, .inl (cI, 10, .inl (wA (va_up vs j (pw_r b g2 k))))), (b2, .inl (cI, 10, .inl (wA g2)))] := hD
                  refine wi_inc (k := 2) (lv' := [(2, .int (nI (k + 1))), (0, .ref h), (1, .int (nI b)), (3, .int (nI (pw_r b g2 k))), (4, .int (nI j))]) hx hb d_Md_arrange_127 hl rfl (by decide) rfl (fun ls hl => ?_)
                  refine lv_goto hx hb d_Md_arrange_130 rfl ?_
                  exact ih7 (me - (k + 1)) (by omega) (k + 1) (va_up vi j k) (va_up vs j (pw_r b g2 k)) ls H locs rfl (by omega) (sb_so_in hgi hj hlow hhigh (up_in hvi k)) (sb_so_in hgs hj hlow hhigh (up_in hvs (pw_r b g2 k))) (lv_sub hl [1, 2, 0] rfl) hP hD hS
                · refine lv_aload_n hx hb d_Md_arrange_63 rfl (lv_at hl 0 rfl) ?_
                  refine va_get (D := D) (ci := 5) (v := .ref r2) (C := R_Md) (T := T_Md) (N := 25) hx hb ht u_Md hown hK hP 0 rfl rfl 21 (by decide) (ht _ wd_916) (fun _ h9 => h9) rfl d_Md_arrange_64 ?_
                  refine lv_iload hx hb d_Md_arrange_67 (lv_at hl 4 rfl) ?_
                  refine lv_aload_n hx hb d_Md_arrange_69 rfl (lv_at hl 0 rfl) ?_
                  refine va_get (D := D) (ci := 5) (v := .ref r2) (C := R_Md) (T := T_Md) (N := 25) hx hb ht u_Md hown hK hP 0 rfl rfl 21 (by decide) (ht _ wd_916) (fun _ h9 => h9) rfl d_Md_arrange_70 ?_
                  refine lv_iload hx hb d_Md_arrange_73 (lv_at hl 4 rfl) ?_
                  refine lv_iconst (v := nI 1) hx hb d_Md_arrange_75 (by decide) ?_
                  refine wi_sub hx hb d_Md_arrange_76 (by omega) ?_
                  refine wi_ald hx hb hK hP 2 0 rfl rfl (by omega) (by omega) d_Md_arrange_77 ?_
                  refine wi_ast hx hb hK hP hD hS 2 0 rfl rfl (by omega) (by omega) d_Md_arrange_78 (fun H locs hP hD hS => ?_)
                  have hP : va_P D kcl [(h, .inr (5, [.int (nI th), .int (nI n), .ref a1, .ref a2, .ref a3, .ref a4, .int (nI wi), .int (nI bu), .int (nI L), .ref c1, .int (nI ax), .int (nI va), .int (nI sl), .int cv, .int (nI me), .ref b1, .ref b2, .int (nI L2), .ref c2, .int (nI k), .ref r1, .ref r2, .ref z1, .ref n1, .ref t1])), (r1, .inl (cI, 10, .inl (wA vi))), (r2, .inl (cI, 10, .inl (wA (va_up vs j (vs (j - 1)))))), (b2, .inl (cI, 10, .inl (wA g2)))] H := hP
                  have hD : va_D A [(h, .inr (5, [.int (nI th), .int (nI n), .ref a1, .ref a2, .ref a3, .ref a4, .int (nI wi), .int (nI bu), .int (nI L), .ref c1, .int (nI ax), .int (nI va), .int (nI sl), .int cv, .int (nI me), .ref b1, .ref b2, .int (nI L2), .ref c2, .int (nI k), .ref r1, .ref r2, .ref z1, .ref n1, .ref t1])), (r1, .inl (cI, 10, .inl (wA vi))), (r2, .inl (cI, 10, .inl (wA (va_up vs j (vs (j - 1)))))), (b2, .inl (cI, 10, .inl (wA g2)))] := hD
                  refine lv_aload_n hx hb d_Md_arrange_79 rfl (lv_at hl 0 rfl) ?_
                  refine va_get (D := D) (ci := 5) (v := .ref r1) (C := R_Md) (T := T_Md) (N := 25) hx hb ht u_Md hown hK hP 0 rfl rfl 20 (by decide) (ht _ wd_915) (fun _ h9 => h9) rfl d_Md_arrange_80 ?_
                  refine lv_iload hx hb d_Md_arrange_83 (lv_at hl 4 rfl) ?_
                  refine lv_aload_n hx hb d_Md_arrange_85 rfl (lv_at hl 0 rfl) ?_
                  refine va_get (D := D) (ci := 5) (v := .ref r1) (C := R_Md) (T := T_Md) (N := 25) hx hb ht u_Md hown hK hP 0 rfl rfl 20 (by decide) (ht _ wd_915) (fun _ h9 => h9) rfl d_Md_arrange_86 ?_
                  refine lv_iload hx hb d_Md_arrange_89 (lv_at hl 4 rfl) ?_
                  refine lv_iconst (v := nI 1) hx hb d_Md_arrange_91 (by decide) ?_
                  refine wi_sub hx hb d_Md_arrange_92 (by omega) ?_
                  refine wi_ald hx hb hK hP 1 0 rfl rfl (by omega) (by omega) d_Md_arrange_93 ?_
                  refine wi_ast hx hb hK hP hD hS 1 0 rfl rfl (by omega) (by omega) d_Md_arrange_94 (fun H locs hP hD hS => ?_)
                  have hP : va_P D kcl [(h, .inr (5, [.int (nI th), .int (nI n), .ref a1, .ref a2, .ref a3, .ref a4, .int (nI wi), .int (nI bu), .int (nI L), .ref c1, .int (nI ax), .int (nI va), .int (nI sl), .int cv, .int (nI me), .ref b1, .ref b2, .int (nI L2), .ref c2, .int (nI k), .ref r1, .ref r2, .ref z1, .ref n1, .ref t1])), (r1, .inl (cI, 10, .inl (wA (va_up vi j (vi (j - 1)))))), (r2, .inl (cI, 10, .inl (wA (va_up vs j (vs (j - 1)))))), (b2, .inl (cI, 10, .inl (wA g2)))] H := hP
                  have hD : va_D A [(h, .inr (5, [.int (nI th), .int (nI n), .ref a1, .ref a2, .ref a3, .ref a4, .int (nI wi), .int (nI bu), .int (nI L), .ref c1, .int (nI ax), .int (nI va), .int (nI sl), .int cv, .int (nI me), .ref b1, .ref b2, .int (nI L2), .ref c2, .int (nI k), .ref r1, .ref r2, .ref z1, .ref n1, .ref t1])), (r1, .inl (cI, 10, .inl (wA (va_up vi j (vi (j - 1)))))), (r2, .inl (cI, 10, .inl (wA (va_up vs j (vs (j - 1)))))), (b2, .inl (cI, 10, .inl (wA g2)))] := hD
                  refine wi_dec (k := 4) (lv' := [(4, .int (nI (j - 1))), (0, .ref h), (1, .int (nI b)), (2, .int (nI k)), (3, .int (nI (pw_r b g2 k)))]) hx hb d_Md_arrange_95 hl (by omega) rfl (by decide) rfl (fun ls hl => ?_)
                  refine lv_goto hx hb d_Md_arrange_98 rfl ?_
                  exact ih45 ((j - 1)) (by omega) (j - 1) (va_up vi j (vi (j - 1))) (va_up vs j (vs (j - 1))) ls H locs rfl (by omega) (fun x h1 h2 => by
            by_cases e : x = j - 1
            · rw [e, ← hvs.1 (j - 1) (by omega)]; exact h60
            · exact hbig x (by omega) h2) (up_mv hvi h47 hj) (up_mv hvs h47 hj) (lv_sub hl [1, 2, 3, 4, 0] rfl) hP hD hS
          exact loop45 _ (k) (gi) (gs) ls H locs rfl (Nat.le_refl _) (fun x h1 h2 => by omega) ⟨fun t _ => rfl, fun t h1 h2 => by omega⟩ ⟨fun t _ => rfl, fun t h1 h2 => by omega⟩ (lv_sub hl [2, 3, 4, 1, 0] rfl) hP hD hS
        · exfalso; omega
  exact loop7 _ (0) (ro) (ru) ls H locs rfl (Nat.zero_le _) (fun i hi => absurd hi (Nat.not_lt_zero i)) (fun i hi => absurd hi (Nat.not_lt_zero i)) (lv_sub hl [1, 2, 0] rfl) hP hD hS
set_option maxHeartbeats 4000000 in
set_option maxRecDepth 100000 in
theorem c_Md_lay0 (l : Launch) (Hs : Heap) (D : va_G) (cI cZ cL : ClassId) (h : Nat) (a1 : Nat) (a2 : Nat) (a3 : Nat) (a4 : Nat) (c1 : Nat) (b1 : Nat) (b2 : Nat) (c2 : Nat) (r1 : Nat) (r2 : Nat) (z1 : Nat) (n1 : Nat) (t1 : Nat) (th : Nat) (n : Nat) (wi : Nat) (bu : Nat) (L : Nat) (ax : Nat) (va : Nat) (sl : Nat) (me : Nat) (L2 : Nat) (mn : Nat) (cv : Int32) (ro : Nat → Nat) (ru : Nat → Nat) (g1 : Nat → Nat) (g2 : Nat → Nat) (cy : Nat → Nat) (b : Nat) (hme : me ≤ 10) (hg2 : ∀ t, t < me → b ≤ g2 t ∧ g2 t ≤ 40) (hb0 : 0 < b) (hb1 : b ≤ 15) (hfit : ¬ pw_fit b g2 me) : kI l Hs D kcl (ty3 cI cZ cL) y_Md_lay (mws y_Md_lay b_Md_lay 6 (Option.some Jvm.ClassFile.FieldType.boolean)) ({ frames := 2, cells := 0, slots := 0, locals := 46 } : Room) [.ref h, .int (nI b)] [(h, .inr (5, [.int (nI th), .int (nI n), .ref a1, .ref a2, .ref a3, .ref a4, .int (nI wi), .int (nI bu), .int (nI L), .ref c1, .int (nI ax), .int (nI va), .int (nI sl), .int cv, .int (nI me), .ref b1, .ref b2, .int (nI L2), .ref c2, .int (nI mn), .ref r1, .ref r2, .ref z1, .ref n1, .ref t1])), (r1, .inl (cI, 10, .inl (wA ro))), (r2, .inl (cI, 10, .inl (wA ru))), (b1, .inl (cI, 10, .inl (wA g1))), (b2, .inl (cI, 10, .inl (wA g2))), (c2, .inl (cI, 1600, .inl (wA cy)))] (fun r w => ∃ (ro2 : Nat → Nat), ∃ (ru2 : Nat → Nat), r = nI 0 ∧ w = [(h, .inr (5, [.int (nI th), .int (nI n), .ref a1, .ref a2, .ref a3, .ref a4, .int (nI wi), .int (nI bu), .int (nI L), .ref c1, .int (nI ax), .int (nI va), .int (nI sl), .int cv, .int (nI me), .ref b1, .ref b2, .int (nI (pw_mx (pw_r b g2) me)), .ref c2, .int (nI me), .ref r1, .ref r2, .ref z1, .ref n1, .ref t1])), (r1, .inl (cI, 10, .inl (wA ro2))), (r2, .inl (cI, 10, .inl (wA ru2))), (b1, .inl (cI, 10, .inl (wA g1))), (b2, .inl (cI, 10, .inl (wA g2))), (c2, .inl (cI, 1600, .inl (wA cy)))]) := by
  intro sz
  refine k_of (cc := b_Md_lay) (maxL := 6) (ret := (Option.some Jvm.ClassFile.FieldType.boolean)) (by decide) rfl (Nat.le_of_ble_eq_true rfl) ?_
  intro p e s m args below meth c ls H locs A Q hQ hx hb hml hr hts hown hlk hnm hsz hAe hP hK hD hS hA hE hAH hl
  have ht : ∀ w ∈ mw, w.before args s = true := fun w h => hts w (List.mem_cons_of_mem _ h)
  have hl : lv_has ls 6 [(0, .ref h), (1, .int (nI b))] := hl
  refine lv_aload_n hx hb d_Md_lay_0 rfl (lv_at hl 0 rfl) ?_
  refine lv_iload_n hx hb d_Md_lay_1 rfl (lv_at hl 1 rfl) ?_
  refine ck_v (wc := [(h, .inr (5, [.int (nI th), .int (nI n), .ref a1, .ref a2, .ref a3, .ref a4, .int (nI wi), .int (nI bu), .int (nI L), .ref c1, .int (nI ax), .int (nI va), .int (nI sl), .int cv, .int (nI me), .ref b1, .ref b2, .int (nI L2), .ref c2, .int (nI mn), .ref r1, .ref r2, .ref z1, .ref n1, .ref t1])), (r1, .inl (cI, 10, .inl (wA ro))), (r2, .inl (cI, 10, .inl (wA ru))), (b2, .inl (cI, 10, .inl (wA g2)))]) (va_runV (As := [.int (nI b)]) (rest := []) (C := R_Md) ⟨hx, hb, hml, hown, ht⟩ (c_Md_arrange1 l Hs D cI cZ cL h a1 a2 a3 a4 c1 b1 b2 c2 r1 r2 z1 n1 t1 th n wi bu L ax va sl me L2 mn cv ro ru g2 b hme (fun t h => (hg2 t h).2) hb0 hb1 (fun t h => (hg2 t h).1) H.size) (gw_V 1 ht wd_1006 wd_5 wd_1003 wd_1005 ws_33 (by decide +kernel) ⟨Nat.le_of_ble_eq_true rfl, Nat.le_of_ble_eq_true rfl⟩) (k_preV hE hAH hK hP hD hS [0, 1, 2, 4] rfl rfl 0 rfl rfl) rfl rfl hl.1 rfl (lv_room (Nat.le_of_ble_eq_true rfl)) d_Md_lay_2 ⟨Nat.le_of_ble_eq_true rfl, Nat.le_of_ble_eq_true rfl⟩) hP hD hS hA [0, 1, 2, 4] rfl rfl (fun w1 H locs hpost hP hD hS => ?_)
  obtain ⟨ro2, ru2, hor, rfl⟩ := hpost
  have hP : va_P D kcl [(h, .inr (5, [.int (nI th), .int (nI n), .ref a1, .ref a2, .ref a3, .ref a4, .int (nI wi), .int (nI bu), .int (nI L), .ref c1, .int (nI ax), .int (nI va), .int (nI sl), .int cv, .int (nI me), .ref b1, .ref b2, .int (nI L2), .ref c2, .int (nI me), .ref r1, .ref r2, .ref z1, .ref n1, .ref t1])), (r1, .inl (cI, 10, .inl (wA ro2))), (r2, .inl (cI, 10, .inl (wA ru2))), (b1, .inl (cI, 10, .inl (wA g1))), (b2, .inl (cI, 10, .inl (wA g2))), (c2, .inl (cI, 1600, .inl (wA cy)))] H := hP
  have hD : va_D A [(h, .inr (5, [.int (nI th), .int (nI n), .ref a1, .ref a2, .ref a3, .ref a4, .int (nI wi), .int (nI bu), .int (nI L), .ref c1, .int (nI ax), .int (nI va), .int (nI sl), .int cv, .int (nI me), .ref b1, .ref b2, .int (nI L2), .ref c2, .int (nI me), .ref r1, .ref r2, .ref z1, .ref n1, .ref t1])), (r1, .inl (cI, 10, .inl (wA ro2))), (r2, .inl (cI, 10, .inl (wA ru2))), (b1, .inl (cI, 10, .inl (wA g1))), (b2, .inl (cI, 10, .inl (wA g2))), (c2, .inl (cI, 1600, .inl (wA cy)))] := hD
  have hFb : ∀ t, t < me → 0 < pw_r b g2 t ∧ pw_r b g2 t ≤ 40 := fun t ht => ⟨pw_r_pos hb0, Nat.le_trans (pw_rnd_le 6 b (g2 t) (hg2 t ht).1) (hg2 t ht).2⟩
  have hLL : pw_mx (pw_r b g2) me ≤ 40 := pw_mx_40 (fun k hk => (hg2 k hk).2) fun k hk => (hg2 k hk).1
  have hLp := pw_mx_pos (r := pw_r b g2) me
  have hru : ∀ t, t < me → 0 < ru2 t ∧ ru2 t ≤ 40 := fun t ht => by rw [hor.1 t ht]; exact hFb _ (pw_srt_get ht)
  have hro : ∀ t, t < me → ro2 t < me := fun t ht => by rw [hor.2 t ht]; exact pw_srt_get ht
  refine lv_aload_n hx hb d_Md_lay_5 rfl (lv_at hl 0 rfl) ?_
  refine lv_aload_n hx hb d_Md_lay_6 rfl (lv_at hl 0 rfl) ?_
  refine va_get (D := D) (ci := 5) (v := .int (nI me)) (C := R_Md) (T := T_Md) (N := 25) hx hb ht u_Md hown hK hP 0 rfl rfl 19 (by decide) (ht _ wd_914) (fun _ h9 => h9) rfl d_Md_lay_7 ?_
  refine wi_if_ne hx hb d_Md_lay_10 rfl (by omega) (fun h10 => ?_) (fun h10 => ?_)
  · refine lv_aload_n hx hb d_Md_lay_17 rfl (lv_at hl 0 rfl) ?_
    refine va_get (D := D) (ci := 5) (v := .ref r2) (C := R_Md) (T := T_Md) (N := 25) hx hb ht u_Md hown hK hP 0 rfl rfl 21 (by decide) (ht _ wd_916) (fun _ h9 => h9) rfl d_Md_lay_18 ?_
    refine lv_aload_n hx hb d_Md_lay_21 rfl (lv_at hl 0 rfl) ?_
    refine va_get (D := D) (ci := 5) (v := .int (nI me)) (C := R_Md) (T := T_Md) (N := 25) hx hb ht u_Md hown hK hP 0 rfl rfl 19 (by decide) (ht _ wd_914) (fun _ h9 => h9) rfl d_Md_lay_22 ?_
    refine lv_iconst (v := nI 1) hx hb d_Md_lay_25 (by decide) ?_
    refine wi_sub hx hb d_Md_lay_26 (by omega) ?_
    refine wi_ald hx hb hK hP 2 0 rfl rfl (by omega) (by omega) d_Md_lay_27 ?_
    rw [show ru2 (me - 1) = pw_mx (pw_r b g2) me by rw [hor.1 _ (by omega)]; exact pw_mx_last h10 (fun k hk => (hFb k hk).1)]
    refine va_put (D := D) (ci := 5) (v := .int (nI (pw_mx (pw_r b g2) me))) (ty := .int) (C := R_Md) (T := T_Md) (N := 25) hx hb ht u_Md t_Md t_Md_ok n_Md hown hK hP hD hS 0 rfl rfl 17 (by decide) (ht _ wd_912) (fun _ h9 => h9) rfl (by decide +kernel) rfl rfl (Nat.le_of_ble_eq_true rfl) d_Md_lay_28 (fun H locs hP hD hS => ?_)
    have hP : va_P D kcl [(h, .inr (5, [.int (nI th), .int (nI n), .ref a1, .ref a2, .ref a3, .ref a4, .int (nI wi), .int (nI bu), .int (nI L), .ref c1, .int (nI ax), .int (nI va), .int (nI sl), .int cv, .int (nI me), .ref b1, .ref b2, .int (nI (pw_mx (pw_r b g2) me)), .ref c2, .int (nI me), .ref r1, .ref r2, .ref z1, .ref n1, .ref t1])), (r1, .inl (cI, 10, .inl (wA ro2))), (r2, .inl (cI, 10, .inl (wA ru2))), (b1, .inl (cI, 10, .inl (wA g1))), (b2, .inl (cI, 10, .inl (wA g2))), (c2, .inl (cI, 1600, .inl (wA cy)))] H := hP
    have hD : va_D A [(h, .inr (5, [.int (nI th), .int (nI n), .ref a1, .ref a2, .ref a3, .ref a4, .int (nI wi), .int (nI bu), .int (nI L), .ref c1, .int (nI ax), .int (nI va), .int (nI sl), .int cv, .int (nI me), .ref b1, .ref b2, .int (nI (pw_mx (pw_r b g2) me)), .ref c2, .int (nI me), .ref r1, .ref r2, .ref z1, .ref n1, .ref t1])), (r1, .inl (cI, 10, .inl (wA ro2))), (r2, .inl (cI, 10, .inl (wA ru2))), (b1, .inl (cI, 10, .inl (wA g1))), (b2, .inl (cI, 10, .inl (wA g2))), (c2, .inl (cI, 1600, .inl (wA cy)))] := hD
    refine lv_iconst (v := nI 0) hx hb d_Md_lay_31 (by decide) ?_
    refine lv_istore_n (lv' := [(2, .int (nI 0)), (0, .ref h), (1, .int (nI b))]) hx hb d_Md_lay_32 rfl hl (by decide) rfl (fun ls hl => ?_)
    refine lv_iconst (v := nI 0) hx hb d_Md_lay_33 (by decide) ?_
    refine lv_istore_n (lv' := [(3, .int (nI 0)), (2, .int (nI 0)), (0, .ref h), (1, .int (nI b))]) hx hb d_Md_lay_34 rfl hl (by decide) rfl (fun ls hl => ?_)
    have loop35 : ∀ (d : Nat) (k : Nat) (ls : Array Slot) (H : Heap) (locs : List Loc), me - k = d → (k ≤ me) → lv_has ls 6 [(0, .ref h), (1, .int (nI b)), (2, .int (nI (pw_sm (fun i => pw_mx (pw_r b g2) me / ru2 i) k))), (3, .int (nI k))] → va_P D kcl [(h, .inr (5, [.int (nI th), .int (nI n), .ref a1, .ref a2, .ref a3, .ref a4, .int (nI wi), .int (nI bu), .int (nI L), .ref c1, .int (nI ax), .int (nI va), .int (nI sl), .int cv, .int (nI me), .ref b1, .ref b2, .int (nI (pw_mx (pw_r b g2) me)), .ref c2, .int (nI me), .ref r1, .ref r2, .ref z1, .ref n1, .ref t1])), (r1, .inl (cI, 10, .inl (wA ro2))), (r2, .inl (cI, 10, .inl (wA ru2))), (b1, .inl (cI, 10, .inl (wA g1))), (b2, .inl (cI, 10, .inl (wA g2))), (c2, .inl (cI, 1600, .inl (wA cy)))] H → va_D A [(h, .inr (5, [.int (nI th), .int (nI n), .ref a1, .ref a2, .ref a3, .ref a4, .int (nI wi), .int (nI bu), .int (nI L), .ref c1, .int (nI ax), .int (nI va), .int (nI sl), .int cv, .int (nI me), .ref b1, .ref b2, .int (nI (pw_mx (pw_r b g2) me)), .ref c2, .int (nI me), .ref r1, .ref r2, .ref z1, .ref n1, .ref t1])), (r1, .inl (cI, 10, .inl (wA ro2))), (r2, .inl (cI, 10, .inl (wA ru2))), (b1, .inl (cI, 10, .inl (wA g1))), (b2, .inl (cI, 10, .inl (wA g2))), (c2, .inl (cI, 1600, .inl (wA cy)))] → va_S A s.heap H locs → W p l e ({ frames := 2, cells := 0, slots := 0, locals := 46 } : Room) s m args below meth c H locs 0 0 Q (F0 m 35 ls []) := by
      intro d
      induction d using Nat.strongRecOn with
      | ind d ih35 =>
        intro k ls H locs hd35 hk hl hP hD hS
        refine lv_iload_n hx hb d_Md_lay_35 rfl (lv_at hl 3 rfl) ?_
        refine lv_aload_n hx hb d_Md_lay_36 rfl (lv_at hl 0 rfl) ?_
        refine va_get (D := D) (ci := 5) (v := .int (nI me)) (C := R_Md) (T := T_Md) (N := 25) hx hb ht u_Md hown hK hP 0 rfl rfl 19 (by decide) (ht _ wd_914) (fun _ h9 => h9) rfl d_Md_lay_37 ?_
        refine wi_ge hx hb d_Md_lay_40 rfl (by omega) (by omega) (fun h40 => ?_) (fun h40 => ?_)
        · obtain rfl : me = k := by omega
          have hnd : pw_sm (fun i => pw_mx (pw_r b g2) me / ru2 i) me = pw_nd2 b g2 me := md_or_sm hor
          have hsm : pw_sm (fun i => pw_mx (pw_r b g2) me / ru2 i) me ≤ me * (pw_mx (pw_r b g2) me) := pw_sm_le fun t _ => Nat.div_le_self _ _
          have hsm2 : me * (pw_mx (pw_r b g2) me) ≤ 10 * 40 := Nat.mul_le_mul hme hLL
          refine lv_iload_n hx hb d_Md_lay_63 rfl (lv_at hl 2 rfl) ?_
          refine lv_aload_n hx hb d_Md_lay_64 rfl (lv_at hl 0 rfl) ?_
          refine va_get (D := D) (ci := 5) (v := .int (nI (pw_mx (pw_r b g2) me))) (C := R_Md) (T := T_Md) (N := 25) hx hb ht u_Md hown hK hP 0 rfl rfl 17 (by decide) (ht _ wd_912) (fun _ h9 => h9) rfl d_Md_lay_65 ?_
          refine wi_le hx hb d_Md_lay_68 rfl (by omega) (by omega) (fun h68 => ?_) (fun h68 => ?_)
          · exact absurd (show pw_nd2 b g2 me ≤ pw_mx (pw_r b g2) me by rw [← hnd]; exact h68) hfit
          · refine lv_iconst (v := nI 0) hx hb d_Md_lay_71 (by decide) ?_
            exact k_retz hQ hx hb hr hlk hAe hK hP hD hS (Nat.le_of_ble_eq_true rfl) (Nat.le_of_ble_eq_true rfl) (Nat.le_of_ble_eq_true rfl) rfl ⟨ro2, ru2, rfl, rfl⟩ d_Md_lay_72
        · have hrk := hru k h40
          refine lv_iload_n hx hb d_Md_lay_43 rfl (lv_at hl 2 rfl) ?_
          refine lv_aload_n hx hb d_Md_lay_44 rfl (lv_at hl 0 rfl) ?_
          refine va_get (D := D) (ci := 5) (v := .int (nI (pw_mx (pw_r b g2) me))) (C := R_Md) (T := T_Md) (N := 25) hx hb ht u_Md hown hK hP 0 rfl rfl 17 (by decide) (ht _ wd_912) (fun _ h9 => h9) rfl d_Md_lay_45 ?_
          refine lv_aload_n hx hb d_Md_lay_48 rfl (lv_at hl 0 rfl) ?_
          refine va_get (D := D) (ci := 5) (v := .ref r2) (C := R_Md) (T := T_Md) (N := 25) hx hb ht u_Md hown hK hP 0 rfl rfl 21 (by decide) (ht _ wd_916) (fun _ h9 => h9) rfl d_Md_lay_49 ?_
          refine lv_iload_n hx hb d_Md_lay_52 rfl (lv_at hl 3 rfl) ?_
          refine wi_ald hx hb hK hP 2 0 rfl rfl (by omega) (by omega) d_Md_lay_53 ?_
          refine wi_div hx hb d_Md_lay_54 (by omega) hrk.1 (by omega) ?_
          refine wi_add hx hb d_Md_lay_55 ?_
          refine lv_istore_n (lv' := [(2, .int (nI (pw_sm (fun i => pw_mx (pw_r b g2) me / ru2 i) (k + 1)))), (0, .ref h), (1, .int (nI b)), (3, .int (nI k))]) hx hb d_Md_lay_56 rfl hl (by decide) rfl (fun ls hl => ?_)
          refine wi_inc (k := 3) (lv' := [(3, .int (nI (k + 1))), (2, .int (nI (pw_sm (fun i => pw_mx (pw_r b g2) me / ru2 i) (k + 1)))), (0, .ref h), (1, .int (nI b))]) hx hb d_Md_lay_57 hl rfl (by decide) rfl (fun ls hl => ?_)
          refine lv_goto hx hb d_Md_lay_60 rfl ?_
          exact ih35 (me - (k + 1)) (by omega) (k + 1) ls H locs rfl (by omega) (lv_sub hl [2, 3, 1, 0] rfl) hP hD hS
    exact loop35 _ (0) ls H locs rfl (Nat.zero_le _) (lv_sub hl [2, 3, 1, 0] rfl) hP hD hS
  · refine lv_iconst (v := nI 1) hx hb d_Md_lay_13 (by decide) ?_
    refine lv_goto hx hb d_Md_lay_14 rfl ?_
    rw [show nI 1 = nI (pw_mx (pw_r b g2) me) by rw [h10]; rfl]
    refine va_put (D := D) (ci := 5) (v := .int (nI (pw_mx (pw_r b g2) me))) (ty := .int) (C := R_Md) (T := T_Md) (N := 25) hx hb ht u_Md t_Md t_Md_ok n_Md hown hK hP hD hS 0 rfl rfl 17 (by decide) (ht _ wd_912) (fun _ h9 => h9) rfl (by decide +kernel) rfl rfl (Nat.le_of_ble_eq_true rfl) d_Md_lay_28 (fun H locs hP hD hS => ?_)
    have hP : va_P D kcl [(h, .inr (5, [.int (nI th), .int (nI n), .ref a1, .ref a2, .ref a3, .ref a4, .int (nI wi), .int (nI bu), .int (nI L), .ref c1, .int (nI ax), .int (nI va), .int (nI sl), .int cv, .int (nI me), .ref b1, .ref b2, .int (nI (pw_mx (pw_r b g2) me)), .ref c2, .int (nI me), .ref r1, .ref r2, .ref z1, .ref n1, .ref t1])), (r1, .inl (cI, 10, .inl (wA ro2))), (r2, .inl (cI, 10, .inl (wA ru2))), (b1, .inl (cI, 10, .inl (wA g1))), (b2, .inl (cI, 10, .inl (wA g2))), (c2, .inl (cI, 1600, .inl (wA cy)))] H := hP
    have hD : va_D A [(h, .inr (5, [.int (nI th), .int (nI n), .ref a1, .ref a2, .ref a3, .ref a4, .int (nI wi), .int (nI bu), .int (nI L), .ref c1, .int (nI ax), .int (nI va), .int (nI sl), .int cv, .int (nI me), .ref b1, .ref b2, .int (nI (pw_mx (pw_r b g2) me)), .ref c2, .int (nI me), .ref r1, .ref r2, .ref z1, .ref n1, .ref t1])), (r1, .inl (cI, 10, .inl (wA ro2))), (r2, .inl (cI, 10, .inl (wA ru2))), (b1, .inl (cI, 10, .inl (wA g1))), (b2, .inl (cI, 10, .inl (wA g2))), (c2, .inl (cI, 1600, .inl (wA cy)))] := hD
    refine lv_iconst (v := nI 0) hx hb d_Md_lay_31 (by decide) ?_
    refine lv_istore_n (lv' := [(2, .int (nI 0)), (0, .ref h), (1, .int (nI b))]) hx hb d_Md_lay_32 rfl hl (by decide) rfl (fun ls hl => ?_)
    refine lv_iconst (v := nI 0) hx hb d_Md_lay_33 (by decide) ?_
    refine lv_istore_n (lv' := [(3, .int (nI 0)), (2, .int (nI 0)), (0, .ref h), (1, .int (nI b))]) hx hb d_Md_lay_34 rfl hl (by decide) rfl (fun ls hl => ?_)
    have loop35 : ∀ (d : Nat) (k : Nat) (ls : Array Slot) (H : Heap) (locs : List Loc), me - k = d → (k ≤ me) → lv_has ls 6 [(0, .ref h), (1, .int (nI b)), (2, .int (nI (pw_sm (fun i => pw_mx (pw_r b g2) me / ru2 i) k))), (3, .int (nI k))] → va_P D kcl [(h, .inr (5, [.int (nI th), .int (nI n), .ref a1, .ref a2, .ref a3, .ref a4, .int (nI wi), .int (nI bu), .int (nI L), .ref c1, .int (nI ax), .int (nI va), .int (nI sl), .int cv, .int (nI me), .ref b1, .ref b2, .int (nI (pw_mx (pw_r b g2) me)), .ref c2, .int (nI me), .ref r1, .ref r2, .ref z1, .ref n1, .ref t1])), (r1, .inl (cI, 10, .inl (wA ro2))), (r2, .inl (cI, 10, .inl (wA ru2))), (b1, .inl (cI, 10, .inl (wA g1))), (b2, .inl (cI, 10, .inl (wA g2))), (c2, .inl (cI, 1600, .inl (wA cy)))] H → va_D A [(h, .inr (5, [.int (nI th), .int (nI n), .ref a1, .ref a2, .ref a3, .ref a4, .int (nI wi), .int (nI bu), .int (nI L), .ref c1, .int (nI ax), .int (nI va), .int (nI sl), .int cv, .int (nI me), .ref b1, .ref b2, .int (nI (pw_mx (pw_r b g2) me)), .ref c2, .int (nI me), .ref r1, .ref r2, .ref z1, .ref n1, .ref t1])), (r1, .inl (cI, 10, .inl (wA ro2))), (r2, .inl (cI, 10, .inl (wA ru2))), (b1, .inl (cI, 10, .inl (wA g1))), (b2, .inl (cI, 10, .inl (wA g2))), (c2, .inl (cI, 1600, .inl (wA cy)))] → va_S A s.heap H locs → W p l e ({ frames := 2, cells := 0, slots := 0, locals := 46 } : Room) s m args below meth c H locs 0 0 Q (F0 m 35 ls []) := by
      intro d
      induction d using Nat.strongRecOn with
      | ind d ih35 =>
        intro k ls H locs hd35 hk hl hP hD hS
        refine lv_iload_n hx hb d_Md_lay_35 rfl (lv_at hl 3 rfl) ?_
        refine lv_aload_n hx hb d_Md_lay_36 rfl (lv_at hl 0 rfl) ?_
        refine va_get (D := D) (ci := 5) (v := .int (nI me)) (C := R_Md) (T := T_Md) (N := 25) hx hb ht u_Md hown hK hP 0 rfl rfl 19 (by decide) (ht _ wd_914) (fun _ h9 => h9) rfl d_Md_lay_37 ?_
        refine wi_ge hx hb d_Md_lay_40 rfl (by omega) (by omega) (fun h40 => ?_) (fun h40 => ?_)
        · obtain rfl : me = k := by omega
          have hnd : pw_sm (fun i => pw_mx (pw_r b g2) me / ru2 i) me = pw_nd2 b g2 me := md_or_sm hor
          have hsm : pw_sm (fun i => pw_mx (pw_r b g2) me / ru2 i) me ≤ me * (pw_mx (pw_r b g2) me) := pw_sm_le fun t _ => Nat.div_le_self _ _
          have hsm2 : me * (pw_mx (pw_r b g2) me) ≤ 10 * 40 := Nat.mul_le_mul hme hLL
          refine lv_iload_n hx hb d_Md_lay_63 rfl (lv_at hl 2 rfl) ?_
          refine lv_aload_n hx hb d_Md_lay_64 rfl (lv_at hl 0 rfl) ?_
          refine va_get (D := D) (ci := 5) (v := .int (nI (pw_mx (pw_r b g2) me))) (C := R_Md) (T := T_Md) (N := 25) hx hb ht u_Md hown hK hP 0 rfl rfl 17 (by decide) (ht _ wd_912) (fun _ h9 => h9) rfl d_Md_lay_65 ?_
          refine wi_le hx hb d_Md_lay_68 rfl (by omega) (by omega) (fun h68 => ?_) (fun h68 => ?_)
          · exact absurd (show pw_nd2 b g2 me ≤ pw_mx (pw_r b g2) me by rw [← hnd]; exact h68) hfit
          · refine lv_iconst (v := nI 0) hx hb d_Md_lay_71 (by decide) ?_
            exact k_retz hQ hx hb hr hlk hAe hK hP hD hS (Nat.le_of_ble_eq_true rfl) (Nat.le_of_ble_eq_true rfl) (Nat.le_of_ble_eq_true rfl) rfl ⟨ro2, ru2, rfl, rfl⟩ d_Md_lay_72
        · have hrk := hru k h40
          refine lv_iload_n hx hb d_Md_lay_43 rfl (lv_at hl 2 rfl) ?_
          refine lv_aload_n hx hb d_Md_lay_44 rfl (lv_at hl 0 rfl) ?_
          refine va_get (D := D) (ci := 5) (v := .int (nI (pw_mx (pw_r b g2) me))) (C := R_Md) (T := T_Md) (N := 25) hx hb ht u_Md hown hK hP 0 rfl rfl 17 (by decide) (ht _ wd_912) (fun _ h9 => h9) rfl d_Md_lay_45 ?_
          refine lv_aload_n hx hb d_Md_lay_48 rfl (lv_at hl 0 rfl) ?_
          refine va_get (D := D) (ci := 5) (v := .ref r2) (C := R_Md) (T := T_Md) (N := 25) hx hb ht u_Md hown hK hP 0 rfl rfl 21 (by decide) (ht _ wd_916) (fun _ h9 => h9) rfl d_Md_lay_49 ?_
          refine lv_iload_n hx hb d_Md_lay_52 rfl (lv_at hl 3 rfl) ?_
          refine wi_ald hx hb hK hP 2 0 rfl rfl (by omega) (by omega) d_Md_lay_53 ?_
          refine wi_div hx hb d_Md_lay_54 (by omega) hrk.1 (by omega) ?_
          refine wi_add hx hb d_Md_lay_55 ?_
          refine lv_istore_n (lv' := [(2, .int (nI (pw_sm (fun i => pw_mx (pw_r b g2) me / ru2 i) (k + 1)))), (0, .ref h), (1, .int (nI b)), (3, .int (nI k))]) hx hb d_Md_lay_56 rfl hl (by decide) rfl (fun ls hl => ?_)
          refine wi_inc (k := 3) (lv' := [(3, .int (nI (k + 1))), (2, .int (nI (pw_sm (fun i => pw_mx (pw_r b g2) me / ru2 i) (k + 1)))), (0, .ref h), (1, .int (nI b))]) hx hb d_Md_lay_57 hl rfl (by decide) rfl (fun ls hl => ?_)
          refine lv_goto hx hb d_Md_lay_60 rfl ?_
          exact ih35 (me - (k + 1)) (by omega) (k + 1) ls H locs rfl (by omega) (lv_sub hl [2, 3, 1, 0] rfl) hP hD hS
    exact loop35 _ (0) ls H locs rfl (Nat.zero_le _) (lv_sub hl [2, 3, 1, 0] rfl) hP hD hS
set_option maxHeartbeats 4000000 in
set_option maxRecDepth 100000 in
theorem c_Md_lay1 (l : Launch) (Hs : Heap) (D : va_G) (cI cZ cL : ClassId) (h : Nat) (a1 : Nat) (a2 : Nat) (a3 : Nat) (a4 : Nat) (c1 : Nat) (b1 : Nat) (b2 : Nat) (c2 : Nat) (r1 : Nat) (r2 : Nat) (z1 : Nat) (n1 : Nat) (t1 : Nat) (th : Nat) (n : Nat) (wi : Nat) (bu : Nat) (L : Nat) (ax : Nat) (va : Nat) (sl : Nat) (me : Nat) (L2 : Nat) (mn : Nat) (cv : Int32) (ro : Nat → Nat) (ru : Nat → Nat) (g1 : Nat → Nat) (g2 : Nat → Nat) (cy : Nat → Nat) (b : Nat) (hme : me ≤ 10) (hg2 : ∀ t, t < me → b ≤ g2 t ∧ g2 t ≤ 40) (hb0 : 0 < b) (hb1 : b ≤ 15) (hfit : pw_fit b g2 me) (hg1 : ∀ t, t < me → 0 < g1 t ∧ g1 t < 2 ^ 31) (hinj : ∀ i j, i < me → j < me → g1 i = g1 j → i = j) : kI l Hs D kcl (ty3 cI cZ cL) y_Md_lay (mws y_Md_lay b_Md_lay 6 (Option.some Jvm.ClassFile.FieldType.boolean)) ({ frames := 2, cells := 0, slots := 0, locals := 46 } : Room) [.ref h, .int (nI b)] [(h, .inr (5, [.int (nI th), .int (nI n), .ref a1, .ref a2, .ref a3, .ref a4, .int (nI wi), .int (nI bu), .int (nI L), .ref c1, .int (nI ax), .int (nI va), .int (nI sl), .int cv, .int (nI me), .ref b1, .ref b2, .int (nI L2), .ref c2, .int (nI mn), .ref r1, .ref r2, .ref z1, .ref n1, .ref t1])), (r1, .inl (cI, 10, .inl (wA ro))), (r2, .inl (cI, 10, .inl (wA ru))), (b1, .inl (cI, 10, .inl (wA g1))), (b2, .inl (cI, 10, .inl (wA g2))), (c2, .inl (cI, 1600, .inl (wA cy)))] (fun r w => ∃ (ro2 : Nat → Nat), ∃ (ru2 : Nat → Nat), ∃ (cy2 : Nat → Nat), (∀ j, j < pw_mx (pw_r b g2) me → cy2 j = pw_CY b me g1 g2 j) ∧ r = nI 1 ∧ w = [(h, .inr (5, [.int (nI th), .int (nI n), .ref a1, .ref a2, .ref a3, .ref a4, .int (nI wi), .int (nI bu), .int (nI L), .ref c1, .int (nI ax), .int (nI va), .int (nI sl), .int cv, .int (nI me), .ref b1, .ref b2, .int (nI (pw_mx (pw_r b g2) me)), .ref c2, .int (nI me), .ref r1, .ref r2, .ref z1, .ref n1, .ref t1])), (r1, .inl (cI, 10, .inl (wA ro2))), (r2, .inl (cI, 10, .inl (wA ru2))), (b1, .inl (cI, 10, .inl (wA g1))), (b2, .inl (cI, 10, .inl (wA g2))), (c2, .inl (cI, 1600, .inl (wA cy2)))]) := by
  intro sz
  refine k_of (cc := b_Md_lay) (maxL := 6) (ret := (Option.some Jvm.ClassFile.FieldType.boolean)) (by decide) rfl (Nat.le_of_ble_eq_true rfl) ?_
  intro p e s m args below meth c ls H locs A Q hQ hx hb hml hr hts hown hlk hnm hsz hAe hP hK hD hS hA hE hAH hl
  have ht : ∀ w ∈ mw, w.before args s = true := fun w h => hts w (List.mem_cons_of_mem _ h)
  have hl : lv_has ls 6 [(0, .ref h), (1, .int (nI b))] := hl
  refine lv_aload_n hx hb d_Md_lay_0 rfl (lv_at hl 0 rfl) ?_
  refine lv_iload_n hx hb d_Md_lay_1 rfl (lv_at hl 1 rfl) ?_
  refine ck_v (wc := [(h, .inr (5, [.int (nI th), .int (nI n), .ref a1, .ref a2, .ref a3, .ref a4, .int (nI wi), .int (nI bu), .int (nI L), .ref c1, .int (nI ax), .int (nI va), .int (nI sl), .int cv, .int (nI me), .ref b1, .ref b2, .int (nI L2), .ref c2, .int (nI mn), .ref r1, .ref r2, .ref z1, .ref n1, .ref t1])), (r1, .inl (cI, 10, .inl (wA ro))), (r2, .inl (cI, 10, .inl (wA ru))), (b2, .inl (cI, 10, .inl (wA g2)))]) (va_runV (As := [.int (nI b)]) (rest := []) (C := R_Md) ⟨hx, hb, hml, hown, ht⟩ (c_Md_arrange1 l Hs D cI cZ cL h a1 a2 a3 a4 c1 b1 b2 c2 r1 r2 z1 n1 t1 th n wi bu L ax va sl me L2 mn cv ro ru g2 b hme (fun t h => (hg2 t h).2) hb0 hb1 (fun t h => (hg2 t h).1) H.size) (gw_V 1 ht wd_1006 wd_5 wd_1003 wd_1005 ws_33 (by decide +kernel) ⟨Nat.le_of_ble_eq_true rfl, Nat.le_of_ble_eq_true rfl⟩) (k_preV hE hAH hK hP hD hS [0, 1, 2, 4] rfl rfl 0 rfl rfl) rfl rfl hl.1 rfl (lv_room (Nat.le_of_ble_eq_true rfl)) d_Md_lay_2 ⟨Nat.le_of_ble_eq_true rfl, Nat.le_of_ble_eq_true rfl⟩) hP hD hS hA [0, 1, 2, 4] rfl rfl (fun w1 H locs hpost hP hD hS => ?_)
  obtain ⟨ro2, ru2, hor, rfl⟩ := hpost
  have hP : va_P D kcl [(h, .inr (5, [.int (nI th), .int (nI n), .ref a1, .ref a2, .ref a3, .ref a4, .int (nI wi), .int (nI bu), .int (nI L), .ref c1, .int (nI ax), .int (nI va), .int (nI sl), .int cv, .int (nI me), .ref b1, .ref b2, .int (nI L2), .ref c2, .int (nI me), .ref r1, .ref r2, .ref z1, .ref n1, .ref t1])), (r1, .inl (cI, 10, .inl (wA ro2))), (r2, .inl (cI, 10, .inl (wA ru2))), (b1, .inl (cI, 10, .inl (wA g1))), (b2, .inl (cI, 10, .inl (wA g2))), (c2, .inl (cI, 1600, .inl (wA cy)))] H := hP
  have hD : va_D A [(h, .inr (5, [.int (nI th), .int (nI n), .ref a1, .ref a2, .ref a3, .ref a4, .int (nI wi), .int (nI bu), .int (nI L), .ref c1, .int (nI ax), .int (nI va), .int (nI sl), .int cv, .int (nI me), .ref b1, .ref b2, .int (nI L2), .ref c2, .int (nI me), .ref r1, .ref r2, .ref z1, .ref n1, .ref t1])), (r1, .inl (cI, 10, .inl (wA ro2))), (r2, .inl (cI, 10, .inl (wA ru2))), (b1, .inl (cI, 10, .inl (wA g1))), (b2, .inl (cI, 10, .inl (wA g2))), (c2, .inl (cI, 1600, .inl (wA cy)))] := hD
  have hFb : ∀ t, t < me → 0 < pw_r b g2 t ∧ pw_r b g2 t ≤ 40 := fun t ht => ⟨pw_r_pos hb0, Nat.le_trans (pw_rnd_le 6 b (g2 t) (hg2 t ht).1) (hg2 t ht).2⟩
  have hLL : pw_mx (pw_r b g2) me ≤ 40 := pw_mx_40 (fun k hk => (hg2 k hk).2) fun k hk => (hg2 k hk).1
  have hLp := pw_mx_pos (r := pw_r b g2) me
  have hru : ∀ t, t < me → 0 < ru2 t ∧ ru2 t ≤ 40 := fun t ht => by rw [hor.1 t ht]; exact hFb _ (pw_srt_get ht)
  have hro : ∀ t, t < me → ro2 t < me := fun t ht => by rw [hor.2 t ht]; exact pw_srt_get ht
  refine lv_aload_n hx hb d_Md_lay_5 rfl (lv_at hl 0 rfl) ?_
  refine lv_aload_n hx hb d_Md_lay_6 rfl (lv_at hl 0 rfl) ?_
  refine va_get (D := D) (ci := 5) (v := .int (nI me)) (C := R_Md) (T := T_Md) (N := 25) hx hb ht u_Md hown hK hP 0 rfl rfl 19 (by decide) (ht _ wd_914) (fun _ h9 => h9) rfl d_Md_lay_7 ?_
  refine wi_if_ne hx hb d_Md_lay_10 rfl (by omega) (fun h10 => ?_) (fun h10 => ?_)
  · refine lv_aload_n hx hb d_Md_lay_17 rfl (lv_at hl 0 rfl) ?_
    refine va_get (D := D) (ci := 5) (v := .ref r2) (C := R_Md) (T := T_Md) (N := 25) hx hb ht u_Md hown hK hP 0 rfl rfl 21 (by decide) (ht _ wd_916) (fun _ h9 => h9) rfl d_Md_lay_18 ?_
    refine lv_aload_n hx hb d_Md_lay_21 rfl (lv_at hl 0 rfl) ?_
    refine va_get (D := D) (ci := 5) (v := .int (nI me)) (C := R_Md) (T := T_Md) (N := 25) hx hb ht u_Md hown hK hP 0 rfl rfl 19 (by decide) (ht _ wd_914) (fun _ h9 => h9) rfl d_Md_lay_22 ?_
    refine lv_iconst (v := nI 1) hx hb d_Md_lay_25 (by decide) ?_
    refine wi_sub hx hb d_Md_lay_26 (by omega) ?_
    refine wi_ald hx hb hK hP 2 0 rfl rfl (by omega) (by omega) d_Md_lay_27 ?_
    rw [show ru2 (me - 1) = pw_mx (pw_r b g2) me by rw [hor.1 _ (by omega)]; exact pw_mx_last h10 (fun k hk => (hFb k hk).1)]
    refine va_put (D := D) (ci := 5) (v := .int (nI (pw_mx (pw_r b g2) me))) (ty := .int) (C := R_Md) (T := T_Md) (N := 25) hx hb ht u_Md t_Md t_Md_ok n_Md hown hK hP hD hS 0 rfl rfl 17 (by decide) (ht _ wd_912) (fun _ h9 => h9) rfl (by decide +kernel) rfl rfl (Nat.le_of_ble_eq_true rfl) d_Md_lay_28 (fun H locs hP hD hS => ?_)
    have hP : va_P D kcl [(h, .inr (5, [.int (nI th), .int (nI n), .ref a1, .ref a2, .ref a3, .ref a4, .int (nI wi), .int (nI bu), .int (nI L), .ref c1, .int (nI ax), .int (nI va), .int (nI sl), .int cv, .int (nI me), .ref b1, .ref b2, .int (nI (pw_mx (pw_r b g2) me)), .ref c2, .int (nI me), .ref r1, .ref r2, .ref z1, .ref n1, .ref t1])), (r1, .inl (cI, 10, .inl (wA ro2))), (r2, .inl (cI, 10, .inl (wA ru2))), (b1, .inl (cI, 10, .inl (wA g1))), (b2, .inl (cI, 10, .inl (wA g2))), (c2, .inl (cI, 1600, .inl (wA cy)))] H := hP
    have hD : va_D A [(h, .inr (5, [.int (nI th), .int (nI n), .ref a1, .ref a2, .ref a3, .ref a4, .int (nI wi), .int (nI bu), .int (nI L), .ref c1, .int (nI ax), .int (nI va), .int (nI sl), .int cv, .int (nI me), .ref b1, .ref b2, .int (nI (pw_mx (pw_r b g2) me)), .ref c2, .int (nI me), .ref r1, .ref r2, .ref z1, .ref n1, .ref t1])), (r1, .inl (cI, 10, .inl (wA ro2))), (r2, .inl (cI, 10, .inl (wA ru2))), (b1, .inl (cI, 10, .inl (wA g1))), (b2, .inl (cI, 10, .inl (wA g2))), (c2, .inl (cI, 1600, .inl (wA cy)))] := hD
    refine lv_iconst (v := nI 0) hx hb d_Md_lay_31 (by decide) ?_
    refine lv_istore_n (lv' := [(2, .int (nI 0)), (0, .ref h), (1, .int (nI b))]) hx hb d_Md_lay_32 rfl hl (by decide) rfl (fun ls hl => ?_)
    refine lv_iconst (v := nI 0) hx hb d_Md_lay_33 (by decide) ?_
    refine lv_istore_n (lv' := [(3, .int (nI 0)), (2, .int (nI 0)), (0, .ref h), (1, .int (nI b))]) hx hb d_Md_lay_34 rfl hl (by decide) rfl (fun ls hl => ?_)
    have loop35 : ∀ (d : Nat) (k : Nat) (ls : Array Slot) (H : Heap) (locs : List Loc), me - k = d → (k ≤ me) → lv_has ls 6 [(0, .ref h), (1, .int (nI b)), (2, .int (nI (pw_sm (fun i => pw_mx (pw_r b g2) me / ru2 i) k))), (3, .int (nI k))] → va_P D kcl [(h, .inr (5, [.int (nI th), .int (nI n), .ref a1, .ref a2, .ref a3, .ref a4, .int (nI wi), .int (nI bu), .int (nI L), .ref c1, .int (nI ax), .int (nI va), .int (nI sl), .int cv, .int (nI me), .ref b1, .ref b2, .int (nI (pw_mx (pw_r b g2) me)), .ref c2, .int (nI me), .ref r1, .ref r2, .ref z1, .ref n1, .ref t1])), (r1, .inl (cI, 10, .inl (wA ro2))), (r2, .inl (cI, 10, .inl (wA ru2))), (b1, .inl (cI, 10, .inl (wA g1))), (b2, .inl (cI, 10, .inl (wA g2))), (c2, .inl (cI, 1600, .inl (wA cy)))] H → va_D A [(h, .inr (5, [.int (nI th), .int (nI n), .ref a1, .ref a2, .ref a3, .ref a4, .int (nI wi), .int (nI bu), .int (nI L), .ref c1, .int (nI ax), .int (nI va), .int (nI sl), .int cv, .int (nI me), .ref b1, .ref b2, .int (nI (pw_mx (pw_r b g2) me)), .ref c2, .int (nI me), .ref r1, .ref r2, .ref z1, .ref n1, .ref t1])), (r1, .inl (cI, 10, .inl (wA ro2))), (r2, .inl (cI, 10, .inl (wA ru2))), (b1, .inl (cI, 10, .inl (wA g1))), (b2, .inl (cI, 10, .inl (wA g2))), (c2, .inl (cI, 1600, .inl (wA cy)))] → va_S A s.heap H locs → W p l e ({ frames := 2, cells := 0, slots := 0, locals := 46 } : Room) s m args below meth c H locs 0 0 Q (F0 m 35 ls []) := by
      intro d
      induction d using Nat.strongRecOn with
      | ind d ih35 =>
        intro k ls H locs hd35 hk hl hP hD hS
        refine lv_iload_n hx hb d_Md_lay_35 rfl (lv_at hl 3 rfl) ?_
        refine lv_aload_n hx hb d_Md_lay_36 rfl (lv_at hl 0 rfl) ?_
        refine va_get (D := D) (ci := 5) (v := .int (nI me)) (C := R_Md) (T := T_Md) (N := 25) hx hb ht u_Md hown hK hP 0 rfl rfl 19 (by decide) (ht _ wd_914) (fun _ h9 => h9) rfl d_Md_lay_37 ?_
        refine wi_ge hx hb d_Md_lay_40 rfl (by omega) (by omega) (fun h40 => ?_) (fun h40 => ?_)
        · obtain rfl : me = k := by omega
          have hnd : pw_sm (fun i => pw_mx (pw_r b g2) me / ru2 i) me = pw_nd2 b g2 me := md_or_sm hor
          have hsm : pw_sm (fun i => pw_mx (pw_r b g2) me / ru2 i) me ≤ me * (pw_mx (pw_r b g2) me) := pw_sm_le fun t _ => Nat.div_le_self _ _
          have hsm2 : me * (pw_mx (pw_r b g2) me) ≤ 10 * 40 := Nat.mul_le_mul hme hLL
          refine lv_iload_n hx hb d_Md_lay_63 rfl (lv_at hl 2 rfl) ?_
          refine lv_aload_n hx hb d_Md_lay_64 rfl (lv_at hl 0 rfl) ?_
          refine va_get (D := D) (ci := 5) (v := .int (nI (pw_mx (pw_r b g2) me))) (C := R_Md) (T := T_Md) (N := 25) hx hb ht u_Md hown hK hP 0 rfl rfl 17 (by decide) (ht _ wd_912) (fun _ h9 => h9) rfl d_Md_lay_65 ?_
          refine wi_le hx hb d_Md_lay_68 rfl (by omega) (by omega) (fun h68 => ?_) (fun h68 => ?_)
          · refine lv_iconst (v := nI 0) hx hb d_Md_lay_73 (by decide) ?_
            refine lv_istore_n (lv' := [(3, .int (nI 0)), (0, .ref h), (1, .int (nI b)), (2, .int (nI (pw_sm (fun i => pw_mx (pw_r b g2) me / ru2 i) me)))]) hx hb d_Md_lay_74 rfl hl (by decide) rfl (fun ls hl => ?_)
            have loop75 : ∀ (d : Nat) (k : Nat) (y : Nat → Nat) (ls : Array Slot) (H : Heap) (locs : List Loc), pw_mx (pw_r b g2) me - k = d → (k ≤ pw_mx (pw_r b g2) me) → (∀ j, j < k → y j = 0) → lv_has ls 6 [(0, .ref h), (1, .int (nI b)), (3, .int (nI k))] → va_P D kcl [(h, .inr (5, [.int (nI th), .int (nI n), .ref a1, .ref a2, .ref a3, .ref a4, .int (nI wi), .int (nI bu), .int (nI L), .ref c1, .int (nI ax), .int (nI va), .int (nI sl), .int cv, .int (nI me), .ref b1, .ref b2, .int (nI (pw_mx (pw_r b g2) me)), .ref c2, .int (nI me), .ref r1, .ref r2, .ref z1, .ref n1, .ref t1])), (r1, .inl (cI, 10, .inl (wA ro2))), (r2, .inl (cI, 10, .inl (wA ru2))), (b1, .inl (cI, 10, .inl (wA g1))), (b2, .inl (cI, 10, .inl (wA g2))), (c2, .inl (cI, 1600, .inl (wA y)))] H → va_D A [(h, .inr (5, [.int (nI th), .int (nI n), .ref a1, .ref a2, .ref a3, .ref a4, .int (nI wi), .int (nI bu), .int (nI L), .ref c1, .int (nI ax), .int (nI va), .int (nI sl), .int cv, .int (nI me), .ref b1, .ref b2, .int (nI (pw_mx (pw_r b g2) me)), .ref c2, .int (nI me), .ref r1, .ref r2, .ref z1, .ref n1, .ref t1])), (r1, .inl (cI, 10, .inl (wA ro2))), (r2, .inl (cI, 10, .inl (wA ru2))), (b1, .inl (cI, 10, .inl (wA g1))), (b2, .inl (cI, 10, .inl (wA g2))), (c2, .inl (cI, 1600, .inl (wA y)))] → va_S A s.heap H locs → W p l e ({ frames := 2, cells := 0, slots := 0, locals := 46 } : Room) s m args below meth c H locs 0 0 Q (F0 m 75 ls []) := by
              intro d
              induction d using Nat.strongRecOn with
              | ind d ih75 =>
                intro k y ls H locs hd75 hk hy0 hl hP hD hS
                refine lv_iload_n hx hb d_Md_lay_75 rfl (lv_at hl 2 rfl) ?_
                refine lv_aload_n hx hb d_Md_lay_76 rfl (lv_at hl 0 rfl) ?_
                refine va_get (D := D) (ci := 5) (v := .int (nI (pw_mx (pw_r b g2) me))) (C := R_Md) (T := T_Md) (N := 25) hx hb ht u_Md hown hK hP 0 rfl rfl 17 (by decide) (ht _ wd_912) (fun _ h9 => h9) rfl d_Md_lay_77 ?_
                refine wi_ge hx hb d_Md_lay_80 rfl (by omega) (by omega) (fun h80 => ?_) (fun h80 => ?_)
                · refine lv_iconst (v := nI 0) hx hb d_Md_lay_96 (by decide) ?_
                  refine lv_istore_n (lv' := [(3, .int (nI 0)), (0, .ref h), (1, .int (nI b))]) hx hb d_Md_lay_97 rfl hl (by decide) rfl (fun ls hl => ?_)
                  have loop98 : ∀ (d : Nat) (k : Nat) (y : Nat → Nat) (ls : Array Slot) (H : Heap) (locs : List Loc), me - k = d → (k ≤ me) → (∀ j, j < pw_mx (pw_r b g2) me → y j = pw_cy (pw_mx (pw_r b g2) me) g1 (pw_r b g2) ((pw_srt (pw_r b g2) me).take k) j) → (∀ j, j < pw_mx (pw_r b g2) me → y j < 2 ^ 31) → lv_has ls 6 [(0, .ref h), (1, .int (nI b)), (3, .int (nI k))] → va_P D kcl [(h, .inr (5, [.int (nI th), .int (nI n), .ref a1, .ref a2, .ref a3, .ref a4, .int (nI wi), .int (nI bu), .int (nI L), .ref c1, .int (nI ax), .int (nI va), .int (nI sl), .int cv, .int (nI me), .ref b1, .ref b2, .int (nI (pw_mx (pw_r b g2) me)), .ref c2, .int (nI me), .ref r1, .ref r2, .ref z1, .ref n1, .ref t1])), (r1, .inl (cI, 10, .inl (wA ro2))), (r2, .inl (cI, 10, .inl (wA ru2))), (b1, .inl (cI, 10, .inl (wA g1))), (b2, .inl (cI, 10, .inl (wA g2))), (c2, .inl (cI, 1600, .inl (wA y)))] H → va_D A [(h, .inr (5, [.int (nI th), .int (nI n), .ref a1, .ref a2, .ref a3, .ref a4, .int (nI wi), .int (nI bu), .int (nI L), .ref c1, .int (nI ax), .int (nI va), .int (nI sl), .int cv, .int (nI me), .ref b1, .ref b2, .int (nI (pw_mx (pw_r b g2) me)), .ref c2, .int (nI me), .ref r1, .ref r2, .ref z1, .ref n1, .ref t1])), (r1, .inl (cI, 10, .inl (wA ro2))), (r2, .inl (cI, 10, .inl (wA ru2))), (b1, .inl (cI, 10, .inl (wA g1))), (b2, .inl (cI, 10, .inl (wA g2))), (c2, .inl (cI, 1600, .inl (wA y)))] → va_S A s.heap H locs → W p l e ({ frames := 2, cells := 0, slots := 0, locals := 46 } : Room) s m args below meth c H locs 0 0 Q (F0 m 98 ls []) := by
                    intro d
                    induction d using Nat.strongRecOn with
                    | ind d ih98 =>
                      intro k y ls H locs hd98 hk hyc hyl hl hP hD hS
                      refine lv_iload_n hx hb d_Md_lay_98 rfl (lv_at hl 2 rfl) ?_
                      refine lv_aload_n hx hb d_Md_lay_99 rfl (lv_at hl 0 rfl) ?_
                      refine va_get (D := D) (ci := 5) (v := .int (nI me)) (C := R_Md) (T := T_Md) (N := 25) hx hb ht u_Md hown hK hP 0 rfl rfl 19 (by decide) (ht _ wd_914) (fun _ h9 => h9) rfl d_Md_lay_100 ?_
                      refine wi_ge hx hb d_Md_lay_103 rfl (by omega) (by omega) (fun h103 => ?_) (fun h103 => ?_)
                      · obtain rfl : me = k := by omega
                        have hfin : ∀ j, j < pw_mx (pw_r b g2) me → y j = pw_CY b me g1 g2 j := fun j hj => by
                          rw [hyc j hj, List.take_of_length_le (by rw [pw_srt_len]; exact Nat.le_refl _)]
                          rfl
                        refine lv_iconst (v := nI 1) hx hb d_Md_lay_176 (by decide) ?_
                        exact k_retz hQ hx hb hr hlk hAe hK hP hD hS (Nat.le_of_ble_eq_true rfl) (Nat.le_of_ble_eq_true rfl) (Nat.le_of_ble_eq_true rfl) rfl ⟨ro2, ru2, y, hfin, rfl, rfl⟩ d_Md_lay_177
                      · have hrk := hru k h103
                        have hgk := hg1 _ (hro k h103)
                        have hrok := hro k h103
                        have hffe : pw_ff y (pw_mx (pw_r b g2) me) 0 < pw_mx (pw_r b g2) me := by
                          rw [pw_ff_cg (pw_mx (pw_r b g2) me) 0 fun j _ hj => hyc j (by omega)]
                          exact (pw_cy_H ⟨hb0, fun t ht => (hg1 t ht).1, hinj⟩ hfit k (by omega)).2 h103
                        have hffs := pw_ff_spec y (pw_mx (pw_r b g2) me) 0
                        refine lv_iconst (v := nI 0) hx hb d_Md_lay_106 (by decide) ?_
                        refine lv_istore (lv' := [(4, .int (nI 0)), (0, .ref h), (1, .int (nI b)), (3, .int (nI k))]) hx hb d_Md_lay_107 hl (by decide) rfl (fun ls hl => ?_)
                        have loop109 : ∀ (d : Nat) (f9 : Nat) (ls : Array Slot) (H : Heap) (locs : List Loc), pw_mx (pw_r b g2) me - f9 = d → (f9 ≤ pw_ff y (pw_mx (pw_r b g2) me) 0) → lv_has ls 6 [(0, .ref h), (1, .int (nI b)), (3, .int (nI k)), (4, .int (nI f9))] → va_P D kcl [(h, .inr (5, [.int (nI th), .int (nI n), .ref a1, .ref a2, .ref a3, .ref a4, .int (nI wi), .int (nI bu), .int (nI L), .ref c1, .int (nI ax), .int (nI va), .int (nI sl), .int cv, .int (nI me), .ref b1, .ref b2, .int (nI (pw_mx (pw_r b g2) me)), .ref c2, .int (nI me), .ref r1, .ref r2, .ref z1, .ref n1, .ref t1])), (r1, .inl (cI, 10, .inl (wA ro2))), (r2, .inl (cI, 10, .inl (wA ru2))), (b1, .inl (cI, 10, .inl (wA g1))), (b2, .inl (cI, 10, .inl (wA g2))), (c2, .inl (cI, 1600, .inl (wA y)))] H → va_D A [(h, .inr (5, [.int (nI th), .int (nI n), .ref a1, .ref a2, .ref a3, .ref a4, .int (nI wi), .int (nI bu), .int (nI L), .ref c1, .int (nI ax), .int (nI va), .int (nI sl), .int cv, .int (nI me), .ref b1, .ref b2, .int (nI (pw_mx (pw_r b g2) me)), .ref c2, .int (nI me), .ref r1, .ref r2, .ref z1, .ref n1, .ref t1])), (r1, .inl (cI, 10, .inl (wA ro2))), (r2, .inl (cI, 10, .inl (wA ru2))), (b1, .inl (cI, 10, .inl (wA g1))), (b2, .inl (cI, 10, .inl (wA g2))), (c2, .inl (cI, 1600, .inl (wA y)))] → va_S A s.heap H locs → W p l e ({ frames := 2, cells := 0, slots := 0, locals := 46 } : Room) s m args below meth c H locs 0 0 Q (F0 m 109 ls []) := by
                          intro d
                          induction d using Nat.strongRecOn with
                          | ind d ih109 =>
                            intro f9 ls H locs hd109 hf9 hl hP hD hS
                            refine lv_aload_n hx hb d_Md_lay_109 rfl (lv_at hl 0 rfl) ?_
                            refine va_get (D := D) (ci := 5) (v := .ref c2) (C := R_Md) (T := T_Md) (N := 25) hx hb ht u_Md hown hK hP 0 rfl rfl 18 (by decide) (ht _ wd_913) (fun _ h9 => h9) rfl d_Md_lay_110 ?_
                            refine lv_iload hx hb d_Md_lay_113 (lv_at hl 3 rfl) ?_
                            refine wi_ald hx hb hK hP 5 0 rfl rfl (by omega) (by decide) d_Md_lay_115 ?_
                            refine wi_if_eq hx hb d_Md_lay_116 rfl (hyl _ (by omega)) (fun h116 => ?_) (fun h116 => ?_)
                            · have hff : pw_ff y (pw_mx (pw_r b g2) me) 0 = f9 := Nat.le_antisymm (Nat.not_lt.mp fun z => hffs.2.2.1 f9 (by omega) z h116) hf9
                              refine lv_iload hx hb d_Md_lay_125 (lv_at hl 3 rfl) ?_
                              refine lv_istore (lv' := [(5, .int (nI f9)), (0, .ref h), (1, .int (nI b)), (3, .int (nI k)), (4, .int (nI f9))]) hx hb d_Md_lay_127 hl (by decide) rfl (fun ls hl => ?_)
                              have loop129 : ∀ (d : Nat) (x : Nat) (u : Nat → Nat) (ls : Array Slot) (H : Heap) (locs : List Loc), pw_mx (pw_r b g2) me + ru2 k - x = d → (f9 ≤ x) → ((x - f9) % ru2 k = 0) → (x = f9 ∨ x < pw_mx (pw_r b g2) me + ru2 k) → (u = pw_gp f9 x (ru2 k) (g1 (ro2 k)) y) → lv_has ls 6 [(0, .ref h), (1, .int (nI b)), (3, .int (nI k)), (5, .int (nI x))] → va_P D kcl [(h, .inr (5, [.int (nI th), .int (nI n), .ref a1, .ref a2, .ref a3, .ref a4, .int (nI wi), .int (nI bu), .int (nI L), .ref c1, .int (nI ax), .int (nI va), .int (nI sl), .int cv, .int (nI me), .ref b1, .ref b2, .int (nI (pw_mx (pw_r b g2) me)), .ref c2, .int (nI me), .ref r1, .ref r2, .ref z1, .ref n1, .ref t1])), (r1, .inl (cI, 10, .inl (wA ro2))), (r2, .inl (cI, 10, .inl (wA ru2))), (b1, .inl (cI, 10, .inl (wA g1))), (b2, .inl (cI, 10, .inl (wA g2))), (c2, .inl (cI, 1600, .inl (wA u)))] H → va_D A [(h, .inr (5, [.int (nI th), .int (nI n), .ref a1, .ref a2, .ref a3, .ref a4, .int (nI wi), .int (nI bu), .int (nI L), .ref c1, .int (nI ax), .int (nI va), .int (nI sl), .int cv, .int (nI me), .ref b1, .ref b2, .int (nI (pw_mx (pw_r b g2) me)), .ref c2, .int (nI me), .ref r1, .ref r2, .ref z1, .ref n1, .ref t1])), (r1, .inl (cI, 10, .inl (wA ro2))), (r2, .inl (cI, 10, .inl (wA ru2))), (b1, .inl (cI, 10, .inl (wA g1))), (b2, .inl (cI, 10, .inl (wA g2))), (c2, .inl (cI, 1600, .inl (wA u)))] → va_S A s.heap H locs → W p l e ({ frames := 2, cells := 0, slots := 0, locals := 46 } : Room) s m args below meth c H locs 0 0 Q (F0 m 129 ls []) := by
                                intro d
                                induction d using Nat.strongRecOn with
                                | ind d ih129 =>
                                  intro x u ls H locs hd129 hkx hm hl2 hu hl hP hD hS
                                  refine lv_iload hx hb d_Md_lay_129 (lv_at hl 3 rfl) ?_
                                  refine lv_aload_n hx hb d_Md_lay_131 rfl (lv_at hl 0 rfl) ?_
                                  refine va_get (D := D) (ci := 5) (v := .int (nI (pw_mx (pw_r b g2) me))) (C := R_Md) (T := T_Md) (N := 25) hx hb ht u_Md hown hK hP 0 rfl rfl 17 (by decide) (ht _ wd_912) (fun _ h9 => h9) rfl d_Md_lay_132 ?_
                                  refine wi_ge hx hb d_Md_lay_135 rfl (by omega) (by omega) (fun h135 => ?_) (fun h135 => ?_)
                                  · refine wi_inc (k := 2) (lv' := [(3, .int (nI (k + 1))), (0, .ref h), (1, .int (nI b)), (5, .int (nI x))]) hx hb d_Md_lay_170 hl rfl (by decide) rfl (fun ls hl => ?_)
                                    refine lv_goto hx hb d_Md_lay_173 rfl ?_
                                    have hu2 : u = pw_gv (pw_mx (pw_r b g2) me) (g1 (ro2 k)) (ru2 k) y := by rw [hu]; exact pw_gp_end hff.symm hrk.1 hkx hm (by omega) hl2
                                    subst hu2
                                    exact ih98 (me - (k + 1)) (by omega) (k + 1) (pw_gv (pw_mx (pw_r b g2) me) (g1 (ro2 k)) (ru2 k) y) ls H locs rfl (by omega) (md_lay_s hor h103 hyc) (pw_gv_lt hyl (hg1 _ (hro k h103)).2) (lv_sub hl [1, 2, 0] rfl) hP hD hS
                                  · refine lv_aload_n hx hb d_Md_lay_138 rfl (lv_at hl 0 rfl) ?_
                                    refine va_get (D := D) (ci := 5) (v := .ref c2) (C := R_Md) (T := T_Md) (N := 25) hx hb ht u_Md hown hK hP 0 rfl rfl 18 (by decide) (ht _ wd_913) (fun _ h9 => h9) rfl d_Md_lay_139 ?_
                                    refine lv_iload hx hb d_Md_lay_142 (lv_at hl 3 rfl) ?_
                                    refine lv_aload_n hx hb d_Md_lay_144 rfl (lv_at hl 0 rfl) ?_
                                    refine va_get (D := D) (ci := 5) (v := .ref b1) (C := R_Md) (T := T_Md) (N := 25) hx hb ht u_Md hown hK hP 0 rfl rfl 15 (by decide) (ht _ wd_910) (fun _ h9 => h9) rfl d_Md_lay_145 ?_
                                    refine lv_aload_n hx hb d_Md_lay_148 rfl (lv_at hl 0 rfl) ?_
                                    refine va_get (D := D) (ci := 5) (v := .ref r1) (C := R_Md) (T := T_Md) (N := 25) hx hb ht u_Md hown hK hP 0 rfl rfl 20 (by decide) (ht _ wd_915) (fun _ h9 => h9) rfl d_Md_lay_149 ?_
                                    refine lv_iload_n hx hb d_Md_lay_152 rfl (lv_at hl 2 rfl) ?_
                                    refine wi_ald hx hb hK hP 1 0 rfl rfl (by omega) (by omega) d_Md_lay_153 ?_
                                    refine wi_ald hx hb hK hP 3 0 rfl rfl (by omega) (by omega) d_Md_lay_154 ?_
                                    refine wi_ast hx hb hK hP hD hS 5 0 rfl rfl (by omega) (by omega) d_Md_lay_155 (fun H locs hP hD hS => ?_)
                                    have hP : va_P D kcl [(h, .inr (5, [.int (nI th), .int (nI n), .ref a1, .ref a2, .ref a3, .ref a4, .int (nI wi), .int (nI bu), .int (nI L), .ref c1, .int (nI ax), .int (nI va), .int (nI sl), .int cv, .int (nI me), .ref b1, .ref b2, .int (nI (pw_mx (pw_r b g2) me)), .ref c2, .int (nI me), .ref r1, .ref r2, .ref z1, .ref n1, .ref t1])), (r1, .inl (cI, 10, .inl (wA ro2))), (r2, .inl (cI, 10, .inl (wA ru2))), (b1, .inl (cI, 10, .inl (wA g1))), (b2, .inl (cI, 10, .inl (wA g2))), (c2, .inl (cI, 1600, .inl (wA (va_up u x (g1 (ro2 k))))))] H := hP
                                    have hD : va_D A [(h, .inr (5, [.int (nI th), .int (nI n), .ref a1, .ref a2, .ref a3, .ref a4, .int (nI wi), .int (nI bu), .int (nI L), .ref c1, .int (nI ax), .int (nI va), .int (nI sl), .int cv, .int (nI me), .ref b1, .ref b2, .int (nI (pw_mx (pw_r b g2) me)), .ref c2, .int (nI me), .ref r1, .ref r2, .ref z1, .ref n1, .ref t1])), (r1, .inl (cI, 10, .inl (wA ro2))), (r2, .inl (cI, 10, .inl (wA ru2))), (b1, .inl (cI, 10, .inl (wA g1))), (b2, .inl (cI, 10, .inl (wA g2))), (c2, .inl (cI, 1600, .inl (wA (va_up u x (g1 (ro2 k))))))] := hD
                                    refine lv_iload hx hb d_Md_lay_156 (lv_at hl 3 rfl) ?_
                                    refine lv_aload_n hx hb d_Md_lay_158 rfl (lv_at hl 0 rfl) ?_
                                    refine va_get (D := D) (ci := 5) (v := .ref r2) (C := R_Md) (T := T_Md) (N := 25) hx hb ht u_Md hown hK hP 0 rfl rfl 21 (by decide) (ht _ wd_916) (fun _ h9 => h9) rfl d_Md_lay_159 ?_
                                    refine lv_iload_n hx hb d_Md_lay_162 rfl (lv_at hl 2 rfl) ?_
                                    refine wi_ald hx hb hK hP 2 0 rfl rfl (by omega) (by omega) d_Md_lay_163 ?_
                                    refine wi_add hx hb d_Md_lay_164 ?_
                                    refine lv_istore (lv' := [(5, .int (nI (x + (ru2 k)))), (0, .ref h), (1, .int (nI b)), (3, .int (nI k))]) hx hb d_Md_lay_165 hl (by decide) rfl (fun ls hl => ?_)
                                    refine lv_goto hx hb d_Md_lay_167 rfl ?_
                                    exact ih129 (pw_mx (pw_r b g2) me + ru2 k - (x + ru2 k)) (by omega) (x + ru2 k) (va_up u x (g1 (ro2 k))) ls H locs rfl (by omega) (pw_gp_m hkx hm) (by omega) (by rw [hu]; exact pw_gp_up hrk.1 hkx hm) (lv_sub hl [1, 2, 3, 0] rfl) hP hD hS
                              exact loop129 _ (f9) (y) ls H locs rfl (Nat.le_refl _) (by rw [Nat.sub_self, Nat.zero_mod]) (Or.inl rfl) pw_gp_0 (lv_sub hl [1, 2, 3, 0] rfl) hP hD hS
                            · refine wi_inc (k := 3) (lv' := [(4, .int (nI (f9 + 1))), (0, .ref h), (1, .int (nI b)), (3, .int (nI k))]) hx hb d_Md_lay_119 hl rfl (by decide) rfl (fun ls hl => ?_)
                              refine lv_goto hx hb d_Md_lay_122 rfl ?_
                              exact ih109 (pw_mx (pw_r b g2) me - (f9 + 1)) (by omega) (f9 + 1) ls H locs rfl (Nat.lt_of_le_of_ne hf9 (fun z => by have := hffs.2.2.2 (by omega); rw [← z] at this; omega)) (lv_sub hl [1, 2, 3, 0] rfl) hP hD hS
                        exact loop109 _ (0) ls H locs rfl (Nat.zero_le _) (lv_sub hl [1, 2, 3, 0] rfl) hP hD hS
                  exact loop98 _ (0) (y) ls H locs rfl (Nat.zero_le _) (fun j hj => hy0 j (by omega)) (fun j hj => by rw [hy0 j (by omega)]; decide) (lv_sub hl [1, 2, 0] rfl) hP hD hS
                · refine lv_aload_n hx hb d_Md_lay_83 rfl (lv_at hl 0 rfl) ?_
                  refine va_get (D := D) (ci := 5) (v := .ref c2) (C := R_Md) (T := T_Md) (N := 25) hx hb ht u_Md hown hK hP 0 rfl rfl 18 (by decide) (ht _ wd_913) (fun _ h9 => h9) rfl d_Md_lay_84 ?_
                  refine lv_iload_n hx hb d_Md_lay_87 rfl (lv_at hl 2 rfl) ?_
                  refine lv_iconst (v := nI 0) hx hb d_Md_lay_88 (by decide) ?_
                  refine wi_ast hx hb hK hP hD hS 5 0 rfl rfl (by omega) (by omega) d_Md_lay_89 (fun H locs hP hD hS => ?_)
                  have hP : va_P D kcl [(h, .inr (5, [.int (nI th), .int (nI n), .ref a1, .ref a2, .ref a3, .ref a4, .int (nI wi), .int (nI bu), .int (nI L), .ref c1, .int (nI ax), .int (nI va), .int (nI sl), .int cv, .int (nI me), .ref b1, .ref b2, .int (nI (pw_mx (pw_r b g2) me)), .ref c2, .int (nI me), .ref r1, .ref r2, .ref z1, .ref n1, .ref t1])), (r1, .inl (cI, 10, .inl (wA ro2))), (r2, .inl (cI, 10, .inl (wA ru2))), (b1, .inl (cI, 10, .inl (wA g1))), (b2, .inl (cI, 10, .inl (wA g2))), (c2, .inl (cI, 1600, .inl (wA (va_up y k 0))))] H := hP
                  have hD : va_D A [(h, .inr (5, [.int (nI th), .int (nI n), .ref a1, .ref a2, .ref a3, .ref a4, .int (nI wi), .int (nI bu), .int (nI L), .ref c1, .int (nI ax), .int (nI va), .int (nI sl), .int cv, .int (nI me), .ref b1, .ref b2, .int (nI (pw_mx (pw_r b g2) me)), .ref c2, .int (nI me), .ref r1, .ref r2, .ref z1, .ref n1, .ref t1])), (r1, .inl (cI, 10, .inl (wA ro2))), (r2, .inl (cI, 10, .inl (wA ru2))), (b1, .inl (cI, 10, .inl (wA g1))), (b2, .inl (cI, 10, .inl (wA g2))), (c2, .inl (cI, 1600, .inl (wA (va_up y k 0))))] := hD
                  refine wi_inc (k := 2) (lv' := [(3, .int (nI (k + 1))), (0, .ref h), (1, .int (nI b))]) hx hb d_Md_lay_90 hl rfl (by decide) rfl (fun ls hl => ?_)
                  refine lv_goto hx hb d_Md_lay_93 rfl ?_
                  exact ih75 (pw_mx (pw_r b g2) me - (k + 1)) (by omega) (k + 1) (va_up y k 0) ls H locs rfl (by omega) (up_lt (g := fun _ => 0) hy0) (lv_sub hl [1, 2, 0] rfl) hP hD hS
            exact loop75 _ (0) (cy) ls H locs rfl (Nat.zero_le _) lt_0 (lv_sub hl [1, 2, 0] rfl) hP hD hS
          · exact absurd (show pw_nd2 b g2 me ≤ pw_mx (pw_r b g2) me from hfit) (by rw [← hnd]; omega)
        · have hrk := hru k h40
          refine lv_iload_n hx hb d_Md_lay_43 rfl (lv_at hl 2 rfl) ?_
          refine lv_aload_n hx hb d_Md_lay_44 rfl (lv_at hl 0 rfl) ?_
          refine va_get (D := D) (ci := 5) (v := .int (nI (pw_mx (pw_r b g2) me))) (C := R_Md) (T := T_Md) (N := 25) hx hb ht u_Md hown hK hP 0 rfl rfl 17 (by decide) (ht _ wd_912) (fun _ h9 => h9) rfl d_Md_lay_45 ?_
          refine lv_aload_n hx hb d_Md_lay_48 rfl (lv_at hl 0 rfl) ?_
          refine va_get (D := D) (ci := 5) (v := .ref r2) (C := R_Md) (T := T_Md) (N := 25) hx hb ht u_Md hown hK hP 0 rfl rfl 21 (by decide) (ht _ wd_916) (fun _ h9 => h9) rfl d_Md_lay_49 ?_
          refine lv_iload_n hx hb d_Md_lay_52 rfl (lv_at hl 3 rfl) ?_
          refine wi_ald hx hb hK hP 2 0 rfl rfl (by omega) (by omega) d_Md_lay_53 ?_
          refine wi_div hx hb d_Md_lay_54 (by omega) hrk.1 (by omega) ?_
          refine wi_add hx hb d_Md_lay_55 ?_
          refine lv_istore_n (lv' := [(2, .int (nI (pw_sm (fun i => pw_mx (pw_r b g2) me / ru2 i) (k + 1)))), (0, .ref h), (1, .int (nI b)), (3, .int (nI k))]) hx hb d_Md_lay_56 rfl hl (by decide) rfl (fun ls hl => ?_)
          refine wi_inc (k := 3) (lv' := [(3, .int (nI (k + 1))), (2, .int (nI (pw_sm (fun i => pw_mx (pw_r b g2) me / ru2 i) (k + 1)))), (0, .ref h), (1, .int (nI b))]) hx hb d_Md_lay_57 hl rfl (by decide) rfl (fun ls hl => ?_)
          refine lv_goto hx hb d_Md_lay_60 rfl ?_
          exact ih35 (me - (k + 1)) (by omega) (k + 1) ls H locs rfl (by omega) (lv_sub hl [2, 3, 1, 0] rfl) hP hD hS
    exact loop35 _ (0) ls H locs rfl (Nat.zero_le _) (lv_sub hl [2, 3, 1, 0] rfl) hP hD hS
  · refine lv_iconst (v := nI 1) hx hb d_Md_lay_13 (by decide) ?_
    refine lv_goto hx hb d_Md_lay_14 rfl ?_
    rw [show nI 1 = nI (pw_mx (pw_r b g2) me) by rw [h10]; rfl]
    refine va_put (D := D) (ci := 5) (v := .int (nI (pw_mx (pw_r b g2) me))) (ty := .int) (C := R_Md) (T := T_Md) (N := 25) hx hb ht u_Md t_Md t_Md_ok n_Md hown hK hP hD hS 0 rfl rfl 17 (by decide) (ht _ wd_912) (fun _ h9 => h9) rfl (by decide +kernel) rfl rfl (Nat.le_of_ble_eq_true rfl) d_Md_lay_28 (fun H locs hP hD hS => ?_)
    have hP : va_P D kcl [(h, .inr (5, [.int (nI th), .int (nI n), .ref a1, .ref a2, .ref a3, .ref a4, .int (nI wi), .int (nI bu), .int (nI L), .ref c1, .int (nI ax), .int (nI va), .int (nI sl), .int cv, .int (nI me), .ref b1, .ref b2, .int (nI (pw_mx (pw_r b g2) me)), .ref c2, .int (nI me), .ref r1, .ref r2, .ref z1, .ref n1, .ref t1])), (r1, .inl (cI, 10, .inl (wA ro2))), (r2, .inl (cI, 10, .inl (wA ru2))), (b1, .inl (cI, 10, .inl (wA g1))), (b2, .inl (cI, 10, .inl (wA g2))), (c2, .inl (cI, 1600, .inl (wA cy)))] H := hP
    have hD : va_D A [(h, .inr (5, [.int (nI th), .int (nI n), .ref a1, .ref a2, .ref a3, .ref a4, .int (nI wi), .int (nI bu), .int (nI L), .ref c1, .int (nI ax), .int (nI va), .int (nI sl), .int cv, .int (nI me), .ref b1, .ref b2, .int (nI (pw_mx (pw_r b g2) me)), .ref c2, .int (nI me), .ref r1, .ref r2, .ref z1, .ref n1, .ref t1])), (r1, .inl (cI, 10, .inl (wA ro2))), (r2, .inl (cI, 10, .inl (wA ru2))), (b1, .inl (cI, 10, .inl (wA g1))), (b2, .inl (cI, 10, .inl (wA g2))), (c2, .inl (cI, 1600, .inl (wA cy)))] := hD
    refine lv_iconst (v := nI 0) hx hb d_Md_lay_31 (by decide) ?_
    refine lv_istore_n (lv' := [(2, .int (nI 0)), (0, .ref h), (1, .int (nI b))]) hx hb d_Md_lay_32 rfl hl (by decide) rfl (fun ls hl => ?_)
    refine lv_iconst (v := nI 0) hx hb d_Md_lay_33 (by decide) ?_
    refine lv_istore_n (lv' := [(3, .int (nI 0)), (2, .int (nI 0)), (0, .ref h), (1, .int (nI b))]) hx hb d_Md_lay_34 rfl hl (by decide) rfl (fun ls hl => ?_)
    have loop35 : ∀ (d : Nat) (k : Nat) (ls : Array Slot) (H : Heap) (locs : List Loc), me - k = d → (k ≤ me) → lv_has ls 6 [(0, .ref h), (1, .int (nI b)), (2, .int (nI (pw_sm (fun i => pw_mx (pw_r b g2) me / ru2 i) k))), (3, .int (nI k))] → va_P D kcl [(h, .inr (5, [.int (nI th), .int (nI n), .ref a1, .ref a2, .ref a3, .ref a4, .int (nI wi), .int (nI bu), .int (nI L), .ref c1, .int (nI ax), .int (nI va), .int (nI sl), .int cv, .int (nI me), .ref b1, .ref b2, .int (nI (pw_mx (pw_r b g2) me)), .ref c2, .int (nI me), .ref r1, .ref r2, .ref z1, .ref n1, .ref t1])), (r1, .inl (cI, 10, .inl (wA ro2))), (r2, .inl (cI, 10, .inl (wA ru2))), (b1, .inl (cI, 10, .inl (wA g1))), (b2, .inl (cI, 10, .inl (wA g2))), (c2, .inl (cI, 1600, .inl (wA cy)))] H → va_D A [(h, .inr (5, [.int (nI th), .int (nI n), .ref a1, .ref a2, .ref a3, .ref a4, .int (nI wi), .int (nI bu), .int (nI L), .ref c1, .int (nI ax), .int (nI va), .int (nI sl), .int cv, .int (nI me), .ref b1, .ref b2, .int (nI (pw_mx (pw_r b g2) me)), .ref c2, .int (nI me), .ref r1, .ref r2, .ref z1, .ref n1, .ref t1])), (r1, .inl (cI, 10, .inl (wA ro2))), (r2, .inl (cI, 10, .inl (wA ru2))), (b1, .inl (cI, 10, .inl (wA g1))), (b2, .inl (cI, 10, .inl (wA g2))), (c2, .inl (cI, 1600, .inl (wA cy)))] → va_S A s.heap H locs → W p l e ({ frames := 2, cells := 0, slots := 0, locals := 46 } : Room) s m args below meth c H locs 0 0 Q (F0 m 35 ls []) := by
      intro d
      induction d using Nat.strongRecOn with
      | ind d ih35 =>
        intro k ls H locs hd35 hk hl hP hD hS
        refine lv_iload_n hx hb d_Md_lay_35 rfl (lv_at hl 3 rfl) ?_
        refine lv_aload_n hx hb d_Md_lay_36 rfl (lv_at hl 0 rfl) ?_
        refine va_get (D := D) (ci := 5) (v := .int (nI me)) (C := R_Md) (T := T_Md) (N := 25) hx hb ht u_Md hown hK hP 0 rfl rfl 19 (by decide) (ht _ wd_914) (fun _ h9 => h9) rfl d_Md_lay_37 ?_
        refine wi_ge hx hb d_Md_lay_40 rfl (by omega) (by omega) (fun h40 => ?_) (fun h40 => ?_)
        · obtain rfl : me = k := by omega
          have hnd : pw_sm (fun i => pw_mx (pw_r b g2) me / ru2 i) me = pw_nd2 b g2 me := md_or_sm hor
          have hsm : pw_sm (fun i => pw_mx (pw_r b g2) me / ru2 i) me ≤ me * (pw_mx (pw_r b g2) me) := pw_sm_le fun t _ => Nat.div_le_self _ _
          have hsm2 : me * (pw_mx (pw_r b g2) me) ≤ 10 * 40 := Nat.mul_le_mul hme hLL
          refine lv_iload_n hx hb d_Md_lay_63 rfl (lv_at hl 2 rfl) ?_
          refine lv_aload_n hx hb d_Md_lay_64 rfl (lv_at hl 0 rfl) ?_
          refine va_get (D := D) (ci := 5) (v := .int (nI (pw_mx (pw_r b g2) me))) (C := R_Md) (T := T_Md) (N := 25) hx hb ht u_Md hown hK hP 0 rfl rfl 17 (by decide) (ht _ wd_912) (fun _ h9 => h9) rfl d_Md_lay_65 ?_
          refine wi_le hx hb d_Md_lay_68 rfl (by omega) (by omega) (fun h68 => ?_) (fun h68 => ?_)
          · refine lv_iconst (v := nI 0) hx hb d_Md_lay_73 (by decide) ?_
            refine lv_istore_n (lv' := [(3, .int (nI 0)), (0, .ref h), (1, .int (nI b)), (2, .int (nI (pw_sm (fun i => pw_mx (pw_r b g2) me / ru2 i) me)))]) hx hb d_Md_lay_74 rfl hl (by decide) rfl (fun ls hl => ?_)
            have loop75 : ∀ (d : Nat) (k : Nat) (y : Nat → Nat) (ls : Array Slot) (H : Heap) (locs : List Loc), pw_mx (pw_r b g2) me - k = d → (k ≤ pw_mx (pw_r b g2) me) → (∀ j, j < k → y j = 0) → lv_has ls 6 [(0, .ref h), (1, .int (nI b)), (3, .int (nI k))] → va_P D kcl [(h, .inr (5, [.int (nI th), .int (nI n), .ref a1, .ref a2, .ref a3, .ref a4, .int (nI wi), .int (nI bu), .int (nI L), .ref c1, .int (nI ax), .int (nI va), .int (nI sl), .int cv, .int (nI me), .ref b1, .ref b2, .int (nI (pw_mx (pw_r b g2) me)), .ref c2, .int (nI me), .ref r1, .ref r2, .ref z1, .ref n1, .ref t1])), (r1, .inl (cI, 10, .inl (wA ro2))), (r2, .inl (cI, 10, .inl (wA ru2))), (b1, .inl (cI, 10, .inl (wA g1))), (b2, .inl (cI, 10, .inl (wA g2))), (c2, .inl (cI, 1600, .inl (wA y)))] H → va_D A [(h, .inr (5, [.int (nI th), .int (nI n), .ref a1, .ref a2, .ref a3, .ref a4, .int (nI wi), .int (nI bu), .int (nI L), .ref c1, .int (nI ax), .int (nI va), .int (nI sl), .int cv, .int (nI me), .ref b1, .ref b2, .int (nI (pw_mx (pw_r b g2) me)), .ref c2, .int (nI me), .ref r1, .ref r2, .ref z1, .ref n1, .ref t1])), (r1, .inl (cI, 10, .inl (wA ro2))), (r2, .inl (cI, 10, .inl (wA ru2))), (b1, .inl (cI, 10, .inl (wA g1))), (b2, .inl (cI, 10, .inl (wA g2))), (c2, .inl (cI, 1600, .inl (wA y)))] → va_S A s.heap H locs → W p l e ({ frames := 2, cells := 0, slots := 0, locals := 46 } : Room) s m args below meth c H locs 0 0 Q (F0 m 75 ls []) := by
              intro d
              induction d using Nat.strongRecOn with
              | ind d ih75 =>
                intro k y ls H locs hd75 hk hy0 hl hP hD hS
                refine lv_iload_n hx hb d_Md_lay_75 rfl (lv_at hl 2 rfl) ?_
                refine lv_aload_n hx hb d_Md_lay_76 rfl (lv_at hl 0 rfl) ?_
                refine va_get (D := D) (ci := 5) (v := .int (nI (pw_mx (pw_r b g2) me))) (C := R_Md) (T := T_Md) (N := 25) hx hb ht u_Md hown hK hP 0 rfl rfl 17 (by decide) (ht _ wd_912) (fun _ h9 => h9) rfl d_Md_lay_77 ?_
                refine wi_ge hx hb d_Md_lay_80 rfl (by omega) (by omega) (fun h80 => ?_) (fun h80 => ?_)
                · refine lv_iconst (v := nI 0) hx hb d_Md_lay_96 (by decide) ?_
                  refine lv_istore_n (lv' := [(3, .int (nI 0)), (0, .ref h), (1, .int (nI b))]) hx hb d_Md_lay_97 rfl hl (by decide) rfl (fun ls hl => ?_)
                  have loop98 : ∀ (d : Nat) (k : Nat) (y : Nat → Nat) (ls : Array Slot) (H : Heap) (locs : List Loc), me - k = d → (k ≤ me) → (∀ j, j < pw_mx (pw_r b g2) me → y j = pw_cy (pw_mx (pw_r b g2) me) g1 (pw_r b g2) ((pw_srt (pw_r b g2) me).take k) j) → (∀ j, j < pw_mx (pw_r b g2) me → y j < 2 ^ 31) → lv_has ls 6 [(0, .ref h), (1, .int (nI b)), (3, .int (nI k))] → va_P D kcl [(h, .inr (5, [.int (nI th), .int (nI n), .ref a1, .ref a2, .ref a3, .ref a4, .int (nI wi), .int (nI bu), .int (nI L), .ref c1, .int (nI ax), .int (nI va), .int (nI sl), .int cv, .int (nI me), .ref b1, .ref b2, .int (nI (pw_mx (pw_r b g2) me)), .ref c2, .int (nI me), .ref r1, .ref r2, .ref z1, .ref n1, .ref t1])), (r1, .inl (cI, 10, .inl (wA ro2))), (r2, .inl (cI, 10, .inl (wA ru2))), (b1, .inl (cI, 10, .inl (wA g1))), (b2, .inl (cI, 10, .inl (wA g2))), (c2, .inl (cI, 1600, .inl (wA y)))] H → va_D A [(h, .inr (5, [.int (nI th), .int (nI n), .ref a1, .ref a2, .ref a3, .ref a4, .int (nI wi), .int (nI bu), .int (nI L), .ref c1, .int (nI ax), .int (nI va), .int (nI sl), .int cv, .int (nI me), .ref b1, .ref b2, .int (nI (pw_mx (pw_r b g2) me)), .ref c2, .int (nI me), .ref r1, .ref r2, .ref z1, .ref n1, .ref t1])), (r1, .inl (cI, 10, .inl (wA ro2))), (r2, .inl (cI, 10, .inl (wA ru2))), (b1, .inl (cI, 10, .inl (wA g1))), (b2, .inl (cI, 10, .inl (wA g2))), (c2, .inl (cI, 1600, .inl (wA y)))] → va_S A s.heap H locs → W p l e ({ frames := 2, cells := 0, slots := 0, locals := 46 } : Room) s m args below meth c H locs 0 0 Q (F0 m 98 ls []) := by
                    intro d
                    induction d using Nat.strongRecOn with
                    | ind d ih98 =>
                      intro k y ls H locs hd98 hk hyc hyl hl hP hD hS
                      refine lv_iload_n hx hb d_Md_lay_98 rfl (lv_at hl 2 rfl) ?_
                      refine lv_aload_n hx hb d_Md_lay_99 rfl (lv_at hl 0 rfl) ?_
                      refine va_get (D := D) (ci := 5) (v := .int (nI me)) (C := R_Md) (T := T_Md) (N := 25) hx hb ht u_Md hown hK hP 0 rfl rfl 19 (by decide) (ht _ wd_914) (fun _ h9 => h9) rfl d_Md_lay_100 ?_
                      refine wi_ge hx hb d_Md_lay_103 rfl (by omega) (by omega) (fun h103 => ?_) (fun h103 => ?_)
                      · obtain rfl : me = k := by omega
                        have hfin : ∀ j, j < pw_mx (pw_r b g2) me → y j = pw_CY b me g1 g2 j := fun j hj => by
                          rw [hyc j hj, List.take_of_length_le (by rw [pw_srt_len]; exact Nat.le_refl _)]
                          rfl
                        refine lv_iconst (v := nI 1) hx hb d_Md_lay_176 (by decide) ?_
                        exact k_retz hQ hx hb hr hlk hAe hK hP hD hS (Nat.le_of_ble_eq_true rfl) (Nat.le_of_ble_eq_true rfl) (Nat.le_of_ble_eq_true rfl) rfl ⟨ro2, ru2, y, hfin, rfl, rfl⟩ d_Md_lay_177
                      · have hrk := hru k h103
                        have hgk := hg1 _ (hro k h103)
                        have hrok := hro k h103
                        have hffe : pw_ff y (pw_mx (pw_r b g2) me) 0 < pw_mx (pw_r b g2) me := by
                          rw [pw_ff_cg (pw_mx (pw_r b g2) me) 0 fun j _ hj => hyc j (by omega)]
                          exact (pw_cy_H ⟨hb0, fun t ht => (hg1 t ht).1, hinj⟩ hfit k (by omega)).2 h103
                        have hffs := pw_ff_spec y (pw_mx (pw_r b g2) me) 0
                        refine lv_iconst (v := nI 0) hx hb d_Md_lay_106 (by decide) ?_
                        refine lv_istore (lv' := [(4, .int (nI 0)), (0, .ref h), (1, .int (nI b)), (3, .int (nI k))]) hx hb d_Md_lay_107 hl (by decide) rfl (fun ls hl => ?_)
                        have loop109 : ∀ (d : Nat) (f9 : Nat) (ls : Array Slot) (H : Heap) (locs : List Loc), pw_mx (pw_r b g2) me - f9 = d → (f9 ≤ pw_ff y (pw_mx (pw_r b g2) me) 0) → lv_has ls 6 [(0, .ref h), (1, .int (nI b)), (3, .int (nI k)), (4, .int (nI f9))] → va_P D kcl [(h, .inr (5, [.int (nI th), .int (nI n), .ref a1, .ref a2, .ref a3, .ref a4, .int (nI wi), .int (nI bu), .int (nI L), .ref c1, .int (nI ax), .int (nI va), .int (nI sl), .int cv, .int (nI me), .ref b1, .ref b2, .int (nI (pw_mx (pw_r b g2) me)), .ref c2, .int (nI me), .ref r1, .ref r2, .ref z1, .ref n1, .ref t1])), (r1, .inl (cI, 10, .inl (wA ro2))), (r2, .inl (cI, 10, .inl (wA ru2))), (b1, .inl (cI, 10, .inl (wA g1))), (b2, .inl (cI, 10, .inl (wA g2))), (c2, .inl (cI, 1600, .inl (wA y)))] H → va_D A [(h, .inr (5, [.int (nI th), .int (nI n), .ref a1, .ref a2, .ref a3, .ref a4, .int (nI wi), .int (nI bu), .int (nI L), .ref c1, .int (nI ax), .int (nI va), .int (nI sl), .int cv, .int (nI me), .ref b1, .ref b2, .int (nI (pw_mx (pw_r b g2) me)), .ref c2, .int (nI me), .ref r1, .ref r2, .ref z1, .ref n1, .ref t1])), (r1, .inl (cI, 10, .inl (wA ro2))), (r2, .inl (cI, 10, .inl (wA ru2))), (b1, .inl (cI, 10, .inl (wA g1))), (b2, .inl (cI, 10, .inl (wA g2))), (c2, .inl (cI, 1600, .inl (wA y)))] → va_S A s.heap H locs → W p l e ({ frames := 2, cells := 0, slots := 0, locals := 46 } : Room) s m args below meth c H locs 0 0 Q (F0 m 109 ls []) := by
                          intro d
                          induction d using Nat.strongRecOn with
                          | ind d ih109 =>
                            intro f9 ls H locs hd109 hf9 hl hP hD hS
                            refine lv_aload_n hx hb d_Md_lay_109 rfl (lv_at hl 0 rfl) ?_
                            refine va_get (D := D) (ci := 5) (v := .ref c2) (C := R_Md) (T := T_Md) (N := 25) hx hb ht u_Md hown hK hP 0 rfl rfl 18 (by decide) (ht _ wd_913) (fun _ h9 => h9) rfl d_Md_lay_110 ?_
                            refine lv_iload hx hb d_Md_lay_113 (lv_at hl 3 rfl) ?_
                            refine wi_ald hx hb hK hP 5 0 rfl rfl (by omega) (by decide) d_Md_lay_115 ?_
                            refine wi_if_eq hx hb d_Md_lay_116 rfl (hyl _ (by omega)) (fun h116 => ?_) (fun h116 => ?_)
                            · have hff : pw_ff y (pw_mx (pw_r b g2) me) 0 = f9 := Nat.le_antisymm (Nat.not_lt.mp fun z => hffs.2.2.1 f9 (by omega) z h116) hf9
                              refine lv_iload hx hb d_Md_lay_125 (lv_at hl 3 rfl) ?_
                              refine lv_istore (lv' := [(5, .int (nI f9)), (0, .ref h), (1, .int (nI b)), (3, .int (nI k)), (4, .int (nI f9))]) hx hb d_Md_lay_127 hl (by decide) rfl (fun ls hl => ?_)
                              have loop129 : ∀ (d : Nat) (x : Nat) (u : Nat → Nat) (ls : Array Slot) (H : Heap) (locs : List Loc), pw_mx (pw_r b g2) me + ru2 k - x = d → (f9 ≤ x) → ((x - f9) % ru2 k = 0) → (x = f9 ∨ x < pw_mx (pw_r b g2) me + ru2 k) → (u = pw_gp f9 x (ru2 k) (g1 (ro2 k)) y) → lv_has ls 6 [(0, .ref h), (1, .int (nI b)), (3, .int (nI k)), (5, .int (nI x))] → va_P D kcl [(h, .inr (5, [.int (nI th), .int (nI n), .ref a1, .ref a2, .ref a3, .ref a4, .int (nI wi), .int (nI bu), .int (nI L), .ref c1, .int (nI ax), .int (nI va), .int (nI sl), .int cv, .int (nI me), .ref b1, .ref b2, .int (nI (pw_mx (pw_r b g2) me)), .ref c2, .int (nI me), .ref r1, .ref r2, .ref z1, .ref n1, .ref t1])), (r1, .inl (cI, 10, .inl (wA ro2))), (r2, .inl (cI, 10, .inl (wA ru2))), (b1, .inl (cI, 10, .inl (wA g1))), (b2, .inl (cI, 10, .inl (wA g2))), (c2, .inl (cI, 1600, .inl (wA u)))] H → va_D A [(h, .inr (5, [.int (nI th), .int (nI n), .ref a1, .ref a2, .ref a3, .ref a4, .int (nI wi), .int (nI bu), .int (nI L), .ref c1, .int (nI ax), .int (nI va), .int (nI sl), .int cv, .int (nI me), .ref b1, .ref b2, .int (nI (pw_mx (pw_r b g2) me)), .ref c2, .int (nI me), .ref r1, .ref r2, .ref z1, .ref n1, .ref t1])), (r1, .inl (cI, 10, .inl (wA ro2))), (r2, .inl (cI, 10, .inl (wA ru2))), (b1, .inl (cI, 10, .inl (wA g1))), (b2, .inl (cI, 10, .inl (wA g2))), (c2, .inl (cI, 1600, .inl (wA u)))] → va_S A s.heap H locs → W p l e ({ frames := 2, cells := 0, slots := 0, locals := 46 } : Room) s m args below meth c H locs 0 0 Q (F0 m 129 ls []) := by
                                intro d
                                induction d using Nat.strongRecOn with
                                | ind d ih129 =>
                                  intro x u ls H locs hd129 hkx hm hl2 hu hl hP hD hS
                                  refine lv_iload hx hb d_Md_lay_129 (lv_at hl 3 rfl) ?_
                                  refine lv_aload_n hx hb d_Md_lay_131 rfl (lv_at hl 0 rfl) ?_
                                  refine va_get (D := D) (ci := 5) (v := .int (nI (pw_mx (pw_r b g2) me))) (C := R_Md) (T := T_Md) (N := 25) hx hb ht u_Md hown hK hP 0 rfl rfl 17 (by decide) (ht _ wd_912) (fun _ h9 => h9) rfl d_Md_lay_132 ?_
                                  refine wi_ge hx hb d_Md_lay_135 rfl (by omega) (by omega) (fun h135 => ?_) (fun h135 => ?_)
                                  · refine wi_inc (k := 2) (lv' := [(3, .int (nI (k + 1))), (0, .ref h), (1, .int (nI b)), (5, .int (nI x))]) hx hb d_Md_lay_170 hl rfl (by decide) rfl (fun ls hl => ?_)
                                    refine lv_goto hx hb d_Md_lay_173 rfl ?_
                                    have hu2 : u = pw_gv (pw_mx (pw_r b g2) me) (g1 (ro2 k)) (ru2 k) y := by rw [hu]; exact pw_gp_end hff.symm hrk.1 hkx hm (by omega) hl2
                                    subst hu2
                                    exact ih98 (me - (k + 1)) (by omega) (k + 1) (pw_gv (pw_mx (pw_r b g2) me) (g1 (ro2 k)) (ru2 k) y) ls H locs rfl (by omega) (md_lay_s hor h103 hyc) (pw_gv_lt hyl (hg1 _ (hro k h103)).2) (lv_sub hl [1, 2, 0] rfl) hP hD hS
                                  · refine lv_aload_n hx hb d_Md_lay_138 rfl (lv_at hl 0 rfl) ?_
                                    refine va_get (D := D) (ci := 5) (v := .ref c2) (C := R_Md) (T := T_Md) (N := 25) hx hb ht u_Md hown hK hP 0 rfl rfl 18 (by decide) (ht _ wd_913) (fun _ h9 => h9) rfl d_Md_lay_139 ?_
                                    refine lv_iload hx hb d_Md_lay_142 (lv_at hl 3 rfl) ?_
                                    refine lv_aload_n hx hb d_Md_lay_144 rfl (lv_at hl 0 rfl) ?_
                                    refine va_get (D := D) (ci := 5) (v := .ref b1) (C := R_Md) (T := T_Md) (N := 25) hx hb ht u_Md hown hK hP 0 rfl rfl 15 (by decide) (ht _ wd_910) (fun _ h9 => h9) rfl d_Md_lay_145 ?_
                                    refine lv_aload_n hx hb d_Md_lay_148 rfl (lv_at hl 0 rfl) ?_
                                    refine va_get (D := D) (ci := 5) (v := .ref r1) (C := R_Md) (T := T_Md) (N := 25) hx hb ht u_Md hown hK hP 0 rfl rfl 20 (by decide) (ht _ wd_915) (fun _ h9 => h9) rfl d_Md_lay_149 ?_
                                    refine lv_iload_n hx hb d_Md_lay_152 rfl (lv_at hl 2 rfl) ?_
                                    refine wi_ald hx hb hK hP 1 0 rfl rfl (by omega) (by omega) d_Md_lay_153 ?_
                                    refine wi_ald hx hb hK hP 3 0 rfl rfl (by omega) (by omega) d_Md_lay_154 ?_
                                    refine wi_ast hx hb hK hP hD hS 5 0 rfl rfl (by omega) (by omega) d_Md_lay_155 (fun H locs hP hD hS => ?_)
                                    have hP : va_P D kcl [(h, .inr (5, [.int (nI th), .int (nI n), .ref a1, .ref a2, .ref a3, .ref a4, .int (nI wi), .int (nI bu), .int (nI L), .ref c1, .int (nI ax), .int (nI va), .int (nI sl), .int cv, .int (nI me), .ref b1, .ref b2, .int (nI (pw_mx (pw_r b g2) me)), .ref c2, .int (nI me), .ref r1, .ref r2, .ref z1, .ref n1, .ref t1])), (r1, .inl (cI, 10, .inl (wA ro2))), (r2, .inl (cI, 10, .inl (wA ru2))), (b1, .inl (cI, 10, .inl (wA g1))), (b2, .inl (cI, 10, .inl (wA g2))), (c2, .inl (cI, 1600, .inl (wA (va_up u x (g1 (ro2 k))))))] H := hP
                                    have hD : va_D A [(h, .inr (5, [.int (nI th), .int (nI n), .ref a1, .ref a2, .ref a3, .ref a4, .int (nI wi), .int (nI bu), .int (nI L), .ref c1, .int (nI ax), .int (nI va), .int (nI sl), .int cv, .int (nI me), .ref b1, .ref b2, .int (nI (pw_mx (pw_r b g2) me)), .ref c2, .int (nI me), .ref r1, .ref r2, .ref z1, .ref n1, .ref t1])), (r1, .inl (cI, 10, .inl (wA ro2))), (r2, .inl (cI, 10, .inl (wA ru2))), (b1, .inl (cI, 10, .inl (wA g1))), (b2, .inl (cI, 10, .inl (wA g2))), (c2, .inl (cI, 1600, .inl (wA (va_up u x (g1 (ro2 k))))))] := hD
                                    refine lv_iload hx hb d_Md_lay_156 (lv_at hl 3 rfl) ?_
                                    refine lv_aload_n hx hb d_Md_lay_158 rfl (lv_at hl 0 rfl) ?_
                                    refine va_get (D := D) (ci := 5) (v := .ref r2) (C := R_Md) (T := T_Md) (N := 25) hx hb ht u_Md hown hK hP 0 rfl rfl 21 (by decide) (ht _ wd_916) (fun _ h9 => h9) rfl d_Md_lay_159 ?_
                                    refine lv_iload_n hx hb d_Md_lay_162 rfl (lv_at hl 2 rfl) ?_
                                    refine wi_ald hx hb hK hP 2 0 rfl rfl (by omega) (by omega) d_Md_lay_163 ?_
                                    refine wi_add hx hb d_Md_lay_164 ?_
                                    refine lv_istore (lv' := [(5, .int (nI (x + (ru2 k)))), (0, .ref h), (1, .int (nI b)), (3, .int (nI k))]) hx hb d_Md_lay_165 hl (by decide) rfl (fun ls hl => ?_)
                                    refine lv_goto hx hb d_Md_lay_167 rfl ?_
                                    exact ih129 (pw_mx (pw_r b g2) me + ru2 k - (x + ru2 k)) (by omega) (x + ru2 k) (va_up u x (g1 (ro2 k))) ls H locs rfl (by omega) (pw_gp_m hkx hm) (by omega) (by rw [hu]; exact pw_gp_up hrk.1 hkx hm) (lv_sub hl [1, 2, 3, 0] rfl) hP hD hS
                              exact loop129 _ (f9) (y) ls H locs rfl (Nat.le_refl _) (by rw [Nat.sub_self, Nat.zero_mod]) (Or.inl rfl) pw_gp_0 (lv_sub hl [1, 2, 3, 0] rfl) hP hD hS
                            · refine wi_inc (k := 3) (lv' := [(4, .int (nI (f9 + 1))), (0, .ref h), (1, .int (nI b)), (3, .int (nI k))]) hx hb d_Md_lay_119 hl rfl (by decide) rfl (fun ls hl => ?_)
                              refine lv_goto hx hb d_Md_lay_122 rfl ?_
                              exact ih109 (pw_mx (pw_r b g2) me - (f9 + 1)) (by omega) (f9 + 1) ls H locs rfl (Nat.lt_of_le_of_ne hf9 (fun z => by have := hffs.2.2.2 (by omega); rw [← z] at this; omega)) (lv_sub hl [1, 2, 3, 0] rfl) hP hD hS
                        exact loop109 _ (0) ls H locs rfl (Nat.zero_le _) (lv_sub hl [1, 2, 3, 0] rfl) hP hD hS
                  exact loop98 _ (0) (y) ls H locs rfl (Nat.zero_le _) (fun j hj => hy0 j (by omega)) (fun j hj => by rw [hy0 j (by omega)]; decide) (lv_sub hl [1, 2, 0] rfl) hP hD hS
                · refine lv_aload_n hx hb d_Md_lay_83 rfl (lv_at hl 0 rfl) ?_
                  refine va_get (D := D) (ci := 5) (v := .ref c2) (C := R_Md) (T := T_Md) (N := 25) hx hb ht u_Md hown hK hP 0 rfl rfl 18 (by decide) (ht _ wd_913) (fun _ h9 => h9) rfl d_Md_lay_84 ?_
                  refine lv_iload_n hx hb d_Md_lay_87 rfl (lv_at hl 2 rfl) ?_
                  refine lv_iconst (v := nI 0) hx hb d_Md_lay_88 (by decide) ?_
                  refine wi_ast hx hb hK hP hD hS 5 0 rfl rfl (by omega) (by omega) d_Md_lay_89 (fun H locs hP hD hS => ?_)
                  have hP : va_P D kcl [(h, .inr (5, [.int (nI th), .int (nI n), .ref a1, .ref a2, .ref a3, .ref a4, .int (nI wi), .int (nI bu), .int (nI L), .ref c1, .int (nI ax), .int (nI va), .int (nI sl), .int cv, .int (nI me), .ref b1, .ref b2, .int (nI (pw_mx (pw_r b g2) me)), .ref c2, .int (nI me), .ref r1, .ref r2, .ref z1, .ref n1, .ref t1])), (r1, .inl (cI, 10, .inl (wA ro2))), (r2, .inl (cI, 10, .inl (wA ru2))), (b1, .inl (cI, 10, .inl (wA g1))), (b2, .inl (cI, 10, .inl (wA g2))), (c2, .inl (cI, 1600, .inl (wA (va_up y k 0))))] H := hP
                  have hD : va_D A [(h, .inr (5, [.int (nI th), .int (nI n), .ref a1, .ref a2, .ref a3, .ref a4, .int (nI wi), .int (nI bu), .int (nI L), .ref c1, .int (nI ax), .int (nI va), .int (nI sl), .int cv, .int (nI me), .ref b1, .ref b2, .int (nI (pw_mx (pw_r b g2) me)), .ref c2, .int (nI me), .ref r1, .ref r2, .ref z1, .ref n1, .ref t1])), (r1, .inl (cI, 10, .inl (wA ro2))), (r2, .inl (cI, 10, .inl (wA ru2))), (b1, .inl (cI, 10, .inl (wA g1))), (b2, .inl (cI, 10, .inl (wA g2))), (c2, .inl (cI, 1600, .inl (wA (va_up y k 0))))] := hD
                  refine wi_inc (k := 2) (lv' := [(3, .int (nI (k + 1))), (0, .ref h), (1, .int (nI b))]) hx hb d_Md_lay_90 hl rfl (by decide) rfl (fun ls hl => ?_)
                  refine lv_goto hx hb d_Md_lay_93 rfl ?_
                  exact ih75 (pw_mx (pw_r b g2) me - (k + 1)) (by omega) (k + 1) (va_up y k 0) ls H locs rfl (by omega) (up_lt (g := fun _ => 0) hy0) (lv_sub hl [1, 2, 0] rfl) hP hD hS
            exact loop75 _ (0) (cy) ls H locs rfl (Nat.zero_le _) lt_0 (lv_sub hl [1, 2, 0] rfl) hP hD hS
          · exact absurd (show pw_nd2 b g2 me ≤ pw_mx (pw_r b g2) me from hfit) (by rw [← hnd]; omega)
        · have hrk := hru k h40
          refine lv_iload_n hx hb d_Md_lay_43 rfl (lv_at hl 2 rfl) ?_
          refine lv_aload_n hx hb d_Md_lay_44 rfl (lv_at hl 0 rfl) ?_
          refine va_get (D := D) (ci := 5) (v := .int (nI (pw_mx (pw_r b g2) me))) (C := R_Md) (T := T_Md) (N := 25) hx hb ht u_Md hown hK hP 0 rfl rfl 17 (by decide) (ht _ wd_912) (fun _ h9 => h9) rfl d_Md_lay_45 ?_
          refine lv_aload_n hx hb d_Md_lay_48 rfl (lv_at hl 0 rfl) ?_
          refine va_get (D := D) (ci := 5) (v := .ref r2) (C := R_Md) (T := T_Md) (N := 25) hx hb ht u_Md hown hK hP 0 rfl rfl 21 (by decide) (ht _ wd_916) (fun _ h9 => h9) rfl d_Md_lay_49 ?_
          refine lv_iload_n hx hb d_Md_lay_52 rfl (lv_at hl 3 rfl) ?_
          refine wi_ald hx hb hK hP 2 0 rfl rfl (by omega) (by omega) d_Md_lay_53 ?_
          refine wi_div hx hb d_Md_lay_54 (by omega) hrk.1 (by omega) ?_
          refine wi_add hx hb d_Md_lay_55 ?_
          refine lv_istore_n (lv' := [(2, .int (nI (pw_sm (fun i => pw_mx (pw_r b g2) me / ru2 i) (k + 1)))), (0, .ref h), (1, .int (nI b)), (3, .int (nI k))]) hx hb d_Md_lay_56 rfl hl (by decide) rfl (fun ls hl => ?_)
          refine wi_inc (k := 3) (lv' := [(3, .int (nI (k + 1))), (2, .int (nI (pw_sm (fun i => pw_mx (pw_r b g2) me / ru2 i) (k + 1)))), (0, .ref h), (1, .int (nI b))]) hx hb d_Md_lay_57 hl rfl (by decide) rfl (fun ls hl => ?_)
          refine lv_goto hx hb d_Md_lay_60 rfl ?_
          exact ih35 (me - (k + 1)) (by omega) (k + 1) ls H locs rfl (by omega) (lv_sub hl [2, 3, 1, 0] rfl) hP hD hS
    exact loop35 _ (0) ls H locs rfl (Nat.zero_le _) (lv_sub hl [2, 3, 1, 0] rfl) hP hD hS
