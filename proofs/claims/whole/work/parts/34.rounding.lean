/-! RoundingBuilder. -/
theorem pw_rnd_on {v s k : Nat} (hk : k < 6) (h : v * 2 ≤ s) : pw_rnd (6 - k) v s = pw_rnd (6 - (k + 1)) (v * 2) s := by
  rw [show 6 - k = (6 - (k + 1)) + 1 by omega]
  show (if 2 * v ≤ s then pw_rnd (6 - (k + 1)) (2 * v) s else v) = _
  rw [if_pos (by omega), Nat.mul_comm]
theorem pw_rnd_off {v s f : Nat} (h : s < v * 2) : pw_rnd f v s = v := by
  cases f with
  | zero => rfl
  | succ f =>
    show (if 2 * v ≤ s then pw_rnd f (2 * v) s else v) = v
    rw [if_neg (by omega)]
/-- those with this rounded span get their places -/
def pw_gf (L : Nat) (id r : Nat → Nat) (st : Nat) (f : Nat → Nat) : Nat → Nat → Nat
  | 0 => f
  | k + 1 => if r k = st then pw_gv L (id k) st (pw_gf L id r st f k) else pw_gf L id r st f k
theorem pw_gv_lt {L v r B : Nat} {f : Nat → Nat} (hf : ∀ t, t < L → f t < B) (hv : v < B) : ∀ t, t < L → pw_gv L v r f t < B := by
  intro t ht
  unfold pw_gv
  split
  · exact hv
  · exact hf t ht
theorem pw_gf_lt {L st B : Nat} {id r f : Nat → Nat} {n : Nat} (hf : ∀ t, t < L → f t < B) (hid : ∀ t, t < n → id t < B) : ∀ k, k ≤ n → ∀ t, t < L → pw_gf L id r st f k t < B := by
  intro k
  induction k with
  | zero => intro _; exact hf
  | succ k ih =>
    intro hk
    unfold pw_gf
    split
    · exact pw_gv_lt (ih (by omega)) (hid k (by omega))
    · exact ih (by omega)
theorem pw_gf_t {L st : Nat} {id r f : Nat → Nat} {k : Nat} (h : r k = st) : pw_gv L (id k) st (pw_gf L id r st f k) = pw_gf L id r st f (k + 1) := by
  show _ = if r k = st then _ else _
  rw [if_pos h]
theorem pw_gf_f {L st : Nat} {id r f : Nat → Nat} {k : Nat} (h : r k ≠ st) : pw_gf L id r st f k = pw_gf L id r st f (k + 1) := by
  show _ = if r k = st then _ else _
  rw [if_neg h]
/-- what lies beyond L doesn't count -/
theorem pw_ff_cg {c c' : Nat → Nat} : ∀ f p, (∀ j, p ≤ j → j < p + f → c j = c' j) → pw_ff c f p = pw_ff c' f p := by
  intro f
  induction f with
  | zero => intro p _; rfl
  | succ f ih =>
    intro p h
    show (if c p = 0 then p else _) = (if c' p = 0 then p else _)
    rw [h p (Nat.le_refl p) (by omega), ih (p + 1) fun j h1 h2 => h j (by omega) (by omega)]
theorem pw_gv_cg {L v r : Nat} {c c' : Nat → Nat} (h : ∀ j, j < L → c j = c' j) : ∀ j, j < L → pw_gv L v r c j = pw_gv L v r c' j := by
  intro j hj
  unfold pw_gv
  rw [pw_ff_cg L 0 fun j _ h2 => h j (by omega), h j hj]
theorem pw_gf_cy {L st : Nat} {id r f : Nat → Nat} {l : List Nat} (h : ∀ j, j < L → f j = pw_cy L id r l j) : ∀ n, ∀ j, j < L → pw_gf L id r st f n j = pw_cy L id r (l ++ (List.range n).filter (fun t => decide (r t = st))) j := by
  intro n
  induction n with
  | zero => intro j hj; simp [pw_gf, h j hj]
  | succ n ih =>
    intro j hj
    rw [List.range_succ, List.filter_append]
    by_cases e : r n = st
    · rw [← pw_gf_t e, show List.filter (fun t => decide (r t = st)) [n] = [n] by simp [e], ← List.append_assoc, pw_cy_add]
      rw [pw_gv_cg ih j hj, e]
    · rw [← pw_gf_f e, show List.filter (fun t => decide (r t = st)) [n] = [] by simp [e], List.append_nil]
      exact ih j hj
/-- step by step, doubled each time -/
def pw_dl (b : Nat) (r : Nat → Nat) (n : Nat) : Nat → List Nat
  | 0 => []
  | k + 1 => pw_dl b r n k ++ (List.range n).filter (fun t => decide (r t = b * 2 ^ k))
theorem pw_dl_mem {b : Nat} {r : Nat → Nat} {n : Nat} {a : Nat} : ∀ k, a ∈ pw_dl b r n k ↔ a < n ∧ ∃ j, j < k ∧ r a = b * 2 ^ j := by
  intro k
  induction k with
  | zero => simp [pw_dl]
  | succ k ih =>
    show a ∈ pw_dl b r n k ++ _ ↔ _
    rw [List.mem_append, ih, List.mem_filter, List.mem_range, decide_eq_true_iff]
    constructor
    · rintro (⟨h1, j, h2, h3⟩ | ⟨h1, h2⟩)
      · exact ⟨h1, j, by omega, h3⟩
      · exact ⟨h1, k, by omega, h2⟩
    · rintro ⟨h1, j, h2, h3⟩
      by_cases e : j = k
      · subst e; exact Or.inr ⟨h1, h3⟩
      · exact Or.inl ⟨h1, j, by omega, h3⟩
theorem pw_dl_srt {b : Nat} {r : Nat → Nat} {n : Nat} (hb : 0 < b) : ∀ k, (pw_dl b r n k).Pairwise (pw_lt r) := by
  intro k
  induction k with
  | zero => exact List.Pairwise.nil
  | succ k ih =>
    show (pw_dl b r n k ++ _).Pairwise _
    rw [List.pairwise_append]
    refine ⟨ih, ?_, ?_⟩
    · refine List.Pairwise.imp_of_mem ?_ (List.pairwise_lt_range.filter _)
      intro x y hx hy hxy
      rw [List.mem_filter, decide_eq_true_iff] at hx hy
      exact Or.inr ⟨by rw [hx.2, hy.2], hxy⟩
    · intro x hx y hy
      obtain ⟨-, j, hj, e⟩ := (pw_dl_mem k).mp hx
      rw [List.mem_filter, decide_eq_true_iff] at hy
      refine Or.inl ?_
      rw [e, hy.2]
      exact Nat.mul_lt_mul_of_pos_left (Nat.pow_lt_pow_right (by decide) hj) hb
theorem pw_dl_all {b n k : Nat} {sp : Nat → Nat} (hb : 0 < b) (hk : k = 7 ∨ pw_mx (pw_r b sp) n < b * 2 ^ k) : pw_dl b (pw_r b sp) n k = pw_srt (pw_r b sp) n := by
  refine pw_one _ _ (pw_dl_srt hb k) (pw_srt_srt n) fun a => ?_
  rw [pw_dl_mem, pw_srt_mem]
  refine ⟨fun h => h.1, fun h => ⟨h, ?_⟩⟩
  obtain ⟨j, hj, e⟩ := pw_rnd_pow 6 b (sp a)
  refine ⟨j, ?_, e⟩
  rcases hk with hk | hk
  · omega
  · by_cases hjk : j < k
    · exact hjk
    · exfalso
      have h1 := pw_mx_ge (r := pw_r b sp) a h
      have e2 : pw_r b sp a = b * 2 ^ j := e
      have h2 : b * 2 ^ k ≤ b * 2 ^ j := Nat.mul_le_mul_left b (Nat.pow_le_pow_right (by decide) (by omega))
      omega
theorem pw_mx_b {b : Nat} {sp : Nat → Nat} {n k : Nat} (hk : k ≤ n) (h : ∀ t, t < n → b ≤ sp t ∧ sp t ≤ 40) : pw_mx (pw_r b sp) k ≤ 40 := pw_mx_le (by decide) fun t ht => Nat.le_trans (pw_rnd_le 6 b (sp t) (h t (by omega)).1) (h t (by omega)).2
set_option maxHeartbeats 4000000 in
set_option maxRecDepth 100000 in
theorem c_Rb_init (l : Launch) (Hs : Heap) (D : va_G) (cI cZ cL : ClassId) (h : Nat) : kV l Hs D kcl (ty3 cI cZ cL) y_Rb_init (mws y_Rb_init b_Rb_init 1 (Option.none : Option Jvm.ClassFile.FieldType)) ({ frames := 1, cells := 1, slots := 10, locals := 12 } : Room) [.ref h] [(h, .inr (2, [.null]))] (fun w => ∃ (a0 : Nat), w = [(h, .inr (2, [.ref a0])), (a0, .inl (cI, 10, .inl (wA (fun _ => 0))))]) := by
  intro sz
  refine k_of (cc := b_Rb_init) (maxL := 1) (ret := (Option.none : Option Jvm.ClassFile.FieldType)) (by decide) rfl (Nat.le_of_ble_eq_true rfl) ?_
  intro p e s m args below meth c ls H locs A Q hQ hx hb hml hr hts hown hlk hnm hsz hAe hP hK hD hS hA hE hAH hl
  have ht : ∀ w ∈ mw, w.before args s = true := fun w h => hts w (List.mem_cons_of_mem _ h)
  have hl : lv_has ls 1 [(0, .ref h)] := hl
  refine lv_aload_n hx hb d_Rb_init_0 rfl (lv_at hl 0 rfl) ?_
  refine W.objInit hx hb hown (ht _ wd_40) (ht _ wd_33) (ht _ wd_34) rfl (by rw [hml]; exact hl.1) rfl d_Rb_init_1 (Nat.le_of_ble_eq_true rfl) (Nat.le_of_ble_eq_true rfl) ?_
  refine W.eq (g2 := F0 m 4 ls []) rfl ?_
  refine lv_aload_n hx hb d_Rb_init_4 rfl (lv_at hl 0 rfl) ?_
  refine lv_bipush (v := nI 10) hx hb d_Rb_init_5 (by decide) ?_
  refine wi_newa (atype := .int) (a0 := (10, .inl (wA (fun _ => 0)))) (N' := 10) hx hb (ht _ wd_45) rfl (by decide) hK hP hD hS hA 0 rfl (fun _ => rfl) (by decide) rfl (by decide) (Nat.le_of_ble_eq_true rfl) (Nat.le_of_ble_eq_true rfl) d_Rb_init_7 (fun q7 H hP hD hS => ?_)
  have hP : va_P D kcl [(h, .inr (2, [.null])), (q7, .inl (cI, 10, .inl (wA (fun _ => 0))))] H := hP
  have hD : va_D A [(h, .inr (2, [.null])), (q7, .inl (cI, 10, .inl (wA (fun _ => 0))))] := hD
  refine W.widen (k := 1) (n := 10) (by decide) (by decide) ?_
  refine va_putF (D := D) (ci := 2) (v := .ref q7) (ty := (.array .int)) (C := R_Rb) (T := T_Rb) (N := 1) hx hb ht u_Rb t_Rb t_Rb_ok n_Rb hown hK hP hD hS 0 rfl rfl 0 (by decide) (ht _ wd_41) (fun _ h9 => h9) rfl hnm rfl (by decide +kernel) rfl rfl (Nat.le_of_ble_eq_true rfl) d_Rb_init_9 (fun H locs hP hD hS => ?_)
  have hP : va_P D kcl [(h, .inr (2, [.ref q7])), (q7, .inl (cI, 10, .inl (wA (fun _ => 0))))] H := hP
  have hD : va_D A [(h, .inr (2, [.ref q7])), (q7, .inl (cI, 10, .inl (wA (fun _ => 0))))] := hD
  exact k_retv hQ hx hb hr hlk hAe hK hP hD hS (Nat.le_of_ble_eq_true rfl) (Nat.le_of_ble_eq_true rfl) (Nat.le_of_ble_eq_true rfl) ⟨q7, rfl⟩ d_Rb_init_12
set_option maxHeartbeats 4000000 in
set_option maxRecDepth 100000 in
theorem c_Rb_roundDown (l : Launch) (Hs : Heap) (D : va_G) (cI cZ cL : ClassId) (z : Nat) (b : Nat) (hb1 : b ≤ z) (hz : z ≤ 40) : kI l Hs D kcl (ty3 cI cZ cL) y_Rb_roundDown (mws y_Rb_roundDown b_Rb_roundDown 4 (Option.some Jvm.ClassFile.FieldType.int)) ({ frames := 0, cells := 0, slots := 0, locals := 0 } : Room) [.int (nI z), .int (nI b)] [] (fun r w => r = nI (pw_rnd 6 b z) ∧ w = []) := by
  intro sz
  refine k_of (cc := b_Rb_roundDown) (maxL := 4) (ret := (Option.some Jvm.ClassFile.FieldType.int)) (by decide) rfl (Nat.le_of_ble_eq_true rfl) ?_
  intro p e s m args below meth c ls H locs A Q hQ hx hb hml hr hts hown hlk hnm hsz hAe hP hK hD hS hA hE hAH hl
  have ht : ∀ w ∈ mw, w.before args s = true := fun w h => hts w (List.mem_cons_of_mem _ h)
  have hl : lv_has ls 4 [(0, .int (nI z)), (1, .int (nI b))] := hl
  refine lv_iload_n hx hb d_Rb_roundDown_0 rfl (lv_at hl 1 rfl) ?_
  refine lv_istore_n (lv' := [(2, .int (nI b)), (0, .int (nI z)), (1, .int (nI b))]) hx hb d_Rb_roundDown_1 rfl hl (by decide) rfl (fun ls hl => ?_)
  refine lv_iconst (v := nI 0) hx hb d_Rb_roundDown_2 (by decide) ?_
  refine lv_istore_n (lv' := [(3, .int (nI 0)), (2, .int (nI b)), (0, .int (nI z)), (1, .int (nI b))]) hx hb d_Rb_roundDown_3 rfl hl (by decide) rfl (fun ls hl => ?_)
  have loop4 : ∀ (d : Nat) (k : Nat) (v : Nat) (ls : Array Slot) (H : Heap) (locs : List Loc), 6 - k = d → (k ≤ 6) → (v ≤ z) → (pw_rnd 6 b z = pw_rnd (6 - k) v z) → lv_has ls 4 [(0, .int (nI z)), (1, .int (nI b)), (2, .int (nI v)), (3, .int (nI k))] → va_P D kcl [] H → va_D A [] → va_S A s.heap H locs → W p l e ({ frames := 0, cells := 0, slots := 0, locals := 0 } : Room) s m args below meth c H locs 0 0 Q (F0 m 4 ls []) := by
    intro d
    induction d using Nat.strongRecOn with
    | ind d ih4 =>
      intro k v ls H locs hd4 hk hv he hl hP hD hS
      refine lv_iload_n hx hb d_Rb_roundDown_4 rfl (lv_at hl 3 rfl) ?_
      refine lv_bipush (v := nI 6) hx hb d_Rb_roundDown_5 (by decide) ?_
      refine wi_ge hx hb d_Rb_roundDown_7 rfl (by omega) (by omega) (fun h7 => ?_) (fun h7 => ?_)
      · refine lv_iload_n hx hb d_Rb_roundDown_27 rfl (lv_at hl 2 rfl) ?_
        exact k_reti hQ hx hb hr hlk hAe hK hP hD hS (Nat.le_of_ble_eq_true rfl) (Nat.le_of_ble_eq_true rfl) (Nat.le_of_ble_eq_true rfl) ⟨by rw [he, show 6 - k = 0 by omega, pw_rnd], rfl⟩ d_Rb_roundDown_28
      · refine lv_iload_n hx hb d_Rb_roundDown_10 rfl (lv_at hl 2 rfl) ?_
        refine lv_iconst (v := nI 2) hx hb d_Rb_roundDown_11 (by decide) ?_
        refine wi_mul hx hb d_Rb_roundDown_12 ?_
        refine lv_iload_n hx hb d_Rb_roundDown_13 rfl (lv_at hl 0 rfl) ?_
        refine wi_gt hx hb d_Rb_roundDown_14 rfl (by omega) (by omega) (fun h14 => ?_) (fun h14 => ?_)
        · refine lv_iload_n hx hb d_Rb_roundDown_27 rfl (lv_at hl 2 rfl) ?_
          exact k_reti hQ hx hb hr hlk hAe hK hP hD hS (Nat.le_of_ble_eq_true rfl) (Nat.le_of_ble_eq_true rfl) (Nat.le_of_ble_eq_true rfl) ⟨by rw [he, pw_rnd_off h14], rfl⟩ d_Rb_roundDown_28
        · refine lv_iload_n hx hb d_Rb_roundDown_17 rfl (lv_at hl 2 rfl) ?_
          refine lv_iconst (v := nI 2) hx hb d_Rb_roundDown_18 (by decide) ?_
          refine wi_mul hx hb d_Rb_roundDown_19 ?_
          refine lv_istore_n (lv' := [(2, .int (nI (v * 2))), (0, .int (nI z)), (1, .int (nI b)), (3, .int (nI k))]) hx hb d_Rb_roundDown_20 rfl hl (by decide) rfl (fun ls hl => ?_)
          refine wi_inc (k := 3) (lv' := [(3, .int (nI (k + 1))), (2, .int (nI (v * 2))), (0, .int (nI z)), (1, .int (nI b))]) hx hb d_Rb_roundDown_21 hl rfl (by decide) rfl (fun ls hl => ?_)
          refine lv_goto hx hb d_Rb_roundDown_24 rfl ?_
          exact ih4 (6 - (k + 1)) (by omega) (k + 1) (v * 2) ls H locs rfl (by omega) h14 (he.trans (pw_rnd_on h7 h14)) (lv_sub hl [2, 3, 1, 0] rfl) hP hD hS
  exact loop4 _ (0) (b) ls H locs rfl (Nat.zero_le _) hb1 rfl (lv_sub hl [2, 3, 1, 0] rfl) hP hD hS
set_option maxHeartbeats 4000000 in
set_option maxRecDepth 100000 in
theorem c_Rb_roundAll (l : Launch) (Hs : Heap) (D : va_G) (cI cZ cL : ClassId) (h : Nat) (a0 : Nat) (u : Nat → Nat) (co : Nat) (a1 : Nat) (a2 : Nat) (a3 : Nat) (a4 : Nat) (n : Nat) (f2 : Nat → Nat) (b : Nat) (hn : n ≤ 10) (hf : ∀ t, t < n → b ≤ f2 t ∧ f2 t ≤ 40) : kI l Hs D kcl (ty3 cI cZ cL) y_Rb_roundAll (mws y_Rb_roundAll b_Rb_roundAll 5 (Option.some Jvm.ClassFile.FieldType.int)) ({ frames := 1, cells := 0, slots := 0, locals := 23 } : Room) [.ref h, .int (nI b), .ref co] [(h, .inr (2, [.ref a0])), (a0, .inl (cI, 10, .inl (wA u))), (co, .inr (0, [.ref a1, .ref a2, .ref a3, .ref a4, .int (nI n)])), (a2, .inl (cI, 10, .inl (wA f2)))] (fun r w => ∃ (u2 : Nat → Nat), (∀ t, t < n → u2 t = pw_r b f2 t) ∧ r = nI (pw_mx (pw_r b f2) n) ∧ w = [(h, .inr (2, [.ref a0])), (a0, .inl (cI, 10, .inl (wA u2))), (co, .inr (0, [.ref a1, .ref a2, .ref a3, .ref a4, .int (nI n)])), (a2, .inl (cI, 10, .inl (wA f2)))]) := by
  intro sz
  refine k_of (cc := b_Rb_roundAll) (maxL := 5) (ret := (Option.some Jvm.ClassFile.FieldType.int)) (by decide) rfl (Nat.le_of_ble_eq_true rfl) ?_
  intro p e s m args below meth c ls H locs A Q hQ hx hb hml hr hts hown hlk hnm hsz hAe hP hK hD hS hA hE hAH hl
  have ht : ∀ w ∈ mw, w.before args s = true := fun w h => hts w (List.mem_cons_of_mem _ h)
  have hl : lv_has ls 5 [(0, .ref h), (1, .int (nI b)), (2, .ref co)] := hl
  refine lv_iconst (v := nI 1) hx hb d_Rb_roundAll_0 (by decide) ?_
  refine lv_istore_n (lv' := [(3, .int (nI 1)), (0, .ref h), (1, .int (nI b)), (2, .ref co)]) hx hb d_Rb_roundAll_1 rfl hl (by decide) rfl (fun ls hl => ?_)
  refine lv_iconst (v := nI 0) hx hb d_Rb_roundAll_2 (by decide) ?_
  refine lv_istore (lv' := [(4, .int (nI 0)), (3, .int (nI 1)), (0, .ref h), (1, .int (nI b)), (2, .ref co)]) hx hb d_Rb_roundAll_3 hl (by decide) rfl (fun ls hl => ?_)
  have loop5 : ∀ (d : Nat) (k : Nat) (v : Nat → Nat) (ls : Array Slot) (H : Heap) (locs : List Loc), n - k = d → (k ≤ n) → (∀ t, t < k → v t = pw_r b f2 t) → lv_has ls 5 [(0, .ref h), (1, .int (nI b)), (2, .ref co), (3, .int (nI (pw_mx (pw_r b f2) k))), (4, .int (nI k))] → va_P D kcl [(h, .inr (2, [.ref a0])), (a0, .inl (cI, 10, .inl (wA v))), (co, .inr (0, [.ref a1, .ref a2, .ref a3, .ref a4, .int (nI n)])), (a2, .inl (cI, 10, .inl (wA f2)))] H → va_D A [(h, .inr (2, [.ref a0])), (a0, .inl (cI, 10, .inl (wA v))), (co, .inr (0, [.ref a1, .ref a2, .ref a3, .ref a4, .int (nI n)])), (a2, .inl (cI, 10, .inl (wA f2)))] → va_S A s.heap H locs → W p l e ({ frames := 1, cells := 0, slots := 0, locals := 23 } : Room) s m args below meth c H locs 0 0 Q (F0 m 5 ls []) := by
    intro d
    induction d using Nat.strongRecOn with
    | ind d ih5 =>
      intro k v ls H locs hd5 hk hv hl hP hD hS
      have hm := pw_mx_b (b := b) (sp := f2) hk hf
      refine lv_iload hx hb d_Rb_roundAll_5 (lv_at hl 4 rfl) ?_
      refine lv_aload_n hx hb d_Rb_roundAll_7 rfl (lv_at hl 2 rfl) ?_
      refine ck_i (wc := [(co, .inr (0, [.ref a1, .ref a2, .ref a3, .ref a4, .int (nI n)]))]) (va_runV (As := []) (rest := [.int (nI k)]) (C := R_Cl) ⟨hx, hb, hml, hown, ht⟩ (c_Cl_count l Hs D cI cZ cL co a1 a2 a3 a4 n  H.size) (gw_V 0 ht wd_149 wd_3 wd_410 wd_147 wd_148 (by decide +kernel) ⟨Nat.le_of_ble_eq_true rfl, Nat.le_of_ble_eq_true rfl⟩) (k_preV hE hAH hK hP hD hS [2] rfl rfl 2 rfl rfl) rfl rfl hl.1 rfl (lv_room (Nat.le_of_ble_eq_true rfl)) d_Rb_roundAll_8 ⟨Nat.le_of_ble_eq_true rfl, Nat.le_of_ble_eq_true rfl⟩) hP hD hS hA [2] rfl rfl (fun r8 w1 H locs hpost hP hD hS => ?_)
      obtain ⟨rfl, rfl⟩ := hpost
      have hP : va_P D kcl [(h, .inr (2, [.ref a0])), (a0, .inl (cI, 10, .inl (wA v))), (co, .inr (0, [.ref a1, .ref a2, .ref a3, .ref a4, .int (nI n)])), (a2, .inl (cI, 10, .inl (wA f2)))] H := hP
      have hD : va_D A [(h, .inr (2, [.ref a0])), (a0, .inl (cI, 10, .inl (wA v))), (co, .inr (0, [.ref a1, .ref a2, .ref a3, .ref a4, .int (nI n)])), (a2, .inl (cI, 10, .inl (wA f2)))] := hD
      refine wi_ge hx hb d_Rb_roundAll_11 rfl (by omega) (by omega) (fun h11 => ?_) (fun h11 => ?_)
      · obtain rfl : k = n := by omega
        refine lv_iload_n hx hb d_Rb_roundAll_49 rfl (lv_at hl 3 rfl) ?_
        exact k_reti hQ hx hb hr hlk hAe hK hP hD hS (Nat.le_of_ble_eq_true rfl) (Nat.le_of_ble_eq_true rfl) (Nat.le_of_ble_eq_true rfl) ⟨v, hv, rfl, rfl⟩ d_Rb_roundAll_50
      · refine lv_aload_n hx hb d_Rb_roundAll_14 rfl (lv_at hl 0 rfl) ?_
        refine va_get (D := D) (ci := 2) (v := .ref a0) (C := R_Rb) (T := T_Rb) (N := 1) hx hb ht u_Rb hown hK hP 0 rfl rfl 0 (by decide) (ht _ wd_41) (fun _ h9 => h9) rfl d_Rb_roundAll_15 ?_
        refine lv_iload hx hb d_Rb_roundAll_18 (lv_at hl 4 rfl) ?_
        refine lv_aload_n hx hb d_Rb_roundAll_20 rfl (lv_at hl 2 rfl) ?_
        refine lv_iload hx hb d_Rb_roundAll_21 (lv_at hl 4 rfl) ?_
        refine ck_i (wc := [(co, .inr (0, [.ref a1, .ref a2, .ref a3, .ref a4, .int (nI n)])), (a2, .inl (cI, 10, .inl (wA f2)))]) (va_runV (As := [.int (nI k)]) (rest := [.int (nI k), .ref a0]) (C := R_Cl) ⟨hx, hb, hml, hown, ht⟩ (c_Cl_spanAt l Hs D cI cZ cL co a1 a2 a3 a4 n f2 k (by omega) H.size) (gw_V 1 ht wd_153 wd_3 wd_411 wd_151 wd_152 (by decide +kernel) ⟨Nat.le_of_ble_eq_true rfl, Nat.le_of_ble_eq_true rfl⟩) (k_preV hE hAH hK hP hD hS [2, 3] rfl rfl 2 rfl rfl) rfl rfl hl.1 rfl (lv_room (Nat.le_of_ble_eq_true rfl)) d_Rb_roundAll_23 ⟨Nat.le_of_ble_eq_true rfl, Nat.le_of_ble_eq_true rfl⟩) hP hD hS hA [2, 3] rfl rfl (fun r23 w1 H locs hpost hP hD hS => ?_)
        obtain ⟨rfl, rfl⟩ := hpost
        have hP : va_P D kcl [(h, .inr (2, [.ref a0])), (a0, .inl (cI, 10, .inl (wA v))), (co, .inr (0, [.ref a1, .ref a2, .ref a3, .ref a4, .int (nI n)])), (a2, .inl (cI, 10, .inl (wA f2)))] H := hP
        have hD : va_D A [(h, .inr (2, [.ref a0])), (a0, .inl (cI, 10, .inl (wA v))), (co, .inr (0, [.ref a1, .ref a2, .ref a3, .ref a4, .int (nI n)])), (a2, .inl (cI, 10, .inl (wA f2)))] := hD
        refine lv_iload_n hx hb d_Rb_roundAll_26 rfl (lv_at hl 1 rfl) ?_
        refine ck_i (wc := []) (va_runS (As := [.int (nI (f2 k)), .int (nI b)]) (rest := [.int (nI k), .ref a0]) ⟨hx, hb, hml, hown, ht⟩ (c_Rb_roundDown l Hs D cI cZ cL (f2 k) b (hf k h11).1 (hf k h11).2 H.size) (gw_S 2 ht wd_414 wd_2 wd_412 wd_413 (by decide +kernel) ⟨Nat.le_of_ble_eq_true rfl, Nat.le_of_ble_eq_true rfl⟩) (k_preS hE hAH hK hP hD hS [] rfl rfl) rfl rfl hl.1 rfl (lv_room (Nat.le_of_ble_eq_true rfl)) d_Rb_roundAll_27 ⟨Nat.le_of_ble_eq_true rfl, Nat.le_of_ble_eq_true rfl⟩) hP hD hS hA [] rfl rfl (fun r27 w1 H locs hpost hP hD hS => ?_)
        obtain ⟨rfl, rfl⟩ := hpost
        have hP : va_P D kcl [(h, .inr (2, [.ref a0])), (a0, .inl (cI, 10, .inl (wA v))), (co, .inr (0, [.ref a1, .ref a2, .ref a3, .ref a4, .int (nI n)])), (a2, .inl (cI, 10, .inl (wA f2)))] H := hP
        have hD : va_D A [(h, .inr (2, [.ref a0])), (a0, .inl (cI, 10, .inl (wA v))), (co, .inr (0, [.ref a1, .ref a2, .ref a3, .ref a4, .int (nI n)])), (a2, .inl (cI, 10, .inl (wA f2)))] := hD
        have hrk : pw_rnd 6 b (f2 k) ≤ 40 := Nat.le_trans (pw_rnd_le 6 b (f2 k) (hf k h11).1) (hf k h11).2
        refine wi_ast hx hb hK hP hD hS 1 0 rfl rfl (by omega) (by omega) d_Rb_roundAll_30 (fun H locs hP hD hS => ?_)
        have hP : va_P D kcl [(h, .inr (2, [.ref a0])), (a0, .inl (cI, 10, .inl (wA (va_up v k (pw_rnd 6 b (f2 k)))))), (co, .inr (0, [.ref a1, .ref a2, .ref a3, .ref a4, .int (nI n)])), (a2, .inl (cI, 10, .inl (wA f2)))] H := hP
        have hD : va_D A [(h, .inr (2, [.ref a0])), (a0, .inl (cI, 10, .inl (wA (va_up v k (pw_rnd 6 b (f2 k)))))), (co, .inr (0, [.ref a1, .ref a2, .ref a3, .ref a4, .int (nI n)])), (a2, .inl (cI, 10, .inl (wA f2)))] := hD
        refine lv_iload_n hx hb d_Rb_roundAll_31 rfl (lv_at hl 3 rfl) ?_
        refine lv_aload_n hx hb d_Rb_roundAll_32 rfl (lv_at hl 0 rfl) ?_
        refine va_get (D := D) (ci := 2) (v := .ref a0) (C := R_Rb) (T := T_Rb) (N := 1) hx hb ht u_Rb hown hK hP 0 rfl rfl 0 (by decide) (ht _ wd_41) (fun _ h9 => h9) rfl d_Rb_roundAll_33 ?_
        refine lv_iload hx hb d_Rb_roundAll_36 (lv_at hl 4 rfl) ?_
        refine wi_ald hx hb hK hP 1 0 rfl rfl (by omega) (by omega) d_Rb_roundAll_38 ?_
        rw [va_up_self]
        refine va_mmax hx hb (hml.trans hl.1.symm) hown (ht _ wd_415) (ht _ wd_184) (ht _ wd_12) (ht _ wd_185) (Nat.le_of_ble_eq_true rfl) (Nat.le_of_ble_eq_true rfl) (Nat.le_of_ble_eq_true rfl) (Nat.le_of_ble_eq_true rfl) d_Rb_roundAll_39 ?_
        rw [wi_max (by omega) (by omega)]
        refine lv_istore_n (lv' := [(3, .int (nI (max (pw_mx (pw_r b f2) k) (pw_rnd 6 b (f2 k))))), (0, .ref h), (1, .int (nI b)), (2, .ref co), (4, .int (nI k))]) hx hb d_Rb_roundAll_42 rfl hl (by decide) rfl (fun ls hl => ?_)
        refine wi_inc (k := 4) (lv' := [(4, .int (nI (k + 1))), (3, .int (nI (max (pw_mx (pw_r b f2) k) (pw_rnd 6 b (f2 k))))), (0, .ref h), (1, .int (nI b)), (2, .ref co)]) hx hb d_Rb_roundAll_43 hl rfl (by decide) rfl (fun ls hl => ?_)
        refine lv_goto hx hb d_Rb_roundAll_46 rfl ?_
        exact ih5 (n - (k + 1)) (by omega) (k + 1) (va_up v k (pw_rnd 6 b (f2 k))) ls H locs rfl (by omega) (up_lt (g := pw_r b f2) hv) (lv_sub hl [2, 3, 4, 1, 0] rfl) hP hD hS
  exact loop5 _ (0) (u) ls H locs rfl (Nat.zero_le _) lt_0 (lv_sub hl [2, 3, 4, 1, 0] rfl) hP hD hS
set_option maxHeartbeats 4000000 in
set_option maxRecDepth 100000 in
theorem c_Rb_placesNeeded (l : Launch) (Hs : Heap) (D : va_G) (cI cZ cL : ClassId) (h : Nat) (a0 : Nat) (u : Nat → Nat) (n : Nat) (L : Nat) (hn : n ≤ 10) (hu : ∀ t, t < n → 0 < u t ∧ u t < 2 ^ 31) (hL : L < 2 ^ 31) : kI l Hs D kcl (ty3 cI cZ cL) y_Rb_placesNeeded (mws y_Rb_placesNeeded b_Rb_placesNeeded 5 (Option.some Jvm.ClassFile.FieldType.int)) ({ frames := 0, cells := 0, slots := 0, locals := 0 } : Room) [.ref h, .int (nI n), .int (nI L)] [(h, .inr (2, [.ref a0])), (a0, .inl (cI, 10, .inl (wA u)))] (fun r w => r = nI (pw_sm (fun t => L / u t) n) ∧ w = [(h, .inr (2, [.ref a0])), (a0, .inl (cI, 10, .inl (wA u)))]) := by
  intro sz
  refine k_of (cc := b_Rb_placesNeeded) (maxL := 5) (ret := (Option.some Jvm.ClassFile.FieldType.int)) (by decide) rfl (Nat.le_of_ble_eq_true rfl) ?_
  intro p e s m args below meth c ls H locs A Q hQ hx hb hml hr hts hown hlk hnm hsz hAe hP hK hD hS hA hE hAH hl
  have ht : ∀ w ∈ mw, w.before args s = true := fun w h => hts w (List.mem_cons_of_mem _ h)
  have hl : lv_has ls 5 [(0, .ref h), (1, .int (nI n)), (2, .int (nI L))] := hl
  refine lv_iconst (v := nI 0) hx hb d_Rb_placesNeeded_0 (by decide) ?_
  refine lv_istore_n (lv' := [(3, .int (nI 0)), (0, .ref h), (1, .int (nI n)), (2, .int (nI L))]) hx hb d_Rb_placesNeeded_1 rfl hl (by decide) rfl (fun ls hl => ?_)
  refine lv_iconst (v := nI 0) hx hb d_Rb_placesNeeded_2 (by decide) ?_
  refine lv_istore (lv' := [(4, .int (nI 0)), (3, .int (nI 0)), (0, .ref h), (1, .int (nI n)), (2, .int (nI L))]) hx hb d_Rb_placesNeeded_3 hl (by decide) rfl (fun ls hl => ?_)
  have loop5 : ∀ (d : Nat) (k : Nat) (ls : Array Slot) (H : Heap) (locs : List Loc), n - k = d → (k ≤ n) → lv_has ls 5 [(0, .ref h), (1, .int (nI n)), (2, .int (nI L)), (3, .int (nI (pw_sm (fun t => L / u t) k))), (4, .int (nI k))] → va_P D kcl [(h, .inr (2, [.ref a0])), (a0, .inl (cI, 10, .inl (wA u)))] H → va_D A [(h, .inr (2, [.ref a0])), (a0, .inl (cI, 10, .inl (wA u)))] → va_S A s.heap H locs → W p l e ({ frames := 0, cells := 0, slots := 0, locals := 0 } : Room) s m args below meth c H locs 0 0 Q (F0 m 5 ls []) := by
    intro d
    induction d using Nat.strongRecOn with
    | ind d ih5 =>
      intro k ls H locs hd5 hk hl hP hD hS
      refine lv_iload hx hb d_Rb_placesNeeded_5 (lv_at hl 4 rfl) ?_
      refine lv_iload_n hx hb d_Rb_placesNeeded_7 rfl (lv_at hl 1 rfl) ?_
      refine wi_ge hx hb d_Rb_placesNeeded_8 rfl (by omega) (by omega) (fun h8 => ?_) (fun h8 => ?_)
      · obtain rfl : k = n := by omega
        refine lv_iload_n hx hb d_Rb_placesNeeded_43 rfl (lv_at hl 3 rfl) ?_
        exact k_reti hQ hx hb hr hlk hAe hK hP hD hS (Nat.le_of_ble_eq_true rfl) (Nat.le_of_ble_eq_true rfl) (Nat.le_of_ble_eq_true rfl) ⟨rfl, rfl⟩ d_Rb_placesNeeded_44
      · have huk := hu k h8
        refine lv_iload_n hx hb d_Rb_placesNeeded_11 rfl (lv_at hl 3 rfl) ?_
        refine lv_aload_n hx hb d_Rb_placesNeeded_12 rfl (lv_at hl 0 rfl) ?_
        refine va_get (D := D) (ci := 2) (v := .ref a0) (C := R_Rb) (T := T_Rb) (N := 1) hx hb ht u_Rb hown hK hP 0 rfl rfl 0 (by decide) (ht _ wd_41) (fun _ h9 => h9) rfl d_Rb_placesNeeded_13 ?_
        refine lv_iload hx hb d_Rb_placesNeeded_16 (lv_at hl 4 rfl) ?_
        refine wi_ald hx hb hK hP 1 0 rfl rfl (by omega) (by omega) d_Rb_placesNeeded_18 ?_
        refine wi_if_le hx hb d_Rb_placesNeeded_19 rfl (by omega) (fun h19 => ?_) (fun h19 => ?_)
        · exfalso; omega
        · refine lv_iload_n hx hb d_Rb_placesNeeded_22 rfl (lv_at hl 2 rfl) ?_
          refine lv_aload_n hx hb d_Rb_placesNeeded_23 rfl (lv_at hl 0 rfl) ?_
          refine va_get (D := D) (ci := 2) (v := .ref a0) (C := R_Rb) (T := T_Rb) (N := 1) hx hb ht u_Rb hown hK hP 0 rfl rfl 0 (by decide) (ht _ wd_41) (fun _ h9 => h9) rfl d_Rb_placesNeeded_24 ?_
          refine lv_iload hx hb d_Rb_placesNeeded_27 (lv_at hl 4 rfl) ?_
          refine wi_ald hx hb hK hP 1 0 rfl rfl (by omega) (by omega) d_Rb_placesNeeded_29 ?_
          refine wi_div hx hb d_Rb_placesNeeded_30 (by omega) (by omega) (by omega) ?_
          refine lv_goto hx hb d_Rb_placesNeeded_31 rfl ?_
          refine wi_add hx hb d_Rb_placesNeeded_35 ?_
          refine lv_istore_n (lv' := [(3, .int (nI ((pw_sm (fun t => L / u t) k) + (L / (u k))))), (0, .ref h), (1, .int (nI n)), (2, .int (nI L)), (4, .int (nI k))]) hx hb d_Rb_placesNeeded_36 rfl hl (by decide) rfl (fun ls hl => ?_)
          refine wi_inc (k := 4) (lv' := [(4, .int (nI (k + 1))), (3, .int (nI ((pw_sm (fun t => L / u t) k) + (L / (u k))))), (0, .ref h), (1, .int (nI n)), (2, .int (nI L))]) hx hb d_Rb_placesNeeded_37 hl rfl (by decide) rfl (fun ls hl => ?_)
          refine lv_goto hx hb d_Rb_placesNeeded_40 rfl ?_
          exact ih5 (n - (k + 1)) (by omega) (k + 1) ls H locs rfl (by omega) (lv_sub hl [2, 3, 4, 1, 0] rfl) hP hD hS
  exact loop5 _ (0) ls H locs rfl (Nat.zero_le _) (lv_sub hl [2, 3, 4, 1, 0] rfl) hP hD hS
set_option maxHeartbeats 4000000 in
set_option maxRecDepth 100000 in
theorem c_Rb_giveToAllWith (l : Launch) (Hs : Heap) (D : va_G) (cI cZ cL : ClassId) (h : Nat) (a0 : Nat) (u : Nat → Nat) (co : Nat) (a1 : Nat) (a2 : Nat) (a3 : Nat) (a4 : Nat) (n : Nat) (f1 : Nat → Nat) (cy : Nat) (p0 : Nat) (M : Nat) (f : Nat → Nat) (L : Nat) (bu : Nat) (z : Nat) (hn : n ≤ 10) (hu : ∀ t, t < n → u t < 2 ^ 31) (hid : ∀ t, t < n → f1 t < 2 ^ 31) (hM : L ≤ M) (hM2 : M ≤ 1500) (hf : ∀ t, t < L → f t < 2 ^ 31) (hz0 : 0 < z) (hz1 : z ≤ 1500) : kV l Hs D kcl (ty3 cI cZ cL) y_Rb_giveToAllWith (mws y_Rb_giveToAllWith b_Rb_giveToAllWith 5 (Option.none : Option Jvm.ClassFile.FieldType)) ({ frames := 2, cells := 0, slots := 0, locals := 44 } : Room) [.ref h, .int (nI z), .ref co, .ref cy] [(h, .inr (2, [.ref a0])), (a0, .inl (cI, 10, .inl (wA u))), (co, .inr (0, [.ref a1, .ref a2, .ref a3, .ref a4, .int (nI n)])), (a1, .inl (cI, 10, .inl (wA f1))), (cy, .inr (1, [.ref p0, .int (nI L), .int (nI bu)])), (p0, .inl (cI, M, .inl (wA f)))] (fun w => w = [(h, .inr (2, [.ref a0])), (a0, .inl (cI, 10, .inl (wA u))), (co, .inr (0, [.ref a1, .ref a2, .ref a3, .ref a4, .int (nI n)])), (a1, .inl (cI, 10, .inl (wA f1))), (cy, .inr (1, [.ref p0, .int (nI L), .int (nI bu)])), (p0, .inl (cI, M, .inl (wA (pw_gf L f1 u z f n))))]) := by
  intro sz
  refine k_of (cc := b_Rb_giveToAllWith) (maxL := 5) (ret := (Option.none : Option Jvm.ClassFile.FieldType)) (by decide) rfl (Nat.le_of_ble_eq_true rfl) ?_
  intro p e s m args below meth c ls H locs A Q hQ hx hb hml hr hts hown hlk hnm hsz hAe hP hK hD hS hA hE hAH hl
  have ht : ∀ w ∈ mw, w.before args s = true := fun w h => hts w (List.mem_cons_of_mem _ h)
  have hl : lv_has ls 5 [(0, .ref h), (1, .int (nI z)), (2, .ref co), (3, .ref cy)] := hl
  refine lv_iconst (v := nI 0) hx hb d_Rb_giveToAllWith_0 (by decide) ?_
  refine lv_istore (lv' := [(4, .int (nI 0)), (0, .ref h), (1, .int (nI z)), (2, .ref co), (3, .ref cy)]) hx hb d_Rb_giveToAllWith_1 hl (by decide) rfl (fun ls hl => ?_)
  have loop3 : ∀ (d : Nat) (k : Nat) (ls : Array Slot) (H : Heap) (locs : List Loc), n - k = d → (k ≤ n) → lv_has ls 5 [(0, .ref h), (1, .int (nI z)), (2, .ref co), (3, .ref cy), (4, .int (nI k))] → va_P D kcl [(h, .inr (2, [.ref a0])), (a0, .inl (cI, 10, .inl (wA u))), (co, .inr (0, [.ref a1, .ref a2, .ref a3, .ref a4, .int (nI n)])), (a1, .inl (cI, 10, .inl (wA f1))), (cy, .inr (1, [.ref p0, .int (nI L), .int (nI bu)])), (p0, .inl (cI, M, .inl (wA (pw_gf L f1 u z f k))))] H → va_D A [(h, .inr (2, [.ref a0])), (a0, .inl (cI, 10, .inl (wA u))), (co, .inr (0, [.ref a1, .ref a2, .ref a3, .ref a4, .int (nI n)])), (a1, .inl (cI, 10, .inl (wA f1))), (cy, .inr (1, [.ref p0, .int (nI L), .int (nI bu)])), (p0, .inl (cI, M, .inl (wA (pw_gf L f1 u z f k))))] → va_S A s.heap H locs → W p l e ({ frames := 2, cells := 0, slots := 0, locals := 44 } : Room) s m args below meth c H locs 0 0 Q (F0 m 3 ls []) := by
    intro d
    induction d using Nat.strongRecOn with
    | ind d ih3 =>
      intro k ls H locs hd3 hk hl hP hD hS
      refine lv_iload hx hb d_Rb_giveToAllWith_3 (lv_at hl 4 rfl) ?_
      refine lv_aload_n hx hb d_Rb_giveToAllWith_5 rfl (lv_at hl 2 rfl) ?_
      refine ck_i (wc := [(co, .inr (0, [.ref a1, .ref a2, .ref a3, .ref a4, .int (nI n)]))]) (va_runV (As := []) (rest := [.int (nI k)]) (C := R_Cl) ⟨hx, hb, hml, hown, ht⟩ (c_Cl_count l Hs D cI cZ cL co a1 a2 a3 a4 n  H.size) (gw_V 0 ht wd_149 wd_3 wd_410 wd_147 wd_148 (by decide +kernel) ⟨Nat.le_of_ble_eq_true rfl, Nat.le_of_ble_eq_true rfl⟩) (k_preV hE hAH hK hP hD hS [2] rfl rfl 2 rfl rfl) rfl rfl hl.1 rfl (lv_room (Nat.le_of_ble_eq_true rfl)) d_Rb_giveToAllWith_6 ⟨Nat.le_of_ble_eq_true rfl, Nat.le_of_ble_eq_true rfl⟩) hP hD hS hA [2] rfl rfl (fun r6 w1 H locs hpost hP hD hS => ?_)
      obtain ⟨rfl, rfl⟩ := hpost
      have hP : va_P D kcl [(h, .inr (2, [.ref a0])), (a0, .inl (cI, 10, .inl (wA u))), (co, .inr (0, [.ref a1, .ref a2, .ref a3, .ref a4, .int (nI n)])), (a1, .inl (cI, 10, .inl (wA f1))), (cy, .inr (1, [.ref p0, .int (nI L), .int (nI bu)])), (p0, .inl (cI, M, .inl (wA (pw_gf L f1 u z f k))))] H := hP
      have hD : va_D A [(h, .inr (2, [.ref a0])), (a0, .inl (cI, 10, .inl (wA u))), (co, .inr (0, [.ref a1, .ref a2, .ref a3, .ref a4, .int (nI n)])), (a1, .inl (cI, 10, .inl (wA f1))), (cy, .inr (1, [.ref p0, .int (nI L), .int (nI bu)])), (p0, .inl (cI, M, .inl (wA (pw_gf L f1 u z f k))))] := hD
      refine wi_ge hx hb d_Rb_giveToAllWith_9 rfl (by omega) (by omega) (fun h9 => ?_) (fun h9 => ?_)
      · obtain rfl : k = n := by omega
        exact k_retv hQ hx hb hr hlk hAe hK hP hD hS (Nat.le_of_ble_eq_true rfl) (Nat.le_of_ble_eq_true rfl) (Nat.le_of_ble_eq_true rfl) rfl d_Rb_giveToAllWith_40
      · refine lv_aload_n hx hb d_Rb_giveToAllWith_12 rfl (lv_at hl 0 rfl) ?_
        refine va_get (D := D) (ci := 2) (v := .ref a0) (C := R_Rb) (T := T_Rb) (N := 1) hx hb ht u_Rb hown hK hP 0 rfl rfl 0 (by decide) (ht _ wd_41) (fun _ h9 => h9) rfl d_Rb_giveToAllWith_13 ?_
        refine lv_iload hx hb d_Rb_giveToAllWith_16 (lv_at hl 4 rfl) ?_
        refine wi_ald hx hb hK hP 1 0 rfl rfl (by omega) (by omega) d_Rb_giveToAllWith_18 ?_
        refine lv_iload_n hx hb d_Rb_giveToAllWith_19 rfl (lv_at hl 1 rfl) ?_
        refine wi_ne hx hb d_Rb_giveToAllWith_20 rfl (hu k h9) (by omega) (fun h20 => ?_) (fun h20 => ?_)
        · refine wi_inc (k := 4) (lv' := [(4, .int (nI (k + 1))), (0, .ref h), (1, .int (nI z)), (2, .ref co), (3, .ref cy)]) hx hb d_Rb_giveToAllWith_34 hl rfl (by decide) rfl (fun ls hl => ?_)
          refine lv_goto hx hb d_Rb_giveToAllWith_37 rfl ?_
          rw [pw_gf_f h20] at hP hD
          exact ih3 (n - (k + 1)) (by omega) (k + 1) ls H locs rfl (by omega) (lv_sub hl [1, 2, 3, 4, 0] rfl) hP hD hS
        · refine lv_aload_n hx hb d_Rb_giveToAllWith_23 rfl (lv_at hl 3 rfl) ?_
          refine lv_aload_n hx hb d_Rb_giveToAllWith_24 rfl (lv_at hl 2 rfl) ?_
          refine lv_iload hx hb d_Rb_giveToAllWith_25 (lv_at hl 4 rfl) ?_
          refine ck_i (wc := [(co, .inr (0, [.ref a1, .ref a2, .ref a3, .ref a4, .int (nI n)])), (a1, .inl (cI, 10, .inl (wA f1)))]) (va_runV (As := [.int (nI k)]) (rest := [.ref cy]) (C := R_Cl) ⟨hx, hb, hml, hown, ht⟩ (c_Cl_idAt l Hs D cI cZ cL co a1 a2 a3 a4 n f1 k (by omega) H.size) (gw_V 1 ht wd_161 wd_3 wd_712 wd_159 wd_160 (by decide +kernel) ⟨Nat.le_of_ble_eq_true rfl, Nat.le_of_ble_eq_true rfl⟩) (k_preV hE hAH hK hP hD hS [2, 3] rfl rfl 2 rfl rfl) rfl rfl hl.1 rfl (lv_room (Nat.le_of_ble_eq_true rfl)) d_Rb_giveToAllWith_27 ⟨Nat.le_of_ble_eq_true rfl, Nat.le_of_ble_eq_true rfl⟩) hP hD hS hA [2, 3] rfl rfl (fun r27 w1 H locs hpost hP hD hS => ?_)
          obtain ⟨rfl, rfl⟩ := hpost
          have hP : va_P D kcl [(h, .inr (2, [.ref a0])), (a0, .inl (cI, 10, .inl (wA u))), (co, .inr (0, [.ref a1, .ref a2, .ref a3, .ref a4, .int (nI n)])), (a1, .inl (cI, 10, .inl (wA f1))), (cy, .inr (1, [.ref p0, .int (nI L), .int (nI bu)])), (p0, .inl (cI, M, .inl (wA (pw_gf L f1 u z f k))))] H := hP
          have hD : va_D A [(h, .inr (2, [.ref a0])), (a0, .inl (cI, 10, .inl (wA u))), (co, .inr (0, [.ref a1, .ref a2, .ref a3, .ref a4, .int (nI n)])), (a1, .inl (cI, 10, .inl (wA f1))), (cy, .inr (1, [.ref p0, .int (nI L), .int (nI bu)])), (p0, .inl (cI, M, .inl (wA (pw_gf L f1 u z f k))))] := hD
          refine lv_iload_n hx hb d_Rb_giveToAllWith_30 rfl (lv_at hl 1 rfl) ?_
          refine ck_v (wc := [(cy, .inr (1, [.ref p0, .int (nI L), .int (nI bu)])), (p0, .inl (cI, M, .inl (wA (pw_gf L f1 u z f k))))]) (va_runV (As := [.int (nI (f1 k)), .int (nI z)]) (rest := []) (C := R_Cy) ⟨hx, hb, hml, hown, ht⟩ (c_Cy_giveTo l Hs D cI cZ cL cy p0 M (pw_gf L f1 u z f k) L bu (f1 k) z hM hM2 (pw_gf_lt hf hid k hk) hz0 hz1 H.size) (gw_V 2 ht wd_716 wd_4 wd_713 wd_714 wd_715 (by decide +kernel) ⟨Nat.le_of_ble_eq_true rfl, Nat.le_of_ble_eq_true rfl⟩) (k_preV hE hAH hK hP hD hS [4, 5] rfl rfl 4 rfl rfl) rfl rfl hl.1 rfl (lv_room (Nat.le_of_ble_eq_true rfl)) d_Rb_giveToAllWith_31 ⟨Nat.le_of_ble_eq_true rfl, Nat.le_of_ble_eq_true rfl⟩) hP hD hS hA [4, 5] rfl rfl (fun w1 H locs hpost hP hD hS => ?_)
          obtain rfl := hpost
          have hP : va_P D kcl [(h, .inr (2, [.ref a0])), (a0, .inl (cI, 10, .inl (wA u))), (co, .inr (0, [.ref a1, .ref a2, .ref a3, .ref a4, .int (nI n)])), (a1, .inl (cI, 10, .inl (wA f1))), (cy, .inr (1, [.ref p0, .int (nI L), .int (nI bu)])), (p0, .inl (cI, M, .inl (wA (pw_gv L (f1 k) z (pw_gf L f1 u z f k)))))] H := hP
          have hD : va_D A [(h, .inr (2, [.ref a0])), (a0, .inl (cI, 10, .inl (wA u))), (co, .inr (0, [.ref a1, .ref a2, .ref a3, .ref a4, .int (nI n)])), (a1, .inl (cI, 10, .inl (wA f1))), (cy, .inr (1, [.ref p0, .int (nI L), .int (nI bu)])), (p0, .inl (cI, M, .inl (wA (pw_gv L (f1 k) z (pw_gf L f1 u z f k)))))] := hD
          refine wi_inc (k := 4) (lv' := [(4, .int (nI (k + 1))), (0, .ref h), (1, .int (nI z)), (2, .ref co), (3, .ref cy)]) hx hb d_Rb_giveToAllWith_34 hl rfl (by decide) rfl (fun ls hl => ?_)
          refine lv_goto hx hb d_Rb_giveToAllWith_37 rfl ?_
          rw [pw_gf_t h20] at hP hD
          exact ih3 (n - (k + 1)) (by omega) (k + 1) ls H locs rfl (by omega) (lv_sub hl [1, 2, 3, 4, 0] rfl) hP hD hS
  exact loop3 _ (0) ls H locs rfl (Nat.zero_le _) (lv_sub hl [1, 2, 3, 4, 0] rfl) hP hD hS
