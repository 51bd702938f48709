/-! StateBuilder: takes, lay. -/
theorem sb_ok_of {n : Nat} {id f2 gs gw : Nat → Nat} (hn1 : 1 ≤ n) (htk : pw_tk f2 n) (hf : ∀ t, t < n → 0 < f2 t ∧ f2 t ≤ 40) (hgs : ∀ i, i < n → gs i = pw_os f2 n i) (hgw : ∀ k, k < n → gw k = pw_w gs k) : sb_ok n gs gw (pw_w f2 n) (pw_sw gs n) := by
  refine ⟨hn1, htk.1, fun k hk => ?_, hgw, rfl, (sb_weigh hgs).symm, htk.2⟩
  rw [hgs k hk]
  exact hf _ (pw_srt_get hk)
/-- the first turn found is the first client with which a safe state comes -/
theorem sb_F {K : Nat} {fs fy : Nat → Nat} {v t : Nat} (hsp : ∀ k, k < K → 0 < fs k) (hy : ∀ x, x < pw_w fs K → (0 < fy x ↔ pw_safe K fs x)) (hs : pw_safe K fs v) (ht : t < K) (h1 : t + 1 = K ∨ sb_ld K fs fy v t) (h2 : ∀ j, j < t → ¬ sb_ld K fs fy v j) : pw_F K fs v t := by
  have key : ∀ j, sb_ld K fs fy v j ↔ pw_ok K fs v j ∧ pw_safe K fs (pw_nx K fs v j) := fun j => by
    unfold sb_ld
    rw [hy _ (pw_nx_lt hsp v j)]
  refine ⟨ht, ?_, fun j hj z => h2 j hj ((key j).mpr z)⟩
  rw [← key t]
  rcases h1 with h1 | h1
  · obtain ⟨-, x, hx, hx2, hx3⟩ := pw_safe_step hs
    have h3 : sb_ld K fs fy v x := (key x).mpr ⟨hx2, hx3⟩
    by_cases e : x = t
    · rw [← e]; exact h3
    · exact absurd h3 (h2 x (by omega))
  · exact h1
/-- the walk so far: times of states, who was served -/
def sb_P (K : Nat) (fs gi st tn ft sv : Nat → Nat) (T : Nat) : Prop := pw_P K fs st tn T ∧ (∀ i j, i < j → j < T → st i ≠ st j) ∧ (∀ x, x < pw_w fs K → (ft x = 0 ∧ ∀ i, i < T → st i ≠ x) ∨ ∃ i, i < T ∧ st i = x ∧ ft x = i + 1) ∧ ∀ i, i < T → sv i = gi (tn i)
theorem sb_P_add {K : Nat} {fs gi st tn ft sv : Nat → Nat} {T t : Nat} (hsp : ∀ k, k < K → 0 < fs k) (h : sb_P K fs gi st tn ft sv T) (h0 : ft (st T) = 0) (hF : pw_F K fs (st T) t) : sb_P K fs gi (fun i => if i = T + 1 then pw_nx K fs (st T) t else st i) (fun i => if i = T then t else tn i) (va_up ft (st T) (T + 1)) (va_up sv T (gi t)) (T + 1) := by
  obtain ⟨h1, h2, h3, h4⟩ := h
  have hsT := (pw_safe_step h1.2.1).1
  have hnew : ∀ i, i < T → st i ≠ st T := by
    rcases h3 _ hsT with ⟨-, h⟩ | ⟨i, -, -, h⟩
    · exact h
    · omega
  refine ⟨pw_P_add h1 hF, fun i j hij hj => ?_, fun x hx => ?_, lt_s (fun i hi => ?_) ?_⟩
  · simp only [if_neg (show ¬ i = T + 1 by omega), if_neg (show ¬ j = T + 1 by omega)]
    by_cases e : j = T
    · subst e; exact hnew i hij
    · exact h2 i j hij (by omega)
  · by_cases e : x = st T
    · subst e
      refine Or.inr ⟨T, by omega, ?_, va_up_self _ _ _⟩
      show (if T = T + 1 then _ else st T) = st T
      rw [if_neg (by omega)]
    · rw [va_up_ne _ _ e]
      rcases h3 x hx with ⟨a, b⟩ | ⟨i, a, b, c⟩
      · refine Or.inl ⟨a, fun i hi => ?_⟩
        simp only [if_neg (show ¬ i = T + 1 by omega)]
        by_cases e2 : i = T
        · subst e2; exact fun z => e z.symm
        · exact b i (by omega)
      · refine Or.inr ⟨i, by omega, ?_, c⟩
        simp only [if_neg (show ¬ i = T + 1 by omega)]
        exact b
  · rw [va_up_ne _ _ (by omega)]
    simp only [if_neg (show ¬ i = T by omega)]
    exact h4 i hi
  · rw [va_up_self]
    simp only [if_true]
theorem sb_P_full {K : Nat} {fs gi st tn ft sv : Nat → Nat} {T : Nat} (h : sb_P K fs gi st tn ft sv T) (hT : T = pw_w fs K) : 0 < ft (st T) := by
  obtain ⟨h1, h2, h3, h4⟩ := h
  have hsT := (pw_safe_step h1.2.1).1
  rcases h3 _ hsT with ⟨-, h⟩ | ⟨i, -, -, h⟩
  · exfalso
    obtain ⟨i, hi, e⟩ := pw_all (U := st) (N := pw_w fs K) (fun i hi => (pw_safe_step (pw_P_safe h1 i (by omega))).1) (fun i j hi hj e => by
      rcases Nat.lt_trichotomy i j with a | a | a
      · exact absurd e (h2 i j a (by omega))
      · exact a
      · exact absurd e.symm (h2 j i a (by omega))) (st T) hsT
    exact h i (by omega) e
  · omega
theorem sb_P_le {K : Nat} {fs gi st tn ft sv : Nat → Nat} {T : Nat} (h : sb_P K fs gi st tn ft sv T) : T ≤ pw_w fs K := pw_P_few h.1 h.2.1
theorem sb_P_end {K : Nat} {fs gi st tn ft sv cy : Nat → Nat} {T L : Nat} (h : sb_P K fs gi st tn ft sv T) (h0 : 0 < ft (st T)) (hL : L = T - (ft (st T) - 1)) (hc : ∀ j, j < L → cy j = sv (ft (st T) - 1 + j)) : pw_B3 K fs gi L cy ∧ ft (st T) ≤ T := by
  obtain ⟨h1, h2, h3, h4⟩ := h
  have hsT := (pw_safe_step h1.2.1).1
  rcases h3 _ hsT with ⟨h, -⟩ | ⟨i, hi, e, h⟩
  · omega
  · rw [h, Nat.add_sub_cancel] at hL hc
    refine ⟨⟨st, tn, T, i, h1, hi, e.symm, h2, hL, fun j hj => ?_⟩, by omega⟩
    rw [hc j hj]
    exact h4 (i + j) (by omega)
/-- only the ids and spans of those taken count -/
theorem pw_ok_cg {K : Nat} {sp sp' : Nat → Nat} (h : ∀ k, k < K → sp k = sp' k) : ∀ n, n ≤ K → pw_w sp n = pw_w sp' n := fun n hn => pw_w_congr fun k hk => h k (by omega)
theorem pw_dg_cg {K : Nat} {sp sp' : Nat → Nat} (h : ∀ k, k < K → sp k = sp' k) (s k : Nat) (hk : k < K) : pw_dg sp s k = pw_dg sp' s k := by
  unfold pw_dg
  rw [pw_ok_cg h k (by omega), h k hk]
theorem pw_nx_cg {K : Nat} {sp sp' : Nat → Nat} (h : ∀ k, k < K → sp k = sp' k) (s t : Nat) : pw_nx K sp s t = pw_nx K sp' s t := by
  unfold pw_nx
  have key : ∀ n, n ≤ K → pw_en sp (pw_nd sp s t) n = pw_en sp' (pw_nd sp' s t) n := by
    intro n
    induction n with
    | zero => intro _; rfl
    | succ n ih =>
      intro hn
      show pw_en sp _ n + pw_nd sp s t n * pw_w sp n = pw_en sp' _ n + pw_nd sp' s t n * pw_w sp' n
      rw [ih (by omega), pw_ok_cg h n (by omega)]
      congr 2
      unfold pw_nd
      rw [h n (by omega), pw_dg_cg h s n (by omega)]
  exact key K (Nat.le_refl K)
theorem pw_okk_cg {K : Nat} {sp sp' : Nat → Nat} (h : ∀ k, k < K → sp k = sp' k) (s t : Nat) : pw_ok K sp s t ↔ pw_ok K sp' s t := by
  unfold pw_ok
  constructor
  · intro z k hk hkt; rw [← pw_dg_cg h s k hk]; exact z k hk hkt
  · intro z k hk hkt; rw [pw_dg_cg h s k hk]; exact z k hk hkt
theorem pw_safe_cg {K : Nat} {sp sp' : Nat → Nat} (h : ∀ k, k < K → sp k = sp' k) (s : Nat) : pw_safe K sp s ↔ pw_safe K sp' s := by
  have one : ∀ {sp sp' : Nat → Nat}, (∀ k, k < K → sp k = sp' k) → pw_safe K sp s → pw_safe K sp' s := by
    intro sp sp' h ⟨X, h1, h2⟩
    refine ⟨X, h1, fun s hs => ?_⟩
    obtain ⟨a, t, b, c, d⟩ := h2 s hs
    exact ⟨by rw [← pw_ok_cg h K (Nat.le_refl K)]; exact a, t, b, (pw_okk_cg h s t).mp c, by rw [← pw_nx_cg h]; exact d⟩
  exact ⟨one h, one fun k hk => (h k hk).symm⟩
theorem pw_F_cg {K : Nat} {sp sp' : Nat → Nat} (h : ∀ k, k < K → sp k = sp' k) {s t : Nat} (hF : pw_F K sp s t) : pw_F K sp' s t := by
  have key : ∀ x, (pw_ok K sp s x ∧ pw_safe K sp (pw_nx K sp s x)) ↔ (pw_ok K sp' s x ∧ pw_safe K sp' (pw_nx K sp' s x)) := fun x => by
    rw [pw_okk_cg h, pw_nx_cg h, pw_safe_cg h]
  exact ⟨hF.1, (key t).mp hF.2.1, fun x hx z => hF.2.2 x hx ((key x).mpr z)⟩
theorem pw_B3_cg {K : Nat} {sp sp' id id' : Nat → Nat} (h : ∀ k, k < K → sp k = sp' k) (hi : ∀ k, k < K → id k = id' k) {L : Nat} {cy : Nat → Nat} (hB : pw_B3 K sp id L cy) : pw_B3 K sp' id' L cy := by
  obtain ⟨st, tn, T, fr, ⟨p1, p2, p3⟩, h2, h3, h4, h5, h6⟩ := hB
  refine ⟨st, tn, T, fr, ⟨by rw [p1, pw_ok_cg h K (Nat.le_refl K)], (pw_safe_cg h _).mp p2, fun i hi => ⟨pw_F_cg h (p3 i hi).1, by rw [(p3 i hi).2, pw_nx_cg h]⟩⟩, h2, h3, h4, h5, fun j hj => ?_⟩
  rw [h6 j hj]
  exact hi _ (p3 (fr + j) (by omega)).1.1
set_option maxHeartbeats 4000000 in
set_option maxRecDepth 100000 in
theorem c_Ar_fillT (l : Launch) (Hs : Heap) (D : va_G) (cI cZ cL : ClassId) (a : Nat) (n : Nat) (f : Nat → Nat) (i : Nat) (j : Nat) (v : Nat) (hij : i ≤ j) (hjn : j ≤ n) (hn : n < 2 ^ 31) : kV l Hs D kcl (ty3 cI cZ cL) y_Ar_fill (mws y_Ar_fill b_Ar_fill 5 (Option.none : Option Jvm.ClassFile.FieldType)) ({ frames := 1, cells := 0, slots := 0, locals := 22 } : Room) [.ref a, .int (nI i), .int (nI j), .int (oI v)] [(a, .inl (cI, n, .inl (wT f)))] (fun w => ∃ (u : Nat → Nat), (∀ t, i ≤ t → t < j → u t = v) ∧ w = [(a, .inl (cI, n, .inl (wT u)))]) := by
  intro sz
  refine k_of (cc := b_Ar_fill) (maxL := 5) (ret := (Option.none : Option Jvm.ClassFile.FieldType)) (by decide) rfl (Nat.le_of_ble_eq_true rfl) ?_
  intro p e s m args below meth c ls H locs A Q hQ hx hb hml hr hts hown hlk hnm hsz hAe hP hK hD hS hA hE hAH hl
  have ht : ∀ w ∈ mw, w.before args s = true := fun w h => hts w (List.mem_cons_of_mem _ h)
  have hl : lv_has ls 5 [(0, .ref a), (1, .int (nI i)), (2, .int (nI j)), (3, .int (oI v))] := hl
  refine lv_aload_n hx hb d_Ar_fill_0 rfl (lv_at hl 0 rfl) ?_
  refine va_alen (v := nI n) hx hb hK hP 0 0 rfl rfl rfl d_Ar_fill_1 ?_
  refine lv_iload_n hx hb d_Ar_fill_2 rfl (lv_at hl 1 rfl) ?_
  refine lv_iload_n hx hb d_Ar_fill_3 rfl (lv_at hl 2 rfl) ?_
  refine ck_v (wc := []) (va_runS (As := [.int (nI n), .int (nI i), .int (nI j)]) (rest := []) ⟨hx, hb, hml, hown, ht⟩ (c_Ar_rangeCheck l Hs D cI cZ cL n i j hij hjn hn H.size) (gw_S 3 ht wd_433 wd_13 wd_431 wd_432 (by decide +kernel) ⟨Nat.le_of_ble_eq_true rfl, Nat.le_of_ble_eq_true rfl⟩) (k_preS hE hAH hK hP hD hS [] rfl rfl) rfl rfl hl.1 rfl (lv_room (Nat.le_of_ble_eq_true rfl)) d_Ar_fill_4 ⟨Nat.le_of_ble_eq_true rfl, Nat.le_of_ble_eq_true rfl⟩) hP hD hS hA [] rfl rfl (fun w1 H locs hpost hP hD hS => ?_)
  obtain rfl := hpost
  have hP : va_P D kcl [(a, .inl (cI, n, .inl (wT f)))] H := hP
  have hD : va_D A [(a, .inl (cI, n, .inl (wT f)))] := hD
  refine lv_iload_n hx hb d_Ar_fill_7 rfl (lv_at hl 1 rfl) ?_
  refine lv_istore (lv' := [(4, .int (nI i)), (0, .ref a), (1, .int (nI i)), (2, .int (nI j)), (3, .int (oI v))]) hx hb d_Ar_fill_8 hl (by decide) rfl (fun ls hl => ?_)
  have loop10 : ∀ (d : Nat) (k : Nat) (u : Nat → Nat) (ls : Array Slot) (H : Heap) (locs : List Loc), j - k = d → (k ≤ j) → (i ≤ k) → (∀ t, i ≤ t → t < k → u t = v) → lv_has ls 5 [(0, .ref a), (1, .int (nI i)), (2, .int (nI j)), (3, .int (oI v)), (4, .int (nI k))] → va_P D kcl [(a, .inl (cI, n, .inl (wT u)))] H → va_D A [(a, .inl (cI, n, .inl (wT u)))] → va_S A s.heap H locs → W p l e ({ frames := 1, cells := 0, slots := 0, locals := 22 } : Room) s m args below meth c H locs 0 0 Q (F0 m 10 ls []) := by
    intro d
    induction d using Nat.strongRecOn with
    | ind d ih10 =>
      intro k u ls H locs hd10 hk hik hu hl hP hD hS
      refine lv_iload hx hb d_Ar_fill_10 (lv_at hl 4 rfl) ?_
      refine lv_iload_n hx hb d_Ar_fill_12 rfl (lv_at hl 2 rfl) ?_
      refine wi_ge hx hb d_Ar_fill_13 rfl (by omega) (by omega) (fun h13 => ?_) (fun h13 => ?_)
      · exact k_retv hQ hx hb hr hlk hAe hK hP hD hS (Nat.le_of_ble_eq_true rfl) (Nat.le_of_ble_eq_true rfl) (Nat.le_of_ble_eq_true rfl) ⟨u, fun t h1 h2 => hu t h1 (by omega), rfl⟩ d_Ar_fill_27
      · refine lv_aload_n hx hb d_Ar_fill_16 rfl (lv_at hl 0 rfl) ?_
        refine lv_iload hx hb d_Ar_fill_17 (lv_at hl 4 rfl) ?_
        refine lv_iload_n hx hb d_Ar_fill_19 rfl (lv_at hl 3 rfl) ?_
        refine wi_astTT hx hb hK hP hD hS 0 0 rfl rfl (by omega) (by omega) d_Ar_fill_20 (fun H locs hP hD hS => ?_)
        have hP : va_P D kcl [(a, .inl (cI, n, .inl (wT (va_up u k v))))] H := hP
        have hD : va_D A [(a, .inl (cI, n, .inl (wT (va_up u k v))))] := hD
        refine wi_inc (k := 4) (lv' := [(4, .int (nI (k + 1))), (0, .ref a), (1, .int (nI i)), (2, .int (nI j)), (3, .int (oI v))]) hx hb d_Ar_fill_21 hl rfl (by decide) rfl (fun ls hl => ?_)
        refine lv_goto hx hb d_Ar_fill_24 rfl ?_
        exact ih10 (j - (k + 1)) (by omega) (k + 1) (va_up u k v) ls H locs rfl (by omega) (by omega) (fun t h1 h2 => by
    by_cases e : t = k
    · rw [e, va_up_self]
    · rw [va_up_ne _ _ e]; exact hu t h1 (by omega)) (lv_sub hl [1, 2, 3, 4, 0] rfl) hP hD hS
  exact loop10 _ (i) (f) ls H locs rfl hij (Nat.le_refl _) (fun t h1 h2 => by omega) (lv_sub hl [1, 2, 3, 4, 0] rfl) hP hD hS
set_option maxHeartbeats 4000000 in
set_option maxRecDepth 100000 in
theorem c_Sb_init (l : Launch) (Hs : Heap) (D : va_G) (cI cZ cL : ClassId) (h : Nat) : kV l Hs D kcl (ty3 cI cZ cL) y_Sb_init (mws y_Sb_init b_Sb_init 1 (Option.none : Option Jvm.ClassFile.FieldType)) ({ frames := 1, cells := 7, slots := 6012, locals := 12 } : Room) [.ref h] [(h, .inr (3, [.null, .null, .null, .int (nI 0), .int (nI 0), .int (nI 0), .null, .null, .int (nI 0), .null, .null]))] (fun w => ∃ (i1 : Nat), ∃ (i2 : Nat), ∃ (i3 : Nat), ∃ (i4 : Nat), ∃ (i5 : Nat), ∃ (i6 : Nat), ∃ (i7 : Nat), w = [(h, .inr (3, [.ref i1, .ref i2, .ref i3, .int (nI 0), .int (nI 1), .int (nI 0), .ref i4, .ref i5, .int (nI 0), .ref i6, .ref i7])), (i1, .inl (cI, 4, .inl (wA (fun _ => 0)))), (i2, .inl (cI, 4, .inl (wA (fun _ => 0)))), (i3, .inl (cI, 4, .inl (wA (fun _ => 0)))), (i4, .inl (cI, 1500, .inl (wA (fun _ => 0)))), (i5, .inl (cI, 1500, .inl (wA (fun _ => 0)))), (i6, .inl (cI, 1500, .inl (wT (fun _ => 1)))), (i7, .inl (cI, 1500, .inl (wA (fun _ => 0))))]) := by
  intro sz
  refine k_of (cc := b_Sb_init) (maxL := 1) (ret := (Option.none : Option Jvm.ClassFile.FieldType)) (by decide) rfl (Nat.le_of_ble_eq_true rfl) ?_
  intro p e s m args below meth c ls H locs A Q hQ hx hb hml hr hts hown hlk hnm hsz hAe hP hK hD hS hA hE hAH hl
  have ht : ∀ w ∈ mw, w.before args s = true := fun w h => hts w (List.mem_cons_of_mem _ h)
  have hl : lv_has ls 1 [(0, .ref h)] := hl
  refine lv_aload_n hx hb d_Sb_init_0 rfl (lv_at hl 0 rfl) ?_
  refine W.objInit hx hb hown (ht _ wd_201) (ht _ wd_33) (ht _ wd_34) rfl (by rw [hml]; exact hl.1) rfl d_Sb_init_1 (Nat.le_of_ble_eq_true rfl) (Nat.le_of_ble_eq_true rfl) ?_
  refine W.eq (g2 := F0 m 4 ls []) rfl ?_
  refine lv_aload_n hx hb d_Sb_init_4 rfl (lv_at hl 0 rfl) ?_
  refine lv_iconst (v := nI 4) hx hb d_Sb_init_5 (by decide) ?_
  refine wi_newa (atype := .int) (a0 := (4, .inl (wA (fun _ => 0)))) (N' := 4) hx hb (ht _ wd_45) rfl (by decide) hK hP hD hS hA 0 rfl (fun _ => rfl) (by decide) rfl (by decide) (Nat.le_of_ble_eq_true rfl) (Nat.le_of_ble_eq_true rfl) d_Sb_init_6 (fun q6 H hP hD hS => ?_)
  have hP : va_P D kcl [(h, .inr (3, [.null, .null, .null, .int (nI 0), .int (nI 0), .int (nI 0), .null, .null, .int (nI 0), .null, .null])), (q6, .inl (cI, 4, .inl (wA (fun _ => 0))))] H := hP
  have hD : va_D A [(h, .inr (3, [.null, .null, .null, .int (nI 0), .int (nI 0), .int (nI 0), .null, .null, .int (nI 0), .null, .null])), (q6, .inl (cI, 4, .inl (wA (fun _ => 0))))] := hD
  refine W.widen (k := 1) (n := 4) (by decide) (by decide) ?_
  refine va_putF (D := D) (ci := 3) (v := .ref q6) (ty := (.array .int)) (C := R_Sb) (T := T_Sb) (N := 11) hx hb ht u_Sb t_Sb t_Sb_ok n_Sb hown hK hP hD hS 0 rfl rfl 0 (by decide) (ht _ wd_202) (fun _ h9 => h9) rfl hnm rfl (by decide +kernel) rfl rfl (Nat.le_of_ble_eq_true rfl) d_Sb_init_8 (fun H locs hP hD hS => ?_)
  have hP : va_P D kcl [(h, .inr (3, [.ref q6, .null, .null, .int (nI 0), .int (nI 0), .int (nI 0), .null, .null, .int (nI 0), .null, .null])), (q6, .inl (cI, 4, .inl (wA (fun _ => 0))))] H := hP
  have hD : va_D A [(h, .inr (3, [.ref q6, .null, .null, .int (nI 0), .int (nI 0), .int (nI 0), .null, .null, .int (nI 0), .null, .null])), (q6, .inl (cI, 4, .inl (wA (fun _ => 0))))] := hD
  refine lv_aload_n hx hb d_Sb_init_11 rfl (lv_at hl 0 rfl) ?_
  refine lv_iconst (v := nI 4) hx hb d_Sb_init_12 (by decide) ?_
  refine wi_newa (atype := .int) (a0 := (4, .inl (wA (fun _ => 0)))) (N' := 4) hx hb (ht _ wd_45) rfl (by decide) hK hP hD hS hA 0 rfl (fun _ => rfl) (by decide) rfl (by decide) (Nat.le_of_ble_eq_true rfl) (Nat.le_of_ble_eq_true rfl) d_Sb_init_13 (fun q13 H hP hD hS => ?_)
  have hP : va_P D kcl [(h, .inr (3, [.ref q6, .null, .null, .int (nI 0), .int (nI 0), .int (nI 0), .null, .null, .int (nI 0), .null, .null])), (q6, .inl (cI, 4, .inl (wA (fun _ => 0)))), (q13, .inl (cI, 4, .inl (wA (fun _ => 0))))] H := hP
  have hD : va_D A [(h, .inr (3, [.ref q6, .null, .null, .int (nI 0), .int (nI 0), .int (nI 0), .null, .null, .int (nI 0), .null, .null])), (q6, .inl (cI, 4, .inl (wA (fun _ => 0)))), (q13, .inl (cI, 4, .inl (wA (fun _ => 0))))] := hD
  refine W.widen (k := 2) (n := 8) (by decide) (by decide) ?_
  refine va_putF (D := D) (ci := 3) (v := .ref q13) (ty := (.array .int)) (C := R_Sb) (T := T_Sb) (N := 11) hx hb ht u_Sb t_Sb t_Sb_ok n_Sb hown hK hP hD hS 0 rfl rfl 1 (by decide) (ht _ wd_203) (fun _ h9 => h9) rfl hnm rfl (by decide +kernel) rfl rfl (Nat.le_of_ble_eq_true rfl) d_Sb_init_15 (fun H locs hP hD hS => ?_)
  have hP : va_P D kcl [(h, .inr (3, [.ref q6, .ref q13, .null, .int (nI 0), .int (nI 0), .int (nI 0), .null, .null, .int (nI 0), .null, .null])), (q6, .inl (cI, 4, .inl (wA (fun _ => 0)))), (q13, .inl (cI, 4, .inl (wA (fun _ => 0))))] H := hP
  have hD : va_D A [(h, .inr (3, [.ref q6, .ref q13, .null, .int (nI 0), .int (nI 0), .int (nI 0), .null, .null, .int (nI 0), .null, .null])), (q6, .inl (cI, 4, .inl (wA (fun _ => 0)))), (q13, .inl (cI, 4, .inl (wA (fun _ => 0))))] := hD
  refine lv_aload_n hx hb d_Sb_init_18 rfl (lv_at hl 0 rfl) ?_
  refine lv_iconst (v := nI 4) hx hb d_Sb_init_19 (by decide) ?_
  refine wi_newa (atype := .int) (a0 := (4, .inl (wA (fun _ => 0)))) (N' := 4) hx hb (ht _ wd_45) rfl (by decide) hK hP hD hS hA 0 rfl (fun _ => rfl) (by decide) rfl (by decide) (Nat.le_of_ble_eq_true rfl) (Nat.le_of_ble_eq_true rfl) d_Sb_init_20 (fun q20 H hP hD hS => ?_)
  have hP : va_P D kcl [(h, .inr (3, [.ref q6, .ref q13, .null, .int (nI 0), .int (nI 0), .int (nI 0), .null, .null, .int (nI 0), .null, .null])), (q6, .inl (cI, 4, .inl (wA (fun _ => 0)))), (q13, .inl (cI, 4, .inl (wA (fun _ => 0)))), (q20, .inl (cI, 4, .inl (wA (fun _ => 0))))] H := hP
  have hD : va_D A [(h, .inr (3, [.ref q6, .ref q13, .null, .int (nI 0), .int (nI 0), .int (nI 0), .null, .null, .int (nI 0), .null, .null])), (q6, .inl (cI, 4, .inl (wA (fun _ => 0)))), (q13, .inl (cI, 4, .inl (wA (fun _ => 0)))), (q20, .inl (cI, 4, .inl (wA (fun _ => 0))))] := hD
  refine W.widen (k := 3) (n := 12) (by decide) (by decide) ?_
  refine va_putF (D := D) (ci := 3) (v := .ref q20) (ty := (.array .int)) (C := R_Sb) (T := T_Sb) (N := 11) hx hb ht u_Sb t_Sb t_Sb_ok n_Sb hown hK hP hD hS 0 rfl rfl 2 (by decide) (ht _ wd_204) (fun _ h9 => h9) rfl hnm rfl (by decide +kernel) rfl rfl (Nat.le_of_ble_eq_true rfl) d_Sb_init_22 (fun H locs hP hD hS => ?_)
  have hP : va_P D kcl [(h, .inr (3, [.ref q6, .ref q13, .ref q20, .int (nI 0), .int (nI 0), .int (nI 0), .null, .null, .int (nI 0), .null, .null])), (q6, .inl (cI, 4, .inl (wA (fun _ => 0)))), (q13, .inl (cI, 4, .inl (wA (fun _ => 0)))), (q20, .inl (cI, 4, .inl (wA (fun _ => 0))))] H := hP
  have hD : va_D A [(h, .inr (3, [.ref q6, .ref q13, .ref q20, .int (nI 0), .int (nI 0), .int (nI 0), .null, .null, .int (nI 0), .null, .null])), (q6, .inl (cI, 4, .inl (wA (fun _ => 0)))), (q13, .inl (cI, 4, .inl (wA (fun _ => 0)))), (q20, .inl (cI, 4, .inl (wA (fun _ => 0))))] := hD
  refine lv_aload_n hx hb d_Sb_init_25 rfl (lv_at hl 0 rfl) ?_
  refine lv_iconst (v := nI 0) hx hb d_Sb_init_26 (by decide) ?_
  refine va_put (D := D) (ci := 3) (v := .int (nI 0)) (ty := .int) (C := R_Sb) (T := T_Sb) (N := 11) hx hb ht u_Sb t_Sb t_Sb_ok n_Sb hown hK hP hD hS 0 rfl rfl 3 (by decide) (ht _ wd_205) (fun _ h9 => h9) rfl (by decide +kernel) rfl rfl (Nat.le_of_ble_eq_true rfl) d_Sb_init_27 (fun H locs hP hD hS => ?_)
  have hP : va_P D kcl [(h, .inr (3, [.ref q6, .ref q13, .ref q20, .int (nI 0), .int (nI 0), .int (nI 0), .null, .null, .int (nI 0), .null, .null])), (q6, .inl (cI, 4, .inl (wA (fun _ => 0)))), (q13, .inl (cI, 4, .inl (wA (fun _ => 0)))), (q20, .inl (cI, 4, .inl (wA (fun _ => 0))))] H := hP
  have hD : va_D A [(h, .inr (3, [.ref q6, .ref q13, .ref q20, .int (nI 0), .int (nI 0), .int (nI 0), .null, .null, .int (nI 0), .null, .null])), (q6, .inl (cI, 4, .inl (wA (fun _ => 0)))), (q13, .inl (cI, 4, .inl (wA (fun _ => 0)))), (q20, .inl (cI, 4, .inl (wA (fun _ => 0))))] := hD
  refine lv_aload_n hx hb d_Sb_init_30 rfl (lv_at hl 0 rfl) ?_
  refine lv_iconst (v := nI 1) hx hb d_Sb_init_31 (by decide) ?_
  refine va_put (D := D) (ci := 3) (v := .int (nI 1)) (ty := .int) (C := R_Sb) (T := T_Sb) (N := 11) hx hb ht u_Sb t_Sb t_Sb_ok n_Sb hown hK hP hD hS 0 rfl rfl 4 (by decide) (ht _ wd_206) (fun _ h9 => h9) rfl (by decide +kernel) rfl rfl (Nat.le_of_ble_eq_true rfl) d_Sb_init_32 (fun H locs hP hD hS => ?_)
  have hP : va_P D kcl [(h, .inr (3, [.ref q6, .ref q13, .ref q20, .int (nI 0), .int (nI 1), .int (nI 0), .null, .null, .int (nI 0), .null, .null])), (q6, .inl (cI, 4, .inl (wA (fun _ => 0)))), (q13, .inl (cI, 4, .inl (wA (fun _ => 0)))), (q20, .inl (cI, 4, .inl (wA (fun _ => 0))))] H := hP
  have hD : va_D A [(h, .inr (3, [.ref q6, .ref q13, .ref q20, .int (nI 0), .int (nI 1), .int (nI 0), .null, .null, .int (nI 0), .null, .null])), (q6, .inl (cI, 4, .inl (wA (fun _ => 0)))), (q13, .inl (cI, 4, .inl (wA (fun _ => 0)))), (q20, .inl (cI, 4, .inl (wA (fun _ => 0))))] := hD
  refine lv_aload_n hx hb d_Sb_init_35 rfl (lv_at hl 0 rfl) ?_
  refine lv_iconst (v := nI 0) hx hb d_Sb_init_36 (by decide) ?_
  refine va_put (D := D) (ci := 3) (v := .int (nI 0)) (ty := .int) (C := R_Sb) (T := T_Sb) (N := 11) hx hb ht u_Sb t_Sb t_Sb_ok n_Sb hown hK hP hD hS 0 rfl rfl 5 (by decide) (ht _ wd_207) (fun _ h9 => h9) rfl (by decide +kernel) rfl rfl (Nat.le_of_ble_eq_true rfl) d_Sb_init_37 (fun H locs hP hD hS => ?_)
  have hP : va_P D kcl [(h, .inr (3, [.ref q6, .ref q13, .ref q20, .int (nI 0), .int (nI 1), .int (nI 0), .null, .null, .int (nI 0), .null, .null])), (q6, .inl (cI, 4, .inl (wA (fun _ => 0)))), (q13, .inl (cI, 4, .inl (wA (fun _ => 0)))), (q20, .inl (cI, 4, .inl (wA (fun _ => 0))))] H := hP
  have hD : va_D A [(h, .inr (3, [.ref q6, .ref q13, .ref q20, .int (nI 0), .int (nI 1), .int (nI 0), .null, .null, .int (nI 0), .null, .null])), (q6, .inl (cI, 4, .inl (wA (fun _ => 0)))), (q13, .inl (cI, 4, .inl (wA (fun _ => 0)))), (q20, .inl (cI, 4, .inl (wA (fun _ => 0))))] := hD
  refine lv_aload_n hx hb d_Sb_init_40 rfl (lv_at hl 0 rfl) ?_
  refine lv_sipush (v := nI 1500) hx hb d_Sb_init_41 (by decide) ?_
  refine wi_newa (atype := .int) (a0 := (1500, .inl (wA (fun _ => 0)))) (N' := 1500) hx hb (ht _ wd_45) rfl (by decide) hK hP hD hS hA 0 rfl (fun _ => rfl) (by decide) rfl (by decide) (Nat.le_of_ble_eq_true rfl) (Nat.le_of_ble_eq_true rfl) d_Sb_init_44 (fun q44 H hP hD hS => ?_)
  have hP : va_P D kcl [(h, .inr (3, [.ref q6, .ref q13, .ref q20, .int (nI 0), .int (nI 1), .int (nI 0), .null, .null, .int (nI 0), .null, .null])), (q6, .inl (cI, 4, .inl (wA (fun _ => 0)))), (q13, .inl (cI, 4, .inl (wA (fun _ => 0)))), (q20, .inl (cI, 4, .inl (wA (fun _ => 0)))), (q44, .inl (cI, 1500, .inl (wA (fun _ => 0))))] H := hP
  have hD : va_D A [(h, .inr (3, [.ref q6, .ref q13, .ref q20, .int (nI 0), .int (nI 1), .int (nI 0), .null, .null, .int (nI 0), .null, .null])), (q6, .inl (cI, 4, .inl (wA (fun _ => 0)))), (q13, .inl (cI, 4, .inl (wA (fun _ => 0)))), (q20, .inl (cI, 4, .inl (wA (fun _ => 0)))), (q44, .inl (cI, 1500, .inl (wA (fun _ => 0))))] := hD
  refine W.widen (k := 4) (n := 1512) (by decide) (by decide) ?_
  refine va_putF (D := D) (ci := 3) (v := .ref q44) (ty := (.array .int)) (C := R_Sb) (T := T_Sb) (N := 11) hx hb ht u_Sb t_Sb t_Sb_ok n_Sb hown hK hP hD hS 0 rfl rfl 6 (by decide) (ht _ wd_208) (fun _ h9 => h9) rfl hnm rfl (by decide +kernel) rfl rfl (Nat.le_of_ble_eq_true rfl) d_Sb_init_46 (fun H locs hP hD hS => ?_)
  have hP : va_P D kcl [(h, .inr (3, [.ref q6, .ref q13, .ref q20, .int (nI 0), .int (nI 1), .int (nI 0), .ref q44, .null, .int (nI 0), .null, .null])), (q6, .inl (cI, 4, .inl (wA (fun _ => 0)))), (q13, .inl (cI, 4, .inl (wA (fun _ => 0)))), (q20, .inl (cI, 4, .inl (wA (fun _ => 0)))), (q44, .inl (cI, 1500, .inl (wA (fun _ => 0))))] H := hP
  have hD : va_D A [(h, .inr (3, [.ref q6, .ref q13, .ref q20, .int (nI 0), .int (nI 1), .int (nI 0), .ref q44, .null, .int (nI 0), .null, .null])), (q6, .inl (cI, 4, .inl (wA (fun _ => 0)))), (q13, .inl (cI, 4, .inl (wA (fun _ => 0)))), (q20, .inl (cI, 4, .inl (wA (fun _ => 0)))), (q44, .inl (cI, 1500, .inl (wA (fun _ => 0))))] := hD
  refine lv_aload_n hx hb d_Sb_init_49 rfl (lv_at hl 0 rfl) ?_
  refine lv_sipush (v := nI 1500) hx hb d_Sb_init_50 (by decide) ?_
  refine wi_newa (atype := .int) (a0 := (1500, .inl (wA (fun _ => 0)))) (N' := 1500) hx hb (ht _ wd_45) rfl (by decide) hK hP hD hS hA 0 rfl (fun _ => rfl) (by decide) rfl (by decide) (Nat.le_of_ble_eq_true rfl) (Nat.le_of_ble_eq_true rfl) d_Sb_init_53 (fun q53 H hP hD hS => ?_)
  have hP : va_P D kcl [(h, .inr (3, [.ref q6, .ref q13, .ref q20, .int (nI 0), .int (nI 1), .int (nI 0), .ref q44, .null, .int (nI 0), .null, .null])), (q6, .inl (cI, 4, .inl (wA (fun _ => 0)))), (q13, .inl (cI, 4, .inl (wA (fun _ => 0)))), (q20, .inl (cI, 4, .inl (wA (fun _ => 0)))), (q44, .inl (cI, 1500, .inl (wA (fun _ => 0)))), (q53, .inl (cI, 1500, .inl (wA (fun _ => 0))))] H := hP
  have hD : va_D A [(h, .inr (3, [.ref q6, .ref q13, .ref q20, .int (nI 0), .int (nI 1), .int (nI 0), .ref q44, .null, .int (nI 0), .null, .null])), (q6, .inl (cI, 4, .inl (wA (fun _ => 0)))), (q13, .inl (cI, 4, .inl (wA (fun _ => 0)))), (q20, .inl (cI, 4, .inl (wA (fun _ => 0)))), (q44, .inl (cI, 1500, .inl (wA (fun _ => 0)))), (q53, .inl (cI, 1500, .inl (wA (fun _ => 0))))] := hD
  refine W.widen (k := 5) (n := 3012) (by decide) (by decide) ?_
  refine va_putF (D := D) (ci := 3) (v := .ref q53) (ty := (.array .int)) (C := R_Sb) (T := T_Sb) (N := 11) hx hb ht u_Sb t_Sb t_Sb_ok n_Sb hown hK hP hD hS 0 rfl rfl 7 (by decide) (ht _ wd_209) (fun _ h9 => h9) rfl hnm rfl (by decide +kernel) rfl rfl (Nat.le_of_ble_eq_true rfl) d_Sb_init_55 (fun H locs hP hD hS => ?_)
  have hP : va_P D kcl [(h, .inr (3, [.ref q6, .ref q13, .ref q20, .int (nI 0), .int (nI 1), .int (nI 0), .ref q44, .ref q53, .int (nI 0), .null, .null])), (q6, .inl (cI, 4, .inl (wA (fun _ => 0)))), (q13, .inl (cI, 4, .inl (wA (fun _ => 0)))), (q20, .inl (cI, 4, .inl (wA (fun _ => 0)))), (q44, .inl (cI, 1500, .inl (wA (fun _ => 0)))), (q53, .inl (cI, 1500, .inl (wA (fun _ => 0))))] H := hP
  have hD : va_D A [(h, .inr (3, [.ref q6, .ref q13, .ref q20, .int (nI 0), .int (nI 1), .int (nI 0), .ref q44, .ref q53, .int (nI 0), .null, .null])), (q6, .inl (cI, 4, .inl (wA (fun _ => 0)))), (q13, .inl (cI, 4, .inl (wA (fun _ => 0)))), (q20, .inl (cI, 4, .inl (wA (fun _ => 0)))), (q44, .inl (cI, 1500, .inl (wA (fun _ => 0)))), (q53, .inl (cI, 1500, .inl (wA (fun _ => 0))))] := hD
  refine lv_aload_n hx hb d_Sb_init_58 rfl (lv_at hl 0 rfl) ?_
  refine lv_iconst (v := nI 0) hx hb d_Sb_init_59 (by decide) ?_
  refine va_put (D := D) (ci := 3) (v := .int (nI 0)) (ty := .int) (C := R_Sb) (T := T_Sb) (N := 11) hx hb ht u_Sb t_Sb t_Sb_ok n_Sb hown hK hP hD hS 0 rfl rfl 8 (by decide) (ht _ wd_210) (fun _ h9 => h9) rfl (by decide +kernel) rfl rfl (Nat.le_of_ble_eq_true rfl) d_Sb_init_60 (fun H locs hP hD hS => ?_)
  have hP : va_P D kcl [(h, .inr (3, [.ref q6, .ref q13, .ref q20, .int (nI 0), .int (nI 1), .int (nI 0), .ref q44, .ref q53, .int (nI 0), .null, .null])), (q6, .inl (cI, 4, .inl (wA (fun _ => 0)))), (q13, .inl (cI, 4, .inl (wA (fun _ => 0)))), (q20, .inl (cI, 4, .inl (wA (fun _ => 0)))), (q44, .inl (cI, 1500, .inl (wA (fun _ => 0)))), (q53, .inl (cI, 1500, .inl (wA (fun _ => 0))))] H := hP
  have hD : va_D A [(h, .inr (3, [.ref q6, .ref q13, .ref q20, .int (nI 0), .int (nI 1), .int (nI 0), .ref q44, .ref q53, .int (nI 0), .null, .null])), (q6, .inl (cI, 4, .inl (wA (fun _ => 0)))), (q13, .inl (cI, 4, .inl (wA (fun _ => 0)))), (q20, .inl (cI, 4, .inl (wA (fun _ => 0)))), (q44, .inl (cI, 1500, .inl (wA (fun _ => 0)))), (q53, .inl (cI, 1500, .inl (wA (fun _ => 0))))] := hD
  refine lv_aload_n hx hb d_Sb_init_63 rfl (lv_at hl 0 rfl) ?_
  refine lv_sipush (v := nI 1500) hx hb d_Sb_init_64 (by decide) ?_
  refine wi_newa (atype := .int) (a0 := (1500, .inl (wA (fun _ => 0)))) (N' := 1500) hx hb (ht _ wd_45) rfl (by decide) hK hP hD hS hA 0 rfl (fun _ => rfl) (by decide) rfl (by decide) (Nat.le_of_ble_eq_true rfl) (Nat.le_of_ble_eq_true rfl) d_Sb_init_67 (fun q67 H hP hD hS => ?_)
  have hP : va_P D kcl [(h, .inr (3, [.ref q6, .ref q13, .ref q20, .int (nI 0), .int (nI 1), .int (nI 0), .ref q44, .ref q53, .int (nI 0), .null, .null])), (q6, .inl (cI, 4, .inl (wA (fun _ => 0)))), (q13, .inl (cI, 4, .inl (wA (fun _ => 0)))), (q20, .inl (cI, 4, .inl (wA (fun _ => 0)))), (q44, .inl (cI, 1500, .inl (wA (fun _ => 0)))), (q53, .inl (cI, 1500, .inl (wA (fun _ => 0)))), (q67, .inl (cI, 1500, .inl (wA (fun _ => 0))))] H := hP
  have hD : va_D A [(h, .inr (3, [.ref q6, .ref q13, .ref q20, .int (nI 0), .int (nI 1), .int (nI 0), .ref q44, .ref q53, .int (nI 0), .null, .null])), (q6, .inl (cI, 4, .inl (wA (fun _ => 0)))), (q13, .inl (cI, 4, .inl (wA (fun _ => 0)))), (q20, .inl (cI, 4, .inl (wA (fun _ => 0)))), (q44, .inl (cI, 1500, .inl (wA (fun _ => 0)))), (q53, .inl (cI, 1500, .inl (wA (fun _ => 0)))), (q67, .inl (cI, 1500, .inl (wA (fun _ => 0))))] := hD
  refine W.widen (k := 6) (n := 4512) (by decide) (by decide) ?_
  refine va_putF (D := D) (ci := 3) (v := .ref q67) (ty := (.array .int)) (C := R_Sb) (T := T_Sb) (N := 11) hx hb ht u_Sb t_Sb t_Sb_ok n_Sb hown hK hP hD hS 0 rfl rfl 9 (by decide) (ht _ wd_211) (fun _ h9 => h9) rfl hnm rfl (by decide +kernel) rfl rfl (Nat.le_of_ble_eq_true rfl) d_Sb_init_69 (fun H locs hP hD hS => ?_)
  have hP : va_P D kcl [(h, .inr (3, [.ref q6, .ref q13, .ref q20, .int (nI 0), .int (nI 1), .int (nI 0), .ref q44, .ref q53, .int (nI 0), .ref q67, .null])), (q6, .inl (cI, 4, .inl (wA (fun _ => 0)))), (q13, .inl (cI, 4, .inl (wA (fun _ => 0)))), (q20, .inl (cI, 4, .inl (wA (fun _ => 0)))), (q44, .inl (cI, 1500, .inl (wA (fun _ => 0)))), (q53, .inl (cI, 1500, .inl (wA (fun _ => 0)))), (q67, .inl (cI, 1500, .inl (wA (fun _ => 0))))] H := hP
  have hD : va_D A [(h, .inr (3, [.ref q6, .ref q13, .ref q20, .int (nI 0), .int (nI 1), .int (nI 0), .ref q44, .ref q53, .int (nI 0), .ref q67, .null])), (q6, .inl (cI, 4, .inl (wA (fun _ => 0)))), (q13, .inl (cI, 4, .inl (wA (fun _ => 0)))), (q20, .inl (cI, 4, .inl (wA (fun _ => 0)))), (q44, .inl (cI, 1500, .inl (wA (fun _ => 0)))), (q53, .inl (cI, 1500, .inl (wA (fun _ => 0)))), (q67, .inl (cI, 1500, .inl (wA (fun _ => 0))))] := hD
  refine lv_aload_n hx hb d_Sb_init_72 rfl (lv_at hl 0 rfl) ?_
  refine lv_sipush (v := nI 1500) hx hb d_Sb_init_73 (by decide) ?_
  refine wi_newa (atype := .int) (a0 := (1500, .inl (wA (fun _ => 0)))) (N' := 1500) hx hb (ht _ wd_45) rfl (by decide) hK hP hD hS hA 0 rfl (fun _ => rfl) (by decide) rfl (by decide) (Nat.le_of_ble_eq_true rfl) (Nat.le_of_ble_eq_true rfl) d_Sb_init_76 (fun q76 H hP hD hS => ?_)
  have hP : va_P D kcl [(h, .inr (3, [.ref q6, .ref q13, .ref q20, .int (nI 0), .int (nI 1), .int (nI 0), .ref q44, .ref q53, .int (nI 0), .ref q67, .null])), (q6, .inl (cI, 4, .inl (wA (fun _ => 0)))), (q13, .inl (cI, 4, .inl (wA (fun _ => 0)))), (q20, .inl (cI, 4, .inl (wA (fun _ => 0)))), (q44, .inl (cI, 1500, .inl (wA (fun _ => 0)))), (q53, .inl (cI, 1500, .inl (wA (fun _ => 0)))), (q67, .inl (cI, 1500, .inl (wA (fun _ => 0)))), (q76, .inl (cI, 1500, .inl (wA (fun _ => 0))))] H := hP
  have hD : va_D A [(h, .inr (3, [.ref q6, .ref q13, .ref q20, .int (nI 0), .int (nI 1), .int (nI 0), .ref q44, .ref q53, .int (nI 0), .ref q67, .null])), (q6, .inl (cI, 4, .inl (wA (fun _ => 0)))), (q13, .inl (cI, 4, .inl (wA (fun _ => 0)))), (q20, .inl (cI, 4, .inl (wA (fun _ => 0)))), (q44, .inl (cI, 1500, .inl (wA (fun _ => 0)))), (q53, .inl (cI, 1500, .inl (wA (fun _ => 0)))), (q67, .inl (cI, 1500, .inl (wA (fun _ => 0)))), (q76, .inl (cI, 1500, .inl (wA (fun _ => 0))))] := hD
  refine W.widen (k := 7) (n := 6012) (by decide) (by decide) ?_
  refine va_putF (D := D) (ci := 3) (v := .ref q76) (ty := (.array .int)) (C := R_Sb) (T := T_Sb) (N := 11) hx hb ht u_Sb t_Sb t_Sb_ok n_Sb hown hK hP hD hS 0 rfl rfl 10 (by decide) (ht _ wd_212) (fun _ h9 => h9) rfl hnm rfl (by decide +kernel) rfl rfl (Nat.le_of_ble_eq_true rfl) d_Sb_init_78 (fun H locs hP hD hS => ?_)
  have hP : va_P D kcl [(h, .inr (3, [.ref q6, .ref q13, .ref q20, .int (nI 0), .int (nI 1), .int (nI 0), .ref q44, .ref q53, .int (nI 0), .ref q67, .ref q76])), (q6, .inl (cI, 4, .inl (wA (fun _ => 0)))), (q13, .inl (cI, 4, .inl (wA (fun _ => 0)))), (q20, .inl (cI, 4, .inl (wA (fun _ => 0)))), (q44, .inl (cI, 1500, .inl (wA (fun _ => 0)))), (q53, .inl (cI, 1500, .inl (wA (fun _ => 0)))), (q67, .inl (cI, 1500, .inl (wA (fun _ => 0)))), (q76, .inl (cI, 1500, .inl (wA (fun _ => 0))))] H := hP
  have hD : va_D A [(h, .inr (3, [.ref q6, .ref q13, .ref q20, .int (nI 0), .int (nI 1), .int (nI 0), .ref q44, .ref q53, .int (nI 0), .ref q67, .ref q76])), (q6, .inl (cI, 4, .inl (wA (fun _ => 0)))), (q13, .inl (cI, 4, .inl (wA (fun _ => 0)))), (q20, .inl (cI, 4, .inl (wA (fun _ => 0)))), (q44, .inl (cI, 1500, .inl (wA (fun _ => 0)))), (q53, .inl (cI, 1500, .inl (wA (fun _ => 0)))), (q67, .inl (cI, 1500, .inl (wA (fun _ => 0)))), (q76, .inl (cI, 1500, .inl (wA (fun _ => 0))))] := hD
  exact k_retv hQ hx hb hr hlk hAe hK hP hD hS (Nat.le_of_ble_eq_true rfl) (Nat.le_of_ble_eq_true rfl) (Nat.le_of_ble_eq_true rfl) ⟨q6, q13, q20, q44, q53, q67, q76, rfl⟩ d_Sb_init_81
set_option maxHeartbeats 4000000 in
set_option maxRecDepth 100000 in
theorem c_Sb_takes0 (l : Launch) (Hs : Heap) (D : va_G) (cI cZ cL : ClassId) (h : Nat) (i1 : Nat) (i2 : Nat) (i3 : Nat) (i4 : Nat) (i5 : Nat) (i6 : Nat) (i7 : Nat) (K : Nat) (sc : Nat) (aw : Nat) (uc : Nat) (fi : Nat → Nat) (fs : Nat → Nat) (fw : Nat → Nat) (co : Nat) (a1 : Nat) (a2 : Nat) (a3 : Nat) (a4 : Nat) (n : Nat) (f1 : Nat → Nat) (f2 : Nat → Nat) (hn : n ≤ 10) (hf2 : ∀ t, t < n → 0 < f2 t ∧ f2 t ≤ 40) (htk : ¬ pw_tk f2 n) : kI l Hs D kcl (ty3 cI cZ cL) y_Sb_takes (mws y_Sb_takes b_Sb_takes 4 (Option.some Jvm.ClassFile.FieldType.boolean)) ({ frames := 1, cells := 0, slots := 0, locals := 21 } : Room) [.ref h, .ref co] [(h, .inr (3, [.ref i1, .ref i2, .ref i3, .int (nI K), .int (nI sc), .int (nI aw), .ref i4, .ref i5, .int (nI uc), .ref i6, .ref i7])), (i1, .inl (cI, 4, .inl (wA fi))), (i2, .inl (cI, 4, .inl (wA fs))), (i3, .inl (cI, 4, .inl (wA fw))), (co, .inr (0, [.ref a1, .ref a2, .ref a3, .ref a4, .int (nI n)])), (a1, .inl (cI, 10, .inl (wA f1))), (a2, .inl (cI, 10, .inl (wA f2)))] (fun r w => r = nI 0 ∧ w = [(h, .inr (3, [.ref i1, .ref i2, .ref i3, .int (nI K), .int (nI sc), .int (nI aw), .ref i4, .ref i5, .int (nI uc), .ref i6, .ref i7])), (i1, .inl (cI, 4, .inl (wA fi))), (i2, .inl (cI, 4, .inl (wA fs))), (i3, .inl (cI, 4, .inl (wA fw))), (co, .inr (0, [.ref a1, .ref a2, .ref a3, .ref a4, .int (nI n)])), (a1, .inl (cI, 10, .inl (wA f1))), (a2, .inl (cI, 10, .inl (wA f2)))]) := by
  intro sz
  refine k_of (cc := b_Sb_takes) (maxL := 4) (ret := (Option.some Jvm.ClassFile.FieldType.boolean)) (by decide) rfl (Nat.le_of_ble_eq_true rfl) ?_
  intro p e s m args below meth c ls H locs A Q hQ hx hb hml hr hts hown hlk hnm hsz hAe hP hK hD hS hA hE hAH hl
  have ht : ∀ w ∈ mw, w.before args s = true := fun w h => hts w (List.mem_cons_of_mem _ h)
  have hl : lv_has ls 4 [(0, .ref h), (1, .ref co)] := hl
  refine lv_aload_n hx hb d_Sb_takes_0 rfl (lv_at hl 1 rfl) ?_
  refine ck_i (wc := [(co, .inr (0, [.ref a1, .ref a2, .ref a3, .ref a4, .int (nI n)]))]) (va_runV (As := []) (rest := []) (C := R_Cl) ⟨hx, hb, hml, hown, ht⟩ (c_Cl_count l Hs D cI cZ cL co a1 a2 a3 a4 n  H.size) (gw_V 0 ht wd_149 wd_3 wd_240 wd_147 wd_148 (by decide +kernel) ⟨Nat.le_of_ble_eq_true rfl, Nat.le_of_ble_eq_true rfl⟩) (k_preV hE hAH hK hP hD hS [4] rfl rfl 4 rfl rfl) rfl rfl hl.1 rfl (lv_room (Nat.le_of_ble_eq_true rfl)) d_Sb_takes_1 ⟨Nat.le_of_ble_eq_true rfl, Nat.le_of_ble_eq_true rfl⟩) hP hD hS hA [4] rfl rfl (fun r1 w1 H locs hpost hP hD hS => ?_)
  obtain ⟨rfl, rfl⟩ := hpost
  have hP : va_P D kcl [(h, .inr (3, [.ref i1, .ref i2, .ref i3, .int (nI K), .int (nI sc), .int (nI aw), .ref i4, .ref i5, .int (nI uc), .ref i6, .ref i7])), (i1, .inl (cI, 4, .inl (wA fi))), (i2, .inl (cI, 4, .inl (wA fs))), (i3, .inl (cI, 4, .inl (wA fw))), (co, .inr (0, [.ref a1, .ref a2, .ref a3, .ref a4, .int (nI n)])), (a1, .inl (cI, 10, .inl (wA f1))), (a2, .inl (cI, 10, .inl (wA f2)))] H := hP
  have hD : va_D A [(h, .inr (3, [.ref i1, .ref i2, .ref i3, .int (nI K), .int (nI sc), .int (nI aw), .ref i4, .ref i5, .int (nI uc), .ref i6, .ref i7])), (i1, .inl (cI, 4, .inl (wA fi))), (i2, .inl (cI, 4, .inl (wA fs))), (i3, .inl (cI, 4, .inl (wA fw))), (co, .inr (0, [.ref a1, .ref a2, .ref a3, .ref a4, .int (nI n)])), (a1, .inl (cI, 10, .inl (wA f1))), (a2, .inl (cI, 10, .inl (wA f2)))] := hD
  refine lv_iconst (v := nI 4) hx hb d_Sb_takes_4 (by decide) ?_
  refine wi_le hx hb d_Sb_takes_5 rfl (by omega) (by omega) (fun h5 => ?_) (fun h5 => ?_)
  · refine lv_iconst (v := nI 1) hx hb d_Sb_takes_10 (by decide) ?_
    refine lv_istore_n (lv' := [(2, .int (nI 1)), (0, .ref h), (1, .ref co)]) hx hb d_Sb_takes_11 rfl hl (by decide) rfl (fun ls hl => ?_)
    refine lv_iconst (v := nI 0) hx hb d_Sb_takes_12 (by decide) ?_
    refine lv_istore_n (lv' := [(3, .int (nI 0)), (2, .int (nI 1)), (0, .ref h), (1, .ref co)]) hx hb d_Sb_takes_13 rfl hl (by decide) rfl (fun ls hl => ?_)
    have loop14 : ∀ (d : Nat) (k : Nat) (ls : Array Slot) (H : Heap) (locs : List Loc), n - k = d → (k ≤ n) → lv_has ls 4 [(0, .ref h), (1, .ref co), (2, .int (nI (pw_w f2 k))), (3, .int (nI k))] → va_P D kcl [(h, .inr (3, [.ref i1, .ref i2, .ref i3, .int (nI K), .int (nI sc), .int (nI aw), .ref i4, .ref i5, .int (nI uc), .ref i6, .ref i7])), (i1, .inl (cI, 4, .inl (wA fi))), (i2, .inl (cI, 4, .inl (wA fs))), (i3, .inl (cI, 4, .inl (wA fw))), (co, .inr (0, [.ref a1, .ref a2, .ref a3, .ref a4, .int (nI n)])), (a1, .inl (cI, 10, .inl (wA f1))), (a2, .inl (cI, 10, .inl (wA f2)))] H → va_D A [(h, .inr (3, [.ref i1, .ref i2, .ref i3, .int (nI K), .int (nI sc), .int (nI aw), .ref i4, .ref i5, .int (nI uc), .ref i6, .ref i7])), (i1, .inl (cI, 4, .inl (wA fi))), (i2, .inl (cI, 4, .inl (wA fs))), (i3, .inl (cI, 4, .inl (wA fw))), (co, .inr (0, [.ref a1, .ref a2, .ref a3, .ref a4, .int (nI n)])), (a1, .inl (cI, 10, .inl (wA f1))), (a2, .inl (cI, 10, .inl (wA f2)))] → va_S A s.heap H locs → W p l e ({ frames := 1, cells := 0, slots := 0, locals := 21 } : Room) s m args below meth c H locs 0 0 Q (F0 m 14 ls []) := by
      intro d
      induction d using Nat.strongRecOn with
      | ind d ih14 =>
        intro k ls H locs hd14 hk hl hP hD hS
        refine lv_iload_n hx hb d_Sb_takes_14 rfl (lv_at hl 3 rfl) ?_
        refine lv_aload_n hx hb d_Sb_takes_15 rfl (lv_at hl 1 rfl) ?_
        refine ck_i (wc := [(co, .inr (0, [.ref a1, .ref a2, .ref a3, .ref a4, .int (nI n)]))]) (va_runV (As := []) (rest := [.int (nI k)]) (C := R_Cl) ⟨hx, hb, hml, hown, ht⟩ (c_Cl_count l Hs D cI cZ cL co a1 a2 a3 a4 n  H.size) (gw_V 0 ht wd_149 wd_3 wd_240 wd_147 wd_148 (by decide +kernel) ⟨Nat.le_of_ble_eq_true rfl, Nat.le_of_ble_eq_true rfl⟩) (k_preV hE hAH hK hP hD hS [4] rfl rfl 4 rfl rfl) rfl rfl hl.1 rfl (lv_room (Nat.le_of_ble_eq_true rfl)) d_Sb_takes_16 ⟨Nat.le_of_ble_eq_true rfl, Nat.le_of_ble_eq_true rfl⟩) hP hD hS hA [4] rfl rfl (fun r16 w1 H locs hpost hP hD hS => ?_)
        obtain ⟨rfl, rfl⟩ := hpost
        have hP : va_P D kcl [(h, .inr (3, [.ref i1, .ref i2, .ref i3, .int (nI K), .int (nI sc), .int (nI aw), .ref i4, .ref i5, .int (nI uc), .ref i6, .ref i7])), (i1, .inl (cI, 4, .inl (wA fi))), (i2, .inl (cI, 4, .inl (wA fs))), (i3, .inl (cI, 4, .inl (wA fw))), (co, .inr (0, [.ref a1, .ref a2, .ref a3, .ref a4, .int (nI n)])), (a1, .inl (cI, 10, .inl (wA f1))), (a2, .inl (cI, 10, .inl (wA f2)))] H := hP
        have hD : va_D A [(h, .inr (3, [.ref i1, .ref i2, .ref i3, .int (nI K), .int (nI sc), .int (nI aw), .ref i4, .ref i5, .int (nI uc), .ref i6, .ref i7])), (i1, .inl (cI, 4, .inl (wA fi))), (i2, .inl (cI, 4, .inl (wA fs))), (i3, .inl (cI, 4, .inl (wA fw))), (co, .inr (0, [.ref a1, .ref a2, .ref a3, .ref a4, .int (nI n)])), (a1, .inl (cI, 10, .inl (wA f1))), (a2, .inl (cI, 10, .inl (wA f2)))] := hD
        refine wi_ge hx hb d_Sb_takes_19 rfl (by omega) (by omega) (fun h19 => ?_) (fun h19 => ?_)
        · obtain rfl : n = k := by omega
          have hw40 := pw_w_40 h5 (Nat.le_refl n) fun t h9 => (hf2 t h9).2
          refine lv_iload_n hx hb d_Sb_takes_36 rfl (lv_at hl 2 rfl) ?_
          refine lv_sipush (v := nI 1500) hx hb d_Sb_takes_37 (by decide) ?_
          refine wi_le hx hb d_Sb_takes_40 rfl (by omega) (by omega) (fun h40 => ?_) (fun h40 => ?_)
          · exact absurd ⟨h5, h40⟩ htk
          · refine lv_iconst (v := nI 0) hx hb d_Sb_takes_43 (by decide) ?_
            exact k_retz hQ hx hb hr hlk hAe hK hP hD hS (Nat.le_of_ble_eq_true rfl) (Nat.le_of_ble_eq_true rfl) (Nat.le_of_ble_eq_true rfl) rfl ⟨rfl, rfl⟩ d_Sb_takes_44
        · refine lv_iload_n hx hb d_Sb_takes_22 rfl (lv_at hl 2 rfl) ?_
          refine lv_aload_n hx hb d_Sb_takes_23 rfl (lv_at hl 1 rfl) ?_
          refine lv_iload_n hx hb d_Sb_takes_24 rfl (lv_at hl 3 rfl) ?_
          refine ck_i (wc := [(co, .inr (0, [.ref a1, .ref a2, .ref a3, .ref a4, .int (nI n)])), (a2, .inl (cI, 10, .inl (wA f2)))]) (va_runV (As := [.int (nI k)]) (rest := [.int (nI (pw_w f2 k))]) (C := R_Cl) ⟨hx, hb, hml, hown, ht⟩ (c_Cl_spanAt l Hs D cI cZ cL co a1 a2 a3 a4 n f2 k (by omega) H.size) (gw_V 1 ht wd_153 wd_3 wd_241 wd_151 wd_152 (by decide +kernel) ⟨Nat.le_of_ble_eq_true rfl, Nat.le_of_ble_eq_true rfl⟩) (k_preV hE hAH hK hP hD hS [4, 6] rfl rfl 4 rfl rfl) rfl rfl hl.1 rfl (lv_room (Nat.le_of_ble_eq_true rfl)) d_Sb_takes_25 ⟨Nat.le_of_ble_eq_true rfl, Nat.le_of_ble_eq_true rfl⟩) hP hD hS hA [4, 6] rfl rfl (fun r25 w1 H locs hpost hP hD hS => ?_)
          obtain ⟨rfl, rfl⟩ := hpost
          have hP : va_P D kcl [(h, .inr (3, [.ref i1, .ref i2, .ref i3, .int (nI K), .int (nI sc), .int (nI aw), .ref i4, .ref i5, .int (nI uc), .ref i6, .ref i7])), (i1, .inl (cI, 4, .inl (wA fi))), (i2, .inl (cI, 4, .inl (wA fs))), (i3, .inl (cI, 4, .inl (wA fw))), (co, .inr (0, [.ref a1, .ref a2, .ref a3, .ref a4, .int (nI n)])), (a1, .inl (cI, 10, .inl (wA f1))), (a2, .inl (cI, 10, .inl (wA f2)))] H := hP
          have hD : va_D A [(h, .inr (3, [.ref i1, .ref i2, .ref i3, .int (nI K), .int (nI sc), .int (nI aw), .ref i4, .ref i5, .int (nI uc), .ref i6, .ref i7])), (i1, .inl (cI, 4, .inl (wA fi))), (i2, .inl (cI, 4, .inl (wA fs))), (i3, .inl (cI, 4, .inl (wA fw))), (co, .inr (0, [.ref a1, .ref a2, .ref a3, .ref a4, .int (nI n)])), (a1, .inl (cI, 10, .inl (wA f1))), (a2, .inl (cI, 10, .inl (wA f2)))] := hD
          refine wi_mul hx hb d_Sb_takes_28 ?_
          refine lv_istore_n (lv' := [(2, .int (nI ((pw_w f2 k) * (f2 k)))), (0, .ref h), (1, .ref co), (3, .int (nI k))]) hx hb d_Sb_takes_29 rfl hl (by decide) rfl (fun ls hl => ?_)
          refine wi_inc (k := 3) (lv' := [(3, .int (nI (k + 1))), (2, .int (nI ((pw_w f2 k) * (f2 k)))), (0, .ref h), (1, .ref co)]) hx hb d_Sb_takes_30 hl rfl (by decide) rfl (fun ls hl => ?_)
          refine lv_goto hx hb d_Sb_takes_33 rfl ?_
          exact ih14 (n - (k + 1)) (by omega) (k + 1) ls H locs rfl (by omega) (lv_sub hl [2, 3, 1, 0] rfl) hP hD hS
    exact loop14 _ (0) ls H locs rfl (Nat.zero_le _) (lv_sub hl [2, 3, 1, 0] rfl) hP hD hS
  · refine lv_iconst (v := nI 0) hx hb d_Sb_takes_8 (by decide) ?_
    exact k_retz hQ hx hb hr hlk hAe hK hP hD hS (Nat.le_of_ble_eq_true rfl) (Nat.le_of_ble_eq_true rfl) (Nat.le_of_ble_eq_true rfl) rfl ⟨rfl, rfl⟩ d_Sb_takes_9
set_option maxHeartbeats 4000000 in
set_option maxRecDepth 100000 in
theorem c_Sb_takes1 (l : Launch) (Hs : Heap) (D : va_G) (cI cZ cL : ClassId) (h : Nat) (i1 : Nat) (i2 : Nat) (i3 : Nat) (i4 : Nat) (i5 : Nat) (i6 : Nat) (i7 : Nat) (K : Nat) (sc : Nat) (aw : Nat) (uc : Nat) (fi : Nat → Nat) (fs : Nat → Nat) (fw : Nat → Nat) (co : Nat) (a1 : Nat) (a2 : Nat) (a3 : Nat) (a4 : Nat) (n : Nat) (f1 : Nat → Nat) (f2 : Nat → Nat) (hn1 : 1 ≤ n) (hf2 : ∀ t, t < n → 0 < f2 t ∧ f2 t ≤ 40) (htk : pw_tk f2 n) : kI l Hs D kcl (ty3 cI cZ cL) y_Sb_takes (mws y_Sb_takes b_Sb_takes 4 (Option.some Jvm.ClassFile.FieldType.boolean)) ({ frames := 2, cells := 0, slots := 0, locals := 44 } : Room) [.ref h, .ref co] [(h, .inr (3, [.ref i1, .ref i2, .ref i3, .int (nI K), .int (nI sc), .int (nI aw), .ref i4, .ref i5, .int (nI uc), .ref i6, .ref i7])), (i1, .inl (cI, 4, .inl (wA fi))), (i2, .inl (cI, 4, .inl (wA fs))), (i3, .inl (cI, 4, .inl (wA fw))), (co, .inr (0, [.ref a1, .ref a2, .ref a3, .ref a4, .int (nI n)])), (a1, .inl (cI, 10, .inl (wA f1))), (a2, .inl (cI, 10, .inl (wA f2)))] (fun r w => ∃ (gi : Nat → Nat), ∃ (gs : Nat → Nat), ∃ (gw : Nat → Nat), ∃ (aw2 : Nat), (sb_ok n gs gw (pw_w f2 n) aw2) ∧ (∀ i, i < n → gi i = pw_oi f1 f2 n i) ∧ (∀ i, i < n → gs i = pw_os f2 n i) ∧ r = nI 1 ∧ w = [(h, .inr (3, [.ref i1, .ref i2, .ref i3, .int (nI n), .int (nI (pw_w f2 n)), .int (nI aw2), .ref i4, .ref i5, .int (nI uc), .ref i6, .ref i7])), (i1, .inl (cI, 4, .inl (wA gi))), (i2, .inl (cI, 4, .inl (wA gs))), (i3, .inl (cI, 4, .inl (wA gw))), (co, .inr (0, [.ref a1, .ref a2, .ref a3, .ref a4, .int (nI n)])), (a1, .inl (cI, 10, .inl (wA f1))), (a2, .inl (cI, 10, .inl (wA f2)))]) := by
  intro sz
  refine k_of (cc := b_Sb_takes) (maxL := 4) (ret := (Option.some Jvm.ClassFile.FieldType.boolean)) (by decide) rfl (Nat.le_of_ble_eq_true rfl) ?_
  intro p e s m args below meth c ls H locs A Q hQ hx hb hml hr hts hown hlk hnm hsz hAe hP hK hD hS hA hE hAH hl
  have ht : ∀ w ∈ mw, w.before args s = true := fun w h => hts w (List.mem_cons_of_mem _ h)
  have hl : lv_has ls 4 [(0, .ref h), (1, .ref co)] := hl
  have hn4 := htk.1
  refine lv_aload_n hx hb d_Sb_takes_0 rfl (lv_at hl 1 rfl) ?_
  refine ck_i (wc := [(co, .inr (0, [.ref a1, .ref a2, .ref a3, .ref a4, .int (nI n)]))]) (va_runV (As := []) (rest := []) (C := R_Cl) ⟨hx, hb, hml, hown, ht⟩ (c_Cl_count l Hs D cI cZ cL co a1 a2 a3 a4 n  H.size) (gw_V 0 ht wd_149 wd_3 wd_240 wd_147 wd_148 (by decide +kernel) ⟨Nat.le_of_ble_eq_true rfl, Nat.le_of_ble_eq_true rfl⟩) (k_preV hE hAH hK hP hD hS [4] rfl rfl 4 rfl rfl) rfl rfl hl.1 rfl (lv_room (Nat.le_of_ble_eq_true rfl)) d_Sb_takes_1 ⟨Nat.le_of_ble_eq_true rfl, Nat.le_of_ble_eq_true rfl⟩) hP hD hS hA [4] rfl rfl (fun r1 w1 H locs hpost hP hD hS => ?_)
  obtain ⟨rfl, rfl⟩ := hpost
  have hP : va_P D kcl [(h, .inr (3, [.ref i1, .ref i2, .ref i3, .int (nI K), .int (nI sc), .int (nI aw), .ref i4, .ref i5, .int (nI uc), .ref i6, .ref i7])), (i1, .inl (cI, 4, .inl (wA fi))), (i2, .inl (cI, 4, .inl (wA fs))), (i3, .inl (cI, 4, .inl (wA fw))), (co, .inr (0, [.ref a1, .ref a2, .ref a3, .ref a4, .int (nI n)])), (a1, .inl (cI, 10, .inl (wA f1))), (a2, .inl (cI, 10, .inl (wA f2)))] H := hP
  have hD : va_D A [(h, .inr (3, [.ref i1, .ref i2, .ref i3, .int (nI K), .int (nI sc), .int (nI aw), .ref i4, .ref i5, .int (nI uc), .ref i6, .ref i7])), (i1, .inl (cI, 4, .inl (wA fi))), (i2, .inl (cI, 4, .inl (wA fs))), (i3, .inl (cI, 4, .inl (wA fw))), (co, .inr (0, [.ref a1, .ref a2, .ref a3, .ref a4, .int (nI n)])), (a1, .inl (cI, 10, .inl (wA f1))), (a2, .inl (cI, 10, .inl (wA f2)))] := hD
  refine lv_iconst (v := nI 4) hx hb d_Sb_takes_4 (by decide) ?_
  refine wi_le hx hb d_Sb_takes_5 rfl (by omega) (by omega) (fun h5 => ?_) (fun h5 => ?_)
  · refine lv_iconst (v := nI 1) hx hb d_Sb_takes_10 (by decide) ?_
    refine lv_istore_n (lv' := [(2, .int (nI 1)), (0, .ref h), (1, .ref co)]) hx hb d_Sb_takes_11 rfl hl (by decide) rfl (fun ls hl => ?_)
    refine lv_iconst (v := nI 0) hx hb d_Sb_takes_12 (by decide) ?_
    refine lv_istore_n (lv' := [(3, .int (nI 0)), (2, .int (nI 1)), (0, .ref h), (1, .ref co)]) hx hb d_Sb_takes_13 rfl hl (by decide) rfl (fun ls hl => ?_)
    have loop14 : ∀ (d : Nat) (k : Nat) (ls : Array Slot) (H : Heap) (locs : List Loc), n - k = d → (k ≤ n) → lv_has ls 4 [(0, .ref h), (1, .ref co), (2, .int (nI (pw_w f2 k))), (3, .int (nI k))] → va_P D kcl [(h, .inr (3, [.ref i1, .ref i2, .ref i3, .int (nI K), .int (nI sc), .int (nI aw), .ref i4, .ref i5, .int (nI uc), .ref i6, .ref i7])), (i1, .inl (cI, 4, .inl (wA fi))), (i2, .inl (cI, 4, .inl (wA fs))), (i3, .inl (cI, 4, .inl (wA fw))), (co, .inr (0, [.ref a1, .ref a2, .ref a3, .ref a4, .int (nI n)])), (a1, .inl (cI, 10, .inl (wA f1))), (a2, .inl (cI, 10, .inl (wA f2)))] H → va_D A [(h, .inr (3, [.ref i1, .ref i2, .ref i3, .int (nI K), .int (nI sc), .int (nI aw), .ref i4, .ref i5, .int (nI uc), .ref i6, .ref i7])), (i1, .inl (cI, 4, .inl (wA fi))), (i2, .inl (cI, 4, .inl (wA fs))), (i3, .inl (cI, 4, .inl (wA fw))), (co, .inr (0, [.ref a1, .ref a2, .ref a3, .ref a4, .int (nI n)])), (a1, .inl (cI, 10, .inl (wA f1))), (a2, .inl (cI, 10, .inl (wA f2)))] → va_S A s.heap H locs → W p l e ({ frames := 2, cells := 0, slots := 0, locals := 44 } : Room) s m args below meth c H locs 0 0 Q (F0 m 14 ls []) := by
      intro d
      induction d using Nat.strongRecOn with
      | ind d ih14 =>
        intro k ls H locs hd14 hk hl hP hD hS
        refine lv_iload_n hx hb d_Sb_takes_14 rfl (lv_at hl 3 rfl) ?_
        refine lv_aload_n hx hb d_Sb_takes_15 rfl (lv_at hl 1 rfl) ?_
        refine ck_i (wc := [(co, .inr (0, [.ref a1, .ref a2, .ref a3, .ref a4, .int (nI n)]))]) (va_runV (As := []) (rest := [.int (nI k)]) (C := R_Cl) ⟨hx, hb, hml, hown, ht⟩ (c_Cl_count l Hs D cI cZ cL co a1 a2 a3 a4 n  H.size) (gw_V 0 ht wd_149 wd_3 wd_240 wd_147 wd_148 (by decide +kernel) ⟨Nat.le_of_ble_eq_true rfl, Nat.le_of_ble_eq_true rfl⟩) (k_preV hE hAH hK hP hD hS [4] rfl rfl 4 rfl rfl) rfl rfl hl.1 rfl (lv_room (Nat.le_of_ble_eq_true rfl)) d_Sb_takes_16 ⟨Nat.le_of_ble_eq_true rfl, Nat.le_of_ble_eq_true rfl⟩) hP hD hS hA [4] rfl rfl (fun r16 w1 H locs hpost hP hD hS => ?_)
        obtain ⟨rfl, rfl⟩ := hpost
        have hP : va_P D kcl [(h, .inr (3, [.ref i1, .ref i2, .ref i3, .int (nI K), .int (nI sc), .int (nI aw), .ref i4, .ref i5, .int (nI uc), .ref i6, .ref i7])), (i1, .inl (cI, 4, .inl (wA fi))), (i2, .inl (cI, 4, .inl (wA fs))), (i3, .inl (cI, 4, .inl (wA fw))), (co, .inr (0, [.ref a1, .ref a2, .ref a3, .ref a4, .int (nI n)])), (a1, .inl (cI, 10, .inl (wA f1))), (a2, .inl (cI, 10, .inl (wA f2)))] H := hP
        have hD : va_D A [(h, .inr (3, [.ref i1, .ref i2, .ref i3, .int (nI K), .int (nI sc), .int (nI aw), .ref i4, .ref i5, .int (nI uc), .ref i6, .ref i7])), (i1, .inl (cI, 4, .inl (wA fi))), (i2, .inl (cI, 4, .inl (wA fs))), (i3, .inl (cI, 4, .inl (wA fw))), (co, .inr (0, [.ref a1, .ref a2, .ref a3, .ref a4, .int (nI n)])), (a1, .inl (cI, 10, .inl (wA f1))), (a2, .inl (cI, 10, .inl (wA f2)))] := hD
        refine wi_ge hx hb d_Sb_takes_19 rfl (by omega) (by omega) (fun h19 => ?_) (fun h19 => ?_)
        · obtain rfl : n = k := by omega
          have hw40 := pw_w_40 htk.1 (Nat.le_refl n) fun t h9 => (hf2 t h9).2
          refine lv_iload_n hx hb d_Sb_takes_36 rfl (lv_at hl 2 rfl) ?_
          refine lv_sipush (v := nI 1500) hx hb d_Sb_takes_37 (by decide) ?_
          refine wi_le hx hb d_Sb_takes_40 rfl (by omega) (by omega) (fun h40 => ?_) (fun h40 => ?_)
          · refine lv_aload_n hx hb d_Sb_takes_45 rfl (lv_at hl 0 rfl) ?_
            refine lv_iload_n hx hb d_Sb_takes_46 rfl (lv_at hl 2 rfl) ?_
            refine va_put (D := D) (ci := 3) (v := .int (nI (pw_w f2 n))) (ty := .int) (C := R_Sb) (T := T_Sb) (N := 11) hx hb ht u_Sb t_Sb t_Sb_ok n_Sb hown hK hP hD hS 0 rfl rfl 4 (by decide) (ht _ wd_206) (fun _ h9 => h9) rfl (by decide +kernel) rfl rfl (Nat.le_of_ble_eq_true rfl) d_Sb_takes_47 (fun H locs hP hD hS => ?_)
            have hP : va_P D kcl [(h, .inr (3, [.ref i1, .ref i2, .ref i3, .int (nI K), .int (nI (pw_w f2 n)), .int (nI aw), .ref i4, .ref i5, .int (nI uc), .ref i6, .ref i7])), (i1, .inl (cI, 4, .inl (wA fi))), (i2, .inl (cI, 4, .inl (wA fs))), (i3, .inl (cI, 4, .inl (wA fw))), (co, .inr (0, [.ref a1, .ref a2, .ref a3, .ref a4, .int (nI n)])), (a1, .inl (cI, 10, .inl (wA f1))), (a2, .inl (cI, 10, .inl (wA f2)))] H := hP
            have hD : va_D A [(h, .inr (3, [.ref i1, .ref i2, .ref i3, .int (nI K), .int (nI (pw_w f2 n)), .int (nI aw), .ref i4, .ref i5, .int (nI uc), .ref i6, .ref i7])), (i1, .inl (cI, 4, .inl (wA fi))), (i2, .inl (cI, 4, .inl (wA fs))), (i3, .inl (cI, 4, .inl (wA fw))), (co, .inr (0, [.ref a1, .ref a2, .ref a3, .ref a4, .int (nI n)])), (a1, .inl (cI, 10, .inl (wA f1))), (a2, .inl (cI, 10, .inl (wA f2)))] := hD
            refine lv_aload_n hx hb d_Sb_takes_50 rfl (lv_at hl 0 rfl) ?_
            refine lv_aload_n hx hb d_Sb_takes_51 rfl (lv_at hl 1 rfl) ?_
            refine ck_v (wc := [(h, .inr (3, [.ref i1, .ref i2, .ref i3, .int (nI K), .int (nI (pw_w f2 n)), .int (nI aw), .ref i4, .ref i5, .int (nI uc), .ref i6, .ref i7])), (i1, .inl (cI, 4, .inl (wA fi))), (i2, .inl (cI, 4, .inl (wA fs))), (co, .inr (0, [.ref a1, .ref a2, .ref a3, .ref a4, .int (nI n)])), (a1, .inl (cI, 10, .inl (wA f1))), (a2, .inl (cI, 10, .inl (wA f2)))]) (va_runV (As := [.ref co]) (rest := []) (C := R_Sb) ⟨hx, hb, hml, hown, ht⟩ (c_Sb_takeInOrder l Hs D cI cZ cL h i1 i2 i3 i4 i5 i6 i7 K (pw_w f2 n) aw uc fi fs co a1 a2 a3 a4 n f1 f2 htk.1 (fun t h9 => (hf2 t h9).2) H.size) (gw_V 1 ht wd_245 wd_25 wd_242 wd_244 ws_6 (by decide +kernel) ⟨Nat.le_of_ble_eq_true rfl, Nat.le_of_ble_eq_true rfl⟩) (k_preV hE hAH hK hP hD hS [0, 1, 2, 4, 5, 6] rfl rfl 0 rfl rfl) rfl rfl hl.1 rfl (lv_room (Nat.le_of_ble_eq_true rfl)) d_Sb_takes_52 ⟨Nat.le_of_ble_eq_true rfl, Nat.le_of_ble_eq_true rfl⟩) hP hD hS hA [0, 1, 2, 4, 5, 6] rfl rfl (fun w1 H locs hpost hP hD hS => ?_)
            obtain ⟨gi, gs, hgi, hgs, rfl⟩ := hpost
            have hP : va_P D kcl [(h, .inr (3, [.ref i1, .ref i2, .ref i3, .int (nI n), .int (nI (pw_w f2 n)), .int (nI aw), .ref i4, .ref i5, .int (nI uc), .ref i6, .ref i7])), (i1, .inl (cI, 4, .inl (wA gi))), (i2, .inl (cI, 4, .inl (wA gs))), (i3, .inl (cI, 4, .inl (wA fw))), (co, .inr (0, [.ref a1, .ref a2, .ref a3, .ref a4, .int (nI n)])), (a1, .inl (cI, 10, .inl (wA f1))), (a2, .inl (cI, 10, .inl (wA f2)))] H := hP
            have hD : va_D A [(h, .inr (3, [.ref i1, .ref i2, .ref i3, .int (nI n), .int (nI (pw_w f2 n)), .int (nI aw), .ref i4, .ref i5, .int (nI uc), .ref i6, .ref i7])), (i1, .inl (cI, 4, .inl (wA gi))), (i2, .inl (cI, 4, .inl (wA gs))), (i3, .inl (cI, 4, .inl (wA fw))), (co, .inr (0, [.ref a1, .ref a2, .ref a3, .ref a4, .int (nI n)])), (a1, .inl (cI, 10, .inl (wA f1))), (a2, .inl (cI, 10, .inl (wA f2)))] := hD
            refine lv_aload_n hx hb d_Sb_takes_55 rfl (lv_at hl 0 rfl) ?_
            refine ck_v (wc := [(h, .inr (3, [.ref i1, .ref i2, .ref i3, .int (nI n), .int (nI (pw_w f2 n)), .int (nI aw), .ref i4, .ref i5, .int (nI uc), .ref i6, .ref i7])), (i2, .inl (cI, 4, .inl (wA gs))), (i3, .inl (cI, 4, .inl (wA fw)))]) (va_runV (As := []) (rest := []) (C := R_Sb) ⟨hx, hb, hml, hown, ht⟩ (c_Sb_weigh l Hs D cI cZ cL h i1 i2 i3 i4 i5 i6 i7 n (pw_w f2 n) aw uc gs fw htk.1 (fun k h9 => by rw [hgs k h9]; exact hf2 _ (pw_srt_get h9)) H.size) (gw_V 0 ht wd_250 wd_25 wd_247 wd_249 ws_7 (by decide +kernel) ⟨Nat.le_of_ble_eq_true rfl, Nat.le_of_ble_eq_true rfl⟩) (k_preV hE hAH hK hP hD hS [0, 2, 3] rfl rfl 0 rfl rfl) rfl rfl hl.1 rfl (lv_room (Nat.le_of_ble_eq_true rfl)) d_Sb_takes_56 ⟨Nat.le_of_ble_eq_true rfl, Nat.le_of_ble_eq_true rfl⟩) hP hD hS hA [0, 2, 3] rfl rfl (fun w1 H locs hpost hP hD hS => ?_)
            obtain ⟨gw, hgw, rfl⟩ := hpost
            have hP : va_P D kcl [(h, .inr (3, [.ref i1, .ref i2, .ref i3, .int (nI n), .int (nI (pw_w f2 n)), .int (nI (pw_sw gs n)), .ref i4, .ref i5, .int (nI uc), .ref i6, .ref i7])), (i1, .inl (cI, 4, .inl (wA gi))), (i2, .inl (cI, 4, .inl (wA gs))), (i3, .inl (cI, 4, .inl (wA gw))), (co, .inr (0, [.ref a1, .ref a2, .ref a3, .ref a4, .int (nI n)])), (a1, .inl (cI, 10, .inl (wA f1))), (a2, .inl (cI, 10, .inl (wA f2)))] H := hP
            have hD : va_D A [(h, .inr (3, [.ref i1, .ref i2, .ref i3, .int (nI n), .int (nI (pw_w f2 n)), .int (nI (pw_sw gs n)), .ref i4, .ref i5, .int (nI uc), .ref i6, .ref i7])), (i1, .inl (cI, 4, .inl (wA gi))), (i2, .inl (cI, 4, .inl (wA gs))), (i3, .inl (cI, 4, .inl (wA gw))), (co, .inr (0, [.ref a1, .ref a2, .ref a3, .ref a4, .int (nI n)])), (a1, .inl (cI, 10, .inl (wA f1))), (a2, .inl (cI, 10, .inl (wA f2)))] := hD
            refine lv_iconst (v := nI 1) hx hb d_Sb_takes_59 (by decide) ?_
            exact k_retz hQ hx hb hr hlk hAe hK hP hD hS (Nat.le_of_ble_eq_true rfl) (Nat.le_of_ble_eq_true rfl) (Nat.le_of_ble_eq_true rfl) rfl ⟨gi, gs, gw, pw_sw gs n, sb_ok_of (id := f1) hn1 htk hf2 hgs hgw, hgi, hgs, rfl, rfl⟩ d_Sb_takes_60
          · have := htk.2; exfalso; omega
        · refine lv_iload_n hx hb d_Sb_takes_22 rfl (lv_at hl 2 rfl) ?_
          refine lv_aload_n hx hb d_Sb_takes_23 rfl (lv_at hl 1 rfl) ?_
          refine lv_iload_n hx hb d_Sb_takes_24 rfl (lv_at hl 3 rfl) ?_
          refine ck_i (wc := [(co, .inr (0, [.ref a1, .ref a2, .ref a3, .ref a4, .int (nI n)])), (a2, .inl (cI, 10, .inl (wA f2)))]) (va_runV (As := [.int (nI k)]) (rest := [.int (nI (pw_w f2 k))]) (C := R_Cl) ⟨hx, hb, hml, hown, ht⟩ (c_Cl_spanAt l Hs D cI cZ cL co a1 a2 a3 a4 n f2 k (by omega) H.size) (gw_V 1 ht wd_153 wd_3 wd_241 wd_151 wd_152 (by decide +kernel) ⟨Nat.le_of_ble_eq_true rfl, Nat.le_of_ble_eq_true rfl⟩) (k_preV hE hAH hK hP hD hS [4, 6] rfl rfl 4 rfl rfl) rfl rfl hl.1 rfl (lv_room (Nat.le_of_ble_eq_true rfl)) d_Sb_takes_25 ⟨Nat.le_of_ble_eq_true rfl, Nat.le_of_ble_eq_true rfl⟩) hP hD hS hA [4, 6] rfl rfl (fun r25 w1 H locs hpost hP hD hS => ?_)
          obtain ⟨rfl, rfl⟩ := hpost
          have hP : va_P D kcl [(h, .inr (3, [.ref i1, .ref i2, .ref i3, .int (nI K), .int (nI sc), .int (nI aw), .ref i4, .ref i5, .int (nI uc), .ref i6, .ref i7])), (i1, .inl (cI, 4, .inl (wA fi))), (i2, .inl (cI, 4, .inl (wA fs))), (i3, .inl (cI, 4, .inl (wA fw))), (co, .inr (0, [.ref a1, .ref a2, .ref a3, .ref a4, .int (nI n)])), (a1, .inl (cI, 10, .inl (wA f1))), (a2, .inl (cI, 10, .inl (wA f2)))] H := hP
          have hD : va_D A [(h, .inr (3, [.ref i1, .ref i2, .ref i3, .int (nI K), .int (nI sc), .int (nI aw), .ref i4, .ref i5, .int (nI uc), .ref i6, .ref i7])), (i1, .inl (cI, 4, .inl (wA fi))), (i2, .inl (cI, 4, .inl (wA fs))), (i3, .inl (cI, 4, .inl (wA fw))), (co, .inr (0, [.ref a1, .ref a2, .ref a3, .ref a4, .int (nI n)])), (a1, .inl (cI, 10, .inl (wA f1))), (a2, .inl (cI, 10, .inl (wA f2)))] := hD
          refine wi_mul hx hb d_Sb_takes_28 ?_
          refine lv_istore_n (lv' := [(2, .int (nI ((pw_w f2 k) * (f2 k)))), (0, .ref h), (1, .ref co), (3, .int (nI k))]) hx hb d_Sb_takes_29 rfl hl (by decide) rfl (fun ls hl => ?_)
          refine wi_inc (k := 3) (lv' := [(3, .int (nI (k + 1))), (2, .int (nI ((pw_w f2 k) * (f2 k)))), (0, .ref h), (1, .ref co)]) hx hb d_Sb_takes_30 hl rfl (by decide) rfl (fun ls hl => ?_)
          refine lv_goto hx hb d_Sb_takes_33 rfl ?_
          exact ih14 (n - (k + 1)) (by omega) (k + 1) ls H locs rfl (by omega) (lv_sub hl [2, 3, 1, 0] rfl) hP hD hS
    exact loop14 _ (0) ls H locs rfl (Nat.zero_le _) (lv_sub hl [2, 3, 1, 0] rfl) hP hD hS
  · exfalso; omega
set_option maxHeartbeats 4000000 in
set_option maxRecDepth 100000 in
theorem c_Sb_lay0 (l : Launch) (Hs : Heap) (D : va_G) (cI cZ cL : ClassId) (h : Nat) (i1 : Nat) (i2 : Nat) (i3 : Nat) (i4 : Nat) (i5 : Nat) (i6 : Nat) (i7 : Nat) (K : Nat) (sc : Nat) (aw : Nat) (uc : Nat) (fi : Nat → Nat) (fs : Nat → Nat) (fw : Nat → Nat) (fy : Nat → Nat) (fu : Nat → Nat) (ft : Nat → Nat) (sv : Nat → Nat) (co : Nat) (a1 : Nat) (a2 : Nat) (a3 : Nat) (a4 : Nat) (n : Nat) (f1 : Nat → Nat) (f2 : Nat → Nat) (cy : Nat) (p0 : Nat) (M : Nat) (f : Nat → Nat) (L : Nat) (bu : Nat) (hn : n ≤ 10) (hn1 : 1 ≤ n) (hf2 : ∀ t, t < n → 0 < f2 t ∧ f2 t ≤ 40) (hno : ¬ (pw_tk f2 n ∧ pw_sf f2 n)) : kI l Hs D kcl (ty3 cI cZ cL) y_Sb_lay (mws y_Sb_lay b_Sb_lay 6 (Option.some Jvm.ClassFile.FieldType.boolean)) ({ frames := 4, cells := 0, slots := 0, locals := 91 } : Room) [.ref h, .ref co, .ref cy] [(h, .inr (3, [.ref i1, .ref i2, .ref i3, .int (nI K), .int (nI sc), .int (nI aw), .ref i4, .ref i5, .int (nI uc), .ref i6, .ref i7])), (i1, .inl (cI, 4, .inl (wA fi))), (i2, .inl (cI, 4, .inl (wA fs))), (i3, .inl (cI, 4, .inl (wA fw))), (i4, .inl (cI, 1500, .inl (wA fy))), (i5, .inl (cI, 1500, .inl (wA fu))), (i6, .inl (cI, 1500, .inl (wT ft))), (i7, .inl (cI, 1500, .inl (wA sv))), (co, .inr (0, [.ref a1, .ref a2, .ref a3, .ref a4, .int (nI n)])), (a1, .inl (cI, 10, .inl (wA f1))), (a2, .inl (cI, 10, .inl (wA f2))), (cy, .inr (1, [.ref p0, .int (nI L), .int (nI bu)])), (p0, .inl (cI, M, .inl (wA f)))] (fun r w => ∃ (gi : Nat → Nat), ∃ (gs : Nat → Nat), ∃ (gw : Nat → Nat), ∃ (gy : Nat → Nat), ∃ (gu : Nat → Nat), ∃ (gt : Nat → Nat), ∃ (gv : Nat → Nat), ∃ (K2 : Nat), ∃ (sc2 : Nat), ∃ (aw2 : Nat), ∃ (uc2 : Nat), r = nI 0 ∧ w = [(h, .inr (3, [.ref i1, .ref i2, .ref i3, .int (nI K2), .int (nI sc2), .int (nI aw2), .ref i4, .ref i5, .int (nI uc2), .ref i6, .ref i7])), (i1, .inl (cI, 4, .inl (wA gi))), (i2, .inl (cI, 4, .inl (wA gs))), (i3, .inl (cI, 4, .inl (wA gw))), (i4, .inl (cI, 1500, .inl (wA gy))), (i5, .inl (cI, 1500, .inl (wA gu))), (i6, .inl (cI, 1500, .inl (wT gt))), (i7, .inl (cI, 1500, .inl (wA gv))), (co, .inr (0, [.ref a1, .ref a2, .ref a3, .ref a4, .int (nI n)])), (a1, .inl (cI, 10, .inl (wA f1))), (a2, .inl (cI, 10, .inl (wA f2))), (cy, .inr (1, [.ref p0, .int (nI L), .int (nI bu)])), (p0, .inl (cI, M, .inl (wA f)))]) := by
  intro sz
  refine k_of (cc := b_Sb_lay) (maxL := 6) (ret := (Option.some Jvm.ClassFile.FieldType.boolean)) (by decide) rfl (Nat.le_of_ble_eq_true rfl) ?_
  intro p e s m args below meth c ls H locs A Q hQ hx hb hml hr hts hown hlk hnm hsz hAe hP hK hD hS hA hE hAH hl
  have ht : ∀ w ∈ mw, w.before args s = true := fun w h => hts w (List.mem_cons_of_mem _ h)
  have hl : lv_has ls 6 [(0, .ref h), (1, .ref co), (2, .ref cy)] := hl
  refine lv_aload_n hx hb d_Sb_lay_0 rfl (lv_at hl 0 rfl) ?_
  refine lv_aload_n hx hb d_Sb_lay_1 rfl (lv_at hl 1 rfl) ?_
  by_cases htk : pw_tk f2 n
  · refine ck_i (wc := [(h, .inr (3, [.ref i1, .ref i2, .ref i3, .int (nI K), .int (nI sc), .int (nI aw), .ref i4, .ref i5, .int (nI uc), .ref i6, .ref i7])), (i1, .inl (cI, 4, .inl (wA fi))), (i2, .inl (cI, 4, .inl (wA fs))), (i3, .inl (cI, 4, .inl (wA fw))), (co, .inr (0, [.ref a1, .ref a2, .ref a3, .ref a4, .int (nI n)])), (a1, .inl (cI, 10, .inl (wA f1))), (a2, .inl (cI, 10, .inl (wA f2)))]) (va_runV (As := [.ref co]) (rest := []) (C := R_Sb) ⟨hx, hb, hml, hown, ht⟩ (c_Sb_takes1 l Hs D cI cZ cL h i1 i2 i3 i4 i5 i6 i7 K sc aw uc fi fs fw co a1 a2 a3 a4 n f1 f2 hn1 hf2 htk H.size) (gw_V 1 ht wd_239 wd_25 wd_736 wd_237 wd_238 (by decide +kernel) ⟨Nat.le_of_ble_eq_true rfl, Nat.le_of_ble_eq_true rfl⟩) (k_preV hE hAH hK hP hD hS [0, 1, 2, 3, 8, 9, 10] rfl rfl 0 rfl rfl) rfl rfl hl.1 rfl (lv_room (Nat.le_of_ble_eq_true rfl)) d_Sb_lay_2 ⟨Nat.le_of_ble_eq_true rfl, Nat.le_of_ble_eq_true rfl⟩) hP hD hS hA [0, 1, 2, 3, 8, 9, 10] rfl rfl (fun r2 w1 H locs hpost hP hD hS => ?_)
    obtain ⟨gi, gs, gw, aw2, hok, hgi, hgs, rfl, rfl⟩ := hpost
    have hP : va_P D kcl [(h, .inr (3, [.ref i1, .ref i2, .ref i3, .int (nI n), .int (nI (pw_w f2 n)), .int (nI aw2), .ref i4, .ref i5, .int (nI uc), .ref i6, .ref i7])), (i1, .inl (cI, 4, .inl (wA gi))), (i2, .inl (cI, 4, .inl (wA gs))), (i3, .inl (cI, 4, .inl (wA gw))), (i4, .inl (cI, 1500, .inl (wA fy))), (i5, .inl (cI, 1500, .inl (wA fu))), (i6, .inl (cI, 1500, .inl (wT ft))), (i7, .inl (cI, 1500, .inl (wA sv))), (co, .inr (0, [.ref a1, .ref a2, .ref a3, .ref a4, .int (nI n)])), (a1, .inl (cI, 10, .inl (wA f1))), (a2, .inl (cI, 10, .inl (wA f2))), (cy, .inr (1, [.ref p0, .int (nI L), .int (nI bu)])), (p0, .inl (cI, M, .inl (wA f)))] H := hP
    have hD : va_D A [(h, .inr (3, [.ref i1, .ref i2, .ref i3, .int (nI n), .int (nI (pw_w f2 n)), .int (nI aw2), .ref i4, .ref i5, .int (nI uc), .ref i6, .ref i7])), (i1, .inl (cI, 4, .inl (wA gi))), (i2, .inl (cI, 4, .inl (wA gs))), (i3, .inl (cI, 4, .inl (wA gw))), (i4, .inl (cI, 1500, .inl (wA fy))), (i5, .inl (cI, 1500, .inl (wA fu))), (i6, .inl (cI, 1500, .inl (wT ft))), (i7, .inl (cI, 1500, .inl (wA sv))), (co, .inr (0, [.ref a1, .ref a2, .ref a3, .ref a4, .int (nI n)])), (a1, .inl (cI, 10, .inl (wA f1))), (a2, .inl (cI, 10, .inl (wA f2))), (cy, .inr (1, [.ref p0, .int (nI L), .int (nI bu)])), (p0, .inl (cI, M, .inl (wA f)))] := hD
    refine wi_if_eq hx hb d_Sb_lay_5 rfl (by decide) (fun h => absurd h (by decide)) (fun _ => ?_)
    refine lv_aload_n hx hb d_Sb_lay_8 rfl (lv_at hl 0 rfl) ?_
    refine ck_i (wc := [(h, .inr (3, [.ref i1, .ref i2, .ref i3, .int (nI n), .int (nI (pw_w f2 n)), .int (nI aw2), .ref i4, .ref i5, .int (nI uc), .ref i6, .ref i7])), (i3, .inl (cI, 4, .inl (wA gw))), (i2, .inl (cI, 4, .inl (wA gs))), (i4, .inl (cI, 1500, .inl (wA fy))), (i5, .inl (cI, 1500, .inl (wA fu)))]) (va_runV (As := []) (rest := []) (C := R_Sb) ⟨hx, hb, hml, hown, ht⟩ (c_Sb_startsSafe l Hs D cI cZ cL h i1 i2 i3 i4 i5 i6 i7 n (pw_w f2 n) aw2 uc gs gw fy fu hok H.size) (gw_V 0 ht wd_254 wd_25 wd_737 wd_252 wd_253 (by decide +kernel) ⟨Nat.le_of_ble_eq_true rfl, Nat.le_of_ble_eq_true rfl⟩) (k_preV hE hAH hK hP hD hS [0, 3, 2, 4, 5] rfl rfl 0 rfl rfl) rfl rfl hl.1 rfl (lv_room (Nat.le_of_ble_eq_true rfl)) d_Sb_lay_9 ⟨Nat.le_of_ble_eq_true rfl, Nat.le_of_ble_eq_true rfl⟩) hP hD hS hA [0, 3, 2, 4, 5] rfl rfl (fun r9 w1 H locs hpost hP hD hS => ?_)
    obtain ⟨r0, gy, gu, uc2, hye, hyb, hss, rfl, rfl⟩ := hpost
    have hP : va_P D kcl [(h, .inr (3, [.ref i1, .ref i2, .ref i3, .int (nI n), .int (nI (pw_w f2 n)), .int (nI aw2), .ref i4, .ref i5, .int (nI uc2), .ref i6, .ref i7])), (i1, .inl (cI, 4, .inl (wA gi))), (i2, .inl (cI, 4, .inl (wA gs))), (i3, .inl (cI, 4, .inl (wA gw))), (i4, .inl (cI, 1500, .inl (wA gy))), (i5, .inl (cI, 1500, .inl (wA gu))), (i6, .inl (cI, 1500, .inl (wT ft))), (i7, .inl (cI, 1500, .inl (wA sv))), (co, .inr (0, [.ref a1, .ref a2, .ref a3, .ref a4, .int (nI n)])), (a1, .inl (cI, 10, .inl (wA f1))), (a2, .inl (cI, 10, .inl (wA f2))), (cy, .inr (1, [.ref p0, .int (nI L), .int (nI bu)])), (p0, .inl (cI, M, .inl (wA f)))] H := hP
    have hD : va_D A [(h, .inr (3, [.ref i1, .ref i2, .ref i3, .int (nI n), .int (nI (pw_w f2 n)), .int (nI aw2), .ref i4, .ref i5, .int (nI uc2), .ref i6, .ref i7])), (i1, .inl (cI, 4, .inl (wA gi))), (i2, .inl (cI, 4, .inl (wA gs))), (i3, .inl (cI, 4, .inl (wA gw))), (i4, .inl (cI, 1500, .inl (wA gy))), (i5, .inl (cI, 1500, .inl (wA gu))), (i6, .inl (cI, 1500, .inl (wT ft))), (i7, .inl (cI, 1500, .inl (wA sv))), (co, .inr (0, [.ref a1, .ref a2, .ref a3, .ref a4, .int (nI n)])), (a1, .inl (cI, 10, .inl (wA f1))), (a2, .inl (cI, 10, .inl (wA f2))), (cy, .inr (1, [.ref p0, .int (nI L), .int (nI bu)])), (p0, .inl (cI, M, .inl (wA f)))] := hD
    have hgsw := sb_weigh hgs
    have hsfe : pw_safe n gs (pw_w f2 n - 1) ↔ pw_sf f2 n := by
      unfold pw_sf
      rw [pw_os_w]
      exact pw_safe_cg hgs _
    refine lv_if_ne hx hb d_Sb_lay_12 rfl (fun h12 => ?_) (fun h12 => ?_)
    · exact absurd ⟨htk, hsfe.mp (by rcases hss with ⟨-, z⟩ | ⟨e, -⟩; exact z; exact absurd e h12)⟩ hno
    · refine lv_iconst (v := nI 0) hx hb d_Sb_lay_15 (by decide) ?_
      exact k_retz hQ hx hb hr hlk hAe hK hP hD hS (Nat.le_of_ble_eq_true rfl) (Nat.le_of_ble_eq_true rfl) (Nat.le_of_ble_eq_true rfl) rfl ⟨gi, gs, gw, gy, gu, ft, sv, n, pw_w f2 n, aw2, uc2, rfl, rfl⟩ d_Sb_lay_16
  · refine ck_i (wc := [(h, .inr (3, [.ref i1, .ref i2, .ref i3, .int (nI K), .int (nI sc), .int (nI aw), .ref i4, .ref i5, .int (nI uc), .ref i6, .ref i7])), (i1, .inl (cI, 4, .inl (wA fi))), (i2, .inl (cI, 4, .inl (wA fs))), (i3, .inl (cI, 4, .inl (wA fw))), (co, .inr (0, [.ref a1, .ref a2, .ref a3, .ref a4, .int (nI n)])), (a1, .inl (cI, 10, .inl (wA f1))), (a2, .inl (cI, 10, .inl (wA f2)))]) (va_runV (As := [.ref co]) (rest := []) (C := R_Sb) ⟨hx, hb, hml, hown, ht⟩ (c_Sb_takes0 l Hs D cI cZ cL h i1 i2 i3 i4 i5 i6 i7 K sc aw uc fi fs fw co a1 a2 a3 a4 n f1 f2 hn hf2 htk H.size) (gw_V 1 ht wd_239 wd_25 wd_736 wd_237 wd_238 (by decide +kernel) ⟨Nat.le_of_ble_eq_true rfl, Nat.le_of_ble_eq_true rfl⟩) (k_preV hE hAH hK hP hD hS [0, 1, 2, 3, 8, 9, 10] rfl rfl 0 rfl rfl) rfl rfl hl.1 rfl (lv_room (Nat.le_of_ble_eq_true rfl)) d_Sb_lay_2 ⟨Nat.le_of_ble_eq_true rfl, Nat.le_of_ble_eq_true rfl⟩) hP hD hS hA [0, 1, 2, 3, 8, 9, 10] rfl rfl (fun r2 w1 H locs hpost hP hD hS => ?_)
    obtain ⟨rfl, rfl⟩ := hpost
    have hP : va_P D kcl [(h, .inr (3, [.ref i1, .ref i2, .ref i3, .int (nI K), .int (nI sc), .int (nI aw), .ref i4, .ref i5, .int (nI uc), .ref i6, .ref i7])), (i1, .inl (cI, 4, .inl (wA fi))), (i2, .inl (cI, 4, .inl (wA fs))), (i3, .inl (cI, 4, .inl (wA fw))), (i4, .inl (cI, 1500, .inl (wA fy))), (i5, .inl (cI, 1500, .inl (wA fu))), (i6, .inl (cI, 1500, .inl (wT ft))), (i7, .inl (cI, 1500, .inl (wA sv))), (co, .inr (0, [.ref a1, .ref a2, .ref a3, .ref a4, .int (nI n)])), (a1, .inl (cI, 10, .inl (wA f1))), (a2, .inl (cI, 10, .inl (wA f2))), (cy, .inr (1, [.ref p0, .int (nI L), .int (nI bu)])), (p0, .inl (cI, M, .inl (wA f)))] H := hP
    have hD : va_D A [(h, .inr (3, [.ref i1, .ref i2, .ref i3, .int (nI K), .int (nI sc), .int (nI aw), .ref i4, .ref i5, .int (nI uc), .ref i6, .ref i7])), (i1, .inl (cI, 4, .inl (wA fi))), (i2, .inl (cI, 4, .inl (wA fs))), (i3, .inl (cI, 4, .inl (wA fw))), (i4, .inl (cI, 1500, .inl (wA fy))), (i5, .inl (cI, 1500, .inl (wA fu))), (i6, .inl (cI, 1500, .inl (wT ft))), (i7, .inl (cI, 1500, .inl (wA sv))), (co, .inr (0, [.ref a1, .ref a2, .ref a3, .ref a4, .int (nI n)])), (a1, .inl (cI, 10, .inl (wA f1))), (a2, .inl (cI, 10, .inl (wA f2))), (cy, .inr (1, [.ref p0, .int (nI L), .int (nI bu)])), (p0, .inl (cI, M, .inl (wA f)))] := hD
    refine wi_if_eq hx hb d_Sb_lay_5 rfl (by decide) (fun _ => ?_) (fun h => absurd h (by decide))
    refine lv_iconst (v := nI 0) hx hb d_Sb_lay_15 (by decide) ?_
    exact k_retz hQ hx hb hr hlk hAe hK hP hD hS (Nat.le_of_ble_eq_true rfl) (Nat.le_of_ble_eq_true rfl) (Nat.le_of_ble_eq_true rfl) rfl ⟨fi, fs, fw, fy, fu, ft, sv, K, sc, aw, uc, rfl, rfl⟩ d_Sb_lay_16
set_option maxHeartbeats 4000000 in
set_option maxRecDepth 100000 in
theorem c_Sb_lay1 (l : Launch) (Hs : Heap) (D : va_G) (cI cZ cL : ClassId) (h : Nat) (i1 : Nat) (i2 : Nat) (i3 : Nat) (i4 : Nat) (i5 : Nat) (i6 : Nat) (i7 : Nat) (K : Nat) (sc : Nat) (aw : Nat) (uc : Nat) (fi : Nat → Nat) (fs : Nat → Nat) (fw : Nat → Nat) (fy : Nat → Nat) (fu : Nat → Nat) (ft : Nat → Nat) (sv : Nat → Nat) (co : Nat) (a1 : Nat) (a2 : Nat) (a3 : Nat) (a4 : Nat) (n : Nat) (f1 : Nat → Nat) (f2 : Nat → Nat) (cy : Nat) (p0 : Nat) (M : Nat) (f : Nat → Nat) (L : Nat) (bu : Nat) (hn1 : 1 ≤ n) (hf2 : ∀ t, t < n → 0 < f2 t ∧ f2 t ≤ 40) (htk : pw_tk f2 n) (hsf : pw_sf f2 n) (hid : ∀ t, t < n → f1 t < 2 ^ 31) (hM : M ≤ 1500) : kI l Hs D kcl (ty3 cI cZ cL) y_Sb_lay (mws y_Sb_lay b_Sb_lay 6 (Option.some Jvm.ClassFile.FieldType.boolean)) ({ frames := 4, cells := 1, slots := 1500, locals := 91 } : Room) [.ref h, .ref co, .ref cy] [(h, .inr (3, [.ref i1, .ref i2, .ref i3, .int (nI K), .int (nI sc), .int (nI aw), .ref i4, .ref i5, .int (nI uc), .ref i6, .ref i7])), (i1, .inl (cI, 4, .inl (wA fi))), (i2, .inl (cI, 4, .inl (wA fs))), (i3, .inl (cI, 4, .inl (wA fw))), (i4, .inl (cI, 1500, .inl (wA fy))), (i5, .inl (cI, 1500, .inl (wA fu))), (i6, .inl (cI, 1500, .inl (wT ft))), (i7, .inl (cI, 1500, .inl (wA sv))), (co, .inr (0, [.ref a1, .ref a2, .ref a3, .ref a4, .int (nI n)])), (a1, .inl (cI, 10, .inl (wA f1))), (a2, .inl (cI, 10, .inl (wA f2))), (cy, .inr (1, [.ref p0, .int (nI L), .int (nI bu)])), (p0, .inl (cI, M, .inl (wA f)))] (fun r w => ∃ (gi : Nat → Nat), ∃ (gs : Nat → Nat), ∃ (gw : Nat → Nat), ∃ (gy : Nat → Nat), ∃ (gu : Nat → Nat), ∃ (gt : Nat → Nat), ∃ (gv : Nat → Nat), ∃ (K2 : Nat), ∃ (sc2 : Nat), ∃ (aw2 : Nat), ∃ (uc2 : Nat), ∃ (p2 : Nat), ∃ (M2 : Nat), ∃ (f3 : Nat → Nat), ∃ (L2 : Nat), (L2 ≤ M2) ∧ (M2 ≤ 1500) ∧ (M ≤ M2) ∧ (pw_B3 n (pw_os f2 n) (pw_oi f1 f2 n) L2 f3) ∧ r = nI 1 ∧ w = [(h, .inr (3, [.ref i1, .ref i2, .ref i3, .int (nI K2), .int (nI sc2), .int (nI aw2), .ref i4, .ref i5, .int (nI uc2), .ref i6, .ref i7])), (i1, .inl (cI, 4, .inl (wA gi))), (i2, .inl (cI, 4, .inl (wA gs))), (i3, .inl (cI, 4, .inl (wA gw))), (i4, .inl (cI, 1500, .inl (wA gy))), (i5, .inl (cI, 1500, .inl (wA gu))), (i6, .inl (cI, 1500, .inl (wT gt))), (i7, .inl (cI, 1500, .inl (wA gv))), (co, .inr (0, [.ref a1, .ref a2, .ref a3, .ref a4, .int (nI n)])), (a1, .inl (cI, 10, .inl (wA f1))), (a2, .inl (cI, 10, .inl (wA f2))), (cy, .inr (1, [.ref p2, .int (nI L2), .int (nI bu)])), (p2, .inl (cI, M2, .inl (wA f3)))]) := by
  intro sz
  refine k_of (cc := b_Sb_lay) (maxL := 6) (ret := (Option.some Jvm.ClassFile.FieldType.boolean)) (by decide) rfl (Nat.le_of_ble_eq_true rfl) ?_
  intro p e s m args below meth c ls H locs A Q hQ hx hb hml hr hts hown hlk hnm hsz hAe hP hK hD hS hA hE hAH hl
  have ht : ∀ w ∈ mw, w.before args s = true := fun w h => hts w (List.mem_cons_of_mem _ h)
  have hl : lv_has ls 6 [(0, .ref h), (1, .ref co), (2, .ref cy)] := hl
  refine lv_aload_n hx hb d_Sb_lay_0 rfl (lv_at hl 0 rfl) ?_
  refine lv_aload_n hx hb d_Sb_lay_1 rfl (lv_at hl 1 rfl) ?_
  refine ck_i (wc := [(h, .inr (3, [.ref i1, .ref i2, .ref i3, .int (nI K), .int (nI sc), .int (nI aw), .ref i4, .ref i5, .int (nI uc), .ref i6, .ref i7])), (i1, .inl (cI, 4, .inl (wA fi))), (i2, .inl (cI, 4, .inl (wA fs))), (i3, .inl (cI, 4, .inl (wA fw))), (co, .inr (0, [.ref a1, .ref a2, .ref a3, .ref a4, .int (nI n)])), (a1, .inl (cI, 10, .inl (wA f1))), (a2, .inl (cI, 10, .inl (wA f2)))]) (va_runV (As := [.ref co]) (rest := []) (C := R_Sb) ⟨hx, hb, hml, hown, ht⟩ (c_Sb_takes1 l Hs D cI cZ cL h i1 i2 i3 i4 i5 i6 i7 K sc aw uc fi fs fw co a1 a2 a3 a4 n f1 f2 hn1 hf2 htk H.size) (gw_V 1 ht wd_239 wd_25 wd_736 wd_237 wd_238 (by decide +kernel) ⟨Nat.le_of_ble_eq_true rfl, Nat.le_of_ble_eq_true rfl⟩) (k_preV hE hAH hK hP hD hS [0, 1, 2, 3, 8, 9, 10] rfl rfl 0 rfl rfl) rfl rfl hl.1 rfl (lv_room (Nat.le_of_ble_eq_true rfl)) d_Sb_lay_2 ⟨Nat.le_of_ble_eq_true rfl, Nat.le_of_ble_eq_true rfl⟩) hP hD hS hA [0, 1, 2, 3, 8, 9, 10] rfl rfl (fun r2 w1 H locs hpost hP hD hS => ?_)
  obtain ⟨gi, gs, gw, aw2, hok, hgi, hgs, rfl, rfl⟩ := hpost
  have hP : va_P D kcl [(h, .inr (3, [.ref i1, .ref i2, .ref i3, .int (nI n), .int (nI (pw_w f2 n)), .int (nI aw2), .ref i4, .ref i5, .int (nI uc), .ref i6, .ref i7])), (i1, .inl (cI, 4, .inl (wA gi))), (i2, .inl (cI, 4, .inl (wA gs))), (i3, .inl (cI, 4, .inl (wA gw))), (i4, .inl (cI, 1500, .inl (wA fy))), (i5, .inl (cI, 1500, .inl (wA fu))), (i6, .inl (cI, 1500, .inl (wT ft))), (i7, .inl (cI, 1500, .inl (wA sv))), (co, .inr (0, [.ref a1, .ref a2, .ref a3, .ref a4, .int (nI n)])), (a1, .inl (cI, 10, .inl (wA f1))), (a2, .inl (cI, 10, .inl (wA f2))), (cy, .inr (1, [.ref p0, .int (nI L), .int (nI bu)])), (p0, .inl (cI, M, .inl (wA f)))] H := hP
  have hD : va_D A [(h, .inr (3, [.ref i1, .ref i2, .ref i3, .int (nI n), .int (nI (pw_w f2 n)), .int (nI aw2), .ref i4, .ref i5, .int (nI uc), .ref i6, .ref i7])), (i1, .inl (cI, 4, .inl (wA gi))), (i2, .inl (cI, 4, .inl (wA gs))), (i3, .inl (cI, 4, .inl (wA gw))), (i4, .inl (cI, 1500, .inl (wA fy))), (i5, .inl (cI, 1500, .inl (wA fu))), (i6, .inl (cI, 1500, .inl (wT ft))), (i7, .inl (cI, 1500, .inl (wA sv))), (co, .inr (0, [.ref a1, .ref a2, .ref a3, .ref a4, .int (nI n)])), (a1, .inl (cI, 10, .inl (wA f1))), (a2, .inl (cI, 10, .inl (wA f2))), (cy, .inr (1, [.ref p0, .int (nI L), .int (nI bu)])), (p0, .inl (cI, M, .inl (wA f)))] := hD
  refine wi_if_eq hx hb d_Sb_lay_5 rfl (by decide) (fun h => absurd h (by decide)) (fun _ => ?_)
  refine lv_aload_n hx hb d_Sb_lay_8 rfl (lv_at hl 0 rfl) ?_
  refine ck_i (wc := [(h, .inr (3, [.ref i1, .ref i2, .ref i3, .int (nI n), .int (nI (pw_w f2 n)), .int (nI aw2), .ref i4, .ref i5, .int (nI uc), .ref i6, .ref i7])), (i3, .inl (cI, 4, .inl (wA gw))), (i2, .inl (cI, 4, .inl (wA gs))), (i4, .inl (cI, 1500, .inl (wA fy))), (i5, .inl (cI, 1500, .inl (wA fu)))]) (va_runV (As := []) (rest := []) (C := R_Sb) ⟨hx, hb, hml, hown, ht⟩ (c_Sb_startsSafe l Hs D cI cZ cL h i1 i2 i3 i4 i5 i6 i7 n (pw_w f2 n) aw2 uc gs gw fy fu hok H.size) (gw_V 0 ht wd_254 wd_25 wd_737 wd_252 wd_253 (by decide +kernel) ⟨Nat.le_of_ble_eq_true rfl, Nat.le_of_ble_eq_true rfl⟩) (k_preV hE hAH hK hP hD hS [0, 3, 2, 4, 5] rfl rfl 0 rfl rfl) rfl rfl hl.1 rfl (lv_room (Nat.le_of_ble_eq_true rfl)) d_Sb_lay_9 ⟨Nat.le_of_ble_eq_true rfl, Nat.le_of_ble_eq_true rfl⟩) hP hD hS hA [0, 3, 2, 4, 5] rfl rfl (fun r9 w1 H locs hpost hP hD hS => ?_)
  obtain ⟨r0, gy, gu, uc2, hye, hyb, hss, rfl, rfl⟩ := hpost
  have hP : va_P D kcl [(h, .inr (3, [.ref i1, .ref i2, .ref i3, .int (nI n), .int (nI (pw_w f2 n)), .int (nI aw2), .ref i4, .ref i5, .int (nI uc2), .ref i6, .ref i7])), (i1, .inl (cI, 4, .inl (wA gi))), (i2, .inl (cI, 4, .inl (wA gs))), (i3, .inl (cI, 4, .inl (wA gw))), (i4, .inl (cI, 1500, .inl (wA gy))), (i5, .inl (cI, 1500, .inl (wA gu))), (i6, .inl (cI, 1500, .inl (wT ft))), (i7, .inl (cI, 1500, .inl (wA sv))), (co, .inr (0, [.ref a1, .ref a2, .ref a3, .ref a4, .int (nI n)])), (a1, .inl (cI, 10, .inl (wA f1))), (a2, .inl (cI, 10, .inl (wA f2))), (cy, .inr (1, [.ref p0, .int (nI L), .int (nI bu)])), (p0, .inl (cI, M, .inl (wA f)))] H := hP
  have hD : va_D A [(h, .inr (3, [.ref i1, .ref i2, .ref i3, .int (nI n), .int (nI (pw_w f2 n)), .int (nI aw2), .ref i4, .ref i5, .int (nI uc2), .ref i6, .ref i7])), (i1, .inl (cI, 4, .inl (wA gi))), (i2, .inl (cI, 4, .inl (wA gs))), (i3, .inl (cI, 4, .inl (wA gw))), (i4, .inl (cI, 1500, .inl (wA gy))), (i5, .inl (cI, 1500, .inl (wA gu))), (i6, .inl (cI, 1500, .inl (wT ft))), (i7, .inl (cI, 1500, .inl (wA sv))), (co, .inr (0, [.ref a1, .ref a2, .ref a3, .ref a4, .int (nI n)])), (a1, .inl (cI, 10, .inl (wA f1))), (a2, .inl (cI, 10, .inl (wA f2))), (cy, .inr (1, [.ref p0, .int (nI L), .int (nI bu)])), (p0, .inl (cI, M, .inl (wA f)))] := hD
  have hgsw := sb_weigh hgs
  have hsfe : pw_safe n gs (pw_w f2 n - 1) ↔ pw_sf f2 n := by
    unfold pw_sf
    rw [pw_os_w]
    exact pw_safe_cg hgs _
  refine lv_if_ne hx hb d_Sb_lay_12 rfl (fun h12 => ?_) (fun h12 => ?_)
  · have hsafe : pw_safe n gs (pw_w f2 n - 1) := hsfe.mpr hsf
    have hwp : 0 < pw_w f2 n := by rw [← hgsw]; exact pw_w_pos (sb_pos hok)
    have htk2 := htk.2
    refine lv_aload_n hx hb d_Sb_lay_17 rfl (lv_at hl 0 rfl) ?_
    refine va_get (D := D) (ci := 3) (v := .ref i6) (C := R_Sb) (T := T_Sb) (N := 11) hx hb ht u_Sb hown hK hP 0 rfl rfl 9 (by decide) (ht _ wd_211) (fun _ h9 => h9) rfl d_Sb_lay_18 ?_
    refine lv_iconst (v := nI 0) hx hb d_Sb_lay_21 (by decide) ?_
    refine lv_aload_n hx hb d_Sb_lay_22 rfl (lv_at hl 0 rfl) ?_
    refine va_get (D := D) (ci := 3) (v := .int (nI (pw_w f2 n))) (C := R_Sb) (T := T_Sb) (N := 11) hx hb ht u_Sb hown hK hP 0 rfl rfl 4 (by decide) (ht _ wd_206) (fun _ h9 => h9) rfl d_Sb_lay_23 ?_
    refine lv_iconst (v := -1) hx hb d_Sb_lay_26 (by decide) ?_
    rw [← oI_0]
    refine ck_v (wc := [(i6, .inl (cI, 1500, .inl (wT ft)))]) (va_runS (As := [.ref i6, .int (nI 0), .int (nI (pw_w f2 n)), .int (oI 0)]) (rest := []) ⟨hx, hb, hml, hown, ht⟩ (c_Ar_fillT l Hs D cI cZ cL i6 1500 ft 0 (pw_w f2 n) 0 (Nat.zero_le _) htk.2 (by decide) H.size) (gw_S 4 ht wd_430 wd_13 wd_738 wd_429 (by decide +kernel) ⟨Nat.le_of_ble_eq_true rfl, Nat.le_of_ble_eq_true rfl⟩) (k_preS hE hAH hK hP hD hS [6] rfl rfl) rfl rfl hl.1 rfl (lv_room (Nat.le_of_ble_eq_true rfl)) d_Sb_lay_27 ⟨Nat.le_of_ble_eq_true rfl, Nat.le_of_ble_eq_true rfl⟩) hP hD hS hA [6] rfl rfl (fun w1 H locs hpost hP hD hS => ?_)
    obtain ⟨g0, hg0, rfl⟩ := hpost
    have hP : va_P D kcl [(h, .inr (3, [.ref i1, .ref i2, .ref i3, .int (nI n), .int (nI (pw_w f2 n)), .int (nI aw2), .ref i4, .ref i5, .int (nI uc2), .ref i6, .ref i7])), (i1, .inl (cI, 4, .inl (wA gi))), (i2, .inl (cI, 4, .inl (wA gs))), (i3, .inl (cI, 4, .inl (wA gw))), (i4, .inl (cI, 1500, .inl (wA gy))), (i5, .inl (cI, 1500, .inl (wA gu))), (i6, .inl (cI, 1500, .inl (wT g0))), (i7, .inl (cI, 1500, .inl (wA sv))), (co, .inr (0, [.ref a1, .ref a2, .ref a3, .ref a4, .int (nI n)])), (a1, .inl (cI, 10, .inl (wA f1))), (a2, .inl (cI, 10, .inl (wA f2))), (cy, .inr (1, [.ref p0, .int (nI L), .int (nI bu)])), (p0, .inl (cI, M, .inl (wA f)))] H := hP
    have hD : va_D A [(h, .inr (3, [.ref i1, .ref i2, .ref i3, .int (nI n), .int (nI (pw_w f2 n)), .int (nI aw2), .ref i4, .ref i5, .int (nI uc2), .ref i6, .ref i7])), (i1, .inl (cI, 4, .inl (wA gi))), (i2, .inl (cI, 4, .inl (wA gs))), (i3, .inl (cI, 4, .inl (wA gw))), (i4, .inl (cI, 1500, .inl (wA gy))), (i5, .inl (cI, 1500, .inl (wA gu))), (i6, .inl (cI, 1500, .inl (wT g0))), (i7, .inl (cI, 1500, .inl (wA sv))), (co, .inr (0, [.ref a1, .ref a2, .ref a3, .ref a4, .int (nI n)])), (a1, .inl (cI, 10, .inl (wA f1))), (a2, .inl (cI, 10, .inl (wA f2))), (cy, .inr (1, [.ref p0, .int (nI L), .int (nI bu)])), (p0, .inl (cI, M, .inl (wA f)))] := hD
    refine lv_aload_n hx hb d_Sb_lay_30 rfl (lv_at hl 0 rfl) ?_
    refine va_get (D := D) (ci := 3) (v := .int (nI (pw_w f2 n))) (C := R_Sb) (T := T_Sb) (N := 11) hx hb ht u_Sb hown hK hP 0 rfl rfl 4 (by decide) (ht _ wd_206) (fun _ h9 => h9) rfl d_Sb_lay_31 ?_
    refine lv_iconst (v := nI 1) hx hb d_Sb_lay_34 (by decide) ?_
    refine wi_sub hx hb d_Sb_lay_35 (by omega) ?_
    refine lv_istore_n (lv' := [(3, .int (nI ((pw_w f2 n) - 1))), (0, .ref h), (1, .ref co), (2, .ref cy)]) hx hb d_Sb_lay_36 rfl hl (by decide) rfl (fun ls hl => ?_)
    refine lv_iconst (v := nI 0) hx hb d_Sb_lay_37 (by decide) ?_
    refine lv_istore (lv' := [(4, .int (nI 0)), (3, .int (nI ((pw_w f2 n) - 1))), (0, .ref h), (1, .ref co), (2, .ref cy)]) hx hb d_Sb_lay_38 hl (by decide) rfl (fun ls hl => ?_)
    have loop40 : ∀ (d : Nat) (T : Nat) (st : Nat → Nat) (tn : Nat → Nat) (gt : Nat → Nat) (gv : Nat → Nat) (ls : Array Slot) (H : Heap) (locs : List Loc), pw_w f2 n - T = d → (sb_P n gs gi st tn gt gv T) → lv_has ls 6 [(0, .ref h), (1, .ref co), (2, .ref cy), (3, .int (nI (st T))), (4, .int (nI T))] → va_P D kcl [(h, .inr (3, [.ref i1, .ref i2, .ref i3, .int (nI n), .int (nI (pw_w f2 n)), .int (nI aw2), .ref i4, .ref i5, .int (nI uc2), .ref i6, .ref i7])), (i1, .inl (cI, 4, .inl (wA gi))), (i2, .inl (cI, 4, .inl (wA gs))), (i3, .inl (cI, 4, .inl (wA gw))), (i4, .inl (cI, 1500, .inl (wA gy))), (i5, .inl (cI, 1500, .inl (wA gu))), (i6, .inl (cI, 1500, .inl (wT gt))), (i7, .inl (cI, 1500, .inl (wA gv))), (co, .inr (0, [.ref a1, .ref a2, .ref a3, .ref a4, .int (nI n)])), (a1, .inl (cI, 10, .inl (wA f1))), (a2, .inl (cI, 10, .inl (wA f2))), (cy, .inr (1, [.ref p0, .int (nI L), .int (nI bu)])), (p0, .inl (cI, M, .inl (wA f)))] H → va_D A [(h, .inr (3, [.ref i1, .ref i2, .ref i3, .int (nI n), .int (nI (pw_w f2 n)), .int (nI aw2), .ref i4, .ref i5, .int (nI uc2), .ref i6, .ref i7])), (i1, .inl (cI, 4, .inl (wA gi))), (i2, .inl (cI, 4, .inl (wA gs))), (i3, .inl (cI, 4, .inl (wA gw))), (i4, .inl (cI, 1500, .inl (wA gy))), (i5, .inl (cI, 1500, .inl (wA gu))), (i6, .inl (cI, 1500, .inl (wT gt))), (i7, .inl (cI, 1500, .inl (wA gv))), (co, .inr (0, [.ref a1, .ref a2, .ref a3, .ref a4, .int (nI n)])), (a1, .inl (cI, 10, .inl (wA f1))), (a2, .inl (cI, 10, .inl (wA f2))), (cy, .inr (1, [.ref p0, .int (nI L), .int (nI bu)])), (p0, .inl (cI, M, .inl (wA f)))] → va_S A s.heap H locs → W p l e ({ frames := 4, cells := 1, slots := 1500, locals := 91 } : Room) s m args below meth c H locs 0 0 Q (F0 m 40 ls []) := by
      intro d
      induction d using Nat.strongRecOn with
      | ind d ih40 =>
        intro T st tn gt gv ls H locs hd40 hSP hl hP hD hS
        have hTle : T ≤ pw_w f2 n := by rw [← hgsw]; exact sb_P_le hSP
        have hsT : st T < pw_w f2 n := by rw [← hgsw]; exact (pw_safe_step hSP.1.2.1).1
        have hftb : gt (st T) < 2 ^ 31 := by
          rcases hSP.2.2.1 (st T) (by rw [hgsw]; exact hsT) with ⟨z, -⟩ | ⟨i, h8, -, z⟩ <;> omega
        refine lv_iload hx hb d_Sb_lay_40 (lv_at hl 4 rfl) ?_
        refine lv_aload_n hx hb d_Sb_lay_42 rfl (lv_at hl 0 rfl) ?_
        refine va_get (D := D) (ci := 3) (v := .int (nI (pw_w f2 n))) (C := R_Sb) (T := T_Sb) (N := 11) hx hb ht u_Sb hown hK hP 0 rfl rfl 4 (by decide) (ht _ wd_206) (fun _ h9 => h9) rfl d_Sb_lay_43 ?_
        refine wi_ge hx hb d_Sb_lay_46 rfl (by omega) (by omega) (fun h46 => ?_) (fun h46 => ?_)
        · have hft0 : 0 < gt (st T) := sb_P_full hSP (by rw [hgsw]; omega)
          have hend := sb_P_end (cy := fun j => gv (gt (st T) - 1 + j)) (L := T - (gt (st T) - 1)) hSP hft0 rfl (fun _ _ => rfl)
          have hgtT := hend.2
          refine lv_aload_n hx hb d_Sb_lay_102 rfl (lv_at hl 2 rfl) ?_
          refine lv_aload_n hx hb d_Sb_lay_103 rfl (lv_at hl 0 rfl) ?_
          refine va_get (D := D) (ci := 3) (v := .ref i7) (C := R_Sb) (T := T_Sb) (N := 11) hx hb ht u_Sb hown hK hP 0 rfl rfl 10 (by decide) (ht _ wd_212) (fun _ h9 => h9) rfl d_Sb_lay_104 ?_
          refine lv_aload_n hx hb d_Sb_lay_107 rfl (lv_at hl 0 rfl) ?_
          refine va_get (D := D) (ci := 3) (v := .ref i6) (C := R_Sb) (T := T_Sb) (N := 11) hx hb ht u_Sb hown hK hP 0 rfl rfl 9 (by decide) (ht _ wd_211) (fun _ h9 => h9) rfl d_Sb_lay_108 ?_
          refine lv_iload_n hx hb d_Sb_lay_111 rfl (lv_at hl 3 rfl) ?_
          refine wi_aldT hx hb hK hP 6 0 rfl rfl (by omega) (by omega) d_Sb_lay_112 ?_
          rw [oI_p hft0]
          refine lv_iload hx hb d_Sb_lay_113 (lv_at hl 4 rfl) ?_
          refine lv_aload_n hx hb d_Sb_lay_115 rfl (lv_at hl 0 rfl) ?_
          refine va_get (D := D) (ci := 3) (v := .ref i6) (C := R_Sb) (T := T_Sb) (N := 11) hx hb ht u_Sb hown hK hP 0 rfl rfl 9 (by decide) (ht _ wd_211) (fun _ h9 => h9) rfl d_Sb_lay_116 ?_
          refine lv_iload_n hx hb d_Sb_lay_119 rfl (lv_at hl 3 rfl) ?_
          refine wi_aldT hx hb hK hP 6 0 rfl rfl (by omega) (by omega) d_Sb_lay_120 ?_
          rw [oI_p hft0]
          refine wi_sub hx hb d_Sb_lay_121 (by omega) ?_
          refine ck_v (wc := [(cy, .inr (1, [.ref p0, .int (nI L), .int (nI bu)])), (p0, .inl (cI, M, .inl (wA f))), (i7, .inl (cI, 1500, .inl (wA gv)))]) (va_runV (As := [.ref i7, .int (nI (gt (st T) - 1)), .int (nI (T - (gt (st T) - 1)))]) (rest := []) (C := R_Cy) ⟨hx, hb, hml, hown, ht⟩ (c_Cy_copyFrom l Hs D cI cZ cL cy p0 M f L bu i7 gv (gt (st T) - 1) (T - (gt (st T) - 1)) (by omega) hM H.size) (gw_V 3 ht wd_758 wd_4 wd_755 wd_756 wd_757 (by decide +kernel) ⟨Nat.le_of_ble_eq_true rfl, Nat.le_of_ble_eq_true rfl⟩) (k_preV hE hAH hK hP hD hS [11, 12, 7] rfl rfl 11 rfl rfl) rfl rfl hl.1 rfl (lv_room (Nat.le_of_ble_eq_true rfl)) d_Sb_lay_122 ⟨Nat.le_of_ble_eq_true rfl, Nat.le_of_ble_eq_true rfl⟩) hP hD hS hA [11, 12, 7] rfl rfl (fun w1 H locs hpost hP hD hS => ?_)
          obtain ⟨p2, M2, f3, hk2, hM2, hMM, hcp, rfl⟩ := hpost
          have hP : va_P D kcl [(h, .inr (3, [.ref i1, .ref i2, .ref i3, .int (nI n), .int (nI (pw_w f2 n)), .int (nI aw2), .ref i4, .ref i5, .int (nI uc2), .ref i6, .ref i7])), (i1, .inl (cI, 4, .inl (wA gi))), (i2, .inl (cI, 4, .inl (wA gs))), (i3, .inl (cI, 4, .inl (wA gw))), (i4, .inl (cI, 1500, .inl (wA gy))), (i5, .inl (cI, 1500, .inl (wA gu))), (i6, .inl (cI, 1500, .inl (wT gt))), (i7, .inl (cI, 1500, .inl (wA gv))), (co, .inr (0, [.ref a1, .ref a2, .ref a3, .ref a4, .int (nI n)])), (a1, .inl (cI, 10, .inl (wA f1))), (a2, .inl (cI, 10, .inl (wA f2))), (cy, .inr (1, [.ref p2, .int (nI (T - (gt (st T) - 1))), .int (nI bu)])), (p2, .inl (cI, M2, .inl (wA f3)))] H := hP
          have hD : va_D A [(h, .inr (3, [.ref i1, .ref i2, .ref i3, .int (nI n), .int (nI (pw_w f2 n)), .int (nI aw2), .ref i4, .ref i5, .int (nI uc2), .ref i6, .ref i7])), (i1, .inl (cI, 4, .inl (wA gi))), (i2, .inl (cI, 4, .inl (wA gs))), (i3, .inl (cI, 4, .inl (wA gw))), (i4, .inl (cI, 1500, .inl (wA gy))), (i5, .inl (cI, 1500, .inl (wA gu))), (i6, .inl (cI, 1500, .inl (wT gt))), (i7, .inl (cI, 1500, .inl (wA gv))), (co, .inr (0, [.ref a1, .ref a2, .ref a3, .ref a4, .int (nI n)])), (a1, .inl (cI, 10, .inl (wA f1))), (a2, .inl (cI, 10, .inl (wA f2))), (cy, .inr (1, [.ref p2, .int (nI (T - (gt (st T) - 1))), .int (nI bu)])), (p2, .inl (cI, M2, .inl (wA f3)))] := hD
          refine W.widen (k := 1) (n := 1500) (by decide) (by decide) ?_
          refine lv_iconst (v := nI 1) hx hb d_Sb_lay_125 (by decide) ?_
          exact k_retz hQ hx hb hr hlk hAe hK hP hD hS (Nat.le_of_ble_eq_true rfl) (Nat.le_of_ble_eq_true rfl) (Nat.le_of_ble_eq_true rfl) rfl ⟨gi, gs, gw, gy, gu, gt, gv, n, pw_w f2 n, aw2, uc2, p2, M2, f3, T - (gt (st T) - 1), hk2, hM2, hMM, pw_B3_cg hgs hgi (sb_P_end hSP hft0 rfl hcp).1, rfl, rfl⟩ d_Sb_lay_126
        · refine lv_aload_n hx hb d_Sb_lay_49 rfl (lv_at hl 0 rfl) ?_
          refine va_get (D := D) (ci := 3) (v := .ref i6) (C := R_Sb) (T := T_Sb) (N := 11) hx hb ht u_Sb hown hK hP 0 rfl rfl 9 (by decide) (ht _ wd_211) (fun _ h9 => h9) rfl d_Sb_lay_50 ?_
          refine lv_iload_n hx hb d_Sb_lay_53 rfl (lv_at hl 3 rfl) ?_
          refine wi_aldT hx hb hK hP 6 0 rfl rfl (by omega) (by omega) d_Sb_lay_54 ?_
          refine lv_iconst (v := -1) hx hb d_Sb_lay_55 (by decide) ?_
          refine lv_icmp_ne hx hb d_Sb_lay_56 rfl (fun h56 => ?_) (fun h56 => ?_)
          · have hft0 : 0 < gt (st T) := Nat.pos_of_ne_zero fun z => h56 (by rw [z]; rfl)
            have hend := sb_P_end (cy := fun j => gv (gt (st T) - 1 + j)) (L := T - (gt (st T) - 1)) hSP hft0 rfl (fun _ _ => rfl)
            have hgtT := hend.2
            refine lv_aload_n hx hb d_Sb_lay_102 rfl (lv_at hl 2 rfl) ?_
            refine lv_aload_n hx hb d_Sb_lay_103 rfl (lv_at hl 0 rfl) ?_
            refine va_get (D := D) (ci := 3) (v := .ref i7) (C := R_Sb) (T := T_Sb) (N := 11) hx hb ht u_Sb hown hK hP 0 rfl rfl 10 (by decide) (ht _ wd_212) (fun _ h9 => h9) rfl d_Sb_lay_104 ?_
            refine lv_aload_n hx hb d_Sb_lay_107 rfl (lv_at hl 0 rfl) ?_
            refine va_get (D := D) (ci := 3) (v := .ref i6) (C := R_Sb) (T := T_Sb) (N := 11) hx hb ht u_Sb hown hK hP 0 rfl rfl 9 (by decide) (ht _ wd_211) (fun _ h9 => h9) rfl d_Sb_lay_108 ?_
            refine lv_iload_n hx hb d_Sb_lay_111 rfl (lv_at hl 3 rfl) ?_
            refine wi_aldT hx hb hK hP 6 0 rfl rfl (by omega) (by omega) d_Sb_lay_112 ?_
            rw [oI_p hft0]
            refine lv_iload hx hb d_Sb_lay_113 (lv_at hl 4 rfl) ?_
            refine lv_aload_n hx hb d_Sb_lay_115 rfl (lv_at hl 0 rfl) ?_
            refine va_get (D := D) (ci := 3) (v := .ref i6) (C := R_Sb) (T := T_Sb) (N := 11) hx hb ht u_Sb hown hK hP 0 rfl rfl 9 (by decide) (ht _ wd_211) (fun _ h9 => h9) rfl d_Sb_lay_116 ?_
            refine lv_iload_n hx hb d_Sb_lay_119 rfl (lv_at hl 3 rfl) ?_
            refine wi_aldT hx hb hK hP 6 0 rfl rfl (by omega) (by omega) d_Sb_lay_120 ?_
            rw [oI_p hft0]
            refine wi_sub hx hb d_Sb_lay_121 (by omega) ?_
            refine ck_v (wc := [(cy, .inr (1, [.ref p0, .int (nI L), .int (nI bu)])), (p0, .inl (cI, M, .inl (wA f))), (i7, .inl (cI, 1500, .inl (wA gv)))]) (va_runV (As := [.ref i7, .int (nI (gt (st T) - 1)), .int (nI (T - (gt (st T) - 1)))]) (rest := []) (C := R_Cy) ⟨hx, hb, hml, hown, ht⟩ (c_Cy_copyFrom l Hs D cI cZ cL cy p0 M f L bu i7 gv (gt (st T) - 1) (T - (gt (st T) - 1)) (by omega) hM H.size) (gw_V 3 ht wd_758 wd_4 wd_755 wd_756 wd_757 (by decide +kernel) ⟨Nat.le_of_ble_eq_true rfl, Nat.le_of_ble_eq_true rfl⟩) (k_preV hE hAH hK hP hD hS [11, 12, 7] rfl rfl 11 rfl rfl) rfl rfl hl.1 rfl (lv_room (Nat.le_of_ble_eq_true rfl)) d_Sb_lay_122 ⟨Nat.le_of_ble_eq_true rfl, Nat.le_of_ble_eq_true rfl⟩) hP hD hS hA [11, 12, 7] rfl rfl (fun w1 H locs hpost hP hD hS => ?_)
            obtain ⟨p2, M2, f3, hk2, hM2, hMM, hcp, rfl⟩ := hpost
            have hP : va_P D kcl [(h, .inr (3, [.ref i1, .ref i2, .ref i3, .int (nI n), .int (nI (pw_w f2 n)), .int (nI aw2), .ref i4, .ref i5, .int (nI uc2), .ref i6, .ref i7])), (i1, .inl (cI, 4, .inl (wA gi))), (i2, .inl (cI, 4, .inl (wA gs))), (i3, .inl (cI, 4, .inl (wA gw))), (i4, .inl (cI, 1500, .inl (wA gy))), (i5, .inl (cI, 1500, .inl (wA gu))), (i6, .inl (cI, 1500, .inl (wT gt))), (i7, .inl (cI, 1500, .inl (wA gv))), (co, .inr (0, [.ref a1, .ref a2, .ref a3, .ref a4, .int (nI n)])), (a1, .inl (cI, 10, .inl (wA f1))), (a2, .inl (cI, 10, .inl (wA f2))), (cy, .inr (1, [.ref p2, .int (nI (T - (gt (st T) - 1))), .int (nI bu)])), (p2, .inl (cI, M2, .inl (wA f3)))] H := hP
            have hD : va_D A [(h, .inr (3, [.ref i1, .ref i2, .ref i3, .int (nI n), .int (nI (pw_w f2 n)), .int (nI aw2), .ref i4, .ref i5, .int (nI uc2), .ref i6, .ref i7])), (i1, .inl (cI, 4, .inl (wA gi))), (i2, .inl (cI, 4, .inl (wA gs))), (i3, .inl (cI, 4, .inl (wA gw))), (i4, .inl (cI, 1500, .inl (wA gy))), (i5, .inl (cI, 1500, .inl (wA gu))), (i6, .inl (cI, 1500, .inl (wT gt))), (i7, .inl (cI, 1500, .inl (wA gv))), (co, .inr (0, [.ref a1, .ref a2, .ref a3, .ref a4, .int (nI n)])), (a1, .inl (cI, 10, .inl (wA f1))), (a2, .inl (cI, 10, .inl (wA f2))), (cy, .inr (1, [.ref p2, .int (nI (T - (gt (st T) - 1))), .int (nI bu)])), (p2, .inl (cI, M2, .inl (wA f3)))] := hD
            refine W.widen (k := 1) (n := 1500) (by decide) (by decide) ?_
            refine lv_iconst (v := nI 1) hx hb d_Sb_lay_125 (by decide) ?_
            exact k_retz hQ hx hb hr hlk hAe hK hP hD hS (Nat.le_of_ble_eq_true rfl) (Nat.le_of_ble_eq_true rfl) (Nat.le_of_ble_eq_true rfl) rfl ⟨gi, gs, gw, gy, gu, gt, gv, n, pw_w f2 n, aw2, uc2, p2, M2, f3, T - (gt (st T) - 1), hk2, hM2, hMM, pw_B3_cg hgs hgi (sb_P_end hSP hft0 rfl hcp).1, rfl, rfl⟩ d_Sb_lay_126
          · have hft0 : gt (st T) = 0 := (oI_m1 hftb).mp h56
            refine lv_aload_n hx hb d_Sb_lay_59 rfl (lv_at hl 0 rfl) ?_
            refine lv_iload_n hx hb d_Sb_lay_60 rfl (lv_at hl 3 rfl) ?_
            refine ck_i (wc := [(h, .inr (3, [.ref i1, .ref i2, .ref i3, .int (nI n), .int (nI (pw_w f2 n)), .int (nI aw2), .ref i4, .ref i5, .int (nI uc2), .ref i6, .ref i7])), (i3, .inl (cI, 4, .inl (wA gw))), (i2, .inl (cI, 4, .inl (wA gs))), (i4, .inl (cI, 1500, .inl (wA gy)))]) (va_runV (As := [.int (nI (st T))]) (rest := []) (C := R_Sb) ⟨hx, hb, hml, hown, ht⟩ (c_Sb_firstSafeTurn l Hs D cI cZ cL h i1 i2 i3 i4 i5 i6 i7 n (pw_w f2 n) aw2 uc2 gs gw gy (st T) hok hsT hyb H.size) (gw_V 1 ht wd_742 wd_25 wd_739 wd_741 ws_22 (by decide +kernel) ⟨Nat.le_of_ble_eq_true rfl, Nat.le_of_ble_eq_true rfl⟩) (k_preV hE hAH hK hP hD hS [0, 3, 2, 4] rfl rfl 0 rfl rfl) rfl rfl hl.1 rfl (lv_room (Nat.le_of_ble_eq_true rfl)) d_Sb_lay_61 ⟨Nat.le_of_ble_eq_true rfl, Nat.le_of_ble_eq_true rfl⟩) hP hD hS hA [0, 3, 2, 4] rfl rfl (fun r61 w1 H locs hpost hP hD hS => ?_)
            obtain ⟨t, htn, hto, htp, rfl, rfl⟩ := hpost
            have hP : va_P D kcl [(h, .inr (3, [.ref i1, .ref i2, .ref i3, .int (nI n), .int (nI (pw_w f2 n)), .int (nI aw2), .ref i4, .ref i5, .int (nI uc2), .ref i6, .ref i7])), (i1, .inl (cI, 4, .inl (wA gi))), (i2, .inl (cI, 4, .inl (wA gs))), (i3, .inl (cI, 4, .inl (wA gw))), (i4, .inl (cI, 1500, .inl (wA gy))), (i5, .inl (cI, 1500, .inl (wA gu))), (i6, .inl (cI, 1500, .inl (wT gt))), (i7, .inl (cI, 1500, .inl (wA gv))), (co, .inr (0, [.ref a1, .ref a2, .ref a3, .ref a4, .int (nI n)])), (a1, .inl (cI, 10, .inl (wA f1))), (a2, .inl (cI, 10, .inl (wA f2))), (cy, .inr (1, [.ref p0, .int (nI L), .int (nI bu)])), (p0, .inl (cI, M, .inl (wA f)))] H := hP
            have hD : va_D A [(h, .inr (3, [.ref i1, .ref i2, .ref i3, .int (nI n), .int (nI (pw_w f2 n)), .int (nI aw2), .ref i4, .ref i5, .int (nI uc2), .ref i6, .ref i7])), (i1, .inl (cI, 4, .inl (wA gi))), (i2, .inl (cI, 4, .inl (wA gs))), (i3, .inl (cI, 4, .inl (wA gw))), (i4, .inl (cI, 1500, .inl (wA gy))), (i5, .inl (cI, 1500, .inl (wA gu))), (i6, .inl (cI, 1500, .inl (wT gt))), (i7, .inl (cI, 1500, .inl (wA gv))), (co, .inr (0, [.ref a1, .ref a2, .ref a3, .ref a4, .int (nI n)])), (a1, .inl (cI, 10, .inl (wA f1))), (a2, .inl (cI, 10, .inl (wA f2))), (cy, .inr (1, [.ref p0, .int (nI L), .int (nI bu)])), (p0, .inl (cI, M, .inl (wA f)))] := hD
            have hF : pw_F n gs (st T) t := sb_F (sb_pos hok) (by rw [hgsw]; exact hye) hSP.1.2.1 htn hto htp
            refine lv_istore (lv' := [(5, .int (nI t)), (0, .ref h), (1, .ref co), (2, .ref cy), (3, .int (nI (st T))), (4, .int (nI T))]) hx hb d_Sb_lay_64 hl (by decide) rfl (fun ls hl => ?_)
            refine lv_aload_n hx hb d_Sb_lay_66 rfl (lv_at hl 1 rfl) ?_
            refine va_get (D := D) (ci := 3) (v := .ref i6) (C := R_Sb) (T := T_Sb) (N := 11) hx hb ht u_Sb hown hK hP 0 rfl rfl 9 (by decide) (ht _ wd_211) (fun _ h9 => h9) rfl d_Sb_lay_67 ?_
            refine lv_iload_n hx hb d_Sb_lay_70 rfl (lv_at hl 4 rfl) ?_
            refine lv_iload hx hb d_Sb_lay_71 (lv_at hl 5 rfl) ?_
            refine wi_astTN hx hb hK hP hD hS 6 0 rfl rfl (by omega) (by omega) d_Sb_lay_73 (fun H locs hP hD hS => ?_)
            have hP : va_P D kcl [(h, .inr (3, [.ref i1, .ref i2, .ref i3, .int (nI n), .int (nI (pw_w f2 n)), .int (nI aw2), .ref i4, .ref i5, .int (nI uc2), .ref i6, .ref i7])), (i1, .inl (cI, 4, .inl (wA gi))), (i2, .inl (cI, 4, .inl (wA gs))), (i3, .inl (cI, 4, .inl (wA gw))), (i4, .inl (cI, 1500, .inl (wA gy))), (i5, .inl (cI, 1500, .inl (wA gu))), (i6, .inl (cI, 1500, .inl (wT (va_up gt (st T) (T + 1))))), (i7, .inl (cI, 1500, .inl (wA gv))), (co, .inr (0, [.ref a1, .ref a2, .ref a3, .ref a4, .int (nI n)])), (a1, .inl (cI, 10, .inl (wA f1))), (a2, .inl (cI, 10, .inl (wA f2))), (cy, .inr (1, [.ref p0, .int (nI L), .int (nI bu)])), (p0, .inl (cI, M, .inl (wA f)))] H := hP
            have hD : va_D A [(h, .inr (3, [.ref i1, .ref i2, .ref i3, .int (nI n), .int (nI (pw_w f2 n)), .int (nI aw2), .ref i4, .ref i5, .int (nI uc2), .ref i6, .ref i7])), (i1, .inl (cI, 4, .inl (wA gi))), (i2, .inl (cI, 4, .inl (wA gs))), (i3, .inl (cI, 4, .inl (wA gw))), (i4, .inl (cI, 1500, .inl (wA gy))), (i5, .inl (cI, 1500, .inl (wA gu))), (i6, .inl (cI, 1500, .inl (wT (va_up gt (st T) (T + 1))))), (i7, .inl (cI, 1500, .inl (wA gv))), (co, .inr (0, [.ref a1, .ref a2, .ref a3, .ref a4, .int (nI n)])), (a1, .inl (cI, 10, .inl (wA f1))), (a2, .inl (cI, 10, .inl (wA f2))), (cy, .inr (1, [.ref p0, .int (nI L), .int (nI bu)])), (p0, .inl (cI, M, .inl (wA f)))] := hD
            refine lv_aload_n hx hb d_Sb_lay_74 rfl (lv_at hl 1 rfl) ?_
            refine va_get (D := D) (ci := 3) (v := .ref i7) (C := R_Sb) (T := T_Sb) (N := 11) hx hb ht u_Sb hown hK hP 0 rfl rfl 10 (by decide) (ht _ wd_212) (fun _ h9 => h9) rfl d_Sb_lay_75 ?_
            refine lv_iload hx hb d_Sb_lay_78 (lv_at hl 5 rfl) ?_
            refine lv_aload_n hx hb d_Sb_lay_80 rfl (lv_at hl 1 rfl) ?_
            refine va_get (D := D) (ci := 3) (v := .ref i1) (C := R_Sb) (T := T_Sb) (N := 11) hx hb ht u_Sb hown hK hP 0 rfl rfl 0 (by decide) (ht _ wd_202) (fun _ h9 => h9) rfl d_Sb_lay_81 ?_
            refine lv_iload hx hb d_Sb_lay_84 (lv_at hl 0 rfl) ?_
            refine wi_ald hx hb hK hP 1 0 rfl rfl (by have := htk.1; omega) (by decide) d_Sb_lay_86 ?_
            refine wi_ast hx hb hK hP hD hS 7 0 rfl rfl (by omega) (by omega) d_Sb_lay_87 (fun H locs hP hD hS => ?_)
            have hP : va_P D kcl [(h, .inr (3, [.ref i1, .ref i2, .ref i3, .int (nI n), .int (nI (pw_w f2 n)), .int (nI aw2), .ref i4, .ref i5, .int (nI uc2), .ref i6, .ref i7])), (i1, .inl (cI, 4, .inl (wA gi))), (i2, .inl (cI, 4, .inl (wA gs))), (i3, .inl (cI, 4, .inl (wA gw))), (i4, .inl (cI, 1500, .inl (wA gy))), (i5, .inl (cI, 1500, .inl (wA gu))), (i6, .inl (cI, 1500, .inl (wT (va_up gt (st T) (T + 1))))), (i7, .inl (cI, 1500, .inl (wA (va_up gv T (gi t))))), (co, .inr (0, [.ref a1, .ref a2, .ref a3, .ref a4, .int (nI n)])), (a1, .inl (cI, 10, .inl (wA f1))), (a2, .inl (cI, 10, .inl (wA f2))), (cy, .inr (1, [.ref p0, .int (nI L), .int (nI bu)])), (p0, .inl (cI, M, .inl (wA f)))] H := hP
            have hD : va_D A [(h, .inr (3, [.ref i1, .ref i2, .ref i3, .int (nI n), .int (nI (pw_w f2 n)), .int (nI aw2), .ref i4, .ref i5, .int (nI uc2), .ref i6, .ref i7])), (i1, .inl (cI, 4, .inl (wA gi))), (i2, .inl (cI, 4, .inl (wA gs))), (i3, .inl (cI, 4, .inl (wA gw))), (i4, .inl (cI, 1500, .inl (wA gy))), (i5, .inl (cI, 1500, .inl (wA gu))), (i6, .inl (cI, 1500, .inl (wT (va_up gt (st T) (T + 1))))), (i7, .inl (cI, 1500, .inl (wA (va_up gv T (gi t))))), (co, .inr (0, [.ref a1, .ref a2, .ref a3, .ref a4, .int (nI n)])), (a1, .inl (cI, 10, .inl (wA f1))), (a2, .inl (cI, 10, .inl (wA f2))), (cy, .inr (1, [.ref p0, .int (nI L), .int (nI bu)])), (p0, .inl (cI, M, .inl (wA f)))] := hD
            refine lv_aload_n hx hb d_Sb_lay_88 rfl (lv_at hl 1 rfl) ?_
            refine lv_iload_n hx hb d_Sb_lay_89 rfl (lv_at hl 4 rfl) ?_
            refine lv_iload hx hb d_Sb_lay_90 (lv_at hl 0 rfl) ?_
            refine ck_i (wc := [(h, .inr (3, [.ref i1, .ref i2, .ref i3, .int (nI n), .int (nI (pw_w f2 n)), .int (nI aw2), .ref i4, .ref i5, .int (nI uc2), .ref i6, .ref i7])), (i3, .inl (cI, 4, .inl (wA gw))), (i2, .inl (cI, 4, .inl (wA gs)))]) (va_runV (As := [.int (nI (st T)), .int (nI t)]) (rest := []) (C := R_Sb) ⟨hx, hb, hml, hown, ht⟩ (c_Sb_stateAfter l Hs D cI cZ cL h i1 i2 i3 i4 i5 i6 i7 n (pw_w f2 n) aw2 uc2 gs gw (st T) t hok hsT htn hF.2.1.1 H.size) (gw_V 2 ht wd_754 wd_25 wd_751 wd_753 ws_25 (by decide +kernel) ⟨Nat.le_of_ble_eq_true rfl, Nat.le_of_ble_eq_true rfl⟩) (k_preV hE hAH hK hP hD hS [0, 3, 2] rfl rfl 0 rfl rfl) rfl rfl hl.1 rfl (lv_room (Nat.le_of_ble_eq_true rfl)) d_Sb_lay_92 ⟨Nat.le_of_ble_eq_true rfl, Nat.le_of_ble_eq_true rfl⟩) hP hD hS hA [0, 3, 2] rfl rfl (fun r92 w1 H locs hpost hP hD hS => ?_)
            obtain ⟨rfl, rfl⟩ := hpost
            have hP : va_P D kcl [(h, .inr (3, [.ref i1, .ref i2, .ref i3, .int (nI n), .int (nI (pw_w f2 n)), .int (nI aw2), .ref i4, .ref i5, .int (nI uc2), .ref i6, .ref i7])), (i1, .inl (cI, 4, .inl (wA gi))), (i2, .inl (cI, 4, .inl (wA gs))), (i3, .inl (cI, 4, .inl (wA gw))), (i4, .inl (cI, 1500, .inl (wA gy))), (i5, .inl (cI, 1500, .inl (wA gu))), (i6, .inl (cI, 1500, .inl (wT (va_up gt (st T) (T + 1))))), (i7, .inl (cI, 1500, .inl (wA (va_up gv T (gi t))))), (co, .inr (0, [.ref a1, .ref a2, .ref a3, .ref a4, .int (nI n)])), (a1, .inl (cI, 10, .inl (wA f1))), (a2, .inl (cI, 10, .inl (wA f2))), (cy, .inr (1, [.ref p0, .int (nI L), .int (nI bu)])), (p0, .inl (cI, M, .inl (wA f)))] H := hP
            have hD : va_D A [(h, .inr (3, [.ref i1, .ref i2, .ref i3, .int (nI n), .int (nI (pw_w f2 n)), .int (nI aw2), .ref i4, .ref i5, .int (nI uc2), .ref i6, .ref i7])), (i1, .inl (cI, 4, .inl (wA gi))), (i2, .inl (cI, 4, .inl (wA gs))), (i3, .inl (cI, 4, .inl (wA gw))), (i4, .inl (cI, 1500, .inl (wA gy))), (i5, .inl (cI, 1500, .inl (wA gu))), (i6, .inl (cI, 1500, .inl (wT (va_up gt (st T) (T + 1))))), (i7, .inl (cI, 1500, .inl (wA (va_up gv T (gi t))))), (co, .inr (0, [.ref a1, .ref a2, .ref a3, .ref a4, .int (nI n)])), (a1, .inl (cI, 10, .inl (wA f1))), (a2, .inl (cI, 10, .inl (wA f2))), (cy, .inr (1, [.ref p0, .int (nI L), .int (nI bu)])), (p0, .inl (cI, M, .inl (wA f)))] := hD
            refine lv_istore_n (lv' := [(3, .int (nI (pw_nx n gs (st T) t))), (5, .int (nI t)), (0, .ref h), (1, .ref co), (2, .ref cy), (4, .int (nI T))]) hx hb d_Sb_lay_95 rfl hl (by decide) rfl (fun ls hl => ?_)
            refine wi_inc (k := 5) (lv' := [(4, .int (nI (T + 1))), (3, .int (nI (pw_nx n gs (st T) t))), (5, .int (nI t)), (0, .ref h), (1, .ref co), (2, .ref cy)]) hx hb d_Sb_lay_96 hl rfl (by decide) rfl (fun ls hl => ?_)
            refine lv_goto hx hb d_Sb_lay_99 rfl ?_
            have hst1 : pw_nx n gs (st T) t = (fun i => if i = T + 1 then pw_nx n gs (st T) t else st i) (T + 1) := by simp
            rw [hst1] at hl
            exact ih40 (pw_w f2 n - (T + 1)) (by omega) (T + 1) (fun i => if i = T + 1 then pw_nx n gs (st T) t else st i) (fun i => if i = T then t else tn i) (va_up gt (st T) (T + 1)) (va_up gv T (gi t)) ls H locs rfl (sb_P_add (sb_pos hok) hSP hft0 hF) (lv_sub hl [3, 4, 5, 1, 0] rfl) hP hD hS
    exact loop40 _ (0) (fun _ => pw_w f2 n - 1) (fun _ => 0) (g0) (sv) ls H locs rfl (by rw [← hgsw] at hsafe hg0 ⊢; exact ⟨pw_P_0 hsafe, fun i j _ h9 => absurd h9 (Nat.not_lt_zero j), fun x h9 => Or.inl ⟨hg0 x (Nat.zero_le _) h9, fun i h8 => absurd h8 (Nat.not_lt_zero i)⟩, fun i h9 => absurd h9 (Nat.not_lt_zero i)⟩) (lv_sub hl [2, 3, 4, 1, 0] rfl) hP hD hS
  · exact absurd (hsfe.mpr hsf) (by rcases hss with ⟨e, -⟩ | ⟨-, z⟩; rw [e] at h12; exact absurd h12 (by decide); exact z)
