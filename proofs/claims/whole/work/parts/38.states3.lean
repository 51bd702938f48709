/-! StateBuilder: the list of states with no way on. -/
def sb_LD (K : Nat) (fs : Nat → Nat) (k : Nat) (y u : Nat → Nat) (c : Nat) : Prop := (∀ s, s < k → y s = pw_ct (pw_okb K fs s) K) ∧ (∀ s, s < k → ((∃ i, i < c ∧ u i = s) ↔ y s = 0)) ∧ (∀ i, i < c → u i < k) ∧ (∀ i j, i < c → j < c → u i = u j → i = j) ∧ c ≤ k
theorem sb_LD_0 {K : Nat} {fs y u : Nat → Nat} : sb_LD K fs 0 y u 0 := ⟨fun s h => absurd h (Nat.not_lt_zero s), fun s h => absurd h (Nat.not_lt_zero s), fun i h => absurd h (Nat.not_lt_zero i), fun i j h => absurd h (Nat.not_lt_zero i), Nat.le_refl 0⟩
theorem sb_LD_f {K : Nat} {fs y u : Nat → Nat} {k c : Nat} (h : sb_LD K fs k y u c) (h0 : 0 < pw_ct (pw_okb K fs k) K) : sb_LD K fs (k + 1) (va_up y k (pw_ct (pw_okb K fs k) K)) u c := by
  obtain ⟨h1, h2, h3, h4, h5⟩ := h
  refine ⟨lt_s (fun s hs => ?_) (va_up_self _ _ _), lt_s (fun s hs => ?_) ?_, fun i hi => by have := h3 i hi; omega, h4, by omega⟩
  · rw [va_up_ne _ _ (by omega)]; exact h1 s hs
  · rw [va_up_ne _ _ (by omega)]; exact h2 s hs
  · rw [va_up_self]
    exact ⟨fun ⟨i, hi, e⟩ => by have := h3 i hi; omega, fun z => by omega⟩
theorem sb_LD_t {K : Nat} {fs y u : Nat → Nat} {k c : Nat} (h : sb_LD K fs k y u c) (h0 : pw_ct (pw_okb K fs k) K = 0) : sb_LD K fs (k + 1) (va_up y k (pw_ct (pw_okb K fs k) K)) (va_up u c k) (c + 1) := by
  obtain ⟨h1, h2, h3, h4, h5⟩ := h
  refine ⟨lt_s (fun s hs => ?_) (va_up_self _ _ _), lt_s (fun s hs => ?_) ?_, lt_s (fun i hi => ?_) ?_, fun i j hi hj e => ?_, by omega⟩
  · rw [va_up_ne _ _ (by omega)]; exact h1 s hs
  · rw [va_up_ne _ _ (by omega), ← h2 s hs]
    constructor
    · intro ⟨i, hi, e⟩
      by_cases hc : i = c
      · rw [hc, va_up_self] at e; omega
      · rw [va_up_ne _ _ hc] at e; exact ⟨i, by omega, e⟩
    · intro ⟨i, hi, e⟩
      exact ⟨i, by omega, by rw [va_up_ne _ _ (by omega)]; exact e⟩
  · rw [va_up_self]
    exact ⟨fun _ => h0, fun _ => ⟨c, by omega, va_up_self _ _ _⟩⟩
  · rw [va_up_ne _ _ (by omega)]; have := h3 i hi; omega
  · rw [va_up_self]; omega
  · by_cases hic : i = c <;> by_cases hjc : j = c
    · omega
    · rw [hic, va_up_self, va_up_ne _ _ hjc] at e; have := h3 j (by omega); omega
    · rw [hjc, va_up_self, va_up_ne _ _ hic] at e; have := h3 i (by omega); omega
    · rw [va_up_ne _ _ hic, va_up_ne _ _ hjc] at e; exact h4 i j (by omega) (by omega) e
theorem sb_LD_J {K : Nat} {fs y u : Nat → Nat} {c : Nat} (h : sb_LD K fs (pw_w fs K) y u c) : pw_J K fs y u c 0 (fun _ _ => false) := by
  obtain ⟨h1, h2, h3, h4, h5⟩ := h
  refine ⟨fun s hs => ?_, fun s t e => (by cases e), h2, h3, h4, Nat.zero_le _, fun i s t hi => absurd hi (Nat.not_lt_zero i)⟩
  rw [h1 s hs]
  exact pw_ct_congr fun t _ => by simp
theorem sb_J_le {K : Nat} {fs y u : Nat → Nat} {c kp : Nat} {D : Nat → Nat → Bool} (h : pw_J K fs y u c kp D) : ∀ s, s < pw_w fs K → y s ≤ K := fun s hs => by rw [h.1 s hs]; exact pw_ct_le _ K
/-- which ways have been struck -/
def sb_JD (K : Nat) (fs u : Nat → Nat) (kp t v : Nat) (D : Nat → Nat → Bool) : Prop := ∀ b x, D b x = true → (∃ i, i < kp ∧ pw_nx K fs b x = u i) ∨ (pw_nx K fs b x = u kp ∧ (x < t ∨ (x = t ∧ pw_dg fs b x < v)))
def sb_X (K : Nat) (fs : Nat → Nat) (v kp t j : Nat) (y u : Nat → Nat) (c : Nat) (D : Nat → Nat → Bool) : Prop := pw_J K fs y u c kp D ∧ kp < c ∧ v = u kp ∧ sb_JD K fs u kp t j D ∧ (∀ b x, b < pw_w fs K → x < t → pw_ok K fs b x → pw_nx K fs b x = v → D b x = true) ∧ (∀ b, b < pw_w fs K → pw_ok K fs b t → pw_nx K fs b t = v → pw_dg fs b t < j → D b t = true)
theorem sb_X_0 {K : Nat} {fs y u : Nat → Nat} {c kp : Nat} {D : Nat → Nat → Bool} (hJ : pw_J K fs y u c kp D) (hkp : kp < c) (hD : sb_JD K fs u kp 0 0 D) : sb_X K fs (u kp) kp 0 0 y u c D := ⟨hJ, hkp, rfl, hD, fun b x _ hx => absurd hx (Nat.not_lt_zero x), fun b _ _ _ hx => absurd hx (Nat.not_lt_zero _)⟩
theorem sb_X_no {K : Nat} {fs y u : Nat → Nat} {v c kp t : Nat} {D : Nat → Nat → Bool} (hsp : ∀ k, k < K → 0 < fs k) (ht : t < K) (h : sb_X K fs v kp t 0 y u c D) (hc : ¬ pw_cf K fs v t) : sb_X K fs v kp (t + 1) 0 y u c D := by
  obtain ⟨h1, h2, h3, h4, h5, h6⟩ := h
  refine ⟨h1, h2, h3, fun b x e => ?_, fun b x hb hx hok e => ?_, fun b _ _ _ hx => absurd hx (Nat.not_lt_zero _)⟩
  · rcases h4 b x e with h | ⟨ha, h | ⟨-, h⟩⟩
    · exact Or.inl h
    · exact Or.inr ⟨ha, Or.inl (by omega)⟩
    · exact absurd h (Nat.not_lt_zero _)
  · by_cases hxt : x = t
    · subst hxt
      exact absurd (pw_way_in hsp ht hb hok e).1 hc
    · exact h5 b x hb (by omega) hok e
theorem sb_X_all {K : Nat} {fs y u : Nat → Nat} {v c kp t : Nat} {D : Nat → Nat → Bool} (hsp : ∀ k, k < K → 0 < fs k) (ht : t < K) (h : sb_X K fs v kp t (fs t) y u c D) : sb_X K fs v kp (t + 1) 0 y u c D := by
  obtain ⟨h1, h2, h3, h4, h5, h6⟩ := h
  refine ⟨h1, h2, h3, fun b x e => ?_, fun b x hb hx hok e => ?_, fun b _ _ _ hx => absurd hx (Nat.not_lt_zero _)⟩
  · rcases h4 b x e with h | ⟨ha, h | ⟨h, -⟩⟩
    · exact Or.inl h
    · exact Or.inr ⟨ha, Or.inl (by omega)⟩
    · exact Or.inr ⟨ha, Or.inl (by omega)⟩
  · by_cases hxt : x = t
    · subst hxt
      exact h6 b hb hok e (pw_dg_lt (hsp x ht))
    · exact h5 b x hb (by omega) hok e
theorem sb_X_str {K : Nat} {fs y u : Nat → Nat} {v c kp t j : Nat} {D : Nat → Nat → Bool} (hsp : ∀ k, k < K → 0 < fs k) (ht : t < K) (h : sb_X K fs v kp t j y u c D) (hc : pw_cf K fs v t) (hj : j < fs t) :
    pw_pr K fs v t j < pw_w fs K ∧ 0 < y (pw_pr K fs v t j) ∧ (y (pw_pr K fs v t j) - 1 = 0 → c < pw_w fs K) ∧ sb_X K fs v kp t (j + 1) (va_up y (pw_pr K fs v t j) (y (pw_pr K fs v t j) - 1)) (if y (pw_pr K fs v t j) - 1 = 0 then va_up u c (pw_pr K fs v t j) else u) (if y (pw_pr K fs v t j) - 1 = 0 then c + 1 else c) (fun a b => D a b || (decide (a = pw_pr K fs v t j) && decide (b = t))) := by
  obtain ⟨h1, h2, h3, h4, h5, h6⟩ := h
  have hvN : v < pw_w fs K := by rw [h3]; exact h1.2.2.2.1 kp h2
  have b1 := pw_pr_lt hsp hc hj
  have b2 := pw_pr_ok hsp hc hj
  have b3 := pw_pr_nx hsp hc hj ht hvN
  have b4 := pw_dg_pr hsp hc hj t ht
  have b5 : pw_dg fs (pw_pr K fs v t j) t = j := by rw [b4]; simp [pw_pd]
  generalize pw_pr K fs v t j = b at b1 b2 b3 b5 ⊢
  have hDb : D b t = false := by
    cases hd : D b t with
    | false => rfl
    | true =>
      rcases h4 b t hd with ⟨i, hi, e⟩ | ⟨-, h | ⟨-, h⟩⟩
      · have := h1.2.2.2.2.1 i kp (by omega) h2 (by rw [← e, b3, h3])
        omega
      · omega
      · omega
  obtain ⟨p1, p2⟩ := pw_J_strike hsp h1 b1 ht b2 hDb h2 (b3.trans h3)
  have hfew := pw_J_few p2
  have hu : ∀ i, i < c → (if y b - 1 = 0 then va_up u c b else u) i = u i := by
    intro i hi
    split
    · exact va_up_ne _ _ (by omega)
    · rfl
  refine ⟨b1, p1, fun e => ?_, p2, ?_, ?_, ?_, ?_, ?_⟩
  · rw [if_pos e] at hfew; omega
  · split <;> omega
  · rw [hu kp h2]; exact h3
  · intro a x e
    by_cases hax : D a x = true
    · rcases h4 a x hax with ⟨i, hi, e2⟩ | ⟨e1, e2⟩
      · exact Or.inl ⟨i, hi, by rw [hu i (by omega)]; exact e2⟩
      · exact Or.inr ⟨by rw [hu kp h2]; exact e1, by omega⟩
    · have h9 : a = b ∧ x = t := by simpa [hax] using e
      obtain ⟨rfl, rfl⟩ := h9
      exact Or.inr ⟨by rw [hu kp h2, b3, h3], Or.inr ⟨rfl, by omega⟩⟩
  · intro a x ha hx hok e
    show (D a x || _) = true
    rw [h5 a x ha hx hok e]; rfl
  · intro a ha hok e hd
    show (D a t || (decide (a = b) && decide (t = t))) = true
    by_cases hdj : pw_dg fs a t < j
    · rw [h6 a ha hok e hdj]; rfl
    · have hab : a = b := by
        refine pw_ext ha b1 fun k hk => ?_
        by_cases hkt : k = t
        · subst hkt; omega
        · have e1 := pw_dg_nx hsp a t k hk
          have e2 := pw_dg_nx hsp b t k hk
          rw [e] at e1
          rw [b3] at e2
          simp only [pw_nd, if_neg hkt] at e1 e2
          have a1 := hok k hk hkt
          have a2 := b2 k hk hkt
          omega
      subst hab
      simp
theorem sb_X_end {K : Nat} {fs y u : Nat → Nat} {v c kp : Nat} {D : Nat → Nat → Bool} (h : sb_X K fs v kp K 0 y u c D) : pw_J K fs y u c (kp + 1) D ∧ sb_JD K fs u (kp + 1) 0 0 D := by
  obtain ⟨h1, h2, h3, h4, h5, h6⟩ := h
  refine ⟨pw_J_next h1 h2 fun s t hs ht hok e => h5 s t hs ht hok (by rw [e, h3]), fun b x e => ?_⟩
  rcases h4 b x e with ⟨i, hi, h⟩ | ⟨ha, -⟩
  · exact Or.inl ⟨i, by omega, h⟩
  · exact Or.inl ⟨kp, by omega, ha⟩
theorem sb_pr {K : Nat} {fs fw : Nat → Nat} {sc aw v t j : Nat} (h : sb_ok K fs fw sc aw) (hv : v < sc) (ht : t < K) (hc : pw_cf K fs v t) : fw t * fs t ≤ v + aw ∧ v + aw - fw t * fs t + j * fw t = pw_pr K fs v t j := by
  have e0 := pw_pr_sum (sp := fs) (v := 0) (sb_pos h) ht (by rw [← h.2.2.2.2.2.1]; exact hv) hc
  have ej := pw_pr_sum (sp := fs) (v := j) (sb_pos h) ht (by rw [← h.2.2.2.2.2.1]; exact hv) hc
  rw [h.2.2.2.1 t ht, h.2.2.2.2.1]
  omega
set_option maxHeartbeats 4000000 in
set_option maxRecDepth 100000 in
theorem c_Sb_strikeOneWay (l : Launch) (Hs : Heap) (D : va_G) (cI cZ cL : ClassId) (h : Nat) (i1 : Nat) (i2 : Nat) (i3 : Nat) (i4 : Nat) (i5 : Nat) (i6 : Nat) (i7 : Nat) (K : Nat) (sc : Nat) (aw : Nat) (uc : Nat) (fy : Nat → Nat) (fu : Nat → Nat) (v : Nat) (hv : v < 1500) (hy0 : 0 < fy v) (hy1 : fy v < 2 ^ 31) (hu : fy v - 1 = 0 → uc < 1500) : kV l Hs D kcl (ty3 cI cZ cL) y_Sb_strikeOneWay (mws y_Sb_strikeOneWay b_Sb_strikeOneWay 2 (Option.none : Option Jvm.ClassFile.FieldType)) ({ frames := 0, cells := 0, slots := 0, locals := 0 } : Room) [.ref h, .int (nI v)] [(h, .inr (3, [.ref i1, .ref i2, .ref i3, .int (nI K), .int (nI sc), .int (nI aw), .ref i4, .ref i5, .int (nI uc), .ref i6, .ref i7])), (i4, .inl (cI, 1500, .inl (wA fy))), (i5, .inl (cI, 1500, .inl (wA fu)))] (fun w => ∃ (fu2 : Nat → Nat), ∃ (uc2 : Nat), (fu2 = if fy v - 1 = 0 then va_up fu uc v else fu) ∧ (uc2 = if fy v - 1 = 0 then uc + 1 else uc) ∧ w = [(h, .inr (3, [.ref i1, .ref i2, .ref i3, .int (nI K), .int (nI sc), .int (nI aw), .ref i4, .ref i5, .int (nI uc2), .ref i6, .ref i7])), (i4, .inl (cI, 1500, .inl (wA (va_up fy v (fy v - 1))))), (i5, .inl (cI, 1500, .inl (wA fu2)))]) := by
  intro sz
  refine k_of (cc := b_Sb_strikeOneWay) (maxL := 2) (ret := (Option.none : Option Jvm.ClassFile.FieldType)) (by decide) rfl (Nat.le_of_ble_eq_true rfl) ?_
  intro p e s m args below meth c ls H locs A Q hQ hx hb hml hr hts hown hlk hnm hsz hAe hP hK hD hS hA hE hAH hl
  have ht : ∀ w ∈ mw, w.before args s = true := fun w h => hts w (List.mem_cons_of_mem _ h)
  have hl : lv_has ls 2 [(0, .ref h), (1, .int (nI v))] := hl
  refine lv_aload_n hx hb d_Sb_strikeOneWay_0 rfl (lv_at hl 0 rfl) ?_
  refine va_get (D := D) (ci := 3) (v := .ref i4) (C := R_Sb) (T := T_Sb) (N := 11) hx hb ht u_Sb hown hK hP 0 rfl rfl 6 (by decide) (ht _ wd_208) (fun _ h9 => h9) rfl d_Sb_strikeOneWay_1 ?_
  refine lv_iload_n hx hb d_Sb_strikeOneWay_4 rfl (lv_at hl 1 rfl) ?_
  refine lv_dup2_11 hx hb d_Sb_strikeOneWay_5 rfl rfl ?_
  refine wi_ald hx hb hK hP 1 0 rfl rfl (by omega) (by omega) d_Sb_strikeOneWay_6 ?_
  refine lv_iconst (v := nI 1) hx hb d_Sb_strikeOneWay_7 (by decide) ?_
  refine wi_sub hx hb d_Sb_strikeOneWay_8 (by omega) ?_
  refine wi_ast hx hb hK hP hD hS 1 0 rfl rfl (by omega) (by omega) d_Sb_strikeOneWay_9 (fun H locs hP hD hS => ?_)
  have hP : va_P D kcl [(h, .inr (3, [.ref i1, .ref i2, .ref i3, .int (nI K), .int (nI sc), .int (nI aw), .ref i4, .ref i5, .int (nI uc), .ref i6, .ref i7])), (i4, .inl (cI, 1500, .inl (wA (va_up fy v ((fy v) - 1))))), (i5, .inl (cI, 1500, .inl (wA fu)))] H := hP
  have hD : va_D A [(h, .inr (3, [.ref i1, .ref i2, .ref i3, .int (nI K), .int (nI sc), .int (nI aw), .ref i4, .ref i5, .int (nI uc), .ref i6, .ref i7])), (i4, .inl (cI, 1500, .inl (wA (va_up fy v ((fy v) - 1))))), (i5, .inl (cI, 1500, .inl (wA fu)))] := hD
  refine lv_aload_n hx hb d_Sb_strikeOneWay_10 rfl (lv_at hl 0 rfl) ?_
  refine va_get (D := D) (ci := 3) (v := .ref i4) (C := R_Sb) (T := T_Sb) (N := 11) hx hb ht u_Sb hown hK hP 0 rfl rfl 6 (by decide) (ht _ wd_208) (fun _ h9 => h9) rfl d_Sb_strikeOneWay_11 ?_
  refine lv_iload_n hx hb d_Sb_strikeOneWay_14 rfl (lv_at hl 1 rfl) ?_
  refine wi_ald hx hb hK hP 1 0 rfl rfl (by omega) (by omega) d_Sb_strikeOneWay_15 ?_
  rw [va_up_self]
  refine wi_if_ne hx hb d_Sb_strikeOneWay_16 rfl (by omega) (fun h16 => ?_) (fun h16 => ?_)
  · exact k_retv hQ hx hb hr hlk hAe hK hP hD hS (Nat.le_of_ble_eq_true rfl) (Nat.le_of_ble_eq_true rfl) (Nat.le_of_ble_eq_true rfl) ⟨fu, uc, by rw [if_neg (by omega)], by rw [if_neg (by omega)], rfl⟩ d_Sb_strikeOneWay_36
  · have huc := hu h16
    refine lv_aload_n hx hb d_Sb_strikeOneWay_19 rfl (lv_at hl 0 rfl) ?_
    refine va_get (D := D) (ci := 3) (v := .ref i5) (C := R_Sb) (T := T_Sb) (N := 11) hx hb ht u_Sb hown hK hP 0 rfl rfl 7 (by decide) (ht _ wd_209) (fun _ h9 => h9) rfl d_Sb_strikeOneWay_20 ?_
    refine lv_aload_n hx hb d_Sb_strikeOneWay_23 rfl (lv_at hl 0 rfl) ?_
    refine lv_dup hx hb d_Sb_strikeOneWay_24 rfl ?_
    refine va_get (D := D) (ci := 3) (v := .int (nI uc)) (C := R_Sb) (T := T_Sb) (N := 11) hx hb ht u_Sb hown hK hP 0 rfl rfl 8 (by decide) (ht _ wd_210) (fun _ h9 => h9) rfl d_Sb_strikeOneWay_25 ?_
    refine lv_dup_x1 hx hb d_Sb_strikeOneWay_28 rfl rfl ?_
    refine lv_iconst (v := nI 1) hx hb d_Sb_strikeOneWay_29 (by decide) ?_
    refine wi_add hx hb d_Sb_strikeOneWay_30 ?_
    refine va_put (D := D) (ci := 3) (v := .int (nI (uc + 1))) (ty := .int) (C := R_Sb) (T := T_Sb) (N := 11) hx hb ht u_Sb t_Sb t_Sb_ok n_Sb hown hK hP hD hS 0 rfl rfl 8 (by decide) (ht _ wd_210) (fun _ h9 => h9) rfl (by decide +kernel) rfl rfl (Nat.le_of_ble_eq_true rfl) d_Sb_strikeOneWay_31 (fun H locs hP hD hS => ?_)
    have hP : va_P D kcl [(h, .inr (3, [.ref i1, .ref i2, .ref i3, .int (nI K), .int (nI sc), .int (nI aw), .ref i4, .ref i5, .int (nI (uc + 1)), .ref i6, .ref i7])), (i4, .inl (cI, 1500, .inl (wA (va_up fy v ((fy v) - 1))))), (i5, .inl (cI, 1500, .inl (wA fu)))] H := hP
    have hD : va_D A [(h, .inr (3, [.ref i1, .ref i2, .ref i3, .int (nI K), .int (nI sc), .int (nI aw), .ref i4, .ref i5, .int (nI (uc + 1)), .ref i6, .ref i7])), (i4, .inl (cI, 1500, .inl (wA (va_up fy v ((fy v) - 1))))), (i5, .inl (cI, 1500, .inl (wA fu)))] := hD
    refine lv_iload_n hx hb d_Sb_strikeOneWay_34 rfl (lv_at hl 1 rfl) ?_
    refine wi_ast hx hb hK hP hD hS 2 0 rfl rfl (by omega) (by omega) d_Sb_strikeOneWay_35 (fun H locs hP hD hS => ?_)
    have hP : va_P D kcl [(h, .inr (3, [.ref i1, .ref i2, .ref i3, .int (nI K), .int (nI sc), .int (nI aw), .ref i4, .ref i5, .int (nI (uc + 1)), .ref i6, .ref i7])), (i4, .inl (cI, 1500, .inl (wA (va_up fy v ((fy v) - 1))))), (i5, .inl (cI, 1500, .inl (wA (va_up fu uc v))))] H := hP
    have hD : va_D A [(h, .inr (3, [.ref i1, .ref i2, .ref i3, .int (nI K), .int (nI sc), .int (nI aw), .ref i4, .ref i5, .int (nI (uc + 1)), .ref i6, .ref i7])), (i4, .inl (cI, 1500, .inl (wA (va_up fy v ((fy v) - 1))))), (i5, .inl (cI, 1500, .inl (wA (va_up fu uc v))))] := hD
    exact k_retv hQ hx hb hr hlk hAe hK hP hD hS (Nat.le_of_ble_eq_true rfl) (Nat.le_of_ble_eq_true rfl) (Nat.le_of_ble_eq_true rfl) ⟨va_up fu uc v, uc + 1, by rw [if_pos h16], by rw [if_pos h16], rfl⟩ d_Sb_strikeOneWay_36
set_option maxHeartbeats 4000000 in
set_option maxRecDepth 100000 in
theorem c_Sb_listDeadEnds (l : Launch) (Hs : Heap) (D : va_G) (cI cZ cL : ClassId) (h : Nat) (i1 : Nat) (i2 : Nat) (i3 : Nat) (i4 : Nat) (i5 : Nat) (i6 : Nat) (i7 : Nat) (K : Nat) (sc : Nat) (aw : Nat) (uc : Nat) (fs : Nat → Nat) (fw : Nat → Nat) (fy : Nat → Nat) (fu : Nat → Nat) (hok : sb_ok K fs fw sc aw) : kV l Hs D kcl (ty3 cI cZ cL) y_Sb_listDeadEnds (mws y_Sb_listDeadEnds b_Sb_listDeadEnds 2 (Option.none : Option Jvm.ClassFile.FieldType)) ({ frames := 2, cells := 0, slots := 0, locals := 45 } : Room) [.ref h] [(h, .inr (3, [.ref i1, .ref i2, .ref i3, .int (nI K), .int (nI sc), .int (nI aw), .ref i4, .ref i5, .int (nI uc), .ref i6, .ref i7])), (i3, .inl (cI, 4, .inl (wA fw))), (i2, .inl (cI, 4, .inl (wA fs))), (i4, .inl (cI, 1500, .inl (wA fy))), (i5, .inl (cI, 1500, .inl (wA fu)))] (fun w => ∃ (y2 : Nat → Nat), ∃ (u2 : Nat → Nat), ∃ (c2 : Nat), (pw_J K fs y2 u2 c2 0 (fun _ _ => false)) ∧ w = [(h, .inr (3, [.ref i1, .ref i2, .ref i3, .int (nI K), .int (nI sc), .int (nI aw), .ref i4, .ref i5, .int (nI c2), .ref i6, .ref i7])), (i3, .inl (cI, 4, .inl (wA fw))), (i2, .inl (cI, 4, .inl (wA fs))), (i4, .inl (cI, 1500, .inl (wA y2))), (i5, .inl (cI, 1500, .inl (wA u2)))]) := by
  intro sz
  refine k_of (cc := b_Sb_listDeadEnds) (maxL := 2) (ret := (Option.none : Option Jvm.ClassFile.FieldType)) (by decide) rfl (Nat.le_of_ble_eq_true rfl) ?_
  intro p e s m args below meth c ls H locs A Q hQ hx hb hml hr hts hown hlk hnm hsz hAe hP hK hD hS hA hE hAH hl
  have ht : ∀ w ∈ mw, w.before args s = true := fun w h => hts w (List.mem_cons_of_mem _ h)
  have hl : lv_has ls 2 [(0, .ref h)] := hl
  refine lv_aload_n hx hb d_Sb_listDeadEnds_0 rfl (lv_at hl 0 rfl) ?_
  refine lv_iconst (v := nI 0) hx hb d_Sb_listDeadEnds_1 (by decide) ?_
  refine va_put (D := D) (ci := 3) (v := .int (nI 0)) (ty := .int) (C := R_Sb) (T := T_Sb) (N := 11) hx hb ht u_Sb t_Sb t_Sb_ok n_Sb hown hK hP hD hS 0 rfl rfl 8 (by decide) (ht _ wd_210) (fun _ h9 => h9) rfl (by decide +kernel) rfl rfl (Nat.le_of_ble_eq_true rfl) d_Sb_listDeadEnds_2 (fun H locs hP hD hS => ?_)
  have hP : va_P D kcl [(h, .inr (3, [.ref i1, .ref i2, .ref i3, .int (nI K), .int (nI sc), .int (nI aw), .ref i4, .ref i5, .int (nI 0), .ref i6, .ref i7])), (i3, .inl (cI, 4, .inl (wA fw))), (i2, .inl (cI, 4, .inl (wA fs))), (i4, .inl (cI, 1500, .inl (wA fy))), (i5, .inl (cI, 1500, .inl (wA fu)))] H := hP
  have hD : va_D A [(h, .inr (3, [.ref i1, .ref i2, .ref i3, .int (nI K), .int (nI sc), .int (nI aw), .ref i4, .ref i5, .int (nI 0), .ref i6, .ref i7])), (i3, .inl (cI, 4, .inl (wA fw))), (i2, .inl (cI, 4, .inl (wA fs))), (i4, .inl (cI, 1500, .inl (wA fy))), (i5, .inl (cI, 1500, .inl (wA fu)))] := hD
  refine lv_iconst (v := nI 0) hx hb d_Sb_listDeadEnds_5 (by decide) ?_
  refine lv_istore_n (lv' := [(1, .int (nI 0)), (0, .ref h)]) hx hb d_Sb_listDeadEnds_6 rfl hl (by decide) rfl (fun ls hl => ?_)
  have loop7 : ∀ (d : Nat) (k : Nat) (y : Nat → Nat) (u : Nat → Nat) (c0 : Nat) (ls : Array Slot) (H : Heap) (locs : List Loc), sc - k = d → (k ≤ sc) → (sb_LD K fs k y u c0) → lv_has ls 2 [(0, .ref h), (1, .int (nI k))] → va_P D kcl [(h, .inr (3, [.ref i1, .ref i2, .ref i3, .int (nI K), .int (nI sc), .int (nI aw), .ref i4, .ref i5, .int (nI c0), .ref i6, .ref i7])), (i3, .inl (cI, 4, .inl (wA fw))), (i2, .inl (cI, 4, .inl (wA fs))), (i4, .inl (cI, 1500, .inl (wA y))), (i5, .inl (cI, 1500, .inl (wA u)))] H → va_D A [(h, .inr (3, [.ref i1, .ref i2, .ref i3, .int (nI K), .int (nI sc), .int (nI aw), .ref i4, .ref i5, .int (nI c0), .ref i6, .ref i7])), (i3, .inl (cI, 4, .inl (wA fw))), (i2, .inl (cI, 4, .inl (wA fs))), (i4, .inl (cI, 1500, .inl (wA y))), (i5, .inl (cI, 1500, .inl (wA u)))] → va_S A s.heap H locs → W p l e ({ frames := 2, cells := 0, slots := 0, locals := 45 } : Room) s m args below meth c H locs 0 0 Q (F0 m 7 ls []) := by
    intro d
    induction d using Nat.strongRecOn with
    | ind d ih7 =>
      intro k y u c0 ls H locs hd7 hk hLD hl hP hD hS
      have hsc := hok.2.2.2.2.2.2
      have hck := hLD.2.2.2.2
      have hK4 := hok.2.1
      refine lv_iload_n hx hb d_Sb_listDeadEnds_7 rfl (lv_at hl 1 rfl) ?_
      refine lv_aload_n hx hb d_Sb_listDeadEnds_8 rfl (lv_at hl 0 rfl) ?_
      refine va_get (D := D) (ci := 3) (v := .int (nI sc)) (C := R_Sb) (T := T_Sb) (N := 11) hx hb ht u_Sb hown hK hP 0 rfl rfl 4 (by decide) (ht _ wd_206) (fun _ h9 => h9) rfl d_Sb_listDeadEnds_9 ?_
      refine wi_ge hx hb d_Sb_listDeadEnds_12 rfl (by omega) (by omega) (fun h12 => ?_) (fun h12 => ?_)
      · exact k_retv hQ hx hb hr hlk hAe hK hP hD hS (Nat.le_of_ble_eq_true rfl) (Nat.le_of_ble_eq_true rfl) (Nat.le_of_ble_eq_true rfl) ⟨y, u, c0, sb_LD_J (by rw [← hok.2.2.2.2.2.1, show sc = k by omega]; exact hLD), rfl⟩ d_Sb_listDeadEnds_58
      · refine lv_aload_n hx hb d_Sb_listDeadEnds_15 rfl (lv_at hl 0 rfl) ?_
        refine va_get (D := D) (ci := 3) (v := .ref i4) (C := R_Sb) (T := T_Sb) (N := 11) hx hb ht u_Sb hown hK hP 0 rfl rfl 6 (by decide) (ht _ wd_208) (fun _ h9 => h9) rfl d_Sb_listDeadEnds_16 ?_
        refine lv_iload_n hx hb d_Sb_listDeadEnds_19 rfl (lv_at hl 1 rfl) ?_
        refine lv_aload_n hx hb d_Sb_listDeadEnds_20 rfl (lv_at hl 0 rfl) ?_
        refine lv_iload_n hx hb d_Sb_listDeadEnds_21 rfl (lv_at hl 1 rfl) ?_
        refine ck_i (wc := [(h, .inr (3, [.ref i1, .ref i2, .ref i3, .int (nI K), .int (nI sc), .int (nI aw), .ref i4, .ref i5, .int (nI c0), .ref i6, .ref i7])), (i3, .inl (cI, 4, .inl (wA fw))), (i2, .inl (cI, 4, .inl (wA fs)))]) (va_runV (As := [.int (nI k)]) (rest := [.int (nI k), .ref i4]) (C := R_Sb) ⟨hx, hb, hml, hown, ht⟩ (c_Sb_countWaysOn l Hs D cI cZ cL h i1 i2 i3 i4 i5 i6 i7 K sc aw c0 fs fw k hok h12 H.size) (gw_V 1 ht wd_262 wd_25 wd_259 wd_261 ws_9 (by decide +kernel) ⟨Nat.le_of_ble_eq_true rfl, Nat.le_of_ble_eq_true rfl⟩) (k_preV hE hAH hK hP hD hS [0, 1, 2] rfl rfl 0 rfl rfl) rfl rfl hl.1 rfl (lv_room (Nat.le_of_ble_eq_true rfl)) d_Sb_listDeadEnds_22 ⟨Nat.le_of_ble_eq_true rfl, Nat.le_of_ble_eq_true rfl⟩) hP hD hS hA [0, 1, 2] rfl rfl (fun r22 w1 H locs hpost hP hD hS => ?_)
        obtain ⟨rfl, rfl⟩ := hpost
        have hP : va_P D kcl [(h, .inr (3, [.ref i1, .ref i2, .ref i3, .int (nI K), .int (nI sc), .int (nI aw), .ref i4, .ref i5, .int (nI c0), .ref i6, .ref i7])), (i3, .inl (cI, 4, .inl (wA fw))), (i2, .inl (cI, 4, .inl (wA fs))), (i4, .inl (cI, 1500, .inl (wA y))), (i5, .inl (cI, 1500, .inl (wA u)))] H := hP
        have hD : va_D A [(h, .inr (3, [.ref i1, .ref i2, .ref i3, .int (nI K), .int (nI sc), .int (nI aw), .ref i4, .ref i5, .int (nI c0), .ref i6, .ref i7])), (i3, .inl (cI, 4, .inl (wA fw))), (i2, .inl (cI, 4, .inl (wA fs))), (i4, .inl (cI, 1500, .inl (wA y))), (i5, .inl (cI, 1500, .inl (wA u)))] := hD
        have hcl : pw_ct (pw_okb K fs k) K ≤ K := pw_ct_le _ K
        refine wi_ast hx hb hK hP hD hS 3 0 rfl rfl (by omega) (by omega) d_Sb_listDeadEnds_25 (fun H locs hP hD hS => ?_)
        have hP : va_P D kcl [(h, .inr (3, [.ref i1, .ref i2, .ref i3, .int (nI K), .int (nI sc), .int (nI aw), .ref i4, .ref i5, .int (nI c0), .ref i6, .ref i7])), (i3, .inl (cI, 4, .inl (wA fw))), (i2, .inl (cI, 4, .inl (wA fs))), (i4, .inl (cI, 1500, .inl (wA (va_up y k (pw_ct (pw_okb K fs k) K))))), (i5, .inl (cI, 1500, .inl (wA u)))] H := hP
        have hD : va_D A [(h, .inr (3, [.ref i1, .ref i2, .ref i3, .int (nI K), .int (nI sc), .int (nI aw), .ref i4, .ref i5, .int (nI c0), .ref i6, .ref i7])), (i3, .inl (cI, 4, .inl (wA fw))), (i2, .inl (cI, 4, .inl (wA fs))), (i4, .inl (cI, 1500, .inl (wA (va_up y k (pw_ct (pw_okb K fs k) K))))), (i5, .inl (cI, 1500, .inl (wA u)))] := hD
        refine lv_aload_n hx hb d_Sb_listDeadEnds_26 rfl (lv_at hl 0 rfl) ?_
        refine va_get (D := D) (ci := 3) (v := .ref i4) (C := R_Sb) (T := T_Sb) (N := 11) hx hb ht u_Sb hown hK hP 0 rfl rfl 6 (by decide) (ht _ wd_208) (fun _ h9 => h9) rfl d_Sb_listDeadEnds_27 ?_
        refine lv_iload_n hx hb d_Sb_listDeadEnds_30 rfl (lv_at hl 1 rfl) ?_
        refine wi_ald hx hb hK hP 3 0 rfl rfl (by omega) (by omega) d_Sb_listDeadEnds_31 ?_
        rw [va_up_self]
        refine wi_if_ne hx hb d_Sb_listDeadEnds_32 rfl (by omega) (fun h32 => ?_) (fun h32 => ?_)
        · refine wi_inc (k := 1) (lv' := [(1, .int (nI (k + 1))), (0, .ref h)]) hx hb d_Sb_listDeadEnds_52 hl rfl (by decide) rfl (fun ls hl => ?_)
          refine lv_goto hx hb d_Sb_listDeadEnds_55 rfl ?_
          exact ih7 (sc - (k + 1)) (by omega) (k + 1) (va_up y k (pw_ct (pw_okb K fs k) K)) (u) (c0) ls H locs rfl (by omega) (sb_LD_f hLD h32) (lv_sub hl [1, 0] rfl) hP hD hS
        · refine lv_aload_n hx hb d_Sb_listDeadEnds_35 rfl (lv_at hl 0 rfl) ?_
          refine va_get (D := D) (ci := 3) (v := .ref i5) (C := R_Sb) (T := T_Sb) (N := 11) hx hb ht u_Sb hown hK hP 0 rfl rfl 7 (by decide) (ht _ wd_209) (fun _ h9 => h9) rfl d_Sb_listDeadEnds_36 ?_
          refine lv_aload_n hx hb d_Sb_listDeadEnds_39 rfl (lv_at hl 0 rfl) ?_
          refine lv_dup hx hb d_Sb_listDeadEnds_40 rfl ?_
          refine va_get (D := D) (ci := 3) (v := .int (nI c0)) (C := R_Sb) (T := T_Sb) (N := 11) hx hb ht u_Sb hown hK hP 0 rfl rfl 8 (by decide) (ht _ wd_210) (fun _ h9 => h9) rfl d_Sb_listDeadEnds_41 ?_
          refine lv_dup_x1 hx hb d_Sb_listDeadEnds_44 rfl rfl ?_
          refine lv_iconst (v := nI 1) hx hb d_Sb_listDeadEnds_45 (by decide) ?_
          refine wi_add hx hb d_Sb_listDeadEnds_46 ?_
          refine va_put (D := D) (ci := 3) (v := .int (nI (c0 + 1))) (ty := .int) (C := R_Sb) (T := T_Sb) (N := 11) hx hb ht u_Sb t_Sb t_Sb_ok n_Sb hown hK hP hD hS 0 rfl rfl 8 (by decide) (ht _ wd_210) (fun _ h9 => h9) rfl (by decide +kernel) rfl rfl (Nat.le_of_ble_eq_true rfl) d_Sb_listDeadEnds_47 (fun H locs hP hD hS => ?_)
          have hP : va_P D kcl [(h, .inr (3, [.ref i1, .ref i2, .ref i3, .int (nI K), .int (nI sc), .int (nI aw), .ref i4, .ref i5, .int (nI (c0 + 1)), .ref i6, .ref i7])), (i3, .inl (cI, 4, .inl (wA fw))), (i2, .inl (cI, 4, .inl (wA fs))), (i4, .inl (cI, 1500, .inl (wA (va_up y k (pw_ct (pw_okb K fs k) K))))), (i5, .inl (cI, 1500, .inl (wA u)))] H := hP
          have hD : va_D A [(h, .inr (3, [.ref i1, .ref i2, .ref i3, .int (nI K), .int (nI sc), .int (nI aw), .ref i4, .ref i5, .int (nI (c0 + 1)), .ref i6, .ref i7])), (i3, .inl (cI, 4, .inl (wA fw))), (i2, .inl (cI, 4, .inl (wA fs))), (i4, .inl (cI, 1500, .inl (wA (va_up y k (pw_ct (pw_okb K fs k) K))))), (i5, .inl (cI, 1500, .inl (wA u)))] := hD
          refine lv_iload_n hx hb d_Sb_listDeadEnds_50 rfl (lv_at hl 1 rfl) ?_
          refine wi_ast hx hb hK hP hD hS 4 0 rfl rfl (by omega) (by omega) d_Sb_listDeadEnds_51 (fun H locs hP hD hS => ?_)
          have hP : va_P D kcl [(h, .inr (3, [.ref i1, .ref i2, .ref i3, .int (nI K), .int (nI sc), .int (nI aw), .ref i4, .ref i5, .int (nI (c0 + 1)), .ref i6, .ref i7])), (i3, .inl (cI, 4, .inl (wA fw))), (i2, .inl (cI, 4, .inl (wA fs))), (i4, .inl (cI, 1500, .inl (wA (va_up y k (pw_ct (pw_okb K fs k) K))))), (i5, .inl (cI, 1500, .inl (wA (va_up u c0 k))))] H := hP
          have hD : va_D A [(h, .inr (3, [.ref i1, .ref i2, .ref i3, .int (nI K), .int (nI sc), .int (nI aw), .ref i4, .ref i5, .int (nI (c0 + 1)), .ref i6, .ref i7])), (i3, .inl (cI, 4, .inl (wA fw))), (i2, .inl (cI, 4, .inl (wA fs))), (i4, .inl (cI, 1500, .inl (wA (va_up y k (pw_ct (pw_okb K fs k) K))))), (i5, .inl (cI, 1500, .inl (wA (va_up u c0 k))))] := hD
          refine wi_inc (k := 1) (lv' := [(1, .int (nI (k + 1))), (0, .ref h)]) hx hb d_Sb_listDeadEnds_52 hl rfl (by decide) rfl (fun ls hl => ?_)
          refine lv_goto hx hb d_Sb_listDeadEnds_55 rfl ?_
          exact ih7 (sc - (k + 1)) (by omega) (k + 1) (va_up y k (pw_ct (pw_okb K fs k) K)) (va_up u c0 k) (c0 + 1) ls H locs rfl (by omega) (sb_LD_t hLD h32) (lv_sub hl [1, 0] rfl) hP hD hS
  exact loop7 _ (0) (fy) (fu) (0) ls H locs rfl (Nat.zero_le _) sb_LD_0 (lv_sub hl [1, 0] rfl) hP hD hS
set_option maxHeartbeats 4000000 in
set_option maxRecDepth 100000 in
theorem c_Sb_strikeWaysTo (l : Launch) (Hs : Heap) (D : va_G) (cI cZ cL : ClassId) (h : Nat) (i1 : Nat) (i2 : Nat) (i3 : Nat) (i4 : Nat) (i5 : Nat) (i6 : Nat) (i7 : Nat) (K : Nat) (sc : Nat) (aw : Nat) (uc : Nat) (fs : Nat → Nat) (fw : Nat → Nat) (fy : Nat → Nat) (fu : Nat → Nat) (v : Nat) (kp : Nat) (DD : Nat → Nat → Bool) (hok : sb_ok K fs fw sc aw) (hJ : pw_J K fs fy fu uc kp DD) (hkp : kp < uc) (hvu : v = fu kp) (hJD : sb_JD K fs fu kp 0 0 DD) : kV l Hs D kcl (ty3 cI cZ cL) y_Sb_strikeWaysTo (mws y_Sb_strikeWaysTo b_Sb_strikeWaysTo 5 (Option.none : Option Jvm.ClassFile.FieldType)) ({ frames := 2, cells := 0, slots := 0, locals := 46 } : Room) [.ref h, .int (nI v)] [(h, .inr (3, [.ref i1, .ref i2, .ref i3, .int (nI K), .int (nI sc), .int (nI aw), .ref i4, .ref i5, .int (nI uc), .ref i6, .ref i7])), (i3, .inl (cI, 4, .inl (wA fw))), (i2, .inl (cI, 4, .inl (wA fs))), (i4, .inl (cI, 1500, .inl (wA fy))), (i5, .inl (cI, 1500, .inl (wA fu)))] (fun w => ∃ (y2 : Nat → Nat), ∃ (u2 : Nat → Nat), ∃ (c2 : Nat), ∃ (D2 : Nat → Nat → Bool), (pw_J K fs y2 u2 c2 (kp + 1) D2) ∧ (sb_JD K fs u2 (kp + 1) 0 0 D2) ∧ w = [(h, .inr (3, [.ref i1, .ref i2, .ref i3, .int (nI K), .int (nI sc), .int (nI aw), .ref i4, .ref i5, .int (nI c2), .ref i6, .ref i7])), (i3, .inl (cI, 4, .inl (wA fw))), (i2, .inl (cI, 4, .inl (wA fs))), (i4, .inl (cI, 1500, .inl (wA y2))), (i5, .inl (cI, 1500, .inl (wA u2)))]) := by
  intro sz
  refine k_of (cc := b_Sb_strikeWaysTo) (maxL := 5) (ret := (Option.none : Option Jvm.ClassFile.FieldType)) (by decide) rfl (Nat.le_of_ble_eq_true rfl) ?_
  intro p e s m args below meth c ls H locs A Q hQ hx hb hml hr hts hown hlk hnm hsz hAe hP hK hD hS hA hE hAH hl
  have ht : ∀ w ∈ mw, w.before args s = true := fun w h => hts w (List.mem_cons_of_mem _ h)
  have hl : lv_has ls 5 [(0, .ref h), (1, .int (nI v))] := hl
  have hvs : v < sc := by rw [hvu, hok.2.2.2.2.2.1]; exact hJ.2.2.2.1 kp hkp
  have hK4 := hok.2.1
  have hsc := hok.2.2.2.2.2.2
  have haw := sb_ok_aw hok
  refine lv_iconst (v := nI 0) hx hb d_Sb_strikeWaysTo_0 (by decide) ?_
  refine lv_istore_n (lv' := [(2, .int (nI 0)), (0, .ref h), (1, .int (nI v))]) hx hb d_Sb_strikeWaysTo_1 rfl hl (by decide) rfl (fun ls hl => ?_)
  have loop2 : ∀ (d : Nat) (t : Nat) (y : Nat → Nat) (u : Nat → Nat) (c0 : Nat) (DX : Nat → Nat → Bool) (ls : Array Slot) (H : Heap) (locs : List Loc), K - t = d → (t ≤ K) → (sb_X K fs v kp t 0 y u c0 DX) → lv_has ls 5 [(0, .ref h), (1, .int (nI v)), (2, .int (nI t))] → va_P D kcl [(h, .inr (3, [.ref i1, .ref i2, .ref i3, .int (nI K), .int (nI sc), .int (nI aw), .ref i4, .ref i5, .int (nI c0), .ref i6, .ref i7])), (i3, .inl (cI, 4, .inl (wA fw))), (i2, .inl (cI, 4, .inl (wA fs))), (i4, .inl (cI, 1500, .inl (wA y))), (i5, .inl (cI, 1500, .inl (wA u)))] H → va_D A [(h, .inr (3, [.ref i1, .ref i2, .ref i3, .int (nI K), .int (nI sc), .int (nI aw), .ref i4, .ref i5, .int (nI c0), .ref i6, .ref i7])), (i3, .inl (cI, 4, .inl (wA fw))), (i2, .inl (cI, 4, .inl (wA fs))), (i4, .inl (cI, 1500, .inl (wA y))), (i5, .inl (cI, 1500, .inl (wA u)))] → va_S A s.heap H locs → W p l e ({ frames := 2, cells := 0, slots := 0, locals := 46 } : Room) s m args below meth c H locs 0 0 Q (F0 m 2 ls []) := by
    intro d
    induction d using Nat.strongRecOn with
    | ind d ih2 =>
      intro t y u c0 DX ls H locs hd2 htK hX hl hP hD hS
      refine lv_iload_n hx hb d_Sb_strikeWaysTo_2 rfl (lv_at hl 2 rfl) ?_
      refine lv_aload_n hx hb d_Sb_strikeWaysTo_3 rfl (lv_at hl 0 rfl) ?_
      refine va_get (D := D) (ci := 3) (v := .int (nI K)) (C := R_Sb) (T := T_Sb) (N := 11) hx hb ht u_Sb hown hK hP 0 rfl rfl 3 (by decide) (ht _ wd_205) (fun _ h9 => h9) rfl d_Sb_strikeWaysTo_4 ?_
      refine wi_ge hx hb d_Sb_strikeWaysTo_7 rfl (by omega) (by omega) (fun h7 => ?_) (fun h7 => ?_)
      · have htK2 : t = K := by omega
        rw [htK2] at hX
        have hf := sb_X_end hX
        exact k_retv hQ hx hb hr hlk hAe hK hP hD hS (Nat.le_of_ble_eq_true rfl) (Nat.le_of_ble_eq_true rfl) (Nat.le_of_ble_eq_true rfl) ⟨y, u, c0, DX, hf.1, hf.2, rfl⟩ d_Sb_strikeWaysTo_81
      · have hst := hok.2.2.1 t h7
        refine lv_aload_n hx hb d_Sb_strikeWaysTo_10 rfl (lv_at hl 0 rfl) ?_
        refine lv_iload_n hx hb d_Sb_strikeWaysTo_11 rfl (lv_at hl 1 rfl) ?_
        refine lv_iload_n hx hb d_Sb_strikeWaysTo_12 rfl (lv_at hl 2 rfl) ?_
        refine ck_i (wc := [(h, .inr (3, [.ref i1, .ref i2, .ref i3, .int (nI K), .int (nI sc), .int (nI aw), .ref i4, .ref i5, .int (nI c0), .ref i6, .ref i7])), (i3, .inl (cI, 4, .inl (wA fw))), (i2, .inl (cI, 4, .inl (wA fs)))]) (va_runV (As := [.int (nI v), .int (nI t)]) (rest := []) (C := R_Sb) ⟨hx, hb, hml, hown, ht⟩ (c_Sb_canComeFrom l Hs D cI cZ cL h i1 i2 i3 i4 i5 i6 i7 K sc aw c0 fs fw v t hok hvs h7 H.size) (gw_V 2 ht wd_274 wd_25 wd_271 wd_273 ws_12 (by decide +kernel) ⟨Nat.le_of_ble_eq_true rfl, Nat.le_of_ble_eq_true rfl⟩) (k_preV hE hAH hK hP hD hS [0, 1, 2] rfl rfl 0 rfl rfl) rfl rfl hl.1 rfl (lv_room (Nat.le_of_ble_eq_true rfl)) d_Sb_strikeWaysTo_13 ⟨Nat.le_of_ble_eq_true rfl, Nat.le_of_ble_eq_true rfl⟩) hP hD hS hA [0, 1, 2] rfl rfl (fun r13 w1 H locs hpost hP hD hS => ?_)
        obtain ⟨r0, hcc, rfl, rfl⟩ := hpost
        have hP : va_P D kcl [(h, .inr (3, [.ref i1, .ref i2, .ref i3, .int (nI K), .int (nI sc), .int (nI aw), .ref i4, .ref i5, .int (nI c0), .ref i6, .ref i7])), (i3, .inl (cI, 4, .inl (wA fw))), (i2, .inl (cI, 4, .inl (wA fs))), (i4, .inl (cI, 1500, .inl (wA y))), (i5, .inl (cI, 1500, .inl (wA u)))] H := hP
        have hD : va_D A [(h, .inr (3, [.ref i1, .ref i2, .ref i3, .int (nI K), .int (nI sc), .int (nI aw), .ref i4, .ref i5, .int (nI c0), .ref i6, .ref i7])), (i3, .inl (cI, 4, .inl (wA fw))), (i2, .inl (cI, 4, .inl (wA fs))), (i4, .inl (cI, 1500, .inl (wA y))), (i5, .inl (cI, 1500, .inl (wA u)))] := hD
        refine lv_if_eq hx hb d_Sb_strikeWaysTo_16 rfl (fun h16 => ?_) (fun h16 => ?_)
        · have hnc : ¬ pw_cf K fs v t := by
            rcases hcc with ⟨e, -⟩ | ⟨-, hd⟩
            · rw [e] at h16; exact absurd h16 (by decide)
            · exact hd
          refine wi_inc (k := 2) (lv' := [(2, .int (nI (t + 1))), (0, .ref h), (1, .int (nI v))]) hx hb d_Sb_strikeWaysTo_75 hl rfl (by decide) rfl (fun ls hl => ?_)
          refine lv_goto hx hb d_Sb_strikeWaysTo_78 rfl ?_
          exact ih2 (K - (t + 1)) (by omega) (t + 1) (y) (u) (c0) (DX) ls H locs rfl (by omega) (sb_X_no (sb_pos hok) h7 hX hnc) (lv_sub hl [1, 2, 0] rfl) hP hD hS
        · have hyc : pw_cf K fs v t := by
            rcases hcc with ⟨-, hd⟩ | ⟨e, -⟩
            · exact hd
            · exact absurd e h16
          have hwt := (sb_pr (j := 0) hok hvs h7 hyc).1
          refine lv_iload_n hx hb d_Sb_strikeWaysTo_19 rfl (lv_at hl 1 rfl) ?_
          refine lv_aload_n hx hb d_Sb_strikeWaysTo_20 rfl (lv_at hl 0 rfl) ?_
          refine va_get (D := D) (ci := 3) (v := .int (nI aw)) (C := R_Sb) (T := T_Sb) (N := 11) hx hb ht u_Sb hown hK hP 0 rfl rfl 5 (by decide) (ht _ wd_207) (fun _ h9 => h9) rfl d_Sb_strikeWaysTo_21 ?_
          refine wi_add hx hb d_Sb_strikeWaysTo_24 ?_
          refine lv_aload_n hx hb d_Sb_strikeWaysTo_25 rfl (lv_at hl 0 rfl) ?_
          refine va_get (D := D) (ci := 3) (v := .ref i3) (C := R_Sb) (T := T_Sb) (N := 11) hx hb ht u_Sb hown hK hP 0 rfl rfl 2 (by decide) (ht _ wd_204) (fun _ h9 => h9) rfl d_Sb_strikeWaysTo_26 ?_
          refine lv_iload_n hx hb d_Sb_strikeWaysTo_29 rfl (lv_at hl 2 rfl) ?_
          refine wi_ald hx hb hK hP 1 0 rfl rfl (by omega) (by omega) d_Sb_strikeWaysTo_30 ?_
          refine lv_aload_n hx hb d_Sb_strikeWaysTo_31 rfl (lv_at hl 0 rfl) ?_
          refine va_get (D := D) (ci := 3) (v := .ref i2) (C := R_Sb) (T := T_Sb) (N := 11) hx hb ht u_Sb hown hK hP 0 rfl rfl 1 (by decide) (ht _ wd_203) (fun _ h9 => h9) rfl d_Sb_strikeWaysTo_32 ?_
          refine lv_iload_n hx hb d_Sb_strikeWaysTo_35 rfl (lv_at hl 2 rfl) ?_
          refine wi_ald hx hb hK hP 2 0 rfl rfl (by omega) (by omega) d_Sb_strikeWaysTo_36 ?_
          refine wi_mul hx hb d_Sb_strikeWaysTo_37 ?_
          refine wi_sub hx hb d_Sb_strikeWaysTo_38 hwt ?_
          refine lv_istore_n (lv' := [(3, .int (nI ((v + aw) - ((fw t) * (fs t))))), (0, .ref h), (1, .int (nI v)), (2, .int (nI t))]) hx hb d_Sb_strikeWaysTo_39 rfl hl (by decide) rfl (fun ls hl => ?_)
          refine lv_iconst (v := nI 0) hx hb d_Sb_strikeWaysTo_40 (by decide) ?_
          refine lv_istore (lv' := [(4, .int (nI 0)), (3, .int (nI ((v + aw) - ((fw t) * (fs t))))), (0, .ref h), (1, .int (nI v)), (2, .int (nI t))]) hx hb d_Sb_strikeWaysTo_41 hl (by decide) rfl (fun ls hl => ?_)
          have loop43 : ∀ (d : Nat) (j : Nat) (y : Nat → Nat) (u : Nat → Nat) (c0 : Nat) (DX : Nat → Nat → Bool) (ls : Array Slot) (H : Heap) (locs : List Loc), fs t - j = d → (j ≤ fs t) → (sb_X K fs v kp t j y u c0 DX) → lv_has ls 5 [(0, .ref h), (1, .int (nI v)), (2, .int (nI t)), (3, .int (nI (v + aw - fw t * fs t))), (4, .int (nI j))] → va_P D kcl [(h, .inr (3, [.ref i1, .ref i2, .ref i3, .int (nI K), .int (nI sc), .int (nI aw), .ref i4, .ref i5, .int (nI c0), .ref i6, .ref i7])), (i3, .inl (cI, 4, .inl (wA fw))), (i2, .inl (cI, 4, .inl (wA fs))), (i4, .inl (cI, 1500, .inl (wA y))), (i5, .inl (cI, 1500, .inl (wA u)))] H → va_D A [(h, .inr (3, [.ref i1, .ref i2, .ref i3, .int (nI K), .int (nI sc), .int (nI aw), .ref i4, .ref i5, .int (nI c0), .ref i6, .ref i7])), (i3, .inl (cI, 4, .inl (wA fw))), (i2, .inl (cI, 4, .inl (wA fs))), (i4, .inl (cI, 1500, .inl (wA y))), (i5, .inl (cI, 1500, .inl (wA u)))] → va_S A s.heap H locs → W p l e ({ frames := 2, cells := 0, slots := 0, locals := 46 } : Room) s m args below meth c H locs 0 0 Q (F0 m 43 ls []) := by
            intro d
            induction d using Nat.strongRecOn with
            | ind d ih43 =>
              intro j y u c0 DX ls H locs hd43 hj hX hl hP hD hS
              refine lv_iload hx hb d_Sb_strikeWaysTo_43 (lv_at hl 4 rfl) ?_
              refine lv_aload_n hx hb d_Sb_strikeWaysTo_45 rfl (lv_at hl 0 rfl) ?_
              refine va_get (D := D) (ci := 3) (v := .ref i2) (C := R_Sb) (T := T_Sb) (N := 11) hx hb ht u_Sb hown hK hP 0 rfl rfl 1 (by decide) (ht _ wd_203) (fun _ h9 => h9) rfl d_Sb_strikeWaysTo_46 ?_
              refine lv_iload_n hx hb d_Sb_strikeWaysTo_49 rfl (lv_at hl 2 rfl) ?_
              refine wi_ald hx hb hK hP 2 0 rfl rfl (by omega) (by omega) d_Sb_strikeWaysTo_50 ?_
              refine wi_ge hx hb d_Sb_strikeWaysTo_51 rfl (by omega) (by omega) (fun h51 => ?_) (fun h51 => ?_)
              · refine wi_inc (k := 2) (lv' := [(2, .int (nI (t + 1))), (0, .ref h), (1, .int (nI v)), (3, .int (nI (v + aw - fw t * fs t))), (4, .int (nI j))]) hx hb d_Sb_strikeWaysTo_75 hl rfl (by decide) rfl (fun ls hl => ?_)
                refine lv_goto hx hb d_Sb_strikeWaysTo_78 rfl ?_
                exact ih2 (K - (t + 1)) (by omega) (t + 1) (y) (u) (c0) (DX) ls H locs rfl (by omega) (sb_X_all (sb_pos hok) h7 (by rw [← show j = fs t by omega]; exact hX)) (lv_sub hl [1, 2, 0] rfl) hP hD hS
              · have hXs := sb_X_str (sb_pos hok) h7 hX hyc h51
                have hyl := sb_J_le hX.1 _ hXs.1
                rw [← hok.2.2.2.2.2.1] at hXs
                refine lv_aload_n hx hb d_Sb_strikeWaysTo_54 rfl (lv_at hl 0 rfl) ?_
                refine lv_iload_n hx hb d_Sb_strikeWaysTo_55 rfl (lv_at hl 3 rfl) ?_
                refine lv_iload hx hb d_Sb_strikeWaysTo_56 (lv_at hl 4 rfl) ?_
                refine lv_aload_n hx hb d_Sb_strikeWaysTo_58 rfl (lv_at hl 0 rfl) ?_
                refine va_get (D := D) (ci := 3) (v := .ref i3) (C := R_Sb) (T := T_Sb) (N := 11) hx hb ht u_Sb hown hK hP 0 rfl rfl 2 (by decide) (ht _ wd_204) (fun _ h9 => h9) rfl d_Sb_strikeWaysTo_59 ?_
                refine lv_iload_n hx hb d_Sb_strikeWaysTo_62 rfl (lv_at hl 2 rfl) ?_
                refine wi_ald hx hb hK hP 1 0 rfl rfl (by omega) (by omega) d_Sb_strikeWaysTo_63 ?_
                refine wi_mul hx hb d_Sb_strikeWaysTo_64 ?_
                refine wi_add hx hb d_Sb_strikeWaysTo_65 ?_
                rw [(sb_pr (j := j) hok hvs h7 hyc).2]
                refine ck_v (wc := [(h, .inr (3, [.ref i1, .ref i2, .ref i3, .int (nI K), .int (nI sc), .int (nI aw), .ref i4, .ref i5, .int (nI c0), .ref i6, .ref i7])), (i4, .inl (cI, 1500, .inl (wA y))), (i5, .inl (cI, 1500, .inl (wA u)))]) (va_runV (As := [.int (nI (pw_pr K fs v t j))]) (rest := []) (C := R_Sb) ⟨hx, hb, hml, hown, ht⟩ (c_Sb_strikeOneWay l Hs D cI cZ cL h i1 i2 i3 i4 i5 i6 i7 K sc aw c0 y u (pw_pr K fs v t j) (by omega) hXs.2.1 (by omega) (fun z => by have := hXs.2.2.1 z; omega) H.size) (gw_V 1 ht wd_278 wd_25 wd_275 wd_277 ws_13 (by decide +kernel) ⟨Nat.le_of_ble_eq_true rfl, Nat.le_of_ble_eq_true rfl⟩) (k_preV hE hAH hK hP hD hS [0, 3, 4] rfl rfl 0 rfl rfl) rfl rfl hl.1 rfl (lv_room (Nat.le_of_ble_eq_true rfl)) d_Sb_strikeWaysTo_66 ⟨Nat.le_of_ble_eq_true rfl, Nat.le_of_ble_eq_true rfl⟩) hP hD hS hA [0, 3, 4] rfl rfl (fun w1 H locs hpost hP hD hS => ?_)
                obtain ⟨fu2, uc2, hfa, hfb, rfl⟩ := hpost
                have hP : va_P D kcl [(h, .inr (3, [.ref i1, .ref i2, .ref i3, .int (nI K), .int (nI sc), .int (nI aw), .ref i4, .ref i5, .int (nI uc2), .ref i6, .ref i7])), (i3, .inl (cI, 4, .inl (wA fw))), (i2, .inl (cI, 4, .inl (wA fs))), (i4, .inl (cI, 1500, .inl (wA (va_up y (pw_pr K fs v t j) (y (pw_pr K fs v t j) - 1))))), (i5, .inl (cI, 1500, .inl (wA fu2)))] H := hP
                have hD : va_D A [(h, .inr (3, [.ref i1, .ref i2, .ref i3, .int (nI K), .int (nI sc), .int (nI aw), .ref i4, .ref i5, .int (nI uc2), .ref i6, .ref i7])), (i3, .inl (cI, 4, .inl (wA fw))), (i2, .inl (cI, 4, .inl (wA fs))), (i4, .inl (cI, 1500, .inl (wA (va_up y (pw_pr K fs v t j) (y (pw_pr K fs v t j) - 1))))), (i5, .inl (cI, 1500, .inl (wA fu2)))] := hD
                subst hfa
                subst hfb
                refine wi_inc (k := 4) (lv' := [(4, .int (nI (j + 1))), (0, .ref h), (1, .int (nI v)), (2, .int (nI t)), (3, .int (nI (v + aw - fw t * fs t)))]) hx hb d_Sb_strikeWaysTo_69 hl rfl (by decide) rfl (fun ls hl => ?_)
                refine lv_goto hx hb d_Sb_strikeWaysTo_72 rfl ?_
                exact ih43 (fs t - (j + 1)) (by omega) (j + 1) (va_up y (pw_pr K fs v t j) (y (pw_pr K fs v t j) - 1)) (if y (pw_pr K fs v t j) - 1 = 0 then va_up u c0 (pw_pr K fs v t j) else u) (if y (pw_pr K fs v t j) - 1 = 0 then c0 + 1 else c0) (fun a b => DX a b || (decide (a = pw_pr K fs v t j) && decide (b = t))) ls H locs rfl (by omega) hXs.2.2.2 (lv_sub hl [1, 2, 3, 4, 0] rfl) hP hD hS
          exact loop43 _ (0) (y) (u) (c0) (DX) ls H locs rfl (Nat.zero_le _) hX (lv_sub hl [2, 3, 4, 1, 0] rfl) hP hD hS
  exact loop2 _ (0) (fy) (fu) (uc) (DD) ls H locs rfl (Nat.zero_le _) (by rw [hvu]; exact sb_X_0 hJ hkp hJD) (lv_sub hl [1, 2, 0] rfl) hP hD hS
set_option maxHeartbeats 4000000 in
set_option maxRecDepth 100000 in
theorem c_Sb_startsSafe (l : Launch) (Hs : Heap) (D : va_G) (cI cZ cL : ClassId) (h : Nat) (i1 : Nat) (i2 : Nat) (i3 : Nat) (i4 : Nat) (i5 : Nat) (i6 : Nat) (i7 : Nat) (K : Nat) (sc : Nat) (aw : Nat) (uc : Nat) (fs : Nat → Nat) (fw : Nat → Nat) (fy : Nat → Nat) (fu : Nat → Nat) (hok : sb_ok K fs fw sc aw) : kI l Hs D kcl (ty3 cI cZ cL) y_Sb_startsSafe (mws y_Sb_startsSafe b_Sb_startsSafe 2 (Option.some Jvm.ClassFile.FieldType.boolean)) ({ frames := 3, cells := 0, slots := 0, locals := 70 } : Room) [.ref h] [(h, .inr (3, [.ref i1, .ref i2, .ref i3, .int (nI K), .int (nI sc), .int (nI aw), .ref i4, .ref i5, .int (nI uc), .ref i6, .ref i7])), (i3, .inl (cI, 4, .inl (wA fw))), (i2, .inl (cI, 4, .inl (wA fs))), (i4, .inl (cI, 1500, .inl (wA fy))), (i5, .inl (cI, 1500, .inl (wA fu)))] (fun r w => ∃ (r0 : Int32), ∃ (y2 : Nat → Nat), ∃ (u2 : Nat → Nat), ∃ (c2 : Nat), (∀ x, x < sc → (0 < y2 x ↔ pw_safe K fs x)) ∧ (∀ x, x < sc → y2 x < 2 ^ 31) ∧ ((r0 = nI 1 ∧ pw_safe K fs (sc - 1)) ∨ (r0 = nI 0 ∧ ¬ pw_safe K fs (sc - 1))) ∧ r = r0 ∧ w = [(h, .inr (3, [.ref i1, .ref i2, .ref i3, .int (nI K), .int (nI sc), .int (nI aw), .ref i4, .ref i5, .int (nI c2), .ref i6, .ref i7])), (i3, .inl (cI, 4, .inl (wA fw))), (i2, .inl (cI, 4, .inl (wA fs))), (i4, .inl (cI, 1500, .inl (wA y2))), (i5, .inl (cI, 1500, .inl (wA u2)))]) := by
  intro sz
  refine k_of (cc := b_Sb_startsSafe) (maxL := 2) (ret := (Option.some Jvm.ClassFile.FieldType.boolean)) (by decide) rfl (Nat.le_of_ble_eq_true rfl) ?_
  intro p e s m args below meth c ls H locs A Q hQ hx hb hml hr hts hown hlk hnm hsz hAe hP hK hD hS hA hE hAH hl
  have ht : ∀ w ∈ mw, w.before args s = true := fun w h => hts w (List.mem_cons_of_mem _ h)
  have hl : lv_has ls 2 [(0, .ref h)] := hl
  refine lv_aload_n hx hb d_Sb_startsSafe_0 rfl (lv_at hl 0 rfl) ?_
  refine ck_v (wc := [(h, .inr (3, [.ref i1, .ref i2, .ref i3, .int (nI K), .int (nI sc), .int (nI aw), .ref i4, .ref i5, .int (nI uc), .ref i6, .ref i7])), (i3, .inl (cI, 4, .inl (wA fw))), (i2, .inl (cI, 4, .inl (wA fs))), (i4, .inl (cI, 1500, .inl (wA fy))), (i5, .inl (cI, 1500, .inl (wA fu)))]) (va_runV (As := []) (rest := []) (C := R_Sb) ⟨hx, hb, hml, hown, ht⟩ (c_Sb_listDeadEnds l Hs D cI cZ cL h i1 i2 i3 i4 i5 i6 i7 K sc aw uc fs fw fy fu hok H.size) (gw_V 0 ht wd_258 wd_25 wd_255 wd_257 ws_8 (by decide +kernel) ⟨Nat.le_of_ble_eq_true rfl, Nat.le_of_ble_eq_true rfl⟩) (k_preV hE hAH hK hP hD hS [0, 1, 2, 3, 4] rfl rfl 0 rfl rfl) rfl rfl hl.1 rfl (lv_room (Nat.le_of_ble_eq_true rfl)) d_Sb_startsSafe_1 ⟨Nat.le_of_ble_eq_true rfl, Nat.le_of_ble_eq_true rfl⟩) hP hD hS hA [0, 1, 2, 3, 4] rfl rfl (fun w1 H locs hpost hP hD hS => ?_)
  obtain ⟨y1, u1, c1, hJ0, rfl⟩ := hpost
  have hP : va_P D kcl [(h, .inr (3, [.ref i1, .ref i2, .ref i3, .int (nI K), .int (nI sc), .int (nI aw), .ref i4, .ref i5, .int (nI c1), .ref i6, .ref i7])), (i3, .inl (cI, 4, .inl (wA fw))), (i2, .inl (cI, 4, .inl (wA fs))), (i4, .inl (cI, 1500, .inl (wA y1))), (i5, .inl (cI, 1500, .inl (wA u1)))] H := hP
  have hD : va_D A [(h, .inr (3, [.ref i1, .ref i2, .ref i3, .int (nI K), .int (nI sc), .int (nI aw), .ref i4, .ref i5, .int (nI c1), .ref i6, .ref i7])), (i3, .inl (cI, 4, .inl (wA fw))), (i2, .inl (cI, 4, .inl (wA fs))), (i4, .inl (cI, 1500, .inl (wA y1))), (i5, .inl (cI, 1500, .inl (wA u1)))] := hD
  refine lv_iconst (v := nI 0) hx hb d_Sb_startsSafe_4 (by decide) ?_
  refine lv_istore_n (lv' := [(1, .int (nI 0)), (0, .ref h)]) hx hb d_Sb_startsSafe_5 rfl hl (by decide) rfl (fun ls hl => ?_)
  have loop6 : ∀ (d : Nat) (k : Nat) (y : Nat → Nat) (u : Nat → Nat) (c0 : Nat) (DX : Nat → Nat → Bool) (ls : Array Slot) (H : Heap) (locs : List Loc), sc - k = d → (pw_J K fs y u c0 k DX) → (sb_JD K fs u k 0 0 DX) → lv_has ls 2 [(0, .ref h), (1, .int (nI k))] → va_P D kcl [(h, .inr (3, [.ref i1, .ref i2, .ref i3, .int (nI K), .int (nI sc), .int (nI aw), .ref i4, .ref i5, .int (nI c0), .ref i6, .ref i7])), (i3, .inl (cI, 4, .inl (wA fw))), (i2, .inl (cI, 4, .inl (wA fs))), (i4, .inl (cI, 1500, .inl (wA y))), (i5, .inl (cI, 1500, .inl (wA u)))] H → va_D A [(h, .inr (3, [.ref i1, .ref i2, .ref i3, .int (nI K), .int (nI sc), .int (nI aw), .ref i4, .ref i5, .int (nI c0), .ref i6, .ref i7])), (i3, .inl (cI, 4, .inl (wA fw))), (i2, .inl (cI, 4, .inl (wA fs))), (i4, .inl (cI, 1500, .inl (wA y))), (i5, .inl (cI, 1500, .inl (wA u)))] → va_S A s.heap H locs → W p l e ({ frames := 3, cells := 0, slots := 0, locals := 70 } : Room) s m args below meth c H locs 0 0 Q (F0 m 6 ls []) := by
    intro d
    induction d using Nat.strongRecOn with
    | ind d ih6 =>
      intro k y u c0 DX ls H locs hd6 hJ hJD hl hP hD hS
      have hkc := hJ.2.2.2.2.2.1
      have hcN : c0 ≤ sc := by rw [hok.2.2.2.2.2.1]; exact pw_J_few hJ
      have hsc := hok.2.2.2.2.2.2
      have hK4 := hok.2.1
      refine lv_iload_n hx hb d_Sb_startsSafe_6 rfl (lv_at hl 1 rfl) ?_
      refine lv_aload_n hx hb d_Sb_startsSafe_7 rfl (lv_at hl 0 rfl) ?_
      refine va_get (D := D) (ci := 3) (v := .int (nI sc)) (C := R_Sb) (T := T_Sb) (N := 11) hx hb ht u_Sb hown hK hP 0 rfl rfl 4 (by decide) (ht _ wd_206) (fun _ h9 => h9) rfl d_Sb_startsSafe_8 ?_
      refine wi_ge hx hb d_Sb_startsSafe_11 rfl (by omega) (by omega) (fun h11 => ?_) (fun h11 => ?_)
      · have hke : k = c0 := by omega
        subst hke
        have hend : ∀ x, x < sc → (0 < y x ↔ pw_safe K fs x) := by rw [hok.2.2.2.2.2.1]; exact pw_J_end (sb_pos hok) hJ
        have hyb : ∀ x, x < sc → y x < 2 ^ 31 := fun x h9 => by rw [hok.2.2.2.2.2.1] at h9; have := sb_J_le hJ x h9; omega
        have hsp : 0 < sc := by rw [hok.2.2.2.2.2.1]; exact pw_w_pos (sb_pos hok)
        have hlast := hend (sc - 1) (by omega)
        have hlb := hyb (sc - 1) (by omega)
        refine lv_aload_n hx hb d_Sb_startsSafe_38 rfl (lv_at hl 0 rfl) ?_
        refine va_get (D := D) (ci := 3) (v := .ref i4) (C := R_Sb) (T := T_Sb) (N := 11) hx hb ht u_Sb hown hK hP 0 rfl rfl 6 (by decide) (ht _ wd_208) (fun _ h9 => h9) rfl d_Sb_startsSafe_39 ?_
        refine lv_aload_n hx hb d_Sb_startsSafe_42 rfl (lv_at hl 0 rfl) ?_
        refine va_get (D := D) (ci := 3) (v := .int (nI sc)) (C := R_Sb) (T := T_Sb) (N := 11) hx hb ht u_Sb hown hK hP 0 rfl rfl 4 (by decide) (ht _ wd_206) (fun _ h9 => h9) rfl d_Sb_startsSafe_43 ?_
        refine lv_iconst (v := nI 1) hx hb d_Sb_startsSafe_46 (by decide) ?_
        refine wi_sub hx hb d_Sb_startsSafe_47 (by omega) ?_
        refine wi_ald hx hb hK hP 3 0 rfl rfl (by omega) (by omega) d_Sb_startsSafe_48 ?_
        refine wi_if_le hx hb d_Sb_startsSafe_49 rfl (by omega) (fun h49 => ?_) (fun h49 => ?_)
        · refine lv_iconst (v := nI 0) hx hb d_Sb_startsSafe_56 (by decide) ?_
          exact k_retz hQ hx hb hr hlk hAe hK hP hD hS (Nat.le_of_ble_eq_true rfl) (Nat.le_of_ble_eq_true rfl) (Nat.le_of_ble_eq_true rfl) rfl ⟨nI 0, y, u, k, hend, hyb, Or.inr ⟨rfl, fun z => by have := hlast.mpr z; omega⟩, rfl, rfl⟩ d_Sb_startsSafe_57
        · refine lv_iconst (v := nI 1) hx hb d_Sb_startsSafe_52 (by decide) ?_
          refine lv_goto hx hb d_Sb_startsSafe_53 rfl ?_
          exact k_retz hQ hx hb hr hlk hAe hK hP hD hS (Nat.le_of_ble_eq_true rfl) (Nat.le_of_ble_eq_true rfl) (Nat.le_of_ble_eq_true rfl) rfl ⟨nI 1, y, u, k, hend, hyb, Or.inl ⟨rfl, hlast.mp h49⟩, rfl, rfl⟩ d_Sb_startsSafe_57
      · refine lv_iload_n hx hb d_Sb_startsSafe_14 rfl (lv_at hl 1 rfl) ?_
        refine lv_aload_n hx hb d_Sb_startsSafe_15 rfl (lv_at hl 0 rfl) ?_
        refine va_get (D := D) (ci := 3) (v := .int (nI c0)) (C := R_Sb) (T := T_Sb) (N := 11) hx hb ht u_Sb hown hK hP 0 rfl rfl 8 (by decide) (ht _ wd_210) (fun _ h9 => h9) rfl d_Sb_startsSafe_16 ?_
        refine wi_ge hx hb d_Sb_startsSafe_19 rfl (by omega) (by omega) (fun h19 => ?_) (fun h19 => ?_)
        · have hke : k = c0 := by omega
          subst hke
          have hend : ∀ x, x < sc → (0 < y x ↔ pw_safe K fs x) := by rw [hok.2.2.2.2.2.1]; exact pw_J_end (sb_pos hok) hJ
          have hyb : ∀ x, x < sc → y x < 2 ^ 31 := fun x h9 => by rw [hok.2.2.2.2.2.1] at h9; have := sb_J_le hJ x h9; omega
          have hsp : 0 < sc := by rw [hok.2.2.2.2.2.1]; exact pw_w_pos (sb_pos hok)
          have hlast := hend (sc - 1) (by omega)
          have hlb := hyb (sc - 1) (by omega)
          refine lv_aload_n hx hb d_Sb_startsSafe_38 rfl (lv_at hl 0 rfl) ?_
          refine va_get (D := D) (ci := 3) (v := .ref i4) (C := R_Sb) (T := T_Sb) (N := 11) hx hb ht u_Sb hown hK hP 0 rfl rfl 6 (by decide) (ht _ wd_208) (fun _ h9 => h9) rfl d_Sb_startsSafe_39 ?_
          refine lv_aload_n hx hb d_Sb_startsSafe_42 rfl (lv_at hl 0 rfl) ?_
          refine va_get (D := D) (ci := 3) (v := .int (nI sc)) (C := R_Sb) (T := T_Sb) (N := 11) hx hb ht u_Sb hown hK hP 0 rfl rfl 4 (by decide) (ht _ wd_206) (fun _ h9 => h9) rfl d_Sb_startsSafe_43 ?_
          refine lv_iconst (v := nI 1) hx hb d_Sb_startsSafe_46 (by decide) ?_
          refine wi_sub hx hb d_Sb_startsSafe_47 (by omega) ?_
          refine wi_ald hx hb hK hP 3 0 rfl rfl (by omega) (by omega) d_Sb_startsSafe_48 ?_
          refine wi_if_le hx hb d_Sb_startsSafe_49 rfl (by omega) (fun h49 => ?_) (fun h49 => ?_)
          · refine lv_iconst (v := nI 0) hx hb d_Sb_startsSafe_56 (by decide) ?_
            exact k_retz hQ hx hb hr hlk hAe hK hP hD hS (Nat.le_of_ble_eq_true rfl) (Nat.le_of_ble_eq_true rfl) (Nat.le_of_ble_eq_true rfl) rfl ⟨nI 0, y, u, k, hend, hyb, Or.inr ⟨rfl, fun z => by have := hlast.mpr z; omega⟩, rfl, rfl⟩ d_Sb_startsSafe_57
          · refine lv_iconst (v := nI 1) hx hb d_Sb_startsSafe_52 (by decide) ?_
            refine lv_goto hx hb d_Sb_startsSafe_53 rfl ?_
            exact k_retz hQ hx hb hr hlk hAe hK hP hD hS (Nat.le_of_ble_eq_true rfl) (Nat.le_of_ble_eq_true rfl) (Nat.le_of_ble_eq_true rfl) rfl ⟨nI 1, y, u, k, hend, hyb, Or.inl ⟨rfl, hlast.mp h49⟩, rfl, rfl⟩ d_Sb_startsSafe_57
        · refine lv_aload_n hx hb d_Sb_startsSafe_22 rfl (lv_at hl 0 rfl) ?_
          refine lv_aload_n hx hb d_Sb_startsSafe_23 rfl (lv_at hl 0 rfl) ?_
          refine va_get (D := D) (ci := 3) (v := .ref i5) (C := R_Sb) (T := T_Sb) (N := 11) hx hb ht u_Sb hown hK hP 0 rfl rfl 7 (by decide) (ht _ wd_209) (fun _ h9 => h9) rfl d_Sb_startsSafe_24 ?_
          refine lv_iload_n hx hb d_Sb_startsSafe_27 rfl (lv_at hl 1 rfl) ?_
          refine wi_ald hx hb hK hP 4 0 rfl rfl (by omega) (by omega) d_Sb_startsSafe_28 ?_
          refine ck_v (wc := [(h, .inr (3, [.ref i1, .ref i2, .ref i3, .int (nI K), .int (nI sc), .int (nI aw), .ref i4, .ref i5, .int (nI c0), .ref i6, .ref i7])), (i3, .inl (cI, 4, .inl (wA fw))), (i2, .inl (cI, 4, .inl (wA fs))), (i4, .inl (cI, 1500, .inl (wA y))), (i5, .inl (cI, 1500, .inl (wA u)))]) (va_runV (As := [.int (nI (u k))]) (rest := []) (C := R_Sb) ⟨hx, hb, hml, hown, ht⟩ (c_Sb_strikeWaysTo l Hs D cI cZ cL h i1 i2 i3 i4 i5 i6 i7 K sc aw c0 fs fw y u (u k) k DX hok hJ h19 rfl hJD H.size) (gw_V 1 ht wd_270 wd_25 wd_267 wd_269 ws_11 (by decide +kernel) ⟨Nat.le_of_ble_eq_true rfl, Nat.le_of_ble_eq_true rfl⟩) (k_preV hE hAH hK hP hD hS [0, 1, 2, 3, 4] rfl rfl 0 rfl rfl) rfl rfl hl.1 rfl (lv_room (Nat.le_of_ble_eq_true rfl)) d_Sb_startsSafe_29 ⟨Nat.le_of_ble_eq_true rfl, Nat.le_of_ble_eq_true rfl⟩) hP hD hS hA [0, 1, 2, 3, 4] rfl rfl (fun w1 H locs hpost hP hD hS => ?_)
          obtain ⟨y2, u2, c2, D2, hJ2, hJD2, rfl⟩ := hpost
          have hP : va_P D kcl [(h, .inr (3, [.ref i1, .ref i2, .ref i3, .int (nI K), .int (nI sc), .int (nI aw), .ref i4, .ref i5, .int (nI c2), .ref i6, .ref i7])), (i3, .inl (cI, 4, .inl (wA fw))), (i2, .inl (cI, 4, .inl (wA fs))), (i4, .inl (cI, 1500, .inl (wA y2))), (i5, .inl (cI, 1500, .inl (wA u2)))] H := hP
          have hD : va_D A [(h, .inr (3, [.ref i1, .ref i2, .ref i3, .int (nI K), .int (nI sc), .int (nI aw), .ref i4, .ref i5, .int (nI c2), .ref i6, .ref i7])), (i3, .inl (cI, 4, .inl (wA fw))), (i2, .inl (cI, 4, .inl (wA fs))), (i4, .inl (cI, 1500, .inl (wA y2))), (i5, .inl (cI, 1500, .inl (wA u2)))] := hD
          refine wi_inc (k := 1) (lv' := [(1, .int (nI (k + 1))), (0, .ref h)]) hx hb d_Sb_startsSafe_32 hl rfl (by decide) rfl (fun ls hl => ?_)
          refine lv_goto hx hb d_Sb_startsSafe_35 rfl ?_
          exact ih6 (sc - (k + 1)) (by omega) (k + 1) (y2) (u2) (c2) (D2) ls H locs rfl hJ2 hJD2 (lv_sub hl [1, 0] rfl) hP hD hS
  exact loop6 _ (0) (y1) (u1) (c1) (fun _ _ => false) ls H locs rfl hJ0 (fun b x e => by cases e) (lv_sub hl [1, 0] rfl) hP hD hS
