/-! The state that both sides are tied to; what depends on the first few alone. -/
section CG
theorem pw_ins_cg {r r' : Nat → Nat} {k : Nat} (hk : r k = r' k) : ∀ l : List Nat, (∀ x ∈ l, r x = r' x) → pw_ins r k l = pw_ins r' k l := by
  intro l
  induction l with
  | nil => intro _; rfl
  | cons x t ih =>
    intro h
    show (if r x ≤ r k then x :: pw_ins r k t else k :: x :: t) = (if r' x ≤ r' k then x :: pw_ins r' k t else k :: x :: t)
    rw [h x List.mem_cons_self, hk, ih fun y hy => h y (List.mem_cons_of_mem _ hy)]
theorem pw_srt_cg {r r' : Nat → Nat} : ∀ n, (∀ t, t < n → r t = r' t) → pw_srt r n = pw_srt r' n := by
  intro n
  induction n with
  | zero => intro _; rfl
  | succ n ih =>
    intro h
    show pw_ins r n (pw_srt r n) = pw_ins r' n (pw_srt r' n)
    rw [← ih fun t ht => h t (by omega)]
    exact pw_ins_cg (h n (by omega)) _ fun x hx => h x (by have := (pw_srt_mem (r := r) n).mp hx; omega)
theorem pw_mx_cg {r r' : Nat → Nat} : ∀ n, (∀ t, t < n → r t = r' t) → pw_mx r n = pw_mx r' n := by
  intro n
  induction n with
  | zero => intro _; rfl
  | succ n ih =>
    intro h
    show max (pw_mx r n) (r n) = max (pw_mx r' n) (r' n)
    rw [ih fun t ht => h t (by omega), h n (by omega)]
variable {n b : Nat} {sp sp' id id' : Nat → Nat}
theorem pw_r_cg (h : ∀ t, t < n → sp t = sp' t) : ∀ t, t < n → pw_r b sp t = pw_r b sp' t := fun t ht => by
  unfold pw_r
  rw [h t ht]
theorem pw_fit_cg (h : ∀ t, t < n → sp t = sp' t) : pw_fit b sp n ↔ pw_fit b sp' n := by
  unfold pw_fit pw_nd2
  rw [pw_mx_cg n (pw_r_cg h), pw_sm_congr fun t ht => by rw [pw_r_cg h t ht]]
theorem pw_b2_cg (h : ∀ t, t < n → sp t = sp' t) (hb : pw_b2 sp n b) : pw_b2 sp' n b :=
  ⟨⟨hb.1.1, fun k hk => by rw [← h k hk]; exact hb.1.2 k hk⟩, (pw_fit_cg h).mp hb.2.1, fun b' h1 h2 h3 => hb.2.2 b' h1 ⟨h2.1, fun k hk => by rw [h k hk]; exact h2.2 k hk⟩ ((pw_fit_cg h).mpr h3)⟩
theorem pw_tk_cg (h : ∀ t, t < n → sp t = sp' t) : pw_tk sp n ↔ pw_tk sp' n := by
  unfold pw_tk
  rw [pw_w_congr h]
theorem pw_os_cg (h : ∀ t, t < n → sp t = sp' t) : ∀ i, i < n → pw_os sp n i = pw_os sp' n i := fun i hi => by
  unfold pw_os pw_o
  rw [← pw_srt_cg n h]
  exact h _ (pw_srt_get hi)
theorem pw_oi_cg (h : ∀ t, t < n → sp t = sp' t) (hi' : ∀ t, t < n → id t = id' t) : ∀ i, i < n → pw_oi id sp n i = pw_oi id' sp' n i := fun i hi => by
  unfold pw_oi pw_o
  rw [← pw_srt_cg n h]
  exact hi' _ (pw_srt_get hi)
theorem pw_sf_cg (h : ∀ t, t < n → sp t = sp' t) : pw_sf sp n ↔ pw_sf sp' n := by
  unfold pw_sf
  rw [pw_os_w, pw_os_w, pw_w_congr h]
  exact pw_safe_cg (pw_os_cg h) _
theorem pw_no_cg (h : ∀ t, t < n → sp t = sp' t) (hn : pw_no n sp) : pw_no n sp' :=
  ⟨fun z => hn.1 ((pw_fit_cg h).mpr z), fun ⟨x, hx⟩ => hn.2.1 ⟨x, pw_b2_cg (fun t ht => (h t ht).symm) hx⟩, fun z => hn.2.2 ⟨(pw_tk_cg h).mpr z.1, (pw_sf_cg h).mpr z.2⟩⟩
theorem pw_cy_ci {L : Nat} {r : Nat → Nat} : ∀ (l : List Nat) (c : Nat → Nat), (∀ t ∈ l, id t = id' t) → l.foldl (fun c k => pw_gv L (id k) (r k) c) c = l.foldl (fun c k => pw_gv L (id' k) (r k) c) c := by
  intro l
  induction l with
  | nil => intro c _; rfl
  | cons x t ih =>
    intro c h
    show List.foldl _ (pw_gv L (id x) (r x) c) t = List.foldl _ (pw_gv L (id' x) (r x) c) t
    rw [h x List.mem_cons_self]
    exact ih _ fun y hy => h y (List.mem_cons_of_mem _ hy)
theorem pw_CY_cg (h : ∀ t, t < n → sp t = sp' t) (hi : ∀ t, t < n → id t = id' t) : pw_CY b n id sp = pw_CY b n id' sp' := by
  unfold pw_CY
  rw [pw_mx_cg n (pw_r_cg h), ← pw_srt_cg n (pw_r_cg h), pw_cy_cg (r' := pw_r b sp') _ fun t ht => pw_r_cg h t ((pw_srt_mem n).mp ht)]
  exact pw_cy_ci _ _ fun t ht => hi t ((pw_srt_mem n).mp ht)
theorem pw_Bld_cg {w L : Nat} {cy : Nat → Nat} (h : ∀ t, t < n → sp t = sp' t) (hi : ∀ t, t < n → id t = id' t) (hB : pw_Bld n id sp w L cy) : pw_Bld n id' sp' w L cy := by
  rcases hB with ⟨h1, h2, h3, h4⟩ | ⟨h1, h2, x, h3, h4, h5⟩ | ⟨h1, h2, h3, h4, h5, h6⟩
  · exact Or.inl ⟨h1, (pw_fit_cg h).mp h2, by rw [h3, pw_mx_cg n (pw_r_cg h)], fun j hj => by rw [h4 j hj, pw_CY_cg h hi]⟩
  · exact Or.inr (Or.inl ⟨h1, fun z => h2 ((pw_fit_cg h).mpr z), x, pw_b2_cg h h3, by rw [h4, pw_mx_cg n (pw_r_cg h)], fun j hj => by rw [h5 j hj, pw_CY_cg h hi]⟩)
  · exact Or.inr (Or.inr ⟨h1, fun z => h2 ((pw_fit_cg h).mpr z), fun ⟨x, hx⟩ => h3 ⟨x, pw_b2_cg (fun t ht => (h t ht).symm) hx⟩, (pw_tk_cg h).mp h4, (pw_sf_cg h).mp h5, pw_B3_cg (pw_os_cg h) (pw_oi_cg h hi) h6⟩)
theorem pw_Bld_cy {w L : Nat} {cy cy' : Nat → Nat} (hc : ∀ j, j < L → cy j = cy' j) (hB : pw_Bld n id sp w L cy) : pw_Bld n id sp w L cy' := by
  rcases hB with ⟨h1, h2, h3, h4⟩ | ⟨h1, h2, x, h3, h4, h5⟩ | ⟨h1, h2, h3, h4, h5, st, tn, T, fr, a1, a2, a3, a4, a5, a6⟩
  · exact Or.inl ⟨h1, h2, h3, fun j hj => by rw [← hc j hj, h4 j hj]⟩
  · exact Or.inr (Or.inl ⟨h1, h2, x, h3, h4, fun j hj => by rw [← hc j hj, h5 j hj]⟩)
  · exact Or.inr (Or.inr ⟨h1, h2, h3, h4, h5, st, tn, T, fr, a1, a2, a3, a4, a5, fun j hj => by rw [← hc j hj, a6 j hj]⟩)
theorem pw_G_cg (h : ∀ t, t < n → sp t = sp' t) (hi : ∀ t, t < n → id t = id' t) (hG : pw_G n id sp) : pw_G n id' sp' :=
  ⟨fun k hk => by rw [← hi k hk]; exact hG.1 k hk, fun i j hij hj => by rw [← hi i (by omega), ← hi j hj]; exact hG.2.1 i j hij hj, fun k hk => by rw [← h k hk]; exact hG.2.2 k hk⟩
/-- who stands in a cycle -/
theorem pw_Bld_val {w L : Nat} {cy : Nat → Nat} (hG : pw_G n id sp) (hB : pw_Bld n id sp w L cy) : ∀ j, j < L → cy j = 0 ∨ ∃ k, k < n ∧ cy j = id k := by
  have key : ∀ b, 0 < b → pw_fit b sp n → ∀ j, j < pw_mx (pw_r b sp) n → pw_CY b n id sp j = 0 ∨ ∃ k, k < n ∧ pw_CY b n id sp j = id k := fun b hb hf j hj => by
    have hH := (pw_cy_H (pw_G_S hG hb) hf n (Nat.le_refl n)).1
    rw [List.take_of_length_le (by rw [pw_srt_len]; exact Nat.le_refl n)] at hH
    rcases hH.2.1 j hj with z | ⟨k, h1, h2⟩
    · exact Or.inl z
    · exact Or.inr ⟨k, (pw_srt_mem n).mp h1, h2⟩
  rcases hB with ⟨h1, h2, h3, h4⟩ | ⟨h1, h2, x, h3, h4, h5⟩ | ⟨h1, h2, h3, h4, h5, st, tn, T, fr, a1, a2, a3, a4, a5, a6⟩
  · intro j hj
    rw [h4 j hj]
    exact key 1 Nat.one_pos h2 j (by rw [← h3]; exact hj)
  · intro j hj
    rw [h5 j hj]
    exact key x (by have := h3.1.1.1; omega) h3.2.1 j (by rw [← h4]; exact hj)
  · intro j hj
    rw [a6 j hj]
    have hlt := (a1.2.2 (fr + j) (by omega)).1.1
    exact Or.inr ⟨pw_o sp n (tn (fr + j)), pw_srt_get hlt, rfl⟩
end CG
/-- one more: there is a way, and only one -/
theorem pw_mo_ex {n v z : Nat} {f1 f2 : Nat → Nat} : ∃ g1 g2, pw_mo n f1 f2 g1 g2 v z := by
  obtain ⟨i, hi, hl⟩ := pk_least (fun i => ∀ j, i ≤ j → j < n → v < f1 j) ⟨n, fun j h1 h2 => by omega⟩
  have hin : i ≤ n := Nat.not_lt.mp fun q => hl n q fun j h1 h2 => by omega
  refine ⟨fun t => if t < i then f1 t else if t = i then v else f1 (t - 1), fun t => if t < i then f2 t else if t = i then z else f2 (t - 1), i, hin, ?_, hi, ?_, ?_⟩
  · by_cases h0 : i = 0
    · exact Or.inl h0
    · refine Or.inr (Nat.not_lt.mp fun q => hl (i - 1) (by omega) fun j h1 h2 => ?_)
      by_cases e : j = i - 1
      · rw [e]; exact q
      · exact hi j (by omega) h2
  · refine ⟨fun j hj => ?_, ?_, fun j h1 h2 => ?_⟩
    · simp only [if_pos hj]
    · simp
    · simp only [if_neg (show ¬ j + 1 < i by omega), if_neg (show ¬ j + 1 = i by omega), Nat.add_sub_cancel]
  · refine ⟨fun j hj => ?_, ?_, fun j h1 h2 => ?_⟩
    · simp only [if_pos hj]
    · simp
    · simp only [if_neg (show ¬ j + 1 < i by omega), if_neg (show ¬ j + 1 = i by omega), Nat.add_sub_cancel]
/-- where it comes to stand -/
def pw_ps (n : Nat) (f1 : Nat → Nat) (v i : Nat) : Prop := i ≤ n ∧ (i = 0 ∨ f1 (i - 1) ≤ v) ∧ ∀ j, i ≤ j → j < n → v < f1 j
theorem pw_ps_eq {n v i i' : Nat} {f1 : Nat → Nat} (hG : ∀ a b, a < b → b < n → f1 a < f1 b) (h : pw_ps n f1 v i) (h' : pw_ps n f1 v i') : i = i' := by
  have key : ∀ {i i' : Nat}, pw_ps n f1 v i → pw_ps n f1 v i' → ¬ i < i' := fun {i i'} h h' q => by
    rcases h'.2.1 with z | z
    · omega
    · have := h.2.2 (i' - 1) (by omega) (by have := h'.1; omega)
      omega
  have h1 := key h h'
  have h2 := key h' h
  omega
theorem pw_in_eq {f u u' : Nat → Nat} {n p v : Nat} (hp : p ≤ n) (h : pw_in f u n p v) (h' : pw_in f u' n p v) : ∀ t, t < n + 1 → u t = u' t := fun t ht => by rw [pw_in_get h hp ht, pw_in_get h' hp ht]
theorem pw_mo_eq {n v z : Nat} {f1 f2 g1 g2 g1' g2' : Nat → Nat} (hG : ∀ a b, a < b → b < n → f1 a < f1 b) (h : pw_mo n f1 f2 g1 g2 v z) (h' : pw_mo n f1 f2 g1' g2' v z) : ∀ t, t < n + 1 → g1 t = g1' t ∧ g2 t = g2' t := by
  obtain ⟨i, a1, a2, a3, a4, a5⟩ := h
  obtain ⟨i', b1, b2, b3, b4, b5⟩ := h'
  have e := pw_ps_eq hG ⟨a1, a2, a3⟩ ⟨b1, b2, b3⟩
  subst e
  exact fun t ht => ⟨pw_in_eq a1 a4 b4 t ht, pw_in_eq a1 a5 b5 t ht⟩
theorem pw_mo_cg {n v z : Nat} {f1 f2 f1' f2' g1 g2 : Nat → Nat} (e1 : ∀ t, t < n → f1 t = f1' t) (e2 : ∀ t, t < n → f2 t = f2' t) (h : pw_mo n f1 f2 g1 g2 v z) : pw_mo n f1' f2' g1 g2 v z := by
  obtain ⟨i, a1, a2, a3, a4, a5⟩ := h
  refine ⟨i, a1, ?_, fun j h1 h2 => by rw [← e1 j h2]; exact a3 j h1 h2, pw_in_cg a4 a1 e1, pw_in_cg a5 a1 e2⟩
  by_cases h0 : i = 0
  · exact Or.inl h0
  · rcases a2 with q | q
    · exact absurd q h0
    · exact Or.inr (by rw [← e1 (i - 1) (by omega)]; exact q)
theorem pw_le1_eq {n i : Nat} {f1 f2 g1 g2 g1' g2' : Nat → Nat} (h : pw_le1 n f1 f2 g1 g2 i) (h' : pw_le1 n f1 f2 g1' g2' i) : ∀ t, t < n - 1 → g1 t = g1' t ∧ g2 t = g2' t := fun t ht =>
  ⟨(h.1 t (by omega)).trans (h'.1 t (by omega)).symm, (h.2 t (by omega)).trans (h'.2 t (by omega)).symm⟩
theorem pw_le1_cg {n i : Nat} {f1 f2 f1' f2' g1 g2 : Nat → Nat} (e1 : ∀ t, t < n → f1 t = f1' t) (e2 : ∀ t, t < n → f2 t = f2' t) (h : pw_le1 n f1 f2 g1 g2 i) : pw_le1 n f1' f2' g1 g2 i := ⟨pw_ou_cg h.1 e1, pw_ou_cg h.2 e2⟩
/-- for those left one of the builders doesn't fail -/
theorem pw_le1_no {n i w L : Nat} {f1 f2 g1 g2 cy : Nat → Nat} (hG : pw_G n f1 f2) (h : pw_le1 n f1 f2 g1 g2 i) (hB : pw_Bld n f1 f2 w L cy) : ¬ pw_no (n - 1) g2 := by
  refine pw_drop hG (pw_le1_G hG h) hB (fun t => if t < i then t else t + 1) (fun k hk => ?_) (fun a b hab hb => ?_) (by omega)
  · have q1 := h.1 k (by omega)
    have q2 := h.2 k (by omega)
    by_cases e : k < i
    · rw [if_pos e] at q1 q2 ⊢
      exact ⟨by omega, q2, q1⟩
    · rw [if_neg e] at q1 q2 ⊢
      exact ⟨by omega, q2, q1⟩
  · show (if a < i then a else a + 1) < (if b < i then b else b + 1)
    split <;> split <;> omega
