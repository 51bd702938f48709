/-! The walk of builder 3, from the state of the full spans on. -/
/-- the first client with which a safe state comes -/
def pw_F (K : Nat) (sp : Nat → Nat) (s t : Nat) : Prop := t < K ∧ (pw_ok K sp s t ∧ pw_safe K sp (pw_nx K sp s t)) ∧ ∀ t', t' < t → ¬ (pw_ok K sp s t' ∧ pw_safe K sp (pw_nx K sp s t'))
theorem pw_F_ex {K : Nat} {sp : Nat → Nat} {s : Nat} (h : pw_safe K sp s) : ∃ t, pw_F K sp s t := by
  obtain ⟨-, t, ht, hok, hn⟩ := pw_safe_step h
  obtain ⟨k, hk, hl⟩ := pk_least (fun t => t < K ∧ pw_ok K sp s t ∧ pw_safe K sp (pw_nx K sp s t)) ⟨t, ht, hok, hn⟩
  exact ⟨k, hk.1, hk.2, fun t' ht' h' => hl t' ht' ⟨Nat.lt_trans ht' hk.1, h'⟩⟩
theorem pw_F_eq {K : Nat} {sp : Nat → Nat} {s t t' : Nat} (h : pw_F K sp s t) (h' : pw_F K sp s t') : t = t' := by
  rcases Nat.lt_trichotomy t t' with h1 | h1 | h1
  · exact absurd h.2.1 (h'.2.2 t h1)
  · exact h1
  · exact absurd h'.2.1 (h.2.2 t' h1)
def pw_P (K : Nat) (sp st tn : Nat → Nat) (T : Nat) : Prop := st 0 = pw_w sp K - 1 ∧ pw_safe K sp (st T) ∧ ∀ i, i < T → pw_F K sp (st i) (tn i) ∧ st (i + 1) = pw_nx K sp (st i) (tn i)
theorem pw_P_0 {K : Nat} {sp : Nat → Nat} (h : pw_safe K sp (pw_w sp K - 1)) : pw_P K sp (fun _ => pw_w sp K - 1) (fun _ => 0) 0 := ⟨rfl, h, fun i hi => absurd hi (Nat.not_lt_zero i)⟩
theorem pw_P_add {K : Nat} {sp st tn : Nat → Nat} {T t : Nat} (h : pw_P K sp st tn T) (ht : pw_F K sp (st T) t) : pw_P K sp (fun i => if i = T + 1 then pw_nx K sp (st T) t else st i) (fun i => if i = T then t else tn i) (T + 1) := by
  refine ⟨?_, ?_, fun i hi => ?_⟩
  · show (if 0 = T + 1 then _ else st 0) = _
    rw [if_neg (by omega)]; exact h.1
  · simp only [if_true]; exact ht.2.1.2
  · by_cases hiT : i = T
    · subst hiT
      simp only [if_true, if_neg (show ¬ i = i + 1 by omega)]
      exact ⟨ht, trivial⟩
    · have h1 := h.2.2 i (by omega)
      simp only [if_neg hiT, if_neg (show ¬ i = T + 1 by omega), if_neg (show ¬ i + 1 = T + 1 by omega)]
      exact h1
theorem pw_P_safe {K : Nat} {sp st tn : Nat → Nat} {T : Nat} (h : pw_P K sp st tn T) : ∀ i, i ≤ T → pw_safe K sp (st i) := by
  intro i hi
  by_cases hiT : i = T
  · subst hiT; exact h.2.1
  · obtain ⟨h1, -⟩ := h.2.2 i (by omega)
    have h2 := h1.2.1
    cases i with
    | zero =>
      rw [h.1]
      by_cases hT : T = 0
      · omega
      · exact ⟨fun s => s = pw_w sp K - 1 ∨ pw_safe K sp s, Or.inl rfl, fun s hs => by
          rcases hs with rfl | hs
          · rw [h.1] at h1
            have h3 : pw_w sp K - 1 < pw_w sp K := by
              have h4 := (pw_safe_step h1.2.1.2).1
              omega
            exact ⟨h3, tn 0, h1.1, h1.2.1.1, Or.inr h1.2.1.2⟩
          · obtain ⟨a, t, b, c, d⟩ := pw_safe_step hs
            exact ⟨a, t, b, c, Or.inr d⟩⟩
    | succ j =>
      have h3 := h.2.2 j (by omega)
      rw [h3.2]
      exact h3.1.2.1.2
theorem pw_P_eq {K : Nat} {sp st tn st' tn' : Nat → Nat} {T T' : Nat} (h : pw_P K sp st tn T) (h' : pw_P K sp st' tn' T') : ∀ i, i ≤ T → i ≤ T' → st i = st' i ∧ (i < T → i < T' → tn i = tn' i) := by
  intro i
  induction i with
  | zero =>
    intro _ _
    have e : st 0 = st' 0 := h.1.trans h'.1.symm
    refine ⟨e, fun a b => ?_⟩
    have h1 := (h.2.2 0 a).1
    rw [e] at h1
    exact pw_F_eq h1 (h'.2.2 0 b).1
  | succ i ih =>
    intro a b
    obtain ⟨e1, e2⟩ := ih (by omega) (by omega)
    have e3 := e2 (by omega) (by omega)
    have e : st (i + 1) = st' (i + 1) := by rw [(h.2.2 i (by omega)).2, (h'.2.2 i (by omega)).2, e1, e3]
    refine ⟨e, fun a b => ?_⟩
    have h1 := (h.2.2 (i + 1) a).1
    rw [e] at h1
    exact pw_F_eq h1 (h'.2.2 (i + 1) b).1
/-- the cycle of builder 3: K clients in their order, with these ids and spans -/
def pw_B3 (K : Nat) (sp id : Nat → Nat) (L : Nat) (cy : Nat → Nat) : Prop :=
  ∃ (st tn : Nat → Nat) (T fr : Nat), pw_P K sp st tn T ∧ fr < T ∧ st T = st fr ∧ (∀ i j, i < j → j < T → st i ≠ st j) ∧ L = T - fr ∧ ∀ j, j < L → cy j = id (tn (fr + j))
theorem pw_B3_eq {K : Nat} {sp id : Nat → Nat} {L L' : Nat} {cy cy' : Nat → Nat} (h : pw_B3 K sp id L cy) (h' : pw_B3 K sp id L' cy') : L = L' ∧ ∀ j, j < L → cy j = cy' j := by
  obtain ⟨st, tn, T, fr, hp, hf, he, hd, hL, hc⟩ := h
  obtain ⟨st', tn', T', fr', hp', hf', he', hd', hL', hc'⟩ := h'
  have hT : T = T' := by
    rcases Nat.lt_trichotomy T T' with h1 | h1 | h1
    · have e1 := (pw_P_eq hp hp' T (Nat.le_refl T) (by omega)).1
      have e2 := (pw_P_eq hp hp' fr (by omega) (by omega)).1
      exact absurd (e2.symm.trans (he.symm.trans e1)) (hd' fr T hf h1)
    · exact h1
    · have e1 := (pw_P_eq hp hp' T' (by omega) (Nat.le_refl T')).1
      have e2 := (pw_P_eq hp hp' fr' (by omega) (by omega)).1
      exact absurd (e2.trans (he'.symm.trans e1.symm)) (hd fr' T' hf' h1)
  subst hT
  have hfr : fr = fr' := by
    have e0 := (pw_P_eq hp hp' T (Nat.le_refl T) (Nat.le_refl T)).1
    have e1 := (pw_P_eq hp hp' fr' (by omega) (by omega)).1
    have e2 : st fr = st fr' := by rw [← he, e0, he', e1]
    rcases Nat.lt_trichotomy fr fr' with h1 | h1 | h1
    · exact absurd e2 (hd fr fr' h1 hf')
    · exact h1
    · exact absurd e2.symm (hd fr' fr h1 hf)
  subst hfr
  refine ⟨by omega, fun j hj => ?_⟩
  rw [hc j hj, hc' j (by omega), (pw_P_eq hp hp' (fr + j) (by omega) (by omega)).2 (by omega) (by omega)]
/-- each client has a place -/
theorem pw_B3_has {K : Nat} {sp id : Nat → Nat} {L : Nat} {cy : Nat → Nat} (hsp : ∀ k, k < K → 0 < sp k) (h : pw_B3 K sp id L cy) : 0 < L ∧ ∀ k, k < K → ∃ j, j < L ∧ cy j = id k := by
  obtain ⟨st, tn, T, fr, hp, hf, he, hd, hL, hc⟩ := h
  refine ⟨by omega, fun k hk => ?_⟩
  by_cases hx : ∃ j, j < L ∧ tn (fr + j) = k
  · obtain ⟨j, hj, e⟩ := hx
    exact ⟨j, hj, by rw [hc j hj, e]⟩
  · have key : ∀ j, j ≤ L → pw_dg sp (st (fr + j)) k + j = pw_dg sp (st fr) k := by
      intro j
      induction j with
      | zero => intro _; rfl
      | succ j ih =>
        intro hj
        have h1 := ih (by omega)
        obtain ⟨h2, h3⟩ := hp.2.2 (fr + j) (by omega)
        have hne : k ≠ tn (fr + j) := fun e => hx ⟨j, by omega, e.symm⟩
        have h4 := h2.2.1.1 k hk hne
        have h5 : pw_dg sp (st (fr + (j + 1))) k = pw_dg sp (st (fr + j)) k - 1 := by
          rw [← Nat.add_assoc, h3, pw_dg_nx hsp _ _ k hk]
          simp only [pw_nd, if_neg hne]
        omega
    have h1 := key L (Nat.le_refl L)
    rw [show fr + L = T by omega, he] at h1
    omega
/-- the length is at most the number of states -/
theorem pw_P_few {K : Nat} {sp st tn : Nat → Nat} {T : Nat} (h : pw_P K sp st tn T) (hd : ∀ i j, i < j → j < T → st i ≠ st j) : T ≤ pw_w sp K := by
  refine pw_few (U := st) _ _ (fun i hi => (pw_safe_step (pw_P_safe h i (by omega))).1) fun i j hi hj e => ?_
  rcases Nat.lt_trichotomy i j with h1 | h1 | h1
  · exact absurd e (hd i j h1 hj)
  · exact h1
  · exact absurd e.symm (hd j i h1 hi)
