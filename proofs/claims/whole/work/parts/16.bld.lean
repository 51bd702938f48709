/-! Which builder lays which cycle. -/
/-- a base that builder 2 may take -/
def pw_al (sp : Nat → Nat) (n b : Nat) : Prop := (3 ≤ b ∧ b ≤ 15 ∧ b % 2 = 1) ∧ ∀ k, k < n → b ≤ sp k
/-- the first one that fits -/
def pw_b2 (sp : Nat → Nat) (n b : Nat) : Prop := pw_al sp n b ∧ pw_fit b sp n ∧ ∀ b', b' < b → pw_al sp n b' → ¬ pw_fit b' sp n
theorem pw_b2_eq {sp : Nat → Nat} {n b b' : Nat} (h : pw_b2 sp n b) (h' : pw_b2 sp n b') : b = b' := by
  rcases Nat.lt_trichotomy b b' with h1 | h1 | h1
  · exact absurd h.2.1 (h'.2.2 b h1 h.1)
  · exact h1
  · exact absurd h'.2.1 (h.2.2 b' h1 h'.1)
theorem pw_b2_ex {sp : Nat → Nat} {n b : Nat} (h : pw_al sp n b) (h' : pw_fit b sp n) : ∃ b, pw_b2 sp n b := by
  obtain ⟨k, hk, hl⟩ := pk_least (fun b => pw_al sp n b ∧ pw_fit b sp n) ⟨b, h, h'⟩
  exact ⟨k, hk.1, hk.2, fun b' hb' ha hf => hl b' hb' ⟨ha, hf⟩⟩
/-- the order of builder 3 -/
def pw_o (sp : Nat → Nat) (n i : Nat) : Nat := (pw_srt sp n).getD i 0
def pw_os (sp : Nat → Nat) (n i : Nat) : Nat := sp (pw_o sp n i)
def pw_oi (id sp : Nat → Nat) (n i : Nat) : Nat := id (pw_o sp n i)
/-- builder 3 takes them -/
def pw_tk (sp : Nat → Nat) (n : Nat) : Prop := n ≤ 4 ∧ pw_w sp n ≤ 1500
def pw_sf (sp : Nat → Nat) (n : Nat) : Prop := pw_safe n (pw_os sp n) (pw_w (pw_os sp n) n - 1)
theorem pw_os_w (sp : Nat → Nat) (n : Nat) : pw_w (pw_os sp n) n = pw_w sp n := pw_srt_w (r := sp) (f := sp) n
def pw_Bld (n : Nat) (id sp : Nat → Nat) (w L : Nat) (cy : Nat → Nat) : Prop :=
  (w = 1 ∧ pw_fit 1 sp n ∧ L = pw_mx (pw_r 1 sp) n ∧ ∀ j, j < L → cy j = pw_CY 1 n id sp j) ∨
  (w = 2 ∧ ¬ pw_fit 1 sp n ∧ ∃ b, pw_b2 sp n b ∧ L = pw_mx (pw_r b sp) n ∧ ∀ j, j < L → cy j = pw_CY b n id sp j) ∨
  (w = 3 ∧ ¬ pw_fit 1 sp n ∧ (¬ ∃ b, pw_b2 sp n b) ∧ pw_tk sp n ∧ pw_sf sp n ∧ pw_B3 n (pw_os sp n) (pw_oi id sp n) L cy)
/-- all builders fail -/
def pw_no (n : Nat) (sp : Nat → Nat) : Prop := ¬ pw_fit 1 sp n ∧ (¬ ∃ b, pw_b2 sp n b) ∧ ¬ (pw_tk sp n ∧ pw_sf sp n)
theorem pw_Bld_no {n : Nat} {id sp : Nat → Nat} {w L : Nat} {cy : Nat → Nat} (h : pw_Bld n id sp w L cy) (h' : pw_no n sp) : False := by
  obtain ⟨a, b, c⟩ := h'
  rcases h with ⟨-, h, -⟩ | ⟨-, -, x, h, -⟩ | ⟨-, -, -, h1, h2, -⟩
  · exact a h
  · exact b ⟨x, h⟩
  · exact c ⟨h1, h2⟩
theorem pw_Bld_eq {n : Nat} {id sp : Nat → Nat} {w L w' L' : Nat} {cy cy' : Nat → Nat} (h : pw_Bld n id sp w L cy) (h' : pw_Bld n id sp w' L' cy') : w = w' ∧ L = L' ∧ ∀ j, j < L → cy j = cy' j := by
  rcases h with ⟨rfl, h1, rfl, h2⟩ | ⟨rfl, h1, b, h2, rfl, h3⟩ | ⟨rfl, h1, h2, h3, h4, h5⟩ <;> rcases h' with ⟨rfl, g1, rfl, g2⟩ | ⟨rfl, g1, b', g2, rfl, g3⟩ | ⟨rfl, g1, g2, g3, g4, g5⟩
  · exact ⟨rfl, rfl, fun j hj => (h2 j hj).trans (g2 j hj).symm⟩
  · exact absurd h1 g1
  · exact absurd h1 g1
  · exact absurd g1 h1
  · have e := pw_b2_eq h2 g2
    subst e
    exact ⟨rfl, rfl, fun j hj => (h3 j hj).trans (g3 j hj).symm⟩
  · exact absurd ⟨b, h2⟩ g2
  · exact absurd g1 h1
  · exact absurd ⟨b', g2⟩ h2
  · obtain ⟨e1, e2⟩ := pw_B3_eq h5 g5
    exact ⟨rfl, e1, e2⟩
/-- what is known of every set -/
def pw_G (n : Nat) (id sp : Nat → Nat) : Prop := (∀ k, k < n → 0 < id k ∧ id k < 1000) ∧ (∀ i j, i < j → j < n → id i < id j) ∧ ∀ k, k < n → 0 < sp k ∧ sp k ≤ 40
theorem pw_G_inj {n : Nat} {id sp : Nat → Nat} (h : pw_G n id sp) : ∀ i j, i < n → j < n → id i = id j → i = j := by
  intro i j hi hj e
  rcases Nat.lt_trichotomy i j with h1 | h1 | h1
  · have := h.2.1 i j h1 hj; omega
  · exact h1
  · have := h.2.1 j i h1 hi; omega
theorem pw_G_S {n : Nat} {id sp : Nat → Nat} (h : pw_G n id sp) {b : Nat} (hb : 0 < b) : pw_S n id sp b := ⟨hb, fun k hk => (h.1 k hk).1, pw_G_inj h⟩
theorem pw_mx_40 {n : Nat} {sp : Nat → Nat} {b : Nat} (h : ∀ k, k < n → sp k ≤ 40) (hb : ∀ k, k < n → b ≤ sp k) : pw_mx (pw_r b sp) n ≤ 40 := pw_mx_le (by decide) fun k hk => Nat.le_trans (pw_rnd_le 6 b (sp k) (hb k hk)) (h k hk)
theorem pw_os_pos {n : Nat} {id sp : Nat → Nat} (h : pw_G n id sp) : ∀ k, k < n → 0 < pw_os sp n k := fun k hk => (h.2.2 _ (pw_srt_get hk)).1
theorem pw_B3_len {K : Nat} {sp id : Nat → Nat} {L : Nat} {cy : Nat → Nat} (h : pw_B3 K sp id L cy) : L ≤ pw_w sp K := by
  obtain ⟨st, tn, T, fr, hp, hf, he, hd, hL, hc⟩ := h
  have := pw_P_few hp hd
  omega
/-- a cycle has places, not too many, and every client has one -/
theorem pw_Bld_has {n : Nat} {id sp : Nat → Nat} {w L : Nat} {cy : Nat → Nat} (hG : pw_G n id sp) (h : pw_Bld n id sp w L cy) : 0 < L ∧ L ≤ 1500 ∧ (1 ≤ w ∧ w ≤ 3) ∧ ∀ k, k < n → ∃ j, j < L ∧ cy j = id k := by
  rcases h with ⟨rfl, h1, rfl, h2⟩ | ⟨rfl, h1, b, h2, rfl, h3⟩ | ⟨rfl, h1, h2, h3, h4, h5⟩
  · refine ⟨pw_mx_pos n, ?_, by decide, fun k hk => ?_⟩
    · have := pw_mx_40 (b := 1) (fun k hk => (hG.2.2 k hk).2) fun k hk => (hG.2.2 k hk).1
      omega
    · obtain ⟨j, hj, e⟩ := pw_CY_has (pw_G_S hG Nat.one_pos) h1 k hk
      exact ⟨j, hj, (h2 j hj).trans e⟩
  · refine ⟨pw_mx_pos n, ?_, by decide, fun k hk => ?_⟩
    · have := pw_mx_40 (b := b) (fun k hk => (hG.2.2 k hk).2) h2.1.2
      omega
    · obtain ⟨j, hj, e⟩ := pw_CY_has (pw_G_S hG (by have := h2.1.1.1; omega)) h2.2.1 k hk
      exact ⟨j, hj, (h3 j hj).trans e⟩
  · obtain ⟨h6, h7⟩ := pw_B3_has (pw_os_pos hG) h5
    refine ⟨h6, ?_, by decide, fun k hk => ?_⟩
    · have h8 := pw_B3_len h5
      rw [pw_os_w] at h8
      have := h3.2
      omega
    · obtain ⟨i, hi, e⟩ := pw_srt_all (r := sp) hk
      obtain ⟨j, hj, e2⟩ := h7 i hi
      exact ⟨j, hj, by rw [e2]; show id ((pw_srt sp n).getD i 0) = id k; rw [e]⟩
/-- the exact decision doesn't hang on the order -/
theorem pw_sf_iff {n : Nat} {id sp : Nat → Nat} (hG : pw_G n id sp) (hn : 0 < n) : pw_sf sp n ↔ pw_safe n sp (pw_w sp n - 1) := by
  have hsp : ∀ k, k < n → 0 < sp k := fun k hk => (hG.2.2 k hk).1
  constructor
  · intro h
    have h1 := pw_safe_sched (id := pw_oi id sp n) (pw_os_pos hG) h
    refine pw_sched_safe (id := id) hn hsp (pw_G_inj hG) (pw_sched_set (fun k hk => ?_) h1)
    obtain ⟨i, hi, e⟩ := pw_srt_all (r := sp) hk
    exact ⟨i, hi, by show id ((pw_srt sp n).getD i 0) = id k; rw [e], by show sp ((pw_srt sp n).getD i 0) ≤ sp k; rw [e]; exact Nat.le_refl _⟩
  · intro h
    have h1 := pw_safe_sched (id := id) hsp h
    refine pw_sched_safe (id := pw_oi id sp n) hn (pw_os_pos hG) (fun i j hi hj e => ?_) (pw_sched_set (fun k hk => ?_) h1)
    · exact pw_srt_inj (r := sp) hi hj (pw_G_inj hG _ _ (pw_srt_get hi) (pw_srt_get hj) e)
    · exact ⟨pw_o sp n k, pw_srt_get hk, rfl, Nat.le_refl _⟩
/-- for those left one of the builders doesn't fail -/
theorem pw_drop {n n' : Nat} {id sp id' sp' : Nat → Nat} {w L : Nat} {cy : Nat → Nat} (hG : pw_G n id sp) (hG' : pw_G n' id' sp') (h : pw_Bld n id sp w L cy) (g : Nat → Nat) (hg : ∀ k, k < n' → g k < n ∧ sp' k = sp (g k) ∧ id' k = id (g k)) (hi : ∀ i j, i < j → j < n' → g i < g j) (hle : n' ≤ n) : ¬ pw_no n' sp' := by
  intro ⟨h1, h2, h3⟩
  have hg2 : ∀ k, k < n' → g k < n ∧ sp' k = sp (g k) := fun k hk => ⟨(hg k hk).1, (hg k hk).2.1⟩
  have hn' : 0 < n' := by
    refine Nat.pos_of_ne_zero fun z => h1 ?_
    subst z
    exact Nat.zero_le _
  rcases h with ⟨rfl, f1, -⟩ | ⟨rfl, -, b, f2, -⟩ | ⟨rfl, f1, f2, f3, f4, -⟩
  · exact h1 (pw_fit_sub Nat.one_pos f1 g hg2 hi)
  · refine h2 (pw_b2_ex (b := b) ⟨f2.1.1, fun k hk => ?_⟩ (pw_fit_sub (by have := f2.1.1.1; omega) f2.2.1 g hg2 hi))
    rw [(hg2 k hk).2]
    exact f2.1.2 _ (hg2 k hk).1
  · refine h3 ⟨⟨by have := f3.1; omega, ?_⟩, ?_⟩
    · have hw : ∀ m, m ≤ n' → ∀ M, M ≤ n → (∀ k, k < m → g k < M) → pw_w sp' m ≤ pw_w sp M := by
        intro m
        induction m with
        | zero => intro _ M hM _; exact pw_w_pos fun k hk => (hG.2.2 k (by omega)).1
        | succ m ih =>
          intro hm M hM hk
          have a1 := ih (by omega) (g m) (by have := (hg m (by omega)).1; omega) fun k hk => hi k m hk (by omega)
          have a2 := pw_w_mono (f := sp) (n := g m + 1) (m := M) (fun k hk => (hG.2.2 k (by omega)).1) (hk m (Nat.lt_succ_self m))
          have a3 : pw_w sp' m * sp' m ≤ pw_w sp (g m) * sp (g m) := by rw [(hg m (by omega)).2.1]; exact Nat.mul_le_mul_right _ a1
          exact Nat.le_trans a3 a2
      exact Nat.le_trans (hw n' (Nat.le_refl n') n (Nat.le_refl n) fun k hk => (hg k hk).1) f3.2
    · rw [pw_sf_iff hG (by omega)] at f4
      rw [pw_sf_iff hG' hn']
      have s1 := pw_safe_sched (id := id) (fun k hk => (hG.2.2 k hk).1) f4
      exact pw_sched_safe (id := id') hn' (fun k hk => (hG'.2.2 k hk).1) (pw_G_inj hG') (pw_sched_set (fun k hk => ⟨g k, (hg k hk).1, (hg k hk).2.2.symm, Nat.le_of_eq (hg k hk).2.1.symm⟩) s1)
