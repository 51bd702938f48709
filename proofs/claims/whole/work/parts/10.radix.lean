/-! Mixed radix states, one step of builder 3, the greatest set of safe states, schedules. -/
/-- the weight of digit k -/
def pw_w (sp : Nat → Nat) : Nat → Nat
  | 0 => 1
  | k + 1 => pw_w sp k * sp k
/-- digit k of a state -/
def pw_dg (sp : Nat → Nat) (s k : Nat) : Nat := s / pw_w sp k % sp k
/-- the state with these digits -/
def pw_en (sp d : Nat → Nat) : Nat → Nat
  | 0 => 0
  | k + 1 => pw_en sp d k + d k * pw_w sp k
/-- the sum of the weights -/
def pw_sw (sp : Nat → Nat) : Nat → Nat
  | 0 => 0
  | k + 1 => pw_sw sp k + pw_w sp k
theorem pw_w_pos {sp : Nat → Nat} {K : Nat} (h : ∀ k, k < K → 0 < sp k) : 0 < pw_w sp K := by
  induction K with
  | zero => exact Nat.one_pos
  | succ K ih => exact Nat.mul_pos (ih fun k hk => h k (Nat.lt_succ_of_lt hk)) (h K (Nat.lt_succ_self K))
theorem pw_w_pos' {sp : Nat → Nat} {K k : Nat} (h : ∀ k, k < K → 0 < sp k) (hk : k ≤ K) : 0 < pw_w sp k := pw_w_pos fun j hj => h j (Nat.lt_of_lt_of_le hj hk)
theorem pw_w_dvd {sp : Nat → Nat} {K k : Nat} (hk : k < K) : pw_w sp k * sp k ∣ pw_w sp K := by
  induction K with
  | zero => exact absurd hk (Nat.not_lt_zero _)
  | succ K ih =>
    by_cases h : k = K
    · subst h; exact Nat.dvd_refl _
    · exact Nat.dvd_trans (ih (by omega)) (Nat.dvd_mul_right _ _)
theorem pw_en_lt {sp d : Nat → Nat} {K : Nat} (h : ∀ k, k < K → d k < sp k) : pw_en sp d K < pw_w sp K := by
  induction K with
  | zero => exact Nat.one_pos
  | succ K ih =>
    have h1 := ih fun k hk => h k (Nat.lt_succ_of_lt hk)
    have h2 : (d K + 1) * pw_w sp K ≤ sp K * pw_w sp K := Nat.mul_le_mul_right _ (h K (Nat.lt_succ_self K))
    have h3 : (d K + 1) * pw_w sp K = d K * pw_w sp K + pw_w sp K := Nat.succ_mul _ _
    have h4 : pw_w sp K * sp K = sp K * pw_w sp K := Nat.mul_comm _ _
    show pw_en sp d K + d K * pw_w sp K < pw_w sp K * sp K
    omega
theorem pw_dg_lt {sp : Nat → Nat} {s k : Nat} (h : 0 < sp k) : pw_dg sp s k < sp k := Nat.mod_lt _ h
theorem pw_dg_en {sp d : Nat → Nat} {K : Nat} (h : ∀ k, k < K → d k < sp k) : ∀ k, k < K → pw_dg sp (pw_en sp d K) k = d k := by
  induction K with
  | zero => intro k hk; exact absurd hk (Nat.not_lt_zero _)
  | succ K ih =>
    intro k hk
    have hp : 0 < pw_w sp K := pw_w_pos fun j hj => Nat.lt_of_le_of_lt (Nat.zero_le _) (h j (Nat.lt_succ_of_lt hj))
    have hlt := pw_en_lt (sp := sp) (d := d) (K := K) fun j hj => h j (Nat.lt_succ_of_lt hj)
    by_cases hkK : k = K
    · subst hkK
      show (pw_en sp d k + d k * pw_w sp k) / pw_w sp k % sp k = d k
      rw [Nat.add_mul_div_right _ _ hp, Nat.div_eq_of_lt hlt, Nat.zero_add, Nat.mod_eq_of_lt (h k hk)]
    · have hk' : k < K := by omega
      rw [← ih (fun j hj => h j (Nat.lt_succ_of_lt hj)) k hk']
      show (pw_en sp d K + d K * pw_w sp K) / pw_w sp k % sp k = pw_en sp d K / pw_w sp k % sp k
      obtain ⟨z, hz⟩ := pw_w_dvd (sp := sp) hk'
      have hpk : 0 < pw_w sp k := pw_w_pos fun j hj => Nat.lt_of_le_of_lt (Nat.zero_le _) (h j (by omega))
      have e1 : d K * pw_w sp K = (d K * z * sp k) * pw_w sp k := by
        rw [hz]; simp only [Nat.mul_comm, Nat.mul_left_comm, Nat.mul_assoc]
      rw [e1, Nat.add_mul_div_right _ _ hpk, Nat.add_mul_mod_self_right]
theorem pw_en_dg (sp : Nat → Nat) (s : Nat) : ∀ K, pw_en sp (pw_dg sp s) K = s % pw_w sp K := by
  intro K
  induction K with
  | zero => show 0 = s % 1; omega
  | succ K ih =>
    show pw_en sp (pw_dg sp s) K + pw_dg sp s K * pw_w sp K = s % (pw_w sp K * sp K)
    rw [ih, Nat.mod_mul, Nat.mul_comm (pw_dg sp s K)]
    rfl
theorem pw_en_dg' {sp : Nat → Nat} {s K : Nat} (h : s < pw_w sp K) : pw_en sp (pw_dg sp s) K = s := by rw [pw_en_dg, Nat.mod_eq_of_lt h]
theorem pw_en_congr {sp d d' : Nat → Nat} {K : Nat} (h : ∀ k, k < K → d k = d' k) : pw_en sp d K = pw_en sp d' K := by
  induction K with
  | zero => rfl
  | succ K ih =>
    show pw_en sp d K + d K * pw_w sp K = pw_en sp d' K + d' K * pw_w sp K
    rw [ih fun k hk => h k (Nat.lt_succ_of_lt hk), h K (Nat.lt_succ_self K)]
/-- all others have a slot left -/
def pw_ok (K : Nat) (sp : Nat → Nat) (s t : Nat) : Prop := ∀ k, k < K → k ≠ t → pw_dg sp s k ≠ 0
/-- the digits behind a service of t -/
def pw_nd (sp : Nat → Nat) (s t : Nat) : Nat → Nat := fun k => if k = t then sp k - 1 else pw_dg sp s k - 1
/-- the state behind a service of t -/
def pw_nx (K : Nat) (sp : Nat → Nat) (s t : Nat) : Nat := pw_en sp (pw_nd sp s t) K
theorem pw_nd_lt {K : Nat} {sp : Nat → Nat} (hsp : ∀ k, k < K → 0 < sp k) (s t : Nat) : ∀ k, k < K → pw_nd sp s t k < sp k := by
  intro k hk
  have h1 := hsp k hk
  have h2 := pw_dg_lt (sp := sp) (s := s) h1
  unfold pw_nd
  split <;> omega
theorem pw_nx_lt {K : Nat} {sp : Nat → Nat} (hsp : ∀ k, k < K → 0 < sp k) (s t : Nat) : pw_nx K sp s t < pw_w sp K := pw_en_lt (pw_nd_lt hsp s t)
theorem pw_dg_nx {K : Nat} {sp : Nat → Nat} (hsp : ∀ k, k < K → 0 < sp k) (s t : Nat) : ∀ k, k < K → pw_dg sp (pw_nx K sp s t) k = pw_nd sp s t k := pw_dg_en (pw_nd_lt hsp s t)
theorem pw_ext {K : Nat} {sp : Nat → Nat} {s s' : Nat} (h : s < pw_w sp K) (h' : s' < pw_w sp K) (hd : ∀ k, k < K → pw_dg sp s k = pw_dg sp s' k) : s = s' := by
  rw [← pw_en_dg' h, ← pw_en_dg' h', pw_en_congr hd]
/-- another way to count the next state -/
theorem pw_nx_sum {K : Nat} {sp : Nat → Nat} {s t : Nat} (hsp : ∀ k, k < K → 0 < sp k) (ht : t < K) (hs : s < pw_w sp K) (hok : pw_ok K sp s t) :
    pw_nx K sp s t + pw_sw sp K = s + pw_w sp t * (sp t - pw_dg sp s t) := by
  have key : ∀ n, n ≤ K → pw_en sp (pw_nd sp s t) n + pw_sw sp n = pw_en sp (pw_dg sp s) n + (if t < n then pw_w sp t * (sp t - pw_dg sp s t) else 0) := by
    intro n
    induction n with
    | zero => intro _; simp [pw_en, pw_sw]
    | succ n ih =>
      intro hn
      have h1 := ih (by omega)
      show pw_en sp (pw_nd sp s t) n + pw_nd sp s t n * pw_w sp n + (pw_sw sp n + pw_w sp n) = pw_en sp (pw_dg sp s) n + pw_dg sp s n * pw_w sp n + _
      by_cases hnt : n = t
      · subst hnt
        have h2 := pw_dg_lt (sp := sp) (s := s) (hsp n ht)
        have h3 : pw_nd sp s n n = sp n - 1 := by simp [pw_nd]
        rw [if_neg (Nat.lt_irrefl n)] at h1
        rw [if_pos (Nat.lt_succ_self n), h3]
        have h4 : (sp n - 1) * pw_w sp n + pw_w sp n = sp n * pw_w sp n := by
          rw [← Nat.succ_mul]; congr 1; omega
        have h5 : pw_dg sp s n * pw_w sp n + pw_w sp n * (sp n - pw_dg sp s n) = sp n * pw_w sp n := by
          rw [Nat.mul_comm (pw_w sp n), ← Nat.add_mul]; congr 1; omega
        omega
      · have h2 := hok n (by omega) hnt
        have h3 : pw_nd sp s t n = pw_dg sp s n - 1 := by simp [pw_nd, hnt]
        have h4 : (pw_dg sp s n - 1) * pw_w sp n + pw_w sp n = pw_dg sp s n * pw_w sp n := by
          rw [← Nat.succ_mul]; congr 1; omega
        have h6 : (if t < n + 1 then pw_w sp t * (sp t - pw_dg sp s t) else 0) = (if t < n then pw_w sp t * (sp t - pw_dg sp s t) else 0) := by
          by_cases h7 : t < n
          · rw [if_pos h7, if_pos (by omega)]
          · rw [if_neg h7, if_neg (by omega)]
        rw [h3, h6]
        omega
  have h := key K (Nat.le_refl K)
  rw [if_pos ht, pw_en_dg' hs] at h
  exact h
/-- it can go on without end -/
def pw_safe (K : Nat) (sp : Nat → Nat) (s : Nat) : Prop := ∃ X : Nat → Prop, X s ∧ ∀ s, X s → s < pw_w sp K ∧ ∃ t, t < K ∧ pw_ok K sp s t ∧ X (pw_nx K sp s t)
theorem pw_safe_step {K : Nat} {sp : Nat → Nat} {s : Nat} (h : pw_safe K sp s) : s < pw_w sp K ∧ ∃ t, t < K ∧ pw_ok K sp s t ∧ pw_safe K sp (pw_nx K sp s t) := by
  obtain ⟨X, h1, h2⟩ := h
  obtain ⟨h3, t, h4, h5, h6⟩ := h2 s h1
  exact ⟨h3, t, h4, h5, X, h6, h2⟩
/-- the state of the full spans -/
theorem pw_full {K : Nat} {sp : Nat → Nat} (hsp : ∀ k, k < K → 0 < sp k) : pw_w sp K - 1 < pw_w sp K ∧ ∀ k, k < K → pw_dg sp (pw_w sp K - 1) k = sp k - 1 := by
  have hd : ∀ k, k < K → sp k - 1 < sp k := fun k hk => by have := hsp k hk; omega
  have key : ∀ n, n ≤ K → pw_en sp (fun k => sp k - 1) n + 1 = pw_w sp n := by
    intro n
    induction n with
    | zero => intro _; rfl
    | succ n ih =>
      intro hn
      have h1 := ih (by omega)
      have h2 := hsp n (by omega)
      show pw_en sp (fun k => sp k - 1) n + (sp n - 1) * pw_w sp n + 1 = pw_w sp n * sp n
      have h3 : (sp n - 1) * pw_w sp n + pw_w sp n = pw_w sp n * sp n := by
        rw [← Nat.succ_mul, Nat.mul_comm]; congr 1; omega
      omega
  have h := key K (Nat.le_refl K)
  have e : pw_w sp K - 1 = pw_en sp (fun k => sp k - 1) K := by omega
  exact ⟨by omega, fun k hk => by rw [e]; exact pw_dg_en hd k hk⟩
/-- a schedule: slot after slot who is served; each client within its span -/
def pw_sched (K : Nat) (id sp : Nat → Nat) : Prop := ∃ f : Nat → Nat, ∀ k, k < K → ∀ t, ∃ d, d < sp k ∧ f (t + d) = id k
theorem pw_safe_sched {K : Nat} {id sp : Nat → Nat} (hsp : ∀ k, k < K → 0 < sp k) (h : pw_safe K sp (pw_w sp K - 1)) : pw_sched K id sp := by
  have ch : ∀ s : {s // pw_safe K sp s}, ∃ t, t < K ∧ pw_ok K sp s.1 t ∧ pw_safe K sp (pw_nx K sp s.1 t) := fun s => (pw_safe_step s.2).2
  have hc : ∃ g : {s // pw_safe K sp s} → Nat, ∀ s, g s < K ∧ pw_ok K sp s.1 (g s) ∧ pw_safe K sp (pw_nx K sp s.1 (g s)) := ⟨fun s => Classical.choose (ch s), fun s => Classical.choose_spec (ch s)⟩
  obtain ⟨g, hg⟩ := hc
  let st : Nat → {s // pw_safe K sp s} := fun n => Nat.rec ⟨_, h⟩ (fun _ s => ⟨pw_nx K sp s.1 (g s), (hg s).2.2⟩) n
  have hst : ∀ n, (st (n + 1)).1 = pw_nx K sp (st n).1 (g (st n)) := fun n => rfl
  refine ⟨fun n => id (g (st n)), fun k hk => ?_⟩
  have key : ∀ v t, pw_dg sp (st t).1 k = v → ∃ d, d ≤ v ∧ g (st (t + d)) = k := by
    intro v
    induction v with
    | zero =>
      intro t hv
      refine ⟨0, Nat.le_refl 0, ?_⟩
      have h1 := (hg (st t)).2.1 k hk
      by_cases h2 : k = g (st t)
      · exact h2.symm
      · exact absurd hv (h1 h2)
    | succ v ih =>
      intro t hv
      by_cases h2 : k = g (st t)
      · exact ⟨0, Nat.zero_le _, h2.symm⟩
      · have h3 : pw_dg sp (st (t + 1)).1 k = v := by
          rw [hst, pw_dg_nx hsp _ _ k hk]
          simp only [pw_nd, if_neg h2, hv]
          omega
        obtain ⟨d, hd, e⟩ := ih (t + 1) h3
        exact ⟨d + 1, by omega, by rw [show t + (d + 1) = t + 1 + d by omega]; exact e⟩
  intro t
  obtain ⟨d, hd, e⟩ := key _ t rfl
  have h4 := pw_dg_lt (sp := sp) (s := (st t).1) (hsp k hk)
  exact ⟨d, by omega, by show id (g (st (t + d))) = id k; rw [e]⟩
theorem pw_sched_safe {K : Nat} {id sp : Nat → Nat} (hK : 0 < K) (hsp : ∀ k, k < K → 0 < sp k) (hid : ∀ i j, i < K → j < K → id i = id j → i = j) (h : pw_sched K id sp) : pw_safe K sp (pw_w sp K - 1) := by
  obtain ⟨f, hf⟩ := h
  refine ⟨fun s => s < pw_w sp K ∧ ∃ t, ∀ k, k < K → ∃ d, d ≤ pw_dg sp s k ∧ f (t + d) = id k, ⟨(pw_full hsp).1, 0, fun k hk => ?_⟩, ?_⟩
  · obtain ⟨d, hd, e⟩ := hf k hk 0
    rw [(pw_full hsp).2 k hk]
    exact ⟨d, by omega, e⟩
  · intro s ⟨hs, t, ht⟩
    refine ⟨hs, ?_⟩
    have go : ∀ q, q < K → (∀ k, k < K → k ≠ q → f t ≠ id k) → q < K ∧ pw_ok K sp s q ∧ (pw_nx K sp s q < pw_w sp K ∧ ∃ t', ∀ k, k < K → ∃ d, d ≤ pw_dg sp (pw_nx K sp s q) k ∧ f (t' + d) = id k) := by
      intro q hq hne
      refine ⟨hq, fun k hk hkq h0 => ?_, pw_nx_lt hsp _ _, t + 1, fun k hk => ?_⟩
      · obtain ⟨d, hd, e⟩ := ht k hk
        have hd0 : d = 0 := by omega
        subst hd0
        exact hne k hk hkq e
      · rw [pw_dg_nx hsp _ _ k hk]
        by_cases hkq : k = q
        · subst hkq
          obtain ⟨d, hd, e⟩ := hf k hk (t + 1)
          refine ⟨d, ?_, e⟩
          simp only [pw_nd, if_true]
          omega
        · obtain ⟨d, hd, e⟩ := ht k hk
          have hd0 : d ≠ 0 := fun z => by subst z; exact hne k hk hkq e
          refine ⟨d - 1, ?_, ?_⟩
          · simp only [pw_nd, if_neg hkq]; omega
          · rw [← e]; congr 1; omega
    by_cases hx : ∃ q, q < K ∧ f t = id q
    · obtain ⟨q, hq, e⟩ := hx
      exact ⟨q, go q hq fun k hk hkq e' => hkq (hid k q hk hq (e'.symm.trans e))⟩
    · exact ⟨0, go 0 hK fun k hk _ e => hx ⟨k, hk, e⟩⟩
/-- only the set of the pairs counts -/
theorem pw_sched_set {K K' : Nat} {id sp id' sp' : Nat → Nat} (h : ∀ k, k < K' → ∃ j, j < K ∧ id j = id' k ∧ sp j ≤ sp' k) (hs : pw_sched K id sp) : pw_sched K' id' sp' := by
  obtain ⟨f, hf⟩ := hs
  refine ⟨f, fun k hk t => ?_⟩
  obtain ⟨j, hj, e1, e2⟩ := h k hk
  obtain ⟨d, hd, e⟩ := hf j hj t
  exact ⟨d, by omega, by rw [e, e1]⟩
