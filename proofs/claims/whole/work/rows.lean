section
/-! Mixed radix states, one step of builder 3, the greatest set of safe states, schedules. -/
/-- the weight of digit k -/
def pw_w (sp : Nat → Nat) : Nat → Nat
  | 0 => 1
  | k + 1 => pw_w sp k * sp k
/-- digit k of a state -/
def pw_dg (sp : Nat → Nat) (s k : Nat) : Nat := s / pw_w sp k % sp k
/-- the state with these digits -/
def pw_en (sp d : Nat → Nat) : Nat → Nat
  | 0 => 0
  | k + 1 => pw_en sp d k + d k * pw_w sp k
/-- the sum of the weights -/
def pw_sw (sp : Nat → Nat) : Nat → Nat
  | 0 => 0
  | k + 1 => pw_sw sp k + pw_w sp k
theorem pw_w_pos {sp : Nat → Nat} {K : Nat} (h : ∀ k, k < K → 0 < sp k) : 0 < pw_w sp K := by
  induction K with
  | zero => exact Nat.one_pos
  | succ K ih => exact Nat.mul_pos (ih fun k hk => h k (Nat.lt_succ_of_lt hk)) (h K (Nat.lt_succ_self K))
theorem pw_w_pos' {sp : Nat → Nat} {K k : Nat} (h : ∀ k, k < K → 0 < sp k) (hk : k ≤ K) : 0 < pw_w sp k := pw_w_pos fun j hj => h j (Nat.lt_of_lt_of_le hj hk)
theorem pw_w_dvd {sp : Nat → Nat} {K k : Nat} (hk : k < K) : pw_w sp k * sp k ∣ pw_w sp K := by
  induction K with
  | zero => exact absurd hk (Nat.not_lt_zero _)
  | succ K ih =>
    by_cases h : k = K
    · subst h; exact Nat.dvd_refl _
    · exact Nat.dvd_trans (ih (by omega)) (Nat.dvd_mul_right _ _)
theorem pw_en_lt {sp d : Nat → Nat} {K : Nat} (h : ∀ k, k < K → d k < sp k) : pw_en sp d K < pw_w sp K := by
  induction K with
  | zero => exact Nat.one_pos
  | succ K ih =>
    have h1 := ih fun k hk => h k (Nat.lt_succ_of_lt hk)
    have h2 : (d K + 1) * pw_w sp K ≤ sp K * pw_w sp K := Nat.mul_le_mul_right _ (h K (Nat.lt_succ_self K))
    have h3 : (d K + 1) * pw_w sp K = d K * pw_w sp K + pw_w sp K := Nat.succ_mul _ _
    have h4 : pw_w sp K * sp K = sp K * pw_w sp K := Nat.mul_comm _ _
    show pw_en sp d K + d K * pw_w sp K < pw_w sp K * sp K
    omega
theorem pw_dg_lt {sp : Nat → Nat} {s k : Nat} (h : 0 < sp k) : pw_dg sp s k < sp k := Nat.mod_lt _ h
theorem pw_dg_en {sp d : Nat → Nat} {K : Nat} (h : ∀ k, k < K → d k < sp k) : ∀ k, k < K → pw_dg sp (pw_en sp d K) k = d k := by
  induction K with
  | zero => intro k hk; exact absurd hk (Nat.not_lt_zero _)
  | succ K ih =>
    intro k hk
    have hp : 0 < pw_w sp K := pw_w_pos fun j hj => Nat.lt_of_le_of_lt (Nat.zero_le _) (h j (Nat.lt_succ_of_lt hj))
    have hlt := pw_en_lt (sp := sp) (d := d) (K := K) fun j hj => h j (Nat.lt_succ_of_lt hj)
    by_cases hkK : k = K
    · subst hkK
      show (pw_en sp d k + d k * pw_w sp k) / pw_w sp k % sp k = d k
      rw [Nat.add_mul_div_right _ _ hp, Nat.div_eq_of_lt hlt, Nat.zero_add, Nat.mod_eq_of_lt (h k hk)]
    · have hk' : k < K := by omega
      rw [← ih (fun j hj => h j (Nat.lt_succ_of_lt hj)) k hk']
      show (pw_en sp d K + d K * pw_w sp K) / pw_w sp k % sp k = pw_en sp d K / pw_w sp k % sp k
      obtain ⟨z, hz⟩ := pw_w_dvd (sp := sp) hk'
      have hpk : 0 < pw_w sp k := pw_w_pos fun j hj => Nat.lt_of_le_of_lt (Nat.zero_le _) (h j (by omega))
      have e1 : d K * pw_w sp K = (d K * z * sp k) * pw_w sp k := by
        rw [hz]; simp only [Nat.mul_comm, Nat.mul_left_comm, Nat.mul_assoc]
      rw [e1, Nat.add_mul_div_right _ _ hpk, Nat.add_mul_mod_self_right]
theorem pw_en_dg (sp : Nat → Nat) (s : Nat) : ∀ K, pw_en sp (pw_dg sp s) K = s % pw_w sp K := by
  intro K
  induction K with
  | zero => show 0 = s % 1; omega
  | succ K ih =>
    show pw_en sp (pw_dg sp s) K + pw_dg sp s K * pw_w sp K = s % (pw_w sp K * sp K)
    rw [ih, Nat.mod_mul, Nat.mul_comm (pw_dg sp s K)]
    rfl
theorem pw_en_dg' {sp : Nat → Nat} {s K : Nat} (h : s < pw_w sp K) : pw_en sp (pw_dg sp s) K = s := by rw [pw_en_dg, Nat.mod_eq_of_lt h]
theorem pw_en_congr {sp d d' : Nat → Nat} {K : Nat} (h : ∀ k, k < K → d k = d' k) : pw_en sp d K = pw_en sp d' K := by
  induction K with
  | zero => rfl
  | succ K ih =>
    show pw_en sp d K + d K * pw_w sp K = pw_en sp d' K + d' K * pw_w sp K
    rw [ih fun k hk => h k (Nat.lt_succ_of_lt hk), h K (Nat.lt_succ_self K)]
/-- all others have a slot left -/
def pw_ok (K : Nat) (sp : Nat → Nat) (s t : Nat) : Prop := ∀ k, k < K → k ≠ t → pw_dg sp s k ≠ 0
/-- the digits behind a service of t -/
def pw_nd (sp : Nat → Nat) (s t : Nat) : Nat → Nat := fun k => if k = t then sp k - 1 else pw_dg sp s k - 1
/-- the state behind a service of t -/
def pw_nx (K : Nat) (sp : Nat → Nat) (s t : Nat) : Nat := pw_en sp (pw_nd sp s t) K
theorem pw_nd_lt {K : Nat} {sp : Nat → Nat} (hsp : ∀ k, k < K → 0 < sp k) (s t : Nat) : ∀ k, k < K → pw_nd sp s t k < sp k := by
  intro k hk
  have h1 := hsp k hk
  have h2 := pw_dg_lt (sp := sp) (s := s) h1
  unfold pw_nd
  split <;> omega
theorem pw_nx_lt {K : Nat} {sp : Nat → Nat} (hsp : ∀ k, k < K → 0 < sp k) (s t : Nat) : pw_nx K sp s t < pw_w sp K := pw_en_lt (pw_nd_lt hsp s t)
theorem pw_dg_nx {K : Nat} {sp : Nat → Nat} (hsp : ∀ k, k < K → 0 < sp k) (s t : Nat) : ∀ k, k < K → pw_dg sp (pw_nx K sp s t) k = pw_nd sp s t k := pw_dg_en (pw_nd_lt hsp s t)
theorem pw_ext {K : Nat} {sp : Nat → Nat} {s s' : Nat} (h : s < pw_w sp K) (h' : s' < pw_w sp K) (hd : ∀ k, k < K → pw_dg sp s k = pw_dg sp s' k) : s = s' := by
  rw [← pw_en_dg' h, ← pw_en_dg' h', pw_en_congr hd]
/-- another way to count the next state -/
theorem pw_nx_sum {K : Nat} {sp : Nat → Nat} {s t : Nat} (hsp : ∀ k, k < K → 0 < sp k) (ht : t < K) (hs : s < pw_w sp K) (hok : pw_ok K sp s t) :
    pw_nx K sp s t + pw_sw sp K = s + pw_w sp t * (sp t - pw_dg sp s t) := by
  have key : ∀ n, n ≤ K → pw_en sp (pw_nd sp s t) n + pw_sw sp n = pw_en sp (pw_dg sp s) n + (if t < n then pw_w sp t * (sp t - pw_dg sp s t) else 0) := by
    intro n
    induction n with
    | zero => intro _; simp [pw_en, pw_sw]
    | succ n ih =>
      intro hn
      have h1 := ih (by omega)
      show pw_en sp (pw_nd sp s t) n + pw_nd sp s t n * pw_w sp n + (pw_sw sp n + pw_w sp n) = pw_en sp (pw_dg sp s) n + pw_dg sp s n * pw_w sp n + _
      by_cases hnt : n = t
      · subst hnt
        have h2 := pw_dg_lt (sp := sp) (s := s) (hsp n ht)
        have h3 : pw_nd sp s n n = sp n - 1 := by simp [pw_nd]
        rw [if_neg (Nat.lt_irrefl n)] at h1
        rw [if_pos (Nat.lt_succ_self n), h3]
        have h4 : (sp n - 1) * pw_w sp n + pw_w sp n = sp n * pw_w sp n := by
          rw [← Nat.succ_mul]; congr 1; omega
        have h5 : pw_dg sp s n * pw_w sp n + pw_w sp n * (sp n - pw_dg sp s n) = sp n * pw_w sp n := by
          rw [Nat.mul_comm (pw_w sp n), ← Nat.add_mul]; congr 1; omega
        omega
      · have h2 := hok n (by omega) hnt
        have h3 : pw_nd sp s t n = pw_dg sp s n - 1 := by simp [pw_nd, hnt]
        have h4 : (pw_dg sp s n - 1) * pw_w sp n + pw_w sp n = pw_dg sp s n * pw_w sp n := by
          rw [← Nat.succ_mul]; congr 1; omega
        have h6 : (if t < n + 1 then pw_w sp t * (sp t - pw_dg sp s t) else 0) = (if t < n then pw_w sp t * (sp t - pw_dg sp s t) else 0) := by
          by_cases h7 : t < n
          · rw [if_pos h7, if_pos (by omega)]
          · rw [if_neg h7, if_neg (by omega)]
        rw [h3, h6]
        omega
  have h := key K (Nat.le_refl K)
  rw [if_pos ht, pw_en_dg' hs] at h
  exact h
/-- it can go on without end -/
def pw_safe (K : Nat) (sp : Nat → Nat) (s : Nat) : Prop := ∃ X : Nat → Prop, X s ∧ ∀ s, X s → s < pw_w sp K ∧ ∃ t, t < K ∧ pw_ok K sp s t ∧ X (pw_nx K sp s t)
theorem pw_safe_step {K : Nat} {sp : Nat → Nat} {s : Nat} (h : pw_safe K sp s) : s < pw_w sp K ∧ ∃ t, t < K ∧ pw_ok K sp s t ∧ pw_safe K sp (pw_nx K sp s t) := by
  obtain ⟨X, h1, h2⟩ := h
  obtain ⟨h3, t, h4, h5, h6⟩ := h2 s h1
  exact ⟨h3, t, h4, h5, X, h6, h2⟩
/-- the state of the full spans -/
theorem pw_full {K : Nat} {sp : Nat → Nat} (hsp : ∀ k, k < K → 0 < sp k) : pw_w sp K - 1 < pw_w sp K ∧ ∀ k, k < K → pw_dg sp (pw_w sp K - 1) k = sp k - 1 := by
  have hd : ∀ k, k < K → sp k - 1 < sp k := fun k hk => by have := hsp k hk; omega
  have key : ∀ n, n ≤ K → pw_en sp (fun k => sp k - 1) n + 1 = pw_w sp n := by
    intro n
    induction n with
    | zero => intro _; rfl
    | succ n ih =>
      intro hn
      have h1 := ih (by omega)
      have h2 := hsp n (by omega)
      show pw_en sp (fun k => sp k - 1) n + (sp n - 1) * pw_w sp n + 1 = pw_w sp n * sp n
      have h3 : (sp n - 1) * pw_w sp n + pw_w sp n = pw_w sp n * sp n := by
        rw [← Nat.succ_mul, Nat.mul_comm]; congr 1; omega
      omega
  have h := key K (Nat.le_refl K)
  have e : pw_w sp K - 1 = pw_en sp (fun k => sp k - 1) K := by omega
  exact ⟨by omega, fun k hk => by rw [e]; exact pw_dg_en hd k hk⟩
/-- a schedule: slot after slot who is served; each client within its span -/
def pw_sched (K : Nat) (id sp : Nat → Nat) : Prop := ∃ f : Nat → Nat, ∀ k, k < K → ∀ t, ∃ d, d < sp k ∧ f (t + d) = id k
theorem pw_safe_sched {K : Nat} {id sp : Nat → Nat} (hsp : ∀ k, k < K → 0 < sp k) (h : pw_safe K sp (pw_w sp K - 1)) : pw_sched K id sp := by
  have ch : ∀ s : {s // pw_safe K sp s}, ∃ t, t < K ∧ pw_ok K sp s.1 t ∧ pw_safe K sp (pw_nx K sp s.1 t) := fun s => (pw_safe_step s.2).2
  have hc : ∃ g : {s // pw_safe K sp s} → Nat, ∀ s, g s < K ∧ pw_ok K sp s.1 (g s) ∧ pw_safe K sp (pw_nx K sp s.1 (g s)) := ⟨fun s => Classical.choose (ch s), fun s => Classical.choose_spec (ch s)⟩
  obtain ⟨g, hg⟩ := hc
  let st : Nat → {s // pw_safe K sp s} := fun n => Nat.rec ⟨_, h⟩ (fun _ s => ⟨pw_nx K sp s.1 (g s), (hg s).2.2⟩) n
  have hst : ∀ n, (st (n + 1)).1 = pw_nx K sp (st n).1 (g (st n)) := fun n => rfl
  refine ⟨fun n => id (g (st n)), fun k hk => ?_⟩
  have key : ∀ v t, pw_dg sp (st t).1 k = v → ∃ d, d ≤ v ∧ g (st (t + d)) = k := by
    intro v
    induction v with
    | zero =>
      intro t hv
      refine ⟨0, Nat.le_refl 0, ?_⟩
      have h1 := (hg (st t)).2.1 k hk
      by_cases h2 : k = g (st t)
      · exact h2.symm
      · exact absurd hv (h1 h2)
    | succ v ih =>
      intro t hv
      by_cases h2 : k = g (st t)
      · exact ⟨0, Nat.zero_le _, h2.symm⟩
      · have h3 : pw_dg sp (st (t + 1)).1 k = v := by
          rw [hst, pw_dg_nx hsp _ _ k hk]
          simp only [pw_nd, if_neg h2, hv]
          omega
        obtain ⟨d, hd, e⟩ := ih (t + 1) h3
        exact ⟨d + 1, by omega, by rw [show t + (d + 1) = t + 1 + d by omega]; exact e⟩
  intro t
  obtain ⟨d, hd, e⟩ := key _ t rfl
  have h4 := pw_dg_lt (sp := sp) (s := (st t).1) (hsp k hk)
  exact ⟨d, by omega, by show id (g (st (t + d))) = id k; rw [e]⟩
theorem pw_sched_safe {K : Nat} {id sp : Nat → Nat} (hK : 0 < K) (hsp : ∀ k, k < K → 0 < sp k) (hid : ∀ i j, i < K → j < K → id i = id j → i = j) (h : pw_sched K id sp) : pw_safe K sp (pw_w sp K - 1) := by
  obtain ⟨f, hf⟩ := h
  refine ⟨fun s => s < pw_w sp K ∧ ∃ t, ∀ k, k < K → ∃ d, d ≤ pw_dg sp s k ∧ f (t + d) = id k, ⟨(pw_full hsp).1, 0, fun k hk => ?_⟩, ?_⟩
  · obtain ⟨d, hd, e⟩ := hf k hk 0
    rw [(pw_full hsp).2 k hk]
    exact ⟨d, by omega, e⟩
  · intro s ⟨hs, t, ht⟩
    refine ⟨hs, ?_⟩
    have go : ∀ q, q < K → (∀ k, k < K → k ≠ q → f t ≠ id k) → q < K ∧ pw_ok K sp s q ∧ (pw_nx K sp s q < pw_w sp K ∧ ∃ t', ∀ k, k < K → ∃ d, d ≤ pw_dg sp (pw_nx K sp s q) k ∧ f (t' + d) = id k) := by
      intro q hq hne
      refine ⟨hq, fun k hk hkq h0 => ?_, pw_nx_lt hsp _ _, t + 1, fun k hk => ?_⟩
      · obtain ⟨d, hd, e⟩ := ht k hk
        have hd0 : d = 0 := by omega
        subst hd0
        exact hne k hk hkq e
      · rw [pw_dg_nx hsp _ _ k hk]
        by_cases hkq : k = q
        · subst hkq
          obtain ⟨d, hd, e⟩ := hf k hk (t + 1)
          refine ⟨d, ?_, e⟩
          simp only [pw_nd, if_true]
          omega
        · obtain ⟨d, hd, e⟩ := ht k hk
          have hd0 : d ≠ 0 := fun z => by subst z; exact hne k hk hkq e
          refine ⟨d - 1, ?_, ?_⟩
          · simp only [pw_nd, if_neg hkq]; omega
          · rw [← e]; congr 1; omega
    by_cases hx : ∃ q, q < K ∧ f t = id q
    · obtain ⟨q, hq, e⟩ := hx
      exact ⟨q, go q hq fun k hk hkq e' => hkq (hid k q hk hq (e'.symm.trans e))⟩
    · exact ⟨0, go 0 hK fun k hk _ e => hx ⟨k, hk, e⟩⟩
/-- only the set of the pairs counts -/
theorem pw_sched_set {K K' : Nat} {id sp id' sp' : Nat → Nat} (h : ∀ k, k < K' → ∃ j, j < K ∧ id j = id' k ∧ sp j ≤ sp' k) (hs : pw_sched K id sp) : pw_sched K' id' sp' := by
  obtain ⟨f, hf⟩ := hs
  refine ⟨f, fun k hk t => ?_⟩
  obtain ⟨j, hj, e1, e2⟩ := h k hk
  obtain ⟨d, hd, e⟩ := hf j hj t
  exact ⟨d, by omega, by rw [e, e1]⟩
end
section
/-! Counting; the worklist of bad states; the plain search for them. -/
def pw_ct (p : Nat → Bool) : Nat → Nat
  | 0 => 0
  | k + 1 => pw_ct p k + (if p k = true then 1 else 0)
theorem pw_ct_le (p : Nat → Bool) : ∀ n, pw_ct p n ≤ n := by
  intro n
  induction n with
  | zero => exact Nat.le_refl 0
  | succ n ih =>
    show pw_ct p n + (if p n = true then 1 else 0) ≤ n + 1
    split <;> omega
theorem pw_ct_congr {p q : Nat → Bool} {n : Nat} (h : ∀ k, k < n → p k = q k) : pw_ct p n = pw_ct q n := by
  induction n with
  | zero => rfl
  | succ n ih =>
    show pw_ct p n + _ = pw_ct q n + _
    rw [ih fun k hk => h k (Nat.lt_succ_of_lt hk), h n (Nat.lt_succ_self n)]
theorem pw_ct_pos {p : Nat → Bool} {n : Nat} : 0 < pw_ct p n ↔ ∃ k, k < n ∧ p k = true := by
  induction n with
  | zero => exact ⟨fun h => absurd h (Nat.lt_irrefl 0), fun ⟨k, hk, _⟩ => absurd hk (Nat.not_lt_zero k)⟩
  | succ n ih =>
    show 0 < pw_ct p n + (if p n = true then 1 else 0) ↔ _
    constructor
    · intro h
      by_cases hp : p n = true
      · exact ⟨n, Nat.lt_succ_self n, hp⟩
      · rw [if_neg hp] at h
        obtain ⟨k, hk, e⟩ := ih.mp h
        exact ⟨k, Nat.lt_succ_of_lt hk, e⟩
    · intro ⟨k, hk, e⟩
      by_cases hkn : k = n
      · subst hkn; rw [if_pos e]; omega
      · have := ih.mpr ⟨k, by omega, e⟩
        omega
/-- one falls away -/
theorem pw_ct_less {p q : Nat → Bool} {n t : Nat} (ht : t < n) (hp : p t = true) (hq : q t = false) (h : ∀ k, k < n → k ≠ t → q k = p k) : pw_ct p n = pw_ct q n + 1 := by
  induction n with
  | zero => exact absurd ht (Nat.not_lt_zero t)
  | succ n ih =>
    show pw_ct p n + (if p n = true then 1 else 0) = pw_ct q n + (if q n = true then 1 else 0) + 1
    by_cases hn : t = n
    · subst hn
      rw [hp, hq, pw_ct_congr (p := p) (q := q) fun k hk => (h k (Nat.lt_succ_of_lt hk) (by omega)).symm]
      simp
    · rw [ih (by omega) fun k hk hkt => h k (Nat.lt_succ_of_lt hk) hkt, h n (Nat.lt_succ_self n) (fun e => hn e.symm)]
      omega
/-- no more different numbers below N than N -/
theorem pw_few {U : Nat → Nat} : ∀ (N n : Nat), (∀ i, i < n → U i < N) → (∀ i j, i < n → j < n → U i = U j → i = j) → n ≤ N := by
  intro N
  induction N generalizing U with
  | zero =>
    intro n h _
    cases n with
    | zero => exact Nat.le_refl 0
    | succ n => exact absurd (h 0 (Nat.succ_pos n)) (Nat.not_lt_zero _)
  | succ N ih =>
    intro n h hi
    cases n with
    | zero => exact Nat.zero_le _
    | succ n =>
      -- swap the place of the greatest with the last one
      by_cases hx : ∃ i, i < n + 1 ∧ U i = N
      · obtain ⟨i, hin, e⟩ := hx
        have hV : n ≤ N := by
          refine ih (U := fun j => if j = i then U n else U j) n (fun j hj => ?_) (fun a b ha hb hab => ?_)
          · by_cases hji : j = i
            · simp only [if_pos hji]
              have h1 := h n (Nat.lt_succ_self n)
              have h2 : U n ≠ N := fun e2 => by have := hi n i (Nat.lt_succ_self n) hin (e2.trans e.symm); omega
              omega
            · simp only [if_neg hji]
              have h1 := h j (by omega)
              have h2 : U j ≠ N := fun e2 => hji (hi j i (by omega) hin (e2.trans e.symm))
              omega
          · by_cases h1 : a = i <;> by_cases h2 : b = i
            · omega
            · simp only [if_pos h1, if_neg h2] at hab
              have := hi n b (Nat.lt_succ_self n) (by omega) hab
              omega
            · simp only [if_neg h1, if_pos h2] at hab
              have := hi a n (by omega) (Nat.lt_succ_self n) hab
              omega
            · simp only [if_neg h1, if_neg h2] at hab
              exact hi a b (by omega) (by omega) hab
        omega
      · have hV : n + 1 ≤ N := by
          refine ih (U := U) (n + 1) (fun j hj => ?_) hi
          have h1 := h j hj
          have h2 : U j ≠ N := fun e2 => hx ⟨j, hj, e2⟩
          omega
        omega
/-- if there are as many as N, all are there -/
theorem pw_all {U : Nat → Nat} {N : Nat} (h : ∀ i, i < N → U i < N) (hi : ∀ i j, i < N → j < N → U i = U j → i = j) : ∀ s, s < N → ∃ i, i < N ∧ U i = s := by
  intro s hs
  by_cases hx : ∃ i, i < N ∧ U i = s
  · exact hx
  · have := pw_few (U := fun i => if i = N then s else U i) N (N + 1) (fun i hi' => by
      by_cases e : i = N
      · simp only [if_pos e]; exact hs
      · simp only [if_neg e]; exact h i (by omega)) (fun a b ha hb hab => by
      by_cases h1 : a = N <;> by_cases h2 : b = N
      · omega
      · simp only [if_pos h1, if_neg h2] at hab; exact absurd ⟨b, by omega, hab.symm⟩ hx
      · simp only [if_neg h1, if_pos h2] at hab; exact absurd ⟨a, by omega, hab⟩ hx
      · simp only [if_neg h1, if_neg h2] at hab; exact hi a b (by omega) (by omega) hab)
    omega
/-- as a yes or no -/
noncomputable def pw_okb (K : Nat) (sp : Nat → Nat) (s t : Nat) : Bool := @decide (pw_ok K sp s t) (Classical.propDecidable _)
theorem pw_okb_iff {K : Nat} {sp : Nat → Nat} {s t : Nat} : pw_okb K sp s t = true ↔ pw_ok K sp s t := by
  unfold pw_okb
  exact @decide_eq_true_iff _ (Classical.propDecidable _)
/-- how many have no slot left -/
def pw_ur (sp : Nat → Nat) (s : Nat) (n : Nat) : Nat := pw_ct (fun k => decide (pw_dg sp s k = 0)) n
/-- the ways on, by how many have no slot left -/
theorem pw_ways {K : Nat} {sp : Nat → Nat} {s : Nat} : pw_ct (pw_okb K sp s) K = if pw_ur sp s K = 0 then K else if pw_ur sp s K = 1 then 1 else 0 := by
  have hz : ∀ k, k < K → pw_dg sp s k = 0 → 0 < pw_ur sp s K := fun k hk e => pw_ct_pos.mpr ⟨k, hk, decide_eq_true e⟩
  by_cases h0 : pw_ur sp s K = 0
  · rw [if_pos h0]
    have hall : ∀ k, k < K → pw_dg sp s k ≠ 0 := fun k hk e => by have := hz k hk e; omega
    have h1 : pw_ct (pw_okb K sp s) K = pw_ct (fun _ => true) K := pw_ct_congr fun t _ => pw_okb_iff.mpr fun k hk _ => hall k hk
    have h2 : ∀ n, pw_ct (fun _ => true) n = n := by
      intro n
      induction n with
      | zero => rfl
      | succ n ih => show pw_ct _ n + (if true = true then 1 else 0) = n + 1; rw [ih]; rfl
    rw [h1, h2]
  · rw [if_neg h0]
    obtain ⟨a, ha, ea⟩ := pw_ct_pos.mp (Nat.pos_of_ne_zero h0)
    have ea' : pw_dg sp s a = 0 := of_decide_eq_true ea
    have hless := pw_ct_less (p := fun k => decide (pw_dg sp s k = 0)) (q := fun k => decide (pw_dg sp s k = 0 ∧ k ≠ a)) ha ea (by simp) (fun k _ hk => by simp [hk])
    have hless : pw_ur sp s K = pw_ct (fun k => decide (pw_dg sp s k = 0 ∧ k ≠ a)) K + 1 := hless
    by_cases h1 : pw_ur sp s K = 1
    · rw [if_pos h1]
      have hno : ∀ k, k < K → k ≠ a → pw_dg sp s k ≠ 0 := fun k hk hka e => by
        have := pw_ct_pos (p := fun k => decide (pw_dg sp s k = 0 ∧ k ≠ a)) (n := K) |>.mpr ⟨k, hk, (decide_eq_true (⟨e, hka⟩ : pw_dg sp s k = 0 ∧ k ≠ a))⟩
        omega
      have h2 := pw_ct_less (p := pw_okb K sp s) (q := fun _ => false) (n := K) ha (pw_okb_iff.mpr hno) rfl (fun t ht hta => by
        cases hb : pw_okb K sp s t with
        | false => rfl
        | true => exact absurd ea' (pw_okb_iff.mp hb a ha (fun e => hta e.symm)))
      have h3 : ∀ n, pw_ct (fun _ => false) n = 0 := by
        intro n
        induction n with
        | zero => rfl
        | succ n ih => show pw_ct _ n + (if false = true then 1 else 0) = 0; rw [ih]; rfl
      rw [h2, h3]
    · rw [if_neg h1]
      have h2 : 0 < pw_ct (fun k => decide (pw_dg sp s k = 0 ∧ k ≠ a)) K := by omega
      obtain ⟨b, hb, eb⟩ := pw_ct_pos.mp h2
      have eb' := of_decide_eq_true eb
      by_cases h3 : 0 < pw_ct (pw_okb K sp s) K
      · obtain ⟨t, ht, et⟩ := pw_ct_pos.mp h3
        have ho := pw_okb_iff.mp et
        by_cases hta : a = t
        · subst hta
          exact absurd eb'.1 (ho b hb eb'.2)
        · exact absurd ea' (ho a ha hta)
      · omega
/-- the book of a worklist: wy the ways on, U the list of uc, the first kp are done; D the ways struck -/
def pw_J (K : Nat) (sp wy U : Nat → Nat) (uc kp : Nat) (D : Nat → Nat → Bool) : Prop :=
  (∀ s, s < pw_w sp K → wy s = pw_ct (fun t => pw_okb K sp s t && !D s t) K) ∧
  (∀ s t, D s t = true → ¬ pw_safe K sp (pw_nx K sp s t)) ∧
  (∀ s, s < pw_w sp K → ((∃ i, i < uc ∧ U i = s) ↔ wy s = 0)) ∧
  (∀ i, i < uc → U i < pw_w sp K) ∧ (∀ i j, i < uc → j < uc → U i = U j → i = j) ∧ kp ≤ uc ∧
  (∀ i s t, i < kp → s < pw_w sp K → t < K → pw_ok K sp s t → pw_nx K sp s t = U i → D s t = true)
theorem pw_J_few {K : Nat} {sp wy U : Nat → Nat} {uc kp : Nat} {D : Nat → Nat → Bool} (h : pw_J K sp wy U uc kp D) : uc ≤ pw_w sp K := pw_few _ _ h.2.2.2.1 h.2.2.2.2.1
theorem pw_J_bad {K : Nat} {sp wy U : Nat → Nat} {uc kp : Nat} {D : Nat → Nat → Bool} (h : pw_J K sp wy U uc kp D) {s : Nat} (hs : s < pw_w sp K) (h0 : wy s = 0) : ¬ pw_safe K sp s := by
  intro hsafe
  obtain ⟨-, t, ht, hok, hn⟩ := pw_safe_step hsafe
  have h1 := h.1 s hs
  have h2 : ¬ 0 < pw_ct (fun t => pw_okb K sp s t && !D s t) K := by omega
  refine h2 (pw_ct_pos.mpr ⟨t, ht, ?_⟩)
  cases hD : D s t with
  | false => simp [pw_okb_iff.mpr hok]
  | true => exact absurd hn (h.2.1 s t hD)
theorem pw_J_end {K : Nat} {sp wy U : Nat → Nat} {uc : Nat} {D : Nat → Nat → Bool} (hsp : ∀ k, k < K → 0 < sp k) (h : pw_J K sp wy U uc uc D) : ∀ s, s < pw_w sp K → (0 < wy s ↔ pw_safe K sp s) := by
  intro s hs
  constructor
  · intro h0
    refine ⟨fun s => s < pw_w sp K ∧ 0 < wy s, ⟨hs, h0⟩, ?_⟩
    intro s ⟨hs, h0⟩
    refine ⟨hs, ?_⟩
    rw [h.1 s hs] at h0
    obtain ⟨t, ht, e⟩ := pw_ct_pos.mp h0
    simp only [Bool.and_eq_true, Bool.not_eq_true'] at e
    have hok := pw_okb_iff.mp e.1
    refine ⟨t, ht, hok, pw_nx_lt hsp s t, ?_⟩
    refine Nat.pos_of_ne_zero fun hw => ?_
    obtain ⟨i, hi, ei⟩ := (h.2.2.1 _ (pw_nx_lt hsp s t)).mpr hw
    have := h.2.2.2.2.2.2 i s t hi hs ht hok ei.symm
    rw [e.2] at this
    cases this
  · intro hsafe
    refine Nat.pos_of_ne_zero fun hw => pw_J_bad h hs hw hsafe
/-- a way is struck -/
theorem pw_J_strike {K : Nat} {sp wy U : Nat → Nat} {uc kp : Nat} {D : Nat → Nat → Bool} (hsp : ∀ k, k < K → 0 < sp k) (h : pw_J K sp wy U uc kp D) {s t : Nat} (hs : s < pw_w sp K) (ht : t < K) (hok : pw_ok K sp s t) (hD : D s t = false) (hkp : kp < uc) (hn : pw_nx K sp s t = U kp) :
    0 < wy s ∧ pw_J K sp (fun j => if j = s then wy s - 1 else wy j) (if wy s - 1 = 0 then (fun j => if j = uc then s else U j) else U) (if wy s - 1 = 0 then uc + 1 else uc) kp (fun a b => D a b || (decide (a = s) && decide (b = t))) := by
  obtain ⟨h1, h2, h3, h4, h5, h6, h7⟩ := id h
  have hwy : wy s = pw_ct (fun b => pw_okb K sp s b && !(D s b || (decide (s = s) && decide (b = t)))) K + 1 := by
    rw [h1 s hs]
    refine pw_ct_less ht ?_ ?_ ?_
    · simp [pw_okb_iff.mpr hok, hD]
    · simp
    · intro k _ hk; simp [hk]
  have hpos : 0 < wy s := by omega
  have hnotin : ∀ i, i < uc → U i ≠ s := fun i hi e => by have := (h3 s hs).mp ⟨i, hi, e⟩; omega
  have hU : ∀ i, i < uc → (if wy s - 1 = 0 then (fun j => if j = uc then s else U j) else U) i = U i := by
    intro i hi
    split
    · show (if i = uc then s else U i) = U i; rw [if_neg (by omega)]
    · rfl
  refine ⟨hpos, ?_, ?_, ?_, ?_, ?_, ?_, ?_⟩
  · intro j hj
    by_cases hjs : j = s
    · subst hjs
      show (if j = j then wy j - 1 else wy j) = _
      rw [if_pos rfl, hwy]
      rfl
    · simp only [if_neg hjs]
      rw [h1 j hj]
      exact pw_ct_congr fun k _ => by simp [hjs]
  · intro a b hab
    by_cases hab' : D a b = true
    · exact h2 a b hab'
    · have hab2 : a = s ∧ b = t := by simpa [hab'] using hab
      obtain ⟨rfl, rfl⟩ := hab2
      rw [hn]
      exact pw_J_bad h (h4 kp hkp) ((h3 _ (h4 kp hkp)).mp ⟨kp, hkp, rfl⟩)
  · intro j hj
    by_cases hw : wy s - 1 = 0
    · simp only [if_pos hw]
      by_cases hjs : j = s
      · subst hjs
        simp only [if_true]
        exact ⟨fun _ => hw, fun _ => ⟨uc, Nat.lt_succ_self uc, by simp⟩⟩
      · simp only [if_neg hjs]
        rw [← h3 j hj]
        constructor
        · intro ⟨i, hi, e⟩
          by_cases hiu : i = uc
          · rw [if_pos hiu] at e; exact absurd e.symm hjs
          · rw [if_neg hiu] at e; exact ⟨i, by omega, e⟩
        · intro ⟨i, hi, e⟩
          exact ⟨i, by omega, by rw [if_neg (by omega)]; exact e⟩
    · simp only [if_neg hw]
      by_cases hjs : j = s
      · subst hjs
        simp only [if_true]
        exact ⟨fun ⟨i, hi, e⟩ => absurd e (hnotin i hi), fun e => absurd e hw⟩
      · simp only [if_neg hjs]
        exact h3 j hj
  · intro i hi
    by_cases hiu : i < uc
    · rw [hU i hiu]; exact h4 i hiu
    · by_cases hw : wy s - 1 = 0
      · rw [if_pos hw] at hi ⊢
        have : i = uc := by omega
        simp only [if_pos this]
        exact hs
      · rw [if_neg hw] at hi; omega
  · intro i j hi hj hij
    by_cases hw : wy s - 1 = 0
    · rw [if_pos hw] at hi hj hij
      by_cases hiu : i = uc <;> by_cases hju : j = uc
      · omega
      · simp only [if_pos hiu, if_neg hju] at hij
        exact absurd hij.symm (hnotin j (by omega))
      · simp only [if_neg hiu, if_pos hju] at hij
        exact absurd hij (hnotin i (by omega))
      · simp only [if_neg hiu, if_neg hju] at hij
        exact h5 i j (by omega) (by omega) hij
    · rw [if_neg hw] at hi hj hij
      exact h5 i j hi hj hij
  · split <;> omega
  · intro i a b hi ha hb hok' e
    rw [hU i (by omega)] at e
    show (D a b || (decide (a = s) && decide (b = t))) = true
    rw [h7 i a b hi ha hb hok' e]
    rfl
/-- one of the list is done -/
theorem pw_J_next {K : Nat} {sp wy U : Nat → Nat} {uc kp : Nat} {D : Nat → Nat → Bool} (h : pw_J K sp wy U uc kp D) (hkp : kp < uc) (hd : ∀ s t, s < pw_w sp K → t < K → pw_ok K sp s t → pw_nx K sp s t = U kp → D s t = true) : pw_J K sp wy U uc (kp + 1) D := by
  obtain ⟨h1, h2, h3, h4, h5, h6, h7⟩ := h
  refine ⟨h1, h2, h3, h4, h5, hkp, fun i s t hi hs ht hok e => ?_⟩
  by_cases hik : i = kp
  · subst hik; exact hd s t hs ht hok e
  · exact h7 i s t (by omega) hs ht hok e
/-- from where a state comes when t is served: t has its full span, and no other one has -/
def pw_cf (K : Nat) (sp : Nat → Nat) (s t : Nat) : Prop := ∀ k, k < K → (pw_dg sp s k = sp k - 1 ↔ k = t)
/-- the digits ahead of a service of t -/
def pw_pd (sp : Nat → Nat) (s t v : Nat) : Nat → Nat := fun k => if k = t then v else pw_dg sp s k + 1
def pw_pr (K : Nat) (sp : Nat → Nat) (s t v : Nat) : Nat := pw_en sp (pw_pd sp s t v) K
theorem pw_pd_lt {K : Nat} {sp : Nat → Nat} {s t v : Nat} (hsp : ∀ k, k < K → 0 < sp k) (hc : pw_cf K sp s t) (hv : v < sp t) : ∀ k, k < K → pw_pd sp s t v k < sp k := by
  intro k hk
  unfold pw_pd
  by_cases hkt : k = t
  · subst hkt; rw [if_pos rfl]; exact hv
  · rw [if_neg hkt]
    have h1 := pw_dg_lt (sp := sp) (s := s) (hsp k hk)
    have h2 : pw_dg sp s k ≠ sp k - 1 := fun e => hkt ((hc k hk).mp e)
    omega
theorem pw_pr_lt {K : Nat} {sp : Nat → Nat} {s t v : Nat} (hsp : ∀ k, k < K → 0 < sp k) (hc : pw_cf K sp s t) (hv : v < sp t) : pw_pr K sp s t v < pw_w sp K := pw_en_lt (pw_pd_lt hsp hc hv)
theorem pw_dg_pr {K : Nat} {sp : Nat → Nat} {s t v : Nat} (hsp : ∀ k, k < K → 0 < sp k) (hc : pw_cf K sp s t) (hv : v < sp t) : ∀ k, k < K → pw_dg sp (pw_pr K sp s t v) k = pw_pd sp s t v k := pw_dg_en (pw_pd_lt hsp hc hv)
theorem pw_pr_ok {K : Nat} {sp : Nat → Nat} {s t v : Nat} (hsp : ∀ k, k < K → 0 < sp k) (hc : pw_cf K sp s t) (hv : v < sp t) : pw_ok K sp (pw_pr K sp s t v) t := by
  intro k hk hkt
  rw [pw_dg_pr hsp hc hv k hk]
  simp only [pw_pd, if_neg hkt]
  omega
theorem pw_pr_nx {K : Nat} {sp : Nat → Nat} {s t v : Nat} (hsp : ∀ k, k < K → 0 < sp k) (hc : pw_cf K sp s t) (hv : v < sp t) (ht : t < K) (hs : s < pw_w sp K) : pw_nx K sp (pw_pr K sp s t v) t = s := by
  refine pw_ext (pw_nx_lt hsp _ _) hs fun k hk => ?_
  rw [pw_dg_nx hsp _ _ k hk]
  by_cases hkt : k = t
  · subst hkt
    simp only [pw_nd, if_true]
    exact ((hc k hk).mpr rfl).symm
  · simp only [pw_nd, if_neg hkt]
    rw [pw_dg_pr hsp hc hv k hk]
    simp only [pw_pd, if_neg hkt]
    omega
/-- every way into s is one of these -/
theorem pw_way_in {K : Nat} {sp : Nat → Nat} {s t b : Nat} (hsp : ∀ k, k < K → 0 < sp k) (ht : t < K) (hb : b < pw_w sp K) (hok : pw_ok K sp b t) (hn : pw_nx K sp b t = s) : pw_cf K sp s t ∧ b = pw_pr K sp s t (pw_dg sp b t) := by
  have hd : ∀ k, k < K → pw_dg sp s k = pw_nd sp b t k := fun k hk => by rw [← hn]; exact pw_dg_nx hsp b t k hk
  have hc : pw_cf K sp s t := by
    intro k hk
    rw [hd k hk]
    by_cases hkt : k = t
    · subst hkt; simp [pw_nd]
    · simp only [pw_nd, if_neg hkt]
      have h1 := hok k hk hkt
      have h2 := pw_dg_lt (sp := sp) (s := b) (hsp k hk)
      constructor
      · intro e; omega
      · intro e; exact absurd e hkt
  have hv := pw_dg_lt (sp := sp) (s := b) (hsp t ht)
  refine ⟨hc, pw_ext hb (pw_pr_lt hsp hc hv) fun k hk => ?_⟩
  rw [pw_dg_pr hsp hc hv k hk]
  by_cases hkt : k = t
  · subst hkt; simp [pw_pd]
  · simp only [pw_pd, if_neg hkt]
    rw [hd k hk]
    simp only [pw_nd, if_neg hkt]
    have h1 := hok k hk hkt
    omega
/-- another way to count it -/
theorem pw_pr_sum {K : Nat} {sp : Nat → Nat} {s t v : Nat} (hsp : ∀ k, k < K → 0 < sp k) (ht : t < K) (hs : s < pw_w sp K) (hc : pw_cf K sp s t) : pw_pr K sp s t v + pw_w sp t * sp t = s + pw_sw sp K + v * pw_w sp t := by
  have key : ∀ n, n ≤ K → pw_en sp (pw_pd sp s t v) n + (if t < n then pw_w sp t * sp t else 0) = pw_en sp (pw_dg sp s) n + pw_sw sp n + (if t < n then v * pw_w sp t else 0) := by
    intro n
    induction n with
    | zero => intro _; simp [pw_en, pw_sw]
    | succ n ih =>
      intro hn
      have h1 := ih (by omega)
      show pw_en sp (pw_pd sp s t v) n + pw_pd sp s t v n * pw_w sp n + _ = pw_en sp (pw_dg sp s) n + pw_dg sp s n * pw_w sp n + (pw_sw sp n + pw_w sp n) + _
      by_cases hnt : n = t
      · subst hnt
        rw [if_neg (Nat.lt_irrefl n), if_neg (Nat.lt_irrefl n)] at h1
        rw [if_pos (Nat.lt_succ_self n), if_pos (Nat.lt_succ_self n)]
        have h3 : pw_pd sp s n v n = v := by simp [pw_pd]
        have h2 := hsp n ht
        have h4 : pw_dg sp s n * pw_w sp n + pw_w sp n = pw_w sp n * sp n := by
          rw [(hc n ht).mpr rfl, ← Nat.succ_mul, Nat.mul_comm]; congr 1; omega
        rw [h3]
        omega
      · have h3 : pw_pd sp s t v n = pw_dg sp s n + 1 := by simp [pw_pd, hnt]
        have h4 : (pw_dg sp s n + 1) * pw_w sp n = pw_dg sp s n * pw_w sp n + pw_w sp n := Nat.succ_mul _ _
        have h5 : (t < n + 1) = (t < n) := by apply propext; omega
        rw [h3, h4]
        simp only [h5]
        omega
  have h := key K (Nat.le_refl K)
  rw [if_pos ht, if_pos ht, pw_en_dg' hs] at h
  exact h
/-- the plain search: what is still marked -/
def pw_M (K : Nat) (sp : Nat → Nat) (sf : Nat → Bool) : Prop := ∀ s, s < pw_w sp K → pw_safe K sp s → sf s = true
/-- a first client with which a marked state comes -/
def pw_gd (K : Nat) (sp : Nat → Nat) (sf : Nat → Bool) (s : Nat) : Prop := ∃ t, t < K ∧ pw_ok K sp s t ∧ sf (pw_nx K sp s t) = true
theorem pw_M_off {K : Nat} {sp : Nat → Nat} {sf : Nat → Bool} (h : pw_M K sp sf) (hsp : ∀ k, k < K → 0 < sp k) {s : Nat} (hg : ¬ pw_gd K sp sf s) : pw_M K sp (fun j => if j = s then false else sf j) := by
  intro j hj hsafe
  by_cases hjs : j = s
  · subst hjs
    obtain ⟨-, t, ht, hok, hn⟩ := pw_safe_step hsafe
    exact absurd ⟨t, ht, hok, h _ (pw_nx_lt hsp _ _) hn⟩ hg
  · simp only [if_neg hjs]; exact h j hj hsafe
theorem pw_M_end {K : Nat} {sp : Nat → Nat} {sf : Nat → Bool} (h : pw_M K sp sf) (hsp : ∀ k, k < K → 0 < sp k) (he : ∀ s, s < pw_w sp K → sf s = true → pw_gd K sp sf s) : ∀ s, s < pw_w sp K → (sf s = true ↔ pw_safe K sp s) := by
  intro s hs
  refine ⟨fun h0 => ⟨fun s => s < pw_w sp K ∧ sf s = true, ⟨hs, h0⟩, fun s ⟨hs, h0⟩ => ?_⟩, h s hs⟩
  obtain ⟨t, ht, hok, hn⟩ := he s hs h0
  exact ⟨hs, t, ht, hok, pw_nx_lt hsp _ _, hn⟩
end
section
/-! The walk of builder 3, from the state of the full spans on. -/
/-- the first client with which a safe state comes -/
def pw_F (K : Nat) (sp : Nat → Nat) (s t : Nat) : Prop := t < K ∧ (pw_ok K sp s t ∧ pw_safe K sp (pw_nx K sp s t)) ∧ ∀ t', t' < t → ¬ (pw_ok K sp s t' ∧ pw_safe K sp (pw_nx K sp s t'))
theorem pw_F_ex {K : Nat} {sp : Nat → Nat} {s : Nat} (h : pw_safe K sp s) : ∃ t, pw_F K sp s t := by
  obtain ⟨-, t, ht, hok, hn⟩ := pw_safe_step h
  obtain ⟨k, hk, hl⟩ := pk_least (fun t => t < K ∧ pw_ok K sp s t ∧ pw_safe K sp (pw_nx K sp s t)) ⟨t, ht, hok, hn⟩
  exact ⟨k, hk.1, hk.2, fun t' ht' h' => hl t' ht' ⟨Nat.lt_trans ht' hk.1, h'⟩⟩
theorem pw_F_eq {K : Nat} {sp : Nat → Nat} {s t t' : Nat} (h : pw_F K sp s t) (h' : pw_F K sp s t') : t = t' := by
  rcases Nat.lt_trichotomy t t' with h1 | h1 | h1
  · exact absurd h.2.1 (h'.2.2 t h1)
  · exact h1
  · exact absurd h'.2.1 (h.2.2 t' h1)
def pw_P (K : Nat) (sp st tn : Nat → Nat) (T : Nat) : Prop := st 0 = pw_w sp K - 1 ∧ pw_safe K sp (st T) ∧ ∀ i, i < T → pw_F K sp (st i) (tn i) ∧ st (i + 1) = pw_nx K sp (st i) (tn i)
theorem pw_P_0 {K : Nat} {sp : Nat → Nat} (h : pw_safe K sp (pw_w sp K - 1)) : pw_P K sp (fun _ => pw_w sp K - 1) (fun _ => 0) 0 := ⟨rfl, h, fun i hi => absurd hi (Nat.not_lt_zero i)⟩
theorem pw_P_add {K : Nat} {sp st tn : Nat → Nat} {T t : Nat} (h : pw_P K sp st tn T) (ht : pw_F K sp (st T) t) : pw_P K sp (fun i => if i = T + 1 then pw_nx K sp (st T) t else st i) (fun i => if i = T then t else tn i) (T + 1) := by
  refine ⟨?_, ?_, fun i hi => ?_⟩
  · show (if 0 = T + 1 then _ else st 0) = _
    rw [if_neg (by omega)]; exact h.1
  · simp only [if_true]; exact ht.2.1.2
  · by_cases hiT : i = T
    · subst hiT
      simp only [if_true, if_neg (show ¬ i = i + 1 by omega)]
      exact ⟨ht, trivial⟩
    · have h1 := h.2.2 i (by omega)
      simp only [if_neg hiT, if_neg (show ¬ i = T + 1 by omega), if_neg (show ¬ i + 1 = T + 1 by omega)]
      exact h1
theorem pw_P_safe {K : Nat} {sp st tn : Nat → Nat} {T : Nat} (h : pw_P K sp st tn T) : ∀ i, i ≤ T → pw_safe K sp (st i) := by
  intro i hi
  by_cases hiT : i = T
  · subst hiT; exact h.2.1
  · obtain ⟨h1, -⟩ := h.2.2 i (by omega)
    have h2 := h1.2.1
    cases i with
    | zero =>
      rw [h.1]
      by_cases hT : T = 0
      · omega
      · exact ⟨fun s => s = pw_w sp K - 1 ∨ pw_safe K sp s, Or.inl rfl, fun s hs => by
          rcases hs with rfl | hs
          · rw [h.1] at h1
            have h3 : pw_w sp K - 1 < pw_w sp K := by
              have h4 := (pw_safe_step h1.2.1.2).1
              omega
            exact ⟨h3, tn 0, h1.1, h1.2.1.1, Or.inr h1.2.1.2⟩
          · obtain ⟨a, t, b, c, d⟩ := pw_safe_step hs
            exact ⟨a, t, b, c, Or.inr d⟩⟩
    | succ j =>
      have h3 := h.2.2 j (by omega)
      rw [h3.2]
      exact h3.1.2.1.2
theorem pw_P_eq {K : Nat} {sp st tn st' tn' : Nat → Nat} {T T' : Nat} (h : pw_P K sp st tn T) (h' : pw_P K sp st' tn' T') : ∀ i, i ≤ T → i ≤ T' → st i = st' i ∧ (i < T → i < T' → tn i = tn' i) := by
  intro i
  induction i with
  | zero =>
    intro _ _
    have e : st 0 = st' 0 := h.1.trans h'.1.symm
    refine ⟨e, fun a b => ?_⟩
    have h1 := (h.2.2 0 a).1
    rw [e] at h1
    exact pw_F_eq h1 (h'.2.2 0 b).1
  | succ i ih =>
    intro a b
    obtain ⟨e1, e2⟩ := ih (by omega) (by omega)
    have e3 := e2 (by omega) (by omega)
    have e : st (i + 1) = st' (i + 1) := by rw [(h.2.2 i (by omega)).2, (h'.2.2 i (by omega)).2, e1, e3]
    refine ⟨e, fun a b => ?_⟩
    have h1 := (h.2.2 (i + 1) a).1
    rw [e] at h1
    exact pw_F_eq h1 (h'.2.2 (i + 1) b).1
/-- the cycle of builder 3: K clients in their order, with these ids and spans -/
def pw_B3 (K : Nat) (sp id : Nat → Nat) (L : Nat) (cy : Nat → Nat) : Prop :=
  ∃ (st tn : Nat → Nat) (T fr : Nat), pw_P K sp st tn T ∧ fr < T ∧ st T = st fr ∧ (∀ i j, i < j → j < T → st i ≠ st j) ∧ L = T - fr ∧ ∀ j, j < L → cy j = id (tn (fr + j))
theorem pw_B3_eq {K : Nat} {sp id : Nat → Nat} {L L' : Nat} {cy cy' : Nat → Nat} (h : pw_B3 K sp id L cy) (h' : pw_B3 K sp id L' cy') : L = L' ∧ ∀ j, j < L → cy j = cy' j := by
  obtain ⟨st, tn, T, fr, hp, hf, he, hd, hL, hc⟩ := h
  obtain ⟨st', tn', T', fr', hp', hf', he', hd', hL', hc'⟩ := h'
  have hT : T = T' := by
    rcases Nat.lt_trichotomy T T' with h1 | h1 | h1
    · have e1 := (pw_P_eq hp hp' T (Nat.le_refl T) (by omega)).1
      have e2 := (pw_P_eq hp hp' fr (by omega) (by omega)).1
      exact absurd (e2.symm.trans (he.symm.trans e1)) (hd' fr T hf h1)
    · exact h1
    · have e1 := (pw_P_eq hp hp' T' (by omega) (Nat.le_refl T')).1
      have e2 := (pw_P_eq hp hp' fr' (by omega) (by omega)).1
      exact absurd (e2.trans (he'.symm.trans e1.symm)) (hd fr' T' hf' h1)
  subst hT
  have hfr : fr = fr' := by
    have e0 := (pw_P_eq hp hp' T (Nat.le_refl T) (Nat.le_refl T)).1
    have e1 := (pw_P_eq hp hp' fr' (by omega) (by omega)).1
    have e2 : st fr = st fr' := by rw [← he, e0, he', e1]
    rcases Nat.lt_trichotomy fr fr' with h1 | h1 | h1
    · exact absurd e2 (hd fr fr' h1 hf')
    · exact h1
    · exact absurd e2.symm (hd fr' fr h1 hf)
  subst hfr
  refine ⟨by omega, fun j hj => ?_⟩
  rw [hc j hj, hc' j (by omega), (pw_P_eq hp hp' (fr + j) (by omega) (by omega)).2 (by omega) (by omega)]
/-- each client has a place -/
theorem pw_B3_has {K : Nat} {sp id : Nat → Nat} {L : Nat} {cy : Nat → Nat} (hsp : ∀ k, k < K → 0 < sp k) (h : pw_B3 K sp id L cy) : 0 < L ∧ ∀ k, k < K → ∃ j, j < L ∧ cy j = id k := by
  obtain ⟨st, tn, T, fr, hp, hf, he, hd, hL, hc⟩ := h
  refine ⟨by omega, fun k hk => ?_⟩
  by_cases hx : ∃ j, j < L ∧ tn (fr + j) = k
  · obtain ⟨j, hj, e⟩ := hx
    exact ⟨j, hj, by rw [hc j hj, e]⟩
  · have key : ∀ j, j ≤ L → pw_dg sp (st (fr + j)) k + j = pw_dg sp (st fr) k := by
      intro j
      induction j with
      | zero => intro _; rfl
      | succ j ih =>
        intro hj
        have h1 := ih (by omega)
        obtain ⟨h2, h3⟩ := hp.2.2 (fr + j) (by omega)
        have hne : k ≠ tn (fr + j) := fun e => hx ⟨j, by omega, e.symm⟩
        have h4 := h2.2.1.1 k hk hne
        have h5 : pw_dg sp (st (fr + (j + 1))) k = pw_dg sp (st (fr + j)) k - 1 := by
          rw [← Nat.add_assoc, h3, pw_dg_nx hsp _ _ k hk]
          simp only [pw_nd, if_neg hne]
        omega
    have h1 := key L (Nat.le_refl L)
    rw [show fr + L = T by omega, he] at h1
    omega
/-- the length is at most the number of states -/
theorem pw_P_few {K : Nat} {sp st tn : Nat → Nat} {T : Nat} (h : pw_P K sp st tn T) (hd : ∀ i j, i < j → j < T → st i ≠ st j) : T ≤ pw_w sp K := by
  refine pw_few (U := st) _ _ (fun i hi => (pw_safe_step (pw_P_safe h i (by omega))).1) fun i j hi hj e => ?_
  rcases Nat.lt_trichotomy i j with h1 | h1 | h1
  · exact absurd e (hd i j h1 hj)
  · exact h1
  · exact absurd e.symm (hd j i h1 hi)
end
section
/-! Clients in the order of their rounded spans; sums and products over them. -/
/-- k comes behind all that are not above it -/
def pw_ins (r : Nat → Nat) (k : Nat) : List Nat → List Nat
  | [] => [k]
  | x :: t => if r x ≤ r k then x :: pw_ins r k t else k :: x :: t
/-- the first n in the order of r -/
def pw_srt (r : Nat → Nat) : Nat → List Nat
  | 0 => []
  | k + 1 => pw_ins r k (pw_srt r k)
theorem pw_ins_len {r : Nat → Nat} {k : Nat} : ∀ l, (pw_ins r k l).length = l.length + 1 := by
  intro l
  induction l with
  | nil => rfl
  | cons x t ih =>
    unfold pw_ins
    split
    · simp [ih]
    · rfl
theorem pw_srt_len {r : Nat → Nat} : ∀ n, (pw_srt r n).length = n := by
  intro n
  induction n with
  | zero => rfl
  | succ n ih => show (pw_ins r n (pw_srt r n)).length = n + 1; rw [pw_ins_len, ih]
theorem pw_ins_mem {r : Nat → Nat} {k a : Nat} : ∀ l, a ∈ pw_ins r k l ↔ a = k ∨ a ∈ l := by
  intro l
  induction l with
  | nil => simp [pw_ins]
  | cons x t ih =>
    unfold pw_ins
    split
    · simp only [List.mem_cons, ih]
      constructor
      · rintro (h | h | h)
        · exact Or.inr (Or.inl h)
        · exact Or.inl h
        · exact Or.inr (Or.inr h)
      · rintro (h | h | h)
        · exact Or.inr (Or.inl h)
        · exact Or.inl h
        · exact Or.inr (Or.inr h)
    · simp only [List.mem_cons]
theorem pw_srt_mem {r : Nat → Nat} {a : Nat} : ∀ n, a ∈ pw_srt r n ↔ a < n := by
  intro n
  induction n with
  | zero => simp [pw_srt]
  | succ n ih =>
    show a ∈ pw_ins r n (pw_srt r n) ↔ _
    rw [pw_ins_mem, ih]
    omega
/-- before: in the order of r, of these the least number first -/
def pw_lt (r : Nat → Nat) (a b : Nat) : Prop := r a < r b ∨ (r a = r b ∧ a < b)
theorem pw_lt_irr {r : Nat → Nat} {a : Nat} : ¬ pw_lt r a a := by
  unfold pw_lt; omega
theorem pw_lt_trans {r : Nat → Nat} {a b c : Nat} (h : pw_lt r a b) (h' : pw_lt r b c) : pw_lt r a c := by
  unfold pw_lt at *; omega
theorem pw_lt_tot {r : Nat → Nat} {a b : Nat} (h : a ≠ b) : pw_lt r a b ∨ pw_lt r b a := by
  unfold pw_lt; omega
theorem pw_ins_srt {r : Nat → Nat} {k : Nat} : ∀ l : List Nat, (∀ a ∈ l, a < k) → l.Pairwise (pw_lt r) → (pw_ins r k l).Pairwise (pw_lt r) := by
  intro l
  induction l with
  | nil => intro _ _; simp [pw_ins]
  | cons x t ih =>
    intro hk hp
    rw [List.pairwise_cons] at hp
    have hx := hk x List.mem_cons_self
    unfold pw_ins
    split
    · rename_i hle
      rw [List.pairwise_cons]
      refine ⟨fun a ha => ?_, ih (fun a ha => hk a (List.mem_cons_of_mem _ ha)) hp.2⟩
      rcases (pw_ins_mem t).mp ha with rfl | ha
      · unfold pw_lt; omega
      · exact hp.1 a ha
    · rename_i hle
      rw [List.pairwise_cons]
      refine ⟨fun a ha => ?_, List.pairwise_cons.mpr hp⟩
      have h1 : pw_lt r k x := by unfold pw_lt; omega
      rcases List.mem_cons.mp ha with rfl | ha
      · exact h1
      · exact pw_lt_trans h1 (hp.1 a ha)
theorem pw_srt_srt {r : Nat → Nat} : ∀ n, (pw_srt r n).Pairwise (pw_lt r) := by
  intro n
  induction n with
  | zero => exact List.Pairwise.nil
  | succ n ih => exact pw_ins_srt _ (fun a ha => (pw_srt_mem n).mp ha) ih
/-- such an order is one alone -/
theorem pw_one {r : Nat → Nat} : ∀ l l' : List Nat, l.Pairwise (pw_lt r) → l'.Pairwise (pw_lt r) → (∀ a, a ∈ l ↔ a ∈ l') → l = l' := by
  intro l
  induction l with
  | nil =>
    intro l' _ _ h
    cases l' with
    | nil => rfl
    | cons y t => exact absurd ((h y).mpr List.mem_cons_self) (by simp)
  | cons x t ih =>
    intro l' hp hp' h
    cases l' with
    | nil => exact absurd ((h x).mp List.mem_cons_self) (by simp)
    | cons y t' =>
      rw [List.pairwise_cons] at hp hp'
      have hxy : x = y := by
        by_cases e : x = y
        · exact e
        · have h1 : x ∈ t' := (List.mem_cons.mp ((h x).mp List.mem_cons_self)).resolve_left e
          have h2 : y ∈ t := (List.mem_cons.mp ((h y).mpr List.mem_cons_self)).resolve_left fun z => e z.symm
          exact absurd (pw_lt_trans (hp.1 y h2) (hp'.1 x h1)) pw_lt_irr
      subst hxy
      rw [ih t' hp.2 hp'.2 fun a => ?_]
      constructor
      · intro ha
        rcases List.mem_cons.mp ((h a).mp (List.mem_cons_of_mem _ ha)) with rfl | h1
        · exact absurd (hp.1 a ha) pw_lt_irr
        · exact h1
      · intro ha
        rcases List.mem_cons.mp ((h a).mpr (List.mem_cons_of_mem _ ha)) with rfl | h1
        · exact absurd (hp'.1 a ha) pw_lt_irr
        · exact h1
/-- where k comes, found from the end -/
theorem pw_ins_at {r : Nat → Nat} {k : Nat} : ∀ (l : List Nat) (i : Nat), i ≤ l.length → (∀ j, j < i → r (l.getD j 0) ≤ r k) → (∀ j, i ≤ j → j < l.length → r k < r (l.getD j 0)) → pw_ins r k l = l.take i ++ k :: l.drop i := by
  intro l
  induction l with
  | nil =>
    intro i hi _ _
    have : i = 0 := by simpa using hi
    subst this
    rfl
  | cons x t ih =>
    intro i hi h1 h2
    cases i with
    | zero =>
      have := h2 0 (Nat.le_refl 0) (by simp)
      simp only [List.getD_cons_zero] at this
      unfold pw_ins
      rw [if_neg (by omega)]
      rfl
    | succ i =>
      have h3 := h1 0 (by omega)
      simp only [List.getD_cons_zero] at h3
      unfold pw_ins
      rw [if_pos h3, ih i (by simpa using hi) (fun j hj => by simpa using h1 (j + 1) (by omega)) (fun j hj hj' => by simpa using h2 (j + 1) (by omega) (by simpa using hj'))]
      rfl
theorem pw_ins_get {r : Nat → Nat} {k : Nat} {l : List Nat} {i : Nat} (hi : i ≤ l.length) (h : pw_ins r k l = l.take i ++ k :: l.drop i) : ∀ j, j ≤ l.length → (pw_ins r k l).getD j 0 = if j < i then l.getD j 0 else if j = i then k else l.getD (j - 1) 0 := by
  intro j hj
  rw [h]
  have hlen : (l.take i).length = i := by rw [List.length_take]; omega
  by_cases h1 : j < i
  · rw [if_pos h1]
    simp only [List.getD_eq_getElem?_getD]
    rw [List.getElem?_append_left (by omega), List.getElem?_take_of_lt h1]
  · rw [if_neg h1]
    by_cases h2 : j = i
    · subst h2
      rw [if_pos rfl]
      simp only [List.getD_eq_getElem?_getD]
      rw [List.getElem?_append_right (by omega), hlen, Nat.sub_self]
      rfl
    · rw [if_neg h2]
      simp only [List.getD_eq_getElem?_getD]
      rw [List.getElem?_append_right (by omega), hlen]
      obtain ⟨d, hd⟩ : ∃ d, j = i + 1 + d := ⟨j - i - 1, by omega⟩
      subst hd
      rw [show i + 1 + d - i = d + 1 by omega, List.getElem?_cons_succ, List.getElem?_drop, show i + 1 + d - 1 = i + d by omega]
theorem pw_getD (l : List Nat) (d : Nat) {i : Nat} (h : i < l.length) : l.getD i d = l[i] := by
  simp [List.getD_eq_getElem?_getD, h]
/-- in the order: not falling -/
theorem pw_srt_le {r : Nat → Nat} {n : Nat} : ∀ i j, i < j → j < n → pw_lt r ((pw_srt r n).getD i 0) ((pw_srt r n).getD j 0) := by
  intro i j hij hj
  have hp := pw_srt_srt (r := r) n
  have hl := pw_srt_len (r := r) n
  rw [List.pairwise_iff_getElem] at hp
  have h := hp i j (by omega) (by omega) hij
  rw [pw_getD _ _ (by omega), pw_getD _ _ (by omega)]
  exact h
theorem pw_srt_get {r : Nat → Nat} {n i : Nat} (hi : i < n) : (pw_srt r n).getD i 0 < n := by
  have hl := pw_srt_len (r := r) n
  rw [pw_getD _ _ (by omega)]
  exact (pw_srt_mem n).mp (List.getElem_mem _)
theorem pw_srt_all {r : Nat → Nat} {n a : Nat} (ha : a < n) : ∃ i, i < n ∧ (pw_srt r n).getD i 0 = a := by
  obtain ⟨i, hi, e⟩ := List.getElem_of_mem ((pw_srt_mem (r := r) n).mpr ha)
  rw [pw_srt_len] at hi
  exact ⟨i, hi, by rw [pw_getD _ _ (by rw [pw_srt_len]; exact hi)]; exact e⟩
theorem pw_srt_inj {r : Nat → Nat} {n i j : Nat} (hi : i < n) (hj : j < n) (e : (pw_srt r n).getD i 0 = (pw_srt r n).getD j 0) : i = j := by
  rcases Nat.lt_trichotomy i j with h | h | h
  · have := pw_srt_le (r := r) i j h hj; rw [e] at this; exact absurd this pw_lt_irr
  · exact h
  · have := pw_srt_le (r := r) j i h hi; rw [e] at this; exact absurd this pw_lt_irr
/-- sums -/
def pw_sm (f : Nat → Nat) : Nat → Nat
  | 0 => 0
  | k + 1 => pw_sm f k + f k
theorem pw_sm_congr {f g : Nat → Nat} {n : Nat} (h : ∀ k, k < n → f k = g k) : pw_sm f n = pw_sm g n := by
  induction n with
  | zero => rfl
  | succ n ih =>
    show pw_sm f n + f n = pw_sm g n + g n
    rw [ih fun k hk => h k (Nat.lt_succ_of_lt hk), h n (Nat.lt_succ_self n)]
theorem pw_sm_list (f : Nat → Nat) : ∀ l : List Nat, pw_sm (fun i => f (l.getD i 0)) l.length = (l.map f).sum := by
  intro l
  have key : ∀ (l : List Nat) n, n ≤ l.length → pw_sm (fun i => f (l.getD i 0)) n = ((l.take n).map f).sum := by
    intro l n
    induction n with
    | zero => intro _; simp [pw_sm]
    | succ n ih =>
      intro hn
      show pw_sm _ n + f (l.getD n 0) = _
      rw [ih (by omega), List.take_succ_eq_append_getElem (by omega), pw_getD _ _ (by omega), List.map_append, List.sum_append]
      rfl
  have h := key l l.length (Nat.le_refl _)
  rw [List.take_length] at h
  exact h
theorem pw_ins_sum {r f : Nat → Nat} {k : Nat} : ∀ l, ((pw_ins r k l).map f).sum = (l.map f).sum + f k := by
  intro l
  induction l with
  | nil => simp [pw_ins]
  | cons x t ih =>
    unfold pw_ins
    split
    · simp only [List.map_cons, List.sum_cons, ih]; omega
    · simp only [List.map_cons, List.sum_cons]; omega
theorem pw_srt_sum {r f : Nat → Nat} : ∀ n, ((pw_srt r n).map f).sum = pw_sm f n := by
  intro n
  induction n with
  | zero => rfl
  | succ n ih => show ((pw_ins r n (pw_srt r n)).map f).sum = _; rw [pw_ins_sum, ih]; rfl
/-- the sum in the order is the sum -/
theorem pw_srt_sm {r f : Nat → Nat} (n : Nat) : pw_sm (fun i => f ((pw_srt r n).getD i 0)) n = pw_sm f n := by
  have h := pw_sm_list f (pw_srt r n)
  rw [pw_srt_len, pw_srt_sum] at h
  exact h
/-- products -/
theorem pw_w_congr {f g : Nat → Nat} {n : Nat} (h : ∀ k, k < n → f k = g k) : pw_w f n = pw_w g n := by
  induction n with
  | zero => rfl
  | succ n ih =>
    show pw_w f n * f n = pw_w g n * g n
    rw [ih fun k hk => h k (Nat.lt_succ_of_lt hk), h n (Nat.lt_succ_self n)]
def pw_pl (f : Nat → Nat) : List Nat → Nat
  | [] => 1
  | x :: t => f x * pw_pl f t
theorem pw_pl_app {f : Nat → Nat} : ∀ l l', pw_pl f (l ++ l') = pw_pl f l * pw_pl f l' := by
  intro l l'
  induction l with
  | nil => simp [pw_pl]
  | cons x t ih => show f x * pw_pl f (t ++ l') = f x * pw_pl f t * pw_pl f l'; rw [ih, Nat.mul_assoc]
theorem pw_ins_pl {r f : Nat → Nat} {k : Nat} : ∀ l, pw_pl f (pw_ins r k l) = pw_pl f l * f k := by
  intro l
  induction l with
  | nil => show f k * 1 = 1 * f k; omega
  | cons x t ih =>
    unfold pw_ins
    split
    · show f x * pw_pl f (pw_ins r k t) = f x * pw_pl f t * f k; rw [ih, Nat.mul_assoc]
    · show f k * (f x * pw_pl f t) = f x * pw_pl f t * f k; rw [Nat.mul_comm]
theorem pw_w_list (f : Nat → Nat) (l : List Nat) : pw_w (fun i => f (l.getD i 0)) l.length = pw_pl f l := by
  have key : ∀ n, n ≤ l.length → pw_w (fun i => f (l.getD i 0)) n = pw_pl f (l.take n) := by
    intro n
    induction n with
    | zero => intro _; simp [pw_w, pw_pl]
    | succ n ih =>
      intro hn
      show pw_w _ n * f (l.getD n 0) = _
      rw [ih (by omega), List.take_succ_eq_append_getElem (by omega), pw_getD _ _ (by omega), pw_pl_app]
      show _ = pw_pl f (l.take n) * (f l[n] * 1)
      rw [Nat.mul_one]
  have h := key l.length (Nat.le_refl _)
  rw [List.take_length] at h
  exact h
theorem pw_srt_w {r f : Nat → Nat} (n : Nat) : pw_w (fun i => f ((pw_srt r n).getD i 0)) n = pw_w f n := by
  have h := pw_w_list f (pw_srt r n)
  rw [pw_srt_len] at h
  rw [h]
  clear h
  induction n with
  | zero => rfl
  | succ n ih => show pw_pl f (pw_ins r n (pw_srt r n)) = pw_w f n * f n; rw [pw_ins_pl, ih]
theorem pw_w_mono {f : Nat → Nat} {n m : Nat} (h : ∀ k, k < m → 0 < f k) (hnm : n ≤ m) : pw_w f n ≤ pw_w f m := by
  induction m with
  | zero => have : n = 0 := by omega
            subst this; exact Nat.le_refl _
  | succ m ih =>
    by_cases e : n = m + 1
    · subst e; exact Nat.le_refl _
    · have h1 := ih (fun k hk => h k (Nat.lt_succ_of_lt hk)) (by omega)
      have h2 : pw_w f m * 1 ≤ pw_w f m * f m := Nat.mul_le_mul_left _ (h m (Nat.lt_succ_self m))
      show pw_w f n ≤ pw_w f m * f m
      omega
end
section
/-! Rounding down to a base times a power of two; the cycle of builders 1 and 2. -/
def pw_rnd : Nat → Nat → Nat → Nat
  | 0, v, _ => v
  | f + 1, v, s => if 2 * v ≤ s then pw_rnd f (2 * v) s else v
theorem pw_rnd_pow : ∀ (f v s : Nat), ∃ j, j ≤ f ∧ pw_rnd f v s = v * 2 ^ j := by
  intro f
  induction f with
  | zero => intro v s; exact ⟨0, Nat.le_refl 0, by simp [pw_rnd]⟩
  | succ f ih =>
    intro v s
    unfold pw_rnd
    split
    · obtain ⟨j, hj, e⟩ := ih (2 * v) s
      exact ⟨j + 1, by omega, by rw [e, Nat.pow_succ]; simp only [Nat.mul_comm, Nat.mul_left_comm, Nat.mul_assoc]⟩
    · exact ⟨0, by omega, by simp⟩
theorem pw_rnd_le : ∀ (f v s : Nat), v ≤ s → pw_rnd f v s ≤ s := by
  intro f
  induction f with
  | zero => intro v s h; exact h
  | succ f ih =>
    intro v s h
    unfold pw_rnd
    split
    · exact ih _ _ (by omega)
    · exact h
theorem pw_rnd_ge : ∀ (f v s : Nat), v ≤ pw_rnd f v s := by
  intro f
  induction f with
  | zero => intro v s; exact Nat.le_refl v
  | succ f ih =>
    intro v s
    unfold pw_rnd
    split
    · have := ih (2 * v) s; omega
    · exact Nat.le_refl v
/-- two of one base: one is a multiple of the other -/
theorem pw_pow_dvd {b i j : Nat} (h : b * 2 ^ i ≤ b * 2 ^ j) (hb : 0 < b) : b * 2 ^ i ∣ b * 2 ^ j := by
  have hij : i ≤ j := by
    by_cases hx : i ≤ j
    · exact hx
    · have h1 : 2 ^ (j + 1) ≤ 2 ^ i := Nat.pow_le_pow_right (by decide) (by omega)
      have h2 : 2 ^ (j + 1) = 2 ^ j * 2 := Nat.pow_succ ..
      have h3 : 0 < 2 ^ j := Nat.pow_pos (by decide)
      have h4 : b * 2 ^ j < b * 2 ^ i := Nat.mul_lt_mul_of_pos_left (by omega) hb
      omega
  exact Nat.mul_dvd_mul_left b (Nat.pow_dvd_pow 2 hij)
/-- the rounded spans -/
def pw_r (b : Nat) (sp : Nat → Nat) (k : Nat) : Nat := pw_rnd 6 b (sp k)
theorem pw_r_dvd {b : Nat} {sp : Nat → Nat} {i j : Nat} (hb : 0 < b) (h : pw_r b sp i ≤ pw_r b sp j) : pw_r b sp i ∣ pw_r b sp j := by
  obtain ⟨x, -, ex⟩ := pw_rnd_pow 6 b (sp i)
  obtain ⟨y, -, ey⟩ := pw_rnd_pow 6 b (sp j)
  unfold pw_r at h ⊢
  rw [ex, ey] at h ⊢
  exact pw_pow_dvd h hb
theorem pw_r_pos {b : Nat} {sp : Nat → Nat} {i : Nat} (hb : 0 < b) : 0 < pw_r b sp i := Nat.lt_of_lt_of_le hb (pw_rnd_ge 6 b (sp i))
/-- the greatest, 1 for none -/
def pw_mx (r : Nat → Nat) : Nat → Nat
  | 0 => 1
  | k + 1 => max (pw_mx r k) (r k)
theorem pw_mx_ge {r : Nat → Nat} {n : Nat} : ∀ k, k < n → r k ≤ pw_mx r n := by
  induction n with
  | zero => intro k hk; exact absurd hk (Nat.not_lt_zero k)
  | succ n ih =>
    intro k hk
    show r k ≤ max (pw_mx r n) (r n)
    by_cases e : k = n
    · subst e; exact Nat.le_max_right _ _
    · exact Nat.le_trans (ih k (by omega)) (Nat.le_max_left _ _)
theorem pw_mx_pos {r : Nat → Nat} : ∀ n, 0 < pw_mx r n := by
  intro n
  induction n with
  | zero => exact Nat.one_pos
  | succ n ih => exact Nat.lt_of_lt_of_le ih (Nat.le_max_left _ _)
theorem pw_mx_is {r : Nat → Nat} {n : Nat} (hn : 0 < n) (hr : ∀ k, k < n → 0 < r k) : ∃ k, k < n ∧ pw_mx r n = r k := by
  induction n with
  | zero => exact absurd hn (Nat.lt_irrefl 0)
  | succ n ih =>
    by_cases h0 : n = 0
    · subst h0
      refine ⟨0, Nat.one_pos, ?_⟩
      show max 1 (r 0) = r 0
      have := hr 0 Nat.one_pos
      omega
    · obtain ⟨k, hk, e⟩ := ih (by omega) fun k hk => hr k (by omega)
      by_cases h1 : pw_mx r n ≤ r n
      · exact ⟨n, by omega, Nat.max_eq_right h1⟩
      · exact ⟨k, by omega, by show max (pw_mx r n) (r n) = r k; rw [Nat.max_eq_left (by omega), e]⟩
theorem pw_mx_le {r : Nat → Nat} {n b : Nat} (hb : 1 ≤ b) (h : ∀ k, k < n → r k ≤ b) : pw_mx r n ≤ b := by
  induction n with
  | zero => exact hb
  | succ n ih => exact Nat.max_le.mpr ⟨ih fun k hk => h k (by omega), h n (by omega)⟩
/-- how many places the clients want in all -/
def pw_nd2 (b : Nat) (sp : Nat → Nat) (n : Nat) : Nat := pw_sm (fun k => pw_mx (pw_r b sp) n / pw_r b sp k) n
def pw_fit (b : Nat) (sp : Nat → Nat) (n : Nat) : Prop := pw_nd2 b sp n ≤ pw_mx (pw_r b sp) n
/-- the first free place below L, or L -/
def pw_ff (c : Nat → Nat) : Nat → Nat → Nat
  | 0, p => p
  | f + 1, p => if c p = 0 then p else pw_ff c f (p + 1)
theorem pw_ff_spec (c : Nat → Nat) : ∀ f p, p ≤ pw_ff c f p ∧ pw_ff c f p ≤ p + f ∧ (∀ j, p ≤ j → j < pw_ff c f p → c j ≠ 0) ∧ (pw_ff c f p < p + f → c (pw_ff c f p) = 0) := by
  intro f
  induction f with
  | zero => intro p; exact ⟨Nat.le_refl p, Nat.le_refl p, fun j h1 h2 => absurd (Nat.lt_of_le_of_lt h1 h2) (Nat.lt_irrefl p), fun h => absurd h (Nat.lt_irrefl p)⟩
  | succ f ih =>
    intro p
    unfold pw_ff
    by_cases h : c p = 0
    · rw [if_pos h]
      exact ⟨Nat.le_refl p, by omega, fun j h1 h2 => absurd (Nat.lt_of_le_of_lt h1 h2) (Nat.lt_irrefl p), fun _ => h⟩
    · rw [if_neg h]
      obtain ⟨h1, h2, h3, h4⟩ := ih (p + 1)
      refine ⟨by omega, by omega, fun j hj hj' => ?_, fun hlt => h4 (by omega)⟩
      by_cases e : j = p
      · subst e; exact h
      · exact h3 j (by omega) hj'
/-- a client gets the first free place, and every one that lies a multiple of r behind -/
def pw_gv (L id r : Nat) (c : Nat → Nat) : Nat → Nat := fun j => if pw_ff c L 0 ≤ j ∧ j < L ∧ (j - pw_ff c L 0) % r = 0 then id else c j
/-- the cycle: one after another -/
def pw_cy (L : Nat) (id r : Nat → Nat) (l : List Nat) : Nat → Nat := l.foldl (fun c k => pw_gv L (id k) (r k) c) (fun _ => 0)
theorem pw_cy_add {L : Nat} {id r : Nat → Nat} {l : List Nat} {k : Nat} : pw_cy L id r (l ++ [k]) = pw_gv L (id k) (r k) (pw_cy L id r l) := by
  unfold pw_cy; rw [List.foldl_append]; rfl
/-- counting below L -/
theorem pw_ct_res {L r f : Nat} (hr : 0 < r) (hd : r ∣ L) (hf : f < r) : pw_ct (fun j => decide (j % r = f)) L = L / r := by
  obtain ⟨q, rfl⟩ := hd
  rw [Nat.mul_div_cancel_left q hr]
  have key : ∀ n, n ≤ r → ∀ q, pw_ct (fun j => decide (j % r = f)) (r * q + n) = pw_ct (fun j => decide (j % r = f)) (r * q) + (if f < n then 1 else 0) := by
    intro n
    induction n with
    | zero => intro _ q; simp
    | succ n ih =>
      intro hn q
      show pw_ct _ (r * q + n) + (if decide ((r * q + n) % r = f) = true then 1 else 0) = _
      rw [ih (by omega) q, Nat.mul_add_mod, Nat.mod_eq_of_lt (by omega : n < r)]
      by_cases e : n = f
      · subst e; simp
      · have h1 : (f < n + 1) = (f < n) := by apply propext; omega
        simp [e, h1]
  induction q with
  | zero => rfl
  | succ q ih =>
    rw [Nat.mul_succ, key r (Nat.le_refl r) q, ih, if_pos hf]
theorem pw_ct_or {p q : Nat → Bool} : ∀ n, pw_ct (fun j => p j || q j) n ≤ pw_ct p n + pw_ct q n := by
  intro n
  induction n with
  | zero => exact Nat.le_refl 0
  | succ n ih =>
    show pw_ct _ n + (if (p n || q n) = true then 1 else 0) ≤ pw_ct p n + (if p n = true then 1 else 0) + (pw_ct q n + (if q n = true then 1 else 0))
    cases p n <;> cases q n <;> simp <;> omega
/-- what stands behind some clients, one after another in the order -/
def pw_H (L : Nat) (id r : Nat → Nat) (l : List Nat) (c : Nat → Nat) : Prop :=
  (∀ k ∈ l, ∃ f, f < r k ∧ ∀ j, j < L → (c j = id k ↔ j % r k = f)) ∧ (∀ j, j < L → (c j = 0 ∨ ∃ k ∈ l, c j = id k)) ∧ (∀ j, L ≤ j → c j = 0)
theorem pw_H_few {L : Nat} {id r : Nat → Nat} (hd : ∀ k, r k ∣ L ∨ True) : ∀ (l : List Nat) (g : Nat → Nat), (∀ k ∈ l, 0 < r k ∧ r k ∣ L ∧ g k < r k) → pw_ct (fun j => l.any (fun k => decide (j % r k = g k))) L ≤ (l.map (fun k => L / r k)).sum := by
  intro l g
  induction l with
  | nil =>
    intro _
    have h3 : ∀ n, pw_ct (fun _ => false) n = 0 := by
      intro n
      induction n with
      | zero => rfl
      | succ n ih => show pw_ct _ n + (if false = true then 1 else 0) = 0; rw [ih]; rfl
    simp [h3]
  | cons x t ih =>
    intro h
    obtain ⟨h1, h2, h3⟩ := h x List.mem_cons_self
    have h4 := ih fun k hk => h k (List.mem_cons_of_mem _ hk)
    have h5 := pw_ct_or (p := fun j => decide (j % r x = g x)) (q := fun j => t.any (fun k => decide (j % r k = g k))) L
    rw [pw_ct_res h1 h2 h3] at h5
    simp only [List.any_cons, List.map_cons, List.sum_cons]
    omega
/-- there is a free place for the next one, below its rounded span -/
theorem pw_H_free {L : Nat} {id r : Nat → Nat} {l : List Nat} {c : Nat → Nat} {x : Nat} (h : pw_H L id r l c) (hid : ∀ k ∈ l, 0 < id k) (hL : 0 < L) (hr : ∀ k ∈ l, 0 < r k ∧ r k ∣ r x) (hx : 0 < r x ∧ r x ∣ L) (hs : (l.map (fun k => L / r k)).sum + L / r x ≤ L) :
    pw_ff c L 0 < r x ∧ pw_ff c L 0 < L ∧ ∀ j, j < L → (c j = 0 ↔ c (j % r x) = 0) := by
  obtain ⟨h1, h2, h3⟩ := h
  have hc : ∀ k, ∃ f, k ∈ l → f < r k ∧ ∀ j, j < L → (c j = id k ↔ j % r k = f) := fun k => by
    by_cases hk : k ∈ l
    · obtain ⟨f, hf⟩ := h1 k hk
      exact ⟨f, fun _ => hf⟩
    · exact ⟨0, fun h => absurd h hk⟩
  obtain ⟨g, hg⟩ : ∃ g : Nat → Nat, ∀ k, k ∈ l → g k < r k ∧ ∀ j, j < L → (c j = id k ↔ j % r k = g k) := ⟨fun k => Classical.choose (hc k), fun k => Classical.choose_spec (hc k)⟩
  have hocc : ∀ j, j < L → (c j = 0 ↔ ∀ k ∈ l, j % r k ≠ g k) := by
    intro j hj
    constructor
    · intro h0 k hk e
      have e2 := ((hg k hk).2 j hj).mpr e
      have := hid k hk
      omega
    · intro hall
      rcases h2 j hj with h0 | ⟨k, hk, e⟩
      · exact h0
      · exact absurd (((hg k hk).2 j hj).mp e) (hall k hk)
  have hper : ∀ j, j < L → (c j = 0 ↔ c (j % r x) = 0) := by
    intro j hj
    have hj2 : j % r x < L := Nat.lt_of_le_of_lt (Nat.mod_le _ _) hj
    rw [hocc j hj, hocc _ hj2]
    constructor
    · intro hall k hk
      rw [Nat.mod_mod_of_dvd j (hr k hk).2]
      exact hall k hk
    · intro hall k hk
      have := hall k hk
      rw [Nat.mod_mod_of_dvd j (hr k hk).2] at this
      exact this
  have hfew := pw_H_few (L := L) (id := id) (r := r) (fun _ => Or.inr trivial) l g fun k hk => ⟨(hr k hk).1, Nat.dvd_trans (hr k hk).2 hx.2, (hg k hk).1⟩
  have hq : 0 < L / r x := Nat.div_pos (Nat.le_of_dvd hL hx.2) hx.1
  have hex : ∃ j, j < L ∧ c j = 0 := by
    by_cases hno : ∃ j, j < L ∧ c j = 0
    · exact hno
    · exfalso
      have hall : pw_ct (fun j => l.any (fun k => decide (j % r k = g k))) L = pw_ct (fun _ => true) L := pw_ct_congr fun j hj => by
        cases hb : l.any (fun k => decide (j % r k = g k)) with
        | true => rfl
        | false =>
          refine absurd ⟨j, hj, (hocc j hj).mpr fun k hk e => ?_⟩ hno
          rw [List.any_eq_false] at hb
          exact hb k hk (decide_eq_true e)
      have h2 : ∀ n, pw_ct (fun _ => true) n = n := by
        intro n
        induction n with
        | zero => rfl
        | succ n ih => show pw_ct _ n + (if true = true then 1 else 0) = n + 1; rw [ih]; rfl
      rw [hall, h2] at hfew
      omega
  obtain ⟨j, hj, h0⟩ := hex
  have h0' := (hper j hj).mp h0
  obtain ⟨-, f2, f3, -⟩ := pw_ff_spec c L 0
  have hlt : pw_ff c L 0 ≤ j % r x := by
    by_cases hx2 : pw_ff c L 0 ≤ j % r x
    · exact hx2
    · exact absurd h0' (f3 (j % r x) (Nat.zero_le _) (by omega))
  have := Nat.mod_lt j hx.1
  have := Nat.mod_le j (r x)
  exact ⟨by omega, by omega, hper⟩
/-- the next one has its places, the others keep theirs -/
theorem pw_H_add {L : Nat} {id r : Nat → Nat} {l : List Nat} {c : Nat → Nat} {x : Nat} (h : pw_H L id r l c) (hid : ∀ k ∈ l, 0 < id k ∧ id k ≠ id x) (hx0 : 0 < id x) (hL : 0 < L) (hr : ∀ k ∈ l, 0 < r k ∧ r k ∣ r x) (hx : 0 < r x ∧ r x ∣ L) (hs : (l.map (fun k => L / r k)).sum + L / r x ≤ L) :
    pw_H L id r (l ++ [x]) (pw_gv L (id x) (r x) c) := by
  obtain ⟨f1, f2, f3⟩ := pw_H_free h (fun k hk => (hid k hk).1) hL hr hx hs
  obtain ⟨-, -, -, f4⟩ := pw_ff_spec c L 0
  have f5 := f4 (by omega)
  obtain ⟨h1, h2, h3⟩ := h
  have hin : ∀ j, (pw_ff c L 0 ≤ j ∧ j < L ∧ (j - pw_ff c L 0) % r x = 0) ↔ (j < L ∧ j % r x = pw_ff c L 0) := by
    intro j
    constructor
    · intro ⟨a, b, e⟩
      refine ⟨b, ?_⟩
      obtain ⟨q, hq⟩ := Nat.dvd_of_mod_eq_zero e
      have e2 : j = r x * q + pw_ff c L 0 := by omega
      rw [e2, Nat.mul_add_mod, Nat.mod_eq_of_lt f1]
    · intro ⟨b, e⟩
      have e2 := Nat.div_add_mod j (r x)
      rw [e] at e2
      refine ⟨by omega, b, ?_⟩
      have e3 : j - pw_ff c L 0 = r x * (j / r x) := by omega
      rw [e3, Nat.mul_mod_right]
  have hfree : ∀ j, j < L → j % r x = pw_ff c L 0 → c j = 0 := fun j hj e => (f3 j hj).mpr (by rw [e]; exact f5)
  have hval : ∀ j, pw_gv L (id x) (r x) c j = if j < L ∧ j % r x = pw_ff c L 0 then id x else c j := by
    intro j
    unfold pw_gv
    by_cases hj : j < L ∧ j % r x = pw_ff c L 0
    · rw [if_pos hj, if_pos ((hin j).mpr hj)]
    · rw [if_neg hj, if_neg fun z => hj ((hin j).mp z)]
  refine ⟨?_, ?_, ?_⟩
  · intro k hk
    rcases List.mem_append.mp hk with hk | hk
    · obtain ⟨f, hf, hfj⟩ := h1 k hk
      refine ⟨f, hf, fun j hj => ?_⟩
      rw [hval j, ← hfj j hj]
      by_cases e : j % r x = pw_ff c L 0
      · rw [if_pos ⟨hj, e⟩]
        have h0 := hfree j hj e
        have h9 := hid k hk
        constructor
        · intro z; exact absurd z.symm h9.2
        · intro z; omega
      · rw [if_neg fun z => e z.2]
    · have : k = x := by simpa using hk
      subst this
      refine ⟨pw_ff c L 0, f1, fun j hj => ?_⟩
      rw [hval j]
      by_cases e : j % r k = pw_ff c L 0
      · rw [if_pos ⟨hj, e⟩]; exact ⟨fun _ => e, fun _ => rfl⟩
      · rw [if_neg fun z => e z.2]
        refine ⟨fun z => ?_, fun z => absurd z e⟩
        rcases h2 j hj with h0 | ⟨k', hk', e'⟩
        · omega
        · exact absurd (e'.symm.trans z) (hid k' hk').2
  · intro j hj
    rw [hval j]
    by_cases e : j < L ∧ j % r x = pw_ff c L 0
    · rw [if_pos e]; exact Or.inr ⟨x, List.mem_append_right _ List.mem_cons_self, rfl⟩
    · rw [if_neg e]
      rcases h2 j hj with h0 | ⟨k, hk, e'⟩
      · exact Or.inl h0
      · exact Or.inr ⟨k, List.mem_append_left _ hk, e'⟩
  · intro j hj
    rw [hval j, if_neg (by omega)]
    exact h3 j hj
theorem pw_H_0 {L : Nat} {id r : Nat → Nat} : pw_H L id r [] (fun _ => 0) := ⟨fun k hk => absurd hk List.not_mem_nil, fun j _ => Or.inl rfl, fun _ _ => rfl⟩
/-- all that is asked of a set: ids apart and above 0, a base -/
def pw_S (n : Nat) (id sp : Nat → Nat) (b : Nat) : Prop := 0 < b ∧ (∀ k, k < n → 0 < id k) ∧ ∀ i j, i < n → j < n → id i = id j → i = j
theorem pw_mx_dvd {b : Nat} {sp : Nat → Nat} {n k : Nat} (hb : 0 < b) (hk : k < n) : pw_r b sp k ∣ pw_mx (pw_r b sp) n := by
  obtain ⟨j, hj, e⟩ := pw_mx_is (r := pw_r b sp) (n := n) (by omega) fun i _ => pw_r_pos hb
  rw [e]
  exact pw_r_dvd hb (by rw [← e]; exact pw_mx_ge k hk)
/-- behind each of the clients in their order -/
theorem pw_cy_H {n : Nat} {id sp : Nat → Nat} {b : Nat} (h : pw_S n id sp b) (hf : pw_fit b sp n) : ∀ i, i ≤ n → pw_H (pw_mx (pw_r b sp) n) id (pw_r b sp) ((pw_srt (pw_r b sp) n).take i) (pw_cy (pw_mx (pw_r b sp) n) id (pw_r b sp) ((pw_srt (pw_r b sp) n).take i)) ∧
    (i < n → pw_ff (pw_cy (pw_mx (pw_r b sp) n) id (pw_r b sp) ((pw_srt (pw_r b sp) n).take i)) (pw_mx (pw_r b sp) n) 0 < pw_mx (pw_r b sp) n) := by
  have hlen := pw_srt_len (r := pw_r b sp) n
  have hsum : ((pw_srt (pw_r b sp) n).map (fun k => pw_mx (pw_r b sp) n / pw_r b sp k)).sum ≤ pw_mx (pw_r b sp) n := by rw [pw_srt_sum]; exact hf
  have hpre : ∀ i, i < n → (((pw_srt (pw_r b sp) n).take i).map (fun k => pw_mx (pw_r b sp) n / pw_r b sp k)).sum + pw_mx (pw_r b sp) n / pw_r b sp ((pw_srt (pw_r b sp) n).getD i 0) ≤ pw_mx (pw_r b sp) n := by
    intro i hi
    have e : pw_srt (pw_r b sp) n = (pw_srt (pw_r b sp) n).take (i + 1) ++ (pw_srt (pw_r b sp) n).drop (i + 1) := (List.take_append_drop _ _).symm
    rw [List.take_succ_eq_append_getElem (by omega)] at e
    rw [e] at hsum
    rw [pw_getD _ _ (by omega)]
    simp only [List.map_append, List.sum_append, List.map_cons, List.map_nil, List.sum_cons, List.sum_nil] at hsum
    omega
  have hside : ∀ i, i < n → (∀ k ∈ (pw_srt (pw_r b sp) n).take i, 0 < pw_r b sp k ∧ pw_r b sp k ∣ pw_r b sp ((pw_srt (pw_r b sp) n).getD i 0)) ∧ (∀ k ∈ (pw_srt (pw_r b sp) n).take i, 0 < id k ∧ id k ≠ id ((pw_srt (pw_r b sp) n).getD i 0)) := by
    intro i hi
    have hmem : ∀ k ∈ (pw_srt (pw_r b sp) n).take i, ∃ j, j < i ∧ (pw_srt (pw_r b sp) n).getD j 0 = k := by
      intro k hk
      obtain ⟨j, hj, e⟩ := List.getElem_of_mem hk
      rw [List.length_take] at hj
      refine ⟨j, by omega, ?_⟩
      rw [List.getElem_take] at e
      rw [pw_getD _ _ (by omega)]
      exact e
    refine ⟨fun k hk => ?_, fun k hk => ?_⟩
    · obtain ⟨j, hj, e⟩ := hmem k hk
      have h1 := pw_srt_le (r := pw_r b sp) j i hj hi
      rw [e] at h1
      refine ⟨pw_r_pos h.1, pw_r_dvd h.1 ?_⟩
      unfold pw_lt at h1
      omega
    · obtain ⟨j, hj, e⟩ := hmem k hk
      have hk2 : k < n := by rw [← e]; exact pw_srt_get (by omega)
      refine ⟨h.2.1 k hk2, fun z => ?_⟩
      have h2 := h.2.2 _ _ hk2 (pw_srt_get hi) z
      rw [← e] at h2
      have := pw_srt_inj (by omega) hi h2
      omega
  have hx : ∀ i, i < n → 0 < pw_r b sp ((pw_srt (pw_r b sp) n).getD i 0) ∧ pw_r b sp ((pw_srt (pw_r b sp) n).getD i 0) ∣ pw_mx (pw_r b sp) n := fun i hi => ⟨pw_r_pos h.1, pw_mx_dvd h.1 (pw_srt_get hi)⟩
  have main : ∀ i, i ≤ n → pw_H (pw_mx (pw_r b sp) n) id (pw_r b sp) ((pw_srt (pw_r b sp) n).take i) (pw_cy (pw_mx (pw_r b sp) n) id (pw_r b sp) ((pw_srt (pw_r b sp) n).take i)) := by
    intro i
    induction i with
    | zero => intro _; exact pw_H_0
    | succ i ih =>
      intro hi
      have h1 := ih (by omega)
      obtain ⟨s1, s2⟩ := hside i (by omega)
      have h2 := pw_H_add h1 s2 (h.2.1 _ (pw_srt_get (by omega))) (pw_mx_pos n) s1 (hx i (by omega)) (hpre i (by omega))
      rw [List.take_succ_eq_append_getElem (by omega), ← pw_getD _ 0 (by omega), pw_cy_add]
      exact h2
  intro i hi
  refine ⟨main i hi, fun hlt => ?_⟩
  obtain ⟨s1, s2⟩ := hside i hlt
  exact (pw_H_free (main i hi) (fun k hk => (s2 k hk).1) (pw_mx_pos n) s1 (hx i hlt) (hpre i hlt)).2.1
/-- the whole cycle -/
def pw_CY (b n : Nat) (id sp : Nat → Nat) : Nat → Nat := pw_cy (pw_mx (pw_r b sp) n) id (pw_r b sp) (pw_srt (pw_r b sp) n)
theorem pw_CY_has {n : Nat} {id sp : Nat → Nat} {b : Nat} (h : pw_S n id sp b) (hf : pw_fit b sp n) : ∀ k, k < n → ∃ j, j < pw_mx (pw_r b sp) n ∧ pw_CY b n id sp j = id k := by
  intro k hk
  have hH := (pw_cy_H h hf n (Nat.le_refl n)).1
  rw [List.take_of_length_le (by rw [pw_srt_len]; exact Nat.le_refl n)] at hH
  obtain ⟨f, hf1, hf2⟩ := hH.1 k ((pw_srt_mem n).mpr hk)
  have hle := Nat.le_of_dvd (pw_mx_pos (r := pw_r b sp) n) (pw_mx_dvd (sp := sp) h.1 hk)
  exact ⟨f, by omega, (hf2 f (by omega)).mpr (Nat.mod_eq_of_lt hf1)⟩
/-- who leaves makes no trouble -/
theorem pw_fit_sub {b n n' : Nat} {sp sp' : Nat → Nat} (hb : 0 < b) (hf : pw_fit b sp n) (g : Nat → Nat) (hg : ∀ k, k < n' → g k < n ∧ sp' k = sp (g k)) (hi : ∀ i j, i < j → j < n' → g i < g j) : pw_fit b sp' n' := by
  have hr : ∀ k, k < n' → pw_r b sp' k = pw_r b sp (g k) := fun k hk => by unfold pw_r; rw [(hg k hk).2]
  by_cases h0 : n' = 0
  · subst h0
    exact Nat.zero_le _
  · obtain ⟨a, ha, ea⟩ := pw_mx_is (r := pw_r b sp') (n := n') (by omega) fun i _ => pw_r_pos hb
    have hdvd : pw_mx (pw_r b sp') n' ∣ pw_mx (pw_r b sp) n := by
      rw [ea, hr a ha]
      exact pw_mx_dvd hb (hg a ha).1
    obtain ⟨q, hq⟩ := hdvd
    have hLp := pw_mx_pos (r := pw_r b sp) n
    have hLp' := pw_mx_pos (r := pw_r b sp') n'
    have hq0 : 0 < q := by
      refine Nat.pos_of_ne_zero fun z => ?_
      rw [z] at hq
      omega
    have hterm : ∀ k, k < n' → q * (pw_mx (pw_r b sp') n' / pw_r b sp' k) = pw_mx (pw_r b sp) n / pw_r b sp (g k) := by
      intro k hk
      rw [← hr k hk, hq, Nat.mul_comm _ q, Nat.mul_div_assoc q (pw_mx_dvd hb hk)]
    have hsub : ∀ (f : Nat → Nat) m, m ≤ n' → ∀ M, (∀ k, k < m → g k < M) → pw_sm (fun k => f (g k)) m ≤ pw_sm f M := by
      intro f m
      induction m with
      | zero => intro _ M _; exact Nat.zero_le _
      | succ m ih =>
        intro hm M hM
        have h1 := ih (by omega) (g m) fun k hk => hi k m hk (by omega)
        have h2 : ∀ M', g m < M' → pw_sm f (g m) + f (g m) ≤ pw_sm f M' := by
          intro M'
          induction M' with
          | zero => intro h; exact absurd h (Nat.not_lt_zero _)
          | succ M' ih2 =>
            intro h
            by_cases e : g m = M'
            · rw [e]; exact Nat.le_refl _
            · have := ih2 (by omega)
              show _ ≤ pw_sm f M' + f M'
              omega
        have h3 := h2 M (hM m (Nat.lt_succ_self m))
        show pw_sm (fun k => f (g k)) m + f (g m) ≤ pw_sm f M
        omega
    have hscale : ∀ m, m ≤ n' → q * pw_sm (fun k => pw_mx (pw_r b sp') n' / pw_r b sp' k) m = pw_sm (fun k => pw_mx (pw_r b sp) n / pw_r b sp (g k)) m := by
      intro m
      induction m with
      | zero => intro _; rfl
      | succ m ih =>
        intro hm
        show q * (pw_sm _ m + _) = pw_sm _ m + _
        rw [Nat.mul_add, ih (by omega), hterm m (by omega)]
    have h1 := hscale n' (Nat.le_refl n')
    have h2 := hsub (fun k => pw_mx (pw_r b sp) n / pw_r b sp k) n' (Nat.le_refl n') n fun k hk => (hg k hk).1
    have h3 : pw_nd2 b sp n ≤ pw_mx (pw_r b sp) n := hf
    unfold pw_nd2 at h3
    have h4 : q * pw_nd2 b sp' n' ≤ q * pw_mx (pw_r b sp') n' := by
      unfold pw_nd2
      rw [h1, Nat.mul_comm q (pw_mx (pw_r b sp') n'), ← hq]
      exact Nat.le_trans h2 h3
    exact Nat.le_of_mul_le_mul_left h4 hq0
end
section
/-! Divisions with a rest, one after another; the sum of 1 by the spans. -/
def pw_eu : Nat → Nat → Nat → Nat
  | 0, a, _ => a
  | f + 1, a, b => if b = 0 then a else pw_eu f b (a % b)
/-- it has come to its end within so many -/
def pw_ed : Nat → Nat → Nat → Prop
  | 0, _, b => b = 0
  | f + 1, a, b => b = 0 ∨ pw_ed f b (a % b)
theorem pw_ed_0 : ∀ f a, pw_ed f a 0 := by
  intro f a
  cases f with
  | zero => exact rfl
  | succ f => exact Or.inl rfl
theorem pw_ed_mono : ∀ {f g a b : Nat}, f ≤ g → pw_ed f a b → pw_ed g a b := by
  intro f
  induction f with
  | zero => intro g a b _ h; have h : b = 0 := h; subst h; exact pw_ed_0 g a
  | succ f ih =>
    intro g a b hfg h
    cases g with
    | zero => omega
    | succ g =>
      rcases h with h | h
      · exact Or.inl h
      · exact Or.inr (ih (by omega) h)
theorem pw_mod_sum {a b : Nat} (hb : 0 < b) (h : b ≤ a) : b + a % b ≤ a := by
  have h1 := Nat.div_add_mod a b
  have h2 : 0 < a / b := Nat.div_pos h hb
  have h3 : b * 1 ≤ b * (a / b) := Nat.mul_le_mul_left b h2
  omega
theorem pw_ed_fast : ∀ (n a b : Nat), b < 5 ^ n → pw_ed (4 * n) a b := by
  intro n
  induction n with
  | zero => intro a b h; show b = 0; simp at h; exact h
  | succ n ih =>
    intro a b h
    show pw_ed (4 * n + 1 + 1 + 1 + 1) a b
    by_cases h0 : b = 0
    · exact Or.inl h0
    refine Or.inr ?_
    have l1 := Nat.mod_lt a (Nat.pos_of_ne_zero h0)
    generalize a % b = r1 at l1 ⊢
    by_cases h1 : r1 = 0
    · exact Or.inl h1
    refine Or.inr ?_
    have l2 := Nat.mod_lt b (Nat.pos_of_ne_zero h1)
    have m2 := pw_mod_sum (Nat.pos_of_ne_zero h1) (Nat.le_of_lt l1)
    generalize b % r1 = r2 at l2 m2 ⊢
    by_cases h2 : r2 = 0
    · exact Or.inl h2
    refine Or.inr ?_
    have l3 := Nat.mod_lt r1 (Nat.pos_of_ne_zero h2)
    have m3 := pw_mod_sum (Nat.pos_of_ne_zero h2) (Nat.le_of_lt l2)
    generalize r1 % r2 = r3 at l3 m3 ⊢
    by_cases h3 : r3 = 0
    · exact Or.inl h3
    refine Or.inr ?_
    have l4 := Nat.mod_lt r2 (Nat.pos_of_ne_zero h3)
    have m4 := pw_mod_sum (Nat.pos_of_ne_zero h3) (Nat.le_of_lt l3)
    generalize r2 % r3 = r4 at l4 m4 ⊢
    refine ih r3 r4 ?_
    have e : 5 ^ (n + 1) = 5 ^ n * 5 := Nat.pow_succ ..
    omega
theorem pw_eu_pos : ∀ (f a b : Nat), 0 < a → 0 < pw_eu f a b := by
  intro f
  induction f with
  | zero => intro a b h; exact h
  | succ f ih =>
    intro a b h
    unfold pw_eu
    split
    · exact h
    · rename_i hb; exact ih _ _ (Nat.pos_of_ne_zero hb)
theorem pw_eu_ed : ∀ (f g a b : Nat), f ≤ g → pw_ed f a b → pw_eu g a b = pw_eu f a b := by
  intro f
  induction f with
  | zero =>
    intro g a b _ h
    have h : b = 0 := h
    subst h
    cases g with
    | zero => rfl
    | succ g => show (if 0 = 0 then a else _) = a; rw [if_pos rfl]
  | succ f ih =>
    intro g a b hfg h
    cases g with
    | zero => omega
    | succ g =>
      show (if b = 0 then a else pw_eu g b (a % b)) = (if b = 0 then a else pw_eu f b (a % b))
      by_cases hb : b = 0
      · rw [if_pos hb, if_pos hb]
      · rw [if_neg hb, if_neg hb]
        exact ih g b (a % b) (by omega) (h.resolve_left hb)
/-- numerator and denominator -/
def pw_de (sp : Nat → Nat) : Nat → Nat × Nat
  | 0 => (0, 1)
  | k + 1 => (((pw_de sp k).1 * sp k + (pw_de sp k).2) / pw_eu 92 ((pw_de sp k).1 * sp k + (pw_de sp k).2) ((pw_de sp k).2 * sp k), ((pw_de sp k).2 * sp k) / pw_eu 92 ((pw_de sp k).1 * sp k + (pw_de sp k).2) ((pw_de sp k).2 * sp k))
theorem pw_de_le {sp : Nat → Nat} {n : Nat} (h : ∀ k, k < n → 0 < sp k ∧ sp k ≤ 40) : ∀ k, k ≤ n → (pw_de sp k).1 * 40 ≤ k * 40 ^ k ∧ (pw_de sp k).2 ≤ 40 ^ k := by
  intro k
  induction k with
  | zero => intro _; exact ⟨Nat.le_refl 0, Nat.le_refl 1⟩
  | succ k ih =>
    intro hk
    obtain ⟨h1, h2⟩ := ih (by omega)
    obtain ⟨h3, h4⟩ := h k (by omega)
    have e : 40 ^ (k + 1) = 40 ^ k * 40 := Nat.pow_succ ..
    have m1 : (pw_de sp k).1 * sp k ≤ (pw_de sp k).1 * 40 := Nat.mul_le_mul_left _ h4
    have m2 : (pw_de sp k).2 * sp k ≤ (pw_de sp k).2 * 40 := Nat.mul_le_mul_left _ h4
    have d1 := Nat.div_le_self ((pw_de sp k).1 * sp k + (pw_de sp k).2) (pw_eu 92 ((pw_de sp k).1 * sp k + (pw_de sp k).2) ((pw_de sp k).2 * sp k))
    have d2 := Nat.div_le_self ((pw_de sp k).2 * sp k) (pw_eu 92 ((pw_de sp k).1 * sp k + (pw_de sp k).2) ((pw_de sp k).2 * sp k))
    have e2 : (k + 1) * 40 ^ (k + 1) = (k * 40 ^ k + 40 ^ k) * 40 := by rw [e, Nat.add_mul k, Nat.one_mul, Nat.add_mul, Nat.mul_assoc]
    refine ⟨?_, ?_⟩
    · show ((pw_de sp k).1 * sp k + (pw_de sp k).2) / _ * 40 ≤ _
      rw [e2]
      refine Nat.mul_le_mul_right 40 ?_
      omega
    · show ((pw_de sp k).2 * sp k) / _ ≤ _
      omega
end
section
/-! Which builder lays which cycle. -/
/-- a base that builder 2 may take -/
def pw_al (sp : Nat → Nat) (n b : Nat) : Prop := (3 ≤ b ∧ b ≤ 15 ∧ b % 2 = 1) ∧ ∀ k, k < n → b ≤ sp k
/-- the first one that fits -/
def pw_b2 (sp : Nat → Nat) (n b : Nat) : Prop := pw_al sp n b ∧ pw_fit b sp n ∧ ∀ b', b' < b → pw_al sp n b' → ¬ pw_fit b' sp n
theorem pw_b2_eq {sp : Nat → Nat} {n b b' : Nat} (h : pw_b2 sp n b) (h' : pw_b2 sp n b') : b = b' := by
  rcases Nat.lt_trichotomy b b' with h1 | h1 | h1
  · exact absurd h.2.1 (h'.2.2 b h1 h.1)
  · exact h1
  · exact absurd h'.2.1 (h.2.2 b' h1 h'.1)
theorem pw_b2_ex {sp : Nat → Nat} {n b : Nat} (h : pw_al sp n b) (h' : pw_fit b sp n) : ∃ b, pw_b2 sp n b := by
  obtain ⟨k, hk, hl⟩ := pk_least (fun b => pw_al sp n b ∧ pw_fit b sp n) ⟨b, h, h'⟩
  exact ⟨k, hk.1, hk.2, fun b' hb' ha hf => hl b' hb' ⟨ha, hf⟩⟩
/-- the order of builder 3 -/
def pw_o (sp : Nat → Nat) (n i : Nat) : Nat := (pw_srt sp n).getD i 0
def pw_os (sp : Nat → Nat) (n i : Nat) : Nat := sp (pw_o sp n i)
def pw_oi (id sp : Nat → Nat) (n i : Nat) : Nat := id (pw_o sp n i)
/-- builder 3 takes them -/
def pw_tk (sp : Nat → Nat) (n : Nat) : Prop := n ≤ 4 ∧ pw_w sp n ≤ 1500
def pw_sf (sp : Nat → Nat) (n : Nat) : Prop := pw_safe n (pw_os sp n) (pw_w (pw_os sp n) n - 1)
theorem pw_os_w (sp : Nat → Nat) (n : Nat) : pw_w (pw_os sp n) n = pw_w sp n := pw_srt_w (r := sp) (f := sp) n
def pw_Bld (n : Nat) (id sp : Nat → Nat) (w L : Nat) (cy : Nat → Nat) : Prop :=
  (w = 1 ∧ pw_fit 1 sp n ∧ L = pw_mx (pw_r 1 sp) n ∧ ∀ j, j < L → cy j = pw_CY 1 n id sp j) ∨
  (w = 2 ∧ ¬ pw_fit 1 sp n ∧ ∃ b, pw_b2 sp n b ∧ L = pw_mx (pw_r b sp) n ∧ ∀ j, j < L → cy j = pw_CY b n id sp j) ∨
  (w = 3 ∧ ¬ pw_fit 1 sp n ∧ (¬ ∃ b, pw_b2 sp n b) ∧ pw_tk sp n ∧ pw_sf sp n ∧ pw_B3 n (pw_os sp n) (pw_oi id sp n) L cy)
/-- all builders fail -/
def pw_no (n : Nat) (sp : Nat → Nat) : Prop := ¬ pw_fit 1 sp n ∧ (¬ ∃ b, pw_b2 sp n b) ∧ ¬ (pw_tk sp n ∧ pw_sf sp n)
theorem pw_Bld_no {n : Nat} {id sp : Nat → Nat} {w L : Nat} {cy : Nat → Nat} (h : pw_Bld n id sp w L cy) (h' : pw_no n sp) : False := by
  obtain ⟨a, b, c⟩ := h'
  rcases h with ⟨-, h, -⟩ | ⟨-, -, x, h, -⟩ | ⟨-, -, -, h1, h2, -⟩
  · exact a h
  · exact b ⟨x, h⟩
  · exact c ⟨h1, h2⟩
theorem pw_Bld_eq {n : Nat} {id sp : Nat → Nat} {w L w' L' : Nat} {cy cy' : Nat → Nat} (h : pw_Bld n id sp w L cy) (h' : pw_Bld n id sp w' L' cy') : w = w' ∧ L = L' ∧ ∀ j, j < L → cy j = cy' j := by
  rcases h with ⟨rfl, h1, rfl, h2⟩ | ⟨rfl, h1, b, h2, rfl, h3⟩ | ⟨rfl, h1, h2, h3, h4, h5⟩ <;> rcases h' with ⟨rfl, g1, rfl, g2⟩ | ⟨rfl, g1, b', g2, rfl, g3⟩ | ⟨rfl, g1, g2, g3, g4, g5⟩
  · exact ⟨rfl, rfl, fun j hj => (h2 j hj).trans (g2 j hj).symm⟩
  · exact absurd h1 g1
  · exact absurd h1 g1
  · exact absurd g1 h1
  · have e := pw_b2_eq h2 g2
    subst e
    exact ⟨rfl, rfl, fun j hj => (h3 j hj).trans (g3 j hj).symm⟩
  · exact absurd ⟨b, h2⟩ g2
  · exact absurd g1 h1
  · exact absurd ⟨b', g2⟩ h2
  · obtain ⟨e1, e2⟩ := pw_B3_eq h5 g5
    exact ⟨rfl, e1, e2⟩
/-- what is known of every set -/
def pw_G (n : Nat) (id sp : Nat → Nat) : Prop := (∀ k, k < n → 0 < id k ∧ id k < 1000) ∧ (∀ i j, i < j → j < n → id i < id j) ∧ ∀ k, k < n → 0 < sp k ∧ sp k ≤ 40
theorem pw_G_inj {n : Nat} {id sp : Nat → Nat} (h : pw_G n id sp) : ∀ i j, i < n → j < n → id i = id j → i = j := by
  intro i j hi hj e
  rcases Nat.lt_trichotomy i j with h1 | h1 | h1
  · have := h.2.1 i j h1 hj; omega
  · exact h1
  · have := h.2.1 j i h1 hi; omega
theorem pw_G_S {n : Nat} {id sp : Nat → Nat} (h : pw_G n id sp) {b : Nat} (hb : 0 < b) : pw_S n id sp b := ⟨hb, fun k hk => (h.1 k hk).1, pw_G_inj h⟩
theorem pw_mx_40 {n : Nat} {sp : Nat → Nat} {b : Nat} (h : ∀ k, k < n → sp k ≤ 40) (hb : ∀ k, k < n → b ≤ sp k) : pw_mx (pw_r b sp) n ≤ 40 := pw_mx_le (by decide) fun k hk => Nat.le_trans (pw_rnd_le 6 b (sp k) (hb k hk)) (h k hk)
theorem pw_os_pos {n : Nat} {id sp : Nat → Nat} (h : pw_G n id sp) : ∀ k, k < n → 0 < pw_os sp n k := fun k hk => (h.2.2 _ (pw_srt_get hk)).1
theorem pw_B3_len {K : Nat} {sp id : Nat → Nat} {L : Nat} {cy : Nat → Nat} (h : pw_B3 K sp id L cy) : L ≤ pw_w sp K := by
  obtain ⟨st, tn, T, fr, hp, hf, he, hd, hL, hc⟩ := h
  have := pw_P_few hp hd
  omega
/-- a cycle has places, not too many, and every client has one -/
theorem pw_Bld_has {n : Nat} {id sp : Nat → Nat} {w L : Nat} {cy : Nat → Nat} (hG : pw_G n id sp) (h : pw_Bld n id sp w L cy) : 0 < L ∧ L ≤ 1500 ∧ (1 ≤ w ∧ w ≤ 3) ∧ ∀ k, k < n → ∃ j, j < L ∧ cy j = id k := by
  rcases h with ⟨rfl, h1, rfl, h2⟩ | ⟨rfl, h1, b, h2, rfl, h3⟩ | ⟨rfl, h1, h2, h3, h4, h5⟩
  · refine ⟨pw_mx_pos n, ?_, by decide, fun k hk => ?_⟩
    · have := pw_mx_40 (b := 1) (fun k hk => (hG.2.2 k hk).2) fun k hk => (hG.2.2 k hk).1
      omega
    · obtain ⟨j, hj, e⟩ := pw_CY_has (pw_G_S hG Nat.one_pos) h1 k hk
      exact ⟨j, hj, (h2 j hj).trans e⟩
  · refine ⟨pw_mx_pos n, ?_, by decide, fun k hk => ?_⟩
    · have := pw_mx_40 (b := b) (fun k hk => (hG.2.2 k hk).2) h2.1.2
      omega
    · obtain ⟨j, hj, e⟩ := pw_CY_has (pw_G_S hG (by have := h2.1.1.1; omega)) h2.2.1 k hk
      exact ⟨j, hj, (h3 j hj).trans e⟩
  · obtain ⟨h6, h7⟩ := pw_B3_has (pw_os_pos hG) h5
    refine ⟨h6, ?_, by decide, fun k hk => ?_⟩
    · have h8 := pw_B3_len h5
      rw [pw_os_w] at h8
      have := h3.2
      omega
    · obtain ⟨i, hi, e⟩ := pw_srt_all (r := sp) hk
      obtain ⟨j, hj, e2⟩ := h7 i hi
      exact ⟨j, hj, by rw [e2]; show id ((pw_srt sp n).getD i 0) = id k; rw [e]⟩
/-- the exact decision doesn't hang on the order -/
theorem pw_sf_iff {n : Nat} {id sp : Nat → Nat} (hG : pw_G n id sp) (hn : 0 < n) : pw_sf sp n ↔ pw_safe n sp (pw_w sp n - 1) := by
  have hsp : ∀ k, k < n → 0 < sp k := fun k hk => (hG.2.2 k hk).1
  constructor
  · intro h
    have h1 := pw_safe_sched (id := pw_oi id sp n) (pw_os_pos hG) h
    refine pw_sched_safe (id := id) hn hsp (pw_G_inj hG) (pw_sched_set (fun k hk => ?_) h1)
    obtain ⟨i, hi, e⟩ := pw_srt_all (r := sp) hk
    exact ⟨i, hi, by show id ((pw_srt sp n).getD i 0) = id k; rw [e], by show sp ((pw_srt sp n).getD i 0) ≤ sp k; rw [e]; exact Nat.le_refl _⟩
  · intro h
    have h1 := pw_safe_sched (id := id) hsp h
    refine pw_sched_safe (id := pw_oi id sp n) hn (pw_os_pos hG) (fun i j hi hj e => ?_) (pw_sched_set (fun k hk => ?_) h1)
    · exact pw_srt_inj (r := sp) hi hj (pw_G_inj hG _ _ (pw_srt_get hi) (pw_srt_get hj) e)
    · exact ⟨pw_o sp n k, pw_srt_get hk, rfl, Nat.le_refl _⟩
/-- for those left one of the builders doesn't fail -/
theorem pw_drop {n n' : Nat} {id sp id' sp' : Nat → Nat} {w L : Nat} {cy : Nat → Nat} (hG : pw_G n id sp) (hG' : pw_G n' id' sp') (h : pw_Bld n id sp w L cy) (g : Nat → Nat) (hg : ∀ k, k < n' → g k < n ∧ sp' k = sp (g k) ∧ id' k = id (g k)) (hi : ∀ i j, i < j → j < n' → g i < g j) (hle : n' ≤ n) : ¬ pw_no n' sp' := by
  intro ⟨h1, h2, h3⟩
  have hg2 : ∀ k, k < n' → g k < n ∧ sp' k = sp (g k) := fun k hk => ⟨(hg k hk).1, (hg k hk).2.1⟩
  have hn' : 0 < n' := by
    refine Nat.pos_of_ne_zero fun z => h1 ?_
    subst z
    exact Nat.zero_le _
  rcases h with ⟨rfl, f1, -⟩ | ⟨rfl, -, b, f2, -⟩ | ⟨rfl, f1, f2, f3, f4, -⟩
  · exact h1 (pw_fit_sub Nat.one_pos f1 g hg2 hi)
  · refine h2 (pw_b2_ex (b := b) ⟨f2.1.1, fun k hk => ?_⟩ (pw_fit_sub (by have := f2.1.1.1; omega) f2.2.1 g hg2 hi))
    rw [(hg2 k hk).2]
    exact f2.1.2 _ (hg2 k hk).1
  · refine h3 ⟨⟨by have := f3.1; omega, ?_⟩, ?_⟩
    · have hw : ∀ m, m ≤ n' → ∀ M, M ≤ n → (∀ k, k < m → g k < M) → pw_w sp' m ≤ pw_w sp M := by
        intro m
        induction m with
        | zero => intro _ M hM _; exact pw_w_pos fun k hk => (hG.2.2 k (by omega)).1
        | succ m ih =>
          intro hm M hM hk
          have a1 := ih (by omega) (g m) (by have := (hg m (by omega)).1; omega) fun k hk => hi k m hk (by omega)
          have a2 := pw_w_mono (f := sp) (n := g m + 1) (m := M) (fun k hk => (hG.2.2 k (by omega)).1) (hk m (Nat.lt_succ_self m))
          have a3 : pw_w sp' m * sp' m ≤ pw_w sp (g m) * sp (g m) := by rw [(hg m (by omega)).2.1]; exact Nat.mul_le_mul_right _ a1
          exact Nat.le_trans a3 a2
      exact Nat.le_trans (hw n' (Nat.le_refl n') n (Nat.le_refl n) fun k hk => (hg k hk).1) f3.2
    · rw [pw_sf_iff hG (by omega)] at f4
      rw [pw_sf_iff hG' hn']
      have s1 := pw_safe_sched (id := id) (fun k hk => (hG.2.2 k hk).1) f4
      exact pw_sched_safe (id := id') hn' (fun k hk => (hG'.2.2 k hk).1) (pw_G_inj hG') (pw_sched_set (fun k hk => ⟨g k, (hg k hk).1, (hg k hk).2.2.symm, Nat.le_of_eq (hg k hk).2.1.symm⟩) s1)
end
section
/-! Rows over numbers 0, 1, 2 ..; a call that gives its cells back at their places. -/
/-- an array of such numbers -/
def wA (f : Nat → Nat) : Nat → Int32 := fun j => nI (f j)
theorem wA_up {f : Nat → Nat} {k x : Nat} (hk : k < 2 ^ 31) : upd (wA f) (nI k).toNatClampNeg (nI x) = wA (va_up f k x) := by
  rw [nI_clamp hk]
  funext j
  show (if j = k then nI x else nI (f j)) = nI (va_up f k x j)
  by_cases h : j = k
  · rw [if_pos h, h, va_up_self]
  · rw [if_neg h, va_up_ne _ _ h]
section WIR
variable {p : Program} {l : Launch} {e : Env} {R : Room} {s : State} {m : MethodId} {args : Array Value} {below : List Frame} {meth : Method} {c : Code} {H : Heap} {locs : List Loc} {cells slots : Nat} {Q : State → Prop}
variable {cc : ByteArray} {pc : Nat} {ls : Array Slot} {rest : List Value} {D : va_G} {cl : List vw_C} {A : Nat → Prop} {a : Nat} {tys : List (ClassId × FieldType)} {ws : va_W} {H0 : Heap}
theorem wi_add (hx : p.tables.exec = Jvm.exec) (hb : c.code = cc) {x y : Nat} (hdg : decode cc pc = .ok (.iadd, 1)) (k : W p l e R s m args below meth c H locs cells slots Q (F0 m (pc + 1) ls (.int (nI (x + y)) :: rest))) : W p l e R s m args below meth c H locs cells slots Q (F0 m pc ls (.int (nI y) :: .int (nI x) :: rest)) := by
  refine lv_iadd hx hb hdg ?_
  rw [nI_add]
  exact k
theorem wi_sub (hx : p.tables.exec = Jvm.exec) (hb : c.code = cc) {x y : Nat} (hdg : decode cc pc = .ok (.isub, 1)) (h : y ≤ x) (k : W p l e R s m args below meth c H locs cells slots Q (F0 m (pc + 1) ls (.int (nI (x - y)) :: rest))) : W p l e R s m args below meth c H locs cells slots Q (F0 m pc ls (.int (nI y) :: .int (nI x) :: rest)) := by
  refine lv_isub hx hb hdg ?_
  rw [pk_sub h]
  exact k
theorem wi_mul (hx : p.tables.exec = Jvm.exec) (hb : c.code = cc) {x y : Nat} (hdg : decode cc pc = .ok (.imul, 1)) (k : W p l e R s m args below meth c H locs cells slots Q (F0 m (pc + 1) ls (.int (nI (x * y)) :: rest))) : W p l e R s m args below meth c H locs cells slots Q (F0 m pc ls (.int (nI y) :: .int (nI x) :: rest)) := by
  refine lv_imul hx hb hdg ?_
  rw [pk_mul]
  exact k
theorem wi_div (hx : p.tables.exec = Jvm.exec) (hb : c.code = cc) {x y : Nat} (hdg : decode cc pc = .ok (.idiv, 1)) (h1 : x < 2 ^ 31) (h2 : 0 < y) (h3 : y < 2 ^ 31) (k : W p l e R s m args below meth c H locs cells slots Q (F0 m (pc + 1) ls (.int (nI (x / y)) :: rest))) : W p l e R s m args below meth c H locs cells slots Q (F0 m pc ls (.int (nI y) :: .int (nI x) :: rest)) := by
  refine lv_idiv hx hb hdg (nI_ne0 h2 h3) ?_
  rw [pk_div h1 h2 h3]
  exact k
theorem wi_rem (hx : p.tables.exec = Jvm.exec) (hb : c.code = cc) {x y : Nat} (hdg : decode cc pc = .ok (.irem, 1)) (h1 : x < 2 ^ 31) (h2 : 0 < y) (h3 : y < 2 ^ 31) (k : W p l e R s m args below meth c H locs cells slots Q (F0 m (pc + 1) ls (.int (nI (x % y)) :: rest))) : W p l e R s m args below meth c H locs cells slots Q (F0 m pc ls (.int (nI y) :: .int (nI x) :: rest)) := by
  refine lv_irem hx hb hdg (nI_ne0 h2 h3) ?_
  rw [pk_rem h1 h2 h3]
  exact k
theorem wi_ge (hx : p.tables.exec = Jvm.exec) (hb : c.code = cc) {x y : Nat} {off : Int} {tgt : Nat} (hdg : decode cc pc = .ok (.if_icmp .ge off, 3)) (ht : (pc : Int) + off = (tgt : Int)) (h1 : x < 2 ^ 31) (h2 : y < 2 ^ 31)
    (kt : y ≤ x → W p l e R s m args below meth c H locs cells slots Q (F0 m tgt ls rest)) (kf : x < y → W p l e R s m args below meth c H locs cells slots Q (F0 m (pc + 3) ls rest)) : W p l e R s m args below meth c H locs cells slots Q (F0 m pc ls (.int (nI y) :: .int (nI x) :: rest)) :=
  lv_icmp_ge hx hb hdg ht (fun h => kt ((nI_leI h2 h1).mp h)) (fun h => kf (Nat.not_le.mp fun z => h ((nI_leI h2 h1).mpr z)))
theorem wi_lt (hx : p.tables.exec = Jvm.exec) (hb : c.code = cc) {x y : Nat} {off : Int} {tgt : Nat} (hdg : decode cc pc = .ok (.if_icmp .lt off, 3)) (ht : (pc : Int) + off = (tgt : Int)) (h1 : x < 2 ^ 31) (h2 : y < 2 ^ 31)
    (kt : x < y → W p l e R s m args below meth c H locs cells slots Q (F0 m tgt ls rest)) (kf : y ≤ x → W p l e R s m args below meth c H locs cells slots Q (F0 m (pc + 3) ls rest)) : W p l e R s m args below meth c H locs cells slots Q (F0 m pc ls (.int (nI y) :: .int (nI x) :: rest)) :=
  lv_icmp_lt hx hb hdg ht (fun h => kt ((nI_ltI h1 h2).mp h)) (fun h => kf (Nat.not_lt.mp fun z => h ((nI_ltI h1 h2).mpr z)))
theorem wi_gt (hx : p.tables.exec = Jvm.exec) (hb : c.code = cc) {x y : Nat} {off : Int} {tgt : Nat} (hdg : decode cc pc = .ok (.if_icmp .gt off, 3)) (ht : (pc : Int) + off = (tgt : Int)) (h1 : x < 2 ^ 31) (h2 : y < 2 ^ 31)
    (kt : y < x → W p l e R s m args below meth c H locs cells slots Q (F0 m tgt ls rest)) (kf : x ≤ y → W p l e R s m args below meth c H locs cells slots Q (F0 m (pc + 3) ls rest)) : W p l e R s m args below meth c H locs cells slots Q (F0 m pc ls (.int (nI y) :: .int (nI x) :: rest)) :=
  lv_icmp_gt hx hb hdg ht (fun h => kt ((nI_ltI h2 h1).mp h)) (fun h => kf (Nat.not_lt.mp fun z => h ((nI_ltI h2 h1).mpr z)))
theorem wi_le (hx : p.tables.exec = Jvm.exec) (hb : c.code = cc) {x y : Nat} {off : Int} {tgt : Nat} (hdg : decode cc pc = .ok (.if_icmp .le off, 3)) (ht : (pc : Int) + off = (tgt : Int)) (h1 : x < 2 ^ 31) (h2 : y < 2 ^ 31)
    (kt : x ≤ y → W p l e R s m args below meth c H locs cells slots Q (F0 m tgt ls rest)) (kf : y < x → W p l e R s m args below meth c H locs cells slots Q (F0 m (pc + 3) ls rest)) : W p l e R s m args below meth c H locs cells slots Q (F0 m pc ls (.int (nI y) :: .int (nI x) :: rest)) :=
  lv_icmp_le hx hb hdg ht (fun h => kt ((nI_leI h1 h2).mp h)) (fun h => kf (Nat.not_le.mp fun z => h ((nI_leI h1 h2).mpr z)))
theorem wi_eq (hx : p.tables.exec = Jvm.exec) (hb : c.code = cc) {x y : Nat} {off : Int} {tgt : Nat} (hdg : decode cc pc = .ok (.if_icmp .eq off, 3)) (ht : (pc : Int) + off = (tgt : Int)) (h1 : x < 2 ^ 31) (h2 : y < 2 ^ 31)
    (kt : x = y → W p l e R s m args below meth c H locs cells slots Q (F0 m tgt ls rest)) (kf : x ≠ y → W p l e R s m args below meth c H locs cells slots Q (F0 m (pc + 3) ls rest)) : W p l e R s m args below meth c H locs cells slots Q (F0 m pc ls (.int (nI y) :: .int (nI x) :: rest)) :=
  lv_icmp_eq hx hb hdg ht (fun h => kt ((nI_eq h1 h2).mp h)) (fun h => kf (fun z => h ((nI_eq h1 h2).mpr z)))
theorem wi_ne (hx : p.tables.exec = Jvm.exec) (hb : c.code = cc) {x y : Nat} {off : Int} {tgt : Nat} (hdg : decode cc pc = .ok (.if_icmp .ne off, 3)) (ht : (pc : Int) + off = (tgt : Int)) (h1 : x < 2 ^ 31) (h2 : y < 2 ^ 31)
    (kt : x ≠ y → W p l e R s m args below meth c H locs cells slots Q (F0 m tgt ls rest)) (kf : x = y → W p l e R s m args below meth c H locs cells slots Q (F0 m (pc + 3) ls rest)) : W p l e R s m args below meth c H locs cells slots Q (F0 m pc ls (.int (nI y) :: .int (nI x) :: rest)) :=
  lv_icmp_ne hx hb hdg ht (fun h => kt (fun z => h ((nI_eq h1 h2).mpr z))) (fun h => kf ((nI_eq h1 h2).mp h))
theorem wi_z {x : Nat} (h : x < 2 ^ 31) : nI x = 0 ↔ x = 0 := (nI_eq (b := 0) h (by decide))
theorem wi_if_eq (hx : p.tables.exec = Jvm.exec) (hb : c.code = cc) {x : Nat} {off : Int} {tgt : Nat} (hdg : decode cc pc = .ok (.ifCond .eq off, 3)) (ht : (pc : Int) + off = (tgt : Int)) (h1 : x < 2 ^ 31)
    (kt : x = 0 → W p l e R s m args below meth c H locs cells slots Q (F0 m tgt ls rest)) (kf : 0 < x → W p l e R s m args below meth c H locs cells slots Q (F0 m (pc + 3) ls rest)) : W p l e R s m args below meth c H locs cells slots Q (F0 m pc ls (.int (nI x) :: rest)) :=
  lv_if_eq hx hb hdg ht (fun h => kt ((wi_z h1).mp h)) (fun h => kf (Nat.pos_of_ne_zero fun z => h ((wi_z h1).mpr z)))
theorem wi_if_ne (hx : p.tables.exec = Jvm.exec) (hb : c.code = cc) {x : Nat} {off : Int} {tgt : Nat} (hdg : decode cc pc = .ok (.ifCond .ne off, 3)) (ht : (pc : Int) + off = (tgt : Int)) (h1 : x < 2 ^ 31)
    (kt : 0 < x → W p l e R s m args below meth c H locs cells slots Q (F0 m tgt ls rest)) (kf : x = 0 → W p l e R s m args below meth c H locs cells slots Q (F0 m (pc + 3) ls rest)) : W p l e R s m args below meth c H locs cells slots Q (F0 m pc ls (.int (nI x) :: rest)) :=
  lv_if_ne hx hb hdg ht (fun h => kt (Nat.pos_of_ne_zero fun z => h ((wi_z h1).mpr z))) (fun h => kf ((wi_z h1).mp h))
theorem wi_if_le (hx : p.tables.exec = Jvm.exec) (hb : c.code = cc) {x : Nat} {off : Int} {tgt : Nat} (hdg : decode cc pc = .ok (.ifCond .le off, 3)) (ht : (pc : Int) + off = (tgt : Int)) (h1 : x < 2 ^ 31)
    (kt : x = 0 → W p l e R s m args below meth c H locs cells slots Q (F0 m tgt ls rest)) (kf : 0 < x → W p l e R s m args below meth c H locs cells slots Q (F0 m (pc + 3) ls rest)) : W p l e R s m args below meth c H locs cells slots Q (F0 m pc ls (.int (nI x) :: rest)) :=
  lv_if_le hx hb hdg ht (fun h => kt (by
    by_cases hz : x = 0
    · exact hz
    · exact absurd h (nI_nle (Nat.pos_of_ne_zero hz) h1))) (fun h => kf (Nat.pos_of_ne_zero fun z => h (by subst z; exact Int32.le_refl _)))
theorem wi_if_gt (hx : p.tables.exec = Jvm.exec) (hb : c.code = cc) {x : Nat} {off : Int} {tgt : Nat} (hdg : decode cc pc = .ok (.ifCond .gt off, 3)) (ht : (pc : Int) + off = (tgt : Int)) (h1 : x < 2 ^ 31)
    (kt : 0 < x → W p l e R s m args below meth c H locs cells slots Q (F0 m tgt ls rest)) (kf : x = 0 → W p l e R s m args below meth c H locs cells slots Q (F0 m (pc + 3) ls rest)) : W p l e R s m args below meth c H locs cells slots Q (F0 m pc ls (.int (nI x) :: rest)) :=
  lv_if_gt hx hb hdg ht (fun h => kt (Nat.pos_of_ne_zero fun z => by subst z; exact absurd h (by decide))) (fun h => kf (by
    by_cases hz : x = 0
    · exact hz
    · exact absurd (nI_lt (a := 0) (Nat.pos_of_ne_zero hz) h1) h))
theorem wi_inc (hx : p.tables.exec = Jvm.exec) (hb : c.code = cc) {i nL k x : Nat} {lv lv' : List (Nat × Value)} (hdg : decode cc pc = .ok (.iinc i 1, 3)) (h : lv_has ls nL lv) (hk : lv[k]? = some (i, .int (nI x))) (hn : i < nL) (hl : (i, Value.int (nI (x + 1))) :: lv.filter (fun q => !(q.1 == i) && !(q.1 + 1 == i && q.2.category == 2)) = lv')
    (kk : ∀ ls' : Array Slot, lv_has ls' nL lv' → W p l e R s m args below meth c H locs cells slots Q (F0 m (pc + 3) ls' rest)) : W p l e R s m args below meth c H locs cells slots Q (F0 m pc ls rest) :=
  lv_iinc (v := nI (x + 1)) hx hb hdg h hk (nI_1 x) hn hl kk
theorem wi_dec (hx : p.tables.exec = Jvm.exec) (hb : c.code = cc) {i nL k x : Nat} {lv lv' : List (Nat × Value)} (hdg : decode cc pc = .ok (.iinc i (-1), 3)) (h : lv_has ls nL lv) (hk : lv[k]? = some (i, .int (nI (x + 1)))) (hn : i < nL) (hl : (i, Value.int (nI x)) :: lv.filter (fun q => !(q.1 == i) && !(q.1 + 1 == i && q.2.category == 2)) = lv')
    (kk : ∀ ls' : Array Slot, lv_has ls' nL lv' → W p l e R s m args below meth c H locs cells slots Q (F0 m (pc + 3) ls' rest)) : W p l e R s m args below meth c H locs cells slots Q (F0 m pc ls rest) :=
  lv_iinc (v := nI x) hx hb hdg h hk (pk_m1 x) hn hl kk
theorem wi_ald (hx : p.tables.exec = Jvm.exec) (hb : c.code = cc) (hK : va_K D cl tys s) (hP : va_P D cl ws H) (q0 t0 : Nat) {cA : ClassId} {n : Nat} {f : Nat → Nat} (ha : ws[q0]? = some (a, .inl (cA, n, .inl (wA f)))) (ht : tys[t0]? = some (cA, .int)) {i : Nat} (hi : i < n) (hn : n < 2 ^ 31) (hdg : decode cc pc = .ok (.iaload, 1))
    (kk : W p l e R s m args below meth c H locs cells slots Q (F0 m (pc + 1) ls (.int (nI (f i)) :: rest))) : W p l e R s m args below meth c H locs cells slots Q (F0 m pc ls (.int (nI i) :: .ref a :: rest)) := by
  refine va_iald hx hb hK hP q0 t0 ha ht (vp_in_nI hi hn) hdg ?_
  rw [nI_clamp (Nat.lt_trans hi hn)]
  exact kk
theorem wi_ast (hx : p.tables.exec = Jvm.exec) (hb : c.code = cc) (hK : va_K D cl tys s) (hP : va_P D cl ws H) (hD : va_D A ws) (hS : va_S A H0 H locs) (q0 t0 : Nat) {cA : ClassId} {n : Nat} {f : Nat → Nat} (ha : ws[q0]? = some (a, .inl (cA, n, .inl (wA f)))) (ht : tys[t0]? = some (cA, .int)) {i x : Nat} (hi : i < n) (hn : n < 2 ^ 31) (hdg : decode cc pc = .ok (.iastore, 1))
    (kk : ∀ (H1 : Heap) (locs1 : List Loc), va_P D cl (ws.set q0 (a, .inl (cA, n, .inl (wA (va_up f i x))))) H1 → va_D A (ws.set q0 (a, .inl (cA, n, .inl (wA (va_up f i x))))) → va_S A H0 H1 locs1 → W p l e R s m args below meth c H1 locs1 cells slots Q (F0 m (pc + 1) ls rest)) : W p l e R s m args below meth c H locs cells slots Q (F0 m pc ls (.int (nI x) :: .int (nI i) :: .ref a :: rest)) := by
  refine va_iast hx hb hK hP hD hS q0 t0 ha ht (vp_in_nI hi hn) hdg fun H1 locs1 h1 h2 h3 => ?_
  rw [wA_up (Nat.lt_trans hi hn)] at h1 h2
  exact kk H1 locs1 h1 h2 h3
/-- a new array of numbers, its kind known by the tables -/
theorem wi_newa (hx : p.tables.exec = Jvm.exec) (hb : c.code = cc) {atype : ArrayType} (harr : (Cond.arrayClass (newarray.typeOf atype)).before args s = true) {ty : FieldType} (hty : newarray.typeOf atype = ty) (hty2 : ty = .int ∨ ty = .boolean ∨ ty = .long) (hK : va_K D cl tys s) (hP : va_P D cl ws H) (hD : va_D A ws) (hS : va_S A H0 H locs) (hA : ∀ q, H0.size ≤ q → A q)
    (t0 : Nat) {cA : ClassId} (ht : tys[t0]? = some (cA, ty)) {n : Int32} {N' : Nat} {a0 : vp_A} (ha : ∀ cA : ClassId, vp_cell cA a0 = arrV cA N' (fun _ => defaultValue ty)) (hn : ¬ n < 0) (hN : n.toNatClampNeg = N') (hbytes : N' * componentBytes ty ≤ 536870912) (hcells : cells + 1 ≤ R.cells) (hslots : slots + N' ≤ R.slots) (hdg : decode cc pc = .ok (.newarray atype, 2))
    (kk : ∀ (q : Nat) (H1 : Heap), va_P D cl (ws ++ [(q, .inl (cA, a0))]) H1 → va_D A (ws ++ [(q, .inl (cA, a0))]) → va_S A H0 H1 locs →
      W p l e R s m args below meth c H1 locs (cells + 1) (slots + N') Q (F0 m (pc + 2) ls (.ref q :: rest))) : W p l e R s m args below meth c H locs cells slots Q (F0 m pc ls (.int n :: rest)) := by
  refine va_newa hx hb harr hty hK hP hD hS hA ha hn hN hbytes hcells hslots hdg fun q cA' H1 hK1 hP1 hD1 hS1 => ?_
  have h1 := (hK.2 t0 _ ht).2
  have h2 := (hK1.2 tys.length (cA', ty) (by rw [List.getElem?_append_right (Nat.le_refl _), Nat.sub_self]; rfl)).2
  have e : cA' = cA := by
    rcases hty2 with rfl | rfl | rfl
    · exact Option.some.inj (h2.symm.trans h1)
    · exact Option.some.inj (h2.symm.trans h1)
    · exact Option.some.inj (h2.symm.trans h1)
  subst e
  exact kk q H1 hP1 hD1 hS1
end WIR
/-- the cells w put at the places is; what is more comes behind -/
def ck_go : List Nat → va_W → va_W → va_W
  | [] => fun ws w => ws ++ w
  | i :: is => fun ws w => match w with
    | [] => ws
    | x :: w' => ck_go is (ws.set i x) w'
abbrev ck_set (ws : va_W) (is : List Nat) (w : va_W) : va_W := ck_go is ws w
theorem ck_get : ∀ (is : List Nat) (ws w : va_W), is.length ≤ w.length → (∀ i ∈ is, i < ws.length) → va_nd is = true → ∀ (k : Nat) (q : Nat × va_E), (ck_set ws is w)[k]? = some q → (∃ j : Nat, is[j]? = some k ∧ w[j]? = some q) ∨ (k ∉ is ∧ k < ws.length ∧ ws[k]? = some q) ∨ (∃ j : Nat, k = ws.length + j ∧ w[is.length + j]? = some q) := by
  intro is
  induction is with
  | nil =>
    intro ws w _ _ _ k q hk
    have hk : (ws ++ w)[k]? = some q := hk
    by_cases hl : k < ws.length
    · rw [List.getElem?_append_left hl] at hk
      exact Or.inr (Or.inl ⟨by simp, hl, hk⟩)
    · rw [List.getElem?_append_right (by omega)] at hk
      exact Or.inr (Or.inr ⟨k - ws.length, by omega, by simpa using hk⟩)
  | cons i is ih =>
    intro ws w hlen hlt hnd k q hk
    cases w with
    | nil => simp at hlen
    | cons x w =>
      have hk : (ck_set (ws.set i x) is w)[k]? = some q := hk
      simp only [va_nd, Bool.and_eq_true, decide_eq_true_eq] at hnd
      have hi := hlt i List.mem_cons_self
      rcases ih (ws.set i x) w (by simpa using hlen) (fun j hj => by rw [List.length_set]; exact hlt j (List.mem_cons_of_mem _ hj)) hnd.2 k q hk with ⟨j, h1, h2⟩ | ⟨h1, h2, h3⟩ | ⟨j, h1, h2⟩
      · exact Or.inl ⟨j + 1, by simpa using h1, by simpa using h2⟩
      · rw [List.length_set] at h2
        by_cases hki : k = i
        · subst hki
          rw [List.getElem?_set_self hi] at h3
          exact Or.inl ⟨0, rfl, h3⟩
        · rw [List.getElem?_set_ne (Ne.symm hki)] at h3
          exact Or.inr (Or.inl ⟨by simp [hki, h1], h2, h3⟩)
      · rw [List.length_set] at h1
        refine Or.inr (Or.inr ⟨j, h1, ?_⟩)
        rw [List.length_cons, Nat.add_right_comm, List.getElem?_cons_succ]
        exact h2
/-- behind a call: the callee's cells at their places, the others as they were -/
theorem ck_join {A0 : Nat → Prop} {D : va_G} {cl : List vw_C} {ws wc w1 : va_W} {H H1 : Heap} (hP : va_P D cl ws H) (hD : va_D A0 ws) (is : List Nat) (hC : is.map (fun i => ws[i]?) = wc.map some) (hn : va_nd is = true) (hl : is.length ≤ w1.length)
    (hk : ∀ q : Nat, q < H.size → ¬ va_A wc H.size q → H1[q]? = H[q]?) (hF : ∀ q, va_A wc H.size q → A0 q) (hP1 : va_P D cl w1 H1) (hD1 : va_D (va_A wc H.size) w1) : va_P D cl (ck_set ws is w1) H1 ∧ va_D A0 (ck_set ws is w1) := by
  have at' : ∀ (k : Nat) (q : Nat × va_E), wc[k]? = some q → ∃ i, is[k]? = some i ∧ ws[i]? = some q := by
    intro k q hq
    have h1 : (is.map (fun i => ws[i]?))[k]? = some (some q) := by rw [hC, List.getElem?_map, hq]; rfl
    rw [List.getElem?_map] at h1
    cases hi : is[k]? with
    | none => rw [hi] at h1; cases h1
    | some i => rw [hi] at h1; exact ⟨i, rfl, Option.some.inj h1⟩
  have hlt : ∀ i ∈ is, i < ws.length := by
    intro i hi
    obtain ⟨j, hj⟩ := List.getElem?_of_mem hi
    have h1 : (is.map (fun i => ws[i]?))[j]? = some (ws[i]?) := by rw [List.getElem?_map, hj]; rfl
    rw [hC, List.getElem?_map] at h1
    cases hw : wc[j]? with
    | none => rw [hw] at h1; cases h1
    | some q =>
      rw [hw] at h1
      have h2 : some q = ws[i]? := Option.some.inj h1
      exact (List.getElem?_eq_some_iff.mp h2.symm).1
  have apart : ∀ (k : Nat) (q : Nat × va_E), k ∉ is → ws[k]? = some q → q.1 < H.size ∧ ¬ va_A wc H.size q.1 := by
    intro k q hkn hq
    have hl := (hP k q hq).lt
    refine ⟨hl, fun h => ?_⟩
    rcases h with ⟨k2, e, h⟩ | h
    · obtain ⟨j, h3, h4⟩ := at' k2 (q.1, e) h
      have hij := hD.1 k j q (q.1, e) hq h4 rfl
      subst hij
      exact hkn (List.mem_of_getElem? h3)
    · omega
  have hg := ck_get is ws w1 hl hlt hn
  refine ⟨fun k q hq => ?_, fun i j x y hi hj hxy => ?_, fun k q hq => ?_⟩
  · rcases hg k q hq with ⟨j, h1, h2⟩ | ⟨h1, h2, h3⟩ | ⟨j, h1, h2⟩
    · exact hP1 j q h2
    · obtain ⟨g1, g2⟩ := apart k q h1 h3
      exact (hP k q h3).kept (hk q.1 g1 g2)
    · exact hP1 _ q h2
  · rcases hg i x hi with ⟨a, a1, a2⟩ | ⟨a1, a2, a3⟩ | ⟨a, a1, a2⟩ <;> rcases hg j y hj with ⟨b, b1, b2⟩ | ⟨b1, b2, b3⟩ | ⟨b, b1, b2⟩
    · have := hD1.1 a b x y a2 b2 hxy
      subst this
      exact Option.some.inj (a1.symm.trans b1)
    · exact absurd (by rw [← hxy]; exact hD1.2 a x a2) (apart j y b1 b3).2
    · have h9 := hD1.1 a _ x y a2 b2 hxy
      have h8 := (List.getElem?_eq_some_iff.mp a1).1
      omega
    · exact absurd (by rw [hxy]; exact hD1.2 b y b2) (apart i x a1 a3).2
    · exact hD.1 i j x y a3 b3 hxy
    · exact absurd (by rw [hxy]; exact hD1.2 _ y b2) (apart i x a1 a3).2
    · have h9 := hD1.1 _ b x y a2 b2 hxy
      have h8 := (List.getElem?_eq_some_iff.mp b1).1
      omega
    · exact absurd (by rw [← hxy]; exact hD1.2 _ x a2) (apart j y b1 b3).2
    · have h9 := hD1.1 _ _ x y a2 b2 hxy
      omega
  · rcases hg k q hq with ⟨j, h1, h2⟩ | ⟨h1, h2, h3⟩ | ⟨j, h1, h2⟩
    · exact hF _ (hD1.2 j q h2)
    · exact hD.2 k q h3
    · exact hF _ (hD1.2 _ q h2)
end
section
/-! The form of the contracts; a method's start and end; behind a call. -/
abbrev kP (D : va_G) (cl : List vw_C) (tys : List (ClassId × FieldType)) (av : List Value) (wc : va_W) (sz : Nat) : Array Value → State → Prop := va_Pc av (fun U => U.heap.size = sz ∧ va_P D cl wc U.heap ∧ va_K D cl tys U ∧ va_D (fun _ => True) wc)
abbrev kB (D : va_G) (cl : List vw_C) (tys : List (ClassId × FieldType)) (wc : va_W) (sz : Nat) : va_W → State → Prop := fun w t => wc.length ≤ w.length ∧ va_P D cl w t.heap ∧ va_K D cl tys t ∧ va_D (va_A wc sz) w
def kI (l : Launch) (D : va_G) (cl : List vw_C) (tys : List (ClassId × FieldType)) (y : MethodName) (ws : List Cond) (rm : Room) (av : List Value) (wc : va_W) (post : Int32 → va_W → Prop) : Prop := ∀ sz : Nat, Met l y ws rm (kP D cl tys av wc sz) (va_Qi post (kB D cl tys wc sz) (va_A wc sz)) rm.cells rm.slots (va_A wc sz)
def kL (l : Launch) (D : va_G) (cl : List vw_C) (tys : List (ClassId × FieldType)) (y : MethodName) (ws : List Cond) (rm : Room) (av : List Value) (wc : va_W) (post : Int64 → va_W → Prop) : Prop := ∀ sz : Nat, Met l y ws rm (kP D cl tys av wc sz) (va_Ql post (kB D cl tys wc sz) (va_A wc sz)) rm.cells rm.slots (va_A wc sz)
def kV (l : Launch) (D : va_G) (cl : List vw_C) (tys : List (ClassId × FieldType)) (y : MethodName) (ws : List Cond) (rm : Room) (av : List Value) (wc : va_W) (post : va_W → Prop) : Prop := ∀ sz : Nat, Met l y ws rm (kP D cl tys av wc sz) (va_Qv post (kB D cl tys wc sz) (va_A wc sz)) rm.cells rm.slots (va_A wc sz)
def kR (l : Launch) (D : va_G) (cl : List vw_C) (tys : List (ClassId × FieldType)) (y : MethodName) (ws : List Cond) (rm : Room) (av : List Value) (wc : va_W) (post : Nat → va_W → Prop) : Prop := ∀ sz : Nat, Met l y ws rm (kP D cl tys av wc sz) (va_Qr (fun _ : va_W => True) (fun w a t => post a w ∧ kB D cl tys wc sz w t) (va_A wc sz)) rm.cells rm.slots (va_A wc sz)
theorem kP_blind {D : va_G} {cl : List vw_C} {tys : List (ClassId × FieldType)} {av : List Value} {wc : va_W} {sz : Nat} : FrameBlind (kP D cl tys av wc sz) := fun a U g mk q => by
  obtain ⟨q0, q1, qP, qK, qD⟩ := q
  exact ⟨q0, q1, qP, va_K.moved (u := U) (U := U.calling g mk a) (Vm.Alike.refl U.vm) qK, qD⟩
theorem k_preS {s : State} {H : Heap} {D : va_G} {cl : List vw_C} {tys : List (ClassId × FieldType)} {A : Nat → Prop} {ws wc : va_W} {As : List Value} (hK : va_K D cl tys s) (hP : va_P D cl ws H) (hD : va_D A ws) (is : List Nat) (hC : is.map (fun i => ws[i]?) = wc.map some) (hn : va_nd is = true) : PreS s H (kP D cl tys As wc H.size) As := by
  have hs : is.filterMap (fun i => ws[i]?) = wc := by
    have h1 : (is.map (fun i => ws[i]?)).filterMap id = (wc.map some).filterMap id := by rw [hC]
    simpa [List.filterMap_map, Function.comp_def] using h1
  exact ⟨kP_blind, fun U hU hW => ⟨rfl, by rw [hU], by rw [hU]; exact hP.sub is hs, va_K.moved hW.alike hK, (hD.sub is hn hC).weaken (fun _ _ _ _ => trivial)⟩⟩
theorem k_preV {s : State} {H : Heap} {D : va_G} {cl : List vw_C} {tys : List (ClassId × FieldType)} {A : Nat → Prop} {ws wc : va_W} {As : List Value} {b : Nat} (hK : va_K D cl tys s) (hP : va_P D cl ws H) (hD : va_D A ws) (is : List Nat) (hC : is.map (fun i => ws[i]?) = wc.map some) (hn : va_nd is = true) (q0 : Nat) {ci : Nat} {fs : List Value} {C : String} {T : u_T} {N : Nat} (he : ws[q0]? = some (b, .inr (ci, fs))) (hc : cl[ci]? = some (C, T, N)) : PreV s H C b (kP D cl tys (.ref b :: As) wc H.size) As := by
  obtain ⟨h1, h2⟩ := k_preS (As := .ref b :: As) hK hP hD is hC hn
  exact ⟨h1, va_recv hK hP hc he, h2⟩
theorem k_of {l : Launch} {D : va_G} {cl : List vw_C} {tys : List (ClassId × FieldType)} {y : MethodName} {ws ws' : List Cond} {rm : Room} {av : List Value} {wc : va_W} {sz mc ms : Nat} {Qc : Array Value → State → Outcome → State → Prop} {cc : ByteArray} {maxL : Nat} {ret : Option FieldType}
    (hy : plainName y.cls = true) (hw : ws = Cond.code y cc maxL ret :: ws') (hlen : (lg_sl av).length ≤ maxL)
    (body : ∀ (p : Program) (e : Env) (s : State) (m : MethodId) (below : List Frame) (meth : Method) (c : Code) (ls : Array Slot) (A : Nat → Prop), p.tables.exec = Jvm.exec → c.code = cc → c.maxLocals = maxL → meth.sig.returnType = ret → (∀ w ∈ ws, w.before av.toArray s = true) → s.vm.findClass y.cls = some m.cls → meth.locks = false → meth.name = y.name → s.heap.size = sz → A = va_A wc sz →
      va_P D cl wc s.heap → va_K D cl tys s → va_D A wc → va_S A s.heap s.heap [] → (∀ q, s.heap.size ≤ q → A q) → lv_has ls maxL (lv_args 0 av) → W p l e rm s m av.toArray below meth c s.heap [] 0 0 (MQ below Qc av.toArray s mc ms A) (F0 m 0 ls [])) :
    Met l y ws rm (kP D cl tys av wc sz) Qc mc ms (va_A wc sz) := by
  refine Met.ofW (cc := cc) (maxL := maxL) (ret := ret) hy hw ?_
  intro p e s m args below meth c s₁ B hml hv
  obtain ⟨rfl, hsz, hP, hK, hD0⟩ := hv
  have hl := lv_entry av (n := maxL) hlen
  rw [lg_entry_eq]
  generalize (lg_sl av ++ List.replicate (maxL - (lg_sl av).length) Slot.unset).toArray = ls at hl ⊢
  exact body p e s m below meth c ls (va_A wc sz) B.exec B.bytes hml B.returns (atoms_spec (ws := ws) B.pre) (findClass_of_methodNamed B.named) B.notSynchronized (name_of_methodNamed B.named B.method).1 hsz rfl hP hK (hD0.self (sz := sz)) va_S.rf (fun q h => Or.inr (by rw [← hsz]; exact h)) hl
section KRET
variable {p : Program} {l : Launch} {e : Env} {R : Room} {s : State} {m : MethodId} {args : Array Value} {below : List Frame} {meth : Method} {c : Code} {H : Heap} {locs : List Loc} {cells slots : Nat} {Q : State → Prop}
variable {cc : ByteArray} {pc : Nat} {ls : Array Slot} {rest : List Value} {D : va_G} {cl : List vw_C} {A : Nat → Prop} {tys : List (ClassId × FieldType)} {w wc : va_W} {sz mc ms : Nat}
theorem k_reti {post : Int32 → va_W → Prop} {v : Int32} (hx : p.tables.exec = Jvm.exec) (hb : c.code = cc) (hr : meth.sig.returnType = some .int) (hlk : meth.locks = false) (hAe : A = va_A wc sz) (hK : va_K D cl tys s) (hP : va_P D cl w H) (hD : va_D A w) (hS : va_S A s.heap H locs) (hl : wc.length ≤ w.length) (hc : cells ≤ mc) (hs : slots ≤ ms) (hpost : post v w) (hdg : decode cc pc = .ok (.ireturn, 1)) :
    W p l e R s m args below meth c H locs cells slots (MQ below (va_Qi post (kB D cl tys wc sz) (va_A wc sz)) args s mc ms A) (F0 m pc ls [.int v]) := by
  subst hAe
  refine W.widen hc hs ?_
  exact W.iret hx hb hr (fun t ht hW => ⟨⟨v, w, rfl, hpost, hl, by rw [ht]; exact hP, va_K.moved hW.alike hK, hD⟩, hS.F ht⟩) hS.2.2 hdg
theorem k_retz {post : Int32 → va_W → Prop} {v : Int32} (hx : p.tables.exec = Jvm.exec) (hb : c.code = cc) (hr : meth.sig.returnType = some .boolean) (hlk : meth.locks = false) (hAe : A = va_A wc sz) (hK : va_K D cl tys s) (hP : va_P D cl w H) (hD : va_D A w) (hS : va_S A s.heap H locs) (hl : wc.length ≤ w.length) (hc : cells ≤ mc) (hs : slots ≤ ms) (hn : narrow .boolean (.int v) = .int v) (hpost : post v w) (hdg : decode cc pc = .ok (.ireturn, 1)) :
    W p l e R s m args below meth c H locs cells slots (MQ below (va_Qi post (kB D cl tys wc sz) (va_A wc sz)) args s mc ms A) (F0 m pc ls [.int v]) := by
  subst hAe
  refine W.widen hc hs ?_
  exact W.zret hx hb hr hn (fun t ht hW => ⟨⟨v, w, rfl, hpost, hl, by rw [ht]; exact hP, va_K.moved hW.alike hK, hD⟩, hS.F ht⟩) hS.2.2 hdg
theorem k_retl {post : Int64 → va_W → Prop} {v : Int64} (hx : p.tables.exec = Jvm.exec) (hb : c.code = cc) (hr : meth.sig.returnType = some .long) (hlk : meth.locks = false) (hAe : A = va_A wc sz) (hK : va_K D cl tys s) (hP : va_P D cl w H) (hD : va_D A w) (hS : va_S A s.heap H locs) (hl : wc.length ≤ w.length) (hc : cells ≤ mc) (hs : slots ≤ ms) (hpost : post v w) (hdg : decode cc pc = .ok (.lreturn, 1)) :
    W p l e R s m args below meth c H locs cells slots (MQ below (va_Ql post (kB D cl tys wc sz) (va_A wc sz)) args s mc ms A) (F0 m pc ls [.long v]) := by
  subst hAe
  refine W.widen hc hs ?_
  exact W.lret hx hb hr (fun t ht hW => ⟨⟨v, w, rfl, hpost, hl, by rw [ht]; exact hP, va_K.moved hW.alike hK, hD⟩, hS.F ht⟩) hS.2.2 hdg
theorem k_retv {post : va_W → Prop} (hx : p.tables.exec = Jvm.exec) (hb : c.code = cc) (hr : meth.sig.returnType = none) (hlk : meth.locks = false) (hAe : A = va_A wc sz) (hK : va_K D cl tys s) (hP : va_P D cl w H) (hD : va_D A w) (hS : va_S A s.heap H locs) (hl : wc.length ≤ w.length) (hc : cells ≤ mc) (hs : slots ≤ ms) (hpost : post w) (hdg : decode cc pc = .ok (.return_, 1)) :
    W p l e R s m args below meth c H locs cells slots (MQ below (va_Qv post (kB D cl tys wc sz) (va_A wc sz)) args s mc ms A) (F0 m pc ls []) := by
  subst hAe
  refine W.widen hc hs ?_
  exact W.vret hx hb hr (fun t ht hW => ⟨⟨w, rfl, hpost, hl, by rw [ht]; exact hP, va_K.moved hW.alike hK, hD⟩, hS.F ht⟩) hS.2.2 hdg
theorem k_retr {post : Nat → va_W → Prop} {a : Nat} {rt : FieldType} (hx : p.tables.exec = Jvm.exec) (hb : c.code = cc) (hr : meth.sig.returnType = some rt) (hrt : (∃ n, rt = .object n) ∨ ∃ t, rt = .array t) (hlk : meth.locks = false) (hAe : A = va_A wc sz) (hK : va_K D cl tys s) (hP : va_P D cl w H) (hD : va_D A w) (hS : va_S A s.heap H locs) (hl : wc.length ≤ w.length) (hc : cells ≤ mc) (hs : slots ≤ ms) (hpost : post a w) (hdg : decode cc pc = .ok (.areturn, 1)) :
    W p l e R s m args below meth c H locs cells slots (MQ below (va_Qr (fun _ : va_W => True) (fun w a t => post a w ∧ kB D cl tys wc sz w t) (va_A wc sz)) args s mc ms A) (F0 m pc ls [.ref a]) := by
  subst hAe
  refine W.widen hc hs ?_
  exact W.aret hx hb hr hrt (Or.inr ⟨a, rfl⟩) (fun t ht hW => ⟨⟨w, a, rfl, trivial, hpost, hl, by rw [ht]; exact hP, va_K.moved hW.alike hK, hD⟩, hS.F ht⟩) hS.2.2 hdg
end KRET
section KCALL
variable {p : Program} {l : Launch} {e : Env} {R : Room} {s : State} {m : MethodId} {args : Array Value} {below : List Frame} {meth : Method} {c : Code} {H : Heap} {locs : List Loc} {cells slots : Nat} {Q : State → Prop}
variable {pc : Nat} {ls : Array Slot} {rest st0 : List Value} {D : va_G} {cl : List vw_C} {A : Nat → Prop} {tys : List (ClassId × FieldType)} {ws wc : va_W} {H0 : Heap} {mc ms : Nat} {av : Array Value}
theorem ck_len {is : List Nat} (hC : is.map (fun i => ws[i]?) = wc.map some) : is.length = wc.length := by
  have h := congrArg List.length hC
  simpa using h
theorem ck_i {post : Int32 → va_W → Prop} (hr : va_Run p l e R s m args below meth c H locs cells slots mc ms (F0 m pc ls st0) rest (va_Qi post (kB D cl tys wc H.size) (va_A wc H.size) av) (va_A wc H.size)) (hP : va_P D cl ws H) (hD : va_D A ws) (hS : va_S A H0 H locs) (hA : ∀ q, H0.size ≤ q → A q) (is : List Nat) (hC : is.map (fun i => ws[i]?) = wc.map some) (hn : va_nd is = true)
    (kk : ∀ (r : Int32) (w1 : va_W) (H1 : Heap) (locs1 : List Loc), post r w1 → va_P D cl (ck_set ws is w1) H1 → va_D A (ck_set ws is w1) → va_S A H0 H1 locs1 → W p l e R s m args below meth c H1 locs1 (cells + mc) (slots + ms) Q (F0 m (pc + 3) ls (.int r :: rest))) : W p l e R s m args below meth c H locs cells slots Q (F0 m pc ls st0) := by
  have hF := va_free hD hS hA is hC
  refine va_calli hr hS (fun q _ h => hF q h) hF fun r u t H1 locs1 ht hvm hp hB hz hk hS1 => ?_
  obtain ⟨hl, hP1, hK1, hD1⟩ := hB
  rw [ht] at hP1
  obtain ⟨g1, g2⟩ := ck_join hP hD is hC hn (by rw [ck_len hC]; exact hl) hk hF hP1 hD1
  exact kk r u H1 locs1 hp g1 g2 hS1
theorem ck_l {post : Int64 → va_W → Prop} (hr : va_Run p l e R s m args below meth c H locs cells slots mc ms (F0 m pc ls st0) rest (va_Ql post (kB D cl tys wc H.size) (va_A wc H.size) av) (va_A wc H.size)) (hP : va_P D cl ws H) (hD : va_D A ws) (hS : va_S A H0 H locs) (hA : ∀ q, H0.size ≤ q → A q) (is : List Nat) (hC : is.map (fun i => ws[i]?) = wc.map some) (hn : va_nd is = true)
    (kk : ∀ (r : Int64) (w1 : va_W) (H1 : Heap) (locs1 : List Loc), post r w1 → va_P D cl (ck_set ws is w1) H1 → va_D A (ck_set ws is w1) → va_S A H0 H1 locs1 → W p l e R s m args below meth c H1 locs1 (cells + mc) (slots + ms) Q (F0 m (pc + 3) ls (.long r :: rest))) : W p l e R s m args below meth c H locs cells slots Q (F0 m pc ls st0) := by
  have hF := va_free hD hS hA is hC
  refine va_calll hr hS (fun q _ h => hF q h) hF fun r u t H1 locs1 ht hvm hp hB hz hk hS1 => ?_
  obtain ⟨hl, hP1, hK1, hD1⟩ := hB
  rw [ht] at hP1
  obtain ⟨g1, g2⟩ := ck_join hP hD is hC hn (by rw [ck_len hC]; exact hl) hk hF hP1 hD1
  exact kk r u H1 locs1 hp g1 g2 hS1
theorem ck_v {post : va_W → Prop} (hr : va_Run p l e R s m args below meth c H locs cells slots mc ms (F0 m pc ls st0) rest (va_Qv post (kB D cl tys wc H.size) (va_A wc H.size) av) (va_A wc H.size)) (hP : va_P D cl ws H) (hD : va_D A ws) (hS : va_S A H0 H locs) (hA : ∀ q, H0.size ≤ q → A q) (is : List Nat) (hC : is.map (fun i => ws[i]?) = wc.map some) (hn : va_nd is = true)
    (kk : ∀ (w1 : va_W) (H1 : Heap) (locs1 : List Loc), post w1 → va_P D cl (ck_set ws is w1) H1 → va_D A (ck_set ws is w1) → va_S A H0 H1 locs1 → W p l e R s m args below meth c H1 locs1 (cells + mc) (slots + ms) Q (F0 m (pc + 3) ls rest)) : W p l e R s m args below meth c H locs cells slots Q (F0 m pc ls st0) := by
  have hF := va_free hD hS hA is hC
  refine va_callv hr hS (fun q _ h => hF q h) hF fun u t H1 locs1 ht hvm hp hB hz hk hS1 => ?_
  obtain ⟨hl, hP1, hK1, hD1⟩ := hB
  rw [ht] at hP1
  obtain ⟨g1, g2⟩ := ck_join hP hD is hC hn (by rw [ck_len hC]; exact hl) hk hF hP1 hD1
  exact kk u H1 locs1 hp g1 g2 hS1
theorem ck_r {post : Nat → va_W → Prop} (hr : va_Run p l e R s m args below meth c H locs cells slots mc ms (F0 m pc ls st0) rest (va_Qr (fun _ : va_W => True) (fun w a t => post a w ∧ kB D cl tys wc H.size w t) (va_A wc H.size) av) (va_A wc H.size)) (hP : va_P D cl ws H) (hD : va_D A ws) (hS : va_S A H0 H locs) (hA : ∀ q, H0.size ≤ q → A q) (is : List Nat) (hC : is.map (fun i => ws[i]?) = wc.map some) (hn : va_nd is = true)
    (kk : ∀ (a : Nat) (w1 : va_W) (H1 : Heap) (locs1 : List Loc), post a w1 → va_P D cl (ck_set ws is w1) H1 → va_D A (ck_set ws is w1) → va_S A H0 H1 locs1 → W p l e R s m args below meth c H1 locs1 (cells + mc) (slots + ms) Q (F0 m (pc + 3) ls (.ref a :: rest))) : W p l e R s m args below meth c H locs cells slots Q (F0 m pc ls st0) := by
  have hF := va_free hD hS hA is hC
  refine va_callr hr hS (fun q _ h => hF q h) hF fun u a t H1 locs1 ht hvm _ hB hz hk hS1 => ?_
  obtain ⟨hp, hl, hP1, hK1, hD1⟩ := hB
  rw [ht] at hP1
  obtain ⟨g1, g2⟩ := ck_join hP hD is hC hn (by rw [ck_len hC]; exact hl) hk hF hP1 hD1
  exact kk a u H1 locs1 hp g1 g2 hS1
end KCALL
end
