/-! Counting; the worklist of bad states; the plain search for them. -/
def pw_ct (p : Nat → Bool) : Nat → Nat
  | 0 => 0
  | k + 1 => pw_ct p k + (if p k = true then 1 else 0)
theorem pw_ct_le (p : Nat → Bool) : ∀ n, pw_ct p n ≤ n := by
  intro n
  induction n with
  | zero => exact Nat.le_refl 0
  | succ n ih =>
    show pw_ct p n + (if p n = true then 1 else 0) ≤ n + 1
    split <;> omega
theorem pw_ct_congr {p q : Nat → Bool} {n : Nat} (h : ∀ k, k < n → p k = q k) : pw_ct p n = pw_ct q n := by
  induction n with
  | zero => rfl
  | succ n ih =>
    show pw_ct p n + _ = pw_ct q n + _
    rw [ih fun k hk => h k (Nat.lt_succ_of_lt hk), h n (Nat.lt_succ_self n)]
theorem pw_ct_pos {p : Nat → Bool} {n : Nat} : 0 < pw_ct p n ↔ ∃ k, k < n ∧ p k = true := by
  induction n with
  | zero => exact ⟨fun h => absurd h (Nat.lt_irrefl 0), fun ⟨k, hk, _⟩ => absurd hk (Nat.not_lt_zero k)⟩
  | succ n ih =>
    show 0 < pw_ct p n + (if p n = true then 1 else 0) ↔ _
    constructor
    · intro h
      by_cases hp : p n = true
      · exact ⟨n, Nat.lt_succ_self n, hp⟩
      · rw [if_neg hp] at h
        obtain ⟨k, hk, e⟩ := ih.mp h
        exact ⟨k, Nat.lt_succ_of_lt hk, e⟩
    · intro ⟨k, hk, e⟩
      by_cases hkn : k = n
      · subst hkn; rw [if_pos e]; omega
      · have := ih.mpr ⟨k, by omega, e⟩
        omega
/-- one falls away -/
theorem pw_ct_less {p q : Nat → Bool} {n t : Nat} (ht : t < n) (hp : p t = true) (hq : q t = false) (h : ∀ k, k < n → k ≠ t → q k = p k) : pw_ct p n = pw_ct q n + 1 := by
  induction n with
  | zero => exact absurd ht (Nat.not_lt_zero t)
  | succ n ih =>
    show pw_ct p n + (if p n = true then 1 else 0) = pw_ct q n + (if q n = true then 1 else 0) + 1
    by_cases hn : t = n
    · subst hn
      rw [hp, hq, pw_ct_congr (p := p) (q := q) fun k hk => (h k (Nat.lt_succ_of_lt hk) (by omega)).symm]
      simp
    · rw [ih (by omega) fun k hk hkt => h k (Nat.lt_succ_of_lt hk) hkt, h n (Nat.lt_succ_self n) (fun e => hn e.symm)]
      omega
/-- no more different numbers below N than N -/
theorem pw_few {U : Nat → Nat} : ∀ (N n : Nat), (∀ i, i < n → U i < N) → (∀ i j, i < n → j < n → U i = U j → i = j) → n ≤ N := by
  intro N
  induction N generalizing U with
  | zero =>
    intro n h _
    cases n with
    | zero => exact Nat.le_refl 0
    | succ n => exact absurd (h 0 (Nat.succ_pos n)) (Nat.not_lt_zero _)
  | succ N ih =>
    intro n h hi
    cases n with
    | zero => exact Nat.zero_le _
    | succ n =>
      -- swap the place of the greatest with the last one
      by_cases hx : ∃ i, i < n + 1 ∧ U i = N
      · obtain ⟨i, hin, e⟩ := hx
        have hV : n ≤ N := by
          refine ih (U := fun j => if j = i then U n else U j) n (fun j hj => ?_) (fun a b ha hb hab => ?_)
          · by_cases hji : j = i
            · simp only [if_pos hji]
              have h1 := h n (Nat.lt_succ_self n)
              have h2 : U n ≠ N := fun e2 => by have := hi n i (Nat.lt_succ_self n) hin (e2.trans e.symm); omega
              omega
            · simp only [if_neg hji]
              have h1 := h j (by omega)
              have h2 : U j ≠ N := fun e2 => hji (hi j i (by omega) hin (e2.trans e.symm))
              omega
          · by_cases h1 : a = i <;> by_cases h2 : b = i
            · omega
            · simp only [if_pos h1, if_neg h2] at hab
              have := hi n b (Nat.lt_succ_self n) (by omega) hab
              omega
            · simp only [if_neg h1, if_pos h2] at hab
              have := hi a n (by omega) (Nat.lt_succ_self n) hab
              omega
            · simp only [if_neg h1, if_neg h2] at hab
              exact hi a b (by omega) (by omega) hab
        omega
      · have hV : n + 1 ≤ N := by
          refine ih (U := U) (n + 1) (fun j hj => ?_) hi
          have h1 := h j hj
          have h2 : U j ≠ N := fun e2 => hx ⟨j, hj, e2⟩
          omega
        omega
/-- if there are as many as N, all are there -/
theorem pw_all {U : Nat → Nat} {N : Nat} (h : ∀ i, i < N → U i < N) (hi : ∀ i j, i < N → j < N → U i = U j → i = j) : ∀ s, s < N → ∃ i, i < N ∧ U i = s := by
  intro s hs
  by_cases hx : ∃ i, i < N ∧ U i = s
  · exact hx
  · have := pw_few (U := fun i => if i = N then s else U i) N (N + 1) (fun i hi' => by
      by_cases e : i = N
      · simp only [if_pos e]; exact hs
      · simp only [if_neg e]; exact h i (by omega)) (fun a b ha hb hab => by
      by_cases h1 : a = N <;> by_cases h2 : b = N
      · omega
      · simp only [if_pos h1, if_neg h2] at hab; exact absurd ⟨b, by omega, hab.symm⟩ hx
      · simp only [if_neg h1, if_pos h2] at hab; exact absurd ⟨a, by omega, hab⟩ hx
      · simp only [if_neg h1, if_neg h2] at hab; exact hi a b (by omega) (by omega) hab)
    omega
/-- as a yes or no -/
noncomputable def pw_okb (K : Nat) (sp : Nat → Nat) (s t : Nat) : Bool := @decide (pw_ok K sp s t) (Classical.propDecidable _)
theorem pw_okb_iff {K : Nat} {sp : Nat → Nat} {s t : Nat} : pw_okb K sp s t = true ↔ pw_ok K sp s t := by
  unfold pw_okb
  exact @decide_eq_true_iff _ (Classical.propDecidable _)
/-- how many have no slot left -/
def pw_ur (sp : Nat → Nat) (s : Nat) (n : Nat) : Nat := pw_ct (fun k => decide (pw_dg sp s k = 0)) n
/-- the ways on, by how many have no slot left -/
theorem pw_ways {K : Nat} {sp : Nat → Nat} {s : Nat} : pw_ct (pw_okb K sp s) K = if pw_ur sp s K = 0 then K else if pw_ur sp s K = 1 then 1 else 0 := by
  have hz : ∀ k, k < K → pw_dg sp s k = 0 → 0 < pw_ur sp s K := fun k hk e => pw_ct_pos.mpr ⟨k, hk, decide_eq_true e⟩
  by_cases h0 : pw_ur sp s K = 0
  · rw [if_pos h0]
    have hall : ∀ k, k < K → pw_dg sp s k ≠ 0 := fun k hk e => by have := hz k hk e; omega
    have h1 : pw_ct (pw_okb K sp s) K = pw_ct (fun _ => true) K := pw_ct_congr fun t _ => pw_okb_iff.mpr fun k hk _ => hall k hk
    have h2 : ∀ n, pw_ct (fun _ => true) n = n := by
      intro n
      induction n with
      | zero => rfl
      | succ n ih => show pw_ct _ n + (if true = true then 1 else 0) = n + 1; rw [ih]; rfl
    rw [h1, h2]
  · rw [if_neg h0]
    obtain ⟨a, ha, ea⟩ := pw_ct_pos.mp (Nat.pos_of_ne_zero h0)
    have ea' : pw_dg sp s a = 0 := of_decide_eq_true ea
    have hless := pw_ct_less (p := fun k => decide (pw_dg sp s k = 0)) (q := fun k => decide (pw_dg sp s k = 0 ∧ k ≠ a)) ha ea (by simp) (fun k _ hk => by simp [hk])
    have hless : pw_ur sp s K = pw_ct (fun k => decide (pw_dg sp s k = 0 ∧ k ≠ a)) K + 1 := hless
    by_cases h1 : pw_ur sp s K = 1
    · rw [if_pos h1]
      have hno : ∀ k, k < K → k ≠ a → pw_dg sp s k ≠ 0 := fun k hk hka e => by
        have := pw_ct_pos (p := fun k => decide (pw_dg sp s k = 0 ∧ k ≠ a)) (n := K) |>.mpr ⟨k, hk, (decide_eq_true (⟨e, hka⟩ : pw_dg sp s k = 0 ∧ k ≠ a))⟩
        omega
      have h2 := pw_ct_less (p := pw_okb K sp s) (q := fun _ => false) (n := K) ha (pw_okb_iff.mpr hno) rfl (fun t ht hta => by
        cases hb : pw_okb K sp s t with
        | false => rfl
        | true => exact absurd ea' (pw_okb_iff.mp hb a ha (fun e => hta e.symm)))
      have h3 : ∀ n, pw_ct (fun _ => false) n = 0 := by
        intro n
        induction n with
        | zero => rfl
        | succ n ih => show pw_ct _ n + (if false = true then 1 else 0) = 0; rw [ih]; rfl
      rw [h2, h3]
    · rw [if_neg h1]
      have h2 : 0 < pw_ct (fun k => decide (pw_dg sp s k = 0 ∧ k ≠ a)) K := by omega
      obtain ⟨b, hb, eb⟩ := pw_ct_pos.mp h2
      have eb' := of_decide_eq_true eb
      by_cases h3 : 0 < pw_ct (pw_okb K sp s) K
      · obtain ⟨t, ht, et⟩ := pw_ct_pos.mp h3
        have ho := pw_okb_iff.mp et
        by_cases hta : a = t
        · subst hta
          exact absurd eb'.1 (ho b hb eb'.2)
        · exact absurd ea' (ho a ha hta)
      · omega
/-- the book of a worklist: wy the ways on, U the list of uc, the first kp are done; D the ways struck -/
def pw_J (K : Nat) (sp wy U : Nat → Nat) (uc kp : Nat) (D : Nat → Nat → Bool) : Prop :=
  (∀ s, s < pw_w sp K → wy s = pw_ct (fun t => pw_okb K sp s t && !D s t) K) ∧
  (∀ s t, D s t = true → ¬ pw_safe K sp (pw_nx K sp s t)) ∧
  (∀ s, s < pw_w sp K → ((∃ i, i < uc ∧ U i = s) ↔ wy s = 0)) ∧
  (∀ i, i < uc → U i < pw_w sp K) ∧ (∀ i j, i < uc → j < uc → U i = U j → i = j) ∧ kp ≤ uc ∧
  (∀ i s t, i < kp → s < pw_w sp K → t < K → pw_ok K sp s t → pw_nx K sp s t = U i → D s t = true)
theorem pw_J_few {K : Nat} {sp wy U : Nat → Nat} {uc kp : Nat} {D : Nat → Nat → Bool} (h : pw_J K sp wy U uc kp D) : uc ≤ pw_w sp K := pw_few _ _ h.2.2.2.1 h.2.2.2.2.1
theorem pw_J_bad {K : Nat} {sp wy U : Nat → Nat} {uc kp : Nat} {D : Nat → Nat → Bool} (h : pw_J K sp wy U uc kp D) {s : Nat} (hs : s < pw_w sp K) (h0 : wy s = 0) : ¬ pw_safe K sp s := by
  intro hsafe
  obtain ⟨-, t, ht, hok, hn⟩ := pw_safe_step hsafe
  have h1 := h.1 s hs
  have h2 : ¬ 0 < pw_ct (fun t => pw_okb K sp s t && !D s t) K := by omega
  refine h2 (pw_ct_pos.mpr ⟨t, ht, ?_⟩)
  cases hD : D s t with
  | false => simp [pw_okb_iff.mpr hok]
  | true => exact absurd hn (h.2.1 s t hD)
theorem pw_J_end {K : Nat} {sp wy U : Nat → Nat} {uc : Nat} {D : Nat → Nat → Bool} (hsp : ∀ k, k < K → 0 < sp k) (h : pw_J K sp wy U uc uc D) : ∀ s, s < pw_w sp K → (0 < wy s ↔ pw_safe K sp s) := by
  intro s hs
  constructor
  · intro h0
    refine ⟨fun s => s < pw_w sp K ∧ 0 < wy s, ⟨hs, h0⟩, ?_⟩
    intro s ⟨hs, h0⟩
    refine ⟨hs, ?_⟩
    rw [h.1 s hs] at h0
    obtain ⟨t, ht, e⟩ := pw_ct_pos.mp h0
    simp only [Bool.and_eq_true, Bool.not_eq_true'] at e
    have hok := pw_okb_iff.mp e.1
    refine ⟨t, ht, hok, pw_nx_lt hsp s t, ?_⟩
    refine Nat.pos_of_ne_zero fun hw => ?_
    obtain ⟨i, hi, ei⟩ := (h.2.2.1 _ (pw_nx_lt hsp s t)).mpr hw
    have := h.2.2.2.2.2.2 i s t hi hs ht hok ei.symm
    rw [e.2] at this
    cases this
  · intro hsafe
    refine Nat.pos_of_ne_zero fun hw => pw_J_bad h hs hw hsafe
/-- a way is struck -/
theorem pw_J_strike {K : Nat} {sp wy U : Nat → Nat} {uc kp : Nat} {D : Nat → Nat → Bool} (hsp : ∀ k, k < K → 0 < sp k) (h : pw_J K sp wy U uc kp D) {s t : Nat} (hs : s < pw_w sp K) (ht : t < K) (hok : pw_ok K sp s t) (hD : D s t = false) (hkp : kp < uc) (hn : pw_nx K sp s t = U kp) :
    0 < wy s ∧ pw_J K sp (fun j => if j = s then wy s - 1 else wy j) (if wy s - 1 = 0 then (fun j => if j = uc then s else U j) else U) (if wy s - 1 = 0 then uc + 1 else uc) kp (fun a b => D a b || (decide (a = s) && decide (b = t))) := by
  obtain ⟨h1, h2, h3, h4, h5, h6, h7⟩ := id h
  have hwy : wy s = pw_ct (fun b => pw_okb K sp s b && !(D s b || (decide (s = s) && decide (b = t)))) K + 1 := by
    rw [h1 s hs]
    refine pw_ct_less ht ?_ ?_ ?_
    · simp [pw_okb_iff.mpr hok, hD]
    · simp
    · intro k _ hk; simp [hk]
  have hpos : 0 < wy s := by omega
  have hnotin : ∀ i, i < uc → U i ≠ s := fun i hi e => by have := (h3 s hs).mp ⟨i, hi, e⟩; omega
  have hU : ∀ i, i < uc → (if wy s - 1 = 0 then (fun j => if j = uc then s else U j) else U) i = U i := by
    intro i hi
    split
    · show (if i = uc then s else U i) = U i; rw [if_neg (by omega)]
    · rfl
  refine ⟨hpos, ?_, ?_, ?_, ?_, ?_, ?_, ?_⟩
  · intro j hj
    by_cases hjs : j = s
    · subst hjs
      show (if j = j then wy j - 1 else wy j) = _
      rw [if_pos rfl, hwy]
      rfl
    · simp only [if_neg hjs]
      rw [h1 j hj]
      exact pw_ct_congr fun k _ => by simp [hjs]
  · intro a b hab
    by_cases hab' : D a b = true
    · exact h2 a b hab'
    · have hab2 : a = s ∧ b = t := by simpa [hab'] using hab
      obtain ⟨rfl, rfl⟩ := hab2
      rw [hn]
      exact pw_J_bad h (h4 kp hkp) ((h3 _ (h4 kp hkp)).mp ⟨kp, hkp, rfl⟩)
  · intro j hj
    by_cases hw : wy s - 1 = 0
    · simp only [if_pos hw]
      by_cases hjs : j = s
      · subst hjs
        simp only [if_true]
        exact ⟨fun _ => hw, fun _ => ⟨uc, Nat.lt_succ_self uc, by simp⟩⟩
      · simp only [if_neg hjs]
        rw [← h3 j hj]
        constructor
        · intro ⟨i, hi, e⟩
          by_cases hiu : i = uc
          · rw [if_pos hiu] at e; exact absurd e.symm hjs
          · rw [if_neg hiu] at e; exact ⟨i, by omega, e⟩
        · intro ⟨i, hi, e⟩
          exact ⟨i, by omega, by rw [if_neg (by omega)]; exact e⟩
    · simp only [if_neg hw]
      by_cases hjs : j = s
      · subst hjs
        simp only [if_true]
        exact ⟨fun ⟨i, hi, e⟩ => absurd e (hnotin i hi), fun e => absurd e hw⟩
      · simp only [if_neg hjs]
        exact h3 j hj
  · intro i hi
    by_cases hiu : i < uc
    · rw [hU i hiu]; exact h4 i hiu
    · by_cases hw : wy s - 1 = 0
      · rw [if_pos hw] at hi ⊢
        have : i = uc := by omega
        simp only [if_pos this]
        exact hs
      · rw [if_neg hw] at hi; omega
  · intro i j hi hj hij
    by_cases hw : wy s - 1 = 0
    · rw [if_pos hw] at hi hj hij
      by_cases hiu : i = uc <;> by_cases hju : j = uc
      · omega
      · simp only [if_pos hiu, if_neg hju] at hij
        exact absurd hij.symm (hnotin j (by omega))
      · simp only [if_neg hiu, if_pos hju] at hij
        exact absurd hij (hnotin i (by omega))
      · simp only [if_neg hiu, if_neg hju] at hij
        exact h5 i j (by omega) (by omega) hij
    · rw [if_neg hw] at hi hj hij
      exact h5 i j hi hj hij
  · split <;> omega
  · intro i a b hi ha hb hok' e
    rw [hU i (by omega)] at e
    show (D a b || (decide (a = s) && decide (b = t))) = true
    rw [h7 i a b hi ha hb hok' e]
    rfl
/-- one of the list is done -/
theorem pw_J_next {K : Nat} {sp wy U : Nat → Nat} {uc kp : Nat} {D : Nat → Nat → Bool} (h : pw_J K sp wy U uc kp D) (hkp : kp < uc) (hd : ∀ s t, s < pw_w sp K → t < K → pw_ok K sp s t → pw_nx K sp s t = U kp → D s t = true) : pw_J K sp wy U uc (kp + 1) D := by
  obtain ⟨h1, h2, h3, h4, h5, h6, h7⟩ := h
  refine ⟨h1, h2, h3, h4, h5, hkp, fun i s t hi hs ht hok e => ?_⟩
  by_cases hik : i = kp
  · subst hik; exact hd s t hs ht hok e
  · exact h7 i s t (by omega) hs ht hok e
/-- from where a state comes when t is served: t has its full span, and no other one has -/
def pw_cf (K : Nat) (sp : Nat → Nat) (s t : Nat) : Prop := ∀ k, k < K → (pw_dg sp s k = sp k - 1 ↔ k = t)
/-- the digits ahead of a service of t -/
def pw_pd (sp : Nat → Nat) (s t v : Nat) : Nat → Nat := fun k => if k = t then v else pw_dg sp s k + 1
def pw_pr (K : Nat) (sp : Nat → Nat) (s t v : Nat) : Nat := pw_en sp (pw_pd sp s t v) K
theorem pw_pd_lt {K : Nat} {sp : Nat → Nat} {s t v : Nat} (hsp : ∀ k, k < K → 0 < sp k) (hc : pw_cf K sp s t) (hv : v < sp t) : ∀ k, k < K → pw_pd sp s t v k < sp k := by
  intro k hk
  unfold pw_pd
  by_cases hkt : k = t
  · subst hkt; rw [if_pos rfl]; exact hv
  · rw [if_neg hkt]
    have h1 := pw_dg_lt (sp := sp) (s := s) (hsp k hk)
    have h2 : pw_dg sp s k ≠ sp k - 1 := fun e => hkt ((hc k hk).mp e)
    omega
theorem pw_pr_lt {K : Nat} {sp : Nat → Nat} {s t v : Nat} (hsp : ∀ k, k < K → 0 < sp k) (hc : pw_cf K sp s t) (hv : v < sp t) : pw_pr K sp s t v < pw_w sp K := pw_en_lt (pw_pd_lt hsp hc hv)
theorem pw_dg_pr {K : Nat} {sp : Nat → Nat} {s t v : Nat} (hsp : ∀ k, k < K → 0 < sp k) (hc : pw_cf K sp s t) (hv : v < sp t) : ∀ k, k < K → pw_dg sp (pw_pr K sp s t v) k = pw_pd sp s t v k := pw_dg_en (pw_pd_lt hsp hc hv)
theorem pw_pr_ok {K : Nat} {sp : Nat → Nat} {s t v : Nat} (hsp : ∀ k, k < K → 0 < sp k) (hc : pw_cf K sp s t) (hv : v < sp t) : pw_ok K sp (pw_pr K sp s t v) t := by
  intro k hk hkt
  rw [pw_dg_pr hsp hc hv k hk]
  simp only [pw_pd, if_neg hkt]
  omega
theorem pw_pr_nx {K : Nat} {sp : Nat → Nat} {s t v : Nat} (hsp : ∀ k, k < K → 0 < sp k) (hc : pw_cf K sp s t) (hv : v < sp t) (ht : t < K) (hs : s < pw_w sp K) : pw_nx K sp (pw_pr K sp s t v) t = s := by
  refine pw_ext (pw_nx_lt hsp _ _) hs fun k hk => ?_
  rw [pw_dg_nx hsp _ _ k hk]
  by_cases hkt : k = t
  · subst hkt
    simp only [pw_nd, if_true]
    exact ((hc k hk).mpr rfl).symm
  · simp only [pw_nd, if_neg hkt]
    rw [pw_dg_pr hsp hc hv k hk]
    simp only [pw_pd, if_neg hkt]
    omega
/-- every way into s is one of these -/
theorem pw_way_in {K : Nat} {sp : Nat → Nat} {s t b : Nat} (hsp : ∀ k, k < K → 0 < sp k) (ht : t < K) (hb : b < pw_w sp K) (hok : pw_ok K sp b t) (hn : pw_nx K sp b t = s) : pw_cf K sp s t ∧ b = pw_pr K sp s t (pw_dg sp b t) := by
  have hd : ∀ k, k < K → pw_dg sp s k = pw_nd sp b t k := fun k hk => by rw [← hn]; exact pw_dg_nx hsp b t k hk
  have hc : pw_cf K sp s t := by
    intro k hk
    rw [hd k hk]
    by_cases hkt : k = t
    · subst hkt; simp [pw_nd]
    · simp only [pw_nd, if_neg hkt]
      have h1 := hok k hk hkt
      have h2 := pw_dg_lt (sp := sp) (s := b) (hsp k hk)
      constructor
      · intro e; omega
      · intro e; exact absurd e hkt
  have hv := pw_dg_lt (sp := sp) (s := b) (hsp t ht)
  refine ⟨hc, pw_ext hb (pw_pr_lt hsp hc hv) fun k hk => ?_⟩
  rw [pw_dg_pr hsp hc hv k hk]
  by_cases hkt : k = t
  · subst hkt; simp [pw_pd]
  · simp only [pw_pd, if_neg hkt]
    rw [hd k hk]
    simp only [pw_nd, if_neg hkt]
    have h1 := hok k hk hkt
    omega
/-- another way to count it -/
theorem pw_pr_sum {K : Nat} {sp : Nat → Nat} {s t v : Nat} (hsp : ∀ k, k < K → 0 < sp k) (ht : t < K) (hs : s < pw_w sp K) (hc : pw_cf K sp s t) : pw_pr K sp s t v + pw_w sp t * sp t = s + pw_sw sp K + v * pw_w sp t := by
  have key : ∀ n, n ≤ K → pw_en sp (pw_pd sp s t v) n + (if t < n then pw_w sp t * sp t else 0) = pw_en sp (pw_dg sp s) n + pw_sw sp n + (if t < n then v * pw_w sp t else 0) := by
    intro n
    induction n with
    | zero => intro _; simp [pw_en, pw_sw]
    | succ n ih =>
      intro hn
      have h1 := ih (by omega)
      show pw_en sp (pw_pd sp s t v) n + pw_pd sp s t v n * pw_w sp n + _ = pw_en sp (pw_dg sp s) n + pw_dg sp s n * pw_w sp n + (pw_sw sp n + pw_w sp n) + _
      by_cases hnt : n = t
      · subst hnt
        rw [if_neg (Nat.lt_irrefl n), if_neg (Nat.lt_irrefl n)] at h1
        rw [if_pos (Nat.lt_succ_self n), if_pos (Nat.lt_succ_self n)]
        have h3 : pw_pd sp s n v n = v := by simp [pw_pd]
        have h2 := hsp n ht
        have h4 : pw_dg sp s n * pw_w sp n + pw_w sp n = pw_w sp n * sp n := by
          rw [(hc n ht).mpr rfl, ← Nat.succ_mul, Nat.mul_comm]; congr 1; omega
        rw [h3]
        omega
      · have h3 : pw_pd sp s t v n = pw_dg sp s n + 1 := by simp [pw_pd, hnt]
        have h4 : (pw_dg sp s n + 1) * pw_w sp n = pw_dg sp s n * pw_w sp n + pw_w sp n := Nat.succ_mul _ _
        have h5 : (t < n + 1) = (t < n) := by apply propext; omega
        rw [h3, h4]
        simp only [h5]
        omega
  have h := key K (Nat.le_refl K)
  rw [if_pos ht, if_pos ht, pw_en_dg' hs] at h
  exact h
/-- the plain search: what is still marked -/
def pw_M (K : Nat) (sp : Nat → Nat) (sf : Nat → Bool) : Prop := ∀ s, s < pw_w sp K → pw_safe K sp s → sf s = true
/-- a first client with which a marked state comes -/
def pw_gd (K : Nat) (sp : Nat → Nat) (sf : Nat → Bool) (s : Nat) : Prop := ∃ t, t < K ∧ pw_ok K sp s t ∧ sf (pw_nx K sp s t) = true
theorem pw_M_off {K : Nat} {sp : Nat → Nat} {sf : Nat → Bool} (h : pw_M K sp sf) (hsp : ∀ k, k < K → 0 < sp k) {s : Nat} (hg : ¬ pw_gd K sp sf s) : pw_M K sp (fun j => if j = s then false else sf j) := by
  intro j hj hsafe
  by_cases hjs : j = s
  · subst hjs
    obtain ⟨-, t, ht, hok, hn⟩ := pw_safe_step hsafe
    exact absurd ⟨t, ht, hok, h _ (pw_nx_lt hsp _ _) hn⟩ hg
  · simp only [if_neg hjs]; exact h j hj hsafe
theorem pw_M_end {K : Nat} {sp : Nat → Nat} {sf : Nat → Bool} (h : pw_M K sp sf) (hsp : ∀ k, k < K → 0 < sp k) (he : ∀ s, s < pw_w sp K → sf s = true → pw_gd K sp sf s) : ∀ s, s < pw_w sp K → (sf s = true ↔ pw_safe K sp s) := by
  intro s hs
  refine ⟨fun h0 => ⟨fun s => s < pw_w sp K ∧ sf s = true, ⟨hs, h0⟩, fun s ⟨hs, h0⟩ => ?_⟩, h s hs⟩
  obtain ⟨t, ht, hok, hn⟩ := he s hs h0
  exact ⟨hs, t, ht, hok, pw_nx_lt hsp _ _, hn⟩
