/-! Rounding down to a base times a power of two; the cycle of builders 1 and 2. -/
def pw_rnd : Nat → Nat → Nat → Nat
  | 0, v, _ => v
  | f + 1, v, s => if 2 * v ≤ s then pw_rnd f (2 * v) s else v
theorem pw_rnd_pow : ∀ (f v s : Nat), ∃ j, j ≤ f ∧ pw_rnd f v s = v * 2 ^ j := by
  intro f
  induction f with
  | zero => intro v s; exact ⟨0, Nat.le_refl 0, by simp [pw_rnd]⟩
  | succ f ih =>
    intro v s
    unfold pw_rnd
    split
    · obtain ⟨j, hj, e⟩ := ih (2 * v) s
      exact ⟨j + 1, by omega, by rw [e, Nat.pow_succ]; simp only [Nat.mul_comm, Nat.mul_left_comm, Nat.mul_assoc]⟩
    · exact ⟨0, by omega, by simp⟩
theorem pw_rnd_le : ∀ (f v s : Nat), v ≤ s → pw_rnd f v s ≤ s := by
  intro f
  induction f with
  | zero => intro v s h; exact h
  | succ f ih =>
    intro v s h
    unfold pw_rnd
    split
    · exact ih _ _ (by omega)
    · exact h
theorem pw_rnd_ge : ∀ (f v s : Nat), v ≤ pw_rnd f v s := by
  intro f
  induction f with
  | zero => intro v s; exact Nat.le_refl v
  | succ f ih =>
    intro v s
    unfold pw_rnd
    split
    · have := ih (2 * v) s; omega
    · exact Nat.le_refl v
/-- two of one base: one is a multiple of the other -/
theorem pw_pow_dvd {b i j : Nat} (h : b * 2 ^ i ≤ b * 2 ^ j) (hb : 0 < b) : b * 2 ^ i ∣ b * 2 ^ j := by
  have hij : i ≤ j := by
    by_cases hx : i ≤ j
    · exact hx
    · have h1 : 2 ^ (j + 1) ≤ 2 ^ i := Nat.pow_le_pow_right (by decide) (by omega)
      have h2 : 2 ^ (j + 1) = 2 ^ j * 2 := Nat.pow_succ ..
      have h3 : 0 < 2 ^ j := Nat.pow_pos (by decide)
      have h4 : b * 2 ^ j < b * 2 ^ i := Nat.mul_lt_mul_of_pos_left (by omega) hb
      omega
  exact Nat.mul_dvd_mul_left b (Nat.pow_dvd_pow 2 hij)
/-- the rounded spans -/
def pw_r (b : Nat) (sp : Nat → Nat) (k : Nat) : Nat := pw_rnd 6 b (sp k)
theorem pw_r_dvd {b : Nat} {sp : Nat → Nat} {i j : Nat} (hb : 0 < b) (h : pw_r b sp i ≤ pw_r b sp j) : pw_r b sp i ∣ pw_r b sp j := by
  obtain ⟨x, -, ex⟩ := pw_rnd_pow 6 b (sp i)
  obtain ⟨y, -, ey⟩ := pw_rnd_pow 6 b (sp j)
  unfold pw_r at h ⊢
  rw [ex, ey] at h ⊢
  exact pw_pow_dvd h hb
theorem pw_r_pos {b : Nat} {sp : Nat → Nat} {i : Nat} (hb : 0 < b) : 0 < pw_r b sp i := Nat.lt_of_lt_of_le hb (pw_rnd_ge 6 b (sp i))
/-- the greatest, 1 for none -/
def pw_mx (r : Nat → Nat) : Nat → Nat
  | 0 => 1
  | k + 1 => max (pw_mx r k) (r k)
theorem pw_mx_ge {r : Nat → Nat} {n : Nat} : ∀ k, k < n → r k ≤ pw_mx r n := by
  induction n with
  | zero => intro k hk; exact absurd hk (Nat.not_lt_zero k)
  | succ n ih =>
    intro k hk
    show r k ≤ max (pw_mx r n) (r n)
    by_cases e : k = n
    · subst e; exact Nat.le_max_right _ _
    · exact Nat.le_trans (ih k (by omega)) (Nat.le_max_left _ _)
theorem pw_mx_pos {r : Nat → Nat} : ∀ n, 0 < pw_mx r n := by
  intro n
  induction n with
  | zero => exact Nat.one_pos
  | succ n ih => exact Nat.lt_of_lt_of_le ih (Nat.le_max_left _ _)
theorem pw_mx_is {r : Nat → Nat} {n : Nat} (hn : 0 < n) (hr : ∀ k, k < n → 0 < r k) : ∃ k, k < n ∧ pw_mx r n = r k := by
  induction n with
  | zero => exact absurd hn (Nat.lt_irrefl 0)
  | succ n ih =>
    by_cases h0 : n = 0
    · subst h0
      refine ⟨0, Nat.one_pos, ?_⟩
      show max 1 (r 0) = r 0
      have := hr 0 Nat.one_pos
      omega
    · obtain ⟨k, hk, e⟩ := ih (by omega) fun k hk => hr k (by omega)
      by_cases h1 : pw_mx r n ≤ r n
      · exact ⟨n, by omega, Nat.max_eq_right h1⟩
      · exact ⟨k, by omega, by show max (pw_mx r n) (r n) = r k; rw [Nat.max_eq_left (by omega), e]⟩
theorem pw_mx_le {r : Nat → Nat} {n b : Nat} (hb : 1 ≤ b) (h : ∀ k, k < n → r k ≤ b) : pw_mx r n ≤ b := by
  induction n with
  | zero => exact hb
  | succ n ih => exact Nat.max_le.mpr ⟨ih fun k hk => h k (by omega), h n (by omega)⟩
/-- how many places the clients want in all -/
def pw_nd2 (b : Nat) (sp : Nat → Nat) (n : Nat) : Nat := pw_sm (fun k => pw_mx (pw_r b sp) n / pw_r b sp k) n
def pw_fit (b : Nat) (sp : Nat → Nat) (n : Nat) : Prop := pw_nd2 b sp n ≤ pw_mx (pw_r b sp) n
/-- the first free place below L, or L -/
def pw_ff (c : Nat → Nat) : Nat → Nat → Nat
  | 0, p => p
  | f + 1, p => if c p = 0 then p else pw_ff c f (p + 1)
theorem pw_ff_spec (c : Nat → Nat) : ∀ f p, p ≤ pw_ff c f p ∧ pw_ff c f p ≤ p + f ∧ (∀ j, p ≤ j → j < pw_ff c f p → c j ≠ 0) ∧ (pw_ff c f p < p + f → c (pw_ff c f p) = 0) := by
  intro f
  induction f with
  | zero => intro p; exact ⟨Nat.le_refl p, Nat.le_refl p, fun j h1 h2 => absurd (Nat.lt_of_le_of_lt h1 h2) (Nat.lt_irrefl p), fun h => absurd h (Nat.lt_irrefl p)⟩
  | succ f ih =>
    intro p
    unfold pw_ff
    by_cases h : c p = 0
    · rw [if_pos h]
      exact ⟨Nat.le_refl p, by omega, fun j h1 h2 => absurd (Nat.lt_of_le_of_lt h1 h2) (Nat.lt_irrefl p), fun _ => h⟩
    · rw [if_neg h]
      obtain ⟨h1, h2, h3, h4⟩ := ih (p + 1)
      refine ⟨by omega, by omega, fun j hj hj' => ?_, fun hlt => h4 (by omega)⟩
      by_cases e : j = p
      · subst e; exact h
      · exact h3 j (by omega) hj'
/-- a client gets the first free place, and every one that lies a multiple of r behind -/
def pw_gv (L id r : Nat) (c : Nat → Nat) : Nat → Nat := fun j => if pw_ff c L 0 ≤ j ∧ j < L ∧ (j - pw_ff c L 0) % r = 0 then id else c j
/-- the cycle: one after another -/
def pw_cy (L : Nat) (id r : Nat → Nat) (l : List Nat) : Nat → Nat := l.foldl (fun c k => pw_gv L (id k) (r k) c) (fun _ => 0)
theorem pw_cy_add {L : Nat} {id r : Nat → Nat} {l : List Nat} {k : Nat} : pw_cy L id r (l ++ [k]) = pw_gv L (id k) (r k) (pw_cy L id r l) := by
  unfold pw_cy; rw [List.foldl_append]; rfl
/-- counting below L -/
theorem pw_ct_res {L r f : Nat} (hr : 0 < r) (hd : r ∣ L) (hf : f < r) : pw_ct (fun j => decide (j % r = f)) L = L / r := by
  obtain ⟨q, rfl⟩ := hd
  rw [Nat.mul_div_cancel_left q hr]
  have key : ∀ n, n ≤ r → ∀ q, pw_ct (fun j => decide (j % r = f)) (r * q + n) = pw_ct (fun j => decide (j % r = f)) (r * q) + (if f < n then 1 else 0) := by
    intro n
    induction n with
    | zero => intro _ q; simp
    | succ n ih =>
      intro hn q
      show pw_ct _ (r * q + n) + (if decide ((r * q + n) % r = f) = true then 1 else 0) = _
      rw [ih (by omega) q, Nat.mul_add_mod, Nat.mod_eq_of_lt (by omega : n < r)]
      by_cases e : n = f
      · subst e; simp
      · have h1 : (f < n + 1) = (f < n) := by apply propext; omega
        simp [e, h1]
  induction q with
  | zero => rfl
  | succ q ih =>
    rw [Nat.mul_succ, key r (Nat.le_refl r) q, ih, if_pos hf]
theorem pw_ct_or {p q : Nat → Bool} : ∀ n, pw_ct (fun j => p j || q j) n ≤ pw_ct p n + pw_ct q n := by
  intro n
  induction n with
  | zero => exact Nat.le_refl 0
  | succ n ih =>
    show pw_ct _ n + (if (p n || q n) = true then 1 else 0) ≤ pw_ct p n + (if p n = true then 1 else 0) + (pw_ct q n + (if q n = true then 1 else 0))
    cases p n <;> cases q n <;> simp <;> omega
/-- what stands behind some clients, one after another in the order -/
def pw_H (L : Nat) (id r : Nat → Nat) (l : List Nat) (c : Nat → Nat) : Prop :=
  (∀ k ∈ l, ∃ f, f < r k ∧ ∀ j, j < L → (c j = id k ↔ j % r k = f)) ∧ (∀ j, j < L → (c j = 0 ∨ ∃ k ∈ l, c j = id k)) ∧ (∀ j, L ≤ j → c j = 0)
theorem pw_H_few {L : Nat} {id r : Nat → Nat} (hd : ∀ k, r k ∣ L ∨ True) : ∀ (l : List Nat) (g : Nat → Nat), (∀ k ∈ l, 0 < r k ∧ r k ∣ L ∧ g k < r k) → pw_ct (fun j => l.any (fun k => decide (j % r k = g k))) L ≤ (l.map (fun k => L / r k)).sum := by
  intro l g
  induction l with
  | nil =>
    intro _
    have h3 : ∀ n, pw_ct (fun _ => false) n = 0 := by
      intro n
      induction n with
      | zero => rfl
      | succ n ih => show pw_ct _ n + (if false = true then 1 else 0) = 0; rw [ih]; rfl
    simp [h3]
  | cons x t ih =>
    intro h
    obtain ⟨h1, h2, h3⟩ := h x List.mem_cons_self
    have h4 := ih fun k hk => h k (List.mem_cons_of_mem _ hk)
    have h5 := pw_ct_or (p := fun j => decide (j % r x = g x)) (q := fun j => t.any (fun k => decide (j % r k = g k))) L
    rw [pw_ct_res h1 h2 h3] at h5
    simp only [List.any_cons, List.map_cons, List.sum_cons]
    omega
/-- there is a free place for the next one, below its rounded span -/
theorem pw_H_free {L : Nat} {id r : Nat → Nat} {l : List Nat} {c : Nat → Nat} {x : Nat} (h : pw_H L id r l c) (hid : ∀ k ∈ l, 0 < id k) (hL : 0 < L) (hr : ∀ k ∈ l, 0 < r k ∧ r k ∣ r x) (hx : 0 < r x ∧ r x ∣ L) (hs : (l.map (fun k => L / r k)).sum + L / r x ≤ L) :
    pw_ff c L 0 < r x ∧ pw_ff c L 0 < L ∧ ∀ j, j < L → (c j = 0 ↔ c (j % r x) = 0) := by
  obtain ⟨h1, h2, h3⟩ := h
  have hc : ∀ k, ∃ f, k ∈ l → f < r k ∧ ∀ j, j < L → (c j = id k ↔ j % r k = f) := fun k => by
    by_cases hk : k ∈ l
    · obtain ⟨f, hf⟩ := h1 k hk
      exact ⟨f, fun _ => hf⟩
    · exact ⟨0, fun h => absurd h hk⟩
  obtain ⟨g, hg⟩ : ∃ g : Nat → Nat, ∀ k, k ∈ l → g k < r k ∧ ∀ j, j < L → (c j = id k ↔ j % r k = g k) := ⟨fun k => Classical.choose (hc k), fun k => Classical.choose_spec (hc k)⟩
  have hocc : ∀ j, j < L → (c j = 0 ↔ ∀ k ∈ l, j % r k ≠ g k) := by
    intro j hj
    constructor
    · intro h0 k hk e
      have e2 := ((hg k hk).2 j hj).mpr e
      have := hid k hk
      omega
    · intro hall
      rcases h2 j hj with h0 | ⟨k, hk, e⟩
      · exact h0
      · exact absurd (((hg k hk).2 j hj).mp e) (hall k hk)
  have hper : ∀ j, j < L → (c j = 0 ↔ c (j % r x) = 0) := by
    intro j hj
    have hj2 : j % r x < L := Nat.lt_of_le_of_lt (Nat.mod_le _ _) hj
    rw [hocc j hj, hocc _ hj2]
    constructor
    · intro hall k hk
      rw [Nat.mod_mod_of_dvd j (hr k hk).2]
      exact hall k hk
    · intro hall k hk
      have := hall k hk
      rw [Nat.mod_mod_of_dvd j (hr k hk).2] at this
      exact this
  have hfew := pw_H_few (L := L) (id := id) (r := r) (fun _ => Or.inr trivial) l g fun k hk => ⟨(hr k hk).1, Nat.dvd_trans (hr k hk).2 hx.2, (hg k hk).1⟩
  have hq : 0 < L / r x := Nat.div_pos (Nat.le_of_dvd hL hx.2) hx.1
  have hex : ∃ j, j < L ∧ c j = 0 := by
    by_cases hno : ∃ j, j < L ∧ c j = 0
    · exact hno
    · exfalso
      have hall : pw_ct (fun j => l.any (fun k => decide (j % r k = g k))) L = pw_ct (fun _ => true) L := pw_ct_congr fun j hj => by
        cases hb : l.any (fun k => decide (j % r k = g k)) with
        | true => rfl
        | false =>
          refine absurd ⟨j, hj, (hocc j hj).mpr fun k hk e => ?_⟩ hno
          rw [List.any_eq_false] at hb
          exact hb k hk (decide_eq_true e)
      have h2 : ∀ n, pw_ct (fun _ => true) n = n := by
        intro n
        induction n with
        | zero => rfl
        | succ n ih => show pw_ct _ n + (if true = true then 1 else 0) = n + 1; rw [ih]; rfl
      rw [hall, h2] at hfew
      omega
  obtain ⟨j, hj, h0⟩ := hex
  have h0' := (hper j hj).mp h0
  obtain ⟨-, f2, f3, -⟩ := pw_ff_spec c L 0
  have hlt : pw_ff c L 0 ≤ j % r x := by
    by_cases hx2 : pw_ff c L 0 ≤ j % r x
    · exact hx2
    · exact absurd h0' (f3 (j % r x) (Nat.zero_le _) (by omega))
  have := Nat.mod_lt j hx.1
  have := Nat.mod_le j (r x)
  exact ⟨by omega, by omega, hper⟩
/-- the next one has its places, the others keep theirs -/
theorem pw_H_add {L : Nat} {id r : Nat → Nat} {l : List Nat} {c : Nat → Nat} {x : Nat} (h : pw_H L id r l c) (hid : ∀ k ∈ l, 0 < id k ∧ id k ≠ id x) (hx0 : 0 < id x) (hL : 0 < L) (hr : ∀ k ∈ l, 0 < r k ∧ r k ∣ r x) (hx : 0 < r x ∧ r x ∣ L) (hs : (l.map (fun k => L / r k)).sum + L / r x ≤ L) :
    pw_H L id r (l ++ [x]) (pw_gv L (id x) (r x) c) := by
  obtain ⟨f1, f2, f3⟩ := pw_H_free h (fun k hk => (hid k hk).1) hL hr hx hs
  obtain ⟨-, -, -, f4⟩ := pw_ff_spec c L 0
  have f5 := f4 (by omega)
  obtain ⟨h1, h2, h3⟩ := h
  have hin : ∀ j, (pw_ff c L 0 ≤ j ∧ j < L ∧ (j - pw_ff c L 0) % r x = 0) ↔ (j < L ∧ j % r x = pw_ff c L 0) := by
    intro j
    constructor
    · intro ⟨a, b, e⟩
      refine ⟨b, ?_⟩
      obtain ⟨q, hq⟩ := Nat.dvd_of_mod_eq_zero e
      have e2 : j = r x * q + pw_ff c L 0 := by omega
      rw [e2, Nat.mul_add_mod, Nat.mod_eq_of_lt f1]
    · intro ⟨b, e⟩
      have e2 := Nat.div_add_mod j (r x)
      rw [e] at e2
      refine ⟨by omega, b, ?_⟩
      have e3 : j - pw_ff c L 0 = r x * (j / r x) := by omega
      rw [e3, Nat.mul_mod_right]
  have hfree : ∀ j, j < L → j % r x = pw_ff c L 0 → c j = 0 := fun j hj e => (f3 j hj).mpr (by rw [e]; exact f5)
  have hval : ∀ j, pw_gv L (id x) (r x) c j = if j < L ∧ j % r x = pw_ff c L 0 then id x else c j := by
    intro j
    unfold pw_gv
    by_cases hj : j < L ∧ j % r x = pw_ff c L 0
    · rw [if_pos hj, if_pos ((hin j).mpr hj)]
    · rw [if_neg hj, if_neg fun z => hj ((hin j).mp z)]
  refine ⟨?_, ?_, ?_⟩
  · intro k hk
    rcases List.mem_append.mp hk with hk | hk
    · obtain ⟨f, hf, hfj⟩ := h1 k hk
      refine ⟨f, hf, fun j hj => ?_⟩
      rw [hval j, ← hfj j hj]
      by_cases e : j % r x = pw_ff c L 0
      · rw [if_pos ⟨hj, e⟩]
        have h0 := hfree j hj e
        have h9 := hid k hk
        constructor
        · intro z; exact absurd z.symm h9.2
        · intro z; omega
      · rw [if_neg fun z => e z.2]
    · have : k = x := by simpa using hk
      subst this
      refine ⟨pw_ff c L 0, f1, fun j hj => ?_⟩
      rw [hval j]
      by_cases e : j % r k = pw_ff c L 0
      · rw [if_pos ⟨hj, e⟩]; exact ⟨fun _ => e, fun _ => rfl⟩
      · rw [if_neg fun z => e z.2]
        refine ⟨fun z => ?_, fun z => absurd z e⟩
        rcases h2 j hj with h0 | ⟨k', hk', e'⟩
        · omega
        · exact absurd (e'.symm.trans z) (hid k' hk').2
  · intro j hj
    rw [hval j]
    by_cases e : j < L ∧ j % r x = pw_ff c L 0
    · rw [if_pos e]; exact Or.inr ⟨x, List.mem_append_right _ List.mem_cons_self, rfl⟩
    · rw [if_neg e]
      rcases h2 j hj with h0 | ⟨k, hk, e'⟩
      · exact Or.inl h0
      · exact Or.inr ⟨k, List.mem_append_left _ hk, e'⟩
  · intro j hj
    rw [hval j, if_neg (by omega)]
    exact h3 j hj
theorem pw_H_0 {L : Nat} {id r : Nat → Nat} : pw_H L id r [] (fun _ => 0) := ⟨fun k hk => absurd hk List.not_mem_nil, fun j _ => Or.inl rfl, fun _ _ => rfl⟩
/-- all that is asked of a set: ids apart and above 0, a base -/
def pw_S (n : Nat) (id sp : Nat → Nat) (b : Nat) : Prop := 0 < b ∧ (∀ k, k < n → 0 < id k) ∧ ∀ i j, i < n → j < n → id i = id j → i = j
theorem pw_mx_dvd {b : Nat} {sp : Nat → Nat} {n k : Nat} (hb : 0 < b) (hk : k < n) : pw_r b sp k ∣ pw_mx (pw_r b sp) n := by
  obtain ⟨j, hj, e⟩ := pw_mx_is (r := pw_r b sp) (n := n) (by omega) fun i _ => pw_r_pos hb
  rw [e]
  exact pw_r_dvd hb (by rw [← e]; exact pw_mx_ge k hk)
/-- behind each of the clients in their order -/
theorem pw_cy_H {n : Nat} {id sp : Nat → Nat} {b : Nat} (h : pw_S n id sp b) (hf : pw_fit b sp n) : ∀ i, i ≤ n → pw_H (pw_mx (pw_r b sp) n) id (pw_r b sp) ((pw_srt (pw_r b sp) n).take i) (pw_cy (pw_mx (pw_r b sp) n) id (pw_r b sp) ((pw_srt (pw_r b sp) n).take i)) ∧
    (i < n → pw_ff (pw_cy (pw_mx (pw_r b sp) n) id (pw_r b sp) ((pw_srt (pw_r b sp) n).take i)) (pw_mx (pw_r b sp) n) 0 < pw_mx (pw_r b sp) n) := by
  have hlen := pw_srt_len (r := pw_r b sp) n
  have hsum : ((pw_srt (pw_r b sp) n).map (fun k => pw_mx (pw_r b sp) n / pw_r b sp k)).sum ≤ pw_mx (pw_r b sp) n := by rw [pw_srt_sum]; exact hf
  have hpre : ∀ i, i < n → (((pw_srt (pw_r b sp) n).take i).map (fun k => pw_mx (pw_r b sp) n / pw_r b sp k)).sum + pw_mx (pw_r b sp) n / pw_r b sp ((pw_srt (pw_r b sp) n).getD i 0) ≤ pw_mx (pw_r b sp) n := by
    intro i hi
    have e : pw_srt (pw_r b sp) n = (pw_srt (pw_r b sp) n).take (i + 1) ++ (pw_srt (pw_r b sp) n).drop (i + 1) := (List.take_append_drop _ _).symm
    rw [List.take_succ_eq_append_getElem (by omega)] at e
    rw [e] at hsum
    rw [pw_getD _ _ (by omega)]
    simp only [List.map_append, List.sum_append, List.map_cons, List.map_nil, List.sum_cons, List.sum_nil] at hsum
    omega
  have hside : ∀ i, i < n → (∀ k ∈ (pw_srt (pw_r b sp) n).take i, 0 < pw_r b sp k ∧ pw_r b sp k ∣ pw_r b sp ((pw_srt (pw_r b sp) n).getD i 0)) ∧ (∀ k ∈ (pw_srt (pw_r b sp) n).take i, 0 < id k ∧ id k ≠ id ((pw_srt (pw_r b sp) n).getD i 0)) := by
    intro i hi
    have hmem : ∀ k ∈ (pw_srt (pw_r b sp) n).take i, ∃ j, j < i ∧ (pw_srt (pw_r b sp) n).getD j 0 = k := by
      intro k hk
      obtain ⟨j, hj, e⟩ := List.getElem_of_mem hk
      rw [List.length_take] at hj
      refine ⟨j, by omega, ?_⟩
      rw [List.getElem_take] at e
      rw [pw_getD _ _ (by omega)]
      exact e
    refine ⟨fun k hk => ?_, fun k hk => ?_⟩
    · obtain ⟨j, hj, e⟩ := hmem k hk
      have h1 := pw_srt_le (r := pw_r b sp) j i hj hi
      rw [e] at h1
      refine ⟨pw_r_pos h.1, pw_r_dvd h.1 ?_⟩
      unfold pw_lt at h1
      omega
    · obtain ⟨j, hj, e⟩ := hmem k hk
      have hk2 : k < n := by rw [← e]; exact pw_srt_get (by omega)
      refine ⟨h.2.1 k hk2, fun z => ?_⟩
      have h2 := h.2.2 _ _ hk2 (pw_srt_get hi) z
      rw [← e] at h2
      have := pw_srt_inj (by omega) hi h2
      omega
  have hx : ∀ i, i < n → 0 < pw_r b sp ((pw_srt (pw_r b sp) n).getD i 0) ∧ pw_r b sp ((pw_srt (pw_r b sp) n).getD i 0) ∣ pw_mx (pw_r b sp) n := fun i hi => ⟨pw_r_pos h.1, pw_mx_dvd h.1 (pw_srt_get hi)⟩
  have main : ∀ i, i ≤ n → pw_H (pw_mx (pw_r b sp) n) id (pw_r b sp) ((pw_srt (pw_r b sp) n).take i) (pw_cy (pw_mx (pw_r b sp) n) id (pw_r b sp) ((pw_srt (pw_r b sp) n).take i)) := by
    intro i
    induction i with
    | zero => intro _; exact pw_H_0
    | succ i ih =>
      intro hi
      have h1 := ih (by omega)
      obtain ⟨s1, s2⟩ := hside i (by omega)
      have h2 := pw_H_add h1 s2 (h.2.1 _ (pw_srt_get (by omega))) (pw_mx_pos n) s1 (hx i (by omega)) (hpre i (by omega))
      rw [List.take_succ_eq_append_getElem (by omega), ← pw_getD _ 0 (by omega), pw_cy_add]
      exact h2
  intro i hi
  refine ⟨main i hi, fun hlt => ?_⟩
  obtain ⟨s1, s2⟩ := hside i hlt
  exact (pw_H_free (main i hi) (fun k hk => (s2 k hk).1) (pw_mx_pos n) s1 (hx i hlt) (hpre i hlt)).2.1
/-- the whole cycle -/
def pw_CY (b n : Nat) (id sp : Nat → Nat) : Nat → Nat := pw_cy (pw_mx (pw_r b sp) n) id (pw_r b sp) (pw_srt (pw_r b sp) n)
theorem pw_CY_has {n : Nat} {id sp : Nat → Nat} {b : Nat} (h : pw_S n id sp b) (hf : pw_fit b sp n) : ∀ k, k < n → ∃ j, j < pw_mx (pw_r b sp) n ∧ pw_CY b n id sp j = id k := by
  intro k hk
  have hH := (pw_cy_H h hf n (Nat.le_refl n)).1
  rw [List.take_of_length_le (by rw [pw_srt_len]; exact Nat.le_refl n)] at hH
  obtain ⟨f, hf1, hf2⟩ := hH.1 k ((pw_srt_mem n).mpr hk)
  have hle := Nat.le_of_dvd (pw_mx_pos (r := pw_r b sp) n) (pw_mx_dvd (sp := sp) h.1 hk)
  exact ⟨f, by omega, (hf2 f (by omega)).mpr (Nat.mod_eq_of_lt hf1)⟩
/-- who leaves makes no trouble -/
theorem pw_fit_sub {b n n' : Nat} {sp sp' : Nat → Nat} (hb : 0 < b) (hf : pw_fit b sp n) (g : Nat → Nat) (hg : ∀ k, k < n' → g k < n ∧ sp' k = sp (g k)) (hi : ∀ i j, i < j → j < n' → g i < g j) : pw_fit b sp' n' := by
  have hr : ∀ k, k < n' → pw_r b sp' k = pw_r b sp (g k) := fun k hk => by unfold pw_r; rw [(hg k hk).2]
  by_cases h0 : n' = 0
  · subst h0
    exact Nat.zero_le _
  · obtain ⟨a, ha, ea⟩ := pw_mx_is (r := pw_r b sp') (n := n') (by omega) fun i _ => pw_r_pos hb
    have hdvd : pw_mx (pw_r b sp') n' ∣ pw_mx (pw_r b sp) n := by
      rw [ea, hr a ha]
      exact pw_mx_dvd hb (hg a ha).1
    obtain ⟨q, hq⟩ := hdvd
    have hLp := pw_mx_pos (r := pw_r b sp) n
    have hLp' := pw_mx_pos (r := pw_r b sp') n'
    have hq0 : 0 < q := by
      refine Nat.pos_of_ne_zero fun z => ?_
      rw [z] at hq
      omega
    have hterm : ∀ k, k < n' → q * (pw_mx (pw_r b sp') n' / pw_r b sp' k) = pw_mx (pw_r b sp) n / pw_r b sp (g k) := by
      intro k hk
      rw [← hr k hk, hq, Nat.mul_comm _ q, Nat.mul_div_assoc q (pw_mx_dvd hb hk)]
    have hsub : ∀ (f : Nat → Nat) m, m ≤ n' → ∀ M, (∀ k, k < m → g k < M) → pw_sm (fun k => f (g k)) m ≤ pw_sm f M := by
      intro f m
      induction m with
      | zero => intro _ M _; exact Nat.zero_le _
      | succ m ih =>
        intro hm M hM
        have h1 := ih (by omega) (g m) fun k hk => hi k m hk (by omega)
        have h2 : ∀ M', g m < M' → pw_sm f (g m) + f (g m) ≤ pw_sm f M' := by
          intro M'
          induction M' with
          | zero => intro h; exact absurd h (Nat.not_lt_zero _)
          | succ M' ih2 =>
            intro h
            by_cases e : g m = M'
            · rw [e]; exact Nat.le_refl _
            · have := ih2 (by omega)
              show _ ≤ pw_sm f M' + f M'
              omega
        have h3 := h2 M (hM m (Nat.lt_succ_self m))
        show pw_sm (fun k => f (g k)) m + f (g m) ≤ pw_sm f M
        omega
    have hscale : ∀ m, m ≤ n' → q * pw_sm (fun k => pw_mx (pw_r b sp') n' / pw_r b sp' k) m = pw_sm (fun k => pw_mx (pw_r b sp) n / pw_r b sp (g k)) m := by
      intro m
      induction m with
      | zero => intro _; rfl
      | succ m ih =>
        intro hm
        show q * (pw_sm _ m + _) = pw_sm _ m + _
        rw [Nat.mul_add, ih (by omega), hterm m (by omega)]
    have h1 := hscale n' (Nat.le_refl n')
    have h2 := hsub (fun k => pw_mx (pw_r b sp) n / pw_r b sp k) n' (Nat.le_refl n') n fun k hk => (hg k hk).1
    have h3 : pw_nd2 b sp n ≤ pw_mx (pw_r b sp) n := hf
    unfold pw_nd2 at h3
    have h4 : q * pw_nd2 b sp' n' ≤ q * pw_mx (pw_r b sp') n' := by
      unfold pw_nd2
      rw [h1, Nat.mul_comm q (pw_mx (pw_r b sp') n'), ← hq]
      exact Nat.le_trans h2 h3
    exact Nat.le_of_mul_le_mul_left h4 hq0
