/-! Clients in the order of their rounded spans; sums and products over them. -/
/-- k comes behind all that are not above it -/
def pw_ins (r : Nat → Nat) (k : Nat) : List Nat → List Nat
  | [] => [k]
  | x :: t => if r x ≤ r k then x :: pw_ins r k t else k :: x :: t
/-- the first n in the order of r -/
def pw_srt (r : Nat → Nat) : Nat → List Nat
  | 0 => []
  | k + 1 => pw_ins r k (pw_srt r k)
theorem pw_ins_len {r : Nat → Nat} {k : Nat} : ∀ l, (pw_ins r k l).length = l.length + 1 := by
  intro l
  induction l with
  | nil => rfl
  | cons x t ih =>
    unfold pw_ins
    split
    · simp [ih]
    · rfl
theorem pw_srt_len {r : Nat → Nat} : ∀ n, (pw_srt r n).length = n := by
  intro n
  induction n with
  | zero => rfl
  | succ n ih => show (pw_ins r n (pw_srt r n)).length = n + 1; rw [pw_ins_len, ih]
theorem pw_ins_mem {r : Nat → Nat} {k a : Nat} : ∀ l, a ∈ pw_ins r k l ↔ a = k ∨ a ∈ l := by
  intro l
  induction l with
  | nil => simp [pw_ins]
  | cons x t ih =>
    unfold pw_ins
    split
    · simp only [List.mem_cons, ih]
      constructor
      · rintro (h | h | h)
        · exact Or.inr (Or.inl h)
        · exact Or.inl h
        · exact Or.inr (Or.inr h)
      · rintro (h | h | h)
        · exact Or.inr (Or.inl h)
        · exact Or.inl h
        · exact Or.inr (Or.inr h)
    · simp only [List.mem_cons]
theorem pw_srt_mem {r : Nat → Nat} {a : Nat} : ∀ n, a ∈ pw_srt r n ↔ a < n := by
  intro n
  induction n with
  | zero => simp [pw_srt]
  | succ n ih =>
    show a ∈ pw_ins r n (pw_srt r n) ↔ _
    rw [pw_ins_mem, ih]
    omega
/-- before: in the order of r, of these the least number first -/
def pw_lt (r : Nat → Nat) (a b : Nat) : Prop := r a < r b ∨ (r a = r b ∧ a < b)
theorem pw_lt_irr {r : Nat → Nat} {a : Nat} : ¬ pw_lt r a a := by
  unfold pw_lt; omega
theorem pw_lt_trans {r : Nat → Nat} {a b c : Nat} (h : pw_lt r a b) (h' : pw_lt r b c) : pw_lt r a c := by
  unfold pw_lt at *; omega
theorem pw_lt_tot {r : Nat → Nat} {a b : Nat} (h : a ≠ b) : pw_lt r a b ∨ pw_lt r b a := by
  unfold pw_lt; omega
theorem pw_ins_srt {r : Nat → Nat} {k : Nat} : ∀ l : List Nat, (∀ a ∈ l, a < k) → l.Pairwise (pw_lt r) → (pw_ins r k l).Pairwise (pw_lt r) := by
  intro l
  induction l with
  | nil => intro _ _; simp [pw_ins]
  | cons x t ih =>
    intro hk hp
    rw [List.pairwise_cons] at hp
    have hx := hk x List.mem_cons_self
    unfold pw_ins
    split
    · rename_i hle
      rw [List.pairwise_cons]
      refine ⟨fun a ha => ?_, ih (fun a ha => hk a (List.mem_cons_of_mem _ ha)) hp.2⟩
      rcases (pw_ins_mem t).mp ha with rfl | ha
      · unfold pw_lt; omega
      · exact hp.1 a ha
    · rename_i hle
      rw [List.pairwise_cons]
      refine ⟨fun a ha => ?_, List.pairwise_cons.mpr hp⟩
      have h1 : pw_lt r k x := by unfold pw_lt; omega
      rcases List.mem_cons.mp ha with rfl | ha
      · exact h1
      · exact pw_lt_trans h1 (hp.1 a ha)
theorem pw_srt_srt {r : Nat → Nat} : ∀ n, (pw_srt r n).Pairwise (pw_lt r) := by
  intro n
  induction n with
  | zero => exact List.Pairwise.nil
  | succ n ih => exact pw_ins_srt _ (fun a ha => (pw_srt_mem n).mp ha) ih
/-- such an order is one alone -/
theorem pw_one {r : Nat → Nat} : ∀ l l' : List Nat, l.Pairwise (pw_lt r) → l'.Pairwise (pw_lt r) → (∀ a, a ∈ l ↔ a ∈ l') → l = l' := by
  intro l
  induction l with
  | nil =>
    intro l' _ _ h
    cases l' with
    | nil => rfl
    | cons y t => exact absurd ((h y).mpr List.mem_cons_self) (by simp)
  | cons x t ih =>
    intro l' hp hp' h
    cases l' with
    | nil => exact absurd ((h x).mp List.mem_cons_self) (by simp)
    | cons y t' =>
      rw [List.pairwise_cons] at hp hp'
      have hxy : x = y := by
        by_cases e : x = y
        · exact e
        · have h1 : x ∈ t' := (List.mem_cons.mp ((h x).mp List.mem_cons_self)).resolve_left e
          have h2 : y ∈ t := (List.mem_cons.mp ((h y).mpr List.mem_cons_self)).resolve_left fun z => e z.symm
          exact absurd (pw_lt_trans (hp.1 y h2) (hp'.1 x h1)) pw_lt_irr
      subst hxy
      rw [ih t' hp.2 hp'.2 fun a => ?_]
      constructor
      · intro ha
        rcases List.mem_cons.mp ((h a).mp (List.mem_cons_of_mem _ ha)) with rfl | h1
        · exact absurd (hp.1 a ha) pw_lt_irr
        · exact h1
      · intro ha
        rcases List.mem_cons.mp ((h a).mpr (List.mem_cons_of_mem _ ha)) with rfl | h1
        · exact absurd (hp'.1 a ha) pw_lt_irr
        · exact h1
/-- where k comes, found from the end -/
theorem pw_ins_at {r : Nat → Nat} {k : Nat} : ∀ (l : List Nat) (i : Nat), i ≤ l.length → (∀ j, j < i → r (l.getD j 0) ≤ r k) → (∀ j, i ≤ j → j < l.length → r k < r (l.getD j 0)) → pw_ins r k l = l.take i ++ k :: l.drop i := by
  intro l
  induction l with
  | nil =>
    intro i hi _ _
    have : i = 0 := by simpa using hi
    subst this
    rfl
  | cons x t ih =>
    intro i hi h1 h2
    cases i with
    | zero =>
      have := h2 0 (Nat.le_refl 0) (by simp)
      simp only [List.getD_cons_zero] at this
      unfold pw_ins
      rw [if_neg (by omega)]
      rfl
    | succ i =>
      have h3 := h1 0 (by omega)
      simp only [List.getD_cons_zero] at h3
      unfold pw_ins
      rw [if_pos h3, ih i (by simpa using hi) (fun j hj => by simpa using h1 (j + 1) (by omega)) (fun j hj hj' => by simpa using h2 (j + 1) (by omega) (by simpa using hj'))]
      rfl
theorem pw_ins_get {r : Nat → Nat} {k : Nat} {l : List Nat} {i : Nat} (hi : i ≤ l.length) (h : pw_ins r k l = l.take i ++ k :: l.drop i) : ∀ j, j ≤ l.length → (pw_ins r k l).getD j 0 = if j < i then l.getD j 0 else if j = i then k else l.getD (j - 1) 0 := by
  intro j hj
  rw [h]
  have hlen : (l.take i).length = i := by rw [List.length_take]; omega
  by_cases h1 : j < i
  · rw [if_pos h1]
    simp only [List.getD_eq_getElem?_getD]
    rw [List.getElem?_append_left (by omega), List.getElem?_take_of_lt h1]
  · rw [if_neg h1]
    by_cases h2 : j = i
    · subst h2
      rw [if_pos rfl]
      simp only [List.getD_eq_getElem?_getD]
      rw [List.getElem?_append_right (by omega), hlen, Nat.sub_self]
      rfl
    · rw [if_neg h2]
      simp only [List.getD_eq_getElem?_getD]
      rw [List.getElem?_append_right (by omega), hlen]
      obtain ⟨d, hd⟩ : ∃ d, j = i + 1 + d := ⟨j - i - 1, by omega⟩
      subst hd
      rw [show i + 1 + d - i = d + 1 by omega, List.getElem?_cons_succ, List.getElem?_drop, show i + 1 + d - 1 = i + d by omega]
theorem pw_getD (l : List Nat) (d : Nat) {i : Nat} (h : i < l.length) : l.getD i d = l[i] := by
  simp [List.getD_eq_getElem?_getD, h]
/-- in the order: not falling -/
theorem pw_srt_le {r : Nat → Nat} {n : Nat} : ∀ i j, i < j → j < n → pw_lt r ((pw_srt r n).getD i 0) ((pw_srt r n).getD j 0) := by
  intro i j hij hj
  have hp := pw_srt_srt (r := r) n
  have hl := pw_srt_len (r := r) n
  rw [List.pairwise_iff_getElem] at hp
  have h := hp i j (by omega) (by omega) hij
  rw [pw_getD _ _ (by omega), pw_getD _ _ (by omega)]
  exact h
theorem pw_srt_get {r : Nat → Nat} {n i : Nat} (hi : i < n) : (pw_srt r n).getD i 0 < n := by
  have hl := pw_srt_len (r := r) n
  rw [pw_getD _ _ (by omega)]
  exact (pw_srt_mem n).mp (List.getElem_mem _)
theorem pw_srt_all {r : Nat → Nat} {n a : Nat} (ha : a < n) : ∃ i, i < n ∧ (pw_srt r n).getD i 0 = a := by
  obtain ⟨i, hi, e⟩ := List.getElem_of_mem ((pw_srt_mem (r := r) n).mpr ha)
  rw [pw_srt_len] at hi
  exact ⟨i, hi, by rw [pw_getD _ _ (by rw [pw_srt_len]; exact hi)]; exact e⟩
theorem pw_srt_inj {r : Nat → Nat} {n i j : Nat} (hi : i < n) (hj : j < n) (e : (pw_srt r n).getD i 0 = (pw_srt r n).getD j 0) : i = j := by
  rcases Nat.lt_trichotomy i j with h | h | h
  · have := pw_srt_le (r := r) i j h hj; rw [e] at this; exact absurd this pw_lt_irr
  · exact h
  · have := pw_srt_le (r := r) j i h hi; rw [e] at this; exact absurd this pw_lt_irr
/-- sums -/
def pw_sm (f : Nat → Nat) : Nat → Nat
  | 0 => 0
  | k + 1 => pw_sm f k + f k
theorem pw_sm_congr {f g : Nat → Nat} {n : Nat} (h : ∀ k, k < n → f k = g k) : pw_sm f n = pw_sm g n := by
  induction n with
  | zero => rfl
  | succ n ih =>
    show pw_sm f n + f n = pw_sm g n + g n
    rw [ih fun k hk => h k (Nat.lt_succ_of_lt hk), h n (Nat.lt_succ_self n)]
theorem pw_sm_list (f : Nat → Nat) : ∀ l : List Nat, pw_sm (fun i => f (l.getD i 0)) l.length = (l.map f).sum := by
  intro l
  have key : ∀ (l : List Nat) n, n ≤ l.length → pw_sm (fun i => f (l.getD i 0)) n = ((l.take n).map f).sum := by
    intro l n
    induction n with
    | zero => intro _; simp [pw_sm]
    | succ n ih =>
      intro hn
      show pw_sm _ n + f (l.getD n 0) = _
      rw [ih (by omega), List.take_succ_eq_append_getElem (by omega), pw_getD _ _ (by omega), List.map_append, List.sum_append]
      rfl
  have h := key l l.length (Nat.le_refl _)
  rw [List.take_length] at h
  exact h
theorem pw_ins_sum {r f : Nat → Nat} {k : Nat} : ∀ l, ((pw_ins r k l).map f).sum = (l.map f).sum + f k := by
  intro l
  induction l with
  | nil => simp [pw_ins]
  | cons x t ih =>
    unfold pw_ins
    split
    · simp only [List.map_cons, List.sum_cons, ih]; omega
    · simp only [List.map_cons, List.sum_cons]; omega
theorem pw_srt_sum {r f : Nat → Nat} : ∀ n, ((pw_srt r n).map f).sum = pw_sm f n := by
  intro n
  induction n with
  | zero => rfl
  | succ n ih => show ((pw_ins r n (pw_srt r n)).map f).sum = _; rw [pw_ins_sum, ih]; rfl
/-- the sum in the order is the sum -/
theorem pw_srt_sm {r f : Nat → Nat} (n : Nat) : pw_sm (fun i => f ((pw_srt r n).getD i 0)) n = pw_sm f n := by
  have h := pw_sm_list f (pw_srt r n)
  rw [pw_srt_len, pw_srt_sum] at h
  exact h
/-- products -/
theorem pw_w_congr {f g : Nat → Nat} {n : Nat} (h : ∀ k, k < n → f k = g k) : pw_w f n = pw_w g n := by
  induction n with
  | zero => rfl
  | succ n ih =>
    show pw_w f n * f n = pw_w g n * g n
    rw [ih fun k hk => h k (Nat.lt_succ_of_lt hk), h n (Nat.lt_succ_self n)]
def pw_pl (f : Nat → Nat) : List Nat → Nat
  | [] => 1
  | x :: t => f x * pw_pl f t
theorem pw_pl_app {f : Nat → Nat} : ∀ l l', pw_pl f (l ++ l') = pw_pl f l * pw_pl f l' := by
  intro l l'
  induction l with
  | nil => simp [pw_pl]
  | cons x t ih => show f x * pw_pl f (t ++ l') = f x * pw_pl f t * pw_pl f l'; rw [ih, Nat.mul_assoc]
theorem pw_ins_pl {r f : Nat → Nat} {k : Nat} : ∀ l, pw_pl f (pw_ins r k l) = pw_pl f l * f k := by
  intro l
  induction l with
  | nil => show f k * 1 = 1 * f k; omega
  | cons x t ih =>
    unfold pw_ins
    split
    · show f x * pw_pl f (pw_ins r k t) = f x * pw_pl f t * f k; rw [ih, Nat.mul_assoc]
    · show f k * (f x * pw_pl f t) = f x * pw_pl f t * f k; rw [Nat.mul_comm]
theorem pw_w_list (f : Nat → Nat) (l : List Nat) : pw_w (fun i => f (l.getD i 0)) l.length = pw_pl f l := by
  have key : ∀ n, n ≤ l.length → pw_w (fun i => f (l.getD i 0)) n = pw_pl f (l.take n) := by
    intro n
    induction n with
    | zero => intro _; simp [pw_w, pw_pl]
    | succ n ih =>
      intro hn
      show pw_w _ n * f (l.getD n 0) = _
      rw [ih (by omega), List.take_succ_eq_append_getElem (by omega), pw_getD _ _ (by omega), pw_pl_app]
      show _ = pw_pl f (l.take n) * (f l[n] * 1)
      rw [Nat.mul_one]
  have h := key l.length (Nat.le_refl _)
  rw [List.take_length] at h
  exact h
theorem pw_srt_w {r f : Nat → Nat} (n : Nat) : pw_w (fun i => f ((pw_srt r n).getD i 0)) n = pw_w f n := by
  have h := pw_w_list f (pw_srt r n)
  rw [pw_srt_len] at h
  rw [h]
  clear h
  induction n with
  | zero => rfl
  | succ n ih => show pw_pl f (pw_ins r n (pw_srt r n)) = pw_w f n * f n; rw [pw_ins_pl, ih]
theorem pw_w_mono {f : Nat → Nat} {n m : Nat} (h : ∀ k, k < m → 0 < f k) (hnm : n ≤ m) : pw_w f n ≤ pw_w f m := by
  induction m with
  | zero => have : n = 0 := by omega
            subst this; exact Nat.le_refl _
  | succ m ih =>
    by_cases e : n = m + 1
    · subst e; exact Nat.le_refl _
    · have h1 := ih (fun k hk => h k (Nat.lt_succ_of_lt hk)) (by omega)
      have h2 : pw_w f m * 1 ≤ pw_w f m * f m := Nat.mul_le_mul_left _ (h m (Nat.lt_succ_self m))
      show pw_w f n ≤ pw_w f m * f m
      omega
