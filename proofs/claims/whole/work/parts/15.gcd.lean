/-! Divisions with a rest, one after another; the sum of 1 by the spans. -/
def pw_eu : Nat → Nat → Nat → Nat
  | 0, a, _ => a
  | f + 1, a, b => if b = 0 then a else pw_eu f b (a % b)
/-- it has come to its end within so many -/
def pw_ed : Nat → Nat → Nat → Prop
  | 0, _, b => b = 0
  | f + 1, a, b => b = 0 ∨ pw_ed f b (a % b)
theorem pw_ed_0 : ∀ f a, pw_ed f a 0 := by
  intro f a
  cases f with
  | zero => exact rfl
  | succ f => exact Or.inl rfl
theorem pw_ed_mono : ∀ {f g a b : Nat}, f ≤ g → pw_ed f a b → pw_ed g a b := by
  intro f
  induction f with
  | zero => intro g a b _ h; have h : b = 0 := h; subst h; exact pw_ed_0 g a
  | succ f ih =>
    intro g a b hfg h
    cases g with
    | zero => omega
    | succ g =>
      rcases h with h | h
      · exact Or.inl h
      · exact Or.inr (ih (by omega) h)
theorem pw_mod_sum {a b : Nat} (hb : 0 < b) (h : b ≤ a) : b + a % b ≤ a := by
  have h1 := Nat.div_add_mod a b
  have h2 : 0 < a / b := Nat.div_pos h hb
  have h3 : b * 1 ≤ b * (a / b) := Nat.mul_le_mul_left b h2
  omega
theorem pw_ed_fast : ∀ (n a b : Nat), b < 5 ^ n → pw_ed (4 * n) a b := by
  intro n
  induction n with
  | zero => intro a b h; show b = 0; simp at h; exact h
  | succ n ih =>
    intro a b h
    show pw_ed (4 * n + 1 + 1 + 1 + 1) a b
    by_cases h0 : b = 0
    · exact Or.inl h0
    refine Or.inr ?_
    have l1 := Nat.mod_lt a (Nat.pos_of_ne_zero h0)
    generalize a % b = r1 at l1 ⊢
    by_cases h1 : r1 = 0
    · exact Or.inl h1
    refine Or.inr ?_
    have l2 := Nat.mod_lt b (Nat.pos_of_ne_zero h1)
    have m2 := pw_mod_sum (Nat.pos_of_ne_zero h1) (Nat.le_of_lt l1)
    generalize b % r1 = r2 at l2 m2 ⊢
    by_cases h2 : r2 = 0
    · exact Or.inl h2
    refine Or.inr ?_
    have l3 := Nat.mod_lt r1 (Nat.pos_of_ne_zero h2)
    have m3 := pw_mod_sum (Nat.pos_of_ne_zero h2) (Nat.le_of_lt l2)
    generalize r1 % r2 = r3 at l3 m3 ⊢
    by_cases h3 : r3 = 0
    · exact Or.inl h3
    refine Or.inr ?_
    have l4 := Nat.mod_lt r2 (Nat.pos_of_ne_zero h3)
    have m4 := pw_mod_sum (Nat.pos_of_ne_zero h3) (Nat.le_of_lt l3)
    generalize r2 % r3 = r4 at l4 m4 ⊢
    refine ih r3 r4 ?_
    have e : 5 ^ (n + 1) = 5 ^ n * 5 := Nat.pow_succ ..
    omega
theorem pw_eu_pos : ∀ (f a b : Nat), 0 < a → 0 < pw_eu f a b := by
  intro f
  induction f with
  | zero => intro a b h; exact h
  | succ f ih =>
    intro a b h
    unfold pw_eu
    split
    · exact h
    · rename_i hb; exact ih _ _ (Nat.pos_of_ne_zero hb)
theorem pw_eu_ed : ∀ (f g a b : Nat), f ≤ g → pw_ed f a b → pw_eu g a b = pw_eu f a b := by
  intro f
  induction f with
  | zero =>
    intro g a b _ h
    have h : b = 0 := h
    subst h
    cases g with
    | zero => rfl
    | succ g => show (if 0 = 0 then a else _) = a; rw [if_pos rfl]
  | succ f ih =>
    intro g a b hfg h
    cases g with
    | zero => omega
    | succ g =>
      show (if b = 0 then a else pw_eu g b (a % b)) = (if b = 0 then a else pw_eu f b (a % b))
      by_cases hb : b = 0
      · rw [if_pos hb, if_pos hb]
      · rw [if_neg hb, if_neg hb]
        exact ih g b (a % b) (by omega) (h.resolve_left hb)
/-- numerator and denominator -/
def pw_de (sp : Nat → Nat) : Nat → Nat × Nat
  | 0 => (0, 1)
  | k + 1 => (((pw_de sp k).1 * sp k + (pw_de sp k).2) / pw_eu 92 ((pw_de sp k).1 * sp k + (pw_de sp k).2) ((pw_de sp k).2 * sp k), ((pw_de sp k).2 * sp k) / pw_eu 92 ((pw_de sp k).1 * sp k + (pw_de sp k).2) ((pw_de sp k).2 * sp k))
theorem pw_de_le {sp : Nat → Nat} {n : Nat} (h : ∀ k, k < n → 0 < sp k ∧ sp k ≤ 40) : ∀ k, k ≤ n → (pw_de sp k).1 * 40 ≤ k * 40 ^ k ∧ (pw_de sp k).2 ≤ 40 ^ k := by
  intro k
  induction k with
  | zero => intro _; exact ⟨Nat.le_refl 0, Nat.le_refl 1⟩
  | succ k ih =>
    intro hk
    obtain ⟨h1, h2⟩ := ih (by omega)
    obtain ⟨h3, h4⟩ := h k (by omega)
    have e : 40 ^ (k + 1) = 40 ^ k * 40 := Nat.pow_succ ..
    have m1 : (pw_de sp k).1 * sp k ≤ (pw_de sp k).1 * 40 := Nat.mul_le_mul_left _ h4
    have m2 : (pw_de sp k).2 * sp k ≤ (pw_de sp k).2 * 40 := Nat.mul_le_mul_left _ h4
    have d1 := Nat.div_le_self ((pw_de sp k).1 * sp k + (pw_de sp k).2) (pw_eu 92 ((pw_de sp k).1 * sp k + (pw_de sp k).2) ((pw_de sp k).2 * sp k))
    have d2 := Nat.div_le_self ((pw_de sp k).2 * sp k) (pw_eu 92 ((pw_de sp k).1 * sp k + (pw_de sp k).2) ((pw_de sp k).2 * sp k))
    have e2 : (k + 1) * 40 ^ (k + 1) = (k * 40 ^ k + 40 ^ k) * 40 := by rw [e, Nat.add_mul k, Nat.one_mul, Nat.add_mul, Nat.mul_assoc]
    refine ⟨?_, ?_⟩
    · show ((pw_de sp k).1 * sp k + (pw_de sp k).2) / _ * 40 ≤ _
      rw [e2]
      refine Nat.mul_le_mul_right 40 ?_
      omega
    · show ((pw_de sp k).2 * sp k) / _ ≤ _
      omega
