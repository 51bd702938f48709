/-! What is known of every state stays so. -/
theorem pw_val_lt {n L : Nat} {id sp cy : Nat → Nat} {w : Nat} (hG : pw_G n id sp) (hB : pw_Bld n id sp w L cy) : ∀ j, j < L → cy j < 1000 := fun j hj => by
  rcases pw_Bld_val hG hB j hj with h | ⟨k, hk, h⟩
  · omega
  · have := hG.1 k hk; omega
theorem iS_L {T : Nat} {S : Nat → Nat → Nat} (h : iS T S) : 0 < S 0 1 ∧ S 0 1 ≤ 1500 ∧ ∀ j, j < S 0 1 → S 5 j < 1000 := by
  obtain ⟨-, hG, -, h4, -⟩ := h
  rcases h4 with ⟨-, a, b⟩ | hB
  · refine ⟨by omega, by omega, fun j hj => ?_⟩
    rw [show j = 0 by omega, b]
    decide
  · obtain ⟨a, b, -⟩ := pw_Bld_has hG hB
    exact ⟨a, b, pw_val_lt hG hB⟩
theorem iS_wi {T : Nat} {S : Nat → Nat → Nat} (h : iS T S) : S 0 4 < 1000 := by
  obtain ⟨-, hG, -, -, -, h6, -⟩ := h
  rcases h6 with q | ⟨t, a, b⟩
  · omega
  · have := hG.1 t a; omega
theorem iS_w {T : Nat} {S : Nat → Nat → Nat} (h : iS T S) (hc : 0 < S 0 7) : 0 < S 0 9 ∧ S 0 9 ≤ 1500 ∧ S 0 7 ≤ 3 ∧ (∀ k, k < S 0 8 → ∃ j, j < S 0 9 ∧ S 8 j = S 6 k) ∧ ∀ j, j < S 0 9 → S 8 j < 1000 := by
  obtain ⟨-, -, -, -, -, -, h7⟩ := h
  obtain ⟨a, hG, hB, -⟩ := h7 hc
  obtain ⟨b1, b2, b3, b4⟩ := pw_Bld_has hG hB
  exact ⟨b1, b2, b3.2, b4, pw_val_lt hG hB⟩
theorem iS_G {T : Nat} {S : Nat → Nat → Nat} (h : iS T S) : ∀ t, t < S 0 0 → 0 < S 1 t ∧ S 1 t < 2 ^ 31 := pw_G_31 h.2.1
theorem pw_mo_same {n v z : Nat} {f1 f2 g1 g2 : Nat → Nat} (h : pw_mo n f1 f2 g1 g2 v z) (hinj : ∀ i j, i < n → j < n → f1 i = f1 j → i = j) (hno : ∀ t, t < n → f1 t ≠ v) : ∀ t i, t < n + 1 → i < n → f1 i = g1 t → f2 i = g2 t := by
  obtain ⟨p, hp, -, -, k1, k2⟩ := h
  intro t j ht hj e
  have q := pw_in_get k1 hp ht
  have q2 := pw_in_get k2 hp ht
  by_cases a : t < p
  · rw [if_pos a] at q q2
    rw [q2, hinj j t hj (by omega) (e.trans q)]
  · rw [if_neg a] at q q2
    by_cases b : t = p
    · rw [if_pos b] at q
      exact absurd (e.trans q) (hno j hj)
    · rw [if_neg b] at q q2
      rw [q2, hinj j (t - 1) hj (by omega) (e.trans q)]
theorem pw_le1_same {n i : Nat} {f1 f2 g1 g2 : Nat → Nat} (h : pw_le1 n f1 f2 g1 g2 i) (hinj : ∀ i j, i < n → j < n → f1 i = f1 j → i = j) : ∀ t j, t < n - 1 → j < n → f1 j = g1 t → f2 j = g2 t := (pw_le1_of (g3 := fun _ => 0) (g4 := fun _ => 0) (fun _ _ => rfl) (fun _ _ => rfl) h.1 h.2 hinj).2.2
theorem i_w0 {T k L2 : Nat} {S : Nat → Nat → Nat} {g1 g2 c2 : Nat → Nat} (h : iS T S) : iS T (wS S 0 k L2 g1 g2 c2) := by
  obtain ⟨h1, h2, h3, h4, h5, h6, -⟩ := h
  exact ⟨h1, h2, h3, h4, h5, h6, fun z => absurd z (Nat.lt_irrefl 0)⟩
theorem i_ask {T kd : Nat} {S S' : Nat → Nat → Nat} {x y v : Int32} (h : iS T S) (hr : askR S x y kd S' v) : iS T S' := by
  rcases hr with ⟨-, -, rfl⟩ | ⟨vv, z, -, -, hg, hr⟩
  · exact h
  rcases hr with ⟨-, -, rfl⟩ | ⟨-, -, -, rfl⟩ | ⟨-, -, -, -, k, L2, g1, g2, c2, rfl⟩ | ⟨-, h0, hn, w, L2, g1, g2, c2, -, hm, hB, rfl⟩
  · exact h
  · exact h
  · exact i_w0 h
  · obtain ⟨h1, h2, h3, h4, h5, h6, -⟩ := h
    obtain ⟨a1, a2, a3, a4, a5⟩ := hg
    exact ⟨h1, h2, h3, h4, h5, h6, fun _ => ⟨hn, pw_mo_G h2 hm ⟨by omega, by omega⟩ ⟨by omega, a4⟩ a5, hB, pw_mo_same hm (pw_G_inj h2) a5⟩⟩
theorem i_drop {T kd : Nat} {S S' : Nat → Nat → Nat} {x v : Int32} (h : iS T S) (hr : dropR S x kd S' v) : iS T S' := by
  rcases hr with ⟨-, -, rfl⟩ | ⟨i, hi, -, hr⟩
  · exact h
  rcases hr with ⟨-, -, rfl⟩ | ⟨-, h0, w, L2, g1, g2, c2, -, hm, hB, rfl⟩
  · exact h
  · obtain ⟨h1, h2, h3, h4, h5, h6, -⟩ := h
    exact ⟨h1, h2, h3, h4, h5, h6, fun _ => ⟨by show S 0 0 - 1 ≤ 10; omega, pw_le1_G h2 hm, hB, pw_le1_same hm (pw_G_inj h2)⟩⟩
theorem i_wish {T kd : Nat} {S S' : Nat → Nat → Nat} {x : Int32} (h : iS T S) (hr : wishR S x kd S') : iS T S' := by
  rcases hr with ⟨-, -, rfl⟩ | ⟨i, hi, -, ⟨-, -, rfl⟩ | ⟨-, h0, rfl⟩⟩
  · exact h
  · exact h
  · obtain ⟨h1, h2, h3, h4, h5, h6, h7⟩ := h
    exact ⟨h1, h2, h3, h4, h5, Or.inr ⟨i, hi, rfl⟩, h7⟩
theorem pas_wi {n : Nat} {f1 f3 f4 cy u3 u4 : Nat → Nat} {ax wi rr wi2 : Nat} (h : pasR n f1 f3 f4 cy ax wi rr wi2 u3 u4) : wi2 = 0 ∨ wi2 = wi := by
  rw [h.2.1]
  split
  · exact Or.inl rfl
  · exact Or.inr rfl
theorem pas_le {n T : Nat} {f1 f3 f4 cy u3 u4 : Nat → Nat} {ax wi rr wi2 : Nat} (h : pasR n f1 f3 f4 cy ax wi rr wi2 u3 u4) (hT : ∀ t, t < n → f3 t ≤ T ∧ f4 t ≤ T) : ∀ t, t < n → u3 t ≤ T + 1 ∧ u4 t ≤ T + 1 := fun t ht => by
  obtain ⟨a, b⟩ := h.2.2 t ht
  obtain ⟨c, d⟩ := hT t ht
  rw [a, b]
  split <;> omega
theorem nxt_lt {a L : Nat} (h : a < L) : pw_nxt a L < L := by
  unfold pw_nxt
  split <;> omega
theorem i_slot {T : Nat} {S S' : Nat → Nat → Nat} {v : Int32} (h : iS T S) (hr : slotR S S' v) : iS (T + 1) S' := by
  obtain ⟨h1, h2, h3, h4, h5, h6, h7⟩ := h
  obtain ⟨rr, wi2, u3, u4, -, hr⟩ := hr
  rcases hr with ⟨h0, hp, rfl⟩ | ⟨h0, -, hp, g1, g2, hg, rfl⟩ | ⟨h0, x, wx, x1, x2, x3, x4, hx, -, -, hX, hW, hp, rfl⟩
  · refine ⟨h1, h2, pas_le hp h3, h4, nxt_lt h5, ?_, fun z => h7 z⟩
    rcases pas_wi hp with e | e
    · exact Or.inl e
    · show wi2 = 0 ∨ ∃ t, t < S 0 0 ∧ S 1 t = wi2
      rw [e]; exact h6
  · obtain ⟨b1, b2, b3, b4⟩ := h7 h0
    refine ⟨h1, h2, pas_le hp h3, h4, nxt_lt h5, ?_, fun _ => ⟨b1, pw_G_cg (fun t ht => ((hg t ht).2).symm) (fun t ht => ((hg t ht).1).symm) b2, pw_Bld_cg (fun t ht => ((hg t ht).2).symm) (fun t ht => ((hg t ht).1).symm) b3, fun t i ht hi e => ?_⟩⟩
    · rcases pas_wi hp with e | e
      · exact Or.inl e
      · show wi2 = 0 ∨ ∃ t, t < S 0 0 ∧ S 1 t = wi2
        rw [e]; exact h6
    · have e1 : S 1 i = g1 t := e
      show S 2 i = g2 t
      rw [(hg t ht).2]
      exact b4 t i ht hi (by rw [← (hg t ht).1]; exact e1)
  · obtain ⟨b1, b2, b3, b4⟩ := h7 h0
    have e1 : ∀ t, t < S 0 8 → S 6 t = x1 t := fun t ht => (hX t ht).1.symm
    have e2 : ∀ t, t < S 0 8 → S 7 t = x2 t := fun t ht => (hX t ht).2.1.symm
    refine ⟨b1, pw_G_cg e2 e1 b2, pas_le hp fun t ht => ?_, Or.inr (pw_Bld_cg e2 e1 b3), nxt_lt hx, ?_, fun z => absurd z (Nat.lt_irrefl 0)⟩
    · obtain ⟨-, -, c3, c4⟩ := hX t ht
      rw [c3, c4]
      exact ⟨pw_wt_le fun i hi => (h3 i hi).1, pw_wt_le fun i hi => (h3 i hi).2⟩
    · show wi2 = 0 ∨ ∃ t, t < S 0 8 ∧ x1 t = wi2
      rcases pas_wi hp with e | e
      · exact Or.inl e
      · rcases hW with ⟨a, t, c1, c2⟩ | ⟨a, -⟩
        · exact Or.inr ⟨t, c1, by rw [← e1 t c1, c2, e, a]⟩
        · exact Or.inl (e.trans a)
