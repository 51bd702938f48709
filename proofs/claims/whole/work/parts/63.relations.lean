/-! What each call does to the state, and what it answers. -/
def mkS (n L b ax wi va sl cw k L2 : Nat) (f1 f2 f3 f4 cy g1 g2 c2 : Nat → Nat) : Nat → Nat → Nat := fun i => match i with
  | 0 => fun j => match j with
    | 0 => n
    | 1 => L
    | 2 => b
    | 3 => ax
    | 4 => wi
    | 5 => va
    | 6 => sl
    | 7 => cw
    | 8 => k
    | _ => L2
  | 1 => f1
  | 2 => f2
  | 3 => f3
  | 4 => f4
  | 5 => cy
  | 6 => g1
  | 7 => g2
  | _ => c2
/-- the same, but for what waits -/
def wS (S : Nat → Nat → Nat) (cw k L2 : Nat) (g1 g2 c2 : Nat → Nat) : Nat → Nat → Nat := mkS (S 0 0) (S 0 1) (S 0 2) (S 0 3) (S 0 4) (S 0 5) (S 0 6) cw k L2 (S 1) (S 2) (S 3) (S 4) (S 5) g1 g2 c2
/-- what is known of every state; T: how many calls there were -/
def iS (T : Nat) (S : Nat → Nat → Nat) : Prop := S 0 0 ≤ 10 ∧ pw_G (S 0 0) (S 1) (S 2) ∧ (∀ t, t < S 0 0 → S 3 t ≤ T ∧ S 4 t ≤ T) ∧
  ((S 0 0 = 0 ∧ S 0 1 = 1 ∧ S 5 0 = 0) ∨ pw_Bld (S 0 0) (S 1) (S 2) (S 0 2) (S 0 1) (S 5)) ∧ S 0 3 < S 0 1 ∧ (S 0 4 = 0 ∨ ∃ t, t < S 0 0 ∧ S 1 t = S 0 4) ∧
  (0 < S 0 7 → S 0 8 ≤ 10 ∧ pw_G (S 0 8) (S 6) (S 7) ∧ pw_Bld (S 0 8) (S 6) (S 7) (S 0 7) (S 0 9) (S 8) ∧ ∀ t i, t < S 0 8 → i < S 0 0 → S 1 i = S 6 t → S 2 i = S 7 t)
theorem iS.mono {T T' : Nat} {S : Nat → Nat → Nat} (h : iS T S) (hT : T ≤ T') : iS T' S := by
  obtain ⟨h1, h2, h3, h4⟩ := h
  exact ⟨h1, h2, fun t ht => by have := h3 t ht; omega, h4⟩
def nfd (S : Nat → Nat → Nat) (x : Int32) : Prop := ∀ t, t < S 0 0 → nI (S 1 t) ≠ x
def bdA (S : Nat → Nat → Nat) (x y : Int32) : Prop := x < nI 1 ∨ nI 999 < x ∨ y < nI 1 ∨ nI 40 < y ∨ ∃ t, t < S 0 0 ∧ nI (S 1 t) = x
def gdA (S : Nat → Nat → Nat) (v z : Nat) : Prop := 1 ≤ v ∧ v ≤ 999 ∧ 1 ≤ z ∧ z ≤ 40 ∧ ∀ t, t < S 0 0 → S 1 t ≠ v
def askR (S : Nat → Nat → Nat) (x y : Int32) (kd : Nat) (S' : Nat → Nat → Nat) (v : Int32) : Prop :=
  (kd = 1 ∧ bdA S x y ∧ S' = S) ∨ ∃ vv z, x = nI vv ∧ y = nI z ∧ gdA S vv z ∧
    ((kd = 2 ∧ 0 < S 0 7 ∧ S' = S) ∨ (kd = 3 ∧ S 0 7 = 0 ∧ S 0 0 = 10 ∧ S' = S) ∨
     (kd = 3 ∧ S 0 7 = 0 ∧ S 0 0 < 10 ∧ (∃ g1 g2, pw_mo (S 0 0) (S 1) (S 2) g1 g2 vv z ∧ pw_no (S 0 0 + 1) g2) ∧ ∃ k L2 g1 g2 c2, S' = wS S 0 k L2 g1 g2 c2) ∨
     (kd = 0 ∧ S 0 7 = 0 ∧ S 0 0 < 10 ∧ ∃ w L2 g1 g2 c2, v = nI w ∧ pw_mo (S 0 0) (S 1) (S 2) g1 g2 vv z ∧ pw_Bld (S 0 0 + 1) g1 g2 w L2 c2 ∧ S' = wS S w (S 0 0 + 1) L2 g1 g2 c2))
def dropR (S : Nat → Nat → Nat) (x : Int32) (kd : Nat) (S' : Nat → Nat → Nat) (v : Int32) : Prop :=
  (kd = 1 ∧ nfd S x ∧ S' = S) ∨ ∃ i, i < S 0 0 ∧ x = nI (S 1 i) ∧
    ((kd = 2 ∧ 0 < S 0 7 ∧ S' = S) ∨ (kd = 0 ∧ S 0 7 = 0 ∧ ∃ w L2 g1 g2 c2, v = nI w ∧ pw_le1 (S 0 0) (S 1) (S 2) g1 g2 i ∧ pw_Bld (S 0 0 - 1) g1 g2 w L2 c2 ∧ S' = wS S w (S 0 0 - 1) L2 g1 g2 c2))
def pasR (n : Nat) (f1 f3 f4 cy : Nat → Nat) (ax wi rr wi2 : Nat) (u3 u4 : Nat → Nat) : Prop := rr = (if cy ax = 0 then wi else cy ax) ∧ wi2 = (if cy ax = 0 then 0 else wi) ∧ ∀ t, t < n → u3 t = (if f1 t = rr then 0 else f3 t + 1) ∧ u4 t = max (f4 t) (if f1 t = rr then 0 else f3 t + 1)
def seS (S : Nat → Nat → Nat) (j : Nat) : Prop := pw_SE (S 0 0) (S 1) (S 3) (S 0 8) (S 6) (S 7) (S 0 9) (S 8) j
def slotR (S S' : Nat → Nat → Nat) (v : Int32) : Prop := ∃ rr wi2 u3 u4, v = nI rr ∧
  ((S 0 7 = 0 ∧ pasR (S 0 0) (S 1) (S 3) (S 4) (S 5) (S 0 3) (S 0 4) rr wi2 u3 u4 ∧ S' = mkS (S 0 0) (S 0 1) (S 0 2) (pw_nxt (S 0 3) (S 0 1)) wi2 (S 0 5) (S 0 6 + 1) (S 0 7) (S 0 8) (S 0 9) (S 1) (S 2) u3 u4 (S 5) (S 6) (S 7) (S 8)) ∨
   (0 < S 0 7 ∧ (∀ j, j < S 0 9 → ¬ seS S j) ∧ pasR (S 0 0) (S 1) (S 3) (S 4) (S 5) (S 0 3) (S 0 4) rr wi2 u3 u4 ∧ ∃ g1 g2, (∀ t, t < S 0 8 → g1 t = S 6 t ∧ g2 t = S 7 t) ∧ S' = mkS (S 0 0) (S 0 1) (S 0 2) (pw_nxt (S 0 3) (S 0 1)) wi2 (S 0 5 + 1) (S 0 6 + 1) (S 0 7) (S 0 8) (S 0 9) (S 1) (S 2) u3 u4 (S 5) g1 g2 (S 8)) ∨
   (0 < S 0 7 ∧ ∃ x wx x1 x2 x3 x4, x < S 0 9 ∧ seS S x ∧ (∀ j, j < x → ¬ seS S j) ∧ (∀ t, t < S 0 8 → x1 t = S 6 t ∧ x2 t = S 7 t ∧ x3 t = pw_wt (S 0 0) (S 1) (S 3) (S 6 t) ∧ x4 t = pw_wt (S 0 0) (S 1) (S 4) (S 6 t)) ∧
      ((wx = S 0 4 ∧ ∃ t, t < S 0 8 ∧ S 6 t = S 0 4) ∨ (wx = 0 ∧ ∀ t, t < S 0 8 → S 6 t ≠ S 0 4)) ∧ pasR (S 0 8) x1 x3 x4 (S 8) x wx rr wi2 u3 u4 ∧
      S' = mkS (S 0 8) (S 0 9) (S 0 7) (pw_nxt x (S 0 9)) wi2 (S 0 5) (S 0 6 + 1) 0 (S 0 0) (S 0 1) x1 x2 u3 u4 (S 8) (S 1) (S 2) (S 5)))
def viS (S : Nat → Nat → Nat) (w : Nat) : Nat → Nat → Nat := mkS (S 0 0) (S 0 1) (S 0 2) (S 0 3) w (S 0 5) (S 0 6) (S 0 7) (S 0 8) (S 0 9) (S 1) (S 2) (S 3) (S 4) (S 5) (S 6) (S 7) (S 8)
def wishR (S : Nat → Nat → Nat) (x : Int32) (kd : Nat) (S' : Nat → Nat → Nat) : Prop :=
  (kd = 1 ∧ nfd S x ∧ S' = S) ∨ ∃ i, i < S 0 0 ∧ x = nI (S 1 i) ∧ ((kd = 2 ∧ 0 < S 0 4 ∧ S' = S) ∨ (kd = 0 ∧ S 0 4 = 0 ∧ S' = viS S (S 1 i)))
def getR (g : Nat) (S : Nat → Nat → Nat) (x : Int32) (kd : Nat) (v : Int32) : Prop := (kd = 1 ∧ nfd S x) ∨ (kd = 0 ∧ ∃ i, i < S 0 0 ∧ x = nI (S 1 i) ∧ v = nI (S g i))
def cycO (L : Nat) (cy : Nat → Nat) (i : Int32) (kd : Nat) (v : Int32) : Prop := (i = -1 ∧ kd = 0 ∧ v = nI L) ∨ (∃ j, j < L ∧ i = nI j ∧ kd = 0 ∧ v = nI (cy j)) ∨ (¬ i = -1 ∧ (i < 0 ∨ ¬ i < nI L) ∧ kd = 2)
def cycR (S : Nat → Nat → Nat) (z : Nat) (i : Int32) (kd : Nat) (v : Int32) : Prop := (z = 0 ∧ cycO (S 0 1) (S 5) i kd v) ∨ (z = 1 ∧ S 0 7 = 0 ∧ kd = 1) ∨ (z = 1 ∧ 0 < S 0 7 ∧ cycO (S 0 9) (S 8) i kd v)
def abV (S : Nat → Nat → Nat) : Nat → Int32
  | 0 => nI (S 0 2)
  | 1 => if S 0 7 = 0 then -1 else nI (S 0 7)
  | 2 => nI (S 0 0)
  | 3 => nI (S 0 4)
  | 4 => nI (S 0 3)
  | 5 => nI (S 0 5)
  | _ => nI (S 0 6)
def abR (S : Nat → Nat → Nat) (i : Int32) (kd : Nat) (v : Int32) : Prop := (kd = 1 ∧ (i.toInt < 0 ∨ 6 < i.toInt)) ∨ (kd = 0 ∧ ∃ j, j < 7 ∧ i = nI j ∧ v = abV S j)
def clR (S : Nat → Nat → Nat) (i : Int32) (kd : Nat) (v : Int32) : Prop := (kd = 1 ∧ (i < 0 ∨ ¬ i < nI (S 0 0))) ∨ (kd = 0 ∧ ∃ j, j < S 0 0 ∧ i = nI j ∧ v = nI (S 1 j))
def deR (S : Nat → Nat → Nat) (i : Int32) (kd : Nat) (v : Int64) : Prop := (kd = 1 ∧ ¬ i = 0 ∧ ¬ i = nI 1) ∨ (kd = 0 ∧ ((i = nI 0 ∧ v = lN (pw_de (S 2) (S 0 0)).1) ∨ (i = nI 1 ∧ v = lN (pw_de (S 2) (S 0 0)).2)))
def feR (S : Nat → Nat → Nat) (v : Int32) : Prop := (S 0 0 = 0 ∧ v = nI 1) ∨ (0 < S 0 0 ∧ ((pw_tk (S 2) (S 0 0) ∧ pw_sf (S 2) (S 0 0) ∧ v = nI 1) ∨ (pw_tk (S 2) (S 0 0) ∧ ¬ pw_sf (S 2) (S 0 0) ∧ v = nI 0) ∨ (¬ pw_tk (S 2) (S 0 0) ∧ v = -1)))
/-! numbers -/
theorem i32_of {x : Int32} (h : ¬ x < 0) : ∃ k : Nat, k < 2 ^ 31 ∧ x = nI k := by
  have h0 : (0 : Int) ≤ x.toInt := by
    have := Int32.not_lt.mp h
    simpa using Int32.le_iff_toInt_le.mp this
  have h1 : x.toInt < 2 ^ 31 := Int32.toInt_lt x
  refine ⟨x.toInt.toNat, by omega, ?_⟩
  apply Int32.toInt_inj.mp
  rw [nI_toInt (by omega)]
  omega
theorem i32_in {x : Int32} {n : Nat} (hn : n < 2 ^ 31) (h : ¬ x < 0) (h2 : x < nI n) : ∃ j, j < n ∧ x = nI j := by
  obtain ⟨k, hk, rfl⟩ := i32_of h
  exact ⟨k, (nI_ltI hk hn).mp h2, rfl⟩
theorem i32_lo {x : Int32} (h : ¬ x = -1) (h0 : x < 0) : x < -1 := by
  rw [Int32.lt_iff_toInt_lt] at h0 ⊢
  have e1 : (-1 : Int32).toInt = -1 := by decide
  have e0 : (0 : Int32).toInt = 0 := by decide
  have : x.toInt ≠ -1 := fun z => h (Int32.toInt_inj.mp (z.trans e1.symm))
  omega
theorem i32_hi {x : Int32} {n : Nat} (hn : n < 2 ^ 31) (h0 : 0 < n) (h : ¬ x < nI n) : nI (n - 1) < x := by
  rw [Int32.lt_iff_toInt_lt] at h ⊢
  rw [nI_toInt hn] at h
  rw [nI_toInt (by omega)]
  omega
theorem i32_h2 {x : Int32} {n : Nat} (hn : n < 2 ^ 31) (hx : ¬ x < 0) (h : ¬ x < nI n) : nI n - nI 1 < x := by
  by_cases h0 : n = 0
  · subst h0
    have e : nI 0 - nI 1 = -1 := by decide
    rw [e, Int32.lt_iff_toInt_lt]
    rw [Int32.lt_iff_toInt_lt] at hx
    have e1 : (-1 : Int32).toInt = -1 := by decide
    have e0 : (0 : Int32).toInt = 0 := by decide
    omega
  · rw [pk_sub (by omega)]
    exact i32_hi hn (by omega) h
theorem i32_7 {x : Int32} (h : ¬ (x.toInt < 0 ∨ 6 < x.toInt)) : ∃ j, j < 7 ∧ x = nI j := by
  refine ⟨x.toInt.toNat, by omega, ?_⟩
  apply Int32.toInt_inj.mp
  rw [nI_toInt (by omega)]
  omega
theorem i32_7n {x : Int32} (h : x.toInt < 0 ∨ 6 < x.toInt) : x < nI 0 ∨ nI 6 < x := by
  rw [Int32.lt_iff_toInt_lt, Int32.lt_iff_toInt_lt, nI_toInt (by decide), nI_toInt (by decide)]
  exact h
theorem i32_2n {x : Int32} (h0 : ¬ x = 0) (h1 : ¬ x = nI 1) : x < nI 0 ∨ nI 1 < x := by
  rw [Int32.lt_iff_toInt_lt, Int32.lt_iff_toInt_lt, nI_toInt (by decide), nI_toInt (by decide)]
  have e0 : (0 : Int32).toInt = 0 := by decide
  have a0 : x.toInt ≠ 0 := fun z => h0 (Int32.toInt_inj.mp (z.trans e0.symm))
  have a1 : x.toInt ≠ 1 := fun z => h1 (Int32.toInt_inj.mp (z.trans (nI_toInt (n := 1) (by decide)).symm))
  omega
theorem bdA_no {S : Nat → Nat → Nat} {x y : Int32} (h : ¬ bdA S x y) : ∃ v z, x = nI v ∧ y = nI z ∧ gdA S v z := by
  have h1 : ¬ x < nI 1 := fun z => h (Or.inl z)
  have h2 : ¬ nI 999 < x := fun z => h (Or.inr (Or.inl z))
  have h3 : ¬ y < nI 1 := fun z => h (Or.inr (Or.inr (Or.inl z)))
  have h4 : ¬ nI 40 < y := fun z => h (Or.inr (Or.inr (Or.inr (Or.inl z))))
  have h5 : ∀ t, t < S 0 0 → nI (S 1 t) ≠ x := fun t ht z => h (Or.inr (Or.inr (Or.inr (Or.inr ⟨t, ht, z⟩))))
  obtain ⟨v, hv, rfl⟩ := i32_of (x := x) (fun z => h1 (Int32.lt_trans z (by decide)))
  obtain ⟨z, hz, rfl⟩ := i32_of (x := y) (fun z => h3 (Int32.lt_trans z (by decide)))
  rw [nI_ltI hv (by decide)] at h1
  rw [nI_ltI (by decide) hv] at h2
  rw [nI_ltI hz (by decide)] at h3
  rw [nI_ltI (by decide) hz] at h4
  exact ⟨v, z, rfl, rfl, by omega, by omega, by omega, by omega, fun t ht e => h5 t ht (by rw [e])⟩
