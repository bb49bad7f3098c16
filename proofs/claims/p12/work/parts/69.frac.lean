/-! the greatest shared divisor, on both sides the same -/
section FR
variable {Q : q_R} {M : q_M}
/-- Euclid with so many looks at the second number -/
def s_gO : Nat → Int64 → Int64 → Option Int64
  | 0, _, _ => none
  | k + 1, x, z => if z = 0 then some x else s_gO k z (x - x / z * z)
theorem s_gO_up : ∀ (k : Nat) (x z v : Int64), s_gO k x z = some v → s_gO (k + 1) x z = some v
  | 0, _, _, _, h => by cases h
  | k + 1, x, z, v, h => by
    unfold s_gO at h ⊢
    by_cases hz : z = 0
    · rw [if_pos hz] at h ⊢
      exact h
    · rw [if_neg hz] at h ⊢
      exact s_gO_up k _ _ _ h
theorem s_gO_le {k : Nat} {x z v : Int64} (h : s_gO k x z = some v) : ∀ {n : Nat}, k ≤ n → s_gO n x z = some v := by
  intro n hn
  induction hn with
  | refl => exact h
  | step _ ih => exact s_gO_up _ _ _ _ ih
theorem mod_half {a y : Nat} (h0 : 0 < y) (h : y ≤ a) : 2 * (a % y) ≤ a := by
  have h1 := Nat.mod_lt a h0
  have h2 : a % y = (a - y) % y := Nat.mod_eq_sub_mod h
  have h3 := Nat.mod_le (a - y) y
  omega
theorem i64_ne {y : Int64} (h : ¬ y = 0) : 0 < y.toInt.natAbs := by
  have : ¬ y.toInt = 0 := fun q => h (Int64.toInt_inj.mp (by rw [q]; rfl))
  omega
theorem i64_mod {x y : Int64} : (x - x / y * y).toInt.natAbs = x.toInt.natAbs % y.toInt.natAbs := by
  rw [Jvm.Kit.i64_rem, Int.natAbs_tmod]
theorem s_gO_ex : ∀ (k : Nat) (x z : Int64), z.toInt.natAbs < 2 ^ k → ∃ v, s_gO (2 * k + 1) x z = some v
  | 0, x, z, h => by
    have hz : z = 0 := by
      apply Classical.byContradiction
      intro q
      have := i64_ne q
      simp at h
      omega
    exact ⟨x, by unfold s_gO; rw [if_pos hz]⟩
  | k + 1, x, z, h => by
    show ∃ v, s_gO (2 * k + 2 + 1) x z = some v
    unfold s_gO
    by_cases hz : z = 0
    · exact ⟨x, by rw [if_pos hz]⟩
    · rw [if_neg hz]
      unfold s_gO
      by_cases hy : x - x / z * z = 0
      · exact ⟨z, by rw [if_pos hy]⟩
      · rw [if_neg hy]
        refine s_gO_ex k _ _ ?_
        have h1 : (x - x / z * z).toInt.natAbs < z.toInt.natAbs := lrem_abs hz
        have h2 := mod_half (a := z.toInt.natAbs) (i64_ne hy) (by omega)
        rw [← i64_mod] at h2
        rw [Nat.pow_succ] at h
        omega
/-- the greatest shared divisor -/
def s_gcd (x z : Int64) : Int64 := (s_gO 129 x z).getD 0
theorem s_gcd_eq {x z : Int64} (h : z.toInt.natAbs < 2 ^ 64) : s_gO 129 x z = some (s_gcd x z) := by
  obtain ⟨v, hv⟩ := s_gO_ex 64 x z h
  have hv2 : s_gO 129 x z = some v := hv
  unfold s_gcd
  rw [hv2]
  rfl
theorem i64_abs (z : Int64) : z.toInt.natAbs < 2 ^ 64 := by
  have h1 := Int64.toInt_lt z
  have h2 := Int64.le_toInt z
  omega
theorem s_gO_ne : ∀ (k : Nat) (x z v : Int64), s_gO k x z = some v → (z = 0 → ¬ x = 0) → ¬ v = 0
  | 0, _, _, _, h, _ => by cases h
  | k + 1, x, z, v, h, hx => by
    unfold s_gO at h
    by_cases hz : z = 0
    · rw [if_pos hz] at h
      cases h
      exact hx hz
    · rw [if_neg hz] at h
      exact s_gO_ne k _ _ _ h (fun _ => hz)
theorem x_F_greatestShared_l {p q r w o : Option Value} {a0 a2 : Int64} : ∀ (k j : Nat), j + k = 128 → ∀ (x z v : Int64) (o1 o2 : Option Value), s_gO (k + 1) x z = some v → Q (some (.long v)) M →
    q_g 56 none Q 9 [some (.long a0), none, some (.long a2), none, some (.long x), none, some (.long z), none, some (.int (nI j)), o1, o2] [] M := by
  intro k
  induction k with
  | zero =>
    intro j hj x z v o1 o2 hv hQ
    have : j = 128 := by omega
    subst this
    have h1 : (128 : Int32) ≤ nI 128 := by decide
    have hx : x = v := by
      have hv2 : (if z = 0 then some x else none) = some v := hv
      by_cases hz : z = 0
      · rw [if_pos hz] at hv2
        exact Option.some.inj hv2
      · rw [if_neg hz] at hv2
        cases hv2
    rw [gF_greatestShared_9]
    simp only [gF_greatestShared_0, gF_greatestShared_1, gF_greatestShared_3, gF_greatestShared_4, gF_greatestShared_6, gF_greatestShared_7, gF_greatestShared_11, gF_greatestShared_14, gF_greatestShared_17, gF_greatestShared_19, gF_greatestShared_20, gF_greatestShared_21, gF_greatestShared_24, gF_greatestShared_26, gF_greatestShared_28, gF_greatestShared_29, gF_greatestShared_31, gF_greatestShared_33, gF_greatestShared_35, gF_greatestShared_37, gF_greatestShared_39, gF_greatestShared_42, gF_greatestShared_45, gF_greatestShared_47, h1, ↓reduceIte, Bool.false_eq_true, Bool.true_eq_false, qk_i, qk_r, qk_n, Option.toList_some, Option.toList_none, List.cons_append, List.nil_append, true_and, and_true, true_or, or_true, eq_self, if_true, if_false, q_b1, q_b2, c_A, c_R, c_O, c_M, c_H1, c_H8, c_H15]
    rw [hx]
    exact hQ
  | succ k ih =>
    intro j hj x z v o1 o2 hv hQ
    have h1 : ¬ (128 : Int32) ≤ nI j := nI_ge (b := 128) (by omega) (by omega)
    rw [gF_greatestShared_9]
    simp only [gF_greatestShared_0, gF_greatestShared_1, gF_greatestShared_3, gF_greatestShared_4, gF_greatestShared_6, gF_greatestShared_7, gF_greatestShared_11, gF_greatestShared_14, gF_greatestShared_17, gF_greatestShared_19, gF_greatestShared_20, gF_greatestShared_21, gF_greatestShared_24, gF_greatestShared_26, gF_greatestShared_28, gF_greatestShared_29, gF_greatestShared_31, gF_greatestShared_33, gF_greatestShared_35, gF_greatestShared_37, gF_greatestShared_39, gF_greatestShared_42, gF_greatestShared_45, gF_greatestShared_47, h1, lcmp_0, ↓reduceIte, Bool.false_eq_true, Bool.true_eq_false, qk_i, qk_r, qk_n, Option.toList_some, Option.toList_none, List.cons_append, List.nil_append, true_and, and_true, true_or, or_true, eq_self, if_true, if_false, q_b1, q_b2, c_A, c_R, c_O, c_M, c_H1, c_H8, c_H15, nI_1]
    unfold s_gO at hv
    by_cases hz : z = 0
    · rw [if_pos hz] at hv ⊢
      cases hv
      exact hQ
    · rw [if_neg hz] at hv ⊢
      exact ⟨hz, ih (j + 1) (by omega) _ _ _ _ _ hv hQ⟩
theorem x_F_greatestShared {a b : Int64} (hQ : Q (some (.long (s_gcd a b))) M) : q_Run 56 [.long a, .long b] M Q := by
  rw [e_F_greatestShared]
  simp only [gF_greatestShared_0, gF_greatestShared_1, gF_greatestShared_3, gF_greatestShared_4, gF_greatestShared_6, gF_greatestShared_7, gF_greatestShared_11, gF_greatestShared_14, gF_greatestShared_17, gF_greatestShared_19, gF_greatestShared_20, gF_greatestShared_21, gF_greatestShared_24, gF_greatestShared_26, gF_greatestShared_28, gF_greatestShared_29, gF_greatestShared_31, gF_greatestShared_33, gF_greatestShared_35, gF_greatestShared_37, gF_greatestShared_39, gF_greatestShared_42, gF_greatestShared_45, gF_greatestShared_47, ↓reduceIte, Bool.false_eq_true, Bool.true_eq_false, qk_i, qk_r, qk_n, Option.toList_some, Option.toList_none, List.cons_append, List.nil_append, true_and, and_true, true_or, or_true, eq_self, if_true, if_false, q_b1, q_b2, c_A, c_R, c_O, c_M, c_H1, c_H8, c_H15]
  exact x_F_greatestShared_l (p := none) (q := none) (r := none) (w := none) (o := none) 128 0 (by omega) _ _ _ _ _ (s_gcd_eq (i64_abs b)) hQ
theorem x_M_divisor_l {a0 a2 : Int64} : ∀ (k : Nat) (x z v : Int64) (o8 o9 : Option Value), s_gO k x z = some v → Q (some (.long v)) M →
    q_g 102 none Q 6 [some (.long a0), none, some (.long a2), none, some (.long x), none, some (.long z), none, o8, o9] [] M := by
  intro k
  induction k with
  | zero => intro x z v o8 o9 h; cases h
  | succ k ih =>
    intro x z v o8 o9 hv hQ
    rw [gM_divisor_6]
    simp only [gM_divisor_0, gM_divisor_1, gM_divisor_3, gM_divisor_4, gM_divisor_8, gM_divisor_9, gM_divisor_10, gM_divisor_13, gM_divisor_15, gM_divisor_17, gM_divisor_18, gM_divisor_20, gM_divisor_22, gM_divisor_24, gM_divisor_26, gM_divisor_28, gM_divisor_31, gM_divisor_33, lcmp_0, ↓reduceIte, Bool.false_eq_true, Bool.true_eq_false, qk_i, qk_r, qk_n, Option.toList_some, Option.toList_none, List.cons_append, List.nil_append, true_and, and_true, true_or, or_true, eq_self, if_true, if_false, q_b1, q_b2, c_A, c_R, c_O, c_M, c_H1, c_H8, c_H15]
    unfold s_gO at hv
    by_cases hz : z = 0
    · rw [if_pos hz] at hv ⊢
      cases hv
      exact hQ
    · rw [if_neg hz] at hv ⊢
      exact ⟨hz, ih _ _ _ _ _ hv hQ⟩
theorem x_M_divisor {a b : Int64} (hQ : Q (some (.long (s_gcd a b))) M) : q_Run 102 [.long a, .long b] M Q := by
  rw [e_M_divisor]
  simp only [gM_divisor_0, gM_divisor_1, gM_divisor_3, gM_divisor_4, gM_divisor_8, gM_divisor_9, gM_divisor_10, gM_divisor_13, gM_divisor_15, gM_divisor_17, gM_divisor_18, gM_divisor_20, gM_divisor_22, gM_divisor_24, gM_divisor_26, gM_divisor_28, gM_divisor_31, gM_divisor_33, ↓reduceIte, Bool.false_eq_true, Bool.true_eq_false, qk_i, qk_r, qk_n, Option.toList_some, Option.toList_none, List.cons_append, List.nil_append, true_and, and_true, true_or, or_true, eq_self, if_true, if_false, q_b1, q_b2, c_A, c_R, c_O, c_M, c_H1, c_H8, c_H15]
  exact x_M_divisor_l 129 _ _ _ _ _ (s_gcd_eq (i64_abs b)) hQ
end FR
section DW
variable {Q : q_R} {M : q_M}
def s_part (x y : Int64) (p : Int32) : Int64 := (if p = 0 then x else y) / s_gcd x y
theorem x_F_partOf {a b : Int64} {p : Int32} (hp : ¬ lg_cmp (s_gcd a b) 0 ≤ 0) (hQ : Q (some (.long (s_part a b p))) M) : q_Run 57 [.long a, .long b, .int p] M Q := by
  rw [e_F_partOf]
  simp only [gF_partOf_0, gF_partOf_1, gF_partOf_2, gF_partOf_5, gF_partOf_7, gF_partOf_9, gF_partOf_12, gF_partOf_13, gF_partOf_16, gF_partOf_19, gF_partOf_21, gF_partOf_22, gF_partOf_23, gF_partOf_26, gF_partOf_28, gF_partOf_30, gF_partOf_31, gF_partOf_34, gF_partOf_36, ↓reduceIte, Bool.false_eq_true, Bool.true_eq_false, qk_i, qk_r, qk_n, Option.toList_some, Option.toList_none, List.cons_append, List.nil_append, true_and, and_true, true_or, or_true, eq_self, if_true, if_false, q_b1, q_b2, c_A, c_R, c_O, c_M, c_H1, c_H8, c_H15]
  refine x_F_greatestShared ?_
  simp only [gF_partOf_0, gF_partOf_1, gF_partOf_2, gF_partOf_5, gF_partOf_7, gF_partOf_9, gF_partOf_12, gF_partOf_13, gF_partOf_16, gF_partOf_19, gF_partOf_21, gF_partOf_22, gF_partOf_23, gF_partOf_26, gF_partOf_28, gF_partOf_30, gF_partOf_31, gF_partOf_34, gF_partOf_36, ↓reduceIte, Bool.false_eq_true, Bool.true_eq_false, qk_i, qk_r, qk_n, Option.toList_some, Option.toList_none, List.cons_append, List.nil_append, true_and, and_true, true_or, or_true, eq_self, if_true, if_false, q_b1, q_b2, c_A, c_R, c_O, c_M, c_H1, c_H8, c_H15]
  have e : ∀ x : Int64, x / s_gcd a b = s_part a b p → q_g 57 none Q 17 [some (.long a), none, some (.long b), none, some (.int p), some (.long (s_gcd a b)), none, none, none] [.long x] M := by
    intro x hx
    simp only [gF_partOf_0, gF_partOf_1, gF_partOf_2, gF_partOf_5, gF_partOf_7, gF_partOf_9, gF_partOf_12, gF_partOf_13, gF_partOf_16, gF_partOf_17, gF_partOf_19, gF_partOf_21, gF_partOf_22, gF_partOf_23, gF_partOf_26, gF_partOf_28, gF_partOf_30, gF_partOf_31, gF_partOf_34, gF_partOf_36, hp, ↓reduceIte, Bool.false_eq_true, Bool.true_eq_false, qk_i, qk_r, qk_n, Option.toList_some, Option.toList_none, List.cons_append, List.nil_append, true_and, and_true, true_or, or_true, eq_self, if_true, if_false, q_b1, q_b2, c_A, c_R, c_O, c_M, c_H1, c_H8, c_H15]
    refine ⟨fun hz => hp (by rw [hz]; decide), ?_⟩
    rw [hx]
    exact hQ
  by_cases h : p = 0
  · simp only [h, not_true_eq_false, ↓reduceIte, Bool.false_eq_true, Bool.true_eq_false, qk_i, qk_r, qk_n, Option.toList_some, Option.toList_none, List.cons_append, List.nil_append, true_and, and_true, true_or, or_true, eq_self, if_true, if_false, q_b1, q_b2, c_A, c_R, c_O, c_M, c_H1, c_H8, c_H15]
    rw [h] at e
    exact e a (by unfold s_part; rw [if_pos rfl])
  · simp only [h, not_false_eq_true, ↓reduceIte, Bool.false_eq_true, Bool.true_eq_false, qk_i, qk_r, qk_n, Option.toList_some, Option.toList_none, List.cons_append, List.nil_append, true_and, and_true, true_or, or_true, eq_self, if_true, if_false, q_b1, q_b2, c_A, c_R, c_O, c_M, c_H1, c_H8, c_H15]
    exact e b (by unfold s_part; rw [if_neg h])
theorem x_M_partOf {a b : Int64} {p : Int32} (hp : ¬ lg_cmp (s_gcd a b) 0 ≤ 0) (hQ : Q (some (.long (s_part a b p))) M) : q_Run 133 [.long a, .long b, .int p] M Q := by
  have e : ∀ x : Int64, x / s_gcd a b = s_part a b p → q_g 133 none Q 10 [some (.long a), none, some (.long b), none, some (.int p)] [.long x] M := by
    intro x hx
    simp only [gM_partOf_0, gM_partOf_2, gM_partOf_5, gM_partOf_6, gM_partOf_9, gM_partOf_10, gM_partOf_11, gM_partOf_12, gM_partOf_15, gM_partOf_16, ↓reduceIte, Bool.false_eq_true, Bool.true_eq_false, qk_i, qk_r, qk_n, Option.toList_some, Option.toList_none, List.cons_append, List.nil_append, true_and, and_true, true_or, or_true, eq_self, if_true, if_false, q_b1, q_b2, c_A, c_R, c_O, c_M, c_H1, c_H8, c_H15]
    refine x_M_divisor ?_
    simp only [gM_partOf_0, gM_partOf_2, gM_partOf_5, gM_partOf_6, gM_partOf_9, gM_partOf_10, gM_partOf_11, gM_partOf_12, gM_partOf_15, gM_partOf_16, ↓reduceIte, Bool.false_eq_true, Bool.true_eq_false, qk_i, qk_r, qk_n, Option.toList_some, Option.toList_none, List.cons_append, List.nil_append, true_and, and_true, true_or, or_true, eq_self, if_true, if_false, q_b1, q_b2, c_A, c_R, c_O, c_M, c_H1, c_H8, c_H15]
    refine ⟨fun hz => hp (by rw [hz]; decide), ?_⟩
    rw [hx]
    exact hQ
  rw [e_M_partOf]
  simp only [gM_partOf_0, gM_partOf_2, gM_partOf_5, gM_partOf_6, gM_partOf_9, gM_partOf_11, gM_partOf_12, gM_partOf_15, gM_partOf_16, ↓reduceIte, Bool.false_eq_true, Bool.true_eq_false, qk_i, qk_r, qk_n, Option.toList_some, Option.toList_none, List.cons_append, List.nil_append, true_and, and_true, true_or, or_true, eq_self, if_true, if_false, q_b1, q_b2, c_A, c_R, c_O, c_M, c_H1, c_H8, c_H15]
  by_cases h : p = 0
  · simp only [h, not_true_eq_false, ↓reduceIte, Bool.false_eq_true, Bool.true_eq_false, qk_i, qk_r, qk_n, Option.toList_some, Option.toList_none, List.cons_append, List.nil_append, true_and, and_true, true_or, or_true, eq_self, if_true, if_false, q_b1, q_b2, c_A, c_R, c_O, c_M, c_H1, c_H8, c_H15]
    rw [h] at e
    exact e a (by unfold s_part; rw [if_pos rfl])
  · simp only [h, not_false_eq_true, ↓reduceIte, Bool.false_eq_true, Bool.true_eq_false, qk_i, qk_r, qk_n, Option.toList_some, Option.toList_none, List.cons_append, List.nil_append, true_and, and_true, true_or, or_true, eq_self, if_true, if_false, q_b1, q_b2, c_A, c_R, c_O, c_M, c_H1, c_H8, c_H15]
    exact e b (by unfold s_part; rw [if_neg h])
/-- the drawer's answer -/
def s_unk (a b : Int32) : Int64 := ((if a - b < 1 then 1 else a - b) + 1).toInt64
def s_dwv (a b c : Int32) : Int64 := if a < 1 then s_low (-4) else if 0 ≤ b then (if 30 < a then s_low (-6) else if b ≤ a then (if b_noPart c = true then s_low (-2) else s_part (s_unk a b) 2 c) else s_low (-6)) else s_low (-4)
theorem s_unk_k : ∀ i, i < 31 → ∀ j, j < 31 → ¬ lg_cmp (s_gcd (s_unk (nI i) (nI j)) 2) 0 ≤ 0 := by decide +kernel
theorem s_unk_e : ∀ i, i < 31 → ∀ j, j < 31 → nI j ≤ nI i → ¬ nI j = nI i → s_unk (nI i) (nI j) = (nI i - nI j + 1).toInt64 := by decide +kernel
theorem s_unk_1 : s_part (((1 : Int32) + 1).toInt64) 2 0 = 1 ∧ s_part (((1 : Int32) + 1).toInt64) 2 1 = 1 := by decide +kernel
theorem nI_of30 {a : Int32} (h0 : 0 ≤ a) (h1 : ¬ 30 < a) : ∃ i, i < 31 ∧ a = nI i := by
  obtain ⟨n, hn, rfl⟩ := nI_of (x := a) (Int32.not_lt.mpr h0)
  have h2 : ¬ nI 30 < nI n := h1
  rw [nI_ltI (by omega) (by omega)] at h2
  exact ⟨n, by omega, rfl⟩
theorem nP_cases {c : Int32} (h : ¬ b_noPart c = true) : c = 0 ∨ c = 1 := by
  unfold b_noPart at h
  simp only [Bool.or_eq_true, decide_eq_true_eq, not_or, Classical.not_not] at h
  obtain ⟨h1, h2⟩ := h
  have e0 : (0 : Int32).toInt = 0 := by decide
  have e1 : (1 : Int32).toInt = 1 := by decide
  rw [Int32.lt_iff_toInt_lt, e0] at h1
  rw [Int32.le_iff_toInt_le, e1] at h2
  rcases (show c.toInt = 0 ∨ c.toInt = 1 by omega) with q | q
  · exact Or.inl (Int32.toInt_inj.mp (by rw [q, e0]))
  · exact Or.inr (Int32.toInt_inj.mp (by rw [q, e1]))
theorem b_in_part {c : Int32} : b_in c 0 1 = !b_noPart c := by
  unfold b_in b_noPart
  by_cases h1 : c < 0
  · have h3 : ¬ (0 : Int32) ≤ c := Int32.not_le.mpr h1
    simp [h1, h3]
  · have h3 : (0 : Int32) ≤ c := Int32.not_lt.mp h1
    by_cases h2 : c ≤ 1
    · have h4 : ¬ (1 : Int32) < c := Int32.not_lt.mpr h2
      simp [h1, h2, h3, h4]
    · have h4 : (1 : Int32) < c := Int32.not_le.mp h2
      simp [h1, h2, h3, h4]
theorem z_A_drawer {a b c : Int32} (hQ : ∀ M', eqx Sq M M' → Q (some (.long (s_dwv a b c))) M') : q_Run 61 [.ref 0, .int a, .int b, .int c] M Q := by
  rw [e_A_drawer]
  simp only [gA_drawer_0, gA_drawer_1, gA_drawer_2, gA_drawer_5, gA_drawer_6, gA_drawer_9, gA_drawer_10, gA_drawer_12, gA_drawer_15, gA_drawer_16, gA_drawer_17, gA_drawer_19, gA_drawer_22, gA_drawer_23, gA_drawer_24, gA_drawer_27, gA_drawer_28, gA_drawer_30, gA_drawer_33, gA_drawer_34, gA_drawer_35, gA_drawer_38, gA_drawer_41, gA_drawer_42, gA_drawer_44, gA_drawer_47, gA_drawer_48, gA_drawer_49, gA_drawer_50, gA_drawer_51, gA_drawer_52, gA_drawer_55, gA_drawer_57, gA_drawer_59, gA_drawer_60, gA_drawer_61, gA_drawer_62, gA_drawer_65, gA_drawer_66, gA_drawer_69, x_A_refuseLong, x_A_isNoPart, ↓reduceIte, Bool.false_eq_true, Bool.true_eq_false, qk_i, qk_r, qk_n, Option.toList_some, Option.toList_none, List.cons_append, List.nil_append, true_and, and_true, true_or, or_true, eq_self, if_true, if_false, q_b1, q_b2, c_A, c_R, c_O, c_M, c_H1, c_H8, c_H15]
  unfold s_dwv at hQ
  by_cases h1 : a < 1
  · simp only [h1, ↓reduceIte, Bool.false_eq_true, Bool.true_eq_false, qk_i, qk_r, qk_n, Option.toList_some, Option.toList_none, List.cons_append, List.nil_append, true_and, and_true, true_or, or_true, eq_self, if_true, if_false, q_b1, q_b2, c_A, c_R, c_O, c_M, c_H1, c_H8, c_H15] at hQ ⊢
    exact hQ _ eqx_ref
  · by_cases h2 : 0 ≤ b
    · by_cases h3 : 30 < a
      · simp only [h1, h2, h3, ↓reduceIte, Bool.false_eq_true, Bool.true_eq_false, qk_i, qk_r, qk_n, Option.toList_some, Option.toList_none, List.cons_append, List.nil_append, true_and, and_true, true_or, or_true, eq_self, if_true, if_false, q_b1, q_b2, c_A, c_R, c_O, c_M, c_H1, c_H8, c_H15] at hQ ⊢
        exact hQ _ eqx_ref
      · by_cases h4 : b ≤ a
        · by_cases h5 : b_noPart c = true
          · simp only [h1, h2, h3, h4, h5, q_z, ↓reduceIte, Bool.false_eq_true, Bool.true_eq_false, qk_i, qk_r, qk_n, Option.toList_some, Option.toList_none, List.cons_append, List.nil_append, true_and, and_true, true_or, or_true, eq_self, if_true, if_false, q_b1, q_b2, c_A, c_R, c_O, c_M, c_H1, c_H8, c_H15] at hQ ⊢
            exact hQ _ eqx_ref
          · have h6 : b_noPart c = false := by simpa using h5
            have g1 : (0 : Int32) ≤ a := Int32.le_trans h2 h4
            have g2 : ¬ (30 : Int32) < b := fun q => h3 (Int32.lt_of_lt_of_le q h4)
            obtain ⟨i, hi, rfl⟩ := nI_of30 g1 h3
            obtain ⟨j, hj, rfl⟩ := nI_of30 h2 g2
            simp only [h1, h2, h3, h4, h6, q_z, ↓reduceIte, Bool.false_eq_true, Bool.true_eq_false, qk_i, qk_r, qk_n, Option.toList_some, Option.toList_none, List.cons_append, List.nil_append, true_and, and_true, true_or, or_true, eq_self, if_true, if_false, q_b1, q_b2, c_A, c_R, c_O, c_M, c_H1, c_H8, c_H15] at hQ ⊢
            refine x_F_partOf (s_unk_k i hi j hj) ?_
            simp only [gA_drawer_0, gA_drawer_1, gA_drawer_2, gA_drawer_5, gA_drawer_6, gA_drawer_9, gA_drawer_10, gA_drawer_12, gA_drawer_15, gA_drawer_16, gA_drawer_17, gA_drawer_19, gA_drawer_22, gA_drawer_23, gA_drawer_24, gA_drawer_27, gA_drawer_28, gA_drawer_30, gA_drawer_33, gA_drawer_34, gA_drawer_35, gA_drawer_38, gA_drawer_41, gA_drawer_42, gA_drawer_44, gA_drawer_47, gA_drawer_48, gA_drawer_49, gA_drawer_50, gA_drawer_51, gA_drawer_52, gA_drawer_55, gA_drawer_57, gA_drawer_59, gA_drawer_60, gA_drawer_61, gA_drawer_62, gA_drawer_65, gA_drawer_66, gA_drawer_69, ↓reduceIte, Bool.false_eq_true, Bool.true_eq_false, qk_i, qk_r, qk_n, Option.toList_some, Option.toList_none, List.cons_append, List.nil_append, true_and, and_true, true_or, or_true, eq_self, if_true, if_false, q_b1, q_b2, c_A, c_R, c_O, c_M, c_H1, c_H8, c_H15]
            exact hQ _ eqx.rf
        · simp only [h1, h2, h3, h4, ↓reduceIte, Bool.false_eq_true, Bool.true_eq_false, qk_i, qk_r, qk_n, Option.toList_some, Option.toList_none, List.cons_append, List.nil_append, true_and, and_true, true_or, or_true, eq_self, if_true, if_false, q_b1, q_b2, c_A, c_R, c_O, c_M, c_H1, c_H8, c_H15] at hQ ⊢
          exact hQ _ eqx_ref
    · simp only [h1, h2, ↓reduceIte, Bool.false_eq_true, Bool.true_eq_false, qk_i, qk_r, qk_n, Option.toList_some, Option.toList_none, List.cons_append, List.nil_append, true_and, and_true, true_or, or_true, eq_self, if_true, if_false, q_b1, q_b2, c_A, c_R, c_O, c_M, c_H1, c_H8, c_H15] at hQ ⊢
      exact hQ _ eqx_ref
theorem z_M_drawer {a b c : Int32} (hQ : ∀ M', eqx Sm M M' → Q (some (.long (s_dwv a b c))) M') : q_Run 104 [.ref 30, .int a, .int b, .int c] M Q := by
  have e1 : ∀ w : Int32, q_in (-w) 7 = true → ¬ w = 0 → s_dwv a b c = s_low w → q_g 104 none Q 45 [some (.ref 30), some (.int a), some (.int b), some (.int c), none] [.int w] M := by
    intro w hw hz hv
    simp only [gM_drawer_0, gM_drawer_1, gM_drawer_2, gM_drawer_5, gM_drawer_6, gM_drawer_9, gM_drawer_11, gM_drawer_14, gM_drawer_15, gM_drawer_17, gM_drawer_20, gM_drawer_21, gM_drawer_22, gM_drawer_25, gM_drawer_27, gM_drawer_30, gM_drawer_31, gM_drawer_32, gM_drawer_33, gM_drawer_36, gM_drawer_39, gM_drawer_41, gM_drawer_44, gM_drawer_45, gM_drawer_47, gM_drawer_49, gM_drawer_52, gM_drawer_53, gM_drawer_55, gM_drawer_58, gM_drawer_59, gM_drawer_60, gM_drawer_61, gM_drawer_64, gM_drawer_65, gM_drawer_68, gM_drawer_69, gM_drawer_70, gM_drawer_71, gM_drawer_72, gM_drawer_73, gM_drawer_74, gM_drawer_77, gM_drawer_78, gM_drawer_81, x_M_lowest hw, hz, ↓reduceIte, Bool.false_eq_true, Bool.true_eq_false, qk_i, qk_r, qk_n, Option.toList_some, Option.toList_none, List.cons_append, List.nil_append, true_and, and_true, true_or, or_true, eq_self, if_true, if_false, q_b1, q_b2, c_A, c_R, c_O, c_M, c_H1, c_H8, c_H15]
    rw [← hv]
    exact hQ _ eqm_no
  rw [e_M_drawer]
  simp only [gM_drawer_0, gM_drawer_1, gM_drawer_2, gM_drawer_5, gM_drawer_6, gM_drawer_9, gM_drawer_11, gM_drawer_14, gM_drawer_15, gM_drawer_17, gM_drawer_20, gM_drawer_21, gM_drawer_22, gM_drawer_25, gM_drawer_27, gM_drawer_30, gM_drawer_31, gM_drawer_32, gM_drawer_33, gM_drawer_36, gM_drawer_39, gM_drawer_41, gM_drawer_44, gM_drawer_47, gM_drawer_49, gM_drawer_52, gM_drawer_53, gM_drawer_55, gM_drawer_58, gM_drawer_59, gM_drawer_60, gM_drawer_61, gM_drawer_64, gM_drawer_65, gM_drawer_68, gM_drawer_69, gM_drawer_70, gM_drawer_71, gM_drawer_72, gM_drawer_73, gM_drawer_74, gM_drawer_77, gM_drawer_78, gM_drawer_81, x_M_isIn, b_in_part, ↓reduceIte, Bool.false_eq_true, Bool.true_eq_false, qk_i, qk_r, qk_n, Option.toList_some, Option.toList_none, List.cons_append, List.nil_append, true_and, and_true, true_or, or_true, eq_self, if_true, if_false, q_b1, q_b2, c_A, c_R, c_O, c_M, c_H1, c_H8, c_H15]
  by_cases h1 : a < 1
  · simp only [h1, ↓reduceIte, Bool.false_eq_true, Bool.true_eq_false, qk_i, qk_r, qk_n, Option.toList_some, Option.toList_none, List.cons_append, List.nil_append, true_and, and_true, true_or, or_true, eq_self, if_true, if_false, q_b1, q_b2, c_A, c_R, c_O, c_M, c_H1, c_H8, c_H15]
    exact e1 _ (by decide) (by decide) (by unfold s_dwv; rw [if_pos h1])
  · by_cases h2 : 0 ≤ b
    · by_cases h3 : 30 < a
      · simp only [h1, h2, h3, ↓reduceIte, Bool.false_eq_true, Bool.true_eq_false, qk_i, qk_r, qk_n, Option.toList_some, Option.toList_none, List.cons_append, List.nil_append, true_and, and_true, true_or, or_true, eq_self, if_true, if_false, q_b1, q_b2, c_A, c_R, c_O, c_M, c_H1, c_H8, c_H15]
        exact e1 _ (by decide) (by decide) (by unfold s_dwv; rw [if_neg h1, if_pos h2, if_pos h3])
      · by_cases h4 : b ≤ a
        · by_cases h5 : b_noPart c = true
          · simp only [h1, h2, h3, h4, h5, q_z, Bool.not_true, not_true_eq_false, ↓reduceIte, Bool.false_eq_true, Bool.true_eq_false, qk_i, qk_r, qk_n, Option.toList_some, Option.toList_none, List.cons_append, List.nil_append, true_and, and_true, true_or, or_true, eq_self, if_true, if_false, q_b1, q_b2, c_A, c_R, c_O, c_M, c_H1, c_H8, c_H15]
            exact e1 _ (by decide) (by decide) (by unfold s_dwv; rw [if_neg h1, if_pos h2, if_neg h3, if_pos h4, if_pos h5])
          · have h6 : b_noPart c = false := by simpa using h5
            have ev : s_dwv a b c = s_part (s_unk a b) 2 c := by unfold s_dwv; rw [if_neg h1, if_pos h2, if_neg h3, if_pos h4, if_neg h5]
            rw [ev] at hQ
            have g1 : (0 : Int32) ≤ a := Int32.le_trans h2 h4
            have g2 : ¬ (30 : Int32) < b := fun q => h3 (Int32.lt_of_lt_of_le q h4)
            obtain ⟨i, hi, rfl⟩ := nI_of30 g1 h3
            obtain ⟨j, hj, rfl⟩ := nI_of30 h2 g2
            have h10 : ¬ (1 : Int32) = 0 := by decide
            simp only [h1, h2, h3, h4, h6, h10, q_z, Bool.not_false, not_false_eq_true, ↓reduceIte, Bool.false_eq_true, Bool.true_eq_false, qk_i, qk_r, qk_n, Option.toList_some, Option.toList_none, List.cons_append, List.nil_append, true_and, and_true, true_or, or_true, eq_self, if_true, if_false, q_b1, q_b2, c_A, c_R, c_O, c_M, c_H1, c_H8, c_H15]
            rw [gM_drawer_45]
            simp only [gM_drawer_0, gM_drawer_1, gM_drawer_2, gM_drawer_5, gM_drawer_6, gM_drawer_9, gM_drawer_11, gM_drawer_14, gM_drawer_15, gM_drawer_17, gM_drawer_20, gM_drawer_21, gM_drawer_22, gM_drawer_25, gM_drawer_27, gM_drawer_30, gM_drawer_31, gM_drawer_32, gM_drawer_33, gM_drawer_36, gM_drawer_39, gM_drawer_41, gM_drawer_44, gM_drawer_47, gM_drawer_49, gM_drawer_52, gM_drawer_53, gM_drawer_55, gM_drawer_58, gM_drawer_59, gM_drawer_60, gM_drawer_61, gM_drawer_64, gM_drawer_65, gM_drawer_68, gM_drawer_69, gM_drawer_70, gM_drawer_71, gM_drawer_72, gM_drawer_73, gM_drawer_74, gM_drawer_77, gM_drawer_78, gM_drawer_81, ↓reduceIte, Bool.false_eq_true, Bool.true_eq_false, qk_i, qk_r, qk_n, Option.toList_some, Option.toList_none, List.cons_append, List.nil_append, true_and, and_true, true_or, or_true, eq_self, if_true, if_false, q_b1, q_b2, c_A, c_R, c_O, c_M, c_H1, c_H8, c_H15]
            by_cases h7 : nI j = nI i
            · simp only [h7, not_true_eq_false, ↓reduceIte, Bool.false_eq_true, Bool.true_eq_false, qk_i, qk_r, qk_n, Option.toList_some, Option.toList_none, List.cons_append, List.nil_append, true_and, and_true, true_or, or_true, eq_self, if_true, if_false, q_b1, q_b2, c_A, c_R, c_O, c_M, c_H1, c_H8, c_H15]
              have e2 : s_part (s_unk (nI i) (nI j)) 2 c = 1 := by
                have e3 : s_unk (nI i) (nI j) = ((1 : Int32) + 1).toInt64 := by
                  unfold s_unk
                  rw [h7, Int32.sub_self]
                  rfl
                rw [e3]
                rcases nP_cases h5 with rfl | rfl
                · exact s_unk_1.1
                · exact s_unk_1.2
              rw [e2] at hQ
              exact hQ _ eqx.rf
            · simp only [h7, not_false_eq_true, ↓reduceIte, Bool.false_eq_true, Bool.true_eq_false, qk_i, qk_r, qk_n, Option.toList_some, Option.toList_none, List.cons_append, List.nil_append, true_and, and_true, true_or, or_true, eq_self, if_true, if_false, q_b1, q_b2, c_A, c_R, c_O, c_M, c_H1, c_H8, c_H15]
              rw [← s_unk_e i hi j hj h4 h7]
              refine x_M_partOf (s_unk_k i hi j hj) ?_
              simp only [gM_drawer_0, gM_drawer_1, gM_drawer_2, gM_drawer_5, gM_drawer_6, gM_drawer_9, gM_drawer_11, gM_drawer_14, gM_drawer_15, gM_drawer_17, gM_drawer_20, gM_drawer_21, gM_drawer_22, gM_drawer_25, gM_drawer_27, gM_drawer_30, gM_drawer_31, gM_drawer_32, gM_drawer_33, gM_drawer_36, gM_drawer_39, gM_drawer_41, gM_drawer_44, gM_drawer_47, gM_drawer_49, gM_drawer_52, gM_drawer_53, gM_drawer_55, gM_drawer_58, gM_drawer_59, gM_drawer_60, gM_drawer_61, gM_drawer_64, gM_drawer_65, gM_drawer_68, gM_drawer_69, gM_drawer_70, gM_drawer_71, gM_drawer_72, gM_drawer_73, gM_drawer_74, gM_drawer_77, gM_drawer_78, gM_drawer_81, ↓reduceIte, Bool.false_eq_true, Bool.true_eq_false, qk_i, qk_r, qk_n, Option.toList_some, Option.toList_none, List.cons_append, List.nil_append, true_and, and_true, true_or, or_true, eq_self, if_true, if_false, q_b1, q_b2, c_A, c_R, c_O, c_M, c_H1, c_H8, c_H15]
              exact hQ _ eqx.rf
        · simp only [h1, h2, h3, h4, ↓reduceIte, Bool.false_eq_true, Bool.true_eq_false, qk_i, qk_r, qk_n, Option.toList_some, Option.toList_none, List.cons_append, List.nil_append, true_and, and_true, true_or, or_true, eq_self, if_true, if_false, q_b1, q_b2, c_A, c_R, c_O, c_M, c_H1, c_H8, c_H15]
          exact e1 _ (by decide) (by decide) (by unfold s_dwv; rw [if_neg h1, if_pos h2, if_neg h3, if_neg h4])
    · simp only [h1, h2, ↓reduceIte, Bool.false_eq_true, Bool.true_eq_false, qk_i, qk_r, qk_n, Option.toList_some, Option.toList_none, List.cons_append, List.nil_append, true_and, and_true, true_or, or_true, eq_self, if_true, if_false, q_b1, q_b2, c_A, c_R, c_O, c_M, c_H1, c_H8, c_H15]
      exact e1 _ (by decide) (by decide) (by unfold s_dwv; rw [if_neg h1, if_neg h2])
theorem lcmp_self (x : Int64) : lg_cmp x x = 0 := by
  unfold lg_cmp
  rw [if_neg (show ¬ x > x from fun h => Int64.lt_irrefl h), if_pos rfl]
end DW
