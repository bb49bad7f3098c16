/-! SURELY -/
section SURE
variable {Q : q_R} {M H : q_M} {n h : Nat} {a : Int32}
theorem s_gO_nn : ∀ (k : Nat) (x z v : Int64), s_gO k x z = some v → 0 ≤ x.toInt → 0 ≤ z.toInt → 0 ≤ v.toInt
  | 0, _, _, _, h, _, _ => by cases h
  | k + 1, x, z, v, h, hx, hz0 => by
    unfold s_gO at h
    by_cases hz : z = 0
    · rw [if_pos hz] at h
      cases h
      exact hx
    · rw [if_neg hz] at h
      refine s_gO_nn k _ _ _ h hz0 ?_
      rw [Jvm.Kit.i64_rem]
      exact Int.tmod_nonneg _ hx
theorem s_gcd_pos {x z : Int64} (hx : 0 ≤ x.toInt) (hz : 0 ≤ z.toInt) (h0 : z = 0 → ¬ x = 0) : ¬ lg_cmp (s_gcd x z) 0 ≤ 0 := by
  have e := s_gcd_eq (x := x) (i64_abs z)
  have h1 := s_gO_nn _ _ _ _ e hx hz
  have h2 := s_gO_ne _ _ _ _ e h0
  have h3 : (0 : Int64) < s_gcd x z := by
    rw [Int64.lt_iff_toInt_lt, Int64.toInt_zero]
    have : ¬ (s_gcd x z).toInt = 0 := fun q => h2 (Int64.toInt_inj.mp (by rw [q]; rfl))
    omega
  unfold lg_cmp
  rw [if_pos h3]
  decide
def su_s (H : q_M) (j : Nat) : Nat := (H 3 j).toNatClampNeg
def su_up (H : q_M) (S : Nat) : Nat → Nat
  | 0 => 1
  | k + 1 => if S.testBit k = true then su_up H S k * su_s H k else su_up H S k
def su_c (S : Nat) : Nat → Nat
  | 0 => 0
  | k + 1 => if S.testBit k = true then su_c S k + 1 else su_c S k
theorem su_up_s (H : q_M) (S k : Nat) : su_up H S (k + 1) = if S.testBit k = true then su_up H S k * su_s H k else su_up H S k := rfl
theorem su_c_s (S k : Nat) : su_c S (k + 1) = if S.testBit k = true then su_c S k + 1 else su_c S k := rfl
theorem su_N (g : gH H n h) {j : Nat} (hj : j < n) : 1 ≤ su_s H j ∧ su_s H j ≤ 10 ∧ H 3 j = nI (su_s H j) := by
  obtain ⟨-, -, ⟨s, s1, s10, e⟩, -⟩ := g.2.2.2.2.2 j hj
  unfold su_s
  rw [e, nI_clamp (by omega)]
  exact ⟨s1, s10, rfl⟩
theorem su_l : ∀ s, s ≤ 10 → (nI s).toInt64 = lN s := by decide +kernel
theorem su_le (g : gH H n h) {S : Nat} : ∀ k, k ≤ n → 1 ≤ su_up H S k ∧ su_up H S k ≤ 10 ^ k
  | 0, _ => by
    unfold su_up
    omega
  | k + 1, hk => by
    obtain ⟨a, b⟩ := su_le g k (by omega)
    obtain ⟨c, d, -⟩ := su_N g (show k < n by omega)
    rw [su_up_s, Nat.pow_succ]
    split
    · refine ⟨?_, Nat.mul_le_mul b d⟩
      exact Nat.mul_le_mul a c
    · omega
theorem su_cle {S : Nat} : ∀ k, su_c S k ≤ k
  | 0 => Nat.le_refl _
  | k + 1 => by
    have := su_cle (S := S) k
    rw [su_c_s]
    split <;> omega
theorem lN_int {x : Nat} (hx : x ≤ 10 ^ 10) : (lN x).toInt = (x : Int) := lg_ofNat_toInt (by omega)
/-- the fraction's parts are above 0 -/
theorem su_ok (g : gH H n h) {S : Nat} : ¬ lg_cmp (s_gcd (lN (su_up H S n)) (lN (10 ^ su_c S n))) 0 ≤ 0 := by
  have h10 := g.1
  obtain ⟨a, b⟩ := su_le (S := S) g n (Nat.le_refl _)
  have b' : su_up H S n ≤ 10 ^ 10 := Nat.le_trans b (Nat.pow_le_pow_right (by omega) h10)
  have c : 10 ^ su_c S n ≤ 10 ^ 10 := Nat.pow_le_pow_right (by omega) (Nat.le_trans (su_cle n) h10)
  have e1 := lN_int b'
  have e2 := lN_int c
  refine s_gcd_pos (by rw [e1]; omega) (by rw [e2]; generalize 10 ^ su_c S n = z; omega) (fun _ q => ?_)
  rw [q] at e1
  have : (0 : Int64).toInt = 0 := by decide
  rw [this] at e1
  omega
theorem l_A_chance {S : Nat} {p : Int32} (g : gH H n h) (r : RC 1 M H) (hS : S < 1024) (hQ : Q (some (.long (s_part (lN (su_up H S n)) (lN (10 ^ su_c S n)) p))) M) : ∀ k j, j + k = n →
    q_g 6 none Q 8 [some (.ref 1), some (.int (nI S)), some (.int p), some (.long (lN (su_up H S j))), none, some (.long (lN (10 ^ su_c S j))), none, some (.int (nI j))] [] M := by
  have h10 := g.1
  have e6 := e6_of g r
  intro k
  induction k with
  | zero =>
    intro j hj
    have : j = n := by omega
    subst this
    rw [gH_chanceOf_8]
    simp only [gH_chanceOf_0, gH_chanceOf_1, gH_chanceOf_2, gH_chanceOf_3, gH_chanceOf_5, gH_chanceOf_6, gH_chanceOf_10, gH_chanceOf_11, gH_chanceOf_14, gH_chanceOf_17, gH_chanceOf_18, gH_chanceOf_20, gH_chanceOf_21, gH_chanceOf_22, gH_chanceOf_23, gH_chanceOf_26, gH_chanceOf_27, gH_chanceOf_28, gH_chanceOf_31, gH_chanceOf_33, gH_chanceOf_36, gH_chanceOf_37, gH_chanceOf_38, gH_chanceOf_39, gH_chanceOf_41, gH_chanceOf_44, gH_chanceOf_45, gH_chanceOf_47, gH_chanceOf_50, gH_chanceOf_53, gH_chanceOf_54, gH_chanceOf_56, gH_chanceOf_57, gH_chanceOf_60, ↓reduceIte, Bool.false_eq_true, Bool.true_eq_false, qk_i, qk_r, qk_n, Option.toList_some, Option.toList_none, List.cons_append, List.nil_append, true_and, and_true, true_or, or_true, eq_self, if_true, if_false, q_b1, q_b2, c_A, c_R, c_O, c_M, c_H1, c_H8, c_H15, e6, Int32.le_refl]
    refine x_F_partOf (su_ok g) ?_
    simp only [gH_chanceOf_60, ↓reduceIte, Bool.false_eq_true, Bool.true_eq_false, qk_i, qk_r, qk_n, Option.toList_some, Option.toList_none, List.cons_append, List.nil_append, true_and, and_true, true_or, or_true, eq_self, if_true, if_false, q_b1, q_b2, c_A, c_R, c_O, c_M, c_H1, c_H8, c_H15]
    exact hQ
  | succ k ih =>
    intro j hj
    have h1 : ¬ nI n ≤ nI j := nI_ge (by omega) (by omega)
    have ih1 := ih (j + 1) (by omega)
    obtain ⟨s1, s10, es⟩ := su_N g (show j < n by omega)
    have e3 : s_get M (1 + 3) 10 (nI j) = nI (su_s H j) := by rw [r.get (c := 3) (by omega) (by omega), s_get_nI (by omega) (by omega)]; exact es
    have e10 : lN (10 ^ su_c S j) * 10 = lN (10 ^ (su_c S j + 1)) := by rw [show (10 : Int64) = lN 10 from rfl, lN_mul, Nat.pow_succ]
    rw [su_up_s, su_c_s] at ih1
    rw [gH_chanceOf_8]
    simp only [gH_chanceOf_0, gH_chanceOf_1, gH_chanceOf_2, gH_chanceOf_3, gH_chanceOf_5, gH_chanceOf_6, gH_chanceOf_10, gH_chanceOf_11, gH_chanceOf_14, gH_chanceOf_17, gH_chanceOf_18, gH_chanceOf_20, gH_chanceOf_21, gH_chanceOf_22, gH_chanceOf_23, gH_chanceOf_26, gH_chanceOf_27, gH_chanceOf_28, gH_chanceOf_31, gH_chanceOf_33, gH_chanceOf_36, gH_chanceOf_37, gH_chanceOf_38, gH_chanceOf_39, gH_chanceOf_41, gH_chanceOf_44, gH_chanceOf_45, gH_chanceOf_47, gH_chanceOf_50, gH_chanceOf_53, gH_chanceOf_54, gH_chanceOf_56, gH_chanceOf_57, gH_chanceOf_60, ↓reduceIte, Bool.false_eq_true, Bool.true_eq_false, qk_i, qk_r, qk_n, Option.toList_some, Option.toList_none, List.cons_append, List.nil_append, true_and, and_true, true_or, or_true, eq_self, if_true, if_false, q_b1, q_b2, c_A, c_R, c_O, c_M, c_H1, c_H8, c_H15, e6, h1, rf_H2 c_H1, x_W_get (al_H c_H1).2.2.1, nI_1, bit_nI (show S < 2 ^ 31 by omega) (show j < 31 by omega), e3, su_l _ s10, lN_mul, e10]
    cases hb : S.testBit j
    · rw [hb, if_neg (by decide), if_neg (by decide)] at ih1
      simp only [n1z', ↓reduceIte, if_true, if_false, eq_self, not_true, not_false_eq_true, not_true_eq_false, Bool.true_eq_false, Bool.false_eq_true, Bool.not_false, Bool.not_true, Bool.and_true, Bool.and_false, Bool.true_and, Bool.false_and]
      exact ih1
    · rw [hb, if_pos rfl, if_pos rfl] at ih1
      simp only [n1z', ↓reduceIte, if_true, if_false, eq_self, not_true, not_false_eq_true, not_true_eq_false, Bool.true_eq_false, Bool.false_eq_true, Bool.not_false, Bool.not_true, Bool.and_true, Bool.and_false, Bool.true_and, Bool.false_and]
      exact ih1
def an_surely (H : q_M) (n h : Nat) (p : Int32) : Int64 := if b_noPart p = true then s_low (-2) else s_part (lN (su_up H (dif (rN H n h) h) n)) (lN (10 ^ su_c (dif (rN H n h) h) n)) p
theorem y_A_surely (g : gH H n h) (r : RC 1 M H) (hQ : ∀ M', eqx Sq M M' → Q (some (.long (an_surely H n h a))) M') : q_Run 87 [.ref 0, .int a] M Q := by
  have hS : dif (rN H n h) h < 1024 := Nat.lt_of_le_of_lt dif_le (rN_lt g g.hlt)
  have d2 := dif_nI (x := rN H n h) (rN_lt g g.hlt)
  unfold an_surely at hQ
  rw [e_A_surely]
  simp only [gA_surely_0, gA_surely_1, gA_surely_4, gA_surely_7, gA_surely_8, gA_surely_10, gA_surely_13, gA_surely_14, gA_surely_15, gA_surely_18, gA_surely_19, gA_surely_22, gA_surely_23, gA_surely_26, gA_surely_29, gA_surely_32, gA_surely_33, gA_surely_36, gA_surely_39, gA_surely_40, gA_surely_41, gA_surely_42, gA_surely_43, gA_surely_46, ↓reduceIte, Bool.false_eq_true, Bool.true_eq_false, qk_i, qk_r, qk_n, Option.toList_some, Option.toList_none, List.cons_append, List.nil_append, true_and, and_true, true_or, or_true, eq_self, if_true, if_false, q_b1, q_b2, c_A, c_R, c_O, c_M, c_H1, c_H8, c_H15, rf_A0, x_A_refuseLong, x_A_isNoPart, q_z0, e7_of g r, y_H_reachFrom g r, d2]
  cases h1 : b_noPart a
  · rw [h1, if_neg (by decide)] at hQ
    simp only [n1z', ↓reduceIte, if_true, if_false, eq_self, not_true, not_false_eq_true, not_true_eq_false, Bool.true_eq_false, Bool.false_eq_true, Bool.not_false, Bool.not_true, Bool.and_true, Bool.and_false, Bool.true_and, Bool.false_and]
    rw [e_H_chanceOf]
    simp only [gH_chanceOf_0, gH_chanceOf_1, gH_chanceOf_2, gH_chanceOf_3, gH_chanceOf_5, gH_chanceOf_6, gH_chanceOf_10, gH_chanceOf_11, gH_chanceOf_14, gH_chanceOf_17, gH_chanceOf_18, gH_chanceOf_20, gH_chanceOf_21, gH_chanceOf_22, gH_chanceOf_23, gH_chanceOf_26, gH_chanceOf_27, gH_chanceOf_28, gH_chanceOf_31, gH_chanceOf_33, gH_chanceOf_36, gH_chanceOf_37, gH_chanceOf_38, gH_chanceOf_39, gH_chanceOf_41, gH_chanceOf_44, gH_chanceOf_45, gH_chanceOf_47, gH_chanceOf_50, gH_chanceOf_53, gH_chanceOf_54, gH_chanceOf_56, gH_chanceOf_57, gH_chanceOf_60, ↓reduceIte, Bool.false_eq_true, Bool.true_eq_false, qk_i, qk_r, qk_n, Option.toList_some, Option.toList_none, List.cons_append, List.nil_append, true_and, and_true, true_or, or_true, eq_self, if_true, if_false, q_b1, q_b2, c_A, c_R, c_O, c_M, c_H1, c_H8, c_H15]
    refine l_A_chance g r hS ?_ n 0 (by omega)
    simp only [gA_surely_0, gA_surely_1, gA_surely_4, gA_surely_7, gA_surely_8, gA_surely_10, gA_surely_13, gA_surely_14, gA_surely_15, gA_surely_18, gA_surely_19, gA_surely_22, gA_surely_23, gA_surely_26, gA_surely_29, gA_surely_32, gA_surely_33, gA_surely_36, gA_surely_39, gA_surely_40, gA_surely_41, gA_surely_42, gA_surely_43, gA_surely_46, ↓reduceIte, Bool.false_eq_true, Bool.true_eq_false, qk_i, qk_r, qk_n, Option.toList_some, Option.toList_none, List.cons_append, List.nil_append, true_and, and_true, true_or, or_true, eq_self, if_true, if_false, q_b1, q_b2, c_A, c_R, c_O, c_M, c_H1, c_H8, c_H15]
    exact hQ _ eqx.rf
  · rw [h1, if_pos rfl] at hQ
    simp only [n1z', ↓reduceIte, if_true, if_false, eq_self, not_true, not_false_eq_true, not_true_eq_false, Bool.true_eq_false, Bool.false_eq_true, Bool.not_false, Bool.not_true, Bool.and_true, Bool.and_false, Bool.true_and, Bool.false_and]
    exact hQ _ eqx_ref
theorem l_M_surely {S : Nat} {p : Int32} (g : gH H n h) (r : RM M H) (hS : S < 1024) (hQ : Q (some (.long (s_part (lN (su_up H S n)) (lN (10 ^ su_c S n)) p))) M) : ∀ k j, j + k = n →
    q_g 150 none Q 41 [some (.ref 30), some (.int p), some (.int (nI S)), some (.long (lN (su_up H S j))), none, some (.long (lN (10 ^ su_c S j))), none, some (.int (nI j))] [] M := by
  have h10 := g.1
  have hv := g.vm r
  intro k
  induction k with
  | zero =>
    intro j hj
    have : j = n := by omega
    subst this
    rw [gM_surely_41]
    simp only [gM_surely_0, gM_surely_1, gM_surely_2, gM_surely_3, gM_surely_6, gM_surely_9, gM_surely_10, gM_surely_12, gM_surely_15, gM_surely_16, gM_surely_17, gM_surely_18, gM_surely_21, gM_surely_22, gM_surely_25, gM_surely_26, gM_surely_29, gM_surely_30, gM_surely_31, gM_surely_32, gM_surely_33, gM_surely_34, gM_surely_35, gM_surely_36, gM_surely_38, gM_surely_39, gM_surely_43, gM_surely_44, gM_surely_47, gM_surely_50, gM_surely_51, gM_surely_52, gM_surely_54, gM_surely_57, gM_surely_60, gM_surely_61, gM_surely_64, gM_surely_66, gM_surely_67, gM_surely_68, gM_surely_71, gM_surely_72, gM_surely_73, gM_surely_74, gM_surely_76, gM_surely_77, gM_surely_79, gM_surely_82, gM_surely_85, gM_surely_88, gM_surely_91, gM_surely_92, gM_surely_93, gM_surely_95, gM_surely_98, gM_surely_101, gM_surely_102, gM_surely_104, gM_surely_105, gM_surely_108, ↓reduceIte, Bool.false_eq_true, Bool.true_eq_false, qk_i, qk_r, qk_n, Option.toList_some, Option.toList_none, List.cons_append, List.nil_append, true_and, and_true, true_or, or_true, eq_self, if_true, if_false, q_b1, q_b2, c_A, c_R, c_O, c_M, c_H1, c_H8, c_H15, hv.1, Int32.le_refl]
    refine x_M_partOf (su_ok g) ?_
    simp only [gM_surely_0, gM_surely_1, gM_surely_2, gM_surely_3, gM_surely_6, gM_surely_9, gM_surely_10, gM_surely_12, gM_surely_15, gM_surely_16, gM_surely_17, gM_surely_18, gM_surely_21, gM_surely_22, gM_surely_25, gM_surely_26, gM_surely_29, gM_surely_30, gM_surely_31, gM_surely_32, gM_surely_33, gM_surely_34, gM_surely_35, gM_surely_36, gM_surely_38, gM_surely_39, gM_surely_43, gM_surely_44, gM_surely_47, gM_surely_50, gM_surely_51, gM_surely_52, gM_surely_54, gM_surely_57, gM_surely_60, gM_surely_61, gM_surely_64, gM_surely_66, gM_surely_67, gM_surely_68, gM_surely_71, gM_surely_72, gM_surely_73, gM_surely_74, gM_surely_76, gM_surely_77, gM_surely_79, gM_surely_82, gM_surely_85, gM_surely_88, gM_surely_91, gM_surely_92, gM_surely_93, gM_surely_95, gM_surely_98, gM_surely_101, gM_surely_102, gM_surely_104, gM_surely_105, gM_surely_108, ↓reduceIte, Bool.false_eq_true, Bool.true_eq_false, qk_i, qk_r, qk_n, Option.toList_some, Option.toList_none, List.cons_append, List.nil_append, true_and, and_true, true_or, or_true, eq_self, if_true, if_false, q_b1, q_b2, c_A, c_R, c_O, c_M, c_H1, c_H8, c_H15]
    exact hQ
  | succ k ih =>
    intro j hj
    have h1 : ¬ nI n ≤ nI j := nI_ge (by omega) (by omega)
    have hin : q_in (nI j) 10 = true := q_in_nI (by omega) (by omega)
    have cj : (nI j).toNatClampNeg = j := nI_clamp (by omega)
    have ih1 := ih (j + 1) (by omega)
    obtain ⟨s1, s10, es⟩ := su_N g (show j < n by omega)
    have e3 : M 34 j = nI (su_s H j) := ((r.e (show j < 10 by omega)).2.2.1).symm.trans es
    have e10 : lN (10 ^ su_c S j) * 10 = lN (10 ^ (su_c S j + 1)) := by rw [show (10 : Int64) = lN 10 from rfl, lN_mul, Nat.pow_succ]
    have c1 : (1 : Int32).toInt64 = 1 := by decide
    have c10 : (10 : Int32).toInt64 = 10 := by decide
    rw [su_up_s, su_c_s] at ih1
    rw [gM_surely_41]
    cases hb : S.testBit j
    · rw [hb, if_neg (by decide), if_neg (by decide)] at ih1
      simp only [gM_surely_0, gM_surely_1, gM_surely_2, gM_surely_3, gM_surely_6, gM_surely_9, gM_surely_10, gM_surely_12, gM_surely_15, gM_surely_16, gM_surely_17, gM_surely_18, gM_surely_21, gM_surely_22, gM_surely_25, gM_surely_26, gM_surely_29, gM_surely_30, gM_surely_31, gM_surely_32, gM_surely_33, gM_surely_34, gM_surely_35, gM_surely_36, gM_surely_38, gM_surely_39, gM_surely_43, gM_surely_44, gM_surely_47, gM_surely_50, gM_surely_51, gM_surely_52, gM_surely_54, gM_surely_57, gM_surely_60, gM_surely_61, gM_surely_64, gM_surely_66, gM_surely_67, gM_surely_68, gM_surely_71, gM_surely_72, gM_surely_73, gM_surely_74, gM_surely_76, gM_surely_77, gM_surely_79, gM_surely_82, gM_surely_85, gM_surely_88, gM_surely_91, gM_surely_92, gM_surely_93, gM_surely_95, gM_surely_98, gM_surely_101, gM_surely_102, gM_surely_104, gM_surely_105, gM_surely_108, ↓reduceIte, Bool.false_eq_true, Bool.true_eq_false, qk_i, qk_r, qk_n, Option.toList_some, Option.toList_none, List.cons_append, List.nil_append, true_and, and_true, true_or, or_true, eq_self, if_true, if_false, q_b1, q_b2, c_A, c_R, c_O, c_M, c_H1, c_H8, c_H15, hv.1, h1, x_M_has, has_nI (show S < 2 ^ 31 by omega) (show j < 31 by omega), hb, q_z0, nI_1, c1, Int64.mul_one]
      exact ih1
    · rw [hb, if_pos rfl, if_pos rfl] at ih1
      simp only [gM_surely_0, gM_surely_1, gM_surely_2, gM_surely_3, gM_surely_6, gM_surely_9, gM_surely_10, gM_surely_12, gM_surely_15, gM_surely_16, gM_surely_17, gM_surely_18, gM_surely_21, gM_surely_22, gM_surely_25, gM_surely_26, gM_surely_29, gM_surely_30, gM_surely_31, gM_surely_32, gM_surely_33, gM_surely_34, gM_surely_35, gM_surely_36, gM_surely_38, gM_surely_39, gM_surely_43, gM_surely_44, gM_surely_47, gM_surely_50, gM_surely_51, gM_surely_52, gM_surely_54, gM_surely_57, gM_surely_60, gM_surely_61, gM_surely_64, gM_surely_66, gM_surely_67, gM_surely_68, gM_surely_71, gM_surely_72, gM_surely_73, gM_surely_74, gM_surely_76, gM_surely_77, gM_surely_79, gM_surely_82, gM_surely_85, gM_surely_88, gM_surely_91, gM_surely_92, gM_surely_93, gM_surely_95, gM_surely_98, gM_surely_101, gM_surely_102, gM_surely_104, gM_surely_105, gM_surely_108, ↓reduceIte, Bool.false_eq_true, Bool.true_eq_false, qk_i, qk_r, qk_n, Option.toList_some, Option.toList_none, List.cons_append, List.nil_append, true_and, and_true, true_or, or_true, eq_self, if_true, if_false, q_b1, q_b2, c_A, c_R, c_O, c_M, c_H1, c_H8, c_H15, hv.1, h1, x_M_has, has_nI (show S < 2 ^ 31 by omega) (show j < 31 by omega), hb, q_z0, rf_M3, aD_34, hin, cj, e3, su_l _ s10, lN_mul, nI_1, c10, e10]
      exact ih1
theorem y_M_surely (g : gH H n h) (r : RM M H) (hQ : ∀ M', eqx Sm M M' → Q (some (.long (an_surely H n h a))) M') : q_Run 150 [.ref 30, .int a] M Q := by
  have hS : dif (rN H n h) h < 1024 := Nat.lt_of_le_of_lt dif_le (rN_lt g g.hlt)
  have d2 := dif_nI (x := rN H n h) (rN_lt g g.hlt)
  unfold an_surely at hQ
  rw [noPart_in] at hQ
  rw [e_M_surely]
  simp only [gM_surely_0, gM_surely_1, gM_surely_2, gM_surely_3, gM_surely_6, gM_surely_9, gM_surely_10, gM_surely_12, gM_surely_15, gM_surely_16, gM_surely_17, gM_surely_18, gM_surely_21, gM_surely_22, gM_surely_25, gM_surely_26, gM_surely_29, gM_surely_30, gM_surely_31, gM_surely_32, gM_surely_33, gM_surely_34, gM_surely_35, gM_surely_36, gM_surely_38, gM_surely_39, gM_surely_43, gM_surely_44, gM_surely_47, gM_surely_50, gM_surely_51, gM_surely_52, gM_surely_54, gM_surely_57, gM_surely_60, gM_surely_61, gM_surely_64, gM_surely_66, gM_surely_67, gM_surely_68, gM_surely_71, gM_surely_72, gM_surely_73, gM_surely_74, gM_surely_76, gM_surely_77, gM_surely_79, gM_surely_82, gM_surely_85, gM_surely_88, gM_surely_91, gM_surely_92, gM_surely_93, gM_surely_95, gM_surely_98, gM_surely_101, gM_surely_102, gM_surely_104, gM_surely_105, gM_surely_108, ↓reduceIte, Bool.false_eq_true, Bool.true_eq_false, qk_i, qk_r, qk_n, Option.toList_some, Option.toList_none, List.cons_append, List.nil_append, true_and, and_true, true_or, or_true, eq_self, if_true, if_false, q_b1, q_b2, c_A, c_R, c_O, c_M, c_H1, c_H8, c_H15, x_M_isIn, q_z0, x_M_lowest no_2, (g.vm r).2.2.1, y_M_reach0 g r g.hlt, d2]
  cases h1 : b_in a 0 1
  · rw [h1, if_pos (by decide)] at hQ
    simp only [n1z', ↓reduceIte, if_true, if_false, eq_self, not_true, not_false_eq_true, not_true_eq_false, Bool.true_eq_false, Bool.false_eq_true, Bool.not_false, Bool.not_true, Bool.and_true, Bool.and_false, Bool.true_and, Bool.false_and]
    exact hQ _ eqm_no
  · rw [h1, if_neg (by decide)] at hQ
    simp only [n1z', ↓reduceIte, if_true, if_false, eq_self, not_true, not_false_eq_true, not_true_eq_false, Bool.true_eq_false, Bool.false_eq_true, Bool.not_false, Bool.not_true, Bool.and_true, Bool.and_false, Bool.true_and, Bool.false_and]
    exact l_M_surely g r hS (hQ _ eqx.rf) n 0 (by omega)
end SURE
