/-! the reference: its small methods -/
theorem rf_M0 : q_rf 30 0 = 31 := by decide +kernel
theorem rf_M1 : q_rf 30 1 = 32 := by decide +kernel
theorem rf_M2 : q_rf 30 2 = 33 := by decide +kernel
theorem rf_M3 : q_rf 30 3 = 34 := by decide +kernel
theorem rf_M4 : q_rf 30 4 = 35 := by decide +kernel
theorem rf_M5 : q_rf 30 5 = 36 := by decide +kernel
theorem rf_M6 : q_rf 30 6 = 37 := by decide +kernel
theorem rf_M10 : q_rf 30 10 = 38 := by decide +kernel
theorem rf_M11 : q_rf 30 11 = 39 := by decide +kernel
theorem rf_M12 : q_rf 30 12 = 40 := by decide +kernel
theorem rf_M13 : q_rf 30 13 = 41 := by decide +kernel
theorem rf_M17 : q_rf 30 17 = 42 := by decide +kernel
theorem rf_M21 : q_rf 30 21 = 43 := by decide +kernel
theorem rf_M22 : q_rf 30 22 = 44 := by decide +kernel
theorem rf_M23 : q_rf 30 23 = 45 := by decide +kernel
theorem rf_M24 : q_rf 30 24 = 46 := by decide +kernel
theorem aD_31 : q_alenD 31 = 7 := by decide +kernel
theorem aD_32 : q_alenD 32 = 10 := by decide +kernel
theorem aD_33 : q_alenD 33 = 10 := by decide +kernel
theorem aD_34 : q_alenD 34 = 10 := by decide +kernel
theorem aD_35 : q_alenD 35 = 10 := by decide +kernel
theorem aD_36 : q_alenD 36 = 10 := by decide +kernel
theorem aD_37 : q_alenD 37 = 10 := by decide +kernel
theorem aD_38 : q_alenD 38 = 96 := by decide +kernel
theorem aD_39 : q_alenD 39 = 48 := by decide +kernel
theorem aD_40 : q_alenD 40 = 48 := by decide +kernel
theorem aD_41 : q_alenD 41 = 144 := by decide +kernel
theorem aD_42 : q_alenD 42 = 130 := by decide +kernel
theorem aD_43 : q_alenD 43 = 1024 := by decide +kernel
theorem aD_44 : q_alenD 44 = 1024 := by decide +kernel
theorem aD_45 : q_alenD 45 = 1024 := by decide +kernel
theorem aD_46 : q_alenD 46 = 12 := by decide +kernel
/-- one refusal more, of a kind that there is -/
def s_no (M : q_M) (w : Int32) : q_M := q_put M 31 (-w).toNatClampNeg (M 31 (-w).toNatClampNeg + 1)
theorem x_M_no {Q : q_R} {M : q_M} {w : Int32} (hw : q_in (-w) 7 = true) : q_Run 130 [.ref 30, .int w] M Q = Q (some (.int w)) (s_no M w) := by
  rw [e_M_no]
  simp only [gM_no_0, gM_no_1, gM_no_4, gM_no_5, gM_no_6, gM_no_7, gM_no_8, gM_no_9, gM_no_10, gM_no_11, gM_no_12, ↓reduceIte, Bool.false_eq_true, Bool.true_eq_false, qk_i, qk_r, qk_n, Option.toList_some, Option.toList_none, List.cons_append, List.nil_append, true_and, and_true, true_or, or_true, eq_self, if_true, if_false, q_b1, q_b2, c_A, c_R, c_O, c_M, c_H1, c_H8, c_H15, rf_M0, aD_31, hw]
  rfl
theorem x_M_lowest {Q : q_R} {M : q_M} {w : Int32} (hw : q_in (-w) 7 = true) : q_Run 122 [.ref 30, .int w] M Q = Q (some (.long (s_low w))) (s_no M w) := by
  rw [e_M_lowest]
  simp only [gM_lowest_0, gM_lowest_1, gM_lowest_4, gM_lowest_5, gM_lowest_6, gM_lowest_7, gM_lowest_8, gM_lowest_9, gM_lowest_10, gM_lowest_11, gM_lowest_14, gM_lowest_15, gM_lowest_16, gM_lowest_17, ↓reduceIte, Bool.false_eq_true, Bool.true_eq_false, qk_i, qk_r, qk_n, Option.toList_some, Option.toList_none, List.cons_append, List.nil_append, true_and, and_true, true_or, or_true, eq_self, if_true, if_false, q_b1, q_b2, c_A, c_R, c_O, c_M, c_H1, c_H8, c_H15, rf_M0, aD_31, hw]
  rfl
theorem no_1 : q_in (-(-1)) 7 = true := by decide
theorem no_2 : q_in (-(-2)) 7 = true := by decide
theorem no_3 : q_in (-(-3)) 7 = true := by decide
theorem no_4 : q_in (-(-4)) 7 = true := by decide
theorem no_6 : q_in (-(-6)) 7 = true := by decide
def b_in (v a b : Int32) : Bool := decide (¬ v < a) && decide (¬ b < v)
theorem x_M_isIn {Q : q_R} {M : q_M} {v a b : Int32} : q_Run 114 [.int v, .int a, .int b] M Q = Q (some (.int (q_z (b_in v a b)))) M := by
  rw [e_M_isIn]
  simp only [gM_isIn_0, gM_isIn_1, gM_isIn_2, gM_isIn_5, gM_isIn_6, gM_isIn_7, gM_isIn_10, gM_isIn_11, gM_isIn_14, gM_isIn_15, ↓reduceIte, Bool.false_eq_true, Bool.true_eq_false, qk_i, qk_r, qk_n, Option.toList_some, Option.toList_none, List.cons_append, List.nil_append, true_and, and_true, true_or, or_true, eq_self, if_true, if_false, q_b1, q_b2, c_A, c_R, c_O, c_M, c_H1, c_H8, c_H15]
  unfold b_in q_z
  by_cases h0 : v < a <;> by_cases h1 : b < v <;> simp [h0, h1]
def s_bound (v a b : Int32) : Int32 := if a ≤ v then (if v ≤ b then 0 else -6) else -4
theorem x_M_bound {Q : q_R} {M : q_M} {v a b : Int32} : q_Run 96 [.int v, .int a, .int b] M Q = Q (some (.int (s_bound v a b))) M := by
  rw [e_M_bound]
  simp only [gM_bound_0, gM_bound_1, gM_bound_2, gM_bound_5, gM_bound_7, gM_bound_10, gM_bound_11, gM_bound_12, gM_bound_15, gM_bound_17, gM_bound_20, gM_bound_21, ↓reduceIte, Bool.false_eq_true, Bool.true_eq_false, qk_i, qk_r, qk_n, Option.toList_some, Option.toList_none, List.cons_append, List.nil_append, true_and, and_true, true_or, or_true, eq_self, if_true, if_false, q_b1, q_b2, c_A, c_R, c_O, c_M, c_H1, c_H8, c_H15, q_jq]
  rfl
def b_has (w k : Int32) : Bool := decide (w >>> (k &&& 31) &&& 1 = 1)
theorem x_M_has {Q : q_R} {M : q_M} {w k : Int32} : q_Run 110 [.int w, .int k] M Q = Q (some (.int (q_z (b_has w k)))) M := by
  rw [e_M_has]
  simp only [gM_has_0, gM_has_1, gM_has_2, gM_has_3, gM_has_4, gM_has_5, gM_has_6, gM_has_9, gM_has_10, gM_has_13, gM_has_14, ↓reduceIte, Bool.false_eq_true, Bool.true_eq_false, qk_i, qk_r, qk_n, Option.toList_some, Option.toList_none, List.cons_append, List.nil_append, true_and, and_true, true_or, or_true, eq_self, if_true, if_false, q_b1, q_b2, c_A, c_R, c_O, c_M, c_H1, c_H8, c_H15]
  unfold b_has q_z
  by_cases h0 : w >>> (k &&& 31) &&& 1 = 1 <;> simp [h0]
theorem has_nI {s j : Nat} (hs : s < 2 ^ 31) (hj : j < 31) : b_has (nI s) (nI j) = s.testBit j := by
  unfold b_has
  rw [bit_nI hs hj]
  cases s.testBit j <;> decide
def s_bitsN (x : Int32) : Nat → Int32
  | 0 => 0
  | k + 1 => s_bitsN x k + (x >>> (nI k &&& 31) &&& 1)
theorem l_M_bits {Q : q_R} {M : q_M} {x : Int32} : ∀ k j, j + k = 31 →
    q_g 95 none Q 4 [some (.int x), some (.int (s_bitsN x j)), some (.int (nI j))] [] M = Q (some (.int (s_bitsN x 31))) M := by
  intro k
  induction k with
  | zero =>
    intro j hj
    have : j = 31 := by omega
    subst this
    have h1 : (31 : Int32) ≤ nI 31 := by decide
    rw [gM_bits_4]
    simp only [gM_bits_0, gM_bits_1, gM_bits_2, gM_bits_3, gM_bits_5, gM_bits_7, gM_bits_10, gM_bits_11, gM_bits_12, gM_bits_13, gM_bits_14, gM_bits_15, gM_bits_16, gM_bits_17, gM_bits_18, gM_bits_21, gM_bits_24, gM_bits_25, ↓reduceIte, Bool.false_eq_true, Bool.true_eq_false, qk_i, qk_r, qk_n, Option.toList_some, Option.toList_none, List.cons_append, List.nil_append, true_and, and_true, true_or, or_true, eq_self, if_true, if_false, q_b1, q_b2, c_A, c_R, c_O, c_M, c_H1, c_H8, c_H15, h1]
  | succ k ih =>
    intro j hj
    have h1 : ¬ (31 : Int32) ≤ nI j := nI_ge (b := 31) (by omega) (by omega)
    have ih1 := ih (j + 1) (by omega)
    simp only [s_bitsN] at ih1
    rw [gM_bits_4]
    simp only [gM_bits_0, gM_bits_1, gM_bits_2, gM_bits_3, gM_bits_5, gM_bits_7, gM_bits_10, gM_bits_11, gM_bits_12, gM_bits_13, gM_bits_14, gM_bits_15, gM_bits_16, gM_bits_17, gM_bits_18, gM_bits_21, gM_bits_24, gM_bits_25, ↓reduceIte, Bool.false_eq_true, Bool.true_eq_false, qk_i, qk_r, qk_n, Option.toList_some, Option.toList_none, List.cons_append, List.nil_append, true_and, and_true, true_or, or_true, eq_self, if_true, if_false, q_b1, q_b2, c_A, c_R, c_O, c_M, c_H1, c_H8, c_H15, h1, nI_1]
    exact ih1
theorem x_M_bits {Q : q_R} {M : q_M} {x : Int32} : q_Run 95 [.int x] M Q = Q (some (.int (s_bitsN x 31))) M := by
  rw [e_M_bits]
  simp only [gM_bits_0, gM_bits_1, gM_bits_2, gM_bits_3, gM_bits_5, gM_bits_7, gM_bits_10, gM_bits_11, gM_bits_12, gM_bits_13, gM_bits_14, gM_bits_15, gM_bits_16, gM_bits_17, gM_bits_18, gM_bits_21, gM_bits_24, gM_bits_25, ↓reduceIte, Bool.false_eq_true, Bool.true_eq_false, qk_i, qk_r, qk_n, Option.toList_some, Option.toList_none, List.cons_append, List.nil_append, true_and, and_true, true_or, or_true, eq_self, if_true, if_false, q_b1, q_b2, c_A, c_R, c_O, c_M, c_H1, c_H8, c_H15]
  exact l_M_bits 31 0 (by omega)
def b_mThing (M : q_M) (t : Int32) : Bool := decide (¬ t < 0) && decide (¬ M 30 7 ≤ t)
theorem x_M_isThing {Q : q_R} {M : q_M} {t : Int32} : q_Run 116 [.ref 30, .int t] M Q = Q (some (.int (q_z (b_mThing M t)))) M := by
  rw [e_M_isThing]
  simp only [gM_isThing_0, gM_isThing_1, gM_isThing_4, gM_isThing_5, gM_isThing_6, gM_isThing_9, gM_isThing_12, gM_isThing_13, gM_isThing_16, gM_isThing_17, ↓reduceIte, Bool.false_eq_true, Bool.true_eq_false, qk_i, qk_r, qk_n, Option.toList_some, Option.toList_none, List.cons_append, List.nil_append, true_and, and_true, true_or, or_true, eq_self, if_true, if_false, q_b1, q_b2, c_A, c_R, c_O, c_M, c_H1, c_H8, c_H15]
  unfold b_mThing q_z
  by_cases h0 : t < 0 <;> by_cases h1 : M 30 7 ≤ t <;> simp [h0, h1]
def b_mSet (M : q_M) (s : Int32) : Bool := decide (¬ s < 0) && decide (s >>> (M 30 7 &&& 31) = 0)
theorem x_M_areThings {Q : q_R} {M : q_M} {s : Int32} : q_Run 92 [.ref 30, .int s] M Q = Q (some (.int (q_z (b_mSet M s)))) M := by
  rw [e_M_areThings]
  simp only [gM_areThings_0, gM_areThings_1, gM_areThings_4, gM_areThings_5, gM_areThings_6, gM_areThings_9, gM_areThings_10, gM_areThings_13, gM_areThings_14, gM_areThings_17, gM_areThings_18, ↓reduceIte, Bool.false_eq_true, Bool.true_eq_false, qk_i, qk_r, qk_n, Option.toList_some, Option.toList_none, List.cons_append, List.nil_append, true_and, and_true, true_or, or_true, eq_self, if_true, if_false, q_b1, q_b2, c_A, c_R, c_O, c_M, c_H1, c_H8, c_H15]
  unfold b_mSet q_z
  by_cases h0 : s < 0 <;> by_cases h1 : s >>> (M 30 7 &&& 31) = 0 <;> simp [h0, h1]
def b_mTwo (M : q_M) (a b : Int32) : Bool := b_mThing M a && (b_mThing M b && decide (¬ a = b))
theorem x_M_areTwo {Q : q_R} {M : q_M} {a b : Int32} : q_Run 93 [.ref 30, .int a, .int b] M Q = Q (some (.int (q_z (b_mTwo M a b)))) M := by
  rw [e_M_areTwo]
  simp only [gM_areTwo_0, gM_areTwo_1, gM_areTwo_2, gM_areTwo_5, gM_areTwo_8, gM_areTwo_9, gM_areTwo_10, gM_areTwo_13, gM_areTwo_16, gM_areTwo_17, gM_areTwo_18, gM_areTwo_21, gM_areTwo_22, gM_areTwo_25, gM_areTwo_26, ↓reduceIte, Bool.false_eq_true, Bool.true_eq_false, qk_i, qk_r, qk_n, Option.toList_some, Option.toList_none, List.cons_append, List.nil_append, true_and, and_true, true_or, or_true, eq_self, if_true, if_false, q_b1, q_b2, c_A, c_R, c_O, c_M, c_H1, c_H8, c_H15, x_M_isThing, q_z0]
  unfold b_mTwo
  cases h1 : b_mThing M a <;> cases h2 : b_mThing M b <;> by_cases h3 : a = b <;> simp [h3, q_z]
def s_whole (M : q_M) : Int32 := 1 <<< (M 30 7 &&& 31) - 1
theorem x_M_whole {Q : q_R} {M : q_M} : q_Run 154 [.ref 30] M Q = Q (some (.int (s_whole M))) M := by
  rw [e_M_whole]
  simp only [gM_whole_0, gM_whole_1, gM_whole_2, gM_whole_5, gM_whole_6, gM_whole_7, gM_whole_8, ↓reduceIte, Bool.false_eq_true, Bool.true_eq_false, qk_i, qk_r, qk_n, Option.toList_some, Option.toList_none, List.cons_append, List.nil_append, true_and, and_true, true_or, or_true, eq_self, if_true, if_false, q_b1, q_b2, c_A, c_R, c_O, c_M, c_H1, c_H8, c_H15]
  rfl
theorem x_M_kindOf {Q : q_R} {M : q_M} {c : Int32} : q_Run 119 [.int c] M Q = Q (some (.int (s_kindOf c))) M := by
  rw [e_M_kindOf]
  simp only [gM_kindOf_0, gM_kindOf_1, gM_kindOf_60, gM_kindOf_61, gM_kindOf_62, gM_kindOf_63, gM_kindOf_64, gM_kindOf_65, gM_kindOf_66, gM_kindOf_67, gM_kindOf_68, gM_kindOf_69, gM_kindOf_70, gM_kindOf_71, gM_kindOf_72, gM_kindOf_73, ↓reduceIte, Bool.false_eq_true, Bool.true_eq_false, qk_i, qk_r, qk_n, Option.toList_some, Option.toList_none, List.cons_append, List.nil_append, true_and, and_true, true_or, or_true, eq_self, if_true, if_false, q_b1, q_b2, c_A, c_R, c_O, c_M, c_H1, c_H8, c_H15, q_jq]
  rfl
/-- the reference's house holds together -/
def v_m (M : q_M) (n h : Nat) : Prop := M 30 7 = nI n ∧ n ≤ 10 ∧ M 30 8 = nI h ∧ h < 2 ^ n ∧ ∀ t, t < n → ¬ M 34 t = 0
theorem v_m.of {M M' : q_M} {n h : Nat} (v : v_m M n h) (e7 : M' 30 7 = M 30 7) (e8 : M' 30 8 = M 30 8) (e34 : M' 34 = M 34) : v_m M' n h :=
  ⟨by rw [e7]; exact v.1, v.2.1, by rw [e8]; exact v.2.2.1, v.2.2.2.1, fun t ht => by rw [e34]; exact v.2.2.2.2 t ht⟩
theorem v_m.whole {M : q_M} {n h : Nat} (v : v_m M n h) : s_whole M = nI (2 ^ n - 1) := by
  unfold s_whole
  rw [v.1]
  exact all_nI n v.2.1
theorem mThing_nI {M : q_M} {n h : Nat} {t : Int32} (hv : v_m M n h) (ht : b_mThing M t = true) : ∃ j, j < n ∧ t = nI j := by
  unfold b_mThing at ht
  simp only [Bool.and_eq_true, decide_eq_true_eq] at ht
  obtain ⟨j, hj, rfl⟩ := nI_of ht.1
  refine ⟨j, ?_, rfl⟩
  rcases Nat.lt_or_ge j n with h | h
  · exact h
  · exact absurd (by rw [hv.1]; exact nI_le h hj) ht.2
theorem shr_nI {a j : Nat} (ha : a < 2 ^ 31) (hj : j < 31) : nI a >>> (nI j &&& 31) = nI (a / 2 ^ j) := by
  have hd : a / 2 ^ j ≤ a := Nat.div_le_self _ _
  apply b_ext
  intro i hi
  rw [b_sshr j (by omega) _ hi, bt_nI hi]
  split
  · rw [bt_nI (by omega), Nat.testBit_div_two_pow, Nat.add_comm]
  · rw [bt_nI (by omega), Nat.testBit_div_two_pow, Nat.testBit_lt_two_pow (show a < 2 ^ 31 by omega), Nat.testBit_lt_two_pow]
    exact Nat.lt_of_lt_of_le ha (Nat.pow_le_pow_right (by omega) (by omega))
theorem mSet_nI {M : q_M} {n h : Nat} {s : Int32} (hv : v_m M n h) (hs : b_mSet M s = true) : ∃ a, a < 2 ^ n ∧ s = nI a := by
  unfold b_mSet at hs
  simp only [Bool.and_eq_true, decide_eq_true_eq] at hs
  obtain ⟨a, ha, rfl⟩ := nI_of hs.1
  refine ⟨a, ?_, rfl⟩
  have h10 := hv.2.1
  have h2 := hs.2
  rw [hv.1, shr_nI ha (by omega)] at h2
  have h3 : a / 2 ^ n ≤ a := Nat.div_le_self _ _
  have h4 : a / 2 ^ n = 0 := by
    rcases Nat.eq_zero_or_pos (a / 2 ^ n) with q | q
    · exact q
    · exact absurd h2 (nI_ne0 q (by omega))
  exact (Nat.div_eq_zero_iff.mp h4).resolve_left (Nat.ne_of_gt (Nat.two_pow_pos n))
/-! what may be had -/
theorem w_M_canHave {Q : q_R} {M : q_M} {j : Nat} {w : Int32} (hj : j < 10) (hQ : ∀ x : Int32, (x = 0 ∨ x = 1) → Q (some (.int x)) M) : q_Run 97 [.ref 30, .int (nI j), .int w] M Q := by
  have hin : q_in (nI j) 10 = true := q_in_nI hj (by omega)
  rw [e_M_canHave]
  simp only [gM_canHave_0, gM_canHave_1, gM_canHave_4, gM_canHave_5, gM_canHave_6, gM_canHave_7, gM_canHave_8, gM_canHave_11, gM_canHave_12, gM_canHave_13, gM_canHave_16, gM_canHave_17, gM_canHave_18, gM_canHave_21, gM_canHave_22, gM_canHave_25, gM_canHave_26, gM_canHave_29, gM_canHave_32, gM_canHave_33, gM_canHave_36, gM_canHave_37, gM_canHave_38, gM_canHave_39, gM_canHave_40, gM_canHave_41, gM_canHave_42, gM_canHave_45, gM_canHave_46, gM_canHave_49, gM_canHave_50, gM_canHave_52, gM_canHave_53, gM_canHave_56, gM_canHave_57, gM_canHave_58, gM_canHave_88, gM_canHave_89, gM_canHave_90, gM_canHave_93, gM_canHave_94, gM_canHave_95, gM_canHave_98, gM_canHave_99, gM_canHave_100, gM_canHave_103, gM_canHave_106, gM_canHave_108, gM_canHave_111, gM_canHave_112, gM_canHave_115, gM_canHave_116, gM_canHave_117, gM_canHave_119, gM_canHave_122, gM_canHave_124, gM_canHave_127, gM_canHave_128, gM_canHave_131, gM_canHave_132, gM_canHave_133, gM_canHave_135, gM_canHave_138, gM_canHave_140, gM_canHave_143, gM_canHave_144, gM_canHave_147, gM_canHave_148, ↓reduceIte, Bool.false_eq_true, Bool.true_eq_false, qk_i, qk_r, qk_n, Option.toList_some, Option.toList_none, List.cons_append, List.nil_append, true_and, and_true, true_or, or_true, eq_self, if_true, if_false, q_b1, q_b2, c_A, c_R, c_O, c_M, c_H1, c_H8, c_H15, rf_M1, rf_M5, rf_M6, aD_32, aD_36, aD_37, hin, x_M_bits, q_jn]
  simp only [gM_canHave_0, gM_canHave_1, gM_canHave_4, gM_canHave_5, gM_canHave_6, gM_canHave_7, gM_canHave_8, gM_canHave_11, gM_canHave_12, gM_canHave_13, gM_canHave_16, gM_canHave_17, gM_canHave_18, gM_canHave_21, gM_canHave_22, gM_canHave_25, gM_canHave_26, gM_canHave_29, gM_canHave_30, gM_canHave_32, gM_canHave_33, gM_canHave_36, gM_canHave_37, gM_canHave_38, gM_canHave_39, gM_canHave_40, gM_canHave_41, gM_canHave_42, gM_canHave_45, gM_canHave_46, gM_canHave_49, gM_canHave_52, gM_canHave_53, gM_canHave_56, gM_canHave_57, gM_canHave_58, gM_canHave_88, gM_canHave_89, gM_canHave_90, gM_canHave_93, gM_canHave_94, gM_canHave_95, gM_canHave_98, gM_canHave_99, gM_canHave_100, gM_canHave_103, gM_canHave_106, gM_canHave_108, gM_canHave_111, gM_canHave_112, gM_canHave_115, gM_canHave_116, gM_canHave_117, gM_canHave_119, gM_canHave_122, gM_canHave_124, gM_canHave_127, gM_canHave_128, gM_canHave_131, gM_canHave_132, gM_canHave_133, gM_canHave_135, gM_canHave_138, gM_canHave_140, gM_canHave_143, gM_canHave_144, gM_canHave_147, gM_canHave_148, ↓reduceIte, Bool.false_eq_true, Bool.true_eq_false, qk_i, qk_r, qk_n, Option.toList_some, Option.toList_none, List.cons_append, List.nil_append, true_and, and_true, true_or, or_true, eq_self, if_true, if_false, q_b1, q_b2, c_A, c_R, c_O, c_M, c_H1, c_H8, c_H15, rf_M1, rf_M5, rf_M6, aD_32, aD_36, aD_37, hin, x_M_bits, q_jn]
  simp only [gM_canHave_0, gM_canHave_1, gM_canHave_4, gM_canHave_5, gM_canHave_6, gM_canHave_7, gM_canHave_8, gM_canHave_11, gM_canHave_12, gM_canHave_13, gM_canHave_16, gM_canHave_17, gM_canHave_18, gM_canHave_21, gM_canHave_22, gM_canHave_25, gM_canHave_26, gM_canHave_29, gM_canHave_30, gM_canHave_32, gM_canHave_33, gM_canHave_36, gM_canHave_37, gM_canHave_38, gM_canHave_39, gM_canHave_40, gM_canHave_41, gM_canHave_42, gM_canHave_45, gM_canHave_46, gM_canHave_49, gM_canHave_50, gM_canHave_52, gM_canHave_53, gM_canHave_56, gM_canHave_57, gM_canHave_58, gM_canHave_88, gM_canHave_89, gM_canHave_90, gM_canHave_93, gM_canHave_94, gM_canHave_95, gM_canHave_98, gM_canHave_99, gM_canHave_100, gM_canHave_103, gM_canHave_106, gM_canHave_108, gM_canHave_111, gM_canHave_112, gM_canHave_115, gM_canHave_116, gM_canHave_117, gM_canHave_119, gM_canHave_122, gM_canHave_124, gM_canHave_127, gM_canHave_128, gM_canHave_131, gM_canHave_132, gM_canHave_133, gM_canHave_135, gM_canHave_138, gM_canHave_140, gM_canHave_143, gM_canHave_144, gM_canHave_147, gM_canHave_148, ↓reduceIte, Bool.false_eq_true, Bool.true_eq_false, qk_i, qk_r, qk_n, Option.toList_some, Option.toList_none, List.cons_append, List.nil_append, true_and, and_true, true_or, or_true, eq_self, if_true, if_false, q_b1, q_b2, c_A, c_R, c_O, c_M, c_H1, c_H8, c_H15, rf_M1, rf_M5, rf_M6, aD_32, aD_36, aD_37, hin, x_M_bits]
  repeat' split
  all_goals exact hQ _ (by decide)
theorem w_M_mayBy_l {Q : q_R} {M : q_M} {n h s : Nat} (hv : v_m M n h) (hs : s < 1024) (hQ : ∀ m : Nat, m < 2 ^ n → (∀ i, m.testBit i = true → s.testBit i = false) → Q (some (.int (nI m))) M) : ∀ k j, j + k = n → ∀ m : Nat, m < 2 ^ j → (∀ i, m.testBit i = true → s.testBit i = false) →
    q_g 124 none Q 4 [some (.ref 30), some (.int (nI s)), some (.int (nI m)), some (.int (nI j))] [] M := by
  have h10 := hv.2.1
  intro k
  induction k with
  | zero =>
    intro j hj m hm hd
    have : j = n := by omega
    subst this
    rw [gM_mayBy_4]
    simp only [gM_mayBy_0, gM_mayBy_1, gM_mayBy_2, gM_mayBy_3, gM_mayBy_5, gM_mayBy_6, gM_mayBy_9, gM_mayBy_12, gM_mayBy_13, gM_mayBy_14, gM_mayBy_15, gM_mayBy_18, gM_mayBy_21, gM_mayBy_22, gM_mayBy_23, gM_mayBy_24, gM_mayBy_27, gM_mayBy_30, gM_mayBy_31, gM_mayBy_32, gM_mayBy_33, gM_mayBy_36, gM_mayBy_37, gM_mayBy_38, gM_mayBy_39, gM_mayBy_42, gM_mayBy_45, gM_mayBy_46, ↓reduceIte, Bool.false_eq_true, Bool.true_eq_false, qk_i, qk_r, qk_n, Option.toList_some, Option.toList_none, List.cons_append, List.nil_append, true_and, and_true, true_or, or_true, eq_self, if_true, if_false, q_b1, q_b2, c_A, c_R, c_O, c_M, c_H1, c_H8, c_H15, hv.1, Int32.le_refl]
    exact hQ m hm hd
  | succ k ih =>
    intro j hj m hm hd
    have h1 : ¬ nI n ≤ nI j := nI_ge (by omega) (by omega)
    have hp : 2 ^ (j + 1) = 2 * 2 ^ j := by rw [Nat.pow_succ, Nat.mul_comm]
    have e37a : q_g 124 none Q 37 [some (.ref 30), some (.int (nI s)), some (.int (nI m)), some (.int (nI j))] [.int 0, .int (nI m)] M := by
      have e : nI m ||| 0 = nI m := by rw [← nI_0, or_nI, Nat.or_zero]
      simp only [gM_mayBy_0, gM_mayBy_1, gM_mayBy_2, gM_mayBy_3, gM_mayBy_5, gM_mayBy_6, gM_mayBy_9, gM_mayBy_12, gM_mayBy_13, gM_mayBy_14, gM_mayBy_15, gM_mayBy_18, gM_mayBy_21, gM_mayBy_22, gM_mayBy_23, gM_mayBy_24, gM_mayBy_27, gM_mayBy_30, gM_mayBy_31, gM_mayBy_32, gM_mayBy_33, gM_mayBy_36, gM_mayBy_37, gM_mayBy_38, gM_mayBy_39, gM_mayBy_42, gM_mayBy_45, gM_mayBy_46, ↓reduceIte, Bool.false_eq_true, Bool.true_eq_false, qk_i, qk_r, qk_n, Option.toList_some, Option.toList_none, List.cons_append, List.nil_append, true_and, and_true, true_or, or_true, eq_self, if_true, if_false, q_b1, q_b2, c_A, c_R, c_O, c_M, c_H1, c_H8, c_H15, nI_1, e]
      exact ih (j + 1) (by omega) m (by omega) hd
    rw [gM_mayBy_4]
    simp only [gM_mayBy_0, gM_mayBy_1, gM_mayBy_2, gM_mayBy_3, gM_mayBy_5, gM_mayBy_6, gM_mayBy_9, gM_mayBy_12, gM_mayBy_13, gM_mayBy_14, gM_mayBy_15, gM_mayBy_18, gM_mayBy_21, gM_mayBy_22, gM_mayBy_23, gM_mayBy_24, gM_mayBy_27, gM_mayBy_30, gM_mayBy_31, gM_mayBy_32, gM_mayBy_33, gM_mayBy_36, gM_mayBy_38, gM_mayBy_39, gM_mayBy_42, gM_mayBy_45, gM_mayBy_46, ↓reduceIte, Bool.false_eq_true, Bool.true_eq_false, qk_i, qk_r, qk_n, Option.toList_some, Option.toList_none, List.cons_append, List.nil_append, true_and, and_true, true_or, or_true, eq_self, if_true, if_false, q_b1, q_b2, c_A, c_R, c_O, c_M, c_H1, c_H8, c_H15, hv.1, h1, x_M_has, has_nI (show s < 2 ^ 31 by omega) (show j < 31 by omega), q_z0]
    by_cases hb : s.testBit j = false
    · rw [if_neg (fun q => q hb)]
      refine w_M_canHave (show j < 10 by omega) fun x hx => ?_
      simp only [gM_mayBy_0, gM_mayBy_1, gM_mayBy_2, gM_mayBy_3, gM_mayBy_5, gM_mayBy_6, gM_mayBy_9, gM_mayBy_12, gM_mayBy_13, gM_mayBy_14, gM_mayBy_15, gM_mayBy_18, gM_mayBy_21, gM_mayBy_22, gM_mayBy_23, gM_mayBy_24, gM_mayBy_27, gM_mayBy_30, gM_mayBy_31, gM_mayBy_32, gM_mayBy_33, gM_mayBy_36, gM_mayBy_38, gM_mayBy_39, gM_mayBy_42, gM_mayBy_45, gM_mayBy_46, ↓reduceIte, Bool.false_eq_true, Bool.true_eq_false, qk_i, qk_r, qk_n, Option.toList_some, Option.toList_none, List.cons_append, List.nil_append, true_and, and_true, true_or, or_true, eq_self, if_true, if_false, q_b1, q_b2, c_A, c_R, c_O, c_M, c_H1, c_H8, c_H15]
      split
      · exact e37a
      · have e : nI m ||| ((1 : Int32) <<< (nI j &&& 31)) = nI (m ||| 2 ^ j) := by rw [sh1_nI j (by omega), or_nI]
        simp only [gM_mayBy_0, gM_mayBy_1, gM_mayBy_2, gM_mayBy_3, gM_mayBy_5, gM_mayBy_6, gM_mayBy_9, gM_mayBy_12, gM_mayBy_13, gM_mayBy_14, gM_mayBy_15, gM_mayBy_18, gM_mayBy_21, gM_mayBy_22, gM_mayBy_23, gM_mayBy_24, gM_mayBy_27, gM_mayBy_30, gM_mayBy_31, gM_mayBy_32, gM_mayBy_33, gM_mayBy_36, gM_mayBy_37, gM_mayBy_38, gM_mayBy_39, gM_mayBy_42, gM_mayBy_45, gM_mayBy_46, ↓reduceIte, Bool.false_eq_true, Bool.true_eq_false, qk_i, qk_r, qk_n, Option.toList_some, Option.toList_none, List.cons_append, List.nil_append, true_and, and_true, true_or, or_true, eq_self, if_true, if_false, q_b1, q_b2, c_A, c_R, c_O, c_M, c_H1, c_H8, c_H15, nI_1, e]
        refine ih (j + 1) (by omega) _ (Nat.or_lt_two_pow (by omega) (Nat.pow_lt_pow_right (by omega) (by omega))) fun i hi => ?_
        rw [Nat.testBit_or, Nat.testBit_two_pow] at hi
        rcases (Bool.or_eq_true _ _).mp hi with q | q
        · exact hd i q
        · have : j = i := of_decide_eq_true q
          subst this
          exact hb
    · rw [if_pos hb]
      exact e37a
theorem w_M_mayBy {Q : q_R} {M : q_M} {n h s : Nat} (hv : v_m M n h) (hs : s < 1024) (hQ : ∀ m : Nat, m < 2 ^ n → (∀ i, m.testBit i = true → s.testBit i = false) → Q (some (.int (nI m))) M) : q_Run 124 [.ref 30, .int (nI s)] M Q := by
  rw [e_M_mayBy]
  simp only [gM_mayBy_0, gM_mayBy_1, gM_mayBy_2, gM_mayBy_3, gM_mayBy_5, gM_mayBy_6, gM_mayBy_9, gM_mayBy_12, gM_mayBy_13, gM_mayBy_14, gM_mayBy_15, gM_mayBy_18, gM_mayBy_21, gM_mayBy_22, gM_mayBy_23, gM_mayBy_24, gM_mayBy_27, gM_mayBy_30, gM_mayBy_31, gM_mayBy_32, gM_mayBy_33, gM_mayBy_36, gM_mayBy_37, gM_mayBy_38, gM_mayBy_39, gM_mayBy_42, gM_mayBy_45, gM_mayBy_46, ↓reduceIte, Bool.false_eq_true, Bool.true_eq_false, qk_i, qk_r, qk_n, Option.toList_some, Option.toList_none, List.cons_append, List.nil_append, true_and, and_true, true_or, or_true, eq_self, if_true, if_false, q_b1, q_b2, c_A, c_R, c_O, c_M, c_H1, c_H8, c_H15]
  exact w_M_mayBy_l hv hs hQ n 0 (by omega) 0 (by decide) (fun i hi => by simp at hi)
theorem or_gt {s m : Nat} (hm : m ≠ 0) (hd : ∀ i, m.testBit i = true → s.testBit i = false) : s < s ||| m := by
  refine Nat.lt_of_le_of_ne Nat.left_le_or fun e => ?_
  obtain ⟨i, hi⟩ := Nat.exists_testBit_of_ne_zero hm
  have h1 := hd i hi
  have h2 : (s ||| m).testBit i = true := by rw [Nat.testBit_or, hi, Bool.or_true]
  rw [← e] at h2
  rw [h2] at h1
  cases h1
theorem and_tb {m x : Nat} {s : Nat} (hd : ∀ i, m.testBit i = true → s.testBit i = false) : ∀ i, (m &&& x).testBit i = true → s.testBit i = false := fun i hi => by
  rw [Nat.testBit_and] at hi
  exact hd i ((Bool.and_eq_true _ _).mp hi).1
theorem w_M_reachOf_l {Q : q_R} {M : q_M} {n h : Nat} {a1 nv : Int32} (hv : v_m M n h) (hQ : ∀ r : Nat, r < 1024 → Q (some (.int (nI r))) M) : ∀ k (s m : Nat), 1024 - s ≤ k → s < 1024 → m < 1024 → (∀ i, m.testBit i = true → s.testBit i = false) →
    q_g 138 none Q 13 [some (.ref 30), some (.int a1), some (.int nv), some (.int (nI s)), some (.int (nI m))] [] M := by
  have h2 := two_pow_le hv.2.1
  intro k
  induction k with
  | zero =>
    intro s m hk hs
    omega
  | succ k ih =>
    intro s m hk hs hm hd
    have e0 : (nI m = 0) = (m = 0) := by
      apply propext
      constructor
      · intro q
        rcases Nat.eq_zero_or_pos m with z | z
        · exact z
        · exact absurd q (nI_ne0 z (by omega))
      · intro q
        rw [q]
        exact nI_0
    rw [gM_reachOf_13]
    simp only [gM_reachOf_0, gM_reachOf_1, gM_reachOf_2, gM_reachOf_3, gM_reachOf_4, gM_reachOf_7, gM_reachOf_8, gM_reachOf_9, gM_reachOf_10, gM_reachOf_11, gM_reachOf_15, gM_reachOf_18, gM_reachOf_19, gM_reachOf_21, gM_reachOf_22, gM_reachOf_23, gM_reachOf_24, gM_reachOf_25, gM_reachOf_28, gM_reachOf_29, gM_reachOf_30, gM_reachOf_31, gM_reachOf_32, gM_reachOf_34, gM_reachOf_37, gM_reachOf_38, ↓reduceIte, Bool.false_eq_true, Bool.true_eq_false, qk_i, qk_r, qk_n, Option.toList_some, Option.toList_none, List.cons_append, List.nil_append, true_and, and_true, true_or, or_true, eq_self, if_true, if_false, q_b1, q_b2, c_A, c_R, c_O, c_M, c_H1, c_H8, c_H15, e0, or_nI]
    split
    · exact hQ s hs
    · rename_i hm0
      have hlt : s ||| m < 1024 := Nat.or_lt_two_pow (n := 10) hs hm
      have hgt := or_gt hm0 hd
      refine w_M_mayBy hv hlt fun m2 hm2 hd2 => ?_
      obtain ⟨x, hx, ex⟩ := wb_of32 (nv ^^^ (-1))
      have e1 : nI m2 &&& (nv ^^^ (-1)) = nI (m2 &&& x) := by rw [ex, nx_and]
      simp only [gM_reachOf_0, gM_reachOf_1, gM_reachOf_2, gM_reachOf_3, gM_reachOf_4, gM_reachOf_7, gM_reachOf_8, gM_reachOf_9, gM_reachOf_10, gM_reachOf_11, gM_reachOf_15, gM_reachOf_18, gM_reachOf_19, gM_reachOf_21, gM_reachOf_22, gM_reachOf_23, gM_reachOf_24, gM_reachOf_25, gM_reachOf_28, gM_reachOf_29, gM_reachOf_30, gM_reachOf_31, gM_reachOf_32, gM_reachOf_34, gM_reachOf_37, gM_reachOf_38, ↓reduceIte, Bool.false_eq_true, Bool.true_eq_false, qk_i, qk_r, qk_n, Option.toList_some, Option.toList_none, List.cons_append, List.nil_append, true_and, and_true, true_or, or_true, eq_self, if_true, if_false, q_b1, q_b2, c_A, c_R, c_O, c_M, c_H1, c_H8, c_H15, e1]
      exact ih (s ||| m) (m2 &&& x) (by omega) hlt (Nat.lt_of_le_of_lt Nat.and_le_left (by omega)) (and_tb hd2)
theorem w_M_reachOf {Q : q_R} {M : q_M} {n h s : Nat} {nv : Int32} (hv : v_m M n h) (hs : s < 1024) (hQ : ∀ r : Nat, r < 1024 → Q (some (.int (nI r))) M) : q_Run 138 [.ref 30, .int (nI s), .int nv] M Q := by
  have h2 := two_pow_le hv.2.1
  rw [e_M_reachOf]
  simp only [gM_reachOf_0, gM_reachOf_1, gM_reachOf_2, gM_reachOf_3, gM_reachOf_4, gM_reachOf_7, gM_reachOf_8, gM_reachOf_9, gM_reachOf_10, gM_reachOf_11, gM_reachOf_15, gM_reachOf_18, gM_reachOf_19, gM_reachOf_21, gM_reachOf_22, gM_reachOf_23, gM_reachOf_24, gM_reachOf_25, gM_reachOf_28, gM_reachOf_29, gM_reachOf_30, gM_reachOf_31, gM_reachOf_32, gM_reachOf_34, gM_reachOf_37, gM_reachOf_38, ↓reduceIte, Bool.false_eq_true, Bool.true_eq_false, qk_i, qk_r, qk_n, Option.toList_some, Option.toList_none, List.cons_append, List.nil_append, true_and, and_true, true_or, or_true, eq_self, if_true, if_false, q_b1, q_b2, c_A, c_R, c_O, c_M, c_H1, c_H8, c_H15]
  refine w_M_mayBy hv hs fun m2 hm2 hd2 => ?_
  obtain ⟨x, hx, ex⟩ := wb_of32 (nv ^^^ (-1))
  have e1 : nI m2 &&& (nv ^^^ (-1)) = nI (m2 &&& x) := by rw [ex, nx_and]
  simp only [gM_reachOf_0, gM_reachOf_1, gM_reachOf_2, gM_reachOf_3, gM_reachOf_4, gM_reachOf_7, gM_reachOf_8, gM_reachOf_9, gM_reachOf_10, gM_reachOf_11, gM_reachOf_15, gM_reachOf_18, gM_reachOf_19, gM_reachOf_21, gM_reachOf_22, gM_reachOf_23, gM_reachOf_24, gM_reachOf_25, gM_reachOf_28, gM_reachOf_29, gM_reachOf_30, gM_reachOf_31, gM_reachOf_32, gM_reachOf_34, gM_reachOf_37, gM_reachOf_38, ↓reduceIte, Bool.false_eq_true, Bool.true_eq_false, qk_i, qk_r, qk_n, Option.toList_some, Option.toList_none, List.cons_append, List.nil_append, true_and, and_true, true_or, or_true, eq_self, if_true, if_false, q_b1, q_b2, c_A, c_R, c_O, c_M, c_H1, c_H8, c_H15, e1]
  exact w_M_reachOf_l hv hQ 1024 s (m2 &&& x) (by omega) hs (Nat.lt_of_le_of_lt Nat.and_le_left (by omega)) (and_tb hd2)
theorem w_M_goOf {Q : q_R} {M : q_M} {j : Nat} {w : Int32} (hj : j < 10) (hQ : ∀ x : Int32, Q (some (.int x)) M) : q_Run 107 [.ref 30, .int (nI j), .int w] M Q := by
  have hin : q_in (nI j) 10 = true := q_in_nI hj (by omega)
  rw [e_M_goOf]
  simp only [gM_goOf_0, gM_goOf_1, gM_goOf_2, gM_goOf_5, gM_goOf_8, gM_goOf_9, gM_goOf_12, gM_goOf_13, gM_goOf_14, gM_goOf_15, gM_goOf_16, gM_goOf_17, gM_goOf_18, gM_goOf_21, gM_goOf_22, gM_goOf_25, gM_goOf_26, gM_goOf_28, gM_goOf_29, gM_goOf_32, gM_goOf_33, gM_goOf_34, gM_goOf_64, gM_goOf_65, gM_goOf_66, gM_goOf_67, gM_goOf_70, gM_goOf_71, gM_goOf_72, gM_goOf_73, gM_goOf_76, gM_goOf_77, gM_goOf_78, gM_goOf_79, gM_goOf_80, gM_goOf_83, gM_goOf_86, gM_goOf_87, gM_goOf_90, gM_goOf_91, gM_goOf_92, gM_goOf_93, gM_goOf_94, gM_goOf_95, gM_goOf_98, gM_goOf_99, gM_goOf_100, ↓reduceIte, Bool.false_eq_true, Bool.true_eq_false, qk_i, qk_r, qk_n, Option.toList_some, Option.toList_none, List.cons_append, List.nil_append, true_and, and_true, true_or, or_true, eq_self, if_true, if_false, q_b1, q_b2, c_A, c_R, c_O, c_M, c_H1, c_H8, c_H15, rf_M1, rf_M2, aD_32, aD_33, hin, x_M_bits, x_M_has, q_z0, q_n2, q_jn]
  simp only [gM_goOf_0, gM_goOf_1, gM_goOf_2, gM_goOf_5, gM_goOf_8, gM_goOf_9, gM_goOf_12, gM_goOf_13, gM_goOf_14, gM_goOf_15, gM_goOf_16, gM_goOf_17, gM_goOf_18, gM_goOf_21, gM_goOf_22, gM_goOf_25, gM_goOf_26, gM_goOf_27, gM_goOf_28, gM_goOf_29, gM_goOf_32, gM_goOf_33, gM_goOf_34, gM_goOf_64, gM_goOf_65, gM_goOf_66, gM_goOf_67, gM_goOf_70, gM_goOf_71, gM_goOf_72, gM_goOf_73, gM_goOf_76, gM_goOf_77, gM_goOf_78, gM_goOf_79, gM_goOf_80, gM_goOf_83, gM_goOf_86, gM_goOf_87, gM_goOf_90, gM_goOf_91, gM_goOf_92, gM_goOf_93, gM_goOf_94, gM_goOf_95, gM_goOf_98, gM_goOf_99, gM_goOf_100, ↓reduceIte, Bool.false_eq_true, Bool.true_eq_false, qk_i, qk_r, qk_n, Option.toList_some, Option.toList_none, List.cons_append, List.nil_append, true_and, and_true, true_or, or_true, eq_self, if_true, if_false, q_b1, q_b2, c_A, c_R, c_O, c_M, c_H1, c_H8, c_H15, rf_M1, rf_M2, aD_32, aD_33, hin, x_M_bits, x_M_has, q_z0, q_n2]
  repeat' split
  all_goals exact hQ _
theorem w_M_costOf_l {Q : q_R} {M : q_M} {n h : Nat} {w : Int32} (hv : v_m M n h) (hQ : ∀ x : Int32, Q (some (.int x)) M) : ∀ k j, j + k = n → ∀ ac : Int32,
    q_g 100 none Q 4 [some (.ref 30), some (.int w), some (.int ac), some (.int (nI j))] [] M := by
  have h10 := hv.2.1
  intro k
  induction k with
  | zero =>
    intro j hj ac
    have : j = n := by omega
    subst this
    rw [gM_costOf_4]
    simp only [gM_costOf_0, gM_costOf_1, gM_costOf_2, gM_costOf_3, gM_costOf_5, gM_costOf_6, gM_costOf_9, gM_costOf_12, gM_costOf_13, gM_costOf_14, gM_costOf_15, gM_costOf_18, gM_costOf_21, gM_costOf_22, gM_costOf_25, gM_costOf_26, gM_costOf_27, gM_costOf_30, gM_costOf_31, gM_costOf_32, gM_costOf_33, gM_costOf_36, gM_costOf_39, gM_costOf_40, ↓reduceIte, Bool.false_eq_true, Bool.true_eq_false, qk_i, qk_r, qk_n, Option.toList_some, Option.toList_none, List.cons_append, List.nil_append, true_and, and_true, true_or, or_true, eq_self, if_true, if_false, q_b1, q_b2, c_A, c_R, c_O, c_M, c_H1, c_H8, c_H15, hv.1, Int32.le_refl]
    exact hQ _
  | succ k ih =>
    intro j hj ac
    have h1 : ¬ nI n ≤ nI j := nI_ge (by omega) (by omega)
    have hin : q_in (nI j) 10 = true := q_in_nI (by omega) (by omega)
    rw [gM_costOf_4]
    simp only [gM_costOf_0, gM_costOf_1, gM_costOf_2, gM_costOf_3, gM_costOf_5, gM_costOf_6, gM_costOf_9, gM_costOf_12, gM_costOf_13, gM_costOf_14, gM_costOf_15, gM_costOf_18, gM_costOf_21, gM_costOf_22, gM_costOf_25, gM_costOf_26, gM_costOf_27, gM_costOf_30, gM_costOf_32, gM_costOf_33, gM_costOf_36, gM_costOf_39, gM_costOf_40, ↓reduceIte, Bool.false_eq_true, Bool.true_eq_false, qk_i, qk_r, qk_n, Option.toList_some, Option.toList_none, List.cons_append, List.nil_append, true_and, and_true, true_or, or_true, eq_self, if_true, if_false, q_b1, q_b2, c_A, c_R, c_O, c_M, c_H1, c_H8, c_H15, hv.1, h1, x_M_has, q_z0, rf_M4, aD_35, hin, q_jn]
    simp only [gM_costOf_0, gM_costOf_1, gM_costOf_2, gM_costOf_3, gM_costOf_5, gM_costOf_6, gM_costOf_9, gM_costOf_12, gM_costOf_13, gM_costOf_14, gM_costOf_15, gM_costOf_18, gM_costOf_21, gM_costOf_22, gM_costOf_25, gM_costOf_26, gM_costOf_27, gM_costOf_30, gM_costOf_31, gM_costOf_32, gM_costOf_33, gM_costOf_36, gM_costOf_39, gM_costOf_40, ↓reduceIte, Bool.false_eq_true, Bool.true_eq_false, qk_i, qk_r, qk_n, Option.toList_some, Option.toList_none, List.cons_append, List.nil_append, true_and, and_true, true_or, or_true, eq_self, if_true, if_false, q_b1, q_b2, c_A, c_R, c_O, c_M, c_H1, c_H8, c_H15, nI_1]
    exact ih (j + 1) (by omega) _
theorem w_M_costOf {Q : q_R} {M : q_M} {n h : Nat} {w : Int32} (hv : v_m M n h) (hQ : ∀ x : Int32, Q (some (.int x)) M) : q_Run 100 [.ref 30, .int w] M Q := by
  rw [e_M_costOf]
  simp only [gM_costOf_0, gM_costOf_1, gM_costOf_2, gM_costOf_3, gM_costOf_5, gM_costOf_6, gM_costOf_9, gM_costOf_12, gM_costOf_13, gM_costOf_14, gM_costOf_15, gM_costOf_18, gM_costOf_21, gM_costOf_22, gM_costOf_25, gM_costOf_26, gM_costOf_27, gM_costOf_30, gM_costOf_31, gM_costOf_32, gM_costOf_33, gM_costOf_36, gM_costOf_39, gM_costOf_40, ↓reduceIte, Bool.false_eq_true, Bool.true_eq_false, qk_i, qk_r, qk_n, Option.toList_some, Option.toList_none, List.cons_append, List.nil_append, true_and, and_true, true_or, or_true, eq_self, if_true, if_false, q_b1, q_b2, c_A, c_R, c_O, c_M, c_H1, c_H8, c_H15]
  exact w_M_costOf_l hv hQ n 0 (by omega) _
