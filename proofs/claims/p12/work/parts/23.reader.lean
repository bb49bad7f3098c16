/-! Reader: what its methods answer -/
theorem rf_R : q_rf 22 0 = 23 := by decide +kernel
theorem al_R : q_alen 23 = some 96 := by decide +kernel
theorem x_R_isFull {Q : q_R} {M : q_M} : q_Run 32 [.ref 22] M Q = Q (some (.int (q_z (decide (¬ M 22 1 < 96))))) M := by
  rw [e_R_isFull]
  simp only [gR_isFull_0, gR_isFull_1, gR_isFull_4, gR_isFull_6, gR_isFull_9, gR_isFull_10, gR_isFull_13, gR_isFull_14, ↓reduceIte, Bool.false_eq_true, Bool.true_eq_false, qk_i, qk_r, qk_n, Option.toList_some, Option.toList_none, List.cons_append, List.nil_append, true_and, and_true, true_or, or_true, eq_self, if_true, if_false, q_b1, q_b2, c_A, c_R, c_O, c_M, c_H1, c_H8, c_H15]
  unfold q_z
  by_cases h : M 22 1 < 96 <;> simp [h]
def s_hear (M : q_M) (c : Int32) : q_M := q_put (s_put M 23 96 (M 22 1) c) 22 1 (M 22 1 + 1)
theorem x_R_hear {Q : q_R} {M : q_M} {c : Int32} : q_Run 30 [.ref 22, .int c] M Q = Q (some (.int (M 22 1 + 1))) (s_hear M c) := by
  have h1 : ∀ i v, s_put M 23 96 i v 22 = M 22 := fun i v => s_put_ne (by decide)
  rw [e_R_hear]
  simp only [gR_hear_0, gR_hear_1, gR_hear_4, gR_hear_5, gR_hear_8, gR_hear_9, gR_hear_12, gR_hear_13, gR_hear_14, gR_hear_17, gR_hear_18, gR_hear_19, gR_hear_22, gR_hear_23, gR_hear_26, ↓reduceIte, Bool.false_eq_true, Bool.true_eq_false, qk_i, qk_r, qk_n, Option.toList_some, Option.toList_none, List.cons_append, List.nil_append, true_and, and_true, true_or, or_true, eq_self, if_true, if_false, q_b1, q_b2, c_A, c_R, c_O, c_M, c_H1, c_H8, c_H15, rf_R, x_W_put al_R, h1, q_put_at]
  rfl
theorem x_R_forget {Q : q_R} {M : q_M} : q_Run 29 [.ref 22] M Q = Q none (q_put M 22 1 0) := by
  rw [e_R_forget]
  simp only [gR_forget_0, gR_forget_1, gR_forget_2, gR_forget_5, ↓reduceIte, Bool.false_eq_true, Bool.true_eq_false, qk_i, qk_r, qk_n, Option.toList_some, Option.toList_none, List.cons_append, List.nil_append, true_and, and_true, true_or, or_true, eq_self, if_true, if_false, q_b1, q_b2, c_A, c_R, c_O, c_M, c_H1, c_H8, c_H15]
theorem x_R_faultHere {Q : q_R} {M : q_M} : q_Run 28 [.ref 22] M Q = Q (some (.int (-1000 - M 22 2))) M := by
  rw [e_R_faultHere]
  simp only [gR_faultHere_0, gR_faultHere_3, gR_faultHere_4, gR_faultHere_7, gR_faultHere_8, ↓reduceIte, Bool.false_eq_true, Bool.true_eq_false, qk_i, qk_r, qk_n, Option.toList_some, Option.toList_none, List.cons_append, List.nil_append, true_and, and_true, true_or, or_true, eq_self, if_true, if_false, q_b1, q_b2, c_A, c_R, c_O, c_M, c_H1, c_H8, c_H15]
def s_kindOf (c : Int32) : Int32 := if c = 98 then 1 else if c = 102 then 3 else if c = 108 then 2 else if c = 112 then 5 else if c = 116 then 0 else if c = 119 then 4 else -1
theorem x_R_kindOf {Q : q_R} {M : q_M} {c : Int32} : q_Run 33 [.int c] M Q = Q (some (.int (s_kindOf c))) M := by
  rw [e_R_kindOf]
  simp only [gR_kindOf_0, gR_kindOf_1, gR_kindOf_60, gR_kindOf_61, gR_kindOf_62, gR_kindOf_63, gR_kindOf_64, gR_kindOf_65, gR_kindOf_66, gR_kindOf_67, gR_kindOf_68, gR_kindOf_69, gR_kindOf_70, gR_kindOf_71, gR_kindOf_72, gR_kindOf_73, ↓reduceIte, Bool.false_eq_true, Bool.true_eq_false, qk_i, qk_r, qk_n, Option.toList_some, Option.toList_none, List.cons_append, List.nil_append, true_and, and_true, true_or, or_true, eq_self, if_true, if_false, q_b1, q_b2, c_A, c_R, c_O, c_M, c_H1, c_H8, c_H15, q_jq]
  rfl
def s_here (M : q_M) : Int32 := if M 22 2 < 0 then -1 else if M 22 1 ≤ M 22 2 then -1 else if Int32.ofNat 96 ≤ M 22 2 then -1 else M 23 (M 22 2).toNatClampNeg
theorem x_R_here {Q : q_R} {M : q_M} : q_Run 31 [.ref 22] M Q = Q (some (.int (s_here M))) M := by
  rw [e_R_here]
  simp only [gR_here_0, gR_here_1, gR_here_4, gR_here_7, gR_here_8, gR_here_11, gR_here_12, gR_here_15, gR_here_18, gR_here_19, gR_here_22, gR_here_23, gR_here_26, gR_here_27, gR_here_30, gR_here_31, gR_here_34, gR_here_35, gR_here_38, gR_here_39, gR_here_42, gR_here_43, ↓reduceIte, Bool.false_eq_true, Bool.true_eq_false, qk_i, qk_r, qk_n, Option.toList_some, Option.toList_none, List.cons_append, List.nil_append, true_and, and_true, true_or, or_true, eq_self, if_true, if_false, q_b1, q_b2, c_A, c_R, c_O, c_M, c_H1, c_H8, c_H15, rf_R, al_R, q_alenD_of al_R, Option.isSome_some]
  unfold s_here
  by_cases h0 : M 22 2 < 0
  · simp only [h0, if_true]
  · by_cases h1 : M 22 1 ≤ M 22 2
    · simp only [h0, h1, if_true, if_false]
    · by_cases h2 : Int32.ofNat 96 ≤ M 22 2
      · simp only [h0, h1, h2, if_true, if_false]
      · simp only [h0, h1, h2, if_false, q_in_of (by decide) h0 h2, true_and]
abbrev q_P : Type := Int32 × q_M
/-- the place one on -/
def s_on (M : q_M) : q_M := q_put M 22 2 (M 22 2 + 1)
def s_passes (M : q_M) (c : Int32) : q_P := if s_here M = c then (1, s_on M) else (0, M)
theorem x_R_passes {Q : q_R} {M : q_M} {c : Int32} : q_Run 34 [.ref 22, .int c] M Q = Q (some (.int (s_passes M c).1)) (s_passes M c).2 := by
  rw [e_R_passes]
  simp only [gR_passes_0, gR_passes_1, gR_passes_4, gR_passes_5, gR_passes_8, gR_passes_9, gR_passes_10, gR_passes_11, gR_passes_12, gR_passes_15, gR_passes_16, gR_passes_17, gR_passes_20, gR_passes_21, ↓reduceIte, Bool.false_eq_true, Bool.true_eq_false, qk_i, qk_r, qk_n, Option.toList_some, Option.toList_none, List.cons_append, List.nil_append, true_and, and_true, true_or, or_true, eq_self, if_true, if_false, q_b1, q_b2, c_A, c_R, c_O, c_M, c_H1, c_H8, c_H15, x_R_here]
  unfold s_passes
  by_cases h : s_here M = c <;> simp only [h, if_true, if_false] <;> rfl
def s_digit (M : q_M) : q_P := if s_here M < 48 then (-1, M) else if s_here M ≤ 57 then (s_here M - 48, s_on M) else (-1, M)
theorem x_R_readDigit {Q : q_R} {M : q_M} : q_Run 35 [.ref 22] M Q = Q (some (.int (s_digit M).1)) (s_digit M).2 := by
  rw [e_R_readDigit]
  simp only [gR_readDigit_0, gR_readDigit_1, gR_readDigit_4, gR_readDigit_5, gR_readDigit_6, gR_readDigit_8, gR_readDigit_11, gR_readDigit_12, gR_readDigit_14, gR_readDigit_17, gR_readDigit_18, gR_readDigit_19, gR_readDigit_20, gR_readDigit_21, gR_readDigit_24, gR_readDigit_25, gR_readDigit_26, gR_readDigit_29, gR_readDigit_30, gR_readDigit_32, gR_readDigit_33, ↓reduceIte, Bool.false_eq_true, Bool.true_eq_false, qk_i, qk_r, qk_n, Option.toList_some, Option.toList_none, List.cons_append, List.nil_append, true_and, and_true, true_or, or_true, eq_self, if_true, if_false, q_b1, q_b2, c_A, c_R, c_O, c_M, c_H1, c_H8, c_H15, x_R_here]
  unfold s_digit
  by_cases h : s_here M < 48 <;> by_cases h2 : s_here M ≤ 57 <;> simp only [h, h2, if_true, if_false] <;> rfl
def s_number (M : q_M) : q_P := if 0 ≤ (s_digit M).1 then (if 0 ≤ (s_digit (s_digit M).2).1 then ((s_digit M).1 * 10 + (s_digit (s_digit M).2).1, (s_digit (s_digit M).2).2) else ((s_digit M).1, (s_digit (s_digit M).2).2)) else (-1, (s_digit M).2)
theorem x_R_readNumber {Q : q_R} {M : q_M} : q_Run 37 [.ref 22] M Q = Q (some (.int (s_number M).1)) (s_number M).2 := by
  rw [e_R_readNumber]
  simp only [gR_readNumber_0, gR_readNumber_1, gR_readNumber_4, gR_readNumber_5, gR_readNumber_6, gR_readNumber_9, gR_readNumber_10, gR_readNumber_11, gR_readNumber_12, gR_readNumber_15, gR_readNumber_16, gR_readNumber_17, gR_readNumber_20, gR_readNumber_21, gR_readNumber_24, gR_readNumber_25, gR_readNumber_27, gR_readNumber_28, gR_readNumber_29, gR_readNumber_30, ↓reduceIte, Bool.false_eq_true, Bool.true_eq_false, qk_i, qk_r, qk_n, Option.toList_some, Option.toList_none, List.cons_append, List.nil_append, true_and, and_true, true_or, or_true, eq_self, if_true, if_false, q_b1, q_b2, c_A, c_R, c_O, c_M, c_H1, c_H8, c_H15, x_R_readDigit]
  unfold s_number
  by_cases h : 0 ≤ (s_digit M).1 <;> by_cases h2 : 0 ≤ (s_digit (s_digit M).2).1 <;> simp only [h, h2, if_true, if_false]
def s_first (M : q_M) : q_P := (q_z (decide (¬ (s_digit M).1 < 0)), q_put (s_digit M).2 22 5 (s_digit M).1)
theorem x_R_readFirst {Q : q_R} {M : q_M} : q_Run 36 [.ref 22] M Q = Q (some (.int (s_first M).1)) (s_first M).2 := by
  rw [e_R_readFirst]
  simp only [gR_readFirst_0, gR_readFirst_1, gR_readFirst_2, gR_readFirst_5, gR_readFirst_8, gR_readFirst_9, gR_readFirst_12, gR_readFirst_15, gR_readFirst_16, gR_readFirst_19, gR_readFirst_20, ↓reduceIte, Bool.false_eq_true, Bool.true_eq_false, qk_i, qk_r, qk_n, Option.toList_some, Option.toList_none, List.cons_append, List.nil_append, true_and, and_true, true_or, or_true, eq_self, if_true, if_false, q_b1, q_b2, c_A, c_R, c_O, c_M, c_H1, c_H8, c_H15, x_R_readDigit, q_put_at]
  unfold s_first q_z
  by_cases h : (s_digit M).1 < 0 <;> simp [h]
def s_second (M : q_M) : q_P := (q_z (decide (¬ (s_digit M).1 < 0)), q_put (s_digit M).2 22 6 (s_digit M).1)
theorem x_R_readSecond {Q : q_R} {M : q_M} : q_Run 38 [.ref 22] M Q = Q (some (.int (s_second M).1)) (s_second M).2 := by
  rw [e_R_readSecond]
  simp only [gR_readSecond_0, gR_readSecond_1, gR_readSecond_2, gR_readSecond_5, gR_readSecond_8, gR_readSecond_9, gR_readSecond_12, gR_readSecond_15, gR_readSecond_16, gR_readSecond_19, gR_readSecond_20, ↓reduceIte, Bool.false_eq_true, Bool.true_eq_false, qk_i, qk_r, qk_n, Option.toList_some, Option.toList_none, List.cons_append, List.nil_append, true_and, and_true, true_or, or_true, eq_self, if_true, if_false, q_b1, q_b2, c_A, c_R, c_O, c_M, c_H1, c_H8, c_H15, x_R_readDigit, q_put_at]
  unfold s_second q_z
  by_cases h : (s_digit M).1 < 0 <;> simp [h]
def s_th1 (M : q_M) : q_M := q_put M 22 4 (s_kindOf (s_here M))
def s_th2 (M : q_M) : q_M := q_put (s_number (s_on (s_th1 M))).2 22 5 (s_number (s_on (s_th1 M))).1
def s_th3 (M : q_M) : q_P := s_passes (s_th2 M) 44
def s_th4 (M : q_M) : q_P := s_number (s_th3 M).2
def s_thing (M : q_M) : q_P := if 0 ≤ s_kindOf (s_here M) then (if (s_number (s_on (s_th1 M))).1 < 0 then (0, s_th2 M) else if (s_th3 M).1 = 0 then (0, (s_th3 M).2) else (q_z (decide (¬ (s_th4 M).1 < 0)), q_put (s_th4 M).2 22 6 (s_th4 M).1)) else (0, s_th1 M)
theorem x_R_readThing {Q : q_R} {M : q_M} : q_Run 40 [.ref 22] M Q = Q (some (.int (s_thing M).1)) (s_thing M).2 := by
  have e1 : q_put (s_th1 M) 22 2 (s_th1 M 22 2 + 1) = s_on (s_th1 M) := rfl
  rw [e_R_readThing]
  simp only [gR_readThing_0, gR_readThing_1, gR_readThing_2, gR_readThing_5, gR_readThing_8, gR_readThing_11, gR_readThing_12, gR_readThing_15, gR_readThing_18, gR_readThing_19, gR_readThing_21, gR_readThing_22, gR_readThing_25, gR_readThing_26, gR_readThing_27, gR_readThing_30, gR_readThing_31, gR_readThing_32, gR_readThing_35, gR_readThing_38, gR_readThing_39, gR_readThing_42, gR_readThing_45, gR_readThing_46, gR_readThing_48, gR_readThing_51, gR_readThing_54, gR_readThing_55, gR_readThing_56, gR_readThing_57, gR_readThing_58, gR_readThing_61, gR_readThing_64, gR_readThing_65, gR_readThing_68, gR_readThing_71, gR_readThing_72, gR_readThing_75, gR_readThing_76, ↓reduceIte, Bool.false_eq_true, Bool.true_eq_false, qk_i, qk_r, qk_n, Option.toList_some, Option.toList_none, List.cons_append, List.nil_append, true_and, and_true, true_or, or_true, eq_self, if_true, if_false, q_b1, q_b2, c_A, c_R, c_O, c_M, c_H1, c_H8, c_H15, x_R_here, x_R_kindOf, q_put_at]
  have e20 : q_g 40 none Q 20 [some (.ref 22)] [] (s_th1 M) = (if (s_number (s_on (s_th1 M))).1 < 0 then Q (some (.int 0)) (s_th2 M) else if (s_th3 M).1 = 0 then Q (some (.int 0)) (s_th3 M).2 else Q (some (.int (q_z (decide (¬ (s_th4 M).1 < 0))))) (q_put (s_th4 M).2 22 6 (s_th4 M).1)) := by
    have e2 : q_put (s_number (s_on (s_th1 M))).2 22 5 (s_number (s_on (s_th1 M))).1 = s_th2 M := rfl
    have e3 : s_passes (s_th2 M) 44 = s_th3 M := rfl
    have e4 : s_number (s_th3 M).2 = s_th4 M := rfl
    have e5 : s_th2 M 22 5 = (s_number (s_on (s_th1 M))).1 := by simp [s_th2, q_put_at]
    simp only [gR_readThing_0, gR_readThing_1, gR_readThing_2, gR_readThing_5, gR_readThing_8, gR_readThing_11, gR_readThing_12, gR_readThing_15, gR_readThing_18, gR_readThing_19, gR_readThing_20, gR_readThing_21, gR_readThing_22, gR_readThing_25, gR_readThing_26, gR_readThing_27, gR_readThing_30, gR_readThing_31, gR_readThing_32, gR_readThing_35, gR_readThing_38, gR_readThing_39, gR_readThing_42, gR_readThing_45, gR_readThing_46, gR_readThing_48, gR_readThing_51, gR_readThing_54, gR_readThing_55, gR_readThing_56, gR_readThing_57, gR_readThing_58, gR_readThing_61, gR_readThing_64, gR_readThing_65, gR_readThing_68, gR_readThing_71, gR_readThing_72, gR_readThing_75, gR_readThing_76, ↓reduceIte, Bool.false_eq_true, Bool.true_eq_false, qk_i, qk_r, qk_n, Option.toList_some, Option.toList_none, List.cons_append, List.nil_append, true_and, and_true, true_or, or_true, eq_self, if_true, if_false, q_b1, q_b2, c_A, c_R, c_O, c_M, c_H1, c_H8, c_H15, x_R_readNumber, x_R_passes, e1, e2, e3, e4, e5, q_put_at]
    unfold q_z
    by_cases h1 : (s_number (s_on (s_th1 M))).1 < 0 <;> by_cases h2 : (s_th3 M).1 = 0 <;> by_cases h3 : (s_th4 M).1 < 0 <;> simp [h1, h2, h3]
  have e6 : q_put M 22 4 (s_kindOf (s_here M)) = s_th1 M := rfl
  simp only [e6, e20]
  unfold s_thing
  by_cases h0 : 0 ≤ s_kindOf (s_here M) <;> by_cases h1 : (s_number (s_on (s_th1 M))).1 < 0 <;> by_cases h2 : (s_th3 M).1 = 0 <;> simp only [h0, h1, h2, if_true, if_false]
/-- t.. , n/a/c.., h.. behind their sign -/
def s_stT (M : q_M) : q_P := if (s_thing (s_on M)).1 = 0 then (0, (s_thing (s_on M)).2) else (q_z (decide (¬ (s_passes (s_thing (s_on M)).2 59).1 = 0)), (s_passes (s_thing (s_on M)).2 59).2)
def s_stN (M : q_M) : q_P := if (s_first (s_on M)).1 = 0 then (0, (s_first (s_on M)).2) else if (s_second (s_first (s_on M)).2).1 = 0 then (0, (s_second (s_first (s_on M)).2).2)
  else (q_z (decide (¬ (s_passes (s_second (s_first (s_on M)).2).2 59).1 = 0)), (s_passes (s_second (s_first (s_on M)).2).2 59).2)
def s_stH (M : q_M) : q_P := if (s_first (s_on M)).1 = 0 then (0, (s_first (s_on M)).2) else (q_z (decide (¬ (s_passes (s_first (s_on M)).2 59).1 = 0)), (s_passes (s_first (s_on M)).2 59).2)
def s_sg (M : q_M) : q_M := q_put M 22 3 (s_here M)
def s_stmt (M : q_M) : q_P := if s_here M = 97 then s_stN (s_sg M) else if s_here M = 99 then s_stN (s_sg M) else if s_here M = 104 then s_stH (s_sg M) else if s_here M = 110 then s_stN (s_sg M) else if s_here M = 116 then s_stT (s_sg M) else (0, s_sg M)
theorem x_R_readStatement {Q : q_R} {M : q_M} : q_Run 39 [.ref 22] M Q = Q (some (.int (s_stmt M).1)) (s_stmt M).2 := by
  have e0 : ∀ N : q_M, q_put N 22 2 (N 22 2 + 1) = s_on N := fun _ => rfl
  have e64 : ∀ N : q_M, q_g 39 none Q 64 [some (.ref 22)] [] N = Q (some (.int (s_stT N).1)) (s_stT N).2 := by
    intro N
    simp only [gR_readStatement_0, gR_readStatement_1, gR_readStatement_2, gR_readStatement_5, gR_readStatement_8, gR_readStatement_9, gR_readStatement_12, gR_readStatement_64, gR_readStatement_65, gR_readStatement_66, gR_readStatement_69, gR_readStatement_70, gR_readStatement_71, gR_readStatement_74, gR_readStatement_75, gR_readStatement_78, gR_readStatement_81, gR_readStatement_82, gR_readStatement_84, gR_readStatement_87, gR_readStatement_90, gR_readStatement_91, gR_readStatement_94, gR_readStatement_95, gR_readStatement_96, gR_readStatement_97, gR_readStatement_98, gR_readStatement_101, gR_readStatement_102, gR_readStatement_103, gR_readStatement_106, gR_readStatement_107, gR_readStatement_110, gR_readStatement_113, gR_readStatement_114, gR_readStatement_117, gR_readStatement_120, gR_readStatement_121, gR_readStatement_123, gR_readStatement_126, gR_readStatement_129, gR_readStatement_130, gR_readStatement_133, gR_readStatement_134, gR_readStatement_135, gR_readStatement_136, gR_readStatement_137, gR_readStatement_140, gR_readStatement_141, gR_readStatement_142, gR_readStatement_145, gR_readStatement_146, gR_readStatement_149, gR_readStatement_152, gR_readStatement_153, gR_readStatement_155, gR_readStatement_158, gR_readStatement_161, gR_readStatement_162, gR_readStatement_165, gR_readStatement_166, gR_readStatement_167, gR_readStatement_168, ↓reduceIte, Bool.false_eq_true, Bool.true_eq_false, qk_i, qk_r, qk_n, Option.toList_some, Option.toList_none, List.cons_append, List.nil_append, true_and, and_true, true_or, or_true, eq_self, if_true, if_false, q_b1, q_b2, c_A, c_R, c_O, c_M, c_H1, c_H8, c_H15, x_R_readThing, x_R_passes, e0]
    unfold s_stT q_z
    by_cases h1 : (s_thing (s_on N)).1 = 0 <;> by_cases h2 : (s_passes (s_thing (s_on N)).2 59).1 = 0 <;> simp [h1, h2]
  have e96 : ∀ N : q_M, q_g 39 none Q 96 [some (.ref 22)] [] N = Q (some (.int (s_stN N).1)) (s_stN N).2 := by
    intro N
    simp only [gR_readStatement_0, gR_readStatement_1, gR_readStatement_2, gR_readStatement_5, gR_readStatement_8, gR_readStatement_9, gR_readStatement_12, gR_readStatement_64, gR_readStatement_65, gR_readStatement_66, gR_readStatement_69, gR_readStatement_70, gR_readStatement_71, gR_readStatement_74, gR_readStatement_75, gR_readStatement_78, gR_readStatement_81, gR_readStatement_82, gR_readStatement_84, gR_readStatement_87, gR_readStatement_90, gR_readStatement_91, gR_readStatement_94, gR_readStatement_95, gR_readStatement_96, gR_readStatement_97, gR_readStatement_98, gR_readStatement_101, gR_readStatement_102, gR_readStatement_103, gR_readStatement_106, gR_readStatement_107, gR_readStatement_110, gR_readStatement_113, gR_readStatement_114, gR_readStatement_117, gR_readStatement_120, gR_readStatement_121, gR_readStatement_123, gR_readStatement_126, gR_readStatement_129, gR_readStatement_130, gR_readStatement_133, gR_readStatement_134, gR_readStatement_135, gR_readStatement_136, gR_readStatement_137, gR_readStatement_140, gR_readStatement_141, gR_readStatement_142, gR_readStatement_145, gR_readStatement_146, gR_readStatement_149, gR_readStatement_152, gR_readStatement_153, gR_readStatement_155, gR_readStatement_158, gR_readStatement_161, gR_readStatement_162, gR_readStatement_165, gR_readStatement_166, gR_readStatement_167, gR_readStatement_168, ↓reduceIte, Bool.false_eq_true, Bool.true_eq_false, qk_i, qk_r, qk_n, Option.toList_some, Option.toList_none, List.cons_append, List.nil_append, true_and, and_true, true_or, or_true, eq_self, if_true, if_false, q_b1, q_b2, c_A, c_R, c_O, c_M, c_H1, c_H8, c_H15, x_R_readFirst, x_R_readSecond, x_R_passes, e0]
    unfold s_stN q_z
    by_cases h1 : (s_first (s_on N)).1 = 0 <;> by_cases h3 : (s_second (s_first (s_on N)).2).1 = 0 <;> by_cases h2 : (s_passes (s_second (s_first (s_on N)).2).2 59).1 = 0 <;> simp [h1, h2, h3]
  have e135 : ∀ N : q_M, q_g 39 none Q 135 [some (.ref 22)] [] N = Q (some (.int (s_stH N).1)) (s_stH N).2 := by
    intro N
    simp only [gR_readStatement_0, gR_readStatement_1, gR_readStatement_2, gR_readStatement_5, gR_readStatement_8, gR_readStatement_9, gR_readStatement_12, gR_readStatement_64, gR_readStatement_65, gR_readStatement_66, gR_readStatement_69, gR_readStatement_70, gR_readStatement_71, gR_readStatement_74, gR_readStatement_75, gR_readStatement_78, gR_readStatement_81, gR_readStatement_82, gR_readStatement_84, gR_readStatement_87, gR_readStatement_90, gR_readStatement_91, gR_readStatement_94, gR_readStatement_95, gR_readStatement_96, gR_readStatement_97, gR_readStatement_98, gR_readStatement_101, gR_readStatement_102, gR_readStatement_103, gR_readStatement_106, gR_readStatement_107, gR_readStatement_110, gR_readStatement_113, gR_readStatement_114, gR_readStatement_117, gR_readStatement_120, gR_readStatement_121, gR_readStatement_123, gR_readStatement_126, gR_readStatement_129, gR_readStatement_130, gR_readStatement_133, gR_readStatement_134, gR_readStatement_135, gR_readStatement_136, gR_readStatement_137, gR_readStatement_140, gR_readStatement_141, gR_readStatement_142, gR_readStatement_145, gR_readStatement_146, gR_readStatement_149, gR_readStatement_152, gR_readStatement_153, gR_readStatement_155, gR_readStatement_158, gR_readStatement_161, gR_readStatement_162, gR_readStatement_165, gR_readStatement_166, gR_readStatement_167, gR_readStatement_168, ↓reduceIte, Bool.false_eq_true, Bool.true_eq_false, qk_i, qk_r, qk_n, Option.toList_some, Option.toList_none, List.cons_append, List.nil_append, true_and, and_true, true_or, or_true, eq_self, if_true, if_false, q_b1, q_b2, c_A, c_R, c_O, c_M, c_H1, c_H8, c_H15, x_R_readFirst, x_R_passes, e0]
    unfold s_stH q_z
    by_cases h1 : (s_first (s_on N)).1 = 0 <;> by_cases h2 : (s_passes (s_first (s_on N)).2 59).1 = 0 <;> simp [h1, h2]
  have e6 : q_put M 22 3 (s_here M) = s_sg M := rfl
  have e7 : s_sg M 22 3 = s_here M := by simp [s_sg, q_put_at]
  rw [e_R_readStatement]
  simp only [gR_readStatement_0, gR_readStatement_1, gR_readStatement_2, gR_readStatement_5, gR_readStatement_8, gR_readStatement_9, gR_readStatement_12, gR_readStatement_65, gR_readStatement_66, gR_readStatement_69, gR_readStatement_70, gR_readStatement_71, gR_readStatement_74, gR_readStatement_75, gR_readStatement_78, gR_readStatement_81, gR_readStatement_82, gR_readStatement_84, gR_readStatement_87, gR_readStatement_90, gR_readStatement_91, gR_readStatement_94, gR_readStatement_95, gR_readStatement_97, gR_readStatement_98, gR_readStatement_101, gR_readStatement_102, gR_readStatement_103, gR_readStatement_106, gR_readStatement_107, gR_readStatement_110, gR_readStatement_113, gR_readStatement_114, gR_readStatement_117, gR_readStatement_120, gR_readStatement_121, gR_readStatement_123, gR_readStatement_126, gR_readStatement_129, gR_readStatement_130, gR_readStatement_133, gR_readStatement_134, gR_readStatement_136, gR_readStatement_137, gR_readStatement_140, gR_readStatement_141, gR_readStatement_142, gR_readStatement_145, gR_readStatement_146, gR_readStatement_149, gR_readStatement_152, gR_readStatement_153, gR_readStatement_155, gR_readStatement_158, gR_readStatement_161, gR_readStatement_162, gR_readStatement_165, gR_readStatement_166, gR_readStatement_167, gR_readStatement_168, ↓reduceIte, Bool.false_eq_true, Bool.true_eq_false, qk_i, qk_r, qk_n, Option.toList_some, Option.toList_none, List.cons_append, List.nil_append, true_and, and_true, true_or, or_true, eq_self, if_true, if_false, q_b1, q_b2, c_A, c_R, c_O, c_M, c_H1, c_H8, c_H15, x_R_here, e6, e7, e64, e96, e135]
  unfold s_stmt
  by_cases h1 : s_here M = 97
  · simp only [if_pos h1]
  by_cases h2 : s_here M = 99
  · simp only [if_neg h1, if_pos h2]
  by_cases h3 : s_here M = 104
  · simp only [if_neg h1, if_neg h2, if_pos h3]
  by_cases h4 : s_here M = 110
  · simp only [if_neg h1, if_neg h2, if_neg h3, if_pos h4]
  by_cases h5 : s_here M = 116
  · simp only [if_neg h1, if_neg h2, if_neg h3, if_neg h4, if_pos h5]
  · simp only [if_neg h1, if_neg h2, if_neg h3, if_neg h4, if_neg h5]
