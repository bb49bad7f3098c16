/-! the rest of the class: that it comes to an end, and what it leaves alone -/
def eqx (S : Nat → Bool) (M M' : q_M) : Prop := ∀ c, S c = false → M' c = M c
theorem eqx.rf {S : Nat → Bool} {M : q_M} : eqx S M M := fun _ _ => rfl
theorem eqx.tr {S : Nat → Bool} {M M1 M2 : q_M} (h1 : eqx S M M1) (h2 : eqx S M1 M2) : eqx S M M2 := fun c hc => (h2 c hc).trans (h1 c hc)
theorem eqx.up {S S' : Nat → Bool} {M M' : q_M} (h : eqx S M M') (hs : ∀ c, S' c = false → S c = false) : eqx S' M M' := fun c hc => h c (hs c hc)
theorem eqx.sput {S : Nat → Bool} {M M1 : q_M} {k n : Nat} {i v : Int32} (h : eqx S M M1) (hk : S k = true) : eqx S M (s_put M1 k n i v) := fun c hc => (s_put_ne (fun e => by rw [e, hk] at hc; cases hc)).trans (h c hc)
theorem eqx.qput {S : Nat → Bool} {M M1 : q_M} {k j : Nat} {v : Int32} (h : eqx S M M1) (hk : S k = true) : eqx S M (q_put M1 k j v) := fun c hc => (q_put_ne (fun e => by rw [e, hk] at hc; cases hc)).trans (h c hc)
/-- a house that holds together: its things and what is had -/
def v_h (M : q_M) (B n h : Nat) : Prop := q_isC 0 B = true ∧ M B 6 = nI n ∧ n ≤ 10 ∧ M B 7 = nI h ∧ h < 2 ^ n
theorem v_h.of {M M' : q_M} {B n h : Nat} (v : v_h M B n h) (e : M' B = M B) : v_h M' B n h := ⟨v.1, by rw [e]; exact v.2.1, v.2.2.1, by rw [e]; exact v.2.2.2.1, v.2.2.2.2⟩
theorem two_pow_le {n : Nat} (h : n ≤ 10) : 2 ^ n ≤ 1024 := Nat.pow_le_pow_right (by omega) h
theorem one_le_two_pow' (n : Nat) : 1 ≤ 2 ^ n := Nat.one_le_two_pow
theorem all_nI : ∀ n, n ≤ 10 → (1 : Int32) <<< (nI n &&& 31) - 1 = nI (2 ^ n - 1) := by
  intro n hn
  have key : ∀ n, n < 11 → (1 : Int32) <<< (nI n &&& 31) - 1 = nI (2 ^ n - 1) := by decide +kernel
  exact key n (by omega)
theorem v_h.all {M : q_M} {B n h : Nat} (v : v_h M B n h) : s_all M B = nI (2 ^ n - 1) := by
  unfold s_all
  rw [v.2.1]
  exact all_nI n v.2.2.1
/-! Fraction -/
theorem w_F_greatestShared_l {Q : q_R} {M : q_M} (hQ : ∀ v, Q (some (.long v)) M) {p q r w o : Option Value} {a0 a2 : Int64} : ∀ k j, j + k = 128 → ∀ (x z : Int64) (o1 o2 : Option Value),
    q_g 56 none Q 9 [some (.long a0), none, some (.long a2), none, some (.long x), none, some (.long z), none, some (.int (nI j)), o1, o2] [] M := by
  intro k
  induction k with
  | zero =>
    intro j hj x z o1 o2
    have : j = 128 := by omega
    subst this
    have h1 : (128 : Int32) ≤ nI 128 := by decide
    rw [gF_greatestShared_9]
    simp only [gF_greatestShared_0, gF_greatestShared_1, gF_greatestShared_3, gF_greatestShared_4, gF_greatestShared_6, gF_greatestShared_7, gF_greatestShared_11, gF_greatestShared_14, gF_greatestShared_17, gF_greatestShared_19, gF_greatestShared_20, gF_greatestShared_21, gF_greatestShared_24, gF_greatestShared_26, gF_greatestShared_28, gF_greatestShared_29, gF_greatestShared_31, gF_greatestShared_33, gF_greatestShared_35, gF_greatestShared_37, gF_greatestShared_39, gF_greatestShared_42, gF_greatestShared_45, gF_greatestShared_47, ↓reduceIte, Bool.false_eq_true, Bool.true_eq_false, qk_i, qk_r, qk_n, Option.toList_some, Option.toList_none, List.cons_append, List.nil_append, true_and, and_true, true_or, or_true, eq_self, if_true, if_false, q_b1, q_b2, c_A, c_R, c_O, c_M, c_H1, c_H8, c_H15, h1]
    exact hQ _
  | succ k ih =>
    intro j hj x z o1 o2
    have h1 : ¬ (128 : Int32) ≤ nI j := nI_ge (b := 128) (by omega) (by omega)
    rw [gF_greatestShared_9]
    simp only [gF_greatestShared_0, gF_greatestShared_1, gF_greatestShared_3, gF_greatestShared_4, gF_greatestShared_6, gF_greatestShared_7, gF_greatestShared_11, gF_greatestShared_14, gF_greatestShared_17, gF_greatestShared_19, gF_greatestShared_20, gF_greatestShared_21, gF_greatestShared_24, gF_greatestShared_26, gF_greatestShared_28, gF_greatestShared_29, gF_greatestShared_31, gF_greatestShared_33, gF_greatestShared_35, gF_greatestShared_37, gF_greatestShared_39, gF_greatestShared_42, gF_greatestShared_45, gF_greatestShared_47, ↓reduceIte, Bool.false_eq_true, Bool.true_eq_false, qk_i, qk_r, qk_n, Option.toList_some, Option.toList_none, List.cons_append, List.nil_append, true_and, and_true, true_or, or_true, eq_self, if_true, if_false, q_b1, q_b2, c_A, c_R, c_O, c_M, c_H1, c_H8, c_H15, h1, nI_1]
    split
    · exact hQ _
    · rename_i h2
      refine ⟨fun hz => h2 (by rw [hz]; decide), ?_⟩
      exact ih (j + 1) (by omega) _ _ _ _
theorem w_F_greatestShared {Q : q_R} {M : q_M} {a b : Int64} (hQ : ∀ v, Q (some (.long v)) M) : q_Run 56 [.long a, .long b] M Q := by
  rw [e_F_greatestShared]
  simp only [gF_greatestShared_0, gF_greatestShared_1, gF_greatestShared_3, gF_greatestShared_4, gF_greatestShared_6, gF_greatestShared_7, gF_greatestShared_11, gF_greatestShared_14, gF_greatestShared_17, gF_greatestShared_19, gF_greatestShared_20, gF_greatestShared_21, gF_greatestShared_24, gF_greatestShared_26, gF_greatestShared_28, gF_greatestShared_29, gF_greatestShared_31, gF_greatestShared_33, gF_greatestShared_35, gF_greatestShared_37, gF_greatestShared_39, gF_greatestShared_42, gF_greatestShared_45, gF_greatestShared_47, ↓reduceIte, Bool.false_eq_true, Bool.true_eq_false, qk_i, qk_r, qk_n, Option.toList_some, Option.toList_none, List.cons_append, List.nil_append, true_and, and_true, true_or, or_true, eq_self, if_true, if_false, q_b1, q_b2, c_A, c_R, c_O, c_M, c_H1, c_H8, c_H15]
  exact w_F_greatestShared_l hQ (p := none) (q := none) (r := none) (w := none) (o := none) 128 0 (by omega) _ _ _ _
theorem w_F_partOf {Q : q_R} {M : q_M} {a b : Int64} {p : Int32} (hQ : ∀ v, Q (some (.long v)) M) : q_Run 57 [.long a, .long b, .int p] M Q := by
  rw [e_F_partOf]
  simp only [gF_partOf_0, gF_partOf_1, gF_partOf_2, gF_partOf_5, gF_partOf_7, gF_partOf_9, gF_partOf_12, gF_partOf_13, gF_partOf_16, gF_partOf_19, gF_partOf_21, gF_partOf_22, gF_partOf_23, gF_partOf_26, gF_partOf_28, gF_partOf_30, gF_partOf_31, gF_partOf_34, gF_partOf_36, ↓reduceIte, Bool.false_eq_true, Bool.true_eq_false, qk_i, qk_r, qk_n, Option.toList_some, Option.toList_none, List.cons_append, List.nil_append, true_and, and_true, true_or, or_true, eq_self, if_true, if_false, q_b1, q_b2, c_A, c_R, c_O, c_M, c_H1, c_H8, c_H15]
  refine w_F_greatestShared fun v => ?_
  simp only [gF_partOf_0, gF_partOf_1, gF_partOf_2, gF_partOf_5, gF_partOf_7, gF_partOf_9, gF_partOf_12, gF_partOf_13, gF_partOf_16, gF_partOf_19, gF_partOf_21, gF_partOf_22, gF_partOf_23, gF_partOf_26, gF_partOf_28, gF_partOf_30, gF_partOf_31, gF_partOf_34, gF_partOf_36, ↓reduceIte, Bool.false_eq_true, Bool.true_eq_false, qk_i, qk_r, qk_n, Option.toList_some, Option.toList_none, List.cons_append, List.nil_append, true_and, and_true, true_or, or_true, eq_self, if_true, if_false, q_b1, q_b2, c_A, c_R, c_O, c_M, c_H1, c_H8, c_H15]
  have e : ∀ x : Int64, q_g 57 none Q 17 [some (.long a), none, some (.long b), none, some (.int p), some (.long v), none, none, none] [.long x] M := by
    intro x
    simp only [gF_partOf_0, gF_partOf_1, gF_partOf_2, gF_partOf_5, gF_partOf_7, gF_partOf_9, gF_partOf_12, gF_partOf_13, gF_partOf_16, gF_partOf_17, gF_partOf_19, gF_partOf_21, gF_partOf_22, gF_partOf_23, gF_partOf_26, gF_partOf_28, gF_partOf_30, gF_partOf_31, gF_partOf_34, gF_partOf_36, ↓reduceIte, Bool.false_eq_true, Bool.true_eq_false, qk_i, qk_r, qk_n, Option.toList_some, Option.toList_none, List.cons_append, List.nil_append, true_and, and_true, true_or, or_true, eq_self, if_true, if_false, q_b1, q_b2, c_A, c_R, c_O, c_M, c_H1, c_H8, c_H15]
    split
    · exact hQ _
    · rename_i h
      refine ⟨fun hz => h (by rw [hz]; decide), hQ _⟩
  split <;> exact e _
theorem w_H_chanceOf_l {Q : q_R} {M : q_M} {B n : Nat} {st p : Int32} (hQ : ∀ v, Q (some (.long v)) M) (hB : q_isC 0 B = true) (hn : M B 6 = nI n) (h10 : n ≤ 10) : ∀ k j, j + k = n → ∀ (x z : Int64),
    q_g 6 none Q 8 [some (.ref B), some (.int st), some (.int p), some (.long x), none, some (.long z), none, some (.int (nI j))] [] M := by
  intro k
  induction k with
  | zero =>
    intro j hj x z
    have : j = n := by omega
    subst this
    rw [gH_chanceOf_8]
    simp only [gH_chanceOf_0, gH_chanceOf_1, gH_chanceOf_2, gH_chanceOf_3, gH_chanceOf_5, gH_chanceOf_6, gH_chanceOf_10, gH_chanceOf_11, gH_chanceOf_14, gH_chanceOf_17, gH_chanceOf_18, gH_chanceOf_20, gH_chanceOf_21, gH_chanceOf_22, gH_chanceOf_23, gH_chanceOf_26, gH_chanceOf_27, gH_chanceOf_28, gH_chanceOf_31, gH_chanceOf_33, gH_chanceOf_36, gH_chanceOf_37, gH_chanceOf_38, gH_chanceOf_39, gH_chanceOf_41, gH_chanceOf_44, gH_chanceOf_45, gH_chanceOf_47, gH_chanceOf_50, gH_chanceOf_53, gH_chanceOf_54, gH_chanceOf_56, gH_chanceOf_57, gH_chanceOf_60, ↓reduceIte, Bool.false_eq_true, Bool.true_eq_false, qk_i, qk_r, qk_n, Option.toList_some, Option.toList_none, List.cons_append, List.nil_append, true_and, and_true, true_or, or_true, eq_self, if_true, if_false, q_b1, q_b2, c_A, c_R, c_O, c_M, c_H1, c_H8, c_H15, hB, hn, Int32.le_refl]
    exact w_F_partOf fun v => by simp only [gH_chanceOf_60, ↓reduceIte, Bool.false_eq_true, Bool.true_eq_false, qk_i, qk_r, qk_n, Option.toList_some, Option.toList_none, List.cons_append, List.nil_append, true_and, and_true, true_or, or_true, eq_self, if_true, if_false, q_b1, q_b2, c_A, c_R, c_O, c_M, c_H1, c_H8, c_H15]; exact hQ _
  | succ k ih =>
    intro j hj x z
    have h1 : ¬ nI n ≤ nI j := nI_ge (by omega) (by omega)
    rw [gH_chanceOf_8]
    simp only [gH_chanceOf_0, gH_chanceOf_1, gH_chanceOf_2, gH_chanceOf_3, gH_chanceOf_5, gH_chanceOf_6, gH_chanceOf_10, gH_chanceOf_11, gH_chanceOf_14, gH_chanceOf_17, gH_chanceOf_18, gH_chanceOf_20, gH_chanceOf_21, gH_chanceOf_22, gH_chanceOf_23, gH_chanceOf_26, gH_chanceOf_27, gH_chanceOf_28, gH_chanceOf_31, gH_chanceOf_33, gH_chanceOf_36, gH_chanceOf_37, gH_chanceOf_38, gH_chanceOf_39, gH_chanceOf_41, gH_chanceOf_44, gH_chanceOf_45, gH_chanceOf_47, gH_chanceOf_50, gH_chanceOf_53, gH_chanceOf_54, gH_chanceOf_56, gH_chanceOf_57, gH_chanceOf_60, ↓reduceIte, Bool.false_eq_true, Bool.true_eq_false, qk_i, qk_r, qk_n, Option.toList_some, Option.toList_none, List.cons_append, List.nil_append, true_and, and_true, true_or, or_true, eq_self, if_true, if_false, q_b1, q_b2, c_A, c_R, c_O, c_M, c_H1, c_H8, c_H15, hB, hn, h1, rf_H2 hB, x_W_get (al_H hB).2.2.1, nI_1]
    split <;> exact ih (j + 1) (by omega) _ _
theorem w_H_chanceOf {Q : q_R} {M : q_M} {B n : Nat} {st p : Int32} (hQ : ∀ v, Q (some (.long v)) M) (hB : q_isC 0 B = true) (hn : M B 6 = nI n) (h10 : n ≤ 10) : q_Run 6 [.ref B, .int st, .int p] M Q := by
  rw [e_H_chanceOf]
  simp only [gH_chanceOf_0, gH_chanceOf_1, gH_chanceOf_2, gH_chanceOf_3, gH_chanceOf_5, gH_chanceOf_6, gH_chanceOf_10, gH_chanceOf_11, gH_chanceOf_14, gH_chanceOf_17, gH_chanceOf_18, gH_chanceOf_20, gH_chanceOf_21, gH_chanceOf_22, gH_chanceOf_23, gH_chanceOf_26, gH_chanceOf_27, gH_chanceOf_28, gH_chanceOf_31, gH_chanceOf_33, gH_chanceOf_36, gH_chanceOf_37, gH_chanceOf_38, gH_chanceOf_39, gH_chanceOf_41, gH_chanceOf_44, gH_chanceOf_45, gH_chanceOf_47, gH_chanceOf_50, gH_chanceOf_53, gH_chanceOf_54, gH_chanceOf_56, gH_chanceOf_57, gH_chanceOf_60, ↓reduceIte, Bool.false_eq_true, Bool.true_eq_false, qk_i, qk_r, qk_n, Option.toList_some, Option.toList_none, List.cons_append, List.nil_append, true_and, and_true, true_or, or_true, eq_self, if_true, if_false, q_b1, q_b2, c_A, c_R, c_O, c_M, c_H1, c_H8, c_H15]
  exact w_H_chanceOf_l hQ hB hn h10 n 0 (by omega) _ _
/-! Orders -/
theorem rf_O0 : q_rf 24 0 = 25 := by decide +kernel
theorem rf_O1 : q_rf 24 1 = 26 := by decide +kernel
theorem rf_O2 : q_rf 24 2 = 27 := by decide +kernel
theorem al_25 : q_alen 25 = some 1024 := by decide +kernel
theorem al_26 : q_alen 26 = some 1024 := by decide +kernel
theorem al_27 : q_alen 27 = some 1024 := by decide +kernel
def So (c : Nat) : Bool := decide (24 ≤ c) && decide (c ≤ 27)
theorem w_O_priceOfGo {Q : q_R} {M : q_M} {B : Nat} {st t im : Int32} (hB : q_isC 0 B = true) (hQ : ∀ v, Q (some (.int v)) M) : q_Run 24 [.ref B, .int st, .int t, .int im] M Q := by
  rw [e_O_priceOfGo]
  simp only [gO_priceOfGo_0, gO_priceOfGo_1, gO_priceOfGo_2, gO_priceOfGo_3, gO_priceOfGo_6, gO_priceOfGo_8, gO_priceOfGo_9, gO_priceOfGo_12, gO_priceOfGo_13, gO_priceOfGo_16, gO_priceOfGo_18, gO_priceOfGo_19, gO_priceOfGo_22, gO_priceOfGo_24, gO_priceOfGo_27, gO_priceOfGo_29, gO_priceOfGo_32, gO_priceOfGo_34, gO_priceOfGo_35, gO_priceOfGo_36, gO_priceOfGo_39, gO_priceOfGo_41, ↓reduceIte, Bool.false_eq_true, Bool.true_eq_false, qk_i, qk_r, qk_n, Option.toList_some, Option.toList_none, List.cons_append, List.nil_append, true_and, and_true, true_or, or_true, eq_self, if_true, if_false, q_b1, q_b2, c_A, c_R, c_O, c_M, c_H1, c_H8, c_H15, hB, x_H_minutesOfGo hB, rf_H2 hB, x_W_get (al_H hB).2.2.1]
  repeat' split
  all_goals first
    | exact hQ _
    | (rename_i h; exact ⟨fun hz => h (by rw [hz]; decide), hQ _⟩)
theorem w_O_step {Q : q_R} {M : q_M} {B : Nat} {st t im : Int32} (hB : q_isC 0 B = true) (hQ : ∀ M', eqx So M M' → Q none M') : q_Run 26 [.ref 24, .ref B, .int st, .int t, .int im] M Q := by
  rw [e_O_step]
  simp only [gO_step_0, gO_step_1, gO_step_4, gO_step_5, gO_step_8, gO_step_9, gO_step_10, gO_step_11, gO_step_13, gO_step_16, gO_step_17, gO_step_19, gO_step_20, gO_step_21, gO_step_24, gO_step_27, gO_step_28, gO_step_31, gO_step_32, gO_step_35, gO_step_36, gO_step_39, gO_step_41, gO_step_42, gO_step_43, gO_step_44, gO_step_45, gO_step_46, gO_step_48, gO_step_49, gO_step_52, gO_step_54, gO_step_57, gO_step_59, gO_step_61, gO_step_63, gO_step_66, gO_step_68, gO_step_69, gO_step_72, gO_step_74, gO_step_77, gO_step_80, gO_step_81, gO_step_84, gO_step_85, gO_step_87, gO_step_89, gO_step_90, gO_step_93, gO_step_95, gO_step_97, gO_step_100, gO_step_102, gO_step_105, gO_step_106, gO_step_109, gO_step_111, gO_step_113, gO_step_116, gO_step_117, gO_step_120, gO_step_122, gO_step_124, gO_step_127, ↓reduceIte, Bool.false_eq_true, Bool.true_eq_false, qk_i, qk_r, qk_n, Option.toList_some, Option.toList_none, List.cons_append, List.nil_append, true_and, and_true, true_or, or_true, eq_self, if_true, if_false, q_b1, q_b2, c_A, c_R, c_O, c_M, c_H1, c_H8, c_H15, hB, rf_O0, x_W_get al_25]
  refine w_O_priceOfGo hB fun v => ?_
  simp only [gO_step_0, gO_step_1, gO_step_4, gO_step_5, gO_step_8, gO_step_9, gO_step_10, gO_step_11, gO_step_13, gO_step_16, gO_step_17, gO_step_19, gO_step_20, gO_step_21, gO_step_24, gO_step_27, gO_step_28, gO_step_31, gO_step_32, gO_step_35, gO_step_36, gO_step_41, gO_step_42, gO_step_43, gO_step_44, gO_step_45, gO_step_46, gO_step_48, gO_step_49, gO_step_52, gO_step_54, gO_step_57, gO_step_59, gO_step_61, gO_step_63, gO_step_66, gO_step_68, gO_step_69, gO_step_72, gO_step_74, gO_step_77, gO_step_80, gO_step_81, gO_step_84, gO_step_85, gO_step_87, gO_step_89, gO_step_90, gO_step_93, gO_step_95, gO_step_97, gO_step_100, gO_step_102, gO_step_105, gO_step_106, gO_step_109, gO_step_111, gO_step_113, gO_step_116, gO_step_117, gO_step_120, gO_step_122, gO_step_124, gO_step_127, ↓reduceIte, Bool.false_eq_true, Bool.true_eq_false, qk_i, qk_r, qk_n, Option.toList_some, Option.toList_none, List.cons_append, List.nil_append, true_and, and_true, true_or, or_true, eq_self, if_true, if_false, q_b1, q_b2, c_A, c_R, c_O, c_M, c_H1, c_H8, c_H15, hB, rf_O0, rf_O1, x_W_get al_25, x_W_get al_26, q_jn]
  simp only [gO_step_0, gO_step_1, gO_step_4, gO_step_5, gO_step_8, gO_step_9, gO_step_10, gO_step_11, gO_step_13, gO_step_16, gO_step_17, gO_step_19, gO_step_20, gO_step_21, gO_step_24, gO_step_27, gO_step_28, gO_step_31, gO_step_32, gO_step_35, gO_step_36, gO_step_39, gO_step_41, gO_step_42, gO_step_43, gO_step_44, gO_step_45, gO_step_46, gO_step_48, gO_step_49, gO_step_52, gO_step_54, gO_step_57, gO_step_59, gO_step_61, gO_step_63, gO_step_66, gO_step_68, gO_step_69, gO_step_72, gO_step_74, gO_step_77, gO_step_80, gO_step_81, gO_step_84, gO_step_87, gO_step_89, gO_step_90, gO_step_93, gO_step_95, gO_step_97, gO_step_100, gO_step_102, gO_step_105, gO_step_106, gO_step_109, gO_step_111, gO_step_113, gO_step_116, gO_step_117, gO_step_120, gO_step_122, gO_step_124, gO_step_127, ↓reduceIte, Bool.false_eq_true, Bool.true_eq_false, qk_i, qk_r, qk_n, Option.toList_some, Option.toList_none, List.cons_append, List.nil_append, true_and, and_true, true_or, or_true, eq_self, if_true, if_false, q_b1, q_b2, c_A, c_R, c_O, c_M, c_H1, c_H8, c_H15, hB, rf_O0, rf_O1, x_W_get al_25, x_W_get al_26, q_jn]
  simp only [gO_step_0, gO_step_1, gO_step_4, gO_step_5, gO_step_8, gO_step_9, gO_step_10, gO_step_11, gO_step_13, gO_step_16, gO_step_17, gO_step_19, gO_step_20, gO_step_21, gO_step_24, gO_step_27, gO_step_28, gO_step_31, gO_step_32, gO_step_35, gO_step_36, gO_step_39, gO_step_41, gO_step_42, gO_step_43, gO_step_44, gO_step_45, gO_step_46, gO_step_48, gO_step_49, gO_step_52, gO_step_54, gO_step_57, gO_step_59, gO_step_61, gO_step_63, gO_step_66, gO_step_68, gO_step_69, gO_step_72, gO_step_74, gO_step_77, gO_step_80, gO_step_81, gO_step_84, gO_step_85, gO_step_87, gO_step_89, gO_step_90, gO_step_93, gO_step_95, gO_step_97, gO_step_100, gO_step_102, gO_step_105, gO_step_106, gO_step_109, gO_step_111, gO_step_113, gO_step_116, gO_step_117, gO_step_120, gO_step_122, gO_step_124, gO_step_127, ↓reduceIte, Bool.false_eq_true, Bool.true_eq_false, qk_i, qk_r, qk_n, Option.toList_some, Option.toList_none, List.cons_append, List.nil_append, true_and, and_true, true_or, or_true, eq_self, if_true, if_false, q_b1, q_b2, c_A, c_R, c_O, c_M, c_H1, c_H8, c_H15, hB, rf_O0, rf_O1, x_W_put al_25, x_W_put al_26]
  repeat' split
  all_goals first
    | exact hQ _ eqx.rf
    | exact hQ _ ((eqx.rf.sput (by decide)).sput (by decide))
theorem w_O_walk1 {Q : q_R} {M0 : q_M} {B a : Nat} {im : Int32} (ha : a < 1024) (hQ : ∀ M (o1 : Int32) , eqx So M0 M → q_g 27 none Q 30 [some (.ref 24), some (.ref B), some (.int im), some (.int (nI a)), some (.int o1), none, none] [] M) : ∀ k j, j + k = a + 1 → ∀ M, eqx So M0 M →
    q_g 27 none Q 8 [some (.ref 24), some (.ref B), some (.int im), some (.int (nI a)), some (.int (nI j)), none, none] [] M := by
  intro k
  induction k with
  | zero =>
    intro j hj M hM
    have h1 : nI a < nI j := nI_lt (by omega) (by omega)
    rw [gO_walk_8]
    simp only [gO_walk_0, gO_walk_1, gO_walk_4, gO_walk_5, gO_walk_6, gO_walk_10, gO_walk_11, gO_walk_14, gO_walk_15, gO_walk_18, gO_walk_20, gO_walk_21, gO_walk_24, gO_walk_27, gO_walk_31, gO_walk_34, gO_walk_35, gO_walk_38, gO_walk_39, gO_walk_42, gO_walk_43, gO_walk_46, gO_walk_47, gO_walk_50, gO_walk_52, gO_walk_55, gO_walk_56, gO_walk_59, gO_walk_61, gO_walk_63, gO_walk_64, gO_walk_67, gO_walk_68, gO_walk_71, gO_walk_73, gO_walk_76, gO_walk_77, gO_walk_80, gO_walk_81, gO_walk_84, gO_walk_85, gO_walk_87, gO_walk_90, gO_walk_92, gO_walk_93, gO_walk_95, gO_walk_97, gO_walk_98, gO_walk_101, gO_walk_104, gO_walk_106, gO_walk_108, gO_walk_109, gO_walk_110, gO_walk_111, gO_walk_114, gO_walk_115, gO_walk_116, gO_walk_118, gO_walk_120, gO_walk_121, gO_walk_124, gO_walk_127, gO_walk_130, gO_walk_133, gO_walk_136, ↓reduceIte, Bool.false_eq_true, Bool.true_eq_false, qk_i, qk_r, qk_n, Option.toList_some, Option.toList_none, List.cons_append, List.nil_append, true_and, and_true, true_or, or_true, eq_self, if_true, if_false, q_b1, q_b2, c_A, c_R, c_O, c_M, c_H1, c_H8, c_H15, h1]
    exact hQ _ _ hM
  | succ k ih =>
    intro j hj M hM
    have h1 : ¬ nI a < nI j := nI_nlt (by omega) (by omega)
    rw [gO_walk_8]
    simp only [gO_walk_0, gO_walk_1, gO_walk_4, gO_walk_5, gO_walk_6, gO_walk_10, gO_walk_11, gO_walk_14, gO_walk_15, gO_walk_18, gO_walk_20, gO_walk_21, gO_walk_24, gO_walk_27, gO_walk_31, gO_walk_34, gO_walk_35, gO_walk_38, gO_walk_39, gO_walk_42, gO_walk_43, gO_walk_46, gO_walk_47, gO_walk_50, gO_walk_52, gO_walk_55, gO_walk_56, gO_walk_59, gO_walk_61, gO_walk_63, gO_walk_64, gO_walk_67, gO_walk_68, gO_walk_71, gO_walk_73, gO_walk_76, gO_walk_77, gO_walk_80, gO_walk_81, gO_walk_84, gO_walk_85, gO_walk_87, gO_walk_90, gO_walk_92, gO_walk_93, gO_walk_95, gO_walk_97, gO_walk_98, gO_walk_101, gO_walk_104, gO_walk_106, gO_walk_108, gO_walk_109, gO_walk_110, gO_walk_111, gO_walk_114, gO_walk_115, gO_walk_116, gO_walk_118, gO_walk_120, gO_walk_121, gO_walk_124, gO_walk_127, gO_walk_130, gO_walk_133, gO_walk_136, ↓reduceIte, Bool.false_eq_true, Bool.true_eq_false, qk_i, qk_r, qk_n, Option.toList_some, Option.toList_none, List.cons_append, List.nil_append, true_and, and_true, true_or, or_true, eq_self, if_true, if_false, q_b1, q_b2, c_A, c_R, c_O, c_M, c_H1, c_H8, c_H15, h1, rf_O0, x_W_put al_25, nI_1]
    exact ih (j + 1) (by omega) _ (hM.sput (by decide))
theorem w_O_walk3 {Q : q_R} {M0 : q_M} {n h : Nat} {im al st nx : Int32} (hv : v_h M0 1 n h) (hQ : ∀ M (o : Int32), eqx So M0 M → q_g 27 none Q 130 [some (.ref 24), some (.ref 1), some (.int im), some (.int al), some (.int st), some (.int nx), some (.int o)] [] M) : ∀ k j, j + k = n → ∀ M, eqx So M0 M →
    q_g 27 none Q 95 [some (.ref 24), some (.ref 1), some (.int im), some (.int al), some (.int st), some (.int nx), some (.int (nI j))] [] M := by
  intro k
  induction k with
  | zero =>
    intro j hj M hM
    have : j = n := by omega
    subst this
    have hn : M 1 6 = nI j := by rw [hM 1 (by decide)]; exact hv.2.1
    rw [gO_walk_95]
    simp only [gO_walk_0, gO_walk_1, gO_walk_4, gO_walk_5, gO_walk_6, gO_walk_8, gO_walk_10, gO_walk_11, gO_walk_14, gO_walk_15, gO_walk_18, gO_walk_20, gO_walk_21, gO_walk_24, gO_walk_27, gO_walk_30, gO_walk_31, gO_walk_34, gO_walk_35, gO_walk_38, gO_walk_39, gO_walk_42, gO_walk_43, gO_walk_46, gO_walk_47, gO_walk_50, gO_walk_52, gO_walk_55, gO_walk_56, gO_walk_59, gO_walk_61, gO_walk_63, gO_walk_64, gO_walk_67, gO_walk_68, gO_walk_71, gO_walk_73, gO_walk_76, gO_walk_77, gO_walk_80, gO_walk_81, gO_walk_84, gO_walk_85, gO_walk_87, gO_walk_90, gO_walk_92, gO_walk_93, gO_walk_97, gO_walk_98, gO_walk_101, gO_walk_104, gO_walk_106, gO_walk_108, gO_walk_109, gO_walk_110, gO_walk_111, gO_walk_114, gO_walk_115, gO_walk_116, gO_walk_118, gO_walk_120, gO_walk_121, gO_walk_124, gO_walk_127, gO_walk_133, gO_walk_136, ↓reduceIte, Bool.false_eq_true, Bool.true_eq_false, qk_i, qk_r, qk_n, Option.toList_some, Option.toList_none, List.cons_append, List.nil_append, true_and, and_true, true_or, or_true, eq_self, if_true, if_false, q_b1, q_b2, c_A, c_R, c_O, c_M, c_H1, c_H8, c_H15, hn, Int32.le_refl]
    exact hQ _ _ hM
  | succ k ih =>
    intro j hj M hM
    have h10 := hv.2.2.1
    have hn : M 1 6 = nI n := by rw [hM 1 (by decide)]; exact hv.2.1
    have h1 : ¬ nI n ≤ nI j := nI_ge (by omega) (by omega)
    rw [gO_walk_95]
    simp only [gO_walk_0, gO_walk_1, gO_walk_4, gO_walk_5, gO_walk_6, gO_walk_8, gO_walk_10, gO_walk_11, gO_walk_14, gO_walk_15, gO_walk_18, gO_walk_20, gO_walk_21, gO_walk_24, gO_walk_27, gO_walk_30, gO_walk_31, gO_walk_34, gO_walk_35, gO_walk_38, gO_walk_39, gO_walk_42, gO_walk_43, gO_walk_46, gO_walk_47, gO_walk_50, gO_walk_52, gO_walk_55, gO_walk_56, gO_walk_59, gO_walk_61, gO_walk_63, gO_walk_64, gO_walk_67, gO_walk_68, gO_walk_71, gO_walk_73, gO_walk_76, gO_walk_77, gO_walk_80, gO_walk_81, gO_walk_84, gO_walk_85, gO_walk_87, gO_walk_90, gO_walk_92, gO_walk_93, gO_walk_97, gO_walk_98, gO_walk_101, gO_walk_104, gO_walk_106, gO_walk_108, gO_walk_109, gO_walk_110, gO_walk_111, gO_walk_114, gO_walk_115, gO_walk_116, gO_walk_118, gO_walk_120, gO_walk_121, gO_walk_124, gO_walk_127, gO_walk_133, gO_walk_136, ↓reduceIte, Bool.false_eq_true, Bool.true_eq_false, qk_i, qk_r, qk_n, Option.toList_some, Option.toList_none, List.cons_append, List.nil_append, true_and, and_true, true_or, or_true, eq_self, if_true, if_false, q_b1, q_b2, c_A, c_R, c_O, c_M, c_H1, c_H8, c_H15, h1, hn, nI_1]
    split
    · exact ih (j + 1) (by omega) M hM
    · refine w_O_step c_H1 fun M' hM' => ?_
      simp only [gO_walk_0, gO_walk_1, gO_walk_4, gO_walk_5, gO_walk_6, gO_walk_8, gO_walk_10, gO_walk_11, gO_walk_14, gO_walk_15, gO_walk_18, gO_walk_20, gO_walk_21, gO_walk_24, gO_walk_27, gO_walk_30, gO_walk_31, gO_walk_34, gO_walk_35, gO_walk_38, gO_walk_39, gO_walk_42, gO_walk_43, gO_walk_46, gO_walk_47, gO_walk_50, gO_walk_52, gO_walk_55, gO_walk_56, gO_walk_59, gO_walk_61, gO_walk_63, gO_walk_64, gO_walk_67, gO_walk_68, gO_walk_71, gO_walk_73, gO_walk_76, gO_walk_77, gO_walk_80, gO_walk_81, gO_walk_84, gO_walk_85, gO_walk_87, gO_walk_90, gO_walk_92, gO_walk_93, gO_walk_97, gO_walk_98, gO_walk_101, gO_walk_104, gO_walk_106, gO_walk_108, gO_walk_109, gO_walk_110, gO_walk_111, gO_walk_114, gO_walk_115, gO_walk_116, gO_walk_118, gO_walk_120, gO_walk_121, gO_walk_124, gO_walk_127, gO_walk_133, gO_walk_136, ↓reduceIte, Bool.false_eq_true, Bool.true_eq_false, qk_i, qk_r, qk_n, Option.toList_some, Option.toList_none, List.cons_append, List.nil_append, true_and, and_true, true_or, or_true, eq_self, if_true, if_false, q_b1, q_b2, c_A, c_R, c_O, c_M, c_H1, c_H8, c_H15, nI_1]
      exact ih (j + 1) (by omega) M' (hM.tr hM')
theorem w_O_walk2 {Q : q_R} {M0 : q_M} {n h : Nat} {im : Int32} (hv : v_h M0 1 n h) (hQ : ∀ M, eqx So M0 M → Q none M) : ∀ k j, j + k = 2 ^ n → ∀ M (o5 o6 : Option Value), eqx So M0 M →
    q_g 27 none Q 61 [some (.ref 24), some (.ref 1), some (.int im), some (.int (nI (2 ^ n - 1))), some (.int (nI j)), o5, o6] [] M := by
  have h10 := hv.2.2.1
  have h2 := two_pow_le h10
  have h3 := one_le_two_pow' n
  intro k
  induction k with
  | zero =>
    intro j hj M o5 o6 hM
    have h1 : nI (2 ^ n - 1) < nI j := nI_lt (by omega) (by omega)
    rw [gO_walk_61]
    simp only [gO_walk_0, gO_walk_1, gO_walk_4, gO_walk_5, gO_walk_6, gO_walk_8, gO_walk_10, gO_walk_11, gO_walk_14, gO_walk_15, gO_walk_18, gO_walk_20, gO_walk_21, gO_walk_24, gO_walk_27, gO_walk_30, gO_walk_31, gO_walk_34, gO_walk_35, gO_walk_38, gO_walk_39, gO_walk_42, gO_walk_43, gO_walk_46, gO_walk_47, gO_walk_50, gO_walk_52, gO_walk_55, gO_walk_56, gO_walk_59, gO_walk_63, gO_walk_64, gO_walk_67, gO_walk_68, gO_walk_71, gO_walk_73, gO_walk_76, gO_walk_77, gO_walk_80, gO_walk_81, gO_walk_84, gO_walk_85, gO_walk_87, gO_walk_90, gO_walk_92, gO_walk_93, gO_walk_95, gO_walk_97, gO_walk_98, gO_walk_101, gO_walk_104, gO_walk_106, gO_walk_108, gO_walk_109, gO_walk_110, gO_walk_111, gO_walk_114, gO_walk_115, gO_walk_116, gO_walk_118, gO_walk_120, gO_walk_121, gO_walk_124, gO_walk_127, gO_walk_130, gO_walk_133, gO_walk_136, ↓reduceIte, Bool.false_eq_true, Bool.true_eq_false, qk_i, qk_r, qk_n, Option.toList_some, Option.toList_none, List.cons_append, List.nil_append, true_and, and_true, true_or, or_true, eq_self, if_true, if_false, q_b1, q_b2, c_A, c_R, c_O, c_M, c_H1, c_H8, c_H15, h1]
    exact hQ _ hM
  | succ k ih =>
    intro j hj M o5 o6 hM
    have h1 : ¬ nI (2 ^ n - 1) < nI j := nI_nlt (by omega) (by omega)
    have hn : M 1 6 = nI n := by rw [hM 1 (by decide)]; exact hv.2.1
    have e90 : ∀ x : Int32, q_g 27 none Q 90 [some (.ref 24), some (.ref 1), some (.int im), some (.int (nI (2 ^ n - 1))), some (.int (nI j)), o5, o6] [.int x] M := by
      intro x
      simp only [gO_walk_0, gO_walk_1, gO_walk_4, gO_walk_5, gO_walk_6, gO_walk_8, gO_walk_10, gO_walk_11, gO_walk_14, gO_walk_15, gO_walk_18, gO_walk_20, gO_walk_21, gO_walk_24, gO_walk_27, gO_walk_30, gO_walk_31, gO_walk_34, gO_walk_35, gO_walk_38, gO_walk_39, gO_walk_42, gO_walk_43, gO_walk_46, gO_walk_47, gO_walk_50, gO_walk_52, gO_walk_55, gO_walk_56, gO_walk_59, gO_walk_63, gO_walk_64, gO_walk_67, gO_walk_68, gO_walk_71, gO_walk_73, gO_walk_76, gO_walk_77, gO_walk_80, gO_walk_81, gO_walk_84, gO_walk_85, gO_walk_87, gO_walk_90, gO_walk_92, gO_walk_93, gO_walk_97, gO_walk_98, gO_walk_101, gO_walk_104, gO_walk_106, gO_walk_108, gO_walk_109, gO_walk_110, gO_walk_111, gO_walk_114, gO_walk_115, gO_walk_116, gO_walk_118, gO_walk_120, gO_walk_121, gO_walk_124, gO_walk_127, gO_walk_130, gO_walk_133, gO_walk_136, ↓reduceIte, Bool.false_eq_true, Bool.true_eq_false, qk_i, qk_r, qk_n, Option.toList_some, Option.toList_none, List.cons_append, List.nil_append, true_and, and_true, true_or, or_true, eq_self, if_true, if_false, q_b1, q_b2, c_A, c_R, c_O, c_M, c_H1, c_H8, c_H15]
      refine w_O_walk3 hv (fun M' o hM' => ?_) n 0 (by omega) M hM
      simp only [gO_walk_0, gO_walk_1, gO_walk_4, gO_walk_5, gO_walk_6, gO_walk_8, gO_walk_10, gO_walk_11, gO_walk_14, gO_walk_15, gO_walk_18, gO_walk_20, gO_walk_21, gO_walk_24, gO_walk_27, gO_walk_30, gO_walk_31, gO_walk_34, gO_walk_35, gO_walk_38, gO_walk_39, gO_walk_42, gO_walk_43, gO_walk_46, gO_walk_47, gO_walk_50, gO_walk_52, gO_walk_55, gO_walk_56, gO_walk_59, gO_walk_63, gO_walk_64, gO_walk_67, gO_walk_68, gO_walk_71, gO_walk_73, gO_walk_76, gO_walk_77, gO_walk_80, gO_walk_81, gO_walk_84, gO_walk_85, gO_walk_87, gO_walk_90, gO_walk_92, gO_walk_93, gO_walk_95, gO_walk_97, gO_walk_98, gO_walk_101, gO_walk_104, gO_walk_106, gO_walk_108, gO_walk_109, gO_walk_110, gO_walk_111, gO_walk_114, gO_walk_115, gO_walk_116, gO_walk_118, gO_walk_120, gO_walk_121, gO_walk_124, gO_walk_127, gO_walk_130, gO_walk_133, gO_walk_136, ↓reduceIte, Bool.false_eq_true, Bool.true_eq_false, qk_i, qk_r, qk_n, Option.toList_some, Option.toList_none, List.cons_append, List.nil_append, true_and, and_true, true_or, or_true, eq_self, if_true, if_false, q_b1, q_b2, c_A, c_R, c_O, c_M, c_H1, c_H8, c_H15, nI_1]
      exact ih (j + 1) (by omega) M' _ _ hM'
    rw [gO_walk_61]
    simp only [gO_walk_0, gO_walk_1, gO_walk_4, gO_walk_5, gO_walk_6, gO_walk_8, gO_walk_10, gO_walk_11, gO_walk_14, gO_walk_15, gO_walk_18, gO_walk_20, gO_walk_21, gO_walk_24, gO_walk_27, gO_walk_30, gO_walk_31, gO_walk_34, gO_walk_35, gO_walk_38, gO_walk_39, gO_walk_42, gO_walk_43, gO_walk_46, gO_walk_47, gO_walk_50, gO_walk_52, gO_walk_55, gO_walk_56, gO_walk_59, gO_walk_63, gO_walk_64, gO_walk_67, gO_walk_68, gO_walk_71, gO_walk_73, gO_walk_76, gO_walk_77, gO_walk_80, gO_walk_81, gO_walk_84, gO_walk_85, gO_walk_87, gO_walk_92, gO_walk_93, gO_walk_95, gO_walk_97, gO_walk_98, gO_walk_101, gO_walk_104, gO_walk_106, gO_walk_108, gO_walk_109, gO_walk_110, gO_walk_111, gO_walk_114, gO_walk_115, gO_walk_116, gO_walk_118, gO_walk_120, gO_walk_121, gO_walk_124, gO_walk_127, gO_walk_130, gO_walk_133, gO_walk_136, ↓reduceIte, Bool.false_eq_true, Bool.true_eq_false, qk_i, qk_r, qk_n, Option.toList_some, Option.toList_none, List.cons_append, List.nil_append, true_and, and_true, true_or, or_true, eq_self, if_true, if_false, q_b1, q_b2, c_A, c_R, c_O, c_M, c_H1, c_H8, c_H15, h1, rf_O0, x_W_get al_25, x_H_mayBy c_H1 hn h10]
    split <;> exact e90 _
theorem w_O_walk {Q : q_R} {M : q_M} {n h : Nat} {im : Int32} (hv : v_h M 1 n h) (hQ : ∀ M', eqx So M M' → Q none M') : q_Run 27 [.ref 24, .ref 1, .int im] M Q := by
  have h10 := hv.2.2.1
  have h2 := two_pow_le h10
  have h3 := one_le_two_pow' n
  rw [e_O_walk]
  simp only [gO_walk_0, gO_walk_1, gO_walk_4, gO_walk_5, gO_walk_6, gO_walk_10, gO_walk_11, gO_walk_14, gO_walk_15, gO_walk_18, gO_walk_20, gO_walk_21, gO_walk_24, gO_walk_27, gO_walk_30, gO_walk_31, gO_walk_34, gO_walk_35, gO_walk_38, gO_walk_39, gO_walk_42, gO_walk_43, gO_walk_46, gO_walk_47, gO_walk_50, gO_walk_52, gO_walk_55, gO_walk_56, gO_walk_59, gO_walk_61, gO_walk_63, gO_walk_64, gO_walk_67, gO_walk_68, gO_walk_71, gO_walk_73, gO_walk_76, gO_walk_77, gO_walk_80, gO_walk_81, gO_walk_84, gO_walk_85, gO_walk_87, gO_walk_90, gO_walk_92, gO_walk_93, gO_walk_95, gO_walk_97, gO_walk_98, gO_walk_101, gO_walk_104, gO_walk_106, gO_walk_108, gO_walk_109, gO_walk_110, gO_walk_111, gO_walk_114, gO_walk_115, gO_walk_116, gO_walk_118, gO_walk_120, gO_walk_121, gO_walk_124, gO_walk_127, gO_walk_130, gO_walk_133, gO_walk_136, ↓reduceIte, Bool.false_eq_true, Bool.true_eq_false, qk_i, qk_r, qk_n, Option.toList_some, Option.toList_none, List.cons_append, List.nil_append, true_and, and_true, true_or, or_true, eq_self, if_true, if_false, q_b1, q_b2, c_A, c_R, c_O, c_M, c_H1, c_H8, c_H15, x_H_everything c_H1, hv.all]
  refine w_O_walk1 (a := 2 ^ n - 1) (by omega) (fun M1 o1 hM1 => ?_) (2 ^ n) 0 (by omega) M eqx.rf
  have hh : M1 1 7 = nI h := by rw [hM1 1 (by decide)]; exact hv.2.2.2.1
  have e1 : ∀ i v, s_put M1 25 1024 i v 1 = M1 1 := fun i v => s_put_ne (by decide)
  have e2 : ∀ i v i' v', s_put (s_put M1 25 1024 i v) 26 1024 i' v' 1 = M1 1 := fun i v i' v' => (s_put_ne (by decide)).trans (s_put_ne (by decide))
  simp only [gO_walk_0, gO_walk_1, gO_walk_4, gO_walk_5, gO_walk_6, gO_walk_8, gO_walk_10, gO_walk_11, gO_walk_14, gO_walk_15, gO_walk_18, gO_walk_20, gO_walk_21, gO_walk_24, gO_walk_27, gO_walk_30, gO_walk_31, gO_walk_34, gO_walk_35, gO_walk_38, gO_walk_39, gO_walk_42, gO_walk_43, gO_walk_46, gO_walk_47, gO_walk_50, gO_walk_52, gO_walk_55, gO_walk_56, gO_walk_59, gO_walk_63, gO_walk_64, gO_walk_67, gO_walk_68, gO_walk_71, gO_walk_73, gO_walk_76, gO_walk_77, gO_walk_80, gO_walk_81, gO_walk_84, gO_walk_85, gO_walk_87, gO_walk_90, gO_walk_92, gO_walk_93, gO_walk_95, gO_walk_97, gO_walk_98, gO_walk_101, gO_walk_104, gO_walk_106, gO_walk_108, gO_walk_109, gO_walk_110, gO_walk_111, gO_walk_114, gO_walk_115, gO_walk_116, gO_walk_118, gO_walk_120, gO_walk_121, gO_walk_124, gO_walk_127, gO_walk_130, gO_walk_133, gO_walk_136, ↓reduceIte, Bool.false_eq_true, Bool.true_eq_false, qk_i, qk_r, qk_n, Option.toList_some, Option.toList_none, List.cons_append, List.nil_append, true_and, and_true, true_or, or_true, eq_self, if_true, if_false, q_b1, q_b2, c_A, c_R, c_O, c_M, c_H1, c_H8, c_H15, rf_O0, rf_O1, x_W_put al_25, x_W_put al_26, e1, e2, hh]
  exact w_O_walk2 hv hQ (2 ^ n - h) h (by have := hv.2.2.2.2; omega) _ _ _ ((hM1.sput (by decide)).sput (by decide))

theorem w_O_seek_l {Q : q_R} {M0 : q_M} {n h : Nat} {wt im : Int32} (hv : v_h M0 1 n h) (hQ : ∀ M, eqx So M0 M → Q none M) : ∀ k j, j + k = 2 ^ n → ∀ M (o5 o6 : Option Value), eqx So M0 M →
    q_g 25 none Q 28 [some (.ref 24), some (.ref 1), some (.int wt), some (.int im), some (.int (nI j)), o5, o6] [] M := by
  have h10 := hv.2.2.1
  have h2 := two_pow_le h10
  have h3 := one_le_two_pow' n
  intro k
  induction k with
  | zero =>
    intro j hj M o5 o6 hM
    have h1 : nI (2 ^ n - 1) < nI j := nI_lt (by omega) (by omega)
    have ha := (hv.of (hM 1 (by decide))).all
    rw [gO_seek_28]
    simp only [gO_seek_0, gO_seek_1, gO_seek_2, gO_seek_3, gO_seek_6, gO_seek_7, gO_seek_8, gO_seek_11, gO_seek_12, gO_seek_13, gO_seek_16, gO_seek_17, gO_seek_19, gO_seek_22, gO_seek_23, gO_seek_26, gO_seek_30, gO_seek_31, gO_seek_34, gO_seek_37, gO_seek_38, gO_seek_41, gO_seek_43, gO_seek_46, gO_seek_48, gO_seek_50, gO_seek_51, gO_seek_54, gO_seek_55, gO_seek_57, gO_seek_58, gO_seek_59, gO_seek_60, gO_seek_63, gO_seek_66, gO_seek_67, gO_seek_70, gO_seek_72, gO_seek_75, gO_seek_77, gO_seek_78, gO_seek_81, gO_seek_84, gO_seek_86, gO_seek_87, gO_seek_90, gO_seek_93, gO_seek_95, gO_seek_96, gO_seek_99, gO_seek_102, gO_seek_104, gO_seek_105, gO_seek_108, gO_seek_111, gO_seek_112, gO_seek_113, gO_seek_116, gO_seek_117, gO_seek_119, gO_seek_122, gO_seek_123, gO_seek_125, gO_seek_128, gO_seek_131, gO_seek_134, ↓reduceIte, Bool.false_eq_true, Bool.true_eq_false, qk_i, qk_r, qk_n, Option.toList_some, Option.toList_none, List.cons_append, List.nil_append, true_and, and_true, true_or, or_true, eq_self, if_true, if_false, q_b1, q_b2, c_A, c_R, c_O, c_M, c_H1, c_H8, c_H15, x_H_everything c_H1, ha, h1]
    exact hQ _ hM
  | succ k ih =>
    intro j hj M o5 o6 hM
    have h1 : ¬ nI (2 ^ n - 1) < nI j := nI_nlt (by omega) (by omega)
    have ha := (hv.of (hM 1 (by decide))).all
    have e : ∀ M' (o5 : Int32) (o6 : Option Value), eqx So M0 M' → q_g 25 none Q 128 [some (.ref 24), some (.ref 1), some (.int wt), some (.int im), some (.int (nI j)), some (.int o5), o6] [] M' := by
      intro M' o5 o6 hM'
      simp only [gO_seek_0, gO_seek_1, gO_seek_2, gO_seek_3, gO_seek_6, gO_seek_7, gO_seek_8, gO_seek_11, gO_seek_12, gO_seek_13, gO_seek_16, gO_seek_17, gO_seek_19, gO_seek_22, gO_seek_23, gO_seek_26, gO_seek_30, gO_seek_31, gO_seek_34, gO_seek_37, gO_seek_38, gO_seek_41, gO_seek_43, gO_seek_46, gO_seek_48, gO_seek_50, gO_seek_51, gO_seek_54, gO_seek_55, gO_seek_57, gO_seek_58, gO_seek_59, gO_seek_60, gO_seek_63, gO_seek_66, gO_seek_67, gO_seek_70, gO_seek_72, gO_seek_75, gO_seek_77, gO_seek_78, gO_seek_81, gO_seek_84, gO_seek_86, gO_seek_87, gO_seek_90, gO_seek_93, gO_seek_95, gO_seek_96, gO_seek_99, gO_seek_102, gO_seek_104, gO_seek_105, gO_seek_108, gO_seek_111, gO_seek_112, gO_seek_113, gO_seek_116, gO_seek_117, gO_seek_119, gO_seek_122, gO_seek_123, gO_seek_125, gO_seek_128, gO_seek_131, gO_seek_134, ↓reduceIte, Bool.false_eq_true, Bool.true_eq_false, qk_i, qk_r, qk_n, Option.toList_some, Option.toList_none, List.cons_append, List.nil_append, true_and, and_true, true_or, or_true, eq_self, if_true, if_false, q_b1, q_b2, c_A, c_R, c_O, c_M, c_H1, c_H8, c_H15, nI_1]
      exact ih (j + 1) (by omega) M' _ _ hM'
    rw [gO_seek_28]
    simp only [gO_seek_0, gO_seek_1, gO_seek_2, gO_seek_3, gO_seek_6, gO_seek_7, gO_seek_8, gO_seek_11, gO_seek_12, gO_seek_13, gO_seek_16, gO_seek_17, gO_seek_19, gO_seek_22, gO_seek_23, gO_seek_26, gO_seek_30, gO_seek_31, gO_seek_34, gO_seek_37, gO_seek_38, gO_seek_41, gO_seek_43, gO_seek_46, gO_seek_48, gO_seek_50, gO_seek_51, gO_seek_54, gO_seek_55, gO_seek_57, gO_seek_58, gO_seek_59, gO_seek_60, gO_seek_63, gO_seek_66, gO_seek_67, gO_seek_70, gO_seek_72, gO_seek_75, gO_seek_77, gO_seek_78, gO_seek_81, gO_seek_84, gO_seek_86, gO_seek_87, gO_seek_90, gO_seek_93, gO_seek_95, gO_seek_96, gO_seek_99, gO_seek_102, gO_seek_104, gO_seek_105, gO_seek_108, gO_seek_111, gO_seek_112, gO_seek_113, gO_seek_116, gO_seek_117, gO_seek_119, gO_seek_122, gO_seek_123, gO_seek_125, gO_seek_131, gO_seek_134, ↓reduceIte, Bool.false_eq_true, Bool.true_eq_false, qk_i, qk_r, qk_n, Option.toList_some, Option.toList_none, List.cons_append, List.nil_append, true_and, and_true, true_or, or_true, eq_self, if_true, if_false, q_b1, q_b2, c_A, c_R, c_O, c_M, c_H1, c_H8, c_H15, x_H_everything c_H1, ha, h1, rf_O0, rf_O1, x_W_get al_25, x_W_get al_26]
    repeat' split
    all_goals first
      | exact e _ _ _ hM
      | exact e _ _ _ (((hM.qput (by decide)).qput (by decide)).qput (by decide))
theorem w_O_seek {Q : q_R} {M : q_M} {n h : Nat} {wt im : Int32} (hv : v_h M 1 n h) (hQ : ∀ M', eqx So M M' → Q none M') : q_Run 25 [.ref 24, .ref 1, .int wt, .int im] M Q := by
  have h10 := hv.2.2.1
  rw [e_O_seek]
  simp only [gO_seek_0, gO_seek_1, gO_seek_2, gO_seek_3, gO_seek_6, gO_seek_7, gO_seek_8, gO_seek_11, gO_seek_12, gO_seek_13, gO_seek_16, gO_seek_17, gO_seek_19, gO_seek_22, gO_seek_23, gO_seek_26, gO_seek_30, gO_seek_31, gO_seek_34, gO_seek_37, gO_seek_38, gO_seek_41, gO_seek_43, gO_seek_46, gO_seek_48, gO_seek_50, gO_seek_51, gO_seek_54, gO_seek_55, gO_seek_57, gO_seek_58, gO_seek_59, gO_seek_60, gO_seek_63, gO_seek_66, gO_seek_67, gO_seek_70, gO_seek_72, gO_seek_75, gO_seek_77, gO_seek_78, gO_seek_81, gO_seek_84, gO_seek_86, gO_seek_87, gO_seek_90, gO_seek_93, gO_seek_95, gO_seek_96, gO_seek_99, gO_seek_102, gO_seek_104, gO_seek_105, gO_seek_108, gO_seek_111, gO_seek_112, gO_seek_113, gO_seek_116, gO_seek_117, gO_seek_119, gO_seek_122, gO_seek_123, gO_seek_125, gO_seek_128, gO_seek_131, gO_seek_134, ↓reduceIte, Bool.false_eq_true, Bool.true_eq_false, qk_i, qk_r, qk_n, Option.toList_some, Option.toList_none, List.cons_append, List.nil_append, true_and, and_true, true_or, or_true, eq_self, if_true, if_false, q_b1, q_b2, c_A, c_R, c_O, c_M, c_H1, c_H8, c_H15]
  refine w_O_walk hv fun M1 hM1 => ?_
  have hh : M1 1 7 = nI h := by rw [hM1 1 (by decide)]; exact hv.2.2.2.1
  have e1 : ∀ (N : q_M) j v, q_put N 24 j v 1 = N 1 := fun N j v => q_put_ne (by decide)
  simp only [gO_seek_0, gO_seek_1, gO_seek_2, gO_seek_3, gO_seek_6, gO_seek_7, gO_seek_8, gO_seek_11, gO_seek_12, gO_seek_13, gO_seek_16, gO_seek_17, gO_seek_19, gO_seek_22, gO_seek_23, gO_seek_26, gO_seek_30, gO_seek_31, gO_seek_34, gO_seek_37, gO_seek_38, gO_seek_41, gO_seek_43, gO_seek_46, gO_seek_48, gO_seek_50, gO_seek_51, gO_seek_54, gO_seek_55, gO_seek_57, gO_seek_58, gO_seek_59, gO_seek_60, gO_seek_63, gO_seek_66, gO_seek_67, gO_seek_70, gO_seek_72, gO_seek_75, gO_seek_77, gO_seek_78, gO_seek_81, gO_seek_84, gO_seek_86, gO_seek_87, gO_seek_90, gO_seek_93, gO_seek_95, gO_seek_96, gO_seek_99, gO_seek_102, gO_seek_104, gO_seek_105, gO_seek_108, gO_seek_111, gO_seek_112, gO_seek_113, gO_seek_116, gO_seek_117, gO_seek_119, gO_seek_122, gO_seek_123, gO_seek_125, gO_seek_128, gO_seek_131, gO_seek_134, ↓reduceIte, Bool.false_eq_true, Bool.true_eq_false, qk_i, qk_r, qk_n, Option.toList_some, Option.toList_none, List.cons_append, List.nil_append, true_and, and_true, true_or, or_true, eq_self, if_true, if_false, q_b1, q_b2, c_A, c_R, c_O, c_M, c_H1, c_H8, c_H15, e1, hh]
  exact w_O_seek_l hv hQ (2 ^ n - h) h (by have := hv.2.2.2.2; omega) _ _ _ (((hM1.qput (by decide)).qput (by decide)).qput (by decide))

theorem w_O_ct1 {Q : q_R} {M0 : q_M} {a : Nat} (ha : a < 1024) (hQ : ∀ M (o : Int32), eqx So M0 M → q_g 22 none Q 22 [some (.ref 24), some (.ref 1), some (.int (nI a)), some (.int o), none, none, none, none] [] M) : ∀ k j, j + k = a + 1 → ∀ M, eqx So M0 M →
    q_g 22 none Q 2 [some (.ref 24), some (.ref 1), some (.int (nI a)), some (.int (nI j)), none, none, none, none] [] M := by
  intro k
  induction k with
  | zero =>
    intro j hj M hM
    have h1 : nI a < nI j := nI_lt (by omega) (by omega)
    rw [gO_countTo_2]
    simp only [gO_countTo_0, gO_countTo_1, gO_countTo_3, gO_countTo_4, gO_countTo_7, gO_countTo_8, gO_countTo_11, gO_countTo_12, gO_countTo_13, gO_countTo_16, gO_countTo_19, gO_countTo_23, gO_countTo_26, gO_countTo_27, gO_countTo_30, gO_countTo_31, gO_countTo_34, gO_countTo_35, gO_countTo_38, gO_countTo_39, gO_countTo_40, gO_countTo_41, gO_countTo_44, gO_countTo_45, gO_countTo_48, gO_countTo_49, gO_countTo_52, gO_countTo_54, gO_countTo_56, gO_countTo_59, gO_countTo_60, gO_countTo_63, gO_countTo_64, gO_countTo_65, gO_countTo_68, gO_countTo_69, gO_countTo_70, gO_countTo_72, gO_countTo_73, gO_countTo_75, gO_countTo_77, gO_countTo_78, gO_countTo_81, gO_countTo_84, gO_countTo_86, gO_countTo_88, gO_countTo_89, gO_countTo_90, gO_countTo_91, gO_countTo_94, gO_countTo_95, gO_countTo_96, gO_countTo_98, gO_countTo_99, gO_countTo_100, gO_countTo_102, gO_countTo_103, gO_countTo_106, gO_countTo_108, gO_countTo_109, gO_countTo_112, gO_countTo_114, gO_countTo_117, gO_countTo_119, gO_countTo_120, gO_countTo_123, gO_countTo_126, gO_countTo_129, gO_countTo_132, gO_countTo_135, gO_countTo_136, gO_countTo_139, gO_countTo_140, gO_countTo_143, ↓reduceIte, Bool.false_eq_true, Bool.true_eq_false, qk_i, qk_r, qk_n, Option.toList_some, Option.toList_none, List.cons_append, List.nil_append, true_and, and_true, true_or, or_true, eq_self, if_true, if_false, q_b1, q_b2, c_A, c_R, c_O, c_M, c_H1, c_H8, c_H15, h1]
    exact hQ _ _ hM
  | succ k ih =>
    intro j hj M hM
    have h1 : ¬ nI a < nI j := nI_nlt (by omega) (by omega)
    rw [gO_countTo_2]
    simp only [gO_countTo_0, gO_countTo_1, gO_countTo_3, gO_countTo_4, gO_countTo_7, gO_countTo_8, gO_countTo_11, gO_countTo_12, gO_countTo_13, gO_countTo_16, gO_countTo_19, gO_countTo_23, gO_countTo_26, gO_countTo_27, gO_countTo_30, gO_countTo_31, gO_countTo_34, gO_countTo_35, gO_countTo_38, gO_countTo_39, gO_countTo_40, gO_countTo_41, gO_countTo_44, gO_countTo_45, gO_countTo_48, gO_countTo_49, gO_countTo_52, gO_countTo_54, gO_countTo_56, gO_countTo_59, gO_countTo_60, gO_countTo_63, gO_countTo_64, gO_countTo_65, gO_countTo_68, gO_countTo_69, gO_countTo_70, gO_countTo_72, gO_countTo_73, gO_countTo_75, gO_countTo_77, gO_countTo_78, gO_countTo_81, gO_countTo_84, gO_countTo_86, gO_countTo_88, gO_countTo_89, gO_countTo_90, gO_countTo_91, gO_countTo_94, gO_countTo_95, gO_countTo_96, gO_countTo_98, gO_countTo_99, gO_countTo_100, gO_countTo_102, gO_countTo_103, gO_countTo_106, gO_countTo_108, gO_countTo_109, gO_countTo_112, gO_countTo_114, gO_countTo_117, gO_countTo_119, gO_countTo_120, gO_countTo_123, gO_countTo_126, gO_countTo_129, gO_countTo_132, gO_countTo_135, gO_countTo_136, gO_countTo_139, gO_countTo_140, gO_countTo_143, ↓reduceIte, Bool.false_eq_true, Bool.true_eq_false, qk_i, qk_r, qk_n, Option.toList_some, Option.toList_none, List.cons_append, List.nil_append, true_and, and_true, true_or, or_true, eq_self, if_true, if_false, q_b1, q_b2, c_A, c_R, c_O, c_M, c_H1, c_H8, c_H15, h1, rf_O2, x_W_put al_27, nI_1]
    exact ih (j + 1) (by omega) _ (hM.sput (by decide))
theorem w_O_ct3 {Q : q_R} {M0 : q_M} {n h : Nat} {al st cm nx : Int32} (hv : v_h M0 1 n h) (hQ : ∀ M (o : Int32) (o7 : Option Value), eqx So M0 M → q_g 22 none Q 129 [some (.ref 24), some (.ref 1), some (.int al), some (.int st), some (.int cm), some (.int nx), some (.int o), o7] [] M) : ∀ k j, j + k = n → ∀ M (o7 : Option Value), eqx So M0 M →
    q_g 22 none Q 75 [some (.ref 24), some (.ref 1), some (.int al), some (.int st), some (.int cm), some (.int nx), some (.int (nI j)), o7] [] M := by
  intro k
  induction k with
  | zero =>
    intro j hj M o7 hM
    have : j = n := by omega
    subst this
    have hn : M 1 6 = nI j := by rw [hM 1 (by decide)]; exact hv.2.1
    rw [gO_countTo_75]
    simp only [gO_countTo_0, gO_countTo_1, gO_countTo_2, gO_countTo_3, gO_countTo_4, gO_countTo_7, gO_countTo_8, gO_countTo_11, gO_countTo_12, gO_countTo_13, gO_countTo_16, gO_countTo_19, gO_countTo_22, gO_countTo_23, gO_countTo_26, gO_countTo_27, gO_countTo_30, gO_countTo_31, gO_countTo_34, gO_countTo_35, gO_countTo_38, gO_countTo_39, gO_countTo_40, gO_countTo_41, gO_countTo_44, gO_countTo_45, gO_countTo_48, gO_countTo_49, gO_countTo_52, gO_countTo_54, gO_countTo_56, gO_countTo_59, gO_countTo_60, gO_countTo_63, gO_countTo_64, gO_countTo_65, gO_countTo_68, gO_countTo_69, gO_countTo_70, gO_countTo_72, gO_countTo_73, gO_countTo_77, gO_countTo_78, gO_countTo_81, gO_countTo_84, gO_countTo_86, gO_countTo_88, gO_countTo_89, gO_countTo_90, gO_countTo_91, gO_countTo_94, gO_countTo_95, gO_countTo_96, gO_countTo_98, gO_countTo_99, gO_countTo_100, gO_countTo_102, gO_countTo_103, gO_countTo_106, gO_countTo_108, gO_countTo_109, gO_countTo_112, gO_countTo_114, gO_countTo_117, gO_countTo_119, gO_countTo_120, gO_countTo_123, gO_countTo_126, gO_countTo_132, gO_countTo_135, gO_countTo_136, gO_countTo_139, gO_countTo_140, gO_countTo_143, ↓reduceIte, Bool.false_eq_true, Bool.true_eq_false, qk_i, qk_r, qk_n, Option.toList_some, Option.toList_none, List.cons_append, List.nil_append, true_and, and_true, true_or, or_true, eq_self, if_true, if_false, q_b1, q_b2, c_A, c_R, c_O, c_M, c_H1, c_H8, c_H15, hn, Int32.le_refl]
    exact hQ _ _ _ hM
  | succ k ih =>
    intro j hj M o7 hM
    have h10 := hv.2.2.1
    have hn : M 1 6 = nI n := by rw [hM 1 (by decide)]; exact hv.2.1
    have h1 : ¬ nI n ≤ nI j := nI_ge (by omega) (by omega)
    rw [gO_countTo_75]
    simp only [gO_countTo_0, gO_countTo_1, gO_countTo_2, gO_countTo_3, gO_countTo_4, gO_countTo_7, gO_countTo_8, gO_countTo_11, gO_countTo_12, gO_countTo_13, gO_countTo_16, gO_countTo_19, gO_countTo_22, gO_countTo_23, gO_countTo_26, gO_countTo_27, gO_countTo_30, gO_countTo_31, gO_countTo_34, gO_countTo_35, gO_countTo_38, gO_countTo_39, gO_countTo_40, gO_countTo_41, gO_countTo_44, gO_countTo_45, gO_countTo_48, gO_countTo_49, gO_countTo_52, gO_countTo_54, gO_countTo_56, gO_countTo_59, gO_countTo_60, gO_countTo_63, gO_countTo_64, gO_countTo_65, gO_countTo_68, gO_countTo_69, gO_countTo_70, gO_countTo_72, gO_countTo_73, gO_countTo_77, gO_countTo_78, gO_countTo_81, gO_countTo_84, gO_countTo_86, gO_countTo_88, gO_countTo_89, gO_countTo_90, gO_countTo_91, gO_countTo_94, gO_countTo_95, gO_countTo_96, gO_countTo_98, gO_countTo_99, gO_countTo_100, gO_countTo_102, gO_countTo_103, gO_countTo_106, gO_countTo_108, gO_countTo_109, gO_countTo_112, gO_countTo_114, gO_countTo_117, gO_countTo_119, gO_countTo_120, gO_countTo_123, gO_countTo_126, gO_countTo_132, gO_countTo_135, gO_countTo_136, gO_countTo_139, gO_countTo_140, gO_countTo_143, ↓reduceIte, Bool.false_eq_true, Bool.true_eq_false, qk_i, qk_r, qk_n, Option.toList_some, Option.toList_none, List.cons_append, List.nil_append, true_and, and_true, true_or, or_true, eq_self, if_true, if_false, q_b1, q_b2, c_A, c_R, c_O, c_M, c_H1, c_H8, c_H15, h1, hn, nI_1, rf_O2, x_W_get al_27, x_W_put al_27]
    split
    · exact ih (j + 1) (by omega) _ _ hM
    · exact ih (j + 1) (by omega) _ _ (hM.sput (by decide))
theorem w_O_ct2 {Q : q_R} {M0 : q_M} {n h a : Nat} (hv : v_h M0 1 n h) (ha : a < 1024) (hQ : ∀ M (x : Int32), eqx So M0 M → Q (some (.int x)) M) : ∀ k j, j + k = 1024 → ∀ M (o4 o5 o6 o7 : Option Value), eqx So M0 M →
    q_g 22 none Q 39 [some (.ref 24), some (.ref 1), some (.int (nI a)), some (.int (nI j)), o4, o5, o6, o7] [] M := by
  have h10 := hv.2.2.1
  have e135 : ∀ M (j : Nat) (o4 o5 o6 o7 : Option Value), eqx So M0 M → q_g 22 none Q 135 [some (.ref 24), some (.ref 1), some (.int (nI a)), some (.int (nI j)), o4, o5, o6, o7] [] M := by
    intro M j o4 o5 o6 o7 hM
    simp only [gO_countTo_0, gO_countTo_1, gO_countTo_2, gO_countTo_3, gO_countTo_4, gO_countTo_7, gO_countTo_8, gO_countTo_11, gO_countTo_12, gO_countTo_13, gO_countTo_16, gO_countTo_19, gO_countTo_22, gO_countTo_23, gO_countTo_26, gO_countTo_27, gO_countTo_30, gO_countTo_31, gO_countTo_34, gO_countTo_35, gO_countTo_38, gO_countTo_40, gO_countTo_41, gO_countTo_44, gO_countTo_45, gO_countTo_48, gO_countTo_49, gO_countTo_52, gO_countTo_54, gO_countTo_56, gO_countTo_59, gO_countTo_60, gO_countTo_63, gO_countTo_64, gO_countTo_65, gO_countTo_68, gO_countTo_69, gO_countTo_70, gO_countTo_72, gO_countTo_73, gO_countTo_75, gO_countTo_77, gO_countTo_78, gO_countTo_81, gO_countTo_84, gO_countTo_86, gO_countTo_88, gO_countTo_89, gO_countTo_90, gO_countTo_91, gO_countTo_94, gO_countTo_95, gO_countTo_96, gO_countTo_98, gO_countTo_99, gO_countTo_100, gO_countTo_102, gO_countTo_103, gO_countTo_106, gO_countTo_108, gO_countTo_109, gO_countTo_112, gO_countTo_114, gO_countTo_117, gO_countTo_119, gO_countTo_120, gO_countTo_123, gO_countTo_126, gO_countTo_129, gO_countTo_132, gO_countTo_135, gO_countTo_136, gO_countTo_139, gO_countTo_140, gO_countTo_143, ↓reduceIte, Bool.false_eq_true, Bool.true_eq_false, qk_i, qk_r, qk_n, Option.toList_some, Option.toList_none, List.cons_append, List.nil_append, true_and, and_true, true_or, or_true, eq_self, if_true, if_false, q_b1, q_b2, c_A, c_R, c_O, c_M, c_H1, c_H8, c_H15, rf_O2, x_W_get al_27]
    exact hQ _ _ hM
  intro k
  induction k with
  | zero =>
    intro j hj M o4 o5 o6 o7 hM
    have h1 : nI a ≤ nI j := nI_le (by omega) (by omega)
    rw [gO_countTo_39]
    simp only [gO_countTo_0, gO_countTo_1, gO_countTo_2, gO_countTo_3, gO_countTo_4, gO_countTo_7, gO_countTo_8, gO_countTo_11, gO_countTo_12, gO_countTo_13, gO_countTo_16, gO_countTo_19, gO_countTo_22, gO_countTo_23, gO_countTo_26, gO_countTo_27, gO_countTo_30, gO_countTo_31, gO_countTo_34, gO_countTo_35, gO_countTo_38, gO_countTo_40, gO_countTo_41, gO_countTo_44, gO_countTo_45, gO_countTo_48, gO_countTo_49, gO_countTo_52, gO_countTo_54, gO_countTo_56, gO_countTo_59, gO_countTo_60, gO_countTo_63, gO_countTo_64, gO_countTo_65, gO_countTo_68, gO_countTo_69, gO_countTo_70, gO_countTo_72, gO_countTo_73, gO_countTo_75, gO_countTo_77, gO_countTo_78, gO_countTo_81, gO_countTo_84, gO_countTo_86, gO_countTo_88, gO_countTo_89, gO_countTo_90, gO_countTo_91, gO_countTo_94, gO_countTo_95, gO_countTo_96, gO_countTo_98, gO_countTo_99, gO_countTo_100, gO_countTo_102, gO_countTo_103, gO_countTo_106, gO_countTo_108, gO_countTo_109, gO_countTo_112, gO_countTo_114, gO_countTo_117, gO_countTo_119, gO_countTo_120, gO_countTo_123, gO_countTo_126, gO_countTo_129, gO_countTo_132, gO_countTo_136, gO_countTo_139, gO_countTo_140, gO_countTo_143, ↓reduceIte, Bool.false_eq_true, Bool.true_eq_false, qk_i, qk_r, qk_n, Option.toList_some, Option.toList_none, List.cons_append, List.nil_append, true_and, and_true, true_or, or_true, eq_self, if_true, if_false, q_b1, q_b2, c_A, c_R, c_O, c_M, c_H1, c_H8, c_H15, h1]
    exact e135 _ _ _ _ _ _ hM
  | succ k ih =>
    intro j hj M o4 o5 o6 o7 hM
    have hn : M 1 6 = nI n := by rw [hM 1 (by decide)]; exact hv.2.1
    have e70 : ∀ x cm : Int32, q_g 22 none Q 70 [some (.ref 24), some (.ref 1), some (.int (nI a)), some (.int (nI j)), some (.int cm), o5, o6, o7] [.int x] M := by
      intro x cm
      simp only [gO_countTo_0, gO_countTo_1, gO_countTo_2, gO_countTo_3, gO_countTo_4, gO_countTo_7, gO_countTo_8, gO_countTo_11, gO_countTo_12, gO_countTo_13, gO_countTo_16, gO_countTo_19, gO_countTo_22, gO_countTo_23, gO_countTo_26, gO_countTo_27, gO_countTo_30, gO_countTo_31, gO_countTo_34, gO_countTo_35, gO_countTo_38, gO_countTo_40, gO_countTo_41, gO_countTo_44, gO_countTo_45, gO_countTo_48, gO_countTo_49, gO_countTo_52, gO_countTo_54, gO_countTo_56, gO_countTo_59, gO_countTo_60, gO_countTo_63, gO_countTo_64, gO_countTo_65, gO_countTo_68, gO_countTo_69, gO_countTo_70, gO_countTo_72, gO_countTo_73, gO_countTo_77, gO_countTo_78, gO_countTo_81, gO_countTo_84, gO_countTo_86, gO_countTo_88, gO_countTo_89, gO_countTo_90, gO_countTo_91, gO_countTo_94, gO_countTo_95, gO_countTo_96, gO_countTo_98, gO_countTo_99, gO_countTo_100, gO_countTo_102, gO_countTo_103, gO_countTo_106, gO_countTo_108, gO_countTo_109, gO_countTo_112, gO_countTo_114, gO_countTo_117, gO_countTo_119, gO_countTo_120, gO_countTo_123, gO_countTo_126, gO_countTo_129, gO_countTo_132, gO_countTo_135, gO_countTo_136, gO_countTo_139, gO_countTo_140, gO_countTo_143, ↓reduceIte, Bool.false_eq_true, Bool.true_eq_false, qk_i, qk_r, qk_n, Option.toList_some, Option.toList_none, List.cons_append, List.nil_append, true_and, and_true, true_or, or_true, eq_self, if_true, if_false, q_b1, q_b2, c_A, c_R, c_O, c_M, c_H1, c_H8, c_H15]
      refine w_O_ct3 hv (fun M' o o7 hM' => ?_) n 0 (by omega) M _ hM
      simp only [gO_countTo_0, gO_countTo_1, gO_countTo_2, gO_countTo_3, gO_countTo_4, gO_countTo_7, gO_countTo_8, gO_countTo_11, gO_countTo_12, gO_countTo_13, gO_countTo_16, gO_countTo_19, gO_countTo_22, gO_countTo_23, gO_countTo_26, gO_countTo_27, gO_countTo_30, gO_countTo_31, gO_countTo_34, gO_countTo_35, gO_countTo_38, gO_countTo_40, gO_countTo_41, gO_countTo_44, gO_countTo_45, gO_countTo_48, gO_countTo_49, gO_countTo_52, gO_countTo_54, gO_countTo_56, gO_countTo_59, gO_countTo_60, gO_countTo_63, gO_countTo_64, gO_countTo_65, gO_countTo_68, gO_countTo_69, gO_countTo_70, gO_countTo_72, gO_countTo_73, gO_countTo_75, gO_countTo_77, gO_countTo_78, gO_countTo_81, gO_countTo_84, gO_countTo_86, gO_countTo_88, gO_countTo_89, gO_countTo_90, gO_countTo_91, gO_countTo_94, gO_countTo_95, gO_countTo_96, gO_countTo_98, gO_countTo_99, gO_countTo_100, gO_countTo_102, gO_countTo_103, gO_countTo_106, gO_countTo_108, gO_countTo_109, gO_countTo_112, gO_countTo_114, gO_countTo_117, gO_countTo_119, gO_countTo_120, gO_countTo_123, gO_countTo_126, gO_countTo_129, gO_countTo_132, gO_countTo_135, gO_countTo_136, gO_countTo_139, gO_countTo_140, gO_countTo_143, ↓reduceIte, Bool.false_eq_true, Bool.true_eq_false, qk_i, qk_r, qk_n, Option.toList_some, Option.toList_none, List.cons_append, List.nil_append, true_and, and_true, true_or, or_true, eq_self, if_true, if_false, q_b1, q_b2, c_A, c_R, c_O, c_M, c_H1, c_H8, c_H15, nI_1]
      exact ih (j + 1) (by omega) M' _ _ _ _ hM'
    rw [gO_countTo_39]
    simp only [gO_countTo_0, gO_countTo_1, gO_countTo_2, gO_countTo_3, gO_countTo_4, gO_countTo_7, gO_countTo_8, gO_countTo_11, gO_countTo_12, gO_countTo_13, gO_countTo_16, gO_countTo_19, gO_countTo_22, gO_countTo_23, gO_countTo_26, gO_countTo_27, gO_countTo_30, gO_countTo_31, gO_countTo_34, gO_countTo_35, gO_countTo_38, gO_countTo_40, gO_countTo_41, gO_countTo_44, gO_countTo_45, gO_countTo_48, gO_countTo_49, gO_countTo_52, gO_countTo_54, gO_countTo_56, gO_countTo_59, gO_countTo_60, gO_countTo_63, gO_countTo_64, gO_countTo_65, gO_countTo_68, gO_countTo_69, gO_countTo_72, gO_countTo_73, gO_countTo_75, gO_countTo_77, gO_countTo_78, gO_countTo_81, gO_countTo_84, gO_countTo_86, gO_countTo_88, gO_countTo_89, gO_countTo_90, gO_countTo_91, gO_countTo_94, gO_countTo_95, gO_countTo_96, gO_countTo_98, gO_countTo_99, gO_countTo_100, gO_countTo_102, gO_countTo_103, gO_countTo_106, gO_countTo_108, gO_countTo_109, gO_countTo_112, gO_countTo_114, gO_countTo_117, gO_countTo_119, gO_countTo_120, gO_countTo_123, gO_countTo_126, gO_countTo_129, gO_countTo_132, gO_countTo_136, gO_countTo_139, gO_countTo_140, gO_countTo_143, ↓reduceIte, Bool.false_eq_true, Bool.true_eq_false, qk_i, qk_r, qk_n, Option.toList_some, Option.toList_none, List.cons_append, List.nil_append, true_and, and_true, true_or, or_true, eq_self, if_true, if_false, q_b1, q_b2, c_A, c_R, c_O, c_M, c_H1, c_H8, c_H15, rf_O2, x_W_get al_27, x_H_mayBy c_H1 hn h10]
    repeat' split
    all_goals first
      | exact e135 _ _ _ _ _ _ hM
      | exact e70 _ _
theorem w_O_countTo {Q : q_R} {M : q_M} {n h a : Nat} (hv : v_h M 1 n h) (ha : a < 1024) (hQ : ∀ (x : Int32) M', eqx So M M' → Q (some (.int x)) M') : q_Run 22 [.ref 24, .ref 1, .int (nI a)] M Q := by
  have h10 := hv.2.2.1
  have h2 := two_pow_le h10
  rw [e_O_countTo]
  simp only [gO_countTo_0, gO_countTo_1, gO_countTo_3, gO_countTo_4, gO_countTo_7, gO_countTo_8, gO_countTo_11, gO_countTo_12, gO_countTo_13, gO_countTo_16, gO_countTo_19, gO_countTo_22, gO_countTo_23, gO_countTo_26, gO_countTo_27, gO_countTo_30, gO_countTo_31, gO_countTo_34, gO_countTo_35, gO_countTo_38, gO_countTo_39, gO_countTo_40, gO_countTo_41, gO_countTo_44, gO_countTo_45, gO_countTo_48, gO_countTo_49, gO_countTo_52, gO_countTo_54, gO_countTo_56, gO_countTo_59, gO_countTo_60, gO_countTo_63, gO_countTo_64, gO_countTo_65, gO_countTo_68, gO_countTo_69, gO_countTo_70, gO_countTo_72, gO_countTo_73, gO_countTo_75, gO_countTo_77, gO_countTo_78, gO_countTo_81, gO_countTo_84, gO_countTo_86, gO_countTo_88, gO_countTo_89, gO_countTo_90, gO_countTo_91, gO_countTo_94, gO_countTo_95, gO_countTo_96, gO_countTo_98, gO_countTo_99, gO_countTo_100, gO_countTo_102, gO_countTo_103, gO_countTo_106, gO_countTo_108, gO_countTo_109, gO_countTo_112, gO_countTo_114, gO_countTo_117, gO_countTo_119, gO_countTo_120, gO_countTo_123, gO_countTo_126, gO_countTo_129, gO_countTo_132, gO_countTo_135, gO_countTo_136, gO_countTo_139, gO_countTo_140, gO_countTo_143, ↓reduceIte, Bool.false_eq_true, Bool.true_eq_false, qk_i, qk_r, qk_n, Option.toList_some, Option.toList_none, List.cons_append, List.nil_append, true_and, and_true, true_or, or_true, eq_self, if_true, if_false, q_b1, q_b2, c_A, c_R, c_O, c_M, c_H1, c_H8, c_H15]
  refine w_O_ct1 ha (fun M1 o1 hM1 => ?_) (a + 1) 0 (by omega) M eqx.rf
  have hh : M1 1 7 = nI h := by rw [hM1 1 (by decide)]; exact hv.2.2.2.1
  have e1 : ∀ i v, s_put M1 27 1024 i v 1 = M1 1 := fun i v => s_put_ne (by decide)
  simp only [gO_countTo_0, gO_countTo_1, gO_countTo_2, gO_countTo_3, gO_countTo_4, gO_countTo_7, gO_countTo_8, gO_countTo_11, gO_countTo_12, gO_countTo_13, gO_countTo_16, gO_countTo_19, gO_countTo_22, gO_countTo_23, gO_countTo_26, gO_countTo_27, gO_countTo_30, gO_countTo_31, gO_countTo_34, gO_countTo_35, gO_countTo_38, gO_countTo_40, gO_countTo_41, gO_countTo_44, gO_countTo_45, gO_countTo_48, gO_countTo_49, gO_countTo_52, gO_countTo_54, gO_countTo_56, gO_countTo_59, gO_countTo_60, gO_countTo_63, gO_countTo_64, gO_countTo_65, gO_countTo_68, gO_countTo_69, gO_countTo_70, gO_countTo_72, gO_countTo_73, gO_countTo_75, gO_countTo_77, gO_countTo_78, gO_countTo_81, gO_countTo_84, gO_countTo_86, gO_countTo_88, gO_countTo_89, gO_countTo_90, gO_countTo_91, gO_countTo_94, gO_countTo_95, gO_countTo_96, gO_countTo_98, gO_countTo_99, gO_countTo_100, gO_countTo_102, gO_countTo_103, gO_countTo_106, gO_countTo_108, gO_countTo_109, gO_countTo_112, gO_countTo_114, gO_countTo_117, gO_countTo_119, gO_countTo_120, gO_countTo_123, gO_countTo_126, gO_countTo_129, gO_countTo_132, gO_countTo_135, gO_countTo_136, gO_countTo_139, gO_countTo_140, gO_countTo_143, ↓reduceIte, Bool.false_eq_true, Bool.true_eq_false, qk_i, qk_r, qk_n, Option.toList_some, Option.toList_none, List.cons_append, List.nil_append, true_and, and_true, true_or, or_true, eq_self, if_true, if_false, q_b1, q_b2, c_A, c_R, c_O, c_M, c_H1, c_H8, c_H15, rf_O2, x_W_put al_27, e1, hh]
  exact w_O_ct2 hv ha (fun M' x hM' => hQ x M' hM') (1024 - h) h (by have := hv.2.2.2.2; omega) _ _ _ _ _ (hM1.sput (by decide))
theorem w_O_hadInAll_l {Q : q_R} {M : q_M} {a : Nat} {kk sz : Int32} (ha : a < 1024) (hQ : ∀ x : Int32, Q (some (.int x)) M) : ∀ k j, j + k = 1025 → ∀ ac : Int32,
    q_g 23 none Q 32 [some (.ref 24), some (.ref 1), some (.int (nI a)), some (.int kk), some (.int sz), some (.int ac), some (.int (nI j))] [] M := by
  intro k
  induction k with
  | zero =>
    intro j hj ac
    have h1 : nI a < nI j := nI_lt (by omega) (by omega)
    rw [gO_hadInAll_32]
    simp only [gO_hadInAll_0, gO_hadInAll_1, gO_hadInAll_2, gO_hadInAll_3, gO_hadInAll_6, gO_hadInAll_9, gO_hadInAll_11, gO_hadInAll_12, gO_hadInAll_13, gO_hadInAll_16, gO_hadInAll_19, gO_hadInAll_20, gO_hadInAll_21, gO_hadInAll_23, gO_hadInAll_24, gO_hadInAll_26, gO_hadInAll_27, gO_hadInAll_30, gO_hadInAll_34, gO_hadInAll_35, gO_hadInAll_38, gO_hadInAll_39, gO_hadInAll_42, gO_hadInAll_44, gO_hadInAll_47, gO_hadInAll_50, gO_hadInAll_52, gO_hadInAll_55, gO_hadInAll_57, gO_hadInAll_60, gO_hadInAll_62, gO_hadInAll_64, gO_hadInAll_65, gO_hadInAll_67, gO_hadInAll_70, gO_hadInAll_73, gO_hadInAll_75, ↓reduceIte, Bool.false_eq_true, Bool.true_eq_false, qk_i, qk_r, qk_n, Option.toList_some, Option.toList_none, List.cons_append, List.nil_append, true_and, and_true, true_or, or_true, eq_self, if_true, if_false, q_b1, q_b2, c_A, c_R, c_O, c_M, c_H1, c_H8, c_H15, h1]
    exact hQ _
  | succ k ih =>
    intro j hj ac
    rw [gO_hadInAll_32]
    simp only [gO_hadInAll_0, gO_hadInAll_1, gO_hadInAll_2, gO_hadInAll_3, gO_hadInAll_6, gO_hadInAll_9, gO_hadInAll_11, gO_hadInAll_12, gO_hadInAll_13, gO_hadInAll_16, gO_hadInAll_19, gO_hadInAll_20, gO_hadInAll_21, gO_hadInAll_23, gO_hadInAll_24, gO_hadInAll_26, gO_hadInAll_27, gO_hadInAll_30, gO_hadInAll_34, gO_hadInAll_35, gO_hadInAll_38, gO_hadInAll_39, gO_hadInAll_42, gO_hadInAll_44, gO_hadInAll_47, gO_hadInAll_50, gO_hadInAll_52, gO_hadInAll_55, gO_hadInAll_57, gO_hadInAll_60, gO_hadInAll_62, gO_hadInAll_64, gO_hadInAll_65, gO_hadInAll_67, gO_hadInAll_70, gO_hadInAll_73, gO_hadInAll_75, ↓reduceIte, Bool.false_eq_true, Bool.true_eq_false, qk_i, qk_r, qk_n, Option.toList_some, Option.toList_none, List.cons_append, List.nil_append, true_and, and_true, true_or, or_true, eq_self, if_true, if_false, q_b1, q_b2, c_A, c_R, c_O, c_M, c_H1, c_H8, c_H15, rf_O2, x_W_get al_27, x_I_bitCount, nI_1]
    repeat' split
    all_goals first
      | exact hQ _
      | exact ih (j + 1) (by omega) _
theorem w_O_hadInAll {Q : q_R} {M : q_M} {n h a : Nat} {kk : Int32} (hv : v_h M 1 n h) (ha : a < 1024) (hQ : ∀ (x : Int32) M', eqx So M M' → Q (some (.int x)) M') : q_Run 23 [.ref 24, .ref 1, .int (nI a), .int kk] M Q := by
  have h10 := hv.2.2.1
  have h2 := two_pow_le h10
  rw [e_O_hadInAll]
  simp only [gO_hadInAll_0, gO_hadInAll_1, gO_hadInAll_2, gO_hadInAll_3, gO_hadInAll_6, gO_hadInAll_9, gO_hadInAll_11, gO_hadInAll_12, gO_hadInAll_13, gO_hadInAll_16, gO_hadInAll_19, gO_hadInAll_20, gO_hadInAll_21, gO_hadInAll_23, gO_hadInAll_24, gO_hadInAll_26, gO_hadInAll_27, gO_hadInAll_30, gO_hadInAll_34, gO_hadInAll_35, gO_hadInAll_38, gO_hadInAll_39, gO_hadInAll_42, gO_hadInAll_44, gO_hadInAll_47, gO_hadInAll_50, gO_hadInAll_52, gO_hadInAll_55, gO_hadInAll_57, gO_hadInAll_60, gO_hadInAll_62, gO_hadInAll_64, gO_hadInAll_65, gO_hadInAll_67, gO_hadInAll_70, gO_hadInAll_73, gO_hadInAll_75, ↓reduceIte, Bool.false_eq_true, Bool.true_eq_false, qk_i, qk_r, qk_n, Option.toList_some, Option.toList_none, List.cons_append, List.nil_append, true_and, and_true, true_or, or_true, eq_self, if_true, if_false, q_b1, q_b2, c_A, c_R, c_O, c_M, c_H1, c_H8, c_H15]
  refine w_O_countTo hv ha fun x M1 hM1 => ?_
  have hh : M1 1 7 = nI h := by rw [hM1 1 (by decide)]; exact hv.2.2.2.1
  simp only [gO_hadInAll_0, gO_hadInAll_1, gO_hadInAll_2, gO_hadInAll_3, gO_hadInAll_6, gO_hadInAll_9, gO_hadInAll_11, gO_hadInAll_12, gO_hadInAll_13, gO_hadInAll_16, gO_hadInAll_19, gO_hadInAll_20, gO_hadInAll_21, gO_hadInAll_23, gO_hadInAll_24, gO_hadInAll_26, gO_hadInAll_27, gO_hadInAll_30, gO_hadInAll_34, gO_hadInAll_35, gO_hadInAll_38, gO_hadInAll_39, gO_hadInAll_42, gO_hadInAll_44, gO_hadInAll_47, gO_hadInAll_50, gO_hadInAll_52, gO_hadInAll_55, gO_hadInAll_57, gO_hadInAll_60, gO_hadInAll_62, gO_hadInAll_64, gO_hadInAll_65, gO_hadInAll_67, gO_hadInAll_70, gO_hadInAll_73, gO_hadInAll_75, ↓reduceIte, Bool.false_eq_true, Bool.true_eq_false, qk_i, qk_r, qk_n, Option.toList_some, Option.toList_none, List.cons_append, List.nil_append, true_and, and_true, true_or, or_true, eq_self, if_true, if_false, q_b1, q_b2, c_A, c_R, c_O, c_M, c_H1, c_H8, c_H15, x_I_bitCount, hh]
  split
  · exact w_O_hadInAll_l ha (fun x => hQ x M1 hM1) (1025 - h) h (by have := hv.2.2.2.2; omega) _
  · exact hQ _ _ hM1
