/-! Search, Seeker: that they come to an end (they write nothing) -/
theorem nI_clampv {n h : Nat} {M : q_M} {B : Nat} (v : v_h M B n h) : h < 1024 := Nat.lt_of_lt_of_le v.2.2.2.2 (two_pow_le v.2.2.1)
theorem w_S_lostWithout {Q : q_R} {M : q_M} {B n h : Nat} {t : Int32} (hv : v_h M B n h) (hQ : ∀ x, Q (some (.int x)) M) : q_Run 48 [.ref B, .int t] M Q := by
  obtain ⟨hB, hn, h10, hh, hlt⟩ := hv
  rw [e_S_lostWithout]
  simp only [gS_lostWithout_0, gS_lostWithout_1, gS_lostWithout_4, gS_lostWithout_5, gS_lostWithout_6, gS_lostWithout_7, gS_lostWithout_8, gS_lostWithout_9, gS_lostWithout_10, gS_lostWithout_11, gS_lostWithout_12, gS_lostWithout_13, gS_lostWithout_16, gS_lostWithout_17, gS_lostWithout_18, gS_lostWithout_19, gS_lostWithout_22, gS_lostWithout_23, gS_lostWithout_24, gS_lostWithout_25, gS_lostWithout_28, gS_lostWithout_31, gS_lostWithout_32, gS_lostWithout_35, gS_lostWithout_36, gS_lostWithout_37, gS_lostWithout_38, gS_lostWithout_39, gS_lostWithout_40, gS_lostWithout_41, gS_lostWithout_42, ↓reduceIte, Bool.false_eq_true, Bool.true_eq_false, qk_i, qk_r, qk_n, Option.toList_some, Option.toList_none, List.cons_append, List.nil_append, true_and, and_true, true_or, or_true, eq_self, if_true, if_false, q_b1, q_b2, c_A, c_R, c_O, c_M, c_H1, c_H8, c_H15, hB, x_H_everything hB, x_H_reachWithin hB hn h10, x_H_reachFrom hB hn h10]
  exact hQ _
theorem w_S_neededWithin_l {Q : q_R} {M : q_M} {B n h : Nat} {st : Int32} (hv : v_h M B n h) (hQ : ∀ x, Q (some (.int x)) M) : ∀ k j, j + k = n → ∀ (ac : Int32) (o4 o5 o6 : Option Value),
    q_g 49 none Q 4 [some (.ref B), some (.int st), some (.int ac), some (.int (nI j)), o4, o5, o6] [] M := by
  obtain ⟨hB, hn, h10, hh, hlt⟩ := hv
  intro k
  induction k with
  | zero =>
    intro j hj ac o4 o5 o6
    have : j = n := by omega
    subst this
    rw [gS_neededWithin_4]
    simp only [gS_neededWithin_0, gS_neededWithin_1, gS_neededWithin_2, gS_neededWithin_3, gS_neededWithin_5, gS_neededWithin_6, gS_neededWithin_9, gS_neededWithin_12, gS_neededWithin_13, gS_neededWithin_14, gS_neededWithin_15, gS_neededWithin_17, gS_neededWithin_18, gS_neededWithin_20, gS_neededWithin_21, gS_neededWithin_22, gS_neededWithin_23, gS_neededWithin_25, gS_neededWithin_26, gS_neededWithin_27, gS_neededWithin_30, gS_neededWithin_31, gS_neededWithin_32, gS_neededWithin_33, gS_neededWithin_35, gS_neededWithin_36, gS_neededWithin_39, gS_neededWithin_40, gS_neededWithin_43, gS_neededWithin_44, gS_neededWithin_46, gS_neededWithin_48, gS_neededWithin_51, gS_neededWithin_52, gS_neededWithin_53, gS_neededWithin_56, gS_neededWithin_58, gS_neededWithin_61, gS_neededWithin_63, gS_neededWithin_66, gS_neededWithin_67, gS_neededWithin_69, gS_neededWithin_70, gS_neededWithin_71, gS_neededWithin_74, gS_neededWithin_77, gS_neededWithin_78, ↓reduceIte, Bool.false_eq_true, Bool.true_eq_false, qk_i, qk_r, qk_n, Option.toList_some, Option.toList_none, List.cons_append, List.nil_append, true_and, and_true, true_or, or_true, eq_self, if_true, if_false, q_b1, q_b2, c_A, c_R, c_O, c_M, c_H1, c_H8, c_H15, hB, hn, Int32.le_refl]
    exact hQ _
  | succ k ih =>
    intro j hj ac o4 o5 o6
    have h1 : ¬ nI n ≤ nI j := nI_ge (by omega) (by omega)
    rw [gS_neededWithin_4]
    simp only [gS_neededWithin_0, gS_neededWithin_1, gS_neededWithin_2, gS_neededWithin_3, gS_neededWithin_5, gS_neededWithin_6, gS_neededWithin_9, gS_neededWithin_12, gS_neededWithin_13, gS_neededWithin_14, gS_neededWithin_15, gS_neededWithin_17, gS_neededWithin_18, gS_neededWithin_20, gS_neededWithin_21, gS_neededWithin_22, gS_neededWithin_23, gS_neededWithin_25, gS_neededWithin_26, gS_neededWithin_27, gS_neededWithin_30, gS_neededWithin_31, gS_neededWithin_32, gS_neededWithin_33, gS_neededWithin_35, gS_neededWithin_36, gS_neededWithin_39, gS_neededWithin_40, gS_neededWithin_43, gS_neededWithin_44, gS_neededWithin_46, gS_neededWithin_48, gS_neededWithin_51, gS_neededWithin_52, gS_neededWithin_53, gS_neededWithin_56, gS_neededWithin_58, gS_neededWithin_61, gS_neededWithin_63, gS_neededWithin_66, gS_neededWithin_67, gS_neededWithin_69, gS_neededWithin_70, gS_neededWithin_71, gS_neededWithin_74, gS_neededWithin_77, gS_neededWithin_78, ↓reduceIte, Bool.false_eq_true, Bool.true_eq_false, qk_i, qk_r, qk_n, Option.toList_some, Option.toList_none, List.cons_append, List.nil_append, true_and, and_true, true_or, or_true, eq_self, if_true, if_false, q_b1, q_b2, c_A, c_R, c_O, c_M, c_H1, c_H8, c_H15, hB, hn, h1, x_H_reachWithin hB hn h10, nI_1]
    repeat' split
    all_goals exact ih (j + 1) (by omega) _ _ _ _
theorem w_S_neededWithin {Q : q_R} {M : q_M} {B n h : Nat} {t : Int32} (hv : v_h M B n h) (hQ : ∀ x, Q (some (.int x)) M) : q_Run 49 [.ref B, .int t] M Q := by
  rw [e_S_neededWithin]
  simp only [gS_neededWithin_0, gS_neededWithin_1, gS_neededWithin_2, gS_neededWithin_3, gS_neededWithin_5, gS_neededWithin_6, gS_neededWithin_9, gS_neededWithin_12, gS_neededWithin_13, gS_neededWithin_14, gS_neededWithin_15, gS_neededWithin_17, gS_neededWithin_18, gS_neededWithin_20, gS_neededWithin_21, gS_neededWithin_22, gS_neededWithin_23, gS_neededWithin_25, gS_neededWithin_26, gS_neededWithin_27, gS_neededWithin_30, gS_neededWithin_31, gS_neededWithin_32, gS_neededWithin_33, gS_neededWithin_35, gS_neededWithin_36, gS_neededWithin_39, gS_neededWithin_40, gS_neededWithin_43, gS_neededWithin_44, gS_neededWithin_46, gS_neededWithin_48, gS_neededWithin_51, gS_neededWithin_52, gS_neededWithin_53, gS_neededWithin_56, gS_neededWithin_58, gS_neededWithin_61, gS_neededWithin_63, gS_neededWithin_66, gS_neededWithin_67, gS_neededWithin_69, gS_neededWithin_70, gS_neededWithin_71, gS_neededWithin_74, gS_neededWithin_77, gS_neededWithin_78, ↓reduceIte, Bool.false_eq_true, Bool.true_eq_false, qk_i, qk_r, qk_n, Option.toList_some, Option.toList_none, List.cons_append, List.nil_append, true_and, and_true, true_or, or_true, eq_self, if_true, if_false, q_b1, q_b2, c_A, c_R, c_O, c_M, c_H1, c_H8, c_H15]
  exact w_S_neededWithin_l hv hQ n 0 (by omega) _ _ _ _
theorem w_S_firstNotHad_l {Q : q_R} {M : q_M} {B n h r : Nat} (hv : v_h M B n h) (hr : r ≤ 12) (hQ : ∀ x, Q (some (.int x)) M) : ∀ k j, j + k = r → ∀ (ac : Int32) (o5 : Option Value),
    q_g 47 none Q 8 [some (.ref B), some (.ref 28), some (.int (nI r)), some (.int ac), some (.int (nI j)), o5] [] M := by
  obtain ⟨hB, hn, h10, hh, hlt⟩ := hv
  have al : q_alen 28 = some 12 := by decide +kernel
  intro k
  induction k with
  | zero =>
    intro j hj ac o5
    have : j = r := by omega
    subst this
    rw [gS_firstNotHad_8]
    simp only [gS_firstNotHad_0, gS_firstNotHad_1, gS_firstNotHad_4, gS_firstNotHad_5, gS_firstNotHad_6, gS_firstNotHad_10, gS_firstNotHad_11, gS_firstNotHad_14, gS_firstNotHad_15, gS_firstNotHad_17, gS_firstNotHad_20, gS_firstNotHad_22, gS_firstNotHad_23, gS_firstNotHad_25, gS_firstNotHad_26, gS_firstNotHad_29, gS_firstNotHad_32, gS_firstNotHad_34, gS_firstNotHad_35, gS_firstNotHad_36, gS_firstNotHad_37, gS_firstNotHad_39, gS_firstNotHad_40, gS_firstNotHad_41, gS_firstNotHad_42, gS_firstNotHad_45, gS_firstNotHad_48, gS_firstNotHad_50, ↓reduceIte, Bool.false_eq_true, Bool.true_eq_false, qk_i, qk_r, qk_n, Option.toList_some, Option.toList_none, List.cons_append, List.nil_append, true_and, and_true, true_or, or_true, eq_self, if_true, if_false, q_b1, q_b2, c_A, c_R, c_O, c_M, c_H1, c_H8, c_H15, Int32.le_refl]
    exact hQ _
  | succ k ih =>
    intro j hj ac o5
    have h1 : ¬ nI r ≤ nI j := nI_ge (by omega) (by omega)
    rw [gS_firstNotHad_8]
    simp only [gS_firstNotHad_0, gS_firstNotHad_1, gS_firstNotHad_4, gS_firstNotHad_5, gS_firstNotHad_6, gS_firstNotHad_10, gS_firstNotHad_11, gS_firstNotHad_14, gS_firstNotHad_15, gS_firstNotHad_17, gS_firstNotHad_20, gS_firstNotHad_22, gS_firstNotHad_23, gS_firstNotHad_25, gS_firstNotHad_26, gS_firstNotHad_29, gS_firstNotHad_32, gS_firstNotHad_34, gS_firstNotHad_35, gS_firstNotHad_36, gS_firstNotHad_37, gS_firstNotHad_39, gS_firstNotHad_40, gS_firstNotHad_41, gS_firstNotHad_42, gS_firstNotHad_45, gS_firstNotHad_48, gS_firstNotHad_50, ↓reduceIte, Bool.false_eq_true, Bool.true_eq_false, qk_i, qk_r, qk_n, Option.toList_some, Option.toList_none, List.cons_append, List.nil_append, true_and, and_true, true_or, or_true, eq_self, if_true, if_false, q_b1, q_b2, c_A, c_R, c_O, c_M, c_H1, c_H8, c_H15, hB, h1, x_W_get al, x_H_canBeHad hB, nI_1, q_z0]
    split
    · exact ih (j + 1) (by omega) _ _
    · exact hQ _
theorem w_S_firstNotHad {Q : q_R} {M : q_M} {B n h r : Nat} (hv : v_h M B n h) (hr : r ≤ 12) (hQ : ∀ x, Q (some (.int x)) M) : q_Run 47 [.ref B, .ref 28, .int (nI r)] M Q := by
  have hB := hv.1
  rw [e_S_firstNotHad]
  simp only [gS_firstNotHad_0, gS_firstNotHad_1, gS_firstNotHad_4, gS_firstNotHad_5, gS_firstNotHad_6, gS_firstNotHad_10, gS_firstNotHad_11, gS_firstNotHad_14, gS_firstNotHad_15, gS_firstNotHad_17, gS_firstNotHad_20, gS_firstNotHad_22, gS_firstNotHad_23, gS_firstNotHad_25, gS_firstNotHad_26, gS_firstNotHad_29, gS_firstNotHad_32, gS_firstNotHad_34, gS_firstNotHad_35, gS_firstNotHad_36, gS_firstNotHad_37, gS_firstNotHad_39, gS_firstNotHad_40, gS_firstNotHad_41, gS_firstNotHad_42, gS_firstNotHad_45, gS_firstNotHad_48, gS_firstNotHad_50, ↓reduceIte, Bool.false_eq_true, Bool.true_eq_false, qk_i, qk_r, qk_n, Option.toList_some, Option.toList_none, List.cons_append, List.nil_append, true_and, and_true, true_or, or_true, eq_self, if_true, if_false, q_b1, q_b2, c_A, c_R, c_O, c_M, c_H1, c_H8, c_H15, hB]
  exact w_S_firstNotHad_l hv hr hQ r 0 (by omega) _ _
theorem w_S_bestSpare_l {Q : q_R} {M : q_M} {B n h : Nat} (hv : v_h M B n h) (hQ : ∀ x, Q (some (.int x)) M) : ∀ k j, j + k = n → ∀ (b c : Int32) (o4 : Option Value),
    q_g 44 none Q 7 [some (.ref B), some (.int b), some (.int c), some (.int (nI j)), o4] [] M := by
  obtain ⟨hB, hn, h10, hh, hlt⟩ := hv
  intro k
  induction k with
  | zero =>
    intro j hj b c o4
    have : j = n := by omega
    subst this
    rw [gS_bestSpare_7]
    simp only [gS_bestSpare_0, gS_bestSpare_2, gS_bestSpare_3, gS_bestSpare_4, gS_bestSpare_5, gS_bestSpare_6, gS_bestSpare_8, gS_bestSpare_9, gS_bestSpare_12, gS_bestSpare_15, gS_bestSpare_16, gS_bestSpare_19, gS_bestSpare_20, gS_bestSpare_21, gS_bestSpare_22, gS_bestSpare_23, gS_bestSpare_26, gS_bestSpare_29, gS_bestSpare_30, gS_bestSpare_31, gS_bestSpare_34, gS_bestSpare_35, gS_bestSpare_36, gS_bestSpare_37, gS_bestSpare_38, gS_bestSpare_41, gS_bestSpare_44, gS_bestSpare_46, gS_bestSpare_48, gS_bestSpare_49, gS_bestSpare_52, gS_bestSpare_53, gS_bestSpare_54, gS_bestSpare_56, gS_bestSpare_57, gS_bestSpare_60, gS_bestSpare_63, gS_bestSpare_64, ↓reduceIte, Bool.false_eq_true, Bool.true_eq_false, qk_i, qk_r, qk_n, Option.toList_some, Option.toList_none, List.cons_append, List.nil_append, true_and, and_true, true_or, or_true, eq_self, if_true, if_false, q_b1, q_b2, c_A, c_R, c_O, c_M, c_H1, c_H8, c_H15, hB, hn, Int32.le_refl]
    exact hQ _
  | succ k ih =>
    intro j hj b c o4
    have h1 : ¬ nI n ≤ nI j := nI_ge (by omega) (by omega)
    rw [gS_bestSpare_7]
    simp only [gS_bestSpare_0, gS_bestSpare_2, gS_bestSpare_3, gS_bestSpare_4, gS_bestSpare_5, gS_bestSpare_6, gS_bestSpare_8, gS_bestSpare_9, gS_bestSpare_12, gS_bestSpare_15, gS_bestSpare_16, gS_bestSpare_19, gS_bestSpare_20, gS_bestSpare_21, gS_bestSpare_22, gS_bestSpare_23, gS_bestSpare_26, gS_bestSpare_29, gS_bestSpare_30, gS_bestSpare_31, gS_bestSpare_34, gS_bestSpare_35, gS_bestSpare_36, gS_bestSpare_37, gS_bestSpare_38, gS_bestSpare_41, gS_bestSpare_44, gS_bestSpare_46, gS_bestSpare_48, gS_bestSpare_49, gS_bestSpare_52, gS_bestSpare_53, gS_bestSpare_54, gS_bestSpare_56, gS_bestSpare_57, gS_bestSpare_60, gS_bestSpare_63, gS_bestSpare_64, ↓reduceIte, Bool.false_eq_true, Bool.true_eq_false, qk_i, qk_r, qk_n, Option.toList_some, Option.toList_none, List.cons_append, List.nil_append, true_and, and_true, true_or, or_true, eq_self, if_true, if_false, q_b1, q_b2, c_A, c_R, c_O, c_M, c_H1, c_H8, c_H15, hB, hn, h1, x_H_reachFrom hB hn h10, x_I_bitCount, nI_1]
    repeat' split
    all_goals exact ih (j + 1) (by omega) _ _ _
theorem w_S_bestSpare {Q : q_R} {M : q_M} {B n h : Nat} (hv : v_h M B n h) (hQ : ∀ x, Q (some (.int x)) M) : q_Run 44 [.ref B] M Q := by
  rw [e_S_bestSpare]
  simp only [gS_bestSpare_0, gS_bestSpare_2, gS_bestSpare_3, gS_bestSpare_4, gS_bestSpare_5, gS_bestSpare_6, gS_bestSpare_8, gS_bestSpare_9, gS_bestSpare_12, gS_bestSpare_15, gS_bestSpare_16, gS_bestSpare_19, gS_bestSpare_20, gS_bestSpare_21, gS_bestSpare_22, gS_bestSpare_23, gS_bestSpare_26, gS_bestSpare_29, gS_bestSpare_30, gS_bestSpare_31, gS_bestSpare_34, gS_bestSpare_35, gS_bestSpare_36, gS_bestSpare_37, gS_bestSpare_38, gS_bestSpare_41, gS_bestSpare_44, gS_bestSpare_46, gS_bestSpare_48, gS_bestSpare_49, gS_bestSpare_52, gS_bestSpare_53, gS_bestSpare_54, gS_bestSpare_56, gS_bestSpare_57, gS_bestSpare_60, gS_bestSpare_63, gS_bestSpare_64, ↓reduceIte, Bool.false_eq_true, Bool.true_eq_false, qk_i, qk_r, qk_n, Option.toList_some, Option.toList_none, List.cons_append, List.nil_append, true_and, and_true, true_or, or_true, eq_self, if_true, if_false, q_b1, q_b2, c_A, c_R, c_O, c_M, c_H1, c_H8, c_H15]
  exact w_S_bestSpare_l hv hQ n 0 (by omega) _ _ _
theorem w_S_ringedIn_l2 {Q : q_R} {M : q_M} {B n h : Nat} {br on bg : Int32} (hv : v_h M B n h) (hQ : ∀ (ac o5 : Int32) (o6 : Option Value), q_g 50 none Q 116 [some (.ref B), some (.int br), some (.int ac), some (.int on), some (.int bg), some (.int o5), o6] [] M) : ∀ k j, j + k = n → ∀ (ac : Int32) (o6 : Option Value),
    q_g 50 none Q 53 [some (.ref B), some (.int br), some (.int ac), some (.int on), some (.int bg), some (.int (nI j)), o6] [] M := by
  obtain ⟨hB, hn, h10, hh, hlt⟩ := hv
  intro k
  induction k with
  | zero =>
    intro j hj ac o6
    have : j = n := by omega
    subst this
    rw [gS_ringedIn_53]
    simp only [gS_ringedIn_0, gS_ringedIn_1, gS_ringedIn_4, gS_ringedIn_5, gS_ringedIn_6, gS_ringedIn_7, gS_ringedIn_8, gS_ringedIn_9, gS_ringedIn_10, gS_ringedIn_11, gS_ringedIn_14, gS_ringedIn_17, gS_ringedIn_18, gS_ringedIn_19, gS_ringedIn_20, gS_ringedIn_21, gS_ringedIn_22, gS_ringedIn_25, gS_ringedIn_28, gS_ringedIn_29, gS_ringedIn_30, gS_ringedIn_33, gS_ringedIn_34, gS_ringedIn_35, gS_ringedIn_36, gS_ringedIn_37, gS_ringedIn_40, gS_ringedIn_41, gS_ringedIn_42, gS_ringedIn_43, gS_ringedIn_44, gS_ringedIn_45, gS_ringedIn_46, gS_ringedIn_47, gS_ringedIn_48, gS_ringedIn_50, gS_ringedIn_51, gS_ringedIn_55, gS_ringedIn_56, gS_ringedIn_59, gS_ringedIn_62, gS_ringedIn_64, gS_ringedIn_66, gS_ringedIn_67, gS_ringedIn_68, gS_ringedIn_69, gS_ringedIn_72, gS_ringedIn_73, gS_ringedIn_76, gS_ringedIn_77, gS_ringedIn_79, gS_ringedIn_81, gS_ringedIn_84, gS_ringedIn_85, gS_ringedIn_86, gS_ringedIn_89, gS_ringedIn_90, gS_ringedIn_92, gS_ringedIn_93, gS_ringedIn_94, gS_ringedIn_97, gS_ringedIn_98, gS_ringedIn_99, gS_ringedIn_100, gS_ringedIn_101, gS_ringedIn_104, gS_ringedIn_105, gS_ringedIn_106, gS_ringedIn_107, gS_ringedIn_108, gS_ringedIn_109, gS_ringedIn_110, gS_ringedIn_113, gS_ringedIn_119, gS_ringedIn_122, gS_ringedIn_123, ↓reduceIte, Bool.false_eq_true, Bool.true_eq_false, qk_i, qk_r, qk_n, Option.toList_some, Option.toList_none, List.cons_append, List.nil_append, true_and, and_true, true_or, or_true, eq_self, if_true, if_false, q_b1, q_b2, c_A, c_R, c_O, c_M, c_H1, c_H8, c_H15, hB, hn, Int32.le_refl]
    exact hQ _ _ _
  | succ k ih =>
    intro j hj ac o6
    have h1 : ¬ nI n ≤ nI j := nI_ge (by omega) (by omega)
    rw [gS_ringedIn_53]
    simp only [gS_ringedIn_0, gS_ringedIn_1, gS_ringedIn_4, gS_ringedIn_5, gS_ringedIn_6, gS_ringedIn_7, gS_ringedIn_8, gS_ringedIn_9, gS_ringedIn_10, gS_ringedIn_11, gS_ringedIn_14, gS_ringedIn_17, gS_ringedIn_18, gS_ringedIn_19, gS_ringedIn_20, gS_ringedIn_21, gS_ringedIn_22, gS_ringedIn_25, gS_ringedIn_28, gS_ringedIn_29, gS_ringedIn_30, gS_ringedIn_33, gS_ringedIn_34, gS_ringedIn_35, gS_ringedIn_36, gS_ringedIn_37, gS_ringedIn_40, gS_ringedIn_41, gS_ringedIn_42, gS_ringedIn_43, gS_ringedIn_44, gS_ringedIn_45, gS_ringedIn_46, gS_ringedIn_47, gS_ringedIn_48, gS_ringedIn_50, gS_ringedIn_51, gS_ringedIn_55, gS_ringedIn_56, gS_ringedIn_59, gS_ringedIn_62, gS_ringedIn_64, gS_ringedIn_66, gS_ringedIn_67, gS_ringedIn_68, gS_ringedIn_69, gS_ringedIn_72, gS_ringedIn_73, gS_ringedIn_76, gS_ringedIn_77, gS_ringedIn_79, gS_ringedIn_81, gS_ringedIn_84, gS_ringedIn_85, gS_ringedIn_86, gS_ringedIn_89, gS_ringedIn_90, gS_ringedIn_92, gS_ringedIn_93, gS_ringedIn_94, gS_ringedIn_97, gS_ringedIn_98, gS_ringedIn_99, gS_ringedIn_100, gS_ringedIn_101, gS_ringedIn_104, gS_ringedIn_105, gS_ringedIn_106, gS_ringedIn_107, gS_ringedIn_108, gS_ringedIn_109, gS_ringedIn_110, gS_ringedIn_113, gS_ringedIn_119, gS_ringedIn_122, gS_ringedIn_123, ↓reduceIte, Bool.false_eq_true, Bool.true_eq_false, qk_i, qk_r, qk_n, Option.toList_some, Option.toList_none, List.cons_append, List.nil_append, true_and, and_true, true_or, or_true, eq_self, if_true, if_false, q_b1, q_b2, c_A, c_R, c_O, c_M, c_H1, c_H8, c_H15, hB, hn, h1, x_H_reachFrom hB hn h10, nI_1]
    repeat' split
    all_goals exact ih (j + 1) (by omega) _ _
theorem w_S_ringedIn_l {Q : q_R} {M : q_M} {B n h : Nat} {br : Int32} (hv : v_h M B n h) (hQ : ∀ x, Q (some (.int x)) M) : ∀ k j, j + k = n → ∀ (ac : Int32) (o4 o5 o6 : Option Value),
    q_g 50 none Q 9 [some (.ref B), some (.int br), some (.int ac), some (.int (nI j)), o4, o5, o6] [] M := by
  have hv0 := hv
  obtain ⟨hB, hn, h10, hh, hlt⟩ := hv
  intro k
  induction k with
  | zero =>
    intro j hj ac o4 o5 o6
    have : j = n := by omega
    subst this
    rw [gS_ringedIn_9]
    simp only [gS_ringedIn_0, gS_ringedIn_1, gS_ringedIn_4, gS_ringedIn_5, gS_ringedIn_6, gS_ringedIn_7, gS_ringedIn_8, gS_ringedIn_10, gS_ringedIn_11, gS_ringedIn_14, gS_ringedIn_17, gS_ringedIn_18, gS_ringedIn_19, gS_ringedIn_20, gS_ringedIn_21, gS_ringedIn_22, gS_ringedIn_25, gS_ringedIn_28, gS_ringedIn_29, gS_ringedIn_30, gS_ringedIn_33, gS_ringedIn_34, gS_ringedIn_35, gS_ringedIn_36, gS_ringedIn_37, gS_ringedIn_40, gS_ringedIn_41, gS_ringedIn_42, gS_ringedIn_43, gS_ringedIn_44, gS_ringedIn_45, gS_ringedIn_46, gS_ringedIn_47, gS_ringedIn_48, gS_ringedIn_50, gS_ringedIn_51, gS_ringedIn_53, gS_ringedIn_55, gS_ringedIn_56, gS_ringedIn_59, gS_ringedIn_62, gS_ringedIn_64, gS_ringedIn_66, gS_ringedIn_67, gS_ringedIn_68, gS_ringedIn_69, gS_ringedIn_72, gS_ringedIn_73, gS_ringedIn_76, gS_ringedIn_77, gS_ringedIn_79, gS_ringedIn_81, gS_ringedIn_84, gS_ringedIn_85, gS_ringedIn_86, gS_ringedIn_89, gS_ringedIn_90, gS_ringedIn_92, gS_ringedIn_93, gS_ringedIn_94, gS_ringedIn_97, gS_ringedIn_98, gS_ringedIn_99, gS_ringedIn_100, gS_ringedIn_101, gS_ringedIn_104, gS_ringedIn_105, gS_ringedIn_106, gS_ringedIn_107, gS_ringedIn_108, gS_ringedIn_109, gS_ringedIn_110, gS_ringedIn_113, gS_ringedIn_116, gS_ringedIn_119, gS_ringedIn_122, gS_ringedIn_123, ↓reduceIte, Bool.false_eq_true, Bool.true_eq_false, qk_i, qk_r, qk_n, Option.toList_some, Option.toList_none, List.cons_append, List.nil_append, true_and, and_true, true_or, or_true, eq_self, if_true, if_false, q_b1, q_b2, c_A, c_R, c_O, c_M, c_H1, c_H8, c_H15, hB, hn, Int32.le_refl]
    exact hQ _
  | succ k ih =>
    intro j hj ac o4 o5 o6
    have h1 : ¬ nI n ≤ nI j := nI_ge (by omega) (by omega)
    have e116 : ∀ (ac : Int32) (o4 o5 o6 : Option Value), q_g 50 none Q 116 [some (.ref B), some (.int br), some (.int ac), some (.int (nI j)), o4, o5, o6] [] M := by
      intro ac o4 o5 o6
      simp only [gS_ringedIn_0, gS_ringedIn_1, gS_ringedIn_4, gS_ringedIn_5, gS_ringedIn_6, gS_ringedIn_7, gS_ringedIn_8, gS_ringedIn_10, gS_ringedIn_11, gS_ringedIn_14, gS_ringedIn_17, gS_ringedIn_18, gS_ringedIn_19, gS_ringedIn_20, gS_ringedIn_21, gS_ringedIn_22, gS_ringedIn_25, gS_ringedIn_28, gS_ringedIn_29, gS_ringedIn_30, gS_ringedIn_33, gS_ringedIn_34, gS_ringedIn_35, gS_ringedIn_36, gS_ringedIn_37, gS_ringedIn_40, gS_ringedIn_41, gS_ringedIn_42, gS_ringedIn_43, gS_ringedIn_44, gS_ringedIn_45, gS_ringedIn_46, gS_ringedIn_47, gS_ringedIn_48, gS_ringedIn_50, gS_ringedIn_51, gS_ringedIn_53, gS_ringedIn_55, gS_ringedIn_56, gS_ringedIn_59, gS_ringedIn_62, gS_ringedIn_64, gS_ringedIn_66, gS_ringedIn_67, gS_ringedIn_68, gS_ringedIn_69, gS_ringedIn_72, gS_ringedIn_73, gS_ringedIn_76, gS_ringedIn_77, gS_ringedIn_79, gS_ringedIn_81, gS_ringedIn_84, gS_ringedIn_85, gS_ringedIn_86, gS_ringedIn_89, gS_ringedIn_90, gS_ringedIn_92, gS_ringedIn_93, gS_ringedIn_94, gS_ringedIn_97, gS_ringedIn_98, gS_ringedIn_99, gS_ringedIn_100, gS_ringedIn_101, gS_ringedIn_104, gS_ringedIn_105, gS_ringedIn_106, gS_ringedIn_107, gS_ringedIn_108, gS_ringedIn_109, gS_ringedIn_110, gS_ringedIn_113, gS_ringedIn_116, gS_ringedIn_119, gS_ringedIn_122, gS_ringedIn_123, ↓reduceIte, Bool.false_eq_true, Bool.true_eq_false, qk_i, qk_r, qk_n, Option.toList_some, Option.toList_none, List.cons_append, List.nil_append, true_and, and_true, true_or, or_true, eq_self, if_true, if_false, q_b1, q_b2, c_A, c_R, c_O, c_M, c_H1, c_H8, c_H15, nI_1]
      exact ih (j + 1) (by omega) _ _ _ _
    rw [gS_ringedIn_9]
    simp only [gS_ringedIn_0, gS_ringedIn_1, gS_ringedIn_4, gS_ringedIn_5, gS_ringedIn_6, gS_ringedIn_7, gS_ringedIn_8, gS_ringedIn_10, gS_ringedIn_11, gS_ringedIn_14, gS_ringedIn_17, gS_ringedIn_18, gS_ringedIn_19, gS_ringedIn_20, gS_ringedIn_21, gS_ringedIn_22, gS_ringedIn_25, gS_ringedIn_28, gS_ringedIn_29, gS_ringedIn_30, gS_ringedIn_33, gS_ringedIn_34, gS_ringedIn_35, gS_ringedIn_36, gS_ringedIn_37, gS_ringedIn_40, gS_ringedIn_41, gS_ringedIn_42, gS_ringedIn_43, gS_ringedIn_44, gS_ringedIn_45, gS_ringedIn_46, gS_ringedIn_47, gS_ringedIn_48, gS_ringedIn_50, gS_ringedIn_51, gS_ringedIn_55, gS_ringedIn_56, gS_ringedIn_59, gS_ringedIn_62, gS_ringedIn_64, gS_ringedIn_66, gS_ringedIn_67, gS_ringedIn_68, gS_ringedIn_69, gS_ringedIn_72, gS_ringedIn_73, gS_ringedIn_76, gS_ringedIn_77, gS_ringedIn_79, gS_ringedIn_81, gS_ringedIn_84, gS_ringedIn_85, gS_ringedIn_86, gS_ringedIn_89, gS_ringedIn_90, gS_ringedIn_92, gS_ringedIn_93, gS_ringedIn_94, gS_ringedIn_97, gS_ringedIn_98, gS_ringedIn_99, gS_ringedIn_100, gS_ringedIn_101, gS_ringedIn_104, gS_ringedIn_105, gS_ringedIn_106, gS_ringedIn_107, gS_ringedIn_108, gS_ringedIn_109, gS_ringedIn_110, gS_ringedIn_113, gS_ringedIn_119, gS_ringedIn_122, gS_ringedIn_123, ↓reduceIte, Bool.false_eq_true, Bool.true_eq_false, qk_i, qk_r, qk_n, Option.toList_some, Option.toList_none, List.cons_append, List.nil_append, true_and, and_true, true_or, or_true, eq_self, if_true, if_false, q_b1, q_b2, c_A, c_R, c_O, c_M, c_H1, c_H8, c_H15, hB, hn, h1, x_H_reachFrom hB hn h10]
    split
    · exact w_S_ringedIn_l2 hv0 (fun ac o5 o6 => e116 ac _ _ _) n 0 (by omega) _ _
    · exact e116 _ _ _ _
theorem w_S_ringedIn {Q : q_R} {M : q_M} {B n h : Nat} (hv : v_h M B n h) (hQ : ∀ x, Q (some (.int x)) M) : q_Run 50 [.ref B] M Q := by
  rw [e_S_ringedIn]
  simp only [gS_ringedIn_0, gS_ringedIn_1, gS_ringedIn_4, gS_ringedIn_5, gS_ringedIn_6, gS_ringedIn_7, gS_ringedIn_8, gS_ringedIn_10, gS_ringedIn_11, gS_ringedIn_14, gS_ringedIn_17, gS_ringedIn_18, gS_ringedIn_19, gS_ringedIn_20, gS_ringedIn_21, gS_ringedIn_22, gS_ringedIn_25, gS_ringedIn_28, gS_ringedIn_29, gS_ringedIn_30, gS_ringedIn_33, gS_ringedIn_34, gS_ringedIn_35, gS_ringedIn_36, gS_ringedIn_37, gS_ringedIn_40, gS_ringedIn_41, gS_ringedIn_42, gS_ringedIn_43, gS_ringedIn_44, gS_ringedIn_45, gS_ringedIn_46, gS_ringedIn_47, gS_ringedIn_48, gS_ringedIn_50, gS_ringedIn_51, gS_ringedIn_53, gS_ringedIn_55, gS_ringedIn_56, gS_ringedIn_59, gS_ringedIn_62, gS_ringedIn_64, gS_ringedIn_66, gS_ringedIn_67, gS_ringedIn_68, gS_ringedIn_69, gS_ringedIn_72, gS_ringedIn_73, gS_ringedIn_76, gS_ringedIn_77, gS_ringedIn_79, gS_ringedIn_81, gS_ringedIn_84, gS_ringedIn_85, gS_ringedIn_86, gS_ringedIn_89, gS_ringedIn_90, gS_ringedIn_92, gS_ringedIn_93, gS_ringedIn_94, gS_ringedIn_97, gS_ringedIn_98, gS_ringedIn_99, gS_ringedIn_100, gS_ringedIn_101, gS_ringedIn_104, gS_ringedIn_105, gS_ringedIn_106, gS_ringedIn_107, gS_ringedIn_108, gS_ringedIn_109, gS_ringedIn_110, gS_ringedIn_113, gS_ringedIn_116, gS_ringedIn_119, gS_ringedIn_122, gS_ringedIn_123, ↓reduceIte, Bool.false_eq_true, Bool.true_eq_false, qk_i, qk_r, qk_n, Option.toList_some, Option.toList_none, List.cons_append, List.nil_append, true_and, and_true, true_or, or_true, eq_self, if_true, if_false, q_b1, q_b2, c_A, c_R, c_O, c_M, c_H1, c_H8, c_H15, hv.1, x_H_barred hv.1 hv.2.1 hv.2.2.1]
  exact w_S_ringedIn_l hv hQ n 0 (by omega) _ _ _ _
theorem w_S_cheapestBegged_l {Q : q_R} {M : q_M} {B n h b : Nat} {al : Int32} (hv : v_h M B n h) (hb : b < 1024) (hQ : ∀ x, Q (some (.int x)) M) : ∀ k j, j + k = b → ∀ (x3 x4 : Int32) (o6 o7 : Option Value),
    q_g 45 none Q 22 [some (.ref B), some (.int al), some (.int (nI b)), some (.int x3), some (.int x4), some (.int (nI j)), o6, o7] [] M := by
  obtain ⟨hB, hn, h10, hh, hlt⟩ := hv
  intro k
  induction k with
  | zero =>
    intro j hj x3 x4 o6 o7
    have : j = b := by omega
    subst this
    rw [gS_cheapestBegged_22]
    simp only [gS_cheapestBegged_0, gS_cheapestBegged_1, gS_cheapestBegged_4, gS_cheapestBegged_5, gS_cheapestBegged_6, gS_cheapestBegged_9, gS_cheapestBegged_10, gS_cheapestBegged_11, gS_cheapestBegged_12, gS_cheapestBegged_13, gS_cheapestBegged_14, gS_cheapestBegged_17, gS_cheapestBegged_19, gS_cheapestBegged_20, gS_cheapestBegged_24, gS_cheapestBegged_25, gS_cheapestBegged_28, gS_cheapestBegged_30, gS_cheapestBegged_31, gS_cheapestBegged_32, gS_cheapestBegged_33, gS_cheapestBegged_34, gS_cheapestBegged_37, gS_cheapestBegged_40, gS_cheapestBegged_41, gS_cheapestBegged_43, gS_cheapestBegged_46, gS_cheapestBegged_48, gS_cheapestBegged_50, gS_cheapestBegged_52, gS_cheapestBegged_55, gS_cheapestBegged_57, gS_cheapestBegged_59, gS_cheapestBegged_62, gS_cheapestBegged_64, gS_cheapestBegged_65, gS_cheapestBegged_68, gS_cheapestBegged_69, gS_cheapestBegged_72, gS_cheapestBegged_73, gS_cheapestBegged_75, gS_cheapestBegged_77, gS_cheapestBegged_80, gS_cheapestBegged_81, gS_cheapestBegged_82, gS_cheapestBegged_85, gS_cheapestBegged_87, gS_cheapestBegged_88, gS_cheapestBegged_91, gS_cheapestBegged_92, gS_cheapestBegged_95, gS_cheapestBegged_97, gS_cheapestBegged_98, gS_cheapestBegged_100, gS_cheapestBegged_102, gS_cheapestBegged_105, gS_cheapestBegged_108, gS_cheapestBegged_109, ↓reduceIte, Bool.false_eq_true, Bool.true_eq_false, qk_i, qk_r, qk_n, Option.toList_some, Option.toList_none, List.cons_append, List.nil_append, true_and, and_true, true_or, or_true, eq_self, if_true, if_false, q_b1, q_b2, c_A, c_R, c_O, c_M, c_H1, c_H8, c_H15, Int32.le_refl]
    exact hQ _
  | succ k ih =>
    intro j hj x3 x4 o6 o7
    have h1 : ¬ nI b ≤ nI j := nI_ge (by omega) (by omega)
    have e102 : ∀ (x3 x4 : Int32) (o6 o7 : Option Value), q_g 45 none Q 102 [some (.ref B), some (.int al), some (.int (nI b)), some (.int x3), some (.int x4), some (.int (nI j)), o6, o7] [] M := by
      intro x3 x4 o6 o7
      simp only [gS_cheapestBegged_0, gS_cheapestBegged_1, gS_cheapestBegged_4, gS_cheapestBegged_5, gS_cheapestBegged_6, gS_cheapestBegged_9, gS_cheapestBegged_10, gS_cheapestBegged_11, gS_cheapestBegged_12, gS_cheapestBegged_13, gS_cheapestBegged_14, gS_cheapestBegged_17, gS_cheapestBegged_19, gS_cheapestBegged_20, gS_cheapestBegged_24, gS_cheapestBegged_25, gS_cheapestBegged_28, gS_cheapestBegged_30, gS_cheapestBegged_31, gS_cheapestBegged_32, gS_cheapestBegged_33, gS_cheapestBegged_34, gS_cheapestBegged_37, gS_cheapestBegged_40, gS_cheapestBegged_41, gS_cheapestBegged_43, gS_cheapestBegged_46, gS_cheapestBegged_48, gS_cheapestBegged_50, gS_cheapestBegged_52, gS_cheapestBegged_55, gS_cheapestBegged_57, gS_cheapestBegged_59, gS_cheapestBegged_62, gS_cheapestBegged_64, gS_cheapestBegged_65, gS_cheapestBegged_68, gS_cheapestBegged_69, gS_cheapestBegged_72, gS_cheapestBegged_73, gS_cheapestBegged_75, gS_cheapestBegged_77, gS_cheapestBegged_80, gS_cheapestBegged_81, gS_cheapestBegged_82, gS_cheapestBegged_85, gS_cheapestBegged_87, gS_cheapestBegged_88, gS_cheapestBegged_91, gS_cheapestBegged_92, gS_cheapestBegged_95, gS_cheapestBegged_97, gS_cheapestBegged_98, gS_cheapestBegged_100, gS_cheapestBegged_102, gS_cheapestBegged_105, gS_cheapestBegged_108, gS_cheapestBegged_109, ↓reduceIte, Bool.false_eq_true, Bool.true_eq_false, qk_i, qk_r, qk_n, Option.toList_some, Option.toList_none, List.cons_append, List.nil_append, true_and, and_true, true_or, or_true, eq_self, if_true, if_false, q_b1, q_b2, c_A, c_R, c_O, c_M, c_H1, c_H8, c_H15, nI_1]
      exact ih (j + 1) (by omega) _ _ _ _
    rw [gS_cheapestBegged_22]
    simp only [gS_cheapestBegged_0, gS_cheapestBegged_1, gS_cheapestBegged_4, gS_cheapestBegged_5, gS_cheapestBegged_6, gS_cheapestBegged_9, gS_cheapestBegged_10, gS_cheapestBegged_11, gS_cheapestBegged_12, gS_cheapestBegged_13, gS_cheapestBegged_14, gS_cheapestBegged_17, gS_cheapestBegged_19, gS_cheapestBegged_20, gS_cheapestBegged_24, gS_cheapestBegged_25, gS_cheapestBegged_28, gS_cheapestBegged_30, gS_cheapestBegged_31, gS_cheapestBegged_32, gS_cheapestBegged_33, gS_cheapestBegged_34, gS_cheapestBegged_37, gS_cheapestBegged_40, gS_cheapestBegged_41, gS_cheapestBegged_43, gS_cheapestBegged_46, gS_cheapestBegged_48, gS_cheapestBegged_50, gS_cheapestBegged_52, gS_cheapestBegged_55, gS_cheapestBegged_57, gS_cheapestBegged_59, gS_cheapestBegged_62, gS_cheapestBegged_64, gS_cheapestBegged_65, gS_cheapestBegged_68, gS_cheapestBegged_69, gS_cheapestBegged_72, gS_cheapestBegged_75, gS_cheapestBegged_77, gS_cheapestBegged_80, gS_cheapestBegged_81, gS_cheapestBegged_82, gS_cheapestBegged_85, gS_cheapestBegged_87, gS_cheapestBegged_88, gS_cheapestBegged_91, gS_cheapestBegged_92, gS_cheapestBegged_95, gS_cheapestBegged_97, gS_cheapestBegged_98, gS_cheapestBegged_100, gS_cheapestBegged_105, gS_cheapestBegged_108, gS_cheapestBegged_109, ↓reduceIte, Bool.false_eq_true, Bool.true_eq_false, qk_i, qk_r, qk_n, Option.toList_some, Option.toList_none, List.cons_append, List.nil_append, true_and, and_true, true_or, or_true, eq_self, if_true, if_false, q_b1, q_b2, c_A, c_R, c_O, c_M, c_H1, c_H8, c_H15, hB, h1, x_H_costOf hB hn h10, q_jn]
    simp only [gS_cheapestBegged_0, gS_cheapestBegged_1, gS_cheapestBegged_4, gS_cheapestBegged_5, gS_cheapestBegged_6, gS_cheapestBegged_9, gS_cheapestBegged_10, gS_cheapestBegged_11, gS_cheapestBegged_12, gS_cheapestBegged_13, gS_cheapestBegged_14, gS_cheapestBegged_17, gS_cheapestBegged_19, gS_cheapestBegged_20, gS_cheapestBegged_24, gS_cheapestBegged_25, gS_cheapestBegged_28, gS_cheapestBegged_30, gS_cheapestBegged_31, gS_cheapestBegged_32, gS_cheapestBegged_33, gS_cheapestBegged_34, gS_cheapestBegged_37, gS_cheapestBegged_40, gS_cheapestBegged_41, gS_cheapestBegged_43, gS_cheapestBegged_46, gS_cheapestBegged_48, gS_cheapestBegged_50, gS_cheapestBegged_52, gS_cheapestBegged_55, gS_cheapestBegged_57, gS_cheapestBegged_59, gS_cheapestBegged_62, gS_cheapestBegged_64, gS_cheapestBegged_65, gS_cheapestBegged_68, gS_cheapestBegged_69, gS_cheapestBegged_72, gS_cheapestBegged_73, gS_cheapestBegged_75, gS_cheapestBegged_77, gS_cheapestBegged_80, gS_cheapestBegged_81, gS_cheapestBegged_82, gS_cheapestBegged_85, gS_cheapestBegged_87, gS_cheapestBegged_88, gS_cheapestBegged_91, gS_cheapestBegged_92, gS_cheapestBegged_95, gS_cheapestBegged_97, gS_cheapestBegged_98, gS_cheapestBegged_100, gS_cheapestBegged_105, gS_cheapestBegged_108, gS_cheapestBegged_109, ↓reduceIte, Bool.false_eq_true, Bool.true_eq_false, qk_i, qk_r, qk_n, Option.toList_some, Option.toList_none, List.cons_append, List.nil_append, true_and, and_true, true_or, or_true, eq_self, if_true, if_false, q_b1, q_b2, c_A, c_R, c_O, c_M, c_H1, c_H8, c_H15, hB, x_H_reachFrom hB hn h10]
    repeat' split
    all_goals exact e102 _ _ _ _
theorem w_S_cheapestBegged {Q : q_R} {M : q_M} {B n h : Nat} (hv : v_h M B n h) (hQ : ∀ x, Q (some (.int x)) M) : q_Run 45 [.ref B] M Q := by
  have h2 := two_pow_le hv.2.2.1
  obtain ⟨b, hb, eb⟩ := and_nI (a := 2 ^ n - 1) (s_rw M B n (s_all M B) 10 (M B 7) ^^^ (-1))
  have eb2 : s_all M B &&& (s_rw M B n (s_all M B) 10 (M B 7) ^^^ (-1)) = nI b := by
    have e := hv.all
    rw [← eb, ← e]
  rw [e_S_cheapestBegged]
  simp only [gS_cheapestBegged_0, gS_cheapestBegged_1, gS_cheapestBegged_4, gS_cheapestBegged_5, gS_cheapestBegged_6, gS_cheapestBegged_9, gS_cheapestBegged_10, gS_cheapestBegged_11, gS_cheapestBegged_12, gS_cheapestBegged_13, gS_cheapestBegged_14, gS_cheapestBegged_17, gS_cheapestBegged_19, gS_cheapestBegged_20, gS_cheapestBegged_24, gS_cheapestBegged_25, gS_cheapestBegged_28, gS_cheapestBegged_30, gS_cheapestBegged_31, gS_cheapestBegged_32, gS_cheapestBegged_33, gS_cheapestBegged_34, gS_cheapestBegged_37, gS_cheapestBegged_40, gS_cheapestBegged_41, gS_cheapestBegged_43, gS_cheapestBegged_46, gS_cheapestBegged_48, gS_cheapestBegged_50, gS_cheapestBegged_52, gS_cheapestBegged_55, gS_cheapestBegged_57, gS_cheapestBegged_59, gS_cheapestBegged_62, gS_cheapestBegged_64, gS_cheapestBegged_65, gS_cheapestBegged_68, gS_cheapestBegged_69, gS_cheapestBegged_72, gS_cheapestBegged_73, gS_cheapestBegged_75, gS_cheapestBegged_77, gS_cheapestBegged_80, gS_cheapestBegged_81, gS_cheapestBegged_82, gS_cheapestBegged_85, gS_cheapestBegged_87, gS_cheapestBegged_88, gS_cheapestBegged_91, gS_cheapestBegged_92, gS_cheapestBegged_95, gS_cheapestBegged_97, gS_cheapestBegged_98, gS_cheapestBegged_100, gS_cheapestBegged_102, gS_cheapestBegged_105, gS_cheapestBegged_108, gS_cheapestBegged_109, ↓reduceIte, Bool.false_eq_true, Bool.true_eq_false, qk_i, qk_r, qk_n, Option.toList_some, Option.toList_none, List.cons_append, List.nil_append, true_and, and_true, true_or, or_true, eq_self, if_true, if_false, q_b1, q_b2, c_A, c_R, c_O, c_M, c_H1, c_H8, c_H15, hv.1, x_H_everything hv.1, x_H_barred hv.1 hv.2.1 hv.2.2.1, x_H_costOf hv.1 hv.2.1 hv.2.2.1, eb2]
  exact w_S_cheapestBegged_l hv (by omega) hQ b 0 (by omega) _ _ _ _
theorem w_S_fewestNails_l2 {Q : q_R} {M : q_M} {B n h a : Nat} {sz : Int32} (hv : v_h M B n h) (ha : a < 1024) (hQ : ∀ x, Q (some (.int x)) M) (hc : ∀ o : Int32, q_g 46 none Q 47 [some (.ref B), some (.int (nI a)), some (.int sz), some (.int o)] [] M) : ∀ k j, j + k = a →
    q_g 46 none Q 17 [some (.ref B), some (.int (nI a)), some (.int sz), some (.int (nI j))] [] M := by
  obtain ⟨hB, hn, h10, hh, hlt⟩ := hv
  intro k
  induction k with
  | zero =>
    intro j hj
    have : j = a := by omega
    subst this
    rw [gS_fewestNails_17]
    simp only [gS_fewestNails_0, gS_fewestNails_1, gS_fewestNails_4, gS_fewestNails_5, gS_fewestNails_6, gS_fewestNails_7, gS_fewestNails_8, gS_fewestNails_9, gS_fewestNails_12, gS_fewestNails_15, gS_fewestNails_16, gS_fewestNails_18, gS_fewestNails_19, gS_fewestNails_22, gS_fewestNails_23, gS_fewestNails_26, gS_fewestNails_27, gS_fewestNails_30, gS_fewestNails_31, gS_fewestNails_32, gS_fewestNails_35, gS_fewestNails_36, gS_fewestNails_39, gS_fewestNails_40, gS_fewestNails_41, gS_fewestNails_44, gS_fewestNails_50, gS_fewestNails_53, gS_fewestNails_54, ↓reduceIte, Bool.false_eq_true, Bool.true_eq_false, qk_i, qk_r, qk_n, Option.toList_some, Option.toList_none, List.cons_append, List.nil_append, true_and, and_true, true_or, or_true, eq_self, if_true, if_false, q_b1, q_b2, c_A, c_R, c_O, c_M, c_H1, c_H8, c_H15, Int32.le_refl]
    exact hc _
  | succ k ih =>
    intro j hj
    have h1 : ¬ nI a ≤ nI j := nI_ge (by omega) (by omega)
    rw [gS_fewestNails_17]
    simp only [gS_fewestNails_0, gS_fewestNails_1, gS_fewestNails_4, gS_fewestNails_5, gS_fewestNails_6, gS_fewestNails_7, gS_fewestNails_8, gS_fewestNails_9, gS_fewestNails_12, gS_fewestNails_15, gS_fewestNails_16, gS_fewestNails_18, gS_fewestNails_19, gS_fewestNails_22, gS_fewestNails_23, gS_fewestNails_26, gS_fewestNails_27, gS_fewestNails_30, gS_fewestNails_31, gS_fewestNails_32, gS_fewestNails_35, gS_fewestNails_36, gS_fewestNails_39, gS_fewestNails_40, gS_fewestNails_41, gS_fewestNails_44, gS_fewestNails_50, gS_fewestNails_53, gS_fewestNails_54, ↓reduceIte, Bool.false_eq_true, Bool.true_eq_false, qk_i, qk_r, qk_n, Option.toList_some, Option.toList_none, List.cons_append, List.nil_append, true_and, and_true, true_or, or_true, eq_self, if_true, if_false, q_b1, q_b2, c_A, c_R, c_O, c_M, c_H1, c_H8, c_H15, hB, h1, x_I_bitCount, x_H_reachFrom hB hn h10, nI_1]
    repeat' split
    all_goals first
      | exact ih (j + 1) (by omega)
      | exact hQ _
theorem w_S_fewestNails_l {Q : q_R} {M : q_M} {B n h a : Nat} (hv : v_h M B n h) (ha : a < 1024) (hQ : ∀ x, Q (some (.int x)) M) : ∀ k j, j + k = n → ∀ o3 : Option Value,
    q_g 46 none Q 7 [some (.ref B), some (.int (nI a)), some (.int (nI j)), o3] [] M := by
  have hv0 := hv
  obtain ⟨hB, hn, h10, hh, hlt⟩ := hv
  intro k
  induction k with
  | zero =>
    intro j hj o3
    have : j = n := by omega
    subst this
    rw [gS_fewestNails_7]
    simp only [gS_fewestNails_0, gS_fewestNails_1, gS_fewestNails_4, gS_fewestNails_5, gS_fewestNails_6, gS_fewestNails_8, gS_fewestNails_9, gS_fewestNails_12, gS_fewestNails_15, gS_fewestNails_16, gS_fewestNails_17, gS_fewestNails_18, gS_fewestNails_19, gS_fewestNails_22, gS_fewestNails_23, gS_fewestNails_26, gS_fewestNails_27, gS_fewestNails_30, gS_fewestNails_31, gS_fewestNails_32, gS_fewestNails_35, gS_fewestNails_36, gS_fewestNails_39, gS_fewestNails_40, gS_fewestNails_41, gS_fewestNails_44, gS_fewestNails_47, gS_fewestNails_50, gS_fewestNails_53, gS_fewestNails_54, ↓reduceIte, Bool.false_eq_true, Bool.true_eq_false, qk_i, qk_r, qk_n, Option.toList_some, Option.toList_none, List.cons_append, List.nil_append, true_and, and_true, true_or, or_true, eq_self, if_true, if_false, q_b1, q_b2, c_A, c_R, c_O, c_M, c_H1, c_H8, c_H15, hB, hn, Int32.le_refl]
    exact hQ _
  | succ k ih =>
    intro j hj o3
    have h1 : ¬ nI n ≤ nI j := nI_ge (by omega) (by omega)
    rw [gS_fewestNails_7]
    simp only [gS_fewestNails_0, gS_fewestNails_1, gS_fewestNails_4, gS_fewestNails_5, gS_fewestNails_6, gS_fewestNails_8, gS_fewestNails_9, gS_fewestNails_12, gS_fewestNails_15, gS_fewestNails_16, gS_fewestNails_18, gS_fewestNails_19, gS_fewestNails_22, gS_fewestNails_23, gS_fewestNails_26, gS_fewestNails_27, gS_fewestNails_30, gS_fewestNails_31, gS_fewestNails_32, gS_fewestNails_35, gS_fewestNails_36, gS_fewestNails_39, gS_fewestNails_40, gS_fewestNails_41, gS_fewestNails_44, gS_fewestNails_47, gS_fewestNails_50, gS_fewestNails_53, gS_fewestNails_54, ↓reduceIte, Bool.false_eq_true, Bool.true_eq_false, qk_i, qk_r, qk_n, Option.toList_some, Option.toList_none, List.cons_append, List.nil_append, true_and, and_true, true_or, or_true, eq_self, if_true, if_false, q_b1, q_b2, c_A, c_R, c_O, c_M, c_H1, c_H8, c_H15, hB, hn, h1]
    refine w_S_fewestNails_l2 hv0 ha hQ (fun o => ?_) a 0 (by omega)
    simp only [gS_fewestNails_0, gS_fewestNails_1, gS_fewestNails_4, gS_fewestNails_5, gS_fewestNails_6, gS_fewestNails_8, gS_fewestNails_9, gS_fewestNails_12, gS_fewestNails_15, gS_fewestNails_16, gS_fewestNails_17, gS_fewestNails_18, gS_fewestNails_19, gS_fewestNails_22, gS_fewestNails_23, gS_fewestNails_26, gS_fewestNails_27, gS_fewestNails_30, gS_fewestNails_31, gS_fewestNails_32, gS_fewestNails_35, gS_fewestNails_36, gS_fewestNails_39, gS_fewestNails_40, gS_fewestNails_41, gS_fewestNails_44, gS_fewestNails_47, gS_fewestNails_50, gS_fewestNails_53, gS_fewestNails_54, ↓reduceIte, Bool.false_eq_true, Bool.true_eq_false, qk_i, qk_r, qk_n, Option.toList_some, Option.toList_none, List.cons_append, List.nil_append, true_and, and_true, true_or, or_true, eq_self, if_true, if_false, q_b1, q_b2, c_A, c_R, c_O, c_M, c_H1, c_H8, c_H15, nI_1]
    exact ih (j + 1) (by omega) _
theorem w_S_fewestNails {Q : q_R} {M : q_M} {B n h : Nat} (hv : v_h M B n h) (hQ : ∀ x, Q (some (.int x)) M) : q_Run 46 [.ref B] M Q := by
  have h2 := two_pow_le hv.2.2.1
  rw [e_S_fewestNails]
  simp only [gS_fewestNails_0, gS_fewestNails_1, gS_fewestNails_4, gS_fewestNails_5, gS_fewestNails_6, gS_fewestNails_8, gS_fewestNails_9, gS_fewestNails_12, gS_fewestNails_15, gS_fewestNails_16, gS_fewestNails_17, gS_fewestNails_18, gS_fewestNails_19, gS_fewestNails_22, gS_fewestNails_23, gS_fewestNails_26, gS_fewestNails_27, gS_fewestNails_30, gS_fewestNails_31, gS_fewestNails_32, gS_fewestNails_35, gS_fewestNails_36, gS_fewestNails_39, gS_fewestNails_40, gS_fewestNails_41, gS_fewestNails_44, gS_fewestNails_47, gS_fewestNails_50, gS_fewestNails_53, gS_fewestNails_54, ↓reduceIte, Bool.false_eq_true, Bool.true_eq_false, qk_i, qk_r, qk_n, Option.toList_some, Option.toList_none, List.cons_append, List.nil_append, true_and, and_true, true_or, or_true, eq_self, if_true, if_false, q_b1, q_b2, c_A, c_R, c_O, c_M, c_H1, c_H8, c_H15, hv.1, x_H_everything hv.1, hv.all]
  exact w_S_fewestNails_l hv (by omega) hQ n 0 (by omega) _
theorem w_K_rankOf {Q : q_R} {M : q_M} {B n h : Nat} {kd t w : Int32} (hv : v_h M B n h) (hQ : ∀ x, Q (some (.int x)) M) : q_Run 54 [.ref B, .int kd, .int t, .int w] M Q := by
  obtain ⟨hB, hn, h10, hh, hlt⟩ := hv
  rw [e_K_rankOf]
  simp only [gK_rankOf_0, gK_rankOf_1, gK_rankOf_36, gK_rankOf_37, gK_rankOf_38, gK_rankOf_39, gK_rankOf_42, gK_rankOf_43, gK_rankOf_44, gK_rankOf_47, gK_rankOf_48, gK_rankOf_51, gK_rankOf_52, gK_rankOf_53, gK_rankOf_54, gK_rankOf_55, gK_rankOf_56, gK_rankOf_57, gK_rankOf_58, gK_rankOf_59, gK_rankOf_62, gK_rankOf_65, gK_rankOf_66, gK_rankOf_67, gK_rankOf_68, gK_rankOf_71, gK_rankOf_72, gK_rankOf_75, gK_rankOf_76, gK_rankOf_77, gK_rankOf_80, gK_rankOf_81, gK_rankOf_84, gK_rankOf_85, gK_rankOf_86, ↓reduceIte, Bool.false_eq_true, Bool.true_eq_false, qk_i, qk_r, qk_n, Option.toList_some, Option.toList_none, List.cons_append, List.nil_append, true_and, and_true, true_or, or_true, eq_self, if_true, if_false, q_b1, q_b2, c_A, c_R, c_O, c_M, c_H1, c_H8, c_H15, hB, x_H_minutesOfGo hB, rf_H2 hB, rf_H3 hB, x_W_get (al_H hB).2.2.1, x_W_get (al_H hB).2.2.2.1, x_H_mayBy hB hn h10, x_I_bitCount]
  repeat' split
  all_goals exact hQ _
theorem w_K_chosen_l {Q : q_R} {M : q_M} {B n h : Nat} {kd w op : Int32} (hv : v_h M B n h) (hQ : ∀ x, Q (some (.int x)) M) : ∀ k j, j + k = n → ∀ (b c : Int32) (o7 : Option Value),
    q_g 51 none Q 16 [some (.ref B), some (.int kd), some (.int w), some (.int op), some (.int b), some (.int c), some (.int (nI j)), o7] [] M := by
  have hv0 := hv
  obtain ⟨hB, hn, h10, hh, hlt⟩ := hv
  intro k
  induction k with
  | zero =>
    intro j hj b c o7
    have : j = n := by omega
    subst this
    rw [gK_chosen_16]
    simp only [gK_chosen_0, gK_chosen_1, gK_chosen_2, gK_chosen_5, gK_chosen_6, gK_chosen_8, gK_chosen_10, gK_chosen_11, gK_chosen_13, gK_chosen_14, gK_chosen_18, gK_chosen_19, gK_chosen_22, gK_chosen_25, gK_chosen_26, gK_chosen_28, gK_chosen_29, gK_chosen_30, gK_chosen_31, gK_chosen_34, gK_chosen_37, gK_chosen_38, gK_chosen_39, gK_chosen_41, gK_chosen_42, gK_chosen_45, gK_chosen_47, gK_chosen_49, gK_chosen_51, gK_chosen_54, gK_chosen_56, gK_chosen_58, gK_chosen_61, gK_chosen_63, gK_chosen_65, gK_chosen_67, gK_chosen_69, gK_chosen_72, gK_chosen_75, gK_chosen_77, ↓reduceIte, Bool.false_eq_true, Bool.true_eq_false, qk_i, qk_r, qk_n, Option.toList_some, Option.toList_none, List.cons_append, List.nil_append, true_and, and_true, true_or, or_true, eq_self, if_true, if_false, q_b1, q_b2, c_A, c_R, c_O, c_M, c_H1, c_H8, c_H15, hB, hn, Int32.le_refl]
    exact hQ _
  | succ k ih =>
    intro j hj b c o7
    have h1 : ¬ nI n ≤ nI j := nI_ge (by omega) (by omega)
    rw [gK_chosen_16]
    simp only [gK_chosen_0, gK_chosen_1, gK_chosen_2, gK_chosen_5, gK_chosen_6, gK_chosen_8, gK_chosen_10, gK_chosen_11, gK_chosen_13, gK_chosen_14, gK_chosen_18, gK_chosen_19, gK_chosen_22, gK_chosen_25, gK_chosen_26, gK_chosen_28, gK_chosen_29, gK_chosen_30, gK_chosen_31, gK_chosen_34, gK_chosen_37, gK_chosen_38, gK_chosen_39, gK_chosen_41, gK_chosen_42, gK_chosen_45, gK_chosen_47, gK_chosen_49, gK_chosen_51, gK_chosen_54, gK_chosen_56, gK_chosen_58, gK_chosen_61, gK_chosen_63, gK_chosen_65, gK_chosen_67, gK_chosen_69, gK_chosen_72, gK_chosen_75, gK_chosen_77, ↓reduceIte, Bool.false_eq_true, Bool.true_eq_false, qk_i, qk_r, qk_n, Option.toList_some, Option.toList_none, List.cons_append, List.nil_append, true_and, and_true, true_or, or_true, eq_self, if_true, if_false, q_b1, q_b2, c_A, c_R, c_O, c_M, c_H1, c_H8, c_H15, hB, hn, h1, nI_1]
    split
    · refine w_K_rankOf hv0 fun x => ?_
      simp only [gK_chosen_0, gK_chosen_1, gK_chosen_2, gK_chosen_5, gK_chosen_6, gK_chosen_8, gK_chosen_10, gK_chosen_11, gK_chosen_13, gK_chosen_14, gK_chosen_18, gK_chosen_19, gK_chosen_22, gK_chosen_25, gK_chosen_26, gK_chosen_28, gK_chosen_29, gK_chosen_30, gK_chosen_31, gK_chosen_34, gK_chosen_37, gK_chosen_38, gK_chosen_39, gK_chosen_41, gK_chosen_42, gK_chosen_45, gK_chosen_47, gK_chosen_49, gK_chosen_51, gK_chosen_54, gK_chosen_56, gK_chosen_58, gK_chosen_61, gK_chosen_63, gK_chosen_65, gK_chosen_67, gK_chosen_69, gK_chosen_72, gK_chosen_75, gK_chosen_77, ↓reduceIte, Bool.false_eq_true, Bool.true_eq_false, qk_i, qk_r, qk_n, Option.toList_some, Option.toList_none, List.cons_append, List.nil_append, true_and, and_true, true_or, or_true, eq_self, if_true, if_false, q_b1, q_b2, c_A, c_R, c_O, c_M, c_H1, c_H8, c_H15, nI_1]
      repeat' split
      all_goals exact ih (j + 1) (by omega) _ _ _
    · exact ih (j + 1) (by omega) _ _ _
theorem w_K_chosen {Q : q_R} {M : q_M} {B n h : Nat} {kd w : Int32} (hv : v_h M B n h) (hQ : ∀ x, Q (some (.int x)) M) : q_Run 51 [.ref B, .int kd, .int w] M Q := by
  rw [e_K_chosen]
  simp only [gK_chosen_0, gK_chosen_1, gK_chosen_2, gK_chosen_5, gK_chosen_6, gK_chosen_8, gK_chosen_10, gK_chosen_11, gK_chosen_13, gK_chosen_14, gK_chosen_18, gK_chosen_19, gK_chosen_22, gK_chosen_25, gK_chosen_26, gK_chosen_28, gK_chosen_29, gK_chosen_30, gK_chosen_31, gK_chosen_34, gK_chosen_37, gK_chosen_38, gK_chosen_39, gK_chosen_41, gK_chosen_42, gK_chosen_45, gK_chosen_47, gK_chosen_49, gK_chosen_51, gK_chosen_54, gK_chosen_56, gK_chosen_58, gK_chosen_61, gK_chosen_63, gK_chosen_65, gK_chosen_67, gK_chosen_69, gK_chosen_72, gK_chosen_75, gK_chosen_77, ↓reduceIte, Bool.false_eq_true, Bool.true_eq_false, qk_i, qk_r, qk_n, Option.toList_some, Option.toList_none, List.cons_append, List.nil_append, true_and, and_true, true_or, or_true, eq_self, if_true, if_false, q_b1, q_b2, c_A, c_R, c_O, c_M, c_H1, c_H8, c_H15, hv.1, x_H_mayBy hv.1 hv.2.1 hv.2.2.1]
  exact w_K_chosen_l hv hQ n 0 (by omega) _ _ _
theorem w_K_takenAt_l {Q : q_R} {M : q_M} {B n h : Nat} {kd kk : Int32} (hv : v_h M B n h) (hQ : ∀ x, Q (some (.int x)) M) : ∀ k j, j + k = 10 → ∀ (w : Int32) (o5 : Option Value),
    q_g 55 none Q 8 [some (.ref B), some (.int kd), some (.int kk), some (.int w), some (.int (nI j)), o5] [] M := by
  intro k
  induction k with
  | zero =>
    intro j hj w o5
    have : j = 10 := by omega
    subst this
    have h1 : (10 : Int32) ≤ nI 10 := by decide
    rw [gK_takenAt_8]
    simp only [gK_takenAt_0, gK_takenAt_1, gK_takenAt_4, gK_takenAt_5, gK_takenAt_6, gK_takenAt_10, gK_takenAt_12, gK_takenAt_15, gK_takenAt_16, gK_takenAt_17, gK_takenAt_18, gK_takenAt_21, gK_takenAt_23, gK_takenAt_25, gK_takenAt_27, gK_takenAt_30, gK_takenAt_32, gK_takenAt_33, gK_takenAt_36, gK_takenAt_38, gK_takenAt_39, gK_takenAt_40, gK_takenAt_41, gK_takenAt_43, gK_takenAt_44, gK_takenAt_45, gK_takenAt_46, gK_takenAt_49, gK_takenAt_52, gK_takenAt_54, ↓reduceIte, Bool.false_eq_true, Bool.true_eq_false, qk_i, qk_r, qk_n, Option.toList_some, Option.toList_none, List.cons_append, List.nil_append, true_and, and_true, true_or, or_true, eq_self, if_true, if_false, q_b1, q_b2, c_A, c_R, c_O, c_M, c_H1, c_H8, c_H15, h1]
    exact hQ _
  | succ k ih =>
    intro j hj w o5
    have h1 : ¬ (10 : Int32) ≤ nI j := nI_ge (b := 10) (by omega) (by omega)
    rw [gK_takenAt_8]
    simp only [gK_takenAt_0, gK_takenAt_1, gK_takenAt_4, gK_takenAt_5, gK_takenAt_6, gK_takenAt_10, gK_takenAt_12, gK_takenAt_15, gK_takenAt_16, gK_takenAt_17, gK_takenAt_18, gK_takenAt_21, gK_takenAt_23, gK_takenAt_25, gK_takenAt_27, gK_takenAt_30, gK_takenAt_32, gK_takenAt_33, gK_takenAt_36, gK_takenAt_38, gK_takenAt_39, gK_takenAt_40, gK_takenAt_41, gK_takenAt_43, gK_takenAt_44, gK_takenAt_45, gK_takenAt_46, gK_takenAt_49, gK_takenAt_52, gK_takenAt_54, ↓reduceIte, Bool.false_eq_true, Bool.true_eq_false, qk_i, qk_r, qk_n, Option.toList_some, Option.toList_none, List.cons_append, List.nil_append, true_and, and_true, true_or, or_true, eq_self, if_true, if_false, q_b1, q_b2, c_A, c_R, c_O, c_M, c_H1, c_H8, c_H15, h1]
    refine w_K_chosen hv fun x => ?_
    simp only [gK_takenAt_0, gK_takenAt_1, gK_takenAt_4, gK_takenAt_5, gK_takenAt_6, gK_takenAt_10, gK_takenAt_12, gK_takenAt_15, gK_takenAt_16, gK_takenAt_17, gK_takenAt_18, gK_takenAt_21, gK_takenAt_23, gK_takenAt_25, gK_takenAt_27, gK_takenAt_30, gK_takenAt_32, gK_takenAt_33, gK_takenAt_36, gK_takenAt_38, gK_takenAt_39, gK_takenAt_40, gK_takenAt_41, gK_takenAt_43, gK_takenAt_44, gK_takenAt_45, gK_takenAt_46, gK_takenAt_49, gK_takenAt_52, gK_takenAt_54, ↓reduceIte, Bool.false_eq_true, Bool.true_eq_false, qk_i, qk_r, qk_n, Option.toList_some, Option.toList_none, List.cons_append, List.nil_append, true_and, and_true, true_or, or_true, eq_self, if_true, if_false, q_b1, q_b2, c_A, c_R, c_O, c_M, c_H1, c_H8, c_H15, nI_1]
    repeat' split
    all_goals first
      | exact ih (j + 1) (by omega) _ _
      | exact hQ _
theorem w_K_takenAt {Q : q_R} {M : q_M} {B n h : Nat} {kd kk : Int32} (hv : v_h M B n h) (hQ : ∀ x, Q (some (.int x)) M) : q_Run 55 [.ref B, .int kd, .int kk] M Q := by
  rw [e_K_takenAt]
  simp only [gK_takenAt_0, gK_takenAt_1, gK_takenAt_4, gK_takenAt_5, gK_takenAt_6, gK_takenAt_10, gK_takenAt_12, gK_takenAt_15, gK_takenAt_16, gK_takenAt_17, gK_takenAt_18, gK_takenAt_21, gK_takenAt_23, gK_takenAt_25, gK_takenAt_27, gK_takenAt_30, gK_takenAt_32, gK_takenAt_33, gK_takenAt_36, gK_takenAt_38, gK_takenAt_39, gK_takenAt_40, gK_takenAt_41, gK_takenAt_43, gK_takenAt_44, gK_takenAt_45, gK_takenAt_46, gK_takenAt_49, gK_takenAt_52, gK_takenAt_54, ↓reduceIte, Bool.false_eq_true, Bool.true_eq_false, qk_i, qk_r, qk_n, Option.toList_some, Option.toList_none, List.cons_append, List.nil_append, true_and, and_true, true_or, or_true, eq_self, if_true, if_false, q_b1, q_b2, c_A, c_R, c_O, c_M, c_H1, c_H8, c_H15, hv.1]
  exact w_K_takenAt_l hv hQ 10 0 (by omega) _ _
theorem w_K_minutesOfAll_l {Q : q_R} {M : q_M} {B n h : Nat} {kd : Int32} (hv : v_h M B n h) (hQ : ∀ x, Q (some (.int x)) M) : ∀ k j, j + k = 10 → ∀ (w s : Int32) (o5 : Option Value),
    q_g 53 none Q 10 [some (.ref B), some (.int kd), some (.int w), some (.int s), some (.int (nI j)), o5] [] M := by
  intro k
  induction k with
  | zero =>
    intro j hj w s o5
    have : j = 10 := by omega
    subst this
    have h1 : (10 : Int32) ≤ nI 10 := by decide
    rw [gK_minutesOfAll_10]
    simp only [gK_minutesOfAll_0, gK_minutesOfAll_1, gK_minutesOfAll_4, gK_minutesOfAll_5, gK_minutesOfAll_6, gK_minutesOfAll_7, gK_minutesOfAll_8, gK_minutesOfAll_12, gK_minutesOfAll_14, gK_minutesOfAll_17, gK_minutesOfAll_18, gK_minutesOfAll_19, gK_minutesOfAll_20, gK_minutesOfAll_23, gK_minutesOfAll_25, gK_minutesOfAll_27, gK_minutesOfAll_29, gK_minutesOfAll_32, gK_minutesOfAll_35, gK_minutesOfAll_36, gK_minutesOfAll_37, gK_minutesOfAll_39, gK_minutesOfAll_40, gK_minutesOfAll_43, gK_minutesOfAll_44, gK_minutesOfAll_45, gK_minutesOfAll_46, gK_minutesOfAll_47, gK_minutesOfAll_49, gK_minutesOfAll_50, gK_minutesOfAll_51, gK_minutesOfAll_52, gK_minutesOfAll_55, gK_minutesOfAll_58, gK_minutesOfAll_59, ↓reduceIte, Bool.false_eq_true, Bool.true_eq_false, qk_i, qk_r, qk_n, Option.toList_some, Option.toList_none, List.cons_append, List.nil_append, true_and, and_true, true_or, or_true, eq_self, if_true, if_false, q_b1, q_b2, c_A, c_R, c_O, c_M, c_H1, c_H8, c_H15, h1]
    exact hQ _
  | succ k ih =>
    intro j hj w s o5
    have h1 : ¬ (10 : Int32) ≤ nI j := nI_ge (b := 10) (by omega) (by omega)
    rw [gK_minutesOfAll_10]
    simp only [gK_minutesOfAll_0, gK_minutesOfAll_1, gK_minutesOfAll_4, gK_minutesOfAll_5, gK_minutesOfAll_6, gK_minutesOfAll_7, gK_minutesOfAll_8, gK_minutesOfAll_12, gK_minutesOfAll_14, gK_minutesOfAll_17, gK_minutesOfAll_18, gK_minutesOfAll_19, gK_minutesOfAll_20, gK_minutesOfAll_23, gK_minutesOfAll_25, gK_minutesOfAll_27, gK_minutesOfAll_29, gK_minutesOfAll_32, gK_minutesOfAll_35, gK_minutesOfAll_36, gK_minutesOfAll_37, gK_minutesOfAll_39, gK_minutesOfAll_40, gK_minutesOfAll_43, gK_minutesOfAll_44, gK_minutesOfAll_45, gK_minutesOfAll_46, gK_minutesOfAll_47, gK_minutesOfAll_49, gK_minutesOfAll_50, gK_minutesOfAll_51, gK_minutesOfAll_52, gK_minutesOfAll_55, gK_minutesOfAll_58, gK_minutesOfAll_59, ↓reduceIte, Bool.false_eq_true, Bool.true_eq_false, qk_i, qk_r, qk_n, Option.toList_some, Option.toList_none, List.cons_append, List.nil_append, true_and, and_true, true_or, or_true, eq_self, if_true, if_false, q_b1, q_b2, c_A, c_R, c_O, c_M, c_H1, c_H8, c_H15, h1]
    refine w_K_chosen hv fun x => ?_
    simp only [gK_minutesOfAll_0, gK_minutesOfAll_1, gK_minutesOfAll_4, gK_minutesOfAll_5, gK_minutesOfAll_6, gK_minutesOfAll_7, gK_minutesOfAll_8, gK_minutesOfAll_12, gK_minutesOfAll_14, gK_minutesOfAll_17, gK_minutesOfAll_18, gK_minutesOfAll_19, gK_minutesOfAll_20, gK_minutesOfAll_23, gK_minutesOfAll_25, gK_minutesOfAll_27, gK_minutesOfAll_29, gK_minutesOfAll_32, gK_minutesOfAll_35, gK_minutesOfAll_36, gK_minutesOfAll_37, gK_minutesOfAll_39, gK_minutesOfAll_40, gK_minutesOfAll_43, gK_minutesOfAll_44, gK_minutesOfAll_45, gK_minutesOfAll_46, gK_minutesOfAll_47, gK_minutesOfAll_49, gK_minutesOfAll_50, gK_minutesOfAll_51, gK_minutesOfAll_52, gK_minutesOfAll_55, gK_minutesOfAll_58, gK_minutesOfAll_59, ↓reduceIte, Bool.false_eq_true, Bool.true_eq_false, qk_i, qk_r, qk_n, Option.toList_some, Option.toList_none, List.cons_append, List.nil_append, true_and, and_true, true_or, or_true, eq_self, if_true, if_false, q_b1, q_b2, c_A, c_R, c_O, c_M, c_H1, c_H8, c_H15, nI_1, hv.1, x_H_minutesOfGo hv.1]
    repeat' split
    all_goals first
      | exact ih (j + 1) (by omega) _ _ _
      | exact hQ _
theorem w_K_minutesOfAll {Q : q_R} {M : q_M} {B n h : Nat} {kd : Int32} (hv : v_h M B n h) (hQ : ∀ x, Q (some (.int x)) M) : q_Run 53 [.ref B, .int kd] M Q := by
  rw [e_K_minutesOfAll]
  simp only [gK_minutesOfAll_0, gK_minutesOfAll_1, gK_minutesOfAll_4, gK_minutesOfAll_5, gK_minutesOfAll_6, gK_minutesOfAll_7, gK_minutesOfAll_8, gK_minutesOfAll_12, gK_minutesOfAll_14, gK_minutesOfAll_17, gK_minutesOfAll_18, gK_minutesOfAll_19, gK_minutesOfAll_20, gK_minutesOfAll_23, gK_minutesOfAll_25, gK_minutesOfAll_27, gK_minutesOfAll_29, gK_minutesOfAll_32, gK_minutesOfAll_35, gK_minutesOfAll_36, gK_minutesOfAll_37, gK_minutesOfAll_39, gK_minutesOfAll_40, gK_minutesOfAll_43, gK_minutesOfAll_44, gK_minutesOfAll_45, gK_minutesOfAll_46, gK_minutesOfAll_47, gK_minutesOfAll_49, gK_minutesOfAll_50, gK_minutesOfAll_51, gK_minutesOfAll_52, gK_minutesOfAll_55, gK_minutesOfAll_58, gK_minutesOfAll_59, ↓reduceIte, Bool.false_eq_true, Bool.true_eq_false, qk_i, qk_r, qk_n, Option.toList_some, Option.toList_none, List.cons_append, List.nil_append, true_and, and_true, true_or, or_true, eq_self, if_true, if_false, q_b1, q_b2, c_A, c_R, c_O, c_M, c_H1, c_H8, c_H15, hv.1]
  exact w_K_minutesOfAll_l hv hQ 10 0 (by omega) _ _ _
theorem w_K_minutesByLot_l {Q : q_R} {M : q_M} {B n h : Nat} {kd sd : Int32} (hv : v_h M B n h) (hQ : ∀ x, Q (some (.int x)) M) : ∀ k j, j + k = 60 → ∀ (w s z : Int32) (o7 o8 : Option Value),
    q_g 52 none Q 14 [some (.ref B), some (.int kd), some (.int sd), some (.int w), some (.int s), some (.int z), some (.int (nI j)), o7, o8] [] M := by
  intro k
  induction k with
  | zero =>
    intro j hj w s z o7 o8
    have : j = 60 := by omega
    subst this
    have h1 : (60 : Int32) ≤ nI 60 := by decide
    rw [gK_minutesByLot_14]
    simp only [gK_minutesByLot_0, gK_minutesByLot_1, gK_minutesByLot_4, gK_minutesByLot_5, gK_minutesByLot_6, gK_minutesByLot_8, gK_minutesByLot_9, gK_minutesByLot_11, gK_minutesByLot_12, gK_minutesByLot_16, gK_minutesByLot_18, gK_minutesByLot_21, gK_minutesByLot_22, gK_minutesByLot_23, gK_minutesByLot_24, gK_minutesByLot_27, gK_minutesByLot_29, gK_minutesByLot_31, gK_minutesByLot_33, gK_minutesByLot_36, gK_minutesByLot_39, gK_minutesByLot_41, gK_minutesByLot_42, gK_minutesByLot_44, gK_minutesByLot_45, gK_minutesByLot_48, gK_minutesByLot_49, gK_minutesByLot_51, gK_minutesByLot_53, gK_minutesByLot_55, gK_minutesByLot_56, gK_minutesByLot_58, gK_minutesByLot_59, gK_minutesByLot_61, gK_minutesByLot_63, gK_minutesByLot_65, gK_minutesByLot_66, gK_minutesByLot_69, gK_minutesByLot_70, gK_minutesByLot_72, gK_minutesByLot_73, gK_minutesByLot_75, gK_minutesByLot_77, gK_minutesByLot_78, gK_minutesByLot_81, gK_minutesByLot_83, gK_minutesByLot_86, gK_minutesByLot_89, gK_minutesByLot_90, gK_minutesByLot_91, gK_minutesByLot_93, gK_minutesByLot_94, gK_minutesByLot_95, gK_minutesByLot_96, gK_minutesByLot_99, gK_minutesByLot_102, gK_minutesByLot_104, ↓reduceIte, Bool.false_eq_true, Bool.true_eq_false, qk_i, qk_r, qk_n, Option.toList_some, Option.toList_none, List.cons_append, List.nil_append, true_and, and_true, true_or, or_true, eq_self, if_true, if_false, q_b1, q_b2, c_A, c_R, c_O, c_M, c_H1, c_H8, c_H15, h1]
    exact hQ _
  | succ k ih =>
    intro j hj w s z o7 o8
    have h1 : ¬ (60 : Int32) ≤ nI j := nI_ge (b := 60) (by omega) (by omega)
    rw [gK_minutesByLot_14]
    simp only [gK_minutesByLot_0, gK_minutesByLot_1, gK_minutesByLot_4, gK_minutesByLot_5, gK_minutesByLot_6, gK_minutesByLot_8, gK_minutesByLot_9, gK_minutesByLot_11, gK_minutesByLot_12, gK_minutesByLot_16, gK_minutesByLot_18, gK_minutesByLot_21, gK_minutesByLot_22, gK_minutesByLot_23, gK_minutesByLot_24, gK_minutesByLot_27, gK_minutesByLot_29, gK_minutesByLot_31, gK_minutesByLot_33, gK_minutesByLot_36, gK_minutesByLot_39, gK_minutesByLot_41, gK_minutesByLot_42, gK_minutesByLot_44, gK_minutesByLot_45, gK_minutesByLot_48, gK_minutesByLot_49, gK_minutesByLot_51, gK_minutesByLot_53, gK_minutesByLot_55, gK_minutesByLot_56, gK_minutesByLot_58, gK_minutesByLot_59, gK_minutesByLot_61, gK_minutesByLot_63, gK_minutesByLot_65, gK_minutesByLot_66, gK_minutesByLot_69, gK_minutesByLot_70, gK_minutesByLot_72, gK_minutesByLot_73, gK_minutesByLot_75, gK_minutesByLot_77, gK_minutesByLot_78, gK_minutesByLot_81, gK_minutesByLot_83, gK_minutesByLot_86, gK_minutesByLot_89, gK_minutesByLot_90, gK_minutesByLot_91, gK_minutesByLot_93, gK_minutesByLot_94, gK_minutesByLot_95, gK_minutesByLot_96, gK_minutesByLot_99, gK_minutesByLot_102, gK_minutesByLot_104, ↓reduceIte, Bool.false_eq_true, Bool.true_eq_false, qk_i, qk_r, qk_n, Option.toList_some, Option.toList_none, List.cons_append, List.nil_append, true_and, and_true, true_or, or_true, eq_self, if_true, if_false, q_b1, q_b2, c_A, c_R, c_O, c_M, c_H1, c_H8, c_H15, h1]
    refine w_K_chosen hv fun x => ?_
    simp only [gK_minutesByLot_0, gK_minutesByLot_1, gK_minutesByLot_4, gK_minutesByLot_5, gK_minutesByLot_6, gK_minutesByLot_8, gK_minutesByLot_9, gK_minutesByLot_11, gK_minutesByLot_12, gK_minutesByLot_16, gK_minutesByLot_18, gK_minutesByLot_21, gK_minutesByLot_22, gK_minutesByLot_23, gK_minutesByLot_24, gK_minutesByLot_27, gK_minutesByLot_29, gK_minutesByLot_31, gK_minutesByLot_33, gK_minutesByLot_36, gK_minutesByLot_39, gK_minutesByLot_41, gK_minutesByLot_42, gK_minutesByLot_44, gK_minutesByLot_45, gK_minutesByLot_48, gK_minutesByLot_49, gK_minutesByLot_51, gK_minutesByLot_53, gK_minutesByLot_55, gK_minutesByLot_56, gK_minutesByLot_58, gK_minutesByLot_59, gK_minutesByLot_61, gK_minutesByLot_63, gK_minutesByLot_65, gK_minutesByLot_66, gK_minutesByLot_69, gK_minutesByLot_70, gK_minutesByLot_72, gK_minutesByLot_73, gK_minutesByLot_75, gK_minutesByLot_77, gK_minutesByLot_78, gK_minutesByLot_81, gK_minutesByLot_83, gK_minutesByLot_86, gK_minutesByLot_89, gK_minutesByLot_90, gK_minutesByLot_91, gK_minutesByLot_93, gK_minutesByLot_94, gK_minutesByLot_95, gK_minutesByLot_96, gK_minutesByLot_99, gK_minutesByLot_102, gK_minutesByLot_104, ↓reduceIte, Bool.false_eq_true, Bool.true_eq_false, qk_i, qk_r, qk_n, Option.toList_some, Option.toList_none, List.cons_append, List.nil_append, true_and, and_true, true_or, or_true, eq_self, if_true, if_false, q_b1, q_b2, c_A, c_R, c_O, c_M, c_H1, c_H8, c_H15, nI_1, hv.1, x_H_minutesOfGo hv.1, q_n256, q_n10, rf_H2 hv.1, x_W_get (al_H hv.1).2.2.1]
    repeat' split
    all_goals first
      | exact ih (j + 1) (by omega) _ _ _ _ _
      | exact hQ _
theorem w_K_minutesByLot {Q : q_R} {M : q_M} {B n h : Nat} {kd sd : Int32} (hv : v_h M B n h) (hQ : ∀ x, Q (some (.int x)) M) : q_Run 52 [.ref B, .int kd, .int sd] M Q := by
  rw [e_K_minutesByLot]
  simp only [gK_minutesByLot_0, gK_minutesByLot_1, gK_minutesByLot_4, gK_minutesByLot_5, gK_minutesByLot_6, gK_minutesByLot_8, gK_minutesByLot_9, gK_minutesByLot_11, gK_minutesByLot_12, gK_minutesByLot_16, gK_minutesByLot_18, gK_minutesByLot_21, gK_minutesByLot_22, gK_minutesByLot_23, gK_minutesByLot_24, gK_minutesByLot_27, gK_minutesByLot_29, gK_minutesByLot_31, gK_minutesByLot_33, gK_minutesByLot_36, gK_minutesByLot_39, gK_minutesByLot_41, gK_minutesByLot_42, gK_minutesByLot_44, gK_minutesByLot_45, gK_minutesByLot_48, gK_minutesByLot_49, gK_minutesByLot_51, gK_minutesByLot_53, gK_minutesByLot_55, gK_minutesByLot_56, gK_minutesByLot_58, gK_minutesByLot_59, gK_minutesByLot_61, gK_minutesByLot_63, gK_minutesByLot_65, gK_minutesByLot_66, gK_minutesByLot_69, gK_minutesByLot_70, gK_minutesByLot_72, gK_minutesByLot_73, gK_minutesByLot_75, gK_minutesByLot_77, gK_minutesByLot_78, gK_minutesByLot_81, gK_minutesByLot_83, gK_minutesByLot_86, gK_minutesByLot_89, gK_minutesByLot_90, gK_minutesByLot_91, gK_minutesByLot_93, gK_minutesByLot_94, gK_minutesByLot_95, gK_minutesByLot_96, gK_minutesByLot_99, gK_minutesByLot_102, gK_minutesByLot_104, ↓reduceIte, Bool.false_eq_true, Bool.true_eq_false, qk_i, qk_r, qk_n, Option.toList_some, Option.toList_none, List.cons_append, List.nil_append, true_and, and_true, true_or, or_true, eq_self, if_true, if_false, q_b1, q_b2, c_A, c_R, c_O, c_M, c_H1, c_H8, c_H15, hv.1]
  exact w_K_minutesByLot_l hv hQ 60 0 (by omega) _ _ _ _ _
