/-! the reference: ways, seekers, and what changes something small -/
section MQ3
variable {Q : q_R} {M : q_M} {n h : Nat}
def s_aim (M : q_M) (s : Int32) : Int32 := if b_mSet M s = true then (if M 30 8 &&& (s ^^^ (-1)) = 0 then 0 else -3) else -1
theorem x_M_notAimed {s : Int32} : q_Run 131 [.ref 30, .int s] M Q = Q (some (.int (s_aim M s))) M := by
  rw [e_M_notAimed]
  simp only [gM_notAimed_0, gM_notAimed_1, gM_notAimed_2, gM_notAimed_5, gM_notAimed_8, gM_notAimed_9, gM_notAimed_12, gM_notAimed_13, gM_notAimed_16, gM_notAimed_17, gM_notAimed_18, gM_notAimed_19, gM_notAimed_20, gM_notAimed_23, gM_notAimed_25, gM_notAimed_28, gM_notAimed_29, ↓reduceIte, Bool.false_eq_true, Bool.true_eq_false, qk_i, qk_r, qk_n, Option.toList_some, Option.toList_none, List.cons_append, List.nil_append, true_and, and_true, true_or, or_true, eq_self, if_true, if_false, q_b1, q_b2, c_A, c_R, c_O, c_M, c_H1, c_H8, c_H15, x_M_areThings, q_z0]
  unfold s_aim
  cases h1 : b_mSet M s <;> by_cases h2 : M 30 8 &&& (s ^^^ (-1)) = 0 <;> simp only [h1, h2, ↓reduceIte, Bool.false_eq_true, Bool.true_eq_false, qk_i, qk_r, qk_n, Option.toList_some, Option.toList_none, List.cons_append, List.nil_append, true_and, and_true, true_or, or_true, eq_self, if_true, if_false, q_b1, q_b2, c_A, c_R, c_O, c_M, c_H1, c_H8, c_H15, not_true, not_false_eq_true]
theorem aim_in {s : Int32} : q_in (-(s_aim M s)) 7 = true := by
  unfold s_aim
  split
  · split <;> decide
  · decide
theorem aim_nI {s : Int32} (hv : v_m M n h) (hs : s_aim M s = 0) : ∃ a, a < 1024 ∧ s = nI a := by
  unfold s_aim at hs
  split at hs
  · rename_i h1
    obtain ⟨a, ha, e⟩ := mSet_nI hv h1
    exact ⟨a, Nat.lt_of_lt_of_le ha (two_pow_le hv.2.1), e⟩
  · exact absurd hs (by decide)
theorem bound_in {v a b : Int32} : q_in (-(s_bound v a b)) 7 = true := by
  unfold s_bound
  split
  · split <;> decide
  · decide
theorem w_M_ways {a : Int32} (hv : v_m M n h) (hQ : ∀ (x : Int32) M', eqx Sm M M' → Q (some (.int x)) M') : q_Run 153 [.ref 30, .int a] M Q := by
  rw [e_M_ways]
  simp only [gM_ways_0, gM_ways_1, gM_ways_2, gM_ways_5, gM_ways_6, gM_ways_7, gM_ways_10, gM_ways_11, gM_ways_12, gM_ways_15, gM_ways_16, gM_ways_17, gM_ways_18, gM_ways_21, gM_ways_22, gM_ways_25, gM_ways_26, gM_ways_27, ↓reduceIte, Bool.false_eq_true, Bool.true_eq_false, qk_i, qk_r, qk_n, Option.toList_some, Option.toList_none, List.cons_append, List.nil_append, true_and, and_true, true_or, or_true, eq_self, if_true, if_false, q_b1, q_b2, c_A, c_R, c_O, c_M, c_H1, c_H8, c_H15, x_M_notAimed, x_M_no (aim_in (M := M) (s := a))]
  split
  · rename_i h0
    obtain ⟨b, hb, rfl⟩ := aim_nI hv h0
    have hin : q_in (nI b) 1024 = true := q_in_nI hb (by omega)
    refine w_M_findWays hv fun M' hM' => ?_
    simp only [gM_ways_0, gM_ways_1, gM_ways_2, gM_ways_5, gM_ways_6, gM_ways_7, gM_ways_10, gM_ways_11, gM_ways_12, gM_ways_15, gM_ways_16, gM_ways_17, gM_ways_18, gM_ways_21, gM_ways_22, gM_ways_25, gM_ways_26, gM_ways_27, ↓reduceIte, Bool.false_eq_true, Bool.true_eq_false, qk_i, qk_r, qk_n, Option.toList_some, Option.toList_none, List.cons_append, List.nil_append, true_and, and_true, true_or, or_true, eq_self, if_true, if_false, q_b1, q_b2, c_A, c_R, c_O, c_M, c_H1, c_H8, c_H15, rf_M22, aD_44, hin]
    exact hQ _ _ (hM'.up SfSm)
  · exact hQ _ _ eqm_no
theorem w_M_must_l {a nv o : Int32} (hv : v_m M n h) (hQ : ∀ x : Int32, Q (some (.int x)) M) : ∀ k j, j + k = n → ∀ (ac : Int32) (o6 : Option Value),
    q_g 126 none Q 26 [some (.ref 30), some (.int a), some (.int o), some (.int ac), some (.int nv), some (.int (nI j)), o6] [] M := by
  have h10 := hv.2.1
  intro k
  induction k with
  | zero =>
    intro j hj ac o6
    have : j = n := by omega
    subst this
    rw [gM_must_26]
    simp only [gM_must_0, gM_must_1, gM_must_2, gM_must_5, gM_must_6, gM_must_7, gM_must_10, gM_must_11, gM_must_12, gM_must_15, gM_must_16, gM_must_17, gM_must_18, gM_must_19, gM_must_20, gM_must_21, gM_must_23, gM_must_24, gM_must_28, gM_must_29, gM_must_32, gM_must_35, gM_must_36, gM_must_37, gM_must_40, gM_must_41, gM_must_42, gM_must_43, gM_must_45, gM_must_48, gM_must_51, gM_must_54, gM_must_55, gM_must_56, gM_must_58, gM_must_59, gM_must_60, gM_must_61, gM_must_62, gM_must_64, gM_must_65, gM_must_66, gM_must_67, gM_must_70, gM_must_72, gM_must_73, gM_must_75, gM_must_76, gM_must_77, gM_must_80, gM_must_82, gM_must_83, gM_must_85, gM_must_88, gM_must_89, gM_must_91, gM_must_92, gM_must_95, gM_must_96, gM_must_97, gM_must_98, gM_must_101, gM_must_104, gM_must_105, ↓reduceIte, Bool.false_eq_true, Bool.true_eq_false, qk_i, qk_r, qk_n, Option.toList_some, Option.toList_none, List.cons_append, List.nil_append, true_and, and_true, true_or, or_true, eq_self, if_true, if_false, q_b1, q_b2, c_A, c_R, c_O, c_M, c_H1, c_H8, c_H15, hv.1, Int32.le_refl]
    exact hQ _
  | succ k ih =>
    intro j hj ac o6
    have h1 : ¬ nI n ≤ nI j := nI_ge (by omega) (by omega)
    rw [gM_must_26]
    simp only [gM_must_0, gM_must_1, gM_must_2, gM_must_5, gM_must_6, gM_must_7, gM_must_10, gM_must_11, gM_must_12, gM_must_15, gM_must_16, gM_must_17, gM_must_18, gM_must_19, gM_must_20, gM_must_21, gM_must_23, gM_must_24, gM_must_28, gM_must_29, gM_must_32, gM_must_35, gM_must_36, gM_must_37, gM_must_40, gM_must_41, gM_must_42, gM_must_43, gM_must_45, gM_must_48, gM_must_51, gM_must_54, gM_must_55, gM_must_56, gM_must_58, gM_must_59, gM_must_60, gM_must_61, gM_must_62, gM_must_64, gM_must_65, gM_must_66, gM_must_67, gM_must_70, gM_must_72, gM_must_73, gM_must_75, gM_must_76, gM_must_77, gM_must_80, gM_must_82, gM_must_83, gM_must_85, gM_must_88, gM_must_89, gM_must_91, gM_must_92, gM_must_95, gM_must_96, gM_must_97, gM_must_98, gM_must_101, gM_must_104, gM_must_105, ↓reduceIte, Bool.false_eq_true, Bool.true_eq_false, qk_i, qk_r, qk_n, Option.toList_some, Option.toList_none, List.cons_append, List.nil_append, true_and, and_true, true_or, or_true, eq_self, if_true, if_false, q_b1, q_b2, c_A, c_R, c_O, c_M, c_H1, c_H8, c_H15, hv.1, h1, x_M_has, q_z0, nI_1, hv.2.2.1]
    split
    · refine w_M_reachOf hv hv.hlt fun r hr => ?_
      simp only [gM_must_0, gM_must_1, gM_must_2, gM_must_5, gM_must_6, gM_must_7, gM_must_10, gM_must_11, gM_must_12, gM_must_15, gM_must_16, gM_must_17, gM_must_18, gM_must_19, gM_must_20, gM_must_21, gM_must_23, gM_must_24, gM_must_28, gM_must_29, gM_must_32, gM_must_35, gM_must_36, gM_must_37, gM_must_40, gM_must_41, gM_must_42, gM_must_43, gM_must_45, gM_must_48, gM_must_51, gM_must_54, gM_must_55, gM_must_56, gM_must_58, gM_must_59, gM_must_60, gM_must_61, gM_must_62, gM_must_64, gM_must_65, gM_must_66, gM_must_67, gM_must_70, gM_must_72, gM_must_73, gM_must_75, gM_must_76, gM_must_77, gM_must_80, gM_must_82, gM_must_83, gM_must_85, gM_must_88, gM_must_89, gM_must_91, gM_must_92, gM_must_95, gM_must_96, gM_must_97, gM_must_98, gM_must_101, gM_must_104, gM_must_105, ↓reduceIte, Bool.false_eq_true, Bool.true_eq_false, qk_i, qk_r, qk_n, Option.toList_some, Option.toList_none, List.cons_append, List.nil_append, true_and, and_true, true_or, or_true, eq_self, if_true, if_false, q_b1, q_b2, c_A, c_R, c_O, c_M, c_H1, c_H8, c_H15, nI_1]
      split <;> exact ih (j + 1) (by omega) _ _
    · exact ih (j + 1) (by omega) _ _
theorem w_M_must {a : Int32} (hv : v_m M n h) (hQ : ∀ (x : Int32) M', eqx Sm M M' → Q (some (.int x)) M') : q_Run 126 [.ref 30, .int a] M Q := by
  rw [e_M_must]
  simp only [gM_must_0, gM_must_1, gM_must_2, gM_must_5, gM_must_6, gM_must_7, gM_must_10, gM_must_11, gM_must_12, gM_must_15, gM_must_16, gM_must_17, gM_must_18, gM_must_19, gM_must_20, gM_must_21, gM_must_23, gM_must_24, gM_must_28, gM_must_29, gM_must_32, gM_must_35, gM_must_36, gM_must_37, gM_must_40, gM_must_41, gM_must_42, gM_must_43, gM_must_45, gM_must_48, gM_must_51, gM_must_54, gM_must_55, gM_must_56, gM_must_58, gM_must_59, gM_must_60, gM_must_61, gM_must_62, gM_must_64, gM_must_65, gM_must_66, gM_must_67, gM_must_70, gM_must_72, gM_must_73, gM_must_75, gM_must_76, gM_must_77, gM_must_80, gM_must_82, gM_must_83, gM_must_85, gM_must_88, gM_must_89, gM_must_91, gM_must_92, gM_must_95, gM_must_96, gM_must_97, gM_must_98, gM_must_101, gM_must_104, gM_must_105, ↓reduceIte, Bool.false_eq_true, Bool.true_eq_false, qk_i, qk_r, qk_n, Option.toList_some, Option.toList_none, List.cons_append, List.nil_append, true_and, and_true, true_or, or_true, eq_self, if_true, if_false, q_b1, q_b2, c_A, c_R, c_O, c_M, c_H1, c_H8, c_H15, x_M_notAimed, x_M_no (aim_in (M := M) (s := a))]
  split
  · exact w_M_must_l hv (fun x => hQ x M eqx.rf) n 0 (by omega) _ _
  · exact hQ _ _ eqm_no
theorem w_M_halfway_l {a b o : Int32} (hQ : ∀ x : Int32, Q (some (.int x)) M) : ∀ k j, j + k = 1024 → ∀ ac : Int32,
    q_g 108 none Q 60 [some (.ref 30), some (.int a), some (.int b), some (.int o), some (.int ac), some (.int (nI j))] [] M := by
  intro k
  induction k with
  | zero =>
    intro j hj ac
    have : j = 1024 := by omega
    subst this
    have h1 : (1024 : Int32) ≤ nI 1024 := by decide
    rw [gM_halfway_60]
    simp only [gM_halfway_0, gM_halfway_1, gM_halfway_2, gM_halfway_5, gM_halfway_6, gM_halfway_7, gM_halfway_10, gM_halfway_11, gM_halfway_12, gM_halfway_13, gM_halfway_14, gM_halfway_17, gM_halfway_18, gM_halfway_19, gM_halfway_20, gM_halfway_23, gM_halfway_26, gM_halfway_27, gM_halfway_28, gM_halfway_31, gM_halfway_32, gM_halfway_33, gM_halfway_36, gM_halfway_37, gM_halfway_38, gM_halfway_39, gM_halfway_42, gM_halfway_43, gM_halfway_46, gM_halfway_47, gM_halfway_48, gM_halfway_51, gM_halfway_53, gM_halfway_54, gM_halfway_55, gM_halfway_57, gM_halfway_58, gM_halfway_62, gM_halfway_65, gM_halfway_68, gM_halfway_69, gM_halfway_71, gM_halfway_72, gM_halfway_75, gM_halfway_78, gM_halfway_80, gM_halfway_83, gM_halfway_84, gM_halfway_87, gM_halfway_90, gM_halfway_91, gM_halfway_92, gM_halfway_95, gM_halfway_96, gM_halfway_99, gM_halfway_101, gM_halfway_102, gM_halfway_105, gM_halfway_106, gM_halfway_109, gM_halfway_111, gM_halfway_112, gM_halfway_115, gM_halfway_117, gM_halfway_119, gM_halfway_120, gM_halfway_122, gM_halfway_125, gM_halfway_128, gM_halfway_130, ↓reduceIte, Bool.false_eq_true, Bool.true_eq_false, qk_i, qk_r, qk_n, Option.toList_some, Option.toList_none, List.cons_append, List.nil_append, true_and, and_true, true_or, or_true, eq_self, if_true, if_false, q_b1, q_b2, c_A, c_R, c_O, c_M, c_H1, c_H8, c_H15, h1]
    exact hQ _
  | succ k ih =>
    intro j hj ac
    have h1 : ¬ (1024 : Int32) ≤ nI j := nI_ge (b := 1024) (by omega) (by omega)
    have hin : q_in (nI j) 1024 = true := q_in_nI (by omega) (by omega)
    rw [gM_halfway_60]
    simp only [gM_halfway_0, gM_halfway_1, gM_halfway_2, gM_halfway_5, gM_halfway_6, gM_halfway_7, gM_halfway_10, gM_halfway_11, gM_halfway_12, gM_halfway_13, gM_halfway_14, gM_halfway_17, gM_halfway_18, gM_halfway_19, gM_halfway_20, gM_halfway_23, gM_halfway_26, gM_halfway_27, gM_halfway_28, gM_halfway_31, gM_halfway_32, gM_halfway_33, gM_halfway_36, gM_halfway_37, gM_halfway_38, gM_halfway_39, gM_halfway_42, gM_halfway_43, gM_halfway_46, gM_halfway_47, gM_halfway_48, gM_halfway_51, gM_halfway_53, gM_halfway_54, gM_halfway_55, gM_halfway_57, gM_halfway_58, gM_halfway_62, gM_halfway_65, gM_halfway_68, gM_halfway_69, gM_halfway_71, gM_halfway_72, gM_halfway_75, gM_halfway_78, gM_halfway_80, gM_halfway_83, gM_halfway_84, gM_halfway_87, gM_halfway_90, gM_halfway_91, gM_halfway_92, gM_halfway_95, gM_halfway_96, gM_halfway_99, gM_halfway_101, gM_halfway_102, gM_halfway_105, gM_halfway_106, gM_halfway_109, gM_halfway_111, gM_halfway_112, gM_halfway_115, gM_halfway_117, gM_halfway_119, gM_halfway_120, gM_halfway_122, gM_halfway_125, gM_halfway_128, gM_halfway_130, ↓reduceIte, Bool.false_eq_true, Bool.true_eq_false, qk_i, qk_r, qk_n, Option.toList_some, Option.toList_none, List.cons_append, List.nil_append, true_and, and_true, true_or, or_true, eq_self, if_true, if_false, q_b1, q_b2, c_A, c_R, c_O, c_M, c_H1, c_H8, c_H15, h1, x_M_isWithin, q_z0, x_M_bits, rf_M22, rf_M23, aD_44, aD_45, hin, nI_1]
    repeat' split
    all_goals exact ih (j + 1) (by omega) _
theorem w_M_halfway {a b : Int32} (hv : v_m M n h) (hQ : ∀ (x : Int32) M', eqx Sm M M' → Q (some (.int x)) M') : q_Run 108 [.ref 30, .int a, .int b] M Q := by
  have e37 : s_aim M a = 0 → ∀ o : Int32, q_g 108 none Q 37 [some (.ref 30), some (.int a), some (.int b), some (.int o), none, none] [] M := by
    intro h0 o
    obtain ⟨c, hc, rfl⟩ := aim_nI hv h0
    have hin : q_in (nI c) 1024 = true := q_in_nI hc (by omega)
    simp only [gM_halfway_0, gM_halfway_1, gM_halfway_2, gM_halfway_5, gM_halfway_6, gM_halfway_7, gM_halfway_10, gM_halfway_11, gM_halfway_12, gM_halfway_13, gM_halfway_14, gM_halfway_17, gM_halfway_18, gM_halfway_19, gM_halfway_20, gM_halfway_23, gM_halfway_26, gM_halfway_27, gM_halfway_28, gM_halfway_31, gM_halfway_32, gM_halfway_33, gM_halfway_36, gM_halfway_37, gM_halfway_38, gM_halfway_39, gM_halfway_42, gM_halfway_43, gM_halfway_46, gM_halfway_47, gM_halfway_48, gM_halfway_51, gM_halfway_53, gM_halfway_54, gM_halfway_55, gM_halfway_57, gM_halfway_58, gM_halfway_62, gM_halfway_65, gM_halfway_68, gM_halfway_69, gM_halfway_71, gM_halfway_72, gM_halfway_75, gM_halfway_78, gM_halfway_80, gM_halfway_83, gM_halfway_84, gM_halfway_87, gM_halfway_90, gM_halfway_91, gM_halfway_92, gM_halfway_95, gM_halfway_96, gM_halfway_99, gM_halfway_101, gM_halfway_102, gM_halfway_105, gM_halfway_106, gM_halfway_109, gM_halfway_111, gM_halfway_112, gM_halfway_115, gM_halfway_117, gM_halfway_119, gM_halfway_120, gM_halfway_122, gM_halfway_125, gM_halfway_128, gM_halfway_130, ↓reduceIte, Bool.false_eq_true, Bool.true_eq_false, qk_i, qk_r, qk_n, Option.toList_some, Option.toList_none, List.cons_append, List.nil_append, true_and, and_true, true_or, or_true, eq_self, if_true, if_false, q_b1, q_b2, c_A, c_R, c_O, c_M, c_H1, c_H8, c_H15]
    refine w_M_findWays hv fun M' hM' => ?_
    simp only [gM_halfway_0, gM_halfway_1, gM_halfway_2, gM_halfway_5, gM_halfway_6, gM_halfway_7, gM_halfway_10, gM_halfway_11, gM_halfway_12, gM_halfway_13, gM_halfway_14, gM_halfway_17, gM_halfway_18, gM_halfway_19, gM_halfway_20, gM_halfway_23, gM_halfway_26, gM_halfway_27, gM_halfway_28, gM_halfway_31, gM_halfway_32, gM_halfway_33, gM_halfway_36, gM_halfway_37, gM_halfway_38, gM_halfway_39, gM_halfway_42, gM_halfway_43, gM_halfway_46, gM_halfway_47, gM_halfway_48, gM_halfway_51, gM_halfway_53, gM_halfway_54, gM_halfway_55, gM_halfway_57, gM_halfway_58, gM_halfway_62, gM_halfway_65, gM_halfway_68, gM_halfway_69, gM_halfway_71, gM_halfway_72, gM_halfway_75, gM_halfway_78, gM_halfway_80, gM_halfway_83, gM_halfway_84, gM_halfway_87, gM_halfway_90, gM_halfway_91, gM_halfway_92, gM_halfway_95, gM_halfway_96, gM_halfway_99, gM_halfway_101, gM_halfway_102, gM_halfway_105, gM_halfway_106, gM_halfway_109, gM_halfway_111, gM_halfway_112, gM_halfway_115, gM_halfway_117, gM_halfway_119, gM_halfway_120, gM_halfway_122, gM_halfway_125, gM_halfway_128, gM_halfway_130, ↓reduceIte, Bool.false_eq_true, Bool.true_eq_false, qk_i, qk_r, qk_n, Option.toList_some, Option.toList_none, List.cons_append, List.nil_append, true_and, and_true, true_or, or_true, eq_self, if_true, if_false, q_b1, q_b2, c_A, c_R, c_O, c_M, c_H1, c_H8, c_H15, rf_M22, aD_44, hin]
    split
    · exact w_M_halfway_l (fun x => hQ x M' (hM'.up SfSm)) 1024 0 (by omega) _
    · exact hQ _ _ (hM'.up SfSm)
  rw [e_M_halfway]
  simp only [gM_halfway_0, gM_halfway_1, gM_halfway_2, gM_halfway_5, gM_halfway_6, gM_halfway_7, gM_halfway_10, gM_halfway_11, gM_halfway_12, gM_halfway_13, gM_halfway_14, gM_halfway_17, gM_halfway_18, gM_halfway_19, gM_halfway_20, gM_halfway_23, gM_halfway_26, gM_halfway_27, gM_halfway_28, gM_halfway_31, gM_halfway_32, gM_halfway_33, gM_halfway_36, gM_halfway_38, gM_halfway_39, gM_halfway_42, gM_halfway_43, gM_halfway_46, gM_halfway_47, gM_halfway_48, gM_halfway_51, gM_halfway_53, gM_halfway_54, gM_halfway_55, gM_halfway_57, gM_halfway_58, gM_halfway_60, gM_halfway_62, gM_halfway_65, gM_halfway_68, gM_halfway_69, gM_halfway_71, gM_halfway_72, gM_halfway_75, gM_halfway_78, gM_halfway_80, gM_halfway_83, gM_halfway_84, gM_halfway_87, gM_halfway_90, gM_halfway_91, gM_halfway_92, gM_halfway_95, gM_halfway_96, gM_halfway_99, gM_halfway_101, gM_halfway_102, gM_halfway_105, gM_halfway_106, gM_halfway_109, gM_halfway_111, gM_halfway_112, gM_halfway_115, gM_halfway_117, gM_halfway_119, gM_halfway_120, gM_halfway_122, gM_halfway_125, gM_halfway_128, gM_halfway_130, ↓reduceIte, Bool.false_eq_true, Bool.true_eq_false, qk_i, qk_r, qk_n, Option.toList_some, Option.toList_none, List.cons_append, List.nil_append, true_and, and_true, true_or, or_true, eq_self, if_true, if_false, q_b1, q_b2, c_A, c_R, c_O, c_M, c_H1, c_H8, c_H15, x_M_notAimed, x_M_bits, x_M_bound, x_M_no (aim_in (M := M) (s := a)), x_M_no bound_in]
  by_cases h0 : s_aim M a = 0
  · simp only [h0, not_true, if_false]
    split
    · exact e37 h0 _
    · exact hQ _ _ eqm_no
  · simp only [h0, not_false_eq_true, if_true, if_false]
    exact hQ _ _ eqm_no
theorem w_M_drawer {a b c : Int32} (hQ : ∀ (x : Int64) M', eqx Sm M M' → Q (some (.long x)) M') : q_Run 104 [.ref 30, .int a, .int b, .int c] M Q := by
  have e0 : q_g 104 none Q 45 [some (.ref 30), some (.int a), some (.int b), some (.int c), none] [.int 0] M := by
    simp only [gM_drawer_0, gM_drawer_1, gM_drawer_2, gM_drawer_5, gM_drawer_6, gM_drawer_9, gM_drawer_11, gM_drawer_14, gM_drawer_15, gM_drawer_17, gM_drawer_20, gM_drawer_21, gM_drawer_22, gM_drawer_25, gM_drawer_27, gM_drawer_30, gM_drawer_31, gM_drawer_32, gM_drawer_33, gM_drawer_36, gM_drawer_39, gM_drawer_41, gM_drawer_44, gM_drawer_45, gM_drawer_47, gM_drawer_49, gM_drawer_52, gM_drawer_53, gM_drawer_55, gM_drawer_58, gM_drawer_59, gM_drawer_60, gM_drawer_61, gM_drawer_64, gM_drawer_65, gM_drawer_68, gM_drawer_69, gM_drawer_70, gM_drawer_71, gM_drawer_72, gM_drawer_73, gM_drawer_74, gM_drawer_77, gM_drawer_78, gM_drawer_81, ↓reduceIte, Bool.false_eq_true, Bool.true_eq_false, qk_i, qk_r, qk_n, Option.toList_some, Option.toList_none, List.cons_append, List.nil_append, true_and, and_true, true_or, or_true, eq_self, if_true, if_false, q_b1, q_b2, c_A, c_R, c_O, c_M, c_H1, c_H8, c_H15]
    split
    · refine w_M_partOf l_2 fun v => ?_
      simp only [gM_drawer_0, gM_drawer_1, gM_drawer_2, gM_drawer_5, gM_drawer_6, gM_drawer_9, gM_drawer_11, gM_drawer_14, gM_drawer_15, gM_drawer_17, gM_drawer_20, gM_drawer_21, gM_drawer_22, gM_drawer_25, gM_drawer_27, gM_drawer_30, gM_drawer_31, gM_drawer_32, gM_drawer_33, gM_drawer_36, gM_drawer_39, gM_drawer_41, gM_drawer_44, gM_drawer_45, gM_drawer_47, gM_drawer_49, gM_drawer_52, gM_drawer_53, gM_drawer_55, gM_drawer_58, gM_drawer_59, gM_drawer_60, gM_drawer_61, gM_drawer_64, gM_drawer_65, gM_drawer_68, gM_drawer_69, gM_drawer_70, gM_drawer_71, gM_drawer_72, gM_drawer_73, gM_drawer_74, gM_drawer_77, gM_drawer_78, gM_drawer_81, ↓reduceIte, Bool.false_eq_true, Bool.true_eq_false, qk_i, qk_r, qk_n, Option.toList_some, Option.toList_none, List.cons_append, List.nil_append, true_and, and_true, true_or, or_true, eq_self, if_true, if_false, q_b1, q_b2, c_A, c_R, c_O, c_M, c_H1, c_H8, c_H15]
      exact hQ _ _ eqx.rf
    · exact hQ _ _ eqx.rf
  have e1 : ∀ w : Int32, q_in (-w) 7 = true → ¬ w = 0 → q_g 104 none Q 45 [some (.ref 30), some (.int a), some (.int b), some (.int c), none] [.int w] M := by
    intro w hw hz
    simp only [gM_drawer_0, gM_drawer_1, gM_drawer_2, gM_drawer_5, gM_drawer_6, gM_drawer_9, gM_drawer_11, gM_drawer_14, gM_drawer_15, gM_drawer_17, gM_drawer_20, gM_drawer_21, gM_drawer_22, gM_drawer_25, gM_drawer_27, gM_drawer_30, gM_drawer_31, gM_drawer_32, gM_drawer_33, gM_drawer_36, gM_drawer_39, gM_drawer_41, gM_drawer_44, gM_drawer_45, gM_drawer_47, gM_drawer_49, gM_drawer_52, gM_drawer_53, gM_drawer_55, gM_drawer_58, gM_drawer_59, gM_drawer_60, gM_drawer_61, gM_drawer_64, gM_drawer_65, gM_drawer_68, gM_drawer_69, gM_drawer_70, gM_drawer_71, gM_drawer_72, gM_drawer_73, gM_drawer_74, gM_drawer_77, gM_drawer_78, gM_drawer_81, ↓reduceIte, Bool.false_eq_true, Bool.true_eq_false, qk_i, qk_r, qk_n, Option.toList_some, Option.toList_none, List.cons_append, List.nil_append, true_and, and_true, true_or, or_true, eq_self, if_true, if_false, q_b1, q_b2, c_A, c_R, c_O, c_M, c_H1, c_H8, c_H15, hz, x_M_lowest hw]
    exact hQ _ _ eqm_no
  rw [e_M_drawer]
  simp only [gM_drawer_0, gM_drawer_1, gM_drawer_2, gM_drawer_5, gM_drawer_6, gM_drawer_9, gM_drawer_11, gM_drawer_14, gM_drawer_15, gM_drawer_17, gM_drawer_20, gM_drawer_21, gM_drawer_22, gM_drawer_25, gM_drawer_27, gM_drawer_30, gM_drawer_31, gM_drawer_32, gM_drawer_33, gM_drawer_36, gM_drawer_39, gM_drawer_41, gM_drawer_44, gM_drawer_47, gM_drawer_49, gM_drawer_52, gM_drawer_53, gM_drawer_55, gM_drawer_58, gM_drawer_59, gM_drawer_60, gM_drawer_61, gM_drawer_64, gM_drawer_65, gM_drawer_68, gM_drawer_69, gM_drawer_70, gM_drawer_71, gM_drawer_72, gM_drawer_73, gM_drawer_74, gM_drawer_77, gM_drawer_78, gM_drawer_81, ↓reduceIte, Bool.false_eq_true, Bool.true_eq_false, qk_i, qk_r, qk_n, Option.toList_some, Option.toList_none, List.cons_append, List.nil_append, true_and, and_true, true_or, or_true, eq_self, if_true, if_false, q_b1, q_b2, c_A, c_R, c_O, c_M, c_H1, c_H8, c_H15, x_M_isIn, q_z0]
  repeat' split
  all_goals first
    | with_reducible exact e0
    | exact e1 _ (by decide) (by decide)
theorem w_M_isBetter {kd : Int32} {i j s : Nat} (hv : v_m M n h) (hi : i < n) (hj : j < n) (hs : s < 1024) (hQ : ∀ x : Int32, (x = 0 ∨ x = 1) → Q (some (.int x)) M) : q_Run 113 [.ref 30, .int kd, .int (nI i), .int (nI j), .int (nI s)] M Q := by
  have h10 := hv.2.1
  have hin1 : q_in (nI i) 10 = true := q_in_nI (by omega) (by omega)
  have hin2 : q_in (nI j) 10 = true := q_in_nI (by omega) (by omega)
  rw [e_M_isBetter]
  simp only [gM_isBetter_0, gM_isBetter_1, gM_isBetter_36, gM_isBetter_37, gM_isBetter_38, gM_isBetter_40, gM_isBetter_43, gM_isBetter_44, gM_isBetter_45, gM_isBetter_47, gM_isBetter_50, gM_isBetter_53, gM_isBetter_54, gM_isBetter_57, gM_isBetter_58, gM_isBetter_59, gM_isBetter_60, gM_isBetter_63, gM_isBetter_64, gM_isBetter_65, gM_isBetter_66, gM_isBetter_69, gM_isBetter_70, gM_isBetter_71, gM_isBetter_74, gM_isBetter_75, gM_isBetter_78, gM_isBetter_79, gM_isBetter_80, gM_isBetter_81, gM_isBetter_83, gM_isBetter_84, gM_isBetter_85, gM_isBetter_86, gM_isBetter_87, gM_isBetter_90, gM_isBetter_93, gM_isBetter_94, gM_isBetter_96, gM_isBetter_97, gM_isBetter_98, gM_isBetter_99, gM_isBetter_100, gM_isBetter_103, gM_isBetter_106, gM_isBetter_109, gM_isBetter_110, gM_isBetter_113, gM_isBetter_114, gM_isBetter_115, gM_isBetter_116, gM_isBetter_119, gM_isBetter_120, gM_isBetter_121, gM_isBetter_122, gM_isBetter_125, gM_isBetter_126, gM_isBetter_127, gM_isBetter_130, gM_isBetter_131, gM_isBetter_134, gM_isBetter_135, gM_isBetter_136, gM_isBetter_137, gM_isBetter_140, gM_isBetter_141, gM_isBetter_142, gM_isBetter_143, gM_isBetter_146, gM_isBetter_147, gM_isBetter_148, gM_isBetter_151, gM_isBetter_152, gM_isBetter_155, gM_isBetter_156, gM_isBetter_157, gM_isBetter_158, ↓reduceIte, Bool.false_eq_true, Bool.true_eq_false, qk_i, qk_r, qk_n, Option.toList_some, Option.toList_none, List.cons_append, List.nil_append, true_and, and_true, true_or, or_true, eq_self, if_true, if_false, q_b1, q_b2, c_A, c_R, c_O, c_M, c_H1, c_H8, c_H15, rf_M3, rf_M4, aD_34, aD_35, hin1, hin2, or1_nI (show i < 31 by omega)]
  repeat' split
  all_goals first
    | exact hQ _ (by decide)
    | (refine w_M_goOf (by omega) fun x => ?_
       simp only [gM_isBetter_0, gM_isBetter_1, gM_isBetter_36, gM_isBetter_37, gM_isBetter_38, gM_isBetter_40, gM_isBetter_43, gM_isBetter_44, gM_isBetter_45, gM_isBetter_47, gM_isBetter_50, gM_isBetter_53, gM_isBetter_54, gM_isBetter_57, gM_isBetter_58, gM_isBetter_59, gM_isBetter_60, gM_isBetter_63, gM_isBetter_64, gM_isBetter_65, gM_isBetter_66, gM_isBetter_69, gM_isBetter_70, gM_isBetter_71, gM_isBetter_74, gM_isBetter_75, gM_isBetter_78, gM_isBetter_79, gM_isBetter_80, gM_isBetter_81, gM_isBetter_83, gM_isBetter_84, gM_isBetter_85, gM_isBetter_86, gM_isBetter_87, gM_isBetter_90, gM_isBetter_93, gM_isBetter_94, gM_isBetter_96, gM_isBetter_97, gM_isBetter_98, gM_isBetter_99, gM_isBetter_100, gM_isBetter_103, gM_isBetter_106, gM_isBetter_109, gM_isBetter_110, gM_isBetter_113, gM_isBetter_114, gM_isBetter_115, gM_isBetter_116, gM_isBetter_119, gM_isBetter_120, gM_isBetter_121, gM_isBetter_122, gM_isBetter_125, gM_isBetter_126, gM_isBetter_127, gM_isBetter_130, gM_isBetter_131, gM_isBetter_134, gM_isBetter_135, gM_isBetter_136, gM_isBetter_137, gM_isBetter_140, gM_isBetter_141, gM_isBetter_142, gM_isBetter_143, gM_isBetter_146, gM_isBetter_147, gM_isBetter_148, gM_isBetter_151, gM_isBetter_152, gM_isBetter_155, gM_isBetter_156, gM_isBetter_157, gM_isBetter_158, ↓reduceIte, Bool.false_eq_true, Bool.true_eq_false, qk_i, qk_r, qk_n, Option.toList_some, Option.toList_none, List.cons_append, List.nil_append, true_and, and_true, true_or, or_true, eq_self, if_true, if_false, q_b1, q_b2, c_A, c_R, c_O, c_M, c_H1, c_H8, c_H15]
       refine w_M_goOf (by omega) fun z => ?_
       simp only [gM_isBetter_0, gM_isBetter_1, gM_isBetter_36, gM_isBetter_37, gM_isBetter_38, gM_isBetter_40, gM_isBetter_43, gM_isBetter_44, gM_isBetter_45, gM_isBetter_47, gM_isBetter_50, gM_isBetter_53, gM_isBetter_54, gM_isBetter_57, gM_isBetter_58, gM_isBetter_59, gM_isBetter_60, gM_isBetter_63, gM_isBetter_64, gM_isBetter_65, gM_isBetter_66, gM_isBetter_69, gM_isBetter_70, gM_isBetter_71, gM_isBetter_74, gM_isBetter_75, gM_isBetter_78, gM_isBetter_79, gM_isBetter_80, gM_isBetter_81, gM_isBetter_83, gM_isBetter_84, gM_isBetter_85, gM_isBetter_86, gM_isBetter_87, gM_isBetter_90, gM_isBetter_93, gM_isBetter_94, gM_isBetter_96, gM_isBetter_97, gM_isBetter_98, gM_isBetter_99, gM_isBetter_100, gM_isBetter_103, gM_isBetter_106, gM_isBetter_109, gM_isBetter_110, gM_isBetter_113, gM_isBetter_114, gM_isBetter_115, gM_isBetter_116, gM_isBetter_119, gM_isBetter_120, gM_isBetter_121, gM_isBetter_122, gM_isBetter_125, gM_isBetter_126, gM_isBetter_127, gM_isBetter_130, gM_isBetter_131, gM_isBetter_134, gM_isBetter_135, gM_isBetter_136, gM_isBetter_137, gM_isBetter_140, gM_isBetter_141, gM_isBetter_142, gM_isBetter_143, gM_isBetter_146, gM_isBetter_147, gM_isBetter_148, gM_isBetter_151, gM_isBetter_152, gM_isBetter_155, gM_isBetter_156, gM_isBetter_157, gM_isBetter_158, ↓reduceIte, Bool.false_eq_true, Bool.true_eq_false, qk_i, qk_r, qk_n, Option.toList_some, Option.toList_none, List.cons_append, List.nil_append, true_and, and_true, true_or, or_true, eq_self, if_true, if_false, q_b1, q_b2, c_A, c_R, c_O, c_M, c_H1, c_H8, c_H15]
       split <;> exact hQ _ (by decide))
    | (refine w_M_mayBy hv (or1_lt hs (by omega)) fun m hm hd => ?_
       simp only [gM_isBetter_0, gM_isBetter_1, gM_isBetter_36, gM_isBetter_37, gM_isBetter_38, gM_isBetter_40, gM_isBetter_43, gM_isBetter_44, gM_isBetter_45, gM_isBetter_47, gM_isBetter_50, gM_isBetter_53, gM_isBetter_54, gM_isBetter_57, gM_isBetter_58, gM_isBetter_59, gM_isBetter_60, gM_isBetter_63, gM_isBetter_64, gM_isBetter_65, gM_isBetter_66, gM_isBetter_69, gM_isBetter_70, gM_isBetter_71, gM_isBetter_74, gM_isBetter_75, gM_isBetter_78, gM_isBetter_79, gM_isBetter_80, gM_isBetter_81, gM_isBetter_83, gM_isBetter_84, gM_isBetter_85, gM_isBetter_86, gM_isBetter_87, gM_isBetter_90, gM_isBetter_93, gM_isBetter_94, gM_isBetter_96, gM_isBetter_97, gM_isBetter_98, gM_isBetter_99, gM_isBetter_100, gM_isBetter_103, gM_isBetter_106, gM_isBetter_109, gM_isBetter_110, gM_isBetter_113, gM_isBetter_114, gM_isBetter_115, gM_isBetter_116, gM_isBetter_119, gM_isBetter_120, gM_isBetter_121, gM_isBetter_122, gM_isBetter_125, gM_isBetter_126, gM_isBetter_127, gM_isBetter_130, gM_isBetter_131, gM_isBetter_134, gM_isBetter_135, gM_isBetter_136, gM_isBetter_137, gM_isBetter_140, gM_isBetter_141, gM_isBetter_142, gM_isBetter_143, gM_isBetter_146, gM_isBetter_147, gM_isBetter_148, gM_isBetter_151, gM_isBetter_152, gM_isBetter_155, gM_isBetter_156, gM_isBetter_157, gM_isBetter_158, ↓reduceIte, Bool.false_eq_true, Bool.true_eq_false, qk_i, qk_r, qk_n, Option.toList_some, Option.toList_none, List.cons_append, List.nil_append, true_and, and_true, true_or, or_true, eq_self, if_true, if_false, q_b1, q_b2, c_A, c_R, c_O, c_M, c_H1, c_H8, c_H15, x_M_bits, or1_nI (show j < 31 by omega)]
       refine w_M_mayBy hv (or1_lt hs (by omega)) fun m2 hm2 hd2 => ?_
       simp only [gM_isBetter_0, gM_isBetter_1, gM_isBetter_36, gM_isBetter_37, gM_isBetter_38, gM_isBetter_40, gM_isBetter_43, gM_isBetter_44, gM_isBetter_45, gM_isBetter_47, gM_isBetter_50, gM_isBetter_53, gM_isBetter_54, gM_isBetter_57, gM_isBetter_58, gM_isBetter_59, gM_isBetter_60, gM_isBetter_63, gM_isBetter_64, gM_isBetter_65, gM_isBetter_66, gM_isBetter_69, gM_isBetter_70, gM_isBetter_71, gM_isBetter_74, gM_isBetter_75, gM_isBetter_78, gM_isBetter_79, gM_isBetter_80, gM_isBetter_81, gM_isBetter_83, gM_isBetter_84, gM_isBetter_85, gM_isBetter_86, gM_isBetter_87, gM_isBetter_90, gM_isBetter_93, gM_isBetter_94, gM_isBetter_96, gM_isBetter_97, gM_isBetter_98, gM_isBetter_99, gM_isBetter_100, gM_isBetter_103, gM_isBetter_106, gM_isBetter_109, gM_isBetter_110, gM_isBetter_113, gM_isBetter_114, gM_isBetter_115, gM_isBetter_116, gM_isBetter_119, gM_isBetter_120, gM_isBetter_121, gM_isBetter_122, gM_isBetter_125, gM_isBetter_126, gM_isBetter_127, gM_isBetter_130, gM_isBetter_131, gM_isBetter_134, gM_isBetter_135, gM_isBetter_136, gM_isBetter_137, gM_isBetter_140, gM_isBetter_141, gM_isBetter_142, gM_isBetter_143, gM_isBetter_146, gM_isBetter_147, gM_isBetter_148, gM_isBetter_151, gM_isBetter_152, gM_isBetter_155, gM_isBetter_156, gM_isBetter_157, gM_isBetter_158, ↓reduceIte, Bool.false_eq_true, Bool.true_eq_false, qk_i, qk_r, qk_n, Option.toList_some, Option.toList_none, List.cons_append, List.nil_append, true_and, and_true, true_or, or_true, eq_self, if_true, if_false, q_b1, q_b2, c_A, c_R, c_O, c_M, c_H1, c_H8, c_H15, x_M_bits]
       split <;> exact hQ _ (by decide))
/-- none, or a thing that isn't in the set -/
def p_sg (n s : Nat) (b : Int32) : Prop := b = -9 ∨ ∃ i, i < n ∧ b = nI i ∧ s.testBit i = false
theorem w_M_sought_l {kd : Int32} {s m : Nat} (hv : v_m M n h) (hs : s < 1024) (hm : m < 1024) (hd : ∀ i, m.testBit i = true → s.testBit i = false) (hQ : ∀ x : Int32, p_sg n s x → Q (some (.int x)) M) : ∀ k j, j + k = n → ∀ b : Int32, p_sg n s b →
    q_g 147 none Q 13 [some (.ref 30), some (.int kd), some (.int (nI s)), some (.int (nI m)), some (.int b), some (.int (nI j))] [] M := by
  have h10 := hv.2.1
  intro k
  induction k with
  | zero =>
    intro j hj b hb
    have : j = n := by omega
    subst this
    rw [gM_sought_13]
    simp only [gM_sought_0, gM_sought_1, gM_sought_2, gM_sought_5, gM_sought_6, gM_sought_8, gM_sought_10, gM_sought_11, gM_sought_15, gM_sought_16, gM_sought_19, gM_sought_22, gM_sought_23, gM_sought_25, gM_sought_28, gM_sought_31, gM_sought_33, gM_sought_36, gM_sought_37, gM_sought_38, gM_sought_40, gM_sought_42, gM_sought_43, gM_sought_46, gM_sought_49, gM_sought_51, gM_sought_53, gM_sought_56, gM_sought_59, gM_sought_61, ↓reduceIte, Bool.false_eq_true, Bool.true_eq_false, qk_i, qk_r, qk_n, Option.toList_some, Option.toList_none, List.cons_append, List.nil_append, true_and, and_true, true_or, or_true, eq_self, if_true, if_false, q_b1, q_b2, c_A, c_R, c_O, c_M, c_H1, c_H8, c_H15, hv.1, Int32.le_refl]
    exact hQ _ hb
  | succ k ih =>
    intro j hj b hb
    have h1 : ¬ nI n ≤ nI j := nI_ge (by omega) (by omega)
    rw [gM_sought_13]
    simp only [gM_sought_0, gM_sought_1, gM_sought_2, gM_sought_5, gM_sought_6, gM_sought_8, gM_sought_10, gM_sought_11, gM_sought_15, gM_sought_16, gM_sought_19, gM_sought_22, gM_sought_23, gM_sought_25, gM_sought_28, gM_sought_31, gM_sought_33, gM_sought_36, gM_sought_37, gM_sought_38, gM_sought_40, gM_sought_42, gM_sought_43, gM_sought_46, gM_sought_49, gM_sought_51, gM_sought_53, gM_sought_56, gM_sought_59, gM_sought_61, ↓reduceIte, Bool.false_eq_true, Bool.true_eq_false, qk_i, qk_r, qk_n, Option.toList_some, Option.toList_none, List.cons_append, List.nil_append, true_and, and_true, true_or, or_true, eq_self, if_true, if_false, q_b1, q_b2, c_A, c_R, c_O, c_M, c_H1, c_H8, c_H15, hv.1, h1, x_M_has, has_nI (show m < 2 ^ 31 by omega) (show j < 31 by omega), q_z0, nI_1]
    by_cases hb1 : m.testBit j = false
    · rw [if_pos hb1]
      exact ih (j + 1) (by omega) _ hb
    · rw [if_neg hb1]
      have hb2 : m.testBit j = true := (Bool.not_eq_false _).mp hb1
      have hnew : p_sg n s (nI j) := Or.inr ⟨j, by omega, rfl, hd j hb2⟩
      rcases hb with rfl | ⟨i, hi, rfl, hib⟩
      · rw [if_pos (by decide)]
        exact ih (j + 1) (by omega) _ hnew
      · rw [if_neg (nI_pos (by omega))]
        refine w_M_isBetter hv (by omega) hi hs fun x hx => ?_
        simp only [gM_sought_0, gM_sought_1, gM_sought_2, gM_sought_5, gM_sought_6, gM_sought_8, gM_sought_10, gM_sought_11, gM_sought_15, gM_sought_16, gM_sought_19, gM_sought_22, gM_sought_23, gM_sought_25, gM_sought_28, gM_sought_31, gM_sought_33, gM_sought_36, gM_sought_37, gM_sought_38, gM_sought_40, gM_sought_42, gM_sought_43, gM_sought_46, gM_sought_49, gM_sought_51, gM_sought_53, gM_sought_56, gM_sought_59, gM_sought_61, ↓reduceIte, Bool.false_eq_true, Bool.true_eq_false, qk_i, qk_r, qk_n, Option.toList_some, Option.toList_none, List.cons_append, List.nil_append, true_and, and_true, true_or, or_true, eq_self, if_true, if_false, q_b1, q_b2, c_A, c_R, c_O, c_M, c_H1, c_H8, c_H15, nI_1]
        split
        · exact ih (j + 1) (by omega) _ (Or.inr ⟨i, hi, rfl, hib⟩)
        · exact ih (j + 1) (by omega) _ hnew
theorem w_M_sought {kd : Int32} {s : Nat} (hv : v_m M n h) (hs : s < 1024) (hQ : ∀ x : Int32, p_sg n s x → Q (some (.int x)) M) : q_Run 147 [.ref 30, .int kd, .int (nI s)] M Q := by
  have h2 := two_pow_le hv.2.1
  rw [e_M_sought]
  simp only [gM_sought_0, gM_sought_1, gM_sought_2, gM_sought_5, gM_sought_6, gM_sought_8, gM_sought_10, gM_sought_11, gM_sought_15, gM_sought_16, gM_sought_19, gM_sought_22, gM_sought_23, gM_sought_25, gM_sought_28, gM_sought_31, gM_sought_33, gM_sought_36, gM_sought_37, gM_sought_38, gM_sought_40, gM_sought_42, gM_sought_43, gM_sought_46, gM_sought_49, gM_sought_51, gM_sought_53, gM_sought_56, gM_sought_59, gM_sought_61, ↓reduceIte, Bool.false_eq_true, Bool.true_eq_false, qk_i, qk_r, qk_n, Option.toList_some, Option.toList_none, List.cons_append, List.nil_append, true_and, and_true, true_or, or_true, eq_self, if_true, if_false, q_b1, q_b2, c_A, c_R, c_O, c_M, c_H1, c_H8, c_H15]
  refine w_M_mayBy hv hs fun m hm hd => ?_
  simp only [gM_sought_0, gM_sought_1, gM_sought_2, gM_sought_5, gM_sought_6, gM_sought_8, gM_sought_10, gM_sought_11, gM_sought_15, gM_sought_16, gM_sought_19, gM_sought_22, gM_sought_23, gM_sought_25, gM_sought_28, gM_sought_31, gM_sought_33, gM_sought_36, gM_sought_37, gM_sought_38, gM_sought_40, gM_sought_42, gM_sought_43, gM_sought_46, gM_sought_49, gM_sought_51, gM_sought_53, gM_sought_56, gM_sought_59, gM_sought_61, ↓reduceIte, Bool.false_eq_true, Bool.true_eq_false, qk_i, qk_r, qk_n, Option.toList_some, Option.toList_none, List.cons_append, List.nil_append, true_and, and_true, true_or, or_true, eq_self, if_true, if_false, q_b1, q_b2, c_A, c_R, c_O, c_M, c_H1, c_H8, c_H15]
  exact w_M_sought_l hv hs (by omega) hd hQ n 0 (by omega) _ (Or.inl rfl)
theorem or_bit_gt {s i : Nat} (hb : s.testBit i = false) : s < s ||| 2 ^ i := by
  refine or_gt (Nat.ne_of_gt (Nat.two_pow_pos i)) fun k hk => ?_
  rw [Nat.testBit_two_pow] at hk
  have : i = k := of_decide_eq_true hk
  subst this
  exact hb
theorem w_M_seeks_l {kd : Int32} (hv : v_m M n h) (hQ : ∀ x : Int32, Q (some (.int x)) M) : ∀ k (s : Nat) (ac t : Int32), 1024 - s ≤ k → s < 1024 → p_sg n s t →
    q_g 145 none Q 31 [some (.ref 30), some (.int kd), some (.int (nI s)), some (.int ac), some (.int t)] [] M := by
  have h10 := hv.2.1
  intro k
  induction k with
  | zero =>
    intro s ac t hk hs
    omega
  | succ k ih =>
    intro s ac t hk hs ht
    rcases ht with rfl | ⟨i, hi, rfl, hib⟩
    · have h1 : (-9 : Int32) < 0 := by decide
      rw [gM_seeks_31]
      simp only [gM_seeks_0, gM_seeks_1, gM_seeks_2, gM_seeks_3, gM_seeks_6, gM_seeks_9, gM_seeks_10, gM_seeks_12, gM_seeks_15, gM_seeks_16, gM_seeks_17, gM_seeks_20, gM_seeks_21, gM_seeks_22, gM_seeks_23, gM_seeks_24, gM_seeks_25, gM_seeks_26, gM_seeks_29, gM_seeks_33, gM_seeks_36, gM_seeks_37, gM_seeks_38, gM_seeks_40, gM_seeks_41, gM_seeks_44, gM_seeks_45, gM_seeks_46, gM_seeks_47, gM_seeks_48, gM_seeks_50, gM_seeks_51, gM_seeks_52, gM_seeks_53, gM_seeks_54, gM_seeks_55, gM_seeks_56, gM_seeks_59, gM_seeks_61, gM_seeks_64, gM_seeks_65, ↓reduceIte, Bool.false_eq_true, Bool.true_eq_false, qk_i, qk_r, qk_n, Option.toList_some, Option.toList_none, List.cons_append, List.nil_append, true_and, and_true, true_or, or_true, eq_self, if_true, if_false, q_b1, q_b2, c_A, c_R, c_O, c_M, c_H1, c_H8, c_H15, h1]
      exact hQ _
    · have h1 : ¬ nI i < 0 := nI_pos (by omega)
      have hlt := or1_lt hs (show i < 10 by omega)
      have hgt := or_bit_gt hib
      rw [gM_seeks_31]
      simp only [gM_seeks_0, gM_seeks_1, gM_seeks_2, gM_seeks_3, gM_seeks_6, gM_seeks_9, gM_seeks_10, gM_seeks_12, gM_seeks_15, gM_seeks_16, gM_seeks_17, gM_seeks_20, gM_seeks_21, gM_seeks_22, gM_seeks_23, gM_seeks_24, gM_seeks_25, gM_seeks_26, gM_seeks_29, gM_seeks_33, gM_seeks_36, gM_seeks_37, gM_seeks_38, gM_seeks_40, gM_seeks_41, gM_seeks_44, gM_seeks_45, gM_seeks_46, gM_seeks_47, gM_seeks_48, gM_seeks_50, gM_seeks_51, gM_seeks_52, gM_seeks_53, gM_seeks_54, gM_seeks_55, gM_seeks_56, gM_seeks_59, gM_seeks_61, gM_seeks_64, gM_seeks_65, ↓reduceIte, Bool.false_eq_true, Bool.true_eq_false, qk_i, qk_r, qk_n, Option.toList_some, Option.toList_none, List.cons_append, List.nil_append, true_and, and_true, true_or, or_true, eq_self, if_true, if_false, q_b1, q_b2, c_A, c_R, c_O, c_M, c_H1, c_H8, c_H15, h1]
      refine w_M_goOf (by omega) fun x => ?_
      simp only [gM_seeks_0, gM_seeks_1, gM_seeks_2, gM_seeks_3, gM_seeks_6, gM_seeks_9, gM_seeks_10, gM_seeks_12, gM_seeks_15, gM_seeks_16, gM_seeks_17, gM_seeks_20, gM_seeks_21, gM_seeks_22, gM_seeks_23, gM_seeks_24, gM_seeks_25, gM_seeks_26, gM_seeks_29, gM_seeks_33, gM_seeks_36, gM_seeks_37, gM_seeks_38, gM_seeks_40, gM_seeks_41, gM_seeks_44, gM_seeks_45, gM_seeks_46, gM_seeks_47, gM_seeks_48, gM_seeks_50, gM_seeks_51, gM_seeks_52, gM_seeks_53, gM_seeks_54, gM_seeks_55, gM_seeks_56, gM_seeks_59, gM_seeks_61, gM_seeks_64, gM_seeks_65, ↓reduceIte, Bool.false_eq_true, Bool.true_eq_false, qk_i, qk_r, qk_n, Option.toList_some, Option.toList_none, List.cons_append, List.nil_append, true_and, and_true, true_or, or_true, eq_self, if_true, if_false, q_b1, q_b2, c_A, c_R, c_O, c_M, c_H1, c_H8, c_H15, or1_nI (show i < 31 by omega)]
      refine w_M_sought hv hlt fun t ht => ?_
      simp only [gM_seeks_0, gM_seeks_1, gM_seeks_2, gM_seeks_3, gM_seeks_6, gM_seeks_9, gM_seeks_10, gM_seeks_12, gM_seeks_15, gM_seeks_16, gM_seeks_17, gM_seeks_20, gM_seeks_21, gM_seeks_22, gM_seeks_23, gM_seeks_24, gM_seeks_25, gM_seeks_26, gM_seeks_29, gM_seeks_33, gM_seeks_36, gM_seeks_37, gM_seeks_38, gM_seeks_40, gM_seeks_41, gM_seeks_44, gM_seeks_45, gM_seeks_46, gM_seeks_47, gM_seeks_48, gM_seeks_50, gM_seeks_51, gM_seeks_52, gM_seeks_53, gM_seeks_54, gM_seeks_55, gM_seeks_56, gM_seeks_59, gM_seeks_61, gM_seeks_64, gM_seeks_65, ↓reduceIte, Bool.false_eq_true, Bool.true_eq_false, qk_i, qk_r, qk_n, Option.toList_some, Option.toList_none, List.cons_append, List.nil_append, true_and, and_true, true_or, or_true, eq_self, if_true, if_false, q_b1, q_b2, c_A, c_R, c_O, c_M, c_H1, c_H8, c_H15]
      exact ih _ _ _ (by omega) hlt ht
theorem w_M_seeks {a : Int32} (hv : v_m M n h) (hQ : ∀ (x : Int32) M', eqx Sm M M' → Q (some (.int x)) M') : q_Run 145 [.ref 30, .int a] M Q := by
  rw [e_M_seeks]
  simp only [gM_seeks_0, gM_seeks_1, gM_seeks_2, gM_seeks_3, gM_seeks_6, gM_seeks_9, gM_seeks_10, gM_seeks_12, gM_seeks_15, gM_seeks_16, gM_seeks_17, gM_seeks_20, gM_seeks_21, gM_seeks_22, gM_seeks_23, gM_seeks_24, gM_seeks_25, gM_seeks_26, gM_seeks_29, gM_seeks_33, gM_seeks_36, gM_seeks_37, gM_seeks_38, gM_seeks_40, gM_seeks_41, gM_seeks_44, gM_seeks_45, gM_seeks_46, gM_seeks_47, gM_seeks_48, gM_seeks_50, gM_seeks_51, gM_seeks_52, gM_seeks_53, gM_seeks_54, gM_seeks_55, gM_seeks_56, gM_seeks_59, gM_seeks_61, gM_seeks_64, gM_seeks_65, ↓reduceIte, Bool.false_eq_true, Bool.true_eq_false, qk_i, qk_r, qk_n, Option.toList_some, Option.toList_none, List.cons_append, List.nil_append, true_and, and_true, true_or, or_true, eq_self, if_true, if_false, q_b1, q_b2, c_A, c_R, c_O, c_M, c_H1, c_H8, c_H15, x_M_isIn, q_z0, x_M_no no_2, hv.2.2.1]
  split
  · refine w_M_sought hv hv.hlt fun t ht => ?_
    simp only [gM_seeks_0, gM_seeks_1, gM_seeks_2, gM_seeks_3, gM_seeks_6, gM_seeks_9, gM_seeks_10, gM_seeks_12, gM_seeks_15, gM_seeks_16, gM_seeks_17, gM_seeks_20, gM_seeks_21, gM_seeks_22, gM_seeks_23, gM_seeks_24, gM_seeks_25, gM_seeks_26, gM_seeks_29, gM_seeks_33, gM_seeks_36, gM_seeks_37, gM_seeks_38, gM_seeks_40, gM_seeks_41, gM_seeks_44, gM_seeks_45, gM_seeks_46, gM_seeks_47, gM_seeks_48, gM_seeks_50, gM_seeks_51, gM_seeks_52, gM_seeks_53, gM_seeks_54, gM_seeks_55, gM_seeks_56, gM_seeks_59, gM_seeks_61, gM_seeks_64, gM_seeks_65, ↓reduceIte, Bool.false_eq_true, Bool.true_eq_false, qk_i, qk_r, qk_n, Option.toList_some, Option.toList_none, List.cons_append, List.nil_append, true_and, and_true, true_or, or_true, eq_self, if_true, if_false, q_b1, q_b2, c_A, c_R, c_O, c_M, c_H1, c_H8, c_H15]
    exact w_M_seeks_l hv (fun x => hQ x M eqx.rf) 1024 h _ _ (by omega) hv.hlt ht
  · exact hQ _ _ eqm_no
theorem w_M_seeker_l {kd kk o : Int32} (hv : v_m M n h) (hQ : ∀ x : Int32, Q (some (.int x)) M) : ∀ k (s : Nat) (t c : Int32), 1024 - s ≤ k → s < 1024 → p_sg n s t →
    q_g 144 none Q 53 [some (.ref 30), some (.int kd), some (.int kk), some (.int o), some (.int (nI s)), some (.int t), some (.int c)] [] M := by
  have h10 := hv.2.1
  intro k
  induction k with
  | zero =>
    intro s t c hk hs
    omega
  | succ k ih =>
    intro s t c hk hs ht
    rcases ht with rfl | ⟨i, hi, rfl, hib⟩
    · have h1 : (-9 : Int32) < 0 := by decide
      rw [gM_seeker_53]
      simp only [gM_seeker_0, gM_seeker_1, gM_seeker_2, gM_seeker_3, gM_seeker_6, gM_seeker_9, gM_seeker_11, gM_seeker_14, gM_seeker_15, gM_seeker_18, gM_seeker_20, gM_seeker_23, gM_seeker_24, gM_seeker_25, gM_seeker_26, gM_seeker_29, gM_seeker_30, gM_seeker_31, gM_seeker_34, gM_seeker_35, gM_seeker_36, gM_seeker_39, gM_seeker_41, gM_seeker_42, gM_seeker_43, gM_seeker_45, gM_seeker_48, gM_seeker_50, gM_seeker_51, gM_seeker_55, gM_seeker_56, gM_seeker_59, gM_seeker_61, gM_seeker_64, gM_seeker_66, gM_seeker_67, gM_seeker_69, gM_seeker_70, gM_seeker_71, gM_seeker_73, gM_seeker_74, gM_seeker_75, gM_seeker_77, gM_seeker_80, gM_seeker_82, gM_seeker_85, gM_seeker_88, gM_seeker_90, ↓reduceIte, Bool.false_eq_true, Bool.true_eq_false, qk_i, qk_r, qk_n, Option.toList_some, Option.toList_none, List.cons_append, List.nil_append, true_and, and_true, true_or, or_true, eq_self, if_true, if_false, q_b1, q_b2, c_A, c_R, c_O, c_M, c_H1, c_H8, c_H15, h1]
      split <;> exact hQ _
    · have h1 : ¬ nI i < 0 := nI_pos (by omega)
      have hlt := or1_lt hs (show i < 10 by omega)
      have hgt := or_bit_gt hib
      rw [gM_seeker_53]
      simp only [gM_seeker_0, gM_seeker_1, gM_seeker_2, gM_seeker_3, gM_seeker_6, gM_seeker_9, gM_seeker_11, gM_seeker_14, gM_seeker_15, gM_seeker_18, gM_seeker_20, gM_seeker_23, gM_seeker_24, gM_seeker_25, gM_seeker_26, gM_seeker_29, gM_seeker_30, gM_seeker_31, gM_seeker_34, gM_seeker_35, gM_seeker_36, gM_seeker_39, gM_seeker_41, gM_seeker_42, gM_seeker_43, gM_seeker_45, gM_seeker_48, gM_seeker_50, gM_seeker_51, gM_seeker_55, gM_seeker_56, gM_seeker_59, gM_seeker_61, gM_seeker_64, gM_seeker_66, gM_seeker_67, gM_seeker_69, gM_seeker_70, gM_seeker_71, gM_seeker_73, gM_seeker_74, gM_seeker_75, gM_seeker_77, gM_seeker_80, gM_seeker_82, gM_seeker_85, gM_seeker_88, gM_seeker_90, ↓reduceIte, Bool.false_eq_true, Bool.true_eq_false, qk_i, qk_r, qk_n, Option.toList_some, Option.toList_none, List.cons_append, List.nil_append, true_and, and_true, true_or, or_true, eq_self, if_true, if_false, q_b1, q_b2, c_A, c_R, c_O, c_M, c_H1, c_H8, c_H15, h1, or1_nI (show i < 31 by omega)]
      split
      · exact hQ _
      · refine w_M_sought hv hlt fun t ht => ?_
        simp only [gM_seeker_0, gM_seeker_1, gM_seeker_2, gM_seeker_3, gM_seeker_6, gM_seeker_9, gM_seeker_11, gM_seeker_14, gM_seeker_15, gM_seeker_18, gM_seeker_20, gM_seeker_23, gM_seeker_24, gM_seeker_25, gM_seeker_26, gM_seeker_29, gM_seeker_30, gM_seeker_31, gM_seeker_34, gM_seeker_35, gM_seeker_36, gM_seeker_39, gM_seeker_41, gM_seeker_42, gM_seeker_43, gM_seeker_45, gM_seeker_48, gM_seeker_50, gM_seeker_51, gM_seeker_55, gM_seeker_56, gM_seeker_59, gM_seeker_61, gM_seeker_64, gM_seeker_66, gM_seeker_67, gM_seeker_69, gM_seeker_70, gM_seeker_71, gM_seeker_73, gM_seeker_74, gM_seeker_75, gM_seeker_77, gM_seeker_80, gM_seeker_82, gM_seeker_85, gM_seeker_88, gM_seeker_90, ↓reduceIte, Bool.false_eq_true, Bool.true_eq_false, qk_i, qk_r, qk_n, Option.toList_some, Option.toList_none, List.cons_append, List.nil_append, true_and, and_true, true_or, or_true, eq_self, if_true, if_false, q_b1, q_b2, c_A, c_R, c_O, c_M, c_H1, c_H8, c_H15]
        exact ih _ _ _ (by omega) hlt ht
theorem w_M_seeker {a b : Int32} (hv : v_m M n h) (hQ : ∀ (x : Int32) M', eqx Sm M M' → Q (some (.int x)) M') : q_Run 144 [.ref 30, .int a, .int b] M Q := by
  have e35 : ∀ o : Int32, q_g 144 none Q 35 [some (.ref 30), some (.int a), some (.int b), some (.int o), none, none, none] [] M := by
    intro o
    simp only [gM_seeker_0, gM_seeker_1, gM_seeker_2, gM_seeker_3, gM_seeker_6, gM_seeker_9, gM_seeker_11, gM_seeker_14, gM_seeker_15, gM_seeker_18, gM_seeker_20, gM_seeker_23, gM_seeker_24, gM_seeker_25, gM_seeker_26, gM_seeker_29, gM_seeker_30, gM_seeker_31, gM_seeker_34, gM_seeker_35, gM_seeker_36, gM_seeker_39, gM_seeker_41, gM_seeker_42, gM_seeker_43, gM_seeker_45, gM_seeker_48, gM_seeker_50, gM_seeker_51, gM_seeker_55, gM_seeker_56, gM_seeker_59, gM_seeker_61, gM_seeker_64, gM_seeker_66, gM_seeker_67, gM_seeker_69, gM_seeker_70, gM_seeker_71, gM_seeker_73, gM_seeker_74, gM_seeker_75, gM_seeker_77, gM_seeker_80, gM_seeker_82, gM_seeker_85, gM_seeker_88, gM_seeker_90, ↓reduceIte, Bool.false_eq_true, Bool.true_eq_false, qk_i, qk_r, qk_n, Option.toList_some, Option.toList_none, List.cons_append, List.nil_append, true_and, and_true, true_or, or_true, eq_self, if_true, if_false, q_b1, q_b2, c_A, c_R, c_O, c_M, c_H1, c_H8, c_H15, hv.2.2.1]
    refine w_M_sought hv hv.hlt fun t ht => ?_
    simp only [gM_seeker_0, gM_seeker_1, gM_seeker_2, gM_seeker_3, gM_seeker_6, gM_seeker_9, gM_seeker_11, gM_seeker_14, gM_seeker_15, gM_seeker_18, gM_seeker_20, gM_seeker_23, gM_seeker_24, gM_seeker_25, gM_seeker_26, gM_seeker_29, gM_seeker_30, gM_seeker_31, gM_seeker_34, gM_seeker_35, gM_seeker_36, gM_seeker_39, gM_seeker_41, gM_seeker_42, gM_seeker_43, gM_seeker_45, gM_seeker_48, gM_seeker_50, gM_seeker_51, gM_seeker_55, gM_seeker_56, gM_seeker_59, gM_seeker_61, gM_seeker_64, gM_seeker_66, gM_seeker_67, gM_seeker_69, gM_seeker_70, gM_seeker_71, gM_seeker_73, gM_seeker_74, gM_seeker_75, gM_seeker_77, gM_seeker_80, gM_seeker_82, gM_seeker_85, gM_seeker_88, gM_seeker_90, ↓reduceIte, Bool.false_eq_true, Bool.true_eq_false, qk_i, qk_r, qk_n, Option.toList_some, Option.toList_none, List.cons_append, List.nil_append, true_and, and_true, true_or, or_true, eq_self, if_true, if_false, q_b1, q_b2, c_A, c_R, c_O, c_M, c_H1, c_H8, c_H15]
    exact w_M_seeker_l hv (fun x => hQ x M eqx.rf) 1024 h _ _ (by omega) hv.hlt ht
  have n2 : ((-2 : Int32) = 0) = False := by decide
  have n4 : ((-4 : Int32) = 0) = False := by decide
  rw [e_M_seeker]
  simp only [gM_seeker_0, gM_seeker_1, gM_seeker_2, gM_seeker_3, gM_seeker_6, gM_seeker_9, gM_seeker_11, gM_seeker_14, gM_seeker_15, gM_seeker_18, gM_seeker_20, gM_seeker_23, gM_seeker_24, gM_seeker_25, gM_seeker_26, gM_seeker_29, gM_seeker_30, gM_seeker_31, gM_seeker_34, gM_seeker_36, gM_seeker_39, gM_seeker_41, gM_seeker_42, gM_seeker_43, gM_seeker_45, gM_seeker_48, gM_seeker_50, gM_seeker_51, gM_seeker_53, gM_seeker_55, gM_seeker_56, gM_seeker_59, gM_seeker_61, gM_seeker_64, gM_seeker_66, gM_seeker_67, gM_seeker_69, gM_seeker_70, gM_seeker_71, gM_seeker_73, gM_seeker_74, gM_seeker_75, gM_seeker_77, gM_seeker_80, gM_seeker_82, gM_seeker_85, gM_seeker_88, gM_seeker_90, ↓reduceIte, Bool.false_eq_true, Bool.true_eq_false, qk_i, qk_r, qk_n, Option.toList_some, Option.toList_none, List.cons_append, List.nil_append, true_and, and_true, true_or, or_true, eq_self, if_true, if_false, q_b1, q_b2, c_A, c_R, c_O, c_M, c_H1, c_H8, c_H15, x_M_isIn, q_z0, n2, n4, x_M_no no_2, x_M_no no_4]
  repeat' split
  all_goals first
    | with_reducible exact hQ _ _ eqm_no
    | exact e35 _
theorem w_M_lots_l {kd sd : Int32} (hv : v_m M n h) (hQ : ∀ x : Int32, Q (some (.int x)) M) : ∀ k j, j + k = 60 → ∀ (z : Int32) (s : Nat) (ac t : Int32), s < 1024 → p_sg n s t →
    q_g 121 none Q 39 [some (.ref 30), some (.int kd), some (.int sd), some (.int z), some (.int (nI s)), some (.int ac), some (.int t), some (.int (nI j))] [] M := by
  have h10 := hv.2.1
  intro k
  induction k with
  | zero =>
    intro j hj z s ac t hs ht
    have : j = 60 := by omega
    subst this
    have h1 : (60 : Int32) ≤ nI 60 := by decide
    rw [gM_lots_39]
    simp only [gM_lots_0, gM_lots_1, gM_lots_2, gM_lots_3, gM_lots_6, gM_lots_9, gM_lots_10, gM_lots_12, gM_lots_15, gM_lots_16, gM_lots_17, gM_lots_18, gM_lots_19, gM_lots_22, gM_lots_24, gM_lots_25, gM_lots_27, gM_lots_28, gM_lots_29, gM_lots_31, gM_lots_34, gM_lots_36, gM_lots_37, gM_lots_41, gM_lots_43, gM_lots_46, gM_lots_48, gM_lots_51, gM_lots_53, gM_lots_54, gM_lots_56, gM_lots_58, gM_lots_61, gM_lots_62, gM_lots_64, gM_lots_65, gM_lots_67, gM_lots_68, gM_lots_70, gM_lots_71, gM_lots_72, gM_lots_74, gM_lots_75, gM_lots_77, gM_lots_78, gM_lots_81, gM_lots_82, gM_lots_84, gM_lots_85, gM_lots_86, gM_lots_89, gM_lots_91, gM_lots_92, gM_lots_95, gM_lots_96, gM_lots_98, gM_lots_99, gM_lots_102, gM_lots_103, gM_lots_104, gM_lots_106, gM_lots_107, gM_lots_108, gM_lots_110, gM_lots_113, gM_lots_115, gM_lots_118, gM_lots_121, gM_lots_123, ↓reduceIte, Bool.false_eq_true, Bool.true_eq_false, qk_i, qk_r, qk_n, Option.toList_some, Option.toList_none, List.cons_append, List.nil_append, true_and, and_true, true_or, or_true, eq_self, if_true, if_false, q_b1, q_b2, c_A, c_R, c_O, c_M, c_H1, c_H8, c_H15, h1]
    exact hQ _
  | succ k ih =>
    intro j hj z s ac t hs ht
    have h0 : ¬ (60 : Int32) ≤ nI j := nI_ge (b := 60) (by omega) (by omega)
    rcases ht with rfl | ⟨i, hi, rfl, hib⟩
    · have h1 : (-9 : Int32) < 0 := by decide
      rw [gM_lots_39]
      simp only [gM_lots_0, gM_lots_1, gM_lots_2, gM_lots_3, gM_lots_6, gM_lots_9, gM_lots_10, gM_lots_12, gM_lots_15, gM_lots_16, gM_lots_17, gM_lots_18, gM_lots_19, gM_lots_22, gM_lots_24, gM_lots_25, gM_lots_27, gM_lots_28, gM_lots_29, gM_lots_31, gM_lots_34, gM_lots_36, gM_lots_37, gM_lots_41, gM_lots_43, gM_lots_46, gM_lots_48, gM_lots_51, gM_lots_53, gM_lots_54, gM_lots_56, gM_lots_58, gM_lots_61, gM_lots_62, gM_lots_64, gM_lots_65, gM_lots_67, gM_lots_68, gM_lots_70, gM_lots_71, gM_lots_72, gM_lots_74, gM_lots_75, gM_lots_77, gM_lots_78, gM_lots_81, gM_lots_82, gM_lots_84, gM_lots_85, gM_lots_86, gM_lots_89, gM_lots_91, gM_lots_92, gM_lots_95, gM_lots_96, gM_lots_98, gM_lots_99, gM_lots_102, gM_lots_103, gM_lots_104, gM_lots_106, gM_lots_107, gM_lots_108, gM_lots_110, gM_lots_113, gM_lots_115, gM_lots_118, gM_lots_121, gM_lots_123, ↓reduceIte, Bool.false_eq_true, Bool.true_eq_false, qk_i, qk_r, qk_n, Option.toList_some, Option.toList_none, List.cons_append, List.nil_append, true_and, and_true, true_or, or_true, eq_self, if_true, if_false, q_b1, q_b2, c_A, c_R, c_O, c_M, c_H1, c_H8, c_H15, h0, h1]
      exact hQ _
    · have h1 : ¬ nI i < 0 := nI_pos (by omega)
      have hin : q_in (nI i) 10 = true := q_in_nI (by omega) (by omega)
      have e103 : ∀ (r z' ac' : Int32) (s' : Nat), s' < 1024 → nI s ||| r = nI s' → q_g 121 none Q 103 [some (.ref 30), some (.int kd), some (.int sd), some (.int z'), some (.int (nI s)), some (.int ac'), some (.int (nI i)), some (.int (nI j))] [.int r, .int (nI s)] M := by
        intro r z' ac' s' hs' er
        simp only [gM_lots_0, gM_lots_1, gM_lots_2, gM_lots_3, gM_lots_6, gM_lots_9, gM_lots_10, gM_lots_12, gM_lots_15, gM_lots_16, gM_lots_17, gM_lots_18, gM_lots_19, gM_lots_22, gM_lots_24, gM_lots_25, gM_lots_27, gM_lots_28, gM_lots_29, gM_lots_31, gM_lots_34, gM_lots_36, gM_lots_37, gM_lots_41, gM_lots_43, gM_lots_46, gM_lots_48, gM_lots_51, gM_lots_53, gM_lots_54, gM_lots_56, gM_lots_58, gM_lots_61, gM_lots_62, gM_lots_64, gM_lots_65, gM_lots_67, gM_lots_68, gM_lots_70, gM_lots_71, gM_lots_72, gM_lots_74, gM_lots_75, gM_lots_77, gM_lots_78, gM_lots_81, gM_lots_82, gM_lots_84, gM_lots_85, gM_lots_86, gM_lots_89, gM_lots_91, gM_lots_92, gM_lots_95, gM_lots_96, gM_lots_98, gM_lots_99, gM_lots_102, gM_lots_103, gM_lots_104, gM_lots_106, gM_lots_107, gM_lots_108, gM_lots_110, gM_lots_113, gM_lots_115, gM_lots_118, gM_lots_121, gM_lots_123, ↓reduceIte, Bool.false_eq_true, Bool.true_eq_false, qk_i, qk_r, qk_n, Option.toList_some, Option.toList_none, List.cons_append, List.nil_append, true_and, and_true, true_or, or_true, eq_self, if_true, if_false, q_b1, q_b2, c_A, c_R, c_O, c_M, c_H1, c_H8, c_H15, er]
        refine w_M_sought hv hs' fun t ht => ?_
        simp only [gM_lots_0, gM_lots_1, gM_lots_2, gM_lots_3, gM_lots_6, gM_lots_9, gM_lots_10, gM_lots_12, gM_lots_15, gM_lots_16, gM_lots_17, gM_lots_18, gM_lots_19, gM_lots_22, gM_lots_24, gM_lots_25, gM_lots_27, gM_lots_28, gM_lots_29, gM_lots_31, gM_lots_34, gM_lots_36, gM_lots_37, gM_lots_41, gM_lots_43, gM_lots_46, gM_lots_48, gM_lots_51, gM_lots_53, gM_lots_54, gM_lots_56, gM_lots_58, gM_lots_61, gM_lots_62, gM_lots_64, gM_lots_65, gM_lots_67, gM_lots_68, gM_lots_70, gM_lots_71, gM_lots_72, gM_lots_74, gM_lots_75, gM_lots_77, gM_lots_78, gM_lots_81, gM_lots_82, gM_lots_84, gM_lots_85, gM_lots_86, gM_lots_89, gM_lots_91, gM_lots_92, gM_lots_95, gM_lots_96, gM_lots_98, gM_lots_99, gM_lots_102, gM_lots_103, gM_lots_104, gM_lots_106, gM_lots_107, gM_lots_108, gM_lots_110, gM_lots_113, gM_lots_115, gM_lots_118, gM_lots_121, gM_lots_123, ↓reduceIte, Bool.false_eq_true, Bool.true_eq_false, qk_i, qk_r, qk_n, Option.toList_some, Option.toList_none, List.cons_append, List.nil_append, true_and, and_true, true_or, or_true, eq_self, if_true, if_false, q_b1, q_b2, c_A, c_R, c_O, c_M, c_H1, c_H8, c_H15, nI_1]
        exact ih (j + 1) (by omega) _ _ _ _ hs' ht
      rw [gM_lots_39]
      simp only [gM_lots_0, gM_lots_1, gM_lots_2, gM_lots_3, gM_lots_6, gM_lots_9, gM_lots_10, gM_lots_12, gM_lots_15, gM_lots_16, gM_lots_17, gM_lots_18, gM_lots_19, gM_lots_22, gM_lots_24, gM_lots_25, gM_lots_27, gM_lots_28, gM_lots_29, gM_lots_31, gM_lots_34, gM_lots_36, gM_lots_37, gM_lots_41, gM_lots_43, gM_lots_46, gM_lots_48, gM_lots_51, gM_lots_53, gM_lots_54, gM_lots_56, gM_lots_58, gM_lots_61, gM_lots_62, gM_lots_64, gM_lots_65, gM_lots_67, gM_lots_68, gM_lots_70, gM_lots_71, gM_lots_72, gM_lots_74, gM_lots_75, gM_lots_77, gM_lots_78, gM_lots_81, gM_lots_82, gM_lots_84, gM_lots_85, gM_lots_86, gM_lots_89, gM_lots_91, gM_lots_92, gM_lots_95, gM_lots_96, gM_lots_98, gM_lots_99, gM_lots_102, gM_lots_104, gM_lots_106, gM_lots_107, gM_lots_108, gM_lots_110, gM_lots_113, gM_lots_115, gM_lots_118, gM_lots_121, gM_lots_123, ↓reduceIte, Bool.false_eq_true, Bool.true_eq_false, qk_i, qk_r, qk_n, Option.toList_some, Option.toList_none, List.cons_append, List.nil_append, true_and, and_true, true_or, or_true, eq_self, if_true, if_false, q_b1, q_b2, c_A, c_R, c_O, c_M, c_H1, c_H8, c_H15, h0, h1]
      refine w_M_goOf (by omega) fun x => ?_
      simp only [gM_lots_0, gM_lots_1, gM_lots_2, gM_lots_3, gM_lots_6, gM_lots_9, gM_lots_10, gM_lots_12, gM_lots_15, gM_lots_16, gM_lots_17, gM_lots_18, gM_lots_19, gM_lots_22, gM_lots_24, gM_lots_25, gM_lots_27, gM_lots_28, gM_lots_29, gM_lots_31, gM_lots_34, gM_lots_36, gM_lots_37, gM_lots_41, gM_lots_43, gM_lots_46, gM_lots_48, gM_lots_51, gM_lots_53, gM_lots_54, gM_lots_56, gM_lots_58, gM_lots_61, gM_lots_62, gM_lots_64, gM_lots_65, gM_lots_67, gM_lots_68, gM_lots_70, gM_lots_71, gM_lots_72, gM_lots_74, gM_lots_75, gM_lots_77, gM_lots_78, gM_lots_81, gM_lots_82, gM_lots_84, gM_lots_85, gM_lots_86, gM_lots_89, gM_lots_91, gM_lots_92, gM_lots_95, gM_lots_96, gM_lots_98, gM_lots_99, gM_lots_102, gM_lots_104, gM_lots_106, gM_lots_107, gM_lots_108, gM_lots_110, gM_lots_113, gM_lots_115, gM_lots_118, gM_lots_121, gM_lots_123, ↓reduceIte, Bool.false_eq_true, Bool.true_eq_false, qk_i, qk_r, qk_n, Option.toList_some, Option.toList_none, List.cons_append, List.nil_append, true_and, and_true, true_or, or_true, eq_self, if_true, if_false, q_b1, q_b2, c_A, c_R, c_O, c_M, c_H1, c_H8, c_H15, q_n256, q_n10, rf_M3, aD_34, hin]
      split
      · exact e103 _ _ _ s hs (by rw [← nI_0, or_nI, Nat.or_zero])
      · exact e103 _ _ _ _ (or1_lt hs (show i < 10 by omega)) (or1_nI (by omega))
theorem w_M_lots {a b : Int32} (hv : v_m M n h) (hQ : ∀ (x : Int32) M', eqx Sm M M' → Q (some (.int x)) M') : q_Run 121 [.ref 30, .int a, .int b] M Q := by
  rw [e_M_lots]
  simp only [gM_lots_0, gM_lots_1, gM_lots_2, gM_lots_3, gM_lots_6, gM_lots_9, gM_lots_10, gM_lots_12, gM_lots_15, gM_lots_16, gM_lots_17, gM_lots_18, gM_lots_19, gM_lots_22, gM_lots_24, gM_lots_25, gM_lots_27, gM_lots_28, gM_lots_29, gM_lots_31, gM_lots_34, gM_lots_36, gM_lots_37, gM_lots_41, gM_lots_43, gM_lots_46, gM_lots_48, gM_lots_51, gM_lots_53, gM_lots_54, gM_lots_56, gM_lots_58, gM_lots_61, gM_lots_62, gM_lots_64, gM_lots_65, gM_lots_67, gM_lots_68, gM_lots_70, gM_lots_71, gM_lots_72, gM_lots_74, gM_lots_75, gM_lots_77, gM_lots_78, gM_lots_81, gM_lots_82, gM_lots_84, gM_lots_85, gM_lots_86, gM_lots_89, gM_lots_91, gM_lots_92, gM_lots_95, gM_lots_96, gM_lots_98, gM_lots_99, gM_lots_102, gM_lots_103, gM_lots_104, gM_lots_106, gM_lots_107, gM_lots_108, gM_lots_110, gM_lots_113, gM_lots_115, gM_lots_118, gM_lots_121, gM_lots_123, ↓reduceIte, Bool.false_eq_true, Bool.true_eq_false, qk_i, qk_r, qk_n, Option.toList_some, Option.toList_none, List.cons_append, List.nil_append, true_and, and_true, true_or, or_true, eq_self, if_true, if_false, q_b1, q_b2, c_A, c_R, c_O, c_M, c_H1, c_H8, c_H15, x_M_isIn, q_z0, x_M_no no_2, hv.2.2.1]
  split
  · refine w_M_sought hv hv.hlt fun t ht => ?_
    simp only [gM_lots_0, gM_lots_1, gM_lots_2, gM_lots_3, gM_lots_6, gM_lots_9, gM_lots_10, gM_lots_12, gM_lots_15, gM_lots_16, gM_lots_17, gM_lots_18, gM_lots_19, gM_lots_22, gM_lots_24, gM_lots_25, gM_lots_27, gM_lots_28, gM_lots_29, gM_lots_31, gM_lots_34, gM_lots_36, gM_lots_37, gM_lots_41, gM_lots_43, gM_lots_46, gM_lots_48, gM_lots_51, gM_lots_53, gM_lots_54, gM_lots_56, gM_lots_58, gM_lots_61, gM_lots_62, gM_lots_64, gM_lots_65, gM_lots_67, gM_lots_68, gM_lots_70, gM_lots_71, gM_lots_72, gM_lots_74, gM_lots_75, gM_lots_77, gM_lots_78, gM_lots_81, gM_lots_82, gM_lots_84, gM_lots_85, gM_lots_86, gM_lots_89, gM_lots_91, gM_lots_92, gM_lots_95, gM_lots_96, gM_lots_98, gM_lots_99, gM_lots_102, gM_lots_103, gM_lots_104, gM_lots_106, gM_lots_107, gM_lots_108, gM_lots_110, gM_lots_113, gM_lots_115, gM_lots_118, gM_lots_121, gM_lots_123, ↓reduceIte, Bool.false_eq_true, Bool.true_eq_false, qk_i, qk_r, qk_n, Option.toList_some, Option.toList_none, List.cons_append, List.nil_append, true_and, and_true, true_or, or_true, eq_self, if_true, if_false, q_b1, q_b2, c_A, c_R, c_O, c_M, c_H1, c_H8, c_H15]
    exact w_M_lots_l hv (fun x => hQ x M eqx.rf) 60 0 (by omega) _ _ _ _ hv.hlt ht
  · exact hQ _ _ eqm_no
theorem w_M_may (hv : v_m M n h) (hQ : ∀ (x : Int32) M', eqx Sm M M' → Q (some (.int x)) M') : q_Run 123 [.ref 30] M Q := by
  rw [e_M_may]
  simp only [gM_may_0, gM_may_1, gM_may_2, gM_may_5, gM_may_8, ↓reduceIte, Bool.false_eq_true, Bool.true_eq_false, qk_i, qk_r, qk_n, Option.toList_some, Option.toList_none, List.cons_append, List.nil_append, true_and, and_true, true_or, or_true, eq_self, if_true, if_false, q_b1, q_b2, c_A, c_R, c_O, c_M, c_H1, c_H8, c_H15, hv.2.2.1]
  refine w_M_mayBy hv hv.hlt fun m hm hd => ?_
  simp only [gM_may_0, gM_may_1, gM_may_2, gM_may_5, gM_may_8, ↓reduceIte, Bool.false_eq_true, Bool.true_eq_false, qk_i, qk_r, qk_n, Option.toList_some, Option.toList_none, List.cons_append, List.nil_append, true_and, and_true, true_or, or_true, eq_self, if_true, if_false, q_b1, q_b2, c_A, c_R, c_O, c_M, c_H1, c_H8, c_H15]
  exact hQ _ _ eqx.rf
theorem w_M_with {a : Int32} (hv : v_m M n h) (hQ : ∀ (x : Int32) M', eqx Sm M M' → Q (some (.int x)) M') : q_Run 155 [.ref 30, .int a] M Q := by
  rw [e_M_with]
  simp only [gM_with_0, gM_with_1, gM_with_2, gM_with_5, gM_with_8, gM_with_9, gM_with_10, gM_with_13, gM_with_16, gM_with_17, gM_with_18, gM_with_21, ↓reduceIte, Bool.false_eq_true, Bool.true_eq_false, qk_i, qk_r, qk_n, Option.toList_some, Option.toList_none, List.cons_append, List.nil_append, true_and, and_true, true_or, or_true, eq_self, if_true, if_false, q_b1, q_b2, c_A, c_R, c_O, c_M, c_H1, c_H8, c_H15, x_M_areThings, q_z0, x_M_no no_1]
  split
  · exact hQ _ _ eqm_no
  · rename_i h0
    obtain ⟨b, hb, rfl⟩ := mSet_nI hv ((Bool.not_eq_false _).mp h0)
    have h2 := two_pow_le hv.2.1
    refine w_M_mayBy hv (by omega) fun m hm hd => ?_
    simp only [gM_with_0, gM_with_1, gM_with_2, gM_with_5, gM_with_8, gM_with_9, gM_with_10, gM_with_13, gM_with_16, gM_with_17, gM_with_18, gM_with_21, ↓reduceIte, Bool.false_eq_true, Bool.true_eq_false, qk_i, qk_r, qk_n, Option.toList_some, Option.toList_none, List.cons_append, List.nil_append, true_and, and_true, true_or, or_true, eq_self, if_true, if_false, q_b1, q_b2, c_A, c_R, c_O, c_M, c_H1, c_H8, c_H15]
    exact hQ _ _ eqx.rf
theorem w_M_reach (hv : v_m M n h) (hQ : ∀ (x : Int32) M', eqx Sm M M' → Q (some (.int x)) M') : q_Run 137 [.ref 30] M Q := by
  rw [e_M_reach]
  simp only [gM_reach_0, gM_reach_1, gM_reach_2, gM_reach_5, gM_reach_6, gM_reach_9, ↓reduceIte, Bool.false_eq_true, Bool.true_eq_false, qk_i, qk_r, qk_n, Option.toList_some, Option.toList_none, List.cons_append, List.nil_append, true_and, and_true, true_or, or_true, eq_self, if_true, if_false, q_b1, q_b2, c_A, c_R, c_O, c_M, c_H1, c_H8, c_H15, hv.2.2.1]
  refine w_M_reachOf hv hv.hlt fun r hr => ?_
  simp only [gM_reach_0, gM_reach_1, gM_reach_2, gM_reach_5, gM_reach_6, gM_reach_9, ↓reduceIte, Bool.false_eq_true, Bool.true_eq_false, qk_i, qk_r, qk_n, Option.toList_some, Option.toList_none, List.cons_append, List.nil_append, true_and, and_true, true_or, or_true, eq_self, if_true, if_false, q_b1, q_b2, c_A, c_R, c_O, c_M, c_H1, c_H8, c_H15]
  exact hQ _ _ eqx.rf
theorem w_M_thing {a b : Int32} (hv : v_m M n h) (hQ : ∀ (x : Int32) M', eqx Sm M M' → Q (some (.int x)) M') : q_Run 152 [.ref 30, .int a, .int b] M Q := by
  have h10 := hv.2.1
  rw [e_M_thing]
  simp only [gM_thing_0, gM_thing_1, gM_thing_2, gM_thing_5, gM_thing_8, gM_thing_9, gM_thing_10, gM_thing_13, gM_thing_15, gM_thing_60, gM_thing_61, gM_thing_64, gM_thing_65, gM_thing_66, gM_thing_67, gM_thing_68, gM_thing_71, gM_thing_72, gM_thing_73, gM_thing_74, gM_thing_75, gM_thing_78, gM_thing_79, gM_thing_80, gM_thing_81, gM_thing_82, gM_thing_85, gM_thing_86, gM_thing_87, gM_thing_88, gM_thing_89, gM_thing_92, gM_thing_93, gM_thing_94, gM_thing_95, gM_thing_96, gM_thing_99, gM_thing_100, gM_thing_101, gM_thing_102, gM_thing_103, gM_thing_104, gM_thing_105, gM_thing_108, gM_thing_111, gM_thing_112, gM_thing_113, gM_thing_116, gM_thing_117, gM_thing_118, gM_thing_119, gM_thing_120, gM_thing_121, gM_thing_122, gM_thing_124, gM_thing_127, ↓reduceIte, Bool.false_eq_true, Bool.true_eq_false, qk_i, qk_r, qk_n, Option.toList_some, Option.toList_none, List.cons_append, List.nil_append, true_and, and_true, true_or, or_true, eq_self, if_true, if_false, q_b1, q_b2, c_A, c_R, c_O, c_M, c_H1, c_H8, c_H15, x_M_isThing, q_z0, x_M_no no_1]
  split
  · rename_i h0
    obtain ⟨j, hj, rfl⟩ := mThing_nI hv ((Bool.not_eq_false _).mp h0)
    have hin : q_in (nI j) 10 = true := q_in_nI (by omega) (by omega)
    simp only [gM_thing_0, gM_thing_1, gM_thing_2, gM_thing_5, gM_thing_8, gM_thing_9, gM_thing_10, gM_thing_13, gM_thing_14, gM_thing_15, gM_thing_60, gM_thing_61, gM_thing_64, gM_thing_65, gM_thing_66, gM_thing_67, gM_thing_68, gM_thing_71, gM_thing_72, gM_thing_73, gM_thing_74, gM_thing_75, gM_thing_78, gM_thing_79, gM_thing_80, gM_thing_81, gM_thing_82, gM_thing_85, gM_thing_86, gM_thing_87, gM_thing_88, gM_thing_89, gM_thing_92, gM_thing_93, gM_thing_94, gM_thing_95, gM_thing_96, gM_thing_99, gM_thing_100, gM_thing_101, gM_thing_102, gM_thing_103, gM_thing_104, gM_thing_105, gM_thing_108, gM_thing_111, gM_thing_112, gM_thing_113, gM_thing_116, gM_thing_117, gM_thing_118, gM_thing_119, gM_thing_120, gM_thing_121, gM_thing_122, gM_thing_124, gM_thing_127, ↓reduceIte, Bool.false_eq_true, Bool.true_eq_false, qk_i, qk_r, qk_n, Option.toList_some, Option.toList_none, List.cons_append, List.nil_append, true_and, and_true, true_or, or_true, eq_self, if_true, if_false, q_b1, q_b2, c_A, c_R, c_O, c_M, c_H1, c_H8, c_H15, rf_M1, rf_M2, rf_M3, rf_M4, rf_M5, rf_M6, aD_32, aD_33, aD_34, aD_35, aD_36, aD_37, hin, x_M_no no_2]
    repeat' split
    all_goals first
      | with_reducible exact hQ _ _ eqx.rf
      | with_reducible exact hQ _ _ eqm_no
      | (refine w_M_goOf (by omega) fun x => ?_
         simp only [gM_thing_0, gM_thing_1, gM_thing_2, gM_thing_5, gM_thing_8, gM_thing_9, gM_thing_10, gM_thing_13, gM_thing_14, gM_thing_15, gM_thing_60, gM_thing_61, gM_thing_64, gM_thing_65, gM_thing_66, gM_thing_67, gM_thing_68, gM_thing_71, gM_thing_72, gM_thing_73, gM_thing_74, gM_thing_75, gM_thing_78, gM_thing_79, gM_thing_80, gM_thing_81, gM_thing_82, gM_thing_85, gM_thing_86, gM_thing_87, gM_thing_88, gM_thing_89, gM_thing_92, gM_thing_93, gM_thing_94, gM_thing_95, gM_thing_96, gM_thing_99, gM_thing_100, gM_thing_101, gM_thing_102, gM_thing_103, gM_thing_104, gM_thing_105, gM_thing_108, gM_thing_111, gM_thing_112, gM_thing_113, gM_thing_116, gM_thing_117, gM_thing_118, gM_thing_119, gM_thing_120, gM_thing_121, gM_thing_122, gM_thing_124, gM_thing_127, ↓reduceIte, Bool.false_eq_true, Bool.true_eq_false, qk_i, qk_r, qk_n, Option.toList_some, Option.toList_none, List.cons_append, List.nil_append, true_and, and_true, true_or, or_true, eq_self, if_true, if_false, q_b1, q_b2, c_A, c_R, c_O, c_M, c_H1, c_H8, c_H15]
         exact hQ _ _ eqx.rf)
  · exact hQ _ _ eqm_no
theorem w_M_count {a : Int32} (hv : v_m M n h) (hQ : ∀ (x : Int32) M', eqx Sm M M' → Q (some (.int x)) M') : q_Run 101 [.ref 30, .int a] M Q := by
  rw [e_M_count]
  simp only [gM_count_0, gM_count_1, gM_count_3, gM_count_5, gM_count_8, gM_count_11, gM_count_12, gM_count_15, gM_count_16, gM_count_18, gM_count_19, gM_count_20, gM_count_22, gM_count_64, gM_count_65, gM_count_68, gM_count_69, gM_count_70, gM_count_73, gM_count_76, gM_count_77, gM_count_78, gM_count_81, gM_count_82, gM_count_83, gM_count_86, gM_count_87, gM_count_88, gM_count_91, gM_count_92, gM_count_95, gM_count_98, gM_count_99, gM_count_100, gM_count_101, gM_count_102, gM_count_105, gM_count_108, gM_count_109, gM_count_110, gM_count_113, gM_count_114, gM_count_115, gM_count_118, gM_count_119, gM_count_121, ↓reduceIte, Bool.false_eq_true, Bool.true_eq_false, qk_i, qk_r, qk_n, Option.toList_some, Option.toList_none, List.cons_append, List.nil_append, true_and, and_true, true_or, or_true, eq_self, if_true, if_false, q_b1, q_b2, c_A, c_R, c_O, c_M, c_H1, c_H8, c_H15, x_M_isIn, q_z0]
  split
  · simp only [gM_count_0, gM_count_1, gM_count_3, gM_count_5, gM_count_8, gM_count_11, gM_count_12, gM_count_15, gM_count_16, gM_count_18, gM_count_19, gM_count_20, gM_count_21, gM_count_22, gM_count_64, gM_count_65, gM_count_68, gM_count_69, gM_count_70, gM_count_73, gM_count_76, gM_count_77, gM_count_78, gM_count_81, gM_count_82, gM_count_83, gM_count_86, gM_count_87, gM_count_88, gM_count_91, gM_count_92, gM_count_95, gM_count_98, gM_count_99, gM_count_100, gM_count_101, gM_count_102, gM_count_105, gM_count_108, gM_count_109, gM_count_110, gM_count_113, gM_count_114, gM_count_115, gM_count_118, gM_count_119, gM_count_121, ↓reduceIte, Bool.false_eq_true, Bool.true_eq_false, qk_i, qk_r, qk_n, Option.toList_some, Option.toList_none, List.cons_append, List.nil_append, true_and, and_true, true_or, or_true, eq_self, if_true, if_false, q_b1, q_b2, c_A, c_R, c_O, c_M, c_H1, c_H8, c_H15, x_M_bits, hv.2.2.1, x_M_whole]
    repeat' split
    all_goals first
      | with_reducible exact hQ _ _ eqx.rf
      | (refine w_M_reachOf hv hv.hlt fun r hr => ?_
         simp only [gM_count_0, gM_count_1, gM_count_3, gM_count_5, gM_count_8, gM_count_11, gM_count_12, gM_count_15, gM_count_16, gM_count_18, gM_count_19, gM_count_20, gM_count_21, gM_count_22, gM_count_64, gM_count_65, gM_count_68, gM_count_69, gM_count_70, gM_count_73, gM_count_76, gM_count_77, gM_count_78, gM_count_81, gM_count_82, gM_count_83, gM_count_86, gM_count_87, gM_count_88, gM_count_91, gM_count_92, gM_count_95, gM_count_98, gM_count_99, gM_count_100, gM_count_101, gM_count_102, gM_count_105, gM_count_108, gM_count_109, gM_count_110, gM_count_113, gM_count_114, gM_count_115, gM_count_118, gM_count_119, gM_count_121, ↓reduceIte, Bool.false_eq_true, Bool.true_eq_false, qk_i, qk_r, qk_n, Option.toList_some, Option.toList_none, List.cons_append, List.nil_append, true_and, and_true, true_or, or_true, eq_self, if_true, if_false, q_b1, q_b2, c_A, c_R, c_O, c_M, c_H1, c_H8, c_H15, x_M_bits]
         exact hQ _ _ eqx.rf)
      | (refine w_M_costOf hv fun x => ?_
         simp only [gM_count_0, gM_count_1, gM_count_3, gM_count_5, gM_count_8, gM_count_11, gM_count_12, gM_count_15, gM_count_16, gM_count_18, gM_count_19, gM_count_20, gM_count_21, gM_count_22, gM_count_64, gM_count_65, gM_count_68, gM_count_69, gM_count_70, gM_count_73, gM_count_76, gM_count_77, gM_count_78, gM_count_81, gM_count_82, gM_count_83, gM_count_86, gM_count_87, gM_count_88, gM_count_91, gM_count_92, gM_count_95, gM_count_98, gM_count_99, gM_count_100, gM_count_101, gM_count_102, gM_count_105, gM_count_108, gM_count_109, gM_count_110, gM_count_113, gM_count_114, gM_count_115, gM_count_118, gM_count_119, gM_count_121, ↓reduceIte, Bool.false_eq_true, Bool.true_eq_false, qk_i, qk_r, qk_n, Option.toList_some, Option.toList_none, List.cons_append, List.nil_append, true_and, and_true, true_or, or_true, eq_self, if_true, if_false, q_b1, q_b2, c_A, c_R, c_O, c_M, c_H1, c_H8, c_H15]
         exact hQ _ _ eqx.rf)
  · rename_i h0
    have hin : q_in (a - 10) 7 = true := by
      have h1 := (Bool.not_eq_false _).mp h0
      unfold b_in at h1
      simp only [Bool.and_eq_true, decide_eq_true_eq] at h1
      obtain ⟨j, hj, rfl⟩ := nI_of (x := a) (fun q => h1.1 (Int32.lt_of_lt_of_le q (by decide)))
      have h2 : ¬ nI j < nI 11 := h1.1
      have h3 : ¬ nI 16 < nI j := h1.2
      rw [nI_ltI hj (by omega)] at h2
      rw [nI_ltI (by omega) hj] at h3
      obtain ⟨i, rfl⟩ : ∃ i, j = i + 10 := ⟨j - 10, by omega⟩
      have e : nI (i + 10) - 10 = nI i := by
        rw [← nI_add]
        exact Int32.add_sub_cancel _ _
      rw [e]
      exact q_in_nI (by omega) (by omega)
    simp only [gM_count_0, gM_count_1, gM_count_3, gM_count_5, gM_count_8, gM_count_11, gM_count_12, gM_count_15, gM_count_16, gM_count_18, gM_count_19, gM_count_20, gM_count_21, gM_count_22, gM_count_64, gM_count_65, gM_count_68, gM_count_69, gM_count_70, gM_count_73, gM_count_76, gM_count_77, gM_count_78, gM_count_81, gM_count_82, gM_count_83, gM_count_86, gM_count_87, gM_count_88, gM_count_91, gM_count_92, gM_count_95, gM_count_98, gM_count_99, gM_count_100, gM_count_101, gM_count_102, gM_count_105, gM_count_108, gM_count_109, gM_count_110, gM_count_113, gM_count_114, gM_count_115, gM_count_118, gM_count_119, gM_count_121, ↓reduceIte, Bool.false_eq_true, Bool.true_eq_false, qk_i, qk_r, qk_n, Option.toList_some, Option.toList_none, List.cons_append, List.nil_append, true_and, and_true, true_or, or_true, eq_self, if_true, if_false, q_b1, q_b2, c_A, c_R, c_O, c_M, c_H1, c_H8, c_H15, rf_M0, aD_31, hin]
    exact hQ _ _ eqx.rf
end MQ3
