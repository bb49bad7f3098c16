/-! the class's house(), exactly -/
section HC
variable {Q : q_R} {M M0 H : q_M} {f : p_T} {n p h : Nat} {b x y z : Int32}
theorem RC.add {B : Nat} {M' H' : q_M} (r : RC B M' H') : RC B (s_add M' B x y z) (s_add H' 0 x y z) := by
  unfold s_add
  rw [r.2.1]
  exact ((((((r.put (k := 1) (by omega) (by omega)).put (k := 2) (by omega) (by omega)).put (k := 3) (by omega) (by omega)).put (k := 4) (by omega) (by omega)).put (k := 5) (by omega) (by omega)).put (k := 6) (by omega) (by omega)).p6
theorem RC.ap_ok (r : RC 15 M H) : ∀ c, b_isThing M 15 c = b_isThing H 0 c := fun _ => r.isThing
/-- what telling one STATEMENT may change -/
def te_fr (M M' : q_M) : Prop := ∀ c, c < 15 ∨ 21 < c → M' c = M c
theorem te_fr.sput {k : Nat} {i v : Int32} (h1 : 15 ≤ k) (h2 : k ≤ 21) : te_fr M (s_put M k 10 i v) := fun c hc => s_put_ne (by omega)
theorem c_tellOne (r : RC 15 M H) (c : cf M b x y z) (hQ0 : ap_ok H b x y z = false → Q (some (.int 0)) M) (hQ1 : ap_ok H b x y z = true → ∀ M', te_fr M M' → RC 15 M' (ap H b x y z) → Q (some (.int 1)) M') : q_Run 43 [.ref 22, .ref 15] M Q := by
  obtain ⟨f3, ft, f1, f2⟩ := c
  unfold ap_ok at hQ0 hQ1
  unfold ap at hQ1
  rw [e_R_tellOne]
  by_cases h1 : b = 116
  · obtain ⟨f4, f5, f6⟩ := ft h1
    have f3' : M 22 3 = 116 := f3.trans h1
    rw [if_pos h1] at hQ0
    rw [if_pos h1, if_pos h1] at hQ1
    simp only [gR_tellOne_0, gR_tellOne_1, gR_tellOne_4, gR_tellOne_6, gR_tellOne_9, gR_tellOne_10, gR_tellOne_11, gR_tellOne_14, gR_tellOne_15, gR_tellOne_18, gR_tellOne_19, gR_tellOne_22, gR_tellOne_25, gR_tellOne_26, gR_tellOne_27, gR_tellOne_28, gR_tellOne_31, gR_tellOne_34, gR_tellOne_37, gR_tellOne_38, gR_tellOne_39, gR_tellOne_40, gR_tellOne_43, gR_tellOne_45, gR_tellOne_48, gR_tellOne_49, gR_tellOne_52, gR_tellOne_53, gR_tellOne_56, gR_tellOne_57, gR_tellOne_60, gR_tellOne_63, gR_tellOne_64, gR_tellOne_65, gR_tellOne_66, gR_tellOne_69, gR_tellOne_71, gR_tellOne_74, gR_tellOne_75, gR_tellOne_76, gR_tellOne_79, gR_tellOne_82, gR_tellOne_83, gR_tellOne_84, gR_tellOne_85, gR_tellOne_86, gR_tellOne_87, gR_tellOne_90, gR_tellOne_93, gR_tellOne_96, gR_tellOne_97, gR_tellOne_100, gR_tellOne_101, gR_tellOne_104, gR_tellOne_107, gR_tellOne_108, gR_tellOne_109, gR_tellOne_110, gR_tellOne_113, gR_tellOne_115, gR_tellOne_118, gR_tellOne_119, gR_tellOne_120, gR_tellOne_123, gR_tellOne_124, gR_tellOne_127, gR_tellOne_130, gR_tellOne_131, gR_tellOne_134, gR_tellOne_135, gR_tellOne_136, gR_tellOne_139, gR_tellOne_140, gR_tellOne_143, gR_tellOne_146, gR_tellOne_147, gR_tellOne_148, ↓reduceIte, Bool.false_eq_true, Bool.true_eq_false, qk_i, qk_r, qk_n, Option.toList_some, Option.toList_none, List.cons_append, List.nil_append, true_and, and_true, true_or, or_true, eq_self, if_true, if_false, q_b1, q_b2, c_A, c_R, c_O, c_M, c_H1, c_H8, c_H15, f3', f4, f5, f6, not_true, x_H_addThing c_H15]
    rw [r.2.1]
    cases hc : b_range y z && decide (H 0 6 < 10)
    · simp only [Bool.false_eq_true, if_false]
      exact hQ0 hc
    · simp only [if_true]
      refine hQ1 hc _ (fun c hc => ?_) r.add
      unfold s_add
      rw [q_put_ne (by omega), s_put_ne (by omega), s_put_ne (by omega), s_put_ne (by omega), s_put_ne (by omega), s_put_ne (by omega), s_put_ne (by omega)]
  have g5 := f1 h1
  rw [if_neg h1] at hQ0
  rw [if_neg h1, if_neg h1] at hQ1
  simp only [gR_tellOne_0, gR_tellOne_1, gR_tellOne_4, gR_tellOne_6, gR_tellOne_9, gR_tellOne_10, gR_tellOne_11, gR_tellOne_14, gR_tellOne_15, gR_tellOne_18, gR_tellOne_19, gR_tellOne_22, gR_tellOne_25, gR_tellOne_27, gR_tellOne_28, gR_tellOne_31, gR_tellOne_34, gR_tellOne_37, gR_tellOne_38, gR_tellOne_39, gR_tellOne_40, gR_tellOne_43, gR_tellOne_45, gR_tellOne_48, gR_tellOne_49, gR_tellOne_52, gR_tellOne_53, gR_tellOne_56, gR_tellOne_57, gR_tellOne_60, gR_tellOne_63, gR_tellOne_64, gR_tellOne_65, gR_tellOne_66, gR_tellOne_69, gR_tellOne_71, gR_tellOne_74, gR_tellOne_75, gR_tellOne_76, gR_tellOne_79, gR_tellOne_82, gR_tellOne_83, gR_tellOne_84, gR_tellOne_85, gR_tellOne_86, gR_tellOne_87, gR_tellOne_90, gR_tellOne_93, gR_tellOne_96, gR_tellOne_97, gR_tellOne_100, gR_tellOne_101, gR_tellOne_104, gR_tellOne_107, gR_tellOne_108, gR_tellOne_109, gR_tellOne_110, gR_tellOne_113, gR_tellOne_115, gR_tellOne_118, gR_tellOne_119, gR_tellOne_120, gR_tellOne_123, gR_tellOne_124, gR_tellOne_127, gR_tellOne_130, gR_tellOne_131, gR_tellOne_134, gR_tellOne_135, gR_tellOne_136, gR_tellOne_139, gR_tellOne_140, gR_tellOne_143, gR_tellOne_146, gR_tellOne_147, gR_tellOne_148, ↓reduceIte, Bool.false_eq_true, Bool.true_eq_false, qk_i, qk_r, qk_n, Option.toList_some, Option.toList_none, List.cons_append, List.nil_append, true_and, and_true, true_or, or_true, eq_self, if_true, if_false, q_b1, q_b2, c_A, c_R, c_O, c_M, c_H1, c_H8, c_H15, f3, h1, not_false_eq_true]
  cases ht : b_isThing H 0 x
  · rw [if_pos ht] at hQ0
    have ht' : b_isThing M 15 x = false := r.isThing.trans ht
    simp only [gR_tellOne_0, gR_tellOne_1, gR_tellOne_4, gR_tellOne_6, gR_tellOne_9, gR_tellOne_10, gR_tellOne_11, gR_tellOne_14, gR_tellOne_15, gR_tellOne_18, gR_tellOne_19, gR_tellOne_22, gR_tellOne_25, gR_tellOne_26, gR_tellOne_27, gR_tellOne_28, gR_tellOne_31, gR_tellOne_34, gR_tellOne_37, gR_tellOne_38, gR_tellOne_39, gR_tellOne_40, gR_tellOne_43, gR_tellOne_45, gR_tellOne_48, gR_tellOne_49, gR_tellOne_52, gR_tellOne_53, gR_tellOne_56, gR_tellOne_57, gR_tellOne_60, gR_tellOne_63, gR_tellOne_64, gR_tellOne_65, gR_tellOne_66, gR_tellOne_69, gR_tellOne_71, gR_tellOne_74, gR_tellOne_75, gR_tellOne_76, gR_tellOne_79, gR_tellOne_82, gR_tellOne_83, gR_tellOne_84, gR_tellOne_85, gR_tellOne_86, gR_tellOne_87, gR_tellOne_90, gR_tellOne_93, gR_tellOne_96, gR_tellOne_97, gR_tellOne_100, gR_tellOne_101, gR_tellOne_104, gR_tellOne_107, gR_tellOne_108, gR_tellOne_109, gR_tellOne_110, gR_tellOne_113, gR_tellOne_115, gR_tellOne_118, gR_tellOne_119, gR_tellOne_120, gR_tellOne_123, gR_tellOne_124, gR_tellOne_127, gR_tellOne_130, gR_tellOne_131, gR_tellOne_134, gR_tellOne_135, gR_tellOne_136, gR_tellOne_139, gR_tellOne_140, gR_tellOne_143, gR_tellOne_146, gR_tellOne_147, gR_tellOne_148, ↓reduceIte, Bool.false_eq_true, Bool.true_eq_false, qk_i, qk_r, qk_n, Option.toList_some, Option.toList_none, List.cons_append, List.nil_append, true_and, and_true, true_or, or_true, eq_self, if_true, if_false, q_b1, q_b2, c_A, c_R, c_O, c_M, c_H1, c_H8, c_H15, g5, x_H_isThing c_H15, q_z0, ht', not_true]
    exact hQ0 rfl
  · have ht0 : ¬ b_isThing H 0 x = false := fun q => by rw [ht] at q; cases q
    rw [if_neg ht0] at hQ0
    rw [if_neg ht0] at hQ1
    have ht' : b_isThing M 15 x = true := r.isThing.trans ht
    by_cases h2 : b = 99
    · have f3' : M 22 3 = 99 := f3.trans h2
      have g6 := f2 h1 (fun q => absurd (h2.symm.trans q) (by decide))
      rw [if_pos h2, if_pos h2] at hQ1
      simp only [gR_tellOne_0, gR_tellOne_1, gR_tellOne_4, gR_tellOne_6, gR_tellOne_9, gR_tellOne_10, gR_tellOne_11, gR_tellOne_14, gR_tellOne_15, gR_tellOne_18, gR_tellOne_19, gR_tellOne_22, gR_tellOne_25, gR_tellOne_26, gR_tellOne_27, gR_tellOne_28, gR_tellOne_31, gR_tellOne_34, gR_tellOne_37, gR_tellOne_38, gR_tellOne_39, gR_tellOne_40, gR_tellOne_43, gR_tellOne_45, gR_tellOne_48, gR_tellOne_49, gR_tellOne_52, gR_tellOne_53, gR_tellOne_56, gR_tellOne_57, gR_tellOne_60, gR_tellOne_63, gR_tellOne_64, gR_tellOne_65, gR_tellOne_66, gR_tellOne_69, gR_tellOne_71, gR_tellOne_74, gR_tellOne_75, gR_tellOne_76, gR_tellOne_79, gR_tellOne_82, gR_tellOne_83, gR_tellOne_84, gR_tellOne_85, gR_tellOne_86, gR_tellOne_87, gR_tellOne_90, gR_tellOne_93, gR_tellOne_96, gR_tellOne_97, gR_tellOne_100, gR_tellOne_101, gR_tellOne_104, gR_tellOne_107, gR_tellOne_108, gR_tellOne_109, gR_tellOne_110, gR_tellOne_113, gR_tellOne_115, gR_tellOne_118, gR_tellOne_119, gR_tellOne_120, gR_tellOne_123, gR_tellOne_124, gR_tellOne_127, gR_tellOne_130, gR_tellOne_131, gR_tellOne_134, gR_tellOne_135, gR_tellOne_136, gR_tellOne_139, gR_tellOne_140, gR_tellOne_143, gR_tellOne_146, gR_tellOne_147, gR_tellOne_148, ↓reduceIte, Bool.false_eq_true, Bool.true_eq_false, qk_i, qk_r, qk_n, Option.toList_some, Option.toList_none, List.cons_append, List.nil_append, true_and, and_true, true_or, or_true, eq_self, if_true, if_false, q_b1, q_b2, c_A, c_R, c_O, c_M, c_H1, c_H8, c_H15, f3', g5, g6, x_H_isThing c_H15, q_z0, ht', Bool.true_eq_false, not_true, not_false_eq_true, rf_H3 c_H15, x_W_put (al_H c_H15).2.2.2.1]
      exact hQ1 rfl _ (te_fr.sput (by omega) (by omega)) (r.put (k := 4) (by omega) (by omega))
    · rw [if_neg h2] at hQ0
      rw [if_neg h2, if_neg h2] at hQ1
      by_cases h3 : b = 104
      · have f3' : M 22 3 = 104 := f3.trans h3
        have n99 : ((104 : Int32) = 99) = False := by decide
        rw [if_pos h3, if_pos h3] at hQ1
        simp only [gR_tellOne_0, gR_tellOne_1, gR_tellOne_4, gR_tellOne_6, gR_tellOne_9, gR_tellOne_10, gR_tellOne_11, gR_tellOne_14, gR_tellOne_15, gR_tellOne_18, gR_tellOne_19, gR_tellOne_22, gR_tellOne_25, gR_tellOne_26, gR_tellOne_27, gR_tellOne_28, gR_tellOne_31, gR_tellOne_34, gR_tellOne_37, gR_tellOne_38, gR_tellOne_39, gR_tellOne_40, gR_tellOne_43, gR_tellOne_45, gR_tellOne_48, gR_tellOne_49, gR_tellOne_52, gR_tellOne_53, gR_tellOne_56, gR_tellOne_57, gR_tellOne_60, gR_tellOne_63, gR_tellOne_64, gR_tellOne_65, gR_tellOne_66, gR_tellOne_69, gR_tellOne_71, gR_tellOne_74, gR_tellOne_75, gR_tellOne_76, gR_tellOne_79, gR_tellOne_82, gR_tellOne_83, gR_tellOne_84, gR_tellOne_85, gR_tellOne_86, gR_tellOne_87, gR_tellOne_90, gR_tellOne_93, gR_tellOne_96, gR_tellOne_97, gR_tellOne_100, gR_tellOne_101, gR_tellOne_104, gR_tellOne_107, gR_tellOne_108, gR_tellOne_109, gR_tellOne_110, gR_tellOne_113, gR_tellOne_115, gR_tellOne_118, gR_tellOne_119, gR_tellOne_120, gR_tellOne_123, gR_tellOne_124, gR_tellOne_127, gR_tellOne_130, gR_tellOne_131, gR_tellOne_134, gR_tellOne_135, gR_tellOne_136, gR_tellOne_139, gR_tellOne_140, gR_tellOne_143, gR_tellOne_146, gR_tellOne_147, gR_tellOne_148, ↓reduceIte, Bool.false_eq_true, Bool.true_eq_false, qk_i, qk_r, qk_n, Option.toList_some, Option.toList_none, List.cons_append, List.nil_append, true_and, and_true, true_or, or_true, eq_self, if_true, if_false, q_b1, q_b2, c_A, c_R, c_O, c_M, c_H1, c_H8, c_H15, f3', n99, g5, x_H_isThing c_H15, q_z0, ht', Bool.true_eq_false, not_true, not_false_eq_true, x_H_turnHand c_H15]
        rw [r.2.2.1]
        exact hQ1 rfl _ (fun c hc => q_put_ne (by omega)) r.p7
      · have g6 := f2 h1 h3
        rw [if_neg h3] at hQ0
        rw [if_neg h3, if_neg h3] at hQ1
        simp only [gR_tellOne_0, gR_tellOne_1, gR_tellOne_4, gR_tellOne_6, gR_tellOne_9, gR_tellOne_10, gR_tellOne_11, gR_tellOne_14, gR_tellOne_15, gR_tellOne_18, gR_tellOne_19, gR_tellOne_22, gR_tellOne_25, gR_tellOne_26, gR_tellOne_27, gR_tellOne_28, gR_tellOne_31, gR_tellOne_34, gR_tellOne_37, gR_tellOne_38, gR_tellOne_39, gR_tellOne_40, gR_tellOne_43, gR_tellOne_45, gR_tellOne_48, gR_tellOne_49, gR_tellOne_52, gR_tellOne_53, gR_tellOne_56, gR_tellOne_57, gR_tellOne_60, gR_tellOne_63, gR_tellOne_64, gR_tellOne_65, gR_tellOne_66, gR_tellOne_69, gR_tellOne_71, gR_tellOne_74, gR_tellOne_75, gR_tellOne_76, gR_tellOne_79, gR_tellOne_82, gR_tellOne_83, gR_tellOne_84, gR_tellOne_85, gR_tellOne_86, gR_tellOne_87, gR_tellOne_90, gR_tellOne_93, gR_tellOne_96, gR_tellOne_97, gR_tellOne_100, gR_tellOne_101, gR_tellOne_104, gR_tellOne_107, gR_tellOne_108, gR_tellOne_110, gR_tellOne_113, gR_tellOne_115, gR_tellOne_118, gR_tellOne_119, gR_tellOne_120, gR_tellOne_123, gR_tellOne_124, gR_tellOne_127, gR_tellOne_130, gR_tellOne_131, gR_tellOne_134, gR_tellOne_135, gR_tellOne_136, gR_tellOne_139, gR_tellOne_140, gR_tellOne_143, gR_tellOne_146, gR_tellOne_147, gR_tellOne_148, ↓reduceIte, Bool.false_eq_true, Bool.true_eq_false, qk_i, qk_r, qk_n, Option.toList_some, Option.toList_none, List.cons_append, List.nil_append, true_and, and_true, true_or, or_true, eq_self, if_true, if_false, q_b1, q_b2, c_A, c_R, c_O, c_M, c_H1, c_H8, c_H15, f3, h2, h3, g5, g6, x_H_isThing c_H15, q_z0, ht', Bool.true_eq_false, not_true, not_false_eq_true]
        cases hu : b_isThing H 0 y
        · have hu' : b_isThing M 15 y = false := r.isThing.trans hu
          rw [hu] at hQ0
          simp only [hu', not_true, if_false, if_true]
          exact hQ0 rfl
        · have hu' : b_isThing M 15 y = true := r.isThing.trans hu
          rw [hu] at hQ0 hQ1
          by_cases he : x = y
          · rw [decide_eq_false (fun q => q he)] at hQ0
            have he' : ¬ ¬ x = y := fun q => q he
            simp only [hu', he', Bool.true_eq_false, not_false_eq_true, if_true, if_false]
            exact hQ0 rfl
          · rw [decide_eq_true he] at hQ1
            simp only [hu', he, Bool.true_eq_false, not_false_eq_true, if_true, if_false]
            by_cases h4 : b = 110
            · have f3' : M 22 3 = 110 := f3.trans h4
              rw [if_pos h4] at hQ1
              simp only [gR_tellOne_0, gR_tellOne_1, gR_tellOne_4, gR_tellOne_6, gR_tellOne_9, gR_tellOne_10, gR_tellOne_11, gR_tellOne_14, gR_tellOne_15, gR_tellOne_18, gR_tellOne_19, gR_tellOne_22, gR_tellOne_25, gR_tellOne_26, gR_tellOne_27, gR_tellOne_28, gR_tellOne_31, gR_tellOne_34, gR_tellOne_37, gR_tellOne_38, gR_tellOne_39, gR_tellOne_40, gR_tellOne_43, gR_tellOne_45, gR_tellOne_48, gR_tellOne_49, gR_tellOne_52, gR_tellOne_53, gR_tellOne_56, gR_tellOne_57, gR_tellOne_60, gR_tellOne_63, gR_tellOne_64, gR_tellOne_65, gR_tellOne_66, gR_tellOne_69, gR_tellOne_71, gR_tellOne_74, gR_tellOne_75, gR_tellOne_76, gR_tellOne_79, gR_tellOne_82, gR_tellOne_83, gR_tellOne_84, gR_tellOne_85, gR_tellOne_86, gR_tellOne_87, gR_tellOne_90, gR_tellOne_93, gR_tellOne_96, gR_tellOne_97, gR_tellOne_100, gR_tellOne_101, gR_tellOne_104, gR_tellOne_107, gR_tellOne_108, gR_tellOne_109, gR_tellOne_110, gR_tellOne_113, gR_tellOne_115, gR_tellOne_118, gR_tellOne_119, gR_tellOne_120, gR_tellOne_123, gR_tellOne_124, gR_tellOne_127, gR_tellOne_130, gR_tellOne_131, gR_tellOne_134, gR_tellOne_135, gR_tellOne_136, gR_tellOne_139, gR_tellOne_140, gR_tellOne_143, gR_tellOne_146, gR_tellOne_147, gR_tellOne_148, ↓reduceIte, Bool.false_eq_true, Bool.true_eq_false, qk_i, qk_r, qk_n, Option.toList_some, Option.toList_none, List.cons_append, List.nil_append, true_and, and_true, true_or, or_true, eq_self, if_true, if_false, q_b1, q_b2, c_A, c_R, c_O, c_M, c_H1, c_H8, c_H15, f3', g5, g6, not_true, x_H_turnAny c_H15]
              rw [r.turnV (k := 5) (by omega) (by omega)]
              exact hQ1 rfl _ (te_fr.sput (by omega) (by omega)) (r.put (k := 5) (by omega) (by omega))
            · rw [if_neg h4] at hQ1
              simp only [gR_tellOne_0, gR_tellOne_1, gR_tellOne_4, gR_tellOne_6, gR_tellOne_9, gR_tellOne_10, gR_tellOne_11, gR_tellOne_14, gR_tellOne_15, gR_tellOne_18, gR_tellOne_19, gR_tellOne_22, gR_tellOne_25, gR_tellOne_26, gR_tellOne_27, gR_tellOne_28, gR_tellOne_31, gR_tellOne_34, gR_tellOne_37, gR_tellOne_38, gR_tellOne_39, gR_tellOne_40, gR_tellOne_43, gR_tellOne_45, gR_tellOne_48, gR_tellOne_49, gR_tellOne_52, gR_tellOne_53, gR_tellOne_56, gR_tellOne_57, gR_tellOne_60, gR_tellOne_63, gR_tellOne_64, gR_tellOne_65, gR_tellOne_66, gR_tellOne_69, gR_tellOne_71, gR_tellOne_74, gR_tellOne_75, gR_tellOne_76, gR_tellOne_79, gR_tellOne_82, gR_tellOne_83, gR_tellOne_84, gR_tellOne_85, gR_tellOne_86, gR_tellOne_87, gR_tellOne_90, gR_tellOne_93, gR_tellOne_96, gR_tellOne_97, gR_tellOne_100, gR_tellOne_101, gR_tellOne_104, gR_tellOne_107, gR_tellOne_108, gR_tellOne_109, gR_tellOne_110, gR_tellOne_113, gR_tellOne_115, gR_tellOne_118, gR_tellOne_119, gR_tellOne_120, gR_tellOne_123, gR_tellOne_124, gR_tellOne_127, gR_tellOne_130, gR_tellOne_131, gR_tellOne_134, gR_tellOne_135, gR_tellOne_136, gR_tellOne_139, gR_tellOne_140, gR_tellOne_143, gR_tellOne_146, gR_tellOne_147, gR_tellOne_148, ↓reduceIte, Bool.false_eq_true, Bool.true_eq_false, qk_i, qk_r, qk_n, Option.toList_some, Option.toList_none, List.cons_append, List.nil_append, true_and, and_true, true_or, or_true, eq_self, if_true, if_false, q_b1, q_b2, c_A, c_R, c_O, c_M, c_H1, c_H8, c_H15, f3, h4, g5, g6, not_false_eq_true, x_H_turnAll c_H15]
              rw [r.turnV (k := 6) (by omega) (by omega)]
              exact hQ1 rfl _ (te_fr.sput (by omega) (by omega)) (r.put (k := 6) (by omega) (by omega))
theorem st_c {s : Nat} (c : cr M f n (p_pos f n s)) : (s_stmt M).1 = q_z (st_ok f n s) ∧ cr (s_stmt M).2 f n (p_pos f n (s + 1)) ∧ (st_ok f n s = true → cf (s_stmt M).2 (st_b f n s) (st_x f n s) (st_y f n s) (st_z f n s)) := c_st c
theorem c_rw_l {s : Nat} (hs : s ≤ 32) (hok : ∀ i, i < s → st_ok f n i = true ∧ p_pos f n i < n)
    (hA : p_pos f n s = n ∧ (∀ M', Rd M0 M' → cr M' f n n → Q (some (.int 1)) M') ∨ st_ok f n s = false ∧ p_pos f n s < n ∧ (∀ M', Rd M0 M' → cr M' f n (p_pos f n (s + 1)) → Q (some (.int 0)) M')) :
    ∀ k j, j + k = s → ∀ M : q_M, Rd M0 M → cr M f n (p_pos f n j) → q_g 41 none Q 20 [some (.ref 22), some (.int 1), some (.int (nI j))] [] M := by
  intro k
  induction k with
  | zero =>
    intro j hj M hM hc
    have : j = s := by omega
    subst this
    have hn := hc.2.2.2.1
    have hp := hc.2.2.2.2
    have h1 : ¬ (96 : Int32) ≤ nI j := nI_ge (b := 96) (by omega) (by omega)
    rw [gR_readsWell_20]
    simp only [gR_readsWell_0, gR_readsWell_1, gR_readsWell_2, gR_readsWell_5, gR_readsWell_6, gR_readsWell_9, gR_readsWell_12, gR_readsWell_13, gR_readsWell_16, gR_readsWell_17, gR_readsWell_18, gR_readsWell_19, gR_readsWell_21, gR_readsWell_23, gR_readsWell_26, gR_readsWell_27, gR_readsWell_30, gR_readsWell_31, gR_readsWell_34, gR_readsWell_35, gR_readsWell_38, gR_readsWell_41, gR_readsWell_42, gR_readsWell_45, gR_readsWell_46, gR_readsWell_49, gR_readsWell_52, gR_readsWell_53, ↓reduceIte, Bool.false_eq_true, Bool.true_eq_false, qk_i, qk_r, qk_n, Option.toList_some, Option.toList_none, List.cons_append, List.nil_append, true_and, and_true, true_or, or_true, eq_self, if_true, if_false, q_b1, q_b2, c_A, c_R, c_O, c_M, c_H1, c_H8, c_H15, h1, n1z', hc.1, hc.2.1, x_R_readStatement, nI_1]
    rcases hA with ⟨he, hq⟩ | ⟨ho, hl, hq⟩
    · rw [he] at hc hp ⊢
      rw [if_pos (nI_le (Nat.le_refl _) (by omega))]
      exact hq _ hM hc
    · rw [if_neg (nI_ge hl (by omega))]
      obtain ⟨a1, a2, -⟩ := st_c hc
      have h2 : ¬ (96 : Int32) ≤ nI (j + 1) := nI_ge (b := 96) (by omega) (by omega)
      rw [a1, ho]
      show q_g 41 none Q 20 [some (.ref 22), some (.int 0), some (.int (nI (j + 1)))] [] _
      rw [gR_readsWell_20]
      simp only [gR_readsWell_0, gR_readsWell_1, gR_readsWell_2, gR_readsWell_5, gR_readsWell_6, gR_readsWell_9, gR_readsWell_12, gR_readsWell_13, gR_readsWell_16, gR_readsWell_17, gR_readsWell_18, gR_readsWell_19, gR_readsWell_21, gR_readsWell_23, gR_readsWell_26, gR_readsWell_27, gR_readsWell_30, gR_readsWell_31, gR_readsWell_34, gR_readsWell_35, gR_readsWell_38, gR_readsWell_41, gR_readsWell_42, gR_readsWell_45, gR_readsWell_46, gR_readsWell_49, gR_readsWell_52, gR_readsWell_53, ↓reduceIte, Bool.false_eq_true, Bool.true_eq_false, qk_i, qk_r, qk_n, Option.toList_some, Option.toList_none, List.cons_append, List.nil_append, true_and, and_true, true_or, or_true, eq_self, if_true, if_false, q_b1, q_b2, c_A, c_R, c_O, c_M, c_H1, c_H8, c_H15, h2]
      exact hq _ (hM.tr rd_stmt) a2
  | succ k ih =>
    intro j hj M hM hc
    have hn := hc.2.2.2.1
    obtain ⟨ho, hl⟩ := hok j (by omega)
    have h1 : ¬ (96 : Int32) ≤ nI j := nI_ge (b := 96) (by omega) (by omega)
    rw [gR_readsWell_20]
    simp only [gR_readsWell_0, gR_readsWell_1, gR_readsWell_2, gR_readsWell_5, gR_readsWell_6, gR_readsWell_9, gR_readsWell_12, gR_readsWell_13, gR_readsWell_16, gR_readsWell_17, gR_readsWell_18, gR_readsWell_19, gR_readsWell_21, gR_readsWell_23, gR_readsWell_26, gR_readsWell_27, gR_readsWell_30, gR_readsWell_31, gR_readsWell_34, gR_readsWell_35, gR_readsWell_38, gR_readsWell_41, gR_readsWell_42, gR_readsWell_45, gR_readsWell_46, gR_readsWell_49, gR_readsWell_52, gR_readsWell_53, ↓reduceIte, Bool.false_eq_true, Bool.true_eq_false, qk_i, qk_r, qk_n, Option.toList_some, Option.toList_none, List.cons_append, List.nil_append, true_and, and_true, true_or, or_true, eq_self, if_true, if_false, q_b1, q_b2, c_A, c_R, c_O, c_M, c_H1, c_H8, c_H15, h1, n1z', hc.1, hc.2.1, x_R_readStatement, nI_1]
    rw [if_neg (nI_ge hl (by omega))]
    obtain ⟨a1, a2, -⟩ := st_c hc
    rw [a1, ho]
    exact ih (j + 1) (by omega) _ (hM.tr rd_stmt) a2
theorem c_readsWell {s : Nat} (hs : s ≤ 32) (hok : ∀ i, i < s → st_ok f n i = true ∧ p_pos f n i < n) (h1 : M 22 1 = nI n) (h23 : M 23 = f) (hn : n ≤ 96)
    (hA : 1 ≤ s ∧ p_pos f n s = n ∧ (∀ M', Rd M M' → cr M' f n n → Q (some (.int 1)) M') ∨ st_ok f n s = false ∧ (p_pos f n s < n ∨ s = 0 ∧ n = 0) ∧ (∀ M', Rd M M' → cr M' f n (p_pos f n (s + 1)) → Q (some (.int 0)) M')) :
    q_Run 41 [.ref 22] M Q := by
  have c0 : cr (q_put M 22 2 0) f n 0 := ⟨by rw [q_put_at, if_neg (by decide)]; exact h1, by rw [q_put_at, if_pos rfl]; exact nI_0.symm, by rw [q_put_ne (by decide)]; exact h23, hn, Nat.zero_le _⟩
  have rd0 : Rd M (q_put M 22 2 0) := Rd.rf.q (by decide)
  rw [e_R_readsWell]
  simp only [gR_readsWell_0, gR_readsWell_1, gR_readsWell_2, gR_readsWell_5, gR_readsWell_6, gR_readsWell_9, gR_readsWell_12, gR_readsWell_13, gR_readsWell_16, gR_readsWell_17, gR_readsWell_18, gR_readsWell_19, gR_readsWell_21, gR_readsWell_23, gR_readsWell_26, gR_readsWell_27, gR_readsWell_30, gR_readsWell_31, gR_readsWell_34, gR_readsWell_35, gR_readsWell_38, gR_readsWell_41, gR_readsWell_42, gR_readsWell_45, gR_readsWell_46, gR_readsWell_49, gR_readsWell_52, gR_readsWell_53, ↓reduceIte, Bool.false_eq_true, Bool.true_eq_false, qk_i, qk_r, qk_n, Option.toList_some, Option.toList_none, List.cons_append, List.nil_append, true_and, and_true, true_or, or_true, eq_self, if_true, if_false, q_b1, q_b2, c_A, c_R, c_O, c_M, c_H1, c_H8, c_H15, c0.1]
  by_cases hz : n = 0
  · subst hz
    have hle : nI 0 ≤ 0 := by decide
    rw [if_pos hle]
    have h2 : ¬ (96 : Int32) ≤ 0 := by decide
    rw [gR_readsWell_20]
    simp only [gR_readsWell_0, gR_readsWell_1, gR_readsWell_2, gR_readsWell_5, gR_readsWell_6, gR_readsWell_9, gR_readsWell_12, gR_readsWell_13, gR_readsWell_16, gR_readsWell_17, gR_readsWell_18, gR_readsWell_19, gR_readsWell_21, gR_readsWell_23, gR_readsWell_26, gR_readsWell_27, gR_readsWell_30, gR_readsWell_31, gR_readsWell_34, gR_readsWell_35, gR_readsWell_38, gR_readsWell_41, gR_readsWell_42, gR_readsWell_45, gR_readsWell_46, gR_readsWell_49, gR_readsWell_52, gR_readsWell_53, ↓reduceIte, Bool.false_eq_true, Bool.true_eq_false, qk_i, qk_r, qk_n, Option.toList_some, Option.toList_none, List.cons_append, List.nil_append, true_and, and_true, true_or, or_true, eq_self, if_true, if_false, q_b1, q_b2, c_A, c_R, c_O, c_M, c_H1, c_H8, c_H15, h2]
    rcases hA with ⟨hs1, he, hq⟩ | ⟨ho, hp, hq⟩
    · have := (hok 0 (by omega)).2
      omega
    · have hs0 : s = 0 := by
        rcases hp with q | ⟨q, -⟩
        · omega
        · exact q
      subst hs0
      exact hq _ rd0 c0
  · have hle : ¬ nI n ≤ 0 := nI_ge (a := 0) (by omega) (by omega)
    rw [if_neg hle]
    refine c_rw_l (M0 := M) hs hok ?_ s 0 (by omega) _ rd0 c0
    rcases hA with ⟨-, he, hq⟩ | ⟨ho, hp, hq⟩
    · exact Or.inl ⟨he, hq⟩
    · refine Or.inr ⟨ho, ?_, hq⟩
      rcases hp with q | ⟨-, q⟩
      · exact q
      · exact absurd q hz
theorem te_cr (c : cr M0 f n p) (e : te_fr M0 M) : cr M f n p := by
  obtain ⟨c1, c2, c3, c4, c5⟩ := c
  exact ⟨by rw [e 22 (by omega)]; exact c1, by rw [e 22 (by omega)]; exact c2, by rw [e 23 (by omega)]; exact c3, c4, c5⟩
theorem c_te_l {s t : Nat} (hs : s ≤ 32) (hok : ∀ i, i < s → st_ok f n i = true ∧ p_pos f n i < n) (he : p_pos f n s = n) (ht : t ≤ s) (hq : ∀ i, i < t → a_ok f n H i = true)
    (hA : t = s ∧ (∀ M', eqx St M0 M' → RC 15 M' (p_H f n H s) → Q (some (.int (nI s))) M') ∨ t < s ∧ a_ok f n H t = false ∧ (∀ M', eqx St M0 M' → Q (some (.int (-2000 - nI (p_pos f n t)))) M')) :
    ∀ k j, j + k = t → ∀ (o4 : Option Value) (M : q_M), eqx St M0 M → cr M f n (p_pos f n j) → RC 15 M (p_H f n H j) →
    q_g 42 none Q 9 [some (.ref 22), some (.ref 15), some (.int (nI j)), some (.int (nI j)), o4] [] M := by
  have rdr : ∀ {N H' : q_M}, RC 15 N H' → RC 15 (s_stmt N).2 H' := fun {N H'} r => r.of fun c h1 h2 => (rd_stmt (M := N)).1 c (by unfold S22; simp; omega)
  have rds : ∀ {N : q_M}, eqx St M0 N → eqx St M0 (s_stmt N).2 := fun {N} e => e.tr ((rd_stmt (M := N)).1.up St22)
  have ste : ∀ {N N' : q_M}, te_fr N N' → eqx St N N' := fun {N N'} e c hc => e c (by unfold St at hc; simp at hc; omega)
  intro k
  induction k with
  | zero =>
    intro j hj o4 M hM hc r
    have : j = t := by omega
    subst this
    have hn := hc.2.2.2.1
    have h1 : ¬ (96 : Int32) ≤ nI j := nI_ge (b := 96) (by omega) (by omega)
    rw [gR_tellEach_9]
    simp only [gR_tellEach_0, gR_tellEach_1, gR_tellEach_2, gR_tellEach_5, gR_tellEach_6, gR_tellEach_7, gR_tellEach_8, gR_tellEach_10, gR_tellEach_12, gR_tellEach_15, gR_tellEach_16, gR_tellEach_19, gR_tellEach_20, gR_tellEach_23, gR_tellEach_26, gR_tellEach_27, gR_tellEach_30, gR_tellEach_32, gR_tellEach_33, gR_tellEach_36, gR_tellEach_39, gR_tellEach_40, gR_tellEach_41, gR_tellEach_44, gR_tellEach_47, gR_tellEach_50, gR_tellEach_52, gR_tellEach_53, gR_tellEach_54, gR_tellEach_57, gR_tellEach_60, gR_tellEach_63, gR_tellEach_64, ↓reduceIte, Bool.false_eq_true, Bool.true_eq_false, qk_i, qk_r, qk_n, Option.toList_some, Option.toList_none, List.cons_append, List.nil_append, true_and, and_true, true_or, or_true, eq_self, if_true, if_false, q_b1, q_b2, c_A, c_R, c_O, c_M, c_H1, c_H8, c_H15, h1, hc.1, hc.2.1, x_R_readStatement, nI_1]
    rcases hA with ⟨e, hq2⟩ | ⟨hl, hb, hq2⟩
    · subst e
      rw [he, if_pos (nI_le (Nat.le_refl _) (by omega))]
      exact hq2 _ hM r
    · obtain ⟨ho, hp⟩ := hok j hl
      obtain ⟨a1, a2, a3⟩ := st_c hc
      rw [if_neg (nI_ge hp (by omega)), a1, ho]
      have z : ¬ q_z true = 0 := by decide
      rw [if_neg z]
      refine c_tellOne (rdr r) (a3 ho) (fun _ => ?_) (fun q => absurd (hb.symm.trans q) (by decide))
      simp only [gR_tellEach_0, gR_tellEach_1, gR_tellEach_2, gR_tellEach_5, gR_tellEach_6, gR_tellEach_7, gR_tellEach_8, gR_tellEach_10, gR_tellEach_12, gR_tellEach_15, gR_tellEach_16, gR_tellEach_19, gR_tellEach_20, gR_tellEach_23, gR_tellEach_26, gR_tellEach_27, gR_tellEach_30, gR_tellEach_32, gR_tellEach_33, gR_tellEach_36, gR_tellEach_39, gR_tellEach_40, gR_tellEach_41, gR_tellEach_44, gR_tellEach_47, gR_tellEach_50, gR_tellEach_52, gR_tellEach_53, gR_tellEach_54, gR_tellEach_57, gR_tellEach_60, gR_tellEach_63, gR_tellEach_64, ↓reduceIte, Bool.false_eq_true, Bool.true_eq_false, qk_i, qk_r, qk_n, Option.toList_some, Option.toList_none, List.cons_append, List.nil_append, true_and, and_true, true_or, or_true, eq_self, if_true, if_false, q_b1, q_b2, c_A, c_R, c_O, c_M, c_H1, c_H8, c_H15, not_true]
      exact hq2 _ (rds hM)
  | succ k ih =>
    intro j hj o4 M hM hc r
    have hn := hc.2.2.2.1
    have h1 : ¬ (96 : Int32) ≤ nI j := nI_ge (b := 96) (by omega) (by omega)
    obtain ⟨ho, hp⟩ := hok j (by omega)
    obtain ⟨a1, a2, a3⟩ := st_c hc
    have z : ¬ q_z true = 0 := by decide
    rw [gR_tellEach_9]
    simp only [gR_tellEach_0, gR_tellEach_1, gR_tellEach_2, gR_tellEach_5, gR_tellEach_6, gR_tellEach_7, gR_tellEach_8, gR_tellEach_10, gR_tellEach_12, gR_tellEach_15, gR_tellEach_16, gR_tellEach_19, gR_tellEach_20, gR_tellEach_23, gR_tellEach_26, gR_tellEach_27, gR_tellEach_30, gR_tellEach_32, gR_tellEach_33, gR_tellEach_36, gR_tellEach_39, gR_tellEach_40, gR_tellEach_41, gR_tellEach_44, gR_tellEach_47, gR_tellEach_50, gR_tellEach_52, gR_tellEach_53, gR_tellEach_54, gR_tellEach_57, gR_tellEach_60, gR_tellEach_63, gR_tellEach_64, ↓reduceIte, Bool.false_eq_true, Bool.true_eq_false, qk_i, qk_r, qk_n, Option.toList_some, Option.toList_none, List.cons_append, List.nil_append, true_and, and_true, true_or, or_true, eq_self, if_true, if_false, q_b1, q_b2, c_A, c_R, c_O, c_M, c_H1, c_H8, c_H15, h1, hc.1, hc.2.1, x_R_readStatement, nI_1]
    rw [if_neg (nI_ge hp (by omega)), a1, ho, if_neg z]
    refine c_tellOne (rdr r) (a3 ho) (fun q => ?_) (fun _ M' hM' r' => ?_)
    · exact absurd ((hq j (by omega)).symm.trans q) (by decide)
    · simp only [gR_tellEach_0, gR_tellEach_1, gR_tellEach_2, gR_tellEach_5, gR_tellEach_6, gR_tellEach_7, gR_tellEach_8, gR_tellEach_10, gR_tellEach_12, gR_tellEach_15, gR_tellEach_16, gR_tellEach_19, gR_tellEach_20, gR_tellEach_23, gR_tellEach_26, gR_tellEach_27, gR_tellEach_30, gR_tellEach_32, gR_tellEach_33, gR_tellEach_36, gR_tellEach_39, gR_tellEach_40, gR_tellEach_41, gR_tellEach_44, gR_tellEach_47, gR_tellEach_50, gR_tellEach_52, gR_tellEach_53, gR_tellEach_54, gR_tellEach_57, gR_tellEach_60, gR_tellEach_63, gR_tellEach_64, ↓reduceIte, Bool.false_eq_true, Bool.true_eq_false, qk_i, qk_r, qk_n, Option.toList_some, Option.toList_none, List.cons_append, List.nil_append, true_and, and_true, true_or, or_true, eq_self, if_true, if_false, q_b1, q_b2, c_A, c_R, c_O, c_M, c_H1, c_H8, c_H15, n1z', not_false_eq_true, nI_1]
      exact ih (j + 1) (by omega) _ M' ((rds hM).tr (ste hM')) (te_cr a2 hM') r'
theorem neg_1000 : ∀ q, q ≤ 96 → -1000 - nI q < 0 := by decide +kernel
theorem neg_2000 : ∀ q, q ≤ 96 → -2000 - nI q < 0 := by decide +kernel
/-- house(), as the class does it -/
theorem c_house {a : Int32} {H' : q_M} (r : RC 1 M H) (h1 : M 22 1 = nI n) (h23 : M 23 = f) (hn : n ≤ 96) (o : h_out f n H a H') (hQ : ∀ M', eqx Sh M M' → RC 1 M' H' → M' 22 1 = 0 → Q (some (.int a)) M') : q_Run 64 [.ref 0] M Q := by
  obtain ⟨s, hs, hi, hc⟩ := o
  have r15 : RC 15 (s_cpH M 15 1) H := cpH_RC (by omega) r
  have e15 : eqx Sh M (s_cpH M 15 1) := fun c hc => cpH_ne (by
    have := ShSt c hc
    unfold St at this
    simp at this
    omega)
  have e42 : ∀ {M' : q_M}, eqx Sh M M' → RC 1 M' H' ∧ a < 0 ∨ RC 15 M' H' ∧ ¬ a < 0 → q_g 64 none Q 42 [some (.ref 0), none] [.int a] M' := by
    intro M' hM' hr
    simp only [gA_house_0, gA_house_1, gA_house_4, gA_house_5, gA_house_8, gA_house_11, gA_house_12, gA_house_15, gA_house_18, gA_house_21, gA_house_22, gA_house_25, gA_house_26, gA_house_29, gA_house_32, gA_house_35, gA_house_36, gA_house_39, gA_house_42, gA_house_43, gA_house_44, gA_house_47, gA_house_48, gA_house_51, gA_house_52, gA_house_55, gA_house_58, gA_house_59, gA_house_62, gA_house_65, gA_house_66, ↓reduceIte, Bool.false_eq_true, Bool.true_eq_false, qk_i, qk_r, qk_n, Option.toList_some, Option.toList_none, List.cons_append, List.nil_append, true_and, and_true, true_or, or_true, eq_self, if_true, if_false, q_b1, q_b2, c_A, c_R, c_O, c_M, c_H1, c_H8, c_H15, rf_A0, rf_A2, rf_A3, x_R_forget, x_H_copyFrom c_H1 c_H15 (by decide)]
    rcases hr with ⟨hr, ha⟩ | ⟨hr, ha⟩
    · rw [if_pos ha]
      exact hQ _ (hM'.qput (by decide)) (hr.of fun c _ _ => q_put_ne (by omega)) (by rw [q_put_at, if_pos rfl])
    · have e9 : eqx Sh M' (s_cpH M' 1 15) := fun c hc => cpH_ne (by
        unfold Sh at hc
        simp at hc
        omega)
      rw [if_neg ha]
      exact hQ _ ((hM'.tr e9).qput (by decide)) ((cpH_RC (by omega) hr).of fun c _ _ => q_put_ne (by omega)) (by rw [q_put_at, if_pos rfl])
  have rd1 : ∀ {M1 : q_M}, Rd (s_cpH M 15 1) M1 → eqx Sh M M1 ∧ RC 1 M1 H ∧ RC 15 M1 H := fun {M1} hM1 =>
    ⟨e15.tr ((hM1.1.up St22).up ShSt), r.of fun c h2 h3 => by rw [hM1.1 c (by unfold S22; simp; omega)]; exact cpH_ne (by omega), r15.of fun c h2 h3 => hM1.1 c (by unfold S22; simp; omega)⟩
  rw [e_A_house]
  simp only [gA_house_0, gA_house_1, gA_house_4, gA_house_5, gA_house_8, gA_house_11, gA_house_12, gA_house_15, gA_house_18, gA_house_21, gA_house_22, gA_house_25, gA_house_26, gA_house_29, gA_house_32, gA_house_35, gA_house_36, gA_house_39, gA_house_43, gA_house_44, gA_house_47, gA_house_48, gA_house_51, gA_house_52, gA_house_55, gA_house_58, gA_house_59, gA_house_62, gA_house_65, gA_house_66, ↓reduceIte, Bool.false_eq_true, Bool.true_eq_false, qk_i, qk_r, qk_n, Option.toList_some, Option.toList_none, List.cons_append, List.nil_append, true_and, and_true, true_or, or_true, eq_self, if_true, if_false, q_b1, q_b2, c_A, c_R, c_O, c_M, c_H1, c_H8, c_H15, rf_A0, rf_A2, rf_A3, x_H_copyFrom c_H15 c_H1 (by decide)]
  refine c_readsWell (M := s_cpH M 15 1) hs hi (by rw [cpH_ne (by omega)]; exact h1) (by rw [cpH_ne (by omega)]; exact h23) hn ?_
  rcases hc with ⟨ho, hp, ea, eH⟩ | ⟨hs1, he, t, ht, hq, hc⟩
  · refine Or.inr ⟨ho, hp, fun M1 hM1 hc1 => ?_⟩
    obtain ⟨b1, b2, b3⟩ := rd1 hM1
    simp only [gA_house_0, gA_house_1, gA_house_4, gA_house_5, gA_house_8, gA_house_11, gA_house_12, gA_house_15, gA_house_18, gA_house_21, gA_house_22, gA_house_25, gA_house_26, gA_house_29, gA_house_32, gA_house_35, gA_house_36, gA_house_39, gA_house_43, gA_house_44, gA_house_47, gA_house_48, gA_house_51, gA_house_52, gA_house_55, gA_house_58, gA_house_59, gA_house_62, gA_house_65, gA_house_66, ↓reduceIte, Bool.false_eq_true, Bool.true_eq_false, qk_i, qk_r, qk_n, Option.toList_some, Option.toList_none, List.cons_append, List.nil_append, true_and, and_true, true_or, or_true, eq_self, if_true, if_false, q_b1, q_b2, c_A, c_R, c_O, c_M, c_H1, c_H8, c_H15, rf_A0, rf_A2, rf_A3, x_R_faultHere, hc1.2.1]
    have ea' : a = -1000 - nI (p_pos f n (s + 1)) := ea
    rw [← ea']
    refine e42 b1 (Or.inl ⟨by rw [eH]; exact b2, ?_⟩)
    rw [ea']
    exact neg_1000 _ (Nat.le_trans (pos_le _) hn)
  · refine Or.inl ⟨hs1, he, fun M1 hM1 hc1 => ?_⟩
    obtain ⟨b1, b2, b3⟩ := rd1 hM1
    have c0 : cr (q_put M1 22 2 0) f n (p_pos f n 0) := ⟨by rw [q_put_at, if_neg (by decide)]; exact hc1.1, by rw [q_put_at, if_pos rfl]; exact nI_0.symm, by rw [q_put_ne (by decide)]; exact hc1.2.2.1, hn, Nat.zero_le _⟩
    have r0 : RC 15 (q_put M1 22 2 0) (p_H f n H 0) := b3.of fun c _ _ => q_put_ne (by omega)
    have b1' : ∀ {M2 : q_M}, eqx St M1 M2 → eqx Sh M M2 := fun {M2} h2 => b1.tr (h2.up ShSt)
    simp only [gA_house_0, gA_house_1, gA_house_4, gA_house_5, gA_house_8, gA_house_11, gA_house_12, gA_house_15, gA_house_18, gA_house_21, gA_house_22, gA_house_25, gA_house_26, gA_house_29, gA_house_32, gA_house_35, gA_house_36, gA_house_39, gA_house_43, gA_house_44, gA_house_47, gA_house_48, gA_house_51, gA_house_52, gA_house_55, gA_house_58, gA_house_59, gA_house_62, gA_house_65, gA_house_66, ↓reduceIte, Bool.false_eq_true, Bool.true_eq_false, qk_i, qk_r, qk_n, Option.toList_some, Option.toList_none, List.cons_append, List.nil_append, true_and, and_true, true_or, or_true, eq_self, if_true, if_false, q_b1, q_b2, c_A, c_R, c_O, c_M, c_H1, c_H8, c_H15, rf_A0, rf_A2, rf_A3, n1z']
    rw [e_R_tellEach]
    simp only [gR_tellEach_0, gR_tellEach_1, gR_tellEach_2, gR_tellEach_5, gR_tellEach_6, gR_tellEach_7, gR_tellEach_8, gR_tellEach_10, gR_tellEach_12, gR_tellEach_15, gR_tellEach_16, gR_tellEach_19, gR_tellEach_20, gR_tellEach_23, gR_tellEach_26, gR_tellEach_27, gR_tellEach_30, gR_tellEach_32, gR_tellEach_33, gR_tellEach_36, gR_tellEach_39, gR_tellEach_40, gR_tellEach_41, gR_tellEach_44, gR_tellEach_47, gR_tellEach_50, gR_tellEach_52, gR_tellEach_53, gR_tellEach_54, gR_tellEach_57, gR_tellEach_60, gR_tellEach_63, gR_tellEach_64, ↓reduceIte, Bool.false_eq_true, Bool.true_eq_false, qk_i, qk_r, qk_n, Option.toList_some, Option.toList_none, List.cons_append, List.nil_append, true_and, and_true, true_or, or_true, eq_self, if_true, if_false, q_b1, q_b2, c_A, c_R, c_O, c_M, c_H1, c_H8, c_H15]
    refine c_te_l (M0 := M1) hs hi he ht hq ?_ t 0 (by omega) _ _ (eqx.rf.qput (by decide)) c0 r0
    rcases hc with ⟨e, ea, eH⟩ | ⟨hl, hb, ea, eH⟩
    · refine Or.inl ⟨e, fun M2 h2 h3 => ?_⟩
      simp only [gA_house_0, gA_house_1, gA_house_4, gA_house_5, gA_house_8, gA_house_11, gA_house_12, gA_house_15, gA_house_18, gA_house_21, gA_house_22, gA_house_25, gA_house_26, gA_house_29, gA_house_32, gA_house_35, gA_house_36, gA_house_39, gA_house_43, gA_house_44, gA_house_47, gA_house_48, gA_house_51, gA_house_52, gA_house_55, gA_house_58, gA_house_59, gA_house_62, gA_house_65, gA_house_66, ↓reduceIte, Bool.false_eq_true, Bool.true_eq_false, qk_i, qk_r, qk_n, Option.toList_some, Option.toList_none, List.cons_append, List.nil_append, true_and, and_true, true_or, or_true, eq_self, if_true, if_false, q_b1, q_b2, c_A, c_R, c_O, c_M, c_H1, c_H8, c_H15]
      rw [← ea]
      refine e42 (b1' h2) (Or.inr ⟨by rw [eH]; exact h3, ?_⟩)
      rw [ea]
      exact nI_pos (by omega)
    · refine Or.inr ⟨hl, hb, fun M2 h2 => ?_⟩
      simp only [gA_house_0, gA_house_1, gA_house_4, gA_house_5, gA_house_8, gA_house_11, gA_house_12, gA_house_15, gA_house_18, gA_house_21, gA_house_22, gA_house_25, gA_house_26, gA_house_29, gA_house_32, gA_house_35, gA_house_36, gA_house_39, gA_house_43, gA_house_44, gA_house_47, gA_house_48, gA_house_51, gA_house_52, gA_house_55, gA_house_58, gA_house_59, gA_house_62, gA_house_65, gA_house_66, ↓reduceIte, Bool.false_eq_true, Bool.true_eq_false, qk_i, qk_r, qk_n, Option.toList_some, Option.toList_none, List.cons_append, List.nil_append, true_and, and_true, true_or, or_true, eq_self, if_true, if_false, q_b1, q_b2, c_A, c_R, c_O, c_M, c_H1, c_H8, c_H15]
      rw [← ea]
      refine e42 (b1' h2) (Or.inl ⟨by rw [eH]; exact b2.of fun c _ hc => h2 c (by unfold St; simp; omega), ?_⟩)
      rw [ea]
      exact neg_2000 _ (Nat.le_trans (pos_le _) hn)
end HC
