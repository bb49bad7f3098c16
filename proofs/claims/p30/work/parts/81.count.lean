/-! count: the same on both sides, the REFUSALS with it -/
def an_cnt (H : q_M) (n h k r : Nat) (F : Nat → Int32) (a : Int32) : Int32 :=
  if a = 0 then nI n else if a = 1 then nI (pcN h 31) else if a = 2 then H 0 8 else if a = 3 then nI (pcN (v_bar H n h) 31) else if a = 4 then nI (co H (2 ^ n - 1) n) else if a = 5 then nI r else if a = 6 then nI k else if a < 11 then -9 else if 16 < a then -9 else F (a - 10).toNatClampNeg
section COUNT
variable {Q : q_R} {M H : q_M} {n h k r : Nat} {a : Int32}
theorem cnt_all : ∀ n, n < 11 → pcN (2 ^ n - 1) 31 = n := by decide +kernel
theorem cnt_in (h1 : ¬ a < 11) (h2 : ¬ 16 < a) : ∃ i, i < 7 ∧ a - 10 = nI i := by
  obtain ⟨j, hj, rfl⟩ := nI_of (x := a) (fun q => h1 (Int32.lt_of_lt_of_le q (by decide)))
  have h3 : ¬ nI j < nI 11 := h1
  have h4 : ¬ nI 16 < nI j := h2
  rw [nI_ltI hj (by omega)] at h3
  rw [nI_ltI (by omega) hj] at h4
  obtain ⟨i, rfl⟩ : ∃ i, j = i + 10 := ⟨j - 10, by omega⟩
  refine ⟨i, by omega, ?_⟩
  rw [← nI_add]
  exact Int32.add_sub_cancel _ _
theorem bar_pc (g : gH H n h) : nI n - nI (pcN (rN H n h) 31) = nI (pcN (v_bar H n h) 31) := by
  have h10 := g.1
  have h2 := two_pow_le g.1
  have hp := Nat.two_pow_pos n
  have hr := rN_ltn g g.2.2.2.1
  have ha : v_bar H n h ||| rN H n h = 2 ^ n - 1 := by
    apply Nat.eq_of_testBit_eq
    intro i
    unfold v_bar
    rw [Nat.testBit_or, dif_tb (by omega), tb_all]
    cases hb : (rN H n h).testBit i
    · simp
    · rw [decide_eq_true (tb_ltn hr hb)]
      rfl
  have hd := pcN_or (a := v_bar H n h) (b := rN H n h) (fun i hi => by
    unfold v_bar
    rw [dif_tb (by omega), hi]
    simp) 31
  rw [ha, cnt_all n (by omega)] at hd
  have e : nI n = nI (pcN (v_bar H n h) 31) + nI (pcN (rN H n h) 31) := (congrArg nI hd).trans (nI_add _ _).symm
  generalize nI (pcN (v_bar H n h) 31) = x at e ⊢
  generalize nI (pcN (rN H n h) 31) = y at e ⊢
  rw [e]
  exact Int32.add_sub_cancel _ _
theorem y_A_count {F : Nat → Int32} (g : gH H n h) (t : RC 1 M H) (e0 : M 0 7 = nI r) (e22 : M 22 1 = nI k) (eF : ∀ j, j < 7 → M 29 j = F j) : q_Run 59 [.ref 0, .int a] M Q = Q (some (.int (an_cnt H n h k r F a))) M := by
  have h2 := two_pow_le g.1
  have hp := Nat.two_pow_pos n
  have eb : dif (2 ^ n - 1) (rN H n h) = v_bar H n h := rfl
  rw [e_A_count]
  simp only [gA_count_0, gA_count_1, gA_count_44, gA_count_45, gA_count_48, gA_count_51, gA_count_52, gA_count_53, gA_count_56, gA_count_59, gA_count_62, gA_count_63, gA_count_64, gA_count_67, gA_count_70, gA_count_71, gA_count_72, gA_count_75, gA_count_78, gA_count_81, gA_count_82, gA_count_83, gA_count_86, gA_count_87, gA_count_90, gA_count_93, gA_count_96, gA_count_97, gA_count_98, gA_count_101, gA_count_102, gA_count_103, gA_count_106, gA_count_109, gA_count_110, gA_count_111, gA_count_113, gA_count_116, gA_count_117, gA_count_119, gA_count_122, gA_count_123, gA_count_126, gA_count_127, gA_count_129, gA_count_130, gA_count_133, gA_count_136, gA_count_138, ↓reduceIte, Bool.false_eq_true, Bool.true_eq_false, qk_i, qk_r, qk_n, Option.toList_some, Option.toList_none, List.cons_append, List.nil_append, true_and, and_true, true_or, or_true, eq_self, if_true, if_false, q_b1, q_b2, c_A, c_R, c_O, c_M, c_H1, c_H8, c_H15, rf_A0, rf_A3, rf_A6, x_I_bitCount, y_H_barred g t, y_H_everything g t, y_H_cost g t (show 2 ^ n - 1 < 1024 by omega), x_W_get al_29, e6_of g t, e7_of g t, t.2.2.2, e0, e22, eb, bc_pc g.hlt, bc_pc (bar_lt g)]
  unfold an_cnt
  by_cases c0 : a = 0
  · rw [if_pos c0, if_pos c0]
  rw [if_neg c0, if_neg c0]
  by_cases c1 : a = 1
  · rw [if_pos c1, if_pos c1]
  rw [if_neg c1, if_neg c1]
  by_cases c2 : a = 2
  · rw [if_pos c2, if_pos c2]
  rw [if_neg c2, if_neg c2]
  by_cases c3 : a = 3
  · rw [if_pos c3, if_pos c3]
  rw [if_neg c3, if_neg c3]
  by_cases c4 : a = 4
  · rw [if_pos c4, if_pos c4]
  rw [if_neg c4, if_neg c4]
  by_cases c5 : a = 5
  · rw [if_pos c5, if_pos c5]
  rw [if_neg c5, if_neg c5]
  by_cases c6 : a = 6
  · rw [if_pos c6, if_pos c6]
  rw [if_neg c6, if_neg c6]
  by_cases c7 : a < 11
  · rw [if_pos c7, if_pos c7]
  rw [if_neg c7, if_neg c7]
  by_cases c8 : 16 < a
  · rw [if_pos c8, if_pos c8]
  rw [if_neg c8, if_neg c8]
  obtain ⟨i, hi, ei⟩ := cnt_in c7 c8
  rw [ei, s_get_nI hi (by omega), eF i hi, nI_clamp (by omega)]
theorem y_M_count {F : Nat → Int32} (g : gH H n h) (t : RM M H) (e25 : M 30 25 = nI r) (e14 : M 30 14 = nI k) (eF : ∀ j, j < 7 → M 31 j = F j) : q_Run 101 [.ref 30, .int a] M Q = Q (some (.int (an_cnt H n h k r F a))) M := by
  have h2 := two_pow_le g.1
  have hp := Nat.two_pow_pos n
  rw [e_M_count]
  simp only [gM_count_0, gM_count_1, gM_count_3, gM_count_5, gM_count_8, gM_count_11, gM_count_12, gM_count_15, gM_count_16, gM_count_18, gM_count_19, gM_count_20, gM_count_22, gM_count_64, gM_count_65, gM_count_68, gM_count_69, gM_count_70, gM_count_73, gM_count_76, gM_count_77, gM_count_78, gM_count_81, gM_count_82, gM_count_83, gM_count_86, gM_count_87, gM_count_88, gM_count_91, gM_count_92, gM_count_95, gM_count_98, gM_count_99, gM_count_100, gM_count_101, gM_count_102, gM_count_105, gM_count_108, gM_count_109, gM_count_110, gM_count_113, gM_count_114, gM_count_115, gM_count_118, gM_count_119, gM_count_121, ↓reduceIte, Bool.false_eq_true, Bool.true_eq_false, qk_i, qk_r, qk_n, Option.toList_some, Option.toList_none, List.cons_append, List.nil_append, true_and, and_true, true_or, or_true, eq_self, if_true, if_false, q_b1, q_b2, c_A, c_R, c_O, c_M, c_H1, c_H8, c_H15, x_M_isIn, q_z0]
  cases hb : b_in a 11 16
  · simp only [gM_count_0, gM_count_1, gM_count_3, gM_count_5, gM_count_8, gM_count_11, gM_count_12, gM_count_15, gM_count_16, gM_count_18, gM_count_19, gM_count_20, gM_count_21, gM_count_22, gM_count_64, gM_count_65, gM_count_68, gM_count_69, gM_count_70, gM_count_73, gM_count_76, gM_count_77, gM_count_78, gM_count_81, gM_count_82, gM_count_83, gM_count_86, gM_count_87, gM_count_88, gM_count_91, gM_count_92, gM_count_95, gM_count_98, gM_count_99, gM_count_100, gM_count_101, gM_count_102, gM_count_105, gM_count_108, gM_count_109, gM_count_110, gM_count_113, gM_count_114, gM_count_115, gM_count_118, gM_count_119, gM_count_121, ↓reduceIte, Bool.false_eq_true, Bool.true_eq_false, qk_i, qk_r, qk_n, Option.toList_some, Option.toList_none, List.cons_append, List.nil_append, true_and, and_true, true_or, or_true, eq_self, if_true, if_false, q_b1, q_b2, c_A, c_R, c_O, c_M, c_H1, c_H8, c_H15, (g.vm t).1, (g.vm t).2.2.1, t.2.2.2, x_M_bits, y_M_reach0 g t g.hlt, y_M_whole g t, y_M_cost g t (show 2 ^ n - 1 < 1024 by omega), bits_pc g.hlt, bits_pc (rN_lt g g.hlt), bar_pc g, e25, e14]
    unfold an_cnt
    by_cases c0 : a = 0
    · rw [if_pos c0, if_pos c0]
    rw [if_neg c0, if_neg c0]
    by_cases c1 : a = 1
    · rw [if_pos c1, if_pos c1]
    rw [if_neg c1, if_neg c1]
    by_cases c2 : a = 2
    · rw [if_pos c2, if_pos c2]
    rw [if_neg c2, if_neg c2]
    by_cases c3 : a = 3
    · rw [if_pos c3, if_pos c3]
    rw [if_neg c3, if_neg c3]
    by_cases c4 : a = 4
    · rw [if_pos c4, if_pos c4]
    rw [if_neg c4, if_neg c4]
    by_cases c5 : a = 5
    · rw [if_pos c5, if_pos c5]
    rw [if_neg c5, if_neg c5]
    by_cases c6 : a = 6
    · rw [if_pos c6, if_pos c6]
    rw [if_neg c6, if_neg c6]
    by_cases c7 : a < 11
    · rw [if_pos c7]
    rw [if_neg c7]
    by_cases c8 : 16 < a
    · rw [if_pos c8]
    have : b_in a 11 16 = true := by
      unfold b_in
      rw [decide_eq_true c7, decide_eq_true c8]
      rfl
    rw [this] at hb
    cases hb
  · have hb' := hb
    unfold b_in at hb'
    simp only [Bool.and_eq_true, decide_eq_true_eq] at hb'
    obtain ⟨i, hi, ei⟩ := cnt_in hb'.1 hb'.2
    have hin : q_in (a - 10) 7 = true := by
      rw [ei]
      exact q_in_nI hi (by omega)
    have ne : ∀ c : Int32, c < 11 → ¬ a = c := fun c hc q => hb'.1 (by rw [q]; exact hc)
    simp only [gM_count_0, gM_count_1, gM_count_3, gM_count_5, gM_count_8, gM_count_11, gM_count_12, gM_count_15, gM_count_16, gM_count_18, gM_count_19, gM_count_20, gM_count_21, gM_count_22, gM_count_64, gM_count_65, gM_count_68, gM_count_69, gM_count_70, gM_count_73, gM_count_76, gM_count_77, gM_count_78, gM_count_81, gM_count_82, gM_count_83, gM_count_86, gM_count_87, gM_count_88, gM_count_91, gM_count_92, gM_count_95, gM_count_98, gM_count_99, gM_count_100, gM_count_101, gM_count_102, gM_count_105, gM_count_108, gM_count_109, gM_count_110, gM_count_113, gM_count_114, gM_count_115, gM_count_118, gM_count_119, gM_count_121, ↓reduceIte, Bool.false_eq_true, Bool.true_eq_false, qk_i, qk_r, qk_n, Option.toList_some, Option.toList_none, List.cons_append, List.nil_append, true_and, and_true, true_or, or_true, eq_self, if_true, if_false, q_b1, q_b2, c_A, c_R, c_O, c_M, c_H1, c_H8, c_H15, rf_M0, aD_31, hin]
    unfold an_cnt
    rw [if_neg (ne 0 (by decide)), if_neg (ne 1 (by decide)), if_neg (ne 2 (by decide)), if_neg (ne 3 (by decide)), if_neg (ne 4 (by decide)), if_neg (ne 5 (by decide)), if_neg (ne 6 (by decide)), if_neg hb'.1, if_neg hb'.2, ei, nI_clamp (by omega), eF i hi]
end COUNT
