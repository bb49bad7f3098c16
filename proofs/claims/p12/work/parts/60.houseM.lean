/-! the reference's house(), exactly -/
section HM
variable {Q : q_R} {M M0 H : q_M} {f : p_T} {n p h : Nat} {b x y z : Int32}
theorem RM.add {m : Nat} (r : RM M H) (hm : m < 10) (e : H 0 6 = nI m) : RM (q_put (q_put (q_put (q_put (q_put (q_put (q_put M 32 m x) 33 m y) 34 m z) 35 m 1) 36 m 0) 37 m 0) 30 7 (nI (m + 1))) (s_add H 0 x y z) := by
  unfold s_add
  rw [e, s_put_nI hm (by omega), s_put_nI hm (by omega), s_put_nI hm (by omega), s_put_nI hm (by omega), s_put_nI hm (by omega), s_put_nI hm (by omega), nI_1]
  exact ((((((r.q (k := 1) (by omega) (by omega)).q (k := 2) (by omega) (by omega)).q (k := 3) (by omega) (by omega)).q (k := 4) (by omega) (by omega)).q (k := 5) (by omega) (by omega)).q (k := 6) (by omega) (by omega)).p6
theorem rg_in : b_range y z = (b_in y 1 30 && b_in z 1 10) := by
  unfold b_range b_in
  rw [Bool.and_assoc]
theorem m_comesThing {pp m k : Nat} (g : gH H m k) (r : RM M H) (hpp : pp + 2 < 144) (v0 : M 41 pp = x) (v1 : M 41 (pp + 1) = y) (v2 : M 41 (pp + 2) = z) (hQ0 : (b_range y z && decide (H 0 6 < 10)) = false → Q (some (.int 0)) M)
    (hQ1 : (b_range y z && decide (H 0 6 < 10)) = true → ∀ M', eqf Sv Gv M M' → RM M' (s_add H 0 x y z) → Q (some (.int 1)) M') : q_Run 99 [.ref 30, .int (nI pp)] M Q := by
  have h10 := g.1
  have hv := g.vm r
  have i0 : q_in (nI pp) 144 = true := q_in_nI (by omega) (by omega)
  have i1 : q_in (nI (pp + 1)) 144 = true := q_in_nI (by omega) (by omega)
  have i2 : q_in (nI (pp + 2)) 144 = true := q_in_nI (by omega) (by omega)
  have n2 : nI pp + 2 = nI (pp + 2) := nI_add pp 2
  have c0 : (nI pp).toNatClampNeg = pp := nI_clamp (by omega)
  have c1 : (nI (pp + 1)).toNatClampNeg = pp + 1 := nI_clamp (by omega)
  have c2 : (nI (pp + 2)).toNatClampNeg = pp + 2 := nI_clamp (by omega)
  rw [rg_in, g.2.1] at hQ0 hQ1
  rw [e_M_comesThing]
  simp only [gM_comesThing_0, gM_comesThing_1, gM_comesThing_4, gM_comesThing_5, gM_comesThing_6, gM_comesThing_7, gM_comesThing_8, gM_comesThing_9, gM_comesThing_11, gM_comesThing_14, gM_comesThing_17, gM_comesThing_18, gM_comesThing_21, gM_comesThing_22, gM_comesThing_23, gM_comesThing_24, gM_comesThing_25, gM_comesThing_26, gM_comesThing_28, gM_comesThing_31, gM_comesThing_34, gM_comesThing_35, gM_comesThing_38, gM_comesThing_40, gM_comesThing_43, gM_comesThing_44, gM_comesThing_46, gM_comesThing_49, gM_comesThing_50, gM_comesThing_53, gM_comesThing_54, gM_comesThing_57, gM_comesThing_58, gM_comesThing_59, gM_comesThing_60, gM_comesThing_61, gM_comesThing_64, gM_comesThing_65, gM_comesThing_68, gM_comesThing_69, gM_comesThing_72, gM_comesThing_73, gM_comesThing_74, gM_comesThing_75, gM_comesThing_76, gM_comesThing_77, gM_comesThing_78, gM_comesThing_81, gM_comesThing_82, gM_comesThing_85, gM_comesThing_86, gM_comesThing_89, gM_comesThing_90, gM_comesThing_91, gM_comesThing_92, gM_comesThing_93, gM_comesThing_94, gM_comesThing_95, gM_comesThing_98, gM_comesThing_99, gM_comesThing_102, gM_comesThing_103, gM_comesThing_104, gM_comesThing_105, gM_comesThing_108, gM_comesThing_109, gM_comesThing_112, gM_comesThing_113, gM_comesThing_114, gM_comesThing_115, gM_comesThing_118, gM_comesThing_119, gM_comesThing_122, gM_comesThing_123, gM_comesThing_124, gM_comesThing_125, gM_comesThing_126, gM_comesThing_129, gM_comesThing_130, gM_comesThing_131, gM_comesThing_134, gM_comesThing_135, ↓reduceIte, Bool.false_eq_true, Bool.true_eq_false, qk_i, qk_r, qk_n, Option.toList_some, Option.toList_none, List.cons_append, List.nil_append, true_and, and_true, true_or, or_true, eq_self, if_true, if_false, q_b1, q_b2, c_A, c_R, c_O, c_M, c_H1, c_H8, c_H15, rf_M13, aD_41, nI_1, n2, i1, i2, c1, c2, v1, v2, x_M_isIn, q_z0]
  cases hb1 : b_in y 1 30
  · simp only [if_true]
    exact hQ0 (by rw [hb1]; rfl)
  cases hb2 : b_in z 1 10
  · simp only [Bool.true_eq_false, if_true, if_false]
    exact hQ0 (by rw [hb1, hb2]; rfl)
  simp only [Bool.true_eq_false, if_false]
  rw [hv.1]
  by_cases hn : m < 10
  · have h7 : ¬ nI m = 10 := fun q => absurd ((nI_eq (a := m) (b := 10) (by omega) (by omega)).mp q) (by omega)
    have hlt : nI m < 10 := nI_lt (b := 10) hn (by omega)
    have hin : q_in (nI m) 10 = true := q_in_nI hn (by omega)
    have cn : (nI m).toNatClampNeg = m := nI_clamp (by omega)
    have g1 : ∀ j x, q_put M 32 j x 30 = M 30 ∧ q_put M 32 j x 41 = M 41 := fun j x => ⟨q_put_ne (by decide), q_put_ne (by decide)⟩
    have p1 : ∀ N : q_M, ∀ j x, q_put N 33 j x 30 = N 30 ∧ q_put N 33 j x 41 = N 41 := fun N j x => ⟨q_put_ne (by decide), q_put_ne (by decide)⟩
    have p2 : ∀ N : q_M, ∀ j x, q_put N 34 j x 30 = N 30 ∧ q_put N 34 j x 41 = N 41 := fun N j x => ⟨q_put_ne (by decide), q_put_ne (by decide)⟩
    have p3 : ∀ N : q_M, ∀ j x, q_put N 35 j x 30 = N 30 := fun N j x => q_put_ne (by decide)
    have p4 : ∀ N : q_M, ∀ j x, q_put N 36 j x 30 = N 30 := fun N j x => q_put_ne (by decide)
    have p5 : ∀ N : q_M, ∀ j x, q_put N 37 j x 30 = N 30 := fun N j x => q_put_ne (by decide)
    rw [if_pos h7]
    simp only [gM_comesThing_0, gM_comesThing_1, gM_comesThing_4, gM_comesThing_5, gM_comesThing_6, gM_comesThing_7, gM_comesThing_8, gM_comesThing_9, gM_comesThing_11, gM_comesThing_14, gM_comesThing_17, gM_comesThing_18, gM_comesThing_21, gM_comesThing_22, gM_comesThing_23, gM_comesThing_24, gM_comesThing_25, gM_comesThing_26, gM_comesThing_28, gM_comesThing_31, gM_comesThing_34, gM_comesThing_35, gM_comesThing_38, gM_comesThing_40, gM_comesThing_43, gM_comesThing_44, gM_comesThing_45, gM_comesThing_46, gM_comesThing_49, gM_comesThing_50, gM_comesThing_53, gM_comesThing_54, gM_comesThing_57, gM_comesThing_58, gM_comesThing_59, gM_comesThing_60, gM_comesThing_61, gM_comesThing_64, gM_comesThing_65, gM_comesThing_68, gM_comesThing_69, gM_comesThing_72, gM_comesThing_73, gM_comesThing_74, gM_comesThing_75, gM_comesThing_76, gM_comesThing_77, gM_comesThing_78, gM_comesThing_81, gM_comesThing_82, gM_comesThing_85, gM_comesThing_86, gM_comesThing_89, gM_comesThing_90, gM_comesThing_91, gM_comesThing_92, gM_comesThing_93, gM_comesThing_94, gM_comesThing_95, gM_comesThing_98, gM_comesThing_99, gM_comesThing_102, gM_comesThing_103, gM_comesThing_104, gM_comesThing_105, gM_comesThing_108, gM_comesThing_109, gM_comesThing_112, gM_comesThing_113, gM_comesThing_114, gM_comesThing_115, gM_comesThing_118, gM_comesThing_119, gM_comesThing_122, gM_comesThing_123, gM_comesThing_124, gM_comesThing_125, gM_comesThing_126, gM_comesThing_129, gM_comesThing_130, gM_comesThing_131, gM_comesThing_134, gM_comesThing_135, ↓reduceIte, Bool.false_eq_true, Bool.true_eq_false, qk_i, qk_r, qk_n, Option.toList_some, Option.toList_none, List.cons_append, List.nil_append, true_and, and_true, true_or, or_true, eq_self, if_true, if_false, q_b1, q_b2, c_A, c_R, c_O, c_M, c_H1, c_H8, c_H15, rf_M1, rf_M2, rf_M3, rf_M4, rf_M5, rf_M6, rf_M13, aD_32, aD_33, aD_34, aD_35, aD_36, aD_37, aD_41, (g1 _ _).1, (g1 _ _).2, (p1 _ _ _).1, (p1 _ _ _).2, (p2 _ _ _).1, (p2 _ _ _).2, p3, p4, p5, hv.1, hin, i0, i1, i2, nI_1, n2, cn, c0, c1, c2, v0, v1, v2]
    exact hQ1 (by rw [hb1, hb2, decide_eq_true hlt]; rfl) _ (((((((eqf.rf.cell (by decide) (by decide)).cell (by decide) (by decide)).cell (by decide) (by decide)).cell (by decide) (by decide)).cell (by decide) (by decide)).cell (by decide) (by decide)).fld (by decide)) (r.add hn g.2.1)
  · have e10 : m = 10 := by omega
    subst e10
    have h7 : ¬ ¬ nI 10 = 10 := fun q => q rfl
    rw [if_neg h7]
    exact hQ0 (by rw [hb1, hb2]; rfl)
theorem m_comes {s m k : Nat} (g : gH H m k) (r : RM M H) (hs : s ≤ 47) (c : mf M s p b x y z) (hb : is_sign b) (hQ0 : ap_ok H b x y z = false → Q (some (.int 0)) M) (hQ1 : ap_ok H b x y z = true → ∀ M', eqf Sv Gv M M' → RM M' (ap H b x y z) → Q (some (.int 1)) M') : q_Run 98 [.ref 30, .int (nI s)] M Q := by
  obtain ⟨w1, -, w2, w3, w4⟩ := c
  have h10 := g.1
  have hv := g.vm r
  have i0 : q_in (nI (3 * s)) 144 = true := q_in_nI (by omega) (by omega)
  have i1 : q_in (nI (3 * s + 1)) 144 = true := q_in_nI (by omega) (by omega)
  have i2 : q_in (nI s) 48 = true := q_in_nI (by omega) (by omega)
  have k0 : (nI (3 * s)).toNatClampNeg = 3 * s := nI_clamp (by omega)
  have k1 : (nI (3 * s + 1)).toNatClampNeg = 3 * s + 1 := nI_clamp (by omega)
  have k2 : (nI s).toNatClampNeg = s := nI_clamp (by omega)
  have d3 : (3 : Int32) * nI s = nI (3 * s) := by
    rw [show (3 : Int32) = nI 3 from rfl]
    exact (Int32.ofNat_mul 3 s).symm
  unfold ap_ok at hQ0 hQ1
  unfold ap at hQ1
  rw [e_M_comes]
  simp only [gM_comes_0, gM_comes_1, gM_comes_2, gM_comes_3, gM_comes_4, gM_comes_5, gM_comes_8, gM_comes_9, gM_comes_10, gM_comes_11, gM_comes_12, gM_comes_15, gM_comes_16, gM_comes_17, gM_comes_18, gM_comes_19, gM_comes_21, gM_comes_22, gM_comes_25, gM_comes_26, gM_comes_27, gM_comes_69, gM_comes_70, gM_comes_73, gM_comes_75, gM_comes_76, gM_comes_78, gM_comes_81, gM_comes_84, gM_comes_85, gM_comes_86, gM_comes_87, gM_comes_90, gM_comes_91, gM_comes_92, gM_comes_93, gM_comes_94, gM_comes_96, gM_comes_97, gM_comes_98, gM_comes_99, gM_comes_100, gM_comes_102, gM_comes_103, gM_comes_105, gM_comes_108, gM_comes_111, gM_comes_112, gM_comes_113, gM_comes_114, gM_comes_117, gM_comes_118, gM_comes_119, gM_comes_120, gM_comes_121, gM_comes_123, gM_comes_124, gM_comes_125, gM_comes_126, gM_comes_127, gM_comes_129, gM_comes_130, gM_comes_133, gM_comes_136, gM_comes_137, gM_comes_138, gM_comes_139, gM_comes_140, gM_comes_143, gM_comes_144, gM_comes_145, gM_comes_146, gM_comes_147, gM_comes_150, gM_comes_151, gM_comes_153, gM_comes_154, gM_comes_157, gM_comes_160, gM_comes_161, gM_comes_162, gM_comes_163, gM_comes_166, gM_comes_167, gM_comes_169, gM_comes_170, gM_comes_171, ↓reduceIte, Bool.false_eq_true, Bool.true_eq_false, qk_i, qk_r, qk_n, Option.toList_some, Option.toList_none, List.cons_append, List.nil_append, true_and, and_true, true_or, or_true, eq_self, if_true, if_false, q_b1, q_b2, c_A, c_R, c_O, c_M, c_H1, c_H8, c_H15, d3, rf_M11, rf_M13, aD_39, aD_41, i0, i1, i2, nI_1, k0, k1, k2, w1, w2]
  by_cases h1 : b = 116
  · obtain ⟨v1, v2⟩ := w3 h1
    have e97 : ¬ b = 97 := fun q => absurd (h1.symm.trans q) (by decide)
    have e104 : ¬ b = 104 := fun q => absurd (h1.symm.trans q) (by decide)
    have e110 : ¬ b = 110 := fun q => absurd (h1.symm.trans q) (by decide)
    rw [if_pos h1] at hQ0
    rw [if_pos h1, if_pos h1] at hQ1
    rw [if_neg e97, if_neg e104, if_neg e110, if_pos h1]
    simp only [gM_comes_0, gM_comes_1, gM_comes_2, gM_comes_3, gM_comes_4, gM_comes_5, gM_comes_8, gM_comes_9, gM_comes_10, gM_comes_11, gM_comes_12, gM_comes_15, gM_comes_16, gM_comes_17, gM_comes_18, gM_comes_19, gM_comes_21, gM_comes_22, gM_comes_25, gM_comes_26, gM_comes_27, gM_comes_68, gM_comes_69, gM_comes_70, gM_comes_73, gM_comes_75, gM_comes_76, gM_comes_78, gM_comes_81, gM_comes_84, gM_comes_85, gM_comes_86, gM_comes_87, gM_comes_90, gM_comes_91, gM_comes_92, gM_comes_93, gM_comes_94, gM_comes_96, gM_comes_97, gM_comes_98, gM_comes_99, gM_comes_100, gM_comes_102, gM_comes_103, gM_comes_105, gM_comes_108, gM_comes_111, gM_comes_112, gM_comes_113, gM_comes_114, gM_comes_117, gM_comes_118, gM_comes_119, gM_comes_120, gM_comes_121, gM_comes_123, gM_comes_124, gM_comes_125, gM_comes_126, gM_comes_127, gM_comes_129, gM_comes_130, gM_comes_133, gM_comes_136, gM_comes_137, gM_comes_138, gM_comes_139, gM_comes_140, gM_comes_143, gM_comes_144, gM_comes_145, gM_comes_146, gM_comes_147, gM_comes_150, gM_comes_151, gM_comes_153, gM_comes_154, gM_comes_157, gM_comes_160, gM_comes_161, gM_comes_162, gM_comes_163, gM_comes_166, gM_comes_167, gM_comes_169, gM_comes_170, gM_comes_171, ↓reduceIte, Bool.false_eq_true, Bool.true_eq_false, qk_i, qk_r, qk_n, Option.toList_some, Option.toList_none, List.cons_append, List.nil_append, true_and, and_true, true_or, or_true, eq_self, if_true, if_false, q_b1, q_b2, c_A, c_R, c_O, c_M, c_H1, c_H8, c_H15]
    refine m_comesThing g r (by omega) w2 v1 v2 (fun q => ?_) (fun q M' hM' r' => ?_)
    · simp only [gM_comes_0, gM_comes_1, gM_comes_2, gM_comes_3, gM_comes_4, gM_comes_5, gM_comes_8, gM_comes_9, gM_comes_10, gM_comes_11, gM_comes_12, gM_comes_15, gM_comes_16, gM_comes_17, gM_comes_18, gM_comes_19, gM_comes_21, gM_comes_22, gM_comes_25, gM_comes_26, gM_comes_27, gM_comes_68, gM_comes_69, gM_comes_70, gM_comes_73, gM_comes_75, gM_comes_76, gM_comes_78, gM_comes_81, gM_comes_84, gM_comes_85, gM_comes_86, gM_comes_87, gM_comes_90, gM_comes_91, gM_comes_92, gM_comes_93, gM_comes_94, gM_comes_96, gM_comes_97, gM_comes_98, gM_comes_99, gM_comes_100, gM_comes_102, gM_comes_103, gM_comes_105, gM_comes_108, gM_comes_111, gM_comes_112, gM_comes_113, gM_comes_114, gM_comes_117, gM_comes_118, gM_comes_119, gM_comes_120, gM_comes_121, gM_comes_123, gM_comes_124, gM_comes_125, gM_comes_126, gM_comes_127, gM_comes_129, gM_comes_130, gM_comes_133, gM_comes_136, gM_comes_137, gM_comes_138, gM_comes_139, gM_comes_140, gM_comes_143, gM_comes_144, gM_comes_145, gM_comes_146, gM_comes_147, gM_comes_150, gM_comes_151, gM_comes_153, gM_comes_154, gM_comes_157, gM_comes_160, gM_comes_161, gM_comes_162, gM_comes_163, gM_comes_166, gM_comes_167, gM_comes_169, gM_comes_170, gM_comes_171, ↓reduceIte, Bool.false_eq_true, Bool.true_eq_false, qk_i, qk_r, qk_n, Option.toList_some, Option.toList_none, List.cons_append, List.nil_append, true_and, and_true, true_or, or_true, eq_self, if_true, if_false, q_b1, q_b2, c_A, c_R, c_O, c_M, c_H1, c_H8, c_H15]
      exact hQ0 q
    · simp only [gM_comes_0, gM_comes_1, gM_comes_2, gM_comes_3, gM_comes_4, gM_comes_5, gM_comes_8, gM_comes_9, gM_comes_10, gM_comes_11, gM_comes_12, gM_comes_15, gM_comes_16, gM_comes_17, gM_comes_18, gM_comes_19, gM_comes_21, gM_comes_22, gM_comes_25, gM_comes_26, gM_comes_27, gM_comes_68, gM_comes_69, gM_comes_70, gM_comes_73, gM_comes_75, gM_comes_76, gM_comes_78, gM_comes_81, gM_comes_84, gM_comes_85, gM_comes_86, gM_comes_87, gM_comes_90, gM_comes_91, gM_comes_92, gM_comes_93, gM_comes_94, gM_comes_96, gM_comes_97, gM_comes_98, gM_comes_99, gM_comes_100, gM_comes_102, gM_comes_103, gM_comes_105, gM_comes_108, gM_comes_111, gM_comes_112, gM_comes_113, gM_comes_114, gM_comes_117, gM_comes_118, gM_comes_119, gM_comes_120, gM_comes_121, gM_comes_123, gM_comes_124, gM_comes_125, gM_comes_126, gM_comes_127, gM_comes_129, gM_comes_130, gM_comes_133, gM_comes_136, gM_comes_137, gM_comes_138, gM_comes_139, gM_comes_140, gM_comes_143, gM_comes_144, gM_comes_145, gM_comes_146, gM_comes_147, gM_comes_150, gM_comes_151, gM_comes_153, gM_comes_154, gM_comes_157, gM_comes_160, gM_comes_161, gM_comes_162, gM_comes_163, gM_comes_166, gM_comes_167, gM_comes_169, gM_comes_170, gM_comes_171, ↓reduceIte, Bool.false_eq_true, Bool.true_eq_false, qk_i, qk_r, qk_n, Option.toList_some, Option.toList_none, List.cons_append, List.nil_append, true_and, and_true, true_or, or_true, eq_self, if_true, if_false, q_b1, q_b2, c_A, c_R, c_O, c_M, c_H1, c_H8, c_H15]
      exact hQ1 q M' hM' r'
  rw [if_neg h1] at hQ0
  rw [if_neg h1, if_neg h1] at hQ1
  by_cases h3 : b = 104
  · have e97 : ¬ b = 97 := fun q => absurd (h3.symm.trans q) (by decide)
    have e99 : ¬ b = 99 := fun q => absurd (h3.symm.trans q) (by decide)
    rw [if_neg e97, if_pos h3]
    rw [if_neg e99, if_pos h3] at hQ0
    rw [if_neg e99, if_neg e99, if_pos h3, if_pos h3] at hQ1
    simp only [gM_comes_0, gM_comes_1, gM_comes_2, gM_comes_3, gM_comes_4, gM_comes_5, gM_comes_8, gM_comes_9, gM_comes_10, gM_comes_11, gM_comes_12, gM_comes_15, gM_comes_16, gM_comes_17, gM_comes_18, gM_comes_19, gM_comes_21, gM_comes_22, gM_comes_25, gM_comes_26, gM_comes_27, gM_comes_68, gM_comes_69, gM_comes_70, gM_comes_73, gM_comes_74, gM_comes_75, gM_comes_76, gM_comes_78, gM_comes_81, gM_comes_84, gM_comes_85, gM_comes_86, gM_comes_87, gM_comes_90, gM_comes_91, gM_comes_92, gM_comes_93, gM_comes_94, gM_comes_96, gM_comes_97, gM_comes_98, gM_comes_99, gM_comes_100, gM_comes_101, gM_comes_102, gM_comes_103, gM_comes_105, gM_comes_108, gM_comes_111, gM_comes_112, gM_comes_113, gM_comes_114, gM_comes_117, gM_comes_118, gM_comes_119, gM_comes_120, gM_comes_121, gM_comes_123, gM_comes_124, gM_comes_125, gM_comes_126, gM_comes_127, gM_comes_128, gM_comes_129, gM_comes_130, gM_comes_133, gM_comes_136, gM_comes_137, gM_comes_138, gM_comes_139, gM_comes_140, gM_comes_143, gM_comes_144, gM_comes_145, gM_comes_146, gM_comes_147, gM_comes_150, gM_comes_151, gM_comes_152, gM_comes_153, gM_comes_154, gM_comes_157, gM_comes_160, gM_comes_161, gM_comes_162, gM_comes_163, gM_comes_166, gM_comes_167, gM_comes_169, gM_comes_170, gM_comes_171, ↓reduceIte, Bool.false_eq_true, Bool.true_eq_false, qk_i, qk_r, qk_n, Option.toList_some, Option.toList_none, List.cons_append, List.nil_append, true_and, and_true, true_or, or_true, eq_self, if_true, if_false, q_b1, q_b2, c_A, c_R, c_O, c_M, c_H1, c_H8, c_H15, x_M_isThing, q_z0]
    rw [r.isThing]
    cases ht : b_isThing H 0 x
    · simp only [not_true, if_false]
      exact hQ0 (by rw [ht]; rfl)
    · simp only [Bool.true_eq_false, not_false_eq_true, if_true]
      rw [r.2.2.1]
      exact hQ1 (by rw [ht]; rfl) _ (eqf.rf.fld (by decide)) r.p7
  have v1 := w4 h1 h3
  by_cases h2 : b = 99
  · have e97 : ¬ b = 97 := fun q => absurd (h2.symm.trans q) (by decide)
    have e110 : ¬ b = 110 := fun q => absurd (h2.symm.trans q) (by decide)
    rw [if_neg e97, if_neg h3, if_neg e110, if_neg h1]
    rw [if_pos h2] at hQ0
    rw [if_pos h2, if_pos h2] at hQ1
    simp only [gM_comes_0, gM_comes_1, gM_comes_2, gM_comes_3, gM_comes_4, gM_comes_5, gM_comes_8, gM_comes_9, gM_comes_10, gM_comes_11, gM_comes_12, gM_comes_15, gM_comes_16, gM_comes_17, gM_comes_18, gM_comes_19, gM_comes_21, gM_comes_22, gM_comes_25, gM_comes_26, gM_comes_27, gM_comes_68, gM_comes_69, gM_comes_70, gM_comes_73, gM_comes_74, gM_comes_75, gM_comes_76, gM_comes_78, gM_comes_81, gM_comes_84, gM_comes_85, gM_comes_86, gM_comes_87, gM_comes_90, gM_comes_91, gM_comes_92, gM_comes_93, gM_comes_94, gM_comes_96, gM_comes_97, gM_comes_98, gM_comes_99, gM_comes_100, gM_comes_101, gM_comes_102, gM_comes_103, gM_comes_105, gM_comes_108, gM_comes_111, gM_comes_112, gM_comes_113, gM_comes_114, gM_comes_117, gM_comes_118, gM_comes_119, gM_comes_120, gM_comes_121, gM_comes_123, gM_comes_124, gM_comes_125, gM_comes_126, gM_comes_127, gM_comes_128, gM_comes_129, gM_comes_130, gM_comes_133, gM_comes_136, gM_comes_137, gM_comes_138, gM_comes_139, gM_comes_140, gM_comes_143, gM_comes_144, gM_comes_145, gM_comes_146, gM_comes_147, gM_comes_150, gM_comes_151, gM_comes_152, gM_comes_153, gM_comes_154, gM_comes_157, gM_comes_160, gM_comes_161, gM_comes_163, gM_comes_166, gM_comes_167, gM_comes_169, gM_comes_170, gM_comes_171, ↓reduceIte, Bool.false_eq_true, Bool.true_eq_false, qk_i, qk_r, qk_n, Option.toList_some, Option.toList_none, List.cons_append, List.nil_append, true_and, and_true, true_or, or_true, eq_self, if_true, if_false, q_b1, q_b2, c_A, c_R, c_O, c_M, c_H1, c_H8, c_H15, x_M_isThing, q_z0]
    rw [r.isThing]
    cases ht : b_isThing H 0 x
    · simp only [not_true, if_false]
      exact hQ0 (by rw [ht]; rfl)
    · obtain ⟨j, hj, rfl⟩ := thing_nI g ht
      have hin : q_in (nI j) 10 = true := q_in_nI (by omega) (by omega)
      have cj : (nI j).toNatClampNeg = j := nI_clamp (by omega)
      rw [s_put_nI (by omega) (by omega)] at hQ1
      simp only [gM_comes_0, gM_comes_1, gM_comes_2, gM_comes_3, gM_comes_4, gM_comes_5, gM_comes_8, gM_comes_9, gM_comes_10, gM_comes_11, gM_comes_12, gM_comes_15, gM_comes_16, gM_comes_17, gM_comes_18, gM_comes_19, gM_comes_21, gM_comes_22, gM_comes_25, gM_comes_26, gM_comes_27, gM_comes_68, gM_comes_69, gM_comes_70, gM_comes_73, gM_comes_74, gM_comes_75, gM_comes_76, gM_comes_78, gM_comes_81, gM_comes_84, gM_comes_85, gM_comes_86, gM_comes_87, gM_comes_90, gM_comes_91, gM_comes_92, gM_comes_93, gM_comes_94, gM_comes_96, gM_comes_97, gM_comes_98, gM_comes_99, gM_comes_100, gM_comes_101, gM_comes_102, gM_comes_103, gM_comes_105, gM_comes_108, gM_comes_111, gM_comes_112, gM_comes_113, gM_comes_114, gM_comes_117, gM_comes_118, gM_comes_119, gM_comes_120, gM_comes_121, gM_comes_123, gM_comes_124, gM_comes_125, gM_comes_126, gM_comes_127, gM_comes_128, gM_comes_129, gM_comes_130, gM_comes_133, gM_comes_136, gM_comes_137, gM_comes_138, gM_comes_139, gM_comes_140, gM_comes_143, gM_comes_144, gM_comes_145, gM_comes_146, gM_comes_147, gM_comes_150, gM_comes_151, gM_comes_152, gM_comes_153, gM_comes_154, gM_comes_157, gM_comes_160, gM_comes_161, gM_comes_162, gM_comes_163, gM_comes_166, gM_comes_167, gM_comes_169, gM_comes_170, gM_comes_171, ↓reduceIte, Bool.false_eq_true, Bool.true_eq_false, qk_i, qk_r, qk_n, Option.toList_some, Option.toList_none, List.cons_append, List.nil_append, true_and, and_true, true_or, or_true, eq_self, if_true, if_false, q_b1, q_b2, c_A, c_R, c_O, c_M, c_H1, c_H8, c_H15, Bool.true_eq_false, not_false_eq_true, rf_M4, aD_35, hin, cj, v1]
      exact hQ1 (by rw [ht]; rfl) _ (eqf.rf.cell (by decide) (by decide)) (r.q (k := 4) (by omega) (by omega))
  rw [if_neg h2, if_neg h3] at hQ0
  rw [if_neg h2, if_neg h3, if_neg h2, if_neg h3] at hQ1
  have hn : ¬ b = 110 → b = 97 := fun h4 => by
    rcases hb with q | q | q | q | q
    · exact q
    · exact absurd q h2
    · exact absurd q h3
    · exact absurd q h4
    · exact absurd q h1
  by_cases h4 : b = 110
  · have e97 : ¬ b = 97 := fun q => absurd (h4.symm.trans q) (by decide)
    rw [if_neg e97, if_neg h3, if_pos h4]
    rw [if_pos h4] at hQ1
    simp only [gM_comes_0, gM_comes_1, gM_comes_2, gM_comes_3, gM_comes_4, gM_comes_5, gM_comes_8, gM_comes_9, gM_comes_10, gM_comes_11, gM_comes_12, gM_comes_15, gM_comes_16, gM_comes_17, gM_comes_18, gM_comes_19, gM_comes_21, gM_comes_22, gM_comes_25, gM_comes_26, gM_comes_27, gM_comes_68, gM_comes_69, gM_comes_70, gM_comes_73, gM_comes_74, gM_comes_75, gM_comes_76, gM_comes_78, gM_comes_81, gM_comes_84, gM_comes_85, gM_comes_87, gM_comes_90, gM_comes_91, gM_comes_92, gM_comes_93, gM_comes_94, gM_comes_96, gM_comes_97, gM_comes_98, gM_comes_99, gM_comes_100, gM_comes_101, gM_comes_102, gM_comes_103, gM_comes_105, gM_comes_108, gM_comes_111, gM_comes_112, gM_comes_113, gM_comes_114, gM_comes_117, gM_comes_118, gM_comes_119, gM_comes_120, gM_comes_121, gM_comes_123, gM_comes_124, gM_comes_125, gM_comes_126, gM_comes_127, gM_comes_128, gM_comes_129, gM_comes_130, gM_comes_133, gM_comes_136, gM_comes_137, gM_comes_138, gM_comes_139, gM_comes_140, gM_comes_143, gM_comes_144, gM_comes_145, gM_comes_146, gM_comes_147, gM_comes_150, gM_comes_151, gM_comes_152, gM_comes_153, gM_comes_154, gM_comes_157, gM_comes_160, gM_comes_161, gM_comes_162, gM_comes_163, gM_comes_166, gM_comes_167, gM_comes_169, gM_comes_170, gM_comes_171, ↓reduceIte, Bool.false_eq_true, Bool.true_eq_false, qk_i, qk_r, qk_n, Option.toList_some, Option.toList_none, List.cons_append, List.nil_append, true_and, and_true, true_or, or_true, eq_self, if_true, if_false, q_b1, q_b2, c_A, c_R, c_O, c_M, c_H1, c_H8, c_H15, x_M_areTwo, q_z0, v1]
    rw [r.two]
    cases ht : b_isThing H 0 x
    · simp only [Bool.false_and, not_true, if_false]
      exact hQ0 (by rw [ht]; rfl)
    · have ht0 : ¬ b_isThing H 0 x = false := fun q => by rw [ht] at q; cases q
      rw [if_neg ht0] at hQ0 hQ1
      obtain ⟨j, hj, rfl⟩ := thing_nI g ht
      simp only [Bool.true_and]
      cases hc : b_isThing H 0 y && decide (¬ nI j = y)
      · simp only [not_true, if_false]
        exact hQ0 hc
      · have hin : q_in (nI j) 10 = true := q_in_nI (by omega) (by omega)
        have cj : (nI j).toNatClampNeg = j := nI_clamp (by omega)
        have e5 : M 36 j = H 5 j := r.1 5 j (by omega) (by omega) (by omega)
        unfold s_turnV at hQ1
        rw [s_put_nI (by omega) (by omega), s_get_nI (by omega) (by omega)] at hQ1
        simp only [gM_comes_0, gM_comes_1, gM_comes_2, gM_comes_3, gM_comes_4, gM_comes_5, gM_comes_8, gM_comes_9, gM_comes_10, gM_comes_11, gM_comes_12, gM_comes_15, gM_comes_16, gM_comes_17, gM_comes_18, gM_comes_19, gM_comes_21, gM_comes_22, gM_comes_25, gM_comes_26, gM_comes_27, gM_comes_68, gM_comes_69, gM_comes_70, gM_comes_73, gM_comes_74, gM_comes_75, gM_comes_76, gM_comes_78, gM_comes_81, gM_comes_84, gM_comes_85, gM_comes_86, gM_comes_87, gM_comes_90, gM_comes_91, gM_comes_92, gM_comes_93, gM_comes_94, gM_comes_96, gM_comes_97, gM_comes_98, gM_comes_99, gM_comes_100, gM_comes_101, gM_comes_102, gM_comes_103, gM_comes_105, gM_comes_108, gM_comes_111, gM_comes_112, gM_comes_113, gM_comes_114, gM_comes_117, gM_comes_118, gM_comes_119, gM_comes_120, gM_comes_121, gM_comes_123, gM_comes_124, gM_comes_125, gM_comes_126, gM_comes_127, gM_comes_128, gM_comes_129, gM_comes_130, gM_comes_133, gM_comes_136, gM_comes_137, gM_comes_138, gM_comes_139, gM_comes_140, gM_comes_143, gM_comes_144, gM_comes_145, gM_comes_146, gM_comes_147, gM_comes_150, gM_comes_151, gM_comes_152, gM_comes_153, gM_comes_154, gM_comes_157, gM_comes_160, gM_comes_161, gM_comes_162, gM_comes_163, gM_comes_166, gM_comes_167, gM_comes_169, gM_comes_170, gM_comes_171, ↓reduceIte, Bool.false_eq_true, Bool.true_eq_false, qk_i, qk_r, qk_n, Option.toList_some, Option.toList_none, List.cons_append, List.nil_append, true_and, and_true, true_or, or_true, eq_self, if_true, if_false, q_b1, q_b2, c_A, c_R, c_O, c_M, c_H1, c_H8, c_H15, Bool.true_eq_false, not_false_eq_true, rf_M5, aD_36, hin, cj, e5]
        exact hQ1 hc _ (eqf.rf.cell (by decide) (by decide)) (r.q (k := 5) (by omega) (by omega))
  · have e97 := hn h4
    rw [if_pos e97]
    rw [if_neg h4] at hQ1
    simp only [gM_comes_0, gM_comes_1, gM_comes_2, gM_comes_3, gM_comes_4, gM_comes_5, gM_comes_8, gM_comes_9, gM_comes_10, gM_comes_11, gM_comes_12, gM_comes_15, gM_comes_16, gM_comes_17, gM_comes_18, gM_comes_19, gM_comes_21, gM_comes_22, gM_comes_25, gM_comes_26, gM_comes_27, gM_comes_68, gM_comes_69, gM_comes_70, gM_comes_73, gM_comes_74, gM_comes_75, gM_comes_76, gM_comes_78, gM_comes_81, gM_comes_84, gM_comes_85, gM_comes_86, gM_comes_87, gM_comes_90, gM_comes_91, gM_comes_92, gM_comes_93, gM_comes_94, gM_comes_96, gM_comes_97, gM_comes_98, gM_comes_99, gM_comes_100, gM_comes_101, gM_comes_102, gM_comes_103, gM_comes_105, gM_comes_108, gM_comes_111, gM_comes_112, gM_comes_114, gM_comes_117, gM_comes_118, gM_comes_119, gM_comes_120, gM_comes_121, gM_comes_123, gM_comes_124, gM_comes_125, gM_comes_126, gM_comes_127, gM_comes_128, gM_comes_129, gM_comes_130, gM_comes_133, gM_comes_136, gM_comes_137, gM_comes_138, gM_comes_139, gM_comes_140, gM_comes_143, gM_comes_144, gM_comes_145, gM_comes_146, gM_comes_147, gM_comes_150, gM_comes_151, gM_comes_152, gM_comes_153, gM_comes_154, gM_comes_157, gM_comes_160, gM_comes_161, gM_comes_162, gM_comes_163, gM_comes_166, gM_comes_167, gM_comes_169, gM_comes_170, gM_comes_171, ↓reduceIte, Bool.false_eq_true, Bool.true_eq_false, qk_i, qk_r, qk_n, Option.toList_some, Option.toList_none, List.cons_append, List.nil_append, true_and, and_true, true_or, or_true, eq_self, if_true, if_false, q_b1, q_b2, c_A, c_R, c_O, c_M, c_H1, c_H8, c_H15, x_M_areTwo, q_z0, v1]
    rw [r.two]
    cases ht : b_isThing H 0 x
    · simp only [Bool.false_and, not_true, if_false]
      exact hQ0 (by rw [ht]; rfl)
    · have ht0 : ¬ b_isThing H 0 x = false := fun q => by rw [ht] at q; cases q
      rw [if_neg ht0] at hQ0 hQ1
      obtain ⟨j, hj, rfl⟩ := thing_nI g ht
      simp only [Bool.true_and]
      cases hc : b_isThing H 0 y && decide (¬ nI j = y)
      · simp only [not_true, if_false]
        exact hQ0 hc
      · have hin : q_in (nI j) 10 = true := q_in_nI (by omega) (by omega)
        have cj : (nI j).toNatClampNeg = j := nI_clamp (by omega)
        have e6 : M 37 j = H 6 j := r.1 6 j (by omega) (by omega) (by omega)
        unfold s_turnV at hQ1
        rw [s_put_nI (by omega) (by omega), s_get_nI (by omega) (by omega)] at hQ1
        simp only [gM_comes_0, gM_comes_1, gM_comes_2, gM_comes_3, gM_comes_4, gM_comes_5, gM_comes_8, gM_comes_9, gM_comes_10, gM_comes_11, gM_comes_12, gM_comes_15, gM_comes_16, gM_comes_17, gM_comes_18, gM_comes_19, gM_comes_21, gM_comes_22, gM_comes_25, gM_comes_26, gM_comes_27, gM_comes_68, gM_comes_69, gM_comes_70, gM_comes_73, gM_comes_74, gM_comes_75, gM_comes_76, gM_comes_78, gM_comes_81, gM_comes_84, gM_comes_85, gM_comes_86, gM_comes_87, gM_comes_90, gM_comes_91, gM_comes_92, gM_comes_93, gM_comes_94, gM_comes_96, gM_comes_97, gM_comes_98, gM_comes_99, gM_comes_100, gM_comes_101, gM_comes_102, gM_comes_103, gM_comes_105, gM_comes_108, gM_comes_111, gM_comes_112, gM_comes_113, gM_comes_114, gM_comes_117, gM_comes_118, gM_comes_119, gM_comes_120, gM_comes_121, gM_comes_123, gM_comes_124, gM_comes_125, gM_comes_126, gM_comes_127, gM_comes_128, gM_comes_129, gM_comes_130, gM_comes_133, gM_comes_136, gM_comes_137, gM_comes_138, gM_comes_139, gM_comes_140, gM_comes_143, gM_comes_144, gM_comes_145, gM_comes_146, gM_comes_147, gM_comes_150, gM_comes_151, gM_comes_152, gM_comes_153, gM_comes_154, gM_comes_157, gM_comes_160, gM_comes_161, gM_comes_162, gM_comes_163, gM_comes_166, gM_comes_167, gM_comes_169, gM_comes_170, gM_comes_171, ↓reduceIte, Bool.false_eq_true, Bool.true_eq_false, qk_i, qk_r, qk_n, Option.toList_some, Option.toList_none, List.cons_append, List.nil_append, true_and, and_true, true_or, or_true, eq_self, if_true, if_false, q_b1, q_b2, c_A, c_R, c_O, c_M, c_H1, c_H8, c_H15, Bool.true_eq_false, not_false_eq_true, rf_M6, aD_37, hin, cj, e6]
        exact hQ1 hc _ (eqf.rf.cell (by decide) (by decide)) (r.q (k := 6) (by omega) (by omega))
end HM
