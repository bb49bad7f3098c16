/-! MEAN -/
section MEAN
variable {Q : q_R} {M H : q_M} {n h W : Nat} {a b : Int32}
def me_v (H : q_M) (n h W : Nat) : Nat := if rs H n W true h = oI then 0 else rs H n W true h
theorem me_ok {x : Nat} (hx : x < 2000000000) : ¬ lg_cmp (s_gcd (lN x) 2520) 0 ≤ 0 := by
  have e1 : (lN x).toInt = (x : Int) := lN_toInt (by omega)
  have e2 : (2520 : Int64).toInt = 2520 := by decide
  refine s_gcd_pos (by rw [e1]; omega) (by rw [e2]; decide) (fun q => absurd q (by decide))
def an_mean (H : q_M) (n h : Nat) (a b : Int32) : Int64 := if b_isSet H 0 a = true then (if b_noPart b = true then s_low (-2) else s_part (lN (me_v H n h a.toNatClampNeg)) 2520 b) else s_low (-1)
theorem y_A_mean (g : gH H n h) (r : RC 1 M H) (hQ : ∀ M', eqx Sq M M' → Q (some (.long (an_mean H n h a b))) M') : q_Run 72 [.ref 0, .int a, .int b] M Q := by
  have h2 := two_pow_le g.1
  have hoI : oI = 100000000 := rfl
  unfold an_mean at hQ
  rw [e_A_mean]
  simp only [gA_mean_0, gA_mean_1, gA_mean_4, gA_mean_5, gA_mean_8, gA_mean_11, gA_mean_12, gA_mean_13, gA_mean_16, gA_mean_17, gA_mean_18, gA_mean_21, gA_mean_24, gA_mean_25, gA_mean_27, gA_mean_30, gA_mean_31, gA_mean_32, gA_mean_35, gA_mean_36, gA_mean_39, gA_mean_40, gA_mean_41, gA_mean_45, gA_mean_48, gA_mean_51, gA_mean_54, gA_mean_55, gA_mean_58, gA_mean_61, gA_mean_62, gA_mean_65, gA_mean_66, gA_mean_67, gA_mean_68, gA_mean_71, gA_mean_72, gA_mean_75, ↓reduceIte, Bool.false_eq_true, Bool.true_eq_false, qk_i, qk_r, qk_n, Option.toList_some, Option.toList_none, List.cons_append, List.nil_append, true_and, and_true, true_or, or_true, eq_self, if_true, if_false, q_b1, q_b2, c_A, c_R, c_O, c_M, c_H1, c_H8, c_H15, rf_A0, rf_A4, x_H_isSet c_H1, q_z0, x_A_refuseLong, x_A_isNoPart]
  rw [r.isSet]
  cases hs : b_isSet H 0 a
  · rw [hs, if_neg (by decide)] at hQ
    simp only [n1z', ↓reduceIte, if_true, if_false, eq_self, not_true, not_false_eq_true, not_true_eq_false, Bool.true_eq_false, Bool.false_eq_true, Bool.not_false, Bool.not_true, Bool.and_true, Bool.and_false, Bool.true_and, Bool.false_and]
    exact hQ _ eqx_ref
  · obtain ⟨W, hW, rfl⟩ := set_N g hs
    have hr0 := rs_inf (H := H) (W := W) (im := true) g.1 g.hlt
    have hok := me_ok (x := me_v H n h W) (by unfold me_v; split <;> omega)
    rw [hs, if_pos rfl, nI_clamp (by omega)] at hQ
    cases hp : b_noPart b
    · rw [hp, if_neg (by decide)] at hQ
      simp only [n1z', ↓reduceIte, if_true, if_false, eq_self, not_true, not_false_eq_true, not_true_eq_false, Bool.true_eq_false, Bool.false_eq_true, Bool.not_false, Bool.not_true, Bool.and_true, Bool.and_false, Bool.true_and, Bool.false_and]
      refine c_seek (W := W) (im := true) g r (by omega) fun M' hM' hc => ?_
      rcases hc with ⟨f0, f1⟩ | ⟨f0, f1, f2, f3⟩
      · have ev : me_v H n h W = 0 := by
          unfold me_v
          rw [if_pos f1]
        have l0 : (0 : Int64) = lN (me_v H n h W) := by rw [ev]; rfl
        simp only [gA_mean_0, gA_mean_1, gA_mean_4, gA_mean_5, gA_mean_8, gA_mean_11, gA_mean_12, gA_mean_13, gA_mean_16, gA_mean_17, gA_mean_18, gA_mean_21, gA_mean_24, gA_mean_25, gA_mean_27, gA_mean_30, gA_mean_31, gA_mean_32, gA_mean_35, gA_mean_36, gA_mean_39, gA_mean_40, gA_mean_41, gA_mean_44, gA_mean_45, gA_mean_48, gA_mean_51, gA_mean_54, gA_mean_55, gA_mean_58, gA_mean_61, gA_mean_62, gA_mean_65, gA_mean_66, gA_mean_67, gA_mean_68, gA_mean_71, gA_mean_72, gA_mean_75, ↓reduceIte, Bool.false_eq_true, Bool.true_eq_false, qk_i, qk_r, qk_n, Option.toList_some, Option.toList_none, List.cons_append, List.nil_append, true_and, and_true, true_or, or_true, eq_self, if_true, if_false, q_b1, q_b2, c_A, c_R, c_O, c_M, c_H1, c_H8, c_H15, rf_A4, f0, n1z', ↓reduceIte, if_true, if_false, eq_self, not_true, not_false_eq_true, not_true_eq_false, Bool.true_eq_false, Bool.false_eq_true, Bool.not_false, Bool.not_true, Bool.and_true, Bool.and_false, Bool.true_and, Bool.false_and]
        rw [l0]
        refine x_F_partOf hok ?_
        simp only [gA_mean_0, gA_mean_1, gA_mean_4, gA_mean_5, gA_mean_8, gA_mean_11, gA_mean_12, gA_mean_13, gA_mean_16, gA_mean_17, gA_mean_18, gA_mean_21, gA_mean_24, gA_mean_25, gA_mean_27, gA_mean_30, gA_mean_31, gA_mean_32, gA_mean_35, gA_mean_36, gA_mean_39, gA_mean_40, gA_mean_41, gA_mean_44, gA_mean_45, gA_mean_48, gA_mean_51, gA_mean_54, gA_mean_55, gA_mean_58, gA_mean_61, gA_mean_62, gA_mean_65, gA_mean_66, gA_mean_67, gA_mean_68, gA_mean_71, gA_mean_72, gA_mean_75, ↓reduceIte, Bool.false_eq_true, Bool.true_eq_false, qk_i, qk_r, qk_n, Option.toList_some, Option.toList_none, List.cons_append, List.nil_append, true_and, and_true, true_or, or_true, eq_self, if_true, if_false, q_b1, q_b2, c_A, c_R, c_O, c_M, c_H1, c_H8, c_H15]
        exact hQ _ (hM'.up So_Sq)
      · have ev : me_v H n h W = rs H n W true h := by
          unfold me_v
          rw [if_neg (by omega)]
        have l0 : (nI (rs H n W true h)).toInt64 = lN (me_v H n h W) := by rw [ev]; exact nI_l (by omega)
        simp only [gA_mean_0, gA_mean_1, gA_mean_4, gA_mean_5, gA_mean_8, gA_mean_11, gA_mean_12, gA_mean_13, gA_mean_16, gA_mean_17, gA_mean_18, gA_mean_21, gA_mean_24, gA_mean_25, gA_mean_27, gA_mean_30, gA_mean_31, gA_mean_32, gA_mean_35, gA_mean_36, gA_mean_39, gA_mean_40, gA_mean_41, gA_mean_44, gA_mean_45, gA_mean_48, gA_mean_51, gA_mean_54, gA_mean_55, gA_mean_58, gA_mean_61, gA_mean_62, gA_mean_65, gA_mean_66, gA_mean_67, gA_mean_68, gA_mean_71, gA_mean_72, gA_mean_75, ↓reduceIte, Bool.false_eq_true, Bool.true_eq_false, qk_i, qk_r, qk_n, Option.toList_some, Option.toList_none, List.cons_append, List.nil_append, true_and, and_true, true_or, or_true, eq_self, if_true, if_false, q_b1, q_b2, c_A, c_R, c_O, c_M, c_H1, c_H8, c_H15, rf_A4, f0, f2, l0, n1z', ↓reduceIte, if_true, if_false, eq_self, not_true, not_false_eq_true, not_true_eq_false, Bool.true_eq_false, Bool.false_eq_true, Bool.not_false, Bool.not_true, Bool.and_true, Bool.and_false, Bool.true_and, Bool.false_and]
        refine x_F_partOf hok ?_
        simp only [gA_mean_0, gA_mean_1, gA_mean_4, gA_mean_5, gA_mean_8, gA_mean_11, gA_mean_12, gA_mean_13, gA_mean_16, gA_mean_17, gA_mean_18, gA_mean_21, gA_mean_24, gA_mean_25, gA_mean_27, gA_mean_30, gA_mean_31, gA_mean_32, gA_mean_35, gA_mean_36, gA_mean_39, gA_mean_40, gA_mean_41, gA_mean_44, gA_mean_45, gA_mean_48, gA_mean_51, gA_mean_54, gA_mean_55, gA_mean_58, gA_mean_61, gA_mean_62, gA_mean_65, gA_mean_66, gA_mean_67, gA_mean_68, gA_mean_71, gA_mean_72, gA_mean_75, ↓reduceIte, Bool.false_eq_true, Bool.true_eq_false, qk_i, qk_r, qk_n, Option.toList_some, Option.toList_none, List.cons_append, List.nil_append, true_and, and_true, true_or, or_true, eq_self, if_true, if_false, q_b1, q_b2, c_A, c_R, c_O, c_M, c_H1, c_H8, c_H15]
        exact hQ _ (hM'.up So_Sq)
    · rw [hp, if_pos rfl] at hQ
      simp only [n1z', ↓reduceIte, if_true, if_false, eq_self, not_true, not_false_eq_true, not_true_eq_false, Bool.true_eq_false, Bool.false_eq_true, Bool.not_false, Bool.not_true, Bool.and_true, Bool.and_false, Bool.true_and, Bool.false_and]
      exact hQ _ eqx_ref
theorem y_M_mean (g : gH H n h) (r : RM M H) (hQ : ∀ M', eqx Sm M M' → Q (some (.long (an_mean H n h a b))) M') : q_Run 125 [.ref 30, .int a, .int b] M Q := by
  have h10 := g.1
  have h2 := two_pow_le h10
  have hh := g.2.2.2.1
  have hin : q_in (nI h) 1024 = true := q_in_nI g.hlt (by omega)
  have ch : (nI h).toNatClampNeg = h := nI_clamp (by have := g.hlt; omega)
  have hoI : oI = 100000000 := rfl
  unfold an_mean at hQ
  rw [noPart_in] at hQ
  rw [e_M_mean]
  simp only [gM_mean_0, gM_mean_1, gM_mean_2, gM_mean_5, gM_mean_8, gM_mean_9, gM_mean_10, gM_mean_13, gM_mean_14, gM_mean_15, gM_mean_16, gM_mean_17, gM_mean_20, gM_mean_23, gM_mean_24, gM_mean_26, gM_mean_29, gM_mean_31, gM_mean_32, gM_mean_33, gM_mean_36, gM_mean_37, gM_mean_40, gM_mean_41, gM_mean_44, gM_mean_45, gM_mean_47, gM_mean_50, gM_mean_51, gM_mean_54, gM_mean_55, gM_mean_58, gM_mean_59, gM_mean_62, gM_mean_63, gM_mean_64, gM_mean_67, gM_mean_68, gM_mean_71, ↓reduceIte, Bool.false_eq_true, Bool.true_eq_false, qk_i, qk_r, qk_n, Option.toList_some, Option.toList_none, List.cons_append, List.nil_append, true_and, and_true, true_or, or_true, eq_self, if_true, if_false, q_b1, q_b2, c_A, c_R, c_O, c_M, c_H1, c_H8, c_H15, x_M_areThings, x_M_isIn, q_z0, x_M_lowest no_1, x_M_lowest no_2]
  rw [r.set g]
  cases hs : b_isSet H 0 a
  · rw [hs, if_neg (by decide)] at hQ
    simp only [n1z', ↓reduceIte, if_true, if_false, eq_self, not_true, not_false_eq_true, not_true_eq_false, Bool.true_eq_false, Bool.false_eq_true, Bool.not_false, Bool.not_true, Bool.and_true, Bool.and_false, Bool.true_and, Bool.false_and]
    exact hQ _ eqm_no
  · obtain ⟨W, hW, rfl⟩ := set_N g hs
    have hr0 := rs_inf (H := H) (W := W) (im := true) h10 g.hlt
    have hok := me_ok (x := me_v H n h W) (by unfold me_v; split <;> omega)
    rw [hs, if_pos rfl, nI_clamp (by omega)] at hQ
    cases hp : b_in b 0 1
    · rw [hp, if_pos (by decide)] at hQ
      simp only [n1z', ↓reduceIte, if_true, if_false, eq_self, not_true, not_false_eq_true, not_true_eq_false, Bool.true_eq_false, Bool.false_eq_true, Bool.not_false, Bool.not_true, Bool.and_true, Bool.and_false, Bool.true_and, Bool.false_and]
      exact hQ _ eqm_no
    · rw [hp, if_neg (by decide)] at hQ
      simp only [n1z', ↓reduceIte, if_true, if_false, eq_self, not_true, not_false_eq_true, not_true_eq_false, Bool.true_eq_false, Bool.false_eq_true, Bool.not_false, Bool.not_true, Bool.and_true, Bool.and_false, Bool.true_and, Bool.false_and, gM_mean_0, gM_mean_1, gM_mean_2, gM_mean_5, gM_mean_8, gM_mean_9, gM_mean_10, gM_mean_13, gM_mean_14, gM_mean_15, gM_mean_16, gM_mean_17, gM_mean_20, gM_mean_23, gM_mean_24, gM_mean_26, gM_mean_29, gM_mean_30, gM_mean_31, gM_mean_32, gM_mean_33, gM_mean_36, gM_mean_37, gM_mean_40, gM_mean_41, gM_mean_44, gM_mean_45, gM_mean_47, gM_mean_50, gM_mean_51, gM_mean_54, gM_mean_55, gM_mean_58, gM_mean_59, gM_mean_62, gM_mean_63, gM_mean_64, gM_mean_67, gM_mean_68, gM_mean_71, ↓reduceIte, Bool.false_eq_true, Bool.true_eq_false, qk_i, qk_r, qk_n, Option.toList_some, Option.toList_none, List.cons_append, List.nil_append, true_and, and_true, true_or, or_true, eq_self, if_true, if_false, q_b1, q_b2, c_A, c_R, c_O, c_M, c_H1, c_H8, c_H15]
      refine m_findRest (W := W) (im := true) g r (by omega) fun M' hM' hf => ?_
      have r' := r.f hM'
      have tF : (nI (rs H n W true h) < 100000000) = (rs H n W true h < 100000000) := i_lt (y := 100000000) (by omega) (by omega)
      by_cases hD : rs H n W true h < 100000000
      · have ev : me_v H n h W = rs H n W true h := by
          unfold me_v
          rw [if_neg (by omega)]
        have l0 : (nI (rs H n W true h)).toInt64 = lN (me_v H n h W) := by rw [ev]; exact nI_l (by omega)
        simp only [gM_mean_0, gM_mean_1, gM_mean_2, gM_mean_5, gM_mean_8, gM_mean_9, gM_mean_10, gM_mean_13, gM_mean_14, gM_mean_15, gM_mean_16, gM_mean_17, gM_mean_20, gM_mean_23, gM_mean_24, gM_mean_26, gM_mean_29, gM_mean_30, gM_mean_31, gM_mean_32, gM_mean_33, gM_mean_36, gM_mean_37, gM_mean_40, gM_mean_41, gM_mean_44, gM_mean_45, gM_mean_47, gM_mean_50, gM_mean_51, gM_mean_54, gM_mean_55, gM_mean_58, gM_mean_59, gM_mean_62, gM_mean_63, gM_mean_64, gM_mean_67, gM_mean_68, gM_mean_71, ↓reduceIte, Bool.false_eq_true, Bool.true_eq_false, qk_i, qk_r, qk_n, Option.toList_some, Option.toList_none, List.cons_append, List.nil_append, true_and, and_true, true_or, or_true, eq_self, if_true, if_false, q_b1, q_b2, c_A, c_R, c_O, c_M, c_H1, c_H8, c_H15, rf_M21, aD_43, (g.vm r').2.2.1, hin, ch, hf h hh, tF, hD, l0, n1z', ↓reduceIte, if_true, if_false, eq_self, not_true, not_false_eq_true, not_true_eq_false, Bool.true_eq_false, Bool.false_eq_true, Bool.not_false, Bool.not_true, Bool.and_true, Bool.and_false, Bool.true_and, Bool.false_and]
        refine x_M_partOf hok ?_
        simp only [gM_mean_0, gM_mean_1, gM_mean_2, gM_mean_5, gM_mean_8, gM_mean_9, gM_mean_10, gM_mean_13, gM_mean_14, gM_mean_15, gM_mean_16, gM_mean_17, gM_mean_20, gM_mean_23, gM_mean_24, gM_mean_26, gM_mean_29, gM_mean_30, gM_mean_31, gM_mean_32, gM_mean_33, gM_mean_36, gM_mean_37, gM_mean_40, gM_mean_41, gM_mean_44, gM_mean_45, gM_mean_47, gM_mean_50, gM_mean_51, gM_mean_54, gM_mean_55, gM_mean_58, gM_mean_59, gM_mean_62, gM_mean_63, gM_mean_64, gM_mean_67, gM_mean_68, gM_mean_71, ↓reduceIte, Bool.false_eq_true, Bool.true_eq_false, qk_i, qk_r, qk_n, Option.toList_some, Option.toList_none, List.cons_append, List.nil_append, true_and, and_true, true_or, or_true, eq_self, if_true, if_false, q_b1, q_b2, c_A, c_R, c_O, c_M, c_H1, c_H8, c_H15]
        exact hQ _ (hM'.up SfSm)
      · have ev : me_v H n h W = 0 := by
          unfold me_v
          rw [if_pos (by omega)]
        have l0 : (0 : Int64) = lN (me_v H n h W) := by rw [ev]; rfl
        simp only [gM_mean_0, gM_mean_1, gM_mean_2, gM_mean_5, gM_mean_8, gM_mean_9, gM_mean_10, gM_mean_13, gM_mean_14, gM_mean_15, gM_mean_16, gM_mean_17, gM_mean_20, gM_mean_23, gM_mean_24, gM_mean_26, gM_mean_29, gM_mean_30, gM_mean_31, gM_mean_32, gM_mean_33, gM_mean_36, gM_mean_37, gM_mean_40, gM_mean_41, gM_mean_44, gM_mean_45, gM_mean_47, gM_mean_50, gM_mean_51, gM_mean_54, gM_mean_55, gM_mean_58, gM_mean_59, gM_mean_62, gM_mean_63, gM_mean_64, gM_mean_67, gM_mean_68, gM_mean_71, ↓reduceIte, Bool.false_eq_true, Bool.true_eq_false, qk_i, qk_r, qk_n, Option.toList_some, Option.toList_none, List.cons_append, List.nil_append, true_and, and_true, true_or, or_true, eq_self, if_true, if_false, q_b1, q_b2, c_A, c_R, c_O, c_M, c_H1, c_H8, c_H15, rf_M21, aD_43, (g.vm r').2.2.1, hin, ch, hf h hh, tF, hD, n1z', ↓reduceIte, if_true, if_false, eq_self, not_true, not_false_eq_true, not_true_eq_false, Bool.true_eq_false, Bool.false_eq_true, Bool.not_false, Bool.not_true, Bool.and_true, Bool.and_false, Bool.true_and, Bool.false_and]
        rw [l0]
        refine x_M_partOf hok ?_
        simp only [gM_mean_0, gM_mean_1, gM_mean_2, gM_mean_5, gM_mean_8, gM_mean_9, gM_mean_10, gM_mean_13, gM_mean_14, gM_mean_15, gM_mean_16, gM_mean_17, gM_mean_20, gM_mean_23, gM_mean_24, gM_mean_26, gM_mean_29, gM_mean_30, gM_mean_31, gM_mean_32, gM_mean_33, gM_mean_36, gM_mean_37, gM_mean_40, gM_mean_41, gM_mean_44, gM_mean_45, gM_mean_47, gM_mean_50, gM_mean_51, gM_mean_54, gM_mean_55, gM_mean_58, gM_mean_59, gM_mean_62, gM_mean_63, gM_mean_64, gM_mean_67, gM_mean_68, gM_mean_71, ↓reduceIte, Bool.false_eq_true, Bool.true_eq_false, qk_i, qk_r, qk_n, Option.toList_some, Option.toList_none, List.cons_append, List.nil_append, true_and, and_true, true_or, or_true, eq_self, if_true, if_false, q_b1, q_b2, c_A, c_R, c_O, c_M, c_H1, c_H8, c_H15]
        exact hQ _ (hM'.up SfSm)
end MEAN
