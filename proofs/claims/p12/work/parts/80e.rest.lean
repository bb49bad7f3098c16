/-! the reference's row; SOONEST, MEAN on both sides -/
section REST
variable {Q : q_R} {M M0 H : q_M} {n h W s : Nat} {im : Bool} {a b : Int32}
theorem i_lt {x y : Nat} (hx : x < 2000000000) (hy : y < 2000000000) : (nI x < nI y) = (x < y) := propext (nI_ltI (by omega) (by omega))
theorem i_le {x y : Nat} (hx : x < 2000000000) (hy : y < 2000000000) : (nI x ≤ nI y) = (x ≤ y) := by
  apply propext
  rw [← Int32.not_lt, nI_ltI (by omega) (by omega)]
  omega
theorem i_eq {x y : Nat} (hx : x < 2000000000) (hy : y < 2000000000) : (nI x = nI y) = (x = y) := propext (nI_eq (by omega) (by omega))
theorem y_M_restBy {t X : Nat} (g : gH H n h) (r : RM M H) (ht : t < n) (hs : s < 1024) (hX : M 43 (s ||| 2 ^ t) = nI X) : q_Run 141 [.ref 30, .int (nI t), .int (nI s), .int (q_z im)] M Q = Q (some (.int (nI (X + ck H im s t)))) M := by
  have h10 := g.1
  obtain ⟨x1, x60, ex⟩ := go_xN g ht hs
  obtain ⟨u1, u10, eu⟩ := ck_sN g ht
  have hn := or1_lt hs (show t < 10 by omega)
  have hin : q_in (nI (s ||| 2 ^ t)) 1024 = true := q_in_nI hn (by omega)
  have cn : (nI (s ||| 2 ^ t)).toNatClampNeg = s ||| 2 ^ t := nI_clamp (by omega)
  have hin2 : q_in (nI t) 10 = true := q_in_nI (by omega) (by omega)
  have ct : (nI t).toNatClampNeg = t := nI_clamp (by omega)
  have e3 : M 34 t = nI (ck_s H t) := ((r.e (show t < 10 by omega)).2.2.1).symm.trans eu
  obtain ⟨z1, z2⟩ := nz_u _ u10 u1
  have ep := (pr_N _ x60 _ u10 u1).2
  rw [e_M_restBy]
  simp only [gM_restBy_0, gM_restBy_1, gM_restBy_4, gM_restBy_5, gM_restBy_6, gM_restBy_7, gM_restBy_8, gM_restBy_9, gM_restBy_10, gM_restBy_11, gM_restBy_14, gM_restBy_15, gM_restBy_16, gM_restBy_17, gM_restBy_20, gM_restBy_22, gM_restBy_23, gM_restBy_26, gM_restBy_27, gM_restBy_28, gM_restBy_31, gM_restBy_32, gM_restBy_33, gM_restBy_34, gM_restBy_37, gM_restBy_38, gM_restBy_39, gM_restBy_40, gM_restBy_43, gM_restBy_44, ↓reduceIte, Bool.false_eq_true, Bool.true_eq_false, qk_i, qk_r, qk_n, Option.toList_some, Option.toList_none, List.cons_append, List.nil_append, true_and, and_true, true_or, or_true, eq_self, if_true, if_false, q_b1, q_b2, c_A, c_R, c_O, c_M, c_H1, c_H8, c_H15, rf_M21, aD_43, or1_nI (show t < 31 by omega), hin, cn, hX, q_z0, x_M_goOf (show t < 10 by omega), v_go_N r (show t < 10 by omega) hs, ex, rf_M3, aD_34, hin2, ct, e3, z2, ep, nI_add]
  unfold ck
  cases im
  · simp only [n1z', ↓reduceIte, if_true, if_false, eq_self, not_true, not_false_eq_true, not_true_eq_false, Bool.true_eq_false, Bool.false_eq_true, Bool.not_false, Bool.not_true, Bool.and_true, Bool.and_false, Bool.true_and, Bool.false_and]
  · simp only [n1z', ↓reduceIte, if_true, if_false, eq_self, not_true, not_false_eq_true, not_true_eq_false, Bool.true_eq_false, Bool.false_eq_true, Bool.not_false, Bool.not_true, Bool.and_true, Bool.and_false, Bool.true_and, Bool.false_and, true_and, nI_add]
def fr_f (H : q_M) (n W : Nat) (im : Bool) (s t : Nat) : Nat := if (mayN H s n).testBit t = true then rs H n W im (s ||| 2 ^ t) + ck H im s t else oI
theorem m_fr0 {X : Int32} (g : gH H n h) (r : RM M H) (hQ : ∀ (o5 : Int32) (o6 : Option Value), q_g 105 none Q 109 [some (.ref 30), some (.int (nI W)), some (.int X), some (.int (nI s)), some (.int 0), some (.int o5), o6] [] M) : ∀ k j, j + k = n → ∀ o6 : Option Value,
    q_g 105 none Q 52 [some (.ref 30), some (.int (nI W)), some (.int X), some (.int (nI s)), some (.int 0), some (.int (nI j)), o6] [] M := by
  have h10 := g.1
  have hv := g.vm r
  intro k
  induction k with
  | zero =>
    intro j hj o6
    have : j = n := by omega
    subst this
    rw [gM_findRest_52]
    simp only [gM_findRest_0, gM_findRest_1, gM_findRest_4, gM_findRest_5, gM_findRest_6, gM_findRest_9, gM_findRest_10, gM_findRest_13, gM_findRest_14, gM_findRest_15, gM_findRest_16, gM_findRest_17, gM_findRest_18, gM_findRest_19, gM_findRest_22, gM_findRest_23, gM_findRest_26, gM_findRest_28, gM_findRest_29, gM_findRest_30, gM_findRest_33, gM_findRest_34, gM_findRest_35, gM_findRest_38, gM_findRest_39, gM_findRest_42, gM_findRest_43, gM_findRest_44, gM_findRest_47, gM_findRest_49, gM_findRest_50, gM_findRest_54, gM_findRest_55, gM_findRest_58, gM_findRest_61, gM_findRest_63, gM_findRest_65, gM_findRest_68, gM_findRest_71, gM_findRest_74, gM_findRest_75, gM_findRest_77, gM_findRest_78, gM_findRest_79, gM_findRest_82, gM_findRest_84, gM_findRest_86, gM_findRest_87, gM_findRest_90, gM_findRest_91, gM_findRest_92, gM_findRest_95, gM_findRest_96, gM_findRest_99, gM_findRest_100, gM_findRest_102, gM_findRest_103, gM_findRest_106, gM_findRest_112, gM_findRest_115, ↓reduceIte, Bool.false_eq_true, Bool.true_eq_false, qk_i, qk_r, qk_n, Option.toList_some, Option.toList_none, List.cons_append, List.nil_append, true_and, and_true, true_or, or_true, eq_self, if_true, if_false, q_b1, q_b2, c_A, c_R, c_O, c_M, c_H1, c_H8, c_H15, hv.1, Int32.le_refl]
    exact hQ _ _
  | succ k ih =>
    intro j hj o6
    have h1 : ¬ nI n ≤ nI j := nI_ge (by omega) (by omega)
    have e0 : b_has 0 (nI j) = false := by
      rw [← nI_0, has_nI (by omega) (by omega), Nat.zero_testBit]
    rw [gM_findRest_52]
    simp only [gM_findRest_0, gM_findRest_1, gM_findRest_4, gM_findRest_5, gM_findRest_6, gM_findRest_9, gM_findRest_10, gM_findRest_13, gM_findRest_14, gM_findRest_15, gM_findRest_16, gM_findRest_17, gM_findRest_18, gM_findRest_19, gM_findRest_22, gM_findRest_23, gM_findRest_26, gM_findRest_28, gM_findRest_29, gM_findRest_30, gM_findRest_33, gM_findRest_34, gM_findRest_35, gM_findRest_38, gM_findRest_39, gM_findRest_42, gM_findRest_43, gM_findRest_44, gM_findRest_47, gM_findRest_49, gM_findRest_50, gM_findRest_54, gM_findRest_55, gM_findRest_58, gM_findRest_61, gM_findRest_63, gM_findRest_65, gM_findRest_68, gM_findRest_71, gM_findRest_74, gM_findRest_75, gM_findRest_77, gM_findRest_78, gM_findRest_79, gM_findRest_82, gM_findRest_84, gM_findRest_86, gM_findRest_87, gM_findRest_90, gM_findRest_91, gM_findRest_92, gM_findRest_95, gM_findRest_96, gM_findRest_99, gM_findRest_100, gM_findRest_102, gM_findRest_103, gM_findRest_106, gM_findRest_112, gM_findRest_115, ↓reduceIte, Bool.false_eq_true, Bool.true_eq_false, qk_i, qk_r, qk_n, Option.toList_some, Option.toList_none, List.cons_append, List.nil_append, true_and, and_true, true_or, or_true, eq_self, if_true, if_false, q_b1, q_b2, c_A, c_R, c_O, c_M, c_H1, c_H8, c_H15, hv.1, h1, x_M_has, e0, q_z0, nI_1, n1z', ↓reduceIte, if_true, if_false, eq_self, not_true, not_false_eq_true, not_true_eq_false, Bool.true_eq_false, Bool.false_eq_true, Bool.not_false, Bool.not_true, Bool.and_true, Bool.and_false, Bool.true_and, Bool.false_and]
    exact ih (j + 1) (by omega) _
theorem m_fr2 (g : gH H n h) (r0 : RM M0 H) (hs : s < 2 ^ n) (hQ : ∀ M (o5 : Int32) (o6 : Option Value), eqx Sf M0 M → (∀ i, s < i → i < 2 ^ n → M 43 i = nI (rs H n W im i)) → M 43 s = nI (minT (fr_f H n W im s) n) → q_g 105 none Q 109 [some (.ref 30), some (.int (nI W)), some (.int (q_z im)), some (.int (nI s)), some (.int (nI (mayN H s n))), some (.int o5), o6] [] M) : ∀ k j, j + k = n → ∀ (M : q_M) (o6 : Option Value), eqx Sf M0 M → (∀ i, s < i → i < 2 ^ n → M 43 i = nI (rs H n W im i)) → M 43 s = nI (minT (fr_f H n W im s) j) →
    q_g 105 none Q 52 [some (.ref 30), some (.int (nI W)), some (.int (q_z im)), some (.int (nI s)), some (.int (nI (mayN H s n))), some (.int (nI j)), o6] [] M := by
  have h10 := g.1
  have h2 := two_pow_le h10
  have hs' : s < 1024 := by omega
  have hin : q_in (nI s) 1024 = true := q_in_nI hs' (by omega)
  have cs : (nI s).toNatClampNeg = s := nI_clamp (by omega)
  have hml : mayN H s n < 2 ^ 31 := Nat.lt_of_lt_of_le (mayN_lt n) (Nat.le_trans h2 (by omega))
  have hoI : oI = 100000000 := rfl
  intro k
  induction k with
  | zero =>
    intro j hj M o6 hM hf hp
    have : j = n := by omega
    subst this
    rw [gM_findRest_52]
    simp only [gM_findRest_0, gM_findRest_1, gM_findRest_4, gM_findRest_5, gM_findRest_6, gM_findRest_9, gM_findRest_10, gM_findRest_13, gM_findRest_14, gM_findRest_15, gM_findRest_16, gM_findRest_17, gM_findRest_18, gM_findRest_19, gM_findRest_22, gM_findRest_23, gM_findRest_26, gM_findRest_28, gM_findRest_29, gM_findRest_30, gM_findRest_33, gM_findRest_34, gM_findRest_35, gM_findRest_38, gM_findRest_39, gM_findRest_42, gM_findRest_43, gM_findRest_44, gM_findRest_47, gM_findRest_49, gM_findRest_50, gM_findRest_54, gM_findRest_55, gM_findRest_58, gM_findRest_61, gM_findRest_63, gM_findRest_65, gM_findRest_68, gM_findRest_71, gM_findRest_74, gM_findRest_75, gM_findRest_77, gM_findRest_78, gM_findRest_79, gM_findRest_82, gM_findRest_84, gM_findRest_86, gM_findRest_87, gM_findRest_90, gM_findRest_91, gM_findRest_92, gM_findRest_95, gM_findRest_96, gM_findRest_99, gM_findRest_100, gM_findRest_102, gM_findRest_103, gM_findRest_106, gM_findRest_112, gM_findRest_115, ↓reduceIte, Bool.false_eq_true, Bool.true_eq_false, qk_i, qk_r, qk_n, Option.toList_some, Option.toList_none, List.cons_append, List.nil_append, true_and, and_true, true_or, or_true, eq_self, if_true, if_false, q_b1, q_b2, c_A, c_R, c_O, c_M, c_H1, c_H8, c_H15, (g.vm (r0.f hM)).1, Int32.le_refl]
    exact hQ _ _ _ hM hf hp
  | succ k ih =>
    intro j hj M o6 hM hf hp
    have r := r0.f hM
    have h1 : ¬ nI n ≤ nI j := nI_ge (by omega) (by omega)
    have m1 := minT_inf (f := fr_f H n W im s) j
    have stp : minT (fr_f H n W im s) (j + 1) = if fr_f H n W im s j < minT (fr_f H n W im s) j then fr_f H n W im s j else minT (fr_f H n W im s) j := rfl
    cases hb : (mayN H s n).testBit j
    · have ef : fr_f H n W im s j = oI := by
        unfold fr_f
        rw [if_neg (by rw [hb]; decide)]
      rw [ef, if_neg (by omega)] at stp
      rw [gM_findRest_52]
      simp only [gM_findRest_0, gM_findRest_1, gM_findRest_4, gM_findRest_5, gM_findRest_6, gM_findRest_9, gM_findRest_10, gM_findRest_13, gM_findRest_14, gM_findRest_15, gM_findRest_16, gM_findRest_17, gM_findRest_18, gM_findRest_19, gM_findRest_22, gM_findRest_23, gM_findRest_26, gM_findRest_28, gM_findRest_29, gM_findRest_30, gM_findRest_33, gM_findRest_34, gM_findRest_35, gM_findRest_38, gM_findRest_39, gM_findRest_42, gM_findRest_43, gM_findRest_44, gM_findRest_47, gM_findRest_49, gM_findRest_50, gM_findRest_54, gM_findRest_55, gM_findRest_58, gM_findRest_61, gM_findRest_63, gM_findRest_65, gM_findRest_68, gM_findRest_71, gM_findRest_74, gM_findRest_75, gM_findRest_77, gM_findRest_78, gM_findRest_79, gM_findRest_82, gM_findRest_84, gM_findRest_86, gM_findRest_87, gM_findRest_90, gM_findRest_91, gM_findRest_92, gM_findRest_95, gM_findRest_96, gM_findRest_99, gM_findRest_100, gM_findRest_102, gM_findRest_103, gM_findRest_106, gM_findRest_112, gM_findRest_115, ↓reduceIte, Bool.false_eq_true, Bool.true_eq_false, qk_i, qk_r, qk_n, Option.toList_some, Option.toList_none, List.cons_append, List.nil_append, true_and, and_true, true_or, or_true, eq_self, if_true, if_false, q_b1, q_b2, c_A, c_R, c_O, c_M, c_H1, c_H8, c_H15, (g.vm r).1, h1, x_M_has, has_nI hml (show j < 31 by omega), hb, q_z0, nI_1, n1z', ↓reduceIte, if_true, if_false, eq_self, not_true, not_false_eq_true, not_true_eq_false, Bool.true_eq_false, Bool.false_eq_true, Bool.not_false, Bool.not_true, Bool.and_true, Bool.and_false, Bool.true_and, Bool.false_and]
      exact ih (j + 1) (by omega) M _ hM hf (by rw [stp]; exact hp)
    · have hbs := mayN_dis hs' h10 j hb
      have hgt := or_bit_gt hbs
      have hl := or_ltn hs (Nat.pow_lt_pow_right (a := 2) (n := n) (by omega) (show j < n by omega))
      have ef : fr_f H n W im s j = rs H n W im (s ||| 2 ^ j) + ck H im s j := by
        unfold fr_f
        rw [if_pos hb]
      have hX := hf _ hgt hl
      have hr := rs_inf (H := H) (W := W) (im := im) h10 (show s ||| 2 ^ j < 1024 by omega)
      have hc := (ck_le (im := im) g (show j < n by omega) hs').2
      have tle := i_le (x := minT (fr_f H n W im s) j) (y := rs H n W im (s ||| 2 ^ j) + ck H im s j) (by omega) (by omega)
      rw [ef] at stp
      rw [gM_findRest_52]
      simp only [gM_findRest_0, gM_findRest_1, gM_findRest_4, gM_findRest_5, gM_findRest_6, gM_findRest_9, gM_findRest_10, gM_findRest_13, gM_findRest_14, gM_findRest_15, gM_findRest_16, gM_findRest_17, gM_findRest_18, gM_findRest_19, gM_findRest_22, gM_findRest_23, gM_findRest_26, gM_findRest_28, gM_findRest_29, gM_findRest_30, gM_findRest_33, gM_findRest_34, gM_findRest_35, gM_findRest_38, gM_findRest_39, gM_findRest_42, gM_findRest_43, gM_findRest_44, gM_findRest_47, gM_findRest_49, gM_findRest_50, gM_findRest_54, gM_findRest_55, gM_findRest_58, gM_findRest_61, gM_findRest_63, gM_findRest_65, gM_findRest_68, gM_findRest_71, gM_findRest_74, gM_findRest_75, gM_findRest_77, gM_findRest_78, gM_findRest_79, gM_findRest_82, gM_findRest_84, gM_findRest_86, gM_findRest_87, gM_findRest_90, gM_findRest_91, gM_findRest_92, gM_findRest_95, gM_findRest_96, gM_findRest_99, gM_findRest_100, gM_findRest_102, gM_findRest_103, gM_findRest_106, gM_findRest_112, gM_findRest_115, ↓reduceIte, Bool.false_eq_true, Bool.true_eq_false, qk_i, qk_r, qk_n, Option.toList_some, Option.toList_none, List.cons_append, List.nil_append, true_and, and_true, true_or, or_true, eq_self, if_true, if_false, q_b1, q_b2, c_A, c_R, c_O, c_M, c_H1, c_H8, c_H15, (g.vm r).1, h1, x_M_has, has_nI hml (show j < 31 by omega), hb, q_z0, nI_1, y_M_restBy g r (show j < n by omega) hs' hX, rf_M21, aD_43, hin, cs, hp, tle, n1z', ↓reduceIte, if_true, if_false, eq_self, not_true, not_false_eq_true, not_true_eq_false, Bool.true_eq_false, Bool.false_eq_true, Bool.not_false, Bool.not_true, Bool.and_true, Bool.and_false, Bool.true_and, Bool.false_and]
      by_cases hlt : rs H n W im (s ||| 2 ^ j) + ck H im s j < minT (fr_f H n W im s) j
      · rw [if_pos hlt] at stp
        rw [if_neg (show ¬ minT (fr_f H n W im s) j ≤ rs H n W im (s ||| 2 ^ j) + ck H im s j by omega)]
        refine ih (j + 1) (by omega) _ _ (hM.qput (by decide)) (fun i hi h3 => by rw [q_put_at, if_neg (by omega)]; exact hf i hi h3) ?_
        rw [q_put_at, if_pos rfl, stp]
      · rw [if_neg hlt] at stp
        rw [if_pos (show minT (fr_f H n W im s) j ≤ rs H n W im (s ||| 2 ^ j) + ck H im s j by omega)]
        exact ih (j + 1) (by omega) M _ hM hf (by rw [stp]; exact hp)
theorem m_fr (g : gH H n h) (r0 : RM M0 H) (hW : W < 1024) (hQ : ∀ M, eqx Sf M0 M → (∀ i, i < 2 ^ n → M 43 i = nI (rs H n W im i)) → Q none M) : ∀ k, k ≤ 2 ^ n → ∀ (M : q_M) (o4 o5 o6 : Option Value), eqx Sf M0 M → (∀ i, k ≤ i → i < 2 ^ n → M 43 i = nI (rs H n W im i)) →
    q_g 105 none Q 5 [some (.ref 30), some (.int (nI W)), some (.int (q_z im)), some (.int (nI k + (-1))), o4, o5, o6] [] M := by
  have h10 := g.1
  have h2 := two_pow_le h10
  intro k
  induction k with
  | zero =>
    intro hk M o4 o5 o6 hM hf
    have h1 : nI 0 + (-1) < 0 := by decide
    rw [gM_findRest_5]
    simp only [gM_findRest_0, gM_findRest_1, gM_findRest_4, gM_findRest_6, gM_findRest_9, gM_findRest_10, gM_findRest_13, gM_findRest_14, gM_findRest_15, gM_findRest_16, gM_findRest_17, gM_findRest_18, gM_findRest_19, gM_findRest_22, gM_findRest_23, gM_findRest_26, gM_findRest_28, gM_findRest_29, gM_findRest_30, gM_findRest_33, gM_findRest_34, gM_findRest_35, gM_findRest_38, gM_findRest_39, gM_findRest_42, gM_findRest_43, gM_findRest_44, gM_findRest_47, gM_findRest_49, gM_findRest_50, gM_findRest_52, gM_findRest_54, gM_findRest_55, gM_findRest_58, gM_findRest_61, gM_findRest_63, gM_findRest_65, gM_findRest_68, gM_findRest_71, gM_findRest_74, gM_findRest_75, gM_findRest_77, gM_findRest_78, gM_findRest_79, gM_findRest_82, gM_findRest_84, gM_findRest_86, gM_findRest_87, gM_findRest_90, gM_findRest_91, gM_findRest_92, gM_findRest_95, gM_findRest_96, gM_findRest_99, gM_findRest_100, gM_findRest_102, gM_findRest_103, gM_findRest_106, gM_findRest_109, gM_findRest_112, gM_findRest_115, ↓reduceIte, Bool.false_eq_true, Bool.true_eq_false, qk_i, qk_r, qk_n, Option.toList_some, Option.toList_none, List.cons_append, List.nil_append, true_and, and_true, true_or, or_true, eq_self, if_true, if_false, q_b1, q_b2, c_A, c_R, c_O, c_M, c_H1, c_H8, c_H15, h1]
    exact hQ _ hM (fun i hi => hf i (Nat.zero_le _) hi)
  | succ s ih =>
    intro hk M o4 o5 o6 hM hf
    have hs : s < 2 ^ n := by omega
    have hs' : s < 1024 := by omega
    have h1 : ¬ nI s < 0 := nI_pos (by omega)
    have hin : q_in (nI s) 1024 = true := q_in_nI hs' (by omega)
    have cs : (nI s).toNatClampNeg = s := nI_clamp (by omega)
    have d1 := dif_nI (x := W) hW
    have dz : (nI (dif W s) = 0) = (dif W s = 0) := propext (nI_eq (b := 0) (by have := @dif_le W s; omega) (by omega))
    have next : ∀ (M' : q_M) (x o5 : Int32) (o6 : Option Value), eqx Sf M0 M' → (∀ i, s < i → i < 2 ^ n → M' 43 i = nI (rs H n W im i)) → M' 43 s = nI (rs H n W im s) → q_g 105 none Q 109 [some (.ref 30), some (.int (nI W)), some (.int (q_z im)), some (.int (nI s)), some (.int x), some (.int o5), o6] [] M' := by
      intro M' x o5 o6 a b c
      simp only [gM_findRest_0, gM_findRest_1, gM_findRest_4, gM_findRest_6, gM_findRest_9, gM_findRest_10, gM_findRest_13, gM_findRest_14, gM_findRest_15, gM_findRest_16, gM_findRest_17, gM_findRest_18, gM_findRest_19, gM_findRest_22, gM_findRest_23, gM_findRest_26, gM_findRest_28, gM_findRest_29, gM_findRest_30, gM_findRest_33, gM_findRest_34, gM_findRest_35, gM_findRest_38, gM_findRest_39, gM_findRest_42, gM_findRest_43, gM_findRest_44, gM_findRest_47, gM_findRest_49, gM_findRest_50, gM_findRest_52, gM_findRest_54, gM_findRest_55, gM_findRest_58, gM_findRest_61, gM_findRest_63, gM_findRest_65, gM_findRest_68, gM_findRest_71, gM_findRest_74, gM_findRest_75, gM_findRest_77, gM_findRest_78, gM_findRest_79, gM_findRest_82, gM_findRest_84, gM_findRest_86, gM_findRest_87, gM_findRest_90, gM_findRest_91, gM_findRest_92, gM_findRest_95, gM_findRest_96, gM_findRest_99, gM_findRest_100, gM_findRest_102, gM_findRest_103, gM_findRest_106, gM_findRest_109, gM_findRest_112, gM_findRest_115, ↓reduceIte, Bool.false_eq_true, Bool.true_eq_false, qk_i, qk_r, qk_n, Option.toList_some, Option.toList_none, List.cons_append, List.nil_append, true_and, and_true, true_or, or_true, eq_self, if_true, if_false, q_b1, q_b2, c_A, c_R, c_O, c_M, c_H1, c_H8, c_H15]
      refine ih (by omega) M' _ _ _ a fun i h3 h4 => ?_
      by_cases e : i = s
      · rw [e]
        exact c
      · exact b i (by omega) h4
    have ep : ∀ v, eqx Sf M0 (q_put M 43 s v) := fun v => hM.qput (by decide)
    have hfp : ∀ v i, s < i → i < 2 ^ n → q_put M 43 s v 43 i = nI (rs H n W im i) := fun v i h3 h4 => by rw [q_put_at, if_neg (by omega)]; exact hf i (by omega) h4
    have hp : ∀ v, q_put M 43 s v 43 s = v := fun v => by rw [q_put_at, if_pos rfl]
    rw [dec_nI, gM_findRest_5]
    simp only [gM_findRest_0, gM_findRest_1, gM_findRest_4, gM_findRest_6, gM_findRest_9, gM_findRest_10, gM_findRest_13, gM_findRest_14, gM_findRest_15, gM_findRest_16, gM_findRest_17, gM_findRest_18, gM_findRest_19, gM_findRest_22, gM_findRest_23, gM_findRest_26, gM_findRest_29, gM_findRest_30, gM_findRest_33, gM_findRest_34, gM_findRest_35, gM_findRest_38, gM_findRest_39, gM_findRest_42, gM_findRest_43, gM_findRest_44, gM_findRest_47, gM_findRest_49, gM_findRest_50, gM_findRest_54, gM_findRest_55, gM_findRest_58, gM_findRest_61, gM_findRest_63, gM_findRest_65, gM_findRest_68, gM_findRest_71, gM_findRest_74, gM_findRest_75, gM_findRest_77, gM_findRest_78, gM_findRest_79, gM_findRest_82, gM_findRest_84, gM_findRest_86, gM_findRest_87, gM_findRest_90, gM_findRest_91, gM_findRest_92, gM_findRest_95, gM_findRest_96, gM_findRest_99, gM_findRest_100, gM_findRest_102, gM_findRest_103, gM_findRest_106, gM_findRest_112, gM_findRest_115, ↓reduceIte, Bool.false_eq_true, Bool.true_eq_false, qk_i, qk_r, qk_n, Option.toList_some, Option.toList_none, List.cons_append, List.nil_append, true_and, and_true, true_or, or_true, eq_self, if_true, if_false, q_b1, q_b2, c_A, c_R, c_O, c_M, c_H1, c_H8, c_H15, h1, rf_M21, d1, dz]
    by_cases he : dif W s = 0
    · rw [if_neg (fun q : ¬ dif W s = 0 => q he)]
      simp only [gM_findRest_0, gM_findRest_1, gM_findRest_4, gM_findRest_6, gM_findRest_9, gM_findRest_10, gM_findRest_13, gM_findRest_14, gM_findRest_15, gM_findRest_16, gM_findRest_17, gM_findRest_18, gM_findRest_19, gM_findRest_22, gM_findRest_23, gM_findRest_26, gM_findRest_28, gM_findRest_29, gM_findRest_30, gM_findRest_33, gM_findRest_34, gM_findRest_35, gM_findRest_38, gM_findRest_39, gM_findRest_42, gM_findRest_43, gM_findRest_44, gM_findRest_47, gM_findRest_49, gM_findRest_50, gM_findRest_54, gM_findRest_55, gM_findRest_58, gM_findRest_61, gM_findRest_63, gM_findRest_65, gM_findRest_68, gM_findRest_71, gM_findRest_74, gM_findRest_75, gM_findRest_77, gM_findRest_78, gM_findRest_79, gM_findRest_82, gM_findRest_84, gM_findRest_86, gM_findRest_87, gM_findRest_90, gM_findRest_91, gM_findRest_92, gM_findRest_95, gM_findRest_96, gM_findRest_99, gM_findRest_100, gM_findRest_102, gM_findRest_103, gM_findRest_106, gM_findRest_112, gM_findRest_115, ↓reduceIte, Bool.false_eq_true, Bool.true_eq_false, qk_i, qk_r, qk_n, Option.toList_some, Option.toList_none, List.cons_append, List.nil_append, true_and, and_true, true_or, or_true, eq_self, if_true, if_false, q_b1, q_b2, c_A, c_R, c_O, c_M, c_H1, c_H8, c_H15, rf_M21, aD_43, hin, cs, hp, not_true, if_false]
      refine m_fr0 g (r0.f (ep 0)) (fun o5 o6 => next _ _ _ _ (ep 0) (hfp 0) ?_) n 0 (by omega) _
      rw [hp, rs_z h10 hs' he]
      rfl
    · have n8 : ¬ (100000000 : Int32) = 0 := by decide
      rw [if_pos he]
      simp only [gM_findRest_0, gM_findRest_1, gM_findRest_4, gM_findRest_6, gM_findRest_9, gM_findRest_10, gM_findRest_13, gM_findRest_14, gM_findRest_15, gM_findRest_16, gM_findRest_17, gM_findRest_18, gM_findRest_19, gM_findRest_22, gM_findRest_23, gM_findRest_26, gM_findRest_28, gM_findRest_29, gM_findRest_30, gM_findRest_33, gM_findRest_34, gM_findRest_35, gM_findRest_38, gM_findRest_39, gM_findRest_42, gM_findRest_43, gM_findRest_44, gM_findRest_47, gM_findRest_49, gM_findRest_50, gM_findRest_54, gM_findRest_55, gM_findRest_58, gM_findRest_61, gM_findRest_63, gM_findRest_65, gM_findRest_68, gM_findRest_71, gM_findRest_74, gM_findRest_75, gM_findRest_77, gM_findRest_78, gM_findRest_79, gM_findRest_82, gM_findRest_84, gM_findRest_86, gM_findRest_87, gM_findRest_90, gM_findRest_91, gM_findRest_92, gM_findRest_95, gM_findRest_96, gM_findRest_99, gM_findRest_100, gM_findRest_102, gM_findRest_103, gM_findRest_106, gM_findRest_112, gM_findRest_115, ↓reduceIte, Bool.false_eq_true, Bool.true_eq_false, qk_i, qk_r, qk_n, Option.toList_some, Option.toList_none, List.cons_append, List.nil_append, true_and, and_true, true_or, or_true, eq_self, if_true, if_false, q_b1, q_b2, c_A, c_R, c_O, c_M, c_H1, c_H8, c_H15, rf_M21, aD_43, hin, cs, hp, n8, not_false_eq_true, if_true, x_M_mayBy g (r0.f (ep 100000000)) hs']
      refine m_fr2 (M0 := M0) (W := W) (im := im) g r0 hs (fun M' o5 o6 a b c => next M' _ _ _ a b ?_) n 0 (by omega) _ _ (ep _) (hfp _) (by rw [hp]; rfl)
      rw [c, rs_eq h10 hs', if_neg he]
      rfl
theorem m_findRest (g : gH H n h) (r : RM M H) (hW : W < 1024) (hQ : ∀ M', eqx Sf M M' → (∀ i, i < 2 ^ n → M' 43 i = nI (rs H n W im i)) → Q none M') : q_Run 105 [.ref 30, .int (nI W), .int (q_z im)] M Q := by
  have hp := Nat.two_pow_pos n
  have e1 : nI (2 ^ n - 1) = nI (2 ^ n) + (-1) := by
    have := dec_nI (2 ^ n - 1)
    rw [Nat.sub_add_cancel hp] at this
    exact this.symm
  rw [e_M_findRest]
  simp only [gM_findRest_0, gM_findRest_1, gM_findRest_4, gM_findRest_6, gM_findRest_9, gM_findRest_10, gM_findRest_13, gM_findRest_14, gM_findRest_15, gM_findRest_16, gM_findRest_17, gM_findRest_18, gM_findRest_19, gM_findRest_22, gM_findRest_23, gM_findRest_26, gM_findRest_28, gM_findRest_29, gM_findRest_30, gM_findRest_33, gM_findRest_34, gM_findRest_35, gM_findRest_38, gM_findRest_39, gM_findRest_42, gM_findRest_43, gM_findRest_44, gM_findRest_47, gM_findRest_49, gM_findRest_50, gM_findRest_52, gM_findRest_54, gM_findRest_55, gM_findRest_58, gM_findRest_61, gM_findRest_63, gM_findRest_65, gM_findRest_68, gM_findRest_71, gM_findRest_74, gM_findRest_75, gM_findRest_77, gM_findRest_78, gM_findRest_79, gM_findRest_82, gM_findRest_84, gM_findRest_86, gM_findRest_87, gM_findRest_90, gM_findRest_91, gM_findRest_92, gM_findRest_95, gM_findRest_96, gM_findRest_99, gM_findRest_100, gM_findRest_102, gM_findRest_103, gM_findRest_106, gM_findRest_109, gM_findRest_112, gM_findRest_115, ↓reduceIte, Bool.false_eq_true, Bool.true_eq_false, qk_i, qk_r, qk_n, Option.toList_some, Option.toList_none, List.cons_append, List.nil_append, true_and, and_true, true_or, or_true, eq_self, if_true, if_false, q_b1, q_b2, c_A, c_R, c_O, c_M, c_H1, c_H8, c_H15, y_M_whole g r]
  rw [e1]
  exact m_fr (M0 := M) g r hW hQ (2 ^ n) (Nat.le_refl _) M _ _ _ eqx.rf (fun i h3 h4 => absurd h4 (by omega))
/-! SOONEST -/
def an_soon (H : q_M) (n h : Nat) (a b : Int32) : Int32 := if b_isSet H 0 a = true then (if b_noPart b = true then -2 else if rs H n a.toNatClampNeg false h = oI then -9 else if b = 0 then nI (rs H n a.toNatClampNeg false h) else ldI (so_f H n h a.toNatClampNeg false)) else -1
theorem y_A_soonest (g : gH H n h) (r : RC 1 M H) (hQ : ∀ M', eqx Sq M M' → Q (some (.int (an_soon H n h a b))) M') : q_Run 85 [.ref 0, .int a, .int b] M Q := by
  have h2 := two_pow_le g.1
  unfold an_soon at hQ
  rw [e_A_soonest]
  simp only [gA_soonest_0, gA_soonest_1, gA_soonest_4, gA_soonest_5, gA_soonest_8, gA_soonest_11, gA_soonest_12, gA_soonest_13, gA_soonest_16, gA_soonest_17, gA_soonest_18, gA_soonest_21, gA_soonest_24, gA_soonest_25, gA_soonest_27, gA_soonest_30, gA_soonest_31, gA_soonest_32, gA_soonest_35, gA_soonest_36, gA_soonest_39, gA_soonest_40, gA_soonest_41, gA_soonest_44, gA_soonest_45, gA_soonest_48, gA_soonest_51, gA_soonest_54, gA_soonest_56, gA_soonest_57, gA_soonest_58, gA_soonest_61, gA_soonest_62, gA_soonest_65, gA_soonest_68, gA_soonest_71, gA_soonest_72, gA_soonest_75, gA_soonest_78, ↓reduceIte, Bool.false_eq_true, Bool.true_eq_false, qk_i, qk_r, qk_n, Option.toList_some, Option.toList_none, List.cons_append, List.nil_append, true_and, and_true, true_or, or_true, eq_self, if_true, if_false, q_b1, q_b2, c_A, c_R, c_O, c_M, c_H1, c_H8, c_H15, rf_A0, rf_A4, x_H_isSet c_H1, q_z0, x_A_refuse, x_A_isNoPart]
  rw [r.isSet]
  cases hs : b_isSet H 0 a
  · rw [hs, if_neg (by decide)] at hQ
    simp only [n1z', ↓reduceIte, if_true, if_false, eq_self, not_true, not_false_eq_true, not_true_eq_false, Bool.true_eq_false, Bool.false_eq_true, Bool.not_false, Bool.not_true, Bool.and_true, Bool.and_false, Bool.true_and, Bool.false_and]
    exact hQ _ eqx_ref
  · obtain ⟨W, hW, rfl⟩ := set_N g hs
    rw [hs, if_pos rfl, nI_clamp (by omega)] at hQ
    cases hp : b_noPart b
    · rw [hp, if_neg (by decide)] at hQ
      simp only [n1z', ↓reduceIte, if_true, if_false, eq_self, not_true, not_false_eq_true, not_true_eq_false, Bool.true_eq_false, Bool.false_eq_true, Bool.not_false, Bool.not_true, Bool.and_true, Bool.and_false, Bool.true_and, Bool.false_and]
      refine c_seek (W := W) (im := false) g r (by omega) fun M' hM' hc => ?_
      simp only [gA_soonest_0, gA_soonest_1, gA_soonest_4, gA_soonest_5, gA_soonest_8, gA_soonest_11, gA_soonest_12, gA_soonest_13, gA_soonest_16, gA_soonest_17, gA_soonest_18, gA_soonest_21, gA_soonest_24, gA_soonest_25, gA_soonest_27, gA_soonest_30, gA_soonest_31, gA_soonest_32, gA_soonest_35, gA_soonest_36, gA_soonest_39, gA_soonest_40, gA_soonest_41, gA_soonest_44, gA_soonest_45, gA_soonest_48, gA_soonest_51, gA_soonest_54, gA_soonest_56, gA_soonest_57, gA_soonest_58, gA_soonest_61, gA_soonest_62, gA_soonest_65, gA_soonest_68, gA_soonest_71, gA_soonest_72, gA_soonest_75, gA_soonest_78, ↓reduceIte, Bool.false_eq_true, Bool.true_eq_false, qk_i, qk_r, qk_n, Option.toList_some, Option.toList_none, List.cons_append, List.nil_append, true_and, and_true, true_or, or_true, eq_self, if_true, if_false, q_b1, q_b2, c_A, c_R, c_O, c_M, c_H1, c_H8, c_H15, rf_A4]
      rcases hc with ⟨f0, f1⟩ | ⟨f0, f1, f2, f3⟩
      · rw [if_pos f1] at hQ
        simp only [f0, n1z', ↓reduceIte, if_true, if_false, eq_self, not_true, not_false_eq_true, not_true_eq_false, Bool.true_eq_false, Bool.false_eq_true, Bool.not_false, Bool.not_true, Bool.and_true, Bool.and_false, Bool.true_and, Bool.false_and]
        exact hQ _ (hM'.up So_Sq)
      · rw [if_neg (by omega)] at hQ
        simp only [f0, f2, f3, n1z', ↓reduceIte, if_true, if_false, eq_self, not_true, not_false_eq_true, not_true_eq_false, Bool.true_eq_false, Bool.false_eq_true, Bool.not_false, Bool.not_true, Bool.and_true, Bool.and_false, Bool.true_and, Bool.false_and]
        by_cases hb : b = 0
        · rw [if_pos hb] at hQ
          simp only [hb, n1z', ↓reduceIte, if_true, if_false, eq_self, not_true, not_false_eq_true, not_true_eq_false, Bool.true_eq_false, Bool.false_eq_true, Bool.not_false, Bool.not_true, Bool.and_true, Bool.and_false, Bool.true_and, Bool.false_and]
          exact hQ _ (hM'.up So_Sq)
        · rw [if_neg hb] at hQ
          simp only [hb, n1z', ↓reduceIte, if_true, if_false, eq_self, not_true, not_false_eq_true, not_true_eq_false, Bool.true_eq_false, Bool.false_eq_true, Bool.not_false, Bool.not_true, Bool.and_true, Bool.and_false, Bool.true_and, Bool.false_and]
          exact hQ _ (hM'.up So_Sq)
    · rw [hp, if_pos rfl] at hQ
      simp only [n1z', ↓reduceIte, if_true, if_false, eq_self, not_true, not_false_eq_true, not_true_eq_false, Bool.true_eq_false, Bool.false_eq_true, Bool.not_false, Bool.not_true, Bool.and_true, Bool.and_false, Bool.true_and, Bool.false_and]
      exact hQ _ eqx_ref
theorem l_M_soon {bb : Int32} (g : gH H n h) (r : RM M H) (hf : ∀ i, i < 2 ^ n → M 43 i = nI (rs H n W false i)) : ∀ k j, j + k = n →
    q_g 146 none Q 95 [some (.ref 30), some (.int (nI W)), some (.int bb), some (.int (nI (mayN H h n))), some (.int (nI j))] [] M = Q (some (.int (ldI (fsT (so_c H n h W false) k j)))) M := by
  have h10 := g.1
  have h2 := two_pow_le h10
  have hh := g.2.2.2.1
  have hv := g.vm r
  have hml : mayN H h n < 2 ^ 31 := Nat.lt_of_lt_of_le (mayN_lt n) (Nat.le_trans h2 (by omega))
  have hin : q_in (nI h) 1024 = true := q_in_nI g.hlt (by omega)
  have ch : (nI h).toNatClampNeg = h := nI_clamp (by omega)
  have hoI : oI = 100000000 := rfl
  have hr0 := rs_inf (H := H) (W := W) (im := false) h10 g.hlt
  intro k
  induction k with
  | zero =>
    intro j hj
    have : j = n := by omega
    subst this
    rw [gM_soonest_95]
    simp only [gM_soonest_0, gM_soonest_1, gM_soonest_2, gM_soonest_5, gM_soonest_8, gM_soonest_9, gM_soonest_10, gM_soonest_13, gM_soonest_14, gM_soonest_15, gM_soonest_16, gM_soonest_17, gM_soonest_20, gM_soonest_23, gM_soonest_24, gM_soonest_26, gM_soonest_29, gM_soonest_30, gM_soonest_31, gM_soonest_32, gM_soonest_33, gM_soonest_36, gM_soonest_37, gM_soonest_40, gM_soonest_41, gM_soonest_44, gM_soonest_45, gM_soonest_47, gM_soonest_50, gM_soonest_52, gM_soonest_53, gM_soonest_54, gM_soonest_57, gM_soonest_58, gM_soonest_61, gM_soonest_62, gM_soonest_65, gM_soonest_66, gM_soonest_67, gM_soonest_68, gM_soonest_71, gM_soonest_72, gM_soonest_75, gM_soonest_76, gM_soonest_79, gM_soonest_80, gM_soonest_83, gM_soonest_84, gM_soonest_85, gM_soonest_88, gM_soonest_91, gM_soonest_92, gM_soonest_93, gM_soonest_97, gM_soonest_98, gM_soonest_101, gM_soonest_104, gM_soonest_105, gM_soonest_107, gM_soonest_110, gM_soonest_113, gM_soonest_114, gM_soonest_116, gM_soonest_117, gM_soonest_120, gM_soonest_121, gM_soonest_124, gM_soonest_125, gM_soonest_128, gM_soonest_129, gM_soonest_132, gM_soonest_133, gM_soonest_136, gM_soonest_138, gM_soonest_139, gM_soonest_142, gM_soonest_145, gM_soonest_147, ↓reduceIte, Bool.false_eq_true, Bool.true_eq_false, qk_i, qk_r, qk_n, Option.toList_some, Option.toList_none, List.cons_append, List.nil_append, true_and, and_true, true_or, or_true, eq_self, if_true, if_false, q_b1, q_b2, c_A, c_R, c_O, c_M, c_H1, c_H8, c_H15, hv.1, Int32.le_refl]
    rfl
  | succ k ih =>
    intro j hj
    have h1 : ¬ nI n ≤ nI j := nI_ge (by omega) (by omega)
    have ih1 := ih (j + 1) (by omega)
    have e0 : (0 : Int32) = q_z false := rfl
    have stp : fsT (so_c H n h W false) (k + 1) j = if so_c H n h W false j = true then j else fsT (so_c H n h W false) k (j + 1) := rfl
    rw [gM_soonest_95, stp]
    cases hb : (mayN H h n).testBit j
    · have hc : so_c H n h W false j = false := by
        unfold so_c
        rw [hb]
        rfl
      rw [hc, if_neg (by decide)]
      simp only [gM_soonest_0, gM_soonest_1, gM_soonest_2, gM_soonest_5, gM_soonest_8, gM_soonest_9, gM_soonest_10, gM_soonest_13, gM_soonest_14, gM_soonest_15, gM_soonest_16, gM_soonest_17, gM_soonest_20, gM_soonest_23, gM_soonest_24, gM_soonest_26, gM_soonest_29, gM_soonest_30, gM_soonest_31, gM_soonest_32, gM_soonest_33, gM_soonest_36, gM_soonest_37, gM_soonest_40, gM_soonest_41, gM_soonest_44, gM_soonest_45, gM_soonest_47, gM_soonest_50, gM_soonest_52, gM_soonest_53, gM_soonest_54, gM_soonest_57, gM_soonest_58, gM_soonest_61, gM_soonest_62, gM_soonest_65, gM_soonest_66, gM_soonest_67, gM_soonest_68, gM_soonest_71, gM_soonest_72, gM_soonest_75, gM_soonest_76, gM_soonest_79, gM_soonest_80, gM_soonest_83, gM_soonest_84, gM_soonest_85, gM_soonest_88, gM_soonest_91, gM_soonest_92, gM_soonest_93, gM_soonest_97, gM_soonest_98, gM_soonest_101, gM_soonest_104, gM_soonest_105, gM_soonest_107, gM_soonest_110, gM_soonest_113, gM_soonest_114, gM_soonest_116, gM_soonest_117, gM_soonest_120, gM_soonest_121, gM_soonest_124, gM_soonest_125, gM_soonest_128, gM_soonest_129, gM_soonest_132, gM_soonest_133, gM_soonest_136, gM_soonest_138, gM_soonest_139, gM_soonest_142, gM_soonest_145, gM_soonest_147, ↓reduceIte, Bool.false_eq_true, Bool.true_eq_false, qk_i, qk_r, qk_n, Option.toList_some, Option.toList_none, List.cons_append, List.nil_append, true_and, and_true, true_or, or_true, eq_self, if_true, if_false, q_b1, q_b2, c_A, c_R, c_O, c_M, c_H1, c_H8, c_H15, hv.1, h1, x_M_has, has_nI hml (show j < 31 by omega), hb, q_z0, nI_1, n1z', ↓reduceIte, if_true, if_false, eq_self, not_true, not_false_eq_true, not_true_eq_false, Bool.true_eq_false, Bool.false_eq_true, Bool.not_false, Bool.not_true, Bool.and_true, Bool.and_false, Bool.true_and, Bool.false_and]
      exact ih1
    · have hbs := mayN_dis g.hlt h10 j hb
      have hl := or_ltn hh (Nat.pow_lt_pow_right (a := 2) (n := n) (by omega) (show j < n by omega))
      have hX := hf _ hl
      have hr := rs_inf (H := H) (W := W) (im := false) h10 (show h ||| 2 ^ j < 1024 by omega)
      have hc2 := (ck_le (im := false) g (show j < n by omega) g.hlt).2
      have te := i_eq (x := rs H n W false (h ||| 2 ^ j) + ck H false h j) (y := rs H n W false h) (by omega) (by omega)
      have ld : nI j = ldI j := by
        unfold ldI
        rw [if_neg (by omega)]
      simp only [gM_soonest_0, gM_soonest_1, gM_soonest_2, gM_soonest_5, gM_soonest_8, gM_soonest_9, gM_soonest_10, gM_soonest_13, gM_soonest_14, gM_soonest_15, gM_soonest_16, gM_soonest_17, gM_soonest_20, gM_soonest_23, gM_soonest_24, gM_soonest_26, gM_soonest_29, gM_soonest_30, gM_soonest_31, gM_soonest_32, gM_soonest_33, gM_soonest_36, gM_soonest_37, gM_soonest_40, gM_soonest_41, gM_soonest_44, gM_soonest_45, gM_soonest_47, gM_soonest_50, gM_soonest_52, gM_soonest_53, gM_soonest_54, gM_soonest_57, gM_soonest_58, gM_soonest_61, gM_soonest_62, gM_soonest_65, gM_soonest_66, gM_soonest_67, gM_soonest_68, gM_soonest_71, gM_soonest_72, gM_soonest_75, gM_soonest_76, gM_soonest_79, gM_soonest_80, gM_soonest_83, gM_soonest_84, gM_soonest_85, gM_soonest_88, gM_soonest_91, gM_soonest_92, gM_soonest_93, gM_soonest_97, gM_soonest_98, gM_soonest_101, gM_soonest_104, gM_soonest_105, gM_soonest_107, gM_soonest_110, gM_soonest_113, gM_soonest_114, gM_soonest_116, gM_soonest_117, gM_soonest_120, gM_soonest_121, gM_soonest_124, gM_soonest_125, gM_soonest_128, gM_soonest_129, gM_soonest_132, gM_soonest_133, gM_soonest_136, gM_soonest_138, gM_soonest_139, gM_soonest_142, gM_soonest_145, gM_soonest_147, ↓reduceIte, Bool.false_eq_true, Bool.true_eq_false, qk_i, qk_r, qk_n, Option.toList_some, Option.toList_none, List.cons_append, List.nil_append, true_and, and_true, true_or, or_true, eq_self, if_true, if_false, q_b1, q_b2, c_A, c_R, c_O, c_M, c_H1, c_H8, c_H15, hv.1, h1, x_M_has, has_nI hml (show j < 31 by omega), hb, q_z0, nI_1, hv.2.2.1, n1z', ↓reduceIte, if_true, if_false, eq_self, not_true, not_false_eq_true, not_true_eq_false, Bool.true_eq_false, Bool.false_eq_true, Bool.not_false, Bool.not_true, Bool.and_true, Bool.and_false, Bool.true_and, Bool.false_and]
      rw [e0, y_M_restBy (im := false) g r (show j < n by omega) g.hlt hX]
      simp only [gM_soonest_0, gM_soonest_1, gM_soonest_2, gM_soonest_5, gM_soonest_8, gM_soonest_9, gM_soonest_10, gM_soonest_13, gM_soonest_14, gM_soonest_15, gM_soonest_16, gM_soonest_17, gM_soonest_20, gM_soonest_23, gM_soonest_24, gM_soonest_26, gM_soonest_29, gM_soonest_30, gM_soonest_31, gM_soonest_32, gM_soonest_33, gM_soonest_36, gM_soonest_37, gM_soonest_40, gM_soonest_41, gM_soonest_44, gM_soonest_45, gM_soonest_47, gM_soonest_50, gM_soonest_52, gM_soonest_53, gM_soonest_54, gM_soonest_57, gM_soonest_58, gM_soonest_61, gM_soonest_62, gM_soonest_65, gM_soonest_66, gM_soonest_67, gM_soonest_68, gM_soonest_71, gM_soonest_72, gM_soonest_75, gM_soonest_76, gM_soonest_79, gM_soonest_80, gM_soonest_83, gM_soonest_84, gM_soonest_85, gM_soonest_88, gM_soonest_91, gM_soonest_92, gM_soonest_93, gM_soonest_97, gM_soonest_98, gM_soonest_101, gM_soonest_104, gM_soonest_105, gM_soonest_107, gM_soonest_110, gM_soonest_113, gM_soonest_114, gM_soonest_116, gM_soonest_117, gM_soonest_120, gM_soonest_121, gM_soonest_124, gM_soonest_125, gM_soonest_128, gM_soonest_129, gM_soonest_132, gM_soonest_133, gM_soonest_136, gM_soonest_138, gM_soonest_139, gM_soonest_142, gM_soonest_145, gM_soonest_147, ↓reduceIte, Bool.false_eq_true, Bool.true_eq_false, qk_i, qk_r, qk_n, Option.toList_some, Option.toList_none, List.cons_append, List.nil_append, true_and, and_true, true_or, or_true, eq_self, if_true, if_false, q_b1, q_b2, c_A, c_R, c_O, c_M, c_H1, c_H8, c_H15, hv.2.2.1, rf_M21, aD_43, hin, ch, hf h hh, te, nI_1]
      by_cases c : rs H n W false (h ||| 2 ^ j) + ck H false h j = rs H n W false h
      · have hc : so_c H n h W false j = true := by
          unfold so_c
          rw [hb, decide_eq_true c]
          rfl
        rw [hc, if_pos rfl]
        simp only [c, n1z', ↓reduceIte, if_true, if_false, eq_self, not_true, not_false_eq_true, not_true_eq_false, Bool.true_eq_false, Bool.false_eq_true, Bool.not_false, Bool.not_true, Bool.and_true, Bool.and_false, Bool.true_and, Bool.false_and]
        rw [ld]
      · have hc : so_c H n h W false j = false := by
          unfold so_c
          rw [hb, decide_eq_false c]
          rfl
        rw [hc, if_neg (show ¬ false = true by decide)]
        simp only [c, n1z', ↓reduceIte, if_true, if_false, eq_self, not_true, not_false_eq_true, not_true_eq_false, Bool.true_eq_false, Bool.false_eq_true, Bool.not_false, Bool.not_true, Bool.and_true, Bool.and_false, Bool.true_and, Bool.false_and]
        exact ih1
theorem l_M_soon0 {bb : Int32} (g : gH H n h) (r : RM M H) : ∀ k j, j + k = n →
    q_g 146 none Q 95 [some (.ref 30), some (.int (nI W)), some (.int bb), some (.int 0), some (.int (nI j))] [] M = Q (some (.int (-9))) M := by
  have h10 := g.1
  have hv := g.vm r
  intro k
  induction k with
  | zero =>
    intro j hj
    have : j = n := by omega
    subst this
    rw [gM_soonest_95]
    simp only [gM_soonest_0, gM_soonest_1, gM_soonest_2, gM_soonest_5, gM_soonest_8, gM_soonest_9, gM_soonest_10, gM_soonest_13, gM_soonest_14, gM_soonest_15, gM_soonest_16, gM_soonest_17, gM_soonest_20, gM_soonest_23, gM_soonest_24, gM_soonest_26, gM_soonest_29, gM_soonest_30, gM_soonest_31, gM_soonest_32, gM_soonest_33, gM_soonest_36, gM_soonest_37, gM_soonest_40, gM_soonest_41, gM_soonest_44, gM_soonest_45, gM_soonest_47, gM_soonest_50, gM_soonest_52, gM_soonest_53, gM_soonest_54, gM_soonest_57, gM_soonest_58, gM_soonest_61, gM_soonest_62, gM_soonest_65, gM_soonest_66, gM_soonest_67, gM_soonest_68, gM_soonest_71, gM_soonest_72, gM_soonest_75, gM_soonest_76, gM_soonest_79, gM_soonest_80, gM_soonest_83, gM_soonest_84, gM_soonest_85, gM_soonest_88, gM_soonest_91, gM_soonest_92, gM_soonest_93, gM_soonest_97, gM_soonest_98, gM_soonest_101, gM_soonest_104, gM_soonest_105, gM_soonest_107, gM_soonest_110, gM_soonest_113, gM_soonest_114, gM_soonest_116, gM_soonest_117, gM_soonest_120, gM_soonest_121, gM_soonest_124, gM_soonest_125, gM_soonest_128, gM_soonest_129, gM_soonest_132, gM_soonest_133, gM_soonest_136, gM_soonest_138, gM_soonest_139, gM_soonest_142, gM_soonest_145, gM_soonest_147, ↓reduceIte, Bool.false_eq_true, Bool.true_eq_false, qk_i, qk_r, qk_n, Option.toList_some, Option.toList_none, List.cons_append, List.nil_append, true_and, and_true, true_or, or_true, eq_self, if_true, if_false, q_b1, q_b2, c_A, c_R, c_O, c_M, c_H1, c_H8, c_H15, hv.1, Int32.le_refl]
  | succ k ih =>
    intro j hj
    have h1 : ¬ nI n ≤ nI j := nI_ge (by omega) (by omega)
    have e0 : b_has 0 (nI j) = false := by
      rw [← nI_0, has_nI (by omega) (by omega), Nat.zero_testBit]
    rw [gM_soonest_95]
    simp only [gM_soonest_0, gM_soonest_1, gM_soonest_2, gM_soonest_5, gM_soonest_8, gM_soonest_9, gM_soonest_10, gM_soonest_13, gM_soonest_14, gM_soonest_15, gM_soonest_16, gM_soonest_17, gM_soonest_20, gM_soonest_23, gM_soonest_24, gM_soonest_26, gM_soonest_29, gM_soonest_30, gM_soonest_31, gM_soonest_32, gM_soonest_33, gM_soonest_36, gM_soonest_37, gM_soonest_40, gM_soonest_41, gM_soonest_44, gM_soonest_45, gM_soonest_47, gM_soonest_50, gM_soonest_52, gM_soonest_53, gM_soonest_54, gM_soonest_57, gM_soonest_58, gM_soonest_61, gM_soonest_62, gM_soonest_65, gM_soonest_66, gM_soonest_67, gM_soonest_68, gM_soonest_71, gM_soonest_72, gM_soonest_75, gM_soonest_76, gM_soonest_79, gM_soonest_80, gM_soonest_83, gM_soonest_84, gM_soonest_85, gM_soonest_88, gM_soonest_91, gM_soonest_92, gM_soonest_93, gM_soonest_97, gM_soonest_98, gM_soonest_101, gM_soonest_104, gM_soonest_105, gM_soonest_107, gM_soonest_110, gM_soonest_113, gM_soonest_114, gM_soonest_116, gM_soonest_117, gM_soonest_120, gM_soonest_121, gM_soonest_124, gM_soonest_125, gM_soonest_128, gM_soonest_129, gM_soonest_132, gM_soonest_133, gM_soonest_136, gM_soonest_138, gM_soonest_139, gM_soonest_142, gM_soonest_145, gM_soonest_147, ↓reduceIte, Bool.false_eq_true, Bool.true_eq_false, qk_i, qk_r, qk_n, Option.toList_some, Option.toList_none, List.cons_append, List.nil_append, true_and, and_true, true_or, or_true, eq_self, if_true, if_false, q_b1, q_b2, c_A, c_R, c_O, c_M, c_H1, c_H8, c_H15, hv.1, h1, x_M_has, e0, q_z0, nI_1, n1z', ↓reduceIte, if_true, if_false, eq_self, not_true, not_false_eq_true, not_true_eq_false, Bool.true_eq_false, Bool.false_eq_true, Bool.not_false, Bool.not_true, Bool.and_true, Bool.and_false, Bool.true_and, Bool.false_and]
    exact ih (j + 1) (by omega)
theorem y_M_soonest (g : gH H n h) (r : RM M H) (hQ : ∀ M', eqx Sm M M' → Q (some (.int (an_soon H n h a b))) M') : q_Run 146 [.ref 30, .int a, .int b] M Q := by
  have h10 := g.1
  have h2 := two_pow_le h10
  have hh := g.2.2.2.1
  have hin : q_in (nI h) 1024 = true := q_in_nI g.hlt (by omega)
  have ch : (nI h).toNatClampNeg = h := nI_clamp (by have := g.hlt; omega)
  have hoI : oI = 100000000 := rfl
  unfold an_soon at hQ
  rw [noPart_in] at hQ
  rw [e_M_soonest]
  simp only [gM_soonest_0, gM_soonest_1, gM_soonest_2, gM_soonest_5, gM_soonest_8, gM_soonest_9, gM_soonest_10, gM_soonest_13, gM_soonest_14, gM_soonest_15, gM_soonest_16, gM_soonest_17, gM_soonest_20, gM_soonest_23, gM_soonest_24, gM_soonest_26, gM_soonest_29, gM_soonest_31, gM_soonest_32, gM_soonest_33, gM_soonest_36, gM_soonest_37, gM_soonest_40, gM_soonest_41, gM_soonest_44, gM_soonest_45, gM_soonest_47, gM_soonest_50, gM_soonest_52, gM_soonest_53, gM_soonest_54, gM_soonest_57, gM_soonest_58, gM_soonest_61, gM_soonest_62, gM_soonest_65, gM_soonest_66, gM_soonest_67, gM_soonest_68, gM_soonest_71, gM_soonest_72, gM_soonest_75, gM_soonest_76, gM_soonest_79, gM_soonest_80, gM_soonest_83, gM_soonest_84, gM_soonest_85, gM_soonest_88, gM_soonest_91, gM_soonest_92, gM_soonest_93, gM_soonest_95, gM_soonest_97, gM_soonest_98, gM_soonest_101, gM_soonest_104, gM_soonest_105, gM_soonest_107, gM_soonest_110, gM_soonest_113, gM_soonest_114, gM_soonest_116, gM_soonest_117, gM_soonest_120, gM_soonest_121, gM_soonest_124, gM_soonest_125, gM_soonest_128, gM_soonest_129, gM_soonest_132, gM_soonest_133, gM_soonest_136, gM_soonest_138, gM_soonest_139, gM_soonest_142, gM_soonest_145, gM_soonest_147, ↓reduceIte, Bool.false_eq_true, Bool.true_eq_false, qk_i, qk_r, qk_n, Option.toList_some, Option.toList_none, List.cons_append, List.nil_append, true_and, and_true, true_or, or_true, eq_self, if_true, if_false, q_b1, q_b2, c_A, c_R, c_O, c_M, c_H1, c_H8, c_H15, x_M_areThings, x_M_isIn, q_z0, x_M_no no_1, x_M_no no_2]
  rw [r.set g]
  cases hs : b_isSet H 0 a
  · rw [hs, if_neg (by decide)] at hQ
    simp only [n1z', ↓reduceIte, if_true, if_false, eq_self, not_true, not_false_eq_true, not_true_eq_false, Bool.true_eq_false, Bool.false_eq_true, Bool.not_false, Bool.not_true, Bool.and_true, Bool.and_false, Bool.true_and, Bool.false_and]
    exact hQ _ eqm_no
  · obtain ⟨W, hW, rfl⟩ := set_N g hs
    have hr0 := rs_inf (H := H) (W := W) (im := false) h10 g.hlt
    rw [hs, if_pos rfl, nI_clamp (by omega)] at hQ
    cases hp : b_in b 0 1
    · rw [hp, if_pos (by decide)] at hQ
      simp only [n1z', ↓reduceIte, if_true, if_false, eq_self, not_true, not_false_eq_true, not_true_eq_false, Bool.true_eq_false, Bool.false_eq_true, Bool.not_false, Bool.not_true, Bool.and_true, Bool.and_false, Bool.true_and, Bool.false_and]
      exact hQ _ eqm_no
    · rw [hp, if_neg (by decide)] at hQ
      simp only [n1z', ↓reduceIte, if_true, if_false, eq_self, not_true, not_false_eq_true, not_true_eq_false, Bool.true_eq_false, Bool.false_eq_true, Bool.not_false, Bool.not_true, Bool.and_true, Bool.and_false, Bool.true_and, Bool.false_and, gM_soonest_0, gM_soonest_1, gM_soonest_2, gM_soonest_5, gM_soonest_8, gM_soonest_9, gM_soonest_10, gM_soonest_13, gM_soonest_14, gM_soonest_15, gM_soonest_16, gM_soonest_17, gM_soonest_20, gM_soonest_23, gM_soonest_24, gM_soonest_26, gM_soonest_29, gM_soonest_30, gM_soonest_31, gM_soonest_32, gM_soonest_33, gM_soonest_36, gM_soonest_37, gM_soonest_40, gM_soonest_41, gM_soonest_44, gM_soonest_45, gM_soonest_47, gM_soonest_50, gM_soonest_52, gM_soonest_53, gM_soonest_54, gM_soonest_57, gM_soonest_58, gM_soonest_61, gM_soonest_62, gM_soonest_65, gM_soonest_66, gM_soonest_67, gM_soonest_68, gM_soonest_71, gM_soonest_72, gM_soonest_75, gM_soonest_76, gM_soonest_79, gM_soonest_80, gM_soonest_83, gM_soonest_84, gM_soonest_85, gM_soonest_88, gM_soonest_91, gM_soonest_92, gM_soonest_93, gM_soonest_97, gM_soonest_98, gM_soonest_101, gM_soonest_104, gM_soonest_105, gM_soonest_107, gM_soonest_110, gM_soonest_113, gM_soonest_114, gM_soonest_116, gM_soonest_117, gM_soonest_120, gM_soonest_121, gM_soonest_124, gM_soonest_125, gM_soonest_128, gM_soonest_129, gM_soonest_132, gM_soonest_133, gM_soonest_136, gM_soonest_138, gM_soonest_139, gM_soonest_142, gM_soonest_145, gM_soonest_147, ↓reduceIte, Bool.false_eq_true, Bool.true_eq_false, qk_i, qk_r, qk_n, Option.toList_some, Option.toList_none, List.cons_append, List.nil_append, true_and, and_true, true_or, or_true, eq_self, if_true, if_false, q_b1, q_b2, c_A, c_R, c_O, c_M, c_H1, c_H8, c_H15]
      refine m_findRest (W := W) (im := false) g r (by omega) fun M' hM' hf => ?_
      have r' := r.f hM'
      have tF : (nI (rs H n W false h) < 100000000) = (rs H n W false h < 100000000) := i_lt (y := 100000000) (by omega) (by omega)
      have tz : (nI (rs H n W false h) = 0) = (rs H n W false h = 0) := i_eq (y := 0) (by omega) (by omega)
      simp only [gM_soonest_0, gM_soonest_1, gM_soonest_2, gM_soonest_5, gM_soonest_8, gM_soonest_9, gM_soonest_10, gM_soonest_13, gM_soonest_14, gM_soonest_15, gM_soonest_16, gM_soonest_17, gM_soonest_20, gM_soonest_23, gM_soonest_24, gM_soonest_26, gM_soonest_29, gM_soonest_30, gM_soonest_31, gM_soonest_32, gM_soonest_33, gM_soonest_36, gM_soonest_37, gM_soonest_40, gM_soonest_41, gM_soonest_44, gM_soonest_45, gM_soonest_47, gM_soonest_50, gM_soonest_52, gM_soonest_53, gM_soonest_54, gM_soonest_57, gM_soonest_58, gM_soonest_61, gM_soonest_62, gM_soonest_65, gM_soonest_66, gM_soonest_67, gM_soonest_68, gM_soonest_71, gM_soonest_72, gM_soonest_75, gM_soonest_76, gM_soonest_79, gM_soonest_80, gM_soonest_83, gM_soonest_84, gM_soonest_85, gM_soonest_88, gM_soonest_91, gM_soonest_92, gM_soonest_93, gM_soonest_97, gM_soonest_98, gM_soonest_101, gM_soonest_104, gM_soonest_105, gM_soonest_107, gM_soonest_110, gM_soonest_113, gM_soonest_114, gM_soonest_116, gM_soonest_117, gM_soonest_120, gM_soonest_121, gM_soonest_124, gM_soonest_125, gM_soonest_128, gM_soonest_129, gM_soonest_132, gM_soonest_133, gM_soonest_136, gM_soonest_138, gM_soonest_139, gM_soonest_142, gM_soonest_145, gM_soonest_147, ↓reduceIte, Bool.false_eq_true, Bool.true_eq_false, qk_i, qk_r, qk_n, Option.toList_some, Option.toList_none, List.cons_append, List.nil_append, true_and, and_true, true_or, or_true, eq_self, if_true, if_false, q_b1, q_b2, c_A, c_R, c_O, c_M, c_H1, c_H8, c_H15, rf_M21, aD_43, (g.vm r').2.2.1, hin, ch, hf h hh, tF, tz]
      by_cases hD : rs H n W false h < 100000000
      · rw [if_neg (by omega)] at hQ
        simp only [hD, n1z', ↓reduceIte, if_true, if_false, eq_self, not_true, not_false_eq_true, not_true_eq_false, Bool.true_eq_false, Bool.false_eq_true, Bool.not_false, Bool.not_true, Bool.and_true, Bool.and_false, Bool.true_and, Bool.false_and]
        by_cases hb : b = 0
        · rw [if_pos hb] at hQ
          simp only [hb, n1z', ↓reduceIte, if_true, if_false, eq_self, not_true, not_false_eq_true, not_true_eq_false, Bool.true_eq_false, Bool.false_eq_true, Bool.not_false, Bool.not_true, Bool.and_true, Bool.and_false, Bool.true_and, Bool.false_and]
          exact hQ _ (hM'.up SfSm)
        · rw [if_neg hb] at hQ
          simp only [hb, n1z', ↓reduceIte, if_true, if_false, eq_self, not_true, not_false_eq_true, not_true_eq_false, Bool.true_eq_false, Bool.false_eq_true, Bool.not_false, Bool.not_true, Bool.and_true, Bool.and_false, Bool.true_and, Bool.false_and]
          unfold so_f at hQ
          by_cases hz : rs H n W false h = 0
          · rw [if_pos hz] at hQ
            simp only [hz, n1z', ↓reduceIte, if_true, if_false, eq_self, not_true, not_false_eq_true, not_true_eq_false, Bool.true_eq_false, Bool.false_eq_true, Bool.not_false, Bool.not_true, Bool.and_true, Bool.and_false, Bool.true_and, Bool.false_and, gM_soonest_0, gM_soonest_1, gM_soonest_2, gM_soonest_5, gM_soonest_8, gM_soonest_9, gM_soonest_10, gM_soonest_13, gM_soonest_14, gM_soonest_15, gM_soonest_16, gM_soonest_17, gM_soonest_20, gM_soonest_23, gM_soonest_24, gM_soonest_26, gM_soonest_29, gM_soonest_30, gM_soonest_31, gM_soonest_32, gM_soonest_33, gM_soonest_36, gM_soonest_37, gM_soonest_40, gM_soonest_41, gM_soonest_44, gM_soonest_45, gM_soonest_47, gM_soonest_50, gM_soonest_52, gM_soonest_53, gM_soonest_54, gM_soonest_57, gM_soonest_58, gM_soonest_61, gM_soonest_62, gM_soonest_65, gM_soonest_66, gM_soonest_67, gM_soonest_68, gM_soonest_71, gM_soonest_72, gM_soonest_75, gM_soonest_76, gM_soonest_79, gM_soonest_80, gM_soonest_83, gM_soonest_84, gM_soonest_85, gM_soonest_88, gM_soonest_91, gM_soonest_92, gM_soonest_93, gM_soonest_97, gM_soonest_98, gM_soonest_101, gM_soonest_104, gM_soonest_105, gM_soonest_107, gM_soonest_110, gM_soonest_113, gM_soonest_114, gM_soonest_116, gM_soonest_117, gM_soonest_120, gM_soonest_121, gM_soonest_124, gM_soonest_125, gM_soonest_128, gM_soonest_129, gM_soonest_132, gM_soonest_133, gM_soonest_136, gM_soonest_138, gM_soonest_139, gM_soonest_142, gM_soonest_145, gM_soonest_147, ↓reduceIte, Bool.false_eq_true, Bool.true_eq_false, qk_i, qk_r, qk_n, Option.toList_some, Option.toList_none, List.cons_append, List.nil_append, true_and, and_true, true_or, or_true, eq_self, if_true, if_false, q_b1, q_b2, c_A, c_R, c_O, c_M, c_H1, c_H8, c_H15]
            exact Eq.mpr (l_M_soon0 g r' n 0 (by omega)) (hQ _ (hM'.up SfSm))
          · rw [if_neg hz] at hQ
            simp only [hz, n1z', ↓reduceIte, if_true, if_false, eq_self, not_true, not_false_eq_true, not_true_eq_false, Bool.true_eq_false, Bool.false_eq_true, Bool.not_false, Bool.not_true, Bool.and_true, Bool.and_false, Bool.true_and, Bool.false_and, x_M_mayBy g r' g.hlt, gM_soonest_0, gM_soonest_1, gM_soonest_2, gM_soonest_5, gM_soonest_8, gM_soonest_9, gM_soonest_10, gM_soonest_13, gM_soonest_14, gM_soonest_15, gM_soonest_16, gM_soonest_17, gM_soonest_20, gM_soonest_23, gM_soonest_24, gM_soonest_26, gM_soonest_29, gM_soonest_30, gM_soonest_31, gM_soonest_32, gM_soonest_33, gM_soonest_36, gM_soonest_37, gM_soonest_40, gM_soonest_41, gM_soonest_44, gM_soonest_45, gM_soonest_47, gM_soonest_50, gM_soonest_52, gM_soonest_53, gM_soonest_54, gM_soonest_57, gM_soonest_58, gM_soonest_61, gM_soonest_62, gM_soonest_65, gM_soonest_66, gM_soonest_67, gM_soonest_68, gM_soonest_71, gM_soonest_72, gM_soonest_75, gM_soonest_76, gM_soonest_79, gM_soonest_80, gM_soonest_83, gM_soonest_84, gM_soonest_85, gM_soonest_88, gM_soonest_91, gM_soonest_92, gM_soonest_93, gM_soonest_97, gM_soonest_98, gM_soonest_101, gM_soonest_104, gM_soonest_105, gM_soonest_107, gM_soonest_110, gM_soonest_113, gM_soonest_114, gM_soonest_116, gM_soonest_117, gM_soonest_120, gM_soonest_121, gM_soonest_124, gM_soonest_125, gM_soonest_128, gM_soonest_129, gM_soonest_132, gM_soonest_133, gM_soonest_136, gM_soonest_138, gM_soonest_139, gM_soonest_142, gM_soonest_145, gM_soonest_147, ↓reduceIte, Bool.false_eq_true, Bool.true_eq_false, qk_i, qk_r, qk_n, Option.toList_some, Option.toList_none, List.cons_append, List.nil_append, true_and, and_true, true_or, or_true, eq_self, if_true, if_false, q_b1, q_b2, c_A, c_R, c_O, c_M, c_H1, c_H8, c_H15]
            exact Eq.mpr (l_M_soon g r' hf n 0 (by omega)) (hQ _ (hM'.up SfSm))
      · rw [if_pos (by omega)] at hQ
        simp only [hD, n1z', ↓reduceIte, if_true, if_false, eq_self, not_true, not_false_eq_true, not_true_eq_false, Bool.true_eq_false, Bool.false_eq_true, Bool.not_false, Bool.not_true, Bool.and_true, Bool.and_false, Bool.true_and, Bool.false_and]
        exact hQ _ (hM'.up SfSm)
end REST
