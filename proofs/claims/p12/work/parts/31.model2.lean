/-! the reference: its methods that only ask; what they leave alone -/
def Sm (c : Nat) : Bool := decide (c = 31) || (decide (43 ≤ c) && decide (c ≤ 45))
def Sf (c : Nat) : Bool := decide (43 ≤ c) && decide (c ≤ 45)
theorem SfSm : ∀ c, Sm c = false → Sf c = false := fun c h => ((Bool.or_eq_false_iff).mp h).2
theorem eqm_no {M : q_M} {w : Int32} : eqx Sm M (s_no M w) := by
  unfold s_no
  exact eqx.rf.qput (by decide)
theorem v_m.q {M M' : q_M} {n h : Nat} (v : v_m M n h) (e : eqx Sf M M') : v_m M' n h := v.of (by rw [e 30 (by decide)]) (by rw [e 30 (by decide)]) (e 34 (by decide))
theorem dec_nI (s : Nat) : nI (s + 1) + (-1) = nI s := by
  have h : nI (s + 1) = nI s + 1 := (nI_1 s).symm
  rw [h, Int32.add_assoc]
  have : (1 : Int32) + (-1) = 0 := by decide
  rw [this, Int32.add_zero]
theorem lrem_abs {x y : Int64} (hy : ¬ y = 0) : (x - x / y * y).toInt.natAbs < y.toInt.natAbs := by
  rw [Jvm.Kit.i64_rem, Int.natAbs_tmod]
  refine Nat.mod_lt _ ?_
  have : ¬ y.toInt = 0 := fun q => hy (Int64.toInt_inj.mp (by rw [q]; rfl))
  omega
theorem lcmp_0 {z : Int64} : (lg_cmp z 0 = 0) = (z = 0) := by
  apply propext
  unfold lg_cmp
  constructor
  · intro h
    split at h
    · exact absurd h (by decide)
    · split at h
      · assumption
      · exact absurd h (by decide)
  · intro h
    subst h
    decide
theorem w_M_divisor_l {Q : q_R} {M : q_M} {a0 a2 : Int64} (hQ : ∀ v : Int64, ¬ v = 0 → Q (some (.long v)) M) : ∀ (k : Nat) (x z : Int64) (o8 o9 : Option Value), z.toInt.natAbs < k → (z = 0 → ¬ x = 0) →
    q_g 102 none Q 6 [some (.long a0), none, some (.long a2), none, some (.long x), none, some (.long z), none, o8, o9] [] M := by
  intro k
  induction k with
  | zero => intro x z o8 o9 h; omega
  | succ k ih =>
    intro x z o8 o9 h hx
    rw [gM_divisor_6]
    simp only [gM_divisor_0, gM_divisor_1, gM_divisor_3, gM_divisor_4, gM_divisor_8, gM_divisor_9, gM_divisor_10, gM_divisor_13, gM_divisor_15, gM_divisor_17, gM_divisor_18, gM_divisor_20, gM_divisor_22, gM_divisor_24, gM_divisor_26, gM_divisor_28, gM_divisor_31, gM_divisor_33, ↓reduceIte, Bool.false_eq_true, Bool.true_eq_false, qk_i, qk_r, qk_n, Option.toList_some, Option.toList_none, List.cons_append, List.nil_append, true_and, and_true, true_or, or_true, eq_self, if_true, if_false, q_b1, q_b2, c_A, c_R, c_O, c_M, c_H1, c_H8, c_H15, lcmp_0]
    by_cases hz : z = 0
    · rw [if_pos hz]
      exact hQ _ (hx hz)
    · rw [if_neg hz]
      refine ⟨hz, ih _ _ _ _ ?_ (fun _ => hz)⟩
      have := lrem_abs (x := x) hz
      omega
theorem w_M_divisor {Q : q_R} {M : q_M} {a b : Int64} (hb : ¬ b = 0) (hQ : ∀ v : Int64, ¬ v = 0 → Q (some (.long v)) M) : q_Run 102 [.long a, .long b] M Q := by
  rw [e_M_divisor]
  simp only [gM_divisor_0, gM_divisor_1, gM_divisor_3, gM_divisor_4, gM_divisor_8, gM_divisor_9, gM_divisor_10, gM_divisor_13, gM_divisor_15, gM_divisor_17, gM_divisor_18, gM_divisor_20, gM_divisor_22, gM_divisor_24, gM_divisor_26, gM_divisor_28, gM_divisor_31, gM_divisor_33, ↓reduceIte, Bool.false_eq_true, Bool.true_eq_false, qk_i, qk_r, qk_n, Option.toList_some, Option.toList_none, List.cons_append, List.nil_append, true_and, and_true, true_or, or_true, eq_self, if_true, if_false, q_b1, q_b2, c_A, c_R, c_O, c_M, c_H1, c_H8, c_H15]
  exact w_M_divisor_l hQ (b.toInt.natAbs + 1) _ _ _ _ (by omega) (fun q => absurd q hb)
theorem w_M_partOf {Q : q_R} {M : q_M} {a b : Int64} {p : Int32} (hb : ¬ b = 0) (hQ : ∀ v : Int64, Q (some (.long v)) M) : q_Run 133 [.long a, .long b, .int p] M Q := by
  have e : ∀ x : Int64, q_g 133 none Q 10 [some (.long a), none, some (.long b), none, some (.int p)] [.long x] M := by
    intro x
    simp only [gM_partOf_0, gM_partOf_2, gM_partOf_5, gM_partOf_6, gM_partOf_9, gM_partOf_10, gM_partOf_11, gM_partOf_12, gM_partOf_15, gM_partOf_16, ↓reduceIte, Bool.false_eq_true, Bool.true_eq_false, qk_i, qk_r, qk_n, Option.toList_some, Option.toList_none, List.cons_append, List.nil_append, true_and, and_true, true_or, or_true, eq_self, if_true, if_false, q_b1, q_b2, c_A, c_R, c_O, c_M, c_H1, c_H8, c_H15]
    refine w_M_divisor hb fun v hv => ?_
    simp only [gM_partOf_0, gM_partOf_2, gM_partOf_5, gM_partOf_6, gM_partOf_9, gM_partOf_10, gM_partOf_11, gM_partOf_12, gM_partOf_15, gM_partOf_16, ↓reduceIte, Bool.false_eq_true, Bool.true_eq_false, qk_i, qk_r, qk_n, Option.toList_some, Option.toList_none, List.cons_append, List.nil_append, true_and, and_true, true_or, or_true, eq_self, if_true, if_false, q_b1, q_b2, c_A, c_R, c_O, c_M, c_H1, c_H8, c_H15]
    exact ⟨hv, hQ _⟩
  rw [e_M_partOf]
  simp only [gM_partOf_0, gM_partOf_2, gM_partOf_5, gM_partOf_6, gM_partOf_9, gM_partOf_11, gM_partOf_12, gM_partOf_15, gM_partOf_16, ↓reduceIte, Bool.false_eq_true, Bool.true_eq_false, qk_i, qk_r, qk_n, Option.toList_some, Option.toList_none, List.cons_append, List.nil_append, true_and, and_true, true_or, or_true, eq_self, if_true, if_false, q_b1, q_b2, c_A, c_R, c_O, c_M, c_H1, c_H8, c_H15]
  split <;> exact e _
theorem w_M_restBy {Q : q_R} {M : q_M} {n h j s : Nat} {im : Int32} (hv : v_m M n h) (hj : j < n) (hs : s < 1024) (hQ : ∀ x : Int32, Q (some (.int x)) M) : q_Run 141 [.ref 30, .int (nI j), .int (nI s), .int im] M Q := by
  have h10 := hv.2.1
  have hin : q_in (nI j) 10 = true := q_in_nI (by omega) (by omega)
  have hlt : s ||| 2 ^ j < 1024 := Nat.or_lt_two_pow (n := 10) hs (Nat.pow_lt_pow_right (by omega) (by omega))
  have e1 : nI s ||| ((1 : Int32) <<< (nI j &&& 31)) = nI (s ||| 2 ^ j) := by rw [sh1_nI j (by omega), or_nI]
  have hin2 : q_in (nI (s ||| 2 ^ j)) 1024 = true := q_in_nI hlt (by omega)
  have ec : (nI j).toNatClampNeg = j := nI_clamp (by omega)
  rw [e_M_restBy]
  simp only [gM_restBy_0, gM_restBy_1, gM_restBy_4, gM_restBy_5, gM_restBy_6, gM_restBy_7, gM_restBy_8, gM_restBy_9, gM_restBy_10, gM_restBy_11, gM_restBy_14, gM_restBy_15, gM_restBy_16, gM_restBy_17, gM_restBy_20, gM_restBy_22, gM_restBy_23, gM_restBy_26, gM_restBy_27, gM_restBy_28, gM_restBy_31, gM_restBy_32, gM_restBy_33, gM_restBy_34, gM_restBy_37, gM_restBy_38, gM_restBy_39, gM_restBy_40, gM_restBy_43, gM_restBy_44, ↓reduceIte, Bool.false_eq_true, Bool.true_eq_false, qk_i, qk_r, qk_n, Option.toList_some, Option.toList_none, List.cons_append, List.nil_append, true_and, and_true, true_or, or_true, eq_self, if_true, if_false, q_b1, q_b2, c_A, c_R, c_O, c_M, c_H1, c_H8, c_H15, rf_M21, aD_43, e1, hin2]
  split
  · refine w_M_goOf (by omega) fun x => ?_
    simp only [gM_restBy_0, gM_restBy_1, gM_restBy_4, gM_restBy_5, gM_restBy_6, gM_restBy_7, gM_restBy_8, gM_restBy_9, gM_restBy_10, gM_restBy_11, gM_restBy_14, gM_restBy_15, gM_restBy_16, gM_restBy_17, gM_restBy_20, gM_restBy_22, gM_restBy_23, gM_restBy_26, gM_restBy_27, gM_restBy_28, gM_restBy_31, gM_restBy_32, gM_restBy_33, gM_restBy_34, gM_restBy_37, gM_restBy_38, gM_restBy_39, gM_restBy_40, gM_restBy_43, gM_restBy_44, ↓reduceIte, Bool.false_eq_true, Bool.true_eq_false, qk_i, qk_r, qk_n, Option.toList_some, Option.toList_none, List.cons_append, List.nil_append, true_and, and_true, true_or, or_true, eq_self, if_true, if_false, q_b1, q_b2, c_A, c_R, c_O, c_M, c_H1, c_H8, c_H15]
    exact hQ _
  · refine w_M_goOf (by omega) fun x => ?_
    simp only [gM_restBy_0, gM_restBy_1, gM_restBy_4, gM_restBy_5, gM_restBy_6, gM_restBy_7, gM_restBy_8, gM_restBy_9, gM_restBy_10, gM_restBy_11, gM_restBy_14, gM_restBy_15, gM_restBy_16, gM_restBy_17, gM_restBy_20, gM_restBy_22, gM_restBy_23, gM_restBy_26, gM_restBy_27, gM_restBy_28, gM_restBy_31, gM_restBy_32, gM_restBy_33, gM_restBy_34, gM_restBy_37, gM_restBy_38, gM_restBy_39, gM_restBy_40, gM_restBy_43, gM_restBy_44, ↓reduceIte, Bool.false_eq_true, Bool.true_eq_false, qk_i, qk_r, qk_n, Option.toList_some, Option.toList_none, List.cons_append, List.nil_append, true_and, and_true, true_or, or_true, eq_self, if_true, if_false, q_b1, q_b2, c_A, c_R, c_O, c_M, c_H1, c_H8, c_H15, rf_M3, aD_34, hin, ec]
    exact ⟨hv.2.2.2.2 j hj, hQ _⟩
theorem w_M_findRest_l2 {Q : q_R} {M0 : q_M} {n h s : Nat} {aim im mb : Int32} (hv : v_m M0 n h) (hs : s < 1024) (hQ : ∀ M (o5 : Int32) (o6 : Option Value), eqx Sf M0 M → q_g 105 none Q 109 [some (.ref 30), some (.int aim), some (.int im), some (.int (nI s)), some (.int mb), some (.int o5), o6] [] M) : ∀ k j, j + k = n → ∀ (M : q_M) (o6 : Option Value), eqx Sf M0 M →
    q_g 105 none Q 52 [some (.ref 30), some (.int aim), some (.int im), some (.int (nI s)), some (.int mb), some (.int (nI j)), o6] [] M := by
  have h10 := hv.2.1
  have hin : q_in (nI s) 1024 = true := q_in_nI hs (by omega)
  intro k
  induction k with
  | zero =>
    intro j hj M o6 hM
    have : j = n := by omega
    subst this
    rw [gM_findRest_52]
    simp only [gM_findRest_0, gM_findRest_1, gM_findRest_4, gM_findRest_5, gM_findRest_6, gM_findRest_9, gM_findRest_10, gM_findRest_13, gM_findRest_14, gM_findRest_15, gM_findRest_16, gM_findRest_17, gM_findRest_18, gM_findRest_19, gM_findRest_22, gM_findRest_23, gM_findRest_26, gM_findRest_28, gM_findRest_29, gM_findRest_30, gM_findRest_33, gM_findRest_34, gM_findRest_35, gM_findRest_38, gM_findRest_39, gM_findRest_42, gM_findRest_43, gM_findRest_44, gM_findRest_47, gM_findRest_49, gM_findRest_50, gM_findRest_54, gM_findRest_55, gM_findRest_58, gM_findRest_61, gM_findRest_63, gM_findRest_65, gM_findRest_68, gM_findRest_71, gM_findRest_74, gM_findRest_75, gM_findRest_77, gM_findRest_78, gM_findRest_79, gM_findRest_82, gM_findRest_84, gM_findRest_86, gM_findRest_87, gM_findRest_90, gM_findRest_91, gM_findRest_92, gM_findRest_95, gM_findRest_96, gM_findRest_99, gM_findRest_100, gM_findRest_102, gM_findRest_103, gM_findRest_106, gM_findRest_112, gM_findRest_115, ↓reduceIte, Bool.false_eq_true, Bool.true_eq_false, qk_i, qk_r, qk_n, Option.toList_some, Option.toList_none, List.cons_append, List.nil_append, true_and, and_true, true_or, or_true, eq_self, if_true, if_false, q_b1, q_b2, c_A, c_R, c_O, c_M, c_H1, c_H8, c_H15, (hv.q hM).1, Int32.le_refl]
    exact hQ _ _ _ hM
  | succ k ih =>
    intro j hj M o6 hM
    have h1 : ¬ nI n ≤ nI j := nI_ge (by omega) (by omega)
    rw [gM_findRest_52]
    simp only [gM_findRest_0, gM_findRest_1, gM_findRest_4, gM_findRest_5, gM_findRest_6, gM_findRest_9, gM_findRest_10, gM_findRest_13, gM_findRest_14, gM_findRest_15, gM_findRest_16, gM_findRest_17, gM_findRest_18, gM_findRest_19, gM_findRest_22, gM_findRest_23, gM_findRest_26, gM_findRest_28, gM_findRest_29, gM_findRest_30, gM_findRest_33, gM_findRest_34, gM_findRest_35, gM_findRest_38, gM_findRest_39, gM_findRest_42, gM_findRest_43, gM_findRest_44, gM_findRest_47, gM_findRest_49, gM_findRest_50, gM_findRest_54, gM_findRest_55, gM_findRest_58, gM_findRest_61, gM_findRest_63, gM_findRest_65, gM_findRest_68, gM_findRest_71, gM_findRest_74, gM_findRest_75, gM_findRest_77, gM_findRest_78, gM_findRest_79, gM_findRest_82, gM_findRest_84, gM_findRest_86, gM_findRest_87, gM_findRest_90, gM_findRest_91, gM_findRest_92, gM_findRest_95, gM_findRest_96, gM_findRest_99, gM_findRest_100, gM_findRest_102, gM_findRest_103, gM_findRest_106, gM_findRest_112, gM_findRest_115, ↓reduceIte, Bool.false_eq_true, Bool.true_eq_false, qk_i, qk_r, qk_n, Option.toList_some, Option.toList_none, List.cons_append, List.nil_append, true_and, and_true, true_or, or_true, eq_self, if_true, if_false, q_b1, q_b2, c_A, c_R, c_O, c_M, c_H1, c_H8, c_H15, (hv.q hM).1, h1, x_M_has, q_z0, nI_1]
    split
    · refine w_M_restBy (hv.q hM) (by omega) hs fun x => ?_
      simp only [gM_findRest_0, gM_findRest_1, gM_findRest_4, gM_findRest_5, gM_findRest_6, gM_findRest_9, gM_findRest_10, gM_findRest_13, gM_findRest_14, gM_findRest_15, gM_findRest_16, gM_findRest_17, gM_findRest_18, gM_findRest_19, gM_findRest_22, gM_findRest_23, gM_findRest_26, gM_findRest_28, gM_findRest_29, gM_findRest_30, gM_findRest_33, gM_findRest_34, gM_findRest_35, gM_findRest_38, gM_findRest_39, gM_findRest_42, gM_findRest_43, gM_findRest_44, gM_findRest_47, gM_findRest_49, gM_findRest_50, gM_findRest_54, gM_findRest_55, gM_findRest_58, gM_findRest_61, gM_findRest_63, gM_findRest_65, gM_findRest_68, gM_findRest_71, gM_findRest_74, gM_findRest_75, gM_findRest_77, gM_findRest_78, gM_findRest_79, gM_findRest_82, gM_findRest_84, gM_findRest_86, gM_findRest_87, gM_findRest_90, gM_findRest_91, gM_findRest_92, gM_findRest_95, gM_findRest_96, gM_findRest_99, gM_findRest_100, gM_findRest_102, gM_findRest_103, gM_findRest_106, gM_findRest_112, gM_findRest_115, ↓reduceIte, Bool.false_eq_true, Bool.true_eq_false, qk_i, qk_r, qk_n, Option.toList_some, Option.toList_none, List.cons_append, List.nil_append, true_and, and_true, true_or, or_true, eq_self, if_true, if_false, q_b1, q_b2, c_A, c_R, c_O, c_M, c_H1, c_H8, c_H15, rf_M21, aD_43, hin, nI_1]
      split
      · exact ih (j + 1) (by omega) _ _ hM
      · exact ih (j + 1) (by omega) _ _ (hM.qput (by decide))
    · exact ih (j + 1) (by omega) _ _ hM
theorem w_M_findRest_l {Q : q_R} {M0 : q_M} {n h : Nat} {aim im : Int32} (hv : v_m M0 n h) (hQ : ∀ M, eqx Sf M0 M → Q none M) : ∀ k, k ≤ 1024 → ∀ (M : q_M) (o4 o5 o6 : Option Value), eqx Sf M0 M →
    q_g 105 none Q 5 [some (.ref 30), some (.int aim), some (.int im), some (.int (nI k + (-1))), o4, o5, o6] [] M := by
  intro k
  induction k with
  | zero =>
    intro hk M o4 o5 o6 hM
    have h1 : nI 0 + (-1) < 0 := by decide
    rw [gM_findRest_5]
    simp only [gM_findRest_0, gM_findRest_1, gM_findRest_4, gM_findRest_6, gM_findRest_9, gM_findRest_10, gM_findRest_13, gM_findRest_14, gM_findRest_15, gM_findRest_16, gM_findRest_17, gM_findRest_18, gM_findRest_19, gM_findRest_22, gM_findRest_23, gM_findRest_26, gM_findRest_28, gM_findRest_29, gM_findRest_30, gM_findRest_33, gM_findRest_34, gM_findRest_35, gM_findRest_38, gM_findRest_39, gM_findRest_42, gM_findRest_43, gM_findRest_44, gM_findRest_47, gM_findRest_49, gM_findRest_50, gM_findRest_52, gM_findRest_54, gM_findRest_55, gM_findRest_58, gM_findRest_61, gM_findRest_63, gM_findRest_65, gM_findRest_68, gM_findRest_71, gM_findRest_74, gM_findRest_75, gM_findRest_77, gM_findRest_78, gM_findRest_79, gM_findRest_82, gM_findRest_84, gM_findRest_86, gM_findRest_87, gM_findRest_90, gM_findRest_91, gM_findRest_92, gM_findRest_95, gM_findRest_96, gM_findRest_99, gM_findRest_100, gM_findRest_102, gM_findRest_103, gM_findRest_106, gM_findRest_109, gM_findRest_112, gM_findRest_115, ↓reduceIte, Bool.false_eq_true, Bool.true_eq_false, qk_i, qk_r, qk_n, Option.toList_some, Option.toList_none, List.cons_append, List.nil_append, true_and, and_true, true_or, or_true, eq_self, if_true, if_false, q_b1, q_b2, c_A, c_R, c_O, c_M, c_H1, c_H8, c_H15, h1]
    exact hQ _ hM
  | succ s ih =>
    intro hk M o4 o5 o6 hM
    have h1 : ¬ nI s < 0 := nI_pos (by omega)
    have hin : q_in (nI s) 1024 = true := q_in_nI (by omega) (by omega)
    have e47 : ∀ (x : Int32) M', eqx Sf M0 M' → q_g 105 none Q 47 [some (.ref 30), some (.int aim), some (.int im), some (.int (nI s)), o4, o5, o6] [.int x] M' := by
      intro x M' hM'
      simp only [gM_findRest_0, gM_findRest_1, gM_findRest_4, gM_findRest_6, gM_findRest_9, gM_findRest_10, gM_findRest_13, gM_findRest_14, gM_findRest_15, gM_findRest_16, gM_findRest_17, gM_findRest_18, gM_findRest_19, gM_findRest_22, gM_findRest_23, gM_findRest_26, gM_findRest_28, gM_findRest_29, gM_findRest_30, gM_findRest_33, gM_findRest_34, gM_findRest_35, gM_findRest_38, gM_findRest_39, gM_findRest_42, gM_findRest_43, gM_findRest_44, gM_findRest_47, gM_findRest_49, gM_findRest_50, gM_findRest_54, gM_findRest_55, gM_findRest_58, gM_findRest_61, gM_findRest_63, gM_findRest_65, gM_findRest_68, gM_findRest_71, gM_findRest_74, gM_findRest_75, gM_findRest_77, gM_findRest_78, gM_findRest_79, gM_findRest_82, gM_findRest_84, gM_findRest_86, gM_findRest_87, gM_findRest_90, gM_findRest_91, gM_findRest_92, gM_findRest_95, gM_findRest_96, gM_findRest_99, gM_findRest_100, gM_findRest_102, gM_findRest_103, gM_findRest_106, gM_findRest_109, gM_findRest_112, gM_findRest_115, ↓reduceIte, Bool.false_eq_true, Bool.true_eq_false, qk_i, qk_r, qk_n, Option.toList_some, Option.toList_none, List.cons_append, List.nil_append, true_and, and_true, true_or, or_true, eq_self, if_true, if_false, q_b1, q_b2, c_A, c_R, c_O, c_M, c_H1, c_H8, c_H15]
      refine w_M_findRest_l2 hv (by omega) (fun M2 o5 o6 hM2 => ?_) n 0 (by omega) M' _ hM'
      simp only [gM_findRest_0, gM_findRest_1, gM_findRest_4, gM_findRest_6, gM_findRest_9, gM_findRest_10, gM_findRest_13, gM_findRest_14, gM_findRest_15, gM_findRest_16, gM_findRest_17, gM_findRest_18, gM_findRest_19, gM_findRest_22, gM_findRest_23, gM_findRest_26, gM_findRest_28, gM_findRest_29, gM_findRest_30, gM_findRest_33, gM_findRest_34, gM_findRest_35, gM_findRest_38, gM_findRest_39, gM_findRest_42, gM_findRest_43, gM_findRest_44, gM_findRest_47, gM_findRest_49, gM_findRest_50, gM_findRest_52, gM_findRest_54, gM_findRest_55, gM_findRest_58, gM_findRest_61, gM_findRest_63, gM_findRest_65, gM_findRest_68, gM_findRest_71, gM_findRest_74, gM_findRest_75, gM_findRest_77, gM_findRest_78, gM_findRest_79, gM_findRest_82, gM_findRest_84, gM_findRest_86, gM_findRest_87, gM_findRest_90, gM_findRest_91, gM_findRest_92, gM_findRest_95, gM_findRest_96, gM_findRest_99, gM_findRest_100, gM_findRest_102, gM_findRest_103, gM_findRest_106, gM_findRest_109, gM_findRest_112, gM_findRest_115, ↓reduceIte, Bool.false_eq_true, Bool.true_eq_false, qk_i, qk_r, qk_n, Option.toList_some, Option.toList_none, List.cons_append, List.nil_append, true_and, and_true, true_or, or_true, eq_self, if_true, if_false, q_b1, q_b2, c_A, c_R, c_O, c_M, c_H1, c_H8, c_H15]
      exact ih (by omega) M2 _ _ _ hM2
    rw [dec_nI, gM_findRest_5]
    simp only [gM_findRest_0, gM_findRest_1, gM_findRest_4, gM_findRest_6, gM_findRest_9, gM_findRest_10, gM_findRest_13, gM_findRest_14, gM_findRest_15, gM_findRest_16, gM_findRest_17, gM_findRest_18, gM_findRest_19, gM_findRest_22, gM_findRest_23, gM_findRest_26, gM_findRest_29, gM_findRest_30, gM_findRest_33, gM_findRest_34, gM_findRest_35, gM_findRest_38, gM_findRest_39, gM_findRest_42, gM_findRest_43, gM_findRest_44, gM_findRest_49, gM_findRest_50, gM_findRest_52, gM_findRest_54, gM_findRest_55, gM_findRest_58, gM_findRest_61, gM_findRest_63, gM_findRest_65, gM_findRest_68, gM_findRest_71, gM_findRest_74, gM_findRest_75, gM_findRest_77, gM_findRest_78, gM_findRest_79, gM_findRest_82, gM_findRest_84, gM_findRest_86, gM_findRest_87, gM_findRest_90, gM_findRest_91, gM_findRest_92, gM_findRest_95, gM_findRest_96, gM_findRest_99, gM_findRest_100, gM_findRest_102, gM_findRest_103, gM_findRest_106, gM_findRest_109, gM_findRest_112, gM_findRest_115, ↓reduceIte, Bool.false_eq_true, Bool.true_eq_false, qk_i, qk_r, qk_n, Option.toList_some, Option.toList_none, List.cons_append, List.nil_append, true_and, and_true, true_or, or_true, eq_self, if_true, if_false, q_b1, q_b2, c_A, c_R, c_O, c_M, c_H1, c_H8, c_H15, h1, rf_M21, q_jn]
    simp only [gM_findRest_0, gM_findRest_1, gM_findRest_4, gM_findRest_6, gM_findRest_9, gM_findRest_10, gM_findRest_13, gM_findRest_14, gM_findRest_15, gM_findRest_16, gM_findRest_17, gM_findRest_18, gM_findRest_19, gM_findRest_22, gM_findRest_23, gM_findRest_26, gM_findRest_28, gM_findRest_29, gM_findRest_30, gM_findRest_33, gM_findRest_34, gM_findRest_35, gM_findRest_38, gM_findRest_39, gM_findRest_42, gM_findRest_43, gM_findRest_44, gM_findRest_49, gM_findRest_50, gM_findRest_52, gM_findRest_54, gM_findRest_55, gM_findRest_58, gM_findRest_61, gM_findRest_63, gM_findRest_65, gM_findRest_68, gM_findRest_71, gM_findRest_74, gM_findRest_75, gM_findRest_77, gM_findRest_78, gM_findRest_79, gM_findRest_82, gM_findRest_84, gM_findRest_86, gM_findRest_87, gM_findRest_90, gM_findRest_91, gM_findRest_92, gM_findRest_95, gM_findRest_96, gM_findRest_99, gM_findRest_100, gM_findRest_102, gM_findRest_103, gM_findRest_106, gM_findRest_109, gM_findRest_112, gM_findRest_115, ↓reduceIte, Bool.false_eq_true, Bool.true_eq_false, qk_i, qk_r, qk_n, Option.toList_some, Option.toList_none, List.cons_append, List.nil_append, true_and, and_true, true_or, or_true, eq_self, if_true, if_false, q_b1, q_b2, c_A, c_R, c_O, c_M, c_H1, c_H8, c_H15, rf_M21, aD_43, hin]
    repeat' split
    all_goals first
      | with_reducible exact e47 _ _ (hM.qput (by decide))
      | (refine w_M_mayBy (hv.q (hM.qput (by decide))) (by omega) fun m hm hd => ?_
         simp only [gM_findRest_0, gM_findRest_1, gM_findRest_4, gM_findRest_6, gM_findRest_9, gM_findRest_10, gM_findRest_13, gM_findRest_14, gM_findRest_15, gM_findRest_16, gM_findRest_17, gM_findRest_18, gM_findRest_19, gM_findRest_22, gM_findRest_23, gM_findRest_26, gM_findRest_28, gM_findRest_29, gM_findRest_30, gM_findRest_33, gM_findRest_34, gM_findRest_35, gM_findRest_38, gM_findRest_39, gM_findRest_42, gM_findRest_43, gM_findRest_44, gM_findRest_49, gM_findRest_50, gM_findRest_52, gM_findRest_54, gM_findRest_55, gM_findRest_58, gM_findRest_61, gM_findRest_63, gM_findRest_65, gM_findRest_68, gM_findRest_71, gM_findRest_74, gM_findRest_75, gM_findRest_77, gM_findRest_78, gM_findRest_79, gM_findRest_82, gM_findRest_84, gM_findRest_86, gM_findRest_87, gM_findRest_90, gM_findRest_91, gM_findRest_92, gM_findRest_95, gM_findRest_96, gM_findRest_99, gM_findRest_100, gM_findRest_102, gM_findRest_103, gM_findRest_106, gM_findRest_109, gM_findRest_112, gM_findRest_115, ↓reduceIte, Bool.false_eq_true, Bool.true_eq_false, qk_i, qk_r, qk_n, Option.toList_some, Option.toList_none, List.cons_append, List.nil_append, true_and, and_true, true_or, or_true, eq_self, if_true, if_false, q_b1, q_b2, c_A, c_R, c_O, c_M, c_H1, c_H8, c_H15]
         exact e47 _ _ (hM.qput (by decide)))
theorem w_M_findRest {Q : q_R} {M : q_M} {n h : Nat} {aim im : Int32} (hv : v_m M n h) (hQ : ∀ M', eqx Sf M M' → Q none M') : q_Run 105 [.ref 30, .int aim, .int im] M Q := by
  have h2 := two_pow_le hv.2.1
  have h3 := one_le_two_pow' n
  have e : nI (2 ^ n - 1) = nI (2 ^ n) + (-1) := by
    have := dec_nI (2 ^ n - 1)
    rw [Nat.sub_add_cancel h3] at this
    exact this.symm
  rw [e_M_findRest]
  simp only [gM_findRest_0, gM_findRest_1, gM_findRest_4, gM_findRest_6, gM_findRest_9, gM_findRest_10, gM_findRest_13, gM_findRest_14, gM_findRest_15, gM_findRest_16, gM_findRest_17, gM_findRest_18, gM_findRest_19, gM_findRest_22, gM_findRest_23, gM_findRest_26, gM_findRest_28, gM_findRest_29, gM_findRest_30, gM_findRest_33, gM_findRest_34, gM_findRest_35, gM_findRest_38, gM_findRest_39, gM_findRest_42, gM_findRest_43, gM_findRest_44, gM_findRest_47, gM_findRest_49, gM_findRest_50, gM_findRest_52, gM_findRest_54, gM_findRest_55, gM_findRest_58, gM_findRest_61, gM_findRest_63, gM_findRest_65, gM_findRest_68, gM_findRest_71, gM_findRest_74, gM_findRest_75, gM_findRest_77, gM_findRest_78, gM_findRest_79, gM_findRest_82, gM_findRest_84, gM_findRest_86, gM_findRest_87, gM_findRest_90, gM_findRest_91, gM_findRest_92, gM_findRest_95, gM_findRest_96, gM_findRest_99, gM_findRest_100, gM_findRest_102, gM_findRest_103, gM_findRest_106, gM_findRest_109, gM_findRest_112, gM_findRest_115, ↓reduceIte, Bool.false_eq_true, Bool.true_eq_false, qk_i, qk_r, qk_n, Option.toList_some, Option.toList_none, List.cons_append, List.nil_append, true_and, and_true, true_or, or_true, eq_self, if_true, if_false, q_b1, q_b2, c_A, c_R, c_O, c_M, c_H1, c_H8, c_H15, x_M_whole, hv.whole, e]
  exact w_M_findRest_l hv hQ (2 ^ n) h2 M _ _ _ eqx.rf
section MQ1
variable {Q : q_R} {M : q_M} {n h : Nat}
theorem v_m.hlt (v : v_m M n h) : h < 1024 := Nat.lt_of_lt_of_le v.2.2.2.1 (two_pow_le v.2.1)
theorem or1_lt {s j : Nat} (hs : s < 1024) (hj : j < 10) : s ||| 2 ^ j < 1024 := Nat.or_lt_two_pow (n := 10) hs (Nat.pow_lt_pow_right (by omega) hj)
theorem or1_nI {s j : Nat} (hj : j < 31) : nI s ||| ((1 : Int32) <<< (nI j &&& 31)) = nI (s ||| 2 ^ j) := by rw [sh1_nI j hj, or_nI]
theorem w_M_soonest_l {a b mb : Int32} (hv : v_m M n h) (hQ : ∀ x : Int32, Q (some (.int x)) M) : ∀ k j, j + k = n →
    q_g 146 none Q 95 [some (.ref 30), some (.int a), some (.int b), some (.int mb), some (.int (nI j))] [] M := by
  have h10 := hv.2.1
  have hin : q_in (nI h) 1024 = true := q_in_nI hv.hlt (by omega)
  intro k
  induction k with
  | zero =>
    intro j hj
    have : j = n := by omega
    subst this
    rw [gM_soonest_95]
    simp only [gM_soonest_0, gM_soonest_1, gM_soonest_2, gM_soonest_5, gM_soonest_8, gM_soonest_9, gM_soonest_10, gM_soonest_13, gM_soonest_14, gM_soonest_15, gM_soonest_16, gM_soonest_17, gM_soonest_20, gM_soonest_23, gM_soonest_24, gM_soonest_26, gM_soonest_29, gM_soonest_30, gM_soonest_31, gM_soonest_32, gM_soonest_33, gM_soonest_36, gM_soonest_37, gM_soonest_40, gM_soonest_41, gM_soonest_44, gM_soonest_45, gM_soonest_47, gM_soonest_50, gM_soonest_52, gM_soonest_53, gM_soonest_54, gM_soonest_57, gM_soonest_58, gM_soonest_61, gM_soonest_62, gM_soonest_65, gM_soonest_66, gM_soonest_67, gM_soonest_68, gM_soonest_71, gM_soonest_72, gM_soonest_75, gM_soonest_76, gM_soonest_79, gM_soonest_80, gM_soonest_83, gM_soonest_84, gM_soonest_85, gM_soonest_88, gM_soonest_91, gM_soonest_92, gM_soonest_93, gM_soonest_97, gM_soonest_98, gM_soonest_101, gM_soonest_104, gM_soonest_105, gM_soonest_107, gM_soonest_110, gM_soonest_113, gM_soonest_114, gM_soonest_116, gM_soonest_117, gM_soonest_120, gM_soonest_121, gM_soonest_124, gM_soonest_125, gM_soonest_128, gM_soonest_129, gM_soonest_132, gM_soonest_133, gM_soonest_136, gM_soonest_138, gM_soonest_139, gM_soonest_142, gM_soonest_145, gM_soonest_147, ↓reduceIte, Bool.false_eq_true, Bool.true_eq_false, qk_i, qk_r, qk_n, Option.toList_some, Option.toList_none, List.cons_append, List.nil_append, true_and, and_true, true_or, or_true, eq_self, if_true, if_false, q_b1, q_b2, c_A, c_R, c_O, c_M, c_H1, c_H8, c_H15, hv.1, Int32.le_refl]
    exact hQ _
  | succ k ih =>
    intro j hj
    have h1 : ¬ nI n ≤ nI j := nI_ge (by omega) (by omega)
    rw [gM_soonest_95]
    simp only [gM_soonest_0, gM_soonest_1, gM_soonest_2, gM_soonest_5, gM_soonest_8, gM_soonest_9, gM_soonest_10, gM_soonest_13, gM_soonest_14, gM_soonest_15, gM_soonest_16, gM_soonest_17, gM_soonest_20, gM_soonest_23, gM_soonest_24, gM_soonest_26, gM_soonest_29, gM_soonest_30, gM_soonest_31, gM_soonest_32, gM_soonest_33, gM_soonest_36, gM_soonest_37, gM_soonest_40, gM_soonest_41, gM_soonest_44, gM_soonest_45, gM_soonest_47, gM_soonest_50, gM_soonest_52, gM_soonest_53, gM_soonest_54, gM_soonest_57, gM_soonest_58, gM_soonest_61, gM_soonest_62, gM_soonest_65, gM_soonest_66, gM_soonest_67, gM_soonest_68, gM_soonest_71, gM_soonest_72, gM_soonest_75, gM_soonest_76, gM_soonest_79, gM_soonest_80, gM_soonest_83, gM_soonest_84, gM_soonest_85, gM_soonest_88, gM_soonest_91, gM_soonest_92, gM_soonest_93, gM_soonest_97, gM_soonest_98, gM_soonest_101, gM_soonest_104, gM_soonest_105, gM_soonest_107, gM_soonest_110, gM_soonest_113, gM_soonest_114, gM_soonest_116, gM_soonest_117, gM_soonest_120, gM_soonest_121, gM_soonest_124, gM_soonest_125, gM_soonest_128, gM_soonest_129, gM_soonest_132, gM_soonest_133, gM_soonest_136, gM_soonest_138, gM_soonest_139, gM_soonest_142, gM_soonest_145, gM_soonest_147, ↓reduceIte, Bool.false_eq_true, Bool.true_eq_false, qk_i, qk_r, qk_n, Option.toList_some, Option.toList_none, List.cons_append, List.nil_append, true_and, and_true, true_or, or_true, eq_self, if_true, if_false, q_b1, q_b2, c_A, c_R, c_O, c_M, c_H1, c_H8, c_H15, hv.1, h1, x_M_has, q_z0, nI_1, hv.2.2.1]
    repeat' split
    all_goals first
      | with_reducible exact ih (j + 1) (by omega)
      | (refine w_M_restBy hv (by omega) hv.hlt fun x => ?_
         simp only [gM_soonest_0, gM_soonest_1, gM_soonest_2, gM_soonest_5, gM_soonest_8, gM_soonest_9, gM_soonest_10, gM_soonest_13, gM_soonest_14, gM_soonest_15, gM_soonest_16, gM_soonest_17, gM_soonest_20, gM_soonest_23, gM_soonest_24, gM_soonest_26, gM_soonest_29, gM_soonest_30, gM_soonest_31, gM_soonest_32, gM_soonest_33, gM_soonest_36, gM_soonest_37, gM_soonest_40, gM_soonest_41, gM_soonest_44, gM_soonest_45, gM_soonest_47, gM_soonest_50, gM_soonest_52, gM_soonest_53, gM_soonest_54, gM_soonest_57, gM_soonest_58, gM_soonest_61, gM_soonest_62, gM_soonest_65, gM_soonest_66, gM_soonest_67, gM_soonest_68, gM_soonest_71, gM_soonest_72, gM_soonest_75, gM_soonest_76, gM_soonest_79, gM_soonest_80, gM_soonest_83, gM_soonest_84, gM_soonest_85, gM_soonest_88, gM_soonest_91, gM_soonest_92, gM_soonest_93, gM_soonest_97, gM_soonest_98, gM_soonest_101, gM_soonest_104, gM_soonest_105, gM_soonest_107, gM_soonest_110, gM_soonest_113, gM_soonest_114, gM_soonest_116, gM_soonest_117, gM_soonest_120, gM_soonest_121, gM_soonest_124, gM_soonest_125, gM_soonest_128, gM_soonest_129, gM_soonest_132, gM_soonest_133, gM_soonest_136, gM_soonest_138, gM_soonest_139, gM_soonest_142, gM_soonest_145, gM_soonest_147, ↓reduceIte, Bool.false_eq_true, Bool.true_eq_false, qk_i, qk_r, qk_n, Option.toList_some, Option.toList_none, List.cons_append, List.nil_append, true_and, and_true, true_or, or_true, eq_self, if_true, if_false, q_b1, q_b2, c_A, c_R, c_O, c_M, c_H1, c_H8, c_H15, nI_1, rf_M21, aD_43, hv.2.2.1, hin]
         repeat' split
         all_goals first
           | with_reducible exact ih (j + 1) (by omega)
           | with_reducible exact hQ _)
theorem w_M_soonest {a b : Int32} (hv : v_m M n h) (hQ : ∀ (x : Int32) M', eqx Sm M M' → Q (some (.int x)) M') : q_Run 146 [.ref 30, .int a, .int b] M Q := by
  rw [e_M_soonest]
  simp only [gM_soonest_0, gM_soonest_1, gM_soonest_2, gM_soonest_5, gM_soonest_8, gM_soonest_9, gM_soonest_10, gM_soonest_13, gM_soonest_14, gM_soonest_15, gM_soonest_16, gM_soonest_17, gM_soonest_20, gM_soonest_23, gM_soonest_24, gM_soonest_26, gM_soonest_29, gM_soonest_30, gM_soonest_31, gM_soonest_32, gM_soonest_33, gM_soonest_36, gM_soonest_37, gM_soonest_40, gM_soonest_41, gM_soonest_44, gM_soonest_45, gM_soonest_47, gM_soonest_50, gM_soonest_52, gM_soonest_53, gM_soonest_54, gM_soonest_57, gM_soonest_58, gM_soonest_61, gM_soonest_62, gM_soonest_65, gM_soonest_66, gM_soonest_67, gM_soonest_68, gM_soonest_71, gM_soonest_72, gM_soonest_75, gM_soonest_76, gM_soonest_79, gM_soonest_80, gM_soonest_83, gM_soonest_84, gM_soonest_85, gM_soonest_88, gM_soonest_91, gM_soonest_92, gM_soonest_93, gM_soonest_97, gM_soonest_98, gM_soonest_101, gM_soonest_104, gM_soonest_105, gM_soonest_107, gM_soonest_110, gM_soonest_113, gM_soonest_114, gM_soonest_116, gM_soonest_117, gM_soonest_120, gM_soonest_121, gM_soonest_124, gM_soonest_125, gM_soonest_128, gM_soonest_129, gM_soonest_132, gM_soonest_133, gM_soonest_136, gM_soonest_138, gM_soonest_139, gM_soonest_142, gM_soonest_145, gM_soonest_147, ↓reduceIte, Bool.false_eq_true, Bool.true_eq_false, qk_i, qk_r, qk_n, Option.toList_some, Option.toList_none, List.cons_append, List.nil_append, true_and, and_true, true_or, or_true, eq_self, if_true, if_false, q_b1, q_b2, c_A, c_R, c_O, c_M, c_H1, c_H8, c_H15, x_M_areThings, x_M_isIn, q_z0, x_M_no no_1, x_M_no no_2]
  repeat' split
  all_goals first
    | with_reducible exact hQ _ _ eqm_no
    | (refine w_M_findRest hv fun M' hM' => ?_
       have hv' := hv.q hM'
       have hin : q_in (nI h) 1024 = true := q_in_nI hv.hlt (by omega)
       simp only [gM_soonest_0, gM_soonest_1, gM_soonest_2, gM_soonest_5, gM_soonest_8, gM_soonest_9, gM_soonest_10, gM_soonest_13, gM_soonest_14, gM_soonest_15, gM_soonest_16, gM_soonest_17, gM_soonest_20, gM_soonest_23, gM_soonest_24, gM_soonest_26, gM_soonest_29, gM_soonest_30, gM_soonest_31, gM_soonest_32, gM_soonest_33, gM_soonest_36, gM_soonest_37, gM_soonest_40, gM_soonest_41, gM_soonest_44, gM_soonest_45, gM_soonest_47, gM_soonest_50, gM_soonest_52, gM_soonest_53, gM_soonest_54, gM_soonest_57, gM_soonest_58, gM_soonest_61, gM_soonest_62, gM_soonest_65, gM_soonest_66, gM_soonest_67, gM_soonest_68, gM_soonest_71, gM_soonest_72, gM_soonest_75, gM_soonest_76, gM_soonest_79, gM_soonest_80, gM_soonest_83, gM_soonest_84, gM_soonest_85, gM_soonest_88, gM_soonest_91, gM_soonest_92, gM_soonest_93, gM_soonest_97, gM_soonest_98, gM_soonest_101, gM_soonest_104, gM_soonest_105, gM_soonest_107, gM_soonest_110, gM_soonest_113, gM_soonest_114, gM_soonest_116, gM_soonest_117, gM_soonest_120, gM_soonest_121, gM_soonest_124, gM_soonest_125, gM_soonest_128, gM_soonest_129, gM_soonest_132, gM_soonest_133, gM_soonest_136, gM_soonest_138, gM_soonest_139, gM_soonest_142, gM_soonest_145, gM_soonest_147, ↓reduceIte, Bool.false_eq_true, Bool.true_eq_false, qk_i, qk_r, qk_n, Option.toList_some, Option.toList_none, List.cons_append, List.nil_append, true_and, and_true, true_or, or_true, eq_self, if_true, if_false, q_b1, q_b2, c_A, c_R, c_O, c_M, c_H1, c_H8, c_H15, rf_M21, aD_43, hv'.2.2.1, hin]
       repeat' split
       all_goals first
         | with_reducible exact hQ _ _ (hM'.up SfSm)
         | exact w_M_soonest_l hv' (fun x => hQ x M' (hM'.up SfSm)) n 0 (by omega)
         | (refine w_M_mayBy hv' hv.hlt fun m hm hd => ?_
            simp only [gM_soonest_0, gM_soonest_1, gM_soonest_2, gM_soonest_5, gM_soonest_8, gM_soonest_9, gM_soonest_10, gM_soonest_13, gM_soonest_14, gM_soonest_15, gM_soonest_16, gM_soonest_17, gM_soonest_20, gM_soonest_23, gM_soonest_24, gM_soonest_26, gM_soonest_29, gM_soonest_30, gM_soonest_31, gM_soonest_32, gM_soonest_33, gM_soonest_36, gM_soonest_37, gM_soonest_40, gM_soonest_41, gM_soonest_44, gM_soonest_45, gM_soonest_47, gM_soonest_50, gM_soonest_52, gM_soonest_53, gM_soonest_54, gM_soonest_57, gM_soonest_58, gM_soonest_61, gM_soonest_62, gM_soonest_65, gM_soonest_66, gM_soonest_67, gM_soonest_68, gM_soonest_71, gM_soonest_72, gM_soonest_75, gM_soonest_76, gM_soonest_79, gM_soonest_80, gM_soonest_83, gM_soonest_84, gM_soonest_85, gM_soonest_88, gM_soonest_91, gM_soonest_92, gM_soonest_93, gM_soonest_97, gM_soonest_98, gM_soonest_101, gM_soonest_104, gM_soonest_105, gM_soonest_107, gM_soonest_110, gM_soonest_113, gM_soonest_114, gM_soonest_116, gM_soonest_117, gM_soonest_120, gM_soonest_121, gM_soonest_124, gM_soonest_125, gM_soonest_128, gM_soonest_129, gM_soonest_132, gM_soonest_133, gM_soonest_136, gM_soonest_138, gM_soonest_139, gM_soonest_142, gM_soonest_145, gM_soonest_147, ↓reduceIte, Bool.false_eq_true, Bool.true_eq_false, qk_i, qk_r, qk_n, Option.toList_some, Option.toList_none, List.cons_append, List.nil_append, true_and, and_true, true_or, or_true, eq_self, if_true, if_false, q_b1, q_b2, c_A, c_R, c_O, c_M, c_H1, c_H8, c_H15]
            exact w_M_soonest_l hv' (fun x => hQ x M' (hM'.up SfSm)) n 0 (by omega)))
theorem l_2520 : ¬ (2520 : Int64) = 0 := by decide
theorem l_2 : ¬ (2 : Int64) = 0 := by decide
theorem w_M_mean {a b : Int32} (hv : v_m M n h) (hQ : ∀ (x : Int64) M', eqx Sm M M' → Q (some (.long x)) M') : q_Run 125 [.ref 30, .int a, .int b] M Q := by
  rw [e_M_mean]
  simp only [gM_mean_0, gM_mean_1, gM_mean_2, gM_mean_5, gM_mean_8, gM_mean_9, gM_mean_10, gM_mean_13, gM_mean_14, gM_mean_15, gM_mean_16, gM_mean_17, gM_mean_20, gM_mean_23, gM_mean_24, gM_mean_26, gM_mean_29, gM_mean_30, gM_mean_31, gM_mean_32, gM_mean_33, gM_mean_36, gM_mean_37, gM_mean_40, gM_mean_41, gM_mean_44, gM_mean_45, gM_mean_47, gM_mean_50, gM_mean_51, gM_mean_54, gM_mean_55, gM_mean_58, gM_mean_59, gM_mean_62, gM_mean_63, gM_mean_64, gM_mean_67, gM_mean_68, gM_mean_71, ↓reduceIte, Bool.false_eq_true, Bool.true_eq_false, qk_i, qk_r, qk_n, Option.toList_some, Option.toList_none, List.cons_append, List.nil_append, true_and, and_true, true_or, or_true, eq_self, if_true, if_false, q_b1, q_b2, c_A, c_R, c_O, c_M, c_H1, c_H8, c_H15, x_M_areThings, x_M_isIn, q_z0, x_M_lowest no_1, x_M_lowest no_2]
  repeat' split
  all_goals first
    | with_reducible exact hQ _ _ eqm_no
    | (refine w_M_findRest hv fun M' hM' => ?_
       have hv' := hv.q hM'
       have hin : q_in (nI h) 1024 = true := q_in_nI hv.hlt (by omega)
       simp only [gM_mean_0, gM_mean_1, gM_mean_2, gM_mean_5, gM_mean_8, gM_mean_9, gM_mean_10, gM_mean_13, gM_mean_14, gM_mean_15, gM_mean_16, gM_mean_17, gM_mean_20, gM_mean_23, gM_mean_24, gM_mean_26, gM_mean_29, gM_mean_30, gM_mean_31, gM_mean_32, gM_mean_33, gM_mean_36, gM_mean_37, gM_mean_40, gM_mean_41, gM_mean_44, gM_mean_45, gM_mean_47, gM_mean_50, gM_mean_51, gM_mean_54, gM_mean_55, gM_mean_58, gM_mean_59, gM_mean_62, gM_mean_63, gM_mean_64, gM_mean_67, gM_mean_68, gM_mean_71, ↓reduceIte, Bool.false_eq_true, Bool.true_eq_false, qk_i, qk_r, qk_n, Option.toList_some, Option.toList_none, List.cons_append, List.nil_append, true_and, and_true, true_or, or_true, eq_self, if_true, if_false, q_b1, q_b2, c_A, c_R, c_O, c_M, c_H1, c_H8, c_H15, rf_M21, aD_43, hv'.2.2.1, hin]
       split
       all_goals
         refine w_M_partOf l_2520 fun v => ?_
         simp only [gM_mean_0, gM_mean_1, gM_mean_2, gM_mean_5, gM_mean_8, gM_mean_9, gM_mean_10, gM_mean_13, gM_mean_14, gM_mean_15, gM_mean_16, gM_mean_17, gM_mean_20, gM_mean_23, gM_mean_24, gM_mean_26, gM_mean_29, gM_mean_30, gM_mean_31, gM_mean_32, gM_mean_33, gM_mean_36, gM_mean_37, gM_mean_40, gM_mean_41, gM_mean_44, gM_mean_45, gM_mean_47, gM_mean_50, gM_mean_51, gM_mean_54, gM_mean_55, gM_mean_58, gM_mean_59, gM_mean_62, gM_mean_63, gM_mean_64, gM_mean_67, gM_mean_68, gM_mean_71, ↓reduceIte, Bool.false_eq_true, Bool.true_eq_false, qk_i, qk_r, qk_n, Option.toList_some, Option.toList_none, List.cons_append, List.nil_append, true_and, and_true, true_or, or_true, eq_self, if_true, if_false, q_b1, q_b2, c_A, c_R, c_O, c_M, c_H1, c_H8, c_H15]
         exact hQ _ _ (hM'.up SfSm))
theorem ten_ne : ∀ c, c < 11 → ¬ lN (10 ^ c) = 0 := by decide +kernel
theorem q_jn64 {c : Prop} [Decidable c] {y : Nat} {X : q_X} {Q : q_R} {pc : Nat} {L : q_L} {a b : Int64} {r : List Value} {M : q_M} :
    (if c then q_g y X Q pc L (.long a :: r) M else q_g y X Q pc L (.long b :: r) M) = q_g y X Q pc L (.long (if c then a else b) :: r) M := by by_cases h : c <;> simp [h]
theorem w_M_surely_l {a cm : Int32} (hv : v_m M n h) (hQ : ∀ x : Int64, Q (some (.long x)) M) : ∀ k j, j + k = n → ∀ (up : Int64) (c : Nat), c ≤ j →
    q_g 150 none Q 41 [some (.ref 30), some (.int a), some (.int cm), some (.long up), none, some (.long (lN (10 ^ c))), none, some (.int (nI j))] [] M := by
  have h10 := hv.2.1
  intro k
  induction k with
  | zero =>
    intro j hj up c hc
    have : j = n := by omega
    subst this
    rw [gM_surely_41]
    simp only [gM_surely_0, gM_surely_1, gM_surely_2, gM_surely_3, gM_surely_6, gM_surely_9, gM_surely_10, gM_surely_12, gM_surely_15, gM_surely_16, gM_surely_17, gM_surely_18, gM_surely_21, gM_surely_22, gM_surely_25, gM_surely_26, gM_surely_29, gM_surely_30, gM_surely_31, gM_surely_32, gM_surely_33, gM_surely_34, gM_surely_35, gM_surely_36, gM_surely_38, gM_surely_39, gM_surely_43, gM_surely_44, gM_surely_47, gM_surely_50, gM_surely_51, gM_surely_52, gM_surely_54, gM_surely_57, gM_surely_60, gM_surely_61, gM_surely_64, gM_surely_66, gM_surely_67, gM_surely_68, gM_surely_71, gM_surely_72, gM_surely_73, gM_surely_74, gM_surely_76, gM_surely_77, gM_surely_79, gM_surely_82, gM_surely_85, gM_surely_88, gM_surely_91, gM_surely_92, gM_surely_93, gM_surely_95, gM_surely_98, gM_surely_101, gM_surely_102, gM_surely_104, gM_surely_105, gM_surely_108, ↓reduceIte, Bool.false_eq_true, Bool.true_eq_false, qk_i, qk_r, qk_n, Option.toList_some, Option.toList_none, List.cons_append, List.nil_append, true_and, and_true, true_or, or_true, eq_self, if_true, if_false, q_b1, q_b2, c_A, c_R, c_O, c_M, c_H1, c_H8, c_H15, hv.1, Int32.le_refl]
    refine w_M_partOf (ten_ne c (by omega)) fun v => ?_
    simp only [gM_surely_0, gM_surely_1, gM_surely_2, gM_surely_3, gM_surely_6, gM_surely_9, gM_surely_10, gM_surely_12, gM_surely_15, gM_surely_16, gM_surely_17, gM_surely_18, gM_surely_21, gM_surely_22, gM_surely_25, gM_surely_26, gM_surely_29, gM_surely_30, gM_surely_31, gM_surely_32, gM_surely_33, gM_surely_34, gM_surely_35, gM_surely_36, gM_surely_38, gM_surely_39, gM_surely_43, gM_surely_44, gM_surely_47, gM_surely_50, gM_surely_51, gM_surely_52, gM_surely_54, gM_surely_57, gM_surely_60, gM_surely_61, gM_surely_64, gM_surely_66, gM_surely_67, gM_surely_68, gM_surely_71, gM_surely_72, gM_surely_73, gM_surely_74, gM_surely_76, gM_surely_77, gM_surely_79, gM_surely_82, gM_surely_85, gM_surely_88, gM_surely_91, gM_surely_92, gM_surely_93, gM_surely_95, gM_surely_98, gM_surely_101, gM_surely_102, gM_surely_104, gM_surely_105, gM_surely_108, ↓reduceIte, Bool.false_eq_true, Bool.true_eq_false, qk_i, qk_r, qk_n, Option.toList_some, Option.toList_none, List.cons_append, List.nil_append, true_and, and_true, true_or, or_true, eq_self, if_true, if_false, q_b1, q_b2, c_A, c_R, c_O, c_M, c_H1, c_H8, c_H15]
    exact hQ _
  | succ k ih =>
    intro j hj up c hc
    have h1 : ¬ nI n ≤ nI j := nI_ge (by omega) (by omega)
    have hin : q_in (nI j) 10 = true := q_in_nI (by omega) (by omega)
    have e1 : lN (10 ^ c) * 10 = lN (10 ^ (c + 1)) := by rw [show (10 : Int64) = lN 10 from rfl, lN_mul, Nat.pow_succ]
    have e2 : lN (10 ^ c) * 1 = lN (10 ^ c) := by rw [Int64.mul_one]
    rw [gM_surely_41]
    simp only [gM_surely_0, gM_surely_1, gM_surely_2, gM_surely_3, gM_surely_6, gM_surely_9, gM_surely_10, gM_surely_12, gM_surely_15, gM_surely_16, gM_surely_17, gM_surely_18, gM_surely_21, gM_surely_22, gM_surely_25, gM_surely_26, gM_surely_29, gM_surely_30, gM_surely_31, gM_surely_32, gM_surely_33, gM_surely_34, gM_surely_35, gM_surely_36, gM_surely_38, gM_surely_39, gM_surely_43, gM_surely_44, gM_surely_47, gM_surely_50, gM_surely_51, gM_surely_52, gM_surely_54, gM_surely_57, gM_surely_60, gM_surely_61, gM_surely_64, gM_surely_66, gM_surely_67, gM_surely_68, gM_surely_71, gM_surely_73, gM_surely_74, gM_surely_76, gM_surely_77, gM_surely_79, gM_surely_82, gM_surely_85, gM_surely_88, gM_surely_91, gM_surely_92, gM_surely_93, gM_surely_95, gM_surely_98, gM_surely_101, gM_surely_102, gM_surely_104, gM_surely_105, gM_surely_108, ↓reduceIte, Bool.false_eq_true, Bool.true_eq_false, qk_i, qk_r, qk_n, Option.toList_some, Option.toList_none, List.cons_append, List.nil_append, true_and, and_true, true_or, or_true, eq_self, if_true, if_false, q_b1, q_b2, c_A, c_R, c_O, c_M, c_H1, c_H8, c_H15, hv.1, h1, x_M_has, q_z0, rf_M3, aD_34, hin, q_jn64]
    simp only [gM_surely_0, gM_surely_1, gM_surely_2, gM_surely_3, gM_surely_6, gM_surely_9, gM_surely_10, gM_surely_12, gM_surely_15, gM_surely_16, gM_surely_17, gM_surely_18, gM_surely_21, gM_surely_22, gM_surely_25, gM_surely_26, gM_surely_29, gM_surely_30, gM_surely_31, gM_surely_32, gM_surely_33, gM_surely_34, gM_surely_35, gM_surely_36, gM_surely_38, gM_surely_39, gM_surely_43, gM_surely_44, gM_surely_47, gM_surely_50, gM_surely_51, gM_surely_52, gM_surely_54, gM_surely_57, gM_surely_60, gM_surely_61, gM_surely_64, gM_surely_66, gM_surely_67, gM_surely_68, gM_surely_71, gM_surely_72, gM_surely_73, gM_surely_74, gM_surely_76, gM_surely_77, gM_surely_79, gM_surely_82, gM_surely_85, gM_surely_88, gM_surely_91, gM_surely_92, gM_surely_93, gM_surely_95, gM_surely_98, gM_surely_101, gM_surely_102, gM_surely_104, gM_surely_105, gM_surely_108, ↓reduceIte, Bool.false_eq_true, Bool.true_eq_false, qk_i, qk_r, qk_n, Option.toList_some, Option.toList_none, List.cons_append, List.nil_append, true_and, and_true, true_or, or_true, eq_self, if_true, if_false, q_b1, q_b2, c_A, c_R, c_O, c_M, c_H1, c_H8, c_H15, x_M_has, q_z0, nI_1, e1, e2]
    split
    · exact ih (j + 1) (by omega) _ c (by omega)
    · exact ih (j + 1) (by omega) _ (c + 1) (by omega)
theorem w_M_surely {a : Int32} (hv : v_m M n h) (hQ : ∀ (x : Int64) M', eqx Sm M M' → Q (some (.long x)) M') : q_Run 150 [.ref 30, .int a] M Q := by
  rw [e_M_surely]
  simp only [gM_surely_0, gM_surely_1, gM_surely_2, gM_surely_3, gM_surely_6, gM_surely_9, gM_surely_10, gM_surely_12, gM_surely_15, gM_surely_16, gM_surely_17, gM_surely_18, gM_surely_21, gM_surely_22, gM_surely_25, gM_surely_26, gM_surely_29, gM_surely_30, gM_surely_31, gM_surely_32, gM_surely_33, gM_surely_34, gM_surely_35, gM_surely_36, gM_surely_38, gM_surely_39, gM_surely_43, gM_surely_44, gM_surely_47, gM_surely_50, gM_surely_51, gM_surely_52, gM_surely_54, gM_surely_57, gM_surely_60, gM_surely_61, gM_surely_64, gM_surely_66, gM_surely_67, gM_surely_68, gM_surely_71, gM_surely_72, gM_surely_73, gM_surely_74, gM_surely_76, gM_surely_77, gM_surely_79, gM_surely_82, gM_surely_85, gM_surely_88, gM_surely_91, gM_surely_92, gM_surely_93, gM_surely_95, gM_surely_98, gM_surely_101, gM_surely_102, gM_surely_104, gM_surely_105, gM_surely_108, ↓reduceIte, Bool.false_eq_true, Bool.true_eq_false, qk_i, qk_r, qk_n, Option.toList_some, Option.toList_none, List.cons_append, List.nil_append, true_and, and_true, true_or, or_true, eq_self, if_true, if_false, q_b1, q_b2, c_A, c_R, c_O, c_M, c_H1, c_H8, c_H15, x_M_isIn, q_z0, x_M_lowest no_2, hv.2.2.1]
  split
  · refine w_M_reachOf hv hv.hlt fun r hr => ?_
    simp only [gM_surely_0, gM_surely_1, gM_surely_2, gM_surely_3, gM_surely_6, gM_surely_9, gM_surely_10, gM_surely_12, gM_surely_15, gM_surely_16, gM_surely_17, gM_surely_18, gM_surely_21, gM_surely_22, gM_surely_25, gM_surely_26, gM_surely_29, gM_surely_30, gM_surely_31, gM_surely_32, gM_surely_33, gM_surely_34, gM_surely_35, gM_surely_36, gM_surely_38, gM_surely_39, gM_surely_43, gM_surely_44, gM_surely_47, gM_surely_50, gM_surely_51, gM_surely_52, gM_surely_54, gM_surely_57, gM_surely_60, gM_surely_61, gM_surely_64, gM_surely_66, gM_surely_67, gM_surely_68, gM_surely_71, gM_surely_72, gM_surely_73, gM_surely_74, gM_surely_76, gM_surely_77, gM_surely_79, gM_surely_82, gM_surely_85, gM_surely_88, gM_surely_91, gM_surely_92, gM_surely_93, gM_surely_95, gM_surely_98, gM_surely_101, gM_surely_102, gM_surely_104, gM_surely_105, gM_surely_108, ↓reduceIte, Bool.false_eq_true, Bool.true_eq_false, qk_i, qk_r, qk_n, Option.toList_some, Option.toList_none, List.cons_append, List.nil_append, true_and, and_true, true_or, or_true, eq_self, if_true, if_false, q_b1, q_b2, c_A, c_R, c_O, c_M, c_H1, c_H8, c_H15, hv.2.2.1]
    exact w_M_surely_l hv (fun x => hQ x M eqx.rf) n 0 (by omega) 1 0 (by omega)
  · exact hQ _ _ eqm_no
end MQ1
