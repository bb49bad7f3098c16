/-! the class's own methods that only ask: they end; refusals and the rows of Orders may have changed, nothing else -/
theorem rf_A0 : q_rf 0 0 = 1 := by decide +kernel
theorem rf_A1 : q_rf 0 1 = 8 := by decide +kernel
theorem rf_A2 : q_rf 0 2 = 15 := by decide +kernel
theorem rf_A3 : q_rf 0 3 = 22 := by decide +kernel
theorem rf_A4 : q_rf 0 4 = 24 := by decide +kernel
theorem rf_A5 : q_rf 0 5 = 28 := by decide +kernel
theorem rf_A6 : q_rf 0 6 = 29 := by decide +kernel
theorem al_28 : q_alen 28 = some 12 := by decide +kernel
theorem al_29 : q_alen 29 = some 7 := by decide +kernel
/-- orders and refusals -/
def Sq (c : Nat) : Bool := So c || decide (c = 29)
theorem So_Sq : ∀ c, Sq c = false → So c = false := fun c h => ((Bool.or_eq_false_iff).mp h).1
/-- one refusal more -/
def s_ref (M : q_M) (w : Int32) : q_M := s_put M 29 7 (-w) (s_get M 29 7 (-w) + 1)
theorem eqx_ref {M : q_M} {w : Int32} : eqx Sq M (s_ref M w) := eqx.rf.sput (by decide)
theorem x_A_refuse {Q : q_R} {M : q_M} {w : Int32} : q_Run 79 [.ref 0, .int w] M Q = Q (some (.int w)) (s_ref M w) := by
  rw [e_A_refuse]
  simp only [gA_refuse_0, gA_refuse_1, gA_refuse_4, gA_refuse_5, gA_refuse_6, gA_refuse_7, gA_refuse_10, gA_refuse_11, gA_refuse_12, gA_refuse_15, gA_refuse_16, gA_refuse_17, gA_refuse_20, gA_refuse_21, ↓reduceIte, Bool.false_eq_true, Bool.true_eq_false, qk_i, qk_r, qk_n, Option.toList_some, Option.toList_none, List.cons_append, List.nil_append, true_and, and_true, true_or, or_true, eq_self, if_true, if_false, q_b1, q_b2, c_A, c_R, c_O, c_M, c_H1, c_H8, c_H15, rf_A6, x_W_get al_29, x_W_put al_29]
  rfl
def s_low (w : Int32) : Int64 := 4000000000000000000 - w.toInt64
theorem x_A_refuseLong {Q : q_R} {M : q_M} {w : Int32} : q_Run 80 [.ref 0, .int w] M Q = Q (some (.long (s_low w))) (s_ref M w) := by
  rw [e_A_refuseLong]
  simp only [gA_refuseLong_0, gA_refuseLong_3, gA_refuseLong_4, gA_refuseLong_5, gA_refuseLong_8, gA_refuseLong_9, gA_refuseLong_10, ↓reduceIte, Bool.false_eq_true, Bool.true_eq_false, qk_i, qk_r, qk_n, Option.toList_some, Option.toList_none, List.cons_append, List.nil_append, true_and, and_true, true_or, or_true, eq_self, if_true, if_false, q_b1, q_b2, c_A, c_R, c_O, c_M, c_H1, c_H8, c_H15, x_A_refuse]
  rfl
def b_noPart (p : Int32) : Bool := decide (p < 0) || decide (¬ p ≤ 1)
theorem x_A_isNoPart {Q : q_R} {M : q_M} {p : Int32} : q_Run 66 [.int p] M Q = Q (some (.int (q_z (b_noPart p)))) M := by
  rw [e_A_isNoPart]
  simp only [gA_isNoPart_0, gA_isNoPart_1, gA_isNoPart_4, gA_isNoPart_5, gA_isNoPart_6, gA_isNoPart_9, gA_isNoPart_10, gA_isNoPart_13, gA_isNoPart_14, ↓reduceIte, Bool.false_eq_true, Bool.true_eq_false, qk_i, qk_r, qk_n, Option.toList_some, Option.toList_none, List.cons_append, List.nil_append, true_and, and_true, true_or, or_true, eq_self, if_true, if_false, q_b1, q_b2, c_A, c_R, c_O, c_M, c_H1, c_H8, c_H15]
  unfold b_noPart q_z
  by_cases h0 : p < 0 <;> by_cases h1 : p ≤ 1 <;> simp [h0, h1]
def b_noSeeker (p : Int32) : Bool := decide (p < 0) || decide (¬ p ≤ 5)
theorem x_A_isNoSeeker {Q : q_R} {M : q_M} {p : Int32} : q_Run 67 [.int p] M Q = Q (some (.int (q_z (b_noSeeker p)))) M := by
  rw [e_A_isNoSeeker]
  simp only [gA_isNoSeeker_0, gA_isNoSeeker_1, gA_isNoSeeker_4, gA_isNoSeeker_5, gA_isNoSeeker_6, gA_isNoSeeker_9, gA_isNoSeeker_10, gA_isNoSeeker_13, gA_isNoSeeker_14, ↓reduceIte, Bool.false_eq_true, Bool.true_eq_false, qk_i, qk_r, qk_n, Option.toList_some, Option.toList_none, List.cons_append, List.nil_append, true_and, and_true, true_or, or_true, eq_self, if_true, if_false, q_b1, q_b2, c_A, c_R, c_O, c_M, c_H1, c_H8, c_H15]
  unfold b_noSeeker q_z
  by_cases h0 : p < 0 <;> by_cases h1 : p ≤ 5 <;> simp [h0, h1]
def s_way (M : q_M) (s : Int32) : Int32 := if b_isSet M 1 s = true then (if M 1 7 &&& (s ^^^ (-1)) = 0 then 0 else -3) else -1
theorem x_A_refusalOfWay {Q : q_R} {M : q_M} {s : Int32} : q_Run 78 [.ref 0, .int s] M Q = Q (some (.int (s_way M s))) M := by
  rw [e_A_refusalOfWay]
  simp only [gA_refusalOfWay_0, gA_refusalOfWay_1, gA_refusalOfWay_4, gA_refusalOfWay_5, gA_refusalOfWay_8, gA_refusalOfWay_11, gA_refusalOfWay_12, gA_refusalOfWay_13, gA_refusalOfWay_14, gA_refusalOfWay_17, gA_refusalOfWay_20, gA_refusalOfWay_21, gA_refusalOfWay_22, gA_refusalOfWay_23, gA_refusalOfWay_24, gA_refusalOfWay_27, gA_refusalOfWay_29, gA_refusalOfWay_32, gA_refusalOfWay_33, ↓reduceIte, Bool.false_eq_true, Bool.true_eq_false, qk_i, qk_r, qk_n, Option.toList_some, Option.toList_none, List.cons_append, List.nil_append, true_and, and_true, true_or, or_true, eq_self, if_true, if_false, q_b1, q_b2, c_A, c_R, c_O, c_M, c_H1, c_H8, c_H15, rf_A0, x_H_isSet c_H1, q_z0]
  unfold s_way
  cases h1 : b_isSet M 1 s <;> by_cases h2 : M 1 7 &&& (s ^^^ (-1)) = 0 <;> simp only [h1, h2, ↓reduceIte, Bool.false_eq_true, Bool.true_eq_false, qk_i, qk_r, qk_n, Option.toList_some, Option.toList_none, List.cons_append, List.nil_append, true_and, and_true, true_or, or_true, eq_self, if_true, if_false, q_b1, q_b2, c_A, c_R, c_O, c_M, c_H1, c_H8, c_H15, not_true, not_false_eq_true]
theorem and_of_andnot {x y : Int32} (h : x &&& (y ^^^ (-1)) = 0) : y &&& x = x := by
  apply b_ext
  intro i hi
  have h1 : bt (x &&& (y ^^^ (-1))) i = false := by rw [h]; exact b_0 i
  rw [b_and, b_xor, b_m1 i hi] at h1
  rw [b_and]
  revert h1
  cases bt x i <;> cases bt y i <;> simp
theorem isSet_nI {M : q_M} {B n h : Nat} {s : Int32} (hv : v_h M B n h) (hs : b_isSet M B s = true) : ∃ a, a < 2 ^ n ∧ s = nI a := by
  have h1 := and_of_andnot (of_decide_eq_true hs)
  rw [hv.all] at h1
  obtain ⟨b, hb, e⟩ := and_nI (a := 2 ^ n - 1) s
  have := one_le_two_pow' n
  exact ⟨b, by omega, by rw [← h1]; exact e⟩
theorem isThing_nI {M : q_M} {B n h : Nat} {t : Int32} (hv : v_h M B n h) (ht : b_isThing M B t = true) : ∃ j, j < n ∧ t = nI j := by
  unfold b_isThing at ht
  simp only [Bool.and_eq_true, decide_eq_true_eq] at ht
  obtain ⟨j, hj, rfl⟩ := nI_of ht.1
  refine ⟨j, ?_, rfl⟩
  rcases Nat.lt_or_ge j n with h | h
  · exact h
  · exact absurd (by rw [hv.2.1]; exact nI_le h hj) ht.2
theorem way_nI {M : q_M} {n h : Nat} {s : Int32} (hv : v_h M 1 n h) (hs : s_way M s = 0) : ∃ a, a < 1024 ∧ s = nI a := by
  unfold s_way at hs
  split at hs
  · rename_i h1
    obtain ⟨a, ha, e⟩ := isSet_nI hv h1
    exact ⟨a, Nat.lt_of_lt_of_le ha (two_pow_le hv.2.2.1), e⟩
  · exact absurd hs (by decide)
section CA
variable {Q : q_R} {M : q_M} {n h : Nat}
theorem w_A_thing {a b : Int32} (hv : v_h M 1 n h) (hQ : ∀ (x : Int32) M', eqx Sq M M' → Q (some (.int x)) M') : q_Run 89 [.ref 0, .int a, .int b] M Q := by
  rw [e_A_thing]
  simp only [gA_thing_0, gA_thing_1, gA_thing_4, gA_thing_5, gA_thing_8, gA_thing_11, gA_thing_12, gA_thing_13, gA_thing_16, gA_thing_17, gA_thing_18, gA_thing_21, gA_thing_22, gA_thing_24, gA_thing_27, gA_thing_28, gA_thing_30, gA_thing_33, gA_thing_34, gA_thing_35, gA_thing_38, gA_thing_39, gA_thing_40, gA_thing_43, ↓reduceIte, Bool.false_eq_true, Bool.true_eq_false, qk_i, qk_r, qk_n, Option.toList_some, Option.toList_none, List.cons_append, List.nil_append, true_and, and_true, true_or, or_true, eq_self, if_true, if_false, q_b1, q_b2, c_A, c_R, c_O, c_M, c_H1, c_H8, c_H15, rf_A0, x_H_isThing c_H1, q_z0, x_A_refuse, x_H_tell c_H1]
  repeat' split
  all_goals first
    | exact hQ _ _ eqx_ref
    | exact hQ _ _ eqx.rf
theorem w_A_may (hv : v_h M 1 n h) (hQ : ∀ (x : Int32) M', eqx Sq M M' → Q (some (.int x)) M') : q_Run 71 [.ref 0] M Q := by
  rw [e_A_may]
  simp only [gA_may_0, gA_may_1, gA_may_4, gA_may_5, gA_may_8, gA_may_11, gA_may_14, ↓reduceIte, Bool.false_eq_true, Bool.true_eq_false, qk_i, qk_r, qk_n, Option.toList_some, Option.toList_none, List.cons_append, List.nil_append, true_and, and_true, true_or, or_true, eq_self, if_true, if_false, q_b1, q_b2, c_A, c_R, c_O, c_M, c_H1, c_H8, c_H15, rf_A0, x_H_mayBy c_H1 hv.2.1 hv.2.2.1]
  exact hQ _ _ eqx.rf
theorem w_A_with {a : Int32} (hv : v_h M 1 n h) (hQ : ∀ (x : Int32) M', eqx Sq M M' → Q (some (.int x)) M') : q_Run 91 [.ref 0, .int a] M Q := by
  rw [e_A_with]
  simp only [gA_with_0, gA_with_1, gA_with_4, gA_with_5, gA_with_8, gA_with_11, gA_with_12, gA_with_13, gA_with_16, gA_with_17, gA_with_18, gA_with_21, gA_with_22, gA_with_25, ↓reduceIte, Bool.false_eq_true, Bool.true_eq_false, qk_i, qk_r, qk_n, Option.toList_some, Option.toList_none, List.cons_append, List.nil_append, true_and, and_true, true_or, or_true, eq_self, if_true, if_false, q_b1, q_b2, c_A, c_R, c_O, c_M, c_H1, c_H8, c_H15, rf_A0, x_H_isSet c_H1, q_z0, x_A_refuse, x_H_mayBy c_H1 hv.2.1 hv.2.2.1]
  repeat' split
  all_goals first
    | exact hQ _ _ eqx_ref
    | exact hQ _ _ eqx.rf
theorem w_A_reach (hv : v_h M 1 n h) (hQ : ∀ (x : Int32) M', eqx Sq M M' → Q (some (.int x)) M') : q_Run 77 [.ref 0] M Q := by
  rw [e_A_reach]
  simp only [gA_reach_0, gA_reach_1, gA_reach_4, gA_reach_5, gA_reach_8, gA_reach_11, gA_reach_14, ↓reduceIte, Bool.false_eq_true, Bool.true_eq_false, qk_i, qk_r, qk_n, Option.toList_some, Option.toList_none, List.cons_append, List.nil_append, true_and, and_true, true_or, or_true, eq_self, if_true, if_false, q_b1, q_b2, c_A, c_R, c_O, c_M, c_H1, c_H8, c_H15, rf_A0, x_H_reachFrom c_H1 hv.2.1 hv.2.2.1]
  exact hQ _ _ eqx.rf
theorem w_A_soonest {a b : Int32} (hv : v_h M 1 n h) (hQ : ∀ (x : Int32) M', eqx Sq M M' → Q (some (.int x)) M') : q_Run 85 [.ref 0, .int a, .int b] M Q := by
  rw [e_A_soonest]
  simp only [gA_soonest_0, gA_soonest_1, gA_soonest_4, gA_soonest_5, gA_soonest_8, gA_soonest_11, gA_soonest_12, gA_soonest_13, gA_soonest_16, gA_soonest_17, gA_soonest_18, gA_soonest_21, gA_soonest_24, gA_soonest_25, gA_soonest_27, gA_soonest_30, gA_soonest_31, gA_soonest_32, gA_soonest_35, gA_soonest_36, gA_soonest_39, gA_soonest_40, gA_soonest_41, gA_soonest_44, gA_soonest_45, gA_soonest_48, gA_soonest_51, gA_soonest_54, gA_soonest_56, gA_soonest_57, gA_soonest_58, gA_soonest_61, gA_soonest_62, gA_soonest_65, gA_soonest_68, gA_soonest_71, gA_soonest_72, gA_soonest_75, gA_soonest_78, ↓reduceIte, Bool.false_eq_true, Bool.true_eq_false, qk_i, qk_r, qk_n, Option.toList_some, Option.toList_none, List.cons_append, List.nil_append, true_and, and_true, true_or, or_true, eq_self, if_true, if_false, q_b1, q_b2, c_A, c_R, c_O, c_M, c_H1, c_H8, c_H15, rf_A0, rf_A4, x_H_isSet c_H1, q_z0, x_A_refuse, x_A_isNoPart]
  repeat' split
  all_goals first
    | exact hQ _ _ eqx_ref
    | (refine w_O_seek hv fun M' hM' => ?_
       simp only [gA_soonest_0, gA_soonest_1, gA_soonest_4, gA_soonest_5, gA_soonest_8, gA_soonest_11, gA_soonest_12, gA_soonest_13, gA_soonest_16, gA_soonest_17, gA_soonest_18, gA_soonest_21, gA_soonest_24, gA_soonest_25, gA_soonest_27, gA_soonest_30, gA_soonest_31, gA_soonest_32, gA_soonest_35, gA_soonest_36, gA_soonest_39, gA_soonest_40, gA_soonest_41, gA_soonest_44, gA_soonest_45, gA_soonest_48, gA_soonest_51, gA_soonest_54, gA_soonest_56, gA_soonest_57, gA_soonest_58, gA_soonest_61, gA_soonest_62, gA_soonest_65, gA_soonest_68, gA_soonest_71, gA_soonest_72, gA_soonest_75, gA_soonest_78, ↓reduceIte, Bool.false_eq_true, Bool.true_eq_false, qk_i, qk_r, qk_n, Option.toList_some, Option.toList_none, List.cons_append, List.nil_append, true_and, and_true, true_or, or_true, eq_self, if_true, if_false, q_b1, q_b2, c_A, c_R, c_O, c_M, c_H1, c_H8, c_H15, rf_A0, rf_A4]
       repeat' split
       all_goals exact hQ _ _ (hM'.up So_Sq))
theorem w_A_mean {a b : Int32} (hv : v_h M 1 n h) (hQ : ∀ (x : Int64) M', eqx Sq M M' → Q (some (.long x)) M') : q_Run 72 [.ref 0, .int a, .int b] M Q := by
  have e : ∀ (x : Int64) M', eqx Sq M M' → q_g 72 none Q 66 [some (.ref 0), some (.int a), some (.int b), none, none] [.long x] M' := by
    intro x M' hM'
    simp only [gA_mean_0, gA_mean_1, gA_mean_4, gA_mean_5, gA_mean_8, gA_mean_11, gA_mean_12, gA_mean_13, gA_mean_16, gA_mean_17, gA_mean_18, gA_mean_21, gA_mean_24, gA_mean_25, gA_mean_27, gA_mean_30, gA_mean_31, gA_mean_32, gA_mean_35, gA_mean_36, gA_mean_39, gA_mean_40, gA_mean_41, gA_mean_44, gA_mean_45, gA_mean_48, gA_mean_51, gA_mean_54, gA_mean_55, gA_mean_58, gA_mean_61, gA_mean_62, gA_mean_65, gA_mean_66, gA_mean_67, gA_mean_68, gA_mean_71, gA_mean_72, gA_mean_75, ↓reduceIte, Bool.false_eq_true, Bool.true_eq_false, qk_i, qk_r, qk_n, Option.toList_some, Option.toList_none, List.cons_append, List.nil_append, true_and, and_true, true_or, or_true, eq_self, if_true, if_false, q_b1, q_b2, c_A, c_R, c_O, c_M, c_H1, c_H8, c_H15]
    refine w_F_partOf fun v => ?_
    simp only [gA_mean_0, gA_mean_1, gA_mean_4, gA_mean_5, gA_mean_8, gA_mean_11, gA_mean_12, gA_mean_13, gA_mean_16, gA_mean_17, gA_mean_18, gA_mean_21, gA_mean_24, gA_mean_25, gA_mean_27, gA_mean_30, gA_mean_31, gA_mean_32, gA_mean_35, gA_mean_36, gA_mean_39, gA_mean_40, gA_mean_41, gA_mean_44, gA_mean_45, gA_mean_48, gA_mean_51, gA_mean_54, gA_mean_55, gA_mean_58, gA_mean_61, gA_mean_62, gA_mean_65, gA_mean_66, gA_mean_67, gA_mean_68, gA_mean_71, gA_mean_72, gA_mean_75, ↓reduceIte, Bool.false_eq_true, Bool.true_eq_false, qk_i, qk_r, qk_n, Option.toList_some, Option.toList_none, List.cons_append, List.nil_append, true_and, and_true, true_or, or_true, eq_self, if_true, if_false, q_b1, q_b2, c_A, c_R, c_O, c_M, c_H1, c_H8, c_H15]
    exact hQ _ _ hM'
  rw [e_A_mean]
  simp only [gA_mean_0, gA_mean_1, gA_mean_4, gA_mean_5, gA_mean_8, gA_mean_11, gA_mean_12, gA_mean_13, gA_mean_16, gA_mean_17, gA_mean_18, gA_mean_21, gA_mean_24, gA_mean_25, gA_mean_27, gA_mean_30, gA_mean_31, gA_mean_32, gA_mean_35, gA_mean_36, gA_mean_39, gA_mean_40, gA_mean_41, gA_mean_44, gA_mean_45, gA_mean_48, gA_mean_51, gA_mean_54, gA_mean_55, gA_mean_58, gA_mean_61, gA_mean_62, gA_mean_65, gA_mean_67, gA_mean_68, gA_mean_71, gA_mean_72, gA_mean_75, ↓reduceIte, Bool.false_eq_true, Bool.true_eq_false, qk_i, qk_r, qk_n, Option.toList_some, Option.toList_none, List.cons_append, List.nil_append, true_and, and_true, true_or, or_true, eq_self, if_true, if_false, q_b1, q_b2, c_A, c_R, c_O, c_M, c_H1, c_H8, c_H15, rf_A0, rf_A4, x_H_isSet c_H1, q_z0, x_A_refuseLong, x_A_isNoPart]
  repeat' split
  all_goals first
    | exact hQ _ _ eqx_ref
    | (refine w_O_seek hv fun M' hM' => ?_
       simp only [gA_mean_0, gA_mean_1, gA_mean_4, gA_mean_5, gA_mean_8, gA_mean_11, gA_mean_12, gA_mean_13, gA_mean_16, gA_mean_17, gA_mean_18, gA_mean_21, gA_mean_24, gA_mean_25, gA_mean_27, gA_mean_30, gA_mean_31, gA_mean_32, gA_mean_35, gA_mean_36, gA_mean_39, gA_mean_40, gA_mean_41, gA_mean_44, gA_mean_45, gA_mean_48, gA_mean_51, gA_mean_54, gA_mean_55, gA_mean_58, gA_mean_61, gA_mean_62, gA_mean_65, gA_mean_67, gA_mean_68, gA_mean_71, gA_mean_72, gA_mean_75, ↓reduceIte, Bool.false_eq_true, Bool.true_eq_false, qk_i, qk_r, qk_n, Option.toList_some, Option.toList_none, List.cons_append, List.nil_append, true_and, and_true, true_or, or_true, eq_self, if_true, if_false, q_b1, q_b2, c_A, c_R, c_O, c_M, c_H1, c_H8, c_H15, rf_A0, rf_A4]
       repeat' split
       all_goals exact e _ _ (hM'.up So_Sq))
theorem w_A_surely {a : Int32} (hv : v_h M 1 n h) (hQ : ∀ (x : Int64) M', eqx Sq M M' → Q (some (.long x)) M') : q_Run 87 [.ref 0, .int a] M Q := by
  rw [e_A_surely]
  simp only [gA_surely_0, gA_surely_1, gA_surely_4, gA_surely_7, gA_surely_8, gA_surely_10, gA_surely_13, gA_surely_14, gA_surely_15, gA_surely_18, gA_surely_19, gA_surely_22, gA_surely_23, gA_surely_26, gA_surely_29, gA_surely_32, gA_surely_33, gA_surely_36, gA_surely_39, gA_surely_40, gA_surely_41, gA_surely_42, gA_surely_43, gA_surely_46, ↓reduceIte, Bool.false_eq_true, Bool.true_eq_false, qk_i, qk_r, qk_n, Option.toList_some, Option.toList_none, List.cons_append, List.nil_append, true_and, and_true, true_or, or_true, eq_self, if_true, if_false, q_b1, q_b2, c_A, c_R, c_O, c_M, c_H1, c_H8, c_H15, rf_A0, x_A_refuseLong, x_A_isNoPart, q_z0, x_H_reachFrom c_H1 hv.2.1 hv.2.2.1]
  split
  · refine w_H_chanceOf (fun v => ?_) c_H1 hv.2.1 hv.2.2.1
    simp only [gA_surely_0, gA_surely_1, gA_surely_4, gA_surely_7, gA_surely_8, gA_surely_10, gA_surely_13, gA_surely_14, gA_surely_15, gA_surely_18, gA_surely_19, gA_surely_22, gA_surely_23, gA_surely_26, gA_surely_29, gA_surely_32, gA_surely_33, gA_surely_36, gA_surely_39, gA_surely_40, gA_surely_41, gA_surely_42, gA_surely_43, gA_surely_46, ↓reduceIte, Bool.false_eq_true, Bool.true_eq_false, qk_i, qk_r, qk_n, Option.toList_some, Option.toList_none, List.cons_append, List.nil_append, true_and, and_true, true_or, or_true, eq_self, if_true, if_false, q_b1, q_b2, c_A, c_R, c_O, c_M, c_H1, c_H8, c_H15]
    exact hQ _ _ eqx.rf
  · exact hQ _ _ eqx_ref
theorem w_A_ringed (hv : v_h M 1 n h) (hQ : ∀ (x : Int32) M', eqx Sq M M' → Q (some (.int x)) M') : q_Run 81 [.ref 0] M Q := by
  rw [e_A_ringed]
  simp only [gA_ringed_0, gA_ringed_1, gA_ringed_4, gA_ringed_7, ↓reduceIte, Bool.false_eq_true, Bool.true_eq_false, qk_i, qk_r, qk_n, Option.toList_some, Option.toList_none, List.cons_append, List.nil_append, true_and, and_true, true_or, or_true, eq_self, if_true, if_false, q_b1, q_b2, c_A, c_R, c_O, c_M, c_H1, c_H8, c_H15, rf_A0]
  refine w_S_ringedIn hv fun x => ?_
  simp only [gA_ringed_0, gA_ringed_1, gA_ringed_4, gA_ringed_7, ↓reduceIte, Bool.false_eq_true, Bool.true_eq_false, qk_i, qk_r, qk_n, Option.toList_some, Option.toList_none, List.cons_append, List.nil_append, true_and, and_true, true_or, or_true, eq_self, if_true, if_false, q_b1, q_b2, c_A, c_R, c_O, c_M, c_H1, c_H8, c_H15]
  exact hQ _ _ eqx.rf
theorem w_A_beg {a : Int32} (hv : v_h M 1 n h) (hQ : ∀ (x : Int32) M', eqx Sq M M' → Q (some (.int x)) M') : q_Run 58 [.ref 0, .int a] M Q := by
  rw [e_A_beg]
  simp only [gA_beg_0, gA_beg_1, gA_beg_4, gA_beg_7, gA_beg_8, gA_beg_10, gA_beg_13, gA_beg_14, gA_beg_15, gA_beg_18, gA_beg_21, gA_beg_22, gA_beg_23, gA_beg_26, gA_beg_27, gA_beg_30, gA_beg_31, gA_beg_34, gA_beg_37, gA_beg_38, ↓reduceIte, Bool.false_eq_true, Bool.true_eq_false, qk_i, qk_r, qk_n, Option.toList_some, Option.toList_none, List.cons_append, List.nil_append, true_and, and_true, true_or, or_true, eq_self, if_true, if_false, q_b1, q_b2, c_A, c_R, c_O, c_M, c_H1, c_H8, c_H15, rf_A0, x_A_isNoPart, q_z0, x_A_refuse]
  split
  · refine w_S_cheapestBegged hv fun x => ?_
    simp only [gA_beg_0, gA_beg_1, gA_beg_4, gA_beg_7, gA_beg_8, gA_beg_10, gA_beg_13, gA_beg_14, gA_beg_15, gA_beg_18, gA_beg_21, gA_beg_22, gA_beg_23, gA_beg_26, gA_beg_27, gA_beg_30, gA_beg_31, gA_beg_34, gA_beg_37, gA_beg_38, ↓reduceIte, Bool.false_eq_true, Bool.true_eq_false, qk_i, qk_r, qk_n, Option.toList_some, Option.toList_none, List.cons_append, List.nil_append, true_and, and_true, true_or, or_true, eq_self, if_true, if_false, q_b1, q_b2, c_A, c_R, c_O, c_M, c_H1, c_H8, c_H15, rf_A0, x_H_costOf c_H1 hv.2.1 hv.2.2.1]
    repeat' split
    all_goals exact hQ _ _ eqx.rf
  · exact hQ _ _ eqx_ref
theorem w_A_nails (hv : v_h M 1 n h) (hQ : ∀ (x : Int32) M', eqx Sq M M' → Q (some (.int x)) M') : q_Run 74 [.ref 0] M Q := by
  rw [e_A_nails]
  simp only [gA_nails_0, gA_nails_1, gA_nails_4, gA_nails_7, ↓reduceIte, Bool.false_eq_true, Bool.true_eq_false, qk_i, qk_r, qk_n, Option.toList_some, Option.toList_none, List.cons_append, List.nil_append, true_and, and_true, true_or, or_true, eq_self, if_true, if_false, q_b1, q_b2, c_A, c_R, c_O, c_M, c_H1, c_H8, c_H15, rf_A0]
  refine w_S_fewestNails hv fun x => ?_
  simp only [gA_nails_0, gA_nails_1, gA_nails_4, gA_nails_7, ↓reduceIte, Bool.false_eq_true, Bool.true_eq_false, qk_i, qk_r, qk_n, Option.toList_some, Option.toList_none, List.cons_append, List.nil_append, true_and, and_true, true_or, or_true, eq_self, if_true, if_false, q_b1, q_b2, c_A, c_R, c_O, c_M, c_H1, c_H8, c_H15]
  exact hQ _ _ eqx.rf
theorem w_A_spare (hv : v_h M 1 n h) (hQ : ∀ (x : Int32) M', eqx Sq M M' → Q (some (.int x)) M') : q_Run 86 [.ref 0] M Q := by
  rw [e_A_spare]
  simp only [gA_spare_0, gA_spare_1, gA_spare_4, gA_spare_7, ↓reduceIte, Bool.false_eq_true, Bool.true_eq_false, qk_i, qk_r, qk_n, Option.toList_some, Option.toList_none, List.cons_append, List.nil_append, true_and, and_true, true_or, or_true, eq_self, if_true, if_false, q_b1, q_b2, c_A, c_R, c_O, c_M, c_H1, c_H8, c_H15, rf_A0]
  refine w_S_bestSpare hv fun x => ?_
  simp only [gA_spare_0, gA_spare_1, gA_spare_4, gA_spare_7, ↓reduceIte, Bool.false_eq_true, Bool.true_eq_false, qk_i, qk_r, qk_n, Option.toList_some, Option.toList_none, List.cons_append, List.nil_append, true_and, and_true, true_or, or_true, eq_self, if_true, if_false, q_b1, q_b2, c_A, c_R, c_O, c_M, c_H1, c_H8, c_H15]
  exact hQ _ _ eqx.rf
theorem w_A_does {a : Int32} (hv : v_h M 1 n h) (hQ : ∀ (x : Int32) M', eqx Sq M M' → Q (some (.int x)) M') : q_Run 60 [.ref 0, .int a] M Q := by
  rw [e_A_does]
  simp only [gA_does_0, gA_does_1, gA_does_4, gA_does_5, gA_does_8, gA_does_11, gA_does_12, gA_does_13, gA_does_16, gA_does_17, gA_does_18, gA_does_21, gA_does_22, gA_does_25, ↓reduceIte, Bool.false_eq_true, Bool.true_eq_false, qk_i, qk_r, qk_n, Option.toList_some, Option.toList_none, List.cons_append, List.nil_append, true_and, and_true, true_or, or_true, eq_self, if_true, if_false, q_b1, q_b2, c_A, c_R, c_O, c_M, c_H1, c_H8, c_H15, rf_A0, x_H_isThing c_H1, q_z0, x_A_refuse]
  split
  · refine w_S_lostWithout hv fun x => ?_
    simp only [gA_does_0, gA_does_1, gA_does_4, gA_does_5, gA_does_8, gA_does_11, gA_does_12, gA_does_13, gA_does_16, gA_does_17, gA_does_18, gA_does_21, gA_does_22, gA_does_25, ↓reduceIte, Bool.false_eq_true, Bool.true_eq_false, qk_i, qk_r, qk_n, Option.toList_some, Option.toList_none, List.cons_append, List.nil_append, true_and, and_true, true_or, or_true, eq_self, if_true, if_false, q_b1, q_b2, c_A, c_R, c_O, c_M, c_H1, c_H8, c_H15]
    exact hQ _ _ eqx.rf
  · exact hQ _ _ eqx_ref
theorem w_A_ways {a : Int32} (hv : v_h M 1 n h) (hQ : ∀ (x : Int32) M', eqx Sq M M' → Q (some (.int x)) M') : q_Run 90 [.ref 0, .int a] M Q := by
  rw [e_A_ways]
  simp only [gA_ways_0, gA_ways_1, gA_ways_2, gA_ways_5, gA_ways_6, gA_ways_7, gA_ways_10, gA_ways_11, gA_ways_12, gA_ways_15, gA_ways_16, gA_ways_17, gA_ways_20, gA_ways_21, gA_ways_24, gA_ways_25, gA_ways_28, ↓reduceIte, Bool.false_eq_true, Bool.true_eq_false, qk_i, qk_r, qk_n, Option.toList_some, Option.toList_none, List.cons_append, List.nil_append, true_and, and_true, true_or, or_true, eq_self, if_true, if_false, q_b1, q_b2, c_A, c_R, c_O, c_M, c_H1, c_H8, c_H15, rf_A0, rf_A4, x_A_refusalOfWay, x_A_refuse]
  split
  · rename_i h0
    obtain ⟨b, hb, rfl⟩ := way_nI hv h0
    refine w_O_countTo hv hb fun x M' hM' => ?_
    simp only [gA_ways_0, gA_ways_1, gA_ways_2, gA_ways_5, gA_ways_6, gA_ways_7, gA_ways_10, gA_ways_11, gA_ways_12, gA_ways_15, gA_ways_16, gA_ways_17, gA_ways_20, gA_ways_21, gA_ways_24, gA_ways_25, gA_ways_28, ↓reduceIte, Bool.false_eq_true, Bool.true_eq_false, qk_i, qk_r, qk_n, Option.toList_some, Option.toList_none, List.cons_append, List.nil_append, true_and, and_true, true_or, or_true, eq_self, if_true, if_false, q_b1, q_b2, c_A, c_R, c_O, c_M, c_H1, c_H8, c_H15]
    exact hQ _ _ (hM'.up So_Sq)
  · exact hQ _ _ eqx_ref
theorem w_A_must {a : Int32} (hv : v_h M 1 n h) (hQ : ∀ (x : Int32) M', eqx Sq M M' → Q (some (.int x)) M') : q_Run 73 [.ref 0, .int a] M Q := by
  rw [e_A_must]
  simp only [gA_must_0, gA_must_1, gA_must_2, gA_must_5, gA_must_6, gA_must_7, gA_must_10, gA_must_11, gA_must_12, gA_must_15, gA_must_16, gA_must_17, gA_must_20, gA_must_21, gA_must_24, ↓reduceIte, Bool.false_eq_true, Bool.true_eq_false, qk_i, qk_r, qk_n, Option.toList_some, Option.toList_none, List.cons_append, List.nil_append, true_and, and_true, true_or, or_true, eq_self, if_true, if_false, q_b1, q_b2, c_A, c_R, c_O, c_M, c_H1, c_H8, c_H15, rf_A0, x_A_refusalOfWay, x_A_refuse]
  split
  · refine w_S_neededWithin hv fun x => ?_
    simp only [gA_must_0, gA_must_1, gA_must_2, gA_must_5, gA_must_6, gA_must_7, gA_must_10, gA_must_11, gA_must_12, gA_must_15, gA_must_16, gA_must_17, gA_must_20, gA_must_21, gA_must_24, ↓reduceIte, Bool.false_eq_true, Bool.true_eq_false, qk_i, qk_r, qk_n, Option.toList_some, Option.toList_none, List.cons_append, List.nil_append, true_and, and_true, true_or, or_true, eq_self, if_true, if_false, q_b1, q_b2, c_A, c_R, c_O, c_M, c_H1, c_H8, c_H15]
    exact hQ _ _ eqx.rf
  · exact hQ _ _ eqx_ref
theorem w_A_halfway {a b : Int32} (hv : v_h M 1 n h) (hQ : ∀ (x : Int32) M', eqx Sq M M' → Q (some (.int x)) M') : q_Run 62 [.ref 0, .int a, .int b] M Q := by
  rw [e_A_halfway]
  simp only [gA_halfway_0, gA_halfway_1, gA_halfway_2, gA_halfway_5, gA_halfway_6, gA_halfway_7, gA_halfway_10, gA_halfway_11, gA_halfway_12, gA_halfway_15, gA_halfway_16, gA_halfway_17, gA_halfway_20, gA_halfway_21, gA_halfway_23, gA_halfway_26, gA_halfway_27, gA_halfway_28, gA_halfway_29, gA_halfway_30, gA_halfway_33, gA_halfway_36, gA_halfway_37, gA_halfway_38, gA_halfway_39, gA_halfway_42, gA_halfway_45, gA_halfway_46, gA_halfway_48, gA_halfway_51, gA_halfway_52, gA_halfway_53, gA_halfway_56, gA_halfway_57, gA_halfway_60, gA_halfway_61, gA_halfway_62, gA_halfway_65, ↓reduceIte, Bool.false_eq_true, Bool.true_eq_false, qk_i, qk_r, qk_n, Option.toList_some, Option.toList_none, List.cons_append, List.nil_append, true_and, and_true, true_or, or_true, eq_self, if_true, if_false, q_b1, q_b2, c_A, c_R, c_O, c_M, c_H1, c_H8, c_H15, rf_A0, rf_A4, x_A_refusalOfWay, x_A_refuse, x_I_bitCount]
  split
  · rename_i h0
    obtain ⟨c, hc, rfl⟩ := way_nI hv h0
    repeat' split
    all_goals first
      | exact hQ _ _ eqx_ref
      | (refine w_O_hadInAll hv hc fun x M' hM' => ?_
         simp only [gA_halfway_0, gA_halfway_1, gA_halfway_2, gA_halfway_5, gA_halfway_6, gA_halfway_7, gA_halfway_10, gA_halfway_11, gA_halfway_12, gA_halfway_15, gA_halfway_16, gA_halfway_17, gA_halfway_20, gA_halfway_21, gA_halfway_23, gA_halfway_26, gA_halfway_27, gA_halfway_28, gA_halfway_29, gA_halfway_30, gA_halfway_33, gA_halfway_36, gA_halfway_37, gA_halfway_38, gA_halfway_39, gA_halfway_42, gA_halfway_45, gA_halfway_46, gA_halfway_48, gA_halfway_51, gA_halfway_52, gA_halfway_53, gA_halfway_56, gA_halfway_57, gA_halfway_60, gA_halfway_61, gA_halfway_62, gA_halfway_65, ↓reduceIte, Bool.false_eq_true, Bool.true_eq_false, qk_i, qk_r, qk_n, Option.toList_some, Option.toList_none, List.cons_append, List.nil_append, true_and, and_true, true_or, or_true, eq_self, if_true, if_false, q_b1, q_b2, c_A, c_R, c_O, c_M, c_H1, c_H8, c_H15]
         exact hQ _ _ (hM'.up So_Sq))
  · exact hQ _ _ eqx_ref
theorem w_A_drawer {a b c : Int32} (hQ : ∀ (x : Int64) M', eqx Sq M M' → Q (some (.long x)) M') : q_Run 61 [.ref 0, .int a, .int b, .int c] M Q := by
  rw [e_A_drawer]
  simp only [gA_drawer_0, gA_drawer_1, gA_drawer_2, gA_drawer_5, gA_drawer_6, gA_drawer_9, gA_drawer_10, gA_drawer_12, gA_drawer_15, gA_drawer_16, gA_drawer_17, gA_drawer_19, gA_drawer_22, gA_drawer_23, gA_drawer_24, gA_drawer_27, gA_drawer_28, gA_drawer_30, gA_drawer_33, gA_drawer_34, gA_drawer_35, gA_drawer_38, gA_drawer_41, gA_drawer_42, gA_drawer_44, gA_drawer_47, gA_drawer_48, gA_drawer_49, gA_drawer_50, gA_drawer_51, gA_drawer_52, gA_drawer_55, gA_drawer_57, gA_drawer_59, gA_drawer_60, gA_drawer_61, gA_drawer_62, gA_drawer_65, gA_drawer_66, gA_drawer_69, ↓reduceIte, Bool.false_eq_true, Bool.true_eq_false, qk_i, qk_r, qk_n, Option.toList_some, Option.toList_none, List.cons_append, List.nil_append, true_and, and_true, true_or, or_true, eq_self, if_true, if_false, q_b1, q_b2, c_A, c_R, c_O, c_M, c_H1, c_H8, c_H15, x_A_refuseLong, x_A_isNoPart, q_z0]
  repeat' split
  all_goals first
    | exact hQ _ _ eqx_ref
    | (refine w_F_partOf fun v => ?_
       simp only [gA_drawer_0, gA_drawer_1, gA_drawer_2, gA_drawer_5, gA_drawer_6, gA_drawer_9, gA_drawer_10, gA_drawer_12, gA_drawer_15, gA_drawer_16, gA_drawer_17, gA_drawer_19, gA_drawer_22, gA_drawer_23, gA_drawer_24, gA_drawer_27, gA_drawer_28, gA_drawer_30, gA_drawer_33, gA_drawer_34, gA_drawer_35, gA_drawer_38, gA_drawer_41, gA_drawer_42, gA_drawer_44, gA_drawer_47, gA_drawer_48, gA_drawer_49, gA_drawer_50, gA_drawer_51, gA_drawer_52, gA_drawer_55, gA_drawer_57, gA_drawer_59, gA_drawer_60, gA_drawer_61, gA_drawer_62, gA_drawer_65, gA_drawer_66, gA_drawer_69, ↓reduceIte, Bool.false_eq_true, Bool.true_eq_false, qk_i, qk_r, qk_n, Option.toList_some, Option.toList_none, List.cons_append, List.nil_append, true_and, and_true, true_or, or_true, eq_self, if_true, if_false, q_b1, q_b2, c_A, c_R, c_O, c_M, c_H1, c_H8, c_H15]
       exact hQ _ _ eqx.rf)
theorem w_A_seeker {a b : Int32} (hv : v_h M 1 n h) (hQ : ∀ (x : Int32) M', eqx Sq M M' → Q (some (.int x)) M') : q_Run 83 [.ref 0, .int a, .int b] M Q := by
  rw [e_A_seeker]
  simp only [gA_seeker_0, gA_seeker_1, gA_seeker_4, gA_seeker_7, gA_seeker_8, gA_seeker_10, gA_seeker_13, gA_seeker_14, gA_seeker_15, gA_seeker_18, gA_seeker_19, gA_seeker_21, gA_seeker_24, gA_seeker_25, gA_seeker_26, gA_seeker_29, gA_seeker_30, gA_seeker_31, gA_seeker_34, ↓reduceIte, Bool.false_eq_true, Bool.true_eq_false, qk_i, qk_r, qk_n, Option.toList_some, Option.toList_none, List.cons_append, List.nil_append, true_and, and_true, true_or, or_true, eq_self, if_true, if_false, q_b1, q_b2, c_A, c_R, c_O, c_M, c_H1, c_H8, c_H15, rf_A0, x_A_isNoSeeker, q_z0, x_A_refuse]
  repeat' split
  all_goals first
    | exact hQ _ _ eqx_ref
    | (refine w_K_takenAt hv fun x => ?_
       simp only [gA_seeker_0, gA_seeker_1, gA_seeker_4, gA_seeker_7, gA_seeker_8, gA_seeker_10, gA_seeker_13, gA_seeker_14, gA_seeker_15, gA_seeker_18, gA_seeker_19, gA_seeker_21, gA_seeker_24, gA_seeker_25, gA_seeker_26, gA_seeker_29, gA_seeker_30, gA_seeker_31, gA_seeker_34, ↓reduceIte, Bool.false_eq_true, Bool.true_eq_false, qk_i, qk_r, qk_n, Option.toList_some, Option.toList_none, List.cons_append, List.nil_append, true_and, and_true, true_or, or_true, eq_self, if_true, if_false, q_b1, q_b2, c_A, c_R, c_O, c_M, c_H1, c_H8, c_H15]
       exact hQ _ _ eqx.rf)
theorem w_A_seeks {a : Int32} (hv : v_h M 1 n h) (hQ : ∀ (x : Int32) M', eqx Sq M M' → Q (some (.int x)) M') : q_Run 84 [.ref 0, .int a] M Q := by
  rw [e_A_seeks]
  simp only [gA_seeks_0, gA_seeks_1, gA_seeks_4, gA_seeks_7, gA_seeks_8, gA_seeks_10, gA_seeks_13, gA_seeks_14, gA_seeks_15, gA_seeks_18, gA_seeks_19, gA_seeks_22, ↓reduceIte, Bool.false_eq_true, Bool.true_eq_false, qk_i, qk_r, qk_n, Option.toList_some, Option.toList_none, List.cons_append, List.nil_append, true_and, and_true, true_or, or_true, eq_self, if_true, if_false, q_b1, q_b2, c_A, c_R, c_O, c_M, c_H1, c_H8, c_H15, rf_A0, x_A_isNoSeeker, q_z0, x_A_refuse]
  repeat' split
  all_goals first
    | exact hQ _ _ eqx_ref
    | (refine w_K_minutesOfAll hv fun x => ?_
       simp only [gA_seeks_0, gA_seeks_1, gA_seeks_4, gA_seeks_7, gA_seeks_8, gA_seeks_10, gA_seeks_13, gA_seeks_14, gA_seeks_15, gA_seeks_18, gA_seeks_19, gA_seeks_22, ↓reduceIte, Bool.false_eq_true, Bool.true_eq_false, qk_i, qk_r, qk_n, Option.toList_some, Option.toList_none, List.cons_append, List.nil_append, true_and, and_true, true_or, or_true, eq_self, if_true, if_false, q_b1, q_b2, c_A, c_R, c_O, c_M, c_H1, c_H8, c_H15]
       exact hQ _ _ eqx.rf)
theorem w_A_lots {a b : Int32} (hv : v_h M 1 n h) (hQ : ∀ (x : Int32) M', eqx Sq M M' → Q (some (.int x)) M') : q_Run 70 [.ref 0, .int a, .int b] M Q := by
  rw [e_A_lots]
  simp only [gA_lots_0, gA_lots_1, gA_lots_4, gA_lots_7, gA_lots_8, gA_lots_10, gA_lots_13, gA_lots_14, gA_lots_15, gA_lots_18, gA_lots_19, gA_lots_20, gA_lots_23, ↓reduceIte, Bool.false_eq_true, Bool.true_eq_false, qk_i, qk_r, qk_n, Option.toList_some, Option.toList_none, List.cons_append, List.nil_append, true_and, and_true, true_or, or_true, eq_self, if_true, if_false, q_b1, q_b2, c_A, c_R, c_O, c_M, c_H1, c_H8, c_H15, rf_A0, x_A_isNoSeeker, q_z0, x_A_refuse]
  repeat' split
  all_goals first
    | exact hQ _ _ eqx_ref
    | (refine w_K_minutesByLot hv fun x => ?_
       simp only [gA_lots_0, gA_lots_1, gA_lots_4, gA_lots_7, gA_lots_8, gA_lots_10, gA_lots_13, gA_lots_14, gA_lots_15, gA_lots_18, gA_lots_19, gA_lots_20, gA_lots_23, ↓reduceIte, Bool.false_eq_true, Bool.true_eq_false, qk_i, qk_r, qk_n, Option.toList_some, Option.toList_none, List.cons_append, List.nil_append, true_and, and_true, true_or, or_true, eq_self, if_true, if_false, q_b1, q_b2, c_A, c_R, c_O, c_M, c_H1, c_H8, c_H15]
       exact hQ _ _ eqx.rf)
theorem w_A_count {a : Int32} (hv : v_h M 1 n h) (hQ : ∀ (x : Int32) M', eqx Sq M M' → Q (some (.int x)) M') : q_Run 59 [.ref 0, .int a] M Q := by
  rw [e_A_count]
  simp only [gA_count_0, gA_count_1, gA_count_44, gA_count_45, gA_count_48, gA_count_51, gA_count_52, gA_count_53, gA_count_56, gA_count_59, gA_count_62, gA_count_63, gA_count_64, gA_count_67, gA_count_70, gA_count_71, gA_count_72, gA_count_75, gA_count_78, gA_count_81, gA_count_82, gA_count_83, gA_count_86, gA_count_87, gA_count_90, gA_count_93, gA_count_96, gA_count_97, gA_count_98, gA_count_101, gA_count_102, gA_count_103, gA_count_106, gA_count_109, gA_count_110, gA_count_111, gA_count_113, gA_count_116, gA_count_117, gA_count_119, gA_count_122, gA_count_123, gA_count_126, gA_count_127, gA_count_129, gA_count_130, gA_count_133, gA_count_136, gA_count_138, ↓reduceIte, Bool.false_eq_true, Bool.true_eq_false, qk_i, qk_r, qk_n, Option.toList_some, Option.toList_none, List.cons_append, List.nil_append, true_and, and_true, true_or, or_true, eq_self, if_true, if_false, q_b1, q_b2, c_A, c_R, c_O, c_M, c_H1, c_H8, c_H15, rf_A0, rf_A3, rf_A6, x_I_bitCount, x_H_barred c_H1 hv.2.1 hv.2.2.1, x_H_everything c_H1, x_H_costOf c_H1 hv.2.1 hv.2.2.1, x_W_get al_29]
  repeat' split
  all_goals exact hQ _ _ eqx.rf
end CA
