/-! DOES, MUST -/
section DOES
variable {Q : q_R} {M H : q_M} {n h : Nat} {a : Int32}
def v_does (H : q_M) (n h j : Nat) : Nat := dif (dif (rN H n h) h) (rwN H n (dif (2 ^ n - 1) (2 ^ j)) 10 (dif h (2 ^ j)))
def an_does (H : q_M) (n h : Nat) (a : Int32) : Int32 := if b_isThing H 0 a = true then nI (v_does H n h a.toNatClampNeg) else -1
theorem y_A_does (g : gH H n h) (r : RC 1 M H) (hQ : ∀ M', eqx Sq M M' → Q (some (.int (an_does H n h a))) M') : q_Run 60 [.ref 0, .int a] M Q := by
  have h10 := g.1
  have h2 := two_pow_le h10
  have e7 := e7_of g r
  unfold an_does at hQ
  rw [e_A_does]
  simp only [gA_does_0, gA_does_1, gA_does_4, gA_does_5, gA_does_8, gA_does_11, gA_does_12, gA_does_13, gA_does_16, gA_does_17, gA_does_18, gA_does_21, gA_does_22, gA_does_25, ↓reduceIte, Bool.false_eq_true, Bool.true_eq_false, qk_i, qk_r, qk_n, Option.toList_some, Option.toList_none, List.cons_append, List.nil_append, true_and, and_true, true_or, or_true, eq_self, if_true, if_false, q_b1, q_b2, c_A, c_R, c_O, c_M, c_H1, c_H8, c_H15, rf_A0, x_H_isThing c_H1, q_z0, x_A_refuse]
  rw [r.isThing]
  cases ht : b_isThing H 0 a
  · simp only [ht, Bool.false_eq_true, if_false] at hQ
    simp only [not_true, if_false]
    exact hQ _ eqx_ref
  · obtain ⟨j, hj, rfl⟩ := thing_nI g ht
    have d1 := dif_nI (x := 2 ^ n - 1) (by omega)
    have d2 := dif_nI (x := rN H n h) (rN_lt g g.hlt)
    have d3 : ∀ y, nI (dif (rN H n h) h) &&& (nI y ^^^ (-1)) = nI (dif (dif (rN H n h) h) y) := dif_nI (Nat.lt_of_le_of_lt dif_le (rN_lt g g.hlt))
    have e1 : h &&& dif (2 ^ n - 1) (2 ^ j) = dif h (2 ^ j) := and_dif h10 g.2.2.2.1
    rw [if_pos ht, nI_clamp (by omega)] at hQ
    simp only [Bool.true_eq_false, not_false_eq_true, if_true]
    rw [e_S_lostWithout]
    simp only [gS_lostWithout_0, gS_lostWithout_1, gS_lostWithout_4, gS_lostWithout_5, gS_lostWithout_6, gS_lostWithout_7, gS_lostWithout_8, gS_lostWithout_9, gS_lostWithout_10, gS_lostWithout_11, gS_lostWithout_12, gS_lostWithout_13, gS_lostWithout_16, gS_lostWithout_17, gS_lostWithout_18, gS_lostWithout_19, gS_lostWithout_22, gS_lostWithout_23, gS_lostWithout_24, gS_lostWithout_25, gS_lostWithout_28, gS_lostWithout_31, gS_lostWithout_32, gS_lostWithout_35, gS_lostWithout_36, gS_lostWithout_37, gS_lostWithout_38, gS_lostWithout_39, gS_lostWithout_40, gS_lostWithout_41, gS_lostWithout_42, gA_does_0, gA_does_1, gA_does_4, gA_does_5, gA_does_8, gA_does_11, gA_does_12, gA_does_13, gA_does_16, gA_does_17, gA_does_18, gA_does_21, gA_does_22, gA_does_25, ↓reduceIte, Bool.false_eq_true, Bool.true_eq_false, qk_i, qk_r, qk_n, Option.toList_some, Option.toList_none, List.cons_append, List.nil_append, true_and, and_true, true_or, or_true, eq_self, if_true, if_false, q_b1, q_b2, c_A, c_R, c_O, c_M, c_H1, c_H8, c_H15, y_H_everything g r, sh1_nI j (by omega), d1, e7, nx_and, e1, y_H_reachWithin g r, y_H_reachFrom g r, d2, d3]
    exact hQ _ eqx.rf
theorem al_bit {j : Nat} (g : gH H n h) : ∀ m, m < 2 ^ n → nI m &&& (nI (2 ^ j) ^^^ (-1)) = nI (m &&& dif (2 ^ n - 1) (2 ^ j)) := by
  intro m hm
  have h2 := two_pow_le g.1
  rw [dif_nI (by omega), and_dif g.1 hm]
theorem y_M_does (g : gH H n h) (r : RM M H) (hQ : ∀ M', eqx Sm M M' → Q (some (.int (an_does H n h a))) M') : q_Run 103 [.ref 30, .int a] M Q := by
  have h10 := g.1
  have h2 := two_pow_le h10
  have e8 := (g.vm r).2.2.1
  unfold an_does at hQ
  rw [e_M_does]
  simp only [gM_does_0, gM_does_1, gM_does_2, gM_does_5, gM_does_8, gM_does_9, gM_does_10, gM_does_13, gM_does_14, gM_does_15, gM_does_16, gM_does_17, gM_does_18, gM_does_19, gM_does_20, gM_does_23, gM_does_24, gM_does_27, gM_does_28, gM_does_31, gM_does_32, gM_does_33, gM_does_34, gM_does_35, gM_does_36, gM_does_39, gM_does_40, gM_does_41, gM_does_42, gM_does_43, gM_does_44, gM_does_47, gM_does_48, gM_does_49, gM_does_50, ↓reduceIte, Bool.false_eq_true, Bool.true_eq_false, qk_i, qk_r, qk_n, Option.toList_some, Option.toList_none, List.cons_append, List.nil_append, true_and, and_true, true_or, or_true, eq_self, if_true, if_false, q_b1, q_b2, c_A, c_R, c_O, c_M, c_H1, c_H8, c_H15, x_M_isThing, q_z0, x_M_no no_1, e8, y_M_reach0 g r g.hlt]
  rw [r.isThing]
  cases ht : b_isThing H 0 a
  · simp only [ht, Bool.false_eq_true, if_false] at hQ
    simp only [not_true, if_false]
    exact hQ _ eqm_no
  · obtain ⟨j, hj, rfl⟩ := thing_nI g ht
    have d2 := dif_nI (x := rN H n h) (rN_lt g g.hlt)
    have d3 : ∀ y, nI (dif (rN H n h) h) &&& (nI y ^^^ (-1)) = nI (dif (dif (rN H n h) h) y) := dif_nI (Nat.lt_of_le_of_lt dif_le (rN_lt g g.hlt))
    have d4 := dif_nI (x := h) g.hlt
    rw [if_pos ht, nI_clamp (by omega)] at hQ
    simp only [Bool.true_eq_false, not_false_eq_true, if_true, sh1_nI j (show j < 31 by omega), d4]
    rw [x_M_reachOf g r (al_bit g) (Nat.lt_of_le_of_lt dif_le g.hlt)]
    simp only [gM_does_0, gM_does_1, gM_does_2, gM_does_5, gM_does_8, gM_does_9, gM_does_10, gM_does_13, gM_does_14, gM_does_15, gM_does_16, gM_does_17, gM_does_18, gM_does_19, gM_does_20, gM_does_23, gM_does_24, gM_does_27, gM_does_28, gM_does_31, gM_does_32, gM_does_33, gM_does_34, gM_does_35, gM_does_36, gM_does_39, gM_does_40, gM_does_41, gM_does_42, gM_does_43, gM_does_44, gM_does_47, gM_does_48, gM_does_49, gM_does_50, ↓reduceIte, Bool.false_eq_true, Bool.true_eq_false, qk_i, qk_r, qk_n, Option.toList_some, Option.toList_none, List.cons_append, List.nil_append, true_and, and_true, true_or, or_true, eq_self, if_true, if_false, q_b1, q_b2, c_A, c_R, c_O, c_M, c_H1, c_H8, c_H15, d2, d3]
    exact hQ _ eqx.rf
/-- without which of a set's THINGS not all the others of it can be had by it alone; the first k looked at -/
def v_must (H : q_M) (n h S : Nat) : Nat → Nat
  | 0 => 0
  | k + 1 => if S.testBit k = true ∧ h.testBit k = false ∧ ¬ rwN H n (dif S (2 ^ k)) 10 h = dif S (2 ^ k) then v_must H n h S k ||| 2 ^ k else v_must H n h S k
theorem v_must_s (H : q_M) (n h S k : Nat) : v_must H n h S (k + 1) = if S.testBit k = true ∧ h.testBit k = false ∧ ¬ rwN H n (dif S (2 ^ k)) 10 h = dif S (2 ^ k) then v_must H n h S k ||| 2 ^ k else v_must H n h S k := rfl
def an_must (H : q_M) (n h : Nat) (a : Int32) : Int32 := if b_isSet H 0 a = true then (if H 0 7 &&& (a ^^^ (-1)) = 0 then nI (v_must H n h a.toNatClampNeg n) else -3) else -1
theorem way_eq (r : RC 1 M H) : s_way M a = if b_isSet H 0 a = true then (if H 0 7 &&& (a ^^^ (-1)) = 0 then 0 else -3) else -1 := by
  unfold s_way
  rw [r.isSet, r.2.2.1]
theorem aim_eq (g : gH H n h) (r : RM M H) : s_aim M a = if b_isSet H 0 a = true then (if H 0 7 &&& (a ^^^ (-1)) = 0 then 0 else -3) else -1 := by
  unfold s_aim
  rw [r.set g, r.2.2.1]
theorem in_sub {S : Nat} (hh : h < 1024) (e : nI h &&& (nI S ^^^ (-1)) = 0) : ∀ i, h.testBit i = true → S.testBit i = true := by
  intro i hi
  rw [dif_nI hh] at e
  have e0 : dif h S = 0 := by
    rcases Nat.eq_zero_or_pos (dif h S) with z | z
    · exact z
    · exact absurd e (nI_ne0 z (by have := @dif_le h S; omega))
  have hb := dif_tb (y := S) hh i
  rw [e0, Nat.zero_testBit, hi] at hb
  cases q : S.testBit i
  · rw [q] at hb
    cases hb
  · rfl
theorem bit_and {s j : Nat} (hs : s < 2 ^ 31) (hj : j < 31) : (nI s &&& nI (2 ^ j) = 0) = (s.testBit j = false) := by
  rw [nx_and]
  have e : s &&& 2 ^ j = if s.testBit j = true then 2 ^ j else 0 := by
    apply Nat.eq_of_testBit_eq
    intro i
    rw [Nat.testBit_and, Nat.testBit_two_pow]
    by_cases q : j = i
    · subst q
      cases hb : s.testBit j <;> simp
    · cases hb : s.testBit j <;> simp [q]
  rw [e]
  cases hb : s.testBit j
  · simp [nI_0]
  · have := nI_ne0 (Nat.two_pow_pos j) (Nat.pow_lt_pow_right (a := 2) (by omega) hj)
    simp [this]
theorem nI_inj {x y : Nat} (hx : x < 1024) (hy : y < 1024) : (nI x = nI y) = (x = y) := propext (nI_eq (by omega) (by omega))
theorem l_A_must {S : Nat} (g : gH H n h) (r : RC 1 M H) (hS : S < 1024) : ∀ k j, j + k = n → ∀ (o4 o5 o6 : Option Value),
    q_g 49 none Q 4 [some (.ref 1), some (.int (nI S)), some (.int (nI (v_must H n h S j))), some (.int (nI j)), o4, o5, o6] [] M = Q (some (.int (nI (v_must H n h S n)))) M := by
  have h10 := g.1
  have e7 := e7_of g r
  have e6 := e6_of g r
  intro k
  induction k with
  | zero =>
    intro j hj o4 o5 o6
    have : j = n := by omega
    subst this
    rw [gS_neededWithin_4]
    simp only [gS_neededWithin_0, gS_neededWithin_1, gS_neededWithin_2, gS_neededWithin_3, gS_neededWithin_5, gS_neededWithin_6, gS_neededWithin_9, gS_neededWithin_12, gS_neededWithin_13, gS_neededWithin_14, gS_neededWithin_15, gS_neededWithin_17, gS_neededWithin_18, gS_neededWithin_20, gS_neededWithin_21, gS_neededWithin_22, gS_neededWithin_23, gS_neededWithin_25, gS_neededWithin_26, gS_neededWithin_27, gS_neededWithin_30, gS_neededWithin_31, gS_neededWithin_32, gS_neededWithin_33, gS_neededWithin_35, gS_neededWithin_36, gS_neededWithin_39, gS_neededWithin_40, gS_neededWithin_43, gS_neededWithin_44, gS_neededWithin_46, gS_neededWithin_48, gS_neededWithin_51, gS_neededWithin_52, gS_neededWithin_53, gS_neededWithin_56, gS_neededWithin_58, gS_neededWithin_61, gS_neededWithin_63, gS_neededWithin_66, gS_neededWithin_67, gS_neededWithin_69, gS_neededWithin_70, gS_neededWithin_71, gS_neededWithin_74, gS_neededWithin_77, gS_neededWithin_78, ↓reduceIte, Bool.false_eq_true, Bool.true_eq_false, qk_i, qk_r, qk_n, Option.toList_some, Option.toList_none, List.cons_append, List.nil_append, true_and, and_true, true_or, or_true, eq_self, if_true, if_false, q_b1, q_b2, c_A, c_R, c_O, c_M, c_H1, c_H8, c_H15, e6, Int32.le_refl]
  | succ k ih =>
    intro j hj o4 o5 o6
    have h1 : ¬ nI n ≤ nI j := nI_ge (by omega) (by omega)
    have ih1 := ih (j + 1) (by omega)
    have d1 := dif_nI (x := S) hS
    have d2 := bit_and (s := dif S h) (j := j) (by have := @dif_le S h; omega) (by omega)
    have d3 := nI_inj (x := rwN H n (dif S (2 ^ j)) 10 h) (y := dif S (2 ^ j)) (rwN_lt h10 g.hlt 10) (Nat.lt_of_le_of_lt dif_le hS)
    rw [gS_neededWithin_4]
    simp only [gS_neededWithin_0, gS_neededWithin_1, gS_neededWithin_2, gS_neededWithin_3, gS_neededWithin_5, gS_neededWithin_6, gS_neededWithin_9, gS_neededWithin_12, gS_neededWithin_13, gS_neededWithin_14, gS_neededWithin_15, gS_neededWithin_17, gS_neededWithin_18, gS_neededWithin_20, gS_neededWithin_21, gS_neededWithin_22, gS_neededWithin_23, gS_neededWithin_25, gS_neededWithin_26, gS_neededWithin_27, gS_neededWithin_30, gS_neededWithin_31, gS_neededWithin_32, gS_neededWithin_33, gS_neededWithin_35, gS_neededWithin_36, gS_neededWithin_39, gS_neededWithin_40, gS_neededWithin_43, gS_neededWithin_44, gS_neededWithin_46, gS_neededWithin_48, gS_neededWithin_51, gS_neededWithin_52, gS_neededWithin_53, gS_neededWithin_56, gS_neededWithin_58, gS_neededWithin_61, gS_neededWithin_63, gS_neededWithin_66, gS_neededWithin_67, gS_neededWithin_69, gS_neededWithin_70, gS_neededWithin_71, gS_neededWithin_74, gS_neededWithin_77, gS_neededWithin_78, ↓reduceIte, Bool.false_eq_true, Bool.true_eq_false, qk_i, qk_r, qk_n, Option.toList_some, Option.toList_none, List.cons_append, List.nil_append, true_and, and_true, true_or, or_true, eq_self, if_true, if_false, q_b1, q_b2, c_A, c_R, c_O, c_M, c_H1, c_H8, c_H15, e6, e7, h1, sh1_nI j (by omega), d1, d2, y_H_reachWithin g r, d3, nI_1, or_nI, dif_tb hS]
    rw [v_must_s] at ih1
    cases b1 : S.testBit j
    · simp only [b1, Bool.false_eq_true, false_and, if_false] at ih1
      simp only [n1z', ↓reduceIte, if_true, if_false, eq_self, not_true, not_false_eq_true, not_true_eq_false, Bool.true_eq_false, Bool.false_eq_true, Bool.not_false, Bool.not_true, Bool.and_true, Bool.and_false, Bool.true_and, Bool.false_and, ih1]
    · cases b2 : h.testBit j
      · by_cases b3 : rwN H n (dif S (2 ^ j)) 10 h = dif S (2 ^ j)
        · simp only [b1, b2, b3, not_true, and_false, if_false] at ih1
          simp only [b3, n1z', ↓reduceIte, if_true, if_false, eq_self, not_true, not_false_eq_true, not_true_eq_false, Bool.true_eq_false, Bool.false_eq_true, Bool.not_false, Bool.not_true, Bool.and_true, Bool.and_false, Bool.true_and, Bool.false_and, ih1]
        · simp only [b1, b2, b3, not_false_eq_true, and_true, if_true] at ih1
          simp only [b3, n1z', ↓reduceIte, if_true, if_false, eq_self, not_true, not_false_eq_true, not_true_eq_false, Bool.true_eq_false, Bool.false_eq_true, Bool.not_false, Bool.not_true, Bool.and_true, Bool.and_false, Bool.true_and, Bool.false_and, ih1]
      · simp only [b1, b2, Bool.true_eq_false, false_and, and_false, if_false] at ih1
        simp only [n1z', ↓reduceIte, if_true, if_false, eq_self, not_true, not_false_eq_true, not_true_eq_false, Bool.true_eq_false, Bool.false_eq_true, Bool.not_false, Bool.not_true, Bool.and_true, Bool.and_false, Bool.true_and, Bool.false_and, ih1]
theorem y_S_must {S : Nat} (g : gH H n h) (r : RC 1 M H) (hS : S < 1024) : q_Run 49 [.ref 1, .int (nI S)] M Q = Q (some (.int (nI (v_must H n h S n)))) M := by
  rw [e_S_neededWithin]
  simp only [gS_neededWithin_0, gS_neededWithin_1, gS_neededWithin_2, gS_neededWithin_3, gS_neededWithin_5, gS_neededWithin_6, gS_neededWithin_9, gS_neededWithin_12, gS_neededWithin_13, gS_neededWithin_14, gS_neededWithin_15, gS_neededWithin_17, gS_neededWithin_18, gS_neededWithin_20, gS_neededWithin_21, gS_neededWithin_22, gS_neededWithin_23, gS_neededWithin_25, gS_neededWithin_26, gS_neededWithin_27, gS_neededWithin_30, gS_neededWithin_31, gS_neededWithin_32, gS_neededWithin_33, gS_neededWithin_35, gS_neededWithin_36, gS_neededWithin_39, gS_neededWithin_40, gS_neededWithin_43, gS_neededWithin_44, gS_neededWithin_46, gS_neededWithin_48, gS_neededWithin_51, gS_neededWithin_52, gS_neededWithin_53, gS_neededWithin_56, gS_neededWithin_58, gS_neededWithin_61, gS_neededWithin_63, gS_neededWithin_66, gS_neededWithin_67, gS_neededWithin_69, gS_neededWithin_70, gS_neededWithin_71, gS_neededWithin_74, gS_neededWithin_77, gS_neededWithin_78, ↓reduceIte, Bool.false_eq_true, Bool.true_eq_false, qk_i, qk_r, qk_n, Option.toList_some, Option.toList_none, List.cons_append, List.nil_append, true_and, and_true, true_or, or_true, eq_self, if_true, if_false, q_b1, q_b2, c_A, c_R, c_O, c_M, c_H1, c_H8, c_H15]
  exact l_A_must g r hS n 0 (by omega) none none none
theorem y_A_must (g : gH H n h) (r : RC 1 M H) (hQ : ∀ M', eqx Sq M M' → Q (some (.int (an_must H n h a))) M') : q_Run 73 [.ref 0, .int a] M Q := by
  have h10 := g.1
  have h2 := two_pow_le h10
  have z3 : ¬ (-3 : Int32) = 0 := by decide
  have z1 : ¬ (-1 : Int32) = 0 := by decide
  unfold an_must at hQ
  rw [e_A_must]
  simp only [gA_must_0, gA_must_1, gA_must_2, gA_must_5, gA_must_6, gA_must_7, gA_must_10, gA_must_11, gA_must_12, gA_must_15, gA_must_16, gA_must_17, gA_must_20, gA_must_21, gA_must_24, ↓reduceIte, Bool.false_eq_true, Bool.true_eq_false, qk_i, qk_r, qk_n, Option.toList_some, Option.toList_none, List.cons_append, List.nil_append, true_and, and_true, true_or, or_true, eq_self, if_true, if_false, q_b1, q_b2, c_A, c_R, c_O, c_M, c_H1, c_H8, c_H15, rf_A0, x_A_refusalOfWay, x_A_refuse]
  rw [way_eq r]
  cases hs : b_isSet H 0 a
  · simp only [hs, Bool.false_eq_true, if_false] at hQ
    simp only [Bool.false_eq_true, if_false, z1, not_false_eq_true, if_true]
    exact hQ _ eqx_ref
  · by_cases hw : H 0 7 &&& (a ^^^ (-1)) = 0
    · obtain ⟨S, hS, rfl⟩ := set_N g hs
      rw [if_pos hs, if_pos hw, nI_clamp (by omega)] at hQ
      simp only [hw, if_true, not_true, if_false]
      rw [y_S_must g r (show S < 1024 by omega)]
      simp only [gA_must_0, gA_must_1, gA_must_2, gA_must_5, gA_must_6, gA_must_7, gA_must_10, gA_must_11, gA_must_12, gA_must_15, gA_must_16, gA_must_17, gA_must_20, gA_must_21, gA_must_24, ↓reduceIte, Bool.false_eq_true, Bool.true_eq_false, qk_i, qk_r, qk_n, Option.toList_some, Option.toList_none, List.cons_append, List.nil_append, true_and, and_true, true_or, or_true, eq_self, if_true, if_false, q_b1, q_b2, c_A, c_R, c_O, c_M, c_H1, c_H8, c_H15]
      exact hQ _ eqx.rf
    · simp only [hs, hw, if_true, if_false] at hQ
      simp only [hw, if_true, if_false, z3, not_false_eq_true]
      exact hQ _ eqx_ref
theorem al_must {S j : Nat} (hS : S < 1024) : ∀ m, m < 1024 → nI m &&& (((nI S ^^^ (-1)) ||| nI (2 ^ j)) ^^^ (-1)) = nI (m &&& dif S (2 ^ j)) := by
  intro m hm
  apply b_ext
  intro i hi
  rw [b_and, b_xor, b_or, b_xor, b_m1 i hi, bt_nI hi, bt_nI hi, bt_nI hi, bt_nI hi, Nat.testBit_and, dif_tb hS]
  cases m.testBit i <;> cases S.testBit i <;> cases (2 ^ j).testBit i <;> rfl
theorem and_of_sub {x y : Nat} (e : ∀ i, x.testBit i = true → y.testBit i = true) : x &&& y = x := by
  apply Nat.eq_of_testBit_eq
  intro i
  rw [Nat.testBit_and]
  cases hb : x.testBit i
  · rfl
  · rw [e i hb]
    rfl
theorem l_M_must {S : Nat} {w : Int32} (g : gH H n h) (r : RM M H) (hS : S < 1024) (hsub : ∀ i, h.testBit i = true → S.testBit i = true) : ∀ k j, j + k = n → ∀ o6 : Option Value,
    q_g 126 none Q 26 [some (.ref 30), some (.int (nI S)), some (.int w), some (.int (nI (v_must H n h S j))), some (.int (nI S ^^^ (-1))), some (.int (nI j)), o6] [] M = Q (some (.int (nI (v_must H n h S n)))) M := by
  have h10 := g.1
  have h2 := two_pow_le h10
  have hv := g.vm r
  intro k
  induction k with
  | zero =>
    intro j hj o6
    have : j = n := by omega
    subst this
    rw [gM_must_26]
    simp only [gM_must_0, gM_must_1, gM_must_2, gM_must_5, gM_must_6, gM_must_7, gM_must_10, gM_must_11, gM_must_12, gM_must_15, gM_must_16, gM_must_17, gM_must_18, gM_must_19, gM_must_20, gM_must_21, gM_must_23, gM_must_24, gM_must_28, gM_must_29, gM_must_32, gM_must_35, gM_must_36, gM_must_37, gM_must_40, gM_must_41, gM_must_42, gM_must_43, gM_must_45, gM_must_48, gM_must_51, gM_must_54, gM_must_55, gM_must_56, gM_must_58, gM_must_59, gM_must_60, gM_must_61, gM_must_62, gM_must_64, gM_must_65, gM_must_66, gM_must_67, gM_must_70, gM_must_72, gM_must_73, gM_must_75, gM_must_76, gM_must_77, gM_must_80, gM_must_82, gM_must_83, gM_must_85, gM_must_88, gM_must_89, gM_must_91, gM_must_92, gM_must_95, gM_must_96, gM_must_97, gM_must_98, gM_must_101, gM_must_104, gM_must_105, ↓reduceIte, Bool.false_eq_true, Bool.true_eq_false, qk_i, qk_r, qk_n, Option.toList_some, Option.toList_none, List.cons_append, List.nil_append, true_and, and_true, true_or, or_true, eq_self, if_true, if_false, q_b1, q_b2, c_A, c_R, c_O, c_M, c_H1, c_H8, c_H15, hv.1, Int32.le_refl]
  | succ k ih =>
    intro j hj o6
    have h1 : ¬ nI n ≤ nI j := nI_ge (by omega) (by omega)
    have ih1 := ih (j + 1) (by omega)
    have d1 := dif_nI (x := S) hS
    have d2 := has_nI (s := dif S h) (j := j) (by have := @dif_le S h; omega) (by omega)
    have d3 := nI_inj (x := rwN H n (dif S (2 ^ j)) 10 h) (y := dif S (2 ^ j)) (rwN_lt h10 g.hlt 10) (Nat.lt_of_le_of_lt dif_le hS)
    have er : ∀ Q : q_R, q_Run 138 [.ref 30, .int (nI h), .int ((nI S ^^^ (-1)) ||| nI (2 ^ j))] M Q = Q (some (.int (nI (rwN H n (dif S (2 ^ j)) 10 h)))) M := fun Q => x_M_reachOf g r (fun m hm => al_must hS m (by omega)) g.hlt
    rw [gM_must_26]
    simp only [gM_must_0, gM_must_1, gM_must_2, gM_must_5, gM_must_6, gM_must_7, gM_must_10, gM_must_11, gM_must_12, gM_must_15, gM_must_16, gM_must_17, gM_must_18, gM_must_19, gM_must_20, gM_must_21, gM_must_23, gM_must_24, gM_must_28, gM_must_29, gM_must_32, gM_must_35, gM_must_36, gM_must_37, gM_must_40, gM_must_41, gM_must_42, gM_must_43, gM_must_45, gM_must_48, gM_must_51, gM_must_54, gM_must_55, gM_must_56, gM_must_58, gM_must_59, gM_must_60, gM_must_61, gM_must_62, gM_must_64, gM_must_65, gM_must_66, gM_must_67, gM_must_70, gM_must_72, gM_must_73, gM_must_75, gM_must_76, gM_must_77, gM_must_80, gM_must_82, gM_must_83, gM_must_85, gM_must_88, gM_must_89, gM_must_91, gM_must_92, gM_must_95, gM_must_96, gM_must_97, gM_must_98, gM_must_101, gM_must_104, gM_must_105, ↓reduceIte, Bool.false_eq_true, Bool.true_eq_false, qk_i, qk_r, qk_n, Option.toList_some, Option.toList_none, List.cons_append, List.nil_append, true_and, and_true, true_or, or_true, eq_self, if_true, if_false, q_b1, q_b2, c_A, c_R, c_O, c_M, c_H1, c_H8, c_H15, hv.1, h1, x_M_has, q_z0, nI_1, hv.2.2.1, d1, d2, dif_tb hS, sh1_nI j (show j < 31 by omega), er, nx_and, or_nI]
    rw [v_must_s] at ih1
    cases b1 : S.testBit j
    · simp only [b1, Bool.false_eq_true, false_and, if_false] at ih1
      simp only [n1z', ↓reduceIte, if_true, if_false, eq_self, not_true, not_false_eq_true, not_true_eq_false, Bool.true_eq_false, Bool.false_eq_true, Bool.not_false, Bool.not_true, Bool.and_true, Bool.and_false, Bool.true_and, Bool.false_and, ih1]
    · cases b2 : h.testBit j
      · have hs2 : rwN H n (dif S (2 ^ j)) 10 h &&& dif S (2 ^ j) = rwN H n (dif S (2 ^ j)) 10 h := and_of_sub fun i hi => by
          rcases rwN_sub 10 h i hi with q | q
          · rw [dif_tb hS, hsub i q, Nat.testBit_two_pow]
            by_cases e : j = i
            · subst e
              rw [b2] at q
              cases q
            · simp [e]
          · exact q
        simp only [hs2, d3]
        by_cases b3 : rwN H n (dif S (2 ^ j)) 10 h = dif S (2 ^ j)
        · simp only [b1, b2, b3, not_true, and_false, if_false] at ih1
          have e : ∀ m, nI m ||| 0 = nI m := fun m => by rw [← nI_0, or_nI, Nat.or_zero]
          simp only [gM_must_0, gM_must_1, gM_must_2, gM_must_5, gM_must_6, gM_must_7, gM_must_10, gM_must_11, gM_must_12, gM_must_15, gM_must_16, gM_must_17, gM_must_18, gM_must_19, gM_must_20, gM_must_21, gM_must_23, gM_must_24, gM_must_28, gM_must_29, gM_must_32, gM_must_35, gM_must_36, gM_must_37, gM_must_40, gM_must_41, gM_must_42, gM_must_43, gM_must_45, gM_must_48, gM_must_51, gM_must_54, gM_must_55, gM_must_56, gM_must_58, gM_must_59, gM_must_60, gM_must_61, gM_must_62, gM_must_64, gM_must_65, gM_must_66, gM_must_67, gM_must_70, gM_must_72, gM_must_73, gM_must_75, gM_must_76, gM_must_77, gM_must_80, gM_must_82, gM_must_83, gM_must_85, gM_must_88, gM_must_89, gM_must_91, gM_must_92, gM_must_95, gM_must_96, gM_must_97, gM_must_98, gM_must_101, gM_must_104, gM_must_105, ↓reduceIte, Bool.false_eq_true, Bool.true_eq_false, qk_i, qk_r, qk_n, Option.toList_some, Option.toList_none, List.cons_append, List.nil_append, true_and, and_true, true_or, or_true, eq_self, if_true, if_false, q_b1, q_b2, c_A, c_R, c_O, c_M, c_H1, c_H8, c_H15, b3, n1z', ↓reduceIte, if_true, if_false, eq_self, not_true, not_false_eq_true, not_true_eq_false, Bool.true_eq_false, Bool.false_eq_true, Bool.not_false, Bool.not_true, Bool.and_true, Bool.and_false, Bool.true_and, Bool.false_and, nI_1, e, ih1]
        · simp only [b1, b2, b3, not_false_eq_true, and_true, if_true] at ih1
          simp only [gM_must_0, gM_must_1, gM_must_2, gM_must_5, gM_must_6, gM_must_7, gM_must_10, gM_must_11, gM_must_12, gM_must_15, gM_must_16, gM_must_17, gM_must_18, gM_must_19, gM_must_20, gM_must_21, gM_must_23, gM_must_24, gM_must_28, gM_must_29, gM_must_32, gM_must_35, gM_must_36, gM_must_37, gM_must_40, gM_must_41, gM_must_42, gM_must_43, gM_must_45, gM_must_48, gM_must_51, gM_must_54, gM_must_55, gM_must_56, gM_must_58, gM_must_59, gM_must_60, gM_must_61, gM_must_62, gM_must_64, gM_must_65, gM_must_66, gM_must_67, gM_must_70, gM_must_72, gM_must_73, gM_must_75, gM_must_76, gM_must_77, gM_must_80, gM_must_82, gM_must_83, gM_must_85, gM_must_88, gM_must_89, gM_must_91, gM_must_92, gM_must_95, gM_must_96, gM_must_97, gM_must_98, gM_must_101, gM_must_104, gM_must_105, ↓reduceIte, Bool.false_eq_true, Bool.true_eq_false, qk_i, qk_r, qk_n, Option.toList_some, Option.toList_none, List.cons_append, List.nil_append, true_and, and_true, true_or, or_true, eq_self, if_true, if_false, q_b1, q_b2, c_A, c_R, c_O, c_M, c_H1, c_H8, c_H15, b3, n1z', ↓reduceIte, if_true, if_false, eq_self, not_true, not_false_eq_true, not_true_eq_false, Bool.true_eq_false, Bool.false_eq_true, Bool.not_false, Bool.not_true, Bool.and_true, Bool.and_false, Bool.true_and, Bool.false_and, nI_1, or_nI, ih1]
      · simp only [b1, b2, Bool.true_eq_false, false_and, and_false, if_false] at ih1
        simp only [n1z', ↓reduceIte, if_true, if_false, eq_self, not_true, not_false_eq_true, not_true_eq_false, Bool.true_eq_false, Bool.false_eq_true, Bool.not_false, Bool.not_true, Bool.and_true, Bool.and_false, Bool.true_and, Bool.false_and, ih1]
theorem y_M_must (g : gH H n h) (r : RM M H) (hQ : ∀ M', eqx Sm M M' → Q (some (.int (an_must H n h a))) M') : q_Run 126 [.ref 30, .int a] M Q := by
  have h10 := g.1
  have h2 := two_pow_le h10
  have z3 : ¬ (-3 : Int32) = 0 := by decide
  have z1 : ¬ (-1 : Int32) = 0 := by decide
  unfold an_must at hQ
  rw [e_M_must]
  simp only [gM_must_0, gM_must_1, gM_must_2, gM_must_5, gM_must_6, gM_must_7, gM_must_10, gM_must_11, gM_must_12, gM_must_15, gM_must_16, gM_must_17, gM_must_18, gM_must_19, gM_must_20, gM_must_21, gM_must_23, gM_must_24, gM_must_28, gM_must_29, gM_must_32, gM_must_35, gM_must_36, gM_must_37, gM_must_40, gM_must_41, gM_must_42, gM_must_43, gM_must_45, gM_must_48, gM_must_51, gM_must_54, gM_must_55, gM_must_56, gM_must_58, gM_must_59, gM_must_60, gM_must_61, gM_must_62, gM_must_64, gM_must_65, gM_must_66, gM_must_67, gM_must_70, gM_must_72, gM_must_73, gM_must_75, gM_must_76, gM_must_77, gM_must_80, gM_must_82, gM_must_83, gM_must_85, gM_must_88, gM_must_89, gM_must_91, gM_must_92, gM_must_95, gM_must_96, gM_must_97, gM_must_98, gM_must_101, gM_must_104, gM_must_105, ↓reduceIte, Bool.false_eq_true, Bool.true_eq_false, qk_i, qk_r, qk_n, Option.toList_some, Option.toList_none, List.cons_append, List.nil_append, true_and, and_true, true_or, or_true, eq_self, if_true, if_false, q_b1, q_b2, c_A, c_R, c_O, c_M, c_H1, c_H8, c_H15, x_M_notAimed, x_M_no (aim_in (M := M) (s := a))]
  rw [aim_eq g r]
  cases hs : b_isSet H 0 a
  · simp only [hs, Bool.false_eq_true, if_false] at hQ
    simp only [Bool.false_eq_true, if_false, z1, not_false_eq_true, if_true]
    exact hQ _ eqm_no
  · by_cases hw : H 0 7 &&& (a ^^^ (-1)) = 0
    · obtain ⟨S, hS, rfl⟩ := set_N g hs
      have hsub := in_sub g.hlt (by rw [g.2.2.1] at hw; exact hw)
      rw [if_pos hs, if_pos hw, nI_clamp (by omega)] at hQ
      simp only [hw, if_true, not_true, if_false]
      exact Eq.mpr (l_M_must g r (show S < 1024 by omega) hsub n 0 (by omega) none) (hQ _ eqx.rf)
    · simp only [hs, hw, if_true, if_false] at hQ
      simp only [hw, if_true, if_false, z3, not_false_eq_true]
      exact hQ _ eqm_no
end DOES
