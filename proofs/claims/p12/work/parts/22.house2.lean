/-! House, on -/
theorem q_put_ne {M : q_M} {k j c : Nat} {v : Int32} (h : c ≠ k) : q_put M k j v c = M c := by simp [q_put, h]
theorem q_put_at {M : q_M} {k j i : Nat} {v : Int32} : q_put M k j v k i = if i = j then v else M k i := by simp [q_put, upd]
theorem s_put_ne {M : q_M} {k n c : Nat} {i v : Int32} (h : c ≠ k) : s_put M k n i v c = M c := by
  unfold s_put
  split
  · rfl
  · split
    · rfl
    · exact q_put_ne h
theorem sp_1 {M : q_M} {B n : Nat} {i v : Int32} : s_put M (B + 1) n i v B = M B := s_put_ne (by omega)
theorem sp_2 {M : q_M} {B n : Nat} {i v : Int32} : s_put M (B + 2) n i v B = M B := s_put_ne (by omega)
theorem sp_3 {M : q_M} {B n : Nat} {i v : Int32} : s_put M (B + 3) n i v B = M B := s_put_ne (by omega)
theorem sp_4 {M : q_M} {B n : Nat} {i v : Int32} : s_put M (B + 4) n i v B = M B := s_put_ne (by omega)
theorem sp_5 {M : q_M} {B n : Nat} {i v : Int32} : s_put M (B + 5) n i v B = M B := s_put_ne (by omega)
theorem sp_6 {M : q_M} {B n : Nat} {i v : Int32} : s_put M (B + 6) n i v B = M B := s_put_ne (by omega)
theorem q_in_nI {j n : Nat} (hj : j < n) (hn : n ≤ 1024) : q_in (nI j) n = true := by
  simp only [q_in, decide_eq_true_eq]
  exact nI_in hj (by omega)
theorem ofNat_nI (n : Nat) : Int32.ofNat n = nI n := rfl
/-- Rows.copy -/
def s_cp (M : q_M) (a b j : Nat) : q_M := fun c => if c = b then (fun i => if i < j then M a i else M b i) else M c
theorem s_cp_0 {M : q_M} {a b : Nat} : s_cp M a b 0 = M := by
  funext c i
  unfold s_cp
  by_cases h : c = b <;> simp [h]
theorem s_cp_s {M : q_M} {a b j : Nat} (h : a ≠ b) : q_put (s_cp M a b j) b j (M a j) = s_cp M a b (j + 1) := by
  funext c i
  by_cases hc : c = b
  · subst hc
    rw [q_put_at]
    unfold s_cp
    simp only [if_true]
    by_cases hi : i = j
    · subst hi
      simp
    · by_cases h2 : i < j
      · simp [hi, h2, Nat.lt_succ_of_lt h2]
      · simp [hi, h2, show ¬ i < j + 1 by omega]
  · rw [q_put_ne hc]
    simp [s_cp, hc]
theorem l_W_copy {Q : q_R} {M : q_M} {a b n : Nat} (ha : q_alen a = some n) (hb : q_alen b = some n) (hab : a ≠ b) : ∀ k j, j + k = n →
    q_g 0 none Q 11 [some (.ref a), some (.ref b), some (.int (nI j))] [] (s_cp M a b j) = Q none (s_cp M a b n) := by
  have hn := q_alen_lt ha
  intro k
  induction k with
  | zero =>
    intro j hj
    have : j = n := by omega
    subst this
    rw [gW_copy_11]
    simp only [gW_copy_0, gW_copy_1, gW_copy_4, gW_copy_5, gW_copy_9, gW_copy_10, gW_copy_12, gW_copy_13, gW_copy_14, gW_copy_17, gW_copy_18, gW_copy_19, gW_copy_20, gW_copy_23, gW_copy_24, gW_copy_25, gW_copy_26, gW_copy_27, gW_copy_28, gW_copy_29, gW_copy_32, gW_copy_35, ↓reduceIte, Bool.false_eq_true, Bool.true_eq_false, qk_i, qk_r, qk_n, Option.toList_some, Option.toList_none, List.cons_append, List.nil_append, true_and, and_true, true_or, or_true, eq_self, if_true, if_false, q_b1, q_b2, c_A, c_R, c_O, c_M, c_H1, c_H8, c_H15, ha, q_alenD_of ha, Option.isSome_some, ofNat_nI, Int32.le_refl]
  | succ k ih =>
    intro j hj
    have h1 : ¬ nI n ≤ nI j := nI_ge (by omega) (by omega)
    have h2 : (nI j).toNatClampNeg = j := nI_clamp (by omega)
    have h3 : s_cp M a b j a = M a := by simp [s_cp, hab]
    rw [gW_copy_11]
    simp only [gW_copy_0, gW_copy_1, gW_copy_4, gW_copy_5, gW_copy_9, gW_copy_10, gW_copy_12, gW_copy_13, gW_copy_14, gW_copy_17, gW_copy_18, gW_copy_19, gW_copy_20, gW_copy_23, gW_copy_24, gW_copy_25, gW_copy_26, gW_copy_27, gW_copy_28, gW_copy_29, gW_copy_32, gW_copy_35, ↓reduceIte, Bool.false_eq_true, Bool.true_eq_false, qk_i, qk_r, qk_n, Option.toList_some, Option.toList_none, List.cons_append, List.nil_append, true_and, and_true, true_or, or_true, eq_self, if_true, if_false, q_b1, q_b2, c_A, c_R, c_O, c_M, c_H1, c_H8, c_H15, ha, hb, q_alenD_of ha, q_alenD_of hb, Option.isSome_some, ofNat_nI, h1, h2, h3, q_in_nI (show j < n by omega) hn, s_cp_s hab, nI_1]
    exact ih (j + 1) (by omega)
theorem x_W_copy {Q : q_R} {M : q_M} {a b n : Nat} (ha : q_alen a = some n) (hb : q_alen b = some n) (hab : a ≠ b) : q_Run 0 [.ref a, .ref b] M Q = Q none (s_cp M a b n) := by
  rw [e_W_copy]
  simp only [gW_copy_0, gW_copy_1, gW_copy_4, gW_copy_5, gW_copy_9, gW_copy_10, gW_copy_12, gW_copy_13, gW_copy_14, gW_copy_17, gW_copy_18, gW_copy_19, gW_copy_20, gW_copy_23, gW_copy_24, gW_copy_25, gW_copy_26, gW_copy_27, gW_copy_28, gW_copy_29, gW_copy_32, gW_copy_35, ↓reduceIte, Bool.false_eq_true, Bool.true_eq_false, qk_i, qk_r, qk_n, Option.toList_some, Option.toList_none, List.cons_append, List.nil_append, true_and, and_true, true_or, or_true, eq_self, if_true, if_false, q_b1, q_b2, c_A, c_R, c_O, c_M, c_H1, c_H8, c_H15]
  have h := l_W_copy (Q := Q) (M := M) ha hb hab n 0 (by omega)
  rw [s_cp_0] at h
  exact h
def s_cpA (M : q_M) (B C : Nat) : q_M := s_cp (s_cp (s_cp (s_cp (s_cp (s_cp M (C + 1) (B + 1) 10) (C + 2) (B + 2) 10) (C + 3) (B + 3) 10) (C + 4) (B + 4) 10) (C + 5) (B + 5) 10) (C + 6) (B + 6) 10
def s_cpH (M : q_M) (B C : Nat) : q_M := q_put (q_put (q_put (s_cpA M B C) B 6 (M C 6)) B 7 (M C 7)) B 8 (M C 8)
theorem s_cpA_ne {M : q_M} {B C c : Nat} (h : ∀ k, k < 6 → c ≠ B + 1 + k) : s_cpA M B C c = M c := by
  have e : ∀ (N : q_M) (a b j : Nat), c ≠ b → s_cp N a b j c = N c := fun N a b j hb => by simp [s_cp, hb]
  unfold s_cpA
  rw [e _ _ _ _ (h 5 (by omega)), e _ _ _ _ (h 4 (by omega)), e _ _ _ _ (h 3 (by omega)), e _ _ _ _ (h 2 (by omega)), e _ _ _ _ (h 1 (by omega)), e _ _ _ _ (h 0 (by omega))]
theorem x_H_copyFrom {Q : q_R} {M : q_M} {B C : Nat} (hB : q_isC 0 B = true) (hC : q_isC 0 C = true) (hBC : B ≠ C) : q_Run 7 [.ref B, .ref C] M Q = Q none (s_cpH M B C) := by
  have hCC : s_cpA M B C C = M C := s_cpA_ne (fun k hk => by rcases q_house hB with rfl | rfl | rfl <;> rcases q_house hC with rfl | rfl | rfl <;> omega)
  rw [e_H_copyFrom]
  simp only [gH_copyFrom_0, gH_copyFrom_1, gH_copyFrom_4, gH_copyFrom_5, gH_copyFrom_8, gH_copyFrom_11, gH_copyFrom_12, gH_copyFrom_15, gH_copyFrom_16, gH_copyFrom_19, gH_copyFrom_22, gH_copyFrom_23, gH_copyFrom_26, gH_copyFrom_27, gH_copyFrom_30, gH_copyFrom_33, gH_copyFrom_34, gH_copyFrom_37, gH_copyFrom_38, gH_copyFrom_41, gH_copyFrom_44, gH_copyFrom_45, gH_copyFrom_48, gH_copyFrom_49, gH_copyFrom_52, gH_copyFrom_55, gH_copyFrom_56, gH_copyFrom_59, gH_copyFrom_60, gH_copyFrom_63, gH_copyFrom_66, gH_copyFrom_67, gH_copyFrom_68, gH_copyFrom_71, gH_copyFrom_74, gH_copyFrom_75, gH_copyFrom_76, gH_copyFrom_79, gH_copyFrom_82, gH_copyFrom_83, gH_copyFrom_84, gH_copyFrom_87, gH_copyFrom_90, ↓reduceIte, Bool.false_eq_true, Bool.true_eq_false, qk_i, qk_r, qk_n, Option.toList_some, Option.toList_none, List.cons_append, List.nil_append, true_and, and_true, true_or, or_true, eq_self, if_true, if_false, q_b1, q_b2, c_A, c_R, c_O, c_M, c_H1, c_H8, c_H15, hB, hC, rf_H0 hB, rf_H1 hB, rf_H2 hB, rf_H3 hB, rf_H4 hB, rf_H5 hB, rf_H0 hC, rf_H1 hC, rf_H2 hC, rf_H3 hC, rf_H4 hC, rf_H5 hC,
    x_W_copy (al_H hC).1 (al_H hB).1 (show C + 1 ≠ B + 1 by omega), x_W_copy (al_H hC).2.1 (al_H hB).2.1 (show C + 2 ≠ B + 2 by omega), x_W_copy (al_H hC).2.2.1 (al_H hB).2.2.1 (show C + 3 ≠ B + 3 by omega),
    x_W_copy (al_H hC).2.2.2.1 (al_H hB).2.2.2.1 (show C + 4 ≠ B + 4 by omega), x_W_copy (al_H hC).2.2.2.2.1 (al_H hB).2.2.2.2.1 (show C + 5 ≠ B + 5 by omega), x_W_copy (al_H hC).2.2.2.2.2 (al_H hB).2.2.2.2.2 (show C + 6 ≠ B + 6 by omega)]
  have e1 : s_cp (s_cp (s_cp (s_cp (s_cp (s_cp M (C + 1) (B + 1) 10) (C + 2) (B + 2) 10) (C + 3) (B + 3) 10) (C + 4) (B + 4) 10) (C + 5) (B + 5) 10) (C + 6) (B + 6) 10 = s_cpA M B C := rfl
  simp only [e1, hCC, q_put_ne (Ne.symm hBC)]
  rfl
/-! turning, taking, adding -/
def s_turnV (M : q_M) (k : Nat) (t o : Int32) : Int32 := s_get M k 10 t ^^^ (1 <<< (o &&& 31))
theorem x_H_turn {Q : q_R} {M : q_M} {k : Nat} {t o : Int32} (hk : q_alen k = some 10) : q_Run 18 [.ref k, .int t, .int o] M Q = Q (some (.int (s_turnV M k t o >>> (o &&& 31) &&& 1))) (s_put M k 10 t (s_turnV M k t o)) := by
  rw [e_H_turn]
  simp only [gH_turn_0, gH_turn_1, gH_turn_2, gH_turn_5, gH_turn_6, gH_turn_7, gH_turn_8, gH_turn_9, gH_turn_10, gH_turn_11, gH_turn_12, gH_turn_13, gH_turn_16, gH_turn_17, gH_turn_18, gH_turn_19, gH_turn_20, gH_turn_21, ↓reduceIte, Bool.false_eq_true, Bool.true_eq_false, qk_i, qk_r, qk_n, Option.toList_some, Option.toList_none, List.cons_append, List.nil_append, true_and, and_true, true_or, or_true, eq_self, if_true, if_false, q_b1, q_b2, c_A, c_R, c_O, c_M, c_H1, c_H8, c_H15, x_W_get hk, x_W_put hk]
  rfl
theorem x_H_turnAny {Q : q_R} {M : q_M} {B : Nat} {t o : Int32} (hB : q_isC 0 B = true) : q_Run 20 [.ref B, .int t, .int o] M Q = Q (some (.int (s_turnV M (B + 5) t o >>> (o &&& 31) &&& 1))) (s_put M (B + 5) 10 t (s_turnV M (B + 5) t o)) := by
  rw [e_H_turnAny]
  simp only [gH_turnAny_0, gH_turnAny_1, gH_turnAny_4, gH_turnAny_5, gH_turnAny_6, gH_turnAny_9, ↓reduceIte, Bool.false_eq_true, Bool.true_eq_false, qk_i, qk_r, qk_n, Option.toList_some, Option.toList_none, List.cons_append, List.nil_append, true_and, and_true, true_or, or_true, eq_self, if_true, if_false, q_b1, q_b2, c_A, c_R, c_O, c_M, c_H1, c_H8, c_H15, hB, rf_H4 hB, x_H_turn (al_H hB).2.2.2.2.1]
theorem x_H_turnAll {Q : q_R} {M : q_M} {B : Nat} {t o : Int32} (hB : q_isC 0 B = true) : q_Run 19 [.ref B, .int t, .int o] M Q = Q (some (.int (s_turnV M (B + 6) t o >>> (o &&& 31) &&& 1))) (s_put M (B + 6) 10 t (s_turnV M (B + 6) t o)) := by
  rw [e_H_turnAll]
  simp only [gH_turnAll_0, gH_turnAll_1, gH_turnAll_4, gH_turnAll_5, gH_turnAll_6, gH_turnAll_9, ↓reduceIte, Bool.false_eq_true, Bool.true_eq_false, qk_i, qk_r, qk_n, Option.toList_some, Option.toList_none, List.cons_append, List.nil_append, true_and, and_true, true_or, or_true, eq_self, if_true, if_false, q_b1, q_b2, c_A, c_R, c_O, c_M, c_H1, c_H8, c_H15, hB, rf_H5 hB, x_H_turn (al_H hB).2.2.2.2.2]
theorem x_H_turnHand {Q : q_R} {M : q_M} {B : Nat} {t : Int32} (hB : q_isC 0 B = true) : q_Run 21 [.ref B, .int t] M Q = Q (some (.int ((M B 7 ^^^ (1 <<< (t &&& 31))) >>> (t &&& 31) &&& 1))) (q_put M B 7 (M B 7 ^^^ (1 <<< (t &&& 31)))) := by
  rw [e_H_turnHand]
  simp only [gH_turnHand_0, gH_turnHand_1, gH_turnHand_2, gH_turnHand_5, gH_turnHand_6, gH_turnHand_7, gH_turnHand_8, gH_turnHand_9, gH_turnHand_12, gH_turnHand_13, gH_turnHand_16, gH_turnHand_17, gH_turnHand_18, gH_turnHand_19, gH_turnHand_20, ↓reduceIte, Bool.false_eq_true, Bool.true_eq_false, qk_i, qk_r, qk_n, Option.toList_some, Option.toList_none, List.cons_append, List.nil_append, true_and, and_true, true_or, or_true, eq_self, if_true, if_false, q_b1, q_b2, c_A, c_R, c_O, c_M, c_H1, c_H8, c_H15, hB, q_put_at]
theorem x_H_takeIt {Q : q_R} {M : q_M} {B : Nat} {t : Int32} (hB : q_isC 0 B = true) : q_Run 16 [.ref B, .int t] M Q = Q (some (.int (M B 8 + s_go M B t (M B 7)))) (q_put (q_put M B 8 (M B 8 + s_go M B t (M B 7))) B 7 (M B 7 ||| (1 <<< (t &&& 31)))) := by
  have h1 : ((7 : Nat) = 8) = False := by decide
  have h2 : ((8 : Nat) = 7) = False := by decide
  rw [e_H_takeIt]
  simp only [gH_takeIt_0, gH_takeIt_1, gH_takeIt_2, gH_takeIt_5, gH_takeIt_6, gH_takeIt_7, gH_takeIt_8, gH_takeIt_11, gH_takeIt_14, gH_takeIt_15, gH_takeIt_18, gH_takeIt_19, gH_takeIt_20, gH_takeIt_23, gH_takeIt_24, gH_takeIt_25, gH_takeIt_26, gH_takeIt_27, gH_takeIt_30, gH_takeIt_31, gH_takeIt_34, ↓reduceIte, Bool.false_eq_true, Bool.true_eq_false, qk_i, qk_r, qk_n, Option.toList_some, Option.toList_none, List.cons_append, List.nil_append, true_and, and_true, true_or, or_true, eq_self, if_true, if_false, q_b1, q_b2, c_A, c_R, c_O, c_M, c_H1, c_H8, c_H15, hB, q_put_at, x_H_minutesOfGo hB, h1, h2]
def b_range (mi su : Int32) : Bool := decide (¬ mi < 1) && (decide (¬ 30 < mi) && (decide (¬ su < 1) && decide (¬ 10 < su)))
def s_add (M : q_M) (B : Nat) (kd mi su : Int32) : q_M :=
  q_put (s_put (s_put (s_put (s_put (s_put (s_put M (B + 1) 10 (M B 6) kd) (B + 2) 10 (M B 6) mi) (B + 3) 10 (M B 6) su) (B + 4) 10 (M B 6) 1) (B + 5) 10 (M B 6) 0) (B + 6) 10 (M B 6) 0) B 6 (M B 6 + 1)
theorem x_H_addThing {Q : q_R} {M : q_M} {B : Nat} {kd mi su : Int32} (hB : q_isC 0 B = true) : q_Run 3 [.ref B, .int kd, .int mi, .int su] M Q =
    if (b_range mi su && decide (M B 6 < 10)) = true then Q (some (.int 1)) (s_add M B kd mi su) else Q (some (.int 0)) M := by
  rw [e_H_addThing]
  simp only [gH_addThing_0, gH_addThing_1, gH_addThing_2, gH_addThing_5, gH_addThing_6, gH_addThing_8, gH_addThing_11, gH_addThing_12, gH_addThing_13, gH_addThing_16, gH_addThing_17, gH_addThing_19, gH_addThing_22, gH_addThing_23, gH_addThing_26, gH_addThing_29, gH_addThing_31, gH_addThing_34, gH_addThing_35, gH_addThing_38, gH_addThing_40, gH_addThing_43, gH_addThing_44, gH_addThing_45, gH_addThing_46, gH_addThing_49, gH_addThing_50, gH_addThing_53, gH_addThing_54, gH_addThing_57, gH_addThing_58, gH_addThing_61, gH_addThing_62, gH_addThing_65, gH_addThing_66, gH_addThing_69, gH_addThing_70, gH_addThing_73, gH_addThing_74, gH_addThing_77, gH_addThing_78, gH_addThing_81, gH_addThing_82, gH_addThing_85, gH_addThing_86, gH_addThing_89, gH_addThing_90, gH_addThing_93, gH_addThing_94, gH_addThing_97, gH_addThing_98, gH_addThing_101, gH_addThing_102, gH_addThing_105, gH_addThing_106, gH_addThing_109, gH_addThing_110, gH_addThing_113, gH_addThing_114, gH_addThing_117, gH_addThing_118, gH_addThing_119, gH_addThing_122, gH_addThing_123, gH_addThing_124, gH_addThing_127, gH_addThing_128, ↓reduceIte, Bool.false_eq_true, Bool.true_eq_false, qk_i, qk_r, qk_n, Option.toList_some, Option.toList_none, List.cons_append, List.nil_append, true_and, and_true, true_or, or_true, eq_self, if_true, if_false, q_b1, q_b2, c_A, c_R, c_O, c_M, c_H1, c_H8, c_H15, q_jn]
  simp only [gH_addThing_0, gH_addThing_1, gH_addThing_2, gH_addThing_5, gH_addThing_6, gH_addThing_8, gH_addThing_11, gH_addThing_12, gH_addThing_13, gH_addThing_16, gH_addThing_17, gH_addThing_19, gH_addThing_22, gH_addThing_23, gH_addThing_26, gH_addThing_27, gH_addThing_29, gH_addThing_31, gH_addThing_34, gH_addThing_35, gH_addThing_38, gH_addThing_40, gH_addThing_43, gH_addThing_44, gH_addThing_45, gH_addThing_46, gH_addThing_49, gH_addThing_50, gH_addThing_53, gH_addThing_54, gH_addThing_57, gH_addThing_58, gH_addThing_61, gH_addThing_62, gH_addThing_65, gH_addThing_66, gH_addThing_69, gH_addThing_70, gH_addThing_73, gH_addThing_74, gH_addThing_77, gH_addThing_78, gH_addThing_81, gH_addThing_82, gH_addThing_85, gH_addThing_86, gH_addThing_89, gH_addThing_90, gH_addThing_93, gH_addThing_94, gH_addThing_97, gH_addThing_98, gH_addThing_101, gH_addThing_102, gH_addThing_105, gH_addThing_106, gH_addThing_109, gH_addThing_110, gH_addThing_113, gH_addThing_114, gH_addThing_117, gH_addThing_118, gH_addThing_119, gH_addThing_122, gH_addThing_123, gH_addThing_124, gH_addThing_127, gH_addThing_128, ↓reduceIte, Bool.false_eq_true, Bool.true_eq_false, qk_i, qk_r, qk_n, Option.toList_some, Option.toList_none, List.cons_append, List.nil_append, true_and, and_true, true_or, or_true, eq_self, if_true, if_false, q_b1, q_b2, c_A, c_R, c_O, c_M, c_H1, c_H8, c_H15, hB, rf_H0 hB, rf_H1 hB, rf_H2 hB, rf_H3 hB, rf_H4 hB, rf_H5 hB, x_W_put (al_H hB).1, x_W_put (al_H hB).2.1, x_W_put (al_H hB).2.2.1, x_W_put (al_H hB).2.2.2.1, x_W_put (al_H hB).2.2.2.2.1, x_W_put (al_H hB).2.2.2.2.2,
    sp_1, sp_2, sp_3, sp_4, sp_5, sp_6]
  unfold b_range
  by_cases h1 : mi < 1 <;> by_cases h2 : 30 < mi <;> by_cases h3 : su < 1 <;> by_cases h4 : 10 < su <;> by_cases h5 : M B 6 < 10 <;> simp [h1, h2, h3, h4, h5, s_add]
def s_tell (M : q_M) (B : Nat) (t w : Int32) : Int32 :=
  if w = 0 then s_get M (B + 1) 10 t else if w = 1 then s_get M (B + 2) 10 t else if w = 2 then s_get M (B + 3) 10 t else if w = 3 then s_get M (B + 4) 10 t else if w = 4 then s_get M (B + 5) 10 t
  else if w = 5 then s_get M (B + 6) 10 t else if w = 6 then s_go M B t (M B 7) else M B 7 >>> (t &&& 31) &&& 1
theorem x_H_tell {Q : q_R} {M : q_M} {B : Nat} {t w : Int32} (hB : q_isC 0 B = true) : q_Run 17 [.ref B, .int t, .int w] M Q = Q (some (.int (s_tell M B t w))) M := by
  rw [e_H_tell]
  simp only [gH_tell_0, gH_tell_1, gH_tell_44, gH_tell_45, gH_tell_48, gH_tell_49, gH_tell_52, gH_tell_53, gH_tell_54, gH_tell_57, gH_tell_58, gH_tell_61, gH_tell_62, gH_tell_63, gH_tell_66, gH_tell_67, gH_tell_70, gH_tell_71, gH_tell_72, gH_tell_75, gH_tell_76, gH_tell_79, gH_tell_80, gH_tell_81, gH_tell_84, gH_tell_85, gH_tell_88, gH_tell_89, gH_tell_90, gH_tell_93, gH_tell_94, gH_tell_97, gH_tell_98, gH_tell_99, gH_tell_100, gH_tell_101, gH_tell_104, gH_tell_107, gH_tell_108, gH_tell_109, gH_tell_112, gH_tell_113, gH_tell_114, gH_tell_115, gH_tell_116, ↓reduceIte, Bool.false_eq_true, Bool.true_eq_false, qk_i, qk_r, qk_n, Option.toList_some, Option.toList_none, List.cons_append, List.nil_append, true_and, and_true, true_or, or_true, eq_self, if_true, if_false, q_b1, q_b2, c_A, c_R, c_O, c_M, c_H1, c_H8, c_H15, hB, rf_H0 hB, rf_H1 hB, rf_H2 hB, rf_H3 hB, rf_H4 hB, rf_H5 hB, x_W_get (al_H hB).1, x_W_get (al_H hB).2.1, x_W_get (al_H hB).2.2.1, x_W_get (al_H hB).2.2.2.1, x_W_get (al_H hB).2.2.2.2.1, x_W_get (al_H hB).2.2.2.2.2, x_H_minutesOfGo hB, q_jq]
  rfl
/-! what may be had, what can be -/
def s_may (M : q_M) (B : Nat) (w : Int32) : Nat → Int32
  | 0 => 0
  | k + 1 => if b_can M B (nI k) w = true then s_may M B w k ||| (1 <<< (nI k &&& 31)) else s_may M B w k
theorem l_H_mayBy {Q : q_R} {M : q_M} {B n : Nat} {w : Int32} (hB : q_isC 0 B = true) (hn : M B 6 = nI n) (h10 : n ≤ 10) : ∀ k j, j + k = n →
    q_g 12 none Q 4 [some (.ref B), some (.int w), some (.int (s_may M B w j)), some (.int (nI j))] [] M = Q (some (.int (s_may M B w n))) M := by
  intro k
  induction k with
  | zero =>
    intro j hj
    have : j = n := by omega
    subst this
    simp only [gH_mayBy_0, gH_mayBy_1, gH_mayBy_2, gH_mayBy_3, gH_mayBy_4, gH_mayBy_5, gH_mayBy_6, gH_mayBy_9, gH_mayBy_12, gH_mayBy_13, gH_mayBy_14, gH_mayBy_15, gH_mayBy_18, gH_mayBy_21, gH_mayBy_22, gH_mayBy_23, gH_mayBy_24, gH_mayBy_25, gH_mayBy_26, gH_mayBy_27, gH_mayBy_30, gH_mayBy_33, gH_mayBy_34, ↓reduceIte, Bool.false_eq_true, Bool.true_eq_false, qk_i, qk_r, qk_n, Option.toList_some, Option.toList_none, List.cons_append, List.nil_append, true_and, and_true, true_or, or_true, eq_self, if_true, if_false, q_b1, q_b2, c_A, c_R, c_O, c_M, c_H1, c_H8, c_H15, hB, hn, Int32.le_refl]
  | succ k ih =>
    intro j hj
    have h1 : ¬ nI n ≤ nI j := nI_ge (by omega) (by omega)
    have ih1 := ih (j + 1) (by omega)
    rw [gH_mayBy_4]
    simp only [gH_mayBy_0, gH_mayBy_1, gH_mayBy_2, gH_mayBy_3, gH_mayBy_5, gH_mayBy_6, gH_mayBy_9, gH_mayBy_12, gH_mayBy_13, gH_mayBy_14, gH_mayBy_15, gH_mayBy_18, gH_mayBy_21, gH_mayBy_22, gH_mayBy_23, gH_mayBy_24, gH_mayBy_25, gH_mayBy_26, gH_mayBy_27, gH_mayBy_30, gH_mayBy_33, gH_mayBy_34, ↓reduceIte, Bool.false_eq_true, Bool.true_eq_false, qk_i, qk_r, qk_n, Option.toList_some, Option.toList_none, List.cons_append, List.nil_append, true_and, and_true, true_or, or_true, eq_self, if_true, if_false, q_b1, q_b2, c_A, c_R, c_O, c_M, c_H1, c_H8, c_H15, hB, hn, h1, x_H_canBeHad hB, q_z0, nI_1]
    by_cases hc : b_can M B (nI j) w = true
    · simp only [s_may, hc, if_true] at ih1
      simp only [hc, Bool.true_eq_false, if_false, ih1]
    · simp only [Bool.not_eq_true] at hc
      simp only [s_may, hc, if_false, Bool.false_eq_true] at ih1
      simp only [hc, if_true, ih1]
theorem x_H_mayBy {Q : q_R} {M : q_M} {B n : Nat} {w : Int32} (hB : q_isC 0 B = true) (hn : M B 6 = nI n) (h10 : n ≤ 10) : q_Run 12 [.ref B, .int w] M Q = Q (some (.int (s_may M B w n))) M := by
  rw [e_H_mayBy]
  simp only [gH_mayBy_0, gH_mayBy_1, gH_mayBy_2, gH_mayBy_3, gH_mayBy_5, gH_mayBy_6, gH_mayBy_9, gH_mayBy_12, gH_mayBy_13, gH_mayBy_14, gH_mayBy_15, gH_mayBy_18, gH_mayBy_21, gH_mayBy_22, gH_mayBy_23, gH_mayBy_24, gH_mayBy_25, gH_mayBy_26, gH_mayBy_27, gH_mayBy_30, gH_mayBy_33, gH_mayBy_34, ↓reduceIte, Bool.false_eq_true, Bool.true_eq_false, qk_i, qk_r, qk_n, Option.toList_some, Option.toList_none, List.cons_append, List.nil_append, true_and, and_true, true_or, or_true, eq_self, if_true, if_false, q_b1, q_b2, c_A, c_R, c_O, c_M, c_H1, c_H8, c_H15]
  exact l_H_mayBy hB hn h10 n 0 (by omega)
def s_rw (M : q_M) (B n : Nat) (al : Int32) : Nat → Int32 → Int32
  | 0, s => s
  | k + 1, s => if s_may M B s n &&& al = 0 then s else s_rw M B n al k (s ||| (s_may M B s n &&& al))
theorem l_H_reachWithin {Q : q_R} {M : q_M} {B n : Nat} {fr al : Int32} {o : Option Value} (hB : q_isC 0 B = true) (hn : M B 6 = nI n) (h10 : n ≤ 10) : ∀ k j, j + k = 10 → ∀ (s : Int32) (o : Option Value),
    q_g 15 none Q 5 [some (.ref B), some (.int fr), some (.int al), some (.int s), some (.int (nI j)), o] [] M = Q (some (.int (s_rw M B n al k s))) M := by
  intro k
  induction k with
  | zero =>
    intro j hj s o
    have : j = 10 := by omega
    subst this
    have h1 : (10 : Int32) ≤ nI 10 := by decide
    simp only [gH_reachWithin_0, gH_reachWithin_1, gH_reachWithin_2, gH_reachWithin_3, gH_reachWithin_5, gH_reachWithin_7, gH_reachWithin_9, gH_reachWithin_12, gH_reachWithin_13, gH_reachWithin_14, gH_reachWithin_17, gH_reachWithin_18, gH_reachWithin_19, gH_reachWithin_21, gH_reachWithin_23, gH_reachWithin_26, gH_reachWithin_29, gH_reachWithin_30, gH_reachWithin_32, gH_reachWithin_33, gH_reachWithin_34, gH_reachWithin_37, gH_reachWithin_40, gH_reachWithin_41, ↓reduceIte, Bool.false_eq_true, Bool.true_eq_false, qk_i, qk_r, qk_n, Option.toList_some, Option.toList_none, List.cons_append, List.nil_append, true_and, and_true, true_or, or_true, eq_self, if_true, if_false, q_b1, q_b2, c_A, c_R, c_O, c_M, c_H1, c_H8, c_H15, h1, s_rw]
  | succ k ih =>
    intro j hj s o
    have h1 : ¬ (10 : Int32) ≤ nI j := nI_ge (b := 10) (by omega) (by omega)
    rw [gH_reachWithin_5]
    simp only [gH_reachWithin_0, gH_reachWithin_1, gH_reachWithin_2, gH_reachWithin_3, gH_reachWithin_7, gH_reachWithin_9, gH_reachWithin_12, gH_reachWithin_13, gH_reachWithin_14, gH_reachWithin_17, gH_reachWithin_18, gH_reachWithin_19, gH_reachWithin_21, gH_reachWithin_23, gH_reachWithin_26, gH_reachWithin_29, gH_reachWithin_30, gH_reachWithin_32, gH_reachWithin_33, gH_reachWithin_34, gH_reachWithin_37, gH_reachWithin_40, gH_reachWithin_41, ↓reduceIte, Bool.false_eq_true, Bool.true_eq_false, qk_i, qk_r, qk_n, Option.toList_some, Option.toList_none, List.cons_append, List.nil_append, true_and, and_true, true_or, or_true, eq_self, if_true, if_false, q_b1, q_b2, c_A, c_R, c_O, c_M, c_H1, c_H8, c_H15, hB, hn, h1, x_H_mayBy hB hn h10, nI_1, s_rw, ih (j + 1) (by omega)]
    by_cases hc : s_may M B s n &&& al = 0
    · simp only [hc, if_true, not_true, if_false]
    · simp only [hc, if_false, not_false_eq_true, if_true]
theorem x_H_reachWithin {Q : q_R} {M : q_M} {B n : Nat} {fr al : Int32} (hB : q_isC 0 B = true) (hn : M B 6 = nI n) (h10 : n ≤ 10) : q_Run 15 [.ref B, .int fr, .int al] M Q = Q (some (.int (s_rw M B n al 10 fr))) M := by
  rw [e_H_reachWithin]
  simp only [gH_reachWithin_0, gH_reachWithin_1, gH_reachWithin_2, gH_reachWithin_3, gH_reachWithin_7, gH_reachWithin_9, gH_reachWithin_12, gH_reachWithin_13, gH_reachWithin_14, gH_reachWithin_17, gH_reachWithin_18, gH_reachWithin_19, gH_reachWithin_21, gH_reachWithin_23, gH_reachWithin_26, gH_reachWithin_29, gH_reachWithin_30, gH_reachWithin_32, gH_reachWithin_33, gH_reachWithin_34, gH_reachWithin_37, gH_reachWithin_40, gH_reachWithin_41, ↓reduceIte, Bool.false_eq_true, Bool.true_eq_false, qk_i, qk_r, qk_n, Option.toList_some, Option.toList_none, List.cons_append, List.nil_append, true_and, and_true, true_or, or_true, eq_self, if_true, if_false, q_b1, q_b2, c_A, c_R, c_O, c_M, c_H1, c_H8, c_H15]
  exact l_H_reachWithin (o := none) hB hn h10 10 0 (by omega) fr none
theorem x_H_reachFrom {Q : q_R} {M : q_M} {B n : Nat} {fr : Int32} (hB : q_isC 0 B = true) (hn : M B 6 = nI n) (h10 : n ≤ 10) : q_Run 14 [.ref B, .int fr] M Q = Q (some (.int (s_rw M B n (s_all M B) 10 fr))) M := by
  rw [e_H_reachFrom]
  simp only [gH_reachFrom_0, gH_reachFrom_1, gH_reachFrom_2, gH_reachFrom_3, gH_reachFrom_6, gH_reachFrom_9, ↓reduceIte, Bool.false_eq_true, Bool.true_eq_false, qk_i, qk_r, qk_n, Option.toList_some, Option.toList_none, List.cons_append, List.nil_append, true_and, and_true, true_or, or_true, eq_self, if_true, if_false, q_b1, q_b2, c_A, c_R, c_O, c_M, c_H1, c_H8, c_H15, hB, x_H_everything hB, x_H_reachWithin hB hn h10]
theorem x_H_barred {Q : q_R} {M : q_M} {B n : Nat} (hB : q_isC 0 B = true) (hn : M B 6 = nI n) (h10 : n ≤ 10) : q_Run 4 [.ref B] M Q = Q (some (.int (s_all M B &&& (s_rw M B n (s_all M B) 10 (M B 7) ^^^ (-1))))) M := by
  rw [e_H_barred]
  simp only [gH_barred_0, gH_barred_1, gH_barred_4, gH_barred_5, gH_barred_6, gH_barred_9, gH_barred_10, gH_barred_13, gH_barred_16, gH_barred_17, gH_barred_18, gH_barred_19, ↓reduceIte, Bool.false_eq_true, Bool.true_eq_false, qk_i, qk_r, qk_n, Option.toList_some, Option.toList_none, List.cons_append, List.nil_append, true_and, and_true, true_or, or_true, eq_self, if_true, if_false, q_b1, q_b2, c_A, c_R, c_O, c_M, c_H1, c_H8, c_H15, hB, x_H_everything hB, x_H_reachWithin hB hn h10]
def s_cost (M : q_M) (B : Nat) (w : Int32) : Nat → Int32
  | 0 => 0
  | k + 1 => s_cost M B w k + (w >>> (nI k &&& 31) &&& 1) * s_get M (B + 4) 10 (nI k)
theorem l_H_costOf {Q : q_R} {M : q_M} {B n : Nat} {w : Int32} (hB : q_isC 0 B = true) (hn : M B 6 = nI n) (h10 : n ≤ 10) : ∀ k j, j + k = n →
    q_g 8 none Q 4 [some (.ref B), some (.int w), some (.int (s_cost M B w j)), some (.int (nI j))] [] M = Q (some (.int (s_cost M B w n))) M := by
  intro k
  induction k with
  | zero =>
    intro j hj
    have : j = n := by omega
    subst this
    simp only [gH_costOf_0, gH_costOf_1, gH_costOf_2, gH_costOf_3, gH_costOf_4, gH_costOf_5, gH_costOf_6, gH_costOf_9, gH_costOf_12, gH_costOf_13, gH_costOf_14, gH_costOf_15, gH_costOf_16, gH_costOf_17, gH_costOf_18, gH_costOf_19, gH_costOf_22, gH_costOf_23, gH_costOf_26, gH_costOf_27, gH_costOf_28, gH_costOf_29, gH_costOf_32, gH_costOf_35, gH_costOf_36, ↓reduceIte, Bool.false_eq_true, Bool.true_eq_false, qk_i, qk_r, qk_n, Option.toList_some, Option.toList_none, List.cons_append, List.nil_append, true_and, and_true, true_or, or_true, eq_self, if_true, if_false, q_b1, q_b2, c_A, c_R, c_O, c_M, c_H1, c_H8, c_H15, hB, hn, Int32.le_refl]
  | succ k ih =>
    intro j hj
    have h1 : ¬ nI n ≤ nI j := nI_ge (by omega) (by omega)
    have ih1 := ih (j + 1) (by omega)
    simp only [s_cost] at ih1
    rw [gH_costOf_4]
    simp only [gH_costOf_0, gH_costOf_1, gH_costOf_2, gH_costOf_3, gH_costOf_5, gH_costOf_6, gH_costOf_9, gH_costOf_12, gH_costOf_13, gH_costOf_14, gH_costOf_15, gH_costOf_16, gH_costOf_17, gH_costOf_18, gH_costOf_19, gH_costOf_22, gH_costOf_23, gH_costOf_26, gH_costOf_27, gH_costOf_28, gH_costOf_29, gH_costOf_32, gH_costOf_35, gH_costOf_36, ↓reduceIte, Bool.false_eq_true, Bool.true_eq_false, qk_i, qk_r, qk_n, Option.toList_some, Option.toList_none, List.cons_append, List.nil_append, true_and, and_true, true_or, or_true, eq_self, if_true, if_false, q_b1, q_b2, c_A, c_R, c_O, c_M, c_H1, c_H8, c_H15, hB, hn, h1, rf_H3 hB, x_W_get (al_H hB).2.2.2.1, nI_1]
    exact ih1
theorem x_H_costOf {Q : q_R} {M : q_M} {B n : Nat} {w : Int32} (hB : q_isC 0 B = true) (hn : M B 6 = nI n) (h10 : n ≤ 10) : q_Run 8 [.ref B, .int w] M Q = Q (some (.int (s_cost M B w n))) M := by
  rw [e_H_costOf]
  simp only [gH_costOf_0, gH_costOf_1, gH_costOf_2, gH_costOf_3, gH_costOf_5, gH_costOf_6, gH_costOf_9, gH_costOf_12, gH_costOf_13, gH_costOf_14, gH_costOf_15, gH_costOf_16, gH_costOf_17, gH_costOf_18, gH_costOf_19, gH_costOf_22, gH_costOf_23, gH_costOf_26, gH_costOf_27, gH_costOf_28, gH_costOf_29, gH_costOf_32, gH_costOf_35, gH_costOf_36, ↓reduceIte, Bool.false_eq_true, Bool.true_eq_false, qk_i, qk_r, qk_n, Option.toList_some, Option.toList_none, List.cons_append, List.nil_append, true_and, and_true, true_or, or_true, eq_self, if_true, if_false, q_b1, q_b2, c_A, c_R, c_O, c_M, c_H1, c_H8, c_H15]
  exact l_H_costOf hB hn h10 n 0 (by omega)
