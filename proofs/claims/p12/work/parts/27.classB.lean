/-! the class's own methods that change something -/
/-- a house that holds together, whatever its numbers -/
def v_H (M : q_M) (B : Nat) : Prop := ∃ n h, v_h M B n h
theorem v_H.of {M M' : q_M} {B : Nat} (v : v_H M B) (e : M' B = M B) : v_H M' B := by
  obtain ⟨n, h, v⟩ := v
  exact ⟨n, h, v.of e⟩
def IA (M : q_M) : Prop := v_H M 1 ∧ v_H M 8 ∧ (∃ r, r ≤ 12 ∧ M 0 7 = nI r) ∧ (∃ k, k ≤ 96 ∧ M 22 1 = nI k)
theorem IA.q {M M' : q_M} {S : Nat → Bool} (i : IA M) (e : eqx S M M') (h0 : S 0 = false) (h1 : S 1 = false) (h8 : S 8 = false) (h22 : S 22 = false) : IA M' :=
  ⟨i.1.of (e 1 h1), i.2.1.of (e 8 h8), by rw [e 0 h0]; exact i.2.2.1, by rw [e 22 h22]; exact i.2.2.2⟩
theorem lt_two_pow_xor {a b n : Nat} (ha : a < 2 ^ n) (hb : b < 2 ^ n) : a ^^^ b < 2 ^ n := Nat.xor_lt_two_pow ha hb
theorem v_h.xor {M : q_M} {B n h j : Nat} (v : v_h M B n h) (hj : j < n) : v_h (q_put M B 7 (M B 7 ^^^ (1 <<< (nI j &&& 31)))) B n (h ^^^ 2 ^ j) := by
  have h10 := v.2.2.1
  refine ⟨v.1, ?_, h10, ?_, lt_two_pow_xor v.2.2.2.2 (Nat.pow_lt_pow_right (by omega) hj)⟩
  · rw [q_put_at, if_neg (by decide)]
    exact v.2.1
  · rw [q_put_at, if_pos rfl, v.2.2.2.1, sh1_nI j (by omega), nx_xor]
theorem v_h.or {M M1 : q_M} {B n h j : Nat} (v : v_h M B n h) (hj : j < n) (h6 : M1 B 6 = M B 6) : v_h (q_put M1 B 7 (M B 7 ||| (1 <<< (nI j &&& 31)))) B n (h ||| 2 ^ j) := by
  have h10 := v.2.2.1
  refine ⟨v.1, ?_, h10, ?_, Nat.or_lt_two_pow v.2.2.2.2 (Nat.pow_lt_pow_right (by omega) hj)⟩
  · rw [q_put_at, if_neg (by decide), h6]
    exact v.2.1
  · rw [q_put_at, if_pos rfl, v.2.2.2.1, sh1_nI j (by omega), or_nI]
/-- letter, exactly -/
def s_letter (M : q_M) (c : Int32) : q_P := if 0 ≤ c then (if 255 < c then (-6, s_ref M (-6)) else if M 22 1 < 96 then (M 22 1 + 1, s_hear M c) else (-6, s_ref M (-6))) else (-4, s_ref M (-4))
theorem x_A_letter {Q : q_R} {M : q_M} {c : Int32} : q_Run 69 [.ref 0, .int c] M Q = Q (some (.int (s_letter M c).1)) (s_letter M c).2 := by
  rw [e_A_letter]
  simp only [gA_letter_0, gA_letter_1, gA_letter_4, gA_letter_5, gA_letter_7, gA_letter_10, gA_letter_11, gA_letter_12, gA_letter_15, gA_letter_18, gA_letter_19, gA_letter_22, gA_letter_25, gA_letter_28, gA_letter_29, gA_letter_31, gA_letter_34, gA_letter_35, gA_letter_36, gA_letter_39, gA_letter_40, gA_letter_43, ↓reduceIte, Bool.false_eq_true, Bool.true_eq_false, qk_i, qk_r, qk_n, Option.toList_some, Option.toList_none, List.cons_append, List.nil_append, true_and, and_true, true_or, or_true, eq_self, if_true, if_false, q_b1, q_b2, c_A, c_R, c_O, c_M, c_H1, c_H8, c_H15, rf_A3, x_R_isFull, x_A_refuse, x_R_hear, q_z0]
  unfold s_letter
  by_cases h1 : 0 ≤ c <;> by_cases h2 : 255 < c <;> by_cases h3 : M 22 1 < 96 <;> simp only [h1, h2, h3, ↓reduceIte, Bool.false_eq_true, Bool.true_eq_false, qk_i, qk_r, qk_n, Option.toList_some, Option.toList_none, List.cons_append, List.nil_append, true_and, and_true, true_or, or_true, eq_self, if_true, if_false, q_b1, q_b2, c_A, c_R, c_O, c_M, c_H1, c_H8, c_H15, not_true, not_false_eq_true, decide_true, decide_false, Bool.not_eq_false]
/-- the now-house and refusals -/
def Sn (c : Nat) : Bool := (decide (1 ≤ c) && decide (c ≤ 7)) || decide (c = 29)
theorem eqxn_ref {M : q_M} {w : Int32} : eqx Sn M (s_ref M w) := eqx.rf.sput (by decide)
section CB
variable {Q : q_R} {M : q_M}
theorem v_H.ref (v : v_H M 1) {w : Int32} : v_H (s_ref M w) 1 := v.of (s_put_ne (by decide))
theorem w_A_hand {a : Int32} (hv : v_H M 1) (hQ : ∀ (x : Int32) M', eqx Sn M M' → v_H M' 1 → Q (some (.int x)) M') : q_Run 63 [.ref 0, .int a] M Q := by
  rw [e_A_hand]
  simp only [gA_hand_0, gA_hand_1, gA_hand_4, gA_hand_5, gA_hand_8, gA_hand_11, gA_hand_12, gA_hand_13, gA_hand_16, gA_hand_17, gA_hand_18, gA_hand_21, gA_hand_22, gA_hand_25, ↓reduceIte, Bool.false_eq_true, Bool.true_eq_false, qk_i, qk_r, qk_n, Option.toList_some, Option.toList_none, List.cons_append, List.nil_append, true_and, and_true, true_or, or_true, eq_self, if_true, if_false, q_b1, q_b2, c_A, c_R, c_O, c_M, c_H1, c_H8, c_H15, rf_A0, x_H_isThing c_H1, q_z0, x_A_refuse, x_H_turnHand c_H1]
  split
  · rename_i ht
    obtain ⟨n, h, v⟩ := hv
    obtain ⟨j, hj, rfl⟩ := isThing_nI v ((Bool.not_eq_false _).mp ht)
    exact hQ _ _ (eqx.rf.qput (by decide)) ⟨_, _, v.xor hj⟩
  · exact hQ _ _ eqxn_ref hv.ref
theorem w_A_need {a b c : Int32} (hv : v_H M 1) (hQ : ∀ (x : Int32) M', eqx Sn M M' → v_H M' 1 → Q (some (.int x)) M') : q_Run 75 [.ref 0, .int a, .int b, .int c] M Q := by
  rw [e_A_need]
  simp only [gA_need_0, gA_need_1, gA_need_4, gA_need_5, gA_need_8, gA_need_11, gA_need_12, gA_need_15, gA_need_16, gA_need_19, gA_need_22, gA_need_23, gA_need_24, gA_need_27, gA_need_28, gA_need_29, gA_need_32, gA_need_33, gA_need_34, gA_need_37, gA_need_40, gA_need_41, gA_need_43, gA_need_46, gA_need_47, gA_need_48, gA_need_51, gA_need_52, gA_need_55, gA_need_56, gA_need_57, gA_need_60, gA_need_63, gA_need_64, gA_need_67, gA_need_68, gA_need_69, gA_need_72, ↓reduceIte, Bool.false_eq_true, Bool.true_eq_false, qk_i, qk_r, qk_n, Option.toList_some, Option.toList_none, List.cons_append, List.nil_append, true_and, and_true, true_or, or_true, eq_self, if_true, if_false, q_b1, q_b2, c_A, c_R, c_O, c_M, c_H1, c_H8, c_H15, rf_A0, x_H_isThing c_H1, q_z0, x_A_refuse, x_A_isNoPart, x_H_turnAny c_H1, x_H_turnAll c_H1]
  repeat' split
  all_goals exact hQ _ _ (eqx.rf.sput (by decide)) (hv.of (s_put_ne (by decide)))
theorem can_thing {B : Nat} {t w : Int32} (h : b_can M B t w = true) : b_isThing M B t = true := by
  unfold b_can at h
  exact ((Bool.and_eq_true _ _).mp h).1
theorem w_A_take {a : Int32} (hv : v_H M 1) (hQ : ∀ (x : Int32) M', eqx Sn M M' → v_H M' 1 → Q (some (.int x)) M') : q_Run 88 [.ref 0, .int a] M Q := by
  rw [e_A_take]
  simp only [gA_take_0, gA_take_1, gA_take_4, gA_take_5, gA_take_8, gA_take_11, gA_take_12, gA_take_13, gA_take_16, gA_take_17, gA_take_18, gA_take_21, gA_take_22, gA_take_23, gA_take_26, gA_take_29, gA_take_32, gA_take_35, gA_take_36, gA_take_38, gA_take_41, gA_take_42, gA_take_43, gA_take_46, gA_take_49, gA_take_50, gA_take_53, gA_take_54, gA_take_55, gA_take_58, gA_take_61, gA_take_64, gA_take_65, gA_take_68, gA_take_71, gA_take_72, gA_take_74, gA_take_77, gA_take_78, gA_take_79, gA_take_82, gA_take_83, gA_take_86, ↓reduceIte, Bool.false_eq_true, Bool.true_eq_false, qk_i, qk_r, qk_n, Option.toList_some, Option.toList_none, List.cons_append, List.nil_append, true_and, and_true, true_or, or_true, eq_self, if_true, if_false, q_b1, q_b2, c_A, c_R, c_O, c_M, c_H1, c_H8, c_H15, rf_A0, x_H_isThing c_H1, x_H_canBeHad c_H1, x_H_minutesOfGo c_H1, x_H_takeIt c_H1, q_z0, x_A_refuse]
  repeat' split
  all_goals first
    | exact hQ _ _ eqxn_ref hv.ref
    | (obtain ⟨n, h, v⟩ := hv
       have ht : b_isThing M 1 a = true := (Bool.not_eq_false _).mp (by assumption)
       obtain ⟨j, hj, rfl⟩ := isThing_nI v ht
       exact hQ _ _ ((eqx.rf.qput (by decide)).qput (by decide)) ⟨_, _, v.or hj (by rw [q_put_at, if_neg (by decide)])⟩)
/-- the row and refusals -/
def Sw (c : Nat) : Bool := decide (c = 0) || (decide (c = 28) || decide (c = 29))
/-- row, exactly -/
def s_row (M : q_M) (v : Int32) : q_P := if 0 ≤ v then (if 10 ≤ v then (-6, s_ref M (-6)) else if M 0 7 < 12 then (M 0 7 + 1, q_put (s_put M 28 12 (M 0 7) v) 0 7 (M 0 7 + 1)) else (-6, s_ref M (-6))) else (-4, s_ref M (-4))
theorem x_A_row {v : Int32} : q_Run 82 [.ref 0, .int v] M Q = Q (some (.int (s_row M v).1)) (s_row M v).2 := by
  have e1 : ∀ i x, s_put M 28 12 i x 0 = M 0 := fun i x => s_put_ne (by decide)
  rw [e_A_row]
  simp only [gA_row_0, gA_row_1, gA_row_4, gA_row_5, gA_row_7, gA_row_10, gA_row_11, gA_row_12, gA_row_14, gA_row_17, gA_row_18, gA_row_21, gA_row_23, gA_row_26, gA_row_27, gA_row_29, gA_row_32, gA_row_33, gA_row_34, gA_row_37, gA_row_38, gA_row_41, gA_row_42, gA_row_45, gA_row_46, gA_row_47, gA_row_50, gA_row_51, gA_row_52, gA_row_55, gA_row_56, gA_row_59, ↓reduceIte, Bool.false_eq_true, Bool.true_eq_false, qk_i, qk_r, qk_n, Option.toList_some, Option.toList_none, List.cons_append, List.nil_append, true_and, and_true, true_or, or_true, eq_self, if_true, if_false, q_b1, q_b2, c_A, c_R, c_O, c_M, c_H1, c_H8, c_H15, rf_A5, x_A_refuse, x_W_put al_28, e1, q_put_at]
  unfold s_row
  by_cases h1 : 0 ≤ v <;> by_cases h2 : 10 ≤ v <;> by_cases h3 : M 0 7 < 12 <;> simp only [h1, h2, h3, ↓reduceIte, Bool.false_eq_true, Bool.true_eq_false, qk_i, qk_r, qk_n, Option.toList_some, Option.toList_none, List.cons_append, List.nil_append, true_and, and_true, true_or, or_true, eq_self, if_true, if_false, q_b1, q_b2, c_A, c_R, c_O, c_M, c_H1, c_H8, c_H15, not_true, not_false_eq_true]
theorem w_A_judge (hv : v_H M 1) (hr : ∃ r, r ≤ 12 ∧ M 0 7 = nI r) (hQ : ∀ (x : Int32), Q (some (.int x)) (q_put M 0 7 0)) : q_Run 68 [.ref 0] M Q := by
  obtain ⟨n, h, v⟩ := hv
  obtain ⟨r, hr1, hr2⟩ := hr
  rw [e_A_judge]
  simp only [gA_judge_0, gA_judge_1, gA_judge_4, gA_judge_5, gA_judge_8, gA_judge_9, gA_judge_12, gA_judge_15, gA_judge_16, gA_judge_17, gA_judge_18, gA_judge_21, gA_judge_22, ↓reduceIte, Bool.false_eq_true, Bool.true_eq_false, qk_i, qk_r, qk_n, Option.toList_some, Option.toList_none, List.cons_append, List.nil_append, true_and, and_true, true_or, or_true, eq_self, if_true, if_false, q_b1, q_b2, c_A, c_R, c_O, c_M, c_H1, c_H8, c_H15, rf_A0, rf_A5, hr2]
  refine w_S_firstNotHad v hr1 fun x => ?_
  simp only [gA_judge_0, gA_judge_1, gA_judge_4, gA_judge_5, gA_judge_8, gA_judge_9, gA_judge_12, gA_judge_15, gA_judge_16, gA_judge_17, gA_judge_18, gA_judge_21, gA_judge_22, ↓reduceIte, Bool.false_eq_true, Bool.true_eq_false, qk_i, qk_r, qk_n, Option.toList_some, Option.toList_none, List.cons_append, List.nil_append, true_and, and_true, true_or, or_true, eq_self, if_true, if_false, q_b1, q_b2, c_A, c_R, c_O, c_M, c_H1, c_H8, c_H15]
  exact hQ _
theorem cpH_7 {B C : Nat} (hB : q_isC 0 B = true) (hC : q_isC 0 C = true) (hBC : B ≠ C) : (s_cpH M B C) B 6 = M C 6 ∧ (s_cpH M B C) B 7 = M C 7 ∧ (s_cpH M B C) B 8 = M C 8 := by
  unfold s_cpH
  refine ⟨?_, ?_, ?_⟩ <;> simp [q_put_at]
theorem cpH_v {B C : Nat} (hB : q_isC 0 B = true) (hBC : B ≠ C) (v : v_H M C) : v_H (s_cpH M B C) B := by
  obtain ⟨n, h, v⟩ := v
  obtain ⟨a, b, -⟩ := cpH_7 (M := M) hB v.1 hBC
  exact ⟨n, h, hB, by rw [a]; exact v.2.1, v.2.2.1, by rw [b]; exact v.2.2.2.1, v.2.2.2.2⟩
theorem cpH_ne {B C c : Nat} (h : c < B ∨ B + 6 < c) : (s_cpH M B C) c = M c := by
  unfold s_cpH
  rw [q_put_ne (by omega), q_put_ne (by omega), q_put_ne (by omega)]
  exact s_cpA_ne (fun k hk => by omega)
/-- the image's house, and whether there is one -/
def Si (c : Nat) : Bool := decide (c = 0) || (decide (8 ≤ c) && decide (c ≤ 14))
theorem w_A_image (hv : v_H M 1) (hQ : ∀ (x : Int32), Q (some (.int x)) (q_put (s_cpH M 8 1) 0 8 1)) : q_Run 65 [.ref 0] M Q := by
  rw [e_A_image]
  simp only [gA_image_0, gA_image_1, gA_image_4, gA_image_5, gA_image_8, gA_image_11, gA_image_12, gA_image_13, gA_image_16, gA_image_17, gA_image_20, gA_image_23, ↓reduceIte, Bool.false_eq_true, Bool.true_eq_false, qk_i, qk_r, qk_n, Option.toList_some, Option.toList_none, List.cons_append, List.nil_append, true_and, and_true, true_or, or_true, eq_self, if_true, if_false, q_b1, q_b2, c_A, c_R, c_O, c_M, c_H1, c_H8, c_H15, rf_A0, rf_A1, x_H_copyFrom c_H8 c_H1 (by decide)]
  exact hQ _
theorem w_A_on (hv : v_H M 1) (h8 : v_H M 8) (hQ : ∀ (x : Int32) M', eqx Sn M M' → v_H M' 1 → Q (some (.int x)) M') : q_Run 76 [.ref 0] M Q := by
  rw [e_A_on]
  simp only [gA_on_0, gA_on_1, gA_on_4, gA_on_7, gA_on_8, gA_on_10, gA_on_13, gA_on_14, gA_on_15, gA_on_18, gA_on_19, gA_on_22, gA_on_25, gA_on_26, gA_on_29, gA_on_32, ↓reduceIte, Bool.false_eq_true, Bool.true_eq_false, qk_i, qk_r, qk_n, Option.toList_some, Option.toList_none, List.cons_append, List.nil_append, true_and, and_true, true_or, or_true, eq_self, if_true, if_false, q_b1, q_b2, c_A, c_R, c_O, c_M, c_H1, c_H8, c_H15, rf_A0, rf_A1, x_H_copyFrom c_H1 c_H8 (by decide), x_A_refuse]
  split
  · refine hQ _ _ (fun c hc => cpH_ne ?_) (cpH_v c_H1 (by decide) h8)
    unfold Sn at hc
    simp at hc
    omega
  · exact hQ _ _ eqxn_ref hv.ref
end CB
