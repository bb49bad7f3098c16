/-! the reference: what changes something small; the image -/
def f30 (S : Nat → Bool) (M M' : q_M) : Prop := ∀ f, S f = false → M' 30 f = M 30 f
/-- only the cells of S, and of the object the fields of F -/
def eqf (S F : Nat → Bool) (M M' : q_M) : Prop := (∀ c, c ≠ 30 → S c = false → M' c = M c) ∧ f30 F M M'
theorem eqf.rf {S F : Nat → Bool} {M : q_M} : eqf S F M M := ⟨fun _ _ _ => rfl, fun _ _ => rfl⟩
theorem eqf.tr {S F : Nat → Bool} {M M1 M2 : q_M} (h1 : eqf S F M M1) (h2 : eqf S F M1 M2) : eqf S F M M2 := ⟨fun c a b => (h2.1 c a b).trans (h1.1 c a b), fun f a => (h2.2 f a).trans (h1.2 f a)⟩
theorem eqf.cell {S F : Nat → Bool} {M M1 : q_M} {k j : Nat} {v : Int32} (h : eqf S F M M1) (hk : S k = true) (h30 : (30 : Nat) ≠ k) : eqf S F M (q_put M1 k j v) :=
  ⟨fun c a b => (q_put_ne (fun e => by rw [e, hk] at b; cases b)).trans (h.1 c a b), fun f a => by rw [q_put_ne h30]; exact h.2 f a⟩
theorem eqf.fld {S F : Nat → Bool} {M M1 : q_M} {j : Nat} {v : Int32} (h : eqf S F M M1) (hj : F j = true) : eqf S F M (q_put M1 30 j v) :=
  ⟨fun c a b => (q_put_ne a).trans (h.1 c a b), fun f a => by rw [q_put_at, if_neg (fun e => by rw [e, hj] at a; cases a)]; exact h.2 f a⟩
theorem eqf.up {S S' F F' : Nat → Bool} {M M' : q_M} (h : eqf S F M M') (hS : ∀ c, S' c = false → S c = false) (hF : ∀ c, F' c = false → F c = false) : eqf S' F' M M' := ⟨fun c a b => h.1 c a (hS c b), fun f a => h.2 f (hF f a)⟩
section MB
variable {Q : q_R} {M : q_M} {n h : Nat}
def s_mletter (M : q_M) (c : Int32) : q_P := if 0 ≤ c then (if c ≤ 255 then (if M 30 14 = 96 then (-6, s_no M (-6)) else (M 30 14 + 1, q_put (q_put M 38 (M 30 14).toNatClampNeg c) 30 14 (M 30 14 + 1))) else (-6, s_no M (-6))) else (-4, s_no M (-4))
theorem x_M_letter {c : Int32} {k : Nat} (hk : k ≤ 96) (ht : M 30 14 = nI k) : q_Run 120 [.ref 30, .int c] M Q = Q (some (.int (s_mletter M c).1)) (s_mletter M c).2 := by
  have e38 : ∀ j v, q_put M 38 j v 30 = M 30 := fun j v => q_put_ne (by decide)
  have n6 : ((-6 : Int32) = 0) = False := by decide
  have n4 : ((-4 : Int32) = 0) = False := by decide
  rw [e_M_letter]
  simp only [gM_letter_0, gM_letter_1, gM_letter_2, gM_letter_5, gM_letter_8, gM_letter_9, gM_letter_10, gM_letter_13, gM_letter_14, gM_letter_17, gM_letter_19, gM_letter_22, gM_letter_24, gM_letter_25, gM_letter_26, gM_letter_29, gM_letter_30, gM_letter_31, gM_letter_34, gM_letter_36, gM_letter_39, gM_letter_40, gM_letter_43, gM_letter_44, gM_letter_45, gM_letter_46, gM_letter_47, gM_letter_50, gM_letter_51, gM_letter_52, gM_letter_55, gM_letter_56, gM_letter_59, ↓reduceIte, Bool.false_eq_true, Bool.true_eq_false, qk_i, qk_r, qk_n, Option.toList_some, Option.toList_none, List.cons_append, List.nil_append, true_and, and_true, true_or, or_true, eq_self, if_true, if_false, q_b1, q_b2, c_A, c_R, c_O, c_M, c_H1, c_H8, c_H15, x_M_bound]
  unfold s_bound s_mletter
  by_cases h1 : 0 ≤ c
  · by_cases h2 : c ≤ 255
    · by_cases h3 : M 30 14 = 96
      · simp only [h1, h2, h3, ↓reduceIte, Bool.false_eq_true, Bool.true_eq_false, qk_i, qk_r, qk_n, Option.toList_some, Option.toList_none, List.cons_append, List.nil_append, true_and, and_true, true_or, or_true, eq_self, if_true, if_false, q_b1, q_b2, c_A, c_R, c_O, c_M, c_H1, c_H8, c_H15, not_true, n6, x_M_no no_6, gM_letter_34]
      · have hlt : k < 96 := by
          rcases Nat.lt_or_ge k 96 with q | q
          · exact q
          · exact absurd (by rw [ht, show k = 96 by omega]; rfl) h3
        have hin : q_in (nI k) 96 = true := q_in_nI hlt (by omega)
        rw [ht] at h3
        simp only [h1, h2, h3, ↓reduceIte, Bool.false_eq_true, Bool.true_eq_false, qk_i, qk_r, qk_n, Option.toList_some, Option.toList_none, List.cons_append, List.nil_append, true_and, and_true, true_or, or_true, eq_self, if_true, if_false, q_b1, q_b2, c_A, c_R, c_O, c_M, c_H1, c_H8, c_H15, not_true, not_false_eq_true, gM_letter_35, gM_letter_36, gM_letter_39, gM_letter_40, gM_letter_43, gM_letter_44, gM_letter_45, gM_letter_46, gM_letter_47, gM_letter_50, gM_letter_51, gM_letter_52, gM_letter_55, gM_letter_56, gM_letter_59, rf_M10, aD_38, ht, hin, e38, q_put_at]
    · simp only [h1, h2, ↓reduceIte, Bool.false_eq_true, Bool.true_eq_false, qk_i, qk_r, qk_n, Option.toList_some, Option.toList_none, List.cons_append, List.nil_append, true_and, and_true, true_or, or_true, eq_self, if_true, if_false, q_b1, q_b2, c_A, c_R, c_O, c_M, c_H1, c_H8, c_H15, not_true, not_false_eq_true, n6, x_M_no no_6, gM_letter_34]
  · simp only [h1, ↓reduceIte, Bool.false_eq_true, Bool.true_eq_false, qk_i, qk_r, qk_n, Option.toList_some, Option.toList_none, List.cons_append, List.nil_append, true_and, and_true, true_or, or_true, eq_self, if_true, if_false, q_b1, q_b2, c_A, c_R, c_O, c_M, c_H1, c_H8, c_H15, not_true, not_false_eq_true, n4, x_M_no no_4, gM_letter_34]
def s_mrow (M : q_M) (c : Int32) : q_P := if 0 ≤ c then (if c ≤ 9 then (if M 30 25 = 12 then (-6, s_no M (-6)) else (M 30 25 + 1, q_put (q_put M 46 (M 30 25).toNatClampNeg c) 30 25 (M 30 25 + 1))) else (-6, s_no M (-6))) else (-4, s_no M (-4))
theorem x_M_row {c : Int32} {k : Nat} (hk : k ≤ 12) (ht : M 30 25 = nI k) : q_Run 143 [.ref 30, .int c] M Q = Q (some (.int (s_mrow M c).1)) (s_mrow M c).2 := by
  have e38 : ∀ j v, q_put M 46 j v 30 = M 30 := fun j v => q_put_ne (by decide)
  have n6 : ((-6 : Int32) = 0) = False := by decide
  have n4 : ((-4 : Int32) = 0) = False := by decide
  rw [e_M_row]
  simp only [gM_row_0, gM_row_1, gM_row_2, gM_row_4, gM_row_7, gM_row_8, gM_row_9, gM_row_12, gM_row_13, gM_row_16, gM_row_18, gM_row_21, gM_row_23, gM_row_24, gM_row_25, gM_row_28, gM_row_29, gM_row_30, gM_row_33, gM_row_35, gM_row_38, gM_row_39, gM_row_42, gM_row_43, gM_row_44, gM_row_45, gM_row_46, gM_row_49, gM_row_50, gM_row_51, gM_row_54, gM_row_55, gM_row_58, ↓reduceIte, Bool.false_eq_true, Bool.true_eq_false, qk_i, qk_r, qk_n, Option.toList_some, Option.toList_none, List.cons_append, List.nil_append, true_and, and_true, true_or, or_true, eq_self, if_true, if_false, q_b1, q_b2, c_A, c_R, c_O, c_M, c_H1, c_H8, c_H15, x_M_bound]
  unfold s_bound s_mrow
  by_cases h1 : 0 ≤ c
  · by_cases h2 : c ≤ 9
    · by_cases h3 : M 30 25 = 12
      · simp only [h1, h2, h3, ↓reduceIte, Bool.false_eq_true, Bool.true_eq_false, qk_i, qk_r, qk_n, Option.toList_some, Option.toList_none, List.cons_append, List.nil_append, true_and, and_true, true_or, or_true, eq_self, if_true, if_false, q_b1, q_b2, c_A, c_R, c_O, c_M, c_H1, c_H8, c_H15, not_true, n6, x_M_no no_6, gM_row_33]
      · have hlt : k < 12 := by
          rcases Nat.lt_or_ge k 12 with q | q
          · exact q
          · exact absurd (by rw [ht, show k = 12 by omega]; rfl) h3
        have hin : q_in (nI k) 12 = true := q_in_nI hlt (by omega)
        rw [ht] at h3
        simp only [h1, h2, h3, ↓reduceIte, Bool.false_eq_true, Bool.true_eq_false, qk_i, qk_r, qk_n, Option.toList_some, Option.toList_none, List.cons_append, List.nil_append, true_and, and_true, true_or, or_true, eq_self, if_true, if_false, q_b1, q_b2, c_A, c_R, c_O, c_M, c_H1, c_H8, c_H15, not_true, not_false_eq_true, gM_row_34, gM_row_35, gM_row_38, gM_row_39, gM_row_42, gM_row_43, gM_row_44, gM_row_45, gM_row_46, gM_row_49, gM_row_50, gM_row_51, gM_row_54, gM_row_55, gM_row_58, rf_M24, aD_46, ht, hin, e38, q_put_at]
    · simp only [h1, h2, ↓reduceIte, Bool.false_eq_true, Bool.true_eq_false, qk_i, qk_r, qk_n, Option.toList_some, Option.toList_none, List.cons_append, List.nil_append, true_and, and_true, true_or, or_true, eq_self, if_true, if_false, q_b1, q_b2, c_A, c_R, c_O, c_M, c_H1, c_H8, c_H15, not_true, not_false_eq_true, n6, x_M_no no_6, gM_row_33]
  · simp only [h1, ↓reduceIte, Bool.false_eq_true, Bool.true_eq_false, qk_i, qk_r, qk_n, Option.toList_some, Option.toList_none, List.cons_append, List.nil_append, true_and, and_true, true_or, or_true, eq_self, if_true, if_false, q_b1, q_b2, c_A, c_R, c_O, c_M, c_H1, c_H8, c_H15, not_true, not_false_eq_true, n4, x_M_no no_4, gM_row_33]
theorem has_any {m : Nat} {v : Int32} (hm : m < 1024) (hb : b_has (nI m) v = true) : ∃ j, j < 10 ∧ (1 : Int32) <<< (v &&& 31) = nI (2 ^ j) := by
  obtain ⟨x, hx, rfl⟩ := wb_of32 v
  have e1 : nI x &&& 31 = nI (x &&& 31) := nx_and x 31
  have hlt : x &&& 31 ≤ 31 := Nat.and_le_right
  have e2 : nI (x &&& 31) &&& 31 = nI (x &&& 31) := by
    rw [show (31 : Int32) = nI 31 from rfl, nx_and, Nat.and_assoc, Nat.and_self]
  unfold b_has at hb
  have hb := of_decide_eq_true hb
  rw [e1, ← e2] at hb
  generalize x &&& 31 = j at hb hlt e1 e2
  rcases Nat.lt_or_ge j 31 with hj | hj
  · rw [bit_nI (by omega) hj] at hb
    have ht : m.testBit j = true := by
      cases q : m.testBit j
      · rw [q] at hb
        exact absurd hb (by decide)
      · rfl
    have h10 : j < 10 := by
      rcases Nat.lt_or_ge j 10 with z | z
      · exact z
      · have : m.testBit j = false := Nat.testBit_lt_two_pow (Nat.lt_of_lt_of_le hm (Nat.pow_le_pow_right (n := 2) (by omega) z))
        rw [this] at ht
        cases ht
    exact ⟨j, h10, by rw [e1, ← e2, sh1_nI j hj]⟩
  · have : j = 31 := by omega
    subst this
    exfalso
    have h0 : bt (nI m >>> (nI 31 &&& 31) &&& 1) 0 = bt 1 0 := by rw [hb]
    rw [b_and, b_sshr 31 (by omega) _ (by omega), if_pos (by omega), bt_nI (by omega), Nat.testBit_lt_two_pow (show m < 2 ^ (31 + 0) by omega)] at h0
    exact absurd h0 (by decide)
theorem w_M_judge_l {r : Nat} (hv : v_m M n h) (hr : r ≤ 12) (hQ : ∀ x : Int32, Q (some (.int x)) M) : ∀ k j, j + k = r → ∀ s : Nat, s < 1024 →
    q_g 118 none Q 17 [some (.ref 30), some (.int (nI r)), some (.int (nI s)), some (.int (nI j))] [] M := by
  have h2 := two_pow_le hv.2.1
  intro k
  induction k with
  | zero =>
    intro j hj s hs
    have : j = r := by omega
    subst this
    rw [gM_judge_17]
    simp only [gM_judge_0, gM_judge_1, gM_judge_4, gM_judge_5, gM_judge_6, gM_judge_7, gM_judge_10, gM_judge_11, gM_judge_14, gM_judge_15, gM_judge_16, gM_judge_18, gM_judge_19, gM_judge_22, gM_judge_23, gM_judge_24, gM_judge_27, gM_judge_28, gM_judge_31, gM_judge_32, gM_judge_33, gM_judge_36, gM_judge_39, gM_judge_40, gM_judge_41, gM_judge_42, gM_judge_43, gM_judge_44, gM_judge_47, gM_judge_48, gM_judge_49, gM_judge_50, gM_judge_51, gM_judge_52, gM_judge_55, gM_judge_58, gM_judge_60, ↓reduceIte, Bool.false_eq_true, Bool.true_eq_false, qk_i, qk_r, qk_n, Option.toList_some, Option.toList_none, List.cons_append, List.nil_append, true_and, and_true, true_or, or_true, eq_self, if_true, if_false, q_b1, q_b2, c_A, c_R, c_O, c_M, c_H1, c_H8, c_H15, Int32.le_refl]
    exact hQ _
  | succ k ih =>
    intro j hj s hs
    have h1 : ¬ nI r ≤ nI j := nI_ge (by omega) (by omega)
    have hin : q_in (nI j) 12 = true := q_in_nI (by omega) (by omega)
    rw [gM_judge_17]
    simp only [gM_judge_0, gM_judge_1, gM_judge_4, gM_judge_5, gM_judge_6, gM_judge_7, gM_judge_10, gM_judge_11, gM_judge_14, gM_judge_15, gM_judge_16, gM_judge_18, gM_judge_19, gM_judge_22, gM_judge_23, gM_judge_24, gM_judge_27, gM_judge_28, gM_judge_31, gM_judge_32, gM_judge_33, gM_judge_36, gM_judge_39, gM_judge_40, gM_judge_41, gM_judge_42, gM_judge_43, gM_judge_44, gM_judge_47, gM_judge_48, gM_judge_49, gM_judge_50, gM_judge_51, gM_judge_52, gM_judge_55, gM_judge_58, gM_judge_60, ↓reduceIte, Bool.false_eq_true, Bool.true_eq_false, qk_i, qk_r, qk_n, Option.toList_some, Option.toList_none, List.cons_append, List.nil_append, true_and, and_true, true_or, or_true, eq_self, if_true, if_false, q_b1, q_b2, c_A, c_R, c_O, c_M, c_H1, c_H8, c_H15, h1]
    refine w_M_mayBy hv hs fun m hm hd => ?_
    simp only [gM_judge_0, gM_judge_1, gM_judge_4, gM_judge_5, gM_judge_6, gM_judge_7, gM_judge_10, gM_judge_11, gM_judge_14, gM_judge_15, gM_judge_16, gM_judge_18, gM_judge_19, gM_judge_22, gM_judge_23, gM_judge_24, gM_judge_27, gM_judge_28, gM_judge_31, gM_judge_32, gM_judge_33, gM_judge_36, gM_judge_39, gM_judge_40, gM_judge_41, gM_judge_42, gM_judge_43, gM_judge_44, gM_judge_47, gM_judge_48, gM_judge_49, gM_judge_50, gM_judge_51, gM_judge_52, gM_judge_55, gM_judge_58, gM_judge_60, ↓reduceIte, Bool.false_eq_true, Bool.true_eq_false, qk_i, qk_r, qk_n, Option.toList_some, Option.toList_none, List.cons_append, List.nil_append, true_and, and_true, true_or, or_true, eq_self, if_true, if_false, q_b1, q_b2, c_A, c_R, c_O, c_M, c_H1, c_H8, c_H15, rf_M24, aD_46, hin, x_M_has, q_z0, nI_1]
    split
    · rename_i h0
      obtain ⟨i, hi, e⟩ := has_any (by omega) ((Bool.not_eq_false _).mp h0)
      rw [e, or_nI]
      exact ih (j + 1) (by omega) _ (or1_lt hs hi)
    · exact hQ _
theorem v_m.f30 {M' : q_M} (v : v_m M n h) {S F : Nat → Bool} (e : eqf S F M M') (h7 : F 7 = false) (h8 : F 8 = false) (h34 : S 34 = false) : v_m M' n h := v.of (e.2 7 h7) (e.2 8 h8) (e.1 34 (by decide) h34)
theorem w_M_judge {r : Nat} (hv : v_m M n h) (hr : r ≤ 12) (h25 : M 30 25 = nI r) (hQ : ∀ x : Int32, Q (some (.int x)) (q_put M 30 25 0)) : q_Run 118 [.ref 30] M Q := by
  have hv' : v_m (q_put M 30 25 0) n h := hv.f30 (S := fun _ => false) (F := fun f => f == 25) (eqf.rf.fld (by decide)) (by decide) (by decide) (by decide)
  rw [e_M_judge]
  simp only [gM_judge_0, gM_judge_1, gM_judge_4, gM_judge_5, gM_judge_6, gM_judge_7, gM_judge_10, gM_judge_11, gM_judge_14, gM_judge_15, gM_judge_16, gM_judge_18, gM_judge_19, gM_judge_22, gM_judge_23, gM_judge_24, gM_judge_27, gM_judge_28, gM_judge_31, gM_judge_32, gM_judge_33, gM_judge_36, gM_judge_39, gM_judge_40, gM_judge_41, gM_judge_42, gM_judge_43, gM_judge_44, gM_judge_47, gM_judge_48, gM_judge_49, gM_judge_50, gM_judge_51, gM_judge_52, gM_judge_55, gM_judge_58, gM_judge_60, ↓reduceIte, Bool.false_eq_true, Bool.true_eq_false, qk_i, qk_r, qk_n, Option.toList_some, Option.toList_none, List.cons_append, List.nil_append, true_and, and_true, true_or, or_true, eq_self, if_true, if_false, q_b1, q_b2, c_A, c_R, c_O, c_M, c_H1, c_H8, c_H15, h25, hv'.2.2.1]
  exact w_M_judge_l hv' hr hQ r 0 (by omega) h hv.hlt
/-- the house's rows, things, hand, minute, refusals -/
def Sv (c : Nat) : Bool := decide (31 ≤ c) && decide (c ≤ 37)
def Gv (f : Nat) : Bool := decide (7 ≤ f) && decide (f ≤ 9)
theorem eqv_no {w : Int32} : eqf Sv Gv M (s_no M w) := by
  unfold s_no
  exact eqf.rf.cell (by decide) (by decide)
def v_M (M : q_M) : Prop := ∃ n h, v_m M n h
theorem v_M.no (hv : v_M M) {w : Int32} : v_M (s_no M w) := by
  obtain ⟨n, h, v⟩ := hv
  unfold s_no
  exact ⟨n, h, v.of (by rw [q_put_ne (by decide)]) (by rw [q_put_ne (by decide)]) (by rw [q_put_ne (by decide)])⟩
theorem v_M.cell (hv : v_M M) {k j : Nat} {x : Int32} (h30 : (30 : Nat) ≠ k) (h34 : (34 : Nat) ≠ k) : v_M (q_put M k j x) := by
  obtain ⟨n, h, v⟩ := hv
  exact ⟨n, h, v.of (by rw [q_put_ne h30]) (by rw [q_put_ne h30]) (by rw [q_put_ne h34])⟩
theorem v_m.xor {j : Nat} (v : v_m M n h) (hj : j < n) : v_m (q_put M 30 8 (M 30 8 ^^^ (1 <<< (nI j &&& 31)))) n (h ^^^ 2 ^ j) := by
  have h10 := v.2.1
  refine ⟨by rw [q_put_at, if_neg (by decide)]; exact v.1, h10, ?_, lt_two_pow_xor v.2.2.2.1 (Nat.pow_lt_pow_right (by omega) hj), fun t ht => by rw [q_put_ne (by decide)]; exact v.2.2.2.2 t ht⟩
  rw [q_put_at, if_pos rfl, v.2.2.1, sh1_nI j (by omega), nx_xor]
theorem w_M_hand {a : Int32} (hv : v_M M) (hQ : ∀ (x : Int32) M', eqf Sv Gv M M' → v_M M' → Q (some (.int x)) M') : q_Run 109 [.ref 30, .int a] M Q := by
  rw [e_M_hand]
  simp only [gM_hand_0, gM_hand_1, gM_hand_2, gM_hand_5, gM_hand_8, gM_hand_9, gM_hand_10, gM_hand_13, gM_hand_14, gM_hand_15, gM_hand_16, gM_hand_19, gM_hand_20, gM_hand_21, gM_hand_22, gM_hand_23, gM_hand_26, gM_hand_27, gM_hand_30, gM_hand_31, gM_hand_32, gM_hand_33, gM_hand_34, ↓reduceIte, Bool.false_eq_true, Bool.true_eq_false, qk_i, qk_r, qk_n, Option.toList_some, Option.toList_none, List.cons_append, List.nil_append, true_and, and_true, true_or, or_true, eq_self, if_true, if_false, q_b1, q_b2, c_A, c_R, c_O, c_M, c_H1, c_H8, c_H15, x_M_isThing, q_z0, x_M_no no_1]
  split
  · rename_i ht
    obtain ⟨n, h, v⟩ := hv
    obtain ⟨j, hj, rfl⟩ := mThing_nI v ((Bool.not_eq_false _).mp ht)
    exact hQ _ _ (eqf.rf.fld (by decide)) ⟨_, _, v.xor hj⟩
  · exact hQ _ _ eqv_no hv.no
theorem mTwo_nI {a b : Int32} (v : v_m M n h) (ht : b_mTwo M a b = true) : ∃ j, j < n ∧ a = nI j := by
  unfold b_mTwo at ht
  exact mThing_nI v ((Bool.and_eq_true _ _).mp ht).1
theorem w_M_need {a b c : Int32} (hv : v_M M) (hQ : ∀ (x : Int32) M', eqf Sv Gv M M' → v_M M' → Q (some (.int x)) M') : q_Run 128 [.ref 30, .int a, .int b, .int c] M Q := by
  rw [e_M_need]
  simp only [gM_need_0, gM_need_1, gM_need_2, gM_need_3, gM_need_6, gM_need_9, gM_need_10, gM_need_11, gM_need_14, gM_need_16, gM_need_17, gM_need_18, gM_need_21, gM_need_24, gM_need_25, gM_need_27, gM_need_30, gM_need_31, gM_need_32, gM_need_35, gM_need_36, gM_need_39, gM_need_40, gM_need_41, gM_need_42, gM_need_43, gM_need_44, gM_need_45, gM_need_46, gM_need_47, gM_need_50, gM_need_51, gM_need_54, gM_need_55, gM_need_56, gM_need_57, gM_need_58, gM_need_59, gM_need_60, gM_need_61, gM_need_62, gM_need_63, gM_need_66, gM_need_67, gM_need_70, gM_need_71, gM_need_72, gM_need_75, gM_need_76, gM_need_79, gM_need_80, gM_need_81, gM_need_82, gM_need_83, gM_need_84, gM_need_85, ↓reduceIte, Bool.false_eq_true, Bool.true_eq_false, qk_i, qk_r, qk_n, Option.toList_some, Option.toList_none, List.cons_append, List.nil_append, true_and, and_true, true_or, or_true, eq_self, if_true, if_false, q_b1, q_b2, c_A, c_R, c_O, c_M, c_H1, c_H8, c_H15, x_M_areTwo, q_z0, x_M_no no_1]
  split
  · rename_i ht
    obtain ⟨n, h, v⟩ := id hv
    obtain ⟨j, hj, rfl⟩ := mTwo_nI v ((Bool.not_eq_false _).mp ht)
    have h10 := v.2.1
    have hin : q_in (nI j) 10 = true := q_in_nI (by omega) (by omega)
    simp only [gM_need_0, gM_need_1, gM_need_2, gM_need_3, gM_need_6, gM_need_9, gM_need_10, gM_need_11, gM_need_14, gM_need_15, gM_need_16, gM_need_17, gM_need_18, gM_need_21, gM_need_24, gM_need_25, gM_need_27, gM_need_30, gM_need_31, gM_need_32, gM_need_35, gM_need_36, gM_need_39, gM_need_40, gM_need_41, gM_need_42, gM_need_43, gM_need_44, gM_need_45, gM_need_46, gM_need_47, gM_need_50, gM_need_51, gM_need_54, gM_need_55, gM_need_56, gM_need_57, gM_need_58, gM_need_59, gM_need_60, gM_need_61, gM_need_62, gM_need_63, gM_need_66, gM_need_67, gM_need_70, gM_need_71, gM_need_72, gM_need_75, gM_need_76, gM_need_79, gM_need_80, gM_need_81, gM_need_82, gM_need_83, gM_need_84, gM_need_85, ↓reduceIte, Bool.false_eq_true, Bool.true_eq_false, qk_i, qk_r, qk_n, Option.toList_some, Option.toList_none, List.cons_append, List.nil_append, true_and, and_true, true_or, or_true, eq_self, if_true, if_false, q_b1, q_b2, c_A, c_R, c_O, c_M, c_H1, c_H8, c_H15, x_M_isIn, q_z0, x_M_no no_2, rf_M5, rf_M6, aD_36, aD_37, hin]
    repeat' split
    all_goals first
      | with_reducible exact hQ _ _ eqv_no hv.no
      | exact hQ _ _ (eqf.rf.cell (by decide) (by decide)) (hv.cell (by decide) (by decide))
  · exact hQ _ _ eqv_no hv.no
theorem w_M_take {a : Int32} (hv : v_M M) (hQ : ∀ (x : Int32) M', eqf Sv Gv M M' → v_M M' → Q (some (.int x)) M') : q_Run 151 [.ref 30, .int a] M Q := by
  have n1 : ((-1 : Int32) = 0) = False := by decide
  have n3 : ((-3 : Int32) = 0) = False := by decide
  have n6 : ((-6 : Int32) = 0) = False := by decide
  obtain ⟨n, h, v⟩ := id hv
  have h10 := v.2.1
  rw [e_M_take]
  simp only [gM_take_0, gM_take_1, gM_take_2, gM_take_5, gM_take_8, gM_take_9, gM_take_13, gM_take_14, gM_take_17, gM_take_20, gM_take_21, gM_take_24, gM_take_27, gM_take_29, gM_take_32, gM_take_33, gM_take_36, gM_take_37, gM_take_38, gM_take_39, gM_take_42, gM_take_45, gM_take_46, gM_take_49, gM_take_52, gM_take_54, gM_take_57, gM_take_58, gM_take_59, gM_take_60, gM_take_63, gM_take_64, gM_take_65, gM_take_68, gM_take_69, gM_take_70, gM_take_71, gM_take_74, gM_take_75, gM_take_76, gM_take_77, gM_take_80, gM_take_83, gM_take_84, gM_take_87, gM_take_88, gM_take_89, gM_take_92, gM_take_93, gM_take_94, gM_take_95, gM_take_96, gM_take_99, gM_take_100, gM_take_103, ↓reduceIte, Bool.false_eq_true, Bool.true_eq_false, qk_i, qk_r, qk_n, Option.toList_some, Option.toList_none, List.cons_append, List.nil_append, true_and, and_true, true_or, or_true, eq_self, if_true, if_false, q_b1, q_b2, c_A, c_R, c_O, c_M, c_H1, c_H8, c_H15, x_M_isThing, q_z0, n1, x_M_no no_1]
  split
  · rename_i ht
    obtain ⟨j, hj, rfl⟩ := mThing_nI v ((Bool.not_eq_false _).mp ht)
    simp only [gM_take_0, gM_take_1, gM_take_2, gM_take_5, gM_take_8, gM_take_9, gM_take_12, gM_take_13, gM_take_14, gM_take_17, gM_take_20, gM_take_21, gM_take_24, gM_take_27, gM_take_29, gM_take_32, gM_take_33, gM_take_36, gM_take_37, gM_take_38, gM_take_39, gM_take_42, gM_take_45, gM_take_46, gM_take_49, gM_take_52, gM_take_54, gM_take_57, gM_take_58, gM_take_59, gM_take_60, gM_take_63, gM_take_64, gM_take_65, gM_take_68, gM_take_69, gM_take_70, gM_take_71, gM_take_74, gM_take_75, gM_take_76, gM_take_77, gM_take_80, gM_take_83, gM_take_84, gM_take_87, gM_take_88, gM_take_89, gM_take_92, gM_take_93, gM_take_94, gM_take_95, gM_take_96, gM_take_99, gM_take_100, gM_take_103, ↓reduceIte, Bool.false_eq_true, Bool.true_eq_false, qk_i, qk_r, qk_n, Option.toList_some, Option.toList_none, List.cons_append, List.nil_append, true_and, and_true, true_or, or_true, eq_self, if_true, if_false, q_b1, q_b2, c_A, c_R, c_O, c_M, c_H1, c_H8, c_H15, v.2.2.1]
    refine w_M_mayBy v v.hlt fun m hm hd => ?_
    simp only [gM_take_0, gM_take_1, gM_take_2, gM_take_5, gM_take_8, gM_take_9, gM_take_12, gM_take_13, gM_take_14, gM_take_17, gM_take_20, gM_take_21, gM_take_24, gM_take_27, gM_take_29, gM_take_32, gM_take_33, gM_take_36, gM_take_37, gM_take_38, gM_take_39, gM_take_42, gM_take_45, gM_take_46, gM_take_49, gM_take_52, gM_take_54, gM_take_57, gM_take_58, gM_take_59, gM_take_60, gM_take_63, gM_take_64, gM_take_65, gM_take_68, gM_take_69, gM_take_70, gM_take_71, gM_take_74, gM_take_75, gM_take_76, gM_take_77, gM_take_80, gM_take_83, gM_take_84, gM_take_87, gM_take_88, gM_take_89, gM_take_92, gM_take_93, gM_take_94, gM_take_95, gM_take_96, gM_take_99, gM_take_100, gM_take_103, ↓reduceIte, Bool.false_eq_true, Bool.true_eq_false, qk_i, qk_r, qk_n, Option.toList_some, Option.toList_none, List.cons_append, List.nil_append, true_and, and_true, true_or, or_true, eq_self, if_true, if_false, q_b1, q_b2, c_A, c_R, c_O, c_M, c_H1, c_H8, c_H15, x_M_has, q_z0, n3, x_M_no no_3, v.2.2.1]
    split
    · refine w_M_goOf (by omega) fun x => ?_
      simp only [gM_take_0, gM_take_1, gM_take_2, gM_take_5, gM_take_8, gM_take_9, gM_take_12, gM_take_13, gM_take_14, gM_take_17, gM_take_20, gM_take_21, gM_take_24, gM_take_27, gM_take_29, gM_take_32, gM_take_33, gM_take_36, gM_take_37, gM_take_38, gM_take_39, gM_take_42, gM_take_45, gM_take_46, gM_take_49, gM_take_52, gM_take_54, gM_take_57, gM_take_58, gM_take_59, gM_take_60, gM_take_63, gM_take_64, gM_take_65, gM_take_68, gM_take_69, gM_take_70, gM_take_71, gM_take_74, gM_take_75, gM_take_76, gM_take_77, gM_take_80, gM_take_83, gM_take_84, gM_take_87, gM_take_88, gM_take_89, gM_take_92, gM_take_93, gM_take_94, gM_take_95, gM_take_96, gM_take_99, gM_take_100, gM_take_103, ↓reduceIte, Bool.false_eq_true, Bool.true_eq_false, qk_i, qk_r, qk_n, Option.toList_some, Option.toList_none, List.cons_append, List.nil_append, true_and, and_true, true_or, or_true, eq_self, if_true, if_false, q_b1, q_b2, c_A, c_R, c_O, c_M, c_H1, c_H8, c_H15, n6, x_M_no no_6, v.2.2.1]
      split
      · refine w_M_goOf (by omega) fun z => ?_
        have e8 : ∀ w : Int32, q_put M 30 9 w 30 8 = nI h := fun w => by rw [q_put_at, if_neg (by decide)]; exact v.2.2.1
        simp only [gM_take_0, gM_take_1, gM_take_2, gM_take_5, gM_take_8, gM_take_9, gM_take_12, gM_take_13, gM_take_14, gM_take_17, gM_take_20, gM_take_21, gM_take_24, gM_take_27, gM_take_29, gM_take_32, gM_take_33, gM_take_36, gM_take_37, gM_take_38, gM_take_39, gM_take_42, gM_take_45, gM_take_46, gM_take_49, gM_take_52, gM_take_54, gM_take_57, gM_take_58, gM_take_59, gM_take_60, gM_take_63, gM_take_64, gM_take_65, gM_take_68, gM_take_69, gM_take_70, gM_take_71, gM_take_74, gM_take_75, gM_take_76, gM_take_77, gM_take_80, gM_take_83, gM_take_84, gM_take_87, gM_take_88, gM_take_89, gM_take_92, gM_take_93, gM_take_94, gM_take_95, gM_take_96, gM_take_99, gM_take_100, gM_take_103, ↓reduceIte, Bool.false_eq_true, Bool.true_eq_false, qk_i, qk_r, qk_n, Option.toList_some, Option.toList_none, List.cons_append, List.nil_append, true_and, and_true, true_or, or_true, eq_self, if_true, if_false, q_b1, q_b2, c_A, c_R, c_O, c_M, c_H1, c_H8, c_H15, e8, or1_nI (show j < 31 by omega)]
        refine hQ _ _ ((eqf.rf.fld (by decide)).fld (by decide)) ⟨n, h ||| 2 ^ j, ?_, h10, ?_, Nat.or_lt_two_pow v.2.2.2.1 (Nat.pow_lt_pow_right (by omega) hj), fun t ht => ?_⟩
        · rw [q_put_at, if_neg (by decide), q_put_at, if_neg (by decide)]
          exact v.1
        · rw [q_put_at, if_pos rfl]
        · rw [q_put_ne (by decide), q_put_ne (by decide)]
          exact v.2.2.2.2 t ht
      · exact hQ _ _ eqv_no hv.no
    · exact hQ _ _ eqv_no hv.no
  · exact hQ _ _ eqv_no hv.no
end MB
