/-! the reference: image, on, and how it reads a house -/
section MR
variable {Q : q_R} {M : q_M}
theorem w65_0 : (65 : Int32) * 0 = nI 0 := by decide
theorem w65_1 : (65 : Int32) * 1 = nI 65 := by decide
theorem w_M_image (hQ : ∀ x : Int32, Q (some (.int x)) (s_kA (q_put M 30 18 1) 0)) : q_Run 112 [.ref 30] M Q := by
  rw [e_M_image]
  simp only [gM_image_0, gM_image_1, gM_image_2, gM_image_5, gM_image_6, gM_image_7, gM_image_8, gM_image_11, gM_image_12, gM_image_15, ↓reduceIte, Bool.false_eq_true, Bool.true_eq_false, qk_i, qk_r, qk_n, Option.toList_some, Option.toList_none, List.cons_append, List.nil_append, true_and, and_true, true_or, or_true, eq_self, if_true, if_false, q_b1, q_b2, c_A, c_R, c_O, c_M, c_H1, c_H8, c_H15]
  rw [x_M_passesAll_k w65_0 (by omega)]
  simp only [gM_image_0, gM_image_1, gM_image_2, gM_image_5, gM_image_6, gM_image_7, gM_image_8, gM_image_11, gM_image_12, gM_image_15, ↓reduceIte, Bool.false_eq_true, Bool.true_eq_false, qk_i, qk_r, qk_n, Option.toList_some, Option.toList_none, List.cons_append, List.nil_append, true_and, and_true, true_or, or_true, eq_self, if_true, if_false, q_b1, q_b2, c_A, c_R, c_O, c_M, c_H1, c_H8, c_H15]
  exact hQ _
theorem w_M_on (hi : M 30 18 = 0 ∨ v_k M 0) (hQ1 : ∀ x : Int32, Q (some (.int x)) (s_no M (-3))) (hQ2 : v_k M 0 → ∀ x : Int32, Q (some (.int x)) (s_rA M 0)) : q_Run 132 [.ref 30] M Q := by
  rw [e_M_on]
  simp only [gM_on_0, gM_on_1, gM_on_4, gM_on_7, gM_on_8, gM_on_10, gM_on_13, gM_on_14, gM_on_15, gM_on_16, gM_on_17, gM_on_20, gM_on_21, gM_on_24, ↓reduceIte, Bool.false_eq_true, Bool.true_eq_false, qk_i, qk_r, qk_n, Option.toList_some, Option.toList_none, List.cons_append, List.nil_append, true_and, and_true, true_or, or_true, eq_self, if_true, if_false, q_b1, q_b2, c_A, c_R, c_O, c_M, c_H1, c_H8, c_H15, x_M_no no_3]
  split
  · rename_i h0
    have hk := hi.resolve_left h0
    rw [x_M_passesAll_r w65_0 (by omega)]
    simp only [gM_on_0, gM_on_1, gM_on_4, gM_on_7, gM_on_8, gM_on_10, gM_on_13, gM_on_14, gM_on_15, gM_on_16, gM_on_17, gM_on_20, gM_on_21, gM_on_24, ↓reduceIte, Bool.false_eq_true, Bool.true_eq_false, qk_i, qk_r, qk_n, Option.toList_some, Option.toList_none, List.cons_append, List.nil_append, true_and, and_true, true_or, or_true, eq_self, if_true, if_false, q_b1, q_b2, c_A, c_R, c_O, c_M, c_H1, c_H8, c_H15]
    exact hQ2 hk _
  · exact hQ1 _
/-- where it reads: at a, of k letters -/
def p_at (M : q_M) (a k : Nat) : Prop := M 30 15 = nI a ∧ M 30 14 = nI k ∧ a ≤ k ∧ k ≤ 96
def s_next (M : q_M) : Int32 := if M 30 15 < M 30 14 then M 38 (M 30 15).toNatClampNeg else -1
theorem x_M_next {a k : Nat} (hp : p_at M a k) : q_Run 129 [.ref 30] M Q = Q (some (.int (s_next M))) M := by
  obtain ⟨h15, h14, hak, hk⟩ := hp
  rw [e_M_next]
  unfold s_next
  by_cases h : a < k
  · have h1 : nI a < nI k := nI_lt h (by omega)
    have h2 : ¬ nI k ≤ nI a := nI_ge h (by omega)
    have hin : q_in (nI a) 96 = true := q_in_nI (by omega) (by omega)
    simp only [gM_next_0, gM_next_1, gM_next_4, gM_next_5, gM_next_8, gM_next_11, gM_next_12, gM_next_15, gM_next_16, gM_next_19, gM_next_20, gM_next_23, gM_next_24, ↓reduceIte, Bool.false_eq_true, Bool.true_eq_false, qk_i, qk_r, qk_n, Option.toList_some, Option.toList_none, List.cons_append, List.nil_append, true_and, and_true, true_or, or_true, eq_self, if_true, if_false, q_b1, q_b2, c_A, c_R, c_O, c_M, c_H1, c_H8, c_H15, h15, h14, h1, h2, rf_M10, aD_38, hin]
  · have h1 : ¬ nI a < nI k := nI_nlt (by omega) (by omega)
    have h2 : nI k ≤ nI a := nI_le (by omega) (by omega)
    simp only [gM_next_0, gM_next_1, gM_next_4, gM_next_5, gM_next_8, gM_next_11, gM_next_12, gM_next_15, gM_next_16, gM_next_19, gM_next_20, gM_next_23, gM_next_24, ↓reduceIte, Bool.false_eq_true, Bool.true_eq_false, qk_i, qk_r, qk_n, Option.toList_some, Option.toList_none, List.cons_append, List.nil_append, true_and, and_true, true_or, or_true, eq_self, if_true, if_false, q_b1, q_b2, c_A, c_R, c_O, c_M, c_H1, c_H8, c_H15, h15, h14, h1, h2]
theorem next_lt {a k : Nat} (hp : p_at M a k) (h : ¬ s_next M = -1) : a < k := by
  rcases Nat.lt_or_ge a k with q | q
  · exact q
  · exfalso
    apply h
    unfold s_next
    rw [hp.1, hp.2.1, if_neg (nI_nlt (by omega) (by have := hp.2.2.1; have := hp.2.2.2; omega))]
/-- what reading may change -/
def Sp (c : Nat) : Bool := decide (39 ≤ c) && decide (c ≤ 41)
def Gp (f : Nat) : Bool := decide (f = 15)
def Pr (M M' : q_M) : Prop := eqf Sp Gp M M'
theorem p_at.pr {M' : q_M} {a k : Nat} (hp : p_at M a k) (h15 : M' 30 15 = M 30 15) (h14 : M' 30 14 = M 30 14) : p_at M' a k := ⟨by rw [h15]; exact hp.1, by rw [h14]; exact hp.2.1, hp.2.2⟩
theorem p_at.on {a k : Nat} (hp : p_at M a k) (h : a < k) : p_at (q_put M 30 15 (M 30 15 + 1)) (a + 1) k := ⟨by rw [q_put_at, if_pos rfl, hp.1, nI_1], by rw [q_put_at, if_neg (by decide)]; exact hp.2.1, h, hp.2.2.2⟩
theorem p_at.told {a k c j : Nat} {v : Int32} (hp : p_at M a k) (hc : (30 : Nat) ≠ c) : p_at (q_put M c j v) a k := hp.pr (by rw [q_put_ne hc]) (by rw [q_put_ne hc])
theorem in_48 {v : Int32} (h : b_in v 48 57 = true) : ¬ v = -1 := by
  intro q
  subst q
  exact absurd h (by decide)
theorem w_M_rn_l {a0 k dd pp : Nat} {M0 : q_M} (hdd : dd ≤ 2) (hpp : pp < 144) (hQ : ∀ M' a', Pr M0 M' → p_at M' a' k → a0 < a' → Q (some (.int 1)) M') : ∀ m i, i + m = dd → ∀ (M : q_M) (a : Nat) (v : Int32), Pr M0 M → p_at M a k → a0 ≤ a → (1 ≤ i → a0 < a) → (1 ≤ i ∨ b_in (s_next M) 48 57 = true ∧ 1 ≤ dd) →
    q_g 139 none Q 21 [some (.ref 30), some (.int (nI pp)), some (.int (nI dd)), some (.int v), some (.int (nI i))] [] M := by
  have hin : q_in (nI pp) 144 = true := q_in_nI hpp (by omega)
  have e70 : ∀ (M : q_M) (a : Nat) (v x : Int32), Pr M0 M → p_at M a k → a0 < a → q_g 139 none Q 70 [some (.ref 30), some (.int (nI pp)), some (.int (nI dd)), some (.int v), some (.int x)] [] M := by
    intro M a v x hM hp hlt
    simp only [gM_readsNumber_0, gM_readsNumber_1, gM_readsNumber_4, gM_readsNumber_6, gM_readsNumber_8, gM_readsNumber_11, gM_readsNumber_14, gM_readsNumber_15, gM_readsNumber_16, gM_readsNumber_17, gM_readsNumber_18, gM_readsNumber_19, gM_readsNumber_23, gM_readsNumber_24, gM_readsNumber_27, gM_readsNumber_28, gM_readsNumber_31, gM_readsNumber_33, gM_readsNumber_35, gM_readsNumber_38, gM_readsNumber_41, gM_readsNumber_43, gM_readsNumber_44, gM_readsNumber_45, gM_readsNumber_46, gM_readsNumber_49, gM_readsNumber_50, gM_readsNumber_52, gM_readsNumber_53, gM_readsNumber_54, gM_readsNumber_55, gM_readsNumber_56, gM_readsNumber_59, gM_readsNumber_60, gM_readsNumber_61, gM_readsNumber_64, gM_readsNumber_67, gM_readsNumber_70, gM_readsNumber_71, gM_readsNumber_74, gM_readsNumber_75, gM_readsNumber_76, gM_readsNumber_77, gM_readsNumber_78, ↓reduceIte, Bool.false_eq_true, Bool.true_eq_false, qk_i, qk_r, qk_n, Option.toList_some, Option.toList_none, List.cons_append, List.nil_append, true_and, and_true, true_or, or_true, eq_self, if_true, if_false, q_b1, q_b2, c_A, c_R, c_O, c_M, c_H1, c_H8, c_H15, rf_M13, aD_41, hin]
    exact hQ _ a (hM.cell (by decide) (by decide)) (hp.told (by decide)) hlt
  intro m
  induction m with
  | zero =>
    intro i hi M a v hM hp h1 h2 h3
    have : i = dd := by omega
    subst this
    rw [gM_readsNumber_21]
    simp only [gM_readsNumber_0, gM_readsNumber_1, gM_readsNumber_4, gM_readsNumber_6, gM_readsNumber_8, gM_readsNumber_11, gM_readsNumber_14, gM_readsNumber_15, gM_readsNumber_16, gM_readsNumber_17, gM_readsNumber_18, gM_readsNumber_19, gM_readsNumber_23, gM_readsNumber_24, gM_readsNumber_27, gM_readsNumber_28, gM_readsNumber_31, gM_readsNumber_33, gM_readsNumber_35, gM_readsNumber_38, gM_readsNumber_41, gM_readsNumber_43, gM_readsNumber_44, gM_readsNumber_45, gM_readsNumber_46, gM_readsNumber_49, gM_readsNumber_50, gM_readsNumber_52, gM_readsNumber_53, gM_readsNumber_54, gM_readsNumber_55, gM_readsNumber_56, gM_readsNumber_59, gM_readsNumber_60, gM_readsNumber_61, gM_readsNumber_64, gM_readsNumber_67, gM_readsNumber_71, gM_readsNumber_74, gM_readsNumber_75, gM_readsNumber_76, gM_readsNumber_77, gM_readsNumber_78, ↓reduceIte, Bool.false_eq_true, Bool.true_eq_false, qk_i, qk_r, qk_n, Option.toList_some, Option.toList_none, List.cons_append, List.nil_append, true_and, and_true, true_or, or_true, eq_self, if_true, if_false, q_b1, q_b2, c_A, c_R, c_O, c_M, c_H1, c_H8, c_H15, Int32.le_refl]
    refine e70 _ a _ _ hM hp ?_
    rcases h3 with q | ⟨-, q⟩ <;> exact h2 q
  | succ m ih =>
    intro i hi M a v hM hp h1 h2 h3
    have hle : ¬ nI dd ≤ nI i := nI_ge (by omega) (by omega)
    rw [gM_readsNumber_21]
    simp only [gM_readsNumber_0, gM_readsNumber_1, gM_readsNumber_4, gM_readsNumber_6, gM_readsNumber_8, gM_readsNumber_11, gM_readsNumber_14, gM_readsNumber_15, gM_readsNumber_16, gM_readsNumber_17, gM_readsNumber_18, gM_readsNumber_19, gM_readsNumber_23, gM_readsNumber_24, gM_readsNumber_27, gM_readsNumber_28, gM_readsNumber_31, gM_readsNumber_33, gM_readsNumber_35, gM_readsNumber_38, gM_readsNumber_41, gM_readsNumber_43, gM_readsNumber_44, gM_readsNumber_45, gM_readsNumber_46, gM_readsNumber_49, gM_readsNumber_50, gM_readsNumber_52, gM_readsNumber_53, gM_readsNumber_54, gM_readsNumber_55, gM_readsNumber_56, gM_readsNumber_59, gM_readsNumber_60, gM_readsNumber_61, gM_readsNumber_64, gM_readsNumber_67, gM_readsNumber_71, gM_readsNumber_74, gM_readsNumber_75, gM_readsNumber_76, gM_readsNumber_77, gM_readsNumber_78, ↓reduceIte, Bool.false_eq_true, Bool.true_eq_false, qk_i, qk_r, qk_n, Option.toList_some, Option.toList_none, List.cons_append, List.nil_append, true_and, and_true, true_or, or_true, eq_self, if_true, if_false, q_b1, q_b2, c_A, c_R, c_O, c_M, c_H1, c_H8, c_H15, hle, x_M_next hp, x_M_isIn, q_z0, nI_1]
    by_cases hb : b_in (s_next M) 48 57 = true
    · have hak := next_lt hp (in_48 hb)
      simp only [hb, Bool.true_eq_false, if_false]
      exact ih (i + 1) (by omega) _ (a + 1) _ (hM.fld (by decide)) (hp.on hak) (by omega) (fun _ => by omega) (Or.inl (by omega))
    · have hb' : b_in (s_next M) 48 57 = false := by simpa using hb
      simp only [hb', if_true]
      refine e70 _ a _ _ hM hp ?_
      rcases h3 with q | ⟨q, -⟩
      · exact h2 q
      · exact absurd q hb
theorem w_M_readsNumber {a k dd pp : Nat} (hp : p_at M a k) (hd1 : 1 ≤ dd) (hdd : dd ≤ 2) (hpp : pp < 144) (hQ0 : Q (some (.int 0)) M) (hQ : ∀ M' a', Pr M M' → p_at M' a' k → a < a' → Q (some (.int 1)) M') : q_Run 139 [.ref 30, .int (nI pp), .int (nI dd)] M Q := by
  rw [e_M_readsNumber]
  simp only [gM_readsNumber_0, gM_readsNumber_1, gM_readsNumber_4, gM_readsNumber_6, gM_readsNumber_8, gM_readsNumber_11, gM_readsNumber_14, gM_readsNumber_15, gM_readsNumber_16, gM_readsNumber_17, gM_readsNumber_18, gM_readsNumber_19, gM_readsNumber_23, gM_readsNumber_24, gM_readsNumber_27, gM_readsNumber_28, gM_readsNumber_31, gM_readsNumber_33, gM_readsNumber_35, gM_readsNumber_38, gM_readsNumber_41, gM_readsNumber_43, gM_readsNumber_44, gM_readsNumber_45, gM_readsNumber_46, gM_readsNumber_49, gM_readsNumber_50, gM_readsNumber_52, gM_readsNumber_53, gM_readsNumber_54, gM_readsNumber_55, gM_readsNumber_56, gM_readsNumber_59, gM_readsNumber_60, gM_readsNumber_61, gM_readsNumber_64, gM_readsNumber_67, gM_readsNumber_70, gM_readsNumber_71, gM_readsNumber_74, gM_readsNumber_75, gM_readsNumber_76, gM_readsNumber_77, gM_readsNumber_78, ↓reduceIte, Bool.false_eq_true, Bool.true_eq_false, qk_i, qk_r, qk_n, Option.toList_some, Option.toList_none, List.cons_append, List.nil_append, true_and, and_true, true_or, or_true, eq_self, if_true, if_false, q_b1, q_b2, c_A, c_R, c_O, c_M, c_H1, c_H8, c_H15, x_M_next hp, x_M_isIn, q_z0]
  by_cases hb : b_in (s_next M) 48 57 = true
  · simp only [hb, Bool.true_eq_false, not_false_eq_true, if_true]
    exact w_M_rn_l hdd hpp hQ dd 0 (by omega) M a 0 eqf.rf hp (by omega) (fun q => absurd q (by omega)) (Or.inr ⟨hb, hd1⟩)
  · have hb' : b_in (s_next M) 48 57 = false := by simpa using hb
    simp only [hb', not_true, if_false]
    exact hQ0
theorem w_M_readsThing {a k pp : Nat} (hp : p_at M a k) (hpp : pp + 2 < 144) (hQ0 : ∀ M' a', Pr M M' → p_at M' a' k → Q (some (.int 0)) M') (hQ : ∀ M' a', Pr M M' → p_at M' a' k → a + 4 ≤ a' → Q (some (.int 1)) M') : q_Run 140 [.ref 30, .int (nI pp)] M Q := by
  have hin : q_in (nI pp) 144 = true := q_in_nI (by omega) (by omega)
  have n1 : nI pp + 2 = nI (pp + 2) := nI_add pp 2
  have e41 : ∀ (i v x : _), q_put M 41 i v 41 x = if x = i then v else M 41 x := fun i v x => q_put_at
  have d2 : (2 : Int32) = nI 2 := rfl
  have h0 : Pr M (q_put M 41 (nI pp).toNatClampNeg (s_kindOf (s_next M))) := eqf.rf.cell (by decide) (by decide)
  have p0 : p_at (q_put M 41 (nI pp).toNatClampNeg (s_kindOf (s_next M))) a k := hp.told (by decide)
  rw [e_M_readsThing]
  simp only [gM_readsThing_0, gM_readsThing_1, gM_readsThing_4, gM_readsThing_5, gM_readsThing_6, gM_readsThing_9, gM_readsThing_12, gM_readsThing_13, gM_readsThing_14, gM_readsThing_17, gM_readsThing_18, gM_readsThing_19, gM_readsThing_22, gM_readsThing_23, gM_readsThing_25, gM_readsThing_26, gM_readsThing_29, gM_readsThing_30, gM_readsThing_31, gM_readsThing_34, gM_readsThing_35, gM_readsThing_36, gM_readsThing_37, gM_readsThing_38, gM_readsThing_39, gM_readsThing_42, gM_readsThing_45, gM_readsThing_46, gM_readsThing_49, gM_readsThing_51, gM_readsThing_54, gM_readsThing_55, gM_readsThing_56, gM_readsThing_57, gM_readsThing_58, gM_readsThing_61, gM_readsThing_62, gM_readsThing_63, gM_readsThing_66, gM_readsThing_67, gM_readsThing_68, gM_readsThing_69, gM_readsThing_70, gM_readsThing_71, gM_readsThing_74, ↓reduceIte, Bool.false_eq_true, Bool.true_eq_false, qk_i, qk_r, qk_n, Option.toList_some, Option.toList_none, List.cons_append, List.nil_append, true_and, and_true, true_or, or_true, eq_self, if_true, if_false, q_b1, q_b2, c_A, c_R, c_O, c_M, c_H1, c_H8, c_H15, x_M_next hp, x_M_kindOf, rf_M13, aD_41, hin, e41]
  split
  · rename_i hk
    have hak : a < k := next_lt hp (fun q => by rw [q] at hk; exact absurd hk (by decide))
    generalize q_put M 41 (nI pp).toNatClampNeg (s_kindOf (s_next M)) = M1 at h0 p0 ⊢
    have h1 : Pr M (q_put M1 30 15 (M1 30 15 + 1)) := h0.fld (by decide)
    have p1 := p0.on hak
    simp only [gM_readsThing_0, gM_readsThing_1, gM_readsThing_4, gM_readsThing_5, gM_readsThing_6, gM_readsThing_9, gM_readsThing_12, gM_readsThing_13, gM_readsThing_14, gM_readsThing_17, gM_readsThing_18, gM_readsThing_19, gM_readsThing_22, gM_readsThing_23, gM_readsThing_24, gM_readsThing_25, gM_readsThing_26, gM_readsThing_29, gM_readsThing_30, gM_readsThing_31, gM_readsThing_34, gM_readsThing_35, gM_readsThing_36, gM_readsThing_37, gM_readsThing_38, gM_readsThing_39, gM_readsThing_42, gM_readsThing_45, gM_readsThing_46, gM_readsThing_49, gM_readsThing_51, gM_readsThing_54, gM_readsThing_55, gM_readsThing_56, gM_readsThing_57, gM_readsThing_58, gM_readsThing_61, gM_readsThing_62, gM_readsThing_63, gM_readsThing_66, gM_readsThing_67, gM_readsThing_68, gM_readsThing_69, gM_readsThing_70, gM_readsThing_71, gM_readsThing_74, ↓reduceIte, Bool.false_eq_true, Bool.true_eq_false, qk_i, qk_r, qk_n, Option.toList_some, Option.toList_none, List.cons_append, List.nil_append, true_and, and_true, true_or, or_true, eq_self, if_true, if_false, q_b1, q_b2, c_A, c_R, c_O, c_M, c_H1, c_H8, c_H15, nI_1]
    rw [d2]
    refine w_M_readsNumber p1 (by omega) (by omega) (by omega) ?_ fun M2 a2 h2 p2 lt2 => ?_
    · simp only [gM_readsThing_0, gM_readsThing_1, gM_readsThing_4, gM_readsThing_5, gM_readsThing_6, gM_readsThing_9, gM_readsThing_12, gM_readsThing_13, gM_readsThing_14, gM_readsThing_17, gM_readsThing_18, gM_readsThing_19, gM_readsThing_22, gM_readsThing_23, gM_readsThing_24, gM_readsThing_25, gM_readsThing_26, gM_readsThing_29, gM_readsThing_30, gM_readsThing_31, gM_readsThing_34, gM_readsThing_35, gM_readsThing_36, gM_readsThing_37, gM_readsThing_38, gM_readsThing_39, gM_readsThing_42, gM_readsThing_45, gM_readsThing_46, gM_readsThing_49, gM_readsThing_51, gM_readsThing_54, gM_readsThing_55, gM_readsThing_56, gM_readsThing_57, gM_readsThing_58, gM_readsThing_61, gM_readsThing_62, gM_readsThing_63, gM_readsThing_66, gM_readsThing_67, gM_readsThing_68, gM_readsThing_69, gM_readsThing_70, gM_readsThing_71, gM_readsThing_74, ↓reduceIte, Bool.false_eq_true, Bool.true_eq_false, qk_i, qk_r, qk_n, Option.toList_some, Option.toList_none, List.cons_append, List.nil_append, true_and, and_true, true_or, or_true, eq_self, if_true, if_false, q_b1, q_b2, c_A, c_R, c_O, c_M, c_H1, c_H8, c_H15]
      exact hQ0 _ _ h1 p1
    · have n1z : ((1 : Int32) = 0) = False := by decide
      simp only [gM_readsThing_0, gM_readsThing_1, gM_readsThing_4, gM_readsThing_5, gM_readsThing_6, gM_readsThing_9, gM_readsThing_12, gM_readsThing_13, gM_readsThing_14, gM_readsThing_17, gM_readsThing_18, gM_readsThing_19, gM_readsThing_22, gM_readsThing_23, gM_readsThing_24, gM_readsThing_25, gM_readsThing_26, gM_readsThing_29, gM_readsThing_30, gM_readsThing_31, gM_readsThing_34, gM_readsThing_35, gM_readsThing_36, gM_readsThing_37, gM_readsThing_38, gM_readsThing_39, gM_readsThing_42, gM_readsThing_45, gM_readsThing_46, gM_readsThing_49, gM_readsThing_51, gM_readsThing_54, gM_readsThing_55, gM_readsThing_56, gM_readsThing_57, gM_readsThing_58, gM_readsThing_61, gM_readsThing_62, gM_readsThing_63, gM_readsThing_66, gM_readsThing_67, gM_readsThing_68, gM_readsThing_69, gM_readsThing_70, gM_readsThing_71, gM_readsThing_74, ↓reduceIte, Bool.false_eq_true, Bool.true_eq_false, qk_i, qk_r, qk_n, Option.toList_some, Option.toList_none, List.cons_append, List.nil_append, true_and, and_true, true_or, or_true, eq_self, if_true, if_false, q_b1, q_b2, c_A, c_R, c_O, c_M, c_H1, c_H8, c_H15, n1z, x_M_next p2, n1]
      split
      · rename_i hc
        have hak2 : a2 < k := next_lt p2 (fun q => by rw [q] at hc; exact absurd hc (by decide))
        have p3 := p2.on hak2
        have h3 : Pr M (q_put M2 30 15 (M2 30 15 + 1)) := (h1.tr h2).fld (by decide)
        rw [d2]
        refine w_M_readsNumber p3 (by omega) (by omega) (by omega) ?_ fun M4 a4 h4 p4 lt4 => ?_
        · simp only [gM_readsThing_0, gM_readsThing_1, gM_readsThing_4, gM_readsThing_5, gM_readsThing_6, gM_readsThing_9, gM_readsThing_12, gM_readsThing_13, gM_readsThing_14, gM_readsThing_17, gM_readsThing_18, gM_readsThing_19, gM_readsThing_22, gM_readsThing_23, gM_readsThing_24, gM_readsThing_25, gM_readsThing_26, gM_readsThing_29, gM_readsThing_30, gM_readsThing_31, gM_readsThing_34, gM_readsThing_35, gM_readsThing_36, gM_readsThing_37, gM_readsThing_38, gM_readsThing_39, gM_readsThing_42, gM_readsThing_45, gM_readsThing_46, gM_readsThing_49, gM_readsThing_51, gM_readsThing_54, gM_readsThing_55, gM_readsThing_56, gM_readsThing_57, gM_readsThing_58, gM_readsThing_61, gM_readsThing_62, gM_readsThing_63, gM_readsThing_66, gM_readsThing_67, gM_readsThing_68, gM_readsThing_69, gM_readsThing_70, gM_readsThing_71, gM_readsThing_74, ↓reduceIte, Bool.false_eq_true, Bool.true_eq_false, qk_i, qk_r, qk_n, Option.toList_some, Option.toList_none, List.cons_append, List.nil_append, true_and, and_true, true_or, or_true, eq_self, if_true, if_false, q_b1, q_b2, c_A, c_R, c_O, c_M, c_H1, c_H8, c_H15]
          exact hQ0 _ _ h3 p3
        · simp only [gM_readsThing_0, gM_readsThing_1, gM_readsThing_4, gM_readsThing_5, gM_readsThing_6, gM_readsThing_9, gM_readsThing_12, gM_readsThing_13, gM_readsThing_14, gM_readsThing_17, gM_readsThing_18, gM_readsThing_19, gM_readsThing_22, gM_readsThing_23, gM_readsThing_24, gM_readsThing_25, gM_readsThing_26, gM_readsThing_29, gM_readsThing_30, gM_readsThing_31, gM_readsThing_34, gM_readsThing_35, gM_readsThing_36, gM_readsThing_37, gM_readsThing_38, gM_readsThing_39, gM_readsThing_42, gM_readsThing_45, gM_readsThing_46, gM_readsThing_49, gM_readsThing_51, gM_readsThing_54, gM_readsThing_55, gM_readsThing_56, gM_readsThing_57, gM_readsThing_58, gM_readsThing_61, gM_readsThing_62, gM_readsThing_63, gM_readsThing_66, gM_readsThing_67, gM_readsThing_68, gM_readsThing_69, gM_readsThing_70, gM_readsThing_71, gM_readsThing_74, ↓reduceIte, Bool.false_eq_true, Bool.true_eq_false, qk_i, qk_r, qk_n, Option.toList_some, Option.toList_none, List.cons_append, List.nil_append, true_and, and_true, true_or, or_true, eq_self, if_true, if_false, q_b1, q_b2, c_A, c_R, c_O, c_M, c_H1, c_H8, c_H15]
          exact hQ _ a4 (h3.tr h4) p4 (by omega)
      · exact hQ0 _ _ (h1.tr h2) p2
  · exact hQ0 _ _ h0 p0
end MR
