/-! house() of the class: it ends; the letters are gone, the house holds together -/
def S22 (c : Nat) : Bool := decide (c = 22)
def Rd (M M' : q_M) : Prop := eqx S22 M M' ∧ M' 22 1 = M 22 1
theorem Rd.rf {M : q_M} : Rd M M := ⟨eqx.rf, rfl⟩
theorem Rd.tr {M M1 M2 : q_M} (h1 : Rd M M1) (h2 : Rd M1 M2) : Rd M M2 := ⟨h1.1.tr h2.1, h2.2.trans h1.2⟩
theorem Rd.q {M M1 : q_M} {j : Nat} {v : Int32} (h : Rd M M1) (hj : (1 : Nat) ≠ j) : Rd M (q_put M1 22 j v) := ⟨h.1.qput (by decide), by rw [q_put_at, if_neg hj]; exact h.2⟩
theorem rd_on {M : q_M} : Rd M (s_on M) := Rd.rf.q (by decide)
theorem rd_ite {M : q_M} {c : Prop} [Decidable c] {a b : q_P} (ha : Rd M a.2) (hb : Rd M b.2) : Rd M (if c then a else b).2 := by
  by_cases h : c
  · rw [if_pos h]; exact ha
  · rw [if_neg h]; exact hb
theorem rd_pr {M X : q_M} {v : Int32} (h : Rd M X) : Rd M ((v, X) : q_P).2 := h
theorem z_ite {c : Prop} [Decidable c] {a b : q_P} (ha : a.1 = 0 ∨ a.1 = 1) (hb : b.1 = 0 ∨ b.1 = 1) : (if c then a else b).1 = 0 ∨ (if c then a else b).1 = 1 := by
  by_cases h : c
  · rw [if_pos h]; exact ha
  · rw [if_neg h]; exact hb
theorem z_p0 {X : q_M} : ((0, X) : q_P).1 = 0 ∨ ((0, X) : q_P).1 = 1 := Or.inl rfl
theorem z_q {b : Bool} : q_z b = 0 ∨ q_z b = 1 := by cases b <;> decide
theorem z_pq {b : Bool} {X : q_M} : ((q_z b, X) : q_P).1 = 0 ∨ ((q_z b, X) : q_P).1 = 1 := z_q
theorem rd_passes {M : q_M} {c : Int32} : Rd M (s_passes M c).2 := by
  unfold s_passes
  exact rd_ite (rd_pr rd_on) (rd_pr Rd.rf)
theorem rd_digit {M : q_M} : Rd M (s_digit M).2 := by
  unfold s_digit
  exact rd_ite (rd_pr Rd.rf) (rd_ite (rd_pr rd_on) (rd_pr Rd.rf))
theorem rd_number {M : q_M} : Rd M (s_number M).2 := by
  unfold s_number
  exact rd_ite (rd_ite (rd_pr (rd_digit.tr rd_digit)) (rd_pr (rd_digit.tr rd_digit))) (rd_pr rd_digit)
theorem rd_first {M : q_M} : Rd M (s_first M).2 := by
  unfold s_first
  exact rd_pr (rd_digit.q (by decide))
theorem rd_second {M : q_M} : Rd M (s_second M).2 := by
  unfold s_second
  exact rd_pr (rd_digit.q (by decide))
theorem rd_th1 {M : q_M} : Rd M (s_th1 M) := by
  unfold s_th1
  exact Rd.rf.q (by decide)
theorem rd_th2 {M : q_M} : Rd M (s_th2 M) := by
  unfold s_th2
  exact ((rd_th1.tr rd_on).tr rd_number).q (by decide)
theorem rd_th3 {M : q_M} : Rd M (s_th3 M).2 := by
  unfold s_th3
  exact rd_th2.tr rd_passes
theorem rd_th4 {M : q_M} : Rd M (s_th4 M).2 := by
  unfold s_th4
  exact rd_th3.tr rd_number
theorem rd_thing {M : q_M} : Rd M (s_thing M).2 := by
  unfold s_thing
  exact rd_ite (rd_ite (rd_pr rd_th2) (rd_ite (rd_pr rd_th3) (rd_pr (rd_th4.q (by decide))))) (rd_pr rd_th1)
theorem rd_stT {M : q_M} : Rd M (s_stT M).2 := by
  unfold s_stT
  exact rd_ite (rd_pr (rd_on.tr rd_thing)) (rd_pr ((rd_on.tr rd_thing).tr rd_passes))
theorem rd_stN {M : q_M} : Rd M (s_stN M).2 := by
  unfold s_stN
  exact rd_ite (rd_pr (rd_on.tr rd_first)) (rd_ite (rd_pr ((rd_on.tr rd_first).tr rd_second)) (rd_pr (((rd_on.tr rd_first).tr rd_second).tr rd_passes)))
theorem rd_stH {M : q_M} : Rd M (s_stH M).2 := by
  unfold s_stH
  exact rd_ite (rd_pr (rd_on.tr rd_first)) (rd_pr ((rd_on.tr rd_first).tr rd_passes))
theorem rd_sg {M : q_M} : Rd M (s_sg M) := by
  unfold s_sg
  exact Rd.rf.q (by decide)
theorem rd_stmt {M : q_M} : Rd M (s_stmt M).2 := by
  unfold s_stmt
  exact rd_ite (rd_sg.tr rd_stN) (rd_ite (rd_sg.tr rd_stN) (rd_ite (rd_sg.tr rd_stH) (rd_ite (rd_sg.tr rd_stN) (rd_ite (rd_sg.tr rd_stT) (rd_pr rd_sg)))))
theorem z_stT {M : q_M} : (s_stT M).1 = 0 ∨ (s_stT M).1 = 1 := by
  unfold s_stT
  exact z_ite z_p0 z_pq
theorem z_stN {M : q_M} : (s_stN M).1 = 0 ∨ (s_stN M).1 = 1 := by
  unfold s_stN
  exact z_ite z_p0 (z_ite z_p0 z_pq)
theorem z_stH {M : q_M} : (s_stH M).1 = 0 ∨ (s_stH M).1 = 1 := by
  unfold s_stH
  exact z_ite z_p0 z_pq
theorem z_stmt {M : q_M} : (s_stmt M).1 = 0 ∨ (s_stmt M).1 = 1 := by
  unfold s_stmt
  exact z_ite z_stN (z_ite z_stN (z_ite z_stH (z_ite z_stN (z_ite z_stT z_p0))))
theorem w_R_readsWell_l {Q : q_R} {M0 : q_M} (hQ : ∀ (x : Int32) M', (x = 0 ∨ x = 1) → Rd M0 M' → Q (some (.int x)) M') : ∀ k j, j + k = 96 → ∀ (w : Int32) (M : q_M), (w = 0 ∨ w = 1) → Rd M0 M →
    q_g 41 none Q 20 [some (.ref 22), some (.int w), some (.int (nI j))] [] M := by
  intro k
  induction k with
  | zero =>
    intro j hj w M hw hM
    have : j = 96 := by omega
    subst this
    have h1 : (96 : Int32) ≤ nI 96 := by decide
    rw [gR_readsWell_20]
    simp only [gR_readsWell_0, gR_readsWell_1, gR_readsWell_2, gR_readsWell_5, gR_readsWell_6, gR_readsWell_9, gR_readsWell_12, gR_readsWell_13, gR_readsWell_16, gR_readsWell_17, gR_readsWell_18, gR_readsWell_19, gR_readsWell_21, gR_readsWell_23, gR_readsWell_26, gR_readsWell_27, gR_readsWell_30, gR_readsWell_31, gR_readsWell_34, gR_readsWell_35, gR_readsWell_38, gR_readsWell_41, gR_readsWell_42, gR_readsWell_45, gR_readsWell_46, gR_readsWell_49, gR_readsWell_52, gR_readsWell_53, ↓reduceIte, Bool.false_eq_true, Bool.true_eq_false, qk_i, qk_r, qk_n, Option.toList_some, Option.toList_none, List.cons_append, List.nil_append, true_and, and_true, true_or, or_true, eq_self, if_true, if_false, q_b1, q_b2, c_A, c_R, c_O, c_M, c_H1, c_H8, c_H15, h1]
    exact ⟨hw, hQ _ _ hw hM⟩
  | succ k ih =>
    intro j hj w M hw hM
    have h1 : ¬ (96 : Int32) ≤ nI j := nI_ge (b := 96) (by omega) (by omega)
    have hz := z_stmt (M := M)
    have hr := rd_stmt (M := M)
    rw [gR_readsWell_20]
    simp only [gR_readsWell_0, gR_readsWell_1, gR_readsWell_2, gR_readsWell_5, gR_readsWell_6, gR_readsWell_9, gR_readsWell_12, gR_readsWell_13, gR_readsWell_16, gR_readsWell_17, gR_readsWell_18, gR_readsWell_19, gR_readsWell_21, gR_readsWell_23, gR_readsWell_26, gR_readsWell_27, gR_readsWell_30, gR_readsWell_31, gR_readsWell_34, gR_readsWell_35, gR_readsWell_38, gR_readsWell_41, gR_readsWell_42, gR_readsWell_45, gR_readsWell_46, gR_readsWell_49, gR_readsWell_52, gR_readsWell_53, ↓reduceIte, Bool.false_eq_true, Bool.true_eq_false, qk_i, qk_r, qk_n, Option.toList_some, Option.toList_none, List.cons_append, List.nil_append, true_and, and_true, true_or, or_true, eq_self, if_true, if_false, q_b1, q_b2, c_A, c_R, c_O, c_M, c_H1, c_H8, c_H15, h1, x_R_readStatement, nI_1]
    generalize s_stmt M = S at hz hr ⊢
    by_cases c1 : w = 0
    · rw [if_pos c1]
      exact ⟨hw, hQ _ _ hw hM⟩
    rw [if_neg c1]
    split
    · exact ⟨hw, hQ _ _ hw hM⟩
    · exact ih (j + 1) (by omega) _ _ hz (hM.tr hr)
theorem w_R_readsWell {Q : q_R} {M : q_M} (hQ : ∀ (x : Int32) M', (x = 0 ∨ x = 1) → Rd M M' → Q (some (.int x)) M') : q_Run 41 [.ref 22] M Q := by
  rw [e_R_readsWell]
  simp only [gR_readsWell_0, gR_readsWell_1, gR_readsWell_2, gR_readsWell_5, gR_readsWell_6, gR_readsWell_9, gR_readsWell_12, gR_readsWell_13, gR_readsWell_16, gR_readsWell_17, gR_readsWell_18, gR_readsWell_19, gR_readsWell_21, gR_readsWell_23, gR_readsWell_26, gR_readsWell_27, gR_readsWell_30, gR_readsWell_31, gR_readsWell_34, gR_readsWell_35, gR_readsWell_38, gR_readsWell_41, gR_readsWell_42, gR_readsWell_45, gR_readsWell_46, gR_readsWell_49, gR_readsWell_52, gR_readsWell_53, ↓reduceIte, Bool.false_eq_true, Bool.true_eq_false, qk_i, qk_r, qk_n, Option.toList_some, Option.toList_none, List.cons_append, List.nil_append, true_and, and_true, true_or, or_true, eq_self, if_true, if_false, q_b1, q_b2, c_A, c_R, c_O, c_M, c_H1, c_H8, c_H15]
  split
  · exact w_R_readsWell_l hQ 96 0 (by omega) _ _ (by decide) (Rd.rf.q (by decide))
  · exact w_R_readsWell_l hQ 96 0 (by omega) _ _ (by decide) (Rd.rf.q (by decide))
def St (c : Nat) : Bool := decide (15 ≤ c) && decide (c ≤ 22)
def Te (M M' : q_M) : Prop := eqx St M M' ∧ M' 22 1 = M 22 1 ∧ v_H M' 15
theorem St22 : ∀ c, St c = false → S22 c = false := by
  intro c h
  unfold St at h
  unfold S22
  simp at h ⊢
  omega
theorem Te.rd {M M1 M2 : q_M} (h1 : Te M M1) (h2 : Rd M1 M2) : Te M M2 := ⟨h1.1.tr (h2.1.up St22), h2.2.trans h1.2.1, h1.2.2.of (h2.1 15 (by decide))⟩
theorem Te.tr {M M1 M2 : q_M} (h1 : Te M M1) (h2 : Te M1 M2) : Te M M2 := ⟨h1.1.tr h2.1, h2.2.1.trans h1.2.1, h2.2.2⟩
theorem v_add {M : q_M} {B : Nat} {kd mi su : Int32} (hv : v_H M B) (h6 : M B 6 < 10) : v_H (s_add M B kd mi su) B := by
  obtain ⟨n, h, hB, hn, h10, hh, hlt⟩ := hv
  rw [hn] at h6
  have hn10 : n < 10 := by
    rcases Nat.lt_or_ge n 10 with q | q
    · exact q
    · exact absurd h6 (nI_nlt (a := n) (b := 10) q (by omega))
  have e7 : s_add M B kd mi su B 7 = M B 7 := by
    unfold s_add
    rw [q_put_at, if_neg (by decide), sp_6, sp_5, sp_4, sp_3, sp_2, sp_1]
  have e6 : s_add M B kd mi su B 6 = M B 6 + 1 := by
    unfold s_add
    rw [q_put_at, if_pos rfl]
  refine ⟨n + 1, h, hB, by rw [e6, hn, nI_1], by omega, by rw [e7]; exact hh, ?_⟩
  rw [Nat.pow_succ]
  omega
theorem eqx_add {M : q_M} {kd mi su : Int32} : eqx St M (s_add M 15 kd mi su) :=
  ((((((eqx.rf.sput (by decide)).sput (by decide)).sput (by decide)).sput (by decide)).sput (by decide)).sput (by decide)).qput (by decide)
theorem te_add {M : q_M} {kd mi su : Int32} (hv : v_H M 15) (h : M 15 6 < 10) : Te M (s_add M 15 kd mi su) := by
  refine ⟨eqx_add, ?_, v_add hv h⟩
  unfold s_add
  rw [q_put_ne (by decide), s_put_ne (by decide), s_put_ne (by decide), s_put_ne (by decide), s_put_ne (by decide), s_put_ne (by decide), s_put_ne (by decide)]
theorem te_sput {M : q_M} {k : Nat} {i v : Int32} (hv : v_H M 15) (hk : St k = true) (h15 : (15 : Nat) ≠ k) (h22 : (22 : Nat) ≠ k) : Te M (s_put M k 10 i v) :=
  ⟨eqx.rf.sput hk, by rw [s_put_ne h22], hv.of (s_put_ne h15)⟩
theorem te_hand {M : q_M} {t : Int32} (hv : v_H M 15) (ht : b_isThing M 15 t = true) : Te M (q_put M 15 7 (M 15 7 ^^^ (1 <<< (t &&& 31)))) := by
  obtain ⟨n, h, v⟩ := hv
  obtain ⟨j, hj, rfl⟩ := isThing_nI v ht
  exact ⟨eqx.rf.qput (by decide), by rw [q_put_ne (by decide)], _, _, v.xor hj⟩
theorem w_R_tellOne {Q : q_R} {M : q_M} (hv : v_H M 15) (hQ : ∀ (x : Int32) M', Te M M' → Q (some (.int x)) M') : q_Run 43 [.ref 22, .ref 15] M Q := by
  have te0 : Te M M := ⟨eqx.rf, rfl, hv⟩
  rw [e_R_tellOne]
  simp only [gR_tellOne_0, gR_tellOne_1, gR_tellOne_4, gR_tellOne_6, gR_tellOne_9, gR_tellOne_10, gR_tellOne_11, gR_tellOne_14, gR_tellOne_15, gR_tellOne_18, gR_tellOne_19, gR_tellOne_22, gR_tellOne_25, gR_tellOne_26, gR_tellOne_27, gR_tellOne_28, gR_tellOne_31, gR_tellOne_34, gR_tellOne_37, gR_tellOne_38, gR_tellOne_39, gR_tellOne_40, gR_tellOne_43, gR_tellOne_45, gR_tellOne_48, gR_tellOne_49, gR_tellOne_52, gR_tellOne_53, gR_tellOne_56, gR_tellOne_57, gR_tellOne_60, gR_tellOne_63, gR_tellOne_64, gR_tellOne_65, gR_tellOne_66, gR_tellOne_69, gR_tellOne_71, gR_tellOne_74, gR_tellOne_75, gR_tellOne_76, gR_tellOne_79, gR_tellOne_82, gR_tellOne_83, gR_tellOne_84, gR_tellOne_85, gR_tellOne_86, gR_tellOne_87, gR_tellOne_90, gR_tellOne_93, gR_tellOne_96, gR_tellOne_97, gR_tellOne_100, gR_tellOne_101, gR_tellOne_104, gR_tellOne_107, gR_tellOne_108, gR_tellOne_109, gR_tellOne_110, gR_tellOne_113, gR_tellOne_115, gR_tellOne_118, gR_tellOne_119, gR_tellOne_120, gR_tellOne_123, gR_tellOne_124, gR_tellOne_127, gR_tellOne_130, gR_tellOne_131, gR_tellOne_134, gR_tellOne_135, gR_tellOne_136, gR_tellOne_139, gR_tellOne_140, gR_tellOne_143, gR_tellOne_146, gR_tellOne_147, gR_tellOne_148, ↓reduceIte, Bool.false_eq_true, Bool.true_eq_false, qk_i, qk_r, qk_n, Option.toList_some, Option.toList_none, List.cons_append, List.nil_append, true_and, and_true, true_or, or_true, eq_self, if_true, if_false, q_b1, q_b2, c_A, c_R, c_O, c_M, c_H1, c_H8, c_H15, c_H15, x_H_addThing c_H15, x_H_isThing c_H15, x_H_turnHand c_H15, x_H_turnAny c_H15, x_H_turnAll c_H15, rf_H3 c_H15, x_W_put (al_H c_H15).2.2.2.1, q_z0]
  repeat' split
  all_goals refine hQ _ _ ?_
  all_goals first
    | with_reducible exact te0
    | with_reducible exact te_sput hv (by decide) (by decide) (by decide)
    | (rename_i hc; with_reducible exact te_add hv (of_decide_eq_true ((Bool.and_eq_true _ _).mp hc).2))
    | with_reducible exact te_hand hv ((Bool.not_eq_false _).mp (by assumption))
theorem w_R_tellEach_l {Q : q_R} {M0 : q_M} (hQ : ∀ (x : Int32) M', Te M0 M' → Q (some (.int x)) M') : ∀ k j, j + k = 96 → ∀ (t : Int32) (o4 : Option Value) (M : q_M), Te M0 M →
    q_g 42 none Q 9 [some (.ref 22), some (.ref 15), some (.int t), some (.int (nI j)), o4] [] M := by
  intro k
  induction k with
  | zero =>
    intro j hj t o4 M hM
    have : j = 96 := by omega
    subst this
    have h1 : (96 : Int32) ≤ nI 96 := by decide
    rw [gR_tellEach_9]
    simp only [gR_tellEach_0, gR_tellEach_1, gR_tellEach_2, gR_tellEach_5, gR_tellEach_6, gR_tellEach_7, gR_tellEach_8, gR_tellEach_10, gR_tellEach_12, gR_tellEach_15, gR_tellEach_16, gR_tellEach_19, gR_tellEach_20, gR_tellEach_23, gR_tellEach_26, gR_tellEach_27, gR_tellEach_30, gR_tellEach_32, gR_tellEach_33, gR_tellEach_36, gR_tellEach_39, gR_tellEach_40, gR_tellEach_41, gR_tellEach_44, gR_tellEach_47, gR_tellEach_50, gR_tellEach_52, gR_tellEach_53, gR_tellEach_54, gR_tellEach_57, gR_tellEach_60, gR_tellEach_63, gR_tellEach_64, ↓reduceIte, Bool.false_eq_true, Bool.true_eq_false, qk_i, qk_r, qk_n, Option.toList_some, Option.toList_none, List.cons_append, List.nil_append, true_and, and_true, true_or, or_true, eq_self, if_true, if_false, q_b1, q_b2, c_A, c_R, c_O, c_M, c_H1, c_H8, c_H15, h1]
    exact hQ _ _ hM
  | succ k ih =>
    intro j hj t o4 M hM
    have h1 : ¬ (96 : Int32) ≤ nI j := nI_ge (b := 96) (by omega) (by omega)
    have hM1 : Te M0 (s_stmt M).2 := hM.rd rd_stmt
    rw [gR_tellEach_9]
    simp only [gR_tellEach_0, gR_tellEach_1, gR_tellEach_2, gR_tellEach_5, gR_tellEach_6, gR_tellEach_7, gR_tellEach_8, gR_tellEach_10, gR_tellEach_12, gR_tellEach_15, gR_tellEach_16, gR_tellEach_19, gR_tellEach_20, gR_tellEach_23, gR_tellEach_26, gR_tellEach_27, gR_tellEach_30, gR_tellEach_32, gR_tellEach_33, gR_tellEach_36, gR_tellEach_39, gR_tellEach_40, gR_tellEach_41, gR_tellEach_44, gR_tellEach_47, gR_tellEach_50, gR_tellEach_52, gR_tellEach_53, gR_tellEach_54, gR_tellEach_57, gR_tellEach_60, gR_tellEach_63, gR_tellEach_64, ↓reduceIte, Bool.false_eq_true, Bool.true_eq_false, qk_i, qk_r, qk_n, Option.toList_some, Option.toList_none, List.cons_append, List.nil_append, true_and, and_true, true_or, or_true, eq_self, if_true, if_false, q_b1, q_b2, c_A, c_R, c_O, c_M, c_H1, c_H8, c_H15, h1, x_R_readStatement, nI_1]
    generalize s_stmt M = S at hM1 ⊢
    split
    · exact hQ _ _ hM
    split
    · exact hQ _ _ hM1
    refine w_R_tellOne hM1.2.2 fun x M' hM' => ?_
    simp only [gR_tellEach_0, gR_tellEach_1, gR_tellEach_2, gR_tellEach_5, gR_tellEach_6, gR_tellEach_7, gR_tellEach_8, gR_tellEach_10, gR_tellEach_12, gR_tellEach_15, gR_tellEach_16, gR_tellEach_19, gR_tellEach_20, gR_tellEach_23, gR_tellEach_26, gR_tellEach_27, gR_tellEach_30, gR_tellEach_32, gR_tellEach_33, gR_tellEach_36, gR_tellEach_39, gR_tellEach_40, gR_tellEach_41, gR_tellEach_44, gR_tellEach_47, gR_tellEach_50, gR_tellEach_52, gR_tellEach_53, gR_tellEach_54, gR_tellEach_57, gR_tellEach_60, gR_tellEach_63, gR_tellEach_64, ↓reduceIte, Bool.false_eq_true, Bool.true_eq_false, qk_i, qk_r, qk_n, Option.toList_some, Option.toList_none, List.cons_append, List.nil_append, true_and, and_true, true_or, or_true, eq_self, if_true, if_false, q_b1, q_b2, c_A, c_R, c_O, c_M, c_H1, c_H8, c_H15, nI_1]
    split
    · exact ih (j + 1) (by omega) _ _ _ (hM1.tr hM')
    · exact hQ _ _ (hM1.tr hM')
theorem w_R_tellEach {Q : q_R} {M : q_M} (hv : v_H M 15) (hQ : ∀ (x : Int32) M', Te M M' → Q (some (.int x)) M') : q_Run 42 [.ref 22, .ref 15] M Q := by
  have te0 : Te M M := ⟨eqx.rf, rfl, hv⟩
  rw [e_R_tellEach]
  simp only [gR_tellEach_0, gR_tellEach_1, gR_tellEach_2, gR_tellEach_5, gR_tellEach_6, gR_tellEach_7, gR_tellEach_8, gR_tellEach_10, gR_tellEach_12, gR_tellEach_15, gR_tellEach_16, gR_tellEach_19, gR_tellEach_20, gR_tellEach_23, gR_tellEach_26, gR_tellEach_27, gR_tellEach_30, gR_tellEach_32, gR_tellEach_33, gR_tellEach_36, gR_tellEach_39, gR_tellEach_40, gR_tellEach_41, gR_tellEach_44, gR_tellEach_47, gR_tellEach_50, gR_tellEach_52, gR_tellEach_53, gR_tellEach_54, gR_tellEach_57, gR_tellEach_60, gR_tellEach_63, gR_tellEach_64, ↓reduceIte, Bool.false_eq_true, Bool.true_eq_false, qk_i, qk_r, qk_n, Option.toList_some, Option.toList_none, List.cons_append, List.nil_append, true_and, and_true, true_or, or_true, eq_self, if_true, if_false, q_b1, q_b2, c_A, c_R, c_O, c_M, c_H1, c_H8, c_H15]
  exact w_R_tellEach_l hQ 96 0 (by omega) _ _ _ (te0.rd (Rd.rf.q (by decide)))
def Sh (c : Nat) : Bool := (decide (1 ≤ c) && decide (c ≤ 7)) || St c
theorem ShSt : ∀ c, Sh c = false → St c = false := fun c h => ((Bool.or_eq_false_iff).mp h).2
theorem w_A_house {Q : q_R} {M : q_M} (hv : v_H M 1) (hQ : ∀ (x : Int32) M', eqx Sh M M' → v_H M' 1 → M' 22 1 = 0 → Q (some (.int x)) M') : q_Run 64 [.ref 0] M Q := by
  have hv15 : v_H (s_cpH M 15 1) 15 := cpH_v c_H15 (by decide) hv
  have e15 : eqx Sh M (s_cpH M 15 1) := fun c hc => cpH_ne (by
    have := ShSt c hc
    unfold St at this
    simp at this
    omega)
  have e42 : ∀ (x : Int32) M', eqx Sh M M' → v_H M' 1 → v_H M' 15 → q_g 64 none Q 42 [some (.ref 0), none] [.int x] M' := by
    intro x M' hM' h1 h15
    simp only [gA_house_0, gA_house_1, gA_house_4, gA_house_5, gA_house_8, gA_house_11, gA_house_12, gA_house_15, gA_house_18, gA_house_21, gA_house_22, gA_house_25, gA_house_26, gA_house_29, gA_house_32, gA_house_35, gA_house_36, gA_house_39, gA_house_42, gA_house_43, gA_house_44, gA_house_47, gA_house_48, gA_house_51, gA_house_52, gA_house_55, gA_house_58, gA_house_59, gA_house_62, gA_house_65, gA_house_66, ↓reduceIte, Bool.false_eq_true, Bool.true_eq_false, qk_i, qk_r, qk_n, Option.toList_some, Option.toList_none, List.cons_append, List.nil_append, true_and, and_true, true_or, or_true, eq_self, if_true, if_false, q_b1, q_b2, c_A, c_R, c_O, c_M, c_H1, c_H8, c_H15, rf_A0, rf_A2, rf_A3, x_R_forget, x_H_copyFrom c_H1 c_H15 (by decide)]
    split
    · exact hQ _ _ (hM'.qput (by decide)) (h1.of (q_put_ne (by decide))) (by rw [q_put_at, if_pos rfl])
    · have e9 : eqx Sh M' (s_cpH M' 1 15) := fun c hc => cpH_ne (by
        unfold Sh at hc
        simp at hc
        omega)
      exact hQ _ _ ((hM'.tr e9).qput (by decide)) ((cpH_v c_H1 (by decide) h15).of (q_put_ne (by decide))) (by rw [q_put_at, if_pos rfl])
  rw [e_A_house]
  simp only [gA_house_0, gA_house_1, gA_house_4, gA_house_5, gA_house_8, gA_house_11, gA_house_12, gA_house_15, gA_house_18, gA_house_21, gA_house_22, gA_house_25, gA_house_26, gA_house_29, gA_house_32, gA_house_35, gA_house_36, gA_house_39, gA_house_43, gA_house_44, gA_house_47, gA_house_48, gA_house_51, gA_house_52, gA_house_55, gA_house_58, gA_house_59, gA_house_62, gA_house_65, gA_house_66, ↓reduceIte, Bool.false_eq_true, Bool.true_eq_false, qk_i, qk_r, qk_n, Option.toList_some, Option.toList_none, List.cons_append, List.nil_append, true_and, and_true, true_or, or_true, eq_self, if_true, if_false, q_b1, q_b2, c_A, c_R, c_O, c_M, c_H1, c_H8, c_H15, rf_A0, rf_A2, rf_A3, x_H_copyFrom c_H15 c_H1 (by decide)]
  refine w_R_readsWell fun x M1 hx hM1 => ?_
  have hm1 : eqx Sh M M1 := e15.tr ((hM1.1.up St22).up ShSt)
  have hv1 : v_H M1 1 := hv.of (by rw [hM1.1 1 (by decide)]; exact cpH_ne (by omega))
  have hv151 : v_H M1 15 := hv15.of (hM1.1 15 (by decide))
  simp only [gA_house_0, gA_house_1, gA_house_4, gA_house_5, gA_house_8, gA_house_11, gA_house_12, gA_house_15, gA_house_18, gA_house_21, gA_house_22, gA_house_25, gA_house_26, gA_house_29, gA_house_32, gA_house_35, gA_house_36, gA_house_39, gA_house_43, gA_house_44, gA_house_47, gA_house_48, gA_house_51, gA_house_52, gA_house_55, gA_house_58, gA_house_59, gA_house_62, gA_house_65, gA_house_66, ↓reduceIte, Bool.false_eq_true, Bool.true_eq_false, qk_i, qk_r, qk_n, Option.toList_some, Option.toList_none, List.cons_append, List.nil_append, true_and, and_true, true_or, or_true, eq_self, if_true, if_false, q_b1, q_b2, c_A, c_R, c_O, c_M, c_H1, c_H8, c_H15, rf_A0, rf_A2, rf_A3, x_R_faultHere]
  split
  · exact e42 _ _ hm1 hv1 hv151
  · refine w_R_tellEach hv151 fun y M2 hM2 => ?_
    simp only [gA_house_0, gA_house_1, gA_house_4, gA_house_5, gA_house_8, gA_house_11, gA_house_12, gA_house_15, gA_house_18, gA_house_21, gA_house_22, gA_house_25, gA_house_26, gA_house_29, gA_house_32, gA_house_35, gA_house_36, gA_house_39, gA_house_43, gA_house_44, gA_house_47, gA_house_48, gA_house_51, gA_house_52, gA_house_55, gA_house_58, gA_house_59, gA_house_62, gA_house_65, gA_house_66, ↓reduceIte, Bool.false_eq_true, Bool.true_eq_false, qk_i, qk_r, qk_n, Option.toList_some, Option.toList_none, List.cons_append, List.nil_append, true_and, and_true, true_or, or_true, eq_self, if_true, if_false, q_b1, q_b2, c_A, c_R, c_O, c_M, c_H1, c_H8, c_H15]
    exact e42 _ _ (hm1.tr (hM2.1.up ShSt)) (hv1.of (hM2.1 1 (by decide))) hM2.2.2
