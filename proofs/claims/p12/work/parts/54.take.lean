/-! what a GO takes, by numbers; take on both sides -/
section TK
variable {Q : q_R} {M H : q_M} {n h : Nat} {a : Int32}
theorem half_N : ∀ m, m ≤ 30 → (nI m + 1) / 2 = nI ((m + 1) / 2) := by decide +kernel
theorem two_N (m : Nat) : (2 : Int32) * nI m = nI (2 * m) := by
  rw [show (2 : Int32) = nI 2 from rfl]
  exact (Int32.ofNat_mul 2 m).symm
theorem bc_N : ∀ s, s < 1024 → ∃ c, c ≤ 10 ∧ s_bc (nI s) = nI c := by
  intro s hs
  rw [s_bc_pc s hs, s_bitsN_pc (by omega) 31 (by omega)]
  refine ⟨pcN s 31, ?_, rfl⟩
  have e : ∀ s, s < 1024 → pcN s 31 ≤ 10 := by decide +kernel
  exact e s hs
theorem go_N {j s : Nat} (g : gT H n j) (hj : j < 10) (hs : s < 1024) : ∃ x, 1 ≤ x ∧ x ≤ 60 ∧ s_go H 0 (nI j) (nI s) = nI x := by
  obtain ⟨⟨k, hk, ek⟩, ⟨m, m1, m30, em⟩, -⟩ := g
  have e1 : s_get H (0 + 1) 10 (nI j) = nI k := (s_get_nI hj (by omega)).trans ek
  have e2 : s_get H (0 + 2) 10 (nI j) = nI m := (s_get_nI hj (by omega)).trans em
  have hl : ∃ l, 1 ≤ l ∧ l ≤ 30 ∧ s_lit H 0 (nI j) (nI s) = nI l := by
    unfold s_lit
    rw [e2]
    split
    · exact ⟨m, m1, m30, rfl⟩
    · exact ⟨(m + 1) / 2, by omega, by omega, half_N m m30⟩
  obtain ⟨l, l1, l30, el⟩ := hl
  obtain ⟨c, hc, ec⟩ := bc_N s hs
  unfold s_go
  rw [e1, e2, el, ec]
  split
  · exact ⟨l, l1, by omega, rfl⟩
  split
  · exact ⟨m, m1, by omega, rfl⟩
  split
  · exact ⟨m + c, by omega, by omega, nI_add m c⟩
  split
  · split
    · exact ⟨2 * l, by omega, by omega, two_N l⟩
    · exact ⟨l, l1, by omega, rfl⟩
  · exact ⟨m, m1, by omega, rfl⟩
def mv_take (H : q_M) (a : Int32) : q_P := if b_isThing H 0 a = true then (if b_can H 0 a (H 0 7) = true then (if H 0 8 + s_go H 0 a (H 0 7) ≤ 9999 then (H 0 8 + s_go H 0 a (H 0 7), q_put (q_put H 0 8 (H 0 8 + s_go H 0 a (H 0 7))) 0 7 (H 0 7 ||| (1 <<< (a &&& 31)))) else (-6, H)) else (-3, H)) else (-1, H)
theorem g_take (g : gH H n h) : ∃ h', gH (mv_take H a).2 n h' := by
  have h10 := g.1
  unfold mv_take
  split
  · rename_i ht
    obtain ⟨j, hj, rfl⟩ := thing_nI g ht
    split
    · split
      · rename_i h99
        obtain ⟨m, hm, em⟩ := g.2.2.2.2.1
        obtain ⟨x, x1, x60, ex⟩ := go_N (g.2.2.2.2.2 j hj) (by omega) g.hlt
        rw [g.2.2.1, ex, em, nI_add] at h99
        have hmx : m + x ≤ 9999 := by
          rcases Nat.lt_or_ge 9999 (m + x) with q | q
          · exact absurd h99 (nI_ge (a := 9999) q (by omega))
          · exact q
        refine ⟨h ||| 2 ^ j, ?_⟩
        have e : H 0 7 ||| ((1 : Int32) <<< (nI j &&& 31)) = nI (h ||| 2 ^ j) := by rw [g.2.2.1, sh1_nI j (by omega), or_nI]
        have e8 : H 0 8 + s_go H 0 (nI j) (H 0 7) = nI (m + x) := by rw [g.2.2.1, ex, em, nI_add]
        show gH (q_put (q_put H 0 8 _) 0 7 _) n _
        rw [e, e8]
        have g8 : gH (q_put H 0 8 (nI (m + x))) n h :=
          ⟨g.1, by rw [q_put_at, if_neg (by decide)]; exact g.2.1, by rw [q_put_at, if_neg (by decide)]; exact g.2.2.1, g.2.2.2.1, ⟨m + x, hmx, by rw [q_put_at, if_pos rfl]⟩, fun i hi => by
            have := g.2.2.2.2.2 i hi
            unfold gT at this ⊢
            rw [q_put_ne (by decide), q_put_ne (by decide), q_put_ne (by decide), q_put_ne (by decide), q_put_ne (by decide), q_put_ne (by decide)]
            exact this⟩
        exact g8.had (Nat.or_lt_two_pow g.2.2.2.1 (Nat.pow_lt_pow_right (by omega) hj))
      · exact ⟨h, g⟩
    · exact ⟨h, g⟩
  · exact ⟨h, g⟩
theorem x_A_take (r : RC 1 M H) (hQ : ∀ M', eqx Sn M M' → RC 1 M' (mv_take H a).2 → Q (some (.int (mv_take H a).1)) M') : q_Run 88 [.ref 0, .int a] M Q := by
  unfold mv_take at hQ
  rw [e_A_take]
  simp only [gA_take_0, gA_take_1, gA_take_4, gA_take_5, gA_take_8, gA_take_11, gA_take_12, gA_take_13, gA_take_16, gA_take_17, gA_take_18, gA_take_21, gA_take_22, gA_take_23, gA_take_26, gA_take_29, gA_take_32, gA_take_35, gA_take_36, gA_take_38, gA_take_41, gA_take_42, gA_take_43, gA_take_46, gA_take_49, gA_take_50, gA_take_53, gA_take_54, gA_take_55, gA_take_58, gA_take_61, gA_take_64, gA_take_65, gA_take_68, gA_take_71, gA_take_72, gA_take_74, gA_take_77, gA_take_78, gA_take_79, gA_take_82, gA_take_83, gA_take_86, ↓reduceIte, Bool.false_eq_true, Bool.true_eq_false, qk_i, qk_r, qk_n, Option.toList_some, Option.toList_none, List.cons_append, List.nil_append, true_and, and_true, true_or, or_true, eq_self, if_true, if_false, q_b1, q_b2, c_A, c_R, c_O, c_M, c_H1, c_H8, c_H15, rf_A0, x_H_isThing c_H1, x_H_canBeHad c_H1, x_H_minutesOfGo c_H1, x_H_takeIt c_H1, q_z0, x_A_refuse]
  rw [r.isThing, r.can, r.go, r.2.2.1, r.2.2.2]
  cases h1 : b_isThing H 0 a
  · simp only [h1, Bool.false_eq_true, if_false] at hQ
    simp only [if_true, not_true, if_false]
    exact hQ _ eqxn_ref r.ref
  · cases h2 : b_can H 0 a (H 0 7)
    · simp only [h1, h2, Bool.false_eq_true, if_true, if_false] at hQ
      simp only [Bool.true_eq_false, if_true, if_false, not_true, not_false_eq_true]
      exact hQ _ eqxn_ref r.ref
    · by_cases h3 : H 0 8 + s_go H 0 a (H 0 7) ≤ 9999
      · simp only [h1, h2, h3, if_true] at hQ
        simp only [h3, Bool.true_eq_false, if_true, if_false, not_true, not_false_eq_true]
        exact hQ _ ((eqx.rf.qput (by decide)).qput (by decide)) r.p8.p7
      · simp only [h1, h2, h3, if_true, if_false] at hQ
        simp only [h3, Bool.true_eq_false, if_true, if_false, not_true, not_false_eq_true]
        exact hQ _ eqxn_ref r.ref
theorem v_go_N {j s : Nat} (r : RM M H) (hj : j < 10) (hs : s < 1024) : v_go M j (nI s) = s_go H 0 (nI j) (nI s) := (v_go_eq r hj hs).symm
theorem x_M_take (g : gH H n h) (r : RM M H) (hQ : ∀ M', eqf Sv Gv M M' → RM M' (mv_take H a).2 → Q (some (.int (mv_take H a).1)) M') : q_Run 151 [.ref 30, .int a] M Q := by
  have n1 : ((-1 : Int32) = 0) = False := by decide
  have n3 : ((-3 : Int32) = 0) = False := by decide
  have n6 : ((-6 : Int32) = 0) = False := by decide
  have h10 := g.1
  have hl := g.hlt
  have hv := g.vm r
  unfold mv_take at hQ
  rw [e_M_take]
  simp only [gM_take_0, gM_take_1, gM_take_2, gM_take_5, gM_take_8, gM_take_9, gM_take_13, gM_take_14, gM_take_17, gM_take_20, gM_take_21, gM_take_24, gM_take_27, gM_take_29, gM_take_32, gM_take_33, gM_take_36, gM_take_37, gM_take_38, gM_take_39, gM_take_42, gM_take_45, gM_take_46, gM_take_49, gM_take_52, gM_take_54, gM_take_57, gM_take_58, gM_take_59, gM_take_60, gM_take_63, gM_take_64, gM_take_65, gM_take_68, gM_take_69, gM_take_70, gM_take_71, gM_take_74, gM_take_75, gM_take_76, gM_take_77, gM_take_80, gM_take_83, gM_take_84, gM_take_87, gM_take_88, gM_take_89, gM_take_92, gM_take_93, gM_take_94, gM_take_95, gM_take_96, gM_take_99, gM_take_100, gM_take_103, ↓reduceIte, Bool.false_eq_true, Bool.true_eq_false, qk_i, qk_r, qk_n, Option.toList_some, Option.toList_none, List.cons_append, List.nil_append, true_and, and_true, true_or, or_true, eq_self, if_true, if_false, q_b1, q_b2, c_A, c_R, c_O, c_M, c_H1, c_H8, c_H15, x_M_isThing, q_z0, n1, x_M_no no_1]
  rw [r.isThing]
  split
  · rename_i ht
    have ht' := (Bool.not_eq_false _).mp ht
    obtain ⟨j, hj, rfl⟩ := thing_nI g ht'
    have hml : mayN H h n < 1024 := Nat.lt_of_lt_of_le (mayN_lt n) (two_pow_le h10)
    have hb : b_has (nI (mayN H h n)) (nI j) = b_can H 0 (nI j) (nI h) := by
      rw [has_nI (by omega) (by omega), mayN_tb]
      simp [hj, canN]
    rw [if_pos ht', g.2.2.1] at hQ
    have e9 : M 30 9 = H 0 8 := r.2.2.2
    simp only [gM_take_0, gM_take_1, gM_take_2, gM_take_5, gM_take_8, gM_take_9, gM_take_12, gM_take_13, gM_take_14, gM_take_17, gM_take_20, gM_take_21, gM_take_24, gM_take_27, gM_take_29, gM_take_33, gM_take_36, gM_take_37, gM_take_38, gM_take_39, gM_take_42, gM_take_45, gM_take_46, gM_take_49, gM_take_52, gM_take_54, gM_take_57, gM_take_58, gM_take_59, gM_take_60, gM_take_63, gM_take_64, gM_take_65, gM_take_68, gM_take_69, gM_take_70, gM_take_71, gM_take_74, gM_take_75, gM_take_76, gM_take_77, gM_take_80, gM_take_83, gM_take_84, gM_take_87, gM_take_88, gM_take_89, gM_take_92, gM_take_93, gM_take_94, gM_take_95, gM_take_96, gM_take_99, gM_take_100, gM_take_103, ↓reduceIte, Bool.false_eq_true, Bool.true_eq_false, qk_i, qk_r, qk_n, Option.toList_some, Option.toList_none, List.cons_append, List.nil_append, true_and, and_true, true_or, or_true, eq_self, if_true, if_false, q_b1, q_b2, c_A, c_R, c_O, c_M, c_H1, c_H8, c_H15, hv.2.2.1, x_M_mayBy g r hl, x_M_has, hb, q_z0, n3, x_M_no no_3]
    cases hc : b_can H 0 (nI j) (nI h)
    · simp only [hc, Bool.false_eq_true, if_false] at hQ
      simp only [not_true, if_false]
      exact hQ _ eqv_no r.no
    · simp only [hc, if_true] at hQ
      simp only [gM_take_0, gM_take_1, gM_take_2, gM_take_5, gM_take_8, gM_take_9, gM_take_12, gM_take_13, gM_take_14, gM_take_17, gM_take_20, gM_take_21, gM_take_24, gM_take_27, gM_take_29, gM_take_32, gM_take_33, gM_take_36, gM_take_37, gM_take_38, gM_take_39, gM_take_42, gM_take_45, gM_take_46, gM_take_49, gM_take_52, gM_take_54, gM_take_57, gM_take_58, gM_take_59, gM_take_60, gM_take_63, gM_take_64, gM_take_65, gM_take_68, gM_take_69, gM_take_70, gM_take_71, gM_take_74, gM_take_75, gM_take_76, gM_take_77, gM_take_80, gM_take_83, gM_take_84, gM_take_87, gM_take_88, gM_take_89, gM_take_92, gM_take_93, gM_take_94, gM_take_95, gM_take_96, gM_take_99, gM_take_100, gM_take_103, ↓reduceIte, Bool.false_eq_true, Bool.true_eq_false, qk_i, qk_r, qk_n, Option.toList_some, Option.toList_none, List.cons_append, List.nil_append, true_and, and_true, true_or, or_true, eq_self, if_true, if_false, q_b1, q_b2, c_A, c_R, c_O, c_M, c_H1, c_H8, c_H15, hv.2.2.1, e9, x_M_goOf (show j < 10 by omega), v_go_N r (show j < 10 by omega) hl, n6, x_M_no no_6, Bool.true_eq_false, not_false_eq_true]
      by_cases h3 : H 0 8 + s_go H 0 (nI j) (nI h) ≤ 9999
      · have e8 : ∀ w : Int32, q_put M 30 9 w 30 8 = nI h := fun w => by rw [q_put_at, if_neg (by decide)]; exact hv.2.2.1
        have e99 : ∀ w v : Int32, q_put (q_put M 30 9 w) 30 8 v 30 9 = w := fun w v => by rw [q_put_at, if_neg (by decide), q_put_at, if_pos rfl]
        simp only [h3, if_true] at hQ
        simp only [h3, if_true, e8, e99]
        exact hQ _ ((eqf.rf.fld (by decide)).fld (by decide)) r.p8.p7
      · simp only [h3, if_false] at hQ
        simp only [h3, if_false]
        exact hQ _ eqv_no r.no
  · rename_i ht
    rw [if_neg (fun q => ht (by rw [q]; decide))] at hQ
    exact hQ _ eqv_no r.no
end TK
