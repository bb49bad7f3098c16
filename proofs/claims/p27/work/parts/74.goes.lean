/-! SEEKERS: one behind the other, their MINUTES, and by lot -/
def v_cc (H : q_M) (n : Nat) (kd : Int32) (s : Nat) : Nat := v_ch H n kd s n
def v_nx (H : q_M) (n : Nat) (kd : Int32) (s : Nat) : Nat := if v_cc H n kd s = 10 then s else s ||| 2 ^ v_cc H n kd s
def v_sq (H : q_M) (n : Nat) (kd : Int32) (h : Nat) : Nat → Nat
  | 0 => h
  | i + 1 => v_nx H n kd (v_sq H n kd h i)
def v_sm (H : q_M) (n : Nat) (kd : Int32) (h : Nat) : Nat → Int32
  | 0 => 0
  | i + 1 => if v_cc H n kd (v_sq H n kd h i) = 10 then v_sm H n kd h i else v_sm H n kd h i + s_go H 0 (nI (v_cc H n kd (v_sq H n kd h i))) (nI (v_sq H n kd h i))
def v_draw (z : Int32) : Int32 := (z &&& 2147483647) / 256 - (z &&& 2147483647) / 256 / 10 * 10
def v_lt (H : q_M) (n : Nat) (kd : Int32) : Nat → Int32 → Nat → Int32 → Int32
  | 0, _, _, v => v
  | k + 1, z, s, v => if v_cc H n kd s = 10 then v else v_lt H n kd k (z * 1664525 + 1013904223) (if H 3 (v_cc H n kd s) ≤ v_draw (z * 1664525 + 1013904223) then s else s ||| 2 ^ v_cc H n kd s) (v + s_go H 0 (nI (v_cc H n kd s)) (nI s))
section GOES
variable {Q : q_R} {M H : q_M} {n h : Nat} {a b kd : Int32}
theorem v_sq_s (H : q_M) (n : Nat) (kd : Int32) (h i : Nat) : v_sq H n kd h (i + 1) = v_nx H n kd (v_sq H n kd h i) := rfl
theorem v_sm_s (H : q_M) (n : Nat) (kd : Int32) (h i : Nat) : v_sm H n kd h (i + 1) = if v_cc H n kd (v_sq H n kd h i) = 10 then v_sm H n kd h i else v_sm H n kd h i + s_go H 0 (nI (v_cc H n kd (v_sq H n kd h i))) (nI (v_sq H n kd h i)) := rfl
theorem v_lt_s (H : q_M) (n : Nat) (kd : Int32) (k : Nat) (z : Int32) (s : Nat) (v : Int32) : v_lt H n kd (k + 1) z s v = if v_cc H n kd s = 10 then v else v_lt H n kd k (z * 1664525 + 1013904223) (if H 3 (v_cc H n kd s) ≤ v_draw (z * 1664525 + 1013904223) then s else s ||| 2 ^ v_cc H n kd s) (v + s_go H 0 (nI (v_cc H n kd s)) (nI s)) := rfl
theorem cc_lt (g : gH H n h) {s : Nat} (hc : ¬ v_cc H n kd s = 10) : v_cc H n kd s < n ∧ v_cc H n kd s < 10 ∧ (mayN H s n).testBit (v_cc H n kd s) = true := by
  have h10 := g.1
  rcases ch_lt (H := H) (n := n) (kd := kd) (s := s) n with q | ⟨q, z⟩
  · exact absurd q hc
  · exact ⟨q, Nat.lt_of_lt_of_le q h10, z⟩
theorem cc_10 (g : gH H n h) {s : Nat} : v_cc H n kd s ≤ 10 := ch_10 g.1
theorem vnx_lt (g : gH H n h) {s : Nat} (hs : s < 1024) : v_nx H n kd s < 1024 := by
  unfold v_nx
  split
  · exact hs
  · rename_i hc
    exact or1_lt hs (cc_lt g hc).2.1
theorem sq_lt (g : gH H n h) : ∀ i, v_sq H n kd h i < 1024
  | 0 => g.hlt
  | i + 1 => vnx_lt g (sq_lt g i)
/-- one more is had behind each take -/
theorem nx_pc (g : gH H n h) {s : Nat} (hs : s < 1024) (hc : ¬ v_cc H n kd s = 10) : pcN s 10 + 1 ≤ pcN (v_nx H n kd s) 10 := by
  obtain ⟨c1, c2, c3⟩ := cc_lt g hc
  have hb := mayN_dis hs g.1 _ c3
  have e : v_nx H n kd s = s ||| 2 ^ v_cc H n kd s := if_neg hc
  rw [e, pcN_or (fun i hi => ?_)]
  · have := pcN_pos (2 ^ v_cc H n kd s) (Nat.pow_lt_pow_right (a := 2) (n := 10) (by omega) c2) (Nat.ne_of_gt (Nat.two_pow_pos _))
    omega
  · rw [Nat.testBit_two_pow] at hi
    have : v_cc H n kd s = i := of_decide_eq_true hi
    rw [← this]
    exact hb
theorem sq_stay (i : Nat) (hc : v_cc H n kd (v_sq H n kd h i) = 10) : ∀ k, v_sq H n kd h (i + k) = v_sq H n kd h i
  | 0 => rfl
  | k + 1 => by
    show v_nx H n kd (v_sq H n kd h (i + k)) = _
    rw [sq_stay i hc k]
    exact if_pos hc
theorem cc_stay {i m : Nat} (hi : i ≤ m) (hc : v_cc H n kd (v_sq H n kd h i) = 10) : v_cc H n kd (v_sq H n kd h m) = 10 := by
  have := sq_stay i hc (m - i)
  rw [show i + (m - i) = m by omega] at this
  rw [this]
  exact hc
theorem sm_stay (i : Nat) (hc : v_cc H n kd (v_sq H n kd h i) = 10) : ∀ k, v_sm H n kd h (i + k) = v_sm H n kd h i
  | 0 => rfl
  | k + 1 => by
    show v_sm H n kd h (i + k + 1) = _
    rw [v_sm_s, if_pos (cc_stay (by omega) hc), sm_stay i hc k]
theorem sq_pc (g : gH H n h) : ∀ i, v_cc H n kd (v_sq H n kd h i) = 10 ∨ i ≤ pcN (v_sq H n kd h i) 10
  | 0 => Or.inr (Nat.zero_le _)
  | i + 1 => by
    by_cases hc : v_cc H n kd (v_sq H n kd h i) = 10
    · exact Or.inl (cc_stay (Nat.le_succ i) hc)
    · rcases sq_pc g i with q | q
      · exact absurd q hc
      · have := nx_pc g (sq_lt g i) hc
        rw [← v_sq_s] at this
        exact Or.inr (by omega)
/-- ten takes are the most -/
theorem cc_end (g : gH H n h) : v_cc H n kd (v_sq H n kd h 10) = 10 := by
  by_cases hc : v_cc H n kd (v_sq H n kd h 10) = 10
  · exact hc
  · exfalso
    rcases sq_pc (kd := kd) g 10 with q | q
    · exact hc q
    · have := nx_pc g (sq_lt g 10) hc
      have h2 := pcN_le (v_nx H n kd (v_sq H n kd h 10)) 10
      omega
theorem y_A_ch {s : Nat} (g : gH H n h) (r : RC 1 M H) (hs : s < 1024) : q_Run 51 [.ref 1, .int kd, .int (nI s)] M Q = Q (some (.int (v_chI (v_cc H n kd s)))) M := y_K_chosen g r hs
theorem y_M_ch {s : Nat} (g : gH H n h) (r : RM M H) (hs : s < 1024) : q_Run 147 [.ref 30, .int kd, .int (nI s)] M Q = Q (some (.int (v_chI (v_cc H n kd s)))) M := y_M_sought g r hs
theorem chI_nI {c : Nat} (hc : ¬ c = 10) : v_chI c = nI c := if_neg hc
theorem nx_or {s : Nat} (hc : ¬ v_cc H n kd s = 10) : v_nx H n kd s = s ||| 2 ^ v_cc H n kd s := if_neg hc
/-! the k-th -/
theorem l_A_taken {m : Nat} (g : gH H n h) (r : RC 1 M H) (hm : m < 2 ^ 31) : ∀ k i, i + k = 10 → i ≤ m → ∀ o5 : Option Value,
    q_g 55 none Q 8 [some (.ref 1), some (.int kd), some (.int (nI m)), some (.int (nI (v_sq H n kd h i))), some (.int (nI i)), o5] [] M = Q (some (.int (v_chI (v_cc H n kd (v_sq H n kd h m))))) M := by
  intro k
  induction k with
  | zero =>
    intro i hi him o5
    have : i = 10 := by omega
    subst this
    have h1 : (10 : Int32) ≤ nI 10 := by decide
    have hc := cc_stay him (cc_end (kd := kd) g)
    rw [gK_takenAt_8, hc]
    simp only [gK_takenAt_0, gK_takenAt_1, gK_takenAt_4, gK_takenAt_5, gK_takenAt_6, gK_takenAt_10, gK_takenAt_12, gK_takenAt_15, gK_takenAt_16, gK_takenAt_17, gK_takenAt_18, gK_takenAt_21, gK_takenAt_23, gK_takenAt_25, gK_takenAt_27, gK_takenAt_30, gK_takenAt_32, gK_takenAt_33, gK_takenAt_36, gK_takenAt_38, gK_takenAt_39, gK_takenAt_40, gK_takenAt_41, gK_takenAt_43, gK_takenAt_44, gK_takenAt_45, gK_takenAt_46, gK_takenAt_49, gK_takenAt_52, gK_takenAt_54, ↓reduceIte, Bool.false_eq_true, Bool.true_eq_false, qk_i, qk_r, qk_n, Option.toList_some, Option.toList_none, List.cons_append, List.nil_append, true_and, and_true, true_or, or_true, eq_self, if_true, if_false, q_b1, q_b2, c_A, c_R, c_O, c_M, c_H1, c_H8, c_H15, h1]
    rfl
  | succ k ih =>
    intro i hi him o5
    have h1 : ¬ (10 : Int32) ≤ nI i := nI_ge (b := 10) (by omega) (by omega)
    have eim : (nI i = nI m) = (i = m) := propext (nI_eq (by omega) (by omega))
    rw [gK_takenAt_8]
    simp only [gK_takenAt_0, gK_takenAt_1, gK_takenAt_4, gK_takenAt_5, gK_takenAt_6, gK_takenAt_10, gK_takenAt_12, gK_takenAt_15, gK_takenAt_16, gK_takenAt_17, gK_takenAt_18, gK_takenAt_21, gK_takenAt_23, gK_takenAt_25, gK_takenAt_27, gK_takenAt_30, gK_takenAt_32, gK_takenAt_33, gK_takenAt_36, gK_takenAt_38, gK_takenAt_39, gK_takenAt_40, gK_takenAt_41, gK_takenAt_43, gK_takenAt_44, gK_takenAt_45, gK_takenAt_46, gK_takenAt_49, gK_takenAt_52, gK_takenAt_54, ↓reduceIte, Bool.false_eq_true, Bool.true_eq_false, qk_i, qk_r, qk_n, Option.toList_some, Option.toList_none, List.cons_append, List.nil_append, true_and, and_true, true_or, or_true, eq_self, if_true, if_false, q_b1, q_b2, c_A, c_R, c_O, c_M, c_H1, c_H8, c_H15, h1, y_A_ch g r (sq_lt g i), chI_9 (cc_10 g), eim, nI_1]
    by_cases hc : v_cc H n kd (v_sq H n kd h i) = 10
    · rw [cc_stay him hc, hc]
      simp only [n1z', ↓reduceIte, if_true, if_false, eq_self, not_true, not_false_eq_true, not_true_eq_false, Bool.true_eq_false, Bool.false_eq_true, Bool.not_false, Bool.not_true, Bool.and_true, Bool.and_false, Bool.true_and, Bool.false_and]
    · by_cases he : i = m
      · subst he
        simp only [hc, n1z', ↓reduceIte, if_true, if_false, eq_self, not_true, not_false_eq_true, not_true_eq_false, Bool.true_eq_false, Bool.false_eq_true, Bool.not_false, Bool.not_true, Bool.and_true, Bool.and_false, Bool.true_and, Bool.false_and]
      · have ec := (cc_lt g hc).2.1
        simp only [hc, he, n1z', ↓reduceIte, if_true, if_false, eq_self, not_true, not_false_eq_true, not_true_eq_false, Bool.true_eq_false, Bool.false_eq_true, Bool.not_false, Bool.not_true, Bool.and_true, Bool.and_false, Bool.true_and, Bool.false_and, chI_nI hc, or1_nI (show v_cc H n kd (v_sq H n kd h i) < 31 by omega), ← nx_or hc, ← v_sq_s]
        exact ih (i + 1) (by omega) (by omega) _
theorem y_K_taken {m : Nat} (g : gH H n h) (r : RC 1 M H) (hm : m < 2 ^ 31) : q_Run 55 [.ref 1, .int kd, .int (nI m)] M Q = Q (some (.int (v_chI (v_cc H n kd (v_sq H n kd h m))))) M := by
  rw [e_K_takenAt]
  simp only [gK_takenAt_0, gK_takenAt_1, gK_takenAt_4, gK_takenAt_5, gK_takenAt_6, gK_takenAt_10, gK_takenAt_12, gK_takenAt_15, gK_takenAt_16, gK_takenAt_17, gK_takenAt_18, gK_takenAt_21, gK_takenAt_23, gK_takenAt_25, gK_takenAt_27, gK_takenAt_30, gK_takenAt_32, gK_takenAt_33, gK_takenAt_36, gK_takenAt_38, gK_takenAt_39, gK_takenAt_40, gK_takenAt_41, gK_takenAt_43, gK_takenAt_44, gK_takenAt_45, gK_takenAt_46, gK_takenAt_49, gK_takenAt_52, gK_takenAt_54, ↓reduceIte, Bool.false_eq_true, Bool.true_eq_false, qk_i, qk_r, qk_n, Option.toList_some, Option.toList_none, List.cons_append, List.nil_append, true_and, and_true, true_or, or_true, eq_self, if_true, if_false, q_b1, q_b2, c_A, c_R, c_O, c_M, c_H1, c_H8, c_H15, e7_of g r]
  exact l_A_taken g r hm 10 0 (by omega) (by omega) none
theorem noSeek_in (c : Int32) : b_noSeeker c = !b_in c 0 5 := by
  unfold b_noSeeker b_in
  by_cases h1 : c < 0 <;> by_cases h2 : c ≤ 5 <;> simp [h1, h2, Int32.not_lt]
  all_goals first
    | done
    | exact Int32.not_le.mp h2
def an_seeker (H : q_M) (n h : Nat) (kd b : Int32) : Int32 := if b_noSeeker kd = true then -2 else if 0 ≤ b then v_chI (v_cc H n kd (v_sq H n kd h b.toNatClampNeg)) else -4
theorem y_A_seeker (g : gH H n h) (r : RC 1 M H) (hQ : ∀ M', eqx Sq M M' → Q (some (.int (an_seeker H n h kd b))) M') : q_Run 83 [.ref 0, .int kd, .int b] M Q := by
  unfold an_seeker at hQ
  rw [e_A_seeker]
  simp only [gA_seeker_0, gA_seeker_1, gA_seeker_4, gA_seeker_7, gA_seeker_8, gA_seeker_10, gA_seeker_13, gA_seeker_14, gA_seeker_15, gA_seeker_18, gA_seeker_19, gA_seeker_21, gA_seeker_24, gA_seeker_25, gA_seeker_26, gA_seeker_29, gA_seeker_30, gA_seeker_31, gA_seeker_34, ↓reduceIte, Bool.false_eq_true, Bool.true_eq_false, qk_i, qk_r, qk_n, Option.toList_some, Option.toList_none, List.cons_append, List.nil_append, true_and, and_true, true_or, or_true, eq_self, if_true, if_false, q_b1, q_b2, c_A, c_R, c_O, c_M, c_H1, c_H8, c_H15, rf_A0, x_A_isNoSeeker, q_z0, x_A_refuse]
  cases h1 : b_noSeeker kd
  · rw [h1, if_neg (by decide)] at hQ
    by_cases h2 : 0 ≤ b
    · obtain ⟨m, hm, rfl⟩ := nI_of (x := b) (Int32.not_lt.mpr h2)
      rw [if_pos h2, nI_clamp hm] at hQ
      simp only [h2, n1z', ↓reduceIte, if_true, if_false, eq_self, not_true, not_false_eq_true, not_true_eq_false, Bool.true_eq_false, Bool.false_eq_true, Bool.not_false, Bool.not_true, Bool.and_true, Bool.and_false, Bool.true_and, Bool.false_and, y_K_taken g r hm, gA_seeker_0, gA_seeker_1, gA_seeker_4, gA_seeker_7, gA_seeker_8, gA_seeker_10, gA_seeker_13, gA_seeker_14, gA_seeker_15, gA_seeker_18, gA_seeker_19, gA_seeker_21, gA_seeker_24, gA_seeker_25, gA_seeker_26, gA_seeker_29, gA_seeker_30, gA_seeker_31, gA_seeker_34, ↓reduceIte, Bool.false_eq_true, Bool.true_eq_false, qk_i, qk_r, qk_n, Option.toList_some, Option.toList_none, List.cons_append, List.nil_append, true_and, and_true, true_or, or_true, eq_self, if_true, if_false, q_b1, q_b2, c_A, c_R, c_O, c_M, c_H1, c_H8, c_H15]
      exact hQ _ eqx.rf
    · rw [if_neg h2] at hQ
      simp only [h2, n1z', ↓reduceIte, if_true, if_false, eq_self, not_true, not_false_eq_true, not_true_eq_false, Bool.true_eq_false, Bool.false_eq_true, Bool.not_false, Bool.not_true, Bool.and_true, Bool.and_false, Bool.true_and, Bool.false_and]
      exact hQ _ eqx_ref
  · rw [h1, if_pos rfl] at hQ
    simp only [n1z', ↓reduceIte, if_true, if_false, eq_self, not_true, not_false_eq_true, not_true_eq_false, Bool.true_eq_false, Bool.false_eq_true, Bool.not_false, Bool.not_true, Bool.and_true, Bool.and_false, Bool.true_and, Bool.false_and]
    exact hQ _ eqx_ref
theorem l_M_taken {m : Nat} {o : Int32} (g : gH H n h) (r : RM M H) (hm : m < 2 ^ 31) : ∀ k i, i + k = m →
    q_g 144 none Q 53 [some (.ref 30), some (.int kd), some (.int (nI m)), some (.int o), some (.int (nI (v_sq H n kd h i))), some (.int (v_chI (v_cc H n kd (v_sq H n kd h i)))), some (.int (nI i))] [] M = Q (some (.int (v_chI (v_cc H n kd (v_sq H n kd h m))))) M := by
  intro k
  induction k with
  | zero =>
    intro i hi
    have : i = m := by omega
    subst this
    rw [gM_seeker_53]
    simp only [gM_seeker_0, gM_seeker_1, gM_seeker_2, gM_seeker_3, gM_seeker_6, gM_seeker_9, gM_seeker_11, gM_seeker_14, gM_seeker_15, gM_seeker_18, gM_seeker_20, gM_seeker_23, gM_seeker_24, gM_seeker_25, gM_seeker_26, gM_seeker_29, gM_seeker_30, gM_seeker_31, gM_seeker_34, gM_seeker_35, gM_seeker_36, gM_seeker_39, gM_seeker_41, gM_seeker_42, gM_seeker_43, gM_seeker_45, gM_seeker_48, gM_seeker_50, gM_seeker_51, gM_seeker_55, gM_seeker_56, gM_seeker_59, gM_seeker_61, gM_seeker_64, gM_seeker_66, gM_seeker_67, gM_seeker_69, gM_seeker_70, gM_seeker_71, gM_seeker_73, gM_seeker_74, gM_seeker_75, gM_seeker_77, gM_seeker_80, gM_seeker_82, gM_seeker_85, gM_seeker_88, gM_seeker_90, ↓reduceIte, Bool.false_eq_true, Bool.true_eq_false, qk_i, qk_r, qk_n, Option.toList_some, Option.toList_none, List.cons_append, List.nil_append, true_and, and_true, true_or, or_true, eq_self, if_true, if_false, q_b1, q_b2, c_A, c_R, c_O, c_M, c_H1, c_H8, c_H15, Int32.le_refl]
  | succ k ih =>
    intro i hi
    have h1 : ¬ nI m ≤ nI i := nI_ge (by omega) (by omega)
    rw [gM_seeker_53]
    simp only [gM_seeker_0, gM_seeker_1, gM_seeker_2, gM_seeker_3, gM_seeker_6, gM_seeker_9, gM_seeker_11, gM_seeker_14, gM_seeker_15, gM_seeker_18, gM_seeker_20, gM_seeker_23, gM_seeker_24, gM_seeker_25, gM_seeker_26, gM_seeker_29, gM_seeker_30, gM_seeker_31, gM_seeker_34, gM_seeker_35, gM_seeker_36, gM_seeker_39, gM_seeker_41, gM_seeker_42, gM_seeker_43, gM_seeker_45, gM_seeker_48, gM_seeker_50, gM_seeker_51, gM_seeker_55, gM_seeker_56, gM_seeker_59, gM_seeker_61, gM_seeker_64, gM_seeker_66, gM_seeker_67, gM_seeker_69, gM_seeker_70, gM_seeker_71, gM_seeker_73, gM_seeker_74, gM_seeker_75, gM_seeker_77, gM_seeker_80, gM_seeker_82, gM_seeker_85, gM_seeker_88, gM_seeker_90, ↓reduceIte, Bool.false_eq_true, Bool.true_eq_false, qk_i, qk_r, qk_n, Option.toList_some, Option.toList_none, List.cons_append, List.nil_append, true_and, and_true, true_or, or_true, eq_self, if_true, if_false, q_b1, q_b2, c_A, c_R, c_O, c_M, c_H1, c_H8, c_H15, h1, chI_lt (cc_10 g)]
    by_cases hc : v_cc H n kd (v_sq H n kd h i) = 10
    · rw [cc_stay (show i ≤ m by omega) hc, hc]
      simp only [n1z', ↓reduceIte, if_true, if_false, eq_self, not_true, not_false_eq_true, not_true_eq_false, Bool.true_eq_false, Bool.false_eq_true, Bool.not_false, Bool.not_true, Bool.and_true, Bool.and_false, Bool.true_and, Bool.false_and]
    · have ec := (cc_lt g hc).2.1
      have hl := sq_lt (kd := kd) g (i + 1)
      simp only [hc, n1z', ↓reduceIte, if_true, if_false, eq_self, not_true, not_false_eq_true, not_true_eq_false, Bool.true_eq_false, Bool.false_eq_true, Bool.not_false, Bool.not_true, Bool.and_true, Bool.and_false, Bool.true_and, Bool.false_and, chI_nI hc, or1_nI (show v_cc H n kd (v_sq H n kd h i) < 31 by omega), ← nx_or hc, ← v_sq_s]
      rw [y_M_ch g r hl]
      simp only [gM_seeker_0, gM_seeker_1, gM_seeker_2, gM_seeker_3, gM_seeker_6, gM_seeker_9, gM_seeker_11, gM_seeker_14, gM_seeker_15, gM_seeker_18, gM_seeker_20, gM_seeker_23, gM_seeker_24, gM_seeker_25, gM_seeker_26, gM_seeker_29, gM_seeker_30, gM_seeker_31, gM_seeker_34, gM_seeker_35, gM_seeker_36, gM_seeker_39, gM_seeker_41, gM_seeker_42, gM_seeker_43, gM_seeker_45, gM_seeker_48, gM_seeker_50, gM_seeker_51, gM_seeker_55, gM_seeker_56, gM_seeker_59, gM_seeker_61, gM_seeker_64, gM_seeker_66, gM_seeker_67, gM_seeker_69, gM_seeker_70, gM_seeker_71, gM_seeker_73, gM_seeker_74, gM_seeker_75, gM_seeker_77, gM_seeker_80, gM_seeker_82, gM_seeker_85, gM_seeker_88, gM_seeker_90, ↓reduceIte, Bool.false_eq_true, Bool.true_eq_false, qk_i, qk_r, qk_n, Option.toList_some, Option.toList_none, List.cons_append, List.nil_append, true_and, and_true, true_or, or_true, eq_self, if_true, if_false, q_b1, q_b2, c_A, c_R, c_O, c_M, c_H1, c_H8, c_H15, nI_1]
      exact ih (i + 1) (by omega)
theorem y_M_seeker (g : gH H n h) (r : RM M H) (hQ : ∀ M', eqx Sm M M' → Q (some (.int (an_seeker H n h kd b))) M') : q_Run 144 [.ref 30, .int kd, .int b] M Q := by
  have n2 : ((-2 : Int32) = 0) = False := by decide
  have n4 : ((-4 : Int32) = 0) = False := by decide
  unfold an_seeker at hQ
  rw [noSeek_in] at hQ
  rw [e_M_seeker]
  simp only [gM_seeker_0, gM_seeker_1, gM_seeker_2, gM_seeker_3, gM_seeker_6, gM_seeker_9, gM_seeker_11, gM_seeker_14, gM_seeker_15, gM_seeker_18, gM_seeker_20, gM_seeker_23, gM_seeker_24, gM_seeker_25, gM_seeker_26, gM_seeker_29, gM_seeker_30, gM_seeker_31, gM_seeker_34, gM_seeker_35, gM_seeker_36, gM_seeker_39, gM_seeker_41, gM_seeker_42, gM_seeker_43, gM_seeker_45, gM_seeker_48, gM_seeker_50, gM_seeker_51, gM_seeker_55, gM_seeker_56, gM_seeker_59, gM_seeker_61, gM_seeker_64, gM_seeker_66, gM_seeker_67, gM_seeker_69, gM_seeker_70, gM_seeker_71, gM_seeker_73, gM_seeker_74, gM_seeker_75, gM_seeker_77, gM_seeker_80, gM_seeker_82, gM_seeker_85, gM_seeker_88, gM_seeker_90, ↓reduceIte, Bool.false_eq_true, Bool.true_eq_false, qk_i, qk_r, qk_n, Option.toList_some, Option.toList_none, List.cons_append, List.nil_append, true_and, and_true, true_or, or_true, eq_self, if_true, if_false, q_b1, q_b2, c_A, c_R, c_O, c_M, c_H1, c_H8, c_H15, x_M_isIn, q_z0, n2, n4, x_M_no no_2, x_M_no no_4, (g.vm r).2.2.1, y_M_ch g r g.hlt]
  cases h1 : b_in kd 0 5
  · rw [h1, if_pos (by decide)] at hQ
    simp only [n1z', ↓reduceIte, if_true, if_false, eq_self, not_true, not_false_eq_true, not_true_eq_false, Bool.true_eq_false, Bool.false_eq_true, Bool.not_false, Bool.not_true, Bool.and_true, Bool.and_false, Bool.true_and, Bool.false_and]
    exact hQ _ eqm_no
  · rw [h1, if_neg (by decide)] at hQ
    by_cases h2 : 0 ≤ b
    · obtain ⟨m, hm, rfl⟩ := nI_of (x := b) (Int32.not_lt.mpr h2)
      rw [if_pos h2, nI_clamp hm] at hQ
      simp only [h2, n1z', ↓reduceIte, if_true, if_false, eq_self, not_true, not_false_eq_true, not_true_eq_false, Bool.true_eq_false, Bool.false_eq_true, Bool.not_false, Bool.not_true, Bool.and_true, Bool.and_false, Bool.true_and, Bool.false_and]
      exact Eq.mpr (l_M_taken g r hm m 0 (by omega)) (hQ _ eqx.rf)
    · rw [if_neg h2] at hQ
      simp only [h2, n1z', ↓reduceIte, if_true, if_false, eq_self, not_true, not_false_eq_true, not_true_eq_false, Bool.true_eq_false, Bool.false_eq_true, Bool.not_false, Bool.not_true, Bool.and_true, Bool.and_false, Bool.true_and, Bool.false_and]
      exact hQ _ eqm_no
/-! MINUTES of all -/
theorem l_A_sum (g : gH H n h) (r : RC 1 M H) : ∀ k i, i + k = 10 → ∀ o5 : Option Value,
    q_g 53 none Q 10 [some (.ref 1), some (.int kd), some (.int (nI (v_sq H n kd h i))), some (.int (v_sm H n kd h i)), some (.int (nI i)), o5] [] M = Q (some (.int (v_sm H n kd h 10))) M := by
  intro k
  induction k with
  | zero =>
    intro i hi o5
    have : i = 10 := by omega
    subst this
    have h1 : (10 : Int32) ≤ nI 10 := by decide
    rw [gK_minutesOfAll_10]
    simp only [gK_minutesOfAll_0, gK_minutesOfAll_1, gK_minutesOfAll_4, gK_minutesOfAll_5, gK_minutesOfAll_6, gK_minutesOfAll_7, gK_minutesOfAll_8, gK_minutesOfAll_12, gK_minutesOfAll_14, gK_minutesOfAll_17, gK_minutesOfAll_18, gK_minutesOfAll_19, gK_minutesOfAll_20, gK_minutesOfAll_23, gK_minutesOfAll_25, gK_minutesOfAll_27, gK_minutesOfAll_29, gK_minutesOfAll_32, gK_minutesOfAll_35, gK_minutesOfAll_36, gK_minutesOfAll_37, gK_minutesOfAll_39, gK_minutesOfAll_40, gK_minutesOfAll_43, gK_minutesOfAll_44, gK_minutesOfAll_45, gK_minutesOfAll_46, gK_minutesOfAll_47, gK_minutesOfAll_49, gK_minutesOfAll_50, gK_minutesOfAll_51, gK_minutesOfAll_52, gK_minutesOfAll_55, gK_minutesOfAll_58, gK_minutesOfAll_59, ↓reduceIte, Bool.false_eq_true, Bool.true_eq_false, qk_i, qk_r, qk_n, Option.toList_some, Option.toList_none, List.cons_append, List.nil_append, true_and, and_true, true_or, or_true, eq_self, if_true, if_false, q_b1, q_b2, c_A, c_R, c_O, c_M, c_H1, c_H8, c_H15, h1]
  | succ k ih =>
    intro i hi o5
    have h1 : ¬ (10 : Int32) ≤ nI i := nI_ge (b := 10) (by omega) (by omega)
    rw [gK_minutesOfAll_10]
    simp only [gK_minutesOfAll_0, gK_minutesOfAll_1, gK_minutesOfAll_4, gK_minutesOfAll_5, gK_minutesOfAll_6, gK_minutesOfAll_7, gK_minutesOfAll_8, gK_minutesOfAll_12, gK_minutesOfAll_14, gK_minutesOfAll_17, gK_minutesOfAll_18, gK_minutesOfAll_19, gK_minutesOfAll_20, gK_minutesOfAll_23, gK_minutesOfAll_25, gK_minutesOfAll_27, gK_minutesOfAll_29, gK_minutesOfAll_32, gK_minutesOfAll_35, gK_minutesOfAll_36, gK_minutesOfAll_37, gK_minutesOfAll_39, gK_minutesOfAll_40, gK_minutesOfAll_43, gK_minutesOfAll_44, gK_minutesOfAll_45, gK_minutesOfAll_46, gK_minutesOfAll_47, gK_minutesOfAll_49, gK_minutesOfAll_50, gK_minutesOfAll_51, gK_minutesOfAll_52, gK_minutesOfAll_55, gK_minutesOfAll_58, gK_minutesOfAll_59, ↓reduceIte, Bool.false_eq_true, Bool.true_eq_false, qk_i, qk_r, qk_n, Option.toList_some, Option.toList_none, List.cons_append, List.nil_append, true_and, and_true, true_or, or_true, eq_self, if_true, if_false, q_b1, q_b2, c_A, c_R, c_O, c_M, c_H1, c_H8, c_H15, h1, y_A_ch g r (sq_lt g i), chI_9 (cc_10 g), nI_1, x_H_minutesOfGo c_H1]
    by_cases hc : v_cc H n kd (v_sq H n kd h i) = 10
    · have e := sm_stay i hc (k + 1)
      rw [hi] at e
      rw [e]
      simp only [hc, n1z', ↓reduceIte, if_true, if_false, eq_self, not_true, not_false_eq_true, not_true_eq_false, Bool.true_eq_false, Bool.false_eq_true, Bool.not_false, Bool.not_true, Bool.and_true, Bool.and_false, Bool.true_and, Bool.false_and]
    · have ec := (cc_lt g hc).2.1
      have eg : ∀ t w, s_go M 1 t w = s_go H 0 t w := fun _ _ => r.go
      have es := v_sm_s H n kd h i
      rw [if_neg hc] at es
      simp only [hc, n1z', ↓reduceIte, if_true, if_false, eq_self, not_true, not_false_eq_true, not_true_eq_false, Bool.true_eq_false, Bool.false_eq_true, Bool.not_false, Bool.not_true, Bool.and_true, Bool.and_false, Bool.true_and, Bool.false_and, chI_nI hc, eg, or1_nI (show v_cc H n kd (v_sq H n kd h i) < 31 by omega), ← nx_or hc, ← v_sq_s, ← es]
      exact ih (i + 1) (by omega) _
def an_seeks (H : q_M) (n h : Nat) (kd : Int32) : Int32 := if b_noSeeker kd = true then -2 else v_sm H n kd h 10
theorem y_A_seeks (g : gH H n h) (r : RC 1 M H) (hQ : ∀ M', eqx Sq M M' → Q (some (.int (an_seeks H n h kd))) M') : q_Run 84 [.ref 0, .int kd] M Q := by
  have e : ∀ Q : q_R, q_Run 53 [.ref 1, .int kd] M Q = Q (some (.int (v_sm H n kd h 10))) M := fun Q => by
    rw [e_K_minutesOfAll]
    simp only [gK_minutesOfAll_0, gK_minutesOfAll_1, gK_minutesOfAll_4, gK_minutesOfAll_5, gK_minutesOfAll_6, gK_minutesOfAll_7, gK_minutesOfAll_8, gK_minutesOfAll_12, gK_minutesOfAll_14, gK_minutesOfAll_17, gK_minutesOfAll_18, gK_minutesOfAll_19, gK_minutesOfAll_20, gK_minutesOfAll_23, gK_minutesOfAll_25, gK_minutesOfAll_27, gK_minutesOfAll_29, gK_minutesOfAll_32, gK_minutesOfAll_35, gK_minutesOfAll_36, gK_minutesOfAll_37, gK_minutesOfAll_39, gK_minutesOfAll_40, gK_minutesOfAll_43, gK_minutesOfAll_44, gK_minutesOfAll_45, gK_minutesOfAll_46, gK_minutesOfAll_47, gK_minutesOfAll_49, gK_minutesOfAll_50, gK_minutesOfAll_51, gK_minutesOfAll_52, gK_minutesOfAll_55, gK_minutesOfAll_58, gK_minutesOfAll_59, ↓reduceIte, Bool.false_eq_true, Bool.true_eq_false, qk_i, qk_r, qk_n, Option.toList_some, Option.toList_none, List.cons_append, List.nil_append, true_and, and_true, true_or, or_true, eq_self, if_true, if_false, q_b1, q_b2, c_A, c_R, c_O, c_M, c_H1, c_H8, c_H15, e7_of g r]
    exact l_A_sum g r 10 0 (by omega) none
  unfold an_seeks at hQ
  rw [e_A_seeks]
  simp only [gA_seeks_0, gA_seeks_1, gA_seeks_4, gA_seeks_7, gA_seeks_8, gA_seeks_10, gA_seeks_13, gA_seeks_14, gA_seeks_15, gA_seeks_18, gA_seeks_19, gA_seeks_22, ↓reduceIte, Bool.false_eq_true, Bool.true_eq_false, qk_i, qk_r, qk_n, Option.toList_some, Option.toList_none, List.cons_append, List.nil_append, true_and, and_true, true_or, or_true, eq_self, if_true, if_false, q_b1, q_b2, c_A, c_R, c_O, c_M, c_H1, c_H8, c_H15, rf_A0, x_A_isNoSeeker, q_z0, x_A_refuse, e]
  cases h1 : b_noSeeker kd
  · rw [h1, if_neg (by decide)] at hQ
    simp only [n1z', ↓reduceIte, if_true, if_false, eq_self, not_true, not_false_eq_true, not_true_eq_false, Bool.true_eq_false, Bool.false_eq_true, Bool.not_false, Bool.not_true, Bool.and_true, Bool.and_false, Bool.true_and, Bool.false_and]
    exact hQ _ eqx.rf
  · rw [h1, if_pos rfl] at hQ
    simp only [n1z', ↓reduceIte, if_true, if_false, eq_self, not_true, not_false_eq_true, not_true_eq_false, Bool.true_eq_false, Bool.false_eq_true, Bool.not_false, Bool.not_true, Bool.and_true, Bool.and_false, Bool.true_and, Bool.false_and]
    exact hQ _ eqx_ref
theorem l_M_sum (g : gH H n h) (r : RM M H) : ∀ k i, i + k = 10 →
    q_g 145 none Q 31 [some (.ref 30), some (.int kd), some (.int (nI (v_sq H n kd h i))), some (.int (v_sm H n kd h i)), some (.int (v_chI (v_cc H n kd (v_sq H n kd h i))))] [] M = Q (some (.int (v_sm H n kd h 10))) M := by
  intro k
  induction k with
  | zero =>
    intro i hi
    have : i = 10 := by omega
    subst this
    have hc := cc_end (kd := kd) g
    rw [gM_seeks_31]
    have h9 : v_chI 10 < 0 := by decide
    simp only [gM_seeks_0, gM_seeks_1, gM_seeks_2, gM_seeks_3, gM_seeks_6, gM_seeks_9, gM_seeks_10, gM_seeks_12, gM_seeks_15, gM_seeks_16, gM_seeks_17, gM_seeks_20, gM_seeks_21, gM_seeks_22, gM_seeks_23, gM_seeks_24, gM_seeks_25, gM_seeks_26, gM_seeks_29, gM_seeks_33, gM_seeks_36, gM_seeks_37, gM_seeks_38, gM_seeks_40, gM_seeks_41, gM_seeks_44, gM_seeks_45, gM_seeks_46, gM_seeks_47, gM_seeks_48, gM_seeks_50, gM_seeks_51, gM_seeks_52, gM_seeks_53, gM_seeks_54, gM_seeks_55, gM_seeks_56, gM_seeks_59, gM_seeks_61, gM_seeks_64, gM_seeks_65, ↓reduceIte, Bool.false_eq_true, Bool.true_eq_false, qk_i, qk_r, qk_n, Option.toList_some, Option.toList_none, List.cons_append, List.nil_append, true_and, and_true, true_or, or_true, eq_self, if_true, if_false, q_b1, q_b2, c_A, c_R, c_O, c_M, c_H1, c_H8, c_H15, hc, h9]
  | succ k ih =>
    intro i hi
    rw [gM_seeks_31]
    simp only [gM_seeks_0, gM_seeks_1, gM_seeks_2, gM_seeks_3, gM_seeks_6, gM_seeks_9, gM_seeks_10, gM_seeks_12, gM_seeks_15, gM_seeks_16, gM_seeks_17, gM_seeks_20, gM_seeks_21, gM_seeks_22, gM_seeks_23, gM_seeks_24, gM_seeks_25, gM_seeks_26, gM_seeks_29, gM_seeks_33, gM_seeks_36, gM_seeks_37, gM_seeks_38, gM_seeks_40, gM_seeks_41, gM_seeks_44, gM_seeks_45, gM_seeks_46, gM_seeks_47, gM_seeks_48, gM_seeks_50, gM_seeks_51, gM_seeks_52, gM_seeks_53, gM_seeks_54, gM_seeks_55, gM_seeks_56, gM_seeks_59, gM_seeks_61, gM_seeks_64, gM_seeks_65, ↓reduceIte, Bool.false_eq_true, Bool.true_eq_false, qk_i, qk_r, qk_n, Option.toList_some, Option.toList_none, List.cons_append, List.nil_append, true_and, and_true, true_or, or_true, eq_self, if_true, if_false, q_b1, q_b2, c_A, c_R, c_O, c_M, c_H1, c_H8, c_H15, chI_lt (cc_10 g)]
    by_cases hc : v_cc H n kd (v_sq H n kd h i) = 10
    · have e := sm_stay i hc (k + 1)
      rw [hi] at e
      rw [e]
      simp only [hc, n1z', ↓reduceIte, if_true, if_false, eq_self, not_true, not_false_eq_true, not_true_eq_false, Bool.true_eq_false, Bool.false_eq_true, Bool.not_false, Bool.not_true, Bool.and_true, Bool.and_false, Bool.true_and, Bool.false_and]
    · have ec := (cc_lt g hc).2.1
      have hl := sq_lt (kd := kd) g (i + 1)
      have es := v_sm_s H n kd h i
      rw [if_neg hc] at es
      simp only [hc, n1z', ↓reduceIte, if_true, if_false, eq_self, not_true, not_false_eq_true, not_true_eq_false, Bool.true_eq_false, Bool.false_eq_true, Bool.not_false, Bool.not_true, Bool.and_true, Bool.and_false, Bool.true_and, Bool.false_and, chI_nI hc, x_M_goOf ec, v_go_N r ec (sq_lt (kd := kd) g i), gM_seeks_0, gM_seeks_1, gM_seeks_2, gM_seeks_3, gM_seeks_6, gM_seeks_9, gM_seeks_10, gM_seeks_12, gM_seeks_15, gM_seeks_16, gM_seeks_17, gM_seeks_20, gM_seeks_21, gM_seeks_22, gM_seeks_23, gM_seeks_24, gM_seeks_25, gM_seeks_26, gM_seeks_29, gM_seeks_33, gM_seeks_36, gM_seeks_37, gM_seeks_38, gM_seeks_40, gM_seeks_41, gM_seeks_44, gM_seeks_45, gM_seeks_46, gM_seeks_47, gM_seeks_48, gM_seeks_50, gM_seeks_51, gM_seeks_52, gM_seeks_53, gM_seeks_54, gM_seeks_55, gM_seeks_56, gM_seeks_59, gM_seeks_61, gM_seeks_64, gM_seeks_65, ↓reduceIte, Bool.false_eq_true, Bool.true_eq_false, qk_i, qk_r, qk_n, Option.toList_some, Option.toList_none, List.cons_append, List.nil_append, true_and, and_true, true_or, or_true, eq_self, if_true, if_false, q_b1, q_b2, c_A, c_R, c_O, c_M, c_H1, c_H8, c_H15, or1_nI (show v_cc H n kd (v_sq H n kd h i) < 31 by omega), ← nx_or hc, ← v_sq_s, ← es]
      rw [y_M_ch g r hl]
      simp only [gM_seeks_0, gM_seeks_1, gM_seeks_2, gM_seeks_3, gM_seeks_6, gM_seeks_9, gM_seeks_10, gM_seeks_12, gM_seeks_15, gM_seeks_16, gM_seeks_17, gM_seeks_20, gM_seeks_21, gM_seeks_22, gM_seeks_23, gM_seeks_24, gM_seeks_25, gM_seeks_26, gM_seeks_29, gM_seeks_33, gM_seeks_36, gM_seeks_37, gM_seeks_38, gM_seeks_40, gM_seeks_41, gM_seeks_44, gM_seeks_45, gM_seeks_46, gM_seeks_47, gM_seeks_48, gM_seeks_50, gM_seeks_51, gM_seeks_52, gM_seeks_53, gM_seeks_54, gM_seeks_55, gM_seeks_56, gM_seeks_59, gM_seeks_61, gM_seeks_64, gM_seeks_65, ↓reduceIte, Bool.false_eq_true, Bool.true_eq_false, qk_i, qk_r, qk_n, Option.toList_some, Option.toList_none, List.cons_append, List.nil_append, true_and, and_true, true_or, or_true, eq_self, if_true, if_false, q_b1, q_b2, c_A, c_R, c_O, c_M, c_H1, c_H8, c_H15]
      exact ih (i + 1) (by omega)
theorem y_M_seeks (g : gH H n h) (r : RM M H) (hQ : ∀ M', eqx Sm M M' → Q (some (.int (an_seeks H n h kd))) M') : q_Run 145 [.ref 30, .int kd] M Q := by
  unfold an_seeks at hQ
  rw [noSeek_in] at hQ
  rw [e_M_seeks]
  simp only [gM_seeks_0, gM_seeks_1, gM_seeks_2, gM_seeks_3, gM_seeks_6, gM_seeks_9, gM_seeks_10, gM_seeks_12, gM_seeks_15, gM_seeks_16, gM_seeks_17, gM_seeks_20, gM_seeks_21, gM_seeks_22, gM_seeks_23, gM_seeks_24, gM_seeks_25, gM_seeks_26, gM_seeks_29, gM_seeks_33, gM_seeks_36, gM_seeks_37, gM_seeks_38, gM_seeks_40, gM_seeks_41, gM_seeks_44, gM_seeks_45, gM_seeks_46, gM_seeks_47, gM_seeks_48, gM_seeks_50, gM_seeks_51, gM_seeks_52, gM_seeks_53, gM_seeks_54, gM_seeks_55, gM_seeks_56, gM_seeks_59, gM_seeks_61, gM_seeks_64, gM_seeks_65, ↓reduceIte, Bool.false_eq_true, Bool.true_eq_false, qk_i, qk_r, qk_n, Option.toList_some, Option.toList_none, List.cons_append, List.nil_append, true_and, and_true, true_or, or_true, eq_self, if_true, if_false, q_b1, q_b2, c_A, c_R, c_O, c_M, c_H1, c_H8, c_H15, x_M_isIn, q_z0, x_M_no no_2, (g.vm r).2.2.1, y_M_ch g r g.hlt]
  cases h1 : b_in kd 0 5
  · rw [h1, if_pos (by decide)] at hQ
    simp only [n1z', ↓reduceIte, if_true, if_false, eq_self, not_true, not_false_eq_true, not_true_eq_false, Bool.true_eq_false, Bool.false_eq_true, Bool.not_false, Bool.not_true, Bool.and_true, Bool.and_false, Bool.true_and, Bool.false_and]
    exact hQ _ eqm_no
  · rw [h1, if_neg (by decide)] at hQ
    simp only [n1z', ↓reduceIte, if_true, if_false, eq_self, not_true, not_false_eq_true, not_true_eq_false, Bool.true_eq_false, Bool.false_eq_true, Bool.not_false, Bool.not_true, Bool.and_true, Bool.and_false, Bool.true_and, Bool.false_and]
    exact Eq.mpr (l_M_sum g r 10 0 (by omega)) (hQ _ eqx.rf)
/-! by lot -/
theorem l_A_lots {sd : Int32} (g : gH H n h) (r : RC 1 M H) : ∀ k i, i + k = 60 → ∀ (z : Int32) (s : Nat) (v : Int32) (o7 o8 : Option Value), s < 1024 →
    q_g 52 none Q 14 [some (.ref 1), some (.int kd), some (.int sd), some (.int (nI s)), some (.int v), some (.int z), some (.int (nI i)), o7, o8] [] M = Q (some (.int (v_lt H n kd k z s v))) M := by
  intro k
  induction k with
  | zero =>
    intro i hi z s v o7 o8 hs
    have : i = 60 := by omega
    subst this
    have h1 : (60 : Int32) ≤ nI 60 := by decide
    rw [gK_minutesByLot_14]
    simp only [gK_minutesByLot_0, gK_minutesByLot_1, gK_minutesByLot_4, gK_minutesByLot_5, gK_minutesByLot_6, gK_minutesByLot_8, gK_minutesByLot_9, gK_minutesByLot_11, gK_minutesByLot_12, gK_minutesByLot_16, gK_minutesByLot_18, gK_minutesByLot_21, gK_minutesByLot_22, gK_minutesByLot_23, gK_minutesByLot_24, gK_minutesByLot_27, gK_minutesByLot_29, gK_minutesByLot_31, gK_minutesByLot_33, gK_minutesByLot_36, gK_minutesByLot_39, gK_minutesByLot_41, gK_minutesByLot_42, gK_minutesByLot_44, gK_minutesByLot_45, gK_minutesByLot_48, gK_minutesByLot_49, gK_minutesByLot_51, gK_minutesByLot_53, gK_minutesByLot_55, gK_minutesByLot_56, gK_minutesByLot_58, gK_minutesByLot_59, gK_minutesByLot_61, gK_minutesByLot_63, gK_minutesByLot_65, gK_minutesByLot_66, gK_minutesByLot_69, gK_minutesByLot_70, gK_minutesByLot_72, gK_minutesByLot_73, gK_minutesByLot_75, gK_minutesByLot_77, gK_minutesByLot_78, gK_minutesByLot_81, gK_minutesByLot_83, gK_minutesByLot_86, gK_minutesByLot_89, gK_minutesByLot_90, gK_minutesByLot_91, gK_minutesByLot_93, gK_minutesByLot_94, gK_minutesByLot_95, gK_minutesByLot_96, gK_minutesByLot_99, gK_minutesByLot_102, gK_minutesByLot_104, ↓reduceIte, Bool.false_eq_true, Bool.true_eq_false, qk_i, qk_r, qk_n, Option.toList_some, Option.toList_none, List.cons_append, List.nil_append, true_and, and_true, true_or, or_true, eq_self, if_true, if_false, q_b1, q_b2, c_A, c_R, c_O, c_M, c_H1, c_H8, c_H15, h1]
    rfl
  | succ k ih =>
    intro i hi z s v o7 o8 hs
    have h1 : ¬ (60 : Int32) ≤ nI i := nI_ge (b := 60) (by omega) (by omega)
    have eg : ∀ t w, s_go M 1 t w = s_go H 0 t w := fun _ _ => r.go
    rw [gK_minutesByLot_14, v_lt_s]
    simp only [gK_minutesByLot_0, gK_minutesByLot_1, gK_minutesByLot_4, gK_minutesByLot_5, gK_minutesByLot_6, gK_minutesByLot_8, gK_minutesByLot_9, gK_minutesByLot_11, gK_minutesByLot_12, gK_minutesByLot_16, gK_minutesByLot_18, gK_minutesByLot_21, gK_minutesByLot_22, gK_minutesByLot_23, gK_minutesByLot_24, gK_minutesByLot_27, gK_minutesByLot_29, gK_minutesByLot_31, gK_minutesByLot_33, gK_minutesByLot_36, gK_minutesByLot_39, gK_minutesByLot_41, gK_minutesByLot_42, gK_minutesByLot_44, gK_minutesByLot_45, gK_minutesByLot_48, gK_minutesByLot_49, gK_minutesByLot_51, gK_minutesByLot_53, gK_minutesByLot_55, gK_minutesByLot_56, gK_minutesByLot_58, gK_minutesByLot_59, gK_minutesByLot_61, gK_minutesByLot_63, gK_minutesByLot_65, gK_minutesByLot_66, gK_minutesByLot_69, gK_minutesByLot_70, gK_minutesByLot_72, gK_minutesByLot_73, gK_minutesByLot_75, gK_minutesByLot_77, gK_minutesByLot_78, gK_minutesByLot_81, gK_minutesByLot_83, gK_minutesByLot_86, gK_minutesByLot_89, gK_minutesByLot_90, gK_minutesByLot_91, gK_minutesByLot_93, gK_minutesByLot_94, gK_minutesByLot_95, gK_minutesByLot_96, gK_minutesByLot_99, gK_minutesByLot_102, gK_minutesByLot_104, ↓reduceIte, Bool.false_eq_true, Bool.true_eq_false, qk_i, qk_r, qk_n, Option.toList_some, Option.toList_none, List.cons_append, List.nil_append, true_and, and_true, true_or, or_true, eq_self, if_true, if_false, q_b1, q_b2, c_A, c_R, c_O, c_M, c_H1, c_H8, c_H15, h1, y_A_ch g r hs, chI_9 (cc_10 g), nI_1, x_H_minutesOfGo c_H1, q_n256, q_n10, rf_H2 c_H1, x_W_get (al_H c_H1).2.2.1]
    by_cases hc : v_cc H n kd s = 10
    · simp only [hc, n1z', ↓reduceIte, if_true, if_false, eq_self, not_true, not_false_eq_true, not_true_eq_false, Bool.true_eq_false, Bool.false_eq_true, Bool.not_false, Bool.not_true, Bool.and_true, Bool.and_false, Bool.true_and, Bool.false_and]
    · have ec := (cc_lt g hc).2.1
      have e3 : s_get M (1 + 3) 10 (nI (v_cc H n kd s)) = H 3 (v_cc H n kd s) := by rw [r.get (c := 3) (by omega) (by omega), s_get_nI ec (by omega)]
      have ed : (z * 1664525 + 1013904223 &&& 2147483647) / 256 - (z * 1664525 + 1013904223 &&& 2147483647) / 256 / 10 * 10 = v_draw (z * 1664525 + 1013904223) := rfl
      simp only [hc, n1z', ↓reduceIte, if_true, if_false, eq_self, not_true, not_false_eq_true, not_true_eq_false, Bool.true_eq_false, Bool.false_eq_true, Bool.not_false, Bool.not_true, Bool.and_true, Bool.and_false, Bool.true_and, Bool.false_and, chI_nI hc, eg, e3, ed, or1_nI (show v_cc H n kd s < 31 by omega)]
      by_cases hd : H 3 (v_cc H n kd s) ≤ v_draw (z * 1664525 + 1013904223)
      · simp only [hd, n1z', ↓reduceIte, if_true, if_false, eq_self, not_true, not_false_eq_true, not_true_eq_false, Bool.true_eq_false, Bool.false_eq_true, Bool.not_false, Bool.not_true, Bool.and_true, Bool.and_false, Bool.true_and, Bool.false_and]
        exact ih (i + 1) (by omega) _ _ _ _ _ hs
      · simp only [hd, n1z', ↓reduceIte, if_true, if_false, eq_self, not_true, not_false_eq_true, not_true_eq_false, Bool.true_eq_false, Bool.false_eq_true, Bool.not_false, Bool.not_true, Bool.and_true, Bool.and_false, Bool.true_and, Bool.false_and]
        exact ih (i + 1) (by omega) _ _ _ _ _ (or1_lt hs ec)
def an_lots (H : q_M) (n h : Nat) (kd z : Int32) : Int32 := if b_noSeeker kd = true then -2 else v_lt H n kd 60 z h 0
theorem y_A_lots (g : gH H n h) (r : RC 1 M H) (hQ : ∀ M', eqx Sq M M' → Q (some (.int (an_lots H n h kd b))) M') : q_Run 70 [.ref 0, .int kd, .int b] M Q := by
  have e : ∀ Q : q_R, q_Run 52 [.ref 1, .int kd, .int b] M Q = Q (some (.int (v_lt H n kd 60 b h 0))) M := fun Q => by
    rw [e_K_minutesByLot]
    simp only [gK_minutesByLot_0, gK_minutesByLot_1, gK_minutesByLot_4, gK_minutesByLot_5, gK_minutesByLot_6, gK_minutesByLot_8, gK_minutesByLot_9, gK_minutesByLot_11, gK_minutesByLot_12, gK_minutesByLot_16, gK_minutesByLot_18, gK_minutesByLot_21, gK_minutesByLot_22, gK_minutesByLot_23, gK_minutesByLot_24, gK_minutesByLot_27, gK_minutesByLot_29, gK_minutesByLot_31, gK_minutesByLot_33, gK_minutesByLot_36, gK_minutesByLot_39, gK_minutesByLot_41, gK_minutesByLot_42, gK_minutesByLot_44, gK_minutesByLot_45, gK_minutesByLot_48, gK_minutesByLot_49, gK_minutesByLot_51, gK_minutesByLot_53, gK_minutesByLot_55, gK_minutesByLot_56, gK_minutesByLot_58, gK_minutesByLot_59, gK_minutesByLot_61, gK_minutesByLot_63, gK_minutesByLot_65, gK_minutesByLot_66, gK_minutesByLot_69, gK_minutesByLot_70, gK_minutesByLot_72, gK_minutesByLot_73, gK_minutesByLot_75, gK_minutesByLot_77, gK_minutesByLot_78, gK_minutesByLot_81, gK_minutesByLot_83, gK_minutesByLot_86, gK_minutesByLot_89, gK_minutesByLot_90, gK_minutesByLot_91, gK_minutesByLot_93, gK_minutesByLot_94, gK_minutesByLot_95, gK_minutesByLot_96, gK_minutesByLot_99, gK_minutesByLot_102, gK_minutesByLot_104, ↓reduceIte, Bool.false_eq_true, Bool.true_eq_false, qk_i, qk_r, qk_n, Option.toList_some, Option.toList_none, List.cons_append, List.nil_append, true_and, and_true, true_or, or_true, eq_self, if_true, if_false, q_b1, q_b2, c_A, c_R, c_O, c_M, c_H1, c_H8, c_H15, e7_of g r]
    exact l_A_lots g r 60 0 (by omega) b h 0 none none g.hlt
  unfold an_lots at hQ
  rw [e_A_lots]
  simp only [gA_lots_0, gA_lots_1, gA_lots_4, gA_lots_7, gA_lots_8, gA_lots_10, gA_lots_13, gA_lots_14, gA_lots_15, gA_lots_18, gA_lots_19, gA_lots_20, gA_lots_23, ↓reduceIte, Bool.false_eq_true, Bool.true_eq_false, qk_i, qk_r, qk_n, Option.toList_some, Option.toList_none, List.cons_append, List.nil_append, true_and, and_true, true_or, or_true, eq_self, if_true, if_false, q_b1, q_b2, c_A, c_R, c_O, c_M, c_H1, c_H8, c_H15, rf_A0, x_A_isNoSeeker, q_z0, x_A_refuse, e]
  cases h1 : b_noSeeker kd
  · rw [h1, if_neg (by decide)] at hQ
    simp only [n1z', ↓reduceIte, if_true, if_false, eq_self, not_true, not_false_eq_true, not_true_eq_false, Bool.true_eq_false, Bool.false_eq_true, Bool.not_false, Bool.not_true, Bool.and_true, Bool.and_false, Bool.true_and, Bool.false_and]
    exact hQ _ eqx.rf
  · rw [h1, if_pos rfl] at hQ
    simp only [n1z', ↓reduceIte, if_true, if_false, eq_self, not_true, not_false_eq_true, not_true_eq_false, Bool.true_eq_false, Bool.false_eq_true, Bool.not_false, Bool.not_true, Bool.and_true, Bool.and_false, Bool.true_and, Bool.false_and]
    exact hQ _ eqx_ref
theorem l_M_lots {sd : Int32} (g : gH H n h) (r : RM M H) : ∀ k i, i + k = 60 → ∀ (z : Int32) (s : Nat) (v : Int32), s < 1024 →
    q_g 121 none Q 39 [some (.ref 30), some (.int kd), some (.int sd), some (.int z), some (.int (nI s)), some (.int v), some (.int (v_chI (v_cc H n kd s))), some (.int (nI i))] [] M = Q (some (.int (v_lt H n kd k z s v))) M := by
  intro k
  induction k with
  | zero =>
    intro i hi z s v hs
    have : i = 60 := by omega
    subst this
    have h1 : (60 : Int32) ≤ nI 60 := by decide
    rw [gM_lots_39]
    simp only [gM_lots_0, gM_lots_1, gM_lots_2, gM_lots_3, gM_lots_6, gM_lots_9, gM_lots_10, gM_lots_12, gM_lots_15, gM_lots_16, gM_lots_17, gM_lots_18, gM_lots_19, gM_lots_22, gM_lots_24, gM_lots_25, gM_lots_27, gM_lots_28, gM_lots_29, gM_lots_31, gM_lots_34, gM_lots_36, gM_lots_37, gM_lots_41, gM_lots_43, gM_lots_46, gM_lots_48, gM_lots_51, gM_lots_53, gM_lots_54, gM_lots_56, gM_lots_58, gM_lots_61, gM_lots_62, gM_lots_64, gM_lots_65, gM_lots_67, gM_lots_68, gM_lots_70, gM_lots_71, gM_lots_72, gM_lots_74, gM_lots_75, gM_lots_77, gM_lots_78, gM_lots_81, gM_lots_82, gM_lots_84, gM_lots_85, gM_lots_86, gM_lots_89, gM_lots_91, gM_lots_92, gM_lots_95, gM_lots_96, gM_lots_98, gM_lots_99, gM_lots_102, gM_lots_103, gM_lots_104, gM_lots_106, gM_lots_107, gM_lots_108, gM_lots_110, gM_lots_113, gM_lots_115, gM_lots_118, gM_lots_121, gM_lots_123, ↓reduceIte, Bool.false_eq_true, Bool.true_eq_false, qk_i, qk_r, qk_n, Option.toList_some, Option.toList_none, List.cons_append, List.nil_append, true_and, and_true, true_or, or_true, eq_self, if_true, if_false, q_b1, q_b2, c_A, c_R, c_O, c_M, c_H1, c_H8, c_H15, h1]
    rfl
  | succ k ih =>
    intro i hi z s v hs
    have h1 : ¬ (60 : Int32) ≤ nI i := nI_ge (b := 60) (by omega) (by omega)
    rw [gM_lots_39, v_lt_s]
    simp only [gM_lots_0, gM_lots_1, gM_lots_2, gM_lots_3, gM_lots_6, gM_lots_9, gM_lots_10, gM_lots_12, gM_lots_15, gM_lots_16, gM_lots_17, gM_lots_18, gM_lots_19, gM_lots_22, gM_lots_24, gM_lots_25, gM_lots_27, gM_lots_28, gM_lots_29, gM_lots_31, gM_lots_34, gM_lots_36, gM_lots_37, gM_lots_41, gM_lots_43, gM_lots_46, gM_lots_48, gM_lots_51, gM_lots_53, gM_lots_54, gM_lots_56, gM_lots_58, gM_lots_61, gM_lots_62, gM_lots_64, gM_lots_65, gM_lots_67, gM_lots_68, gM_lots_70, gM_lots_71, gM_lots_72, gM_lots_74, gM_lots_75, gM_lots_77, gM_lots_78, gM_lots_81, gM_lots_82, gM_lots_84, gM_lots_85, gM_lots_86, gM_lots_89, gM_lots_91, gM_lots_92, gM_lots_95, gM_lots_96, gM_lots_98, gM_lots_99, gM_lots_102, gM_lots_104, gM_lots_106, gM_lots_107, gM_lots_108, gM_lots_110, gM_lots_113, gM_lots_115, gM_lots_118, gM_lots_121, gM_lots_123, ↓reduceIte, Bool.false_eq_true, Bool.true_eq_false, qk_i, qk_r, qk_n, Option.toList_some, Option.toList_none, List.cons_append, List.nil_append, true_and, and_true, true_or, or_true, eq_self, if_true, if_false, q_b1, q_b2, c_A, c_R, c_O, c_M, c_H1, c_H8, c_H15, h1, chI_lt (cc_10 g)]
    by_cases hc : v_cc H n kd s = 10
    · simp only [hc, n1z', ↓reduceIte, if_true, if_false, eq_self, not_true, not_false_eq_true, not_true_eq_false, Bool.true_eq_false, Bool.false_eq_true, Bool.not_false, Bool.not_true, Bool.and_true, Bool.and_false, Bool.true_and, Bool.false_and]
    · have ec := (cc_lt g hc).2.1
      have hin : q_in (nI (v_cc H n kd s)) 10 = true := q_in_nI ec (by omega)
      have cn : (nI (v_cc H n kd s)).toNatClampNeg = v_cc H n kd s := nI_clamp (by omega)
      have e3 : M 34 (v_cc H n kd s) = H 3 (v_cc H n kd s) := (r.e ec).2.2.1.symm
      have ed : (z * 1664525 + 1013904223 &&& 2147483647) / 256 - (z * 1664525 + 1013904223 &&& 2147483647) / 256 / 10 * 10 = v_draw (z * 1664525 + 1013904223) := rfl
      have e0 : ∀ m, nI m ||| 0 = nI m := fun m => by rw [← nI_0, or_nI, Nat.or_zero]
      simp only [hc, n1z', ↓reduceIte, if_true, if_false, eq_self, not_true, not_false_eq_true, not_true_eq_false, Bool.true_eq_false, Bool.false_eq_true, Bool.not_false, Bool.not_true, Bool.and_true, Bool.and_false, Bool.true_and, Bool.false_and, chI_nI hc, x_M_goOf ec, v_go_N r ec hs, gM_lots_0, gM_lots_1, gM_lots_2, gM_lots_3, gM_lots_6, gM_lots_9, gM_lots_10, gM_lots_12, gM_lots_15, gM_lots_16, gM_lots_17, gM_lots_18, gM_lots_19, gM_lots_22, gM_lots_24, gM_lots_25, gM_lots_27, gM_lots_28, gM_lots_29, gM_lots_31, gM_lots_34, gM_lots_36, gM_lots_37, gM_lots_41, gM_lots_43, gM_lots_46, gM_lots_48, gM_lots_51, gM_lots_53, gM_lots_54, gM_lots_56, gM_lots_58, gM_lots_61, gM_lots_62, gM_lots_64, gM_lots_65, gM_lots_67, gM_lots_68, gM_lots_70, gM_lots_71, gM_lots_72, gM_lots_74, gM_lots_75, gM_lots_77, gM_lots_78, gM_lots_81, gM_lots_82, gM_lots_84, gM_lots_85, gM_lots_86, gM_lots_89, gM_lots_91, gM_lots_92, gM_lots_95, gM_lots_96, gM_lots_98, gM_lots_99, gM_lots_102, gM_lots_104, gM_lots_106, gM_lots_107, gM_lots_108, gM_lots_110, gM_lots_113, gM_lots_115, gM_lots_118, gM_lots_121, gM_lots_123, ↓reduceIte, Bool.false_eq_true, Bool.true_eq_false, qk_i, qk_r, qk_n, Option.toList_some, Option.toList_none, List.cons_append, List.nil_append, true_and, and_true, true_or, or_true, eq_self, if_true, if_false, q_b1, q_b2, c_A, c_R, c_O, c_M, c_H1, c_H8, c_H15, q_n256, q_n10, rf_M3, aD_34, hin, cn, e3, ed]
      by_cases hd : H 3 (v_cc H n kd s) ≤ v_draw (z * 1664525 + 1013904223)
      · simp only [hd, n1z', ↓reduceIte, if_true, if_false, eq_self, not_true, not_false_eq_true, not_true_eq_false, Bool.true_eq_false, Bool.false_eq_true, Bool.not_false, Bool.not_true, Bool.and_true, Bool.and_false, Bool.true_and, Bool.false_and, gM_lots_0, gM_lots_1, gM_lots_2, gM_lots_3, gM_lots_6, gM_lots_9, gM_lots_10, gM_lots_12, gM_lots_15, gM_lots_16, gM_lots_17, gM_lots_18, gM_lots_19, gM_lots_22, gM_lots_24, gM_lots_25, gM_lots_27, gM_lots_28, gM_lots_29, gM_lots_31, gM_lots_34, gM_lots_36, gM_lots_37, gM_lots_41, gM_lots_43, gM_lots_46, gM_lots_48, gM_lots_51, gM_lots_53, gM_lots_54, gM_lots_56, gM_lots_58, gM_lots_61, gM_lots_62, gM_lots_64, gM_lots_65, gM_lots_67, gM_lots_68, gM_lots_70, gM_lots_71, gM_lots_72, gM_lots_74, gM_lots_75, gM_lots_77, gM_lots_78, gM_lots_81, gM_lots_82, gM_lots_84, gM_lots_85, gM_lots_86, gM_lots_89, gM_lots_91, gM_lots_92, gM_lots_95, gM_lots_96, gM_lots_98, gM_lots_99, gM_lots_102, gM_lots_103, gM_lots_104, gM_lots_106, gM_lots_107, gM_lots_108, gM_lots_110, gM_lots_113, gM_lots_115, gM_lots_118, gM_lots_121, gM_lots_123, ↓reduceIte, Bool.false_eq_true, Bool.true_eq_false, qk_i, qk_r, qk_n, Option.toList_some, Option.toList_none, List.cons_append, List.nil_append, true_and, and_true, true_or, or_true, eq_self, if_true, if_false, q_b1, q_b2, c_A, c_R, c_O, c_M, c_H1, c_H8, c_H15, e0, y_M_ch g r hs, nI_1]
        exact ih (i + 1) (by omega) _ _ _ hs
      · simp only [hd, n1z', ↓reduceIte, if_true, if_false, eq_self, not_true, not_false_eq_true, not_true_eq_false, Bool.true_eq_false, Bool.false_eq_true, Bool.not_false, Bool.not_true, Bool.and_true, Bool.and_false, Bool.true_and, Bool.false_and, gM_lots_0, gM_lots_1, gM_lots_2, gM_lots_3, gM_lots_6, gM_lots_9, gM_lots_10, gM_lots_12, gM_lots_15, gM_lots_16, gM_lots_17, gM_lots_18, gM_lots_19, gM_lots_22, gM_lots_24, gM_lots_25, gM_lots_27, gM_lots_28, gM_lots_29, gM_lots_31, gM_lots_34, gM_lots_36, gM_lots_37, gM_lots_41, gM_lots_43, gM_lots_46, gM_lots_48, gM_lots_51, gM_lots_53, gM_lots_54, gM_lots_56, gM_lots_58, gM_lots_61, gM_lots_62, gM_lots_64, gM_lots_65, gM_lots_67, gM_lots_68, gM_lots_70, gM_lots_71, gM_lots_72, gM_lots_74, gM_lots_75, gM_lots_77, gM_lots_78, gM_lots_81, gM_lots_82, gM_lots_84, gM_lots_85, gM_lots_86, gM_lots_89, gM_lots_91, gM_lots_92, gM_lots_95, gM_lots_96, gM_lots_98, gM_lots_99, gM_lots_102, gM_lots_103, gM_lots_104, gM_lots_106, gM_lots_107, gM_lots_108, gM_lots_110, gM_lots_113, gM_lots_115, gM_lots_118, gM_lots_121, gM_lots_123, ↓reduceIte, Bool.false_eq_true, Bool.true_eq_false, qk_i, qk_r, qk_n, Option.toList_some, Option.toList_none, List.cons_append, List.nil_append, true_and, and_true, true_or, or_true, eq_self, if_true, if_false, q_b1, q_b2, c_A, c_R, c_O, c_M, c_H1, c_H8, c_H15, or1_nI (show v_cc H n kd s < 31 by omega), y_M_ch g r (or1_lt hs ec), nI_1]
        exact ih (i + 1) (by omega) _ _ _ (or1_lt hs ec)
theorem y_M_lots (g : gH H n h) (r : RM M H) (hQ : ∀ M', eqx Sm M M' → Q (some (.int (an_lots H n h kd b))) M') : q_Run 121 [.ref 30, .int kd, .int b] M Q := by
  unfold an_lots at hQ
  rw [noSeek_in] at hQ
  rw [e_M_lots]
  simp only [gM_lots_0, gM_lots_1, gM_lots_2, gM_lots_3, gM_lots_6, gM_lots_9, gM_lots_10, gM_lots_12, gM_lots_15, gM_lots_16, gM_lots_17, gM_lots_18, gM_lots_19, gM_lots_22, gM_lots_24, gM_lots_25, gM_lots_27, gM_lots_28, gM_lots_29, gM_lots_31, gM_lots_34, gM_lots_36, gM_lots_37, gM_lots_41, gM_lots_43, gM_lots_46, gM_lots_48, gM_lots_51, gM_lots_53, gM_lots_54, gM_lots_56, gM_lots_58, gM_lots_61, gM_lots_62, gM_lots_64, gM_lots_65, gM_lots_67, gM_lots_68, gM_lots_70, gM_lots_71, gM_lots_72, gM_lots_74, gM_lots_75, gM_lots_77, gM_lots_78, gM_lots_81, gM_lots_82, gM_lots_84, gM_lots_85, gM_lots_86, gM_lots_89, gM_lots_91, gM_lots_92, gM_lots_95, gM_lots_96, gM_lots_98, gM_lots_99, gM_lots_102, gM_lots_103, gM_lots_104, gM_lots_106, gM_lots_107, gM_lots_108, gM_lots_110, gM_lots_113, gM_lots_115, gM_lots_118, gM_lots_121, gM_lots_123, ↓reduceIte, Bool.false_eq_true, Bool.true_eq_false, qk_i, qk_r, qk_n, Option.toList_some, Option.toList_none, List.cons_append, List.nil_append, true_and, and_true, true_or, or_true, eq_self, if_true, if_false, q_b1, q_b2, c_A, c_R, c_O, c_M, c_H1, c_H8, c_H15, x_M_isIn, q_z0, x_M_no no_2, (g.vm r).2.2.1, y_M_ch g r g.hlt]
  cases h1 : b_in kd 0 5
  · rw [h1, if_pos (by decide)] at hQ
    simp only [n1z', ↓reduceIte, if_true, if_false, eq_self, not_true, not_false_eq_true, not_true_eq_false, Bool.true_eq_false, Bool.false_eq_true, Bool.not_false, Bool.not_true, Bool.and_true, Bool.and_false, Bool.true_and, Bool.false_and]
    exact hQ _ eqm_no
  · rw [h1, if_neg (by decide)] at hQ
    simp only [n1z', ↓reduceIte, if_true, if_false, eq_self, not_true, not_false_eq_true, not_true_eq_false, Bool.true_eq_false, Bool.false_eq_true, Bool.not_false, Bool.not_true, Bool.and_true, Bool.and_false, Bool.true_and, Bool.false_and]
    exact Eq.mpr (l_M_lots g r 60 0 (by omega) _ _ _ g.hlt) (hQ _ eqx.rf)
end GOES
