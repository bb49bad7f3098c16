/-! SPARE, RINGED -/
section RING
variable {Q : q_R} {M H : q_M} {n h : Nat} {a : Int32}
theorem bc_pc {x : Nat} (hx : x < 1024) : s_bc (nI x) = nI (pcN x 31) := by rw [s_bc_pc x hx, s_bitsN_pc (by omega) 31 (by omega)]
theorem bits_pc {x : Nat} (hx : x < 1024) : s_bitsN (nI x) 31 = nI (pcN x 31) := s_bitsN_pc (by omega) 31 (by omega)
theorem pcN_one {x i : Nat} (hb : x.testBit i = true) : ∀ k, i < k → 1 ≤ pcN x k
  | 0, h => absurd h (by omega)
  | k + 1, h => by
    unfold pcN
    by_cases e : i = k
    · subst e
      rw [hb]
      show 1 ≤ pcN x i + 1
      omega
    · have := pcN_one hb k (by omega)
      omega
def sp_v (H : q_M) (n h j : Nat) : Nat := pcN (rN H n (h ||| 2 ^ j)) 31
def sp_C (H : q_M) (n h : Nat) : Nat → Nat
  | 0 => 0
  | k + 1 => if h.testBit k = false ∧ sp_C H n h k < sp_v H n h k then sp_v H n h k else sp_C H n h k
def sp_B (H : q_M) (n h : Nat) : Nat → Int32
  | 0 => -9
  | k + 1 => if h.testBit k = false ∧ sp_C H n h k < sp_v H n h k then nI k else sp_B H n h k
theorem sp_C_s (H : q_M) (n h k : Nat) : sp_C H n h (k + 1) = if h.testBit k = false ∧ sp_C H n h k < sp_v H n h k then sp_v H n h k else sp_C H n h k := rfl
theorem sp_B_s (H : q_M) (n h k : Nat) : sp_B H n h (k + 1) = if h.testBit k = false ∧ sp_C H n h k < sp_v H n h k then nI k else sp_B H n h k := rfl
theorem sp_le : ∀ k, sp_C H n h k ≤ 31
  | 0 => by
    unfold sp_C
    omega
  | k + 1 => by
    have := sp_le k
    have h2 := pcN_le (rN H n (h ||| 2 ^ k)) 31
    unfold sp_C
    split
    · exact h2
    · exact this
theorem sp_one (g : gH H n h) {j : Nat} (hj : j < n) : 1 ≤ sp_v H n h j ∧ sp_v H n h j ≤ 31 := by
  have h10 := g.1
  refine ⟨pcN_one (i := j) (rwN_sup 10 _ j ?_) 31 (by omega), pcN_le _ 31⟩
  rw [Nat.testBit_or, Nat.testBit_two_pow_self, Bool.or_true]
theorem l_A_spare (g : gH H n h) (r : RC 1 M H) : ∀ k j, j + k = n → ∀ (c : Int32) (o4 : Option Value), (c = -1 ∧ sp_C H n h j = 0 ∨ c = nI (sp_C H n h j)) →
    q_g 44 none Q 7 [some (.ref 1), some (.int (sp_B H n h j)), some (.int c), some (.int (nI j)), o4] [] M = Q (some (.int (sp_B H n h n))) M := by
  have h10 := g.1
  have e7 := e7_of g r
  have e6 := e6_of g r
  intro k
  induction k with
  | zero =>
    intro j hj c o4 hc
    have : j = n := by omega
    subst this
    rw [gS_bestSpare_7]
    simp only [gS_bestSpare_0, gS_bestSpare_2, gS_bestSpare_3, gS_bestSpare_4, gS_bestSpare_5, gS_bestSpare_6, gS_bestSpare_8, gS_bestSpare_9, gS_bestSpare_12, gS_bestSpare_15, gS_bestSpare_16, gS_bestSpare_19, gS_bestSpare_20, gS_bestSpare_21, gS_bestSpare_22, gS_bestSpare_23, gS_bestSpare_26, gS_bestSpare_29, gS_bestSpare_30, gS_bestSpare_31, gS_bestSpare_34, gS_bestSpare_35, gS_bestSpare_36, gS_bestSpare_37, gS_bestSpare_38, gS_bestSpare_41, gS_bestSpare_44, gS_bestSpare_46, gS_bestSpare_48, gS_bestSpare_49, gS_bestSpare_52, gS_bestSpare_53, gS_bestSpare_54, gS_bestSpare_56, gS_bestSpare_57, gS_bestSpare_60, gS_bestSpare_63, gS_bestSpare_64, ↓reduceIte, Bool.false_eq_true, Bool.true_eq_false, qk_i, qk_r, qk_n, Option.toList_some, Option.toList_none, List.cons_append, List.nil_append, true_and, and_true, true_or, or_true, eq_self, if_true, if_false, q_b1, q_b2, c_A, c_R, c_O, c_M, c_H1, c_H8, c_H15, e6, Int32.le_refl]
  | succ k ih =>
    intro j hj c o4 hc
    have h1 : ¬ nI n ≤ nI j := nI_ge (by omega) (by omega)
    have ih1 := fun c o4 => ih (j + 1) (by omega) c o4
    have hs := or1_lt g.hlt (show j < 10 by omega)
    have hv : s_bc (nI (rN H n (h ||| 2 ^ j))) = nI (sp_v H n h j) := bc_pc (rN_lt g hs)
    obtain ⟨v1, v2⟩ := sp_one g (show j < n by omega)
    have hle := sp_le (H := H) (n := n) (h := h) j
    rw [gS_bestSpare_7]
    simp only [gS_bestSpare_0, gS_bestSpare_2, gS_bestSpare_3, gS_bestSpare_4, gS_bestSpare_5, gS_bestSpare_6, gS_bestSpare_8, gS_bestSpare_9, gS_bestSpare_12, gS_bestSpare_15, gS_bestSpare_16, gS_bestSpare_19, gS_bestSpare_20, gS_bestSpare_21, gS_bestSpare_22, gS_bestSpare_23, gS_bestSpare_26, gS_bestSpare_29, gS_bestSpare_30, gS_bestSpare_31, gS_bestSpare_34, gS_bestSpare_35, gS_bestSpare_36, gS_bestSpare_37, gS_bestSpare_38, gS_bestSpare_41, gS_bestSpare_44, gS_bestSpare_46, gS_bestSpare_48, gS_bestSpare_49, gS_bestSpare_52, gS_bestSpare_53, gS_bestSpare_54, gS_bestSpare_56, gS_bestSpare_57, gS_bestSpare_60, gS_bestSpare_63, gS_bestSpare_64, ↓reduceIte, Bool.false_eq_true, Bool.true_eq_false, qk_i, qk_r, qk_n, Option.toList_some, Option.toList_none, List.cons_append, List.nil_append, true_and, and_true, true_or, or_true, eq_self, if_true, if_false, q_b1, q_b2, c_A, c_R, c_O, c_M, c_H1, c_H8, c_H15, e6, e7, h1, bit_nI (show h < 2 ^ 31 by have := g.hlt; omega) (show j < 31 by omega), or1_nI (show j < 31 by omega), y_H_reachFrom g r, x_I_bitCount, hv, nI_1]
    simp only [sp_B_s, sp_C_s] at ih1
    cases hb : h.testBit j
    · simp only [Bool.false_eq_true, not_false_eq_true, if_true]
      by_cases hlt : sp_C H n h j < sp_v H n h j
      · have hn : ¬ nI (sp_v H n h j) ≤ c := by
          rcases hc with ⟨rfl, -⟩ | rfl
          · exact fun q => absurd (Int32.le_trans (nI_pos' (by omega)) q) (by decide)
          · exact nI_ge hlt (by omega)
        rw [if_pos (show h.testBit j = false ∧ sp_C H n h j < sp_v H n h j from ⟨hb, hlt⟩), if_pos (show h.testBit j = false ∧ sp_C H n h j < sp_v H n h j from ⟨hb, hlt⟩)] at ih1
        rw [if_neg hn]
        exact ih1 _ _ (Or.inr rfl)
      · have hn : nI (sp_v H n h j) ≤ c := by
          rcases hc with ⟨rfl, hz⟩ | rfl
          · omega
          · exact nI_le (by omega) (by omega)
        rw [if_neg (fun q : h.testBit j = false ∧ sp_C H n h j < sp_v H n h j => hlt q.2), if_neg (fun q : h.testBit j = false ∧ sp_C H n h j < sp_v H n h j => hlt q.2)] at ih1
        rw [if_pos hn]
        exact ih1 _ _ hc
    · have hnn : ¬ (h.testBit j = false ∧ sp_C H n h j < sp_v H n h j) := fun q => by rw [hb] at q; exact absurd q.1 (by decide)
      rw [if_neg hnn, if_neg hnn] at ih1
      simp only [not_true, if_false]
      exact ih1 _ _ hc
theorem y_A_spare (g : gH H n h) (r : RC 1 M H) : q_Run 86 [.ref 0] M Q = Q (some (.int (sp_B H n h n))) M := by
  have e : ∀ Q : q_R, q_Run 44 [.ref 1] M Q = Q (some (.int (sp_B H n h n))) M := fun Q => by
    rw [e_S_bestSpare]
    simp only [gS_bestSpare_0, gS_bestSpare_2, gS_bestSpare_3, gS_bestSpare_4, gS_bestSpare_5, gS_bestSpare_6, gS_bestSpare_8, gS_bestSpare_9, gS_bestSpare_12, gS_bestSpare_15, gS_bestSpare_16, gS_bestSpare_19, gS_bestSpare_20, gS_bestSpare_21, gS_bestSpare_22, gS_bestSpare_23, gS_bestSpare_26, gS_bestSpare_29, gS_bestSpare_30, gS_bestSpare_31, gS_bestSpare_34, gS_bestSpare_35, gS_bestSpare_36, gS_bestSpare_37, gS_bestSpare_38, gS_bestSpare_41, gS_bestSpare_44, gS_bestSpare_46, gS_bestSpare_48, gS_bestSpare_49, gS_bestSpare_52, gS_bestSpare_53, gS_bestSpare_54, gS_bestSpare_56, gS_bestSpare_57, gS_bestSpare_60, gS_bestSpare_63, gS_bestSpare_64, ↓reduceIte, Bool.false_eq_true, Bool.true_eq_false, qk_i, qk_r, qk_n, Option.toList_some, Option.toList_none, List.cons_append, List.nil_append, true_and, and_true, true_or, or_true, eq_self, if_true, if_false, q_b1, q_b2, c_A, c_R, c_O, c_M, c_H1, c_H8, c_H15]
    exact l_A_spare g r n 0 (by omega) (-1) none (Or.inl ⟨rfl, rfl⟩)
  rw [e_A_spare]
  simp only [gA_spare_0, gA_spare_1, gA_spare_4, gA_spare_7, ↓reduceIte, Bool.false_eq_true, Bool.true_eq_false, qk_i, qk_r, qk_n, Option.toList_some, Option.toList_none, List.cons_append, List.nil_append, true_and, and_true, true_or, or_true, eq_self, if_true, if_false, q_b1, q_b2, c_A, c_R, c_O, c_M, c_H1, c_H8, c_H15, rf_A0, e]
theorem l_M_spare (g : gH H n h) (r : RM M H) : ∀ k j, j + k = n → ∀ o4 : Option Value,
    q_g 148 none Q 7 [some (.ref 30), some (.int (sp_B H n h j)), some (.int (nI (sp_C H n h j))), some (.int (nI j)), o4] [] M = Q (some (.int (sp_B H n h n))) M := by
  have h10 := g.1
  have hv := g.vm r
  intro k
  induction k with
  | zero =>
    intro j hj o4
    have : j = n := by omega
    subst this
    rw [gM_spare_7]
    simp only [gM_spare_0, gM_spare_2, gM_spare_3, gM_spare_4, gM_spare_5, gM_spare_6, gM_spare_8, gM_spare_9, gM_spare_12, gM_spare_15, gM_spare_16, gM_spare_19, gM_spare_20, gM_spare_23, gM_spare_26, gM_spare_27, gM_spare_30, gM_spare_31, gM_spare_32, gM_spare_35, gM_spare_36, gM_spare_37, gM_spare_38, gM_spare_39, gM_spare_40, gM_spare_43, gM_spare_46, gM_spare_48, gM_spare_50, gM_spare_51, gM_spare_54, gM_spare_57, gM_spare_58, gM_spare_59, gM_spare_61, gM_spare_62, gM_spare_65, gM_spare_68, gM_spare_69, ↓reduceIte, Bool.false_eq_true, Bool.true_eq_false, qk_i, qk_r, qk_n, Option.toList_some, Option.toList_none, List.cons_append, List.nil_append, true_and, and_true, true_or, or_true, eq_self, if_true, if_false, q_b1, q_b2, c_A, c_R, c_O, c_M, c_H1, c_H8, c_H15, hv.1, Int32.le_refl]
  | succ k ih =>
    intro j hj o4
    have h1 : ¬ nI n ≤ nI j := nI_ge (by omega) (by omega)
    have ih1 := fun o4 => ih (j + 1) (by omega) o4
    have hs := or1_lt g.hlt (show j < 10 by omega)
    have hvv : s_bitsN (nI (rN H n (h ||| 2 ^ j))) 31 = nI (sp_v H n h j) := bits_pc (rN_lt g hs)
    obtain ⟨v1, v2⟩ := sp_one g (show j < n by omega)
    have hle := sp_le (H := H) (n := n) (h := h) j
    rw [gM_spare_7]
    simp only [gM_spare_0, gM_spare_2, gM_spare_3, gM_spare_4, gM_spare_5, gM_spare_6, gM_spare_8, gM_spare_9, gM_spare_12, gM_spare_15, gM_spare_16, gM_spare_19, gM_spare_20, gM_spare_23, gM_spare_26, gM_spare_27, gM_spare_30, gM_spare_31, gM_spare_32, gM_spare_35, gM_spare_36, gM_spare_37, gM_spare_38, gM_spare_39, gM_spare_40, gM_spare_43, gM_spare_46, gM_spare_48, gM_spare_50, gM_spare_51, gM_spare_54, gM_spare_57, gM_spare_58, gM_spare_59, gM_spare_61, gM_spare_62, gM_spare_65, gM_spare_68, gM_spare_69, ↓reduceIte, Bool.false_eq_true, Bool.true_eq_false, qk_i, qk_r, qk_n, Option.toList_some, Option.toList_none, List.cons_append, List.nil_append, true_and, and_true, true_or, or_true, eq_self, if_true, if_false, q_b1, q_b2, c_A, c_R, c_O, c_M, c_H1, c_H8, c_H15, hv.1, h1, x_M_has, q_z0, nI_1, hv.2.2.1, has_nI (show h < 2 ^ 31 by have := g.hlt; omega) (show j < 31 by omega), or1_nI (show j < 31 by omega), y_M_reach0 g r hs, x_M_bits, hvv]
    simp only [sp_B_s, sp_C_s] at ih1
    cases hb : h.testBit j
    · simp only [if_true]
      by_cases hlt : sp_C H n h j < sp_v H n h j
      · rw [if_pos (show h.testBit j = false ∧ sp_C H n h j < sp_v H n h j from ⟨hb, hlt⟩), if_pos (show h.testBit j = false ∧ sp_C H n h j < sp_v H n h j from ⟨hb, hlt⟩)] at ih1
        rw [if_pos (nI_lt hlt (by omega))]
        exact ih1 _
      · rw [if_neg (fun q : h.testBit j = false ∧ sp_C H n h j < sp_v H n h j => hlt q.2), if_neg (fun q : h.testBit j = false ∧ sp_C H n h j < sp_v H n h j => hlt q.2)] at ih1
        rw [if_neg (nI_nlt (by omega) (by omega))]
        exact ih1 _
    · have hnn : ¬ (h.testBit j = false ∧ sp_C H n h j < sp_v H n h j) := fun q => by rw [hb] at q; exact absurd q.1 (by decide)
      have hz : ¬ nI (sp_C H n h j) < 0 := nI_pos (by omega)
      rw [if_neg hnn, if_neg hnn] at ih1
      simp only [Bool.true_eq_false, if_false, hz]
      exact ih1 _
theorem y_M_spare (g : gH H n h) (r : RM M H) : q_Run 148 [.ref 30] M Q = Q (some (.int (sp_B H n h n))) M := by
  rw [e_M_spare]
  simp only [gM_spare_0, gM_spare_2, gM_spare_3, gM_spare_4, gM_spare_5, gM_spare_6, gM_spare_8, gM_spare_9, gM_spare_12, gM_spare_15, gM_spare_16, gM_spare_19, gM_spare_20, gM_spare_23, gM_spare_26, gM_spare_27, gM_spare_30, gM_spare_31, gM_spare_32, gM_spare_35, gM_spare_36, gM_spare_37, gM_spare_38, gM_spare_39, gM_spare_40, gM_spare_43, gM_spare_46, gM_spare_48, gM_spare_50, gM_spare_51, gM_spare_54, gM_spare_57, gM_spare_58, gM_spare_59, gM_spare_61, gM_spare_62, gM_spare_65, gM_spare_68, gM_spare_69, ↓reduceIte, Bool.false_eq_true, Bool.true_eq_false, qk_i, qk_r, qk_n, Option.toList_some, Option.toList_none, List.cons_append, List.nil_append, true_and, and_true, true_or, or_true, eq_self, if_true, if_false, q_b1, q_b2, c_A, c_R, c_O, c_M, c_H1, c_H8, c_H15]
  exact l_M_spare g r n 0 (by omega) none
/-! ringed -/
def v_bar (H : q_M) (n h : Nat) : Nat := dif (2 ^ n - 1) (rN H n h)
def rg_any (H : q_M) (n h a : Nat) : Nat → Bool
  | 0 => false
  | k + 1 => rg_any H n h a k || ((rN H n (h ||| 2 ^ a)).testBit k && (v_bar H n h).testBit k && !decide (a = k) && (rN H n (h ||| 2 ^ k)).testBit a)
def v_ringed (H : q_M) (n h : Nat) : Nat → Nat
  | 0 => 0
  | k + 1 => if ((v_bar H n h).testBit k && rg_any H n h k n) = true then v_ringed H n h k ||| 2 ^ k else v_ringed H n h k
theorem rg_any_s (H : q_M) (n h a k : Nat) : rg_any H n h a (k + 1) = (rg_any H n h a k || ((rN H n (h ||| 2 ^ a)).testBit k && (v_bar H n h).testBit k && !decide (a = k) && (rN H n (h ||| 2 ^ k)).testBit a)) := rfl
theorem v_ringed_s (H : q_M) (n h k : Nat) : v_ringed H n h (k + 1) = if ((v_bar H n h).testBit k && rg_any H n h k n) = true then v_ringed H n h k ||| 2 ^ k else v_ringed H n h k := rfl
theorem rg_mono {a j : Nat} (hj : rg_any H n h a j = true) : ∀ k, rg_any H n h a (j + k) = true
  | 0 => hj
  | k + 1 => by
    show (rg_any H n h a (j + k) || _) = true
    rw [rg_mono hj k, Bool.true_or]
theorem bar_lt (g : gH H n h) : v_bar H n h < 1024 := by
  have h2 := two_pow_le g.1
  have := Nat.two_pow_pos n
  exact Nat.lt_of_le_of_lt dif_le (by omega)
theorem l_A_ring2 {a ac : Nat} (g : gH H n h) (r : RC 1 M H) (ha : a < n) (hQ : ∀ (o5 : Int32) (o6 : Option Value), q_g 50 none Q 116 [some (.ref 1), some (.int (nI (v_bar H n h))), some (.int (nI (if rg_any H n h a n = true then ac ||| 2 ^ a else ac))), some (.int (nI a)), some (.int (nI (dif (rN H n (h ||| 2 ^ a) &&& v_bar H n h) (2 ^ a)))), some (.int o5), o6] [] M) :
    ∀ k j, j + k = n → ∀ o6 : Option Value,
    q_g 50 none Q 53 [some (.ref 1), some (.int (nI (v_bar H n h))), some (.int (nI (if rg_any H n h a j = true then ac ||| 2 ^ a else ac))), some (.int (nI a)), some (.int (nI (dif (rN H n (h ||| 2 ^ a) &&& v_bar H n h) (2 ^ a)))), some (.int (nI j)), o6] [] M := by
  have h10 := g.1
  have e7 := e7_of g r
  have e6 := e6_of g r
  have hra : rN H n (h ||| 2 ^ a) < 1024 := rN_lt g (or1_lt g.hlt (by omega))
  have hbr : rN H n (h ||| 2 ^ a) &&& v_bar H n h < 1024 := Nat.lt_of_le_of_lt Nat.and_le_left hra
  intro k
  induction k with
  | zero =>
    intro j hj o6
    have : j = n := by omega
    subst this
    rw [gS_ringedIn_53]
    simp only [gS_ringedIn_0, gS_ringedIn_1, gS_ringedIn_4, gS_ringedIn_5, gS_ringedIn_6, gS_ringedIn_7, gS_ringedIn_8, gS_ringedIn_9, gS_ringedIn_10, gS_ringedIn_11, gS_ringedIn_14, gS_ringedIn_17, gS_ringedIn_18, gS_ringedIn_19, gS_ringedIn_20, gS_ringedIn_21, gS_ringedIn_22, gS_ringedIn_25, gS_ringedIn_28, gS_ringedIn_29, gS_ringedIn_30, gS_ringedIn_33, gS_ringedIn_34, gS_ringedIn_35, gS_ringedIn_36, gS_ringedIn_37, gS_ringedIn_40, gS_ringedIn_41, gS_ringedIn_42, gS_ringedIn_43, gS_ringedIn_44, gS_ringedIn_45, gS_ringedIn_46, gS_ringedIn_47, gS_ringedIn_48, gS_ringedIn_50, gS_ringedIn_51, gS_ringedIn_55, gS_ringedIn_56, gS_ringedIn_59, gS_ringedIn_62, gS_ringedIn_64, gS_ringedIn_66, gS_ringedIn_67, gS_ringedIn_68, gS_ringedIn_69, gS_ringedIn_72, gS_ringedIn_73, gS_ringedIn_76, gS_ringedIn_77, gS_ringedIn_79, gS_ringedIn_81, gS_ringedIn_84, gS_ringedIn_85, gS_ringedIn_86, gS_ringedIn_89, gS_ringedIn_90, gS_ringedIn_92, gS_ringedIn_93, gS_ringedIn_94, gS_ringedIn_97, gS_ringedIn_98, gS_ringedIn_99, gS_ringedIn_100, gS_ringedIn_101, gS_ringedIn_104, gS_ringedIn_105, gS_ringedIn_106, gS_ringedIn_107, gS_ringedIn_108, gS_ringedIn_109, gS_ringedIn_110, gS_ringedIn_113, gS_ringedIn_119, gS_ringedIn_122, gS_ringedIn_123, ↓reduceIte, Bool.false_eq_true, Bool.true_eq_false, qk_i, qk_r, qk_n, Option.toList_some, Option.toList_none, List.cons_append, List.nil_append, true_and, and_true, true_or, or_true, eq_self, if_true, if_false, q_b1, q_b2, c_A, c_R, c_O, c_M, c_H1, c_H8, c_H15, e6, Int32.le_refl]
    exact hQ _ _
  | succ k ih =>
    intro j hj o6
    have h1 : ¬ nI n ≤ nI j := nI_ge (by omega) (by omega)
    have ih1 := fun o6 => ih (j + 1) (by omega) o6
    have hrj : rN H n (h ||| 2 ^ j) < 1024 := rN_lt g (or1_lt g.hlt (by omega))
    have d : (dif (rN H n (h ||| 2 ^ a) &&& v_bar H n h) (2 ^ a)).testBit j = ((rN H n (h ||| 2 ^ a)).testBit j && (v_bar H n h).testBit j && !decide (a = j)) := by
      rw [dif_tb hbr, Nat.testBit_and, Nat.testBit_two_pow]
    rw [gS_ringedIn_53]
    simp only [gS_ringedIn_0, gS_ringedIn_1, gS_ringedIn_4, gS_ringedIn_5, gS_ringedIn_6, gS_ringedIn_7, gS_ringedIn_8, gS_ringedIn_9, gS_ringedIn_10, gS_ringedIn_11, gS_ringedIn_14, gS_ringedIn_17, gS_ringedIn_18, gS_ringedIn_19, gS_ringedIn_20, gS_ringedIn_21, gS_ringedIn_22, gS_ringedIn_25, gS_ringedIn_28, gS_ringedIn_29, gS_ringedIn_30, gS_ringedIn_33, gS_ringedIn_34, gS_ringedIn_35, gS_ringedIn_36, gS_ringedIn_37, gS_ringedIn_40, gS_ringedIn_41, gS_ringedIn_42, gS_ringedIn_43, gS_ringedIn_44, gS_ringedIn_45, gS_ringedIn_46, gS_ringedIn_47, gS_ringedIn_48, gS_ringedIn_50, gS_ringedIn_51, gS_ringedIn_55, gS_ringedIn_56, gS_ringedIn_59, gS_ringedIn_62, gS_ringedIn_64, gS_ringedIn_66, gS_ringedIn_67, gS_ringedIn_68, gS_ringedIn_69, gS_ringedIn_72, gS_ringedIn_73, gS_ringedIn_76, gS_ringedIn_77, gS_ringedIn_79, gS_ringedIn_81, gS_ringedIn_84, gS_ringedIn_85, gS_ringedIn_86, gS_ringedIn_89, gS_ringedIn_90, gS_ringedIn_92, gS_ringedIn_93, gS_ringedIn_94, gS_ringedIn_97, gS_ringedIn_98, gS_ringedIn_99, gS_ringedIn_100, gS_ringedIn_101, gS_ringedIn_104, gS_ringedIn_105, gS_ringedIn_106, gS_ringedIn_107, gS_ringedIn_108, gS_ringedIn_109, gS_ringedIn_110, gS_ringedIn_113, gS_ringedIn_119, gS_ringedIn_122, gS_ringedIn_123, ↓reduceIte, Bool.false_eq_true, Bool.true_eq_false, qk_i, qk_r, qk_n, Option.toList_some, Option.toList_none, List.cons_append, List.nil_append, true_and, and_true, true_or, or_true, eq_self, if_true, if_false, q_b1, q_b2, c_A, c_R, c_O, c_M, c_H1, c_H8, c_H15, e6, e7, h1, bit_nI (show dif (rN H n (h ||| 2 ^ a) &&& v_bar H n h) (2 ^ a) < 2 ^ 31 by have := @dif_le (rN H n (h ||| 2 ^ a) &&& v_bar H n h) (2 ^ a); omega) (show j < 31 by omega), or1_nI (show j < 31 by omega), y_H_reachFrom g r, bit_nI (show rN H n (h ||| 2 ^ j) < 2 ^ 31 by omega) (show a < 31 by omega), nI_1, d, or1_nI (show a < 31 by omega)]
    cases hb : ((rN H n (h ||| 2 ^ a)).testBit j && (v_bar H n h).testBit j && !decide (a = j))
    · have hj1 : rg_any H n h a (j + 1) = rg_any H n h a j := by rw [rg_any_s, hb, Bool.false_and, Bool.or_false]
      rw [hj1] at ih1
      simp only [n1z', ↓reduceIte, if_true, if_false, eq_self, not_true, not_false_eq_true, not_true_eq_false, Bool.true_eq_false, Bool.false_eq_true, Bool.not_false, Bool.not_true, Bool.and_true, Bool.and_false, Bool.true_and, Bool.false_and]
      exact ih1 _
    · simp only [gS_ringedIn_0, gS_ringedIn_1, gS_ringedIn_4, gS_ringedIn_5, gS_ringedIn_6, gS_ringedIn_7, gS_ringedIn_8, gS_ringedIn_9, gS_ringedIn_10, gS_ringedIn_11, gS_ringedIn_14, gS_ringedIn_17, gS_ringedIn_18, gS_ringedIn_19, gS_ringedIn_20, gS_ringedIn_21, gS_ringedIn_22, gS_ringedIn_25, gS_ringedIn_28, gS_ringedIn_29, gS_ringedIn_30, gS_ringedIn_33, gS_ringedIn_34, gS_ringedIn_35, gS_ringedIn_36, gS_ringedIn_37, gS_ringedIn_40, gS_ringedIn_41, gS_ringedIn_42, gS_ringedIn_43, gS_ringedIn_44, gS_ringedIn_45, gS_ringedIn_46, gS_ringedIn_47, gS_ringedIn_48, gS_ringedIn_50, gS_ringedIn_51, gS_ringedIn_55, gS_ringedIn_56, gS_ringedIn_59, gS_ringedIn_62, gS_ringedIn_64, gS_ringedIn_66, gS_ringedIn_67, gS_ringedIn_68, gS_ringedIn_69, gS_ringedIn_72, gS_ringedIn_73, gS_ringedIn_76, gS_ringedIn_77, gS_ringedIn_79, gS_ringedIn_81, gS_ringedIn_84, gS_ringedIn_85, gS_ringedIn_86, gS_ringedIn_89, gS_ringedIn_90, gS_ringedIn_92, gS_ringedIn_93, gS_ringedIn_94, gS_ringedIn_97, gS_ringedIn_98, gS_ringedIn_99, gS_ringedIn_100, gS_ringedIn_101, gS_ringedIn_104, gS_ringedIn_105, gS_ringedIn_106, gS_ringedIn_107, gS_ringedIn_108, gS_ringedIn_109, gS_ringedIn_110, gS_ringedIn_113, gS_ringedIn_119, gS_ringedIn_122, gS_ringedIn_123, n1z', ↓reduceIte, if_true, if_false, eq_self, not_true, not_false_eq_true, not_true_eq_false, Bool.true_eq_false, Bool.false_eq_true, Bool.not_false, Bool.not_true, Bool.and_true, Bool.and_false, Bool.true_and, Bool.false_and, ↓reduceIte, Bool.false_eq_true, Bool.true_eq_false, qk_i, qk_r, qk_n, Option.toList_some, Option.toList_none, List.cons_append, List.nil_append, true_and, and_true, true_or, or_true, eq_self, if_true, if_false, q_b1, q_b2, c_A, c_R, c_O, c_M, c_H1, c_H8, c_H15, e6, e7, or1_nI (show j < 31 by omega), y_H_reachFrom g r, bit_nI (show rN H n (h ||| 2 ^ j) < 2 ^ 31 by omega) (show a < 31 by omega), nI_1, or1_nI (show a < 31 by omega)]
      cases hc : (rN H n (h ||| 2 ^ j)).testBit a
      · have hj1 : rg_any H n h a (j + 1) = rg_any H n h a j := by rw [rg_any_s, hb, hc, Bool.true_and, Bool.or_false]
        rw [hj1] at ih1
        simp only [n1z', ↓reduceIte, if_true, if_false, eq_self, not_true, not_false_eq_true, not_true_eq_false, Bool.true_eq_false, Bool.false_eq_true, Bool.not_false, Bool.not_true, Bool.and_true, Bool.and_false, Bool.true_and, Bool.false_and]
        exact ih1 _
      · have hj1 : rg_any H n h a (j + 1) = true := by rw [rg_any_s, hb, hc, Bool.true_and, Bool.or_true]
        rw [hj1, if_pos rfl] at ih1
        simp only [n1z', ↓reduceIte, if_true, if_false, eq_self, not_true, not_false_eq_true, not_true_eq_false, Bool.true_eq_false, Bool.false_eq_true, Bool.not_false, Bool.not_true, Bool.and_true, Bool.and_false, Bool.true_and, Bool.false_and]
        have ee : (if rg_any H n h a j = true then ac ||| 2 ^ a else ac) ||| 2 ^ a = ac ||| 2 ^ a := by
          split
          · rw [Nat.or_assoc, Nat.or_self]
          · rfl
        rw [ee]
        exact ih1 _
theorem l_A_ring (g : gH H n h) (r : RC 1 M H) : ∀ k j, j + k = n → ∀ (o4 o5 o6 : Option Value), Q (some (.int (nI (v_ringed H n h n)))) M →
    q_g 50 none Q 9 [some (.ref 1), some (.int (nI (v_bar H n h))), some (.int (nI (v_ringed H n h j))), some (.int (nI j)), o4, o5, o6] [] M := by
  have h10 := g.1
  have e7 := e7_of g r
  have e6 := e6_of g r
  intro k
  induction k with
  | zero =>
    intro j hj o4 o5 o6 hQ
    have : j = n := by omega
    subst this
    rw [gS_ringedIn_9]
    simp only [gS_ringedIn_0, gS_ringedIn_1, gS_ringedIn_4, gS_ringedIn_5, gS_ringedIn_6, gS_ringedIn_7, gS_ringedIn_8, gS_ringedIn_10, gS_ringedIn_11, gS_ringedIn_14, gS_ringedIn_17, gS_ringedIn_18, gS_ringedIn_19, gS_ringedIn_20, gS_ringedIn_21, gS_ringedIn_22, gS_ringedIn_25, gS_ringedIn_28, gS_ringedIn_29, gS_ringedIn_30, gS_ringedIn_33, gS_ringedIn_34, gS_ringedIn_35, gS_ringedIn_36, gS_ringedIn_37, gS_ringedIn_40, gS_ringedIn_41, gS_ringedIn_42, gS_ringedIn_43, gS_ringedIn_44, gS_ringedIn_45, gS_ringedIn_46, gS_ringedIn_47, gS_ringedIn_48, gS_ringedIn_50, gS_ringedIn_51, gS_ringedIn_53, gS_ringedIn_55, gS_ringedIn_56, gS_ringedIn_59, gS_ringedIn_62, gS_ringedIn_64, gS_ringedIn_66, gS_ringedIn_67, gS_ringedIn_68, gS_ringedIn_69, gS_ringedIn_72, gS_ringedIn_73, gS_ringedIn_76, gS_ringedIn_77, gS_ringedIn_79, gS_ringedIn_81, gS_ringedIn_84, gS_ringedIn_85, gS_ringedIn_86, gS_ringedIn_89, gS_ringedIn_90, gS_ringedIn_92, gS_ringedIn_93, gS_ringedIn_94, gS_ringedIn_97, gS_ringedIn_98, gS_ringedIn_99, gS_ringedIn_100, gS_ringedIn_101, gS_ringedIn_104, gS_ringedIn_105, gS_ringedIn_106, gS_ringedIn_107, gS_ringedIn_108, gS_ringedIn_109, gS_ringedIn_110, gS_ringedIn_113, gS_ringedIn_116, gS_ringedIn_119, gS_ringedIn_122, gS_ringedIn_123, ↓reduceIte, Bool.false_eq_true, Bool.true_eq_false, qk_i, qk_r, qk_n, Option.toList_some, Option.toList_none, List.cons_append, List.nil_append, true_and, and_true, true_or, or_true, eq_self, if_true, if_false, q_b1, q_b2, c_A, c_R, c_O, c_M, c_H1, c_H8, c_H15, e6, Int32.le_refl]
    exact hQ
  | succ k ih =>
    intro j hj o4 o5 o6 hQ
    have h1 : ¬ nI n ≤ nI j := nI_ge (by omega) (by omega)
    have ih1 := fun o4 o5 o6 => ih (j + 1) (by omega) o4 o5 o6 hQ
    have hrj : rN H n (h ||| 2 ^ j) < 1024 := rN_lt g (or1_lt g.hlt (by omega))
    have hbr : rN H n (h ||| 2 ^ j) &&& v_bar H n h < 1024 := Nat.lt_of_le_of_lt Nat.and_le_left hrj
    have e116 : ∀ (x : Nat), x = v_ringed H n h (j + 1) → ∀ (o4 o5 o6 : Option Value), q_g 50 none Q 116 [some (.ref 1), some (.int (nI (v_bar H n h))), some (.int (nI x)), some (.int (nI j)), o4, o5, o6] [] M := by
      intro x hx o4 o5 o6
      subst hx
      simp only [gS_ringedIn_0, gS_ringedIn_1, gS_ringedIn_4, gS_ringedIn_5, gS_ringedIn_6, gS_ringedIn_7, gS_ringedIn_8, gS_ringedIn_10, gS_ringedIn_11, gS_ringedIn_14, gS_ringedIn_17, gS_ringedIn_18, gS_ringedIn_19, gS_ringedIn_20, gS_ringedIn_21, gS_ringedIn_22, gS_ringedIn_25, gS_ringedIn_28, gS_ringedIn_29, gS_ringedIn_30, gS_ringedIn_33, gS_ringedIn_34, gS_ringedIn_35, gS_ringedIn_36, gS_ringedIn_37, gS_ringedIn_40, gS_ringedIn_41, gS_ringedIn_42, gS_ringedIn_43, gS_ringedIn_44, gS_ringedIn_45, gS_ringedIn_46, gS_ringedIn_47, gS_ringedIn_48, gS_ringedIn_50, gS_ringedIn_51, gS_ringedIn_53, gS_ringedIn_55, gS_ringedIn_56, gS_ringedIn_59, gS_ringedIn_62, gS_ringedIn_64, gS_ringedIn_66, gS_ringedIn_67, gS_ringedIn_68, gS_ringedIn_69, gS_ringedIn_72, gS_ringedIn_73, gS_ringedIn_76, gS_ringedIn_77, gS_ringedIn_79, gS_ringedIn_81, gS_ringedIn_84, gS_ringedIn_85, gS_ringedIn_86, gS_ringedIn_89, gS_ringedIn_90, gS_ringedIn_92, gS_ringedIn_93, gS_ringedIn_94, gS_ringedIn_97, gS_ringedIn_98, gS_ringedIn_99, gS_ringedIn_100, gS_ringedIn_101, gS_ringedIn_104, gS_ringedIn_105, gS_ringedIn_106, gS_ringedIn_107, gS_ringedIn_108, gS_ringedIn_109, gS_ringedIn_110, gS_ringedIn_113, gS_ringedIn_116, gS_ringedIn_119, gS_ringedIn_122, gS_ringedIn_123, ↓reduceIte, Bool.false_eq_true, Bool.true_eq_false, qk_i, qk_r, qk_n, Option.toList_some, Option.toList_none, List.cons_append, List.nil_append, true_and, and_true, true_or, or_true, eq_self, if_true, if_false, q_b1, q_b2, c_A, c_R, c_O, c_M, c_H1, c_H8, c_H15, nI_1]
      exact ih1 _ _ _
    rw [gS_ringedIn_9]
    simp only [gS_ringedIn_0, gS_ringedIn_1, gS_ringedIn_4, gS_ringedIn_5, gS_ringedIn_6, gS_ringedIn_7, gS_ringedIn_8, gS_ringedIn_10, gS_ringedIn_11, gS_ringedIn_14, gS_ringedIn_17, gS_ringedIn_18, gS_ringedIn_19, gS_ringedIn_20, gS_ringedIn_21, gS_ringedIn_22, gS_ringedIn_25, gS_ringedIn_28, gS_ringedIn_29, gS_ringedIn_30, gS_ringedIn_33, gS_ringedIn_34, gS_ringedIn_35, gS_ringedIn_36, gS_ringedIn_37, gS_ringedIn_40, gS_ringedIn_41, gS_ringedIn_42, gS_ringedIn_43, gS_ringedIn_44, gS_ringedIn_45, gS_ringedIn_46, gS_ringedIn_47, gS_ringedIn_48, gS_ringedIn_50, gS_ringedIn_51, gS_ringedIn_55, gS_ringedIn_56, gS_ringedIn_59, gS_ringedIn_62, gS_ringedIn_64, gS_ringedIn_66, gS_ringedIn_67, gS_ringedIn_68, gS_ringedIn_69, gS_ringedIn_72, gS_ringedIn_73, gS_ringedIn_76, gS_ringedIn_77, gS_ringedIn_79, gS_ringedIn_81, gS_ringedIn_84, gS_ringedIn_85, gS_ringedIn_86, gS_ringedIn_89, gS_ringedIn_90, gS_ringedIn_92, gS_ringedIn_93, gS_ringedIn_94, gS_ringedIn_97, gS_ringedIn_98, gS_ringedIn_99, gS_ringedIn_100, gS_ringedIn_101, gS_ringedIn_104, gS_ringedIn_105, gS_ringedIn_106, gS_ringedIn_107, gS_ringedIn_108, gS_ringedIn_109, gS_ringedIn_110, gS_ringedIn_113, gS_ringedIn_119, gS_ringedIn_122, gS_ringedIn_123, ↓reduceIte, Bool.false_eq_true, Bool.true_eq_false, qk_i, qk_r, qk_n, Option.toList_some, Option.toList_none, List.cons_append, List.nil_append, true_and, and_true, true_or, or_true, eq_self, if_true, if_false, q_b1, q_b2, c_A, c_R, c_O, c_M, c_H1, c_H8, c_H15, e6, e7, h1, bit_nI (show v_bar H n h < 2 ^ 31 by have := bar_lt g; omega) (show j < 31 by omega), or1_nI (show j < 31 by omega), y_H_reachFrom g r, nx_and, or_nI, sh1_nI j (by omega), dif_nI hbr]
    cases hb : (v_bar H n h).testBit j
    · simp only [Bool.false_eq_true, not_false_eq_true, if_true]
      refine e116 _ ?_ _ _ _
      rw [v_ringed_s, hb, Bool.false_and, if_neg (by decide)]
    · simp only [gS_ringedIn_0, gS_ringedIn_1, gS_ringedIn_4, gS_ringedIn_5, gS_ringedIn_6, gS_ringedIn_7, gS_ringedIn_8, gS_ringedIn_10, gS_ringedIn_11, gS_ringedIn_14, gS_ringedIn_17, gS_ringedIn_18, gS_ringedIn_19, gS_ringedIn_20, gS_ringedIn_21, gS_ringedIn_22, gS_ringedIn_25, gS_ringedIn_28, gS_ringedIn_29, gS_ringedIn_30, gS_ringedIn_33, gS_ringedIn_34, gS_ringedIn_35, gS_ringedIn_36, gS_ringedIn_37, gS_ringedIn_40, gS_ringedIn_41, gS_ringedIn_42, gS_ringedIn_43, gS_ringedIn_44, gS_ringedIn_45, gS_ringedIn_46, gS_ringedIn_47, gS_ringedIn_48, gS_ringedIn_50, gS_ringedIn_51, gS_ringedIn_55, gS_ringedIn_56, gS_ringedIn_59, gS_ringedIn_62, gS_ringedIn_64, gS_ringedIn_66, gS_ringedIn_67, gS_ringedIn_68, gS_ringedIn_69, gS_ringedIn_72, gS_ringedIn_73, gS_ringedIn_76, gS_ringedIn_77, gS_ringedIn_79, gS_ringedIn_81, gS_ringedIn_84, gS_ringedIn_85, gS_ringedIn_86, gS_ringedIn_89, gS_ringedIn_90, gS_ringedIn_92, gS_ringedIn_93, gS_ringedIn_94, gS_ringedIn_97, gS_ringedIn_98, gS_ringedIn_99, gS_ringedIn_100, gS_ringedIn_101, gS_ringedIn_104, gS_ringedIn_105, gS_ringedIn_106, gS_ringedIn_107, gS_ringedIn_108, gS_ringedIn_109, gS_ringedIn_110, gS_ringedIn_113, gS_ringedIn_119, gS_ringedIn_122, gS_ringedIn_123, n1z', ↓reduceIte, if_true, if_false, eq_self, not_true, not_false_eq_true, not_true_eq_false, Bool.true_eq_false, Bool.false_eq_true, Bool.not_false, Bool.not_true, Bool.and_true, Bool.and_false, Bool.true_and, Bool.false_and, ↓reduceIte, Bool.false_eq_true, Bool.true_eq_false, qk_i, qk_r, qk_n, Option.toList_some, Option.toList_none, List.cons_append, List.nil_append, true_and, and_true, true_or, or_true, eq_self, if_true, if_false, q_b1, q_b2, c_A, c_R, c_O, c_M, c_H1, c_H8, c_H15, e6, e7, or1_nI (show j < 31 by omega), y_H_reachFrom g r, nx_and, or_nI, sh1_nI j (by omega), dif_nI hbr]
      refine l_A_ring2 (ac := v_ringed H n h j) g r (show j < n by omega) (fun o5 o6 => ?_) n 0 (by omega) _
      refine e116 _ ?_ _ _ _
      show _ = if ((v_bar H n h).testBit j && rg_any H n h j n) = true then v_ringed H n h j ||| 2 ^ j else v_ringed H n h j
      rw [hb, Bool.true_and]
theorem y_A_ringed (g : gH H n h) (r : RC 1 M H) (hQ : ∀ M', eqx Sq M M' → Q (some (.int (nI (v_ringed H n h n)))) M') : q_Run 81 [.ref 0] M Q := by
  rw [e_A_ringed]
  simp only [gA_ringed_0, gA_ringed_1, gA_ringed_4, gA_ringed_7, ↓reduceIte, Bool.false_eq_true, Bool.true_eq_false, qk_i, qk_r, qk_n, Option.toList_some, Option.toList_none, List.cons_append, List.nil_append, true_and, and_true, true_or, or_true, eq_self, if_true, if_false, q_b1, q_b2, c_A, c_R, c_O, c_M, c_H1, c_H8, c_H15, rf_A0]
  rw [e_S_ringedIn]
  simp only [gS_ringedIn_0, gS_ringedIn_1, gS_ringedIn_4, gS_ringedIn_5, gS_ringedIn_6, gS_ringedIn_7, gS_ringedIn_8, gS_ringedIn_10, gS_ringedIn_11, gS_ringedIn_14, gS_ringedIn_17, gS_ringedIn_18, gS_ringedIn_19, gS_ringedIn_20, gS_ringedIn_21, gS_ringedIn_22, gS_ringedIn_25, gS_ringedIn_28, gS_ringedIn_29, gS_ringedIn_30, gS_ringedIn_33, gS_ringedIn_34, gS_ringedIn_35, gS_ringedIn_36, gS_ringedIn_37, gS_ringedIn_40, gS_ringedIn_41, gS_ringedIn_42, gS_ringedIn_43, gS_ringedIn_44, gS_ringedIn_45, gS_ringedIn_46, gS_ringedIn_47, gS_ringedIn_48, gS_ringedIn_50, gS_ringedIn_51, gS_ringedIn_53, gS_ringedIn_55, gS_ringedIn_56, gS_ringedIn_59, gS_ringedIn_62, gS_ringedIn_64, gS_ringedIn_66, gS_ringedIn_67, gS_ringedIn_68, gS_ringedIn_69, gS_ringedIn_72, gS_ringedIn_73, gS_ringedIn_76, gS_ringedIn_77, gS_ringedIn_79, gS_ringedIn_81, gS_ringedIn_84, gS_ringedIn_85, gS_ringedIn_86, gS_ringedIn_89, gS_ringedIn_90, gS_ringedIn_92, gS_ringedIn_93, gS_ringedIn_94, gS_ringedIn_97, gS_ringedIn_98, gS_ringedIn_99, gS_ringedIn_100, gS_ringedIn_101, gS_ringedIn_104, gS_ringedIn_105, gS_ringedIn_106, gS_ringedIn_107, gS_ringedIn_108, gS_ringedIn_109, gS_ringedIn_110, gS_ringedIn_113, gS_ringedIn_116, gS_ringedIn_119, gS_ringedIn_122, gS_ringedIn_123, ↓reduceIte, Bool.false_eq_true, Bool.true_eq_false, qk_i, qk_r, qk_n, Option.toList_some, Option.toList_none, List.cons_append, List.nil_append, true_and, and_true, true_or, or_true, eq_self, if_true, if_false, q_b1, q_b2, c_A, c_R, c_O, c_M, c_H1, c_H8, c_H15, y_H_barred g r]
  refine l_A_ring g r n 0 (by omega) _ _ _ ?_
  simp only [gA_ringed_0, gA_ringed_1, gA_ringed_4, gA_ringed_7, ↓reduceIte, Bool.false_eq_true, Bool.true_eq_false, qk_i, qk_r, qk_n, Option.toList_some, Option.toList_none, List.cons_append, List.nil_append, true_and, and_true, true_or, or_true, eq_self, if_true, if_false, q_b1, q_b2, c_A, c_R, c_O, c_M, c_H1, c_H8, c_H15]
  exact hQ _ eqx.rf
theorem l_M_isRinged {a : Nat} (g : gH H n h) (r : RM M H) (ha : a < n) : ∀ k j, j + k = n → rg_any H n h a j = false →
    q_g 115 none Q 17 [some (.ref 30), some (.int (nI a)), some (.int (nI (v_bar H n h))), some (.int (nI (rN H n (h ||| 2 ^ a)))), some (.int (nI j))] [] M = Q (some (.int (q_z (rg_any H n h a n)))) M := by
  have h10 := g.1
  have hv := g.vm r
  have hra : rN H n (h ||| 2 ^ a) < 1024 := rN_lt g (or1_lt g.hlt (by omega))
  have hbl := bar_lt g
  intro k
  induction k with
  | zero =>
    intro j hj hf
    have : j = n := by omega
    subst this
    rw [gM_isRinged_17, hf]
    simp only [gM_isRinged_0, gM_isRinged_1, gM_isRinged_2, gM_isRinged_5, gM_isRinged_6, gM_isRinged_7, gM_isRinged_8, gM_isRinged_9, gM_isRinged_10, gM_isRinged_13, gM_isRinged_14, gM_isRinged_15, gM_isRinged_19, gM_isRinged_20, gM_isRinged_23, gM_isRinged_26, gM_isRinged_28, gM_isRinged_29, gM_isRinged_32, gM_isRinged_33, gM_isRinged_35, gM_isRinged_38, gM_isRinged_41, gM_isRinged_42, gM_isRinged_44, gM_isRinged_47, gM_isRinged_50, gM_isRinged_51, gM_isRinged_52, gM_isRinged_55, gM_isRinged_56, gM_isRinged_58, gM_isRinged_59, gM_isRinged_60, gM_isRinged_61, gM_isRinged_64, gM_isRinged_65, gM_isRinged_68, gM_isRinged_71, gM_isRinged_72, gM_isRinged_73, gM_isRinged_76, gM_isRinged_79, gM_isRinged_80, ↓reduceIte, Bool.false_eq_true, Bool.true_eq_false, qk_i, qk_r, qk_n, Option.toList_some, Option.toList_none, List.cons_append, List.nil_append, true_and, and_true, true_or, or_true, eq_self, if_true, if_false, q_b1, q_b2, c_A, c_R, c_O, c_M, c_H1, c_H8, c_H15, hv.1, Int32.le_refl]
    rfl
  | succ k ih =>
    intro j hj hf
    have h1 : ¬ nI n ≤ nI j := nI_ge (by omega) (by omega)
    have ih1 := ih (j + 1) (by omega)
    have hrj : h ||| 2 ^ j < 1024 := or1_lt g.hlt (by omega)
    have hrj2 : rN H n (h ||| 2 ^ j) < 1024 := rN_lt g hrj
    have ej := nI_inj (x := j) (y := a) (by omega) (by omega)
    have hd : rg_any H n h a (j + 1) = ((rN H n (h ||| 2 ^ a)).testBit j && (v_bar H n h).testBit j && !decide (a = j) && (rN H n (h ||| 2 ^ j)).testBit a) := by
      show (rg_any H n h a j || _) = _
      rw [hf, Bool.false_or]
    rw [gM_isRinged_17]
    simp only [gM_isRinged_0, gM_isRinged_1, gM_isRinged_2, gM_isRinged_5, gM_isRinged_6, gM_isRinged_7, gM_isRinged_8, gM_isRinged_9, gM_isRinged_10, gM_isRinged_13, gM_isRinged_14, gM_isRinged_15, gM_isRinged_19, gM_isRinged_20, gM_isRinged_23, gM_isRinged_26, gM_isRinged_28, gM_isRinged_29, gM_isRinged_32, gM_isRinged_33, gM_isRinged_35, gM_isRinged_38, gM_isRinged_41, gM_isRinged_42, gM_isRinged_44, gM_isRinged_47, gM_isRinged_50, gM_isRinged_51, gM_isRinged_52, gM_isRinged_55, gM_isRinged_56, gM_isRinged_58, gM_isRinged_59, gM_isRinged_60, gM_isRinged_61, gM_isRinged_64, gM_isRinged_65, gM_isRinged_68, gM_isRinged_71, gM_isRinged_72, gM_isRinged_73, gM_isRinged_76, gM_isRinged_79, gM_isRinged_80, ↓reduceIte, Bool.false_eq_true, Bool.true_eq_false, qk_i, qk_r, qk_n, Option.toList_some, Option.toList_none, List.cons_append, List.nil_append, true_and, and_true, true_or, or_true, eq_self, if_true, if_false, q_b1, q_b2, c_A, c_R, c_O, c_M, c_H1, c_H8, c_H15, hv.1, h1, x_M_has, q_z0, nI_1, hv.2.2.1, ej, has_nI (show v_bar H n h < 2 ^ 31 by omega) (show j < 31 by omega), has_nI (show rN H n (h ||| 2 ^ a) < 2 ^ 31 by omega) (show j < 31 by omega), or1_nI (show j < 31 by omega), y_M_reach0 g r hrj, has_nI (show rN H n (h ||| 2 ^ j) < 2 ^ 31 by omega) (show a < 31 by omega)]
    by_cases e : j = a
    · have hz : rg_any H n h a (j + 1) = false := by rw [hd, e]; simp
      subst e
      simp only [if_true]
      exact ih1 hz
    · have e' : ¬ a = j := fun q => e q.symm
      cases hb : (v_bar H n h).testBit j
      · have hz : rg_any H n h a (j + 1) = false := by rw [hd, hb]; simp
        simp only [e, if_true, if_false]
        exact ih1 hz
      · cases hc : (rN H n (h ||| 2 ^ a)).testBit j
        · have hz : rg_any H n h a (j + 1) = false := by rw [hd, hc]; simp
          simp only [e, Bool.true_eq_false, if_true, if_false]
          exact ih1 hz
        · cases hw : (rN H n (h ||| 2 ^ j)).testBit a
          · have hz : rg_any H n h a (j + 1) = false := by rw [hd, hw]; simp
            simp only [e, Bool.true_eq_false, if_true, if_false]
            exact ih1 hz
          · have hz : rg_any H n h a (j + 1) = true := by rw [hd, hb, hc, hw]; simp [e']
            have ht := rg_mono hz k
            rw [show j + 1 + k = n by omega] at ht
            simp only [e, Bool.true_eq_false, if_false]
            rw [ht]
            rfl
theorem y_M_isRinged {a : Nat} (g : gH H n h) (r : RM M H) (ha : a < n) : q_Run 115 [.ref 30, .int (nI a), .int (nI (v_bar H n h))] M Q = Q (some (.int (q_z (rg_any H n h a n)))) M := by
  have h10 := g.1
  rw [e_M_isRinged]
  simp only [gM_isRinged_0, gM_isRinged_1, gM_isRinged_2, gM_isRinged_5, gM_isRinged_6, gM_isRinged_7, gM_isRinged_8, gM_isRinged_9, gM_isRinged_10, gM_isRinged_13, gM_isRinged_14, gM_isRinged_15, gM_isRinged_19, gM_isRinged_20, gM_isRinged_23, gM_isRinged_26, gM_isRinged_28, gM_isRinged_29, gM_isRinged_32, gM_isRinged_33, gM_isRinged_35, gM_isRinged_38, gM_isRinged_41, gM_isRinged_42, gM_isRinged_44, gM_isRinged_47, gM_isRinged_50, gM_isRinged_51, gM_isRinged_52, gM_isRinged_55, gM_isRinged_56, gM_isRinged_58, gM_isRinged_59, gM_isRinged_60, gM_isRinged_61, gM_isRinged_64, gM_isRinged_65, gM_isRinged_68, gM_isRinged_71, gM_isRinged_72, gM_isRinged_73, gM_isRinged_76, gM_isRinged_79, gM_isRinged_80, ↓reduceIte, Bool.false_eq_true, Bool.true_eq_false, qk_i, qk_r, qk_n, Option.toList_some, Option.toList_none, List.cons_append, List.nil_append, true_and, and_true, true_or, or_true, eq_self, if_true, if_false, q_b1, q_b2, c_A, c_R, c_O, c_M, c_H1, c_H8, c_H15, (g.vm r).2.2.1, or1_nI (show a < 31 by omega), y_M_reach0 g r (or1_lt g.hlt (show a < 10 by omega))]
  exact l_M_isRinged g r ha n 0 (by omega) rfl
theorem l_M_ringed (g : gH H n h) (r : RM M H) : ∀ k j, j + k = n →
    q_g 142 none Q 21 [some (.ref 30), some (.int (nI (v_bar H n h))), some (.int (nI (v_ringed H n h j))), some (.int (nI j))] [] M = Q (some (.int (nI (v_ringed H n h n)))) M := by
  have h10 := g.1
  have hv := g.vm r
  have hbl := bar_lt g
  have e0 : ∀ m, nI m ||| 0 = nI m := fun m => by rw [← nI_0, or_nI, Nat.or_zero]
  intro k
  induction k with
  | zero =>
    intro j hj
    have : j = n := by omega
    subst this
    rw [gM_ringed_21]
    simp only [gM_ringed_0, gM_ringed_1, gM_ringed_4, gM_ringed_5, gM_ringed_6, gM_ringed_9, gM_ringed_10, gM_ringed_13, gM_ringed_14, gM_ringed_15, gM_ringed_16, gM_ringed_17, gM_ringed_18, gM_ringed_19, gM_ringed_20, gM_ringed_22, gM_ringed_23, gM_ringed_26, gM_ringed_29, gM_ringed_30, gM_ringed_31, gM_ringed_32, gM_ringed_35, gM_ringed_38, gM_ringed_39, gM_ringed_40, gM_ringed_41, gM_ringed_44, gM_ringed_47, gM_ringed_48, gM_ringed_49, gM_ringed_50, gM_ringed_53, gM_ringed_54, gM_ringed_55, gM_ringed_56, gM_ringed_59, gM_ringed_62, gM_ringed_63, ↓reduceIte, Bool.false_eq_true, Bool.true_eq_false, qk_i, qk_r, qk_n, Option.toList_some, Option.toList_none, List.cons_append, List.nil_append, true_and, and_true, true_or, or_true, eq_self, if_true, if_false, q_b1, q_b2, c_A, c_R, c_O, c_M, c_H1, c_H8, c_H15, hv.1, Int32.le_refl]
  | succ k ih =>
    intro j hj
    have h1 : ¬ nI n ≤ nI j := nI_ge (by omega) (by omega)
    have ih1 := ih (j + 1) (by omega)
    rw [v_ringed_s] at ih1
    rw [gM_ringed_21]
    simp only [gM_ringed_0, gM_ringed_1, gM_ringed_4, gM_ringed_5, gM_ringed_6, gM_ringed_9, gM_ringed_10, gM_ringed_13, gM_ringed_14, gM_ringed_15, gM_ringed_16, gM_ringed_17, gM_ringed_18, gM_ringed_19, gM_ringed_20, gM_ringed_22, gM_ringed_23, gM_ringed_26, gM_ringed_29, gM_ringed_30, gM_ringed_31, gM_ringed_32, gM_ringed_35, gM_ringed_38, gM_ringed_39, gM_ringed_40, gM_ringed_41, gM_ringed_44, gM_ringed_47, gM_ringed_48, gM_ringed_49, gM_ringed_50, gM_ringed_53, gM_ringed_55, gM_ringed_56, gM_ringed_59, gM_ringed_62, gM_ringed_63, ↓reduceIte, Bool.false_eq_true, Bool.true_eq_false, qk_i, qk_r, qk_n, Option.toList_some, Option.toList_none, List.cons_append, List.nil_append, true_and, and_true, true_or, or_true, eq_self, if_true, if_false, q_b1, q_b2, c_A, c_R, c_O, c_M, c_H1, c_H8, c_H15, hv.1, h1, x_M_has, has_nI (show v_bar H n h < 2 ^ 31 by omega) (show j < 31 by omega), q_z0, y_M_isRinged g r (show j < n by omega)]
    cases hb : (v_bar H n h).testBit j
    · rw [hb, Bool.false_and, if_neg (by decide)] at ih1
      simp only [gM_ringed_0, gM_ringed_1, gM_ringed_4, gM_ringed_5, gM_ringed_6, gM_ringed_9, gM_ringed_10, gM_ringed_13, gM_ringed_14, gM_ringed_15, gM_ringed_16, gM_ringed_17, gM_ringed_18, gM_ringed_19, gM_ringed_20, gM_ringed_22, gM_ringed_23, gM_ringed_26, gM_ringed_29, gM_ringed_30, gM_ringed_31, gM_ringed_32, gM_ringed_35, gM_ringed_38, gM_ringed_39, gM_ringed_40, gM_ringed_41, gM_ringed_44, gM_ringed_47, gM_ringed_48, gM_ringed_49, gM_ringed_50, gM_ringed_53, gM_ringed_54, gM_ringed_55, gM_ringed_56, gM_ringed_59, gM_ringed_62, gM_ringed_63, ↓reduceIte, Bool.false_eq_true, Bool.true_eq_false, qk_i, qk_r, qk_n, Option.toList_some, Option.toList_none, List.cons_append, List.nil_append, true_and, and_true, true_or, or_true, eq_self, if_true, if_false, q_b1, q_b2, c_A, c_R, c_O, c_M, c_H1, c_H8, c_H15, nI_1, e0, ih1]
    · cases hc : rg_any H n h j n
      · rw [hb, hc, if_neg (by decide)] at ih1
        simp only [gM_ringed_0, gM_ringed_1, gM_ringed_4, gM_ringed_5, gM_ringed_6, gM_ringed_9, gM_ringed_10, gM_ringed_13, gM_ringed_14, gM_ringed_15, gM_ringed_16, gM_ringed_17, gM_ringed_18, gM_ringed_19, gM_ringed_20, gM_ringed_22, gM_ringed_23, gM_ringed_26, gM_ringed_29, gM_ringed_30, gM_ringed_31, gM_ringed_32, gM_ringed_35, gM_ringed_38, gM_ringed_39, gM_ringed_40, gM_ringed_41, gM_ringed_44, gM_ringed_47, gM_ringed_48, gM_ringed_49, gM_ringed_50, gM_ringed_53, gM_ringed_54, gM_ringed_55, gM_ringed_56, gM_ringed_59, gM_ringed_62, gM_ringed_63, ↓reduceIte, Bool.false_eq_true, Bool.true_eq_false, qk_i, qk_r, qk_n, Option.toList_some, Option.toList_none, List.cons_append, List.nil_append, true_and, and_true, true_or, or_true, eq_self, if_true, if_false, q_b1, q_b2, c_A, c_R, c_O, c_M, c_H1, c_H8, c_H15, nI_1, e0, ih1]
      · rw [hb, hc, if_pos (by decide)] at ih1
        simp only [gM_ringed_0, gM_ringed_1, gM_ringed_4, gM_ringed_5, gM_ringed_6, gM_ringed_9, gM_ringed_10, gM_ringed_13, gM_ringed_14, gM_ringed_15, gM_ringed_16, gM_ringed_17, gM_ringed_18, gM_ringed_19, gM_ringed_20, gM_ringed_22, gM_ringed_23, gM_ringed_26, gM_ringed_29, gM_ringed_30, gM_ringed_31, gM_ringed_32, gM_ringed_35, gM_ringed_38, gM_ringed_39, gM_ringed_40, gM_ringed_41, gM_ringed_44, gM_ringed_47, gM_ringed_48, gM_ringed_49, gM_ringed_50, gM_ringed_53, gM_ringed_54, gM_ringed_55, gM_ringed_56, gM_ringed_59, gM_ringed_62, gM_ringed_63, ↓reduceIte, Bool.false_eq_true, Bool.true_eq_false, qk_i, qk_r, qk_n, Option.toList_some, Option.toList_none, List.cons_append, List.nil_append, true_and, and_true, true_or, or_true, eq_self, if_true, if_false, q_b1, q_b2, c_A, c_R, c_O, c_M, c_H1, c_H8, c_H15, nI_1, or1_nI (show j < 31 by omega), ih1]
theorem y_M_ringed (g : gH H n h) (r : RM M H) (hQ : ∀ M', eqx Sm M M' → Q (some (.int (nI (v_ringed H n h n)))) M') : q_Run 142 [.ref 30] M Q := by
  have h2 := two_pow_le g.1
  have hp := Nat.two_pow_pos n
  have d1 := dif_nI (x := 2 ^ n - 1) (by omega)
  have eb : dif (2 ^ n - 1) (rN H n h) = v_bar H n h := rfl
  rw [e_M_ringed]
  simp only [gM_ringed_0, gM_ringed_1, gM_ringed_4, gM_ringed_5, gM_ringed_6, gM_ringed_9, gM_ringed_10, gM_ringed_13, gM_ringed_14, gM_ringed_15, gM_ringed_16, gM_ringed_17, gM_ringed_18, gM_ringed_19, gM_ringed_20, gM_ringed_22, gM_ringed_23, gM_ringed_26, gM_ringed_29, gM_ringed_30, gM_ringed_31, gM_ringed_32, gM_ringed_35, gM_ringed_38, gM_ringed_39, gM_ringed_40, gM_ringed_41, gM_ringed_44, gM_ringed_47, gM_ringed_48, gM_ringed_49, gM_ringed_50, gM_ringed_53, gM_ringed_54, gM_ringed_55, gM_ringed_56, gM_ringed_59, gM_ringed_62, gM_ringed_63, ↓reduceIte, Bool.false_eq_true, Bool.true_eq_false, qk_i, qk_r, qk_n, Option.toList_some, Option.toList_none, List.cons_append, List.nil_append, true_and, and_true, true_or, or_true, eq_self, if_true, if_false, q_b1, q_b2, c_A, c_R, c_O, c_M, c_H1, c_H8, c_H15, y_M_whole g r, (g.vm r).2.2.1, y_M_reach0 g r g.hlt, d1, eb]
  exact Eq.mpr (l_M_ringed g r n 0 (by omega)) (hQ _ eqx.rf)
end RING
