/-! SEEKERS -/
def v_rank (H : q_M) (n : Nat) (kd : Int32) (s j : Nat) : Int32 := if kd = 1 then s_go H 0 (nI j) (nI s) else if kd = 2 then -(H 3 j) else if kd = 3 then -(nI (pcN (mayN H (s ||| 2 ^ j) n) 31)) else if kd = 4 then H 3 j else if kd = 5 then H 4 j else 0
/-- the THING chosen of the first k, 10 for none -/
def v_ch (H : q_M) (n : Nat) (kd : Int32) (s : Nat) : Nat → Nat
  | 0 => 10
  | k + 1 => if (mayN H s n).testBit k = true ∧ (v_ch H n kd s k = 10 ∨ v_rank H n kd s k < v_rank H n kd s (v_ch H n kd s k)) then k else v_ch H n kd s k
theorem v_ch_s (H : q_M) (n : Nat) (kd : Int32) (s k : Nat) : v_ch H n kd s (k + 1) = if (mayN H s n).testBit k = true ∧ (v_ch H n kd s k = 10 ∨ v_rank H n kd s k < v_rank H n kd s (v_ch H n kd s k)) then k else v_ch H n kd s k := rfl
def v_chI (c : Nat) : Int32 := if c = 10 then -9 else nI c
section SEEK
variable {Q : q_R} {M H : q_M} {n h : Nat} {a b kd : Int32}
theorem ch_lt {s : Nat} : ∀ k, v_ch H n kd s k = 10 ∨ v_ch H n kd s k < k ∧ (mayN H s n).testBit (v_ch H n kd s k) = true
  | 0 => Or.inl rfl
  | k + 1 => by
    unfold v_ch
    by_cases c : (mayN H s n).testBit k = true ∧ (v_ch H n kd s k = 10 ∨ v_rank H n kd s k < v_rank H n kd s (v_ch H n kd s k))
    · rw [if_pos c]
      exact Or.inr ⟨by omega, c.1⟩
    · rw [if_neg c]
      rcases ch_lt k with q | ⟨q, z⟩
      · exact Or.inl q
      · exact Or.inr ⟨by omega, z⟩
/-- none is chosen only if none may be had -/
theorem ch_none {s : Nat} : ∀ k, k ≤ 10 → v_ch H n kd s k = 10 → ∀ i, i < k → (mayN H s n).testBit i = false
  | 0, _, _, i, hi => absurd hi (by omega)
  | k + 1, hk, hc, i, hi => by
    rw [v_ch_s] at hc
    by_cases c : (mayN H s n).testBit k = true ∧ (v_ch H n kd s k = 10 ∨ v_rank H n kd s k < v_rank H n kd s (v_ch H n kd s k))
    · rw [if_pos c] at hc
      omega
    · rw [if_neg c] at hc
      by_cases e : i = k
      · subst e
        cases q : (mayN H s n).testBit i
        · rfl
        · exact absurd ⟨q, Or.inl hc⟩ c
      · exact ch_none k (by omega) hc i (by omega)
theorem y_K_rankOf {j s : Nat} (g : gH H n h) (r : RC 1 M H) (hj : j < n) (hs : s < 1024) : q_Run 54 [.ref 1, .int kd, .int (nI j), .int (nI s)] M Q = Q (some (.int (v_rank H n kd s j))) M := by
  have h10 := g.1
  have hb : ∀ x, s_bc (nI (mayN H x n)) = nI (pcN (mayN H x n) 31) := fun x => bc_pc (Nat.lt_of_lt_of_le (mayN_lt n) (two_pow_le h10))
  have e1 : s_go M 1 (nI j) (nI s) = s_go H 0 (nI j) (nI s) := r.go
  have e3 : s_get M (1 + 3) 10 (nI j) = H 3 j := by rw [r.get (c := 3) (by omega) (by omega), s_get_nI (by omega) (by omega)]
  have e4 : s_get M (1 + 4) 10 (nI j) = H 4 j := by rw [r.get (c := 4) (by omega) (by omega), s_get_nI (by omega) (by omega)]
  rw [e_K_rankOf]
  simp only [gK_rankOf_0, gK_rankOf_1, gK_rankOf_36, gK_rankOf_37, gK_rankOf_38, gK_rankOf_39, gK_rankOf_42, gK_rankOf_43, gK_rankOf_44, gK_rankOf_47, gK_rankOf_48, gK_rankOf_51, gK_rankOf_52, gK_rankOf_53, gK_rankOf_54, gK_rankOf_55, gK_rankOf_56, gK_rankOf_57, gK_rankOf_58, gK_rankOf_59, gK_rankOf_62, gK_rankOf_65, gK_rankOf_66, gK_rankOf_67, gK_rankOf_68, gK_rankOf_71, gK_rankOf_72, gK_rankOf_75, gK_rankOf_76, gK_rankOf_77, gK_rankOf_80, gK_rankOf_81, gK_rankOf_84, gK_rankOf_85, gK_rankOf_86, ↓reduceIte, Bool.false_eq_true, Bool.true_eq_false, qk_i, qk_r, qk_n, Option.toList_some, Option.toList_none, List.cons_append, List.nil_append, true_and, and_true, true_or, or_true, eq_self, if_true, if_false, q_b1, q_b2, c_A, c_R, c_O, c_M, c_H1, c_H8, c_H15, x_H_minutesOfGo c_H1, rf_H2 c_H1, rf_H3 c_H1, x_W_get (al_H c_H1).2.2.1, x_W_get (al_H c_H1).2.2.2.1, or1_nI (show j < 31 by omega), y_H_mayBy g r, x_I_bitCount, hb, e1, e3, e4]
  unfold v_rank
  by_cases k1 : kd = 1
  · rw [if_pos k1, if_pos k1]
  rw [if_neg k1, if_neg k1]
  by_cases k2 : kd = 2
  · rw [if_pos k2, if_pos k2]
  rw [if_neg k2, if_neg k2]
  by_cases k3 : kd = 3
  · rw [if_pos k3, if_pos k3]
  rw [if_neg k3, if_neg k3]
  by_cases k4 : kd = 4
  · rw [if_pos k4, if_pos k4]
  rw [if_neg k4, if_neg k4]
  by_cases k5 : kd = 5
  · rw [if_pos k5, if_pos k5]
  · rw [if_neg k5, if_neg k5]
theorem chI_9 {c : Nat} (hc : c ≤ 10) : (v_chI c = -9) = (c = 10) := by
  have key : ∀ c, c ≤ 10 → (v_chI c = -9 ↔ c = 10) := by decide +kernel
  exact propext (key c hc)
theorem chI_lt {c : Nat} (hc : c ≤ 10) : (v_chI c < 0) = (c = 10) := by
  have key : ∀ c, c ≤ 10 → (v_chI c < 0 ↔ c = 10) := by decide +kernel
  exact propext (key c hc)
theorem chI_ge {c : Nat} (hc : c ≤ 10) : (0 ≤ v_chI c) = ¬ (c = 10) := by
  have key : ∀ c, c ≤ 10 → (0 ≤ v_chI c ↔ ¬ c = 10) := by decide +kernel
  exact propext (key c hc)
theorem ch_10 {s k : Nat} (hk : k ≤ 10) : v_ch H n kd s k ≤ 10 := by
  rcases ch_lt (H := H) (n := n) (kd := kd) (s := s) k with q | ⟨q, -⟩ <;> omega
theorem l_A_chosen {s : Nat} (g : gH H n h) (r : RC 1 M H) (hs : s < 1024) : ∀ k j, j + k = n → ∀ (c : Int32) (o7 : Option Value), (¬ v_ch H n kd s j = 10 → c = v_rank H n kd s (v_ch H n kd s j)) →
    q_g 51 none Q 16 [some (.ref 1), some (.int kd), some (.int (nI s)), some (.int (nI (mayN H s n))), some (.int (v_chI (v_ch H n kd s j))), some (.int c), some (.int (nI j)), o7] [] M = Q (some (.int (v_chI (v_ch H n kd s n)))) M := by
  have h10 := g.1
  have e6 := e6_of g r
  have hm : mayN H s n < 2 ^ 31 := Nat.lt_of_lt_of_le (mayN_lt n) (Nat.le_trans (two_pow_le h10) (by omega))
  intro k
  induction k with
  | zero =>
    intro j hj c o7 hc
    have : j = n := by omega
    subst this
    rw [gK_chosen_16]
    simp only [gK_chosen_0, gK_chosen_1, gK_chosen_2, gK_chosen_5, gK_chosen_6, gK_chosen_8, gK_chosen_10, gK_chosen_11, gK_chosen_13, gK_chosen_14, gK_chosen_18, gK_chosen_19, gK_chosen_22, gK_chosen_25, gK_chosen_26, gK_chosen_28, gK_chosen_29, gK_chosen_30, gK_chosen_31, gK_chosen_34, gK_chosen_37, gK_chosen_38, gK_chosen_39, gK_chosen_41, gK_chosen_42, gK_chosen_45, gK_chosen_47, gK_chosen_49, gK_chosen_51, gK_chosen_54, gK_chosen_56, gK_chosen_58, gK_chosen_61, gK_chosen_63, gK_chosen_65, gK_chosen_67, gK_chosen_69, gK_chosen_72, gK_chosen_75, gK_chosen_77, ↓reduceIte, Bool.false_eq_true, Bool.true_eq_false, qk_i, qk_r, qk_n, Option.toList_some, Option.toList_none, List.cons_append, List.nil_append, true_and, and_true, true_or, or_true, eq_self, if_true, if_false, q_b1, q_b2, c_A, c_R, c_O, c_M, c_H1, c_H8, c_H15, e6, Int32.le_refl]
  | succ k ih =>
    intro j hj c o7 hc
    have h1 : ¬ nI n ≤ nI j := nI_ge (by omega) (by omega)
    have ih1 := fun c o7 => ih (j + 1) (by omega) c o7
    rw [gK_chosen_16]
    simp only [gK_chosen_0, gK_chosen_1, gK_chosen_2, gK_chosen_5, gK_chosen_6, gK_chosen_8, gK_chosen_10, gK_chosen_11, gK_chosen_13, gK_chosen_14, gK_chosen_18, gK_chosen_19, gK_chosen_22, gK_chosen_25, gK_chosen_26, gK_chosen_28, gK_chosen_29, gK_chosen_30, gK_chosen_31, gK_chosen_34, gK_chosen_37, gK_chosen_38, gK_chosen_39, gK_chosen_41, gK_chosen_42, gK_chosen_45, gK_chosen_47, gK_chosen_49, gK_chosen_51, gK_chosen_54, gK_chosen_56, gK_chosen_58, gK_chosen_61, gK_chosen_63, gK_chosen_65, gK_chosen_67, gK_chosen_69, gK_chosen_72, gK_chosen_75, gK_chosen_77, ↓reduceIte, Bool.false_eq_true, Bool.true_eq_false, qk_i, qk_r, qk_n, Option.toList_some, Option.toList_none, List.cons_append, List.nil_append, true_and, and_true, true_or, or_true, eq_self, if_true, if_false, q_b1, q_b2, c_A, c_R, c_O, c_M, c_H1, c_H8, c_H15, e6, h1, nI_1, bit_nI hm (show j < 31 by omega), y_K_rankOf g r (show j < n by omega) hs, chI_9 (ch_10 (H := H) (n := n) (kd := kd) (s := s) (show j ≤ 10 by omega))]
    have ej : nI j = v_chI j := by
      unfold v_chI
      rw [if_neg (by omega)]
    simp only [v_ch_s] at ih1
    cases hb : (mayN H s n).testBit j
    · rw [if_neg (fun q : (mayN H s n).testBit j = true ∧ (v_ch H n kd s j = 10 ∨ v_rank H n kd s j < v_rank H n kd s (v_ch H n kd s j)) => by rw [hb] at q; exact absurd q.1 (by decide))] at ih1
      simp only [Bool.false_eq_true, not_false_eq_true, if_true]
      exact ih1 _ _ hc
    · simp only [not_true, if_false]
      by_cases e : v_ch H n kd s j = 10
      · rw [if_pos (show (mayN H s n).testBit j = true ∧ (v_ch H n kd s j = 10 ∨ v_rank H n kd s j < v_rank H n kd s (v_ch H n kd s j)) from ⟨hb, Or.inl e⟩)] at ih1
        simp only [e, if_true]
        have := ih1 (v_rank H n kd s j) (some (.int (v_rank H n kd s j))) (fun _ => rfl)
        rw [← ej] at this
        exact this
      · have ec := hc e
        simp only [e, if_false]
        by_cases hlt : v_rank H n kd s j < v_rank H n kd s (v_ch H n kd s j)
        · rw [if_pos (show (mayN H s n).testBit j = true ∧ (v_ch H n kd s j = 10 ∨ v_rank H n kd s j < v_rank H n kd s (v_ch H n kd s j)) from ⟨hb, Or.inr hlt⟩)] at ih1
          rw [if_neg (show ¬ c ≤ v_rank H n kd s j from fun q => Int32.not_le.mpr hlt (ec ▸ q))]
          have := ih1 (v_rank H n kd s j) (some (.int (v_rank H n kd s j))) (fun _ => rfl)
          rw [← ej] at this
          exact this
        · rw [if_neg (fun q : (mayN H s n).testBit j = true ∧ (v_ch H n kd s j = 10 ∨ v_rank H n kd s j < v_rank H n kd s (v_ch H n kd s j)) => by rcases q.2 with z | z; exact e z; exact hlt z)] at ih1
          rw [if_pos (show c ≤ v_rank H n kd s j from ec ▸ Int32.not_lt.mp hlt)]
          exact ih1 _ _ hc
theorem y_K_chosen {s : Nat} (g : gH H n h) (r : RC 1 M H) (hs : s < 1024) : q_Run 51 [.ref 1, .int kd, .int (nI s)] M Q = Q (some (.int (v_chI (v_ch H n kd s n)))) M := by
  rw [e_K_chosen]
  simp only [gK_chosen_0, gK_chosen_1, gK_chosen_2, gK_chosen_5, gK_chosen_6, gK_chosen_8, gK_chosen_10, gK_chosen_11, gK_chosen_13, gK_chosen_14, gK_chosen_18, gK_chosen_19, gK_chosen_22, gK_chosen_25, gK_chosen_26, gK_chosen_28, gK_chosen_29, gK_chosen_30, gK_chosen_31, gK_chosen_34, gK_chosen_37, gK_chosen_38, gK_chosen_39, gK_chosen_41, gK_chosen_42, gK_chosen_45, gK_chosen_47, gK_chosen_49, gK_chosen_51, gK_chosen_54, gK_chosen_56, gK_chosen_58, gK_chosen_61, gK_chosen_63, gK_chosen_65, gK_chosen_67, gK_chosen_69, gK_chosen_72, gK_chosen_75, gK_chosen_77, ↓reduceIte, Bool.false_eq_true, Bool.true_eq_false, qk_i, qk_r, qk_n, Option.toList_some, Option.toList_none, List.cons_append, List.nil_append, true_and, and_true, true_or, or_true, eq_self, if_true, if_false, q_b1, q_b2, c_A, c_R, c_O, c_M, c_H1, c_H8, c_H15, y_H_mayBy g r]
  exact l_A_chosen g r hs n 0 (by omega) 0 none (fun q => absurd rfl q)
theorem neg_lt : ∀ x, x ≤ 31 → ∀ y, y ≤ 31 → (-(nI x) < -(nI y) ↔ nI y < nI x) := by decide +kernel
theorem sure_N {j : Nat} (g : gH H n h) (hj : j < n) : ∃ s, s ≤ 31 ∧ H 3 j = nI s := by
  obtain ⟨-, -, ⟨s, s1, s10, e⟩, -⟩ := g.2.2.2.2.2 j hj
  exact ⟨s, by omega, e⟩
theorem y_M_isBetter {i j s : Nat} (g : gH H n h) (r : RM M H) (hi : i < n) (hj : j < n) (hs : s < 1024) : q_Run 113 [.ref 30, .int kd, .int (nI i), .int (nI j), .int (nI s)] M Q = Q (some (.int (q_z (decide (v_rank H n kd s i < v_rank H n kd s j))))) M := by
  have h10 := g.1
  have hv := g.vm r
  have i1 : q_in (nI i) 10 = true := q_in_nI (by omega) (by omega)
  have i2 : q_in (nI j) 10 = true := q_in_nI (by omega) (by omega)
  have c1 : (nI i).toNatClampNeg = i := nI_clamp (by omega)
  have c2 : (nI j).toNatClampNeg = j := nI_clamp (by omega)
  have hb : ∀ x, s_bitsN (nI (mayN H x n)) 31 = nI (pcN (mayN H x n) 31) := fun x => bits_pc (Nat.lt_of_lt_of_le (mayN_lt n) (two_pow_le h10))
  obtain ⟨-, -, a3, a4, -, -⟩ := r.e (show i < 10 by omega)
  obtain ⟨-, -, b3, b4, -, -⟩ := r.e (show j < 10 by omega)
  obtain ⟨u, hu, eu⟩ := sure_N g hi
  obtain ⟨w, hw, ew⟩ := sure_N g hj
  rw [e_M_isBetter]
  simp only [gM_isBetter_0, gM_isBetter_1, gM_isBetter_36, gM_isBetter_37, gM_isBetter_38, gM_isBetter_40, gM_isBetter_43, gM_isBetter_44, gM_isBetter_45, gM_isBetter_47, gM_isBetter_50, gM_isBetter_53, gM_isBetter_54, gM_isBetter_57, gM_isBetter_58, gM_isBetter_59, gM_isBetter_60, gM_isBetter_63, gM_isBetter_64, gM_isBetter_65, gM_isBetter_66, gM_isBetter_69, gM_isBetter_70, gM_isBetter_71, gM_isBetter_74, gM_isBetter_75, gM_isBetter_78, gM_isBetter_79, gM_isBetter_80, gM_isBetter_81, gM_isBetter_83, gM_isBetter_84, gM_isBetter_85, gM_isBetter_86, gM_isBetter_87, gM_isBetter_90, gM_isBetter_93, gM_isBetter_94, gM_isBetter_96, gM_isBetter_97, gM_isBetter_98, gM_isBetter_99, gM_isBetter_100, gM_isBetter_103, gM_isBetter_106, gM_isBetter_109, gM_isBetter_110, gM_isBetter_113, gM_isBetter_114, gM_isBetter_115, gM_isBetter_116, gM_isBetter_119, gM_isBetter_120, gM_isBetter_121, gM_isBetter_122, gM_isBetter_125, gM_isBetter_126, gM_isBetter_127, gM_isBetter_130, gM_isBetter_131, gM_isBetter_134, gM_isBetter_135, gM_isBetter_136, gM_isBetter_137, gM_isBetter_140, gM_isBetter_141, gM_isBetter_142, gM_isBetter_143, gM_isBetter_146, gM_isBetter_147, gM_isBetter_148, gM_isBetter_151, gM_isBetter_152, gM_isBetter_155, gM_isBetter_156, gM_isBetter_157, gM_isBetter_158, ↓reduceIte, Bool.false_eq_true, Bool.true_eq_false, qk_i, qk_r, qk_n, Option.toList_some, Option.toList_none, List.cons_append, List.nil_append, true_and, and_true, true_or, or_true, eq_self, if_true, if_false, q_b1, q_b2, c_A, c_R, c_O, c_M, c_H1, c_H8, c_H15, rf_M3, rf_M4, aD_34, aD_35, i1, i2, c1, c2, or1_nI (show i < 31 by omega), or1_nI (show j < 31 by omega), ← a3, ← a4, ← b3, ← b4, x_M_goOf (show i < 10 by omega), x_M_goOf (show j < 10 by omega), v_go_N r (show i < 10 by omega) hs, v_go_N r (show j < 10 by omega) hs, x_M_mayBy g r (or1_lt hs (show i < 10 by omega)), x_M_mayBy g r (or1_lt hs (show j < 10 by omega)), x_M_bits, hb]
  simp only [← Int32.not_lt]
  unfold v_rank q_z
  by_cases k1 : kd = 1
  · by_cases c : s_go H 0 (nI i) (nI s) < s_go H 0 (nI j) (nI s)
    · simp [k1, c]
    · simp [k1, c]
  by_cases k2 : kd = 2
  · have e := neg_lt u hu w hw
    rw [eu, ew]
    by_cases c : nI w < nI u
    · have := e.mpr c
      simp [k2, c, this]
    · have : ¬ -(nI u) < -(nI w) := fun q => c (e.mp q)
      simp [k2, c, this]
  by_cases k3 : kd = 3
  · have e := neg_lt _ (pcN_le (mayN H (s ||| 2 ^ i) n) 31) _ (pcN_le (mayN H (s ||| 2 ^ j) n) 31)
    by_cases c : nI (pcN (mayN H (s ||| 2 ^ j) n) 31) < nI (pcN (mayN H (s ||| 2 ^ i) n) 31)
    · have := e.mpr c
      simp [k3, c, this]
    · have : ¬ -(nI (pcN (mayN H (s ||| 2 ^ i) n) 31)) < -(nI (pcN (mayN H (s ||| 2 ^ j) n) 31)) := fun q => c (e.mp q)
      simp [k3, c, this]
  by_cases k4 : kd = 4
  · by_cases c : H 3 i < H 3 j
    · simp [k4, c]
    · simp [k4, c]
  by_cases k5 : kd = 5
  · by_cases c : H 4 i < H 4 j
    · simp [k5, c]
    · simp [k5, c]
  · simp [k1, k2, k3, k4, k5]
theorem l_M_sought {s : Nat} (g : gH H n h) (r : RM M H) (hs : s < 1024) : ∀ k j, j + k = n →
    q_g 147 none Q 13 [some (.ref 30), some (.int kd), some (.int (nI s)), some (.int (nI (mayN H s n))), some (.int (v_chI (v_ch H n kd s j))), some (.int (nI j))] [] M = Q (some (.int (v_chI (v_ch H n kd s n)))) M := by
  have h10 := g.1
  have hv := g.vm r
  have hm : mayN H s n < 2 ^ 31 := Nat.lt_of_lt_of_le (mayN_lt n) (Nat.le_trans (two_pow_le h10) (by omega))
  intro k
  induction k with
  | zero =>
    intro j hj
    have : j = n := by omega
    subst this
    rw [gM_sought_13]
    simp only [gM_sought_0, gM_sought_1, gM_sought_2, gM_sought_5, gM_sought_6, gM_sought_8, gM_sought_10, gM_sought_11, gM_sought_15, gM_sought_16, gM_sought_19, gM_sought_22, gM_sought_23, gM_sought_25, gM_sought_28, gM_sought_31, gM_sought_33, gM_sought_36, gM_sought_37, gM_sought_38, gM_sought_40, gM_sought_42, gM_sought_43, gM_sought_46, gM_sought_49, gM_sought_51, gM_sought_53, gM_sought_56, gM_sought_59, gM_sought_61, ↓reduceIte, Bool.false_eq_true, Bool.true_eq_false, qk_i, qk_r, qk_n, Option.toList_some, Option.toList_none, List.cons_append, List.nil_append, true_and, and_true, true_or, or_true, eq_self, if_true, if_false, q_b1, q_b2, c_A, c_R, c_O, c_M, c_H1, c_H8, c_H15, hv.1, Int32.le_refl]
  | succ k ih =>
    intro j hj
    have h1 : ¬ nI n ≤ nI j := nI_ge (by omega) (by omega)
    have ih1 := ih (j + 1) (by omega)
    have ej : nI j = v_chI j := by
      unfold v_chI
      rw [if_neg (by omega)]
    rw [gM_sought_13]
    simp only [gM_sought_0, gM_sought_1, gM_sought_2, gM_sought_5, gM_sought_6, gM_sought_8, gM_sought_10, gM_sought_11, gM_sought_15, gM_sought_16, gM_sought_19, gM_sought_22, gM_sought_23, gM_sought_25, gM_sought_28, gM_sought_31, gM_sought_33, gM_sought_36, gM_sought_37, gM_sought_38, gM_sought_40, gM_sought_42, gM_sought_43, gM_sought_46, gM_sought_49, gM_sought_51, gM_sought_53, gM_sought_56, gM_sought_59, gM_sought_61, ↓reduceIte, Bool.false_eq_true, Bool.true_eq_false, qk_i, qk_r, qk_n, Option.toList_some, Option.toList_none, List.cons_append, List.nil_append, true_and, and_true, true_or, or_true, eq_self, if_true, if_false, q_b1, q_b2, c_A, c_R, c_O, c_M, c_H1, c_H8, c_H15, hv.1, h1, x_M_has, has_nI hm (show j < 31 by omega), q_z0, nI_1, chI_lt (ch_10 (H := H) (n := n) (kd := kd) (s := s) (show j ≤ 10 by omega))]
    simp only [v_ch_s] at ih1
    cases hb : (mayN H s n).testBit j
    · rw [if_neg (fun q : (mayN H s n).testBit j = true ∧ (v_ch H n kd s j = 10 ∨ v_rank H n kd s j < v_rank H n kd s (v_ch H n kd s j)) => by rw [hb] at q; exact absurd q.1 (by decide))] at ih1
      simp only [if_true]
      exact ih1
    · simp only [Bool.true_eq_false, if_false]
      by_cases e : v_ch H n kd s j = 10
      · rw [if_pos (show (mayN H s n).testBit j = true ∧ (v_ch H n kd s j = 10 ∨ v_rank H n kd s j < v_rank H n kd s (v_ch H n kd s j)) from ⟨hb, Or.inl e⟩), ← ej] at ih1
        simp only [e, if_true]
        exact ih1
      · have hcl : v_ch H n kd s j < n := by
          rcases ch_lt (H := H) (n := n) (kd := kd) (s := s) j with q | ⟨q, -⟩
          · exact absurd q e
          · omega
        have ec : v_chI (v_ch H n kd s j) = nI (v_ch H n kd s j) := by
          unfold v_chI
          rw [if_neg e]
        simp only [e, if_false]
        rw [ec, y_M_isBetter g r (show j < n by omega) hcl hs]
        by_cases hlt : v_rank H n kd s j < v_rank H n kd s (v_ch H n kd s j)
        · rw [if_pos (show (mayN H s n).testBit j = true ∧ (v_ch H n kd s j = 10 ∨ v_rank H n kd s j < v_rank H n kd s (v_ch H n kd s j)) from ⟨hb, Or.inr hlt⟩), ← ej] at ih1
          have hz : q_z (decide (v_rank H n kd s j < v_rank H n kd s (v_ch H n kd s j))) = 1 := by rw [decide_eq_true hlt]; rfl
          simp only [gM_sought_0, gM_sought_1, gM_sought_2, gM_sought_5, gM_sought_6, gM_sought_8, gM_sought_10, gM_sought_11, gM_sought_15, gM_sought_16, gM_sought_19, gM_sought_22, gM_sought_23, gM_sought_25, gM_sought_28, gM_sought_31, gM_sought_33, gM_sought_36, gM_sought_37, gM_sought_38, gM_sought_40, gM_sought_42, gM_sought_43, gM_sought_46, gM_sought_49, gM_sought_51, gM_sought_53, gM_sought_56, gM_sought_59, gM_sought_61, ↓reduceIte, Bool.false_eq_true, Bool.true_eq_false, qk_i, qk_r, qk_n, Option.toList_some, Option.toList_none, List.cons_append, List.nil_append, true_and, and_true, true_or, or_true, eq_self, if_true, if_false, q_b1, q_b2, c_A, c_R, c_O, c_M, c_H1, c_H8, c_H15, hz, n1z', nI_1]
          exact ih1
        · rw [if_neg (fun q : (mayN H s n).testBit j = true ∧ (v_ch H n kd s j = 10 ∨ v_rank H n kd s j < v_rank H n kd s (v_ch H n kd s j)) => by rcases q.2 with z | z; exact e z; exact hlt z), ec] at ih1
          have hz : q_z (decide (v_rank H n kd s j < v_rank H n kd s (v_ch H n kd s j))) = 0 := by rw [decide_eq_false hlt]; rfl
          simp only [gM_sought_0, gM_sought_1, gM_sought_2, gM_sought_5, gM_sought_6, gM_sought_8, gM_sought_10, gM_sought_11, gM_sought_15, gM_sought_16, gM_sought_19, gM_sought_22, gM_sought_23, gM_sought_25, gM_sought_28, gM_sought_31, gM_sought_33, gM_sought_36, gM_sought_37, gM_sought_38, gM_sought_40, gM_sought_42, gM_sought_43, gM_sought_46, gM_sought_49, gM_sought_51, gM_sought_53, gM_sought_56, gM_sought_59, gM_sought_61, ↓reduceIte, Bool.false_eq_true, Bool.true_eq_false, qk_i, qk_r, qk_n, Option.toList_some, Option.toList_none, List.cons_append, List.nil_append, true_and, and_true, true_or, or_true, eq_self, if_true, if_false, q_b1, q_b2, c_A, c_R, c_O, c_M, c_H1, c_H8, c_H15, hz, nI_1]
          exact ih1
theorem y_M_sought {s : Nat} (g : gH H n h) (r : RM M H) (hs : s < 1024) : q_Run 147 [.ref 30, .int kd, .int (nI s)] M Q = Q (some (.int (v_chI (v_ch H n kd s n)))) M := by
  rw [e_M_sought]
  simp only [gM_sought_0, gM_sought_1, gM_sought_2, gM_sought_5, gM_sought_6, gM_sought_8, gM_sought_10, gM_sought_11, gM_sought_15, gM_sought_16, gM_sought_19, gM_sought_22, gM_sought_23, gM_sought_25, gM_sought_28, gM_sought_31, gM_sought_33, gM_sought_36, gM_sought_37, gM_sought_38, gM_sought_40, gM_sought_42, gM_sought_43, gM_sought_46, gM_sought_49, gM_sought_51, gM_sought_53, gM_sought_56, gM_sought_59, gM_sought_61, ↓reduceIte, Bool.false_eq_true, Bool.true_eq_false, qk_i, qk_r, qk_n, Option.toList_some, Option.toList_none, List.cons_append, List.nil_append, true_and, and_true, true_or, or_true, eq_self, if_true, if_false, q_b1, q_b2, c_A, c_R, c_O, c_M, c_H1, c_H8, c_H15, x_M_mayBy g r hs]
  exact l_M_sought g r hs n 0 (by omega)
end SEEK
