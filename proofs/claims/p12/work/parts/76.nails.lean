/-! NAILS -/
section NAILS
variable {Q : q_R} {M H : q_M} {n h : Nat} {a : Int32}
def pc (x : Nat) : Nat := pcN x 31
theorem pc_all : ∀ n, n ≤ 10 → pc (2 ^ n - 1) = n := by decide +kernel
theorem pc_less : ∀ n, n ≤ 10 → ∀ s, s < 2 ^ n - 1 → pc s < n := by decide +kernel
theorem pc_31 {x : Nat} : pc x ≤ 31 := pcN_le x 31
def nl_P (H : q_M) (n S : Nat) : Bool := decide (rN H n S = 2 ^ n - 1)
/-- the best of all sets that do -/
def nl_best (H : q_M) (n R : Nat) : Prop := nl_P H n R = true ∧ R ≤ 2 ^ n - 1 ∧ ∀ S, S ≤ 2 ^ n - 1 → nl_P H n S = true → pc R < pc S ∨ pc R = pc S ∧ R ≤ S
theorem nl_uni {R R' : Nat} (h1 : nl_best H n R) (h2 : nl_best H n R') : R = R' := by
  have a := h1.2.2 R' h2.2.1 h2.1
  have b := h2.2.2 R h1.2.1 h1.1
  omega
theorem nl_all (g : gH H n h) : nl_P H n (2 ^ n - 1) = true := by
  have h2 := two_pow_le g.1
  have hp := Nat.two_pow_pos n
  unfold nl_P
  rw [decide_eq_true_eq]
  apply Nat.eq_of_testBit_eq
  intro i
  cases hb : (2 ^ n - 1).testBit i
  · have hl := rN_ltn g (s := 2 ^ n - 1) (by omega)
    rw [tb_all] at hb
    exact Nat.testBit_lt_two_pow (Nat.lt_of_lt_of_le hl (Nat.pow_le_pow_right (by omega) (by have := of_decide_eq_false hb; omega)))
  · exact rwN_sup 10 _ i hb
/-- going down from all: behind m sets -/
def nl_b (H : q_M) (n : Nat) : Nat → Nat
  | 0 => 2 ^ n - 1
  | m + 1 => if pc (2 ^ n - 1 - m) ≤ pc (nl_b H n m) ∧ nl_P H n (2 ^ n - 1 - m) = true then 2 ^ n - 1 - m else nl_b H n m
theorem nl_b_s (H : q_M) (n m : Nat) : nl_b H n (m + 1) = if pc (2 ^ n - 1 - m) ≤ pc (nl_b H n m) ∧ nl_P H n (2 ^ n - 1 - m) = true then 2 ^ n - 1 - m else nl_b H n m := rfl
theorem nl_inv (g : gH H n h) : ∀ m, m ≤ 2 ^ n → nl_P H n (nl_b H n m) = true ∧ nl_b H n m ≤ 2 ^ n - 1 ∧ 2 ^ n ≤ nl_b H n m + m + 1 ∧ (m = 0 → nl_b H n m = 2 ^ n - 1) ∧ ∀ S, 2 ^ n ≤ S + m → S ≤ 2 ^ n - 1 → nl_P H n S = true → pc (nl_b H n m) < pc S ∨ pc (nl_b H n m) = pc S ∧ nl_b H n m ≤ S
  | 0, _ => by
    have hp := Nat.two_pow_pos n
    refine ⟨nl_all g, Nat.le_refl _, ?_, fun _ => rfl, fun S h1 h2 _ => ?_⟩
    · show 2 ^ n ≤ 2 ^ n - 1 + 0 + 1
      omega
    · omega
  | m + 1, hm => by
    have hp := Nat.two_pow_pos n
    obtain ⟨a1, a2, a3, a4, a5⟩ := nl_inv g m (by omega)
    rw [nl_b_s]
    by_cases c : pc (2 ^ n - 1 - m) ≤ pc (nl_b H n m) ∧ nl_P H n (2 ^ n - 1 - m) = true
    · rw [if_pos c]
      refine ⟨c.2, by omega, by omega, fun q => by omega, fun S h1 h2 h3 => ?_⟩
      by_cases e : S = 2 ^ n - 1 - m
      · subst e
        exact Or.inr ⟨rfl, Nat.le_refl _⟩
      · have := a5 S (by omega) h2 h3
        omega
    · rw [if_neg c]
      refine ⟨a1, a2, by omega, fun q => by omega, fun S h1 h2 h3 => ?_⟩
      by_cases e : S = 2 ^ n - 1 - m
      · subst e
        have : ¬ pc (2 ^ n - 1 - m) ≤ pc (nl_b H n m) := fun q => c ⟨q, h3⟩
        omega
      · exact a5 S (by omega) h2 h3
theorem nl_bb (g : gH H n h) : nl_best H n (nl_b H n (2 ^ n)) := by
  obtain ⟨a1, a2, -, -, a5⟩ := nl_inv g (2 ^ n) (Nat.le_refl _)
  exact ⟨a1, a2, fun S h1 h2 => a5 S (by omega) h1 h2⟩
theorem l_M_nails (g : gH H n h) (r : RM M H) : ∀ k m, m + k = 2 ^ n →
    q_g 127 none Q 10 [some (.ref 30), some (.int (nI (nl_b H n m))), some (.int (nI k + (-1)))] [] M = Q (some (.int (nI (nl_b H n (2 ^ n))))) M := by
  have h2 := two_pow_le g.1
  have hp := Nat.two_pow_pos n
  intro k
  induction k with
  | zero =>
    intro m hm
    have : m = 2 ^ n := by omega
    subst this
    have h1 : nI 0 + (-1) < 0 := by decide
    rw [gM_nails_10]
    simp only [gM_nails_0, gM_nails_1, gM_nails_4, gM_nails_5, gM_nails_6, gM_nails_9, gM_nails_11, gM_nails_14, gM_nails_15, gM_nails_18, gM_nails_19, gM_nails_22, gM_nails_25, gM_nails_26, gM_nails_27, gM_nails_28, gM_nails_31, gM_nails_32, gM_nails_35, gM_nails_38, gM_nails_39, gM_nails_40, gM_nails_43, gM_nails_46, gM_nails_47, ↓reduceIte, Bool.false_eq_true, Bool.true_eq_false, qk_i, qk_r, qk_n, Option.toList_some, Option.toList_none, List.cons_append, List.nil_append, true_and, and_true, true_or, or_true, eq_self, if_true, if_false, q_b1, q_b2, c_A, c_R, c_O, c_M, c_H1, c_H8, c_H15, h1]
  | succ k ih =>
    intro m hm
    have h1 : ¬ nI k < 0 := nI_pos (by omega)
    have ek : 2 ^ n - 1 - m = k := by omega
    have hb := (nl_inv g m (by omega)).2.1
    have ih1 := ih (m + 1) (by omega)
    have eP : (nI (rN H n k) = nI (2 ^ n - 1)) = (nl_P H n k = true) := by
      rw [nI_inj (rN_lt g (by omega)) (by omega)]
      unfold nl_P
      rw [decide_eq_true_eq]
    have p1 : s_bitsN (nI k) 31 = nI (pc k) := bits_pc (by omega)
    have p2 : s_bitsN (nI (nl_b H n m)) 31 = nI (pc (nl_b H n m)) := bits_pc (by omega)
    have l1 := @pc_31 k
    have l2 := @pc_31 (nl_b H n m)
    rw [nl_b_s, ek] at ih1
    rw [dec_nI, gM_nails_10]
    simp only [gM_nails_0, gM_nails_1, gM_nails_4, gM_nails_5, gM_nails_6, gM_nails_9, gM_nails_11, gM_nails_14, gM_nails_15, gM_nails_18, gM_nails_19, gM_nails_22, gM_nails_25, gM_nails_26, gM_nails_27, gM_nails_28, gM_nails_31, gM_nails_32, gM_nails_35, gM_nails_38, gM_nails_39, gM_nails_40, gM_nails_43, gM_nails_46, gM_nails_47, ↓reduceIte, Bool.false_eq_true, Bool.true_eq_false, qk_i, qk_r, qk_n, Option.toList_some, Option.toList_none, List.cons_append, List.nil_append, true_and, and_true, true_or, or_true, eq_self, if_true, if_false, q_b1, q_b2, c_A, c_R, c_O, c_M, c_H1, c_H8, c_H15, h1, x_M_bits, p1, p2, y_M_reach0 g r (show k < 1024 by omega), y_M_whole g r, eP]
    by_cases c : pc k ≤ pc (nl_b H n m)
    · have c' : ¬ nI (pc (nl_b H n m)) < nI (pc k) := nI_nlt c (by omega)
      simp only [c', n1z', ↓reduceIte, if_true, if_false, eq_self, not_true, not_false_eq_true, not_true_eq_false, Bool.true_eq_false, Bool.false_eq_true, Bool.not_false, Bool.not_true, Bool.and_true, Bool.and_false, Bool.true_and, Bool.false_and]
      by_cases e : nl_P H n k = true
      · rw [if_pos ⟨c, e⟩] at ih1
        simp only [e, n1z', ↓reduceIte, if_true, if_false, eq_self, not_true, not_false_eq_true, not_true_eq_false, Bool.true_eq_false, Bool.false_eq_true, Bool.not_false, Bool.not_true, Bool.and_true, Bool.and_false, Bool.true_and, Bool.false_and]
        exact ih1
      · rw [if_neg (fun q => e q.2)] at ih1
        simp only [e, n1z', ↓reduceIte, if_true, if_false, eq_self, not_true, not_false_eq_true, not_true_eq_false, Bool.true_eq_false, Bool.false_eq_true, Bool.not_false, Bool.not_true, Bool.and_true, Bool.and_false, Bool.true_and, Bool.false_and]
        exact ih1
    · have c' : nI (pc (nl_b H n m)) < nI (pc k) := nI_lt (by omega) (by omega)
      rw [if_neg (fun q => c q.1)] at ih1
      simp only [c', n1z', ↓reduceIte, if_true, if_false, eq_self, not_true, not_false_eq_true, not_true_eq_false, Bool.true_eq_false, Bool.false_eq_true, Bool.not_false, Bool.not_true, Bool.and_true, Bool.and_false, Bool.true_and, Bool.false_and]
      exact ih1
theorem y_M_nails0 (g : gH H n h) (r : RM M H) : q_Run 127 [.ref 30] M Q = Q (some (.int (nI (nl_b H n (2 ^ n))))) M := by
  have hp := Nat.two_pow_pos n
  have e1 : nI (2 ^ n - 1) = nI (2 ^ n) + (-1) := by
    have := dec_nI (2 ^ n - 1)
    rw [Nat.sub_add_cancel hp] at this
    exact this.symm
  have hl := l_M_nails (Q := Q) g r (2 ^ n) 0 (by omega)
  rw [← e1] at hl
  rw [e_M_nails]
  simp only [gM_nails_0, gM_nails_1, gM_nails_4, gM_nails_5, gM_nails_6, gM_nails_9, gM_nails_11, gM_nails_14, gM_nails_15, gM_nails_18, gM_nails_19, gM_nails_22, gM_nails_25, gM_nails_26, gM_nails_27, gM_nails_28, gM_nails_31, gM_nails_32, gM_nails_35, gM_nails_38, gM_nails_39, gM_nails_40, gM_nails_43, gM_nails_46, gM_nails_47, ↓reduceIte, Bool.false_eq_true, Bool.true_eq_false, qk_i, qk_r, qk_n, Option.toList_some, Option.toList_none, List.cons_append, List.nil_append, true_and, and_true, true_or, or_true, eq_self, if_true, if_false, q_b1, q_b2, c_A, c_R, c_O, c_M, c_H1, c_H8, c_H15, y_M_whole g r]
  exact hl
theorem y_M_nails (g : gH H n h) (r : RM M H) (hQ : ∀ M', eqx Sm M M' → Q (some (.int (nI (nl_b H n (2 ^ n))))) M') : q_Run 127 [.ref 30] M Q := by
  rw [y_M_nails0 g r]
  exact hQ _ eqx.rf
theorem l_A_nail2 {j : Nat} (g : gH H n h) (r : RC 1 M H) (hj : j < n) (hinv : ∀ S, S < 2 ^ n - 1 → nl_P H n S = true → j ≤ pc S) (hQ : ∀ R, nl_best H n R → Q (some (.int (nI R))) M)
    (hc : (∀ S, S < 2 ^ n - 1 → nl_P H n S = true → j + 1 ≤ pc S) → ∀ o : Int32, q_g 46 none Q 47 [some (.ref 1), some (.int (nI (2 ^ n - 1))), some (.int (nI j)), some (.int o)] [] M) : ∀ k i, i + k = 2 ^ n - 1 → (∀ S, S < i → nl_P H n S = true → j + 1 ≤ pc S) →
    q_g 46 none Q 17 [some (.ref 1), some (.int (nI (2 ^ n - 1))), some (.int (nI j)), some (.int (nI i))] [] M := by
  have h10 := g.1
  have h2 := two_pow_le h10
  have hp := Nat.two_pow_pos n
  intro k
  induction k with
  | zero =>
    intro i hi hs
    have : i = 2 ^ n - 1 := by omega
    subst this
    rw [gS_fewestNails_17]
    simp only [gS_fewestNails_0, gS_fewestNails_1, gS_fewestNails_4, gS_fewestNails_5, gS_fewestNails_6, gS_fewestNails_7, gS_fewestNails_8, gS_fewestNails_9, gS_fewestNails_12, gS_fewestNails_15, gS_fewestNails_16, gS_fewestNails_18, gS_fewestNails_19, gS_fewestNails_22, gS_fewestNails_23, gS_fewestNails_26, gS_fewestNails_27, gS_fewestNails_30, gS_fewestNails_31, gS_fewestNails_32, gS_fewestNails_35, gS_fewestNails_36, gS_fewestNails_39, gS_fewestNails_40, gS_fewestNails_41, gS_fewestNails_44, gS_fewestNails_50, gS_fewestNails_53, gS_fewestNails_54, ↓reduceIte, Bool.false_eq_true, Bool.true_eq_false, qk_i, qk_r, qk_n, Option.toList_some, Option.toList_none, List.cons_append, List.nil_append, true_and, and_true, true_or, or_true, eq_self, if_true, if_false, q_b1, q_b2, c_A, c_R, c_O, c_M, c_H1, c_H8, c_H15, Int32.le_refl]
    exact hc hs _
  | succ k ih =>
    intro i hi hs
    have h1 : ¬ nI (2 ^ n - 1) ≤ nI i := nI_ge (by omega) (by omega)
    have p1 : s_bc (nI i) = nI (pc i) := bc_pc (by omega)
    have eP : (nI (rN H n i) = nI (2 ^ n - 1)) = (nl_P H n i = true) := by
      rw [nI_inj (rN_lt g (by omega)) (by omega)]
      unfold nl_P
      rw [decide_eq_true_eq]
    have ep : (nI (pc i) = nI j) = (pc i = j) := nI_inj (by have := @pc_31 i; omega) (by omega)
    rw [gS_fewestNails_17]
    simp only [gS_fewestNails_0, gS_fewestNails_1, gS_fewestNails_4, gS_fewestNails_5, gS_fewestNails_6, gS_fewestNails_7, gS_fewestNails_8, gS_fewestNails_9, gS_fewestNails_12, gS_fewestNails_15, gS_fewestNails_16, gS_fewestNails_18, gS_fewestNails_19, gS_fewestNails_22, gS_fewestNails_23, gS_fewestNails_26, gS_fewestNails_27, gS_fewestNails_30, gS_fewestNails_31, gS_fewestNails_32, gS_fewestNails_35, gS_fewestNails_36, gS_fewestNails_39, gS_fewestNails_40, gS_fewestNails_41, gS_fewestNails_44, gS_fewestNails_50, gS_fewestNails_53, gS_fewestNails_54, ↓reduceIte, Bool.false_eq_true, Bool.true_eq_false, qk_i, qk_r, qk_n, Option.toList_some, Option.toList_none, List.cons_append, List.nil_append, true_and, and_true, true_or, or_true, eq_self, if_true, if_false, q_b1, q_b2, c_A, c_R, c_O, c_M, c_H1, c_H8, c_H15, h1, x_I_bitCount, p1, ep, y_H_reachFrom g r, eP, nI_1]
    by_cases c : pc i = j
    · by_cases e : nl_P H n i = true
      · simp only [c, e, n1z', ↓reduceIte, if_true, if_false, eq_self, not_true, not_false_eq_true, not_true_eq_false, Bool.true_eq_false, Bool.false_eq_true, Bool.not_false, Bool.not_true, Bool.and_true, Bool.and_false, Bool.true_and, Bool.false_and]
        refine hQ i ⟨e, by omega, fun S h3 h4 => ?_⟩
        by_cases eS : S = 2 ^ n - 1
        · rw [eS, pc_all n h10]
          omega
        · have := hinv S (by omega) h4
          by_cases hlt : S < i
          · have := hs S hlt h4
            omega
          · omega
      · simp only [c, e, n1z', ↓reduceIte, if_true, if_false, eq_self, not_true, not_false_eq_true, not_true_eq_false, Bool.true_eq_false, Bool.false_eq_true, Bool.not_false, Bool.not_true, Bool.and_true, Bool.and_false, Bool.true_and, Bool.false_and]
        refine ih (i + 1) (by omega) (fun S h3 h4 => ?_)
        by_cases eS : S = i
        · rw [eS] at h4
          exact absurd h4 e
        · exact hs S (by omega) h4
    · simp only [c, n1z', ↓reduceIte, if_true, if_false, eq_self, not_true, not_false_eq_true, not_true_eq_false, Bool.true_eq_false, Bool.false_eq_true, Bool.not_false, Bool.not_true, Bool.and_true, Bool.and_false, Bool.true_and, Bool.false_and]
      refine ih (i + 1) (by omega) (fun S h3 h4 => ?_)
      by_cases eS : S = i
      · subst eS
        have := hinv S (by omega) h4
        omega
      · exact hs S (by omega) h4
theorem l_A_nail (g : gH H n h) (r : RC 1 M H) (hQ : ∀ R, nl_best H n R → Q (some (.int (nI R))) M) : ∀ k j, j + k = n → (∀ S, S < 2 ^ n - 1 → nl_P H n S = true → j ≤ pc S) → ∀ o3 : Option Value,
    q_g 46 none Q 7 [some (.ref 1), some (.int (nI (2 ^ n - 1))), some (.int (nI j)), o3] [] M := by
  have h10 := g.1
  have h2 := two_pow_le h10
  have e6 := e6_of g r
  intro k
  induction k with
  | zero =>
    intro j hj hinv o3
    have : j = n := by omega
    subst this
    rw [gS_fewestNails_7]
    simp only [gS_fewestNails_0, gS_fewestNails_1, gS_fewestNails_4, gS_fewestNails_5, gS_fewestNails_6, gS_fewestNails_8, gS_fewestNails_9, gS_fewestNails_12, gS_fewestNails_15, gS_fewestNails_16, gS_fewestNails_17, gS_fewestNails_18, gS_fewestNails_19, gS_fewestNails_22, gS_fewestNails_23, gS_fewestNails_26, gS_fewestNails_27, gS_fewestNails_30, gS_fewestNails_31, gS_fewestNails_32, gS_fewestNails_35, gS_fewestNails_36, gS_fewestNails_39, gS_fewestNails_40, gS_fewestNails_41, gS_fewestNails_44, gS_fewestNails_47, gS_fewestNails_50, gS_fewestNails_53, gS_fewestNails_54, ↓reduceIte, Bool.false_eq_true, Bool.true_eq_false, qk_i, qk_r, qk_n, Option.toList_some, Option.toList_none, List.cons_append, List.nil_append, true_and, and_true, true_or, or_true, eq_self, if_true, if_false, q_b1, q_b2, c_A, c_R, c_O, c_M, c_H1, c_H8, c_H15, e6, Int32.le_refl]
    refine hQ _ ⟨nl_all g, Nat.le_refl _, fun S h3 h4 => ?_⟩
    by_cases eS : S = 2 ^ j - 1
    · rw [eS]
      exact Or.inr ⟨rfl, Nat.le_refl _⟩
    · have := hinv S (by omega) h4
      have := pc_less j h10 S (by omega)
      omega
  | succ k ih =>
    intro j hj hinv o3
    have h1 : ¬ nI n ≤ nI j := nI_ge (by omega) (by omega)
    rw [gS_fewestNails_7]
    simp only [gS_fewestNails_0, gS_fewestNails_1, gS_fewestNails_4, gS_fewestNails_5, gS_fewestNails_6, gS_fewestNails_8, gS_fewestNails_9, gS_fewestNails_12, gS_fewestNails_15, gS_fewestNails_16, gS_fewestNails_18, gS_fewestNails_19, gS_fewestNails_22, gS_fewestNails_23, gS_fewestNails_26, gS_fewestNails_27, gS_fewestNails_30, gS_fewestNails_31, gS_fewestNails_32, gS_fewestNails_35, gS_fewestNails_36, gS_fewestNails_39, gS_fewestNails_40, gS_fewestNails_41, gS_fewestNails_44, gS_fewestNails_47, gS_fewestNails_50, gS_fewestNails_53, gS_fewestNails_54, ↓reduceIte, Bool.false_eq_true, Bool.true_eq_false, qk_i, qk_r, qk_n, Option.toList_some, Option.toList_none, List.cons_append, List.nil_append, true_and, and_true, true_or, or_true, eq_self, if_true, if_false, q_b1, q_b2, c_A, c_R, c_O, c_M, c_H1, c_H8, c_H15, e6, h1]
    refine l_A_nail2 g r (show j < n by omega) hinv hQ (fun hs o => ?_) (2 ^ n - 1) 0 (by omega) (fun S h3 _ => absurd h3 (by omega))
    simp only [gS_fewestNails_0, gS_fewestNails_1, gS_fewestNails_4, gS_fewestNails_5, gS_fewestNails_6, gS_fewestNails_8, gS_fewestNails_9, gS_fewestNails_12, gS_fewestNails_15, gS_fewestNails_16, gS_fewestNails_17, gS_fewestNails_18, gS_fewestNails_19, gS_fewestNails_22, gS_fewestNails_23, gS_fewestNails_26, gS_fewestNails_27, gS_fewestNails_30, gS_fewestNails_31, gS_fewestNails_32, gS_fewestNails_35, gS_fewestNails_36, gS_fewestNails_39, gS_fewestNails_40, gS_fewestNails_41, gS_fewestNails_44, gS_fewestNails_47, gS_fewestNails_50, gS_fewestNails_53, gS_fewestNails_54, ↓reduceIte, Bool.false_eq_true, Bool.true_eq_false, qk_i, qk_r, qk_n, Option.toList_some, Option.toList_none, List.cons_append, List.nil_append, true_and, and_true, true_or, or_true, eq_self, if_true, if_false, q_b1, q_b2, c_A, c_R, c_O, c_M, c_H1, c_H8, c_H15, nI_1]
    exact ih (j + 1) (by omega) hs _
theorem y_A_nails (g : gH H n h) (r : RC 1 M H) (hQ : ∀ M', eqx Sq M M' → Q (some (.int (nI (nl_b H n (2 ^ n))))) M') : q_Run 74 [.ref 0] M Q := by
  rw [e_A_nails]
  simp only [gA_nails_0, gA_nails_1, gA_nails_4, gA_nails_7, ↓reduceIte, Bool.false_eq_true, Bool.true_eq_false, qk_i, qk_r, qk_n, Option.toList_some, Option.toList_none, List.cons_append, List.nil_append, true_and, and_true, true_or, or_true, eq_self, if_true, if_false, q_b1, q_b2, c_A, c_R, c_O, c_M, c_H1, c_H8, c_H15, rf_A0]
  rw [e_S_fewestNails]
  simp only [gS_fewestNails_0, gS_fewestNails_1, gS_fewestNails_4, gS_fewestNails_5, gS_fewestNails_6, gS_fewestNails_8, gS_fewestNails_9, gS_fewestNails_12, gS_fewestNails_15, gS_fewestNails_16, gS_fewestNails_17, gS_fewestNails_18, gS_fewestNails_19, gS_fewestNails_22, gS_fewestNails_23, gS_fewestNails_26, gS_fewestNails_27, gS_fewestNails_30, gS_fewestNails_31, gS_fewestNails_32, gS_fewestNails_35, gS_fewestNails_36, gS_fewestNails_39, gS_fewestNails_40, gS_fewestNails_41, gS_fewestNails_44, gS_fewestNails_47, gS_fewestNails_50, gS_fewestNails_53, gS_fewestNails_54, ↓reduceIte, Bool.false_eq_true, Bool.true_eq_false, qk_i, qk_r, qk_n, Option.toList_some, Option.toList_none, List.cons_append, List.nil_append, true_and, and_true, true_or, or_true, eq_self, if_true, if_false, q_b1, q_b2, c_A, c_R, c_O, c_M, c_H1, c_H8, c_H15, y_H_everything g r]
  refine l_A_nail g r (fun R hR => ?_) n 0 (by omega) (fun _ _ _ => Nat.zero_le _) _
  simp only [gA_nails_0, gA_nails_1, gA_nails_4, gA_nails_7, ↓reduceIte, Bool.false_eq_true, Bool.true_eq_false, qk_i, qk_r, qk_n, Option.toList_some, Option.toList_none, List.cons_append, List.nil_append, true_and, and_true, true_or, or_true, eq_self, if_true, if_false, q_b1, q_b2, c_A, c_R, c_O, c_M, c_H1, c_H8, c_H15]
  rw [nl_uni hR (nl_bb g)]
  exact hQ _ eqx.rf
end NAILS
