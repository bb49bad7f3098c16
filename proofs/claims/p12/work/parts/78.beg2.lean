/-! BEG: both sides' best -/
section BEG2
variable {Q : q_R} {M H : q_M} {n h : Nat} {a : Int32}
def bg_P (H : q_M) (n h S : Nat) : Bool := decide (rN H n (h ||| S) = 2 ^ n - 1)
def bg_best (H : q_M) (n h R : Nat) : Prop := bg_P H n h R = true ∧ R ≤ 2 ^ n - 1 ∧ ∀ S, S ≤ 2 ^ n - 1 → bg_P H n h S = true → co H R n < co H S n ∨ co H R n = co H S n ∧ R ≤ S
theorem bg_uni {R R' : Nat} (h1 : bg_best H n h R) (h2 : bg_best H n h R') : R = R' := by
  have a := h1.2.2 R' h2.2.1 h2.1
  have b := h2.2.2 R h1.2.1 h1.1
  omega
theorem or_ltn {x y m : Nat} (hx : x < 2 ^ m) (hy : y < 2 ^ m) : x ||| y < 2 ^ m := Nat.or_lt_two_pow hx hy
theorem bg_all (g : gH H n h) : bg_P H n h (2 ^ n - 1) = true := by
  have hp := Nat.two_pow_pos n
  unfold bg_P
  rw [decide_eq_true_eq]
  refine all_of g (rN_ltn g (or_ltn g.2.2.2.1 (by omega))) fun i hi => rN_sup ?_
  rw [Nat.testBit_or, tb_all, decide_eq_true hi, Bool.or_true]
def bg_b (H : q_M) (n h : Nat) : Nat → Nat
  | 0 => 2 ^ n - 1
  | m + 1 => if co H (2 ^ n - 1 - m) n ≤ co H (bg_b H n h m) n ∧ bg_P H n h (2 ^ n - 1 - m) = true then 2 ^ n - 1 - m else bg_b H n h m
theorem bg_b_s (H : q_M) (n h m : Nat) : bg_b H n h (m + 1) = if co H (2 ^ n - 1 - m) n ≤ co H (bg_b H n h m) n ∧ bg_P H n h (2 ^ n - 1 - m) = true then 2 ^ n - 1 - m else bg_b H n h m := rfl
theorem bg_inv (g : gH H n h) : ∀ m, m ≤ 2 ^ n → bg_P H n h (bg_b H n h m) = true ∧ bg_b H n h m ≤ 2 ^ n - 1 ∧ 2 ^ n ≤ bg_b H n h m + m + 1 ∧ (m = 0 → bg_b H n h m = 2 ^ n - 1) ∧ ∀ S, 2 ^ n ≤ S + m → S ≤ 2 ^ n - 1 → bg_P H n h S = true → co H (bg_b H n h m) n < co H S n ∨ co H (bg_b H n h m) n = co H S n ∧ bg_b H n h m ≤ S
  | 0, _ => by
    have hp := Nat.two_pow_pos n
    refine ⟨bg_all g, Nat.le_refl _, ?_, fun _ => rfl, fun S h1 h2 _ => ?_⟩
    · show 2 ^ n ≤ 2 ^ n - 1 + 0 + 1
      omega
    · omega
  | m + 1, hm => by
    have hp := Nat.two_pow_pos n
    obtain ⟨a1, a2, a3, a4, a5⟩ := bg_inv g m (by omega)
    rw [bg_b_s]
    by_cases c : co H (2 ^ n - 1 - m) n ≤ co H (bg_b H n h m) n ∧ bg_P H n h (2 ^ n - 1 - m) = true
    · rw [if_pos c]
      refine ⟨c.2, by omega, by omega, fun q => by omega, fun S h1 h2 h3 => ?_⟩
      by_cases e : S = 2 ^ n - 1 - m
      · subst e
        exact Or.inr ⟨rfl, Nat.le_refl _⟩
      · have := a5 S (by omega) h2 h3
        omega
    · rw [if_neg c]
      refine ⟨a1, a2, by omega, fun q => by omega, fun S h1 h2 h3 => ?_⟩
      by_cases e : S = 2 ^ n - 1 - m
      · subst e
        have : ¬ co H (2 ^ n - 1 - m) n ≤ co H (bg_b H n h m) n := fun q => c ⟨q, h3⟩
        omega
      · exact a5 S (by omega) h2 h3
theorem bg_bb (g : gH H n h) : bg_best H n h (bg_b H n h (2 ^ n)) := by
  obtain ⟨a1, a2, -, -, a5⟩ := bg_inv g (2 ^ n) (Nat.le_refl _)
  exact ⟨a1, a2, fun S h1 h2 => a5 S (by omega) h1 h2⟩
def an_beg (H : q_M) (n h : Nat) (a : Int32) : Int32 := if b_noPart a = true then -2 else if a = 0 then nI (co H (bg_b H n h (2 ^ n)) n) else nI (bg_b H n h (2 ^ n))
theorem l_M_beg (g : gH H n h) (r : RM M H) : ∀ k m, m + k = 2 ^ n →
    q_g 94 none Q 26 [some (.ref 30), some (.int a), some (.int (nI (bg_b H n h m))), some (.int (nI k + (-1)))] [] M = q_g 94 none Q 69 [some (.ref 30), some (.int a), some (.int (nI (bg_b H n h (2 ^ n)))), some (.int (-1))] [] M := by
  have h2 := two_pow_le g.1
  have hp := Nat.two_pow_pos n
  intro k
  induction k with
  | zero =>
    intro m hm
    have : m = 2 ^ n := by omega
    subst this
    have h1 : (-1 : Int32) < 0 := by decide
    have e1 : nI 0 + (-1) = -1 := by decide
    rw [e1, gM_beg_26]
    simp only [gM_beg_0, gM_beg_1, gM_beg_2, gM_beg_3, gM_beg_6, gM_beg_9, gM_beg_10, gM_beg_12, gM_beg_15, gM_beg_16, gM_beg_17, gM_beg_20, gM_beg_21, gM_beg_22, gM_beg_25, gM_beg_27, gM_beg_30, gM_beg_31, gM_beg_32, gM_beg_35, gM_beg_36, gM_beg_37, gM_beg_40, gM_beg_43, gM_beg_44, gM_beg_45, gM_beg_48, gM_beg_49, gM_beg_50, gM_beg_51, gM_beg_54, gM_beg_55, gM_beg_58, gM_beg_61, gM_beg_62, gM_beg_63, gM_beg_66, gM_beg_70, gM_beg_73, gM_beg_74, gM_beg_75, gM_beg_78, gM_beg_81, gM_beg_82, ↓reduceIte, Bool.false_eq_true, Bool.true_eq_false, qk_i, qk_r, qk_n, Option.toList_some, Option.toList_none, List.cons_append, List.nil_append, true_and, and_true, true_or, or_true, eq_self, if_true, if_false, q_b1, q_b2, c_A, c_R, c_O, c_M, c_H1, c_H8, c_H15, h1]
  | succ k ih =>
    intro m hm
    have h1 : ¬ nI k < 0 := nI_pos (by omega)
    have ek : 2 ^ n - 1 - m = k := by omega
    have hb := (bg_inv g m (by omega)).2.1
    have ih1 := ih (m + 1) (by omega)
    have hk : h ||| k < 1024 := Nat.or_lt_two_pow (n := 10) g.hlt (by omega)
    have eP : (nI (rN H n (h ||| k)) = nI (2 ^ n - 1)) = (bg_P H n h k = true) := by
      rw [nI_inj (rN_lt g hk) (by omega)]
      unfold bg_P
      rw [decide_eq_true_eq]
    have l1 := co_le g (s := k) n (Nat.le_refl _)
    have l2 := co_le g (s := bg_b H n h m) n (Nat.le_refl _)
    have h10 := g.1
    rw [bg_b_s, ek] at ih1
    rw [dec_nI, gM_beg_26]
    simp only [gM_beg_0, gM_beg_1, gM_beg_2, gM_beg_3, gM_beg_6, gM_beg_9, gM_beg_10, gM_beg_12, gM_beg_15, gM_beg_16, gM_beg_17, gM_beg_20, gM_beg_21, gM_beg_22, gM_beg_25, gM_beg_27, gM_beg_30, gM_beg_31, gM_beg_32, gM_beg_35, gM_beg_36, gM_beg_37, gM_beg_40, gM_beg_43, gM_beg_44, gM_beg_45, gM_beg_48, gM_beg_49, gM_beg_50, gM_beg_51, gM_beg_54, gM_beg_55, gM_beg_58, gM_beg_61, gM_beg_62, gM_beg_63, gM_beg_66, gM_beg_70, gM_beg_73, gM_beg_74, gM_beg_75, gM_beg_78, gM_beg_81, gM_beg_82, ↓reduceIte, Bool.false_eq_true, Bool.true_eq_false, qk_i, qk_r, qk_n, Option.toList_some, Option.toList_none, List.cons_append, List.nil_append, true_and, and_true, true_or, or_true, eq_self, if_true, if_false, q_b1, q_b2, c_A, c_R, c_O, c_M, c_H1, c_H8, c_H15, h1, y_M_cost g r (show k < 1024 by omega), y_M_cost g r (show bg_b H n h m < 1024 by omega), (g.vm r).2.2.1, or_nI, y_M_reach0 g r hk, y_M_whole g r, eP]
    by_cases c : co H k n ≤ co H (bg_b H n h m) n
    · have c' : ¬ nI (co H (bg_b H n h m) n) < nI (co H k n) := nI_nlt c (by omega)
      simp only [c', n1z', ↓reduceIte, if_true, if_false, eq_self, not_true, not_false_eq_true, not_true_eq_false, Bool.true_eq_false, Bool.false_eq_true, Bool.not_false, Bool.not_true, Bool.and_true, Bool.and_false, Bool.true_and, Bool.false_and]
      by_cases e : bg_P H n h k = true
      · rw [if_pos ⟨c, e⟩] at ih1
        simp only [e, n1z', ↓reduceIte, if_true, if_false, eq_self, not_true, not_false_eq_true, not_true_eq_false, Bool.true_eq_false, Bool.false_eq_true, Bool.not_false, Bool.not_true, Bool.and_true, Bool.and_false, Bool.true_and, Bool.false_and]
        exact ih1
      · rw [if_neg (fun q => e q.2)] at ih1
        simp only [e, n1z', ↓reduceIte, if_true, if_false, eq_self, not_true, not_false_eq_true, not_true_eq_false, Bool.true_eq_false, Bool.false_eq_true, Bool.not_false, Bool.not_true, Bool.and_true, Bool.and_false, Bool.true_and, Bool.false_and]
        exact ih1
    · have c' : nI (co H (bg_b H n h m) n) < nI (co H k n) := nI_lt (by omega) (by omega)
      rw [if_neg (fun q => c q.1)] at ih1
      simp only [c', n1z', ↓reduceIte, if_true, if_false, eq_self, not_true, not_false_eq_true, not_true_eq_false, Bool.true_eq_false, Bool.false_eq_true, Bool.not_false, Bool.not_true, Bool.and_true, Bool.and_false, Bool.true_and, Bool.false_and]
      exact ih1
theorem y_M_beg (g : gH H n h) (r : RM M H) (hQ : ∀ M', eqx Sm M M' → Q (some (.int (an_beg H n h a))) M') : q_Run 94 [.ref 30, .int a] M Q := by
  have h2 := two_pow_le g.1
  have hp := Nat.two_pow_pos n
  have e1 : nI (2 ^ n - 1) = nI (2 ^ n) + (-1) := by
    have := dec_nI (2 ^ n - 1)
    rw [Nat.sub_add_cancel hp] at this
    exact this.symm
  have hl := l_M_beg (Q := Q) (a := a) g r (2 ^ n) 0 (by omega)
  rw [← e1] at hl
  have hb := (bg_bb g).2.1
  unfold an_beg at hQ
  rw [noPart_in] at hQ
  rw [e_M_beg]
  simp only [gM_beg_0, gM_beg_1, gM_beg_2, gM_beg_3, gM_beg_6, gM_beg_9, gM_beg_10, gM_beg_12, gM_beg_15, gM_beg_16, gM_beg_17, gM_beg_20, gM_beg_21, gM_beg_22, gM_beg_25, gM_beg_27, gM_beg_30, gM_beg_31, gM_beg_32, gM_beg_35, gM_beg_36, gM_beg_37, gM_beg_40, gM_beg_43, gM_beg_44, gM_beg_45, gM_beg_48, gM_beg_49, gM_beg_50, gM_beg_51, gM_beg_54, gM_beg_55, gM_beg_58, gM_beg_61, gM_beg_62, gM_beg_63, gM_beg_66, gM_beg_70, gM_beg_73, gM_beg_74, gM_beg_75, gM_beg_78, gM_beg_81, gM_beg_82, ↓reduceIte, Bool.false_eq_true, Bool.true_eq_false, qk_i, qk_r, qk_n, Option.toList_some, Option.toList_none, List.cons_append, List.nil_append, true_and, and_true, true_or, or_true, eq_self, if_true, if_false, q_b1, q_b2, c_A, c_R, c_O, c_M, c_H1, c_H8, c_H15, x_M_isIn, q_z0, x_M_no no_2, y_M_whole g r]
  cases h1 : b_in a 0 1
  · rw [h1, if_pos (by decide)] at hQ
    simp only [n1z', ↓reduceIte, if_true, if_false, eq_self, not_true, not_false_eq_true, not_true_eq_false, Bool.true_eq_false, Bool.false_eq_true, Bool.not_false, Bool.not_true, Bool.and_true, Bool.and_false, Bool.true_and, Bool.false_and]
    exact hQ _ eqm_no
  · rw [h1, if_neg (by decide)] at hQ
    simp only [n1z', ↓reduceIte, if_true, if_false, eq_self, not_true, not_false_eq_true, not_true_eq_false, Bool.true_eq_false, Bool.false_eq_true, Bool.not_false, Bool.not_true, Bool.and_true, Bool.and_false, Bool.true_and, Bool.false_and]
    refine Eq.mpr hl ?_
    by_cases h0 : a = 0
    · rw [if_pos h0] at hQ
      simp only [gM_beg_0, gM_beg_1, gM_beg_2, gM_beg_3, gM_beg_6, gM_beg_9, gM_beg_10, gM_beg_12, gM_beg_15, gM_beg_16, gM_beg_17, gM_beg_20, gM_beg_21, gM_beg_22, gM_beg_25, gM_beg_27, gM_beg_30, gM_beg_31, gM_beg_32, gM_beg_35, gM_beg_36, gM_beg_37, gM_beg_40, gM_beg_43, gM_beg_44, gM_beg_45, gM_beg_48, gM_beg_49, gM_beg_50, gM_beg_51, gM_beg_54, gM_beg_55, gM_beg_58, gM_beg_61, gM_beg_62, gM_beg_63, gM_beg_66, gM_beg_69, gM_beg_70, gM_beg_73, gM_beg_74, gM_beg_75, gM_beg_78, gM_beg_81, gM_beg_82, ↓reduceIte, Bool.false_eq_true, Bool.true_eq_false, qk_i, qk_r, qk_n, Option.toList_some, Option.toList_none, List.cons_append, List.nil_append, true_and, and_true, true_or, or_true, eq_self, if_true, if_false, q_b1, q_b2, c_A, c_R, c_O, c_M, c_H1, c_H8, c_H15, h0, n1z', ↓reduceIte, if_true, if_false, eq_self, not_true, not_false_eq_true, not_true_eq_false, Bool.true_eq_false, Bool.false_eq_true, Bool.not_false, Bool.not_true, Bool.and_true, Bool.and_false, Bool.true_and, Bool.false_and, y_M_cost g r (show bg_b H n h (2 ^ n) < 1024 by omega)]
      exact hQ _ eqx.rf
    · rw [if_neg h0] at hQ
      simp only [gM_beg_0, gM_beg_1, gM_beg_2, gM_beg_3, gM_beg_6, gM_beg_9, gM_beg_10, gM_beg_12, gM_beg_15, gM_beg_16, gM_beg_17, gM_beg_20, gM_beg_21, gM_beg_22, gM_beg_25, gM_beg_27, gM_beg_30, gM_beg_31, gM_beg_32, gM_beg_35, gM_beg_36, gM_beg_37, gM_beg_40, gM_beg_43, gM_beg_44, gM_beg_45, gM_beg_48, gM_beg_49, gM_beg_50, gM_beg_51, gM_beg_54, gM_beg_55, gM_beg_58, gM_beg_61, gM_beg_62, gM_beg_63, gM_beg_66, gM_beg_69, gM_beg_70, gM_beg_73, gM_beg_74, gM_beg_75, gM_beg_78, gM_beg_81, gM_beg_82, ↓reduceIte, Bool.false_eq_true, Bool.true_eq_false, qk_i, qk_r, qk_n, Option.toList_some, Option.toList_none, List.cons_append, List.nil_append, true_and, and_true, true_or, or_true, eq_self, if_true, if_false, q_b1, q_b2, c_A, c_R, c_O, c_M, c_H1, c_H8, c_H15, h0, n1z', ↓reduceIte, if_true, if_false, eq_self, not_true, not_false_eq_true, not_true_eq_false, Bool.true_eq_false, Bool.false_eq_true, Bool.not_false, Bool.not_true, Bool.and_true, Bool.and_false, Bool.true_and, Bool.false_and]
      exact hQ _ eqx.rf
/-! the class looks at what is BARRED alone -/
theorem bg_cut (g : gH H n h) {S : Nat} (hS : S ≤ 2 ^ n - 1) (hP : bg_P H n h S = true) : bg_P H n h (S &&& v_bar H n h) = true := by
  have hp := Nat.two_pow_pos n
  have h2 := two_pow_le g.1
  have hh := g.2.2.2.1
  have hS' : S &&& v_bar H n h < 2 ^ n := Nat.lt_of_le_of_lt Nat.and_le_left (by omega)
  have hs1 : h ||| S < 2 ^ n := or_ltn hh (by omega)
  have hs2 : h ||| (S &&& v_bar H n h) < 2 ^ n := or_ltn hh hS'
  unfold bg_P at hP ⊢
  rw [decide_eq_true_eq] at hP ⊢
  refine all_of g (rN_ltn g hs2) fun i hi => ?_
  have hall : (rN H n (h ||| S)).testBit i = true := by rw [hP, tb_all, decide_eq_true hi]
  refine rN_mono g (s := h ||| S) (by omega) (by omega) (fun t ht => ?_) i hall
  rw [Nat.testBit_or] at ht
  rcases (Bool.or_eq_true _ _).mp ht with q | q
  · exact rN_sup (by rw [Nat.testBit_or, q, Bool.true_or])
  · cases hb : (v_bar H n h).testBit t
    · have htn := tb_ltn (show S < 2 ^ n by omega) q
      unfold v_bar at hb
      rw [dif_tb (by omega), tb_all, decide_eq_true htn] at hb
      have hr : (rN H n h).testBit t = true := by
        cases z : (rN H n h).testBit t
        · rw [z] at hb
          cases hb
        · rfl
      exact rN_mono g (s := h) g.hlt (by omega) (fun u hu => rN_sup (by rw [Nat.testBit_or, hu, Bool.true_or])) t hr
    · exact rN_sup (by rw [Nat.testBit_or, Nat.testBit_and, q, hb]; simp)
theorem dif_0 {x y : Nat} (hx : x < 1024) : dif x y = 0 ↔ x &&& y = x := by
  constructor
  · intro e
    apply Nat.eq_of_testBit_eq
    intro i
    have hb := dif_tb (y := y) hx i
    rw [e, Nat.zero_testBit] at hb
    rw [Nat.testBit_and]
    cases q : x.testBit i
    · rfl
    · rw [q] at hb
      cases z : y.testBit i
      · rw [z] at hb
        cases hb
      · rfl
  · intro e
    apply Nat.eq_of_testBit_eq
    intro i
    rw [dif_tb hx, Nat.zero_testBit, ← e, Nat.testBit_and]
    cases x.testBit i <;> cases y.testBit i <;> rfl
/-- what the class holds behind the sets below i -/
def bg_J (H : q_M) (n h b i : Nat) : Prop := b &&& v_bar H n h = b ∧ bg_P H n h b = true ∧ ∀ S, S &&& v_bar H n h = S → bg_P H n h S = true → (S < i ∨ S = v_bar H n h) → co H b n < co H S n ∨ co H b n = co H S n ∧ b ≤ S
theorem bg_J0 (g : gH H n h) : bg_J H n h (v_bar H n h) 0 := by
  refine ⟨Nat.and_self _, ?_, fun S _ _ hc => ?_⟩
  · have h3 := bg_cut g (Nat.le_refl _) (bg_all g)
    have h2 := two_pow_le g.1
    have hp := Nat.two_pow_pos n
    have e : (2 ^ n - 1) &&& v_bar H n h = v_bar H n h := by
      rw [Nat.and_comm]
      unfold v_bar dif
      rw [Nat.and_assoc, Nat.and_comm (1023 ^^^ rN H n h), ← Nat.and_assoc, Nat.and_self]
    rw [e] at h3
    exact h3
  · rcases hc with q | q
    · omega
    · rw [q]
      exact Or.inr ⟨rfl, Nat.le_refl _⟩
theorem bg_Jend (g : gH H n h) {b : Nat} (J : bg_J H n h b (v_bar H n h)) : bg_best H n h b := by
  have h2 := two_pow_le g.1
  have hp := Nat.two_pow_pos n
  have hbar : v_bar H n h ≤ 2 ^ n - 1 := dif_le
  obtain ⟨j1, j2, j3⟩ := J
  have hb : b ≤ v_bar H n h := by rw [← j1]; exact Nat.and_le_right
  refine ⟨j2, by omega, fun S hS hP => ?_⟩
  have hle : S &&& v_bar H n h ≤ v_bar H n h := Nat.and_le_right
  have h3 := j3 (S &&& v_bar H n h) (by rw [Nat.and_assoc, Nat.and_self]) (bg_cut g hS hP) (by omega)
  have h4 : co H (S &&& v_bar H n h) n ≤ co H S n := co_mono (fun i hi => by
    rw [Nat.testBit_and] at hi
    exact ((Bool.and_eq_true _ _).mp hi).1) n
  have h5 : S &&& v_bar H n h ≤ S := Nat.and_le_left
  omega
theorem l_A_beg (g : gH H n h) (r : RC 1 M H) (hQ : ∀ R, bg_best H n h R → Q (some (.int (nI R))) M) : ∀ k i, i + k = v_bar H n h → ∀ (b : Nat) (o6 o7 : Option Value), bg_J H n h b i →
    q_g 45 none Q 22 [some (.ref 1), some (.int (nI (2 ^ n - 1))), some (.int (nI (v_bar H n h))), some (.int (nI b)), some (.int (nI (co H b n))), some (.int (nI i)), o6, o7] [] M := by
  have h10 := g.1
  have h2 := two_pow_le h10
  have hp := Nat.two_pow_pos n
  have e7 := e7_of g r
  have hbl := bar_lt g
  intro k
  induction k with
  | zero =>
    intro i hi b o6 o7 J
    have : i = v_bar H n h := by omega
    subst this
    rw [gS_cheapestBegged_22]
    simp only [gS_cheapestBegged_0, gS_cheapestBegged_1, gS_cheapestBegged_4, gS_cheapestBegged_5, gS_cheapestBegged_6, gS_cheapestBegged_9, gS_cheapestBegged_10, gS_cheapestBegged_11, gS_cheapestBegged_12, gS_cheapestBegged_13, gS_cheapestBegged_14, gS_cheapestBegged_17, gS_cheapestBegged_19, gS_cheapestBegged_20, gS_cheapestBegged_24, gS_cheapestBegged_25, gS_cheapestBegged_28, gS_cheapestBegged_30, gS_cheapestBegged_31, gS_cheapestBegged_32, gS_cheapestBegged_33, gS_cheapestBegged_34, gS_cheapestBegged_37, gS_cheapestBegged_40, gS_cheapestBegged_41, gS_cheapestBegged_43, gS_cheapestBegged_46, gS_cheapestBegged_48, gS_cheapestBegged_50, gS_cheapestBegged_52, gS_cheapestBegged_55, gS_cheapestBegged_57, gS_cheapestBegged_59, gS_cheapestBegged_62, gS_cheapestBegged_64, gS_cheapestBegged_65, gS_cheapestBegged_68, gS_cheapestBegged_69, gS_cheapestBegged_72, gS_cheapestBegged_73, gS_cheapestBegged_75, gS_cheapestBegged_77, gS_cheapestBegged_80, gS_cheapestBegged_81, gS_cheapestBegged_82, gS_cheapestBegged_85, gS_cheapestBegged_87, gS_cheapestBegged_88, gS_cheapestBegged_91, gS_cheapestBegged_92, gS_cheapestBegged_95, gS_cheapestBegged_97, gS_cheapestBegged_98, gS_cheapestBegged_100, gS_cheapestBegged_102, gS_cheapestBegged_105, gS_cheapestBegged_108, gS_cheapestBegged_109, ↓reduceIte, Bool.false_eq_true, Bool.true_eq_false, qk_i, qk_r, qk_n, Option.toList_some, Option.toList_none, List.cons_append, List.nil_append, true_and, and_true, true_or, or_true, eq_self, if_true, if_false, q_b1, q_b2, c_A, c_R, c_O, c_M, c_H1, c_H8, c_H15, Int32.le_refl]
    exact hQ _ (bg_Jend g J)
  | succ k ih =>
    intro i hi b o6 o7 J
    have hib : i < v_bar H n h := by omega
    have h1 : ¬ nI (v_bar H n h) ≤ nI i := nI_ge hib (by omega)
    have hbb : b ≤ v_bar H n h := by rw [← J.1]; exact Nat.and_le_right
    have e102 : ∀ (b : Nat) (o6 o7 : Option Value), bg_J H n h b (i + 1) → q_g 45 none Q 102 [some (.ref 1), some (.int (nI (2 ^ n - 1))), some (.int (nI (v_bar H n h))), some (.int (nI b)), some (.int (nI (co H b n))), some (.int (nI i)), o6, o7] [] M := by
      intro b o6 o7 J
      simp only [gS_cheapestBegged_0, gS_cheapestBegged_1, gS_cheapestBegged_4, gS_cheapestBegged_5, gS_cheapestBegged_6, gS_cheapestBegged_9, gS_cheapestBegged_10, gS_cheapestBegged_11, gS_cheapestBegged_12, gS_cheapestBegged_13, gS_cheapestBegged_14, gS_cheapestBegged_17, gS_cheapestBegged_19, gS_cheapestBegged_20, gS_cheapestBegged_24, gS_cheapestBegged_25, gS_cheapestBegged_28, gS_cheapestBegged_30, gS_cheapestBegged_31, gS_cheapestBegged_32, gS_cheapestBegged_33, gS_cheapestBegged_34, gS_cheapestBegged_37, gS_cheapestBegged_40, gS_cheapestBegged_41, gS_cheapestBegged_43, gS_cheapestBegged_46, gS_cheapestBegged_48, gS_cheapestBegged_50, gS_cheapestBegged_52, gS_cheapestBegged_55, gS_cheapestBegged_57, gS_cheapestBegged_59, gS_cheapestBegged_62, gS_cheapestBegged_64, gS_cheapestBegged_65, gS_cheapestBegged_68, gS_cheapestBegged_69, gS_cheapestBegged_72, gS_cheapestBegged_73, gS_cheapestBegged_75, gS_cheapestBegged_77, gS_cheapestBegged_80, gS_cheapestBegged_81, gS_cheapestBegged_82, gS_cheapestBegged_85, gS_cheapestBegged_87, gS_cheapestBegged_88, gS_cheapestBegged_91, gS_cheapestBegged_92, gS_cheapestBegged_95, gS_cheapestBegged_97, gS_cheapestBegged_98, gS_cheapestBegged_100, gS_cheapestBegged_102, gS_cheapestBegged_105, gS_cheapestBegged_108, gS_cheapestBegged_109, ↓reduceIte, Bool.false_eq_true, Bool.true_eq_false, qk_i, qk_r, qk_n, Option.toList_some, Option.toList_none, List.cons_append, List.nil_append, true_and, and_true, true_or, or_true, eq_self, if_true, if_false, q_b1, q_b2, c_A, c_R, c_O, c_M, c_H1, c_H8, c_H15, nI_1]
      exact ih (i + 1) (by omega) b _ _ J
    have ed : (nI (dif i (v_bar H n h)) = 0) = (i &&& v_bar H n h = i) := by
      apply propext
      rw [← dif_0 (show i < 1024 by omega)]
      exact ⟨fun q => by
        rcases Nat.eq_zero_or_pos (dif i (v_bar H n h)) with z | z
        · exact z
        · exact absurd q (nI_ne0 z (by have := @dif_le i (v_bar H n h); omega)), fun q => by rw [q]; exact nI_0⟩
    have l1 := co_le g (s := i) n (Nat.le_refl _)
    have l2 := co_le g (s := b) n (Nat.le_refl _)
    have hk : h ||| i < 1024 := Nat.or_lt_two_pow (n := 10) g.hlt (by omega)
    have eP : (nI (rN H n (h ||| i)) = nI (2 ^ n - 1)) = (bg_P H n h i = true) := by
      rw [nI_inj (rN_lt g hk) (by omega)]
      unfold bg_P
      rw [decide_eq_true_eq]
    have c1 : (nI (co H i n) < nI (co H b n)) = (co H i n < co H b n) := propext (nI_ltI (by omega) (by omega))
    have c2 : (nI (co H i n) = nI (co H b n)) = (co H i n = co H b n) := nI_inj (by omega) (by omega)
    have c3 : (nI b ≤ nI i) = (b ≤ i) := by
      apply propext
      rw [← Int32.not_lt, nI_ltI (by omega) (by omega)]
      omega
    rw [gS_cheapestBegged_22]
    simp only [gS_cheapestBegged_0, gS_cheapestBegged_1, gS_cheapestBegged_4, gS_cheapestBegged_5, gS_cheapestBegged_6, gS_cheapestBegged_9, gS_cheapestBegged_10, gS_cheapestBegged_11, gS_cheapestBegged_12, gS_cheapestBegged_13, gS_cheapestBegged_14, gS_cheapestBegged_17, gS_cheapestBegged_19, gS_cheapestBegged_20, gS_cheapestBegged_24, gS_cheapestBegged_25, gS_cheapestBegged_28, gS_cheapestBegged_30, gS_cheapestBegged_31, gS_cheapestBegged_32, gS_cheapestBegged_33, gS_cheapestBegged_34, gS_cheapestBegged_37, gS_cheapestBegged_41, gS_cheapestBegged_43, gS_cheapestBegged_46, gS_cheapestBegged_48, gS_cheapestBegged_50, gS_cheapestBegged_52, gS_cheapestBegged_55, gS_cheapestBegged_57, gS_cheapestBegged_59, gS_cheapestBegged_62, gS_cheapestBegged_64, gS_cheapestBegged_65, gS_cheapestBegged_68, gS_cheapestBegged_69, gS_cheapestBegged_72, gS_cheapestBegged_73, gS_cheapestBegged_75, gS_cheapestBegged_77, gS_cheapestBegged_80, gS_cheapestBegged_81, gS_cheapestBegged_82, gS_cheapestBegged_85, gS_cheapestBegged_87, gS_cheapestBegged_88, gS_cheapestBegged_91, gS_cheapestBegged_92, gS_cheapestBegged_95, gS_cheapestBegged_97, gS_cheapestBegged_98, gS_cheapestBegged_100, gS_cheapestBegged_105, gS_cheapestBegged_108, gS_cheapestBegged_109, ↓reduceIte, Bool.false_eq_true, Bool.true_eq_false, qk_i, qk_r, qk_n, Option.toList_some, Option.toList_none, List.cons_append, List.nil_append, true_and, and_true, true_or, or_true, eq_self, if_true, if_false, q_b1, q_b2, c_A, c_R, c_O, c_M, c_H1, c_H8, c_H15, h1, dif_nI (show i < 1024 by omega), ed]
    by_cases hsub : i &&& v_bar H n h = i
    · rw [if_pos hsub]
      simp only [gS_cheapestBegged_0, gS_cheapestBegged_1, gS_cheapestBegged_4, gS_cheapestBegged_5, gS_cheapestBegged_6, gS_cheapestBegged_9, gS_cheapestBegged_10, gS_cheapestBegged_11, gS_cheapestBegged_12, gS_cheapestBegged_13, gS_cheapestBegged_14, gS_cheapestBegged_17, gS_cheapestBegged_19, gS_cheapestBegged_20, gS_cheapestBegged_24, gS_cheapestBegged_25, gS_cheapestBegged_28, gS_cheapestBegged_30, gS_cheapestBegged_31, gS_cheapestBegged_32, gS_cheapestBegged_33, gS_cheapestBegged_34, gS_cheapestBegged_37, gS_cheapestBegged_40, gS_cheapestBegged_41, gS_cheapestBegged_43, gS_cheapestBegged_46, gS_cheapestBegged_48, gS_cheapestBegged_50, gS_cheapestBegged_52, gS_cheapestBegged_55, gS_cheapestBegged_57, gS_cheapestBegged_59, gS_cheapestBegged_62, gS_cheapestBegged_64, gS_cheapestBegged_65, gS_cheapestBegged_68, gS_cheapestBegged_69, gS_cheapestBegged_72, gS_cheapestBegged_75, gS_cheapestBegged_77, gS_cheapestBegged_80, gS_cheapestBegged_81, gS_cheapestBegged_82, gS_cheapestBegged_85, gS_cheapestBegged_87, gS_cheapestBegged_88, gS_cheapestBegged_91, gS_cheapestBegged_92, gS_cheapestBegged_95, gS_cheapestBegged_97, gS_cheapestBegged_98, gS_cheapestBegged_100, gS_cheapestBegged_105, gS_cheapestBegged_108, gS_cheapestBegged_109, ↓reduceIte, Bool.false_eq_true, Bool.true_eq_false, qk_i, qk_r, qk_n, Option.toList_some, Option.toList_none, List.cons_append, List.nil_append, true_and, and_true, true_or, or_true, eq_self, if_true, if_false, q_b1, q_b2, c_A, c_R, c_O, c_M, c_H1, c_H8, c_H15, y_H_cost g r (show i < 1024 by omega), c1, c2, c3]
      have keep : ¬ (co H i n < co H b n ∨ co H i n = co H b n ∧ i < b) ∨ ¬ bg_P H n h i = true → bg_J H n h b (i + 1) := by
        intro hn
        refine ⟨J.1, J.2.1, fun S s1 s2 s3 => ?_⟩
        by_cases eS : S = i
        · subst eS
          rcases hn with z | z
          · omega
          · exact absurd s2 z
        · exact J.2.2 S s1 s2 (by omega)
      have take : (co H i n < co H b n ∨ co H i n = co H b n ∧ i < b) → bg_P H n h i = true → bg_J H n h i (i + 1) := by
        intro hb hP
        refine ⟨hsub, hP, fun S s1 s2 s3 => ?_⟩
        by_cases eS : S = i
        · rw [eS]
          exact Or.inr ⟨rfl, Nat.le_refl _⟩
        · have := J.2.2 S s1 s2 (by omega)
          omega
      have e73 : (co H i n < co H b n ∨ co H i n = co H b n ∧ i < b) → q_g 45 none Q 73 [some (.ref 1), some (.int (nI (2 ^ n - 1))), some (.int (nI (v_bar H n h))), some (.int (nI b)), some (.int (nI (co H b n))), some (.int (nI i)), some (.int (nI (co H i n))), o7] [.int 1] M := by
        intro hbet
        simp only [gS_cheapestBegged_0, gS_cheapestBegged_1, gS_cheapestBegged_4, gS_cheapestBegged_5, gS_cheapestBegged_6, gS_cheapestBegged_9, gS_cheapestBegged_10, gS_cheapestBegged_11, gS_cheapestBegged_12, gS_cheapestBegged_13, gS_cheapestBegged_14, gS_cheapestBegged_17, gS_cheapestBegged_19, gS_cheapestBegged_20, gS_cheapestBegged_24, gS_cheapestBegged_25, gS_cheapestBegged_28, gS_cheapestBegged_30, gS_cheapestBegged_31, gS_cheapestBegged_32, gS_cheapestBegged_33, gS_cheapestBegged_34, gS_cheapestBegged_37, gS_cheapestBegged_40, gS_cheapestBegged_41, gS_cheapestBegged_43, gS_cheapestBegged_46, gS_cheapestBegged_48, gS_cheapestBegged_50, gS_cheapestBegged_52, gS_cheapestBegged_55, gS_cheapestBegged_57, gS_cheapestBegged_59, gS_cheapestBegged_62, gS_cheapestBegged_64, gS_cheapestBegged_65, gS_cheapestBegged_68, gS_cheapestBegged_69, gS_cheapestBegged_72, gS_cheapestBegged_73, gS_cheapestBegged_75, gS_cheapestBegged_77, gS_cheapestBegged_80, gS_cheapestBegged_81, gS_cheapestBegged_82, gS_cheapestBegged_85, gS_cheapestBegged_87, gS_cheapestBegged_88, gS_cheapestBegged_91, gS_cheapestBegged_92, gS_cheapestBegged_95, gS_cheapestBegged_97, gS_cheapestBegged_98, gS_cheapestBegged_100, gS_cheapestBegged_105, gS_cheapestBegged_108, gS_cheapestBegged_109, ↓reduceIte, Bool.false_eq_true, Bool.true_eq_false, qk_i, qk_r, qk_n, Option.toList_some, Option.toList_none, List.cons_append, List.nil_append, true_and, and_true, true_or, or_true, eq_self, if_true, if_false, q_b1, q_b2, c_A, c_R, c_O, c_M, c_H1, c_H8, c_H15, n1z', e7, or_nI, y_H_reachFrom g r, eP]
        by_cases hP : bg_P H n h i = true
        · simp only [hP, n1z', ↓reduceIte, if_true, if_false, eq_self, not_true, not_false_eq_true, not_true_eq_false, Bool.true_eq_false, Bool.false_eq_true, Bool.not_false, Bool.not_true, Bool.and_true, Bool.and_false, Bool.true_and, Bool.false_and]
          exact e102 i _ _ (take hbet hP)
        · simp only [hP, n1z', ↓reduceIte, if_true, if_false, eq_self, not_true, not_false_eq_true, not_true_eq_false, Bool.true_eq_false, Bool.false_eq_true, Bool.not_false, Bool.not_true, Bool.and_true, Bool.and_false, Bool.true_and, Bool.false_and]
          exact e102 b _ _ (keep (Or.inr hP))
      have e73n : ¬ (co H i n < co H b n ∨ co H i n = co H b n ∧ i < b) → q_g 45 none Q 73 [some (.ref 1), some (.int (nI (2 ^ n - 1))), some (.int (nI (v_bar H n h))), some (.int (nI b)), some (.int (nI (co H b n))), some (.int (nI i)), some (.int (nI (co H i n))), o7] [.int 0] M := by
        intro hbet
        simp only [gS_cheapestBegged_0, gS_cheapestBegged_1, gS_cheapestBegged_4, gS_cheapestBegged_5, gS_cheapestBegged_6, gS_cheapestBegged_9, gS_cheapestBegged_10, gS_cheapestBegged_11, gS_cheapestBegged_12, gS_cheapestBegged_13, gS_cheapestBegged_14, gS_cheapestBegged_17, gS_cheapestBegged_19, gS_cheapestBegged_20, gS_cheapestBegged_24, gS_cheapestBegged_25, gS_cheapestBegged_28, gS_cheapestBegged_30, gS_cheapestBegged_31, gS_cheapestBegged_32, gS_cheapestBegged_33, gS_cheapestBegged_34, gS_cheapestBegged_37, gS_cheapestBegged_40, gS_cheapestBegged_41, gS_cheapestBegged_43, gS_cheapestBegged_46, gS_cheapestBegged_48, gS_cheapestBegged_50, gS_cheapestBegged_52, gS_cheapestBegged_55, gS_cheapestBegged_57, gS_cheapestBegged_59, gS_cheapestBegged_62, gS_cheapestBegged_64, gS_cheapestBegged_65, gS_cheapestBegged_68, gS_cheapestBegged_69, gS_cheapestBegged_72, gS_cheapestBegged_73, gS_cheapestBegged_75, gS_cheapestBegged_77, gS_cheapestBegged_80, gS_cheapestBegged_81, gS_cheapestBegged_82, gS_cheapestBegged_85, gS_cheapestBegged_87, gS_cheapestBegged_88, gS_cheapestBegged_91, gS_cheapestBegged_92, gS_cheapestBegged_95, gS_cheapestBegged_97, gS_cheapestBegged_98, gS_cheapestBegged_100, gS_cheapestBegged_105, gS_cheapestBegged_108, gS_cheapestBegged_109, ↓reduceIte, Bool.false_eq_true, Bool.true_eq_false, qk_i, qk_r, qk_n, Option.toList_some, Option.toList_none, List.cons_append, List.nil_append, true_and, and_true, true_or, or_true, eq_self, if_true, if_false, q_b1, q_b2, c_A, c_R, c_O, c_M, c_H1, c_H8, c_H15]
        exact e102 b _ _ (keep (Or.inl hbet))
      by_cases k1 : co H i n < co H b n
      · rw [if_pos k1]
        exact e73 (Or.inl k1)
      · rw [if_neg k1]
        by_cases k2 : co H i n = co H b n
        · by_cases k3 : b ≤ i
          · rw [if_neg (fun q : ¬ co H i n = co H b n => q k2), if_pos k3]
            exact e73n (by omega)
          · rw [if_neg (fun q : ¬ co H i n = co H b n => q k2), if_neg k3]
            exact e73 (by omega)
        · simp only [k2, n1z', ↓reduceIte, if_true, if_false, eq_self, not_true, not_false_eq_true, not_true_eq_false, Bool.true_eq_false, Bool.false_eq_true, Bool.not_false, Bool.not_true, Bool.and_true, Bool.and_false, Bool.true_and, Bool.false_and]
          exact e73n (by omega)
    · rw [if_neg hsub]
      refine e102 b _ _ ⟨J.1, J.2.1, fun S s1 s2 s3 => ?_⟩
      by_cases eS : S = i
      · subst eS
        exact absurd s1 hsub
      · exact J.2.2 S s1 s2 (by omega)
theorem y_A_beg (g : gH H n h) (r : RC 1 M H) (hQ : ∀ M', eqx Sq M M' → Q (some (.int (an_beg H n h a))) M') : q_Run 58 [.ref 0, .int a] M Q := by
  have hbl := bar_lt g
  have h2 := two_pow_le g.1
  have hp := Nat.two_pow_pos n
  have hb := (bg_bb g).2.1
  have eb : dif (2 ^ n - 1) (rN H n h) = v_bar H n h := rfl
  unfold an_beg at hQ
  rw [e_A_beg]
  simp only [gA_beg_0, gA_beg_1, gA_beg_4, gA_beg_7, gA_beg_8, gA_beg_10, gA_beg_13, gA_beg_14, gA_beg_15, gA_beg_18, gA_beg_21, gA_beg_22, gA_beg_23, gA_beg_26, gA_beg_27, gA_beg_30, gA_beg_31, gA_beg_34, gA_beg_37, gA_beg_38, ↓reduceIte, Bool.false_eq_true, Bool.true_eq_false, qk_i, qk_r, qk_n, Option.toList_some, Option.toList_none, List.cons_append, List.nil_append, true_and, and_true, true_or, or_true, eq_self, if_true, if_false, q_b1, q_b2, c_A, c_R, c_O, c_M, c_H1, c_H8, c_H15, rf_A0, x_A_isNoPart, q_z0, x_A_refuse]
  cases h1 : b_noPart a
  · rw [h1, if_neg (by decide)] at hQ
    simp only [n1z', ↓reduceIte, if_true, if_false, eq_self, not_true, not_false_eq_true, not_true_eq_false, Bool.true_eq_false, Bool.false_eq_true, Bool.not_false, Bool.not_true, Bool.and_true, Bool.and_false, Bool.true_and, Bool.false_and]
    rw [e_S_cheapestBegged]
    simp only [gS_cheapestBegged_0, gS_cheapestBegged_1, gS_cheapestBegged_4, gS_cheapestBegged_5, gS_cheapestBegged_6, gS_cheapestBegged_9, gS_cheapestBegged_10, gS_cheapestBegged_11, gS_cheapestBegged_12, gS_cheapestBegged_13, gS_cheapestBegged_14, gS_cheapestBegged_17, gS_cheapestBegged_19, gS_cheapestBegged_20, gS_cheapestBegged_24, gS_cheapestBegged_25, gS_cheapestBegged_28, gS_cheapestBegged_30, gS_cheapestBegged_31, gS_cheapestBegged_32, gS_cheapestBegged_33, gS_cheapestBegged_34, gS_cheapestBegged_37, gS_cheapestBegged_40, gS_cheapestBegged_41, gS_cheapestBegged_43, gS_cheapestBegged_46, gS_cheapestBegged_48, gS_cheapestBegged_50, gS_cheapestBegged_52, gS_cheapestBegged_55, gS_cheapestBegged_57, gS_cheapestBegged_59, gS_cheapestBegged_62, gS_cheapestBegged_64, gS_cheapestBegged_65, gS_cheapestBegged_68, gS_cheapestBegged_69, gS_cheapestBegged_72, gS_cheapestBegged_73, gS_cheapestBegged_75, gS_cheapestBegged_77, gS_cheapestBegged_80, gS_cheapestBegged_81, gS_cheapestBegged_82, gS_cheapestBegged_85, gS_cheapestBegged_87, gS_cheapestBegged_88, gS_cheapestBegged_91, gS_cheapestBegged_92, gS_cheapestBegged_95, gS_cheapestBegged_97, gS_cheapestBegged_98, gS_cheapestBegged_100, gS_cheapestBegged_102, gS_cheapestBegged_105, gS_cheapestBegged_108, gS_cheapestBegged_109, ↓reduceIte, Bool.false_eq_true, Bool.true_eq_false, qk_i, qk_r, qk_n, Option.toList_some, Option.toList_none, List.cons_append, List.nil_append, true_and, and_true, true_or, or_true, eq_self, if_true, if_false, q_b1, q_b2, c_A, c_R, c_O, c_M, c_H1, c_H8, c_H15, y_H_everything g r, y_H_barred g r, eb, y_H_cost g r hbl]
    refine l_A_beg g r (fun R hR => ?_) (v_bar H n h) 0 (by omega) (v_bar H n h) _ _ (bg_J0 g)
    rw [bg_uni hR (bg_bb g)]
    by_cases h0 : a = 0
    · rw [if_pos h0] at hQ
      simp only [gA_beg_0, gA_beg_1, gA_beg_4, gA_beg_7, gA_beg_8, gA_beg_10, gA_beg_13, gA_beg_14, gA_beg_15, gA_beg_18, gA_beg_21, gA_beg_22, gA_beg_23, gA_beg_26, gA_beg_27, gA_beg_30, gA_beg_31, gA_beg_34, gA_beg_37, gA_beg_38, ↓reduceIte, Bool.false_eq_true, Bool.true_eq_false, qk_i, qk_r, qk_n, Option.toList_some, Option.toList_none, List.cons_append, List.nil_append, true_and, and_true, true_or, or_true, eq_self, if_true, if_false, q_b1, q_b2, c_A, c_R, c_O, c_M, c_H1, c_H8, c_H15, rf_A0, h0, n1z', ↓reduceIte, if_true, if_false, eq_self, not_true, not_false_eq_true, not_true_eq_false, Bool.true_eq_false, Bool.false_eq_true, Bool.not_false, Bool.not_true, Bool.and_true, Bool.and_false, Bool.true_and, Bool.false_and, y_H_cost g r (show bg_b H n h (2 ^ n) < 1024 by omega)]
      exact hQ _ eqx.rf
    · rw [if_neg h0] at hQ
      simp only [gA_beg_0, gA_beg_1, gA_beg_4, gA_beg_7, gA_beg_8, gA_beg_10, gA_beg_13, gA_beg_14, gA_beg_15, gA_beg_18, gA_beg_21, gA_beg_22, gA_beg_23, gA_beg_26, gA_beg_27, gA_beg_30, gA_beg_31, gA_beg_34, gA_beg_37, gA_beg_38, ↓reduceIte, Bool.false_eq_true, Bool.true_eq_false, qk_i, qk_r, qk_n, Option.toList_some, Option.toList_none, List.cons_append, List.nil_append, true_and, and_true, true_or, or_true, eq_self, if_true, if_false, q_b1, q_b2, c_A, c_R, c_O, c_M, c_H1, c_H8, c_H15, rf_A0, h0, n1z', ↓reduceIte, if_true, if_false, eq_self, not_true, not_false_eq_true, not_true_eq_false, Bool.true_eq_false, Bool.false_eq_true, Bool.not_false, Bool.not_true, Bool.and_true, Bool.and_false, Bool.true_and, Bool.false_and]
      exact hQ _ eqx.rf
  · rw [h1, if_pos rfl] at hQ
    simp only [n1z', ↓reduceIte, if_true, if_false, eq_self, not_true, not_false_eq_true, not_true_eq_false, Bool.true_eq_false, Bool.false_eq_true, Bool.not_false, Bool.not_true, Bool.and_true, Bool.and_false, Bool.true_and, Bool.false_and]
    exact hQ _ eqx_ref
end BEG2
