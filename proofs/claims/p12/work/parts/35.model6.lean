/-! the reference: what is kept and put back -/
def s_kp (M : q_M) (k c j : Nat) : q_M := fun cell => if cell = 42 then (fun i => if c ≤ i ∧ i < c + j then M k (i - c) else M 42 i) else if cell = 30 then (fun f => if f = 20 then nI (c + j) else M 30 f) else M cell
def s_rs (M : q_M) (k c j : Nat) : q_M := fun cell => if cell = k then (fun i => if i < j then M 42 (c + i) else M k i) else if cell = 30 then (fun f => if f = 20 then nI (c + j) else M 30 f) else M cell
section KP
variable {M : q_M} {k c j : Nat}
theorem kp_out {i : Nat} (h : i < c ∨ c + j ≤ i) : s_kp M k c j 42 i = M 42 i := by
  simp only [s_kp, if_true]
  rw [if_neg (by omega)]
theorem kp_in {t : Nat} (h : t < j) : s_kp M k c j 42 (c + t) = M k t := by
  simp only [s_kp, if_true]
  rw [if_pos (by omega), Nat.add_sub_cancel_left]
theorem kp_30 {f : Nat} (h : f ≠ 20) : s_kp M k c j 30 f = M 30 f := by simp [s_kp, h]
theorem kp_20 : s_kp M k c j 30 20 = nI (c + j) := by simp [s_kp]
theorem kp_ne {cell : Nat} (h : cell ≠ 42) (h2 : cell ≠ 30) : s_kp M k c j cell = M cell := by simp [s_kp, h, h2]
theorem kp_0 (h : M 30 20 = nI c) : s_kp M k c 0 = M := by
  funext cell i
  by_cases h1 : cell = 42
  · subst h1
    rw [kp_out (by omega)]
  · by_cases h2 : cell = 30
    · subst h2
      by_cases h3 : i = 20
      · subst h3
        rw [kp_20, h, Nat.add_zero]
      · rw [kp_30 h3]
    · rw [kp_ne h1 h2]
theorem kp_s : q_put (q_put (s_kp M k c j) 42 (c + j) (M k j)) 30 20 (nI (c + j) + 1) = s_kp M k c (j + 1) := by
  funext cell i
  by_cases h2 : cell = 30
  · subst h2
    rw [q_put_at]
    by_cases h3 : i = 20
    · subst h3
      rw [if_pos rfl, kp_20, nI_1, Nat.add_assoc]
    · rw [if_neg h3, q_put_ne (by decide), kp_30 h3, kp_30 h3]
  · rw [q_put_ne h2]
    by_cases h1 : cell = 42
    · subst h1
      rw [q_put_at]
      by_cases h4 : i = c + j
      · subst h4
        rw [if_pos rfl, kp_in (by omega)]
      · rw [if_neg h4]
        simp only [s_kp, if_true]
        by_cases h5 : c ≤ i ∧ i < c + j
        · rw [if_pos h5, if_pos (by omega)]
        · rw [if_neg h5, if_neg (by omega)]
    · rw [q_put_ne h1, kp_ne h1 h2, kp_ne h1 h2]
theorem kp_s' : q_put (q_put (s_kp M k c j) 42 (c + j) (M k j)) 30 20 (nI (c + j + 1)) = s_kp M k c (j + 1) := by
  rw [← nI_1]
  exact kp_s
theorem rs_in (hk : k ≠ 30) {t : Nat} (h : t < j) : s_rs M k c j k t = M 42 (c + t) := by simp [s_rs, h]
theorem rs_out {t : Nat} (h : j ≤ t) : s_rs M k c j k t = M k t := by
  simp only [s_rs, if_true]
  rw [if_neg (by omega)]
theorem rs_30 (hk : 30 ≠ k) {f : Nat} (h : f ≠ 20) : s_rs M k c j 30 f = M 30 f := by simp [s_rs, h, hk]
theorem rs_20 (hk : 30 ≠ k) : s_rs M k c j 30 20 = nI (c + j) := by simp [s_rs, hk]
theorem rs_ne {cell : Nat} (h : cell ≠ k) (h2 : cell ≠ 30) : s_rs M k c j cell = M cell := by simp [s_rs, h, h2]
theorem rs_0 (hk : 30 ≠ k) (h : M 30 20 = nI c) : s_rs M k c 0 = M := by
  funext cell i
  by_cases h1 : cell = k
  · subst h1
    rw [rs_out (by omega)]
  · by_cases h2 : cell = 30
    · subst h2
      by_cases h3 : i = 20
      · subst h3
        rw [rs_20 hk, h, Nat.add_zero]
      · rw [rs_30 hk h3]
    · rw [rs_ne h1 h2]
theorem rs_s (hk : 30 ≠ k) : q_put (q_put (s_rs M k c j) k j (M 42 (c + j))) 30 20 (nI (c + j) + 1) = s_rs M k c (j + 1) := by
  funext cell i
  by_cases h2 : cell = 30
  · subst h2
    rw [q_put_at]
    by_cases h3 : i = 20
    · subst h3
      rw [if_pos rfl, rs_20 hk, nI_1, Nat.add_assoc]
    · rw [if_neg h3, q_put_ne hk, rs_30 hk h3, rs_30 hk h3]
  · rw [q_put_ne h2]
    by_cases h1 : cell = k
    · subst h1
      rw [q_put_at]
      by_cases h4 : i = j
      · subst h4
        rw [if_pos rfl, rs_in h2 (by omega)]
      · rw [if_neg h4]
        by_cases h5 : i < j
        · rw [rs_in h2 h5, rs_in h2 (by omega)]
        · rw [rs_out (by omega), rs_out (by omega)]
    · rw [q_put_ne h1, rs_ne h1 h2, rs_ne h1 h2]
theorem rs_s' (hk : 30 ≠ k) : q_put (q_put (s_rs M k c j) k j (M 42 (c + j))) 30 20 (nI (c + j + 1)) = s_rs M k c (j + 1) := by
  rw [← nI_1]
  exact rs_s hk
end KP
section MP
variable {Q : q_R} {M : q_M}
theorem l_M_passes_k {k c : Nat} (hk : q_alen k = some 10) (hc : c + 10 ≤ 130) (h19 : M 30 19 = 1) (hk1 : k ≠ 42) (hk2 : k ≠ 30) : ∀ m j, j + m = 10 →
    q_g 135 none Q 2 [some (.ref 30), some (.ref k), some (.int (nI j))] [] (s_kp M k c j) = Q none (s_kp M k c 10) := by
  intro m
  induction m with
  | zero =>
    intro j hj
    have : j = 10 := by omega
    subst this
    rw [gM_passes_2]
    simp only [gM_passes_0, gM_passes_1, gM_passes_3, gM_passes_4, gM_passes_5, gM_passes_8, gM_passes_9, gM_passes_12, gM_passes_15, gM_passes_16, gM_passes_19, gM_passes_20, gM_passes_23, gM_passes_24, gM_passes_25, gM_passes_26, gM_passes_27, gM_passes_30, gM_passes_31, gM_passes_32, gM_passes_33, gM_passes_36, gM_passes_37, gM_passes_40, gM_passes_41, gM_passes_42, gM_passes_43, gM_passes_44, gM_passes_47, gM_passes_48, gM_passes_49, gM_passes_52, gM_passes_55, gM_passes_58, ↓reduceIte, Bool.false_eq_true, Bool.true_eq_false, qk_i, qk_r, qk_n, Option.toList_some, Option.toList_none, List.cons_append, List.nil_append, true_and, and_true, true_or, or_true, eq_self, if_true, if_false, q_b1, q_b2, c_A, c_R, c_O, c_M, c_H1, c_H8, c_H15, hk, q_alenD_of hk, Option.isSome_some, ofNat_nI, Int32.le_refl]
  | succ m ih =>
    intro j hj
    have h1 : ¬ nI 10 ≤ nI j := nI_ge (by omega) (by omega)
    have e19 : s_kp M k c j 30 19 = 1 := by rw [kp_30 (by decide)]; exact h19
    have e20 : s_kp M k c j 30 20 = nI (c + j) := kp_20
    have ek : s_kp M k c j k = M k := kp_ne hk1 hk2
    have i1 : q_in (nI j) 10 = true := q_in_nI (by omega) (by omega)
    have i2 : q_in (nI (c + j)) 130 = true := q_in_nI (by omega) (by omega)
    have c1 : (nI j).toNatClampNeg = j := nI_clamp (by omega)
    have c2 : (nI (c + j)).toNatClampNeg = c + j := nI_clamp (by omega)
    have n1 : ((1 : Int32) = 0) = False := by decide
    have e30 : ∀ i v, q_put (s_kp M k c j) 42 i v 30 = s_kp M k c j 30 := fun i v => q_put_ne (by decide)
    rw [gM_passes_2]
    simp only [gM_passes_0, gM_passes_1, gM_passes_3, gM_passes_4, gM_passes_5, gM_passes_8, gM_passes_9, gM_passes_12, gM_passes_15, gM_passes_16, gM_passes_19, gM_passes_20, gM_passes_23, gM_passes_24, gM_passes_25, gM_passes_26, gM_passes_27, gM_passes_30, gM_passes_31, gM_passes_32, gM_passes_33, gM_passes_36, gM_passes_37, gM_passes_40, gM_passes_41, gM_passes_42, gM_passes_43, gM_passes_44, gM_passes_47, gM_passes_48, gM_passes_49, gM_passes_52, gM_passes_55, gM_passes_58, ↓reduceIte, Bool.false_eq_true, Bool.true_eq_false, qk_i, qk_r, qk_n, Option.toList_some, Option.toList_none, List.cons_append, List.nil_append, true_and, and_true, true_or, or_true, eq_self, if_true, if_false, q_b1, q_b2, c_A, c_R, c_O, c_M, c_H1, c_H8, c_H15, hk, q_alenD_of hk, Option.isSome_some, ofNat_nI, h1, e19, e20, ek, n1, rf_M17, aD_42, i1, i2, c1, c2, e30, kp_s', nI_1]
    exact ih (j + 1) (by omega)
theorem x_M_passes_k {k c : Nat} (hk : q_alen k = some 10) (hc : c + 10 ≤ 130) (h19 : M 30 19 = 1) (h20 : M 30 20 = nI c) (hk1 : k ≠ 42) (hk2 : k ≠ 30) : q_Run 135 [.ref 30, .ref k] M Q = Q none (s_kp M k c 10) := by
  have h := l_M_passes_k (Q := Q) (M := M) hk hc h19 hk1 hk2 10 0 (by omega)
  rw [kp_0 h20] at h
  rw [e_M_passes]
  simp only [gM_passes_0, gM_passes_1, gM_passes_3, gM_passes_4, gM_passes_5, gM_passes_8, gM_passes_9, gM_passes_12, gM_passes_15, gM_passes_16, gM_passes_19, gM_passes_20, gM_passes_23, gM_passes_24, gM_passes_25, gM_passes_26, gM_passes_27, gM_passes_30, gM_passes_31, gM_passes_32, gM_passes_33, gM_passes_36, gM_passes_37, gM_passes_40, gM_passes_41, gM_passes_42, gM_passes_43, gM_passes_44, gM_passes_47, gM_passes_48, gM_passes_49, gM_passes_52, gM_passes_55, gM_passes_58, ↓reduceIte, Bool.false_eq_true, Bool.true_eq_false, qk_i, qk_r, qk_n, Option.toList_some, Option.toList_none, List.cons_append, List.nil_append, true_and, and_true, true_or, or_true, eq_self, if_true, if_false, q_b1, q_b2, c_A, c_R, c_O, c_M, c_H1, c_H8, c_H15]
  exact h
theorem l_M_passes_r {k c : Nat} (hk : q_alen k = some 10) (hc : c + 10 ≤ 130) (h19 : M 30 19 = 0) (hk1 : (42 : Nat) ≠ k) (hk2 : (30 : Nat) ≠ k) : ∀ m j, j + m = 10 →
    q_g 135 none Q 2 [some (.ref 30), some (.ref k), some (.int (nI j))] [] (s_rs M k c j) = Q none (s_rs M k c 10) := by
  intro m
  induction m with
  | zero =>
    intro j hj
    have : j = 10 := by omega
    subst this
    rw [gM_passes_2]
    simp only [gM_passes_0, gM_passes_1, gM_passes_3, gM_passes_4, gM_passes_5, gM_passes_8, gM_passes_9, gM_passes_12, gM_passes_15, gM_passes_16, gM_passes_19, gM_passes_20, gM_passes_23, gM_passes_24, gM_passes_25, gM_passes_26, gM_passes_27, gM_passes_30, gM_passes_31, gM_passes_32, gM_passes_33, gM_passes_36, gM_passes_37, gM_passes_40, gM_passes_41, gM_passes_42, gM_passes_43, gM_passes_44, gM_passes_47, gM_passes_48, gM_passes_49, gM_passes_52, gM_passes_55, gM_passes_58, ↓reduceIte, Bool.false_eq_true, Bool.true_eq_false, qk_i, qk_r, qk_n, Option.toList_some, Option.toList_none, List.cons_append, List.nil_append, true_and, and_true, true_or, or_true, eq_self, if_true, if_false, q_b1, q_b2, c_A, c_R, c_O, c_M, c_H1, c_H8, c_H15, hk, q_alenD_of hk, Option.isSome_some, ofNat_nI, Int32.le_refl]
  | succ m ih =>
    intro j hj
    have h1 : ¬ nI 10 ≤ nI j := nI_ge (by omega) (by omega)
    have e19 : s_rs M k c j 30 19 = 0 := by rw [rs_30 hk2 (by decide)]; exact h19
    have e20 : s_rs M k c j 30 20 = nI (c + j) := rs_20 hk2
    have ek : s_rs M k c j 42 = M 42 := rs_ne hk1 (by decide)
    have i1 : q_in (nI j) 10 = true := q_in_nI (by omega) (by omega)
    have i2 : q_in (nI (c + j)) 130 = true := q_in_nI (by omega) (by omega)
    have c1 : (nI j).toNatClampNeg = j := nI_clamp (by omega)
    have c2 : (nI (c + j)).toNatClampNeg = c + j := nI_clamp (by omega)
    have e30 : ∀ i v, q_put (s_rs M k c j) k i v 30 = s_rs M k c j 30 := fun i v => q_put_ne hk2
    rw [gM_passes_2]
    simp only [gM_passes_0, gM_passes_1, gM_passes_3, gM_passes_4, gM_passes_5, gM_passes_8, gM_passes_9, gM_passes_12, gM_passes_15, gM_passes_16, gM_passes_19, gM_passes_20, gM_passes_23, gM_passes_24, gM_passes_25, gM_passes_26, gM_passes_27, gM_passes_30, gM_passes_31, gM_passes_32, gM_passes_33, gM_passes_36, gM_passes_37, gM_passes_40, gM_passes_41, gM_passes_42, gM_passes_43, gM_passes_44, gM_passes_47, gM_passes_48, gM_passes_49, gM_passes_52, gM_passes_55, gM_passes_58, ↓reduceIte, Bool.false_eq_true, Bool.true_eq_false, qk_i, qk_r, qk_n, Option.toList_some, Option.toList_none, List.cons_append, List.nil_append, true_and, and_true, true_or, or_true, eq_self, if_true, if_false, q_b1, q_b2, c_A, c_R, c_O, c_M, c_H1, c_H8, c_H15, hk, q_alenD_of hk, Option.isSome_some, ofNat_nI, h1, e19, e20, ek, rf_M17, aD_42, i1, i2, c1, c2, e30, rs_s' hk2, nI_1]
    exact ih (j + 1) (by omega)
theorem x_M_passes_r {k c : Nat} (hk : q_alen k = some 10) (hc : c + 10 ≤ 130) (h19 : M 30 19 = 0) (h20 : M 30 20 = nI c) (hk1 : (42 : Nat) ≠ k) (hk2 : (30 : Nat) ≠ k) : q_Run 135 [.ref 30, .ref k] M Q = Q none (s_rs M k c 10) := by
  have h := l_M_passes_r (Q := Q) (M := M) hk hc h19 hk1 hk2 10 0 (by omega)
  rw [rs_0 hk2 h20] at h
  rw [e_M_passes]
  simp only [gM_passes_0, gM_passes_1, gM_passes_3, gM_passes_4, gM_passes_5, gM_passes_8, gM_passes_9, gM_passes_12, gM_passes_15, gM_passes_16, gM_passes_19, gM_passes_20, gM_passes_23, gM_passes_24, gM_passes_25, gM_passes_26, gM_passes_27, gM_passes_30, gM_passes_31, gM_passes_32, gM_passes_33, gM_passes_36, gM_passes_37, gM_passes_40, gM_passes_41, gM_passes_42, gM_passes_43, gM_passes_44, gM_passes_47, gM_passes_48, gM_passes_49, gM_passes_52, gM_passes_55, gM_passes_58, ↓reduceIte, Bool.false_eq_true, Bool.true_eq_false, qk_i, qk_r, qk_n, Option.toList_some, Option.toList_none, List.cons_append, List.nil_append, true_and, and_true, true_or, or_true, eq_self, if_true, if_false, q_b1, q_b2, c_A, c_R, c_O, c_M, c_H1, c_H8, c_H15]
  exact h
theorem x_M_passOne_k {c : Nat} {v : Int32} (hc : c < 130) (h19 : M 30 19 = 1) (h20 : M 30 20 = nI c) : q_Run 134 [.ref 30, .int v] M Q = Q (some (.int v)) (q_put (q_put M 42 c v) 30 20 (nI (c + 1))) := by
  have i2 : q_in (nI c) 130 = true := q_in_nI (by omega) (by omega)
  have c2 : (nI c).toNatClampNeg = c := nI_clamp (by omega)
  have n1 : ((1 : Int32) = 0) = False := by decide
  have e30 : ∀ i v, q_put M 42 i v 30 = M 30 := fun i v => q_put_ne (by decide)
  rw [e_M_passOne]
  simp only [gM_passOne_0, gM_passOne_1, gM_passOne_4, gM_passOne_7, gM_passOne_8, gM_passOne_11, gM_passOne_12, gM_passOne_15, gM_passOne_16, gM_passOne_19, gM_passOne_20, gM_passOne_21, gM_passOne_22, gM_passOne_25, gM_passOne_28, gM_passOne_29, gM_passOne_32, gM_passOne_33, gM_passOne_36, gM_passOne_37, gM_passOne_38, gM_passOne_39, gM_passOne_40, gM_passOne_43, gM_passOne_44, gM_passOne_45, gM_passOne_48, gM_passOne_49, ↓reduceIte, Bool.false_eq_true, Bool.true_eq_false, qk_i, qk_r, qk_n, Option.toList_some, Option.toList_none, List.cons_append, List.nil_append, true_and, and_true, true_or, or_true, eq_self, if_true, if_false, q_b1, q_b2, c_A, c_R, c_O, c_M, c_H1, c_H8, c_H15, h19, h20, n1, rf_M17, aD_42, i2, c2, e30, nI_1]
theorem x_M_passOne_r {c : Nat} {v : Int32} (hc : c < 130) (h19 : M 30 19 = 0) (h20 : M 30 20 = nI c) : q_Run 134 [.ref 30, .int v] M Q = Q (some (.int (M 42 c))) (q_put M 30 20 (nI (c + 1))) := by
  have i2 : q_in (nI c) 130 = true := q_in_nI (by omega) (by omega)
  have c2 : (nI c).toNatClampNeg = c := nI_clamp (by omega)
  rw [e_M_passOne]
  simp only [gM_passOne_0, gM_passOne_1, gM_passOne_4, gM_passOne_7, gM_passOne_8, gM_passOne_11, gM_passOne_12, gM_passOne_15, gM_passOne_16, gM_passOne_19, gM_passOne_20, gM_passOne_21, gM_passOne_22, gM_passOne_25, gM_passOne_28, gM_passOne_29, gM_passOne_32, gM_passOne_33, gM_passOne_36, gM_passOne_37, gM_passOne_38, gM_passOne_39, gM_passOne_40, gM_passOne_43, gM_passOne_44, gM_passOne_45, gM_passOne_48, gM_passOne_49, ↓reduceIte, Bool.false_eq_true, Bool.true_eq_false, qk_i, qk_r, qk_n, Option.toList_some, Option.toList_none, List.cons_append, List.nil_append, true_and, and_true, true_or, or_true, eq_self, if_true, if_false, q_b1, q_b2, c_A, c_R, c_O, c_M, c_H1, c_H8, c_H15, h19, h20, rf_M17, aD_42, i2, c2, nI_1]
theorem al_M : q_alen 32 = some 10 ∧ q_alen 33 = some 10 ∧ q_alen 34 = some 10 ∧ q_alen 35 = some 10 ∧ q_alen 36 = some 10 ∧ q_alen 37 = some 10 := by decide +kernel
/-- the house as it is kept at c -/
def s_k0 (M : q_M) (c : Nat) : q_M := q_put (q_put M 30 20 (nI c)) 30 19 1
def s_k6 (M : q_M) (c : Nat) : q_M := s_kp (s_kp (s_kp (s_kp (s_kp (s_kp (s_k0 M c) 32 c 10) 33 (c + 10) 10) 34 (c + 10 + 10) 10) 35 (c + 10 + 10 + 10) 10) 36 (c + 10 + 10 + 10 + 10) 10) 37 (c + 10 + 10 + 10 + 10 + 10) 10
def s_kA (M : q_M) (c : Nat) : q_M := q_put (q_put (q_put (q_put (q_put (q_put (q_put (q_put (q_put (s_k6 M c) 42 (c + 60) (M 30 7)) 30 20 (nI (c + 61))) 30 7 (M 30 7)) 42 (c + 61) (M 30 8)) 30 20 (nI (c + 62))) 30 8 (M 30 8)) 42 (c + 62) (M 30 9)) 30 20 (nI (c + 63))) 30 9 (M 30 9)
theorem k6_30 {c f : Nat} (h : f ≠ 20) : s_k6 M c 30 f = s_k0 M c 30 f := by
  unfold s_k6
  rw [kp_30 h, kp_30 h, kp_30 h, kp_30 h, kp_30 h, kp_30 h]
theorem k0_30 {c f : Nat} (h : f ≠ 20) (h2 : f ≠ 19) : s_k0 M c 30 f = M 30 f := by
  unfold s_k0
  rw [q_put_at, if_neg h2, q_put_at, if_neg h]
theorem x_M_passesAll_k {c : Nat} {w : Int32} (hw : 65 * w = nI c) (hc : c + 63 ≤ 130) : q_Run 136 [.ref 30, .int w, .int 1] M Q = Q none (s_kA M c) := by
  have e0 : q_put (q_put M 30 20 (nI c)) 30 19 1 = s_k0 M c := rfl
  have a19 : s_k0 M c 30 19 = 1 := by simp [s_k0, q_put_at]
  have a20 : s_k0 M c 30 20 = nI c := by simp [s_k0, q_put_at]
  have f6 : ∀ f, f ≠ 20 → f ≠ 19 → s_k6 M c 30 f = M 30 f := fun f h h2 => by rw [k6_30 h, k0_30 h h2]
  have b19 : s_k6 M c 30 19 = 1 := by rw [k6_30 (by decide)]; exact a19
  have b20 : s_k6 M c 30 20 = nI (c + 60) := by
    unfold s_k6
    rw [kp_20]
  have hu : s_kp (s_kp (s_kp (s_kp (s_kp (s_kp (s_k0 M c) 32 c 10) 33 (c + 10) 10) 34 (c + 10 + 10) 10) 35 (c + 10 + 10 + 10) 10) 36 (c + 10 + 10 + 10 + 10) 10) 37 (c + 10 + 10 + 10 + 10 + 10) 10 = s_k6 M c := rfl
  rw [e_M_passesAll]
  simp only [gM_passesAll_0, gM_passesAll_1, gM_passesAll_3, gM_passesAll_4, gM_passesAll_5, gM_passesAll_8, gM_passesAll_9, gM_passesAll_10, gM_passesAll_13, gM_passesAll_14, gM_passesAll_15, gM_passesAll_18, gM_passesAll_21, gM_passesAll_22, gM_passesAll_23, gM_passesAll_26, gM_passesAll_29, gM_passesAll_30, gM_passesAll_31, gM_passesAll_34, gM_passesAll_37, gM_passesAll_38, gM_passesAll_39, gM_passesAll_42, gM_passesAll_45, gM_passesAll_46, gM_passesAll_47, gM_passesAll_50, gM_passesAll_53, gM_passesAll_54, gM_passesAll_55, gM_passesAll_58, gM_passesAll_61, gM_passesAll_62, gM_passesAll_63, gM_passesAll_64, gM_passesAll_67, gM_passesAll_70, gM_passesAll_73, gM_passesAll_74, gM_passesAll_75, gM_passesAll_76, gM_passesAll_79, gM_passesAll_82, gM_passesAll_85, gM_passesAll_86, gM_passesAll_87, gM_passesAll_88, gM_passesAll_91, gM_passesAll_94, gM_passesAll_97, ↓reduceIte, Bool.false_eq_true, Bool.true_eq_false, qk_i, qk_r, qk_n, Option.toList_some, Option.toList_none, List.cons_append, List.nil_append, true_and, and_true, true_or, or_true, eq_self, if_true, if_false, q_b1, q_b2, c_A, c_R, c_O, c_M, c_H1, c_H8, c_H15, hw, rf_M1, rf_M2, rf_M3, rf_M4, rf_M5, rf_M6, e0]
  rw [x_M_passes_k al_M.1 (c := c) (by omega) a19 a20 (by decide) (by decide)]
  simp only [gM_passesAll_0, gM_passesAll_1, gM_passesAll_3, gM_passesAll_4, gM_passesAll_5, gM_passesAll_8, gM_passesAll_9, gM_passesAll_10, gM_passesAll_13, gM_passesAll_14, gM_passesAll_15, gM_passesAll_18, gM_passesAll_21, gM_passesAll_22, gM_passesAll_23, gM_passesAll_26, gM_passesAll_29, gM_passesAll_30, gM_passesAll_31, gM_passesAll_34, gM_passesAll_37, gM_passesAll_38, gM_passesAll_39, gM_passesAll_42, gM_passesAll_45, gM_passesAll_46, gM_passesAll_47, gM_passesAll_50, gM_passesAll_53, gM_passesAll_54, gM_passesAll_55, gM_passesAll_58, gM_passesAll_61, gM_passesAll_62, gM_passesAll_63, gM_passesAll_64, gM_passesAll_67, gM_passesAll_70, gM_passesAll_73, gM_passesAll_74, gM_passesAll_75, gM_passesAll_76, gM_passesAll_79, gM_passesAll_82, gM_passesAll_85, gM_passesAll_86, gM_passesAll_87, gM_passesAll_88, gM_passesAll_91, gM_passesAll_94, gM_passesAll_97, ↓reduceIte, Bool.false_eq_true, Bool.true_eq_false, qk_i, qk_r, qk_n, Option.toList_some, Option.toList_none, List.cons_append, List.nil_append, true_and, and_true, true_or, or_true, eq_self, if_true, if_false, q_b1, q_b2, c_A, c_R, c_O, c_M, c_H1, c_H8, c_H15, rf_M1, rf_M2, rf_M3, rf_M4, rf_M5, rf_M6]
  rw [x_M_passes_k al_M.2.1 (c := c + 10) (by omega) (by rw [kp_30 (by decide)]; exact a19) kp_20 (by decide) (by decide)]
  simp only [gM_passesAll_0, gM_passesAll_1, gM_passesAll_3, gM_passesAll_4, gM_passesAll_5, gM_passesAll_8, gM_passesAll_9, gM_passesAll_10, gM_passesAll_13, gM_passesAll_14, gM_passesAll_15, gM_passesAll_18, gM_passesAll_21, gM_passesAll_22, gM_passesAll_23, gM_passesAll_26, gM_passesAll_29, gM_passesAll_30, gM_passesAll_31, gM_passesAll_34, gM_passesAll_37, gM_passesAll_38, gM_passesAll_39, gM_passesAll_42, gM_passesAll_45, gM_passesAll_46, gM_passesAll_47, gM_passesAll_50, gM_passesAll_53, gM_passesAll_54, gM_passesAll_55, gM_passesAll_58, gM_passesAll_61, gM_passesAll_62, gM_passesAll_63, gM_passesAll_64, gM_passesAll_67, gM_passesAll_70, gM_passesAll_73, gM_passesAll_74, gM_passesAll_75, gM_passesAll_76, gM_passesAll_79, gM_passesAll_82, gM_passesAll_85, gM_passesAll_86, gM_passesAll_87, gM_passesAll_88, gM_passesAll_91, gM_passesAll_94, gM_passesAll_97, ↓reduceIte, Bool.false_eq_true, Bool.true_eq_false, qk_i, qk_r, qk_n, Option.toList_some, Option.toList_none, List.cons_append, List.nil_append, true_and, and_true, true_or, or_true, eq_self, if_true, if_false, q_b1, q_b2, c_A, c_R, c_O, c_M, c_H1, c_H8, c_H15, rf_M1, rf_M2, rf_M3, rf_M4, rf_M5, rf_M6]
  rw [x_M_passes_k al_M.2.2.1 (c := c + 10 + 10) (by omega) (by rw [kp_30 (by decide), kp_30 (by decide)]; exact a19) kp_20 (by decide) (by decide)]
  simp only [gM_passesAll_0, gM_passesAll_1, gM_passesAll_3, gM_passesAll_4, gM_passesAll_5, gM_passesAll_8, gM_passesAll_9, gM_passesAll_10, gM_passesAll_13, gM_passesAll_14, gM_passesAll_15, gM_passesAll_18, gM_passesAll_21, gM_passesAll_22, gM_passesAll_23, gM_passesAll_26, gM_passesAll_29, gM_passesAll_30, gM_passesAll_31, gM_passesAll_34, gM_passesAll_37, gM_passesAll_38, gM_passesAll_39, gM_passesAll_42, gM_passesAll_45, gM_passesAll_46, gM_passesAll_47, gM_passesAll_50, gM_passesAll_53, gM_passesAll_54, gM_passesAll_55, gM_passesAll_58, gM_passesAll_61, gM_passesAll_62, gM_passesAll_63, gM_passesAll_64, gM_passesAll_67, gM_passesAll_70, gM_passesAll_73, gM_passesAll_74, gM_passesAll_75, gM_passesAll_76, gM_passesAll_79, gM_passesAll_82, gM_passesAll_85, gM_passesAll_86, gM_passesAll_87, gM_passesAll_88, gM_passesAll_91, gM_passesAll_94, gM_passesAll_97, ↓reduceIte, Bool.false_eq_true, Bool.true_eq_false, qk_i, qk_r, qk_n, Option.toList_some, Option.toList_none, List.cons_append, List.nil_append, true_and, and_true, true_or, or_true, eq_self, if_true, if_false, q_b1, q_b2, c_A, c_R, c_O, c_M, c_H1, c_H8, c_H15, rf_M1, rf_M2, rf_M3, rf_M4, rf_M5, rf_M6]
  rw [x_M_passes_k al_M.2.2.2.1 (c := c + 10 + 10 + 10) (by omega) (by rw [kp_30 (by decide), kp_30 (by decide), kp_30 (by decide)]; exact a19) kp_20 (by decide) (by decide)]
  simp only [gM_passesAll_0, gM_passesAll_1, gM_passesAll_3, gM_passesAll_4, gM_passesAll_5, gM_passesAll_8, gM_passesAll_9, gM_passesAll_10, gM_passesAll_13, gM_passesAll_14, gM_passesAll_15, gM_passesAll_18, gM_passesAll_21, gM_passesAll_22, gM_passesAll_23, gM_passesAll_26, gM_passesAll_29, gM_passesAll_30, gM_passesAll_31, gM_passesAll_34, gM_passesAll_37, gM_passesAll_38, gM_passesAll_39, gM_passesAll_42, gM_passesAll_45, gM_passesAll_46, gM_passesAll_47, gM_passesAll_50, gM_passesAll_53, gM_passesAll_54, gM_passesAll_55, gM_passesAll_58, gM_passesAll_61, gM_passesAll_62, gM_passesAll_63, gM_passesAll_64, gM_passesAll_67, gM_passesAll_70, gM_passesAll_73, gM_passesAll_74, gM_passesAll_75, gM_passesAll_76, gM_passesAll_79, gM_passesAll_82, gM_passesAll_85, gM_passesAll_86, gM_passesAll_87, gM_passesAll_88, gM_passesAll_91, gM_passesAll_94, gM_passesAll_97, ↓reduceIte, Bool.false_eq_true, Bool.true_eq_false, qk_i, qk_r, qk_n, Option.toList_some, Option.toList_none, List.cons_append, List.nil_append, true_and, and_true, true_or, or_true, eq_self, if_true, if_false, q_b1, q_b2, c_A, c_R, c_O, c_M, c_H1, c_H8, c_H15, rf_M1, rf_M2, rf_M3, rf_M4, rf_M5, rf_M6]
  rw [x_M_passes_k al_M.2.2.2.2.1 (c := c + 10 + 10 + 10 + 10) (by omega) (by rw [kp_30 (by decide), kp_30 (by decide), kp_30 (by decide), kp_30 (by decide)]; exact a19) kp_20 (by decide) (by decide)]
  simp only [gM_passesAll_0, gM_passesAll_1, gM_passesAll_3, gM_passesAll_4, gM_passesAll_5, gM_passesAll_8, gM_passesAll_9, gM_passesAll_10, gM_passesAll_13, gM_passesAll_14, gM_passesAll_15, gM_passesAll_18, gM_passesAll_21, gM_passesAll_22, gM_passesAll_23, gM_passesAll_26, gM_passesAll_29, gM_passesAll_30, gM_passesAll_31, gM_passesAll_34, gM_passesAll_37, gM_passesAll_38, gM_passesAll_39, gM_passesAll_42, gM_passesAll_45, gM_passesAll_46, gM_passesAll_47, gM_passesAll_50, gM_passesAll_53, gM_passesAll_54, gM_passesAll_55, gM_passesAll_58, gM_passesAll_61, gM_passesAll_62, gM_passesAll_63, gM_passesAll_64, gM_passesAll_67, gM_passesAll_70, gM_passesAll_73, gM_passesAll_74, gM_passesAll_75, gM_passesAll_76, gM_passesAll_79, gM_passesAll_82, gM_passesAll_85, gM_passesAll_86, gM_passesAll_87, gM_passesAll_88, gM_passesAll_91, gM_passesAll_94, gM_passesAll_97, ↓reduceIte, Bool.false_eq_true, Bool.true_eq_false, qk_i, qk_r, qk_n, Option.toList_some, Option.toList_none, List.cons_append, List.nil_append, true_and, and_true, true_or, or_true, eq_self, if_true, if_false, q_b1, q_b2, c_A, c_R, c_O, c_M, c_H1, c_H8, c_H15, rf_M1, rf_M2, rf_M3, rf_M4, rf_M5, rf_M6]
  rw [x_M_passes_k al_M.2.2.2.2.2 (c := c + 10 + 10 + 10 + 10 + 10) (by omega) (by rw [kp_30 (by decide), kp_30 (by decide), kp_30 (by decide), kp_30 (by decide), kp_30 (by decide)]; exact a19) kp_20 (by decide) (by decide)]
  rw [hu]
  simp only [gM_passesAll_0, gM_passesAll_1, gM_passesAll_3, gM_passesAll_4, gM_passesAll_5, gM_passesAll_8, gM_passesAll_9, gM_passesAll_10, gM_passesAll_13, gM_passesAll_14, gM_passesAll_15, gM_passesAll_18, gM_passesAll_21, gM_passesAll_22, gM_passesAll_23, gM_passesAll_26, gM_passesAll_29, gM_passesAll_30, gM_passesAll_31, gM_passesAll_34, gM_passesAll_37, gM_passesAll_38, gM_passesAll_39, gM_passesAll_42, gM_passesAll_45, gM_passesAll_46, gM_passesAll_47, gM_passesAll_50, gM_passesAll_53, gM_passesAll_54, gM_passesAll_55, gM_passesAll_58, gM_passesAll_61, gM_passesAll_62, gM_passesAll_63, gM_passesAll_64, gM_passesAll_67, gM_passesAll_70, gM_passesAll_73, gM_passesAll_74, gM_passesAll_75, gM_passesAll_76, gM_passesAll_79, gM_passesAll_82, gM_passesAll_85, gM_passesAll_86, gM_passesAll_87, gM_passesAll_88, gM_passesAll_91, gM_passesAll_94, gM_passesAll_97, ↓reduceIte, Bool.false_eq_true, Bool.true_eq_false, qk_i, qk_r, qk_n, Option.toList_some, Option.toList_none, List.cons_append, List.nil_append, true_and, and_true, true_or, or_true, eq_self, if_true, if_false, q_b1, q_b2, c_A, c_R, c_O, c_M, c_H1, c_H8, c_H15, f6 7 (by decide) (by decide)]
  rw [x_M_passOne_k (c := c + 60) (by omega) b19 b20]
  have e7 : ∀ (N : q_M) i v j w, q_put (q_put N 42 i v) 30 20 w 30 j = if j = 20 then w else N 30 j := fun N i v j w => by
    rw [q_put_at]
    split
    · rfl
    · rw [q_put_ne (by decide)]
  have p8 : ∀ (N : q_M) v, q_put N 30 7 v 30 8 = N 30 8 := fun N v => by rw [q_put_at, if_neg (by decide)]
  have p9 : ∀ (N : q_M) v, q_put N 30 8 v 30 9 = N 30 9 := fun N v => by rw [q_put_at, if_neg (by decide)]
  have p7 : ∀ (N : q_M) v, q_put N 30 7 v 30 9 = N 30 9 := fun N v => by rw [q_put_at, if_neg (by decide)]
  have d8 : ((8 : Nat) = 20) = False := by decide
  have d9 : ((9 : Nat) = 20) = False := by decide
  simp only [gM_passesAll_0, gM_passesAll_1, gM_passesAll_3, gM_passesAll_4, gM_passesAll_5, gM_passesAll_8, gM_passesAll_9, gM_passesAll_10, gM_passesAll_13, gM_passesAll_14, gM_passesAll_15, gM_passesAll_18, gM_passesAll_21, gM_passesAll_22, gM_passesAll_23, gM_passesAll_26, gM_passesAll_29, gM_passesAll_30, gM_passesAll_31, gM_passesAll_34, gM_passesAll_37, gM_passesAll_38, gM_passesAll_39, gM_passesAll_42, gM_passesAll_45, gM_passesAll_46, gM_passesAll_47, gM_passesAll_50, gM_passesAll_53, gM_passesAll_54, gM_passesAll_55, gM_passesAll_58, gM_passesAll_61, gM_passesAll_62, gM_passesAll_63, gM_passesAll_64, gM_passesAll_67, gM_passesAll_70, gM_passesAll_73, gM_passesAll_74, gM_passesAll_75, gM_passesAll_76, gM_passesAll_79, gM_passesAll_82, gM_passesAll_85, gM_passesAll_86, gM_passesAll_87, gM_passesAll_88, gM_passesAll_91, gM_passesAll_94, gM_passesAll_97, ↓reduceIte, Bool.false_eq_true, Bool.true_eq_false, qk_i, qk_r, qk_n, Option.toList_some, Option.toList_none, List.cons_append, List.nil_append, true_and, and_true, true_or, or_true, eq_self, if_true, if_false, q_b1, q_b2, c_A, c_R, c_O, c_M, c_H1, c_H8, c_H15, p8, e7, d8, f6 8 (by decide) (by decide)]
  rw [x_M_passOne_k (c := c + 61) (by omega) (by rw [q_put_at, if_neg (by decide), q_put_at, if_neg (by decide), q_put_ne (by decide)]; exact b19) (by rw [q_put_at, if_neg (by decide), q_put_at, if_pos rfl])]
  simp only [gM_passesAll_0, gM_passesAll_1, gM_passesAll_3, gM_passesAll_4, gM_passesAll_5, gM_passesAll_8, gM_passesAll_9, gM_passesAll_10, gM_passesAll_13, gM_passesAll_14, gM_passesAll_15, gM_passesAll_18, gM_passesAll_21, gM_passesAll_22, gM_passesAll_23, gM_passesAll_26, gM_passesAll_29, gM_passesAll_30, gM_passesAll_31, gM_passesAll_34, gM_passesAll_37, gM_passesAll_38, gM_passesAll_39, gM_passesAll_42, gM_passesAll_45, gM_passesAll_46, gM_passesAll_47, gM_passesAll_50, gM_passesAll_53, gM_passesAll_54, gM_passesAll_55, gM_passesAll_58, gM_passesAll_61, gM_passesAll_62, gM_passesAll_63, gM_passesAll_64, gM_passesAll_67, gM_passesAll_70, gM_passesAll_73, gM_passesAll_74, gM_passesAll_75, gM_passesAll_76, gM_passesAll_79, gM_passesAll_82, gM_passesAll_85, gM_passesAll_86, gM_passesAll_87, gM_passesAll_88, gM_passesAll_91, gM_passesAll_94, gM_passesAll_97, ↓reduceIte, Bool.false_eq_true, Bool.true_eq_false, qk_i, qk_r, qk_n, Option.toList_some, Option.toList_none, List.cons_append, List.nil_append, true_and, and_true, true_or, or_true, eq_self, if_true, if_false, q_b1, q_b2, c_A, c_R, c_O, c_M, c_H1, c_H8, c_H15, p9, p7, e7, d9, f6 9 (by decide) (by decide)]
  rw [x_M_passOne_k (c := c + 62) (by omega) (by rw [q_put_at, if_neg (by decide), q_put_at, if_neg (by decide), q_put_ne (by decide), q_put_at, if_neg (by decide), q_put_at, if_neg (by decide), q_put_ne (by decide)]; exact b19) (by rw [q_put_at, if_neg (by decide), q_put_at, if_pos rfl])]
  simp only [gM_passesAll_0, gM_passesAll_1, gM_passesAll_3, gM_passesAll_4, gM_passesAll_5, gM_passesAll_8, gM_passesAll_9, gM_passesAll_10, gM_passesAll_13, gM_passesAll_14, gM_passesAll_15, gM_passesAll_18, gM_passesAll_21, gM_passesAll_22, gM_passesAll_23, gM_passesAll_26, gM_passesAll_29, gM_passesAll_30, gM_passesAll_31, gM_passesAll_34, gM_passesAll_37, gM_passesAll_38, gM_passesAll_39, gM_passesAll_42, gM_passesAll_45, gM_passesAll_46, gM_passesAll_47, gM_passesAll_50, gM_passesAll_53, gM_passesAll_54, gM_passesAll_55, gM_passesAll_58, gM_passesAll_61, gM_passesAll_62, gM_passesAll_63, gM_passesAll_64, gM_passesAll_67, gM_passesAll_70, gM_passesAll_73, gM_passesAll_74, gM_passesAll_75, gM_passesAll_76, gM_passesAll_79, gM_passesAll_82, gM_passesAll_85, gM_passesAll_86, gM_passesAll_87, gM_passesAll_88, gM_passesAll_91, gM_passesAll_94, gM_passesAll_97, ↓reduceIte, Bool.false_eq_true, Bool.true_eq_false, qk_i, qk_r, qk_n, Option.toList_some, Option.toList_none, List.cons_append, List.nil_append, true_and, and_true, true_or, or_true, eq_self, if_true, if_false, q_b1, q_b2, c_A, c_R, c_O, c_M, c_H1, c_H8, c_H15]
  rfl
/-- what a house kept at c is, put back -/
def s_r0 (M : q_M) (c : Nat) : q_M := q_put (q_put M 30 20 (nI c)) 30 19 0
def s_r6 (M : q_M) (c : Nat) : q_M := s_rs (s_rs (s_rs (s_rs (s_rs (s_rs (s_r0 M c) 32 c 10) 33 (c + 10) 10) 34 (c + 10 + 10) 10) 35 (c + 10 + 10 + 10) 10) 36 (c + 10 + 10 + 10 + 10) 10) 37 (c + 10 + 10 + 10 + 10 + 10) 10
def s_rA (M : q_M) (c : Nat) : q_M := q_put (q_put (q_put (q_put (q_put (q_put (s_r6 M c) 30 20 (nI (c + 61))) 30 7 (M 42 (c + 60))) 30 20 (nI (c + 62))) 30 8 (M 42 (c + 61))) 30 20 (nI (c + 63))) 30 9 (M 42 (c + 62))
theorem r6_30 {c f : Nat} (h : f ≠ 20) : s_r6 M c 30 f = s_r0 M c 30 f := by
  unfold s_r6
  rw [rs_30 (by decide) h, rs_30 (by decide) h, rs_30 (by decide) h, rs_30 (by decide) h, rs_30 (by decide) h, rs_30 (by decide) h]
theorem r0_30 {c f : Nat} (h : f ≠ 20) (h2 : f ≠ 19) : s_r0 M c 30 f = M 30 f := by
  unfold s_r0
  rw [q_put_at, if_neg h2, q_put_at, if_neg h]
theorem r6_42 {c : Nat} : s_r6 M c 42 = M 42 := by
  unfold s_r6
  rw [rs_ne (by decide) (by decide), rs_ne (by decide) (by decide), rs_ne (by decide) (by decide), rs_ne (by decide) (by decide), rs_ne (by decide) (by decide), rs_ne (by decide) (by decide)]
  unfold s_r0
  rw [q_put_ne (by decide), q_put_ne (by decide)]
theorem x_M_passesAll_r {c : Nat} {w : Int32} (hw : 65 * w = nI c) (hc : c + 63 ≤ 130) : q_Run 136 [.ref 30, .int w, .int 0] M Q = Q none (s_rA M c) := by
  have e0 : q_put (q_put M 30 20 (nI c)) 30 19 0 = s_r0 M c := rfl
  have a19 : s_r0 M c 30 19 = 0 := by simp [s_r0, q_put_at]
  have a20 : s_r0 M c 30 20 = nI c := by simp [s_r0, q_put_at]
  have b19 : s_r6 M c 30 19 = 0 := by rw [r6_30 (by decide)]; exact a19
  have b20 : s_r6 M c 30 20 = nI (c + 60) := by
    unfold s_r6
    rw [rs_20 (by decide)]
  have hu : s_rs (s_rs (s_rs (s_rs (s_rs (s_rs (s_r0 M c) 32 c 10) 33 (c + 10) 10) 34 (c + 10 + 10) 10) 35 (c + 10 + 10 + 10) 10) 36 (c + 10 + 10 + 10 + 10) 10) 37 (c + 10 + 10 + 10 + 10 + 10) 10 = s_r6 M c := rfl
  rw [e_M_passesAll]
  simp only [gM_passesAll_0, gM_passesAll_1, gM_passesAll_3, gM_passesAll_4, gM_passesAll_5, gM_passesAll_8, gM_passesAll_9, gM_passesAll_10, gM_passesAll_13, gM_passesAll_14, gM_passesAll_15, gM_passesAll_18, gM_passesAll_21, gM_passesAll_22, gM_passesAll_23, gM_passesAll_26, gM_passesAll_29, gM_passesAll_30, gM_passesAll_31, gM_passesAll_34, gM_passesAll_37, gM_passesAll_38, gM_passesAll_39, gM_passesAll_42, gM_passesAll_45, gM_passesAll_46, gM_passesAll_47, gM_passesAll_50, gM_passesAll_53, gM_passesAll_54, gM_passesAll_55, gM_passesAll_58, gM_passesAll_61, gM_passesAll_62, gM_passesAll_63, gM_passesAll_64, gM_passesAll_67, gM_passesAll_70, gM_passesAll_73, gM_passesAll_74, gM_passesAll_75, gM_passesAll_76, gM_passesAll_79, gM_passesAll_82, gM_passesAll_85, gM_passesAll_86, gM_passesAll_87, gM_passesAll_88, gM_passesAll_91, gM_passesAll_94, gM_passesAll_97, ↓reduceIte, Bool.false_eq_true, Bool.true_eq_false, qk_i, qk_r, qk_n, Option.toList_some, Option.toList_none, List.cons_append, List.nil_append, true_and, and_true, true_or, or_true, eq_self, if_true, if_false, q_b1, q_b2, c_A, c_R, c_O, c_M, c_H1, c_H8, c_H15, hw, rf_M1, rf_M2, rf_M3, rf_M4, rf_M5, rf_M6, e0]
  rw [x_M_passes_r al_M.1 (c := c) (by omega) a19 a20 (by decide) (by decide)]
  simp only [gM_passesAll_0, gM_passesAll_1, gM_passesAll_3, gM_passesAll_4, gM_passesAll_5, gM_passesAll_8, gM_passesAll_9, gM_passesAll_10, gM_passesAll_13, gM_passesAll_14, gM_passesAll_15, gM_passesAll_18, gM_passesAll_21, gM_passesAll_22, gM_passesAll_23, gM_passesAll_26, gM_passesAll_29, gM_passesAll_30, gM_passesAll_31, gM_passesAll_34, gM_passesAll_37, gM_passesAll_38, gM_passesAll_39, gM_passesAll_42, gM_passesAll_45, gM_passesAll_46, gM_passesAll_47, gM_passesAll_50, gM_passesAll_53, gM_passesAll_54, gM_passesAll_55, gM_passesAll_58, gM_passesAll_61, gM_passesAll_62, gM_passesAll_63, gM_passesAll_64, gM_passesAll_67, gM_passesAll_70, gM_passesAll_73, gM_passesAll_74, gM_passesAll_75, gM_passesAll_76, gM_passesAll_79, gM_passesAll_82, gM_passesAll_85, gM_passesAll_86, gM_passesAll_87, gM_passesAll_88, gM_passesAll_91, gM_passesAll_94, gM_passesAll_97, ↓reduceIte, Bool.false_eq_true, Bool.true_eq_false, qk_i, qk_r, qk_n, Option.toList_some, Option.toList_none, List.cons_append, List.nil_append, true_and, and_true, true_or, or_true, eq_self, if_true, if_false, q_b1, q_b2, c_A, c_R, c_O, c_M, c_H1, c_H8, c_H15, rf_M1, rf_M2, rf_M3, rf_M4, rf_M5, rf_M6]
  rw [x_M_passes_r al_M.2.1 (c := c + 10) (by omega) (by rw [rs_30 (by decide) (by decide)]; exact a19) (rs_20 (by decide)) (by decide) (by decide)]
  simp only [gM_passesAll_0, gM_passesAll_1, gM_passesAll_3, gM_passesAll_4, gM_passesAll_5, gM_passesAll_8, gM_passesAll_9, gM_passesAll_10, gM_passesAll_13, gM_passesAll_14, gM_passesAll_15, gM_passesAll_18, gM_passesAll_21, gM_passesAll_22, gM_passesAll_23, gM_passesAll_26, gM_passesAll_29, gM_passesAll_30, gM_passesAll_31, gM_passesAll_34, gM_passesAll_37, gM_passesAll_38, gM_passesAll_39, gM_passesAll_42, gM_passesAll_45, gM_passesAll_46, gM_passesAll_47, gM_passesAll_50, gM_passesAll_53, gM_passesAll_54, gM_passesAll_55, gM_passesAll_58, gM_passesAll_61, gM_passesAll_62, gM_passesAll_63, gM_passesAll_64, gM_passesAll_67, gM_passesAll_70, gM_passesAll_73, gM_passesAll_74, gM_passesAll_75, gM_passesAll_76, gM_passesAll_79, gM_passesAll_82, gM_passesAll_85, gM_passesAll_86, gM_passesAll_87, gM_passesAll_88, gM_passesAll_91, gM_passesAll_94, gM_passesAll_97, ↓reduceIte, Bool.false_eq_true, Bool.true_eq_false, qk_i, qk_r, qk_n, Option.toList_some, Option.toList_none, List.cons_append, List.nil_append, true_and, and_true, true_or, or_true, eq_self, if_true, if_false, q_b1, q_b2, c_A, c_R, c_O, c_M, c_H1, c_H8, c_H15, rf_M1, rf_M2, rf_M3, rf_M4, rf_M5, rf_M6]
  rw [x_M_passes_r al_M.2.2.1 (c := c + 10 + 10) (by omega) (by rw [rs_30 (by decide) (by decide), rs_30 (by decide) (by decide)]; exact a19) (rs_20 (by decide)) (by decide) (by decide)]
  simp only [gM_passesAll_0, gM_passesAll_1, gM_passesAll_3, gM_passesAll_4, gM_passesAll_5, gM_passesAll_8, gM_passesAll_9, gM_passesAll_10, gM_passesAll_13, gM_passesAll_14, gM_passesAll_15, gM_passesAll_18, gM_passesAll_21, gM_passesAll_22, gM_passesAll_23, gM_passesAll_26, gM_passesAll_29, gM_passesAll_30, gM_passesAll_31, gM_passesAll_34, gM_passesAll_37, gM_passesAll_38, gM_passesAll_39, gM_passesAll_42, gM_passesAll_45, gM_passesAll_46, gM_passesAll_47, gM_passesAll_50, gM_passesAll_53, gM_passesAll_54, gM_passesAll_55, gM_passesAll_58, gM_passesAll_61, gM_passesAll_62, gM_passesAll_63, gM_passesAll_64, gM_passesAll_67, gM_passesAll_70, gM_passesAll_73, gM_passesAll_74, gM_passesAll_75, gM_passesAll_76, gM_passesAll_79, gM_passesAll_82, gM_passesAll_85, gM_passesAll_86, gM_passesAll_87, gM_passesAll_88, gM_passesAll_91, gM_passesAll_94, gM_passesAll_97, ↓reduceIte, Bool.false_eq_true, Bool.true_eq_false, qk_i, qk_r, qk_n, Option.toList_some, Option.toList_none, List.cons_append, List.nil_append, true_and, and_true, true_or, or_true, eq_self, if_true, if_false, q_b1, q_b2, c_A, c_R, c_O, c_M, c_H1, c_H8, c_H15, rf_M1, rf_M2, rf_M3, rf_M4, rf_M5, rf_M6]
  rw [x_M_passes_r al_M.2.2.2.1 (c := c + 10 + 10 + 10) (by omega) (by rw [rs_30 (by decide) (by decide), rs_30 (by decide) (by decide), rs_30 (by decide) (by decide)]; exact a19) (rs_20 (by decide)) (by decide) (by decide)]
  simp only [gM_passesAll_0, gM_passesAll_1, gM_passesAll_3, gM_passesAll_4, gM_passesAll_5, gM_passesAll_8, gM_passesAll_9, gM_passesAll_10, gM_passesAll_13, gM_passesAll_14, gM_passesAll_15, gM_passesAll_18, gM_passesAll_21, gM_passesAll_22, gM_passesAll_23, gM_passesAll_26, gM_passesAll_29, gM_passesAll_30, gM_passesAll_31, gM_passesAll_34, gM_passesAll_37, gM_passesAll_38, gM_passesAll_39, gM_passesAll_42, gM_passesAll_45, gM_passesAll_46, gM_passesAll_47, gM_passesAll_50, gM_passesAll_53, gM_passesAll_54, gM_passesAll_55, gM_passesAll_58, gM_passesAll_61, gM_passesAll_62, gM_passesAll_63, gM_passesAll_64, gM_passesAll_67, gM_passesAll_70, gM_passesAll_73, gM_passesAll_74, gM_passesAll_75, gM_passesAll_76, gM_passesAll_79, gM_passesAll_82, gM_passesAll_85, gM_passesAll_86, gM_passesAll_87, gM_passesAll_88, gM_passesAll_91, gM_passesAll_94, gM_passesAll_97, ↓reduceIte, Bool.false_eq_true, Bool.true_eq_false, qk_i, qk_r, qk_n, Option.toList_some, Option.toList_none, List.cons_append, List.nil_append, true_and, and_true, true_or, or_true, eq_self, if_true, if_false, q_b1, q_b2, c_A, c_R, c_O, c_M, c_H1, c_H8, c_H15, rf_M1, rf_M2, rf_M3, rf_M4, rf_M5, rf_M6]
  rw [x_M_passes_r al_M.2.2.2.2.1 (c := c + 10 + 10 + 10 + 10) (by omega) (by rw [rs_30 (by decide) (by decide), rs_30 (by decide) (by decide), rs_30 (by decide) (by decide), rs_30 (by decide) (by decide)]; exact a19) (rs_20 (by decide)) (by decide) (by decide)]
  simp only [gM_passesAll_0, gM_passesAll_1, gM_passesAll_3, gM_passesAll_4, gM_passesAll_5, gM_passesAll_8, gM_passesAll_9, gM_passesAll_10, gM_passesAll_13, gM_passesAll_14, gM_passesAll_15, gM_passesAll_18, gM_passesAll_21, gM_passesAll_22, gM_passesAll_23, gM_passesAll_26, gM_passesAll_29, gM_passesAll_30, gM_passesAll_31, gM_passesAll_34, gM_passesAll_37, gM_passesAll_38, gM_passesAll_39, gM_passesAll_42, gM_passesAll_45, gM_passesAll_46, gM_passesAll_47, gM_passesAll_50, gM_passesAll_53, gM_passesAll_54, gM_passesAll_55, gM_passesAll_58, gM_passesAll_61, gM_passesAll_62, gM_passesAll_63, gM_passesAll_64, gM_passesAll_67, gM_passesAll_70, gM_passesAll_73, gM_passesAll_74, gM_passesAll_75, gM_passesAll_76, gM_passesAll_79, gM_passesAll_82, gM_passesAll_85, gM_passesAll_86, gM_passesAll_87, gM_passesAll_88, gM_passesAll_91, gM_passesAll_94, gM_passesAll_97, ↓reduceIte, Bool.false_eq_true, Bool.true_eq_false, qk_i, qk_r, qk_n, Option.toList_some, Option.toList_none, List.cons_append, List.nil_append, true_and, and_true, true_or, or_true, eq_self, if_true, if_false, q_b1, q_b2, c_A, c_R, c_O, c_M, c_H1, c_H8, c_H15, rf_M1, rf_M2, rf_M3, rf_M4, rf_M5, rf_M6]
  rw [x_M_passes_r al_M.2.2.2.2.2 (c := c + 10 + 10 + 10 + 10 + 10) (by omega) (by rw [rs_30 (by decide) (by decide), rs_30 (by decide) (by decide), rs_30 (by decide) (by decide), rs_30 (by decide) (by decide), rs_30 (by decide) (by decide)]; exact a19) (rs_20 (by decide)) (by decide) (by decide)]
  rw [hu]
  simp only [gM_passesAll_0, gM_passesAll_1, gM_passesAll_3, gM_passesAll_4, gM_passesAll_5, gM_passesAll_8, gM_passesAll_9, gM_passesAll_10, gM_passesAll_13, gM_passesAll_14, gM_passesAll_15, gM_passesAll_18, gM_passesAll_21, gM_passesAll_22, gM_passesAll_23, gM_passesAll_26, gM_passesAll_29, gM_passesAll_30, gM_passesAll_31, gM_passesAll_34, gM_passesAll_37, gM_passesAll_38, gM_passesAll_39, gM_passesAll_42, gM_passesAll_45, gM_passesAll_46, gM_passesAll_47, gM_passesAll_50, gM_passesAll_53, gM_passesAll_54, gM_passesAll_55, gM_passesAll_58, gM_passesAll_61, gM_passesAll_62, gM_passesAll_63, gM_passesAll_64, gM_passesAll_67, gM_passesAll_70, gM_passesAll_73, gM_passesAll_74, gM_passesAll_75, gM_passesAll_76, gM_passesAll_79, gM_passesAll_82, gM_passesAll_85, gM_passesAll_86, gM_passesAll_87, gM_passesAll_88, gM_passesAll_91, gM_passesAll_94, gM_passesAll_97, ↓reduceIte, Bool.false_eq_true, Bool.true_eq_false, qk_i, qk_r, qk_n, Option.toList_some, Option.toList_none, List.cons_append, List.nil_append, true_and, and_true, true_or, or_true, eq_self, if_true, if_false, q_b1, q_b2, c_A, c_R, c_O, c_M, c_H1, c_H8, c_H15]
  rw [x_M_passOne_r (c := c + 60) (by omega) b19 b20]
  have e42 : ∀ (N : q_M) j w, q_put N 30 j w 42 = N 42 := fun N j w => q_put_ne (by decide)
  simp only [gM_passesAll_0, gM_passesAll_1, gM_passesAll_3, gM_passesAll_4, gM_passesAll_5, gM_passesAll_8, gM_passesAll_9, gM_passesAll_10, gM_passesAll_13, gM_passesAll_14, gM_passesAll_15, gM_passesAll_18, gM_passesAll_21, gM_passesAll_22, gM_passesAll_23, gM_passesAll_26, gM_passesAll_29, gM_passesAll_30, gM_passesAll_31, gM_passesAll_34, gM_passesAll_37, gM_passesAll_38, gM_passesAll_39, gM_passesAll_42, gM_passesAll_45, gM_passesAll_46, gM_passesAll_47, gM_passesAll_50, gM_passesAll_53, gM_passesAll_54, gM_passesAll_55, gM_passesAll_58, gM_passesAll_61, gM_passesAll_62, gM_passesAll_63, gM_passesAll_64, gM_passesAll_67, gM_passesAll_70, gM_passesAll_73, gM_passesAll_74, gM_passesAll_75, gM_passesAll_76, gM_passesAll_79, gM_passesAll_82, gM_passesAll_85, gM_passesAll_86, gM_passesAll_87, gM_passesAll_88, gM_passesAll_91, gM_passesAll_94, gM_passesAll_97, ↓reduceIte, Bool.false_eq_true, Bool.true_eq_false, qk_i, qk_r, qk_n, Option.toList_some, Option.toList_none, List.cons_append, List.nil_append, true_and, and_true, true_or, or_true, eq_self, if_true, if_false, q_b1, q_b2, c_A, c_R, c_O, c_M, c_H1, c_H8, c_H15]
  rw [x_M_passOne_r (c := c + 61) (by omega) (by rw [q_put_at, if_neg (by decide), q_put_at, if_neg (by decide)]; exact b19) (by rw [q_put_at, if_neg (by decide), q_put_at, if_pos rfl])]
  simp only [gM_passesAll_0, gM_passesAll_1, gM_passesAll_3, gM_passesAll_4, gM_passesAll_5, gM_passesAll_8, gM_passesAll_9, gM_passesAll_10, gM_passesAll_13, gM_passesAll_14, gM_passesAll_15, gM_passesAll_18, gM_passesAll_21, gM_passesAll_22, gM_passesAll_23, gM_passesAll_26, gM_passesAll_29, gM_passesAll_30, gM_passesAll_31, gM_passesAll_34, gM_passesAll_37, gM_passesAll_38, gM_passesAll_39, gM_passesAll_42, gM_passesAll_45, gM_passesAll_46, gM_passesAll_47, gM_passesAll_50, gM_passesAll_53, gM_passesAll_54, gM_passesAll_55, gM_passesAll_58, gM_passesAll_61, gM_passesAll_62, gM_passesAll_63, gM_passesAll_64, gM_passesAll_67, gM_passesAll_70, gM_passesAll_73, gM_passesAll_74, gM_passesAll_75, gM_passesAll_76, gM_passesAll_79, gM_passesAll_82, gM_passesAll_85, gM_passesAll_86, gM_passesAll_87, gM_passesAll_88, gM_passesAll_91, gM_passesAll_94, gM_passesAll_97, ↓reduceIte, Bool.false_eq_true, Bool.true_eq_false, qk_i, qk_r, qk_n, Option.toList_some, Option.toList_none, List.cons_append, List.nil_append, true_and, and_true, true_or, or_true, eq_self, if_true, if_false, q_b1, q_b2, c_A, c_R, c_O, c_M, c_H1, c_H8, c_H15]
  rw [x_M_passOne_r (c := c + 62) (by omega) (by rw [q_put_at, if_neg (by decide), q_put_at, if_neg (by decide), q_put_at, if_neg (by decide), q_put_at, if_neg (by decide)]; exact b19) (by rw [q_put_at, if_neg (by decide), q_put_at, if_pos rfl])]
  simp only [gM_passesAll_0, gM_passesAll_1, gM_passesAll_3, gM_passesAll_4, gM_passesAll_5, gM_passesAll_8, gM_passesAll_9, gM_passesAll_10, gM_passesAll_13, gM_passesAll_14, gM_passesAll_15, gM_passesAll_18, gM_passesAll_21, gM_passesAll_22, gM_passesAll_23, gM_passesAll_26, gM_passesAll_29, gM_passesAll_30, gM_passesAll_31, gM_passesAll_34, gM_passesAll_37, gM_passesAll_38, gM_passesAll_39, gM_passesAll_42, gM_passesAll_45, gM_passesAll_46, gM_passesAll_47, gM_passesAll_50, gM_passesAll_53, gM_passesAll_54, gM_passesAll_55, gM_passesAll_58, gM_passesAll_61, gM_passesAll_62, gM_passesAll_63, gM_passesAll_64, gM_passesAll_67, gM_passesAll_70, gM_passesAll_73, gM_passesAll_74, gM_passesAll_75, gM_passesAll_76, gM_passesAll_79, gM_passesAll_82, gM_passesAll_85, gM_passesAll_86, gM_passesAll_87, gM_passesAll_88, gM_passesAll_91, gM_passesAll_94, gM_passesAll_97, ↓reduceIte, Bool.false_eq_true, Bool.true_eq_false, qk_i, qk_r, qk_n, Option.toList_some, Option.toList_none, List.cons_append, List.nil_append, true_and, and_true, true_or, or_true, eq_self, if_true, if_false, q_b1, q_b2, c_A, c_R, c_O, c_M, c_H1, c_H8, c_H15, e42, r6_42]
  rfl
/-! what is where, then -/
theorem kA_f {c f : Nat} (h : f ≠ 19) (h2 : f ≠ 20) : s_kA M c 30 f = M 30 f := by
  have e : ∀ (N : q_M) i v, q_put N 42 i v 30 = N 30 := fun N i v => q_put_ne (by decide)
  unfold s_kA
  rw [q_put_at]
  split
  · rename_i q; rw [q]
  rw [q_put_at, if_neg h2, e, q_put_at]
  split
  · rename_i q; rw [q]
  rw [q_put_at, if_neg h2, e, q_put_at]
  split
  · rename_i q; rw [q]
  rw [q_put_at, if_neg h2, e, k6_30 h2, k0_30 h2 h]
theorem kA_cell {c cell : Nat} (h : cell ≠ 30) (h2 : cell ≠ 42) : s_kA M c cell = M cell := by
  unfold s_kA s_k6 s_k0
  rw [q_put_ne h, q_put_ne h, q_put_ne h2, q_put_ne h, q_put_ne h, q_put_ne h2, q_put_ne h, q_put_ne h, q_put_ne h2, kp_ne h2 h, kp_ne h2 h, kp_ne h2 h, kp_ne h2 h, kp_ne h2 h, kp_ne h2 h, q_put_ne h, q_put_ne h]
theorem kA_42 {c i : Nat} : s_kA M c 42 i = if i = c + 62 then M 30 9 else if i = c + 61 then M 30 8 else if i = c + 60 then M 30 7 else s_k6 M c 42 i := by
  unfold s_kA
  rw [q_put_ne (by decide), q_put_ne (by decide), q_put_at]
  split
  · rfl
  rw [q_put_ne (by decide), q_put_ne (by decide), q_put_at]
  split
  · rfl
  rw [q_put_ne (by decide), q_put_ne (by decide), q_put_at]
theorem k0_42 {c : Nat} : s_k0 M c 42 = M 42 := by
  unfold s_k0
  rw [q_put_ne (by decide), q_put_ne (by decide)]
theorem kA_out {c i : Nat} (h : i < c ∨ c + 63 ≤ i) : s_kA M c 42 i = M 42 i := by
  rw [kA_42, if_neg (by omega), if_neg (by omega), if_neg (by omega)]
  unfold s_k6
  rw [kp_out (by omega), kp_out (by omega), kp_out (by omega), kp_out (by omega), kp_out (by omega), kp_out (by omega), k0_42]
theorem kA_sure {c t : Nat} (h : t < 10) : s_kA M c 42 (c + 20 + t) = M 34 t := by
  rw [kA_42, if_neg (by omega), if_neg (by omega), if_neg (by omega)]
  unfold s_k6
  rw [kp_out (by omega), kp_out (by omega), kp_out (by omega), show c + 20 + t = c + 10 + 10 + t by omega, kp_in h, kp_ne (by decide) (by decide), kp_ne (by decide) (by decide)]
  unfold s_k0
  rw [q_put_ne (by decide), q_put_ne (by decide)]
theorem rA_f {c f : Nat} (h : f ≠ 19) (h2 : f ≠ 20) (h7 : f ≠ 7) (h8 : f ≠ 8) (h9 : f ≠ 9) : s_rA M c 30 f = M 30 f := by
  unfold s_rA
  rw [q_put_at, if_neg h9, q_put_at, if_neg h2, q_put_at, if_neg h8, q_put_at, if_neg h2, q_put_at, if_neg h7, q_put_at, if_neg h2, r6_30 h2, r0_30 h2 h]
theorem rA_7 {c : Nat} : s_rA M c 30 7 = M 42 (c + 60) := by simp [s_rA, q_put_at]
theorem rA_8 {c : Nat} : s_rA M c 30 8 = M 42 (c + 61) := by simp [s_rA, q_put_at]
theorem rA_9 {c : Nat} : s_rA M c 30 9 = M 42 (c + 62) := by simp [s_rA, q_put_at]
theorem rA_cell {c cell : Nat} (h : cell ≠ 30) (h2 : cell < 32 ∨ 37 < cell) : s_rA M c cell = M cell := by
  unfold s_rA s_r6 s_r0
  rw [q_put_ne h, q_put_ne h, q_put_ne h, q_put_ne h, q_put_ne h, q_put_ne h, rs_ne (by omega) h, rs_ne (by omega) h, rs_ne (by omega) h, rs_ne (by omega) h, rs_ne (by omega) h, rs_ne (by omega) h, q_put_ne h, q_put_ne h]
theorem rA_sure {c t : Nat} (h : t < 10) : s_rA M c 34 t = M 42 (c + 20 + t) := by
  unfold s_rA s_r6
  rw [q_put_ne (by decide), q_put_ne (by decide), q_put_ne (by decide), q_put_ne (by decide), q_put_ne (by decide), q_put_ne (by decide), rs_ne (by decide) (by decide), rs_ne (by decide) (by decide), rs_ne (by decide) (by decide), rs_in (by decide) h, rs_ne (by decide) (by decide), rs_ne (by decide) (by decide)]
  unfold s_r0
  rw [q_put_ne (by decide), q_put_ne (by decide)]
/-- a house that is kept at c holds together -/
def v_k (M : q_M) (c : Nat) : Prop := ∃ n h, n ≤ 10 ∧ M 42 (c + 60) = nI n ∧ M 42 (c + 61) = nI h ∧ h < 2 ^ n ∧ ∀ t, t < n → ¬ M 42 (c + 20 + t) = 0
theorem v_k.of {M' : q_M} {c : Nat} (v : v_k M c) (e : ∀ i, c ≤ i → i < c + 63 → M' 42 i = M 42 i) : v_k M' c := by
  obtain ⟨n, h, h10, a, b, d, f⟩ := v
  exact ⟨n, h, h10, by rw [e _ (by omega) (by omega)]; exact a, by rw [e _ (by omega) (by omega)]; exact b, d, fun t ht => by rw [e _ (by omega) (by omega)]; exact f t ht⟩
theorem kA_v {c : Nat} (v : v_M M) : v_k (s_kA M c) c := by
  obtain ⟨n, h, a, h10, b, d, f⟩ := v
  refine ⟨n, h, h10, ?_, ?_, d, fun t ht => ?_⟩
  · rw [kA_42, if_neg (by omega), if_neg (by omega), if_pos rfl]
    exact a
  · rw [kA_42, if_neg (by omega), if_pos rfl]
    exact b
  · rw [kA_sure (by omega)]
    exact f t ht
theorem kA_vM {c : Nat} (v : v_M M) : v_M (s_kA M c) := by
  obtain ⟨n, h, v⟩ := v
  exact ⟨n, h, v.of (kA_f (by decide) (by decide)) (kA_f (by decide) (by decide)) (kA_cell (by decide) (by decide))⟩
theorem rA_v {c : Nat} (v : v_k M c) : v_M (s_rA M c) := by
  obtain ⟨n, h, h10, a, b, d, f⟩ := v
  exact ⟨n, h, by rw [rA_7]; exact a, h10, by rw [rA_8]; exact b, d, fun t ht => by rw [rA_sure (by omega)]; exact f t ht⟩
end MP
