/-! sets as numbers below 1024; the class's words by numbers; what REACH is -/
/-- x without y -/
def dif (x y : Nat) : Nat := x &&& (1023 ^^^ y)
def rN (H : q_M) (n s : Nat) : Nat := rwN H n (2 ^ n - 1) 10 s
section SETS
variable {Q : q_R} {M H : q_M} {n h x y s al : Nat}
theorem tb_1023 (i : Nat) : (1023 : Nat).testBit i = decide (i < 10) := Nat.testBit_two_pow_sub_one 10 i
theorem tb_all (n i : Nat) : (2 ^ n - 1).testBit i = decide (i < n) := Nat.testBit_two_pow_sub_one n i
theorem tb_lt (hx : x < 1024) {i : Nat} (hi : x.testBit i = true) : i < 10 := by
  rcases Nat.lt_or_ge i 10 with q | q
  · exact q
  · have : x.testBit i = false := Nat.testBit_lt_two_pow (Nat.lt_of_lt_of_le hx (Nat.pow_le_pow_right (n := 2) (by omega) q))
    rw [this] at hi
    cases hi
theorem tb_ltn {m : Nat} (hx : x < 2 ^ m) {i : Nat} (hi : x.testBit i = true) : i < m := by
  rcases Nat.lt_or_ge i m with q | q
  · exact q
  · have : x.testBit i = false := Nat.testBit_lt_two_pow (Nat.lt_of_lt_of_le hx (Nat.pow_le_pow_right (n := 2) (by omega) q))
    rw [this] at hi
    cases hi
theorem dif_tb (hx : x < 1024) (i : Nat) : (dif x y).testBit i = (x.testBit i && !y.testBit i) := by
  unfold dif
  rw [Nat.testBit_and, Nat.testBit_xor, tb_1023]
  cases hb : x.testBit i
  · rfl
  · rw [decide_eq_true (tb_lt hx hb)]
    cases y.testBit i <;> rfl
theorem dif_le : dif x y ≤ x := Nat.and_le_left
theorem dif_nI (hx : x < 1024) (y : Nat) : nI x &&& (nI y ^^^ (-1)) = nI (dif x y) := by
  apply b_ext
  intro i hi
  rw [b_and, b_xor, b_m1 i hi, bt_nI hi, bt_nI hi, bt_nI hi, dif_tb hx]
  cases x.testBit i <;> cases y.testBit i <;> rfl
theorem and_dif (hn : n ≤ 10) (hx : x < 2 ^ n) : x &&& dif (2 ^ n - 1) y = dif x y := by
  have h2 := two_pow_le hn
  apply Nat.eq_of_testBit_eq
  intro i
  rw [Nat.testBit_and, dif_tb (by omega), dif_tb (by omega), tb_all]
  cases hb : x.testBit i
  · rfl
  · rw [decide_eq_true (tb_ltn hx hb)]
    cases y.testBit i <;> rfl
theorem mayN_tb' (g : gH H n h) {i : Nat} (hi : (mayN H s n).testBit i = true) : i < n ∧ canN H i s = true := by
  rw [mayN_tb] at hi
  exact ⟨of_decide_eq_true ((Bool.and_eq_true _ _).mp hi).1, ((Bool.and_eq_true _ _).mp hi).2⟩
/-- what REACH holds came from the set, or was allowed -/
theorem rwN_sub : ∀ k s i, (rwN H n al k s).testBit i = true → s.testBit i = true ∨ al.testBit i = true
  | 0, s, i, h => Or.inl h
  | k + 1, s, i, h => by
    unfold rwN at h
    split at h
    · exact Or.inl h
    · rcases rwN_sub k _ i h with q | q
      · rw [Nat.testBit_or, Nat.testBit_and] at q
        rcases (Bool.or_eq_true _ _).mp q with z | z
        · exact Or.inl z
        · exact Or.inr ((Bool.and_eq_true _ _).mp z).2
      · exact Or.inr q
theorem rwN_sup : ∀ k s i, s.testBit i = true → (rwN H n al k s).testBit i = true
  | 0, s, i, h => h
  | k + 1, s, i, h => by
    unfold rwN
    split
    · exact h
    · refine rwN_sup k _ i ?_
      rw [Nat.testBit_or, h, Bool.true_or]
/-- no more may be had -/
theorem rwN_fix (hn : n ≤ 10) : ∀ k s, s < 1024 → 10 ≤ pcN s 10 + k → mayN H (rwN H n al k s) n &&& al = 0
  | 0, s, hs, hp => by
    have hd := and_tb (x := al) (mayN_dis (H := H) hs hn)
    have hm : mayN H s n &&& al < 1024 := Nat.lt_of_le_of_lt Nat.and_le_left (Nat.lt_of_lt_of_le (mayN_lt n) (two_pow_le hn))
    show mayN H s n &&& al = 0
    rcases Nat.eq_zero_or_pos (mayN H s n &&& al) with z | z
    · exact z
    · have h3 := pcN_pos _ hm (by omega)
      have h4 := pcN_or hd 10
      have h5 := pcN_le (s ||| (mayN H s n &&& al)) 10
      omega
  | k + 1, s, hs, hp => by
    unfold rwN
    by_cases c : mayN H s n &&& al = 0
    · rw [if_pos c]
      exact c
    · rw [if_neg c]
      have hd := and_tb (x := al) (mayN_dis (H := H) hs hn)
      have hm : mayN H s n &&& al < 1024 := Nat.lt_of_le_of_lt Nat.and_le_left (Nat.lt_of_lt_of_le (mayN_lt n) (two_pow_le hn))
      have h3 := pcN_pos _ hm c
      have h4 := pcN_or hd 10
      exact rwN_fix hn k _ (Nat.or_lt_two_pow (n := 10) hs hm) (by omega)
theorem rN_lt (g : gH H n h) (hs : s < 1024) : rN H n s < 1024 := rwN_lt g.1 hs 10
theorem rN_ltn (g : gH H n h) (hs : s < 2 ^ n) : rN H n s < 2 ^ n := by
  have h2 := two_pow_le g.1
  have hlt := rN_lt g (show s < 1024 by omega)
  refine Nat.lt_of_not_le fun q => ?_
  obtain ⟨i, hi, hb⟩ := Nat.exists_ge_and_testBit_of_ge_two_pow q
  rcases rwN_sub 10 s i hb with z | z
  · have := tb_ltn hs z
    omega
  · rw [tb_all] at z
    have := of_decide_eq_true z
    omega
/-! the class's words at its house, by numbers -/
theorem y_H_everything (g : gH H n h) (r : RC 1 M H) : q_Run 9 [.ref 1] M Q = Q (some (.int (nI (2 ^ n - 1)))) M := by
  rw [x_H_everything c_H1]
  rw [r.all]
  unfold s_all
  rw [g.2.1, all_nI n g.1]
theorem y_H_reachFrom (g : gH H n h) (r : RC 1 M H) : q_Run 14 [.ref 1, .int (nI s)] M Q = Q (some (.int (nI (rN H n s)))) M := by
  have e : s_rw M 1 n (s_all M 1) 10 (nI s) = nI (rN H n s) := by
    rw [r.rw, r.all]
    unfold s_all
    rw [g.2.1, all_nI n g.1, rw_N (by have := g.1; omega)]
    rfl
  rw [x_H_reachFrom c_H1 (r.2.1.trans g.2.1) g.1, e]
theorem y_H_reachWithin (g : gH H n h) (r : RC 1 M H) : q_Run 15 [.ref 1, .int (nI s), .int (nI al)] M Q = Q (some (.int (nI (rwN H n al 10 s)))) M := by
  have e : s_rw M 1 n (nI al) 10 (nI s) = nI (rwN H n al 10 s) := by rw [r.rw, rw_N (by have := g.1; omega)]
  rw [x_H_reachWithin c_H1 (r.2.1.trans g.2.1) g.1, e]
theorem y_H_mayBy (g : gH H n h) (r : RC 1 M H) : q_Run 12 [.ref 1, .int (nI s)] M Q = Q (some (.int (nI (mayN H s n)))) M := by
  have e : s_may M 1 (nI s) n = nI (mayN H s n) := by rw [r.may, may_N n (by have := g.1; omega)]
  rw [x_H_mayBy c_H1 (r.2.1.trans g.2.1) g.1, e]
theorem y_H_barred (g : gH H n h) (r : RC 1 M H) : q_Run 4 [.ref 1] M Q = Q (some (.int (nI (dif (2 ^ n - 1) (rN H n h))))) M := by
  have h2 := two_pow_le g.1
  have e7 : M 1 7 = nI h := r.2.2.1.trans g.2.2.1
  rw [e_H_barred]
  simp only [gH_barred_0, gH_barred_1, gH_barred_4, gH_barred_5, gH_barred_6, gH_barred_9, gH_barred_10, gH_barred_13, gH_barred_16, gH_barred_17, gH_barred_18, gH_barred_19, ↓reduceIte, Bool.false_eq_true, Bool.true_eq_false, qk_i, qk_r, qk_n, Option.toList_some, Option.toList_none, List.cons_append, List.nil_append, true_and, and_true, true_or, or_true, eq_self, if_true, if_false, q_b1, q_b2, c_A, c_R, c_O, c_M, c_H1, c_H8, c_H15, y_H_everything g r, e7, y_H_reachWithin g r]
  rw [dif_nI (by omega)]
  rfl
theorem e7_of (g : gH H n h) (r : RC 1 M H) : M 1 7 = nI h := r.2.2.1.trans g.2.2.1
theorem e6_of (g : gH H n h) (r : RC 1 M H) : M 1 6 = nI n := r.2.1.trans g.2.1
/-! the reference's REACH, nothing barred -/
theorem y_M_reach0 (g : gH H n h) (r : RM M H) (hs : s < 1024) : q_Run 138 [.ref 30, .int (nI s), .int 0] M Q = Q (some (.int (nI (rN H n s)))) M := x_M_reachOf g r (al_none (by have := g.1; omega)) hs
theorem y_M_whole (g : gH H n h) (r : RM M H) : q_Run 154 [.ref 30] M Q = Q (some (.int (nI (2 ^ n - 1)))) M := by
  rw [x_M_whole, (g.vm r).whole]
end SETS
