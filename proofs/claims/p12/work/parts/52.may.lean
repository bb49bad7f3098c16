/-! MAY and REACH by numbers; the reference's are the class's -/
def canN (H : q_M) (j s : Nat) : Bool := b_can H 0 (nI j) (nI s)
def mayN (H : q_M) (s : Nat) : Nat → Nat
  | 0 => 0
  | k + 1 => if canN H k s = true then mayN H s k ||| 2 ^ k else mayN H s k
/-- REACH within al, at most k rounds -/
def rwN (H : q_M) (n al : Nat) : Nat → Nat → Nat
  | 0, s => s
  | k + 1, s => if mayN H s n &&& al = 0 then s else rwN H n al k (s ||| (mayN H s n &&& al))
section MAY
variable {Q : q_R} {M H : q_M} {n h : Nat}
theorem mayN_tb {s : Nat} : ∀ k j, (mayN H s k).testBit j = (decide (j < k) && canN H j s)
  | 0, j => by simp [mayN]
  | k + 1, j => by
    unfold mayN
    by_cases c : canN H k s = true
    · rw [if_pos c, Nat.testBit_or, mayN_tb k j, Nat.testBit_two_pow]
      by_cases e : k = j
      · subst e
        simp [c]
      · have : decide (j < k + 1) = decide (j < k) := by
          rw [decide_eq_decide]
          omega
        simp [e, this]
    · rw [if_neg c, mayN_tb k j]
      by_cases e : j = k
      · subst e
        simp [c]
      · have : decide (j < k + 1) = decide (j < k) := by
          rw [decide_eq_decide]
          omega
        rw [this]
theorem mayN_lt {s : Nat} : ∀ k, mayN H s k < 2 ^ k
  | 0 => by simp [mayN]
  | k + 1 => by
    have h1 := mayN_lt (s := s) k
    have h2 : 2 ^ (k + 1) = 2 * 2 ^ k := by rw [Nat.pow_succ, Nat.mul_comm]
    unfold mayN
    split
    · exact Nat.or_lt_two_pow (by omega) (Nat.pow_lt_pow_right (by omega) (by omega))
    · omega
theorem may_N {s : Nat} : ∀ k, k ≤ 31 → s_may H 0 (nI s) k = nI (mayN H s k)
  | 0, _ => nI_0.symm
  | k + 1, hk => by
    have ih := may_N (s := s) k (by omega)
    unfold s_may mayN canN
    split
    · rw [ih, sh1_nI k (by omega), or_nI]
    · exact ih
/-- one that is had may not be had -/
theorem can_had {j s : Nat} (hj : j < 10) (hs : s < 1024) (hb : s.testBit j = true) : canN H j s = false := by
  have h1 := had_eq hj hs
  rw [has_nI (by omega) (by omega), hb] at h1
  unfold canN b_can
  rw [h1]
  simp
theorem can_thing' {j s : Nat} (hj : j < 2 ^ 31) (hn : H 0 6 = nI n) (hn2 : n ≤ 10) (hc : canN H j s = true) : j < n := by
  unfold canN at hc
  have h1 := can_thing hc
  unfold b_isThing at h1
  simp only [Bool.and_eq_true, decide_eq_true_eq] at h1
  rcases Nat.lt_or_ge j n with q | q
  · exact q
  · exact absurd (by rw [hn]; exact nI_le q hj) h1.2
theorem mayN_dis {s : Nat} (hs : s < 1024) {k : Nat} (hk : k ≤ 10) : ∀ i, (mayN H s k).testBit i = true → s.testBit i = false := by
  intro i hi
  rw [mayN_tb] at hi
  have h1 := (Bool.and_eq_true _ _).mp hi
  have h2 : i < k := of_decide_eq_true h1.1
  cases hb : s.testBit i
  · rfl
  · rw [can_had (by omega) hs hb] at h1
    exact absurd h1.2 (by decide)
theorem rw_N {al : Nat} (hn : n ≤ 31) : ∀ k (s : Nat), s_rw H 0 n (nI al) k (nI s) = nI (rwN H n al k s)
  | 0, _ => rfl
  | k + 1, s => by
    have hlt : mayN H s n &&& al < 2 ^ 31 := Nat.lt_of_le_of_lt Nat.and_le_left (Nat.lt_of_lt_of_le (mayN_lt n) (Nat.pow_le_pow_right (by omega) hn))
    have e0 : (nI (mayN H s n &&& al) = 0) ↔ (mayN H s n &&& al = 0) := by
      constructor
      · intro q
        rcases Nat.eq_zero_or_pos (mayN H s n &&& al) with z | z
        · exact z
        · exact absurd q (nI_ne0 z hlt)
      · intro q
        rw [q]
        exact nI_0
    unfold s_rw rwN
    rw [may_N n hn, nx_and]
    by_cases c : mayN H s n &&& al = 0
    · rw [if_pos c, if_pos (e0.mpr c)]
    · rw [if_neg c, if_neg (fun q => c (e0.mp q)), or_nI, rw_N hn k]
theorem rwN_lt {al s : Nat} (hn : n ≤ 10) (hs : s < 1024) : ∀ k, rwN H n al k s < 1024
  | 0 => hs
  | k + 1 => by
    unfold rwN
    split
    · exact hs
    · exact rwN_lt hn (Nat.or_lt_two_pow (n := 10) hs (Nat.lt_of_le_of_lt Nat.and_le_left (Nat.lt_of_lt_of_le (mayN_lt n) (two_pow_le hn)))) k
theorem v_can_N {j s : Nat} (g : gH H n h) (r : RM M H) (hj : j < n) (hs : s < 1024) (hb : s.testBit j = false) : v_can M j (nI s) = canN H j s := by
  have h10 := g.1
  obtain ⟨-, -, -, -, ⟨a, ha, ea⟩, -⟩ := g.2.2.2.2.2 j hj
  have h36 : M 36 j = nI a := ((r.e (show j < 10 by omega)).2.2.2.2.1).symm.trans ea
  have h1 := v_can_eq r (r.2.1.trans g.2.1) h10 hj (Nat.lt_of_lt_of_le ha (two_pow_le h10)) hs h36
  rw [has_nI (by omega) (by omega), hb] at h1
  unfold canN
  rw [h1]
  simp
theorem l_M_mayBy {s : Nat} (g : gH H n h) (r : RM M H) (hs : s < 1024) : ∀ k j, j + k = n →
    q_g 124 none Q 4 [some (.ref 30), some (.int (nI s)), some (.int (nI (mayN H s j))), some (.int (nI j))] [] M = Q (some (.int (nI (mayN H s n)))) M := by
  have hv := g.vm r
  have h10 := hv.2.1
  intro k
  induction k with
  | zero =>
    intro j hj
    have : j = n := by omega
    subst this
    rw [gM_mayBy_4]
    simp only [gM_mayBy_0, gM_mayBy_1, gM_mayBy_2, gM_mayBy_3, gM_mayBy_5, gM_mayBy_6, gM_mayBy_9, gM_mayBy_12, gM_mayBy_13, gM_mayBy_14, gM_mayBy_15, gM_mayBy_18, gM_mayBy_21, gM_mayBy_22, gM_mayBy_23, gM_mayBy_24, gM_mayBy_27, gM_mayBy_30, gM_mayBy_31, gM_mayBy_32, gM_mayBy_33, gM_mayBy_36, gM_mayBy_37, gM_mayBy_38, gM_mayBy_39, gM_mayBy_42, gM_mayBy_45, gM_mayBy_46, ↓reduceIte, Bool.false_eq_true, Bool.true_eq_false, qk_i, qk_r, qk_n, Option.toList_some, Option.toList_none, List.cons_append, List.nil_append, true_and, and_true, true_or, or_true, eq_self, if_true, if_false, q_b1, q_b2, c_A, c_R, c_O, c_M, c_H1, c_H8, c_H15, hv.1, Int32.le_refl]
  | succ k ih =>
    intro j hj
    have h1 : ¬ nI n ≤ nI j := nI_ge (by omega) (by omega)
    have ih1 := ih (j + 1) (by omega)
    have e : ∀ m, nI m ||| 0 = nI m := fun m => by rw [← nI_0, or_nI, Nat.or_zero]
    have e2 : nI (mayN H s j) ||| ((1 : Int32) <<< (nI j &&& 31)) = nI (mayN H s j ||| 2 ^ j) := by rw [sh1_nI j (by omega), or_nI]
    rw [gM_mayBy_4]
    simp only [gM_mayBy_0, gM_mayBy_1, gM_mayBy_2, gM_mayBy_3, gM_mayBy_5, gM_mayBy_6, gM_mayBy_9, gM_mayBy_12, gM_mayBy_13, gM_mayBy_14, gM_mayBy_15, gM_mayBy_18, gM_mayBy_21, gM_mayBy_22, gM_mayBy_23, gM_mayBy_24, gM_mayBy_27, gM_mayBy_30, gM_mayBy_31, gM_mayBy_32, gM_mayBy_33, gM_mayBy_36, gM_mayBy_38, gM_mayBy_39, gM_mayBy_42, gM_mayBy_45, gM_mayBy_46, ↓reduceIte, Bool.false_eq_true, Bool.true_eq_false, qk_i, qk_r, qk_n, Option.toList_some, Option.toList_none, List.cons_append, List.nil_append, true_and, and_true, true_or, or_true, eq_self, if_true, if_false, q_b1, q_b2, c_A, c_R, c_O, c_M, c_H1, c_H8, c_H15, hv.1, h1, x_M_has, has_nI (show s < 2 ^ 31 by omega) (show j < 31 by omega), q_z0, x_M_canHave (show j < 10 by omega)]
    cases hb : s.testBit j
    · rw [v_can_N g r (by omega) hs hb]
      cases hc : canN H j s
      · simp only [mayN, hc, Bool.false_eq_true, if_false] at ih1
        simp only [gM_mayBy_0, gM_mayBy_1, gM_mayBy_2, gM_mayBy_3, gM_mayBy_5, gM_mayBy_6, gM_mayBy_9, gM_mayBy_12, gM_mayBy_13, gM_mayBy_14, gM_mayBy_15, gM_mayBy_18, gM_mayBy_21, gM_mayBy_22, gM_mayBy_23, gM_mayBy_24, gM_mayBy_27, gM_mayBy_30, gM_mayBy_31, gM_mayBy_32, gM_mayBy_33, gM_mayBy_36, gM_mayBy_37, gM_mayBy_38, gM_mayBy_39, gM_mayBy_42, gM_mayBy_45, gM_mayBy_46, ↓reduceIte, Bool.false_eq_true, Bool.true_eq_false, qk_i, qk_r, qk_n, Option.toList_some, Option.toList_none, List.cons_append, List.nil_append, true_and, and_true, true_or, or_true, eq_self, if_true, if_false, q_b1, q_b2, c_A, c_R, c_O, c_M, c_H1, c_H8, c_H15, q_z0, nI_1, e, ih1, Bool.true_eq_false, not_false_eq_true, not_true]
      · simp only [mayN, hc, if_true] at ih1
        simp only [gM_mayBy_0, gM_mayBy_1, gM_mayBy_2, gM_mayBy_3, gM_mayBy_5, gM_mayBy_6, gM_mayBy_9, gM_mayBy_12, gM_mayBy_13, gM_mayBy_14, gM_mayBy_15, gM_mayBy_18, gM_mayBy_21, gM_mayBy_22, gM_mayBy_23, gM_mayBy_24, gM_mayBy_27, gM_mayBy_30, gM_mayBy_31, gM_mayBy_32, gM_mayBy_33, gM_mayBy_36, gM_mayBy_37, gM_mayBy_38, gM_mayBy_39, gM_mayBy_42, gM_mayBy_45, gM_mayBy_46, ↓reduceIte, Bool.false_eq_true, Bool.true_eq_false, qk_i, qk_r, qk_n, Option.toList_some, Option.toList_none, List.cons_append, List.nil_append, true_and, and_true, true_or, or_true, eq_self, if_true, if_false, q_b1, q_b2, c_A, c_R, c_O, c_M, c_H1, c_H8, c_H15, q_z0, nI_1, e, e2, ih1, Bool.true_eq_false, not_false_eq_true, not_true]
    · have hc := can_had (H := H) (show j < 10 by omega) hs hb
      simp only [mayN, hc, Bool.false_eq_true, if_false] at ih1
      simp only [gM_mayBy_0, gM_mayBy_1, gM_mayBy_2, gM_mayBy_3, gM_mayBy_5, gM_mayBy_6, gM_mayBy_9, gM_mayBy_12, gM_mayBy_13, gM_mayBy_14, gM_mayBy_15, gM_mayBy_18, gM_mayBy_21, gM_mayBy_22, gM_mayBy_23, gM_mayBy_24, gM_mayBy_27, gM_mayBy_30, gM_mayBy_31, gM_mayBy_32, gM_mayBy_33, gM_mayBy_36, gM_mayBy_37, gM_mayBy_38, gM_mayBy_39, gM_mayBy_42, gM_mayBy_45, gM_mayBy_46, ↓reduceIte, Bool.false_eq_true, Bool.true_eq_false, qk_i, qk_r, qk_n, Option.toList_some, Option.toList_none, List.cons_append, List.nil_append, true_and, and_true, true_or, or_true, eq_self, if_true, if_false, q_b1, q_b2, c_A, c_R, c_O, c_M, c_H1, c_H8, c_H15, nI_1, e, ih1, Bool.true_eq_false, not_false_eq_true]
theorem x_M_mayBy {s : Nat} (g : gH H n h) (r : RM M H) (hs : s < 1024) : q_Run 124 [.ref 30, .int (nI s)] M Q = Q (some (.int (nI (mayN H s n)))) M := by
  rw [e_M_mayBy]
  simp only [gM_mayBy_0, gM_mayBy_1, gM_mayBy_2, gM_mayBy_3, gM_mayBy_5, gM_mayBy_6, gM_mayBy_9, gM_mayBy_12, gM_mayBy_13, gM_mayBy_14, gM_mayBy_15, gM_mayBy_18, gM_mayBy_21, gM_mayBy_22, gM_mayBy_23, gM_mayBy_24, gM_mayBy_27, gM_mayBy_30, gM_mayBy_31, gM_mayBy_32, gM_mayBy_33, gM_mayBy_36, gM_mayBy_37, gM_mayBy_38, gM_mayBy_39, gM_mayBy_42, gM_mayBy_45, gM_mayBy_46, ↓reduceIte, Bool.false_eq_true, Bool.true_eq_false, qk_i, qk_r, qk_n, Option.toList_some, Option.toList_none, List.cons_append, List.nil_append, true_and, and_true, true_or, or_true, eq_self, if_true, if_false, q_b1, q_b2, c_A, c_R, c_O, c_M, c_H1, c_H8, c_H15]
  exact l_M_mayBy g r hs n 0 (by omega)
/-! the rounds are enough -/
theorem pcN_or {a b : Nat} (hd : ∀ i, b.testBit i = true → a.testBit i = false) : ∀ k, pcN (a ||| b) k = pcN a k + pcN b k
  | 0 => rfl
  | k + 1 => by
    unfold pcN
    rw [pcN_or hd k, Nat.testBit_or]
    cases hb : b.testBit k
    · simp
      omega
    · rw [hd k hb]
      simp
      omega
theorem pcN_pos : ∀ m, m < 1024 → m ≠ 0 → 1 ≤ pcN m 10 := by decide +kernel
/-- once no more may be had, the rounds left change nothing; with as many rounds as bits lacking they do all -/
theorem l_M_reachOf {a1 nv : Int32} {al : Nat} (g : gH H n h) (r : RM M H) (hal : ∀ m, m < 2 ^ n → nI m &&& (nv ^^^ (-1)) = nI (m &&& al)) : ∀ k (s : Nat), s < 1024 → 10 ≤ pcN s 10 + k →
    q_g 138 none Q 13 [some (.ref 30), some (.int a1), some (.int nv), some (.int (nI s)), some (.int (nI (mayN H s n &&& al)))] [] M = Q (some (.int (nI (rwN H n al k s)))) M := by
  have h10 := g.1
  have h2 := two_pow_le h10
  intro k
  induction k with
  | zero =>
    intro s hs hp
    have hd := and_tb (x := al) (mayN_dis (H := H) hs h10)
    have hm : mayN H s n &&& al < 1024 := Nat.lt_of_le_of_lt Nat.and_le_left (Nat.lt_of_lt_of_le (mayN_lt n) h2)
    have e0 : mayN H s n &&& al = 0 := by
      rcases Nat.eq_zero_or_pos (mayN H s n &&& al) with z | z
      · exact z
      · have h3 := pcN_pos _ hm (by omega)
        have h4 := pcN_or hd 10
        have h5 := pcN_le (s ||| (mayN H s n &&& al)) 10
        omega
    rw [gM_reachOf_13, e0]
    simp only [gM_reachOf_0, gM_reachOf_1, gM_reachOf_2, gM_reachOf_3, gM_reachOf_4, gM_reachOf_7, gM_reachOf_8, gM_reachOf_9, gM_reachOf_10, gM_reachOf_11, gM_reachOf_15, gM_reachOf_18, gM_reachOf_19, gM_reachOf_21, gM_reachOf_22, gM_reachOf_23, gM_reachOf_24, gM_reachOf_25, gM_reachOf_28, gM_reachOf_29, gM_reachOf_30, gM_reachOf_31, gM_reachOf_32, gM_reachOf_34, gM_reachOf_37, gM_reachOf_38, ↓reduceIte, Bool.false_eq_true, Bool.true_eq_false, qk_i, qk_r, qk_n, Option.toList_some, Option.toList_none, List.cons_append, List.nil_append, true_and, and_true, true_or, or_true, eq_self, if_true, if_false, q_b1, q_b2, c_A, c_R, c_O, c_M, c_H1, c_H8, c_H15, nI_0]
    rfl
  | succ k ih =>
    intro s hs hp
    have hd := and_tb (x := al) (mayN_dis (H := H) hs h10)
    have hm : mayN H s n &&& al < 1024 := Nat.lt_of_le_of_lt Nat.and_le_left (Nat.lt_of_lt_of_le (mayN_lt n) h2)
    have hlt : s ||| (mayN H s n &&& al) < 1024 := Nat.or_lt_two_pow (n := 10) hs hm
    rw [gM_reachOf_13]
    unfold rwN
    by_cases c : mayN H s n &&& al = 0
    · rw [c]
      simp only [gM_reachOf_0, gM_reachOf_1, gM_reachOf_2, gM_reachOf_3, gM_reachOf_4, gM_reachOf_7, gM_reachOf_8, gM_reachOf_9, gM_reachOf_10, gM_reachOf_11, gM_reachOf_15, gM_reachOf_18, gM_reachOf_19, gM_reachOf_21, gM_reachOf_22, gM_reachOf_23, gM_reachOf_24, gM_reachOf_25, gM_reachOf_28, gM_reachOf_29, gM_reachOf_30, gM_reachOf_31, gM_reachOf_32, gM_reachOf_34, gM_reachOf_37, gM_reachOf_38, ↓reduceIte, Bool.false_eq_true, Bool.true_eq_false, qk_i, qk_r, qk_n, Option.toList_some, Option.toList_none, List.cons_append, List.nil_append, true_and, and_true, true_or, or_true, eq_self, if_true, if_false, q_b1, q_b2, c_A, c_R, c_O, c_M, c_H1, c_H8, c_H15, nI_0]
    · have c0 : ¬ nI (mayN H s n &&& al) = 0 := nI_ne0 (by omega) (by omega)
      have h3 := pcN_pos _ hm c
      have h4 := pcN_or hd 10
      simp only [gM_reachOf_0, gM_reachOf_1, gM_reachOf_2, gM_reachOf_3, gM_reachOf_4, gM_reachOf_7, gM_reachOf_8, gM_reachOf_9, gM_reachOf_10, gM_reachOf_11, gM_reachOf_15, gM_reachOf_18, gM_reachOf_19, gM_reachOf_21, gM_reachOf_22, gM_reachOf_23, gM_reachOf_24, gM_reachOf_25, gM_reachOf_28, gM_reachOf_29, gM_reachOf_30, gM_reachOf_31, gM_reachOf_32, gM_reachOf_34, gM_reachOf_37, gM_reachOf_38, ↓reduceIte, Bool.false_eq_true, Bool.true_eq_false, qk_i, qk_r, qk_n, Option.toList_some, Option.toList_none, List.cons_append, List.nil_append, true_and, and_true, true_or, or_true, eq_self, if_true, if_false, q_b1, q_b2, c_A, c_R, c_O, c_M, c_H1, c_H8, c_H15, c, c0, or_nI, x_M_mayBy g r hlt, hal _ (mayN_lt n)]
      exact ih _ hlt (by omega)
theorem x_M_reachOf {s : Nat} {nv : Int32} {al : Nat} (g : gH H n h) (r : RM M H) (hal : ∀ m, m < 2 ^ n → nI m &&& (nv ^^^ (-1)) = nI (m &&& al)) (hs : s < 1024) : q_Run 138 [.ref 30, .int (nI s), .int nv] M Q = Q (some (.int (nI (rwN H n al 10 s)))) M := by
  rw [e_M_reachOf]
  simp only [gM_reachOf_0, gM_reachOf_1, gM_reachOf_2, gM_reachOf_3, gM_reachOf_4, gM_reachOf_7, gM_reachOf_8, gM_reachOf_9, gM_reachOf_10, gM_reachOf_11, gM_reachOf_15, gM_reachOf_18, gM_reachOf_19, gM_reachOf_21, gM_reachOf_22, gM_reachOf_23, gM_reachOf_24, gM_reachOf_25, gM_reachOf_28, gM_reachOf_29, gM_reachOf_30, gM_reachOf_31, gM_reachOf_32, gM_reachOf_34, gM_reachOf_37, gM_reachOf_38, ↓reduceIte, Bool.false_eq_true, Bool.true_eq_false, qk_i, qk_r, qk_n, Option.toList_some, Option.toList_none, List.cons_append, List.nil_append, true_and, and_true, true_or, or_true, eq_self, if_true, if_false, q_b1, q_b2, c_A, c_R, c_O, c_M, c_H1, c_H8, c_H15, x_M_mayBy g r hs, hal _ (mayN_lt n)]
  exact l_M_reachOf g r hal 10 s hs (by omega)
/-- nothing barred -/
theorem al_none (hn : n ≤ 31) : ∀ m, m < 2 ^ n → nI m &&& ((0 : Int32) ^^^ (-1)) = nI (m &&& (2 ^ n - 1)) := by
  intro m hm
  rw [Nat.and_two_pow_sub_one_eq_mod, Nat.mod_eq_of_lt hm]
  apply b_ext
  intro i hi
  rw [b_and, b_xor, b_0, b_m1 i hi]
  simp
end MAY
