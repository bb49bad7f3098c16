/-! the reference's CAN and GO, by its own words, are the class's -/
section HT
variable {Q : q_R} {M : q_M}
theorem s_get_nI {k n j : Nat} (hj : j < n) (hn : n ≤ 2048) : s_get M k n (nI j) = M k j := by
  unfold s_get
  have h1 : ¬ nI j < 0 := Int32.not_lt.mpr (nI_pos' (by omega))
  have h2 : ¬ Int32.ofNat n ≤ nI j := nI_ge (b := n) (by omega) (by omega)
  rw [if_neg h1, if_neg h2, nI_clamp (by omega)]
/-- the reference's minutes of a GO, by its own words -/
def v_lit (M : q_M) (j : Nat) (w : Int32) : Int32 := if b_has w 0 = true then (M 33 j + 1) / 2 else M 33 j
def v_go (M : q_M) (j : Nat) (w : Int32) : Int32 := if M 32 j = 2 then v_lit M j w else if M 32 j = 4 then M 33 j + s_bitsN w 31 else if M 32 j = 5 then (if b_has w 1 = true then v_lit M j w else 2 * v_lit M j w) else M 33 j
theorem x_M_goOf {j : Nat} {w : Int32} (hj : j < 10) : q_Run 107 [.ref 30, .int (nI j), .int w] M Q = Q (some (.int (v_go M j w))) M := by
  have hin : q_in (nI j) 10 = true := q_in_nI hj (by omega)
  have ec : (nI j).toNatClampNeg = j := nI_clamp (by omega)
  rw [e_M_goOf]
  simp only [gM_goOf_0, gM_goOf_1, gM_goOf_2, gM_goOf_5, gM_goOf_8, gM_goOf_9, gM_goOf_12, gM_goOf_13, gM_goOf_14, gM_goOf_15, gM_goOf_16, gM_goOf_17, gM_goOf_18, gM_goOf_21, gM_goOf_22, gM_goOf_25, gM_goOf_26, gM_goOf_28, gM_goOf_29, gM_goOf_32, gM_goOf_33, gM_goOf_34, gM_goOf_64, gM_goOf_65, gM_goOf_66, gM_goOf_67, gM_goOf_70, gM_goOf_71, gM_goOf_72, gM_goOf_73, gM_goOf_76, gM_goOf_77, gM_goOf_78, gM_goOf_79, gM_goOf_80, gM_goOf_83, gM_goOf_86, gM_goOf_87, gM_goOf_90, gM_goOf_91, gM_goOf_92, gM_goOf_93, gM_goOf_94, gM_goOf_95, gM_goOf_98, gM_goOf_99, gM_goOf_100, ↓reduceIte, Bool.false_eq_true, Bool.true_eq_false, qk_i, qk_r, qk_n, Option.toList_some, Option.toList_none, List.cons_append, List.nil_append, true_and, and_true, true_or, or_true, eq_self, if_true, if_false, q_b1, q_b2, c_A, c_R, c_O, c_M, c_H1, c_H8, c_H15, rf_M1, rf_M2, aD_32, aD_33, hin, ec, x_M_bits, x_M_has, q_z0, q_n2, q_jn]
  simp only [gM_goOf_0, gM_goOf_1, gM_goOf_2, gM_goOf_5, gM_goOf_8, gM_goOf_9, gM_goOf_12, gM_goOf_13, gM_goOf_14, gM_goOf_15, gM_goOf_16, gM_goOf_17, gM_goOf_18, gM_goOf_21, gM_goOf_22, gM_goOf_25, gM_goOf_26, gM_goOf_27, gM_goOf_28, gM_goOf_29, gM_goOf_32, gM_goOf_33, gM_goOf_34, gM_goOf_64, gM_goOf_65, gM_goOf_66, gM_goOf_67, gM_goOf_70, gM_goOf_71, gM_goOf_72, gM_goOf_73, gM_goOf_76, gM_goOf_77, gM_goOf_78, gM_goOf_79, gM_goOf_80, gM_goOf_83, gM_goOf_86, gM_goOf_87, gM_goOf_90, gM_goOf_91, gM_goOf_92, gM_goOf_93, gM_goOf_94, gM_goOf_95, gM_goOf_98, gM_goOf_99, gM_goOf_100, ↓reduceIte, Bool.false_eq_true, Bool.true_eq_false, qk_i, qk_r, qk_n, Option.toList_some, Option.toList_none, List.cons_append, List.nil_append, true_and, and_true, true_or, or_true, eq_self, if_true, if_false, q_b1, q_b2, c_A, c_R, c_O, c_M, c_H1, c_H8, c_H15, rf_M1, rf_M2, aD_32, aD_33, hin, ec, x_M_bits, x_M_has, q_z0, q_n2]
  unfold v_go v_lit
  by_cases h2 : M 32 j = 2
  · cases hb : b_has w 0 <;> simp [h2]
  · by_cases h3 : M 32 j = 3
    · simp [h3]
    · by_cases h4 : M 32 j = 4
      · simp [h4]
      · by_cases h5 : M 32 j = 5
        · cases hb : b_has w 0 <;> cases hc : b_has w 1 <;> simp [h5]
        · simp [h2, h3, h4, h5]
def v_one (M : q_M) (j : Nat) (w : Int32) : Bool := decide (M 36 j = 0) || !decide (s_bitsN (M 36 j &&& w) 31 ≤ 0)
def v_every (M : q_M) (j : Nat) (w : Int32) : Bool := decide (M 37 j &&& (w ^^^ (-1)) = 0)
def v_two (M : q_M) (j : Nat) (w : Int32) : Bool := decide (2 ≤ s_bitsN (M 36 j &&& w) 31) || decide (s_bitsN (M 36 j &&& w) 31 = s_bitsN (M 36 j) 31)
def v_can (M : q_M) (j : Nat) (w : Int32) : Bool := if M 32 j = 1 then v_two M j w && v_every M j w else if M 32 j = 3 then v_one M j w || v_every M j w else if M 32 j = 4 then v_two M j w && v_every M j w else v_one M j w && v_every M j w
theorem x_M_canHave {j : Nat} {w : Int32} (hj : j < 10) : q_Run 97 [.ref 30, .int (nI j), .int w] M Q = Q (some (.int (q_z (v_can M j w)))) M := by
  have hin : q_in (nI j) 10 = true := q_in_nI hj (by omega)
  have ec : (nI j).toNatClampNeg = j := nI_clamp (by omega)
  rw [e_M_canHave]
  simp only [gM_canHave_0, gM_canHave_1, gM_canHave_4, gM_canHave_5, gM_canHave_6, gM_canHave_7, gM_canHave_8, gM_canHave_11, gM_canHave_12, gM_canHave_13, gM_canHave_16, gM_canHave_17, gM_canHave_18, gM_canHave_21, gM_canHave_22, gM_canHave_25, gM_canHave_26, gM_canHave_29, gM_canHave_32, gM_canHave_33, gM_canHave_36, gM_canHave_37, gM_canHave_38, gM_canHave_39, gM_canHave_40, gM_canHave_41, gM_canHave_42, gM_canHave_45, gM_canHave_46, gM_canHave_49, gM_canHave_52, gM_canHave_53, gM_canHave_56, gM_canHave_57, gM_canHave_58, gM_canHave_88, gM_canHave_89, gM_canHave_90, gM_canHave_93, gM_canHave_94, gM_canHave_95, gM_canHave_98, gM_canHave_99, gM_canHave_100, gM_canHave_103, gM_canHave_106, gM_canHave_108, gM_canHave_111, gM_canHave_112, gM_canHave_115, gM_canHave_116, gM_canHave_117, gM_canHave_119, gM_canHave_122, gM_canHave_124, gM_canHave_127, gM_canHave_128, gM_canHave_131, gM_canHave_132, gM_canHave_133, gM_canHave_135, gM_canHave_138, gM_canHave_140, gM_canHave_143, gM_canHave_144, gM_canHave_147, gM_canHave_148, ↓reduceIte, Bool.false_eq_true, Bool.true_eq_false, qk_i, qk_r, qk_n, Option.toList_some, Option.toList_none, List.cons_append, List.nil_append, true_and, and_true, true_or, or_true, eq_self, if_true, if_false, q_b1, q_b2, c_A, c_R, c_O, c_M, c_H1, c_H8, c_H15, rf_M1, rf_M5, rf_M6, aD_32, aD_36, aD_37, hin, ec, x_M_bits, q_jn]
  simp only [gM_canHave_0, gM_canHave_1, gM_canHave_4, gM_canHave_5, gM_canHave_6, gM_canHave_7, gM_canHave_8, gM_canHave_11, gM_canHave_12, gM_canHave_13, gM_canHave_16, gM_canHave_17, gM_canHave_18, gM_canHave_21, gM_canHave_22, gM_canHave_25, gM_canHave_26, gM_canHave_29, gM_canHave_30, gM_canHave_32, gM_canHave_33, gM_canHave_36, gM_canHave_37, gM_canHave_38, gM_canHave_39, gM_canHave_40, gM_canHave_41, gM_canHave_42, gM_canHave_45, gM_canHave_46, gM_canHave_49, gM_canHave_52, gM_canHave_53, gM_canHave_56, gM_canHave_57, gM_canHave_58, gM_canHave_88, gM_canHave_89, gM_canHave_90, gM_canHave_93, gM_canHave_94, gM_canHave_95, gM_canHave_98, gM_canHave_99, gM_canHave_100, gM_canHave_103, gM_canHave_106, gM_canHave_108, gM_canHave_111, gM_canHave_112, gM_canHave_115, gM_canHave_116, gM_canHave_117, gM_canHave_119, gM_canHave_122, gM_canHave_124, gM_canHave_127, gM_canHave_128, gM_canHave_131, gM_canHave_132, gM_canHave_133, gM_canHave_135, gM_canHave_138, gM_canHave_140, gM_canHave_143, gM_canHave_144, gM_canHave_147, gM_canHave_148, ↓reduceIte, Bool.false_eq_true, Bool.true_eq_false, qk_i, qk_r, qk_n, Option.toList_some, Option.toList_none, List.cons_append, List.nil_append, true_and, and_true, true_or, or_true, eq_self, if_true, if_false, q_b1, q_b2, c_A, c_R, c_O, c_M, c_H1, c_H8, c_H15, rf_M1, rf_M5, rf_M6, aD_32, aD_36, aD_37, hin, ec, x_M_bits, q_jn]
  simp only [gM_canHave_0, gM_canHave_1, gM_canHave_4, gM_canHave_5, gM_canHave_6, gM_canHave_7, gM_canHave_8, gM_canHave_11, gM_canHave_12, gM_canHave_13, gM_canHave_16, gM_canHave_17, gM_canHave_18, gM_canHave_21, gM_canHave_22, gM_canHave_25, gM_canHave_26, gM_canHave_29, gM_canHave_30, gM_canHave_32, gM_canHave_33, gM_canHave_36, gM_canHave_37, gM_canHave_38, gM_canHave_39, gM_canHave_40, gM_canHave_41, gM_canHave_42, gM_canHave_45, gM_canHave_46, gM_canHave_49, gM_canHave_50, gM_canHave_52, gM_canHave_53, gM_canHave_56, gM_canHave_57, gM_canHave_58, gM_canHave_88, gM_canHave_89, gM_canHave_90, gM_canHave_93, gM_canHave_94, gM_canHave_95, gM_canHave_98, gM_canHave_99, gM_canHave_100, gM_canHave_103, gM_canHave_106, gM_canHave_108, gM_canHave_111, gM_canHave_112, gM_canHave_115, gM_canHave_116, gM_canHave_117, gM_canHave_119, gM_canHave_122, gM_canHave_124, gM_canHave_127, gM_canHave_128, gM_canHave_131, gM_canHave_132, gM_canHave_133, gM_canHave_135, gM_canHave_138, gM_canHave_140, gM_canHave_143, gM_canHave_144, gM_canHave_147, gM_canHave_148, ↓reduceIte, Bool.false_eq_true, Bool.true_eq_false, qk_i, qk_r, qk_n, Option.toList_some, Option.toList_none, List.cons_append, List.nil_append, true_and, and_true, true_or, or_true, eq_self, if_true, if_false, q_b1, q_b2, c_A, c_R, c_O, c_M, c_H1, c_H8, c_H15, rf_M1, rf_M5, rf_M6, aD_32, aD_36, aD_37, hin, ec, x_M_bits]
  unfold v_can v_one v_every v_two
  generalize s_bitsN (M 36 j &&& w) 31 = sm
  generalize s_bitsN (M 36 j) 31 = sn
  by_cases hE : sm = sn
  · subst hE
    by_cases hA : M 36 j = 0 <;> by_cases hB : sm ≤ 0 <;> by_cases hC : M 37 j &&& (w ^^^ (-1)) = 0 <;> by_cases hD : 2 ≤ sm <;> by_cases k1 : M 32 j = 1 <;> by_cases k3 : M 32 j = 3 <;> by_cases k4 : M 32 j = 4 <;> simp only [hA, hB, hC, hD, k1, k3, k4, q_z, if_true, if_false, decide_true, decide_false, Bool.or_true, Bool.true_or, Bool.and_true, Bool.true_and, Bool.or_false, Bool.false_or, Bool.and_false, Bool.false_and, Bool.not_true, Bool.not_false, not_true_eq_false, not_false_eq_true, Bool.false_eq_true, reduceCtorEq, ite_self] <;> try simp
  · by_cases hA : M 36 j = 0 <;> by_cases hB : sm ≤ 0 <;> by_cases hC : M 37 j &&& (w ^^^ (-1)) = 0 <;> by_cases hD : 2 ≤ sm <;> by_cases k1 : M 32 j = 1 <;> by_cases k3 : M 32 j = 3 <;> by_cases k4 : M 32 j = 4 <;> simp only [hA, hB, hC, hD, hE, k1, k3, k4, q_z, if_true, if_false, decide_true, decide_false, Bool.or_true, Bool.true_or, Bool.and_true, Bool.true_and, Bool.or_false, Bool.false_or, Bool.and_false, Bool.false_and, Bool.not_true, Bool.not_false, not_true_eq_false, not_false_eq_true, Bool.false_eq_true, reduceCtorEq, ite_self] <;> try simp
/-- the number of a mask's bits -/
def pcN (x : Nat) : Nat → Nat
  | 0 => 0
  | k + 1 => pcN x k + (x.testBit k).toNat
theorem pcN_le (x : Nat) : ∀ k, pcN x k ≤ k
  | 0 => Nat.le_refl _
  | k + 1 => by
    have h1 := pcN_le x k
    have h2 : (x.testBit k).toNat ≤ 1 := by cases x.testBit k <;> decide
    unfold pcN
    omega
theorem pcN_and (a s : Nat) : ∀ k, pcN (a &&& s) k ≤ pcN a k
  | 0 => Nat.le_refl _
  | k + 1 => by
    have h1 := pcN_and a s k
    unfold pcN
    rw [Nat.testBit_and]
    cases a.testBit k <;> cases s.testBit k <;> simp <;> omega
theorem s_bitsN_pc {x : Nat} (hx : x < 2 ^ 31) : ∀ k, k ≤ 31 → s_bitsN (nI x) k = nI (pcN x k)
  | 0, _ => rfl
  | k + 1, h => by
    unfold s_bitsN pcN
    rw [s_bitsN_pc hx k (by omega), bit_nI hx (by omega), ← nI_add]
    cases x.testBit k <;> rfl
theorem s_bc_pc : ∀ x, x < 1024 → s_bc (nI x) = s_bitsN (nI x) 31 := by decide +kernel
end HT
section HE
variable {M H : q_M}
theorem bit0_k : ∀ s, s < 1024 → decide (nI s &&& 1 = 0) = !b_has (nI s) 0 := by decide +kernel
theorem bit1_k : ∀ s, s < 1024 → decide (nI s &&& 2 = 0) = !b_has (nI s) 1 := by decide +kernel
theorem v_go_eq {j s : Nat} (r : RM M H) (hj : j < 10) (hs : s < 1024) : s_go H 0 (nI j) (nI s) = v_go M j (nI s) := by
  obtain ⟨e2, e3, -⟩ := r.e hj
  have g2 : s_get H (0 + 1) 10 (nI j) = M 32 j := (s_get_nI hj (by omega)).trans e2
  have g3 : s_get H (0 + 2) 10 (nI j) = M 33 j := (s_get_nI hj (by omega)).trans e3
  have h0 := bit0_k s hs
  have h1 := bit1_k s hs
  have hb := s_bc_pc s hs
  unfold v_go s_go v_lit s_lit
  rw [g2, g3, hb]
  by_cases a : nI s &&& 1 = 0 <;> by_cases b : nI s &&& 2 = 0 <;> simp only [a, b, decide_true, decide_false] at h0 h1 <;>
    (have q0 : b_has (nI s) 0 = _ := (Bool.not_eq_eq_eq_not.mp h0.symm); have q1 : b_has (nI s) 1 = _ := (Bool.not_eq_eq_eq_not.mp h1.symm)
     simp only [a, b, q0, q1]
     by_cases k2 : M 32 j = 2
     · simp [k2]
     · by_cases k3 : M 32 j = 3
       · simp [k3]
       · simp [k2, k3])
end HE
section HC
variable {M H : q_M}
theorem nI_two {m : Nat} (hm : m < 2 ^ 31) : (2 ≤ nI m) ↔ 2 ≤ m := by
  have h : nI m < nI 2 ↔ m < 2 := nI_ltI hm (by omega)
  have h' : nI m < 2 ↔ m < 2 := h
  rw [← Int32.not_lt, h']
  omega
theorem nI_nop {m : Nat} (hm : m < 2 ^ 31) : (nI m ≤ 0) ↔ m = 0 := by
  have h : nI 0 < nI m ↔ 0 < m := nI_ltI (by omega) hm
  have h' : (0 : Int32) < nI m ↔ 0 < m := h
  rw [← Int32.not_lt, h']
  omega
theorem pc_zero : ∀ x, x < 1024 → (nI x = 0 ↔ pcN x 31 = 0) := by decide +kernel
theorem v_some_eq {j a s : Nat} (r : RM M H) (hj : j < 10) (ha : a < 1024) (hs : s < 1024) (hm : M 36 j = nI a) :
    b_some H 0 (nI j) (nI s) = (if M 32 j = 1 ∨ M 32 j = 4 then v_two M j (nI s) else v_one M j (nI s)) := by
  obtain ⟨e2, -, -, -, e6, -⟩ := r.e hj
  have g2 : s_get H (0 + 1) 10 (nI j) = M 32 j := (s_get_nI hj (by omega)).trans e2
  have g6 : s_get H (0 + 5) 10 (nI j) = nI a := ((s_get_nI hj (by omega)).trans e6).trans hm
  have hlt : a &&& s < 1024 := Nat.lt_of_le_of_lt Nat.and_le_left ha
  have c1 : s_bitsN (nI (a &&& s)) 31 = nI (pcN (a &&& s) 31) := s_bitsN_pc (by omega) 31 (by omega)
  have c2 : s_bitsN (nI a) 31 = nI (pcN a 31) := s_bitsN_pc (by omega) 31 (by omega)
  have m1 := pcN_and a s 31
  have m2 := pcN_le a 31
  have z := pc_zero a ha
  unfold b_some v_two v_one
  rw [g2, g6, hm, nx_and, s_bc_pc _ hlt, s_bc_pc _ ha, c1, c2]
  generalize pcN (a &&& s) 31 = m at m1
  generalize pcN a 31 = n at m1 m2 z
  have q1 : nI n < 2 ↔ n < 2 := nI_ltI (b := 2) (by omega) (by omega)
  have q2 : nI n < 1 ↔ n < 1 := nI_ltI (b := 1) (by omega) (by omega)
  have q3 : nI m < 2 ↔ m < 2 := nI_ltI (b := 2) (by omega) (by omega)
  have q4 : nI m < 1 ↔ m < 1 := nI_ltI (b := 1) (by omega) (by omega)
  have q5 : nI m < nI n ↔ m < n := nI_ltI (by omega) (by omega)
  have q6 : nI m = nI n ↔ m = n := nI_eq (by omega) (by omega)
  have q7 := nI_two (m := m) (by omega)
  have q8 := nI_nop (m := m) (by omega)
  by_cases k1 : M 32 j = 1
  · simp only [k1, if_true, true_or, q1]
    by_cases h : n < 2
    · rw [if_pos h]
      simp only [q5, q6, q7]
      rw [Bool.eq_iff_iff]
      simp only [decide_eq_true_eq, Bool.or_eq_true]
      omega
    · rw [if_neg h]
      simp only [q3, q6, q7]
      rw [Bool.eq_iff_iff]
      simp only [decide_eq_true_eq, Bool.or_eq_true]
      omega
  · by_cases k4 : M 32 j = 4
    · have k41 : ¬ (4 : Int32) = 1 := by decide
      simp only [k4, k41, if_true, if_false, or_true, not_true_eq_false, q1]
      by_cases h : n < 2
      · rw [if_pos h]
        simp only [q5, q6, q7]
        rw [Bool.eq_iff_iff]
        simp only [decide_eq_true_eq, Bool.or_eq_true]
        omega
      · rw [if_neg h]
        simp only [q3, q6, q7]
        rw [Bool.eq_iff_iff]
        simp only [decide_eq_true_eq, Bool.or_eq_true]
        omega
    · simp only [k1, k4, if_true, if_false, or_self, not_false_eq_true, q2]
      by_cases h : n < 1
      · rw [if_pos h]
        simp only [q5, q8, z]
        rw [Bool.eq_iff_iff]
        simp only [decide_eq_true_eq, Bool.or_eq_true, Bool.not_eq_true', decide_eq_false_iff_not]
        omega
      · rw [if_neg h]
        simp only [q4, q8, z]
        rw [Bool.eq_iff_iff]
        simp only [decide_eq_true_eq, Bool.or_eq_true, Bool.not_eq_true', decide_eq_false_iff_not]
        omega
end HC
section HD
variable {M H : q_M}
theorem had_eq {j s : Nat} (hj : j < 10) (hs : s < 1024) : decide (nI s >>> (nI j &&& 31) &&& 1 = 0) = !b_has (nI s) (nI j) := by
  rw [has_nI (by omega) (by omega), bit_nI (by omega) (by omega)]
  cases s.testBit j <;> decide
theorem v_can_eq {n j a s : Nat} (r : RM M H) (hn : M 30 7 = nI n) (h10 : n ≤ 10) (hj : j < n) (ha : a < 1024) (hs : s < 1024) (hm : M 36 j = nI a) :
    b_can H 0 (nI j) (nI s) = (!b_has (nI s) (nI j) && v_can M j (nI s)) := by
  obtain ⟨e2, -, -, -, -, e7⟩ := r.e (show j < 10 by omega)
  have g2 : s_get H (0 + 1) 10 (nI j) = M 32 j := (s_get_nI (by omega) (by omega)).trans e2
  have g7 : s_get H (0 + 6) 10 (nI j) = M 37 j := (s_get_nI (by omega) (by omega)).trans e7
  have t1 : b_isThing H 0 (nI j) = true := by
    unfold b_isThing
    have h1 : ¬ nI j < 0 := Int32.not_lt.mpr (nI_pos' (by omega))
    have h2 : ¬ nI n ≤ nI j := nI_ge (b := n) (by omega) (by omega)
    rw [← r.2.1, hn]
    simp [h1, h2]
  have t2 : b_every H 0 (nI j) (nI s) = v_every M j (nI s) := by
    unfold b_every v_every
    rw [g7]
  unfold b_can v_can
  rw [t1, t2, g2, had_eq (by omega) hs, v_some_eq r (by omega) ha hs hm]
  by_cases k1 : M 32 j = 1
  · have q : ¬ (1 : Int32) = 3 := by decide
    simp [k1, q]
  · by_cases k4 : M 32 j = 4
    · have q : ¬ (4 : Int32) = 3 := by decide
      simp [k4, q]
    · by_cases k3 : M 32 j = 3
      · simp [k3]
      · simp [k1, k3, k4]
end HD
