/-! what MAY be had once may be had with more; REACH is the least set that is closed; BEG -/
section BEG
variable {Q : q_R} {M H : q_M} {n h : Nat} {a : Int32}
theorem pcN_mono {x y : Nat} (e : ∀ i, x.testBit i = true → y.testBit i = true) : ∀ k, pcN x k ≤ pcN y k
  | 0 => Nat.le_refl _
  | k + 1 => by
    have := pcN_mono e k
    unfold pcN
    cases hb : x.testBit k
    · show pcN x k + 0 ≤ _
      omega
    · rw [e k hb]
      show pcN x k + 1 ≤ pcN y k + 1
      omega
/-- CAN, by numbers -/
def cn_some (a k s : Nat) : Bool := if k = 1 ∨ k = 4 then decide (2 ≤ pc (a &&& s) ∨ pc (a &&& s) = pc a) else decide (a = 0 ∨ 1 ≤ pc (a &&& s))
def cn_every (b s : Nat) : Bool := decide (dif b s = 0)
def cn_can (H : q_M) (j s : Nat) : Bool := if (H 1 j).toNatClampNeg = 3 then cn_some (H 5 j).toNatClampNeg (H 1 j).toNatClampNeg s || cn_every (H 6 j).toNatClampNeg s else cn_some (H 5 j).toNatClampNeg (H 1 j).toNatClampNeg s && cn_every (H 6 j).toNatClampNeg s
theorem bc_min {u v : Nat} (hu : u ≤ 31) (hv : v ≤ 31) (t : Nat) (ht : t = 1 ∨ t = 2) (huv : u ≤ v) : decide (¬ nI u < (if nI v < nI t then nI v else nI t)) = decide (t ≤ u ∨ u = v) := by
  have q1 : (nI v < nI t) = (v < t) := propext (nI_ltI (by omega) (by omega))
  have q2 : (nI u < nI v) = (u < v) := propext (nI_ltI (by omega) (by omega))
  have q3 : (nI u < nI t) = (u < t) := propext (nI_ltI (by omega) (by omega))
  by_cases c : v < t
  · have c' : nI v < nI t := q1 ▸ c
    rw [if_pos c', decide_eq_decide, q2]
    omega
  · have c' : ¬ nI v < nI t := fun q => c (q1 ▸ q)
    rw [if_neg c', decide_eq_decide, q3]
    omega
theorem can_cn (g : gH H n h) {j s : Nat} (hj : j < n) (hs : s < 1024) : canN H j s = (!s.testBit j && cn_can H j s) := by
  have h10 := g.1
  obtain ⟨⟨k, hk, ek⟩, -, -, -, ⟨x, hx, ex⟩, ⟨y, hy, ey⟩⟩ := g.2.2.2.2.2 j hj
  have hx' : x < 1024 := Nat.lt_of_lt_of_le hx (two_pow_le h10)
  have hy' : y < 1024 := Nat.lt_of_lt_of_le hy (two_pow_le h10)
  have e1 : s_get H (0 + 1) 10 (nI j) = nI k := (s_get_nI (by omega) (by omega)).trans ek
  have e5 : s_get H (0 + 5) 10 (nI j) = nI x := (s_get_nI (by omega) (by omega)).trans ex
  have e6 : s_get H (0 + 6) 10 (nI j) = nI y := (s_get_nI (by omega) (by omega)).trans ey
  have hxs : x &&& s < 1024 := Nat.lt_of_le_of_lt Nat.and_le_left hx'
  have n1 : (nI k = 1) = (k = 1) := propext (nI_eq (b := 1) (by omega) (by omega))
  have n3 : (nI k = 3) = (k = 3) := propext (nI_eq (b := 3) (by omega) (by omega))
  have n4 : (nI k = 4) = (k = 4) := propext (nI_eq (b := 4) (by omega) (by omega))
  have huv : pc (x &&& s) ≤ pc x := pcN_and x s 31
  have l1 := @pc_31 (x &&& s)
  have l2 := @pc_31 x
  have eevery : b_every H 0 (nI j) (nI s) = cn_every y s := by
    unfold b_every cn_every
    rw [e6, dif_nI hy', decide_eq_decide]
    exact ⟨fun q => by
      rcases Nat.eq_zero_or_pos (dif y s) with z | z
      · exact z
      · exact absurd q (nI_ne0 z (by have := @dif_le y s; omega)), fun q => by rw [q]; exact nI_0⟩
  have esome : b_some H 0 (nI j) (nI s) = cn_some x k s := by
    unfold b_some cn_some
    rw [e1, e5, nx_and, bc_pc hxs, bc_pc hx']
    show decide (¬ nI (pc (x &&& s)) < _) = _
    by_cases c1 : k = 1
    · have m := bc_min l1 l2 2 (Or.inr rfl) huv
      rw [if_pos (show k = 1 ∨ k = 4 from Or.inl c1)]
      have c1' : nI k = 1 := n1.mpr c1
      simp only [c1', if_true]
      exact m
    · by_cases c4 : k = 4
      · have m := bc_min l1 l2 2 (Or.inr rfl) huv
        rw [if_pos (show k = 1 ∨ k = 4 from Or.inr c4)]
        have c1' : ¬ nI k = 1 := fun q => c1 (n1.mp q)
        have c4' : nI k = 4 := n4.mpr c4
        have n41 : ¬ (4 : Int32) = 1 := by decide
        simp only [c4', n41, if_false, not_true, if_true]
        exact m
      · have m := bc_min l1 l2 1 (Or.inl rfl) huv
        rw [if_neg (show ¬ (k = 1 ∨ k = 4) from fun q => q.elim c1 c4)]
        have c1' : ¬ nI k = 1 := fun q => c1 (n1.mp q)
        have c4' : ¬ nI k = 4 := fun q => c4 (n4.mp q)
        simp only [c1', c4', if_false, not_false_eq_true, if_true]
        refine m.trans ?_
        rw [decide_eq_decide]
        have z := pc_zero x hx'
        have z2 : nI x = 0 ↔ x = 0 := nI_eq (b := 0) (by omega) (by omega)
        have z3 : pc x = 0 ↔ x = 0 := z.symm.trans z2
        omega
  have k1 : (H 1 j).toNatClampNeg = k := by rw [ek, nI_clamp (by omega)]
  have k5 : (H 5 j).toNatClampNeg = x := by rw [ex, nI_clamp (by omega)]
  have k6 : (H 6 j).toNatClampNeg = y := by rw [ey, nI_clamp (by omega)]
  unfold canN b_can cn_can
  rw [nI_thing g hj, had_eq (by omega) hs, has_nI (by omega) (by omega), e1, eevery, esome, k1, k5, k6]
  simp only [n3, Bool.true_and]
theorem cn_some_mono {x k s s' : Nat} (hx : x < 1024) (e : ∀ i, s.testBit i = true → s'.testBit i = true) (h : cn_some x k s = true) : cn_some x k s' = true := by
  have m : pc (x &&& s) ≤ pc (x &&& s') := pcN_mono (fun i hi => by
    rw [Nat.testBit_and] at hi ⊢
    have := (Bool.and_eq_true _ _).mp hi
    rw [this.1, e i this.2]
    rfl) 31
  have m2 : pc (x &&& s') ≤ pc x := pcN_and x s' 31
  unfold cn_some at h ⊢
  split
  · rename_i c
    rw [if_pos c] at h
    rw [decide_eq_true_eq] at h ⊢
    omega
  · rename_i c
    rw [if_neg c] at h
    rw [decide_eq_true_eq] at h ⊢
    omega
theorem cn_every_mono {y s s' : Nat} (hy : y < 1024) (e : ∀ i, s.testBit i = true → s'.testBit i = true) (h : cn_every y s = true) : cn_every y s' = true := by
  unfold cn_every at h ⊢
  rw [decide_eq_true_eq] at h ⊢
  apply Nat.eq_of_testBit_eq
  intro i
  have hb := dif_tb (y := s) hy i
  rw [h, Nat.zero_testBit] at hb
  rw [dif_tb hy, Nat.zero_testBit]
  cases q : y.testBit i
  · rfl
  · rw [q] at hb
    cases z : s.testBit i
    · rw [z] at hb
      cases hb
    · rw [e i z]
      rfl
theorem can_mono (g : gH H n h) {j s s' : Nat} (hj : j < n) (hs : s < 1024) (hs' : s' < 1024) (e : ∀ i, s.testBit i = true → s'.testBit i = true) (hb : s'.testBit j = false) (hc : canN H j s = true) : canN H j s' = true := by
  have h10 := g.1
  obtain ⟨⟨k, hk, ek⟩, -, -, -, ⟨x, hx, ex⟩, ⟨y, hy, ey⟩⟩ := g.2.2.2.2.2 j hj
  have k5 : (H 5 j).toNatClampNeg = x := by rw [ex, nI_clamp (by have := two_pow_le h10; omega)]
  have k6 : (H 6 j).toNatClampNeg = y := by rw [ey, nI_clamp (by have := two_pow_le h10; omega)]
  have hx' : x < 1024 := Nat.lt_of_lt_of_le hx (two_pow_le h10)
  have hy' : y < 1024 := Nat.lt_of_lt_of_le hy (two_pow_le h10)
  rw [can_cn g hj hs] at hc
  rw [can_cn g hj hs', hb]
  have hc2 := ((Bool.and_eq_true _ _).mp hc).2
  unfold cn_can at hc2 ⊢
  rw [k5, k6] at hc2 ⊢
  show (if _ then _ else _) = true
  split
  · rename_i c
    rw [if_pos c] at hc2
    rcases (Bool.or_eq_true _ _).mp hc2 with q | q
    · rw [cn_some_mono hx' e q, Bool.true_or]
    · rw [cn_every_mono hy' e q, Bool.or_true]
  · rename_i c
    rw [if_neg c] at hc2
    have q := (Bool.and_eq_true _ _).mp hc2
    rw [cn_some_mono hx' e q.1, cn_every_mono hy' e q.2]
    rfl
/-- a closed set that holds s holds its REACH -/
theorem rwN_least (g : gH H n h) {C : Nat} (hC : C < 1024) (hcl : mayN H C n &&& (2 ^ n - 1) = 0) : ∀ k s, s < 1024 → (∀ i, s.testBit i = true → C.testBit i = true) → ∀ i, (rwN H n (2 ^ n - 1) k s).testBit i = true → C.testBit i = true
  | 0, s, hs, e, i, hi => e i hi
  | k + 1, s, hs, e, i, hi => by
    unfold rwN at hi
    by_cases c : mayN H s n &&& (2 ^ n - 1) = 0
    · rw [if_pos c] at hi
      exact e i hi
    · rw [if_neg c] at hi
      refine rwN_least g hC hcl k _ (Nat.or_lt_two_pow (n := 10) hs (Nat.lt_of_le_of_lt Nat.and_le_left (Nat.lt_of_lt_of_le (mayN_lt n) (two_pow_le g.1)))) (fun t ht => ?_) i hi
      rw [Nat.testBit_or, Nat.testBit_and] at ht
      rcases (Bool.or_eq_true _ _).mp ht with q | q
      · exact e t q
      · obtain ⟨q1, q2⟩ := (Bool.and_eq_true _ _).mp q
        obtain ⟨t1, t2⟩ := mayN_tb' g q1
        cases z : C.testBit t
        · have hcan := can_mono g t1 hs hC e z t2
          have hm : (mayN H C n &&& (2 ^ n - 1)).testBit t = true := by
            rw [Nat.testBit_and, mayN_tb, q2, hcan, decide_eq_true t1]
            rfl
          rw [hcl, Nat.zero_testBit] at hm
          cases hm
        · rfl
theorem rN_sup {s i : Nat} (hi : s.testBit i = true) : (rN H n s).testBit i = true := rwN_sup 10 s i hi
theorem rN_closed (g : gH H n h) {s : Nat} (hs : s < 1024) : mayN H (rN H n s) n &&& (2 ^ n - 1) = 0 := rwN_fix g.1 10 s hs (by omega)
theorem rN_mono (g : gH H n h) {s s' : Nat} (hs : s < 1024) (hs' : s' < 1024) (e : ∀ i, s.testBit i = true → (rN H n s').testBit i = true) : ∀ i, (rN H n s).testBit i = true → (rN H n s').testBit i = true :=
  rwN_least g (rN_lt g hs') (rN_closed g hs') 10 s hs e
theorem all_of (g : gH H n h) {x : Nat} (hx : x < 2 ^ n) (e : ∀ i, i < n → x.testBit i = true) : x = 2 ^ n - 1 := by
  apply Nat.eq_of_testBit_eq
  intro i
  rw [tb_all]
  by_cases c : i < n
  · rw [e i c, decide_eq_true c]
  · rw [decide_eq_false c]
    exact Nat.testBit_lt_two_pow (Nat.lt_of_lt_of_le hx (Nat.pow_le_pow_right (by omega) (by omega)))
/-! what sets cost -/
def co_c (H : q_M) (j : Nat) : Nat := (H 4 j).toNatClampNeg
def co (H : q_M) (s : Nat) : Nat → Nat
  | 0 => 0
  | k + 1 => if s.testBit k = true then co H s k + co_c H k else co H s k
theorem co_s (H : q_M) (s k : Nat) : co H s (k + 1) = if s.testBit k = true then co H s k + co_c H k else co H s k := rfl
theorem co_N (g : gH H n h) {j : Nat} (hj : j < n) : co_c H j ≤ 9 ∧ H 4 j = nI (co_c H j) := by
  obtain ⟨-, -, -, ⟨c, hc, e⟩, -⟩ := g.2.2.2.2.2 j hj
  unfold co_c
  rw [e, nI_clamp (by omega)]
  exact ⟨hc, rfl⟩
theorem co_le (g : gH H n h) {s : Nat} : ∀ k, k ≤ n → co H s k ≤ 9 * k
  | 0, _ => Nat.le_refl _
  | k + 1, hk => by
    have a := co_le g (s := s) k (by omega)
    have b := (co_N g (show k < n by omega)).1
    rw [co_s]
    split <;> omega
theorem co_mono {s s' : Nat} (e : ∀ i, s.testBit i = true → s'.testBit i = true) : ∀ k, co H s k ≤ co H s' k
  | 0 => Nat.le_refl _
  | k + 1 => by
    have := co_mono e k
    rw [co_s, co_s]
    by_cases c : s.testBit k = true
    · rw [if_pos c, if_pos (e k c)]
      omega
    · rw [if_neg c]
      split <;> omega
theorem cost_N (g : gH H n h) {s : Nat} (hs : s < 1024) : ∀ k, k ≤ n → s_cost H 0 (nI s) k = nI (co H s k)
  | 0, _ => nI_0.symm
  | k + 1, hk => by
    have h10 := g.1
    have ih := cost_N g hs k (by omega)
    obtain ⟨c9, ec⟩ := co_N g (show k < n by omega)
    have e4 : s_get H (0 + 4) 10 (nI k) = nI (co_c H k) := (s_get_nI (by omega) (by omega)).trans ec
    unfold s_cost
    rw [ih, bit_nI (by omega) (by omega), e4, co_s]
    cases hb : s.testBit k
    · rw [if_neg (by decide), if_neg (by decide), Int32.zero_mul, Int32.add_zero]
    · rw [if_pos rfl, if_pos rfl, Int32.one_mul, nI_add]
theorem y_H_cost (g : gH H n h) (r : RC 1 M H) {s : Nat} (hs : s < 1024) : q_Run 8 [.ref 1, .int (nI s)] M Q = Q (some (.int (nI (co H s n)))) M := by
  rw [x_H_costOf c_H1 (e6_of g r) g.1, r.cost, cost_N g hs n (Nat.le_refl _)]
theorem l_M_cost (g : gH H n h) (r : RM M H) {s : Nat} (hs : s < 1024) : ∀ k j, j + k = n →
    q_g 100 none Q 4 [some (.ref 30), some (.int (nI s)), some (.int (nI (co H s j))), some (.int (nI j))] [] M = Q (some (.int (nI (co H s n)))) M := by
  have h10 := g.1
  have hv := g.vm r
  intro k
  induction k with
  | zero =>
    intro j hj
    have : j = n := by omega
    subst this
    rw [gM_costOf_4]
    simp only [gM_costOf_0, gM_costOf_1, gM_costOf_2, gM_costOf_3, gM_costOf_5, gM_costOf_6, gM_costOf_9, gM_costOf_12, gM_costOf_13, gM_costOf_14, gM_costOf_15, gM_costOf_18, gM_costOf_21, gM_costOf_22, gM_costOf_25, gM_costOf_26, gM_costOf_27, gM_costOf_30, gM_costOf_31, gM_costOf_32, gM_costOf_33, gM_costOf_36, gM_costOf_39, gM_costOf_40, ↓reduceIte, Bool.false_eq_true, Bool.true_eq_false, qk_i, qk_r, qk_n, Option.toList_some, Option.toList_none, List.cons_append, List.nil_append, true_and, and_true, true_or, or_true, eq_self, if_true, if_false, q_b1, q_b2, c_A, c_R, c_O, c_M, c_H1, c_H8, c_H15, hv.1, Int32.le_refl]
  | succ k ih =>
    intro j hj
    have h1 : ¬ nI n ≤ nI j := nI_ge (by omega) (by omega)
    have hin : q_in (nI j) 10 = true := q_in_nI (by omega) (by omega)
    have cj : (nI j).toNatClampNeg = j := nI_clamp (by omega)
    have ih1 := ih (j + 1) (by omega)
    have e4 : M 35 j = nI (co_c H j) := ((r.e (show j < 10 by omega)).2.2.2.1).symm.trans (co_N g (show j < n by omega)).2
    rw [co_s] at ih1
    rw [gM_costOf_4]
    cases hb : s.testBit j
    · rw [hb, if_neg (by decide)] at ih1
      simp only [gM_costOf_0, gM_costOf_1, gM_costOf_2, gM_costOf_3, gM_costOf_5, gM_costOf_6, gM_costOf_9, gM_costOf_12, gM_costOf_13, gM_costOf_14, gM_costOf_15, gM_costOf_18, gM_costOf_21, gM_costOf_22, gM_costOf_25, gM_costOf_26, gM_costOf_27, gM_costOf_30, gM_costOf_31, gM_costOf_32, gM_costOf_33, gM_costOf_36, gM_costOf_39, gM_costOf_40, ↓reduceIte, Bool.false_eq_true, Bool.true_eq_false, qk_i, qk_r, qk_n, Option.toList_some, Option.toList_none, List.cons_append, List.nil_append, true_and, and_true, true_or, or_true, eq_self, if_true, if_false, q_b1, q_b2, c_A, c_R, c_O, c_M, c_H1, c_H8, c_H15, hv.1, h1, x_M_has, has_nI (show s < 2 ^ 31 by omega) (show j < 31 by omega), hb, q_z0, nI_1, Int32.add_zero]
      exact ih1
    · rw [hb, if_pos rfl] at ih1
      simp only [gM_costOf_0, gM_costOf_1, gM_costOf_2, gM_costOf_3, gM_costOf_5, gM_costOf_6, gM_costOf_9, gM_costOf_12, gM_costOf_13, gM_costOf_14, gM_costOf_15, gM_costOf_18, gM_costOf_21, gM_costOf_22, gM_costOf_25, gM_costOf_26, gM_costOf_27, gM_costOf_30, gM_costOf_31, gM_costOf_32, gM_costOf_33, gM_costOf_36, gM_costOf_39, gM_costOf_40, ↓reduceIte, Bool.false_eq_true, Bool.true_eq_false, qk_i, qk_r, qk_n, Option.toList_some, Option.toList_none, List.cons_append, List.nil_append, true_and, and_true, true_or, or_true, eq_self, if_true, if_false, q_b1, q_b2, c_A, c_R, c_O, c_M, c_H1, c_H8, c_H15, hv.1, h1, x_M_has, has_nI (show s < 2 ^ 31 by omega) (show j < 31 by omega), hb, q_z0, rf_M4, aD_35, hin, cj, e4, nI_1, nI_add]
      exact ih1
theorem y_M_cost (g : gH H n h) (r : RM M H) {s : Nat} (hs : s < 1024) : q_Run 100 [.ref 30, .int (nI s)] M Q = Q (some (.int (nI (co H s n)))) M := by
  rw [e_M_costOf]
  simp only [gM_costOf_0, gM_costOf_1, gM_costOf_2, gM_costOf_3, gM_costOf_5, gM_costOf_6, gM_costOf_9, gM_costOf_12, gM_costOf_13, gM_costOf_14, gM_costOf_15, gM_costOf_18, gM_costOf_21, gM_costOf_22, gM_costOf_25, gM_costOf_26, gM_costOf_27, gM_costOf_30, gM_costOf_31, gM_costOf_32, gM_costOf_33, gM_costOf_36, gM_costOf_39, gM_costOf_40, ↓reduceIte, Bool.false_eq_true, Bool.true_eq_false, qk_i, qk_r, qk_n, Option.toList_some, Option.toList_none, List.cons_append, List.nil_append, true_and, and_true, true_or, or_true, eq_self, if_true, if_false, q_b1, q_b2, c_A, c_R, c_O, c_M, c_H1, c_H8, c_H15]
  exact l_M_cost g r hs n 0 (by omega)
end BEG
