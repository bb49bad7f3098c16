/-! a text of n letters read at p: pure -/
abbrev p_T : Type := Nat → Int32
def p_nx (f : p_T) (n p : Nat) : Int32 := if p < n then f p else -1
def p_dg (x : Int32) : Bool := b_in x 48 57
abbrev p_S : Type := Bool × Nat × Int32 × Int32 × Int32
def p_d2 (f : p_T) (n p : Nat) : Bool × Nat × Int32 := if p_dg (p_nx f n p) = true then (if p_dg (p_nx f n (p + 1)) = true then (true, p + 2, 10 * (p_nx f n p - 48) + p_nx f n (p + 1) - 48) else (true, p + 1, p_nx f n p - 48)) else (false, p, 0)
def p_no (p : Nat) : p_S := (false, p, 0, 0, 0)
def p_end (f : p_T) (n p : Nat) (x y z : Int32) : p_S := if p_nx f n p = 59 then (true, p + 1, x, y, z) else p_no p
def p_stH (f : p_T) (n p : Nat) : p_S := if p_dg (p_nx f n (p + 1)) = true then p_end f n (p + 2) (p_nx f n (p + 1) - 48) 0 0 else p_no (p + 1)
def p_stN (f : p_T) (n p : Nat) : p_S := if p_dg (p_nx f n (p + 1)) = true then (if p_dg (p_nx f n (p + 2)) = true then p_end f n (p + 3) (p_nx f n (p + 1) - 48) (p_nx f n (p + 2) - 48) 0 else p_no (p + 2)) else p_no (p + 1)
def p_stT (f : p_T) (n p : Nat) : p_S := if 0 ≤ s_kindOf (p_nx f n (p + 1)) then (if (p_d2 f n (p + 2)).1 = true then (if p_nx f n (p_d2 f n (p + 2)).2.1 = 44 then (if (p_d2 f n ((p_d2 f n (p + 2)).2.1 + 1)).1 = true then
  p_end f n (p_d2 f n ((p_d2 f n (p + 2)).2.1 + 1)).2.1 (s_kindOf (p_nx f n (p + 1))) (p_d2 f n (p + 2)).2.2 (p_d2 f n ((p_d2 f n (p + 2)).2.1 + 1)).2.2 else p_no ((p_d2 f n (p + 2)).2.1 + 1)) else p_no (p_d2 f n (p + 2)).2.1) else p_no (p + 2)) else p_no (p + 1)
def p_st (f : p_T) (n p : Nat) : p_S := if p_nx f n p = 97 then p_stN f n p else if p_nx f n p = 99 then p_stN f n p else if p_nx f n p = 104 then p_stH f n p else if p_nx f n p = 110 then p_stN f n p else if p_nx f n p = 116 then p_stT f n p else p_no p
section TX
variable {M : q_M} {f : p_T} {n p : Nat}
theorem nx_lt (h : ¬ p_nx f n p = -1) : p < n := by
  unfold p_nx at h
  by_cases c : p < n
  · exact c
  · rw [if_neg c] at h
    exact absurd rfl h
theorem nx_is {c : Int32} (h : p_nx f n p = c) (hc : ¬ c = -1) : p < n := nx_lt (by rw [h]; exact hc)
theorem dg_N {x : Int32} (h : p_dg x = true) : ∃ a, a < 10 ∧ x = nI (48 + a) := by
  unfold p_dg b_in at h
  simp only [Bool.and_eq_true, decide_eq_true_eq] at h
  obtain ⟨h1, h2⟩ := h
  have h0 : ¬ x < 0 := fun q => h1 (Int32.lt_of_lt_of_le q (by decide))
  obtain ⟨j, hj, rfl⟩ := nI_of h0
  have a1 : nI j < nI 48 ↔ j < 48 := nI_ltI hj (by omega)
  have a2 : nI 57 < nI j ↔ 57 < j := nI_ltI (by omega) hj
  have b1 : ¬ j < 48 := fun q => h1 (a1.mpr q)
  have b2 : ¬ 57 < j := fun q => h2 (a2.mpr q)
  exact ⟨j - 48, by omega, by rw [show 48 + (j - 48) = j by omega]⟩
theorem dg_v : ∀ a, a < 10 → nI (48 + a) - 48 = nI a := by decide +kernel
theorem dg_vv : ∀ a, a < 10 → ∀ b, b < 10 → 10 * (nI (48 + a) - 48) + nI (48 + b) - 48 = nI (10 * a + b) := by decide +kernel
theorem dg_ww : ∀ a, a < 10 → ∀ b, b < 10 → (nI (48 + a) - 48) * 10 + (nI (48 + b) - 48) = nI (10 * a + b) := by decide +kernel
theorem dg_lt (h : p_dg (p_nx f n p) = true) : p < n := by
  obtain ⟨a, ha, e⟩ := dg_N h
  refine nx_is e ?_
  have key : ∀ a, a < 10 → ¬ nI (48 + a) = -1 := by decide +kernel
  exact key a ha
/-- what two digits say -/
theorem d2_N (h : (p_d2 f n p).1 = true) : ∃ v, v < 100 ∧ (p_d2 f n p).2.2 = nI v := by
  unfold p_d2 at h ⊢
  split
  · rename_i h1
    obtain ⟨a, ha, ea⟩ := dg_N h1
    split
    · rename_i h2
      obtain ⟨b, hb, eb⟩ := dg_N h2
      exact ⟨10 * a + b, by omega, by show 10 * (p_nx f n p - 48) + p_nx f n (p + 1) - 48 = _; rw [ea, eb, dg_vv a ha b hb]⟩
    · exact ⟨a, by omega, by show p_nx f n p - 48 = _; rw [ea, dg_v a ha]⟩
  · rename_i h1
    rw [if_neg h1] at h
    cases h
theorem d2_le (hp : p ≤ n) : p ≤ (p_d2 f n p).2.1 ∧ (p_d2 f n p).2.1 ≤ n ∧ ((p_d2 f n p).1 = true → p + 1 ≤ (p_d2 f n p).2.1) ∧ ((p_d2 f n p).1 = false → (p_d2 f n p).2.1 = p) := by
  unfold p_d2
  split
  · rename_i h1
    have l1 := dg_lt h1
    split
    · rename_i h2
      have l2 := dg_lt h2
      refine ⟨?_, ?_, fun _ => ?_, fun q => by cases q⟩
      · show p ≤ p + 2; omega
      · show p + 2 ≤ n; omega
      · show p + 1 ≤ p + 2; omega
    · refine ⟨?_, ?_, fun _ => ?_, fun q => by cases q⟩
      · show p ≤ p + 1; omega
      · show p + 1 ≤ n; omega
      · show p + 1 ≤ p + 1; omega
  · refine ⟨?_, ?_, fun q => (by cases q), fun _ => rfl⟩
    · show p ≤ p; omega
    · show p ≤ n; exact hp
theorem kind_N {x : Int32} (h : 0 ≤ s_kindOf x) : (∃ k, k ≤ 5 ∧ s_kindOf x = nI k) ∧ ¬ x = -1 := by
  refine ⟨?_, fun e => by rw [e] at h; exact absurd h (by decide)⟩
  unfold s_kindOf at h ⊢
  split
  · exact ⟨1, by omega, rfl⟩
  split
  · exact ⟨3, by omega, rfl⟩
  split
  · exact ⟨2, by omega, rfl⟩
  split
  · exact ⟨5, by omega, rfl⟩
  split
  · exact ⟨0, by omega, rfl⟩
  split
  · exact ⟨4, by omega, rfl⟩
  · rename_i a b c d e g
    rw [if_neg a, if_neg b, if_neg c, if_neg d, if_neg e, if_neg g] at h
    exact absurd h (by decide)
/-! the class reads so -/
def cr (M : q_M) (f : p_T) (n p : Nat) : Prop := M 22 1 = nI n ∧ M 22 2 = nI p ∧ M 23 = f ∧ n ≤ 96 ∧ p ≤ n
theorem here_nx (c : cr M f n p) : s_here M = p_nx f n p := by
  obtain ⟨c1, c2, c3, c4, c5⟩ := c
  unfold s_here p_nx
  have h1 : ¬ nI p < 0 := nI_pos (by omega)
  rw [c1, c2, c3, if_neg h1]
  by_cases h : p < n
  · have h2 : ¬ nI n ≤ nI p := nI_ge h (by omega)
    have h3 : ¬ Int32.ofNat 96 ≤ nI p := nI_ge (b := 96) (by omega) (by omega)
    rw [if_neg h2, if_neg h3, if_pos h, nI_clamp (by omega)]
  · have h2 : nI n ≤ nI p := nI_le (by omega) (by omega)
    rw [if_pos h2, if_neg h]
theorem on_f {j : Nat} (hj : j ≠ 2) : s_on M 22 j = M 22 j := by
  unfold s_on
  rw [q_put_at, if_neg hj]
theorem cr.on (c : cr M f n p) (h : p < n) : cr (s_on M) f n (p + 1) := by
  obtain ⟨c1, c2, c3, c4, c5⟩ := c
  refine ⟨by rw [on_f (by decide)]; exact c1, ?_, ?_, c4, by omega⟩
  · unfold s_on
    rw [q_put_at, if_pos rfl, c2, nI_1]
  · unfold s_on
    rw [q_put_ne (by decide)]
    exact c3
theorem cr.fld {j : Nat} {v : Int32} (c : cr M f n p) (h1 : (1 : Nat) ≠ j) (h2 : (2 : Nat) ≠ j) : cr (q_put M 22 j v) f n p := by
  obtain ⟨c1, c2, c3, c4, c5⟩ := c
  exact ⟨by rw [q_put_at, if_neg h1]; exact c1, by rw [q_put_at, if_neg h2]; exact c2, by rw [q_put_ne (by decide)]; exact c3, c4, c5⟩
theorem c_pass1 {x : Int32} (c : cr M f n p) (h : p_nx f n p = x) : s_passes M x = (1, s_on M) := by
  unfold s_passes
  rw [here_nx c, if_pos h]
theorem c_pass0 {x : Int32} (c : cr M f n p) (h : ¬ p_nx f n p = x) : s_passes M x = (0, M) := by
  unfold s_passes
  rw [here_nx c, if_neg h]
theorem c_digit1 (c : cr M f n p) (h : p_dg (p_nx f n p) = true) : s_digit M = (p_nx f n p - 48, s_on M) := by
  unfold p_dg b_in at h
  simp only [Bool.and_eq_true, decide_eq_true_eq] at h
  unfold s_digit
  rw [here_nx c, if_neg h.1, if_pos (Int32.not_lt.mp h.2)]
theorem c_digit0 (c : cr M f n p) (h : p_dg (p_nx f n p) = false) : s_digit M = (-1, M) := by
  unfold p_dg b_in at h
  unfold s_digit
  rw [here_nx c]
  by_cases h1 : p_nx f n p < 48
  · rw [if_pos h1]
  · by_cases h2 : p_nx f n p ≤ 57
    · have h3 : ¬ 57 < p_nx f n p := Int32.not_lt.mpr h2
      simp [h1, h3] at h
    · rw [if_neg h1, if_neg h2]
theorem c_num1 (c : cr M f n p) (h : (p_d2 f n p).1 = true) : ∃ M', s_number M = ((p_d2 f n p).2.2, M') ∧ cr M' f n (p_d2 f n p).2.1 ∧ ∀ j, j ≠ 2 → M' 22 j = M 22 j := by
  unfold p_d2 at h ⊢
  by_cases h1 : p_dg (p_nx f n p) = true
  · obtain ⟨a, ha, ea⟩ := dg_N h1
    have l1 := dg_lt h1
    have e1 := c_digit1 c h1
    have c1 := c.on l1
    have z1 : (0 : Int32) ≤ p_nx f n p - 48 := by
      rw [ea, dg_v a ha]
      exact nI_pos' (by omega)
    rw [if_pos h1]
    by_cases h2 : p_dg (p_nx f n (p + 1)) = true
    · obtain ⟨b, hb, eb⟩ := dg_N h2
      have e2 := c_digit1 c1 h2
      have z2 : (0 : Int32) ≤ p_nx f n (p + 1) - 48 := by
        rw [eb, dg_v b hb]
        exact nI_pos' (by omega)
      rw [if_pos h2]
      refine ⟨s_on (s_on M), ?_, c1.on (dg_lt h2), fun j hj => by rw [on_f hj, on_f hj]⟩
      unfold s_number
      rw [e1]
      show (if 0 ≤ p_nx f n p - 48 then _ else _) = _
      rw [if_pos z1, e2]
      show (if 0 ≤ p_nx f n (p + 1) - 48 then _ else _) = _
      rw [if_pos z2]
      show ((p_nx f n p - 48) * 10 + (p_nx f n (p + 1) - 48), s_on (s_on M)) = (10 * (p_nx f n p - 48) + p_nx f n (p + 1) - 48, s_on (s_on M))
      rw [ea, eb, dg_ww a ha b hb, dg_vv a ha b hb]
    · have h2' : p_dg (p_nx f n (p + 1)) = false := by simpa using h2
      have e2 := c_digit0 c1 h2'
      rw [if_neg h2]
      refine ⟨s_on M, ?_, c1, fun j hj => on_f hj⟩
      have n1 : ¬ (0 : Int32) ≤ -1 := by decide
      unfold s_number
      rw [e1]
      show (if 0 ≤ p_nx f n p - 48 then _ else _) = _
      rw [if_pos z1, e2]
      show (if (0 : Int32) ≤ -1 then _ else _) = _
      rw [if_neg n1]
  · rw [if_neg h1] at h
    cases h
theorem c_num0 (c : cr M f n p) (h : (p_d2 f n p).1 = false) : s_number M = (-1, M) := by
  unfold p_d2 at h
  by_cases h1 : p_dg (p_nx f n p) = true
  · rw [if_pos h1] at h
    split at h <;> cases h
  · have h1' : p_dg (p_nx f n p) = false := by simpa using h1
    have n1 : ¬ (0 : Int32) ≤ -1 := by decide
    unfold s_number
    rw [c_digit0 c h1']
    show (if (0 : Int32) ≤ -1 then _ else _) = _
    rw [if_neg n1]
theorem c_first1 (c : cr M f n p) (h : p_dg (p_nx f n p) = true) : ∃ M', s_first M = (1, M') ∧ cr M' f n (p + 1) ∧ M' 22 5 = p_nx f n p - 48 ∧ ∀ j, j ≠ 2 → j ≠ 5 → M' 22 j = M 22 j := by
  obtain ⟨a, ha, ea⟩ := dg_N h
  have z1 : ¬ p_nx f n p - 48 < 0 := by
    rw [ea, dg_v a ha]
    exact nI_pos (by omega)
  refine ⟨q_put (s_on M) 22 5 (p_nx f n p - 48), ?_, (c.on (dg_lt h)).fld (by decide) (by decide), by rw [q_put_at, if_pos rfl], fun j h2 h5 => by rw [q_put_at, if_neg h5, on_f h2]⟩
  unfold s_first
  rw [c_digit1 c h]
  show (q_z (decide (¬ p_nx f n p - 48 < 0)), _) = _
  rw [decide_eq_true z1]
  rfl
theorem c_first0 (c : cr M f n p) (h : p_dg (p_nx f n p) = false) : ∃ M', s_first M = (0, M') ∧ cr M' f n p :=
  ⟨q_put M 22 5 (-1), by unfold s_first; rw [c_digit0 c h]; rfl, c.fld (by decide) (by decide)⟩
theorem c_second1 (c : cr M f n p) (h : p_dg (p_nx f n p) = true) : ∃ M', s_second M = (1, M') ∧ cr M' f n (p + 1) ∧ M' 22 6 = p_nx f n p - 48 ∧ ∀ j, j ≠ 2 → j ≠ 6 → M' 22 j = M 22 j := by
  obtain ⟨a, ha, ea⟩ := dg_N h
  have z1 : ¬ p_nx f n p - 48 < 0 := by
    rw [ea, dg_v a ha]
    exact nI_pos (by omega)
  refine ⟨q_put (s_on M) 22 6 (p_nx f n p - 48), ?_, (c.on (dg_lt h)).fld (by decide) (by decide), by rw [q_put_at, if_pos rfl], fun j h2 h5 => by rw [q_put_at, if_neg h5, on_f h2]⟩
  unfold s_second
  rw [c_digit1 c h]
  show (q_z (decide (¬ p_nx f n p - 48 < 0)), _) = _
  rw [decide_eq_true z1]
  rfl
theorem c_second0 (c : cr M f n p) (h : p_dg (p_nx f n p) = false) : ∃ M', s_second M = (0, M') ∧ cr M' f n p :=
  ⟨q_put M 22 6 (-1), by unfold s_second; rw [c_digit0 c h]; rfl, c.fld (by decide) (by decide)⟩
/-- what the class holds of a STATEMENT that it read -/
def cf (M : q_M) (b x y z : Int32) : Prop := M 22 3 = b ∧ (b = 116 → M 22 4 = x ∧ M 22 5 = y ∧ M 22 6 = z) ∧ (¬ b = 116 → M 22 5 = x) ∧ (¬ b = 116 → ¬ b = 104 → M 22 6 = y)
theorem n1z' : ((1 : Int32) = 0) = False := by decide
theorem qz1 : q_z (decide (¬ (1 : Int32) = 0)) = q_z true := by decide
theorem qz0 : q_z (decide (¬ (0 : Int32) = 0)) = q_z false := by decide
theorem n59 : ¬ (59 : Int32) = -1 := by decide
theorem n44 : ¬ (44 : Int32) = -1 := by decide
theorem c_stN (c : cr M f n p) (hp : p < n) : (s_stN M).1 = q_z (p_stN f n p).1 ∧ cr (s_stN M).2 f n (p_stN f n p).2.1 ∧ ((p_stN f n p).1 = true → (s_stN M).2 22 3 = M 22 3 ∧ (s_stN M).2 22 5 = (p_stN f n p).2.2.1 ∧ (s_stN M).2 22 6 = (p_stN f n p).2.2.2.1) := by
  have c1 := c.on hp
  unfold s_stN p_stN p_end
  cases h1 : p_dg (p_nx f n (p + 1))
  · obtain ⟨M1, e1, k1⟩ := c_first0 c1 h1
    simp only [e1, if_true, Bool.false_eq_true, if_false]
    exact ⟨rfl, k1, fun q => by cases q⟩
  · obtain ⟨M1, e1, k1, v1, w1⟩ := c_first1 c1 h1
    cases h2 : p_dg (p_nx f n (p + 2))
    · obtain ⟨M2, e2, k2⟩ := c_second0 k1 h2
      simp only [e1, e2, n1z', if_true, Bool.false_eq_true, if_false]
      exact ⟨rfl, k2, fun q => by cases q⟩
    · obtain ⟨M2, e2, k2, v2, w2⟩ := c_second1 k1 h2
      by_cases h3 : p_nx f n (p + 3) = 59
      · have e3 := c_pass1 k2 h3
        simp only [e1, e2, e3, h3, n1z', if_true, if_false, qz1]
        refine ⟨rfl, k2.on (nx_is h3 n59), fun _ => ⟨?_, ?_, ?_⟩⟩
        · rw [on_f (by decide), w2 3 (by decide) (by decide), w1 3 (by decide) (by decide), on_f (by decide)]
        · rw [on_f (by decide), w2 5 (by decide) (by decide), v1]
        · rw [on_f (by decide), v2]
      · have e3 := c_pass0 k2 h3
        simp only [e1, e2, e3, h3, n1z', if_true, if_false, qz0]
        exact ⟨rfl, k2, fun q => by cases q⟩
theorem c_stH (c : cr M f n p) (hp : p < n) : (s_stH M).1 = q_z (p_stH f n p).1 ∧ cr (s_stH M).2 f n (p_stH f n p).2.1 ∧ ((p_stH f n p).1 = true → (s_stH M).2 22 3 = M 22 3 ∧ (s_stH M).2 22 5 = (p_stH f n p).2.2.1) := by
  have c1 := c.on hp
  unfold s_stH p_stH p_end
  cases h1 : p_dg (p_nx f n (p + 1))
  · obtain ⟨M1, e1, k1⟩ := c_first0 c1 h1
    simp only [e1, if_true, Bool.false_eq_true, if_false]
    exact ⟨rfl, k1, fun q => by cases q⟩
  · obtain ⟨M1, e1, k1, v1, w1⟩ := c_first1 c1 h1
    by_cases h3 : p_nx f n (p + 2) = 59
    · have e3 := c_pass1 k1 h3
      simp only [e1, e3, h3, n1z', if_true, if_false, qz1]
      refine ⟨rfl, k1.on (nx_is h3 n59), fun _ => ⟨?_, ?_⟩⟩
      · rw [on_f (by decide), w1 3 (by decide) (by decide), on_f (by decide)]
      · rw [on_f (by decide), v1]
    · have e3 := c_pass0 k1 h3
      simp only [e1, e3, h3, n1z', if_true, if_false, qz0]
      exact ⟨rfl, k1, fun q => by cases q⟩
theorem c_stT (c0 : cr M f n p) (hp : p < n) : (s_stT M).1 = q_z (p_stT f n p).1 ∧ cr (s_stT M).2 f n (p_stT f n p).2.1 ∧ ((p_stT f n p).1 = true → (s_stT M).2 22 3 = M 22 3 ∧ (s_stT M).2 22 4 = (p_stT f n p).2.2.1 ∧ (s_stT M).2 22 5 = (p_stT f n p).2.2.2.1 ∧ (s_stT M).2 22 6 = (p_stT f n p).2.2.2.2) := by
  have c := c0.on hp
  have w0 : s_on M 22 3 = M 22 3 := on_f (by decide)
  have est : s_stT M = if (s_thing (s_on M)).1 = 0 then (0, (s_thing (s_on M)).2) else (q_z (decide (¬ (s_passes (s_thing (s_on M)).2 59).1 = 0)), (s_passes (s_thing (s_on M)).2 59).2) := rfl
  generalize s_on M = N at c w0 est
  have eh := here_nx c
  have ct : cr (s_th1 N) f n (p + 1) := c.fld (by decide) (by decide)
  have t4 : s_th1 N 22 4 = s_kindOf (p_nx f n (p + 1)) := by
    unfold s_th1
    rw [q_put_at, if_pos rfl, eh]
  have t3 : s_th1 N 22 3 = M 22 3 := by
    unfold s_th1
    rw [q_put_at, if_neg (by decide), w0]
  have mneg : (-1 : Int32) < 0 := by decide
  have es : s_thing N = if 0 ≤ s_kindOf (p_nx f n (p + 1)) then (if (s_number (s_on (s_th1 N))).1 < 0 then (0, s_th2 N) else if (s_th3 N).1 = 0 then (0, (s_th3 N).2) else (q_z (decide (¬ (s_th4 N).1 < 0)), q_put (s_th4 N).2 22 6 (s_th4 N).1)) else (0, s_th1 N) := by
    rw [← eh]
    rfl
  unfold p_stT
  by_cases h0 : 0 ≤ s_kindOf (p_nx f n (p + 1))
  · obtain ⟨-, hm⟩ := kind_N h0
    have c1 := ct.on (nx_lt hm)
    rw [if_pos h0] at es
    rw [if_pos h0]
    cases h1 : (p_d2 f n (p + 2)).1
    · have e1 := c_num0 c1 h1
      have e2 : s_th2 N = q_put (s_on (s_th1 N)) 22 5 (-1) := by
        unfold s_th2
        rw [e1]
      have k2 : cr (s_th2 N) f n (p + 2) := by
        rw [e2]
        exact c1.fld (by decide) (by decide)
      simp only [e1, mneg, if_true] at es
      simp only [est, es, if_true, Bool.false_eq_true, if_false]
      exact ⟨rfl, k2, fun q => by cases q⟩
    · obtain ⟨M1, e1, k1, w1⟩ := c_num1 c1 h1
      obtain ⟨v, hv, ev⟩ := d2_N h1
      have z1 : ¬ (p_d2 f n (p + 2)).2.2 < 0 := by
        rw [ev]
        exact nI_pos (by omega)
      have e2 : s_th2 N = q_put M1 22 5 (p_d2 f n (p + 2)).2.2 := by
        unfold s_th2
        rw [e1]
      have k2 : cr (s_th2 N) f n (p_d2 f n (p + 2)).2.1 := by
        rw [e2]
        exact k1.fld (by decide) (by decide)
      have f3 : s_th2 N 22 3 = M 22 3 := by rw [e2, q_put_at, if_neg (by decide), w1 3 (by decide), on_f (by decide), t3]
      have f4 : s_th2 N 22 4 = s_kindOf (p_nx f n (p + 1)) := by rw [e2, q_put_at, if_neg (by decide), w1 4 (by decide), on_f (by decide), t4]
      have f5 : s_th2 N 22 5 = (p_d2 f n (p + 2)).2.2 := by rw [e2, q_put_at, if_pos rfl]
      simp only [e1, z1, if_false] at es
      rw [if_pos rfl]
      by_cases h2 : p_nx f n (p_d2 f n (p + 2)).2.1 = 44
      · have e3 : s_th3 N = (1, s_on (s_th2 N)) := c_pass1 k2 h2
        have c3 := k2.on (nx_is h2 n44)
        simp only [e3, n1z', if_false] at es
        rw [if_pos h2]
        cases h3 : (p_d2 f n ((p_d2 f n (p + 2)).2.1 + 1)).1
        · have e4 : s_th4 N = (-1, s_on (s_th2 N)) := by
            show s_number (s_th3 N).2 = _
            rw [e3]
            exact c_num0 c3 h3
          have k4 : cr (q_put (s_on (s_th2 N)) 22 6 (-1)) f n ((p_d2 f n (p + 2)).2.1 + 1) := c3.fld (by decide) (by decide)
          have ez : q_z (decide (¬ (-1 : Int32) < 0)) = 0 := by decide
          simp only [e4, ez] at es
          simp only [est, es, if_true, Bool.false_eq_true, if_false]
          exact ⟨rfl, k4, fun q => by cases q⟩
        · obtain ⟨M4, e4', k4, w4⟩ := c_num1 c3 h3
          obtain ⟨u, hu, eu⟩ := d2_N h3
          have e4 : s_th4 N = ((p_d2 f n ((p_d2 f n (p + 2)).2.1 + 1)).2.2, M4) := by
            show s_number (s_th3 N).2 = _
            rw [e3]
            exact e4'
          have z4 : ¬ (p_d2 f n ((p_d2 f n (p + 2)).2.1 + 1)).2.2 < 0 := by
            rw [eu]
            exact nI_pos (by omega)
          have ez : q_z (decide (¬ (p_d2 f n ((p_d2 f n (p + 2)).2.1 + 1)).2.2 < 0)) = 1 := by
            rw [decide_eq_true z4]
            rfl
          have k5 : cr (q_put M4 22 6 (p_d2 f n ((p_d2 f n (p + 2)).2.1 + 1)).2.2) f n (p_d2 f n ((p_d2 f n (p + 2)).2.1 + 1)).2.1 := k4.fld (by decide) (by decide)
          have g3 : q_put M4 22 6 (p_d2 f n ((p_d2 f n (p + 2)).2.1 + 1)).2.2 22 3 = M 22 3 := by rw [q_put_at, if_neg (by decide), w4 3 (by decide), on_f (by decide), f3]
          have g4 : q_put M4 22 6 (p_d2 f n ((p_d2 f n (p + 2)).2.1 + 1)).2.2 22 4 = s_kindOf (p_nx f n (p + 1)) := by rw [q_put_at, if_neg (by decide), w4 4 (by decide), on_f (by decide), f4]
          have g5 : q_put M4 22 6 (p_d2 f n ((p_d2 f n (p + 2)).2.1 + 1)).2.2 22 5 = (p_d2 f n (p + 2)).2.2 := by rw [q_put_at, if_neg (by decide), w4 5 (by decide), on_f (by decide), f5]
          have g6 : q_put M4 22 6 (p_d2 f n ((p_d2 f n (p + 2)).2.1 + 1)).2.2 22 6 = (p_d2 f n ((p_d2 f n (p + 2)).2.1 + 1)).2.2 := by rw [q_put_at, if_pos rfl]
          simp only [e4, ez] at es
          generalize q_put M4 22 6 (p_d2 f n ((p_d2 f n (p + 2)).2.1 + 1)).2.2 = M5 at es k5 g3 g4 g5 g6
          rw [if_pos rfl]
          unfold p_end
          by_cases h4 : p_nx f n (p_d2 f n ((p_d2 f n (p + 2)).2.1 + 1)).2.1 = 59
          · have e5 := c_pass1 k5 h4
            simp only [est, es, e5, h4, n1z', if_true, if_false, qz1]
            refine ⟨rfl, k5.on (nx_is h4 n59), fun _ => ⟨?_, ?_, ?_, ?_⟩⟩
            · rw [on_f (by decide), g3]
            · rw [on_f (by decide), g4]
            · rw [on_f (by decide), g5]
            · rw [on_f (by decide), g6]
          · have e5 := c_pass0 k5 h4
            simp only [est, es, e5, h4, n1z', if_false, qz0]
            exact ⟨rfl, k5, fun q => by cases q⟩
      · have e3 : s_th3 N = (0, s_th2 N) := c_pass0 k2 h2
        simp only [e3, if_true] at es
        rw [if_neg h2]
        simp only [est, es, if_true]
        exact ⟨rfl, k2, fun q => by cases q⟩
  · rw [if_neg h0] at es
    rw [if_neg h0]
    simp only [est, es, if_true]
    exact ⟨rfl, ct, fun q => by cases q⟩
/-- a STATEMENT, as the class reads it -/
theorem c_st (c : cr M f n p) : (s_stmt M).1 = q_z (p_st f n p).1 ∧ cr (s_stmt M).2 f n (p_st f n p).2.1 ∧ ((p_st f n p).1 = true → cf (s_stmt M).2 (p_nx f n p) (p_st f n p).2.2.1 (p_st f n p).2.2.2.1 (p_st f n p).2.2.2.2) := by
  have eh := here_nx c
  have cs : cr (s_sg M) f n p := c.fld (by decide) (by decide)
  have e3 : s_sg M 22 3 = p_nx f n p := by
    unfold s_sg
    rw [q_put_at, if_pos rfl, eh]
  have hN : ∀ b, p_nx f n p = b → ¬ b = 116 → ¬ b = -1 → (s_stN (s_sg M)).1 = q_z (p_stN f n p).1 ∧ cr (s_stN (s_sg M)).2 f n (p_stN f n p).2.1 ∧ ((p_stN f n p).1 = true → cf (s_stN (s_sg M)).2 (p_nx f n p) (p_stN f n p).2.2.1 (p_stN f n p).2.2.2.1 (p_stN f n p).2.2.2.2) := by
    intro b eb hb hb2
    obtain ⟨a1, a2, a3⟩ := c_stN cs (nx_is eb hb2)
    refine ⟨a1, a2, fun q => ?_⟩
    obtain ⟨b1, b2, b3⟩ := a3 q
    exact ⟨b1.trans e3, fun z => absurd (eb.symm.trans z) hb, fun _ => b2, fun _ _ => b3⟩
  unfold s_stmt p_st
  rw [eh]
  by_cases h1 : p_nx f n p = 97
  · rw [if_pos h1, if_pos h1]
    exact hN 97 h1 (by decide) (by decide)
  by_cases h2 : p_nx f n p = 99
  · rw [if_neg h1, if_neg h1, if_pos h2, if_pos h2]
    exact hN 99 h2 (by decide) (by decide)
  by_cases h3 : p_nx f n p = 104
  · rw [if_neg h1, if_neg h1, if_neg h2, if_neg h2, if_pos h3, if_pos h3]
    obtain ⟨a1, a2, a3⟩ := c_stH cs (nx_is h3 (by decide))
    refine ⟨a1, a2, fun q => ?_⟩
    obtain ⟨b1, b2⟩ := a3 q
    exact ⟨b1.trans e3, fun z => absurd (h3.symm.trans z) (by decide), fun _ => b2, fun _ z => absurd h3 z⟩
  by_cases h4 : p_nx f n p = 110
  · rw [if_neg h1, if_neg h1, if_neg h2, if_neg h2, if_neg h3, if_neg h3, if_pos h4, if_pos h4]
    exact hN 110 h4 (by decide) (by decide)
  by_cases h5 : p_nx f n p = 116
  · rw [if_neg h1, if_neg h1, if_neg h2, if_neg h2, if_neg h3, if_neg h3, if_neg h4, if_neg h4, if_pos h5, if_pos h5]
    obtain ⟨a1, a2, a3⟩ := c_stT cs (nx_is h5 (by decide))
    refine ⟨a1, a2, fun q => ?_⟩
    obtain ⟨b1, b2, b3, b4⟩ := a3 q
    exact ⟨b1.trans e3, fun _ => ⟨b2, b3, b4⟩, fun z => absurd h5 z, fun z => absurd h5 z⟩
  · rw [if_neg h1, if_neg h1, if_neg h2, if_neg h2, if_neg h3, if_neg h3, if_neg h4, if_neg h4, if_neg h5, if_neg h5]
    exact ⟨rfl, cs, fun q => by cases q⟩
end TX
