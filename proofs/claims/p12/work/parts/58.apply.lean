/-! STATEMENTS one behind the other, and what each does -/
def p_pos (f : p_T) (n : Nat) : Nat → Nat
  | 0 => 0
  | s + 1 => (p_st f n (p_pos f n s)).2.1
def ap_ok (H : q_M) (b x y z : Int32) : Bool := if b = 116 then (b_range y z && decide (H 0 6 < 10)) else if b_isThing H 0 x = false then false else if b = 99 then true else if b = 104 then true else (b_isThing H 0 y && decide (¬ x = y))
def ap (H : q_M) (b x y z : Int32) : q_M := if b = 116 then s_add H 0 x y z else if b = 99 then s_put H (0 + 4) 10 x y else if b = 104 then q_put H 0 7 (H 0 7 ^^^ (1 <<< (x &&& 31))) else if b = 110 then s_put H (0 + 5) 10 x (s_turnV H (0 + 5) x y) else s_put H (0 + 6) 10 x (s_turnV H (0 + 6) x y)
def st_ok (f : p_T) (n s : Nat) : Bool := (p_st f n (p_pos f n s)).1
def st_b (f : p_T) (n s : Nat) : Int32 := p_nx f n (p_pos f n s)
def st_x (f : p_T) (n s : Nat) : Int32 := (p_st f n (p_pos f n s)).2.2.1
def st_y (f : p_T) (n s : Nat) : Int32 := (p_st f n (p_pos f n s)).2.2.2.1
def st_z (f : p_T) (n s : Nat) : Int32 := (p_st f n (p_pos f n s)).2.2.2.2
/-- the house behind s STATEMENTS -/
def p_H (f : p_T) (n : Nat) (H : q_M) : Nat → q_M
  | 0 => H
  | s + 1 => ap (p_H f n H s) (st_b f n s) (st_x f n s) (st_y f n s) (st_z f n s)
def a_ok (f : p_T) (n : Nat) (H : q_M) (s : Nat) : Bool := ap_ok (p_H f n H s) (st_b f n s) (st_x f n s) (st_y f n s) (st_z f n s)
section AP
variable {M M0 H : q_M} {f : p_T} {n p h : Nat} {b x y z : Int32} {Q : q_R}
theorem end_le (hp : p ≤ n) : (p_end f n p x y z).2.1 ≤ n ∧ ((p_end f n p x y z).1 = true → p + 1 ≤ (p_end f n p x y z).2.1 ∧ (p_end f n p x y z).2.2 = (x, y, z)) := by
  unfold p_end
  by_cases h : p_nx f n p = 59
  · rw [if_pos h]
    have := nx_is h n59
    exact ⟨this, fun _ => ⟨Nat.le_refl _, rfl⟩⟩
  · rw [if_neg h]
    exact ⟨hp, fun q => by cases q⟩
theorem stN_le (hp : p < n) : (p_stN f n p).2.1 ≤ n ∧ ((p_stN f n p).1 = true → p + 3 ≤ (p_stN f n p).2.1 ∧ ∃ c, c ≤ 9 ∧ (p_stN f n p).2.2.2.1 = nI c) := by
  unfold p_stN
  by_cases h1 : p_dg (p_nx f n (p + 1)) = true
  · have l1 := dg_lt h1
    rw [if_pos h1]
    by_cases h2 : p_dg (p_nx f n (p + 2)) = true
    · have l2 := dg_lt h2
      obtain ⟨c, hc, ec⟩ := dg_N h2
      rw [if_pos h2]
      obtain ⟨a1, a2⟩ := end_le (f := f) (n := n) (p := p + 3) (x := p_nx f n (p + 1) - 48) (y := p_nx f n (p + 2) - 48) (z := 0) l2
      refine ⟨a1, fun q => ?_⟩
      obtain ⟨b1, b2⟩ := a2 q
      refine ⟨by omega, c, by omega, ?_⟩
      rw [b2]
      show p_nx f n (p + 2) - 48 = nI c
      rw [ec, dg_v c hc]
    · rw [if_neg h2]
      exact ⟨l1, fun q => by cases q⟩
  · rw [if_neg h1]
    exact ⟨hp, fun q => by cases q⟩
theorem stH_le (hp : p < n) : (p_stH f n p).2.1 ≤ n ∧ ((p_stH f n p).1 = true → p + 3 ≤ (p_stH f n p).2.1) := by
  unfold p_stH
  by_cases h1 : p_dg (p_nx f n (p + 1)) = true
  · have l1 := dg_lt h1
    rw [if_pos h1]
    obtain ⟨a1, a2⟩ := end_le (f := f) (n := n) (p := p + 2) (x := p_nx f n (p + 1) - 48) (y := 0) (z := 0) l1
    exact ⟨a1, fun q => (by have := (a2 q).1; omega)⟩
  · rw [if_neg h1]
    exact ⟨hp, fun q => by cases q⟩
theorem stT_le (hp : p < n) : (p_stT f n p).2.1 ≤ n ∧ ((p_stT f n p).1 = true → p + 3 ≤ (p_stT f n p).2.1 ∧ ∃ k, k ≤ 5 ∧ (p_stT f n p).2.2.1 = nI k) := by
  unfold p_stT
  by_cases h0 : 0 ≤ s_kindOf (p_nx f n (p + 1))
  · obtain ⟨⟨k, hk, ek⟩, hm⟩ := kind_N h0
    have l1 := nx_lt hm
    rw [if_pos h0]
    by_cases h1 : (p_d2 f n (p + 2)).1 = true
    · obtain ⟨d1, d2, d3, -⟩ := d2_le (f := f) (n := n) (p := p + 2) l1
      have d3 := d3 h1
      rw [if_pos h1]
      by_cases h2 : p_nx f n (p_d2 f n (p + 2)).2.1 = 44
      · have l2 := nx_is h2 n44
        obtain ⟨g1, g2, g3, -⟩ := d2_le (f := f) (n := n) (p := (p_d2 f n (p + 2)).2.1 + 1) l2
        rw [if_pos h2]
        by_cases h3 : (p_d2 f n ((p_d2 f n (p + 2)).2.1 + 1)).1 = true
        · have g3 := g3 h3
          rw [if_pos h3]
          obtain ⟨a1, a2⟩ := end_le (f := f) (n := n) (p := (p_d2 f n ((p_d2 f n (p + 2)).2.1 + 1)).2.1) (x := s_kindOf (p_nx f n (p + 1))) (y := (p_d2 f n (p + 2)).2.2) (z := (p_d2 f n ((p_d2 f n (p + 2)).2.1 + 1)).2.2) g2
          refine ⟨a1, fun q => ?_⟩
          obtain ⟨b1, b2⟩ := a2 q
          exact ⟨by omega, k, hk, by rw [b2]; exact ek⟩
        · rw [if_neg h3]
          exact ⟨l2, fun q => by cases q⟩
      · rw [if_neg h2]
        exact ⟨d2, fun q => by cases q⟩
    · rw [if_neg h1]
      exact ⟨l1, fun q => by cases q⟩
  · rw [if_neg h0]
    exact ⟨hp, fun q => by cases q⟩
def is_sign (b : Int32) : Prop := b = 97 ∨ b = 99 ∨ b = 104 ∨ b = 110 ∨ b = 116
theorem st_le (hp : p ≤ n) : (p_st f n p).2.1 ≤ n ∧ ((p_st f n p).1 = true → p + 3 ≤ (p_st f n p).2.1 ∧ is_sign (p_nx f n p) ∧ (p_nx f n p = 116 → ∃ k, k ≤ 5 ∧ (p_st f n p).2.2.1 = nI k) ∧ (p_nx f n p = 99 → ∃ c, c ≤ 9 ∧ (p_st f n p).2.2.2.1 = nI c)) := by
  unfold p_st
  by_cases h1 : p_nx f n p = 97
  · rw [if_pos h1]
    obtain ⟨a1, a2⟩ := stN_le (f := f) (nx_is h1 (by decide))
    exact ⟨a1, fun q => ⟨(a2 q).1, Or.inl h1, fun z => absurd (h1.symm.trans z) (by decide), fun z => absurd (h1.symm.trans z) (by decide)⟩⟩
  by_cases h2 : p_nx f n p = 99
  · rw [if_neg h1, if_pos h2]
    obtain ⟨a1, a2⟩ := stN_le (f := f) (nx_is h2 (by decide))
    exact ⟨a1, fun q => ⟨(a2 q).1, Or.inr (Or.inl h2), fun z => absurd (h2.symm.trans z) (by decide), fun _ => (a2 q).2⟩⟩
  by_cases h3 : p_nx f n p = 104
  · rw [if_neg h1, if_neg h2, if_pos h3]
    obtain ⟨a1, a2⟩ := stH_le (f := f) (nx_is h3 (by decide))
    exact ⟨a1, fun q => ⟨a2 q, Or.inr (Or.inr (Or.inl h3)), fun z => absurd (h3.symm.trans z) (by decide), fun z => absurd (h3.symm.trans z) (by decide)⟩⟩
  by_cases h4 : p_nx f n p = 110
  · rw [if_neg h1, if_neg h2, if_neg h3, if_pos h4]
    obtain ⟨a1, a2⟩ := stN_le (f := f) (nx_is h4 (by decide))
    exact ⟨a1, fun q => ⟨(a2 q).1, Or.inr (Or.inr (Or.inr (Or.inl h4))), fun z => absurd (h4.symm.trans z) (by decide), fun z => absurd (h4.symm.trans z) (by decide)⟩⟩
  by_cases h5 : p_nx f n p = 116
  · rw [if_neg h1, if_neg h2, if_neg h3, if_neg h4, if_pos h5]
    obtain ⟨a1, a2⟩ := stT_le (f := f) (nx_is h5 (by decide))
    exact ⟨a1, fun q => ⟨(a2 q).1, Or.inr (Or.inr (Or.inr (Or.inr h5))), fun _ => (a2 q).2, fun z => absurd (h5.symm.trans z) (by decide)⟩⟩
  · rw [if_neg h1, if_neg h2, if_neg h3, if_neg h4, if_neg h5]
    exact ⟨hp, fun q => by cases q⟩
theorem pos_le : ∀ s, p_pos f n s ≤ n
  | 0 => Nat.zero_le _
  | s + 1 => (st_le (pos_le s)).1
/-- how far the text is read: to its end, or to where it isn't as it must be -/
theorem scan_l (hn : n ≤ 96) : ∀ m s, n - p_pos f n s ≤ m → 3 * s ≤ p_pos f n s → (∀ i, i < s → st_ok f n i = true ∧ p_pos f n i < n) →
    ∃ s, s ≤ 32 ∧ (∀ i, i < s → st_ok f n i = true ∧ p_pos f n i < n) ∧ (1 ≤ s ∧ p_pos f n s = n ∨ st_ok f n s = false ∧ (p_pos f n s < n ∨ s = 0 ∧ n = 0)) := by
  intro m
  induction m with
  | zero =>
    intro s hm h3 hi
    have hl := pos_le (f := f) (n := n) s
    by_cases hs : s = 0
    · subst hs
      have hn0 : n = 0 := by
        have : p_pos f n 0 = 0 := rfl
        omega
      subst hn0
      exact ⟨0, by omega, hi, Or.inr ⟨rfl, Or.inr ⟨rfl, rfl⟩⟩⟩
    · exact ⟨s, by omega, hi, Or.inl ⟨by omega, by omega⟩⟩
  | succ m ih =>
    intro s hm h3 hi
    have hl := pos_le (f := f) (n := n) s
    by_cases he : p_pos f n s = n
    · exact (fun (hz : n - p_pos f n s ≤ 0) => by
        by_cases hs : s = 0
        · subst hs
          have hn0 : n = 0 := by
            have : p_pos f n 0 = 0 := rfl
            omega
          subst hn0
          exact ⟨0, by omega, hi, Or.inr ⟨rfl, Or.inr ⟨rfl, rfl⟩⟩⟩
        · exact ⟨s, by omega, hi, Or.inl ⟨by omega, by omega⟩⟩) (by omega)
    · cases ho : st_ok f n s
      · exact ⟨s, by omega, hi, Or.inr ⟨ho, Or.inl (by omega)⟩⟩
      · have hstep : p_pos f n s + 3 ≤ p_pos f n (s + 1) := ((st_le hl).2 ho).1
        refine ih (s + 1) (by omega) (by omega) fun i hi2 => ?_
        by_cases e : i = s
        · subst e
          exact ⟨ho, by omega⟩
        · exact hi i (by omega)
theorem scan (hn : n ≤ 96) : ∃ s, s ≤ 32 ∧ (∀ i, i < s → st_ok f n i = true ∧ p_pos f n i < n) ∧ (1 ≤ s ∧ p_pos f n s = n ∨ st_ok f n s = false ∧ (p_pos f n s < n ∨ s = 0 ∧ n = 0)) :=
  scan_l hn n 0 (by omega) (Nat.zero_le _) (fun i hi => absurd hi (by omega))
/-- how far the STATEMENTS come -/
theorem far (q : Nat → Bool) : ∀ s, ∃ t, t ≤ s ∧ (∀ i, i < t → q i = true) ∧ (t = s ∨ t < s ∧ q t = false)
  | 0 => ⟨0, Nat.le_refl _, fun i hi => absurd hi (by omega), Or.inl rfl⟩
  | s + 1 => by
    obtain ⟨t, ht, hi, hc⟩ := far q s
    rcases hc with e | ⟨l, e⟩
    · subst e
      cases hq : q t
      · exact ⟨t, by omega, hi, Or.inr ⟨by omega, hq⟩⟩
      · refine ⟨t + 1, Nat.le_refl _, fun i h2 => ?_, Or.inl rfl⟩
        by_cases e : i = t
        · subst e
          exact hq
        · exact hi i (by omega)
    · exact ⟨t, by omega, hi, Or.inr ⟨by omega, e⟩⟩
/-- what house() answers, and what the house is then -/
def h_out (f : p_T) (n : Nat) (H : q_M) (a : Int32) (H' : q_M) : Prop :=
  ∃ s, s ≤ 32 ∧ (∀ i, i < s → st_ok f n i = true ∧ p_pos f n i < n) ∧
    (st_ok f n s = false ∧ (p_pos f n s < n ∨ s = 0 ∧ n = 0) ∧ a = -1000 - nI (p_st f n (p_pos f n s)).2.1 ∧ H' = H ∨
     1 ≤ s ∧ p_pos f n s = n ∧ ∃ t, t ≤ s ∧ (∀ i, i < t → a_ok f n H i = true) ∧ (t = s ∧ a = nI s ∧ H' = p_H f n H s ∨ t < s ∧ a_ok f n H t = false ∧ a = -2000 - nI (p_pos f n t) ∧ H' = H))
theorem h_out_ex (hn : n ≤ 96) : ∃ a H', h_out f n H a H' := by
  obtain ⟨s, hs, hi, hc⟩ := scan (f := f) hn
  rcases hc with ⟨h1, he⟩ | ⟨ho, hp⟩
  · obtain ⟨t, ht, hq, hc⟩ := far (a_ok f n H) s
    rcases hc with e | ⟨l, e⟩
    · exact ⟨_, _, s, hs, hi, Or.inr ⟨h1, he, t, ht, hq, Or.inl ⟨e, rfl, rfl⟩⟩⟩
    · exact ⟨_, _, s, hs, hi, Or.inr ⟨h1, he, t, ht, hq, Or.inr ⟨l, e, rfl, rfl⟩⟩⟩
  · exact ⟨_, _, s, hs, hi, Or.inl ⟨ho, hp, rfl, rfl⟩⟩
/-! the house stays as it must be -/
theorem thing_N (g : gH H n h) (ht : ¬ b_isThing H 0 x = false) : ∃ j, j < n ∧ x = nI j := thing_nI g ((Bool.not_eq_false _).mp ht)
theorem range_N (hr : b_range y z = true) : (∃ m, 1 ≤ m ∧ m ≤ 30 ∧ y = nI m) ∧ ∃ s, 1 ≤ s ∧ s ≤ 10 ∧ z = nI s := by
  unfold b_range at hr
  simp only [Bool.and_eq_true, decide_eq_true_eq] at hr
  obtain ⟨a, b, c, d⟩ := hr
  have key : ∀ (v : Int32) (u : Nat), u < 2 ^ 31 → ¬ v < 1 → ¬ nI u < v → ∃ m, 1 ≤ m ∧ m ≤ u ∧ v = nI m := by
    intro v u hu h1 h2
    obtain ⟨j, hj, rfl⟩ := nI_of (x := v) (fun q => h1 (Int32.lt_of_lt_of_le q (by decide)))
    have a1 : nI j < nI 1 ↔ j < 1 := nI_ltI hj (by omega)
    have a2 : nI u < nI j ↔ u < j := nI_ltI hu hj
    have b1 : ¬ j < 1 := fun q => h1 (a1.mpr q)
    have b2 : ¬ u < j := fun q => h2 (a2.mpr q)
    exact ⟨j, by omega, by omega, rfl⟩
  exact ⟨key y 30 (by omega) a b, key z 10 (by omega) c d⟩
theorem g_ap (g : gH H n h) (ok : ap_ok H b x y z = true) (hx : b = 116 → ∃ k, k ≤ 5 ∧ x = nI k) (hy : b = 99 → ∃ c, c ≤ 9 ∧ y = nI c) : ∃ n' h', gH (ap H b x y z) n' h' := by
  have h10 := g.1
  unfold ap_ok at ok
  unfold ap
  by_cases h1 : b = 116
  · rw [if_pos h1] at ok
    rw [if_pos h1]
    obtain ⟨k, hk, rfl⟩ := hx h1
    have ok1 := (Bool.and_eq_true _ _).mp ok
    obtain ⟨⟨m, m1, m30, rfl⟩, ⟨s, s1, s10, rfl⟩⟩ := range_N ok1.1
    have hn : n < 10 := by
      have := of_decide_eq_true ok1.2
      rw [g.2.1] at this
      rcases Nat.lt_or_ge n 10 with q | q
      · exact q
      · exact absurd this (nI_nlt (a := n) (b := 10) q (by omega))
    have hpw : 2 ^ n ≤ 2 ^ (n + 1) := Nat.pow_le_pow_right (by omega) (by omega)
    have es : s_add H 0 (nI k) (nI m) (nI s) = q_put (q_put (q_put (q_put (q_put (q_put (q_put H 1 n (nI k)) 2 n (nI m)) 3 n (nI s)) 4 n 1) 5 n 0) 6 n 0) 0 6 (nI (n + 1)) := by
      unfold s_add
      rw [g.2.1, s_put_nI hn (by omega), s_put_nI hn (by omega), s_put_nI hn (by omega), s_put_nI hn (by omega), s_put_nI hn (by omega), s_put_nI hn (by omega), nI_1]
    rw [es]
    refine ⟨n + 1, h, by omega, by rw [q_put_at, if_pos rfl], ?_, Nat.lt_of_lt_of_le g.2.2.2.1 hpw, ?_, fun j hj => ?_⟩
    · rw [q_put_at, if_neg (by decide), q_put_ne (by decide), q_put_ne (by decide), q_put_ne (by decide), q_put_ne (by decide), q_put_ne (by decide), q_put_ne (by decide)]
      exact g.2.2.1
    · rw [q_put_at, if_neg (by decide), q_put_ne (by decide), q_put_ne (by decide), q_put_ne (by decide), q_put_ne (by decide), q_put_ne (by decide), q_put_ne (by decide)]
      exact g.2.2.2.2.1
    · have v1 : q_put (q_put (q_put (q_put (q_put (q_put (q_put H 1 n (nI k)) 2 n (nI m)) 3 n (nI s)) 4 n 1) 5 n 0) 6 n 0) 0 6 (nI (n + 1)) 1 j = if j = n then nI k else H 1 j := by
        rw [q_put_ne (by decide), q_put_ne (by decide), q_put_ne (by decide), q_put_ne (by decide), q_put_ne (by decide), q_put_ne (by decide), q_put_at]
      have v2 : q_put (q_put (q_put (q_put (q_put (q_put (q_put H 1 n (nI k)) 2 n (nI m)) 3 n (nI s)) 4 n 1) 5 n 0) 6 n 0) 0 6 (nI (n + 1)) 2 j = if j = n then nI m else H 2 j := by
        rw [q_put_ne (by decide), q_put_ne (by decide), q_put_ne (by decide), q_put_ne (by decide), q_put_ne (by decide), q_put_at, q_put_ne (by decide)]
      have v3 : q_put (q_put (q_put (q_put (q_put (q_put (q_put H 1 n (nI k)) 2 n (nI m)) 3 n (nI s)) 4 n 1) 5 n 0) 6 n 0) 0 6 (nI (n + 1)) 3 j = if j = n then nI s else H 3 j := by
        rw [q_put_ne (by decide), q_put_ne (by decide), q_put_ne (by decide), q_put_ne (by decide), q_put_at, q_put_ne (by decide), q_put_ne (by decide)]
      have v4 : q_put (q_put (q_put (q_put (q_put (q_put (q_put H 1 n (nI k)) 2 n (nI m)) 3 n (nI s)) 4 n 1) 5 n 0) 6 n 0) 0 6 (nI (n + 1)) 4 j = if j = n then 1 else H 4 j := by
        rw [q_put_ne (by decide), q_put_ne (by decide), q_put_ne (by decide), q_put_at, q_put_ne (by decide), q_put_ne (by decide), q_put_ne (by decide)]
      have v5 : q_put (q_put (q_put (q_put (q_put (q_put (q_put H 1 n (nI k)) 2 n (nI m)) 3 n (nI s)) 4 n 1) 5 n 0) 6 n 0) 0 6 (nI (n + 1)) 5 j = if j = n then 0 else H 5 j := by
        rw [q_put_ne (by decide), q_put_ne (by decide), q_put_at, q_put_ne (by decide), q_put_ne (by decide), q_put_ne (by decide), q_put_ne (by decide)]
      have v6 : q_put (q_put (q_put (q_put (q_put (q_put (q_put H 1 n (nI k)) 2 n (nI m)) 3 n (nI s)) 4 n 1) 5 n 0) 6 n 0) 0 6 (nI (n + 1)) 6 j = if j = n then 0 else H 6 j := by
        rw [q_put_ne (by decide), q_put_at, q_put_ne (by decide), q_put_ne (by decide), q_put_ne (by decide), q_put_ne (by decide), q_put_ne (by decide)]
      unfold gT
      rw [v1, v2, v3, v4, v5, v6]
      by_cases e : j = n
      · simp only [if_pos e]
        exact ⟨⟨k, hk, rfl⟩, ⟨m, m1, m30, rfl⟩, ⟨s, s1, s10, rfl⟩, ⟨1, by omega, rfl⟩, ⟨0, Nat.two_pow_pos _, rfl⟩, ⟨0, Nat.two_pow_pos _, rfl⟩⟩
      · simp only [if_neg e]
        obtain ⟨t1, t2, t3, t4, ⟨a, ha, ea⟩, ⟨c, hc, ec⟩⟩ := g.2.2.2.2.2 j (by omega)
        exact ⟨t1, t2, t3, t4, ⟨a, by omega, ea⟩, ⟨c, by omega, ec⟩⟩
  rw [if_neg h1] at ok
  rw [if_neg h1]
  by_cases ht : b_isThing H 0 x = false
  · rw [if_pos ht] at ok
    cases ok
  rw [if_neg ht] at ok
  obtain ⟨i, hi, rfl⟩ := thing_N g ht
  by_cases h2 : b = 99
  · rw [if_pos h2]
    obtain ⟨c, hc, rfl⟩ := hy h2
    rw [s_put_nI (by omega) (by omega)]
    refine ⟨n, h, g.1, by rw [q_put_ne (by decide)]; exact g.2.1, by rw [q_put_ne (by decide)]; exact g.2.2.1, g.2.2.2.1, by rw [q_put_ne (by decide)]; exact g.2.2.2.2.1, fun j hj => ?_⟩
    obtain ⟨t1, t2, t3, t4, t5, t6⟩ := g.2.2.2.2.2 j hj
    refine ⟨by rw [q_put_ne (by decide)]; exact t1, by rw [q_put_ne (by decide)]; exact t2, by rw [q_put_ne (by decide)]; exact t3, ?_, by rw [q_put_ne (by decide)]; exact t5, by rw [q_put_ne (by decide)]; exact t6⟩
    show ∃ c', c' ≤ 9 ∧ q_put H 4 i (nI c) 4 j = nI c'
    rw [q_put_at]
    by_cases e : j = i
    · rw [if_pos e]
      exact ⟨c, hc, rfl⟩
    · rw [if_neg e]
      exact t4
  rw [if_neg h2]
  by_cases h3 : b = 104
  · rw [if_pos h3]
    refine ⟨n, h ^^^ 2 ^ i, ?_⟩
    have e : H 0 7 ^^^ (1 <<< (nI i &&& 31)) = nI (h ^^^ 2 ^ i) := by rw [g.2.2.1, sh1_nI i (by omega), nx_xor]
    rw [e]
    exact g.had (lt_two_pow_xor g.2.2.2.1 (Nat.pow_lt_pow_right (by omega) hi))
  rw [if_neg h3]
  rw [if_neg h2, if_neg h3] at ok
  obtain ⟨j, hj, rfl⟩ := thing_nI g ((Bool.and_eq_true _ _).mp ok).1
  by_cases h4 : b = 110
  · rw [if_pos h4, s_put_nI (by omega) (by omega)]
    exact ⟨n, h, g.row (by omega) (by omega) hi (turnV_lt g hi hj (by omega) (by omega))⟩
  · rw [if_neg h4, s_put_nI (by omega) (by omega)]
    exact ⟨n, h, g.row (by omega) (by omega) hi (turnV_lt g hi hj (by omega) (by omega))⟩
theorem g_pH {m k : Nat} (g : gH H m k) : ∀ s, (∀ i, i < s → st_ok f n i = true) → (∀ i, i < s → a_ok f n H i = true) → ∃ m' k', gH (p_H f n H s) m' k'
  | 0, _, _ => ⟨m, k, g⟩
  | s + 1, h1, h2 => by
    obtain ⟨m', k', g'⟩ := g_pH g s (fun i hi => h1 i (by omega)) (fun i hi => h2 i (by omega))
    obtain ⟨-, -, a3, a4⟩ := (st_le (pos_le (f := f) (n := n) s)).2 (h1 s (by omega))
    exact g_ap g' (h2 s (by omega)) a3 a4
theorem g_out {m k : Nat} {a : Int32} {H' : q_M} (g : gH H m k) (o : h_out f n H a H') : ∃ m' k', gH H' m' k' := by
  obtain ⟨s, hs, hi, hc⟩ := o
  rcases hc with ⟨-, -, -, e⟩ | ⟨-, -, t, ht, hq, hc⟩
  · rw [e]
    exact ⟨m, k, g⟩
  · rcases hc with ⟨e1, -, e⟩ | ⟨-, -, -, e⟩
    · rw [e]
      subst e1
      exact g_pH g t (fun i h => (hi i h).1) hq
    · rw [e]
      exact ⟨m, k, g⟩
end AP
