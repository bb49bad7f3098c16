/-! the class's row over all sets: the least of all paths -/
def ldI (l : Nat) : Int32 := if l = 10 then -9 else nI l
/-- paths whose last go starts below i, or at i by one of the first j THINGS -/
def prd (H : q_M) (n h : Nat) (im : Bool) (i j : Nat) : Nat → Nat → Nat → Nat → Prop
  | 0, s, c, l => s = h ∧ c = 0 ∧ l = 10
  | k + 1, s, c, l => ∃ p c' l' t, pth H n h im k p c' l' ∧ (mayN H p n).testBit t = true ∧ s = p ||| 2 ^ t ∧ c = c' + ck H im p t ∧ (l = if p = h then t else l') ∧ (p < i ∨ p = i ∧ t < j)
def wA (H : q_M) (n h : Nat) (im : Bool) (M : q_M) : Prop := ∀ s, s < 2 ^ n → M 25 s = -1 ∨ ∃ k c l, pth H n h im k s c l ∧ M 25 s = nI c ∧ M 26 s = ldI l
def wB (H : q_M) (n h : Nat) (im : Bool) (i j : Nat) (M : q_M) : Prop := ∀ k s c l, prd H n h im i j k s c l → ∃ c' l', M 25 s = nI c' ∧ M 26 s = ldI l' ∧ c' < 16000000 ∧ l' ≤ 10 ∧ (c' < c ∨ c' = c ∧ lk l' ≤ lk l)
section WALK
variable {Q : q_R} {M M0 H : q_M} {n h W s t k c l i j : Nat} {im : Bool}
theorem ldI_lt {a b : Nat} (ha : a ≤ 10) (hb : b ≤ 10) : (ldI a < ldI b) = (lk a < lk b) := by
  have key : ∀ a, a ≤ 10 → ∀ b, b ≤ 10 → (ldI a < ldI b ↔ lk a < lk b) := by decide +kernel
  exact propext (key a ha b hb)
theorem ldI_le {a b : Nat} (ha : a ≤ 10) (hb : b ≤ 10) : (ldI b ≤ ldI a) = (lk b ≤ lk a) := by
  have key : ∀ a, a ≤ 10 → ∀ b, b ≤ 10 → (ldI b ≤ ldI a ↔ lk b ≤ lk a) := by decide +kernel
  exact propext (key a ha b hb)
theorem prd_pth : ∀ k s c l, prd H n h im i j k s c l → pth H n h im k s c l
  | 0, _, _, _, hp => hp
  | k + 1, s, c, l, hp => by
    obtain ⟨p, c', l', t, a, b, d, e, f, -⟩ := hp
    exact ⟨p, c', l', t, a, b, d, e, f⟩
theorem pth_prd (g : gH H n h) : ∀ k s c l, pth H n h im k s c l → s ≤ i → prd H n h im i j k s c l
  | 0, _, _, _, hp, _ => hp
  | k + 1, s, c, l, hp, hs => by
    obtain ⟨p, c', l', t, a, b, d, e, f⟩ := hp
    have h2 := two_pow_le g.1
    have hb := mayN_dis (show p < 1024 by have := (pth_lt g k p c' l' a).1; omega) g.1 t b
    have := or_bit_gt hb
    exact ⟨p, c', l', t, a, b, d, e, f, Or.inl (by rw [d] at hs; omega)⟩
theorem pth_all (g : gH H n h) : ∀ k s c l, pth H n h im k s c l → prd H n h im (2 ^ n) 0 k s c l := fun k s c l hp => pth_prd g k s c l hp (by have := (pth_lt g k s c l hp).1; omega)
theorem nI_m1 {c : Nat} (hc : c < 16000000) : ¬ nI c = -1 := by
  intro q
  have h1 : ¬ nI c < 0 := nI_pos (by omega)
  rw [q] at h1
  exact h1 (by decide)
theorem nI_16 {a b : Nat} (ha : a < 100000000) (hb : b < 100000000) : ((nI a = nI b) = (a = b)) ∧ ((nI a < nI b) = (a < b)) ∧ ((nI a ≤ nI b) = (a ≤ b)) := by
  refine ⟨propext (nI_eq (by omega) (by omega)), propext (nI_ltI (by omega) (by omega)), propext ?_⟩
  rw [← Int32.not_lt, nI_ltI (by omega) (by omega)]
  omega
theorem pr_N : ∀ x, x ≤ 60 → ∀ u, u ≤ 10 → 1 ≤ u → nI x * (25200 / nI u) = nI (x * (25200 / u)) ∧ nI x * 10 * 2520 / nI u = nI (x * (25200 / u)) := by decide +kernel
theorem nz_u : ∀ u, u ≤ 10 → 1 ≤ u → ¬ nI u ≤ 0 ∧ ¬ nI u = 0 := by decide +kernel
theorem y_O_price (g : gH H n h) (r : RC 1 M H) (ht : t < n) (hs : s < 1024) : q_Run 24 [.ref 1, .int (nI s), .int (nI t), .int (q_z im)] M Q = Q (some (.int (nI (ck H im s t)))) M := by
  have h10 := g.1
  obtain ⟨x1, x60, ex⟩ := go_xN g ht hs
  obtain ⟨u1, u10, eu⟩ := ck_sN g ht
  have eg : s_go M 1 (nI t) (nI s) = nI (go_x H s t) := r.go.trans ex
  have e3 : s_get M (1 + 3) 10 (nI t) = nI (ck_s H t) := by rw [r.get (c := 3) (by omega) (by omega), s_get_nI (by omega) (by omega)]; exact eu
  obtain ⟨z1, z2⟩ := nz_u _ u10 u1
  have ep := (pr_N _ x60 _ u10 u1).1
  rw [e_O_priceOfGo]
  simp only [gO_priceOfGo_0, gO_priceOfGo_1, gO_priceOfGo_2, gO_priceOfGo_3, gO_priceOfGo_6, gO_priceOfGo_8, gO_priceOfGo_9, gO_priceOfGo_12, gO_priceOfGo_13, gO_priceOfGo_16, gO_priceOfGo_18, gO_priceOfGo_19, gO_priceOfGo_22, gO_priceOfGo_24, gO_priceOfGo_27, gO_priceOfGo_29, gO_priceOfGo_32, gO_priceOfGo_34, gO_priceOfGo_35, gO_priceOfGo_36, gO_priceOfGo_39, gO_priceOfGo_41, ↓reduceIte, Bool.false_eq_true, Bool.true_eq_false, qk_i, qk_r, qk_n, Option.toList_some, Option.toList_none, List.cons_append, List.nil_append, true_and, and_true, true_or, or_true, eq_self, if_true, if_false, q_b1, q_b2, c_A, c_R, c_O, c_M, c_H1, c_H8, c_H15, x_H_minutesOfGo c_H1, rf_H2 c_H1, x_W_get (al_H c_H1).2.2.1, eg, e3, z1, z2, q_z0, ep]
  unfold ck
  cases im
  · simp only [n1z', ↓reduceIte, if_true, if_false, eq_self, not_true, not_false_eq_true, not_true_eq_false, Bool.true_eq_false, Bool.false_eq_true, Bool.not_false, Bool.not_true, Bool.and_true, Bool.and_false, Bool.true_and, Bool.false_and]
  · simp only [n1z', ↓reduceIte, if_true, if_false, eq_self, not_true, not_false_eq_true, not_true_eq_false, Bool.true_eq_false, Bool.false_eq_true, Bool.not_false, Bool.not_true, Bool.and_true, Bool.and_false, Bool.true_and, Bool.false_and, true_and]
theorem y_O_step {L : Nat} (g : gH H n h) (r : RC 1 M H) (ht : t < n) (hs : s < 1024) (hL : M 25 s = nI L) : q_Run 26 [.ref 24, .ref 1, .int (nI s), .int (nI t), .int (q_z im)] M Q =
    if M 25 (s ||| 2 ^ t) = -1 ∨ nI (L + ck H im s t) < M 25 (s ||| 2 ^ t) ∨ nI (L + ck H im s t) = M 25 (s ||| 2 ^ t) ∧ (if s = h then nI t else M 26 s) < M 26 (s ||| 2 ^ t) then
      Q none (q_put (q_put M 25 (s ||| 2 ^ t) (nI (L + ck H im s t))) 26 (s ||| 2 ^ t) (if s = h then nI t else M 26 s)) else Q none M := by
  have h10 := g.1
  have e7 := e7_of g r
  have nsh : (nI s = nI h) = (s = h) := nI_inj hs g.hlt
  have hn := or1_lt hs (show t < 10 by omega)
  have g25 : ∀ x, x < 1024 → s_get M 25 1024 (nI x) = M 25 x := fun x hx => s_get_nI hx (by omega)
  have g26 : ∀ x, x < 1024 → s_get M 26 1024 (nI x) = M 26 x := fun x hx => s_get_nI hx (by omega)
  rw [e_O_step]
  simp only [gO_step_0, gO_step_1, gO_step_4, gO_step_5, gO_step_8, gO_step_9, gO_step_10, gO_step_11, gO_step_13, gO_step_16, gO_step_17, gO_step_19, gO_step_20, gO_step_21, gO_step_24, gO_step_27, gO_step_28, gO_step_31, gO_step_32, gO_step_35, gO_step_36, gO_step_41, gO_step_42, gO_step_43, gO_step_44, gO_step_45, gO_step_46, gO_step_48, gO_step_49, gO_step_52, gO_step_54, gO_step_57, gO_step_59, gO_step_61, gO_step_63, gO_step_66, gO_step_68, gO_step_69, gO_step_72, gO_step_74, gO_step_77, gO_step_80, gO_step_81, gO_step_84, gO_step_87, gO_step_89, gO_step_90, gO_step_93, gO_step_95, gO_step_97, gO_step_100, gO_step_102, gO_step_105, gO_step_106, gO_step_109, gO_step_111, gO_step_113, gO_step_116, gO_step_117, gO_step_120, gO_step_122, gO_step_124, gO_step_127, ↓reduceIte, Bool.false_eq_true, Bool.true_eq_false, qk_i, qk_r, qk_n, Option.toList_some, Option.toList_none, List.cons_append, List.nil_append, true_and, and_true, true_or, or_true, eq_self, if_true, if_false, q_b1, q_b2, c_A, c_R, c_O, c_M, c_H1, c_H8, c_H15, rf_O0, x_W_get al_25, g25 s hs, hL, y_O_price g r ht hs, nI_add, e7, nsh, rf_O1, x_W_get al_26, g26 s hs, q_jn]
  simp only [gO_step_0, gO_step_1, gO_step_4, gO_step_5, gO_step_8, gO_step_9, gO_step_10, gO_step_11, gO_step_13, gO_step_16, gO_step_17, gO_step_19, gO_step_20, gO_step_21, gO_step_24, gO_step_27, gO_step_28, gO_step_31, gO_step_32, gO_step_35, gO_step_36, gO_step_39, gO_step_41, gO_step_42, gO_step_43, gO_step_44, gO_step_45, gO_step_46, gO_step_48, gO_step_49, gO_step_52, gO_step_54, gO_step_57, gO_step_59, gO_step_61, gO_step_63, gO_step_66, gO_step_68, gO_step_69, gO_step_72, gO_step_74, gO_step_77, gO_step_80, gO_step_81, gO_step_84, gO_step_87, gO_step_89, gO_step_90, gO_step_93, gO_step_95, gO_step_97, gO_step_100, gO_step_102, gO_step_105, gO_step_106, gO_step_109, gO_step_111, gO_step_113, gO_step_116, gO_step_117, gO_step_120, gO_step_122, gO_step_124, gO_step_127, ↓reduceIte, Bool.false_eq_true, Bool.true_eq_false, qk_i, qk_r, qk_n, Option.toList_some, Option.toList_none, List.cons_append, List.nil_append, true_and, and_true, true_or, or_true, eq_self, if_true, if_false, q_b1, q_b2, c_A, c_R, c_O, c_M, c_H1, c_H8, c_H15, rf_O0, rf_O1, x_W_get al_25, x_W_get al_26, or1_nI (show t < 31 by omega), g25 _ hn, g26 _ hn, q_jn]
  simp only [gO_step_0, gO_step_1, gO_step_4, gO_step_5, gO_step_8, gO_step_9, gO_step_10, gO_step_11, gO_step_13, gO_step_16, gO_step_17, gO_step_19, gO_step_20, gO_step_21, gO_step_24, gO_step_27, gO_step_28, gO_step_31, gO_step_32, gO_step_35, gO_step_36, gO_step_39, gO_step_41, gO_step_42, gO_step_43, gO_step_44, gO_step_45, gO_step_46, gO_step_48, gO_step_49, gO_step_52, gO_step_54, gO_step_57, gO_step_59, gO_step_61, gO_step_63, gO_step_66, gO_step_68, gO_step_69, gO_step_72, gO_step_74, gO_step_77, gO_step_80, gO_step_81, gO_step_84, gO_step_85, gO_step_87, gO_step_89, gO_step_90, gO_step_93, gO_step_95, gO_step_97, gO_step_100, gO_step_102, gO_step_105, gO_step_106, gO_step_109, gO_step_111, gO_step_113, gO_step_116, gO_step_117, gO_step_120, gO_step_122, gO_step_124, gO_step_127, ↓reduceIte, Bool.false_eq_true, Bool.true_eq_false, qk_i, qk_r, qk_n, Option.toList_some, Option.toList_none, List.cons_append, List.nil_append, true_and, and_true, true_or, or_true, eq_self, if_true, if_false, q_b1, q_b2, c_A, c_R, c_O, c_M, c_H1, c_H8, c_H15, rf_O0, rf_O1, x_W_put al_25, x_W_put al_26, s_put_nI (k := 25) (m := 1024) (j := s ||| 2 ^ t) hn (by omega), s_put_nI (k := 26) (m := 1024) (j := s ||| 2 ^ t) hn (by omega)]
  have ei : (if ¬ s = h then M 26 s else nI t) = (if s = h then nI t else M 26 s) := by
    by_cases e : s = h
    · rw [if_pos e, if_neg (fun q => q e)]
    · rw [if_neg e, if_pos e]
  simp only [ei]
  generalize (if s = h then nI t else M 26 s) = ld
  generalize nI (L + ck H im s t) = P
  generalize M 25 (s ||| 2 ^ t) = K
  generalize M 26 (s ||| 2 ^ t) = KL
  have n1 : ¬ (1 : Int32) = 0 := by decide
  by_cases c1 : K = -1
  · rw [if_pos c1, if_pos (Or.inl c1)]
  · by_cases c2 : P < K
    · rw [if_neg c1, if_pos c2, if_pos (Or.inr (Or.inl c2))]
    · rw [if_neg c1, if_neg c2]
      by_cases c3 : P = K
      · rw [if_neg (fun q : ¬ P = K => q c3)]
        by_cases c4 : KL ≤ ld
        · have e : ¬ (K = -1 ∨ P < K ∨ P = K ∧ ld < KL) := fun q => q.elim c1 (fun q => q.elim c2 (fun q => Int32.not_lt.mpr c4 q.2))
          rw [if_pos c4, if_pos rfl, if_neg e]
        · have e : K = -1 ∨ P < K ∨ P = K ∧ ld < KL := Or.inr (Or.inr ⟨c3, Int32.not_le.mp c4⟩)
          rw [if_neg c4, if_neg n1, if_pos e]
      · have e : ¬ (K = -1 ∨ P < K ∨ P = K ∧ ld < KL) := fun q => q.elim c1 (fun q => q.elim c2 (fun q => c3 q.1))
        rw [if_pos c3, if_pos rfl, if_neg e]
/-- one step keeps what the rows say, and takes its go in -/
theorem step_inv {L li ki : Nat} (g : gH H n h) (hi : i < 2 ^ n) (hj : j < n) (hm : (mayN H i n).testBit j = true) (A : wA H n h im M) (B : wB H n h im i j M) (hp : pth H n h im ki i L li) (hL : M 25 i = nI L) (hl : M 26 i = ldI li) :
    (M 25 (i ||| 2 ^ j) = -1 ∨ nI (L + ck H im i j) < M 25 (i ||| 2 ^ j) ∨ nI (L + ck H im i j) = M 25 (i ||| 2 ^ j) ∧ (if i = h then nI j else M 26 i) < M 26 (i ||| 2 ^ j) →
      wA H n h im (q_put (q_put M 25 (i ||| 2 ^ j) (nI (L + ck H im i j))) 26 (i ||| 2 ^ j) (if i = h then nI j else M 26 i)) ∧ wB H n h im i (j + 1) (q_put (q_put M 25 (i ||| 2 ^ j) (nI (L + ck H im i j))) 26 (i ||| 2 ^ j) (if i = h then nI j else M 26 i))) ∧
    (¬ (M 25 (i ||| 2 ^ j) = -1 ∨ nI (L + ck H im i j) < M 25 (i ||| 2 ^ j) ∨ nI (L + ck H im i j) = M 25 (i ||| 2 ^ j) ∧ (if i = h then nI j else M 26 i) < M 26 (i ||| 2 ^ j)) → wB H n h im i (j + 1) M) := by
  have h10 := g.1
  have h2 := two_pow_le h10
  have hi' : i < 1024 := by omega
  have hLc := pth_c g hp
  have hck := ck_le (im := im) g hj hi'
  have hx : i ||| 2 ^ j < 2 ^ n := or_ltn hi (Nat.pow_lt_pow_right (by omega) hj)
  -- the lead of the step
  have hled : (if i = h then nI j else M 26 i) = ldI (if i = h then j else li) := by
    by_cases e : i = h
    · rw [if_pos e, if_pos e]
      unfold ldI
      rw [if_neg (by omega)]
    · rw [if_neg e, if_neg e]
      exact hl
  have hl10 : (if i = h then j else li) ≤ 10 := by
    split
    · omega
    · exact hLc.2.1
  have hstep : pth H n h im (ki + 1) (i ||| 2 ^ j) (L + ck H im i j) (if i = h then j else li) := ⟨i, L, li, j, hp, hm, rfl, rfl, rfl⟩
  have hcs := (pth_c g hstep).1
  -- each path by this go is no better than the step
  have hnew : ∀ k s c l, prd H n h im i (j + 1) k s c l → prd H n h im i j k s c l ∨ s = i ||| 2 ^ j ∧ (L + ck H im i j < c ∨ L + ck H im i j = c ∧ lk (if i = h then j else li) ≤ lk l) := by
    intro k s c l hq
    cases k with
    | zero => exact Or.inl hq
    | succ k =>
      obtain ⟨p, c', l', t, a, b, d, e, f, o⟩ := hq
      by_cases o2 : p < i ∨ p = i ∧ t < j
      · exact Or.inl ⟨p, c', l', t, a, b, d, e, f, o2⟩
      · have hpi : p = i ∧ t = j := by omega
        obtain ⟨rfl, rfl⟩ := hpi
        refine Or.inr ⟨d, ?_⟩
        obtain ⟨c2, l2, m1, m2, m3, m4, m5⟩ := B k p c' l' (pth_prd g k p c' l' a (Nat.le_refl _))
        have hc2 : c2 = L := by
          have := (nI_16 (a := c2) (b := L) (by omega) (by omega)).1
          rw [← this, ← m1, hL]
        by_cases e0 : p = h
        · rw [if_pos e0] at f ⊢
          rw [e, f]
          omega
        · rw [if_neg e0] at f ⊢
          have hl2 : lk l2 = lk li := by
            have a1 := ldI_lt m4 hLc.2.1
            have a2 := ldI_lt hLc.2.1 m4
            rw [← m2, ← hl] at a1 a2
            have b1 : ¬ lk l2 < lk li := fun q => Int32.lt_irrefl (Eq.mpr a1 q)
            have b2 : ¬ lk li < lk l2 := fun q => Int32.lt_irrefl (Eq.mpr a2 q)
            omega
          rw [e, f]
          omega
  refine ⟨fun hu => ⟨fun s hs => ?_, fun k s c l hq => ?_⟩, fun hu k s c l hq => ?_⟩
  · rw [q_put_ne (by decide), q_put_at, q_put_at, q_put_ne (show (26 : Nat) ≠ 25 by decide)]
    by_cases e : s = i ||| 2 ^ j
    · rw [if_pos e, if_pos e]
      subst e
      exact Or.inr ⟨ki + 1, _, _, hstep, rfl, hled⟩
    · rw [if_neg e, if_neg e]
      exact A s hs
  · rw [q_put_ne (by decide), q_put_at, q_put_at, q_put_ne (show (26 : Nat) ≠ 25 by decide)]
    by_cases e : s = i ||| 2 ^ j
    · rw [if_pos e, if_pos e]
      refine ⟨_, _, rfl, hled, hcs, hl10, ?_⟩
      rcases hnew k s c l hq with q | ⟨-, q⟩
      · obtain ⟨c2, l2, m1, m2, m3, m4, m5⟩ := B k s c l q
        rw [e] at m1 m2
        rw [m1, m2, hled] at hu
        have t1 := nI_16 (a := L + ck H im i j) (b := c2) (by omega) (by omega)
        rw [t1.2.1, t1.1, ldI_lt hl10 m4] at hu
        rcases hu with z | z | z
        · exact absurd z (nI_m1 m3)
        · omega
        · omega
      · exact q
    · rw [if_neg e, if_neg e]
      rcases hnew k s c l hq with q | ⟨q, -⟩
      · exact B k s c l q
      · exact absurd q e
  · rcases hnew k s c l hq with q | ⟨q, q2⟩
    · exact B k s c l q
    · subst q
      rcases A (i ||| 2 ^ j) hx with z | ⟨k2, c2, l2, p2, m1, m2⟩
      · exact absurd (Or.inl z) hu
      · obtain ⟨b1, b2, -⟩ := pth_c g p2
        refine ⟨c2, l2, m1, m2, b1, b2, ?_⟩
        rw [m1, m2, hled] at hu
        have t1 := nI_16 (a := L + ck H im i j) (b := c2) (by omega) (by omega)
        rw [t1.2.1, t1.1, ldI_lt hl10 b2] at hu
        omega
theorem c_wk0 {X : Int32} (g : gH H n h) (r : RC 1 M H) (hQ : ∀ o : Int32, q_g 27 none Q 130 [some (.ref 24), some (.ref 1), some (.int X), some (.int (nI (2 ^ n - 1))), some (.int (nI i)), some (.int 0), some (.int o)] [] M) : ∀ k j, j + k = n →
    q_g 27 none Q 95 [some (.ref 24), some (.ref 1), some (.int X), some (.int (nI (2 ^ n - 1))), some (.int (nI i)), some (.int 0), some (.int (nI j))] [] M := by
  have h10 := g.1
  intro k
  induction k with
  | zero =>
    intro j hj
    have : j = n := by omega
    subst this
    rw [gO_walk_95]
    simp only [gO_walk_0, gO_walk_1, gO_walk_4, gO_walk_5, gO_walk_6, gO_walk_8, gO_walk_10, gO_walk_11, gO_walk_14, gO_walk_15, gO_walk_18, gO_walk_20, gO_walk_21, gO_walk_24, gO_walk_27, gO_walk_30, gO_walk_31, gO_walk_34, gO_walk_35, gO_walk_38, gO_walk_39, gO_walk_42, gO_walk_43, gO_walk_46, gO_walk_47, gO_walk_50, gO_walk_52, gO_walk_55, gO_walk_56, gO_walk_59, gO_walk_61, gO_walk_63, gO_walk_64, gO_walk_67, gO_walk_68, gO_walk_71, gO_walk_73, gO_walk_76, gO_walk_77, gO_walk_80, gO_walk_81, gO_walk_84, gO_walk_85, gO_walk_87, gO_walk_90, gO_walk_92, gO_walk_93, gO_walk_97, gO_walk_98, gO_walk_101, gO_walk_104, gO_walk_106, gO_walk_108, gO_walk_109, gO_walk_110, gO_walk_111, gO_walk_114, gO_walk_115, gO_walk_116, gO_walk_118, gO_walk_120, gO_walk_121, gO_walk_124, gO_walk_127, gO_walk_133, gO_walk_136, ↓reduceIte, Bool.false_eq_true, Bool.true_eq_false, qk_i, qk_r, qk_n, Option.toList_some, Option.toList_none, List.cons_append, List.nil_append, true_and, and_true, true_or, or_true, eq_self, if_true, if_false, q_b1, q_b2, c_A, c_R, c_O, c_M, c_H1, c_H8, c_H15, e6_of g r, Int32.le_refl]
    exact hQ _
  | succ k ih =>
    intro j hj
    have h1 : ¬ nI n ≤ nI j := nI_ge (by omega) (by omega)
    have e0 : (0 : Int32) >>> (nI j &&& 31) &&& 1 = 0 := by
      rw [← nI_0, bit_nI (by omega) (by omega), Nat.zero_testBit]
      rfl
    rw [gO_walk_95]
    simp only [gO_walk_0, gO_walk_1, gO_walk_4, gO_walk_5, gO_walk_6, gO_walk_8, gO_walk_10, gO_walk_11, gO_walk_14, gO_walk_15, gO_walk_18, gO_walk_20, gO_walk_21, gO_walk_24, gO_walk_27, gO_walk_30, gO_walk_31, gO_walk_34, gO_walk_35, gO_walk_38, gO_walk_39, gO_walk_42, gO_walk_43, gO_walk_46, gO_walk_47, gO_walk_50, gO_walk_52, gO_walk_55, gO_walk_56, gO_walk_59, gO_walk_61, gO_walk_63, gO_walk_64, gO_walk_67, gO_walk_68, gO_walk_71, gO_walk_73, gO_walk_76, gO_walk_77, gO_walk_80, gO_walk_81, gO_walk_84, gO_walk_85, gO_walk_87, gO_walk_90, gO_walk_92, gO_walk_93, gO_walk_97, gO_walk_98, gO_walk_101, gO_walk_104, gO_walk_106, gO_walk_108, gO_walk_109, gO_walk_110, gO_walk_111, gO_walk_114, gO_walk_115, gO_walk_116, gO_walk_118, gO_walk_120, gO_walk_121, gO_walk_124, gO_walk_127, gO_walk_133, gO_walk_136, ↓reduceIte, Bool.false_eq_true, Bool.true_eq_false, qk_i, qk_r, qk_n, Option.toList_some, Option.toList_none, List.cons_append, List.nil_append, true_and, and_true, true_or, or_true, eq_self, if_true, if_false, q_b1, q_b2, c_A, c_R, c_O, c_M, c_H1, c_H8, c_H15, e6_of g r, h1, nI_1, e0]
    exact ih (j + 1) (by omega)
theorem c_wk3 {L li ki : Nat} (g : gH H n h) (r0 : RC 1 M0 H) (hi : i < 2 ^ n) (hp : pth H n h im ki i L li) (hQ : ∀ M (o : Int32), eqx So M0 M → wA H n h im M → wB H n h im i n M → q_g 27 none Q 130 [some (.ref 24), some (.ref 1), some (.int (q_z im)), some (.int (nI (2 ^ n - 1))), some (.int (nI i)), some (.int (nI (mayN H i n))), some (.int o)] [] M) : ∀ k j, j + k = n → ∀ M, eqx So M0 M → wA H n h im M → wB H n h im i j M → M 25 i = nI L → M 26 i = ldI li →
    q_g 27 none Q 95 [some (.ref 24), some (.ref 1), some (.int (q_z im)), some (.int (nI (2 ^ n - 1))), some (.int (nI i)), some (.int (nI (mayN H i n))), some (.int (nI j))] [] M := by
  have h10 := g.1
  have h2 := two_pow_le h10
  have hml : mayN H i n < 2 ^ 31 := Nat.lt_of_lt_of_le (mayN_lt n) (Nat.le_trans h2 (by omega))
  intro k
  induction k with
  | zero =>
    intro j hj M hM A B hL hl
    have : j = n := by omega
    subst this
    rw [gO_walk_95]
    simp only [gO_walk_0, gO_walk_1, gO_walk_4, gO_walk_5, gO_walk_6, gO_walk_8, gO_walk_10, gO_walk_11, gO_walk_14, gO_walk_15, gO_walk_18, gO_walk_20, gO_walk_21, gO_walk_24, gO_walk_27, gO_walk_30, gO_walk_31, gO_walk_34, gO_walk_35, gO_walk_38, gO_walk_39, gO_walk_42, gO_walk_43, gO_walk_46, gO_walk_47, gO_walk_50, gO_walk_52, gO_walk_55, gO_walk_56, gO_walk_59, gO_walk_61, gO_walk_63, gO_walk_64, gO_walk_67, gO_walk_68, gO_walk_71, gO_walk_73, gO_walk_76, gO_walk_77, gO_walk_80, gO_walk_81, gO_walk_84, gO_walk_85, gO_walk_87, gO_walk_90, gO_walk_92, gO_walk_93, gO_walk_97, gO_walk_98, gO_walk_101, gO_walk_104, gO_walk_106, gO_walk_108, gO_walk_109, gO_walk_110, gO_walk_111, gO_walk_114, gO_walk_115, gO_walk_116, gO_walk_118, gO_walk_120, gO_walk_121, gO_walk_124, gO_walk_127, gO_walk_133, gO_walk_136, ↓reduceIte, Bool.false_eq_true, Bool.true_eq_false, qk_i, qk_r, qk_n, Option.toList_some, Option.toList_none, List.cons_append, List.nil_append, true_and, and_true, true_or, or_true, eq_self, if_true, if_false, q_b1, q_b2, c_A, c_R, c_O, c_M, c_H1, c_H8, c_H15, e6_of g (r0.so hM), Int32.le_refl]
    exact hQ _ _ hM A B
  | succ k ih =>
    intro j hj M hM A B hL hl
    have h1 : ¬ nI n ≤ nI j := nI_ge (by omega) (by omega)
    have r := r0.so hM
    rw [gO_walk_95]
    simp only [gO_walk_0, gO_walk_1, gO_walk_4, gO_walk_5, gO_walk_6, gO_walk_8, gO_walk_10, gO_walk_11, gO_walk_14, gO_walk_15, gO_walk_18, gO_walk_20, gO_walk_21, gO_walk_24, gO_walk_27, gO_walk_30, gO_walk_31, gO_walk_34, gO_walk_35, gO_walk_38, gO_walk_39, gO_walk_42, gO_walk_43, gO_walk_46, gO_walk_47, gO_walk_50, gO_walk_52, gO_walk_55, gO_walk_56, gO_walk_59, gO_walk_61, gO_walk_63, gO_walk_64, gO_walk_67, gO_walk_68, gO_walk_71, gO_walk_73, gO_walk_76, gO_walk_77, gO_walk_80, gO_walk_81, gO_walk_84, gO_walk_85, gO_walk_87, gO_walk_90, gO_walk_92, gO_walk_93, gO_walk_97, gO_walk_98, gO_walk_101, gO_walk_104, gO_walk_106, gO_walk_108, gO_walk_109, gO_walk_110, gO_walk_111, gO_walk_114, gO_walk_115, gO_walk_116, gO_walk_118, gO_walk_120, gO_walk_121, gO_walk_124, gO_walk_127, gO_walk_133, gO_walk_136, ↓reduceIte, Bool.false_eq_true, Bool.true_eq_false, qk_i, qk_r, qk_n, Option.toList_some, Option.toList_none, List.cons_append, List.nil_append, true_and, and_true, true_or, or_true, eq_self, if_true, if_false, q_b1, q_b2, c_A, c_R, c_O, c_M, c_H1, c_H8, c_H15, e6_of g r, h1, nI_1, bit_nI hml (show j < 31 by omega), y_O_step g r (show j < n by omega) (show i < 1024 by omega) hL]
    cases hb : (mayN H i n).testBit j
    · simp only [n1z', ↓reduceIte, if_true, if_false, eq_self, not_true, not_false_eq_true, not_true_eq_false, Bool.true_eq_false, Bool.false_eq_true, Bool.not_false, Bool.not_true, Bool.and_true, Bool.and_false, Bool.true_and, Bool.false_and]
      refine ih (j + 1) (by omega) M hM A (fun k s c l hq => B k s c l ?_) hL hl
      cases k with
      | zero => exact hq
      | succ k =>
        obtain ⟨p, c', l', t, a, b, d, e, f, o⟩ := hq
        refine ⟨p, c', l', t, a, b, d, e, f, ?_⟩
        by_cases o2 : p = i ∧ t = j
        · rw [o2.1, o2.2, hb] at b
          cases b
        · omega
    · have hbi := mayN_dis (show i < 1024 by omega) h10 j hb
      have hgt := or_bit_gt hbi
      obtain ⟨s1, s2⟩ := step_inv g hi (show j < n by omega) hb A B hp hL hl
      simp only [n1z', ↓reduceIte, if_true, if_false, eq_self, not_true, not_false_eq_true, not_true_eq_false, Bool.true_eq_false, Bool.false_eq_true, Bool.not_false, Bool.not_true, Bool.and_true, Bool.and_false, Bool.true_and, Bool.false_and]
      by_cases hu : M 25 (i ||| 2 ^ j) = -1 ∨ nI (L + ck H im i j) < M 25 (i ||| 2 ^ j) ∨ nI (L + ck H im i j) = M 25 (i ||| 2 ^ j) ∧ (if i = h then nI j else M 26 i) < M 26 (i ||| 2 ^ j)
      · obtain ⟨A', B'⟩ := s1 hu
        rw [if_pos hu]
        refine ih (j + 1) (by omega) _ ((hM.qput (by decide)).qput (by decide)) A' B' ?_ ?_
        · rw [q_put_ne (by decide), q_put_at, if_neg (by omega)]
          exact hL
        · rw [q_put_at, if_neg (by omega), q_put_ne (by decide)]
          exact hl
      · rw [if_neg hu]
        exact ih (j + 1) (by omega) M hM A (s2 hu) hL hl
theorem c_wk2 (g : gH H n h) (r0 : RC 1 M0 H) (hQ : ∀ M, eqx So M0 M → wA H n h im M → wB H n h im (2 ^ n) 0 M → Q none M) : ∀ k i, i + k = 2 ^ n → ∀ M (o5 o6 : Option Value), eqx So M0 M → wA H n h im M → wB H n h im i 0 M →
    q_g 27 none Q 61 [some (.ref 24), some (.ref 1), some (.int (q_z im)), some (.int (nI (2 ^ n - 1))), some (.int (nI i)), o5, o6] [] M := by
  have h10 := g.1
  have h2 := two_pow_le h10
  have hp := Nat.two_pow_pos n
  intro k
  induction k with
  | zero =>
    intro i hi M o5 o6 hM A B
    have : i = 2 ^ n := by omega
    subst this
    have h1 : nI (2 ^ n - 1) < nI (2 ^ n) := nI_lt (by omega) (by omega)
    rw [gO_walk_61]
    simp only [gO_walk_0, gO_walk_1, gO_walk_4, gO_walk_5, gO_walk_6, gO_walk_8, gO_walk_10, gO_walk_11, gO_walk_14, gO_walk_15, gO_walk_18, gO_walk_20, gO_walk_21, gO_walk_24, gO_walk_27, gO_walk_30, gO_walk_31, gO_walk_34, gO_walk_35, gO_walk_38, gO_walk_39, gO_walk_42, gO_walk_43, gO_walk_46, gO_walk_47, gO_walk_50, gO_walk_52, gO_walk_55, gO_walk_56, gO_walk_59, gO_walk_63, gO_walk_64, gO_walk_67, gO_walk_68, gO_walk_71, gO_walk_73, gO_walk_76, gO_walk_77, gO_walk_80, gO_walk_81, gO_walk_84, gO_walk_85, gO_walk_87, gO_walk_90, gO_walk_92, gO_walk_93, gO_walk_95, gO_walk_97, gO_walk_98, gO_walk_101, gO_walk_104, gO_walk_106, gO_walk_108, gO_walk_109, gO_walk_110, gO_walk_111, gO_walk_114, gO_walk_115, gO_walk_116, gO_walk_118, gO_walk_120, gO_walk_121, gO_walk_124, gO_walk_127, gO_walk_130, gO_walk_133, gO_walk_136, ↓reduceIte, Bool.false_eq_true, Bool.true_eq_false, qk_i, qk_r, qk_n, Option.toList_some, Option.toList_none, List.cons_append, List.nil_append, true_and, and_true, true_or, or_true, eq_self, if_true, if_false, q_b1, q_b2, c_A, c_R, c_O, c_M, c_H1, c_H8, c_H15, h1]
    exact hQ _ hM A B
  | succ k ih =>
    intro i hi M o5 o6 hM A B
    have h1 : ¬ nI (2 ^ n - 1) < nI i := nI_nlt (by omega) (by omega)
    have r := r0.so hM
    have g25 : s_get M 25 1024 (nI i) = M 25 i := s_get_nI (by omega) (by omega)
    have next : ∀ (M' : q_M) (x o : Int32), eqx So M0 M' → wA H n h im M' → wB H n h im i n M' → q_g 27 none Q 130 [some (.ref 24), some (.ref 1), some (.int (q_z im)), some (.int (nI (2 ^ n - 1))), some (.int (nI i)), some (.int x), some (.int o)] [] M' := by
      intro M' x o a b c
      simp only [gO_walk_0, gO_walk_1, gO_walk_4, gO_walk_5, gO_walk_6, gO_walk_8, gO_walk_10, gO_walk_11, gO_walk_14, gO_walk_15, gO_walk_18, gO_walk_20, gO_walk_21, gO_walk_24, gO_walk_27, gO_walk_30, gO_walk_31, gO_walk_34, gO_walk_35, gO_walk_38, gO_walk_39, gO_walk_42, gO_walk_43, gO_walk_46, gO_walk_47, gO_walk_50, gO_walk_52, gO_walk_55, gO_walk_56, gO_walk_59, gO_walk_63, gO_walk_64, gO_walk_67, gO_walk_68, gO_walk_71, gO_walk_73, gO_walk_76, gO_walk_77, gO_walk_80, gO_walk_81, gO_walk_84, gO_walk_85, gO_walk_87, gO_walk_90, gO_walk_92, gO_walk_93, gO_walk_95, gO_walk_97, gO_walk_98, gO_walk_101, gO_walk_104, gO_walk_106, gO_walk_108, gO_walk_109, gO_walk_110, gO_walk_111, gO_walk_114, gO_walk_115, gO_walk_116, gO_walk_118, gO_walk_120, gO_walk_121, gO_walk_124, gO_walk_127, gO_walk_130, gO_walk_133, gO_walk_136, ↓reduceIte, Bool.false_eq_true, Bool.true_eq_false, qk_i, qk_r, qk_n, Option.toList_some, Option.toList_none, List.cons_append, List.nil_append, true_and, and_true, true_or, or_true, eq_self, if_true, if_false, q_b1, q_b2, c_A, c_R, c_O, c_M, c_H1, c_H8, c_H15, nI_1]
      refine ih (i + 1) (by omega) M' _ _ a b fun k s c' l hq => c k s c' l ?_
      cases k with
      | zero => exact hq
      | succ k =>
        obtain ⟨p, c2, l', t, a, b, d, e, f, o⟩ := hq
        have ht := (mayN_tb' g b).1
        exact ⟨p, c2, l', t, a, b, d, e, f, by omega⟩
    rw [gO_walk_61]
    simp only [gO_walk_0, gO_walk_1, gO_walk_4, gO_walk_5, gO_walk_6, gO_walk_8, gO_walk_10, gO_walk_11, gO_walk_14, gO_walk_15, gO_walk_18, gO_walk_20, gO_walk_21, gO_walk_24, gO_walk_27, gO_walk_30, gO_walk_31, gO_walk_34, gO_walk_35, gO_walk_38, gO_walk_39, gO_walk_42, gO_walk_43, gO_walk_46, gO_walk_47, gO_walk_50, gO_walk_52, gO_walk_55, gO_walk_56, gO_walk_59, gO_walk_63, gO_walk_64, gO_walk_67, gO_walk_68, gO_walk_71, gO_walk_73, gO_walk_76, gO_walk_77, gO_walk_80, gO_walk_81, gO_walk_84, gO_walk_85, gO_walk_87, gO_walk_90, gO_walk_92, gO_walk_93, gO_walk_97, gO_walk_98, gO_walk_101, gO_walk_104, gO_walk_106, gO_walk_108, gO_walk_109, gO_walk_110, gO_walk_111, gO_walk_114, gO_walk_115, gO_walk_116, gO_walk_118, gO_walk_120, gO_walk_121, gO_walk_124, gO_walk_127, gO_walk_130, gO_walk_133, gO_walk_136, ↓reduceIte, Bool.false_eq_true, Bool.true_eq_false, qk_i, qk_r, qk_n, Option.toList_some, Option.toList_none, List.cons_append, List.nil_append, true_and, and_true, true_or, or_true, eq_self, if_true, if_false, q_b1, q_b2, c_A, c_R, c_O, c_M, c_H1, c_H8, c_H15, h1, rf_O0, x_W_get al_25, g25, y_H_mayBy g r]
    rcases A i (by omega) with z | ⟨ki, L, li, pp, m1, m2⟩
    · simp only [z, n1z', ↓reduceIte, if_true, if_false, eq_self, not_true, not_false_eq_true, not_true_eq_false, Bool.true_eq_false, Bool.false_eq_true, Bool.not_false, Bool.not_true, Bool.and_true, Bool.and_false, Bool.true_and, Bool.false_and, gO_walk_0, gO_walk_1, gO_walk_4, gO_walk_5, gO_walk_6, gO_walk_8, gO_walk_10, gO_walk_11, gO_walk_14, gO_walk_15, gO_walk_18, gO_walk_20, gO_walk_21, gO_walk_24, gO_walk_27, gO_walk_30, gO_walk_31, gO_walk_34, gO_walk_35, gO_walk_38, gO_walk_39, gO_walk_42, gO_walk_43, gO_walk_46, gO_walk_47, gO_walk_50, gO_walk_52, gO_walk_55, gO_walk_56, gO_walk_59, gO_walk_63, gO_walk_64, gO_walk_67, gO_walk_68, gO_walk_71, gO_walk_73, gO_walk_76, gO_walk_77, gO_walk_80, gO_walk_81, gO_walk_84, gO_walk_85, gO_walk_87, gO_walk_90, gO_walk_92, gO_walk_93, gO_walk_97, gO_walk_98, gO_walk_101, gO_walk_104, gO_walk_106, gO_walk_108, gO_walk_109, gO_walk_110, gO_walk_111, gO_walk_114, gO_walk_115, gO_walk_116, gO_walk_118, gO_walk_120, gO_walk_121, gO_walk_124, gO_walk_127, gO_walk_130, gO_walk_133, gO_walk_136, ↓reduceIte, Bool.false_eq_true, Bool.true_eq_false, qk_i, qk_r, qk_n, Option.toList_some, Option.toList_none, List.cons_append, List.nil_append, true_and, and_true, true_or, or_true, eq_self, if_true, if_false, q_b1, q_b2, c_A, c_R, c_O, c_M, c_H1, c_H8, c_H15]
      refine c_wk0 g r (fun o => next M _ _ hM A fun k s c l hq => B k s c l ?_) n 0 (by omega)
      cases k with
      | zero => exact hq
      | succ k =>
        obtain ⟨p, c2, l', t, a, b, d, e, f, o⟩ := hq
        refine ⟨p, c2, l', t, a, b, d, e, f, ?_⟩
        by_cases o2 : p = i
        · subst o2
          obtain ⟨c3, l3, m1, -, m3, -, -⟩ := B k p c2 l' (pth_prd g k p c2 l' a (Nat.le_refl _))
          rw [z] at m1
          exact absurd m1.symm (nI_m1 m3)
        · omega
    · have hne : ¬ M 25 i = -1 := by
        rw [m1]
        exact nI_m1 (pth_c g pp).1
      simp only [hne, n1z', ↓reduceIte, if_true, if_false, eq_self, not_true, not_false_eq_true, not_true_eq_false, Bool.true_eq_false, Bool.false_eq_true, Bool.not_false, Bool.not_true, Bool.and_true, Bool.and_false, Bool.true_and, Bool.false_and, gO_walk_0, gO_walk_1, gO_walk_4, gO_walk_5, gO_walk_6, gO_walk_8, gO_walk_10, gO_walk_11, gO_walk_14, gO_walk_15, gO_walk_18, gO_walk_20, gO_walk_21, gO_walk_24, gO_walk_27, gO_walk_30, gO_walk_31, gO_walk_34, gO_walk_35, gO_walk_38, gO_walk_39, gO_walk_42, gO_walk_43, gO_walk_46, gO_walk_47, gO_walk_50, gO_walk_52, gO_walk_55, gO_walk_56, gO_walk_59, gO_walk_63, gO_walk_64, gO_walk_67, gO_walk_68, gO_walk_71, gO_walk_73, gO_walk_76, gO_walk_77, gO_walk_80, gO_walk_81, gO_walk_84, gO_walk_85, gO_walk_87, gO_walk_90, gO_walk_92, gO_walk_93, gO_walk_97, gO_walk_98, gO_walk_101, gO_walk_104, gO_walk_106, gO_walk_108, gO_walk_109, gO_walk_110, gO_walk_111, gO_walk_114, gO_walk_115, gO_walk_116, gO_walk_118, gO_walk_120, gO_walk_121, gO_walk_124, gO_walk_127, gO_walk_130, gO_walk_133, gO_walk_136, ↓reduceIte, Bool.false_eq_true, Bool.true_eq_false, qk_i, qk_r, qk_n, Option.toList_some, Option.toList_none, List.cons_append, List.nil_append, true_and, and_true, true_or, or_true, eq_self, if_true, if_false, q_b1, q_b2, c_A, c_R, c_O, c_M, c_H1, c_H8, c_H15]
      exact c_wk3 (M0 := M0) g r0 (by omega) pp (fun M' o a b c => next M' _ _ a b c) n 0 (by omega) M hM A B m1 m2
theorem c_wk1 {X : Int32} (g : gH H n h) (hQ : ∀ M (o1 : Int32), eqx So M0 M → (∀ s, s < 2 ^ n → M 25 s = -1) → q_g 27 none Q 30 [some (.ref 24), some (.ref 1), some (.int X), some (.int (nI (2 ^ n - 1))), some (.int o1), none, none] [] M) : ∀ k j, j + k = 2 ^ n → ∀ M, eqx So M0 M → (∀ s, s < j → M 25 s = -1) →
    q_g 27 none Q 8 [some (.ref 24), some (.ref 1), some (.int X), some (.int (nI (2 ^ n - 1))), some (.int (nI j)), none, none] [] M := by
  have h2 := two_pow_le g.1
  have hp := Nat.two_pow_pos n
  intro k
  induction k with
  | zero =>
    intro j hj M hM hz
    have h1 : nI (2 ^ n - 1) < nI j := nI_lt (by omega) (by omega)
    rw [gO_walk_8]
    simp only [gO_walk_0, gO_walk_1, gO_walk_4, gO_walk_5, gO_walk_6, gO_walk_10, gO_walk_11, gO_walk_14, gO_walk_15, gO_walk_18, gO_walk_20, gO_walk_21, gO_walk_24, gO_walk_27, gO_walk_31, gO_walk_34, gO_walk_35, gO_walk_38, gO_walk_39, gO_walk_42, gO_walk_43, gO_walk_46, gO_walk_47, gO_walk_50, gO_walk_52, gO_walk_55, gO_walk_56, gO_walk_59, gO_walk_61, gO_walk_63, gO_walk_64, gO_walk_67, gO_walk_68, gO_walk_71, gO_walk_73, gO_walk_76, gO_walk_77, gO_walk_80, gO_walk_81, gO_walk_84, gO_walk_85, gO_walk_87, gO_walk_90, gO_walk_92, gO_walk_93, gO_walk_95, gO_walk_97, gO_walk_98, gO_walk_101, gO_walk_104, gO_walk_106, gO_walk_108, gO_walk_109, gO_walk_110, gO_walk_111, gO_walk_114, gO_walk_115, gO_walk_116, gO_walk_118, gO_walk_120, gO_walk_121, gO_walk_124, gO_walk_127, gO_walk_130, gO_walk_133, gO_walk_136, ↓reduceIte, Bool.false_eq_true, Bool.true_eq_false, qk_i, qk_r, qk_n, Option.toList_some, Option.toList_none, List.cons_append, List.nil_append, true_and, and_true, true_or, or_true, eq_self, if_true, if_false, q_b1, q_b2, c_A, c_R, c_O, c_M, c_H1, c_H8, c_H15, h1]
    exact hQ _ _ hM (fun s hs => hz s (by omega))
  | succ k ih =>
    intro j hj M hM hz
    have h1 : ¬ nI (2 ^ n - 1) < nI j := nI_nlt (by omega) (by omega)
    rw [gO_walk_8]
    simp only [gO_walk_0, gO_walk_1, gO_walk_4, gO_walk_5, gO_walk_6, gO_walk_10, gO_walk_11, gO_walk_14, gO_walk_15, gO_walk_18, gO_walk_20, gO_walk_21, gO_walk_24, gO_walk_27, gO_walk_31, gO_walk_34, gO_walk_35, gO_walk_38, gO_walk_39, gO_walk_42, gO_walk_43, gO_walk_46, gO_walk_47, gO_walk_50, gO_walk_52, gO_walk_55, gO_walk_56, gO_walk_59, gO_walk_61, gO_walk_63, gO_walk_64, gO_walk_67, gO_walk_68, gO_walk_71, gO_walk_73, gO_walk_76, gO_walk_77, gO_walk_80, gO_walk_81, gO_walk_84, gO_walk_85, gO_walk_87, gO_walk_90, gO_walk_92, gO_walk_93, gO_walk_95, gO_walk_97, gO_walk_98, gO_walk_101, gO_walk_104, gO_walk_106, gO_walk_108, gO_walk_109, gO_walk_110, gO_walk_111, gO_walk_114, gO_walk_115, gO_walk_116, gO_walk_118, gO_walk_120, gO_walk_121, gO_walk_124, gO_walk_127, gO_walk_130, gO_walk_133, gO_walk_136, ↓reduceIte, Bool.false_eq_true, Bool.true_eq_false, qk_i, qk_r, qk_n, Option.toList_some, Option.toList_none, List.cons_append, List.nil_append, true_and, and_true, true_or, or_true, eq_self, if_true, if_false, q_b1, q_b2, c_A, c_R, c_O, c_M, c_H1, c_H8, c_H15, h1, rf_O0, x_W_put al_25, nI_1, s_put_nI (k := 25) (m := 1024) (j := j) (by omega) (by omega)]
    refine ih (j + 1) (by omega) _ (hM.qput (by decide)) fun s hs => ?_
    rw [q_put_at]
    split
    · rfl
    · exact hz s (by omega)
theorem c_walk (g : gH H n h) (r : RC 1 M H) (hQ : ∀ M', eqx So M M' → wA H n h im M' → wB H n h im (2 ^ n) 0 M' → Q none M') : q_Run 27 [.ref 24, .ref 1, .int (q_z im)] M Q := by
  have h10 := g.1
  have h2 := two_pow_le h10
  have hp := Nat.two_pow_pos n
  have hh := g.2.2.2.1
  rw [e_O_walk]
  simp only [gO_walk_0, gO_walk_1, gO_walk_4, gO_walk_5, gO_walk_6, gO_walk_10, gO_walk_11, gO_walk_14, gO_walk_15, gO_walk_18, gO_walk_20, gO_walk_21, gO_walk_24, gO_walk_27, gO_walk_30, gO_walk_31, gO_walk_34, gO_walk_35, gO_walk_38, gO_walk_39, gO_walk_42, gO_walk_43, gO_walk_46, gO_walk_47, gO_walk_50, gO_walk_52, gO_walk_55, gO_walk_56, gO_walk_59, gO_walk_61, gO_walk_63, gO_walk_64, gO_walk_67, gO_walk_68, gO_walk_71, gO_walk_73, gO_walk_76, gO_walk_77, gO_walk_80, gO_walk_81, gO_walk_84, gO_walk_85, gO_walk_87, gO_walk_90, gO_walk_92, gO_walk_93, gO_walk_95, gO_walk_97, gO_walk_98, gO_walk_101, gO_walk_104, gO_walk_106, gO_walk_108, gO_walk_109, gO_walk_110, gO_walk_111, gO_walk_114, gO_walk_115, gO_walk_116, gO_walk_118, gO_walk_120, gO_walk_121, gO_walk_124, gO_walk_127, gO_walk_130, gO_walk_133, gO_walk_136, ↓reduceIte, Bool.false_eq_true, Bool.true_eq_false, qk_i, qk_r, qk_n, Option.toList_some, Option.toList_none, List.cons_append, List.nil_append, true_and, and_true, true_or, or_true, eq_self, if_true, if_false, q_b1, q_b2, c_A, c_R, c_O, c_M, c_H1, c_H8, c_H15, y_H_everything g r]
  refine c_wk1 (M0 := M) g (fun M1 o1 hM1 hz => ?_) (2 ^ n) 0 (by omega) M eqx.rf (fun s hs => absurd hs (by omega))
  have e7 := e7_of g (r.so hM1)
  have e1 : ∀ j v, q_put M1 25 j v 1 = M1 1 := fun j v => q_put_ne (by decide)
  have e2 : ∀ j v j' v', q_put (q_put M1 25 j v) 26 j' v' 1 = M1 1 := fun j v j' v' => (q_put_ne (by decide)).trans (q_put_ne (by decide))
  have sp1 : ∀ v, s_put M1 25 1024 (nI h) v = q_put M1 25 h v := fun v => s_put_nI g.hlt (by omega)
  have sp2 : ∀ (N : q_M) v, s_put N 26 1024 (nI h) v = q_put N 26 h v := fun N v => s_put_nI g.hlt (by omega)
  simp only [gO_walk_0, gO_walk_1, gO_walk_4, gO_walk_5, gO_walk_6, gO_walk_8, gO_walk_10, gO_walk_11, gO_walk_14, gO_walk_15, gO_walk_18, gO_walk_20, gO_walk_21, gO_walk_24, gO_walk_27, gO_walk_30, gO_walk_31, gO_walk_34, gO_walk_35, gO_walk_38, gO_walk_39, gO_walk_42, gO_walk_43, gO_walk_46, gO_walk_47, gO_walk_50, gO_walk_52, gO_walk_55, gO_walk_56, gO_walk_59, gO_walk_63, gO_walk_64, gO_walk_67, gO_walk_68, gO_walk_71, gO_walk_73, gO_walk_76, gO_walk_77, gO_walk_80, gO_walk_81, gO_walk_84, gO_walk_85, gO_walk_87, gO_walk_90, gO_walk_92, gO_walk_93, gO_walk_95, gO_walk_97, gO_walk_98, gO_walk_101, gO_walk_104, gO_walk_106, gO_walk_108, gO_walk_109, gO_walk_110, gO_walk_111, gO_walk_114, gO_walk_115, gO_walk_116, gO_walk_118, gO_walk_120, gO_walk_121, gO_walk_124, gO_walk_127, gO_walk_130, gO_walk_133, gO_walk_136, ↓reduceIte, Bool.false_eq_true, Bool.true_eq_false, qk_i, qk_r, qk_n, Option.toList_some, Option.toList_none, List.cons_append, List.nil_append, true_and, and_true, true_or, or_true, eq_self, if_true, if_false, q_b1, q_b2, c_A, c_R, c_O, c_M, c_H1, c_H8, c_H15, rf_O0, rf_O1, x_W_put al_25, x_W_put al_26, e7, sp1, sp2, e1, e2]
  have v25 : ∀ s, q_put (q_put M1 25 h 0) 26 h (-9) 25 s = if s = h then 0 else M1 25 s := fun s => by rw [q_put_ne (by decide), q_put_at]
  have v26 : ∀ s, q_put (q_put M1 25 h 0) 26 h (-9) 26 s = if s = h then -9 else M1 26 s := fun s => by rw [q_put_at, q_put_ne (by decide)]
  refine c_wk2 (M0 := M) g r hQ (2 ^ n - h) h (by omega) _ _ _ ((hM1.qput (by decide)).qput (by decide)) (fun s hs => ?_) (fun k s c l hq => ?_)
  · rw [v25, v26]
    by_cases e : s = h
    · rw [if_pos e, if_pos e]
      exact Or.inr ⟨0, 0, 10, ⟨e, rfl, rfl⟩, nI_0.symm, rfl⟩
    · rw [if_neg e]
      exact Or.inl (hz s hs)
  · have hk : k = 0 := by
      cases k with
      | zero => rfl
      | succ k =>
        obtain ⟨p, c', l', t, a, b, d, e, f, o⟩ := hq
        have := (pth_lt g k p c' l' a).2.1
        omega
    subst hk
    obtain ⟨rfl, rfl, rfl⟩ := hq
    rw [v25, v26, if_pos rfl, if_pos rfl]
    exact ⟨0, 10, nI_0.symm, rfl, by omega, by omega, Or.inr ⟨rfl, Nat.le_refl _⟩⟩
/-- what seek holds behind the sets below i -/
def skI (H : q_M) (n h W : Nat) (im : Bool) (i : Nat) (M : q_M) : Prop :=
  (M 24 3 = 0 ∧ ∀ k s c l, pth H n h im k s c l → dif W s = 0 → ¬ s < i) ∨
  (M 24 3 = 1 ∧ ∃ F l, M 24 4 = nI F ∧ M 24 5 = ldI l ∧ F < 16000000 ∧ l ≤ 10 ∧ (∃ k s, pth H n h im k s F l ∧ dif W s = 0) ∧ ∀ k s c l', pth H n h im k s c l' → dif W s = 0 → s < i → F < c ∨ F = c ∧ lk l ≤ lk l')
theorem c_sk (g : gH H n h) (hW : W < 1024) (r0 : RC 1 M0 H) (hQ : ∀ M, eqx So M0 M → skI H n h W im (2 ^ n) M → Q none M) : ∀ k i, i + k = 2 ^ n → ∀ M (o5 o6 : Option Value), eqx So M0 M → wA H n h im M → wB H n h im (2 ^ n) 0 M → skI H n h W im i M →
    q_g 25 none Q 28 [some (.ref 24), some (.ref 1), some (.int (nI W)), some (.int (q_z im)), some (.int (nI i)), o5, o6] [] M := by
  have h10 := g.1
  have h2 := two_pow_le h10
  have hp := Nat.two_pow_pos n
  have n1z2 : ((0 : Int32) = 0) = True := by decide
  intro k
  induction k with
  | zero =>
    intro i hi M o5 o6 hM A B I
    have : i = 2 ^ n := by omega
    subst this
    have h1 : nI (2 ^ n - 1) < nI (2 ^ n) := nI_lt (by omega) (by omega)
    rw [gO_seek_28]
    simp only [gO_seek_0, gO_seek_1, gO_seek_2, gO_seek_3, gO_seek_6, gO_seek_7, gO_seek_8, gO_seek_11, gO_seek_12, gO_seek_13, gO_seek_16, gO_seek_17, gO_seek_19, gO_seek_22, gO_seek_23, gO_seek_26, gO_seek_30, gO_seek_31, gO_seek_34, gO_seek_37, gO_seek_38, gO_seek_41, gO_seek_43, gO_seek_46, gO_seek_48, gO_seek_50, gO_seek_51, gO_seek_54, gO_seek_55, gO_seek_57, gO_seek_58, gO_seek_59, gO_seek_60, gO_seek_63, gO_seek_66, gO_seek_67, gO_seek_70, gO_seek_72, gO_seek_75, gO_seek_77, gO_seek_78, gO_seek_81, gO_seek_84, gO_seek_86, gO_seek_87, gO_seek_90, gO_seek_93, gO_seek_95, gO_seek_96, gO_seek_99, gO_seek_102, gO_seek_104, gO_seek_105, gO_seek_108, gO_seek_111, gO_seek_112, gO_seek_113, gO_seek_116, gO_seek_117, gO_seek_119, gO_seek_122, gO_seek_123, gO_seek_125, gO_seek_128, gO_seek_131, gO_seek_134, ↓reduceIte, Bool.false_eq_true, Bool.true_eq_false, qk_i, qk_r, qk_n, Option.toList_some, Option.toList_none, List.cons_append, List.nil_append, true_and, and_true, true_or, or_true, eq_self, if_true, if_false, q_b1, q_b2, c_A, c_R, c_O, c_M, c_H1, c_H8, c_H15, y_H_everything g (r0.so hM), h1]
    exact hQ _ hM I
  | succ k ih =>
    intro i hi M o5 o6 hM A B I
    have hi' : i < 1024 := by omega
    have h1 : ¬ nI (2 ^ n - 1) < nI i := nI_nlt (by omega) (by omega)
    have g25 : s_get M 25 1024 (nI i) = M 25 i := s_get_nI (by omega) (by omega)
    have g26 : s_get M 26 1024 (nI i) = M 26 i := s_get_nI (by omega) (by omega)
    have d1 := dif_nI (x := W) hW
    have dz : (nI (dif W i) = 0) = (dif W i = 0) := propext (nI_eq (b := 0) (by have := @dif_le W i; omega) (by omega))
    have next : ∀ (M' : q_M) (o5 : Int32) (o6 : Option Value), eqx So M0 M' → wA H n h im M' → wB H n h im (2 ^ n) 0 M' → skI H n h W im (i + 1) M' → q_g 25 none Q 128 [some (.ref 24), some (.ref 1), some (.int (nI W)), some (.int (q_z im)), some (.int (nI i)), some (.int o5), o6] [] M' := by
      intro M' o5 o6 a b c d
      simp only [gO_seek_0, gO_seek_1, gO_seek_2, gO_seek_3, gO_seek_6, gO_seek_7, gO_seek_8, gO_seek_11, gO_seek_12, gO_seek_13, gO_seek_16, gO_seek_17, gO_seek_19, gO_seek_22, gO_seek_23, gO_seek_26, gO_seek_30, gO_seek_31, gO_seek_34, gO_seek_37, gO_seek_38, gO_seek_41, gO_seek_43, gO_seek_46, gO_seek_48, gO_seek_50, gO_seek_51, gO_seek_54, gO_seek_55, gO_seek_57, gO_seek_58, gO_seek_59, gO_seek_60, gO_seek_63, gO_seek_66, gO_seek_67, gO_seek_70, gO_seek_72, gO_seek_75, gO_seek_77, gO_seek_78, gO_seek_81, gO_seek_84, gO_seek_86, gO_seek_87, gO_seek_90, gO_seek_93, gO_seek_95, gO_seek_96, gO_seek_99, gO_seek_102, gO_seek_104, gO_seek_105, gO_seek_108, gO_seek_111, gO_seek_112, gO_seek_113, gO_seek_116, gO_seek_117, gO_seek_119, gO_seek_122, gO_seek_123, gO_seek_125, gO_seek_128, gO_seek_131, gO_seek_134, ↓reduceIte, Bool.false_eq_true, Bool.true_eq_false, qk_i, qk_r, qk_n, Option.toList_some, Option.toList_none, List.cons_append, List.nil_append, true_and, and_true, true_or, or_true, eq_self, if_true, if_false, q_b1, q_b2, c_A, c_R, c_O, c_M, c_H1, c_H8, c_H15, nI_1]
      exact ih (i + 1) (by omega) M' _ _ a b c d
    have best : ∀ k c l, pth H n h im k i c l → ∃ c' l', M 25 i = nI c' ∧ M 26 i = ldI l' ∧ c' < 16000000 ∧ l' ≤ 10 ∧ (c' < c ∨ c' = c ∧ lk l' ≤ lk l) := fun k c l hq => B k i c l (pth_all g k i c l hq)
    -- nothing new
    have same : (∀ k c l, pth H n h im k i c l → dif W i = 0 → False) → skI H n h W im (i + 1) M := by
      intro hno
      rcases I with ⟨f0, f1⟩ | ⟨f0, F, l, f1, f2, f3, f4, f5, f6⟩
      · refine Or.inl ⟨f0, fun k s c l hq he hs => ?_⟩
        by_cases e : s = i
        · subst e
          exact hno k c l hq he
        · exact f1 k s c l hq he (by omega)
      · refine Or.inr ⟨f0, F, l, f1, f2, f3, f4, f5, fun k s c l' hq he hs => ?_⟩
        by_cases e : s = i
        · subst e
          exact absurd he (fun he => hno k c l' hq he)
        · exact f6 k s c l' hq he (by omega)
    rw [gO_seek_28]
    simp only [gO_seek_0, gO_seek_1, gO_seek_2, gO_seek_3, gO_seek_6, gO_seek_7, gO_seek_8, gO_seek_11, gO_seek_12, gO_seek_13, gO_seek_16, gO_seek_17, gO_seek_19, gO_seek_22, gO_seek_23, gO_seek_26, gO_seek_30, gO_seek_31, gO_seek_34, gO_seek_37, gO_seek_38, gO_seek_41, gO_seek_43, gO_seek_46, gO_seek_48, gO_seek_50, gO_seek_51, gO_seek_54, gO_seek_55, gO_seek_57, gO_seek_58, gO_seek_59, gO_seek_60, gO_seek_63, gO_seek_66, gO_seek_67, gO_seek_70, gO_seek_72, gO_seek_75, gO_seek_77, gO_seek_78, gO_seek_81, gO_seek_84, gO_seek_86, gO_seek_87, gO_seek_90, gO_seek_93, gO_seek_95, gO_seek_96, gO_seek_99, gO_seek_102, gO_seek_104, gO_seek_105, gO_seek_108, gO_seek_111, gO_seek_112, gO_seek_113, gO_seek_116, gO_seek_117, gO_seek_119, gO_seek_122, gO_seek_123, gO_seek_125, gO_seek_131, gO_seek_134, ↓reduceIte, Bool.false_eq_true, Bool.true_eq_false, qk_i, qk_r, qk_n, Option.toList_some, Option.toList_none, List.cons_append, List.nil_append, true_and, and_true, true_or, or_true, eq_self, if_true, if_false, q_b1, q_b2, c_A, c_R, c_O, c_M, c_H1, c_H8, c_H15, y_H_everything g (r0.so hM), h1, rf_O0, rf_O1, x_W_get al_25, x_W_get al_26, g25, g26, d1, dz]
    rcases A i (by omega) with z | ⟨ki, L, li, pp, m1, m2⟩
    · simp only [z, n1z', ↓reduceIte, if_true, if_false, eq_self, not_true, not_false_eq_true, not_true_eq_false, Bool.true_eq_false, Bool.false_eq_true, Bool.not_false, Bool.not_true, Bool.and_true, Bool.and_false, Bool.true_and, Bool.false_and]
      refine next M _ _ hM A B (same fun k c l hq _ => ?_)
      obtain ⟨c3, l3, q1, -, q3, -, -⟩ := best k c l hq
      rw [z] at q1
      exact nI_m1 q3 q1.symm
    · have hLc := pth_c g pp
      have hne : ¬ nI L = -1 := nI_m1 hLc.1
      -- (L, li) is the least at i
      have least : ∀ k c l, pth H n h im k i c l → L < c ∨ L = c ∧ lk li ≤ lk l := by
        intro k c l hq
        obtain ⟨c3, l3, q1, q2, q3, q4, q5⟩ := best k c l hq
        rw [m1] at q1
        rw [m2] at q2
        have a0 := (nI_16 (a := L) (b := c3) (by omega) (by omega)).1
        have hc3 : L = c3 := a0 ▸ q1
        have a1 := ldI_lt q4 hLc.2.1
        have a2 := ldI_lt hLc.2.1 q4
        rw [← q2] at a1 a2
        have b1 : ¬ lk l3 < lk li := fun q => Int32.lt_irrefl (Eq.mpr a1 q)
        have b2 : ¬ lk li < lk l3 := fun q => Int32.lt_irrefl (Eq.mpr a2 q)
        omega
      simp only [m1, m2, hne, n1z', ↓reduceIte, if_true, if_false, eq_self, not_true, not_false_eq_true, not_true_eq_false, Bool.true_eq_false, Bool.false_eq_true, Bool.not_false, Bool.not_true, Bool.and_true, Bool.and_false, Bool.true_and, Bool.false_and]
      by_cases he : dif W i = 0
      · have take : (M 24 3 = 0 ∨ ∃ F l, M 24 4 = nI F ∧ M 24 5 = ldI l ∧ (L < F ∨ L = F ∧ lk li ≤ lk l) ∧ ∀ k s c l', pth H n h im k s c l' → dif W s = 0 → s < i → F < c ∨ F = c ∧ lk l ≤ lk l') → skI H n h W im (i + 1) (q_put (q_put (q_put M 24 3 1) 24 4 (nI L)) 24 5 (ldI li)) := by
          intro hc
          refine Or.inr ⟨by rw [q_put_at, if_neg (by decide), q_put_at, if_neg (by decide), q_put_at, if_pos rfl], L, li, by rw [q_put_at, if_neg (by decide), q_put_at, if_pos rfl], by rw [q_put_at, if_pos rfl], hLc.1, hLc.2.1, ⟨ki, i, pp, he⟩, fun k s c l' hq hes hs => ?_⟩
          by_cases e : s = i
          · subst e
            exact least k c l' hq
          · rcases hc with z | ⟨F, l, -, -, z, z2⟩
            · rcases I with ⟨-, f1⟩ | ⟨f0, -⟩
              · exact absurd (by omega) (f1 k s c l' hq hes)
              · rw [z] at f0
                exact absurd f0 (by decide)
            · have := z2 k s c l' hq hes (by omega)
              omega
        have fr : ∀ a b c, eqx So M0 (q_put (q_put (q_put M 24 3 a) 24 4 b) 24 5 c) := fun a b c => ((hM.qput (by decide)).qput (by decide)).qput (by decide)
        have fA : ∀ a b c, wA H n h im (q_put (q_put (q_put M 24 3 a) 24 4 b) 24 5 c) := fun a b c s hs => by
          rw [q_put_ne (by decide), q_put_ne (by decide), q_put_ne (by decide), q_put_ne (by decide), q_put_ne (by decide), q_put_ne (by decide)]
          exact A s hs
        have fB : ∀ a b c, wB H n h im (2 ^ n) 0 (q_put (q_put (q_put M 24 3 a) 24 4 b) 24 5 c) := fun a b c k s c' l hq => by
          rw [q_put_ne (by decide), q_put_ne (by decide), q_put_ne (by decide), q_put_ne (by decide), q_put_ne (by decide), q_put_ne (by decide)]
          exact B k s c' l hq
        have fin : ∀ (o5 : Int32) (o6 : Option Value), skI H n h W im (i + 1) (q_put (q_put (q_put M 24 3 1) 24 4 (nI L)) 24 5 (ldI li)) → q_g 25 none Q 128 [some (.ref 24), some (.ref 1), some (.int (nI W)), some (.int (q_z im)), some (.int (nI i)), some (.int o5), o6] [] (q_put (q_put (q_put M 24 3 1) 24 4 (nI L)) 24 5 (ldI li)) := fun o5 o6 q => next _ o5 o6 (fr _ _ _) (fA _ _ _) (fB _ _ _) q
        simp only [he, n1z', ↓reduceIte, if_true, if_false, eq_self, not_true, not_false_eq_true, not_true_eq_false, Bool.true_eq_false, Bool.false_eq_true, Bool.not_false, Bool.not_true, Bool.and_true, Bool.and_false, Bool.true_and, Bool.false_and]
        have I2 := I
        rcases I with ⟨f0, f1⟩ | ⟨f0, F, l, f1, f2, f3, f4, f5, f6⟩
        · simp only [f0, n1z', ↓reduceIte, if_true, if_false, eq_self, not_true, not_false_eq_true, not_true_eq_false, Bool.true_eq_false, Bool.false_eq_true, Bool.not_false, Bool.not_true, Bool.and_true, Bool.and_false, Bool.true_and, Bool.false_and]
          exact fin _ _ (take (Or.inl f0))
        · have t1 := nI_16 (a := L) (b := F) (by omega) (by omega)
          have tl : (ldI l ≤ ldI li) = (lk l ≤ lk li) := ldI_le hLc.2.1 f4
          have keep : ¬ (L < F ∨ L = F ∧ lk li < lk l) → skI H n h W im (i + 1) M := by
            intro hk
            refine Or.inr ⟨f0, F, l, f1, f2, f3, f4, f5, fun k s c l' hq hes hs => ?_⟩
            by_cases e : s = i
            · subst e
              have := least k c l' hq
              omega
            · exact f6 k s c l' hq hes (by omega)
          simp only [f0, f1, f2, t1.2.1, t1.1, tl, n1z', ↓reduceIte, if_true, if_false, eq_self, not_true, not_false_eq_true, not_true_eq_false, Bool.true_eq_false, Bool.false_eq_true, Bool.not_false, Bool.not_true, Bool.and_true, Bool.and_false, Bool.true_and, Bool.false_and]
          by_cases k1 : L < F
          · rw [if_pos k1]
            exact fin _ _ (take (Or.inr ⟨F, l, f1, f2, Or.inl k1, f6⟩))
          · rw [if_neg k1]
            by_cases k2 : L = F
            · rw [if_neg (fun q : ¬ L = F => q k2)]
              by_cases k3 : lk l ≤ lk li
              · rw [if_pos k3]
                exact next M _ _ hM A B (keep (by omega))
              · rw [if_neg k3]
                exact fin _ _ (take (Or.inr ⟨F, l, f1, f2, Or.inr ⟨k2, by omega⟩, f6⟩))
            · rw [if_pos k2]
              exact next M _ _ hM A B (keep (by omega))
      · simp only [he, n1z', ↓reduceIte, if_true, if_false, eq_self, not_true, not_false_eq_true, not_true_eq_false, Bool.true_eq_false, Bool.false_eq_true, Bool.not_false, Bool.not_true, Bool.and_true, Bool.and_false, Bool.true_and, Bool.false_and]
        exact next M _ _ hM A B (same fun k c l _ q => he q)
theorem c_seek (g : gH H n h) (r : RC 1 M H) (hW : W < 1024) (hQ : ∀ M', eqx So M M' → (M' 24 3 = 0 ∧ rs H n W im h = oI ∨ M' 24 3 = 1 ∧ rs H n W im h < oI ∧ M' 24 4 = nI (rs H n W im h) ∧ M' 24 5 = ldI (so_f H n h W im)) → Q none M') : q_Run 25 [.ref 24, .ref 1, .int (nI W), .int (q_z im)] M Q := by
  have hh := g.2.2.2.1
  have zz : (q_z im = 0 ∨ q_z im = 1) = True := q_z01
  rw [e_O_seek]
  simp only [gO_seek_0, gO_seek_1, gO_seek_2, gO_seek_3, gO_seek_6, gO_seek_7, gO_seek_8, gO_seek_11, gO_seek_12, gO_seek_13, gO_seek_16, gO_seek_17, gO_seek_19, gO_seek_22, gO_seek_23, gO_seek_26, gO_seek_30, gO_seek_31, gO_seek_34, gO_seek_37, gO_seek_38, gO_seek_41, gO_seek_43, gO_seek_46, gO_seek_48, gO_seek_50, gO_seek_51, gO_seek_54, gO_seek_55, gO_seek_57, gO_seek_58, gO_seek_59, gO_seek_60, gO_seek_63, gO_seek_66, gO_seek_67, gO_seek_70, gO_seek_72, gO_seek_75, gO_seek_77, gO_seek_78, gO_seek_81, gO_seek_84, gO_seek_86, gO_seek_87, gO_seek_90, gO_seek_93, gO_seek_95, gO_seek_96, gO_seek_99, gO_seek_102, gO_seek_104, gO_seek_105, gO_seek_108, gO_seek_111, gO_seek_112, gO_seek_113, gO_seek_116, gO_seek_117, gO_seek_119, gO_seek_122, gO_seek_123, gO_seek_125, gO_seek_128, gO_seek_131, gO_seek_134, ↓reduceIte, Bool.false_eq_true, Bool.true_eq_false, qk_i, qk_r, qk_n, Option.toList_some, Option.toList_none, List.cons_append, List.nil_append, true_and, and_true, true_or, or_true, eq_self, if_true, if_false, q_b1, q_b2, c_A, c_R, c_O, c_M, c_H1, c_H8, c_H15]
  refine c_walk g r fun M1 hM1 A B => ?_
  have e7 := e7_of g (r.so hM1)
  have e1 : ∀ (N : q_M) j v, q_put N 24 j v 1 = N 1 := fun N j v => q_put_ne (by decide)
  have z01 : ((0 : Int32) = 1) = False := by decide
  simp only [gO_seek_0, gO_seek_1, gO_seek_2, gO_seek_3, gO_seek_6, gO_seek_7, gO_seek_8, gO_seek_11, gO_seek_12, gO_seek_13, gO_seek_16, gO_seek_17, gO_seek_19, gO_seek_22, gO_seek_23, gO_seek_26, gO_seek_30, gO_seek_31, gO_seek_34, gO_seek_37, gO_seek_38, gO_seek_41, gO_seek_43, gO_seek_46, gO_seek_48, gO_seek_50, gO_seek_51, gO_seek_54, gO_seek_55, gO_seek_57, gO_seek_58, gO_seek_59, gO_seek_60, gO_seek_63, gO_seek_66, gO_seek_67, gO_seek_70, gO_seek_72, gO_seek_75, gO_seek_77, gO_seek_78, gO_seek_81, gO_seek_84, gO_seek_86, gO_seek_87, gO_seek_90, gO_seek_93, gO_seek_95, gO_seek_96, gO_seek_99, gO_seek_102, gO_seek_104, gO_seek_105, gO_seek_108, gO_seek_111, gO_seek_112, gO_seek_113, gO_seek_116, gO_seek_117, gO_seek_119, gO_seek_122, gO_seek_123, gO_seek_125, gO_seek_128, gO_seek_131, gO_seek_134, ↓reduceIte, Bool.false_eq_true, Bool.true_eq_false, qk_i, qk_r, qk_n, Option.toList_some, Option.toList_none, List.cons_append, List.nil_append, true_and, and_true, true_or, or_true, eq_self, if_true, if_false, q_b1, q_b2, c_A, c_R, c_O, c_M, c_H1, c_H8, c_H15, e1, e7]
  have hv : ∀ (N : q_M) f v c s, c ≠ 24 → q_put N 24 f v c s = N c s := fun N f v c s hc => by rw [q_put_ne hc]
  refine c_sk (M0 := M) (W := W) (im := im) g hW r (fun M2 hM2 I => hQ M2 hM2 ?_) (2 ^ n - h) h (by omega) _ _ _ (((hM1.qput (by decide)).qput (by decide)).qput (by decide)) (fun s hs => ?_) (fun k s c l hq => ?_) (Or.inl ⟨?_, fun k s c l hq _ hs => ?_⟩)
  · rcases I with ⟨f0, f1⟩ | ⟨f0, F, l, f1, f2, f3, f4, f5, f6⟩
    · refine Or.inl ⟨f0, no_path g fun k s c l hq he => f1 k s c l hq he (pth_lt g k s c l hq).1⟩
    · have hb : bst H n h W im F l := ⟨f5, fun k s c l' hq he => f6 k s c l' hq he (pth_lt g k s c l' hq).1⟩
      obtain ⟨b1, b2⟩ := bst_is g hb
      obtain ⟨k, s, hq, he⟩ := f5
      exact Or.inr ⟨f0, path_fin g hq he, by rw [f1, b1], by rw [f2, b2]⟩
  · rw [hv _ _ _ _ _ (by decide), hv _ _ _ _ _ (by decide), hv _ _ _ _ _ (by decide), hv _ _ _ _ _ (by decide), hv _ _ _ _ _ (by decide), hv _ _ _ _ _ (by decide)]
    exact A s hs
  · rw [hv _ _ _ _ _ (by decide), hv _ _ _ _ _ (by decide), hv _ _ _ _ _ (by decide), hv _ _ _ _ _ (by decide), hv _ _ _ _ _ (by decide), hv _ _ _ _ _ (by decide)]
    exact B k s c l hq
  · rw [q_put_at, if_neg (by decide), q_put_at, if_neg (by decide), q_put_at, if_pos rfl]
  · have := (pth_lt g k s c l hq).2.1
    omega
end WALK
