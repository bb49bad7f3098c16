/-! HALFWAY -/
def hwN (H : q_M) (n h W kk : Nat) : Nat → Nat
  | 0 => W
  | j + 1 => if ¬ uN H n h W j = 0 ∧ pc j = pc h + kk then hwN H n h W kk j &&& j else hwN H n h W kk j
section HALF
variable {Q : q_R} {M M0 H : q_M} {n h W S kk : Nat} {a b : Int32}
theorem hwN_s (H : q_M) (n h W kk j : Nat) : hwN H n h W kk (j + 1) = if ¬ uN H n h W j = 0 ∧ pc j = pc h + kk then hwN H n h W kk j &&& j else hwN H n h W kk j := rfl
/-- from each set on the way one goes on -/
theorem ex_step (g : gH H n h) (hW : W < 1024) (hS : S < 1024) (hu : ¬ uN H n h W W = 0) (hw : wi h W S = true) (hne : ¬ S = W) : ∃ t, t < n ∧ ef H W S t = true := by
  apply Classical.byContradiction
  intro hno
  have hsub := (wi_iff g.hlt hS).mp hw
  have key : ∀ C, C < 1024 → ¬ uN H n h W C = 0 → ∀ i, C.testBit i = true → S.testBit i = true := by
    intro C
    induction C using Nat.strongRecOn with
    | ind C ih =>
      intro hC hc i hi
      by_cases e : C = h
      · rw [e] at hi
        exact hsub.1 i hi
      · cases hwC : wi h W C
        · exact absurd (uN_out hC e (by rw [hwC]; decide)) hc
        · rw [uN_in hC e hwC] at hc
          obtain ⟨t, ht, hterm⟩ := sumT_ex n hc
          by_cases hed : ed H h W C t = true
          · rw [if_pos hed] at hterm
            have x1 := (Bool.and_eq_true _ _).mp hed
            have x2 := (Bool.and_eq_true _ _).mp x1.2
            have ih1 := ih _ (dif_lt hC x1.1) (dif_1024 hC) hterm
            have hWt := ((wi_iff g.hlt hC).mp hwC).2 t x1.1
            have hSt : S.testBit t = true := by
              cases q : S.testBit t
              · exfalso
                have hcan := can_mono g ht (dif_1024 hC) hS ih1 q x2.2
                refine hno ⟨t, ht, ?_⟩
                unfold ef
                rw [dif_tb hW, hWt, q, hcan]
                rfl
              · rfl
            by_cases ei : i = t
            · rw [ei]
              exact hSt
            · refine ih1 i ?_
              rw [dif_tb hC, hi, Nat.testBit_two_pow]
              have : ¬ t = i := fun q => ei q.symm
              simp [this]
          · rw [if_neg hed] at hterm
            exact absurd rfl hterm
  refine hne (Nat.eq_of_testBit_eq fun i => ?_)
  cases q : W.testBit i
  · cases z : S.testBit i
    · rfl
    · rw [hsub.2 i z] at q
      cases q
  · exact key W hW hu i q
theorem dN_pos (g : gH H n h) (hW : W < 1024) (hu : ¬ uN H n h W W = 0) : ∀ d S, S < 1024 → 1024 - S = d → wi h W S = true → ¬ dN H n h W S = 0 := by
  intro d
  induction d using Nat.strongRecOn with
  | ind d ih =>
    intro S hS hd hw
    by_cases e : S = W
    · rw [e, dN_W hW]
      decide
    · obtain ⟨t, ht, het⟩ := ex_step g hW hS hu hw e
      obtain ⟨c1, c2, c3⟩ := ef_bit hW het
      have hg2 := or_bit_gt c3
      have hl := or1_lt hS c1
      obtain ⟨w1, w2⟩ := (wi_iff g.hlt hS).mp hw
      have hw2 : wi h W (S ||| 2 ^ t) = true := (wi_iff g.hlt hl).mpr ⟨fun i hi => by rw [Nat.testBit_or, w1 i hi, Bool.true_or], fun i hi => by
        rw [Nat.testBit_or, Nat.testBit_two_pow] at hi
        rcases (Bool.or_eq_true _ _).mp hi with z | z
        · exact w2 i z
        · have : t = i := of_decide_eq_true z
          rw [← this]
          exact c2⟩
      have hne := ih (1024 - (S ||| 2 ^ t)) (by omega) _ hl rfl hw2
      have hge := sumT_ge (f := fun t => if ef H W S t = true then dN H n h W (S ||| 2 ^ t) else 0) (t := t) n ht
      rw [dN_in hW hS e hw]
      simp only [het, if_true] at hge
      omega
theorem dif_dif (hW : W < 1024) {t : Nat} : dif W (S ||| 2 ^ t) = dif (dif W S) (2 ^ t) := by
  apply Nat.eq_of_testBit_eq
  intro i
  rw [dif_tb hW, dif_tb (dif_1024 hW), dif_tb hW, Nat.testBit_or]
  cases W.testBit i <;> cases S.testBit i <;> cases (2 ^ t).testBit i <;> rfl
theorem dN_le (hn : n ≤ 10) (hW : W < 1024) : ∀ d S, S < 1024 → 1024 - S = d → dN H n h W S ≤ fac (pcN (dif W S) 10) := by
  intro d
  induction d using Nat.strongRecOn with
  | ind d ih =>
    intro S hS hd
    have h1 : ∀ k, k ≤ 10 → 1 ≤ fac k := fun k hk => fac_mono k hk 0 (by omega)
    have hp := pcN_le (dif W S) 10
    rw [dN_eq hW hS]
    split
    · exact h1 _ hp
    split
    · have a : sumT (fun t => if ef H W S t = true then dN H n h W (S ||| 2 ^ t) else 0) n ≤ sumT (fun t => if (dif W S).testBit t = true then fac (pcN (dif W S) 10 - 1) else 0) n := by
        refine sumT_le n fun t _ => ?_
        by_cases c : ef H W S t = true
        · have hb : (dif W S).testBit t = true := ((Bool.and_eq_true _ _).mp c).1
          obtain ⟨c1, c2, c3⟩ := ef_bit hW c
          have hg2 := or_bit_gt c3
          have hl := or1_lt hS c1
          have hd2 := pc_dif (dif_1024 (y := S) hW) hb
          have := ih (1024 - (S ||| 2 ^ t)) (by omega) _ hl rfl
          rw [dif_dif hW] at this
          rw [if_pos c, if_pos hb, show pcN (dif W S) 10 - 1 = pcN (dif (dif W S) (2 ^ t)) 10 by omega]
          exact this
        · rw [if_neg c]
          exact Nat.zero_le _
      rw [sumT_bit] at a
      have b := pcN_up (dif W S) (10 - n) n
      rw [show n + (10 - n) = 10 by omega] at b
      cases hc : pcN (dif W S) 10 with
      | zero =>
        rw [hc] at a b
        have : pcN (dif W S) n = 0 := by omega
        rw [this, Nat.zero_mul] at a
        exact Nat.le_trans a (Nat.zero_le _)
      | succ c =>
        rw [hc] at a b
        refine Nat.le_trans a ?_
        show pcN (dif W S) n * fac (c + 1 - 1) ≤ (c + 1) * fac c
        rw [Nat.add_sub_cancel]
        exact Nat.mul_le_mul_right _ b
    · exact Nat.zero_le _
theorem dN_big (hn : n ≤ 10) (hW : W < 1024) (hS : S < 1024) : dN H n h W S < 2 ^ 31 := by
  have a := dN_le (H := H) (h := h) hn hW _ S hS rfl
  have b := fac_mono 10 (by omega) (pcN (dif W S) 10) (pcN_le _ 10)
  have c : fac 10 < 2 ^ 31 := by decide
  omega
theorem hw_lo (g : gH H n h) : ∀ j, j ≤ h → hwN H n h W kk j = W
  | 0, _ => rfl
  | j + 1, hj => by
    have hh := g.hlt
    have hz : uN H n h W j = 0 := uN_out (by omega) (by omega) (fun q => by
      have := sub_le ((wi_iff hh (show j < 1024 by omega)).mp q).1
      omega)
    rw [hwN_s, if_neg (fun q => q.1 hz), hw_lo g j (by omega)]
theorem hw_hi (g : gH H n h) (hhW : h ≤ W) : ∀ d j, W + 1 ≤ j → j + d ≤ 1024 → hwN H n h W kk (j + d) = hwN H n h W kk j
  | 0, _, _, _ => rfl
  | d + 1, j, hj, hd => by
    have hz : uN H n h W (j + d) = 0 := uN_out (by omega) (by omega) (fun q => by
      have := sub_le ((wi_iff g.hlt (show j + d < 1024 by omega)).mp q).2
      omega)
    show hwN H n h W kk (j + d + 1) = _
    rw [hwN_s, if_neg (fun q => q.1 hz), hw_hi g hhW d j hj (by omega)]
theorem pcs_eq {j : Nat} (hk : kk ≤ 31) : (nI (pc j) = nI (pc h) + nI kk) = (pc j = pc h + kk) := by
  have l1 := @pc_31 j
  have l2 := @pc_31 h
  rw [nI_add]
  exact propext (nI_eq (by omega) (by omega))
theorem hw_lt (hW : W < 1024) : ∀ j, hwN H n h W kk j < 1024
  | 0 => hW
  | j + 1 => by
    rw [hwN_s]
    split
    · exact Nat.lt_of_le_of_lt Nat.and_le_left (hw_lt hW j)
    · exact hw_lt hW j
theorem l_A_half (g : gH H n h) (hW : W < 1024) (hk : kk ≤ 31) (hf : ∀ s, s ≤ W → M 27 s = nI (uN H n h W s)) : ∀ k j, j + k = W + 1 → 
    q_g 23 none Q 32 [some (.ref 24), some (.ref 1), some (.int (nI W)), some (.int (nI kk)), some (.int (nI (pc h) + nI kk)), some (.int (nI (hwN H n h W kk j))), some (.int (nI j))] [] M = Q (some (.int (nI (hwN H n h W kk (W + 1))))) M := by
  have h10 := g.1
  intro k
  induction k with
  | zero =>
    intro j hj
    have : j = W + 1 := by omega
    subst this
    have h1 : nI W < nI (W + 1) := nI_lt (by omega) (by omega)
    rw [gO_hadInAll_32]
    simp only [gO_hadInAll_0, gO_hadInAll_1, gO_hadInAll_2, gO_hadInAll_3, gO_hadInAll_6, gO_hadInAll_9, gO_hadInAll_11, gO_hadInAll_12, gO_hadInAll_13, gO_hadInAll_16, gO_hadInAll_19, gO_hadInAll_20, gO_hadInAll_21, gO_hadInAll_23, gO_hadInAll_24, gO_hadInAll_26, gO_hadInAll_27, gO_hadInAll_30, gO_hadInAll_34, gO_hadInAll_35, gO_hadInAll_38, gO_hadInAll_39, gO_hadInAll_42, gO_hadInAll_44, gO_hadInAll_47, gO_hadInAll_50, gO_hadInAll_52, gO_hadInAll_55, gO_hadInAll_57, gO_hadInAll_60, gO_hadInAll_62, gO_hadInAll_64, gO_hadInAll_65, gO_hadInAll_67, gO_hadInAll_70, gO_hadInAll_73, gO_hadInAll_75, ↓reduceIte, Bool.false_eq_true, Bool.true_eq_false, qk_i, qk_r, qk_n, Option.toList_some, Option.toList_none, List.cons_append, List.nil_append, true_and, and_true, true_or, or_true, eq_self, if_true, if_false, q_b1, q_b2, c_A, c_R, c_O, c_M, c_H1, c_H8, c_H15, h1]
  | succ k ih =>
    intro j hj
    have h1 : ¬ nI W < nI j := nI_nlt (by omega) (by omega)
    have ih1 := ih (j + 1) (by omega)
    have hb := uN_big (H := H) (h := h) (W := W) h10 (show j < 1024 by omega)
    have nz : (nI (uN H n h W j) = 0) = (uN H n h W j = 0) := propext (nI_eq (b := 0) hb (by omega))
    have p1 : s_bc (nI j) = nI (pc j) := bc_pc (by omega)
    rw [hwN_s] at ih1
    rw [gO_hadInAll_32]
    simp only [gO_hadInAll_0, gO_hadInAll_1, gO_hadInAll_2, gO_hadInAll_3, gO_hadInAll_6, gO_hadInAll_9, gO_hadInAll_11, gO_hadInAll_12, gO_hadInAll_13, gO_hadInAll_16, gO_hadInAll_19, gO_hadInAll_20, gO_hadInAll_21, gO_hadInAll_23, gO_hadInAll_24, gO_hadInAll_26, gO_hadInAll_27, gO_hadInAll_30, gO_hadInAll_34, gO_hadInAll_35, gO_hadInAll_38, gO_hadInAll_39, gO_hadInAll_42, gO_hadInAll_44, gO_hadInAll_47, gO_hadInAll_50, gO_hadInAll_52, gO_hadInAll_55, gO_hadInAll_57, gO_hadInAll_60, gO_hadInAll_62, gO_hadInAll_64, gO_hadInAll_65, gO_hadInAll_67, gO_hadInAll_70, gO_hadInAll_73, gO_hadInAll_75, ↓reduceIte, Bool.false_eq_true, Bool.true_eq_false, qk_i, qk_r, qk_n, Option.toList_some, Option.toList_none, List.cons_append, List.nil_append, true_and, and_true, true_or, or_true, eq_self, if_true, if_false, q_b1, q_b2, c_A, c_R, c_O, c_M, c_H1, c_H8, c_H15, h1, rf_O2, x_W_get al_27, s_get_nI (M := M) (k := 27) (n := 1024) (j := j) (by omega) (by omega), hf j (by omega), nz, x_I_bitCount, p1, pcs_eq hk, nI_1, nx_and]
    by_cases e1 : uN H n h W j = 0
    · rw [if_neg (fun q => q.1 e1)] at ih1
      simp only [e1, n1z', ↓reduceIte, if_true, if_false, eq_self, not_true, not_false_eq_true, not_true_eq_false, Bool.true_eq_false, Bool.false_eq_true, Bool.not_false, Bool.not_true, Bool.and_true, Bool.and_false, Bool.true_and, Bool.false_and]
      exact ih1
    · by_cases e2 : pc j = pc h + kk
      · rw [if_pos ⟨e1, e2⟩] at ih1
        simp only [e1, e2, n1z', ↓reduceIte, if_true, if_false, eq_self, not_true, not_false_eq_true, not_true_eq_false, Bool.true_eq_false, Bool.false_eq_true, Bool.not_false, Bool.not_true, Bool.and_true, Bool.and_false, Bool.true_and, Bool.false_and]
        exact ih1
      · rw [if_neg (fun q => e2 q.2)] at ih1
        simp only [e1, e2, n1z', ↓reduceIte, if_true, if_false, eq_self, not_true, not_false_eq_true, not_true_eq_false, Bool.true_eq_false, Bool.false_eq_true, Bool.not_false, Bool.not_true, Bool.and_true, Bool.and_false, Bool.true_and, Bool.false_and]
        exact ih1
def an_half (H : q_M) (n h : Nat) (a b : Int32) : Int32 := if b_isSet H 0 a = true then (if H 0 7 &&& (a ^^^ (-1)) = 0 then (if 0 ≤ b then (if b ≤ nI (pc (dif a.toNatClampNeg h)) then (if uN H n h a.toNatClampNeg a.toNatClampNeg = 0 then -9 else nI (hwN H n h a.toNatClampNeg b.toNatClampNeg 1024)) else -6) else -4) else -3) else -1
theorem y_A_halfway (g : gH H n h) (r : RC 1 M H) (hQ : ∀ M', eqx Sq M M' → Q (some (.int (an_half H n h a b))) M') : q_Run 62 [.ref 0, .int a, .int b] M Q := by
  have h2 := two_pow_le g.1
  have h10 := g.1
  have z3 : ¬ (-3 : Int32) = 0 := by decide
  have z1 : ¬ (-1 : Int32) = 0 := by decide
  have e7 := e7_of g r
  unfold an_half at hQ
  rw [e_A_halfway]
  simp only [gA_halfway_0, gA_halfway_1, gA_halfway_2, gA_halfway_5, gA_halfway_6, gA_halfway_7, gA_halfway_10, gA_halfway_11, gA_halfway_12, gA_halfway_15, gA_halfway_16, gA_halfway_17, gA_halfway_20, gA_halfway_21, gA_halfway_23, gA_halfway_26, gA_halfway_27, gA_halfway_28, gA_halfway_29, gA_halfway_30, gA_halfway_33, gA_halfway_36, gA_halfway_37, gA_halfway_38, gA_halfway_39, gA_halfway_42, gA_halfway_45, gA_halfway_46, gA_halfway_48, gA_halfway_51, gA_halfway_52, gA_halfway_53, gA_halfway_56, gA_halfway_57, gA_halfway_60, gA_halfway_61, gA_halfway_62, gA_halfway_65, ↓reduceIte, Bool.false_eq_true, Bool.true_eq_false, qk_i, qk_r, qk_n, Option.toList_some, Option.toList_none, List.cons_append, List.nil_append, true_and, and_true, true_or, or_true, eq_self, if_true, if_false, q_b1, q_b2, c_A, c_R, c_O, c_M, c_H1, c_H8, c_H15, rf_A0, rf_A4, x_A_refusalOfWay, x_A_refuse, x_I_bitCount, e7]
  rw [way_eq r]
  cases hs : b_isSet H 0 a
  · simp only [hs, Bool.false_eq_true, if_false] at hQ
    simp only [Bool.false_eq_true, if_false, z1]
    exact hQ _ eqx_ref
  · by_cases hw : H 0 7 &&& (a ^^^ (-1)) = 0
    · obtain ⟨W, hW, rfl⟩ := set_N g hs
      have hW' : W < 1024 := by omega
      have hsub := in_sub g.hlt (by rw [g.2.2.1] at hw; exact hw)
      have hle := sub_le hsub
      have dW := dif_nI (x := W) hW'
      have pW : s_bc (nI (dif W h)) = nI (pc (dif W h)) := bc_pc (dif_1024 hW')
      rw [if_pos hs, if_pos hw, nI_clamp (by omega)] at hQ
      simp only [hw, if_true, dW, pW]
      by_cases k0 : 0 ≤ b
      · obtain ⟨kk, hkk, rfl⟩ := nI_of (x := b) (Int32.not_lt.mpr k0)
        rw [if_pos k0, nI_clamp hkk] at hQ
        by_cases k1 : nI kk ≤ nI (pc (dif W h))
        · have l1 := @pc_31 (dif W h)
          have hk31 : kk ≤ 31 := by
            rcases Nat.lt_or_ge (pc (dif W h)) kk with q | q
            · exact absurd k1 (nI_ge q hkk)
            · omega
          rw [if_pos k1] at hQ
          simp only [k0, k1, n1z', ↓reduceIte, if_true, if_false, eq_self, not_true, not_false_eq_true, not_true_eq_false, Bool.true_eq_false, Bool.false_eq_true, Bool.not_false, Bool.not_true, Bool.and_true, Bool.and_false, Bool.true_and, Bool.false_and]
          rw [e_O_hadInAll]
          simp only [gO_hadInAll_0, gO_hadInAll_1, gO_hadInAll_2, gO_hadInAll_3, gO_hadInAll_6, gO_hadInAll_9, gO_hadInAll_11, gO_hadInAll_12, gO_hadInAll_13, gO_hadInAll_16, gO_hadInAll_19, gO_hadInAll_20, gO_hadInAll_21, gO_hadInAll_23, gO_hadInAll_24, gO_hadInAll_26, gO_hadInAll_27, gO_hadInAll_30, gO_hadInAll_34, gO_hadInAll_35, gO_hadInAll_38, gO_hadInAll_39, gO_hadInAll_42, gO_hadInAll_44, gO_hadInAll_47, gO_hadInAll_50, gO_hadInAll_52, gO_hadInAll_55, gO_hadInAll_57, gO_hadInAll_60, gO_hadInAll_62, gO_hadInAll_64, gO_hadInAll_65, gO_hadInAll_67, gO_hadInAll_70, gO_hadInAll_73, gO_hadInAll_75, ↓reduceIte, Bool.false_eq_true, Bool.true_eq_false, qk_i, qk_r, qk_n, Option.toList_some, Option.toList_none, List.cons_append, List.nil_append, true_and, and_true, true_or, or_true, eq_self, if_true, if_false, q_b1, q_b2, c_A, c_R, c_O, c_M, c_H1, c_H8, c_H15]
          refine c_countTo g r hW' hsub fun M1 hM1 hf => ?_
          have e7' := e7_of g (r.so hM1)
          have nz : (nI (uN H n h W W) = 0) = (uN H n h W W = 0) := propext (nI_eq (b := 0) (uN_big h10 hW') (by omega))
          have p1 : s_bc (nI h) = nI (pc h) := bc_pc g.hlt
          simp only [gO_hadInAll_0, gO_hadInAll_1, gO_hadInAll_2, gO_hadInAll_3, gO_hadInAll_6, gO_hadInAll_9, gO_hadInAll_11, gO_hadInAll_12, gO_hadInAll_13, gO_hadInAll_16, gO_hadInAll_19, gO_hadInAll_20, gO_hadInAll_21, gO_hadInAll_23, gO_hadInAll_24, gO_hadInAll_26, gO_hadInAll_27, gO_hadInAll_30, gO_hadInAll_34, gO_hadInAll_35, gO_hadInAll_38, gO_hadInAll_39, gO_hadInAll_42, gO_hadInAll_44, gO_hadInAll_47, gO_hadInAll_50, gO_hadInAll_52, gO_hadInAll_55, gO_hadInAll_57, gO_hadInAll_60, gO_hadInAll_62, gO_hadInAll_64, gO_hadInAll_65, gO_hadInAll_67, gO_hadInAll_70, gO_hadInAll_73, gO_hadInAll_75, ↓reduceIte, Bool.false_eq_true, Bool.true_eq_false, qk_i, qk_r, qk_n, Option.toList_some, Option.toList_none, List.cons_append, List.nil_append, true_and, and_true, true_or, or_true, eq_self, if_true, if_false, q_b1, q_b2, c_A, c_R, c_O, c_M, c_H1, c_H8, c_H15, nz, x_I_bitCount, e7', p1]
          by_cases hu : uN H n h W W = 0
          · rw [if_pos hu] at hQ
            simp only [hu, n1z', ↓reduceIte, if_true, if_false, eq_self, not_true, not_false_eq_true, not_true_eq_false, Bool.true_eq_false, Bool.false_eq_true, Bool.not_false, Bool.not_true, Bool.and_true, Bool.and_false, Bool.true_and, Bool.false_and, gA_halfway_0, gA_halfway_1, gA_halfway_2, gA_halfway_5, gA_halfway_6, gA_halfway_7, gA_halfway_10, gA_halfway_11, gA_halfway_12, gA_halfway_15, gA_halfway_16, gA_halfway_17, gA_halfway_20, gA_halfway_21, gA_halfway_23, gA_halfway_26, gA_halfway_27, gA_halfway_28, gA_halfway_29, gA_halfway_30, gA_halfway_33, gA_halfway_36, gA_halfway_37, gA_halfway_38, gA_halfway_39, gA_halfway_42, gA_halfway_45, gA_halfway_46, gA_halfway_48, gA_halfway_51, gA_halfway_52, gA_halfway_53, gA_halfway_56, gA_halfway_57, gA_halfway_60, gA_halfway_61, gA_halfway_62, gA_halfway_65, ↓reduceIte, Bool.false_eq_true, Bool.true_eq_false, qk_i, qk_r, qk_n, Option.toList_some, Option.toList_none, List.cons_append, List.nil_append, true_and, and_true, true_or, or_true, eq_self, if_true, if_false, q_b1, q_b2, c_A, c_R, c_O, c_M, c_H1, c_H8, c_H15]
            exact hQ _ (hM1.up So_Sq)
          · rw [if_neg hu] at hQ
            simp only [hu, n1z', ↓reduceIte, if_true, if_false, eq_self, not_true, not_false_eq_true, not_true_eq_false, Bool.true_eq_false, Bool.false_eq_true, Bool.not_false, Bool.not_true, Bool.and_true, Bool.and_false, Bool.true_and, Bool.false_and]
            have e0 := hw_lo (W := W) (kk := kk) g h (Nat.le_refl _)
            have hl : ∀ Q : q_R, _ := fun Q => l_A_half (Q := Q) (M := M1) g hW' hk31 hf (W + 1 - h) h (by omega)
            simp only [e0] at hl
            refine Eq.mpr (hl _) ?_
            have e1 := hw_hi (kk := kk) g hle (1023 - W) (W + 1) (Nat.le_refl _) (by omega)
            rw [show W + 1 + (1023 - W) = 1024 by omega] at e1
            rw [← e1]
            simp only [gA_halfway_0, gA_halfway_1, gA_halfway_2, gA_halfway_5, gA_halfway_6, gA_halfway_7, gA_halfway_10, gA_halfway_11, gA_halfway_12, gA_halfway_15, gA_halfway_16, gA_halfway_17, gA_halfway_20, gA_halfway_21, gA_halfway_23, gA_halfway_26, gA_halfway_27, gA_halfway_28, gA_halfway_29, gA_halfway_30, gA_halfway_33, gA_halfway_36, gA_halfway_37, gA_halfway_38, gA_halfway_39, gA_halfway_42, gA_halfway_45, gA_halfway_46, gA_halfway_48, gA_halfway_51, gA_halfway_52, gA_halfway_53, gA_halfway_56, gA_halfway_57, gA_halfway_60, gA_halfway_61, gA_halfway_62, gA_halfway_65, ↓reduceIte, Bool.false_eq_true, Bool.true_eq_false, qk_i, qk_r, qk_n, Option.toList_some, Option.toList_none, List.cons_append, List.nil_append, true_and, and_true, true_or, or_true, eq_self, if_true, if_false, q_b1, q_b2, c_A, c_R, c_O, c_M, c_H1, c_H8, c_H15]
            exact hQ _ (hM1.up So_Sq)
        · rw [if_neg k1] at hQ
          simp only [k0, k1, n1z', ↓reduceIte, if_true, if_false, eq_self, not_true, not_false_eq_true, not_true_eq_false, Bool.true_eq_false, Bool.false_eq_true, Bool.not_false, Bool.not_true, Bool.and_true, Bool.and_false, Bool.true_and, Bool.false_and]
          exact hQ _ eqx_ref
      · rw [if_neg k0] at hQ
        simp only [k0, n1z', ↓reduceIte, if_true, if_false, eq_self, not_true, not_false_eq_true, not_true_eq_false, Bool.true_eq_false, Bool.false_eq_true, Bool.not_false, Bool.not_true, Bool.and_true, Bool.and_false, Bool.true_and, Bool.false_and]
        exact hQ _ eqx_ref
    · simp only [hs, hw, if_true, if_false] at hQ
      simp only [hw, if_true, if_false, z3]
      exact hQ _ eqx_ref
theorem l_M_half (g : gH H n h) (r : RM M H) (hW : W < 1024) (hsub : ∀ i, h.testBit i = true → W.testBit i = true) (hu : ¬ uN H n h W W = 0) (hk : kk ≤ 31) (h44 : ∀ i, i < 1024 → M 44 i = nI (uN H n h W i)) (h45 : ∀ i, i < 1024 → M 45 i = nI (dN H n h W i)) {o : Int32} : ∀ k j, j + k = 1024 →
    q_g 108 none Q 60 [some (.ref 30), some (.int (nI W)), some (.int (nI kk)), some (.int o), some (.int (nI (hwN H n h W kk j))), some (.int (nI j))] [] M = Q (some (.int (nI (hwN H n h W kk 1024)))) M := by
  have h10 := g.1
  have hv := g.vm r
  have e8 := hv.2.2.1
  intro k
  induction k with
  | zero =>
    intro j hj
    have : j = 1024 := by omega
    subst this
    have h1 : (1024 : Int32) ≤ nI 1024 := by decide
    rw [gM_halfway_60]
    simp only [gM_halfway_0, gM_halfway_1, gM_halfway_2, gM_halfway_5, gM_halfway_6, gM_halfway_7, gM_halfway_10, gM_halfway_11, gM_halfway_12, gM_halfway_13, gM_halfway_14, gM_halfway_17, gM_halfway_18, gM_halfway_19, gM_halfway_20, gM_halfway_23, gM_halfway_26, gM_halfway_27, gM_halfway_28, gM_halfway_31, gM_halfway_32, gM_halfway_33, gM_halfway_36, gM_halfway_37, gM_halfway_38, gM_halfway_39, gM_halfway_42, gM_halfway_43, gM_halfway_46, gM_halfway_47, gM_halfway_48, gM_halfway_51, gM_halfway_53, gM_halfway_54, gM_halfway_55, gM_halfway_57, gM_halfway_58, gM_halfway_62, gM_halfway_65, gM_halfway_68, gM_halfway_69, gM_halfway_71, gM_halfway_72, gM_halfway_75, gM_halfway_78, gM_halfway_80, gM_halfway_83, gM_halfway_84, gM_halfway_87, gM_halfway_90, gM_halfway_91, gM_halfway_92, gM_halfway_95, gM_halfway_96, gM_halfway_99, gM_halfway_101, gM_halfway_102, gM_halfway_105, gM_halfway_106, gM_halfway_109, gM_halfway_111, gM_halfway_112, gM_halfway_115, gM_halfway_117, gM_halfway_119, gM_halfway_120, gM_halfway_122, gM_halfway_125, gM_halfway_128, gM_halfway_130, ↓reduceIte, Bool.false_eq_true, Bool.true_eq_false, qk_i, qk_r, qk_n, Option.toList_some, Option.toList_none, List.cons_append, List.nil_append, true_and, and_true, true_or, or_true, eq_self, if_true, if_false, q_b1, q_b2, c_A, c_R, c_O, c_M, c_H1, c_H8, c_H15, h1]
  | succ k ih =>
    intro j hj
    have hj' : j < 1024 := by omega
    have h1 : ¬ (1024 : Int32) ≤ nI j := nI_ge (b := 1024) (by omega) (by omega)
    have hin : q_in (nI j) 1024 = true := q_in_nI (by omega) (by omega)
    have cj : (nI j).toNatClampNeg = j := nI_clamp (by omega)
    have ih1 := ih (j + 1) (by omega)
    have p1 : s_bitsN (nI j) 31 = nI (pc j) := bits_pc hj'
    have p2 : s_bitsN (nI h) 31 = nI (pc h) := bits_pc g.hlt
    have n1 : (nI (uN H n h W j) ≤ 0) = (uN H n h W j = 0) := propext (nI_nop (uN_big h10 hj'))
    have n2 : (nI (dN H n h W j) ≤ 0) = (dN H n h W j = 0) := propext (nI_nop (dN_big h10 hW hj'))
    rw [hwN_s] at ih1
    rw [gM_halfway_60]
    simp only [gM_halfway_0, gM_halfway_1, gM_halfway_2, gM_halfway_5, gM_halfway_6, gM_halfway_7, gM_halfway_10, gM_halfway_11, gM_halfway_12, gM_halfway_13, gM_halfway_14, gM_halfway_17, gM_halfway_18, gM_halfway_19, gM_halfway_20, gM_halfway_23, gM_halfway_26, gM_halfway_27, gM_halfway_28, gM_halfway_31, gM_halfway_32, gM_halfway_33, gM_halfway_36, gM_halfway_37, gM_halfway_38, gM_halfway_39, gM_halfway_42, gM_halfway_43, gM_halfway_46, gM_halfway_47, gM_halfway_48, gM_halfway_51, gM_halfway_53, gM_halfway_54, gM_halfway_55, gM_halfway_57, gM_halfway_58, gM_halfway_62, gM_halfway_65, gM_halfway_68, gM_halfway_69, gM_halfway_71, gM_halfway_72, gM_halfway_75, gM_halfway_78, gM_halfway_80, gM_halfway_83, gM_halfway_84, gM_halfway_87, gM_halfway_90, gM_halfway_91, gM_halfway_92, gM_halfway_95, gM_halfway_96, gM_halfway_99, gM_halfway_101, gM_halfway_102, gM_halfway_105, gM_halfway_106, gM_halfway_109, gM_halfway_111, gM_halfway_112, gM_halfway_115, gM_halfway_117, gM_halfway_119, gM_halfway_120, gM_halfway_122, gM_halfway_125, gM_halfway_128, gM_halfway_130, ↓reduceIte, Bool.false_eq_true, Bool.true_eq_false, qk_i, qk_r, qk_n, Option.toList_some, Option.toList_none, List.cons_append, List.nil_append, true_and, and_true, true_or, or_true, eq_self, if_true, if_false, q_b1, q_b2, c_A, c_R, c_O, c_M, c_H1, c_H8, c_H15, h1, x_M_isWithin, bw_eq e8 g.hlt hj', q_z0, x_M_bits, p1, e8, p2, pcs_eq hk, rf_M22, rf_M23, aD_44, aD_45, hin, cj, h44 j hj', h45 j hj', n1, n2, nI_1, nx_and]
    cases hw : wi h W j
    · have hz : uN H n h W j = 0 := uN_out hj' (fun e => by
        rw [e] at hw
        rw [(wi_iff g.hlt g.hlt).mpr ⟨fun i hi => hi, hsub⟩] at hw
        cases hw) (by rw [hw]; decide)
      rw [if_neg (fun q => q.1 hz)] at ih1
      simp only [n1z', ↓reduceIte, if_true, if_false, eq_self, not_true, not_false_eq_true, not_true_eq_false, Bool.true_eq_false, Bool.false_eq_true, Bool.not_false, Bool.not_true, Bool.and_true, Bool.and_false, Bool.true_and, Bool.false_and]
      exact ih1
    · have hd := dN_pos g hW hu _ j hj' rfl hw
      by_cases e1 : uN H n h W j = 0
      · rw [if_neg (fun q => q.1 e1)] at ih1
        simp only [e1, n1z', ↓reduceIte, if_true, if_false, eq_self, not_true, not_false_eq_true, not_true_eq_false, Bool.true_eq_false, Bool.false_eq_true, Bool.not_false, Bool.not_true, Bool.and_true, Bool.and_false, Bool.true_and, Bool.false_and]
        split
        · exact ih1
        · exact ih1
      · by_cases e2 : pc j = pc h + kk
        · rw [if_pos ⟨e1, e2⟩] at ih1
          simp only [e1, e2, hd, n1z', ↓reduceIte, if_true, if_false, eq_self, not_true, not_false_eq_true, not_true_eq_false, Bool.true_eq_false, Bool.false_eq_true, Bool.not_false, Bool.not_true, Bool.and_true, Bool.and_false, Bool.true_and, Bool.false_and]
          exact ih1
        · rw [if_neg (fun q => e2 q.2)] at ih1
          simp only [e1, e2, n1z', ↓reduceIte, if_true, if_false, eq_self, not_true, not_false_eq_true, not_true_eq_false, Bool.true_eq_false, Bool.false_eq_true, Bool.not_false, Bool.not_true, Bool.and_true, Bool.and_false, Bool.true_and, Bool.false_and]
          exact ih1
theorem y_M_halfway (g : gH H n h) (r : RM M H) (hQ : ∀ M', eqx Sm M M' → Q (some (.int (an_half H n h a b))) M') : q_Run 108 [.ref 30, .int a, .int b] M Q := by
  have h2 := two_pow_le g.1
  have h10 := g.1
  have z3 : ¬ (-3 : Int32) = 0 := by decide
  have z1 : ¬ (-1 : Int32) = 0 := by decide
  have z4 : ¬ (-4 : Int32) = 0 := by decide
  have z6 : ¬ (-6 : Int32) = 0 := by decide
  have e8 := (g.vm r).2.2.1
  unfold an_half at hQ
  rw [e_M_halfway]
  simp only [gM_halfway_0, gM_halfway_1, gM_halfway_2, gM_halfway_5, gM_halfway_6, gM_halfway_7, gM_halfway_10, gM_halfway_11, gM_halfway_12, gM_halfway_13, gM_halfway_14, gM_halfway_17, gM_halfway_18, gM_halfway_19, gM_halfway_20, gM_halfway_23, gM_halfway_26, gM_halfway_27, gM_halfway_28, gM_halfway_31, gM_halfway_32, gM_halfway_33, gM_halfway_36, gM_halfway_38, gM_halfway_39, gM_halfway_42, gM_halfway_43, gM_halfway_46, gM_halfway_47, gM_halfway_48, gM_halfway_51, gM_halfway_53, gM_halfway_54, gM_halfway_55, gM_halfway_57, gM_halfway_58, gM_halfway_60, gM_halfway_62, gM_halfway_65, gM_halfway_68, gM_halfway_69, gM_halfway_71, gM_halfway_72, gM_halfway_75, gM_halfway_78, gM_halfway_80, gM_halfway_83, gM_halfway_84, gM_halfway_87, gM_halfway_90, gM_halfway_91, gM_halfway_92, gM_halfway_95, gM_halfway_96, gM_halfway_99, gM_halfway_101, gM_halfway_102, gM_halfway_105, gM_halfway_106, gM_halfway_109, gM_halfway_111, gM_halfway_112, gM_halfway_115, gM_halfway_117, gM_halfway_119, gM_halfway_120, gM_halfway_122, gM_halfway_125, gM_halfway_128, gM_halfway_130, ↓reduceIte, Bool.false_eq_true, Bool.true_eq_false, qk_i, qk_r, qk_n, Option.toList_some, Option.toList_none, List.cons_append, List.nil_append, true_and, and_true, true_or, or_true, eq_self, if_true, if_false, q_b1, q_b2, c_A, c_R, c_O, c_M, c_H1, c_H8, c_H15, x_M_notAimed, x_M_bits, x_M_bound, x_M_no (aim_in (M := M) (s := a)), x_M_no bound_in, e8]
  rw [aim_eq g r]
  cases hs : b_isSet H 0 a
  · simp only [hs, Bool.false_eq_true, if_false] at hQ
    simp only [Bool.false_eq_true, if_false, z1, not_false_eq_true, if_true]
    exact hQ _ eqm_no
  · by_cases hw : H 0 7 &&& (a ^^^ (-1)) = 0
    · obtain ⟨W, hW, rfl⟩ := set_N g hs
      have hW' : W < 1024 := by omega
      have hsub := in_sub g.hlt (by rw [g.2.2.1] at hw; exact hw)
      have dW := dif_nI (x := W) hW'
      have pW : s_bitsN (nI (dif W h)) 31 = nI (pc (dif W h)) := bits_pc (dif_1024 hW')
      have hin : q_in (nI W) 1024 = true := q_in_nI hW' (by omega)
      have cW : (nI W).toNatClampNeg = W := nI_clamp (by omega)
      rw [if_pos hs, if_pos hw, cW] at hQ
      simp only [hw, if_true, dW, pW, n1z', ↓reduceIte, if_true, if_false, eq_self, not_true, not_false_eq_true, not_true_eq_false, Bool.true_eq_false, Bool.false_eq_true, Bool.not_false, Bool.not_true, Bool.and_true, Bool.and_false, Bool.true_and, Bool.false_and]
      unfold s_bound
      by_cases k0 : 0 ≤ b
      · obtain ⟨kk, hkk, rfl⟩ := nI_of (x := b) (Int32.not_lt.mpr k0)
        rw [if_pos k0, nI_clamp hkk] at hQ
        by_cases k1 : nI kk ≤ nI (pc (dif W h))
        · have l1 := @pc_31 (dif W h)
          have hk31 : kk ≤ 31 := by
            rcases Nat.lt_or_ge (pc (dif W h)) kk with q | q
            · exact absurd k1 (nI_ge q hkk)
            · omega
          have nz : (nI (uN H n h W W) = 0) = (uN H n h W W = 0) := propext (nI_eq (b := 0) (uN_big h10 hW') (by omega))
          rw [if_pos k1] at hQ
          simp only [k0, k1, n1z', ↓reduceIte, if_true, if_false, eq_self, not_true, not_false_eq_true, not_true_eq_false, Bool.true_eq_false, Bool.false_eq_true, Bool.not_false, Bool.not_true, Bool.and_true, Bool.and_false, Bool.true_and, Bool.false_and, gM_halfway_0, gM_halfway_1, gM_halfway_2, gM_halfway_5, gM_halfway_6, gM_halfway_7, gM_halfway_10, gM_halfway_11, gM_halfway_12, gM_halfway_13, gM_halfway_14, gM_halfway_17, gM_halfway_18, gM_halfway_19, gM_halfway_20, gM_halfway_23, gM_halfway_26, gM_halfway_27, gM_halfway_28, gM_halfway_31, gM_halfway_32, gM_halfway_33, gM_halfway_36, gM_halfway_37, gM_halfway_38, gM_halfway_39, gM_halfway_42, gM_halfway_43, gM_halfway_46, gM_halfway_47, gM_halfway_48, gM_halfway_51, gM_halfway_53, gM_halfway_54, gM_halfway_55, gM_halfway_57, gM_halfway_58, gM_halfway_62, gM_halfway_65, gM_halfway_68, gM_halfway_69, gM_halfway_71, gM_halfway_72, gM_halfway_75, gM_halfway_78, gM_halfway_80, gM_halfway_83, gM_halfway_84, gM_halfway_87, gM_halfway_90, gM_halfway_91, gM_halfway_92, gM_halfway_95, gM_halfway_96, gM_halfway_99, gM_halfway_101, gM_halfway_102, gM_halfway_105, gM_halfway_106, gM_halfway_109, gM_halfway_111, gM_halfway_112, gM_halfway_115, gM_halfway_117, gM_halfway_119, gM_halfway_120, gM_halfway_122, gM_halfway_125, gM_halfway_128, gM_halfway_130, ↓reduceIte, Bool.false_eq_true, Bool.true_eq_false, qk_i, qk_r, qk_n, Option.toList_some, Option.toList_none, List.cons_append, List.nil_append, true_and, and_true, true_or, or_true, eq_self, if_true, if_false, q_b1, q_b2, c_A, c_R, c_O, c_M, c_H1, c_H8, c_H15]
          refine m_findWays g r hW' fun M' hM' h44 h45 => ?_
          simp only [gM_halfway_0, gM_halfway_1, gM_halfway_2, gM_halfway_5, gM_halfway_6, gM_halfway_7, gM_halfway_10, gM_halfway_11, gM_halfway_12, gM_halfway_13, gM_halfway_14, gM_halfway_17, gM_halfway_18, gM_halfway_19, gM_halfway_20, gM_halfway_23, gM_halfway_26, gM_halfway_27, gM_halfway_28, gM_halfway_31, gM_halfway_32, gM_halfway_33, gM_halfway_36, gM_halfway_37, gM_halfway_38, gM_halfway_39, gM_halfway_42, gM_halfway_43, gM_halfway_46, gM_halfway_47, gM_halfway_48, gM_halfway_51, gM_halfway_53, gM_halfway_54, gM_halfway_55, gM_halfway_57, gM_halfway_58, gM_halfway_62, gM_halfway_65, gM_halfway_68, gM_halfway_69, gM_halfway_71, gM_halfway_72, gM_halfway_75, gM_halfway_78, gM_halfway_80, gM_halfway_83, gM_halfway_84, gM_halfway_87, gM_halfway_90, gM_halfway_91, gM_halfway_92, gM_halfway_95, gM_halfway_96, gM_halfway_99, gM_halfway_101, gM_halfway_102, gM_halfway_105, gM_halfway_106, gM_halfway_109, gM_halfway_111, gM_halfway_112, gM_halfway_115, gM_halfway_117, gM_halfway_119, gM_halfway_120, gM_halfway_122, gM_halfway_125, gM_halfway_128, gM_halfway_130, ↓reduceIte, Bool.false_eq_true, Bool.true_eq_false, qk_i, qk_r, qk_n, Option.toList_some, Option.toList_none, List.cons_append, List.nil_append, true_and, and_true, true_or, or_true, eq_self, if_true, if_false, q_b1, q_b2, c_A, c_R, c_O, c_M, c_H1, c_H8, c_H15, rf_M22, aD_44, hin, cW, h44 W hW', nz]
          by_cases hu : uN H n h W W = 0
          · rw [if_pos hu] at hQ
            simp only [hu, n1z', ↓reduceIte, if_true, if_false, eq_self, not_true, not_false_eq_true, not_true_eq_false, Bool.true_eq_false, Bool.false_eq_true, Bool.not_false, Bool.not_true, Bool.and_true, Bool.and_false, Bool.true_and, Bool.false_and]
            exact hQ _ (hM'.up SfSm)
          · rw [if_neg hu] at hQ
            simp only [hu, n1z', ↓reduceIte, if_true, if_false, eq_self, not_true, not_false_eq_true, not_true_eq_false, Bool.true_eq_false, Bool.false_eq_true, Bool.not_false, Bool.not_true, Bool.and_true, Bool.and_false, Bool.true_and, Bool.false_and]
            exact Eq.mpr (l_M_half (kk := kk) g (r.f hM') hW' hsub hu hk31 h44 h45 1024 0 (by omega)) (hQ _ (hM'.up SfSm))
        · rw [if_neg k1] at hQ
          simp only [k0, k1, n1z', ↓reduceIte, if_true, if_false, eq_self, not_true, not_false_eq_true, not_true_eq_false, Bool.true_eq_false, Bool.false_eq_true, Bool.not_false, Bool.not_true, Bool.and_true, Bool.and_false, Bool.true_and, Bool.false_and, z6]
          exact hQ _ eqm_no
      · rw [if_neg k0] at hQ
        simp only [k0, n1z', ↓reduceIte, if_true, if_false, eq_self, not_true, not_false_eq_true, not_true_eq_false, Bool.true_eq_false, Bool.false_eq_true, Bool.not_false, Bool.not_true, Bool.and_true, Bool.and_false, Bool.true_and, Bool.false_and, z4]
        exact hQ _ eqm_no
    · simp only [hs, hw, if_true, if_false] at hQ
      simp only [hw, if_true, if_false, z3, not_false_eq_true]
      exact hQ _ eqm_no
end HALF
