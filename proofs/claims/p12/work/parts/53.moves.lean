/-! what changes the house: the same on both sides -/
section MV
variable {Q : q_R} {M H : q_M} {n h : Nat} {B : Nat} {a b c : Int32}
theorem RC.p6 {v : Int32} (r : RC B M H) : RC B (q_put M B 6 v) (q_put H 0 6 v) :=
  ⟨fun c j h1 h6 hj => by rw [q_put_ne (by omega), q_put_ne (by omega)]; exact r.1 c j h1 h6 hj, by rw [q_put_at, q_put_at, if_pos rfl, if_pos rfl], by rw [q_put_at, q_put_at, if_neg (by decide), if_neg (by decide)]; exact r.2.2.1, by rw [q_put_at, q_put_at, if_neg (by decide), if_neg (by decide)]; exact r.2.2.2⟩
theorem RC.p7 {v : Int32} (r : RC B M H) : RC B (q_put M B 7 v) (q_put H 0 7 v) :=
  ⟨fun c j h1 h6 hj => by rw [q_put_ne (by omega), q_put_ne (by omega)]; exact r.1 c j h1 h6 hj, by rw [q_put_at, q_put_at, if_neg (by decide), if_neg (by decide)]; exact r.2.1, by rw [q_put_at, q_put_at, if_pos rfl, if_pos rfl], by rw [q_put_at, q_put_at, if_neg (by decide), if_neg (by decide)]; exact r.2.2.2⟩
theorem RC.p8 {v : Int32} (r : RC B M H) : RC B (q_put M B 8 v) (q_put H 0 8 v) :=
  ⟨fun c j h1 h6 hj => by rw [q_put_ne (by omega), q_put_ne (by omega)]; exact r.1 c j h1 h6 hj, by rw [q_put_at, q_put_at, if_neg (by decide), if_neg (by decide)]; exact r.2.1, by rw [q_put_at, q_put_at, if_neg (by decide), if_neg (by decide)]; exact r.2.2.1, by rw [q_put_at, q_put_at, if_pos rfl, if_pos rfl]⟩
theorem RM.p6 {v : Int32} (r : RM M H) : RM (q_put M 30 7 v) (q_put H 0 6 v) :=
  ⟨fun c j h1 h6 hj => by rw [q_put_ne (by omega), q_put_ne (by omega)]; exact r.1 c j h1 h6 hj, by rw [q_put_at, q_put_at, if_pos rfl, if_pos rfl], by rw [q_put_at, q_put_at, if_neg (by decide), if_neg (by decide)]; exact r.2.2.1, by rw [q_put_at, q_put_at, if_neg (by decide), if_neg (by decide)]; exact r.2.2.2⟩
theorem RM.p7 {v : Int32} (r : RM M H) : RM (q_put M 30 8 v) (q_put H 0 7 v) :=
  ⟨fun c j h1 h6 hj => by rw [q_put_ne (by omega), q_put_ne (by omega)]; exact r.1 c j h1 h6 hj, by rw [q_put_at, q_put_at, if_neg (by decide), if_neg (by decide)]; exact r.2.1, by rw [q_put_at, q_put_at, if_pos rfl, if_pos rfl], by rw [q_put_at, q_put_at, if_neg (by decide), if_neg (by decide)]; exact r.2.2.2⟩
theorem RM.p8 {v : Int32} (r : RM M H) : RM (q_put M 30 9 v) (q_put H 0 8 v) :=
  ⟨fun c j h1 h6 hj => by rw [q_put_ne (by omega), q_put_ne (by omega)]; exact r.1 c j h1 h6 hj, by rw [q_put_at, q_put_at, if_neg (by decide), if_neg (by decide)]; exact r.2.1, by rw [q_put_at, q_put_at, if_neg (by decide), if_neg (by decide)]; exact r.2.2.1, by rw [q_put_at, q_put_at, if_pos rfl, if_pos rfl]⟩
theorem s_put_nI {k m j : Nat} {v : Int32} (hj : j < m) (hm : m ≤ 2048) : s_put M k m (nI j) v = q_put M k j v := by
  unfold s_put
  have h1 : ¬ nI j < 0 := Int32.not_lt.mpr (nI_pos' (by omega))
  have h2 : ¬ Int32.ofNat m ≤ nI j := nI_ge (b := m) (by omega) (by omega)
  rw [if_neg h1, if_neg h2, nI_clamp (by omega)]
theorem RC.q {k j : Nat} {v : Int32} (r : RC B M H) (h1 : 1 ≤ k) (hk : k ≤ 6) : RC B (q_put M (B + k) j v) (q_put H k j v) := by
  refine ⟨fun c i c1 c6 hi => ?_, by rw [q_put_ne (by omega), q_put_ne (by omega)]; exact r.2.1, by rw [q_put_ne (by omega), q_put_ne (by omega)]; exact r.2.2.1, by rw [q_put_ne (by omega), q_put_ne (by omega)]; exact r.2.2.2⟩
  by_cases e : c = k
  · subst e
    rw [q_put_at, q_put_at, r.1 c i c1 c6 hi]
  · rw [q_put_ne (by omega), q_put_ne e]
    exact r.1 c i c1 c6 hi
theorem RM.q {k j : Nat} {v : Int32} (r : RM M H) (h1 : 1 ≤ k) (hk : k ≤ 6) : RM (q_put M (31 + k) j v) (q_put H k j v) := by
  refine ⟨fun c i c1 c6 hi => ?_, by rw [q_put_ne (by omega), q_put_ne (by omega)]; exact r.2.1, by rw [q_put_ne (by omega), q_put_ne (by omega)]; exact r.2.2.1, by rw [q_put_ne (by omega), q_put_ne (by omega)]; exact r.2.2.2⟩
  by_cases e : c = k
  · subst e
    rw [q_put_at, q_put_at, r.1 c i c1 c6 hi]
  · rw [q_put_ne (by omega), q_put_ne e]
    exact r.1 c i c1 c6 hi
theorem RC.ref {w : Int32} (r : RC 1 M H) : RC 1 (s_ref M w) H := r.of fun c _ _ => s_put_ne (by omega)
theorem RM.no {w : Int32} (r : RM M H) : RM (s_no M w) H := by
  unfold s_no
  exact r.of (fun c _ _ => q_put_ne (by omega)) (by rw [q_put_ne (by decide)]) (by rw [q_put_ne (by decide)]) (by rw [q_put_ne (by decide)])
theorem thing_nI (g : gH H n h) (ht : b_isThing H 0 a = true) : ∃ j, j < n ∧ a = nI j := by
  unfold b_isThing at ht
  simp only [Bool.and_eq_true, decide_eq_true_eq] at ht
  obtain ⟨j, hj, rfl⟩ := nI_of ht.1
  refine ⟨j, ?_, rfl⟩
  rcases Nat.lt_or_ge j n with q | q
  · exact q
  · exact absurd (by rw [g.2.1]; exact nI_le q hj) ht.2
theorem nI_thing (g : gH H n h) {j : Nat} (hj : j < n) : b_isThing H 0 (nI j) = true := by
  have h10 := g.1
  unfold b_isThing
  have h1 : ¬ nI j < 0 := Int32.not_lt.mpr (nI_pos' (by omega))
  have h2 : ¬ nI n ≤ nI j := nI_ge (by omega) (by omega)
  rw [g.2.1]
  simp [h1, h2]
theorem RM.isThing (r : RM M H) : b_mThing M a = b_isThing H 0 a := by
  unfold b_mThing b_isThing
  rw [r.2.1]
/-! hand -/
def mv_hand (H : q_M) (a : Int32) : q_P := if b_isThing H 0 a = true then ((H 0 7 ^^^ (1 <<< (a &&& 31))) >>> (a &&& 31) &&& 1, q_put H 0 7 (H 0 7 ^^^ (1 <<< (a &&& 31)))) else (-1, H)
theorem gH.had {h' : Nat} (g : gH H n h) (hh : h' < 2 ^ n) : gH (q_put H 0 7 (nI h')) n h' :=
  ⟨g.1, by rw [q_put_at, if_neg (by decide)]; exact g.2.1, by rw [q_put_at, if_pos rfl], hh, by rw [q_put_at, if_neg (by decide)]; exact g.2.2.2.2.1, fun j hj => by
    have := g.2.2.2.2.2 j hj
    unfold gT at this ⊢
    rw [q_put_ne (by decide), q_put_ne (by decide), q_put_ne (by decide), q_put_ne (by decide), q_put_ne (by decide), q_put_ne (by decide)]
    exact this⟩
theorem g_hand (g : gH H n h) : ∃ h', gH (mv_hand H a).2 n h' := by
  have h10 := g.1
  unfold mv_hand
  split
  · rename_i ht
    obtain ⟨j, hj, rfl⟩ := thing_nI g ht
    refine ⟨h ^^^ 2 ^ j, ?_⟩
    have e : H 0 7 ^^^ (1 <<< (nI j &&& 31)) = nI (h ^^^ 2 ^ j) := by rw [g.2.2.1, sh1_nI j (by omega), nx_xor]
    show gH (q_put H 0 7 _) n _
    rw [e]
    exact g.had (lt_two_pow_xor g.2.2.2.1 (Nat.pow_lt_pow_right (by omega) hj))
  · exact ⟨h, g⟩
theorem x_A_hand (r : RC 1 M H) (hQ : ∀ M', eqx Sn M M' → RC 1 M' (mv_hand H a).2 → Q (some (.int (mv_hand H a).1)) M') : q_Run 63 [.ref 0, .int a] M Q := by
  unfold mv_hand at hQ
  rw [e_A_hand]
  simp only [gA_hand_0, gA_hand_1, gA_hand_4, gA_hand_5, gA_hand_8, gA_hand_11, gA_hand_12, gA_hand_13, gA_hand_16, gA_hand_17, gA_hand_18, gA_hand_21, gA_hand_22, gA_hand_25, ↓reduceIte, Bool.false_eq_true, Bool.true_eq_false, qk_i, qk_r, qk_n, Option.toList_some, Option.toList_none, List.cons_append, List.nil_append, true_and, and_true, true_or, or_true, eq_self, if_true, if_false, q_b1, q_b2, c_A, c_R, c_O, c_M, c_H1, c_H8, c_H15, rf_A0, x_H_isThing c_H1, q_z0, x_A_refuse, x_H_turnHand c_H1]
  rw [r.isThing, r.2.2.1]
  split
  · rename_i ht
    rw [if_pos ((Bool.not_eq_false _).mp ht)] at hQ
    exact hQ _ (eqx.rf.qput (by decide)) r.p7
  · rename_i ht
    rw [if_neg (fun q => ht (by rw [q]; decide))] at hQ
    exact hQ _ eqxn_ref r.ref
theorem x_M_hand (r : RM M H) (hQ : ∀ M', eqf Sv Gv M M' → RM M' (mv_hand H a).2 → Q (some (.int (mv_hand H a).1)) M') : q_Run 109 [.ref 30, .int a] M Q := by
  unfold mv_hand at hQ
  rw [e_M_hand]
  simp only [gM_hand_0, gM_hand_1, gM_hand_2, gM_hand_5, gM_hand_8, gM_hand_9, gM_hand_10, gM_hand_13, gM_hand_14, gM_hand_15, gM_hand_16, gM_hand_19, gM_hand_20, gM_hand_21, gM_hand_22, gM_hand_23, gM_hand_26, gM_hand_27, gM_hand_30, gM_hand_31, gM_hand_32, gM_hand_33, gM_hand_34, ↓reduceIte, Bool.false_eq_true, Bool.true_eq_false, qk_i, qk_r, qk_n, Option.toList_some, Option.toList_none, List.cons_append, List.nil_append, true_and, and_true, true_or, or_true, eq_self, if_true, if_false, q_b1, q_b2, c_A, c_R, c_O, c_M, c_H1, c_H8, c_H15, x_M_isThing, q_z0, x_M_no no_1, q_put_at]
  rw [r.isThing, r.2.2.1]
  split
  · rename_i ht
    rw [if_pos ((Bool.not_eq_false _).mp ht)] at hQ
    exact hQ _ (eqf.rf.fld (by decide)) r.p7
  · rename_i ht
    rw [if_neg (fun q => ht (by rw [q]; decide))] at hQ
    exact hQ _ eqv_no r.no
/-! need -/
def mv_need (H : q_M) (a b c : Int32) : q_P := if (b_isThing H 0 a && (b_isThing H 0 b && decide (¬ a = b))) = true then (if b_noPart c = true then (-2, H) else if c = 0 then (s_turnV H (0 + 5) a b >>> (b &&& 31) &&& 1, s_put H (0 + 5) 10 a (s_turnV H (0 + 5) a b)) else (s_turnV H (0 + 6) a b >>> (b &&& 31) &&& 1, s_put H (0 + 6) 10 a (s_turnV H (0 + 6) a b))) else (-1, H)
theorem RC.turnV {k : Nat} (r : RC B M H) (h1 : 1 ≤ k) (hk : k ≤ 6) : s_turnV M (B + k) a b = s_turnV H (0 + k) a b := by
  unfold s_turnV
  rw [r.get h1 hk]
theorem RC.put {k : Nat} {v : Int32} (r : RC B M H) (h1 : 1 ≤ k) (hk : k ≤ 6) : RC B (s_put M (B + k) 10 a v) (s_put H (0 + k) 10 a v) := by
  unfold s_put
  by_cases c1 : a < 0
  · rw [if_pos c1, if_pos c1]
    exact r
  · by_cases c2 : Int32.ofNat 10 ≤ a
    · rw [if_neg c1, if_neg c1, if_pos c2, if_pos c2]
      exact r
    · rw [if_neg c1, if_neg c1, if_neg c2, if_neg c2, Nat.zero_add]
      exact r.q h1 hk
theorem gH.row {k j : Nat} {v : Int32} (g : gH H n h) (h5 : 5 ≤ k) (h6 : k ≤ 6) (hj : j < n) (hv : ∃ x, x < 2 ^ n ∧ v = nI x) : gH (q_put H k j v) n h := by
  refine ⟨g.1, by rw [q_put_ne (by omega)]; exact g.2.1, by rw [q_put_ne (by omega)]; exact g.2.2.1, g.2.2.2.1, by rw [q_put_ne (by omega)]; exact g.2.2.2.2.1, fun i hi => ?_⟩
  obtain ⟨t1, t2, t3, t4, t5, t6⟩ := g.2.2.2.2.2 i hi
  have hk : k = 5 ∨ k = 6 := by omega
  refine ⟨by rw [q_put_ne (by omega)]; exact t1, by rw [q_put_ne (by omega)]; exact t2, by rw [q_put_ne (by omega)]; exact t3, by rw [q_put_ne (by omega)]; exact t4, ?_, ?_⟩
  · rcases hk with rfl | rfl
    · rw [q_put_at]
      split
      · exact hv
      · exact t5
    · rw [q_put_ne (by decide)]
      exact t5
  · rcases hk with rfl | rfl
    · rw [q_put_ne (by decide)]
      exact t6
    · rw [q_put_at]
      split
      · exact hv
      · exact t6
theorem turnV_lt {i j k : Nat} (g : gH H n h) (hi : i < n) (hj : j < n) (h5 : 5 ≤ k) (h6 : k ≤ 6) : ∃ x, x < 2 ^ n ∧ s_turnV H (0 + k) (nI i) (nI j) = nI x := by
  have h10 := g.1
  obtain ⟨-, -, -, -, ⟨x, hx, ex⟩, ⟨y, hy, ey⟩⟩ := g.2.2.2.2.2 i hi
  have hp : 2 ^ j < 2 ^ n := Nat.pow_lt_pow_right (by omega) hj
  unfold s_turnV
  rw [s_get_nI (by omega) (by omega), sh1_nI j (by omega), Nat.zero_add]
  have hk : k = 5 ∨ k = 6 := by omega
  rcases hk with rfl | rfl
  · exact ⟨x ^^^ 2 ^ j, lt_two_pow_xor hx hp, by rw [ex, nx_xor]⟩
  · exact ⟨y ^^^ 2 ^ j, lt_two_pow_xor hy hp, by rw [ey, nx_xor]⟩
theorem g_need (g : gH H n h) : gH (mv_need H a b c).2 n h := by
  have h10 := g.1
  unfold mv_need
  split
  · rename_i ht
    have h1 := (Bool.and_eq_true _ _).mp ht
    have h2 := (Bool.and_eq_true _ _).mp h1.2
    obtain ⟨i, hi, rfl⟩ := thing_nI g h1.1
    obtain ⟨j, hj, rfl⟩ := thing_nI g h2.1
    split
    · exact g
    split
    · rw [s_put_nI (by omega) (by omega)]
      exact g.row (by omega) (by omega) hi (turnV_lt g hi hj (by omega) (by omega))
    · rw [s_put_nI (by omega) (by omega)]
      exact g.row (by omega) (by omega) hi (turnV_lt g hi hj (by omega) (by omega))
  · exact g
theorem x_A_need (r : RC 1 M H) (hQ : ∀ M', eqx Sn M M' → RC 1 M' (mv_need H a b c).2 → Q (some (.int (mv_need H a b c).1)) M') : q_Run 75 [.ref 0, .int a, .int b, .int c] M Q := by
  unfold mv_need at hQ
  rw [e_A_need]
  simp only [gA_need_0, gA_need_1, gA_need_4, gA_need_5, gA_need_8, gA_need_11, gA_need_12, gA_need_15, gA_need_16, gA_need_19, gA_need_22, gA_need_23, gA_need_24, gA_need_27, gA_need_28, gA_need_29, gA_need_32, gA_need_33, gA_need_34, gA_need_37, gA_need_40, gA_need_41, gA_need_43, gA_need_46, gA_need_47, gA_need_48, gA_need_51, gA_need_52, gA_need_55, gA_need_56, gA_need_57, gA_need_60, gA_need_63, gA_need_64, gA_need_67, gA_need_68, gA_need_69, gA_need_72, ↓reduceIte, Bool.false_eq_true, Bool.true_eq_false, qk_i, qk_r, qk_n, Option.toList_some, Option.toList_none, List.cons_append, List.nil_append, true_and, and_true, true_or, or_true, eq_self, if_true, if_false, q_b1, q_b2, c_A, c_R, c_O, c_M, c_H1, c_H8, c_H15, rf_A0, x_H_isThing c_H1, q_z0, x_A_refuse, x_A_isNoPart, x_H_turnAny c_H1, x_H_turnAll c_H1]
  rw [r.isThing, r.isThing, r.turnV (k := 5) (by omega) (by omega), r.turnV (k := 6) (by omega) (by omega)]
  cases h1 : b_isThing H 0 a
  · simp only [h1, Bool.false_and, Bool.false_eq_true, if_false] at hQ
    simp only [if_true, not_true, if_false]
    exact hQ _ eqxn_ref r.ref
  · cases h2 : b_isThing H 0 b
    · simp only [h1, h2, Bool.false_and, Bool.and_false, Bool.false_eq_true, if_false] at hQ
      simp only [Bool.true_eq_false, if_true, if_false, not_true, not_false_eq_true]
      exact hQ _ eqxn_ref r.ref
    · by_cases h3 : a = b
      · simp only [h1, h2, h3, Bool.true_and, not_true, decide_false, Bool.false_eq_true, if_false] at hQ
        simp only [h3, Bool.true_eq_false, if_true, if_false, not_true, not_false_eq_true]
        exact hQ _ eqxn_ref r.ref
      · cases h4 : b_noPart c
        · by_cases h5 : c = 0
          · simp only [h1, h2, h3, h4, h5, Bool.true_and, not_false_eq_true, decide_true, Bool.false_eq_true, if_false, if_true] at hQ
            simp only [h3, h5, Bool.true_eq_false, if_true, if_false, not_true, not_false_eq_true]
            exact hQ _ (eqx.rf.sput (by decide)) (r.put (k := 5) (by omega) (by omega))
          · simp only [h1, h2, h3, h4, h5, Bool.true_and, not_false_eq_true, decide_true, Bool.false_eq_true, if_false, if_true] at hQ
            simp only [h3, h5, Bool.true_eq_false, if_true, if_false, not_true, not_false_eq_true]
            exact hQ _ (eqx.rf.sput (by decide)) (r.put (k := 6) (by omega) (by omega))
        · simp only [h1, h2, h3, h4, Bool.true_and, not_false_eq_true, decide_true, if_true] at hQ
          simp only [h3, Bool.true_eq_false, if_true, if_false, not_true, not_false_eq_true]
          exact hQ _ eqxn_ref r.ref
theorem noPart_in (c : Int32) : b_noPart c = !b_in c 0 1 := by
  unfold b_noPart b_in
  by_cases h1 : c < 0 <;> by_cases h2 : c ≤ 1 <;> simp [h1, h2, Int32.not_lt]
  all_goals first
    | done
    | exact Int32.not_le.mp h2
theorem RM.two (r : RM M H) : b_mTwo M a b = (b_isThing H 0 a && (b_isThing H 0 b && decide (¬ a = b))) := by
  unfold b_mTwo
  rw [r.isThing, r.isThing]
theorem x_M_need (g : gH H n h) (r : RM M H) (hQ : ∀ M', eqf Sv Gv M M' → RM M' (mv_need H a b c).2 → Q (some (.int (mv_need H a b c).1)) M') : q_Run 128 [.ref 30, .int a, .int b, .int c] M Q := by
  have h10 := g.1
  unfold mv_need at hQ
  rw [e_M_need]
  simp only [gM_need_0, gM_need_1, gM_need_2, gM_need_3, gM_need_6, gM_need_9, gM_need_10, gM_need_11, gM_need_14, gM_need_16, gM_need_17, gM_need_18, gM_need_21, gM_need_24, gM_need_25, gM_need_27, gM_need_30, gM_need_31, gM_need_32, gM_need_35, gM_need_36, gM_need_39, gM_need_40, gM_need_41, gM_need_42, gM_need_43, gM_need_44, gM_need_45, gM_need_46, gM_need_47, gM_need_50, gM_need_51, gM_need_54, gM_need_55, gM_need_56, gM_need_57, gM_need_58, gM_need_59, gM_need_60, gM_need_61, gM_need_62, gM_need_63, gM_need_66, gM_need_67, gM_need_70, gM_need_71, gM_need_72, gM_need_75, gM_need_76, gM_need_79, gM_need_80, gM_need_81, gM_need_82, gM_need_83, gM_need_84, gM_need_85, ↓reduceIte, Bool.false_eq_true, Bool.true_eq_false, qk_i, qk_r, qk_n, Option.toList_some, Option.toList_none, List.cons_append, List.nil_append, true_and, and_true, true_or, or_true, eq_self, if_true, if_false, q_b1, q_b2, c_A, c_R, c_O, c_M, c_H1, c_H8, c_H15, x_M_areTwo, q_z0, x_M_no no_1]
  rw [r.two]
  split
  · rename_i ht
    have ht' := (Bool.not_eq_false _).mp ht
    rw [if_pos ht'] at hQ
    obtain ⟨i, hi, rfl⟩ := thing_nI g ((Bool.and_eq_true _ _).mp ht').1
    have hin : q_in (nI i) 10 = true := q_in_nI (by omega) (by omega)
    have ec : (nI i).toNatClampNeg = i := nI_clamp (by omega)
    have e5 : M 36 i = H 5 i := r.1 5 i (by omega) (by omega) (by omega)
    have e6 : M 37 i = H 6 i := r.1 6 i (by omega) (by omega) (by omega)
    rw [s_put_nI (by omega) (by omega), s_put_nI (by omega) (by omega)] at hQ
    unfold s_turnV at hQ
    rw [s_get_nI (by omega) (by omega), s_get_nI (by omega) (by omega), noPart_in] at hQ
    simp only [gM_need_0, gM_need_1, gM_need_2, gM_need_3, gM_need_6, gM_need_9, gM_need_10, gM_need_11, gM_need_14, gM_need_15, gM_need_16, gM_need_17, gM_need_18, gM_need_21, gM_need_24, gM_need_25, gM_need_27, gM_need_30, gM_need_31, gM_need_32, gM_need_35, gM_need_36, gM_need_39, gM_need_40, gM_need_41, gM_need_42, gM_need_43, gM_need_44, gM_need_45, gM_need_46, gM_need_47, gM_need_50, gM_need_51, gM_need_54, gM_need_55, gM_need_56, gM_need_57, gM_need_58, gM_need_59, gM_need_60, gM_need_61, gM_need_62, gM_need_63, gM_need_66, gM_need_67, gM_need_70, gM_need_71, gM_need_72, gM_need_75, gM_need_76, gM_need_79, gM_need_80, gM_need_81, gM_need_82, gM_need_83, gM_need_84, gM_need_85, ↓reduceIte, Bool.false_eq_true, Bool.true_eq_false, qk_i, qk_r, qk_n, Option.toList_some, Option.toList_none, List.cons_append, List.nil_append, true_and, and_true, true_or, or_true, eq_self, if_true, if_false, q_b1, q_b2, c_A, c_R, c_O, c_M, c_H1, c_H8, c_H15, x_M_isIn, q_z0, x_M_no no_2, rf_M5, rf_M6, aD_36, aD_37, hin, ec, q_put_at, e5, e6]
    cases h4 : b_in c 0 1
    · simp only [h4, Bool.not_false, if_true] at hQ
      simp only [if_true, not_true, if_false]
      exact hQ _ eqv_no r.no
    · by_cases h5 : c = 0
      · simp only [h4, h5, Bool.not_true, Bool.false_eq_true, if_false, if_true] at hQ
        simp only [h5, Bool.true_eq_false, if_true, if_false, not_true, not_false_eq_true]
        exact hQ _ (eqf.rf.cell (by decide) (by decide)) (r.q (k := 5) (by omega) (by omega))
      · simp only [h4, h5, Bool.not_true, Bool.false_eq_true, if_false, if_true] at hQ
        simp only [h5, Bool.true_eq_false, if_true, if_false, not_true, not_false_eq_true]
        exact hQ _ (eqf.rf.cell (by decide) (by decide)) (r.q (k := 6) (by omega) (by omega))
  · rename_i ht
    rw [if_neg (fun q => ht (by rw [q]; decide))] at hQ
    exact hQ _ eqv_no r.no
end MV
