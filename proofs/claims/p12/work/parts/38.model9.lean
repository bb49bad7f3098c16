/-! the reference: house() -/
def Sr (c : Nat) : Bool := decide (31 ≤ c) && decide (c ≤ 42)
def Gr (f : Nat) : Bool := (decide (7 ≤ f) && decide (f ≤ 9)) || ((decide (14 ≤ f) && decide (f ≤ 16)) || (decide (19 ≤ f) && decide (f ≤ 20)))
/-- .. and what is kept at 0 stays -/
def Hr (M M' : q_M) : Prop := eqf Sr Gr M M' ∧ ∀ i, i < 65 → M' 42 i = M 42 i
theorem Hr.rf {M : q_M} : Hr M M := ⟨eqf.rf, fun _ _ => rfl⟩
theorem Hr.tr {M M1 M2 : q_M} (h1 : Hr M M1) (h2 : Hr M1 M2) : Hr M M2 := ⟨h1.1.tr h2.1, fun i hi => (h2.2 i hi).trans (h1.2 i hi)⟩
theorem Hr.of {S F : Nat → Bool} {M M' : q_M} (e : eqf S F M M') (hS : ∀ c, Sr c = false → S c = false) (hF : ∀ c, Gr c = false → F c = false) (h42 : S 42 = false) : Hr M M' := ⟨e.up hS hF, fun i _ => by rw [e.1 42 (by decide) h42]⟩
theorem Sp_Sr : ∀ c, Sr c = false → Sp c = false := by
  intro c h
  unfold Sr at h
  unfold Sp
  simp at h ⊢
  omega
theorem Gp_Gr : ∀ c, Gr c = false → Gp c = false := by
  intro c h
  unfold Gr at h
  unfold Gp
  simp at h ⊢
  omega
theorem Sv_Sr : ∀ c, Sr c = false → Sv c = false := by
  intro c h
  unfold Sr at h
  unfold Sv
  simp at h ⊢
  omega
theorem Gv_Gr : ∀ c, Gr c = false → Gv c = false := by
  intro c h
  unfold Gr at h
  unfold Gv
  simp at h ⊢
  omega
theorem Hr.pr {M M' : q_M} (h : Pr M M') : Hr M M' := Hr.of h Sp_Sr Gp_Gr (by decide)
theorem Hr.v {M M' : q_M} (h : eqf Sv Gv M M') : Hr M M' := Hr.of h Sv_Sr Gv_Gr (by decide)
theorem Hr.f {M M1 : q_M} {j : Nat} {v : Int32} (h : Hr M M1) (hj : Gr j = true) : Hr M (q_put M1 30 j v) := ⟨h.1.fld hj, fun i hi => by rw [q_put_ne (by decide)]; exact h.2 i hi⟩
theorem Hr.kA {M M1 : q_M} (h : Hr M M1) : Hr M (s_kA M1 65) := by
  refine ⟨⟨fun c a b => ?_, fun f a => ?_⟩, fun i hi => ?_⟩
  · rw [kA_cell a (fun e => by rw [e] at b; exact absurd b (by decide))]
    exact h.1.1 c a b
  · rw [kA_f (fun e => by rw [e] at a; exact absurd a (by decide)) (fun e => by rw [e] at a; exact absurd a (by decide))]
    exact h.1.2 f a
  · rw [kA_out (by omega)]
    exact h.2 i hi
theorem Hr.rA {M M1 : q_M} (h : Hr M M1) : Hr M (s_rA M1 65) := by
  refine ⟨⟨fun c a b => ?_, fun f a => ?_⟩, fun i hi => ?_⟩
  · rw [rA_cell a (by unfold Sr at b; simp at b; omega)]
    exact h.1.1 c a b
  · rw [rA_f (fun e => by rw [e] at a; exact absurd a (by decide)) (fun e => by rw [e] at a; exact absurd a (by decide)) (fun e => by rw [e] at a; exact absurd a (by decide)) (fun e => by rw [e] at a; exact absurd a (by decide)) (fun e => by rw [e] at a; exact absurd a (by decide))]
    exact h.1.2 f a
  · rw [rA_cell (by decide) (by decide)]
    exact h.2 i hi
theorem v_M.pr {M M' : q_M} (v : v_M M) (e : Pr M M') : v_M M' := by
  obtain ⟨n, h, v⟩ := v
  exact ⟨n, h, v.of (e.2 7 (by decide)) (e.2 8 (by decide)) (e.1 34 (by decide) (by decide))⟩
theorem v_M.f {M : q_M} {j : Nat} {x : Int32} (v : v_M M) (h7 : (7 : Nat) ≠ j) (h8 : (8 : Nat) ≠ j) : v_M (q_put M 30 j x) := by
  obtain ⟨n, h, v⟩ := v
  exact ⟨n, h, v.of (by rw [q_put_at, if_neg h7]) (by rw [q_put_at, if_neg h8]) (q_put_ne (by decide))⟩
section MH2
variable {Q : q_R}
theorem w_M_h2 {M0 : q_M} {s : Nat} {g : Int32} (hs : s ≤ 47) (hQ : ∀ (x : Int32) M', Hr M0 M' → v_M M' → M' 30 14 = 0 → Q (some (.int x)) M') : ∀ m j, j + m = s → ∀ M : q_M, Hr M0 M → v_M M → v_k M 65 → M 30 14 = 0 → M 30 16 = nI s →
    q_g 111 none Q 86 [some (.ref 30), some (.int g), some (.int (nI j))] [] M := by
  intro m
  induction m with
  | zero =>
    intro j hj M hM hv hk h14 h16
    have : j = s := by omega
    subst this
    rw [gM_house_86]
    simp only [gM_house_0, gM_house_1, gM_house_2, gM_house_5, gM_house_6, gM_house_7, gM_house_10, gM_house_11, gM_house_12, gM_house_13, gM_house_16, gM_house_17, gM_house_20, gM_house_21, gM_house_24, gM_house_27, gM_house_28, gM_house_31, gM_house_34, gM_house_35, gM_house_38, gM_house_39, gM_house_40, gM_house_41, gM_house_44, gM_house_45, gM_house_48, gM_house_49, gM_house_52, gM_house_53, gM_house_54, gM_house_57, gM_house_60, gM_house_61, gM_house_62, gM_house_65, gM_house_66, gM_house_69, gM_house_72, gM_house_73, gM_house_76, gM_house_77, gM_house_78, gM_house_79, gM_house_80, gM_house_81, gM_house_84, gM_house_85, gM_house_87, gM_house_88, gM_house_91, gM_house_94, gM_house_95, gM_house_96, gM_house_99, gM_house_102, gM_house_105, gM_house_106, gM_house_107, gM_house_108, gM_house_111, gM_house_114, gM_house_115, gM_house_118, gM_house_119, gM_house_120, gM_house_121, gM_house_122, gM_house_125, gM_house_128, gM_house_129, gM_house_132, ↓reduceIte, Bool.false_eq_true, Bool.true_eq_false, qk_i, qk_r, qk_n, Option.toList_some, Option.toList_none, List.cons_append, List.nil_append, true_and, and_true, true_or, or_true, eq_self, if_true, if_false, q_b1, q_b2, c_A, c_R, c_O, c_M, c_H1, c_H8, c_H15, h16, Int32.le_refl]
    exact hQ _ _ hM hv h14
  | succ m ih =>
    intro j hj M hM hv hk h14 h16
    have h1 : ¬ nI s ≤ nI j := nI_ge (by omega) (by omega)
    have hin : q_in (nI j) 48 = true := q_in_nI (by omega) (by omega)
    have n1z : ((1 : Int32) = 0) = False := by decide
    rw [gM_house_86]
    simp only [gM_house_0, gM_house_1, gM_house_2, gM_house_5, gM_house_6, gM_house_7, gM_house_10, gM_house_11, gM_house_12, gM_house_13, gM_house_16, gM_house_17, gM_house_20, gM_house_21, gM_house_24, gM_house_27, gM_house_28, gM_house_31, gM_house_34, gM_house_35, gM_house_38, gM_house_39, gM_house_40, gM_house_41, gM_house_44, gM_house_45, gM_house_48, gM_house_49, gM_house_52, gM_house_53, gM_house_54, gM_house_57, gM_house_60, gM_house_61, gM_house_62, gM_house_65, gM_house_66, gM_house_69, gM_house_72, gM_house_73, gM_house_76, gM_house_77, gM_house_78, gM_house_79, gM_house_80, gM_house_81, gM_house_84, gM_house_85, gM_house_87, gM_house_88, gM_house_91, gM_house_94, gM_house_95, gM_house_96, gM_house_99, gM_house_102, gM_house_105, gM_house_106, gM_house_107, gM_house_108, gM_house_111, gM_house_114, gM_house_115, gM_house_118, gM_house_119, gM_house_120, gM_house_121, gM_house_122, gM_house_125, gM_house_128, gM_house_129, gM_house_132, ↓reduceIte, Bool.false_eq_true, Bool.true_eq_false, qk_i, qk_r, qk_n, Option.toList_some, Option.toList_none, List.cons_append, List.nil_append, true_and, and_true, true_or, or_true, eq_self, if_true, if_false, q_b1, q_b2, c_A, c_R, c_O, c_M, c_H1, c_H8, c_H15, h16, h1]
    refine w_M_comes hv (by omega) ?_ fun M' hM' hv' => ?_
    · simp only [gM_house_0, gM_house_1, gM_house_2, gM_house_5, gM_house_6, gM_house_7, gM_house_10, gM_house_11, gM_house_12, gM_house_13, gM_house_16, gM_house_17, gM_house_20, gM_house_21, gM_house_24, gM_house_27, gM_house_28, gM_house_31, gM_house_34, gM_house_35, gM_house_38, gM_house_39, gM_house_40, gM_house_41, gM_house_44, gM_house_45, gM_house_48, gM_house_49, gM_house_52, gM_house_53, gM_house_54, gM_house_57, gM_house_60, gM_house_61, gM_house_62, gM_house_65, gM_house_66, gM_house_69, gM_house_72, gM_house_73, gM_house_76, gM_house_77, gM_house_78, gM_house_79, gM_house_80, gM_house_81, gM_house_84, gM_house_85, gM_house_87, gM_house_88, gM_house_91, gM_house_94, gM_house_95, gM_house_96, gM_house_99, gM_house_102, gM_house_105, gM_house_106, gM_house_107, gM_house_108, gM_house_111, gM_house_114, gM_house_115, gM_house_118, gM_house_119, gM_house_120, gM_house_121, gM_house_122, gM_house_125, gM_house_128, gM_house_129, gM_house_132, ↓reduceIte, Bool.false_eq_true, Bool.true_eq_false, qk_i, qk_r, qk_n, Option.toList_some, Option.toList_none, List.cons_append, List.nil_append, true_and, and_true, true_or, or_true, eq_self, if_true, if_false, q_b1, q_b2, c_A, c_R, c_O, c_M, c_H1, c_H8, c_H15]
      rw [x_M_passesAll_r w65_1 (by omega)]
      simp only [gM_house_0, gM_house_1, gM_house_2, gM_house_5, gM_house_6, gM_house_7, gM_house_10, gM_house_11, gM_house_12, gM_house_13, gM_house_16, gM_house_17, gM_house_20, gM_house_21, gM_house_24, gM_house_27, gM_house_28, gM_house_31, gM_house_34, gM_house_35, gM_house_38, gM_house_39, gM_house_40, gM_house_41, gM_house_44, gM_house_45, gM_house_48, gM_house_49, gM_house_52, gM_house_53, gM_house_54, gM_house_57, gM_house_60, gM_house_61, gM_house_62, gM_house_65, gM_house_66, gM_house_69, gM_house_72, gM_house_73, gM_house_76, gM_house_77, gM_house_78, gM_house_79, gM_house_80, gM_house_81, gM_house_84, gM_house_85, gM_house_87, gM_house_88, gM_house_91, gM_house_94, gM_house_95, gM_house_96, gM_house_99, gM_house_102, gM_house_105, gM_house_106, gM_house_107, gM_house_108, gM_house_111, gM_house_114, gM_house_115, gM_house_118, gM_house_119, gM_house_120, gM_house_121, gM_house_122, gM_house_125, gM_house_128, gM_house_129, gM_house_132, ↓reduceIte, Bool.false_eq_true, Bool.true_eq_false, qk_i, qk_r, qk_n, Option.toList_some, Option.toList_none, List.cons_append, List.nil_append, true_and, and_true, true_or, or_true, eq_self, if_true, if_false, q_b1, q_b2, c_A, c_R, c_O, c_M, c_H1, c_H8, c_H15, rf_M12, aD_40, hin]
      exact hQ _ _ hM.rA (rA_v hk) (by rw [rA_f (by decide) (by decide) (by decide) (by decide) (by decide)]; exact h14)
    · simp only [gM_house_0, gM_house_1, gM_house_2, gM_house_5, gM_house_6, gM_house_7, gM_house_10, gM_house_11, gM_house_12, gM_house_13, gM_house_16, gM_house_17, gM_house_20, gM_house_21, gM_house_24, gM_house_27, gM_house_28, gM_house_31, gM_house_34, gM_house_35, gM_house_38, gM_house_39, gM_house_40, gM_house_41, gM_house_44, gM_house_45, gM_house_48, gM_house_49, gM_house_52, gM_house_53, gM_house_54, gM_house_57, gM_house_60, gM_house_61, gM_house_62, gM_house_65, gM_house_66, gM_house_69, gM_house_72, gM_house_73, gM_house_76, gM_house_77, gM_house_78, gM_house_79, gM_house_80, gM_house_81, gM_house_84, gM_house_85, gM_house_87, gM_house_88, gM_house_91, gM_house_94, gM_house_95, gM_house_96, gM_house_99, gM_house_102, gM_house_105, gM_house_106, gM_house_107, gM_house_108, gM_house_111, gM_house_114, gM_house_115, gM_house_118, gM_house_119, gM_house_120, gM_house_121, gM_house_122, gM_house_125, gM_house_128, gM_house_129, gM_house_132, ↓reduceIte, Bool.false_eq_true, Bool.true_eq_false, qk_i, qk_r, qk_n, Option.toList_some, Option.toList_none, List.cons_append, List.nil_append, true_and, and_true, true_or, or_true, eq_self, if_true, if_false, q_b1, q_b2, c_A, c_R, c_O, c_M, c_H1, c_H8, c_H15, n1z, nI_1]
      exact ih (j + 1) (by omega) M' (hM.tr (Hr.v hM')) hv' (hk.of (fun i _ _ => by rw [hM'.1 42 (by decide) (by decide)])) (by rw [hM'.2 14 (by decide)]; exact h14) (by rw [hM'.2 16 (by decide)]; exact h16)
theorem w_M_h60 {M0 M : q_M} {s : Nat} {g : Int32} {o2 : Option Value} (hs : s ≤ 47) (hM : Hr M0 M) (hv : v_M M) (h16 : M 30 16 = nI s) (hQ : ∀ (x : Int32) M', Hr M0 M' → v_M M' → M' 30 14 = 0 → Q (some (.int x)) M') :
    q_g 111 none Q 60 [some (.ref 30), some (.int g), o2] [] M := by
  have hM1 : Hr M0 (q_put M 30 14 0) := hM.f (by decide)
  have hv1 : v_M (q_put M 30 14 0) := hv.f (by decide) (by decide)
  have h14 : q_put M 30 14 0 30 14 = 0 := by rw [q_put_at, if_pos rfl]
  simp only [gM_house_0, gM_house_1, gM_house_2, gM_house_5, gM_house_6, gM_house_7, gM_house_10, gM_house_11, gM_house_12, gM_house_13, gM_house_16, gM_house_17, gM_house_20, gM_house_21, gM_house_24, gM_house_27, gM_house_28, gM_house_31, gM_house_34, gM_house_35, gM_house_38, gM_house_39, gM_house_40, gM_house_41, gM_house_44, gM_house_45, gM_house_48, gM_house_49, gM_house_52, gM_house_53, gM_house_54, gM_house_57, gM_house_60, gM_house_61, gM_house_62, gM_house_65, gM_house_66, gM_house_69, gM_house_72, gM_house_73, gM_house_76, gM_house_77, gM_house_78, gM_house_79, gM_house_80, gM_house_81, gM_house_84, gM_house_85, gM_house_87, gM_house_88, gM_house_91, gM_house_94, gM_house_95, gM_house_96, gM_house_99, gM_house_102, gM_house_105, gM_house_106, gM_house_107, gM_house_108, gM_house_111, gM_house_114, gM_house_115, gM_house_118, gM_house_119, gM_house_120, gM_house_121, gM_house_122, gM_house_125, gM_house_128, gM_house_129, gM_house_132, ↓reduceIte, Bool.false_eq_true, Bool.true_eq_false, qk_i, qk_r, qk_n, Option.toList_some, Option.toList_none, List.cons_append, List.nil_append, true_and, and_true, true_or, or_true, eq_self, if_true, if_false, q_b1, q_b2, c_A, c_R, c_O, c_M, c_H1, c_H8, c_H15]
  split
  · rw [x_M_passesAll_k w65_1 (by omega)]
    simp only [gM_house_0, gM_house_1, gM_house_2, gM_house_5, gM_house_6, gM_house_7, gM_house_10, gM_house_11, gM_house_12, gM_house_13, gM_house_16, gM_house_17, gM_house_20, gM_house_21, gM_house_24, gM_house_27, gM_house_28, gM_house_31, gM_house_34, gM_house_35, gM_house_38, gM_house_39, gM_house_40, gM_house_41, gM_house_44, gM_house_45, gM_house_48, gM_house_49, gM_house_52, gM_house_53, gM_house_54, gM_house_57, gM_house_60, gM_house_61, gM_house_62, gM_house_65, gM_house_66, gM_house_69, gM_house_72, gM_house_73, gM_house_76, gM_house_77, gM_house_78, gM_house_79, gM_house_80, gM_house_81, gM_house_84, gM_house_85, gM_house_87, gM_house_88, gM_house_91, gM_house_94, gM_house_95, gM_house_96, gM_house_99, gM_house_102, gM_house_105, gM_house_106, gM_house_107, gM_house_108, gM_house_111, gM_house_114, gM_house_115, gM_house_118, gM_house_119, gM_house_120, gM_house_121, gM_house_122, gM_house_125, gM_house_128, gM_house_129, gM_house_132, ↓reduceIte, Bool.false_eq_true, Bool.true_eq_false, qk_i, qk_r, qk_n, Option.toList_some, Option.toList_none, List.cons_append, List.nil_append, true_and, and_true, true_or, or_true, eq_self, if_true, if_false, q_b1, q_b2, c_A, c_R, c_O, c_M, c_H1, c_H8, c_H15]
    refine w_M_h2 hs hQ s 0 (by omega) _ hM1.kA (kA_vM hv1) (kA_v hv1) (by rw [kA_f (by decide) (by decide)]; exact h14) ?_
    rw [kA_f (by decide) (by decide), q_put_at, if_neg (by decide)]
    exact h16
  · exact hQ _ _ hM1 hv1 h14
theorem w_M_h1 {M0 : q_M} {k : Nat} (hQ : ∀ (x : Int32) M', Hr M0 M' → v_M M' → M' 30 14 = 0 → Q (some (.int x)) M') : ∀ m (a s : Nat) (M : q_M) (g : Int32) (o2 : Option Value), k - a ≤ m → (g = 0 ∨ g = 1) → p_at M a k → M 30 16 = nI s → 3 * s ≤ a → Hr M0 M → v_M M →
    q_g 111 none Q 12 [some (.ref 30), some (.int g), o2] [] M := by
  have n1z : ((1 : Int32) = 0) = False := by decide
  intro m
  induction m with
  | zero =>
    intro a s M g o2 hm hg hp h16 hsa hM hv
    have hak := hp.2.2.1
    have hk := hp.2.2.2
    rw [gM_house_12]
    rcases hg with rfl | rfl
    · simp only [gM_house_0, gM_house_1, gM_house_2, gM_house_5, gM_house_6, gM_house_7, gM_house_10, gM_house_11, gM_house_13, gM_house_16, gM_house_17, gM_house_20, gM_house_21, gM_house_24, gM_house_27, gM_house_28, gM_house_31, gM_house_34, gM_house_35, gM_house_38, gM_house_39, gM_house_40, gM_house_41, gM_house_44, gM_house_45, gM_house_48, gM_house_49, gM_house_52, gM_house_53, gM_house_54, gM_house_57, gM_house_61, gM_house_62, gM_house_65, gM_house_66, gM_house_69, gM_house_72, gM_house_73, gM_house_76, gM_house_77, gM_house_78, gM_house_79, gM_house_80, gM_house_81, gM_house_84, gM_house_85, gM_house_86, gM_house_87, gM_house_88, gM_house_91, gM_house_94, gM_house_95, gM_house_96, gM_house_99, gM_house_102, gM_house_105, gM_house_106, gM_house_107, gM_house_108, gM_house_111, gM_house_114, gM_house_115, gM_house_118, gM_house_119, gM_house_120, gM_house_121, gM_house_122, gM_house_125, gM_house_128, gM_house_129, gM_house_132, ↓reduceIte, Bool.false_eq_true, Bool.true_eq_false, qk_i, qk_r, qk_n, Option.toList_some, Option.toList_none, List.cons_append, List.nil_append, true_and, and_true, true_or, or_true, eq_self, if_true, if_false, q_b1, q_b2, c_A, c_R, c_O, c_M, c_H1, c_H8, c_H15]
      exact w_M_h60 (by omega) hM hv h16 hQ
    · have hlt : ¬ nI a < nI k := nI_nlt (by omega) (by omega)
      simp only [gM_house_0, gM_house_1, gM_house_2, gM_house_5, gM_house_6, gM_house_7, gM_house_10, gM_house_11, gM_house_13, gM_house_16, gM_house_17, gM_house_20, gM_house_21, gM_house_24, gM_house_27, gM_house_28, gM_house_31, gM_house_34, gM_house_35, gM_house_38, gM_house_39, gM_house_40, gM_house_41, gM_house_44, gM_house_45, gM_house_48, gM_house_49, gM_house_52, gM_house_53, gM_house_54, gM_house_57, gM_house_61, gM_house_62, gM_house_65, gM_house_66, gM_house_69, gM_house_72, gM_house_73, gM_house_76, gM_house_77, gM_house_78, gM_house_79, gM_house_80, gM_house_81, gM_house_84, gM_house_85, gM_house_86, gM_house_87, gM_house_88, gM_house_91, gM_house_94, gM_house_95, gM_house_96, gM_house_99, gM_house_102, gM_house_105, gM_house_106, gM_house_107, gM_house_108, gM_house_111, gM_house_114, gM_house_115, gM_house_118, gM_house_119, gM_house_120, gM_house_121, gM_house_122, gM_house_125, gM_house_128, gM_house_129, gM_house_132, ↓reduceIte, Bool.false_eq_true, Bool.true_eq_false, qk_i, qk_r, qk_n, Option.toList_some, Option.toList_none, List.cons_append, List.nil_append, true_and, and_true, true_or, or_true, eq_self, if_true, if_false, q_b1, q_b2, c_A, c_R, c_O, c_M, c_H1, c_H8, c_H15, n1z, hp.1, hp.2.1, hlt, h16]
      split
      · exact w_M_h60 (by omega) hM hv h16 hQ
      · refine w_M_statement hp h16 (by omega) (fun M' a' hM' hp' => ?_) (fun M' a' hM' hp' hlt' => ?_)
        · have h16' : M' 30 16 = nI s := by rw [hM'.2 16 (by decide)]; exact h16
          simp only [gM_house_0, gM_house_1, gM_house_2, gM_house_5, gM_house_6, gM_house_7, gM_house_10, gM_house_11, gM_house_13, gM_house_16, gM_house_17, gM_house_20, gM_house_21, gM_house_24, gM_house_27, gM_house_28, gM_house_31, gM_house_34, gM_house_35, gM_house_38, gM_house_39, gM_house_40, gM_house_41, gM_house_44, gM_house_45, gM_house_48, gM_house_49, gM_house_52, gM_house_53, gM_house_54, gM_house_57, gM_house_61, gM_house_62, gM_house_65, gM_house_66, gM_house_69, gM_house_72, gM_house_73, gM_house_76, gM_house_77, gM_house_78, gM_house_79, gM_house_80, gM_house_81, gM_house_84, gM_house_85, gM_house_86, gM_house_87, gM_house_88, gM_house_91, gM_house_94, gM_house_95, gM_house_96, gM_house_99, gM_house_102, gM_house_105, gM_house_106, gM_house_107, gM_house_108, gM_house_111, gM_house_114, gM_house_115, gM_house_118, gM_house_119, gM_house_120, gM_house_121, gM_house_122, gM_house_125, gM_house_128, gM_house_129, gM_house_132, ↓reduceIte, Bool.false_eq_true, Bool.true_eq_false, qk_i, qk_r, qk_n, Option.toList_some, Option.toList_none, List.cons_append, List.nil_append, true_and, and_true, true_or, or_true, eq_self, if_true, if_false, q_b1, q_b2, c_A, c_R, c_O, c_M, c_H1, c_H8, c_H15, h16']
          rw [gM_house_12]
          simp only [gM_house_0, gM_house_1, gM_house_2, gM_house_5, gM_house_6, gM_house_7, gM_house_10, gM_house_11, gM_house_13, gM_house_16, gM_house_17, gM_house_20, gM_house_21, gM_house_24, gM_house_27, gM_house_28, gM_house_31, gM_house_34, gM_house_35, gM_house_38, gM_house_39, gM_house_40, gM_house_41, gM_house_44, gM_house_45, gM_house_48, gM_house_49, gM_house_52, gM_house_53, gM_house_54, gM_house_57, gM_house_61, gM_house_62, gM_house_65, gM_house_66, gM_house_69, gM_house_72, gM_house_73, gM_house_76, gM_house_77, gM_house_78, gM_house_79, gM_house_80, gM_house_81, gM_house_84, gM_house_85, gM_house_86, gM_house_87, gM_house_88, gM_house_91, gM_house_94, gM_house_95, gM_house_96, gM_house_99, gM_house_102, gM_house_105, gM_house_106, gM_house_107, gM_house_108, gM_house_111, gM_house_114, gM_house_115, gM_house_118, gM_house_119, gM_house_120, gM_house_121, gM_house_122, gM_house_125, gM_house_128, gM_house_129, gM_house_132, ↓reduceIte, Bool.false_eq_true, Bool.true_eq_false, qk_i, qk_r, qk_n, Option.toList_some, Option.toList_none, List.cons_append, List.nil_append, true_and, and_true, true_or, or_true, eq_self, if_true, if_false, q_b1, q_b2, c_A, c_R, c_O, c_M, c_H1, c_H8, c_H15]
          refine w_M_h60 (s := s) (by omega) ((hM.tr (Hr.pr hM')).f (by decide)) ((hv.pr hM').f (by decide) (by decide)) ?_ hQ
          rw [q_put_at, if_pos rfl, ← nI_0, nI_add, Nat.add_zero]
        · have := hp'.2.2.1
          omega
  | succ m ih =>
    intro a s M g o2 hm hg hp h16 hsa hM hv
    have hak := hp.2.2.1
    have hk := hp.2.2.2
    have est : s ≤ 31 → q_g 111 none Q 34 [some (.ref 30), some (.int 1), o2] [] M := by
      intro hs31
      simp only [gM_house_0, gM_house_1, gM_house_2, gM_house_5, gM_house_6, gM_house_7, gM_house_10, gM_house_11, gM_house_13, gM_house_16, gM_house_17, gM_house_20, gM_house_21, gM_house_24, gM_house_27, gM_house_28, gM_house_31, gM_house_34, gM_house_35, gM_house_38, gM_house_39, gM_house_40, gM_house_41, gM_house_44, gM_house_45, gM_house_48, gM_house_49, gM_house_52, gM_house_53, gM_house_54, gM_house_57, gM_house_61, gM_house_62, gM_house_65, gM_house_66, gM_house_69, gM_house_72, gM_house_73, gM_house_76, gM_house_77, gM_house_78, gM_house_79, gM_house_80, gM_house_81, gM_house_84, gM_house_85, gM_house_86, gM_house_87, gM_house_88, gM_house_91, gM_house_94, gM_house_95, gM_house_96, gM_house_99, gM_house_102, gM_house_105, gM_house_106, gM_house_107, gM_house_108, gM_house_111, gM_house_114, gM_house_115, gM_house_118, gM_house_119, gM_house_120, gM_house_121, gM_house_122, gM_house_125, gM_house_128, gM_house_129, gM_house_132, ↓reduceIte, Bool.false_eq_true, Bool.true_eq_false, qk_i, qk_r, qk_n, Option.toList_some, Option.toList_none, List.cons_append, List.nil_append, true_and, and_true, true_or, or_true, eq_self, if_true, if_false, q_b1, q_b2, c_A, c_R, c_O, c_M, c_H1, c_H8, c_H15]
      refine w_M_statement hp h16 (by omega) (fun M' a' hM' hp' => ?_) (fun M' a' hM' hp' hlt' => ?_)
      · have h16' : M' 30 16 = nI s := by rw [hM'.2 16 (by decide)]; exact h16
        simp only [gM_house_0, gM_house_1, gM_house_2, gM_house_5, gM_house_6, gM_house_7, gM_house_10, gM_house_11, gM_house_13, gM_house_16, gM_house_17, gM_house_20, gM_house_21, gM_house_24, gM_house_27, gM_house_28, gM_house_31, gM_house_34, gM_house_35, gM_house_38, gM_house_39, gM_house_40, gM_house_41, gM_house_44, gM_house_45, gM_house_48, gM_house_49, gM_house_52, gM_house_53, gM_house_54, gM_house_57, gM_house_61, gM_house_62, gM_house_65, gM_house_66, gM_house_69, gM_house_72, gM_house_73, gM_house_76, gM_house_77, gM_house_78, gM_house_79, gM_house_80, gM_house_81, gM_house_84, gM_house_85, gM_house_86, gM_house_87, gM_house_88, gM_house_91, gM_house_94, gM_house_95, gM_house_96, gM_house_99, gM_house_102, gM_house_105, gM_house_106, gM_house_107, gM_house_108, gM_house_111, gM_house_114, gM_house_115, gM_house_118, gM_house_119, gM_house_120, gM_house_121, gM_house_122, gM_house_125, gM_house_128, gM_house_129, gM_house_132, ↓reduceIte, Bool.false_eq_true, Bool.true_eq_false, qk_i, qk_r, qk_n, Option.toList_some, Option.toList_none, List.cons_append, List.nil_append, true_and, and_true, true_or, or_true, eq_self, if_true, if_false, q_b1, q_b2, c_A, c_R, c_O, c_M, c_H1, c_H8, c_H15, h16']
        rw [gM_house_12]
        simp only [gM_house_0, gM_house_1, gM_house_2, gM_house_5, gM_house_6, gM_house_7, gM_house_10, gM_house_11, gM_house_13, gM_house_16, gM_house_17, gM_house_20, gM_house_21, gM_house_24, gM_house_27, gM_house_28, gM_house_31, gM_house_34, gM_house_35, gM_house_38, gM_house_39, gM_house_40, gM_house_41, gM_house_44, gM_house_45, gM_house_48, gM_house_49, gM_house_52, gM_house_53, gM_house_54, gM_house_57, gM_house_61, gM_house_62, gM_house_65, gM_house_66, gM_house_69, gM_house_72, gM_house_73, gM_house_76, gM_house_77, gM_house_78, gM_house_79, gM_house_80, gM_house_81, gM_house_84, gM_house_85, gM_house_86, gM_house_87, gM_house_88, gM_house_91, gM_house_94, gM_house_95, gM_house_96, gM_house_99, gM_house_102, gM_house_105, gM_house_106, gM_house_107, gM_house_108, gM_house_111, gM_house_114, gM_house_115, gM_house_118, gM_house_119, gM_house_120, gM_house_121, gM_house_122, gM_house_125, gM_house_128, gM_house_129, gM_house_132, ↓reduceIte, Bool.false_eq_true, Bool.true_eq_false, qk_i, qk_r, qk_n, Option.toList_some, Option.toList_none, List.cons_append, List.nil_append, true_and, and_true, true_or, or_true, eq_self, if_true, if_false, q_b1, q_b2, c_A, c_R, c_O, c_M, c_H1, c_H8, c_H15]
        refine w_M_h60 (s := s) (by omega) ((hM.tr (Hr.pr hM')).f (by decide)) ((hv.pr hM').f (by decide) (by decide)) ?_ hQ
        rw [q_put_at, if_pos rfl, ← nI_0, nI_add, Nat.add_zero]
      · have h16' : M' 30 16 = nI s := by rw [hM'.2 16 (by decide)]; exact h16
        have hk' := hp'.2.2.1
        simp only [gM_house_0, gM_house_1, gM_house_2, gM_house_5, gM_house_6, gM_house_7, gM_house_10, gM_house_11, gM_house_13, gM_house_16, gM_house_17, gM_house_20, gM_house_21, gM_house_24, gM_house_27, gM_house_28, gM_house_31, gM_house_34, gM_house_35, gM_house_38, gM_house_39, gM_house_40, gM_house_41, gM_house_44, gM_house_45, gM_house_48, gM_house_49, gM_house_52, gM_house_53, gM_house_54, gM_house_57, gM_house_61, gM_house_62, gM_house_65, gM_house_66, gM_house_69, gM_house_72, gM_house_73, gM_house_76, gM_house_77, gM_house_78, gM_house_79, gM_house_80, gM_house_81, gM_house_84, gM_house_85, gM_house_86, gM_house_87, gM_house_88, gM_house_91, gM_house_94, gM_house_95, gM_house_96, gM_house_99, gM_house_102, gM_house_105, gM_house_106, gM_house_107, gM_house_108, gM_house_111, gM_house_114, gM_house_115, gM_house_118, gM_house_119, gM_house_120, gM_house_121, gM_house_122, gM_house_125, gM_house_128, gM_house_129, gM_house_132, ↓reduceIte, Bool.false_eq_true, Bool.true_eq_false, qk_i, qk_r, qk_n, Option.toList_some, Option.toList_none, List.cons_append, List.nil_append, true_and, and_true, true_or, or_true, eq_self, if_true, if_false, q_b1, q_b2, c_A, c_R, c_O, c_M, c_H1, c_H8, c_H15, n1z, h16', nI_1]
        refine ih a' (s + 1) _ 1 o2 (by omega) (Or.inr rfl) (hp'.pr (by rw [q_put_at, if_neg (by decide)]) (by rw [q_put_at, if_neg (by decide)])) (by rw [q_put_at, if_pos rfl]) (by omega) ((hM.tr (Hr.pr hM')).f (by decide)) ((hv.pr hM').f (by decide) (by decide))
    rw [gM_house_12]
    rcases hg with rfl | rfl
    · simp only [gM_house_0, gM_house_1, gM_house_2, gM_house_5, gM_house_6, gM_house_7, gM_house_10, gM_house_11, gM_house_13, gM_house_16, gM_house_17, gM_house_20, gM_house_21, gM_house_24, gM_house_27, gM_house_28, gM_house_31, gM_house_34, gM_house_35, gM_house_38, gM_house_39, gM_house_40, gM_house_41, gM_house_44, gM_house_45, gM_house_48, gM_house_49, gM_house_52, gM_house_53, gM_house_54, gM_house_57, gM_house_61, gM_house_62, gM_house_65, gM_house_66, gM_house_69, gM_house_72, gM_house_73, gM_house_76, gM_house_77, gM_house_78, gM_house_79, gM_house_80, gM_house_81, gM_house_84, gM_house_85, gM_house_86, gM_house_87, gM_house_88, gM_house_91, gM_house_94, gM_house_95, gM_house_96, gM_house_99, gM_house_102, gM_house_105, gM_house_106, gM_house_107, gM_house_108, gM_house_111, gM_house_114, gM_house_115, gM_house_118, gM_house_119, gM_house_120, gM_house_121, gM_house_122, gM_house_125, gM_house_128, gM_house_129, gM_house_132, ↓reduceIte, Bool.false_eq_true, Bool.true_eq_false, qk_i, qk_r, qk_n, Option.toList_some, Option.toList_none, List.cons_append, List.nil_append, true_and, and_true, true_or, or_true, eq_self, if_true, if_false, q_b1, q_b2, c_A, c_R, c_O, c_M, c_H1, c_H8, c_H15]
      exact w_M_h60 (by omega) hM hv h16 hQ
    · simp only [gM_house_0, gM_house_1, gM_house_2, gM_house_5, gM_house_6, gM_house_7, gM_house_10, gM_house_11, gM_house_13, gM_house_16, gM_house_17, gM_house_20, gM_house_21, gM_house_24, gM_house_27, gM_house_28, gM_house_31, gM_house_35, gM_house_38, gM_house_39, gM_house_40, gM_house_41, gM_house_44, gM_house_45, gM_house_48, gM_house_49, gM_house_52, gM_house_53, gM_house_54, gM_house_57, gM_house_61, gM_house_62, gM_house_65, gM_house_66, gM_house_69, gM_house_72, gM_house_73, gM_house_76, gM_house_77, gM_house_78, gM_house_79, gM_house_80, gM_house_81, gM_house_84, gM_house_85, gM_house_86, gM_house_87, gM_house_88, gM_house_91, gM_house_94, gM_house_95, gM_house_96, gM_house_99, gM_house_102, gM_house_105, gM_house_106, gM_house_107, gM_house_108, gM_house_111, gM_house_114, gM_house_115, gM_house_118, gM_house_119, gM_house_120, gM_house_121, gM_house_122, gM_house_125, gM_house_128, gM_house_129, gM_house_132, ↓reduceIte, Bool.false_eq_true, Bool.true_eq_false, qk_i, qk_r, qk_n, Option.toList_some, Option.toList_none, List.cons_append, List.nil_append, true_and, and_true, true_or, or_true, eq_self, if_true, if_false, q_b1, q_b2, c_A, c_R, c_O, c_M, c_H1, c_H8, c_H15, n1z, hp.1, hp.2.1, h16]
      split
      · rename_i hlt
        have hlt2 : a < k := by
          rw [nI_ltI (by omega) (by omega)] at hlt
          exact hlt
        exact est (by omega)
      · split
        · exact w_M_h60 (by omega) hM hv h16 hQ
        · rename_i hs0
          have hs0' : s = 0 := by
            rcases Nat.eq_zero_or_pos s with q | q
            · exact q
            · exact absurd (nI_ne0 q (by omega)) hs0
          exact est (by omega)
theorem w_M_house {M : q_M} {k : Nat} (hk : k ≤ 96) (h14 : M 30 14 = nI k) (hv : v_M M) (hQ : ∀ (x : Int32) M', Hr M M' → v_M M' → M' 30 14 = 0 → Q (some (.int x)) M') : q_Run 111 [.ref 30] M Q := by
  have hM : Hr M (q_put (q_put M 30 15 0) 30 16 0) := (Hr.rf.f (by decide)).f (by decide)
  rw [e_M_house]
  simp only [gM_house_0, gM_house_1, gM_house_2, gM_house_5, gM_house_6, gM_house_7, gM_house_10, gM_house_11, gM_house_13, gM_house_16, gM_house_17, gM_house_20, gM_house_21, gM_house_24, gM_house_27, gM_house_28, gM_house_31, gM_house_34, gM_house_35, gM_house_38, gM_house_39, gM_house_40, gM_house_41, gM_house_44, gM_house_45, gM_house_48, gM_house_49, gM_house_52, gM_house_53, gM_house_54, gM_house_57, gM_house_60, gM_house_61, gM_house_62, gM_house_65, gM_house_66, gM_house_69, gM_house_72, gM_house_73, gM_house_76, gM_house_77, gM_house_78, gM_house_79, gM_house_80, gM_house_81, gM_house_84, gM_house_85, gM_house_86, gM_house_87, gM_house_88, gM_house_91, gM_house_94, gM_house_95, gM_house_96, gM_house_99, gM_house_102, gM_house_105, gM_house_106, gM_house_107, gM_house_108, gM_house_111, gM_house_114, gM_house_115, gM_house_118, gM_house_119, gM_house_120, gM_house_121, gM_house_122, gM_house_125, gM_house_128, gM_house_129, gM_house_132, ↓reduceIte, Bool.false_eq_true, Bool.true_eq_false, qk_i, qk_r, qk_n, Option.toList_some, Option.toList_none, List.cons_append, List.nil_append, true_and, and_true, true_or, or_true, eq_self, if_true, if_false, q_b1, q_b2, c_A, c_R, c_O, c_M, c_H1, c_H8, c_H15]
  refine w_M_h1 hQ k 0 0 _ 1 none (by omega) (Or.inr rfl) ⟨?_, ?_, by omega, hk⟩ ?_ (by omega) hM ((hv.f (by decide) (by decide)).f (by decide) (by decide))
  · rw [q_put_at, if_neg (by decide), q_put_at, if_pos rfl]
    exact nI_0.symm
  · rw [q_put_at, if_neg (by decide), q_put_at, if_neg (by decide)]
    exact h14
  · rw [q_put_at, if_pos rfl]
    exact nI_0.symm
end MH2
