section HN
variable {Q : q_R} {M M0 H : q_M} {f : p_T} {n m k : Nat}
/-- all STATEMENTS ahead of j are held -/
def mfs (f : p_T) (n : Nat) (M : q_M) (j : Nat) : Prop := ∀ i, i < j → mf M i (p_pos f n i) (st_b f n i) (st_x f n i) (st_y f n i) (st_z f n i)
theorem mf.of {M' : q_M} {s p : Nat} {b x y z : Int32} (h : mf M s p b x y z) (e39 : M' 39 s = M 39 s) (e40 : M' 40 s = M 40 s) (e41 : ∀ i, 3 * s ≤ i → i < 3 * s + 3 → M' 41 i = M 41 i) : mf M' s p b x y z := by
  unfold mf at h ⊢
  rw [e39, e40, e41 _ (by omega) (by omega), e41 _ (by omega) (by omega), e41 _ (by omega) (by omega)]
  exact h
theorem mfs.of {M' : q_M} {j : Nat} (h : mfs f n M j) (e39 : M' 39 = M 39) (e40 : M' 40 = M 40) (e41 : M' 41 = M 41) : mfs f n M' j := fun i hi => (h i hi).of (by rw [e39]) (by rw [e40]) (fun _ _ _ => by rw [e41])
theorem me_Hr {s : Nat} {M' : q_M} (e : me s M M') : Hr M M' := by
  refine ⟨⟨fun c a b => e.1 c a (fun q => by rw [q] at b; exact absurd b (by decide)) (fun q => by rw [q] at b; exact absurd b (by decide)) (fun q => by rw [q] at b; exact absurd b (by decide)), fun j a => e.2.1 j (fun q => by rw [q] at a; exact absurd a (by decide))⟩, fun i _ => by rw [e.1 42 (by decide) (by decide) (by decide) (by decide)]⟩
theorem RM.me {s : Nat} {M' : q_M} (r : RM M H) (e : me s M M') : RM M' H := r.of (fun c h1 h2 => e.1 c (by omega) (by omega) (by omega) (by omega)) (e.2.1 7 (by decide)) (e.2.1 8 (by decide)) (e.2.1 9 (by decide))
theorem RM.fld {j : Nat} {v : Int32} (r : RM M H) (h7 : (7 : Nat) ≠ j) (h8 : (8 : Nat) ≠ j) (h9 : (9 : Nat) ≠ j) : RM (q_put M 30 j v) H := r.of (fun c _ _ => q_put_ne (by omega)) (by rw [q_put_at, if_neg h7]) (by rw [q_put_at, if_neg h8]) (by rw [q_put_at, if_neg h9])
theorem st_m {j : Nat} (c : mr M f n (p_pos f n j)) (h16 : M 30 16 = nI j) (hs : j ≤ 47) (hQ : ∀ M', mr M' f n (p_pos f n (j + 1)) → me j M M' → (st_ok f n j = true → mf M' j (p_pos f n j) (st_b f n j) (st_x f n j) (st_y f n j) (st_z f n j)) → Q (some (.int (q_z (st_ok f n j)))) M') : q_Run 149 [.ref 30] M Q := m_st c h16 hs hQ
theorem m_h1 {s : Nat} (hs : s ≤ 32) (hok : ∀ i, i < s → st_ok f n i = true ∧ p_pos f n i < n)
    (hA : 1 ≤ s ∧ p_pos f n s = n ∧ (∀ (M : q_M) (o2 : Option Value), Hr M0 M → RM M H → M 30 16 = nI s → mfs f n M s → q_g 111 none Q 60 [some (.ref 30), some (.int 1), o2] [] M) ∨
      st_ok f n s = false ∧ (p_pos f n s < n ∨ s = 0 ∧ n = 0) ∧ (∀ (M : q_M) (o2 : Option Value), Hr M0 M → RM M H → M 30 15 = nI (p_pos f n (s + 1)) → q_g 111 none Q 60 [some (.ref 30), some (.int 0), o2] [] M)) :
    ∀ kk j, j + kk = s → ∀ (M : q_M) (o2 : Option Value), Hr M0 M → RM M H → mr M f n (p_pos f n j) → M 30 16 = nI j → mfs f n M j →
    q_g 111 none Q 12 [some (.ref 30), some (.int 1), o2] [] M := by
  intro kk
  induction kk with
  | zero =>
    intro j hj M o2 hM r c h16 hm
    have : j = s := by omega
    subst this
    have hn := c.2.2.2.1
    rw [gM_house_12]
    simp only [gM_house_0, gM_house_1, gM_house_2, gM_house_5, gM_house_6, gM_house_7, gM_house_10, gM_house_11, gM_house_13, gM_house_16, gM_house_17, gM_house_20, gM_house_21, gM_house_24, gM_house_27, gM_house_28, gM_house_31, gM_house_35, gM_house_38, gM_house_39, gM_house_40, gM_house_41, gM_house_44, gM_house_45, gM_house_48, gM_house_49, gM_house_52, gM_house_53, gM_house_54, gM_house_57, gM_house_61, gM_house_62, gM_house_65, gM_house_66, gM_house_69, gM_house_72, gM_house_73, gM_house_76, gM_house_77, gM_house_78, gM_house_79, gM_house_80, gM_house_81, gM_house_84, gM_house_85, gM_house_86, gM_house_87, gM_house_88, gM_house_91, gM_house_94, gM_house_95, gM_house_96, gM_house_99, gM_house_102, gM_house_105, gM_house_106, gM_house_107, gM_house_108, gM_house_111, gM_house_114, gM_house_115, gM_house_118, gM_house_119, gM_house_120, gM_house_121, gM_house_122, gM_house_125, gM_house_128, gM_house_129, gM_house_132, ↓reduceIte, Bool.false_eq_true, Bool.true_eq_false, qk_i, qk_r, qk_n, Option.toList_some, Option.toList_none, List.cons_append, List.nil_append, true_and, and_true, true_or, or_true, eq_self, if_true, if_false, q_b1, q_b2, c_A, c_R, c_O, c_M, c_H1, c_H8, c_H15, n1z', c.1, c.2.1, h16]
    rcases hA with ⟨h1, he, hq⟩ | ⟨ho, hp, hq⟩
    · have hj0 : ¬ nI j = 0 := nI_ne0 (by omega) (by omega)
      rw [he, if_neg (nI_nlt (Nat.le_refl _) (by omega)), if_pos hj0]
      exact hq _ _ hM r h16 hm
    · have e34 : q_g 111 none Q 34 [some (.ref 30), some (.int 1), o2] [] M := by
        simp only [gM_house_0, gM_house_1, gM_house_2, gM_house_5, gM_house_6, gM_house_7, gM_house_10, gM_house_11, gM_house_13, gM_house_16, gM_house_17, gM_house_20, gM_house_21, gM_house_24, gM_house_27, gM_house_28, gM_house_31, gM_house_34, gM_house_35, gM_house_38, gM_house_39, gM_house_40, gM_house_41, gM_house_44, gM_house_45, gM_house_48, gM_house_49, gM_house_52, gM_house_53, gM_house_54, gM_house_57, gM_house_61, gM_house_62, gM_house_65, gM_house_66, gM_house_69, gM_house_72, gM_house_73, gM_house_76, gM_house_77, gM_house_78, gM_house_79, gM_house_80, gM_house_81, gM_house_84, gM_house_85, gM_house_86, gM_house_87, gM_house_88, gM_house_91, gM_house_94, gM_house_95, gM_house_96, gM_house_99, gM_house_102, gM_house_105, gM_house_106, gM_house_107, gM_house_108, gM_house_111, gM_house_114, gM_house_115, gM_house_118, gM_house_119, gM_house_120, gM_house_121, gM_house_122, gM_house_125, gM_house_128, gM_house_129, gM_house_132, ↓reduceIte, Bool.false_eq_true, Bool.true_eq_false, qk_i, qk_r, qk_n, Option.toList_some, Option.toList_none, List.cons_append, List.nil_append, true_and, and_true, true_or, or_true, eq_self, if_true, if_false, q_b1, q_b2, c_A, c_R, c_O, c_M, c_H1, c_H8, c_H15]
        refine st_m c h16 (by omega) fun M' c' e' _ => ?_
        have h16' : M' 30 16 = nI j := (e'.2.1 16 (by decide)).trans h16
        have hz : q_z (st_ok f n j) = 0 := by rw [ho]; rfl
        simp only [gM_house_0, gM_house_1, gM_house_2, gM_house_5, gM_house_6, gM_house_7, gM_house_10, gM_house_11, gM_house_13, gM_house_16, gM_house_17, gM_house_20, gM_house_21, gM_house_24, gM_house_27, gM_house_28, gM_house_31, gM_house_34, gM_house_35, gM_house_38, gM_house_39, gM_house_40, gM_house_41, gM_house_44, gM_house_45, gM_house_48, gM_house_49, gM_house_52, gM_house_53, gM_house_54, gM_house_57, gM_house_61, gM_house_62, gM_house_65, gM_house_66, gM_house_69, gM_house_72, gM_house_73, gM_house_76, gM_house_77, gM_house_78, gM_house_79, gM_house_80, gM_house_81, gM_house_84, gM_house_85, gM_house_86, gM_house_87, gM_house_88, gM_house_91, gM_house_94, gM_house_95, gM_house_96, gM_house_99, gM_house_102, gM_house_105, gM_house_106, gM_house_107, gM_house_108, gM_house_111, gM_house_114, gM_house_115, gM_house_118, gM_house_119, gM_house_120, gM_house_121, gM_house_122, gM_house_125, gM_house_128, gM_house_129, gM_house_132, ↓reduceIte, Bool.false_eq_true, Bool.true_eq_false, qk_i, qk_r, qk_n, Option.toList_some, Option.toList_none, List.cons_append, List.nil_append, true_and, and_true, true_or, or_true, eq_self, if_true, if_false, q_b1, q_b2, c_A, c_R, c_O, c_M, c_H1, c_H8, c_H15, hz, h16']
        rw [gM_house_12]
        simp only [gM_house_0, gM_house_1, gM_house_2, gM_house_5, gM_house_6, gM_house_7, gM_house_10, gM_house_11, gM_house_13, gM_house_16, gM_house_17, gM_house_20, gM_house_21, gM_house_24, gM_house_27, gM_house_28, gM_house_31, gM_house_34, gM_house_35, gM_house_38, gM_house_39, gM_house_40, gM_house_41, gM_house_44, gM_house_45, gM_house_48, gM_house_49, gM_house_52, gM_house_53, gM_house_54, gM_house_57, gM_house_61, gM_house_62, gM_house_65, gM_house_66, gM_house_69, gM_house_72, gM_house_73, gM_house_76, gM_house_77, gM_house_78, gM_house_79, gM_house_80, gM_house_81, gM_house_84, gM_house_85, gM_house_86, gM_house_87, gM_house_88, gM_house_91, gM_house_94, gM_house_95, gM_house_96, gM_house_99, gM_house_102, gM_house_105, gM_house_106, gM_house_107, gM_house_108, gM_house_111, gM_house_114, gM_house_115, gM_house_118, gM_house_119, gM_house_120, gM_house_121, gM_house_122, gM_house_125, gM_house_128, gM_house_129, gM_house_132, ↓reduceIte, Bool.false_eq_true, Bool.true_eq_false, qk_i, qk_r, qk_n, Option.toList_some, Option.toList_none, List.cons_append, List.nil_append, true_and, and_true, true_or, or_true, eq_self, if_true, if_false, q_b1, q_b2, c_A, c_R, c_O, c_M, c_H1, c_H8, c_H15]
        refine hq _ _ ((hM.tr (me_Hr e')).f (by decide)) ((r.me e').fld (by decide) (by decide) (by decide)) ?_
        rw [q_put_at, if_neg (by decide)]
        exact c'.2.1
      rcases hp with hp | ⟨rfl, rfl⟩
      · rw [if_pos (nI_lt hp (by omega))]
        exact e34
      · have hnn : ¬ nI (p_pos f 0 0) < nI 0 := (by decide : ¬ nI 0 < nI 0)
        have h00 : ¬ ¬ nI 0 = 0 := by decide
        rw [if_neg hnn, if_neg h00]
        exact e34
  | succ kk ih =>
    intro j hj M o2 hM r c h16 hm
    have hn := c.2.2.2.1
    obtain ⟨ho, hp⟩ := hok j (by omega)
    rw [gM_house_12]
    simp only [gM_house_0, gM_house_1, gM_house_2, gM_house_5, gM_house_6, gM_house_7, gM_house_10, gM_house_11, gM_house_13, gM_house_16, gM_house_17, gM_house_20, gM_house_21, gM_house_24, gM_house_27, gM_house_28, gM_house_31, gM_house_35, gM_house_38, gM_house_39, gM_house_40, gM_house_41, gM_house_44, gM_house_45, gM_house_48, gM_house_49, gM_house_52, gM_house_53, gM_house_54, gM_house_57, gM_house_61, gM_house_62, gM_house_65, gM_house_66, gM_house_69, gM_house_72, gM_house_73, gM_house_76, gM_house_77, gM_house_78, gM_house_79, gM_house_80, gM_house_81, gM_house_84, gM_house_85, gM_house_86, gM_house_87, gM_house_88, gM_house_91, gM_house_94, gM_house_95, gM_house_96, gM_house_99, gM_house_102, gM_house_105, gM_house_106, gM_house_107, gM_house_108, gM_house_111, gM_house_114, gM_house_115, gM_house_118, gM_house_119, gM_house_120, gM_house_121, gM_house_122, gM_house_125, gM_house_128, gM_house_129, gM_house_132, ↓reduceIte, Bool.false_eq_true, Bool.true_eq_false, qk_i, qk_r, qk_n, Option.toList_some, Option.toList_none, List.cons_append, List.nil_append, true_and, and_true, true_or, or_true, eq_self, if_true, if_false, q_b1, q_b2, c_A, c_R, c_O, c_M, c_H1, c_H8, c_H15, n1z', c.1, c.2.1, h16]
    rw [if_pos (nI_lt hp (by omega))]
    simp only [gM_house_0, gM_house_1, gM_house_2, gM_house_5, gM_house_6, gM_house_7, gM_house_10, gM_house_11, gM_house_13, gM_house_16, gM_house_17, gM_house_20, gM_house_21, gM_house_24, gM_house_27, gM_house_28, gM_house_31, gM_house_34, gM_house_35, gM_house_38, gM_house_39, gM_house_40, gM_house_41, gM_house_44, gM_house_45, gM_house_48, gM_house_49, gM_house_52, gM_house_53, gM_house_54, gM_house_57, gM_house_61, gM_house_62, gM_house_65, gM_house_66, gM_house_69, gM_house_72, gM_house_73, gM_house_76, gM_house_77, gM_house_78, gM_house_79, gM_house_80, gM_house_81, gM_house_84, gM_house_85, gM_house_86, gM_house_87, gM_house_88, gM_house_91, gM_house_94, gM_house_95, gM_house_96, gM_house_99, gM_house_102, gM_house_105, gM_house_106, gM_house_107, gM_house_108, gM_house_111, gM_house_114, gM_house_115, gM_house_118, gM_house_119, gM_house_120, gM_house_121, gM_house_122, gM_house_125, gM_house_128, gM_house_129, gM_house_132, ↓reduceIte, Bool.false_eq_true, Bool.true_eq_false, qk_i, qk_r, qk_n, Option.toList_some, Option.toList_none, List.cons_append, List.nil_append, true_and, and_true, true_or, or_true, eq_self, if_true, if_false, q_b1, q_b2, c_A, c_R, c_O, c_M, c_H1, c_H8, c_H15]
    refine st_m c h16 (by omega) fun M' c' e' hm' => ?_
    have h16' : M' 30 16 = nI j := (e'.2.1 16 (by decide)).trans h16
    have hz : q_z (st_ok f n j) = 1 := by rw [ho]; rfl
    simp only [gM_house_0, gM_house_1, gM_house_2, gM_house_5, gM_house_6, gM_house_7, gM_house_10, gM_house_11, gM_house_13, gM_house_16, gM_house_17, gM_house_20, gM_house_21, gM_house_24, gM_house_27, gM_house_28, gM_house_31, gM_house_34, gM_house_35, gM_house_38, gM_house_39, gM_house_40, gM_house_41, gM_house_44, gM_house_45, gM_house_48, gM_house_49, gM_house_52, gM_house_53, gM_house_54, gM_house_57, gM_house_61, gM_house_62, gM_house_65, gM_house_66, gM_house_69, gM_house_72, gM_house_73, gM_house_76, gM_house_77, gM_house_78, gM_house_79, gM_house_80, gM_house_81, gM_house_84, gM_house_85, gM_house_86, gM_house_87, gM_house_88, gM_house_91, gM_house_94, gM_house_95, gM_house_96, gM_house_99, gM_house_102, gM_house_105, gM_house_106, gM_house_107, gM_house_108, gM_house_111, gM_house_114, gM_house_115, gM_house_118, gM_house_119, gM_house_120, gM_house_121, gM_house_122, gM_house_125, gM_house_128, gM_house_129, gM_house_132, ↓reduceIte, Bool.false_eq_true, Bool.true_eq_false, qk_i, qk_r, qk_n, Option.toList_some, Option.toList_none, List.cons_append, List.nil_append, true_and, and_true, true_or, or_true, eq_self, if_true, if_false, q_b1, q_b2, c_A, c_R, c_O, c_M, c_H1, c_H8, c_H15, hz, n1z', h16', nI_1]
    refine ih (j + 1) (by omega) _ _ ((hM.tr (me_Hr e')).f (by decide)) ((r.me e').fld (by decide) (by decide) (by decide)) ?_ (by rw [q_put_at, if_pos rfl]) (fun i hi => ?_)
    · obtain ⟨c1, c2, c3, c4, c5⟩ := c'
      exact ⟨by rw [q_put_at, if_neg (by decide)]; exact c1, by rw [q_put_at, if_neg (by decide)]; exact c2, by rw [q_put_ne (by decide)]; exact c3, c4, c5⟩
    · have e0 : mf M' i (p_pos f n i) (st_b f n i) (st_x f n i) (st_y f n i) (st_z f n i) := by
        by_cases e : i = j
        · subst e
          exact hm' ho
        · exact (hm i (by omega)).of (e'.2.2.1 i e).1 (e'.2.2.1 i e).2 (fun t _ h2 => e'.2.2.2 t (by omega))
      exact e0.of (by rw [q_put_ne (by decide)]) (by rw [q_put_ne (by decide)]) (fun _ _ _ => by rw [q_put_ne (by decide)])
theorem m_h2 {s t : Nat} {a : Int32} {H' : q_M} (g : gH H m k) (hs : s ≤ 32) (hok : ∀ i, i < s → st_ok f n i = true ∧ p_pos f n i < n) (ht : t ≤ s) (hq : ∀ i, i < t → a_ok f n H i = true)
    (hA : t = s ∧ a = nI s ∧ H' = p_H f n H s ∨ t < s ∧ a_ok f n H t = false ∧ a = -2000 - nI (p_pos f n t) ∧ H' = H) (hQ : ∀ M', Hr M0 M' → RM M' H' → M' 30 14 = 0 → Q (some (.int a)) M') :
    ∀ kk j, j + kk = t → ∀ M : q_M, Hr M0 M → RM M (p_H f n H j) → RK 65 M H → M 30 14 = 0 → M 30 16 = nI s → mfs f n M s →
    q_g 111 none Q 86 [some (.ref 30), some (.int 1), some (.int (nI j))] [] M := by
  intro kk
  induction kk with
  | zero =>
    intro j hj M hM r rk h14 h16 hm
    have : j = t := by omega
    subst this
    rw [gM_house_86]
    simp only [gM_house_0, gM_house_1, gM_house_2, gM_house_5, gM_house_6, gM_house_7, gM_house_10, gM_house_11, gM_house_12, gM_house_13, gM_house_16, gM_house_17, gM_house_20, gM_house_21, gM_house_24, gM_house_27, gM_house_28, gM_house_31, gM_house_34, gM_house_35, gM_house_38, gM_house_39, gM_house_40, gM_house_41, gM_house_44, gM_house_45, gM_house_48, gM_house_49, gM_house_52, gM_house_53, gM_house_54, gM_house_57, gM_house_60, gM_house_61, gM_house_62, gM_house_65, gM_house_66, gM_house_69, gM_house_72, gM_house_73, gM_house_76, gM_house_77, gM_house_78, gM_house_79, gM_house_80, gM_house_81, gM_house_84, gM_house_85, gM_house_87, gM_house_88, gM_house_91, gM_house_94, gM_house_95, gM_house_96, gM_house_99, gM_house_102, gM_house_105, gM_house_106, gM_house_107, gM_house_108, gM_house_111, gM_house_114, gM_house_115, gM_house_118, gM_house_119, gM_house_120, gM_house_121, gM_house_122, gM_house_125, gM_house_128, gM_house_129, gM_house_132, ↓reduceIte, Bool.false_eq_true, Bool.true_eq_false, qk_i, qk_r, qk_n, Option.toList_some, Option.toList_none, List.cons_append, List.nil_append, true_and, and_true, true_or, or_true, eq_self, if_true, if_false, q_b1, q_b2, c_A, c_R, c_O, c_M, c_H1, c_H8, c_H15, h16]
    rcases hA with ⟨e, ea, eH⟩ | ⟨hl, hb, ea, eH⟩
    · subst e
      rw [if_pos (Int32.le_refl _), ← ea]
      exact hQ _ hM (by rw [eH]; exact r) h14
    · obtain ⟨m', k', g'⟩ := g_pH g j (fun i hi => (hok i (by omega)).1) hq
      obtain ⟨-, hsg, -, -⟩ := (st_le (pos_le (f := f) (n := n) j)).2 (hok j hl).1
      have hin : q_in (nI j) 48 = true := q_in_nI (by omega) (by omega)
      have cj : (nI j).toNatClampNeg = j := nI_clamp (by omega)
      rw [if_neg (nI_ge hl (by omega))]
      refine m_comes g' r (by omega) (hm j hl) hsg (fun _ => ?_) (fun q => absurd (hb.symm.trans q) (by decide))
      simp only [gM_house_0, gM_house_1, gM_house_2, gM_house_5, gM_house_6, gM_house_7, gM_house_10, gM_house_11, gM_house_12, gM_house_13, gM_house_16, gM_house_17, gM_house_20, gM_house_21, gM_house_24, gM_house_27, gM_house_28, gM_house_31, gM_house_34, gM_house_35, gM_house_38, gM_house_39, gM_house_40, gM_house_41, gM_house_44, gM_house_45, gM_house_48, gM_house_49, gM_house_52, gM_house_53, gM_house_54, gM_house_57, gM_house_60, gM_house_61, gM_house_62, gM_house_65, gM_house_66, gM_house_69, gM_house_72, gM_house_73, gM_house_76, gM_house_77, gM_house_78, gM_house_79, gM_house_80, gM_house_81, gM_house_84, gM_house_85, gM_house_87, gM_house_88, gM_house_91, gM_house_94, gM_house_95, gM_house_96, gM_house_99, gM_house_102, gM_house_105, gM_house_106, gM_house_107, gM_house_108, gM_house_111, gM_house_114, gM_house_115, gM_house_118, gM_house_119, gM_house_120, gM_house_121, gM_house_122, gM_house_125, gM_house_128, gM_house_129, gM_house_132, ↓reduceIte, Bool.false_eq_true, Bool.true_eq_false, qk_i, qk_r, qk_n, Option.toList_some, Option.toList_none, List.cons_append, List.nil_append, true_and, and_true, true_or, or_true, eq_self, if_true, if_false, q_b1, q_b2, c_A, c_R, c_O, c_M, c_H1, c_H8, c_H15]
      rw [x_M_passesAll_r w65_1 (by omega)]
      have e40 : s_rA M 65 40 j = nI (p_pos f n j) := by
        rw [rA_cell (by decide) (by decide)]
        exact (hm j hl).2.1
      simp only [gM_house_0, gM_house_1, gM_house_2, gM_house_5, gM_house_6, gM_house_7, gM_house_10, gM_house_11, gM_house_12, gM_house_13, gM_house_16, gM_house_17, gM_house_20, gM_house_21, gM_house_24, gM_house_27, gM_house_28, gM_house_31, gM_house_34, gM_house_35, gM_house_38, gM_house_39, gM_house_40, gM_house_41, gM_house_44, gM_house_45, gM_house_48, gM_house_49, gM_house_52, gM_house_53, gM_house_54, gM_house_57, gM_house_60, gM_house_61, gM_house_62, gM_house_65, gM_house_66, gM_house_69, gM_house_72, gM_house_73, gM_house_76, gM_house_77, gM_house_78, gM_house_79, gM_house_80, gM_house_81, gM_house_84, gM_house_85, gM_house_87, gM_house_88, gM_house_91, gM_house_94, gM_house_95, gM_house_96, gM_house_99, gM_house_102, gM_house_105, gM_house_106, gM_house_107, gM_house_108, gM_house_111, gM_house_114, gM_house_115, gM_house_118, gM_house_119, gM_house_120, gM_house_121, gM_house_122, gM_house_125, gM_house_128, gM_house_129, gM_house_132, ↓reduceIte, Bool.false_eq_true, Bool.true_eq_false, qk_i, qk_r, qk_n, Option.toList_some, Option.toList_none, List.cons_append, List.nil_append, true_and, and_true, true_or, or_true, eq_self, if_true, if_false, q_b1, q_b2, c_A, c_R, c_O, c_M, c_H1, c_H8, c_H15, rf_M12, aD_40, hin, cj, e40]
      rw [← ea]
      exact hQ _ hM.rA (by rw [eH]; exact rA_RM rk) (by rw [rA_f (by decide) (by decide) (by decide) (by decide) (by decide)]; exact h14)
  | succ kk ih =>
    intro j hj M hM r rk h14 h16 hm
    have hjs : j < s := by omega
    obtain ⟨m', k', g'⟩ := g_pH g j (fun i hi => (hok i (by omega)).1) (fun i hi => hq i (by omega))
    obtain ⟨-, hsg, -, -⟩ := (st_le (pos_le (f := f) (n := n) j)).2 (hok j hjs).1
    rw [gM_house_86]
    simp only [gM_house_0, gM_house_1, gM_house_2, gM_house_5, gM_house_6, gM_house_7, gM_house_10, gM_house_11, gM_house_12, gM_house_13, gM_house_16, gM_house_17, gM_house_20, gM_house_21, gM_house_24, gM_house_27, gM_house_28, gM_house_31, gM_house_34, gM_house_35, gM_house_38, gM_house_39, gM_house_40, gM_house_41, gM_house_44, gM_house_45, gM_house_48, gM_house_49, gM_house_52, gM_house_53, gM_house_54, gM_house_57, gM_house_60, gM_house_61, gM_house_62, gM_house_65, gM_house_66, gM_house_69, gM_house_72, gM_house_73, gM_house_76, gM_house_77, gM_house_78, gM_house_79, gM_house_80, gM_house_81, gM_house_84, gM_house_85, gM_house_87, gM_house_88, gM_house_91, gM_house_94, gM_house_95, gM_house_96, gM_house_99, gM_house_102, gM_house_105, gM_house_106, gM_house_107, gM_house_108, gM_house_111, gM_house_114, gM_house_115, gM_house_118, gM_house_119, gM_house_120, gM_house_121, gM_house_122, gM_house_125, gM_house_128, gM_house_129, gM_house_132, ↓reduceIte, Bool.false_eq_true, Bool.true_eq_false, qk_i, qk_r, qk_n, Option.toList_some, Option.toList_none, List.cons_append, List.nil_append, true_and, and_true, true_or, or_true, eq_self, if_true, if_false, q_b1, q_b2, c_A, c_R, c_O, c_M, c_H1, c_H8, c_H15, h16]
    rw [if_neg (nI_ge hjs (by omega))]
    refine m_comes g' r (by omega) (hm j hjs) hsg (fun q => absurd ((hq j (by omega)).symm.trans q) (by decide)) (fun _ M' hM' r' => ?_)
    simp only [gM_house_0, gM_house_1, gM_house_2, gM_house_5, gM_house_6, gM_house_7, gM_house_10, gM_house_11, gM_house_12, gM_house_13, gM_house_16, gM_house_17, gM_house_20, gM_house_21, gM_house_24, gM_house_27, gM_house_28, gM_house_31, gM_house_34, gM_house_35, gM_house_38, gM_house_39, gM_house_40, gM_house_41, gM_house_44, gM_house_45, gM_house_48, gM_house_49, gM_house_52, gM_house_53, gM_house_54, gM_house_57, gM_house_60, gM_house_61, gM_house_62, gM_house_65, gM_house_66, gM_house_69, gM_house_72, gM_house_73, gM_house_76, gM_house_77, gM_house_78, gM_house_79, gM_house_80, gM_house_81, gM_house_84, gM_house_85, gM_house_87, gM_house_88, gM_house_91, gM_house_94, gM_house_95, gM_house_96, gM_house_99, gM_house_102, gM_house_105, gM_house_106, gM_house_107, gM_house_108, gM_house_111, gM_house_114, gM_house_115, gM_house_118, gM_house_119, gM_house_120, gM_house_121, gM_house_122, gM_house_125, gM_house_128, gM_house_129, gM_house_132, ↓reduceIte, Bool.false_eq_true, Bool.true_eq_false, qk_i, qk_r, qk_n, Option.toList_some, Option.toList_none, List.cons_append, List.nil_append, true_and, and_true, true_or, or_true, eq_self, if_true, if_false, q_b1, q_b2, c_A, c_R, c_O, c_M, c_H1, c_H8, c_H15, n1z', nI_1]
    exact ih (j + 1) (by omega) M' (hM.tr (Hr.v hM')) r' (rk.of fun i _ _ => by rw [hM'.1 42 (by decide) (by decide)]) ((hM'.2 14 (by decide)).trans h14) ((hM'.2 16 (by decide)).trans h16) (hm.of (hM'.1 39 (by decide) (by decide)) (hM'.1 40 (by decide) (by decide)) (hM'.1 41 (by decide) (by decide)))
theorem m_house {a : Int32} {H' : q_M} (g : gH H m k) (r : RM M H) (h14 : M 30 14 = nI n) (h38 : M 38 = f) (hn : n ≤ 96) (o : h_out f n H a H') (hQ : ∀ M', Hr M M' → RM M' H' → M' 30 14 = 0 → Q (some (.int a)) M') : q_Run 111 [.ref 30] M Q := by
  obtain ⟨s, hs, hi, hc⟩ := o
  have hM : Hr M (q_put (q_put M 30 15 0) 30 16 0) := (Hr.rf.f (by decide)).f (by decide)
  have r0 : RM (q_put (q_put M 30 15 0) 30 16 0) H := (r.fld (by decide) (by decide) (by decide)).fld (by decide) (by decide) (by decide)
  rw [e_M_house]
  simp only [gM_house_0, gM_house_1, gM_house_2, gM_house_5, gM_house_6, gM_house_7, gM_house_10, gM_house_11, gM_house_13, gM_house_16, gM_house_17, gM_house_20, gM_house_21, gM_house_24, gM_house_27, gM_house_28, gM_house_31, gM_house_34, gM_house_35, gM_house_38, gM_house_39, gM_house_40, gM_house_41, gM_house_44, gM_house_45, gM_house_48, gM_house_49, gM_house_52, gM_house_53, gM_house_54, gM_house_57, gM_house_60, gM_house_61, gM_house_62, gM_house_65, gM_house_66, gM_house_69, gM_house_72, gM_house_73, gM_house_76, gM_house_77, gM_house_78, gM_house_79, gM_house_80, gM_house_81, gM_house_84, gM_house_85, gM_house_86, gM_house_87, gM_house_88, gM_house_91, gM_house_94, gM_house_95, gM_house_96, gM_house_99, gM_house_102, gM_house_105, gM_house_106, gM_house_107, gM_house_108, gM_house_111, gM_house_114, gM_house_115, gM_house_118, gM_house_119, gM_house_120, gM_house_121, gM_house_122, gM_house_125, gM_house_128, gM_house_129, gM_house_132, ↓reduceIte, Bool.false_eq_true, Bool.true_eq_false, qk_i, qk_r, qk_n, Option.toList_some, Option.toList_none, List.cons_append, List.nil_append, true_and, and_true, true_or, or_true, eq_self, if_true, if_false, q_b1, q_b2, c_A, c_R, c_O, c_M, c_H1, c_H8, c_H15]
  refine m_h1 (M0 := M) (H := H) hs hi ?_ s 0 (by omega) _ _ hM r0 ⟨?_, ?_, ?_, hn, Nat.zero_le _⟩ (by rw [q_put_at, if_pos rfl]; exact nI_0.symm) (fun i hi => absurd hi (by omega))
  · rcases hc with ⟨ho, hp, ea, eH⟩ | ⟨hs1, he, t, ht, hq, hc⟩
    · refine Or.inr ⟨ho, hp, fun M1 o2 h1 r1 h15 => ?_⟩
      have ea' : a = -1000 - nI (p_pos f n (s + 1)) := ea
      have e15 : q_put M1 30 14 0 30 15 = nI (p_pos f n (s + 1)) := by
        rw [q_put_at, if_neg (by decide)]
        exact h15
      simp only [gM_house_0, gM_house_1, gM_house_2, gM_house_5, gM_house_6, gM_house_7, gM_house_10, gM_house_11, gM_house_12, gM_house_13, gM_house_16, gM_house_17, gM_house_20, gM_house_21, gM_house_24, gM_house_27, gM_house_28, gM_house_31, gM_house_34, gM_house_35, gM_house_38, gM_house_39, gM_house_40, gM_house_41, gM_house_44, gM_house_45, gM_house_48, gM_house_49, gM_house_52, gM_house_53, gM_house_54, gM_house_57, gM_house_60, gM_house_61, gM_house_62, gM_house_65, gM_house_66, gM_house_69, gM_house_72, gM_house_73, gM_house_76, gM_house_77, gM_house_78, gM_house_79, gM_house_80, gM_house_81, gM_house_84, gM_house_85, gM_house_87, gM_house_88, gM_house_91, gM_house_94, gM_house_95, gM_house_96, gM_house_99, gM_house_102, gM_house_105, gM_house_106, gM_house_107, gM_house_108, gM_house_111, gM_house_114, gM_house_115, gM_house_118, gM_house_119, gM_house_120, gM_house_121, gM_house_122, gM_house_125, gM_house_128, gM_house_129, gM_house_132, ↓reduceIte, Bool.false_eq_true, Bool.true_eq_false, qk_i, qk_r, qk_n, Option.toList_some, Option.toList_none, List.cons_append, List.nil_append, true_and, and_true, true_or, or_true, eq_self, if_true, if_false, q_b1, q_b2, c_A, c_R, c_O, c_M, c_H1, c_H8, c_H15, e15]
      rw [← ea']
      exact hQ _ (h1.f (by decide)) (by rw [eH]; exact r1.fld (by decide) (by decide) (by decide)) (by rw [q_put_at, if_pos rfl])
    · refine Or.inl ⟨hs1, he, fun M1 o2 h1 r1 h16 hm => ?_⟩
      have r1' : RM (q_put M1 30 14 0) H := r1.fld (by decide) (by decide) (by decide)
      have e14 : q_put M1 30 14 0 30 14 = 0 := by rw [q_put_at, if_pos rfl]
      have h1' : Hr M (q_put M1 30 14 0) := h1.f (by decide)
      have e16 : q_put M1 30 14 0 30 16 = nI s := by
        rw [q_put_at, if_neg (by decide)]
        exact h16
      have hm' : mfs f n (q_put M1 30 14 0) s := hm.of (q_put_ne (by decide)) (q_put_ne (by decide)) (q_put_ne (by decide))
      simp only [gM_house_0, gM_house_1, gM_house_2, gM_house_5, gM_house_6, gM_house_7, gM_house_10, gM_house_11, gM_house_12, gM_house_13, gM_house_16, gM_house_17, gM_house_20, gM_house_21, gM_house_24, gM_house_27, gM_house_28, gM_house_31, gM_house_34, gM_house_35, gM_house_38, gM_house_39, gM_house_40, gM_house_41, gM_house_44, gM_house_45, gM_house_48, gM_house_49, gM_house_52, gM_house_53, gM_house_54, gM_house_57, gM_house_60, gM_house_61, gM_house_62, gM_house_65, gM_house_66, gM_house_69, gM_house_72, gM_house_73, gM_house_76, gM_house_77, gM_house_78, gM_house_79, gM_house_80, gM_house_81, gM_house_84, gM_house_85, gM_house_87, gM_house_88, gM_house_91, gM_house_94, gM_house_95, gM_house_96, gM_house_99, gM_house_102, gM_house_105, gM_house_106, gM_house_107, gM_house_108, gM_house_111, gM_house_114, gM_house_115, gM_house_118, gM_house_119, gM_house_120, gM_house_121, gM_house_122, gM_house_125, gM_house_128, gM_house_129, gM_house_132, ↓reduceIte, Bool.false_eq_true, Bool.true_eq_false, qk_i, qk_r, qk_n, Option.toList_some, Option.toList_none, List.cons_append, List.nil_append, true_and, and_true, true_or, or_true, eq_self, if_true, if_false, q_b1, q_b2, c_A, c_R, c_O, c_M, c_H1, c_H8, c_H15, n1z', not_false_eq_true]
      rw [x_M_passesAll_k w65_1 (by omega)]
      generalize q_put M1 30 14 0 = N at r1' e14 h1' e16 hm' ⊢
      simp only [gM_house_0, gM_house_1, gM_house_2, gM_house_5, gM_house_6, gM_house_7, gM_house_10, gM_house_11, gM_house_12, gM_house_13, gM_house_16, gM_house_17, gM_house_20, gM_house_21, gM_house_24, gM_house_27, gM_house_28, gM_house_31, gM_house_34, gM_house_35, gM_house_38, gM_house_39, gM_house_40, gM_house_41, gM_house_44, gM_house_45, gM_house_48, gM_house_49, gM_house_52, gM_house_53, gM_house_54, gM_house_57, gM_house_60, gM_house_61, gM_house_62, gM_house_65, gM_house_66, gM_house_69, gM_house_72, gM_house_73, gM_house_76, gM_house_77, gM_house_78, gM_house_79, gM_house_80, gM_house_81, gM_house_84, gM_house_85, gM_house_87, gM_house_88, gM_house_91, gM_house_94, gM_house_95, gM_house_96, gM_house_99, gM_house_102, gM_house_105, gM_house_106, gM_house_107, gM_house_108, gM_house_111, gM_house_114, gM_house_115, gM_house_118, gM_house_119, gM_house_120, gM_house_121, gM_house_122, gM_house_125, gM_house_128, gM_house_129, gM_house_132, ↓reduceIte, Bool.false_eq_true, Bool.true_eq_false, qk_i, qk_r, qk_n, Option.toList_some, Option.toList_none, List.cons_append, List.nil_append, true_and, and_true, true_or, or_true, eq_self, if_true, if_false, q_b1, q_b2, c_A, c_R, c_O, c_M, c_H1, c_H8, c_H15]
      refine m_h2 g hs hi ht hq hc hQ t 0 (by omega) _ h1'.kA (r1'.of (fun c _ _ => kA_cell (by omega) (by omega)) (kA_f (by decide) (by decide)) (kA_f (by decide) (by decide)) (kA_f (by decide) (by decide))) (kA_RK r1') (by rw [kA_f (by decide) (by decide)]; exact e14) (by rw [kA_f (by decide) (by decide)]; exact e16) (hm'.of (kA_cell (by decide) (by decide)) (kA_cell (by decide) (by decide)) (kA_cell (by decide) (by decide)))
  · rw [q_put_at, if_neg (by decide), q_put_at, if_neg (by decide)]
    exact h14
  · rw [q_put_at, if_neg (by decide), q_put_at, if_pos rfl]
    exact nI_0.symm
  · rw [q_put_ne (by decide), q_put_ne (by decide)]
    exact h38
/-! one text, two rows -/
theorem st_congr {f' : p_T} (e : ∀ j, j < n → f j = f' j) : p_nx f n = p_nx f' n ∧ p_st f n = p_st f' n := by
  have e1 : p_nx f n = p_nx f' n := by
    funext p
    unfold p_nx
    by_cases h : p < n
    · rw [if_pos h, if_pos h, e p h]
    · rw [if_neg h, if_neg h]
  refine ⟨e1, ?_⟩
  funext p
  unfold p_st p_stN p_stH p_stT p_end p_d2
  rw [e1]
theorem h_congr {f' : p_T} {a : Int32} {H' : q_M} (e : ∀ j, j < n → f j = f' j) (o : h_out f n H a H') : h_out f' n H a H' := by
  obtain ⟨e1, e2⟩ := st_congr e
  have e3 : p_pos f n = p_pos f' n := by
    funext s
    induction s with
    | zero => rfl
    | succ s ih =>
      unfold p_pos
      rw [ih, e2]
  have e4 : p_H f n H = p_H f' n H := by
    funext s
    induction s with
    | zero => rfl
    | succ s ih =>
      unfold p_H st_b st_x st_y st_z
      rw [ih, e1, e2, e3]
  unfold h_out a_ok st_ok st_b st_x st_y st_z at o ⊢
  rw [e1, e2, e3, e4] at o
  exact o
end HN
