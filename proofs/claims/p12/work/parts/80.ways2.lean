/-! the rest of the reference's ways; the class's; WAYS on both sides -/
def ef (H : q_M) (W S t : Nat) : Bool := (dif W S).testBit t && canN H t S
def dF (H : q_M) (n h W : Nat) : Nat → Nat → Nat
  | 0, _ => 0
  | f + 1, S => if S = W then 1 else if wi h W S = true then sumT (fun t => if ef H W S t = true then dF H n h W f (S ||| 2 ^ t) else 0) n else 0
def dN (H : q_M) (n h W S : Nat) : Nat := dF H n h W (1024 - S) S
section WAYS2
variable {Q : q_R} {M M0 H : q_M} {n h W S : Nat} {a : Int32}
theorem ef_bit (hW : W < 1024) {t : Nat} (e : ef H W S t = true) : t < 10 ∧ W.testBit t = true ∧ S.testBit t = false := by
  have hb := ((Bool.and_eq_true _ _).mp e).1
  rw [dif_tb hW] at hb
  have h2 := (Bool.and_eq_true _ _).mp hb
  refine ⟨tb_lt hW h2.1, h2.1, ?_⟩
  cases q : S.testBit t
  · rfl
  · rw [q] at h2
    exact absurd h2.2 (by decide)
theorem dF_eq (hW : W < 1024) : ∀ d S, S < 1024 → 1024 - S = d → ∀ f g, d ≤ f → d ≤ g → dF H n h W f S = dF H n h W g S := by
  intro d
  induction d using Nat.strongRecOn with
  | ind d ih =>
    intro S hS hd f g hf hg
    obtain ⟨f', rfl⟩ : ∃ f', f = f' + 1 := ⟨f - 1, by omega⟩
    obtain ⟨g', rfl⟩ : ∃ g', g = g' + 1 := ⟨g - 1, by omega⟩
    unfold dF
    have e : sumT (fun t => if ef H W S t = true then dF H n h W f' (S ||| 2 ^ t) else 0) n = sumT (fun t => if ef H W S t = true then dF H n h W g' (S ||| 2 ^ t) else 0) n := by
      refine sumT_congr n fun t _ => ?_
      by_cases c : ef H W S t = true
      · obtain ⟨c1, c2, c3⟩ := ef_bit hW c
        have hg2 := or_bit_gt c3
        have hl := or1_lt hS c1
        rw [if_pos c, if_pos c, ih (1024 - (S ||| 2 ^ t)) (by omega) _ hl rfl f' g' (by omega) (by omega)]
      · rw [if_neg c, if_neg c]
    rw [e]
theorem dN_eq (hW : W < 1024) (hS : S < 1024) : dN H n h W S = if S = W then 1 else if wi h W S = true then sumT (fun t => if ef H W S t = true then dN H n h W (S ||| 2 ^ t) else 0) n else 0 := by
  have e : sumT (fun t => if ef H W S t = true then dF H n h W (1024 - S - 1) (S ||| 2 ^ t) else 0) n = sumT (fun t => if ef H W S t = true then dN H n h W (S ||| 2 ^ t) else 0) n := by
    refine sumT_congr n fun t _ => ?_
    by_cases c : ef H W S t = true
    · obtain ⟨c1, c2, c3⟩ := ef_bit hW c
      have hg2 := or_bit_gt c3
      have hl := or1_lt hS c1
      rw [if_pos c, if_pos c]
      exact dF_eq hW _ _ hl rfl _ _ (by omega) (Nat.le_refl _)
    · rw [if_neg c, if_neg c]
  obtain ⟨f, hf⟩ : ∃ f, 1024 - S = f + 1 := ⟨1024 - S - 1, by omega⟩
  have e0 : dN H n h W S = dF H n h W (1024 - S - 1 + 1) S := by
    unfold dN
    rw [show 1024 - S - 1 + 1 = 1024 - S by omega]
  rw [e0]
  show (if S = W then 1 else if wi h W S = true then sumT (fun t => if ef H W S t = true then dF H n h W (1024 - S - 1) (S ||| 2 ^ t) else 0) n else 0) = _
  rw [e]
theorem dN_W (hW : W < 1024) : dN H n h W W = 1 := by rw [dN_eq hW hW, if_pos rfl]
theorem dN_out (hW : W < 1024) (hS : S < 1024) (hne : ¬ S = W) (hw : ¬ wi h W S = true) : dN H n h W S = 0 := by rw [dN_eq hW hS, if_neg hne, if_neg hw]
theorem dN_in (hW : W < 1024) (hS : S < 1024) (hne : ¬ S = W) (hw : wi h W S = true) : dN H n h W S = sumT (fun t => if ef H W S t = true then dN H n h W (S ||| 2 ^ t) else 0) n := by rw [dN_eq hW hS, if_neg hne, if_pos hw]
theorem m_fw2i {s : Nat} {u : Nat → Int32} (g : gH H n h) (hW : W < 1024) (hs : s < 1024) (hne : ¬ s = W) (hw : wi h W s = true)
    (hQ : ∀ M (o3 : Int32) (o4 : Option Value), eqx Sf M0 M → M 44 = u → (∀ i, s < i → i < 1024 → M 45 i = nI (dN H n h W i)) → M 45 s = nI (sumT (fun t => if ef H W s t = true then dN H n h W (s ||| 2 ^ t) else 0) n) → q_g 106 none Q 212 [some (.ref 30), some (.int (nI W)), some (.int (nI s)), some (.int o3), o4] [] M) :
    ∀ k j, j + k = n → ∀ (M : q_M) (o4 : Option Value), RM M0 H → eqx Sf M0 M → M 44 = u → (∀ i, s < i → i < 1024 → M 45 i = nI (dN H n h W i)) → M 45 s = nI (sumT (fun t => if ef H W s t = true then dN H n h W (s ||| 2 ^ t) else 0) j) →
    q_g 106 none Q 144 [some (.ref 30), some (.int (nI W)), some (.int (nI s)), some (.int (nI j)), o4] [] M := by
  have h10 := g.1
  have hin : q_in (nI s) 1024 = true := q_in_nI hs (by omega)
  have cs : (nI s).toNatClampNeg = s := nI_clamp (by omega)
  intro k
  induction k with
  | zero =>
    intro j hj M o4 r0 hM hu hf hp
    have : j = n := by omega
    subst this
    rw [gM_findWays_144]
    simp only [gM_findWays_0, gM_findWays_1, gM_findWays_2, gM_findWays_3, gM_findWays_6, gM_findWays_9, gM_findWays_10, gM_findWays_13, gM_findWays_14, gM_findWays_15, gM_findWays_16, gM_findWays_19, gM_findWays_22, gM_findWays_23, gM_findWays_26, gM_findWays_27, gM_findWays_28, gM_findWays_29, gM_findWays_30, gM_findWays_31, gM_findWays_32, gM_findWays_35, gM_findWays_38, gM_findWays_39, gM_findWays_40, gM_findWays_41, gM_findWays_44, gM_findWays_47, gM_findWays_48, gM_findWays_49, gM_findWays_52, gM_findWays_55, gM_findWays_56, gM_findWays_57, gM_findWays_58, gM_findWays_59, gM_findWays_60, gM_findWays_61, gM_findWays_62, gM_findWays_64, gM_findWays_66, gM_findWays_67, gM_findWays_70, gM_findWays_71, gM_findWays_73, gM_findWays_74, gM_findWays_77, gM_findWays_80, gM_findWays_81, gM_findWays_82, gM_findWays_84, gM_findWays_87, gM_findWays_90, gM_findWays_91, gM_findWays_94, gM_findWays_95, gM_findWays_96, gM_findWays_97, gM_findWays_98, gM_findWays_101, gM_findWays_103, gM_findWays_104, gM_findWays_105, gM_findWays_106, gM_findWays_109, gM_findWays_112, gM_findWays_115, gM_findWays_118, gM_findWays_121, gM_findWays_122, gM_findWays_123, gM_findWays_126, gM_findWays_127, gM_findWays_130, gM_findWays_131, gM_findWays_132, gM_findWays_133, gM_findWays_136, gM_findWays_137, gM_findWays_140, gM_findWays_141, gM_findWays_142, gM_findWays_143, gM_findWays_145, gM_findWays_146, gM_findWays_149, gM_findWays_152, gM_findWays_153, gM_findWays_154, gM_findWays_155, gM_findWays_158, gM_findWays_161, gM_findWays_162, gM_findWays_163, gM_findWays_166, gM_findWays_167, gM_findWays_168, gM_findWays_169, gM_findWays_170, gM_findWays_171, gM_findWays_172, gM_findWays_175, gM_findWays_178, gM_findWays_179, gM_findWays_180, gM_findWays_181, gM_findWays_184, gM_findWays_187, gM_findWays_188, gM_findWays_191, gM_findWays_192, gM_findWays_193, gM_findWays_194, gM_findWays_195, gM_findWays_198, gM_findWays_199, gM_findWays_200, gM_findWays_201, gM_findWays_202, gM_findWays_203, gM_findWays_204, gM_findWays_205, gM_findWays_206, gM_findWays_209, gM_findWays_215, gM_findWays_218, ↓reduceIte, Bool.false_eq_true, Bool.true_eq_false, qk_i, qk_r, qk_n, Option.toList_some, Option.toList_none, List.cons_append, List.nil_append, true_and, and_true, true_or, or_true, eq_self, if_true, if_false, q_b1, q_b2, c_A, c_R, c_O, c_M, c_H1, c_H8, c_H15, (g.vm (r0.f hM)).1, Int32.le_refl]
    exact hQ _ _ _ hM hu hf hp
  | succ k ih =>
    intro j hj M o4 r0 hM hu hf hp
    have r := r0.f hM
    have hv := g.vm r
    have h1 : ¬ nI n ≤ nI j := nI_ge (by omega) (by omega)
    have e8 := hv.2.2.1
    have nsW : (nI s = nI W) = (s = W) := nI_inj hs hW
    have d1 := dif_nI (x := W) hW
    have da : dif W s < 1024 := dif_1024 hW
    have next : ∀ (M' : q_M) (o4 : Option Value), eqx Sf M0 M' → M' 44 = u → (∀ i, s < i → i < 1024 → M' 45 i = nI (dN H n h W i)) → M' 45 s = nI (sumT (fun t => if ef H W s t = true then dN H n h W (s ||| 2 ^ t) else 0) (j + 1)) → q_g 106 none Q 144 [some (.ref 30), some (.int (nI W)), some (.int (nI s)), some (.int (nI (j + 1))), o4] [] M' := fun M' o4 a b c d => ih (j + 1) (by omega) M' o4 r0 a b c d
    have keep : ef H W s j = false → M 45 s = nI (sumT (fun t => if ef H W s t = true then dN H n h W (s ||| 2 ^ t) else 0) (j + 1)) := fun q => by
      show _ = nI (_ + (if ef H W s j = true then dN H n h W (s ||| 2 ^ j) else 0))
      rw [if_neg (by rw [q]; decide), Nat.add_zero]
      exact hp
    rw [gM_findWays_144]
    simp only [gM_findWays_0, gM_findWays_1, gM_findWays_2, gM_findWays_3, gM_findWays_6, gM_findWays_9, gM_findWays_10, gM_findWays_13, gM_findWays_14, gM_findWays_15, gM_findWays_16, gM_findWays_19, gM_findWays_22, gM_findWays_23, gM_findWays_26, gM_findWays_27, gM_findWays_28, gM_findWays_29, gM_findWays_30, gM_findWays_31, gM_findWays_32, gM_findWays_35, gM_findWays_38, gM_findWays_39, gM_findWays_40, gM_findWays_41, gM_findWays_44, gM_findWays_47, gM_findWays_48, gM_findWays_49, gM_findWays_52, gM_findWays_55, gM_findWays_56, gM_findWays_57, gM_findWays_58, gM_findWays_59, gM_findWays_60, gM_findWays_61, gM_findWays_62, gM_findWays_64, gM_findWays_66, gM_findWays_67, gM_findWays_70, gM_findWays_71, gM_findWays_73, gM_findWays_74, gM_findWays_77, gM_findWays_80, gM_findWays_81, gM_findWays_82, gM_findWays_84, gM_findWays_87, gM_findWays_90, gM_findWays_91, gM_findWays_94, gM_findWays_95, gM_findWays_96, gM_findWays_97, gM_findWays_98, gM_findWays_101, gM_findWays_103, gM_findWays_104, gM_findWays_105, gM_findWays_106, gM_findWays_109, gM_findWays_112, gM_findWays_115, gM_findWays_118, gM_findWays_121, gM_findWays_122, gM_findWays_123, gM_findWays_126, gM_findWays_127, gM_findWays_130, gM_findWays_131, gM_findWays_132, gM_findWays_133, gM_findWays_136, gM_findWays_137, gM_findWays_140, gM_findWays_141, gM_findWays_142, gM_findWays_143, gM_findWays_145, gM_findWays_146, gM_findWays_149, gM_findWays_152, gM_findWays_153, gM_findWays_154, gM_findWays_155, gM_findWays_158, gM_findWays_161, gM_findWays_162, gM_findWays_163, gM_findWays_166, gM_findWays_167, gM_findWays_168, gM_findWays_169, gM_findWays_170, gM_findWays_171, gM_findWays_172, gM_findWays_175, gM_findWays_178, gM_findWays_179, gM_findWays_180, gM_findWays_181, gM_findWays_184, gM_findWays_187, gM_findWays_188, gM_findWays_191, gM_findWays_192, gM_findWays_193, gM_findWays_194, gM_findWays_195, gM_findWays_198, gM_findWays_199, gM_findWays_200, gM_findWays_201, gM_findWays_202, gM_findWays_203, gM_findWays_204, gM_findWays_205, gM_findWays_206, gM_findWays_209, gM_findWays_215, gM_findWays_218, ↓reduceIte, Bool.false_eq_true, Bool.true_eq_false, qk_i, qk_r, qk_n, Option.toList_some, Option.toList_none, List.cons_append, List.nil_append, true_and, and_true, true_or, or_true, eq_self, if_true, if_false, q_b1, q_b2, c_A, c_R, c_O, c_M, c_H1, c_H8, c_H15, hv.1, h1, x_M_isWithin, bw_eq e8 g.hlt hs, hw, q_z0, nsW, hne, d1, x_M_has, has_nI (show dif W s < 2 ^ 31 by omega) (show j < 31 by omega), n1z', ↓reduceIte, if_true, if_false, eq_self, not_true, not_false_eq_true, not_true_eq_false, Bool.true_eq_false, Bool.false_eq_true, Bool.not_false, Bool.not_true, Bool.and_true, Bool.and_false, Bool.true_and, Bool.false_and]
    cases hb : (dif W s).testBit j
    · have hed : ef H W s j = false := by
        unfold ef
        rw [hb]
        rfl
      simp only [n1z', ↓reduceIte, if_true, if_false, eq_self, not_true, not_false_eq_true, not_true_eq_false, Bool.true_eq_false, Bool.false_eq_true, Bool.not_false, Bool.not_true, Bool.and_true, Bool.and_false, Bool.true_and, Bool.false_and, gM_findWays_0, gM_findWays_1, gM_findWays_2, gM_findWays_3, gM_findWays_6, gM_findWays_9, gM_findWays_10, gM_findWays_13, gM_findWays_14, gM_findWays_15, gM_findWays_16, gM_findWays_19, gM_findWays_22, gM_findWays_23, gM_findWays_26, gM_findWays_27, gM_findWays_28, gM_findWays_29, gM_findWays_30, gM_findWays_31, gM_findWays_32, gM_findWays_35, gM_findWays_38, gM_findWays_39, gM_findWays_40, gM_findWays_41, gM_findWays_44, gM_findWays_47, gM_findWays_48, gM_findWays_49, gM_findWays_52, gM_findWays_55, gM_findWays_56, gM_findWays_57, gM_findWays_58, gM_findWays_59, gM_findWays_60, gM_findWays_61, gM_findWays_62, gM_findWays_64, gM_findWays_66, gM_findWays_67, gM_findWays_70, gM_findWays_71, gM_findWays_73, gM_findWays_74, gM_findWays_77, gM_findWays_80, gM_findWays_81, gM_findWays_82, gM_findWays_84, gM_findWays_87, gM_findWays_90, gM_findWays_91, gM_findWays_94, gM_findWays_95, gM_findWays_96, gM_findWays_97, gM_findWays_98, gM_findWays_101, gM_findWays_103, gM_findWays_104, gM_findWays_105, gM_findWays_106, gM_findWays_109, gM_findWays_112, gM_findWays_115, gM_findWays_118, gM_findWays_121, gM_findWays_122, gM_findWays_123, gM_findWays_126, gM_findWays_127, gM_findWays_130, gM_findWays_131, gM_findWays_132, gM_findWays_133, gM_findWays_136, gM_findWays_137, gM_findWays_140, gM_findWays_141, gM_findWays_142, gM_findWays_143, gM_findWays_145, gM_findWays_146, gM_findWays_149, gM_findWays_152, gM_findWays_153, gM_findWays_154, gM_findWays_155, gM_findWays_158, gM_findWays_161, gM_findWays_162, gM_findWays_163, gM_findWays_166, gM_findWays_167, gM_findWays_168, gM_findWays_169, gM_findWays_170, gM_findWays_171, gM_findWays_172, gM_findWays_175, gM_findWays_178, gM_findWays_179, gM_findWays_180, gM_findWays_181, gM_findWays_184, gM_findWays_187, gM_findWays_188, gM_findWays_191, gM_findWays_192, gM_findWays_193, gM_findWays_194, gM_findWays_195, gM_findWays_198, gM_findWays_199, gM_findWays_200, gM_findWays_201, gM_findWays_202, gM_findWays_203, gM_findWays_204, gM_findWays_205, gM_findWays_206, gM_findWays_209, gM_findWays_215, gM_findWays_218, ↓reduceIte, Bool.false_eq_true, Bool.true_eq_false, qk_i, qk_r, qk_n, Option.toList_some, Option.toList_none, List.cons_append, List.nil_append, true_and, and_true, true_or, or_true, eq_self, if_true, if_false, q_b1, q_b2, c_A, c_R, c_O, c_M, c_H1, c_H8, c_H15, nI_1]
      exact next M _ hM hu hf (keep hed)
    · have hsb : s.testBit j = false := by
        rw [dif_tb hW] at hb
        cases q : s.testBit j
        · rfl
        · rw [q, Bool.not_true, Bool.and_false] at hb
          cases hb
      have hcan : v_can M j (nI s) = canN H j s := v_can_N g r (by omega) hs hsb
      have hgt := or_bit_gt hsb
      have hl := or1_lt hs (show j < 10 by omega)
      have hin2 : q_in (nI (s ||| 2 ^ j)) 1024 = true := q_in_nI hl (by omega)
      have ca : (nI (s ||| 2 ^ j)).toNatClampNeg = s ||| 2 ^ j := nI_clamp (by omega)
      simp only [n1z', ↓reduceIte, if_true, if_false, eq_self, not_true, not_false_eq_true, not_true_eq_false, Bool.true_eq_false, Bool.false_eq_true, Bool.not_false, Bool.not_true, Bool.and_true, Bool.and_false, Bool.true_and, Bool.false_and, gM_findWays_0, gM_findWays_1, gM_findWays_2, gM_findWays_3, gM_findWays_6, gM_findWays_9, gM_findWays_10, gM_findWays_13, gM_findWays_14, gM_findWays_15, gM_findWays_16, gM_findWays_19, gM_findWays_22, gM_findWays_23, gM_findWays_26, gM_findWays_27, gM_findWays_28, gM_findWays_29, gM_findWays_30, gM_findWays_31, gM_findWays_32, gM_findWays_35, gM_findWays_38, gM_findWays_39, gM_findWays_40, gM_findWays_41, gM_findWays_44, gM_findWays_47, gM_findWays_48, gM_findWays_49, gM_findWays_52, gM_findWays_55, gM_findWays_56, gM_findWays_57, gM_findWays_58, gM_findWays_59, gM_findWays_60, gM_findWays_61, gM_findWays_62, gM_findWays_64, gM_findWays_66, gM_findWays_67, gM_findWays_70, gM_findWays_71, gM_findWays_73, gM_findWays_74, gM_findWays_77, gM_findWays_80, gM_findWays_81, gM_findWays_82, gM_findWays_84, gM_findWays_87, gM_findWays_90, gM_findWays_91, gM_findWays_94, gM_findWays_95, gM_findWays_96, gM_findWays_97, gM_findWays_98, gM_findWays_101, gM_findWays_103, gM_findWays_104, gM_findWays_105, gM_findWays_106, gM_findWays_109, gM_findWays_112, gM_findWays_115, gM_findWays_118, gM_findWays_121, gM_findWays_122, gM_findWays_123, gM_findWays_126, gM_findWays_127, gM_findWays_130, gM_findWays_131, gM_findWays_132, gM_findWays_133, gM_findWays_136, gM_findWays_137, gM_findWays_140, gM_findWays_141, gM_findWays_142, gM_findWays_143, gM_findWays_145, gM_findWays_146, gM_findWays_149, gM_findWays_152, gM_findWays_153, gM_findWays_154, gM_findWays_155, gM_findWays_158, gM_findWays_161, gM_findWays_162, gM_findWays_163, gM_findWays_166, gM_findWays_167, gM_findWays_168, gM_findWays_169, gM_findWays_170, gM_findWays_171, gM_findWays_172, gM_findWays_175, gM_findWays_178, gM_findWays_179, gM_findWays_180, gM_findWays_181, gM_findWays_184, gM_findWays_187, gM_findWays_188, gM_findWays_191, gM_findWays_192, gM_findWays_193, gM_findWays_194, gM_findWays_195, gM_findWays_198, gM_findWays_199, gM_findWays_200, gM_findWays_201, gM_findWays_202, gM_findWays_203, gM_findWays_204, gM_findWays_205, gM_findWays_206, gM_findWays_209, gM_findWays_215, gM_findWays_218, ↓reduceIte, Bool.false_eq_true, Bool.true_eq_false, qk_i, qk_r, qk_n, Option.toList_some, Option.toList_none, List.cons_append, List.nil_append, true_and, and_true, true_or, or_true, eq_self, if_true, if_false, q_b1, q_b2, c_A, c_R, c_O, c_M, c_H1, c_H8, c_H15, x_M_canHave (show j < 10 by omega), hcan, q_z0]
      cases hc : canN H j s
      · have hed : ef H W s j = false := by
          unfold ef
          rw [hb, hc]
          rfl
        simp only [n1z', ↓reduceIte, if_true, if_false, eq_self, not_true, not_false_eq_true, not_true_eq_false, Bool.true_eq_false, Bool.false_eq_true, Bool.not_false, Bool.not_true, Bool.and_true, Bool.and_false, Bool.true_and, Bool.false_and, gM_findWays_0, gM_findWays_1, gM_findWays_2, gM_findWays_3, gM_findWays_6, gM_findWays_9, gM_findWays_10, gM_findWays_13, gM_findWays_14, gM_findWays_15, gM_findWays_16, gM_findWays_19, gM_findWays_22, gM_findWays_23, gM_findWays_26, gM_findWays_27, gM_findWays_28, gM_findWays_29, gM_findWays_30, gM_findWays_31, gM_findWays_32, gM_findWays_35, gM_findWays_38, gM_findWays_39, gM_findWays_40, gM_findWays_41, gM_findWays_44, gM_findWays_47, gM_findWays_48, gM_findWays_49, gM_findWays_52, gM_findWays_55, gM_findWays_56, gM_findWays_57, gM_findWays_58, gM_findWays_59, gM_findWays_60, gM_findWays_61, gM_findWays_62, gM_findWays_64, gM_findWays_66, gM_findWays_67, gM_findWays_70, gM_findWays_71, gM_findWays_73, gM_findWays_74, gM_findWays_77, gM_findWays_80, gM_findWays_81, gM_findWays_82, gM_findWays_84, gM_findWays_87, gM_findWays_90, gM_findWays_91, gM_findWays_94, gM_findWays_95, gM_findWays_96, gM_findWays_97, gM_findWays_98, gM_findWays_101, gM_findWays_103, gM_findWays_104, gM_findWays_105, gM_findWays_106, gM_findWays_109, gM_findWays_112, gM_findWays_115, gM_findWays_118, gM_findWays_121, gM_findWays_122, gM_findWays_123, gM_findWays_126, gM_findWays_127, gM_findWays_130, gM_findWays_131, gM_findWays_132, gM_findWays_133, gM_findWays_136, gM_findWays_137, gM_findWays_140, gM_findWays_141, gM_findWays_142, gM_findWays_143, gM_findWays_145, gM_findWays_146, gM_findWays_149, gM_findWays_152, gM_findWays_153, gM_findWays_154, gM_findWays_155, gM_findWays_158, gM_findWays_161, gM_findWays_162, gM_findWays_163, gM_findWays_166, gM_findWays_167, gM_findWays_168, gM_findWays_169, gM_findWays_170, gM_findWays_171, gM_findWays_172, gM_findWays_175, gM_findWays_178, gM_findWays_179, gM_findWays_180, gM_findWays_181, gM_findWays_184, gM_findWays_187, gM_findWays_188, gM_findWays_191, gM_findWays_192, gM_findWays_193, gM_findWays_194, gM_findWays_195, gM_findWays_198, gM_findWays_199, gM_findWays_200, gM_findWays_201, gM_findWays_202, gM_findWays_203, gM_findWays_204, gM_findWays_205, gM_findWays_206, gM_findWays_209, gM_findWays_215, gM_findWays_218, ↓reduceIte, Bool.false_eq_true, Bool.true_eq_false, qk_i, qk_r, qk_n, Option.toList_some, Option.toList_none, List.cons_append, List.nil_append, true_and, and_true, true_or, or_true, eq_self, if_true, if_false, q_b1, q_b2, c_A, c_R, c_O, c_M, c_H1, c_H8, c_H15, nI_1]
        exact next M _ hM hu hf (keep hed)
      · have hed : ef H W s j = true := by
          unfold ef
          rw [hb, hc]
          rfl
        simp only [n1z', ↓reduceIte, if_true, if_false, eq_self, not_true, not_false_eq_true, not_true_eq_false, Bool.true_eq_false, Bool.false_eq_true, Bool.not_false, Bool.not_true, Bool.and_true, Bool.and_false, Bool.true_and, Bool.false_and, gM_findWays_0, gM_findWays_1, gM_findWays_2, gM_findWays_3, gM_findWays_6, gM_findWays_9, gM_findWays_10, gM_findWays_13, gM_findWays_14, gM_findWays_15, gM_findWays_16, gM_findWays_19, gM_findWays_22, gM_findWays_23, gM_findWays_26, gM_findWays_27, gM_findWays_28, gM_findWays_29, gM_findWays_30, gM_findWays_31, gM_findWays_32, gM_findWays_35, gM_findWays_38, gM_findWays_39, gM_findWays_40, gM_findWays_41, gM_findWays_44, gM_findWays_47, gM_findWays_48, gM_findWays_49, gM_findWays_52, gM_findWays_55, gM_findWays_56, gM_findWays_57, gM_findWays_58, gM_findWays_59, gM_findWays_60, gM_findWays_61, gM_findWays_62, gM_findWays_64, gM_findWays_66, gM_findWays_67, gM_findWays_70, gM_findWays_71, gM_findWays_73, gM_findWays_74, gM_findWays_77, gM_findWays_80, gM_findWays_81, gM_findWays_82, gM_findWays_84, gM_findWays_87, gM_findWays_90, gM_findWays_91, gM_findWays_94, gM_findWays_95, gM_findWays_96, gM_findWays_97, gM_findWays_98, gM_findWays_101, gM_findWays_103, gM_findWays_104, gM_findWays_105, gM_findWays_106, gM_findWays_109, gM_findWays_112, gM_findWays_115, gM_findWays_118, gM_findWays_121, gM_findWays_122, gM_findWays_123, gM_findWays_126, gM_findWays_127, gM_findWays_130, gM_findWays_131, gM_findWays_132, gM_findWays_133, gM_findWays_136, gM_findWays_137, gM_findWays_140, gM_findWays_141, gM_findWays_142, gM_findWays_143, gM_findWays_145, gM_findWays_146, gM_findWays_149, gM_findWays_152, gM_findWays_153, gM_findWays_154, gM_findWays_155, gM_findWays_158, gM_findWays_161, gM_findWays_162, gM_findWays_163, gM_findWays_166, gM_findWays_167, gM_findWays_168, gM_findWays_169, gM_findWays_170, gM_findWays_171, gM_findWays_172, gM_findWays_175, gM_findWays_178, gM_findWays_179, gM_findWays_180, gM_findWays_181, gM_findWays_184, gM_findWays_187, gM_findWays_188, gM_findWays_191, gM_findWays_192, gM_findWays_193, gM_findWays_194, gM_findWays_195, gM_findWays_198, gM_findWays_199, gM_findWays_200, gM_findWays_201, gM_findWays_202, gM_findWays_203, gM_findWays_204, gM_findWays_205, gM_findWays_206, gM_findWays_209, gM_findWays_215, gM_findWays_218, ↓reduceIte, Bool.false_eq_true, Bool.true_eq_false, qk_i, qk_r, qk_n, Option.toList_some, Option.toList_none, List.cons_append, List.nil_append, true_and, and_true, true_or, or_true, eq_self, if_true, if_false, q_b1, q_b2, c_A, c_R, c_O, c_M, c_H1, c_H8, c_H15, rf_M23, aD_45, hin, or1_nI (show j < 31 by omega), hin2, cs, ca, nI_1, hp, hf _ hgt hl, nI_add]
        refine next _ _ (hM.qput (by decide)) ((q_put_ne (by decide)).trans hu) (fun i hi h2 => by rw [q_put_at, if_neg (by omega)]; exact hf i hi h2) ?_
        rw [q_put_at, if_pos rfl]
        show _ = nI (_ + (if ef H W s j = true then dN H n h W (s ||| 2 ^ j) else 0))
        rw [if_pos hed]
theorem m_fw2 {u : Nat → Int32} (g : gH H n h) (hW : W < 1024) (r0 : RM M0 H) (hQ : ∀ M, eqx Sf M0 M → M 44 = u → (∀ i, i < 1024 → M 45 i = nI (dN H n h W i)) → Q none M) : ∀ k, k ≤ 1024 → ∀ (M : q_M) (o3 o4 : Option Value), eqx Sf M0 M → M 44 = u → (∀ i, k ≤ i → i < 1024 → M 45 i = nI (dN H n h W i)) →
    q_g 106 none Q 122 [some (.ref 30), some (.int (nI W)), some (.int (nI k + (-1))), o3, o4] [] M := by
  have h10 := g.1
  intro k
  induction k with
  | zero =>
    intro hk M o3 o4 hM hu hf
    have h1 : nI 0 + (-1) < 0 := by decide
    rw [gM_findWays_122]
    simp only [gM_findWays_0, gM_findWays_1, gM_findWays_2, gM_findWays_3, gM_findWays_6, gM_findWays_9, gM_findWays_10, gM_findWays_13, gM_findWays_14, gM_findWays_15, gM_findWays_16, gM_findWays_19, gM_findWays_22, gM_findWays_23, gM_findWays_26, gM_findWays_27, gM_findWays_28, gM_findWays_29, gM_findWays_30, gM_findWays_31, gM_findWays_32, gM_findWays_35, gM_findWays_38, gM_findWays_39, gM_findWays_40, gM_findWays_41, gM_findWays_44, gM_findWays_47, gM_findWays_48, gM_findWays_49, gM_findWays_52, gM_findWays_55, gM_findWays_56, gM_findWays_57, gM_findWays_58, gM_findWays_59, gM_findWays_60, gM_findWays_61, gM_findWays_62, gM_findWays_64, gM_findWays_66, gM_findWays_67, gM_findWays_70, gM_findWays_71, gM_findWays_73, gM_findWays_74, gM_findWays_77, gM_findWays_80, gM_findWays_81, gM_findWays_82, gM_findWays_84, gM_findWays_87, gM_findWays_90, gM_findWays_91, gM_findWays_94, gM_findWays_95, gM_findWays_96, gM_findWays_97, gM_findWays_98, gM_findWays_101, gM_findWays_103, gM_findWays_104, gM_findWays_105, gM_findWays_106, gM_findWays_109, gM_findWays_112, gM_findWays_115, gM_findWays_118, gM_findWays_121, gM_findWays_123, gM_findWays_126, gM_findWays_127, gM_findWays_130, gM_findWays_131, gM_findWays_132, gM_findWays_133, gM_findWays_136, gM_findWays_137, gM_findWays_140, gM_findWays_141, gM_findWays_142, gM_findWays_143, gM_findWays_144, gM_findWays_145, gM_findWays_146, gM_findWays_149, gM_findWays_152, gM_findWays_153, gM_findWays_154, gM_findWays_155, gM_findWays_158, gM_findWays_161, gM_findWays_162, gM_findWays_163, gM_findWays_166, gM_findWays_167, gM_findWays_168, gM_findWays_169, gM_findWays_170, gM_findWays_171, gM_findWays_172, gM_findWays_175, gM_findWays_178, gM_findWays_179, gM_findWays_180, gM_findWays_181, gM_findWays_184, gM_findWays_187, gM_findWays_188, gM_findWays_191, gM_findWays_192, gM_findWays_193, gM_findWays_194, gM_findWays_195, gM_findWays_198, gM_findWays_199, gM_findWays_200, gM_findWays_201, gM_findWays_202, gM_findWays_203, gM_findWays_204, gM_findWays_205, gM_findWays_206, gM_findWays_209, gM_findWays_212, gM_findWays_215, gM_findWays_218, ↓reduceIte, Bool.false_eq_true, Bool.true_eq_false, qk_i, qk_r, qk_n, Option.toList_some, Option.toList_none, List.cons_append, List.nil_append, true_and, and_true, true_or, or_true, eq_self, if_true, if_false, q_b1, q_b2, c_A, c_R, c_O, c_M, c_H1, c_H8, c_H15, h1]
    exact hQ _ hM hu (fun i hi => hf i (Nat.zero_le _) hi)
  | succ s ih =>
    intro hk M o3 o4 hM hu hf
    have hs : s < 1024 := by omega
    have h1 : ¬ nI s < 0 := nI_pos (by omega)
    have hin : q_in (nI s) 1024 = true := q_in_nI (by omega) (by omega)
    have cj : (nI s).toNatClampNeg = s := nI_clamp (by omega)
    have hv := g.vm (r0.f hM)
    have nsW : (nI s = nI W) = (s = W) := nI_inj hs hW
    have next : ∀ (M' : q_M) (o3 : Int32) (o4 : Option Value), eqx Sf M0 M' → M' 44 = u → (∀ i, s < i → i < 1024 → M' 45 i = nI (dN H n h W i)) → M' 45 s = nI (dN H n h W s) → q_g 106 none Q 212 [some (.ref 30), some (.int (nI W)), some (.int (nI s)), some (.int o3), o4] [] M' := by
      intro M' o3 o4 a b c d
      simp only [gM_findWays_0, gM_findWays_1, gM_findWays_2, gM_findWays_3, gM_findWays_6, gM_findWays_9, gM_findWays_10, gM_findWays_13, gM_findWays_14, gM_findWays_15, gM_findWays_16, gM_findWays_19, gM_findWays_22, gM_findWays_23, gM_findWays_26, gM_findWays_27, gM_findWays_28, gM_findWays_29, gM_findWays_30, gM_findWays_31, gM_findWays_32, gM_findWays_35, gM_findWays_38, gM_findWays_39, gM_findWays_40, gM_findWays_41, gM_findWays_44, gM_findWays_47, gM_findWays_48, gM_findWays_49, gM_findWays_52, gM_findWays_55, gM_findWays_56, gM_findWays_57, gM_findWays_58, gM_findWays_59, gM_findWays_60, gM_findWays_61, gM_findWays_62, gM_findWays_64, gM_findWays_66, gM_findWays_67, gM_findWays_70, gM_findWays_71, gM_findWays_73, gM_findWays_74, gM_findWays_77, gM_findWays_80, gM_findWays_81, gM_findWays_82, gM_findWays_84, gM_findWays_87, gM_findWays_90, gM_findWays_91, gM_findWays_94, gM_findWays_95, gM_findWays_96, gM_findWays_97, gM_findWays_98, gM_findWays_101, gM_findWays_103, gM_findWays_104, gM_findWays_105, gM_findWays_106, gM_findWays_109, gM_findWays_112, gM_findWays_115, gM_findWays_118, gM_findWays_121, gM_findWays_123, gM_findWays_126, gM_findWays_127, gM_findWays_130, gM_findWays_131, gM_findWays_132, gM_findWays_133, gM_findWays_136, gM_findWays_137, gM_findWays_140, gM_findWays_141, gM_findWays_142, gM_findWays_143, gM_findWays_144, gM_findWays_145, gM_findWays_146, gM_findWays_149, gM_findWays_152, gM_findWays_153, gM_findWays_154, gM_findWays_155, gM_findWays_158, gM_findWays_161, gM_findWays_162, gM_findWays_163, gM_findWays_166, gM_findWays_167, gM_findWays_168, gM_findWays_169, gM_findWays_170, gM_findWays_171, gM_findWays_172, gM_findWays_175, gM_findWays_178, gM_findWays_179, gM_findWays_180, gM_findWays_181, gM_findWays_184, gM_findWays_187, gM_findWays_188, gM_findWays_191, gM_findWays_192, gM_findWays_193, gM_findWays_194, gM_findWays_195, gM_findWays_198, gM_findWays_199, gM_findWays_200, gM_findWays_201, gM_findWays_202, gM_findWays_203, gM_findWays_204, gM_findWays_205, gM_findWays_206, gM_findWays_209, gM_findWays_212, gM_findWays_215, gM_findWays_218, ↓reduceIte, Bool.false_eq_true, Bool.true_eq_false, qk_i, qk_r, qk_n, Option.toList_some, Option.toList_none, List.cons_append, List.nil_append, true_and, and_true, true_or, or_true, eq_self, if_true, if_false, q_b1, q_b2, c_A, c_R, c_O, c_M, c_H1, c_H8, c_H15]
      refine ih (by omega) M' _ _ a b fun i h2 h3 => ?_
      by_cases e : i = s
      · rw [e]
        exact d
      · exact c i (by omega) h3
    have ep : ∀ v, eqx Sf M0 (q_put M 45 s v) := fun v => hM.qput (by decide)
    have hup : ∀ v, q_put M 45 s v 44 = u := fun v => (q_put_ne (by decide)).trans hu
    have hfp : ∀ v i, s < i → i < 1024 → q_put M 45 s v 45 i = nI (dN H n h W i) := fun v i h2 h3 => by rw [q_put_at, if_neg (by omega)]; exact hf i (by omega) h3
    have e1 : ∀ v, q_put M 45 s v 30 = M 30 := fun v => q_put_ne (by decide)
    have hb : ∀ v, b_within (q_put M 45 s v) (nI s) (nI W) = wi h W s := fun v => bw_eq (g.vm (r0.f (ep v))).2.2.1 g.hlt hs
    rw [dec_nI, gM_findWays_122]
    simp only [gM_findWays_0, gM_findWays_1, gM_findWays_2, gM_findWays_3, gM_findWays_6, gM_findWays_9, gM_findWays_10, gM_findWays_13, gM_findWays_14, gM_findWays_15, gM_findWays_16, gM_findWays_19, gM_findWays_22, gM_findWays_23, gM_findWays_26, gM_findWays_27, gM_findWays_28, gM_findWays_29, gM_findWays_30, gM_findWays_31, gM_findWays_32, gM_findWays_35, gM_findWays_38, gM_findWays_39, gM_findWays_40, gM_findWays_41, gM_findWays_44, gM_findWays_47, gM_findWays_48, gM_findWays_49, gM_findWays_52, gM_findWays_55, gM_findWays_56, gM_findWays_57, gM_findWays_58, gM_findWays_59, gM_findWays_60, gM_findWays_61, gM_findWays_62, gM_findWays_64, gM_findWays_66, gM_findWays_67, gM_findWays_70, gM_findWays_71, gM_findWays_73, gM_findWays_74, gM_findWays_77, gM_findWays_80, gM_findWays_81, gM_findWays_82, gM_findWays_84, gM_findWays_87, gM_findWays_90, gM_findWays_91, gM_findWays_94, gM_findWays_95, gM_findWays_96, gM_findWays_97, gM_findWays_98, gM_findWays_101, gM_findWays_103, gM_findWays_104, gM_findWays_105, gM_findWays_106, gM_findWays_109, gM_findWays_112, gM_findWays_115, gM_findWays_118, gM_findWays_121, gM_findWays_123, gM_findWays_126, gM_findWays_127, gM_findWays_130, gM_findWays_131, gM_findWays_132, gM_findWays_133, gM_findWays_136, gM_findWays_137, gM_findWays_140, gM_findWays_142, gM_findWays_143, gM_findWays_145, gM_findWays_146, gM_findWays_149, gM_findWays_152, gM_findWays_153, gM_findWays_154, gM_findWays_155, gM_findWays_158, gM_findWays_161, gM_findWays_162, gM_findWays_163, gM_findWays_166, gM_findWays_167, gM_findWays_168, gM_findWays_169, gM_findWays_170, gM_findWays_171, gM_findWays_172, gM_findWays_175, gM_findWays_178, gM_findWays_179, gM_findWays_180, gM_findWays_181, gM_findWays_184, gM_findWays_187, gM_findWays_188, gM_findWays_191, gM_findWays_192, gM_findWays_193, gM_findWays_194, gM_findWays_195, gM_findWays_198, gM_findWays_199, gM_findWays_200, gM_findWays_201, gM_findWays_202, gM_findWays_203, gM_findWays_204, gM_findWays_205, gM_findWays_206, gM_findWays_209, gM_findWays_215, gM_findWays_218, ↓reduceIte, Bool.false_eq_true, Bool.true_eq_false, qk_i, qk_r, qk_n, Option.toList_some, Option.toList_none, List.cons_append, List.nil_append, true_and, and_true, true_or, or_true, eq_self, if_true, if_false, q_b1, q_b2, c_A, c_R, c_O, c_M, c_H1, c_H8, c_H15, h1, rf_M23, nsW]
    by_cases e : s = W
    · have fin : ∀ (o3 : Int32) (o4 : Option Value), q_g 106 none Q 212 [some (.ref 30), some (.int (nI W)), some (.int (nI s)), some (.int o3), o4] [] (q_put M 45 s 1) := fun o3 o4 => next _ _ _ (ep 1) (hup 1) (hfp 1) (by rw [q_put_at, if_pos rfl, e, dN_W hW]; rfl)
      rw [if_neg (show ¬ ¬ s = W from fun q => q e)]
      subst e
      simp only [gM_findWays_0, gM_findWays_1, gM_findWays_2, gM_findWays_3, gM_findWays_6, gM_findWays_9, gM_findWays_10, gM_findWays_13, gM_findWays_14, gM_findWays_15, gM_findWays_16, gM_findWays_19, gM_findWays_22, gM_findWays_23, gM_findWays_26, gM_findWays_27, gM_findWays_28, gM_findWays_29, gM_findWays_30, gM_findWays_31, gM_findWays_32, gM_findWays_35, gM_findWays_38, gM_findWays_39, gM_findWays_40, gM_findWays_41, gM_findWays_44, gM_findWays_47, gM_findWays_48, gM_findWays_49, gM_findWays_52, gM_findWays_55, gM_findWays_56, gM_findWays_57, gM_findWays_58, gM_findWays_59, gM_findWays_60, gM_findWays_61, gM_findWays_62, gM_findWays_64, gM_findWays_66, gM_findWays_67, gM_findWays_70, gM_findWays_71, gM_findWays_73, gM_findWays_74, gM_findWays_77, gM_findWays_80, gM_findWays_81, gM_findWays_82, gM_findWays_84, gM_findWays_87, gM_findWays_90, gM_findWays_91, gM_findWays_94, gM_findWays_95, gM_findWays_96, gM_findWays_97, gM_findWays_98, gM_findWays_101, gM_findWays_103, gM_findWays_104, gM_findWays_105, gM_findWays_106, gM_findWays_109, gM_findWays_112, gM_findWays_115, gM_findWays_118, gM_findWays_121, gM_findWays_123, gM_findWays_126, gM_findWays_127, gM_findWays_130, gM_findWays_131, gM_findWays_132, gM_findWays_133, gM_findWays_136, gM_findWays_137, gM_findWays_140, gM_findWays_141, gM_findWays_142, gM_findWays_143, gM_findWays_145, gM_findWays_146, gM_findWays_149, gM_findWays_152, gM_findWays_153, gM_findWays_154, gM_findWays_155, gM_findWays_158, gM_findWays_161, gM_findWays_162, gM_findWays_163, gM_findWays_166, gM_findWays_167, gM_findWays_168, gM_findWays_169, gM_findWays_170, gM_findWays_171, gM_findWays_172, gM_findWays_175, gM_findWays_178, gM_findWays_179, gM_findWays_180, gM_findWays_181, gM_findWays_184, gM_findWays_187, gM_findWays_188, gM_findWays_191, gM_findWays_192, gM_findWays_193, gM_findWays_194, gM_findWays_195, gM_findWays_198, gM_findWays_199, gM_findWays_200, gM_findWays_201, gM_findWays_202, gM_findWays_203, gM_findWays_204, gM_findWays_205, gM_findWays_206, gM_findWays_209, gM_findWays_215, gM_findWays_218, ↓reduceIte, Bool.false_eq_true, Bool.true_eq_false, qk_i, qk_r, qk_n, Option.toList_some, Option.toList_none, List.cons_append, List.nil_append, true_and, and_true, true_or, or_true, eq_self, if_true, if_false, q_b1, q_b2, c_A, c_R, c_O, c_M, c_H1, c_H8, c_H15, aD_45, hin, cj]
      rw [gM_findWays_144]
      simp only [gM_findWays_0, gM_findWays_1, gM_findWays_2, gM_findWays_3, gM_findWays_6, gM_findWays_9, gM_findWays_10, gM_findWays_13, gM_findWays_14, gM_findWays_15, gM_findWays_16, gM_findWays_19, gM_findWays_22, gM_findWays_23, gM_findWays_26, gM_findWays_27, gM_findWays_28, gM_findWays_29, gM_findWays_30, gM_findWays_31, gM_findWays_32, gM_findWays_35, gM_findWays_38, gM_findWays_39, gM_findWays_40, gM_findWays_41, gM_findWays_44, gM_findWays_47, gM_findWays_48, gM_findWays_49, gM_findWays_52, gM_findWays_55, gM_findWays_56, gM_findWays_57, gM_findWays_58, gM_findWays_59, gM_findWays_60, gM_findWays_61, gM_findWays_62, gM_findWays_64, gM_findWays_66, gM_findWays_67, gM_findWays_70, gM_findWays_71, gM_findWays_73, gM_findWays_74, gM_findWays_77, gM_findWays_80, gM_findWays_81, gM_findWays_82, gM_findWays_84, gM_findWays_87, gM_findWays_90, gM_findWays_91, gM_findWays_94, gM_findWays_95, gM_findWays_96, gM_findWays_97, gM_findWays_98, gM_findWays_101, gM_findWays_103, gM_findWays_104, gM_findWays_105, gM_findWays_106, gM_findWays_109, gM_findWays_112, gM_findWays_115, gM_findWays_118, gM_findWays_121, gM_findWays_123, gM_findWays_126, gM_findWays_127, gM_findWays_130, gM_findWays_131, gM_findWays_132, gM_findWays_133, gM_findWays_136, gM_findWays_137, gM_findWays_140, gM_findWays_141, gM_findWays_142, gM_findWays_143, gM_findWays_145, gM_findWays_146, gM_findWays_149, gM_findWays_152, gM_findWays_153, gM_findWays_154, gM_findWays_155, gM_findWays_158, gM_findWays_161, gM_findWays_162, gM_findWays_163, gM_findWays_166, gM_findWays_167, gM_findWays_168, gM_findWays_169, gM_findWays_170, gM_findWays_171, gM_findWays_172, gM_findWays_175, gM_findWays_178, gM_findWays_179, gM_findWays_180, gM_findWays_181, gM_findWays_184, gM_findWays_187, gM_findWays_188, gM_findWays_191, gM_findWays_192, gM_findWays_193, gM_findWays_194, gM_findWays_195, gM_findWays_198, gM_findWays_199, gM_findWays_200, gM_findWays_201, gM_findWays_202, gM_findWays_203, gM_findWays_204, gM_findWays_205, gM_findWays_206, gM_findWays_209, gM_findWays_215, gM_findWays_218, ↓reduceIte, Bool.false_eq_true, Bool.true_eq_false, qk_i, qk_r, qk_n, Option.toList_some, Option.toList_none, List.cons_append, List.nil_append, true_and, and_true, true_or, or_true, eq_self, if_true, if_false, q_b1, q_b2, c_A, c_R, c_O, c_M, c_H1, c_H8, c_H15, e1, hv.1, x_M_isWithin, hb, q_z0, n1z', ↓reduceIte, if_true, if_false, eq_self, not_true, not_false_eq_true, not_true_eq_false, Bool.true_eq_false, Bool.false_eq_true, Bool.not_false, Bool.not_true, Bool.and_true, Bool.and_false, Bool.true_and, Bool.false_and]
      repeat' split
      all_goals exact fin _ _
    · rw [if_pos e]
      simp only [gM_findWays_0, gM_findWays_1, gM_findWays_2, gM_findWays_3, gM_findWays_6, gM_findWays_9, gM_findWays_10, gM_findWays_13, gM_findWays_14, gM_findWays_15, gM_findWays_16, gM_findWays_19, gM_findWays_22, gM_findWays_23, gM_findWays_26, gM_findWays_27, gM_findWays_28, gM_findWays_29, gM_findWays_30, gM_findWays_31, gM_findWays_32, gM_findWays_35, gM_findWays_38, gM_findWays_39, gM_findWays_40, gM_findWays_41, gM_findWays_44, gM_findWays_47, gM_findWays_48, gM_findWays_49, gM_findWays_52, gM_findWays_55, gM_findWays_56, gM_findWays_57, gM_findWays_58, gM_findWays_59, gM_findWays_60, gM_findWays_61, gM_findWays_62, gM_findWays_64, gM_findWays_66, gM_findWays_67, gM_findWays_70, gM_findWays_71, gM_findWays_73, gM_findWays_74, gM_findWays_77, gM_findWays_80, gM_findWays_81, gM_findWays_82, gM_findWays_84, gM_findWays_87, gM_findWays_90, gM_findWays_91, gM_findWays_94, gM_findWays_95, gM_findWays_96, gM_findWays_97, gM_findWays_98, gM_findWays_101, gM_findWays_103, gM_findWays_104, gM_findWays_105, gM_findWays_106, gM_findWays_109, gM_findWays_112, gM_findWays_115, gM_findWays_118, gM_findWays_121, gM_findWays_123, gM_findWays_126, gM_findWays_127, gM_findWays_130, gM_findWays_131, gM_findWays_132, gM_findWays_133, gM_findWays_136, gM_findWays_137, gM_findWays_140, gM_findWays_141, gM_findWays_142, gM_findWays_143, gM_findWays_145, gM_findWays_146, gM_findWays_149, gM_findWays_152, gM_findWays_153, gM_findWays_154, gM_findWays_155, gM_findWays_158, gM_findWays_161, gM_findWays_162, gM_findWays_163, gM_findWays_166, gM_findWays_167, gM_findWays_168, gM_findWays_169, gM_findWays_170, gM_findWays_171, gM_findWays_172, gM_findWays_175, gM_findWays_178, gM_findWays_179, gM_findWays_180, gM_findWays_181, gM_findWays_184, gM_findWays_187, gM_findWays_188, gM_findWays_191, gM_findWays_192, gM_findWays_193, gM_findWays_194, gM_findWays_195, gM_findWays_198, gM_findWays_199, gM_findWays_200, gM_findWays_201, gM_findWays_202, gM_findWays_203, gM_findWays_204, gM_findWays_205, gM_findWays_206, gM_findWays_209, gM_findWays_215, gM_findWays_218, ↓reduceIte, Bool.false_eq_true, Bool.true_eq_false, qk_i, qk_r, qk_n, Option.toList_some, Option.toList_none, List.cons_append, List.nil_append, true_and, and_true, true_or, or_true, eq_self, if_true, if_false, q_b1, q_b2, c_A, c_R, c_O, c_M, c_H1, c_H8, c_H15, aD_45, hin, cj]
      cases hw : wi h W s
      · have fin : ∀ (o3 : Int32) (o4 : Option Value), q_g 106 none Q 212 [some (.ref 30), some (.int (nI W)), some (.int (nI s)), some (.int o3), o4] [] (q_put M 45 s 0) := fun o3 o4 => next _ _ _ (ep 0) (hup 0) (hfp 0) (by rw [q_put_at, if_pos rfl, dN_out hW hs e (by rw [hw]; decide)]; rfl)
        rw [gM_findWays_144]
        simp only [gM_findWays_0, gM_findWays_1, gM_findWays_2, gM_findWays_3, gM_findWays_6, gM_findWays_9, gM_findWays_10, gM_findWays_13, gM_findWays_14, gM_findWays_15, gM_findWays_16, gM_findWays_19, gM_findWays_22, gM_findWays_23, gM_findWays_26, gM_findWays_27, gM_findWays_28, gM_findWays_29, gM_findWays_30, gM_findWays_31, gM_findWays_32, gM_findWays_35, gM_findWays_38, gM_findWays_39, gM_findWays_40, gM_findWays_41, gM_findWays_44, gM_findWays_47, gM_findWays_48, gM_findWays_49, gM_findWays_52, gM_findWays_55, gM_findWays_56, gM_findWays_57, gM_findWays_58, gM_findWays_59, gM_findWays_60, gM_findWays_61, gM_findWays_62, gM_findWays_64, gM_findWays_66, gM_findWays_67, gM_findWays_70, gM_findWays_71, gM_findWays_73, gM_findWays_74, gM_findWays_77, gM_findWays_80, gM_findWays_81, gM_findWays_82, gM_findWays_84, gM_findWays_87, gM_findWays_90, gM_findWays_91, gM_findWays_94, gM_findWays_95, gM_findWays_96, gM_findWays_97, gM_findWays_98, gM_findWays_101, gM_findWays_103, gM_findWays_104, gM_findWays_105, gM_findWays_106, gM_findWays_109, gM_findWays_112, gM_findWays_115, gM_findWays_118, gM_findWays_121, gM_findWays_123, gM_findWays_126, gM_findWays_127, gM_findWays_130, gM_findWays_131, gM_findWays_132, gM_findWays_133, gM_findWays_136, gM_findWays_137, gM_findWays_140, gM_findWays_141, gM_findWays_142, gM_findWays_143, gM_findWays_145, gM_findWays_146, gM_findWays_149, gM_findWays_152, gM_findWays_153, gM_findWays_154, gM_findWays_155, gM_findWays_158, gM_findWays_161, gM_findWays_162, gM_findWays_163, gM_findWays_166, gM_findWays_167, gM_findWays_168, gM_findWays_169, gM_findWays_170, gM_findWays_171, gM_findWays_172, gM_findWays_175, gM_findWays_178, gM_findWays_179, gM_findWays_180, gM_findWays_181, gM_findWays_184, gM_findWays_187, gM_findWays_188, gM_findWays_191, gM_findWays_192, gM_findWays_193, gM_findWays_194, gM_findWays_195, gM_findWays_198, gM_findWays_199, gM_findWays_200, gM_findWays_201, gM_findWays_202, gM_findWays_203, gM_findWays_204, gM_findWays_205, gM_findWays_206, gM_findWays_209, gM_findWays_215, gM_findWays_218, ↓reduceIte, Bool.false_eq_true, Bool.true_eq_false, qk_i, qk_r, qk_n, Option.toList_some, Option.toList_none, List.cons_append, List.nil_append, true_and, and_true, true_or, or_true, eq_self, if_true, if_false, q_b1, q_b2, c_A, c_R, c_O, c_M, c_H1, c_H8, c_H15, e1, hv.1, x_M_isWithin, hb, hw, q_z0, n1z', ↓reduceIte, if_true, if_false, eq_self, not_true, not_false_eq_true, not_true_eq_false, Bool.true_eq_false, Bool.false_eq_true, Bool.not_false, Bool.not_true, Bool.and_true, Bool.and_false, Bool.true_and, Bool.false_and]
        repeat' split
        all_goals exact fin _ _
      · refine m_fw2i (M0 := M0) g hW hs e hw (fun M2 o3 o4 hM2 hu2 hf2 hp2 => ?_) n 0 (by omega) _ _ r0 (ep 0) (hup 0) (hfp 0) (by rw [q_put_at, if_pos rfl]; rfl)
        refine next M2 _ _ hM2 hu2 hf2 ?_
        rw [hp2, dN_in hW hs e hw]
theorem m_findWays (g : gH H n h) (r : RM M H) (hW : W < 1024) (hQ : ∀ M', eqx Sf M M' → (∀ i, i < 1024 → M' 44 i = nI (uN H n h W i)) → (∀ i, i < 1024 → M' 45 i = nI (dN H n h W i)) → Q none M') : q_Run 106 [.ref 30, .int (nI W)] M Q := by
  rw [e_M_findWays]
  simp only [gM_findWays_0, gM_findWays_1, gM_findWays_3, gM_findWays_6, gM_findWays_9, gM_findWays_10, gM_findWays_13, gM_findWays_14, gM_findWays_15, gM_findWays_16, gM_findWays_19, gM_findWays_22, gM_findWays_23, gM_findWays_26, gM_findWays_27, gM_findWays_28, gM_findWays_29, gM_findWays_30, gM_findWays_31, gM_findWays_32, gM_findWays_35, gM_findWays_38, gM_findWays_39, gM_findWays_40, gM_findWays_41, gM_findWays_44, gM_findWays_47, gM_findWays_48, gM_findWays_49, gM_findWays_52, gM_findWays_55, gM_findWays_56, gM_findWays_57, gM_findWays_58, gM_findWays_59, gM_findWays_60, gM_findWays_61, gM_findWays_62, gM_findWays_64, gM_findWays_66, gM_findWays_67, gM_findWays_70, gM_findWays_71, gM_findWays_73, gM_findWays_74, gM_findWays_77, gM_findWays_80, gM_findWays_81, gM_findWays_82, gM_findWays_84, gM_findWays_87, gM_findWays_90, gM_findWays_91, gM_findWays_94, gM_findWays_95, gM_findWays_96, gM_findWays_97, gM_findWays_98, gM_findWays_101, gM_findWays_103, gM_findWays_104, gM_findWays_105, gM_findWays_106, gM_findWays_109, gM_findWays_112, gM_findWays_115, gM_findWays_118, gM_findWays_121, gM_findWays_122, gM_findWays_123, gM_findWays_126, gM_findWays_127, gM_findWays_130, gM_findWays_131, gM_findWays_132, gM_findWays_133, gM_findWays_136, gM_findWays_137, gM_findWays_140, gM_findWays_141, gM_findWays_142, gM_findWays_143, gM_findWays_144, gM_findWays_145, gM_findWays_146, gM_findWays_149, gM_findWays_152, gM_findWays_153, gM_findWays_154, gM_findWays_155, gM_findWays_158, gM_findWays_161, gM_findWays_162, gM_findWays_163, gM_findWays_166, gM_findWays_167, gM_findWays_168, gM_findWays_169, gM_findWays_170, gM_findWays_171, gM_findWays_172, gM_findWays_175, gM_findWays_178, gM_findWays_179, gM_findWays_180, gM_findWays_181, gM_findWays_184, gM_findWays_187, gM_findWays_188, gM_findWays_191, gM_findWays_192, gM_findWays_193, gM_findWays_194, gM_findWays_195, gM_findWays_198, gM_findWays_199, gM_findWays_200, gM_findWays_201, gM_findWays_202, gM_findWays_203, gM_findWays_204, gM_findWays_205, gM_findWays_206, gM_findWays_209, gM_findWays_212, gM_findWays_215, gM_findWays_218, ↓reduceIte, Bool.false_eq_true, Bool.true_eq_false, qk_i, qk_r, qk_n, Option.toList_some, Option.toList_none, List.cons_append, List.nil_append, true_and, and_true, true_or, or_true, eq_self, if_true, if_false, q_b1, q_b2, c_A, c_R, c_O, c_M, c_H1, c_H8, c_H15]
  refine m_fw1 (M0 := M) (W := W) g r (fun M1 o2 o3 o4 hM1 hu1 => ?_) 1024 0 (by omega) M _ _ eqx.rf (fun i hi => absurd hi (by omega))
  have e : (1023 : Int32) = nI 1024 + (-1) := by decide
  simp only [gM_findWays_0, gM_findWays_1, gM_findWays_3, gM_findWays_6, gM_findWays_9, gM_findWays_10, gM_findWays_13, gM_findWays_14, gM_findWays_15, gM_findWays_16, gM_findWays_19, gM_findWays_22, gM_findWays_23, gM_findWays_26, gM_findWays_27, gM_findWays_28, gM_findWays_29, gM_findWays_30, gM_findWays_31, gM_findWays_32, gM_findWays_35, gM_findWays_38, gM_findWays_39, gM_findWays_40, gM_findWays_41, gM_findWays_44, gM_findWays_47, gM_findWays_48, gM_findWays_49, gM_findWays_52, gM_findWays_55, gM_findWays_56, gM_findWays_57, gM_findWays_58, gM_findWays_59, gM_findWays_60, gM_findWays_61, gM_findWays_62, gM_findWays_64, gM_findWays_66, gM_findWays_67, gM_findWays_70, gM_findWays_71, gM_findWays_73, gM_findWays_74, gM_findWays_77, gM_findWays_80, gM_findWays_81, gM_findWays_82, gM_findWays_84, gM_findWays_87, gM_findWays_90, gM_findWays_91, gM_findWays_94, gM_findWays_95, gM_findWays_96, gM_findWays_97, gM_findWays_98, gM_findWays_101, gM_findWays_103, gM_findWays_104, gM_findWays_105, gM_findWays_106, gM_findWays_109, gM_findWays_112, gM_findWays_115, gM_findWays_118, gM_findWays_121, gM_findWays_123, gM_findWays_126, gM_findWays_127, gM_findWays_130, gM_findWays_131, gM_findWays_132, gM_findWays_133, gM_findWays_136, gM_findWays_137, gM_findWays_140, gM_findWays_141, gM_findWays_142, gM_findWays_143, gM_findWays_144, gM_findWays_145, gM_findWays_146, gM_findWays_149, gM_findWays_152, gM_findWays_153, gM_findWays_154, gM_findWays_155, gM_findWays_158, gM_findWays_161, gM_findWays_162, gM_findWays_163, gM_findWays_166, gM_findWays_167, gM_findWays_168, gM_findWays_169, gM_findWays_170, gM_findWays_171, gM_findWays_172, gM_findWays_175, gM_findWays_178, gM_findWays_179, gM_findWays_180, gM_findWays_181, gM_findWays_184, gM_findWays_187, gM_findWays_188, gM_findWays_191, gM_findWays_192, gM_findWays_193, gM_findWays_194, gM_findWays_195, gM_findWays_198, gM_findWays_199, gM_findWays_200, gM_findWays_201, gM_findWays_202, gM_findWays_203, gM_findWays_204, gM_findWays_205, gM_findWays_206, gM_findWays_209, gM_findWays_212, gM_findWays_215, gM_findWays_218, ↓reduceIte, Bool.false_eq_true, Bool.true_eq_false, qk_i, qk_r, qk_n, Option.toList_some, Option.toList_none, List.cons_append, List.nil_append, true_and, and_true, true_or, or_true, eq_self, if_true, if_false, q_b1, q_b2, c_A, c_R, c_O, c_M, c_H1, c_H8, c_H15]
  rw [e]
  exact m_fw2 (M0 := M) (u := M1 44) g hW r (fun M' a b c => hQ M' a (fun i hi => by rw [b]; exact hu1 i hi) c) 1024 (Nat.le_refl _) M1 _ _ hM1 rfl (fun i h2 h3 => absurd h3 (by omega))
/-! the class's row -/
def cP (H : q_M) (n h W i s : Nat) : Nat := (if s = h then 1 else 0) + sumT (fun t => if ed H h W s t = true ∧ wi h W s = true ∧ dif s (2 ^ t) < i then uN H n h W (dif s (2 ^ t)) else 0) n
theorem sub_le {x y : Nat} (e : ∀ i, x.testBit i = true → y.testBit i = true) : x ≤ y := by
  have h := and_of_sub e
  rw [← h]
  exact Nat.and_le_right
theorem sumT_0 : ∀ k, sumT (fun _ => 0) k = 0
  | 0 => rfl
  | k + 1 => by
    unfold sumT
    rw [sumT_0 k]
theorem sumT_z {f : Nat → Nat} : ∀ k, (∀ t, t < k → f t = 0) → sumT f k = 0
  | 0, _ => rfl
  | k + 1, e => by
    unfold sumT
    rw [sumT_z k (fun t ht => e t (by omega)), e k (by omega)]
theorem ed_h (hh : h < 1024) {t : Nat} : ed H h W h t = false := by
  cases q : ed H h W h t
  · rfl
  · have a := (Bool.and_eq_true _ _).mp q
    have b := ((Bool.and_eq_true _ _).mp a.2).1
    have c := ((wi_iff hh (dif_1024 hh)).mp b).1 t a.1
    rw [dif_bit hh] at c
    cases c
theorem cP_full (hh : h < 1024) {i s : Nat} (hs : s < 1024) (hi : s ≤ i) : cP H n h W i s = uN H n h W s := by
  unfold cP
  by_cases e : s = h
  · subst e
    have e2 : sumT (fun t => if ed H s W s t = true ∧ wi s W s = true ∧ dif s (2 ^ t) < i then uN H n s W (dif s (2 ^ t)) else 0) n = 0 := by
      refine sumT_z n fun t _ => if_neg fun q => ?_
      rw [ed_h hh] at q
      exact absurd q.1 (by decide)
    rw [e2, uN_h hh, if_pos rfl]
  · rw [if_neg e, Nat.zero_add]
    cases hw : wi h W s
    · rw [uN_out hs e (by rw [hw]; decide)]
      exact sumT_z n fun t _ => if_neg fun q => absurd q.2.1 (by decide)
    · rw [uN_in hs e hw]
      refine sumT_congr n fun t _ => ?_
      by_cases c : ed H h W s t = true
      · have hb : s.testBit t = true := ((Bool.and_eq_true _ _).mp c).1
        have := dif_lt hs hb
        rw [if_pos c, if_pos ⟨c, rfl, by omega⟩]
      · rw [if_neg c, if_neg (fun q => c q.1)]
theorem cP_start (hh : h < 1024) {s : Nat} (hs : s < 1024) : cP H n h W h s = if s = h then 1 else 0 := by
  unfold cP
  have e2 : sumT (fun t => if ed H h W s t = true ∧ wi h W s = true ∧ dif s (2 ^ t) < h then uN H n h W (dif s (2 ^ t)) else 0) n = 0 := by
    refine sumT_z n fun t _ => if_neg fun q => ?_
    have a := (Bool.and_eq_true _ _).mp q.1
    have b := ((Bool.and_eq_true _ _).mp a.2).1
    have c := sub_le ((wi_iff hh (dif_1024 hs)).mp b).1
    omega
  rw [e2, Nat.add_zero]
/-- what set i gives on -/
def nwf (H : q_M) (n h W m i s t : Nat) : Nat := if m.testBit t = true ∧ s = i ||| 2 ^ t then uN H n h W i else 0
theorem cP_step (g : gH H n h) (hW : W < 1024) {i s : Nat} (hi : i < 1024) (hs : s < 1024) (hwi : wi h W i = true) : cP H n h W (i + 1) s = cP H n h W i s + sumT (nwf H n h W (mayN H i n &&& W) i s) n := by
  have hh := g.hlt
  have h10 := g.1
  unfold cP
  rw [Nat.add_assoc, ← sumT_add]
  refine congrArg _ (sumT_congr n fun t ht => ?_)
  have new_of : (mayN H i n &&& W).testBit t = true ∧ s = i ||| 2 ^ t → ed H h W s t = true ∧ wi h W s = true ∧ dif s (2 ^ t) = i := by
    intro q
    have b := q.1
    rw [Nat.testBit_and] at b
    obtain ⟨b1, b2⟩ := (Bool.and_eq_true _ _).mp b
    have hbi := mayN_dis hi h10 t b1
    obtain ⟨-, hcan⟩ := mayN_tb' g b1
    have hd : dif s (2 ^ t) = i := by rw [q.2, or_dif hi (by omega) hbi]
    have hsb : s.testBit t = true := by rw [q.2, Nat.testBit_or, Nat.testBit_two_pow_self, Bool.or_true]
    obtain ⟨w1, w2⟩ := (wi_iff hh hi).mp hwi
    refine ⟨?_, (wi_iff hh hs).mpr ⟨fun u hu => ?_, fun u hu => ?_⟩, hd⟩
    · unfold ed
      rw [hsb, hd, hwi, hcan]
      rfl
    · rw [q.2, Nat.testBit_or, w1 u hu, Bool.true_or]
    · rw [q.2, Nat.testBit_or, Nat.testBit_two_pow] at hu
      rcases (Bool.or_eq_true _ _).mp hu with z | z
      · exact w2 u z
      · have : t = u := of_decide_eq_true z
        rw [← this]
        exact b2
  unfold nwf
  by_cases A : ed H h W s t = true ∧ wi h W s = true
  · rcases Nat.lt_trichotomy (dif s (2 ^ t)) i with hlt | heq | hgt
    · rw [if_pos ⟨A.1, A.2, by omega⟩, if_pos ⟨A.1, A.2, hlt⟩, if_neg (fun q => by have := (new_of q).2.2; omega), Nat.add_zero]
    · have a := (Bool.and_eq_true _ _).mp A.1
      have b := (Bool.and_eq_true _ _).mp a.2
      have hor := dif_or hs a.1
      have hWt := ((wi_iff hh hs).mp A.2).2 t a.1
      have hnew : (mayN H i n &&& W).testBit t = true ∧ s = i ||| 2 ^ t := by
        refine ⟨?_, by rw [← heq]; exact hor.symm⟩
        rw [Nat.testBit_and, hWt, mayN_tb, decide_eq_true ht, ← heq, b.2]
        rfl
      rw [if_pos ⟨A.1, A.2, by omega⟩, if_neg (fun q => by omega), if_pos hnew, Nat.zero_add, heq]
    · rw [if_neg (fun q => by omega), if_neg (fun q => by omega), if_neg (fun q => by have := (new_of q).2.2; omega)]
  · rw [if_neg (fun q => A ⟨q.1, q.2.1⟩), if_neg (fun q => A ⟨q.1, q.2.1⟩), if_neg (fun q => A ⟨(new_of q).1, (new_of q).2.1⟩)]
theorem cP_same {i s : Nat} (hz : uN H n h W i = 0) : cP H n h W (i + 1) s = cP H n h W i s := by
  unfold cP
  refine congrArg _ (sumT_congr n fun t ht => ?_)
  by_cases A : ed H h W s t = true ∧ wi h W s = true
  · rcases Nat.lt_trichotomy (dif s (2 ^ t)) i with hlt | heq | hgt
    · rw [if_pos ⟨A.1, A.2, by omega⟩, if_pos ⟨A.1, A.2, hlt⟩]
    · rw [if_pos ⟨A.1, A.2, by omega⟩, if_neg (fun q => by omega), heq, hz]
    · rw [if_neg (fun q => by omega), if_neg (fun q => by omega)]
  · rw [if_neg (fun q => A ⟨q.1, q.2.1⟩), if_neg (fun q => A ⟨q.1, q.2.1⟩)]
theorem RC.so {M' : q_M} (r : RC 1 M H) (e : eqx So M M') : RC 1 M' H := r.of fun c _ hc => e c (by unfold So; simp; omega)
theorem c_ct1 (hW : W < 1024) (hQ : ∀ M (o : Int32), eqx So M0 M → (∀ s, s ≤ W → M 27 s = 0) → q_g 22 none Q 22 [some (.ref 24), some (.ref 1), some (.int (nI W)), some (.int o), none, none, none, none] [] M) : ∀ k j, j + k = W + 1 → ∀ M, eqx So M0 M → (∀ s, s < j → M 27 s = 0) →
    q_g 22 none Q 2 [some (.ref 24), some (.ref 1), some (.int (nI W)), some (.int (nI j)), none, none, none, none] [] M := by
  intro k
  induction k with
  | zero =>
    intro j hj M hM hz
    have h1 : nI W < nI j := nI_lt (by omega) (by omega)
    rw [gO_countTo_2]
    simp only [gO_countTo_0, gO_countTo_1, gO_countTo_3, gO_countTo_4, gO_countTo_7, gO_countTo_8, gO_countTo_11, gO_countTo_12, gO_countTo_13, gO_countTo_16, gO_countTo_19, gO_countTo_23, gO_countTo_26, gO_countTo_27, gO_countTo_30, gO_countTo_31, gO_countTo_34, gO_countTo_35, gO_countTo_38, gO_countTo_39, gO_countTo_40, gO_countTo_41, gO_countTo_44, gO_countTo_45, gO_countTo_48, gO_countTo_49, gO_countTo_52, gO_countTo_54, gO_countTo_56, gO_countTo_59, gO_countTo_60, gO_countTo_63, gO_countTo_64, gO_countTo_65, gO_countTo_68, gO_countTo_69, gO_countTo_70, gO_countTo_72, gO_countTo_73, gO_countTo_75, gO_countTo_77, gO_countTo_78, gO_countTo_81, gO_countTo_84, gO_countTo_86, gO_countTo_88, gO_countTo_89, gO_countTo_90, gO_countTo_91, gO_countTo_94, gO_countTo_95, gO_countTo_96, gO_countTo_98, gO_countTo_99, gO_countTo_100, gO_countTo_102, gO_countTo_103, gO_countTo_106, gO_countTo_108, gO_countTo_109, gO_countTo_112, gO_countTo_114, gO_countTo_117, gO_countTo_119, gO_countTo_120, gO_countTo_123, gO_countTo_126, gO_countTo_129, gO_countTo_132, gO_countTo_135, gO_countTo_136, gO_countTo_139, gO_countTo_140, gO_countTo_143, ↓reduceIte, Bool.false_eq_true, Bool.true_eq_false, qk_i, qk_r, qk_n, Option.toList_some, Option.toList_none, List.cons_append, List.nil_append, true_and, and_true, true_or, or_true, eq_self, if_true, if_false, q_b1, q_b2, c_A, c_R, c_O, c_M, c_H1, c_H8, c_H15, h1]
    exact hQ _ _ hM (fun s hs => hz s (by omega))
  | succ k ih =>
    intro j hj M hM hz
    have h1 : ¬ nI W < nI j := nI_nlt (by omega) (by omega)
    rw [gO_countTo_2]
    simp only [gO_countTo_0, gO_countTo_1, gO_countTo_3, gO_countTo_4, gO_countTo_7, gO_countTo_8, gO_countTo_11, gO_countTo_12, gO_countTo_13, gO_countTo_16, gO_countTo_19, gO_countTo_23, gO_countTo_26, gO_countTo_27, gO_countTo_30, gO_countTo_31, gO_countTo_34, gO_countTo_35, gO_countTo_38, gO_countTo_39, gO_countTo_40, gO_countTo_41, gO_countTo_44, gO_countTo_45, gO_countTo_48, gO_countTo_49, gO_countTo_52, gO_countTo_54, gO_countTo_56, gO_countTo_59, gO_countTo_60, gO_countTo_63, gO_countTo_64, gO_countTo_65, gO_countTo_68, gO_countTo_69, gO_countTo_70, gO_countTo_72, gO_countTo_73, gO_countTo_75, gO_countTo_77, gO_countTo_78, gO_countTo_81, gO_countTo_84, gO_countTo_86, gO_countTo_88, gO_countTo_89, gO_countTo_90, gO_countTo_91, gO_countTo_94, gO_countTo_95, gO_countTo_96, gO_countTo_98, gO_countTo_99, gO_countTo_100, gO_countTo_102, gO_countTo_103, gO_countTo_106, gO_countTo_108, gO_countTo_109, gO_countTo_112, gO_countTo_114, gO_countTo_117, gO_countTo_119, gO_countTo_120, gO_countTo_123, gO_countTo_126, gO_countTo_129, gO_countTo_132, gO_countTo_135, gO_countTo_136, gO_countTo_139, gO_countTo_140, gO_countTo_143, ↓reduceIte, Bool.false_eq_true, Bool.true_eq_false, qk_i, qk_r, qk_n, Option.toList_some, Option.toList_none, List.cons_append, List.nil_append, true_and, and_true, true_or, or_true, eq_self, if_true, if_false, q_b1, q_b2, c_A, c_R, c_O, c_M, c_H1, c_H8, c_H15, h1, rf_O2, x_W_put al_27, nI_1, s_put_nI (k := 27) (m := 1024) (j := j) (by omega) (by omega)]
    refine ih (j + 1) (by omega) _ (hM.qput (by decide)) fun s hs => ?_
    rw [q_put_at]
    split
    · rfl
    · exact hz s (by omega)
theorem c_ct3 {i m : Nat} (g : gH H n h) (hW : W < 1024) (hi : i < 1024) (hm : m < 1024) (hmW : ∀ t, m.testBit t = true → i ||| 2 ^ t ≤ W) (hQ : ∀ M (o : Int32) (o7 : Option Value), eqx So M0 M → (∀ s, s ≤ W → M 27 s = nI (cP H n h W i s + sumT (nwf H n h W m i s) n)) → q_g 22 none Q 129 [some (.ref 24), some (.ref 1), some (.int (nI W)), some (.int (nI i)), some (.int (nI (uN H n h W i))), some (.int (nI m)), some (.int o), o7] [] M) :
    ∀ k j, j + k = n → ∀ M (o7 : Option Value), RC 1 M0 H → eqx So M0 M → (∀ s, s ≤ W → M 27 s = nI (cP H n h W i s + sumT (nwf H n h W m i s) j)) →
    q_g 22 none Q 75 [some (.ref 24), some (.ref 1), some (.int (nI W)), some (.int (nI i)), some (.int (nI (uN H n h W i))), some (.int (nI m)), some (.int (nI j)), o7] [] M := by
  have h10 := g.1
  intro k
  induction k with
  | zero =>
    intro j hj M o7 r0 hM hf
    have : j = n := by omega
    subst this
    rw [gO_countTo_75]
    simp only [gO_countTo_0, gO_countTo_1, gO_countTo_2, gO_countTo_3, gO_countTo_4, gO_countTo_7, gO_countTo_8, gO_countTo_11, gO_countTo_12, gO_countTo_13, gO_countTo_16, gO_countTo_19, gO_countTo_22, gO_countTo_23, gO_countTo_26, gO_countTo_27, gO_countTo_30, gO_countTo_31, gO_countTo_34, gO_countTo_35, gO_countTo_38, gO_countTo_39, gO_countTo_40, gO_countTo_41, gO_countTo_44, gO_countTo_45, gO_countTo_48, gO_countTo_49, gO_countTo_52, gO_countTo_54, gO_countTo_56, gO_countTo_59, gO_countTo_60, gO_countTo_63, gO_countTo_64, gO_countTo_65, gO_countTo_68, gO_countTo_69, gO_countTo_70, gO_countTo_72, gO_countTo_73, gO_countTo_77, gO_countTo_78, gO_countTo_81, gO_countTo_84, gO_countTo_86, gO_countTo_88, gO_countTo_89, gO_countTo_90, gO_countTo_91, gO_countTo_94, gO_countTo_95, gO_countTo_96, gO_countTo_98, gO_countTo_99, gO_countTo_100, gO_countTo_102, gO_countTo_103, gO_countTo_106, gO_countTo_108, gO_countTo_109, gO_countTo_112, gO_countTo_114, gO_countTo_117, gO_countTo_119, gO_countTo_120, gO_countTo_123, gO_countTo_126, gO_countTo_132, gO_countTo_135, gO_countTo_136, gO_countTo_139, gO_countTo_140, gO_countTo_143, ↓reduceIte, Bool.false_eq_true, Bool.true_eq_false, qk_i, qk_r, qk_n, Option.toList_some, Option.toList_none, List.cons_append, List.nil_append, true_and, and_true, true_or, or_true, eq_self, if_true, if_false, q_b1, q_b2, c_A, c_R, c_O, c_M, c_H1, c_H8, c_H15, e6_of g (r0.so hM), Int32.le_refl]
    exact hQ _ _ _ hM hf
  | succ k ih =>
    intro j hj M o7 r0 hM hf
    have h1 : ¬ nI n ≤ nI j := nI_ge (by omega) (by omega)
    rw [gO_countTo_75]
    simp only [gO_countTo_0, gO_countTo_1, gO_countTo_2, gO_countTo_3, gO_countTo_4, gO_countTo_7, gO_countTo_8, gO_countTo_11, gO_countTo_12, gO_countTo_13, gO_countTo_16, gO_countTo_19, gO_countTo_22, gO_countTo_23, gO_countTo_26, gO_countTo_27, gO_countTo_30, gO_countTo_31, gO_countTo_34, gO_countTo_35, gO_countTo_38, gO_countTo_39, gO_countTo_40, gO_countTo_41, gO_countTo_44, gO_countTo_45, gO_countTo_48, gO_countTo_49, gO_countTo_52, gO_countTo_54, gO_countTo_56, gO_countTo_59, gO_countTo_60, gO_countTo_63, gO_countTo_64, gO_countTo_65, gO_countTo_68, gO_countTo_69, gO_countTo_70, gO_countTo_72, gO_countTo_73, gO_countTo_77, gO_countTo_78, gO_countTo_81, gO_countTo_84, gO_countTo_86, gO_countTo_88, gO_countTo_89, gO_countTo_90, gO_countTo_91, gO_countTo_94, gO_countTo_95, gO_countTo_96, gO_countTo_98, gO_countTo_99, gO_countTo_100, gO_countTo_102, gO_countTo_103, gO_countTo_106, gO_countTo_108, gO_countTo_109, gO_countTo_112, gO_countTo_114, gO_countTo_117, gO_countTo_119, gO_countTo_120, gO_countTo_123, gO_countTo_126, gO_countTo_132, gO_countTo_135, gO_countTo_136, gO_countTo_139, gO_countTo_140, gO_countTo_143, ↓reduceIte, Bool.false_eq_true, Bool.true_eq_false, qk_i, qk_r, qk_n, Option.toList_some, Option.toList_none, List.cons_append, List.nil_append, true_and, and_true, true_or, or_true, eq_self, if_true, if_false, q_b1, q_b2, c_A, c_R, c_O, c_M, c_H1, c_H8, c_H15, h1, e6_of g (r0.so hM), bit_nI (show m < 2 ^ 31 by omega) (show j < 31 by omega), nI_1, rf_O2, x_W_get al_27, x_W_put al_27, or1_nI (show j < 31 by omega)]
    cases hb : m.testBit j
    · simp only [n1z', ↓reduceIte, if_true, if_false, eq_self, not_true, not_false_eq_true, not_true_eq_false, Bool.true_eq_false, Bool.false_eq_true, Bool.not_false, Bool.not_true, Bool.and_true, Bool.and_false, Bool.true_and, Bool.false_and]
      refine ih (j + 1) (by omega) _ _ r0 hM fun s hs => ?_
      show _ = nI (_ + (_ + nwf H n h W m i s j))
      have : nwf H n h W m i s j = 0 := by
        unfold nwf
        rw [if_neg (fun q => by rw [hb] at q; exact absurd q.1 (by decide))]
      rw [this, Nat.add_zero]
      exact hf s hs
    · have hle := hmW j hb
      simp only [n1z', ↓reduceIte, if_true, if_false, eq_self, not_true, not_false_eq_true, not_true_eq_false, Bool.true_eq_false, Bool.false_eq_true, Bool.not_false, Bool.not_true, Bool.and_true, Bool.and_false, Bool.true_and, Bool.false_and, s_get_nI (M := M) (k := 27) (n := 1024) (j := i ||| 2 ^ j) (by omega) (by omega), s_put_nI (M := M) (k := 27) (m := 1024) (j := i ||| 2 ^ j) (by omega) (by omega), hf _ hle, nI_add]
      refine ih (j + 1) (by omega) _ _ r0 (hM.qput (by decide)) fun s hs => ?_
      show _ = nI (_ + (_ + nwf H n h W m i s j))
      rw [q_put_at]
      by_cases e : s = i ||| 2 ^ j
      · have : nwf H n h W m i s j = uN H n h W i := by
          unfold nwf
          rw [if_pos ⟨hb, e⟩]
        rw [if_pos e, this, e, Nat.add_assoc]
      · have : nwf H n h W m i s j = 0 := by
          unfold nwf
          rw [if_neg (fun q => e q.2)]
        rw [if_neg e, this, Nat.add_zero]
        exact hf s hs
theorem c_ct2 (g : gH H n h) (r0 : RC 1 M0 H) (hW : W < 1024) (hbig : ∀ i, i < 1024 → uN H n h W i < 2 ^ 31) (hhW : wi h W h = true) (hQ : ∀ M, eqx So M0 M → (∀ s, s ≤ W → M 27 s = nI (uN H n h W s)) → Q (some (.int (nI (uN H n h W W)))) M) : ∀ k i, i + k = W → ∀ M (o4 o5 o6 o7 : Option Value), eqx So M0 M → (∀ s, s ≤ W → M 27 s = nI (cP H n h W i s)) →
    q_g 22 none Q 39 [some (.ref 24), some (.ref 1), some (.int (nI W)), some (.int (nI i)), o4, o5, o6, o7] [] M := by
  have h10 := g.1
  intro k
  induction k with
  | zero =>
    intro i hi M o4 o5 o6 o7 hM hf
    have : i = W := by omega
    subst this
    have hfull : ∀ s, s ≤ i → M 27 s = nI (uN H n h i s) := fun s hs => by rw [hf s hs, cP_full g.hlt (by omega) hs]
    rw [gO_countTo_39]
    simp only [gO_countTo_0, gO_countTo_1, gO_countTo_2, gO_countTo_3, gO_countTo_4, gO_countTo_7, gO_countTo_8, gO_countTo_11, gO_countTo_12, gO_countTo_13, gO_countTo_16, gO_countTo_19, gO_countTo_22, gO_countTo_23, gO_countTo_26, gO_countTo_27, gO_countTo_30, gO_countTo_31, gO_countTo_34, gO_countTo_35, gO_countTo_38, gO_countTo_40, gO_countTo_41, gO_countTo_44, gO_countTo_45, gO_countTo_48, gO_countTo_49, gO_countTo_52, gO_countTo_54, gO_countTo_56, gO_countTo_59, gO_countTo_60, gO_countTo_63, gO_countTo_64, gO_countTo_65, gO_countTo_68, gO_countTo_69, gO_countTo_70, gO_countTo_72, gO_countTo_73, gO_countTo_75, gO_countTo_77, gO_countTo_78, gO_countTo_81, gO_countTo_84, gO_countTo_86, gO_countTo_88, gO_countTo_89, gO_countTo_90, gO_countTo_91, gO_countTo_94, gO_countTo_95, gO_countTo_96, gO_countTo_98, gO_countTo_99, gO_countTo_100, gO_countTo_102, gO_countTo_103, gO_countTo_106, gO_countTo_108, gO_countTo_109, gO_countTo_112, gO_countTo_114, gO_countTo_117, gO_countTo_119, gO_countTo_120, gO_countTo_123, gO_countTo_126, gO_countTo_129, gO_countTo_132, gO_countTo_135, gO_countTo_136, gO_countTo_139, gO_countTo_140, gO_countTo_143, ↓reduceIte, Bool.false_eq_true, Bool.true_eq_false, qk_i, qk_r, qk_n, Option.toList_some, Option.toList_none, List.cons_append, List.nil_append, true_and, and_true, true_or, or_true, eq_self, if_true, if_false, q_b1, q_b2, c_A, c_R, c_O, c_M, c_H1, c_H8, c_H15, Int32.le_refl, rf_O2, x_W_get al_27, s_get_nI (M := M) (k := 27) (n := 1024) (j := i) (by omega) (by omega), hfull i (Nat.le_refl _)]
    exact hQ _ hM hfull
  | succ k ih =>
    intro i hi M o4 o5 o6 o7 hM hf
    have r := r0.so hM
    have h1 : ¬ nI W ≤ nI i := nI_ge (by omega) (by omega)
    have hcome : M 27 i = nI (uN H n h W i) := by rw [hf i (by omega), cP_full g.hlt (by omega) (Nat.le_refl _)]
    have hb := hbig i (by omega)
    have nz : (nI (uN H n h W i) = 0) = (uN H n h W i = 0) := propext (nI_eq (b := 0) hb (by omega))
    rw [gO_countTo_39]
    simp only [gO_countTo_0, gO_countTo_1, gO_countTo_2, gO_countTo_3, gO_countTo_4, gO_countTo_7, gO_countTo_8, gO_countTo_11, gO_countTo_12, gO_countTo_13, gO_countTo_16, gO_countTo_19, gO_countTo_22, gO_countTo_23, gO_countTo_26, gO_countTo_27, gO_countTo_30, gO_countTo_31, gO_countTo_34, gO_countTo_35, gO_countTo_38, gO_countTo_40, gO_countTo_41, gO_countTo_44, gO_countTo_45, gO_countTo_48, gO_countTo_49, gO_countTo_52, gO_countTo_54, gO_countTo_56, gO_countTo_59, gO_countTo_60, gO_countTo_63, gO_countTo_64, gO_countTo_65, gO_countTo_68, gO_countTo_69, gO_countTo_70, gO_countTo_72, gO_countTo_73, gO_countTo_77, gO_countTo_78, gO_countTo_81, gO_countTo_84, gO_countTo_86, gO_countTo_88, gO_countTo_89, gO_countTo_90, gO_countTo_91, gO_countTo_94, gO_countTo_95, gO_countTo_96, gO_countTo_98, gO_countTo_99, gO_countTo_100, gO_countTo_102, gO_countTo_103, gO_countTo_106, gO_countTo_108, gO_countTo_109, gO_countTo_112, gO_countTo_114, gO_countTo_117, gO_countTo_119, gO_countTo_120, gO_countTo_123, gO_countTo_126, gO_countTo_129, gO_countTo_132, gO_countTo_136, gO_countTo_139, gO_countTo_140, gO_countTo_143, ↓reduceIte, Bool.false_eq_true, Bool.true_eq_false, qk_i, qk_r, qk_n, Option.toList_some, Option.toList_none, List.cons_append, List.nil_append, true_and, and_true, true_or, or_true, eq_self, if_true, if_false, q_b1, q_b2, c_A, c_R, c_O, c_M, c_H1, c_H8, c_H15, h1, rf_O2, x_W_get al_27, s_get_nI (M := M) (k := 27) (n := 1024) (j := i) (by omega) (by omega), hcome, nz, y_H_mayBy g r, nx_and]
    by_cases hz : uN H n h W i = 0
    · simp only [hz, n1z', ↓reduceIte, if_true, if_false, eq_self, not_true, not_false_eq_true, not_true_eq_false, Bool.true_eq_false, Bool.false_eq_true, Bool.not_false, Bool.not_true, Bool.and_true, Bool.and_false, Bool.true_and, Bool.false_and]
      have hz' : nI (uN H n h W i) = nI 0 := by rw [hz]
      have e0 : (0 : Int32) = nI 0 := nI_0.symm
      rw [e0]
      refine Eq.mp (by rw [hz']) (c_ct3 (M0 := M0) (W := W) (i := i) (m := 0) (Q := Q) g hW (by omega) (by omega) (fun t ht => by rw [Nat.zero_testBit] at ht; cases ht) (fun M' o o7 hM' hf' => ?_) n 0 (by omega) M o7 r0 hM (fun s hs => by show _ = nI (_ + 0); rw [Nat.add_zero]; exact hf s hs))
      simp only [gO_countTo_0, gO_countTo_1, gO_countTo_2, gO_countTo_3, gO_countTo_4, gO_countTo_7, gO_countTo_8, gO_countTo_11, gO_countTo_12, gO_countTo_13, gO_countTo_16, gO_countTo_19, gO_countTo_22, gO_countTo_23, gO_countTo_26, gO_countTo_27, gO_countTo_30, gO_countTo_31, gO_countTo_34, gO_countTo_35, gO_countTo_38, gO_countTo_40, gO_countTo_41, gO_countTo_44, gO_countTo_45, gO_countTo_48, gO_countTo_49, gO_countTo_52, gO_countTo_54, gO_countTo_56, gO_countTo_59, gO_countTo_60, gO_countTo_63, gO_countTo_64, gO_countTo_65, gO_countTo_68, gO_countTo_69, gO_countTo_70, gO_countTo_72, gO_countTo_73, gO_countTo_75, gO_countTo_77, gO_countTo_78, gO_countTo_81, gO_countTo_84, gO_countTo_86, gO_countTo_88, gO_countTo_89, gO_countTo_90, gO_countTo_91, gO_countTo_94, gO_countTo_95, gO_countTo_96, gO_countTo_98, gO_countTo_99, gO_countTo_100, gO_countTo_102, gO_countTo_103, gO_countTo_106, gO_countTo_108, gO_countTo_109, gO_countTo_112, gO_countTo_114, gO_countTo_117, gO_countTo_119, gO_countTo_120, gO_countTo_123, gO_countTo_126, gO_countTo_129, gO_countTo_132, gO_countTo_135, gO_countTo_136, gO_countTo_139, gO_countTo_140, gO_countTo_143, ↓reduceIte, Bool.false_eq_true, Bool.true_eq_false, qk_i, qk_r, qk_n, Option.toList_some, Option.toList_none, List.cons_append, List.nil_append, true_and, and_true, true_or, or_true, eq_self, if_true, if_false, q_b1, q_b2, c_A, c_R, c_O, c_M, c_H1, c_H8, c_H15, nI_1]
      refine ih (i + 1) (by omega) M' _ _ _ _ hM' fun s hs => ?_
      rw [hf' s hs, cP_same hz]
      have : sumT (nwf H n h W 0 i s) n = 0 := by
        refine sumT_z n fun t _ => if_neg fun q => ?_
        rw [Nat.zero_testBit] at q
        exact absurd q.1 (by decide)
      rw [this, Nat.add_zero]
    · have hwi : wi h W i = true := by
        by_cases e : i = h
        · rw [e]
          exact hhW
        · cases q : wi h W i
          · exact absurd (uN_out (by omega) e (by rw [q]; decide)) hz
          · rfl
      have hsub := ((wi_iff g.hlt (show i < 1024 by omega)).mp hwi).2
      simp only [hz, n1z', ↓reduceIte, if_true, if_false, eq_self, not_true, not_false_eq_true, not_true_eq_false, Bool.true_eq_false, Bool.false_eq_true, Bool.not_false, Bool.not_true, Bool.and_true, Bool.and_false, Bool.true_and, Bool.false_and]
      refine c_ct3 (M0 := M0) (W := W) (i := i) (m := mayN H i n &&& W) g hW (by omega) (Nat.lt_of_le_of_lt Nat.and_le_right hW) (fun t ht => sub_le fun u hu => ?_) (fun M' o o7 hM' hf' => ?_) n 0 (by omega) M o7 r0 hM (fun s hs => by show _ = nI (_ + 0); rw [Nat.add_zero]; exact hf s hs)
      · rw [Nat.testBit_or, Nat.testBit_two_pow] at hu
        rcases (Bool.or_eq_true _ _).mp hu with z | z
        · exact hsub u z
        · have : t = u := of_decide_eq_true z
          subst this
          rw [Nat.testBit_and] at ht
          exact ((Bool.and_eq_true _ _).mp ht).2
      · simp only [gO_countTo_0, gO_countTo_1, gO_countTo_2, gO_countTo_3, gO_countTo_4, gO_countTo_7, gO_countTo_8, gO_countTo_11, gO_countTo_12, gO_countTo_13, gO_countTo_16, gO_countTo_19, gO_countTo_22, gO_countTo_23, gO_countTo_26, gO_countTo_27, gO_countTo_30, gO_countTo_31, gO_countTo_34, gO_countTo_35, gO_countTo_38, gO_countTo_40, gO_countTo_41, gO_countTo_44, gO_countTo_45, gO_countTo_48, gO_countTo_49, gO_countTo_52, gO_countTo_54, gO_countTo_56, gO_countTo_59, gO_countTo_60, gO_countTo_63, gO_countTo_64, gO_countTo_65, gO_countTo_68, gO_countTo_69, gO_countTo_70, gO_countTo_72, gO_countTo_73, gO_countTo_75, gO_countTo_77, gO_countTo_78, gO_countTo_81, gO_countTo_84, gO_countTo_86, gO_countTo_88, gO_countTo_89, gO_countTo_90, gO_countTo_91, gO_countTo_94, gO_countTo_95, gO_countTo_96, gO_countTo_98, gO_countTo_99, gO_countTo_100, gO_countTo_102, gO_countTo_103, gO_countTo_106, gO_countTo_108, gO_countTo_109, gO_countTo_112, gO_countTo_114, gO_countTo_117, gO_countTo_119, gO_countTo_120, gO_countTo_123, gO_countTo_126, gO_countTo_129, gO_countTo_132, gO_countTo_135, gO_countTo_136, gO_countTo_139, gO_countTo_140, gO_countTo_143, ↓reduceIte, Bool.false_eq_true, Bool.true_eq_false, qk_i, qk_r, qk_n, Option.toList_some, Option.toList_none, List.cons_append, List.nil_append, true_and, and_true, true_or, or_true, eq_self, if_true, if_false, q_b1, q_b2, c_A, c_R, c_O, c_M, c_H1, c_H8, c_H15, nI_1]
        refine ih (i + 1) (by omega) M' _ _ _ _ hM' fun s hs => ?_
        rw [hf' s hs, cP_step g hW (by omega) (by omega) hwi]
/-! how many at most -/
def fac : Nat → Nat
  | 0 => 1
  | k + 1 => (k + 1) * fac k
theorem fac_mono : ∀ a, a ≤ 10 → ∀ b, b ≤ a → fac b ≤ fac a := by decide +kernel
theorem pc_one : ∀ t, t < 10 → pcN (2 ^ t) 10 = 1 := by decide +kernel
theorem pc_dif (hS : S < 1024) {t : Nat} (ht : S.testBit t = true) : pcN (dif S (2 ^ t)) 10 + 1 = pcN S 10 := by
  have e := dif_or hS ht
  have h1 := pcN_or (a := dif S (2 ^ t)) (b := 2 ^ t) (fun i hi => by
    rw [Nat.testBit_two_pow] at hi
    have : t = i := of_decide_eq_true hi
    subst this
    exact dif_bit hS) 10
  rw [e, pc_one t (tb_lt hS ht)] at h1
  omega
theorem pcN_up (S : Nat) : ∀ d k, pcN S k ≤ pcN S (k + d)
  | 0, _ => Nat.le_refl _
  | d + 1, k => by
    have := pcN_up S d k
    show pcN S k ≤ pcN S (k + d) + _
    omega
theorem uN_le (hn : n ≤ 10) : ∀ S, S < 1024 → uN H n h W S ≤ fac (pcN S 10) := by
  intro S
  induction S using Nat.strongRecOn with
  | ind S ih =>
    intro hS
    have h1 : ∀ k, k ≤ 10 → 1 ≤ fac k := fun k hk => fac_mono k hk 0 (by omega)
    have hp := pcN_le S 10
    rw [uN_eq hS]
    split
    · exact h1 _ hp
    split
    · have a : sumT (fun t => if ed H h W S t = true then uN H n h W (dif S (2 ^ t)) else 0) n ≤ sumT (fun t => if S.testBit t = true then fac (pcN S 10 - 1) else 0) n := by
        refine sumT_le n fun t _ => ?_
        by_cases c : ed H h W S t = true
        · have hb : S.testBit t = true := ((Bool.and_eq_true _ _).mp c).1
          have hd := pc_dif hS hb
          have := ih _ (dif_lt hS hb) (dif_1024 hS)
          rw [if_pos c, if_pos hb, show pcN S 10 - 1 = pcN (dif S (2 ^ t)) 10 by omega]
          exact this
        · rw [if_neg c]
          exact Nat.zero_le _
      rw [sumT_bit] at a
      have b := pcN_up S (10 - n) n
      rw [show n + (10 - n) = 10 by omega] at b
      cases hc : pcN S 10 with
      | zero =>
        rw [hc] at a b
        have : pcN S n = 0 := by omega
        rw [this, Nat.zero_mul] at a
        exact Nat.le_trans a (Nat.zero_le _)
      | succ c =>
        rw [hc] at a b
        refine Nat.le_trans a ?_
        show pcN S n * fac (c + 1 - 1) ≤ (c + 1) * fac c
        rw [Nat.add_sub_cancel]
        exact Nat.mul_le_mul_right _ b
    · exact Nat.zero_le _
theorem uN_big (hn : n ≤ 10) (hS : S < 1024) : uN H n h W S < 2 ^ 31 := by
  have a := uN_le (H := H) (h := h) (W := W) hn S hS
  have b := fac_mono 10 (by omega) (pcN S 10) (pcN_le S 10)
  have c : fac 10 < 2 ^ 31 := by decide
  omega
theorem c_countTo (g : gH H n h) (r : RC 1 M H) (hW : W < 1024) (hsub : ∀ i, h.testBit i = true → W.testBit i = true) (hQ : ∀ M', eqx So M M' → (∀ s, s ≤ W → M' 27 s = nI (uN H n h W s)) → Q (some (.int (nI (uN H n h W W)))) M') : q_Run 22 [.ref 24, .ref 1, .int (nI W)] M Q := by
  have h10 := g.1
  have hle := sub_le hsub
  have hhW : wi h W h = true := (wi_iff g.hlt g.hlt).mpr ⟨fun i hi => hi, hsub⟩
  rw [e_O_countTo]
  simp only [gO_countTo_0, gO_countTo_1, gO_countTo_3, gO_countTo_4, gO_countTo_7, gO_countTo_8, gO_countTo_11, gO_countTo_12, gO_countTo_13, gO_countTo_16, gO_countTo_19, gO_countTo_22, gO_countTo_23, gO_countTo_26, gO_countTo_27, gO_countTo_30, gO_countTo_31, gO_countTo_34, gO_countTo_35, gO_countTo_38, gO_countTo_39, gO_countTo_40, gO_countTo_41, gO_countTo_44, gO_countTo_45, gO_countTo_48, gO_countTo_49, gO_countTo_52, gO_countTo_54, gO_countTo_56, gO_countTo_59, gO_countTo_60, gO_countTo_63, gO_countTo_64, gO_countTo_65, gO_countTo_68, gO_countTo_69, gO_countTo_70, gO_countTo_72, gO_countTo_73, gO_countTo_75, gO_countTo_77, gO_countTo_78, gO_countTo_81, gO_countTo_84, gO_countTo_86, gO_countTo_88, gO_countTo_89, gO_countTo_90, gO_countTo_91, gO_countTo_94, gO_countTo_95, gO_countTo_96, gO_countTo_98, gO_countTo_99, gO_countTo_100, gO_countTo_102, gO_countTo_103, gO_countTo_106, gO_countTo_108, gO_countTo_109, gO_countTo_112, gO_countTo_114, gO_countTo_117, gO_countTo_119, gO_countTo_120, gO_countTo_123, gO_countTo_126, gO_countTo_129, gO_countTo_132, gO_countTo_135, gO_countTo_136, gO_countTo_139, gO_countTo_140, gO_countTo_143, ↓reduceIte, Bool.false_eq_true, Bool.true_eq_false, qk_i, qk_r, qk_n, Option.toList_some, Option.toList_none, List.cons_append, List.nil_append, true_and, and_true, true_or, or_true, eq_self, if_true, if_false, q_b1, q_b2, c_A, c_R, c_O, c_M, c_H1, c_H8, c_H15]
  refine c_ct1 (M0 := M) hW (fun M1 o1 hM1 hz => ?_) (W + 1) 0 (by omega) M eqx.rf (fun s hs => absurd hs (by omega))
  have e7 := e7_of g (r.so hM1)
  have e1 : ∀ j v, q_put M1 27 j v 1 = M1 1 := fun j v => q_put_ne (by decide)
  simp only [gO_countTo_0, gO_countTo_1, gO_countTo_2, gO_countTo_3, gO_countTo_4, gO_countTo_7, gO_countTo_8, gO_countTo_11, gO_countTo_12, gO_countTo_13, gO_countTo_16, gO_countTo_19, gO_countTo_22, gO_countTo_23, gO_countTo_26, gO_countTo_27, gO_countTo_30, gO_countTo_31, gO_countTo_34, gO_countTo_35, gO_countTo_38, gO_countTo_40, gO_countTo_41, gO_countTo_44, gO_countTo_45, gO_countTo_48, gO_countTo_49, gO_countTo_52, gO_countTo_54, gO_countTo_56, gO_countTo_59, gO_countTo_60, gO_countTo_63, gO_countTo_64, gO_countTo_65, gO_countTo_68, gO_countTo_69, gO_countTo_70, gO_countTo_72, gO_countTo_73, gO_countTo_75, gO_countTo_77, gO_countTo_78, gO_countTo_81, gO_countTo_84, gO_countTo_86, gO_countTo_88, gO_countTo_89, gO_countTo_90, gO_countTo_91, gO_countTo_94, gO_countTo_95, gO_countTo_96, gO_countTo_98, gO_countTo_99, gO_countTo_100, gO_countTo_102, gO_countTo_103, gO_countTo_106, gO_countTo_108, gO_countTo_109, gO_countTo_112, gO_countTo_114, gO_countTo_117, gO_countTo_119, gO_countTo_120, gO_countTo_123, gO_countTo_126, gO_countTo_129, gO_countTo_132, gO_countTo_135, gO_countTo_136, gO_countTo_139, gO_countTo_140, gO_countTo_143, ↓reduceIte, Bool.false_eq_true, Bool.true_eq_false, qk_i, qk_r, qk_n, Option.toList_some, Option.toList_none, List.cons_append, List.nil_append, true_and, and_true, true_or, or_true, eq_self, if_true, if_false, q_b1, q_b2, c_A, c_R, c_O, c_M, c_H1, c_H8, c_H15, rf_O2, x_W_put al_27, e7, s_put_nI (M := M1) (k := 27) (m := 1024) (j := h) g.hlt (by omega), e1]
  refine c_ct2 (M0 := M) g r hW (fun i hi => uN_big h10 hi) hhW hQ (W - h) h (by omega) _ _ _ _ _ (hM1.qput (by decide)) fun s hs => ?_
  rw [q_put_at, cP_start g.hlt (by omega)]
  by_cases e : s = h
  · rw [if_pos e, if_pos e]
    rfl
  · rw [if_neg e, if_neg e]
    exact (hz s hs).trans nI_0.symm
def an_ways (H : q_M) (n h : Nat) (a : Int32) : Int32 := if b_isSet H 0 a = true then (if H 0 7 &&& (a ^^^ (-1)) = 0 then nI (uN H n h a.toNatClampNeg a.toNatClampNeg) else -3) else -1
theorem y_A_ways (g : gH H n h) (r : RC 1 M H) (hQ : ∀ M', eqx Sq M M' → Q (some (.int (an_ways H n h a))) M') : q_Run 90 [.ref 0, .int a] M Q := by
  have h2 := two_pow_le g.1
  have z3 : ¬ (-3 : Int32) = 0 := by decide
  have z1 : ¬ (-1 : Int32) = 0 := by decide
  unfold an_ways at hQ
  rw [e_A_ways]
  simp only [gA_ways_0, gA_ways_1, gA_ways_2, gA_ways_5, gA_ways_6, gA_ways_7, gA_ways_10, gA_ways_11, gA_ways_12, gA_ways_15, gA_ways_16, gA_ways_17, gA_ways_20, gA_ways_21, gA_ways_24, gA_ways_25, gA_ways_28, ↓reduceIte, Bool.false_eq_true, Bool.true_eq_false, qk_i, qk_r, qk_n, Option.toList_some, Option.toList_none, List.cons_append, List.nil_append, true_and, and_true, true_or, or_true, eq_self, if_true, if_false, q_b1, q_b2, c_A, c_R, c_O, c_M, c_H1, c_H8, c_H15, rf_A0, rf_A4, x_A_refusalOfWay, x_A_refuse]
  rw [way_eq r]
  cases hs : b_isSet H 0 a
  · simp only [hs, Bool.false_eq_true, if_false] at hQ
    simp only [Bool.false_eq_true, if_false, z1]
    exact hQ _ eqx_ref
  · by_cases hw : H 0 7 &&& (a ^^^ (-1)) = 0
    · obtain ⟨W, hW, rfl⟩ := set_N g hs
      have hsub := in_sub g.hlt (by rw [g.2.2.1] at hw; exact hw)
      rw [if_pos hs, if_pos hw, nI_clamp (by omega)] at hQ
      simp only [hw, if_true]
      refine c_countTo g r (by omega) hsub fun M' hM' _ => ?_
      simp only [gA_ways_0, gA_ways_1, gA_ways_2, gA_ways_5, gA_ways_6, gA_ways_7, gA_ways_10, gA_ways_11, gA_ways_12, gA_ways_15, gA_ways_16, gA_ways_17, gA_ways_20, gA_ways_21, gA_ways_24, gA_ways_25, gA_ways_28, ↓reduceIte, Bool.false_eq_true, Bool.true_eq_false, qk_i, qk_r, qk_n, Option.toList_some, Option.toList_none, List.cons_append, List.nil_append, true_and, and_true, true_or, or_true, eq_self, if_true, if_false, q_b1, q_b2, c_A, c_R, c_O, c_M, c_H1, c_H8, c_H15]
      exact hQ _ (hM'.up So_Sq)
    · simp only [hs, hw, if_true, if_false] at hQ
      simp only [hw, if_true, if_false, z3]
      exact hQ _ eqx_ref
theorem y_M_ways (g : gH H n h) (r : RM M H) (hQ : ∀ M', eqx Sm M M' → Q (some (.int (an_ways H n h a))) M') : q_Run 153 [.ref 30, .int a] M Q := by
  have h2 := two_pow_le g.1
  have z3 : ¬ (-3 : Int32) = 0 := by decide
  have z1 : ¬ (-1 : Int32) = 0 := by decide
  unfold an_ways at hQ
  rw [e_M_ways]
  simp only [gM_ways_0, gM_ways_1, gM_ways_2, gM_ways_5, gM_ways_6, gM_ways_7, gM_ways_10, gM_ways_11, gM_ways_12, gM_ways_15, gM_ways_16, gM_ways_17, gM_ways_18, gM_ways_21, gM_ways_22, gM_ways_25, gM_ways_26, gM_ways_27, ↓reduceIte, Bool.false_eq_true, Bool.true_eq_false, qk_i, qk_r, qk_n, Option.toList_some, Option.toList_none, List.cons_append, List.nil_append, true_and, and_true, true_or, or_true, eq_self, if_true, if_false, q_b1, q_b2, c_A, c_R, c_O, c_M, c_H1, c_H8, c_H15, x_M_notAimed, x_M_no (aim_in (M := M) (s := a))]
  rw [aim_eq g r]
  cases hs : b_isSet H 0 a
  · simp only [hs, Bool.false_eq_true, if_false] at hQ
    simp only [Bool.false_eq_true, if_false, z1]
    exact hQ _ eqm_no
  · by_cases hw : H 0 7 &&& (a ^^^ (-1)) = 0
    · obtain ⟨W, hW, rfl⟩ := set_N g hs
      have hin : q_in (nI W) 1024 = true := q_in_nI (by omega) (by omega)
      have cW : (nI W).toNatClampNeg = W := nI_clamp (by omega)
      rw [if_pos hs, if_pos hw, cW] at hQ
      simp only [hw, if_true]
      refine m_findWays g r (by omega) fun M' hM' hu _ => ?_
      simp only [gM_ways_0, gM_ways_1, gM_ways_2, gM_ways_5, gM_ways_6, gM_ways_7, gM_ways_10, gM_ways_11, gM_ways_12, gM_ways_15, gM_ways_16, gM_ways_17, gM_ways_18, gM_ways_21, gM_ways_22, gM_ways_25, gM_ways_26, gM_ways_27, ↓reduceIte, Bool.false_eq_true, Bool.true_eq_false, qk_i, qk_r, qk_n, Option.toList_some, Option.toList_none, List.cons_append, List.nil_append, true_and, and_true, true_or, or_true, eq_self, if_true, if_false, q_b1, q_b2, c_A, c_R, c_O, c_M, c_H1, c_H8, c_H15, rf_M22, aD_44, hin, cW, hu W (by omega)]
      exact hQ _ (hM'.up SfSm)
    · simp only [hs, hw, if_true, if_false] at hQ
      simp only [hw, if_true, if_false, z3]
      exact hQ _ eqm_no
end WAYS2
