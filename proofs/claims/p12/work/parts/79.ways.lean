/-! WAYS: in how many orders a set comes -/
def sumT (f : Nat → Nat) : Nat → Nat
  | 0 => 0
  | k + 1 => sumT f k + f k
def wi (h W S : Nat) : Bool := decide (dif h S = 0) && decide (dif S W = 0)
/-- t was the last to come of S -/
def ed (H : q_M) (h W S t : Nat) : Bool := S.testBit t && (wi h W (dif S (2 ^ t)) && canN H t (dif S (2 ^ t)))
def uF (H : q_M) (n h W : Nat) : Nat → Nat → Nat
  | 0, _ => 0
  | f + 1, S => if S = h then 1 else if wi h W S = true then sumT (fun t => if ed H h W S t = true then uF H n h W f (dif S (2 ^ t)) else 0) n else 0
def uN (H : q_M) (n h W S : Nat) : Nat := uF H n h W (S + 1) S
section WAYS
variable {Q : q_R} {M M0 H : q_M} {n h W S : Nat} {a : Int32}
theorem sumT_congr {f g : Nat → Nat} : ∀ k, (∀ t, t < k → f t = g t) → sumT f k = sumT g k
  | 0, _ => rfl
  | k + 1, e => by
    unfold sumT
    rw [sumT_congr k (fun t ht => e t (by omega)), e k (by omega)]
theorem sumT_add {f g : Nat → Nat} : ∀ k, sumT (fun t => f t + g t) k = sumT f k + sumT g k
  | 0 => rfl
  | k + 1 => by
    unfold sumT
    rw [sumT_add k]
    omega
theorem sumT_le {f g : Nat → Nat} : ∀ k, (∀ t, t < k → f t ≤ g t) → sumT f k ≤ sumT g k
  | 0, _ => Nat.le_refl _
  | k + 1, e => by
    have a := sumT_le k (fun t ht => e t (by omega))
    have b := e k (by omega)
    unfold sumT
    omega
theorem sumT_ex {f : Nat → Nat} : ∀ k, ¬ sumT f k = 0 → ∃ t, t < k ∧ ¬ f t = 0
  | 0, h => absurd rfl h
  | k + 1, h => by
    by_cases c : f k = 0
    · obtain ⟨t, ht, e⟩ := sumT_ex (f := f) k (fun q => h (by unfold sumT; omega))
      exact ⟨t, by omega, e⟩
    · exact ⟨k, by omega, c⟩
theorem sumT_ge {f : Nat → Nat} {t : Nat} : ∀ k, t < k → f t ≤ sumT f k
  | 0, h => absurd h (by omega)
  | k + 1, h => by
    unfold sumT
    by_cases e : t = k
    · subst e
      omega
    · have := sumT_ge (f := f) (t := t) k (by omega)
      omega
theorem sumT_bit {c : Nat} : ∀ k, sumT (fun t => if S.testBit t = true then c else 0) k = pcN S k * c
  | 0 => by
    show 0 = 0 * c
    omega
  | k + 1 => by
    unfold sumT pcN
    rw [sumT_bit k, Nat.add_mul]
    cases S.testBit k <;> simp
theorem sub_iff {x y : Nat} (hx : x < 1024) : dif x y = 0 ↔ ∀ i, x.testBit i = true → y.testBit i = true := by
  constructor
  · intro e i hi
    have hb := dif_tb (y := y) hx i
    rw [e, Nat.zero_testBit, hi] at hb
    cases q : y.testBit i
    · rw [q] at hb
      cases hb
    · rfl
  · intro e
    apply Nat.eq_of_testBit_eq
    intro i
    rw [dif_tb hx, Nat.zero_testBit]
    cases q : x.testBit i
    · rfl
    · rw [e i q]
      rfl
theorem wi_iff (hh : h < 1024) (hS : S < 1024) : wi h W S = true ↔ (∀ i, h.testBit i = true → S.testBit i = true) ∧ ∀ i, S.testBit i = true → W.testBit i = true := by
  unfold wi
  rw [Bool.and_eq_true, decide_eq_true_eq, decide_eq_true_eq, sub_iff hh, sub_iff hS]
theorem dif_1024 {x y : Nat} (hx : x < 1024) : dif x y < 1024 := Nat.lt_of_le_of_lt dif_le hx
theorem dif_bit (hS : S < 1024) {t : Nat} : (dif S (2 ^ t)).testBit t = false := by
  rw [dif_tb hS, Nat.testBit_two_pow_self]
  cases S.testBit t <;> rfl
theorem dif_lt (hS : S < 1024) {t : Nat} (ht : S.testBit t = true) : dif S (2 ^ t) < S := by
  refine Nat.lt_of_le_of_ne dif_le fun e => ?_
  have := dif_bit (S := S) hS (t := t)
  rw [e, ht] at this
  cases this
theorem dif_or (hS : S < 1024) {t : Nat} (ht : S.testBit t = true) : dif S (2 ^ t) ||| 2 ^ t = S := by
  apply Nat.eq_of_testBit_eq
  intro i
  rw [Nat.testBit_or, dif_tb hS, Nat.testBit_two_pow]
  by_cases e : t = i
  · subst e
    rw [ht]
    simp
  · simp [e]
theorem or_dif (hS : S < 1024) {t : Nat} (ht10 : t < 10) (ht : S.testBit t = false) : dif (S ||| 2 ^ t) (2 ^ t) = S := by
  apply Nat.eq_of_testBit_eq
  intro i
  rw [dif_tb (or1_lt hS ht10), Nat.testBit_or, Nat.testBit_two_pow]
  by_cases e : t = i
  · subst e
    rw [ht]
    simp
  · simp [e]
theorem uF_eq : ∀ S, S < 1024 → ∀ f g, S < f → S < g → uF H n h W f S = uF H n h W g S := by
  intro S
  induction S using Nat.strongRecOn with
  | ind S ih =>
    intro hS f g hf hg
    obtain ⟨f', rfl⟩ : ∃ f', f = f' + 1 := ⟨f - 1, by omega⟩
    obtain ⟨g', rfl⟩ : ∃ g', g = g' + 1 := ⟨g - 1, by omega⟩
    unfold uF
    have e : sumT (fun t => if ed H h W S t = true then uF H n h W f' (dif S (2 ^ t)) else 0) n = sumT (fun t => if ed H h W S t = true then uF H n h W g' (dif S (2 ^ t)) else 0) n := by
      refine sumT_congr n fun t _ => ?_
      by_cases c : ed H h W S t = true
      · have hb : S.testBit t = true := ((Bool.and_eq_true _ _).mp c).1
        have hl := dif_lt hS hb
        rw [if_pos c, if_pos c, ih _ hl (by omega) f' g' (by omega) (by omega)]
      · rw [if_neg c, if_neg c]
    rw [e]
theorem uN_eq (hS : S < 1024) : uN H n h W S = if S = h then 1 else if wi h W S = true then sumT (fun t => if ed H h W S t = true then uN H n h W (dif S (2 ^ t)) else 0) n else 0 := by
  have e : sumT (fun t => if ed H h W S t = true then uF H n h W S (dif S (2 ^ t)) else 0) n = sumT (fun t => if ed H h W S t = true then uN H n h W (dif S (2 ^ t)) else 0) n := by
    refine sumT_congr n fun t _ => ?_
    by_cases c : ed H h W S t = true
    · have hb : S.testBit t = true := ((Bool.and_eq_true _ _).mp c).1
      have hl := dif_lt hS hb
      rw [if_pos c, if_pos c]
      exact uF_eq _ (by omega) _ _ hl (by omega)
    · rw [if_neg c, if_neg c]
  show (if S = h then 1 else if wi h W S = true then sumT (fun t => if ed H h W S t = true then uF H n h W S (dif S (2 ^ t)) else 0) n else 0) = _
  rw [e]
theorem uN_h (hh : h < 1024) : uN H n h W h = 1 := by rw [uN_eq hh, if_pos rfl]
theorem uN_out (hS : S < 1024) (hne : ¬ S = h) (hw : ¬ wi h W S = true) : uN H n h W S = 0 := by rw [uN_eq hS, if_neg hne, if_neg hw]
theorem uN_in (hS : S < 1024) (hne : ¬ S = h) (hw : wi h W S = true) : uN H n h W S = sumT (fun t => if ed H h W S t = true then uN H n h W (dif S (2 ^ t)) else 0) n := by rw [uN_eq hS, if_neg hne, if_pos hw]
/-! the reference's row -/
theorem RM.f {M' : q_M} (r : RM M H) (e : eqx Sf M M') : RM M' H := r.of (fun c h1 h2 => e c (by unfold Sf; simp; omega)) (by rw [e 30 (by decide)]) (by rw [e 30 (by decide)]) (by rw [e 30 (by decide)])
theorem bw_eq (e8 : M 30 8 = nI h) (hh : h < 1024) (hS : S < 1024) : b_within M (nI S) (nI W) = wi h W S := by
  have z : ∀ x, x < 1024 → ((nI x = 0) = (x = 0)) := fun x hx => propext (nI_eq (b := 0) (by omega) (by omega))
  unfold b_within wi
  rw [e8, dif_nI hh, dif_nI hS]
  simp only [z _ (dif_1024 (y := S) hh), z _ (dif_1024 (y := W) hS)]
theorem m_fw1i {s : Nat} (g : gH H n h) (hs : s < 1024) (hne : ¬ s = h) (hw : wi h W s = true)
    (hQ : ∀ M (o3 : Int32) (o4 : Option Value), eqx Sf M0 M → (∀ i, i < s → M 44 i = nI (uN H n h W i)) → M 44 s = nI (sumT (fun t => if ed H h W s t = true then uN H n h W (dif s (2 ^ t)) else 0) n) → q_g 106 none Q 112 [some (.ref 30), some (.int (nI W)), some (.int (nI s)), some (.int o3), o4] [] M) :
    ∀ k j, j + k = n → ∀ (M : q_M) (o4 : Option Value), RM M0 H → eqx Sf M0 M → (∀ i, i < s → M 44 i = nI (uN H n h W i)) → M 44 s = nI (sumT (fun t => if ed H h W s t = true then uN H n h W (dif s (2 ^ t)) else 0) j) →
    q_g 106 none Q 30 [some (.ref 30), some (.int (nI W)), some (.int (nI s)), some (.int (nI j)), o4] [] M := by
  have h10 := g.1
  have hin : q_in (nI s) 1024 = true := q_in_nI hs (by omega)
  have cs : (nI s).toNatClampNeg = s := nI_clamp (by omega)
  intro k
  induction k with
  | zero =>
    intro j hj M o4 r0 hM hf hp
    have : j = n := by omega
    subst this
    rw [gM_findWays_30]
    simp only [gM_findWays_0, gM_findWays_1, gM_findWays_2, gM_findWays_3, gM_findWays_6, gM_findWays_9, gM_findWays_10, gM_findWays_13, gM_findWays_14, gM_findWays_15, gM_findWays_16, gM_findWays_19, gM_findWays_22, gM_findWays_23, gM_findWays_26, gM_findWays_27, gM_findWays_28, gM_findWays_29, gM_findWays_31, gM_findWays_32, gM_findWays_35, gM_findWays_38, gM_findWays_39, gM_findWays_40, gM_findWays_41, gM_findWays_44, gM_findWays_47, gM_findWays_48, gM_findWays_49, gM_findWays_52, gM_findWays_55, gM_findWays_56, gM_findWays_57, gM_findWays_58, gM_findWays_59, gM_findWays_60, gM_findWays_61, gM_findWays_62, gM_findWays_64, gM_findWays_66, gM_findWays_67, gM_findWays_70, gM_findWays_71, gM_findWays_73, gM_findWays_74, gM_findWays_77, gM_findWays_80, gM_findWays_81, gM_findWays_82, gM_findWays_84, gM_findWays_87, gM_findWays_90, gM_findWays_91, gM_findWays_94, gM_findWays_95, gM_findWays_96, gM_findWays_97, gM_findWays_98, gM_findWays_101, gM_findWays_103, gM_findWays_104, gM_findWays_105, gM_findWays_106, gM_findWays_109, gM_findWays_115, gM_findWays_118, gM_findWays_121, gM_findWays_122, gM_findWays_123, gM_findWays_126, gM_findWays_127, gM_findWays_130, gM_findWays_131, gM_findWays_132, gM_findWays_133, gM_findWays_136, gM_findWays_137, gM_findWays_140, gM_findWays_141, gM_findWays_142, gM_findWays_143, gM_findWays_144, gM_findWays_145, gM_findWays_146, gM_findWays_149, gM_findWays_152, gM_findWays_153, gM_findWays_154, gM_findWays_155, gM_findWays_158, gM_findWays_161, gM_findWays_162, gM_findWays_163, gM_findWays_166, gM_findWays_167, gM_findWays_168, gM_findWays_169, gM_findWays_170, gM_findWays_171, gM_findWays_172, gM_findWays_175, gM_findWays_178, gM_findWays_179, gM_findWays_180, gM_findWays_181, gM_findWays_184, gM_findWays_187, gM_findWays_188, gM_findWays_191, gM_findWays_192, gM_findWays_193, gM_findWays_194, gM_findWays_195, gM_findWays_198, gM_findWays_199, gM_findWays_200, gM_findWays_201, gM_findWays_202, gM_findWays_203, gM_findWays_204, gM_findWays_205, gM_findWays_206, gM_findWays_209, gM_findWays_212, gM_findWays_215, gM_findWays_218, ↓reduceIte, Bool.false_eq_true, Bool.true_eq_false, qk_i, qk_r, qk_n, Option.toList_some, Option.toList_none, List.cons_append, List.nil_append, true_and, and_true, true_or, or_true, eq_self, if_true, if_false, q_b1, q_b2, c_A, c_R, c_O, c_M, c_H1, c_H8, c_H15, (g.vm (r0.f hM)).1, Int32.le_refl]
    exact hQ _ _ _ hM hf hp
  | succ k ih =>
    intro j hj M o4 r0 hM hf hp
    have r := r0.f hM
    have hv := g.vm r
    have h1 : ¬ nI n ≤ nI j := nI_ge (by omega) (by omega)
    have e8 := hv.2.2.1
    have nsh : (nI s = nI h) = (s = h) := nI_inj hs g.hlt
    have d1 := dif_nI (x := s) hs
    have da : dif s (2 ^ j) < 1024 := dif_1024 hs
    have nds : (nI (dif s (2 ^ j)) = nI s) = (dif s (2 ^ j) = s) := nI_inj da hs
    have hin2 : q_in (nI (dif s (2 ^ j))) 1024 = true := q_in_nI da (by omega)
    have ca : (nI (dif s (2 ^ j))).toNatClampNeg = dif s (2 ^ j) := nI_clamp (by omega)
    have next : ∀ (M' : q_M) (o4 : Option Value), eqx Sf M0 M' → (∀ i, i < s → M' 44 i = nI (uN H n h W i)) → M' 44 s = nI (sumT (fun t => if ed H h W s t = true then uN H n h W (dif s (2 ^ t)) else 0) (j + 1)) → q_g 106 none Q 30 [some (.ref 30), some (.int (nI W)), some (.int (nI s)), some (.int (nI (j + 1))), o4] [] M' := fun M' o4 a b c => ih (j + 1) (by omega) M' o4 r0 a b c
    have keep : ed H h W s j = false → M 44 s = nI (sumT (fun t => if ed H h W s t = true then uN H n h W (dif s (2 ^ t)) else 0) (j + 1)) := fun q => by
      show _ = nI (_ + (if ed H h W s j = true then uN H n h W (dif s (2 ^ j)) else 0))
      rw [if_neg (by rw [q]; decide), Nat.add_zero]
      exact hp
    rw [gM_findWays_30]
    simp only [gM_findWays_0, gM_findWays_1, gM_findWays_2, gM_findWays_3, gM_findWays_6, gM_findWays_9, gM_findWays_10, gM_findWays_13, gM_findWays_14, gM_findWays_15, gM_findWays_16, gM_findWays_19, gM_findWays_22, gM_findWays_23, gM_findWays_26, gM_findWays_27, gM_findWays_28, gM_findWays_29, gM_findWays_31, gM_findWays_32, gM_findWays_35, gM_findWays_38, gM_findWays_39, gM_findWays_40, gM_findWays_41, gM_findWays_44, gM_findWays_47, gM_findWays_48, gM_findWays_49, gM_findWays_52, gM_findWays_55, gM_findWays_56, gM_findWays_57, gM_findWays_58, gM_findWays_59, gM_findWays_60, gM_findWays_61, gM_findWays_62, gM_findWays_64, gM_findWays_66, gM_findWays_67, gM_findWays_70, gM_findWays_71, gM_findWays_73, gM_findWays_74, gM_findWays_77, gM_findWays_80, gM_findWays_81, gM_findWays_82, gM_findWays_84, gM_findWays_87, gM_findWays_90, gM_findWays_91, gM_findWays_94, gM_findWays_95, gM_findWays_96, gM_findWays_97, gM_findWays_98, gM_findWays_101, gM_findWays_103, gM_findWays_104, gM_findWays_105, gM_findWays_106, gM_findWays_109, gM_findWays_115, gM_findWays_118, gM_findWays_121, gM_findWays_122, gM_findWays_123, gM_findWays_126, gM_findWays_127, gM_findWays_130, gM_findWays_131, gM_findWays_132, gM_findWays_133, gM_findWays_136, gM_findWays_137, gM_findWays_140, gM_findWays_141, gM_findWays_142, gM_findWays_143, gM_findWays_144, gM_findWays_145, gM_findWays_146, gM_findWays_149, gM_findWays_152, gM_findWays_153, gM_findWays_154, gM_findWays_155, gM_findWays_158, gM_findWays_161, gM_findWays_162, gM_findWays_163, gM_findWays_166, gM_findWays_167, gM_findWays_168, gM_findWays_169, gM_findWays_170, gM_findWays_171, gM_findWays_172, gM_findWays_175, gM_findWays_178, gM_findWays_179, gM_findWays_180, gM_findWays_181, gM_findWays_184, gM_findWays_187, gM_findWays_188, gM_findWays_191, gM_findWays_192, gM_findWays_193, gM_findWays_194, gM_findWays_195, gM_findWays_198, gM_findWays_199, gM_findWays_200, gM_findWays_201, gM_findWays_202, gM_findWays_203, gM_findWays_204, gM_findWays_205, gM_findWays_206, gM_findWays_209, gM_findWays_212, gM_findWays_215, gM_findWays_218, ↓reduceIte, Bool.false_eq_true, Bool.true_eq_false, qk_i, qk_r, qk_n, Option.toList_some, Option.toList_none, List.cons_append, List.nil_append, true_and, and_true, true_or, or_true, eq_self, if_true, if_false, q_b1, q_b2, c_A, c_R, c_O, c_M, c_H1, c_H8, c_H15, hv.1, h1, x_M_isWithin, bw_eq e8 g.hlt hs, hw, q_z0, e8, nsh, hne, sh1_nI j (show j < 31 by omega), d1, nds, bw_eq e8 g.hlt da, n1z', ↓reduceIte, if_true, if_false, eq_self, not_true, not_false_eq_true, not_true_eq_false, Bool.true_eq_false, Bool.false_eq_true, Bool.not_false, Bool.not_true, Bool.and_true, Bool.and_false, Bool.true_and, Bool.false_and]
    cases hb : s.testBit j
    · have ee : dif s (2 ^ j) = s := by
        apply Nat.eq_of_testBit_eq
        intro i
        rw [dif_tb hs, Nat.testBit_two_pow]
        by_cases e : j = i
        · subst e
          rw [hb]
          rfl
        · simp [e]
      have hed : ed H h W s j = false := by
        unfold ed
        rw [hb]
        rfl
      simp only [ee, n1z', ↓reduceIte, if_true, if_false, eq_self, not_true, not_false_eq_true, not_true_eq_false, Bool.true_eq_false, Bool.false_eq_true, Bool.not_false, Bool.not_true, Bool.and_true, Bool.and_false, Bool.true_and, Bool.false_and, gM_findWays_0, gM_findWays_1, gM_findWays_2, gM_findWays_3, gM_findWays_6, gM_findWays_9, gM_findWays_10, gM_findWays_13, gM_findWays_14, gM_findWays_15, gM_findWays_16, gM_findWays_19, gM_findWays_22, gM_findWays_23, gM_findWays_26, gM_findWays_27, gM_findWays_28, gM_findWays_29, gM_findWays_31, gM_findWays_32, gM_findWays_35, gM_findWays_38, gM_findWays_39, gM_findWays_40, gM_findWays_41, gM_findWays_44, gM_findWays_47, gM_findWays_48, gM_findWays_49, gM_findWays_52, gM_findWays_55, gM_findWays_56, gM_findWays_57, gM_findWays_58, gM_findWays_59, gM_findWays_60, gM_findWays_61, gM_findWays_62, gM_findWays_64, gM_findWays_66, gM_findWays_67, gM_findWays_70, gM_findWays_71, gM_findWays_73, gM_findWays_74, gM_findWays_77, gM_findWays_80, gM_findWays_81, gM_findWays_82, gM_findWays_84, gM_findWays_87, gM_findWays_90, gM_findWays_91, gM_findWays_94, gM_findWays_95, gM_findWays_96, gM_findWays_97, gM_findWays_98, gM_findWays_101, gM_findWays_103, gM_findWays_104, gM_findWays_105, gM_findWays_106, gM_findWays_109, gM_findWays_115, gM_findWays_118, gM_findWays_121, gM_findWays_122, gM_findWays_123, gM_findWays_126, gM_findWays_127, gM_findWays_130, gM_findWays_131, gM_findWays_132, gM_findWays_133, gM_findWays_136, gM_findWays_137, gM_findWays_140, gM_findWays_141, gM_findWays_142, gM_findWays_143, gM_findWays_144, gM_findWays_145, gM_findWays_146, gM_findWays_149, gM_findWays_152, gM_findWays_153, gM_findWays_154, gM_findWays_155, gM_findWays_158, gM_findWays_161, gM_findWays_162, gM_findWays_163, gM_findWays_166, gM_findWays_167, gM_findWays_168, gM_findWays_169, gM_findWays_170, gM_findWays_171, gM_findWays_172, gM_findWays_175, gM_findWays_178, gM_findWays_179, gM_findWays_180, gM_findWays_181, gM_findWays_184, gM_findWays_187, gM_findWays_188, gM_findWays_191, gM_findWays_192, gM_findWays_193, gM_findWays_194, gM_findWays_195, gM_findWays_198, gM_findWays_199, gM_findWays_200, gM_findWays_201, gM_findWays_202, gM_findWays_203, gM_findWays_204, gM_findWays_205, gM_findWays_206, gM_findWays_209, gM_findWays_212, gM_findWays_215, gM_findWays_218, ↓reduceIte, Bool.false_eq_true, Bool.true_eq_false, qk_i, qk_r, qk_n, Option.toList_some, Option.toList_none, List.cons_append, List.nil_append, true_and, and_true, true_or, or_true, eq_self, if_true, if_false, q_b1, q_b2, c_A, c_R, c_O, c_M, c_H1, c_H8, c_H15, nI_1]
      exact next M _ hM hf (keep hed)
    · have hlt := dif_lt hs hb
      have ee : ¬ dif s (2 ^ j) = s := by omega
      simp only [ee, n1z', ↓reduceIte, if_true, if_false, eq_self, not_true, not_false_eq_true, not_true_eq_false, Bool.true_eq_false, Bool.false_eq_true, Bool.not_false, Bool.not_true, Bool.and_true, Bool.and_false, Bool.true_and, Bool.false_and]
      cases hwa : wi h W (dif s (2 ^ j))
      · have hed : ed H h W s j = false := by
          unfold ed
          rw [hb, hwa]
          rfl
        simp only [n1z', ↓reduceIte, if_true, if_false, eq_self, not_true, not_false_eq_true, not_true_eq_false, Bool.true_eq_false, Bool.false_eq_true, Bool.not_false, Bool.not_true, Bool.and_true, Bool.and_false, Bool.true_and, Bool.false_and, gM_findWays_0, gM_findWays_1, gM_findWays_2, gM_findWays_3, gM_findWays_6, gM_findWays_9, gM_findWays_10, gM_findWays_13, gM_findWays_14, gM_findWays_15, gM_findWays_16, gM_findWays_19, gM_findWays_22, gM_findWays_23, gM_findWays_26, gM_findWays_27, gM_findWays_28, gM_findWays_29, gM_findWays_31, gM_findWays_32, gM_findWays_35, gM_findWays_38, gM_findWays_39, gM_findWays_40, gM_findWays_41, gM_findWays_44, gM_findWays_47, gM_findWays_48, gM_findWays_49, gM_findWays_52, gM_findWays_55, gM_findWays_56, gM_findWays_57, gM_findWays_58, gM_findWays_59, gM_findWays_60, gM_findWays_61, gM_findWays_62, gM_findWays_64, gM_findWays_66, gM_findWays_67, gM_findWays_70, gM_findWays_71, gM_findWays_73, gM_findWays_74, gM_findWays_77, gM_findWays_80, gM_findWays_81, gM_findWays_82, gM_findWays_84, gM_findWays_87, gM_findWays_90, gM_findWays_91, gM_findWays_94, gM_findWays_95, gM_findWays_96, gM_findWays_97, gM_findWays_98, gM_findWays_101, gM_findWays_103, gM_findWays_104, gM_findWays_105, gM_findWays_106, gM_findWays_109, gM_findWays_115, gM_findWays_118, gM_findWays_121, gM_findWays_122, gM_findWays_123, gM_findWays_126, gM_findWays_127, gM_findWays_130, gM_findWays_131, gM_findWays_132, gM_findWays_133, gM_findWays_136, gM_findWays_137, gM_findWays_140, gM_findWays_141, gM_findWays_142, gM_findWays_143, gM_findWays_144, gM_findWays_145, gM_findWays_146, gM_findWays_149, gM_findWays_152, gM_findWays_153, gM_findWays_154, gM_findWays_155, gM_findWays_158, gM_findWays_161, gM_findWays_162, gM_findWays_163, gM_findWays_166, gM_findWays_167, gM_findWays_168, gM_findWays_169, gM_findWays_170, gM_findWays_171, gM_findWays_172, gM_findWays_175, gM_findWays_178, gM_findWays_179, gM_findWays_180, gM_findWays_181, gM_findWays_184, gM_findWays_187, gM_findWays_188, gM_findWays_191, gM_findWays_192, gM_findWays_193, gM_findWays_194, gM_findWays_195, gM_findWays_198, gM_findWays_199, gM_findWays_200, gM_findWays_201, gM_findWays_202, gM_findWays_203, gM_findWays_204, gM_findWays_205, gM_findWays_206, gM_findWays_209, gM_findWays_212, gM_findWays_215, gM_findWays_218, ↓reduceIte, Bool.false_eq_true, Bool.true_eq_false, qk_i, qk_r, qk_n, Option.toList_some, Option.toList_none, List.cons_append, List.nil_append, true_and, and_true, true_or, or_true, eq_self, if_true, if_false, q_b1, q_b2, c_A, c_R, c_O, c_M, c_H1, c_H8, c_H15, nI_1]
        exact next M _ hM hf (keep hed)
      · have hcan : v_can M j (nI (dif s (2 ^ j))) = canN H j (dif s (2 ^ j)) := v_can_N g r (by omega) da (dif_bit hs)
        simp only [n1z', ↓reduceIte, if_true, if_false, eq_self, not_true, not_false_eq_true, not_true_eq_false, Bool.true_eq_false, Bool.false_eq_true, Bool.not_false, Bool.not_true, Bool.and_true, Bool.and_false, Bool.true_and, Bool.false_and, gM_findWays_0, gM_findWays_1, gM_findWays_2, gM_findWays_3, gM_findWays_6, gM_findWays_9, gM_findWays_10, gM_findWays_13, gM_findWays_14, gM_findWays_15, gM_findWays_16, gM_findWays_19, gM_findWays_22, gM_findWays_23, gM_findWays_26, gM_findWays_27, gM_findWays_28, gM_findWays_29, gM_findWays_31, gM_findWays_32, gM_findWays_35, gM_findWays_38, gM_findWays_39, gM_findWays_40, gM_findWays_41, gM_findWays_44, gM_findWays_47, gM_findWays_48, gM_findWays_49, gM_findWays_52, gM_findWays_55, gM_findWays_56, gM_findWays_57, gM_findWays_58, gM_findWays_59, gM_findWays_60, gM_findWays_61, gM_findWays_62, gM_findWays_64, gM_findWays_66, gM_findWays_67, gM_findWays_70, gM_findWays_71, gM_findWays_73, gM_findWays_74, gM_findWays_77, gM_findWays_80, gM_findWays_81, gM_findWays_82, gM_findWays_84, gM_findWays_87, gM_findWays_90, gM_findWays_91, gM_findWays_94, gM_findWays_95, gM_findWays_96, gM_findWays_97, gM_findWays_98, gM_findWays_101, gM_findWays_103, gM_findWays_104, gM_findWays_105, gM_findWays_106, gM_findWays_109, gM_findWays_115, gM_findWays_118, gM_findWays_121, gM_findWays_122, gM_findWays_123, gM_findWays_126, gM_findWays_127, gM_findWays_130, gM_findWays_131, gM_findWays_132, gM_findWays_133, gM_findWays_136, gM_findWays_137, gM_findWays_140, gM_findWays_141, gM_findWays_142, gM_findWays_143, gM_findWays_144, gM_findWays_145, gM_findWays_146, gM_findWays_149, gM_findWays_152, gM_findWays_153, gM_findWays_154, gM_findWays_155, gM_findWays_158, gM_findWays_161, gM_findWays_162, gM_findWays_163, gM_findWays_166, gM_findWays_167, gM_findWays_168, gM_findWays_169, gM_findWays_170, gM_findWays_171, gM_findWays_172, gM_findWays_175, gM_findWays_178, gM_findWays_179, gM_findWays_180, gM_findWays_181, gM_findWays_184, gM_findWays_187, gM_findWays_188, gM_findWays_191, gM_findWays_192, gM_findWays_193, gM_findWays_194, gM_findWays_195, gM_findWays_198, gM_findWays_199, gM_findWays_200, gM_findWays_201, gM_findWays_202, gM_findWays_203, gM_findWays_204, gM_findWays_205, gM_findWays_206, gM_findWays_209, gM_findWays_212, gM_findWays_215, gM_findWays_218, ↓reduceIte, Bool.false_eq_true, Bool.true_eq_false, qk_i, qk_r, qk_n, Option.toList_some, Option.toList_none, List.cons_append, List.nil_append, true_and, and_true, true_or, or_true, eq_self, if_true, if_false, q_b1, q_b2, c_A, c_R, c_O, c_M, c_H1, c_H8, c_H15, x_M_canHave (show j < 10 by omega), hcan, q_z0]
        cases hc : canN H j (dif s (2 ^ j))
        · have hed : ed H h W s j = false := by
            unfold ed
            rw [hb, hwa, hc]
            rfl
          simp only [n1z', ↓reduceIte, if_true, if_false, eq_self, not_true, not_false_eq_true, not_true_eq_false, Bool.true_eq_false, Bool.false_eq_true, Bool.not_false, Bool.not_true, Bool.and_true, Bool.and_false, Bool.true_and, Bool.false_and, gM_findWays_0, gM_findWays_1, gM_findWays_2, gM_findWays_3, gM_findWays_6, gM_findWays_9, gM_findWays_10, gM_findWays_13, gM_findWays_14, gM_findWays_15, gM_findWays_16, gM_findWays_19, gM_findWays_22, gM_findWays_23, gM_findWays_26, gM_findWays_27, gM_findWays_28, gM_findWays_29, gM_findWays_31, gM_findWays_32, gM_findWays_35, gM_findWays_38, gM_findWays_39, gM_findWays_40, gM_findWays_41, gM_findWays_44, gM_findWays_47, gM_findWays_48, gM_findWays_49, gM_findWays_52, gM_findWays_55, gM_findWays_56, gM_findWays_57, gM_findWays_58, gM_findWays_59, gM_findWays_60, gM_findWays_61, gM_findWays_62, gM_findWays_64, gM_findWays_66, gM_findWays_67, gM_findWays_70, gM_findWays_71, gM_findWays_73, gM_findWays_74, gM_findWays_77, gM_findWays_80, gM_findWays_81, gM_findWays_82, gM_findWays_84, gM_findWays_87, gM_findWays_90, gM_findWays_91, gM_findWays_94, gM_findWays_95, gM_findWays_96, gM_findWays_97, gM_findWays_98, gM_findWays_101, gM_findWays_103, gM_findWays_104, gM_findWays_105, gM_findWays_106, gM_findWays_109, gM_findWays_115, gM_findWays_118, gM_findWays_121, gM_findWays_122, gM_findWays_123, gM_findWays_126, gM_findWays_127, gM_findWays_130, gM_findWays_131, gM_findWays_132, gM_findWays_133, gM_findWays_136, gM_findWays_137, gM_findWays_140, gM_findWays_141, gM_findWays_142, gM_findWays_143, gM_findWays_144, gM_findWays_145, gM_findWays_146, gM_findWays_149, gM_findWays_152, gM_findWays_153, gM_findWays_154, gM_findWays_155, gM_findWays_158, gM_findWays_161, gM_findWays_162, gM_findWays_163, gM_findWays_166, gM_findWays_167, gM_findWays_168, gM_findWays_169, gM_findWays_170, gM_findWays_171, gM_findWays_172, gM_findWays_175, gM_findWays_178, gM_findWays_179, gM_findWays_180, gM_findWays_181, gM_findWays_184, gM_findWays_187, gM_findWays_188, gM_findWays_191, gM_findWays_192, gM_findWays_193, gM_findWays_194, gM_findWays_195, gM_findWays_198, gM_findWays_199, gM_findWays_200, gM_findWays_201, gM_findWays_202, gM_findWays_203, gM_findWays_204, gM_findWays_205, gM_findWays_206, gM_findWays_209, gM_findWays_212, gM_findWays_215, gM_findWays_218, ↓reduceIte, Bool.false_eq_true, Bool.true_eq_false, qk_i, qk_r, qk_n, Option.toList_some, Option.toList_none, List.cons_append, List.nil_append, true_and, and_true, true_or, or_true, eq_self, if_true, if_false, q_b1, q_b2, c_A, c_R, c_O, c_M, c_H1, c_H8, c_H15, nI_1]
          exact next M _ hM hf (keep hed)
        · have hed : ed H h W s j = true := by
            unfold ed
            rw [hb, hwa, hc]
            rfl
          simp only [n1z', ↓reduceIte, if_true, if_false, eq_self, not_true, not_false_eq_true, not_true_eq_false, Bool.true_eq_false, Bool.false_eq_true, Bool.not_false, Bool.not_true, Bool.and_true, Bool.and_false, Bool.true_and, Bool.false_and, gM_findWays_0, gM_findWays_1, gM_findWays_2, gM_findWays_3, gM_findWays_6, gM_findWays_9, gM_findWays_10, gM_findWays_13, gM_findWays_14, gM_findWays_15, gM_findWays_16, gM_findWays_19, gM_findWays_22, gM_findWays_23, gM_findWays_26, gM_findWays_27, gM_findWays_28, gM_findWays_29, gM_findWays_31, gM_findWays_32, gM_findWays_35, gM_findWays_38, gM_findWays_39, gM_findWays_40, gM_findWays_41, gM_findWays_44, gM_findWays_47, gM_findWays_48, gM_findWays_49, gM_findWays_52, gM_findWays_55, gM_findWays_56, gM_findWays_57, gM_findWays_58, gM_findWays_59, gM_findWays_60, gM_findWays_61, gM_findWays_62, gM_findWays_64, gM_findWays_66, gM_findWays_67, gM_findWays_70, gM_findWays_71, gM_findWays_73, gM_findWays_74, gM_findWays_77, gM_findWays_80, gM_findWays_81, gM_findWays_82, gM_findWays_84, gM_findWays_87, gM_findWays_90, gM_findWays_91, gM_findWays_94, gM_findWays_95, gM_findWays_96, gM_findWays_97, gM_findWays_98, gM_findWays_101, gM_findWays_103, gM_findWays_104, gM_findWays_105, gM_findWays_106, gM_findWays_109, gM_findWays_115, gM_findWays_118, gM_findWays_121, gM_findWays_122, gM_findWays_123, gM_findWays_126, gM_findWays_127, gM_findWays_130, gM_findWays_131, gM_findWays_132, gM_findWays_133, gM_findWays_136, gM_findWays_137, gM_findWays_140, gM_findWays_141, gM_findWays_142, gM_findWays_143, gM_findWays_144, gM_findWays_145, gM_findWays_146, gM_findWays_149, gM_findWays_152, gM_findWays_153, gM_findWays_154, gM_findWays_155, gM_findWays_158, gM_findWays_161, gM_findWays_162, gM_findWays_163, gM_findWays_166, gM_findWays_167, gM_findWays_168, gM_findWays_169, gM_findWays_170, gM_findWays_171, gM_findWays_172, gM_findWays_175, gM_findWays_178, gM_findWays_179, gM_findWays_180, gM_findWays_181, gM_findWays_184, gM_findWays_187, gM_findWays_188, gM_findWays_191, gM_findWays_192, gM_findWays_193, gM_findWays_194, gM_findWays_195, gM_findWays_198, gM_findWays_199, gM_findWays_200, gM_findWays_201, gM_findWays_202, gM_findWays_203, gM_findWays_204, gM_findWays_205, gM_findWays_206, gM_findWays_209, gM_findWays_212, gM_findWays_215, gM_findWays_218, ↓reduceIte, Bool.false_eq_true, Bool.true_eq_false, qk_i, qk_r, qk_n, Option.toList_some, Option.toList_none, List.cons_append, List.nil_append, true_and, and_true, true_or, or_true, eq_self, if_true, if_false, q_b1, q_b2, c_A, c_R, c_O, c_M, c_H1, c_H8, c_H15, rf_M22, aD_44, hin, hin2, cs, ca, nI_1, hp, hf _ hlt, nI_add]
          refine next _ _ (hM.qput (by decide)) (fun i hi => by rw [q_put_at, if_neg (by omega)]; exact hf i hi) ?_
          rw [q_put_at, if_pos rfl]
          show _ = nI (_ + (if ed H h W s j = true then uN H n h W (dif s (2 ^ j)) else 0))
          rw [if_pos hed]
theorem m_fw1 (g : gH H n h) (r0 : RM M0 H) (hQ : ∀ M (o2 : Int32) (o3 o4 : Option Value), eqx Sf M0 M → (∀ i, i < 1024 → M 44 i = nI (uN H n h W i)) → q_g 106 none Q 118 [some (.ref 30), some (.int (nI W)), some (.int o2), o3, o4] [] M) : ∀ k j, j + k = 1024 → ∀ (M : q_M) (o3 o4 : Option Value), eqx Sf M0 M → (∀ i, i < j → M 44 i = nI (uN H n h W i)) →
    q_g 106 none Q 2 [some (.ref 30), some (.int (nI W)), some (.int (nI j)), o3, o4] [] M := by
  have h10 := g.1
  intro k
  induction k with
  | zero =>
    intro j hj M o3 o4 hM hf
    have : j = 1024 := by omega
    subst this
    have h1 : (1024 : Int32) ≤ nI 1024 := by decide
    rw [gM_findWays_2]
    simp only [gM_findWays_0, gM_findWays_1, gM_findWays_3, gM_findWays_6, gM_findWays_9, gM_findWays_10, gM_findWays_13, gM_findWays_14, gM_findWays_15, gM_findWays_16, gM_findWays_19, gM_findWays_22, gM_findWays_23, gM_findWays_26, gM_findWays_27, gM_findWays_28, gM_findWays_29, gM_findWays_30, gM_findWays_31, gM_findWays_32, gM_findWays_35, gM_findWays_38, gM_findWays_39, gM_findWays_40, gM_findWays_41, gM_findWays_44, gM_findWays_47, gM_findWays_48, gM_findWays_49, gM_findWays_52, gM_findWays_55, gM_findWays_56, gM_findWays_57, gM_findWays_58, gM_findWays_59, gM_findWays_60, gM_findWays_61, gM_findWays_62, gM_findWays_64, gM_findWays_66, gM_findWays_67, gM_findWays_70, gM_findWays_71, gM_findWays_73, gM_findWays_74, gM_findWays_77, gM_findWays_80, gM_findWays_81, gM_findWays_82, gM_findWays_84, gM_findWays_87, gM_findWays_90, gM_findWays_91, gM_findWays_94, gM_findWays_95, gM_findWays_96, gM_findWays_97, gM_findWays_98, gM_findWays_101, gM_findWays_103, gM_findWays_104, gM_findWays_105, gM_findWays_106, gM_findWays_109, gM_findWays_112, gM_findWays_115, gM_findWays_121, gM_findWays_122, gM_findWays_123, gM_findWays_126, gM_findWays_127, gM_findWays_130, gM_findWays_131, gM_findWays_132, gM_findWays_133, gM_findWays_136, gM_findWays_137, gM_findWays_140, gM_findWays_141, gM_findWays_142, gM_findWays_143, gM_findWays_144, gM_findWays_145, gM_findWays_146, gM_findWays_149, gM_findWays_152, gM_findWays_153, gM_findWays_154, gM_findWays_155, gM_findWays_158, gM_findWays_161, gM_findWays_162, gM_findWays_163, gM_findWays_166, gM_findWays_167, gM_findWays_168, gM_findWays_169, gM_findWays_170, gM_findWays_171, gM_findWays_172, gM_findWays_175, gM_findWays_178, gM_findWays_179, gM_findWays_180, gM_findWays_181, gM_findWays_184, gM_findWays_187, gM_findWays_188, gM_findWays_191, gM_findWays_192, gM_findWays_193, gM_findWays_194, gM_findWays_195, gM_findWays_198, gM_findWays_199, gM_findWays_200, gM_findWays_201, gM_findWays_202, gM_findWays_203, gM_findWays_204, gM_findWays_205, gM_findWays_206, gM_findWays_209, gM_findWays_212, gM_findWays_215, gM_findWays_218, ↓reduceIte, Bool.false_eq_true, Bool.true_eq_false, qk_i, qk_r, qk_n, Option.toList_some, Option.toList_none, List.cons_append, List.nil_append, true_and, and_true, true_or, or_true, eq_self, if_true, if_false, q_b1, q_b2, c_A, c_R, c_O, c_M, c_H1, c_H8, c_H15, h1]
    exact hQ _ _ _ _ hM hf
  | succ k ih =>
    intro j hj M o3 o4 hM hf
    have hj' : j < 1024 := by omega
    have h1 : ¬ (1024 : Int32) ≤ nI j := nI_ge (b := 1024) (by omega) (by omega)
    have hin : q_in (nI j) 1024 = true := q_in_nI (by omega) (by omega)
    have cj : (nI j).toNatClampNeg = j := nI_clamp (by omega)
    have hv := g.vm (r0.f hM)
    have e8 := hv.2.2.1
    have njh : (nI j = nI h) = (j = h) := nI_inj hj' g.hlt
    have next : ∀ (M' : q_M) (o3 : Int32) (o4 : Option Value), eqx Sf M0 M' → (∀ i, i < j → M' 44 i = nI (uN H n h W i)) → M' 44 j = nI (uN H n h W j) → q_g 106 none Q 112 [some (.ref 30), some (.int (nI W)), some (.int (nI j)), some (.int o3), o4] [] M' := by
      intro M' o3 o4 a b c
      simp only [gM_findWays_0, gM_findWays_1, gM_findWays_3, gM_findWays_6, gM_findWays_9, gM_findWays_10, gM_findWays_13, gM_findWays_14, gM_findWays_15, gM_findWays_16, gM_findWays_19, gM_findWays_22, gM_findWays_23, gM_findWays_26, gM_findWays_27, gM_findWays_28, gM_findWays_29, gM_findWays_30, gM_findWays_31, gM_findWays_32, gM_findWays_35, gM_findWays_38, gM_findWays_39, gM_findWays_40, gM_findWays_41, gM_findWays_44, gM_findWays_47, gM_findWays_48, gM_findWays_49, gM_findWays_52, gM_findWays_55, gM_findWays_56, gM_findWays_57, gM_findWays_58, gM_findWays_59, gM_findWays_60, gM_findWays_61, gM_findWays_62, gM_findWays_64, gM_findWays_66, gM_findWays_67, gM_findWays_70, gM_findWays_71, gM_findWays_73, gM_findWays_74, gM_findWays_77, gM_findWays_80, gM_findWays_81, gM_findWays_82, gM_findWays_84, gM_findWays_87, gM_findWays_90, gM_findWays_91, gM_findWays_94, gM_findWays_95, gM_findWays_96, gM_findWays_97, gM_findWays_98, gM_findWays_101, gM_findWays_103, gM_findWays_104, gM_findWays_105, gM_findWays_106, gM_findWays_109, gM_findWays_112, gM_findWays_115, gM_findWays_118, gM_findWays_121, gM_findWays_122, gM_findWays_123, gM_findWays_126, gM_findWays_127, gM_findWays_130, gM_findWays_131, gM_findWays_132, gM_findWays_133, gM_findWays_136, gM_findWays_137, gM_findWays_140, gM_findWays_141, gM_findWays_142, gM_findWays_143, gM_findWays_144, gM_findWays_145, gM_findWays_146, gM_findWays_149, gM_findWays_152, gM_findWays_153, gM_findWays_154, gM_findWays_155, gM_findWays_158, gM_findWays_161, gM_findWays_162, gM_findWays_163, gM_findWays_166, gM_findWays_167, gM_findWays_168, gM_findWays_169, gM_findWays_170, gM_findWays_171, gM_findWays_172, gM_findWays_175, gM_findWays_178, gM_findWays_179, gM_findWays_180, gM_findWays_181, gM_findWays_184, gM_findWays_187, gM_findWays_188, gM_findWays_191, gM_findWays_192, gM_findWays_193, gM_findWays_194, gM_findWays_195, gM_findWays_198, gM_findWays_199, gM_findWays_200, gM_findWays_201, gM_findWays_202, gM_findWays_203, gM_findWays_204, gM_findWays_205, gM_findWays_206, gM_findWays_209, gM_findWays_212, gM_findWays_215, gM_findWays_218, ↓reduceIte, Bool.false_eq_true, Bool.true_eq_false, qk_i, qk_r, qk_n, Option.toList_some, Option.toList_none, List.cons_append, List.nil_append, true_and, and_true, true_or, or_true, eq_self, if_true, if_false, q_b1, q_b2, c_A, c_R, c_O, c_M, c_H1, c_H8, c_H15, nI_1]
      refine ih (j + 1) (by omega) M' _ _ a fun i hi => ?_
      by_cases e : i = j
      · rw [e]
        exact c
      · exact b i (by omega)
    rw [gM_findWays_2]
    simp only [gM_findWays_0, gM_findWays_1, gM_findWays_3, gM_findWays_6, gM_findWays_9, gM_findWays_10, gM_findWays_13, gM_findWays_14, gM_findWays_15, gM_findWays_16, gM_findWays_19, gM_findWays_22, gM_findWays_23, gM_findWays_26, gM_findWays_28, gM_findWays_29, gM_findWays_31, gM_findWays_32, gM_findWays_35, gM_findWays_38, gM_findWays_39, gM_findWays_40, gM_findWays_41, gM_findWays_44, gM_findWays_47, gM_findWays_48, gM_findWays_49, gM_findWays_52, gM_findWays_55, gM_findWays_56, gM_findWays_57, gM_findWays_58, gM_findWays_59, gM_findWays_60, gM_findWays_61, gM_findWays_62, gM_findWays_64, gM_findWays_66, gM_findWays_67, gM_findWays_70, gM_findWays_71, gM_findWays_73, gM_findWays_74, gM_findWays_77, gM_findWays_80, gM_findWays_81, gM_findWays_82, gM_findWays_84, gM_findWays_87, gM_findWays_90, gM_findWays_91, gM_findWays_94, gM_findWays_95, gM_findWays_96, gM_findWays_97, gM_findWays_98, gM_findWays_101, gM_findWays_103, gM_findWays_104, gM_findWays_105, gM_findWays_106, gM_findWays_109, gM_findWays_115, gM_findWays_121, gM_findWays_122, gM_findWays_123, gM_findWays_126, gM_findWays_127, gM_findWays_130, gM_findWays_131, gM_findWays_132, gM_findWays_133, gM_findWays_136, gM_findWays_137, gM_findWays_140, gM_findWays_141, gM_findWays_142, gM_findWays_143, gM_findWays_144, gM_findWays_145, gM_findWays_146, gM_findWays_149, gM_findWays_152, gM_findWays_153, gM_findWays_154, gM_findWays_155, gM_findWays_158, gM_findWays_161, gM_findWays_162, gM_findWays_163, gM_findWays_166, gM_findWays_167, gM_findWays_168, gM_findWays_169, gM_findWays_170, gM_findWays_171, gM_findWays_172, gM_findWays_175, gM_findWays_178, gM_findWays_179, gM_findWays_180, gM_findWays_181, gM_findWays_184, gM_findWays_187, gM_findWays_188, gM_findWays_191, gM_findWays_192, gM_findWays_193, gM_findWays_194, gM_findWays_195, gM_findWays_198, gM_findWays_199, gM_findWays_200, gM_findWays_201, gM_findWays_202, gM_findWays_203, gM_findWays_204, gM_findWays_205, gM_findWays_206, gM_findWays_209, gM_findWays_212, gM_findWays_215, gM_findWays_218, ↓reduceIte, Bool.false_eq_true, Bool.true_eq_false, qk_i, qk_r, qk_n, Option.toList_some, Option.toList_none, List.cons_append, List.nil_append, true_and, and_true, true_or, or_true, eq_self, if_true, if_false, q_b1, q_b2, c_A, c_R, c_O, c_M, c_H1, c_H8, c_H15, h1, rf_M22, e8, njh]
    by_cases e : j = h
    · subst e
      have ep : eqx Sf M0 (q_put M 44 j 1) := hM.qput (by decide)
      have hu : uN H n j W j = 1 := uN_h g.hlt
      have e1 : q_put M 44 j 1 30 = M 30 := q_put_ne (by decide)
      have fin : ∀ (o3 : Int32) (o4 : Option Value), q_g 106 none Q 112 [some (.ref 30), some (.int (nI W)), some (.int (nI j)), some (.int o3), o4] [] (q_put M 44 j 1) := fun o3 o4 => next _ _ _ ep (fun i hi => by rw [q_put_at, if_neg (by omega)]; exact hf i hi) (by rw [q_put_at, if_pos rfl, hu]; rfl)
      simp only [n1z', ↓reduceIte, if_true, if_false, eq_self, not_true, not_false_eq_true, not_true_eq_false, Bool.true_eq_false, Bool.false_eq_true, Bool.not_false, Bool.not_true, Bool.and_true, Bool.and_false, Bool.true_and, Bool.false_and, gM_findWays_0, gM_findWays_1, gM_findWays_3, gM_findWays_6, gM_findWays_9, gM_findWays_10, gM_findWays_13, gM_findWays_14, gM_findWays_15, gM_findWays_16, gM_findWays_19, gM_findWays_22, gM_findWays_23, gM_findWays_26, gM_findWays_27, gM_findWays_28, gM_findWays_29, gM_findWays_31, gM_findWays_32, gM_findWays_35, gM_findWays_38, gM_findWays_39, gM_findWays_40, gM_findWays_41, gM_findWays_44, gM_findWays_47, gM_findWays_48, gM_findWays_49, gM_findWays_52, gM_findWays_55, gM_findWays_56, gM_findWays_57, gM_findWays_58, gM_findWays_59, gM_findWays_60, gM_findWays_61, gM_findWays_62, gM_findWays_64, gM_findWays_66, gM_findWays_67, gM_findWays_70, gM_findWays_71, gM_findWays_73, gM_findWays_74, gM_findWays_77, gM_findWays_80, gM_findWays_81, gM_findWays_82, gM_findWays_84, gM_findWays_87, gM_findWays_90, gM_findWays_91, gM_findWays_94, gM_findWays_95, gM_findWays_96, gM_findWays_97, gM_findWays_98, gM_findWays_101, gM_findWays_103, gM_findWays_104, gM_findWays_105, gM_findWays_106, gM_findWays_109, gM_findWays_115, gM_findWays_121, gM_findWays_122, gM_findWays_123, gM_findWays_126, gM_findWays_127, gM_findWays_130, gM_findWays_131, gM_findWays_132, gM_findWays_133, gM_findWays_136, gM_findWays_137, gM_findWays_140, gM_findWays_141, gM_findWays_142, gM_findWays_143, gM_findWays_144, gM_findWays_145, gM_findWays_146, gM_findWays_149, gM_findWays_152, gM_findWays_153, gM_findWays_154, gM_findWays_155, gM_findWays_158, gM_findWays_161, gM_findWays_162, gM_findWays_163, gM_findWays_166, gM_findWays_167, gM_findWays_168, gM_findWays_169, gM_findWays_170, gM_findWays_171, gM_findWays_172, gM_findWays_175, gM_findWays_178, gM_findWays_179, gM_findWays_180, gM_findWays_181, gM_findWays_184, gM_findWays_187, gM_findWays_188, gM_findWays_191, gM_findWays_192, gM_findWays_193, gM_findWays_194, gM_findWays_195, gM_findWays_198, gM_findWays_199, gM_findWays_200, gM_findWays_201, gM_findWays_202, gM_findWays_203, gM_findWays_204, gM_findWays_205, gM_findWays_206, gM_findWays_209, gM_findWays_212, gM_findWays_215, gM_findWays_218, ↓reduceIte, Bool.false_eq_true, Bool.true_eq_false, qk_i, qk_r, qk_n, Option.toList_some, Option.toList_none, List.cons_append, List.nil_append, true_and, and_true, true_or, or_true, eq_self, if_true, if_false, q_b1, q_b2, c_A, c_R, c_O, c_M, c_H1, c_H8, c_H15, aD_44, hin, cj]
      rw [gM_findWays_30]
      simp only [gM_findWays_0, gM_findWays_1, gM_findWays_3, gM_findWays_6, gM_findWays_9, gM_findWays_10, gM_findWays_13, gM_findWays_14, gM_findWays_15, gM_findWays_16, gM_findWays_19, gM_findWays_22, gM_findWays_23, gM_findWays_26, gM_findWays_27, gM_findWays_28, gM_findWays_29, gM_findWays_31, gM_findWays_32, gM_findWays_35, gM_findWays_38, gM_findWays_39, gM_findWays_40, gM_findWays_41, gM_findWays_44, gM_findWays_47, gM_findWays_48, gM_findWays_49, gM_findWays_52, gM_findWays_55, gM_findWays_56, gM_findWays_57, gM_findWays_58, gM_findWays_59, gM_findWays_60, gM_findWays_61, gM_findWays_62, gM_findWays_64, gM_findWays_66, gM_findWays_67, gM_findWays_70, gM_findWays_71, gM_findWays_73, gM_findWays_74, gM_findWays_77, gM_findWays_80, gM_findWays_81, gM_findWays_82, gM_findWays_84, gM_findWays_87, gM_findWays_90, gM_findWays_91, gM_findWays_94, gM_findWays_95, gM_findWays_96, gM_findWays_97, gM_findWays_98, gM_findWays_101, gM_findWays_103, gM_findWays_104, gM_findWays_105, gM_findWays_106, gM_findWays_109, gM_findWays_115, gM_findWays_121, gM_findWays_122, gM_findWays_123, gM_findWays_126, gM_findWays_127, gM_findWays_130, gM_findWays_131, gM_findWays_132, gM_findWays_133, gM_findWays_136, gM_findWays_137, gM_findWays_140, gM_findWays_141, gM_findWays_142, gM_findWays_143, gM_findWays_144, gM_findWays_145, gM_findWays_146, gM_findWays_149, gM_findWays_152, gM_findWays_153, gM_findWays_154, gM_findWays_155, gM_findWays_158, gM_findWays_161, gM_findWays_162, gM_findWays_163, gM_findWays_166, gM_findWays_167, gM_findWays_168, gM_findWays_169, gM_findWays_170, gM_findWays_171, gM_findWays_172, gM_findWays_175, gM_findWays_178, gM_findWays_179, gM_findWays_180, gM_findWays_181, gM_findWays_184, gM_findWays_187, gM_findWays_188, gM_findWays_191, gM_findWays_192, gM_findWays_193, gM_findWays_194, gM_findWays_195, gM_findWays_198, gM_findWays_199, gM_findWays_200, gM_findWays_201, gM_findWays_202, gM_findWays_203, gM_findWays_204, gM_findWays_205, gM_findWays_206, gM_findWays_209, gM_findWays_212, gM_findWays_215, gM_findWays_218, ↓reduceIte, Bool.false_eq_true, Bool.true_eq_false, qk_i, qk_r, qk_n, Option.toList_some, Option.toList_none, List.cons_append, List.nil_append, true_and, and_true, true_or, or_true, eq_self, if_true, if_false, q_b1, q_b2, c_A, c_R, c_O, c_M, c_H1, c_H8, c_H15, e1, hv.1, x_M_isWithin, q_z0, e8, n1z', ↓reduceIte, if_true, if_false, eq_self, not_true, not_false_eq_true, not_true_eq_false, Bool.true_eq_false, Bool.false_eq_true, Bool.not_false, Bool.not_true, Bool.and_true, Bool.and_false, Bool.true_and, Bool.false_and]
      repeat' split
      all_goals exact fin _ _
    · have ep : eqx Sf M0 (q_put M 44 j 0) := hM.qput (by decide)
      have hfp : ∀ i, i < j → q_put M 44 j 0 44 i = nI (uN H n h W i) := fun i hi => by rw [q_put_at, if_neg (by omega)]; exact hf i hi
      simp only [e, n1z', ↓reduceIte, if_true, if_false, eq_self, not_true, not_false_eq_true, not_true_eq_false, Bool.true_eq_false, Bool.false_eq_true, Bool.not_false, Bool.not_true, Bool.and_true, Bool.and_false, Bool.true_and, Bool.false_and, gM_findWays_0, gM_findWays_1, gM_findWays_3, gM_findWays_6, gM_findWays_9, gM_findWays_10, gM_findWays_13, gM_findWays_14, gM_findWays_15, gM_findWays_16, gM_findWays_19, gM_findWays_22, gM_findWays_23, gM_findWays_26, gM_findWays_27, gM_findWays_28, gM_findWays_29, gM_findWays_31, gM_findWays_32, gM_findWays_35, gM_findWays_38, gM_findWays_39, gM_findWays_40, gM_findWays_41, gM_findWays_44, gM_findWays_47, gM_findWays_48, gM_findWays_49, gM_findWays_52, gM_findWays_55, gM_findWays_56, gM_findWays_57, gM_findWays_58, gM_findWays_59, gM_findWays_60, gM_findWays_61, gM_findWays_62, gM_findWays_64, gM_findWays_66, gM_findWays_67, gM_findWays_70, gM_findWays_71, gM_findWays_73, gM_findWays_74, gM_findWays_77, gM_findWays_80, gM_findWays_81, gM_findWays_82, gM_findWays_84, gM_findWays_87, gM_findWays_90, gM_findWays_91, gM_findWays_94, gM_findWays_95, gM_findWays_96, gM_findWays_97, gM_findWays_98, gM_findWays_101, gM_findWays_103, gM_findWays_104, gM_findWays_105, gM_findWays_106, gM_findWays_109, gM_findWays_115, gM_findWays_121, gM_findWays_122, gM_findWays_123, gM_findWays_126, gM_findWays_127, gM_findWays_130, gM_findWays_131, gM_findWays_132, gM_findWays_133, gM_findWays_136, gM_findWays_137, gM_findWays_140, gM_findWays_141, gM_findWays_142, gM_findWays_143, gM_findWays_144, gM_findWays_145, gM_findWays_146, gM_findWays_149, gM_findWays_152, gM_findWays_153, gM_findWays_154, gM_findWays_155, gM_findWays_158, gM_findWays_161, gM_findWays_162, gM_findWays_163, gM_findWays_166, gM_findWays_167, gM_findWays_168, gM_findWays_169, gM_findWays_170, gM_findWays_171, gM_findWays_172, gM_findWays_175, gM_findWays_178, gM_findWays_179, gM_findWays_180, gM_findWays_181, gM_findWays_184, gM_findWays_187, gM_findWays_188, gM_findWays_191, gM_findWays_192, gM_findWays_193, gM_findWays_194, gM_findWays_195, gM_findWays_198, gM_findWays_199, gM_findWays_200, gM_findWays_201, gM_findWays_202, gM_findWays_203, gM_findWays_204, gM_findWays_205, gM_findWays_206, gM_findWays_209, gM_findWays_212, gM_findWays_215, gM_findWays_218, ↓reduceIte, Bool.false_eq_true, Bool.true_eq_false, qk_i, qk_r, qk_n, Option.toList_some, Option.toList_none, List.cons_append, List.nil_append, true_and, and_true, true_or, or_true, eq_self, if_true, if_false, q_b1, q_b2, c_A, c_R, c_O, c_M, c_H1, c_H8, c_H15, aD_44, hin, cj]
      cases hw : wi h W j
      · have hb : b_within (q_put M 44 j 0) (nI j) (nI W) = false := (bw_eq (g.vm (r0.f ep)).2.2.1 g.hlt hj').trans hw
        have e1 : q_put M 44 j 0 30 = M 30 := q_put_ne (by decide)
        have fin : ∀ (o3 : Int32) (o4 : Option Value), q_g 106 none Q 112 [some (.ref 30), some (.int (nI W)), some (.int (nI j)), some (.int o3), o4] [] (q_put M 44 j 0) := fun o3 o4 => next _ _ _ ep hfp (by rw [q_put_at, if_pos rfl, uN_out hj' e (by rw [hw]; decide)]; rfl)
        rw [gM_findWays_30]
        simp only [gM_findWays_0, gM_findWays_1, gM_findWays_3, gM_findWays_6, gM_findWays_9, gM_findWays_10, gM_findWays_13, gM_findWays_14, gM_findWays_15, gM_findWays_16, gM_findWays_19, gM_findWays_22, gM_findWays_23, gM_findWays_26, gM_findWays_27, gM_findWays_28, gM_findWays_29, gM_findWays_31, gM_findWays_32, gM_findWays_35, gM_findWays_38, gM_findWays_39, gM_findWays_40, gM_findWays_41, gM_findWays_44, gM_findWays_47, gM_findWays_48, gM_findWays_49, gM_findWays_52, gM_findWays_55, gM_findWays_56, gM_findWays_57, gM_findWays_58, gM_findWays_59, gM_findWays_60, gM_findWays_61, gM_findWays_62, gM_findWays_64, gM_findWays_66, gM_findWays_67, gM_findWays_70, gM_findWays_71, gM_findWays_73, gM_findWays_74, gM_findWays_77, gM_findWays_80, gM_findWays_81, gM_findWays_82, gM_findWays_84, gM_findWays_87, gM_findWays_90, gM_findWays_91, gM_findWays_94, gM_findWays_95, gM_findWays_96, gM_findWays_97, gM_findWays_98, gM_findWays_101, gM_findWays_103, gM_findWays_104, gM_findWays_105, gM_findWays_106, gM_findWays_109, gM_findWays_115, gM_findWays_121, gM_findWays_122, gM_findWays_123, gM_findWays_126, gM_findWays_127, gM_findWays_130, gM_findWays_131, gM_findWays_132, gM_findWays_133, gM_findWays_136, gM_findWays_137, gM_findWays_140, gM_findWays_141, gM_findWays_142, gM_findWays_143, gM_findWays_144, gM_findWays_145, gM_findWays_146, gM_findWays_149, gM_findWays_152, gM_findWays_153, gM_findWays_154, gM_findWays_155, gM_findWays_158, gM_findWays_161, gM_findWays_162, gM_findWays_163, gM_findWays_166, gM_findWays_167, gM_findWays_168, gM_findWays_169, gM_findWays_170, gM_findWays_171, gM_findWays_172, gM_findWays_175, gM_findWays_178, gM_findWays_179, gM_findWays_180, gM_findWays_181, gM_findWays_184, gM_findWays_187, gM_findWays_188, gM_findWays_191, gM_findWays_192, gM_findWays_193, gM_findWays_194, gM_findWays_195, gM_findWays_198, gM_findWays_199, gM_findWays_200, gM_findWays_201, gM_findWays_202, gM_findWays_203, gM_findWays_204, gM_findWays_205, gM_findWays_206, gM_findWays_209, gM_findWays_212, gM_findWays_215, gM_findWays_218, ↓reduceIte, Bool.false_eq_true, Bool.true_eq_false, qk_i, qk_r, qk_n, Option.toList_some, Option.toList_none, List.cons_append, List.nil_append, true_and, and_true, true_or, or_true, eq_self, if_true, if_false, q_b1, q_b2, c_A, c_R, c_O, c_M, c_H1, c_H8, c_H15, e1, hv.1, x_M_isWithin, hb, q_z0, n1z', ↓reduceIte, if_true, if_false, eq_self, not_true, not_false_eq_true, not_true_eq_false, Bool.true_eq_false, Bool.false_eq_true, Bool.not_false, Bool.not_true, Bool.and_true, Bool.and_false, Bool.true_and, Bool.false_and]
        repeat' split
        all_goals exact fin _ _
      · refine m_fw1i (M0 := M0) g hj' e hw (fun M2 o3 o4 hM2 hf2 hp2 => ?_) n 0 (by omega) _ _ r0 ep hfp (by rw [q_put_at, if_pos rfl]; rfl)
        refine next M2 _ _ hM2 hf2 ?_
        rw [hp2, uN_in hj' e hw]
end WAYS
