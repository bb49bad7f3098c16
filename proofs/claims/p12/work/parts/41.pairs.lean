/-! letter and row, on both sides -/
section PL
variable {Q : q_R} {M M1 : q_M}
theorem le_255 {c : Int32} : c ≤ 255 ↔ ¬ 255 < c := Int32.not_lt.symm
theorem le_9 {c : Int32} : c ≤ 9 ↔ ¬ 10 ≤ c := by
  rw [Int32.le_iff_toInt_le, Int32.le_iff_toInt_le]
  have h1 : (9 : Int32).toInt = 9 := by decide
  have h2 : (10 : Int32).toInt = 10 := by decide
  omega
theorem kC_ref {w : Int32} (i : IA M) : kC M (s_ref M w) (M 22 1) (M 0 7) := kC_q i eqx_ref
theorem kM_no {w : Int32} (i : IM M) : kM M (s_no M w) (M 30 14) (M 30 25) := kM_m i eqm_no
/-- a letter: both say the same, and hold as many letters -/
theorem t_letter {c : Int32} (i : IA M) (j : IM M1) (e : M1 30 14 = M 22 1) :
    (s_letter M c).1 = (s_mletter M1 c).1 ∧ ∃ a, kC M (s_letter M c).2 a (M 0 7) ∧ kM M1 (s_mletter M1 c).2 a (M1 30 25) := by
  obtain ⟨k, hk, hk1⟩ := i.2.2.2
  have hk2 : M1 30 14 = nI k := e.trans hk1
  unfold s_letter s_mletter
  by_cases h1 : 0 ≤ c
  · by_cases h2 : 255 < c
    · have h3 : ¬ c ≤ 255 := fun q => le_255.mp q h2
      simp only [h1, h2, h3, if_true, if_false]
      exact ⟨trivial, _, kC_ref i, by rw [← e]; exact kM_no j⟩
    · have h3 : c ≤ 255 := le_255.mpr h2
      by_cases h4 : k < 96
      · have h5 : nI k < 96 := nI_lt (b := 96) h4 (by omega)
        have h6 : ¬ nI k = 96 := fun q => absurd ((nI_eq (a := k) (b := 96) (by omega) (by omega)).mp q) (by omega)
        simp only [h1, h2, h3, hk1, hk2, h5, h6, if_true, if_false]
        refine ⟨trivial, nI (k + 1), ?_, ?_⟩
        · have e22 : s_hear M c 22 1 = nI (k + 1) := by
            unfold s_hear
            rw [q_put_at, if_pos rfl, hk1, nI_1]
          have ec : ∀ cc, cc ≠ 22 → cc ≠ 23 → s_hear M c cc = M cc := fun cc a b => by
            unfold s_hear
            rw [q_put_ne a, s_put_ne b]
          exact ⟨⟨i.1.of (ec 1 (by decide) (by decide)), i.2.1.of (ec 8 (by decide) (by decide)), by rw [ec 0 (by decide) (by decide)]; exact i.2.2.1, ⟨k + 1, by omega, e22⟩⟩, fun cc hc => ec cc (by omega) (by omega), e22, by rw [ec 0 (by decide) (by decide)]⟩
        · obtain ⟨⟨n, h, v⟩, -, r, q⟩ := j
          have ef : ∀ p f, f ≠ 14 → q_put (q_put M1 38 p c) 30 14 (nI k + 1) 30 f = M1 30 f := fun p f hf => by rw [q_put_at, if_neg hf, q_put_ne (by decide)]
          have ec : ∀ p cc, cc ≠ 30 → cc ≠ 38 → q_put (q_put M1 38 p c) 30 14 (nI k + 1) cc = M1 cc := fun p cc a b => by rw [q_put_ne a, q_put_ne b]
          refine ⟨⟨⟨n, h, v.of (ef _ 7 (by decide)) (ef _ 8 (by decide)) (ec _ 34 (by decide) (by decide))⟩, ⟨k + 1, by omega, by rw [q_put_at, if_pos rfl, nI_1]⟩, by rw [ef _ 25 (by decide)]; exact r, ?_⟩, fun cc hc => ec _ cc (by omega) (by omega), by rw [q_put_at, if_pos rfl, nI_1], ef _ 25 (by decide)⟩
          rw [ef _ 18 (by decide)]
          rcases q with q | q
          · exact Or.inl q
          · exact Or.inr (q.of (fun t _ _ => by rw [ec _ 42 (by decide) (by decide)]))
      · have h5 : ¬ M 22 1 < 96 := by
          rw [hk1]
          exact nI_nlt (a := k) (b := 96) (by omega) (by omega)
        have h6 : M1 30 14 = 96 := by
          have : k = 96 := by omega
          rw [hk2, this]
          rfl
        simp only [if_pos h1, if_neg h2, if_pos h3, if_neg h5, if_pos h6]
        exact ⟨trivial, _, kC_ref i, by rw [← e]; exact kM_no j⟩
  · simp only [h1, if_false]
    exact ⟨trivial, _, kC_ref i, by rw [← e]; exact kM_no j⟩
/-- a THING of the row: likewise -/
theorem t_row {c : Int32} (i : IA M) (j : IM M1) (e : M1 30 25 = M 0 7) :
    (s_row M c).1 = (s_mrow M1 c).1 ∧ ∃ b, kC M (s_row M c).2 (M 22 1) b ∧ kM M1 (s_mrow M1 c).2 (M1 30 14) b := by
  obtain ⟨k, hk, hk1⟩ := i.2.2.1
  have hk2 : M1 30 25 = nI k := e.trans hk1
  unfold s_row s_mrow
  by_cases h1 : 0 ≤ c
  · by_cases h2 : 10 ≤ c
    · have h3 : ¬ c ≤ 9 := fun q => le_9.mp q h2
      simp only [h1, h2, h3, if_true, if_false]
      exact ⟨trivial, _, kC_ref i, by rw [← e]; exact kM_no j⟩
    · have h3 : c ≤ 9 := le_9.mpr h2
      by_cases h4 : k < 12
      · have h5 : nI k < 12 := nI_lt (b := 12) h4 (by omega)
        have h6 : ¬ nI k = 12 := fun q => absurd ((nI_eq (a := k) (b := 12) (by omega) (by omega)).mp q) (by omega)
        simp only [h1, h2, h3, hk1, hk2, h5, h6, if_true, if_false]
        refine ⟨trivial, nI (k + 1), ?_, ?_⟩
        · have ec : ∀ p cc, cc ≠ 0 → cc ≠ 28 → q_put (s_put M 28 12 p c) 0 7 (nI k + 1) cc = M cc := fun p cc a b => by rw [q_put_ne a, s_put_ne b]
          have e0 : ∀ p, q_put (s_put M 28 12 p c) 0 7 (nI k + 1) 0 7 = nI (k + 1) := fun p => by rw [q_put_at, if_pos rfl, nI_1]
          exact ⟨⟨i.1.of (ec _ 1 (by decide) (by decide)), i.2.1.of (ec _ 8 (by decide) (by decide)), ⟨k + 1, by omega, e0 _⟩, by rw [ec _ 22 (by decide) (by decide)]; exact i.2.2.2⟩, fun cc hc => ec _ cc (by omega) (by omega), by rw [ec _ 22 (by decide) (by decide)], e0 _⟩
        · obtain ⟨⟨n, h, v⟩, r, -, q⟩ := j
          have ef : ∀ p f, f ≠ 25 → q_put (q_put M1 46 p c) 30 25 (nI k + 1) 30 f = M1 30 f := fun p f hf => by rw [q_put_at, if_neg hf, q_put_ne (by decide)]
          have ec : ∀ p cc, cc ≠ 30 → cc ≠ 46 → q_put (q_put M1 46 p c) 30 25 (nI k + 1) cc = M1 cc := fun p cc a b => by rw [q_put_ne a, q_put_ne b]
          refine ⟨⟨⟨n, h, v.of (ef _ 7 (by decide)) (ef _ 8 (by decide)) (ec _ 34 (by decide) (by decide))⟩, by rw [ef _ 14 (by decide)]; exact r, ⟨k + 1, by omega, by rw [q_put_at, if_pos rfl, nI_1]⟩, ?_⟩, fun cc hc => ec _ cc (by omega) (by omega), ef _ 14 (by decide), by rw [q_put_at, if_pos rfl, nI_1]⟩
          rw [ef _ 18 (by decide)]
          rcases q with q | q
          · exact Or.inl q
          · exact Or.inr (q.of (fun t _ _ => by rw [ec _ 42 (by decide) (by decide)]))
      · have h5 : ¬ M 0 7 < 12 := by
          rw [hk1]
          exact nI_nlt (a := k) (b := 12) (by omega) (by omega)
        have h6 : M1 30 25 = 12 := by
          have : k = 12 := by omega
          rw [hk2, this]
          rfl
        simp only [if_pos h1, if_neg h2, if_pos h3, if_neg h5, if_pos h6]
        exact ⟨trivial, _, kC_ref i, by rw [← e]; exact kM_no j⟩
  · simp only [h1, if_false]
    exact ⟨trivial, _, kC_ref i, by rw [← e]; exact kM_no j⟩
end PL
