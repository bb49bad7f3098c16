/-! both sides' counts of REFUSALS behind the calls whose answers need not be looked at -/
section REF2
variable {M M1 M2 : q_M} {w c : Int32}
theorem TF.ref (f : TF M) (ok : okR (some w) = true := by decide) : TF (s_no (s_ref M w) w) :=
  f.step (some w) rfl (s_put_ne (by decide)) rfl (q_put_ne (by decide)) ok
theorem F_letter (t : TL M) (f : TF M) : TF (s_mletter (s_letter M c).2 c).2 := by
  obtain ⟨k, hk, e1, e2, e3⟩ := t
  have er : ∀ w, s_ref M w 30 14 = nI k := fun w => by rw [← e2]; exact congrFun (s_put_ne (by decide)) 14
  unfold s_letter
  by_cases h1 : 0 ≤ c
  · by_cases h2 : 255 < c
    · have h3 : ¬ c ≤ 255 := fun q => le_255.mp q h2
      rw [if_pos h1, if_pos h2]
      unfold s_mletter
      rw [if_pos h1, if_neg h3]
      exact f.ref (w := -6)
    · have h3 : c ≤ 255 := le_255.mpr h2
      rw [if_pos h1, if_neg h2, e1]
      by_cases h4 : k < 96
      · have h5 : nI k < 96 := nI_lt (b := 96) h4 (by omega)
        have h6 : ¬ nI k = 96 := fun q => absurd ((nI_eq (a := k) (b := 96) (by omega) (by omega)).mp q) (by omega)
        rw [if_pos h5]
        show TF (s_mletter (s_hear M c) c).2
        have eh : ∀ x, x ≠ 22 → x ≠ 23 → s_hear M c x = M x := fun x a b => (q_put_ne a).trans (s_put_ne b)
        have e14 : ¬ s_hear M c 30 14 = 96 := by
          rw [eh 30 (by decide) (by decide), e2]
          exact h6
        unfold s_mletter
        rw [if_pos h1, if_pos h3, if_neg e14]
        exact f.same (M' := q_put (q_put _ 38 _ c) 30 14 _) ((q_put_ne (show (29 : Nat) ≠ 30 by decide)).trans ((q_put_ne (show (29 : Nat) ≠ 38 by decide)).trans (eh 29 (by decide) (by decide)))) ((q_put_ne (show (31 : Nat) ≠ 30 by decide)).trans ((q_put_ne (show (31 : Nat) ≠ 38 by decide)).trans (eh 31 (by decide) (by decide))))
      · have h5 : ¬ nI k < 96 := nI_nlt (a := k) (b := 96) (by omega) (by omega)
        have h7 : s_ref M (-6) 30 14 = 96 := by
          rw [er, show k = 96 by omega]
          rfl
        rw [if_neg h5]
        show TF (s_mletter (s_ref M (-6)) c).2
        unfold s_mletter
        rw [if_pos h1, if_pos h3, if_pos h7]
        exact f.ref (w := -6)
  · rw [if_neg h1]
    unfold s_mletter
    rw [if_neg h1]
    exact f.ref (w := -4)
theorem F_row (t : TR M) (f : TF M) : TF (s_mrow (s_row M c).2 c).2 := by
  obtain ⟨k, hk, e1, e2⟩ := t
  have er : ∀ w, s_ref M w 30 25 = nI k := fun w => by rw [← e2]; exact congrFun (s_put_ne (by decide)) 25
  unfold s_row
  by_cases h1 : 0 ≤ c
  · by_cases h2 : 10 ≤ c
    · have h3 : ¬ c ≤ 9 := fun q => le_9.mp q h2
      rw [if_pos h1, if_pos h2]
      unfold s_mrow
      rw [if_pos h1, if_neg h3]
      exact f.ref (w := -6)
    · have h3 : c ≤ 9 := le_9.mpr h2
      rw [if_pos h1, if_neg h2, e1]
      by_cases h4 : k < 12
      · have h5 : nI k < 12 := nI_lt (b := 12) h4 (by omega)
        have h6 : ¬ nI k = 12 := fun q => absurd ((nI_eq (a := k) (b := 12) (by omega) (by omega)).mp q) (by omega)
        rw [if_pos h5]
        show TF (s_mrow (q_put (s_put M 28 12 (nI k) c) 0 7 (nI k + 1)) c).2
        have eh : ∀ x, x ≠ 0 → x ≠ 28 → q_put (s_put M 28 12 (nI k) c) 0 7 (nI k + 1) x = M x := fun x a b => (q_put_ne a).trans (s_put_ne b)
        have e14 : ¬ q_put (s_put M 28 12 (nI k) c) 0 7 (nI k + 1) 30 25 = 12 := by
          rw [eh 30 (by decide) (by decide), e2]
          exact h6
        unfold s_mrow
        rw [if_pos h1, if_pos h3, if_neg e14]
        exact f.same (M' := q_put (q_put _ 46 _ c) 30 25 _) ((q_put_ne (show (29 : Nat) ≠ 30 by decide)).trans ((q_put_ne (show (29 : Nat) ≠ 46 by decide)).trans (eh 29 (by decide) (by decide)))) ((q_put_ne (show (31 : Nat) ≠ 30 by decide)).trans ((q_put_ne (show (31 : Nat) ≠ 46 by decide)).trans (eh 31 (by decide) (by decide))))
      · have h5 : ¬ nI k < 12 := nI_nlt (a := k) (b := 12) (by omega) (by omega)
        have h7 : s_ref M (-6) 30 25 = 12 := by
          rw [er, show k = 12 by omega]
          rfl
        rw [if_neg h5]
        show TF (s_mrow (s_ref M (-6)) c).2
        unfold s_mrow
        rw [if_pos h1, if_pos h3, if_pos h7]
        exact f.ref (w := -6)
  · rw [if_neg h1]
    unfold s_mrow
    rw [if_neg h1]
    exact f.ref (w := -4)
theorem F_image (f : TF M) : TF (s_kA (q_put (q_put (s_cpH M 8 1) 0 8 1) 30 18 1) 0) :=
  f.same ((kA_cell (by decide) (by decide)).trans ((q_put_ne (by decide)).trans ((q_put_ne (by decide)).trans (cpH_ne (by omega)))))
    ((kA_cell (by decide) (by decide)).trans ((q_put_ne (by decide)).trans ((q_put_ne (by decide)).trans (cpH_ne (by omega)))))
theorem F_on (f : TF M) : TF (s_rA (s_cpH M 1 8) 0) :=
  f.same ((rA_cell (by decide) (by omega)).trans (cpH_ne (by omega))) ((rA_cell (by decide) (by omega)).trans (cpH_ne (by omega)))
theorem F_judge (f : TF M) : TF (q_put (q_put M 0 7 0) 30 25 0) :=
  f.same ((q_put_ne (by decide)).trans (q_put_ne (by decide))) ((q_put_ne (by decide)).trans (q_put_ne (by decide)))
end REF2
