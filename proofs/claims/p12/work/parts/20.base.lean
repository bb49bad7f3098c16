/-! rows for running the pure machine by rewriting -/
theorem qk_i {x : Int32} : q_kill (some (.int x)) = some (.int x) := rfl
theorem qk_r {x : Nat} : q_kill (some (.ref x)) = some (.ref x) := rfl
theorem qk_n : q_kill none = none := rfl
theorem q_b1 {c : Prop} [Decidable c] : ((if c then (1 : Int32) else 0) = 0) = ¬ c := by by_cases h : c <;> simp [h]
theorem q_b2 {c : Prop} [Decidable c] : ((if c then (1 : Int32) else 0) = 1) = c := by by_cases h : c <;> simp [h]
theorem q_b3 {c : Prop} [Decidable c] : ((if c then (1 : Int32) else 0) = 0 ∨ (if c then (1 : Int32) else 0) = 1) = True := by by_cases h : c <;> simp [h]
theorem c_A : q_isC 3 0 = true := by decide +kernel
theorem c_R : q_isC 2 22 = true := by decide +kernel
theorem c_O : q_isC 1 24 = true := by decide +kernel
theorem c_M : q_isC 4 30 = true := by decide +kernel
theorem c_H1 : q_isC 0 1 = true := by decide +kernel
theorem c_H8 : q_isC 0 8 = true := by decide +kernel
theorem c_H15 : q_isC 0 15 = true := by decide +kernel
/-- a house's cells -/
theorem q_house {B : Nat} (h : q_isC 0 B = true) : B = 1 ∨ B = 8 ∨ B = 15 := by
  have key : ∀ k, k < 47 → q_isC 0 k = true → k = 1 ∨ k = 8 ∨ k = 15 := by decide +kernel
  by_cases hB : B < 47
  · exact key B hB h
  · exfalso
    unfold q_isC at h
    rw [List.getElem?_eq_none (by simp [q_lay]; omega)] at h
    cases h
theorem rf_H0 {B : Nat} (h : q_isC 0 B = true) : q_rf B 0 = B + 1 := by rcases q_house h with rfl | rfl | rfl <;> decide +kernel
theorem rf_H1 {B : Nat} (h : q_isC 0 B = true) : q_rf B 1 = B + 2 := by rcases q_house h with rfl | rfl | rfl <;> decide +kernel
theorem rf_H2 {B : Nat} (h : q_isC 0 B = true) : q_rf B 2 = B + 3 := by rcases q_house h with rfl | rfl | rfl <;> decide +kernel
theorem rf_H3 {B : Nat} (h : q_isC 0 B = true) : q_rf B 3 = B + 4 := by rcases q_house h with rfl | rfl | rfl <;> decide +kernel
theorem rf_H4 {B : Nat} (h : q_isC 0 B = true) : q_rf B 4 = B + 5 := by rcases q_house h with rfl | rfl | rfl <;> decide +kernel
theorem rf_H5 {B : Nat} (h : q_isC 0 B = true) : q_rf B 5 = B + 6 := by rcases q_house h with rfl | rfl | rfl <;> decide +kernel
theorem al_H {B : Nat} (h : q_isC 0 B = true) : q_alen (B + 1) = some 10 ∧ q_alen (B + 2) = some 10 ∧ q_alen (B + 3) = some 10 ∧ q_alen (B + 4) = some 10 ∧ q_alen (B + 5) = some 10 ∧ q_alen (B + 6) = some 10 := by rcases q_house h with rfl | rfl | rfl <;> decide +kernel
theorem q_alenD_of {k n : Nat} (h : q_alen k = some n) : q_alenD k = n := by unfold q_alenD; rw [h]; rfl
theorem q_alen_lt {k n : Nat} (h : q_alen k = some n) : n ≤ 1024 := by
  unfold q_alen at h
  split at h
  · rename_i m hm
    cases h
    have key : q_lay.all (fun c => match c with
      | .inl n => decide (n ≤ 1024)
      | _ => true) = true := by decide +kernel
    have h1 := List.all_eq_true.mp key _ (List.mem_of_getElem? hm)
    exact of_decide_eq_true h1
  · cases h
theorem q_in_of {i : Int32} {n : Nat} (hn : n ≤ 1024) (h0 : ¬ i < 0) (h1 : ¬ Int32.ofNat n ≤ i) : q_in i n = true := by
  obtain ⟨j, hj, rfl⟩ := nI_of h0
  have h2 : ¬ n ≤ j := fun q => h1 (nI_le q hj)
  simp only [q_in, decide_eq_true_eq]
  exact nI_in (by omega) (by omega)
/-! Rows -/
/-- what Rows.get answers -/
def s_get (M : q_M) (k n : Nat) (i : Int32) : Int32 := if i < 0 then 0 else if Int32.ofNat n ≤ i then 0 else M k i.toNatClampNeg
theorem x_W_get {Q : q_R} {M : q_M} {k n : Nat} {i : Int32} (hk : q_alen k = some n) : q_Run 1 [.ref k, .int i] M Q = Q (some (.int (s_get M k n i))) M := by
  rw [e_W_get]
  simp only [gW_get_0, gW_get_1, gW_get_4, gW_get_5, gW_get_8, gW_get_9, gW_get_10, gW_get_11, gW_get_14, gW_get_15, gW_get_16, gW_get_17, gW_get_20, gW_get_21, ↓reduceIte, Bool.false_eq_true, Bool.true_eq_false, qk_i, qk_r, qk_n, Option.toList_some, Option.toList_none, List.cons_append, List.nil_append, true_and, and_true, true_or, or_true, eq_self, if_true, if_false, q_b1, q_b2, c_A, c_R, c_O, c_M, c_H1, c_H8, c_H15, hk, q_alenD_of hk, Option.isSome_some]
  unfold s_get
  by_cases h0 : i < 0
  · simp only [h0, if_true]
  · by_cases h1 : Int32.ofNat n ≤ i
    · simp only [h0, h1, if_true, if_false]
    · simp only [h0, h1, if_false, q_in_of (q_alen_lt hk) h0 h1, true_and]
def s_put (M : q_M) (k n : Nat) (i v : Int32) : q_M := if i < 0 then M else if Int32.ofNat n ≤ i then M else q_put M k i.toNatClampNeg v
theorem x_W_put {Q : q_R} {M : q_M} {k n : Nat} {i v : Int32} (hk : q_alen k = some n) : q_Run 2 [.ref k, .int i, .int v] M Q = Q none (s_put M k n i v) := by
  rw [e_W_put]
  simp only [gW_put_0, gW_put_1, gW_put_4, gW_put_5, gW_put_8, gW_put_9, gW_put_10, gW_put_11, gW_put_14, gW_put_15, gW_put_16, gW_put_17, gW_put_18, ↓reduceIte, Bool.false_eq_true, Bool.true_eq_false, qk_i, qk_r, qk_n, Option.toList_some, Option.toList_none, List.cons_append, List.nil_append, true_and, and_true, true_or, or_true, eq_self, if_true, if_false, q_b1, q_b2, c_A, c_R, c_O, c_M, c_H1, c_H8, c_H15, hk, q_alenD_of hk, Option.isSome_some]
  unfold s_put
  by_cases h0 : i < 0
  · simp only [h0, if_true]
  · by_cases h1 : Int32.ofNat n ≤ i
    · simp only [h0, h1, if_true, if_false]
    · simp only [h0, h1, if_false, q_in_of (q_alen_lt hk) h0 h1, true_and]
