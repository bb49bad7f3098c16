/-! the house as one thing: H c j, c = 0 the numbers (6 things, 7 had, 8 minute), c = 1 .. 6 the rows; the class's words at base 0 of H -/
def RC (B : Nat) (M H : q_M) : Prop := (∀ c j, 1 ≤ c → c ≤ 6 → j < 10 → M (B + c) j = H c j) ∧ M B 6 = H 0 6 ∧ M B 7 = H 0 7 ∧ M B 8 = H 0 8
def RM (M H : q_M) : Prop := (∀ c j, 1 ≤ c → c ≤ 6 → j < 10 → M (31 + c) j = H c j) ∧ M 30 7 = H 0 6 ∧ M 30 8 = H 0 7 ∧ M 30 9 = H 0 8
def RK (a : Nat) (M H : q_M) : Prop := (∀ c j, 1 ≤ c → c ≤ 6 → j < 10 → M 42 (a + 10 * (c - 1) + j) = H c j) ∧ M 42 (a + 60) = H 0 6 ∧ M 42 (a + 61) = H 0 7 ∧ M 42 (a + 62) = H 0 8
/-- a THING's numbers as they must be -/
def gT (H : q_M) (n j : Nat) : Prop := (∃ k, k ≤ 5 ∧ H 1 j = nI k) ∧ (∃ m, 1 ≤ m ∧ m ≤ 30 ∧ H 2 j = nI m) ∧ (∃ s, 1 ≤ s ∧ s ≤ 10 ∧ H 3 j = nI s) ∧ (∃ c, c ≤ 9 ∧ H 4 j = nI c) ∧ (∃ a, a < 2 ^ n ∧ H 5 j = nI a) ∧ (∃ a, a < 2 ^ n ∧ H 6 j = nI a)
def gH (H : q_M) (n h : Nat) : Prop := n ≤ 10 ∧ H 0 6 = nI n ∧ H 0 7 = nI h ∧ h < 2 ^ n ∧ (∃ m, m ≤ 9999 ∧ H 0 8 = nI m) ∧ ∀ j, j < n → gT H n j
section RCs
variable {M H : q_M} {B : Nat} {t w : Int32}
theorem at_10 {t : Int32} (h0 : ¬ t < 0) (h1 : ¬ Int32.ofNat 10 ≤ t) : ∃ j, j < 10 ∧ t = nI j := by
  obtain ⟨j, hj, rfl⟩ := nI_of h0
  refine ⟨j, ?_, rfl⟩
  rcases Nat.lt_or_ge j 10 with q | q
  · exact q
  · exact absurd (nI_le q hj) h1
theorem RC.get (r : RC B M H) {c : Nat} (h1 : 1 ≤ c) (h6 : c ≤ 6) : s_get M (B + c) 10 t = s_get H (0 + c) 10 t := by
  unfold s_get
  by_cases a : t < 0
  · rw [if_pos a, if_pos a]
  · by_cases b : Int32.ofNat 10 ≤ t
    · rw [if_neg a, if_neg a, if_pos b, if_pos b]
    · obtain ⟨j, hj, rfl⟩ := at_10 a b
      rw [if_neg a, if_neg a, if_neg b, if_neg b, nI_clamp (by omega), r.1 c j h1 h6 hj, Nat.zero_add]
theorem RC.lit (r : RC B M H) : s_lit M B t w = s_lit H 0 t w := by
  unfold s_lit
  rw [r.get (c := 2) (by omega) (by omega)]
theorem RC.go (r : RC B M H) : s_go M B t w = s_go H 0 t w := by
  unfold s_go
  rw [r.get (c := 1) (by omega) (by omega), r.get (c := 2) (by omega) (by omega), r.lit]
theorem RC.some (r : RC B M H) : b_some M B t w = b_some H 0 t w := by
  unfold b_some
  rw [r.get (c := 1) (by omega) (by omega), r.get (c := 5) (by omega) (by omega)]
theorem RC.every (r : RC B M H) : b_every M B t w = b_every H 0 t w := by
  unfold b_every
  rw [r.get (c := 6) (by omega) (by omega)]
theorem RC.isThing (r : RC B M H) : b_isThing M B t = b_isThing H 0 t := by
  unfold b_isThing
  rw [r.2.1]
theorem RC.can (r : RC B M H) : b_can M B t w = b_can H 0 t w := by
  unfold b_can
  rw [r.isThing, r.some, r.every, r.get (c := 1) (by omega) (by omega)]
theorem RC.all (r : RC B M H) : s_all M B = s_all H 0 := by
  unfold s_all
  rw [r.2.1]
theorem RC.isSet (r : RC B M H) : b_isSet M B w = b_isSet H 0 w := by
  unfold b_isSet
  rw [r.all]
theorem RC.may (r : RC B M H) : ∀ k, s_may M B w k = s_may H 0 w k
  | 0 => rfl
  | k + 1 => by
    unfold s_may
    rw [r.can, r.may k]
theorem RC.rw (r : RC B M H) {n : Nat} {al : Int32} : ∀ k (s : Int32), s_rw M B n al k s = s_rw H 0 n al k s
  | 0, _ => rfl
  | k + 1, s => by
    unfold s_rw
    rw [r.may n, r.rw k]
theorem RC.cost (r : RC B M H) : ∀ k, s_cost M B w k = s_cost H 0 w k
  | 0 => rfl
  | k + 1 => by
    unfold s_cost
    rw [r.get (c := 4) (by omega) (by omega), r.cost k]
theorem RC.tell (r : RC B M H) : s_tell M B t w = s_tell H 0 t w := by
  unfold s_tell
  rw [r.get (c := 1) (by omega) (by omega), r.get (c := 2) (by omega) (by omega), r.get (c := 3) (by omega) (by omega), r.get (c := 4) (by omega) (by omega), r.get (c := 5) (by omega) (by omega), r.get (c := 6) (by omega) (by omega), r.go, r.2.2.1]
theorem RC.of {M' : q_M} (r : RC B M H) (e : ∀ c, B ≤ c → c ≤ B + 6 → M' c = M c) : RC B M' H :=
  ⟨fun c j h1 h6 hj => by rw [e _ (by omega) (by omega)]; exact r.1 c j h1 h6 hj, by rw [e _ (by omega) (by omega)]; exact r.2.1, by rw [e _ (by omega) (by omega)]; exact r.2.2.1, by rw [e _ (by omega) (by omega)]; exact r.2.2.2⟩
theorem RM.of {M' : q_M} (r : RM M H) (e : ∀ c, 32 ≤ c → c ≤ 37 → M' c = M c) (e7 : M' 30 7 = M 30 7) (e8 : M' 30 8 = M 30 8) (e9 : M' 30 9 = M 30 9) : RM M' H :=
  ⟨fun c j h1 h6 hj => by rw [e _ (by omega) (by omega)]; exact r.1 c j h1 h6 hj, by rw [e7]; exact r.2.1, by rw [e8]; exact r.2.2.1, by rw [e9]; exact r.2.2.2⟩
theorem RK.of {M' : q_M} {a : Nat} (r : RK a M H) (e : ∀ i, a ≤ i → i < a + 65 → M' 42 i = M 42 i) : RK a M' H :=
  ⟨fun c j h1 h6 hj => by rw [e _ (by omega) (by omega)]; exact r.1 c j h1 h6 hj, by rw [e _ (by omega) (by omega)]; exact r.2.1, by rw [e _ (by omega) (by omega)]; exact r.2.2.1, by rw [e _ (by omega) (by omega)]; exact r.2.2.2⟩
end RCs
section RG
variable {M H : q_M} {n h : Nat}
theorem gH.vh {B : Nat} (g : gH H n h) (r : RC B M H) (hB : q_isC 0 B = true) : v_h M B n h := ⟨hB, r.2.1.trans g.2.1, g.1, r.2.2.1.trans g.2.2.1, g.2.2.2.1⟩
theorem gH.vm (g : gH H n h) (r : RM M H) : v_m M n h := ⟨r.2.1.trans g.2.1, g.1, r.2.2.1.trans g.2.2.1, g.2.2.2.1, fun t ht => by
  have h10 := g.1
  obtain ⟨-, -, ⟨s, h1, h2, e⟩, -⟩ := g.2.2.2.2.2 t ht
  rw [show (34 : Nat) = 31 + 3 by rfl, r.1 3 t (by omega) (by omega) (by omega), e]
  exact nI_ne0 (by omega) (by omega)⟩
theorem gH.hlt (g : gH H n h) : h < 1024 := Nat.lt_of_lt_of_le g.2.2.2.1 (two_pow_le g.1)
theorem RM.e (r : RM M H) {j : Nat} (hj : j < 10) : H 1 j = M 32 j ∧ H 2 j = M 33 j ∧ H 3 j = M 34 j ∧ H 4 j = M 35 j ∧ H 5 j = M 36 j ∧ H 6 j = M 37 j :=
  ⟨(r.1 1 j (by omega) (by omega) hj).symm, (r.1 2 j (by omega) (by omega) hj).symm, (r.1 3 j (by omega) (by omega) hj).symm, (r.1 4 j (by omega) (by omega) hj).symm, (r.1 5 j (by omega) (by omega) hj).symm, (r.1 6 j (by omega) (by omega) hj).symm⟩
/-- the class's house put where another was -/
theorem cpH_RC {B C : Nat} (hBC : B + 6 < C ∨ C + 6 < B) (r : RC C M H) : RC B (s_cpH M B C) H := by
  have e6 : s_cpH M B C B 6 = M C 6 := by simp [s_cpH, q_put_at]
  have e7 : s_cpH M B C B 7 = M C 7 := by simp [s_cpH, q_put_at]
  have e8 : s_cpH M B C B 8 = M C 8 := by simp [s_cpH, q_put_at]
  refine ⟨fun c j h1 h6 hj => ?_, e6.trans r.2.1, e7.trans r.2.2.1, e8.trans r.2.2.2⟩
  rw [← r.1 c j h1 h6 hj]
  have hc : B + c ≠ B := by omega
  have key : ∀ k, 1 ≤ k → k ≤ 6 → (s_cpA M B C) (B + k) j = M (C + k) j := by
    have a1 : ∀ (N : q_M) (a b i : Nat), b ≠ i → s_cp N a b 10 i = N i := fun N a b i hb => by
      unfold s_cp
      rw [if_neg (fun q => hb q.symm)]
    have a2 : ∀ (N : q_M) (a b : Nat), s_cp N a b 10 b j = N a j := fun N a b => by
      unfold s_cp
      rw [if_pos rfl, if_pos hj]
    intro k k1 k6
    have : k = 1 ∨ k = 2 ∨ k = 3 ∨ k = 4 ∨ k = 5 ∨ k = 6 := by omega
    unfold s_cpA
    rcases this with rfl | rfl | rfl | rfl | rfl | rfl
    · rw [a1 _ _ _ _ (by omega), a1 _ _ _ _ (by omega), a1 _ _ _ _ (by omega), a1 _ _ _ _ (by omega), a1 _ _ _ _ (by omega), a2]
    · rw [a1 _ _ _ _ (by omega), a1 _ _ _ _ (by omega), a1 _ _ _ _ (by omega), a1 _ _ _ _ (by omega), a2, a1 _ _ _ _ (by omega)]
    · rw [a1 _ _ _ _ (by omega), a1 _ _ _ _ (by omega), a1 _ _ _ _ (by omega), a2, a1 _ _ _ _ (by omega), a1 _ _ _ _ (by omega)]
    · rw [a1 _ _ _ _ (by omega), a1 _ _ _ _ (by omega), a2, a1 _ _ _ _ (by omega), a1 _ _ _ _ (by omega), a1 _ _ _ _ (by omega)]
    · rw [a1 _ _ _ _ (by omega), a2, a1 _ _ _ _ (by omega), a1 _ _ _ _ (by omega), a1 _ _ _ _ (by omega), a1 _ _ _ _ (by omega)]
    · rw [a2, a1 _ _ _ _ (by omega), a1 _ _ _ _ (by omega), a1 _ _ _ _ (by omega), a1 _ _ _ _ (by omega), a1 _ _ _ _ (by omega)]
  unfold s_cpH
  rw [q_put_ne hc, q_put_ne hc, q_put_ne hc]
  exact key c h1 h6
/-- the reference's house kept, and put back -/
theorem kA_RK {a : Nat} (r : RM M H) : RK a (s_kA M a) H := by
  have hk : ∀ k c, k ≤ 5 → ∀ j, j < 10 → c = 32 + k → s_k6 M a 42 (a + 10 * k + j) = M c j := by
    intro k c hk j hj hc
    have h0 : ∀ c, c ≠ 30 → s_k0 M a c = M c := fun c hc => by
      unfold s_k0
      rw [q_put_ne hc, q_put_ne hc]
    unfold s_k6
    have : k = 0 ∨ k = 1 ∨ k = 2 ∨ k = 3 ∨ k = 4 ∨ k = 5 := by omega
    rcases this with rfl | rfl | rfl | rfl | rfl | rfl <;> subst hc
    · rw [kp_out (by omega), kp_out (by omega), kp_out (by omega), kp_out (by omega), kp_out (by omega), show a + 10 * 0 + j = a + j by omega, kp_in hj, h0 _ (by decide)]
    · rw [kp_out (by omega), kp_out (by omega), kp_out (by omega), kp_out (by omega), show a + 10 * 1 + j = a + 10 + j by omega, kp_in hj, kp_ne (by decide) (by decide), h0 _ (by decide)]
    · rw [kp_out (by omega), kp_out (by omega), kp_out (by omega), show a + 10 * 2 + j = a + 10 + 10 + j by omega, kp_in hj, kp_ne (by decide) (by decide), kp_ne (by decide) (by decide), h0 _ (by decide)]
    · rw [kp_out (by omega), kp_out (by omega), show a + 10 * 3 + j = a + 10 + 10 + 10 + j by omega, kp_in hj, kp_ne (by decide) (by decide), kp_ne (by decide) (by decide), kp_ne (by decide) (by decide), h0 _ (by decide)]
    · rw [kp_out (by omega), show a + 10 * 4 + j = a + 10 + 10 + 10 + 10 + j by omega, kp_in hj, kp_ne (by decide) (by decide), kp_ne (by decide) (by decide), kp_ne (by decide) (by decide), kp_ne (by decide) (by decide), h0 _ (by decide)]
    · rw [show a + 10 * 5 + j = a + 10 + 10 + 10 + 10 + 10 + j by omega, kp_in hj, kp_ne (by decide) (by decide), kp_ne (by decide) (by decide), kp_ne (by decide) (by decide), kp_ne (by decide) (by decide), kp_ne (by decide) (by decide), h0 _ (by decide)]
  refine ⟨fun c j h1 h6 hj => ?_, ?_, ?_, ?_⟩
  · rw [kA_42, if_neg (by omega), if_neg (by omega), if_neg (by omega), hk (c - 1) (31 + c) (by omega) j hj (by omega)]
    exact r.1 c j h1 h6 hj
  · rw [kA_42, if_neg (by omega), if_neg (by omega), if_pos rfl]
    exact r.2.1
  · rw [kA_42, if_neg (by omega), if_pos rfl]
    exact r.2.2.1
  · rw [kA_42, if_pos rfl]
    exact r.2.2.2
theorem rA_RM {a : Nat} (r : RK a M H) : RM (s_rA M a) H := by
  have hr : ∀ k c, k ≤ 5 → ∀ j, j < 10 → c = 32 + k → s_r6 M a c j = M 42 (a + 10 * k + j) := by
    intro k c hk j hj hc
    have h42 : s_r0 M a 42 = M 42 := by
      unfold s_r0
      rw [q_put_ne (by decide), q_put_ne (by decide)]
    unfold s_r6
    have : k = 0 ∨ k = 1 ∨ k = 2 ∨ k = 3 ∨ k = 4 ∨ k = 5 := by omega
    rcases this with rfl | rfl | rfl | rfl | rfl | rfl <;> subst hc
    · rw [rs_ne (by decide) (by decide), rs_ne (by decide) (by decide), rs_ne (by decide) (by decide), rs_ne (by decide) (by decide), rs_ne (by decide) (by decide), rs_in (by decide) hj, h42, show a + 10 * 0 + j = a + j by omega]
    · rw [rs_ne (by decide) (by decide), rs_ne (by decide) (by decide), rs_ne (by decide) (by decide), rs_ne (by decide) (by decide), rs_in (by decide) hj, rs_ne (by decide) (by decide), h42, show a + 10 * 1 + j = a + 10 + j by omega]
    · rw [rs_ne (by decide) (by decide), rs_ne (by decide) (by decide), rs_ne (by decide) (by decide), rs_in (by decide) hj, rs_ne (by decide) (by decide), rs_ne (by decide) (by decide), h42, show a + 10 * 2 + j = a + 10 + 10 + j by omega]
    · rw [rs_ne (by decide) (by decide), rs_ne (by decide) (by decide), rs_in (by decide) hj, rs_ne (by decide) (by decide), rs_ne (by decide) (by decide), rs_ne (by decide) (by decide), h42, show a + 10 * 3 + j = a + 10 + 10 + 10 + j by omega]
    · rw [rs_ne (by decide) (by decide), rs_in (by decide) hj, rs_ne (by decide) (by decide), rs_ne (by decide) (by decide), rs_ne (by decide) (by decide), rs_ne (by decide) (by decide), h42, show a + 10 * 4 + j = a + 10 + 10 + 10 + 10 + j by omega]
    · rw [rs_in (by decide) hj, rs_ne (by decide) (by decide), rs_ne (by decide) (by decide), rs_ne (by decide) (by decide), rs_ne (by decide) (by decide), rs_ne (by decide) (by decide), h42, show a + 10 * 5 + j = a + 10 + 10 + 10 + 10 + 10 + j by omega]
  refine ⟨fun c j h1 h6 hj => ?_, ?_, ?_, ?_⟩
  · rw [← r.1 c j h1 h6 hj]
    have h30 : 31 + c ≠ 30 := by omega
    unfold s_rA
    rw [q_put_ne h30, q_put_ne h30, q_put_ne h30, q_put_ne h30, q_put_ne h30, q_put_ne h30]
    exact hr (c - 1) (31 + c) (by omega) j hj (by omega)
  · rw [rA_7]
    exact r.2.1
  · rw [rA_8]
    exact r.2.2.1
  · rw [rA_9]
    exact r.2.2.2
end RG
