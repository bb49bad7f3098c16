/-! what holds of the class's cells, of the reference's, and of both -/
def IM (M : q_M) : Prop := v_M M ∧ (∃ k, k ≤ 96 ∧ M 30 14 = nI k) ∧ (∃ r, r ≤ 12 ∧ M 30 25 = nI r) ∧ (M 30 18 = 0 ∨ v_k M 0)
def II (M : q_M) : Prop := IA M ∧ IM M ∧ M 22 1 = M 30 14 ∧ M 0 7 = M 30 25
/-- behind a call of the class: the letters are a, the row's length b -/
def kC (M M' : q_M) (a b : Int32) : Prop := IA M' ∧ (∀ c, 30 ≤ c → M' c = M c) ∧ M' 22 1 = a ∧ M' 0 7 = b
def kM (M M' : q_M) (a b : Int32) : Prop := IM M' ∧ (∀ c, c < 30 → M' c = M c) ∧ M' 30 14 = a ∧ M' 30 25 = b
theorem IA.same {M M' : q_M} (i : IA M) (e : ∀ c, c < 30 → M' c = M c) : IA M' :=
  ⟨i.1.of (e 1 (by omega)), i.2.1.of (e 8 (by omega)), by rw [e 0 (by omega)]; exact i.2.2.1, by rw [e 22 (by omega)]; exact i.2.2.2⟩
theorem IM.same {M M' : q_M} (i : IM M) (e : ∀ c, 30 ≤ c → M' c = M c) : IM M' := by
  obtain ⟨⟨n, h, v⟩, k, r, q⟩ := i
  refine ⟨⟨n, h, v.of (by rw [e 30 (by omega)]) (by rw [e 30 (by omega)]) (e 34 (by omega))⟩, by rw [e 30 (by omega)]; exact k, by rw [e 30 (by omega)]; exact r, ?_⟩
  rw [e 30 (by omega)]
  rcases q with q | q
  · exact Or.inl q
  · exact Or.inr (q.of (fun i _ _ => by rw [e 42 (by omega)]))
theorem II.step {M M1 M2 : q_M} {a b : Int32} (i : II M) (h1 : kC M M1 a b) (h2 : kM M1 M2 a b) : II M2 :=
  ⟨h1.1.same h2.2.1, h2.1, by rw [h2.2.1 22 (by omega), h1.2.2.1, h2.2.2.1], by rw [h2.2.1 0 (by omega), h1.2.2.2, h2.2.2.2]⟩
theorem II.mid {M M1 : q_M} {a b : Int32} (i : II M) (h1 : kC M M1 a b) : IM M1 ∧ M1 30 14 = M 22 1 ∧ M1 30 25 = M 0 7 :=
  ⟨i.2.1.same h1.2.1, by rw [h1.2.1 30 (by omega)]; exact i.2.2.1.symm, by rw [h1.2.1 30 (by omega)]; exact i.2.2.2.symm⟩
theorem Sq30 : ∀ c, 30 ≤ c → Sq c = false := by
  intro c h
  unfold Sq So
  simp
  omega
theorem Sn30 : ∀ c, 30 ≤ c → Sn c = false := by
  intro c h
  unfold Sn
  simp
  omega
theorem kC_q {M M' : q_M} (i : IA M) (e : eqx Sq M M') : kC M M' (M 22 1) (M 0 7) :=
  ⟨i.q e (by decide) (by decide) (by decide) (by decide), fun c hc => e c (Sq30 c hc), by rw [e 22 (by decide)], by rw [e 0 (by decide)]⟩
theorem kC_n {M M' : q_M} (i : IA M) (e : eqx Sn M M') (v : v_H M' 1) : kC M M' (M 22 1) (M 0 7) :=
  ⟨⟨v, i.2.1.of (e 8 (by decide)), by rw [e 0 (by decide)]; exact i.2.2.1, by rw [e 22 (by decide)]; exact i.2.2.2⟩, fun c hc => e c (Sn30 c hc), by rw [e 22 (by decide)], by rw [e 0 (by decide)]⟩
theorem Sm_lt : ∀ c, c < 30 → Sm c = false := by
  intro c h
  unfold Sm
  simp
  omega
theorem Sv_lt : ∀ c, c < 30 → Sv c = false := by
  intro c h
  unfold Sv
  simp
  omega
theorem kM_m {M M' : q_M} (i : IM M) (e : eqx Sm M M') : kM M M' (M 30 14) (M 30 25) := by
  obtain ⟨⟨n, h, v⟩, k, r, q⟩ := i
  have e30 : M' 30 = M 30 := e 30 (by decide)
  refine ⟨⟨⟨n, h, v.of (by rw [e30]) (by rw [e30]) (e 34 (by decide))⟩, by rw [e30]; exact k, by rw [e30]; exact r, ?_⟩, fun c hc => e c (Sm_lt c hc), by rw [e30], by rw [e30]⟩
  rw [e30]
  rcases q with q | q
  · exact Or.inl q
  · exact Or.inr (q.of (fun i _ _ => by rw [e 42 (by decide)]))
theorem kM_v {M M' : q_M} (i : IM M) (e : eqf Sv Gv M M') (v : v_M M') : kM M M' (M 30 14) (M 30 25) := by
  obtain ⟨-, k, r, q⟩ := i
  have h14 := e.2 14 (by decide)
  have h25 := e.2 25 (by decide)
  have h18 := e.2 18 (by decide)
  refine ⟨⟨v, by rw [h14]; exact k, by rw [h25]; exact r, ?_⟩, fun c hc => e.1 c (by omega) (Sv_lt c hc), h14, h25⟩
  rw [h18]
  rcases q with q | q
  · exact Or.inl q
  · exact Or.inr (q.of (fun i _ _ => by rw [e.1 42 (by decide) (by decide)]))
section KT
variable {Q : q_R} {M : q_M}
theorem k_A_thing {a b : Int32} (i : IA M) (hQ : ∀ (x : Int32) M', kC M M' (M 22 1) (M 0 7) → Q (some (.int x)) M') : q_Run 89 [.ref 0, .int a, .int b] M Q := by
  obtain ⟨n, h, v⟩ := i.1
  exact w_A_thing v fun x M' e => hQ x M' (kC_q i e)
theorem k_A_may (i : IA M) (hQ : ∀ (x : Int32) M', kC M M' (M 22 1) (M 0 7) → Q (some (.int x)) M') : q_Run 71 [.ref 0] M Q := by
  obtain ⟨n, h, v⟩ := i.1
  exact w_A_may v fun x M' e => hQ x M' (kC_q i e)
theorem k_A_with {a : Int32} (i : IA M) (hQ : ∀ (x : Int32) M', kC M M' (M 22 1) (M 0 7) → Q (some (.int x)) M') : q_Run 91 [.ref 0, .int a] M Q := by
  obtain ⟨n, h, v⟩ := i.1
  exact w_A_with v fun x M' e => hQ x M' (kC_q i e)
theorem k_A_reach (i : IA M) (hQ : ∀ (x : Int32) M', kC M M' (M 22 1) (M 0 7) → Q (some (.int x)) M') : q_Run 77 [.ref 0] M Q := by
  obtain ⟨n, h, v⟩ := i.1
  exact w_A_reach v fun x M' e => hQ x M' (kC_q i e)
theorem k_A_soonest {a b : Int32} (i : IA M) (hQ : ∀ (x : Int32) M', kC M M' (M 22 1) (M 0 7) → Q (some (.int x)) M') : q_Run 85 [.ref 0, .int a, .int b] M Q := by
  obtain ⟨n, h, v⟩ := i.1
  exact w_A_soonest v fun x M' e => hQ x M' (kC_q i e)
theorem k_A_mean {a b : Int32} (i : IA M) (hQ : ∀ (x : Int64) M', kC M M' (M 22 1) (M 0 7) → Q (some (.long x)) M') : q_Run 72 [.ref 0, .int a, .int b] M Q := by
  obtain ⟨n, h, v⟩ := i.1
  exact w_A_mean v fun x M' e => hQ x M' (kC_q i e)
theorem k_A_surely {a : Int32} (i : IA M) (hQ : ∀ (x : Int64) M', kC M M' (M 22 1) (M 0 7) → Q (some (.long x)) M') : q_Run 87 [.ref 0, .int a] M Q := by
  obtain ⟨n, h, v⟩ := i.1
  exact w_A_surely v fun x M' e => hQ x M' (kC_q i e)
theorem k_A_ringed (i : IA M) (hQ : ∀ (x : Int32) M', kC M M' (M 22 1) (M 0 7) → Q (some (.int x)) M') : q_Run 81 [.ref 0] M Q := by
  obtain ⟨n, h, v⟩ := i.1
  exact w_A_ringed v fun x M' e => hQ x M' (kC_q i e)
theorem k_A_beg {a : Int32} (i : IA M) (hQ : ∀ (x : Int32) M', kC M M' (M 22 1) (M 0 7) → Q (some (.int x)) M') : q_Run 58 [.ref 0, .int a] M Q := by
  obtain ⟨n, h, v⟩ := i.1
  exact w_A_beg v fun x M' e => hQ x M' (kC_q i e)
theorem k_A_nails (i : IA M) (hQ : ∀ (x : Int32) M', kC M M' (M 22 1) (M 0 7) → Q (some (.int x)) M') : q_Run 74 [.ref 0] M Q := by
  obtain ⟨n, h, v⟩ := i.1
  exact w_A_nails v fun x M' e => hQ x M' (kC_q i e)
theorem k_A_spare (i : IA M) (hQ : ∀ (x : Int32) M', kC M M' (M 22 1) (M 0 7) → Q (some (.int x)) M') : q_Run 86 [.ref 0] M Q := by
  obtain ⟨n, h, v⟩ := i.1
  exact w_A_spare v fun x M' e => hQ x M' (kC_q i e)
theorem k_A_does {a : Int32} (i : IA M) (hQ : ∀ (x : Int32) M', kC M M' (M 22 1) (M 0 7) → Q (some (.int x)) M') : q_Run 60 [.ref 0, .int a] M Q := by
  obtain ⟨n, h, v⟩ := i.1
  exact w_A_does v fun x M' e => hQ x M' (kC_q i e)
theorem k_A_ways {a : Int32} (i : IA M) (hQ : ∀ (x : Int32) M', kC M M' (M 22 1) (M 0 7) → Q (some (.int x)) M') : q_Run 90 [.ref 0, .int a] M Q := by
  obtain ⟨n, h, v⟩ := i.1
  exact w_A_ways v fun x M' e => hQ x M' (kC_q i e)
theorem k_A_must {a : Int32} (i : IA M) (hQ : ∀ (x : Int32) M', kC M M' (M 22 1) (M 0 7) → Q (some (.int x)) M') : q_Run 73 [.ref 0, .int a] M Q := by
  obtain ⟨n, h, v⟩ := i.1
  exact w_A_must v fun x M' e => hQ x M' (kC_q i e)
theorem k_A_halfway {a b : Int32} (i : IA M) (hQ : ∀ (x : Int32) M', kC M M' (M 22 1) (M 0 7) → Q (some (.int x)) M') : q_Run 62 [.ref 0, .int a, .int b] M Q := by
  obtain ⟨n, h, v⟩ := i.1
  exact w_A_halfway v fun x M' e => hQ x M' (kC_q i e)
theorem k_A_drawer {a b c : Int32} (i : IA M) (hQ : ∀ (x : Int64) M', kC M M' (M 22 1) (M 0 7) → Q (some (.long x)) M') : q_Run 61 [.ref 0, .int a, .int b, .int c] M Q := by
  exact w_A_drawer fun x M' e => hQ x M' (kC_q i e)
theorem k_A_seeker {a b : Int32} (i : IA M) (hQ : ∀ (x : Int32) M', kC M M' (M 22 1) (M 0 7) → Q (some (.int x)) M') : q_Run 83 [.ref 0, .int a, .int b] M Q := by
  obtain ⟨n, h, v⟩ := i.1
  exact w_A_seeker v fun x M' e => hQ x M' (kC_q i e)
theorem k_A_seeks {a : Int32} (i : IA M) (hQ : ∀ (x : Int32) M', kC M M' (M 22 1) (M 0 7) → Q (some (.int x)) M') : q_Run 84 [.ref 0, .int a] M Q := by
  obtain ⟨n, h, v⟩ := i.1
  exact w_A_seeks v fun x M' e => hQ x M' (kC_q i e)
theorem k_A_lots {a b : Int32} (i : IA M) (hQ : ∀ (x : Int32) M', kC M M' (M 22 1) (M 0 7) → Q (some (.int x)) M') : q_Run 70 [.ref 0, .int a, .int b] M Q := by
  obtain ⟨n, h, v⟩ := i.1
  exact w_A_lots v fun x M' e => hQ x M' (kC_q i e)
theorem k_A_count {a : Int32} (i : IA M) (hQ : ∀ (x : Int32) M', kC M M' (M 22 1) (M 0 7) → Q (some (.int x)) M') : q_Run 59 [.ref 0, .int a] M Q := by
  obtain ⟨n, h, v⟩ := i.1
  exact w_A_count v fun x M' e => hQ x M' (kC_q i e)
theorem k_M_thing {a b : Int32} (i : IM M) (hQ : ∀ (x : Int32) M', kM M M' (M 30 14) (M 30 25) → Q (some (.int x)) M') : q_Run 152 [.ref 30, .int a, .int b] M Q := by
  obtain ⟨n, h, v⟩ := i.1
  exact w_M_thing v fun x M' e => hQ x M' (kM_m i e)
theorem k_M_may (i : IM M) (hQ : ∀ (x : Int32) M', kM M M' (M 30 14) (M 30 25) → Q (some (.int x)) M') : q_Run 123 [.ref 30] M Q := by
  obtain ⟨n, h, v⟩ := i.1
  exact w_M_may v fun x M' e => hQ x M' (kM_m i e)
theorem k_M_with {a : Int32} (i : IM M) (hQ : ∀ (x : Int32) M', kM M M' (M 30 14) (M 30 25) → Q (some (.int x)) M') : q_Run 155 [.ref 30, .int a] M Q := by
  obtain ⟨n, h, v⟩ := i.1
  exact w_M_with v fun x M' e => hQ x M' (kM_m i e)
theorem k_M_reach (i : IM M) (hQ : ∀ (x : Int32) M', kM M M' (M 30 14) (M 30 25) → Q (some (.int x)) M') : q_Run 137 [.ref 30] M Q := by
  obtain ⟨n, h, v⟩ := i.1
  exact w_M_reach v fun x M' e => hQ x M' (kM_m i e)
theorem k_M_soonest {a b : Int32} (i : IM M) (hQ : ∀ (x : Int32) M', kM M M' (M 30 14) (M 30 25) → Q (some (.int x)) M') : q_Run 146 [.ref 30, .int a, .int b] M Q := by
  obtain ⟨n, h, v⟩ := i.1
  exact w_M_soonest v fun x M' e => hQ x M' (kM_m i e)
theorem k_M_mean {a b : Int32} (i : IM M) (hQ : ∀ (x : Int64) M', kM M M' (M 30 14) (M 30 25) → Q (some (.long x)) M') : q_Run 125 [.ref 30, .int a, .int b] M Q := by
  obtain ⟨n, h, v⟩ := i.1
  exact w_M_mean v fun x M' e => hQ x M' (kM_m i e)
theorem k_M_surely {a : Int32} (i : IM M) (hQ : ∀ (x : Int64) M', kM M M' (M 30 14) (M 30 25) → Q (some (.long x)) M') : q_Run 150 [.ref 30, .int a] M Q := by
  obtain ⟨n, h, v⟩ := i.1
  exact w_M_surely v fun x M' e => hQ x M' (kM_m i e)
theorem k_M_ringed (i : IM M) (hQ : ∀ (x : Int32) M', kM M M' (M 30 14) (M 30 25) → Q (some (.int x)) M') : q_Run 142 [.ref 30] M Q := by
  obtain ⟨n, h, v⟩ := i.1
  exact w_M_ringed v fun x M' e => hQ x M' (kM_m i e)
theorem k_M_beg {a : Int32} (i : IM M) (hQ : ∀ (x : Int32) M', kM M M' (M 30 14) (M 30 25) → Q (some (.int x)) M') : q_Run 94 [.ref 30, .int a] M Q := by
  obtain ⟨n, h, v⟩ := i.1
  exact w_M_beg v fun x M' e => hQ x M' (kM_m i e)
theorem k_M_nails (i : IM M) (hQ : ∀ (x : Int32) M', kM M M' (M 30 14) (M 30 25) → Q (some (.int x)) M') : q_Run 127 [.ref 30] M Q := by
  obtain ⟨n, h, v⟩ := i.1
  exact w_M_nails v fun x M' e => hQ x M' (kM_m i e)
theorem k_M_spare (i : IM M) (hQ : ∀ (x : Int32) M', kM M M' (M 30 14) (M 30 25) → Q (some (.int x)) M') : q_Run 148 [.ref 30] M Q := by
  obtain ⟨n, h, v⟩ := i.1
  exact w_M_spare v fun x M' e => hQ x M' (kM_m i e)
theorem k_M_does {a : Int32} (i : IM M) (hQ : ∀ (x : Int32) M', kM M M' (M 30 14) (M 30 25) → Q (some (.int x)) M') : q_Run 103 [.ref 30, .int a] M Q := by
  obtain ⟨n, h, v⟩ := i.1
  exact w_M_does v fun x M' e => hQ x M' (kM_m i e)
theorem k_M_ways {a : Int32} (i : IM M) (hQ : ∀ (x : Int32) M', kM M M' (M 30 14) (M 30 25) → Q (some (.int x)) M') : q_Run 153 [.ref 30, .int a] M Q := by
  obtain ⟨n, h, v⟩ := i.1
  exact w_M_ways v fun x M' e => hQ x M' (kM_m i e)
theorem k_M_must {a : Int32} (i : IM M) (hQ : ∀ (x : Int32) M', kM M M' (M 30 14) (M 30 25) → Q (some (.int x)) M') : q_Run 126 [.ref 30, .int a] M Q := by
  obtain ⟨n, h, v⟩ := i.1
  exact w_M_must v fun x M' e => hQ x M' (kM_m i e)
theorem k_M_halfway {a b : Int32} (i : IM M) (hQ : ∀ (x : Int32) M', kM M M' (M 30 14) (M 30 25) → Q (some (.int x)) M') : q_Run 108 [.ref 30, .int a, .int b] M Q := by
  obtain ⟨n, h, v⟩ := i.1
  exact w_M_halfway v fun x M' e => hQ x M' (kM_m i e)
theorem k_M_drawer {a b c : Int32} (i : IM M) (hQ : ∀ (x : Int64) M', kM M M' (M 30 14) (M 30 25) → Q (some (.long x)) M') : q_Run 104 [.ref 30, .int a, .int b, .int c] M Q := by
  exact w_M_drawer fun x M' e => hQ x M' (kM_m i e)
theorem k_M_seeker {a b : Int32} (i : IM M) (hQ : ∀ (x : Int32) M', kM M M' (M 30 14) (M 30 25) → Q (some (.int x)) M') : q_Run 144 [.ref 30, .int a, .int b] M Q := by
  obtain ⟨n, h, v⟩ := i.1
  exact w_M_seeker v fun x M' e => hQ x M' (kM_m i e)
theorem k_M_seeks {a : Int32} (i : IM M) (hQ : ∀ (x : Int32) M', kM M M' (M 30 14) (M 30 25) → Q (some (.int x)) M') : q_Run 145 [.ref 30, .int a] M Q := by
  obtain ⟨n, h, v⟩ := i.1
  exact w_M_seeks v fun x M' e => hQ x M' (kM_m i e)
theorem k_M_lots {a b : Int32} (i : IM M) (hQ : ∀ (x : Int32) M', kM M M' (M 30 14) (M 30 25) → Q (some (.int x)) M') : q_Run 121 [.ref 30, .int a, .int b] M Q := by
  obtain ⟨n, h, v⟩ := i.1
  exact w_M_lots v fun x M' e => hQ x M' (kM_m i e)
theorem k_M_count {a : Int32} (i : IM M) (hQ : ∀ (x : Int32) M', kM M M' (M 30 14) (M 30 25) → Q (some (.int x)) M') : q_Run 101 [.ref 30, .int a] M Q := by
  obtain ⟨n, h, v⟩ := i.1
  exact w_M_count v fun x M' e => hQ x M' (kM_m i e)
theorem k_A_hand {a : Int32} (i : IA M) (hQ : ∀ (x : Int32) M', kC M M' (M 22 1) (M 0 7) → Q (some (.int x)) M') : q_Run 63 [.ref 0, .int a] M Q := w_A_hand i.1 fun x M' e v => hQ x M' (kC_n i e v)
theorem k_A_need {a b c : Int32} (i : IA M) (hQ : ∀ (x : Int32) M', kC M M' (M 22 1) (M 0 7) → Q (some (.int x)) M') : q_Run 75 [.ref 0, .int a, .int b, .int c] M Q := w_A_need i.1 fun x M' e v => hQ x M' (kC_n i e v)
theorem k_A_take {a : Int32} (i : IA M) (hQ : ∀ (x : Int32) M', kC M M' (M 22 1) (M 0 7) → Q (some (.int x)) M') : q_Run 88 [.ref 0, .int a] M Q := w_A_take i.1 fun x M' e v => hQ x M' (kC_n i e v)
theorem k_A_on (i : IA M) (hQ : ∀ (x : Int32) M', kC M M' (M 22 1) (M 0 7) → Q (some (.int x)) M') : q_Run 76 [.ref 0] M Q := w_A_on i.1 i.2.1 fun x M' e v => hQ x M' (kC_n i e v)
theorem k_A_image (i : IA M) (hQ : ∀ (x : Int32) M', kC M M' (M 22 1) (M 0 7) → Q (some (.int x)) M') : q_Run 65 [.ref 0] M Q := by
  refine w_A_image i.1 fun x => hQ x _ ?_
  have e0 : q_put (s_cpH M 8 1) 0 8 1 0 7 = M 0 7 := by rw [q_put_at, if_neg (by decide), cpH_ne (by omega)]
  have e22 : q_put (s_cpH M 8 1) 0 8 1 22 = M 22 := by rw [q_put_ne (by decide), cpH_ne (by omega)]
  refine ⟨⟨i.1.of ?_, (cpH_v c_H8 (by decide) i.1).of (q_put_ne (by decide)), by rw [e0]; exact i.2.2.1, by rw [e22]; exact i.2.2.2⟩, fun c hc => ?_, by rw [e22], e0⟩
  · rw [q_put_ne (by decide), cpH_ne (by omega)]
  · rw [q_put_ne (by omega), cpH_ne (by omega)]
theorem k_A_judge (i : IA M) (hQ : ∀ (x : Int32) M', kC M M' (M 22 1) 0 → Q (some (.int x)) M') : q_Run 68 [.ref 0] M Q := by
  refine w_A_judge i.1 i.2.2.1 fun x => hQ x _ ?_
  refine ⟨⟨i.1.of (q_put_ne (by decide)), i.2.1.of (q_put_ne (by decide)), ⟨0, by omega, by rw [q_put_at, if_pos rfl]; exact nI_0.symm⟩, by rw [q_put_ne (by decide)]; exact i.2.2.2⟩, fun c hc => q_put_ne (by omega), by rw [q_put_ne (by decide)], by rw [q_put_at, if_pos rfl]⟩
theorem k_A_house (i : IA M) (hQ : ∀ (x : Int32) M', kC M M' 0 (M 0 7) → Q (some (.int x)) M') : q_Run 64 [.ref 0] M Q := by
  refine w_A_house i.1 fun x M' e v z => hQ x _ ?_
  refine ⟨⟨v, i.2.1.of (e 8 (by decide)), by rw [e 0 (by decide)]; exact i.2.2.1, ⟨0, by omega, by rw [z]; exact nI_0.symm⟩⟩, fun c hc => e c ?_, z, by rw [e 0 (by decide)]⟩
  unfold Sh St
  simp
  omega
theorem k_M_hand {a : Int32} (i : IM M) (hQ : ∀ (x : Int32) M', kM M M' (M 30 14) (M 30 25) → Q (some (.int x)) M') : q_Run 109 [.ref 30, .int a] M Q := w_M_hand i.1 fun x M' e v => hQ x M' (kM_v i e v)
theorem k_M_need {a b c : Int32} (i : IM M) (hQ : ∀ (x : Int32) M', kM M M' (M 30 14) (M 30 25) → Q (some (.int x)) M') : q_Run 128 [.ref 30, .int a, .int b, .int c] M Q := w_M_need i.1 fun x M' e v => hQ x M' (kM_v i e v)
theorem k_M_take {a : Int32} (i : IM M) (hQ : ∀ (x : Int32) M', kM M M' (M 30 14) (M 30 25) → Q (some (.int x)) M') : q_Run 151 [.ref 30, .int a] M Q := w_M_take i.1 fun x M' e v => hQ x M' (kM_v i e v)
theorem k_M_judge (i : IM M) (hQ : ∀ (x : Int32) M', kM M M' (M 30 14) 0 → Q (some (.int x)) M') : q_Run 118 [.ref 30] M Q := by
  obtain ⟨⟨n, h, v⟩, k, ⟨r, hr, h25⟩, q⟩ := i
  refine w_M_judge v hr h25 fun x => hQ x _ ?_
  have e : ∀ f, f ≠ 25 → q_put M 30 25 0 30 f = M 30 f := fun f hf => by rw [q_put_at, if_neg hf]
  refine ⟨⟨⟨n, h, v.of (e 7 (by decide)) (e 8 (by decide)) (q_put_ne (by decide))⟩, by rw [e 14 (by decide)]; exact k, ⟨0, by omega, by rw [q_put_at, if_pos rfl]; exact nI_0.symm⟩, ?_⟩, fun c hc => q_put_ne (by omega), e 14 (by decide), by rw [q_put_at, if_pos rfl]⟩
  rw [e 18 (by decide)]
  rcases q with q | q
  · exact Or.inl q
  · exact Or.inr (q.of (fun i _ _ => by rw [q_put_ne (by decide)]))
theorem k_M_image (i : IM M) (hQ : ∀ (x : Int32) M', kM M M' (M 30 14) (M 30 25) → Q (some (.int x)) M') : q_Run 112 [.ref 30] M Q := by
  obtain ⟨v, k, r, q⟩ := i
  refine w_M_image fun x => hQ x _ ?_
  have v' : v_M (q_put M 30 18 1) := v.f (by decide) (by decide)
  have e14 : s_kA (q_put M 30 18 1) 0 30 14 = M 30 14 := by rw [kA_f (by decide) (by decide), q_put_at, if_neg (by decide)]
  have e25 : s_kA (q_put M 30 18 1) 0 30 25 = M 30 25 := by rw [kA_f (by decide) (by decide), q_put_at, if_neg (by decide)]
  refine ⟨⟨kA_vM v', by rw [e14]; exact k, by rw [e25]; exact r, Or.inr (kA_v v')⟩, fun c hc => ?_, e14, e25⟩
  rw [kA_cell (by omega) (by omega), q_put_ne (by omega)]
theorem k_M_on (i : IM M) (hQ : ∀ (x : Int32) M', kM M M' (M 30 14) (M 30 25) → Q (some (.int x)) M') : q_Run 132 [.ref 30] M Q := by
  refine w_M_on i.2.2.2 (fun x => hQ x _ (kM_m i eqm_no)) fun hk x => hQ x _ ?_
  have e14 : s_rA M 0 30 14 = M 30 14 := rA_f (by decide) (by decide) (by decide) (by decide) (by decide)
  have e25 : s_rA M 0 30 25 = M 30 25 := rA_f (by decide) (by decide) (by decide) (by decide) (by decide)
  refine ⟨⟨rA_v hk, by rw [e14]; exact i.2.1, by rw [e25]; exact i.2.2.1, Or.inr (hk.of (fun j _ _ => by rw [rA_cell (by decide) (by decide)]))⟩, fun c hc => rA_cell (by omega) (by omega), e14, e25⟩
theorem k_M_house (i : IM M) (hQ : ∀ (x : Int32) M', kM M M' 0 (M 30 25) → Q (some (.int x)) M') : q_Run 111 [.ref 30] M Q := by
  obtain ⟨v, ⟨k, hk, h14⟩, r, q⟩ := i
  refine w_M_house hk h14 v fun x M' e v' z => hQ x _ ?_
  refine ⟨⟨v', ⟨0, by omega, by rw [z]; exact nI_0.symm⟩, by rw [e.1.2 25 (by decide)]; exact r, ?_⟩, fun c hc => e.1.1 c (by omega) ?_, z, e.1.2 25 (by decide)⟩
  · rw [e.1.2 18 (by decide)]
    rcases q with q | q
    · exact Or.inl q
    · exact Or.inr (q.of (fun j _ hj => e.2 j (by omega)))
  · unfold Sr
    simp
    omega
end KT
