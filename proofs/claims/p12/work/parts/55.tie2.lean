/-! the strong tie: both sides' houses, images, letters are the same, and the rows as long -/
def TI (M : q_M) : Prop := (M 0 8 = 0 ∧ M 30 18 = 0) ∨ (M 0 8 = 1 ∧ M 30 18 = 1 ∧ ∃ G n h, gH G n h ∧ RC 8 M G ∧ RK 0 M G)
def TL (M : q_M) : Prop := ∃ k, k ≤ 96 ∧ M 22 1 = nI k ∧ M 30 14 = nI k ∧ ∀ j, j < k → M 23 j = M 38 j
def TR (M : q_M) : Prop := ∃ r, r ≤ 12 ∧ M 0 7 = nI r ∧ M 30 25 = nI r
def TO (M : q_M) : Prop := TI M ∧ TL M ∧ TR M
def T1 (M H : q_M) : Prop := RC 1 M H ∧ RM M H ∧ TO M
def TT (M : q_M) : Prop := ∃ H n h, gH H n h ∧ T1 M H
section TTs
variable {Q : q_R} {M M1 M2 H : q_M} {n h : Nat} {c : Int32}
theorem TI.of {M' : q_M} (t : TI M) (e0 : M' 0 8 = M 0 8) (e30 : M' 30 18 = M 30 18) (e8 : ∀ c, 8 ≤ c → c ≤ 14 → M' c = M c) (e42 : ∀ i, i < 65 → M' 42 i = M 42 i) : TI M' := by
  unfold TI
  rw [e0, e30]
  rcases t with t | ⟨a, b, G, m, k, g, r, q⟩
  · exact Or.inl t
  · exact Or.inr ⟨a, b, G, m, k, g, r.of (fun c h1 h2 => e8 c (by omega) (by omega)), q.of (fun i _ hi => e42 i (by omega))⟩
theorem TL.of {M' : q_M} (t : TL M) (e22 : M' 22 1 = M 22 1) (e30 : M' 30 14 = M 30 14) (e23 : M' 23 = M 23) (e38 : M' 38 = M 38) : TL M' := by
  unfold TL
  rw [e22, e30, e23, e38]
  exact t
theorem TR.of {M' : q_M} (t : TR M) (e0 : M' 0 7 = M 0 7) (e30 : M' 30 25 = M 30 25) : TR M' := by
  unfold TR
  rw [e0, e30]
  exact t
theorem TO.x {M' : q_M} (t : TO M) (e0 : M' 0 = M 0) (e8 : ∀ c, 8 ≤ c → c ≤ 14 → M' c = M c) (e22 : M' 22 = M 22) (e23 : M' 23 = M 23) (e14 : M' 30 14 = M 30 14) (e18 : M' 30 18 = M 30 18) (e25 : M' 30 25 = M 30 25) (e38 : M' 38 = M 38) (e42 : M' 42 = M 42) : TO M' :=
  ⟨t.1.of (by rw [e0]) e18 e8 (fun i _ => by rw [e42]), t.2.1.of (by rw [e22]) e14 e23 e38, t.2.2.of (by rw [e0]) e25⟩
theorem Sq8 : ∀ c, c ≤ 23 → Sq c = false := by
  intro c hc
  unfold Sq So
  simp
  omega
theorem Sn8 : ∀ c, 8 ≤ c → c ≤ 28 → Sn c = false := by
  intro c h1 h2
  unfold Sn
  simp
  omega
theorem T1.q (t : T1 M H) (e : eqx Sq M M1) : T1 M1 H :=
  ⟨t.1.of fun c _ hc => e c (Sq8 c (by omega)), t.2.1.of (fun c h1 _ => e c (Sq30 c (by omega))) (by rw [e 30 (by decide)]) (by rw [e 30 (by decide)]) (by rw [e 30 (by decide)]),
    t.2.2.x (e 0 (by decide)) (fun c _ hc => e c (Sq8 c (by omega))) (e 22 (by decide)) (e 23 (by decide)) (by rw [e 30 (by decide)]) (by rw [e 30 (by decide)]) (by rw [e 30 (by decide)]) (e 38 (by decide)) (e 42 (by decide))⟩
theorem Sm32 : ∀ c, 32 ≤ c → c ≤ 37 → Sm c = false := by
  intro c h1 h2
  unfold Sm
  simp
  omega
theorem T1.m (t : T1 M H) (e : eqx Sm M M1) : T1 M1 H :=
  ⟨t.1.of fun c _ hc => e c (Sm_lt c (by omega)), t.2.1.of (fun c h1 h2 => e c (Sm32 c h1 h2)) (by rw [e 30 (by decide)]) (by rw [e 30 (by decide)]) (by rw [e 30 (by decide)]),
    t.2.2.x (e 0 (by decide)) (fun c _ hc => e c (Sm_lt c (by omega))) (e 22 (by decide)) (e 23 (by decide)) (by rw [e 30 (by decide)]) (by rw [e 30 (by decide)]) (by rw [e 30 (by decide)]) (e 38 (by decide)) (e 42 (by decide))⟩
/-- behind a call of the class that changes its house alone -/
theorem RM.nn (r : RM M H) (e : eqx Sn M M1) : RM M1 H := r.of (fun c h1 _ => e c (Sn30 c (by omega))) (by rw [e 30 (by decide)]) (by rw [e 30 (by decide)]) (by rw [e 30 (by decide)])
theorem RC.v (r : RC 1 M H) (e : eqf Sv Gv M M1) : RC 1 M1 H := r.of fun c _ hc => e.1 c (by omega) (Sv_lt c (by omega))
theorem TO.nn (t : TO M) (e : eqx Sn M M1) : TO M1 :=
  t.x (e 0 (by decide)) (fun c h1 hc => e c (Sn8 c h1 (by omega))) (e 22 (by decide)) (e 23 (by decide)) (by rw [e 30 (by decide)]) (by rw [e 30 (by decide)]) (by rw [e 30 (by decide)]) (e 38 (by decide)) (e 42 (by decide))
theorem TO.v (t : TO M) (e : eqf Sv Gv M M1) : TO M1 :=
  t.x (e.1 0 (by decide) (by decide)) (fun c h1 hc => e.1 c (by omega) (Sv_lt c (by omega))) (e.1 22 (by decide) (by decide)) (e.1 23 (by decide) (by decide)) (e.2 14 (by decide)) (e.2 18 (by decide)) (e.2 25 (by decide)) (e.1 38 (by decide) (by decide)) (e.1 42 (by decide) (by decide))
theorem T1.nv {H1 : q_M} (t : T1 M H) (e : eqx Sn M M1) (r1 : RC 1 M1 H1) (e2 : eqf Sv Gv M1 M2) (r2 : RM M2 H1) : T1 M2 H1 := ⟨r1.v e2, r2, (t.2.2.nn e).v e2⟩
/-! image and on -/
theorem x_A_image (r : RC 1 M H) : q_Run 65 [.ref 0] M Q = Q (some (.int (H 0 8))) (q_put (s_cpH M 8 1) 0 8 1) := by
  have e1 : s_cpH M 8 1 1 8 = H 0 8 := by
    rw [cpH_ne (by omega)]
    exact r.2.2.2
  have e2 : q_put (s_cpH M 8 1) 0 8 1 1 = s_cpH M 8 1 1 := q_put_ne (by decide)
  rw [e_A_image]
  simp only [gA_image_0, gA_image_1, gA_image_4, gA_image_5, gA_image_8, gA_image_11, gA_image_12, gA_image_13, gA_image_16, gA_image_17, gA_image_20, gA_image_23, ↓reduceIte, Bool.false_eq_true, Bool.true_eq_false, qk_i, qk_r, qk_n, Option.toList_some, Option.toList_none, List.cons_append, List.nil_append, true_and, and_true, true_or, or_true, eq_self, if_true, if_false, q_b1, q_b2, c_A, c_R, c_O, c_M, c_H1, c_H8, c_H15, rf_A0, rf_A1, x_H_copyFrom c_H8 c_H1 (by decide), e2, e1]
theorem x_M_image (r : RM M H) : q_Run 112 [.ref 30] M Q = Q (some (.int (H 0 8))) (s_kA (q_put M 30 18 1) 0) := by
  have e1 : s_kA (q_put M 30 18 1) 0 30 9 = H 0 8 := by
    rw [kA_f (by decide) (by decide), q_put_at, if_neg (by decide)]
    exact r.2.2.2
  rw [e_M_image]
  simp only [gM_image_0, gM_image_1, gM_image_2, gM_image_5, gM_image_6, gM_image_7, gM_image_8, gM_image_11, gM_image_12, gM_image_15, ↓reduceIte, Bool.false_eq_true, Bool.true_eq_false, qk_i, qk_r, qk_n, Option.toList_some, Option.toList_none, List.cons_append, List.nil_append, true_and, and_true, true_or, or_true, eq_self, if_true, if_false, q_b1, q_b2, c_A, c_R, c_O, c_M, c_H1, c_H8, c_H15]
  rw [x_M_passesAll_k w65_0 (by omega)]
  simp only [gM_image_0, gM_image_1, gM_image_2, gM_image_5, gM_image_6, gM_image_7, gM_image_8, gM_image_11, gM_image_12, gM_image_15, ↓reduceIte, Bool.false_eq_true, Bool.true_eq_false, qk_i, qk_r, qk_n, Option.toList_some, Option.toList_none, List.cons_append, List.nil_append, true_and, and_true, true_or, or_true, eq_self, if_true, if_false, q_b1, q_b2, c_A, c_R, c_O, c_M, c_H1, c_H8, c_H15, e1]
theorem T_image (g : gH H n h) (t : T1 M H) : T1 (s_kA (q_put (q_put (s_cpH M 8 1) 0 8 1) 30 18 1) 0) H ∧ RM (q_put (s_cpH M 8 1) 0 8 1) H := by
  obtain ⟨r1, r2, -, tl, tr⟩ := t
  have ec : ∀ c, c < 8 ∨ 14 < c → c ≠ 0 → q_put (s_cpH M 8 1) 0 8 1 c = M c := fun c h1 h0 => by rw [q_put_ne h0, cpH_ne (by omega)]
  have e07 : q_put (s_cpH M 8 1) 0 8 1 0 7 = M 0 7 := by rw [q_put_at, if_neg (by decide), cpH_ne (by omega)]
  have e08 : q_put (s_cpH M 8 1) 0 8 1 0 8 = 1 := by rw [q_put_at, if_pos rfl]
  have hr8 : RC 8 (q_put (s_cpH M 8 1) 0 8 1) H := (cpH_RC (by omega) r1).of fun c _ _ => q_put_ne (by omega)
  have hr1 : RC 1 (q_put (s_cpH M 8 1) 0 8 1) H := r1.of fun c _ _ => ec c (by omega) (by omega)
  have hrm : RM (q_put (s_cpH M 8 1) 0 8 1) H := r2.of (fun c _ _ => ec c (by omega) (by omega)) (by rw [ec 30 (by omega) (by omega)]) (by rw [ec 30 (by omega) (by omega)]) (by rw [ec 30 (by omega) (by omega)])
  have htl : TL (q_put (s_cpH M 8 1) 0 8 1) := tl.of (by rw [ec 22 (by omega) (by omega)]) (by rw [ec 30 (by omega) (by omega)]) (ec 23 (by omega) (by omega)) (ec 38 (by omega) (by omega))
  have htr : TR (q_put (s_cpH M 8 1) 0 8 1) := tr.of e07 (by rw [ec 30 (by omega) (by omega)])
  generalize q_put (s_cpH M 8 1) 0 8 1 = N at *
  have f30 : ∀ f, f ≠ 18 → q_put N 30 18 1 30 f = N 30 f := fun f hf => by rw [q_put_at, if_neg hf]
  have hrm' : RM (q_put N 30 18 1) H := hrm.of (fun c _ _ => q_put_ne (by omega)) (f30 7 (by decide)) (f30 8 (by decide)) (f30 9 (by decide))
  have kc : ∀ c, c ≠ 30 → c ≠ 42 → s_kA (q_put N 30 18 1) 0 c = N c := fun c h1 h2 => by rw [kA_cell h1 h2, q_put_ne h1]
  have kf : ∀ f, f ≠ 18 → f ≠ 19 → f ≠ 20 → s_kA (q_put N 30 18 1) 0 30 f = N 30 f := fun f h1 h2 h3 => by rw [kA_f h2 h3, f30 f h1]
  refine ⟨⟨hr1.of fun c _ _ => kc c (by omega) (by omega), hrm.of (fun c _ _ => kc c (by omega) (by omega)) (kf 7 (by decide) (by decide) (by decide)) (kf 8 (by decide) (by decide) (by decide)) (kf 9 (by decide) (by decide) (by decide)), Or.inr ⟨?_, ?_, H, n, h, g, ?_, ?_⟩, ?_, ?_⟩, hrm⟩
  · rw [kc 0 (by decide) (by decide)]
    exact e08
  · rw [kA_f (by decide) (by decide), q_put_at, if_pos rfl]
  · exact hr8.of fun c _ _ => kc c (by omega) (by omega)
  · exact kA_RK hrm'
  · exact htl.of (by rw [kc 22 (by decide) (by decide)]) (kf 14 (by decide) (by decide) (by decide)) (kc 23 (by decide) (by decide)) (kc 38 (by decide) (by decide))
  · exact htr.of (by rw [kc 0 (by decide) (by decide)]) (kf 25 (by decide) (by decide) (by decide))
theorem x_A_on_no (e : M 0 8 = 0) : q_Run 76 [.ref 0] M Q = Q (some (.int (-3))) (s_ref M (-3)) := by
  rw [e_A_on]
  simp only [gA_on_0, gA_on_1, gA_on_4, gA_on_7, gA_on_8, gA_on_10, gA_on_13, gA_on_14, gA_on_15, gA_on_18, gA_on_19, gA_on_22, gA_on_25, gA_on_26, gA_on_29, gA_on_32, ↓reduceIte, Bool.false_eq_true, Bool.true_eq_false, qk_i, qk_r, qk_n, Option.toList_some, Option.toList_none, List.cons_append, List.nil_append, true_and, and_true, true_or, or_true, eq_self, if_true, if_false, q_b1, q_b2, c_A, c_R, c_O, c_M, c_H1, c_H8, c_H15, rf_A0, rf_A1, x_A_refuse, e, not_true]
theorem x_A_on_yes (e : M 0 8 = 1) : q_Run 76 [.ref 0] M Q = Q (some (.int (s_cpH M 1 8 1 8))) (s_cpH M 1 8) := by
  have n1z : ((1 : Int32) = 0) = False := by decide
  rw [e_A_on]
  simp only [gA_on_0, gA_on_1, gA_on_4, gA_on_7, gA_on_8, gA_on_10, gA_on_13, gA_on_14, gA_on_15, gA_on_18, gA_on_19, gA_on_22, gA_on_25, gA_on_26, gA_on_29, gA_on_32, ↓reduceIte, Bool.false_eq_true, Bool.true_eq_false, qk_i, qk_r, qk_n, Option.toList_some, Option.toList_none, List.cons_append, List.nil_append, true_and, and_true, true_or, or_true, eq_self, if_true, if_false, q_b1, q_b2, c_A, c_R, c_O, c_M, c_H1, c_H8, c_H15, rf_A0, rf_A1, x_H_copyFrom c_H1 c_H8 (by decide), e, n1z, not_false_eq_true]
theorem x_M_on_no (e : M 30 18 = 0) : q_Run 132 [.ref 30] M Q = Q (some (.int (-3))) (s_no M (-3)) := by
  rw [e_M_on]
  simp only [gM_on_0, gM_on_1, gM_on_4, gM_on_7, gM_on_8, gM_on_10, gM_on_13, gM_on_14, gM_on_15, gM_on_16, gM_on_17, gM_on_20, gM_on_21, gM_on_24, ↓reduceIte, Bool.false_eq_true, Bool.true_eq_false, qk_i, qk_r, qk_n, Option.toList_some, Option.toList_none, List.cons_append, List.nil_append, true_and, and_true, true_or, or_true, eq_self, if_true, if_false, q_b1, q_b2, c_A, c_R, c_O, c_M, c_H1, c_H8, c_H15, x_M_no no_3, e, not_true]
theorem x_M_on_yes (e : M 30 18 = 1) : q_Run 132 [.ref 30] M Q = Q (some (.int (s_rA M 0 30 9))) (s_rA M 0) := by
  have n1z : ((1 : Int32) = 0) = False := by decide
  rw [e_M_on]
  simp only [gM_on_0, gM_on_1, gM_on_4, gM_on_7, gM_on_8, gM_on_10, gM_on_13, gM_on_14, gM_on_15, gM_on_16, gM_on_17, gM_on_20, gM_on_21, gM_on_24, ↓reduceIte, Bool.false_eq_true, Bool.true_eq_false, qk_i, qk_r, qk_n, Option.toList_some, Option.toList_none, List.cons_append, List.nil_append, true_and, and_true, true_or, or_true, eq_self, if_true, if_false, q_b1, q_b2, c_A, c_R, c_O, c_M, c_H1, c_H8, c_H15, e, n1z, not_false_eq_true]
  rw [x_M_passesAll_r w65_0 (by omega)]
  simp only [gM_on_0, gM_on_1, gM_on_4, gM_on_7, gM_on_8, gM_on_10, gM_on_13, gM_on_14, gM_on_15, gM_on_16, gM_on_17, gM_on_20, gM_on_21, gM_on_24, ↓reduceIte, Bool.false_eq_true, Bool.true_eq_false, qk_i, qk_r, qk_n, Option.toList_some, Option.toList_none, List.cons_append, List.nil_append, true_and, and_true, true_or, or_true, eq_self, if_true, if_false, q_b1, q_b2, c_A, c_R, c_O, c_M, c_H1, c_H8, c_H15]
/-- on from the image: the same on both sides -/
theorem T_on {G : q_M} {m k : Nat} (t : T1 M H) (e0 : M 0 8 = 1) (e18 : M 30 18 = 1) (g : gH G m k) (r8 : RC 8 M G) (rk : RK 0 M G) : T1 (s_rA (s_cpH M 1 8) 0) G ∧ s_cpH M 1 8 30 18 = 1 ∧ s_cpH M 1 8 1 8 = s_rA (s_cpH M 1 8) 0 30 9 := by
  obtain ⟨-, -, -, tl, tr⟩ := t
  have ec : ∀ c, c < 1 ∨ 7 < c → s_cpH M 1 8 c = M c := fun c h1 => cpH_ne (by omega)
  have hr1 : RC 1 (s_cpH M 1 8) G := cpH_RC (by omega) r8
  have hr8 : RC 8 (s_cpH M 1 8) G := r8.of fun c _ _ => ec c (by omega)
  have hrk : RK 0 (s_cpH M 1 8) G := rk.of fun i _ _ => by rw [ec 42 (by omega)]
  have htl : TL (s_cpH M 1 8) := tl.of (by rw [ec 22 (by omega)]) (by rw [ec 30 (by omega)]) (ec 23 (by omega)) (ec 38 (by omega))
  have htr : TR (s_cpH M 1 8) := tr.of (by rw [ec 0 (by omega)]) (by rw [ec 30 (by omega)])
  have f0 : s_cpH M 1 8 0 8 = 1 := by rw [ec 0 (by omega)]; exact e0
  have f18 : s_cpH M 1 8 30 18 = 1 := by rw [ec 30 (by omega)]; exact e18
  generalize s_cpH M 1 8 = N at *
  have hrm : RM (s_rA N 0) G := rA_RM hrk
  have rc : ∀ c, c ≠ 30 → (c < 32 ∨ 37 < c) → s_rA N 0 c = N c := fun c h1 h2 => rA_cell h1 h2
  have rf : ∀ f, f ≠ 19 → f ≠ 20 → f ≠ 7 → f ≠ 8 → f ≠ 9 → s_rA N 0 30 f = N 30 f := fun f a b c d e => rA_f a b c d e
  refine ⟨⟨hr1.of fun c _ _ => rc c (by omega) (by omega), hrm, Or.inr ⟨?_, ?_, G, m, k, g, ?_, ?_⟩, ?_, ?_⟩, f18, ?_⟩
  · rw [rc 0 (by decide) (by decide)]
    exact f0
  · rw [rf 18 (by decide) (by decide) (by decide) (by decide) (by decide)]
    exact f18
  · exact hr8.of fun c _ _ => rc c (by omega) (by omega)
  · exact hrk.of fun i _ _ => by rw [rc 42 (by decide) (by decide)]
  · exact htl.of (by rw [rc 22 (by decide) (by decide)]) (rf 14 (by decide) (by decide) (by decide) (by decide) (by decide)) (rc 23 (by decide) (by decide)) (rc 38 (by decide) (by decide))
  · exact htr.of (by rw [rc 0 (by decide) (by decide)]) (rf 25 (by decide) (by decide) (by decide) (by decide) (by decide))
  · rw [hr1.2.2.2, hrm.2.2.2]
/-! letter, row, judge -/
theorem T_ref {w : Int32} (t : T1 M H) : T1 (s_no (s_ref M w) w) H := (t.q eqx_ref).m eqm_no
theorem T_letter (t : T1 M H) : (s_letter M c).1 = (s_mletter (s_letter M c).2 c).1 ∧ (∃ k, k ≤ 96 ∧ (s_letter M c).2 30 14 = nI k) ∧ T1 (s_mletter (s_letter M c).2 c).2 H := by
  obtain ⟨k, hk, e1, e2, e3⟩ := t.2.2.2.1
  have er : ∀ w, s_ref M w 30 14 = nI k := fun w => by rw [← e2]; exact congrFun (s_put_ne (by decide)) 14
  unfold s_letter
  by_cases h1 : 0 ≤ c
  · by_cases h2 : 255 < c
    · have h3 : ¬ c ≤ 255 := fun q => le_255.mp q h2
      rw [if_pos h1, if_pos h2]
      unfold s_mletter
      rw [if_pos h1, if_neg h3]
      exact ⟨rfl, ⟨k, hk, er (-6)⟩, T_ref (w := -6) t⟩
    · have h3 : c ≤ 255 := le_255.mpr h2
      rw [if_pos h1, if_neg h2, e1]
      by_cases h4 : k < 96
      · have h5 : nI k < 96 := nI_lt (b := 96) h4 (by omega)
        have h6 : ¬ nI k = 96 := fun q => absurd ((nI_eq (a := k) (b := 96) (by omega) (by omega)).mp q) (by omega)
        have eh : s_hear M c = q_put (q_put M 23 k c) 22 1 (nI (k + 1)) := by
          unfold s_hear
          rw [e1, s_put_nI h4 (by omega), nI_1]
        rw [if_pos h5]
        show nI k + 1 = (s_mletter (s_hear M c) c).1 ∧ (∃ k, k ≤ 96 ∧ s_hear M c 30 14 = nI k) ∧ T1 (s_mletter (s_hear M c) c).2 H
        rw [eh]
        have e14 : q_put (q_put M 23 k c) 22 1 (nI (k + 1)) 30 14 = nI k := by rw [q_put_ne (by decide), q_put_ne (by decide)]; exact e2
        unfold s_mletter
        rw [if_pos h1, if_pos h3, e14, if_neg h6, nI_clamp (by omega), nI_1]
        refine ⟨rfl, ⟨k, hk, rfl⟩, ?_⟩
        show T1 (q_put (q_put (q_put (q_put M 23 k c) 22 1 (nI (k + 1))) 38 k c) 30 14 (nI (k + 1))) H
        have ec : ∀ x, x ≠ 22 → x ≠ 23 → x ≠ 30 → x ≠ 38 → q_put (q_put (q_put (q_put M 23 k c) 22 1 (nI (k + 1))) 38 k c) 30 14 (nI (k + 1)) x = M x := fun x a b d e => by rw [q_put_ne d, q_put_ne e, q_put_ne a, q_put_ne b]
        have ef : ∀ f, f ≠ 14 → q_put (q_put (q_put (q_put M 23 k c) 22 1 (nI (k + 1))) 38 k c) 30 14 (nI (k + 1)) 30 f = M 30 f := fun f a => by rw [q_put_at, if_neg a, q_put_ne (by decide), q_put_ne (by decide), q_put_ne (by decide)]
        refine ⟨t.1.of fun x _ _ => ec x (by omega) (by omega) (by omega) (by omega), t.2.1.of (fun x _ _ => ec x (by omega) (by omega) (by omega) (by omega)) (ef 7 (by decide)) (ef 8 (by decide)) (ef 9 (by decide)), t.2.2.1.of (by rw [ec 0 (by decide) (by decide) (by decide) (by decide)]) (ef 18 (by decide)) (fun x _ _ => ec x (by omega) (by omega) (by omega) (by omega)) (fun i _ => by rw [ec 42 (by decide) (by decide) (by decide) (by decide)]), ⟨k + 1, by omega, ?_, ?_, fun j hj => ?_⟩, t.2.2.2.2.of (by rw [ec 0 (by decide) (by decide) (by decide) (by decide)]) (ef 25 (by decide))⟩
        · rw [q_put_ne (by decide), q_put_ne (by decide), q_put_at, if_pos rfl]
        · rw [q_put_at, if_pos rfl]
        · rw [q_put_ne (by decide), q_put_ne (by decide), q_put_ne (by decide), q_put_at, q_put_ne (show (38 : Nat) ≠ 30 by decide), q_put_at, q_put_ne (by decide), q_put_ne (by decide)]
          by_cases ej : j = k
          · rw [if_pos ej, if_pos ej]
          · rw [if_neg ej, if_neg ej]
            exact e3 j (by omega)
      · have h5 : ¬ nI k < 96 := nI_nlt (a := k) (b := 96) (by omega) (by omega)
        have h7 : s_ref M (-6) 30 14 = 96 := by
          rw [er, show k = 96 by omega]
          rfl
        rw [if_neg h5]
        show (-6 : Int32) = (s_mletter (s_ref M (-6)) c).1 ∧ (∃ k, k ≤ 96 ∧ s_ref M (-6) 30 14 = nI k) ∧ T1 (s_mletter (s_ref M (-6)) c).2 H
        have ex : ∃ k, k ≤ 96 ∧ s_ref M (-6) 30 14 = nI k := ⟨k, hk, er _⟩
        unfold s_mletter
        rw [if_pos h1, if_pos h3, if_pos h7]
        exact ⟨rfl, ex, T_ref (w := -6) t⟩
  · rw [if_neg h1]
    unfold s_mletter
    rw [if_neg h1]
    exact ⟨rfl, ⟨k, hk, er (-4)⟩, T_ref (w := -4) t⟩
theorem T_row (t : T1 M H) : (s_row M c).1 = (s_mrow (s_row M c).2 c).1 ∧ (∃ k, k ≤ 12 ∧ (s_row M c).2 30 25 = nI k) ∧ T1 (s_mrow (s_row M c).2 c).2 H := by
  obtain ⟨k, hk, e1, e2⟩ := t.2.2.2.2
  have er : ∀ w, s_ref M w 30 25 = nI k := fun w => by rw [← e2]; exact congrFun (s_put_ne (by decide)) 25
  unfold s_row
  by_cases h1 : 0 ≤ c
  · by_cases h2 : 10 ≤ c
    · have h3 : ¬ c ≤ 9 := fun q => le_9.mp q h2
      rw [if_pos h1, if_pos h2]
      unfold s_mrow
      rw [if_pos h1, if_neg h3]
      exact ⟨rfl, ⟨k, hk, er (-6)⟩, T_ref (w := -6) t⟩
    · have h3 : c ≤ 9 := le_9.mpr h2
      rw [if_pos h1, if_neg h2, e1]
      by_cases h4 : k < 12
      · have h5 : nI k < 12 := nI_lt (b := 12) h4 (by omega)
        have h6 : ¬ nI k = 12 := fun q => absurd ((nI_eq (a := k) (b := 12) (by omega) (by omega)).mp q) (by omega)
        rw [if_pos h5, s_put_nI h4 (by omega), nI_1]
        show nI (k + 1) = (s_mrow (q_put (q_put M 28 k c) 0 7 (nI (k + 1))) c).1 ∧ (∃ k', k' ≤ 12 ∧ q_put (q_put M 28 k c) 0 7 (nI (k + 1)) 30 25 = nI k') ∧ T1 (s_mrow (q_put (q_put M 28 k c) 0 7 (nI (k + 1))) c).2 H
        have e14 : q_put (q_put M 28 k c) 0 7 (nI (k + 1)) 30 25 = nI k := by rw [q_put_ne (by decide), q_put_ne (by decide)]; exact e2
        unfold s_mrow
        rw [if_pos h1, if_pos h3, e14, if_neg h6, nI_clamp (by omega), nI_1]
        refine ⟨rfl, ⟨k, hk, rfl⟩, ?_⟩
        show T1 (q_put (q_put (q_put (q_put M 28 k c) 0 7 (nI (k + 1))) 46 k c) 30 25 (nI (k + 1))) H
        have ec : ∀ x, x ≠ 0 → x ≠ 28 → x ≠ 30 → x ≠ 46 → q_put (q_put (q_put (q_put M 28 k c) 0 7 (nI (k + 1))) 46 k c) 30 25 (nI (k + 1)) x = M x := fun x a b d e => by rw [q_put_ne d, q_put_ne e, q_put_ne a, q_put_ne b]
        have ef : ∀ f, f ≠ 25 → q_put (q_put (q_put (q_put M 28 k c) 0 7 (nI (k + 1))) 46 k c) 30 25 (nI (k + 1)) 30 f = M 30 f := fun f a => by rw [q_put_at, if_neg a, q_put_ne (by decide), q_put_ne (by decide), q_put_ne (by decide)]
        refine ⟨t.1.of fun x _ _ => ec x (by omega) (by omega) (by omega) (by omega), t.2.1.of (fun x _ _ => ec x (by omega) (by omega) (by omega) (by omega)) (ef 7 (by decide)) (ef 8 (by decide)) (ef 9 (by decide)), t.2.2.1.of ?_ (ef 18 (by decide)) (fun x _ _ => ec x (by omega) (by omega) (by omega) (by omega)) (fun i _ => by rw [ec 42 (by decide) (by decide) (by decide) (by decide)]), t.2.2.2.1.of (by rw [ec 22 (by decide) (by decide) (by decide) (by decide)]) (ef 14 (by decide)) (ec 23 (by decide) (by decide) (by decide) (by decide)) (ec 38 (by decide) (by decide) (by decide) (by decide)), ⟨k + 1, by omega, ?_, ?_⟩⟩
        · rw [q_put_ne (by decide), q_put_ne (by decide), q_put_at, if_neg (by decide), q_put_ne (by decide)]
        · rw [q_put_ne (by decide), q_put_ne (by decide), q_put_at, if_pos rfl]
        · rw [q_put_at, if_pos rfl]
      · have h5 : ¬ nI k < 12 := nI_nlt (a := k) (b := 12) (by omega) (by omega)
        have h7 : s_ref M (-6) 30 25 = 12 := by
          rw [er, show k = 12 by omega]
          rfl
        rw [if_neg h5]
        show (-6 : Int32) = (s_mrow (s_ref M (-6)) c).1 ∧ (∃ k, k ≤ 12 ∧ s_ref M (-6) 30 25 = nI k) ∧ T1 (s_mrow (s_ref M (-6)) c).2 H
        have ex : ∃ k, k ≤ 12 ∧ s_ref M (-6) 30 25 = nI k := ⟨k, hk, er _⟩
        unfold s_mrow
        rw [if_pos h1, if_pos h3, if_pos h7]
        exact ⟨rfl, ex, T_ref (w := -6) t⟩
  · rw [if_neg h1]
    unfold s_mrow
    rw [if_neg h1]
    exact ⟨rfl, ⟨k, hk, er (-4)⟩, T_ref (w := -4) t⟩
theorem T_judge (t : T1 M H) : T1 (q_put (q_put M 0 7 0) 30 25 0) H ∧ RM (q_put M 0 7 0) H := by
  have ec : ∀ x, x ≠ 0 → x ≠ 30 → q_put (q_put M 0 7 0) 30 25 0 x = M x := fun x a b => by rw [q_put_ne b, q_put_ne a]
  have ef : ∀ f, f ≠ 25 → q_put (q_put M 0 7 0) 30 25 0 30 f = M 30 f := fun f a => by rw [q_put_at, if_neg a, q_put_ne (by decide)]
  refine ⟨⟨t.1.of fun x _ _ => ec x (by omega) (by omega), t.2.1.of (fun x _ _ => ec x (by omega) (by omega)) (ef 7 (by decide)) (ef 8 (by decide)) (ef 9 (by decide)), t.2.2.1.of ?_ (ef 18 (by decide)) (fun x _ _ => ec x (by omega) (by omega)) (fun i _ => by rw [ec 42 (by decide) (by decide)]), t.2.2.2.1.of (by rw [ec 22 (by decide) (by decide)]) (ef 14 (by decide)) (ec 23 (by decide) (by decide)) (ec 38 (by decide) (by decide)), ⟨0, by omega, ?_, ?_⟩⟩, t.2.1.of (fun x _ _ => q_put_ne (by omega)) (by rw [q_put_ne (by decide)]) (by rw [q_put_ne (by decide)]) (by rw [q_put_ne (by decide)])⟩
  · rw [q_put_ne (by decide), q_put_at, if_neg (by decide)]
  · rw [q_put_ne (by decide), q_put_at, if_pos rfl]
    exact nI_0.symm
  · rw [q_put_at, if_pos rfl]
    exact nI_0.symm
end TTs
