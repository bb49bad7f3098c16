/-! answers that both sides give by the same function -/
section PV
variable {Q : q_R} {M : q_M}
theorem kv_A_drawer {a b c : Int32} (i : IA M) (hQ : ∀ M', kC M M' (M 22 1) (M 0 7) → Q (some (.long (s_dwv a b c))) M') : q_Run 61 [.ref 0, .int a, .int b, .int c] M Q := z_A_drawer fun M' e => hQ M' (kC_q i e)
theorem kv_M_drawer {a b c : Int32} (i : IM M) (hQ : ∀ M', kM M M' (M 30 14) (M 30 25) → Q (some (.long (s_dwv a b c))) M') : q_Run 104 [.ref 30, .int a, .int b, .int c] M Q := z_M_drawer fun M' e => hQ M' (kM_m i e)
end PV
