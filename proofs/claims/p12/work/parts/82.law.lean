/-! the law, case by case -/
theorem q_in_L {j n : Nat} (hj : j < n) (hn : n ≤ 2048) : q_in (nI j) n = true := by
  simp only [q_in, decide_eq_true_eq]
  exact nI_in hj (by omega)
theorem nI_2 (i : Nat) : nI i + 2 = nI (i + 2) := nI_add i 2
theorem nI_3 (i : Nat) : nI i + 3 = nI (i + 3) := nI_add i 3
theorem nI_4 (i : Nat) : nI i + 4 = nI (i + 4) := nI_add i 4
section LAW
variable {Q : q_R} {M : q_M} {L i : Nat} {xs : Nat → Int32}
theorem law_c0 (hL : L ≤ 2048) (hi : i + 4 ≤ L) (v : TT M) (ih : ∀ M', TT M' → q_g 157 (some (L, xs)) Q 842 [some (.ref 1000), some (.ref 0), some (.ref 30), some (.int (nI i))] [] M') : q_g 157 (some (L, xs)) Q 164 [some (.ref 1000), some (.ref 0), some (.ref 30), some (.int (nI i))] [] M := by
  have j1 : q_in (nI (i + 1)) L = true := q_in_L (by omega) hL
  have j2 : q_in (nI (i + 2)) L = true := q_in_L (by omega) hL
  have j3 : q_in (nI (i + 3)) L = true := q_in_L (by omega) hL
  obtain ⟨H, n, h, g, t⟩ := id v
  obtain ⟨ea, ⟨kk, hkk, hk⟩, tt⟩ := T_letter (c := xs (nI (i + 1)).toNatClampNeg) t
  simp only [gL_law_164, gL_law_165, gL_law_166, gL_law_167, gL_law_168, gL_law_169, gL_law_170, gL_law_173, gL_law_174, gL_law_175, gL_law_176, gL_law_177, gL_law_178, gL_law_179, gL_law_180, gL_law_183, gL_law_184, ↓reduceIte, Bool.false_eq_true, Bool.true_eq_false, qk_i, qk_r, qk_n, Option.toList_some, Option.toList_none, List.cons_append, List.nil_append, true_and, and_true, true_or, or_true, eq_self, if_true, if_false, q_b1, q_b2, c_A, c_R, c_O, c_M, c_H1, c_H8, c_H15, nI_1, nI_2, nI_3, j1, j2, j3, x_A_letter, x_M_letter hkk hk, ea]
  exact ih _ ⟨H, n, h, g, tt⟩
theorem law_c1 (hL : L ≤ 2048) (hi : i + 4 ≤ L) (v : TT M) (ih : ∀ M', TT M' → q_g 157 (some (L, xs)) Q 842 [some (.ref 1000), some (.ref 0), some (.ref 30), some (.int (nI i))] [] M') : q_g 157 (some (L, xs)) Q 187 [some (.ref 1000), some (.ref 0), some (.ref 30), some (.int (nI i))] [] M := by
  have j1 : q_in (nI (i + 1)) L = true := q_in_L (by omega) hL
  have j2 : q_in (nI (i + 2)) L = true := q_in_L (by omega) hL
  have j3 : q_in (nI (i + 3)) L = true := q_in_L (by omega) hL
  obtain ⟨H, n, h, g, t⟩ := id v
  obtain ⟨kk, hkk, e22, e30, e23⟩ := t.2.2.2.1
  obtain ⟨a, H', ho⟩ := h_out_ex (f := M 23) (H := H) hkk
  obtain ⟨n', h', g'⟩ := g_out g ho
  simp only [gL_law_187, gL_law_188, gL_law_191, gL_law_192, gL_law_193, gL_law_196, gL_law_197, ↓reduceIte, Bool.false_eq_true, Bool.true_eq_false, qk_i, qk_r, qk_n, Option.toList_some, Option.toList_none, List.cons_append, List.nil_append, true_and, and_true, true_or, or_true, eq_self, if_true, if_false, q_b1, q_b2, c_A, c_R, c_O, c_M, c_H1, c_H8, c_H15, nI_1, nI_2, nI_3, j1, j2, j3]
  refine c_house t.1 e22 rfl hkk ho fun M1 h1 r1 z1 => ?_
  simp only [gL_law_187, gL_law_188, gL_law_191, gL_law_192, gL_law_193, gL_law_196, gL_law_197, ↓reduceIte, Bool.false_eq_true, Bool.true_eq_false, qk_i, qk_r, qk_n, Option.toList_some, Option.toList_none, List.cons_append, List.nil_append, true_and, and_true, true_or, or_true, eq_self, if_true, if_false, q_b1, q_b2, c_A, c_R, c_O, c_M, c_H1, c_H8, c_H15, nI_1, nI_2, nI_3, j1, j2, j3]
  refine m_house g (t.2.1.sh h1) (by rw [h1 30 (by decide)]; exact e30) rfl hkk (h_congr (fun j hj => (e23 j hj).trans (congrFun (h1 38 (by decide)).symm j)) ho) fun M2 h2 r2 z2 => ?_
  simp only [gL_law_187, gL_law_188, gL_law_191, gL_law_192, gL_law_193, gL_law_196, gL_law_197, ↓reduceIte, Bool.false_eq_true, Bool.true_eq_false, qk_i, qk_r, qk_n, Option.toList_some, Option.toList_none, List.cons_append, List.nil_append, true_and, and_true, true_or, or_true, eq_self, if_true, if_false, q_b1, q_b2, c_A, c_R, c_O, c_M, c_H1, c_H8, c_H15, nI_1, nI_2, nI_3, j1, j2, j3]
  exact ih M2 ⟨H', n', h', g', T_house t h1 r1 z1 h2 r2 z2⟩
theorem law_c2 (hL : L ≤ 2048) (hi : i + 4 ≤ L) (v : TT M) (ih : ∀ M', TT M' → q_g 157 (some (L, xs)) Q 842 [some (.ref 1000), some (.ref 0), some (.ref 30), some (.int (nI i))] [] M') : q_g 157 (some (L, xs)) Q 200 [some (.ref 1000), some (.ref 0), some (.ref 30), some (.int (nI i))] [] M := by
  have j1 : q_in (nI (i + 1)) L = true := q_in_L (by omega) hL
  have j2 : q_in (nI (i + 2)) L = true := q_in_L (by omega) hL
  have j3 : q_in (nI (i + 3)) L = true := q_in_L (by omega) hL
  obtain ⟨H, n, h, g, t⟩ := id v
  simp only [gL_law_200, gL_law_201, gL_law_202, gL_law_203, gL_law_204, gL_law_205, gL_law_206, gL_law_207, gL_law_208, gL_law_209, gL_law_210, gL_law_211, gL_law_214, gL_law_215, gL_law_216, gL_law_217, gL_law_218, gL_law_219, gL_law_220, gL_law_221, gL_law_222, gL_law_223, gL_law_224, gL_law_225, gL_law_226, gL_law_229, gL_law_230, ↓reduceIte, Bool.false_eq_true, Bool.true_eq_false, qk_i, qk_r, qk_n, Option.toList_some, Option.toList_none, List.cons_append, List.nil_append, true_and, and_true, true_or, or_true, eq_self, if_true, if_false, q_b1, q_b2, c_A, c_R, c_O, c_M, c_H1, c_H8, c_H15, nI_1, nI_2, nI_3, j1, j2, j3]
  refine w_A_thing (g.vh t.1 c_H1) fun x M1 h1 => ?_
  have t1 := t.q h1
  simp only [gL_law_200, gL_law_201, gL_law_202, gL_law_203, gL_law_204, gL_law_205, gL_law_206, gL_law_207, gL_law_208, gL_law_209, gL_law_210, gL_law_211, gL_law_214, gL_law_215, gL_law_216, gL_law_217, gL_law_218, gL_law_219, gL_law_220, gL_law_221, gL_law_222, gL_law_223, gL_law_224, gL_law_225, gL_law_226, gL_law_229, gL_law_230, ↓reduceIte, Bool.false_eq_true, Bool.true_eq_false, qk_i, qk_r, qk_n, Option.toList_some, Option.toList_none, List.cons_append, List.nil_append, true_and, and_true, true_or, or_true, eq_self, if_true, if_false, q_b1, q_b2, c_A, c_R, c_O, c_M, c_H1, c_H8, c_H15, nI_1, nI_2, nI_3, j1, j2, j3]
  refine w_M_thing (g.vm t1.2.1) fun z M2 h2 => ?_
  simp only [gL_law_200, gL_law_201, gL_law_202, gL_law_203, gL_law_204, gL_law_205, gL_law_206, gL_law_207, gL_law_208, gL_law_209, gL_law_210, gL_law_211, gL_law_214, gL_law_215, gL_law_216, gL_law_217, gL_law_218, gL_law_219, gL_law_220, gL_law_221, gL_law_222, gL_law_223, gL_law_224, gL_law_225, gL_law_226, gL_law_229, gL_law_230, ↓reduceIte, Bool.false_eq_true, Bool.true_eq_false, qk_i, qk_r, qk_n, Option.toList_some, Option.toList_none, List.cons_append, List.nil_append, true_and, and_true, true_or, or_true, eq_self, if_true, if_false, q_b1, q_b2, c_A, c_R, c_O, c_M, c_H1, c_H8, c_H15, nI_1, nI_2, nI_3, j1, j2, j3]
  exact ih M2 ⟨H, n, h, g, t1.m h2⟩
theorem law_c3 (hL : L ≤ 2048) (hi : i + 4 ≤ L) (v : TT M) (ih : ∀ M', TT M' → q_g 157 (some (L, xs)) Q 842 [some (.ref 1000), some (.ref 0), some (.ref 30), some (.int (nI i))] [] M') : q_g 157 (some (L, xs)) Q 233 [some (.ref 1000), some (.ref 0), some (.ref 30), some (.int (nI i))] [] M := by
  have j1 : q_in (nI (i + 1)) L = true := q_in_L (by omega) hL
  have j2 : q_in (nI (i + 2)) L = true := q_in_L (by omega) hL
  have j3 : q_in (nI (i + 3)) L = true := q_in_L (by omega) hL
  obtain ⟨H, n, h, g, t⟩ := id v
  simp only [gL_law_233, gL_law_234, gL_law_235, gL_law_236, gL_law_237, gL_law_238, gL_law_239, gL_law_240, gL_law_241, gL_law_242, gL_law_243, gL_law_244, gL_law_245, gL_law_246, gL_law_247, gL_law_248, gL_law_249, gL_law_252, gL_law_253, gL_law_254, gL_law_255, gL_law_256, gL_law_257, gL_law_258, gL_law_259, gL_law_260, gL_law_261, gL_law_262, gL_law_263, gL_law_264, gL_law_265, gL_law_266, gL_law_267, gL_law_268, gL_law_269, gL_law_272, gL_law_273, ↓reduceIte, Bool.false_eq_true, Bool.true_eq_false, qk_i, qk_r, qk_n, Option.toList_some, Option.toList_none, List.cons_append, List.nil_append, true_and, and_true, true_or, or_true, eq_self, if_true, if_false, q_b1, q_b2, c_A, c_R, c_O, c_M, c_H1, c_H8, c_H15, nI_1, nI_2, nI_3, j1, j2, j3]
  refine x_A_need t.1 fun M1 e1 r1 => ?_
  simp only [gL_law_233, gL_law_234, gL_law_235, gL_law_236, gL_law_237, gL_law_238, gL_law_239, gL_law_240, gL_law_241, gL_law_242, gL_law_243, gL_law_244, gL_law_245, gL_law_246, gL_law_247, gL_law_248, gL_law_249, gL_law_252, gL_law_253, gL_law_254, gL_law_255, gL_law_256, gL_law_257, gL_law_258, gL_law_259, gL_law_260, gL_law_261, gL_law_262, gL_law_263, gL_law_264, gL_law_265, gL_law_266, gL_law_267, gL_law_268, gL_law_269, gL_law_272, gL_law_273, ↓reduceIte, Bool.false_eq_true, Bool.true_eq_false, qk_i, qk_r, qk_n, Option.toList_some, Option.toList_none, List.cons_append, List.nil_append, true_and, and_true, true_or, or_true, eq_self, if_true, if_false, q_b1, q_b2, c_A, c_R, c_O, c_M, c_H1, c_H8, c_H15, nI_1, nI_2, nI_3, j1, j2, j3]
  refine x_M_need g (t.2.1.nn e1) fun M2 e2 r2 => ?_
  simp only [gL_law_233, gL_law_234, gL_law_235, gL_law_236, gL_law_237, gL_law_238, gL_law_239, gL_law_240, gL_law_241, gL_law_242, gL_law_243, gL_law_244, gL_law_245, gL_law_246, gL_law_247, gL_law_248, gL_law_249, gL_law_252, gL_law_253, gL_law_254, gL_law_255, gL_law_256, gL_law_257, gL_law_258, gL_law_259, gL_law_260, gL_law_261, gL_law_262, gL_law_263, gL_law_264, gL_law_265, gL_law_266, gL_law_267, gL_law_268, gL_law_269, gL_law_272, gL_law_273, ↓reduceIte, Bool.false_eq_true, Bool.true_eq_false, qk_i, qk_r, qk_n, Option.toList_some, Option.toList_none, List.cons_append, List.nil_append, true_and, and_true, true_or, or_true, eq_self, if_true, if_false, q_b1, q_b2, c_A, c_R, c_O, c_M, c_H1, c_H8, c_H15, nI_1, nI_2, nI_3, j1, j2, j3]
  exact ih M2 ⟨_, n, h, g_need g, t.nv e1 r1 e2 r2⟩
theorem law_c4 (hL : L ≤ 2048) (hi : i + 4 ≤ L) (v : TT M) (ih : ∀ M', TT M' → q_g 157 (some (L, xs)) Q 842 [some (.ref 1000), some (.ref 0), some (.ref 30), some (.int (nI i))] [] M') : q_g 157 (some (L, xs)) Q 276 [some (.ref 1000), some (.ref 0), some (.ref 30), some (.int (nI i))] [] M := by
  have j1 : q_in (nI (i + 1)) L = true := q_in_L (by omega) hL
  have j2 : q_in (nI (i + 2)) L = true := q_in_L (by omega) hL
  have j3 : q_in (nI (i + 3)) L = true := q_in_L (by omega) hL
  obtain ⟨H, n, h, g, t⟩ := id v
  simp only [gL_law_276, gL_law_277, gL_law_278, gL_law_279, gL_law_280, gL_law_281, gL_law_282, gL_law_285, gL_law_286, gL_law_287, gL_law_288, gL_law_289, gL_law_290, gL_law_291, gL_law_292, gL_law_295, gL_law_296, ↓reduceIte, Bool.false_eq_true, Bool.true_eq_false, qk_i, qk_r, qk_n, Option.toList_some, Option.toList_none, List.cons_append, List.nil_append, true_and, and_true, true_or, or_true, eq_self, if_true, if_false, q_b1, q_b2, c_A, c_R, c_O, c_M, c_H1, c_H8, c_H15, nI_1, nI_2, nI_3, j1, j2, j3]
  refine x_A_hand t.1 fun M1 e1 r1 => ?_
  simp only [gL_law_276, gL_law_277, gL_law_278, gL_law_279, gL_law_280, gL_law_281, gL_law_282, gL_law_285, gL_law_286, gL_law_287, gL_law_288, gL_law_289, gL_law_290, gL_law_291, gL_law_292, gL_law_295, gL_law_296, ↓reduceIte, Bool.false_eq_true, Bool.true_eq_false, qk_i, qk_r, qk_n, Option.toList_some, Option.toList_none, List.cons_append, List.nil_append, true_and, and_true, true_or, or_true, eq_self, if_true, if_false, q_b1, q_b2, c_A, c_R, c_O, c_M, c_H1, c_H8, c_H15, nI_1, nI_2, nI_3, j1, j2, j3]
  refine x_M_hand (t.2.1.nn e1) fun M2 e2 r2 => ?_
  simp only [gL_law_276, gL_law_277, gL_law_278, gL_law_279, gL_law_280, gL_law_281, gL_law_282, gL_law_285, gL_law_286, gL_law_287, gL_law_288, gL_law_289, gL_law_290, gL_law_291, gL_law_292, gL_law_295, gL_law_296, ↓reduceIte, Bool.false_eq_true, Bool.true_eq_false, qk_i, qk_r, qk_n, Option.toList_some, Option.toList_none, List.cons_append, List.nil_append, true_and, and_true, true_or, or_true, eq_self, if_true, if_false, q_b1, q_b2, c_A, c_R, c_O, c_M, c_H1, c_H8, c_H15, nI_1, nI_2, nI_3, j1, j2, j3]
  obtain ⟨h', g'⟩ := g_hand (a := xs (nI (i + 1)).toNatClampNeg) g
  exact ih M2 ⟨_, n, h', g', t.nv e1 r1 e2 r2⟩
theorem law_c5 (hL : L ≤ 2048) (hi : i + 4 ≤ L) (v : TT M) (ih : ∀ M', TT M' → q_g 157 (some (L, xs)) Q 842 [some (.ref 1000), some (.ref 0), some (.ref 30), some (.int (nI i))] [] M') : q_g 157 (some (L, xs)) Q 299 [some (.ref 1000), some (.ref 0), some (.ref 30), some (.int (nI i))] [] M := by
  have j1 : q_in (nI (i + 1)) L = true := q_in_L (by omega) hL
  have j2 : q_in (nI (i + 2)) L = true := q_in_L (by omega) hL
  have j3 : q_in (nI (i + 3)) L = true := q_in_L (by omega) hL
  obtain ⟨H, n, h, g, t⟩ := id v
  simp only [gL_law_299, gL_law_300, gL_law_301, gL_law_302, gL_law_303, gL_law_304, gL_law_305, gL_law_308, gL_law_309, gL_law_310, gL_law_311, gL_law_312, gL_law_313, gL_law_314, gL_law_315, gL_law_318, gL_law_319, ↓reduceIte, Bool.false_eq_true, Bool.true_eq_false, qk_i, qk_r, qk_n, Option.toList_some, Option.toList_none, List.cons_append, List.nil_append, true_and, and_true, true_or, or_true, eq_self, if_true, if_false, q_b1, q_b2, c_A, c_R, c_O, c_M, c_H1, c_H8, c_H15, nI_1, nI_2, nI_3, j1, j2, j3]
  refine x_A_take t.1 fun M1 e1 r1 => ?_
  simp only [gL_law_299, gL_law_300, gL_law_301, gL_law_302, gL_law_303, gL_law_304, gL_law_305, gL_law_308, gL_law_309, gL_law_310, gL_law_311, gL_law_312, gL_law_313, gL_law_314, gL_law_315, gL_law_318, gL_law_319, ↓reduceIte, Bool.false_eq_true, Bool.true_eq_false, qk_i, qk_r, qk_n, Option.toList_some, Option.toList_none, List.cons_append, List.nil_append, true_and, and_true, true_or, or_true, eq_self, if_true, if_false, q_b1, q_b2, c_A, c_R, c_O, c_M, c_H1, c_H8, c_H15, nI_1, nI_2, nI_3, j1, j2, j3]
  refine x_M_take g (t.2.1.nn e1) fun M2 e2 r2 => ?_
  simp only [gL_law_299, gL_law_300, gL_law_301, gL_law_302, gL_law_303, gL_law_304, gL_law_305, gL_law_308, gL_law_309, gL_law_310, gL_law_311, gL_law_312, gL_law_313, gL_law_314, gL_law_315, gL_law_318, gL_law_319, ↓reduceIte, Bool.false_eq_true, Bool.true_eq_false, qk_i, qk_r, qk_n, Option.toList_some, Option.toList_none, List.cons_append, List.nil_append, true_and, and_true, true_or, or_true, eq_self, if_true, if_false, q_b1, q_b2, c_A, c_R, c_O, c_M, c_H1, c_H8, c_H15, nI_1, nI_2, nI_3, j1, j2, j3]
  obtain ⟨h', g'⟩ := g_take (a := xs (nI (i + 1)).toNatClampNeg) g
  exact ih M2 ⟨_, n, h', g', t.nv e1 r1 e2 r2⟩
theorem law_c6 (hL : L ≤ 2048) (hi : i + 4 ≤ L) (v : TT M) (ih : ∀ M', TT M' → q_g 157 (some (L, xs)) Q 842 [some (.ref 1000), some (.ref 0), some (.ref 30), some (.int (nI i))] [] M') : q_g 157 (some (L, xs)) Q 322 [some (.ref 1000), some (.ref 0), some (.ref 30), some (.int (nI i))] [] M := by
  have j1 : q_in (nI (i + 1)) L = true := q_in_L (by omega) hL
  have j2 : q_in (nI (i + 2)) L = true := q_in_L (by omega) hL
  have j3 : q_in (nI (i + 3)) L = true := q_in_L (by omega) hL
  obtain ⟨H, n, h, g, t⟩ := id v
  simp only [gL_law_322, gL_law_323, gL_law_326, gL_law_327, gL_law_328, gL_law_331, gL_law_332, ↓reduceIte, Bool.false_eq_true, Bool.true_eq_false, qk_i, qk_r, qk_n, Option.toList_some, Option.toList_none, List.cons_append, List.nil_append, true_and, and_true, true_or, or_true, eq_self, if_true, if_false, q_b1, q_b2, c_A, c_R, c_O, c_M, c_H1, c_H8, c_H15, nI_1, nI_2, nI_3, j1, j2, j3]
  refine w_A_may (g.vh t.1 c_H1) fun x M1 h1 => ?_
  have t1 := t.q h1
  simp only [gL_law_322, gL_law_323, gL_law_326, gL_law_327, gL_law_328, gL_law_331, gL_law_332, ↓reduceIte, Bool.false_eq_true, Bool.true_eq_false, qk_i, qk_r, qk_n, Option.toList_some, Option.toList_none, List.cons_append, List.nil_append, true_and, and_true, true_or, or_true, eq_self, if_true, if_false, q_b1, q_b2, c_A, c_R, c_O, c_M, c_H1, c_H8, c_H15, nI_1, nI_2, nI_3, j1, j2, j3]
  refine w_M_may (g.vm t1.2.1) fun z M2 h2 => ?_
  simp only [gL_law_322, gL_law_323, gL_law_326, gL_law_327, gL_law_328, gL_law_331, gL_law_332, ↓reduceIte, Bool.false_eq_true, Bool.true_eq_false, qk_i, qk_r, qk_n, Option.toList_some, Option.toList_none, List.cons_append, List.nil_append, true_and, and_true, true_or, or_true, eq_self, if_true, if_false, q_b1, q_b2, c_A, c_R, c_O, c_M, c_H1, c_H8, c_H15, nI_1, nI_2, nI_3, j1, j2, j3]
  exact ih M2 ⟨H, n, h, g, t1.m h2⟩
theorem law_c7 (hL : L ≤ 2048) (hi : i + 4 ≤ L) (v : TT M) (ih : ∀ M', TT M' → q_g 157 (some (L, xs)) Q 842 [some (.ref 1000), some (.ref 0), some (.ref 30), some (.int (nI i))] [] M') : q_g 157 (some (L, xs)) Q 335 [some (.ref 1000), some (.ref 0), some (.ref 30), some (.int (nI i))] [] M := by
  have j1 : q_in (nI (i + 1)) L = true := q_in_L (by omega) hL
  have j2 : q_in (nI (i + 2)) L = true := q_in_L (by omega) hL
  have j3 : q_in (nI (i + 3)) L = true := q_in_L (by omega) hL
  obtain ⟨H, n, h, g, t⟩ := id v
  simp only [gL_law_335, gL_law_336, gL_law_337, gL_law_338, gL_law_339, gL_law_340, gL_law_341, gL_law_344, gL_law_345, gL_law_346, gL_law_347, gL_law_348, gL_law_349, gL_law_350, gL_law_351, gL_law_354, gL_law_355, ↓reduceIte, Bool.false_eq_true, Bool.true_eq_false, qk_i, qk_r, qk_n, Option.toList_some, Option.toList_none, List.cons_append, List.nil_append, true_and, and_true, true_or, or_true, eq_self, if_true, if_false, q_b1, q_b2, c_A, c_R, c_O, c_M, c_H1, c_H8, c_H15, nI_1, nI_2, nI_3, j1, j2, j3]
  refine w_A_with (g.vh t.1 c_H1) fun x M1 h1 => ?_
  have t1 := t.q h1
  simp only [gL_law_335, gL_law_336, gL_law_337, gL_law_338, gL_law_339, gL_law_340, gL_law_341, gL_law_344, gL_law_345, gL_law_346, gL_law_347, gL_law_348, gL_law_349, gL_law_350, gL_law_351, gL_law_354, gL_law_355, ↓reduceIte, Bool.false_eq_true, Bool.true_eq_false, qk_i, qk_r, qk_n, Option.toList_some, Option.toList_none, List.cons_append, List.nil_append, true_and, and_true, true_or, or_true, eq_self, if_true, if_false, q_b1, q_b2, c_A, c_R, c_O, c_M, c_H1, c_H8, c_H15, nI_1, nI_2, nI_3, j1, j2, j3]
  refine w_M_with (g.vm t1.2.1) fun z M2 h2 => ?_
  simp only [gL_law_335, gL_law_336, gL_law_337, gL_law_338, gL_law_339, gL_law_340, gL_law_341, gL_law_344, gL_law_345, gL_law_346, gL_law_347, gL_law_348, gL_law_349, gL_law_350, gL_law_351, gL_law_354, gL_law_355, ↓reduceIte, Bool.false_eq_true, Bool.true_eq_false, qk_i, qk_r, qk_n, Option.toList_some, Option.toList_none, List.cons_append, List.nil_append, true_and, and_true, true_or, or_true, eq_self, if_true, if_false, q_b1, q_b2, c_A, c_R, c_O, c_M, c_H1, c_H8, c_H15, nI_1, nI_2, nI_3, j1, j2, j3]
  exact ih M2 ⟨H, n, h, g, t1.m h2⟩
theorem law_c8 (hL : L ≤ 2048) (hi : i + 4 ≤ L) (v : TT M) (ih : ∀ M', TT M' → q_g 157 (some (L, xs)) Q 842 [some (.ref 1000), some (.ref 0), some (.ref 30), some (.int (nI i))] [] M') : q_g 157 (some (L, xs)) Q 358 [some (.ref 1000), some (.ref 0), some (.ref 30), some (.int (nI i))] [] M := by
  have j1 : q_in (nI (i + 1)) L = true := q_in_L (by omega) hL
  have j2 : q_in (nI (i + 2)) L = true := q_in_L (by omega) hL
  have j3 : q_in (nI (i + 3)) L = true := q_in_L (by omega) hL
  obtain ⟨H, n, h, g, t⟩ := id v
  simp only [gL_law_358, gL_law_359, gL_law_362, gL_law_363, gL_law_364, gL_law_367, gL_law_368, ↓reduceIte, Bool.false_eq_true, Bool.true_eq_false, qk_i, qk_r, qk_n, Option.toList_some, Option.toList_none, List.cons_append, List.nil_append, true_and, and_true, true_or, or_true, eq_self, if_true, if_false, q_b1, q_b2, c_A, c_R, c_O, c_M, c_H1, c_H8, c_H15, nI_1, nI_2, nI_3, j1, j2, j3]
  refine w_A_reach (g.vh t.1 c_H1) fun x M1 h1 => ?_
  have t1 := t.q h1
  simp only [gL_law_358, gL_law_359, gL_law_362, gL_law_363, gL_law_364, gL_law_367, gL_law_368, ↓reduceIte, Bool.false_eq_true, Bool.true_eq_false, qk_i, qk_r, qk_n, Option.toList_some, Option.toList_none, List.cons_append, List.nil_append, true_and, and_true, true_or, or_true, eq_self, if_true, if_false, q_b1, q_b2, c_A, c_R, c_O, c_M, c_H1, c_H8, c_H15, nI_1, nI_2, nI_3, j1, j2, j3]
  refine w_M_reach (g.vm t1.2.1) fun z M2 h2 => ?_
  simp only [gL_law_358, gL_law_359, gL_law_362, gL_law_363, gL_law_364, gL_law_367, gL_law_368, ↓reduceIte, Bool.false_eq_true, Bool.true_eq_false, qk_i, qk_r, qk_n, Option.toList_some, Option.toList_none, List.cons_append, List.nil_append, true_and, and_true, true_or, or_true, eq_self, if_true, if_false, q_b1, q_b2, c_A, c_R, c_O, c_M, c_H1, c_H8, c_H15, nI_1, nI_2, nI_3, j1, j2, j3]
  exact ih M2 ⟨H, n, h, g, t1.m h2⟩
theorem law_c9 (hL : L ≤ 2048) (hi : i + 4 ≤ L) (v : TT M) (ih : ∀ M', TT M' → q_g 157 (some (L, xs)) Q 842 [some (.ref 1000), some (.ref 0), some (.ref 30), some (.int (nI i))] [] M') : q_g 157 (some (L, xs)) Q 371 [some (.ref 1000), some (.ref 0), some (.ref 30), some (.int (nI i))] [] M := by
  have j1 : q_in (nI (i + 1)) L = true := q_in_L (by omega) hL
  have j2 : q_in (nI (i + 2)) L = true := q_in_L (by omega) hL
  have j3 : q_in (nI (i + 3)) L = true := q_in_L (by omega) hL
  obtain ⟨H, n, h, g, t⟩ := id v
  simp only [gL_law_371, gL_law_372, gL_law_373, gL_law_374, gL_law_375, gL_law_376, gL_law_377, gL_law_378, gL_law_379, gL_law_380, gL_law_381, gL_law_382, gL_law_385, gL_law_386, gL_law_387, gL_law_388, gL_law_389, gL_law_390, gL_law_391, gL_law_392, gL_law_393, gL_law_394, gL_law_395, gL_law_396, gL_law_397, gL_law_400, gL_law_401, ↓reduceIte, Bool.false_eq_true, Bool.true_eq_false, qk_i, qk_r, qk_n, Option.toList_some, Option.toList_none, List.cons_append, List.nil_append, true_and, and_true, true_or, or_true, eq_self, if_true, if_false, q_b1, q_b2, c_A, c_R, c_O, c_M, c_H1, c_H8, c_H15, nI_1, nI_2, nI_3, j1, j2, j3]
  refine w_A_soonest (g.vh t.1 c_H1) fun x M1 h1 => ?_
  have t1 := t.q h1
  simp only [gL_law_371, gL_law_372, gL_law_373, gL_law_374, gL_law_375, gL_law_376, gL_law_377, gL_law_378, gL_law_379, gL_law_380, gL_law_381, gL_law_382, gL_law_385, gL_law_386, gL_law_387, gL_law_388, gL_law_389, gL_law_390, gL_law_391, gL_law_392, gL_law_393, gL_law_394, gL_law_395, gL_law_396, gL_law_397, gL_law_400, gL_law_401, ↓reduceIte, Bool.false_eq_true, Bool.true_eq_false, qk_i, qk_r, qk_n, Option.toList_some, Option.toList_none, List.cons_append, List.nil_append, true_and, and_true, true_or, or_true, eq_self, if_true, if_false, q_b1, q_b2, c_A, c_R, c_O, c_M, c_H1, c_H8, c_H15, nI_1, nI_2, nI_3, j1, j2, j3]
  refine w_M_soonest (g.vm t1.2.1) fun z M2 h2 => ?_
  simp only [gL_law_371, gL_law_372, gL_law_373, gL_law_374, gL_law_375, gL_law_376, gL_law_377, gL_law_378, gL_law_379, gL_law_380, gL_law_381, gL_law_382, gL_law_385, gL_law_386, gL_law_387, gL_law_388, gL_law_389, gL_law_390, gL_law_391, gL_law_392, gL_law_393, gL_law_394, gL_law_395, gL_law_396, gL_law_397, gL_law_400, gL_law_401, ↓reduceIte, Bool.false_eq_true, Bool.true_eq_false, qk_i, qk_r, qk_n, Option.toList_some, Option.toList_none, List.cons_append, List.nil_append, true_and, and_true, true_or, or_true, eq_self, if_true, if_false, q_b1, q_b2, c_A, c_R, c_O, c_M, c_H1, c_H8, c_H15, nI_1, nI_2, nI_3, j1, j2, j3]
  exact ih M2 ⟨H, n, h, g, t1.m h2⟩
theorem law_c10 (hL : L ≤ 2048) (hi : i + 4 ≤ L) (v : TT M) (ih : ∀ M', TT M' → q_g 157 (some (L, xs)) Q 842 [some (.ref 1000), some (.ref 0), some (.ref 30), some (.int (nI i))] [] M') : q_g 157 (some (L, xs)) Q 404 [some (.ref 1000), some (.ref 0), some (.ref 30), some (.int (nI i))] [] M := by
  have j1 : q_in (nI (i + 1)) L = true := q_in_L (by omega) hL
  have j2 : q_in (nI (i + 2)) L = true := q_in_L (by omega) hL
  have j3 : q_in (nI (i + 3)) L = true := q_in_L (by omega) hL
  obtain ⟨H, n, h, g, t⟩ := id v
  simp only [gL_law_404, gL_law_405, gL_law_406, gL_law_407, gL_law_408, gL_law_409, gL_law_410, gL_law_411, gL_law_412, gL_law_413, gL_law_414, gL_law_415, gL_law_418, gL_law_419, gL_law_420, gL_law_421, gL_law_422, gL_law_423, gL_law_424, gL_law_425, gL_law_426, gL_law_427, gL_law_428, gL_law_429, gL_law_432, gL_law_433, gL_law_436, gL_law_437, ↓reduceIte, Bool.false_eq_true, Bool.true_eq_false, qk_i, qk_r, qk_n, Option.toList_some, Option.toList_none, List.cons_append, List.nil_append, true_and, and_true, true_or, or_true, eq_self, if_true, if_false, q_b1, q_b2, c_A, c_R, c_O, c_M, c_H1, c_H8, c_H15, nI_1, nI_2, nI_3, j1, j2, j3]
  refine y_A_mean g t.1 fun M1 h1 => ?_
  have t1 := t.q h1
  simp only [gL_law_404, gL_law_405, gL_law_406, gL_law_407, gL_law_408, gL_law_409, gL_law_410, gL_law_411, gL_law_412, gL_law_413, gL_law_414, gL_law_415, gL_law_418, gL_law_419, gL_law_420, gL_law_421, gL_law_422, gL_law_423, gL_law_424, gL_law_425, gL_law_426, gL_law_427, gL_law_428, gL_law_429, gL_law_432, gL_law_433, gL_law_436, gL_law_437, ↓reduceIte, Bool.false_eq_true, Bool.true_eq_false, qk_i, qk_r, qk_n, Option.toList_some, Option.toList_none, List.cons_append, List.nil_append, true_and, and_true, true_or, or_true, eq_self, if_true, if_false, q_b1, q_b2, c_A, c_R, c_O, c_M, c_H1, c_H8, c_H15, nI_1, nI_2, nI_3, j1, j2, j3]
  refine y_M_mean g t1.2.1 fun M2 h2 => ?_
  simp only [gL_law_404, gL_law_405, gL_law_406, gL_law_407, gL_law_408, gL_law_409, gL_law_410, gL_law_411, gL_law_412, gL_law_413, gL_law_414, gL_law_415, gL_law_418, gL_law_419, gL_law_420, gL_law_421, gL_law_422, gL_law_423, gL_law_424, gL_law_425, gL_law_426, gL_law_427, gL_law_428, gL_law_429, gL_law_432, gL_law_433, gL_law_436, gL_law_437, ↓reduceIte, Bool.false_eq_true, Bool.true_eq_false, qk_i, qk_r, qk_n, Option.toList_some, Option.toList_none, List.cons_append, List.nil_append, true_and, and_true, true_or, or_true, eq_self, if_true, if_false, q_b1, q_b2, c_A, c_R, c_O, c_M, c_H1, c_H8, c_H15, nI_1, nI_2, nI_3, j1, j2, j3, lcmp_self]
  exact ih M2 ⟨H, n, h, g, t1.m h2⟩
theorem law_c11 (hL : L ≤ 2048) (hi : i + 4 ≤ L) (v : TT M) (ih : ∀ M', TT M' → q_g 157 (some (L, xs)) Q 842 [some (.ref 1000), some (.ref 0), some (.ref 30), some (.int (nI i))] [] M') : q_g 157 (some (L, xs)) Q 438 [some (.ref 1000), some (.ref 0), some (.ref 30), some (.int (nI i))] [] M := by
  have j1 : q_in (nI (i + 1)) L = true := q_in_L (by omega) hL
  have j2 : q_in (nI (i + 2)) L = true := q_in_L (by omega) hL
  have j3 : q_in (nI (i + 3)) L = true := q_in_L (by omega) hL
  obtain ⟨H, n, h, g, t⟩ := id v
  simp only [gL_law_438, gL_law_439, gL_law_440, gL_law_441, gL_law_442, gL_law_443, gL_law_444, gL_law_447, gL_law_448, gL_law_449, gL_law_450, gL_law_451, gL_law_452, gL_law_453, gL_law_454, gL_law_457, gL_law_458, ↓reduceIte, Bool.false_eq_true, Bool.true_eq_false, qk_i, qk_r, qk_n, Option.toList_some, Option.toList_none, List.cons_append, List.nil_append, true_and, and_true, true_or, or_true, eq_self, if_true, if_false, q_b1, q_b2, c_A, c_R, c_O, c_M, c_H1, c_H8, c_H15, nI_1, nI_2, nI_3, j1, j2, j3]
  refine w_A_surely (g.vh t.1 c_H1) fun x M1 h1 => ?_
  have t1 := t.q h1
  simp only [gL_law_438, gL_law_439, gL_law_440, gL_law_441, gL_law_442, gL_law_443, gL_law_444, gL_law_447, gL_law_448, gL_law_449, gL_law_450, gL_law_451, gL_law_452, gL_law_453, gL_law_454, gL_law_457, gL_law_458, ↓reduceIte, Bool.false_eq_true, Bool.true_eq_false, qk_i, qk_r, qk_n, Option.toList_some, Option.toList_none, List.cons_append, List.nil_append, true_and, and_true, true_or, or_true, eq_self, if_true, if_false, q_b1, q_b2, c_A, c_R, c_O, c_M, c_H1, c_H8, c_H15, nI_1, nI_2, nI_3, j1, j2, j3]
  refine w_M_surely (g.vm t1.2.1) fun z M2 h2 => ?_
  simp only [gL_law_438, gL_law_439, gL_law_440, gL_law_441, gL_law_442, gL_law_443, gL_law_444, gL_law_447, gL_law_448, gL_law_449, gL_law_450, gL_law_451, gL_law_452, gL_law_453, gL_law_454, gL_law_457, gL_law_458, ↓reduceIte, Bool.false_eq_true, Bool.true_eq_false, qk_i, qk_r, qk_n, Option.toList_some, Option.toList_none, List.cons_append, List.nil_append, true_and, and_true, true_or, or_true, eq_self, if_true, if_false, q_b1, q_b2, c_A, c_R, c_O, c_M, c_H1, c_H8, c_H15, nI_1, nI_2, nI_3, j1, j2, j3]
  exact ih M2 ⟨H, n, h, g, t1.m h2⟩
theorem law_c12 (hL : L ≤ 2048) (hi : i + 4 ≤ L) (v : TT M) (ih : ∀ M', TT M' → q_g 157 (some (L, xs)) Q 842 [some (.ref 1000), some (.ref 0), some (.ref 30), some (.int (nI i))] [] M') : q_g 157 (some (L, xs)) Q 461 [some (.ref 1000), some (.ref 0), some (.ref 30), some (.int (nI i))] [] M := by
  have j1 : q_in (nI (i + 1)) L = true := q_in_L (by omega) hL
  have j2 : q_in (nI (i + 2)) L = true := q_in_L (by omega) hL
  have j3 : q_in (nI (i + 3)) L = true := q_in_L (by omega) hL
  obtain ⟨H, n, h, g, t⟩ := id v
  simp only [gL_law_461, gL_law_462, gL_law_465, gL_law_466, gL_law_467, gL_law_470, gL_law_471, ↓reduceIte, Bool.false_eq_true, Bool.true_eq_false, qk_i, qk_r, qk_n, Option.toList_some, Option.toList_none, List.cons_append, List.nil_append, true_and, and_true, true_or, or_true, eq_self, if_true, if_false, q_b1, q_b2, c_A, c_R, c_O, c_M, c_H1, c_H8, c_H15, nI_1, nI_2, nI_3, j1, j2, j3]
  refine w_A_ringed (g.vh t.1 c_H1) fun x M1 h1 => ?_
  have t1 := t.q h1
  simp only [gL_law_461, gL_law_462, gL_law_465, gL_law_466, gL_law_467, gL_law_470, gL_law_471, ↓reduceIte, Bool.false_eq_true, Bool.true_eq_false, qk_i, qk_r, qk_n, Option.toList_some, Option.toList_none, List.cons_append, List.nil_append, true_and, and_true, true_or, or_true, eq_self, if_true, if_false, q_b1, q_b2, c_A, c_R, c_O, c_M, c_H1, c_H8, c_H15, nI_1, nI_2, nI_3, j1, j2, j3]
  refine w_M_ringed (g.vm t1.2.1) fun z M2 h2 => ?_
  simp only [gL_law_461, gL_law_462, gL_law_465, gL_law_466, gL_law_467, gL_law_470, gL_law_471, ↓reduceIte, Bool.false_eq_true, Bool.true_eq_false, qk_i, qk_r, qk_n, Option.toList_some, Option.toList_none, List.cons_append, List.nil_append, true_and, and_true, true_or, or_true, eq_self, if_true, if_false, q_b1, q_b2, c_A, c_R, c_O, c_M, c_H1, c_H8, c_H15, nI_1, nI_2, nI_3, j1, j2, j3]
  exact ih M2 ⟨H, n, h, g, t1.m h2⟩
theorem law_c13 (hL : L ≤ 2048) (hi : i + 4 ≤ L) (v : TT M) (ih : ∀ M', TT M' → q_g 157 (some (L, xs)) Q 842 [some (.ref 1000), some (.ref 0), some (.ref 30), some (.int (nI i))] [] M') : q_g 157 (some (L, xs)) Q 474 [some (.ref 1000), some (.ref 0), some (.ref 30), some (.int (nI i))] [] M := by
  have j1 : q_in (nI (i + 1)) L = true := q_in_L (by omega) hL
  have j2 : q_in (nI (i + 2)) L = true := q_in_L (by omega) hL
  have j3 : q_in (nI (i + 3)) L = true := q_in_L (by omega) hL
  obtain ⟨H, n, h, g, t⟩ := id v
  simp only [gL_law_474, gL_law_475, gL_law_476, gL_law_477, gL_law_478, gL_law_479, gL_law_480, gL_law_483, gL_law_484, gL_law_485, gL_law_486, gL_law_487, gL_law_488, gL_law_489, gL_law_490, gL_law_493, gL_law_494, ↓reduceIte, Bool.false_eq_true, Bool.true_eq_false, qk_i, qk_r, qk_n, Option.toList_some, Option.toList_none, List.cons_append, List.nil_append, true_and, and_true, true_or, or_true, eq_self, if_true, if_false, q_b1, q_b2, c_A, c_R, c_O, c_M, c_H1, c_H8, c_H15, nI_1, nI_2, nI_3, j1, j2, j3]
  refine w_A_beg (g.vh t.1 c_H1) fun x M1 h1 => ?_
  have t1 := t.q h1
  simp only [gL_law_474, gL_law_475, gL_law_476, gL_law_477, gL_law_478, gL_law_479, gL_law_480, gL_law_483, gL_law_484, gL_law_485, gL_law_486, gL_law_487, gL_law_488, gL_law_489, gL_law_490, gL_law_493, gL_law_494, ↓reduceIte, Bool.false_eq_true, Bool.true_eq_false, qk_i, qk_r, qk_n, Option.toList_some, Option.toList_none, List.cons_append, List.nil_append, true_and, and_true, true_or, or_true, eq_self, if_true, if_false, q_b1, q_b2, c_A, c_R, c_O, c_M, c_H1, c_H8, c_H15, nI_1, nI_2, nI_3, j1, j2, j3]
  refine w_M_beg (g.vm t1.2.1) fun z M2 h2 => ?_
  simp only [gL_law_474, gL_law_475, gL_law_476, gL_law_477, gL_law_478, gL_law_479, gL_law_480, gL_law_483, gL_law_484, gL_law_485, gL_law_486, gL_law_487, gL_law_488, gL_law_489, gL_law_490, gL_law_493, gL_law_494, ↓reduceIte, Bool.false_eq_true, Bool.true_eq_false, qk_i, qk_r, qk_n, Option.toList_some, Option.toList_none, List.cons_append, List.nil_append, true_and, and_true, true_or, or_true, eq_self, if_true, if_false, q_b1, q_b2, c_A, c_R, c_O, c_M, c_H1, c_H8, c_H15, nI_1, nI_2, nI_3, j1, j2, j3]
  exact ih M2 ⟨H, n, h, g, t1.m h2⟩
theorem law_c14 (hL : L ≤ 2048) (hi : i + 4 ≤ L) (v : TT M) (ih : ∀ M', TT M' → q_g 157 (some (L, xs)) Q 842 [some (.ref 1000), some (.ref 0), some (.ref 30), some (.int (nI i))] [] M') : q_g 157 (some (L, xs)) Q 497 [some (.ref 1000), some (.ref 0), some (.ref 30), some (.int (nI i))] [] M := by
  have j1 : q_in (nI (i + 1)) L = true := q_in_L (by omega) hL
  have j2 : q_in (nI (i + 2)) L = true := q_in_L (by omega) hL
  have j3 : q_in (nI (i + 3)) L = true := q_in_L (by omega) hL
  obtain ⟨H, n, h, g, t⟩ := id v
  simp only [gL_law_497, gL_law_498, gL_law_501, gL_law_502, gL_law_503, gL_law_506, gL_law_507, ↓reduceIte, Bool.false_eq_true, Bool.true_eq_false, qk_i, qk_r, qk_n, Option.toList_some, Option.toList_none, List.cons_append, List.nil_append, true_and, and_true, true_or, or_true, eq_self, if_true, if_false, q_b1, q_b2, c_A, c_R, c_O, c_M, c_H1, c_H8, c_H15, nI_1, nI_2, nI_3, j1, j2, j3]
  refine w_A_nails (g.vh t.1 c_H1) fun x M1 h1 => ?_
  have t1 := t.q h1
  simp only [gL_law_497, gL_law_498, gL_law_501, gL_law_502, gL_law_503, gL_law_506, gL_law_507, ↓reduceIte, Bool.false_eq_true, Bool.true_eq_false, qk_i, qk_r, qk_n, Option.toList_some, Option.toList_none, List.cons_append, List.nil_append, true_and, and_true, true_or, or_true, eq_self, if_true, if_false, q_b1, q_b2, c_A, c_R, c_O, c_M, c_H1, c_H8, c_H15, nI_1, nI_2, nI_3, j1, j2, j3]
  refine w_M_nails (g.vm t1.2.1) fun z M2 h2 => ?_
  simp only [gL_law_497, gL_law_498, gL_law_501, gL_law_502, gL_law_503, gL_law_506, gL_law_507, ↓reduceIte, Bool.false_eq_true, Bool.true_eq_false, qk_i, qk_r, qk_n, Option.toList_some, Option.toList_none, List.cons_append, List.nil_append, true_and, and_true, true_or, or_true, eq_self, if_true, if_false, q_b1, q_b2, c_A, c_R, c_O, c_M, c_H1, c_H8, c_H15, nI_1, nI_2, nI_3, j1, j2, j3]
  exact ih M2 ⟨H, n, h, g, t1.m h2⟩
theorem law_c15 (hL : L ≤ 2048) (hi : i + 4 ≤ L) (v : TT M) (ih : ∀ M', TT M' → q_g 157 (some (L, xs)) Q 842 [some (.ref 1000), some (.ref 0), some (.ref 30), some (.int (nI i))] [] M') : q_g 157 (some (L, xs)) Q 510 [some (.ref 1000), some (.ref 0), some (.ref 30), some (.int (nI i))] [] M := by
  have j1 : q_in (nI (i + 1)) L = true := q_in_L (by omega) hL
  have j2 : q_in (nI (i + 2)) L = true := q_in_L (by omega) hL
  have j3 : q_in (nI (i + 3)) L = true := q_in_L (by omega) hL
  obtain ⟨H, n, h, g, t⟩ := id v
  simp only [gL_law_510, gL_law_511, gL_law_514, gL_law_515, gL_law_516, gL_law_519, gL_law_520, ↓reduceIte, Bool.false_eq_true, Bool.true_eq_false, qk_i, qk_r, qk_n, Option.toList_some, Option.toList_none, List.cons_append, List.nil_append, true_and, and_true, true_or, or_true, eq_self, if_true, if_false, q_b1, q_b2, c_A, c_R, c_O, c_M, c_H1, c_H8, c_H15, nI_1, nI_2, nI_3, j1, j2, j3]
  refine w_A_spare (g.vh t.1 c_H1) fun x M1 h1 => ?_
  have t1 := t.q h1
  simp only [gL_law_510, gL_law_511, gL_law_514, gL_law_515, gL_law_516, gL_law_519, gL_law_520, ↓reduceIte, Bool.false_eq_true, Bool.true_eq_false, qk_i, qk_r, qk_n, Option.toList_some, Option.toList_none, List.cons_append, List.nil_append, true_and, and_true, true_or, or_true, eq_self, if_true, if_false, q_b1, q_b2, c_A, c_R, c_O, c_M, c_H1, c_H8, c_H15, nI_1, nI_2, nI_3, j1, j2, j3]
  refine w_M_spare (g.vm t1.2.1) fun z M2 h2 => ?_
  simp only [gL_law_510, gL_law_511, gL_law_514, gL_law_515, gL_law_516, gL_law_519, gL_law_520, ↓reduceIte, Bool.false_eq_true, Bool.true_eq_false, qk_i, qk_r, qk_n, Option.toList_some, Option.toList_none, List.cons_append, List.nil_append, true_and, and_true, true_or, or_true, eq_self, if_true, if_false, q_b1, q_b2, c_A, c_R, c_O, c_M, c_H1, c_H8, c_H15, nI_1, nI_2, nI_3, j1, j2, j3]
  exact ih M2 ⟨H, n, h, g, t1.m h2⟩
theorem law_c16 (hL : L ≤ 2048) (hi : i + 4 ≤ L) (v : TT M) (ih : ∀ M', TT M' → q_g 157 (some (L, xs)) Q 842 [some (.ref 1000), some (.ref 0), some (.ref 30), some (.int (nI i))] [] M') : q_g 157 (some (L, xs)) Q 523 [some (.ref 1000), some (.ref 0), some (.ref 30), some (.int (nI i))] [] M := by
  have j1 : q_in (nI (i + 1)) L = true := q_in_L (by omega) hL
  have j2 : q_in (nI (i + 2)) L = true := q_in_L (by omega) hL
  have j3 : q_in (nI (i + 3)) L = true := q_in_L (by omega) hL
  obtain ⟨H, n, h, g, t⟩ := id v
  simp only [gL_law_523, gL_law_524, gL_law_525, gL_law_526, gL_law_527, gL_law_528, gL_law_529, gL_law_532, gL_law_533, gL_law_534, gL_law_535, gL_law_536, gL_law_537, gL_law_538, gL_law_539, gL_law_542, gL_law_543, ↓reduceIte, Bool.false_eq_true, Bool.true_eq_false, qk_i, qk_r, qk_n, Option.toList_some, Option.toList_none, List.cons_append, List.nil_append, true_and, and_true, true_or, or_true, eq_self, if_true, if_false, q_b1, q_b2, c_A, c_R, c_O, c_M, c_H1, c_H8, c_H15, nI_1, nI_2, nI_3, j1, j2, j3]
  refine w_A_does (g.vh t.1 c_H1) fun x M1 h1 => ?_
  have t1 := t.q h1
  simp only [gL_law_523, gL_law_524, gL_law_525, gL_law_526, gL_law_527, gL_law_528, gL_law_529, gL_law_532, gL_law_533, gL_law_534, gL_law_535, gL_law_536, gL_law_537, gL_law_538, gL_law_539, gL_law_542, gL_law_543, ↓reduceIte, Bool.false_eq_true, Bool.true_eq_false, qk_i, qk_r, qk_n, Option.toList_some, Option.toList_none, List.cons_append, List.nil_append, true_and, and_true, true_or, or_true, eq_self, if_true, if_false, q_b1, q_b2, c_A, c_R, c_O, c_M, c_H1, c_H8, c_H15, nI_1, nI_2, nI_3, j1, j2, j3]
  refine w_M_does (g.vm t1.2.1) fun z M2 h2 => ?_
  simp only [gL_law_523, gL_law_524, gL_law_525, gL_law_526, gL_law_527, gL_law_528, gL_law_529, gL_law_532, gL_law_533, gL_law_534, gL_law_535, gL_law_536, gL_law_537, gL_law_538, gL_law_539, gL_law_542, gL_law_543, ↓reduceIte, Bool.false_eq_true, Bool.true_eq_false, qk_i, qk_r, qk_n, Option.toList_some, Option.toList_none, List.cons_append, List.nil_append, true_and, and_true, true_or, or_true, eq_self, if_true, if_false, q_b1, q_b2, c_A, c_R, c_O, c_M, c_H1, c_H8, c_H15, nI_1, nI_2, nI_3, j1, j2, j3]
  exact ih M2 ⟨H, n, h, g, t1.m h2⟩
theorem law_c17 (hL : L ≤ 2048) (hi : i + 4 ≤ L) (v : TT M) (ih : ∀ M', TT M' → q_g 157 (some (L, xs)) Q 842 [some (.ref 1000), some (.ref 0), some (.ref 30), some (.int (nI i))] [] M') : q_g 157 (some (L, xs)) Q 546 [some (.ref 1000), some (.ref 0), some (.ref 30), some (.int (nI i))] [] M := by
  have j1 : q_in (nI (i + 1)) L = true := q_in_L (by omega) hL
  have j2 : q_in (nI (i + 2)) L = true := q_in_L (by omega) hL
  have j3 : q_in (nI (i + 3)) L = true := q_in_L (by omega) hL
  obtain ⟨H, n, h, g, t⟩ := id v
  simp only [gL_law_546, gL_law_547, gL_law_548, gL_law_549, gL_law_550, gL_law_551, gL_law_552, gL_law_555, gL_law_556, gL_law_557, gL_law_558, gL_law_559, gL_law_560, gL_law_561, gL_law_562, gL_law_565, gL_law_566, ↓reduceIte, Bool.false_eq_true, Bool.true_eq_false, qk_i, qk_r, qk_n, Option.toList_some, Option.toList_none, List.cons_append, List.nil_append, true_and, and_true, true_or, or_true, eq_self, if_true, if_false, q_b1, q_b2, c_A, c_R, c_O, c_M, c_H1, c_H8, c_H15, nI_1, nI_2, nI_3, j1, j2, j3]
  refine w_A_ways (g.vh t.1 c_H1) fun x M1 h1 => ?_
  have t1 := t.q h1
  simp only [gL_law_546, gL_law_547, gL_law_548, gL_law_549, gL_law_550, gL_law_551, gL_law_552, gL_law_555, gL_law_556, gL_law_557, gL_law_558, gL_law_559, gL_law_560, gL_law_561, gL_law_562, gL_law_565, gL_law_566, ↓reduceIte, Bool.false_eq_true, Bool.true_eq_false, qk_i, qk_r, qk_n, Option.toList_some, Option.toList_none, List.cons_append, List.nil_append, true_and, and_true, true_or, or_true, eq_self, if_true, if_false, q_b1, q_b2, c_A, c_R, c_O, c_M, c_H1, c_H8, c_H15, nI_1, nI_2, nI_3, j1, j2, j3]
  refine w_M_ways (g.vm t1.2.1) fun z M2 h2 => ?_
  simp only [gL_law_546, gL_law_547, gL_law_548, gL_law_549, gL_law_550, gL_law_551, gL_law_552, gL_law_555, gL_law_556, gL_law_557, gL_law_558, gL_law_559, gL_law_560, gL_law_561, gL_law_562, gL_law_565, gL_law_566, ↓reduceIte, Bool.false_eq_true, Bool.true_eq_false, qk_i, qk_r, qk_n, Option.toList_some, Option.toList_none, List.cons_append, List.nil_append, true_and, and_true, true_or, or_true, eq_self, if_true, if_false, q_b1, q_b2, c_A, c_R, c_O, c_M, c_H1, c_H8, c_H15, nI_1, nI_2, nI_3, j1, j2, j3]
  exact ih M2 ⟨H, n, h, g, t1.m h2⟩
theorem law_c18 (hL : L ≤ 2048) (hi : i + 4 ≤ L) (v : TT M) (ih : ∀ M', TT M' → q_g 157 (some (L, xs)) Q 842 [some (.ref 1000), some (.ref 0), some (.ref 30), some (.int (nI i))] [] M') : q_g 157 (some (L, xs)) Q 569 [some (.ref 1000), some (.ref 0), some (.ref 30), some (.int (nI i))] [] M := by
  have j1 : q_in (nI (i + 1)) L = true := q_in_L (by omega) hL
  have j2 : q_in (nI (i + 2)) L = true := q_in_L (by omega) hL
  have j3 : q_in (nI (i + 3)) L = true := q_in_L (by omega) hL
  obtain ⟨H, n, h, g, t⟩ := id v
  simp only [gL_law_569, gL_law_570, gL_law_571, gL_law_572, gL_law_573, gL_law_574, gL_law_575, gL_law_578, gL_law_579, gL_law_580, gL_law_581, gL_law_582, gL_law_583, gL_law_584, gL_law_585, gL_law_588, gL_law_589, ↓reduceIte, Bool.false_eq_true, Bool.true_eq_false, qk_i, qk_r, qk_n, Option.toList_some, Option.toList_none, List.cons_append, List.nil_append, true_and, and_true, true_or, or_true, eq_self, if_true, if_false, q_b1, q_b2, c_A, c_R, c_O, c_M, c_H1, c_H8, c_H15, nI_1, nI_2, nI_3, j1, j2, j3]
  refine w_A_must (g.vh t.1 c_H1) fun x M1 h1 => ?_
  have t1 := t.q h1
  simp only [gL_law_569, gL_law_570, gL_law_571, gL_law_572, gL_law_573, gL_law_574, gL_law_575, gL_law_578, gL_law_579, gL_law_580, gL_law_581, gL_law_582, gL_law_583, gL_law_584, gL_law_585, gL_law_588, gL_law_589, ↓reduceIte, Bool.false_eq_true, Bool.true_eq_false, qk_i, qk_r, qk_n, Option.toList_some, Option.toList_none, List.cons_append, List.nil_append, true_and, and_true, true_or, or_true, eq_self, if_true, if_false, q_b1, q_b2, c_A, c_R, c_O, c_M, c_H1, c_H8, c_H15, nI_1, nI_2, nI_3, j1, j2, j3]
  refine w_M_must (g.vm t1.2.1) fun z M2 h2 => ?_
  simp only [gL_law_569, gL_law_570, gL_law_571, gL_law_572, gL_law_573, gL_law_574, gL_law_575, gL_law_578, gL_law_579, gL_law_580, gL_law_581, gL_law_582, gL_law_583, gL_law_584, gL_law_585, gL_law_588, gL_law_589, ↓reduceIte, Bool.false_eq_true, Bool.true_eq_false, qk_i, qk_r, qk_n, Option.toList_some, Option.toList_none, List.cons_append, List.nil_append, true_and, and_true, true_or, or_true, eq_self, if_true, if_false, q_b1, q_b2, c_A, c_R, c_O, c_M, c_H1, c_H8, c_H15, nI_1, nI_2, nI_3, j1, j2, j3]
  exact ih M2 ⟨H, n, h, g, t1.m h2⟩
theorem law_c19 (hL : L ≤ 2048) (hi : i + 4 ≤ L) (v : TT M) (ih : ∀ M', TT M' → q_g 157 (some (L, xs)) Q 842 [some (.ref 1000), some (.ref 0), some (.ref 30), some (.int (nI i))] [] M') : q_g 157 (some (L, xs)) Q 592 [some (.ref 1000), some (.ref 0), some (.ref 30), some (.int (nI i))] [] M := by
  have j1 : q_in (nI (i + 1)) L = true := q_in_L (by omega) hL
  have j2 : q_in (nI (i + 2)) L = true := q_in_L (by omega) hL
  have j3 : q_in (nI (i + 3)) L = true := q_in_L (by omega) hL
  obtain ⟨H, n, h, g, t⟩ := id v
  simp only [gL_law_592, gL_law_593, gL_law_594, gL_law_595, gL_law_596, gL_law_597, gL_law_598, gL_law_599, gL_law_600, gL_law_601, gL_law_602, gL_law_603, gL_law_606, gL_law_607, gL_law_608, gL_law_609, gL_law_610, gL_law_611, gL_law_612, gL_law_613, gL_law_614, gL_law_615, gL_law_616, gL_law_617, gL_law_618, gL_law_621, gL_law_622, ↓reduceIte, Bool.false_eq_true, Bool.true_eq_false, qk_i, qk_r, qk_n, Option.toList_some, Option.toList_none, List.cons_append, List.nil_append, true_and, and_true, true_or, or_true, eq_self, if_true, if_false, q_b1, q_b2, c_A, c_R, c_O, c_M, c_H1, c_H8, c_H15, nI_1, nI_2, nI_3, j1, j2, j3]
  refine w_A_halfway (g.vh t.1 c_H1) fun x M1 h1 => ?_
  have t1 := t.q h1
  simp only [gL_law_592, gL_law_593, gL_law_594, gL_law_595, gL_law_596, gL_law_597, gL_law_598, gL_law_599, gL_law_600, gL_law_601, gL_law_602, gL_law_603, gL_law_606, gL_law_607, gL_law_608, gL_law_609, gL_law_610, gL_law_611, gL_law_612, gL_law_613, gL_law_614, gL_law_615, gL_law_616, gL_law_617, gL_law_618, gL_law_621, gL_law_622, ↓reduceIte, Bool.false_eq_true, Bool.true_eq_false, qk_i, qk_r, qk_n, Option.toList_some, Option.toList_none, List.cons_append, List.nil_append, true_and, and_true, true_or, or_true, eq_self, if_true, if_false, q_b1, q_b2, c_A, c_R, c_O, c_M, c_H1, c_H8, c_H15, nI_1, nI_2, nI_3, j1, j2, j3]
  refine w_M_halfway (g.vm t1.2.1) fun z M2 h2 => ?_
  simp only [gL_law_592, gL_law_593, gL_law_594, gL_law_595, gL_law_596, gL_law_597, gL_law_598, gL_law_599, gL_law_600, gL_law_601, gL_law_602, gL_law_603, gL_law_606, gL_law_607, gL_law_608, gL_law_609, gL_law_610, gL_law_611, gL_law_612, gL_law_613, gL_law_614, gL_law_615, gL_law_616, gL_law_617, gL_law_618, gL_law_621, gL_law_622, ↓reduceIte, Bool.false_eq_true, Bool.true_eq_false, qk_i, qk_r, qk_n, Option.toList_some, Option.toList_none, List.cons_append, List.nil_append, true_and, and_true, true_or, or_true, eq_self, if_true, if_false, q_b1, q_b2, c_A, c_R, c_O, c_M, c_H1, c_H8, c_H15, nI_1, nI_2, nI_3, j1, j2, j3]
  exact ih M2 ⟨H, n, h, g, t1.m h2⟩
theorem law_c20 (hL : L ≤ 2048) (hi : i + 4 ≤ L) (v : TT M) (ih : ∀ M', TT M' → q_g 157 (some (L, xs)) Q 842 [some (.ref 1000), some (.ref 0), some (.ref 30), some (.int (nI i))] [] M') : q_g 157 (some (L, xs)) Q 625 [some (.ref 1000), some (.ref 0), some (.ref 30), some (.int (nI i))] [] M := by
  have j1 : q_in (nI (i + 1)) L = true := q_in_L (by omega) hL
  have j2 : q_in (nI (i + 2)) L = true := q_in_L (by omega) hL
  have j3 : q_in (nI (i + 3)) L = true := q_in_L (by omega) hL
  obtain ⟨H, n, h, g, t⟩ := id v
  simp only [gL_law_625, gL_law_626, gL_law_627, gL_law_628, gL_law_629, gL_law_630, gL_law_631, gL_law_632, gL_law_633, gL_law_634, gL_law_635, gL_law_636, gL_law_637, gL_law_638, gL_law_639, gL_law_640, gL_law_641, gL_law_644, gL_law_645, gL_law_646, gL_law_647, gL_law_648, gL_law_649, gL_law_650, gL_law_651, gL_law_652, gL_law_653, gL_law_654, gL_law_655, gL_law_656, gL_law_657, gL_law_658, gL_law_659, gL_law_660, gL_law_661, gL_law_664, gL_law_665, ↓reduceIte, Bool.false_eq_true, Bool.true_eq_false, qk_i, qk_r, qk_n, Option.toList_some, Option.toList_none, List.cons_append, List.nil_append, true_and, and_true, true_or, or_true, eq_self, if_true, if_false, q_b1, q_b2, c_A, c_R, c_O, c_M, c_H1, c_H8, c_H15, nI_1, nI_2, nI_3, j1, j2, j3]
  refine w_A_drawer fun x M1 h1 => ?_
  have t1 := t.q h1
  simp only [gL_law_625, gL_law_626, gL_law_627, gL_law_628, gL_law_629, gL_law_630, gL_law_631, gL_law_632, gL_law_633, gL_law_634, gL_law_635, gL_law_636, gL_law_637, gL_law_638, gL_law_639, gL_law_640, gL_law_641, gL_law_644, gL_law_645, gL_law_646, gL_law_647, gL_law_648, gL_law_649, gL_law_650, gL_law_651, gL_law_652, gL_law_653, gL_law_654, gL_law_655, gL_law_656, gL_law_657, gL_law_658, gL_law_659, gL_law_660, gL_law_661, gL_law_664, gL_law_665, ↓reduceIte, Bool.false_eq_true, Bool.true_eq_false, qk_i, qk_r, qk_n, Option.toList_some, Option.toList_none, List.cons_append, List.nil_append, true_and, and_true, true_or, or_true, eq_self, if_true, if_false, q_b1, q_b2, c_A, c_R, c_O, c_M, c_H1, c_H8, c_H15, nI_1, nI_2, nI_3, j1, j2, j3]
  refine w_M_drawer fun z M2 h2 => ?_
  simp only [gL_law_625, gL_law_626, gL_law_627, gL_law_628, gL_law_629, gL_law_630, gL_law_631, gL_law_632, gL_law_633, gL_law_634, gL_law_635, gL_law_636, gL_law_637, gL_law_638, gL_law_639, gL_law_640, gL_law_641, gL_law_644, gL_law_645, gL_law_646, gL_law_647, gL_law_648, gL_law_649, gL_law_650, gL_law_651, gL_law_652, gL_law_653, gL_law_654, gL_law_655, gL_law_656, gL_law_657, gL_law_658, gL_law_659, gL_law_660, gL_law_661, gL_law_664, gL_law_665, ↓reduceIte, Bool.false_eq_true, Bool.true_eq_false, qk_i, qk_r, qk_n, Option.toList_some, Option.toList_none, List.cons_append, List.nil_append, true_and, and_true, true_or, or_true, eq_self, if_true, if_false, q_b1, q_b2, c_A, c_R, c_O, c_M, c_H1, c_H8, c_H15, nI_1, nI_2, nI_3, j1, j2, j3]
  exact ih M2 ⟨H, n, h, g, t1.m h2⟩
theorem law_c21 (hL : L ≤ 2048) (hi : i + 4 ≤ L) (v : TT M) (ih : ∀ M', TT M' → q_g 157 (some (L, xs)) Q 842 [some (.ref 1000), some (.ref 0), some (.ref 30), some (.int (nI i))] [] M') : q_g 157 (some (L, xs)) Q 668 [some (.ref 1000), some (.ref 0), some (.ref 30), some (.int (nI i))] [] M := by
  have j1 : q_in (nI (i + 1)) L = true := q_in_L (by omega) hL
  have j2 : q_in (nI (i + 2)) L = true := q_in_L (by omega) hL
  have j3 : q_in (nI (i + 3)) L = true := q_in_L (by omega) hL
  obtain ⟨H, n, h, g, t⟩ := id v
  simp only [gL_law_668, gL_law_669, gL_law_670, gL_law_671, gL_law_672, gL_law_673, gL_law_674, gL_law_675, gL_law_676, gL_law_677, gL_law_678, gL_law_679, gL_law_682, gL_law_683, gL_law_684, gL_law_685, gL_law_686, gL_law_687, gL_law_688, gL_law_689, gL_law_690, gL_law_691, gL_law_692, gL_law_693, gL_law_694, gL_law_697, gL_law_698, ↓reduceIte, Bool.false_eq_true, Bool.true_eq_false, qk_i, qk_r, qk_n, Option.toList_some, Option.toList_none, List.cons_append, List.nil_append, true_and, and_true, true_or, or_true, eq_self, if_true, if_false, q_b1, q_b2, c_A, c_R, c_O, c_M, c_H1, c_H8, c_H15, nI_1, nI_2, nI_3, j1, j2, j3]
  refine w_A_seeker (g.vh t.1 c_H1) fun x M1 h1 => ?_
  have t1 := t.q h1
  simp only [gL_law_668, gL_law_669, gL_law_670, gL_law_671, gL_law_672, gL_law_673, gL_law_674, gL_law_675, gL_law_676, gL_law_677, gL_law_678, gL_law_679, gL_law_682, gL_law_683, gL_law_684, gL_law_685, gL_law_686, gL_law_687, gL_law_688, gL_law_689, gL_law_690, gL_law_691, gL_law_692, gL_law_693, gL_law_694, gL_law_697, gL_law_698, ↓reduceIte, Bool.false_eq_true, Bool.true_eq_false, qk_i, qk_r, qk_n, Option.toList_some, Option.toList_none, List.cons_append, List.nil_append, true_and, and_true, true_or, or_true, eq_self, if_true, if_false, q_b1, q_b2, c_A, c_R, c_O, c_M, c_H1, c_H8, c_H15, nI_1, nI_2, nI_3, j1, j2, j3]
  refine w_M_seeker (g.vm t1.2.1) fun z M2 h2 => ?_
  simp only [gL_law_668, gL_law_669, gL_law_670, gL_law_671, gL_law_672, gL_law_673, gL_law_674, gL_law_675, gL_law_676, gL_law_677, gL_law_678, gL_law_679, gL_law_682, gL_law_683, gL_law_684, gL_law_685, gL_law_686, gL_law_687, gL_law_688, gL_law_689, gL_law_690, gL_law_691, gL_law_692, gL_law_693, gL_law_694, gL_law_697, gL_law_698, ↓reduceIte, Bool.false_eq_true, Bool.true_eq_false, qk_i, qk_r, qk_n, Option.toList_some, Option.toList_none, List.cons_append, List.nil_append, true_and, and_true, true_or, or_true, eq_self, if_true, if_false, q_b1, q_b2, c_A, c_R, c_O, c_M, c_H1, c_H8, c_H15, nI_1, nI_2, nI_3, j1, j2, j3]
  exact ih M2 ⟨H, n, h, g, t1.m h2⟩
theorem law_c22 (hL : L ≤ 2048) (hi : i + 4 ≤ L) (v : TT M) (ih : ∀ M', TT M' → q_g 157 (some (L, xs)) Q 842 [some (.ref 1000), some (.ref 0), some (.ref 30), some (.int (nI i))] [] M') : q_g 157 (some (L, xs)) Q 701 [some (.ref 1000), some (.ref 0), some (.ref 30), some (.int (nI i))] [] M := by
  have j1 : q_in (nI (i + 1)) L = true := q_in_L (by omega) hL
  have j2 : q_in (nI (i + 2)) L = true := q_in_L (by omega) hL
  have j3 : q_in (nI (i + 3)) L = true := q_in_L (by omega) hL
  obtain ⟨H, n, h, g, t⟩ := id v
  simp only [gL_law_701, gL_law_702, gL_law_703, gL_law_704, gL_law_705, gL_law_706, gL_law_707, gL_law_710, gL_law_711, gL_law_712, gL_law_713, gL_law_714, gL_law_715, gL_law_716, gL_law_717, gL_law_720, gL_law_721, ↓reduceIte, Bool.false_eq_true, Bool.true_eq_false, qk_i, qk_r, qk_n, Option.toList_some, Option.toList_none, List.cons_append, List.nil_append, true_and, and_true, true_or, or_true, eq_self, if_true, if_false, q_b1, q_b2, c_A, c_R, c_O, c_M, c_H1, c_H8, c_H15, nI_1, nI_2, nI_3, j1, j2, j3]
  refine w_A_seeks (g.vh t.1 c_H1) fun x M1 h1 => ?_
  have t1 := t.q h1
  simp only [gL_law_701, gL_law_702, gL_law_703, gL_law_704, gL_law_705, gL_law_706, gL_law_707, gL_law_710, gL_law_711, gL_law_712, gL_law_713, gL_law_714, gL_law_715, gL_law_716, gL_law_717, gL_law_720, gL_law_721, ↓reduceIte, Bool.false_eq_true, Bool.true_eq_false, qk_i, qk_r, qk_n, Option.toList_some, Option.toList_none, List.cons_append, List.nil_append, true_and, and_true, true_or, or_true, eq_self, if_true, if_false, q_b1, q_b2, c_A, c_R, c_O, c_M, c_H1, c_H8, c_H15, nI_1, nI_2, nI_3, j1, j2, j3]
  refine w_M_seeks (g.vm t1.2.1) fun z M2 h2 => ?_
  simp only [gL_law_701, gL_law_702, gL_law_703, gL_law_704, gL_law_705, gL_law_706, gL_law_707, gL_law_710, gL_law_711, gL_law_712, gL_law_713, gL_law_714, gL_law_715, gL_law_716, gL_law_717, gL_law_720, gL_law_721, ↓reduceIte, Bool.false_eq_true, Bool.true_eq_false, qk_i, qk_r, qk_n, Option.toList_some, Option.toList_none, List.cons_append, List.nil_append, true_and, and_true, true_or, or_true, eq_self, if_true, if_false, q_b1, q_b2, c_A, c_R, c_O, c_M, c_H1, c_H8, c_H15, nI_1, nI_2, nI_3, j1, j2, j3]
  exact ih M2 ⟨H, n, h, g, t1.m h2⟩
theorem law_c23 (hL : L ≤ 2048) (hi : i + 4 ≤ L) (v : TT M) (ih : ∀ M', TT M' → q_g 157 (some (L, xs)) Q 842 [some (.ref 1000), some (.ref 0), some (.ref 30), some (.int (nI i))] [] M') : q_g 157 (some (L, xs)) Q 724 [some (.ref 1000), some (.ref 0), some (.ref 30), some (.int (nI i))] [] M := by
  have j1 : q_in (nI (i + 1)) L = true := q_in_L (by omega) hL
  have j2 : q_in (nI (i + 2)) L = true := q_in_L (by omega) hL
  have j3 : q_in (nI (i + 3)) L = true := q_in_L (by omega) hL
  obtain ⟨H, n, h, g, t⟩ := id v
  obtain ⟨ea, ⟨kk, hkk, hk⟩, tt⟩ := T_row (c := xs (nI (i + 1)).toNatClampNeg) t
  simp only [gL_law_724, gL_law_725, gL_law_726, gL_law_727, gL_law_728, gL_law_729, gL_law_730, gL_law_733, gL_law_734, gL_law_735, gL_law_736, gL_law_737, gL_law_738, gL_law_739, gL_law_740, gL_law_743, gL_law_744, ↓reduceIte, Bool.false_eq_true, Bool.true_eq_false, qk_i, qk_r, qk_n, Option.toList_some, Option.toList_none, List.cons_append, List.nil_append, true_and, and_true, true_or, or_true, eq_self, if_true, if_false, q_b1, q_b2, c_A, c_R, c_O, c_M, c_H1, c_H8, c_H15, nI_1, nI_2, nI_3, j1, j2, j3, x_A_row, x_M_row hkk hk, ea]
  exact ih _ ⟨H, n, h, g, tt⟩
theorem law_c24 (hL : L ≤ 2048) (hi : i + 4 ≤ L) (v : TT M) (ih : ∀ M', TT M' → q_g 157 (some (L, xs)) Q 842 [some (.ref 1000), some (.ref 0), some (.ref 30), some (.int (nI i))] [] M') : q_g 157 (some (L, xs)) Q 747 [some (.ref 1000), some (.ref 0), some (.ref 30), some (.int (nI i))] [] M := by
  have j1 : q_in (nI (i + 1)) L = true := q_in_L (by omega) hL
  have j2 : q_in (nI (i + 2)) L = true := q_in_L (by omega) hL
  have j3 : q_in (nI (i + 3)) L = true := q_in_L (by omega) hL
  obtain ⟨H, n, h, g, t⟩ := id v
  obtain ⟨r, hr, e0, e25⟩ := t.2.2.2.2
  obtain ⟨tt, rm⟩ := T_judge t
  simp only [gL_law_747, gL_law_748, gL_law_751, gL_law_752, gL_law_753, gL_law_756, gL_law_757, ↓reduceIte, Bool.false_eq_true, Bool.true_eq_false, qk_i, qk_r, qk_n, Option.toList_some, Option.toList_none, List.cons_append, List.nil_append, true_and, and_true, true_or, or_true, eq_self, if_true, if_false, q_b1, q_b2, c_A, c_R, c_O, c_M, c_H1, c_H8, c_H15, nI_1, nI_2, nI_3, j1, j2, j3]
  refine w_A_judge ⟨n, h, g.vh t.1 c_H1⟩ ⟨r, hr, e0⟩ fun x => ?_
  simp only [gL_law_747, gL_law_748, gL_law_751, gL_law_752, gL_law_753, gL_law_756, gL_law_757, ↓reduceIte, Bool.false_eq_true, Bool.true_eq_false, qk_i, qk_r, qk_n, Option.toList_some, Option.toList_none, List.cons_append, List.nil_append, true_and, and_true, true_or, or_true, eq_self, if_true, if_false, q_b1, q_b2, c_A, c_R, c_O, c_M, c_H1, c_H8, c_H15, nI_1, nI_2, nI_3, j1, j2, j3]
  refine w_M_judge (g.vm rm) hr (by rw [q_put_ne (by decide)]; exact e25) fun z => ?_
  simp only [gL_law_747, gL_law_748, gL_law_751, gL_law_752, gL_law_753, gL_law_756, gL_law_757, ↓reduceIte, Bool.false_eq_true, Bool.true_eq_false, qk_i, qk_r, qk_n, Option.toList_some, Option.toList_none, List.cons_append, List.nil_append, true_and, and_true, true_or, or_true, eq_self, if_true, if_false, q_b1, q_b2, c_A, c_R, c_O, c_M, c_H1, c_H8, c_H15, nI_1, nI_2, nI_3, j1, j2, j3]
  exact ih _ ⟨H, n, h, g, tt⟩
theorem law_c25 (hL : L ≤ 2048) (hi : i + 4 ≤ L) (v : TT M) (ih : ∀ M', TT M' → q_g 157 (some (L, xs)) Q 842 [some (.ref 1000), some (.ref 0), some (.ref 30), some (.int (nI i))] [] M') : q_g 157 (some (L, xs)) Q 760 [some (.ref 1000), some (.ref 0), some (.ref 30), some (.int (nI i))] [] M := by
  have j1 : q_in (nI (i + 1)) L = true := q_in_L (by omega) hL
  have j2 : q_in (nI (i + 2)) L = true := q_in_L (by omega) hL
  have j3 : q_in (nI (i + 3)) L = true := q_in_L (by omega) hL
  obtain ⟨H, n, h, g, t⟩ := id v
  simp only [gL_law_760, gL_law_761, gL_law_762, gL_law_763, gL_law_764, gL_law_765, gL_law_766, gL_law_767, gL_law_768, gL_law_769, gL_law_770, gL_law_771, gL_law_774, gL_law_775, gL_law_776, gL_law_777, gL_law_778, gL_law_779, gL_law_780, gL_law_781, gL_law_782, gL_law_783, gL_law_784, gL_law_785, gL_law_786, gL_law_789, gL_law_790, ↓reduceIte, Bool.false_eq_true, Bool.true_eq_false, qk_i, qk_r, qk_n, Option.toList_some, Option.toList_none, List.cons_append, List.nil_append, true_and, and_true, true_or, or_true, eq_self, if_true, if_false, q_b1, q_b2, c_A, c_R, c_O, c_M, c_H1, c_H8, c_H15, nI_1, nI_2, nI_3, j1, j2, j3]
  refine w_A_lots (g.vh t.1 c_H1) fun x M1 h1 => ?_
  have t1 := t.q h1
  simp only [gL_law_760, gL_law_761, gL_law_762, gL_law_763, gL_law_764, gL_law_765, gL_law_766, gL_law_767, gL_law_768, gL_law_769, gL_law_770, gL_law_771, gL_law_774, gL_law_775, gL_law_776, gL_law_777, gL_law_778, gL_law_779, gL_law_780, gL_law_781, gL_law_782, gL_law_783, gL_law_784, gL_law_785, gL_law_786, gL_law_789, gL_law_790, ↓reduceIte, Bool.false_eq_true, Bool.true_eq_false, qk_i, qk_r, qk_n, Option.toList_some, Option.toList_none, List.cons_append, List.nil_append, true_and, and_true, true_or, or_true, eq_self, if_true, if_false, q_b1, q_b2, c_A, c_R, c_O, c_M, c_H1, c_H8, c_H15, nI_1, nI_2, nI_3, j1, j2, j3]
  refine w_M_lots (g.vm t1.2.1) fun z M2 h2 => ?_
  simp only [gL_law_760, gL_law_761, gL_law_762, gL_law_763, gL_law_764, gL_law_765, gL_law_766, gL_law_767, gL_law_768, gL_law_769, gL_law_770, gL_law_771, gL_law_774, gL_law_775, gL_law_776, gL_law_777, gL_law_778, gL_law_779, gL_law_780, gL_law_781, gL_law_782, gL_law_783, gL_law_784, gL_law_785, gL_law_786, gL_law_789, gL_law_790, ↓reduceIte, Bool.false_eq_true, Bool.true_eq_false, qk_i, qk_r, qk_n, Option.toList_some, Option.toList_none, List.cons_append, List.nil_append, true_and, and_true, true_or, or_true, eq_self, if_true, if_false, q_b1, q_b2, c_A, c_R, c_O, c_M, c_H1, c_H8, c_H15, nI_1, nI_2, nI_3, j1, j2, j3]
  exact ih M2 ⟨H, n, h, g, t1.m h2⟩
theorem law_c26 (hL : L ≤ 2048) (hi : i + 4 ≤ L) (v : TT M) (ih : ∀ M', TT M' → q_g 157 (some (L, xs)) Q 842 [some (.ref 1000), some (.ref 0), some (.ref 30), some (.int (nI i))] [] M') : q_g 157 (some (L, xs)) Q 793 [some (.ref 1000), some (.ref 0), some (.ref 30), some (.int (nI i))] [] M := by
  have j1 : q_in (nI (i + 1)) L = true := q_in_L (by omega) hL
  have j2 : q_in (nI (i + 2)) L = true := q_in_L (by omega) hL
  have j3 : q_in (nI (i + 3)) L = true := q_in_L (by omega) hL
  obtain ⟨H, n, h, g, t⟩ := id v
  obtain ⟨tt, rm⟩ := T_image g t
  simp only [gL_law_793, gL_law_794, gL_law_797, gL_law_798, gL_law_799, gL_law_802, gL_law_803, ↓reduceIte, Bool.false_eq_true, Bool.true_eq_false, qk_i, qk_r, qk_n, Option.toList_some, Option.toList_none, List.cons_append, List.nil_append, true_and, and_true, true_or, or_true, eq_self, if_true, if_false, q_b1, q_b2, c_A, c_R, c_O, c_M, c_H1, c_H8, c_H15, nI_1, nI_2, nI_3, j1, j2, j3, x_A_image t.1, x_M_image rm]
  exact ih _ ⟨H, n, h, g, tt⟩
theorem law_c27 (hL : L ≤ 2048) (hi : i + 4 ≤ L) (v : TT M) (ih : ∀ M', TT M' → q_g 157 (some (L, xs)) Q 842 [some (.ref 1000), some (.ref 0), some (.ref 30), some (.int (nI i))] [] M') : q_g 157 (some (L, xs)) Q 806 [some (.ref 1000), some (.ref 0), some (.ref 30), some (.int (nI i))] [] M := by
  have j1 : q_in (nI (i + 1)) L = true := q_in_L (by omega) hL
  have j2 : q_in (nI (i + 2)) L = true := q_in_L (by omega) hL
  have j3 : q_in (nI (i + 3)) L = true := q_in_L (by omega) hL
  obtain ⟨H, n, h, g, t⟩ := id v
  rcases t.2.2.1 with ⟨e0, e18⟩ | ⟨e0, e18, G, m, k, g1, r8, rk⟩
  · have e18' : s_ref M (-3) 30 18 = 0 := (congrFun (s_put_ne (by decide)) 18).trans e18
    simp only [gL_law_806, gL_law_807, gL_law_810, gL_law_811, gL_law_812, gL_law_815, gL_law_816, ↓reduceIte, Bool.false_eq_true, Bool.true_eq_false, qk_i, qk_r, qk_n, Option.toList_some, Option.toList_none, List.cons_append, List.nil_append, true_and, and_true, true_or, or_true, eq_self, if_true, if_false, q_b1, q_b2, c_A, c_R, c_O, c_M, c_H1, c_H8, c_H15, nI_1, nI_2, nI_3, j1, j2, j3, x_A_on_no e0, x_M_on_no e18']
    exact ih _ ⟨H, n, h, g, T_ref (w := -3) t⟩
  · obtain ⟨tt, e18', ea⟩ := T_on t e0 e18 g1 r8 rk
    simp only [gL_law_806, gL_law_807, gL_law_810, gL_law_811, gL_law_812, gL_law_815, gL_law_816, ↓reduceIte, Bool.false_eq_true, Bool.true_eq_false, qk_i, qk_r, qk_n, Option.toList_some, Option.toList_none, List.cons_append, List.nil_append, true_and, and_true, true_or, or_true, eq_self, if_true, if_false, q_b1, q_b2, c_A, c_R, c_O, c_M, c_H1, c_H8, c_H15, nI_1, nI_2, nI_3, j1, j2, j3, x_A_on_yes e0, x_M_on_yes e18', ea]
    exact ih _ ⟨G, m, k, g1, tt⟩
theorem law_c28 (hL : L ≤ 2048) (hi : i + 4 ≤ L) (v : TT M) (ih : ∀ M', TT M' → q_g 157 (some (L, xs)) Q 842 [some (.ref 1000), some (.ref 0), some (.ref 30), some (.int (nI i))] [] M') : q_g 157 (some (L, xs)) Q 819 [some (.ref 1000), some (.ref 0), some (.ref 30), some (.int (nI i))] [] M := by
  have j1 : q_in (nI (i + 1)) L = true := q_in_L (by omega) hL
  have j2 : q_in (nI (i + 2)) L = true := q_in_L (by omega) hL
  have j3 : q_in (nI (i + 3)) L = true := q_in_L (by omega) hL
  obtain ⟨H, n, h, g, t⟩ := id v
  simp only [gL_law_819, gL_law_820, gL_law_821, gL_law_822, gL_law_823, gL_law_824, gL_law_825, gL_law_828, gL_law_829, gL_law_830, gL_law_831, gL_law_832, gL_law_833, gL_law_834, gL_law_835, gL_law_838, gL_law_839, ↓reduceIte, Bool.false_eq_true, Bool.true_eq_false, qk_i, qk_r, qk_n, Option.toList_some, Option.toList_none, List.cons_append, List.nil_append, true_and, and_true, true_or, or_true, eq_self, if_true, if_false, q_b1, q_b2, c_A, c_R, c_O, c_M, c_H1, c_H8, c_H15, nI_1, nI_2, nI_3, j1, j2, j3]
  refine w_A_count (g.vh t.1 c_H1) fun x M1 h1 => ?_
  have t1 := t.q h1
  simp only [gL_law_819, gL_law_820, gL_law_821, gL_law_822, gL_law_823, gL_law_824, gL_law_825, gL_law_828, gL_law_829, gL_law_830, gL_law_831, gL_law_832, gL_law_833, gL_law_834, gL_law_835, gL_law_838, gL_law_839, ↓reduceIte, Bool.false_eq_true, Bool.true_eq_false, qk_i, qk_r, qk_n, Option.toList_some, Option.toList_none, List.cons_append, List.nil_append, true_and, and_true, true_or, or_true, eq_self, if_true, if_false, q_b1, q_b2, c_A, c_R, c_O, c_M, c_H1, c_H8, c_H15, nI_1, nI_2, nI_3, j1, j2, j3]
  refine w_M_count (g.vm t1.2.1) fun z M2 h2 => ?_
  simp only [gL_law_819, gL_law_820, gL_law_821, gL_law_822, gL_law_823, gL_law_824, gL_law_825, gL_law_828, gL_law_829, gL_law_830, gL_law_831, gL_law_832, gL_law_833, gL_law_834, gL_law_835, gL_law_838, gL_law_839, ↓reduceIte, Bool.false_eq_true, Bool.true_eq_false, qk_i, qk_r, qk_n, Option.toList_some, Option.toList_none, List.cons_append, List.nil_append, true_and, and_true, true_or, or_true, eq_self, if_true, if_false, q_b1, q_b2, c_A, c_R, c_O, c_M, c_H1, c_H8, c_H15, nI_1, nI_2, nI_3, j1, j2, j3]
  exact ih M2 ⟨H, n, h, g, t1.m h2⟩
theorem law_le (hL : L ≤ 2048) (hi : i ≤ 2052) : (Int32.ofNat L - 4 < nI i) = (L < i + 4) := by
  apply propext
  rcases Nat.lt_or_ge L 4 with h | h
  · have key : ∀ l, l < 4 → Int32.ofNat l - 4 < 0 := by decide +kernel
    have h0 := key L h
    constructor
    · intro _
      omega
    · intro _
      exact Int32.lt_of_lt_of_le h0 (nI_pos' (by omega))
  · obtain ⟨l, rfl⟩ : ∃ l, L = l + 4 := ⟨L - 4, by omega⟩
    have e : Int32.ofNat (l + 4) - 4 = nI l := by
      show nI (l + 4) - 4 = nI l
      rw [← nI_4]
      exact Int32.add_sub_cancel _ _
    rw [e, nI_ltI (by omega) (by omega)]
    omega
theorem law_sw (x : Int32) : ∃ k, k < 32 ∧ x &&& 31 = nI k := by
  obtain ⟨n, hn, rfl⟩ := wb_of32 x
  exact ⟨n &&& 31, Nat.lt_of_le_of_lt Nat.and_le_right (by omega), nx_and n 31⟩
theorem law_loop (hL : L ≤ 2048) (hQ : ∀ M, Q (some (.int 1)) M) : ∀ (m i : Nat) (M : q_M), L + 4 ≤ i + 4 * m → i ≤ 2052 → TT M → q_g 157 (some (L, xs)) Q 18 [some (.ref 1000), some (.ref 0), some (.ref 30), some (.int (nI i))] [] M := by
  intro m
  induction m with
  | zero =>
    intro i M hm hi v
    have h1 : L < i + 4 := by omega
    rw [gL_law_18]
    simp only [gL_law_19, gL_law_20, gL_law_21, gL_law_22, gL_law_23, gL_law_26, gL_law_27, gL_law_28, gL_law_29, gL_law_31, ↓reduceIte, Bool.false_eq_true, Bool.true_eq_false, qk_i, qk_r, qk_n, Option.toList_some, Option.toList_none, List.cons_append, List.nil_append, true_and, and_true, true_or, or_true, eq_self, if_true, if_false, q_b1, q_b2, c_A, c_R, c_O, c_M, c_H1, c_H8, c_H15, law_le hL hi, h1, gL_law_848, gL_law_849]
    exact hQ _
  | succ m ih =>
    intro i M hm hi v
    rw [gL_law_18]
    by_cases h1 : L < i + 4
    · simp only [gL_law_19, gL_law_20, gL_law_21, gL_law_22, gL_law_23, gL_law_26, gL_law_27, gL_law_28, gL_law_29, gL_law_31, ↓reduceIte, Bool.false_eq_true, Bool.true_eq_false, qk_i, qk_r, qk_n, Option.toList_some, Option.toList_none, List.cons_append, List.nil_append, true_and, and_true, true_or, or_true, eq_self, if_true, if_false, q_b1, q_b2, c_A, c_R, c_O, c_M, c_H1, c_H8, c_H15, law_le hL hi, h1, gL_law_848, gL_law_849]
      exact hQ _
    · have j0 : q_in (nI i) L = true := q_in_L (by omega) hL
      obtain ⟨k, hk, ek⟩ := law_sw (xs (nI i).toNatClampNeg)
      have ih2 : ∀ M', TT M' → q_g 157 (some (L, xs)) Q 842 [some (.ref 1000), some (.ref 0), some (.ref 30), some (.int (nI i))] [] M' := fun M' v' => by
        simp only [gL_law_842, gL_law_845, ↓reduceIte, Bool.false_eq_true, Bool.true_eq_false, qk_i, qk_r, qk_n, Option.toList_some, Option.toList_none, List.cons_append, List.nil_append, true_and, and_true, true_or, or_true, eq_self, if_true, if_false, q_b1, q_b2, c_A, c_R, c_O, c_M, c_H1, c_H8, c_H15, nI_4]
        exact ih (i + 4) M' (by omega) (by omega) v'
      simp only [gL_law_19, gL_law_20, gL_law_21, gL_law_22, gL_law_23, gL_law_26, gL_law_27, gL_law_28, gL_law_29, gL_law_31, ↓reduceIte, Bool.false_eq_true, Bool.true_eq_false, qk_i, qk_r, qk_n, Option.toList_some, Option.toList_none, List.cons_append, List.nil_append, true_and, and_true, true_or, or_true, eq_self, if_true, if_false, q_b1, q_b2, c_A, c_R, c_O, c_M, c_H1, c_H8, c_H15, law_le hL hi, h1, j0, ek]
      match k, hk with
      | 0, _ => exact Eq.mpr (gL_law_32_0 (Q := Q) (M := M)) (law_c0 hL (by omega) v ih2)
      | 1, _ => exact Eq.mpr (gL_law_32_1 (Q := Q) (M := M)) (law_c1 hL (by omega) v ih2)
      | 2, _ => exact Eq.mpr (gL_law_32_2 (Q := Q) (M := M)) (law_c2 hL (by omega) v ih2)
      | 3, _ => exact Eq.mpr (gL_law_32_3 (Q := Q) (M := M)) (law_c3 hL (by omega) v ih2)
      | 4, _ => exact Eq.mpr (gL_law_32_4 (Q := Q) (M := M)) (law_c4 hL (by omega) v ih2)
      | 5, _ => exact Eq.mpr (gL_law_32_5 (Q := Q) (M := M)) (law_c5 hL (by omega) v ih2)
      | 6, _ => exact Eq.mpr (gL_law_32_6 (Q := Q) (M := M)) (law_c6 hL (by omega) v ih2)
      | 7, _ => exact Eq.mpr (gL_law_32_7 (Q := Q) (M := M)) (law_c7 hL (by omega) v ih2)
      | 8, _ => exact Eq.mpr (gL_law_32_8 (Q := Q) (M := M)) (law_c8 hL (by omega) v ih2)
      | 9, _ => exact Eq.mpr (gL_law_32_9 (Q := Q) (M := M)) (law_c9 hL (by omega) v ih2)
      | 10, _ => exact Eq.mpr (gL_law_32_10 (Q := Q) (M := M)) (law_c10 hL (by omega) v ih2)
      | 11, _ => exact Eq.mpr (gL_law_32_11 (Q := Q) (M := M)) (law_c11 hL (by omega) v ih2)
      | 12, _ => exact Eq.mpr (gL_law_32_12 (Q := Q) (M := M)) (law_c12 hL (by omega) v ih2)
      | 13, _ => exact Eq.mpr (gL_law_32_13 (Q := Q) (M := M)) (law_c13 hL (by omega) v ih2)
      | 14, _ => exact Eq.mpr (gL_law_32_14 (Q := Q) (M := M)) (law_c14 hL (by omega) v ih2)
      | 15, _ => exact Eq.mpr (gL_law_32_15 (Q := Q) (M := M)) (law_c15 hL (by omega) v ih2)
      | 16, _ => exact Eq.mpr (gL_law_32_16 (Q := Q) (M := M)) (law_c16 hL (by omega) v ih2)
      | 17, _ => exact Eq.mpr (gL_law_32_17 (Q := Q) (M := M)) (law_c17 hL (by omega) v ih2)
      | 18, _ => exact Eq.mpr (gL_law_32_18 (Q := Q) (M := M)) (law_c18 hL (by omega) v ih2)
      | 19, _ => exact Eq.mpr (gL_law_32_19 (Q := Q) (M := M)) (law_c19 hL (by omega) v ih2)
      | 20, _ => exact Eq.mpr (gL_law_32_20 (Q := Q) (M := M)) (law_c20 hL (by omega) v ih2)
      | 21, _ => exact Eq.mpr (gL_law_32_21 (Q := Q) (M := M)) (law_c21 hL (by omega) v ih2)
      | 22, _ => exact Eq.mpr (gL_law_32_22 (Q := Q) (M := M)) (law_c22 hL (by omega) v ih2)
      | 23, _ => exact Eq.mpr (gL_law_32_23 (Q := Q) (M := M)) (law_c23 hL (by omega) v ih2)
      | 24, _ => exact Eq.mpr (gL_law_32_24 (Q := Q) (M := M)) (law_c24 hL (by omega) v ih2)
      | 25, _ => exact Eq.mpr (gL_law_32_25 (Q := Q) (M := M)) (law_c25 hL (by omega) v ih2)
      | 26, _ => exact Eq.mpr (gL_law_32_26 (Q := Q) (M := M)) (law_c26 hL (by omega) v ih2)
      | 27, _ => exact Eq.mpr (gL_law_32_27 (Q := Q) (M := M)) (law_c27 hL (by omega) v ih2)
      | 28, _ => exact Eq.mpr (gL_law_32_28 (Q := Q) (M := M)) (law_c28 hL (by omega) v ih2)
      | 29, _ => exact Eq.mpr (gL_law_32_d (Q := Q) (M := M) (by decide)) (ih2 M v)
      | 30, _ => exact Eq.mpr (gL_law_32_d (Q := Q) (M := M) (by decide)) (ih2 M v)
      | 31, _ => exact Eq.mpr (gL_law_32_d (Q := Q) (M := M) (by decide)) (ih2 M v)
      | k + 32, h => exact absurd h (by omega)
end LAW
