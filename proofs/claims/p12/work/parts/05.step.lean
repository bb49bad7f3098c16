/-! ONE STEP of the pure machine is one step of the machine -/
theorem q_fin_gd {C : q_C} {Q : q_R} {G : q_G} {M : q_M} {b : Bool} {r : q_Res} (h : q_fin C Q G M (q_gd b r)) : b = true ∧ q_fin C Q G M r := by
  cases b with
  | false => exact False.elim h
  | true => exact ⟨rfl, h⟩
theorem q_lookup_mem {α : Type} {i : Nat} {e : α} : ∀ {l : List (Nat × α)}, l.lookup i = some e → (i, e) ∈ l
  | [], h => by simp at h
  | (k, v) :: r, h => by
    simp only [List.lookup] at h
    split at h
    · rename_i hk
      cases h
      rw [eq_of_beq hk]
      exact List.mem_cons_self
    · exact List.mem_cons_of_mem _ (q_lookup_mem h)
theorem q_fok {y i ci j : Nat} (h : q_fld y i = some (ci, j)) : ∃ C T N, vwCl[ci]? = some (C, T, N) ∧ j < N ∧ Cond.fieldLink (q_own y) i (T j).1 (T j).2.1 (T j).2.2.1 ∈ q_T := by
  unfold q_fld at h
  obtain ⟨e, h1, h2⟩ := Option.map_eq_some_iff.mp h
  cases h2
  have hc := List.all_eq_true.mp (q_fok_all (q_cn y)) _ (q_lookup_mem h1)
  unfold q_fchk at hc
  split at hc
  · rename_i r hr
    obtain ⟨C, T, N⟩ := r
    simp only [Bool.and_eq_true, decide_eq_true_eq] at hc
    exact ⟨C, T, N, hr, hc.1, q_T_in hc.2 (by first | rfl | simp [q_gw, goodWord, Cond.onTables, Cond.keeps, Cond.steady])⟩
  · cases hc
theorem q_isC_lay {ci k : Nat} (h : q_isC ci k = true) : ∃ fs, q_lay[k]? = some (.inr (ci, fs)) ∧ fs.map Option.isSome = q_shl ci := by
  unfold q_isC at h
  split at h
  · rename_i c fs hl
    have hc := eq_of_beq h
    subst hc
    have h1 := List.all_eq_true.mp q_lay_sh _ (List.mem_of_getElem? hl)
    simp only [decide_eq_true_eq] at h1
    exact ⟨fs, hl, h1⟩
  · cases h
theorem q_fs_I {ci k j : Nat} (h : q_isC ci k = true) (hs : q_sh ci j = some false) : ∃ fs, q_lay[k]? = some (.inr (ci, fs)) ∧ fs[j]? = some none := by
  obtain ⟨fs, h1, h2⟩ := q_isC_lay h
  refine ⟨fs, h1, ?_⟩
  unfold q_sh at hs
  rw [← h2, List.getElem?_map] at hs
  cases hj : fs[j]? with
  | none => rw [hj] at hs; cases hs
  | some o => cases o with
    | none => rfl
    | some a => rw [hj] at hs; cases hs
theorem q_fs_R {ci k j : Nat} (h : q_isC ci k = true) (hs : q_sh ci j = some true) : ∃ fs, q_lay[k]? = some (.inr (ci, fs)) ∧ fs[j]? = some (some (q_rf k j)) := by
  obtain ⟨fs, h1, h2⟩ := q_isC_lay h
  refine ⟨fs, h1, ?_⟩
  unfold q_sh at hs
  rw [← h2, List.getElem?_map] at hs
  cases hj : fs[j]? with
  | none => rw [hj] at hs; cases hs
  | some o => cases o with
    | none => rw [hj] at hs; cases hs
    | some a => simp only [q_rf, h1, hj]
def q_cokN (o : Option Nat) (k : Nat) : Nat := match o with
  | some _ => k - 1
  | none => k
def q_cokP (t k : Nat) (o : Option Nat) : Prop := match o with
  | some ci => 0 < k ∧ (vwCl[ci]?).map (fun r => r.1) = some (q_name t).cls ∧ Cond.instanceMethod (q_name t) ∈ q_T ∧ Cond.selects (q_name t).cls (q_name t) (q_name t) ∈ q_T
  | none => Cond.static (q_name t) ∈ q_T
theorem q_cok {y i t k : Nat} {o : Option Nat} (h : q_tgt y i = some (t, k, o)) : t < q_nM ∧ (parseMethodDescriptor (q_name t).desc).map (fun d => d.parameters.length) = some (q_cokN o k) ∧ Cond.methodLink (q_own y) i (q_name t) ∈ q_T ∧ Cond.initialized (q_name t).cls ∈ q_T ∧ q_cokP t k o := by
  unfold q_tgt at h
  obtain ⟨e, h1, h2⟩ := Option.map_eq_some_iff.mp h
  obtain ⟨⟨t', k', o'⟩, ps⟩ := e
  cases h2
  have hc := List.all_eq_true.mp (q_cok_all (q_cn y)) _ (q_lookup_mem h1)
  unfold q_cchk at hc
  simp only [Bool.and_eq_true, decide_eq_true_eq] at hc
  obtain ⟨a1, a2, a3, a4, a5⟩ := hc
  refine ⟨a1, a2, q_T_in a3 (by first | rfl | simp [q_gw, goodWord, Cond.onTables, Cond.keeps, Cond.steady]), q_T_in a4 (by first | rfl | simp [q_gw, goodWord, Cond.onTables, Cond.keeps, Cond.steady]), ?_⟩
  cases o with
  | none =>
    simp only [decide_eq_true_eq] at a5
    exact q_T_in a5 (by first | rfl | simp [q_gw, goodWord, Cond.onTables, Cond.keeps, Cond.steady])
  | some ci =>
    simp only [Bool.and_eq_true, decide_eq_true_eq] at a5
    exact ⟨a5.1, a5.2.1, q_T_in a5.2.2.1 (by first | rfl | simp [q_gw, goodWord, Cond.onTables, Cond.keeps, Cond.steady]), q_T_in a5.2.2.2 (by first | rfl | simp [q_gw, goodWord, Cond.onTables, Cond.keeps, Cond.steady])⟩
def q_sokP (y i : Nat) (v : Value) : Prop := match v with
  | .int v => Cond.constant (q_own y) i v ∈ q_T
  | .long v => Cond.constantLong (q_own y) i v ∈ q_T
  | _ => False
theorem q_sok {y i : Nat} {v : Value} (h : q_ldc y i = some v) : q_sokP y i v := by
  unfold q_ldc at h
  obtain ⟨e, h1, h2⟩ := Option.map_eq_some_iff.mp h
  obtain ⟨v', ps⟩ := e
  dsimp only at h2
  subst h2
  have hc := List.all_eq_true.mp (q_sok_all (q_cn y)) _ (q_lookup_mem h1)
  unfold q_schk at hc
  dsimp only at hc
  unfold q_sokP
  cases v' with
  | int v =>
    simp only [decide_eq_true_eq] at hc
    exact q_T_in hc (by first | rfl | simp [q_gw, goodWord, Cond.onTables, Cond.keeps, Cond.steady])
  | long v =>
    simp only [decide_eq_true_eq] at hc
    exact q_T_in hc (by first | rfl | simp [q_gw, goodWord, Cond.onTables, Cond.keeps, Cond.steady])
  | _ => cases hc
theorem q_plainC : ∀ n, n < 10 → plainName (q_ownC n) = true ∧ q_ownC n ≠ "java/lang/invoke/MethodHandle" ∧ q_ownC n ≠ "java/lang/invoke/VarHandle" := by
  intro n hn
  match n, hn with
  | 0, _ => exact ⟨by decide, by decide, by decide⟩
  | 1, _ => exact ⟨by decide, by decide, by decide⟩
  | 2, _ => exact ⟨by decide, by decide, by decide⟩
  | 3, _ => exact ⟨by decide, by decide, by decide⟩
  | 4, _ => exact ⟨by decide, by decide, by decide⟩
  | 5, _ => exact ⟨by decide, by decide, by decide⟩
  | 6, _ => exact ⟨by decide, by decide, by decide⟩
  | 7, _ => exact ⟨by decide, by decide, by decide⟩
  | 8, _ => exact ⟨by decide, by decide, by decide⟩
  | 9, _ => exact ⟨by decide, by decide, by decide⟩
  | n + 10, h => exact absurd h (by omega)
theorem q_plainK : ∀ t, t < q_nM → q_cn t < 10 ∧ (q_name t).cls = q_ownC (q_cn t) := by decide +kernel
theorem q_plain (t : Nat) (ht : t < q_nM) : plainName (q_name t).cls = true ∧ (q_name t).cls ≠ "java/lang/invoke/MethodHandle" ∧ (q_name t).cls ≠ "java/lang/invoke/VarHandle" := by
  rw [(q_plainK t ht).2]
  exact q_plainC _ (q_plainK t ht).1
theorem q_in_vp {i : Int32} {n : Nat} (h : q_in i n = true) : vp_in i n := by
  simp only [q_in, decide_eq_true_eq] at h
  exact h
/-! the contracts -/
def q_At (D : va_G) (cA : ClassId) (ad : Nat → Nat) (M : q_M) (U : State) : Prop := va_P D vwCl (q_wd ad cA M) U.heap ∧ va_K D vwCl [(cA, .int)] U
def q_rm (t : Nat) : Room := { frames := q_fr t, cells := 0, slots := 0, locals := q_lo t }
def q_ws (t : Nat) : List Cond := .code (q_name t) (q_code t) (q_maxL t) (q_ret t) :: q_T
def q_Qc (D : va_G) (cA : ClassId) (ad : Nat → Nat) (R : q_R) : Array Value → State → Outcome → State → Prop := fun _ st o u =>
  (∃ v M', o = .returned (v.map (q_rho ad)) ∧ R v M' ∧ q_At D cA ad M' u) ∧ va_F (q_A ad) st u
def q_Met (l : Launch) (D : va_G) (cA : ClassId) (ad : Nat → Nat) (t : Nat) (a : List Value) (M : q_M) (R : q_R) : Prop :=
  Met l (q_name t) (q_ws t) (q_rm t) (va_Pc (a.map (q_rho ad)) (q_At D cA ad M)) (q_Qc D cA ad R) 0 0 (q_A ad)
def q_MetC (l : Launch) (D : va_G) (cA : ClassId) (ad : Nat → Nat) : q_C := fun t a M R => t < q_nM → ∃ R0 : q_R, (∀ v M', R0 v M' → R v M') ∧ q_Met l D cA ad t a M R0
theorem q_MetC_mono {l : Launch} {D : va_G} {cA : ClassId} {ad : Nat → Nat} : q_mono (q_MetC l D cA ad) := by
  intro t a M R R' hR h ht
  obtain ⟨R0, h1, h2⟩ := h ht
  exact ⟨R0, fun v M' q => hR v M' (h1 v M' q), h2⟩
/-! what an instruction that went well had on its stack -/
section QI
variable {C : q_C} {Q : q_R} {G : q_G} {M : q_M} {n pc : Nat} {L : q_L} {st : List Value}
theorem q_ii_inv {f : Int32 → Int32 → Int32} (h : q_fin C Q G M (q_ii f n pc L st M)) : ∃ a b r, st = .int b :: .int a :: r ∧ n = 1 ∧ G (pc + 1) L (.int (f a b) :: r) M := by
  unfold q_ii at h
  split at h
  · obtain ⟨hn, h⟩ := q_fin_gd h
    exact ⟨_, _, _, rfl, eq_of_beq hn, h⟩
  · exact False.elim h
theorem q_ll_inv {f : Int64 → Int64 → Int64} (h : q_fin C Q G M (q_ll f n pc L st M)) : ∃ a b r, st = .long b :: .long a :: r ∧ n = 1 ∧ G (pc + 1) L (.long (f a b) :: r) M := by
  unfold q_ll at h
  split at h
  · obtain ⟨hn, h⟩ := q_fin_gd h
    exact ⟨_, _, _, rfl, eq_of_beq hn, h⟩
  · exact False.elim h
theorem q_iload_inv {k n1 : Nat} (h : q_fin C Q G M (q_iload k n1 n pc L st M)) : ∃ x, L[k]? = some (some (.int x)) ∧ n = n1 ∧ G (pc + n1) L (.int x :: st) M := by
  unfold q_iload at h
  split at h
  · obtain ⟨hn, h⟩ := q_fin_gd h
    exact ⟨_, by assumption, eq_of_beq hn, h⟩
  · exact False.elim h
theorem q_lload_inv {k n1 : Nat} (h : q_fin C Q G M (q_lload k n1 n pc L st M)) : ∃ x, L[k]? = some (some (.long x)) ∧ n = n1 ∧ G (pc + n1) L (.long x :: st) M := by
  unfold q_lload at h
  split at h
  · obtain ⟨hn, h⟩ := q_fin_gd h
    exact ⟨_, by assumption, eq_of_beq hn, h⟩
  · exact False.elim h
theorem q_aload_inv {k n1 : Nat} (h : q_fin C Q G M (q_aload k n1 n pc L st M)) : ∃ x, L[k]? = some (some (.ref x)) ∧ n = n1 ∧ G (pc + n1) L (.ref x :: st) M := by
  unfold q_aload at h
  split at h
  · obtain ⟨hn, h⟩ := q_fin_gd h
    exact ⟨_, by assumption, eq_of_beq hn, h⟩
  · exact False.elim h
theorem q_istore_inv {k n1 : Nat} (h : q_fin C Q G M (q_istore k n1 n pc L st M)) : ∃ x r, st = .int x :: r ∧ n = n1 ∧ k < L.length ∧ G (pc + n1) (q_set1 L k (.int x)) r M := by
  unfold q_istore at h
  split at h
  · obtain ⟨hn, h⟩ := q_fin_gd h
    simp only [Bool.and_eq_true, decide_eq_true_eq] at hn
    exact ⟨_, _, rfl, eq_of_beq hn.1, hn.2, h⟩
  · exact False.elim h
theorem q_lstore_inv {k n1 : Nat} (h : q_fin C Q G M (q_lstore k n1 n pc L st M)) : ∃ x r, st = .long x :: r ∧ n = n1 ∧ k + 1 < L.length ∧ G (pc + n1) (q_unset (q_set1 L k (.long x)) (k + 1)) r M := by
  unfold q_lstore at h
  split at h
  · obtain ⟨hn, h⟩ := q_fin_gd h
    simp only [Bool.and_eq_true, decide_eq_true_eq] at hn
    exact ⟨_, _, rfl, eq_of_beq hn.1, hn.2, h⟩
  · exact False.elim h
theorem q_astore_inv {k n1 : Nat} (h : q_fin C Q G M (q_astore k n1 n pc L st M)) : ∃ x r, st = .ref x :: r ∧ n = n1 ∧ k < L.length ∧ G (pc + n1) (q_set1 L k (.ref x)) r M := by
  unfold q_astore at h
  split at h
  · obtain ⟨hn, h⟩ := q_fin_gd h
    simp only [Bool.and_eq_true, decide_eq_true_eq] at hn
    exact ⟨_, _, rfl, eq_of_beq hn.1, hn.2, h⟩
  · exact False.elim h
theorem q_iinc_inv {k : Nat} {v : Int} (h : q_fin C Q G M (q_iinc k v n pc L st M)) : ∃ x, L[k]? = some (some (.int x)) ∧ n = 3 ∧ G (pc + 3) (q_set1 L k (.int (x + Int32.ofInt v))) st M := by
  unfold q_iinc at h
  split at h
  · obtain ⟨hn, h⟩ := q_fin_gd h
    exact ⟨_, by assumption, eq_of_beq hn, h⟩
  · exact False.elim h
theorem q_br_inv {b : Bool} {off : Int} {r : List Value} (h : q_fin C Q G M (q_br b off n pc L r M)) : n = 3 ∧ (pc : Int) + off = (q_to pc off : Int) ∧ (b = true → G (q_to pc off) L r M) ∧ (b = false → G (pc + 3) L r M) := by
  unfold q_br at h
  obtain ⟨hn, h⟩ := q_fin_gd h
  simp only [Bool.and_eq_true, q_tok, decide_eq_true_eq] at hn
  refine ⟨eq_of_beq hn.1, ?_, fun e => ?_, fun e => ?_⟩
  · unfold q_to
    omega
  · subst e
    exact h
  · subst e
    exact h
end QI
theorem q_cat_le (st : List Value) : (st.map fun v => v.category).sum ≤ 2 * st.length := by
  induction st with
  | nil => simp
  | cons v r ih =>
    simp only [List.map_cons, List.sum_cons, List.length_cons]
    have : v.category ≤ 2 := by cases v <;> simp [Value.category]
    omega
theorem q_cat_rho (ad : Nat → Nat) (st : List Value) : ((st.map (q_rho ad)).map fun v => v.category).sum = (st.map fun v => v.category).sum := by
  induction st with
  | nil => rfl
  | cons v r ih => simp only [List.map_cons, List.sum_cons, q_rho_cat, ih]
section QS
variable {p : Program} {l : Launch} {e : Env} {R : Room} {s : State} {m : MethodId} {args : Array Value} {below : List Frame} {meth : Method} {c : Code} {cells slots : Nat} {Q : State → Prop} {D : va_G} {cA : ClassId} {ad : Nat → Nat} {y : Nat} {X : q_X} {Rq : q_R} {A : Nat → Prop} {H0 : Heap}
theorem q_callW {H : Heap} {locs : List Loc} {pc : Nat} {ls : Array Slot} {st0 rest : List Value} {Rc : q_R} (hr : va_Run p l e R s m args below meth c H locs cells slots 0 0 (F0 m pc ls st0) rest (q_Qc D cA ad Rc args) (q_A ad)) (hS : va_S A H0 H locs) (hA : ∀ q, q_A ad q → A q)
    (kk : ∀ (v : Option Value) (M' : q_M) (H1 : Heap) (locs1 : List Loc), Rc v M' → va_P D vwCl (q_wd ad cA M') H1 → va_S A H0 H1 locs1 → W p l e R s m args below meth c H1 locs1 cells slots Q (F0 m (pc + 3) ls ((v.map (q_rho ad)).toList ++ rest))) : W p l e R s m args below meth c H locs cells slots Q (F0 m pc ls st0) := by
  intro T hT X
  obtain ⟨v, st₀, t, T', L, h0, X', hL, e1, e2, ⟨⟨v', M', hv, hR, hAt⟩, hz, hk⟩, st⟩ := hr T hT X
  have hv' : v = v'.map (q_rho ad) := Outcome.returned.inj hv
  subst hv'
  rw [h0] at hz hk
  obtain ⟨t2, a1, b1⟩ := kk v' M' T'.heap (locs ++ L) hR (by rw [e1]; exact hAt.1)
    ⟨Nat.le_trans hS.1 (by rw [e1]; exact hz), fun q h1 h2 => by rw [e1, hk q (Nat.lt_of_lt_of_le h1 hS.1) (fun z => h2 (hA q z))]; exact hS.2.1 q h1 h2, fun q hq => by
      rcases List.mem_append.mp hq with h | h
      · exact hS.2.2 q h
      · exact hA _ (hL q h)⟩ T' rfl X'
  exact ⟨t2, st t2 a1, b1⟩
def q_Go (p : Program) (l : Launch) (e : Env) (R : Room) (s : State) (m : MethodId) (args : Array Value) (below : List Frame) (meth : Method) (c : Code) (cells slots : Nat) (Q : State → Prop) (D : va_G) (cA : ClassId) (ad : Nat → Nat) (y : Nat) (A : Nat → Prop) (H0 : Heap) : q_G := fun pc L st M =>
  ∀ (H : Heap) (locs : List Loc) (ls : Array Slot), va_P D vwCl (q_wd ad cA M) H → va_S A H0 H locs → q_lv ad ls (q_maxL y) L → W p l e R s m args below meth c H locs cells slots Q (F0 m pc ls (st.map (q_rho ad)))
def q_retok (y pc : Nat) (v : Option Value) : Prop := match v with
  | some (.int x) => decode (q_code y) pc = .ok (.ireturn, 1) ∧ (q_ret y = some .int ∨ (q_ret y = some .boolean ∧ (x = 0 ∨ x = 1)))
  | some (.long _) => decode (q_code y) pc = .ok (.lreturn, 1) ∧ q_ret y = some .long
  | none => decode (q_code y) pc = .ok (.return_, 1) ∧ q_ret y = none
  | _ => False
theorem q_blind {t : Nat} {a : List Value} {M : q_M} : FrameBlind (va_Pc (a.map (q_rho ad)) (q_At D cA ad M)) :=
  fun _ U g mk q => ⟨q.1, q.2.1, va_K.moved (u := U) (U := U.calling g mk _) (Vm.Alike.refl U.vm) q.2.2⟩
set_option maxHeartbeats 4000000 in
theorem q_step (hx : p.tables.exec = Jvm.exec) (hb : c.code = q_code y) (hml : c.maxLocals = q_maxL y) (hown : s.vm.findClass (q_own y) = some m.cls) (hts : ∀ w ∈ q_T, w.before args s = true)
    (hinj : ∀ i j, i < q_lay.length → j < q_lay.length → ad i = ad j → i = j) (hA : ∀ k, k < q_lay.length → A (ad k)) (hK : va_K D vwCl [(cA, .int)] s)
    (hR : q_fr y ≤ R.frames ∧ q_lo y ≤ R.locals) (hcs : cells ≤ R.cells ∧ slots ≤ R.slots)
    (hX : ∀ n f, X = some (n, f) → va_X (ad 1000) n f s H0 ∧ ad 1000 < H0.size ∧ ¬ A (ad 1000))
    (hret : ∀ (H : Heap) (locs : List Loc) (M : q_M) (v : Option Value) (pc : Nat) (ls : Array Slot), Rq v M → va_P D vwCl (q_wd ad cA M) H → va_S A H0 H locs → q_retok y pc v → W p l e R s m args below meth c H locs cells slots Q (F0 m pc ls (v.map (q_rho ad)).toList)) :
    ∀ pc L st M, q_at (q_MetC l D cA ad) y X Rq (q_Go p l e R s m args below meth c cells slots Q D cA ad y A H0) pc L st M → q_Go p l e R s m args below meth c cells slots Q D cA ad y A H0 pc L st M := by
  intro pc L st M h H locs ls hP hS hl
  unfold q_at at h
  have hAq : ∀ q, q_A ad q → A q := fun q hq => by
    obtain ⟨k, h1, h2⟩ := hq
    rw [h2]
    exact hA k h1
  have hD : va_D A (q_wd ad cA M) := q_wd_D hinj hA
  cases hd : decode (q_code y) pc with
  | error _ => rw [hd] at h; exact False.elim h
  | ok q =>
  obtain ⟨i, n⟩ := q
  rw [hd] at h
  dsimp only at h
  cases i with
  | iconst v =>
    obtain ⟨hn, hh⟩ := q_fin_gd h
    have hn := eq_of_beq hn
    subst hn
    exact lv_iconst hx hb hd rfl (hh H locs ls hP hS hl)
  | bipush v =>
    obtain ⟨hn, hh⟩ := q_fin_gd h
    have hn := eq_of_beq hn
    subst hn
    exact lv_bipush hx hb hd rfl (hh H locs ls hP hS hl)
  | sipush v =>
    obtain ⟨hn, hh⟩ := q_fin_gd h
    have hn := eq_of_beq hn
    subst hn
    exact lv_sipush hx hb hd rfl (hh H locs ls hP hS hl)
  | lconst v =>
    obtain ⟨hn, hh⟩ := q_fin_gd h
    have hn := eq_of_beq hn
    subst hn
    exact lv_lconst hx hb hd rfl (hh H locs ls hP hS hl)
  | ldc k =>
    simp only [q_exec] at h
    split at h
    · rename_i v hv
      obtain ⟨hn, hh⟩ := q_fin_gd h
      have hn := eq_of_beq hn
      subst hn
      exact lv_ldc hx hb hown (hts _ (q_sok hv)) hd (hh H locs ls hP hS hl)
    · exact False.elim h
  | ldc_w k =>
    simp only [q_exec] at h
    split at h
    · rename_i v hv
      obtain ⟨hn, hh⟩ := q_fin_gd h
      have hn := eq_of_beq hn
      subst hn
      exact lv_ldcw hx hb hown (hts _ (q_sok hv)) hd (hh H locs ls hP hS hl)
    · exact False.elim h
  | ldc2_w k =>
    simp only [q_exec] at h
    split at h
    · rename_i v hv
      obtain ⟨hn, hh⟩ := q_fin_gd h
      have hn := eq_of_beq hn
      subst hn
      exact lv_ldc2 hx hb hown (hts _ (q_sok hv)) hd (hh H locs ls hP hS hl)
    · exact False.elim h
  | iload k =>
    obtain ⟨x, h1, rfl, hh⟩ := q_iload_inv h
    exact lv_iload hx hb hd (hl.get h1) (hh H locs ls hP hS hl)
  | iload_n k =>
    obtain ⟨x, h1, rfl, hh⟩ := q_iload_inv h
    exact lv_iload_n hx hb hd rfl (hl.get h1) (hh H locs ls hP hS hl)
  | lload k =>
    obtain ⟨x, h1, rfl, hh⟩ := q_lload_inv h
    exact lv_lload hx hb hd (hl.get h1) (hh H locs ls hP hS hl)
  | lload_n k =>
    obtain ⟨x, h1, rfl, hh⟩ := q_lload_inv h
    exact lv_lload_n hx hb hd rfl (hl.get h1) (hh H locs ls hP hS hl)
  | aload k =>
    obtain ⟨x, h1, rfl, hh⟩ := q_aload_inv h
    exact lv_aload hx hb hd (hl.get h1) (hh H locs ls hP hS hl)
  | aload_n k =>
    obtain ⟨x, h1, rfl, hh⟩ := q_aload_inv h
    exact lv_aload_n hx hb hd rfl (hl.get h1) (hh H locs ls hP hS hl)
  | istore k =>
    obtain ⟨x, r, rfl, rfl, hk, hh⟩ := q_istore_inv h
    exact lv_istore hx hb hd hl.2 (hl.lt hk) rfl (fun ls' hl' => hh H locs ls' hP hS (hl.set1 hl'))
  | istore_n k =>
    obtain ⟨x, r, rfl, rfl, hk, hh⟩ := q_istore_inv h
    exact lv_istore_n hx hb hd rfl hl.2 (hl.lt hk) rfl (fun ls' hl' => hh H locs ls' hP hS (hl.set1 hl'))
  | lstore k =>
    obtain ⟨x, r, rfl, rfl, hk, hh⟩ := q_lstore_inv h
    exact lv_lstore hx hb hd hl.2 (hl.lt hk) rfl (fun ls' hl' => hh H locs ls' hP hS (hl.set2 hl'))
  | lstore_n k =>
    obtain ⟨x, r, rfl, rfl, hk, hh⟩ := q_lstore_inv h
    exact lv_lstore_n hx hb hd rfl hl.2 (hl.lt hk) rfl (fun ls' hl' => hh H locs ls' hP hS (hl.set2 hl'))
  | astore k =>
    obtain ⟨x, r, rfl, rfl, hk, hh⟩ := q_astore_inv h
    exact lv_astore hx hb hd hl.2 (hl.lt hk) rfl (fun ls' hl' => hh H locs ls' hP hS (hl.set1 hl'))
  | astore_n k =>
    obtain ⟨x, r, rfl, rfl, hk, hh⟩ := q_astore_inv h
    exact lv_astore_n hx hb hd rfl hl.2 (hl.lt hk) rfl (fun ls' hl' => hh H locs ls' hP hS (hl.set1 hl'))
  | iinc k v =>
    obtain ⟨x, h1, rfl, hh⟩ := q_iinc_inv h
    obtain ⟨j, hj⟩ := List.getElem?_of_mem ((q_prs_mem ad L 0 (k, .int x)).mpr ⟨k, .int x, h1, by simp [q_rho]⟩)
    exact lv_iinc hx hb hd hl.2 hj rfl (hl.lt (List.getElem?_eq_some_iff.mp h1).1) rfl (fun ls' hl' => hh H locs ls' hP hS (hl.set1 hl'))
  | iadd =>
    obtain ⟨a, b, r, rfl, rfl, hh⟩ := q_ii_inv h
    exact lv_iadd hx hb hd (hh H locs ls hP hS hl)
  | isub =>
    obtain ⟨a, b, r, rfl, rfl, hh⟩ := q_ii_inv h
    exact lv_isub hx hb hd (hh H locs ls hP hS hl)
  | imul =>
    obtain ⟨a, b, r, rfl, rfl, hh⟩ := q_ii_inv h
    exact lv_imul hx hb hd (hh H locs ls hP hS hl)
  | iand =>
    obtain ⟨a, b, r, rfl, rfl, hh⟩ := q_ii_inv h
    exact lv_iand hx hb hd (hh H locs ls hP hS hl)
  | ior =>
    obtain ⟨a, b, r, rfl, rfl, hh⟩ := q_ii_inv h
    exact lv_ior hx hb hd (hh H locs ls hP hS hl)
  | ixor =>
    obtain ⟨a, b, r, rfl, rfl, hh⟩ := q_ii_inv h
    exact lv_ixor hx hb hd (hh H locs ls hP hS hl)
  | ishl =>
    obtain ⟨a, b, r, rfl, rfl, hh⟩ := q_ii_inv h
    exact lv_ishl hx hb hd (hh H locs ls hP hS hl)
  | ishr =>
    obtain ⟨a, b, r, rfl, rfl, hh⟩ := q_ii_inv h
    exact lv_ishr hx hb hd (hh H locs ls hP hS hl)
  | iushr =>
    obtain ⟨a, b, r, rfl, rfl, hh⟩ := q_ii_inv h
    exact lv_iushr hx hb hd rfl (hh H locs ls hP hS hl)
  | ladd =>
    obtain ⟨a, b, r, rfl, rfl, hh⟩ := q_ll_inv h
    exact lv_ladd hx hb hd (hh H locs ls hP hS hl)
  | lsub =>
    obtain ⟨a, b, r, rfl, rfl, hh⟩ := q_ll_inv h
    exact lv_lsub hx hb hd (hh H locs ls hP hS hl)
  | lmul =>
    obtain ⟨a, b, r, rfl, rfl, hh⟩ := q_ll_inv h
    exact lv_lmul hx hb hd (hh H locs ls hP hS hl)
  | idiv =>
    simp only [q_exec] at h
    split at h
    · obtain ⟨hn, hh⟩ := q_fin_gd h
      simp only [Bool.and_eq_true, Bool.not_eq_true', decide_eq_false_iff_not] at hn
      have hn1 := eq_of_beq hn.1
      subst hn1
      exact lv_idiv hx hb hd hn.2 (hh H locs ls hP hS hl)
    · exact False.elim h
  | irem =>
    simp only [q_exec] at h
    split at h
    · obtain ⟨hn, hh⟩ := q_fin_gd h
      simp only [Bool.and_eq_true, Bool.not_eq_true', decide_eq_false_iff_not] at hn
      have hn1 := eq_of_beq hn.1
      subst hn1
      exact lv_irem hx hb hd hn.2 (hh H locs ls hP hS hl)
    · exact False.elim h
  | ldiv =>
    simp only [q_exec] at h
    split at h
    · obtain ⟨hn, hh⟩ := q_fin_gd h
      simp only [Bool.and_eq_true, Bool.not_eq_true', decide_eq_false_iff_not] at hn
      have hn1 := eq_of_beq hn.1
      subst hn1
      exact lv_ldiv hx hb hd hn.2 (hh H locs ls hP hS hl)
    · exact False.elim h
  | lrem =>
    simp only [q_exec] at h
    split at h
    · obtain ⟨hn, hh⟩ := q_fin_gd h
      simp only [Bool.and_eq_true, Bool.not_eq_true', decide_eq_false_iff_not] at hn
      have hn1 := eq_of_beq hn.1
      subst hn1
      exact lv_lrem hx hb hd hn.2 (hh H locs ls hP hS hl)
    · exact False.elim h
  | ineg =>
    simp only [q_exec] at h
    split at h
    · obtain ⟨hn, hh⟩ := q_fin_gd h
      have hn := eq_of_beq hn
      subst hn
      exact lv_ineg hx hb hd (hh H locs ls hP hS hl)
    · exact False.elim h
  | lcmp =>
    simp only [q_exec] at h
    split at h
    · obtain ⟨hn, hh⟩ := q_fin_gd h
      have hn := eq_of_beq hn
      subst hn
      exact W.lcmp hx hb hd (hh H locs ls hP hS hl)
    · exact False.elim h
  | i2l =>
    simp only [q_exec] at h
    split at h
    · obtain ⟨hn, hh⟩ := q_fin_gd h
      have hn := eq_of_beq hn
      subst hn
      exact lv_i2l hx hb hd rfl (hh H locs ls hP hS hl)
    · exact False.elim h
  | dup =>
    simp only [q_exec] at h
    split at h
    · obtain ⟨hn, hh⟩ := q_fin_gd h
      simp only [Bool.and_eq_true] at hn
      have hn1 := eq_of_beq hn.1
      subst hn1
      exact lv_dup hx hb hd (by rw [q_rho_cat]; exact eq_of_beq hn.2) (hh H locs ls hP hS hl)
    · exact False.elim h
  | pop =>
    simp only [q_exec] at h
    split at h
    · obtain ⟨hn, hh⟩ := q_fin_gd h
      simp only [Bool.and_eq_true] at hn
      have hn1 := eq_of_beq hn.1
      subst hn1
      exact lv_pop hx hb hd (by rw [q_rho_cat]; exact eq_of_beq hn.2) (hh H locs ls hP hS hl)
    · exact False.elim h
  | pop2 =>
    simp only [q_exec] at h
    split at h
    · obtain ⟨hn, hh⟩ := q_fin_gd h
      have hn := eq_of_beq hn
      subst hn
      exact lv_pop2_2 hx hb hd rfl (hh H locs ls hP hS hl)
    · exact False.elim h
  | dup_x1 =>
    simp only [q_exec] at h
    split at h
    · obtain ⟨hn, hh⟩ := q_fin_gd h
      simp only [Bool.and_eq_true] at hn
      have hn1 := eq_of_beq hn.1
      subst hn1
      exact lv_dup_x1 hx hb hd (by rw [q_rho_cat]; exact eq_of_beq hn.2.1) (by rw [q_rho_cat]; exact eq_of_beq hn.2.2) (hh H locs ls hP hS hl)
    · exact False.elim h
  | dup_x2 =>
    simp only [q_exec] at h
    split at h
    · obtain ⟨hn, hh⟩ := q_fin_gd h
      simp only [Bool.and_eq_true] at hn
      have hn1 := eq_of_beq hn.1
      subst hn1
      exact lv_dup_x2 hx hb hd (by rw [q_rho_cat]; exact eq_of_beq hn.2.1) (by rw [q_rho_cat]; exact eq_of_beq hn.2.2.1) (by rw [q_rho_cat]; exact eq_of_beq hn.2.2.2) (hh H locs ls hP hS hl)
    · exact False.elim h
  | dup2 =>
    simp only [q_exec] at h
    split at h
    · obtain ⟨hn, hh⟩ := q_fin_gd h
      simp only [Bool.and_eq_true] at hn
      have hn1 := eq_of_beq hn.1
      subst hn1
      exact lv_dup2_11 hx hb hd (by rw [q_rho_cat]; exact eq_of_beq hn.2.1) (by rw [q_rho_cat]; exact eq_of_beq hn.2.2) (hh H locs ls hP hS hl)
    · exact False.elim h
  | getfield i =>
    simp only [q_exec] at h
    split at h
    · rename_i k r
      split at h
      · rename_i ci j hfld
        obtain ⟨C, T, N, hc, hj, hlink⟩ := q_fok hfld
        obtain ⟨-, hin, -, -⟩ := q_clf ci C T N hc
        split at h
        · rename_i hsh
          obtain ⟨hn, hh⟩ := q_fin_gd h
          simp only [Bool.and_eq_true] at hn
          have hn1 := eq_of_beq hn.1
          subst hn1
          obtain ⟨fs, hlay, hfj⟩ := q_fs_R hn.2 hsh
          exact va_get hx hb hts hin hown hK hP k (q_wd_at hlay) hc j hj (hts _ hlink) (fun _ z => z) (v := .ref (ad (q_rf k j))) (by simp [List.getElem?_mapIdx, hfj]) hd (hh H locs ls hP hS hl)
        · rename_i hsh
          obtain ⟨hn, hh⟩ := q_fin_gd h
          simp only [Bool.and_eq_true] at hn
          have hn1 := eq_of_beq hn.1
          subst hn1
          obtain ⟨fs, hlay, hfj⟩ := q_fs_I hn.2 hsh
          exact va_get hx hb hts hin hown hK hP k (q_wd_at hlay) hc j hj (hts _ hlink) (fun _ z => z) (v := .int (M k j)) (by simp [List.getElem?_mapIdx, hfj]) hd (hh H locs ls hP hS hl)
        · exact False.elim h
      · exact False.elim h
    · exact False.elim h
  | putfield i =>
    simp only [q_exec] at h
    split at h
    · rename_i x k r
      split at h
      · rename_i ci j hfld
        obtain ⟨C, T, N, hc, hj, hlink⟩ := q_fok hfld
        obtain ⟨hci, hin, ⟨ty0, hty⟩, hnm⟩ := q_clf ci C T N hc
        split at h
        · rename_i hsh
          obtain ⟨hn, hh⟩ := q_fin_gd h
          simp only [Bool.and_eq_true, Bool.or_eq_true, Bool.not_eq_true', decide_eq_true_eq] at hn
          have hn1 := eq_of_beq hn.1
          subst hn1
          obtain ⟨fs, hlay, hfj⟩ := q_fs_I hn.2.1 hsh
          have h9 := List.all_eq_true.mp q_ptOK ci (List.mem_range.mpr hci)
          rw [hc] at h9
          have h9 := List.all_eq_true.mp h9 j (List.mem_range.mpr hj)
          simp only [Bool.or_eq_true, Bool.and_eq_true, Bool.not_eq_true', decide_eq_true_eq] at h9
          rcases h9 with h9 | ⟨hfin, hpd⟩
          · rw [hsh] at h9
            cases h9
          have hty2 : narrow (if q_isB ci j then .boolean else .int) (.int x) = .int x ∧ fits (if q_isB ci j then .boolean else .int) (.int x) = true := by
            cases hB : q_isB ci j with
            | false => exact ⟨rfl, rfl⟩
            | true =>
              rcases hn.2.2 with z | z
              · rw [hB] at z
                cases z
              · rcases z with rfl | rfl <;> exact ⟨by decide, by decide⟩
          refine va_put hx hb hts hin ty0 hty hnm hown hK hP hD hS k (q_wd_at hlay) hc j hj (hts _ hlink) (fun _ z => z) hfin hpd hty2.1 hty2.2 (by simp only [List.length_mapIdx]; exact (List.getElem?_eq_some_iff.mp hfj).1) hd (fun H1 locs1 hP1 _ hS1 => hh H1 locs1 ls ?_ hS1 hl)
          rw [← q_wd_obj (v := x) hlay hfj]
          exact hP1
        · exact False.elim h
      · exact False.elim h
    · exact False.elim h
  | iaload =>
    simp only [q_exec] at h
    split at h
    · rename_i a k r
      split at h
      · rename_i mm hm
        obtain ⟨hn, hh⟩ := q_fin_gd h
        simp only [Bool.and_eq_true] at hn
        have hn1 := eq_of_beq hn.1
        subst hn1
        unfold q_alen at hm
        split at hm
        · rename_i n0 hlay
          cases hm
          exact va_iald hx hb hK hP k 0 (q_wd_at hlay) rfl (q_in_vp hn.2) hd (hh H locs ls hP hS hl)
        · cases hm
      · split at h
        · rename_i mm f
          obtain ⟨hn, hh⟩ := q_fin_gd h
          simp only [Bool.and_eq_true] at hn
          have hn1 := eq_of_beq hn.1
          subst hn1
          have hk := eq_of_beq hn.2.1
          subst hk
          obtain ⟨g1, g2, g3⟩ := hX _ _ rfl
          exact va_sld hx hb g1 g2 g3 hS (q_in_vp hn.2.2) hd (hh H locs ls hP hS hl)
        · exact False.elim h
    · exact False.elim h
  | iastore =>
    simp only [q_exec] at h
    split at h
    · rename_i x a k r
      split at h
      · rename_i mm hm
        obtain ⟨hn, hh⟩ := q_fin_gd h
        simp only [Bool.and_eq_true] at hn
        have hn1 := eq_of_beq hn.1
        subst hn1
        unfold q_alen at hm
        split at hm
        · rename_i n0 hlay
          cases hm
          exact va_iast hx hb hK hP hD hS k 0 (q_wd_at hlay) rfl (q_in_vp hn.2) hd (fun H1 locs1 hP1 _ hS1 => hh H1 locs1 ls (by rw [← q_wd_arr (v := x) hlay]; exact hP1) hS1 hl)
        · cases hm
      · exact False.elim h
    · exact False.elim h
  | arraylength =>
    simp only [q_exec] at h
    split at h
    · rename_i k r
      split at h
      · rename_i mm hm
        obtain ⟨hn, hh⟩ := q_fin_gd h
        have hn1 := eq_of_beq hn
        subst hn1
        unfold q_alen at hm
        split at hm
        · rename_i n0 hlay
          cases hm
          exact va_alen hx hb hK hP k 0 (q_wd_at hlay) rfl rfl hd (hh H locs ls hP hS hl)
        · cases hm
      · split at h
        · rename_i mm f
          obtain ⟨hn, hh⟩ := q_fin_gd h
          simp only [Bool.and_eq_true] at hn
          have hn1 := eq_of_beq hn.1
          subst hn1
          have hk := eq_of_beq hn.2
          subst hk
          obtain ⟨g1, g2, g3⟩ := hX _ _ rfl
          exact va_slen hx hb g1 g2 g3 hS hd (hh H locs ls hP hS hl)
        · exact False.elim h
    · exact False.elim h
  | ifnull off =>
    simp only [q_exec] at h
    split at h
    · obtain ⟨hn, hh⟩ := q_fin_gd h
      have hn := eq_of_beq hn
      subst hn
      exact lv_ifnull hx hb hd (hh H locs ls hP hS hl)
    · exact False.elim h
  | ifnonnull off =>
    simp only [q_exec] at h
    split at h
    · obtain ⟨rfl, ht, h1, h2⟩ := q_br_inv h
      exact lv_ifnonnull hx hb hd ht (h1 rfl H locs ls hP hS hl)
    · exact False.elim h
  | goto off =>
    obtain ⟨rfl, ht, h1, h2⟩ := q_br_inv h
    exact lv_goto hx hb hd ht (h1 rfl H locs ls hP hS hl)
  | ifCond cc off =>
    simp only [q_exec] at h
    split at h
    · obtain ⟨rfl, ht, h1, h2⟩ := q_br_inv h
      cases cc with
      | eq => exact lv_if_eq hx hb hd ht (fun z => h1 (decide_eq_true z) H locs ls hP hS hl) (fun z => h2 (decide_eq_false z) H locs ls hP hS hl)
      | ne => exact lv_if_ne hx hb hd ht (fun z => h1 (decide_eq_true z) H locs ls hP hS hl) (fun z => h2 (decide_eq_false (fun w => w z)) H locs ls hP hS hl)
      | lt => exact lv_if_lt hx hb hd ht (fun z => h1 (decide_eq_true z) H locs ls hP hS hl) (fun z => h2 (decide_eq_false z) H locs ls hP hS hl)
      | ge => exact lv_if_ge hx hb hd ht (fun z => h1 (decide_eq_true z) H locs ls hP hS hl) (fun z => h2 (decide_eq_false z) H locs ls hP hS hl)
      | gt => exact lv_if_gt hx hb hd ht (fun z => h1 (decide_eq_true z) H locs ls hP hS hl) (fun z => h2 (decide_eq_false z) H locs ls hP hS hl)
      | le => exact lv_if_le hx hb hd ht (fun z => h1 (decide_eq_true z) H locs ls hP hS hl) (fun z => h2 (decide_eq_false z) H locs ls hP hS hl)
    · exact False.elim h
  | if_icmp cc off =>
    simp only [q_exec] at h
    split at h
    · obtain ⟨rfl, ht, h1, h2⟩ := q_br_inv h
      cases cc with
      | eq => exact lv_icmp_eq hx hb hd ht (fun z => h1 (decide_eq_true z) H locs ls hP hS hl) (fun z => h2 (decide_eq_false z) H locs ls hP hS hl)
      | ne => exact lv_icmp_ne hx hb hd ht (fun z => h1 (decide_eq_true z) H locs ls hP hS hl) (fun z => h2 (decide_eq_false (fun w => w z)) H locs ls hP hS hl)
      | lt => exact lv_icmp_lt hx hb hd ht (fun z => h1 (decide_eq_true z) H locs ls hP hS hl) (fun z => h2 (decide_eq_false z) H locs ls hP hS hl)
      | ge => exact lv_icmp_ge hx hb hd ht (fun z => h1 (decide_eq_true z) H locs ls hP hS hl) (fun z => h2 (decide_eq_false z) H locs ls hP hS hl)
      | gt => exact lv_icmp_gt hx hb hd ht (fun z => h1 (decide_eq_true z) H locs ls hP hS hl) (fun z => h2 (decide_eq_false z) H locs ls hP hS hl)
      | le => exact lv_icmp_le hx hb hd ht (fun z => h1 (decide_eq_true z) H locs ls hP hS hl) (fun z => h2 (decide_eq_false z) H locs ls hP hS hl)
    · exact False.elim h
  | tableswitch df lo hi offs =>
    simp only [q_exec] at h
    split at h
    · rename_i x r
      split at h
      · rename_i off ho
        obtain ⟨hn, hh⟩ := q_fin_gd h
        simp only [q_tok, decide_eq_true_eq] at hn
        have ht : (pc : Int) + off = (q_to pc off : Int) := by unfold q_to; omega
        unfold q_sw at ho
        split at ho
        · rename_i hz
          cases ho
          exact lv_tableOut hx hb hd hz ht (hh H locs ls hP hS hl)
        · rename_i hz
          exact lv_tableIn hx hb hd (fun w => hz (Or.inl w)) (fun w => hz (Or.inr w)) ho ht (hh H locs ls hP hS hl)
      · exact False.elim h
    · exact False.elim h
  | lookupswitch df ps =>
    simp only [q_exec] at h
    split at h
    · rename_i x r
      obtain ⟨hn, hh⟩ := q_fin_gd h
      simp only [Bool.and_eq_true, q_tok, decide_eq_true_eq] at hn
      have ht : (pc : Int) + Op.lookupswitch.offset ps.toList df x.toInt = (q_to pc (Op.lookupswitch.offset ps.toList df x.toInt) : Int) := by
        have := hn.2
        unfold q_to
        omega
      exact lv_lookup hx hb hd hn.1 rfl ht (hh H locs ls hP hS hl)
    · exact False.elim h
  | invokevirtual i =>
    simp only [q_exec, q_call] at h
    split at h
    · rename_i t k o htg
      obtain ⟨hn, hh⟩ := q_fin_gd h
      simp only [Bool.and_eq_true, decide_eq_true_eq] at hn
      obtain ⟨hn1, ho, hk, hdl, hrv, hfit⟩ := hn
      have hn1 := eq_of_beq hn1
      subst hn1
      cases o with
      | none => cases ho
      | some ci =>
      obtain ⟨ht, hpl, hlink, hini, hk0, hcl, hinst, hsel⟩ := q_cok htg
      obtain ⟨R0, hR0, hM⟩ := hh ht
      unfold q_recv at hrv
      dsimp only at hrv
      split at hrv
      · rename_i bk as has
        obtain ⟨fs, hlay, -⟩ := q_isC_lay hrv
        have hlen : as.length = k - 1 := by
          have := congrArg List.length has
          simp only [List.length_reverse, List.length_take, List.length_cons] at this
          omega
        have hst : st.map (q_rho ad) = (as.map (q_rho ad)).reverse ++ .ref (ad bk) :: (st.drop k).map (q_rho ad) := by
          have e1 : st = (st.take k).reverse.reverse ++ st.drop k := by rw [List.reverse_reverse, List.take_append_drop]
          rw [has] at e1
          have e2 : st.map (q_rho ad) = ((Value.ref bk :: as).reverse ++ List.drop k st).map (q_rho ad) := congrArg (List.map (q_rho ad)) e1
          rw [e2, List.map_append, List.map_reverse, List.map_cons, List.reverse_cons, List.append_assoc]
          rfl
        obtain ⟨hfr, hlo⟩ : q_fr t + 1 ≤ q_fr y ∧ 8 + (q_maxL t + 11) + q_lo t ≤ q_lo y := by
          unfold q_fits at hfit
          simpa only [Bool.and_eq_true, decide_eq_true_eq] using hfit
        obtain ⟨rr, hrr, hrr1⟩ := Option.map_eq_some_iff.mp hcl
        rw [hst]
        rw [has] at hM
        have hcw : CallW R s args (q_own y) (q_name t).cls i (q_name t) (q_code t) (q_maxL t) (q_ret t) (q_ws t) (q_rm t) 0 0 (k - 1) := by
          refine ⟨callB_of (Ts := q_T) (k - 1) hts (fun w hw => ?_) rfl rfl rfl (hts _ hini) (hts _ hlink) ⟨(q_plain t ht).2.1, (q_plain t ht).2.2, hpl⟩ ⟨Nat.le_trans hfr hR.1, Nat.le_trans hlo hR.2⟩, hts _ hinst, hts _ hsel⟩
          rcases List.mem_cons.mp hw with rfl | hw
          · exact ⟨q_T_code t ht, q_T_good (q_T_code t ht)⟩
          · exact ⟨hw, q_T_good hw⟩
        refine q_callW (Rc := R0) (rest := (st.drop k).map (q_rho ad)) (va_runV (Ts := q_T) (As := as.map (q_rho ad)) (b := ad bk) ⟨hx, hb, hml, hown, hts⟩ hM hcw ⟨q_blind (t := 0), ?_, fun U hU hW => ⟨rfl, by rw [hU]; exact hP, va_K.moved hW.alike hK⟩⟩ rfl (by rw [List.length_map]; exact hlen) hl.2.1 rfl (lv_room ?_) hd ⟨hcs.1, hcs.2⟩) hS hAq (fun v M' H1 locs1 hRv hP1 hS1 => ?_)
        · have := va_recv hK hP hrr (q_wd_at hlay)
          rw [hrr1] at this
          exact this
        · rw [q_cat_rho]
          have := q_cat_le (st.drop k)
          omega
        · have h9 := hR0 _ _ hRv H1 locs1 ls hP1 hS1 hl
          have e9 : (v.toList ++ st.drop k).map (q_rho ad) = (v.map (q_rho ad)).toList ++ (st.drop k).map (q_rho ad) := by cases v <;> simp
          rw [← e9]
          exact h9
      · cases hrv
    · exact False.elim h
  | invokestatic i =>
    simp only [q_exec] at h
    split at h
    · rename_i bm hmm
      unfold q_mm at hmm
      obtain ⟨ee, h1, h2⟩ := Option.map_eq_some_iff.mp hmm
      have hmc := List.all_eq_true.mp (q_mok_all (q_cn y)) _ (q_lookup_mem h1)
      unfold q_mchk at hmc
      simp only [decide_eq_true_eq] at hmc
      have hlk : Cond.methodLink (q_own y) i (q_mn ee.1) ∈ q_T := q_T_in hmc (by first | rfl | simp [q_gw, goodWord, Cond.onTables, Cond.keeps, Cond.steady])
      rw [h2] at hlk
      split at h
      · rename_i w x r
        obtain ⟨hn, hh⟩ := q_fin_gd h
        simp only [Bool.and_eq_true, q_mfit, decide_eq_true_eq] at hn
        have hn1 := eq_of_beq hn.1
        subst hn1
        have hsum : ((r.map (q_rho ad)).map fun v => v.category).sum + 13 ≤ R.locals := by
          rw [q_cat_rho]
          have := q_cat_le r
          omega
        cases bm with
        | true => exact va_mmin hx hb (hml.trans hl.2.1.symm) hown (hts _ hlk) (hts _ q_min_st) (hts _ q_math_in) (hts _ q_min_cd) (Nat.le_trans hn.2.1.1 hR.1) hsum hcs.1 hcs.2 hd (hh H locs ls hP hS hl)
        | false => exact va_mmax hx hb (hml.trans hl.2.1.symm) hown (hts _ hlk) (hts _ q_max_st) (hts _ q_math_in) (hts _ q_max_cd) (Nat.le_trans hn.2.1.1 hR.1) hsum hcs.1 hcs.2 hd (hh H locs ls hP hS hl)
      · exact False.elim h
    · simp only [q_call] at h
      split at h
      · rename_i t k o htg
        obtain ⟨hn, hh⟩ := q_fin_gd h
        simp only [Bool.and_eq_true, decide_eq_true_eq] at hn
        obtain ⟨hn1, ho, hk, hdl, hrv, hfit⟩ := hn
        have hn1 := eq_of_beq hn1
        subst hn1
        cases o with
        | some ci => cases ho
        | none =>
        obtain ⟨ht, hpl, hlink, hini, hstt⟩ := q_cok htg
        obtain ⟨R0, hR0, hM⟩ := hh ht
        have hst : st.map (q_rho ad) = ((st.take k).reverse.map (q_rho ad)).reverse ++ (st.drop k).map (q_rho ad) := by
          have e1 : st = (st.take k).reverse.reverse ++ st.drop k := by rw [List.reverse_reverse, List.take_append_drop]
          rw [← List.map_reverse, ← List.map_append, ← e1]
        obtain ⟨hfr, hlo⟩ : q_fr t + 1 ≤ q_fr y ∧ 8 + (q_maxL t + 11) + q_lo t ≤ q_lo y := by
          unfold q_fits at hfit
          simpa only [Bool.and_eq_true, decide_eq_true_eq] using hfit
        rw [hst]
        have hcw : CallB R s args (q_own y) i (q_name t) (q_code t) (q_maxL t) (q_ret t) (q_ws t) (q_rm t) 0 0 k ∧ (Cond.static (q_name t)).before args s = true := by
          refine ⟨callB_of (Ts := q_T) k hts (fun w hw => ?_) rfl rfl rfl (hts _ hini) (hts _ hlink) ⟨(q_plain t ht).2.1, (q_plain t ht).2.2, hpl⟩ ⟨Nat.le_trans hfr hR.1, Nat.le_trans hlo hR.2⟩, hts _ hstt⟩
          rcases List.mem_cons.mp hw with rfl | hw
          · exact ⟨q_T_code t ht, q_T_good (q_T_code t ht)⟩
          · exact ⟨hw, q_T_good hw⟩
        refine q_callW (Rc := R0) (rest := (st.drop k).map (q_rho ad)) (va_runS (Ts := q_T) (As := (st.take k).reverse.map (q_rho ad)) ⟨hx, hb, hml, hown, hts⟩ hM hcw ⟨q_blind (t := 0), fun U hU hW => ⟨rfl, by rw [hU]; exact hP, va_K.moved hW.alike hK⟩⟩ rfl (by simp; omega) hl.2.1 rfl (lv_room ?_) hd ⟨hcs.1, hcs.2⟩) hS hAq (fun v M' H1 locs1 hRv hP1 hS1 => ?_)
        · rw [q_cat_rho]
          have := q_cat_le (st.drop k)
          omega
        · have h9 := hR0 _ _ hRv H1 locs1 ls hP1 hS1 hl
          have e9 : (v.toList ++ st.drop k).map (q_rho ad) = (v.map (q_rho ad)).toList ++ (st.drop k).map (q_rho ad) := by cases v <;> simp
          rw [← e9]
          exact h9
      · exact False.elim h
  | ireturn =>
    simp only [q_exec, q_ireturn] at h
    split at h
    · rename_i v
      split at h
      · rename_i hr
        obtain ⟨hn, hh⟩ := q_fin_gd h
        have hn := eq_of_beq hn
        subst hn
        exact hret H locs M (some (.int v)) pc ls hh hP hS ⟨hd, Or.inl hr⟩
      · rename_i hr
        obtain ⟨hn, hh⟩ := q_fin_gd h
        simp only [Bool.and_eq_true, decide_eq_true_eq] at hn
        have hn1 := eq_of_beq hn.1
        subst hn1
        exact hret H locs M (some (.int v)) pc ls hh hP hS ⟨hd, Or.inr ⟨hr, hn.2⟩⟩
      · exact False.elim h
    · exact False.elim h
  | lreturn =>
    simp only [q_exec] at h
    split at h
    · rename_i v
      split at h
      · rename_i hr
        obtain ⟨hn, hh⟩ := q_fin_gd h
        have hn := eq_of_beq hn
        subst hn
        exact hret H locs M (some (.long v)) pc ls hh hP hS ⟨hd, hr⟩
      · exact False.elim h
    · exact False.elim h
  | return_ =>
    simp only [q_exec] at h
    split at h
    · split at h
      · rename_i hr
        obtain ⟨hn, hh⟩ := q_fin_gd h
        have hn := eq_of_beq hn
        subst hn
        exact hret H locs M none pc ls hh hP hS ⟨hd, hr⟩
      · exact False.elim h
    · exact False.elim h
  | _ => exact False.elim h
end QS
