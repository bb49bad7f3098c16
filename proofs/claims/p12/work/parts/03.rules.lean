/-! what each instruction does, as equations of q_g -/
theorem r_iconst {y : Nat} {X : q_X} {Q : q_R} {pc : Nat} {L : q_L} {r : List Value} {M : q_M} {k : Int} {v : Int32} (hv : Int32.ofInt k = v) (h : decode (q_code y) pc = .ok (.iconst k, 1)) : q_g y X Q pc L (r) M = q_g y X Q (pc + 1) (L) (.int v :: r) (M) := by
  rw [q_g_eq]
  unfold q_at
  rw [h]
  subst hv
  rfl
theorem r_bipush {y : Nat} {X : q_X} {Q : q_R} {pc : Nat} {L : q_L} {r : List Value} {M : q_M} {k : Int} {v : Int32} (hv : (Int8.ofInt k).toInt32 = v) (h : decode (q_code y) pc = .ok (.bipush k, 2)) : q_g y X Q pc L (r) M = q_g y X Q (pc + 2) (L) (.int v :: r) (M) := by
  rw [q_g_eq]
  unfold q_at
  rw [h]
  subst hv
  rfl
theorem r_sipush {y : Nat} {X : q_X} {Q : q_R} {pc : Nat} {L : q_L} {r : List Value} {M : q_M} {k : Int} {v : Int32} (hv : (Int16.ofInt k).toInt32 = v) (h : decode (q_code y) pc = .ok (.sipush k, 3)) : q_g y X Q pc L (r) M = q_g y X Q (pc + 3) (L) (.int v :: r) (M) := by
  rw [q_g_eq]
  unfold q_at
  rw [h]
  subst hv
  rfl
theorem r_lconst {y : Nat} {X : q_X} {Q : q_R} {pc : Nat} {L : q_L} {r : List Value} {M : q_M} {k : Fin 2} {v : Int64} (hv : Int64.ofNat (k : Nat) = v) (h : decode (q_code y) pc = .ok (.lconst k, 1)) : q_g y X Q pc L (r) M = q_g y X Q (pc + 1) (L) (.long v :: r) (M) := by
  rw [q_g_eq]
  unfold q_at
  rw [h]
  subst hv
  rfl
theorem r_ldc {y : Nat} {X : q_X} {Q : q_R} {pc : Nat} {L : q_L} {r : List Value} {M : q_M} {k : Nat} {v : Int32} (hv : q_ldc y k = some (.int v)) (h : decode (q_code y) pc = .ok (.ldc k, 2)) : q_g y X Q pc L (r) M = q_g y X Q (pc + 2) (L) (.int v :: r) (M) := by
  rw [q_g_eq]
  unfold q_at
  rw [h]
  simp only [q_exec, hv]
  rfl
theorem r_ldcw {y : Nat} {X : q_X} {Q : q_R} {pc : Nat} {L : q_L} {r : List Value} {M : q_M} {k : Nat} {v : Int32} (hv : q_ldc y k = some (.int v)) (h : decode (q_code y) pc = .ok (.ldc_w k, 3)) : q_g y X Q pc L (r) M = q_g y X Q (pc + 3) (L) (.int v :: r) (M) := by
  rw [q_g_eq]
  unfold q_at
  rw [h]
  simp only [q_exec, hv]
  rfl
theorem r_ldc2 {y : Nat} {X : q_X} {Q : q_R} {pc : Nat} {L : q_L} {r : List Value} {M : q_M} {k : Nat} {v : Int64} (hv : q_ldc y k = some (.long v)) (h : decode (q_code y) pc = .ok (.ldc2_w k, 3)) : q_g y X Q pc L (r) M = q_g y X Q (pc + 3) (L) (.long v :: r) (M) := by
  rw [q_g_eq]
  unfold q_at
  rw [h]
  simp only [q_exec, hv]
  rfl
theorem r_iload {y : Nat} {X : q_X} {Q : q_R} {pc : Nat} {L : q_L} {r : List Value} {M : q_M} {k : Nat} {x : Int32} (hl : L[k]? = some (some (.int x))) (h : decode (q_code y) pc = .ok (.iload k, 2)) : q_g y X Q pc L (r) M = q_g y X Q (pc + 2) (L) (.int x :: r) (M) := by
  rw [q_g_eq]
  unfold q_at
  rw [h]
  simp only [q_exec, q_iload, hl]
  rfl
theorem r_iload_n {y : Nat} {X : q_X} {Q : q_R} {pc : Nat} {L : q_L} {r : List Value} {M : q_M} {k : Fin 4} {x : Int32} (hl : L[(k : Nat)]? = some (some (.int x))) (h : decode (q_code y) pc = .ok (.iload_n k, 1)) : q_g y X Q pc L (r) M = q_g y X Q (pc + 1) (L) (.int x :: r) (M) := by
  rw [q_g_eq]
  unfold q_at
  rw [h]
  simp only [q_exec, q_iload, hl]
  rfl
theorem r_istore {y : Nat} {X : q_X} {Q : q_R} {pc : Nat} {L : q_L} {r : List Value} {M : q_M} {k : Nat} {x : Int32} (hk : k < L.length) (h : decode (q_code y) pc = .ok (.istore k, 2)) : q_g y X Q pc L (.int x :: r) M = q_g y X Q (pc + 2) (q_set1 L k (.int x)) (r) (M) := by
  rw [q_g_eq]
  unfold q_at
  rw [h]
  simp only [q_exec, q_istore, decide_eq_true hk]
  rfl
theorem r_istore_n {y : Nat} {X : q_X} {Q : q_R} {pc : Nat} {L : q_L} {r : List Value} {M : q_M} {k : Fin 4} {x : Int32} (hk : (k : Nat) < L.length) (h : decode (q_code y) pc = .ok (.istore_n k, 1)) : q_g y X Q pc L (.int x :: r) M = q_g y X Q (pc + 1) (q_set1 L k (.int x)) (r) (M) := by
  rw [q_g_eq]
  unfold q_at
  rw [h]
  simp only [q_exec, q_istore, decide_eq_true hk]
  rfl
theorem r_lload {y : Nat} {X : q_X} {Q : q_R} {pc : Nat} {L : q_L} {r : List Value} {M : q_M} {k : Nat} {x : Int64} (hl : L[k]? = some (some (.long x))) (h : decode (q_code y) pc = .ok (.lload k, 2)) : q_g y X Q pc L (r) M = q_g y X Q (pc + 2) (L) (.long x :: r) (M) := by
  rw [q_g_eq]
  unfold q_at
  rw [h]
  simp only [q_exec, q_lload, hl]
  rfl
theorem r_lload_n {y : Nat} {X : q_X} {Q : q_R} {pc : Nat} {L : q_L} {r : List Value} {M : q_M} {k : Fin 4} {x : Int64} (hl : L[(k : Nat)]? = some (some (.long x))) (h : decode (q_code y) pc = .ok (.lload_n k, 1)) : q_g y X Q pc L (r) M = q_g y X Q (pc + 1) (L) (.long x :: r) (M) := by
  rw [q_g_eq]
  unfold q_at
  rw [h]
  simp only [q_exec, q_lload, hl]
  rfl
theorem r_lstore {y : Nat} {X : q_X} {Q : q_R} {pc : Nat} {L : q_L} {r : List Value} {M : q_M} {k : Nat} {x : Int64} (hk : k + 1 < L.length) (h : decode (q_code y) pc = .ok (.lstore k, 2)) : q_g y X Q pc L (.long x :: r) M = q_g y X Q (pc + 2) (q_unset (q_set1 L k (.long x)) (k + 1)) (r) (M) := by
  rw [q_g_eq]
  unfold q_at
  rw [h]
  simp only [q_exec, q_lstore, decide_eq_true hk]
  rfl
theorem r_lstore_n {y : Nat} {X : q_X} {Q : q_R} {pc : Nat} {L : q_L} {r : List Value} {M : q_M} {k : Fin 4} {x : Int64} (hk : (k : Nat) + 1 < L.length) (h : decode (q_code y) pc = .ok (.lstore_n k, 1)) : q_g y X Q pc L (.long x :: r) M = q_g y X Q (pc + 1) (q_unset (q_set1 L k (.long x)) (k + 1)) (r) (M) := by
  rw [q_g_eq]
  unfold q_at
  rw [h]
  simp only [q_exec, q_lstore, decide_eq_true hk]
  rfl
theorem r_aload {y : Nat} {X : q_X} {Q : q_R} {pc : Nat} {L : q_L} {r : List Value} {M : q_M} {k : Nat} {x : Nat} (hl : L[k]? = some (some (.ref x))) (h : decode (q_code y) pc = .ok (.aload k, 2)) : q_g y X Q pc L (r) M = q_g y X Q (pc + 2) (L) (.ref x :: r) (M) := by
  rw [q_g_eq]
  unfold q_at
  rw [h]
  simp only [q_exec, q_aload, hl]
  rfl
theorem r_aload_n {y : Nat} {X : q_X} {Q : q_R} {pc : Nat} {L : q_L} {r : List Value} {M : q_M} {k : Fin 4} {x : Nat} (hl : L[(k : Nat)]? = some (some (.ref x))) (h : decode (q_code y) pc = .ok (.aload_n k, 1)) : q_g y X Q pc L (r) M = q_g y X Q (pc + 1) (L) (.ref x :: r) (M) := by
  rw [q_g_eq]
  unfold q_at
  rw [h]
  simp only [q_exec, q_aload, hl]
  rfl
theorem r_astore {y : Nat} {X : q_X} {Q : q_R} {pc : Nat} {L : q_L} {r : List Value} {M : q_M} {k : Nat} {x : Nat} (hk : k < L.length) (h : decode (q_code y) pc = .ok (.astore k, 2)) : q_g y X Q pc L (.ref x :: r) M = q_g y X Q (pc + 2) (q_set1 L k (.ref x)) (r) (M) := by
  rw [q_g_eq]
  unfold q_at
  rw [h]
  simp only [q_exec, q_astore, decide_eq_true hk]
  rfl
theorem r_astore_n {y : Nat} {X : q_X} {Q : q_R} {pc : Nat} {L : q_L} {r : List Value} {M : q_M} {k : Fin 4} {x : Nat} (hk : (k : Nat) < L.length) (h : decode (q_code y) pc = .ok (.astore_n k, 1)) : q_g y X Q pc L (.ref x :: r) M = q_g y X Q (pc + 1) (q_set1 L k (.ref x)) (r) (M) := by
  rw [q_g_eq]
  unfold q_at
  rw [h]
  simp only [q_exec, q_astore, decide_eq_true hk]
  rfl
theorem r_iinc {y : Nat} {X : q_X} {Q : q_R} {pc : Nat} {L : q_L} {r : List Value} {M : q_M} {k : Nat} {c : Int} {x v : Int32} (hl : L[k]? = some (some (.int x))) (hv : Int32.ofInt c = v) (h : decode (q_code y) pc = .ok (.iinc k c, 3)) : q_g y X Q pc L (r) M = q_g y X Q (pc + 3) (q_set1 L k (.int (x + v))) (r) (M) := by
  rw [q_g_eq]
  unfold q_at
  rw [h]
  subst hv
  simp only [q_exec, q_iinc, hl]
  rfl
theorem r_iadd {y : Nat} {X : q_X} {Q : q_R} {pc : Nat} {L : q_L} {r : List Value} {M : q_M} {a b : Int32} (h : decode (q_code y) pc = .ok (.iadd, 1)) : q_g y X Q pc L (.int b :: .int a :: r) M = q_g y X Q (pc + 1) (L) (.int (a + b) :: r) (M) := by
  rw [q_g_eq]
  unfold q_at
  rw [h]
  rfl
theorem r_isub {y : Nat} {X : q_X} {Q : q_R} {pc : Nat} {L : q_L} {r : List Value} {M : q_M} {a b : Int32} (h : decode (q_code y) pc = .ok (.isub, 1)) : q_g y X Q pc L (.int b :: .int a :: r) M = q_g y X Q (pc + 1) (L) (.int (a - b) :: r) (M) := by
  rw [q_g_eq]
  unfold q_at
  rw [h]
  rfl
theorem r_imul {y : Nat} {X : q_X} {Q : q_R} {pc : Nat} {L : q_L} {r : List Value} {M : q_M} {a b : Int32} (h : decode (q_code y) pc = .ok (.imul, 1)) : q_g y X Q pc L (.int b :: .int a :: r) M = q_g y X Q (pc + 1) (L) (.int (a * b) :: r) (M) := by
  rw [q_g_eq]
  unfold q_at
  rw [h]
  rfl
theorem r_iand {y : Nat} {X : q_X} {Q : q_R} {pc : Nat} {L : q_L} {r : List Value} {M : q_M} {a b : Int32} (h : decode (q_code y) pc = .ok (.iand, 1)) : q_g y X Q pc L (.int b :: .int a :: r) M = q_g y X Q (pc + 1) (L) (.int (a &&& b) :: r) (M) := by
  rw [q_g_eq]
  unfold q_at
  rw [h]
  rfl
theorem r_ior {y : Nat} {X : q_X} {Q : q_R} {pc : Nat} {L : q_L} {r : List Value} {M : q_M} {a b : Int32} (h : decode (q_code y) pc = .ok (.ior, 1)) : q_g y X Q pc L (.int b :: .int a :: r) M = q_g y X Q (pc + 1) (L) (.int (a ||| b) :: r) (M) := by
  rw [q_g_eq]
  unfold q_at
  rw [h]
  rfl
theorem r_ixor {y : Nat} {X : q_X} {Q : q_R} {pc : Nat} {L : q_L} {r : List Value} {M : q_M} {a b : Int32} (h : decode (q_code y) pc = .ok (.ixor, 1)) : q_g y X Q pc L (.int b :: .int a :: r) M = q_g y X Q (pc + 1) (L) (.int (a ^^^ b) :: r) (M) := by
  rw [q_g_eq]
  unfold q_at
  rw [h]
  rfl
theorem r_ishl {y : Nat} {X : q_X} {Q : q_R} {pc : Nat} {L : q_L} {r : List Value} {M : q_M} {a b : Int32} (h : decode (q_code y) pc = .ok (.ishl, 1)) : q_g y X Q pc L (.int b :: .int a :: r) M = q_g y X Q (pc + 1) (L) (.int (a <<< (b &&& 31)) :: r) (M) := by
  rw [q_g_eq]
  unfold q_at
  rw [h]
  rfl
theorem r_ishr {y : Nat} {X : q_X} {Q : q_R} {pc : Nat} {L : q_L} {r : List Value} {M : q_M} {a b : Int32} (h : decode (q_code y) pc = .ok (.ishr, 1)) : q_g y X Q pc L (.int b :: .int a :: r) M = q_g y X Q (pc + 1) (L) (.int (a >>> (b &&& 31)) :: r) (M) := by
  rw [q_g_eq]
  unfold q_at
  rw [h]
  rfl
theorem r_iushr {y : Nat} {X : q_X} {Q : q_R} {pc : Nat} {L : q_L} {r : List Value} {M : q_M} {a b : Int32} (h : decode (q_code y) pc = .ok (.iushr, 1)) : q_g y X Q pc L (.int b :: .int a :: r) M = q_g y X Q (pc + 1) (L) (.int ((a.toUInt32 >>> (b.toUInt32 &&& Int32.toUInt32 31)).toInt32) :: r) (M) := by
  rw [q_g_eq]
  unfold q_at
  rw [h]
  rfl
theorem r_ladd {y : Nat} {X : q_X} {Q : q_R} {pc : Nat} {L : q_L} {r : List Value} {M : q_M} {a b : Int64} (h : decode (q_code y) pc = .ok (.ladd, 1)) : q_g y X Q pc L (.long b :: .long a :: r) M = q_g y X Q (pc + 1) (L) (.long (a + b) :: r) (M) := by
  rw [q_g_eq]
  unfold q_at
  rw [h]
  rfl
theorem r_lsub {y : Nat} {X : q_X} {Q : q_R} {pc : Nat} {L : q_L} {r : List Value} {M : q_M} {a b : Int64} (h : decode (q_code y) pc = .ok (.lsub, 1)) : q_g y X Q pc L (.long b :: .long a :: r) M = q_g y X Q (pc + 1) (L) (.long (a - b) :: r) (M) := by
  rw [q_g_eq]
  unfold q_at
  rw [h]
  rfl
theorem r_lmul {y : Nat} {X : q_X} {Q : q_R} {pc : Nat} {L : q_L} {r : List Value} {M : q_M} {a b : Int64} (h : decode (q_code y) pc = .ok (.lmul, 1)) : q_g y X Q pc L (.long b :: .long a :: r) M = q_g y X Q (pc + 1) (L) (.long (a * b) :: r) (M) := by
  rw [q_g_eq]
  unfold q_at
  rw [h]
  rfl
theorem r_ineg {y : Nat} {X : q_X} {Q : q_R} {pc : Nat} {L : q_L} {r : List Value} {M : q_M} {a : Int32} (h : decode (q_code y) pc = .ok (.ineg, 1)) : q_g y X Q pc L (.int a :: r) M = q_g y X Q (pc + 1) (L) (.int (-a) :: r) (M) := by
  rw [q_g_eq]
  unfold q_at
  rw [h]
  rfl
theorem r_idiv {y : Nat} {X : q_X} {Q : q_R} {pc : Nat} {L : q_L} {r : List Value} {M : q_M} {a b : Int32} (h : decode (q_code y) pc = .ok (.idiv, 1)) : q_g y X Q pc L (.int b :: .int a :: r) M = (¬ b = 0 ∧ q_g y X Q (pc + 1) (L) (.int (a / b) :: r) (M)) := by
  rw [q_g_eq]
  unfold q_at
  rw [h]
  by_cases hz : b = 0 <;> simp [q_exec, q_gd, q_nx, q_fin, hz]
theorem r_irem {y : Nat} {X : q_X} {Q : q_R} {pc : Nat} {L : q_L} {r : List Value} {M : q_M} {a b : Int32} (h : decode (q_code y) pc = .ok (.irem, 1)) : q_g y X Q pc L (.int b :: .int a :: r) M = (¬ b = 0 ∧ q_g y X Q (pc + 1) (L) (.int (a - a / b * b) :: r) (M)) := by
  rw [q_g_eq]
  unfold q_at
  rw [h]
  by_cases hz : b = 0 <;> simp [q_exec, q_gd, q_nx, q_fin, hz]
theorem r_ldiv {y : Nat} {X : q_X} {Q : q_R} {pc : Nat} {L : q_L} {r : List Value} {M : q_M} {a b : Int64} (h : decode (q_code y) pc = .ok (.ldiv, 1)) : q_g y X Q pc L (.long b :: .long a :: r) M = (¬ b = 0 ∧ q_g y X Q (pc + 1) (L) (.long (a / b) :: r) (M)) := by
  rw [q_g_eq]
  unfold q_at
  rw [h]
  by_cases hz : b = 0 <;> simp [q_exec, q_gd, q_nx, q_fin, hz]
theorem r_lrem {y : Nat} {X : q_X} {Q : q_R} {pc : Nat} {L : q_L} {r : List Value} {M : q_M} {a b : Int64} (h : decode (q_code y) pc = .ok (.lrem, 1)) : q_g y X Q pc L (.long b :: .long a :: r) M = (¬ b = 0 ∧ q_g y X Q (pc + 1) (L) (.long (a - a / b * b) :: r) (M)) := by
  rw [q_g_eq]
  unfold q_at
  rw [h]
  by_cases hz : b = 0 <;> simp [q_exec, q_gd, q_nx, q_fin, hz]
theorem r_lcmp {y : Nat} {X : q_X} {Q : q_R} {pc : Nat} {L : q_L} {r : List Value} {M : q_M} {a b : Int64} (h : decode (q_code y) pc = .ok (.lcmp, 1)) : q_g y X Q pc L (.long b :: .long a :: r) M = q_g y X Q (pc + 1) (L) (.int (lg_cmp a b) :: r) (M) := by
  rw [q_g_eq]
  unfold q_at
  rw [h]
  rfl
theorem r_i2l {y : Nat} {X : q_X} {Q : q_R} {pc : Nat} {L : q_L} {r : List Value} {M : q_M} {a : Int32} (h : decode (q_code y) pc = .ok (.i2l, 1)) : q_g y X Q pc L (.int a :: r) M = q_g y X Q (pc + 1) (L) (.long a.toInt64 :: r) (M) := by
  rw [q_g_eq]
  unfold q_at
  rw [h]
  rfl
theorem r_dup {y : Nat} {X : q_X} {Q : q_R} {pc : Nat} {L : q_L} {r : List Value} {M : q_M} {v : Value} (hv : (v.category == 1) = true) (h : decode (q_code y) pc = .ok (.dup, 1)) : q_g y X Q pc L (v :: r) M = q_g y X Q (pc + 1) (L) (v :: v :: r) (M) := by
  rw [q_g_eq]
  unfold q_at
  rw [h]
  simp only [q_exec, hv]
  rfl
theorem r_pop {y : Nat} {X : q_X} {Q : q_R} {pc : Nat} {L : q_L} {r : List Value} {M : q_M} {v : Value} (hv : (v.category == 1) = true) (h : decode (q_code y) pc = .ok (.pop, 1)) : q_g y X Q pc L (v :: r) M = q_g y X Q (pc + 1) (L) (r) (M) := by
  rw [q_g_eq]
  unfold q_at
  rw [h]
  simp only [q_exec, hv]
  rfl
theorem r_pop2 {y : Nat} {X : q_X} {Q : q_R} {pc : Nat} {L : q_L} {r : List Value} {M : q_M} {v : Int64} (h : decode (q_code y) pc = .ok (.pop2, 1)) : q_g y X Q pc L (.long v :: r) M = q_g y X Q (pc + 1) (L) (r) (M) := by
  rw [q_g_eq]
  unfold q_at
  rw [h]
  rfl
theorem r_dup_x1 {y : Nat} {X : q_X} {Q : q_R} {pc : Nat} {L : q_L} {r : List Value} {M : q_M} {v w : Value} (hv : (v.category == 1) = true) (hw : (w.category == 1) = true) (h : decode (q_code y) pc = .ok (.dup_x1, 1)) : q_g y X Q pc L (v :: w :: r) M = q_g y X Q (pc + 1) (L) (v :: w :: v :: r) (M) := by
  rw [q_g_eq]
  unfold q_at
  rw [h]
  simp only [q_exec, hv, hw]
  rfl
theorem r_dup_x2 {y : Nat} {X : q_X} {Q : q_R} {pc : Nat} {L : q_L} {r : List Value} {M : q_M} {v w u : Value} (hv : (v.category == 1) = true) (hw : (w.category == 1) = true) (hu : (u.category == 1) = true) (h : decode (q_code y) pc = .ok (.dup_x2, 1)) : q_g y X Q pc L (v :: w :: u :: r) M = q_g y X Q (pc + 1) (L) (v :: w :: u :: v :: r) (M) := by
  rw [q_g_eq]
  unfold q_at
  rw [h]
  simp only [q_exec, hv, hw, hu]
  rfl
theorem r_dup2 {y : Nat} {X : q_X} {Q : q_R} {pc : Nat} {L : q_L} {r : List Value} {M : q_M} {v w : Value} (hv : (v.category == 1) = true) (hw : (w.category == 1) = true) (h : decode (q_code y) pc = .ok (.dup2, 1)) : q_g y X Q pc L (v :: w :: r) M = q_g y X Q (pc + 1) (L) (v :: w :: v :: w :: r) (M) := by
  rw [q_g_eq]
  unfold q_at
  rw [h]
  simp only [q_exec, hv, hw]
  rfl
theorem r_getI {y : Nat} {X : q_X} {Q : q_R} {pc : Nat} {L : q_L} {r : List Value} {M : q_M} {i k ci j : Nat} (h1 : q_fld y i = some (ci, j)) (h2 : q_sh ci j = some false) (h : decode (q_code y) pc = .ok (.getfield i, 3)) : q_g y X Q pc L (.ref k :: r) M = (q_isC ci k = true ∧ q_g y X Q (pc + 3) (L) (.int (M k j) :: r) (M)) := by
  rw [q_g_eq]
  unfold q_at
  rw [h]
  cases hz : q_isC ci k <;> simp [q_exec, h1, h2, q_gd, q_nx, q_fin, hz]
theorem r_getR {y : Nat} {X : q_X} {Q : q_R} {pc : Nat} {L : q_L} {r : List Value} {M : q_M} {i k ci j : Nat} (h1 : q_fld y i = some (ci, j)) (h2 : q_sh ci j = some true) (h : decode (q_code y) pc = .ok (.getfield i, 3)) : q_g y X Q pc L (.ref k :: r) M = (q_isC ci k = true ∧ q_g y X Q (pc + 3) (L) (.ref (q_rf k j) :: r) (M)) := by
  rw [q_g_eq]
  unfold q_at
  rw [h]
  cases hz : q_isC ci k <;> simp [q_exec, h1, h2, q_gd, q_nx, q_fin, hz]
theorem r_putI {y : Nat} {X : q_X} {Q : q_R} {pc : Nat} {L : q_L} {r : List Value} {M : q_M} {i k ci j : Nat} {x : Int32} (h1 : q_fld y i = some (ci, j)) (h2 : q_sh ci j = some false) (h3 : q_isB ci j = false) (h : decode (q_code y) pc = .ok (.putfield i, 3)) : q_g y X Q pc L (.int x :: .ref k :: r) M = (q_isC ci k = true ∧ q_g y X Q (pc + 3) (L) (r) (q_put M k j x)) := by
  rw [q_g_eq]
  unfold q_at
  rw [h]
  cases hz : q_isC ci k <;> simp [q_exec, h1, h2, h3, q_gd, q_nx, q_fin, hz]
theorem r_putB {y : Nat} {X : q_X} {Q : q_R} {pc : Nat} {L : q_L} {r : List Value} {M : q_M} {i k ci j : Nat} {x : Int32} (h1 : q_fld y i = some (ci, j)) (h2 : q_sh ci j = some false) (h3 : q_isB ci j = true) (h : decode (q_code y) pc = .ok (.putfield i, 3)) : q_g y X Q pc L (.int x :: .ref k :: r) M = (q_isC ci k = true ∧ ((x = 0 ∨ x = 1) ∧ q_g y X Q (pc + 3) (L) (r) (q_put M k j x))) := by
  rw [q_g_eq]
  unfold q_at
  rw [h]
  cases hz : q_isC ci k <;> by_cases hw : x = 0 ∨ x = 1 <;> simp [q_exec, h1, h2, h3, q_gd, q_nx, q_fin, hz, hw]
theorem r_iaload {y : Nat} {Q : q_R} {pc : Nat} {L : q_L} {r : List Value} {M : q_M} {a : Int32} {k : Nat} (h : decode (q_code y) pc = .ok (.iaload, 1)) : q_g y none Q pc L (.int a :: .ref k :: r) M = (q_in a (q_alenD k) = true ∧ q_g y none Q (pc + 1) (L) (.int (M k a.toNatClampNeg) :: r) (M)) := by
  rw [q_g_eq]
  unfold q_at
  rw [h]
  unfold q_alenD
  cases hm : q_alen k with
  | none => simp [q_exec, hm, q_fin, q_in]
  | some m => cases hz : q_in a m <;> simp [q_exec, hm, q_gd, q_nx, q_fin, hz]
theorem r_iastore {y : Nat} {X : q_X} {Q : q_R} {pc : Nat} {L : q_L} {r : List Value} {M : q_M} {a x : Int32} {k : Nat} (h : decode (q_code y) pc = .ok (.iastore, 1)) : q_g y X Q pc L (.int x :: .int a :: .ref k :: r) M = (q_in a (q_alenD k) = true ∧ q_g y X Q (pc + 1) (L) (r) (q_put M k a.toNatClampNeg x)) := by
  rw [q_g_eq]
  unfold q_at
  rw [h]
  unfold q_alenD
  cases hm : q_alen k with
  | none => simp [q_exec, hm, q_fin, q_in]
  | some m => cases hz : q_in a m <;> simp [q_exec, hm, q_gd, q_nx, q_fin, hz]
theorem r_alen {y : Nat} {Q : q_R} {pc : Nat} {L : q_L} {r : List Value} {M : q_M} {k : Nat} (h : decode (q_code y) pc = .ok (.arraylength, 1)) : q_g y none Q pc L (.ref k :: r) M = ((q_alen k).isSome = true ∧ q_g y none Q (pc + 1) (L) (.int (Int32.ofNat (q_alenD k)) :: r) (M)) := by
  rw [q_g_eq]
  unfold q_at
  rw [h]
  unfold q_alenD
  cases hm : q_alen k with
  | none => simp [q_exec, hm, q_fin]
  | some m => simp [q_exec, hm, q_gd, q_nx, q_fin]
theorem r_sld {y : Nat} {X : q_X} {Q : q_R} {pc : Nat} {L : q_L} {r : List Value} {M : q_M} {a : Int32} {m : Nat} {f : Nat → Int32} (hX : X = some (m, f)) (h : decode (q_code y) pc = .ok (.iaload, 1)) : q_g y X Q pc L (.int a :: .ref 1000 :: r) M = (q_in a m = true ∧ q_g y X Q (pc + 1) (L) (.int (f a.toNatClampNeg) :: r) (M)) := by
  rw [q_g_eq]
  unfold q_at
  rw [h]
  subst hX
  have hn : q_alen 1000 = none := by decide +kernel
  cases hz : q_in a m <;> simp [q_exec, hn, q_gd, q_nx, q_fin, hz]
theorem r_slen {y : Nat} {X : q_X} {Q : q_R} {pc : Nat} {L : q_L} {r : List Value} {M : q_M} {m : Nat} {f : Nat → Int32} (hX : X = some (m, f)) (h : decode (q_code y) pc = .ok (.arraylength, 1)) : q_g y X Q pc L (.ref 1000 :: r) M = q_g y X Q (pc + 1) (L) (.int (Int32.ofNat m) :: r) (M) := by
  rw [q_g_eq]
  unfold q_at
  rw [h]
  subst hX
  have hn : q_alen 1000 = none := by decide +kernel
  simp only [q_exec, hn]
  rfl
theorem r_ifnull {y : Nat} {X : q_X} {Q : q_R} {pc : Nat} {L : q_L} {r : List Value} {M : q_M} {off : Int} {k : Nat} (h : decode (q_code y) pc = .ok (.ifnull off, 3)) : q_g y X Q pc L (.ref k :: r) M = q_g y X Q (pc + 3) (L) (r) (M) := by
  rw [q_g_eq]
  unfold q_at
  rw [h]
  rfl
theorem r_ifnonnull {y : Nat} {X : q_X} {Q : q_R} {pc : Nat} {L : q_L} {r : List Value} {M : q_M} {off : Int} {k t : Nat} (ht : q_tok pc off = true) (ht2 : q_to pc off = t) (h : decode (q_code y) pc = .ok (.ifnonnull off, 3)) : q_g y X Q pc L (.ref k :: r) M = q_g y X Q (t) (L) (r) (M) := by
  rw [q_g_eq]
  unfold q_at
  rw [h]
  subst ht2
  simp only [q_exec, q_br, ht]
  rfl
theorem r_goto {y : Nat} {X : q_X} {Q : q_R} {pc : Nat} {L : q_L} {r : List Value} {M : q_M} {off : Int} {t : Nat} (ht : q_tok pc off = true) (ht2 : q_to pc off = t) (h : decode (q_code y) pc = .ok (.goto off, 3)) : q_g y X Q pc L (r) M = q_g y X Q (t) (L) (r) (M) := by
  rw [q_g_eq]
  unfold q_at
  rw [h]
  subst ht2
  simp only [q_exec, q_br, ht]
  rfl
theorem r_if_eq {y : Nat} {X : q_X} {Q : q_R} {pc : Nat} {L : q_L} {r : List Value} {M : q_M} {off : Int} {x : Int32} {t : Nat} (ht : q_tok pc off = true) (ht2 : q_to pc off = t) (h : decode (q_code y) pc = .ok (.ifCond .eq off, 3)) : q_g y X Q pc L (.int x :: r) M = (if x = 0 then q_g y X Q (t) (L) (r) (M) else q_g y X Q (pc + 3) (L) (r) (M)) := by
  rw [q_g_eq]
  unfold q_at
  rw [h]
  subst ht2
  by_cases hz : x = 0 <;> simp [q_exec, q_br, q_c1, ht, q_gd, q_nx, q_fin, hz]
theorem r_icmp_eq {y : Nat} {X : q_X} {Q : q_R} {pc : Nat} {L : q_L} {r : List Value} {M : q_M} {off : Int} {x w : Int32} {t : Nat} (ht : q_tok pc off = true) (ht2 : q_to pc off = t) (h : decode (q_code y) pc = .ok (.if_icmp .eq off, 3)) : q_g y X Q pc L (.int w :: .int x :: r) M = (if x = w then q_g y X Q (t) (L) (r) (M) else q_g y X Q (pc + 3) (L) (r) (M)) := by
  rw [q_g_eq]
  unfold q_at
  rw [h]
  subst ht2
  by_cases hz : x = w <;> simp [q_exec, q_br, q_c2, ht, q_gd, q_nx, q_fin, hz]
theorem r_if_ne {y : Nat} {X : q_X} {Q : q_R} {pc : Nat} {L : q_L} {r : List Value} {M : q_M} {off : Int} {x : Int32} {t : Nat} (ht : q_tok pc off = true) (ht2 : q_to pc off = t) (h : decode (q_code y) pc = .ok (.ifCond .ne off, 3)) : q_g y X Q pc L (.int x :: r) M = (if ¬ x = 0 then q_g y X Q (t) (L) (r) (M) else q_g y X Q (pc + 3) (L) (r) (M)) := by
  rw [q_g_eq]
  unfold q_at
  rw [h]
  subst ht2
  by_cases hz : x = 0 <;> simp [q_exec, q_br, q_c1, ht, q_gd, q_nx, q_fin, hz]
theorem r_icmp_ne {y : Nat} {X : q_X} {Q : q_R} {pc : Nat} {L : q_L} {r : List Value} {M : q_M} {off : Int} {x w : Int32} {t : Nat} (ht : q_tok pc off = true) (ht2 : q_to pc off = t) (h : decode (q_code y) pc = .ok (.if_icmp .ne off, 3)) : q_g y X Q pc L (.int w :: .int x :: r) M = (if ¬ x = w then q_g y X Q (t) (L) (r) (M) else q_g y X Q (pc + 3) (L) (r) (M)) := by
  rw [q_g_eq]
  unfold q_at
  rw [h]
  subst ht2
  by_cases hz : x = w <;> simp [q_exec, q_br, q_c2, ht, q_gd, q_nx, q_fin, hz]
theorem r_if_lt {y : Nat} {X : q_X} {Q : q_R} {pc : Nat} {L : q_L} {r : List Value} {M : q_M} {off : Int} {x : Int32} {t : Nat} (ht : q_tok pc off = true) (ht2 : q_to pc off = t) (h : decode (q_code y) pc = .ok (.ifCond .lt off, 3)) : q_g y X Q pc L (.int x :: r) M = (if x < 0 then q_g y X Q (t) (L) (r) (M) else q_g y X Q (pc + 3) (L) (r) (M)) := by
  rw [q_g_eq]
  unfold q_at
  rw [h]
  subst ht2
  by_cases hz : x < 0 <;> simp [q_exec, q_br, q_c1, ht, q_gd, q_nx, q_fin, hz]
theorem r_icmp_lt {y : Nat} {X : q_X} {Q : q_R} {pc : Nat} {L : q_L} {r : List Value} {M : q_M} {off : Int} {x w : Int32} {t : Nat} (ht : q_tok pc off = true) (ht2 : q_to pc off = t) (h : decode (q_code y) pc = .ok (.if_icmp .lt off, 3)) : q_g y X Q pc L (.int w :: .int x :: r) M = (if x < w then q_g y X Q (t) (L) (r) (M) else q_g y X Q (pc + 3) (L) (r) (M)) := by
  rw [q_g_eq]
  unfold q_at
  rw [h]
  subst ht2
  by_cases hz : x < w <;> simp [q_exec, q_br, q_c2, ht, q_gd, q_nx, q_fin, hz]
theorem r_if_ge {y : Nat} {X : q_X} {Q : q_R} {pc : Nat} {L : q_L} {r : List Value} {M : q_M} {off : Int} {x : Int32} {t : Nat} (ht : q_tok pc off = true) (ht2 : q_to pc off = t) (h : decode (q_code y) pc = .ok (.ifCond .ge off, 3)) : q_g y X Q pc L (.int x :: r) M = (if 0 ≤ x then q_g y X Q (t) (L) (r) (M) else q_g y X Q (pc + 3) (L) (r) (M)) := by
  rw [q_g_eq]
  unfold q_at
  rw [h]
  subst ht2
  by_cases hz : 0 ≤ x <;> simp [q_exec, q_br, q_c1, ht, q_gd, q_nx, q_fin, hz]
theorem r_icmp_ge {y : Nat} {X : q_X} {Q : q_R} {pc : Nat} {L : q_L} {r : List Value} {M : q_M} {off : Int} {x w : Int32} {t : Nat} (ht : q_tok pc off = true) (ht2 : q_to pc off = t) (h : decode (q_code y) pc = .ok (.if_icmp .ge off, 3)) : q_g y X Q pc L (.int w :: .int x :: r) M = (if w ≤ x then q_g y X Q (t) (L) (r) (M) else q_g y X Q (pc + 3) (L) (r) (M)) := by
  rw [q_g_eq]
  unfold q_at
  rw [h]
  subst ht2
  by_cases hz : w ≤ x <;> simp [q_exec, q_br, q_c2, ht, q_gd, q_nx, q_fin, hz]
theorem r_if_gt {y : Nat} {X : q_X} {Q : q_R} {pc : Nat} {L : q_L} {r : List Value} {M : q_M} {off : Int} {x : Int32} {t : Nat} (ht : q_tok pc off = true) (ht2 : q_to pc off = t) (h : decode (q_code y) pc = .ok (.ifCond .gt off, 3)) : q_g y X Q pc L (.int x :: r) M = (if 0 < x then q_g y X Q (t) (L) (r) (M) else q_g y X Q (pc + 3) (L) (r) (M)) := by
  rw [q_g_eq]
  unfold q_at
  rw [h]
  subst ht2
  by_cases hz : 0 < x <;> simp [q_exec, q_br, q_c1, ht, q_gd, q_nx, q_fin, hz]
theorem r_icmp_gt {y : Nat} {X : q_X} {Q : q_R} {pc : Nat} {L : q_L} {r : List Value} {M : q_M} {off : Int} {x w : Int32} {t : Nat} (ht : q_tok pc off = true) (ht2 : q_to pc off = t) (h : decode (q_code y) pc = .ok (.if_icmp .gt off, 3)) : q_g y X Q pc L (.int w :: .int x :: r) M = (if w < x then q_g y X Q (t) (L) (r) (M) else q_g y X Q (pc + 3) (L) (r) (M)) := by
  rw [q_g_eq]
  unfold q_at
  rw [h]
  subst ht2
  by_cases hz : w < x <;> simp [q_exec, q_br, q_c2, ht, q_gd, q_nx, q_fin, hz]
theorem r_if_le {y : Nat} {X : q_X} {Q : q_R} {pc : Nat} {L : q_L} {r : List Value} {M : q_M} {off : Int} {x : Int32} {t : Nat} (ht : q_tok pc off = true) (ht2 : q_to pc off = t) (h : decode (q_code y) pc = .ok (.ifCond .le off, 3)) : q_g y X Q pc L (.int x :: r) M = (if x ≤ 0 then q_g y X Q (t) (L) (r) (M) else q_g y X Q (pc + 3) (L) (r) (M)) := by
  rw [q_g_eq]
  unfold q_at
  rw [h]
  subst ht2
  by_cases hz : x ≤ 0 <;> simp [q_exec, q_br, q_c1, ht, q_gd, q_nx, q_fin, hz]
theorem r_icmp_le {y : Nat} {X : q_X} {Q : q_R} {pc : Nat} {L : q_L} {r : List Value} {M : q_M} {off : Int} {x w : Int32} {t : Nat} (ht : q_tok pc off = true) (ht2 : q_to pc off = t) (h : decode (q_code y) pc = .ok (.if_icmp .le off, 3)) : q_g y X Q pc L (.int w :: .int x :: r) M = (if x ≤ w then q_g y X Q (t) (L) (r) (M) else q_g y X Q (pc + 3) (L) (r) (M)) := by
  rw [q_g_eq]
  unfold q_at
  rw [h]
  subst ht2
  by_cases hz : x ≤ w <;> simp [q_exec, q_br, q_c2, ht, q_gd, q_nx, q_fin, hz]
theorem r_table {y : Nat} {X : q_X} {Q : q_R} {pc : Nat} {L : q_L} {r : List Value} {M : q_M} {n : Nat} {df lo hi : Int} {offs : Array Int} {x : Int32} {off : Int} {t : Nat} (ho : q_sw df lo hi offs x = some off) (ht : q_tok pc off = true) (ht2 : q_to pc off = t) (h : decode (q_code y) pc = .ok (.tableswitch df lo hi offs, n)) : q_g y X Q pc L (.int x :: r) M = q_g y X Q (t) (L) (r) (M) := by
  rw [q_g_eq]
  unfold q_at
  rw [h]
  subst ht2
  simp only [q_exec, ho, ht]
  rfl
theorem r_lookup {y : Nat} {X : q_X} {Q : q_R} {pc : Nat} {L : q_L} {r : List Value} {M : q_M} {n : Nat} {df : Int} {ps : Array (Int × Int)} {x : Int32} {off : Int} {t : Nat} (hp : q_lkok ps = true) (ho : Op.lookupswitch.offset ps.toList df x.toInt = off) (ht : q_tok pc off = true) (ht2 : q_to pc off = t) (h : decode (q_code y) pc = .ok (.lookupswitch df ps, n)) : q_g y X Q pc L (.int x :: r) M = q_g y X Q (t) (L) (r) (M) := by
  rw [q_g_eq]
  unfold q_at
  rw [h]
  subst ho
  subst ht2
  simp only [q_exec, hp, ht]
  rfl
theorem r_call_virtual {y : Nat} {X : q_X} {Q : q_R} {pc : Nat} {L : q_L} {r : List Value} {M : q_M} {i t k b ci : Nat} {st as : List Value} (ht : q_tgt y i = some (t, k, some ci)) (hf : q_fits y t = true) (hk : k ≤ st.length) (hr : (st.drop k).length ≤ 4) (ha : (st.take k).reverse = .ref b :: as) (hd : st.drop k = r) (h : decode (q_code y) pc = .ok (.invokevirtual i, 3)) : q_g y X Q pc L st M = (q_isC ci b = true ∧ q_Run t (.ref b :: as) M (fun v M' => q_g y X Q (pc + 3) L (v.toList ++ r) M')) := by
  subst hd
  rw [q_g_eq]
  unfold q_at
  rw [h]
  cases hz : q_isC ci b <;> simp [q_exec, q_call, ht, hf, ha, hk, q_recv, hz, q_gd, q_fin, Nat.sub_le_iff_le_add.mp (List.length_drop ▸ hr)]
theorem r_call_static {y : Nat} {X : q_X} {Q : q_R} {pc : Nat} {L : q_L} {r : List Value} {M : q_M} {i t k : Nat} {st as : List Value} (ht : q_tgt y i = some (t, k, none)) (hm : q_mm y i = none) (hf : q_fits y t = true) (hk : k ≤ st.length) (hr : (st.drop k).length ≤ 4) (ha : (st.take k).reverse = as) (hd : st.drop k = r) (h : decode (q_code y) pc = .ok (.invokestatic i, 3)) : q_g y X Q pc L st M = q_Run t as M (fun v M' => q_g y X Q (pc + 3) L (v.toList ++ r) M') := by
  subst ha
  subst hd
  rw [q_g_eq]
  unfold q_at
  rw [h]
  simp only [q_exec, hm, q_call, ht, hf, q_recv, decide_eq_true hk, decide_eq_true hr]
  rfl
theorem r_min {y : Nat} {X : q_X} {Q : q_R} {pc : Nat} {L : q_L} {r : List Value} {M : q_M} {i : Nat} {w x : Int32} (hm : q_mm y i = some true) (hf : q_mfit y = true) (h : decode (q_code y) pc = .ok (.invokestatic i, 3)) : q_g y X Q pc L (.int w :: .int x :: r) M = (r.length ≤ 4 ∧ q_g y X Q (pc + 3) L (.int (if w < x then w else x) :: r) M) := by
  rw [q_g_eq]
  unfold q_at
  rw [h]
  by_cases hz : r.length ≤ 4 <;> simp [q_exec, hm, hf, q_gd, q_nx, q_fin, hz]
theorem r_max {y : Nat} {X : q_X} {Q : q_R} {pc : Nat} {L : q_L} {r : List Value} {M : q_M} {i : Nat} {w x : Int32} (hm : q_mm y i = some false) (hf : q_mfit y = true) (h : decode (q_code y) pc = .ok (.invokestatic i, 3)) : q_g y X Q pc L (.int w :: .int x :: r) M = (r.length ≤ 4 ∧ q_g y X Q (pc + 3) L (.int (if x < w then w else x) :: r) M) := by
  rw [q_g_eq]
  unfold q_at
  rw [h]
  by_cases hz : r.length ≤ 4 <;> simp [q_exec, hm, hf, q_gd, q_nx, q_fin, hz]
theorem r_iret {y : Nat} {X : q_X} {Q : q_R} {pc : Nat} {L : q_L} {r : List Value} {M : q_M} {v : Int32} (hr : q_ret y = some .int) (h : decode (q_code y) pc = .ok (.ireturn, 1)) : q_g y X Q pc L ([.int v]) M = Q (some (.int v)) M := by
  rw [q_g_eq]
  unfold q_at
  rw [h]
  simp only [q_exec, q_ireturn, hr]
  rfl
theorem r_zret {y : Nat} {X : q_X} {Q : q_R} {pc : Nat} {L : q_L} {r : List Value} {M : q_M} {v : Int32} (hr : q_ret y = some .boolean) (h : decode (q_code y) pc = .ok (.ireturn, 1)) : q_g y X Q pc L ([.int v]) M = ((v = 0 ∨ v = 1) ∧ Q (some (.int v)) M) := by
  rw [q_g_eq]
  unfold q_at
  rw [h]
  by_cases hz : v = 0 ∨ v = 1 <;> simp [q_exec, q_ireturn, hr, q_gd, q_fin, hz]
theorem r_lret {y : Nat} {X : q_X} {Q : q_R} {pc : Nat} {L : q_L} {r : List Value} {M : q_M} {v : Int64} (hr : q_ret y = some .long) (h : decode (q_code y) pc = .ok (.lreturn, 1)) : q_g y X Q pc L ([.long v]) M = Q (some (.long v)) M := by
  rw [q_g_eq]
  unfold q_at
  rw [h]
  simp only [q_exec, hr]
  rfl
theorem r_vret {y : Nat} {X : q_X} {Q : q_R} {pc : Nat} {L : q_L} {r : List Value} {M : q_M} (hr : q_ret y = none) (h : decode (q_code y) pc = .ok (.return_, 1)) : q_g y X Q pc L ([]) M = Q none M := by
  rw [q_g_eq]
  unfold q_at
  rw [h]
  simp only [q_exec, hr]
  rfl
