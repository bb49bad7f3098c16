/-! THE PURE MACHINE: a method's code run over a memory of numbers (cell, place -> int), its references the cells' numbers; calls by a method's number, down to a depth -/
abbrev q_M : Type := Nat → Nat → Int32
def q_put (M : q_M) (k j : Nat) (v : Int32) : q_M := fun k' => if k' = k then upd (M k) j v else M k'
abbrev q_L : Type := List (Option Value)
abbrev q_S : Type := Nat × q_L × List Value × q_M
abbrev q_X : Type := Option (Nat × (Nat → Int32))
abbrev q_R : Type := Option Value → q_M → Prop
abbrev q_C : Type := Nat → List Value → q_M → q_R → Prop
abbrev q_G : Type := Nat → q_L → List Value → q_M → Prop
/-- next; a call (method, arguments, where it goes on); an end; nothing: stuck -/
abbrev q_Res : Type := Option (q_S ⊕ ((Nat × List Value × (Nat × q_L × List Value)) ⊕ Option Value))
def q_nx (pc : Nat) (L : q_L) (st : List Value) (M : q_M) : q_Res := some (.inl (pc, L, st, M))
def q_gd (b : Bool) (r : q_Res) : q_Res := match b with
  | true => r
  | false => none
def q_in (i : Int32) (n : Nat) : Bool := decide (¬ (i < 0 ∨ n ≤ i.toNatClampNeg))
def q_alen (k : Nat) : Option Nat := match q_lay[k]? with
  | some (.inl n) => some n
  | _ => none
/-- is the cell an object of that class -/
def q_isC (ci k : Nat) : Bool := match q_lay[k]? with
  | some (.inr (c, _)) => c == ci
  | _ => false
/-- a cell's reference field -/
def q_rf (k j : Nat) : Nat := match q_lay[k]? with
  | some (.inr (_, fs)) => match fs[j]? with
    | some (some a) => a
    | _ => 0
  | _ => 0
def q_alenD (k : Nat) : Nat := (q_alen k).getD 0
def q_ii (f : Int32 → Int32 → Int32) (n pc : Nat) (L : q_L) (st : List Value) (M : q_M) : q_Res := match st with
  | .int b :: .int a :: r => q_gd (n == 1) (q_nx (pc + 1) L (.int (f a b) :: r) M)
  | _ => none
def q_ll (f : Int64 → Int64 → Int64) (n pc : Nat) (L : q_L) (st : List Value) (M : q_M) : q_Res := match st with
  | .long b :: .long a :: r => q_gd (n == 1) (q_nx (pc + 1) L (.long (f a b) :: r) M)
  | _ => none
def q_iload (k n1 n pc : Nat) (L : q_L) (st : List Value) (M : q_M) : q_Res := match L[k]? with
  | some (some (.int x)) => q_gd (n == n1) (q_nx (pc + n1) L (.int x :: st) M)
  | _ => none
def q_lload (k n1 n pc : Nat) (L : q_L) (st : List Value) (M : q_M) : q_Res := match L[k]? with
  | some (some (.long x)) => q_gd (n == n1) (q_nx (pc + n1) L (.long x :: st) M)
  | _ => none
def q_aload (k n1 n pc : Nat) (L : q_L) (st : List Value) (M : q_M) : q_Res := match L[k]? with
  | some (some (.ref x)) => q_gd (n == n1) (q_nx (pc + n1) L (.ref x :: st) M)
  | _ => none
/-- what a store leaves of the place ahead of its own: a long there is gone -/
def q_kill : Option Value → Option Value
  | some (.long _) => none
  | some (.double _) => none
  | o => o
def q_set1 : q_L → Nat → Value → q_L
  | [], _, _ => []
  | _ :: r, 0, v => some v :: r
  | o :: r, 1, v => q_kill o :: q_set1 r 0 v
  | o :: r, k + 2, v => o :: q_set1 r (k + 1) v
def q_unset : q_L → Nat → q_L
  | [], _ => []
  | _ :: r, 0 => none :: r
  | o :: r, k + 1 => o :: q_unset r k
def q_istore (k n1 n pc : Nat) (L : q_L) (st : List Value) (M : q_M) : q_Res := match st with
  | .int x :: r => q_gd (n == n1 && decide (k < L.length)) (q_nx (pc + n1) (q_set1 L k (.int x)) r M)
  | _ => none
def q_lstore (k n1 n pc : Nat) (L : q_L) (st : List Value) (M : q_M) : q_Res := match st with
  | .long x :: r => q_gd (n == n1 && decide (k + 1 < L.length)) (q_nx (pc + n1) (q_unset (q_set1 L k (.long x)) (k + 1)) r M)
  | _ => none
def q_astore (k n1 n pc : Nat) (L : q_L) (st : List Value) (M : q_M) : q_Res := match st with
  | .ref x :: r => q_gd (n == n1 && decide (k < L.length)) (q_nx (pc + n1) (q_set1 L k (.ref x)) r M)
  | _ => none
def q_iinc (k : Nat) (v : Int) (n pc : Nat) (L : q_L) (st : List Value) (M : q_M) : q_Res := match L[k]? with
  | some (some (.int x)) => q_gd (n == 3) (q_nx (pc + 3) (q_set1 L k (.int (x + Int32.ofInt v))) st M)
  | _ => none
def q_to (pc : Nat) (off : Int) : Nat := ((pc : Int) + off).toNat
def q_tok (pc : Nat) (off : Int) : Bool := decide (0 ≤ (pc : Int) + off)
def q_br (b : Bool) (off : Int) (n pc : Nat) (L : q_L) (r : List Value) (M : q_M) : q_Res :=
  q_gd (n == 3 && q_tok pc off) (q_nx (bif b then q_to pc off else pc + 3) L r M)
def q_c1 (c : ClassFile.Cond) (x : Int32) : Bool := match c with
  | .eq => decide (x = 0)
  | .ne => decide (x ≠ 0)
  | .lt => decide (x < 0)
  | .ge => decide (0 ≤ x)
  | .gt => decide (0 < x)
  | .le => decide (x ≤ 0)
def q_c2 (c : ClassFile.Cond) (x y : Int32) : Bool := match c with
  | .eq => decide (x = y)
  | .ne => decide (x ≠ y)
  | .lt => decide (x < y)
  | .ge => decide (y ≤ x)
  | .gt => decide (y < x)
  | .le => decide (x ≤ y)
def q_sw (dflt lo hi : Int) (offs : Array Int) (x : Int32) : Option Int := if x.toInt < lo ∨ hi < x.toInt then some dflt else offs[(x.toInt - lo).toNat]?
def q_lkok (ps : Array (Int × Int)) : Bool := (ps.toList.zip (ps.toList.drop 1)).all (fun (a, next) => a.1 < next.1)
/-- the receiver's class, where there is one -/
def q_recv (o : Option Nat) (a : List Value) : Bool := match o with
  | none => true
  | some ci => match a with
    | .ref k :: _ => q_isC ci k
    | _ => false
/-- a call's target: the method's number, how many arguments with the receiver, the receiver's class -/
def q_call (v : Bool) (y i n pc : Nat) (L : q_L) (st : List Value) (M : q_M) : q_Res := match q_tgt y i with
  | some (t, k, o) => q_gd (n == 3 && (o.isSome == v && (decide (k ≤ st.length) && (decide ((st.drop k).length ≤ 4) && (q_recv o (st.take k).reverse && q_fits y t))))) (some (.inr (.inl (t, (st.take k).reverse, (pc + 3, L, st.drop k)))))
  | none => none
def q_ireturn (y n : Nat) (st : List Value) : q_Res := match st with
  | [.int v] => match q_ret y with
    | some .int => q_gd (n == 1) (some (.inr (.inr (some (.int v)))))
    | some .boolean => q_gd (n == 1 && decide (v = 0 ∨ v = 1)) (some (.inr (.inr (some (.int v)))))
    | _ => none
  | _ => none
def q_exec (y : Nat) (X : q_X) (i : ClassFile.Instr) (n pc : Nat) (L : q_L) (st : List Value) (M : q_M) : q_Res := match i with
  | .iconst v => q_gd (n == 1) (q_nx (pc + 1) L (.int (Int32.ofInt v) :: st) M)
  | .bipush v => q_gd (n == 2) (q_nx (pc + 2) L (.int (Int8.ofInt v).toInt32 :: st) M)
  | .sipush v => q_gd (n == 3) (q_nx (pc + 3) L (.int (Int16.ofInt v).toInt32 :: st) M)
  | .lconst v => q_gd (n == 1) (q_nx (pc + 1) L (.long (Int64.ofNat (v : Nat)) :: st) M)
  | .ldc k => match q_ldc y k with
    | some (.int v) => q_gd (n == 2) (q_nx (pc + 2) L (.int v :: st) M)
    | _ => none
  | .ldc_w k => match q_ldc y k with
    | some (.int v) => q_gd (n == 3) (q_nx (pc + 3) L (.int v :: st) M)
    | _ => none
  | .ldc2_w k => match q_ldc y k with
    | some (.long v) => q_gd (n == 3) (q_nx (pc + 3) L (.long v :: st) M)
    | _ => none
  | .iload k => q_iload k 2 n pc L st M
  | .iload_n k => q_iload k 1 n pc L st M
  | .lload k => q_lload k 2 n pc L st M
  | .lload_n k => q_lload k 1 n pc L st M
  | .aload k => q_aload k 2 n pc L st M
  | .aload_n k => q_aload k 1 n pc L st M
  | .istore k => q_istore k 2 n pc L st M
  | .istore_n k => q_istore k 1 n pc L st M
  | .lstore k => q_lstore k 2 n pc L st M
  | .lstore_n k => q_lstore k 1 n pc L st M
  | .astore k => q_astore k 2 n pc L st M
  | .astore_n k => q_astore k 1 n pc L st M
  | .iinc k v => q_iinc k v n pc L st M
  | .iadd => q_ii (fun a b => a + b) n pc L st M
  | .isub => q_ii (fun a b => a - b) n pc L st M
  | .imul => q_ii (fun a b => a * b) n pc L st M
  | .iand => q_ii (fun a b => a &&& b) n pc L st M
  | .ior => q_ii (fun a b => a ||| b) n pc L st M
  | .ixor => q_ii (fun a b => a ^^^ b) n pc L st M
  | .ishl => q_ii (fun a b => a <<< (b &&& 31)) n pc L st M
  | .ishr => q_ii (fun a b => a >>> (b &&& 31)) n pc L st M
  | .iushr => q_ii (fun a b => (a.toUInt32 >>> (b.toUInt32 &&& Int32.toUInt32 31)).toInt32) n pc L st M
  | .idiv => match st with
    | .int b :: .int a :: r => q_gd (n == 1 && !decide (b = 0)) (q_nx (pc + 1) L (.int (a / b) :: r) M)
    | _ => none
  | .irem => match st with
    | .int b :: .int a :: r => q_gd (n == 1 && !decide (b = 0)) (q_nx (pc + 1) L (.int (a - a / b * b) :: r) M)
    | _ => none
  | .ineg => match st with
    | .int a :: r => q_gd (n == 1) (q_nx (pc + 1) L (.int (-a) :: r) M)
    | _ => none
  | .ladd => q_ll (fun a b => a + b) n pc L st M
  | .lsub => q_ll (fun a b => a - b) n pc L st M
  | .lmul => q_ll (fun a b => a * b) n pc L st M
  | .ldiv => match st with
    | .long b :: .long a :: r => q_gd (n == 1 && !decide (b = 0)) (q_nx (pc + 1) L (.long (a / b) :: r) M)
    | _ => none
  | .lrem => match st with
    | .long b :: .long a :: r => q_gd (n == 1 && !decide (b = 0)) (q_nx (pc + 1) L (.long (a - a / b * b) :: r) M)
    | _ => none
  | .lcmp => match st with
    | .long b :: .long a :: r => q_gd (n == 1) (q_nx (pc + 1) L (.int (lg_cmp a b) :: r) M)
    | _ => none
  | .i2l => match st with
    | .int a :: r => q_gd (n == 1) (q_nx (pc + 1) L (.long a.toInt64 :: r) M)
    | _ => none
  | .dup => match st with
    | v :: r => q_gd (n == 1 && v.category == 1) (q_nx (pc + 1) L (v :: v :: r) M)
    | _ => none
  | .pop => match st with
    | v :: r => q_gd (n == 1 && v.category == 1) (q_nx (pc + 1) L r M)
    | _ => none
  | .pop2 => match st with
    | .long _ :: r => q_gd (n == 1) (q_nx (pc + 1) L r M)
    | _ => none
  | .dup_x1 => match st with
    | v :: w :: r => q_gd (n == 1 && (v.category == 1 && w.category == 1)) (q_nx (pc + 1) L (v :: w :: v :: r) M)
    | _ => none
  | .dup_x2 => match st with
    | v :: w :: u :: r => q_gd (n == 1 && (v.category == 1 && (w.category == 1 && u.category == 1))) (q_nx (pc + 1) L (v :: w :: u :: v :: r) M)
    | _ => none
  | .dup2 => match st with
    | v :: w :: r => q_gd (n == 1 && (v.category == 1 && w.category == 1)) (q_nx (pc + 1) L (v :: w :: v :: w :: r) M)
    | _ => none
  | .getfield i => match st with
    | .ref k :: r => match q_fld y i with
      | some (ci, j) => match q_sh ci j with
        | some true => q_gd (n == 3 && q_isC ci k) (q_nx (pc + 3) L (.ref (q_rf k j) :: r) M)
        | some false => q_gd (n == 3 && q_isC ci k) (q_nx (pc + 3) L (.int (M k j) :: r) M)
        | none => none
      | none => none
    | _ => none
  | .putfield i => match st with
    | .int x :: .ref k :: r => match q_fld y i with
      | some (ci, j) => match q_sh ci j with
        | some false => q_gd (n == 3 && (q_isC ci k && (!q_isB ci j || decide (x = 0 ∨ x = 1)))) (q_nx (pc + 3) L r (q_put M k j x))
        | _ => none
      | none => none
    | _ => none
  | .iaload => match st with
    | .int a :: .ref k :: r => match q_alen k with
      | some m => q_gd (n == 1 && q_in a m) (q_nx (pc + 1) L (.int (M k a.toNatClampNeg) :: r) M)
      | none => match X with
        | some (m, f) => q_gd (n == 1 && (k == 1000 && q_in a m)) (q_nx (pc + 1) L (.int (f a.toNatClampNeg) :: r) M)
        | none => none
    | _ => none
  | .iastore => match st with
    | .int x :: .int a :: .ref k :: r => match q_alen k with
      | some m => q_gd (n == 1 && q_in a m) (q_nx (pc + 1) L r (q_put M k a.toNatClampNeg x))
      | none => none
    | _ => none
  | .arraylength => match st with
    | .ref k :: r => match q_alen k with
      | some m => q_gd (n == 1) (q_nx (pc + 1) L (.int (Int32.ofNat m) :: r) M)
      | none => match X with
        | some (m, _) => q_gd (n == 1 && k == 1000) (q_nx (pc + 1) L (.int (Int32.ofNat m) :: r) M)
        | none => none
    | _ => none
  | .ifnull off => match st with
    | .ref _ :: r => q_gd (n == 3) (q_nx (pc + 3) L r M)
    | _ => none
  | .ifnonnull off => match st with
    | .ref _ :: r => q_br true off n pc L r M
    | _ => none
  | .ifCond c off => match st with
    | .int x :: r => q_br (q_c1 c x) off n pc L r M
    | _ => none
  | .if_icmp c off => match st with
    | .int b :: .int a :: r => q_br (q_c2 c a b) off n pc L r M
    | _ => none
  | .goto off => q_br true off n pc L st M
  | .tableswitch d lo hi offs => match st with
    | .int x :: r => match q_sw d lo hi offs x with
      | some off => q_gd (q_tok pc off) (q_nx (q_to pc off) L r M)
      | none => none
    | _ => none
  | .lookupswitch d ps => match st with
    | .int x :: r => q_gd (q_lkok ps && q_tok pc (Op.lookupswitch.offset ps.toList d x.toInt)) (q_nx (q_to pc (Op.lookupswitch.offset ps.toList d x.toInt)) L r M)
    | _ => none
  | .invokevirtual i => q_call true y i n pc L st M
  | .invokestatic i => match q_mm y i with
    | some b => match st with
      | .int w :: .int x :: r => q_gd (n == 3 && (q_mfit y && decide (r.length ≤ 4))) (q_nx (pc + 3) L (.int (match b with
        | true => if w < x then w else x
        | false => if x < w then w else x) :: r) M)
      | _ => none
    | none => q_call false y i n pc L st M
  | .ireturn => q_ireturn y n st
  | .lreturn => match st with
    | [.long v] => match q_ret y with
      | some .long => q_gd (n == 1) (some (.inr (.inr (some (.long v)))))
      | _ => none
    | _ => none
  | .return_ => match st with
    | [] => match q_ret y with
      | none => q_gd (n == 1) (some (.inr (.inr none)))
      | _ => none
    | _ => none
  | _ => none
def q_fin (C : q_C) (Q : q_R) (G : q_G) (M : q_M) : q_Res → Prop
  | some (.inl s) => G s.1 s.2.1 s.2.2.1 s.2.2.2
  | some (.inr (.inl c)) => C c.1 c.2.1 M (fun v M' => G c.2.2.1 c.2.2.2.1 (v.toList ++ c.2.2.2.2) M')
  | some (.inr (.inr v)) => Q v M
  | none => False
def q_at (C : q_C) (y : Nat) (X : q_X) (Q : q_R) (G : q_G) (pc : Nat) (L : q_L) (st : List Value) (M : q_M) : Prop := match decode (q_code y) pc with
  | .ok (i, n) => q_fin C Q G M (q_exec y X i n pc L st M)
  | .error _ => False
/-- it goes well from here: the least predicate that is closed under the machine's step -/
def q_gG (C : q_C) (y : Nat) (X : q_X) (Q : q_R) (pc : Nat) (L : q_L) (st : List Value) (M : q_M) : Prop :=
  ∀ G : q_G, (∀ pc L st M, q_at C y X Q G pc L st M → G pc L st M) → G pc L st M
def q_lay1 : List Value → q_L
  | [] => []
  | .long x :: r => some (.long x) :: none :: q_lay1 r
  | .double x :: r => some (.double x) :: none :: q_lay1 r
  | v :: r => some v :: q_lay1 r
def q_args (n : Nat) (a : List Value) : q_L := q_lay1 a ++ List.replicate (n - (q_lay1 a).length) none
def q_mono (C : q_C) : Prop := ∀ t a M R R', (∀ v M', R v M' → R' v M') → C t a M R → C t a M R'
/-- a method's body, its calls by C -/
def q_body (C : q_C) : q_C := fun y a M R => (q_lay1 a).length ≤ q_maxL y ∧ q_gG C y none R 0 (q_args (q_maxL y) a) [] M
/-- a method's run: the least that holds its body -/
def q_Run : q_C := fun y a M R => ∀ C : q_C, q_mono C → (∀ y a M R, q_body C y a M R → C y a M R) → C y a M R
theorem q_at_mono {C C' : q_C} (hC : q_mono C) (hCC : ∀ t a M R, C t a M R → C' t a M R) {y : Nat} {X : q_X} {Q Q' : q_R} {G G' : q_G} (hQ : ∀ v M, Q v M → Q' v M) (hG : ∀ pc L st M, G pc L st M → G' pc L st M) {pc : Nat} {L : q_L} {st : List Value} {M : q_M}
    (h : q_at C y X Q G pc L st M) : q_at C' y X Q' G' pc L st M := by
  unfold q_at at h ⊢
  cases hd : decode (q_code y) pc with
  | error _ => rw [hd] at h; exact h
  | ok i =>
    obtain ⟨i, n⟩ := i
    rw [hd] at h
    dsimp only at h ⊢
    cases he : q_exec y X i n pc L st M with
    | none => rw [he] at h; exact h
    | some r =>
      rw [he] at h
      rcases r with s | c | v
      · exact hG _ _ _ _ h
      · exact hCC _ _ _ _ (hC _ _ _ _ _ (fun v M' q => hG _ _ _ _ q) h)
      · exact hQ _ _ h
theorem q_gG_intro {C : q_C} (hC : q_mono C) {y : Nat} {X : q_X} {Q : q_R} {pc : Nat} {L : q_L} {st : List Value} {M : q_M} (h : q_at C y X Q (q_gG C y X Q) pc L st M) : q_gG C y X Q pc L st M := by
  intro G hG
  exact hG _ _ _ _ (q_at_mono hC (fun _ _ _ _ q => q) (fun _ _ q => q) (fun _ _ _ _ q => q G hG) h)
theorem q_gG_elim {C : q_C} (hC : q_mono C) {y : Nat} {X : q_X} {Q : q_R} {pc : Nat} {L : q_L} {st : List Value} {M : q_M} (h : q_gG C y X Q pc L st M) : q_at C y X Q (q_gG C y X Q) pc L st M :=
  h (q_at C y X Q (q_gG C y X Q)) (fun _ _ _ _ q => q_at_mono hC (fun _ _ _ _ q => q) (fun _ _ q => q) (fun _ _ _ _ q => q_gG_intro hC q) q)
theorem q_gG_mono {C C' : q_C} (hC : q_mono C) (hC' : q_mono C') (hCC : ∀ t a M R, C t a M R → C' t a M R) {y : Nat} {X : q_X} {Q Q' : q_R} (hQ : ∀ v M, Q v M → Q' v M) {pc : Nat} {L : q_L} {st : List Value} {M : q_M} (h : q_gG C y X Q pc L st M) : q_gG C' y X Q' pc L st M :=
  h (q_gG C' y X Q') (fun _ _ _ _ q => q_gG_intro hC' (q_at_mono hC hCC hQ (fun _ _ _ _ q => q) q))
theorem q_Run_mono : q_mono q_Run := fun _ _ _ _ _ hR h C hC hcl => hC _ _ _ _ _ hR (h C hC hcl)
theorem q_body_mono {C C' : q_C} (hC : q_mono C) (hC' : q_mono C') (hCC : ∀ t a M R, C t a M R → C' t a M R) {y : Nat} {a : List Value} {M : q_M} {R R' : q_R} (hR : ∀ v M', R v M' → R' v M') (h : q_body C y a M R) : q_body C' y a M R' :=
  ⟨h.1, q_gG_mono hC hC' hCC hR h.2⟩
theorem q_Run_intro {y : Nat} {a : List Value} {M : q_M} {R : q_R} (h : q_body q_Run y a M R) : q_Run y a M R := fun C hC hcl =>
  hcl _ _ _ _ (q_body_mono q_Run_mono hC (fun _ _ _ _ q => q C hC hcl) (fun _ _ q => q) h)
theorem q_bR_mono : q_mono (q_body q_Run) := fun t a M R R' hR q => q_body_mono (C := q_Run) (C' := q_Run) q_Run_mono q_Run_mono (fun _ _ _ _ q => q) hR q
theorem q_bR_cl : ∀ y a M R, q_body (q_body q_Run) y a M R → q_body q_Run y a M R := fun y a M R q =>
  q_body_mono (C := q_body q_Run) (C' := q_Run) q_bR_mono q_Run_mono (fun _ _ _ _ q => q_Run_intro q) (fun _ _ q => q) q
theorem q_Run_elim {y : Nat} {a : List Value} {M : q_M} {R : q_R} (h : q_Run y a M R) : q_body q_Run y a M R := h (q_body q_Run) q_bR_mono q_bR_cl
def q_g (y : Nat) (X : q_X) (Q : q_R) : q_G := q_gG q_Run y X Q
theorem q_g_eq {y : Nat} {X : q_X} {Q : q_R} {pc : Nat} {L : q_L} {st : List Value} {M : q_M} : q_g y X Q pc L st M = q_at q_Run y X Q (q_g y X Q) pc L st M :=
  propext ⟨q_gG_elim q_Run_mono, q_gG_intro q_Run_mono⟩
/-- a method's entry -/
theorem q_entry {y : Nat} {a : List Value} {M : q_M} {R : q_R} {L : q_L} (h1 : (q_lay1 a).length ≤ q_maxL y) (h2 : q_args (q_maxL y) a = L) : q_Run y a M R = q_g y none R 0 L [] M := by
  subst h2
  exact propext ⟨fun h => (q_Run_elim h).2, fun h => q_Run_intro ⟨h1, h⟩⟩
