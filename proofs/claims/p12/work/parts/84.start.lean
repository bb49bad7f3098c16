/-! THE CLAIM OUT OF ONE WALK OF THE LAW'S BODY. Your part is whole_start (and what it stands on); all else here is the same for every law, but numbers. -/
def R_law : String := "WithoutThemLaw"
def lw_P (b : Addr) (xs : List Int32) (args : Array Value) (s : State) : Prop := args = #[.ref b] ∧ s.IntsAt b xs ∧ xs.length ≤ 2048 ∧ (Jvm.Cond.and given_1 narrow_1).before args s = true
def lw_Q (_ : Array Value) (s : State) (o : Outcome) (t : State) : Prop := o = .returned (some (.int 1)) ∧ Framed s o t [] 47 7059
def lw_Z (below : List Frame) (a : Array Value) (s : State) : State → Prop := fun t => ∃ o, t.status = .running ∧ Ended t below o ∧ lw_Q a s o t
/-- the law's own end, with 1 on the stack, nothing written that was there before, its room as the claim has it -/
theorem lw_ret {p : Program} {l : Launch} {e : Env} {s : State} {m : MethodId} {below : List Frame} {meth : Method} {c : Code} {b : Nat} (hx : p.tables.exec = Jvm.exec) (hb : c.code = code) (hr : meth.sig.returnType = ret) (hlocks : meth.locks = false) {pc : Nat} {H : Heap} {ls : Array Slot} (hdg : decode code pc = .ok (.ireturn, 1)) : W p l e room_1 s m #[Value.ref b] below meth c H [] 47 7059 (lw_Z below #[Value.ref b] s) (F0 m pc ls [.int 1]) := by
  intro T hT X
  obtain ⟨fs, hret, hrun, hended, hW, hframe⟩ := X.leave (v := some (.int 1)) (hlocks := hlocks) (fun h => by rw [hr] at h; cases h)
  have hmeth' : T.vm.method? m = some meth := X.method'
  refine ⟨T.setFrames fs, ?_, .returned (some (.int 1)), hrun, hended, rfl, ⟨_, rfl⟩, hW, hframe⟩
  jvm_step X.here [X.here.top, hx, hb, hdg, hmeth', hr, ret, narrow_b1]
  (try refine ⟨rfl, ?_⟩); (try refine ⟨rfl, ?_⟩)
  first | (intro acts; rw [hret _ acts rfl rfl rfl]) | rw [hret _ _ rfl rfl rfl]
  exact Steps.refl _
/-- what holds at the law's entry: the machine, the code, the tables' words (any of lw_tbl by 'hts w (by decide +kernel)'), the script of L ints xs at the cell b, what the Statement gives of the start (any of its parts by flat_of_before) -/
def lw_At (p : Program) (s : State) (m : MethodId) (meth : Method) (c : Code) (b L : Nat) (xs : Nat → Int32) : Prop :=
  p.tables.exec = Jvm.exec ∧ c.code = code ∧ meth.sig.returnType = ret ∧ c.maxLocals = 4 ∧ s.vm.findClass R_law = some m.cls ∧ (∀ w ∈ lw_tbl, w.before #[Value.ref b] s = true) ∧ va_X b L xs s s.heap ∧ b < s.heap.size ∧ meth.locks = false ∧ (Jvm.Cond.and given_1 narrow_1).before #[Value.ref b] s = true
/-! THE LAW, from its entry -/
theorem nl_0 : decode code 0 = .ok (.new 7, 3) := by decide +kernel
theorem nl_3 : decode code 3 = .ok (.dup, 1) := by decide +kernel
theorem nl_4 : decode code 4 = .ok (.invokespecial 9, 3) := by decide +kernel
theorem nl_7 : decode code 7 = .ok (.astore_n 1, 1) := by decide +kernel
theorem nl_8 : decode code 8 = .ok (.new 10, 3) := by decide +kernel
theorem nl_11 : decode code 11 = .ok (.dup, 1) := by decide +kernel
theorem nl_12 : decode code 12 = .ok (.invokespecial 12, 3) := by decide +kernel
theorem nl_15 : decode code 15 = .ok (.astore_n 2, 1) := by decide +kernel
theorem nl_16 : decode code 16 = .ok (.iconst 0, 1) := by decide +kernel
theorem nl_17 : decode code 17 = .ok (.istore_n 3, 1) := by decide +kernel
theorem nw_cl_a : Cond.classLink "WithoutThemLaw" 7 "WithoutThem" ∈ q_T := q_T_in (i := 54) (by decide +kernel) rfl
theorem nw_cl_m : Cond.classLink "WithoutThemLaw" 10 "WithoutThemModel" ∈ q_T := q_T_in (i := 593) (by decide +kernel) rfl
theorem nw_ml_a : Cond.methodLink "WithoutThemLaw" 9 n_y3 ∈ q_T := q_T_in (i := 56) (by decide +kernel) rfl
theorem nw_ml_m : Cond.methodLink "WithoutThemLaw" 12 n_y4 ∈ q_T := q_T_in (i := 595) (by decide +kernel) rfl
theorem nw_ne9 : Cond.methodLinkNest "WithoutThem" 9 n_y0 "WithoutThem" ∈ lw_tbl := List.mem_of_getElem? (i := 64) (by decide +kernel)
theorem nw_ne24 : Cond.methodLinkNest "WithoutThem" 24 n_y2 "WithoutThem" ∈ lw_tbl := List.mem_of_getElem? (i := 112) (by decide +kernel)
theorem nw_ne31 : Cond.methodLinkNest "WithoutThem" 31 n_y1 "WithoutThem" ∈ lw_tbl := List.mem_of_getElem? (i := 141) (by decide +kernel)
def n_ad (b : Nat) (l : List Nat) : Nat → Nat := fun k => if k = 1000 then b else l.getD k 0
def n_M0 : q_M := fun _ _ => 0
def n_mk {α β : Type} (g : Nat → α → β) : Nat → List α → List β
  | _, [] => []
  | n, a :: l => g n a :: n_mk g (n + 1) l
theorem n_mk_eq {α β : Type} (g : Nat → α → β) : ∀ (l : List α) (n : Nat), l.mapIdx (fun k c => g (n + k) c) = n_mk g n l
  | [], n => rfl
  | a :: l, n => by
    rw [List.mapIdx_cons]
    simp only [n_mk, Nat.add_zero]
    rw [← n_mk_eq g l (n + 1)]
    congr 2
    funext k c
    rw [show n + (k + 1) = n + 1 + k by omega]
theorem n_mk_eq0 {α β : Type} (g : Nat → α → β) (l : List α) : l.mapIdx g = n_mk g 0 l := by
  rw [← n_mk_eq g l 0]
  congr 1
  funext k c
  rw [Nat.zero_add]
def n_cell (ad : Nat → Nat) (cA : ClassId) (M : q_M) (k : Nat) : Nat ⊕ (Nat × List (Option Nat)) → va_E
  | .inl n => .inl (cA, n, .inl (M k))
  | .inr (ci, fs) => .inr (ci, n_mk (fun j f => match f with
    | some a => .ref (ad a)
    | none => .int (M k j)) 0 fs)
theorem n_wd_eq (ad : Nat → Nat) (cA : ClassId) (M : q_M) : q_wd ad cA M = n_mk (fun k c => (ad k, n_cell ad cA M k c)) 0 q_lay := by
  unfold q_wd
  rw [n_mk_eq0]
  congr 1
  funext k c
  rcases c with n | ⟨ci, fs⟩
  · rfl
  · simp only [q_cell, n_cell, n_mk_eq0]
    rfl
set_option maxHeartbeats 4000000 in
set_option maxRecDepth 100000 in
theorem n_world (b : Nat) (cA : ClassId) (a0 a1 a2 a3 a4 a5 a6 a7 a8 a9 a10 a11 a12 a13 a14 a15 a16 a17 a18 a19 a20 a21 a22 a23 a24 a25 a26 a27 a28 a29 a30 a31 a32 a33 a34 a35 a36 a37 a38 a39 a40 a41 a42 a43 a44 a45 a46 : Nat) : ([(a0, .inr (3, [.ref a1, .ref a8, .ref a15, .ref a22, .ref a24, .ref a28, .ref a29, .int 0, .int 0])), (a1, .inr (0, [.ref a2, .ref a3, .ref a4, .ref a5, .ref a6, .ref a7, .int 0, .int 0, .int 0])), (a2, .inl (cA, 10, .inl (fun _ => 0))), (a3, .inl (cA, 10, .inl (fun _ => 0))), (a4, .inl (cA, 10, .inl (fun _ => 0))), (a5, .inl (cA, 10, .inl (fun _ => 0))), (a6, .inl (cA, 10, .inl (fun _ => 0))), (a7, .inl (cA, 10, .inl (fun _ => 0))), (a8, .inr (0, [.ref a9, .ref a10, .ref a11, .ref a12, .ref a13, .ref a14, .int 0, .int 0, .int 0])), (a9, .inl (cA, 10, .inl (fun _ => 0))), (a10, .inl (cA, 10, .inl (fun _ => 0))), (a11, .inl (cA, 10, .inl (fun _ => 0))), (a12, .inl (cA, 10, .inl (fun _ => 0))), (a13, .inl (cA, 10, .inl (fun _ => 0))), (a14, .inl (cA, 10, .inl (fun _ => 0))), (a15, .inr (0, [.ref a16, .ref a17, .ref a18, .ref a19, .ref a20, .ref a21, .int 0, .int 0, .int 0])), (a16, .inl (cA, 10, .inl (fun _ => 0))), (a17, .inl (cA, 10, .inl (fun _ => 0))), (a18, .inl (cA, 10, .inl (fun _ => 0))), (a19, .inl (cA, 10, .inl (fun _ => 0))), (a20, .inl (cA, 10, .inl (fun _ => 0))), (a21, .inl (cA, 10, .inl (fun _ => 0))), (a22, .inr (2, [.ref a23, .int 0, .int 0, .int 0, .int 0, .int 0, .int 0])), (a23, .inl (cA, 96, .inl (fun _ => 0))), (a24, .inr (1, [.ref a25, .ref a26, .ref a27, .int 0, .int 0, .int 0])), (a25, .inl (cA, 1024, .inl (fun _ => 0))), (a26, .inl (cA, 1024, .inl (fun _ => 0))), (a27, .inl (cA, 1024, .inl (fun _ => 0))), (a28, .inl (cA, 12, .inl (fun _ => 0))), (a29, .inl (cA, 7, .inl (fun _ => 0))), (a30, .inr (4, [.ref a31, .ref a32, .ref a33, .ref a34, .ref a35, .ref a36, .ref a37, .int 0, .int 0, .int 0, .ref a38, .ref a39, .ref a40, .ref a41, .int 0, .int 0, .int 0, .ref a42, .int 0, .int 0, .int 0, .ref a43, .ref a44, .ref a45, .ref a46, .int 0])), (a31, .inl (cA, 7, .inl (fun _ => 0))), (a32, .inl (cA, 10, .inl (fun _ => 0))), (a33, .inl (cA, 10, .inl (fun _ => 0))), (a34, .inl (cA, 10, .inl (fun _ => 0))), (a35, .inl (cA, 10, .inl (fun _ => 0))), (a36, .inl (cA, 10, .inl (fun _ => 0))), (a37, .inl (cA, 10, .inl (fun _ => 0))), (a38, .inl (cA, 96, .inl (fun _ => 0))), (a39, .inl (cA, 48, .inl (fun _ => 0))), (a40, .inl (cA, 48, .inl (fun _ => 0))), (a41, .inl (cA, 144, .inl (fun _ => 0))), (a42, .inl (cA, 130, .inl (fun _ => 0))), (a43, .inl (cA, 1024, .inl (fun _ => 0))), (a44, .inl (cA, 1024, .inl (fun _ => 0))), (a45, .inl (cA, 1024, .inl (fun _ => 0))), (a46, .inl (cA, 12, .inl (fun _ => 0)))] : va_W) = q_wd (n_ad b [a0, a1, a2, a3, a4, a5, a6, a7, a8, a9, a10, a11, a12, a13, a14, a15, a16, a17, a18, a19, a20, a21, a22, a23, a24, a25, a26, a27, a28, a29, a30, a31, a32, a33, a34, a35, a36, a37, a38, a39, a40, a41, a42, a43, a44, a45, a46]) cA n_M0 := by
  rw [n_wd_eq]
  rfl
theorem n_inj {ad : Nat → Nat} {cA : ClassId} {M : q_M} {A : Nat → Prop} (hD : va_D A (q_wd ad cA M)) : (∀ i j, i < q_lay.length → j < q_lay.length → ad i = ad j → i = j) ∧ ∀ k, k < q_lay.length → A (ad k) := by
  have at' : ∀ k, k < q_lay.length → ∃ e, (q_wd ad cA M)[k]? = some (ad k, e) := fun k hk => ⟨_, q_wd_at (List.getElem?_eq_getElem hk)⟩
  refine ⟨fun i j hi hj h => ?_, fun k hk => ?_⟩
  · obtain ⟨e, he⟩ := at' i hi
    obtain ⟨f, hf⟩ := at' j hj
    exact hD.1 i j _ _ he hf h
  · obtain ⟨e, he⟩ := at' k hk
    exact hD.2 k _ he
theorem n_TT0 : TT n_M0 :=
  ⟨n_M0, 0, 0, ⟨by omega, nI_0.symm, nI_0.symm, by decide, ⟨0, by omega, nI_0.symm⟩, fun j hj => absurd hj (by omega)⟩, ⟨fun _ _ _ _ _ => rfl, rfl, rfl, rfl⟩, ⟨fun _ _ _ _ _ => rfl, rfl, rfl, rfl⟩, Or.inl ⟨rfl, rfl⟩,
   ⟨0, by omega, nI_0.symm, nI_0.symm, fun j hj => absurd hj (by omega)⟩, ⟨0, by omega, nI_0.symm, nI_0.symm⟩⟩
set_option maxHeartbeats 4000000 in
set_option maxRecDepth 100000 in
theorem n_go {p : Program} {l : Launch} {e : Env} {s : State} {m : MethodId} {below : List Frame} {meth : Method} {c : Code} {b L : Nat} {xs : Nat → Int32} (hL : L ≤ 2048) (C0 : lw_At p s m meth c b L xs) {D : va_G} {cA : ClassId} {ad : Nat → Nat} (hb0 : ad 1000 = b)
    (hK : va_K D vwCl [(cA, .int)] s) {H : Heap} {locs : List Loc} (hP : va_P D vwCl (q_wd ad cA n_M0) H) (hD : va_D (fun q : Nat => s.heap.size ≤ q) (q_wd ad cA n_M0)) (hS : va_S (fun q : Nat => s.heap.size ≤ q) s.heap H locs) {ls : Array Slot} (hl : q_lv ad ls 4 [some (.ref 1000), some (.ref 0), some (.ref 30), some (.int (nI 0))]) :
    W p l e room_1 s m #[Value.ref b] below meth c H locs 47 7059 (lw_Z below #[Value.ref b] s) (F0 m 18 ls []) := by
  obtain ⟨hx, hb, hr, hml, hown, hts, hX, hbl, hlocks, hgv⟩ := id C0
  obtain ⟨hinj, hAd⟩ := n_inj hD
  have h0 := law_loop (xs := xs) (Q := fun v _ => v = some (.int 1)) hL (fun _ => rfl) (L + 4) 0 n_M0 (by omega) (by omega) n_TT0
  have h1 := q_gG_mono (C := q_Run) (C' := q_MetC l D cA ad) q_Run_mono q_MetC_mono (fun _ _ _ _ h => q_contract hinj h) (fun _ _ h => h) h0
  have h2 := h1 _ (q_step (p := p) (l := l) (e := e) (R := room_1) (s := s) (m := m) (args := #[Value.ref b]) (below := below) (meth := meth) (c := c) (cells := 47) (slots := 7059) (Q := lw_Z below #[Value.ref b] s) (D := D) (cA := cA) (ad := ad) (y := 157) (A := fun q : Nat => s.heap.size ≤ q) (H0 := s.heap) hx hb hml hown (fun w hw => hts w ((List.mem_filter.mp hw).1)) hinj hAd hK ⟨Nat.le_of_ble_eq_true rfl, Nat.le_of_ble_eq_true rfl⟩ ⟨Nat.le_of_ble_eq_true rfl, Nat.le_of_ble_eq_true rfl⟩ (fun n f h => by cases h; rw [hb0]; exact ⟨hX, hbl, Nat.not_le.mpr hbl⟩) ?_)
  · exact h2 H locs ls hP hS hl
  · intro H locs M v pc ls hv hP hS hok
    subst hv
    refine va_forget (fun q hq => hS.2.2 q hq) ?_
    exact lw_ret hx hb hr hlocks hok.1
set_option maxHeartbeats 4000000 in
set_option maxRecDepth 100000 in
/-- THE LAW, from its entry -/
theorem whole_start {p : Program} {e : Env} {s : State} {m : MethodId} {below : List Frame} {meth : Method} {c : Code} (l : Launch) (hflags : l.flags = flags0) {b L : Nat} {xs : Nat → Int32} (hL : L ≤ 2048) (C0 : lw_At p s m meth c b L xs) : W p l e room_1 s m #[Value.ref b] below meth c s.heap [] 0 0 (lw_Z below #[Value.ref b] s) (entryFrame m ([Value.ref b] : List Value).toArray 4) := by
  obtain ⟨hx, hb, hr, hml, hown, htsL, hX, hbl, hlocks, hgv⟩ := id C0
  have hown : s.vm.findClass "WithoutThemLaw" = some m.cls := hown
  have hts : ∀ w ∈ q_T, w.before #[Value.ref b] s = true := fun w hw => htsL w ((List.mem_filter.mp hw).1)
  have hA : ∀ q : Nat, s.heap.size ≤ q → (fun q : Nat => s.heap.size ≤ q) q := fun _ h => h
  obtain ⟨c0, i0, hKn0⟩ := u_known (C := RX1) (T := TX1) (N := 9) (n := 9) hts q_iT_0 (hts _ nw_t0)
  obtain ⟨c1, i1, hKn1⟩ := u_known (C := RX2) (T := TX2) (N := 6) (n := 6) hts q_iT_1 (hts _ nw_t1)
  obtain ⟨c2, i2, hKn2⟩ := u_known (C := RX3) (T := TX3) (N := 7) (n := 7) hts q_iT_2 (hts _ nw_t2)
  obtain ⟨c3, i3, hKn3⟩ := u_known (C := RX7) (T := TX7) (N := 9) (n := 9) hts q_iT_3 (hts _ nw_t3)
  obtain ⟨c4, i4, hKn4⟩ := u_known (C := RX8) (T := TX8) (N := 26) (n := 26) hts q_iT_4 (hts _ nw_t4)
  obtain ⟨dC, dI, hKc⟩ : ∃ (dC : Nat → ClassId) (dI : Nat → Nat → Nat), ∀ (k : Nat) (q : vw_C), vwCl[k]? = some q → u_Kn s q.1 q.2.1 q.2.2 (dC k) (dI k) := by
    refine ⟨fun k => match k with | 0 => c0 | 1 => c1 | 2 => c2 | 3 => c3 | _ => c4, fun k => match k with | 0 => i0 | 1 => i1 | 2 => i2 | 3 => i3 | _ => i4, ?_⟩
    intro k q hq
    match k, hq with
    | 0, hq => cases hq; exact hKn0
    | 1, hq => cases hq; exact hKn1
    | 2, hq => cases hq; exact hKn2
    | 3, hq => cases hq; exact hKn3
    | 4, hq => cases hq; exact hKn4
    | k + 5, hq => simp [vwCl] at hq
  obtain ⟨cA, hRA, hAr⟩ : ∃ cA : ClassId, va_RA s cA .int ∧ ArrOfT s cA .int := by
    obtain ⟨cA, kA, comp, h1, h2, h3⟩ := Cond.arrayClass_spec (hts _ nw_ar)
    exact ⟨cA, h1, fun n z => ⟨fun k h => (by cases h), kA, h2, comp, h3⟩⟩
  have hK : va_K (dC, dI) vwCl [(cA, .int)] s := ⟨hKc, fun k q h => by
    have hk : k < 1 := (List.getElem?_eq_some_iff.mp h).1
    rw [show k = 0 by omega] at h
    cases h
    exact ⟨hAr, hRA⟩⟩
  generalize (dC, dI) = D at hK
  have hS : va_S (fun q : Nat => s.heap.size ≤ q) s.heap s.heap [] := va_S.rf
  have hP : va_P D vwCl [] s.heap := fun k q h => by simp at h
  have hD : va_D (fun q : Nat => s.heap.size ≤ q) [] := ⟨fun i j p q h => by simp at h, fun k q h => by simp at h⟩
  have hl := lv_entry ([.ref b]) (n := 4) (Nat.le_of_ble_eq_true rfl)
  rw [lg_entry_eq]
  generalize (lg_sl ([.ref b]) ++ List.replicate (4 - (lg_sl ([.ref b])).length) Slot.unset).toArray = ls at hl ⊢
  have hl : lv_has ls 4 [(0, .ref b)] := hl
  refine va_new (ci := 3) (fs := [.null, .null, .null, .null, .null, .null, .null, .int 0, .int 0]) (C := RX7) (T := TX7) (N := 9) hx hb hts q_iT_3 tyX7 tyX7_ok hown (hts _ nw_cl_a) (hts _ nw_t3) (hts _ nw_n3) hK hP hD hS hA rfl (by decide) (Nat.le_of_ble_eq_true rfl) (Nat.le_of_ble_eq_true rfl) nl_0 (fun a0 H hP hD hS => ?_)
  have hP : va_P D vwCl [(a0, .inr (3, [.null, .null, .null, .null, .null, .null, .null, .int 0, .int 0]))] H := hP
  have hD : va_D (fun q : Nat => s.heap.size ≤ q) [(a0, .inr (3, [.null, .null, .null, .null, .null, .null, .null, .int 0, .int 0]))] := hD
  refine W.widen (k := 1) (n := 9) (Nat.le_of_ble_eq_true rfl) (Nat.le_of_ble_eq_true rfl) ?_
  refine lv_dup hx hb nl_3 rfl ?_
  have hPc := hP.sub (ws' := [(a0, .inr (3, [.null, .null, .null, .null, .null, .null, .null, .int 0, .int 0]))]) [0] rfl
  have hDc := hD.sub (ws' := [(a0, .inr (3, [.null, .null, .null, .null, .null, .null, .null, .int 0, .int 0]))]) [0] (by decide) rfl
  have hFc := va_free (wc := [(a0, .inr (3, [.null, .null, .null, .null, .null, .null, .null, .int 0, .int 0]))]) hD hS hA [0] rfl
  refine va_callv (va_runI (As := []) (rest := [.ref a0]) ⟨hx, hb, hml, hown, hts⟩ (n_c3 l D cA a0 H.size) (cwI 0 hts n_g3 rfl rfl rfl (hts _ nw_n3) (hts _ nw_ml_a) (hts _ nw_i3) rfl (by decide +kernel) ⟨(Nat.le_of_ble_eq_true rfl), (Nat.le_of_ble_eq_true rfl)⟩) ⟨n_blind3, fun U hU hW => ⟨rfl, by rw [hU], by rw [hU]; exact hPc, va_K.moved hW.alike hK, hDc.weaken (fun _ _ _ _ => trivial), va_Nw.warmM hW (va_Nw.of rfl (htsL _ nw_ne9)), va_Nw.warmM hW (va_Nw.of rfl (htsL _ nw_ne24)), va_Nw.warmM hW (va_Nw.of rfl (htsL _ nw_ne31))⟩⟩ rfl rfl hl.1 rfl (lv_room (Nat.le_of_ble_eq_true rfl)) nl_4 ⟨(Nat.le_of_ble_eq_true rfl), (Nat.le_of_ble_eq_true rfl)⟩) hS (fun q _ h => hFc q h) hFc (fun u t H1 locs ht hvm hw hB hz1 hk1 hS => ?_)
  obtain ⟨a1, a2, a3, a4, a5, a6, a7, a8, a9, a10, a11, a12, a13, a14, a15, a16, a17, a18, a19, a20, a21, a22, a23, a24, a25, a26, a27, a28, a29, hP1, hD1⟩ := hB
  rw [ht] at hP1
  obtain ⟨hP, hD⟩ := va_join (wr := []) (w1 := [(a0, .inr (3, [.ref a1, .ref a8, .ref a15, .ref a22, .ref a24, .ref a28, .ref a29, .int 0, .int 0])), (a1, .inr (0, [.ref a2, .ref a3, .ref a4, .ref a5, .ref a6, .ref a7, .int 0, .int 0, .int 0])), (a2, .inl (cA, 10, .inl (fun _ => 0))), (a3, .inl (cA, 10, .inl (fun _ => 0))), (a4, .inl (cA, 10, .inl (fun _ => 0))), (a5, .inl (cA, 10, .inl (fun _ => 0))), (a6, .inl (cA, 10, .inl (fun _ => 0))), (a7, .inl (cA, 10, .inl (fun _ => 0))), (a8, .inr (0, [.ref a9, .ref a10, .ref a11, .ref a12, .ref a13, .ref a14, .int 0, .int 0, .int 0])), (a9, .inl (cA, 10, .inl (fun _ => 0))), (a10, .inl (cA, 10, .inl (fun _ => 0))), (a11, .inl (cA, 10, .inl (fun _ => 0))), (a12, .inl (cA, 10, .inl (fun _ => 0))), (a13, .inl (cA, 10, .inl (fun _ => 0))), (a14, .inl (cA, 10, .inl (fun _ => 0))), (a15, .inr (0, [.ref a16, .ref a17, .ref a18, .ref a19, .ref a20, .ref a21, .int 0, .int 0, .int 0])), (a16, .inl (cA, 10, .inl (fun _ => 0))), (a17, .inl (cA, 10, .inl (fun _ => 0))), (a18, .inl (cA, 10, .inl (fun _ => 0))), (a19, .inl (cA, 10, .inl (fun _ => 0))), (a20, .inl (cA, 10, .inl (fun _ => 0))), (a21, .inl (cA, 10, .inl (fun _ => 0))), (a22, .inr (2, [.ref a23, .int 0, .int 0, .int 0, .int 0, .int 0, .int 0])), (a23, .inl (cA, 96, .inl (fun _ => 0))), (a24, .inr (1, [.ref a25, .ref a26, .ref a27, .int 0, .int 0, .int 0])), (a25, .inl (cA, 1024, .inl (fun _ => 0))), (a26, .inl (cA, 1024, .inl (fun _ => 0))), (a27, .inl (cA, 1024, .inl (fun _ => 0))), (a28, .inl (cA, 12, .inl (fun _ => 0))), (a29, .inl (cA, 7, .inl (fun _ => 0)))]) hP hD [0] [] rfl rfl (by decide) (by decide) hk1 hFc hP1 hD1
  generalize H1 = H at hP hS ⊢
  have hP : va_P D vwCl [(a0, .inr (3, [.ref a1, .ref a8, .ref a15, .ref a22, .ref a24, .ref a28, .ref a29, .int 0, .int 0])), (a1, .inr (0, [.ref a2, .ref a3, .ref a4, .ref a5, .ref a6, .ref a7, .int 0, .int 0, .int 0])), (a2, .inl (cA, 10, .inl (fun _ => 0))), (a3, .inl (cA, 10, .inl (fun _ => 0))), (a4, .inl (cA, 10, .inl (fun _ => 0))), (a5, .inl (cA, 10, .inl (fun _ => 0))), (a6, .inl (cA, 10, .inl (fun _ => 0))), (a7, .inl (cA, 10, .inl (fun _ => 0))), (a8, .inr (0, [.ref a9, .ref a10, .ref a11, .ref a12, .ref a13, .ref a14, .int 0, .int 0, .int 0])), (a9, .inl (cA, 10, .inl (fun _ => 0))), (a10, .inl (cA, 10, .inl (fun _ => 0))), (a11, .inl (cA, 10, .inl (fun _ => 0))), (a12, .inl (cA, 10, .inl (fun _ => 0))), (a13, .inl (cA, 10, .inl (fun _ => 0))), (a14, .inl (cA, 10, .inl (fun _ => 0))), (a15, .inr (0, [.ref a16, .ref a17, .ref a18, .ref a19, .ref a20, .ref a21, .int 0, .int 0, .int 0])), (a16, .inl (cA, 10, .inl (fun _ => 0))), (a17, .inl (cA, 10, .inl (fun _ => 0))), (a18, .inl (cA, 10, .inl (fun _ => 0))), (a19, .inl (cA, 10, .inl (fun _ => 0))), (a20, .inl (cA, 10, .inl (fun _ => 0))), (a21, .inl (cA, 10, .inl (fun _ => 0))), (a22, .inr (2, [.ref a23, .int 0, .int 0, .int 0, .int 0, .int 0, .int 0])), (a23, .inl (cA, 96, .inl (fun _ => 0))), (a24, .inr (1, [.ref a25, .ref a26, .ref a27, .int 0, .int 0, .int 0])), (a25, .inl (cA, 1024, .inl (fun _ => 0))), (a26, .inl (cA, 1024, .inl (fun _ => 0))), (a27, .inl (cA, 1024, .inl (fun _ => 0))), (a28, .inl (cA, 12, .inl (fun _ => 0))), (a29, .inl (cA, 7, .inl (fun _ => 0)))] H := hP
  have hD : va_D (fun q : Nat => s.heap.size ≤ q) [(a0, .inr (3, [.ref a1, .ref a8, .ref a15, .ref a22, .ref a24, .ref a28, .ref a29, .int 0, .int 0])), (a1, .inr (0, [.ref a2, .ref a3, .ref a4, .ref a5, .ref a6, .ref a7, .int 0, .int 0, .int 0])), (a2, .inl (cA, 10, .inl (fun _ => 0))), (a3, .inl (cA, 10, .inl (fun _ => 0))), (a4, .inl (cA, 10, .inl (fun _ => 0))), (a5, .inl (cA, 10, .inl (fun _ => 0))), (a6, .inl (cA, 10, .inl (fun _ => 0))), (a7, .inl (cA, 10, .inl (fun _ => 0))), (a8, .inr (0, [.ref a9, .ref a10, .ref a11, .ref a12, .ref a13, .ref a14, .int 0, .int 0, .int 0])), (a9, .inl (cA, 10, .inl (fun _ => 0))), (a10, .inl (cA, 10, .inl (fun _ => 0))), (a11, .inl (cA, 10, .inl (fun _ => 0))), (a12, .inl (cA, 10, .inl (fun _ => 0))), (a13, .inl (cA, 10, .inl (fun _ => 0))), (a14, .inl (cA, 10, .inl (fun _ => 0))), (a15, .inr (0, [.ref a16, .ref a17, .ref a18, .ref a19, .ref a20, .ref a21, .int 0, .int 0, .int 0])), (a16, .inl (cA, 10, .inl (fun _ => 0))), (a17, .inl (cA, 10, .inl (fun _ => 0))), (a18, .inl (cA, 10, .inl (fun _ => 0))), (a19, .inl (cA, 10, .inl (fun _ => 0))), (a20, .inl (cA, 10, .inl (fun _ => 0))), (a21, .inl (cA, 10, .inl (fun _ => 0))), (a22, .inr (2, [.ref a23, .int 0, .int 0, .int 0, .int 0, .int 0, .int 0])), (a23, .inl (cA, 96, .inl (fun _ => 0))), (a24, .inr (1, [.ref a25, .ref a26, .ref a27, .int 0, .int 0, .int 0])), (a25, .inl (cA, 1024, .inl (fun _ => 0))), (a26, .inl (cA, 1024, .inl (fun _ => 0))), (a27, .inl (cA, 1024, .inl (fun _ => 0))), (a28, .inl (cA, 12, .inl (fun _ => 0))), (a29, .inl (cA, 7, .inl (fun _ => 0)))] := hD
  refine W.widen (k := 30) (n := 3416) (Nat.le_of_ble_eq_true rfl) (Nat.le_of_ble_eq_true rfl) ?_
  refine lv_astore_n (lv' := [(1, .ref a0), (0, .ref b)]) hx hb nl_7 rfl hl (by decide) rfl (fun ls hl => ?_)
  refine va_new (ci := 4) (fs := [.null, .null, .null, .null, .null, .null, .null, .int 0, .int 0, .int 0, .null, .null, .null, .null, .int 0, .int 0, .int 0, .null, .int 0, .int 0, .int 0, .null, .null, .null, .null, .int 0]) (C := RX8) (T := TX8) (N := 26) hx hb hts q_iT_4 tyX8 tyX8_ok hown (hts _ nw_cl_m) (hts _ nw_t4) (hts _ nw_n4) hK hP hD hS hA rfl (by decide) (Nat.le_of_ble_eq_true rfl) (Nat.le_of_ble_eq_true rfl) nl_8 (fun a30 H hP hD hS => ?_)
  have hP : va_P D vwCl [(a0, .inr (3, [.ref a1, .ref a8, .ref a15, .ref a22, .ref a24, .ref a28, .ref a29, .int 0, .int 0])), (a1, .inr (0, [.ref a2, .ref a3, .ref a4, .ref a5, .ref a6, .ref a7, .int 0, .int 0, .int 0])), (a2, .inl (cA, 10, .inl (fun _ => 0))), (a3, .inl (cA, 10, .inl (fun _ => 0))), (a4, .inl (cA, 10, .inl (fun _ => 0))), (a5, .inl (cA, 10, .inl (fun _ => 0))), (a6, .inl (cA, 10, .inl (fun _ => 0))), (a7, .inl (cA, 10, .inl (fun _ => 0))), (a8, .inr (0, [.ref a9, .ref a10, .ref a11, .ref a12, .ref a13, .ref a14, .int 0, .int 0, .int 0])), (a9, .inl (cA, 10, .inl (fun _ => 0))), (a10, .inl (cA, 10, .inl (fun _ => 0))), (a11, .inl (cA, 10, .inl (fun _ => 0))), (a12, .inl (cA, 10, .inl (fun _ => 0))), (a13, .inl (cA, 10, .inl (fun _ => 0))), (a14, .inl (cA, 10, .inl (fun _ => 0))), (a15, .inr (0, [.ref a16, .ref a17, .ref a18, .ref a19, .ref a20, .ref a21, .int 0, .int 0, .int 0])), (a16, .inl (cA, 10, .inl (fun _ => 0))), (a17, .inl (cA, 10, .inl (fun _ => 0))), (a18, .inl (cA, 10, .inl (fun _ => 0))), (a19, .inl (cA, 10, .inl (fun _ => 0))), (a20, .inl (cA, 10, .inl (fun _ => 0))), (a21, .inl (cA, 10, .inl (fun _ => 0))), (a22, .inr (2, [.ref a23, .int 0, .int 0, .int 0, .int 0, .int 0, .int 0])), (a23, .inl (cA, 96, .inl (fun _ => 0))), (a24, .inr (1, [.ref a25, .ref a26, .ref a27, .int 0, .int 0, .int 0])), (a25, .inl (cA, 1024, .inl (fun _ => 0))), (a26, .inl (cA, 1024, .inl (fun _ => 0))), (a27, .inl (cA, 1024, .inl (fun _ => 0))), (a28, .inl (cA, 12, .inl (fun _ => 0))), (a29, .inl (cA, 7, .inl (fun _ => 0))), (a30, .inr (4, [.null, .null, .null, .null, .null, .null, .null, .int 0, .int 0, .int 0, .null, .null, .null, .null, .int 0, .int 0, .int 0, .null, .int 0, .int 0, .int 0, .null, .null, .null, .null, .int 0]))] H := hP
  have hD : va_D (fun q : Nat => s.heap.size ≤ q) [(a0, .inr (3, [.ref a1, .ref a8, .ref a15, .ref a22, .ref a24, .ref a28, .ref a29, .int 0, .int 0])), (a1, .inr (0, [.ref a2, .ref a3, .ref a4, .ref a5, .ref a6, .ref a7, .int 0, .int 0, .int 0])), (a2, .inl (cA, 10, .inl (fun _ => 0))), (a3, .inl (cA, 10, .inl (fun _ => 0))), (a4, .inl (cA, 10, .inl (fun _ => 0))), (a5, .inl (cA, 10, .inl (fun _ => 0))), (a6, .inl (cA, 10, .inl (fun _ => 0))), (a7, .inl (cA, 10, .inl (fun _ => 0))), (a8, .inr (0, [.ref a9, .ref a10, .ref a11, .ref a12, .ref a13, .ref a14, .int 0, .int 0, .int 0])), (a9, .inl (cA, 10, .inl (fun _ => 0))), (a10, .inl (cA, 10, .inl (fun _ => 0))), (a11, .inl (cA, 10, .inl (fun _ => 0))), (a12, .inl (cA, 10, .inl (fun _ => 0))), (a13, .inl (cA, 10, .inl (fun _ => 0))), (a14, .inl (cA, 10, .inl (fun _ => 0))), (a15, .inr (0, [.ref a16, .ref a17, .ref a18, .ref a19, .ref a20, .ref a21, .int 0, .int 0, .int 0])), (a16, .inl (cA, 10, .inl (fun _ => 0))), (a17, .inl (cA, 10, .inl (fun _ => 0))), (a18, .inl (cA, 10, .inl (fun _ => 0))), (a19, .inl (cA, 10, .inl (fun _ => 0))), (a20, .inl (cA, 10, .inl (fun _ => 0))), (a21, .inl (cA, 10, .inl (fun _ => 0))), (a22, .inr (2, [.ref a23, .int 0, .int 0, .int 0, .int 0, .int 0, .int 0])), (a23, .inl (cA, 96, .inl (fun _ => 0))), (a24, .inr (1, [.ref a25, .ref a26, .ref a27, .int 0, .int 0, .int 0])), (a25, .inl (cA, 1024, .inl (fun _ => 0))), (a26, .inl (cA, 1024, .inl (fun _ => 0))), (a27, .inl (cA, 1024, .inl (fun _ => 0))), (a28, .inl (cA, 12, .inl (fun _ => 0))), (a29, .inl (cA, 7, .inl (fun _ => 0))), (a30, .inr (4, [.null, .null, .null, .null, .null, .null, .null, .int 0, .int 0, .int 0, .null, .null, .null, .null, .int 0, .int 0, .int 0, .null, .int 0, .int 0, .int 0, .null, .null, .null, .null, .int 0]))] := hD
  refine W.widen (k := 31) (n := 3442) (Nat.le_of_ble_eq_true rfl) (Nat.le_of_ble_eq_true rfl) ?_
  refine lv_dup hx hb nl_11 rfl ?_
  have hPc := hP.sub (ws' := [(a30, .inr (4, [.null, .null, .null, .null, .null, .null, .null, .int 0, .int 0, .int 0, .null, .null, .null, .null, .int 0, .int 0, .int 0, .null, .int 0, .int 0, .int 0, .null, .null, .null, .null, .int 0]))]) [30] rfl
  have hDc := hD.sub (ws' := [(a30, .inr (4, [.null, .null, .null, .null, .null, .null, .null, .int 0, .int 0, .int 0, .null, .null, .null, .null, .int 0, .int 0, .int 0, .null, .int 0, .int 0, .int 0, .null, .null, .null, .null, .int 0]))]) [30] (by decide) rfl
  have hFc := va_free (wc := [(a30, .inr (4, [.null, .null, .null, .null, .null, .null, .null, .int 0, .int 0, .int 0, .null, .null, .null, .null, .int 0, .int 0, .int 0, .null, .int 0, .int 0, .int 0, .null, .null, .null, .null, .int 0]))]) hD hS hA [30] rfl
  refine va_callv (va_runI (As := []) (rest := [.ref a30]) ⟨hx, hb, hml, hown, hts⟩ (n_c4 l D cA a30 H.size) (cwI 0 hts n_g4 rfl rfl rfl (hts _ nw_n4) (hts _ nw_ml_m) (hts _ nw_i4) rfl (by decide +kernel) ⟨(Nat.le_of_ble_eq_true rfl), (Nat.le_of_ble_eq_true rfl)⟩) ⟨n_blind4, fun U hU hW => ⟨rfl, by rw [hU], by rw [hU]; exact hPc, va_K.moved hW.alike hK, hDc.weaken (fun _ _ _ _ => trivial)⟩⟩ rfl rfl hl.1 rfl (lv_room (Nat.le_of_ble_eq_true rfl)) nl_12 ⟨(Nat.le_of_ble_eq_true rfl), (Nat.le_of_ble_eq_true rfl)⟩) hS (fun q _ h => hFc q h) hFc (fun u t H1 locs ht hvm hw hB hz1 hk1 hS => ?_)
  obtain ⟨a31, a32, a33, a34, a35, a36, a37, a38, a39, a40, a41, a42, a43, a44, a45, a46, hP1, hD1⟩ := hB
  rw [ht] at hP1
  obtain ⟨hP, hD⟩ := va_join (wr := [(a0, .inr (3, [.ref a1, .ref a8, .ref a15, .ref a22, .ref a24, .ref a28, .ref a29, .int 0, .int 0])), (a1, .inr (0, [.ref a2, .ref a3, .ref a4, .ref a5, .ref a6, .ref a7, .int 0, .int 0, .int 0])), (a2, .inl (cA, 10, .inl (fun _ => 0))), (a3, .inl (cA, 10, .inl (fun _ => 0))), (a4, .inl (cA, 10, .inl (fun _ => 0))), (a5, .inl (cA, 10, .inl (fun _ => 0))), (a6, .inl (cA, 10, .inl (fun _ => 0))), (a7, .inl (cA, 10, .inl (fun _ => 0))), (a8, .inr (0, [.ref a9, .ref a10, .ref a11, .ref a12, .ref a13, .ref a14, .int 0, .int 0, .int 0])), (a9, .inl (cA, 10, .inl (fun _ => 0))), (a10, .inl (cA, 10, .inl (fun _ => 0))), (a11, .inl (cA, 10, .inl (fun _ => 0))), (a12, .inl (cA, 10, .inl (fun _ => 0))), (a13, .inl (cA, 10, .inl (fun _ => 0))), (a14, .inl (cA, 10, .inl (fun _ => 0))), (a15, .inr (0, [.ref a16, .ref a17, .ref a18, .ref a19, .ref a20, .ref a21, .int 0, .int 0, .int 0])), (a16, .inl (cA, 10, .inl (fun _ => 0))), (a17, .inl (cA, 10, .inl (fun _ => 0))), (a18, .inl (cA, 10, .inl (fun _ => 0))), (a19, .inl (cA, 10, .inl (fun _ => 0))), (a20, .inl (cA, 10, .inl (fun _ => 0))), (a21, .inl (cA, 10, .inl (fun _ => 0))), (a22, .inr (2, [.ref a23, .int 0, .int 0, .int 0, .int 0, .int 0, .int 0])), (a23, .inl (cA, 96, .inl (fun _ => 0))), (a24, .inr (1, [.ref a25, .ref a26, .ref a27, .int 0, .int 0, .int 0])), (a25, .inl (cA, 1024, .inl (fun _ => 0))), (a26, .inl (cA, 1024, .inl (fun _ => 0))), (a27, .inl (cA, 1024, .inl (fun _ => 0))), (a28, .inl (cA, 12, .inl (fun _ => 0))), (a29, .inl (cA, 7, .inl (fun _ => 0)))]) (w1 := [(a30, .inr (4, [.ref a31, .ref a32, .ref a33, .ref a34, .ref a35, .ref a36, .ref a37, .int 0, .int 0, .int 0, .ref a38, .ref a39, .ref a40, .ref a41, .int 0, .int 0, .int 0, .ref a42, .int 0, .int 0, .int 0, .ref a43, .ref a44, .ref a45, .ref a46, .int 0])), (a31, .inl (cA, 7, .inl (fun _ => 0))), (a32, .inl (cA, 10, .inl (fun _ => 0))), (a33, .inl (cA, 10, .inl (fun _ => 0))), (a34, .inl (cA, 10, .inl (fun _ => 0))), (a35, .inl (cA, 10, .inl (fun _ => 0))), (a36, .inl (cA, 10, .inl (fun _ => 0))), (a37, .inl (cA, 10, .inl (fun _ => 0))), (a38, .inl (cA, 96, .inl (fun _ => 0))), (a39, .inl (cA, 48, .inl (fun _ => 0))), (a40, .inl (cA, 48, .inl (fun _ => 0))), (a41, .inl (cA, 144, .inl (fun _ => 0))), (a42, .inl (cA, 130, .inl (fun _ => 0))), (a43, .inl (cA, 1024, .inl (fun _ => 0))), (a44, .inl (cA, 1024, .inl (fun _ => 0))), (a45, .inl (cA, 1024, .inl (fun _ => 0))), (a46, .inl (cA, 12, .inl (fun _ => 0)))]) hP hD [30] [0, 1, 2, 3, 4, 5, 6, 7, 8, 9, 10, 11, 12, 13, 14, 15, 16, 17, 18, 19, 20, 21, 22, 23, 24, 25, 26, 27, 28, 29] rfl rfl (by decide) (by decide) hk1 hFc hP1 hD1
  generalize H1 = H at hP hS ⊢
  have hP : va_P D vwCl [(a0, .inr (3, [.ref a1, .ref a8, .ref a15, .ref a22, .ref a24, .ref a28, .ref a29, .int 0, .int 0])), (a1, .inr (0, [.ref a2, .ref a3, .ref a4, .ref a5, .ref a6, .ref a7, .int 0, .int 0, .int 0])), (a2, .inl (cA, 10, .inl (fun _ => 0))), (a3, .inl (cA, 10, .inl (fun _ => 0))), (a4, .inl (cA, 10, .inl (fun _ => 0))), (a5, .inl (cA, 10, .inl (fun _ => 0))), (a6, .inl (cA, 10, .inl (fun _ => 0))), (a7, .inl (cA, 10, .inl (fun _ => 0))), (a8, .inr (0, [.ref a9, .ref a10, .ref a11, .ref a12, .ref a13, .ref a14, .int 0, .int 0, .int 0])), (a9, .inl (cA, 10, .inl (fun _ => 0))), (a10, .inl (cA, 10, .inl (fun _ => 0))), (a11, .inl (cA, 10, .inl (fun _ => 0))), (a12, .inl (cA, 10, .inl (fun _ => 0))), (a13, .inl (cA, 10, .inl (fun _ => 0))), (a14, .inl (cA, 10, .inl (fun _ => 0))), (a15, .inr (0, [.ref a16, .ref a17, .ref a18, .ref a19, .ref a20, .ref a21, .int 0, .int 0, .int 0])), (a16, .inl (cA, 10, .inl (fun _ => 0))), (a17, .inl (cA, 10, .inl (fun _ => 0))), (a18, .inl (cA, 10, .inl (fun _ => 0))), (a19, .inl (cA, 10, .inl (fun _ => 0))), (a20, .inl (cA, 10, .inl (fun _ => 0))), (a21, .inl (cA, 10, .inl (fun _ => 0))), (a22, .inr (2, [.ref a23, .int 0, .int 0, .int 0, .int 0, .int 0, .int 0])), (a23, .inl (cA, 96, .inl (fun _ => 0))), (a24, .inr (1, [.ref a25, .ref a26, .ref a27, .int 0, .int 0, .int 0])), (a25, .inl (cA, 1024, .inl (fun _ => 0))), (a26, .inl (cA, 1024, .inl (fun _ => 0))), (a27, .inl (cA, 1024, .inl (fun _ => 0))), (a28, .inl (cA, 12, .inl (fun _ => 0))), (a29, .inl (cA, 7, .inl (fun _ => 0))), (a30, .inr (4, [.ref a31, .ref a32, .ref a33, .ref a34, .ref a35, .ref a36, .ref a37, .int 0, .int 0, .int 0, .ref a38, .ref a39, .ref a40, .ref a41, .int 0, .int 0, .int 0, .ref a42, .int 0, .int 0, .int 0, .ref a43, .ref a44, .ref a45, .ref a46, .int 0])), (a31, .inl (cA, 7, .inl (fun _ => 0))), (a32, .inl (cA, 10, .inl (fun _ => 0))), (a33, .inl (cA, 10, .inl (fun _ => 0))), (a34, .inl (cA, 10, .inl (fun _ => 0))), (a35, .inl (cA, 10, .inl (fun _ => 0))), (a36, .inl (cA, 10, .inl (fun _ => 0))), (a37, .inl (cA, 10, .inl (fun _ => 0))), (a38, .inl (cA, 96, .inl (fun _ => 0))), (a39, .inl (cA, 48, .inl (fun _ => 0))), (a40, .inl (cA, 48, .inl (fun _ => 0))), (a41, .inl (cA, 144, .inl (fun _ => 0))), (a42, .inl (cA, 130, .inl (fun _ => 0))), (a43, .inl (cA, 1024, .inl (fun _ => 0))), (a44, .inl (cA, 1024, .inl (fun _ => 0))), (a45, .inl (cA, 1024, .inl (fun _ => 0))), (a46, .inl (cA, 12, .inl (fun _ => 0)))] H := hP
  have hD : va_D (fun q : Nat => s.heap.size ≤ q) [(a0, .inr (3, [.ref a1, .ref a8, .ref a15, .ref a22, .ref a24, .ref a28, .ref a29, .int 0, .int 0])), (a1, .inr (0, [.ref a2, .ref a3, .ref a4, .ref a5, .ref a6, .ref a7, .int 0, .int 0, .int 0])), (a2, .inl (cA, 10, .inl (fun _ => 0))), (a3, .inl (cA, 10, .inl (fun _ => 0))), (a4, .inl (cA, 10, .inl (fun _ => 0))), (a5, .inl (cA, 10, .inl (fun _ => 0))), (a6, .inl (cA, 10, .inl (fun _ => 0))), (a7, .inl (cA, 10, .inl (fun _ => 0))), (a8, .inr (0, [.ref a9, .ref a10, .ref a11, .ref a12, .ref a13, .ref a14, .int 0, .int 0, .int 0])), (a9, .inl (cA, 10, .inl (fun _ => 0))), (a10, .inl (cA, 10, .inl (fun _ => 0))), (a11, .inl (cA, 10, .inl (fun _ => 0))), (a12, .inl (cA, 10, .inl (fun _ => 0))), (a13, .inl (cA, 10, .inl (fun _ => 0))), (a14, .inl (cA, 10, .inl (fun _ => 0))), (a15, .inr (0, [.ref a16, .ref a17, .ref a18, .ref a19, .ref a20, .ref a21, .int 0, .int 0, .int 0])), (a16, .inl (cA, 10, .inl (fun _ => 0))), (a17, .inl (cA, 10, .inl (fun _ => 0))), (a18, .inl (cA, 10, .inl (fun _ => 0))), (a19, .inl (cA, 10, .inl (fun _ => 0))), (a20, .inl (cA, 10, .inl (fun _ => 0))), (a21, .inl (cA, 10, .inl (fun _ => 0))), (a22, .inr (2, [.ref a23, .int 0, .int 0, .int 0, .int 0, .int 0, .int 0])), (a23, .inl (cA, 96, .inl (fun _ => 0))), (a24, .inr (1, [.ref a25, .ref a26, .ref a27, .int 0, .int 0, .int 0])), (a25, .inl (cA, 1024, .inl (fun _ => 0))), (a26, .inl (cA, 1024, .inl (fun _ => 0))), (a27, .inl (cA, 1024, .inl (fun _ => 0))), (a28, .inl (cA, 12, .inl (fun _ => 0))), (a29, .inl (cA, 7, .inl (fun _ => 0))), (a30, .inr (4, [.ref a31, .ref a32, .ref a33, .ref a34, .ref a35, .ref a36, .ref a37, .int 0, .int 0, .int 0, .ref a38, .ref a39, .ref a40, .ref a41, .int 0, .int 0, .int 0, .ref a42, .int 0, .int 0, .int 0, .ref a43, .ref a44, .ref a45, .ref a46, .int 0])), (a31, .inl (cA, 7, .inl (fun _ => 0))), (a32, .inl (cA, 10, .inl (fun _ => 0))), (a33, .inl (cA, 10, .inl (fun _ => 0))), (a34, .inl (cA, 10, .inl (fun _ => 0))), (a35, .inl (cA, 10, .inl (fun _ => 0))), (a36, .inl (cA, 10, .inl (fun _ => 0))), (a37, .inl (cA, 10, .inl (fun _ => 0))), (a38, .inl (cA, 96, .inl (fun _ => 0))), (a39, .inl (cA, 48, .inl (fun _ => 0))), (a40, .inl (cA, 48, .inl (fun _ => 0))), (a41, .inl (cA, 144, .inl (fun _ => 0))), (a42, .inl (cA, 130, .inl (fun _ => 0))), (a43, .inl (cA, 1024, .inl (fun _ => 0))), (a44, .inl (cA, 1024, .inl (fun _ => 0))), (a45, .inl (cA, 1024, .inl (fun _ => 0))), (a46, .inl (cA, 12, .inl (fun _ => 0)))] := hD
  refine W.widen (k := 47) (n := 7059) (Nat.le_of_ble_eq_true rfl) (Nat.le_of_ble_eq_true rfl) ?_
  refine lv_astore_n (lv' := [(2, .ref a30), (1, .ref a0), (0, .ref b)]) hx hb nl_15 rfl hl (by decide) rfl (fun ls hl => ?_)
  refine lv_iconst (v := 0) hx hb nl_16 (by decide) ?_
  refine lv_istore_n (lv' := [(3, .int 0), (2, .ref a30), (1, .ref a0), (0, .ref b)]) hx hb nl_17 rfl hl (by decide) rfl (fun ls hl => ?_)
  rw [n_world b cA a0 a1 a2 a3 a4 a5 a6 a7 a8 a9 a10 a11 a12 a13 a14 a15 a16 a17 a18 a19 a20 a21 a22 a23 a24 a25 a26 a27 a28 a29 a30 a31 a32 a33 a34 a35 a36 a37 a38 a39 a40 a41 a42 a43 a44 a45 a46] at hP hD
  exact n_go hL C0 (ad := n_ad b [a0, a1, a2, a3, a4, a5, a6, a7, a8, a9, a10, a11, a12, a13, a14, a15, a16, a17, a18, a19, a20, a21, a22, a23, a24, a25, a26, a27, a28, a29, a30, a31, a32, a33, a34, a35, a36, a37, a38, a39, a40, a41, a42, a43, a44, a45, a46]) rfl hK hP hD hS ⟨rfl, lv_sub hl [3, 2, 1, 0] rfl⟩
