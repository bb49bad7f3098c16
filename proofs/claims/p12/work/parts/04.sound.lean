/-! THE PURE MACHINE IS THE MACHINE: what goes well in the one goes well in the other -/
def q_rho (ad : Nat → Nat) : Value → Value
  | .ref k => .ref (ad k)
  | v => v
theorem q_rho_cat (ad : Nat → Nat) (v : Value) : (q_rho ad v).category = v.category := by cases v <;> rfl
def q_prs (ad : Nat → Nat) : Nat → q_L → List (Nat × Value)
  | _, [] => []
  | i, some v :: r => (i, q_rho ad v) :: q_prs ad (i + 1) r
  | i, none :: r => q_prs ad (i + 1) r
theorem q_prs_mem (ad : Nat → Nat) : ∀ (L : q_L) (b : Nat) (q : Nat × Value), q ∈ q_prs ad b L ↔ ∃ j v, L[j]? = some (some v) ∧ q = (b + j, q_rho ad v)
  | [], b, q => by simp [q_prs]
  | some w :: r, b, q => by
    simp only [q_prs, List.mem_cons, q_prs_mem ad r (b + 1) q]
    constructor
    · rintro (h | ⟨j, v, h1, h2⟩)
      · exact ⟨0, w, rfl, by rw [h]; rfl⟩
      · exact ⟨j + 1, v, by simpa using h1, by rw [h2]; congr 1; omega⟩
    · rintro ⟨j, v, h1, h2⟩
      cases j with
      | zero => simp at h1; subst h1; exact Or.inl h2
      | succ j => exact Or.inr ⟨j, v, by simpa using h1, by rw [h2]; congr 1; omega⟩
  | none :: r, b, q => by
    simp only [q_prs, q_prs_mem ad r (b + 1) q]
    constructor
    · rintro ⟨j, v, h1, h2⟩
      exact ⟨j + 1, v, by simpa using h1, by rw [h2]; congr 1; omega⟩
    · rintro ⟨j, v, h1, h2⟩
      cases j with
      | zero => simp at h1
      | succ j => exact ⟨j, v, by simpa using h1, by rw [h2]; congr 1; omega⟩
theorem q_kill_some {o : Option Value} {w : Value} (h : q_kill o = some w) : o = some w ∧ ¬ w.category = 2 := by
  cases o with
  | none => simp [q_kill] at h
  | some v => cases v <;> simp [q_kill] at h <;> subst h <;> exact ⟨rfl, by simp [Value.category]⟩
theorem q_set1_get : ∀ (L : q_L) (i j : Nat) (v w : Value), (q_set1 L i v)[j]? = some (some w) → (j = i ∧ w = v) ∨ (j ≠ i ∧ L[j]? = some (some w) ∧ ¬ (j + 1 = i ∧ w.category = 2))
  | [], i, j, v, w, h => by simp [q_set1] at h
  | o :: r, 0, 0, v, w, h => by simp [q_set1] at h; exact Or.inl ⟨rfl, h.symm⟩
  | o :: r, 0, j + 1, v, w, h => by simp [q_set1] at h; exact Or.inr ⟨by omega, by simpa using h, by omega⟩
  | o :: r, 1, 0, v, w, h => by
    simp [q_set1] at h
    obtain ⟨h1, h2⟩ := q_kill_some h
    exact Or.inr ⟨by omega, by simp [h1], fun q => h2 q.2⟩
  | o :: r, 1, j + 1, v, w, h => by
    simp only [q_set1, List.getElem?_cons_succ] at h
    rcases q_set1_get r 0 j v w h with ⟨h1, h2⟩ | ⟨h1, h2, h3⟩
    · exact Or.inl ⟨by omega, h2⟩
    · exact Or.inr ⟨by omega, by simpa using h2, by omega⟩
  | o :: r, k + 2, 0, v, w, h => by simp [q_set1] at h; exact Or.inr ⟨by omega, by simp [h], by omega⟩
  | o :: r, k + 2, j + 1, v, w, h => by
    simp only [q_set1, List.getElem?_cons_succ] at h
    rcases q_set1_get r (k + 1) j v w h with ⟨h1, h2⟩ | ⟨h1, h2, h3⟩
    · exact Or.inl ⟨by omega, h2⟩
    · exact Or.inr ⟨by omega, by simpa using h2, fun q => h3 ⟨by omega, q.2⟩⟩
theorem q_set1_len : ∀ (L : q_L) (i : Nat) (v : Value), (q_set1 L i v).length = L.length
  | [], _, _ => rfl
  | _ :: _, 0, _ => rfl
  | _ :: r, 1, v => by simp only [q_set1, List.length_cons, q_set1_len r 0 v]
  | _ :: r, k + 2, v => by simp only [q_set1, List.length_cons, q_set1_len r (k + 1) v]
theorem q_unset_get : ∀ (L : q_L) (i j : Nat) (w : Value), (q_unset L i)[j]? = some (some w) → j ≠ i ∧ L[j]? = some (some w)
  | [], i, j, w, h => by simp [q_unset] at h
  | o :: r, 0, 0, w, h => by simp [q_unset] at h
  | o :: r, 0, j + 1, w, h => by simp [q_unset] at h; exact ⟨by omega, by simpa using h⟩
  | o :: r, k + 1, 0, w, h => by simp [q_unset] at h; exact ⟨by omega, by simp [h]⟩
  | o :: r, k + 1, j + 1, w, h => by
    simp only [q_unset, List.getElem?_cons_succ] at h
    obtain ⟨h1, h2⟩ := q_unset_get r k j w h
    exact ⟨by omega, by simpa using h2⟩
theorem q_unset_len : ∀ (L : q_L) (i : Nat), (q_unset L i).length = L.length
  | [], _ => rfl
  | _ :: _, 0 => rfl
  | _ :: r, k + 1 => by simp only [q_unset, List.length_cons, q_unset_len r k]
/-- the locals -/
def q_lv (ad : Nat → Nat) (ls : Array Slot) (n : Nat) (L : q_L) : Prop := L.length = n ∧ lv_has ls n (q_prs ad 0 L)
theorem q_lv.get {ad : Nat → Nat} {ls : Array Slot} {n : Nat} {L : q_L} (h : q_lv ad ls n L) {i : Nat} {v : Value} (hi : L[i]? = some (some v)) : ls[i]? = some (.val (q_rho ad v)) :=
  h.2.2.2 (i, q_rho ad v) ((q_prs_mem ad L 0 _).mpr ⟨i, v, hi, by simp⟩)
theorem q_lv.lt {ad : Nat → Nat} {ls : Array Slot} {n : Nat} {L : q_L} (h : q_lv ad ls n L) {i : Nat} (hi : i < L.length) : i < n := h.1 ▸ hi
theorem q_lv.set1 {ad : Nat → Nat} {ls ls' : Array Slot} {n : Nat} {L : q_L} (h : q_lv ad ls n L) {i : Nat} {v : Value}
    (h' : lv_has ls' n ((i, q_rho ad v) :: (q_prs ad 0 L).filter (fun q => !(q.1 == i) && !(q.1 + 1 == i && q.2.category == 2)))) : q_lv ad ls' n (q_set1 L i v) := by
  refine ⟨by rw [q_set1_len]; exact h.1, h'.1, h'.2.1, fun q hq => h'.2.2 q ?_⟩
  obtain ⟨j, w, h1, rfl⟩ := (q_prs_mem ad _ 0 q).mp hq
  rcases q_set1_get L i j v w h1 with ⟨rfl, rfl⟩ | ⟨g1, g2, g3⟩
  · simp
  · refine List.mem_cons_of_mem _ (List.mem_filter.mpr ⟨(q_prs_mem ad L 0 _).mpr ⟨j, w, g2, rfl⟩, ?_⟩)
    simp only [Nat.zero_add, q_rho_cat]
    simp only [Bool.and_eq_true, Bool.not_eq_true', beq_eq_false_iff_ne, ne_eq, Bool.and_eq_false_iff]
    refine ⟨g1, ?_⟩
    by_cases e : j + 1 = i
    · exact Or.inr fun z => g3 ⟨e, z⟩
    · exact Or.inl e
theorem q_lv.set2 {ad : Nat → Nat} {ls ls' : Array Slot} {n : Nat} {L : q_L} (h : q_lv ad ls n L) {i : Nat} {v : Value}
    (h' : lv_has ls' n ((i, q_rho ad v) :: (q_prs ad 0 L).filter (fun q => !(q.1 == i) && (!(q.1 == i + 1) && !(q.1 + 1 == i && q.2.category == 2))))) : q_lv ad ls' n (q_unset (q_set1 L i v) (i + 1)) := by
  refine ⟨by rw [q_unset_len, q_set1_len]; exact h.1, h'.1, h'.2.1, fun q hq => h'.2.2 q ?_⟩
  obtain ⟨j, w, h1, rfl⟩ := (q_prs_mem ad _ 0 q).mp hq
  obtain ⟨e1, h1⟩ := q_unset_get _ _ _ _ h1
  rcases q_set1_get L i j v w h1 with ⟨rfl, rfl⟩ | ⟨g1, g2, g3⟩
  · simp
  · refine List.mem_cons_of_mem _ (List.mem_filter.mpr ⟨(q_prs_mem ad L 0 _).mpr ⟨j, w, g2, rfl⟩, ?_⟩)
    simp only [Nat.zero_add, q_rho_cat]
    simp only [Bool.and_eq_true, Bool.not_eq_true', beq_eq_false_iff_ne, ne_eq, Bool.and_eq_false_iff]
    refine ⟨g1, e1, ?_⟩
    by_cases e : j + 1 = i
    · exact Or.inr fun z => g3 ⟨e, z⟩
    · exact Or.inl e
/-- a method's first locals -/
theorem q_lay1_get (ad : Nat → Nat) : ∀ (a : List Value) (b j : Nat) (v : Value), (q_lay1 a)[j]? = some (some v) → (b + j, q_rho ad v) ∈ lv_args b (a.map (q_rho ad))
  | [], b, j, v, h => by simp [q_lay1] at h
  | w :: r, b, j, v, h => by
    simp only [List.map_cons, lv_args, q_rho_cat, List.mem_cons]
    by_cases hc : w.category = 2
    · have e : q_lay1 (w :: r) = some w :: none :: q_lay1 r := by cases w <;> first | rfl | simp [Value.category] at hc
      rw [e] at h
      match j, h with
      | 0, h => simp at h; subst h; exact Or.inl (by simp)
      | 1, h => simp at h
      | j + 2, h =>
        have := q_lay1_get ad r (b + 2) j v (by simpa using h)
        rw [if_pos hc]
        exact Or.inr (by rw [show b + (j + 2) = b + 2 + j by omega]; exact this)
    · have e : q_lay1 (w :: r) = some w :: q_lay1 r := by cases w <;> first | rfl | simp [Value.category] at hc
      rw [e] at h
      match j, h with
      | 0, h => simp at h; subst h; exact Or.inl (by simp)
      | j + 1, h =>
        have := q_lay1_get ad r (b + 1) j v (by simpa using h)
        rw [if_neg hc]
        exact Or.inr (by rw [show b + (j + 1) = b + 1 + j by omega]; exact this)
theorem q_lay1_len (ad : Nat → Nat) : ∀ (a : List Value), (lg_sl (a.map (q_rho ad))).length = (q_lay1 a).length
  | [] => rfl
  | w :: r => by
    have ih := q_lay1_len ad r
    simp only [lg_sl, List.map_cons, List.flatMap_cons, q_rho_cat, List.length_append] at ih ⊢
    rw [ih]
    cases w <;> simp [Value.category, q_lay1] <;> omega
theorem q_lv_entry (ad : Nat → Nat) (a : List Value) {n : Nat} (h : (q_lay1 a).length ≤ n) :
    q_lv ad ((lg_sl (a.map (q_rho ad)) ++ List.replicate (n - (lg_sl (a.map (q_rho ad))).length) Slot.unset).toArray) n (q_args n a) := by
  have h0 := lv_entry (a.map (q_rho ad)) (n := n) (by rw [q_lay1_len]; exact h)
  refine ⟨by simp [q_args]; omega, h0.1, h0.2.1, fun q hq => h0.2.2 q ?_⟩
  obtain ⟨j, v, h1, rfl⟩ := (q_prs_mem ad _ 0 q).mp hq
  unfold q_args at h1
  by_cases hj : j < (q_lay1 a).length
  · rw [List.getElem?_append_left hj] at h1
    exact q_lay1_get ad a 0 j v h1
  · rw [List.getElem?_append_right (by omega)] at h1
    have := List.mem_of_getElem? h1
    simp at this
/-! the world -/
def q_cell (ad : Nat → Nat) (cA : ClassId) (M : q_M) (k : Nat) : Nat ⊕ (Nat × List (Option Nat)) → va_E
  | .inl n => .inl (cA, n, .inl (M k))
  | .inr (ci, fs) => .inr (ci, fs.mapIdx fun j f => match f with
    | some a => .ref (ad a)
    | none => .int (M k j))
def q_wd (ad : Nat → Nat) (cA : ClassId) (M : q_M) : va_W := q_lay.mapIdx fun k c => (ad k, q_cell ad cA M k c)
theorem q_wd_at {ad : Nat → Nat} {cA : ClassId} {M : q_M} {k : Nat} {c : Nat ⊕ (Nat × List (Option Nat))} (h : q_lay[k]? = some c) : (q_wd ad cA M)[k]? = some (ad k, q_cell ad cA M k c) := by
  simp [q_wd, List.getElem?_mapIdx, h]
theorem q_cell_ne {ad : Nat → Nat} {cA : ClassId} {M : q_M} {k k' j : Nat} {v : Int32} (h : k' ≠ k) (c : Nat ⊕ (Nat × List (Option Nat))) : q_cell ad cA (q_put M k j v) k' c = q_cell ad cA M k' c := by
  rcases c with n | ⟨ci, fs⟩ <;> simp [q_cell, q_put, h]
theorem q_wd_set {ad : Nat → Nat} {cA : ClassId} {M : q_M} {k j : Nat} {v : Int32} {c : Nat ⊕ (Nat × List (Option Nat))} {e : va_E} (h : q_lay[k]? = some c) (he : q_cell ad cA (q_put M k j v) k c = e) :
    (q_wd ad cA M).set k (ad k, e) = q_wd ad cA (q_put M k j v) := by
  apply List.ext_getElem?
  intro i
  by_cases hi : i = k
  · subst hi
    rw [q_wd_at h, he, List.getElem?_set_self]
    simp only [q_wd, List.length_mapIdx]
    exact (List.getElem?_eq_some_iff.mp h).1
  · rw [List.getElem?_set_ne (Ne.symm hi)]
    simp only [q_wd, List.getElem?_mapIdx, q_cell_ne hi]
theorem q_wd_arr {ad : Nat → Nat} {cA : ClassId} {M : q_M} {k n j : Nat} {v : Int32} (h : q_lay[k]? = some (.inl n)) :
    (q_wd ad cA M).set k (ad k, .inl (cA, n, .inl (upd (M k) j v))) = q_wd ad cA (q_put M k j v) := q_wd_set h (by simp [q_cell, q_put])
theorem q_wd_obj {ad : Nat → Nat} {cA : ClassId} {M : q_M} {k ci j : Nat} {fs : List (Option Nat)} {v : Int32} (h : q_lay[k]? = some (.inr (ci, fs))) (hj : fs[j]? = some none) :
    (q_wd ad cA M).set k (ad k, .inr (ci, (fs.mapIdx fun j f => match f with
    | some a => Value.ref (ad a)
    | none => .int (M k j)).set j (.int v))) = q_wd ad cA (q_put M k j v) := by
  refine q_wd_set h ?_
  simp only [q_cell]
  congr 2
  apply List.ext_getElem?
  intro i
  by_cases hi : i = j
  · subst hi
    rw [List.getElem?_set_self (by simp only [List.length_mapIdx]; exact (List.getElem?_eq_some_iff.mp hj).1)]
    simp [List.getElem?_mapIdx, hj, q_put, upd]
  · rw [List.getElem?_set_ne (Ne.symm hi)]
    simp only [List.getElem?_mapIdx]
    cases fs[i]? with
    | none => rfl
    | some f => cases f <;> simp [q_put, upd, hi]
def q_A (ad : Nat → Nat) : Nat → Prop := fun q => ∃ k, k < q_lay.length ∧ q = ad k
theorem q_wd_D {ad : Nat → Nat} {cA : ClassId} {M : q_M} {A : Nat → Prop} (hinj : ∀ i j, i < q_lay.length → j < q_lay.length → ad i = ad j → i = j) (hA : ∀ k, k < q_lay.length → A (ad k)) : va_D A (q_wd ad cA M) := by
  have key : ∀ (k : Nat) (q : Nat × va_E), (q_wd ad cA M)[k]? = some q → k < q_lay.length ∧ q.1 = ad k := by
    intro k q h
    simp only [q_wd, List.getElem?_mapIdx] at h
    cases hk : q_lay[k]? with
    | none => rw [hk] at h; simp at h
    | some c =>
      rw [hk] at h
      simp at h
      subst h
      exact ⟨(List.getElem?_eq_some_iff.mp hk).1, rfl⟩
  refine ⟨fun i j p q h1 h2 h3 => ?_, fun k q h => ?_⟩
  · obtain ⟨a1, a2⟩ := key i p h1
    obtain ⟨b1, b2⟩ := key j q h2
    exact hinj i j a1 b1 (by rw [← a2, ← b2]; exact h3)
  · obtain ⟨a1, a2⟩ := key k q h
    rw [a2]
    exact hA k a1
