/-! what a call does to the counts of REFUSALS: none, or one more of a kind -/
def okR : Option Int32 → Bool
  | none => true
  | some w => decide (w = -1 ∨ w = -2 ∨ w = -3 ∨ w = -4 ∨ w = -6)
def rf29 (M : q_M) : Option Int32 → Nat → Int32
  | none => M 29
  | some w => s_ref M w 29
def rf31 (M : q_M) : Option Int32 → Nat → Int32
  | none => M 31
  | some w => s_no M w 31
def fA (M M' : q_M) (o : Option Int32) : Prop := eqx Sq M M' ∧ M' 29 = rf29 M o ∧ okR o = true
def fM (M M' : q_M) (o : Option Int32) : Prop := eqx Sm M M' ∧ M' 31 = rf31 M o ∧ okR o = true
theorem s_put_nI {M : q_M} {k m j : Nat} {v : Int32} (hj : j < m) (hm : m ≤ 2048) : s_put M k m (nI j) v = q_put M k j v := by
  unfold s_put
  have h1 : ¬ nI j < 0 := Int32.not_lt.mpr (nI_pos' (by omega))
  have h2 : ¬ Int32.ofNat m ≤ nI j := nI_ge (b := m) (by omega) (by omega)
  rw [if_neg h1, if_neg h2, nI_clamp (by omega)]
theorem nt_of {b : Bool} (h : ¬ ¬ b = false) : ¬ b = true := by cases b <;> simp at h ⊢
section REF
variable {M M' M1 M2 : q_M} {w : Int32}
theorem fA_ref (hw : okR (some w) = true := by decide) : fA M (s_ref M w) (some w) := ⟨eqx_ref, rfl, hw⟩
theorem fA_rf : fA M M none := ⟨eqx.rf, rfl, rfl⟩
theorem fA_up (e : eqx So M M') : fA M M' none := ⟨e.up So_Sq, e 29 (by decide), rfl⟩
theorem fM_no (hw : okR (some w) = true := by decide) : fM M (s_no M w) (some w) := ⟨eqm_no, rfl, hw⟩
theorem fM_rf : fM M M none := ⟨eqx.rf, rfl, rfl⟩
theorem fM_up (e : eqx Sf M M') : fM M M' none := ⟨e.up SfSm, e 31 (by decide), rfl⟩
/-- both sides count the same -/
def TF (M : q_M) : Prop := ∀ j, j < 7 → M 29 j = M 31 j
theorem ref_at {k : Nat} (hk : k < 7) (hw : -w = nI k) (j : Nat) : s_ref M w 29 j = (if j = k then M 29 k + 1 else M 29 j) ∧ s_no M w 31 j = if j = k then M 31 k + 1 else M 31 j := by
  unfold s_ref s_no
  rw [hw, s_put_nI (by omega) (by omega), s_get_nI (by omega) (by omega), q_put_at, nI_clamp (by omega), q_put_at]
  exact ⟨rfl, rfl⟩
theorem okR_k {w : Int32} (h : okR (some w) = true) : ∃ k, k < 7 ∧ -w = nI k := by
  have h2 : w = -1 ∨ w = -2 ∨ w = -3 ∨ w = -4 ∨ w = -6 := of_decide_eq_true h
  rcases h2 with rfl | rfl | rfl | rfl | rfl
  · exact ⟨1, by omega, by decide⟩
  · exact ⟨2, by omega, by decide⟩
  · exact ⟨3, by omega, by decide⟩
  · exact ⟨4, by omega, by decide⟩
  · exact ⟨6, by omega, by decide⟩
theorem TF.step (t : TF M) (o : Option Int32) (h1 : M1 29 = rf29 M o) (h31 : M1 31 = M 31) (h2 : M2 31 = rf31 M1 o) (h29 : M2 29 = M1 29) (ok : okR o = true) : TF M2 := by
  intro j hj
  rw [h29, h1, h2]
  cases o with
  | none =>
    show M 29 j = M1 31 j
    rw [h31]
    exact t j hj
  | some w =>
    obtain ⟨k, hk, ek⟩ := okR_k ok
    show s_ref M w 29 j = s_no M1 w 31 j
    rw [(ref_at (M := M) hk ek j).1, (ref_at (M := M1) hk ek j).2, h31, t k hk, t j hj]
theorem TF.am (t : TF M) {o : Option Int32} (h1 : fA M M1 o) (h2 : fM M1 M2 o) : TF M2 := t.step o h1.2.1 (h1.1 31 (by decide)) h2.2.1 (h2.1 29 (by decide)) h1.2.2
def gA (M M' : q_M) (o : Option Int32) : Prop := eqx Sn M M' ∧ M' 29 = rf29 M o ∧ okR o = true
def gM (M M' : q_M) (o : Option Int32) : Prop := eqf Sv Gv M M' ∧ M' 31 = rf31 M o ∧ okR o = true
theorem gA_ref (hw : okR (some w) = true := by decide) : gA M (s_ref M w) (some w) := ⟨eqxn_ref, rfl, hw⟩
theorem gA_of (e : eqx Sn M M') (h : M' 29 = M 29) : gA M M' none := ⟨e, h, rfl⟩
theorem gM_no (hw : okR (some w) = true := by decide) : gM M (s_no M w) (some w) := ⟨eqv_no, rfl, hw⟩
theorem gM_of (e : eqf Sv Gv M M') (h : M' 31 = M 31) : gM M M' none := ⟨e, h, rfl⟩
theorem TF.gm (t : TF M) {o : Option Int32} (h1 : gA M M1 o) (h2 : gM M1 M2 o) : TF M2 := t.step o h1.2.1 (h1.1 31 (by decide)) h2.2.1 (h2.1.1 29 (by decide) (by decide)) h1.2.2
theorem TF.same (t : TF M) (h29 : M' 29 = M 29) (h31 : M' 31 = M 31) : TF M' := fun j hj => by rw [h29, h31]; exact t j hj
end REF
