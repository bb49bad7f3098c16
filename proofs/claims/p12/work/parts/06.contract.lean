/-! EVERY RUN of the pure machine is a contract -/
set_option maxHeartbeats 4000000 in
theorem q_close {l : Launch} {D : va_G} {cA : ClassId} {ad : Nat → Nat} (hinj : ∀ i j, i < q_lay.length → j < q_lay.length → ad i = ad j → i = j) :
    ∀ y a M R, q_body (q_MetC l D cA ad) y a M R → q_MetC l D cA ad y a M R := by
  intro y a M R hbd hy
  obtain ⟨hlen, hG⟩ := hbd
  refine ⟨R, fun _ _ h => h, ?_⟩
  unfold q_Met
  refine Met.ofW (cc := q_code y) (maxL := q_maxL y) (ret := q_ret y) (q_plain y hy).1 rfl ?_
  intro p e s m args below meth c s₁ B hml hv
  obtain ⟨rfl, hP, hK⟩ := hv
  have hx := B.exec
  have hb := B.bytes
  have hr := B.returns
  have hts := atoms_spec (ws := q_ws y) B.pre
  have hown : s.vm.findClass (q_own y) = some m.cls := by
    have h1 := findClass_of_methodNamed B.named
    rw [(q_plainK y hy).2] at h1
    exact h1
  have hlocks := B.notSynchronized
  rw [lg_entry_eq]
  refine hG (q_Go p l e (headSpec (q_ws y) (q_rm y)).room s m (a.map (q_rho ad)).toArray below meth c 0 0 (MQ below (q_Qc D cA ad R) (a.map (q_rho ad)).toArray s 0 0 (q_A ad)) D cA ad y (q_A ad) s.heap)
    (q_step hx hb hml hown (fun w hw => hts w (List.mem_cons_of_mem _ hw)) hinj (fun k hk => ⟨k, hk, rfl⟩) hK ⟨Nat.le_refl _, Nat.le_refl _⟩ ⟨Nat.zero_le _, Nat.zero_le _⟩ (fun n f h => by cases h) ?_) s.heap [] _ hP va_S.rf (q_lv_entry ad a hlen)
  intro H locs M' v pc ls hRv hP' hS hok
  have hq : ∀ t : State, t.heap = H → s.WarmedH t.vm → q_Qc D cA ad R (a.map (q_rho ad)).toArray s (.returned (v.map (q_rho ad))) t := fun t ht hW =>
    ⟨⟨v, M', rfl, hRv, by rw [ht]; exact hP', va_K.moved hW.alike hK⟩, hS.F ht⟩
  cases v with
  | none => exact W.vret hx hb (hr.trans hok.2) hq hS.2.2 hok.1
  | some v =>
    cases v with
    | int x =>
      rcases hok.2 with h1 | ⟨h1, h2⟩
      · exact W.iret hx hb (hr.trans h1) hq hS.2.2 hok.1
      · exact W.zret hx hb (hr.trans h1) (by rcases h2 with rfl | rfl <;> decide) hq hS.2.2 hok.1
    | long x => exact W.lret hx hb (hr.trans hok.2) hq hS.2.2 hok.1
    | _ => exact False.elim hok
theorem q_contract {l : Launch} {D : va_G} {cA : ClassId} {ad : Nat → Nat} (hinj : ∀ i j, i < q_lay.length → j < q_lay.length → ad i = ad j → i = j) {y : Nat} {a : List Value} {M : q_M} {R : q_R} (h : q_Run y a M R) : q_MetC l D cA ad y a M R :=
  h (q_MetC l D cA ad) q_MetC_mono (q_close hinj)
