/-! orders in which THINGS come: what they take, and the least that is left -/
def oI : Nat := 100000000
def go_x (H : q_M) (s t : Nat) : Nat := (s_go H 0 (nI t) (nI s)).toNatClampNeg
def ck_s (H : q_M) (t : Nat) : Nat := (H 3 t).toNatClampNeg
def ck (H : q_M) (im : Bool) (s t : Nat) : Nat := if im = true then go_x H s t * (25200 / ck_s H t) else go_x H s t
def minT (f : Nat → Nat) : Nat → Nat
  | 0 => oI
  | k + 1 => if f k < minT f k then f k else minT f k
def rF (H : q_M) (n W : Nat) (im : Bool) : Nat → Nat → Nat
  | 0, _ => oI
  | f + 1, s => if dif W s = 0 then 0 else minT (fun t => if (mayN H s n).testBit t = true then rF H n W im f (s ||| 2 ^ t) + ck H im s t else oI) n
/-- what is left from s on -/
def rs (H : q_M) (n W : Nat) (im : Bool) (s : Nat) : Nat := rF H n W im (1024 - s) s
/-- k THINGS from h to s take c, the first of them l (10: none) -/
def pth (H : q_M) (n h : Nat) (im : Bool) : Nat → Nat → Nat → Nat → Prop
  | 0, s, c, l => s = h ∧ c = 0 ∧ l = 10
  | k + 1, s, c, l => ∃ p c' l' t, pth H n h im k p c' l' ∧ (mayN H p n).testBit t = true ∧ s = p ||| 2 ^ t ∧ c = c' + ck H im p t ∧ l = if p = h then t else l'
section PATHS
variable {H : q_M} {n h W s t k c l : Nat} {im : Bool}
theorem minT_inf {f : Nat → Nat} : ∀ k, minT f k ≤ oI
  | 0 => Nat.le_refl _
  | k + 1 => by
    have := minT_inf (f := f) k
    unfold minT
    split <;> omega
theorem minT_le {f : Nat → Nat} {t : Nat} : ∀ k, t < k → minT f k ≤ f t
  | 0, ht => absurd ht (by omega)
  | k + 1, ht => by
    unfold minT
    by_cases e : t = k
    · subst e
      split <;> omega
    · have := minT_le (f := f) (t := t) k (by omega)
      split <;> omega
theorem minT_ex {f : Nat → Nat} : ∀ k, minT f k < oI → ∃ t, t < k ∧ f t = minT f k
  | 0, h => absurd h (Nat.lt_irrefl _)
  | k + 1, h => by
    unfold minT at h ⊢
    by_cases c : f k < minT f k
    · rw [if_pos c]
      exact ⟨k, by omega, rfl⟩
    · rw [if_neg c] at h ⊢
      obtain ⟨t, ht, e⟩ := minT_ex k h
      exact ⟨t, by omega, e⟩
theorem minT_congr {f f' : Nat → Nat} : ∀ k, (∀ t, t < k → f t = f' t) → minT f k = minT f' k
  | 0, _ => rfl
  | k + 1, e => by
    unfold minT
    rw [minT_congr k (fun t ht => e t (by omega)), e k (by omega)]
theorem go_xN (g : gH H n h) (ht : t < n) (hs : s < 1024) : 1 ≤ go_x H s t ∧ go_x H s t ≤ 60 ∧ s_go H 0 (nI t) (nI s) = nI (go_x H s t) := by
  obtain ⟨x, x1, x60, e⟩ := go_N (g.2.2.2.2.2 t ht) (by have := g.1; omega) hs
  unfold go_x
  rw [e, nI_clamp (by omega)]
  exact ⟨x1, x60, rfl⟩
theorem ck_sN (g : gH H n h) (ht : t < n) : 1 ≤ ck_s H t ∧ ck_s H t ≤ 10 ∧ H 3 t = nI (ck_s H t) := by
  obtain ⟨-, -, ⟨u, u1, u10, e⟩, -⟩ := g.2.2.2.2.2 t ht
  unfold ck_s
  rw [e, nI_clamp (by omega)]
  exact ⟨u1, u10, rfl⟩
theorem sh_1 : ∀ u, u ≤ 10 → 1 ≤ u → 1 ≤ 25200 / u ∧ 25200 / u ≤ 25200 := by decide
theorem ck_le (g : gH H n h) (ht : t < n) (hs : s < 1024) : 1 ≤ ck H im s t ∧ ck H im s t ≤ 1512000 := by
  obtain ⟨x1, x60, -⟩ := go_xN g ht hs
  obtain ⟨u1, u10, -⟩ := ck_sN g ht
  obtain ⟨d1, d2⟩ := sh_1 _ u10 u1
  unfold ck
  split
  · have a := Nat.mul_le_mul x1 d1
    have b := Nat.mul_le_mul x60 d2
    omega
  · omega
theorem rF_eq (hn : n ≤ 10) : ∀ d s, s < 1024 → 1024 - s = d → ∀ f f', d ≤ f → d ≤ f' → rF H n W im f s = rF H n W im f' s := by
  intro d
  induction d using Nat.strongRecOn with
  | ind d ih =>
    intro s hs hd f f' hf hf'
    obtain ⟨f1, rfl⟩ : ∃ f1, f = f1 + 1 := ⟨f - 1, by omega⟩
    obtain ⟨f2, rfl⟩ : ∃ f2, f' = f2 + 1 := ⟨f' - 1, by omega⟩
    unfold rF
    have e : minT (fun t => if (mayN H s n).testBit t = true then rF H n W im f1 (s ||| 2 ^ t) + ck H im s t else oI) n = minT (fun t => if (mayN H s n).testBit t = true then rF H n W im f2 (s ||| 2 ^ t) + ck H im s t else oI) n := by
      refine minT_congr n fun t ht => ?_
      by_cases c : (mayN H s n).testBit t = true
      · have hb := mayN_dis hs hn t c
        have hg2 := or_bit_gt hb
        have hl := or1_lt hs (show t < 10 by omega)
        rw [if_pos c, if_pos c, ih (1024 - (s ||| 2 ^ t)) (by omega) _ hl rfl f1 f2 (by omega) (by omega)]
      · rw [if_neg c, if_neg c]
    rw [e]
theorem rs_eq (hn : n ≤ 10) (hs : s < 1024) : rs H n W im s = if dif W s = 0 then 0 else minT (fun t => if (mayN H s n).testBit t = true then rs H n W im (s ||| 2 ^ t) + ck H im s t else oI) n := by
  have e : minT (fun t => if (mayN H s n).testBit t = true then rF H n W im (1024 - s - 1) (s ||| 2 ^ t) + ck H im s t else oI) n = minT (fun t => if (mayN H s n).testBit t = true then rs H n W im (s ||| 2 ^ t) + ck H im s t else oI) n := by
    refine minT_congr n fun t ht => ?_
    by_cases c : (mayN H s n).testBit t = true
    · have hb := mayN_dis hs hn t c
      have hg2 := or_bit_gt hb
      have hl := or1_lt hs (show t < 10 by omega)
      have e1 : rF H n W im (1024 - s - 1) (s ||| 2 ^ t) = rs H n W im (s ||| 2 ^ t) := rF_eq hn _ _ hl rfl _ _ (by omega) (Nat.le_refl _)
      rw [if_pos c, if_pos c, e1]
    · rw [if_neg c, if_neg c]
  have e0 : rs H n W im s = rF H n W im (1024 - s - 1 + 1) s := by
    unfold rs
    rw [show 1024 - s - 1 + 1 = 1024 - s by omega]
  rw [e0]
  show (if dif W s = 0 then 0 else minT (fun t => if (mayN H s n).testBit t = true then rF H n W im (1024 - s - 1) (s ||| 2 ^ t) + ck H im s t else oI) n) = _
  rw [e]
theorem rs_inf (hn : n ≤ 10) (hs : s < 1024) : rs H n W im s ≤ oI := by
  rw [rs_eq hn hs]
  split
  · exact Nat.zero_le _
  · exact minT_inf n
theorem rs_z (hn : n ≤ 10) (hs : s < 1024) (e : dif W s = 0) : rs H n W im s = 0 := by rw [rs_eq hn hs, if_pos e]
/-- a go more is never better than the best -/
theorem rs_step (g : gH H n h) (hs : s < 1024) (hm : (mayN H s n).testBit t = true) : rs H n W im s ≤ rs H n W im (s ||| 2 ^ t) + ck H im s t := by
  have ht := (mayN_tb' g hm).1
  rw [rs_eq g.1 hs]
  split
  · exact Nat.zero_le _
  · have := minT_le (f := fun t => if (mayN H s n).testBit t = true then rs H n W im (s ||| 2 ^ t) + ck H im s t else oI) (t := t) n ht
    simp only [hm, if_true] at this
    exact this
theorem rs_ex (g : gH H n h) (hs : s < 1024) (he : ¬ dif W s = 0) (hl : rs H n W im s < oI) : ∃ t, t < n ∧ (mayN H s n).testBit t = true ∧ rs H n W im s = rs H n W im (s ||| 2 ^ t) + ck H im s t := by
  have e := rs_eq (H := H) (W := W) (im := im) g.1 hs
  rw [if_neg he] at e
  rw [e] at hl
  obtain ⟨t, ht, et⟩ := minT_ex n hl
  by_cases c : (mayN H s n).testBit t = true
  · rw [if_pos c] at et
    exact ⟨t, ht, c, e.trans et.symm⟩
  · rw [if_neg c] at et
    rw [← et] at hl
    exact absurd hl (Nat.lt_irrefl _)
theorem rs_pos (g : gH H n h) (hs : s < 1024) (he : ¬ dif W s = 0) : ¬ rs H n W im s = 0 := by
  intro q
  obtain ⟨t, ht, hm, e⟩ := rs_ex (im := im) g hs he (by rw [q]; decide)
  have := (ck_le (im := im) g ht hs).1
  omega
/-! paths -/
theorem pth_lt (g : gH H n h) : ∀ k s c l, pth H n h im k s c l → s < 2 ^ n ∧ h + k ≤ s ∧ k + pcN h 10 ≤ pcN s 10 ∧ c ≤ 1512000 * k ∧ (k = 0 → l = 10) ∧ (1 ≤ k → l < n)
  | 0, s, c, l, hp => by
    obtain ⟨rfl, rfl, rfl⟩ := hp
    exact ⟨g.2.2.2.1, by omega, by omega, by omega, fun _ => rfl, fun q => by omega⟩
  | k + 1, s, c, l, hp => by
    obtain ⟨p, c', l', t, hp', hm, rfl, rfl, rfl⟩ := hp
    obtain ⟨a1, a2, a3, a4, a5, a6⟩ := pth_lt g k p c' l' hp'
    have h2 := two_pow_le g.1
    have h10 := g.1
    have ht := (mayN_tb' g hm).1
    have hb := mayN_dis (show p < 1024 by omega) g.1 t hm
    have hgt := or_bit_gt hb
    have hck := (ck_le (im := im) g ht (show p < 1024 by omega)).2
    have hpc := pc_dif (or1_lt (show p < 1024 by omega) (show t < 10 by omega)) (t := t) (by rw [Nat.testBit_or, Nat.testBit_two_pow_self, Bool.or_true])
    rw [or_dif (show p < 1024 by omega) (by omega) hb] at hpc
    refine ⟨or_ltn a1 (Nat.pow_lt_pow_right (by omega) ht), by omega, by omega, by omega, fun q => by omega, fun _ => ?_⟩
    by_cases e : p = h
    · rw [if_pos e]
      exact ht
    · rw [if_neg e]
      refine a6 ?_
      rcases Nat.eq_zero_or_pos k with z | z
      · subst z
        exact absurd hp'.1 e
      · exact z
theorem pth_h (g : gH H n h) (hp : pth H n h im k h c l) : k = 0 ∧ c = 0 ∧ l = 10 := by
  have := (pth_lt g k h c l hp).2.1
  have hk : k = 0 := by omega
  subst hk
  exact ⟨rfl, hp.2.1, hp.2.2⟩
theorem pth_c (g : gH H n h) (hp : pth H n h im k s c l) : c < 16000000 ∧ l ≤ 10 ∧ k ≤ 10 := by
  obtain ⟨-, -, a3, a4, a5, a6⟩ := pth_lt g k s c l hp
  have h10 := g.1
  have := pcN_le s 10
  rcases Nat.eq_zero_or_pos k with z | z
  · exact ⟨by omega, by rw [a5 z]; omega, by omega⟩
  · have := a6 z
    exact ⟨by omega, by omega, by omega⟩
/-- a path takes at least what is left less what is left behind it; its first THING, too -/
theorem pth_front (g : gH H n h) : ∀ k s c l, pth H n h im k s c l → 1 ≤ k → l < n ∧ (mayN H h n).testBit l = true ∧ ck H im h l + rs H n W im (h ||| 2 ^ l) ≤ c + rs H n W im s
  | 0, _, _, _, _, h1 => absurd h1 (by omega)
  | k + 1, s, c, l, hp, _ => by
    obtain ⟨p, c', l', t, hp', hm, rfl, rfl, rfl⟩ := hp
    have a1 := (pth_lt g k p c' l' hp').1
    have h2 := two_pow_le g.1
    have ht := (mayN_tb' g hm).1
    by_cases e : p = h
    · subst e
      obtain ⟨rfl, rfl, rfl⟩ := pth_h g hp'
      rw [if_pos rfl]
      exact ⟨ht, hm, by omega⟩
    · rw [if_neg e]
      have hk : 1 ≤ k := by
        rcases Nat.eq_zero_or_pos k with z | z
        · subst z
          exact absurd hp'.1 e
        · exact z
      obtain ⟨b1, b2, b3⟩ := pth_front g k p c' l' hp' hk
      have b4 := rs_step (W := W) (im := im) g (show p < 1024 by omega) hm
      exact ⟨b1, b2, by omega⟩
theorem pth_low (g : gH H n h) (hp : pth H n h im k s c l) : rs H n W im h ≤ c + rs H n W im s := by
  rcases Nat.eq_zero_or_pos k with z | z
  · subst z
    obtain ⟨rfl, rfl, -⟩ := hp
    omega
  · obtain ⟨b1, b2, b3⟩ := pth_front (W := W) g k s c l hp z
    have b4 := rs_step (W := W) (im := im) g g.hlt b2
    omega
/-- from where something finite is left one can go on to the end by it -/
theorem pth_on (g : gH H n h) : ∀ d s, s < 1024 → 1024 - s = d → ∀ k c l, ¬ s = h → pth H n h im k s c l → rs H n W im s < oI → ∃ k' s' , pth H n h im k' s' (c + rs H n W im s) l ∧ dif W s' = 0 ∧ s' < 2 ^ n := by
  intro d
  induction d using Nat.strongRecOn with
  | ind d ih =>
    intro s hs hd k c l hne hp hl
    by_cases he : dif W s = 0
    · refine ⟨k, s, ?_, he, (pth_lt g k s c l hp).1⟩
      rw [rs_z g.1 hs he, Nat.add_zero]
      exact hp
    · obtain ⟨t, ht, hm, e⟩ := rs_ex g hs he hl
      have h10 := g.1
      have hb := mayN_dis hs g.1 t hm
      have hgt := or_bit_gt hb
      have hl2 := or1_lt hs (show t < 10 by omega)
      have hle := (pth_lt g k s c l hp).2.1
      have hp2 : pth H n h im (k + 1) (s ||| 2 ^ t) (c + ck H im s t) l := ⟨s, c, l, t, hp, hm, rfl, rfl, by rw [if_neg hne]⟩
      obtain ⟨k', s', x1, x2, x3⟩ := ih (1024 - (s ||| 2 ^ t)) (by omega) _ hl2 rfl (k + 1) (c + ck H im s t) l (by omega) hp2 (by omega)
      refine ⟨k', s', ?_, x2, x3⟩
      rw [e, show c + (rs H n W im (s ||| 2 ^ t) + ck H im s t) = c + ck H im s t + rs H n W im (s ||| 2 ^ t) by omega]
      exact x1
/-- .. from the hand, by any first THING that is best -/
theorem pth_best (g : gH H n h) (hm : (mayN H h n).testBit t = true) (e : rs H n W im (h ||| 2 ^ t) + ck H im h t = rs H n W im h) (hl : rs H n W im h < oI) : ∃ k s, pth H n h im k s (rs H n W im h) t ∧ dif W s = 0 ∧ s < 2 ^ n := by
  have h10 := g.1
  have ht := (mayN_tb' g hm).1
  have hb := mayN_dis g.hlt g.1 t hm
  have hgt := or_bit_gt hb
  have hl2 := or1_lt g.hlt (show t < 10 by omega)
  have hp2 : pth H n h im 1 (h ||| 2 ^ t) (0 + ck H im h t) t := ⟨h, 0, 10, t, ⟨rfl, rfl, rfl⟩, hm, rfl, rfl, by rw [if_pos rfl]⟩
  obtain ⟨k', s', x1, x2, x3⟩ := pth_on (W := W) g _ _ hl2 rfl 1 _ t (by omega) hp2 (by omega)
  refine ⟨k', s', ?_, x2, x3⟩
  rw [← e, show rs H n W im (h ||| 2 ^ t) + ck H im h t = 0 + ck H im h t + rs H n W im (h ||| 2 ^ t) by omega]
  exact x1
/-! the first of all best -/
def fsT (c : Nat → Bool) : Nat → Nat → Nat
  | 0, _ => 10
  | k + 1, j => if c j = true then j else fsT c k (j + 1)
theorem fsT_spec {q : Nat → Bool} : ∀ k j, j + k ≤ 10 → (∀ t, j ≤ t → t < j + k → q t = true → fsT q k j < j + k ∧ j ≤ fsT q k j ∧ q (fsT q k j) = true ∧ fsT q k j ≤ t)
  | 0, j, _, t, h1, h2, _ => absurd h2 (by omega)
  | k + 1, j, hj, t, h1, h2, h3 => by
    unfold fsT
    by_cases c : q j = true
    · rw [if_pos c]
      exact ⟨by omega, by omega, c, h1⟩
    · rw [if_neg c]
      have ht : ¬ t = j := fun e => c (by rw [← e]; exact h3)
      obtain ⟨a, b, d, e⟩ := fsT_spec k (j + 1) (by omega) t (by omega) (by omega) h3
      exact ⟨by omega, by omega, d, e⟩
def so_c (H : q_M) (n h W : Nat) (im : Bool) (t : Nat) : Bool := (mayN H h n).testBit t && decide (rs H n W im (h ||| 2 ^ t) + ck H im h t = rs H n W im h)
/-- the first THING of the first of all best orders, 10 for none -/
def so_f (H : q_M) (n h W : Nat) (im : Bool) : Nat := if rs H n W im h = 0 then 10 else fsT (so_c H n h W im) n 0
def lk (l : Nat) : Nat := if l = 10 then 0 else l + 1
/-- the least of all paths to what holds W, by what it takes, then by its first THING -/
def bst (H : q_M) (n h W : Nat) (im : Bool) (F l : Nat) : Prop := (∃ k s, pth H n h im k s F l ∧ dif W s = 0) ∧ ∀ k s c l', pth H n h im k s c l' → dif W s = 0 → F < c ∨ F = c ∧ lk l ≤ lk l'
theorem bst_is (g : gH H n h) {F : Nat} (hb : bst H n h W im F l) : F = rs H n W im h ∧ l = so_f H n h W im := by
  have h2 := two_pow_le g.1
  obtain ⟨⟨k, s, hp, he⟩, hmin⟩ := hb
  obtain ⟨a1, a2, a3, a4, a5, a6⟩ := pth_lt g k s F l hp
  have hs : s < 1024 := by omega
  have z := rs_z (H := H) (im := im) g.1 hs he
  have hlow := pth_low (W := W) g hp
  have hF := (pth_c g hp).1
  have hoI : oI = 100000000 := rfl
  have hD : rs H n W im h < oI := by omega
  by_cases h0 : rs H n W im h = 0
  · have hW : dif W h = 0 := by
      rcases Nat.eq_zero_or_pos (dif W h) with q | q
      · exact q
      · exact absurd h0 (rs_pos g g.hlt (by omega))
    have hm := hmin 0 h 0 10 ⟨rfl, rfl, rfl⟩ hW
    have hlk : lk 10 = 0 := rfl
    have hF0 : F = 0 := by omega
    have hl : lk l = 0 := by omega
    refine ⟨by omega, ?_⟩
    unfold so_f
    rw [if_pos h0]
    unfold lk at hl
    by_cases e : l = 10
    · exact e
    · rw [if_neg e] at hl
      omega
  · have hk : 1 ≤ k := by
      rcases Nat.eq_zero_or_pos k with q | q
      · subst q
        obtain ⟨rfl, -, -⟩ := hp
        exact absurd (rs_z g.1 hs he) h0
      · exact q
    obtain ⟨b1, b2, b3⟩ := pth_front (W := W) g k s F l hp hk
    have b4 := rs_step (W := W) (im := im) g g.hlt b2
    have hex := rs_ex (W := W) (im := im) g g.hlt (fun q => h0 (rs_z g.1 g.hlt q)) hD
    obtain ⟨t1, ht1, hm1, e1⟩ := hex
    have hq1 : so_c H n h W im t1 = true := by
      unfold so_c
      rw [hm1, decide_eq_true e1.symm]
      rfl
    have h10 := g.1
    obtain ⟨f1, f2, f3, f4⟩ := fsT_spec (q := so_c H n h W im) n 0 (by omega) t1 (by omega) (by omega) hq1
    have f3' := (Bool.and_eq_true _ _).mp f3
    obtain ⟨k2, s2, p2, e2, -⟩ := pth_best (W := W) g f3'.1 (of_decide_eq_true f3'.2) hD
    have hm := hmin k2 s2 _ _ p2 e2
    have hFD : F = rs H n W im h := by omega
    have hql : so_c H n h W im l = true := by
      unfold so_c
      rw [b2, decide_eq_true (show rs H n W im (h ||| 2 ^ l) + ck H im h l = rs H n W im h by omega)]
      rfl
    obtain ⟨-, -, -, f5⟩ := fsT_spec (q := so_c H n h W im) n 0 (by omega) l (by omega) (by omega) hql
    refine ⟨hFD, ?_⟩
    unfold so_f
    rw [if_neg h0]
    have hlk : lk l ≤ lk (fsT (so_c H n h W im) n 0) := by omega
    unfold lk at hlk
    rw [if_neg (show ¬ l = 10 by omega), if_neg (show ¬ fsT (so_c H n h W im) n 0 = 10 by omega)] at hlk
    omega
/-- no way to what is wanted: nothing finite is left, and the other way round -/
theorem no_path (g : gH H n h) (hno : ∀ k s c l, pth H n h im k s c l → ¬ dif W s = 0) : rs H n W im h = oI := by
  have h1 := rs_inf (H := H) (W := W) (im := im) g.1 g.hlt
  rcases Nat.lt_or_ge (rs H n W im h) oI with q | q
  · exfalso
    by_cases he : dif W h = 0
    · exact hno 0 h 0 10 ⟨rfl, rfl, rfl⟩ he
    · obtain ⟨t, ht, hm, e⟩ := rs_ex g g.hlt he q
      obtain ⟨k, s, p, e2, -⟩ := pth_best (W := W) g hm e.symm q
      exact hno k s _ _ p e2
  · omega
theorem path_fin (g : gH H n h) (hp : pth H n h im k s c l) (he : dif W s = 0) : rs H n W im h < oI := by
  have h2 := two_pow_le g.1
  have a1 := (pth_lt g k s c l hp).1
  have hlow := pth_low (W := W) g hp
  have z := rs_z (H := H) (im := im) g.1 (show s < 1024 by omega) he
  have hF := (pth_c g hp).1
  have hoI : oI = 100000000 := rfl
  omega
end PATHS
