/-! an hour: how one goes -/
theorem Eqv.e {σ τ : Nat → Int32} (h : Eqv σ τ) {k : Nat} (hk : k < 7 + 4 * sz σ) : τ k = σ k := (h.2 k hk).symm
theorem Wf.z {σ : Nat → Int32} (h : Wf σ) : σ 1 = nI (sz σ) := h.1
theorem Wf.le {σ : Nat → Int32} (h : Wf σ) : sz σ ≤ 8 := h.2.1
theorem has_c {σ τ : Nat → Int32} (h : Eqv σ τ) (x : Int32) : (fX0_has σ x = 0 ∧ fX5_isOne τ x = 0 ∧ ∀ t, t < sz σ → x ≠ nI t) ∨ ∃ t, t < sz σ ∧ x = nI t ∧ fX0_has σ x = 1 ∧ fX5_isOne τ x = 1 := by
  have hz := h.1.z
  have hz2 := h.1.le
  have e1 : τ 1 = nI (sz σ) := (h.e (by omega)).trans hz
  unfold fX0_has fX5_isOne
  rw [hz, e1]
  rcases Nat.eq_zero_or_pos (sz σ) with h0 | h0
  · rw [h0]
    refine Or.inl ⟨?_, ?_, fun t ht => by omega⟩
    · unfold fX4_isBelow
      by_cases hx : x < 0
      · rw [if_pos hx]
      · rw [if_neg hx, if_pos (show nI 0 ≤ x from fa_of_nlt hx)]
    · unfold fX5_in
      by_cases hx : x < 0
      · rw [if_pos (by rw [show (0 : Int64) = Int32.toInt64 0 from rfl, fa_wide_lt]; exact hx)]
      · rw [if_neg (by rw [show (0 : Int64) = Int32.toInt64 0 from rfl, fa_wide_lt]; exact hx), if_pos (by rw [fa_wide_lt]; exact fa_trans (by decide) (fa_of_nlt hx))]
  · have e2 : nI (sz σ) - 1 = nI (sz σ - 1) := by
      obtain ⟨k, hk⟩ : ∃ k, sz σ = k + 1 := ⟨sz σ - 1, by omega⟩
      rw [hk]; exact nI_pred k
    rw [e2, nI_l (by omega)]
    exact bi_c x h0 (by omega)
theorem spot_v {t : Nat} (w : Nat) : fX5_spotOf (nI t) (nI w) = nI (7 + 4 * t + w) := by
  show ((nI 7 + (nI 4 * nI t)) + nI w) = _
  rw [pk_mul, nI_add, nI_add]
theorem spot0 (t : Nat) : fX5_spotOf (nI t) 0 = nI (7 + 4 * t) := spot_v 0
theorem spot1 (t : Nat) : fX5_spotOf (nI t) 1 = nI (8 + 4 * t) := (spot_v 1).trans (congrArg nI (by omega))
theorem spot2 (t : Nat) : fX5_spotOf (nI t) 2 = nI (9 + 4 * t) := (spot_v 2).trans (congrArg nI (by omega))
theorem spot3 (t : Nat) : fX5_spotOf (nI t) 3 = nI (10 + 4 * t) := (spot_v 3).trans (congrArg nI (by omega))
theorem its_v {τ : Nat → Int32} {t : Nat} {x : Int32} {k : Nat} (hx : fX5_spotOf (nI t) x = nI k) (hk : k < 39) : fX5_its τ (nI t) x = some (τ k) := by
  unfold fX5_its
  rw [hx, if_pos (inbn hk (by omega)), ixn (by omega)]
theorem its0 {τ : Nat → Int32} {t : Nat} (h : t < 8) : fX5_its τ (nI t) 0 = some (τ (7 + 4 * t)) := its_v (spot0 t) (by omega)
theorem its1 {τ : Nat → Int32} {t : Nat} (h : t < 8) : fX5_its τ (nI t) 1 = some (τ (8 + 4 * t)) := its_v (spot1 t) (by omega)
theorem its2 {τ : Nat → Int32} {t : Nat} (h : t < 8) : fX5_its τ (nI t) 2 = some (τ (9 + 4 * t)) := its_v (spot2 t) (by omega)
theorem its3 {τ : Nat → Int32} {t : Nat} (h : t < 8) : fX5_its τ (nI t) 3 = some (τ (10 + 4 * t)) := its_v (spot3 t) (by omega)
theorem bind_some' {α β : Type} (a : α) (f : α → Option β) : Option.bind (some a) f = f a := rfl
/-- the aim, the pace, the steps -/
noncomputable def aimS (σ : Nat → Int32) (t : Nat) : Int32 :=
  if σ (7 + 4 * t) = 2 then fX0_aimOfLaw σ (fX0_clock σ) else if σ (7 + 4 * t) = 3 then (if fX0_rainsAt σ (fX0_clock σ) = 0 then σ (8 + 4 * t) else σ 3) else if σ (7 + 4 * t) = 4 then (if fX0_clock σ < 20 then σ 3 else σ 5) else if σ (7 + 4 * t) = 5 then (if fX0_rainsAt σ (fX0_clock σ) = 0 then fX0_aimOfLaw σ (fX0_clock σ) else σ 5) else σ 3
noncomputable def pcS (σ : Nat → Int32) (t : Nat) : Nat :=
  if σ (7 + 4 * t) = 1 then 2 else if σ (7 + 4 * t) = 2 then 1 else if σ (7 + 4 * t) = 3 then (if fX0_clock σ - fX0_clock σ / 2 * 2 = 0 then 1 else 0) else if σ (7 + 4 * t) = 4 then 3 else 1
def itS (f : Int32 → Int32) : Nat → Int32 → Int32
  | 0, c => c
  | n + 1, c => itS f n (f c)
noncomputable def nc (σ : Nat → Int32) (t : Nat) : Int32 :=
  if σ (10 + 4 * t) = 0 then itS (fun c => fX0_stepFrom σ c (aimS σ t)) (pcS σ t) (σ (8 + 4 * t)) else σ (8 + 4 * t)
theorem aimX {σ : Nat → Int32} {t : Nat} (h : t < 8) : fX0_aimOf σ (nI t) = some (aimS σ t) := by
  unfold fX0_aimOf aimS
  rw [if_pos (inbn h (by omega)), ixn (by omega)]
  simp only [apply_ite some]
theorem law_e (σ : Nat → Int32) : fX5_lawful σ = fX0_aimOfLaw σ (fX0_clock σ) := by
  unfold fX5_lawful fX0_aimOfLaw fX5_in
  have e : fX5_clock σ = fX0_clock σ := rfl
  rw [e]
  generalize fX0_clock σ = c
  have h1 : (Int32.toInt64 c < 10) ↔ c < 10 := fa_wide_lt c 10
  have h2 : (15 < Int32.toInt64 c) ↔ 15 < c := fa_wide_lt 15 c
  by_cases a : c < 10
  · rw [if_pos (h1.mpr a), if_pos rfl, if_pos a]
  · rw [if_neg (fun q => a (h1.mp q)), if_neg a]
    by_cases b : 15 < c
    · rw [if_pos (h2.mpr b), if_pos rfl, if_pos b]
    · rw [if_neg (fun q => b (h2.mp q)), if_neg b, if_neg (by decide)]
theorem rain_e (σ : Nat → Int32) : fX5_rains σ = fX0_rainsAt σ (fX0_clock σ) := rfl
theorem aimM {σ : Nat → Int32} {t : Nat} (h : t < 8) : fX5_aimOf σ (nI t) = some (aimS σ t) := by
  unfold fX5_aimOf aimS
  rw [its0 h, its1 h]
  simp only [bind_some', law_e, rain_e, apply_ite some]
  rfl
theorem paceX {σ : Nat → Int32} {t : Nat} (h : t < 8) : fX0_paceOf σ (nI t) = some (nI (pcS σ t)) := by
  unfold fX0_paceOf pcS
  rw [if_pos (inbn h (by omega)), ixn (by omega)]
  simp only [apply_ite nI, apply_ite some]
  rfl
theorem paceM {σ : Nat → Int32} {t : Nat} (h : t < 8) : fX5_paceOf σ (nI t) = some (nI (pcS σ t)) := by
  unfold fX5_paceOf pcS
  rw [its0 h]
  simp only [bind_some', apply_ite nI, apply_ite some]
  rfl
theorem pcS_le (σ : Nat → Int32) (t : Nat) : pcS σ t ≤ 3 := by
  unfold pcS
  repeat' split
  all_goals omega
