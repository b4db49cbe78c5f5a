/-! hours, foreseen and lived -/
theorem in_g (x a b : Int32) : fX5_in (Int32.toInt64 x) (Int32.toInt64 a) (Int32.toInt64 b) = if x < a then 0 else if b < x then 0 else 1 := by
  unfold fX5_in
  simp only [fa_wide_lt]
theorem go_lp {H : Nat} (hH : H < 100) : ∀ (n i : Nat) (σ τ : Nat → Int32), Eqv σ τ → i ≤ H → H - i < n → ∃ a b, fX0_goHours_2 n σ (nI H) (nI i) = some a ∧ fX5_go_2 n τ (nI H) (nI i) = some b ∧ Eqv a b ∧ sz a = sz σ := by
  intro n
  induction n with
  | zero => intro i σ τ _ _ h; omega
  | succ n ih =>
    intro i σ τ h hi hn
    rw [qX0_goHours_2, qX5_go_2]
    by_cases e : H ≤ i
    · have c : nI H ≤ nI i := (nle (by omega) (by omega)).mpr e
      rw [if_pos c, if_pos c]
      exact ⟨_, _, rfl, rfl, h, rfl⟩
    · have c : ¬ nI H ≤ nI i := by rw [nle (by omega) (by omega)]; exact e
      rw [if_neg c, if_neg c]
      obtain ⟨a, b, ea, eb, hab, hr⟩ := hour_sim h
      rw [ea, eb, bind_some', bind_some', ns1]
      obtain ⟨a2, b2, q1, q2, q3, q4⟩ := ih (i + 1) a b hab (by omega) (by omega)
      exact ⟨a2, b2, q1, q2, q3, q4.trans hr.siz⟩
theorem go_sim {σ τ : Nat → Int32} (h : Eqv σ τ) {H : Nat} (hH : H < 100) : ∃ a b, fX0_goHours σ (nI H) = some a ∧ fX5_go τ (nI H) = some b ∧ Eqv a b ∧ sz a = sz σ := go_lp hH fu 0 σ τ h (by omega) (by show _ < 200; omega)
theorem sim_hours : SimT_hours Rel := by
  intro Mx Nx Mm Nm h x1
  show Eq2 Nx Nm _ _
  unfold fX4_hours fX5_hours
  have e0 : fX5_in (Int32.toInt64 x1) 1 72 = if x1 < 1 then 0 else if 72 < x1 then 0 else 1 := in_g x1 1 72
  rw [e0]
  by_cases c1 : x1 < 1
  · rw [if_pos c1, if_pos c1, if_pos z00]; exact h.f0
  rw [if_neg c1, if_neg c1]
  by_cases c2 : 72 < x1
  · rw [if_pos c2, if_pos z00, if_neg (fa_of_lt c2).2.1]; exact h.f0
  rw [if_neg c2, if_neg n10, if_pos (fa_of_nlt c2), h.e (k := 0) (by omega)]
  by_cases c3 : Mx 0 0 + x1 ≤ 9999
  · rw [if_pos c3, if_pos c3]
    obtain ⟨j, hj, rfl⟩ := nI_of (x := x1) (fun q => c1 (fa_trans q (by decide)))
    have hj2 : ¬ 72 < j := fun q => c2 ((nlt (a := 72) (by omega) hj).mpr q)
    obtain ⟨a, b, ea, eb, hab, _⟩ := go_sim h.1 (H := j) (by omega)
    obtain ⟨v, ev, ew⟩ := q_count hab
    rw [ea, eb, bind_some', bind_some', ev, ew]
    exact ⟨_, _, rfl, rfl, rfl, h.s0 hab⟩
  · rw [if_neg c3, if_neg c3]; exact h.f4
theorem rain_c {σ τ : Nat → Int32} (h : Eqv σ τ) : fX5_rains τ = fX0_rainsAt σ (fX0_clock σ) := by
  rw [rain_e]; unfold fX0_rainsAt fX0_clock
  rw [h.e (k := 0) (by omega), h.e (k := 6) (by omega)]
theorem clock_c {σ τ : Nat → Int32} (h : Eqv σ τ) : fX5_clock τ = fX0_clock σ := by
  unfold fX5_clock fX0_clock; rw [h.e (k := 0) (by omega)]
theorem sim_now : SimT_now Rel := by
  intro Mx Nx Mm Nm h x1
  show Eq2 Nx Nm _ _
  unfold fX4_now fX5_now
  rw [rain_c h.1, clock_c h.1, h.e (k := 0) (by omega)]
  by_cases c0 : x1 = 0
  · rw [if_pos c0, if_pos c0]; exact h.ok _
  rw [if_neg c0, if_neg c0]
  by_cases c1 : x1 = 1
  · rw [if_pos c1, if_pos c1]; exact h.ok _
  rw [if_neg c1, if_neg c1]
  by_cases c2 : x1 = 2
  · rw [if_pos c2, if_pos c2]
    by_cases e : fX0_rainsAt (Mx 0) (fX0_clock (Mx 0)) = 0
    · rw [if_pos e, if_pos e]; exact h.ok _
    · rw [if_neg e, if_neg e]; exact h.ok _
  rw [if_neg c2, if_neg c2]
  by_cases c3 : x1 = 3
  · rw [if_pos c3, if_pos c3]
    obtain ⟨v, ea, eb⟩ := q_count h.1
    rw [ea, eb]; exact h.ok _
  rw [if_neg c3, if_neg c3]
  by_cases c4 : x1 = 4
  · rw [if_pos c4, if_pos c4]
    obtain ⟨v, ea, eb⟩ := q_all h.1
    rw [ea, eb]; exact h.ok _
  rw [if_neg c4, if_neg c4]
  by_cases c5 : x1 = 5
  · rw [if_pos c5, if_pos c5]
    obtain ⟨v, ea, eb⟩ := q_places h.1
    rw [ea, eb]; exact h.ok _
  rw [if_neg c5, if_neg c5]
  exact h.f0
/-- the row that was laid aside is still there -/
def Asd (M M' : Mi) : Prop := keM M M' ∧ ∀ k, k < 39 → M' 3 k = M 0 k
theorem Asd.lay (M : Mi) : Asd M (cpy M 3 0 0) := ⟨keM_s _ _ (by omega), fun k hk => cpy_at _ _ _ hk⟩
theorem Asd.s {M M' : Mi} (h : Asd M M') (τ : Nat → Int32) : Asd M (sR M' 0 τ) := ⟨h.1.tr (keM_s _ _ (by omega)), fun k hk => by rw [sR_ne _ _ (by omega)]; exact h.2 k hk⟩
theorem Asd.w6 {M M' : Mi} (h : Asd M M') {k : Nat} (v : Int32) (h0 : k ≠ 0) (h2 : k ≠ 2) : Asd M (wM M' 6 k v) := ⟨h.1.tr (keM_6 _ _ h0 h2), fun j hj => by rw [wM_ne _ _ _ (by omega)]; exact h.2 j hj⟩
theorem Asd.back {M M' : Mi} (h : Asd M M') : keM M (cpy M' 0 3 0) ∧ ∀ k, k < 39 → cpy M' 0 3 0 0 k = M 0 k := ⟨h.1.tr (keM_s _ _ (by omega)), fun k hk => by rw [cpy_at _ _ _ hk]; exact h.2 k hk⟩
theorem Rel.bk {Mx : Mi} {Nx : Ml} {Mm : Mi} {Nm : Ml} (h : Rel Mx Nx Mm Nm) {Mx' M' : Mi} (hx : keX Mx Mx') (h0 : Mx' 0 = Mx 0) (ha : Asd Mm M') : Rel Mx' Nx (cpy M' 0 3 0) Nm := h.ke hx ha.back.1 (by rw [h0]; exact eqv_of2 h.1 ha.back.2)
theorem fore_c (x : Int32) : (fX4_isForeseen x = 0 ∧ fX5_in (Int32.toInt64 x) 0 72 = 0) ∨ ∃ n, n ≤ 72 ∧ x = nI n ∧ fX4_isForeseen x = 1 ∧ fX5_in (Int32.toInt64 x) 0 72 = 1 := by
  have e0 : fX5_in (Int32.toInt64 x) 0 72 = if x < 0 then 0 else if 72 < x then 0 else 1 := in_g x 0 72
  have e1 : fX4_isForeseen x = if x < 0 then 0 else if 72 < x then 0 else 1 := rfl
  rw [e0, e1]
  by_cases c1 : x < 0
  · rw [if_pos c1]; exact Or.inl ⟨rfl, rfl⟩
  · rw [if_neg c1]
    by_cases c2 : 72 < x
    · rw [if_pos c2]; exact Or.inl ⟨rfl, rfl⟩
    · rw [if_neg c2]
      obtain ⟨j, hj, rfl⟩ := nI_of c1
      exact Or.inr ⟨j, Nat.le_of_not_lt (fun q => c2 ((nlt (a := 72) (by omega) hj).mpr q)), rfl, rfl, rfl⟩
theorem sim_on : SimT_on Rel := by
  intro Mx Nx Mm Nm h x1 x2 x3
  show Eq2 Nx Nm _ _
  have hz := h.1.1.le
  unfold fX4_on fX5_on
  rcases has_c h.1 x1 with ⟨e1, e2, _⟩ | ⟨t, ht, et, e1, e2⟩
  · rw [e1, e2, if_pos z00, if_pos z00]; exact h.f0
  rw [e1, e2, if_neg n10, if_neg n10]
  rcases fore_c x2 with ⟨e3, e4⟩ | ⟨H, hH, eH, e3, e4⟩
  · rw [e3, e4, if_pos z00, if_pos z00]; exact h.f0
  rw [e3, e4, if_neg n10, if_neg n10]
  rcases flag_c x3 with ⟨e5, e6, _⟩ | ⟨hx, e5, e6⟩
  · rw [e5, e6, if_pos z00, if_pos z00]; exact h.f0
  rw [e5, e6, if_neg n10, if_neg n10]
  obtain ⟨a, ea, ha⟩ := becX h.1.1 (Mx 1)
  rw [ea, asdM, bind_some', bind_some', eH, et]
  have h1 : Eqv a (cpy Mm 3 0 0 0) := by rw [cpy_ne _ (by omega)]; exact eqv_of h.1 ha
  have sa : sz a = sz (Mx 0) := by show ix (a 1) = ix (Mx 0 1); rw [ha 1 (by omega)]
  obtain ⟨p, q, ep, eq, hpq, hs⟩ := go_sim h1 (H := H) (by omega)
  rw [ep, eq, bind_some', bind_some']
  unfold fX5_on_58
  rw [if_pos (inbn (by omega) (by omega)), if_pos (inbn (by omega) (by omega)), ixn (by omega), sR_same]
  have R : Rel (sR Mx 1 p) Nx (cpy (sR (cpy Mm 3 0 0) 0 q) 0 3 0) Nm := h.bk (keX_s _ _ (by omega)) (sR_ne _ _ (by omega)) ((Asd.lay Mm).s q)
  rcases hx with rfl | rfl
  · rw [if_pos rfl, if_pos rfl, its1 (by omega), bind_some', takM, hpq.e (k := 8 + 4 * t) (by omega)]
    exact R.ok _
  · rw [if_neg n10, if_neg n10, its2 (by omega), bind_some', takM, hpq.e (k := 9 + 4 * t) (by omega)]
    exact R.ok _
theorem sim_carries : SimT_carries Rel := by
  intro Mx Nx Mm Nm h x1 x2
  show Eq2 Nx Nm _ _
  unfold fX4_carries fX5_carries
  rcases subj_c x1 with ⟨e1, e2, _⟩ | ⟨s, hs, es, e1, e2⟩
  · rw [e1, e2, if_pos z00, if_pos z00]; exact h.f0
  rw [e1, e2, if_neg n10, if_neg n10]
  rcases fore_c x2 with ⟨e3, e4⟩ | ⟨H, hH, eH, e3, e4⟩
  · rw [e3, e4, if_pos z00, if_pos z00]; exact h.f0
  rw [e3, e4, if_neg n10, if_neg n10]
  obtain ⟨a, ea, ha⟩ := becX h.1.1 (Mx 1)
  rw [ea, asdM, bind_some', bind_some', eH]
  have h1 : Eqv a (cpy Mm 3 0 0 0) := by rw [cpy_ne _ (by omega)]; exact eqv_of h.1 ha
  obtain ⟨p, q, ep, eq, hpq, _⟩ := go_sim h1 (H := H) (by omega)
  obtain ⟨v, ev, ew⟩ := q_carry hpq x1
  rw [ep, eq, bind_some', bind_some', ev, ew, bind_some', bind_some', takM]
  exact Rel.ok (h.bk (keX_s _ _ (by omega)) (sR_ne _ _ (by omega)) ((Asd.lay Mm).s q)) _
