/-! lays -/
theorem set_l {v : Int64} (h1 : ¬ v < 0) (h2 : ¬ 4095 < v) : ∃ b, b < 4096 ∧ Int64.toInt32 v = nI b := by
  have r1 : (0 : Int64).toInt = 0 := by decide
  have r2 : (4095 : Int64).toInt = 4095 := by decide
  rw [fa_lt64, r1] at h1
  rw [fa_lt64, r2] at h2
  refine ⟨v.toInt.toNat, by omega, ?_⟩
  have e : v = lN v.toInt.toNat := by
    rw [fa_eq64]
    have := lN_toInt (n := v.toInt.toNat) (by omega)
    rw [this]; omega
  have e2 : Int64.toInt32 v = Int64.toInt32 (lN v.toInt.toNat) := congrArg Int64.toInt32 e
  rw [e2]; exact lN_i _
theorem lays_lp {Nx Nm : Ml} {s : Nat} (hs : s < 4) : ∀ (n i : Nat) (M M2 : Mi) (c : Int32), Rel M Nx M2 Nm → i ≤ 40 → 40 - i < n → Eq2 Nx Nm (fX4_laysBooks_4 Nx (20 + s) n M c (nI i)) (fX5_lays_21 Nm n M2 (nI s) c (nI i)) := by
  intro n
  induction n with
  | zero => intro i M M2 c _ _ h; omega
  | succ n ih =>
    intro i M M2 c h hi hn
    have hS := h.2.2.2.2 s hs
    obtain ⟨len, hl, el⟩ := hS.2.2.2.1
    have xl : M (20 + s) 1 = nI len := hS.2.2.1.trans el
    have hz := h.1.1.le
    have hz1 := h.1.1.z
    have m1 : M2 0 1 = nI (sz (M 0)) := (h.e (by omega)).trans hz1
    rw [qX4_laysBooks_4, qX5_lays_21, if_pos (inbn hs (by omega)), ixn (show s < 2 ^ 31 by omega), xl, el, hz1, m1]
    by_cases c1 : len ≤ i
    · have d : nI len ≤ nI i := (nle (by omega) (by omega)).mpr c1
      rw [if_pos d, if_pos d]; exact h.ok _
    have d : ¬ nI len ≤ nI i := by rw [nle (by omega) (by omega)]; exact c1
    rw [if_neg d, if_neg d]
    by_cases c2 : sz (M 0) ≤ i
    · have d : nI (sz (M 0)) ≤ nI i := (nle (by omega) (by omega)).mpr c2
      rw [if_pos d, if_pos d]; exact h.ok _
    have d : ¬ nI (sz (M 0)) ≤ nI i := by rw [nle (by omega) (by omega)]; exact c2
    rw [if_neg d, if_neg d, m40, if_pos (inbn (show i < 40 by omega) (by omega)), if_pos (inbn (show 40 * s + i < 160 by omega) (by omega)), ixn (show i < 2 ^ 31 by omega), ixn (show 40 * s + i < 2 ^ 31 by omega), hS.2.2.2.2 i (by omega), ns1]
    unfold fX5_isSet fX5_in
    by_cases v1 : Nm 9 (40 * s + i) < 0
    · rw [if_pos v1, if_pos v1, if_pos z00]
      exact ih (i + 1) M M2 c h (by omega) (by omega)
    rw [if_neg v1, if_neg v1]
    by_cases v2 : 4095 < Nm 9 (40 * s + i)
    · rw [if_pos v2, if_pos v2, if_pos z00]
      exact ih (i + 1) M M2 c h (by omega) (by omega)
    obtain ⟨b, hb, eb⟩ := set_l v1 v2
    rw [if_neg v2, if_neg v2, if_neg n10, if_pos (inbn (show i < 8 by omega) (by omega)), spot2, if_pos (inbn (show 9 + 4 * i < 39 by omega) (by omega)), ixn (show 9 + 4 * i < 2 ^ 31 by omega)]
    exact ih (i + 1) _ _ _ (h.w0 (by omega) (vl_9 ⟨b, hb, eb⟩)) (by omega) (by omega)
theorem sim_lays : SimT_lays Rel := by
  intro Mx Nx Mm Nm h x1
  show Eq2 Nx Nm _ _
  unfold fX4_lays fX5_lays
  rcases sh_c h x1 with ⟨i, hi, e1, e2⟩ | ⟨s, hs, rfl, e1, e2⟩
  · have hi7 : i < 7 := by omega
    rw [e1, e2, bind_some', bind_some']
    dsimp only
    rw [if_neg (code_ne i hi7), if_neg (code_ne i hi7), fndM Mm hi7]
    exact ⟨_, _, rfl, rfl, rfl, h.fnd hi7⟩
  · rw [e1, e2, bind_some', bind_some']
    dsimp only
    rw [if_pos z00, if_pos z00, if_pos (inbn hs (by omega)), ixn (show s < 2 ^ 31 by omega)]
    obtain ⟨b, d, q1, q2, q3, q4⟩ := lays_lp hs fu 0 Mx Mm 0 h (by omega) (by decide)
    have q1' : fX4_laysBooks Nx (20 + s) Mx = some b := q1
    have q2' : fX5_lays_21 Nm fu Mm (nI s) 0 0 = some d := q2
    rw [q1', q2', bind_some']
    exact ⟨_, _, rfl, rfl, q3, q4⟩
