theorem bel_m (x : Int32) {n : Nat} (hn : n < 1000) : (fX4_isBelow x (nI n) = 0 ∧ fX5_in (Int32.toInt64 x) 0 (Int32.toInt64 (nI n - 1)) = 0) ∨ ∃ t, t < n ∧ x = nI t ∧ fX4_isBelow x (nI n) = 1 ∧ fX5_in (Int32.toInt64 x) 0 (Int32.toInt64 (nI n - 1)) = 1 := by
  rcases Nat.eq_zero_or_pos n with h0 | h0
  · subst h0
    refine Or.inl ⟨?_, ?_⟩
    · unfold fX4_isBelow
      by_cases hx : x < 0
      · rw [if_pos hx]
      · rw [if_neg hx, if_pos (show nI 0 ≤ x from fa_of_nlt hx)]
    · have e0 : fX5_in (Int32.toInt64 x) 0 (Int32.toInt64 (nI 0 - 1)) = if x < 0 then 0 else if nI 0 - 1 < x then 0 else 1 := in_g x 0 _
      rw [e0]
      by_cases hx : x < 0
      · rw [if_pos hx]
      · rw [if_neg hx, if_pos (fa_trans (by decide) (fa_of_nlt hx))]
  · have e2 : nI n - 1 = nI (n - 1) := nsub (b := 1) (by omega)
    rw [e2, nI_l (by omega)]
    rcases bi_c x h0 (by omega) with ⟨q1, q2, _⟩ | ⟨t, ht, et, q1, q2⟩
    · exact Or.inl ⟨q1, q2⟩
    · exact Or.inr ⟨t, ht, et, q1, q2⟩
/-- a sheet is asked for -/
theorem sh_c {Mx : Mi} {Nx : Ml} {Mm : Mi} {Nm : Ml} (h : Rel Mx Nx Mm Nm) (x1 : Int32) : (∃ i, (i = 0 ∨ i = 5) ∧ fX4_askOfSheet Mx x1 = some ((-1000000001) - nI i, wM Mx 7 i (Mx 7 i + 1)) ∧ fX5_wrong Mm x1 = some ((-1000000001) - nI i)) ∨ ∃ s, s < 4 ∧ x1 = nI s ∧ fX4_askOfSheet Mx x1 = some (0, Mx) ∧ fX5_wrong Mm x1 = some 0 := by
  unfold fX4_askOfSheet fX5_wrong
  have g0 : fX4_finding Mx 0 = some ((-1000000001) - nI 0, wM Mx 7 0 (Mx 7 0 + 1)) := fndX Mx (i := 0) (by omega)
  have g5 : fX4_finding Mx 5 = some ((-1000000001) - nI 5, wM Mx 7 5 (Mx 7 5 + 1)) := fndX Mx (i := 5) (by omega)
  rw [g0, g5]
  rcases row_c x1 with ⟨e1, e2, _⟩ | ⟨s, hs, es, e1, e2⟩
  · rw [e1, e2, if_pos z00, if_pos z00]
    exact Or.inl ⟨0, Or.inl rfl, rfl, rfl⟩
  rw [e1, e2, if_neg n10, if_neg n10, es, if_pos (inbn hs (by omega)), if_pos (inbn hs (by omega)), ixn (by omega)]
  unfold fX2_isMissing
  rw [(h.2.2.2.2 s hs).1]
  by_cases e : Mm 7 s = 0
  · rw [if_pos e, if_neg n10, if_pos e]
    exact Or.inl ⟨5, Or.inr rfl, rfl, rfl⟩
  · rw [if_neg e, if_pos z00, if_neg e]
    exact Or.inr ⟨s, hs, rfl, rfl, rfl⟩
theorem sim_write : SimT_write Rel := by
  intro Mx Nx Mm Nm h x1 x2 x3
  show Eq3 _ _
  unfold fX4_write fX5_write
  rcases sh_c h x1 with ⟨i, hi, e1, e2⟩ | ⟨s, hs, rfl, e1, e2⟩
  · have hi7 : i < 7 := by omega
    rw [e1, e2, bind_some', bind_some']
    dsimp only
    rw [if_neg (code_ne i hi7), if_neg (code_ne i hi7), fndM Mm hi7]
    exact ⟨_, _, rfl, rfl, rfl, h.fnd hi7⟩
  · rw [e1, e2, bind_some', bind_some']
    dsimp only
    rw [if_pos z00, if_pos z00, if_pos (inbn hs (by omega)), if_pos (inbn hs (by omega)), ixn (show s < 2 ^ 31 by omega)]
    have hS := h.2.2.2.2 s hs
    obtain ⟨n, hn, en⟩ := hS.2.2.2.1
    have x1' : Mx (20 + s) 1 = nI n := hS.2.2.1.trans en
    rcases bel_m x2 (n := n) (by omega) with ⟨q1, q2⟩ | ⟨t, ht, rfl, q1, q2⟩
    · rw [← x1'] at q1
      rw [← en] at q2
      have g0 : fX4_finding Mx 0 = some ((-1000000001) - nI 0, wM Mx 7 0 (Mx 7 0 + 1)) := fndX Mx (i := 0) (by omega)
      have g1 : fX5_finds Mm (-1000000001) = some ((-1000000001) - nI 0, wM Mm 4 0 (Mm 4 0 + 1)) := fndM Mm (i := 0) (by omega)
      rw [if_pos q1, if_pos q2, g0, g1]
      exact ⟨_, _, rfl, rfl, rfl, h.fnd (i := 0) (by omega)⟩
    · rw [← x1'] at q1
      rw [← en] at q2
      have q1' : ¬ fX4_isBelow (nI t) (Mx (20 + s) 1) = 0 := by rw [q1]; exact n10
      have q2' : ¬ fX5_in (Int32.toInt64 (nI t)) 0 (Int32.toInt64 (Mm 8 s - 1)) = 0 := by rw [q2]; exact n10
      rw [if_neg q1', if_neg q2', m40, if_pos (inbn (show t < 40 by omega) (by omega)), if_pos (inbn (show 40 * s + t < 160 by omega) (by omega)), ixn (show t < 2 ^ 31 by omega), ixn (show 40 * s + t < 2 ^ 31 by omega)]
      have ev : fX2_lowestBits Mx (20 + s) x3 = fX5_narrowed (Mm 7 s) x3 := by
        unfold fX2_lowestBits fX5_narrowed; rw [hS.1]
      rw [ev]
      refine ⟨_, _, rfl, rfl, hS.2.2.2.2 t (by omega), ?_⟩
      refine h.sh (fun r _ => rfl) (fun r _ _ => rfl) (fun u hu => ?_)
      have hU := h.2.2.2.2 u hu
      refine ⟨hU.1, hU.2.1, hU.2.2.1, hU.2.2.2.1, fun i hi => ?_⟩
      show wN Nx (20 + s) t _ (20 + u) i = wN Nm 9 (40 * s + t) _ 9 (40 * u + i)
      rw [wN_at]
      by_cases e : u = s
      · subst e
        rw [wN_at]
        by_cases e3 : i = t
        · rw [if_pos e3, if_pos (by omega)]
        · rw [if_neg e3, if_neg (by omega)]; exact hU.2.2.2.2 i hi
      · rw [wN_ne _ _ _ (by omega), if_neg (by omega)]; exact hU.2.2.2.2 i hi
