theorem nsub {a b : Nat} (h : b ≤ a) : nI a - nI b = nI (a - b) := pk_sub h
theorem step_lt (σ : Nat → Int32) {c a : Nat} (hc : c < 30) (ha : a < 30) : ∃ c', c' < 30 ∧ fX0_stepFrom σ (nI c) (nI a) = nI c' := by
  unfold fX0_stepFrom fX0_stepFrom_29 fX0_stepFrom_43 fX0_stepFrom_73
  simp only [d6 hc, d6 ha, r6' hc, r6' ha]
  have s1 := sub0 (p := a / 6) (q := c / 6) (by omega) (by omega)
  have s2 := sub0 (p := a % 6) (q := c % 6) (by omega) (by omega)
  simp only [s1.1, s1.2, s2.1, s2.2]
  have col : ∃ c', c' < 30 ∧ (if a % 6 = c % 6 then nI c else if fX0_isFenced σ (if a % 6 ≤ c % 6 then nI c - 1 else nI c + 1) = 0 then (if a % 6 ≤ c % 6 then nI c - 1 else nI c + 1) else nI c) = nI c' := by
    by_cases e2 : a % 6 = c % 6
    · rw [if_pos e2]; exact ⟨c, hc, rfl⟩
    · rw [if_neg e2]
      by_cases e3 : a % 6 ≤ c % 6
      · rw [if_pos e3, show nI c - 1 = nI (c - 1) from nsub (b := 1) (by omega)]
        split
        · exact ⟨c - 1, by omega, rfl⟩
        · exact ⟨c, hc, rfl⟩
      · rw [if_neg e3, ns1]
        split
        · exact ⟨c + 1, by omega, rfl⟩
        · exact ⟨c, hc, rfl⟩
  by_cases e1 : a / 6 = c / 6
  · rw [if_pos e1]; exact col
  · rw [if_neg e1]
    by_cases e3 : a / 6 ≤ c / 6
    · rw [if_pos e3, show nI c - 6 = nI (c - 6) from nsub (b := 6) (by omega)]
      split
      · exact ⟨c - 6, by omega, rfl⟩
      · exact col
    · rw [if_neg e3, show nI c + 6 = nI (c + 6) from nI_add c 6]
      split
      · exact ⟨c + 6, by omega, rfl⟩
      · exact col
