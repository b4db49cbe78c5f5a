theorem stp_c {σ τ : Nat → Int32} (h : σ 2 = τ 2) (c a : Int32) : fX0_stepFrom σ c a = fX0_stepFrom τ c a := by
  unfold fX0_stepFrom fX0_stepFrom_29 fX0_stepFrom_43 fX0_stepFrom_73 fX0_isFenced
  rw [h]
theorem near_c {σ τ : Nat → Int32} (h : σ 2 = τ 2) (c a : Int32) : fX5_nearer σ c a = fX5_nearer τ c a := by
  unfold fX5_nearer fX5_nearer_22 fX5_nearer_44 fX5_nearer_64 fX5_isFenced
  rw [h]
theorem sub0 {p q : Nat} (hp : p < 1000) (hq : q < 1000) : (nI p - nI q = 0 ↔ p = q) ∧ (nI p - nI q ≤ 0 ↔ p ≤ q) := by
  have e := pk_sub_toInt (a := p) (b := q) (by omega) (by omega)
  constructor
  · rw [fa_eq, e]; show (p : Int) - q = 0 ↔ _; omega
  · rw [fa_le, e]; show (p : Int) - q ≤ 0 ↔ _; omega
theorem d6 {c : Nat} (h : c < 30) : nI c / 6 = nI (c / 6) := pk_div (d := 6) (by omega) (by omega) (by omega)
theorem r6 {c : Nat} (h : c < 30) : nI c - nI c / 6 * 6 = nI (c % 6) := pk_rem (d := 6) (by omega) (by omega) (by omega)
theorem r6' {c : Nat} (h : c < 30) : nI c - nI (c / 6) * 6 = nI (c % 6) := by rw [← d6 h]; exact r6 h
theorem fen_e (σ : Nat → Int32) (x : Int32) : fX5_isFenced σ x = fX0_isFenced σ x := rfl
theorem step_eq (σ : Nat → Int32) {c a : Nat} (hc : c < 30) (ha : a < 30) : fX5_nearer σ (nI c) (nI a) = fX0_stepFrom σ (nI c) (nI a) := by
  unfold fX5_nearer fX5_nearer_22 fX5_nearer_44 fX5_nearer_64 fX0_stepFrom fX0_stepFrom_29 fX0_stepFrom_43 fX0_stepFrom_73
  simp only [d6 hc, d6 ha, r6' hc, r6' ha, fen_e]
  have s1 := sub0 (p := a / 6) (q := c / 6) (by omega) (by omega)
  have s2 := sub0 (p := a % 6) (q := c % 6) (by omega) (by omega)
  have n1 : nI (a / 6) ≤ nI (c / 6) ↔ a / 6 ≤ c / 6 := nle (by omega) (by omega)
  have n2 : nI (a % 6) ≤ nI (c % 6) ↔ a % 6 ≤ c % 6 := nle (by omega) (by omega)
  have n3 : nI (c / 6) = nI (a / 6) ↔ c / 6 = a / 6 := neq (by omega) (by omega)
  have n4 : nI (c % 6) = nI (a % 6) ↔ c % 6 = a % 6 := neq (by omega) (by omega)
  simp only [s1.1, s1.2, s2.1, s2.2, n1, n2, n3, n4]
  by_cases e1 : a / 6 = c / 6
  · rw [if_pos e1, if_pos e1.symm]
    by_cases e2 : a % 6 = c % 6
    · rw [if_pos e2, if_pos e2.symm]
    · rw [if_neg e2, if_neg (Ne.symm e2)]
  · rw [if_neg e1, if_neg (Ne.symm e1)]
    by_cases e2 : a % 6 = c % 6
    · rw [if_pos e2, if_pos e2.symm]
    · rw [if_neg e2, if_neg (Ne.symm e2)]
