/-! numbers: what is asked of an argument, on both sides -/
theorem ixn {t : Nat} (h : t < 2 ^ 31) : ix (nI t) = t := nI_clamp h
theorem inbn {t n : Nat} (h : t < n) (hn : n < 2 ^ 31) : inb (nI t) n := ⟨nI_pos (by omega), by rw [nI_clamp (by omega)]; exact h⟩
theorem inb_of {x : Int32} {n : Nat} (h : inb x n) : ∃ t, t < n ∧ x = nI t := by
  obtain ⟨j, hj, rfl⟩ := nI_of h.1
  exact ⟨j, by have := h.2; rwa [nI_clamp hj] at this, rfl⟩
theorem nle {a b : Nat} (ha : a < 2 ^ 31) (hb : b < 2 ^ 31) : nI a ≤ nI b ↔ a ≤ b := nI_leI ha hb
theorem nlt {a b : Nat} (ha : a < 2 ^ 31) (hb : b < 2 ^ 31) : nI a < nI b ↔ a < b := nI_ltI ha hb
theorem neq {a b : Nat} (ha : a < 2 ^ 31) (hb : b < 2 ^ 31) : nI a = nI b ↔ a = b := nI_eq ha hb
theorem ns1 (a : Nat) : nI a + 1 = nI (a + 1) := nI_1 a
theorem bel1 {t n : Nat} (h : t < n) (hn : n < 2 ^ 31) : fX4_isBelow (nI t) (nI n) = 1 := by
  unfold fX4_isBelow
  rw [if_neg (nI_pos (by omega)), if_neg (by rw [nle (by omega) (by omega)]; omega)]
theorem bel_c (x : Int32) {n : Nat} (hn : n < 2 ^ 31) : (fX4_isBelow x (nI n) = 0 ∧ ∀ t, t < n → x ≠ nI t) ∨ ∃ t, t < n ∧ x = nI t := by
  by_cases h0 : x < 0
  · refine Or.inl ⟨by unfold fX4_isBelow; rw [if_pos h0], fun t ht e => ?_⟩
    subst e; exact nI_pos (by omega) h0
  · obtain ⟨j, hj, rfl⟩ := nI_of h0
    by_cases h1 : j < n
    · exact Or.inr ⟨j, h1, rfl⟩
    · refine Or.inl ⟨by unfold fX4_isBelow; rw [if_neg h0, if_pos (by rw [nle (by omega) hj]; omega)], fun t ht e => ?_⟩
      rw [neq hj (by omega)] at e; omega
theorem in1 {t n : Nat} (h : t ≤ n) (hn : n < 2 ^ 31) : fX5_in (Int32.toInt64 (nI t)) 0 (lN n) = 1 := by
  unfold fX5_in
  rw [nI_l (by omega), if_neg (by rw [show (0 : Int64) = lN 0 from rfl, lN_lt (by omega) (by omega)]; omega), if_neg (by rw [lN_lt (by omega) (by omega)]; omega)]
theorem in0 {x : Int32} {n : Nat} (hn : n < 2 ^ 31) (h : ∀ t, t ≤ n → x ≠ nI t) : fX5_in (Int32.toInt64 x) 0 (lN n) = 0 := by
  unfold fX5_in
  by_cases h0 : x < 0
  · rw [if_pos (by rw [show (0 : Int64) = Int32.toInt64 0 from rfl, fa_wide_lt]; exact h0)]
  · obtain ⟨j, hj, rfl⟩ := nI_of h0
    have hjn : n < j := by
      rcases Nat.lt_or_ge n j with q | q
      · exact q
      · exact absurd rfl (h j q)
    rw [nI_l hj, if_neg (by rw [show (0 : Int64) = lN 0 from rfl, lN_lt hj (by omega)]; omega), if_pos (by rw [lN_lt (by omega) hj]; exact hjn)]
/-- below n here, in 0 .. n - 1 there -/
theorem bi_c (x : Int32) {n : Nat} (h0 : 0 < n) (hn : n < 2 ^ 31) : (fX4_isBelow x (nI n) = 0 ∧ fX5_in (Int32.toInt64 x) 0 (lN (n - 1)) = 0 ∧ ∀ t, t < n → x ≠ nI t) ∨ ∃ t, t < n ∧ x = nI t ∧ fX4_isBelow x (nI n) = 1 ∧ fX5_in (Int32.toInt64 x) 0 (lN (n - 1)) = 1 := by
  rcases bel_c x hn with ⟨h1, h2⟩ | ⟨t, ht, rfl⟩
  · exact Or.inl ⟨h1, in0 (by omega) (fun t ht => h2 t (by omega)), h2⟩
  · exact Or.inr ⟨t, ht, rfl, bel1 ht hn, in1 (by omega) (by omega)⟩
theorem cell_c (x : Int32) : (fX4_isCell x = 0 ∧ fX5_isCell x = 0 ∧ ∀ t, t < 30 → x ≠ nI t) ∨ ∃ t, t < 30 ∧ x = nI t ∧ fX4_isCell x = 1 ∧ fX5_isCell x = 1 := bi_c x (n := 30) (by omega) (by omega)
theorem kind_c (x : Int32) : (fX4_isKind x = 0 ∧ fX5_isKind x = 0 ∧ ∀ t, t < 6 → x ≠ nI t) ∨ ∃ t, t < 6 ∧ x = nI t ∧ fX4_isKind x = 1 ∧ fX5_isKind x = 1 := bi_c x (n := 6) (by omega) (by omega)
theorem subj_c (x : Int32) : (fX4_isSubject x = 0 ∧ fX5_isSubject x = 0 ∧ ∀ t, t < 12 → x ≠ nI t) ∨ ∃ t, t < 12 ∧ x = nI t ∧ fX4_isSubject x = 1 ∧ fX5_isSubject x = 1 := bi_c x (n := 12) (by omega) (by omega)
theorem row_c (x : Int32) : (fX4_isBelow x 4 = 0 ∧ fX5_isRow x = 0 ∧ ∀ t, t < 4 → x ≠ nI t) ∨ ∃ t, t < 4 ∧ x = nI t ∧ fX4_isBelow x 4 = 1 ∧ fX5_isRow x = 1 := bi_c x (n := 4) (by omega) (by omega)
theorem flag_c (x : Int32) : (fX4_isFlag x = 0 ∧ fX5_in (Int32.toInt64 x) 0 1 = 0 ∧ x ≠ 0 ∧ x ≠ 1) ∨ ((x = 0 ∨ x = 1) ∧ fX4_isFlag x = 1 ∧ fX5_in (Int32.toInt64 x) 0 1 = 1) := by
  by_cases h0 : x = 0
  · subst h0; exact Or.inr ⟨Or.inl rfl, by unfold fX4_isFlag; rw [if_pos rfl], in1 (t := 0) (n := 1) (by omega) (by omega)⟩
  · by_cases h1 : x = 1
    · subst h1; exact Or.inr ⟨Or.inr rfl, by unfold fX4_isFlag; rw [if_neg h0, if_pos rfl], in1 (t := 1) (n := 1) (by omega) (by omega)⟩
    · refine Or.inl ⟨by unfold fX4_isFlag; rw [if_neg h0, if_neg h1], in0 (n := 1) (by omega) (fun t ht => ?_), h0, h1⟩
      rcases (show t = 0 ∨ t = 1 by omega) with rfl | rfl
      · exact h0
      · exact h1
/-- a set of the k lowest bits -/
theorem set_c (x : Int32) {k : Nat} (hk : k < 31) : (x &&& (nI (2 ^ k - 1) ^^^ (-1))) = 0 ↔ ∃ b, b < 2 ^ k ∧ x = nI b := by
  have hp : 2 ^ k < 2 ^ 31 := Nat.pow_lt_pow_right (by decide) hk
  have hbt : ∀ i, i < 32 → bt (nI (2 ^ k - 1)) i = decide (i < k) := fun i hi => by
    show (BitVec.ofNat 32 (2 ^ k - 1)).getLsbD i = _
    rw [BitVec.getLsbD_ofNat, Nat.testBit_two_pow_sub_one]
    simp [hi]
  constructor
  · intro h
    refine ⟨x.toBitVec.toNat % 2 ^ k, Nat.mod_lt _ (Nat.two_pow_pos k), b_ext (fun i hi => ?_)⟩
    have hb : bt (x &&& (nI (2 ^ k - 1) ^^^ (-1))) i = false := by rw [h]; exact b_0 i
    rw [b_and, b_xor, b_m1 i hi, hbt i hi] at hb
    show bt x i = (BitVec.ofNat 32 (x.toBitVec.toNat % 2 ^ k)).getLsbD i
    rw [BitVec.getLsbD_ofNat, Nat.testBit_mod_two_pow]
    by_cases hik : i < k
    · simp [hi, hik, bt]; rfl
    · simp [hik] at hb
      simp [hik, hb]
  · rintro ⟨b, hb, rfl⟩
    refine b_ext (fun i hi => ?_)
    rw [b_and, b_xor, b_m1 i hi, hbt i hi, b_0]
    by_cases hik : i < k
    · simp [hik]
    · have : bt (nI b) i = false := by
        show (BitVec.ofNat 32 b).getLsbD i = false
        rw [BitVec.getLsbD_ofNat, Nat.testBit_lt_two_pow (Nat.lt_of_lt_of_le hb (Nat.pow_le_pow_right (by decide) (by omega)))]
        simp
      rw [this]; rfl
theorem bks_c (x : Int32) : (fX4_isSetOf x 4095 = 0 ∧ fX5_isSet (Int32.toInt64 x) = 0 ∧ ∀ t, t < 4096 → x ≠ nI t) ∨ ∃ t, t < 4096 ∧ x = nI t ∧ fX4_isSetOf x 4095 = 1 ∧ fX5_isSet (Int32.toInt64 x) = 1 := by
  have hs := set_c x (k := 12) (by omega)
  by_cases h : (x &&& (nI (2 ^ 12 - 1) ^^^ (-1))) = 0
  · obtain ⟨t, ht, rfl⟩ := hs.mp h
    exact Or.inr ⟨t, ht, rfl, by unfold fX4_isSetOf; exact if_pos h, in1 (n := 4095) (by omega) (by omega)⟩
  · have h2 : ∀ t, t < 4096 → x ≠ nI t := fun t ht e => h (hs.mpr ⟨t, ht, e⟩)
    exact Or.inl ⟨by unfold fX4_isSetOf; exact if_neg h, in0 (n := 4095) (by omega) (fun t ht => h2 t (by omega)), h2⟩
theorem wet_c (x : Int32) : (fX4_isSetOf x 16777215 = 0 ∧ fX5_in (Int32.toInt64 x) 0 16777215 = 0) ∨ ∃ t, t < 16777216 ∧ x = nI t ∧ fX4_isSetOf x 16777215 = 1 ∧ fX5_in (Int32.toInt64 x) 0 16777215 = 1 := by
  have hs := set_c x (k := 24) (by omega)
  by_cases h : (x &&& (nI (2 ^ 24 - 1) ^^^ (-1))) = 0
  · obtain ⟨t, ht, rfl⟩ := hs.mp h
    exact Or.inr ⟨t, ht, rfl, by unfold fX4_isSetOf; exact if_pos h, in1 (n := 16777215) (by omega) (by omega)⟩
  · exact Or.inl ⟨by unfold fX4_isSetOf; exact if_neg h, in0 (n := 16777215) (by omega) (fun t ht e => h (hs.mpr ⟨t, by omega, e⟩))⟩
/-! an island that is as the document has it; two that show the same -/
def sz (σ : Nat → Int32) : Nat := ix (σ 1)
def Wf (σ : Nat → Int32) : Prop := σ 1 = nI (sz σ) ∧ sz σ ≤ 8 ∧ (∀ k, 3 ≤ k → k ≤ 5 → ∃ c, c < 30 ∧ σ k = nI c) ∧ ∀ t, t < sz σ → (∃ k, k < 6 ∧ σ (7 + 4 * t) = nI k) ∧ (∃ c, c < 30 ∧ σ (8 + 4 * t) = nI c) ∧ (∃ b, b < 4096 ∧ σ (9 + 4 * t) = nI b) ∧ (σ (10 + 4 * t) = 0 ∨ σ (10 + 4 * t) = 1)
def Eqv (σ τ : Nat → Int32) : Prop := Wf σ ∧ ∀ k, k < 7 + 4 * sz σ → σ k = τ k
theorem sz_e {σ τ : Nat → Int32} (h : Eqv σ τ) : sz τ = sz σ := by show ix (τ 1) = ix (σ 1); rw [h.2 1 (by omega)]
