/-! read -/
theorem Asd.bk {M M' : Mi} (h : Asd M M') : Asd M (cpy M' 0 3 0) := ⟨h.back.1, fun k hk => by rw [cpy_ne _ (by omega)]; exact h.2 k hk⟩
theorem so_lp {M0 : Mi} {N N2 : Ml} {s t len : Nat} (hs : s < 4) (hl : len ≤ 40) (hlen : M0 8 s = nI len) (hN : ∀ k, k < 40 → N (20 + s) k = N2 9 (40 * s + k)) : ∀ (n i : Nat) (M : Mi) (σ : Nat → Int32), Asd M0 M → Wf (M 0) → t < sz (M 0) → EqT σ (M 0) t → i ≤ 40 → 41 - i < n → ∃ (r : Int32) (M' : Mi) (σ' : Nat → Int32), fX5_isSo_5 N2 n M (nI s) (nI t) 1 (nI i) = some (r, M') ∧ Asd M0 M' ∧ fX0_goesAsIn_2 (nI len) (N (20 + s)) n σ (nI t) (nI i) = some (r, σ') ∧ (r = 0 ∨ r = 1) := by
  intro n
  induction n with
  | zero => intro i M σ _ _ _ _ _ h; omega
  | succ n ih =>
    intro i M σ ha hw ht hT hi hn
    have hz := hw.le
    have ml : M 8 s = nI len := by rw [ha.1.1 8 (by omega) (by omega) (by omega) (by omega)]; exact hlen
    rw [qX5_isSo_5, qX0_goesAsIn_2, if_pos (inbn hs (by omega)), ixn (show s < 2 ^ 31 by omega), ml]
    by_cases c1 : len ≤ i
    · have d : nI len ≤ nI i := (nle (by omega) (by omega)).mpr c1
      rw [if_pos d, if_pos d]
      unfold fX5_isSo_59
      rw [if_neg n10]
      exact ⟨1, M, σ, rfl, ha, rfl, Or.inr rfl⟩
    have d : ¬ nI len ≤ nI i := by rw [nle (by omega) (by omega)]; exact c1
    rw [if_neg d, if_neg d, if_neg n10, m40, if_pos (inbn (show 40 * s + i < 160 by omega) (by omega)), ixn (show 40 * s + i < 2 ^ 31 by omega), if_pos (inbn (show i < 40 by omega) (by omega)), if_pos (inbn (show t < 8 by omega) (by omega)), ixn (show i < 2 ^ 31 by omega), ixn (show t < 2 ^ 31 by omega), its1 (by omega), bind_some', hN i (by omega), hT.2.2.2.1]
    obtain ⟨B, eB, hB, hsB, b0, bk, bc⟩ := hourM hw
    unfold fX5_isSo_48
    rw [eB, bind_some', bind_some', ns1]
    by_cases ec : N2 9 (40 * s + i) = Int32.toInt64 (M 0 (8 + 4 * t))
    · rw [if_pos ec, if_pos ec, aloneX (by omega), bind_some']
      exact ih (i + 1) (sR M 0 B) _ (ha.s B) (by rw [sR_same]; exact hB) (by rw [sR_same]; omega) (by rw [sR_same]; exact hT.next b0 bk (bc t ht)) (by omega) (by omega)
    · rw [if_neg ec, if_neg ec]
      obtain ⟨n', rfl⟩ : ∃ n', n = n' + 1 := ⟨n - 1, by omega⟩
      have ml2 : sR M 0 B 8 s = nI len := by rw [sR_ne _ _ (by omega)]; exact ml
      rw [qX5_isSo_5, if_pos (inbn hs (by omega)), ixn (show s < 2 ^ 31 by omega)]
      unfold fX5_isSo_59
      refine ⟨0, sR M 0 B, σ, ?_, ha.s B, rfl, Or.inl rfl⟩
      by_cases c3 : sR M 0 B 8 s ≤ nI (i + 1)
      · rw [if_pos c3, if_pos z00]
      · rw [if_neg c3, if_pos z00, if_pos z00]
