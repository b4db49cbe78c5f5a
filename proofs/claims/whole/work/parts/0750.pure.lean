/-! copy -/
theorem sub_lt {a b c : Nat} (ha : a < 2 ^ 31) (hb : b < 2 ^ 31) (hc : c < 2 ^ 31) : nI a - nI b < nI c ↔ ¬ (b + c ≤ a) := by
  have ea := nI_toInt ha
  have eb := nI_toInt hb
  have es : (nI a - nI b).toInt = (a : Int) - b := by
    rw [fb_subI (by rw [ea, eb]; omega) (by rw [ea, eb]; omega), ea, eb]
  rw [fa_lt, es, nI_toInt hc]; omega
theorem has_f {M : Mi} {g len a c : Nat} (hl : len ≤ 40) (hg : M g 1 = nI len) (ha : a < 2 ^ 31) (hc : c < 2 ^ 31) : fX2_hasFrom M g (nI a) (nI c) = if a + c ≤ len then 1 else 0 := by
  unfold fX2_hasFrom
  rw [if_neg (nI_pos ha), if_neg (nI_pos hc), hg]
  by_cases e1 : len < c
  · rw [if_pos ((nlt (by omega) hc).mpr e1), if_neg (by omega)]
  · rw [if_neg (by rw [nlt (by omega) hc]; exact e1)]
    have q := sub_lt (a := len) (b := c) (c := a) (by omega) hc ha
    by_cases e2 : a + c ≤ len
    · rw [if_neg (by rw [q]; omega), if_pos e2]
    · rw [if_pos (by rw [q]; omega), if_neg e2]
theorem m40' (s a i : Nat) : (40 : Int32) * nI s + nI a + nI i = nI (40 * s + a + i) := by rw [m40, nI_add]
theorem cp120 {s d a b c : Nat} (hs : s < 4) (hd : d < 4) (ha : a + c ≤ 40) (hb : b + c ≤ 40) {M : Mi} : ∀ (n i : Nat) (N : Ml), i ≤ c → c - i < n → ∃ N', fX5_copy_120 n M N (nI s) (nI a) (nI d) (nI b) (nI c) (nI i) = fX5_copy_157 fu M N' (nI d) (nI b) (nI c) 0 ∧ N' 9 = N 9 ∧ (∀ k, k < i → N' 10 k = N 10 k) ∧ ∀ k, i ≤ k → k < c → N' 10 k = N 9 (40 * s + a + k) := by
  intro n
  induction n with
  | zero => intro i N _ h; omega
  | succ n ih =>
    intro i N hi hn
    rw [qX5_copy_120]
    by_cases e : c ≤ i
    · rw [if_pos ((nle (by omega) (by omega)).mpr e)]
      exact ⟨N, rfl, rfl, fun _ _ => rfl, fun k h1 h2 => by omega⟩
    · rw [if_neg (by rw [nle (by omega) (by omega)]; exact e), m40', if_pos (inbn (show 40 * s + a + i < 160 by omega) (by omega)), if_pos (inbn (show i < 40 by omega) (by omega)), ixn (show i < 2 ^ 31 by omega), ixn (show 40 * s + a + i < 2 ^ 31 by omega), ns1]
      obtain ⟨N', q1, q2, q3, q4⟩ := ih (i + 1) (wN N 10 i (N 9 (40 * s + a + i))) (by omega) (by omega)
      refine ⟨N', q1, by rw [q2, wN_ne _ _ _ (by omega)], fun k hk => ?_, fun k h1 h2 => ?_⟩
      · rw [q3 k (by omega), wN_at, if_neg (by omega)]
      · by_cases e2 : k = i
        · subst e2; rw [q3 k (by omega), wN_at, if_pos rfl]
        · rw [q4 k (by omega) h2, wN_ne _ _ _ (by omega)]
theorem cp157 {d b c : Nat} (hd : d < 4) (hb : b + c ≤ 40) {M : Mi} : ∀ (n i : Nat) (N : Ml), i ≤ c → c - i < n → ∃ N', fX5_copy_157 n M N (nI d) (nI b) (nI c) (nI i) = some (nI c, M, N') ∧ N' 10 = N 10 ∧ ∀ k, N' 9 k = if 40 * d + b + i ≤ k ∧ k < 40 * d + b + c then N 10 (k - (40 * d + b)) else N 9 k := by
  intro n
  induction n with
  | zero => intro i N _ h; omega
  | succ n ih =>
    intro i N hi hn
    rw [qX5_copy_157]
    by_cases e : c ≤ i
    · rw [if_pos ((nle (by omega) (by omega)).mpr e)]
      exact ⟨N, rfl, rfl, fun k => by rw [if_neg (by omega)]⟩
    · rw [if_neg (by rw [nle (by omega) (by omega)]; exact e), m40', if_pos (inbn (show i < 40 by omega) (by omega)), if_pos (inbn (show 40 * d + b + i < 160 by omega) (by omega)), ixn (show i < 2 ^ 31 by omega), ixn (show 40 * d + b + i < 2 ^ 31 by omega), ns1]
      obtain ⟨N', q1, q2, q3⟩ := ih (i + 1) (wN N 9 (40 * d + b + i) (N 10 i)) (by omega) (by omega)
      refine ⟨N', q1, by rw [q2, wN_ne _ _ _ (by omega)], fun k => ?_⟩
      rw [q3 k, wN_ne _ _ _ (show 10 ≠ 9 by omega), wN_at]
      by_cases e2 : k = 40 * d + b + i
      · subst e2; rw [if_neg (by omega), if_pos rfl, if_pos (by omega), show 40 * d + b + i - (40 * d + b) = i by omega]
      · rw [if_neg e2]
        by_cases e3 : 40 * d + b + (i + 1) ≤ k ∧ k < 40 * d + b + c
        · rw [if_pos e3, if_pos (by omega)]
        · rw [if_neg e3, if_neg (by omega)]
