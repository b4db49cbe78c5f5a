/-! island: words -/
def V (g : Nat → Nat) : Nat → Nat
  | 0 => 0
  | n + 1 => 32 * V g n + g n
def Ws (g : Nat → Nat) : Nat → Nat
  | 0 => 0
  | n + 1 => if 36028797018963967 < Ws g n then Ws g n else 32 * Ws g n + g n
theorem V_s (g : Nat → Nat) (n : Nat) : V g (n + 1) = 32 * V g n + g n := rfl
theorem Ws_s (g : Nat → Nat) (n : Nat) : Ws g (n + 1) = if 36028797018963967 < Ws g n then Ws g n else 32 * Ws g n + g n := rfl
theorem V_inj {g h : Nat → Nat} : ∀ (m k : Nat), (∀ i, i < m → 1 ≤ g i ∧ g i ≤ 26) → (∀ i, i < k → 1 ≤ h i ∧ h i ≤ 26) → V g m = V h k → m = k ∧ ∀ i, i < m → g i = h i := by
  intro m
  induction m with
  | zero =>
    intro k _ hh e
    match k, hh, e with
    | 0, _, _ => exact ⟨rfl, fun i hi => by omega⟩
    | k + 1, hh, e =>
      have := hh k (by omega)
      rw [V_s] at e
      have e0 : V g 0 = 0 := rfl
      omega
  | succ m ih =>
    intro k hg hh e
    have h1 := hg m (by omega)
    match k, hh, e with
    | 0, _, e =>
      rw [V_s] at e
      have e0 : V h 0 = 0 := rfl
      omega
    | k + 1, hh, e =>
      have h2 := hh k (by omega)
      rw [V_s, V_s] at e
      obtain ⟨q1, q2⟩ := ih k (fun i hi => hg i (by omega)) (fun i hi => hh i (by omega)) (by omega)
      subst q1
      refine ⟨rfl, fun i hi => ?_⟩
      by_cases ei : i = m
      · subst ei; omega
      · exact q2 i (by omega)
theorem V_c {g h : Nat → Nat} : ∀ (m : Nat), (∀ i, i < m → g i = h i) → V g m = V h m := by
  intro m
  induction m with
  | zero => intro _; rfl
  | succ m ih => intro q; rw [V_s, V_s, ih (fun i hi => q i (by omega)), q m (by omega)]
theorem Ws_1 {g : Nat → Nat} : ∀ m, Ws g m ≤ 36028797018963967 → V g m = Ws g m := by
  intro m
  induction m with
  | zero => intro _; rfl
  | succ m ih =>
    intro q
    rw [Ws_s] at q ⊢
    by_cases e : 36028797018963967 < Ws g m
    · rw [if_pos e] at q; omega
    · rw [if_neg e, V_s, ih (by omega)]
theorem Ws_2 {g : Nat → Nat} : ∀ m, V g m ≤ 36028797018963967 → Ws g m = V g m := by
  intro m
  induction m with
  | zero => intro _; rfl
  | succ m ih =>
    intro q
    rw [V_s] at q ⊢
    have := ih (by omega)
    rw [Ws_s, if_neg (by omega), this]
theorem Ws_b {g : Nat → Nat} : ∀ m, (∀ i, i < m → g i ≤ 26) → Ws g m ≤ 1152921504606846976 := by
  intro m
  induction m with
  | zero => intro _; show 0 ≤ _; omega
  | succ m ih =>
    intro q
    have h1 := ih (fun i hi => q i (by omega))
    have h2 := q m (by omega)
    rw [Ws_s]
    by_cases e : 36028797018963967 < Ws g m
    · rw [if_pos e]; exact h1
    · rw [if_neg e]; omega
theorem Ws_V {g : Nat → Nat} {m K : Nat} (hK : K ≤ 36028797018963967) : Ws g m = K ↔ V g m = K := by
  constructor
  · intro q; rw [Ws_1 m (by omega), q]
  · intro q; rw [Ws_2 m (by omega), q]
theorem l_eq {v w : Nat} (hv : v < 2 ^ 63) (hw : w < 2 ^ 63) : lN v = lN w ↔ v = w := by
  constructor
  · intro q
    have := congrArg Int64.toInt q
    have e1 : (lN v).toInt = v := Int64.toInt_ofNat_of_lt hv
    have e2 : (lN w).toInt = w := Int64.toInt_ofNat_of_lt hw
    rw [e1, e2] at this
    omega
  · rintro rfl; rfl
theorem l_le {v w : Nat} (hv : v < 2 ^ 63) (hw : w < 2 ^ 63) : lN v ≤ lN w ↔ v ≤ w := by
  have e1 : (lN v).toInt = v := Int64.toInt_ofNat_of_lt hv
  have e2 : (lN w).toInt = w := Int64.toInt_ofNat_of_lt hw
  rw [Int64.le_iff_toInt_le, e1, e2]
  omega
theorem l_add (a b : Nat) : lN a + lN b = lN (a + b) := (Int64.ofNat_add a b).symm
theorem l_mul (a b : Nat) : lN a * lN b = lN (a * b) := (Int64.ofNat_mul a b).symm
theorem kd_1 {b : Nat → Nat} {n a : Nat} : kd b n a = 1 ↔ a < n ∧ lt' (b a) = true := by
  unfold kd
  by_cases e : a < n
  · by_cases e1 : lt' (b a) = true
    · rw [if_pos e, if_pos e1]; exact ⟨fun _ => ⟨e, e1⟩, fun _ => rfl⟩
    · rw [if_pos e, if_neg e1]
      refine ⟨fun q => ?_, fun q => absurd q.2 e1⟩
      by_cases e2 : dg' (b a) = true
      · rw [if_pos e2] at q; omega
      · rw [if_neg e2] at q
        by_cases e3 : b a = 59
        · rw [if_pos e3] at q; omega
        · rw [if_neg e3] at q; omega
  · rw [if_neg e]; exact ⟨fun q => by omega, fun q => absurd q.1 e⟩
theorem kd_2 {b : Nat → Nat} {n a : Nat} : kd b n a = 2 ↔ a < n ∧ dg' (b a) = true := by
  unfold kd
  by_cases e : a < n
  · by_cases e1 : lt' (b a) = true
    · rw [if_pos e, if_pos e1]; exact ⟨fun q => by omega, fun q => by rw [lt_ndg e1] at q; exact absurd q.2 (by decide)⟩
    · rw [if_pos e, if_neg e1]
      by_cases e2 : dg' (b a) = true
      · rw [if_pos e2]; exact ⟨fun _ => ⟨e, e2⟩, fun _ => rfl⟩
      · rw [if_neg e2]
        refine ⟨fun q => ?_, fun q => absurd q.2 e2⟩
        by_cases e3 : b a = 59
        · rw [if_pos e3] at q; omega
        · rw [if_neg e3] at q; omega
  · rw [if_neg e]; exact ⟨fun q => by omega, fun q => absurd q.1 e⟩
theorem kd_0 {b : Nat → Nat} {n a : Nat} : kd b n a = 0 ↔ ¬ a < n := by
  unfold kd
  by_cases e : a < n
  · rw [if_pos e]
    refine ⟨fun q => ?_, fun q => absurd e q⟩
    by_cases e1 : lt' (b a) = true
    · rw [if_pos e1] at q; omega
    · rw [if_neg e1] at q
      by_cases e2 : dg' (b a) = true
      · rw [if_pos e2] at q; omega
      · rw [if_neg e2] at q
        by_cases e3 : b a = 59
        · rw [if_pos e3] at q; omega
        · rw [if_neg e3] at q; omega
  · rw [if_neg e]; exact ⟨fun _ => e, fun _ => rfl⟩
theorem kd_3 {b : Nat → Nat} {n a : Nat} : kd b n a = 3 ↔ a < n ∧ b a = 59 := by
  unfold kd
  by_cases e : a < n
  · rw [if_pos e]
    by_cases e1 : lt' (b a) = true
    · rw [if_pos e1]; exact ⟨fun q => by omega, fun q => by have := lt_r e1; omega⟩
    · rw [if_neg e1]
      by_cases e2 : dg' (b a) = true
      · rw [if_pos e2]; exact ⟨fun q => by omega, fun q => by have := dg_r e2; omega⟩
      · rw [if_neg e2]
        by_cases e3 : b a = 59
        · rw [if_pos e3]; exact ⟨fun _ => ⟨e, e3⟩, fun _ => rfl⟩
        · rw [if_neg e3]; exact ⟨fun q => by omega, fun q => absurd q.2 e3⟩
  · rw [if_neg e]; exact ⟨fun q => by omega, fun q => absurd q.1 e⟩
theorem kd_b {b : Nat → Nat} {n a : Nat} : kd b n a ≤ 4 := by
  unfold kd
  by_cases e : a < n
  · rw [if_pos e]
    by_cases e1 : lt' (b a) = true
    · rw [if_pos e1]; omega
    · rw [if_neg e1]
      by_cases e2 : dg' (b a) = true
      · rw [if_pos e2]; omega
      · rw [if_neg e2]
        by_cases e3 : b a = 59
        · rw [if_pos e3]; omega
        · rw [if_neg e3]; omega
  · rw [if_neg e]; omega
theorem tE_l {b : Nat → Nat} {n a : Nat} (h : a < n) (hl : lt' (b a) = true) {i : Nat} (h1 : a ≤ i) (h2 : i < tE b n a) : lt' (b i) = true := by
  unfold tE at h2
  rw [if_pos h, if_pos hl] at h2
  by_cases e : i = a
  · subst e; exact hl
  · exact run_p fu (a + 1) i (by omega) h2
theorem tE_d {b : Nat → Nat} {n a : Nat} (h : a < n) (hl : dg' (b a) = true) {i : Nat} (h1 : a ≤ i) (h2 : i < tE b n a) : dg' (b i) = true := by
  unfold tE at h2
  rw [if_pos h, if_neg (show ¬ lt' (b a) = true from fun q => by rw [lt_ndg q] at hl; exact absurd hl (by decide)), if_pos hl] at h2
  by_cases e : i = a
  · subst e; exact hl
  · exact run_p fu (a + 1) i (by omega) h2
/-- the word that stands at a, as a number -/
def Wn (b : Nat → Nat) (n a : Nat) : Nat := if a < n ∧ lt' (b a) = true then Ws (fun i => b (a + i) - 96) (tE b n a - a) else 0
theorem Wn_b {b : Nat → Nat} {n a : Nat} : Wn b n a < 2 ^ 63 := by
  unfold Wn
  by_cases e : a < n ∧ lt' (b a) = true
  · rw [if_pos e]
    have := Ws_b (g := fun i => b (a + i) - 96) (tE b n a - a) (fun i hi => by
      have := lt_r (tE_l e.1 e.2 (i := a + i) (by omega) (by omega))
      show b (a + i) - 96 ≤ 26
      omega)
    omega
  · rw [if_neg e]; omega
theorem wd0 {b : Nat → Nat} {n : Nat} {M : Mi} (h : Tm b n M) {a e : Nat} (he : e ≤ n) (ha : a ≤ n) (h3 : M 6 3 = nI a) (h4 : M 6 4 = nI e) (hz : M 6 6 ≠ 0 ∨ ¬ (a < n ∧ lt' (b a) = true)) : ∀ (f k : Nat) (x : Int64), k ≤ n → e - k < f → fX5_word_7 M f x (nI k) = some 0 := by
  have hn := h.1
  intro f
  induction f with
  | zero => intro k x _ q; omega
  | succ f ih =>
    intro k x hk hf
    rw [qX5_word_7, h4]
    by_cases q : e ≤ k
    · rw [if_pos ((nle (by omega) (by omega)).mpr q), h3, byteM h ha, bind_some', ltB h]
      by_cases q6 : M 6 6 = 0
      · rw [if_pos q6, if_neg (hz.resolve_left (fun z => z q6)), if_pos z00]
      · rw [if_neg q6]
    · rw [if_neg (fun z => q ((nle (by omega) (by omega)).mp z)), if_pos (inbn (show k < 120 by omega) (by omega)), ns1, ih (k + 1) _ (by omega) (by omega), ih (k + 1) _ (by omega) (by omega)]
      by_cases z : x ≤ 36028797018963967
      · rw [if_pos z]
      · rw [if_neg z]
theorem wdL {b : Nat → Nat} {n : Nat} {M : Mi} (h : Tm b n M) {a : Nat} (ha : a < n) (hl : lt' (b a) = true) (h3 : M 6 3 = nI a) (h4 : M 6 4 = nI (tE b n a)) (h6 : M 6 6 = 0) : ∀ (f i : Nat), a + i ≤ tE b n a → tE b n a - (a + i) < f → fX5_word_7 M f (lN (Ws (fun i => b (a + i) - 96) i)) (nI (a + i)) = some (lN (Ws (fun i => b (a + i) - 96) (tE b n a - a))) := by
  have hn := h.1
  have he := tE_b (b := b) (n := n) (a := a) (by omega)
  intro f
  induction f with
  | zero => intro i _ q; omega
  | succ f ih =>
    intro i hi hf
    rw [qX5_word_7, h4]
    by_cases q : tE b n a ≤ a + i
    · rw [if_pos ((nle (by omega) (by omega)).mpr q), h3, byteM h (by omega), bind_some', ltB h, if_pos h6, if_pos (show a < n ∧ lt' (b a) = true from ⟨ha, hl⟩), if_neg n10, show tE b n a - a = i by omega]
    · have hc := lt_r (tE_l ha hl (i := a + i) (by omega) (by omega))
      have hb := Ws_b (g := fun i => b (a + i) - 96) i (fun j hj => by
        have := lt_r (tE_l ha hl (i := a + j) (by omega) (by omega))
        show b (a + j) - 96 ≤ 26
        omega)
      have hx := h.2.2 (a + i) (by omega)
      have key : lN (Ws (fun i => b (a + i) - 96) i) ≤ (36028797018963967 : Int64) ↔ Ws (fun i => b (a + i) - 96) i ≤ 36028797018963967 := l_le (w := 36028797018963967) (by omega) (by omega)
      rw [if_neg (fun z => q ((nle (by omega) (by omega)).mp z)), if_pos (inbn (show a + i < 120 by omega) (by omega)), ixn (show a + i < 2 ^ 31 by omega), hx.1, ns1]
      have nxt := ih (i + 1) (by omega) (by omega)
      rw [Ws_s] at nxt
      by_cases z : Ws (fun i => b (a + i) - 96) i ≤ 36028797018963967
      · rw [if_neg (by omega)] at nxt
        rw [if_pos (key.mpr z), show (96 : Int32) = nI 96 from rfl, n_sub (by omega), nI_l (by omega), show (32 : Int64) = lN 32 from rfl, l_mul, l_add]
        exact nxt
      · rw [if_pos (by omega)] at nxt
        rw [if_neg (fun w => z (key.mp w))]
        exact nxt
theorem wordM {b : Nat → Nat} {n : Nat} {M : Mi} (h : Tm b n M) {a : Nat} (hm : Lm b n M a) (h6 : M 6 6 = 0) : fX5_word M = some (lN (Wn b n a)) := by
  have hn := h.1
  have he := tE_b (b := b) (n := n) (a := a) hm.1
  unfold fX5_word Wn
  rw [hm.2.1]
  by_cases e : a < n ∧ lt' (b a) = true
  · rw [if_pos e]
    exact wdL h e.1 e.2 hm.2.1 hm.2.2 h6 fu 0 (by omega) (by show _ < 200; omega)
  · rw [if_neg e]
    exact wd0 h he.2.1 hm.1 hm.2.1 hm.2.2 (Or.inr e) fu a 0 hm.1 (by show _ < 200; omega)
theorem wordW {b : Nat → Nat} {n : Nat} {M : Mi} (h : Tm b n M) {a : Nat} (hm : Lm b n M a) (h6 : M 6 6 ≠ 0) : fX5_word M = some 0 := by
  have hn := h.1
  have he := tE_b (b := b) (n := n) (a := a) hm.1
  unfold fX5_word
  rw [hm.2.1]
  exact wd0 h he.2.1 hm.1 hm.2.1 hm.2.2 (Or.inl h6) fu a 0 hm.1 (by show _ < 200; omega)
def wl (w : Nat) : Nat := sLen.getD w 0
def chr (w i : Nat) : Nat := ix (sby w i)
theorem chr_c : ∀ w, w < 14 → ∀ i, i < 8 → i < wl w → sby w i = nI (chr w i) ∧ 97 ≤ chr w i ∧ chr w i ≤ 122 := by decide +kernel
theorem wl_c : ∀ w, w < 14 → 1 ≤ wl w ∧ wl w ≤ 8 := by decide +kernel
def Kw (w : Nat) : Nat := V (fun i => chr w i - 96) (wl w)
theorem Kw_c : ∀ w, w < 14 → 1 ≤ Kw w ∧ Kw w ≤ 36028797018963967 := by decide +kernel
theorem Kw_v : Kw 0 = 26727879 ∧ Kw 1 = 12343 ∧ Kw 2 = 15748 ∧ Kw 3 = 551282815156 ∧ Kw 4 = 3193326 ∧ Kw 5 = 703926347365 ∧ Kw 6 = 52 ∧ Kw 7 = 6469733 ∧ Kw 8 = 215205 ∧ Kw 9 = 591150 ∧ Kw 10 = 655 ∧ Kw 11 = 654910919 ∧ Kw 12 = 20186245 ∧ Kw 13 = 2262120 := by decide +kernel
theorem W_iff {b : Nat → Nat} {n a w : Nat} (hw : w < 14) (ha : a < n) (hl : lt' (b a) = true) : Wn b n a = Kw w ↔ tE b n a - a = wl w ∧ ∀ i, i < wl w → b (a + i) = chr w i := by
  have hL := wl_c w hw
  unfold Wn
  rw [if_pos ⟨ha, hl⟩, Ws_V (Kw_c w hw).2]
  have hg : ∀ i, i < tE b n a - a → 1 ≤ b (a + i) - 96 ∧ b (a + i) - 96 ≤ 26 := fun i hi => by
    have := lt_r (tE_l ha hl (i := a + i) (by omega) (by omega)); omega
  have hh : ∀ i, i < wl w → 1 ≤ chr w i - 96 ∧ chr w i - 96 ≤ 26 := fun i hi => by
    have := (chr_c w hw i (by omega) hi).2; omega
  constructor
  · intro q
    obtain ⟨q1, q2⟩ := V_inj (g := fun i => b (a + i) - 96) (h := fun i => chr w i - 96) _ _ hg hh q
    refine ⟨q1, fun i hi => ?_⟩
    have q3 : b (a + i) - 96 = chr w i - 96 := q2 i (by omega)
    have := hg i (by omega)
    have := hh i hi
    omega
  · rintro ⟨q1, q2⟩
    rw [q1]
    exact V_c (g := fun i => b (a + i) - 96) (h := fun i => chr w i - 96) _ (fun i hi => by show b (a + i) - 96 = chr w i - 96; rw [q2 i hi])
theorem isW28 {b : Nat → Nat} {n : Nat} {M : Mi} (h : Tx b n M) {a w : Nat} (hw : w < 14) (h2 : M 5 2 = nI a) (ha : a + wl w ≤ n) : ∀ (f i : Nat), i ≤ wl w → wl w - i < f → ∃ r, fX3_isWord_28 M w f (nI i) = some r ∧ ((r = 1 ∧ ∀ j, i ≤ j → j < wl w → b (a + j) = chr w j) ∨ (r = 0 ∧ ∃ j, i ≤ j ∧ j < wl w ∧ b (a + j) ≠ chr w j)) := by
  have hn := h.1
  have hL := wl_c w hw
  intro f
  induction f with
  | zero => intro i _ q; omega
  | succ f ih =>
    intro i hi hf
    have el : fJ0_length_8abf5 w = nI (wl w) := rfl
    rw [qX3_isWord_28, el]
    by_cases e : wl w ≤ i
    · rw [if_pos ((nle (by omega) (by omega)).mpr e)]
      exact ⟨1, rfl, Or.inl ⟨rfl, fun j h1 h2 => by omega⟩⟩
    · have hc := chr_c w hw i (by omega) (by omega)
      have hb := h.2.2 (a + i) (by omega)
      have ec : fJ0_charAt_5068e w (nI i) = some (nI (chr w i)) := by
        unfold fJ0_charAt_5068e
        rw [if_pos (show inb (nI i) (sLen.getD w 0) from inbn (n := wl w) (by omega) (by omega)), ixn (show i < 2 ^ 31 by omega), hc.1]
      rw [if_neg (fun z => e ((nle (by omega) (by omega)).mp z)), h2, nI_add, if_pos (inbn (show a + i < 120 by omega) (by omega)), ec, bind_some', ixn (show a + i < 2 ^ 31 by omega), hb.1, ns1]
      by_cases q : b (a + i) = chr w i
      · rw [if_pos (by rw [q])]
        obtain ⟨r, r1, r2⟩ := ih (i + 1) (by omega) (by omega)
        refine ⟨r, r1, ?_⟩
        rcases r2 with ⟨r3, r4⟩ | ⟨r3, j, r4, r5, r6⟩
        · refine Or.inl ⟨r3, fun j h1 h2 => ?_⟩
          by_cases ej : j = i
          · subst ej; exact q
          · exact r4 j (by omega) h2
        · exact Or.inr ⟨r3, j, by omega, r5, r6⟩
      · rw [if_neg (fun z => q ((neq (by omega) (by omega)).mp z))]
        exact ⟨0, rfl, Or.inr ⟨rfl, i, Nat.le_refl _, by omega, q⟩⟩
theorem isW {b : Nat → Nat} {n : Nat} {M : Mi} (h : Tx b n M) {a w : Nat} (hw : w < 14) (hx : Lx b n M a) : fX3_isWord M w = some (if Wn b n a = Kw w then 1 else 0) := by
  have hn := h.1
  have hL := wl_c w hw
  have he := tE_b (b := b) (n := n) (a := a) hx.1
  have hk := kd_b (b := b) (n := n) (a := a)
  unfold fX3_isWord
  have el : fJ0_length_8abf5 w = nI (wl w) := rfl
  rw [hx.2.2.2.1, hx.2.1, hx.2.2.1, el, n_sub he.1]
  by_cases e : a < n ∧ lt' (b a) = true
  · rw [if_pos (show nI (kd b n a) = 1 by rw [kd_1.mpr e]; rfl)]
    have key := W_iff (b := b) hw e.1 e.2
    by_cases e2 : tE b n a - a = wl w
    · rw [if_pos (by rw [e2])]
      obtain ⟨r, r1, r2⟩ := isW28 h hw hx.2.1 (by omega) fu 0 (by omega) (by show _ < 200; omega)
      have r1' : fX3_isWord_28 M w fu 0 = some r := r1
      rw [r1']
      rcases r2 with ⟨r3, r4⟩ | ⟨r3, j, r4, r5, r6⟩
      · rw [if_pos (key.mpr ⟨e2, fun i hi => r4 i (by omega) hi⟩), r3]
      · rw [if_neg (fun q => r6 ((key.mp q).2 j r5)), r3]
    · rw [if_neg (fun z => e2 ((neq (by omega) (by omega)).mp z)), if_neg (fun q => e2 (key.mp q).1)]
  · rw [if_neg (show ¬ nI (kd b n a) = 1 from fun z => e (kd_1.mp ((neq (b := 1) (by omega) (by omega)).mp z))), if_neg (show ¬ Wn b n a = Kw w from fun q => by
      unfold Wn at q
      rw [if_neg e] at q
      have := Kw_c w hw
      omega)]
