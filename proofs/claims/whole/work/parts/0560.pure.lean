/-! bits, one by one -/
theorem b_1 (i : Nat) : bt 1 i = decide (i = 0) := by
  rcases Nat.lt_or_ge i 32 with h | h
  · exact (by decide +kernel : ∀ i, i < 32 → bt 1 i = decide (i = 0)) i h
  · rw [b_big h, decide_eq_false (by omega)]
theorem bit_v (x : Int32) {s : Nat} (hs : s < 32) : ((x >>> (nI s &&& 31)) &&& 1) = if bt x s then 1 else 0 := by
  refine b_ext (fun i hi => ?_)
  rw [b_and, b_sshr s hs x hi, b_1]
  by_cases e : i = 0
  · subst e
    rw [if_pos (by omega), Nat.add_zero]
    cases bt x s
    · rw [if_neg (by decide), b_0]; rfl
    · rw [if_pos rfl, b_1]; rfl
  · rw [decide_eq_false e, Bool.and_false]
    cases bt x s
    · rw [if_neg (by decide), b_0]
    · rw [if_pos rfl, b_1, decide_eq_false e]
theorem bit_1 (x : Int32) {s : Nat} (hs : s < 32) : (((x >>> (nI s &&& 31)) &&& 1) = 1) ↔ bt x s = true := by
  rw [bit_v x hs]; cases bt x s <;> decide
theorem bit_0 (x : Int32) {s : Nat} (hs : s < 32) : (((x >>> (nI s &&& 31)) &&& 1) = 0) ↔ bt x s = false := by
  rw [bit_v x hs]; cases bt x s <;> decide
theorem b_one {s : Nat} (hs : s < 32) {i : Nat} (hi : i < 32) : bt ((1 : Int32) <<< (nI s &&& 31)) i = decide (i = s) := by
  rw [b_shl s hs 1 hi, b_1]
  by_cases e : i = s
  · subst e; simp
  · by_cases e2 : s ≤ i
    · rw [decide_eq_true e2, decide_eq_false e, decide_eq_false (by omega)]; rfl
    · rw [decide_eq_false e2, decide_eq_false e]; rfl
theorem and_0 (x y : Int32) : x &&& y = 0 ↔ ∀ i, i < 32 → (bt x i && bt y i) = false := by
  constructor
  · intro h i hi
    have : bt (x &&& y) i = false := by rw [h]; exact b_0 i
    rwa [b_and] at this
  · intro h
    refine b_ext (fun i hi => ?_)
    rw [b_and, b_0]; exact h i hi
theorem and_one (x : Int32) {s : Nat} (hs : s < 32) : (x &&& ((1 : Int32) <<< (nI s &&& 31))) = 0 ↔ bt x s = false := by
  rw [and_0]
  constructor
  · intro h
    have := h s hs
    rw [b_one hs hs, decide_eq_true rfl, Bool.and_true] at this
    exact this
  · intro h i hi
    rw [b_one hs hi]
    by_cases e : i = s
    · subst e; rw [h]; rfl
    · rw [decide_eq_false e, Bool.and_false]
/-! one more tortoise -/
def grow (σ : Nat → Int32) (z : Nat) (a b c d : Int32) : Nat → Int32 := upd (upd (upd (upd (upd σ (7 + 4 * z) a) (8 + 4 * z) b) (9 + 4 * z) c) (10 + 4 * z) d) 1 (nI (z + 1))
theorem grow_vl {σ : Nat → Int32} (h : Wf σ) {a b c d : Int32} (va : Vl (7 + 4 * sz σ) a) (vb : Vl (8 + 4 * sz σ) b) (vc : Vl (9 + 4 * sz σ) c) (vd : Vl (10 + 4 * sz σ) d) {k : Nat} (hk : k < 7 + 4 * (sz σ + 1)) : Vl k (grow σ (sz σ) a b c d k) := by
  unfold grow
  by_cases e1 : k = 1
  · exact vl_o (by omega)
  rw [upd_ne e1]
  by_cases e2 : k = 10 + 4 * sz σ
  · subst e2; rw [pk_us]; exact vd
  rw [upd_ne e2]
  by_cases e3 : k = 9 + 4 * sz σ
  · subst e3; rw [pk_us]; exact vc
  rw [upd_ne e3]
  by_cases e4 : k = 8 + 4 * sz σ
  · subst e4; rw [pk_us]; exact vb
  rw [upd_ne e4]
  by_cases e5 : k = 7 + 4 * sz σ
  · subst e5; rw [pk_us]; exact va
  rw [upd_ne e5]
  exact h.vl (by omega)
theorem grow_sz (σ : Nat → Int32) {z : Nat} (hz : z < 100) (a b c d : Int32) : sz (grow σ z a b c d) = z + 1 := by
  unfold sz grow
  rw [pk_us, ixn (by omega)]
theorem eqv_grow {σ τ : Nat → Int32} (h : Eqv σ τ) (hz : sz σ < 8) {a b c d : Int32} (va : Vl (7 + 4 * sz σ) a) (vb : Vl (8 + 4 * sz σ) b) (vc : Vl (9 + 4 * sz σ) c) (vd : Vl (10 + 4 * sz σ) d) : Eqv (grow σ (sz σ) a b c d) (grow τ (sz σ) a b c d) := by
  have hs := grow_sz σ (z := sz σ) (by omega) a b c d
  refine ⟨wf_of ?_ ?_ ?_, fun k hk => ?_⟩
  · rw [hs]; unfold grow; rw [pk_us]
  · rw [hs]; omega
  · intro k hk; rw [hs] at hk; exact grow_vl h.1 va vb vc vd hk
  · rw [hs] at hk
    unfold grow
    by_cases e1 : k = 1
    · subst e1; rw [pk_us, pk_us]
    rw [upd_ne e1, upd_ne e1]
    by_cases e2 : k = 10 + 4 * sz σ
    · subst e2; rw [pk_us, pk_us]
    rw [upd_ne e2, upd_ne e2]
    by_cases e3 : k = 9 + 4 * sz σ
    · subst e3; rw [pk_us, pk_us]
    rw [upd_ne e3, upd_ne e3]
    by_cases e4 : k = 8 + 4 * sz σ
    · subst e4; rw [pk_us, pk_us]
    rw [upd_ne e4, upd_ne e4]
    by_cases e5 : k = 7 + 4 * sz σ
    · subst e5; rw [pk_us, pk_us]
    rw [upd_ne e5, upd_ne e5]
    exact h.2 k (by omega)
theorem comesX {σ : Nat → Int32} (h : Wf σ) (hz : sz σ < 8) (a b c : Int32) : fX0_comes σ a b c = some (nI (sz σ), grow σ (sz σ) a b c 0) := by
  have h1 := h.z
  unfold fX0_comes grow
  rw [h1, if_pos (inbn (by omega) (by omega)), ixn (by omega), upd_ne (k := 10 + 4 * sz σ) (by omega), upd_ne (k := 9 + 4 * sz σ) (by omega), upd_ne (k := 8 + 4 * sz σ) (by omega), upd_ne (k := 7 + 4 * sz σ) (by omega), h1, ns1]
  rfl
theorem addsM {τ : Nat → Int32} {z : Nat} (h1 : τ 1 = nI z) (hz : z < 8) (a b c : Int32) : fX5_adds τ a b c = some (nI z, grow τ z a b c 0) := by
  unfold fX5_adds grow
  rw [h1, spot0, spot1, spot2, spot3, if_pos (inbn (by omega) (by omega)), if_pos (inbn (by omega) (by omega)), if_pos (inbn (by omega) (by omega)), if_pos (inbn (by omega) (by omega)), ixn (by omega), ixn (by omega), ixn (by omega), ixn (by omega), upd_ne (k := 10 + 4 * z) (by omega), upd_ne (k := 9 + 4 * z) (by omega), upd_ne (k := 8 + 4 * z) (by omega), upd_ne (k := 7 + 4 * z) (by omega), h1, ns1]
theorem sim_tortoise : SimT_tortoise Rel := by
  intro Mx Nx Mm Nm h x1 x2 x3
  show Eq2 Nx Nm _ _
  have hz := h.1.1.le
  have hz1 := h.1.1.z
  have e1m : Mm 0 1 = nI (sz (Mx 0)) := (h.e (by omega)).trans hz1
  unfold fX4_tortoise fX5_tortoise
  rcases kind_c x1 with ⟨e1, e2, _⟩ | ⟨k, hk, ek, e1, e2⟩
  · rw [e1, e2, if_pos z00, if_pos z00]; exact h.f0
  rw [e1, e2, if_neg n10, if_neg n10]
  rcases cell_c x2 with ⟨e3, e4, _⟩ | ⟨c, hc, ec, e3, e4⟩
  · rw [e3, e4, if_pos z00, if_pos z00]; exact h.f0
  rw [e3, e4, if_neg n10, if_neg n10]
  rcases bks_c x3 with ⟨e5, e6, _⟩ | ⟨b, hb, eb, e5, e6⟩
  · rw [e5, e6, if_pos z00, if_pos z00]; exact h.f0
  rw [e5, e6, if_neg n10, if_neg n10]
  unfold fX0_isFull
  rw [e1m, hz1]
  by_cases e8 : sz (Mx 0) < 8
  · rw [if_pos (show nI (sz (Mx 0)) < 8 from (nlt (b := 8) (by omega) (by omega)).mpr e8), if_pos z00, if_neg (show ¬ nI (sz (Mx 0)) = 8 by intro q; have := (neq (b := 8) (by omega) (by omega)).mp q; omega), comesX h.1.1 e8, addsM e1m e8]
    exact ⟨_, _, rfl, rfl, rfl, h.s0 (eqv_grow h.1 e8 (vl_7 ⟨k, hk, ek⟩) (vl_8 ⟨c, hc, ec⟩) (vl_9 ⟨b, hb, eb⟩) (vl_10 (Or.inl rfl)))⟩
  · have e9 : sz (Mx 0) = 8 := by omega
    rw [if_neg (show ¬ nI (sz (Mx 0)) < 8 by rw [show (8 : Int32) = nI 8 from rfl, nlt (by omega) (by omega)]; exact e8), if_neg n10, if_pos (show nI (sz (Mx 0)) = 8 by rw [e9]; rfl)]
    exact h.f1
/-! the others of one island -/
theorem aimS_c {σ τ : Nat → Int32} (h : Eqv σ τ) {t : Nat} (ht : t < sz σ) : aimS τ t = aimS σ t := by
  unfold aimS fX0_aimOfLaw fX0_rainsAt fX0_clock
  rw [h.e (k := 0) (by omega), h.e (k := 7 + 4 * t) (by omega), h.e (k := 8 + 4 * t) (by omega), h.e (k := 3) (by omega), h.e (k := 4) (by omega), h.e (k := 5) (by omega), h.e (k := 6) (by omega)]
theorem pcS_c {σ τ : Nat → Int32} (h : Eqv σ τ) {t : Nat} (ht : t < sz σ) : pcS τ t = pcS σ t := by
  unfold pcS fX0_clock
  rw [h.e (k := 0) (by omega), h.e (k := 7 + 4 * t) (by omega)]
theorem sim_of : SimT_of Rel := by
  intro Mx Nx Mm Nm h x1 x2
  show Eq2 Nx Nm _ _
  have hz := h.1.1.le
  unfold fX4_of fX5_of
  rcases has_c h.1 x1 with ⟨e1, e2, _⟩ | ⟨t, ht, et, e1, e2⟩
  · rw [e1, e2, if_pos z00, if_pos z00]; exact h.f0
  rw [e1, e2, if_neg n10, if_neg n10, et]
  rcases bi_c x2 (n := 6) (by omega) (by omega) with ⟨_, e3, e4⟩ | ⟨w, hw, ew, _, e3⟩
  · have e3' : fX5_in (Int32.toInt64 x2) 0 5 = 0 := e3
    rw [e3', if_pos z00, if_neg (show ¬ x2 = 0 from e4 0 (by omega)), if_neg (show ¬ x2 = 1 from e4 1 (by omega)), if_neg (show ¬ x2 = 2 from e4 2 (by omega)), if_neg (show ¬ x2 = 3 from e4 3 (by omega)), if_neg (show ¬ x2 = 4 from e4 4 (by omega)), if_neg (show ¬ x2 = 5 from e4 5 (by omega))]
    exact h.f0
  have e3' : fX5_in (Int32.toInt64 x2) 0 5 = 1 := e3
  rw [e3', if_neg n10]
  have i8 : inb (nI t) 8 := inbn (by omega) (by omega)
  have j8 : ix (nI t) = t := ixn (by omega)
  rcases (show w = 0 ∨ w = 1 ∨ w = 2 ∨ w = 3 ∨ w = 4 ∨ w = 5 by omega) with rfl | rfl | rfl | rfl | rfl | rfl
  · have ew' : x2 = 0 := ew
    subst ew'
    rw [if_pos z00, if_pos i8, j8, if_neg (show ¬ (4 : Int32) ≤ 0 by decide), its0 (by omega), h.e (k := 7 + 4 * t) (by omega)]
    exact h.ok _
  · have ew' : x2 = 1 := ew
    subst ew'
    rw [if_neg n10, if_pos rfl, if_pos i8, j8, if_neg (show ¬ (4 : Int32) ≤ 1 by decide), its1 (by omega), h.e (k := 8 + 4 * t) (by omega)]
    exact h.ok _
  · have ew' : x2 = 2 := ew
    subst ew'
    rw [if_neg n20, if_neg n21, if_pos rfl, if_pos i8, j8, if_neg (show ¬ (4 : Int32) ≤ 2 by decide), its2 (by omega), h.e (k := 9 + 4 * t) (by omega)]
    exact h.ok _
  · have ew' : x2 = 3 := ew
    subst ew'
    rw [if_neg (show ¬ (3 : Int32) = 0 by decide), if_neg (show ¬ (3 : Int32) = 1 by decide), if_neg (show ¬ (3 : Int32) = 2 by decide), if_pos rfl, if_pos i8, j8, if_neg (show ¬ (4 : Int32) ≤ 3 by decide), its3 (by omega), h.e (k := 10 + 4 * t) (by omega)]
    rcases (h.1.1.2.2.2 t ht).2.2.2 with e | e
    · rw [e, if_pos z00]; exact h.ok _
    · rw [e, if_neg n10]; exact h.ok _
  · have ew' : x2 = 4 := ew
    subst ew'
    rw [if_neg (show ¬ (4 : Int32) = 0 by decide), if_neg (show ¬ (4 : Int32) = 1 by decide), if_neg (show ¬ (4 : Int32) = 2 by decide), if_neg (show ¬ (4 : Int32) = 3 by decide), if_pos rfl, if_pos (show (4 : Int32) ≤ 4 by decide), if_pos rfl, aimX (by omega), aimM (by omega), aimS_c h.1 ht]
    exact h.ok _
  · have ew' : x2 = 5 := ew
    subst ew'
    rw [if_neg (show ¬ (5 : Int32) = 0 by decide), if_neg (show ¬ (5 : Int32) = 1 by decide), if_neg (show ¬ (5 : Int32) = 2 by decide), if_neg (show ¬ (5 : Int32) = 3 by decide), if_neg (show ¬ (5 : Int32) = 4 by decide), if_pos rfl, if_pos (show (4 : Int32) ≤ 5 by decide), if_neg (show ¬ (5 : Int32) = 4 by decide), paceX (by omega), paceM (by omega), pcS_c h.1 ht]
    exact h.ok _
theorem becM {τ : Nat → Int32} {k : Nat} (hk : k < 39) (v : Int32) : fX5_becomes τ (nI k) v = some (τ k, upd τ k v) := by
  unfold fX5_becomes
  rw [if_pos (inbn hk (by omega)), ixn (by omega)]
theorem sim_turn : SimT_turn Rel := by
  intro Mx Nx Mm Nm h x1 x2
  show Eq2 Nx Nm _ _
  have hz := h.1.1.le
  unfold fX4_turn fX5_turn
  rcases has_c h.1 x1 with ⟨e1, e2, _⟩ | ⟨t, ht, et, e1, e2⟩
  · rw [e1, e2, if_pos z00, if_pos z00]; exact h.f0
  rw [e1, e2, if_neg n10, if_neg n10]
  rcases kind_c x2 with ⟨e3, e4, _⟩ | ⟨k, hk, ek, e3, e4⟩
  · rw [e3, e4, if_pos z00, if_pos z00]; exact h.f0
  rw [e3, e4, if_neg n10, if_neg n10, et, if_pos (inbn (by omega) (by omega)), ixn (by omega), spot0, becM (by omega), h.e (k := 7 + 4 * t) (by omega)]
  exact ⟨_, _, rfl, rfl, rfl, h.w0 (by omega) (vl_7 ⟨k, hk, ek⟩)⟩
theorem sim_set : SimT_set Rel := by
  intro Mx Nx Mm Nm h x1 x2 x3
  show Eq2 Nx Nm _ _
  have hz := h.1.1.le
  unfold fX4_set fX5_set
  rcases has_c h.1 x1 with ⟨e1, e2, _⟩ | ⟨t, ht, et, e1, e2⟩
  · have q : ∀ s, fX5_set_45 Mm x1 x2 x3 s = fX5_set_73 Mm := fun s => by unfold fX5_set_45; rw [e2, if_pos z00]
    unfold fX5_set_44
    simp only [q, ite_self]
    rw [e1, if_pos z00]; exact h.f0
  have q0 : fX5_set_45 Mm x1 x2 x3 0 = fX5_set_73 Mm := by unfold fX5_set_45; rw [e2, if_neg n10, if_pos z00]
  have q1 : fX5_set_45 Mm x1 x2 x3 1 = Option.bind (fX5_becomes (Mm 0) (fX5_spotOf x1 x2) x3) (fun a7 => some (a7.1, sR Mm 0 a7.2)) := by unfold fX5_set_45; rw [e2, if_neg n10, if_neg n10]
  have i8 : inb (nI t) 8 := inbn (by omega) (by omega)
  have j8 : ix (nI t) = t := ixn (by omega)
  unfold fX5_set_44
  rw [q0, q1, e1, if_neg n10]
  by_cases w1 : x2 = 1
  · subst w1
    rw [if_pos rfl, if_pos rfl]
    rcases cell_c x3 with ⟨e3, e4, _⟩ | ⟨c, hc, ec, e3, e4⟩
    · rw [e3, e4, if_pos z00, q0]
      unfold fX4_set_53 fX4_set_92
      rw [if_neg (show ¬ (1 : Int32) = 2 by decide), if_neg (show ¬ (1 : Int32) = 3 by decide)]
      exact h.f0
    · rw [e3, e4, if_neg n10, q1, et, if_pos i8, j8, spot1, becM (by omega), h.e (k := 8 + 4 * t) (by omega)]
      exact ⟨_, _, rfl, rfl, rfl, h.w0 (by omega) (vl_8 ⟨c, hc, ec⟩)⟩
  rw [if_neg w1, if_neg w1]
  unfold fX4_set_53
  by_cases w2 : x2 = 2
  · subst w2
    rw [if_pos rfl, if_pos rfl]
    rcases bks_c x3 with ⟨e3, e4, _⟩ | ⟨c, hc, ec, e3, e4⟩
    · rw [e3, e4, if_pos z00, q0]
      unfold fX4_set_92
      rw [if_neg (show ¬ (2 : Int32) = 3 by decide)]
      exact h.f0
    · rw [e3, e4, if_neg n10, q1, et, if_pos i8, j8, spot2, becM (by omega), h.e (k := 9 + 4 * t) (by omega)]
      exact ⟨_, _, rfl, rfl, rfl, h.w0 (by omega) (vl_9 ⟨c, hc, ec⟩)⟩
  rw [if_neg w2, if_neg w2]
  unfold fX4_set_92
  by_cases w3 : x2 = 3
  · subst w3
    rw [if_pos rfl, if_pos rfl]
    rcases flag_c x3 with ⟨e3, e4, _⟩ | ⟨hx, e3, e4⟩
    · rw [e3, e4, if_pos z00, if_pos z00]
      exact h.f0
    · rw [e3, e4, if_neg n10, if_neg n10, et, if_pos i8, j8, spot3, becM (by omega), h.e (k := 10 + 4 * t) (by omega)]
      unfold fX4_set_121
      rw [if_pos i8, j8]
      have ex : zn (if x3 = 1 then 1 else 0 : Int32) = x3 := by rcases hx with rfl | rfl <;> rfl
      have ey : (if Mx 0 (10 + 4 * t) = 0 then 0 else 1 : Int32) = Mx 0 (10 + 4 * t) := by
        rcases (h.1.1.2.2.2 t ht).2.2.2 with e | e <;> rw [e] <;> rfl
      rw [ex, ey]
      exact ⟨_, _, rfl, rfl, rfl, h.w0 (by omega) (vl_10 hx)⟩
  rw [if_neg w3, if_neg w3]
  exact h.f0
