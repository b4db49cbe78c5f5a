/-! readers: sets of cells -/
theorem gfor {h : Nat → Int32} {i : Nat} : ∀ (k t : Nat) (a : Int32), bt (gf (fun a t => a ||| h t) k t a) i = true ↔ (bt a i = true ∨ ∃ u, t ≤ u ∧ u < t + k ∧ bt (h u) i = true)
  | 0, t, a => by
    show bt a i = true ↔ _
    constructor
    · exact fun q => Or.inl q
    · rintro (q | ⟨u, h1, h2, _⟩)
      · exact q
      · omega
  | k + 1, t, a => by
    show bt (gf (fun a t => a ||| h t) k (t + 1) (a ||| h t)) i = true ↔ _
    rw [gfor k (t + 1) (a ||| h t), b_or, Bool.or_eq_true]
    constructor
    · rintro ((q | q) | ⟨u, h1, h2, q⟩)
      · exact Or.inl q
      · exact Or.inr ⟨t, by omega, by omega, q⟩
      · exact Or.inr ⟨u, by omega, by omega, q⟩
    · rintro (q | ⟨u, h1, h2, q⟩)
      · exact Or.inl (Or.inl q)
      · by_cases e : u = t
        · subst e; exact Or.inl (Or.inr q)
        · exact Or.inr ⟨u, by omega, by omega, q⟩
theorem b_01 {x : Int32} (b : Bool) (hx : x = if b then 1 else 0) {c : Nat} (hc : c < 32) {i : Nat} (hi : i < 32) : bt (x <<< (nI c &&& 31)) i = (b && decide (i = c)) := by
  subst hx
  cases b
  · rw [if_neg (by decide), b_shl c hc 0 hi, b_0, Bool.and_false]; rfl
  · rw [if_pos rfl, b_one hc hi]; rfl
def S30 (x : Int32) : Prop := ∀ i, 30 ≤ i → i < 32 → bt x i = false
theorem cw_sim {σ τ : Nat → Int32} (h : Eqv σ τ) {s : Nat} (hs : s < 32) (M : Mi) (hM : M 3 = σ) : ∃ v, fX1_cellsWith M (nI s) = some v ∧ fX5_places τ (nI s) = some v ∧ S30 v := by
  have hz := h.1.le
  have hz1 := h.1.z
  have e1 : τ 1 = nI (sz σ) := (h.e (by omega)).trans hz1
  refine ⟨gf (fun a t => a ||| (((σ (9 + 4 * t) >>> (nI s &&& 31)) &&& 1) <<< (σ (8 + 4 * t) &&& 31))) (sz σ) 0 0, ?_, ?_, ?_⟩
  · unfold fX1_cellsWith
    rw [hM, q_with h.1, bind_some', q_cells h.1, bind_some']
    refine congrArg some (gf_c (z := sz σ) (fun a t ht => ?_) (sz σ) 0 0 (by omega))
    obtain ⟨c, hc, ec⟩ := (h.1.2.2.2 t ht).2.1
    show (if _ = 1 then _ else _) = _
    rw [ec]
    have key := gfor (h := fun t => ((σ (9 + 4 * t) >>> (nI s &&& 31)) &&& 1) <<< (nI t &&& 31)) (i := t) (sz σ) 0 0
    have hb := bit_1 (gf (fun a t => a ||| (((σ (9 + 4 * t) >>> (nI s &&& 31)) &&& 1) <<< (nI t &&& 31))) (sz σ) 0 0) (s := t) (by omega)
    by_cases e : bt (σ (9 + 4 * t)) s = true
    · have k2 := key.mpr (Or.inr ⟨t, by omega, by omega, by
        show bt (_ <<< (nI t &&& 31)) t = true
        rw [b_01 (bt (σ (9 + 4 * t)) s) (bit_v _ hs) (by omega) (by omega), e, decide_eq_true rfl]; rfl⟩)
      rw [if_pos (hb.mpr k2), (bit_1 (σ (9 + 4 * t)) hs).mpr e]
    · have k2 : ¬ bt (gf (fun a t => a ||| (((σ (9 + 4 * t) >>> (nI s &&& 31)) &&& 1) <<< (nI t &&& 31))) (sz σ) 0 0) t = true := fun q => by
        rcases key.mp q with q | ⟨u, _, hu, q⟩
        · rw [b_0] at q; exact absurd q (by decide)
        · have q' : bt (((σ (9 + 4 * u) >>> (nI s &&& 31)) &&& 1) <<< (nI u &&& 31)) t = true := q
          rw [b_01 (bt (σ (9 + 4 * u)) s) (bit_v _ hs) (by omega) (by omega), Bool.and_eq_true, decide_eq_true_iff] at q'
          rw [← q'.2] at q'
          exact e q'.1
      rw [if_neg (fun q => k2 (hb.mp q)), (bit_0 (σ (9 + 4 * t)) hs).mpr (by simpa using e)]
      have z : (0 : Int32) <<< (nI c &&& 31) = 0 := by simp
      rw [z, or0]
  · refine gf_lp (F := fun n a t => fX5_places_4 τ n (nI s) a t) (z := sz σ) (fun n a => ?_) (fun n a t ht => ?_) fu (sz σ) 0 0 (by omega) (by show _ < 200; omega)
    · show fX5_places_4 τ (n + 1) (nI s) a (nI (sz σ)) = _
      rw [qX5_places_4, e1, if_pos ((zle (by omega) (by omega)).mpr (Nat.le_refl _))]
    · show fX5_places_4 τ (n + 1) (nI s) a (nI t) = fX5_places_4 τ n (nI s) _ _
      rw [qX5_places_4, e1, if_neg (by rw [zle (by omega) (by omega)]; omega), its2 (by omega), its1 (by omega), bind_some', bind_some', h.e (k := 9 + 4 * t) (by omega), h.e (k := 8 + 4 * t) (by omega), ns1]
  · intro i hi1 hi2
    by_cases q : bt (gf (fun a t => a ||| (((σ (9 + 4 * t) >>> (nI s &&& 31)) &&& 1) <<< (σ (8 + 4 * t) &&& 31))) (sz σ) 0 0) i = true
    · rcases gfor (h := fun t => ((σ (9 + 4 * t) >>> (nI s &&& 31)) &&& 1) <<< (σ (8 + 4 * t) &&& 31)) (sz σ) 0 0 |>.mp q with q | ⟨u, _, hu, q⟩
      · rw [b_0] at q; exact absurd q (by decide)
      · obtain ⟨c, hc, ec⟩ := (h.1.2.2.2 u (by omega)).2.1
        have q' : bt (((σ (9 + 4 * u) >>> (nI s &&& 31)) &&& 1) <<< (σ (8 + 4 * u) &&& 31)) i = true := q
        rw [ec, b_01 (bt (σ (9 + 4 * u)) s) (bit_v _ hs) (by omega) hi2, Bool.and_eq_true, decide_eq_true_iff] at q'
        omega
    · simpa using q
/-- cells side by side -/
def adj (c i : Nat) : Bool := (i + 1 = c && c % 6 ≠ 0) || (i = c + 1 && c % 6 ≠ 5) || i + 6 = c || (i = c + 6 && c < 24)
def nbs (c : Nat) (a : Int32) : Int32 := (((a ||| (if (nI c - nI c / 6 * 6) ≤ 0 then 0 else (1 <<< ((nI c - 1) &&& 31)) : Int32)) ||| (if 5 ≤ (nI c - nI c / 6 * 6) then 0 else (1 <<< ((nI c + 1) &&& 31)) : Int32)) ||| (if nI c < 6 then 0 else (1 <<< ((nI c - 6) &&& 31)) : Int32)) ||| (if 24 ≤ nI c then 0 else (1 <<< ((nI c + 6) &&& 31)) : Int32)
set_option maxRecDepth 20000 in
theorem nbs_0 : ∀ c, c < 30 → ∀ i, i < 32 → bt (nbs c 0) i = adj c i := by decide +kernel
theorem nbs_a (c : Nat) (a : Int32) (i : Nat) : bt (nbs c a) i = (bt a i || bt (nbs c 0) i) := by
  unfold nbs
  simp only [b_or, b_0, Bool.false_or, Bool.or_assoc]
theorem spr_lp {τ : Nat → Int32} {x : Int32} : ∀ (n c : Nat) (a : Int32), c ≤ 30 → 30 - c < n → ∃ v, fX5_spread_4 τ n x a (nI c) = some v ∧ ∀ i, i < 32 → (bt v i = true ↔ ((bt a i = true ∨ ∃ d, c ≤ d ∧ d < 30 ∧ bt x d = true ∧ adj d i = true) ∧ bt (fX5_open τ) i = true)) := by
  intro n
  induction n with
  | zero => intro c a _ h; omega
  | succ n ih =>
    intro c a hc hn
    rw [qX5_spread_4]
    by_cases e : 30 ≤ c
    · rw [if_pos (show (30 : Int32) ≤ nI c from (nle (a := 30) (by omega) (by omega)).mpr e)]
      refine ⟨_, rfl, fun i hi => ?_⟩
      rw [b_and, Bool.and_eq_true]
      constructor
      · rintro ⟨q1, q2⟩; exact ⟨Or.inl q1, q2⟩
      · rintro ⟨q1 | ⟨d, h1, h2, _⟩, q2⟩
        · exact ⟨q1, q2⟩
        · omega
    · rw [if_neg (show ¬ (30 : Int32) ≤ nI c from fun q => e ((nle (a := 30) (by omega) (by omega)).mp q))]
      have hb := bit_1 x (s := c) (by omega)
      by_cases ex : bt x c = true
      · rw [if_pos (hb.mpr ex)]
        obtain ⟨v, ev, hv⟩ := ih (c + 1) (nbs c a) (by omega) (by omega)
        refine ⟨v, ?_, fun i hi => ?_⟩
        · unfold fX5_spread_36 fX5_spread_56 fX5_spread_75
          rw [show nI c + 1 = nI (c + 1) from ns1 c] at *
          rw [← ns1 c] at ev ⊢
          exact ev
        · rw [hv i hi, nbs_a, nbs_0 c (by omega) i hi, Bool.or_eq_true]
          constructor
          · rintro ⟨(q | q) | ⟨d, h1, h2, h3, h4⟩, q2⟩
            · exact ⟨Or.inl q, q2⟩
            · exact ⟨Or.inr ⟨c, by omega, by omega, ex, q⟩, q2⟩
            · exact ⟨Or.inr ⟨d, by omega, h2, h3, h4⟩, q2⟩
          · rintro ⟨q | ⟨d, h1, h2, h3, h4⟩, q2⟩
            · exact ⟨Or.inl (Or.inl q), q2⟩
            · by_cases ed : d = c
              · subst ed; exact ⟨Or.inl (Or.inr h4), q2⟩
              · exact ⟨Or.inr ⟨d, by omega, h2, h3, h4⟩, q2⟩
      · rw [if_neg (fun q => ex (hb.mp q)), ns1]
        obtain ⟨v, ev, hv⟩ := ih (c + 1) a (by omega) (by omega)
        refine ⟨v, ev, fun i hi => ?_⟩
        rw [hv i hi]
        constructor
        · rintro ⟨q | ⟨d, h1, h2, h3, h4⟩, q2⟩
          · exact ⟨Or.inl q, q2⟩
          · exact ⟨Or.inr ⟨d, by omega, h2, h3, h4⟩, q2⟩
        · rintro ⟨q | ⟨d, h1, h2, h3, h4⟩, q2⟩
          · exact ⟨Or.inl q, q2⟩
          · by_cases ed : d = c
            · subst ed; exact absurd h3 ex
            · exact ⟨Or.inr ⟨d, by omega, h2, h3, h4⟩, q2⟩
def onw (f x : Int32) : Int32 := (((((x ||| ((x &&& (-17043522)) >>> (1 &&& 31))) ||| ((x &&& (-545392673)) <<< (1 &&& 31))) ||| (x >>> (6 &&& 31))) ||| ((x <<< (6 &&& 31)) &&& 1073741823)) &&& (f ^^^ (-1)))
theorem m_1 : ∀ i, i < 32 → bt (-17043522) i = decide (i % 6 ≠ 0 ∨ 30 ≤ i) := by decide +kernel
theorem m_2 : ∀ i, i < 32 → bt (-545392673) i = decide (i % 6 ≠ 5 ∨ 30 ≤ i) := by decide +kernel
theorem m_30 : ∀ i, i < 32 → bt 1073741823 i = decide (i < 30) := by decide +kernel
