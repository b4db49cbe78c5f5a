/-! what is gathered over the tortoises -/
def gf (g : Int32 → Nat → Int32) : Nat → Nat → Int32 → Int32
  | 0, _, a => a
  | k + 1, t, a => gf g k (t + 1) (g a t)
theorem gf_lp {F : Nat → Int32 → Int32 → Option Int32} {g : Int32 → Nat → Int32} {z : Nat} (h0 : ∀ n a, F (n + 1) a (nI z) = some a) (h1 : ∀ n a t, t < z → F (n + 1) a (nI t) = F n (g a t) (nI (t + 1))) : ∀ (n k t : Nat) (a : Int32), t + k = z → k < n → F n a (nI t) = some (gf g k t a) := by
  intro n
  induction n with
  | zero => intro k t a _ h; omega
  | succ n ih =>
    intro k t a hz hk
    match k, hz, hk with
    | 0, hz, _ =>
      have e : t = z := by omega
      subst e; exact h0 n a
    | k + 1, hz, hk =>
      rw [h1 n a t (by omega)]
      exact ih k (t + 1) (g a t) (by omega) (by omega)
theorem zle {z t : Nat} (hz : z < 1000) (ht : t < 1000) : nI z ≤ nI t ↔ z ≤ t := nle (by omega) (by omega)
theorem or0 (x : Int32) : x ||| 0 = x := b_ext (fun i _ => by rw [b_or, b_0, Bool.or_false])
theorem q_in {σ τ : Nat → Int32} (h : Eqv σ τ) (x : Int32) : ∃ v, fX0_tortoisesIn σ x = some v ∧ fX5_those τ x = some v := by
  have hz := h.1.le
  have hz1 := h.1.z
  have e1 : τ 1 = nI (sz σ) := (h.e (by omega)).trans hz1
  refine ⟨gf (fun a t => if σ (8 + 4 * t) = x then a ||| ((1 : Int32) <<< (nI t &&& 31)) else a) (sz σ) 0 0, ?_, ?_⟩
  · refine gf_lp (F := fun n a t => fX0_tortoisesIn_4 σ n x a t) (z := sz σ) (fun n a => ?_) (fun n a t ht => ?_) fu (sz σ) 0 0 (by omega) (by show _ < 200; omega)
    · show fX0_tortoisesIn_4 σ (n + 1) x a (nI (sz σ)) = _
      rw [qX0_tortoisesIn_4, hz1, if_pos ((zle (by omega) (by omega)).mpr (Nat.le_refl _))]
    · show fX0_tortoisesIn_4 σ (n + 1) x a (nI t) = fX0_tortoisesIn_4 σ n x (if σ (8 + 4 * t) = x then _ else _) _
      rw [qX0_tortoisesIn_4, hz1, if_neg (by rw [zle (by omega) (by omega)]; omega), if_pos (inbn (by omega) (by omega)), ixn (by omega), ns1]
      by_cases e : σ (8 + 4 * t) = x
      · rw [if_pos e, if_pos e]
      · rw [if_neg e, if_neg e]
  · refine gf_lp (F := fun n a t => fX5_those_4 τ n x a t) (z := sz σ) (fun n a => ?_) (fun n a t ht => ?_) fu (sz σ) 0 0 (by omega) (by show _ < 200; omega)
    · show fX5_those_4 τ (n + 1) x a (nI (sz σ)) = _
      rw [qX5_those_4, e1, if_pos ((zle (by omega) (by omega)).mpr (Nat.le_refl _))]
    · show fX5_those_4 τ (n + 1) x a (nI t) = fX5_those_4 τ n x (if σ (8 + 4 * t) = x then _ else _) _
      rw [qX5_those_4, e1, if_neg (by rw [zle (by omega) (by omega)]; omega), its1 (by omega), bind_some', h.e (k := 8 + 4 * t) (by omega), ns1]
      by_cases e : σ (8 + 4 * t) = x
      · rw [if_pos e, if_pos e]
      · rw [if_neg e, if_neg e, or0]
/-- the class's gathering of subjects, by a set of cells -/
theorem q_subj {σ : Nat → Int32} (h : Wf σ) (m : Int32) : fX0_subjectsIn σ m = some (gf (fun a t => if ((m >>> (σ (8 + 4 * t) &&& 31)) &&& 1) = 1 then a ||| σ (9 + 4 * t) else a) (sz σ) 0 0) := by
  have hz := h.le
  have hz1 := h.z
  refine gf_lp (F := fun n a t => fX0_subjectsIn_4 σ n m a t) (z := sz σ) (fun n a => ?_) (fun n a t ht => ?_) fu (sz σ) 0 0 (by omega) (by show _ < 200; omega)
  · show fX0_subjectsIn_4 σ (n + 1) m a (nI (sz σ)) = _
    rw [qX0_subjectsIn_4, hz1, if_pos ((zle (by omega) (by omega)).mpr (Nat.le_refl _))]
  · show fX0_subjectsIn_4 σ (n + 1) m a (nI t) = fX0_subjectsIn_4 σ n m (if _ = 1 then _ else _) _
    rw [qX0_subjectsIn_4, hz1, if_neg (by rw [zle (by omega) (by omega)]; omega), if_pos (inbn (by omega) (by omega)), ixn (by omega), ns1]
    by_cases e : ((m >>> (σ (8 + 4 * t) &&& 31)) &&& 1) = 1
    · rw [if_pos e, if_pos e]
    · rw [if_neg e, if_neg e]
theorem gf_c {g g' : Int32 → Nat → Int32} {z : Nat} (h : ∀ a t, t < z → g a t = g' a t) : ∀ (k t : Nat) (a : Int32), t + k = z → gf g k t a = gf g' k t a
  | 0, _, _, _ => rfl
  | k + 1, t, a, e => by
    show gf g k (t + 1) (g a t) = gf g' k (t + 1) (g' a t)
    rw [h a t (by omega)]
    exact gf_c h k (t + 1) _ (by omega)
set_option maxRecDepth 20000 in
theorem one_bit : ∀ c, c < 30 → ∀ d, d < 30 → ((((1 : Int32) <<< (nI c &&& 31)) >>> (nI d &&& 31)) &&& 1 = 1 ↔ nI d = nI c) := by decide +kernel
theorem all_bit : ∀ d, d < 30 → (((1073741823 : Int32) >>> (nI d &&& 31)) &&& 1) = 1 := by decide +kernel
theorem tor_bit : ∀ n, n < 9 → ∀ t, t < n → (((((1 : Int32) <<< (nI n &&& 31)) - 1) >>> (nI t &&& 31)) &&& 1) = 1 := by decide +kernel
theorem q_books {σ τ : Nat → Int32} (h : Eqv σ τ) {c : Nat} (hc : c < 30) : ∃ v, fX0_subjectsIn σ ((1 : Int32) <<< (nI c &&& 31)) = some v ∧ fX5_booksIn τ (nI c) = some v := by
  have hz := h.1.le
  have hz1 := h.1.z
  have e1 : τ 1 = nI (sz σ) := (h.e (by omega)).trans hz1
  refine ⟨_, q_subj h.1 _, ?_⟩
  refine gf_lp (F := fun n a t => fX5_booksIn_4 τ n (nI c) a t) (z := sz σ) (fun n a => ?_) (fun n a t ht => ?_) fu (sz σ) 0 0 (by omega) (by show _ < 200; omega)
  · show fX5_booksIn_4 τ (n + 1) (nI c) a (nI (sz σ)) = _
    rw [qX5_booksIn_4, e1, if_pos ((zle (by omega) (by omega)).mpr (Nat.le_refl _))]
  · show fX5_booksIn_4 τ (n + 1) (nI c) a (nI t) = fX5_booksIn_4 τ n (nI c) (if _ = 1 then _ else _) _
    rw [qX5_booksIn_4, e1, if_neg (by rw [zle (by omega) (by omega)]; omega), its1 (by omega), its2 (by omega), bind_some', bind_some', h.e (k := 8 + 4 * t) (by omega), h.e (k := 9 + 4 * t) (by omega), ns1, or0]
    obtain ⟨d, hd, ed⟩ := (h.1.2.2.2 t ht).2.1
    rw [ed]
    have ob := one_bit c hc d hd
    by_cases e : nI d = nI c
    · rw [if_pos e, if_pos (ob.mpr e)]
    · rw [if_neg e, if_neg (fun q => e (ob.mp q))]
theorem q_all {σ τ : Nat → Int32} (h : Eqv σ τ) : ∃ v, fX0_subjectsIn σ 1073741823 = some v ∧ fX5_allSubjects τ = some v := by
  have hz := h.1.le
  have hz1 := h.1.z
  have e1 : τ 1 = nI (sz σ) := (h.e (by omega)).trans hz1
  refine ⟨_, q_subj h.1 _, ?_⟩
  refine gf_lp (F := fun n a t => fX5_allSubjects_4 τ n a t) (z := sz σ) (fun n a => ?_) (fun n a t ht => ?_) fu (sz σ) 0 0 (by omega) (by show _ < 200; omega)
  · show fX5_allSubjects_4 τ (n + 1) a (nI (sz σ)) = _
    rw [qX5_allSubjects_4, e1, if_pos ((zle (by omega) (by omega)).mpr (Nat.le_refl _))]
  · show fX5_allSubjects_4 τ (n + 1) a (nI t) = fX5_allSubjects_4 τ n (if _ = 1 then _ else _) _
    obtain ⟨d, hd, ed⟩ := (h.1.2.2.2 t ht).2.1
    rw [qX5_allSubjects_4, e1, if_neg (by rw [zle (by omega) (by omega)]; omega), its2 (by omega), bind_some', h.e (k := 9 + 4 * t) (by omega), ns1, ed, if_pos (all_bit d hd)]
theorem q_cells {σ : Nat → Int32} (h : Wf σ) (m : Int32) : fX0_cellsOf σ m = some (gf (fun a t => if ((m >>> (nI t &&& 31)) &&& 1) = 1 then a ||| ((1 : Int32) <<< (σ (8 + 4 * t) &&& 31)) else a) (sz σ) 0 0) := by
  have hz := h.le
  have hz1 := h.z
  refine gf_lp (F := fun n a t => fX0_cellsOf_4 σ n m a t) (z := sz σ) (fun n a => ?_) (fun n a t ht => ?_) fu (sz σ) 0 0 (by omega) (by show _ < 200; omega)
  · show fX0_cellsOf_4 σ (n + 1) m a (nI (sz σ)) = _
    rw [qX0_cellsOf_4, hz1, if_pos ((zle (by omega) (by omega)).mpr (Nat.le_refl _))]
  · show fX0_cellsOf_4 σ (n + 1) m a (nI t) = fX0_cellsOf_4 σ n m (if _ = 1 then _ else _) _
    rw [qX0_cellsOf_4, hz1, if_neg (by rw [zle (by omega) (by omega)]; omega), if_pos (inbn (by omega) (by omega)), ixn (by omega), ns1]
    by_cases e : ((m >>> (nI t &&& 31)) &&& 1) = 1
    · rw [if_pos e, if_pos e]
    · rw [if_neg e, if_neg e]
theorem q_places {σ τ : Nat → Int32} (h : Eqv σ τ) : ∃ v, fX0_cellsOf σ (fX0_allTortoises σ) = some v ∧ fX5_allCells τ = some v := by
  have hz := h.1.le
  have hz1 := h.1.z
  have e1 : τ 1 = nI (sz σ) := (h.e (by omega)).trans hz1
  refine ⟨_, q_cells h.1 _, ?_⟩
  refine gf_lp (F := fun n a t => fX5_allCells_4 τ n a t) (z := sz σ) (fun n a => ?_) (fun n a t ht => ?_) fu (sz σ) 0 0 (by omega) (by show _ < 200; omega)
  · show fX5_allCells_4 τ (n + 1) a (nI (sz σ)) = _
    rw [qX5_allCells_4, e1, if_pos ((zle (by omega) (by omega)).mpr (Nat.le_refl _))]
  · show fX5_allCells_4 τ (n + 1) a (nI t) = fX5_allCells_4 τ n (if _ = 1 then _ else _) _
    rw [qX5_allCells_4, e1, if_neg (by rw [zle (by omega) (by omega)]; omega), its1 (by omega), bind_some', h.e (k := 8 + 4 * t) (by omega), ns1]
    unfold fX0_allTortoises
    rw [hz1, if_pos (tor_bit (sz σ) (by omega) t ht)]
theorem q_with {σ : Nat → Int32} (h : Wf σ) (x : Int32) : fX0_tortoisesWith σ x = some (gf (fun a t => a ||| (((σ (9 + 4 * t) >>> (x &&& 31)) &&& 1) <<< (nI t &&& 31))) (sz σ) 0 0) := by
  have hz := h.le
  have hz1 := h.z
  refine gf_lp (F := fun n a t => fX0_tortoisesWith_4 σ n x a t) (z := sz σ) (fun n a => ?_) (fun n a t ht => ?_) fu (sz σ) 0 0 (by omega) (by show _ < 200; omega)
  · show fX0_tortoisesWith_4 σ (n + 1) x a (nI (sz σ)) = _
    rw [qX0_tortoisesWith_4, hz1, if_pos ((zle (by omega) (by omega)).mpr (Nat.le_refl _))]
  · show fX0_tortoisesWith_4 σ (n + 1) x a (nI t) = fX0_tortoisesWith_4 σ n x _ _
    rw [qX0_tortoisesWith_4, hz1, if_neg (by rw [zle (by omega) (by omega)]; omega), if_pos (inbn (by omega) (by omega)), ixn (by omega), ns1]
theorem q_carry {σ τ : Nat → Int32} (h : Eqv σ τ) (x : Int32) : ∃ v, fX0_tortoisesWith σ x = some v ∧ fX5_carriers τ x = some v := by
  have hz := h.1.le
  have hz1 := h.1.z
  have e1 : τ 1 = nI (sz σ) := (h.e (by omega)).trans hz1
  refine ⟨_, q_with h.1 _, ?_⟩
  refine gf_lp (F := fun n a t => fX5_carriers_4 τ n x a t) (z := sz σ) (fun n a => ?_) (fun n a t ht => ?_) fu (sz σ) 0 0 (by omega) (by show _ < 200; omega)
  · show fX5_carriers_4 τ (n + 1) x a (nI (sz σ)) = _
    rw [qX5_carriers_4, e1, if_pos ((zle (by omega) (by omega)).mpr (Nat.le_refl _))]
  · show fX5_carriers_4 τ (n + 1) x a (nI t) = fX5_carriers_4 τ n x _ _
    rw [qX5_carriers_4, e1, if_neg (by rw [zle (by omega) (by omega)]; omega), its2 (by omega), bind_some', h.e (k := 9 + 4 * t) (by omega), ns1]
theorem q_count {σ τ : Nat → Int32} (h : Eqv σ τ) : ∃ v, fX0_booksOfAll σ = some v ∧ fX5_allBooks τ = some v := by
  have hz := h.1.le
  have hz1 := h.1.z
  have e1 : τ 1 = nI (sz σ) := (h.e (by omega)).trans hz1
  refine ⟨gf (fun a t => a + fJ6_bitCount_0f7a4 (σ (9 + 4 * t))) (sz σ) 0 0, ?_, ?_⟩
  · refine gf_lp (F := fun n a t => fX0_booksOfAll_4 σ n a t) (z := sz σ) (fun n a => ?_) (fun n a t ht => ?_) fu (sz σ) 0 0 (by omega) (by show _ < 200; omega)
    · show fX0_booksOfAll_4 σ (n + 1) a (nI (sz σ)) = _
      rw [qX0_booksOfAll_4, hz1, if_pos ((zle (by omega) (by omega)).mpr (Nat.le_refl _))]
    · show fX0_booksOfAll_4 σ (n + 1) a (nI t) = fX0_booksOfAll_4 σ n _ _
      rw [qX0_booksOfAll_4, hz1, if_neg (by rw [zle (by omega) (by omega)]; omega), if_pos (inbn (by omega) (by omega)), ixn (by omega), ns1]
  · refine gf_lp (F := fun n a t => fX5_allBooks_4 τ n a t) (z := sz σ) (fun n a => ?_) (fun n a t ht => ?_) fu (sz σ) 0 0 (by omega) (by show _ < 200; omega)
    · show fX5_allBooks_4 τ (n + 1) a (nI (sz σ)) = _
      rw [qX5_allBooks_4, e1, if_pos ((zle (by omega) (by omega)).mpr (Nat.le_refl _))]
    · show fX5_allBooks_4 τ (n + 1) a (nI t) = fX5_allBooks_4 τ n _ _
      obtain ⟨d, hd, ed⟩ := (h.1.2.2.2 t ht).2.2.1
      rw [qX5_allBooks_4, e1, if_neg (by rw [zle (by omega) (by omega)]; omega), its2 (by omega), bind_some', h.e (k := 9 + 4 * t) (by omega), ed, ones_12 d hd, bind_some', ns1, bc_12 d hd]
theorem q_tipped {σ τ : Nat → Int32} (h : Eqv σ τ) : ∃ v, fX0_tippedOnes σ = some v ∧ fX5_tipped τ = some v := by
  have hz := h.1.le
  have hz1 := h.1.z
  have e1 : τ 1 = nI (sz σ) := (h.e (by omega)).trans hz1
  refine ⟨gf (fun a t => a + (if σ (10 + 4 * t) = 0 then 0 else 1 : Int32)) (sz σ) 0 0, ?_, ?_⟩
  · refine gf_lp (F := fun n a t => fX0_tippedOnes_4 σ n a t) (z := sz σ) (fun n a => ?_) (fun n a t ht => ?_) fu (sz σ) 0 0 (by omega) (by show _ < 200; omega)
    · show fX0_tippedOnes_4 σ (n + 1) a (nI (sz σ)) = _
      rw [qX0_tippedOnes_4, hz1, if_pos ((zle (by omega) (by omega)).mpr (Nat.le_refl _))]
    · show fX0_tippedOnes_4 σ (n + 1) a (nI t) = fX0_tippedOnes_4 σ n _ _
      rw [qX0_tippedOnes_4, hz1, if_neg (by rw [zle (by omega) (by omega)]; omega), if_pos (inbn (by omega) (by omega)), ixn (by omega), ns1]
  · refine gf_lp (F := fun n a t => fX5_tipped_4 τ n a t) (z := sz σ) (fun n a => ?_) (fun n a t ht => ?_) fu (sz σ) 0 0 (by omega) (by show _ < 200; omega)
    · show fX5_tipped_4 τ (n + 1) a (nI (sz σ)) = _
      rw [qX5_tipped_4, e1, if_pos ((zle (by omega) (by omega)).mpr (Nat.le_refl _))]
    · show fX5_tipped_4 τ (n + 1) a (nI t) = fX5_tipped_4 τ n (a + (if σ (10 + 4 * t) = 0 then 0 else 1 : Int32)) _
      rw [qX5_tipped_4, e1, if_neg (by rw [zle (by omega) (by omega)]; omega), its3 (by omega), bind_some', h.e (k := 10 + 4 * t) (by omega), ns1]
      rcases (h.1.2.2.2 t ht).2.2.2 with e | e
      · rw [e]; rfl
      · rw [e]; rfl
/-! an island becomes another -/
theorem bc_59 {ρ : Nat → Int32} {z : Nat} (hz : z ≤ 8) : ∀ (n t : Nat) (σ : Nat → Int32), σ 1 = nI z → t ≤ z → z - t < n → ∃ a, fX0_becomes_59 ρ n σ (nI t) = some a ∧ (∀ k, k < 7 + 4 * t ∨ 7 + 4 * z ≤ k → a k = σ k) ∧ ∀ k, 7 + 4 * t ≤ k → k < 7 + 4 * z → a k = if k % 4 = 2 then zn (ρ k) else ρ k := by
  intro n
  induction n with
  | zero => intro t σ _ _ h; omega
  | succ n ih =>
    intro t σ h1 ht hn
    rw [qX0_becomes_59, h1]
    by_cases e : z ≤ t
    · rw [if_pos ((zle (by omega) (by omega)).mpr e)]
      exact ⟨_, rfl, fun _ _ => rfl, fun k _ _ => by omega⟩
    · rw [if_neg (by rw [zle (by omega) (by omega)]; exact e), if_pos (inbn (by omega) (by omega)), ixn (by omega), ns1]
      obtain ⟨a, ea, h2, h3⟩ := ih (t + 1) (upd (upd (upd (upd σ (7 + 4 * t) (ρ (7 + 4 * t))) (8 + 4 * t) (ρ (8 + 4 * t))) (9 + 4 * t) (ρ (9 + 4 * t))) (10 + 4 * t) (zn (ρ (10 + 4 * t)))) (by rw [upd_ne (by omega), upd_ne (by omega), upd_ne (by omega), upd_ne (by omega)]; exact h1) (by omega) (by omega)
      refine ⟨a, ea, fun k hk => ?_, fun k hk1 hk2 => ?_⟩
      · rw [h2 k (by omega), upd_ne (by omega), upd_ne (by omega), upd_ne (by omega), upd_ne (by omega)]
      · by_cases e2 : 7 + 4 * (t + 1) ≤ k
        · exact h3 k e2 hk2
        · rw [h2 k (by omega)]
          rcases (show k = 7 + 4 * t ∨ k = 8 + 4 * t ∨ k = 9 + 4 * t ∨ k = 10 + 4 * t by omega) with rfl | rfl | rfl | rfl
          · rw [upd_ne (by omega), upd_ne (by omega), upd_ne (by omega), pk_us, if_neg (by omega)]
          · rw [upd_ne (by omega), upd_ne (by omega), pk_us, if_neg (by omega)]
          · rw [upd_ne (by omega), pk_us, if_neg (by omega)]
          · rw [pk_us, if_pos (by omega)]
theorem zn01 {v : Int32} (h : v = 0 ∨ v = 1) : zn v = v := by rcases h with rfl | rfl <;> rfl
theorem becX {ρ : Nat → Int32} (h : Wf ρ) (σ : Nat → Int32) : ∃ a, fX0_becomes ρ σ = some a ∧ ∀ k, k < 7 + 4 * sz ρ → a k = ρ k := by
  have hz := h.le
  have hz1 := h.z
  unfold fX0_becomes
  have e3 : ∀ (n : Nat) (s : Nat → Int32), fX0_becomes_34 ρ (n + 4) s 0 = fX0_becomes_59 ρ fu (upd (upd (upd s 3 (ρ 3)) 4 (ρ 4)) 5 (ρ 5)) 0 := fun n s => by
    rw [qX0_becomes_34, if_neg (by decide), if_pos (by decide), show (0 : Int32) + 1 = 1 from rfl, qX0_becomes_34, if_neg (by decide), if_pos (by decide), show (1 : Int32) + 1 = 2 from rfl, qX0_becomes_34, if_neg (by decide), if_pos (by decide), show (2 : Int32) + 1 = 3 from rfl, qX0_becomes_34, if_pos (by decide)]
    rfl
  rw [show fu = 196 + 4 from rfl, e3]
  obtain ⟨a, ea, h2, h3⟩ := bc_59 (ρ := ρ) hz fu 0 (upd (upd (upd (upd (upd (upd (upd σ 2 (ρ 2)) 6 (ρ 6)) 0 (ρ 0)) 1 (ρ 1)) 3 (ρ 3)) 4 (ρ 4)) 5 (ρ 5)) (by rw [upd_ne (by omega), upd_ne (by omega), upd_ne (by omega), pk_us]; exact hz1) (by omega) (by show _ < 200; omega)
  refine ⟨a, ea, fun k hk => ?_⟩
  by_cases e : 7 ≤ k
  · rw [h3 k (by omega) hk]
    by_cases e4 : k % 4 = 2
    · rw [if_pos e4, zn01 ((h.vl hk).2.2.2.2 e e4)]
    · rw [if_neg e4]
  · rw [h2 k (by omega)]
    rcases (show k = 0 ∨ k = 1 ∨ k = 2 ∨ k = 3 ∨ k = 4 ∨ k = 5 ∨ k = 6 by omega) with rfl | rfl | rfl | rfl | rfl | rfl | rfl <;> simp [upd]
theorem eqv_of {σ ρ τ : Nat → Int32} (h : Eqv ρ τ) (e : ∀ k, k < 7 + 4 * sz ρ → σ k = ρ k) : Eqv σ τ := by
  have hs : sz σ = sz ρ := by show ix (σ 1) = ix (ρ 1); rw [e 1 (by omega)]
  refine ⟨wf_of ?_ ?_ ?_, fun k hk => ?_⟩
  · rw [hs, e 1 (by omega)]; exact h.1.1
  · rw [hs]; exact h.1.2.1
  · intro k hk; rw [hs] at hk; rw [e k hk]; exact h.1.vl hk
  · rw [hs] at hk; rw [e k hk]; exact h.2 k hk
theorem eqv_of2 {σ τ τ' : Nat → Int32} (h : Eqv σ τ) (e : ∀ k, k < 39 → τ' k = τ k) : Eqv σ τ' := ⟨h.1, fun k hk => by have := h.1.le; rw [e k (by omega)]; exact h.2 k hk⟩
theorem Eqv.refl' {σ : Nat → Int32} (h : Wf σ) : Eqv σ σ := ⟨h, fun _ _ => rfl⟩
