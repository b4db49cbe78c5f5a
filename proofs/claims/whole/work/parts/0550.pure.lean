/-! the two worlds, held together -/
def Tp (Mx Mm : Mi) : Prop := Mx 5 0 = Mm 6 2 ∧ ∃ n, n ≤ 120 ∧ Mx 5 0 = nI n ∧ ∀ k, k < n → Mx 5 (10 + k) = Mm 5 k ∧ ∃ c, c < 256 ∧ Mm 5 k = nI c
def Sh (Mx : Mi) (Nx : Ml) (Mm : Mi) (Nm : Ml) (s : Nat) : Prop := Mx (20 + s) 0 = Mm 7 s ∧ (Mm 7 s = 0 ∨ Mm 7 s = 8 ∨ Mm 7 s = 16 ∨ Mm 7 s = 64) ∧ Mx (20 + s) 1 = Mm 8 s ∧ (∃ n, n ≤ 40 ∧ Mm 8 s = nI n) ∧ ∀ i, i < 40 → Nx (20 + s) i = Nm 9 (40 * s + i)
def Kp (Mx Mm : Mi) : Prop := Mx 8 0 = Mm 6 0 ∧ (Mx 8 0 = 0 ∨ Mx 8 0 = 1) ∧ (Mx 8 0 ≠ 0 → Eqv (Mx 2) (Mm 1))
def Rest (Mx : Mi) (Nx : Ml) (Mm : Mi) (Nm : Ml) : Prop := Kp Mx Mm ∧ (∀ k, k < 7 → Mx 7 k = Mm 4 k) ∧ Tp Mx Mm ∧ ∀ s, s < 4 → Sh Mx Nx Mm Nm s
def Rel (Mx : Mi) (Nx : Ml) (Mm : Mi) (Nm : Ml) : Prop := Eqv (Mx 0) (Mm 0) ∧ Rest Mx Nx Mm Nm
/-- what is left as it was: all that the two have in common but the island -/
def keX (M M' : Mi) : Prop := (∀ r, r ≠ 0 → r ≠ 1 → r ≠ 3 → r ≠ 4 → r ≠ 5 → M' r = M r) ∧ M' 5 0 = M 5 0 ∧ ∀ k, M' 5 (10 + k) = M 5 (10 + k)
def keM (M M' : Mi) : Prop := (∀ r, r ≠ 0 → r ≠ 2 → r ≠ 3 → r ≠ 6 → M' r = M r) ∧ M' 6 0 = M 6 0 ∧ M' 6 2 = M 6 2
theorem keX.rfl' (M : Mi) : keX M M := ⟨fun _ _ _ _ _ _ => rfl, rfl, fun _ => rfl⟩
theorem keM.rfl' (M : Mi) : keM M M := ⟨fun _ _ _ _ _ => rfl, rfl, rfl⟩
theorem keX.tr {A B C : Mi} (h : keX A B) (g : keX B C) : keX A C := ⟨fun r a b c d e => (g.1 r a b c d e).trans (h.1 r a b c d e), g.2.1.trans h.2.1, fun k => (g.2.2 k).trans (h.2.2 k)⟩
theorem keM.tr {A B C : Mi} (h : keM A B) (g : keM B C) : keM A C := ⟨fun r a b c d => (g.1 r a b c d).trans (h.1 r a b c d), g.2.1.trans h.2.1, g.2.2.trans h.2.2⟩
theorem keX_s (M : Mi) {r : Nat} (σ : Nat → Int32) (h : r = 0 ∨ r = 1 ∨ r = 3 ∨ r = 4) : keX M (sR M r σ) := ⟨fun q a b c d e => sR_ne _ _ (by omega), by rw [sR_off _ _ _ (by omega)], fun k => by rw [sR_off _ _ _ (by omega)]⟩
theorem keX_w (M : Mi) {r : Nat} (k : Nat) (v : Int32) (h : r = 0 ∨ r = 1 ∨ r = 3 ∨ r = 4) : keX M (wM M r k v) := keX_s M _ h
theorem keM_s (M : Mi) {r : Nat} (σ : Nat → Int32) (h : r = 0 ∨ r = 2 ∨ r = 3) : keM M (sR M r σ) := ⟨fun q a b c d => sR_ne _ _ (by omega), by rw [sR_off _ _ _ (by omega)], by rw [sR_off _ _ _ (by omega)]⟩
theorem keM_w (M : Mi) {r : Nat} (k : Nat) (v : Int32) (h : r = 0 ∨ r = 2 ∨ r = 3) : keM M (wM M r k v) := keM_s M _ h
theorem wM_ne (M : Mi) {r q : Nat} (k : Nat) (v : Int32) (h : q ≠ r) : wM M r k v q = M q := sR_ne _ _ h
theorem wM_at (M : Mi) (r k : Nat) (v : Int32) : wM M r k v r = upd (M r) k v := sR_same _ _ _
theorem keM_6 (M : Mi) {k : Nat} (v : Int32) (h : k ≠ 0) (h2 : k ≠ 2) : keM M (wM M 6 k v) := ⟨fun q a b c d => wM_ne _ _ _ (by omega), by rw [wM_at, upd_ne (Ne.symm h)], by rw [wM_at, upd_ne (Ne.symm h2)]⟩
theorem Rest.ke {Mx : Mi} {Nx : Ml} {Mm : Mi} {Nm : Ml} (h : Rest Mx Nx Mm Nm) {Mx' Mm' : Mi} (hx : keX Mx Mx') (hm : keM Mm Mm') : Rest Mx' Nx Mm' Nm := by
  obtain ⟨⟨k1, k2, k3⟩, hf, ⟨t1, n, t2, t3, t4⟩, hs⟩ := h
  have x8 := hx.1 8 (by omega) (by omega) (by omega) (by omega) (by omega)
  have x2 := hx.1 2 (by omega) (by omega) (by omega) (by omega) (by omega)
  have x7 := hx.1 7 (by omega) (by omega) (by omega) (by omega) (by omega)
  have m1 := hm.1 1 (by omega) (by omega) (by omega) (by omega)
  have m4 := hm.1 4 (by omega) (by omega) (by omega) (by omega)
  have m5 := hm.1 5 (by omega) (by omega) (by omega) (by omega)
  have m7 := hm.1 7 (by omega) (by omega) (by omega) (by omega)
  have m8 := hm.1 8 (by omega) (by omega) (by omega) (by omega)
  refine ⟨⟨?_, ?_, ?_⟩, ?_, ⟨?_, n, t2, ?_, ?_⟩, ?_⟩
  · rw [x8, hm.2.1]; exact k1
  · rw [x8]; exact k2
  · rw [x8, x2, m1]; exact k3
  · intro k hk; rw [x7, m4]; exact hf k hk
  · rw [hx.2.1, hm.2.2]; exact t1
  · rw [hx.2.1]; exact t3
  · intro k hk; rw [hx.2.2, m5]; exact t4 k hk
  · intro s hs'
    have xs := hx.1 (20 + s) (by omega) (by omega) (by omega) (by omega) (by omega)
    unfold Sh
    rw [xs, m7, m8]; exact hs s hs'
/-- both answer the same, and are still held together -/
def Eq2 {α : Type} (Nx Nm : Ml) (x y : Option (α × Mi)) : Prop := ∃ b d, x = some b ∧ y = some d ∧ b.1 = d.1 ∧ Rel b.2 Nx d.2 Nm
theorem Rel.ke {Mx : Mi} {Nx : Ml} {Mm : Mi} {Nm : Ml} (h : Rel Mx Nx Mm Nm) {Mx' Mm' : Mi} (hx : keX Mx Mx') (hm : keM Mm Mm') (e : Eqv (Mx' 0) (Mm' 0)) : Rel Mx' Nx Mm' Nm := ⟨e, h.2.ke hx hm⟩
theorem Rel.s0 {Mx : Mi} {Nx : Ml} {Mm : Mi} {Nm : Ml} (h : Rel Mx Nx Mm Nm) {σ τ : Nat → Int32} (e : Eqv σ τ) : Rel (sR Mx 0 σ) Nx (sR Mm 0 τ) Nm := ⟨by rw [sR_same, sR_same]; exact e, h.2.ke (keX_s _ _ (by omega)) (keM_s _ _ (by omega))⟩
theorem fndX (M : Mi) {i : Nat} (h : i < 7) : fX4_finding M (nI i) = some ((-1000000001) - nI i, wM M 7 i (M 7 i + 1)) := by
  unfold fX4_finding
  rw [if_pos (inbn h (by omega)), ixn (by omega)]
theorem fndM (M : Mi) {i : Nat} (h : i < 7) : fX5_finds M ((-1000000001) - nI i) = some ((-1000000001) - nI i, wM M 4 i (M 4 i + 1)) := by
  have e : (-1000000001 : Int32) - ((-1000000001) - nI i) = nI i := by
    have : ∀ i, i < 7 → (-1000000001 : Int32) - ((-1000000001) - nI i) = nI i := by decide +kernel
    exact this i h
  unfold fX5_finds
  rw [e, if_pos (inbn h (by omega)), ixn (by omega)]
theorem Rel.fnd {Mx : Mi} {Nx : Ml} {Mm : Mi} {Nm : Ml} (h : Rel Mx Nx Mm Nm) {i : Nat} (hi : i < 7) : Rel (wM Mx 7 i (Mx 7 i + 1)) Nx (wM Mm 4 i (Mm 4 i + 1)) Nm := by
  obtain ⟨h0, ⟨k1, k2, k3⟩, hf, ⟨t1, n, t2, t3, t4⟩, hs⟩ := h
  refine ⟨?_, ⟨?_, ?_, ?_⟩, ?_, ⟨?_, n, t2, ?_, ?_⟩, ?_⟩
  · rw [wM_ne _ _ _ (by omega), wM_ne _ _ _ (by omega)]; exact h0
  · rw [wM_ne _ _ _ (by omega), wM_ne _ _ _ (by omega)]; exact k1
  · rw [wM_ne _ _ _ (by omega)]; exact k2
  · rw [wM_ne _ _ _ (by omega), wM_ne _ _ _ (by omega), wM_ne _ _ _ (by omega)]; exact k3
  · intro k hk
    rw [wM_at, wM_at]
    by_cases e : k = i
    · subst e; rw [pk_us, pk_us, hf k hk]
    · rw [upd_ne e, upd_ne e]; exact hf k hk
  · rw [wM_ne _ _ _ (by omega), wM_ne _ _ _ (by omega)]; exact t1
  · rw [wM_ne _ _ _ (by omega)]; exact t3
  · intro k hk; rw [wM_ne _ _ _ (by omega), wM_ne _ _ _ (by omega)]; exact t4 k hk
  · intro s hs'
    unfold Sh
    rw [wM_ne _ _ _ (by omega), wM_ne _ _ _ (by omega), wM_ne _ _ _ (by omega)]; exact hs s hs'
theorem Rel.f {Mx : Mi} {Nx : Ml} {Mm : Mi} {Nm : Ml} (h : Rel Mx Nx Mm Nm) {i : Nat} (hi : i < 7) : Eq2 Nx Nm (Option.bind (fX4_finding Mx (nI i)) (fun a => some (a.1, a.2))) (Option.bind (fX5_finds Mm ((-1000000001) - nI i)) (fun a => some (a.1, a.2))) := by
  rw [fndX _ hi, fndM _ hi]
  exact ⟨_, _, rfl, rfl, rfl, h.fnd hi⟩
theorem Rel.f0 {Mx : Mi} {Nx : Ml} {Mm : Mi} {Nm : Ml} (h : Rel Mx Nx Mm Nm) : Eq2 Nx Nm (Option.bind (fX4_finding Mx 0) (fun a => some (a.1, a.2))) (Option.bind (fX5_finds Mm (-1000000001)) (fun a => some (a.1, a.2))) := h.f (i := 0) (by omega)
theorem Rel.f1 {Mx : Mi} {Nx : Ml} {Mm : Mi} {Nm : Ml} (h : Rel Mx Nx Mm Nm) : Eq2 Nx Nm (Option.bind (fX4_finding Mx 1) (fun a => some (a.1, a.2))) (Option.bind (fX5_finds Mm (-1000000002)) (fun a => some (a.1, a.2))) := h.f (i := 1) (by omega)
theorem Rel.f2 {Mx : Mi} {Nx : Ml} {Mm : Mi} {Nm : Ml} (h : Rel Mx Nx Mm Nm) : Eq2 Nx Nm (Option.bind (fX4_finding Mx 2) (fun a => some (a.1, a.2))) (Option.bind (fX5_finds Mm (-1000000003)) (fun a => some (a.1, a.2))) := h.f (i := 2) (by omega)
theorem Rel.f3 {Mx : Mi} {Nx : Ml} {Mm : Mi} {Nm : Ml} (h : Rel Mx Nx Mm Nm) : Eq2 Nx Nm (Option.bind (fX4_finding Mx 3) (fun a => some (a.1, a.2))) (Option.bind (fX5_finds Mm (-1000000004)) (fun a => some (a.1, a.2))) := h.f (i := 3) (by omega)
theorem Rel.f4 {Mx : Mi} {Nx : Ml} {Mm : Mi} {Nm : Ml} (h : Rel Mx Nx Mm Nm) : Eq2 Nx Nm (Option.bind (fX4_finding Mx 4) (fun a => some (a.1, a.2))) (Option.bind (fX5_finds Mm (-1000000005)) (fun a => some (a.1, a.2))) := h.f (i := 4) (by omega)
theorem Rel.ok {Mx : Mi} {Nx : Ml} {Mm : Mi} {Nm : Ml} (h : Rel Mx Nx Mm Nm) {α : Type} (v : α) : Eq2 Nx Nm (some (v, Mx)) (some (v, Mm)) := ⟨_, _, rfl, rfl, rfl, h⟩
/-! the small ones -/
theorem n10 : ¬ (1 : Int32) = 0 := by decide
theorem n20 : ¬ (2 : Int32) = 0 := by decide
theorem n21 : ¬ (2 : Int32) = 1 := by decide
theorem z00 : (0 : Int32) = 0 := rfl
theorem Rel.e {Mx : Mi} {Nx : Ml} {Mm : Mi} {Nm : Ml} (h : Rel Mx Nx Mm Nm) {k : Nat} (hk : k < 7 + 4 * sz (Mx 0)) : Mm 0 k = Mx 0 k := h.1.e hk
theorem Rel.w0 {Mx : Mi} {Nx : Ml} {Mm : Mi} {Nm : Ml} (h : Rel Mx Nx Mm Nm) {k : Nat} {v : Int32} (hk : k ≠ 1) (hv : Vl k v) : Rel (wM Mx 0 k v) Nx (wM Mm 0 k v) Nm := h.s0 (eqv_upd h.1 hk hv)
theorem fen_c {σ τ : Nat → Int32} (h : Eqv σ τ) (x : Int32) : fX5_isFenced τ x = fX0_isFenced σ x := by unfold fX5_isFenced fX0_isFenced; rw [h.e (k := 2) (by omega)]
theorem fences_c {σ τ : Nat → Int32} (h : Eqv σ τ) (x : Int32) {y : Int32} (hy : y = 0 ∨ y = 1) : ∃ a b, fX0_fences σ x y = some a ∧ fX5_fences τ x y = some b ∧ Eqv a b ∧ sz a = sz σ := by
  have e2 : τ 2 = σ 2 := h.e (by omega)
  unfold fX0_fences fX5_fences
  rw [e2]
  rcases hy with rfl | rfl
  · rw [if_pos rfl, show ((0 : Int32) <<< (x &&& 31)) = 0 from by simp, or0]
    exact ⟨_, _, rfl, rfl, eqv_upd h (by omega) (vl_o (by omega)), sz_upd (by omega)⟩
  · rw [if_neg (by decide)]
    have e : (σ 2 &&& (((1 : Int32) <<< (x &&& 31)) ^^^ (-1))) ||| ((1 : Int32) <<< (x &&& 31)) = σ 2 ||| ((1 : Int32) <<< (x &&& 31)) := b_ext (fun i hi => by
      rw [b_or, b_or, b_and, b_xor, b_m1 i hi]
      cases bt (σ 2) i <;> cases bt ((1 : Int32) <<< (x &&& 31)) i <;> rfl)
    rw [e]
    exact ⟨_, _, rfl, rfl, eqv_upd h (by omega) (vl_o (by omega)), sz_upd (by omega)⟩
theorem sim_fence : SimT_fence Rel := by
  intro Mx Nx Mm Nm h x1 x2
  show Eq2 Nx Nm _ _
  unfold fX4_fence fX5_fence
  rcases cell_c x1 with ⟨e1, e2, _⟩ | ⟨t, ht, _, e1, e2⟩
  · rw [e1, e2, if_pos z00, if_pos z00]; exact h.f0
  · rw [e1, e2, if_neg n10, if_neg n10]
    rcases flag_c x2 with ⟨e3, e4, _⟩ | ⟨hx, e3, e4⟩
    · rw [e3, e4, if_pos z00, if_pos z00]; exact h.f0
    · rw [e3, e4, if_neg n10, if_neg n10]
      unfold fX4_fence_36 fX4_fence_52 fX5_fence_37
      have ex : (if x2 = 1 then 1 else 0 : Int32) = x2 := by rcases hx with rfl | rfl <;> rfl
      obtain ⟨a, b, ea, eb, hab, _⟩ := fences_c h.1 x1 hx
      rw [ex, ea, eb, fen_c h.1]
      exact ⟨_, _, rfl, rfl, rfl, h.s0 hab⟩
theorem sim_spot : SimT_spot Rel := by
  intro Mx Nx Mm Nm h x1 x2
  show Eq2 Nx Nm _ _
  unfold fX4_spot fX5_spot
  rcases bi_c x1 (n := 3) (by omega) (by omega) with ⟨e1, e2, _⟩ | ⟨t, ht, ex, e1, e2⟩
  · have e1' : fX4_isBelow x1 3 = 0 := e1
    have e2' : fX5_in (Int32.toInt64 x1) 0 2 = 0 := e2
    rw [e1', e2', if_pos z00, if_pos z00]; exact h.f0
  · have e1' : fX4_isBelow x1 3 = 1 := e1
    have e2' : fX5_in (Int32.toInt64 x1) 0 2 = 1 := e2
    rw [e1', e2', if_neg n10, if_neg n10]
    rcases cell_c x2 with ⟨e3, e4, _⟩ | ⟨c, hc, ec, e3, e4⟩
    · rw [e3, e4, if_pos z00, if_pos z00]; exact h.f0
    · rw [e3, e4, if_neg n10, if_neg n10, ex, if_pos (inbn ht (by omega)), ixn (by omega), show (3 : Int32) = nI 3 from rfl, nI_add]
      unfold fX5_becomes
      rw [if_pos (inbn (by omega) (by omega)), ixn (by omega), h.e (k := 3 + t) (by omega)]
      exact ⟨_, _, rfl, rfl, rfl, h.w0 (by omega) (vl_sp (by omega) ⟨c, hc, ec⟩)⟩
theorem sim_rain : SimT_rain Rel := by
  intro Mx Nx Mm Nm h x1
  show Eq2 Nx Nm _ _
  unfold fX4_rain fX5_rain
  rcases wet_c x1 with ⟨e1, e2⟩ | ⟨t, ht, ex, e1, e2⟩
  · rw [e1, e2, if_pos z00, if_pos z00]; exact h.f0
  · rw [e1, e2, if_neg n10, if_neg n10]
    unfold fX5_becomes
    rw [if_pos (by decide), show ix (6 : Int32) = 6 from ixn (t := 6) (by omega), h.e (k := 6) (by omega)]
    exact ⟨_, _, rfl, rfl, rfl, h.w0 (by omega) (vl_o (by omega))⟩
theorem in02 (x : Int32) : fX5_in (Int32.toInt64 x) 0 2 = 0 ∧ x ≠ 0 ∧ x ≠ 1 ∧ x ≠ 2 ∨ fX5_in (Int32.toInt64 x) 0 2 = 1 ∧ (x = 0 ∨ x = 1 ∨ x = 2) := by
  rcases bi_c x (n := 3) (by omega) (by omega) with ⟨_, e2, e3⟩ | ⟨t, ht, ex, _, e2⟩
  · exact Or.inl ⟨e2, e3 0 (by omega), e3 1 (by omega), e3 2 (by omega)⟩
  · refine Or.inr ⟨e2, ?_⟩
    rcases (show t = 0 ∨ t = 1 ∨ t = 2 by omega) with rfl | rfl | rfl
    · exact Or.inl ex
    · exact Or.inr (Or.inl ex)
    · exact Or.inr (Or.inr ex)
theorem sim_cell : SimT_cell Rel := by
  intro Mx Nx Mm Nm h x1 x2
  show Eq2 Nx Nm _ _
  unfold fX4_cell fX5_cell
  rcases cell_c x1 with ⟨e1, e2, _⟩ | ⟨c, hc, ec, e1, e2⟩
  · rw [e1, e2, if_pos z00, if_pos z00]; exact h.f0
  · rw [e1, e2, if_neg n10, if_neg n10]
    rcases in02 x2 with ⟨e3, n0, n1, n2⟩ | ⟨e3, e4⟩
    · rw [e3, if_neg n0, if_neg n1, if_neg n2, if_pos z00]; exact h.f0
    · rw [e3, if_neg (show ¬ (1 : Int32) = 0 by decide)]
      rcases e4 with rfl | rfl | rfl
      · rw [if_pos z00, if_pos z00, fen_c h.1]
        by_cases e : fX0_isFenced (Mx 0) x1 = 0
        · rw [if_pos e, if_pos e]; exact h.ok _
        · rw [if_neg e, if_neg e]; exact h.ok _
      · rw [if_neg n10, if_pos (show (1 : Int32) = 1 from rfl), if_neg n10, if_pos (show (1 : Int32) = 1 from rfl)]
        obtain ⟨v, ea, eb⟩ := q_in h.1 x1
        rw [ea, eb]; exact h.ok _
      · rw [if_neg n20, if_neg n21, if_pos (show (2 : Int32) = 2 from rfl), if_neg n20, if_neg n21]
        rw [ec]
        obtain ⟨v, ea, eb⟩ := q_books h.1 hc
        rw [ea, eb]; exact h.ok _
