/-! sheets -/
theorem wN_ne (N : Ml) {r q : Nat} (k : Nat) (v : Int64) (h : q ≠ r) : wN N r k v q = N q := sR_ne _ _ h
theorem wN_at (N : Ml) (r k : Nat) (v : Int64) (j : Nat) : wN N r k v r j = if j = k then v else N r j := by unfold wN; rw [sR_same]; rfl
def Eq3 {α : Type} (x y : Option (α × Mi × Ml)) : Prop := ∃ b d, x = some b ∧ y = some d ∧ b.1 = d.1 ∧ Rel b.2.1 b.2.2 d.2.1 d.2.2
theorem Rel.sh {Mx : Mi} {Nx : Ml} {Mm : Mi} {Nm : Ml} (h : Rel Mx Nx Mm Nm) {Mx' Mm' : Mi} {Nx' Nm' : Ml} (hx : ∀ r, r < 20 → Mx' r = Mx r) (hm : ∀ r, r ≠ 7 → r ≠ 8 → Mm' r = Mm r) (hs : ∀ s, s < 4 → Sh Mx' Nx' Mm' Nm' s) : Rel Mx' Nx' Mm' Nm' := by
  obtain ⟨h0, ⟨k1, k2, k3⟩, hf, ⟨t1, n, t2, t3, t4⟩, _⟩ := h
  refine ⟨?_, ⟨?_, ?_, ?_⟩, ?_, ⟨?_, n, t2, ?_, ?_⟩, hs⟩
  · rw [hx 0 (by omega), hm 0 (by omega) (by omega)]; exact h0
  · rw [hx 8 (by omega), hm 6 (by omega) (by omega)]; exact k1
  · rw [hx 8 (by omega)]; exact k2
  · rw [hx 8 (by omega), hx 2 (by omega), hm 1 (by omega) (by omega)]; exact k3
  · intro k hk; rw [hx 7 (by omega), hm 4 (by omega) (by omega)]; exact hf k hk
  · rw [hx 5 (by omega), hm 6 (by omega) (by omega)]; exact t1
  · rw [hx 5 (by omega)]; exact t3
  · intro k hk; rw [hx 5 (by omega), hm 5 (by omega) (by omega)]; exact t4 k hk
theorem Rel.g {Mx : Mi} {Nx : Ml} {Mm : Mi} {Nm : Ml} (h : Rel Mx Nx Mm Nm) {i : Nat} (hi : i < 7) : Eq3 (Option.bind (fX4_finding Mx (nI i)) (fun a => some (a.1, a.2, Nx))) (Option.bind (fX5_finds Mm ((-1000000001) - nI i)) (fun a => some (a.1, a.2, Nm))) := by
  rw [fndX _ hi, fndM _ hi]
  exact ⟨_, _, rfl, rfl, rfl, h.fnd hi⟩
theorem Rel.g0 {Mx : Mi} {Nx : Ml} {Mm : Mi} {Nm : Ml} (h : Rel Mx Nx Mm Nm) : Eq3 (Option.bind (fX4_finding Mx 0) (fun a => some (a.1, a.2, Nx))) (Option.bind (fX5_finds Mm (-1000000001)) (fun a => some (a.1, a.2, Nm))) := h.g (i := 0) (by omega)
theorem Rel.g2 {Mx : Mi} {Nx : Ml} {Mm : Mi} {Nm : Ml} (h : Rel Mx Nx Mm Nm) : Eq3 (Option.bind (fX4_finding Mx 2) (fun a => some (a.1, a.2, Nx))) (Option.bind (fX5_finds Mm (-1000000003)) (fun a => some (a.1, a.2, Nm))) := h.g (i := 2) (by omega)
theorem Rel.g5 {Mx : Mi} {Nx : Ml} {Mm : Mi} {Nm : Ml} (h : Rel Mx Nx Mm Nm) : Eq3 (Option.bind (fX4_finding Mx 5) (fun a => some (a.1, a.2, Nx))) (Option.bind (fX5_finds Mm (-1000000006)) (fun a => some (a.1, a.2, Nm))) := h.g (i := 5) (by omega)
theorem Rel.g6 {Mx : Mi} {Nx : Ml} {Mm : Mi} {Nm : Ml} (h : Rel Mx Nx Mm Nm) : Eq3 (Option.bind (fX4_finding Mx 6) (fun a => some (a.1, a.2, Nx))) (Option.bind (fX5_finds Mm (-1000000007)) (fun a => some (a.1, a.2, Nm))) := h.g (i := 6) (by omega)
theorem blankX {g : Nat} {M : Mi} : ∀ (n i : Nat) (N : Ml), i ≤ 40 → 40 - i < n → ∃ N', fX2_becomesBlank_12 g n M N (nI i) = some (M, N') ∧ (∀ r, r ≠ g → N' r = N r) ∧ ∀ k, N' g k = if i ≤ k ∧ k < 40 then 0 else N g k := by
  intro n
  induction n with
  | zero => intro i N _ h; omega
  | succ n ih =>
    intro i N hi hn
    rw [qX2_becomesBlank_12]
    by_cases e : 40 ≤ i
    · rw [if_pos (show (40 : Int32) ≤ nI i from (nle (a := 40) (by omega) (by omega)).mpr e)]
      exact ⟨N, rfl, fun _ _ => rfl, fun k => by rw [if_neg (by omega)]⟩
    · rw [if_neg (show ¬ (40 : Int32) ≤ nI i from fun q => e ((nle (a := 40) (by omega) (by omega)).mp q)), if_pos (inbn (by omega) (by omega)), ixn (by omega), ns1]
      obtain ⟨N', q1, q2, q3⟩ := ih (i + 1) (wN N g i 0) (by omega) (by omega)
      refine ⟨N', q1, fun r hr => by rw [q2 r hr, wN_ne _ _ _ hr], fun k => ?_⟩
      rw [q3 k, wN_at]
      by_cases e2 : k = i
      · subst e2; rw [if_neg (by omega), if_pos rfl, if_pos (by omega)]
      · rw [if_neg e2]
        by_cases e3 : i + 1 ≤ k ∧ k < 40
        · rw [if_pos e3, if_pos (by omega)]
        · rw [if_neg e3, if_neg (by omega)]
theorem m40 (s i : Nat) : (40 : Int32) * nI s + nI i = nI (40 * s + i) := by rw [show (40 : Int32) = nI 40 from rfl, pk_mul, nI_add]
theorem blankM {s : Nat} (hs : s < 4) {M : Mi} : ∀ (n i : Nat) (N : Ml), i ≤ 40 → 40 - i < n → ∃ N', fX5_sheet_86 n M N (nI s) (nI i) = some (M 8 s, M, N') ∧ ∀ k, N' 9 k = if 40 * s + i ≤ k ∧ k < 40 * s + 40 then 0 else N 9 k := by
  intro n
  induction n with
  | zero => intro i N _ h; omega
  | succ n ih =>
    intro i N hi hn
    rw [qX5_sheet_86]
    by_cases e : 40 ≤ i
    · rw [if_pos (show (40 : Int32) ≤ nI i from (nle (a := 40) (by omega) (by omega)).mpr e), if_pos (inbn hs (by omega)), ixn (by omega)]
      exact ⟨N, rfl, fun k => by rw [if_neg (by omega)]⟩
    · rw [if_neg (show ¬ (40 : Int32) ≤ nI i from fun q => e ((nle (a := 40) (by omega) (by omega)).mp q)), m40, if_pos (inbn (by omega) (by omega)), ixn (by omega), ns1]
      obtain ⟨N', q1, q3⟩ := ih (i + 1) (wN N 9 (40 * s + i) 0) (by omega) (by omega)
      refine ⟨N', q1, fun k => ?_⟩
      rw [q3 k, wN_at]
      by_cases e2 : k = 40 * s + i
      · subst e2; rw [if_neg (by omega), if_pos rfl, if_pos (by omega)]
      · rw [if_neg e2]
        by_cases e3 : 40 * s + (i + 1) ≤ k ∧ k < 40 * s + 40
        · rw [if_pos e3, if_pos (by omega)]
        · rw [if_neg e3, if_neg (by omega)]
theorem sheet_36 {Mx : Mi} {Nx : Ml} {Mm : Mi} {Nm : Ml} (h : Rel Mx Nx Mm Nm) {s : Nat} (hs : s < 4) {x2 : Int32} (hx2 : x2 = 0 ∨ x2 = 8 ∨ x2 = 16 ∨ x2 = 64) (x3 : Int32) : Eq3 (fX4_sheet_36 Mx Nx (nI s) x2 x3) (fX5_sheet_36 Mm Nm (nI s) x2 x3) := by
  unfold fX4_sheet_36 fX5_sheet_36
  by_cases c1 : 0 ≤ x3
  · rw [if_pos c1, if_pos c1]
    by_cases c2 : x3 ≤ 40
    · rw [if_pos c2, if_pos c2, if_pos (inbn hs (by omega)), if_pos (inbn hs (by omega)), ixn (by omega)]
      obtain ⟨j, hj, rfl⟩ := nI_of (x := x3) (fun q => (fa_of_lt q).2.1 c1)
      have hj2 : j ≤ 40 := (nle (b := 40) hj (by omega)).mp c2
      unfold fX4_sheet_75 fX2_becomesBlank
      obtain ⟨len, hl, el⟩ : ∃ len, len ≤ 40 ∧ (if x2 = 0 then 0 else nI j : Int32) = nI len := by
        by_cases e : x2 = 0
        · exact ⟨0, by omega, by rw [if_pos e]; rfl⟩
        · exact ⟨j, hj2, by rw [if_neg e]⟩
      rw [el]
      obtain ⟨N1, a1, a2, a3⟩ := blankX (g := 20 + s) (M := wM (wM Mx (20 + s) 0 x2) (20 + s) 1 (nI len)) fu 0 Nx (by omega) (by decide)
      obtain ⟨N2, b1, b3⟩ := blankM hs (M := wM (wM Mm 7 s x2) 8 s (nI len)) fu 0 Nm (by omega) (by decide)
      have a1' : fX2_becomesBlank_12 (20 + s) fu (wM (wM Mx (20 + s) 0 x2) (20 + s) 1 (nI len)) Nx 0 = some (wM (wM Mx (20 + s) 0 x2) (20 + s) 1 (nI len), N1) := a1
      have b1' : fX5_sheet_86 fu (wM (wM Mm 7 s x2) 8 s (nI len)) Nm (nI s) 0 = some (wM (wM Mm 7 s x2) 8 s (nI len) 8 s, wM (wM Mm 7 s x2) 8 s (nI len), N2) := b1
      rw [a1', b1', bind_some', if_pos (inbn hs (by omega)), ixn (by omega)]
      refine ⟨_, _, rfl, rfl, ?_, ?_⟩
      · show wM (wM Mx (20 + s) 0 x2) (20 + s) 1 (nI len) (20 + s) 1 = wM (wM Mm 7 s x2) 8 s (nI len) 8 s
        rw [wM_at, pk_us, wM_at, pk_us]
      · refine h.sh (fun r hr => ?_) (fun r h7 h8 => ?_) (fun t ht => ?_)
        · show wM (wM Mx (20 + s) 0 x2) (20 + s) 1 (nI len) r = _
          rw [wM_ne _ _ _ (by omega), wM_ne _ _ _ (by omega)]
        · show wM (wM Mm 7 s x2) 8 s (nI len) r = _
          rw [wM_ne _ _ _ (by omega), wM_ne _ _ _ (by omega)]
        · show Sh (wM (wM Mx (20 + s) 0 x2) (20 + s) 1 (nI len)) N1 (wM (wM Mm 7 s x2) 8 s (nI len)) N2 t
          have hS := h.2.2.2.2 t ht
          unfold Sh at hS ⊢
          rw [wM_ne _ _ _ (show 7 ≠ 8 by omega), wM_at, wM_at, wM_ne _ _ _ (show 8 ≠ 7 by omega)]
          by_cases e : t = s
          · subst e
            rw [wM_at, wM_at, pk_us, pk_us, pk_us, upd_ne (by omega), pk_us]
            refine ⟨rfl, hx2, rfl, ⟨len, hl, rfl⟩, fun i hi => ?_⟩
            rw [a3 i, b3, if_pos (by omega), if_pos (by omega)]
          · rw [wM_ne _ _ _ (show 20 + t ≠ 20 + s by omega), wM_ne _ _ _ (show 20 + t ≠ 20 + s by omega), upd_ne e, upd_ne e]
            refine ⟨hS.1, hS.2.1, hS.2.2.1, hS.2.2.2.1, fun i hi => ?_⟩
            rw [a2 (20 + t) (by omega), b3, if_neg (by omega)]
            exact hS.2.2.2.2 i hi
    · rw [if_neg c2, if_neg c2]; exact h.g0
  · rw [if_neg c1, if_neg c1]; exact h.g6
theorem sim_sheet : SimT_sheet Rel := by
  intro Mx Nx Mm Nm h x1 x2 x3
  show Eq3 _ _
  unfold fX4_sheet fX5_sheet
  rcases row_c x1 with ⟨e1, e2, _⟩ | ⟨s, hs, rfl, e1, e2⟩
  · rw [e1, e2, if_pos z00, if_pos z00]; exact h.g0
  rw [e1, e2, if_neg n10, if_neg n10]
  by_cases c0 : x2 = 0
  · rw [if_pos c0, if_pos c0]; exact sheet_36 h hs (Or.inl c0) x3
  rw [if_neg c0, if_neg c0]
  by_cases c1 : x2 = 8
  · rw [if_pos c1, if_pos c1]; exact sheet_36 h hs (Or.inr (Or.inl c1)) x3
  rw [if_neg c1, if_neg c1]
  by_cases c2 : x2 = 16
  · rw [if_pos c2, if_pos c2]; exact sheet_36 h hs (Or.inr (Or.inr (Or.inl c2))) x3
  rw [if_neg c2, if_neg c2]
  by_cases c3 : x2 = 64
  · rw [if_pos c3, if_pos c3]; exact sheet_36 h hs (Or.inr (Or.inr (Or.inr c3))) x3
  rw [if_neg c3, if_neg c3]
  exact h.g0
