/-! kind -/
def Bst (v : Int32) (n : Nat) : Prop := v = -1 ∨ ∃ k, k < n ∧ v = nI k
theorem best_end {Mx : Mi} {Nx : Ml} {Mm : Mi} {Nm : Ml} (h : Rel Mx Nx Mm Nm) {v : Int32} {n N : Nat} (hv : Bst v n) (hn : n ≤ N + 1) (hN : N < 1000) : Eq2 Nx Nm (if v = -1 then Option.bind (fX4_finding Mx 3) (fun a => some (a.1, a.2)) else some (v, Mx)) (fX5_orNone Mm v (nI N)) := by
  unfold fX5_orNone
  rw [nI_l (show N < 2 ^ 31 by omega)]
  rcases hv with rfl | ⟨k, hk, rfl⟩
  · rw [if_pos rfl, in0 (by omega) (fun t ht q => nI_pos (n := t) (by omega) (by rw [← q]; decide)), if_pos z00]
    exact h.f3
  · rw [if_neg (show ¬ nI k = -1 from fun q => nI_pos (n := k) (by omega) (by rw [q]; decide)), in1 (by omega) (by omega), if_neg n10]
    exact h.ok _
theorem kind_lp {Mx : Mi} {Nx : Ml} {Mm : Mi} {Nm : Ml} (h : Rel Mx Nx Mm Nm) {t : Nat} (ht : t < sz (Mx 0)) (x : Int32) : ∀ (n i : Nat) (M M2 : Mi) (b : Nat) (v : Int32), keX Mx M → M 0 = Mx 0 → keM Mm M2 → (∀ k, k < 39 → k ≠ 7 + 4 * t → M2 0 k = Mm 0 k) → b ≤ 73 → Bst v 6 → i ≤ 6 → 6 - i < n → Eq2 Nx Nm (Option.bind (fX4_bestKind_9 n M (nI t) x (nI b) v (nI i)) (fun a4 => if a4.1 = (-1) then Option.bind (fX4_finding a4.2 3) (fun a6 => some (a6.1, a6.2)) else some (a4.1, a4.2))) (fX5_kind_39 n M2 (nI t) x (Mx 0 (7 + 4 * t)) (nI b) v (nI i)) := by
  intro n
  have hz := h.1.1.le
  have hzt := sz_e h.1
  induction n with
  | zero => intro i M M2 b v _ _ _ _ _ _ _ hn; omega
  | succ n ih =>
    intro i M M2 b v hx h0 hm hk hb hv hi hn
    rw [qX4_bestKind_9, qX5_kind_39, spot0, if_pos (inbn (show 7 + 4 * t < 39 by omega) (by omega)), ixn (show 7 + 4 * t < 2 ^ 31 by omega)]
    by_cases e : 6 ≤ i
    · rw [if_pos (show (6 : Int32) ≤ nI i from (nle (a := 6) (by omega) (by omega)).mpr e), if_pos (show (5 : Int32) < nI i from (nlt (a := 5) (by omega) (by omega)).mpr (by omega)), bind_some']
      have R : Rel M Nx (wM M2 0 (7 + 4 * t) (Mx 0 (7 + 4 * t))) Nm := by
        refine h.ke hx (hm.tr (keM_w _ _ _ (by omega))) ?_
        rw [h0, wM_at]
        refine eqv_of2 h.1 (fun k hk' => ?_)
        by_cases e2 : k = 7 + 4 * t
        · subst e2; rw [pk_us]; exact (h.e (by omega)).symm
        · rw [upd_ne e2]; exact hk k hk' e2
      have q := best_end R (N := 5) hv (by omega) (by omega)
      obtain ⟨p, q', e1, e2, e3, e4⟩ := q
      rw [show (5 : Int32) = nI 5 from rfl, e2, bind_some']
      exact ⟨_, _, e1, rfl, e3, e4⟩
    · rw [if_neg (show ¬ (6 : Int32) ≤ nI i from fun q => e ((nle (a := 6) (by omega) (by omega)).mp q)), if_neg (show ¬ (5 : Int32) < nI i from fun q => by have := (nlt (a := 5) (by omega) (by omega)).mp q; omega)]
      have h0w : Wf (M 0) := by rw [h0]; exact h.1.1
      obtain ⟨a, ea, ha⟩ := becX h0w (M 1)
      rw [h0] at ha
      rw [ea, bind_some', if_pos (inbn (show t < 8 by omega) (by omega)), ixn (show t < 2 ^ 31 by omega), wM_sR, sR_same]
      have hA : Eqv a (Mm 0) := eqv_of h.1 ha
      have sa : sz a = sz (Mx 0) := by show ix (a 1) = ix (Mx 0 1); rw [ha 1 (by omega)]
      have hA2 : Eqv (upd a (7 + 4 * t) (nI i)) (upd (Mm 0) (7 + 4 * t) (nI i)) := eqv_upd hA (by omega) (vl_7 ⟨i, by omega, rfl⟩)
      have hE : Eqv (upd a (7 + 4 * t) (nI i)) (wM M2 0 (7 + 4 * t) (nI i) 0) := by
        rw [wM_at]
        refine eqv_of2 hA2 (fun k hk' => ?_)
        by_cases e2 : k = 7 + 4 * t
        · subst e2; rw [pk_us, pk_us]
        · rw [upd_ne e2, upd_ne e2]; exact hk k hk' e2
      have sA : sz (upd a (7 + 4 * t) (nI i)) = sz a := sz_upd (by omega)
      have sE := sz_e hE
      obtain ⟨j, M', q2, q3, q4, q5⟩ := whenM (M := wM M2 0 (7 + 4 * t) (nI i)) (t := t) x hE.wf2 (by omega)
      obtain ⟨s', q6⟩ := q5 _ b (hE.one (by omega)) hb
      rw [if_pos (inbn (show 7 + 4 * t < 39 by omega) (by omega)), q4, bind_some', q6, bind_some']
      show Eq2 Nx Nm (Option.bind (if (if j < b then nI j else (-1 : Int32)) = (-1) then _ else _) _) _
      unfold fX5_kind_79
      rw [sR_sR, ns1]
      have hx2 : keX Mx (sR M 1 s') := hx.tr (keX_s _ _ (by omega))
      have h02 : sR M 1 s' 0 = Mx 0 := by rw [sR_ne _ _ (by omega)]; exact h0
      have hm2 : keM Mm (cpy M' 0 3 0) := hm.tr ((keM_w _ _ _ (by omega)).tr q3.back.1)
      have hk2 : ∀ k, k < 39 → k ≠ 7 + 4 * t → cpy M' 0 3 0 0 k = Mm 0 k := fun k hk' e2 => by
        rw [q3.back.2 k hk', wM_at, upd_ne e2]; exact hk k hk' e2
      by_cases ej : j < b
      · rw [if_pos ej, if_neg (show ¬ nI j = -1 from fun q => nI_pos (n := j) (by omega) (by rw [q]; decide)), if_neg (show ¬ nI b ≤ nI j by rw [nle (by omega) (by omega)]; omega), if_neg (show ¬ nI b ≤ nI j by rw [nle (by omega) (by omega)]; omega)]
        exact ih (i + 1) _ _ j _ hx2 h02 hm2 hk2 (by omega) (Or.inr ⟨i, by omega, rfl⟩) (by omega) (by omega)
      · rw [if_neg ej, if_pos rfl, if_pos (show nI b ≤ nI j from (nle (by omega) (by omega)).mpr (by omega)), if_pos (show nI b ≤ nI j from (nle (by omega) (by omega)).mpr (by omega))]
        exact ih (i + 1) _ _ b _ hx2 h02 hm2 hk2 hb hv (by omega) (by omega)
theorem sim_kind : SimT_kind Rel := by
  intro Mx Nx Mm Nm h x1 x2
  show Eq2 Nx Nm _ _
  have hz := h.1.1.le
  unfold fX4_kind fX5_kind
  rcases has_c h.1 x1 with ⟨e1, e2, _⟩ | ⟨t, ht, et, e1, e2⟩
  · rw [e1, e2, if_pos z00, if_pos z00]; exact h.f0
  rw [e1, e2, if_neg n10, if_neg n10]
  rcases cell_c x2 with ⟨e3, e4, _⟩ | ⟨c, hc, ec, e3, e4⟩
  · rw [e3, e4, if_pos z00, if_pos z00]; exact h.f0
  rw [e3, e4, if_neg n10, if_neg n10, et, its0 (by omega), bind_some', h.e (k := 7 + 4 * t) (by omega)]
  exact kind_lp h ht x2 fu 0 Mx Mm 73 (-1) (keX.rfl' _) rfl (keM.rfl' _) (fun _ _ _ => rfl) (by omega) (Or.inl rfl) (by omega) (by decide)
/-! status -/
theorem gf_lpw {β : Type} {F : Nat → Int32 → Int32 → Option β} {w : Int32 → Option β} {g : Int32 → Nat → Int32} {z : Nat} (h0 : ∀ n a, F (n + 1) a (nI z) = w a) (h1 : ∀ n a t, t < z → F (n + 1) a (nI t) = F n (g a t) (nI (t + 1))) : ∀ (n k t : Nat) (a : Int32), t + k = z → k < n → F n a (nI t) = w (gf g k t a) := by
  intro n
  induction n with
  | zero => intro k t a _ h; omega
  | succ n ih =>
    intro k t a hz hk
    match k, hz, hk with
    | 0, hz, _ =>
      have e : t = z := by omega
      subst e; exact h0 n a
    | k + 1, hz, hk =>
      rw [h1 n a t (by omega)]
      exact ih k (t + 1) (g a t) (by omega) (by omega)
theorem z7 (t : Nat) (h : t < 7) : ¬ ((7 : Int32) ≤ nI t) := by rw [show (7 : Int32) = nI 7 from rfl, nle (by omega) (by omega)]; omega
theorem statX (M : Mi) : fX4_status_9 fu M 0 0 = some (gf (fun a t => a + M 7 t) 7 0 0, M) :=
  gf_lpw (F := fun n a t => fX4_status_9 n M a t) (w := fun a => some (a, M)) (z := 7) (fun n a => by show fX4_status_9 (n + 1) M a _ = _; rw [qX4_status_9, if_pos (show (7 : Int32) ≤ nI 7 by decide)]) (fun n a t ht => by show fX4_status_9 (n + 1) M a _ = fX4_status_9 n M _ _; rw [qX4_status_9, if_neg (z7 t ht), if_pos (inbn ht (by omega)), ixn (by omega), ns1]) fu 7 0 0 (by omega) (by decide)
theorem statM (M : Mi) (x : Int32) : fX5_status_25 fu M x 0 0 = some (gf (fun a t => if x < 0 ∨ nI t = x then a + M 4 t else a) 7 0 0, M) :=
  gf_lpw (F := fun n a t => fX5_status_25 n M x a t) (w := fun a => some (a, M)) (z := 7) (fun n a => by show fX5_status_25 (n + 1) M x a _ = _; rw [qX5_status_25, if_pos (show (7 : Int32) ≤ nI 7 by decide)]) (fun n a t ht => by
    show fX5_status_25 (n + 1) M x a _ = fX5_status_25 n M x (if x < 0 ∨ nI t = x then _ else _) _
    rw [qX5_status_25, if_neg (z7 t ht)]
    unfold fX5_status_41
    rw [if_pos (inbn ht (by omega)), ixn (by omega), ns1]
    by_cases e : x < 0
    · rw [if_pos e, if_pos (Or.inl e)]
    · rw [if_neg e]
      by_cases e2 : nI t = x
      · rw [if_pos e2, if_pos (Or.inr e2)]
      · rw [if_neg e2, if_neg (fun q => q.elim e e2), Int32.add_zero]) fu 7 0 0 (by omega) (by decide)
theorem sim_status : SimT_status Rel := by
  intro Mx Nx Mm Nm h x1
  show Eq2 Nx Nm _ _
  have hf := h.2.2.1
  unfold fX4_status fX5_status
  have e0 : fX5_in (Int32.toInt64 x1) (-1) 6 = if x1 < -1 then 0 else if 6 < x1 then 0 else 1 := in_g x1 (-1) 6
  rw [e0, statX, statM]
  by_cases c1 : x1 = -1
  · subst c1
    rw [if_pos (show (-1 : Int32) = -1 from rfl), if_neg (show ¬ (if (-1 : Int32) < -1 then (0 : Int32) else if 6 < (-1 : Int32) then 0 else 1) = 0 by decide)]
    refine ⟨_, _, rfl, rfl, ?_, h⟩
    show gf (fun a t => a + Mx 7 t) 7 0 0 = gf (fun a t => if (-1 : Int32) < 0 ∨ nI t = -1 then a + Mm 4 t else a) 7 0 0
    refine gf_c (z := 7) (fun a t ht => ?_) 7 0 0 (by omega)
    show a + Mx 7 t = if _ then _ else _
    rw [if_pos (Or.inl (by decide)), hf t ht]
  rw [if_neg c1]
  rcases bel_c x1 (n := 7) (by omega) with ⟨e1, e2⟩ | ⟨t, ht, rfl⟩
  · rw [show fX4_isBelow x1 7 = 0 from e1, if_pos z00]
    by_cases c2 : x1 < -1
    · rw [if_pos c2, if_pos z00]; exact h.f0
    · rw [if_neg c2]
      by_cases c3 : x1 < 0
      · exfalso
        rw [fa_lt] at c2 c3
        refine c1 ((fa_eq _ _).mpr ?_)
        have r1 : (-1 : Int32).toInt = -1 := by decide
        have r2 : (0 : Int32).toInt = 0 := by decide
        rw [r1] at c2 ⊢
        rw [r2] at c3
        omega
      · obtain ⟨j, hj, rfl⟩ := nI_of c3
        have : 6 < j := Nat.lt_of_not_le (fun q => e2 j (by omega) rfl)
        rw [if_pos (show (6 : Int32) < nI j from (nlt (a := 6) (by omega) hj).mpr this), if_pos z00]; exact h.f0
  · have hb : fX4_isBelow (nI t) 7 = 1 := bel1 (n := 7) ht (by omega)
    rw [hb, if_neg n10, if_pos (inbn ht (by omega)), ixn (by omega)]
    rw [if_neg (show ¬ nI t < -1 from fun q => nI_pos (n := t) (by omega) (fa_trans q (by decide))), if_neg (show ¬ (6 : Int32) < nI t from fun q => by have := (nlt (a := 6) (by omega) (by omega)).mp q; omega), if_neg n10]
    refine ⟨_, _, rfl, rfl, ?_, h⟩
    have e9 : gf (fun a i => if nI t < 0 ∨ nI i = nI t then a + Mm 4 i else a) 7 0 0 = gf (fun a i => if i = t then a + Mm 4 i else a) 7 0 0 := gf_c (z := 7) (fun a i hi => by
      show (if _ then _ else _) = (if _ then _ else _)
      by_cases e : i = t
      · rw [if_pos e, if_pos (Or.inr (by rw [e]))]
      · rw [if_neg e, if_neg (fun q => q.elim (nI_pos (n := t) (by omega)) (fun q => e ((neq (by omega) (by omega)).mp q)))]) 7 0 0 (by omega)
    show Mx 7 t = _
    rw [e9, hf t ht]
    rcases (show t = 0 ∨ t = 1 ∨ t = 2 ∨ t = 3 ∨ t = 4 ∨ t = 5 ∨ t = 6 by omega) with rfl | rfl | rfl | rfl | rfl | rfl | rfl <;> simp [gf]
