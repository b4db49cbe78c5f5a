/-! copies of the whole row -/
def cpy (M : Mi) (r q i : Nat) : Mi := sR M r (fun k => if i ≤ k ∧ k < 39 then M q k else M r k)
theorem cpy_at (M : Mi) (r q : Nat) {k : Nat} (hk : k < 39) : cpy M r q 0 r k = M q k := by unfold cpy; rw [sR_at, if_pos ⟨by omega, hk⟩]
theorem cpy_ne (M : Mi) {r q p : Nat} (h : p ≠ r) : cpy M r q 0 p = M p := sR_ne _ _ h
theorem cp_lp {β : Type} {G : Nat → Mi → Int32 → Option β} {w : Mi → Option β} {r q : Nat} (hrq : q ≠ r) (h0 : ∀ n M, G (n + 1) M (nI 39) = w M) (h1 : ∀ n M i, i < 39 → G (n + 1) M (nI i) = G n (wM M r i (M q i)) (nI (i + 1))) : ∀ (n i : Nat) (M : Mi), i ≤ 39 → 39 - i < n → G n M (nI i) = w (cpy M r q i) := by
  intro n
  induction n with
  | zero => intro i M _ h; omega
  | succ n ih =>
    intro i M hi hn
    by_cases e : i = 39
    · subst e
      rw [h0]
      refine congrArg w ?_
      unfold cpy
      rw [show (fun k => if 39 ≤ k ∧ k < 39 then M q k else M r k) = M r from funext fun k => if_neg (by omega)]
      exact (sR_self M r).symm
    · rw [h1 n M i (by omega), ih (i + 1) _ (by omega) (by omega)]
      refine congrArg w ?_
      unfold cpy wM
      rw [sR_sR, sR_same, sR_ne _ _ hrq]
      refine congrArg (sR M r) (funext fun k => ?_)
      by_cases e2 : k = i
      · subst e2; rw [if_neg (by omega), pk_us, if_pos (by omega)]
      · rw [upd_ne e2]
        by_cases e3 : i + 1 ≤ k ∧ k < 39
        · rw [if_pos e3, if_pos (by omega)]
        · rw [if_neg e3, if_neg (by omega)]
theorem z39 (i : Nat) (h : i < 39) : ¬ ((39 : Int32) ≤ nI i) := by rw [show (39 : Int32) = nI 39 from rfl, nle (by omega) (by omega)]; omega
theorem asdM (M : Mi) : fX5_laysAside M = some (cpy M 3 0 0) :=
  cp_lp (G := fX5_laysAside_2) (w := some) (by omega) (fun n M => by rw [qX5_laysAside_2, if_pos (show (39 : Int32) ≤ nI 39 by decide)]) (fun n M i hi => by rw [qX5_laysAside_2, if_neg (z39 i hi), if_pos (inbn hi (by omega)), ixn (by omega), ns1]) fu 0 M (by omega) (by decide)
theorem takM (M : Mi) (v : Int32) : fX5_takesBack M v = some (v, cpy M 0 3 0) :=
  cp_lp (G := fun n M i => fX5_takesBack_2 n M v i) (w := fun M => some (v, M)) (by omega) (fun n M => by show fX5_takesBack_2 (n + 1) M v _ = _; rw [qX5_takesBack_2, if_pos (show (39 : Int32) ≤ nI 39 by decide)]) (fun n M i hi => by show fX5_takesBack_2 (n + 1) M v _ = fX5_takesBack_2 n _ v _; rw [qX5_takesBack_2, if_neg (z39 i hi), if_pos (inbn hi (by omega)), ixn (by omega), ns1]) fu 0 M (by omega) (by decide)
theorem savM (M : Mi) : fX5_saves M = some (cpy M 2 0 0) :=
  cp_lp (G := fX5_saves_2) (w := some) (by omega) (fun n M => by rw [qX5_saves_2, if_pos (show (39 : Int32) ≤ nI 39 by decide)]) (fun n M i hi => by rw [qX5_saves_2, if_neg (z39 i hi), if_pos (inbn hi (by omega)), ixn (by omega), ns1]) fu 0 M (by omega) (by decide)
theorem putM (M : Mi) : fX5_putsBack M = some (cpy M 0 2 0) :=
  cp_lp (G := fX5_putsBack_2) (w := some) (by omega) (fun n M => by rw [qX5_putsBack_2, if_pos (show (39 : Int32) ≤ nI 39 by decide)]) (fun n M i hi => by rw [qX5_putsBack_2, if_neg (z39 i hi), if_pos (inbn hi (by omega)), ixn (by omega), ns1]) fu 0 M (by omega) (by decide)
theorem imgM (M : Mi) : fX5_image M = some (1, wM (cpy M 1 0 0) 6 0 1) :=
  cp_lp (G := fX5_image_2) (w := fun M => some (1, wM M 6 0 1)) (by omega) (fun n M => by rw [qX5_image_2, if_pos (show (39 : Int32) ≤ nI 39 by decide)]) (fun n M i hi => by rw [qX5_image_2, if_neg (z39 i hi), if_pos (inbn hi (by omega)), ixn (by omega), ns1]) fu 0 M (by omega) (by decide)
theorem undM (M : Mi) : fX5_undo_16 fu M 0 = some (cpy M 0 1 0 0 1, cpy M 0 1 0) :=
  cp_lp (G := fX5_undo_16) (w := fun M => some (M 0 1, M)) (by omega) (fun n M => by rw [qX5_undo_16, if_pos (show (39 : Int32) ≤ nI 39 by decide)]) (fun n M i hi => by rw [qX5_undo_16, if_neg (z39 i hi), if_pos (inbn hi (by omega)), ixn (by omega), ns1]) fu 0 M (by omega) (by decide)
/-! image, undo, tear, wipe -/
theorem wf_c {σ ρ : Nat → Int32} (h : Wf ρ) (e : ∀ k, k < 7 + 4 * sz ρ → σ k = ρ k) : Wf σ := (eqv_of (Eqv.refl' h) e).1
theorem sim_image : SimT_image Rel := by
  intro Mx Nx Mm Nm h
  obtain ⟨a, ea, ha⟩ := becX h.1.1 (Mx 2)
  unfold fX4_image
  rw [ea, imgM]
  refine ⟨_, _, rfl, rfl, rfl, ?_⟩
  obtain ⟨h0, ⟨k1, k2, k3⟩, hf, ⟨t1, n, t2, t3, t4⟩, hs⟩ := h
  show Rel (wM (sR Mx 2 a) 8 0 1) Nx (wM (cpy Mm 1 0 0) 6 0 1) Nm
  refine ⟨?_, ⟨?_, ?_, ?_⟩, ?_, ⟨?_, n, t2, ?_, ?_⟩, ?_⟩
  · rw [wM_ne _ _ _ (by omega), wM_ne _ _ _ (by omega), sR_ne _ _ (by omega), cpy_ne _ (by omega)]; exact h0
  · rw [wM_at, wM_at, pk_us, pk_us]
  · rw [wM_at, pk_us]; exact Or.inr rfl
  · intro _
    rw [wM_ne _ _ _ (by omega), wM_ne _ _ _ (by omega), sR_same]
    exact eqv_of2 (eqv_of h0 ha) (fun k hk => cpy_at _ _ _ hk)
  · intro k hk
    rw [wM_ne _ _ _ (by omega), wM_ne _ _ _ (by omega), sR_ne _ _ (by omega), cpy_ne _ (by omega)]; exact hf k hk
  · rw [wM_ne _ _ _ (by omega), wM_at, sR_ne _ _ (by omega), upd_ne (by omega), cpy_ne _ (by omega)]; exact t1
  · rw [wM_ne _ _ _ (by omega), sR_ne _ _ (by omega)]; exact t3
  · intro k hk
    rw [wM_ne _ _ _ (by omega), wM_ne _ _ _ (by omega), sR_ne _ _ (by omega), cpy_ne _ (by omega)]; exact t4 k hk
  · intro s hs'
    unfold Sh
    rw [wM_ne _ _ _ (by omega), wM_ne _ _ _ (by omega), wM_ne _ _ _ (by omega), sR_ne _ _ (by omega), cpy_ne _ (by omega), cpy_ne _ (by omega)]; exact hs s hs'
theorem sim_undo : SimT_undo Rel := by
  intro Mx Nx Mm Nm h
  show Eq2 Nx Nm _ _
  unfold fX4_undo fX5_undo
  rw [← h.2.1.1]
  by_cases e : Mx 8 0 = 0
  · rw [if_pos e, if_pos e]; exact h.f3
  · rw [if_neg e, if_neg e]
    have hk := h.2.1.2.2 e
    obtain ⟨a, ea, ha⟩ := becX hk.1 (Mx 0)
    rw [ea, undM]
    have hab := eqv_of hk ha
    refine ⟨_, _, rfl, rfl, ?_, ?_⟩
    · show a 1 = cpy Mm 0 1 0 0 1
      rw [cpy_at _ _ _ (by omega), ha 1 (by omega)]
      exact hk.2 1 (by omega)
    · refine h.ke (keX_s _ _ (by omega)) (keM_s _ _ (by omega)) ?_
      show Eqv (sR Mx 0 a 0) (cpy Mm 0 1 0 0)
      rw [sR_same]
      exact eqv_of2 hab (fun k hk => cpy_at _ _ _ hk)
theorem sim_tear : SimT_tear Rel := by
  intro Mx Nx Mm Nm h
  unfold fX4_tear fX5_tear
  rw [← h.2.1.1]
  refine ⟨_, _, rfl, rfl, rfl, ?_⟩
  obtain ⟨h0, ⟨k1, k2, k3⟩, hf, ⟨t1, n, t2, t3, t4⟩, hs⟩ := h
  show Rel (wM Mx 8 0 0) Nx (wM Mm 6 0 0) Nm
  refine ⟨?_, ⟨?_, ?_, ?_⟩, ?_, ⟨?_, n, t2, ?_, ?_⟩, ?_⟩
  · rw [wM_ne _ _ _ (by omega), wM_ne _ _ _ (by omega)]; exact h0
  · rw [wM_at, wM_at, pk_us, pk_us]
  · rw [wM_at, pk_us]; exact Or.inl rfl
  · rw [wM_at, pk_us]; exact fun q => absurd rfl q
  · intro k hk
    rw [wM_ne _ _ _ (by omega), wM_ne _ _ _ (by omega)]; exact hf k hk
  · rw [wM_ne _ _ _ (by omega), wM_at, upd_ne (by omega)]; exact t1
  · rw [wM_ne _ _ _ (by omega)]; exact t3
  · intro k hk
    rw [wM_ne _ _ _ (by omega), wM_ne _ _ _ (by omega)]; exact t4 k hk
  · intro s hs'
    unfold Sh
    rw [wM_ne _ _ _ (by omega), wM_ne _ _ _ (by omega), wM_ne _ _ _ (by omega)]; exact hs s hs'
/-- a tape of another length -/
theorem Rel.tp {Mx : Mi} {Nx : Ml} {Mm : Mi} {Nm : Ml} (h : Rel Mx Nx Mm Nm) {Mx' Mm' : Mi} (hx : ∀ r, r ≠ 5 → Mx' r = Mx r) (hm : ∀ r, r ≠ 5 → r ≠ 6 → Mm' r = Mm r) (h60 : Mm' 6 0 = Mm 6 0) (ht : Tp Mx' Mm') : Rel Mx' Nx Mm' Nm := by
  obtain ⟨h0, ⟨k1, k2, k3⟩, hf, _, hs⟩ := h
  refine ⟨?_, ⟨?_, ?_, ?_⟩, ?_, ht, ?_⟩
  · rw [hx 0 (by omega), hm 0 (by omega) (by omega)]; exact h0
  · rw [hx 8 (by omega), h60]; exact k1
  · rw [hx 8 (by omega)]; exact k2
  · rw [hx 8 (by omega), hx 2 (by omega), hm 1 (by omega) (by omega)]; exact k3
  · intro k hk; rw [hx 7 (by omega), hm 4 (by omega) (by omega)]; exact hf k hk
  · intro s hs'
    unfold Sh
    rw [hx (20 + s) (by omega), hm 7 (by omega) (by omega), hm 8 (by omega) (by omega)]; exact hs s hs'
theorem sim_wipe : SimT_wipe Rel := by
  intro Mx Nx Mm Nm h
  unfold fX4_wipe fX5_wipe
  refine ⟨_, _, rfl, rfl, h.2.2.2.1.1, ?_⟩
  refine h.tp (fun r hr => wM_ne _ _ _ hr) (fun r hr hr2 => wM_ne _ _ _ hr2) ?_ ⟨?_, 0, by omega, ?_, fun k hk => by omega⟩
  · show wM Mm 6 2 0 6 0 = _
    rw [wM_at, upd_ne (by omega)]
  · show wM Mx 5 0 0 5 0 = wM Mm 6 2 0 6 2
    rw [wM_at, wM_at, pk_us, pk_us]
  · show wM Mx 5 0 0 5 0 = _
    rw [wM_at, pk_us]; rfl
/-! as, lend -/
theorem und_i (M M' : Mi) : ∀ (n : Nat) (a b c : Int32), fX4_isUnder_4 M n a b c = fX4_isUnder_4 M' n a b c := by
  intro n
  induction n with
  | zero => intro a b c; rfl
  | succ n ih => intro a b c; rw [qX4_isUnder_4, qX4_isUnder_4, ih]
def und (k t : Nat) : Bool := k = t || t = 0 || (k = 4 && t = 1) || (k = 5 && t = 2)
theorem und_0 : ∀ k, k < 6 → ∀ t, t < 6 → fX4_isUnder (fun _ _ => 0) (nI k) (nI t) = some (if und k t then 1 else 0) := by decide +kernel
theorem undX (M : Mi) {k t : Nat} (hk : k < 6) (ht : t < 6) : fX4_isUnder M (nI k) (nI t) = some (if und k t then 1 else 0) := (und_i M (fun _ _ => 0) fu _ _ _).trans (und_0 k hk t ht)
theorem abv : ∀ k, k < 6 → fX5_above (nI k) = nI (if k = 4 then 1 else if k = 5 then 2 else 0) := by decide +kernel
theorem as46y {M : Mi} {x : Int32} {a : Nat} : fX5_as_46 M x (nI a) (nI a) = Option.bind (fX5_its (M 0) x 2) (fun a8 => some (a8, M)) := by unfold fX5_as_46; rw [if_pos rfl]
theorem as46n {M : Mi} {x : Int32} {a b : Nat} (ha : a < 6) (hb : b < 6) (h : a ≠ b) : fX5_as_46 M x (nI a) (nI b) = Option.bind (fX5_finds M (-1000000003)) (fun a7 => some (a7.1, a7.2)) := by unfold fX5_as_46; rw [if_neg (by rw [neq (by omega) (by omega)]; omega)]
theorem as_s {M : Mi} {x : Int32} {t k n : Nat} (ht : t < 6) (hk : k < 6) : fX5_as_29 (n + 1) M x (nI t) (nI k) = if k = t ∨ k = 0 then fX5_as_46 M x (nI t) (nI k) else fX5_as_29 n M x (nI t) (nI (if k = 4 then 1 else if k = 5 then 2 else 0)) := by
  rw [qX5_as_29, abv k hk]
  by_cases e : k = t
  · rw [if_pos (by rw [e]), if_pos (Or.inl e)]
  · rw [if_neg (by rw [neq (by omega) (by omega)]; exact e)]
    by_cases e2 : k = 0
    · rw [if_pos (by rw [e2]; rfl), if_pos (Or.inr e2)]
    · rw [if_neg (by rw [show (0 : Int32) = nI 0 from rfl, neq (by omega) (by omega)]; exact e2), if_neg (show ¬ (k = t ∨ k = 0) by omega)]
theorem as_up (M : Mi) (x : Int32) {k t : Nat} (hk : k < 6) (ht : t < 6) : fX5_as_29 fu M x (nI t) (nI k) = if und k t then Option.bind (fX5_its (M 0) x 2) (fun a8 => some (a8, M)) else Option.bind (fX5_finds M (-1000000003)) (fun a7 => some (a7.1, a7.2)) := by
  have z : ∀ n, fX5_as_29 (n + 1) M x (nI t) (nI 0) = if 0 = t then Option.bind (fX5_its (M 0) x 2) (fun a8 => some (a8, M)) else Option.bind (fX5_finds M (-1000000003)) (fun a7 => some (a7.1, a7.2)) := fun n => by
    rw [as_s ht (by omega), if_pos (Or.inr rfl)]
    by_cases e : 0 = t
    · subst e; rw [if_pos rfl, as46y]
    · rw [if_neg e, as46n ht (by omega) (by omega)]
  have one : ∀ n a, 0 < a → a < 4 → fX5_as_29 (n + 2) M x (nI t) (nI a) = if a = t ∨ t = 0 then Option.bind (fX5_its (M 0) x 2) (fun a8 => some (a8, M)) else Option.bind (fX5_finds M (-1000000003)) (fun a7 => some (a7.1, a7.2)) := fun n a h1 h2 => by
    rw [as_s ht (by omega)]
    by_cases e : a = t
    · subst e; rw [if_pos (Or.inl rfl), if_pos (Or.inl rfl), as46y]
    · rw [if_neg (by omega), if_neg (by omega), if_neg (by omega), z]
      by_cases e2 : 0 = t
      · rw [if_pos e2, if_pos (by omega)]
      · rw [if_neg e2, if_neg (by omega)]
  show fX5_as_29 (197 + 1 + 2) M x (nI t) (nI k) = _
  by_cases k0 : k = 0
  · subst k0
    rw [show 197 + 1 + 2 = 199 + 1 from rfl, z]
    by_cases e : 0 = t
    · subst e; rfl
    · rw [if_neg e, if_neg (by unfold und; simp; omega)]
  by_cases k4 : k < 4
  · rw [one _ k (by omega) k4]
    by_cases e : k = t ∨ t = 0
    · rw [if_pos e, if_pos (by unfold und; simp; omega)]
    · rw [if_neg e, if_neg (by unfold und; simp; omega)]
  · rw [show 197 + 1 + 2 = 199 + 1 from rfl, as_s ht hk]
    by_cases e : k = t
    · subst e; rw [if_pos (Or.inl rfl), as46y, if_pos (by unfold und; simp)]
    · rw [if_neg (by omega), show 199 = 197 + 2 from rfl]
      by_cases k5 : k = 4
      · subst k5
        rw [if_pos rfl, one _ 1 (by omega) (by omega)]
        by_cases e : 1 = t ∨ t = 0
        · rw [if_pos e, if_pos (by unfold und; simp; omega)]
        · rw [if_neg e, if_neg (by unfold und; simp; omega)]
      · have k6 : k = 5 := by omega
        subst k6
        rw [if_neg (by omega), if_pos rfl, one _ 2 (by omega) (by omega)]
        by_cases e : 2 = t ∨ t = 0
        · rw [if_pos e, if_pos (by unfold und; simp; omega)]
        · rw [if_neg e, if_neg (by unfold und; simp; omega)]
theorem sim_as : SimT_as Rel := by
  intro Mx Nx Mm Nm h x1 x2
  show Eq2 Nx Nm _ _
  have hz := h.1.1.le
  unfold fX4_as fX5_as
  rcases has_c h.1 x1 with ⟨e1, e2, _⟩ | ⟨t, ht, et, e1, e2⟩
  · rw [e1, e2, if_pos z00, if_pos z00]; exact h.f0
  rw [e1, e2, if_neg n10, if_neg n10]
  rcases kind_c x2 with ⟨e3, e4, _⟩ | ⟨k, hk, ek, e3, e4⟩
  · rw [e3, e4, if_pos z00, if_pos z00]; exact h.f0
  obtain ⟨q, hq, eq⟩ := (h.1.1.2.2.2 t ht).1
  rw [e3, e4, if_neg n10, if_neg n10, et, ek, if_pos (inbn (by omega) (by omega)), ixn (by omega), its0 (by omega), bind_some', h.e (k := 7 + 4 * t) (by omega), eq, undX _ hq hk, bind_some', as_up _ _ hq hk, its2 (by omega), bind_some', h.e (k := 9 + 4 * t) (by omega)]
  cases und q k
  · exact h.f2
  · exact h.ok _
theorem two_c {σ τ : Nat → Int32} (h : Eqv σ τ) (M : Mi) (hM : M 0 = σ) (x y : Int32) : (fX4_areTwo M x y = 0 ∧ fX5_areTwo τ x y = 0) ∨ ∃ t u, t < sz σ ∧ u < sz σ ∧ t ≠ u ∧ x = nI t ∧ y = nI u ∧ fX4_areTwo M x y = 1 ∧ fX5_areTwo τ x y = 1 := by
  have hz := h.1.le
  unfold fX4_areTwo fX5_areTwo
  rw [hM]
  rcases has_c h x with ⟨e1, e2, _⟩ | ⟨t, ht, et, e1, e2⟩
  · rw [e1, e2, if_pos z00, if_pos z00]; exact Or.inl ⟨rfl, rfl⟩
  rw [e1, e2, if_neg n10, if_neg n10]
  rcases has_c h y with ⟨e3, e4, _⟩ | ⟨u, hu, eu, e3, e4⟩
  · rw [e3, e4, if_pos z00]; exact Or.inl ⟨rfl, rfl⟩
  rw [e3, e4, if_neg n10]
  by_cases e : x = y
  · rw [if_pos e]; exact Or.inl ⟨rfl, rfl⟩
  · rw [if_neg e]
    exact Or.inr ⟨t, u, ht, hu, fun q => e (by rw [et, eu, q]), et, eu, rfl, rfl⟩
theorem sim_lend : SimT_lend Rel := by
  intro Mx Nx Mm Nm h x1 x2 x3
  show Eq2 Nx Nm _ _
  have hz := h.1.1.le
  unfold fX4_lend fX5_lend
  rcases two_c h.1 Mx rfl x1 x2 with ⟨e1, e2⟩ | ⟨t, u, ht, hu, _, et, eu, e1, e2⟩
  · rw [e1, e2, if_pos z00, if_pos z00]; exact h.f0
  rw [e1, e2, if_neg n10, if_neg n10]
  rcases subj_c x3 with ⟨e3, e4, _⟩ | ⟨s, hs, es, e3, e4⟩
  · rw [e3, e4, if_pos z00, if_pos z00]; exact h.f0
  rw [e3, e4, if_neg n10, if_neg n10, et, eu, es, if_pos (inbn (by omega) (by omega)), if_pos (inbn (by omega) (by omega)), ixn (show t < 2 ^ 31 by omega), ixn (show u < 2 ^ 31 by omega), its1 (show t < 8 by omega), its1 (show u < 8 by omega), its2 (show t < 8 by omega), its2 (show u < 8 by omega)]
  simp only [bind_some']
  rw [h.e (k := 8 + 4 * t) (by omega), h.e (k := 8 + 4 * u) (by omega), h.e (k := 9 + 4 * t) (by omega), h.e (k := 9 + 4 * u) (by omega)]
  by_cases ec : Mx 0 (8 + 4 * t) = Mx 0 (8 + 4 * u)
  · rw [if_pos ec, if_pos ec]
    have a1 := and_one (Mx 0 (9 + 4 * t)) (s := s) (by omega)
    have a2 := and_one (Mx 0 (9 + 4 * u)) (s := s) (by omega)
    have b1 := bit_0 (Mx 0 (9 + 4 * t)) (s := s) (by omega)
    have b2 := bit_1 (Mx 0 (9 + 4 * u)) (s := s) (by omega)
    by_cases f1 : bt (Mx 0 (9 + 4 * t)) s = false
    · rw [if_pos (a1.mpr f1), if_pos (b1.mpr f1)]; exact h.f3
    · rw [if_neg (fun q => f1 (a1.mp q)), if_neg (fun q => f1 (b1.mp q))]
      by_cases f2 : bt (Mx 0 (9 + 4 * u)) s = true
      · rw [if_neg (fun q => by rw [a2.mp q] at f2; exact absurd f2 (by decide)), if_pos (b2.mpr f2)]; exact h.f3
      · rw [if_pos (a2.mpr (by simpa using f2)), if_neg (fun q => f2 (b2.mp q)), handsX (by omega) (by omega), lendsM (by omega) (by omega)]
        obtain ⟨c, hc, ecc⟩ := sh_12 s hs
        exact ⟨_, _, rfl, rfl, rfl, h.s0 (lnd_eqv h.1 ht hu hc ecc)⟩
  · rw [if_neg ec, if_neg ec]; exact h.f4
