/-! one tortoise, on its own -/
def EqT (σ τ : Nat → Int32) (t : Nat) : Prop := σ 0 = τ 0 ∧ (∀ k, 2 ≤ k → k < 7 → σ k = τ k) ∧ σ (7 + 4 * t) = τ (7 + 4 * t) ∧ σ (8 + 4 * t) = τ (8 + 4 * t) ∧ σ (10 + 4 * t) = τ (10 + 4 * t)
theorem hourM {τ : Nat → Int32} (h : Wf τ) : ∃ b, fX5_hour τ = some b ∧ Wf b ∧ sz b = sz τ ∧ b 0 = τ 0 + 1 ∧ (∀ k, 1 ≤ k → k < 7 → b k = τ k) ∧ ∀ t, t < sz τ → b (7 + 4 * t) = τ (7 + 4 * t) ∧ b (8 + 4 * t) = nc τ t ∧ b (10 + 4 * t) = τ (10 + 4 * t) := by
  obtain ⟨a, b, _, eb, hab, hr⟩ := hour_sim (Eqv.refl' h)
  have hs := hr.siz
  refine ⟨b, eb, hab.wf2, (sz_e hab).trans hs, ?_, fun k h1 h2 => ?_, fun t ht => ⟨?_, ?_, ?_⟩⟩
  · rw [hab.e (k := 0) (by omega)]; exact hr.1
  · rw [hab.e (by omega)]; exact hr.2.1 k h1 h2
  · rw [hab.e (by omega)]; exact (hr.2.2 t).1
  · rw [hab.e (by omega)]; exact (hr.2.2 t).2.1 ht
  · rw [hab.e (by omega)]; exact (hr.2.2 t).2.2
theorem aloneX {σ : Nat → Int32} {t : Nat} (h : t < 8) : fX0_goAlone σ (nI t) = some (upd (upd σ (8 + 4 * t) (nc σ t)) 0 (σ 0 + 1)) := by
  unfold fX0_goAlone
  rw [walkX h, bind_some', upd_ne (by omega)]
theorem EqT.next {σ τ b : Nat → Int32} {t : Nat} (h : EqT σ τ t) (h0 : b 0 = τ 0 + 1) (hk : ∀ k, 1 ≤ k → k < 7 → b k = τ k) (ht : b (7 + 4 * t) = τ (7 + 4 * t) ∧ b (8 + 4 * t) = nc τ t ∧ b (10 + 4 * t) = τ (10 + 4 * t)) : EqT (upd (upd σ (8 + 4 * t) (nc σ t)) 0 (σ 0 + 1)) b t := by
  refine ⟨?_, fun k h1 h2 => ?_, ?_, ?_, ?_⟩
  · rw [pk_us, h0, h.1]
  · rw [upd_ne (by omega), upd_ne (by omega), hk k (by omega) h2]; exact h.2.1 k h1 h2
  · rw [upd_ne (by omega), upd_ne (by omega), ht.1]; exact h.2.2.1
  · rw [upd_ne (by omega), pk_us, ht.2.1]
    exact nc_c h.1 h.2.1 h.2.2.1 h.2.2.2.1 h.2.2.2.2
  · rw [upd_ne (by omega), upd_ne (by omega), ht.2.2]; exact h.2.2.2.2
theorem Eqv.one {σ τ : Nat → Int32} (h : Eqv σ τ) {t : Nat} (ht : t < sz σ) : EqT σ τ t := ⟨h.2 0 (by omega), fun k _ _ => h.2 k (by omega), h.2 _ (by omega), h.2 _ (by omega), h.2 _ (by omega)⟩
/-- the last hour that counts is one before b -/
theorem bnd {b i : Nat} (hb : b < 1000) (hi : i < 1000) : nI b - 1 < nI i ↔ b ≤ i := by
  have e := pk_sub_toInt (a := b) (b := 1) (by omega) (by omega)
  rw [fa_lt]
  show (nI b - nI 1).toInt < _ ↔ _
  rw [e, show (nI i).toInt = (i : Int) from by
    have := pk_sub_toInt (a := i) (b := 0) (by omega) (by omega)
    rw [show nI i - nI 0 = nI i from pk_sub (by omega)] at this
    rw [this]; simp]
  omega
theorem till_lp {M0 : Mi} {t : Nat} {x : Int32} : ∀ (n i : Nat) (M : Mi), Asd M0 M → Wf (M 0) → t < sz (M 0) → i ≤ 73 → 73 - i < n → ∃ j M', i ≤ j ∧ j ≤ 73 ∧ Asd M0 M' ∧ fX5_whenOf_6 n M (nI t) x (nI i) = some (nI j, cpy M' 0 3 0) ∧ ∀ (σ : Nat → Int32) (b m : Nat), EqT σ (M 0) t → b ≤ 73 → 73 - i < m → ∃ σ', fX0_hoursTill_3 m σ (nI t) x (nI b - 1) (nI i) = some (if j < b then nI j else -1, σ') := by
  intro n
  induction n with
  | zero => intro i M _ _ _ _ h; omega
  | succ n ih =>
    intro i M ha hw ht hi hn
    have hz := hw.le
    have i8 : inb (nI t) 8 := inbn (by omega) (by omega)
    have j8 : ix (nI t) = t := ixn (by omega)
    rw [qX5_whenOf_6]
    by_cases e : 72 < i
    · rw [if_pos (show (72 : Int32) < nI i from (nlt (a := 72) (by omega) (by omega)).mpr e)]
      unfold fX5_whenOf_32
      rw [takM]
      refine ⟨i, M, Nat.le_refl _, hi, ha, rfl, fun σ b m _ hb hm => ?_⟩
      match m, hm with
      | m + 1, _ =>
        rw [qX0_hoursTill_3, if_pos ((bnd (by omega) (by omega)).mpr (by omega)), if_neg (by omega)]
        exact ⟨σ, rfl⟩
    · rw [if_neg (show ¬ (72 : Int32) < nI i from fun q => e ((nlt (a := 72) (by omega) (by omega)).mp q)), its1 (by omega), bind_some']
      by_cases ec : M 0 (8 + 4 * t) = x
      · rw [if_pos ec]
        unfold fX5_whenOf_32
        rw [takM]
        refine ⟨i, M, Nat.le_refl _, hi, ha, rfl, fun σ b m hs hb hm => ?_⟩
        match m, hm with
        | m + 1, _ =>
          rw [qX0_hoursTill_3]
          by_cases e2 : i < b
          · rw [if_neg (by rw [bnd (by omega) (by omega)]; omega), if_pos i8, j8, if_pos (hs.2.2.2.1.trans ec), if_pos e2]
            exact ⟨σ, rfl⟩
          · rw [if_pos ((bnd (by omega) (by omega)).mpr (by omega)), if_neg e2]
            exact ⟨σ, rfl⟩
      · rw [if_neg ec]
        obtain ⟨B, eB, hB, hsB, h0, hk, hc⟩ := hourM hw
        rw [eB, bind_some', ns1]
        obtain ⟨j, M', q1, q2, q3, q4, q5⟩ := ih (i + 1) (sR M 0 B) (ha.s B) (by rw [sR_same]; exact hB) (by rw [sR_same]; omega) (by omega) (by omega)
        refine ⟨j, M', by omega, q2, q3, q4, fun σ b m hs hb hm => ?_⟩
        match m, hm with
        | m + 1, hm =>
          rw [qX0_hoursTill_3]
          by_cases e2 : i < b
          · rw [if_neg (by rw [bnd (by omega) (by omega)]; omega), if_pos i8, j8, if_neg (fun q => ec (hs.2.2.2.1.symm.trans q)), aloneX (by omega), bind_some', ns1]
            exact q5 _ b m (by rw [sR_same]; exact hs.next h0 hk (hc t ht)) hb (by omega)
          · rw [if_pos ((bnd (by omega) (by omega)).mpr (by omega)), if_neg (by omega)]
            exact ⟨σ, rfl⟩
/-- when: the hour, or 73 -/
theorem whenM {M : Mi} {t : Nat} (x : Int32) (hw : Wf (M 0)) (ht : t < sz (M 0)) : ∃ j M', j ≤ 73 ∧ Asd M M' ∧ fX5_whenOf M (nI t) x = some (nI j, cpy M' 0 3 0) ∧ ∀ (σ : Nat → Int32) (b : Nat), EqT σ (M 0) t → b ≤ 73 → ∃ σ', fX0_hoursTill σ (nI t) x (nI b - 1) = some (if j < b then nI j else -1, σ') := by
  unfold fX5_whenOf
  rw [asdM, bind_some']
  obtain ⟨j, M', q1, q2, q3, q4, q5⟩ := till_lp (M0 := M) (t := t) (x := x) fu 0 (cpy M 3 0 0) (Asd.lay M) (by rw [cpy_ne _ (by omega)]; exact hw) (by rw [cpy_ne _ (by omega)]; exact ht) (by omega) (by decide)
  refine ⟨j, M', q2, q3, q4, fun σ b hs hb => ?_⟩
  exact q5 σ b fu (by rw [cpy_ne _ (by omega)]; exact hs) hb (by decide)
/-- an hour or none, on both sides -/
theorem or_none {Mx : Mi} {Nx : Ml} {Mm : Mi} {Nm : Ml} (h : Rel Mx Nx Mm Nm) {j B : Nat} (hj : j ≤ B + 1) (hB : B < 1000) : Eq2 Nx Nm (fX4_hoursOrNone Mx (if j < B + 1 then nI j else -1)) (fX5_orNone Mm (nI j) (nI B)) := by
  unfold fX4_hoursOrNone fX5_orNone
  by_cases e : j < B + 1
  · rw [if_pos e, if_neg (show ¬ nI j = -1 from fun q => nI_pos (n := j) (by omega) (by rw [q]; decide)), nI_l (show B < 2 ^ 31 by omega), in1 (by omega) (by omega), if_neg n10]
    exact h.ok _
  · rw [if_neg e, if_pos rfl, nI_l (show B < 2 ^ 31 by omega), in0 (by omega) (fun t ht => by intro q; rw [neq (by omega) (by omega)] at q; omega), if_pos z00]
    exact h.f3
theorem Eq2.fin {Nx Nm : Ml} {x y : Option (Int32 × Mi)} (h : Eq2 Nx Nm x y) : Eq2 Nx Nm (Option.bind x (fun a => some (a.1, a.2))) (Option.bind y (fun a => some (a.1, a.2))) := by
  obtain ⟨b, d, e1, e2, e3, e4⟩ := h
  rw [e1, e2]
  exact ⟨_, _, rfl, rfl, e3, e4⟩
theorem sim_when : SimT_when Rel := by
  intro Mx Nx Mm Nm h x1 x2
  show Eq2 Nx Nm _ _
  have hz := h.1.1.le
  unfold fX4_when fX5_when
  rcases has_c h.1 x1 with ⟨e1, e2, _⟩ | ⟨t, ht, et, e1, e2⟩
  · rw [e1, e2, if_pos z00, if_pos z00]; exact h.f0
  rw [e1, e2, if_neg n10, if_neg n10]
  rcases cell_c x2 with ⟨e3, e4, _⟩ | ⟨c, hc, ec, e3, e4⟩
  · rw [e3, e4, if_pos z00, if_pos z00]; exact h.f0
  rw [e3, e4, if_neg n10, if_neg n10, et]
  have hzt := sz_e h.1
  obtain ⟨j, M', q2, q3, q4, q5⟩ := whenM (M := Mm) (t := t) x2 h.1.wf2 (by omega)
  obtain ⟨a, ea, ha⟩ := becX h.1.1 (Mx 1)
  have h1 : Eqv a (Mm 0) := eqv_of h.1 ha
  have sa : sz a = sz (Mx 0) := by show ix (a 1) = ix (Mx 0 1); rw [ha 1 (by omega)]
  obtain ⟨s', q6⟩ := q5 a 73 (h1.one (by omega)) (by omega)
  have q6' : fX0_hoursTill a (nI t) x2 72 = some (if j < 73 then nI j else -1, s') := q6
  rw [ea, q4, bind_some', q6', bind_some', bind_some']
  refine Eq2.fin ?_
  exact or_none (B := 72) (h.bk (Mx' := sR Mx 1 s') (keX_s _ _ (by omega)) (sR_ne _ _ (by omega)) q3) (by omega) (by omega)
theorem meet_lp {M0 : Mi} {t u : Nat} : ∀ (n i : Nat) (M : Mi) (σ : Nat → Int32), Asd M0 M → Eqv σ (M 0) → t < sz σ → u < sz σ → i ≤ 73 → 73 - i < n → ∃ j M' σ', j ≤ 73 ∧ Asd M0 M' ∧ fX5_meet_22 n M (nI t) (nI u) (nI i) = fX5_meet_53 M' (nI j) ∧ fX0_hoursTillTogether_3 n σ (nI t) (nI u) 72 (nI i) = some (if j < 73 then nI j else -1, σ') := by
  intro n
  induction n with
  | zero => intro i M σ _ _ _ _ _ h; omega
  | succ n ih =>
    intro i M σ ha h ht hu hi hn
    have hz := h.1.le
    rw [qX5_meet_22, qX0_hoursTillTogether_3]
    by_cases e : 72 < i
    · have c : (72 : Int32) < nI i := (nlt (a := 72) (by omega) (by omega)).mpr e
      rw [if_pos c, if_pos c]
      exact ⟨i, M, σ, hi, ha, rfl, by rw [if_neg (by omega)]⟩
    · have c : ¬ (72 : Int32) < nI i := fun q => e ((nlt (a := 72) (by omega) (by omega)).mp q)
      rw [if_neg c, if_neg c, its1 (by omega), its1 (by omega), bind_some', bind_some', h.e (k := 8 + 4 * t) (by omega), h.e (k := 8 + 4 * u) (by omega), if_pos (inbn (by omega) (by omega)), if_pos (inbn (by omega) (by omega)), ixn (show t < 2 ^ 31 by omega), ixn (show u < 2 ^ 31 by omega)]
      by_cases ec : σ (8 + 4 * t) = σ (8 + 4 * u)
      · rw [if_pos ec, if_pos ec]
        exact ⟨i, M, σ, hi, ha, rfl, by rw [if_pos (by omega)]⟩
      · rw [if_neg ec, if_neg ec]
        obtain ⟨a, b, ea, eb, hab, hr⟩ := hour_sim h
        have hs := hr.siz
        rw [ea, eb, bind_some', bind_some', ns1]
        exact ih (i + 1) (sR M 0 b) a (ha.s b) (by rw [sR_same]; exact hab) (by omega) (by omega) (by omega) (by omega)
theorem sim_meet : SimT_meet Rel := by
  intro Mx Nx Mm Nm h x1 x2
  show Eq2 Nx Nm _ _
  have hz := h.1.1.le
  unfold fX4_meet fX5_meet
  rcases two_c h.1 Mx rfl x1 x2 with ⟨e1, e2⟩ | ⟨t, u, ht, hu, _, et, eu, e1, e2⟩
  · rw [e1, e2, if_pos z00, if_pos z00]; exact h.f0
  rw [e1, e2, if_neg n10, if_neg n10, et, eu]
  obtain ⟨a, ea, ha⟩ := becX h.1.1 (Mx 1)
  have h1 : Eqv a (cpy Mm 3 0 0 0) := by rw [cpy_ne _ (by omega)]; exact eqv_of h.1 ha
  have sa : sz a = sz (Mx 0) := by show ix (a 1) = ix (Mx 0 1); rw [ha 1 (by omega)]
  obtain ⟨j, M', s', q1, q2, q3, q4⟩ := meet_lp (M0 := Mm) (t := t) (u := u) fu 0 (cpy Mm 3 0 0) a (Asd.lay Mm) h1 (by omega) (by omega) (by omega) (by decide)
  have q4' : fX0_hoursTillTogether a (nI t) (nI u) 72 = some (if j < 73 then nI j else -1, s') := q4
  have q3' : fX5_meet_22 fu (cpy Mm 3 0 0) (nI t) (nI u) 0 = fX5_meet_53 M' (nI j) := q3
  rw [ea, asdM, bind_some', bind_some', q4', q3', bind_some']
  unfold fX5_meet_53
  rw [takM, bind_some']
  refine Eq2.fin ?_
  exact or_none (B := 72) (h.bk (Mx' := sR Mx 1 s') (keX_s _ _ (by omega)) (sR_ne _ _ (by omega)) q2) (by omega) (by omega)
