theorem onw_b {f x : Int32} (hx : S30 x) {i : Nat} (hi : i < 32) : bt (onw f x) i = true ↔ ((bt x i = true ∨ ∃ d, 0 ≤ d ∧ d < 30 ∧ bt x d = true ∧ adj d i = true) ∧ bt (1073741823 &&& (f ^^^ (-1))) i = true) := by
  have x31 := hx 31 (by omega) (by omega)
  have hn : ∀ k, 30 ≤ k → k < 32 → ¬ bt x k = true := fun k h1 h2 q => by rw [hx k h1 h2] at q; exact absurd q (by decide)
  have s1 : bt ((x &&& (-17043522)) >>> ((1 : Int32) &&& 31)) i = if 1 + i < 32 then bt (x &&& (-17043522)) (1 + i) else bt (x &&& (-17043522)) 31 := b_sshr 1 (by omega) _ hi
  have s2 : bt ((x &&& (-545392673)) <<< ((1 : Int32) &&& 31)) i = (decide (1 ≤ i) && bt (x &&& (-545392673)) (i - 1)) := b_shl 1 (by omega) _ hi
  have s3 : bt (x >>> ((6 : Int32) &&& 31)) i = if 6 + i < 32 then bt x (6 + i) else bt x 31 := b_sshr 6 (by omega) _ hi
  have s4 : bt (x <<< ((6 : Int32) &&& 31)) i = (decide (6 ≤ i) && bt x (i - 6)) := b_shl 6 (by omega) _ hi
  have t1 : bt ((x &&& (-17043522)) >>> ((1 : Int32) &&& 31)) i = true ↔ (i < 29 ∧ (i + 1) % 6 ≠ 0 ∧ bt x (i + 1) = true) := by
    rw [s1, b_and, b_and]
    by_cases e : 1 + i < 32
    · rw [if_pos e, m_1 _ e, Bool.and_eq_true, decide_eq_true_iff, Nat.add_comm 1 i]
      constructor
      · rintro ⟨q1, q2⟩
        by_cases e2 : i < 29
        · exact ⟨e2, by omega, q1⟩
        · exact absurd q1 (hn (i + 1) (by omega) (by omega))
      · rintro ⟨q1, q2, q3⟩; exact ⟨q3, Or.inl q2⟩
    · rw [if_neg e, x31]
      constructor
      · intro q; exact absurd q (by simp)
      · rintro ⟨q, _⟩; omega
  have t2 : bt ((x &&& (-545392673)) <<< ((1 : Int32) &&& 31)) i = true ↔ (1 ≤ i ∧ i ≤ 30 ∧ (i - 1) % 6 ≠ 5 ∧ bt x (i - 1) = true) := by
    rw [s2, b_and, m_2 _ (by omega), Bool.and_eq_true, Bool.and_eq_true, decide_eq_true_iff, decide_eq_true_iff]
    constructor
    · rintro ⟨q0, q1, q2⟩
      by_cases e2 : i ≤ 30
      · exact ⟨q0, e2, by omega, q1⟩
      · exact absurd q1 (hn (i - 1) (by omega) (by omega))
    · rintro ⟨q0, q1, q2, q3⟩; exact ⟨q0, q3, Or.inl q2⟩
  have t3 : bt (x >>> ((6 : Int32) &&& 31)) i = true ↔ (i < 24 ∧ bt x (i + 6) = true) := by
    rw [s3]
    by_cases e : 6 + i < 32
    · rw [if_pos e, Nat.add_comm 6 i]
      constructor
      · intro q1
        by_cases e2 : i < 24
        · exact ⟨e2, q1⟩
        · exact absurd q1 (hn (i + 6) (by omega) (by omega))
      · rintro ⟨_, q⟩; exact q
    · rw [if_neg e, x31]
      constructor
      · intro q; exact absurd q (by simp)
      · rintro ⟨q, _⟩; omega
  have t4 : bt ((x <<< ((6 : Int32) &&& 31)) &&& 1073741823) i = true ↔ (6 ≤ i ∧ i < 30 ∧ bt x (i - 6) = true) := by
    rw [b_and, s4, m_30 i hi, Bool.and_eq_true, Bool.and_eq_true, decide_eq_true_iff, decide_eq_true_iff]
    constructor
    · rintro ⟨⟨q0, q1⟩, q2⟩; exact ⟨q0, q2, q1⟩
    · rintro ⟨q0, q1, q2⟩; exact ⟨⟨q0, q2⟩, q1⟩
  unfold onw
  rw [b_and, b_or, b_or, b_or, b_or, Bool.and_eq_true, Bool.or_eq_true, Bool.or_eq_true, Bool.or_eq_true, Bool.or_eq_true, t1, t2, t3, t4, b_and, m_30 i hi, Bool.and_eq_true, decide_eq_true_iff]
  constructor
  · rintro ⟨q, qf⟩
    rcases q with (((q | ⟨h1, h2, q⟩) | ⟨h1, h2, h3, q⟩) | ⟨h1, q⟩) | ⟨h1, h2, q⟩
    · exact ⟨Or.inl q, Nat.lt_of_not_le (fun e => hn i e hi q), qf⟩
    · exact ⟨Or.inr ⟨i + 1, by omega, by omega, q, by unfold adj; simp; omega⟩, by omega, qf⟩
    · exact ⟨Or.inr ⟨i - 1, by omega, by omega, q, by unfold adj; simp; omega⟩, by omega, qf⟩
    · exact ⟨Or.inr ⟨i + 6, by omega, by omega, q, by unfold adj; simp⟩, by omega, qf⟩
    · exact ⟨Or.inr ⟨i - 6, by omega, by omega, q, by unfold adj; simp; omega⟩, h2, qf⟩
  · rintro ⟨q, h30, qf⟩
    refine ⟨?_, qf⟩
    rcases q with q | ⟨d, _, hd, q, ha⟩
    · exact Or.inl (Or.inl (Or.inl (Or.inl q)))
    · unfold adj at ha
      simp at ha
      rcases ha with ((⟨h1, h2⟩ | ⟨h1, h2⟩) | h1) | ⟨h1, h2⟩
      · subst h1; exact Or.inl (Or.inl (Or.inl (Or.inr ⟨by omega, by omega, q⟩)))
      · subst h1; exact Or.inl (Or.inl (Or.inr ⟨by omega, by omega, by simpa using h2, by simpa using q⟩))
      · subst h1; exact Or.inl (Or.inr ⟨by omega, q⟩)
      · subst h1; exact Or.inr ⟨by omega, by omega, by simpa using q⟩
theorem onw_e {τ : Nat → Int32} {x : Int32} (hx : S30 x) : fX5_spread τ x = some (onw (τ 2) x) ∧ S30 (onw (τ 2) x) := by
  obtain ⟨v, ev, hv⟩ := spr_lp (τ := τ) (x := x) fu 0 x (by omega) (by decide)
  have e : v = onw (τ 2) x := b_ext (fun i hi => by
    have q := (hv i hi).trans (onw_b (f := τ 2) hx hi).symm
    cases h1 : bt v i <;> cases h2 : bt (onw (τ 2) x) i <;> simp [h1, h2] at q ⊢)
  refine ⟨by rw [← e]; exact ev, fun i h1 h2 => ?_⟩
  by_cases q : bt (onw (τ 2) x) i = true
  · have := ((onw_b (f := τ 2) hx h2).mp q).2
    rw [b_and, m_30 i h2, decide_eq_false (by omega)] at this
    exact absurd this (by simp)
  · simpa using q
theorem S30_and {x : Int32} (h : S30 x) (y : Int32) : S30 (x &&& y) := fun i h1 h2 => by rw [b_and, h i h1 h2]; rfl
theorem S30_one {c : Nat} (h : c < 30) : S30 ((1 : Int32) <<< (nI c &&& 31)) := fun i h1 h2 => by rw [b_one (by omega) h2]; exact decide_eq_false (by omega)
theorem onwards_0 {M : Mi} (h : M 4 2 = 0) (x : Int32) : fX1_onwards M x = onw (M 3 2) x := by
  unfold fX1_onwards onw; rw [if_pos h]
/-- soonest: the hour, or 49 -/
theorem seek_lp {M0 : Mi} {s : Nat} (hs : s < 32) : ∀ (n i : Nat) (M : Mi) (x : Int32), Asd M0 M → Wf (M 0) → S30 x → i ≤ 49 → 50 - i < n → ∃ j M', i ≤ j ∧ j ≤ 49 ∧ Asd M0 M' ∧ fX5_soonestOf_14 n M (nI s) x (-1) (nI i) = some (if j < 49 then nI j else -1, cpy M' 0 3 0) ∧ ∀ (Mx : Mi) (b m : Nat), Eqv (Mx 3) (M 0) → Mx 4 0 = x → Mx 4 2 = 0 → b ≤ 49 → 50 - i < m → ∃ Mx', fX1_seek_2 m Mx (nI s) (nI b - 1) (nI i) = some (if j < b then nI j else -1, Mx') ∧ keX Mx Mx' ∧ Mx' 0 = Mx 0 ∧ (j < b → Mx' 4 1 = M' 6 1 ∧ M' 6 1 ≠ 0 ∧ S30 (M' 6 1)) := by
  intro n
  induction n with
  | zero => intro i M x _ _ _ _ h; omega
  | succ n ih =>
    intro i M x ha hw hx hi hn
    rw [qX5_soonestOf_14]
    by_cases e : 48 < i
    · rw [if_pos (show (48 : Int32) < nI i from (nlt (a := 48) (by omega) (by omega)).mpr e)]
      unfold fX5_soonestOf_68
      rw [takM]
      refine ⟨i, M, Nat.le_refl _, hi, ha, by rw [if_neg (by omega)]; rfl, fun Mx b m _ _ _ hb hm => ?_⟩
      match m, hm with
      | m + 1, _ =>
        rw [qX1_seek_2, if_pos ((bnd (by omega) (by omega)).mpr (by omega)), if_neg (by omega)]
        exact ⟨Mx, rfl, keX.rfl' _, rfl, fun q => by omega⟩
    · rw [if_neg (show ¬ (48 : Int32) < nI i from fun q => e ((nlt (a := 48) (by omega) (by omega)).mp q)), if_neg (show ¬ (0 : Int32) ≤ -1 by decide)]
      obtain ⟨v, _, ev, hv⟩ := cw_sim (Eqv.refl' hw) hs (fun _ => M 0) rfl
      obtain ⟨B, eB, hB, hsB, h0, hk, hc⟩ := hourM hw
      have hsp := onw_e (τ := M 0) hx
      rw [ev, bind_some']
      unfold fX5_soonestOf_50
      rw [wM_ne _ _ _ (show 0 ≠ 6 by omega), hsp.1, bind_some', eB, bind_some', ns1]
      have ha2 : Asd M0 (sR (wM M 6 1 (x &&& v)) 0 B) := (ha.w6 _ (by omega) (by omega)).s B
      by_cases ec : x &&& v = 0
      · rw [if_pos ec]
        obtain ⟨j, M', q1, q2, q3, q4, q5⟩ := ih (i + 1) _ _ ha2 (by rw [sR_same]; exact hB) hsp.2 (by omega) (by omega)
        refine ⟨j, M', by omega, q2, q3, q4, fun Mx b m hE h40 h42 hb hm => ?_⟩
        match m, hm with
        | m + 1, hm =>
          rw [qX1_seek_2]
          by_cases e2 : i < b
          · obtain ⟨v', ev1, ev2, _⟩ := cw_sim hE hs Mx rfl
            have evv : v' = v := by rw [ev] at ev2; exact (Option.some.inj ev2).symm
            subst evv
            obtain ⟨a, b', ea, eb, hab, hr⟩ := hour_sim hE
            have ebB : b' = B := by rw [eB] at eb; exact (Option.some.inj eb).symm
            subst ebB
            rw [if_neg (by rw [bnd (by omega) (by omega)]; omega), ev1, bind_some', h40, if_pos ec, wM_ne _ _ _ (show 3 ≠ 4 by omega), ea, bind_some', ns1]
            have hst : (sR (wM Mx 4 1 (x &&& v')) 3 a) 4 2 = 0 := by rw [sR_ne _ _ (by omega), wM_at, upd_ne (by omega)]; exact h42
            rw [onwards_0 hst, sR_same, hr.2.1 2 (by omega) (by omega), ← hE.e (k := 2) (by omega)]
            obtain ⟨Mx', r1, r2, r3, r4⟩ := q5 (wM (sR (wM Mx 4 1 (x &&& v')) 3 a) 4 0 (onw (M 0 2) x)) b m (by rw [wM_ne _ _ _ (by omega), sR_same, sR_same]; exact hab) (by rw [wM_at, pk_us]) (by rw [wM_at, upd_ne (by omega)]; exact hst) hb (by omega)
            refine ⟨Mx', r1, ?_, ?_, r4⟩
            · exact (((keX_w _ _ _ (by omega)).tr (keX_s _ _ (by omega))).tr (keX_w _ _ _ (by omega))).tr r2
            · rw [r3, wM_ne _ _ _ (by omega), sR_ne _ _ (by omega), wM_ne _ _ _ (by omega)]
          · rw [if_pos ((bnd (by omega) (by omega)).mpr (by omega)), if_neg (by omega)]
            exact ⟨Mx, rfl, keX.rfl' _, rfl, fun q => by omega⟩
      · rw [if_neg ec]
        obtain ⟨n', rfl⟩ : ∃ n', n = n' + 1 := ⟨n - 1, by omega⟩
        rw [qX5_soonestOf_14]
        unfold fX5_soonestOf_68
        rw [takM]
        refine ⟨i, sR (wM M 6 1 (x &&& v)) 0 B, Nat.le_refl _, hi, ha2, ?_, fun Mx b m hE h40 h42 hb hm => ?_⟩
        · rw [if_pos (show i < 49 by omega)]
          by_cases e3 : 48 < nI (i + 1)
          · rw [if_pos e3]; rfl
          · rw [if_neg e3, if_pos (show (0 : Int32) ≤ nI i from (nle (a := 0) (by omega) (by omega)).mpr (by omega))]; rfl
        · match m, hm with
          | m + 1, hm =>
            rw [qX1_seek_2]
            by_cases e2 : i < b
            · obtain ⟨v', ev1, ev2, _⟩ := cw_sim hE hs Mx rfl
              have evv : v' = v := by rw [ev] at ev2; exact (Option.some.inj ev2).symm
              subst evv
              rw [if_neg (by rw [bnd (by omega) (by omega)]; omega), ev1, bind_some', h40, if_neg ec, if_pos e2]
              refine ⟨_, rfl, keX_w _ _ _ (by omega), wM_ne _ _ _ (by omega), fun _ => ?_⟩
              rw [wM_at, pk_us, sR_ne _ _ (by omega), wM_at, pk_us]
              exact ⟨rfl, ec, S30_and hx _⟩
            · rw [if_pos ((bnd (by omega) (by omega)).mpr (by omega)), if_neg e2]
              exact ⟨Mx, rfl, keX.rfl' _, rfl, fun q => absurd q e2⟩
