/-! many -/
theorem cw_b {τ : Nat → Int32} (h : Wf τ) {s : Nat} (hs : s < 32) : ∃ v, fX5_places τ (nI s) = some v ∧ ∀ i, i < 32 → (bt v i = true ↔ ∃ t, t < sz τ ∧ bt (τ (9 + 4 * t)) s = true ∧ τ (8 + 4 * t) = nI i) := by
  have hz := h.le
  have hz1 := h.z
  refine ⟨gf (fun a t => a ||| (((τ (9 + 4 * t) >>> (nI s &&& 31)) &&& 1) <<< (τ (8 + 4 * t) &&& 31))) (sz τ) 0 0, ?_, fun i hi => ?_⟩
  · refine gf_lp (F := fun n a t => fX5_places_4 τ n (nI s) a t) (z := sz τ) (fun n a => ?_) (fun n a t ht => ?_) fu (sz τ) 0 0 (by omega) (by show _ < 200; omega)
    · show fX5_places_4 τ (n + 1) (nI s) a (nI (sz τ)) = _
      rw [qX5_places_4, hz1, if_pos ((zle (by omega) (by omega)).mpr (Nat.le_refl _))]
    · show fX5_places_4 τ (n + 1) (nI s) a (nI t) = fX5_places_4 τ n (nI s) _ _
      rw [qX5_places_4, hz1, if_neg (by rw [zle (by omega) (by omega)]; omega), its2 (by omega), its1 (by omega), bind_some', bind_some', ns1]
  · rw [gfor (h := fun t => ((τ (9 + 4 * t) >>> (nI s &&& 31)) &&& 1) <<< (τ (8 + 4 * t) &&& 31)) (sz τ) 0 0]
    constructor
    · rintro (q | ⟨u, _, hu, q⟩)
      · rw [b_0] at q; exact absurd q (by decide)
      · obtain ⟨c, hc, ec⟩ := (h.2.2.2 u (by omega)).2.1
        have q' : bt (((τ (9 + 4 * u) >>> (nI s &&& 31)) &&& 1) <<< (τ (8 + 4 * u) &&& 31)) i = true := q
        rw [ec, b_01 (bt (τ (9 + 4 * u)) s) (bit_v _ hs) (by omega) hi, Bool.and_eq_true, decide_eq_true_iff] at q'
        exact ⟨u, by omega, q'.1, by rw [ec, q'.2]⟩
    · rintro ⟨u, hu, q1, q2⟩
      refine Or.inr ⟨u, by omega, by omega, ?_⟩
      show bt (((τ (9 + 4 * u) >>> (nI s &&& 31)) &&& 1) <<< (τ (8 + 4 * u) &&& 31)) i = true
      rw [q2, b_01 (bt (τ (9 + 4 * u)) s) (bit_v _ hs) hi hi, q1, decide_eq_true rfl]; rfl
theorem su_b {σ : Nat → Int32} (h : Wf σ) (x : Int32) : ∃ u, fX0_subjectsIn σ x = some u ∧ ∀ s, s < 32 → (bt u s = true ↔ ∃ t, t < sz σ ∧ bt (σ (9 + 4 * t)) s = true ∧ ∃ c, c < 30 ∧ σ (8 + 4 * t) = nI c ∧ bt x c = true) := by
  refine ⟨_, q_subj h x, fun s hs => ?_⟩
  have e : gf (fun a t => if ((x >>> (σ (8 + 4 * t) &&& 31)) &&& 1) = 1 then a ||| σ (9 + 4 * t) else a) (sz σ) 0 0 = gf (fun a t => a ||| (if ((x >>> (σ (8 + 4 * t) &&& 31)) &&& 1) = 1 then σ (9 + 4 * t) else 0)) (sz σ) 0 0 := gf_c (z := sz σ) (fun a t ht => by
    show (if _ then _ else _) = a ||| (if _ then _ else _)
    by_cases q : ((x >>> (σ (8 + 4 * t) &&& 31)) &&& 1) = 1
    · rw [if_pos q, if_pos q]
    · rw [if_neg q, if_neg q, or0]) (sz σ) 0 0 (by omega)
  rw [e, gfor (h := fun t => if ((x >>> (σ (8 + 4 * t) &&& 31)) &&& 1) = 1 then σ (9 + 4 * t) else 0) (sz σ) 0 0]
  constructor
  · rintro (q | ⟨u, _, hu, q⟩)
    · rw [b_0] at q; exact absurd q (by decide)
    · obtain ⟨c, hc, ec⟩ := (h.2.2.2 u (by omega)).2.1
      have q' : bt (if ((x >>> (σ (8 + 4 * u) &&& 31)) &&& 1) = 1 then σ (9 + 4 * u) else 0) s = true := q
      by_cases q2 : ((x >>> (σ (8 + 4 * u) &&& 31)) &&& 1) = 1
      · rw [if_pos q2] at q'
        rw [ec] at q2
        exact ⟨u, by omega, q', c, hc, ec, (bit_1 x (by omega)).mp q2⟩
      · rw [if_neg q2, b_0] at q'; exact absurd q' (by decide)
  · rintro ⟨u, hu, q1, c, hc, ec, q2⟩
    refine Or.inr ⟨u, by omega, by omega, ?_⟩
    show bt (if ((x >>> (σ (8 + 4 * u) &&& 31)) &&& 1) = 1 then σ (9 + 4 * u) else 0) s = true
    rw [if_pos (by rw [ec]; exact (bit_1 x (by omega)).mpr q2)]
    exact q1
theorem hit_b {σ : Nat → Int32} (h : Wf σ) {x u v : Int32} {s : Nat} (hs : s < 32) (hu : fX0_subjectsIn σ x = some u) (hv : fX5_places σ (nI s) = some v) : bt u s = true ↔ ¬ (x &&& v) = 0 := by
  obtain ⟨u', eu, ku⟩ := su_b h x
  obtain ⟨v', ev, kv⟩ := cw_b h hs
  rw [hu] at eu
  rw [hv] at ev
  cases eu
  cases ev
  rw [ku s hs, and_0]
  constructor
  · rintro ⟨t, ht, q1, c, hc, ec, q2⟩ q
    have q3 := q c (by omega)
    rw [q2, (kv c (by omega)).mpr ⟨t, ht, q1, ec⟩] at q3
    exact absurd q3 (by decide)
  · intro q
    refine Decidable.byContradiction (fun k => q (fun i hi => ?_))
    cases e1 : bt x i with
    | false => rfl
    | true =>
      cases e2 : bt v i with
      | false => rfl
      | true =>
        obtain ⟨t, ht, q1, q2⟩ := (kv i hi).mp e2
        obtain ⟨c, hc, ec⟩ := (h.2.2.2 t ht).2.1
        have e3 : i = c := (neq (by omega) (by omega)).mp (q2.symm.trans ec)
        subst e3
        exact absurd ⟨t, ht, q1, i, hc, ec, e1⟩ k
theorem su_12 {σ : Nat → Int32} (h : Wf σ) {x u : Int32} {s : Nat} (hs : s < 32) (hu : fX0_subjectsIn σ x = some u) (hb : bt u s = true) : s < 12 := by
  obtain ⟨u', eu, ku⟩ := su_b h x
  rw [hu] at eu
  cases eu
  obtain ⟨t, ht, q1, _⟩ := (ku s hs).mp hb
  obtain ⟨b, hb2, eb⟩ := (h.2.2.2 t ht).2.2.1
  rw [eb, b_nI b hs] at q1
  refine Nat.lt_of_not_le (fun k => ?_)
  rw [Nat.testBit_lt_two_pow (Nat.lt_of_lt_of_le hb2 (show 2 ^ 12 ≤ 2 ^ s from Nat.pow_le_pow_right (by decide) k))] at q1
  exact absurd q1 (by decide)
theorem with_lp {N : Nat} (hN : N ≤ 48) : ∀ (n i : Nat) (M : Mi) (acc : Int32), Wf (M 3) → M 4 2 = 0 → i ≤ N + 1 → N + 1 - i < n → ∃ u M', fX1_subjectsWithin_4 n M (nI N) acc (nI i) = some (u, M') ∧ keX M M' ∧ M' 0 = M 0 ∧ ∀ s, s < 32 → (bt u s = true → bt acc s = true ∨ s < 12) ∧ ∀ (M2 : Mi), M2 3 = M 3 → M2 4 0 = M 4 0 → M2 4 2 = 0 → ∃ r M2', fX1_seek_2 n M2 (nI s) (nI N) (nI i) = some (r, M2') ∧ (bt u s = true ↔ bt acc s = true ∨ r ≠ -1) := by
  intro n
  induction n with
  | zero => intro i M acc _ _ _ h; omega
  | succ n ih =>
    intro i M acc hw h42 hi hn
    rw [qX1_subjectsWithin_4]
    by_cases e : N < i
    · have c1 : nI N < nI i := (nlt (by omega) (by omega)).mpr e
      rw [if_pos c1]
      refine ⟨_, _, rfl, keX.rfl' _, rfl, fun s hs => ⟨fun q => Or.inl q, fun M2 _ _ _ => ?_⟩⟩
      rw [qX1_seek_2, if_pos c1]
      exact ⟨_, _, rfl, fun q => Or.inl q, fun q => q.elim id (fun k => absurd rfl k)⟩
    · have c1 : ¬ nI N < nI i := fun q => e ((nlt (by omega) (by omega)).mp q)
      obtain ⟨w, ew, _⟩ := su_b hw (M 4 0)
      obtain ⟨a, b, ea, eb, hab, hr⟩ := hour_sim (Eqv.refl' hw)
      rw [if_neg c1, ew, bind_some', ea, bind_some', ns1]
      have hst : (sR M 3 a) 4 2 = 0 := by rw [sR_ne _ _ (by omega)]; exact h42
      have h3 : (wM (sR M 3 a) 4 0 (fX1_onwards (sR M 3 a) (M 4 0))) 3 = a := by rw [wM_ne _ _ _ (by omega), sR_same]
      have h40 : (wM (sR M 3 a) 4 0 (fX1_onwards (sR M 3 a) (M 4 0))) 4 0 = onw (a 2) (M 4 0) := by rw [wM_at, pk_us, onwards_0 hst, sR_same]
      have h42' : (wM (sR M 3 a) 4 0 (fX1_onwards (sR M 3 a) (M 4 0))) 4 2 = 0 := by rw [wM_at, upd_ne (by omega)]; exact hst
      obtain ⟨u, M', q1, q2, q3, q4⟩ := ih (i + 1) (wM (sR M 3 a) 4 0 (fX1_onwards (sR M 3 a) (M 4 0))) (acc ||| w) (by rw [h3]; exact hab.1) h42' (by omega) (by omega)
      refine ⟨u, M', q1, ((keX_s _ _ (by omega)).tr (keX_w _ _ _ (by omega))).tr q2, ?_, fun s hs => ⟨fun q => ?_, fun M2 g3 g40 g42 => ?_⟩⟩
      · rw [q3, wM_ne _ _ _ (by omega), sR_ne _ _ (by omega)]
      · rcases (q4 s hs).1 q with k | k
        · rw [b_or, Bool.or_eq_true] at k
          exact k.elim Or.inl (fun k => Or.inr (su_12 hw hs ew k))
        · exact Or.inr k
      · obtain ⟨v, ev1, ev2, _⟩ := cw_sim (Eqv.refl' hw) hs M2 g3
        have hb := hit_b hw hs ew ev2
        rw [qX1_seek_2, if_neg c1, ev1, bind_some', g40]
        by_cases ec : (M 4 0 &&& v) = 0
        · rw [if_pos ec, wM_ne _ _ _ (show 3 ≠ 4 by omega), g3, ea, bind_some', ns1]
          have gst : (sR (wM M2 4 1 (M 4 0 &&& v)) 3 a) 4 2 = 0 := by rw [sR_ne _ _ (by omega), wM_at, upd_ne (by omega)]; exact g42
          rw [onwards_0 gst, sR_same]
          obtain ⟨r, M2', r1, r2⟩ := (q4 s hs).2 (wM (sR (wM M2 4 1 (M 4 0 &&& v)) 3 a) 4 0 (onw (a 2) (M 4 0))) (by rw [wM_ne _ _ _ (by omega), sR_same, h3]) (by rw [wM_at, pk_us, h40]) (by rw [wM_at, upd_ne (by omega)]; exact gst)
          refine ⟨r, M2', r1, ?_⟩
          rw [r2, b_or, Bool.or_eq_true]
          constructor
          · rintro ((k | k) | k)
            · exact Or.inl k
            · exact absurd ec (hb.mp k)
            · exact Or.inr k
          · rintro (k | k)
            · exact Or.inl (Or.inl k)
            · exact Or.inr k
        · rw [if_neg ec]
          refine ⟨_, _, rfl, fun _ => Or.inr (jm1 (by omega)), fun _ => ?_⟩
          obtain ⟨r, M2', r1, r2⟩ := (q4 s hs).2 _ rfl rfl h42'
          exact r2.mpr (Or.inl (by rw [b_or, hb.mpr ec, Bool.or_true]))
theorem many_lp {Mx : Mi} {Nx : Ml} {Mm : Mi} {Nm : Ml} (h : Rel Mx Nx Mm Nm) {c N m : Nat} (hc : c < 30) (hN : N ≤ 48) {M1 : Mi} (g3 : Eqv (M1 3) (Mm 0)) (g40 : M1 4 0 = ((1 : Int32) <<< (nI c &&& 31))) (g42 : M1 4 2 = 0) (hm : ∀ s, s < 12 → ∃ r M2, fX1_seek M1 (nI s) (nI N) = some (r, M2) ∧ (m.testBit s = true ↔ r ≠ -1)) : ∀ (n s : Nat) (M : Mi), keM Mm M → (∀ k, k < 39 → M 0 k = Mm 0 k) → s ≤ 12 → 12 - s < n → ∃ M', fX5_many_46 n M (nI c) (nI N) (nI (fb_ct (fun i => m.testBit i) s)) (nI s) = some (nI (pop m), M') ∧ keM Mm M' ∧ ∀ k, k < 39 → M' 0 k = Mm 0 k := by
  intro n
  induction n with
  | zero => intro s M _ _ _ hn; omega
  | succ n ih =>
    intro s M hk h0 hs hn
    rw [qX5_many_46]
    by_cases e : 12 ≤ s
    · have e2 : s = 12 := by omega
      subst e2
      rw [if_pos (show (12 : Int32) ≤ nI 12 by decide)]
      exact ⟨M, rfl, hk, h0⟩
    · rw [if_neg (show ¬ (12 : Int32) ≤ nI s from fun q => e ((nle (a := 12) (by omega) (by omega)).mp q))]
      have g3' : Eqv (M1 3) (M 0) := eqv_of2 g3 h0
      obtain ⟨j, M', q1, q2, q3, q4⟩ := soonM (M := M) g3'.wf2 hc (show s < 12 by omega)
      obtain ⟨M2, r1, _⟩ := q4 M1 (N + 1) g3' g40 g42 (by omega)
      obtain ⟨r, M3, p1, p2⟩ := hm s (by omega)
      rw [nI_pred, p1] at r1
      have er : r = if j < N + 1 then nI j else -1 := congrArg Prod.fst (Option.some.inj r1)
      rw [q3, bind_some']
      dsimp only
      have hb : fX5_in (Int32.toInt64 (if j < 49 then nI j else -1)) 0 (Int32.toInt64 (nI N)) = if m.testBit s = true then 1 else 0 := by
        rw [nI_l (show N < 2 ^ 31 by omega)]
        by_cases ej : j < N + 1
        · rw [if_pos (show j < 49 by omega), in1 (by omega) (by omega), if_pos (p2.mpr (by rw [er, if_pos ej]; exact jm1 (by omega)))]
        · rw [if_neg (show ¬ m.testBit s = true from fun k => p2.mp k (by rw [er, if_neg ej]))]
          refine in0 (by omega) (fun t ht q => ?_)
          by_cases e4 : j < 49
          · rw [if_pos e4] at q
            have := (neq (by omega) (by omega)).mp q
            omega
          · rw [if_neg e4] at q
            exact jm1 (j := t) (by omega) q.symm
      have hstep : nI (fb_ct (fun i => m.testBit i) s) + (if fX5_in (Int32.toInt64 (if j < 49 then nI j else -1)) 0 (Int32.toInt64 (nI N)) = 0 then 0 else 1 : Int32) = nI (fb_ct (fun i => m.testBit i) (s + 1)) := by
        rw [hb, fb_ct_succ]
        by_cases k : m.testBit s = true
        · rw [if_pos k, if_pos k, if_neg n10]; exact nI_add _ 1
        · rw [if_neg k, if_neg k, if_pos z00]; exact nI_add _ 0
      rw [hstep, ns1]
      exact ih (s + 1) _ (hk.tr q2.back.1) (fun k hk' => (q2.back.2 k hk').trans (h0 k hk')) (by omega) (by omega)
theorem s12_n {x : Int32} (h : ∀ i, i < 32 → bt x i = true → i < 12) : ∃ m, m < 4096 ∧ x = nI m := by
  refine (set_c x (k := 12) (by omega)).mp ((and_0 _ _).mpr (fun i hi => ?_))
  have hk : bt (nI (2 ^ 12 - 1)) i = decide (i < 12) := by
    rw [b_nI _ hi, Nat.testBit_two_pow_sub_one]
  rw [b_xor, hk, b_m1 i hi]
  by_cases e : i < 12
  · rw [decide_eq_true e]; simp
  · have : bt x i = false := by
      cases q : bt x i with
      | false => rfl
      | true => exact absurd (h i hi q) e
    rw [this]; rfl
theorem sim_many : SimT_many Rel := by
  intro Mx Nx Mm Nm h x1 x2
  show Eq2 Nx Nm _ _
  unfold fX4_many fX5_many
  rcases cell_c x1 with ⟨e1, e2, _⟩ | ⟨c, hc, rfl, e1, e2⟩
  · rw [e1, e2, if_pos z00, if_pos z00]; exact h.f0
  rw [e1, e2, if_neg n10, if_neg n10]
  by_cases a0 : x2 < 0
  · rw [if_pos a0, show fX5_in (Int32.toInt64 x2) 0 48 = 0 from in0 (n := 48) (by omega) (fun t ht q => by subst q; exact nI_pos (by omega) a0), if_pos z00]
    exact h.f0
  obtain ⟨N, hN, rfl⟩ := nI_of a0
  rw [if_neg a0]
  by_cases a1 : N ≤ 48
  case neg =>
    rw [if_neg (show ¬ nI N ≤ (48 : Int32) from fun q => a1 ((nle (b := 48) hN (by omega)).mp q)), show fX5_in (Int32.toInt64 (nI N)) 0 48 = 0 from in0 (n := 48) (by omega) (fun t ht q => by have := (neq hN (by omega)).mp q; omega), if_pos z00]
    exact h.f0
  rw [if_pos (show nI N ≤ (48 : Int32) from (nle (b := 48) hN (by omega)).mpr a1), show fX5_in (Int32.toInt64 (nI N)) 0 48 = 1 from in1 (n := 48) a1 (by omega), if_neg n10, fen_c h.1]
  by_cases e : fX0_isFenced (Mx 0) (nI c) = 0
  case neg => rw [if_neg e, if_neg e]; exact h.f4
  rw [if_pos e, if_pos e]
  obtain ⟨M1, r1, r2, r3, r4, r5, r6⟩ := gfrom h.1.1 (nI c)
  have g3 : Eqv (M1 3) (Mm 0) := eqv_of h.1 r4
  obtain ⟨u, M2, q1, q2, q3, q4⟩ := with_lp a1 fu 0 M1 0 g3.1 r6 (by omega) (by show _ < 200; omega)
  have q1' : fX1_subjectsWithin M1 (nI N) = some (u, M2) := q1
  obtain ⟨m, hm, rfl⟩ := s12_n (x := u) (fun i hi q => ((q4 i hi).1 q).elim (fun k => by rw [b_0] at k; exact absurd k (by decide)) id)
  have hq : ∀ s, s < 12 → ∃ r M2, fX1_seek M1 (nI s) (nI N) = some (r, M2) ∧ (m.testBit s = true ↔ r ≠ -1) := fun s hs => by
    obtain ⟨r, M3, p1, p2⟩ := (q4 s (by omega)).2 M1 rfl rfl r6
    refine ⟨r, M3, p1, ?_⟩
    rw [b_nI m (by omega), b_0] at p2
    exact ⟨fun k => (p2.mp k).elim (fun z => absurd z (by decide)) id, fun k => p2.mpr (Or.inr k)⟩
  obtain ⟨M', s1, s2, s3⟩ := many_lp h hc a1 g3 r5 r6 hq fu 0 Mm (keM.rfl' _) (fun _ _ => rfl) (by omega) (by decide)
  have s1' : fX5_many_46 fu Mm (nI c) (nI N) 0 0 = some (nI (pop m), M') := s1
  rw [r1, bind_some', q1', bind_some', s1']
  refine ⟨_, _, rfl, rfl, bc_12 m hm, ?_⟩
  exact h.ke (r2.tr q2) s2 (by show Eqv (M2 0) (M' 0); rw [q3, r3]; exact eqv_of2 h.1 s3)
