/-! waterhole -/
theorem m1_k (k : Nat) : nI (k + 1) + (-1) = nI k := pk_m1 k
theorem hole_48 {r : Mi → Int32 → Int32 → Int32 → Option (Int32 × Mi)} {M : Mi} {x1 x3 w : Int32} {l : Nat} (hl : l ≤ 30) (h1 : l < 30 → bt w l = true) (h2 : ∀ i, i < l → bt w i = false) : ∀ (k n : Nat) (x2 : Int32), k ≤ 30 → k < n → fX5_waterhole_48 r n M x1 x2 x3 w (nI k + (-1)) = r M x1 (if l < k then nI l else x2) x3 := by
  intro k
  induction k with
  | zero =>
    intro n x2 _ hn
    obtain ⟨n', rfl⟩ : ∃ n', n = n' + 1 := ⟨n - 1, by omega⟩
    rw [qX5_waterhole_48, if_pos (show nI 0 + (-1) < 0 by decide), if_neg (by omega)]
  | succ k ih =>
    intro n x2 hk hn
    obtain ⟨n', rfl⟩ : ∃ n', n = n' + 1 := ⟨n - 1, by omega⟩
    rw [m1_k, qX5_waterhole_48, if_neg (nI_pos (by omega)), ih n' _ (by omega) (by omega)]
    have hb := bit_1 w (s := k) (by omega)
    by_cases e : l = k
    · subst e
      rw [if_pos (hb.mpr (h1 (by omega))), if_neg (by omega), if_pos (by omega)]
    · by_cases e2 : l < k
      · rw [if_pos e2, if_pos (by omega)]
      · rw [if_neg (show ¬ _ = (1 : Int32) from fun q => by rw [h2 k (by omega)] at hb; exact absurd (hb.mp q) (by decide)), if_neg e2, if_neg (by omega)]
theorem hole_lp {M0 : Mi} {s : Nat} (hs : s < 12) : ∀ (n i : Nat) (M Mx : Mi), Asd M0 M → Eqv (Mx 3) (M 0) → Mx 4 0 = fX5_open (M 0) → Mx 4 2 = 1 → i ≤ 49 → 50 - i < n → ∃ (v hr : Int32) (M' Mx' : Mi), Asd M0 M' ∧ fX5_waterhole_22 n M (nI s) (-1) (nI i) = fX5_waterhole_87 M' v ∧ fX1_seek_2 n Mx (nI s) 48 (nI i) = some (hr, Mx') ∧ keX Mx Mx' ∧ Mx' 0 = Mx 0 ∧ (v = -1 ∧ hr = -1 ∨ ∃ l, l < 30 ∧ v = nI l ∧ hr ≠ -1 ∧ fX4_least (Mx' 4 1) = nI l) := by
  intro n
  induction n with
  | zero => intro i M Mx _ _ _ _ _ h; omega
  | succ n ih =>
    intro i M Mx ha hE h40 h42 hi hn
    rw [qX5_waterhole_22, qX1_seek_2]
    by_cases e : 48 < i
    · have c1 : (48 : Int32) < nI i := (nlt (a := 48) (by omega) (by omega)).mpr e
      rw [if_pos c1, if_pos c1]
      exact ⟨-1, -1, M, Mx, ha, rfl, rfl, keX.rfl' _, rfl, Or.inl ⟨rfl, rfl⟩⟩
    · have c1 : ¬ (48 : Int32) < nI i := fun q => e ((nlt (a := 48) (by omega) (by omega)).mp q)
      obtain ⟨v, ev1, ev2, hv⟩ := cw_sim hE (s := s) (by omega) Mx rfl
      obtain ⟨a, b, ea, eb, hab, hh⟩ := hour_sim hE
      rw [if_neg c1, if_neg c1, if_neg (show ¬ (0 : Int32) ≤ -1 by decide), ev1, ev2, bind_some', bind_some', h40, andc (fX5_open (M 0)) v]
      have hS : S30 (v &&& fX5_open (M 0)) := S30_and hv _
      have f2 : b 2 = M 0 2 := by
        rw [hab.e (k := 2) (by omega), hh.2.1 2 (by omega) (by omega)]; exact hE.2 2 (by omega)
      by_cases ec : v &&& fX5_open (M 0) = 0
      · rw [if_pos ec, ec]
        have q48 := hole_48 (r := fX5_waterhole_77 (fX5_waterhole_22 n)) (M := M) (x1 := nI s) (x3 := nI i) (w := 0) (l := 30) (by omega) (fun q => by omega) (fun i _ => b_0 i) 30 fu (-1) (by omega) (by decide)
        rw [show nI 30 + (-1) = (29 : Int32) by decide, if_neg (by omega)] at q48
        rw [q48, wM_ne _ _ _ (show 3 ≠ 4 by omega), ea, bind_some', ns1]
        show ∃ _, _
        unfold fX5_waterhole_77
        rw [eb, bind_some', ns1]
        have hst : (sR (wM Mx 4 1 0) 3 a) 4 2 = 1 := by rw [sR_ne _ _ (by omega), wM_at, upd_ne (by omega)]; exact h42
        rw [onwards_1 hst]
        obtain ⟨v', hr', M', Mx', q1, q2, q3, q4, q5, q6⟩ := ih (i + 1) (sR M 0 b) (wM (sR (wM Mx 4 1 0) 3 a) 4 0 (fX5_open (M 0))) (ha.s b) (by rw [wM_ne _ _ _ (by omega), sR_same, sR_same]; exact hab) (by rw [wM_at, pk_us, sR_same]; unfold fX5_open; rw [f2]) (by rw [wM_at, upd_ne (by omega)]; exact hst) (by omega) (by omega)
        refine ⟨v', hr', M', Mx', q1, q2, q3, ?_, ?_, q6⟩
        · exact (((keX_w _ _ _ (by omega)).tr (keX_s _ _ (by omega))).tr (keX_w _ _ _ (by omega))).tr q4
        · rw [q5, wM_ne _ _ _ (by omega), sR_ne _ _ (by omega), wM_ne _ _ _ (by omega)]
      · rw [if_neg ec]
        obtain ⟨l, hl, l1, l2, l3⟩ := least_c hS ec
        have q48 := hole_48 (r := fX5_waterhole_77 (fX5_waterhole_22 n)) (M := M) (x1 := nI s) (x3 := nI i) (w := v &&& fX5_open (M 0)) (l := l) (by omega) (fun _ => l2) l3 30 fu (-1) (by omega) (by decide)
        rw [show nI 30 + (-1) = (29 : Int32) by decide, if_pos hl] at q48
        rw [q48]
        unfold fX5_waterhole_77
        rw [eb, bind_some', ns1]
        obtain ⟨n', rfl⟩ : ∃ n', n = n' + 1 := ⟨n - 1, by omega⟩
        rw [qX5_waterhole_22]
        refine ⟨nI l, nI i, sR M 0 b, wM Mx 4 1 (v &&& fX5_open (M 0)), ha.s b, ?_, rfl, keX_w _ _ _ (by omega), wM_ne _ _ _ (by omega), Or.inr ⟨l, hl, rfl, jm1 (by omega), by rw [wM_at, pk_us]; exact l1⟩⟩
        by_cases e3 : 48 < nI (i + 1)
        · rw [if_pos e3]
        · rw [if_neg e3, if_pos (show (0 : Int32) ≤ nI l from (nle (a := 0) (by omega) (by omega)).mpr (by omega))]
theorem sim_waterhole : SimT_waterhole Rel := by
  intro Mx Nx Mm Nm h x1
  show Eq2 Nx Nm _ _
  unfold fX4_waterhole fX5_waterhole
  rcases subj_c x1 with ⟨e3, e4, _⟩ | ⟨s, hs, es, e3, e4⟩
  · rw [e3, e4, if_pos z00, if_pos z00]; exact h.f0
  rw [e3, e4, if_neg n10, if_neg n10]
  subst es
  obtain ⟨M1, r1, r2, r3, r4, r5, r6⟩ := stay h.1.1 (1073741823 &&& ((Mx 0 2) ^^^ (-1)))
  obtain ⟨v, hr, M', M2, q1, q2, q3, q4, q5, q6⟩ := hole_lp (M0 := Mm) hs fu 0 (cpy Mm 3 0 0) M1 (Asd.lay Mm) (by rw [cpy_ne _ (by omega)]; exact eqv_of h.1 r4) (by rw [r5, cpy_ne _ (by omega)]; unfold fX5_open; rw [h.e (k := 2) (by omega)]) r6 (by omega) (by decide)
  have q3' : fX1_seek M1 (nI s) 48 = some (hr, M2) := q3
  have q2' : fX5_waterhole_22 fu (cpy Mm 3 0 0) (nI s) (-1) 0 = fX5_waterhole_87 M' v := q2
  rw [r1, bind_some', q3', bind_some', asdM, bind_some', q2']
  unfold fX5_waterhole_87
  rw [takM, bind_some']
  have R : Rel M2 Nx (cpy M' 0 3 0) Nm := h.bk (r2.tr q4) (q5.trans r3) q1
  refine Eq2.fin ?_
  show Eq2 Nx Nm (fX4_placeOrNone M2 hr) (fX5_orNone (cpy M' 0 3 0) v (nI 30))
  unfold fX4_placeOrNone
  rcases q6 with ⟨rfl, rfl⟩ | ⟨l, hl, rfl, hne, hle⟩
  · have q := best_end R (v := -1) (n := 30) (N := 30) (Or.inl rfl) (by omega) (by omega)
    rw [if_pos rfl] at q ⊢
    exact q
  · have q := best_end R (v := nI l) (n := 30) (N := 30) (Or.inr ⟨l, hl, rfl⟩) (by omega) (by omega)
    rw [if_neg (jm1 (by omega))] at q
    rw [if_neg hne, hle]
    exact q
