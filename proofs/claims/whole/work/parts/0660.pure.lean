theorem S30_or {x y : Int32} (h : S30 x) (g : S30 y) : S30 (x ||| y) := fun i h1 h2 => by rw [b_or, h i h1 h2, g i h1 h2]; rfl
theorem or_0 (x y : Int32) : x ||| y = 0 ↔ x = 0 ∧ y = 0 := by
  constructor
  · intro h
    have hb : ∀ i, i < 32 → (bt x i || bt y i) = false := fun i _ => by rw [← b_or, h]; exact b_0 i
    exact ⟨b_ext (fun i hi => by have := hb i hi; rw [b_0]; revert this; cases bt x i <;> simp), b_ext (fun i hi => by have := hb i hi; rw [b_0]; revert this; cases bt x i <;> cases bt y i <;> simp)⟩
  · rintro ⟨rfl, rfl⟩; rfl
theorem both_lp {M0 : Mi} {s u : Nat} (hs : s < 12) (hu : u < 12) : ∀ (n i : Nat) (M Mx : Mi) (r p q : Int32), Asd M0 M → Eqv (Mx 3) (M 0) → Mx 4 0 = r → Mx 4 2 = 0 → S30 r → S30 p → S30 q → i ≤ 49 → 50 - i < n → ∃ j M' Mx', j ≤ 49 ∧ Asd M0 M' ∧ fX5_both_67 n M (nI s) (nI u) r p q (-1) (nI i) = fX5_both_167 M' (if j < 49 then nI j else -1) ∧ fX1_seekTwo_9 n Mx (nI s) (nI u) 48 p q (nI i) = some (if j < 49 then nI j else -1, Mx') ∧ keX Mx Mx' ∧ Mx' 0 = Mx 0 := by
  intro n
  induction n with
  | zero => intro i M Mx r p q _ _ _ _ _ _ _ _ h; omega
  | succ n ih =>
    intro i M Mx r p q ha hE h40 h42 hr hp hq hi hn
    rw [qX5_both_67, qX1_seekTwo_9]
    by_cases e : 48 < i
    · have c1 : (48 : Int32) < nI i := (nlt (a := 48) (by omega) (by omega)).mpr e
      rw [if_pos c1, if_pos c1]
      exact ⟨i, M, Mx, hi, ha, by rw [if_neg (by omega)], by rw [if_neg (by omega)], keX.rfl' _, rfl⟩
    · have c1 : ¬ (48 : Int32) < nI i := fun q => e ((nlt (a := 48) (by omega) (by omega)).mp q)
      obtain ⟨v, ev1, ev2, hv⟩ := cw_sim hE (s := s) (by omega) Mx rfl
      obtain ⟨w, ew1, ew2, hw⟩ := cw_sim hE (s := u) (by omega) Mx rfl
      rw [if_neg c1, if_neg c1, if_neg (show ¬ (0 : Int32) ≤ -1 by decide), ev1, ev2, ew1, ew2]
      simp only [bind_some']
      rw [h40]
      have hA : S30 (p ||| (r &&& v)) := S30_or hp (S30_and hr _)
      have hB : S30 (q ||| (r &&& w)) := S30_or hq (S30_and hr _)
      unfold fX5_both_131
      obtain ⟨a, b, ea, eb, hab, hh⟩ := hour_sim hE
      have f2 : Mx 3 2 = M 0 2 := hE.2 2 (by omega)
      rw [(onw_e (τ := M 0) hr).1, (onw_e (τ := M 0) hA).1, (onw_e (τ := M 0) hB).1, eb]
      simp only [bind_some']
      rw [ns1]
      have o := or_0 ((p ||| (r &&& v)) &&& w) ((q ||| (r &&& w)) &&& v)
      by_cases d1 : (p ||| (r &&& v)) &&& w = 0
      · rw [if_pos d1]
        by_cases d2 : (q ||| (r &&& w)) &&& v = 0
        · rw [if_pos d2, if_pos (o.mpr ⟨d1, d2⟩), ea, bind_some']
          have hst : (sR Mx 3 a) 4 2 = 0 := by rw [sR_ne _ _ (by omega)]; exact h42
          rw [onwards_0 hst, onwards_0 h42, onwards_0 h42, sR_same, hh.2.1 2 (by omega) (by omega), f2]
          obtain ⟨j, M', Mx', q1, q2, q3, q4, q5, q6⟩ := ih (i + 1) (sR M 0 b) (wM (sR Mx 3 a) 4 0 (onw (M 0 2) r)) _ _ _ (ha.s b) (by rw [wM_ne _ _ _ (by omega), sR_same, sR_same]; exact hab) (by rw [wM_at, pk_us]) (by rw [wM_at, upd_ne (by omega)]; exact hst) (onw_e (τ := M 0) hr).2 (onw_e (τ := M 0) hA).2 (onw_e (τ := M 0) hB).2 (by omega) (by omega)
          refine ⟨j, M', Mx', q1, q2, q3, q4, ((keX_s _ _ (by omega)).tr (keX_w _ _ _ (by omega))).tr q5, ?_⟩
          rw [q6, wM_ne _ _ _ (by omega), sR_ne _ _ (by omega)]
        · rw [if_neg d2, if_neg (fun z => d2 (o.mp z).2)]
          obtain ⟨n', rfl⟩ : ∃ n', n = n' + 1 := ⟨n - 1, by omega⟩
          rw [qX5_both_67]
          refine ⟨i, sR M 0 b, Mx, hi, ha.s b, ?_, by rw [if_pos (by omega)], keX.rfl' _, rfl⟩
          rw [if_pos (show i < 49 by omega)]
          by_cases e3 : 48 < nI (i + 1)
          · rw [if_pos e3]
          · rw [if_neg e3, if_pos (show (0 : Int32) ≤ nI i from (nle (a := 0) (by omega) (by omega)).mpr (by omega))]
      · rw [if_neg d1, if_neg (fun z => d1 (o.mp z).1)]
        obtain ⟨n', rfl⟩ : ∃ n', n = n' + 1 := ⟨n - 1, by omega⟩
        rw [qX5_both_67]
        refine ⟨i, sR M 0 b, Mx, hi, ha.s b, ?_, by rw [if_pos (by omega)], keX.rfl' _, rfl⟩
        rw [if_pos (show i < 49 by omega)]
        by_cases e3 : 48 < nI (i + 1)
        · rw [if_pos e3]
        · rw [if_neg e3, if_pos (show (0 : Int32) ≤ nI i from (nle (a := 0) (by omega) (by omega)).mpr (by omega))]
theorem S30_0 : S30 0 := fun i _ _ => b_0 i
theorem hv_none {Mx : Mi} {Nx : Ml} {Mm : Mi} {Nm : Ml} (R : Rel Mx Nx Mm Nm) {j : Nat} (hj : j ≤ 49) : Eq2 Nx Nm (fX4_hoursOrNone Mx (if j < 49 then nI j else -1)) (fX5_orNone Mm (if j < 49 then nI j else -1) 48) := by
  by_cases e : j < 49
  · have q := or_none R (j := j) (B := 48) (by omega) (by omega)
    rw [if_pos e] at q ⊢
    exact q
  · rw [if_neg e]
    unfold fX4_hoursOrNone fX5_orNone
    rw [if_pos rfl, show fX5_in (Int32.toInt64 (-1)) 0 (Int32.toInt64 48) = 0 by decide +kernel, if_pos z00]
    exact R.f3
theorem sim_both : SimT_both Rel := by
  intro Mx Nx Mm Nm h x1 x2 x3
  show Eq2 Nx Nm _ _
  unfold fX4_both fX5_both
  rcases ask_c h x1 x2 with ⟨i, hi, e1, e2⟩ | ⟨c, s, hc, hs, ec, es, e1, e2⟩
  · rw [e1, e2, bind_some']
    dsimp only
    rw [if_neg (code_ne i (by omega)), if_neg (code_ne i (by omega))]
    have fin : Eq2 Nx Nm (some ((-1000000001) - nI i, wM Mx 7 i (Mx 7 i + 1))) (Option.bind (fX5_finds Mm ((-1000000001) - nI i)) (fun a12 => some (a12.1, a12.2))) := by
      rw [fndM Mm (by omega)]
      exact ⟨_, _, rfl, rfl, rfl, h.fnd (by omega)⟩
    rcases hi with rfl | rfl
    · rw [if_pos (show (-1000000001 : Int32) - nI 0 = -1000000001 by decide)]
      have f0 := h.f0
      rcases subj_c x3 with ⟨e3, e4, _⟩ | ⟨d, hd, ed, e3, e4⟩
      · rw [e3, if_pos z00]; exact f0
      · rw [e3, if_neg n10]
        by_cases e5 : x2 = x3
        · rw [if_pos e5]; exact f0
        · rw [if_neg e5]; exact fin
    · rw [if_neg (show ¬ (-1000000001 : Int32) - nI 4 = -1000000001 by decide)]
      rcases subj_c x3 with ⟨e3, e4, _⟩ | ⟨d, hd, ed, e3, e4⟩
      · rw [e3, e4, if_pos z00, if_pos z00]; exact h.f0
      · rw [e3, e4, if_neg n10, if_neg n10]
        by_cases e5 : x2 = x3
        · rw [if_pos e5, if_pos e5]; exact h.f0
        · rw [if_neg e5, if_neg e5]; exact fin
  · rw [e1, e2, bind_some']
    dsimp only
    rw [if_neg (show ¬ (0 : Int32) = -1000000001 by decide)]
    rcases subj_c x3 with ⟨e3, e4, _⟩ | ⟨d, hd, ed, e3, e4⟩
    · rw [e3, e4, if_pos z00, if_pos z00]; exact h.f0
    rw [e3, e4, if_neg n10, if_neg n10]
    by_cases e5 : x2 = x3
    · rw [if_pos e5, if_pos e5]; exact h.f0
    rw [if_neg e5, if_neg e5, if_pos z00, if_pos z00]
    subst ec es ed
    obtain ⟨M1, r1, r2, r3, r4, r5, r6⟩ := gfrom h.1.1 (nI c)
    obtain ⟨j, M', M2, q1, q2, q3, q4, q5, q6⟩ := both_lp (M0 := Mm) hs hd fu 0 (cpy Mm 3 0 0) M1 _ 0 0 (Asd.lay Mm) (by rw [cpy_ne _ (by omega)]; exact eqv_of h.1 r4) r5 r6 (S30_one hc) S30_0 S30_0 (by omega) (by decide)
    have q4' : fX1_seekTwo M1 (nI s) (nI d) 48 = some (if j < 49 then nI j else -1, M2) := q4
    have q3' : fX5_both_67 fu (cpy Mm 3 0 0) (nI s) (nI d) ((1 : Int32) <<< (nI c &&& 31)) 0 0 (-1) 0 = fX5_both_167 M' (if j < 49 then nI j else -1) := q3
    rw [r1, bind_some', q4', bind_some', asdM, bind_some', q3']
    unfold fX5_both_167
    rw [takM, bind_some']
    refine Eq2.fin ?_
    exact hv_none (h.bk (r2.tr q5) (q6.trans r3) q2) q1
