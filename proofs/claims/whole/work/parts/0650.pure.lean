theorem andc (x y : Int32) : x &&& y = y &&& x := b_ext (fun i _ => by rw [b_and, b_and, Bool.and_comm])
theorem stay {M : Mi} (h : Wf (M 0)) (x : Int32) : ∃ M1, fX1_staysInOneOf M x = some M1 ∧ keX M M1 ∧ M1 0 = M 0 ∧ (∀ k, k < 7 + 4 * sz (M 0) → M1 3 k = M 0 k) ∧ M1 4 0 = x ∧ M1 4 2 = 1 := by
  obtain ⟨a, ea, ha⟩ := becX h (M 3)
  unfold fX1_staysInOneOf
  rw [ea]
  refine ⟨_, rfl, ((keX_s _ _ (by omega)).tr (keX_w _ _ _ (by omega))).tr (keX_w _ _ _ (by omega)), ?_, fun k hk => ?_, ?_, ?_⟩
  · rw [wM_ne _ _ _ (by omega), wM_ne _ _ _ (by omega), sR_ne _ _ (by omega)]
  · rw [wM_ne _ _ _ (by omega), wM_ne _ _ _ (by omega), sR_same]; exact ha k hk
  · rw [wM_at, upd_ne (by omega), wM_at, pk_us]
  · rw [wM_at, pk_us]
theorem onwards_1 {M : Mi} (h : M 4 2 = 1) (x : Int32) : fX1_onwards M x = x := by
  unfold fX1_onwards; rw [h, if_neg n10]
theorem wait_lp {M0 : Mi} {c s : Nat} (hc : c < 30) (hs : s < 12) : ∀ (n i : Nat) (M Mx : Mi), Asd M0 M → Eqv (Mx 3) (M 0) → Mx 4 0 = ((1 : Int32) <<< (nI c &&& 31)) → Mx 4 2 = 1 → i ≤ 49 → 49 - i < n → ∃ j M' Mx', j ≤ 49 ∧ Asd M0 M' ∧ fX5_waits_24 n M (nI c) (nI s) (nI i) = fX5_waits_53 M' (nI j) ∧ fX1_seek_2 n Mx (nI s) 48 (nI i) = some (if j < 49 then nI j else -1, Mx') ∧ keX Mx Mx' ∧ Mx' 0 = Mx 0 := by
  intro n
  induction n with
  | zero => intro i M Mx _ _ _ _ _ h; omega
  | succ n ih =>
    intro i M Mx ha hE h40 h42 hi hn
    rw [qX5_waits_24, qX1_seek_2]
    by_cases e : 48 < i
    · have c1 : (48 : Int32) < nI i := (nlt (a := 48) (by omega) (by omega)).mpr e
      rw [if_pos c1, if_pos c1]
      exact ⟨i, M, Mx, hi, ha, rfl, by rw [if_neg (by omega)], keX.rfl' _, rfl⟩
    · have c1 : ¬ (48 : Int32) < nI i := fun q => e ((nlt (a := 48) (by omega) (by omega)).mp q)
      obtain ⟨v, ev1, ev2, hv⟩ := cw_sim hE (s := s) (by omega) Mx rfl
      rw [if_neg c1, if_neg c1, ev1, ev2, bind_some', bind_some', h40, andc ((1 : Int32) <<< (nI c &&& 31)) v]
      have a1 := and_one v (s := c) (by omega)
      have b1 := bit_0 v (s := c) (by omega)
      by_cases ec : bt v c = false
      · rw [if_pos (a1.mpr ec), if_pos (b1.mpr ec), wM_ne _ _ _ (show 3 ≠ 4 by omega)]
        obtain ⟨a, b, ea, eb, hab, hr⟩ := hour_sim hE
        rw [ea, eb, bind_some', bind_some', ns1]
        have hst : (sR (wM Mx 4 1 (v &&& ((1 : Int32) <<< (nI c &&& 31)))) 3 a) 4 2 = 1 := by rw [sR_ne _ _ (by omega), wM_at, upd_ne (by omega)]; exact h42
        rw [onwards_1 hst]
        obtain ⟨j, M', Mx', q1, q2, q3, q4, q5, q6⟩ := ih (i + 1) (sR M 0 b) (wM (sR (wM Mx 4 1 (v &&& ((1 : Int32) <<< (nI c &&& 31)))) 3 a) 4 0 ((1 : Int32) <<< (nI c &&& 31))) (ha.s b) (by rw [wM_ne _ _ _ (by omega), sR_same, sR_same]; exact hab) (by rw [wM_at, pk_us]) (by rw [wM_at, upd_ne (by omega)]; exact hst) (by omega) (by omega)
        refine ⟨j, M', Mx', q1, q2, q3, q4, ?_, ?_⟩
        · exact (((keX_w _ _ _ (by omega)).tr (keX_s _ _ (by omega))).tr (keX_w _ _ _ (by omega))).tr q5
        · rw [q6, wM_ne _ _ _ (by omega), sR_ne _ _ (by omega), wM_ne _ _ _ (by omega)]
      · rw [if_neg (fun q => ec (a1.mp q)), if_neg (fun q => ec (b1.mp q))]
        exact ⟨i, M, _, hi, ha, rfl, by rw [if_pos (by omega)], keX_w _ _ _ (by omega), wM_ne _ _ _ (by omega)⟩
theorem sim_waits : SimT_waits Rel := by
  intro Mx Nx Mm Nm h x1 x2
  show Eq2 Nx Nm _ _
  unfold fX4_waits fX5_waits
  refine rd_c h x1 x2 (G := fun M => Option.bind (fX1_staysInOneOf M ((1 : Int32) <<< (x1 &&& 31))) (fun a3 => Option.bind (fX1_seek a3 x2 48) (fun a4 => Option.bind (fX4_hoursOrNone a4.2 a4.1) (fun a5 => some (a5.1, a5.2))))) (fun c s hc hs ec es => ?_)
  subst ec es
  obtain ⟨M1, r1, r2, r3, r4, r5, r6⟩ := stay h.1.1 ((1 : Int32) <<< (nI c &&& 31))
  obtain ⟨j, M', M2, q1, q2, q3, q4, q5, q6⟩ := wait_lp (M0 := Mm) hc hs fu 0 (cpy Mm 3 0 0) M1 (Asd.lay Mm) (by rw [cpy_ne _ (by omega)]; exact eqv_of h.1 r4) r5 r6 (by omega) (by decide)
  have q4' : fX1_seek M1 (nI s) 48 = some (if j < 49 then nI j else -1, M2) := q4
  have q3' : fX5_waits_24 fu (cpy Mm 3 0 0) (nI c) (nI s) 0 = fX5_waits_53 M' (nI j) := q3
  show Eq2 Nx Nm (Option.bind (fX1_staysInOneOf Mx ((1 : Int32) <<< (nI c &&& 31))) _) _
  rw [r1, bind_some', q4', bind_some', asdM, bind_some', q3']
  unfold fX5_waits_53
  rw [takM, bind_some']
  refine Eq2.fin ?_
  exact or_none (B := 48) (h.bk (r2.tr q5) (q6.trans r3) q2) (by omega) (by omega)
theorem sim_censors : SimT_censors Rel := by
  intro Mx Nx Mm Nm h x1 x2 x3
  show Eq2 Nx Nm _ _
  have hz := h.1.1.le
  unfold fX4_censors fX5_censors
  rcases ask_c h x1 x2 with ⟨i, hi, e1, e2⟩ | ⟨c, s, hc, hs, ec, es, e1, e2⟩
  · rw [e1, e2, bind_some']
    dsimp only
    rw [if_neg (code_ne i (by omega)), if_neg (code_ne i (by omega))]
    have fin : Eq2 Nx Nm (some ((-1000000001) - nI i, wM Mx 7 i (Mx 7 i + 1))) (Option.bind (fX5_finds Mm ((-1000000001) - nI i)) (fun a12 => some (a12.1, a12.2))) := by
      rw [fndM Mm (by omega)]
      exact ⟨_, _, rfl, rfl, rfl, h.fnd (by omega)⟩
    rcases hi with rfl | rfl
    · rw [if_pos (show (-1000000001 : Int32) - nI 0 = -1000000001 by decide)]
      have f0 := h.f0
      rcases cell_c x3 with ⟨e3, e4, _⟩ | ⟨d, hd, ed, e3, e4⟩
      · rw [e3, if_pos z00]; exact f0
      · rw [e3, if_neg n10]
        by_cases e5 : x3 = x1
        · rw [if_pos e5]; exact f0
        · rw [if_neg e5]; exact fin
    · rw [if_neg (show ¬ (-1000000001 : Int32) - nI 4 = -1000000001 by decide)]
      rcases cell_c x3 with ⟨e3, e4, _⟩ | ⟨d, hd, ed, e3, e4⟩
      · rw [e3, e4, if_pos z00, if_pos z00]; exact h.f0
      · rw [e3, e4, if_neg n10, if_neg n10]
        by_cases e5 : x3 = x1
        · rw [if_pos e5, if_pos e5]; exact h.f0
        · rw [if_neg e5, if_neg e5]; exact fin
  · rw [e1, e2, bind_some']
    dsimp only
    rw [if_neg (show ¬ (0 : Int32) = -1000000001 by decide)]
    rcases cell_c x3 with ⟨e3, e4, _⟩ | ⟨d, hd, ed, e3, e4⟩
    · rw [e3, e4, if_pos z00, if_pos z00]; exact h.f0
    rw [e3, e4, if_neg n10, if_neg n10]
    by_cases e5 : x3 = x1
    · rw [if_pos e5, if_pos e5]; exact h.f0
    rw [if_neg e5, if_neg e5, if_pos z00, if_pos z00]
    subst ec es
    obtain ⟨j, M', q1, q2, q3, q4⟩ := soonM (M := Mm) h.1.wf2 hc hs
    obtain ⟨M1, r1, r2, r3, r4, r5, r6⟩ := gfrom h.1.1 (nI c)
    obtain ⟨M2, s1, s2, s3, s4⟩ := q4 M1 49 (eqv_of h.1 r4) r5 r6 (by omega)
    have s1' : fX1_seek M1 (nI s) 48 = some (if j < 49 then nI j else -1, M2) := s1
    rw [r1, bind_some', s1', bind_some', q3, bind_some']
    dsimp only
    have R : Rel M2 Nx (cpy M' 0 3 0) Nm := h.bk (r2.tr s2) (s3.trans r3) q2
    by_cases e : j < 49
    · rw [if_pos e, if_neg (jm1 (by omega)), if_pos (show (0 : Int32) ≤ nI j from (nle (a := 0) (by omega) (by omega)).mpr (by omega))]
      obtain ⟨M3, u1, u2, u3, u4, u5, u6⟩ := gfrom R.1.1 (nI c)
      have hE : Eqv (M3 3) (cpy M' 0 3 0 0) := eqv_of R.1 u4
      obtain ⟨a, b, ea, eb, hab, _⟩ := fences_c hE x3 (Or.inr rfl)
      rw [u1, bind_some', ea, bind_some', eb, bind_some']
      have hb2 : ∀ k, k ≠ 2 → b k = cpy M' 0 3 0 0 k := fun k hk => by
        have : b = upd (cpy M' 0 3 0 0) 2 (((cpy M' 0 3 0 0 2) &&& (((1 : Int32) <<< (x3 &&& 31)) ^^^ (-1))) ||| ((1 : Int32) <<< (x3 &&& 31))) := (Option.some.inj eb).symm
        rw [this, upd_ne hk]
      obtain ⟨j2, N', v1, v2, v3, v4⟩ := soonM (M := sR (cpy M' 0 3 0) 0 b) (by rw [sR_same]; exact hab.wf2) hc hs
      obtain ⟨M4, w1, w2, w3, w4⟩ := v4 (sR M3 3 a) 49 (by rw [sR_same, sR_same]; exact hab) (by rw [sR_ne _ _ (by omega)]; exact u5) (by rw [sR_ne _ _ (by omega)]; exact u6) (by omega)
      have w1' : fX1_seek (sR M3 3 a) (nI s) 48 = some (if j2 < 49 then nI j2 else -1, M4) := w1
      rw [w1', bind_some', v3, bind_some']
      dsimp only
      have R2 : Rel M4 Nx (wM (cpy N' 0 3 0) 0 2 (cpy M' 0 3 0 0 2)) Nm := by
        refine R.ke ((u2.tr (keX_s _ _ (by omega))).tr w2) (((keM_s _ _ (by omega)).tr v2.back.1).tr (keM_w _ _ _ (by omega))) ?_
        rw [w3, sR_ne _ _ (by omega), u3, wM_at]
        refine eqv_of2 R.1 (fun k hk => ?_)
        by_cases e2 : k = 2
        · subst e2; rw [pk_us]
        · rw [upd_ne e2, v2.back.2 k hk, sR_same, hb2 k e2]
      by_cases f : j2 < 49
      · rw [if_pos f, if_neg (jm1 (by omega)), if_pos (show (0 : Int32) ≤ nI j2 from (nle (a := 0) (by omega) (by omega)).mpr (by omega))]
        exact R2.ok _
      · rw [if_neg f, if_pos rfl, if_neg (show ¬ (0 : Int32) ≤ -1 by decide)]
        exact R2.ok _
    · rw [if_neg e, if_pos rfl, if_neg (show ¬ (0 : Int32) ≤ -1 by decide)]
      exact R.f3
