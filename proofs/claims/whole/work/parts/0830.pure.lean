/-! island: the whole text -/
theorem is_wr (M : Mi) (x : Int32) : fX5_island_78 M x = some ((-1) - M 6 3, wM (cpy (wM M 6 6 1) 0 2 0) 6 2 0) := by
  have e6 : cpy (wM M 6 6 1) 0 2 0 6 = (wM M 6 6 1) 6 := cpy_ne _ (by omega)
  have h6 : (wM M 6 6 1) 6 6 = 1 := by rw [wM_at, pk_us]
  have h3 : (wM M 6 6 1) 6 3 = M 6 3 := by rw [wM_at, upd_ne (by omega)]
  unfold fX5_island_78 fX5_island_83
  rw [if_pos (show (1 : Int32) = 0 ∨ (1 : Int32) = 1 from Or.inr rfl), if_neg n10, putM, bind_some']
  unfold fX5_island_97
  rw [e6, h6, if_neg n10, h3]
theorem is_ok {M : Mi} (h6 : M 6 6 = 0) (x : Int32) : fX5_island_83 M x 0 = some (x, wM M 6 2 0) := by
  unfold fX5_island_83
  rw [if_pos (show (0 : Int32) = 0 ∨ (0 : Int32) = 1 from Or.inl rfl), if_pos z00, wM_id h6]
  unfold fX5_island_97
  rw [if_pos h6]
theorem m1_le : ∀ a, a < 121 → ((-1 : Int32) - nI a) ≤ 0 := by decide +kernel
def Tl (Mx0 Mm0 : Mi) (X Y : Option (Int32 × Mi)) : Prop := ∃ r Mx Mm M3, X = some (r, Mx) ∧ Y = some (r, Mm) ∧ FX Mx0 Mx ∧ FM Mm0 M3 ∧ ((r ≤ 0 ∧ Mm = wM (cpy M3 0 2 0) 6 2 0) ∨ (¬ r ≤ 0 ∧ Mm = wM M3 6 2 0 ∧ Eqv (Mx 1) (M3 0)))
theorem tell_lp {b : Nat → Nat} {n : Nat} : ∀ (f i a : Nat) (Mx Mm : Mi), Sj b n Mx Mm a → Eqv (Mx 1) (Mm 0) → 1 ≤ i → 2 * i ≤ a + 2 → n - a < f → Tl Mx Mm (fX3_tellsTo_11 f Mx (nI i)) (Option.bind (fX5_item Mm) (fun a3 => fX5_island_24 f a3 (nI i))) := by
  intro f
  induction f with
  | zero => intro i a Mx Mm _ _ _ _ q; omega
  | succ f ih =>
    intro i a Mx Mm h hE hi h2 hf
    have hn := h.1.1
    have han := h.2.2.1.1
    obtain ⟨r, Mx1, Mm1, e1, e2, f1, f2, hr⟩ := it_item h hE
    rw [qX3_tellsTo_11, if_neg (show ¬ (120 : Int32) < nI i from fun z => by have := (nlt (a := 120) (by omega) (by omega)).mp z; omega), e1, bind_some', e2, bind_some', qX5_island_24]
    dsimp only
    have bad : ∀ (a' : Nat), a' ≤ n → Mx1 5 2 = nI a' → Mm1 6 3 = nI a' → Tl Mx Mm (some ((-1) - Mx1 5 2, Mx1)) (fX5_island_78 Mm1 (nI i)) := fun a' h1 h2 h3 => by
      rw [is_wr, h2, h3]
      exact ⟨_, _, _, _, rfl, rfl, f1, f2.tr (G6_w _ _ (by omega) (by omega)).x, Or.inl ⟨m1_le a' (by omega), rfl⟩⟩
    rcases hr with ⟨rfl, _, a', s1, s2, s3⟩ | ⟨rfl, a1, ha1, h1, hE1⟩
    · have n6 : ¬ Mm1 6 6 = 0 := by rw [s3]; exact n10
      unfold fX5_island_59
      rw [if_pos z00, if_neg n6, if_neg n6]
      exact bad a' s2.1 s1 s2.2.1
    · have ha1n := h1.2.2.1.1
      have hkb := kd_b (b := b) (n := n) (a := a1)
      unfold fX5_island_59
      have k51 : Mx1 5 1 = nI (kd b n a1) := h1.2.2.1.2.2.2.1
      have k63 : Mm1 6 3 = nI a1 := h1.2.2.2.1.2.1
      have k62 : Mm1 6 2 = nI n := h1.2.1.2.1
      have hby : fX5_byteAt Mm1 (Mm1 6 3) = some (if a1 < n then nI (b a1) else -1) := by rw [k63]; exact byteM h1.2.1 ha1n
      rw [if_neg n10, if_pos h1.2.2.2.2, if_pos h1.2.2.2.2, hby, bind_some']
      by_cases k0 : a1 < n
      · have hb := h1.2.1.2.2 a1 k0
        rw [if_neg (show ¬ Mx1 5 1 = 0 from fun z => kd_0.mp ((neq (b := 0) (by omega) (by omega)).mp (k51.symm.trans z)) k0), if_pos k0]
        by_cases k3 : b a1 = 59
        · rw [if_pos (show Mx1 5 1 = 3 by rw [k51, kd_3.mpr ⟨k0, k3⟩]; rfl), if_pos (show nI (b a1) = 59 by rw [k3]; rfl)]
          obtain ⟨Mx2, Mm2, q3, r3, q4, r4, h4⟩ := adv h1
          have t := tN_b (b := b) ha1n
          have t2 := t.2 k0
          have hE2 : Eqv (Mx2 1) (Mm2 0) := by rw [q4.1 1 (by omega), r4.1 0 (by omega)]; exact hE1
          rw [q3, bind_some', w_1 h1.2.2.2.2 r3, bind_some', ns1]
          obtain ⟨r, Mx', Mm', M3, y1, y2, y3, y4, y5⟩ := ih (i + 1) (tN b n a1) Mx2 Mm2 h4 hE2 (by omega) (by omega) (by omega)
          exact ⟨r, Mx', Mm', M3, y1, y2, (f1.tr q4.g.x).tr y3, (f2.tr r4.g.x).tr y4, y5⟩
        · rw [if_neg (show ¬ Mx1 5 1 = 3 from fun z => k3 (kd_3.mp ((neq (b := 3) (by omega) (by omega)).mp (k51.symm.trans z))).2), if_neg (show ¬ nI (b a1) = 59 from fun z => k3 ((neq (b := 59) (by omega) (by omega)).mp z)), if_neg (show ¬ Mm1 6 2 ≤ Mm1 6 3 from fun z => by rw [k62, k63, nle (by omega) (by omega)] at z; omega)]
          exact bad a1 ha1n h1.2.2.1.2.1 h1.2.2.2.1.2.1
      · rw [if_pos (show Mx1 5 1 = 0 by rw [k51, kd_0.mpr k0]; rfl), if_neg k0, if_neg (show ¬ (-1 : Int32) = 59 by decide), if_pos (show Mm1 6 2 ≤ Mm1 6 3 by rw [k62, k63, nle (by omega) (by omega)]; omega), is_ok h1.2.2.2.2]
        refine ⟨_, _, _, _, rfl, rfl, f1, f2, Or.inr ⟨?_, rfl, hE1⟩⟩
        intro z
        have := (nle (b := 0) (by omega) (by omega)).mp z
        omega
theorem FX.ke {M M' : Mi} (h : FX M M') : keX M M' := ⟨fun r _ h1 _ _ h5 => h.1 r h1 h5, h.2⟩
theorem FM.ke {M M' : Mi} (h : FM M M') : keM M M' := ⟨fun r h0 _ _ h6 => h.1 r h0 h6, h.2⟩
theorem Rel.wp {Mx : Mi} {Nx : Ml} {Mm : Mi} {Nm : Ml} (h : Rel Mx Nx Mm Nm) : Rel (wM Mx 5 0 0) Nx (wM Mm 6 2 0) Nm := by
  obtain ⟨c, d, e1, e2, _, R⟩ := sim_wipe Mx Nx Mm Nm h
  cases e1
  cases e2
  exact R
theorem wM_sR_ne (M : Mi) {r q : Nat} (h : r ≠ q) (σ : Nat → Int32) (k : Nat) (v : Int32) : wM (sR M q σ) r k v = sR (wM M r k v) q σ := by
  funext g
  by_cases e : g = q
  · subst e; rw [sR_same, wM_ne _ _ _ (Ne.symm h), sR_same]
  · rw [sR_ne _ _ e]
    by_cases e2 : g = r
    · subst e2; rw [wM_at, wM_at, sR_ne _ _ e]
    · rw [wM_ne _ _ _ e2, wM_ne _ _ _ e2, sR_ne _ _ e]
theorem sim_island : SimT_island Rel := by
  intro Mx Nx Mm Nm h
  show Eq2 Nx Nm _ _
  obtain ⟨σ, ea, ha⟩ := becX h.1.1 (Mx 1)
  obtain ⟨t1, n, hn, t2, t3⟩ := h.2.2.2.1
  have hb : ∀ k, k < n → Mm 5 k = nI (ix (Mm 5 k)) ∧ ix (Mm 5 k) < 256 := fun k hk => by
    obtain ⟨c, hc, ec⟩ := (t3 k hk).2
    rw [ec, ixn (by omega)]; exact ⟨rfl, hc⟩
  have x5 : (wM (sR Mx 1 σ) 5 3 0) 5 = upd (Mx 5) 3 0 := by rw [wM_at, sR_ne _ _ (by omega)]
  have hTx : Tx (fun k => ix (Mm 5 k)) n (wM (sR Mx 1 σ) 5 3 0) := by
    refine ⟨hn, ?_, fun k hk => ⟨?_, (hb k hk).2⟩⟩
    · rw [x5, upd_ne (by omega)]; exact t2
    · rw [x5, upd_ne (by omega), (t3 k hk).1]; exact (hb k hk).1
  have m5 : (wM (wM (cpy Mm 2 0 0) 6 6 0) 6 4 0) 5 = Mm 5 := by rw [wM_ne _ _ _ (by omega), wM_ne _ _ _ (by omega), cpy_ne _ (by omega)]
  have m6 : (wM (wM (cpy Mm 2 0 0) 6 6 0) 6 4 0) 6 = upd (upd (Mm 6) 6 0) 4 0 := by rw [wM_at, wM_at, cpy_ne _ (by omega)]
  have hTm : Tm (fun k => ix (Mm 5 k)) n (wM (wM (cpy Mm 2 0 0) 6 6 0) 6 4 0) := by
    refine ⟨hn, ?_, fun k hk => ⟨?_, (hb k hk).2⟩⟩
    · rw [m6, upd_ne (by omega), upd_ne (by omega), ← t1]; exact t2
    · rw [m5]; exact (hb k hk).1
  obtain ⟨Mx1, q1, q2, q3⟩ := nxX hTx (k := 0) (by omega) (by rw [x5, pk_us]; rfl)
  obtain ⟨Mm1, r1, r2, r3⟩ := tkM hTm (k := 0) (by omega) (by rw [m6, pk_us]; rfl)
  have h66 : Mm1 6 6 = 0 := by rw [r2.2 6 (by omega) (by omega), m6, upd_ne (by omega), pk_us]
  have hS : Sj (fun k => ix (Mm 5 k)) n Mx1 Mm1 (tA (fun k => ix (Mm 5 k)) n 0) := ⟨hTx.f q2, hTm.f r2, q3, r3, h66⟩
  have hE : Eqv (Mx1 1) (Mm1 0) := by
    rw [q2.1 1 (by omega), wM_ne _ _ _ (by omega), sR_same, r2.1 0 (by omega), wM_ne _ _ _ (by omega), wM_ne _ _ _ (by omega), cpy_ne _ (by omega)]
    exact eqv_of h.1 ha
  have fx : FX Mx Mx1 := ((FX_s Mx σ).tr (G5_w _ (k := 3) 0 (by omega) (by omega)).x).tr q2.g.x
  have km : keM Mm Mm1 := ((keM_s Mm (r := 2) _ (by omega)).tr ((G6_w (cpy Mm 2 0 0) (k := 6) 0 (by omega) (by omega)).tr (G6_w _ (k := 4) 0 (by omega) (by omega))).x.ke).tr r2.g.x.ke
  have hM2 : Mm1 2 = cpy Mm 2 0 0 2 := by rw [r2.1 2 (by omega), wM_ne _ _ _ (by omega), wM_ne _ _ _ (by omega)]
  obtain ⟨r, Mx', Mm', M3, y1, y2, y3, y4, y5⟩ := tell_lp fu 1 _ Mx1 Mm1 hS hE (by omega) (by omega) (by show _ < 200; omega)
  have y1' : fX3_tellsTo_11 fu Mx1 1 = some (r, Mx') := y1
  have y2' : Option.bind (fX5_item Mm1) (fun a3 => fX5_island_24 fu a3 1) = some (r, Mm') := y2
  unfold fX4_island fX5_island fX3_tellsTo
  rw [ea, bind_some', savM, bind_some', q1, bind_some', r1, bind_some', y2', y1', bind_some']
  dsimp only
  have fx2 := fx.tr y3
  have km2 := km.tr y4.ke
  rcases y5 with ⟨c1, rfl⟩ | ⟨c1, rfl, hE3⟩
  · rw [if_pos c1]
    refine ⟨_, _, rfl, rfl, rfl, Rel.wp (h.ke fx2.ke (km2.tr (keM_s _ _ (by omega))) ?_)⟩
    rw [fx2.1 0 (by omega) (by omega)]
    refine eqv_of2 h.1 (fun k hk => ?_)
    rw [cpy_at _ _ _ hk, y4.1 2 (by omega) (by omega), hM2, cpy_at _ _ _ hk]
  · obtain ⟨ρ, e4, h4⟩ := becX (ρ := (wM Mx' 5 0 0) 1) (by rw [wM_ne _ _ _ (by omega)]; exact hE3.1) ((wM Mx' 5 0 0) 0)
    rw [if_neg c1, e4, bind_some']
    refine ⟨_, _, rfl, rfl, rfl, ?_⟩
    rw [wM_ne _ _ _ (show 1 ≠ 5 by omega)] at h4
    have R : Rel (sR Mx' 0 ρ) Nx M3 Nm := h.ke (fx2.ke.tr (keX_s _ _ (by omega))) km2 (by rw [sR_same]; exact eqv_of hE3 h4)
    have R2 := R.wp
    rw [wM_sR_ne _ (show 5 ≠ 0 by omega)] at R2
    exact R2
