/-! the best of many readings -/
def hv (j : Nat) : Int32 := if j < 49 then nI j else -1
theorem sooner_c {j b : Nat} (hj : j ≤ 49) (hb : b ≤ 49) : fX5_isSooner (hv j) (hv b) = if j < b then 1 else 0 := by
  have : ∀ j, j < 50 → ∀ b, b < 50 → fX5_isSooner (hv j) (hv b) = if j < b then 1 else 0 := by decide +kernel
  exact this j (by omega) b (by omega)
theorem spring_lp {Mx : Mi} {Nx : Ml} {Mm : Mi} {Nm : Ml} (h : Rel Mx Nx Mm Nm) {c s : Nat} (hc : c < 30) (hs : s < 12) : ∀ (n i : Nat) (M M2 : Mi) (b : Nat) (v : Int32), keX Mx M → M 0 = Mx 0 → keM Mm M2 → (∀ k, k < 39 → k ≠ 3 → M2 0 k = Mm 0 k) → b ≤ 49 → Bst v 30 → i ≤ 30 → 30 - i < n → Eq2 Nx Nm (Option.bind (fX4_bestSpring_9 n M (nI c) (nI s) (nI b) v (nI i)) (fun a4 => if a4.1 = (-1) then Option.bind (fX4_finding a4.2 3) (fun a6 => some (a6.1, a6.2)) else some (a4.1, a4.2))) (fX5_spring_34 n M2 (nI c) (nI s) (Mx 0 3) (hv b) v (nI i)) := by
  intro n
  induction n with
  | zero => intro i M M2 b v _ _ _ _ _ _ _ hn; omega
  | succ n ih =>
    intro i M M2 b v hx h0 hm hk hb hv' hi hn
    rw [qX4_bestSpring_9, qX5_spring_34]
    by_cases e : 30 ≤ i
    · have c1 : (30 : Int32) ≤ nI i := (nle (a := 30) (by omega) (by omega)).mpr e
      rw [if_pos c1, if_pos c1, bind_some']
      have R : Rel M Nx (wM M2 0 3 (Mx 0 3)) Nm := by
        refine h.ke hx (hm.tr (keM_w _ _ _ (by omega))) ?_
        rw [h0, wM_at]
        refine eqv_of2 h.1 (fun k hk' => ?_)
        by_cases e2 : k = 3
        · subst e2; rw [pk_us]; exact (h.e (by omega)).symm
        · rw [upd_ne e2]; exact hk k hk' e2
      obtain ⟨p, q', e1, e2, e3, e4⟩ := best_end R (N := 30) hv' (by omega) (by omega)
      rw [show (30 : Int32) = nI 30 from rfl, e2, bind_some']
      exact ⟨_, _, e1, rfl, e3, e4⟩
    · have c1 : ¬ (30 : Int32) ≤ nI i := fun q => e ((nle (a := 30) (by omega) (by omega)).mp q)
      have hfe : fX5_isFenced (M2 0) (nI i) = fX0_isFenced (M 0) (nI i) := by
        rw [h0, ← fen_c h.1]; unfold fX5_isFenced; rw [hk 2 (by omega) (by omega)]
      rw [if_neg c1, if_neg c1, hfe]
      by_cases ef : fX0_isFenced (M 0) (nI i) = 0
      · rw [if_pos ef, if_pos ef]
        have h0w : Wf (M 0) := by rw [h0]; exact h.1.1
        obtain ⟨M1, r1, r2, r3, r4, r5, r6⟩ := gfrom h0w (nI c)
        have hE : Eqv (wM M1 3 3 (nI i) 3) (wM M2 0 3 (nI i) 0) := by
          rw [wM_at, wM_at]
          have hA : Eqv (M1 3) (Mm 0) := eqv_of h.1 (fun k hk' => by rw [← h0] at hk' ⊢; exact r4 k hk')
          refine eqv_of2 (eqv_upd hA (k := 3) (v := nI i) (by omega) (vl_sp (by omega) ⟨i, by omega, rfl⟩)) (fun k hk' => ?_)
          by_cases e2 : k = 3
          · subst e2; rw [pk_us, pk_us]
          · rw [upd_ne e2, upd_ne e2]; exact hk k hk' e2
        obtain ⟨j, M', q1, q2, q3, q4⟩ := soonM (M := wM M2 0 3 (nI i)) hE.wf2 hc hs
        obtain ⟨M3, s1, s2, s3, s4⟩ := q4 (wM M1 3 3 (nI i)) b hE (by rw [wM_ne _ _ _ (by omega)]; exact r5) (by rw [wM_ne _ _ _ (by omega)]; exact r6) hb
        rw [r1, bind_some', s1, bind_some', q3, bind_some']
        dsimp only
        unfold fX5_spring_83
        rw [ns1]
        rw [show (if j < 49 then nI j else (-1 : Int32)) = hv j from rfl, sooner_c q1 hb]
        have hx2 : keX Mx M3 := ((hx.tr r2).tr (keX_w _ _ _ (by omega))).tr s2
        have h02 : M3 0 = Mx 0 := by rw [s3, wM_ne _ _ _ (by omega), r3, h0]
        have hm2 : keM Mm (cpy M' 0 3 0) := hm.tr ((keM_w _ _ _ (by omega)).tr q2.back.1)
        have hk2 : ∀ k, k < 39 → k ≠ 3 → cpy M' 0 3 0 0 k = Mm 0 k := fun k hk' e2 => by
          rw [q2.back.2 k hk', wM_at, upd_ne e2]; exact hk k hk' e2
        by_cases ej : j < b
        · rw [if_pos ej, if_neg (jm1 (by omega)), if_pos ej, if_neg n10, if_neg n10]
          exact ih (i + 1) _ _ j _ hx2 h02 hm2 hk2 (by omega) (Or.inr ⟨i, by omega, rfl⟩) (by omega) (by omega)
        · rw [if_neg ej, if_pos rfl, if_neg ej, if_pos z00, if_pos z00]
          exact ih (i + 1) _ _ b _ hx2 h02 hm2 hk2 hb hv' (by omega) (by omega)
      · rw [if_neg ef, if_neg ef, ns1]
        exact ih (i + 1) _ _ b _ hx h0 hm hk hb hv' (by omega) (by omega)
theorem sim_spring : SimT_spring Rel := by
  intro Mx Nx Mm Nm h x1 x2
  show Eq2 Nx Nm _ _
  unfold fX4_spring fX5_spring
  refine rd_c h x1 x2 (G := fun M => Option.bind (fX4_bestSpring M x1 x2) (fun a3 => if a3.1 = (-1) then Option.bind (fX4_finding a3.2 3) (fun a5 => some (a5.1, a5.2)) else some (a3.1, a3.2))) (fun c s hc hs ec es => ?_)
  subst ec es
  rw [h.e (k := 3) (by omega)]
  exact spring_lp h hc hs fu 0 Mx Mm 49 (-1) (keX.rfl' _) rfl (keM.rfl' _) (fun _ _ _ => rfl) (by omega) (Or.inl rfl) (by omega) (by decide)
theorem tips_lp {Mx : Mi} {Nx : Ml} {Mm : Mi} {Nm : Ml} (h : Rel Mx Nx Mm Nm) {c s : Nat} (hc : c < 30) (hs : s < 12) : ∀ (n i : Nat) (M M2 : Mi) (b : Nat) (v : Int32), keX Mx M → M 0 = Mx 0 → keM Mm M2 → (∀ k, k < 39 → M2 0 k = Mm 0 k) → b ≤ 49 → Bst v 8 → i ≤ sz (Mx 0) → sz (Mx 0) - i < n → Eq2 Nx Nm (Option.bind (fX4_bestTipped_37 n M (nI c) (nI s) (nI b) v (nI i)) (fun a4 => if a4.1 = (-1) then Option.bind (fX4_finding a4.2 3) (fun a6 => some (a6.1, a6.2)) else some (a4.1, a4.2))) (fX5_tips_31 n M2 (nI c) (nI s) (hv b) v (nI i)) := by
  intro n
  have hz := h.1.1.le
  have hz1 := h.1.1.z
  induction n with
  | zero => intro i M M2 b v _ _ _ _ _ _ _ hn; omega
  | succ n ih =>
    intro i M M2 b v hx h0 hm hk hb hv' hi hn
    have e1m : M2 0 1 = nI (sz (Mx 0)) := (hk 1 (by omega)).trans ((h.e (by omega)).trans hz1)
    have e1x : M 0 1 = nI (sz (Mx 0)) := by rw [h0]; exact hz1
    rw [qX4_bestTipped_37, qX5_tips_31, e1m, e1x]
    by_cases e : sz (Mx 0) ≤ i
    · have c1 : nI (sz (Mx 0)) ≤ nI i := (nle (by omega) (by omega)).mpr e
      rw [if_pos c1, if_pos c1, bind_some']
      have R : Rel M Nx M2 Nm := h.ke hx hm (by rw [h0]; exact eqv_of2 h.1 hk)
      obtain ⟨p, q', e1, e2, e3, e4⟩ := best_end R (N := 8) hv' (by omega) (by omega)
      rw [show (8 : Int32) = nI 8 from rfl, e2, bind_some']
      exact ⟨_, _, e1, rfl, e3, e4⟩
    · have c1 : ¬ nI (sz (Mx 0)) ≤ nI i := by rw [nle (by omega) (by omega)]; exact e
      have et : M2 0 (10 + 4 * i) = M 0 (10 + 4 * i) := by rw [h0, hk _ (by omega)]; exact h.e (by omega)
      rw [if_neg c1, if_neg c1, if_pos (inbn (show i < 8 by omega) (by omega)), ixn (show i < 2 ^ 31 by omega), its3 (by omega), bind_some', et]
      by_cases ef : M 0 (10 + 4 * i) = 0
      · rw [if_pos ef, if_pos ef, spot3, if_pos (inbn (show 10 + 4 * i < 39 by omega) (by omega)), ixn (show 10 + 4 * i < 2 ^ 31 by omega)]
        have h0w : Wf (M 0) := by rw [h0]; exact h.1.1
        obtain ⟨M1, r1, r2, r3, r4, r5, r6⟩ := gfrom h0w (nI c)
        have hE : Eqv (wM M1 3 (10 + 4 * i) (zn 1) 3) (wM M2 0 (10 + 4 * i) 1 0) := by
          rw [wM_at, wM_at, show zn 1 = 1 from rfl]
          have hA : Eqv (M1 3) (Mm 0) := eqv_of h.1 (fun k hk' => by rw [← h0] at hk' ⊢; exact r4 k hk')
          refine eqv_of2 (eqv_upd hA (k := 10 + 4 * i) (v := 1) (by omega) (vl_10 (Or.inr rfl))) (fun k hk' => ?_)
          by_cases e2 : k = 10 + 4 * i
          · subst e2; rw [pk_us, pk_us]
          · rw [upd_ne e2, upd_ne e2]; exact hk k hk'
        obtain ⟨j, M', q1, q2, q3, q4⟩ := soonM (M := wM M2 0 (10 + 4 * i) 1) hE.wf2 hc hs
        obtain ⟨M3, s1, s2, s3, s4⟩ := q4 (wM M1 3 (10 + 4 * i) (zn 1)) b hE (by rw [wM_ne _ _ _ (by omega)]; exact r5) (by rw [wM_ne _ _ _ (by omega)]; exact r6) hb
        rw [r1, bind_some', s1, bind_some', q3, bind_some']
        dsimp only
        unfold fX5_tips_101
        rw [ns1]
        rw [show (if j < 49 then nI j else (-1 : Int32)) = hv j from rfl, sooner_c q1 hb]
        have hx2 : keX Mx M3 := ((hx.tr r2).tr (keX_w _ _ _ (by omega))).tr s2
        have h02 : M3 0 = Mx 0 := by rw [s3, wM_ne _ _ _ (by omega), r3, h0]
        have hm2 : keM Mm (wM (cpy M' 0 3 0) 0 (10 + 4 * i) 0) := (hm.tr ((keM_w _ _ _ (by omega)).tr q2.back.1)).tr (keM_w _ _ _ (by omega))
        have hk2 : ∀ k, k < 39 → wM (cpy M' 0 3 0) 0 (10 + 4 * i) 0 0 k = Mm 0 k := fun k hk' => by
          rw [wM_at]
          by_cases e2 : k = 10 + 4 * i
          · subst e2; rw [pk_us, ← hk _ hk', et, ef]
          · rw [upd_ne e2, q2.back.2 k hk', wM_at, upd_ne e2]; exact hk k hk'
        by_cases ej : j < b
        · rw [if_pos ej, if_neg (jm1 (by omega)), if_pos ej, if_neg n10, if_neg n10]
          exact ih (i + 1) _ _ j _ hx2 h02 hm2 hk2 (by omega) (Or.inr ⟨i, by omega, rfl⟩) (by omega) (by omega)
        · rw [if_neg ej, if_pos rfl, if_neg ej, if_pos z00, if_pos z00]
          exact ih (i + 1) _ _ b _ hx2 h02 hm2 hk2 hb hv' (by omega) (by omega)
      · rw [if_neg ef, if_neg ef, ns1]
        exact ih (i + 1) _ _ b _ hx h0 hm hk hb hv' (by omega) (by omega)
theorem sim_tips : SimT_tips Rel := by
  intro Mx Nx Mm Nm h x1 x2
  show Eq2 Nx Nm _ _
  unfold fX4_tips fX5_tips
  refine rd_c h x1 x2 (G := fun M => Option.bind (fX4_bestTipped M x1 x2) (fun a3 => if a3.1 = (-1) then Option.bind (fX4_finding a3.2 3) (fun a5 => some (a5.1, a5.2)) else some (a3.1, a3.2))) (fun c s hc hs ec es => ?_)
  subst ec es
  have hz := h.1.1.le
  obtain ⟨j, M', q1, q2, q3, q4⟩ := soonM (M := Mm) h.1.wf2 hc hs
  obtain ⟨M1, r1, r2, r3, r4, r5, r6⟩ := gfrom h.1.1 (nI c)
  obtain ⟨M2, s1, s2, s3, s4⟩ := q4 M1 49 (eqv_of h.1 r4) r5 r6 (by omega)
  have s1' : fX1_seek M1 (nI s) 48 = some (if j < 49 then nI j else -1, M2) := s1
  show Eq2 Nx Nm (Option.bind (fX4_bestTipped Mx (nI c) (nI s)) _) _
  unfold fX4_bestTipped
  rw [r1, bind_some', s1', bind_some', q3, bind_some']
  dsimp only
  have key := fun b hb => tips_lp h hc hs fu 0 M2 (cpy M' 0 3 0) b (-1) (r2.tr s2) (s3.trans r3) q2.back.1 q2.back.2 hb (Or.inl rfl) (by omega) (by show _ < 200; omega)
  by_cases e : j < 49
  · have k := key j (by omega)
    unfold hv at k
    rw [if_pos e] at k ⊢
    rw [if_neg (jm1 (by omega))]
    exact k
  · have k := key 49 (by omega)
    unfold hv at k
    rw [if_neg (by omega)] at k
    rw [if_neg e, if_pos rfl]
    exact k
