def St (Mx Mm M M2 : Mi) : Prop := keX Mx M ∧ M 0 = Mx 0 ∧ Asd Mm M2 ∧ ∀ k, k < 39 → M2 0 k = Mm 0 k
theorem r45_lp {Mx : Mi} {Nx : Ml} {Mm : Mi} {Nm : Ml} (h : Rel Mx Nx Mm Nm) {s t q : Nat} (hs : s < 4) (ht : t < sz (Mx 0)) (hq : q < 6) {r r' : Mi → Int32 → Int32 → Int32 → Int32 → Option (Int32 × Mi)} (hr : ∀ M M2 c, St Mx Mm M M2 → Eq2 Nx Nm (r M (nI s) (nI t) c (nI q)) (r' M2 (nI s) (nI t) c (nI q))) : ∀ (n i : Nat) (M M2 : Mi) (c : Int32), St Mx Mm M M2 → i ≤ 30 → 30 - i < n → Eq2 Nx Nm (fX4_read_45 Nx r n M (nI s) (nI t) c (nI q) (nI i)) (fX5_read_36 Nm r' n M2 (nI s) (nI t) c (nI q) (nI i)) := by
  intro n
  have hz := h.1.1.le
  induction n with
  | zero => intro i M M2 c _ _ h; omega
  | succ n ih =>
    intro i M M2 c hS hi hn
    obtain ⟨hx, h0, ha, hk⟩ := hS
    rw [qX4_read_45, qX5_read_36]
    by_cases e : 30 ≤ i
    · have d : (30 : Int32) ≤ nI i := (nle (a := 30) (by omega) (by omega)).mpr e
      rw [if_pos d, if_pos d]
      exact hr M M2 c ⟨hx, h0, ha, hk⟩
    have d : ¬ (30 : Int32) ≤ nI i := fun z => e ((nle (a := 30) (by omega) (by omega)).mp z)
    rw [if_neg d, if_neg d]
    have h0w : Wf (M 0) := by rw [h0]; exact h.1.1
    obtain ⟨a, ea, ha'⟩ := becX h0w (M 1)
    rw [h0] at ha'
    have hSh := h.2.2.2.2 s hs
    obtain ⟨len, hl, el⟩ := hSh.2.2.2.1
    have xl : M (20 + s) 1 = nI len := by rw [hx.1 (20 + s) (by omega) (by omega) (by omega) (by omega) (by omega)]; exact hSh.2.2.1.trans el
    rw [ea, bind_some', if_pos (inbn (show t < 8 by omega) (by omega)), if_pos (inbn hs (by omega)), ixn (show t < 2 ^ 31 by omega), ixn (show s < 2 ^ 31 by omega), spot0, if_pos (inbn (show 7 + 4 * t < 39 by omega) (by omega)), ixn (show 7 + 4 * t < 2 ^ 31 by omega), wM_sR, wM_sR, sR_same, sR_ne _ _ (show 20 + s ≠ 1 by omega), xl]
    have hA : Eqv a (Mm 0) := eqv_of h.1 ha'
    have sa : sz a = sz (Mx 0) := by show ix (a 1) = ix (Mx 0 1); rw [ha' 1 (by omega)]
    have hA2 := eqv_upd (eqv_upd hA (k := 7 + 4 * t) (v := nI q) (by omega) (vl_7 ⟨q, hq, rfl⟩)) (k := 3) (v := nI i) (by omega) (vl_sp (by omega) ⟨i, by omega, rfl⟩)
    have hE : Eqv (upd (upd a (7 + 4 * t) (nI q)) 3 (nI i)) (wM (wM M2 0 (7 + 4 * t) (nI q)) 0 3 (nI i) 0) := by
      rw [wM_at, wM_at]
      refine eqv_of2 hA2 (fun k hk' => ?_)
      by_cases e2 : k = 3
      · subst e2; rw [pk_us, pk_us]
      · rw [upd_ne e2, upd_ne e2]
        by_cases e3 : k = 7 + 4 * t
        · subst e3; rw [pk_us, pk_us]
        · rw [upd_ne e3, upd_ne e3]; exact hk k hk'
    have sE := sz_e hE
    have s2 : sz (upd (upd a (7 + 4 * t) (nI q)) 3 (nI i)) = sz a := (sz_upd (by omega)).trans (sz_upd (by omega))
    obtain ⟨v, M', σ', p1, p2, p3, p4⟩ := so_lp (M0 := Mm) (N := Nx) (N2 := Nm) (s := s) (t := t) hs hl el hSh.2.2.2.2 fu 0 (wM (wM M2 0 (7 + 4 * t) (nI q)) 0 3 (nI i)) _ ((ha.s _).s _) hE.wf2 (by omega) (hE.one (by omega)) (by omega) (by decide)
    have p1' : fX5_isSo Nm (wM (wM M2 0 (7 + 4 * t) (nI q)) 0 3 (nI i)) (nI s) (nI t) = some (v, M') := p1
    have p3' : fX0_goesAsIn (nI len) (Nx (20 + s)) (upd (upd a (7 + 4 * t) (nI q)) 3 (nI i)) (nI t) = some (v, σ') := p3
    rw [p1', p3', bind_some', bind_some', takM, bind_some', sR_sR, ns1]
    have ev : (if v = 0 then 0 else 1 : Int32) = v := by rcases p4 with rfl | rfl <;> rfl
    dsimp only
    rw [ev]
    exact ih (i + 1) _ _ _ ⟨hx.tr (keX_s _ _ (by omega)), by rw [sR_ne _ _ (by omega)]; exact h0, p2.bk, p2.back.2⟩ (by omega) (by omega)
theorem r35_lp {Mx : Mi} {Nx : Ml} {Mm : Mi} {Nm : Ml} (h : Rel Mx Nx Mm Nm) {s t : Nat} (hs : s < 4) (ht : t < sz (Mx 0)) : ∀ (n q : Nat) (M M2 : Mi) (c : Int32), St Mx Mm M M2 → q ≤ 6 → 6 - q < n → Eq2 Nx Nm (fX4_read_35 Nx n M (nI s) (nI t) c (nI q)) (fX5_read_27 Nm n M2 (nI s) (nI t) c (nI q)) := by
  intro n
  induction n with
  | zero => intro q M M2 c _ _ h; omega
  | succ n ih =>
    intro q M M2 c hS hq hn
    rw [qX4_read_35, qX5_read_27]
    by_cases e : 6 ≤ q
    · rw [if_pos (show (6 : Int32) ≤ nI q from (nle (a := 6) (by omega) (by omega)).mpr e), if_pos (show (5 : Int32) < nI q from (nlt (a := 5) (by omega) (by omega)).mpr (by omega))]
      have R : Rel M Nx M2 Nm := h.ke hS.1 hS.2.2.1.1 (by rw [hS.2.1]; exact eqv_of2 h.1 hS.2.2.2)
      exact R.ok _
    · rw [if_neg (show ¬ (6 : Int32) ≤ nI q from fun z => e ((nle (a := 6) (by omega) (by omega)).mp z)), if_neg (show ¬ (5 : Int32) < nI q from fun z => by have := (nlt (a := 5) (by omega) (by omega)).mp z; omega)]
      refine r45_lp h hs ht (by omega) (fun M' M2' c' hS' => ?_) fu 0 M M2 c hS (by omega) (by decide)
      unfold fX4_read_118 fX5_read_84
      rw [ns1]
      exact ih (q + 1) M' M2' c' hS' (by omega) (by omega)
theorem sim_read : SimT_read Rel := by
  intro Mx Nx Mm Nm h x1 x2
  show Eq2 Nx Nm _ _
  have hz := h.1.1.le
  unfold fX4_read fX5_read fX5_wrongBook
  rcases sh_c h x1 with ⟨i, hi, e1, e2⟩ | ⟨s, hs, rfl, e1, e2⟩
  · have hi7 : i < 7 := by omega
    rw [e1, e2, bind_some', bind_some', if_neg (code_ne i hi7), if_neg (code_ne i hi7), bind_some', if_neg (code_ne i hi7), fndM Mm hi7]
    exact ⟨_, _, rfl, rfl, rfl, h.fnd hi7⟩
  · rw [e1, e2, bind_some', bind_some', if_pos z00]
    dsimp only
    rw [if_pos z00]
    rcases has_c h.1 x2 with ⟨q1, q2, _⟩ | ⟨t, ht, rfl, q1, q2⟩
    · rw [if_pos q1, if_pos q2, bind_some', if_neg (show ¬ (-1000000001 : Int32) = 0 by decide)]
      exact h.f0
    · rw [if_neg (show ¬ fX0_has (Mx 0) (nI t) = 0 by rw [q1]; exact n10), if_neg (show ¬ fX5_isOne (Mm 0) (nI t) = 0 by rw [q2]; exact n10), bind_some', if_pos z00, asdM, bind_some']
      exact r35_lp h hs ht fu 0 Mx (cpy Mm 3 0 0) 0 ⟨keX.rfl' _, rfl, Asd.lay Mm, fun k hk => by rw [cpy_ne _ (by omega)]⟩ (by omega) (by decide)
