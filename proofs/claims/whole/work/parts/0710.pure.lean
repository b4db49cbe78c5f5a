/-! feed -/
theorem byt {x : Int32} {k : Nat} (hk : k < 4) : (ushr x (8 * nI k)) &&& 255 = (x >>> ((8 * nI k) &&& 31)) &&& 255 ∧ ∃ c, c < 256 ∧ (x >>> ((8 * nI k) &&& 31)) &&& 255 = nI c := by
  have e8 : (8 : Int32) * nI k = nI (8 * k) := by rw [show (8 : Int32) = nI 8 from rfl, pk_mul]
  rw [e8]
  constructor
  · refine b_ext (fun i hi => ?_)
    rw [b_and, b_and, b_255, b_sshr (8 * k) (by omega) x hi, show bt (ushr x (nI (8 * k))) i = bt x (8 * k + i) from b_ushr (8 * k) (by omega) x i]
    by_cases e : i < 8
    · rw [if_pos (by omega)]
    · rw [decide_eq_false e, Bool.and_false, Bool.and_false]
  · refine (set_c _ (k := 8) (by omega)).mp ((and_0 _ _).mpr (fun i hi => ?_))
    rw [b_and, b_xor, b_m1 i hi, show bt (nI (2 ^ 8 - 1)) i = decide (i < 8) from b_255 i, b_255]
    by_cases e : i < 8
    · rw [decide_eq_true e]; simp
    · rw [decide_eq_false e]; simp
theorem feed_lp {Nx Nm : Ml} {x : Int32} : ∀ (k n : Nat) (Mx Mm : Mi) (len : Nat), Rel Mx Nx Mm Nm → Mx 5 0 = nI len → len + k ≤ 120 → k ≤ 4 → k < n → ∃ M1 M2, fX3_takes_4 n Mx x (nI k + (-1)) = some M1 ∧ fX5_feed_41 n Mm x (nI k + (-1)) = some (M2 6 2, M2) ∧ Rel M1 Nx M2 Nm := by
  intro k
  induction k with
  | zero =>
    intro n Mx Mm len h hl _ _ hn
    obtain ⟨n', rfl⟩ : ∃ n', n = n' + 1 := ⟨n - 1, by omega⟩
    rw [qX3_takes_4, qX5_feed_41, if_pos (show nI 0 + (-1) < 0 by decide), if_pos (show nI 0 + (-1) < 0 by decide)]
    exact ⟨_, _, rfl, rfl, h⟩
  | succ k ih =>
    intro n Mx Mm len h hl hk hk4 hn
    obtain ⟨n', rfl⟩ : ∃ n', n = n' + 1 := ⟨n - 1, by omega⟩
    have ml : Mm 6 2 = nI len := h.2.2.2.1.1.symm.trans hl
    rw [m1_k, qX3_takes_4, qX5_feed_41, hl, ml, if_neg (nI_pos (by omega)), if_neg (nI_pos (by omega)), if_pos (inbn (show len < 120 by omega) (by omega)), if_pos (inbn (show len < 120 by omega) (by omega)), ixn (show len < 2 ^ 31 by omega), (byt (x := x) (k := k) (by omega)).1]
    obtain ⟨c, hc, ec⟩ := (byt (x := x) (k := k) (by omega)).2
    rw [ec, wM_at, upd_ne (show 0 ≠ 10 + len by omega), hl, ns1]
    refine ih n' _ _ (len + 1) ?_ (by rw [wM_at, pk_us]) (by omega) (by omega) (by omega)
    refine h.tp (fun r hr => ?_) (fun r h5 h6 => ?_) ?_ ⟨?_, len + 1, by omega, ?_, fun j hj => ?_⟩
    · rw [wM_ne _ _ _ hr, wM_ne _ _ _ hr]
    · rw [wM_ne _ _ _ h6, wM_ne _ _ _ h5]
    · rw [wM_at, upd_ne (by omega), wM_ne _ _ _ (by omega)]
    · rw [wM_at, pk_us, wM_at, pk_us]
    · rw [wM_at, pk_us]
    · rw [wM_at, upd_ne (by omega), wM_at, wM_ne _ _ _ (show 5 ≠ 6 by omega), wM_at]
      obtain ⟨m, hm, em, hb⟩ := h.2.2.2.1.2
      have eml : m = len := by rw [hl, neq (by omega) (by omega)] at em; exact em.symm
      by_cases e : j = len
      · subst e; rw [pk_us, pk_us]; exact ⟨rfl, c, hc, rfl⟩
      · rw [upd_ne (by omega), upd_ne e]; exact hb j (by omega)
theorem sim_feed : SimT_feed Rel := by
  intro Mx Nx Mm Nm h x1 x2
  show Eq2 Nx Nm _ _
  unfold fX4_feed fX5_feed
  have e0 : fX5_in (Int32.toInt64 x2) 1 4 = if x2 < 1 then 0 else if 4 < x2 then 0 else 1 := in_g x2 1 4
  rw [e0]
  by_cases c1 : x2 < 1
  · rw [if_pos c1, if_pos c1, if_pos z00]; exact h.f0
  rw [if_neg c1, if_neg c1]
  by_cases c2 : 4 < x2
  · rw [if_pos c2, if_pos z00, if_neg (fa_of_lt c2).2.1]; exact h.f0
  rw [if_neg c2, if_neg n10, if_pos (fa_of_nlt c2), ← h.2.2.2.1.1]
  obtain ⟨j, hj, rfl⟩ := nI_of (x := x2) (fun q => c1 (fa_trans q (by decide)))
  have hj2 : ¬ 4 < j := fun q => c2 ((nlt (a := 4) (by omega) hj).mpr q)
  obtain ⟨len, hl, el, _⟩ := h.2.2.2.1.2
  rw [el, nI_add]
  by_cases c3 : len + j ≤ 120
  · have d : nI (len + j) ≤ 120 := (nle (b := 120) (by omega) (by omega)).mpr c3
    rw [if_pos d, if_pos d]
    obtain ⟨M1, M2, q1, q2, R⟩ := feed_lp (x := x1) j fu Mx Mm len h el c3 (by omega) (by show _ < 200; omega)
    have es : nI j - 1 = nI j + (-1) := by rw [Int32.sub_eq_add_neg]
    unfold fX3_takes
    rw [es, q1, q2, bind_some']
    exact ⟨_, _, rfl, rfl, R.2.2.2.1.1, R⟩
  · have d : ¬ nI (len + j) ≤ 120 := fun q => c3 ((nle (b := 120) (by omega) (by omega)).mp q)
    rw [if_neg d, if_neg d]; exact h.f1
