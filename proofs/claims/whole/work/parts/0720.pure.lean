/-! book -/
theorem Rel.nn {Mx : Mi} {Nx : Ml} {Mm : Mi} {Nm : Ml} (h : Rel Mx Nx Mm Nm) {N N2 : Ml} (hN : ∀ u, u < 4 → ∀ k, k < 40 → N (20 + u) k = N2 9 (40 * u + k)) : Rel Mx N Mm N2 := h.sh (fun _ _ => rfl) (fun _ _ _ => rfl) (fun u hu => by
  have hU := h.2.2.2.2 u hu
  exact ⟨hU.1, hU.2.1, hU.2.2.1, hU.2.2.2.1, hN u hu⟩)
theorem book_lp {Mx : Mi} {Nx : Ml} {Mm : Mi} {Nm : Ml} (h : Rel Mx Nx Mm Nm) {s t : Nat} (hs : s < 4) : ∀ (n i : Nat) (M M2 : Mi) (N N2 : Ml), keX Mx M → M 0 = Mx 0 → Asd Mm M2 → Wf (M2 0) → t < sz (M2 0) → EqT (M 1) (M2 0) t → (∀ u, u < 4 → ∀ k, k < 40 → N (20 + u) k = N2 9 (40 * u + k)) → i ≤ 40 → 40 - i < n → Eq3 (fX4_book_51 n M N (nI t) (20 + s) (nI i)) (fX5_book_24 n M2 N2 (nI s) (nI t) (nI i)) := by
  intro n
  induction n with
  | zero => intro i M M2 N N2 _ _ _ _ _ _ _ _ h; omega
  | succ n ih =>
    intro i M M2 N N2 hx h0 ha hw ht hT hN hi hn
    have hz := hw.le
    have hS := h.2.2.2.2 s hs
    obtain ⟨len, hl, el⟩ := hS.2.2.2.1
    have xl : M (20 + s) 1 = nI len := by rw [hx.1 (20 + s) (by omega) (by omega) (by omega) (by omega) (by omega)]; exact hS.2.2.1.trans el
    have ml : M2 8 s = nI len := by rw [ha.1.1 8 (by omega) (by omega) (by omega) (by omega)]; exact el
    rw [qX4_book_51, qX5_book_24, if_pos (inbn hs (by omega)), ixn (show s < 2 ^ 31 by omega), xl, ml]
    by_cases c1 : len ≤ i
    · have d : nI len ≤ nI i := (nle (by omega) (by omega)).mpr c1
      rw [if_pos d, if_pos d, takM]
      exact ⟨_, _, rfl, rfl, rfl, (h.bk hx h0 ha).nn hN⟩
    have d : ¬ nI len ≤ nI i := by rw [nle (by omega) (by omega)]; exact c1
    rw [if_neg d, if_neg d, if_pos (inbn (show t < 8 by omega) (by omega)), if_pos (inbn (show i < 40 by omega) (by omega)), ixn (show t < 2 ^ 31 by omega), ixn (show i < 2 ^ 31 by omega), its1 (by omega), bind_some', m40, if_pos (inbn (show 40 * s + i < 160 by omega) (by omega)), ixn (show 40 * s + i < 2 ^ 31 by omega)]
    obtain ⟨B, eB, hB, hsB, b0, bk, bc⟩ := hourM hw
    rw [eB, aloneX (by omega), bind_some', bind_some', ns1]
    refine ih (i + 1) _ _ _ _ (hx.tr (keX_s _ _ (by omega))) (by rw [sR_ne _ _ (by omega)]; exact h0) (ha.s B) (by rw [sR_same]; exact hB) (by rw [sR_same]; omega) (by rw [sR_same, sR_same]; exact hT.next b0 bk (bc t ht)) (fun u hu k hk => ?_) (by omega) (by omega)
    rw [wN_at]
    by_cases e : u = s
    · subst e
      rw [wN_at]
      by_cases e3 : k = i
      · rw [if_pos e3, if_pos (by omega), hT.2.2.2.1]
      · rw [if_neg e3, if_neg (by omega)]; exact hN u hu k hk
    · rw [wN_ne _ _ _ (by omega), if_neg (by omega)]; exact hN u hu k hk
theorem sim_book : SimT_book Rel := by
  intro Mx Nx Mm Nm h x1 x2
  show Eq3 _ _
  have hz := h.1.1.le
  have hzt := sz_e h.1
  unfold fX4_book fX5_book fX5_wrongBook
  rcases sh_c h x1 with ⟨i, hi, e1, e2⟩ | ⟨s, hs, rfl, e1, e2⟩
  · have hi7 : i < 7 := by omega
    rw [e1, e2, bind_some', bind_some', if_neg (code_ne i hi7), if_neg (code_ne i hi7), bind_some', if_neg (code_ne i hi7), fndM Mm hi7]
    exact ⟨_, _, rfl, rfl, rfl, h.fnd hi7⟩
  · rw [e1, e2, bind_some', bind_some', if_pos z00]
    dsimp only
    rw [if_pos z00, if_pos (inbn hs (by omega))]
    rcases has_c h.1 x2 with ⟨q1, q2, _⟩ | ⟨t, ht, rfl, q1, q2⟩
    · rw [if_pos q1, if_pos q2, bind_some', if_neg (show ¬ (-1000000001 : Int32) = 0 by decide)]
      exact h.g0
    · rw [if_neg (show ¬ fX0_has (Mx 0) (nI t) = 0 by rw [q1]; exact n10), if_neg (show ¬ fX5_isOne (Mm 0) (nI t) = 0 by rw [q2]; exact n10), bind_some', if_pos z00, asdM, bind_some']
      obtain ⟨a, ea, ha⟩ := becX h.1.1 (Mx 1)
      have sa : sz a = sz (Mx 0) := by show ix (a 1) = ix (Mx 0 1); rw [ha 1 (by omega)]
      rw [ea, bind_some', ixn (show s < 2 ^ 31 by omega)]
      exact book_lp h hs fu 0 _ _ Nx Nm (keX_s _ _ (by omega)) (sR_ne _ _ (by omega)) (Asd.lay Mm) (by rw [cpy_ne _ (by omega)]; exact h.1.wf2) (by rw [cpy_ne _ (by omega)]; omega) (by rw [sR_same, cpy_ne _ (by omega)]; exact (eqv_of h.1 ha).one (by omega)) (fun u hu => (h.2.2.2.2 u hu).2.2.2.2) (by omega) (by decide)
