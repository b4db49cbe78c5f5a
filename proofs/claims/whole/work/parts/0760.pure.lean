theorem neg_f {M : Mi} {g : Nat} {x y : Int32} (h : x < 0 ∨ y < 0) : fX2_hasFrom M g x y = 0 := by
  unfold fX2_hasFrom
  by_cases e : x < 0
  · rw [if_pos e]
  · rw [if_neg e, if_pos (h.resolve_left e)]
theorem sim_copy : SimT_copy Rel := by
  intro Mx Nx Mm Nm h x1 x2 x3 x4 x5
  show Eq3 _ _
  unfold fX4_copy fX5_copy
  rcases row_c x1 with ⟨e1, e2, _⟩ | ⟨s, hs, rfl, e1, e2⟩
  · rw [e1, e2, if_pos z00, if_pos z00]; exact h.g0
  rw [e1, e2, if_neg n10, if_neg n10]
  rcases row_c x3 with ⟨e3, e4, _⟩ | ⟨d, hd, rfl, e3, e4⟩
  · rw [e3, e4, if_pos z00, if_pos z00]; exact h.g0
  have hS := h.2.2.2.2 s hs
  have hD := h.2.2.2.2 d hd
  obtain ⟨ls, hls, els⟩ := hS.2.2.2.1
  obtain ⟨ld, hld, eld⟩ := hD.2.2.2.1
  have xls : Mx (20 + s) 1 = nI ls := hS.2.2.1.trans els
  have xld : Mx (20 + d) 1 = nI ld := hD.2.2.1.trans eld
  rw [e3, e4, if_neg n10, if_neg n10, if_pos (inbn hs (by omega)), if_pos (inbn hd (by omega)), if_pos (inbn hs (by omega)), if_pos (inbn hd (by omega)), ixn (show s < 2 ^ 31 by omega), ixn (show d < 2 ^ 31 by omega)]
  unfold fX2_isMissing
  rw [hS.1, hD.1]
  by_cases m1 : Mm 7 s = 0
  · rw [if_pos m1, if_pos m1, if_neg n10]; exact h.g5
  rw [if_neg m1, if_neg m1, if_pos z00]
  by_cases m2 : Mm 7 d = 0
  · rw [if_pos m2, if_pos m2, if_neg n10]; exact h.g5
  rw [if_neg m2, if_neg m2, if_pos z00]
  by_cases m3 : Mm 7 s = Mm 7 d
  case neg => rw [if_neg m3, if_neg m3]; exact h.g2
  rw [if_pos m3, if_pos m3]
  by_cases a0 : x2 < 0
  · rw [neg_f (Or.inl a0), if_pos z00, if_pos a0]; exact h.g0
  by_cases b0 : x4 < 0
  · rw [neg_f (g := 20 + d) (Or.inl b0), if_neg a0, if_pos b0, if_pos z00]
    by_cases q : fX2_hasFrom Mx (20 + s) x2 x5 = 0
    · rw [if_pos q]; exact h.g0
    · rw [if_neg q]; exact h.g0
  by_cases c0 : x5 < 0
  · rw [neg_f (Or.inr c0), if_pos z00, if_neg a0, if_neg b0, if_pos c0]; exact h.g0
  rw [if_neg a0, if_neg b0, if_neg c0]
  obtain ⟨a, ha, rfl⟩ := nI_of a0
  obtain ⟨b, hb, rfl⟩ := nI_of b0
  obtain ⟨c, hc, rfl⟩ := nI_of c0
  rw [has_f hls xls ha hc, has_f hld xld hb hc, els, eld]
  have q1 := sub_lt (a := ls) (b := a) (c := c) (by omega) ha hc
  have q2 := sub_lt (a := ld) (b := b) (c := c) (by omega) hb hc
  by_cases k1 : a + c ≤ ls
  case neg => rw [if_neg k1, if_pos z00, if_pos (q1.mpr k1)]; exact h.g0
  rw [if_pos k1, if_neg n10, if_neg (show ¬ (nI ls - nI a < nI c) from fun z => q1.mp z k1)]
  by_cases k2 : b + c ≤ ld
  case neg => rw [if_neg k2, if_pos z00, if_neg (fun z => (fa_of_lt (q2.mpr k2)).2.1 z)]; exact h.g0
  rw [if_pos k2, if_neg n10, if_pos (fa_of_nlt (fun z => (q2.mp z) k2)), if_pos (show cpOk (nI a) (nI b) (nI c) from ⟨a0, b0, c0, by rw [ixn ha, ixn hc]; omega, by rw [ixn hb, ixn hc]; omega⟩), ixn ha, ixn hb, ixn hc]
  obtain ⟨N1, p1, p2, _, p4⟩ := cp120 (a := a) (b := b) (c := c) hs hd (by omega) (by omega) (M := Mm) fu 0 Nm (by omega) (by show _ < 200; omega)
  obtain ⟨N2, r1, _, r3⟩ := cp157 (b := b) (c := c) hd (by omega) (M := Mm) fu 0 N1 (by omega) (by show _ < 200; omega)
  have p1' : fX5_copy_120 fu Mm Nm (nI s) (nI a) (nI d) (nI b) (nI c) 0 = fX5_copy_157 fu Mm N1 (nI d) (nI b) (nI c) 0 := p1
  have r1' : fX5_copy_157 fu Mm N1 (nI d) (nI b) (nI c) 0 = some (nI c, Mm, N2) := r1
  rw [p1', r1']
  refine ⟨_, _, rfl, rfl, rfl, ?_⟩
  refine h.nn (fun u hu k hk => ?_)
  show sR Nx (20 + d) (va_cpy (Nx (20 + s)) (Nx (20 + d)) a b c) (20 + u) k = N2 9 (40 * u + k)
  rw [r3, p2]
  by_cases e : u = d
  · subst e
    rw [sR_same]
    unfold va_cpy
    by_cases e5 : b ≤ k ∧ k < b + c
    · rw [if_pos e5, if_pos (by omega), p4 _ (by omega) (by omega), hS.2.2.2.2 (a + (k - b)) (by omega)]
      congr 1
      omega
    · rw [if_neg e5, if_neg (by omega)]; exact hD.2.2.2.2 k hk
  · rw [sR_ne _ _ (by omega), if_neg (by omega)]
    exact (h.2.2.2.2 u hu).2.2.2.2 k hk
