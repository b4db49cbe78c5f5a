/-! the least of a set -/
theorem low2 : ∀ (n m : Nat), m < n → m ≠ 0 → ∃ l q, m = 2 ^ l * (2 * q + 1) := by
  intro n
  induction n with
  | zero => intro m h; omega
  | succ n ih =>
    intro m hm h0
    by_cases e : m % 2 = 1
    · exact ⟨0, m / 2, by omega⟩
    · obtain ⟨l, q, hq⟩ := ih (m / 2) (by omega) (by omega)
      refine ⟨l + 1, q, ?_⟩
      rw [Nat.pow_succ, Nat.mul_assoc, Nat.mul_comm 2, ← Nat.mul_assoc, ← hq]
      omega
theorem tb_2q (q : Nat) (j : Nat) : (2 * q + 1).testBit j = if j = 0 then true else q.testBit (j - 1) := by
  match j with
  | 0 => simp
  | j + 1 => rw [if_neg (by omega), Nat.testBit_succ, show (2 * q + 1) / 2 = q by omega, Nat.add_sub_cancel]
theorem tb_l (l q i : Nat) : (2 ^ l * (2 * q + 1)).testBit i = (decide (l ≤ i) && (if i = l then true else q.testBit (i - l - 1))) := by
  rw [Nat.testBit_two_pow_mul]
  by_cases e : l ≤ i
  · rw [decide_eq_true e, tb_2q]
    by_cases e2 : i = l
    · subst e2; simp
    · rw [if_neg (by omega), if_neg e2]
  · rw [decide_eq_false e]; rfl
theorem neg_n {m : Nat} (h : m < 2 ^ 32) : -(nI m) = nI (2 ^ 32 - m) := by
  apply Int32.toBitVec_inj.1
  rw [Int32.toBitVec_neg]
  show -(BitVec.ofNat 32 m) = BitVec.ofNat 32 (2 ^ 32 - m)
  apply BitVec.eq_of_toNat_eq
  rw [BitVec.toNat_neg, BitVec.toNat_ofNat, BitVec.toNat_ofNat, Nat.mod_eq_of_lt h]
theorem lowest {l q : Nat} (hm : 2 ^ l * (2 * q + 1) < 2 ^ 32) (hl : l < 32) : (nI (2 ^ l * (2 * q + 1)) &&& -(nI (2 ^ l * (2 * q + 1)))) = (1 : Int32) <<< (nI l &&& 31) := by
  have hp : 2 ^ 32 = 2 ^ l * 2 ^ (32 - l) := by rw [← Nat.pow_add]; congr 1; omega
  have hp2 : 2 ^ (32 - l) = 2 * 2 ^ (31 - l) := by rw [← Nat.pow_succ']; congr 1; omega
  have hq : q < 2 ^ (31 - l) := by
    rw [hp] at hm
    have := Nat.lt_of_mul_lt_mul_left hm
    omega
  have e : 2 ^ 32 - 2 ^ l * (2 * q + 1) = 2 ^ l * (2 * (2 ^ (31 - l) - (q + 1)) + 1) := by
    rw [hp, ← Nat.mul_sub]
    congr 1
    omega
  rw [neg_n hm, e]
  refine b_ext (fun i hi => ?_)
  rw [b_and, b_nI _ hi, b_nI _ hi, tb_l, tb_l, b_one hl hi, Nat.testBit_two_pow_sub_succ hq]
  by_cases e2 : i = l
  · subst e2; simp
  · rw [if_neg e2, if_neg e2, decide_eq_false e2]
    cases decide (l ≤ i) <;> cases q.testBit (i - l - 1) <;> simp
theorem bc_low : ∀ l, l < 30 → fJ6_bitCount_0f7a4 (((1 : Int32) <<< (nI l &&& 31)) - 1) = nI l := by decide +kernel
theorem s30_n {x : Int32} (h : S30 x) : ∃ m, m < 2 ^ 30 ∧ x = nI m := by
  refine (set_c x (k := 30) (by omega)).mp ((and_0 _ _).mpr (fun i hi => ?_))
  have hk : bt (nI (2 ^ 30 - 1)) i = decide (i < 30) := m_30 i hi
  rw [b_xor, hk, b_m1 i hi]
  by_cases e : i < 30
  · rw [decide_eq_true e]; simp
  · rw [h i (by omega) hi]; rfl
theorem least_c {x : Int32} (h : S30 x) (h0 : x ≠ 0) : ∃ l, l < 30 ∧ fX4_least x = nI l ∧ bt x l = true ∧ ∀ i, i < l → bt x i = false := by
  obtain ⟨m, hm, rfl⟩ := s30_n h
  have m0 : m ≠ 0 := fun q => h0 (by rw [q]; rfl)
  obtain ⟨l, q, rfl⟩ := low2 (m + 1) m (by omega) m0
  have hl : l < 30 := by
    have : 2 ^ l < 2 ^ 30 := Nat.lt_of_le_of_lt (Nat.le_mul_of_pos_right _ (by omega)) hm
    exact (Nat.pow_lt_pow_iff_right (by omega)).mp this
  refine ⟨l, hl, ?_, ?_, fun i hi => ?_⟩
  · unfold fX4_least
    rw [lowest (by omega) (by omega)]
    exact bc_low l hl
  · rw [b_nI _ (by omega), tb_l]; simp
  · rw [b_nI _ (by omega), tb_l, decide_eq_false (by omega)]; rfl
/-! readers -/
theorem gfrom {M : Mi} (h : Wf (M 0)) (x : Int32) : ∃ M1, fX1_goesFrom M x = some M1 ∧ keX M M1 ∧ M1 0 = M 0 ∧ (∀ k, k < 7 + 4 * sz (M 0) → M1 3 k = M 0 k) ∧ M1 4 0 = ((1 : Int32) <<< (x &&& 31)) ∧ M1 4 2 = 0 := by
  obtain ⟨a, ea, ha⟩ := becX h (M 3)
  unfold fX1_goesFrom
  rw [ea]
  refine ⟨_, rfl, ((keX_s _ _ (by omega)).tr (keX_w _ _ _ (by omega))).tr (keX_w _ _ _ (by omega)), ?_, fun k hk => ?_, ?_, ?_⟩
  · rw [wM_ne _ _ _ (by omega), wM_ne _ _ _ (by omega), sR_ne _ _ (by omega)]
  · rw [wM_ne _ _ _ (by omega), wM_ne _ _ _ (by omega), sR_same]; exact ha k hk
  · rw [wM_at, upd_ne (by omega), wM_at, pk_us]
  · rw [wM_at, pk_us]
theorem soonM {M : Mi} (hw : Wf (M 0)) {c s : Nat} (hc : c < 30) (hs : s < 12) : ∃ j M', j ≤ 49 ∧ Asd M M' ∧ fX5_soonestOf M (nI c) (nI s) = some (if j < 49 then nI j else -1, cpy M' 0 3 0) ∧ ∀ (Mx : Mi) (b : Nat), Eqv (Mx 3) (M 0) → Mx 4 0 = ((1 : Int32) <<< (nI c &&& 31)) → Mx 4 2 = 0 → b ≤ 49 → ∃ Mx', fX1_seek Mx (nI s) (nI b - 1) = some (if j < b then nI j else -1, Mx') ∧ keX Mx Mx' ∧ Mx' 0 = Mx 0 ∧ (j < b → Mx' 4 1 = M' 6 1 ∧ M' 6 1 ≠ 0 ∧ S30 (M' 6 1)) := by
  unfold fX5_soonestOf
  rw [asdM, bind_some']
  obtain ⟨j, M', q1, q2, q3, q4, q5⟩ := seek_lp (M0 := M) (s := s) (by omega) fu 0 (cpy M 3 0 0) ((1 : Int32) <<< (nI c &&& 31)) (Asd.lay M) (by rw [cpy_ne _ (by omega)]; exact hw) (S30_one hc) (by omega) (by decide)
  refine ⟨j, M', q2, q3, q4, fun Mx b hE h1 h2 hb => ?_⟩
  exact q5 Mx b fu (by rw [cpy_ne _ (by omega)]; exact hE) h1 h2 hb (by decide)
theorem ask_c {Mx : Mi} {Nx : Ml} {Mm : Mi} {Nm : Ml} (h : Rel Mx Nx Mm Nm) (x1 x2 : Int32) : (∃ i, (i = 0 ∨ i = 4) ∧ fX4_askOfReader Mx x1 x2 = some ((-1000000001) - nI i, wM Mx 7 i (Mx 7 i + 1)) ∧ fX5_wrongReader (Mm 0) x1 x2 = (-1000000001) - nI i) ∨ ∃ c s, c < 30 ∧ s < 12 ∧ x1 = nI c ∧ x2 = nI s ∧ fX4_askOfReader Mx x1 x2 = some (0, Mx) ∧ fX5_wrongReader (Mm 0) x1 x2 = 0 := by
  unfold fX4_askOfReader fX5_wrongReader fX4_askOfReader_14
  rw [show (0 : Int32) = nI 0 from rfl, fndX Mx (i := 0) (by omega), show (4 : Int32) = nI 4 from rfl, fndX Mx (i := 4) (by omega)]
  rcases cell_c x1 with ⟨e1, e2, _⟩ | ⟨c, hc, ec, e1, e2⟩
  · rw [e1, e2, if_pos (show (0 : Int32) = nI 0 from rfl), if_pos (show (0 : Int32) = nI 0 from rfl)]
    exact Or.inl ⟨0, Or.inl rfl, rfl, rfl⟩
  rw [e1, e2, if_neg (show ¬ (1 : Int32) = nI 0 by decide), if_neg (show ¬ (1 : Int32) = nI 0 by decide)]
  rcases subj_c x2 with ⟨e3, e4, _⟩ | ⟨s, hs, es, e3, e4⟩
  · rw [e3, e4, if_pos (show (0 : Int32) = nI 0 from rfl), if_pos (show (0 : Int32) = nI 0 from rfl)]
    exact Or.inl ⟨0, Or.inl rfl, rfl, rfl⟩
  rw [e3, e4, if_neg (show ¬ (1 : Int32) = nI 0 by decide), if_neg (show ¬ (1 : Int32) = nI 0 by decide), fen_c h.1]
  by_cases e : fX0_isFenced (Mx 0) x1 = nI 0
  · rw [if_pos e, if_pos e]
    exact Or.inr ⟨c, s, hc, hs, ec, es, rfl, rfl⟩
  · rw [if_neg e, if_neg e]
    exact Or.inl ⟨4, Or.inr rfl, rfl, rfl⟩
theorem code_ne : ∀ i, i < 7 → ¬ ((-1000000001 : Int32) - nI i) = 0 := by decide +kernel
/-- a question to a reader: refused by both, or answered -/
theorem rd_c {Mx : Mi} {Nx : Ml} {Mm : Mi} {Nm : Ml} (h : Rel Mx Nx Mm Nm) (x1 x2 : Int32) {G : Mi → Option (Int32 × Mi)} {K : Option (Int32 × Mi)} (hG : ∀ c s, c < 30 → s < 12 → x1 = nI c → x2 = nI s → Eq2 Nx Nm (G Mx) K) : Eq2 Nx Nm (Option.bind (fX4_askOfReader Mx x1 x2) (fun a1 => if a1.1 = 0 then G a1.2 else some (a1.1, a1.2))) (if fX5_wrongReader (Mm 0) x1 x2 = 0 then K else Option.bind (fX5_finds Mm (fX5_wrongReader (Mm 0) x1 x2)) (fun a4 => some (a4.1, a4.2))) := by
  rcases ask_c h x1 x2 with ⟨i, hi, e1, e2⟩ | ⟨c, s, hc, hs, ec, es, e1, e2⟩
  · have hi7 : i < 7 := by omega
    rw [e1, bind_some']
    dsimp only
    rw [if_neg (code_ne i hi7), e2, if_neg (code_ne i hi7), fndM Mm hi7]
    exact ⟨_, _, rfl, rfl, rfl, h.fnd hi7⟩
  · rw [e1, bind_some']
    dsimp only
    rw [if_pos z00, e2, if_pos z00]
    exact hG c s hc hs ec es
theorem jm1 {j : Nat} (h : j < 1000) : ¬ nI j = -1 := fun q => nI_pos (n := j) (by omega) (by rw [q]; decide)
theorem sim_soonest : SimT_soonest Rel := by
  intro Mx Nx Mm Nm h x1 x2
  show Eq2 Nx Nm _ _
  unfold fX4_soonest fX5_soonest
  refine rd_c h x1 x2 (G := fun M => Option.bind (fX1_goesFrom M x1) (fun a3 => Option.bind (fX1_seek a3 x2 48) (fun a4 => Option.bind (fX4_hoursOrNone a4.2 a4.1) (fun a5 => some (a5.1, a5.2))))) (fun c s hc hs ec es => ?_)
  subst ec es
  obtain ⟨j, M', q1, q2, q3, q4⟩ := soonM (M := Mm) h.1.wf2 hc hs
  obtain ⟨M1, r1, r2, r3, r4, r5, r6⟩ := gfrom h.1.1 (nI c)
  obtain ⟨M2, s1, s2, s3, s4⟩ := q4 M1 49 (eqv_of h.1 r4) r5 r6 (by omega)
  have s1' : fX1_seek M1 (nI s) 48 = some (if j < 49 then nI j else -1, M2) := s1
  show Eq2 Nx Nm (Option.bind (fX1_goesFrom Mx (nI c)) _) _
  rw [r1, bind_some', s1', bind_some', q3, bind_some']
  refine Eq2.fin ?_
  have R : Rel M2 Nx (cpy M' 0 3 0) Nm := h.bk (r2.tr s2) (s3.trans r3) q2
  show Eq2 Nx Nm (fX4_hoursOrNone M2 (if j < 49 then nI j else -1)) (fX5_orNone (cpy M' 0 3 0) (if j < 49 then nI j else -1) 48)
  by_cases e : j < 49
  · have q := or_none R (j := j) (B := 48) (by omega) (by omega)
    rw [if_pos e] at q ⊢
    exact q
  · rw [if_neg e]
    unfold fX4_hoursOrNone fX5_orNone
    rw [if_pos rfl, show fX5_in (Int32.toInt64 (-1)) 0 (Int32.toInt64 48) = 0 by decide +kernel, if_pos z00]
    exact R.f3
theorem scan_36 {M : Mi} {l : Nat} (hl : l < 30) (h1 : bt (M 6 1) l = true) (h2 : ∀ i, i < l → bt (M 6 1) i = false) : ∀ (n i : Nat), i ≤ l → l - i < n → fX5_where_36 n M (nI i) = some (nI l, M) := by
  intro n
  induction n with
  | zero => intro i _ h; omega
  | succ n ih =>
    intro i hi hn
    rw [qX5_where_36]
    by_cases e : i = l
    · subst e
      rw [if_neg (fun q => by rw [(bit_0 _ (by omega)).mp q] at h1; exact absurd h1 (by decide))]
    · rw [if_pos ((bit_0 _ (by omega)).mpr (h2 i (by omega))), ns1]
      exact ih (i + 1) (by omega) (by omega)
theorem sim_where : SimT_where Rel := by
  intro Mx Nx Mm Nm h x1 x2
  show Eq2 Nx Nm _ _
  unfold fX4_where fX5_where
  refine rd_c h x1 x2 (G := fun M => Option.bind (fX1_goesFrom M x1) (fun a3 => Option.bind (fX1_seek a3 x2 48) (fun a4 => Option.bind (fX4_placeOrNone a4.2 a4.1) (fun a5 => some (a5.1, a5.2))))) (fun c s hc hs ec es => ?_)
  subst ec es
  obtain ⟨j, M', q1, q2, q3, q4⟩ := soonM (M := Mm) h.1.wf2 hc hs
  obtain ⟨M1, r1, r2, r3, r4, r5, r6⟩ := gfrom h.1.1 (nI c)
  obtain ⟨M2, s1, s2, s3, s4⟩ := q4 M1 49 (eqv_of h.1 r4) r5 r6 (by omega)
  have s1' : fX1_seek M1 (nI s) 48 = some (if j < 49 then nI j else -1, M2) := s1
  show Eq2 Nx Nm (Option.bind (fX1_goesFrom Mx (nI c)) _) _
  rw [r1, bind_some', s1', bind_some', q3, bind_some']
  have R : Rel M2 Nx (cpy M' 0 3 0) Nm := h.bk (r2.tr s2) (s3.trans r3) q2
  show Eq2 Nx Nm (Option.bind (fX4_placeOrNone M2 (if j < 49 then nI j else -1)) _) (if 0 ≤ (if j < 49 then nI j else (-1 : Int32)) then fX5_where_36 fu (cpy M' 0 3 0) 0 else _)
  unfold fX4_placeOrNone
  by_cases e : j < 49
  · obtain ⟨t1, t2, t3⟩ := s4 e
    obtain ⟨l, hl, l1, l2, l3⟩ := least_c t3 t2
    have e6 : cpy M' 0 3 0 6 1 = M' 6 1 := by rw [cpy_ne _ (by omega)]
    rw [if_pos e, if_neg (jm1 (by omega)), if_pos (show (0 : Int32) ≤ nI j from (nle (a := 0) (by omega) (by omega)).mpr (by omega)), show (0 : Int32) = nI 0 from rfl, scan_36 hl (by rw [e6]; exact l2) (by rw [e6]; exact l3) fu 0 (by omega) (by show _ < 200; omega), t1, l1]
    exact R.ok _
  · rw [if_neg e, if_pos rfl, if_neg (show ¬ (0 : Int32) ≤ -1 by decide)]
    exact R.f3.fin
