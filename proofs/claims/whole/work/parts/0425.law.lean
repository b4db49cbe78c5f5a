/-! what holds at the law's start: statics, words, tables -/
def tmS (i : Nat) : Term := .string "TortoiseShelves$Tape" (sTxt.getD i (0, "")).1
abbrev gvn : Cond := Jvm.Cond.and given_1 narrow_1
abbrev tKA : Term := .static "TortoiseShelves" "KIND_ABOVE" "[I"
abbrev tVal (i : Nat) : Term := .field (tmS i) "java/lang/String" "value" "[B"
set_option maxRecDepth 100000 in
theorem fl_ex : ∀ i, i < 14 → Cond.exactly (tmS i) "java/lang/String" ∈ flatC gvn := by decide +kernel
set_option maxRecDepth 100000 in
theorem fl_co : ∀ i, i < 14 → Cond.eq (.field (tmS i) "java/lang/String" "coder" "B") (.int 0) ∈ flatC gvn := by decide +kernel
set_option maxRecDepth 100000 in
theorem fl_ar : ∀ i, i < 14 → Cond.arrayOf (tVal i) .byte ∈ flatC gvn := by decide +kernel
set_option maxRecDepth 100000 in
theorem fl_le : ∀ i, i < 14 → Cond.eq (.length (tVal i)) (.int (Int32.ofNat (sLen.getD i 0))) ∈ flatC gvn := by decide +kernel
set_option maxRecDepth 100000 in
theorem fl_el : ∀ i, i < 14 → ∀ j, j < sLen.getD i 0 → Cond.eq (.elem (tVal i) (.int (Int32.ofNat j))) (.int ((sByt.getD i []).getD j 0)) ∈ flatC gvn := by decide +kernel
def neB (i j : Nat) : Bool := match i with
  | 0 => ([(1, 34), (2, 42), (3, 56), (4, 68), (5, 84), (6, 95), (7, 110), (8, 125), (9, 141), (10, 156), (11, 176), (12, 196), (13, 217)] : List (Nat × Nat)).any (fun k => k.1 == j)
  | 1 => ([(2, 43), (3, 57), (4, 69), (5, 85), (6, 96), (7, 111), (8, 126), (9, 142), (10, 157), (11, 177), (12, 197), (13, 218)] : List (Nat × Nat)).any (fun k => k.1 == j)
  | 2 => ([(3, 58), (4, 70), (5, 86), (6, 97), (7, 112), (8, 127), (9, 143), (10, 158), (11, 178), (12, 198), (13, 219)] : List (Nat × Nat)).any (fun k => k.1 == j)
  | 3 => ([(4, 71), (5, 87), (6, 98), (7, 113), (8, 128), (9, 144), (10, 159), (11, 179), (12, 199), (13, 220)] : List (Nat × Nat)).any (fun k => k.1 == j)
  | 4 => ([(5, 88), (6, 99), (7, 114), (8, 129), (9, 145), (10, 160), (11, 180), (12, 200), (13, 221)] : List (Nat × Nat)).any (fun k => k.1 == j)
  | 5 => ([(6, 100), (7, 115), (8, 130), (9, 146), (10, 161), (11, 181), (12, 201), (13, 222)] : List (Nat × Nat)).any (fun k => k.1 == j)
  | 6 => ([(7, 116), (8, 131), (9, 147), (10, 162), (11, 182), (12, 202), (13, 223)] : List (Nat × Nat)).any (fun k => k.1 == j)
  | 7 => ([(8, 132), (9, 148), (10, 163), (11, 183), (12, 203), (13, 224)] : List (Nat × Nat)).any (fun k => k.1 == j)
  | 8 => ([(9, 149), (10, 164), (11, 184), (12, 204), (13, 225)] : List (Nat × Nat)).any (fun k => k.1 == j)
  | 9 => ([(10, 165), (11, 185), (12, 205), (13, 226)] : List (Nat × Nat)).any (fun k => k.1 == j)
  | 10 => ([(11, 186), (12, 206), (13, 227)] : List (Nat × Nat)).any (fun k => k.1 == j)
  | 11 => ([(12, 207), (13, 228)] : List (Nat × Nat)).any (fun k => k.1 == j)
  | 12 => ([(13, 229)] : List (Nat × Nat)).any (fun k => k.1 == j)
  | _ => false
set_option maxRecDepth 100000 in
theorem fl_n0 : ∀ q ∈ ([(1, 34), (2, 42), (3, 56), (4, 68), (5, 84), (6, 95), (7, 110), (8, 125), (9, 141), (10, 156), (11, 176), (12, 196), (13, 217)] : List (Nat × Nat)), (flatC gvn)[q.2]? = some (Cond.not (Cond.eq (tmS 0) (tmS q.1))) := by decide +kernel
set_option maxRecDepth 100000 in
theorem fl_n1 : ∀ q ∈ ([(2, 43), (3, 57), (4, 69), (5, 85), (6, 96), (7, 111), (8, 126), (9, 142), (10, 157), (11, 177), (12, 197), (13, 218)] : List (Nat × Nat)), (flatC gvn)[q.2]? = some (Cond.not (Cond.eq (tmS 1) (tmS q.1))) := by decide +kernel
set_option maxRecDepth 100000 in
theorem fl_n2 : ∀ q ∈ ([(3, 58), (4, 70), (5, 86), (6, 97), (7, 112), (8, 127), (9, 143), (10, 158), (11, 178), (12, 198), (13, 219)] : List (Nat × Nat)), (flatC gvn)[q.2]? = some (Cond.not (Cond.eq (tmS 2) (tmS q.1))) := by decide +kernel
set_option maxRecDepth 100000 in
theorem fl_n3 : ∀ q ∈ ([(4, 71), (5, 87), (6, 98), (7, 113), (8, 128), (9, 144), (10, 159), (11, 179), (12, 199), (13, 220)] : List (Nat × Nat)), (flatC gvn)[q.2]? = some (Cond.not (Cond.eq (tmS 3) (tmS q.1))) := by decide +kernel
set_option maxRecDepth 100000 in
theorem fl_n4 : ∀ q ∈ ([(5, 88), (6, 99), (7, 114), (8, 129), (9, 145), (10, 160), (11, 180), (12, 200), (13, 221)] : List (Nat × Nat)), (flatC gvn)[q.2]? = some (Cond.not (Cond.eq (tmS 4) (tmS q.1))) := by decide +kernel
set_option maxRecDepth 100000 in
theorem fl_n5 : ∀ q ∈ ([(6, 100), (7, 115), (8, 130), (9, 146), (10, 161), (11, 181), (12, 201), (13, 222)] : List (Nat × Nat)), (flatC gvn)[q.2]? = some (Cond.not (Cond.eq (tmS 5) (tmS q.1))) := by decide +kernel
set_option maxRecDepth 100000 in
theorem fl_n6 : ∀ q ∈ ([(7, 116), (8, 131), (9, 147), (10, 162), (11, 182), (12, 202), (13, 223)] : List (Nat × Nat)), (flatC gvn)[q.2]? = some (Cond.not (Cond.eq (tmS 6) (tmS q.1))) := by decide +kernel
set_option maxRecDepth 100000 in
theorem fl_n7 : ∀ q ∈ ([(8, 132), (9, 148), (10, 163), (11, 183), (12, 203), (13, 224)] : List (Nat × Nat)), (flatC gvn)[q.2]? = some (Cond.not (Cond.eq (tmS 7) (tmS q.1))) := by decide +kernel
set_option maxRecDepth 100000 in
theorem fl_n8 : ∀ q ∈ ([(9, 149), (10, 164), (11, 184), (12, 204), (13, 225)] : List (Nat × Nat)), (flatC gvn)[q.2]? = some (Cond.not (Cond.eq (tmS 8) (tmS q.1))) := by decide +kernel
set_option maxRecDepth 100000 in
theorem fl_n9 : ∀ q ∈ ([(10, 165), (11, 185), (12, 205), (13, 226)] : List (Nat × Nat)), (flatC gvn)[q.2]? = some (Cond.not (Cond.eq (tmS 9) (tmS q.1))) := by decide +kernel
set_option maxRecDepth 100000 in
theorem fl_n10 : ∀ q ∈ ([(11, 186), (12, 206), (13, 227)] : List (Nat × Nat)), (flatC gvn)[q.2]? = some (Cond.not (Cond.eq (tmS 10) (tmS q.1))) := by decide +kernel
set_option maxRecDepth 100000 in
theorem fl_n11 : ∀ q ∈ ([(12, 207), (13, 228)] : List (Nat × Nat)), (flatC gvn)[q.2]? = some (Cond.not (Cond.eq (tmS 11) (tmS q.1))) := by decide +kernel
set_option maxRecDepth 100000 in
theorem fl_n12 : ∀ q ∈ ([(13, 229)] : List (Nat × Nat)), (flatC gvn)[q.2]? = some (Cond.not (Cond.eq (tmS 12) (tmS q.1))) := by decide +kernel
theorem fl_ne : ∀ i, i < 14 → ∀ j, j < 14 → i ≠ j → Cond.not (Cond.eq (tmS i) (tmS j)) ∈ flatC gvn ∨ Cond.not (Cond.eq (tmS j) (tmS i)) ∈ flatC gvn := by
  have key : ∀ i, i < 14 → ∀ j, j < 14 → neB i j = true → Cond.not (Cond.eq (tmS i) (tmS j)) ∈ flatC gvn := by
    intro i hi j hj h
    match i, hi, h with
    | 0, _, h =>
      obtain ⟨k, h1, h2⟩ := List.any_eq_true.mp h
      have e : k.1 = j := by simpa using h2
      subst e
      exact List.mem_of_getElem? (fl_n0 k h1)
    | 1, _, h =>
      obtain ⟨k, h1, h2⟩ := List.any_eq_true.mp h
      have e : k.1 = j := by simpa using h2
      subst e
      exact List.mem_of_getElem? (fl_n1 k h1)
    | 2, _, h =>
      obtain ⟨k, h1, h2⟩ := List.any_eq_true.mp h
      have e : k.1 = j := by simpa using h2
      subst e
      exact List.mem_of_getElem? (fl_n2 k h1)
    | 3, _, h =>
      obtain ⟨k, h1, h2⟩ := List.any_eq_true.mp h
      have e : k.1 = j := by simpa using h2
      subst e
      exact List.mem_of_getElem? (fl_n3 k h1)
    | 4, _, h =>
      obtain ⟨k, h1, h2⟩ := List.any_eq_true.mp h
      have e : k.1 = j := by simpa using h2
      subst e
      exact List.mem_of_getElem? (fl_n4 k h1)
    | 5, _, h =>
      obtain ⟨k, h1, h2⟩ := List.any_eq_true.mp h
      have e : k.1 = j := by simpa using h2
      subst e
      exact List.mem_of_getElem? (fl_n5 k h1)
    | 6, _, h =>
      obtain ⟨k, h1, h2⟩ := List.any_eq_true.mp h
      have e : k.1 = j := by simpa using h2
      subst e
      exact List.mem_of_getElem? (fl_n6 k h1)
    | 7, _, h =>
      obtain ⟨k, h1, h2⟩ := List.any_eq_true.mp h
      have e : k.1 = j := by simpa using h2
      subst e
      exact List.mem_of_getElem? (fl_n7 k h1)
    | 8, _, h =>
      obtain ⟨k, h1, h2⟩ := List.any_eq_true.mp h
      have e : k.1 = j := by simpa using h2
      subst e
      exact List.mem_of_getElem? (fl_n8 k h1)
    | 9, _, h =>
      obtain ⟨k, h1, h2⟩ := List.any_eq_true.mp h
      have e : k.1 = j := by simpa using h2
      subst e
      exact List.mem_of_getElem? (fl_n9 k h1)
    | 10, _, h =>
      obtain ⟨k, h1, h2⟩ := List.any_eq_true.mp h
      have e : k.1 = j := by simpa using h2
      subst e
      exact List.mem_of_getElem? (fl_n10 k h1)
    | 11, _, h =>
      obtain ⟨k, h1, h2⟩ := List.any_eq_true.mp h
      have e : k.1 = j := by simpa using h2
      subst e
      exact List.mem_of_getElem? (fl_n11 k h1)
    | 12, _, h =>
      obtain ⟨k, h1, h2⟩ := List.any_eq_true.mp h
      have e : k.1 = j := by simpa using h2
      subst e
      exact List.mem_of_getElem? (fl_n12 k h1)
    | 13, _, h => cases h
    | n + 14, hi, _ => omega
  have hb : ∀ i, i < 14 → ∀ j, j < 14 → i ≠ j → (neB i j || neB j i) = true := by decide +kernel
  intro i hi j hj hij
  have h := hb i hi j hj hij
  rw [Bool.or_eq_true] at h
  exact h.imp (key i hi j hj) (key j hj i hi)
set_option maxRecDepth 100000 in
theorem fl_ka : Cond.arrayOf tKA .int ∈ flatC gvn ∧ Cond.eq (.length tKA) (.int 6) ∈ flatC gvn := by decide +kernel
set_option maxRecDepth 100000 in
theorem fl_ke : ∀ j, j < 6 → Cond.eq (.elem tKA (.int (Int32.ofNat j))) (.int (kab j)) ∈ flatC gvn := by decide +kernel
set_option maxRecDepth 100000 in
theorem fl_cs : Cond.eq (.static "java/lang/String" "COMPACT_STRINGS" "Z") (.int 1) ∈ flatC gvn ∧ Cond.isRef (.static "jdk/internal/util/Preconditions" "SIOOBE_FORMATTER" "Ljava/util/function/BiFunction;") ∈ flatC gvn := by decide +kernel
set_option maxRecDepth 100000 in
theorem tb_st : ∀ q ∈ sTxt, Cond.stringRef "TortoiseShelves$Tape" q.1 q.2 ∈ lw_tbl := by decide +kernel
set_option maxRecDepth 100000 in
theorem tb_nF : ∀ q ∈ nestF, Cond.fieldLinkNest q.1 q.2.1 q.2.2.1 q.2.2.2.1 q.2.2.2.2.1 q.2.2.2.2.2 ∈ lw_tbl := by decide +kernel
set_option maxRecDepth 100000 in
theorem tb_nM : ∀ q ∈ nestM, Cond.methodLinkNest q.1 q.2.1 q.2.2.1 q.2.2.2 ∈ lw_tbl := by decide +kernel
theorem base_tbl {w : Cond} (h : w ∈ base) : w ∈ lw_tbl := (List.mem_filter.mp h).1
theorem sta0 {b : Nat} {s : State} (cy : Nat → ClassId) (hts : ∀ w ∈ lw_tbl, w.before #[Value.ref b] s = true) (hgv : gvn.before #[Value.ref b] s = true) : ∃ (K V : Nat → Nat) (ka : Nat), StaX (aX s.heap.size K V ka) (InX cy (aX s.heap.size K V ka)) s := by
  have hs := flat_of_before _ hgv
  have hA : ∀ a : Nat, a < s.heap.size → ¬ (fun q : Nat => s.heap.size ≤ q) a := fun a h z => by have z : s.heap.size ≤ a := z; omega
  obtain ⟨K, V, hKV, hev⟩ := vk_Sof (args := #[Value.ref b]) (s := s) (N := 14) (tm := tmS) (len := sLen) (byt := sByt) (A := fun q => s.heap.size ≤ q)
    (by decide) (fun i hi => hs _ (fl_ex i hi)) (fun i hi => hs _ (fl_co i hi)) (fun i hi => hs _ (fl_ar i hi)) (fun i hi => hs _ (fl_le i hi)) (fun i hi j hj => hs _ (fl_el i hi j hj))
    (fun i j hi hj hij => (fl_ne i hi j hj hij).imp (fun h => hs _ h) (fun h => hs _ h)) hA
  obtain ⟨ka, hk1, hk2⟩ := va_Tof (args := #[Value.ref b]) (s := s) (tm := tKA) (ty := .int) (N := 6) (f := fun i => .int (kab i)) (A := fun q => s.heap.size ≤ q) (by decide) (hs _ fl_ka.1) (va_eqt (hs _ fl_ka.2)) (fun j hj => va_eqt (hs _ (fl_ke j hj))) hA
  have hn : ∀ q, InX cy (aX s.heap.size K V ka) q → (fun q : Nat => s.heap.size ≤ q) q := fun q h => (inX_ge h).1
  refine ⟨K, V, ka, ?_, ?_, ?_, ?_, ?_, ?_⟩
  · exact (va_Zof (A := fun q => s.heap.size ≤ q) (hts _ we_359) (hts _ (base_tbl wd_80)) hk1 hA).narrow hn
  · exact hk2.narrow hn
  · exact hKV.narrow hn
  · intro k i tx hk
    have hk14 : k < 14 := (List.getElem?_eq_some_iff.mp hk).1
    have hm := tb_st (i, tx) (List.mem_of_getElem? hk)
    have he := hev k hk14
    have e1 : tmS k = .string "TortoiseShelves$Tape" i := by
      unfold tmS
      rw [List.getD_eq_getElem?_getD, hk]
      rfl
    rw [e1] at he
    exact vk_R.of (hts _ hm) he
  · exact (va_Zof (A := fun q => s.heap.size ≤ q) (hts _ we_638) (hts _ (base_tbl wd_88)) (va_eqt (hs _ fl_cs.1)) hA).narrow hn
  · exact (va_Zqof (A := fun q => s.heap.size ≤ q) (hts _ we_654) (hts _ (base_tbl wd_90)) (hs _ fl_cs.2) hA).narrow hn
theorem ka0 {b : Nat} {s : State} (hts : ∀ w ∈ lw_tbl, w.before #[Value.ref b] s = true) : ∃ (D : va_G) (cy : Nat → ClassId), KA D cy s := by
  obtain ⟨c0, i0, k0⟩ := u_known (C := RX0) (T := TX0) (N := 9) (n := 9) hts (fun w h => base_tbl (us_X0 w h)) (hts _ we_102)
  obtain ⟨c1, i1, k1⟩ := u_known (C := RX1) (T := TX1) (N := 4) (n := 4) hts (fun w h => base_tbl (us_X1 w h)) (hts _ we_150)
  obtain ⟨c2, i2, k2⟩ := u_known (C := RX2) (T := TX2) (N := 3) (n := 3) hts (fun w h => base_tbl (us_X2 w h)) (hts _ we_203)
  obtain ⟨c3, i3, k3⟩ := u_known (C := RX3) (T := TX3) (N := 7) (n := 7) hts (fun w h => base_tbl (us_X3 w h)) (hts _ we_173)
  obtain ⟨c4, i4, k4⟩ := u_known (C := RX4) (T := TX4) (N := 8) (n := 8) hts (fun w h => base_tbl (us_X4 w h)) (hts _ we_94)
  obtain ⟨c5, i5, k5⟩ := u_known (C := RX5) (T := TX5) (N := 17) (n := 17) hts (fun w h => base_tbl (us_X5 w h)) (hts _ we_791)
  obtain ⟨d0, q0, m0, f0, g0, h0⟩ := Cond.arrayClass_spec (hts _ we_147)
  obtain ⟨d1, q1, m1, f1, g1, h1⟩ := Cond.arrayClass_spec (hts _ we_223)
  obtain ⟨d2, q2, m2, f2, g2, h2⟩ := Cond.arrayClass_spec (hts _ we_148)
  obtain ⟨m3, d3, q3, e3, -, g3, h3, f3⟩ := Cond.arrayOver_spec (hts _ we_202)
  refine ⟨(fun k => match k with | 0 => c0 | 1 => c1 | 2 => c2 | 3 => c3 | 4 => c4 | _ => c5, fun k => match k with | 0 => i0 | 1 => i1 | 2 => i2 | 3 => i3 | 4 => i4 | _ => i5), (fun k => match k with | 0 => d0 | 1 => d1 | 2 => d2 | _ => d3), ⟨⟨?_, ?_⟩, ?_, ?_⟩, va_AO.of (hts _ we_202)⟩
  · intro k q hq
    match k, hq with
    | 0, hq => cases hq; exact k0
    | 1, hq => cases hq; exact k1
    | 2, hq => cases hq; exact k2
    | 3, hq => cases hq; exact k3
    | 4, hq => cases hq; exact k4
    | 5, hq => cases hq; exact k5
    | k + 6, hq => simp [vwCl] at hq
  · intro k q hq
    match k, hq with
    | 0, hq => cases hq; exact ⟨fun n z => ⟨fun k h => (by cases h), q0, g0, m0, h0⟩, f0⟩
    | 1, hq => cases hq; exact ⟨fun n z => ⟨fun k h => (by cases h), q1, g1, m1, h1⟩, f1⟩
    | 2, hq => cases hq; exact ⟨fun n z => ⟨fun k h => (by cases h), q2, g2, m2, h2⟩, f2⟩
    | 3, hq => cases hq; exact ⟨fun n z => ⟨fun k h => (by cases h), q3, g3, m3, h3⟩, q3, m3, g3, h3, e3, f3⟩
    | k + 4, hq => simp [tysC] at hq
  · exact fun q hq => va_Nw.of rfl (hts _ (tb_nF q hq))
  · exact fun q hq => va_Nw.of rfl (hts _ (tb_nM q hq))
