theorem dX0_meetAll_0 : decode cX0_meetAll 0 = .ok (.iconst 0, 1) := by decide +kernel
theorem dX0_meetAll_1 : decode cX0_meetAll 1 = .ok (.istore_n 1, 1) := by decide +kernel
theorem dX0_meetAll_2 : decode cX0_meetAll 2 = .ok (.iload_n 1, 1) := by decide +kernel
theorem dX0_meetAll_3 : decode cX0_meetAll 3 = .ok (.aload_n 0, 1) := by decide +kernel
theorem dX0_meetAll_4 : decode cX0_meetAll 4 = .ok (.getfield 38, 3) := by decide +kernel
theorem dX0_meetAll_7 : decode cX0_meetAll 7 = .ok (.if_icmp .ge 48, 3) := by decide +kernel
theorem dX0_meetAll_10 : decode cX0_meetAll 10 = .ok (.iload_n 1, 1) := by decide +kernel
theorem dX0_meetAll_11 : decode cX0_meetAll 11 = .ok (.iconst 1, 1) := by decide +kernel
theorem dX0_meetAll_12 : decode cX0_meetAll 12 = .ok (.iadd, 1) := by decide +kernel
theorem dX0_meetAll_13 : decode cX0_meetAll 13 = .ok (.istore_n 2, 1) := by decide +kernel
theorem dX0_meetAll_14 : decode cX0_meetAll 14 = .ok (.iload_n 2, 1) := by decide +kernel
theorem dX0_meetAll_15 : decode cX0_meetAll 15 = .ok (.aload_n 0, 1) := by decide +kernel
theorem dX0_meetAll_16 : decode cX0_meetAll 16 = .ok (.getfield 38, 3) := by decide +kernel
theorem dX0_meetAll_19 : decode cX0_meetAll 19 = .ok (.if_icmp .ge 30, 3) := by decide +kernel
theorem dX0_meetAll_22 : decode cX0_meetAll 22 = .ok (.aload_n 0, 1) := by decide +kernel
theorem dX0_meetAll_23 : decode cX0_meetAll 23 = .ok (.getfield 18, 3) := by decide +kernel
theorem dX0_meetAll_26 : decode cX0_meetAll 26 = .ok (.iload_n 1, 1) := by decide +kernel
theorem dX0_meetAll_27 : decode cX0_meetAll 27 = .ok (.iaload, 1) := by decide +kernel
theorem dX0_meetAll_28 : decode cX0_meetAll 28 = .ok (.aload_n 0, 1) := by decide +kernel
theorem dX0_meetAll_29 : decode cX0_meetAll 29 = .ok (.getfield 18, 3) := by decide +kernel
theorem dX0_meetAll_32 : decode cX0_meetAll 32 = .ok (.iload_n 2, 1) := by decide +kernel
theorem dX0_meetAll_33 : decode cX0_meetAll 33 = .ok (.iaload, 1) := by decide +kernel
theorem dX0_meetAll_34 : decode cX0_meetAll 34 = .ok (.if_icmp .ne 9, 3) := by decide +kernel
theorem dX0_meetAll_37 : decode cX0_meetAll 37 = .ok (.aload_n 0, 1) := by decide +kernel
theorem dX0_meetAll_38 : decode cX0_meetAll 38 = .ok (.iload_n 1, 1) := by decide +kernel
theorem dX0_meetAll_39 : decode cX0_meetAll 39 = .ok (.iload_n 2, 1) := by decide +kernel
theorem dX0_meetAll_40 : decode cX0_meetAll 40 = .ok (.invokevirtual 85, 3) := by decide +kernel
theorem dX0_meetAll_43 : decode cX0_meetAll 43 = .ok (.iinc 2 1, 3) := by decide +kernel
theorem dX0_meetAll_46 : decode cX0_meetAll 46 = .ok (.goto (-32), 3) := by decide +kernel
theorem dX0_meetAll_49 : decode cX0_meetAll 49 = .ok (.iinc 1 1, 3) := by decide +kernel
theorem dX0_meetAll_52 : decode cX0_meetAll 52 = .ok (.goto (-50), 3) := by decide +kernel
theorem dX0_meetAll_55 : decode cX0_meetAll 55 = .ok (.return_, 1) := by decide +kernel
def finX0_meetAll (M0 : Mi) (N : Ml) (j : Nat) : (Nat → Int32) → Option Value × Mi × Ml := fun b => (none, sR M0 j (b), N)
noncomputable def fX0_meetAll_14  (r49 : (Nat → Int32) → Int32 → Option ((Nat → Int32))) : Nat → (Nat → Int32) → Int32 → Int32 → Option ((Nat → Int32))
  | 0 => fun _ _ _ => none
  | n + 1 => fun σ x1 x2 => (if (σ 1) ≤ x2 then (r49 σ x1) else (if inb x1 8 then (if inb x2 8 then (if (σ (8 + 4 * ix x1)) = (σ (8 + 4 * ix x2)) then (Option.bind (fX0_meetTwo σ x1 x2) (fun a6 => ((fX0_meetAll_14 r49 n) a6 x1 (x2 + 1)))) else ((fX0_meetAll_14 r49 n) σ x1 (x2 + 1))) else none) else none))
theorem bX0_meetAll_14 {Z : Zt} {E : Ec} {M0 : Mi} {N : Ml} {j : Nat} (C : Ok 1 Z E cX0_meetAll 3 RX0 none 2) (hj : j < 4) (r49 : (Nat → Int32) → Int32 → Option ((Nat → Int32))) (hr49 : ∀ (σ : Nat → Int32) (x1 : Int32), GT Z E 3 (finX0_meetAll M0 N j) 49 [(0, .ref (zA Z j 0)), (1, .int x1)] [] (sR M0 j σ) N (r49 σ x1)) : ∀ (n : Nat) (σ : Nat → Int32) (x1 : Int32) (x2 : Int32), GT Z E 3 (finX0_meetAll M0 N j) 14 [(0, .ref (zA Z j 0)), (1, .int x1), (2, .int x2)] [] (sR M0 j σ) N (fX0_meetAll_14 r49 n σ x1 x2) := by
  intro n
  induction n with
  | zero => intro σ x1 x2; exact r_none
  | succ n ih =>
    intro σ x1 x2
    rw [fX0_meetAll_14]
    refine r_iload_n C dX0_meetAll_14 2 2 rfl rfl ?_
    refine r_aload_n C dX0_meetAll_15 0 0 rfl rfl ?_
    refine gf_X0_38 (v := (σ 1)) C hj dX0_meetAll_16 (sR_at _ _ _ _) ?_
    refine r_ic_ge (tgt := 49) C dX0_meetAll_19 (by decide) (fun c2 => ?_) (fun c2 => ?_)
    · refine r_lv [0, 1] (lv' := [(0, .ref (zA Z j 0)), (1, .int x1)]) rfl ?_
      exact hr49 σ x1
    · refine r_aload_n C dX0_meetAll_22 0 0 rfl rfl ?_
      refine gf_X0_18 C hj dX0_meetAll_23 ?_
      refine r_iload_n C dX0_meetAll_26 1 1 rfl rfl ?_
      refine r_guard (fun h3 => ?_)
      refine ald_I3 (v := (σ (8 + 4 * ix x1))) C hj h3 (sR_at _ _ _ _) dX0_meetAll_27 ?_
      refine r_aload_n C dX0_meetAll_28 0 0 rfl rfl ?_
      refine gf_X0_18 C hj dX0_meetAll_29 ?_
      refine r_iload_n C dX0_meetAll_32 2 2 rfl rfl ?_
      refine r_guard (fun h4 => ?_)
      refine ald_I3 (v := (σ (8 + 4 * ix x2))) C hj h4 (sR_at _ _ _ _) dX0_meetAll_33 ?_
      refine r_ic_ne (tgt := 43) C dX0_meetAll_34 (by decide) (fun c5 => ?_) (fun c5 => ?_)
      · refine r_iinc (v := (x2 + 1)) (lv' := [(2, .int (x2 + 1)), (0, .ref (zA Z j 0)), (1, .int x1)]) C dX0_meetAll_43 2 rfl rfl (by decide) rfl ?_
        refine r_goto (tgt := 14) C dX0_meetAll_46 (by decide) ?_
        refine r_lv [1, 2, 0] (lv' := [(0, .ref (zA Z j 0)), (1, .int x1), (2, .int (x2 + 1))]) rfl ?_
        exact ih σ x1 (x2 + 1)
      · refine r_aload_n C dX0_meetAll_37 0 0 rfl rfl ?_
        refine r_iload_n C dX0_meetAll_38 1 1 rfl rfl ?_
        refine r_iload_n C dX0_meetAll_39 2 2 rfl rfl ?_
        refine r_bind (fun a6 ha6 => ?_)
        refine r_callV (rest := []) (st2 := []) C (mX0_meetTwo (eL E) C.z hj _ _ σ x1 x2 a6 ha6) lk_X0_85 (rvI C hj) (by decide) rfl rfl (Nat.le_of_ble_eq_true rfl) dX0_meetAll_40 rfl ?_
        refine r_iinc (v := (x2 + 1)) (lv' := [(2, .int (x2 + 1)), (0, .ref (zA Z j 0)), (1, .int x1)]) C dX0_meetAll_43 2 rfl rfl (by decide) rfl ?_
        refine r_goto (tgt := 14) C dX0_meetAll_46 (by decide) ?_
        refine r_lv [1, 2, 0] (lv' := [(0, .ref (zA Z j 0)), (1, .int x1), (2, .int (x2 + 1))]) rfl ?_
        exact ih a6 x1 (x2 + 1)
noncomputable def fX0_meetAll_49  (r2 : (Nat → Int32) → Int32 → Option ((Nat → Int32))) (σ : Nat → Int32) (x1 : Int32) : Option ((Nat → Int32)) := (r2 σ (x1 + 1))
theorem bX0_meetAll_49 {Z : Zt} {E : Ec} {M0 : Mi} {N : Ml} {j : Nat} (C : Ok 1 Z E cX0_meetAll 3 RX0 none 2) (hj : j < 4) (r2 : (Nat → Int32) → Int32 → Option ((Nat → Int32))) (hr2 : ∀ (σ : Nat → Int32) (x1 : Int32), GT Z E 3 (finX0_meetAll M0 N j) 2 [(0, .ref (zA Z j 0)), (1, .int x1)] [] (sR M0 j σ) N (r2 σ x1)) (σ : Nat → Int32) (x1 : Int32)  : GT Z E 3 (finX0_meetAll M0 N j) 49 [(0, .ref (zA Z j 0)), (1, .int x1)] [] (sR M0 j σ) N (fX0_meetAll_49 r2 σ x1) := by
  unfold fX0_meetAll_49
  refine r_iinc (v := (x1 + 1)) (lv' := [(1, .int (x1 + 1)), (0, .ref (zA Z j 0))]) C dX0_meetAll_49 1 rfl rfl (by decide) rfl ?_
  refine r_goto (tgt := 2) C dX0_meetAll_52 (by decide) ?_
  refine r_lv [1, 0] (lv' := [(0, .ref (zA Z j 0)), (1, .int (x1 + 1))]) rfl ?_
  exact hr2 σ (x1 + 1)
noncomputable def fX0_meetAll_2   : Nat → (Nat → Int32) → Int32 → Option ((Nat → Int32))
  | 0 => fun _ _ => none
  | n + 1 => fun σ x1 => (if (σ 1) ≤ x1 then (some σ) else (fX0_meetAll_14 (fX0_meetAll_49 (fX0_meetAll_2 n)) fu σ x1 (x1 + 1)))
theorem bX0_meetAll_2 {Z : Zt} {E : Ec} {M0 : Mi} {N : Ml} {j : Nat} (C : Ok 1 Z E cX0_meetAll 3 RX0 none 2) (hj : j < 4)   : ∀ (n : Nat) (σ : Nat → Int32) (x1 : Int32), GT Z E 3 (finX0_meetAll M0 N j) 2 [(0, .ref (zA Z j 0)), (1, .int x1)] [] (sR M0 j σ) N (fX0_meetAll_2 n σ x1) := by
  intro n
  induction n with
  | zero => intro σ x1; exact r_none
  | succ n ih =>
    intro σ x1
    rw [fX0_meetAll_2]
    refine r_iload_n C dX0_meetAll_2 1 1 rfl rfl ?_
    refine r_aload_n C dX0_meetAll_3 0 0 rfl rfl ?_
    refine gf_X0_38 (v := (σ 1)) C hj dX0_meetAll_4 (sR_at _ _ _ _) ?_
    refine r_ic_ge (tgt := 55) C dX0_meetAll_7 (by decide) (fun c1 => ?_) (fun c1 => ?_)
    · exact r_vret C dX0_meetAll_55 rfl
    · refine r_iload_n C dX0_meetAll_10 1 1 rfl rfl ?_
      refine r_iconst (v := 1) C dX0_meetAll_11 (by decide) ?_
      refine r_iadd C dX0_meetAll_12 ?_
      refine r_istore_n (lv' := [(2, .int (x1 + 1)), (0, .ref (zA Z j 0)), (1, .int x1)]) C dX0_meetAll_13 2 rfl (by decide) rfl ?_
      refine r_lv [1, 2, 0] (lv' := [(0, .ref (zA Z j 0)), (1, .int x1), (2, .int (x1 + 1))]) rfl ?_
      exact bX0_meetAll_14 C hj (fX0_meetAll_49 (fX0_meetAll_2 n)) (bX0_meetAll_49 C hj (fX0_meetAll_2 n) ih) fu σ x1 (x1 + 1)
noncomputable def fX0_meetAll   (σ : Nat → Int32) : Option ((Nat → Int32)) := (fX0_meetAll_2 fu σ 0)
theorem bX0_meetAll {Z : Zt} {E : Ec} {M0 : Mi} {N : Ml} {j : Nat} (C : Ok 1 Z E cX0_meetAll 3 RX0 none 2) (hj : j < 4)   (σ : Nat → Int32)  : GT Z E 3 (finX0_meetAll M0 N j) 0 [(0, .ref (zA Z j 0))] [] (sR M0 j σ) N (fX0_meetAll σ) := by
  unfold fX0_meetAll
  refine r_iconst (v := 0) C dX0_meetAll_0 (by decide) ?_
  refine r_istore_n (lv' := [(1, .int 0), (0, .ref (zA Z j 0))]) C dX0_meetAll_1 1 rfl (by decide) rfl ?_
  refine r_lv [1, 0] (lv' := [(0, .ref (zA Z j 0)), (1, .int 0)]) rfl ?_
  exact bX0_meetAll_2 C hj fu σ 0
theorem mX0_meetAll (l : Launch) {Z : Zt} (hZ : Zok 1 Z) {j : Nat} (hj : j < 4) (M0 : Mi) (N : Ml) (σ : Nat → Int32) (b : (Nat → Int32)) (hb : fX0_meetAll σ = some b) : Ct 1 Z l yX0_meetAll cX0_meetAll 3 none 2 [.ref (zA Z j 0)] (sR M0 j σ) N (none, sR M0 j (b), N) :=
  metG (fin := (finX0_meetAll M0 N j)) (by decide) (Nat.le_of_ble_eq_true rfl) (fun E _ C => bX0_meetAll C hj σ) hb
theorem dX0_goAnHour_0 : decode cX0_goAnHour 0 = .ok (.iconst 0, 1) := by decide +kernel
theorem dX0_goAnHour_1 : decode cX0_goAnHour 1 = .ok (.istore_n 1, 1) := by decide +kernel
theorem dX0_goAnHour_2 : decode cX0_goAnHour 2 = .ok (.iload_n 1, 1) := by decide +kernel
theorem dX0_goAnHour_3 : decode cX0_goAnHour 3 = .ok (.aload_n 0, 1) := by decide +kernel
theorem dX0_goAnHour_4 : decode cX0_goAnHour 4 = .ok (.getfield 38, 3) := by decide +kernel
theorem dX0_goAnHour_7 : decode cX0_goAnHour 7 = .ok (.if_icmp .ge 14, 3) := by decide +kernel
theorem dX0_goAnHour_10 : decode cX0_goAnHour 10 = .ok (.aload_n 0, 1) := by decide +kernel
theorem dX0_goAnHour_11 : decode cX0_goAnHour 11 = .ok (.iload_n 1, 1) := by decide +kernel
theorem dX0_goAnHour_12 : decode cX0_goAnHour 12 = .ok (.invokevirtual 65, 3) := by decide +kernel
theorem dX0_goAnHour_15 : decode cX0_goAnHour 15 = .ok (.iinc 1 1, 3) := by decide +kernel
theorem dX0_goAnHour_18 : decode cX0_goAnHour 18 = .ok (.goto (-16), 3) := by decide +kernel
theorem dX0_goAnHour_21 : decode cX0_goAnHour 21 = .ok (.aload_n 0, 1) := by decide +kernel
theorem dX0_goAnHour_22 : decode cX0_goAnHour 22 = .ok (.invokevirtual 69, 3) := by decide +kernel
theorem dX0_goAnHour_25 : decode cX0_goAnHour 25 = .ok (.aload_n 0, 1) := by decide +kernel
theorem dX0_goAnHour_26 : decode cX0_goAnHour 26 = .ok (.dup, 1) := by decide +kernel
theorem dX0_goAnHour_27 : decode cX0_goAnHour 27 = .ok (.getfield 35, 3) := by decide +kernel
theorem dX0_goAnHour_30 : decode cX0_goAnHour 30 = .ok (.iconst 1, 1) := by decide +kernel
theorem dX0_goAnHour_31 : decode cX0_goAnHour 31 = .ok (.iadd, 1) := by decide +kernel
theorem dX0_goAnHour_32 : decode cX0_goAnHour 32 = .ok (.putfield 35, 3) := by decide +kernel
theorem dX0_goAnHour_35 : decode cX0_goAnHour 35 = .ok (.return_, 1) := by decide +kernel
def finX0_goAnHour (M0 : Mi) (N : Ml) (j : Nat) : (Nat → Int32) → Option Value × Mi × Ml := fun b => (none, sR M0 j (b), N)
noncomputable def fX0_goAnHour_2   : Nat → (Nat → Int32) → Int32 → Option ((Nat → Int32))
  | 0 => fun _ _ => none
  | n + 1 => fun σ x1 => (if (σ 1) ≤ x1 then (Option.bind (fX0_meetAll σ) (fun a2 => (some (upd a2 0 ((a2 0) + 1))))) else (Option.bind (fX0_walk σ x1) (fun a3 => ((fX0_goAnHour_2 n) a3 (x1 + 1)))))
theorem bX0_goAnHour_2 {Z : Zt} {E : Ec} {M0 : Mi} {N : Ml} {j : Nat} (C : Ok 1 Z E cX0_goAnHour 2 RX0 none 3) (hj : j < 4)   : ∀ (n : Nat) (σ : Nat → Int32) (x1 : Int32), GT Z E 2 (finX0_goAnHour M0 N j) 2 [(0, .ref (zA Z j 0)), (1, .int x1)] [] (sR M0 j σ) N (fX0_goAnHour_2 n σ x1) := by
  intro n
  induction n with
  | zero => intro σ x1; exact r_none
  | succ n ih =>
    intro σ x1
    rw [fX0_goAnHour_2]
    refine r_iload_n C dX0_goAnHour_2 1 1 rfl rfl ?_
    refine r_aload_n C dX0_goAnHour_3 0 0 rfl rfl ?_
    refine gf_X0_38 (v := (σ 1)) C hj dX0_goAnHour_4 (sR_at _ _ _ _) ?_
    refine r_ic_ge (tgt := 21) C dX0_goAnHour_7 (by decide) (fun c1 => ?_) (fun c1 => ?_)
    · refine r_aload_n C dX0_goAnHour_21 0 0 rfl rfl ?_
      refine r_bind (fun a2 ha2 => ?_)
      refine r_callV (rest := []) (st2 := []) C (mX0_meetAll (eL E) C.z hj _ _ σ a2 ha2) lk_X0_69 (rvI C hj) (by decide) rfl rfl (Nat.le_of_ble_eq_true rfl) dX0_goAnHour_22 rfl ?_
      refine r_aload_n C dX0_goAnHour_25 0 0 rfl rfl ?_
      refine r_dup C dX0_goAnHour_26 rfl ?_
      refine gf_X0_35 (v := (a2 0)) C hj dX0_goAnHour_27 (sR_at _ _ _ _) ?_
      refine r_iconst (v := 1) C dX0_goAnHour_30 (by decide) ?_
      refine r_iadd C dX0_goAnHour_31 ?_
      refine pf_X0_35 (M' := (sR M0 j (upd a2 0 ((a2 0) + 1)))) C hj dX0_goAnHour_32 (wM_sR _ _ _ _ _) ?_
      exact r_vret C dX0_goAnHour_35 rfl
    · refine r_aload_n C dX0_goAnHour_10 0 0 rfl rfl ?_
      refine r_iload_n C dX0_goAnHour_11 1 1 rfl rfl ?_
      refine r_bind (fun a3 ha3 => ?_)
      refine r_callV (rest := []) (st2 := []) C (mX0_walk (eL E) C.z hj _ _ σ x1 a3 ha3) lk_X0_65 (rvI C hj) (by decide) rfl rfl (Nat.le_of_ble_eq_true rfl) dX0_goAnHour_12 rfl ?_
      refine r_iinc (v := (x1 + 1)) (lv' := [(1, .int (x1 + 1)), (0, .ref (zA Z j 0))]) C dX0_goAnHour_15 1 rfl rfl (by decide) rfl ?_
      refine r_goto (tgt := 2) C dX0_goAnHour_18 (by decide) ?_
      refine r_lv [1, 0] (lv' := [(0, .ref (zA Z j 0)), (1, .int (x1 + 1))]) rfl ?_
      exact ih a3 (x1 + 1)
noncomputable def fX0_goAnHour   (σ : Nat → Int32) : Option ((Nat → Int32)) := (fX0_goAnHour_2 fu σ 0)
theorem bX0_goAnHour {Z : Zt} {E : Ec} {M0 : Mi} {N : Ml} {j : Nat} (C : Ok 1 Z E cX0_goAnHour 2 RX0 none 3) (hj : j < 4)   (σ : Nat → Int32)  : GT Z E 2 (finX0_goAnHour M0 N j) 0 [(0, .ref (zA Z j 0))] [] (sR M0 j σ) N (fX0_goAnHour σ) := by
  unfold fX0_goAnHour
  refine r_iconst (v := 0) C dX0_goAnHour_0 (by decide) ?_
  refine r_istore_n (lv' := [(1, .int 0), (0, .ref (zA Z j 0))]) C dX0_goAnHour_1 1 rfl (by decide) rfl ?_
  refine r_lv [1, 0] (lv' := [(0, .ref (zA Z j 0)), (1, .int 0)]) rfl ?_
  exact bX0_goAnHour_2 C hj fu σ 0
theorem mX0_goAnHour (l : Launch) {Z : Zt} (hZ : Zok 1 Z) {j : Nat} (hj : j < 4) (M0 : Mi) (N : Ml) (σ : Nat → Int32) (b : (Nat → Int32)) (hb : fX0_goAnHour σ = some b) : Ct 1 Z l yX0_goAnHour cX0_goAnHour 2 none 3 [.ref (zA Z j 0)] (sR M0 j σ) N (none, sR M0 j (b), N) :=
  metG (fin := (finX0_goAnHour M0 N j)) (by decide) (Nat.le_of_ble_eq_true rfl) (fun E _ C => bX0_goAnHour C hj σ) hb
theorem dX0_goHours_0 : decode cX0_goHours 0 = .ok (.iconst 0, 1) := by decide +kernel
theorem dX0_goHours_1 : decode cX0_goHours 1 = .ok (.istore_n 2, 1) := by decide +kernel
theorem dX0_goHours_2 : decode cX0_goHours 2 = .ok (.iload_n 2, 1) := by decide +kernel
theorem dX0_goHours_3 : decode cX0_goHours 3 = .ok (.iload_n 1, 1) := by decide +kernel
theorem dX0_goHours_4 : decode cX0_goHours 4 = .ok (.if_icmp .ge 13, 3) := by decide +kernel
theorem dX0_goHours_7 : decode cX0_goHours 7 = .ok (.aload_n 0, 1) := by decide +kernel
theorem dX0_goHours_8 : decode cX0_goHours 8 = .ok (.invokevirtual 62, 3) := by decide +kernel
theorem dX0_goHours_11 : decode cX0_goHours 11 = .ok (.iinc 2 1, 3) := by decide +kernel
theorem dX0_goHours_14 : decode cX0_goHours 14 = .ok (.goto (-12), 3) := by decide +kernel
theorem dX0_goHours_17 : decode cX0_goHours 17 = .ok (.return_, 1) := by decide +kernel
def finX0_goHours (M0 : Mi) (N : Ml) (j : Nat) : (Nat → Int32) → Option Value × Mi × Ml := fun b => (none, sR M0 j (b), N)
noncomputable def fX0_goHours_2   : Nat → (Nat → Int32) → Int32 → Int32 → Option ((Nat → Int32))
  | 0 => fun _ _ _ => none
  | n + 1 => fun σ x1 x2 => (if x1 ≤ x2 then (some σ) else (Option.bind (fX0_goAnHour σ) (fun a2 => ((fX0_goHours_2 n) a2 x1 (x2 + 1)))))
theorem bX0_goHours_2 {Z : Zt} {E : Ec} {M0 : Mi} {N : Ml} {j : Nat} (C : Ok 1 Z E cX0_goHours 3 RX0 none 4) (hj : j < 4)   : ∀ (n : Nat) (σ : Nat → Int32) (x1 : Int32) (x2 : Int32), GT Z E 3 (finX0_goHours M0 N j) 2 [(0, .ref (zA Z j 0)), (1, .int x1), (2, .int x2)] [] (sR M0 j σ) N (fX0_goHours_2 n σ x1 x2) := by
  intro n
  induction n with
  | zero => intro σ x1 x2; exact r_none
  | succ n ih =>
    intro σ x1 x2
    rw [fX0_goHours_2]
    refine r_iload_n C dX0_goHours_2 2 2 rfl rfl ?_
    refine r_iload_n C dX0_goHours_3 1 1 rfl rfl ?_
    refine r_ic_ge (tgt := 17) C dX0_goHours_4 (by decide) (fun c1 => ?_) (fun c1 => ?_)
    · exact r_vret C dX0_goHours_17 rfl
    · refine r_aload_n C dX0_goHours_7 0 0 rfl rfl ?_
      refine r_bind (fun a2 ha2 => ?_)
      refine r_callV (rest := []) (st2 := []) C (mX0_goAnHour (eL E) C.z hj _ _ σ a2 ha2) lk_X0_62 (rvI C hj) (by decide) rfl rfl (Nat.le_of_ble_eq_true rfl) dX0_goHours_8 rfl ?_
      refine r_iinc (v := (x2 + 1)) (lv' := [(2, .int (x2 + 1)), (0, .ref (zA Z j 0)), (1, .int x1)]) C dX0_goHours_11 2 rfl rfl (by decide) rfl ?_
      refine r_goto (tgt := 2) C dX0_goHours_14 (by decide) ?_
      refine r_lv [1, 2, 0] (lv' := [(0, .ref (zA Z j 0)), (1, .int x1), (2, .int (x2 + 1))]) rfl ?_
      exact ih a2 x1 (x2 + 1)
noncomputable def fX0_goHours   (σ : Nat → Int32) (x1 : Int32) : Option ((Nat → Int32)) := (fX0_goHours_2 fu σ x1 0)
theorem bX0_goHours {Z : Zt} {E : Ec} {M0 : Mi} {N : Ml} {j : Nat} (C : Ok 1 Z E cX0_goHours 3 RX0 none 4) (hj : j < 4)   (σ : Nat → Int32) (x1 : Int32)  : GT Z E 3 (finX0_goHours M0 N j) 0 [(0, .ref (zA Z j 0)), (1, .int x1)] [] (sR M0 j σ) N (fX0_goHours σ x1) := by
  unfold fX0_goHours
  refine r_iconst (v := 0) C dX0_goHours_0 (by decide) ?_
  refine r_istore_n (lv' := [(2, .int 0), (0, .ref (zA Z j 0)), (1, .int x1)]) C dX0_goHours_1 2 rfl (by decide) rfl ?_
  refine r_lv [1, 2, 0] (lv' := [(0, .ref (zA Z j 0)), (1, .int x1), (2, .int 0)]) rfl ?_
  exact bX0_goHours_2 C hj fu σ x1 0
theorem mX0_goHours (l : Launch) {Z : Zt} (hZ : Zok 1 Z) {j : Nat} (hj : j < 4) (M0 : Mi) (N : Ml) (σ : Nat → Int32) (x1 : Int32) (b : (Nat → Int32)) (hb : fX0_goHours σ x1 = some b) : Ct 1 Z l yX0_goHours cX0_goHours 3 none 4 [.ref (zA Z j 0), .int x1] (sR M0 j σ) N (none, sR M0 j (b), N) :=
  metG (fin := (finX0_goHours M0 N j)) (by decide) (Nat.le_of_ble_eq_true rfl) (fun E _ C => bX0_goHours C hj σ x1) hb
theorem dX0_goAlone_0 : decode cX0_goAlone 0 = .ok (.aload_n 0, 1) := by decide +kernel
theorem dX0_goAlone_1 : decode cX0_goAlone 1 = .ok (.iload_n 1, 1) := by decide +kernel
theorem dX0_goAlone_2 : decode cX0_goAlone 2 = .ok (.invokevirtual 65, 3) := by decide +kernel
theorem dX0_goAlone_5 : decode cX0_goAlone 5 = .ok (.aload_n 0, 1) := by decide +kernel
theorem dX0_goAlone_6 : decode cX0_goAlone 6 = .ok (.dup, 1) := by decide +kernel
theorem dX0_goAlone_7 : decode cX0_goAlone 7 = .ok (.getfield 35, 3) := by decide +kernel
theorem dX0_goAlone_10 : decode cX0_goAlone 10 = .ok (.iconst 1, 1) := by decide +kernel
theorem dX0_goAlone_11 : decode cX0_goAlone 11 = .ok (.iadd, 1) := by decide +kernel
theorem dX0_goAlone_12 : decode cX0_goAlone 12 = .ok (.putfield 35, 3) := by decide +kernel
theorem dX0_goAlone_15 : decode cX0_goAlone 15 = .ok (.return_, 1) := by decide +kernel
def finX0_goAlone (M0 : Mi) (N : Ml) (j : Nat) : (Nat → Int32) → Option Value × Mi × Ml := fun b => (none, sR M0 j (b), N)
noncomputable def fX0_goAlone   (σ : Nat → Int32) (x1 : Int32) : Option ((Nat → Int32)) := (Option.bind (fX0_walk σ x1) (fun a1 => (some (upd a1 0 ((a1 0) + 1)))))
theorem bX0_goAlone {Z : Zt} {E : Ec} {M0 : Mi} {N : Ml} {j : Nat} (C : Ok 1 Z E cX0_goAlone 2 RX0 none 3) (hj : j < 4)   (σ : Nat → Int32) (x1 : Int32)  : GT Z E 2 (finX0_goAlone M0 N j) 0 [(0, .ref (zA Z j 0)), (1, .int x1)] [] (sR M0 j σ) N (fX0_goAlone σ x1) := by
  unfold fX0_goAlone
  refine r_aload_n C dX0_goAlone_0 0 0 rfl rfl ?_
  refine r_iload_n C dX0_goAlone_1 1 1 rfl rfl ?_
  refine r_bind (fun a1 ha1 => ?_)
  refine r_callV (rest := []) (st2 := []) C (mX0_walk (eL E) C.z hj _ _ σ x1 a1 ha1) lk_X0_65 (rvI C hj) (by decide) rfl rfl (Nat.le_of_ble_eq_true rfl) dX0_goAlone_2 rfl ?_
  refine r_aload_n C dX0_goAlone_5 0 0 rfl rfl ?_
  refine r_dup C dX0_goAlone_6 rfl ?_
  refine gf_X0_35 (v := (a1 0)) C hj dX0_goAlone_7 (sR_at _ _ _ _) ?_
  refine r_iconst (v := 1) C dX0_goAlone_10 (by decide) ?_
  refine r_iadd C dX0_goAlone_11 ?_
  refine pf_X0_35 (M' := (sR M0 j (upd a1 0 ((a1 0) + 1)))) C hj dX0_goAlone_12 (wM_sR _ _ _ _ _) ?_
  exact r_vret C dX0_goAlone_15 rfl
theorem mX0_goAlone (l : Launch) {Z : Zt} (hZ : Zok 1 Z) {j : Nat} (hj : j < 4) (M0 : Mi) (N : Ml) (σ : Nat → Int32) (x1 : Int32) (b : (Nat → Int32)) (hb : fX0_goAlone σ x1 = some b) : Ct 1 Z l yX0_goAlone cX0_goAlone 2 none 3 [.ref (zA Z j 0), .int x1] (sR M0 j σ) N (none, sR M0 j (b), N) :=
  metG (fin := (finX0_goAlone M0 N j)) (by decide) (Nat.le_of_ble_eq_true rfl) (fun E _ C => bX0_goAlone C hj σ x1) hb
theorem dX0_hoursTill_0 : decode cX0_hoursTill 0 = .ok (.iconst 0, 1) := by decide +kernel
theorem dX0_hoursTill_1 : decode cX0_hoursTill 1 = .ok (.istore 4, 2) := by decide +kernel
theorem dX0_hoursTill_3 : decode cX0_hoursTill 3 = .ok (.iload 4, 2) := by decide +kernel
theorem dX0_hoursTill_5 : decode cX0_hoursTill 5 = .ok (.iload_n 3, 1) := by decide +kernel
theorem dX0_hoursTill_6 : decode cX0_hoursTill 6 = .ok (.if_icmp .gt 27, 3) := by decide +kernel
theorem dX0_hoursTill_9 : decode cX0_hoursTill 9 = .ok (.aload_n 0, 1) := by decide +kernel
theorem dX0_hoursTill_10 : decode cX0_hoursTill 10 = .ok (.getfield 18, 3) := by decide +kernel
theorem dX0_hoursTill_13 : decode cX0_hoursTill 13 = .ok (.iload_n 1, 1) := by decide +kernel
theorem dX0_hoursTill_14 : decode cX0_hoursTill 14 = .ok (.iaload, 1) := by decide +kernel
theorem dX0_hoursTill_15 : decode cX0_hoursTill 15 = .ok (.iload_n 2, 1) := by decide +kernel
theorem dX0_hoursTill_16 : decode cX0_hoursTill 16 = .ok (.if_icmp .ne 6, 3) := by decide +kernel
theorem dX0_hoursTill_19 : decode cX0_hoursTill 19 = .ok (.iload 4, 2) := by decide +kernel
theorem dX0_hoursTill_21 : decode cX0_hoursTill 21 = .ok (.ireturn, 1) := by decide +kernel
theorem dX0_hoursTill_22 : decode cX0_hoursTill 22 = .ok (.aload_n 0, 1) := by decide +kernel
theorem dX0_hoursTill_23 : decode cX0_hoursTill 23 = .ok (.iload_n 1, 1) := by decide +kernel
theorem dX0_hoursTill_24 : decode cX0_hoursTill 24 = .ok (.invokevirtual 93, 3) := by decide +kernel
theorem dX0_hoursTill_27 : decode cX0_hoursTill 27 = .ok (.iinc 4 1, 3) := by decide +kernel
theorem dX0_hoursTill_30 : decode cX0_hoursTill 30 = .ok (.goto (-27), 3) := by decide +kernel
theorem dX0_hoursTill_33 : decode cX0_hoursTill 33 = .ok (.iconst (-1), 1) := by decide +kernel
theorem dX0_hoursTill_34 : decode cX0_hoursTill 34 = .ok (.ireturn, 1) := by decide +kernel
def finX0_hoursTill (M0 : Mi) (N : Ml) (j : Nat) : Int32 × (Nat → Int32) → Option Value × Mi × Ml := fun b => (some (Value.int b.1), sR M0 j (b.2), N)
noncomputable def fX0_hoursTill_3   : Nat → (Nat → Int32) → Int32 → Int32 → Int32 → Int32 → Option (Int32 × (Nat → Int32))
  | 0 => fun _ _ _ _ _ => none
  | n + 1 => fun σ x1 x2 x3 x4 => (if x3 < x4 then (some ((-1), σ)) else (if inb x1 8 then (if (σ (8 + 4 * ix x1)) = x2 then (some (x4, σ)) else (Option.bind (fX0_goAlone σ x1) (fun a4 => ((fX0_hoursTill_3 n) a4 x1 x2 x3 (x4 + 1))))) else none))
theorem bX0_hoursTill_3 {Z : Zt} {E : Ec} {M0 : Mi} {N : Ml} {j : Nat} (C : Ok 1 Z E cX0_hoursTill 5 RX0 (some .int) 4) (hj : j < 4)   : ∀ (n : Nat) (σ : Nat → Int32) (x1 : Int32) (x2 : Int32) (x3 : Int32) (x4 : Int32), GT Z E 5 (finX0_hoursTill M0 N j) 3 [(0, .ref (zA Z j 0)), (1, .int x1), (2, .int x2), (3, .int x3), (4, .int x4)] [] (sR M0 j σ) N (fX0_hoursTill_3 n σ x1 x2 x3 x4) := by
  intro n
  induction n with
  | zero => intro σ x1 x2 x3 x4; exact r_none
  | succ n ih =>
    intro σ x1 x2 x3 x4
    rw [fX0_hoursTill_3]
    refine r_iload C dX0_hoursTill_3 4 rfl ?_
    refine r_iload_n C dX0_hoursTill_5 3 3 rfl rfl ?_
    refine r_ic_gt (tgt := 33) C dX0_hoursTill_6 (by decide) (fun c1 => ?_) (fun c1 => ?_)
    · refine r_iconst (v := (-1)) C dX0_hoursTill_33 (by decide) ?_
      exact r_iret C dX0_hoursTill_34 rfl
    · refine r_aload_n C dX0_hoursTill_9 0 0 rfl rfl ?_
      refine gf_X0_18 C hj dX0_hoursTill_10 ?_
      refine r_iload_n C dX0_hoursTill_13 1 1 rfl rfl ?_
      refine r_guard (fun h2 => ?_)
      refine ald_I3 (v := (σ (8 + 4 * ix x1))) C hj h2 (sR_at _ _ _ _) dX0_hoursTill_14 ?_
      refine r_iload_n C dX0_hoursTill_15 2 2 rfl rfl ?_
      refine r_ic_ne (tgt := 22) C dX0_hoursTill_16 (by decide) (fun c3 => ?_) (fun c3 => ?_)
      · refine r_aload_n C dX0_hoursTill_22 0 0 rfl rfl ?_
        refine r_iload_n C dX0_hoursTill_23 1 1 rfl rfl ?_
        refine r_bind (fun a4 ha4 => ?_)
        refine r_callV (rest := []) (st2 := []) C (mX0_goAlone (eL E) C.z hj _ _ σ x1 a4 ha4) lk_X0_93 (rvI C hj) (by decide) rfl rfl (Nat.le_of_ble_eq_true rfl) dX0_hoursTill_24 rfl ?_
        refine r_iinc (v := (x4 + 1)) (lv' := [(4, .int (x4 + 1)), (0, .ref (zA Z j 0)), (1, .int x1), (2, .int x2), (3, .int x3)]) C dX0_hoursTill_27 4 rfl rfl (by decide) rfl ?_
        refine r_goto (tgt := 3) C dX0_hoursTill_30 (by decide) ?_
        refine r_lv [1, 2, 3, 4, 0] (lv' := [(0, .ref (zA Z j 0)), (1, .int x1), (2, .int x2), (3, .int x3), (4, .int (x4 + 1))]) rfl ?_
        exact ih a4 x1 x2 x3 (x4 + 1)
      · refine r_iload C dX0_hoursTill_19 4 rfl ?_
        exact r_iret C dX0_hoursTill_21 rfl
noncomputable def fX0_hoursTill   (σ : Nat → Int32) (x1 : Int32) (x2 : Int32) (x3 : Int32) : Option (Int32 × (Nat → Int32)) := (fX0_hoursTill_3 fu σ x1 x2 x3 0)
theorem bX0_hoursTill {Z : Zt} {E : Ec} {M0 : Mi} {N : Ml} {j : Nat} (C : Ok 1 Z E cX0_hoursTill 5 RX0 (some .int) 4) (hj : j < 4)   (σ : Nat → Int32) (x1 : Int32) (x2 : Int32) (x3 : Int32)  : GT Z E 5 (finX0_hoursTill M0 N j) 0 [(0, .ref (zA Z j 0)), (1, .int x1), (2, .int x2), (3, .int x3)] [] (sR M0 j σ) N (fX0_hoursTill σ x1 x2 x3) := by
  unfold fX0_hoursTill
  refine r_iconst (v := 0) C dX0_hoursTill_0 (by decide) ?_
  refine r_istore (lv' := [(4, .int 0), (0, .ref (zA Z j 0)), (1, .int x1), (2, .int x2), (3, .int x3)]) C dX0_hoursTill_1 (by decide) rfl ?_
  refine r_lv [1, 2, 3, 4, 0] (lv' := [(0, .ref (zA Z j 0)), (1, .int x1), (2, .int x2), (3, .int x3), (4, .int 0)]) rfl ?_
  exact bX0_hoursTill_3 C hj fu σ x1 x2 x3 0
theorem mX0_hoursTill (l : Launch) {Z : Zt} (hZ : Zok 1 Z) {j : Nat} (hj : j < 4) (M0 : Mi) (N : Ml) (σ : Nat → Int32) (x1 : Int32) (x2 : Int32) (x3 : Int32) (b : Int32 × (Nat → Int32)) (hb : fX0_hoursTill σ x1 x2 x3 = some b) : Ct 1 Z l yX0_hoursTill cX0_hoursTill 5 (some .int) 4 [.ref (zA Z j 0), .int x1, .int x2, .int x3] (sR M0 j σ) N (some (Value.int b.1), sR M0 j (b.2), N) :=
  metG (fin := (finX0_hoursTill M0 N j)) (by decide) (Nat.le_of_ble_eq_true rfl) (fun E _ C => bX0_hoursTill C hj σ x1 x2 x3) hb
theorem dX0_hoursTillTogether_0 : decode cX0_hoursTillTogether 0 = .ok (.iconst 0, 1) := by decide +kernel
theorem dX0_hoursTillTogether_1 : decode cX0_hoursTillTogether 1 = .ok (.istore 4, 2) := by decide +kernel
theorem dX0_hoursTillTogether_3 : decode cX0_hoursTillTogether 3 = .ok (.iload 4, 2) := by decide +kernel
theorem dX0_hoursTillTogether_5 : decode cX0_hoursTillTogether 5 = .ok (.iload_n 3, 1) := by decide +kernel
theorem dX0_hoursTillTogether_6 : decode cX0_hoursTillTogether 6 = .ok (.if_icmp .gt 31, 3) := by decide +kernel
theorem dX0_hoursTillTogether_9 : decode cX0_hoursTillTogether 9 = .ok (.aload_n 0, 1) := by decide +kernel
theorem dX0_hoursTillTogether_10 : decode cX0_hoursTillTogether 10 = .ok (.getfield 18, 3) := by decide +kernel
theorem dX0_hoursTillTogether_13 : decode cX0_hoursTillTogether 13 = .ok (.iload_n 1, 1) := by decide +kernel
theorem dX0_hoursTillTogether_14 : decode cX0_hoursTillTogether 14 = .ok (.iaload, 1) := by decide +kernel
theorem dX0_hoursTillTogether_15 : decode cX0_hoursTillTogether 15 = .ok (.aload_n 0, 1) := by decide +kernel
theorem dX0_hoursTillTogether_16 : decode cX0_hoursTillTogether 16 = .ok (.getfield 18, 3) := by decide +kernel
theorem dX0_hoursTillTogether_19 : decode cX0_hoursTillTogether 19 = .ok (.iload_n 2, 1) := by decide +kernel
theorem dX0_hoursTillTogether_20 : decode cX0_hoursTillTogether 20 = .ok (.iaload, 1) := by decide +kernel
theorem dX0_hoursTillTogether_21 : decode cX0_hoursTillTogether 21 = .ok (.if_icmp .ne 6, 3) := by decide +kernel
theorem dX0_hoursTillTogether_24 : decode cX0_hoursTillTogether 24 = .ok (.iload 4, 2) := by decide +kernel
theorem dX0_hoursTillTogether_26 : decode cX0_hoursTillTogether 26 = .ok (.ireturn, 1) := by decide +kernel
theorem dX0_hoursTillTogether_27 : decode cX0_hoursTillTogether 27 = .ok (.aload_n 0, 1) := by decide +kernel
theorem dX0_hoursTillTogether_28 : decode cX0_hoursTillTogether 28 = .ok (.invokevirtual 62, 3) := by decide +kernel
theorem dX0_hoursTillTogether_31 : decode cX0_hoursTillTogether 31 = .ok (.iinc 4 1, 3) := by decide +kernel
theorem dX0_hoursTillTogether_34 : decode cX0_hoursTillTogether 34 = .ok (.goto (-31), 3) := by decide +kernel
theorem dX0_hoursTillTogether_37 : decode cX0_hoursTillTogether 37 = .ok (.iconst (-1), 1) := by decide +kernel
theorem dX0_hoursTillTogether_38 : decode cX0_hoursTillTogether 38 = .ok (.ireturn, 1) := by decide +kernel
def finX0_hoursTillTogether (M0 : Mi) (N : Ml) (j : Nat) : Int32 × (Nat → Int32) → Option Value × Mi × Ml := fun b => (some (Value.int b.1), sR M0 j (b.2), N)
noncomputable def fX0_hoursTillTogether_3   : Nat → (Nat → Int32) → Int32 → Int32 → Int32 → Int32 → Option (Int32 × (Nat → Int32))
  | 0 => fun _ _ _ _ _ => none
  | n + 1 => fun σ x1 x2 x3 x4 => (if x3 < x4 then (some ((-1), σ)) else (if inb x1 8 then (if inb x2 8 then (if (σ (8 + 4 * ix x1)) = (σ (8 + 4 * ix x2)) then (some (x4, σ)) else (Option.bind (fX0_goAnHour σ) (fun a5 => ((fX0_hoursTillTogether_3 n) a5 x1 x2 x3 (x4 + 1))))) else none) else none))
theorem bX0_hoursTillTogether_3 {Z : Zt} {E : Ec} {M0 : Mi} {N : Ml} {j : Nat} (C : Ok 1 Z E cX0_hoursTillTogether 5 RX0 (some .int) 4) (hj : j < 4)   : ∀ (n : Nat) (σ : Nat → Int32) (x1 : Int32) (x2 : Int32) (x3 : Int32) (x4 : Int32), GT Z E 5 (finX0_hoursTillTogether M0 N j) 3 [(0, .ref (zA Z j 0)), (1, .int x1), (2, .int x2), (3, .int x3), (4, .int x4)] [] (sR M0 j σ) N (fX0_hoursTillTogether_3 n σ x1 x2 x3 x4) := by
  intro n
  induction n with
  | zero => intro σ x1 x2 x3 x4; exact r_none
  | succ n ih =>
    intro σ x1 x2 x3 x4
    rw [fX0_hoursTillTogether_3]
    refine r_iload C dX0_hoursTillTogether_3 4 rfl ?_
    refine r_iload_n C dX0_hoursTillTogether_5 3 3 rfl rfl ?_
    refine r_ic_gt (tgt := 37) C dX0_hoursTillTogether_6 (by decide) (fun c1 => ?_) (fun c1 => ?_)
    · refine r_iconst (v := (-1)) C dX0_hoursTillTogether_37 (by decide) ?_
      exact r_iret C dX0_hoursTillTogether_38 rfl
    · refine r_aload_n C dX0_hoursTillTogether_9 0 0 rfl rfl ?_
      refine gf_X0_18 C hj dX0_hoursTillTogether_10 ?_
      refine r_iload_n C dX0_hoursTillTogether_13 1 1 rfl rfl ?_
      refine r_guard (fun h2 => ?_)
      refine ald_I3 (v := (σ (8 + 4 * ix x1))) C hj h2 (sR_at _ _ _ _) dX0_hoursTillTogether_14 ?_
      refine r_aload_n C dX0_hoursTillTogether_15 0 0 rfl rfl ?_
      refine gf_X0_18 C hj dX0_hoursTillTogether_16 ?_
      refine r_iload_n C dX0_hoursTillTogether_19 2 2 rfl rfl ?_
      refine r_guard (fun h3 => ?_)
      refine ald_I3 (v := (σ (8 + 4 * ix x2))) C hj h3 (sR_at _ _ _ _) dX0_hoursTillTogether_20 ?_
      refine r_ic_ne (tgt := 27) C dX0_hoursTillTogether_21 (by decide) (fun c4 => ?_) (fun c4 => ?_)
      · refine r_aload_n C dX0_hoursTillTogether_27 0 0 rfl rfl ?_
        refine r_bind (fun a5 ha5 => ?_)
        refine r_callV (rest := []) (st2 := []) C (mX0_goAnHour (eL E) C.z hj _ _ σ a5 ha5) lk_X0_62 (rvI C hj) (by decide) rfl rfl (Nat.le_of_ble_eq_true rfl) dX0_hoursTillTogether_28 rfl ?_
        refine r_iinc (v := (x4 + 1)) (lv' := [(4, .int (x4 + 1)), (0, .ref (zA Z j 0)), (1, .int x1), (2, .int x2), (3, .int x3)]) C dX0_hoursTillTogether_31 4 rfl rfl (by decide) rfl ?_
        refine r_goto (tgt := 3) C dX0_hoursTillTogether_34 (by decide) ?_
        refine r_lv [1, 2, 3, 4, 0] (lv' := [(0, .ref (zA Z j 0)), (1, .int x1), (2, .int x2), (3, .int x3), (4, .int (x4 + 1))]) rfl ?_
        exact ih a5 x1 x2 x3 (x4 + 1)
      · refine r_iload C dX0_hoursTillTogether_24 4 rfl ?_
        exact r_iret C dX0_hoursTillTogether_26 rfl
noncomputable def fX0_hoursTillTogether   (σ : Nat → Int32) (x1 : Int32) (x2 : Int32) (x3 : Int32) : Option (Int32 × (Nat → Int32)) := (fX0_hoursTillTogether_3 fu σ x1 x2 x3 0)
theorem bX0_hoursTillTogether {Z : Zt} {E : Ec} {M0 : Mi} {N : Ml} {j : Nat} (C : Ok 1 Z E cX0_hoursTillTogether 5 RX0 (some .int) 4) (hj : j < 4)   (σ : Nat → Int32) (x1 : Int32) (x2 : Int32) (x3 : Int32)  : GT Z E 5 (finX0_hoursTillTogether M0 N j) 0 [(0, .ref (zA Z j 0)), (1, .int x1), (2, .int x2), (3, .int x3)] [] (sR M0 j σ) N (fX0_hoursTillTogether σ x1 x2 x3) := by
  unfold fX0_hoursTillTogether
  refine r_iconst (v := 0) C dX0_hoursTillTogether_0 (by decide) ?_
  refine r_istore (lv' := [(4, .int 0), (0, .ref (zA Z j 0)), (1, .int x1), (2, .int x2), (3, .int x3)]) C dX0_hoursTillTogether_1 (by decide) rfl ?_
  refine r_lv [1, 2, 3, 4, 0] (lv' := [(0, .ref (zA Z j 0)), (1, .int x1), (2, .int x2), (3, .int x3), (4, .int 0)]) rfl ?_
  exact bX0_hoursTillTogether_3 C hj fu σ x1 x2 x3 0
theorem mX0_hoursTillTogether (l : Launch) {Z : Zt} (hZ : Zok 1 Z) {j : Nat} (hj : j < 4) (M0 : Mi) (N : Ml) (σ : Nat → Int32) (x1 : Int32) (x2 : Int32) (x3 : Int32) (b : Int32 × (Nat → Int32)) (hb : fX0_hoursTillTogether σ x1 x2 x3 = some b) : Ct 1 Z l yX0_hoursTillTogether cX0_hoursTillTogether 5 (some .int) 4 [.ref (zA Z j 0), .int x1, .int x2, .int x3] (sR M0 j σ) N (some (Value.int b.1), sR M0 j (b.2), N) :=
  metG (fin := (finX0_hoursTillTogether M0 N j)) (by decide) (Nat.le_of_ble_eq_true rfl) (fun E _ C => bX0_hoursTillTogether C hj σ x1 x2 x3) hb
theorem dX0_goesAsIn_0 : decode cX0_goesAsIn 0 = .ok (.iconst 0, 1) := by decide +kernel
theorem dX0_goesAsIn_1 : decode cX0_goesAsIn 1 = .ok (.istore_n 3, 1) := by decide +kernel
theorem dX0_goesAsIn_2 : decode cX0_goesAsIn 2 = .ok (.iload_n 3, 1) := by decide +kernel
theorem dX0_goesAsIn_3 : decode cX0_goesAsIn 3 = .ok (.aload_n 1, 1) := by decide +kernel
theorem dX0_goesAsIn_4 : decode cX0_goesAsIn 4 = .ok (.getfield 96, 3) := by decide +kernel
theorem dX0_goesAsIn_7 : decode cX0_goesAsIn 7 = .ok (.if_icmp .ge 33, 3) := by decide +kernel
theorem dX0_goesAsIn_10 : decode cX0_goesAsIn 10 = .ok (.aload_n 1, 1) := by decide +kernel
theorem dX0_goesAsIn_11 : decode cX0_goesAsIn 11 = .ok (.getfield 101, 3) := by decide +kernel
theorem dX0_goesAsIn_14 : decode cX0_goesAsIn 14 = .ok (.iload_n 3, 1) := by decide +kernel
theorem dX0_goesAsIn_15 : decode cX0_goesAsIn 15 = .ok (.laload, 1) := by decide +kernel
theorem dX0_goesAsIn_16 : decode cX0_goesAsIn 16 = .ok (.aload_n 0, 1) := by decide +kernel
theorem dX0_goesAsIn_17 : decode cX0_goesAsIn 17 = .ok (.getfield 18, 3) := by decide +kernel
theorem dX0_goesAsIn_20 : decode cX0_goesAsIn 20 = .ok (.iload_n 2, 1) := by decide +kernel
theorem dX0_goesAsIn_21 : decode cX0_goesAsIn 21 = .ok (.iaload, 1) := by decide +kernel
theorem dX0_goesAsIn_22 : decode cX0_goesAsIn 22 = .ok (.i2l, 1) := by decide +kernel
theorem dX0_goesAsIn_23 : decode cX0_goesAsIn 23 = .ok (.lcmp, 1) := by decide +kernel
theorem dX0_goesAsIn_24 : decode cX0_goesAsIn 24 = .ok (.ifCond .eq 5, 3) := by decide +kernel
theorem dX0_goesAsIn_27 : decode cX0_goesAsIn 27 = .ok (.iconst 0, 1) := by decide +kernel
theorem dX0_goesAsIn_28 : decode cX0_goesAsIn 28 = .ok (.ireturn, 1) := by decide +kernel
theorem dX0_goesAsIn_29 : decode cX0_goesAsIn 29 = .ok (.aload_n 0, 1) := by decide +kernel
theorem dX0_goesAsIn_30 : decode cX0_goesAsIn 30 = .ok (.iload_n 2, 1) := by decide +kernel
theorem dX0_goesAsIn_31 : decode cX0_goesAsIn 31 = .ok (.invokevirtual 93, 3) := by decide +kernel
theorem dX0_goesAsIn_34 : decode cX0_goesAsIn 34 = .ok (.iinc 3 1, 3) := by decide +kernel
theorem dX0_goesAsIn_37 : decode cX0_goesAsIn 37 = .ok (.goto (-35), 3) := by decide +kernel
theorem dX0_goesAsIn_40 : decode cX0_goesAsIn 40 = .ok (.iconst 1, 1) := by decide +kernel
theorem dX0_goesAsIn_41 : decode cX0_goesAsIn 41 = .ok (.ireturn, 1) := by decide +kernel
def finX0_goesAsIn (M0 : Mi) (N : Ml) (j : Nat) : Int32 × (Nat → Int32) → Option Value × Mi × Ml := fun b => (some (Value.int b.1), sR M0 j (b.2), N)
noncomputable def fX0_goesAsIn_2 (len : Int32) (ν : Nat → Int64)  : Nat → (Nat → Int32) → Int32 → Int32 → Option (Int32 × (Nat → Int32))
  | 0 => fun _ _ _ => none
  | n + 1 => fun σ x2 x3 => (if len ≤ x3 then (some (1, σ)) else (if inb x3 40 then (if inb x2 8 then (if (ν (ix x3)) = (Int32.toInt64 (σ (8 + 4 * ix x2))) then (Option.bind (fX0_goAlone σ x2) (fun a5 => ((fX0_goesAsIn_2 len ν n) a5 x2 (x3 + 1)))) else (some (0, σ))) else none) else none))
theorem bX0_goesAsIn_2 {Z : Zt} {E : Ec} {M0 : Mi} {N : Ml} {j : Nat} {len : Int32} {ν : Nat → Int64} {g : Nat} (C : Ok 1 Z E cX0_goesAsIn 4 RX0 (some .boolean) 4) (hj : j < 4) (hg : 20 ≤ g ∧ g < 24) (hlen : M0 g 1 = len) (hν : N g = ν)   : ∀ (n : Nat) (σ : Nat → Int32) (x2 : Int32) (x3 : Int32), GT Z E 4 (finX0_goesAsIn M0 N j) 2 [(0, .ref (zA Z j 0)), (1, .ref (zA Z g 0)), (2, .int x2), (3, .int x3)] [] (sR M0 j σ) N (fX0_goesAsIn_2 len ν n σ x2 x3) := by
  intro n
  induction n with
  | zero => intro σ x2 x3; exact r_none
  | succ n ih =>
    intro σ x2 x3
    rw [fX0_goesAsIn_2]
    refine r_iload_n C dX0_goesAsIn_2 3 3 rfl rfl ?_
    refine r_aload_n C dX0_goesAsIn_3 1 1 rfl rfl ?_
    refine gf_X0_96 (v := len) C hg dX0_goesAsIn_4 ((sR_off _ _ _ (by omega)).trans hlen) ?_
    refine r_ic_ge (tgt := 40) C dX0_goesAsIn_7 (by decide) (fun c1 => ?_) (fun c1 => ?_)
    · refine r_iconst (v := 1) C dX0_goesAsIn_40 (by decide) ?_
      exact r_zret C dX0_goesAsIn_41 (Or.inr rfl) rfl
    · refine r_aload_n C dX0_goesAsIn_10 1 1 rfl rfl ?_
      refine gf_X0_101 C hg dX0_goesAsIn_11 ?_
      refine r_iload_n C dX0_goesAsIn_14 3 3 rfl rfl ?_
      refine r_guard (fun h2 => ?_)
      refine ald_S (v := (ν (ix x3))) C hg h2 (congrFun hν _) dX0_goesAsIn_15 ?_
      refine r_aload_n C dX0_goesAsIn_16 0 0 rfl rfl ?_
      refine gf_X0_18 C hj dX0_goesAsIn_17 ?_
      refine r_iload_n C dX0_goesAsIn_20 2 2 rfl rfl ?_
      refine r_guard (fun h3 => ?_)
      refine ald_I3 (v := (σ (8 + 4 * ix x2))) C hj h3 (sR_at _ _ _ _) dX0_goesAsIn_21 ?_
      refine r_i2l C dX0_goesAsIn_22 ?_
      refine r_lc_eq (tgt := 29) C dX0_goesAsIn_23 dX0_goesAsIn_24 (by decide) (fun c4 => ?_) (fun c4 => ?_)
      · refine r_aload_n C dX0_goesAsIn_29 0 0 rfl rfl ?_
        refine r_iload_n C dX0_goesAsIn_30 2 2 rfl rfl ?_
        refine r_bind (fun a5 ha5 => ?_)
        refine r_callV (rest := []) (st2 := []) C (mX0_goAlone (eL E) C.z hj _ _ σ x2 a5 ha5) lk_X0_93 (rvI C hj) (by decide) rfl rfl (Nat.le_of_ble_eq_true rfl) dX0_goesAsIn_31 rfl ?_
        refine r_iinc (v := (x3 + 1)) (lv' := [(3, .int (x3 + 1)), (0, .ref (zA Z j 0)), (1, .ref (zA Z g 0)), (2, .int x2)]) C dX0_goesAsIn_34 3 rfl rfl (by decide) rfl ?_
        refine r_goto (tgt := 2) C dX0_goesAsIn_37 (by decide) ?_
        refine r_lv [1, 2, 3, 0] (lv' := [(0, .ref (zA Z j 0)), (1, .ref (zA Z g 0)), (2, .int x2), (3, .int (x3 + 1))]) rfl ?_
        exact ih a5 x2 (x3 + 1)
      · refine r_iconst (v := 0) C dX0_goesAsIn_27 (by decide) ?_
        exact r_zret C dX0_goesAsIn_28 (Or.inl rfl) rfl
noncomputable def fX0_goesAsIn (len : Int32) (ν : Nat → Int64)  (σ : Nat → Int32) (x2 : Int32) : Option (Int32 × (Nat → Int32)) := (fX0_goesAsIn_2 len ν fu σ x2 0)
theorem bX0_goesAsIn {Z : Zt} {E : Ec} {M0 : Mi} {N : Ml} {j : Nat} {len : Int32} {ν : Nat → Int64} {g : Nat} (C : Ok 1 Z E cX0_goesAsIn 4 RX0 (some .boolean) 4) (hj : j < 4) (hg : 20 ≤ g ∧ g < 24) (hlen : M0 g 1 = len) (hν : N g = ν)   (σ : Nat → Int32) (x2 : Int32)  : GT Z E 4 (finX0_goesAsIn M0 N j) 0 [(0, .ref (zA Z j 0)), (1, .ref (zA Z g 0)), (2, .int x2)] [] (sR M0 j σ) N (fX0_goesAsIn len ν σ x2) := by
  unfold fX0_goesAsIn
  refine r_iconst (v := 0) C dX0_goesAsIn_0 (by decide) ?_
  refine r_istore_n (lv' := [(3, .int 0), (0, .ref (zA Z j 0)), (1, .ref (zA Z g 0)), (2, .int x2)]) C dX0_goesAsIn_1 3 rfl (by decide) rfl ?_
  refine r_lv [1, 2, 3, 0] (lv' := [(0, .ref (zA Z j 0)), (1, .ref (zA Z g 0)), (2, .int x2), (3, .int 0)]) rfl ?_
  exact bX0_goesAsIn_2 C hj hg hlen hν fu σ x2 0
theorem mX0_goesAsIn (l : Launch) {Z : Zt} (hZ : Zok 1 Z) {j : Nat} (hj : j < 4) {g : Nat} (hg : 20 ≤ g ∧ g < 24) (M0 : Mi) (N : Ml) (σ : Nat → Int32) (x2 : Int32) (b : Int32 × (Nat → Int32)) (hb : fX0_goesAsIn (M0 g 1) (N g) σ x2 = some b) : Ct 1 Z l yX0_goesAsIn cX0_goesAsIn 4 (some .boolean) 4 [.ref (zA Z j 0), .ref (zA Z g 0), .int x2] (sR M0 j σ) N (some (Value.int b.1), sR M0 j (b.2), N) :=
  metG (fin := (finX0_goesAsIn M0 N j)) (by decide) (Nat.le_of_ble_eq_true rfl) (fun E _ C => bX0_goesAsIn C hj hg rfl rfl σ x2) hb
theorem dX1_goesFrom_0 : decode cX1_goesFrom 0 = .ok (.aload_n 0, 1) := by decide +kernel
theorem dX1_goesFrom_1 : decode cX1_goesFrom 1 = .ok (.getfield 12, 3) := by decide +kernel
theorem dX1_goesFrom_4 : decode cX1_goesFrom 4 = .ok (.aload_n 2, 1) := by decide +kernel
theorem dX1_goesFrom_5 : decode cX1_goesFrom 5 = .ok (.invokevirtual 18, 3) := by decide +kernel
theorem dX1_goesFrom_8 : decode cX1_goesFrom 8 = .ok (.aload_n 0, 1) := by decide +kernel
theorem dX1_goesFrom_9 : decode cX1_goesFrom 9 = .ok (.iconst 1, 1) := by decide +kernel
theorem dX1_goesFrom_10 : decode cX1_goesFrom 10 = .ok (.iload_n 1, 1) := by decide +kernel
theorem dX1_goesFrom_11 : decode cX1_goesFrom 11 = .ok (.ishl, 1) := by decide +kernel
theorem dX1_goesFrom_12 : decode cX1_goesFrom 12 = .ok (.putfield 22, 3) := by decide +kernel
theorem dX1_goesFrom_15 : decode cX1_goesFrom 15 = .ok (.aload_n 0, 1) := by decide +kernel
theorem dX1_goesFrom_16 : decode cX1_goesFrom 16 = .ok (.iconst 0, 1) := by decide +kernel
theorem dX1_goesFrom_17 : decode cX1_goesFrom 17 = .ok (.putfield 26, 3) := by decide +kernel
theorem dX1_goesFrom_20 : decode cX1_goesFrom 20 = .ok (.return_, 1) := by decide +kernel
def finX1_goesFrom (N : Ml) : Mi → Option Value × Mi × Ml := fun b => (none, b, N)
noncomputable def fX1_goesFrom   (M : Mi) (x1 : Int32) : Option (Mi) := (Option.bind (fX0_becomes (M 0) (M 3)) (fun a1 => (some (wM (wM (sR M 3 a1) 4 0 (1 <<< (x1 &&& 31))) 4 2 0))))
theorem bX1_goesFrom {Z : Zt} {E : Ec} {N : Ml} (C : Ok 1 Z E cX1_goesFrom 3 RX1 none 1)    (M : Mi) (x1 : Int32)  : GT Z E 3 (finX1_goesFrom N) 0 [(0, .ref (zA Z 4 0)), (1, .int x1), (2, .ref (zA Z 0 0))] [] M N (fX1_goesFrom M x1) := by
  unfold fX1_goesFrom
  refine r_aload_n C dX1_goesFrom_0 0 0 rfl rfl ?_
  refine gf_X1_12 C dX1_goesFrom_1 ?_
  refine r_aload_n C dX1_goesFrom_4 2 2 rfl rfl ?_
  refine r_bind (fun a1 ha1 => ?_)
  refine r_callV (rest := []) (st2 := []) C (mX0_becomes (eL E) C.z (by decide) (by decide) (by decide) M _ (M 3) a1 ha1).selfW lk_X1_18 (rvI C (by decide)) (by decide) rfl rfl (Nat.le_of_ble_eq_true rfl) dX1_goesFrom_5 rfl ?_
  refine r_aload_n C dX1_goesFrom_8 0 0 rfl rfl ?_
  refine r_iconst (v := 1) C dX1_goesFrom_9 (by decide) ?_
  refine r_iload_n C dX1_goesFrom_10 1 1 rfl rfl ?_
  refine r_ishl C dX1_goesFrom_11 ?_
  refine pf_X1_22 (M' := (wM (sR M 3 a1) 4 0 (1 <<< (x1 &&& 31)))) C dX1_goesFrom_12 rfl ?_
  refine r_aload_n C dX1_goesFrom_15 0 0 rfl rfl ?_
  refine r_iconst (v := 0) C dX1_goesFrom_16 (by decide) ?_
  refine pf_X1_26 (M' := (wM (wM (sR M 3 a1) 4 0 (1 <<< (x1 &&& 31))) 4 2 0)) C dX1_goesFrom_17 (Or.inl rfl) rfl ?_
  exact r_vret C dX1_goesFrom_20 rfl
theorem mX1_goesFrom (l : Launch) {Z : Zt} (hZ : Zok 1 Z) (M : Mi) (N : Ml) (x1 : Int32) (b : Mi) (hb : fX1_goesFrom M x1 = some b) : Ct 1 Z l yX1_goesFrom cX1_goesFrom 3 none 1 [.ref (zA Z 4 0), .int x1, .ref (zA Z 0 0)] M N (none, b, N) :=
  metG (fin := (finX1_goesFrom N)) (by decide) (Nat.le_of_ble_eq_true rfl) (fun E _ C => bX1_goesFrom C M x1) hb
theorem dX1_staysInOneOf_0 : decode cX1_staysInOneOf 0 = .ok (.aload_n 0, 1) := by decide +kernel
theorem dX1_staysInOneOf_1 : decode cX1_staysInOneOf 1 = .ok (.getfield 12, 3) := by decide +kernel
theorem dX1_staysInOneOf_4 : decode cX1_staysInOneOf 4 = .ok (.aload_n 2, 1) := by decide +kernel
theorem dX1_staysInOneOf_5 : decode cX1_staysInOneOf 5 = .ok (.invokevirtual 18, 3) := by decide +kernel
theorem dX1_staysInOneOf_8 : decode cX1_staysInOneOf 8 = .ok (.aload_n 0, 1) := by decide +kernel
theorem dX1_staysInOneOf_9 : decode cX1_staysInOneOf 9 = .ok (.iload_n 1, 1) := by decide +kernel
theorem dX1_staysInOneOf_10 : decode cX1_staysInOneOf 10 = .ok (.putfield 22, 3) := by decide +kernel
theorem dX1_staysInOneOf_13 : decode cX1_staysInOneOf 13 = .ok (.aload_n 0, 1) := by decide +kernel
theorem dX1_staysInOneOf_14 : decode cX1_staysInOneOf 14 = .ok (.iconst 1, 1) := by decide +kernel
theorem dX1_staysInOneOf_15 : decode cX1_staysInOneOf 15 = .ok (.putfield 26, 3) := by decide +kernel
theorem dX1_staysInOneOf_18 : decode cX1_staysInOneOf 18 = .ok (.return_, 1) := by decide +kernel
def finX1_staysInOneOf (N : Ml) : Mi → Option Value × Mi × Ml := fun b => (none, b, N)
noncomputable def fX1_staysInOneOf   (M : Mi) (x1 : Int32) : Option (Mi) := (Option.bind (fX0_becomes (M 0) (M 3)) (fun a1 => (some (wM (wM (sR M 3 a1) 4 0 x1) 4 2 1))))
theorem bX1_staysInOneOf {Z : Zt} {E : Ec} {N : Ml} (C : Ok 1 Z E cX1_staysInOneOf 3 RX1 none 1)    (M : Mi) (x1 : Int32)  : GT Z E 3 (finX1_staysInOneOf N) 0 [(0, .ref (zA Z 4 0)), (1, .int x1), (2, .ref (zA Z 0 0))] [] M N (fX1_staysInOneOf M x1) := by
  unfold fX1_staysInOneOf
  refine r_aload_n C dX1_staysInOneOf_0 0 0 rfl rfl ?_
  refine gf_X1_12 C dX1_staysInOneOf_1 ?_
  refine r_aload_n C dX1_staysInOneOf_4 2 2 rfl rfl ?_
  refine r_bind (fun a1 ha1 => ?_)
  refine r_callV (rest := []) (st2 := []) C (mX0_becomes (eL E) C.z (by decide) (by decide) (by decide) M _ (M 3) a1 ha1).selfW lk_X1_18 (rvI C (by decide)) (by decide) rfl rfl (Nat.le_of_ble_eq_true rfl) dX1_staysInOneOf_5 rfl ?_
  refine r_aload_n C dX1_staysInOneOf_8 0 0 rfl rfl ?_
  refine r_iload_n C dX1_staysInOneOf_9 1 1 rfl rfl ?_
  refine pf_X1_22 (M' := (wM (sR M 3 a1) 4 0 x1)) C dX1_staysInOneOf_10 rfl ?_
  refine r_aload_n C dX1_staysInOneOf_13 0 0 rfl rfl ?_
  refine r_iconst (v := 1) C dX1_staysInOneOf_14 (by decide) ?_
  refine pf_X1_26 (M' := (wM (wM (sR M 3 a1) 4 0 x1) 4 2 1)) C dX1_staysInOneOf_15 (Or.inr rfl) rfl ?_
  exact r_vret C dX1_staysInOneOf_18 rfl
theorem mX1_staysInOneOf (l : Launch) {Z : Zt} (hZ : Zok 1 Z) (M : Mi) (N : Ml) (x1 : Int32) (b : Mi) (hb : fX1_staysInOneOf M x1 = some b) : Ct 1 Z l yX1_staysInOneOf cX1_staysInOneOf 3 none 1 [.ref (zA Z 4 0), .int x1, .ref (zA Z 0 0)] M N (none, b, N) :=
  metG (fin := (finX1_staysInOneOf N)) (by decide) (Nat.le_of_ble_eq_true rfl) (fun E _ C => bX1_staysInOneOf C M x1) hb
theorem dX1_cellsWith_0 : decode cX1_cellsWith 0 = .ok (.aload_n 0, 1) := by decide +kernel
theorem dX1_cellsWith_1 : decode cX1_cellsWith 1 = .ok (.getfield 12, 3) := by decide +kernel
theorem dX1_cellsWith_4 : decode cX1_cellsWith 4 = .ok (.aload_n 0, 1) := by decide +kernel
theorem dX1_cellsWith_5 : decode cX1_cellsWith 5 = .ok (.getfield 12, 3) := by decide +kernel
theorem dX1_cellsWith_8 : decode cX1_cellsWith 8 = .ok (.iload_n 1, 1) := by decide +kernel
theorem dX1_cellsWith_9 : decode cX1_cellsWith 9 = .ok (.invokevirtual 46, 3) := by decide +kernel
theorem dX1_cellsWith_12 : decode cX1_cellsWith 12 = .ok (.invokevirtual 49, 3) := by decide +kernel
theorem dX1_cellsWith_15 : decode cX1_cellsWith 15 = .ok (.ireturn, 1) := by decide +kernel
def finX1_cellsWith (M : Mi) (N : Ml) : Int32 → Option Value × Mi × Ml := fun b => (some (Value.int b), M, N)
noncomputable def fX1_cellsWith (M : Mi)  (x1 : Int32) : Option (Int32) := (Option.bind (fX0_tortoisesWith (M 3) x1) (fun a1 => (Option.bind (fX0_cellsOf (M 3) a1) (fun a2 => (some a2)))))
theorem bX1_cellsWith {Z : Zt} {E : Ec} {M : Mi} {N : Ml} (C : Ok 1 Z E cX1_cellsWith 2 RX1 (some .int) 1)    (x1 : Int32)  : GT Z E 2 (finX1_cellsWith M N) 0 [(0, .ref (zA Z 4 0)), (1, .int x1)] [] M N (fX1_cellsWith M x1) := by
  unfold fX1_cellsWith
  refine r_aload_n C dX1_cellsWith_0 0 0 rfl rfl ?_
  refine gf_X1_12 C dX1_cellsWith_1 ?_
  refine r_aload_n C dX1_cellsWith_4 0 0 rfl rfl ?_
  refine gf_X1_12 C dX1_cellsWith_5 ?_
  refine r_iload_n C dX1_cellsWith_8 1 1 rfl rfl ?_
  refine r_bind (fun a1 ha1 => ?_)
  refine r_callV (rest := [.ref (zA Z 3 0)]) (st2 := [.int a1, .ref (zA Z 3 0)]) C (mX0_tortoisesWith (eL E) C.z (by decide) M _ (M 3) x1 a1 ha1).selfR lk_X1_46 (rvI C (by decide)) (by decide) rfl rfl (Nat.le_of_ble_eq_true rfl) dX1_cellsWith_9 rfl ?_
  refine r_bind (fun a2 ha2 => ?_)
  refine r_callV (rest := []) (st2 := [.int a2]) C (mX0_cellsOf (eL E) C.z (by decide) M _ (M 3) a1 a2 ha2).selfR lk_X1_49 (rvI C (by decide)) (by decide) rfl rfl (Nat.le_of_ble_eq_true rfl) dX1_cellsWith_12 rfl ?_
  exact r_iret C dX1_cellsWith_15 rfl
theorem mX1_cellsWith (l : Launch) {Z : Zt} (hZ : Zok 1 Z) (M : Mi) (N : Ml) (x1 : Int32) (b : Int32) (hb : fX1_cellsWith M x1 = some b) : Ct 1 Z l yX1_cellsWith cX1_cellsWith 2 (some .int) 1 [.ref (zA Z 4 0), .int x1] M N (some (Value.int b), M, N) :=
  metG (fin := (finX1_cellsWith M N)) (by decide) (Nat.le_of_ble_eq_true rfl) (fun E _ C => bX1_cellsWith C x1) hb
theorem dX1_onwards_0 : decode cX1_onwards 0 = .ok (.aload_n 0, 1) := by decide +kernel
theorem dX1_onwards_1 : decode cX1_onwards 1 = .ok (.getfield 26, 3) := by decide +kernel
theorem dX1_onwards_4 : decode cX1_onwards 4 = .ok (.ifCond .eq 5, 3) := by decide +kernel
theorem dX1_onwards_7 : decode cX1_onwards 7 = .ok (.iload_n 1, 1) := by decide +kernel
theorem dX1_onwards_8 : decode cX1_onwards 8 = .ok (.ireturn, 1) := by decide +kernel
theorem dX1_onwards_9 : decode cX1_onwards 9 = .ok (.iload_n 1, 1) := by decide +kernel
theorem dX1_onwards_10 : decode cX1_onwards 10 = .ok (.ldc 52, 2) := by decide +kernel
theorem dX1_onwards_12 : decode cX1_onwards 12 = .ok (.iand, 1) := by decide +kernel
theorem dX1_onwards_13 : decode cX1_onwards 13 = .ok (.iconst 1, 1) := by decide +kernel
theorem dX1_onwards_14 : decode cX1_onwards 14 = .ok (.ishr, 1) := by decide +kernel
theorem dX1_onwards_15 : decode cX1_onwards 15 = .ok (.istore_n 2, 1) := by decide +kernel
theorem dX1_onwards_16 : decode cX1_onwards 16 = .ok (.iload_n 1, 1) := by decide +kernel
theorem dX1_onwards_17 : decode cX1_onwards 17 = .ok (.ldc 53, 2) := by decide +kernel
theorem dX1_onwards_19 : decode cX1_onwards 19 = .ok (.iand, 1) := by decide +kernel
theorem dX1_onwards_20 : decode cX1_onwards 20 = .ok (.iconst 1, 1) := by decide +kernel
theorem dX1_onwards_21 : decode cX1_onwards 21 = .ok (.ishl, 1) := by decide +kernel
theorem dX1_onwards_22 : decode cX1_onwards 22 = .ok (.istore_n 3, 1) := by decide +kernel
theorem dX1_onwards_23 : decode cX1_onwards 23 = .ok (.iload_n 1, 1) := by decide +kernel
theorem dX1_onwards_24 : decode cX1_onwards 24 = .ok (.bipush 6, 2) := by decide +kernel
theorem dX1_onwards_26 : decode cX1_onwards 26 = .ok (.ishr, 1) := by decide +kernel
theorem dX1_onwards_27 : decode cX1_onwards 27 = .ok (.istore 4, 2) := by decide +kernel
theorem dX1_onwards_29 : decode cX1_onwards 29 = .ok (.iload_n 1, 1) := by decide +kernel
theorem dX1_onwards_30 : decode cX1_onwards 30 = .ok (.bipush 6, 2) := by decide +kernel
theorem dX1_onwards_32 : decode cX1_onwards 32 = .ok (.ishl, 1) := by decide +kernel
theorem dX1_onwards_33 : decode cX1_onwards 33 = .ok (.ldc 54, 2) := by decide +kernel
theorem dX1_onwards_35 : decode cX1_onwards 35 = .ok (.iand, 1) := by decide +kernel
theorem dX1_onwards_36 : decode cX1_onwards 36 = .ok (.istore 5, 2) := by decide +kernel
theorem dX1_onwards_38 : decode cX1_onwards 38 = .ok (.iload_n 1, 1) := by decide +kernel
theorem dX1_onwards_39 : decode cX1_onwards 39 = .ok (.iload_n 2, 1) := by decide +kernel
theorem dX1_onwards_40 : decode cX1_onwards 40 = .ok (.ior, 1) := by decide +kernel
theorem dX1_onwards_41 : decode cX1_onwards 41 = .ok (.iload_n 3, 1) := by decide +kernel
theorem dX1_onwards_42 : decode cX1_onwards 42 = .ok (.ior, 1) := by decide +kernel
theorem dX1_onwards_43 : decode cX1_onwards 43 = .ok (.iload 4, 2) := by decide +kernel
theorem dX1_onwards_45 : decode cX1_onwards 45 = .ok (.ior, 1) := by decide +kernel
theorem dX1_onwards_46 : decode cX1_onwards 46 = .ok (.iload 5, 2) := by decide +kernel
theorem dX1_onwards_48 : decode cX1_onwards 48 = .ok (.ior, 1) := by decide +kernel
theorem dX1_onwards_49 : decode cX1_onwards 49 = .ok (.aload_n 0, 1) := by decide +kernel
theorem dX1_onwards_50 : decode cX1_onwards 50 = .ok (.getfield 12, 3) := by decide +kernel
theorem dX1_onwards_53 : decode cX1_onwards 53 = .ok (.getfield 55, 3) := by decide +kernel
theorem dX1_onwards_56 : decode cX1_onwards 56 = .ok (.iconst (-1), 1) := by decide +kernel
theorem dX1_onwards_57 : decode cX1_onwards 57 = .ok (.ixor, 1) := by decide +kernel
theorem dX1_onwards_58 : decode cX1_onwards 58 = .ok (.iand, 1) := by decide +kernel
theorem dX1_onwards_59 : decode cX1_onwards 59 = .ok (.ireturn, 1) := by decide +kernel
def finX1_onwards (M : Mi) (N : Ml) : Int32 → Option Value × Mi × Ml := fun b => (some (Value.int b), M, N)
noncomputable def fX1_onwards (M : Mi)  (x1 : Int32) : Int32 := (if (M 4 2) = 0 then (((((x1 ||| ((x1 &&& (-17043522)) >>> (1 &&& 31))) ||| ((x1 &&& (-545392673)) <<< (1 &&& 31))) ||| (x1 >>> (6 &&& 31))) ||| ((x1 <<< (6 &&& 31)) &&& 1073741823)) &&& ((M 3 2) ^^^ (-1))) else x1)
theorem bX1_onwards {Z : Zt} {E : Ec} {M : Mi} {N : Ml} (C : Ok 1 Z E cX1_onwards 6 RX1 (some .int) 0)    (x1 : Int32)  : GT Z E 6 (finX1_onwards M N) 0 [(0, .ref (zA Z 4 0)), (1, .int x1)] [] M N (some (fX1_onwards M x1)) := by
  unfold fX1_onwards
  refine r_aload_n C dX1_onwards_0 0 0 rfl rfl ?_
  refine gf_X1_26 (v := (M 4 2)) C dX1_onwards_1 rfl ?_
  refine r_st ?_
  refine r_if_eq (tgt := 9) C dX1_onwards_4 (by decide) (fun c1 => ?_) (fun c1 => ?_)
  · refine r_iload_n C dX1_onwards_9 1 1 rfl rfl ?_
    refine r_ldc (v := (-17043522)) C dX1_onwards_10 wd_503 ?_
    refine r_iand C dX1_onwards_12 ?_
    refine r_iconst (v := 1) C dX1_onwards_13 (by decide) ?_
    refine r_ishr C dX1_onwards_14 ?_
    refine r_istore_n (lv' := [(2, .int ((x1 &&& (-17043522)) >>> (1 &&& 31))), (0, .ref (zA Z 4 0)), (1, .int x1)]) C dX1_onwards_15 2 rfl (by decide) rfl ?_
    refine r_iload_n C dX1_onwards_16 1 2 rfl rfl ?_
    refine r_ldc (v := (-545392673)) C dX1_onwards_17 wd_504 ?_
    refine r_iand C dX1_onwards_19 ?_
    refine r_iconst (v := 1) C dX1_onwards_20 (by decide) ?_
    refine r_ishl C dX1_onwards_21 ?_
    refine r_istore_n (lv' := [(3, .int ((x1 &&& (-545392673)) <<< (1 &&& 31))), (2, .int ((x1 &&& (-17043522)) >>> (1 &&& 31))), (0, .ref (zA Z 4 0)), (1, .int x1)]) C dX1_onwards_22 3 rfl (by decide) rfl ?_
    refine r_iload_n C dX1_onwards_23 1 3 rfl rfl ?_
    refine r_bipush (v := 6) C dX1_onwards_24 (by decide) ?_
    refine r_ishr C dX1_onwards_26 ?_
    refine r_istore (lv' := [(4, .int (x1 >>> (6 &&& 31))), (3, .int ((x1 &&& (-545392673)) <<< (1 &&& 31))), (2, .int ((x1 &&& (-17043522)) >>> (1 &&& 31))), (0, .ref (zA Z 4 0)), (1, .int x1)]) C dX1_onwards_27 (by decide) rfl ?_
    refine r_iload_n C dX1_onwards_29 1 4 rfl rfl ?_
    refine r_bipush (v := 6) C dX1_onwards_30 (by decide) ?_
    refine r_ishl C dX1_onwards_32 ?_
    refine r_ldc (v := 1073741823) C dX1_onwards_33 wd_505 ?_
    refine r_iand C dX1_onwards_35 ?_
    refine r_istore (lv' := [(5, .int ((x1 <<< (6 &&& 31)) &&& 1073741823)), (4, .int (x1 >>> (6 &&& 31))), (3, .int ((x1 &&& (-545392673)) <<< (1 &&& 31))), (2, .int ((x1 &&& (-17043522)) >>> (1 &&& 31))), (0, .ref (zA Z 4 0)), (1, .int x1)]) C dX1_onwards_36 (by decide) rfl ?_
    refine r_iload_n C dX1_onwards_38 1 5 rfl rfl ?_
    refine r_iload_n C dX1_onwards_39 2 3 rfl rfl ?_
    refine r_ior C dX1_onwards_40 ?_
    refine r_iload_n C dX1_onwards_41 3 2 rfl rfl ?_
    refine r_ior C dX1_onwards_42 ?_
    refine r_iload C dX1_onwards_43 1 rfl ?_
    refine r_ior C dX1_onwards_45 ?_
    refine r_iload C dX1_onwards_46 0 rfl ?_
    refine r_ior C dX1_onwards_48 ?_
    refine r_aload_n C dX1_onwards_49 0 4 rfl rfl ?_
    refine gf_X1_12 C dX1_onwards_50 ?_
    refine gf_X1_55 (v := (M 3 2)) C (by decide) dX1_onwards_53 rfl ?_
    refine r_iconst (v := (-1)) C dX1_onwards_56 (by decide) ?_
    refine r_ixor C dX1_onwards_57 ?_
    refine r_iand C dX1_onwards_58 ?_
    exact r_iret C dX1_onwards_59 rfl
  · refine r_iload_n C dX1_onwards_7 1 1 rfl rfl ?_
    exact r_iret C dX1_onwards_8 rfl
theorem mX1_onwards (l : Launch) {Z : Zt} (hZ : Zok 1 Z) (M : Mi) (N : Ml) (x1 : Int32) : Ct 1 Z l yX1_onwards cX1_onwards 6 (some .int) 0 [.ref (zA Z 4 0), .int x1] M N (some (Value.int (fX1_onwards M x1)), M, N) :=
  metG (fin := (finX1_onwards M N)) (by decide) (Nat.le_of_ble_eq_true rfl) (fun E _ C => bX1_onwards C x1) rfl
theorem dX1_seek_0 : decode cX1_seek 0 = .ok (.iconst 0, 1) := by decide +kernel
theorem dX1_seek_1 : decode cX1_seek 1 = .ok (.istore_n 3, 1) := by decide +kernel
theorem dX1_seek_2 : decode cX1_seek 2 = .ok (.iload_n 3, 1) := by decide +kernel
theorem dX1_seek_3 : decode cX1_seek 3 = .ok (.iload_n 2, 1) := by decide +kernel
theorem dX1_seek_4 : decode cX1_seek 4 = .ok (.if_icmp .gt 51, 3) := by decide +kernel
theorem dX1_seek_7 : decode cX1_seek 7 = .ok (.aload_n 0, 1) := by decide +kernel
theorem dX1_seek_8 : decode cX1_seek 8 = .ok (.aload_n 0, 1) := by decide +kernel
theorem dX1_seek_9 : decode cX1_seek 9 = .ok (.getfield 22, 3) := by decide +kernel
theorem dX1_seek_12 : decode cX1_seek 12 = .ok (.aload_n 0, 1) := by decide +kernel
theorem dX1_seek_13 : decode cX1_seek 13 = .ok (.iload_n 1, 1) := by decide +kernel
theorem dX1_seek_14 : decode cX1_seek 14 = .ok (.invokevirtual 30, 3) := by decide +kernel
theorem dX1_seek_17 : decode cX1_seek 17 = .ok (.iand, 1) := by decide +kernel
theorem dX1_seek_18 : decode cX1_seek 18 = .ok (.putfield 34, 3) := by decide +kernel
theorem dX1_seek_21 : decode cX1_seek 21 = .ok (.aload_n 0, 1) := by decide +kernel
theorem dX1_seek_22 : decode cX1_seek 22 = .ok (.getfield 34, 3) := by decide +kernel
theorem dX1_seek_25 : decode cX1_seek 25 = .ok (.ifCond .eq 5, 3) := by decide +kernel
theorem dX1_seek_28 : decode cX1_seek 28 = .ok (.iload_n 3, 1) := by decide +kernel
theorem dX1_seek_29 : decode cX1_seek 29 = .ok (.ireturn, 1) := by decide +kernel
theorem dX1_seek_30 : decode cX1_seek 30 = .ok (.aload_n 0, 1) := by decide +kernel
theorem dX1_seek_31 : decode cX1_seek 31 = .ok (.getfield 12, 3) := by decide +kernel
theorem dX1_seek_34 : decode cX1_seek 34 = .ok (.invokevirtual 37, 3) := by decide +kernel
theorem dX1_seek_37 : decode cX1_seek 37 = .ok (.aload_n 0, 1) := by decide +kernel
theorem dX1_seek_38 : decode cX1_seek 38 = .ok (.aload_n 0, 1) := by decide +kernel
theorem dX1_seek_39 : decode cX1_seek 39 = .ok (.aload_n 0, 1) := by decide +kernel
theorem dX1_seek_40 : decode cX1_seek 40 = .ok (.getfield 22, 3) := by decide +kernel
theorem dX1_seek_43 : decode cX1_seek 43 = .ok (.invokevirtual 40, 3) := by decide +kernel
theorem dX1_seek_46 : decode cX1_seek 46 = .ok (.putfield 22, 3) := by decide +kernel
theorem dX1_seek_49 : decode cX1_seek 49 = .ok (.iinc 3 1, 3) := by decide +kernel
theorem dX1_seek_52 : decode cX1_seek 52 = .ok (.goto (-50), 3) := by decide +kernel
theorem dX1_seek_55 : decode cX1_seek 55 = .ok (.iconst (-1), 1) := by decide +kernel
theorem dX1_seek_56 : decode cX1_seek 56 = .ok (.ireturn, 1) := by decide +kernel
def finX1_seek (N : Ml) : Int32 × Mi → Option Value × Mi × Ml := fun b => (some (Value.int b.1), b.2, N)
noncomputable def fX1_seek_2   : Nat → Mi → Int32 → Int32 → Int32 → Option (Int32 × Mi)
  | 0 => fun _ _ _ _ => none
  | n + 1 => fun M x1 x2 x3 => (if x2 < x3 then (some ((-1), M)) else (Option.bind (fX1_cellsWith M x1) (fun a2 => (if ((M 4 0) &&& a2) = 0 then (Option.bind (fX0_goAnHour ((wM M 4 1 ((M 4 0) &&& a2)) 3)) (fun a4 => ((fX1_seek_2 n) (wM (sR (wM M 4 1 ((M 4 0) &&& a2)) 3 a4) 4 0 (fX1_onwards (sR (wM M 4 1 ((M 4 0) &&& a2)) 3 a4) (M 4 0))) x1 x2 (x3 + 1)))) else (some (x3, (wM M 4 1 ((M 4 0) &&& a2))))))))
theorem bX1_seek_2 {Z : Zt} {E : Ec} {N : Ml} (C : Ok 1 Z E cX1_seek 4 RX1 (some .int) 4)    : ∀ (n : Nat) (M : Mi) (x1 : Int32) (x2 : Int32) (x3 : Int32), GT Z E 4 (finX1_seek N) 2 [(0, .ref (zA Z 4 0)), (1, .int x1), (2, .int x2), (3, .int x3)] [] M N (fX1_seek_2 n M x1 x2 x3) := by
  intro n
  induction n with
  | zero => intro M x1 x2 x3; exact r_none
  | succ n ih =>
    intro M x1 x2 x3
    rw [fX1_seek_2]
    refine r_iload_n C dX1_seek_2 3 3 rfl rfl ?_
    refine r_iload_n C dX1_seek_3 2 2 rfl rfl ?_
    refine r_ic_gt (tgt := 55) C dX1_seek_4 (by decide) (fun c1 => ?_) (fun c1 => ?_)
    · refine r_iconst (v := (-1)) C dX1_seek_55 (by decide) ?_
      exact r_iret C dX1_seek_56 rfl
    · refine r_aload_n C dX1_seek_7 0 0 rfl rfl ?_
      refine r_aload_n C dX1_seek_8 0 0 rfl rfl ?_
      refine gf_X1_22 (v := (M 4 0)) C dX1_seek_9 rfl ?_
      refine r_aload_n C dX1_seek_12 0 0 rfl rfl ?_
      refine r_iload_n C dX1_seek_13 1 1 rfl rfl ?_
      refine r_bind (fun a2 ha2 => ?_)
      refine r_callV (rest := [.int (M 4 0), .ref (zA Z 4 0)]) (st2 := [.int a2, .int (M 4 0), .ref (zA Z 4 0)]) C (mX1_cellsWith (eL E) C.z M N x1 a2 ha2) lk_X1_30 (rvR C) (by decide) rfl rfl (Nat.le_of_ble_eq_true rfl) dX1_seek_14 rfl ?_
      refine r_iand C dX1_seek_17 ?_
      refine pf_X1_34 (M' := (wM M 4 1 ((M 4 0) &&& a2))) C dX1_seek_18 rfl ?_
      refine r_aload_n C dX1_seek_21 0 0 rfl rfl ?_
      refine gf_X1_34 (v := ((M 4 0) &&& a2)) C dX1_seek_22 rfl ?_
      refine r_if_eq (tgt := 30) C dX1_seek_25 (by decide) (fun c3 => ?_) (fun c3 => ?_)
      · refine r_aload_n C dX1_seek_30 0 0 rfl rfl ?_
        refine gf_X1_12 C dX1_seek_31 ?_
        refine r_bind (fun a4 ha4 => ?_)
        refine r_callV (rest := []) (st2 := []) C (mX0_goAnHour (eL E) C.z (by decide) (wM M 4 1 ((M 4 0) &&& a2)) _ ((wM M 4 1 ((M 4 0) &&& a2)) 3) a4 ha4).selfW lk_X1_37 (rvI C (by decide)) (by decide) rfl rfl (Nat.le_of_ble_eq_true rfl) dX1_seek_34 rfl ?_
        refine r_aload_n C dX1_seek_37 0 0 rfl rfl ?_
        refine r_aload_n C dX1_seek_38 0 0 rfl rfl ?_
        refine r_aload_n C dX1_seek_39 0 0 rfl rfl ?_
        refine gf_X1_22 (v := (M 4 0)) C dX1_seek_40 rfl ?_
        refine r_callV (rest := [.ref (zA Z 4 0)]) (st2 := [.int (fX1_onwards (sR (wM M 4 1 ((M 4 0) &&& a2)) 3 a4) (M 4 0)), .ref (zA Z 4 0)]) C (mX1_onwards (eL E) C.z (sR (wM M 4 1 ((M 4 0) &&& a2)) 3 a4) N (M 4 0)) lk_X1_40 (rvR C) (by decide) rfl rfl (Nat.le_of_ble_eq_true rfl) dX1_seek_43 rfl ?_
        refine pf_X1_22 (M' := (wM (sR (wM M 4 1 ((M 4 0) &&& a2)) 3 a4) 4 0 (fX1_onwards (sR (wM M 4 1 ((M 4 0) &&& a2)) 3 a4) (M 4 0)))) C dX1_seek_46 rfl ?_
        refine r_iinc (v := (x3 + 1)) (lv' := [(3, .int (x3 + 1)), (0, .ref (zA Z 4 0)), (1, .int x1), (2, .int x2)]) C dX1_seek_49 3 rfl rfl (by decide) rfl ?_
        refine r_goto (tgt := 2) C dX1_seek_52 (by decide) ?_
        refine r_lv [1, 2, 3, 0] (lv' := [(0, .ref (zA Z 4 0)), (1, .int x1), (2, .int x2), (3, .int (x3 + 1))]) rfl ?_
        exact ih (wM (sR (wM M 4 1 ((M 4 0) &&& a2)) 3 a4) 4 0 (fX1_onwards (sR (wM M 4 1 ((M 4 0) &&& a2)) 3 a4) (M 4 0))) x1 x2 (x3 + 1)
      · refine r_iload_n C dX1_seek_28 3 3 rfl rfl ?_
        exact r_iret C dX1_seek_29 rfl
noncomputable def fX1_seek   (M : Mi) (x1 : Int32) (x2 : Int32) : Option (Int32 × Mi) := (fX1_seek_2 fu M x1 x2 0)
theorem bX1_seek {Z : Zt} {E : Ec} {N : Ml} (C : Ok 1 Z E cX1_seek 4 RX1 (some .int) 4)    (M : Mi) (x1 : Int32) (x2 : Int32)  : GT Z E 4 (finX1_seek N) 0 [(0, .ref (zA Z 4 0)), (1, .int x1), (2, .int x2)] [] M N (fX1_seek M x1 x2) := by
  unfold fX1_seek
  refine r_iconst (v := 0) C dX1_seek_0 (by decide) ?_
  refine r_istore_n (lv' := [(3, .int 0), (0, .ref (zA Z 4 0)), (1, .int x1), (2, .int x2)]) C dX1_seek_1 3 rfl (by decide) rfl ?_
  refine r_lv [1, 2, 3, 0] (lv' := [(0, .ref (zA Z 4 0)), (1, .int x1), (2, .int x2), (3, .int 0)]) rfl ?_
  exact bX1_seek_2 C fu M x1 x2 0
theorem mX1_seek (l : Launch) {Z : Zt} (hZ : Zok 1 Z) (M : Mi) (N : Ml) (x1 : Int32) (x2 : Int32) (b : Int32 × Mi) (hb : fX1_seek M x1 x2 = some b) : Ct 1 Z l yX1_seek cX1_seek 4 (some .int) 4 [.ref (zA Z 4 0), .int x1, .int x2] M N (some (Value.int b.1), b.2, N) :=
  metG (fin := (finX1_seek N)) (by decide) (Nat.le_of_ble_eq_true rfl) (fun E _ C => bX1_seek C M x1 x2) hb
theorem dX1_seekTwo_0 : decode cX1_seekTwo 0 = .ok (.iconst 0, 1) := by decide +kernel
theorem dX1_seekTwo_1 : decode cX1_seekTwo 1 = .ok (.istore 4, 2) := by decide +kernel
theorem dX1_seekTwo_3 : decode cX1_seekTwo 3 = .ok (.iconst 0, 1) := by decide +kernel
theorem dX1_seekTwo_4 : decode cX1_seekTwo 4 = .ok (.istore 5, 2) := by decide +kernel
theorem dX1_seekTwo_6 : decode cX1_seekTwo 6 = .ok (.iconst 0, 1) := by decide +kernel
theorem dX1_seekTwo_7 : decode cX1_seekTwo 7 = .ok (.istore 6, 2) := by decide +kernel
theorem dX1_seekTwo_9 : decode cX1_seekTwo 9 = .ok (.iload 6, 2) := by decide +kernel
theorem dX1_seekTwo_11 : decode cX1_seekTwo 11 = .ok (.iload_n 3, 1) := by decide +kernel
theorem dX1_seekTwo_12 : decode cX1_seekTwo 12 = .ok (.if_icmp .gt 101, 3) := by decide +kernel
theorem dX1_seekTwo_15 : decode cX1_seekTwo 15 = .ok (.aload_n 0, 1) := by decide +kernel
theorem dX1_seekTwo_16 : decode cX1_seekTwo 16 = .ok (.iload_n 1, 1) := by decide +kernel
theorem dX1_seekTwo_17 : decode cX1_seekTwo 17 = .ok (.invokevirtual 30, 3) := by decide +kernel
theorem dX1_seekTwo_20 : decode cX1_seekTwo 20 = .ok (.istore 7, 2) := by decide +kernel
theorem dX1_seekTwo_22 : decode cX1_seekTwo 22 = .ok (.aload_n 0, 1) := by decide +kernel
theorem dX1_seekTwo_23 : decode cX1_seekTwo 23 = .ok (.iload_n 2, 1) := by decide +kernel
theorem dX1_seekTwo_24 : decode cX1_seekTwo 24 = .ok (.invokevirtual 30, 3) := by decide +kernel
theorem dX1_seekTwo_27 : decode cX1_seekTwo 27 = .ok (.istore 8, 2) := by decide +kernel
theorem dX1_seekTwo_29 : decode cX1_seekTwo 29 = .ok (.iload 4, 2) := by decide +kernel
theorem dX1_seekTwo_31 : decode cX1_seekTwo 31 = .ok (.aload_n 0, 1) := by decide +kernel
theorem dX1_seekTwo_32 : decode cX1_seekTwo 32 = .ok (.getfield 22, 3) := by decide +kernel
theorem dX1_seekTwo_35 : decode cX1_seekTwo 35 = .ok (.iload 7, 2) := by decide +kernel
theorem dX1_seekTwo_37 : decode cX1_seekTwo 37 = .ok (.iand, 1) := by decide +kernel
theorem dX1_seekTwo_38 : decode cX1_seekTwo 38 = .ok (.ior, 1) := by decide +kernel
theorem dX1_seekTwo_39 : decode cX1_seekTwo 39 = .ok (.istore 4, 2) := by decide +kernel
theorem dX1_seekTwo_41 : decode cX1_seekTwo 41 = .ok (.iload 5, 2) := by decide +kernel
theorem dX1_seekTwo_43 : decode cX1_seekTwo 43 = .ok (.aload_n 0, 1) := by decide +kernel
theorem dX1_seekTwo_44 : decode cX1_seekTwo 44 = .ok (.getfield 22, 3) := by decide +kernel
theorem dX1_seekTwo_47 : decode cX1_seekTwo 47 = .ok (.iload 8, 2) := by decide +kernel
theorem dX1_seekTwo_49 : decode cX1_seekTwo 49 = .ok (.iand, 1) := by decide +kernel
theorem dX1_seekTwo_50 : decode cX1_seekTwo 50 = .ok (.ior, 1) := by decide +kernel
theorem dX1_seekTwo_51 : decode cX1_seekTwo 51 = .ok (.istore 5, 2) := by decide +kernel
theorem dX1_seekTwo_53 : decode cX1_seekTwo 53 = .ok (.iload 4, 2) := by decide +kernel
theorem dX1_seekTwo_55 : decode cX1_seekTwo 55 = .ok (.iload 8, 2) := by decide +kernel
theorem dX1_seekTwo_57 : decode cX1_seekTwo 57 = .ok (.iand, 1) := by decide +kernel
theorem dX1_seekTwo_58 : decode cX1_seekTwo 58 = .ok (.ifCond .ne 11, 3) := by decide +kernel
theorem dX1_seekTwo_61 : decode cX1_seekTwo 61 = .ok (.iload 5, 2) := by decide +kernel
theorem dX1_seekTwo_63 : decode cX1_seekTwo 63 = .ok (.iload 7, 2) := by decide +kernel
theorem dX1_seekTwo_65 : decode cX1_seekTwo 65 = .ok (.iand, 1) := by decide +kernel
theorem dX1_seekTwo_66 : decode cX1_seekTwo 66 = .ok (.ifCond .eq 6, 3) := by decide +kernel
theorem dX1_seekTwo_69 : decode cX1_seekTwo 69 = .ok (.iload 6, 2) := by decide +kernel
theorem dX1_seekTwo_71 : decode cX1_seekTwo 71 = .ok (.ireturn, 1) := by decide +kernel
theorem dX1_seekTwo_72 : decode cX1_seekTwo 72 = .ok (.aload_n 0, 1) := by decide +kernel
theorem dX1_seekTwo_73 : decode cX1_seekTwo 73 = .ok (.iload 4, 2) := by decide +kernel
theorem dX1_seekTwo_75 : decode cX1_seekTwo 75 = .ok (.invokevirtual 40, 3) := by decide +kernel
theorem dX1_seekTwo_78 : decode cX1_seekTwo 78 = .ok (.istore 4, 2) := by decide +kernel
theorem dX1_seekTwo_80 : decode cX1_seekTwo 80 = .ok (.aload_n 0, 1) := by decide +kernel
theorem dX1_seekTwo_81 : decode cX1_seekTwo 81 = .ok (.iload 5, 2) := by decide +kernel
theorem dX1_seekTwo_83 : decode cX1_seekTwo 83 = .ok (.invokevirtual 40, 3) := by decide +kernel
theorem dX1_seekTwo_86 : decode cX1_seekTwo 86 = .ok (.istore 5, 2) := by decide +kernel
theorem dX1_seekTwo_88 : decode cX1_seekTwo 88 = .ok (.aload_n 0, 1) := by decide +kernel
theorem dX1_seekTwo_89 : decode cX1_seekTwo 89 = .ok (.getfield 12, 3) := by decide +kernel
theorem dX1_seekTwo_92 : decode cX1_seekTwo 92 = .ok (.invokevirtual 37, 3) := by decide +kernel
theorem dX1_seekTwo_95 : decode cX1_seekTwo 95 = .ok (.aload_n 0, 1) := by decide +kernel
theorem dX1_seekTwo_96 : decode cX1_seekTwo 96 = .ok (.aload_n 0, 1) := by decide +kernel
theorem dX1_seekTwo_97 : decode cX1_seekTwo 97 = .ok (.aload_n 0, 1) := by decide +kernel
theorem dX1_seekTwo_98 : decode cX1_seekTwo 98 = .ok (.getfield 22, 3) := by decide +kernel
theorem dX1_seekTwo_101 : decode cX1_seekTwo 101 = .ok (.invokevirtual 40, 3) := by decide +kernel
theorem dX1_seekTwo_104 : decode cX1_seekTwo 104 = .ok (.putfield 22, 3) := by decide +kernel
theorem dX1_seekTwo_107 : decode cX1_seekTwo 107 = .ok (.iinc 6 1, 3) := by decide +kernel
theorem dX1_seekTwo_110 : decode cX1_seekTwo 110 = .ok (.goto (-101), 3) := by decide +kernel
theorem dX1_seekTwo_113 : decode cX1_seekTwo 113 = .ok (.iconst (-1), 1) := by decide +kernel
theorem dX1_seekTwo_114 : decode cX1_seekTwo 114 = .ok (.ireturn, 1) := by decide +kernel
def finX1_seekTwo (N : Ml) : Int32 × Mi → Option Value × Mi × Ml := fun b => (some (Value.int b.1), b.2, N)
noncomputable def fX1_seekTwo_9   : Nat → Mi → Int32 → Int32 → Int32 → Int32 → Int32 → Int32 → Option (Int32 × Mi)
  | 0 => fun _ _ _ _ _ _ _ => none
  | n + 1 => fun M x1 x2 x3 x4 x5 x6 => (if x3 < x6 then (some ((-1), M)) else (Option.bind (fX1_cellsWith M x1) (fun a2 => (Option.bind (fX1_cellsWith M x2) (fun a3 => (if ((x4 ||| ((M 4 0) &&& a2)) &&& a3) = 0 then (if ((x5 ||| ((M 4 0) &&& a3)) &&& a2) = 0 then (Option.bind (fX0_goAnHour (M 3)) (fun a6 => ((fX1_seekTwo_9 n) (wM (sR M 3 a6) 4 0 (fX1_onwards (sR M 3 a6) (M 4 0))) x1 x2 x3 (fX1_onwards M (x4 ||| ((M 4 0) &&& a2))) (fX1_onwards M (x5 ||| ((M 4 0) &&& a3))) (x6 + 1)))) else (some (x6, M))) else (some (x6, M))))))))
theorem bX1_seekTwo_9 {Z : Zt} {E : Ec} {N : Ml} (C : Ok 1 Z E cX1_seekTwo 9 RX1 (some .int) 4)    : ∀ (n : Nat) (M : Mi) (x1 : Int32) (x2 : Int32) (x3 : Int32) (x4 : Int32) (x5 : Int32) (x6 : Int32), GT Z E 9 (finX1_seekTwo N) 9 [(0, .ref (zA Z 4 0)), (1, .int x1), (2, .int x2), (3, .int x3), (4, .int x4), (5, .int x5), (6, .int x6)] [] M N (fX1_seekTwo_9 n M x1 x2 x3 x4 x5 x6) := by
  intro n
  induction n with
  | zero => intro M x1 x2 x3 x4 x5 x6; exact r_none
  | succ n ih =>
    intro M x1 x2 x3 x4 x5 x6
    rw [fX1_seekTwo_9]
    refine r_iload C dX1_seekTwo_9 6 rfl ?_
    refine r_iload_n C dX1_seekTwo_11 3 3 rfl rfl ?_
    refine r_ic_gt (tgt := 113) C dX1_seekTwo_12 (by decide) (fun c1 => ?_) (fun c1 => ?_)
    · refine r_iconst (v := (-1)) C dX1_seekTwo_113 (by decide) ?_
      exact r_iret C dX1_seekTwo_114 rfl
    · refine r_aload_n C dX1_seekTwo_15 0 0 rfl rfl ?_
      refine r_iload_n C dX1_seekTwo_16 1 1 rfl rfl ?_
      refine r_bind (fun a2 ha2 => ?_)
      refine r_callV (rest := []) (st2 := [.int a2]) C (mX1_cellsWith (eL E) C.z M N x1 a2 ha2) lk_X1_30 (rvR C) (by decide) rfl rfl (Nat.le_of_ble_eq_true rfl) dX1_seekTwo_17 rfl ?_
      refine r_istore (lv' := [(7, .int a2), (0, .ref (zA Z 4 0)), (1, .int x1), (2, .int x2), (3, .int x3), (4, .int x4), (5, .int x5), (6, .int x6)]) C dX1_seekTwo_20 (by decide) rfl ?_
      refine r_aload_n C dX1_seekTwo_22 0 1 rfl rfl ?_
      refine r_iload_n C dX1_seekTwo_23 2 3 rfl rfl ?_
      refine r_bind (fun a3 ha3 => ?_)
      refine r_callV (rest := []) (st2 := [.int a3]) C (mX1_cellsWith (eL E) C.z M N x2 a3 ha3) lk_X1_30 (rvR C) (by decide) rfl rfl (Nat.le_of_ble_eq_true rfl) dX1_seekTwo_24 rfl ?_
      refine r_istore (lv' := [(8, .int a3), (7, .int a2), (0, .ref (zA Z 4 0)), (1, .int x1), (2, .int x2), (3, .int x3), (4, .int x4), (5, .int x5), (6, .int x6)]) C dX1_seekTwo_27 (by decide) rfl ?_
      refine r_iload C dX1_seekTwo_29 6 rfl ?_
      refine r_aload_n C dX1_seekTwo_31 0 2 rfl rfl ?_
      refine gf_X1_22 (v := (M 4 0)) C dX1_seekTwo_32 rfl ?_
      refine r_iload C dX1_seekTwo_35 1 rfl ?_
      refine r_iand C dX1_seekTwo_37 ?_
      refine r_ior C dX1_seekTwo_38 ?_
      refine r_istore (lv' := [(4, .int (x4 ||| ((M 4 0) &&& a2))), (8, .int a3), (7, .int a2), (0, .ref (zA Z 4 0)), (1, .int x1), (2, .int x2), (3, .int x3), (5, .int x5), (6, .int x6)]) C dX1_seekTwo_39 (by decide) rfl ?_
      refine r_iload C dX1_seekTwo_41 7 rfl ?_
      refine r_aload_n C dX1_seekTwo_43 0 3 rfl rfl ?_
      refine gf_X1_22 (v := (M 4 0)) C dX1_seekTwo_44 rfl ?_
      refine r_iload C dX1_seekTwo_47 1 rfl ?_
      refine r_iand C dX1_seekTwo_49 ?_
      refine r_ior C dX1_seekTwo_50 ?_
      refine r_istore (lv' := [(5, .int (x5 ||| ((M 4 0) &&& a3))), (4, .int (x4 ||| ((M 4 0) &&& a2))), (8, .int a3), (7, .int a2), (0, .ref (zA Z 4 0)), (1, .int x1), (2, .int x2), (3, .int x3), (6, .int x6)]) C dX1_seekTwo_51 (by decide) rfl ?_
      refine r_iload C dX1_seekTwo_53 1 rfl ?_
      refine r_iload C dX1_seekTwo_55 2 rfl ?_
      refine r_iand C dX1_seekTwo_57 ?_
      refine r_if_ne (tgt := 69) C dX1_seekTwo_58 (by decide) (fun c4 => ?_) (fun c4 => ?_)
      · refine r_iload C dX1_seekTwo_69 8 rfl ?_
        exact r_iret C dX1_seekTwo_71 rfl
      · refine r_iload C dX1_seekTwo_61 0 rfl ?_
        refine r_iload C dX1_seekTwo_63 3 rfl ?_
        refine r_iand C dX1_seekTwo_65 ?_
        refine r_if_eq (tgt := 72) C dX1_seekTwo_66 (by decide) (fun c5 => ?_) (fun c5 => ?_)
        · refine r_aload_n C dX1_seekTwo_72 0 4 rfl rfl ?_
          refine r_iload C dX1_seekTwo_73 1 rfl ?_
          refine r_callV (rest := []) (st2 := [.int (fX1_onwards M (x4 ||| ((M 4 0) &&& a2)))]) C (mX1_onwards (eL E) C.z M N (x4 ||| ((M 4 0) &&& a2))) lk_X1_40 (rvR C) (by decide) rfl rfl (Nat.le_of_ble_eq_true rfl) dX1_seekTwo_75 rfl ?_
          refine r_istore (lv' := [(4, .int (fX1_onwards M (x4 ||| ((M 4 0) &&& a2)))), (5, .int (x5 ||| ((M 4 0) &&& a3))), (8, .int a3), (7, .int a2), (0, .ref (zA Z 4 0)), (1, .int x1), (2, .int x2), (3, .int x3), (6, .int x6)]) C dX1_seekTwo_78 (by decide) rfl ?_
          refine r_aload_n C dX1_seekTwo_80 0 4 rfl rfl ?_
          refine r_iload C dX1_seekTwo_81 1 rfl ?_
          refine r_callV (rest := []) (st2 := [.int (fX1_onwards M (x5 ||| ((M 4 0) &&& a3)))]) C (mX1_onwards (eL E) C.z M N (x5 ||| ((M 4 0) &&& a3))) lk_X1_40 (rvR C) (by decide) rfl rfl (Nat.le_of_ble_eq_true rfl) dX1_seekTwo_83 rfl ?_
          refine r_istore (lv' := [(5, .int (fX1_onwards M (x5 ||| ((M 4 0) &&& a3)))), (4, .int (fX1_onwards M (x4 ||| ((M 4 0) &&& a2)))), (8, .int a3), (7, .int a2), (0, .ref (zA Z 4 0)), (1, .int x1), (2, .int x2), (3, .int x3), (6, .int x6)]) C dX1_seekTwo_86 (by decide) rfl ?_
          refine r_aload_n C dX1_seekTwo_88 0 4 rfl rfl ?_
          refine gf_X1_12 C dX1_seekTwo_89 ?_
          refine r_bind (fun a6 ha6 => ?_)
          refine r_callV (rest := []) (st2 := []) C (mX0_goAnHour (eL E) C.z (by decide) M _ (M 3) a6 ha6).selfW lk_X1_37 (rvI C (by decide)) (by decide) rfl rfl (Nat.le_of_ble_eq_true rfl) dX1_seekTwo_92 rfl ?_
          refine r_aload_n C dX1_seekTwo_95 0 4 rfl rfl ?_
          refine r_aload_n C dX1_seekTwo_96 0 4 rfl rfl ?_
          refine r_aload_n C dX1_seekTwo_97 0 4 rfl rfl ?_
          refine gf_X1_22 (v := (M 4 0)) C dX1_seekTwo_98 rfl ?_
          refine r_callV (rest := [.ref (zA Z 4 0)]) (st2 := [.int (fX1_onwards (sR M 3 a6) (M 4 0)), .ref (zA Z 4 0)]) C (mX1_onwards (eL E) C.z (sR M 3 a6) N (M 4 0)) lk_X1_40 (rvR C) (by decide) rfl rfl (Nat.le_of_ble_eq_true rfl) dX1_seekTwo_101 rfl ?_
          refine pf_X1_22 (M' := (wM (sR M 3 a6) 4 0 (fX1_onwards (sR M 3 a6) (M 4 0)))) C dX1_seekTwo_104 rfl ?_
          refine r_iinc (v := (x6 + 1)) (lv' := [(6, .int (x6 + 1)), (5, .int (fX1_onwards M (x5 ||| ((M 4 0) &&& a3)))), (4, .int (fX1_onwards M (x4 ||| ((M 4 0) &&& a2)))), (8, .int a3), (7, .int a2), (0, .ref (zA Z 4 0)), (1, .int x1), (2, .int x2), (3, .int x3)]) C dX1_seekTwo_107 8 rfl rfl (by decide) rfl ?_
          refine r_goto (tgt := 9) C dX1_seekTwo_110 (by decide) ?_
          refine r_lv [5, 6, 7, 8, 2, 1, 0] (lv' := [(0, .ref (zA Z 4 0)), (1, .int x1), (2, .int x2), (3, .int x3), (4, .int (fX1_onwards M (x4 ||| ((M 4 0) &&& a2)))), (5, .int (fX1_onwards M (x5 ||| ((M 4 0) &&& a3)))), (6, .int (x6 + 1))]) rfl ?_
          exact ih (wM (sR M 3 a6) 4 0 (fX1_onwards (sR M 3 a6) (M 4 0))) x1 x2 x3 (fX1_onwards M (x4 ||| ((M 4 0) &&& a2))) (fX1_onwards M (x5 ||| ((M 4 0) &&& a3))) (x6 + 1)
        · refine r_iload C dX1_seekTwo_69 8 rfl ?_
          exact r_iret C dX1_seekTwo_71 rfl
noncomputable def fX1_seekTwo   (M : Mi) (x1 : Int32) (x2 : Int32) (x3 : Int32) : Option (Int32 × Mi) := (fX1_seekTwo_9 fu M x1 x2 x3 0 0 0)
theorem bX1_seekTwo {Z : Zt} {E : Ec} {N : Ml} (C : Ok 1 Z E cX1_seekTwo 9 RX1 (some .int) 4)    (M : Mi) (x1 : Int32) (x2 : Int32) (x3 : Int32)  : GT Z E 9 (finX1_seekTwo N) 0 [(0, .ref (zA Z 4 0)), (1, .int x1), (2, .int x2), (3, .int x3)] [] M N (fX1_seekTwo M x1 x2 x3) := by
  unfold fX1_seekTwo
  refine r_iconst (v := 0) C dX1_seekTwo_0 (by decide) ?_
  refine r_istore (lv' := [(4, .int 0), (0, .ref (zA Z 4 0)), (1, .int x1), (2, .int x2), (3, .int x3)]) C dX1_seekTwo_1 (by decide) rfl ?_
  refine r_iconst (v := 0) C dX1_seekTwo_3 (by decide) ?_
  refine r_istore (lv' := [(5, .int 0), (4, .int 0), (0, .ref (zA Z 4 0)), (1, .int x1), (2, .int x2), (3, .int x3)]) C dX1_seekTwo_4 (by decide) rfl ?_
  refine r_iconst (v := 0) C dX1_seekTwo_6 (by decide) ?_
  refine r_istore (lv' := [(6, .int 0), (5, .int 0), (4, .int 0), (0, .ref (zA Z 4 0)), (1, .int x1), (2, .int x2), (3, .int x3)]) C dX1_seekTwo_7 (by decide) rfl ?_
  refine r_lv [3, 4, 5, 6, 2, 1, 0] (lv' := [(0, .ref (zA Z 4 0)), (1, .int x1), (2, .int x2), (3, .int x3), (4, .int 0), (5, .int 0), (6, .int 0)]) rfl ?_
  exact bX1_seekTwo_9 C fu M x1 x2 x3 0 0 0
theorem mX1_seekTwo (l : Launch) {Z : Zt} (hZ : Zok 1 Z) (M : Mi) (N : Ml) (x1 : Int32) (x2 : Int32) (x3 : Int32) (b : Int32 × Mi) (hb : fX1_seekTwo M x1 x2 x3 = some b) : Ct 1 Z l yX1_seekTwo cX1_seekTwo 9 (some .int) 4 [.ref (zA Z 4 0), .int x1, .int x2, .int x3] M N (some (Value.int b.1), b.2, N) :=
  metG (fin := (finX1_seekTwo N)) (by decide) (Nat.le_of_ble_eq_true rfl) (fun E _ C => bX1_seekTwo C M x1 x2 x3) hb
theorem dX1_subjectsWithin_0 : decode cX1_subjectsWithin 0 = .ok (.iconst 0, 1) := by decide +kernel
theorem dX1_subjectsWithin_1 : decode cX1_subjectsWithin 1 = .ok (.istore_n 2, 1) := by decide +kernel
theorem dX1_subjectsWithin_2 : decode cX1_subjectsWithin 2 = .ok (.iconst 0, 1) := by decide +kernel
theorem dX1_subjectsWithin_3 : decode cX1_subjectsWithin 3 = .ok (.istore_n 3, 1) := by decide +kernel
theorem dX1_subjectsWithin_4 : decode cX1_subjectsWithin 4 = .ok (.iload_n 3, 1) := by decide +kernel
theorem dX1_subjectsWithin_5 : decode cX1_subjectsWithin 5 = .ok (.iload_n 1, 1) := by decide +kernel
theorem dX1_subjectsWithin_6 : decode cX1_subjectsWithin 6 = .ok (.if_icmp .gt 42, 3) := by decide +kernel
theorem dX1_subjectsWithin_9 : decode cX1_subjectsWithin 9 = .ok (.iload_n 2, 1) := by decide +kernel
theorem dX1_subjectsWithin_10 : decode cX1_subjectsWithin 10 = .ok (.aload_n 0, 1) := by decide +kernel
theorem dX1_subjectsWithin_11 : decode cX1_subjectsWithin 11 = .ok (.getfield 12, 3) := by decide +kernel
theorem dX1_subjectsWithin_14 : decode cX1_subjectsWithin 14 = .ok (.aload_n 0, 1) := by decide +kernel
theorem dX1_subjectsWithin_15 : decode cX1_subjectsWithin 15 = .ok (.getfield 22, 3) := by decide +kernel
theorem dX1_subjectsWithin_18 : decode cX1_subjectsWithin 18 = .ok (.invokevirtual 43, 3) := by decide +kernel
theorem dX1_subjectsWithin_21 : decode cX1_subjectsWithin 21 = .ok (.ior, 1) := by decide +kernel
theorem dX1_subjectsWithin_22 : decode cX1_subjectsWithin 22 = .ok (.istore_n 2, 1) := by decide +kernel
theorem dX1_subjectsWithin_23 : decode cX1_subjectsWithin 23 = .ok (.aload_n 0, 1) := by decide +kernel
theorem dX1_subjectsWithin_24 : decode cX1_subjectsWithin 24 = .ok (.getfield 12, 3) := by decide +kernel
theorem dX1_subjectsWithin_27 : decode cX1_subjectsWithin 27 = .ok (.invokevirtual 37, 3) := by decide +kernel
theorem dX1_subjectsWithin_30 : decode cX1_subjectsWithin 30 = .ok (.aload_n 0, 1) := by decide +kernel
theorem dX1_subjectsWithin_31 : decode cX1_subjectsWithin 31 = .ok (.aload_n 0, 1) := by decide +kernel
theorem dX1_subjectsWithin_32 : decode cX1_subjectsWithin 32 = .ok (.aload_n 0, 1) := by decide +kernel
theorem dX1_subjectsWithin_33 : decode cX1_subjectsWithin 33 = .ok (.getfield 22, 3) := by decide +kernel
theorem dX1_subjectsWithin_36 : decode cX1_subjectsWithin 36 = .ok (.invokevirtual 40, 3) := by decide +kernel
theorem dX1_subjectsWithin_39 : decode cX1_subjectsWithin 39 = .ok (.putfield 22, 3) := by decide +kernel
theorem dX1_subjectsWithin_42 : decode cX1_subjectsWithin 42 = .ok (.iinc 3 1, 3) := by decide +kernel
theorem dX1_subjectsWithin_45 : decode cX1_subjectsWithin 45 = .ok (.goto (-41), 3) := by decide +kernel
theorem dX1_subjectsWithin_48 : decode cX1_subjectsWithin 48 = .ok (.iload_n 2, 1) := by decide +kernel
theorem dX1_subjectsWithin_49 : decode cX1_subjectsWithin 49 = .ok (.ireturn, 1) := by decide +kernel
def finX1_subjectsWithin (N : Ml) : Int32 × Mi → Option Value × Mi × Ml := fun b => (some (Value.int b.1), b.2, N)
noncomputable def fX1_subjectsWithin_4   : Nat → Mi → Int32 → Int32 → Int32 → Option (Int32 × Mi)
  | 0 => fun _ _ _ _ => none
  | n + 1 => fun M x1 x2 x3 => (if x1 < x3 then (some (x2, M)) else (Option.bind (fX0_subjectsIn (M 3) (M 4 0)) (fun a2 => (Option.bind (fX0_goAnHour (M 3)) (fun a3 => ((fX1_subjectsWithin_4 n) (wM (sR M 3 a3) 4 0 (fX1_onwards (sR M 3 a3) (M 4 0))) x1 (x2 ||| a2) (x3 + 1)))))))
theorem bX1_subjectsWithin_4 {Z : Zt} {E : Ec} {N : Ml} (C : Ok 1 Z E cX1_subjectsWithin 4 RX1 (some .int) 4)    : ∀ (n : Nat) (M : Mi) (x1 : Int32) (x2 : Int32) (x3 : Int32), GT Z E 4 (finX1_subjectsWithin N) 4 [(0, .ref (zA Z 4 0)), (1, .int x1), (2, .int x2), (3, .int x3)] [] M N (fX1_subjectsWithin_4 n M x1 x2 x3) := by
  intro n
  induction n with
  | zero => intro M x1 x2 x3; exact r_none
  | succ n ih =>
    intro M x1 x2 x3
    rw [fX1_subjectsWithin_4]
    refine r_iload_n C dX1_subjectsWithin_4 3 3 rfl rfl ?_
    refine r_iload_n C dX1_subjectsWithin_5 1 1 rfl rfl ?_
    refine r_ic_gt (tgt := 48) C dX1_subjectsWithin_6 (by decide) (fun c1 => ?_) (fun c1 => ?_)
    · refine r_iload_n C dX1_subjectsWithin_48 2 2 rfl rfl ?_
      exact r_iret C dX1_subjectsWithin_49 rfl
    · refine r_iload_n C dX1_subjectsWithin_9 2 2 rfl rfl ?_
      refine r_aload_n C dX1_subjectsWithin_10 0 0 rfl rfl ?_
      refine gf_X1_12 C dX1_subjectsWithin_11 ?_
      refine r_aload_n C dX1_subjectsWithin_14 0 0 rfl rfl ?_
      refine gf_X1_22 (v := (M 4 0)) C dX1_subjectsWithin_15 rfl ?_
      refine r_bind (fun a2 ha2 => ?_)
      refine r_callV (rest := [.int x2]) (st2 := [.int a2, .int x2]) C (mX0_subjectsIn (eL E) C.z (by decide) M _ (M 3) (M 4 0) a2 ha2).selfR lk_X1_43 (rvI C (by decide)) (by decide) rfl rfl (Nat.le_of_ble_eq_true rfl) dX1_subjectsWithin_18 rfl ?_
      refine r_ior C dX1_subjectsWithin_21 ?_
      refine r_istore_n (lv' := [(2, .int (x2 ||| a2)), (0, .ref (zA Z 4 0)), (1, .int x1), (3, .int x3)]) C dX1_subjectsWithin_22 2 rfl (by decide) rfl ?_
      refine r_aload_n C dX1_subjectsWithin_23 0 1 rfl rfl ?_
      refine gf_X1_12 C dX1_subjectsWithin_24 ?_
      refine r_bind (fun a3 ha3 => ?_)
      refine r_callV (rest := []) (st2 := []) C (mX0_goAnHour (eL E) C.z (by decide) M _ (M 3) a3 ha3).selfW lk_X1_37 (rvI C (by decide)) (by decide) rfl rfl (Nat.le_of_ble_eq_true rfl) dX1_subjectsWithin_27 rfl ?_
      refine r_aload_n C dX1_subjectsWithin_30 0 1 rfl rfl ?_
      refine r_aload_n C dX1_subjectsWithin_31 0 1 rfl rfl ?_
      refine r_aload_n C dX1_subjectsWithin_32 0 1 rfl rfl ?_
      refine gf_X1_22 (v := (M 4 0)) C dX1_subjectsWithin_33 rfl ?_
      refine r_callV (rest := [.ref (zA Z 4 0)]) (st2 := [.int (fX1_onwards (sR M 3 a3) (M 4 0)), .ref (zA Z 4 0)]) C (mX1_onwards (eL E) C.z (sR M 3 a3) N (M 4 0)) lk_X1_40 (rvR C) (by decide) rfl rfl (Nat.le_of_ble_eq_true rfl) dX1_subjectsWithin_36 rfl ?_
      refine pf_X1_22 (M' := (wM (sR M 3 a3) 4 0 (fX1_onwards (sR M 3 a3) (M 4 0)))) C dX1_subjectsWithin_39 rfl ?_
      refine r_iinc (v := (x3 + 1)) (lv' := [(3, .int (x3 + 1)), (2, .int (x2 ||| a2)), (0, .ref (zA Z 4 0)), (1, .int x1)]) C dX1_subjectsWithin_42 3 rfl rfl (by decide) rfl ?_
      refine r_goto (tgt := 4) C dX1_subjectsWithin_45 (by decide) ?_
      refine r_lv [2, 3, 1, 0] (lv' := [(0, .ref (zA Z 4 0)), (1, .int x1), (2, .int (x2 ||| a2)), (3, .int (x3 + 1))]) rfl ?_
      exact ih (wM (sR M 3 a3) 4 0 (fX1_onwards (sR M 3 a3) (M 4 0))) x1 (x2 ||| a2) (x3 + 1)
noncomputable def fX1_subjectsWithin   (M : Mi) (x1 : Int32) : Option (Int32 × Mi) := (fX1_subjectsWithin_4 fu M x1 0 0)
theorem bX1_subjectsWithin {Z : Zt} {E : Ec} {N : Ml} (C : Ok 1 Z E cX1_subjectsWithin 4 RX1 (some .int) 4)    (M : Mi) (x1 : Int32)  : GT Z E 4 (finX1_subjectsWithin N) 0 [(0, .ref (zA Z 4 0)), (1, .int x1)] [] M N (fX1_subjectsWithin M x1) := by
  unfold fX1_subjectsWithin
  refine r_iconst (v := 0) C dX1_subjectsWithin_0 (by decide) ?_
  refine r_istore_n (lv' := [(2, .int 0), (0, .ref (zA Z 4 0)), (1, .int x1)]) C dX1_subjectsWithin_1 2 rfl (by decide) rfl ?_
  refine r_iconst (v := 0) C dX1_subjectsWithin_2 (by decide) ?_
  refine r_istore_n (lv' := [(3, .int 0), (2, .int 0), (0, .ref (zA Z 4 0)), (1, .int x1)]) C dX1_subjectsWithin_3 3 rfl (by decide) rfl ?_
  refine r_lv [2, 3, 1, 0] (lv' := [(0, .ref (zA Z 4 0)), (1, .int x1), (2, .int 0), (3, .int 0)]) rfl ?_
  exact bX1_subjectsWithin_4 C fu M x1 0 0
theorem mX1_subjectsWithin (l : Launch) {Z : Zt} (hZ : Zok 1 Z) (M : Mi) (N : Ml) (x1 : Int32) (b : Int32 × Mi) (hb : fX1_subjectsWithin M x1 = some b) : Ct 1 Z l yX1_subjectsWithin cX1_subjectsWithin 4 (some .int) 4 [.ref (zA Z 4 0), .int x1] M N (some (Value.int b.1), b.2, N) :=
  metG (fin := (finX1_subjectsWithin N)) (by decide) (Nat.le_of_ble_eq_true rfl) (fun E _ C => bX1_subjectsWithin C M x1) hb
theorem dX2_isMissing_0 : decode cX2_isMissing 0 = .ok (.aload_n 0, 1) := by decide +kernel
theorem dX2_isMissing_1 : decode cX2_isMissing 1 = .ok (.getfield 15, 3) := by decide +kernel
theorem dX2_isMissing_4 : decode cX2_isMissing 4 = .ok (.ifCond .ne 7, 3) := by decide +kernel
theorem dX2_isMissing_7 : decode cX2_isMissing 7 = .ok (.iconst 1, 1) := by decide +kernel
theorem dX2_isMissing_8 : decode cX2_isMissing 8 = .ok (.goto 4, 3) := by decide +kernel
theorem dX2_isMissing_11 : decode cX2_isMissing 11 = .ok (.iconst 0, 1) := by decide +kernel
theorem dX2_isMissing_12 : decode cX2_isMissing 12 = .ok (.ireturn, 1) := by decide +kernel
def finX2_isMissing (M : Mi) (N : Ml) : Int32 → Option Value × Mi × Ml := fun b => (some (Value.int b), M, N)
noncomputable def fX2_isMissing (M : Mi) (g : Nat)   : Int32 := (if (M g 0) = 0 then 1 else 0)
theorem bX2_isMissing {Z : Zt} {E : Ec} {M : Mi} {N : Ml} {g : Nat} (C : Ok 1 Z E cX2_isMissing 1 RX2 (some .boolean) 0) (hg : 20 ≤ g ∧ g < 24)     : GT Z E 1 (finX2_isMissing M N) 0 [(0, .ref (zA Z g 0))] [] M N (some (fX2_isMissing M g )) := by
  unfold fX2_isMissing
  refine r_aload_n C dX2_isMissing_0 0 0 rfl rfl ?_
  refine gf_X2_15 (v := (M g 0)) C hg dX2_isMissing_1 rfl ?_
  refine r_st ?_
  refine r_if_ne (tgt := 11) C dX2_isMissing_4 (by decide) (fun c1 => ?_) (fun c1 => ?_)
  · refine r_iconst (v := 0) C dX2_isMissing_11 (by decide) ?_
    exact r_zret C dX2_isMissing_12 (Or.inl rfl) rfl
  · refine r_iconst (v := 1) C dX2_isMissing_7 (by decide) ?_
    refine r_goto (tgt := 12) C dX2_isMissing_8 (by decide) ?_
    exact r_zret C dX2_isMissing_12 (Or.inr rfl) rfl
theorem zbX2_isMissing (M : Mi) (g : Nat) : fX2_isMissing M g = 0 ∨ fX2_isMissing M g = 1 := by
  unfold fX2_isMissing; (repeat' split) <;> first | exact Or.inl rfl | exact Or.inr rfl
theorem mX2_isMissing (l : Launch) {Z : Zt} (hZ : Zok 1 Z) {g : Nat} (hg : 20 ≤ g ∧ g < 24) (M : Mi) (N : Ml) (_g : Nat) : Ct 1 Z l yX2_isMissing cX2_isMissing 1 (some .boolean) 0 [.ref (zA Z g 0)] M N (some (Value.int (fX2_isMissing M g)), M, N) :=
  metG (fin := (finX2_isMissing M N)) (by decide) (Nat.le_of_ble_eq_true rfl) (fun E _ C => bX2_isMissing C hg) rfl
theorem dX2_becomesBlank_0 : decode cX2_becomesBlank 0 = .ok (.aload_n 0, 1) := by decide +kernel
theorem dX2_becomesBlank_1 : decode cX2_becomesBlank 1 = .ok (.iload_n 1, 1) := by decide +kernel
theorem dX2_becomesBlank_2 : decode cX2_becomesBlank 2 = .ok (.putfield 15, 3) := by decide +kernel
theorem dX2_becomesBlank_5 : decode cX2_becomesBlank 5 = .ok (.aload_n 0, 1) := by decide +kernel
theorem dX2_becomesBlank_6 : decode cX2_becomesBlank 6 = .ok (.iload_n 2, 1) := by decide +kernel
theorem dX2_becomesBlank_7 : decode cX2_becomesBlank 7 = .ok (.putfield 19, 3) := by decide +kernel
theorem dX2_becomesBlank_10 : decode cX2_becomesBlank 10 = .ok (.iconst 0, 1) := by decide +kernel
theorem dX2_becomesBlank_11 : decode cX2_becomesBlank 11 = .ok (.istore_n 3, 1) := by decide +kernel
theorem dX2_becomesBlank_12 : decode cX2_becomesBlank 12 = .ok (.iload_n 3, 1) := by decide +kernel
theorem dX2_becomesBlank_13 : decode cX2_becomesBlank 13 = .ok (.bipush 40, 2) := by decide +kernel
theorem dX2_becomesBlank_15 : decode cX2_becomesBlank 15 = .ok (.if_icmp .ge 16, 3) := by decide +kernel
theorem dX2_becomesBlank_18 : decode cX2_becomesBlank 18 = .ok (.aload_n 0, 1) := by decide +kernel
theorem dX2_becomesBlank_19 : decode cX2_becomesBlank 19 = .ok (.getfield 9, 3) := by decide +kernel
theorem dX2_becomesBlank_22 : decode cX2_becomesBlank 22 = .ok (.iload_n 3, 1) := by decide +kernel
theorem dX2_becomesBlank_23 : decode cX2_becomesBlank 23 = .ok (.lconst 0, 1) := by decide +kernel
theorem dX2_becomesBlank_24 : decode cX2_becomesBlank 24 = .ok (.lastore, 1) := by decide +kernel
theorem dX2_becomesBlank_25 : decode cX2_becomesBlank 25 = .ok (.iinc 3 1, 3) := by decide +kernel
theorem dX2_becomesBlank_28 : decode cX2_becomesBlank 28 = .ok (.goto (-16), 3) := by decide +kernel
theorem dX2_becomesBlank_31 : decode cX2_becomesBlank 31 = .ok (.return_, 1) := by decide +kernel
def finX2_becomesBlank  : Mi × Ml → Option Value × Mi × Ml := fun b => (none, b.1, b.2)
noncomputable def fX2_becomesBlank_12 (g : Nat)  : Nat → Mi → Ml → Int32 → Option (Mi × Ml)
  | 0 => fun _ _ _ => none
  | n + 1 => fun M N x3 => (if 40 ≤ x3 then (some (M, N)) else (if inb x3 40 then ((fX2_becomesBlank_12 g n) M (wN N g (ix x3) 0) (x3 + 1)) else none))
theorem bX2_becomesBlank_12 {Z : Zt} {E : Ec} {g : Nat} (C : Ok 1 Z E cX2_becomesBlank 4 RX2 none 0) (hg : 20 ≤ g ∧ g < 24)   : ∀ (n : Nat) (M : Mi) (N : Ml) (x3 : Int32), GT Z E 4 finX2_becomesBlank 12 [(0, .ref (zA Z g 0)), (3, .int x3)] [] M N (fX2_becomesBlank_12 g n M N x3) := by
  intro n
  induction n with
  | zero => intro M N x3; exact r_none
  | succ n ih =>
    intro M N x3
    rw [fX2_becomesBlank_12]
    refine r_iload_n C dX2_becomesBlank_12 3 1 rfl rfl ?_
    refine r_bipush (v := 40) C dX2_becomesBlank_13 (by decide) ?_
    refine r_ic_ge (tgt := 31) C dX2_becomesBlank_15 (by decide) (fun c1 => ?_) (fun c1 => ?_)
    · exact r_vret C dX2_becomesBlank_31 rfl
    · refine r_aload_n C dX2_becomesBlank_18 0 0 rfl rfl ?_
      refine gf_X2_9 C hg dX2_becomesBlank_19 ?_
      refine r_iload_n C dX2_becomesBlank_22 3 1 rfl rfl ?_
      refine r_lconst (v := 0) C dX2_becomesBlank_23 (by decide) ?_
      refine r_guard (fun h2 => ?_)
      refine ast_S (N' := (wN N g (ix x3) 0)) C hg h2 rfl dX2_becomesBlank_24 ?_
      refine r_iinc (v := (x3 + 1)) (lv' := [(3, .int (x3 + 1)), (0, .ref (zA Z g 0))]) C dX2_becomesBlank_25 1 rfl rfl (by decide) rfl ?_
      refine r_goto (tgt := 12) C dX2_becomesBlank_28 (by decide) ?_
      refine r_lv [1, 0] (lv' := [(0, .ref (zA Z g 0)), (3, .int (x3 + 1))]) rfl ?_
      exact ih M (wN N g (ix x3) 0) (x3 + 1)
noncomputable def fX2_becomesBlank (g : Nat)  (M : Mi) (N : Ml) (x1 : Int32) (x2 : Int32) : Option (Mi × Ml) := (fX2_becomesBlank_12 g fu (wM (wM M g 0 x1) g 1 x2) N 0)
theorem bX2_becomesBlank {Z : Zt} {E : Ec} {g : Nat} (C : Ok 1 Z E cX2_becomesBlank 4 RX2 none 0) (hg : 20 ≤ g ∧ g < 24)   (M : Mi) (N : Ml) (x1 : Int32) (x2 : Int32)  : GT Z E 4 finX2_becomesBlank 0 [(0, .ref (zA Z g 0)), (1, .int x1), (2, .int x2)] [] M N (fX2_becomesBlank g M N x1 x2) := by
  unfold fX2_becomesBlank
  refine r_aload_n C dX2_becomesBlank_0 0 0 rfl rfl ?_
  refine r_iload_n C dX2_becomesBlank_1 1 1 rfl rfl ?_
  refine pf_X2_15 (M' := (wM M g 0 x1)) C hg dX2_becomesBlank_2 rfl ?_
  refine r_aload_n C dX2_becomesBlank_5 0 0 rfl rfl ?_
  refine r_iload_n C dX2_becomesBlank_6 2 2 rfl rfl ?_
  refine pf_X2_19 (M' := (wM (wM M g 0 x1) g 1 x2)) C hg dX2_becomesBlank_7 rfl ?_
  refine r_iconst (v := 0) C dX2_becomesBlank_10 (by decide) ?_
  refine r_istore_n (lv' := [(3, .int 0), (0, .ref (zA Z g 0)), (1, .int x1), (2, .int x2)]) C dX2_becomesBlank_11 3 rfl (by decide) rfl ?_
  refine r_lv [1, 0] (lv' := [(0, .ref (zA Z g 0)), (3, .int 0)]) rfl ?_
  exact bX2_becomesBlank_12 C hg fu (wM (wM M g 0 x1) g 1 x2) N 0
theorem mX2_becomesBlank (l : Launch) {Z : Zt} (hZ : Zok 1 Z) {g : Nat} (hg : 20 ≤ g ∧ g < 24) (M : Mi) (N : Ml) (_g : Nat) (x1 : Int32) (x2 : Int32) (b : Mi × Ml) (hb : fX2_becomesBlank g M N x1 x2 = some b) : Ct 1 Z l yX2_becomesBlank cX2_becomesBlank 4 none 0 [.ref (zA Z g 0), .int x1, .int x2] M N (none, b.1, b.2) :=
  metG (fin := finX2_becomesBlank) (by decide) (Nat.le_of_ble_eq_true rfl) (fun E _ C => bX2_becomesBlank C hg M N x1 x2) hb
theorem dX2_lowestBits_0 : decode cX2_lowestBits 0 = .ok (.aload_n 0, 1) := by decide +kernel
theorem dX2_lowestBits_1 : decode cX2_lowestBits 1 = .ok (.getfield 15, 3) := by decide +kernel
theorem dX2_lowestBits_4 : decode cX2_lowestBits 4 = .ok (.bipush 8, 2) := by decide +kernel
theorem dX2_lowestBits_6 : decode cX2_lowestBits 6 = .ok (.if_icmp .ne 8, 3) := by decide +kernel
theorem dX2_lowestBits_9 : decode cX2_lowestBits 9 = .ok (.lload_n 1, 1) := by decide +kernel
theorem dX2_lowestBits_10 : decode cX2_lowestBits 10 = .ok (.l2i, 1) := by decide +kernel
theorem dX2_lowestBits_11 : decode cX2_lowestBits 11 = .ok (.i2b, 1) := by decide +kernel
theorem dX2_lowestBits_12 : decode cX2_lowestBits 12 = .ok (.i2l, 1) := by decide +kernel
theorem dX2_lowestBits_13 : decode cX2_lowestBits 13 = .ok (.lreturn, 1) := by decide +kernel
theorem dX2_lowestBits_14 : decode cX2_lowestBits 14 = .ok (.aload_n 0, 1) := by decide +kernel
theorem dX2_lowestBits_15 : decode cX2_lowestBits 15 = .ok (.getfield 15, 3) := by decide +kernel
theorem dX2_lowestBits_18 : decode cX2_lowestBits 18 = .ok (.bipush 16, 2) := by decide +kernel
theorem dX2_lowestBits_20 : decode cX2_lowestBits 20 = .ok (.if_icmp .ne 10, 3) := by decide +kernel
theorem dX2_lowestBits_23 : decode cX2_lowestBits 23 = .ok (.lload_n 1, 1) := by decide +kernel
theorem dX2_lowestBits_24 : decode cX2_lowestBits 24 = .ok (.l2i, 1) := by decide +kernel
theorem dX2_lowestBits_25 : decode cX2_lowestBits 25 = .ok (.i2s, 1) := by decide +kernel
theorem dX2_lowestBits_26 : decode cX2_lowestBits 26 = .ok (.i2l, 1) := by decide +kernel
theorem dX2_lowestBits_27 : decode cX2_lowestBits 27 = .ok (.goto 4, 3) := by decide +kernel
theorem dX2_lowestBits_30 : decode cX2_lowestBits 30 = .ok (.lload_n 1, 1) := by decide +kernel
theorem dX2_lowestBits_31 : decode cX2_lowestBits 31 = .ok (.lreturn, 1) := by decide +kernel
def finX2_lowestBits (M : Mi) (N : Ml) : Int64 → Option Value × Mi × Ml := fun b => (some (Value.long b), M, N)
noncomputable def fX2_lowestBits (M : Mi) (g : Nat)  (x1 : Int64) : Int64 := (if (M g 0) = 8 then (Int32.toInt64 (Int8.toInt32 (Int32.toInt8 (Int64.toInt32 x1)))) else (if (M g 0) = 16 then (Int32.toInt64 (Int16.toInt32 (Int32.toInt16 (Int64.toInt32 x1)))) else x1))
theorem bX2_lowestBits {Z : Zt} {E : Ec} {M : Mi} {N : Ml} {g : Nat} (C : Ok 1 Z E cX2_lowestBits 3 RX2 (some .long) 0) (hg : 20 ≤ g ∧ g < 24)   (x1 : Int64)  : GT Z E 3 (finX2_lowestBits M N) 0 [(0, .ref (zA Z g 0)), (1, .long x1)] [] M N (some (fX2_lowestBits M g x1)) := by
  unfold fX2_lowestBits
  refine r_aload_n C dX2_lowestBits_0 0 0 rfl rfl ?_
  refine gf_X2_15 (v := (M g 0)) C hg dX2_lowestBits_1 rfl ?_
  refine r_bipush (v := 8) C dX2_lowestBits_4 (by decide) ?_
  refine r_st ?_
  refine r_ic_ne (tgt := 14) C dX2_lowestBits_6 (by decide) (fun c1 => ?_) (fun c1 => ?_)
  · refine r_aload_n C dX2_lowestBits_14 0 0 rfl rfl ?_
    refine gf_X2_15 (v := (M g 0)) C hg dX2_lowestBits_15 rfl ?_
    refine r_bipush (v := 16) C dX2_lowestBits_18 (by decide) ?_
    refine r_st ?_
    refine r_ic_ne (tgt := 30) C dX2_lowestBits_20 (by decide) (fun c2 => ?_) (fun c2 => ?_)
    · refine r_lload_n C dX2_lowestBits_30 1 1 rfl rfl ?_
      exact r_lret C dX2_lowestBits_31 rfl
    · refine r_lload_n C dX2_lowestBits_23 1 1 rfl rfl ?_
      refine r_l2i C dX2_lowestBits_24 ?_
      refine r_i2s C dX2_lowestBits_25 ?_
      refine r_i2l C dX2_lowestBits_26 ?_
      refine r_goto (tgt := 31) C dX2_lowestBits_27 (by decide) ?_
      exact r_lret C dX2_lowestBits_31 rfl
  · refine r_lload_n C dX2_lowestBits_9 1 1 rfl rfl ?_
    refine r_l2i C dX2_lowestBits_10 ?_
    refine r_i2b C dX2_lowestBits_11 ?_
    refine r_i2l C dX2_lowestBits_12 ?_
    exact r_lret C dX2_lowestBits_13 rfl
theorem mX2_lowestBits (l : Launch) {Z : Zt} (hZ : Zok 1 Z) {g : Nat} (hg : 20 ≤ g ∧ g < 24) (M : Mi) (N : Ml) (_g : Nat) (x1 : Int64) : Ct 1 Z l yX2_lowestBits cX2_lowestBits 3 (some .long) 0 [.ref (zA Z g 0), .long x1] M N (some (Value.long (fX2_lowestBits M g x1)), M, N) :=
  metG (fin := (finX2_lowestBits M N)) (by decide) (Nat.le_of_ble_eq_true rfl) (fun E _ C => bX2_lowestBits C hg x1) rfl
theorem dX2_hasFrom_0 : decode cX2_hasFrom 0 = .ok (.iload_n 1, 1) := by decide +kernel
theorem dX2_hasFrom_1 : decode cX2_hasFrom 1 = .ok (.ifCond .lt 29, 3) := by decide +kernel
theorem dX2_hasFrom_4 : decode cX2_hasFrom 4 = .ok (.iload_n 2, 1) := by decide +kernel
theorem dX2_hasFrom_5 : decode cX2_hasFrom 5 = .ok (.ifCond .lt 25, 3) := by decide +kernel
theorem dX2_hasFrom_8 : decode cX2_hasFrom 8 = .ok (.iload_n 2, 1) := by decide +kernel
theorem dX2_hasFrom_9 : decode cX2_hasFrom 9 = .ok (.aload_n 0, 1) := by decide +kernel
theorem dX2_hasFrom_10 : decode cX2_hasFrom 10 = .ok (.getfield 19, 3) := by decide +kernel
theorem dX2_hasFrom_13 : decode cX2_hasFrom 13 = .ok (.if_icmp .gt 17, 3) := by decide +kernel
theorem dX2_hasFrom_16 : decode cX2_hasFrom 16 = .ok (.iload_n 1, 1) := by decide +kernel
theorem dX2_hasFrom_17 : decode cX2_hasFrom 17 = .ok (.aload_n 0, 1) := by decide +kernel
theorem dX2_hasFrom_18 : decode cX2_hasFrom 18 = .ok (.getfield 19, 3) := by decide +kernel
theorem dX2_hasFrom_21 : decode cX2_hasFrom 21 = .ok (.iload_n 2, 1) := by decide +kernel
theorem dX2_hasFrom_22 : decode cX2_hasFrom 22 = .ok (.isub, 1) := by decide +kernel
theorem dX2_hasFrom_23 : decode cX2_hasFrom 23 = .ok (.if_icmp .gt 7, 3) := by decide +kernel
theorem dX2_hasFrom_26 : decode cX2_hasFrom 26 = .ok (.iconst 1, 1) := by decide +kernel
theorem dX2_hasFrom_27 : decode cX2_hasFrom 27 = .ok (.goto 4, 3) := by decide +kernel
theorem dX2_hasFrom_30 : decode cX2_hasFrom 30 = .ok (.iconst 0, 1) := by decide +kernel
theorem dX2_hasFrom_31 : decode cX2_hasFrom 31 = .ok (.ireturn, 1) := by decide +kernel
def finX2_hasFrom (M : Mi) (N : Ml) : Int32 → Option Value × Mi × Ml := fun b => (some (Value.int b), M, N)
noncomputable def fX2_hasFrom (M : Mi) (g : Nat)  (x1 : Int32) (x2 : Int32) : Int32 := (if x1 < 0 then 0 else (if x2 < 0 then 0 else (if (M g 1) < x2 then 0 else (if ((M g 1) - x2) < x1 then 0 else 1))))
theorem bX2_hasFrom {Z : Zt} {E : Ec} {M : Mi} {N : Ml} {g : Nat} (C : Ok 1 Z E cX2_hasFrom 3 RX2 (some .boolean) 0) (hg : 20 ≤ g ∧ g < 24)   (x1 : Int32) (x2 : Int32)  : GT Z E 3 (finX2_hasFrom M N) 0 [(0, .ref (zA Z g 0)), (1, .int x1), (2, .int x2)] [] M N (some (fX2_hasFrom M g x1 x2)) := by
  unfold fX2_hasFrom
  refine r_iload_n C dX2_hasFrom_0 1 1 rfl rfl ?_
  refine r_st ?_
  refine r_if_lt (tgt := 30) C dX2_hasFrom_1 (by decide) (fun c1 => ?_) (fun c1 => ?_)
  · refine r_iconst (v := 0) C dX2_hasFrom_30 (by decide) ?_
    exact r_zret C dX2_hasFrom_31 (Or.inl rfl) rfl
  · refine r_iload_n C dX2_hasFrom_4 2 2 rfl rfl ?_
    refine r_st ?_
    refine r_if_lt (tgt := 30) C dX2_hasFrom_5 (by decide) (fun c2 => ?_) (fun c2 => ?_)
    · refine r_iconst (v := 0) C dX2_hasFrom_30 (by decide) ?_
      exact r_zret C dX2_hasFrom_31 (Or.inl rfl) rfl
    · refine r_iload_n C dX2_hasFrom_8 2 2 rfl rfl ?_
      refine r_aload_n C dX2_hasFrom_9 0 0 rfl rfl ?_
      refine gf_X2_19 (v := (M g 1)) C hg dX2_hasFrom_10 rfl ?_
      refine r_st ?_
      refine r_ic_gt (tgt := 30) C dX2_hasFrom_13 (by decide) (fun c3 => ?_) (fun c3 => ?_)
      · refine r_iconst (v := 0) C dX2_hasFrom_30 (by decide) ?_
        exact r_zret C dX2_hasFrom_31 (Or.inl rfl) rfl
      · refine r_iload_n C dX2_hasFrom_16 1 1 rfl rfl ?_
        refine r_aload_n C dX2_hasFrom_17 0 0 rfl rfl ?_
        refine gf_X2_19 (v := (M g 1)) C hg dX2_hasFrom_18 rfl ?_
        refine r_iload_n C dX2_hasFrom_21 2 2 rfl rfl ?_
        refine r_isub C dX2_hasFrom_22 ?_
        refine r_st ?_
        refine r_ic_gt (tgt := 30) C dX2_hasFrom_23 (by decide) (fun c4 => ?_) (fun c4 => ?_)
        · refine r_iconst (v := 0) C dX2_hasFrom_30 (by decide) ?_
          exact r_zret C dX2_hasFrom_31 (Or.inl rfl) rfl
        · refine r_iconst (v := 1) C dX2_hasFrom_26 (by decide) ?_
          refine r_goto (tgt := 31) C dX2_hasFrom_27 (by decide) ?_
          exact r_zret C dX2_hasFrom_31 (Or.inr rfl) rfl
theorem zbX2_hasFrom (M : Mi) (g : Nat) (x1 : Int32) (x2 : Int32) : fX2_hasFrom M g x1 x2 = 0 ∨ fX2_hasFrom M g x1 x2 = 1 := by
  unfold fX2_hasFrom; (repeat' split) <;> first | exact Or.inl rfl | exact Or.inr rfl
theorem mX2_hasFrom (l : Launch) {Z : Zt} (hZ : Zok 1 Z) {g : Nat} (hg : 20 ≤ g ∧ g < 24) (M : Mi) (N : Ml) (_g : Nat) (x1 : Int32) (x2 : Int32) : Ct 1 Z l yX2_hasFrom cX2_hasFrom 3 (some .boolean) 0 [.ref (zA Z g 0), .int x1, .int x2] M N (some (Value.int (fX2_hasFrom M g x1 x2)), M, N) :=
  metG (fin := (finX2_hasFrom M N)) (by decide) (Nat.le_of_ble_eq_true rfl) (fun E _ C => bX2_hasFrom C hg x1 x2) rfl
theorem dX3_takes_0 : decode cX3_takes 0 = .ok (.iload_n 2, 1) := by decide +kernel
theorem dX3_takes_1 : decode cX3_takes 1 = .ok (.iconst 1, 1) := by decide +kernel
theorem dX3_takes_2 : decode cX3_takes 2 = .ok (.isub, 1) := by decide +kernel
theorem dX3_takes_3 : decode cX3_takes 3 = .ok (.istore_n 3, 1) := by decide +kernel
theorem dX3_takes_4 : decode cX3_takes 4 = .ok (.iload_n 3, 1) := by decide +kernel
theorem dX3_takes_5 : decode cX3_takes 5 = .ok (.ifCond .lt 38, 3) := by decide +kernel
theorem dX3_takes_8 : decode cX3_takes 8 = .ok (.aload_n 0, 1) := by decide +kernel
theorem dX3_takes_9 : decode cX3_takes 9 = .ok (.getfield 9, 3) := by decide +kernel
theorem dX3_takes_12 : decode cX3_takes 12 = .ok (.aload_n 0, 1) := by decide +kernel
theorem dX3_takes_13 : decode cX3_takes 13 = .ok (.getfield 15, 3) := by decide +kernel
theorem dX3_takes_16 : decode cX3_takes 16 = .ok (.iload_n 1, 1) := by decide +kernel
theorem dX3_takes_17 : decode cX3_takes 17 = .ok (.bipush 8, 2) := by decide +kernel
theorem dX3_takes_19 : decode cX3_takes 19 = .ok (.iload_n 3, 1) := by decide +kernel
theorem dX3_takes_20 : decode cX3_takes 20 = .ok (.imul, 1) := by decide +kernel
theorem dX3_takes_21 : decode cX3_takes 21 = .ok (.iushr, 1) := by decide +kernel
theorem dX3_takes_22 : decode cX3_takes 22 = .ok (.sipush 255, 3) := by decide +kernel
theorem dX3_takes_25 : decode cX3_takes 25 = .ok (.iand, 1) := by decide +kernel
theorem dX3_takes_26 : decode cX3_takes 26 = .ok (.iastore, 1) := by decide +kernel
theorem dX3_takes_27 : decode cX3_takes 27 = .ok (.aload_n 0, 1) := by decide +kernel
theorem dX3_takes_28 : decode cX3_takes 28 = .ok (.dup, 1) := by decide +kernel
theorem dX3_takes_29 : decode cX3_takes 29 = .ok (.getfield 15, 3) := by decide +kernel
theorem dX3_takes_32 : decode cX3_takes 32 = .ok (.iconst 1, 1) := by decide +kernel
theorem dX3_takes_33 : decode cX3_takes 33 = .ok (.iadd, 1) := by decide +kernel
theorem dX3_takes_34 : decode cX3_takes 34 = .ok (.putfield 15, 3) := by decide +kernel
theorem dX3_takes_37 : decode cX3_takes 37 = .ok (.iinc 3 (-1), 3) := by decide +kernel
theorem dX3_takes_40 : decode cX3_takes 40 = .ok (.goto (-36), 3) := by decide +kernel
theorem dX3_takes_43 : decode cX3_takes 43 = .ok (.return_, 1) := by decide +kernel
def finX3_takes (N : Ml) : Mi → Option Value × Mi × Ml := fun b => (none, b, N)
noncomputable def fX3_takes_4   : Nat → Mi → Int32 → Int32 → Option (Mi)
  | 0 => fun _ _ _ => none
  | n + 1 => fun M x1 x3 => (if x3 < 0 then (some M) else (if inb (M 5 0) 120 then ((fX3_takes_4 n) (wM (wM M 5 (10 + ix (M 5 0)) ((ushr x1 (8 * x3)) &&& 255)) 5 0 (((wM M 5 (10 + ix (M 5 0)) ((ushr x1 (8 * x3)) &&& 255)) 5 0) + 1)) x1 (x3 + (-1))) else none))
theorem bX3_takes_4 {Z : Zt} {E : Ec} {N : Ml} (C : Ok 1 Z E cX3_takes 4 RX3 none 0)    : ∀ (n : Nat) (M : Mi) (x1 : Int32) (x3 : Int32), GT Z E 4 (finX3_takes N) 4 [(0, .ref (zA Z 5 0)), (1, .int x1), (3, .int x3)] [] M N (fX3_takes_4 n M x1 x3) := by
  intro n
  induction n with
  | zero => intro M x1 x3; exact r_none
  | succ n ih =>
    intro M x1 x3
    rw [fX3_takes_4]
    refine r_iload_n C dX3_takes_4 3 2 rfl rfl ?_
    refine r_if_lt (tgt := 43) C dX3_takes_5 (by decide) (fun c1 => ?_) (fun c1 => ?_)
    · exact r_vret C dX3_takes_43 rfl
    · refine r_aload_n C dX3_takes_8 0 0 rfl rfl ?_
      refine gf_X3_9 C dX3_takes_9 ?_
      refine r_aload_n C dX3_takes_12 0 0 rfl rfl ?_
      refine gf_X3_15 (v := (M 5 0)) C dX3_takes_13 rfl ?_
      refine r_iload_n C dX3_takes_16 1 1 rfl rfl ?_
      refine r_bipush (v := 8) C dX3_takes_17 (by decide) ?_
      refine r_iload_n C dX3_takes_19 3 2 rfl rfl ?_
      refine r_imul C dX3_takes_20 ?_
      refine r_iushr (v := (ushr x1 (8 * x3))) C dX3_takes_21 rfl ?_
      refine r_sipush (v := 255) C dX3_takes_22 (by decide) ?_
      refine r_iand C dX3_takes_25 ?_
      refine r_guard (fun h2 => ?_)
      refine ast_B (M' := (wM M 5 (10 + ix (M 5 0)) ((ushr x1 (8 * x3)) &&& 255))) C h2 rfl dX3_takes_26 ?_
      refine r_aload_n C dX3_takes_27 0 0 rfl rfl ?_
      refine r_dup C dX3_takes_28 rfl ?_
      refine gf_X3_15 (v := ((wM M 5 (10 + ix (M 5 0)) ((ushr x1 (8 * x3)) &&& 255)) 5 0)) C dX3_takes_29 rfl ?_
      refine r_iconst (v := 1) C dX3_takes_32 (by decide) ?_
      refine r_iadd C dX3_takes_33 ?_
      refine pf_X3_15 (M' := (wM (wM M 5 (10 + ix (M 5 0)) ((ushr x1 (8 * x3)) &&& 255)) 5 0 (((wM M 5 (10 + ix (M 5 0)) ((ushr x1 (8 * x3)) &&& 255)) 5 0) + 1))) C dX3_takes_34 rfl ?_
      refine r_iinc (v := (x3 + (-1))) (lv' := [(3, .int (x3 + (-1))), (0, .ref (zA Z 5 0)), (1, .int x1)]) C dX3_takes_37 2 rfl rfl (by decide) rfl ?_
      refine r_goto (tgt := 4) C dX3_takes_40 (by decide) ?_
      refine r_lv [1, 2, 0] (lv' := [(0, .ref (zA Z 5 0)), (1, .int x1), (3, .int (x3 + (-1)))]) rfl ?_
      exact ih (wM (wM M 5 (10 + ix (M 5 0)) ((ushr x1 (8 * x3)) &&& 255)) 5 0 (((wM M 5 (10 + ix (M 5 0)) ((ushr x1 (8 * x3)) &&& 255)) 5 0) + 1)) x1 (x3 + (-1))
noncomputable def fX3_takes   (M : Mi) (x1 : Int32) (x2 : Int32) : Option (Mi) := (fX3_takes_4 fu M x1 (x2 - 1))
theorem bX3_takes {Z : Zt} {E : Ec} {N : Ml} (C : Ok 1 Z E cX3_takes 4 RX3 none 0)    (M : Mi) (x1 : Int32) (x2 : Int32)  : GT Z E 4 (finX3_takes N) 0 [(0, .ref (zA Z 5 0)), (1, .int x1), (2, .int x2)] [] M N (fX3_takes M x1 x2) := by
  unfold fX3_takes
  refine r_iload_n C dX3_takes_0 2 2 rfl rfl ?_
  refine r_iconst (v := 1) C dX3_takes_1 (by decide) ?_
  refine r_isub C dX3_takes_2 ?_
  refine r_istore_n (lv' := [(3, .int (x2 - 1)), (0, .ref (zA Z 5 0)), (1, .int x1), (2, .int x2)]) C dX3_takes_3 3 rfl (by decide) rfl ?_
  refine r_lv [1, 2, 0] (lv' := [(0, .ref (zA Z 5 0)), (1, .int x1), (3, .int (x2 - 1))]) rfl ?_
  exact bX3_takes_4 C fu M x1 (x2 - 1)
theorem mX3_takes (l : Launch) {Z : Zt} (hZ : Zok 1 Z) (M : Mi) (N : Ml) (x1 : Int32) (x2 : Int32) (b : Mi) (hb : fX3_takes M x1 x2 = some b) : Ct 1 Z l yX3_takes cX3_takes 4 none 0 [.ref (zA Z 5 0), .int x1, .int x2] M N (none, b, N) :=
  metG (fin := (finX3_takes N)) (by decide) (Nat.le_of_ble_eq_true rfl) (fun E _ C => bX3_takes C M x1 x2) hb
theorem dX3_isLetter_0 : decode cX3_isLetter 0 = .ok (.iload_n 0, 1) := by decide +kernel
theorem dX3_isLetter_1 : decode cX3_isLetter 1 = .ok (.bipush 97, 2) := by decide +kernel
theorem dX3_isLetter_3 : decode cX3_isLetter 3 = .ok (.if_icmp .lt 13, 3) := by decide +kernel
theorem dX3_isLetter_6 : decode cX3_isLetter 6 = .ok (.iload_n 0, 1) := by decide +kernel
theorem dX3_isLetter_7 : decode cX3_isLetter 7 = .ok (.bipush 122, 2) := by decide +kernel
theorem dX3_isLetter_9 : decode cX3_isLetter 9 = .ok (.if_icmp .gt 7, 3) := by decide +kernel
theorem dX3_isLetter_12 : decode cX3_isLetter 12 = .ok (.iconst 1, 1) := by decide +kernel
theorem dX3_isLetter_13 : decode cX3_isLetter 13 = .ok (.goto 4, 3) := by decide +kernel
theorem dX3_isLetter_16 : decode cX3_isLetter 16 = .ok (.iconst 0, 1) := by decide +kernel
theorem dX3_isLetter_17 : decode cX3_isLetter 17 = .ok (.ireturn, 1) := by decide +kernel
def finX3_isLetter (M : Mi) (N : Ml) : Int32 → Option Value × Mi × Ml := fun b => (some (Value.int b), M, N)
noncomputable def fX3_isLetter   (x0 : Int32) : Int32 := (if x0 < 97 then 0 else (if 122 < x0 then 0 else 1))
theorem bX3_isLetter {Z : Zt} {E : Ec} {M : Mi} {N : Ml} (C : Ok 1 Z E cX3_isLetter 1 RX3 (some .boolean) 0)    (x0 : Int32)  : GT Z E 1 (finX3_isLetter M N) 0 [(0, .int x0)] [] M N (some (fX3_isLetter x0)) := by
  unfold fX3_isLetter
  refine r_iload_n C dX3_isLetter_0 0 0 rfl rfl ?_
  refine r_bipush (v := 97) C dX3_isLetter_1 (by decide) ?_
  refine r_st ?_
  refine r_ic_lt (tgt := 16) C dX3_isLetter_3 (by decide) (fun c1 => ?_) (fun c1 => ?_)
  · refine r_iconst (v := 0) C dX3_isLetter_16 (by decide) ?_
    exact r_zret C dX3_isLetter_17 (Or.inl rfl) rfl
  · refine r_iload_n C dX3_isLetter_6 0 0 rfl rfl ?_
    refine r_bipush (v := 122) C dX3_isLetter_7 (by decide) ?_
    refine r_st ?_
    refine r_ic_gt (tgt := 16) C dX3_isLetter_9 (by decide) (fun c2 => ?_) (fun c2 => ?_)
    · refine r_iconst (v := 0) C dX3_isLetter_16 (by decide) ?_
      exact r_zret C dX3_isLetter_17 (Or.inl rfl) rfl
    · refine r_iconst (v := 1) C dX3_isLetter_12 (by decide) ?_
      refine r_goto (tgt := 17) C dX3_isLetter_13 (by decide) ?_
      exact r_zret C dX3_isLetter_17 (Or.inr rfl) rfl
theorem zbX3_isLetter (x0 : Int32) : fX3_isLetter x0 = 0 ∨ fX3_isLetter x0 = 1 := by
  unfold fX3_isLetter; (repeat' split) <;> first | exact Or.inl rfl | exact Or.inr rfl
theorem mX3_isLetter (l : Launch) {Z : Zt} (hZ : Zok 1 Z) (M : Mi) (N : Ml) (x0 : Int32) : Ct 1 Z l yX3_isLetter cX3_isLetter 1 (some .boolean) 0 [.int x0] M N (some (Value.int (fX3_isLetter x0)), M, N) :=
  metG (fin := (finX3_isLetter M N)) (by decide) (Nat.le_of_ble_eq_true rfl) (fun E _ C => bX3_isLetter C x0) rfl
theorem dX3_isDigit_0 : decode cX3_isDigit 0 = .ok (.iload_n 0, 1) := by decide +kernel
theorem dX3_isDigit_1 : decode cX3_isDigit 1 = .ok (.bipush 48, 2) := by decide +kernel
theorem dX3_isDigit_3 : decode cX3_isDigit 3 = .ok (.if_icmp .lt 13, 3) := by decide +kernel
theorem dX3_isDigit_6 : decode cX3_isDigit 6 = .ok (.iload_n 0, 1) := by decide +kernel
theorem dX3_isDigit_7 : decode cX3_isDigit 7 = .ok (.bipush 57, 2) := by decide +kernel
theorem dX3_isDigit_9 : decode cX3_isDigit 9 = .ok (.if_icmp .gt 7, 3) := by decide +kernel
theorem dX3_isDigit_12 : decode cX3_isDigit 12 = .ok (.iconst 1, 1) := by decide +kernel
theorem dX3_isDigit_13 : decode cX3_isDigit 13 = .ok (.goto 4, 3) := by decide +kernel
theorem dX3_isDigit_16 : decode cX3_isDigit 16 = .ok (.iconst 0, 1) := by decide +kernel
theorem dX3_isDigit_17 : decode cX3_isDigit 17 = .ok (.ireturn, 1) := by decide +kernel
def finX3_isDigit (M : Mi) (N : Ml) : Int32 → Option Value × Mi × Ml := fun b => (some (Value.int b), M, N)
noncomputable def fX3_isDigit   (x0 : Int32) : Int32 := (if x0 < 48 then 0 else (if 57 < x0 then 0 else 1))
theorem bX3_isDigit {Z : Zt} {E : Ec} {M : Mi} {N : Ml} (C : Ok 1 Z E cX3_isDigit 1 RX3 (some .boolean) 0)    (x0 : Int32)  : GT Z E 1 (finX3_isDigit M N) 0 [(0, .int x0)] [] M N (some (fX3_isDigit x0)) := by
  unfold fX3_isDigit
  refine r_iload_n C dX3_isDigit_0 0 0 rfl rfl ?_
  refine r_bipush (v := 48) C dX3_isDigit_1 (by decide) ?_
  refine r_st ?_
  refine r_ic_lt (tgt := 16) C dX3_isDigit_3 (by decide) (fun c1 => ?_) (fun c1 => ?_)
  · refine r_iconst (v := 0) C dX3_isDigit_16 (by decide) ?_
    exact r_zret C dX3_isDigit_17 (Or.inl rfl) rfl
  · refine r_iload_n C dX3_isDigit_6 0 0 rfl rfl ?_
    refine r_bipush (v := 57) C dX3_isDigit_7 (by decide) ?_
    refine r_st ?_
    refine r_ic_gt (tgt := 16) C dX3_isDigit_9 (by decide) (fun c2 => ?_) (fun c2 => ?_)
    · refine r_iconst (v := 0) C dX3_isDigit_16 (by decide) ?_
      exact r_zret C dX3_isDigit_17 (Or.inl rfl) rfl
    · refine r_iconst (v := 1) C dX3_isDigit_12 (by decide) ?_
      refine r_goto (tgt := 17) C dX3_isDigit_13 (by decide) ?_
      exact r_zret C dX3_isDigit_17 (Or.inr rfl) rfl
theorem zbX3_isDigit (x0 : Int32) : fX3_isDigit x0 = 0 ∨ fX3_isDigit x0 = 1 := by
  unfold fX3_isDigit; (repeat' split) <;> first | exact Or.inl rfl | exact Or.inr rfl
theorem mX3_isDigit (l : Launch) {Z : Zt} (hZ : Zok 1 Z) (M : Mi) (N : Ml) (x0 : Int32) : Ct 1 Z l yX3_isDigit cX3_isDigit 1 (some .boolean) 0 [.int x0] M N (some (Value.int (fX3_isDigit x0)), M, N) :=
  metG (fin := (finX3_isDigit M N)) (by decide) (Nat.le_of_ble_eq_true rfl) (fun E _ C => bX3_isDigit C x0) rfl
theorem dX3_nextToken_0 : decode cX3_nextToken 0 = .ok (.aload_n 0, 1) := by decide +kernel
theorem dX3_nextToken_1 : decode cX3_nextToken 1 = .ok (.getfield 19, 3) := by decide +kernel
theorem dX3_nextToken_4 : decode cX3_nextToken 4 = .ok (.istore_n 1, 1) := by decide +kernel
theorem dX3_nextToken_5 : decode cX3_nextToken 5 = .ok (.iload_n 1, 1) := by decide +kernel
theorem dX3_nextToken_6 : decode cX3_nextToken 6 = .ok (.aload_n 0, 1) := by decide +kernel
theorem dX3_nextToken_7 : decode cX3_nextToken 7 = .ok (.getfield 15, 3) := by decide +kernel
theorem dX3_nextToken_10 : decode cX3_nextToken 10 = .ok (.if_icmp .ge 20, 3) := by decide +kernel
theorem dX3_nextToken_13 : decode cX3_nextToken 13 = .ok (.aload_n 0, 1) := by decide +kernel
theorem dX3_nextToken_14 : decode cX3_nextToken 14 = .ok (.getfield 9, 3) := by decide +kernel
theorem dX3_nextToken_17 : decode cX3_nextToken 17 = .ok (.iload_n 1, 1) := by decide +kernel
theorem dX3_nextToken_18 : decode cX3_nextToken 18 = .ok (.iaload, 1) := by decide +kernel
theorem dX3_nextToken_19 : decode cX3_nextToken 19 = .ok (.bipush 32, 2) := by decide +kernel
theorem dX3_nextToken_21 : decode cX3_nextToken 21 = .ok (.if_icmp .ne 9, 3) := by decide +kernel
theorem dX3_nextToken_24 : decode cX3_nextToken 24 = .ok (.iinc 1 1, 3) := by decide +kernel
theorem dX3_nextToken_27 : decode cX3_nextToken 27 = .ok (.goto (-22), 3) := by decide +kernel
theorem dX3_nextToken_30 : decode cX3_nextToken 30 = .ok (.aload_n 0, 1) := by decide +kernel
theorem dX3_nextToken_31 : decode cX3_nextToken 31 = .ok (.iload_n 1, 1) := by decide +kernel
theorem dX3_nextToken_32 : decode cX3_nextToken 32 = .ok (.putfield 32, 3) := by decide +kernel
theorem dX3_nextToken_35 : decode cX3_nextToken 35 = .ok (.iload_n 1, 1) := by decide +kernel
theorem dX3_nextToken_36 : decode cX3_nextToken 36 = .ok (.aload_n 0, 1) := by decide +kernel
theorem dX3_nextToken_37 : decode cX3_nextToken 37 = .ok (.getfield 15, 3) := by decide +kernel
theorem dX3_nextToken_40 : decode cX3_nextToken 40 = .ok (.if_icmp .lt 11, 3) := by decide +kernel
theorem dX3_nextToken_43 : decode cX3_nextToken 43 = .ok (.aload_n 0, 1) := by decide +kernel
theorem dX3_nextToken_44 : decode cX3_nextToken 44 = .ok (.iconst 0, 1) := by decide +kernel
theorem dX3_nextToken_45 : decode cX3_nextToken 45 = .ok (.putfield 29, 3) := by decide +kernel
theorem dX3_nextToken_48 : decode cX3_nextToken 48 = .ok (.goto 144, 3) := by decide +kernel
theorem dX3_nextToken_51 : decode cX3_nextToken 51 = .ok (.aload_n 0, 1) := by decide +kernel
theorem dX3_nextToken_52 : decode cX3_nextToken 52 = .ok (.getfield 9, 3) := by decide +kernel
theorem dX3_nextToken_55 : decode cX3_nextToken 55 = .ok (.iload_n 1, 1) := by decide +kernel
theorem dX3_nextToken_56 : decode cX3_nextToken 56 = .ok (.iaload, 1) := by decide +kernel
theorem dX3_nextToken_57 : decode cX3_nextToken 57 = .ok (.invokestatic 127, 3) := by decide +kernel
theorem dX3_nextToken_60 : decode cX3_nextToken 60 = .ok (.ifCond .eq 34, 3) := by decide +kernel
theorem dX3_nextToken_63 : decode cX3_nextToken 63 = .ok (.aload_n 0, 1) := by decide +kernel
theorem dX3_nextToken_64 : decode cX3_nextToken 64 = .ok (.iconst 1, 1) := by decide +kernel
theorem dX3_nextToken_65 : decode cX3_nextToken 65 = .ok (.putfield 29, 3) := by decide +kernel
theorem dX3_nextToken_68 : decode cX3_nextToken 68 = .ok (.iload_n 1, 1) := by decide +kernel
theorem dX3_nextToken_69 : decode cX3_nextToken 69 = .ok (.aload_n 0, 1) := by decide +kernel
theorem dX3_nextToken_70 : decode cX3_nextToken 70 = .ok (.getfield 15, 3) := by decide +kernel
theorem dX3_nextToken_73 : decode cX3_nextToken 73 = .ok (.if_icmp .ge 119, 3) := by decide +kernel
theorem dX3_nextToken_76 : decode cX3_nextToken 76 = .ok (.aload_n 0, 1) := by decide +kernel
theorem dX3_nextToken_77 : decode cX3_nextToken 77 = .ok (.getfield 9, 3) := by decide +kernel
theorem dX3_nextToken_80 : decode cX3_nextToken 80 = .ok (.iload_n 1, 1) := by decide +kernel
theorem dX3_nextToken_81 : decode cX3_nextToken 81 = .ok (.iaload, 1) := by decide +kernel
theorem dX3_nextToken_82 : decode cX3_nextToken 82 = .ok (.invokestatic 127, 3) := by decide +kernel
theorem dX3_nextToken_85 : decode cX3_nextToken 85 = .ok (.ifCond .eq 107, 3) := by decide +kernel
theorem dX3_nextToken_88 : decode cX3_nextToken 88 = .ok (.iinc 1 1, 3) := by decide +kernel
theorem dX3_nextToken_91 : decode cX3_nextToken 91 = .ok (.goto (-23), 3) := by decide +kernel
theorem dX3_nextToken_94 : decode cX3_nextToken 94 = .ok (.aload_n 0, 1) := by decide +kernel
theorem dX3_nextToken_95 : decode cX3_nextToken 95 = .ok (.getfield 9, 3) := by decide +kernel
theorem dX3_nextToken_98 : decode cX3_nextToken 98 = .ok (.iload_n 1, 1) := by decide +kernel
theorem dX3_nextToken_99 : decode cX3_nextToken 99 = .ok (.iaload, 1) := by decide +kernel
theorem dX3_nextToken_100 : decode cX3_nextToken 100 = .ok (.invokestatic 131, 3) := by decide +kernel
theorem dX3_nextToken_103 : decode cX3_nextToken 103 = .ok (.ifCond .eq 66, 3) := by decide +kernel
theorem dX3_nextToken_106 : decode cX3_nextToken 106 = .ok (.aload_n 0, 1) := by decide +kernel
theorem dX3_nextToken_107 : decode cX3_nextToken 107 = .ok (.iconst 2, 1) := by decide +kernel
theorem dX3_nextToken_108 : decode cX3_nextToken 108 = .ok (.putfield 29, 3) := by decide +kernel
theorem dX3_nextToken_111 : decode cX3_nextToken 111 = .ok (.aload_n 0, 1) := by decide +kernel
theorem dX3_nextToken_112 : decode cX3_nextToken 112 = .ok (.iconst 0, 1) := by decide +kernel
theorem dX3_nextToken_113 : decode cX3_nextToken 113 = .ok (.putfield 116, 3) := by decide +kernel
theorem dX3_nextToken_116 : decode cX3_nextToken 116 = .ok (.iload_n 1, 1) := by decide +kernel
theorem dX3_nextToken_117 : decode cX3_nextToken 117 = .ok (.aload_n 0, 1) := by decide +kernel
theorem dX3_nextToken_118 : decode cX3_nextToken 118 = .ok (.getfield 15, 3) := by decide +kernel
theorem dX3_nextToken_121 : decode cX3_nextToken 121 = .ok (.if_icmp .ge 71, 3) := by decide +kernel
theorem dX3_nextToken_124 : decode cX3_nextToken 124 = .ok (.aload_n 0, 1) := by decide +kernel
theorem dX3_nextToken_125 : decode cX3_nextToken 125 = .ok (.getfield 9, 3) := by decide +kernel
theorem dX3_nextToken_128 : decode cX3_nextToken 128 = .ok (.iload_n 1, 1) := by decide +kernel
theorem dX3_nextToken_129 : decode cX3_nextToken 129 = .ok (.iaload, 1) := by decide +kernel
theorem dX3_nextToken_130 : decode cX3_nextToken 130 = .ok (.invokestatic 131, 3) := by decide +kernel
theorem dX3_nextToken_133 : decode cX3_nextToken 133 = .ok (.ifCond .eq 59, 3) := by decide +kernel
theorem dX3_nextToken_136 : decode cX3_nextToken 136 = .ok (.aload_n 0, 1) := by decide +kernel
theorem dX3_nextToken_137 : decode cX3_nextToken 137 = .ok (.aload_n 0, 1) := by decide +kernel
theorem dX3_nextToken_138 : decode cX3_nextToken 138 = .ok (.getfield 116, 3) := by decide +kernel
theorem dX3_nextToken_141 : decode cX3_nextToken 141 = .ok (.bipush 10, 2) := by decide +kernel
theorem dX3_nextToken_143 : decode cX3_nextToken 143 = .ok (.imul, 1) := by decide +kernel
theorem dX3_nextToken_144 : decode cX3_nextToken 144 = .ok (.aload_n 0, 1) := by decide +kernel
theorem dX3_nextToken_145 : decode cX3_nextToken 145 = .ok (.getfield 9, 3) := by decide +kernel
theorem dX3_nextToken_148 : decode cX3_nextToken 148 = .ok (.iload_n 1, 1) := by decide +kernel
theorem dX3_nextToken_149 : decode cX3_nextToken 149 = .ok (.iaload, 1) := by decide +kernel
theorem dX3_nextToken_150 : decode cX3_nextToken 150 = .ok (.iadd, 1) := by decide +kernel
theorem dX3_nextToken_151 : decode cX3_nextToken 151 = .ok (.bipush 48, 2) := by decide +kernel
theorem dX3_nextToken_153 : decode cX3_nextToken 153 = .ok (.isub, 1) := by decide +kernel
theorem dX3_nextToken_154 : decode cX3_nextToken 154 = .ok (.sipush 1000, 3) := by decide +kernel
theorem dX3_nextToken_157 : decode cX3_nextToken 157 = .ok (.invokestatic 134, 3) := by decide +kernel
theorem dX3_nextToken_160 : decode cX3_nextToken 160 = .ok (.putfield 116, 3) := by decide +kernel
theorem dX3_nextToken_163 : decode cX3_nextToken 163 = .ok (.iinc 1 1, 3) := by decide +kernel
theorem dX3_nextToken_166 : decode cX3_nextToken 166 = .ok (.goto (-50), 3) := by decide +kernel
theorem dX3_nextToken_169 : decode cX3_nextToken 169 = .ok (.aload_n 0, 1) := by decide +kernel
theorem dX3_nextToken_170 : decode cX3_nextToken 170 = .ok (.aload_n 0, 1) := by decide +kernel
theorem dX3_nextToken_171 : decode cX3_nextToken 171 = .ok (.getfield 9, 3) := by decide +kernel
theorem dX3_nextToken_174 : decode cX3_nextToken 174 = .ok (.iload_n 1, 1) := by decide +kernel
theorem dX3_nextToken_175 : decode cX3_nextToken 175 = .ok (.iaload, 1) := by decide +kernel
theorem dX3_nextToken_176 : decode cX3_nextToken 176 = .ok (.bipush 59, 2) := by decide +kernel
theorem dX3_nextToken_178 : decode cX3_nextToken 178 = .ok (.if_icmp .ne 7, 3) := by decide +kernel
theorem dX3_nextToken_181 : decode cX3_nextToken 181 = .ok (.iconst 3, 1) := by decide +kernel
theorem dX3_nextToken_182 : decode cX3_nextToken 182 = .ok (.goto 4, 3) := by decide +kernel
theorem dX3_nextToken_185 : decode cX3_nextToken 185 = .ok (.iconst 4, 1) := by decide +kernel
theorem dX3_nextToken_186 : decode cX3_nextToken 186 = .ok (.putfield 29, 3) := by decide +kernel
theorem dX3_nextToken_189 : decode cX3_nextToken 189 = .ok (.iinc 1 1, 3) := by decide +kernel
theorem dX3_nextToken_192 : decode cX3_nextToken 192 = .ok (.aload_n 0, 1) := by decide +kernel
theorem dX3_nextToken_193 : decode cX3_nextToken 193 = .ok (.iload_n 1, 1) := by decide +kernel
theorem dX3_nextToken_194 : decode cX3_nextToken 194 = .ok (.putfield 19, 3) := by decide +kernel
theorem dX3_nextToken_197 : decode cX3_nextToken 197 = .ok (.return_, 1) := by decide +kernel
def finX3_nextToken (N : Ml) : Mi → Option Value × Mi × Ml := fun b => (none, b, N)
noncomputable def fX3_nextToken_116   : Nat → Mi → Int32 → Option (Mi)
  | 0 => fun _ _ => none
  | n + 1 => fun M x1 => (if (M 5 0) ≤ x1 then (some (wM M 5 3 x1)) else (if inb x1 120 then (if (fX3_isDigit (M 5 (10 + ix x1))) = 0 then (some (wM M 5 3 x1)) else ((fX3_nextToken_116 n) (wM M 5 4 (if 1000 < ((((M 5 4) * 10) + (M 5 (10 + ix x1))) - 48) then 1000 else ((((M 5 4) * 10) + (M 5 (10 + ix x1))) - 48))) (x1 + 1))) else none))
theorem bX3_nextToken_116 {Z : Zt} {E : Ec} {N : Ml} (C : Ok 1 Z E cX3_nextToken 2 RX3 none 1)    : ∀ (n : Nat) (M : Mi) (x1 : Int32), GT Z E 2 (finX3_nextToken N) 116 [(0, .ref (zA Z 5 0)), (1, .int x1)] [] M N (fX3_nextToken_116 n M x1) := by
  intro n
  induction n with
  | zero => intro M x1; exact r_none
  | succ n ih =>
    intro M x1
    rw [fX3_nextToken_116]
    refine r_iload_n C dX3_nextToken_116 1 1 rfl rfl ?_
    refine r_aload_n C dX3_nextToken_117 0 0 rfl rfl ?_
    refine gf_X3_15 (v := (M 5 0)) C dX3_nextToken_118 rfl ?_
    refine r_ic_ge (tgt := 192) C dX3_nextToken_121 (by decide) (fun c8 => ?_) (fun c8 => ?_)
    · refine r_aload_n C dX3_nextToken_192 0 0 rfl rfl ?_
      refine r_iload_n C dX3_nextToken_193 1 1 rfl rfl ?_
      refine pf_X3_19 (M' := (wM M 5 3 x1)) C dX3_nextToken_194 rfl ?_
      exact r_vret C dX3_nextToken_197 rfl
    · refine r_aload_n C dX3_nextToken_124 0 0 rfl rfl ?_
      refine gf_X3_9 C dX3_nextToken_125 ?_
      refine r_iload_n C dX3_nextToken_128 1 1 rfl rfl ?_
      refine r_guard (fun h9 => ?_)
      refine ald_B (v := (M 5 (10 + ix x1))) C h9 rfl dX3_nextToken_129 ?_
      refine r_callS (rest := []) (st2 := [.int (fX3_isDigit (M 5 (10 + ix x1)))]) C (mX3_isDigit (eL E) C.z _ _ (M 5 (10 + ix x1))) lk_X3_131 (by decide) rfl rfl (Nat.le_of_ble_eq_true rfl) dX3_nextToken_130 rfl ?_
      refine r_if_eq (tgt := 192) C dX3_nextToken_133 (by decide) (fun c10 => ?_) (fun c10 => ?_)
      · refine r_aload_n C dX3_nextToken_192 0 0 rfl rfl ?_
        refine r_iload_n C dX3_nextToken_193 1 1 rfl rfl ?_
        refine pf_X3_19 (M' := (wM M 5 3 x1)) C dX3_nextToken_194 rfl ?_
        exact r_vret C dX3_nextToken_197 rfl
      · refine r_aload_n C dX3_nextToken_136 0 0 rfl rfl ?_
        refine r_aload_n C dX3_nextToken_137 0 0 rfl rfl ?_
        refine gf_X3_116 (v := (M 5 4)) C dX3_nextToken_138 rfl ?_
        refine r_bipush (v := 10) C dX3_nextToken_141 (by decide) ?_
        refine r_imul C dX3_nextToken_143 ?_
        refine r_aload_n C dX3_nextToken_144 0 0 rfl rfl ?_
        refine gf_X3_9 C dX3_nextToken_145 ?_
        refine r_iload_n C dX3_nextToken_148 1 1 rfl rfl ?_
        refine ald_B (v := (M 5 (10 + ix x1))) C h9 rfl dX3_nextToken_149 ?_
        refine r_iadd C dX3_nextToken_150 ?_
        refine r_bipush (v := 48) C dX3_nextToken_151 (by decide) ?_
        refine r_isub C dX3_nextToken_153 ?_
        refine r_sipush (v := 1000) C dX3_nextToken_154 (by decide) ?_
        refine r_min C (by decide) (Nat.le_of_ble_eq_true rfl) dX3_nextToken_157 ?_
        refine pf_X3_116 (M' := (wM M 5 4 (if 1000 < ((((M 5 4) * 10) + (M 5 (10 + ix x1))) - 48) then 1000 else ((((M 5 4) * 10) + (M 5 (10 + ix x1))) - 48)))) C dX3_nextToken_160 rfl ?_
        refine r_iinc (v := (x1 + 1)) (lv' := [(1, .int (x1 + 1)), (0, .ref (zA Z 5 0))]) C dX3_nextToken_163 1 rfl rfl (by decide) rfl ?_
        refine r_goto (tgt := 116) C dX3_nextToken_166 (by decide) ?_
        refine r_lv [1, 0] (lv' := [(0, .ref (zA Z 5 0)), (1, .int (x1 + 1))]) rfl ?_
        exact ih (wM M 5 4 (if 1000 < ((((M 5 4) * 10) + (M 5 (10 + ix x1))) - 48) then 1000 else ((((M 5 4) * 10) + (M 5 (10 + ix x1))) - 48))) (x1 + 1)
noncomputable def fX3_nextToken_68   : Nat → Mi → Int32 → Option (Mi)
  | 0 => fun _ _ => none
  | n + 1 => fun M x1 => (if (M 5 0) ≤ x1 then (some (wM M 5 3 x1)) else (if inb x1 120 then (if (fX3_isLetter (M 5 (10 + ix x1))) = 0 then (some (wM M 5 3 x1)) else ((fX3_nextToken_68 n) M (x1 + 1))) else none))
theorem bX3_nextToken_68 {Z : Zt} {E : Ec} {N : Ml} (C : Ok 1 Z E cX3_nextToken 2 RX3 none 1)    : ∀ (n : Nat) (M : Mi) (x1 : Int32), GT Z E 2 (finX3_nextToken N) 68 [(0, .ref (zA Z 5 0)), (1, .int x1)] [] M N (fX3_nextToken_68 n M x1) := by
  intro n
  induction n with
  | zero => intro M x1; exact r_none
  | succ n ih =>
    intro M x1
    rw [fX3_nextToken_68]
    refine r_iload_n C dX3_nextToken_68 1 1 rfl rfl ?_
    refine r_aload_n C dX3_nextToken_69 0 0 rfl rfl ?_
    refine gf_X3_15 (v := (M 5 0)) C dX3_nextToken_70 rfl ?_
    refine r_ic_ge (tgt := 192) C dX3_nextToken_73 (by decide) (fun c11 => ?_) (fun c11 => ?_)
    · refine r_aload_n C dX3_nextToken_192 0 0 rfl rfl ?_
      refine r_iload_n C dX3_nextToken_193 1 1 rfl rfl ?_
      refine pf_X3_19 (M' := (wM M 5 3 x1)) C dX3_nextToken_194 rfl ?_
      exact r_vret C dX3_nextToken_197 rfl
    · refine r_aload_n C dX3_nextToken_76 0 0 rfl rfl ?_
      refine gf_X3_9 C dX3_nextToken_77 ?_
      refine r_iload_n C dX3_nextToken_80 1 1 rfl rfl ?_
      refine r_guard (fun h12 => ?_)
      refine ald_B (v := (M 5 (10 + ix x1))) C h12 rfl dX3_nextToken_81 ?_
      refine r_callS (rest := []) (st2 := [.int (fX3_isLetter (M 5 (10 + ix x1)))]) C (mX3_isLetter (eL E) C.z _ _ (M 5 (10 + ix x1))) lk_X3_127 (by decide) rfl rfl (Nat.le_of_ble_eq_true rfl) dX3_nextToken_82 rfl ?_
      refine r_if_eq (tgt := 192) C dX3_nextToken_85 (by decide) (fun c13 => ?_) (fun c13 => ?_)
      · refine r_aload_n C dX3_nextToken_192 0 0 rfl rfl ?_
        refine r_iload_n C dX3_nextToken_193 1 1 rfl rfl ?_
        refine pf_X3_19 (M' := (wM M 5 3 x1)) C dX3_nextToken_194 rfl ?_
        exact r_vret C dX3_nextToken_197 rfl
      · refine r_iinc (v := (x1 + 1)) (lv' := [(1, .int (x1 + 1)), (0, .ref (zA Z 5 0))]) C dX3_nextToken_88 1 rfl rfl (by decide) rfl ?_
        refine r_goto (tgt := 68) C dX3_nextToken_91 (by decide) ?_
        refine r_lv [1, 0] (lv' := [(0, .ref (zA Z 5 0)), (1, .int (x1 + 1))]) rfl ?_
        exact ih M (x1 + 1)
noncomputable def fX3_nextToken_30   (M : Mi) (x1 : Int32) : Option (Mi) := (if x1 < (M 5 0) then (if inb x1 120 then (if (fX3_isLetter ((wM M 5 2 x1) 5 (10 + ix x1))) = 0 then (if (fX3_isDigit ((wM M 5 2 x1) 5 (10 + ix x1))) = 0 then (some (wM (wM (wM M 5 2 x1) 5 1 (if ((wM M 5 2 x1) 5 (10 + ix x1)) = 59 then 3 else 4 : Int32)) 5 3 (x1 + 1))) else (fX3_nextToken_116 fu (wM (wM (wM M 5 2 x1) 5 1 2) 5 4 0) x1)) else (fX3_nextToken_68 fu (wM (wM M 5 2 x1) 5 1 1) x1)) else none) else (some (wM (wM (wM M 5 2 x1) 5 1 0) 5 3 x1)))
theorem bX3_nextToken_30 {Z : Zt} {E : Ec} {N : Ml} (C : Ok 1 Z E cX3_nextToken 2 RX3 none 1)    (M : Mi) (x1 : Int32)  : GT Z E 2 (finX3_nextToken N) 30 [(0, .ref (zA Z 5 0)), (1, .int x1)] [] M N (fX3_nextToken_30 M x1) := by
  unfold fX3_nextToken_30
  refine r_aload_n C dX3_nextToken_30 0 0 rfl rfl ?_
  refine r_iload_n C dX3_nextToken_31 1 1 rfl rfl ?_
  refine pf_X3_32 (M' := (wM M 5 2 x1)) C dX3_nextToken_32 rfl ?_
  refine r_iload_n C dX3_nextToken_35 1 1 rfl rfl ?_
  refine r_aload_n C dX3_nextToken_36 0 0 rfl rfl ?_
  refine gf_X3_15 (v := (M 5 0)) C dX3_nextToken_37 rfl ?_
  refine r_ic_lt (tgt := 51) C dX3_nextToken_40 (by decide) (fun c2 => ?_) (fun c2 => ?_)
  · refine r_aload_n C dX3_nextToken_51 0 0 rfl rfl ?_
    refine gf_X3_9 C dX3_nextToken_52 ?_
    refine r_iload_n C dX3_nextToken_55 1 1 rfl rfl ?_
    refine r_guard (fun h3 => ?_)
    refine ald_B (v := ((wM M 5 2 x1) 5 (10 + ix x1))) C h3 rfl dX3_nextToken_56 ?_
    refine r_callS (rest := []) (st2 := [.int (fX3_isLetter ((wM M 5 2 x1) 5 (10 + ix x1)))]) C (mX3_isLetter (eL E) C.z _ _ ((wM M 5 2 x1) 5 (10 + ix x1))) lk_X3_127 (by decide) rfl rfl (Nat.le_of_ble_eq_true rfl) dX3_nextToken_57 rfl ?_
    refine r_if_eq (tgt := 94) C dX3_nextToken_60 (by decide) (fun c4 => ?_) (fun c4 => ?_)
    · refine r_aload_n C dX3_nextToken_94 0 0 rfl rfl ?_
      refine gf_X3_9 C dX3_nextToken_95 ?_
      refine r_iload_n C dX3_nextToken_98 1 1 rfl rfl ?_
      refine ald_B (v := ((wM M 5 2 x1) 5 (10 + ix x1))) C h3 rfl dX3_nextToken_99 ?_
      refine r_callS (rest := []) (st2 := [.int (fX3_isDigit ((wM M 5 2 x1) 5 (10 + ix x1)))]) C (mX3_isDigit (eL E) C.z _ _ ((wM M 5 2 x1) 5 (10 + ix x1))) lk_X3_131 (by decide) rfl rfl (Nat.le_of_ble_eq_true rfl) dX3_nextToken_100 rfl ?_
      refine r_if_eq (tgt := 169) C dX3_nextToken_103 (by decide) (fun c5 => ?_) (fun c5 => ?_)
      · refine r_aload_n C dX3_nextToken_169 0 0 rfl rfl ?_
        refine r_aload_n C dX3_nextToken_170 0 0 rfl rfl ?_
        refine gf_X3_9 C dX3_nextToken_171 ?_
        refine r_iload_n C dX3_nextToken_174 1 1 rfl rfl ?_
        refine ald_B (v := ((wM M 5 2 x1) 5 (10 + ix x1))) C h3 rfl dX3_nextToken_175 ?_
        refine r_bipush (v := 59) C dX3_nextToken_176 (by decide) ?_
        refine r_sel (tj := 186) (sj := [.int (if ((wM M 5 2 x1) 5 (10 + ix x1)) = 59 then 3 else 4 : Int32), .ref (zA Z 5 0)]) ?_ (fun k7 => ?_)
        · refine pf_X3_29 (M' := (wM (wM M 5 2 x1) 5 1 (if ((wM M 5 2 x1) 5 (10 + ix x1)) = 59 then 3 else 4 : Int32))) C dX3_nextToken_186 rfl ?_
          refine r_iinc (v := (x1 + 1)) (lv' := [(1, .int (x1 + 1)), (0, .ref (zA Z 5 0))]) C dX3_nextToken_189 1 rfl rfl (by decide) rfl ?_
          refine r_aload_n C dX3_nextToken_192 0 1 rfl rfl ?_
          refine r_iload_n C dX3_nextToken_193 1 0 rfl rfl ?_
          refine pf_X3_19 (M' := (wM (wM (wM M 5 2 x1) 5 1 (if ((wM M 5 2 x1) 5 (10 + ix x1)) = 59 then 3 else 4 : Int32)) 5 3 (x1 + 1))) C dX3_nextToken_194 rfl ?_
          exact r_vret C dX3_nextToken_197 rfl
        · refine r_same (P := ((wM M 5 2 x1) 5 (10 + ix x1)) = 59) ?_
          refine r_ic_ne (tgt := 185) C dX3_nextToken_178 (by decide) (fun c6 => ?_) (fun c6 => ?_)
          · refine r_iconst (v := 4) C dX3_nextToken_185 (by decide) ?_
            exact r_stk (if_neg c6) k7
          · refine r_iconst (v := 3) C dX3_nextToken_181 (by decide) ?_
            refine r_goto (tgt := 186) C dX3_nextToken_182 (by decide) ?_
            exact r_stk (if_pos c6) k7
      · refine r_aload_n C dX3_nextToken_106 0 0 rfl rfl ?_
        refine r_iconst (v := 2) C dX3_nextToken_107 (by decide) ?_
        refine pf_X3_29 (M' := (wM (wM M 5 2 x1) 5 1 2)) C dX3_nextToken_108 rfl ?_
        refine r_aload_n C dX3_nextToken_111 0 0 rfl rfl ?_
        refine r_iconst (v := 0) C dX3_nextToken_112 (by decide) ?_
        refine pf_X3_116 (M' := (wM (wM (wM M 5 2 x1) 5 1 2) 5 4 0)) C dX3_nextToken_113 rfl ?_
        exact bX3_nextToken_116 C fu (wM (wM (wM M 5 2 x1) 5 1 2) 5 4 0) x1
    · refine r_aload_n C dX3_nextToken_63 0 0 rfl rfl ?_
      refine r_iconst (v := 1) C dX3_nextToken_64 (by decide) ?_
      refine pf_X3_29 (M' := (wM (wM M 5 2 x1) 5 1 1)) C dX3_nextToken_65 rfl ?_
      exact bX3_nextToken_68 C fu (wM (wM M 5 2 x1) 5 1 1) x1
  · refine r_aload_n C dX3_nextToken_43 0 0 rfl rfl ?_
    refine r_iconst (v := 0) C dX3_nextToken_44 (by decide) ?_
    refine pf_X3_29 (M' := (wM (wM M 5 2 x1) 5 1 0)) C dX3_nextToken_45 rfl ?_
    refine r_goto (tgt := 192) C dX3_nextToken_48 (by decide) ?_
    refine r_aload_n C dX3_nextToken_192 0 0 rfl rfl ?_
    refine r_iload_n C dX3_nextToken_193 1 1 rfl rfl ?_
    refine pf_X3_19 (M' := (wM (wM (wM M 5 2 x1) 5 1 0) 5 3 x1)) C dX3_nextToken_194 rfl ?_
    exact r_vret C dX3_nextToken_197 rfl
noncomputable def fX3_nextToken_5   : Nat → Mi → Int32 → Option (Mi)
  | 0 => fun _ _ => none
  | n + 1 => fun M x1 => (if (M 5 0) ≤ x1 then (fX3_nextToken_30 M x1) else (if inb x1 120 then (if (M 5 (10 + ix x1)) = 32 then ((fX3_nextToken_5 n) M (x1 + 1)) else (fX3_nextToken_30 M x1)) else none))
theorem bX3_nextToken_5 {Z : Zt} {E : Ec} {N : Ml} (C : Ok 1 Z E cX3_nextToken 2 RX3 none 1)    : ∀ (n : Nat) (M : Mi) (x1 : Int32), GT Z E 2 (finX3_nextToken N) 5 [(0, .ref (zA Z 5 0)), (1, .int x1)] [] M N (fX3_nextToken_5 n M x1) := by
  intro n
  induction n with
  | zero => intro M x1; exact r_none
  | succ n ih =>
    intro M x1
    rw [fX3_nextToken_5]
    refine r_iload_n C dX3_nextToken_5 1 1 rfl rfl ?_
    refine r_aload_n C dX3_nextToken_6 0 0 rfl rfl ?_
    refine gf_X3_15 (v := (M 5 0)) C dX3_nextToken_7 rfl ?_
    refine r_ic_ge (tgt := 30) C dX3_nextToken_10 (by decide) (fun c1 => ?_) (fun c1 => ?_)
    · exact bX3_nextToken_30 C M x1
    · refine r_aload_n C dX3_nextToken_13 0 0 rfl rfl ?_
      refine gf_X3_9 C dX3_nextToken_14 ?_
      refine r_iload_n C dX3_nextToken_17 1 1 rfl rfl ?_
      refine r_guard (fun h14 => ?_)
      refine ald_B (v := (M 5 (10 + ix x1))) C h14 rfl dX3_nextToken_18 ?_
      refine r_bipush (v := 32) C dX3_nextToken_19 (by decide) ?_
      refine r_ic_ne (tgt := 30) C dX3_nextToken_21 (by decide) (fun c15 => ?_) (fun c15 => ?_)
      · exact bX3_nextToken_30 C M x1
      · refine r_iinc (v := (x1 + 1)) (lv' := [(1, .int (x1 + 1)), (0, .ref (zA Z 5 0))]) C dX3_nextToken_24 1 rfl rfl (by decide) rfl ?_
        refine r_goto (tgt := 5) C dX3_nextToken_27 (by decide) ?_
        refine r_lv [1, 0] (lv' := [(0, .ref (zA Z 5 0)), (1, .int (x1 + 1))]) rfl ?_
        exact ih M (x1 + 1)
noncomputable def fX3_nextToken   (M : Mi) : Option (Mi) := (fX3_nextToken_5 fu M (M 5 3))
theorem bX3_nextToken {Z : Zt} {E : Ec} {N : Ml} (C : Ok 1 Z E cX3_nextToken 2 RX3 none 1)    (M : Mi)  : GT Z E 2 (finX3_nextToken N) 0 [(0, .ref (zA Z 5 0))] [] M N (fX3_nextToken M) := by
  unfold fX3_nextToken
  refine r_aload_n C dX3_nextToken_0 0 0 rfl rfl ?_
  refine gf_X3_19 (v := (M 5 3)) C dX3_nextToken_1 rfl ?_
  refine r_istore_n (lv' := [(1, .int (M 5 3)), (0, .ref (zA Z 5 0))]) C dX3_nextToken_4 1 rfl (by decide) rfl ?_
  refine r_lv [1, 0] (lv' := [(0, .ref (zA Z 5 0)), (1, .int (M 5 3))]) rfl ?_
  exact bX3_nextToken_5 C fu M (M 5 3)
theorem mX3_nextToken (l : Launch) {Z : Zt} (hZ : Zok 1 Z) (M : Mi) (N : Ml) (b : Mi) (hb : fX3_nextToken M = some b) : Ct 1 Z l yX3_nextToken cX3_nextToken 2 none 1 [.ref (zA Z 5 0)] M N (none, b, N) :=
  metG (fin := (finX3_nextToken N)) (by decide) (Nat.le_of_ble_eq_true rfl) (fun E _ C => bX3_nextToken C M) hb
theorem dX3_nameOf_0 : decode cX3_nameOf 0 = .ok (.iload_n 0, 1) := by decide +kernel
theorem dX3_nameOf_1 : decode cX3_nameOf 1 = .ok (.tableswitch 50 1 5 #[35, 38, 41, 44, 47], 35) := by decide +kernel
theorem dX3_nameOf_36 : decode cX3_nameOf 36 = .ok (.ldc 73, 2) := by decide +kernel
theorem dX3_nameOf_38 : decode cX3_nameOf 38 = .ok (.areturn, 1) := by decide +kernel
theorem dX3_nameOf_39 : decode cX3_nameOf 39 = .ok (.ldc 75, 2) := by decide +kernel
theorem dX3_nameOf_41 : decode cX3_nameOf 41 = .ok (.areturn, 1) := by decide +kernel
theorem dX3_nameOf_42 : decode cX3_nameOf 42 = .ok (.ldc 77, 2) := by decide +kernel
theorem dX3_nameOf_44 : decode cX3_nameOf 44 = .ok (.areturn, 1) := by decide +kernel
theorem dX3_nameOf_45 : decode cX3_nameOf 45 = .ok (.ldc 79, 2) := by decide +kernel
theorem dX3_nameOf_47 : decode cX3_nameOf 47 = .ok (.areturn, 1) := by decide +kernel
theorem dX3_nameOf_48 : decode cX3_nameOf 48 = .ok (.ldc 81, 2) := by decide +kernel
theorem dX3_nameOf_50 : decode cX3_nameOf 50 = .ok (.areturn, 1) := by decide +kernel
theorem dX3_nameOf_51 : decode cX3_nameOf 51 = .ok (.ldc 83, 2) := by decide +kernel
theorem dX3_nameOf_53 : decode cX3_nameOf 53 = .ok (.areturn, 1) := by decide +kernel
def finX3_nameOf (Z : Zt) (M : Mi) (N : Ml) : Nat → Option Value × Mi × Ml := fun b => (some (Value.ref (zA Z 40 b)), M, N)
noncomputable def fX3_nameOf   (x0 : Int32) : Nat := (if x0 = 1 then 0 else (if x0 = 2 then 1 else (if x0 = 3 then 2 else (if x0 = 4 then 3 else (if x0 = 5 then 4 else 5)))))
theorem bX3_nameOf {Z : Zt} {E : Ec} {M : Mi} {N : Ml} (C : Ok 1 Z E cX3_nameOf 1 RX3 (some (.object "java/lang/String")) 0)    (x0 : Int32)  : GT Z E 1 (finX3_nameOf Z M N) 0 [(0, .int x0)] [] M N (some (fX3_nameOf x0)) := by
  unfold fX3_nameOf
  refine r_iload_n C dX3_nameOf_0 0 0 rfl rfl ?_
  refine r_st ?_
  refine r_tsw (k := 1) (tgt := 36) C dX3_nameOf_1 (by decide) (by decide) rfl (by decide) (fun c1 => ?_) (fun c1 => ?_)
  · refine r_ldcS (k := 0) C dX3_nameOf_36 rfl ?_
    exact r_aret C dX3_nameOf_38 rfl
  · skip
    refine r_st ?_
    refine r_tsw (k := 2) (tgt := 39) C dX3_nameOf_1 (by decide) (by decide) rfl (by decide) (fun c2 => ?_) (fun c2 => ?_)
    · refine r_ldcS (k := 1) C dX3_nameOf_39 rfl ?_
      exact r_aret C dX3_nameOf_41 rfl
    · skip
      refine r_st ?_
      refine r_tsw (k := 3) (tgt := 42) C dX3_nameOf_1 (by decide) (by decide) rfl (by decide) (fun c3 => ?_) (fun c3 => ?_)
      · refine r_ldcS (k := 2) C dX3_nameOf_42 rfl ?_
        exact r_aret C dX3_nameOf_44 rfl
      · skip
        refine r_st ?_
        refine r_tsw (k := 4) (tgt := 45) C dX3_nameOf_1 (by decide) (by decide) rfl (by decide) (fun c4 => ?_) (fun c4 => ?_)
        · refine r_ldcS (k := 3) C dX3_nameOf_45 rfl ?_
          exact r_aret C dX3_nameOf_47 rfl
        · skip
          refine r_st ?_
          refine r_tsw (k := 5) (tgt := 48) C dX3_nameOf_1 (by decide) (by decide) rfl (by decide) (fun c5 => ?_) (fun c5 => ?_)
          · refine r_ldcS (k := 4) C dX3_nameOf_48 rfl ?_
            exact r_aret C dX3_nameOf_50 rfl
          · skip
            refine r_tswd (tgt := 51) C dX3_nameOf_1 (sw_out (lo := 1) (hi := 5) (n := 5) x0 [1, 2, 3, 4, 5] (by decide) rfl (List.forall_mem_cons.mpr ⟨c1, List.forall_mem_cons.mpr ⟨c2, List.forall_mem_cons.mpr ⟨c3, List.forall_mem_cons.mpr ⟨c4, List.forall_mem_cons.mpr ⟨c5, fun _ h => absurd h List.not_mem_nil⟩⟩⟩⟩⟩)) (by decide) ?_
            refine r_ldcS (k := 5) C dX3_nameOf_51 rfl ?_
            exact r_aret C dX3_nameOf_53 rfl
theorem mX3_nameOf (l : Launch) {Z : Zt} (hZ : Zok 1 Z) (M : Mi) (N : Ml) (x0 : Int32) : Ct 1 Z l yX3_nameOf cX3_nameOf 1 (some (.object "java/lang/String")) 0 [.int x0] M N (some (Value.ref (zA Z 40 (fX3_nameOf x0))), M, N) :=
  metG (fin := (finX3_nameOf Z M N)) (by decide) (Nat.le_of_ble_eq_true rfl) (fun E _ C => bX3_nameOf C x0) rfl
theorem nm_lt (x : Int32) : fX3_nameOf x < 14 := by
  unfold fX3_nameOf; repeat' split
  all_goals decide
