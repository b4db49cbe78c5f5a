theorem dX5_isCell_0 : decode cX5_isCell 0 = .ok (.iload_n 0, 1) := by decide +kernel
theorem dX5_isCell_1 : decode cX5_isCell 1 = .ok (.i2l, 1) := by decide +kernel
theorem dX5_isCell_2 : decode cX5_isCell 2 = .ok (.lconst 0, 1) := by decide +kernel
theorem dX5_isCell_3 : decode cX5_isCell 3 = .ok (.ldc2_w 42, 3) := by decide +kernel
theorem dX5_isCell_6 : decode cX5_isCell 6 = .ok (.invokestatic 44, 3) := by decide +kernel
theorem dX5_isCell_9 : decode cX5_isCell 9 = .ok (.ireturn, 1) := by decide +kernel
def finX5_isCell (M : Mi) (N : Ml) : Int32 → Option Value × Mi × Ml := fun b => (some (Value.int b), M, N)
noncomputable def fX5_isCell   (x0 : Int32) : Int32 := (fX5_in (Int32.toInt64 x0) 0 29)
theorem bX5_isCell {Z : Zt} {E : Ec} {M : Mi} {N : Ml} (C : Ok 2 Z E cX5_isCell 1 RX5 (some .boolean) 1)    (x0 : Int32)  : GT Z E 1 (finX5_isCell M N) 0 [(0, .int x0)] [] M N (some (fX5_isCell x0)) := by
  unfold fX5_isCell
  refine r_iload_n C dX5_isCell_0 0 0 rfl rfl ?_
  refine r_i2l C dX5_isCell_1 ?_
  refine r_lconst (v := 0) C dX5_isCell_2 (by decide) ?_
  refine r_ldc2 (v := 29) C dX5_isCell_3 wd_855 ?_
  refine r_callS (rest := []) (st2 := [.int (fX5_in (Int32.toInt64 x0) 0 29)]) C (mX5_in (eL E) C.z _ _ (Int32.toInt64 x0) 0 29) lk_X5_44 (by decide) rfl rfl (Nat.le_of_ble_eq_true rfl) dX5_isCell_6 rfl ?_
  exact r_zret C dX5_isCell_9 (zbX5_in  (Int32.toInt64 x0) 0 29) rfl
theorem zbX5_isCell (x0 : Int32) : fX5_isCell x0 = 0 ∨ fX5_isCell x0 = 1 := by
  unfold fX5_isCell; (repeat' split) <;> first | exact Or.inl rfl | exact Or.inr rfl | exact zbX5_in _ _ _
theorem mX5_isCell (l : Launch) {Z : Zt} (hZ : Zok 2 Z) (M : Mi) (N : Ml) (x0 : Int32) : Ct 2 Z l yX5_isCell cX5_isCell 1 (some .boolean) 1 [.int x0] M N (some (Value.int (fX5_isCell x0)), M, N) :=
  metG (fin := (finX5_isCell M N)) (by decide) (Nat.le_of_ble_eq_true rfl) (fun E _ C => bX5_isCell C x0) rfl
theorem dX5_isKind_0 : decode cX5_isKind 0 = .ok (.iload_n 0, 1) := by decide +kernel
theorem dX5_isKind_1 : decode cX5_isKind 1 = .ok (.i2l, 1) := by decide +kernel
theorem dX5_isKind_2 : decode cX5_isKind 2 = .ok (.lconst 0, 1) := by decide +kernel
theorem dX5_isKind_3 : decode cX5_isKind 3 = .ok (.ldc2_w 48, 3) := by decide +kernel
theorem dX5_isKind_6 : decode cX5_isKind 6 = .ok (.invokestatic 44, 3) := by decide +kernel
theorem dX5_isKind_9 : decode cX5_isKind 9 = .ok (.ireturn, 1) := by decide +kernel
def finX5_isKind (M : Mi) (N : Ml) : Int32 → Option Value × Mi × Ml := fun b => (some (Value.int b), M, N)
noncomputable def fX5_isKind   (x0 : Int32) : Int32 := (fX5_in (Int32.toInt64 x0) 0 5)
theorem bX5_isKind {Z : Zt} {E : Ec} {M : Mi} {N : Ml} (C : Ok 2 Z E cX5_isKind 1 RX5 (some .boolean) 1)    (x0 : Int32)  : GT Z E 1 (finX5_isKind M N) 0 [(0, .int x0)] [] M N (some (fX5_isKind x0)) := by
  unfold fX5_isKind
  refine r_iload_n C dX5_isKind_0 0 0 rfl rfl ?_
  refine r_i2l C dX5_isKind_1 ?_
  refine r_lconst (v := 0) C dX5_isKind_2 (by decide) ?_
  refine r_ldc2 (v := 5) C dX5_isKind_3 wd_912 ?_
  refine r_callS (rest := []) (st2 := [.int (fX5_in (Int32.toInt64 x0) 0 5)]) C (mX5_in (eL E) C.z _ _ (Int32.toInt64 x0) 0 5) lk_X5_44 (by decide) rfl rfl (Nat.le_of_ble_eq_true rfl) dX5_isKind_6 rfl ?_
  exact r_zret C dX5_isKind_9 (zbX5_in  (Int32.toInt64 x0) 0 5) rfl
theorem zbX5_isKind (x0 : Int32) : fX5_isKind x0 = 0 ∨ fX5_isKind x0 = 1 := by
  unfold fX5_isKind; (repeat' split) <;> first | exact Or.inl rfl | exact Or.inr rfl | exact zbX5_in _ _ _
theorem mX5_isKind (l : Launch) {Z : Zt} (hZ : Zok 2 Z) (M : Mi) (N : Ml) (x0 : Int32) : Ct 2 Z l yX5_isKind cX5_isKind 1 (some .boolean) 1 [.int x0] M N (some (Value.int (fX5_isKind x0)), M, N) :=
  metG (fin := (finX5_isKind M N)) (by decide) (Nat.le_of_ble_eq_true rfl) (fun E _ C => bX5_isKind C x0) rfl
theorem dX5_isSubject_0 : decode cX5_isSubject 0 = .ok (.iload_n 0, 1) := by decide +kernel
theorem dX5_isSubject_1 : decode cX5_isSubject 1 = .ok (.i2l, 1) := by decide +kernel
theorem dX5_isSubject_2 : decode cX5_isSubject 2 = .ok (.lconst 0, 1) := by decide +kernel
theorem dX5_isSubject_3 : decode cX5_isSubject 3 = .ok (.ldc2_w 50, 3) := by decide +kernel
theorem dX5_isSubject_6 : decode cX5_isSubject 6 = .ok (.invokestatic 44, 3) := by decide +kernel
theorem dX5_isSubject_9 : decode cX5_isSubject 9 = .ok (.ireturn, 1) := by decide +kernel
def finX5_isSubject (M : Mi) (N : Ml) : Int32 → Option Value × Mi × Ml := fun b => (some (Value.int b), M, N)
noncomputable def fX5_isSubject   (x0 : Int32) : Int32 := (fX5_in (Int32.toInt64 x0) 0 11)
theorem bX5_isSubject {Z : Zt} {E : Ec} {M : Mi} {N : Ml} (C : Ok 2 Z E cX5_isSubject 1 RX5 (some .boolean) 1)    (x0 : Int32)  : GT Z E 1 (finX5_isSubject M N) 0 [(0, .int x0)] [] M N (some (fX5_isSubject x0)) := by
  unfold fX5_isSubject
  refine r_iload_n C dX5_isSubject_0 0 0 rfl rfl ?_
  refine r_i2l C dX5_isSubject_1 ?_
  refine r_lconst (v := 0) C dX5_isSubject_2 (by decide) ?_
  refine r_ldc2 (v := 11) C dX5_isSubject_3 wd_979 ?_
  refine r_callS (rest := []) (st2 := [.int (fX5_in (Int32.toInt64 x0) 0 11)]) C (mX5_in (eL E) C.z _ _ (Int32.toInt64 x0) 0 11) lk_X5_44 (by decide) rfl rfl (Nat.le_of_ble_eq_true rfl) dX5_isSubject_6 rfl ?_
  exact r_zret C dX5_isSubject_9 (zbX5_in  (Int32.toInt64 x0) 0 11) rfl
theorem zbX5_isSubject (x0 : Int32) : fX5_isSubject x0 = 0 ∨ fX5_isSubject x0 = 1 := by
  unfold fX5_isSubject; (repeat' split) <;> first | exact Or.inl rfl | exact Or.inr rfl | exact zbX5_in _ _ _
theorem mX5_isSubject (l : Launch) {Z : Zt} (hZ : Zok 2 Z) (M : Mi) (N : Ml) (x0 : Int32) : Ct 2 Z l yX5_isSubject cX5_isSubject 1 (some .boolean) 1 [.int x0] M N (some (Value.int (fX5_isSubject x0)), M, N) :=
  metG (fin := (finX5_isSubject M N)) (by decide) (Nat.le_of_ble_eq_true rfl) (fun E _ C => bX5_isSubject C x0) rfl
theorem dX5_isSet_0 : decode cX5_isSet 0 = .ok (.lload_n 0, 1) := by decide +kernel
theorem dX5_isSet_1 : decode cX5_isSet 1 = .ok (.lconst 0, 1) := by decide +kernel
theorem dX5_isSet_2 : decode cX5_isSet 2 = .ok (.ldc2_w 52, 3) := by decide +kernel
theorem dX5_isSet_5 : decode cX5_isSet 5 = .ok (.invokestatic 44, 3) := by decide +kernel
theorem dX5_isSet_8 : decode cX5_isSet 8 = .ok (.ireturn, 1) := by decide +kernel
def finX5_isSet (M : Mi) (N : Ml) : Int32 → Option Value × Mi × Ml := fun b => (some (Value.int b), M, N)
noncomputable def fX5_isSet   (x0 : Int64) : Int32 := (fX5_in x0 0 4095)
theorem bX5_isSet {Z : Zt} {E : Ec} {M : Mi} {N : Ml} (C : Ok 2 Z E cX5_isSet 2 RX5 (some .boolean) 1)    (x0 : Int64)  : GT Z E 2 (finX5_isSet M N) 0 [(0, .long x0)] [] M N (some (fX5_isSet x0)) := by
  unfold fX5_isSet
  refine r_lload_n C dX5_isSet_0 0 0 rfl rfl ?_
  refine r_lconst (v := 0) C dX5_isSet_1 (by decide) ?_
  refine r_ldc2 (v := 4095) C dX5_isSet_2 wd_916 ?_
  refine r_callS (rest := []) (st2 := [.int (fX5_in x0 0 4095)]) C (mX5_in (eL E) C.z _ _ x0 0 4095) lk_X5_44 (by decide) rfl rfl (Nat.le_of_ble_eq_true rfl) dX5_isSet_5 rfl ?_
  exact r_zret C dX5_isSet_8 (zbX5_in  x0 0 4095) rfl
theorem zbX5_isSet (x0 : Int64) : fX5_isSet x0 = 0 ∨ fX5_isSet x0 = 1 := by
  unfold fX5_isSet; (repeat' split) <;> first | exact Or.inl rfl | exact Or.inr rfl | exact zbX5_in _ _ _
theorem mX5_isSet (l : Launch) {Z : Zt} (hZ : Zok 2 Z) (M : Mi) (N : Ml) (x0 : Int64) : Ct 2 Z l yX5_isSet cX5_isSet 2 (some .boolean) 1 [.long x0] M N (some (Value.int (fX5_isSet x0)), M, N) :=
  metG (fin := (finX5_isSet M N)) (by decide) (Nat.le_of_ble_eq_true rfl) (fun E _ C => bX5_isSet C x0) rfl
theorem dX5_isOne_0 : decode cX5_isOne 0 = .ok (.iload_n 1, 1) := by decide +kernel
theorem dX5_isOne_1 : decode cX5_isOne 1 = .ok (.i2l, 1) := by decide +kernel
theorem dX5_isOne_2 : decode cX5_isOne 2 = .ok (.lconst 0, 1) := by decide +kernel
theorem dX5_isOne_3 : decode cX5_isOne 3 = .ok (.aload_n 0, 1) := by decide +kernel
theorem dX5_isOne_4 : decode cX5_isOne 4 = .ok (.getfield 7, 3) := by decide +kernel
theorem dX5_isOne_7 : decode cX5_isOne 7 = .ok (.iconst 1, 1) := by decide +kernel
theorem dX5_isOne_8 : decode cX5_isOne 8 = .ok (.iaload, 1) := by decide +kernel
theorem dX5_isOne_9 : decode cX5_isOne 9 = .ok (.iconst 1, 1) := by decide +kernel
theorem dX5_isOne_10 : decode cX5_isOne 10 = .ok (.isub, 1) := by decide +kernel
theorem dX5_isOne_11 : decode cX5_isOne 11 = .ok (.i2l, 1) := by decide +kernel
theorem dX5_isOne_12 : decode cX5_isOne 12 = .ok (.invokestatic 44, 3) := by decide +kernel
theorem dX5_isOne_15 : decode cX5_isOne 15 = .ok (.ireturn, 1) := by decide +kernel
def finX5_isOne (M0 : Mi) (σ : Nat → Int32) (N : Ml) : Int32 → Option Value × Mi × Ml := fun b => (some (Value.int b), sR M0 0 σ, N)
noncomputable def fX5_isOne (σ : Nat → Int32)  (x1 : Int32) : Int32 := (fX5_in (Int32.toInt64 x1) 0 (Int32.toInt64 ((σ 1) - 1)))
theorem bX5_isOne {Z : Zt} {E : Ec} {M0 : Mi} {σ : Nat → Int32} {N : Ml} (C : Ok 2 Z E cX5_isOne 2 RX5 (some .boolean) 1)    (x1 : Int32)  : GT Z E 2 (finX5_isOne M0 σ N) 0 [(0, .ref (zA Z 6 0)), (1, .int x1)] [] (sR M0 0 σ) N (some (fX5_isOne σ x1)) := by
  unfold fX5_isOne
  refine r_iload_n C dX5_isOne_0 1 1 rfl rfl ?_
  refine r_i2l C dX5_isOne_1 ?_
  refine r_lconst (v := 0) C dX5_isOne_2 (by decide) ?_
  refine r_aload_n C dX5_isOne_3 0 0 rfl rfl ?_
  refine gf_X5_7 C dX5_isOne_4 ?_
  refine r_iconst (v := 1) C dX5_isOne_7 (by decide) ?_
  refine ald_M (v := (σ 1)) C mI_0 (by decide) (sR_at _ _ _ _) dX5_isOne_8 ?_
  refine r_iconst (v := 1) C dX5_isOne_9 (by decide) ?_
  refine r_isub C dX5_isOne_10 ?_
  refine r_i2l C dX5_isOne_11 ?_
  refine r_callS (rest := []) (st2 := [.int (fX5_in (Int32.toInt64 x1) 0 (Int32.toInt64 ((σ 1) - 1)))]) C (mX5_in (eL E) C.z _ _ (Int32.toInt64 x1) 0 (Int32.toInt64 ((σ 1) - 1))) lk_X5_44 (by decide) rfl rfl (Nat.le_of_ble_eq_true rfl) dX5_isOne_12 rfl ?_
  exact r_zret C dX5_isOne_15 (zbX5_in  (Int32.toInt64 x1) 0 (Int32.toInt64 ((σ 1) - 1))) rfl
theorem zbX5_isOne (σ : Nat → Int32) (x1 : Int32) : fX5_isOne σ x1 = 0 ∨ fX5_isOne σ x1 = 1 := by
  unfold fX5_isOne; (repeat' split) <;> first | exact Or.inl rfl | exact Or.inr rfl | exact zbX5_in _ _ _
theorem mX5_isOne (l : Launch) {Z : Zt} (hZ : Zok 2 Z) (M0 : Mi) (N : Ml) (σ : Nat → Int32) (x1 : Int32) : Ct 2 Z l yX5_isOne cX5_isOne 2 (some .boolean) 1 [.ref (zA Z 6 0), .int x1] (sR M0 0 σ) N (some (Value.int (fX5_isOne σ x1)), sR M0 0 σ, N) :=
  metG (fin := (finX5_isOne M0 σ N)) (by decide) (Nat.le_of_ble_eq_true rfl) (fun E _ C => bX5_isOne C x1) rfl
theorem dX5_areTwo_0 : decode cX5_areTwo 0 = .ok (.aload_n 0, 1) := by decide +kernel
theorem dX5_areTwo_1 : decode cX5_areTwo 1 = .ok (.iload_n 1, 1) := by decide +kernel
theorem dX5_areTwo_2 : decode cX5_areTwo 2 = .ok (.invokevirtual 54, 3) := by decide +kernel
theorem dX5_areTwo_5 : decode cX5_areTwo 5 = .ok (.ifCond .eq 20, 3) := by decide +kernel
theorem dX5_areTwo_8 : decode cX5_areTwo 8 = .ok (.aload_n 0, 1) := by decide +kernel
theorem dX5_areTwo_9 : decode cX5_areTwo 9 = .ok (.iload_n 2, 1) := by decide +kernel
theorem dX5_areTwo_10 : decode cX5_areTwo 10 = .ok (.invokevirtual 54, 3) := by decide +kernel
theorem dX5_areTwo_13 : decode cX5_areTwo 13 = .ok (.ifCond .eq 12, 3) := by decide +kernel
theorem dX5_areTwo_16 : decode cX5_areTwo 16 = .ok (.iload_n 1, 1) := by decide +kernel
theorem dX5_areTwo_17 : decode cX5_areTwo 17 = .ok (.iload_n 2, 1) := by decide +kernel
theorem dX5_areTwo_18 : decode cX5_areTwo 18 = .ok (.if_icmp .eq 7, 3) := by decide +kernel
theorem dX5_areTwo_21 : decode cX5_areTwo 21 = .ok (.iconst 1, 1) := by decide +kernel
theorem dX5_areTwo_22 : decode cX5_areTwo 22 = .ok (.goto 4, 3) := by decide +kernel
theorem dX5_areTwo_25 : decode cX5_areTwo 25 = .ok (.iconst 0, 1) := by decide +kernel
theorem dX5_areTwo_26 : decode cX5_areTwo 26 = .ok (.ireturn, 1) := by decide +kernel
def finX5_areTwo (M0 : Mi) (σ : Nat → Int32) (N : Ml) : Int32 → Option Value × Mi × Ml := fun b => (some (Value.int b), sR M0 0 σ, N)
noncomputable def fX5_areTwo (σ : Nat → Int32)  (x1 : Int32) (x2 : Int32) : Int32 := (if (fX5_isOne σ x1) = 0 then 0 else (if (fX5_isOne σ x2) = 0 then 0 else (if x1 = x2 then 0 else 1)))
theorem bX5_areTwo {Z : Zt} {E : Ec} {M0 : Mi} {σ : Nat → Int32} {N : Ml} (C : Ok 2 Z E cX5_areTwo 3 RX5 (some .boolean) 2)    (x1 : Int32) (x2 : Int32)  : GT Z E 3 (finX5_areTwo M0 σ N) 0 [(0, .ref (zA Z 6 0)), (1, .int x1), (2, .int x2)] [] (sR M0 0 σ) N (some (fX5_areTwo σ x1 x2)) := by
  unfold fX5_areTwo
  refine r_aload_n C dX5_areTwo_0 0 0 rfl rfl ?_
  refine r_iload_n C dX5_areTwo_1 1 1 rfl rfl ?_
  refine r_callV (rest := []) (st2 := [.int (fX5_isOne σ x1)]) C (mX5_isOne (eL E) C.z _ _ σ x1) lk_X5_54 (rvM C) (by decide) rfl rfl (Nat.le_of_ble_eq_true rfl) dX5_areTwo_2 rfl ?_
  refine r_st ?_
  refine r_if_eq (tgt := 25) C dX5_areTwo_5 (by decide) (fun c1 => ?_) (fun c1 => ?_)
  · refine r_iconst (v := 0) C dX5_areTwo_25 (by decide) ?_
    exact r_zret C dX5_areTwo_26 (Or.inl rfl) rfl
  · refine r_aload_n C dX5_areTwo_8 0 0 rfl rfl ?_
    refine r_iload_n C dX5_areTwo_9 2 2 rfl rfl ?_
    refine r_callV (rest := []) (st2 := [.int (fX5_isOne σ x2)]) C (mX5_isOne (eL E) C.z _ _ σ x2) lk_X5_54 (rvM C) (by decide) rfl rfl (Nat.le_of_ble_eq_true rfl) dX5_areTwo_10 rfl ?_
    refine r_st ?_
    refine r_if_eq (tgt := 25) C dX5_areTwo_13 (by decide) (fun c2 => ?_) (fun c2 => ?_)
    · refine r_iconst (v := 0) C dX5_areTwo_25 (by decide) ?_
      exact r_zret C dX5_areTwo_26 (Or.inl rfl) rfl
    · refine r_iload_n C dX5_areTwo_16 1 1 rfl rfl ?_
      refine r_iload_n C dX5_areTwo_17 2 2 rfl rfl ?_
      refine r_st ?_
      refine r_ic_eq (tgt := 25) C dX5_areTwo_18 (by decide) (fun c3 => ?_) (fun c3 => ?_)
      · refine r_iconst (v := 0) C dX5_areTwo_25 (by decide) ?_
        exact r_zret C dX5_areTwo_26 (Or.inl rfl) rfl
      · refine r_iconst (v := 1) C dX5_areTwo_21 (by decide) ?_
        refine r_goto (tgt := 26) C dX5_areTwo_22 (by decide) ?_
        exact r_zret C dX5_areTwo_26 (Or.inr rfl) rfl
theorem zbX5_areTwo (σ : Nat → Int32) (x1 : Int32) (x2 : Int32) : fX5_areTwo σ x1 x2 = 0 ∨ fX5_areTwo σ x1 x2 = 1 := by
  unfold fX5_areTwo; (repeat' split) <;> first | exact Or.inl rfl | exact Or.inr rfl | exact zbX5_isOne _ _
theorem mX5_areTwo (l : Launch) {Z : Zt} (hZ : Zok 2 Z) (M0 : Mi) (N : Ml) (σ : Nat → Int32) (x1 : Int32) (x2 : Int32) : Ct 2 Z l yX5_areTwo cX5_areTwo 3 (some .boolean) 2 [.ref (zA Z 6 0), .int x1, .int x2] (sR M0 0 σ) N (some (Value.int (fX5_areTwo σ x1 x2)), sR M0 0 σ, N) :=
  metG (fin := (finX5_areTwo M0 σ N)) (by decide) (Nat.le_of_ble_eq_true rfl) (fun E _ C => bX5_areTwo C x1 x2) rfl
theorem dX5_spotOf_0 : decode cX5_spotOf 0 = .ok (.bipush 7, 2) := by decide +kernel
theorem dX5_spotOf_2 : decode cX5_spotOf 2 = .ok (.iconst 4, 1) := by decide +kernel
theorem dX5_spotOf_3 : decode cX5_spotOf 3 = .ok (.iload_n 0, 1) := by decide +kernel
theorem dX5_spotOf_4 : decode cX5_spotOf 4 = .ok (.imul, 1) := by decide +kernel
theorem dX5_spotOf_5 : decode cX5_spotOf 5 = .ok (.iadd, 1) := by decide +kernel
theorem dX5_spotOf_6 : decode cX5_spotOf 6 = .ok (.iload_n 1, 1) := by decide +kernel
theorem dX5_spotOf_7 : decode cX5_spotOf 7 = .ok (.iadd, 1) := by decide +kernel
theorem dX5_spotOf_8 : decode cX5_spotOf 8 = .ok (.ireturn, 1) := by decide +kernel
def finX5_spotOf (M : Mi) (N : Ml) : Int32 → Option Value × Mi × Ml := fun b => (some (Value.int b), M, N)
noncomputable def fX5_spotOf   (x0 : Int32) (x1 : Int32) : Int32 := ((7 + (4 * x0)) + x1)
theorem bX5_spotOf {Z : Zt} {E : Ec} {M : Mi} {N : Ml} (C : Ok 2 Z E cX5_spotOf 2 RX5 (some .int) 0)    (x0 : Int32) (x1 : Int32)  : GT Z E 2 (finX5_spotOf M N) 0 [(0, .int x0), (1, .int x1)] [] M N (some (fX5_spotOf x0 x1)) := by
  unfold fX5_spotOf
  refine r_bipush (v := 7) C dX5_spotOf_0 (by decide) ?_
  refine r_iconst (v := 4) C dX5_spotOf_2 (by decide) ?_
  refine r_iload_n C dX5_spotOf_3 0 0 rfl rfl ?_
  refine r_imul C dX5_spotOf_4 ?_
  refine r_iadd C dX5_spotOf_5 ?_
  refine r_iload_n C dX5_spotOf_6 1 1 rfl rfl ?_
  refine r_iadd C dX5_spotOf_7 ?_
  exact r_iret C dX5_spotOf_8 rfl
theorem mX5_spotOf (l : Launch) {Z : Zt} (hZ : Zok 2 Z) (M : Mi) (N : Ml) (x0 : Int32) (x1 : Int32) : Ct 2 Z l yX5_spotOf cX5_spotOf 2 (some .int) 0 [.int x0, .int x1] M N (some (Value.int (fX5_spotOf x0 x1)), M, N) :=
  metG (fin := (finX5_spotOf M N)) (by decide) (Nat.le_of_ble_eq_true rfl) (fun E _ C => bX5_spotOf C x0 x1) rfl
theorem dX5_its_0 : decode cX5_its 0 = .ok (.aload_n 0, 1) := by decide +kernel
theorem dX5_its_1 : decode cX5_its 1 = .ok (.getfield 7, 3) := by decide +kernel
theorem dX5_its_4 : decode cX5_its 4 = .ok (.iload_n 1, 1) := by decide +kernel
theorem dX5_its_5 : decode cX5_its 5 = .ok (.iload_n 2, 1) := by decide +kernel
theorem dX5_its_6 : decode cX5_its 6 = .ok (.invokestatic 58, 3) := by decide +kernel
theorem dX5_its_9 : decode cX5_its 9 = .ok (.iaload, 1) := by decide +kernel
theorem dX5_its_10 : decode cX5_its 10 = .ok (.ireturn, 1) := by decide +kernel
def finX5_its (M0 : Mi) (σ : Nat → Int32) (N : Ml) : Int32 → Option Value × Mi × Ml := fun b => (some (Value.int b), sR M0 0 σ, N)
noncomputable def fX5_its (σ : Nat → Int32)  (x1 : Int32) (x2 : Int32) : Option (Int32) := (if inb (fX5_spotOf x1 x2) 39 then (some (σ (ix (fX5_spotOf x1 x2)))) else none)
theorem bX5_its {Z : Zt} {E : Ec} {M0 : Mi} {σ : Nat → Int32} {N : Ml} (C : Ok 2 Z E cX5_its 3 RX5 (some .int) 1)    (x1 : Int32) (x2 : Int32)  : GT Z E 3 (finX5_its M0 σ N) 0 [(0, .ref (zA Z 6 0)), (1, .int x1), (2, .int x2)] [] (sR M0 0 σ) N (fX5_its σ x1 x2) := by
  unfold fX5_its
  refine r_aload_n C dX5_its_0 0 0 rfl rfl ?_
  refine gf_X5_7 C dX5_its_1 ?_
  refine r_iload_n C dX5_its_4 1 1 rfl rfl ?_
  refine r_iload_n C dX5_its_5 2 2 rfl rfl ?_
  refine r_callS (rest := [.ref (zA Z 0 0)]) (st2 := [.int (fX5_spotOf x1 x2), .ref (zA Z 0 0)]) C (mX5_spotOf (eL E) C.z _ _ x1 x2) lk_X5_58 (by decide) rfl rfl (Nat.le_of_ble_eq_true rfl) dX5_its_6 rfl ?_
  refine r_guard (fun h1 => ?_)
  refine ald_M (v := (σ (ix (fX5_spotOf x1 x2)))) C mI_0 h1 (sR_at _ _ _ _) dX5_its_9 ?_
  exact r_iret C dX5_its_10 rfl
theorem mX5_its (l : Launch) {Z : Zt} (hZ : Zok 2 Z) (M0 : Mi) (N : Ml) (σ : Nat → Int32) (x1 : Int32) (x2 : Int32) (b : Int32) (hb : fX5_its σ x1 x2 = some b) : Ct 2 Z l yX5_its cX5_its 3 (some .int) 1 [.ref (zA Z 6 0), .int x1, .int x2] (sR M0 0 σ) N (some (Value.int b), sR M0 0 σ, N) :=
  metG (fin := (finX5_its M0 σ N)) (by decide) (Nat.le_of_ble_eq_true rfl) (fun E _ C => bX5_its C x1 x2) hb
theorem dX5_ones_0 : decode cX5_ones 0 = .ok (.iconst 0, 1) := by decide +kernel
theorem dX5_ones_1 : decode cX5_ones 1 = .ok (.istore_n 1, 1) := by decide +kernel
theorem dX5_ones_2 : decode cX5_ones 2 = .ok (.iload_n 0, 1) := by decide +kernel
theorem dX5_ones_3 : decode cX5_ones 3 = .ok (.istore_n 2, 1) := by decide +kernel
theorem dX5_ones_4 : decode cX5_ones 4 = .ok (.iload_n 2, 1) := by decide +kernel
theorem dX5_ones_5 : decode cX5_ones 5 = .ok (.ifCond .eq 15, 3) := by decide +kernel
theorem dX5_ones_8 : decode cX5_ones 8 = .ok (.iinc 1 1, 3) := by decide +kernel
theorem dX5_ones_11 : decode cX5_ones 11 = .ok (.iload_n 2, 1) := by decide +kernel
theorem dX5_ones_12 : decode cX5_ones 12 = .ok (.iload_n 2, 1) := by decide +kernel
theorem dX5_ones_13 : decode cX5_ones 13 = .ok (.iconst 1, 1) := by decide +kernel
theorem dX5_ones_14 : decode cX5_ones 14 = .ok (.isub, 1) := by decide +kernel
theorem dX5_ones_15 : decode cX5_ones 15 = .ok (.iand, 1) := by decide +kernel
theorem dX5_ones_16 : decode cX5_ones 16 = .ok (.istore_n 2, 1) := by decide +kernel
theorem dX5_ones_17 : decode cX5_ones 17 = .ok (.goto (-13), 3) := by decide +kernel
theorem dX5_ones_20 : decode cX5_ones 20 = .ok (.iload_n 1, 1) := by decide +kernel
theorem dX5_ones_21 : decode cX5_ones 21 = .ok (.ireturn, 1) := by decide +kernel
def finX5_ones (M : Mi) (N : Ml) : Int32 → Option Value × Mi × Ml := fun b => (some (Value.int b), M, N)
noncomputable def fX5_ones_4   : Nat → Int32 → Int32 → Option (Int32)
  | 0 => fun _ _ => none
  | n + 1 => fun x1 x2 => (if x2 = 0 then (some x1) else ((fX5_ones_4 n) (x1 + 1) (x2 &&& (x2 - 1))))
theorem bX5_ones_4 {Z : Zt} {E : Ec} {M : Mi} {N : Ml} (C : Ok 2 Z E cX5_ones 3 RX5 (some .int) 0)    : ∀ (n : Nat) (x1 : Int32) (x2 : Int32), GT Z E 3 (finX5_ones M N) 4 [(1, .int x1), (2, .int x2)] [] M N (fX5_ones_4 n x1 x2) := by
  intro n
  induction n with
  | zero => intro x1 x2; exact r_none
  | succ n ih =>
    intro x1 x2
    rw [fX5_ones_4]
    refine r_iload_n C dX5_ones_4 2 1 rfl rfl ?_
    refine r_if_eq (tgt := 20) C dX5_ones_5 (by decide) (fun c1 => ?_) (fun c1 => ?_)
    · refine r_iload_n C dX5_ones_20 1 0 rfl rfl ?_
      exact r_iret C dX5_ones_21 rfl
    · refine r_iinc (v := (x1 + 1)) (lv' := [(1, .int (x1 + 1)), (2, .int x2)]) C dX5_ones_8 0 rfl rfl (by decide) rfl ?_
      refine r_iload_n C dX5_ones_11 2 1 rfl rfl ?_
      refine r_iload_n C dX5_ones_12 2 1 rfl rfl ?_
      refine r_iconst (v := 1) C dX5_ones_13 (by decide) ?_
      refine r_isub C dX5_ones_14 ?_
      refine r_iand C dX5_ones_15 ?_
      refine r_istore_n (lv' := [(2, .int (x2 &&& (x2 - 1))), (1, .int (x1 + 1))]) C dX5_ones_16 2 rfl (by decide) rfl ?_
      refine r_goto (tgt := 4) C dX5_ones_17 (by decide) ?_
      refine r_lv [1, 0] (lv' := [(1, .int (x1 + 1)), (2, .int (x2 &&& (x2 - 1)))]) rfl ?_
      exact ih (x1 + 1) (x2 &&& (x2 - 1))
noncomputable def fX5_ones   (x0 : Int32) : Option (Int32) := (fX5_ones_4 fu 0 x0)
theorem bX5_ones {Z : Zt} {E : Ec} {M : Mi} {N : Ml} (C : Ok 2 Z E cX5_ones 3 RX5 (some .int) 0)    (x0 : Int32)  : GT Z E 3 (finX5_ones M N) 0 [(0, .int x0)] [] M N (fX5_ones x0) := by
  unfold fX5_ones
  refine r_iconst (v := 0) C dX5_ones_0 (by decide) ?_
  refine r_istore_n (lv' := [(1, .int 0), (0, .int x0)]) C dX5_ones_1 1 rfl (by decide) rfl ?_
  refine r_iload_n C dX5_ones_2 0 1 rfl rfl ?_
  refine r_istore_n (lv' := [(2, .int x0), (1, .int 0), (0, .int x0)]) C dX5_ones_3 2 rfl (by decide) rfl ?_
  refine r_lv [1, 0] (lv' := [(1, .int 0), (2, .int x0)]) rfl ?_
  exact bX5_ones_4 C fu 0 x0
theorem mX5_ones (l : Launch) {Z : Zt} (hZ : Zok 2 Z) (M : Mi) (N : Ml) (x0 : Int32) (b : Int32) (hb : fX5_ones x0 = some b) : Ct 2 Z l yX5_ones cX5_ones 3 (some .int) 0 [.int x0] M N (some (Value.int b), M, N) :=
  metG (fin := (finX5_ones M N)) (by decide) (Nat.le_of_ble_eq_true rfl) (fun E _ C => bX5_ones C x0) hb
theorem dX5_isFenced_0 : decode cX5_isFenced 0 = .ok (.aload_n 0, 1) := by decide +kernel
theorem dX5_isFenced_1 : decode cX5_isFenced 1 = .ok (.getfield 7, 3) := by decide +kernel
theorem dX5_isFenced_4 : decode cX5_isFenced 4 = .ok (.iconst 2, 1) := by decide +kernel
theorem dX5_isFenced_5 : decode cX5_isFenced 5 = .ok (.iaload, 1) := by decide +kernel
theorem dX5_isFenced_6 : decode cX5_isFenced 6 = .ok (.iload_n 1, 1) := by decide +kernel
theorem dX5_isFenced_7 : decode cX5_isFenced 7 = .ok (.ishr, 1) := by decide +kernel
theorem dX5_isFenced_8 : decode cX5_isFenced 8 = .ok (.iconst 1, 1) := by decide +kernel
theorem dX5_isFenced_9 : decode cX5_isFenced 9 = .ok (.iand, 1) := by decide +kernel
theorem dX5_isFenced_10 : decode cX5_isFenced 10 = .ok (.iconst 1, 1) := by decide +kernel
theorem dX5_isFenced_11 : decode cX5_isFenced 11 = .ok (.if_icmp .ne 7, 3) := by decide +kernel
theorem dX5_isFenced_14 : decode cX5_isFenced 14 = .ok (.iconst 1, 1) := by decide +kernel
theorem dX5_isFenced_15 : decode cX5_isFenced 15 = .ok (.goto 4, 3) := by decide +kernel
theorem dX5_isFenced_18 : decode cX5_isFenced 18 = .ok (.iconst 0, 1) := by decide +kernel
theorem dX5_isFenced_19 : decode cX5_isFenced 19 = .ok (.ireturn, 1) := by decide +kernel
def finX5_isFenced (M0 : Mi) (σ : Nat → Int32) (N : Ml) : Int32 → Option Value × Mi × Ml := fun b => (some (Value.int b), sR M0 0 σ, N)
noncomputable def fX5_isFenced (σ : Nat → Int32)  (x1 : Int32) : Int32 := (if (((σ 2) >>> (x1 &&& 31)) &&& 1) = 1 then 1 else 0)
theorem bX5_isFenced {Z : Zt} {E : Ec} {M0 : Mi} {σ : Nat → Int32} {N : Ml} (C : Ok 2 Z E cX5_isFenced 2 RX5 (some .boolean) 0)    (x1 : Int32)  : GT Z E 2 (finX5_isFenced M0 σ N) 0 [(0, .ref (zA Z 6 0)), (1, .int x1)] [] (sR M0 0 σ) N (some (fX5_isFenced σ x1)) := by
  unfold fX5_isFenced
  refine r_aload_n C dX5_isFenced_0 0 0 rfl rfl ?_
  refine gf_X5_7 C dX5_isFenced_1 ?_
  refine r_iconst (v := 2) C dX5_isFenced_4 (by decide) ?_
  refine ald_M (v := (σ 2)) C mI_0 (by decide) (sR_at _ _ _ _) dX5_isFenced_5 ?_
  refine r_iload_n C dX5_isFenced_6 1 1 rfl rfl ?_
  refine r_ishr C dX5_isFenced_7 ?_
  refine r_iconst (v := 1) C dX5_isFenced_8 (by decide) ?_
  refine r_iand C dX5_isFenced_9 ?_
  refine r_iconst (v := 1) C dX5_isFenced_10 (by decide) ?_
  refine r_st ?_
  refine r_ic_ne (tgt := 18) C dX5_isFenced_11 (by decide) (fun c1 => ?_) (fun c1 => ?_)
  · refine r_iconst (v := 0) C dX5_isFenced_18 (by decide) ?_
    exact r_zret C dX5_isFenced_19 (Or.inl rfl) rfl
  · refine r_iconst (v := 1) C dX5_isFenced_14 (by decide) ?_
    refine r_goto (tgt := 19) C dX5_isFenced_15 (by decide) ?_
    exact r_zret C dX5_isFenced_19 (Or.inr rfl) rfl
theorem zbX5_isFenced (σ : Nat → Int32) (x1 : Int32) : fX5_isFenced σ x1 = 0 ∨ fX5_isFenced σ x1 = 1 := by
  unfold fX5_isFenced; (repeat' split) <;> first | exact Or.inl rfl | exact Or.inr rfl
theorem mX5_isFenced (l : Launch) {Z : Zt} (hZ : Zok 2 Z) (M0 : Mi) (N : Ml) (σ : Nat → Int32) (x1 : Int32) : Ct 2 Z l yX5_isFenced cX5_isFenced 2 (some .boolean) 0 [.ref (zA Z 6 0), .int x1] (sR M0 0 σ) N (some (Value.int (fX5_isFenced σ x1)), sR M0 0 σ, N) :=
  metG (fin := (finX5_isFenced M0 σ N)) (by decide) (Nat.le_of_ble_eq_true rfl) (fun E _ C => bX5_isFenced C x1) rfl
theorem dX5_fences_0 : decode cX5_fences 0 = .ok (.aload_n 0, 1) := by decide +kernel
theorem dX5_fences_1 : decode cX5_fences 1 = .ok (.getfield 7, 3) := by decide +kernel
theorem dX5_fences_4 : decode cX5_fences 4 = .ok (.iconst 2, 1) := by decide +kernel
theorem dX5_fences_5 : decode cX5_fences 5 = .ok (.aload_n 0, 1) := by decide +kernel
theorem dX5_fences_6 : decode cX5_fences 6 = .ok (.getfield 7, 3) := by decide +kernel
theorem dX5_fences_9 : decode cX5_fences 9 = .ok (.iconst 2, 1) := by decide +kernel
theorem dX5_fences_10 : decode cX5_fences 10 = .ok (.iaload, 1) := by decide +kernel
theorem dX5_fences_11 : decode cX5_fences 11 = .ok (.iconst 1, 1) := by decide +kernel
theorem dX5_fences_12 : decode cX5_fences 12 = .ok (.iload_n 1, 1) := by decide +kernel
theorem dX5_fences_13 : decode cX5_fences 13 = .ok (.ishl, 1) := by decide +kernel
theorem dX5_fences_14 : decode cX5_fences 14 = .ok (.iconst (-1), 1) := by decide +kernel
theorem dX5_fences_15 : decode cX5_fences 15 = .ok (.ixor, 1) := by decide +kernel
theorem dX5_fences_16 : decode cX5_fences 16 = .ok (.iand, 1) := by decide +kernel
theorem dX5_fences_17 : decode cX5_fences 17 = .ok (.iload_n 2, 1) := by decide +kernel
theorem dX5_fences_18 : decode cX5_fences 18 = .ok (.iload_n 1, 1) := by decide +kernel
theorem dX5_fences_19 : decode cX5_fences 19 = .ok (.ishl, 1) := by decide +kernel
theorem dX5_fences_20 : decode cX5_fences 20 = .ok (.ior, 1) := by decide +kernel
theorem dX5_fences_21 : decode cX5_fences 21 = .ok (.iastore, 1) := by decide +kernel
theorem dX5_fences_22 : decode cX5_fences 22 = .ok (.return_, 1) := by decide +kernel
def finX5_fences (M0 : Mi) (N : Ml) : (Nat → Int32) → Option Value × Mi × Ml := fun b => (none, sR M0 0 (b), N)
noncomputable def fX5_fences   (σ : Nat → Int32) (x1 : Int32) (x2 : Int32) : Option ((Nat → Int32)) := (some (upd σ 2 (((σ 2) &&& ((1 <<< (x1 &&& 31)) ^^^ (-1))) ||| (x2 <<< (x1 &&& 31)))))
theorem bX5_fences {Z : Zt} {E : Ec} {M0 : Mi} {N : Ml} (C : Ok 2 Z E cX5_fences 3 RX5 none 0)    (σ : Nat → Int32) (x1 : Int32) (x2 : Int32)  : GT Z E 3 (finX5_fences M0 N) 0 [(0, .ref (zA Z 6 0)), (1, .int x1), (2, .int x2)] [] (sR M0 0 σ) N (fX5_fences σ x1 x2) := by
  unfold fX5_fences
  refine r_aload_n C dX5_fences_0 0 0 rfl rfl ?_
  refine gf_X5_7 C dX5_fences_1 ?_
  refine r_iconst (v := 2) C dX5_fences_4 (by decide) ?_
  refine r_aload_n C dX5_fences_5 0 0 rfl rfl ?_
  refine gf_X5_7 C dX5_fences_6 ?_
  refine r_iconst (v := 2) C dX5_fences_9 (by decide) ?_
  refine ald_M (v := (σ 2)) C mI_0 (by decide) (sR_at _ _ _ _) dX5_fences_10 ?_
  refine r_iconst (v := 1) C dX5_fences_11 (by decide) ?_
  refine r_iload_n C dX5_fences_12 1 1 rfl rfl ?_
  refine r_ishl C dX5_fences_13 ?_
  refine r_iconst (v := (-1)) C dX5_fences_14 (by decide) ?_
  refine r_ixor C dX5_fences_15 ?_
  refine r_iand C dX5_fences_16 ?_
  refine r_iload_n C dX5_fences_17 2 2 rfl rfl ?_
  refine r_iload_n C dX5_fences_18 1 1 rfl rfl ?_
  refine r_ishl C dX5_fences_19 ?_
  refine r_ior C dX5_fences_20 ?_
  refine ast_M (M' := (sR M0 0 (upd σ 2 (((σ 2) &&& ((1 <<< (x1 &&& 31)) ^^^ (-1))) ||| (x2 <<< (x1 &&& 31)))))) C mI_0 (by decide) (wM_sR _ _ _ _ _) dX5_fences_21 ?_
  exact r_vret C dX5_fences_22 rfl
theorem mX5_fences (l : Launch) {Z : Zt} (hZ : Zok 2 Z) (M0 : Mi) (N : Ml) (σ : Nat → Int32) (x1 : Int32) (x2 : Int32) (b : (Nat → Int32)) (hb : fX5_fences σ x1 x2 = some b) : Ct 2 Z l yX5_fences cX5_fences 3 none 0 [.ref (zA Z 6 0), .int x1, .int x2] (sR M0 0 σ) N (none, sR M0 0 (b), N) :=
  metG (fin := (finX5_fences M0 N)) (by decide) (Nat.le_of_ble_eq_true rfl) (fun E _ C => bX5_fences C σ x1 x2) hb
theorem dX5_fence_0 : decode cX5_fence 0 = .ok (.iload_n 1, 1) := by decide +kernel
theorem dX5_fence_1 : decode cX5_fence 1 = .ok (.invokestatic 62, 3) := by decide +kernel
theorem dX5_fence_4 : decode cX5_fence 4 = .ok (.ifCond .eq 13, 3) := by decide +kernel
theorem dX5_fence_7 : decode cX5_fence 7 = .ok (.iload_n 2, 1) := by decide +kernel
theorem dX5_fence_8 : decode cX5_fence 8 = .ok (.i2l, 1) := by decide +kernel
theorem dX5_fence_9 : decode cX5_fence 9 = .ok (.lconst 0, 1) := by decide +kernel
theorem dX5_fence_10 : decode cX5_fence 10 = .ok (.lconst 1, 1) := by decide +kernel
theorem dX5_fence_11 : decode cX5_fence 11 = .ok (.invokestatic 44, 3) := by decide +kernel
theorem dX5_fence_14 : decode cX5_fence 14 = .ok (.ifCond .ne 10, 3) := by decide +kernel
theorem dX5_fence_17 : decode cX5_fence 17 = .ok (.aload_n 0, 1) := by decide +kernel
theorem dX5_fence_18 : decode cX5_fence 18 = .ok (.ldc 41, 2) := by decide +kernel
theorem dX5_fence_20 : decode cX5_fence 20 = .ok (.invokevirtual 65, 3) := by decide +kernel
theorem dX5_fence_23 : decode cX5_fence 23 = .ok (.ireturn, 1) := by decide +kernel
theorem dX5_fence_24 : decode cX5_fence 24 = .ok (.aload_n 0, 1) := by decide +kernel
theorem dX5_fence_25 : decode cX5_fence 25 = .ok (.iload_n 1, 1) := by decide +kernel
theorem dX5_fence_26 : decode cX5_fence 26 = .ok (.invokevirtual 69, 3) := by decide +kernel
theorem dX5_fence_29 : decode cX5_fence 29 = .ok (.ifCond .eq 7, 3) := by decide +kernel
theorem dX5_fence_32 : decode cX5_fence 32 = .ok (.iconst 1, 1) := by decide +kernel
theorem dX5_fence_33 : decode cX5_fence 33 = .ok (.goto 4, 3) := by decide +kernel
theorem dX5_fence_36 : decode cX5_fence 36 = .ok (.iconst 0, 1) := by decide +kernel
theorem dX5_fence_37 : decode cX5_fence 37 = .ok (.istore_n 3, 1) := by decide +kernel
theorem dX5_fence_38 : decode cX5_fence 38 = .ok (.aload_n 0, 1) := by decide +kernel
theorem dX5_fence_39 : decode cX5_fence 39 = .ok (.iload_n 1, 1) := by decide +kernel
theorem dX5_fence_40 : decode cX5_fence 40 = .ok (.iload_n 2, 1) := by decide +kernel
theorem dX5_fence_41 : decode cX5_fence 41 = .ok (.invokevirtual 72, 3) := by decide +kernel
theorem dX5_fence_44 : decode cX5_fence 44 = .ok (.iload_n 3, 1) := by decide +kernel
theorem dX5_fence_45 : decode cX5_fence 45 = .ok (.ireturn, 1) := by decide +kernel
def finX5_fence (N : Ml) : Int32 × Mi → Option Value × Mi × Ml := fun b => (some (Value.int b.1), b.2, N)
noncomputable def fX5_fence_17   (M : Mi) : Option (Int32 × Mi) := (Option.bind (fX5_finds M (-1000000001)) (fun a2 => (some (a2.1, (a2.2)))))
theorem bX5_fence_17 {Z : Zt} {E : Ec} {N : Ml} (C : Ok 2 Z E cX5_fence 4 RX5 (some .int) 2)    (M : Mi)  : GT Z E 4 (finX5_fence N) 17 [(0, .ref (zA Z 6 0))] [] M N (fX5_fence_17 M) := by
  unfold fX5_fence_17
  refine r_aload_n C dX5_fence_17 0 0 rfl rfl ?_
  refine r_ldc (v := (-1000000001)) C dX5_fence_18 wd_859 ?_
  refine r_bind (fun a2 ha2 => ?_)
  refine r_callV (rest := []) (st2 := [.int a2.1]) C (mX5_finds (eL E) C.z M N (-1000000001) a2 ha2) lk_X5_65 (rvM C) (by decide) rfl rfl (Nat.le_of_ble_eq_true rfl) dX5_fence_20 rfl ?_
  exact r_iret C dX5_fence_23 rfl
noncomputable def fX5_fence_37   (M : Mi) (x1 : Int32) (x2 : Int32) (s0 : Int32) : Option (Int32 × Mi) := (Option.bind (fX5_fences (M 0) x1 x2) (fun a6 => (some (s0, (sR M 0 a6)))))
theorem bX5_fence_37 {Z : Zt} {E : Ec} {N : Ml} (C : Ok 2 Z E cX5_fence 4 RX5 (some .int) 2)    (M : Mi) (x1 : Int32) (x2 : Int32) (s0 : Int32)  : GT Z E 4 (finX5_fence N) 37 [(0, .ref (zA Z 6 0)), (1, .int x1), (2, .int x2)] [.int s0] M N (fX5_fence_37 M x1 x2 s0) := by
  unfold fX5_fence_37
  refine r_istore_n (lv' := [(3, .int s0), (0, .ref (zA Z 6 0)), (1, .int x1), (2, .int x2)]) C dX5_fence_37 3 rfl (by decide) rfl ?_
  refine r_aload_n C dX5_fence_38 0 1 rfl rfl ?_
  refine r_iload_n C dX5_fence_39 1 2 rfl rfl ?_
  refine r_iload_n C dX5_fence_40 2 3 rfl rfl ?_
  refine r_bind (fun a6 ha6 => ?_)
  refine r_callV (rest := []) (st2 := []) C (mX5_fences (eL E) C.z M _ (M 0) x1 x2 a6 ha6).selfW lk_X5_72 (rvM C) (by decide) rfl rfl (Nat.le_of_ble_eq_true rfl) dX5_fence_41 rfl ?_
  refine r_iload_n C dX5_fence_44 3 0 rfl rfl ?_
  exact r_iret C dX5_fence_45 rfl
noncomputable def fX5_fence   (M : Mi) (x1 : Int32) (x2 : Int32) : Option (Int32 × Mi) := (if (fX5_isCell x1) = 0 then (fX5_fence_17 M) else (if (fX5_in (Int32.toInt64 x2) 0 1) = 0 then (fX5_fence_17 M) else (fX5_fence_37 M x1 x2 (if (fX5_isFenced (M 0) x1) = 0 then 0 else 1 : Int32))))
theorem bX5_fence {Z : Zt} {E : Ec} {N : Ml} (C : Ok 2 Z E cX5_fence 4 RX5 (some .int) 2)    (M : Mi) (x1 : Int32) (x2 : Int32)  : GT Z E 4 (finX5_fence N) 0 [(0, .ref (zA Z 6 0)), (1, .int x1), (2, .int x2)] [] M N (fX5_fence M x1 x2) := by
  unfold fX5_fence
  refine r_iload_n C dX5_fence_0 1 1 rfl rfl ?_
  refine r_callS (rest := []) (st2 := [.int (fX5_isCell x1)]) C (mX5_isCell (eL E) C.z _ _ x1) lk_X5_62 (by decide) rfl rfl (Nat.le_of_ble_eq_true rfl) dX5_fence_1 rfl ?_
  refine r_if_eq (tgt := 17) C dX5_fence_4 (by decide) (fun c1 => ?_) (fun c1 => ?_)
  · refine r_lv [0] (lv' := [(0, .ref (zA Z 6 0))]) rfl ?_
    exact bX5_fence_17 C M
  · refine r_iload_n C dX5_fence_7 2 2 rfl rfl ?_
    refine r_i2l C dX5_fence_8 ?_
    refine r_lconst (v := 0) C dX5_fence_9 (by decide) ?_
    refine r_lconst (v := 1) C dX5_fence_10 (by decide) ?_
    refine r_callS (rest := []) (st2 := [.int (fX5_in (Int32.toInt64 x2) 0 1)]) C (mX5_in (eL E) C.z _ _ (Int32.toInt64 x2) 0 1) lk_X5_44 (by decide) rfl rfl (Nat.le_of_ble_eq_true rfl) dX5_fence_11 rfl ?_
    refine r_if_ne (tgt := 24) C dX5_fence_14 (by decide) (fun c3 => ?_) (fun c3 => ?_)
    · refine r_aload_n C dX5_fence_24 0 0 rfl rfl ?_
      refine r_iload_n C dX5_fence_25 1 1 rfl rfl ?_
      refine r_callV (rest := []) (st2 := [.int (fX5_isFenced (M 0) x1)]) C (mX5_isFenced (eL E) C.z M _ (M 0) x1).selfR lk_X5_69 (rvM C) (by decide) rfl rfl (Nat.le_of_ble_eq_true rfl) dX5_fence_26 rfl ?_
      refine r_sel (tj := 37) (sj := [.int (if (fX5_isFenced (M 0) x1) = 0 then 0 else 1 : Int32)]) ?_ (fun k5 => ?_)
      · exact bX5_fence_37 C M x1 x2 (if (fX5_isFenced (M 0) x1) = 0 then 0 else 1 : Int32)
      · refine r_same (P := (fX5_isFenced (M 0) x1) = 0) ?_
        refine r_if_eq (tgt := 36) C dX5_fence_29 (by decide) (fun c4 => ?_) (fun c4 => ?_)
        · refine r_iconst (v := 0) C dX5_fence_36 (by decide) ?_
          exact r_stk (if_pos c4) k5
        · refine r_iconst (v := 1) C dX5_fence_32 (by decide) ?_
          refine r_goto (tgt := 37) C dX5_fence_33 (by decide) ?_
          exact r_stk (if_neg c4) k5
    · refine r_lv [0] (lv' := [(0, .ref (zA Z 6 0))]) rfl ?_
      exact bX5_fence_17 C M
theorem mX5_fence (l : Launch) {Z : Zt} (hZ : Zok 2 Z) (M : Mi) (N : Ml) (x1 : Int32) (x2 : Int32) (b : Int32 × Mi) (hb : fX5_fence M x1 x2 = some b) : Ct 2 Z l yX5_fence cX5_fence 4 (some .int) 2 [.ref (zA Z 6 0), .int x1, .int x2] M N (some (Value.int b.1), b.2, N) :=
  metG (fin := (finX5_fence N)) (by decide) (Nat.le_of_ble_eq_true rfl) (fun E _ C => bX5_fence C M x1 x2) hb
theorem dX5_spot_0 : decode cX5_spot 0 = .ok (.iload_n 1, 1) := by decide +kernel
theorem dX5_spot_1 : decode cX5_spot 1 = .ok (.i2l, 1) := by decide +kernel
theorem dX5_spot_2 : decode cX5_spot 2 = .ok (.lconst 0, 1) := by decide +kernel
theorem dX5_spot_3 : decode cX5_spot 3 = .ok (.ldc2_w 76, 3) := by decide +kernel
theorem dX5_spot_6 : decode cX5_spot 6 = .ok (.invokestatic 44, 3) := by decide +kernel
theorem dX5_spot_9 : decode cX5_spot 9 = .ok (.ifCond .eq 21, 3) := by decide +kernel
theorem dX5_spot_12 : decode cX5_spot 12 = .ok (.iload_n 2, 1) := by decide +kernel
theorem dX5_spot_13 : decode cX5_spot 13 = .ok (.invokestatic 62, 3) := by decide +kernel
theorem dX5_spot_16 : decode cX5_spot 16 = .ok (.ifCond .eq 14, 3) := by decide +kernel
theorem dX5_spot_19 : decode cX5_spot 19 = .ok (.aload_n 0, 1) := by decide +kernel
theorem dX5_spot_20 : decode cX5_spot 20 = .ok (.iconst 3, 1) := by decide +kernel
theorem dX5_spot_21 : decode cX5_spot 21 = .ok (.iload_n 1, 1) := by decide +kernel
theorem dX5_spot_22 : decode cX5_spot 22 = .ok (.iadd, 1) := by decide +kernel
theorem dX5_spot_23 : decode cX5_spot 23 = .ok (.iload_n 2, 1) := by decide +kernel
theorem dX5_spot_24 : decode cX5_spot 24 = .ok (.invokevirtual 78, 3) := by decide +kernel
theorem dX5_spot_27 : decode cX5_spot 27 = .ok (.goto 9, 3) := by decide +kernel
theorem dX5_spot_30 : decode cX5_spot 30 = .ok (.aload_n 0, 1) := by decide +kernel
theorem dX5_spot_31 : decode cX5_spot 31 = .ok (.ldc 41, 2) := by decide +kernel
theorem dX5_spot_33 : decode cX5_spot 33 = .ok (.invokevirtual 65, 3) := by decide +kernel
theorem dX5_spot_36 : decode cX5_spot 36 = .ok (.ireturn, 1) := by decide +kernel
def finX5_spot (N : Ml) : Int32 × Mi → Option Value × Mi × Ml := fun b => (some (Value.int b.1), b.2, N)
noncomputable def fX5_spot_30   (M : Mi) : Option (Int32 × Mi) := (Option.bind (fX5_finds M (-1000000001)) (fun a2 => (some (a2.1, (a2.2)))))
theorem bX5_spot_30 {Z : Zt} {E : Ec} {N : Ml} (C : Ok 2 Z E cX5_spot 3 RX5 (some .int) 2)    (M : Mi)  : GT Z E 3 (finX5_spot N) 30 [(0, .ref (zA Z 6 0))] [] M N (fX5_spot_30 M) := by
  unfold fX5_spot_30
  refine r_aload_n C dX5_spot_30 0 0 rfl rfl ?_
  refine r_ldc (v := (-1000000001)) C dX5_spot_31 wd_859 ?_
  refine r_bind (fun a2 ha2 => ?_)
  refine r_callV (rest := []) (st2 := [.int a2.1]) C (mX5_finds (eL E) C.z M N (-1000000001) a2 ha2) lk_X5_65 (rvM C) (by decide) rfl rfl (Nat.le_of_ble_eq_true rfl) dX5_spot_33 rfl ?_
  exact r_iret C dX5_spot_36 rfl
noncomputable def fX5_spot   (M : Mi) (x1 : Int32) (x2 : Int32) : Option (Int32 × Mi) := (if (fX5_in (Int32.toInt64 x1) 0 2) = 0 then (fX5_spot_30 M) else (if (fX5_isCell x2) = 0 then (fX5_spot_30 M) else (Option.bind (fX5_becomes (M 0) (3 + x1) x2) (fun a4 => (some (a4.1, (sR M 0 (a4.2))))))))
theorem bX5_spot {Z : Zt} {E : Ec} {N : Ml} (C : Ok 2 Z E cX5_spot 3 RX5 (some .int) 2)    (M : Mi) (x1 : Int32) (x2 : Int32)  : GT Z E 3 (finX5_spot N) 0 [(0, .ref (zA Z 6 0)), (1, .int x1), (2, .int x2)] [] M N (fX5_spot M x1 x2) := by
  unfold fX5_spot
  refine r_iload_n C dX5_spot_0 1 1 rfl rfl ?_
  refine r_i2l C dX5_spot_1 ?_
  refine r_lconst (v := 0) C dX5_spot_2 (by decide) ?_
  refine r_ldc2 (v := 2) C dX5_spot_3 wd_876 ?_
  refine r_callS (rest := []) (st2 := [.int (fX5_in (Int32.toInt64 x1) 0 2)]) C (mX5_in (eL E) C.z _ _ (Int32.toInt64 x1) 0 2) lk_X5_44 (by decide) rfl rfl (Nat.le_of_ble_eq_true rfl) dX5_spot_6 rfl ?_
  refine r_if_eq (tgt := 30) C dX5_spot_9 (by decide) (fun c1 => ?_) (fun c1 => ?_)
  · refine r_lv [0] (lv' := [(0, .ref (zA Z 6 0))]) rfl ?_
    exact bX5_spot_30 C M
  · refine r_iload_n C dX5_spot_12 2 2 rfl rfl ?_
    refine r_callS (rest := []) (st2 := [.int (fX5_isCell x2)]) C (mX5_isCell (eL E) C.z _ _ x2) lk_X5_62 (by decide) rfl rfl (Nat.le_of_ble_eq_true rfl) dX5_spot_13 rfl ?_
    refine r_if_eq (tgt := 30) C dX5_spot_16 (by decide) (fun c3 => ?_) (fun c3 => ?_)
    · refine r_lv [0] (lv' := [(0, .ref (zA Z 6 0))]) rfl ?_
      exact bX5_spot_30 C M
    · refine r_aload_n C dX5_spot_19 0 0 rfl rfl ?_
      refine r_iconst (v := 3) C dX5_spot_20 (by decide) ?_
      refine r_iload_n C dX5_spot_21 1 1 rfl rfl ?_
      refine r_iadd C dX5_spot_22 ?_
      refine r_iload_n C dX5_spot_23 2 2 rfl rfl ?_
      refine r_bind (fun a4 ha4 => ?_)
      refine r_callV (rest := []) (st2 := [.int a4.1]) C (mX5_becomes (eL E) C.z M _ (M 0) (3 + x1) x2 a4 ha4).selfW lk_X5_78 (rvM C) (by decide) rfl rfl (Nat.le_of_ble_eq_true rfl) dX5_spot_24 rfl ?_
      refine r_goto (tgt := 36) C dX5_spot_27 (by decide) ?_
      exact r_iret C dX5_spot_36 rfl
theorem mX5_spot (l : Launch) {Z : Zt} (hZ : Zok 2 Z) (M : Mi) (N : Ml) (x1 : Int32) (x2 : Int32) (b : Int32 × Mi) (hb : fX5_spot M x1 x2 = some b) : Ct 2 Z l yX5_spot cX5_spot 3 (some .int) 2 [.ref (zA Z 6 0), .int x1, .int x2] M N (some (Value.int b.1), b.2, N) :=
  metG (fin := (finX5_spot N)) (by decide) (Nat.le_of_ble_eq_true rfl) (fun E _ C => bX5_spot C M x1 x2) hb
theorem dX5_rain_0 : decode cX5_rain 0 = .ok (.iload_n 1, 1) := by decide +kernel
theorem dX5_rain_1 : decode cX5_rain 1 = .ok (.i2l, 1) := by decide +kernel
theorem dX5_rain_2 : decode cX5_rain 2 = .ok (.lconst 0, 1) := by decide +kernel
theorem dX5_rain_3 : decode cX5_rain 3 = .ok (.ldc2_w 81, 3) := by decide +kernel
theorem dX5_rain_6 : decode cX5_rain 6 = .ok (.invokestatic 44, 3) := by decide +kernel
theorem dX5_rain_9 : decode cX5_rain 9 = .ok (.ifCond .eq 13, 3) := by decide +kernel
theorem dX5_rain_12 : decode cX5_rain 12 = .ok (.aload_n 0, 1) := by decide +kernel
theorem dX5_rain_13 : decode cX5_rain 13 = .ok (.bipush 6, 2) := by decide +kernel
theorem dX5_rain_15 : decode cX5_rain 15 = .ok (.iload_n 1, 1) := by decide +kernel
theorem dX5_rain_16 : decode cX5_rain 16 = .ok (.invokevirtual 78, 3) := by decide +kernel
theorem dX5_rain_19 : decode cX5_rain 19 = .ok (.goto 9, 3) := by decide +kernel
theorem dX5_rain_22 : decode cX5_rain 22 = .ok (.aload_n 0, 1) := by decide +kernel
theorem dX5_rain_23 : decode cX5_rain 23 = .ok (.ldc 41, 2) := by decide +kernel
theorem dX5_rain_25 : decode cX5_rain 25 = .ok (.invokevirtual 65, 3) := by decide +kernel
theorem dX5_rain_28 : decode cX5_rain 28 = .ok (.ireturn, 1) := by decide +kernel
def finX5_rain (N : Ml) : Int32 × Mi → Option Value × Mi × Ml := fun b => (some (Value.int b.1), b.2, N)
noncomputable def fX5_rain   (M : Mi) (x1 : Int32) : Option (Int32 × Mi) := (if (fX5_in (Int32.toInt64 x1) 0 16777215) = 0 then (Option.bind (fX5_finds M (-1000000001)) (fun a2 => (some (a2.1, (a2.2))))) else (Option.bind (fX5_becomes (M 0) 6 x1) (fun a3 => (some (a3.1, (sR M 0 (a3.2)))))))
theorem bX5_rain {Z : Zt} {E : Ec} {N : Ml} (C : Ok 2 Z E cX5_rain 2 RX5 (some .int) 1)    (M : Mi) (x1 : Int32)  : GT Z E 2 (finX5_rain N) 0 [(0, .ref (zA Z 6 0)), (1, .int x1)] [] M N (fX5_rain M x1) := by
  unfold fX5_rain
  refine r_iload_n C dX5_rain_0 1 1 rfl rfl ?_
  refine r_i2l C dX5_rain_1 ?_
  refine r_lconst (v := 0) C dX5_rain_2 (by decide) ?_
  refine r_ldc2 (v := 16777215) C dX5_rain_3 wd_885 ?_
  refine r_callS (rest := []) (st2 := [.int (fX5_in (Int32.toInt64 x1) 0 16777215)]) C (mX5_in (eL E) C.z _ _ (Int32.toInt64 x1) 0 16777215) lk_X5_44 (by decide) rfl rfl (Nat.le_of_ble_eq_true rfl) dX5_rain_6 rfl ?_
  refine r_if_eq (tgt := 22) C dX5_rain_9 (by decide) (fun c1 => ?_) (fun c1 => ?_)
  · refine r_aload_n C dX5_rain_22 0 0 rfl rfl ?_
    refine r_ldc (v := (-1000000001)) C dX5_rain_23 wd_859 ?_
    refine r_bind (fun a2 ha2 => ?_)
    refine r_callV (rest := []) (st2 := [.int a2.1]) C (mX5_finds (eL E) C.z M N (-1000000001) a2 ha2) lk_X5_65 (rvM C) (by decide) rfl rfl (Nat.le_of_ble_eq_true rfl) dX5_rain_25 rfl ?_
    exact r_iret C dX5_rain_28 rfl
  · refine r_aload_n C dX5_rain_12 0 0 rfl rfl ?_
    refine r_bipush (v := 6) C dX5_rain_13 (by decide) ?_
    refine r_iload_n C dX5_rain_15 1 1 rfl rfl ?_
    refine r_bind (fun a3 ha3 => ?_)
    refine r_callV (rest := []) (st2 := [.int a3.1]) C (mX5_becomes (eL E) C.z M _ (M 0) 6 x1 a3 ha3).selfW lk_X5_78 (rvM C) (by decide) rfl rfl (Nat.le_of_ble_eq_true rfl) dX5_rain_16 rfl ?_
    refine r_goto (tgt := 28) C dX5_rain_19 (by decide) ?_
    exact r_iret C dX5_rain_28 rfl
theorem mX5_rain (l : Launch) {Z : Zt} (hZ : Zok 2 Z) (M : Mi) (N : Ml) (x1 : Int32) (b : Int32 × Mi) (hb : fX5_rain M x1 = some b) : Ct 2 Z l yX5_rain cX5_rain 2 (some .int) 1 [.ref (zA Z 6 0), .int x1] M N (some (Value.int b.1), b.2, N) :=
  metG (fin := (finX5_rain N)) (by decide) (Nat.le_of_ble_eq_true rfl) (fun E _ C => bX5_rain C M x1) hb
theorem dX5_those_0 : decode cX5_those 0 = .ok (.iconst 0, 1) := by decide +kernel
theorem dX5_those_1 : decode cX5_those 1 = .ok (.istore_n 2, 1) := by decide +kernel
theorem dX5_those_2 : decode cX5_those 2 = .ok (.iconst 0, 1) := by decide +kernel
theorem dX5_those_3 : decode cX5_those 3 = .ok (.istore_n 3, 1) := by decide +kernel
theorem dX5_those_4 : decode cX5_those 4 = .ok (.iload_n 3, 1) := by decide +kernel
theorem dX5_those_5 : decode cX5_those 5 = .ok (.aload_n 0, 1) := by decide +kernel
theorem dX5_those_6 : decode cX5_those 6 = .ok (.getfield 7, 3) := by decide +kernel
theorem dX5_those_9 : decode cX5_those 9 = .ok (.iconst 1, 1) := by decide +kernel
theorem dX5_those_10 : decode cX5_those 10 = .ok (.iaload, 1) := by decide +kernel
theorem dX5_those_11 : decode cX5_those 11 = .ok (.if_icmp .ge 29, 3) := by decide +kernel
theorem dX5_those_14 : decode cX5_those 14 = .ok (.iload_n 2, 1) := by decide +kernel
theorem dX5_those_15 : decode cX5_those 15 = .ok (.aload_n 0, 1) := by decide +kernel
theorem dX5_those_16 : decode cX5_those 16 = .ok (.iload_n 3, 1) := by decide +kernel
theorem dX5_those_17 : decode cX5_those 17 = .ok (.iconst 1, 1) := by decide +kernel
theorem dX5_those_18 : decode cX5_those 18 = .ok (.invokevirtual 83, 3) := by decide +kernel
theorem dX5_those_21 : decode cX5_those 21 = .ok (.iload_n 1, 1) := by decide +kernel
theorem dX5_those_22 : decode cX5_those 22 = .ok (.if_icmp .ne 9, 3) := by decide +kernel
theorem dX5_those_25 : decode cX5_those 25 = .ok (.iconst 1, 1) := by decide +kernel
theorem dX5_those_26 : decode cX5_those 26 = .ok (.iload_n 3, 1) := by decide +kernel
theorem dX5_those_27 : decode cX5_those 27 = .ok (.ishl, 1) := by decide +kernel
theorem dX5_those_28 : decode cX5_those 28 = .ok (.goto 4, 3) := by decide +kernel
theorem dX5_those_31 : decode cX5_those 31 = .ok (.iconst 0, 1) := by decide +kernel
theorem dX5_those_32 : decode cX5_those 32 = .ok (.ior, 1) := by decide +kernel
theorem dX5_those_33 : decode cX5_those 33 = .ok (.istore_n 2, 1) := by decide +kernel
theorem dX5_those_34 : decode cX5_those 34 = .ok (.iinc 3 1, 3) := by decide +kernel
theorem dX5_those_37 : decode cX5_those 37 = .ok (.goto (-33), 3) := by decide +kernel
theorem dX5_those_40 : decode cX5_those 40 = .ok (.iload_n 2, 1) := by decide +kernel
theorem dX5_those_41 : decode cX5_those 41 = .ok (.ireturn, 1) := by decide +kernel
def finX5_those (M0 : Mi) (σ : Nat → Int32) (N : Ml) : Int32 → Option Value × Mi × Ml := fun b => (some (Value.int b), sR M0 0 σ, N)
noncomputable def fX5_those_4 (σ : Nat → Int32)  : Nat → Int32 → Int32 → Int32 → Option (Int32)
  | 0 => fun _ _ _ => none
  | n + 1 => fun x1 x2 x3 => (if (σ 1) ≤ x3 then (some x2) else (Option.bind (fX5_its σ x3 1) (fun a2 => ((fX5_those_4 σ n) x1 (x2 ||| (if a2 = x1 then (1 <<< (x3 &&& 31)) else 0 : Int32)) (x3 + 1)))))
theorem bX5_those_4 {Z : Zt} {E : Ec} {M0 : Mi} {σ : Nat → Int32} {N : Ml} (C : Ok 2 Z E cX5_those 4 RX5 (some .int) 2)    : ∀ (n : Nat) (x1 : Int32) (x2 : Int32) (x3 : Int32), GT Z E 4 (finX5_those M0 σ N) 4 [(0, .ref (zA Z 6 0)), (1, .int x1), (2, .int x2), (3, .int x3)] [] (sR M0 0 σ) N (fX5_those_4 σ n x1 x2 x3) := by
  intro n
  induction n with
  | zero => intro x1 x2 x3; exact r_none
  | succ n ih =>
    intro x1 x2 x3
    rw [fX5_those_4]
    refine r_iload_n C dX5_those_4 3 3 rfl rfl ?_
    refine r_aload_n C dX5_those_5 0 0 rfl rfl ?_
    refine gf_X5_7 C dX5_those_6 ?_
    refine r_iconst (v := 1) C dX5_those_9 (by decide) ?_
    refine ald_M (v := (σ 1)) C mI_0 (by decide) (sR_at _ _ _ _) dX5_those_10 ?_
    refine r_ic_ge (tgt := 40) C dX5_those_11 (by decide) (fun c1 => ?_) (fun c1 => ?_)
    · refine r_iload_n C dX5_those_40 2 2 rfl rfl ?_
      exact r_iret C dX5_those_41 rfl
    · refine r_iload_n C dX5_those_14 2 2 rfl rfl ?_
      refine r_aload_n C dX5_those_15 0 0 rfl rfl ?_
      refine r_iload_n C dX5_those_16 3 3 rfl rfl ?_
      refine r_iconst (v := 1) C dX5_those_17 (by decide) ?_
      refine r_bind (fun a2 ha2 => ?_)
      refine r_callV (rest := [.int x2]) (st2 := [.int a2, .int x2]) C (mX5_its (eL E) C.z _ _ σ x3 1 a2 ha2) lk_X5_83 (rvM C) (by decide) rfl rfl (Nat.le_of_ble_eq_true rfl) dX5_those_18 rfl ?_
      refine r_iload_n C dX5_those_21 1 1 rfl rfl ?_
      refine r_sel (tj := 32) (sj := [.int (if a2 = x1 then (1 <<< (x3 &&& 31)) else 0 : Int32), .int x2]) ?_ (fun k4 => ?_)
      · refine r_ior C dX5_those_32 ?_
        refine r_istore_n (lv' := [(2, .int (x2 ||| (if a2 = x1 then (1 <<< (x3 &&& 31)) else 0 : Int32))), (0, .ref (zA Z 6 0)), (1, .int x1), (3, .int x3)]) C dX5_those_33 2 rfl (by decide) rfl ?_
        refine r_iinc (v := (x3 + 1)) (lv' := [(3, .int (x3 + 1)), (2, .int (x2 ||| (if a2 = x1 then (1 <<< (x3 &&& 31)) else 0 : Int32))), (0, .ref (zA Z 6 0)), (1, .int x1)]) C dX5_those_34 3 rfl rfl (by decide) rfl ?_
        refine r_goto (tgt := 4) C dX5_those_37 (by decide) ?_
        refine r_lv [2, 3, 1, 0] (lv' := [(0, .ref (zA Z 6 0)), (1, .int x1), (2, .int (x2 ||| (if a2 = x1 then (1 <<< (x3 &&& 31)) else 0 : Int32))), (3, .int (x3 + 1))]) rfl ?_
        exact ih x1 (x2 ||| (if a2 = x1 then (1 <<< (x3 &&& 31)) else 0 : Int32)) (x3 + 1)
      · refine r_same (P := a2 = x1) ?_
        refine r_ic_ne (tgt := 31) C dX5_those_22 (by decide) (fun c3 => ?_) (fun c3 => ?_)
        · refine r_iconst (v := 0) C dX5_those_31 (by decide) ?_
          exact r_stk (if_neg c3) k4
        · refine r_iconst (v := 1) C dX5_those_25 (by decide) ?_
          refine r_iload_n C dX5_those_26 3 3 rfl rfl ?_
          refine r_ishl C dX5_those_27 ?_
          refine r_goto (tgt := 32) C dX5_those_28 (by decide) ?_
          exact r_stk (if_pos c3) k4
noncomputable def fX5_those (σ : Nat → Int32)  (x1 : Int32) : Option (Int32) := (fX5_those_4 σ fu x1 0 0)
theorem bX5_those {Z : Zt} {E : Ec} {M0 : Mi} {σ : Nat → Int32} {N : Ml} (C : Ok 2 Z E cX5_those 4 RX5 (some .int) 2)    (x1 : Int32)  : GT Z E 4 (finX5_those M0 σ N) 0 [(0, .ref (zA Z 6 0)), (1, .int x1)] [] (sR M0 0 σ) N (fX5_those σ x1) := by
  unfold fX5_those
  refine r_iconst (v := 0) C dX5_those_0 (by decide) ?_
  refine r_istore_n (lv' := [(2, .int 0), (0, .ref (zA Z 6 0)), (1, .int x1)]) C dX5_those_1 2 rfl (by decide) rfl ?_
  refine r_iconst (v := 0) C dX5_those_2 (by decide) ?_
  refine r_istore_n (lv' := [(3, .int 0), (2, .int 0), (0, .ref (zA Z 6 0)), (1, .int x1)]) C dX5_those_3 3 rfl (by decide) rfl ?_
  refine r_lv [2, 3, 1, 0] (lv' := [(0, .ref (zA Z 6 0)), (1, .int x1), (2, .int 0), (3, .int 0)]) rfl ?_
  exact bX5_those_4 C fu x1 0 0
theorem mX5_those (l : Launch) {Z : Zt} (hZ : Zok 2 Z) (M0 : Mi) (N : Ml) (σ : Nat → Int32) (x1 : Int32) (b : Int32) (hb : fX5_those σ x1 = some b) : Ct 2 Z l yX5_those cX5_those 4 (some .int) 2 [.ref (zA Z 6 0), .int x1] (sR M0 0 σ) N (some (Value.int b), sR M0 0 σ, N) :=
  metG (fin := (finX5_those M0 σ N)) (by decide) (Nat.le_of_ble_eq_true rfl) (fun E _ C => bX5_those C x1) hb
theorem dX5_booksIn_0 : decode cX5_booksIn 0 = .ok (.iconst 0, 1) := by decide +kernel
theorem dX5_booksIn_1 : decode cX5_booksIn 1 = .ok (.istore_n 2, 1) := by decide +kernel
theorem dX5_booksIn_2 : decode cX5_booksIn 2 = .ok (.iconst 0, 1) := by decide +kernel
theorem dX5_booksIn_3 : decode cX5_booksIn 3 = .ok (.istore_n 3, 1) := by decide +kernel
theorem dX5_booksIn_4 : decode cX5_booksIn 4 = .ok (.iload_n 3, 1) := by decide +kernel
theorem dX5_booksIn_5 : decode cX5_booksIn 5 = .ok (.aload_n 0, 1) := by decide +kernel
theorem dX5_booksIn_6 : decode cX5_booksIn 6 = .ok (.getfield 7, 3) := by decide +kernel
theorem dX5_booksIn_9 : decode cX5_booksIn 9 = .ok (.iconst 1, 1) := by decide +kernel
theorem dX5_booksIn_10 : decode cX5_booksIn 10 = .ok (.iaload, 1) := by decide +kernel
theorem dX5_booksIn_11 : decode cX5_booksIn 11 = .ok (.if_icmp .ge 32, 3) := by decide +kernel
theorem dX5_booksIn_14 : decode cX5_booksIn 14 = .ok (.iload_n 2, 1) := by decide +kernel
theorem dX5_booksIn_15 : decode cX5_booksIn 15 = .ok (.aload_n 0, 1) := by decide +kernel
theorem dX5_booksIn_16 : decode cX5_booksIn 16 = .ok (.iload_n 3, 1) := by decide +kernel
theorem dX5_booksIn_17 : decode cX5_booksIn 17 = .ok (.iconst 1, 1) := by decide +kernel
theorem dX5_booksIn_18 : decode cX5_booksIn 18 = .ok (.invokevirtual 83, 3) := by decide +kernel
theorem dX5_booksIn_21 : decode cX5_booksIn 21 = .ok (.iload_n 1, 1) := by decide +kernel
theorem dX5_booksIn_22 : decode cX5_booksIn 22 = .ok (.if_icmp .ne 12, 3) := by decide +kernel
theorem dX5_booksIn_25 : decode cX5_booksIn 25 = .ok (.aload_n 0, 1) := by decide +kernel
theorem dX5_booksIn_26 : decode cX5_booksIn 26 = .ok (.iload_n 3, 1) := by decide +kernel
theorem dX5_booksIn_27 : decode cX5_booksIn 27 = .ok (.iconst 2, 1) := by decide +kernel
theorem dX5_booksIn_28 : decode cX5_booksIn 28 = .ok (.invokevirtual 83, 3) := by decide +kernel
theorem dX5_booksIn_31 : decode cX5_booksIn 31 = .ok (.goto 4, 3) := by decide +kernel
theorem dX5_booksIn_34 : decode cX5_booksIn 34 = .ok (.iconst 0, 1) := by decide +kernel
theorem dX5_booksIn_35 : decode cX5_booksIn 35 = .ok (.ior, 1) := by decide +kernel
theorem dX5_booksIn_36 : decode cX5_booksIn 36 = .ok (.istore_n 2, 1) := by decide +kernel
theorem dX5_booksIn_37 : decode cX5_booksIn 37 = .ok (.iinc 3 1, 3) := by decide +kernel
theorem dX5_booksIn_40 : decode cX5_booksIn 40 = .ok (.goto (-36), 3) := by decide +kernel
theorem dX5_booksIn_43 : decode cX5_booksIn 43 = .ok (.iload_n 2, 1) := by decide +kernel
theorem dX5_booksIn_44 : decode cX5_booksIn 44 = .ok (.ireturn, 1) := by decide +kernel
def finX5_booksIn (M0 : Mi) (σ : Nat → Int32) (N : Ml) : Int32 → Option Value × Mi × Ml := fun b => (some (Value.int b), sR M0 0 σ, N)
noncomputable def fX5_booksIn_4 (σ : Nat → Int32)  : Nat → Int32 → Int32 → Int32 → Option (Int32)
  | 0 => fun _ _ _ => none
  | n + 1 => fun x1 x2 x3 => (if (σ 1) ≤ x3 then (some x2) else (Option.bind (fX5_its σ x3 1) (fun a2 => (if a2 = x1 then (Option.bind (fX5_its σ x3 2) (fun a4 => ((fX5_booksIn_4 σ n) x1 (x2 ||| a4) (x3 + 1)))) else ((fX5_booksIn_4 σ n) x1 (x2 ||| 0) (x3 + 1))))))
theorem bX5_booksIn_4 {Z : Zt} {E : Ec} {M0 : Mi} {σ : Nat → Int32} {N : Ml} (C : Ok 2 Z E cX5_booksIn 4 RX5 (some .int) 2)    : ∀ (n : Nat) (x1 : Int32) (x2 : Int32) (x3 : Int32), GT Z E 4 (finX5_booksIn M0 σ N) 4 [(0, .ref (zA Z 6 0)), (1, .int x1), (2, .int x2), (3, .int x3)] [] (sR M0 0 σ) N (fX5_booksIn_4 σ n x1 x2 x3) := by
  intro n
  induction n with
  | zero => intro x1 x2 x3; exact r_none
  | succ n ih =>
    intro x1 x2 x3
    rw [fX5_booksIn_4]
    refine r_iload_n C dX5_booksIn_4 3 3 rfl rfl ?_
    refine r_aload_n C dX5_booksIn_5 0 0 rfl rfl ?_
    refine gf_X5_7 C dX5_booksIn_6 ?_
    refine r_iconst (v := 1) C dX5_booksIn_9 (by decide) ?_
    refine ald_M (v := (σ 1)) C mI_0 (by decide) (sR_at _ _ _ _) dX5_booksIn_10 ?_
    refine r_ic_ge (tgt := 43) C dX5_booksIn_11 (by decide) (fun c1 => ?_) (fun c1 => ?_)
    · refine r_iload_n C dX5_booksIn_43 2 2 rfl rfl ?_
      exact r_iret C dX5_booksIn_44 rfl
    · refine r_iload_n C dX5_booksIn_14 2 2 rfl rfl ?_
      refine r_aload_n C dX5_booksIn_15 0 0 rfl rfl ?_
      refine r_iload_n C dX5_booksIn_16 3 3 rfl rfl ?_
      refine r_iconst (v := 1) C dX5_booksIn_17 (by decide) ?_
      refine r_bind (fun a2 ha2 => ?_)
      refine r_callV (rest := [.int x2]) (st2 := [.int a2, .int x2]) C (mX5_its (eL E) C.z _ _ σ x3 1 a2 ha2) lk_X5_83 (rvM C) (by decide) rfl rfl (Nat.le_of_ble_eq_true rfl) dX5_booksIn_18 rfl ?_
      refine r_iload_n C dX5_booksIn_21 1 1 rfl rfl ?_
      refine r_ic_ne (tgt := 34) C dX5_booksIn_22 (by decide) (fun c3 => ?_) (fun c3 => ?_)
      · refine r_iconst (v := 0) C dX5_booksIn_34 (by decide) ?_
        refine r_ior C dX5_booksIn_35 ?_
        refine r_istore_n (lv' := [(2, .int (x2 ||| 0)), (0, .ref (zA Z 6 0)), (1, .int x1), (3, .int x3)]) C dX5_booksIn_36 2 rfl (by decide) rfl ?_
        refine r_iinc (v := (x3 + 1)) (lv' := [(3, .int (x3 + 1)), (2, .int (x2 ||| 0)), (0, .ref (zA Z 6 0)), (1, .int x1)]) C dX5_booksIn_37 3 rfl rfl (by decide) rfl ?_
        refine r_goto (tgt := 4) C dX5_booksIn_40 (by decide) ?_
        refine r_lv [2, 3, 1, 0] (lv' := [(0, .ref (zA Z 6 0)), (1, .int x1), (2, .int (x2 ||| 0)), (3, .int (x3 + 1))]) rfl ?_
        exact ih x1 (x2 ||| 0) (x3 + 1)
      · refine r_aload_n C dX5_booksIn_25 0 0 rfl rfl ?_
        refine r_iload_n C dX5_booksIn_26 3 3 rfl rfl ?_
        refine r_iconst (v := 2) C dX5_booksIn_27 (by decide) ?_
        refine r_bind (fun a4 ha4 => ?_)
        refine r_callV (rest := [.int x2]) (st2 := [.int a4, .int x2]) C (mX5_its (eL E) C.z _ _ σ x3 2 a4 ha4) lk_X5_83 (rvM C) (by decide) rfl rfl (Nat.le_of_ble_eq_true rfl) dX5_booksIn_28 rfl ?_
        refine r_goto (tgt := 35) C dX5_booksIn_31 (by decide) ?_
        refine r_ior C dX5_booksIn_35 ?_
        refine r_istore_n (lv' := [(2, .int (x2 ||| a4)), (0, .ref (zA Z 6 0)), (1, .int x1), (3, .int x3)]) C dX5_booksIn_36 2 rfl (by decide) rfl ?_
        refine r_iinc (v := (x3 + 1)) (lv' := [(3, .int (x3 + 1)), (2, .int (x2 ||| a4)), (0, .ref (zA Z 6 0)), (1, .int x1)]) C dX5_booksIn_37 3 rfl rfl (by decide) rfl ?_
        refine r_goto (tgt := 4) C dX5_booksIn_40 (by decide) ?_
        refine r_lv [2, 3, 1, 0] (lv' := [(0, .ref (zA Z 6 0)), (1, .int x1), (2, .int (x2 ||| a4)), (3, .int (x3 + 1))]) rfl ?_
        exact ih x1 (x2 ||| a4) (x3 + 1)
noncomputable def fX5_booksIn (σ : Nat → Int32)  (x1 : Int32) : Option (Int32) := (fX5_booksIn_4 σ fu x1 0 0)
theorem bX5_booksIn {Z : Zt} {E : Ec} {M0 : Mi} {σ : Nat → Int32} {N : Ml} (C : Ok 2 Z E cX5_booksIn 4 RX5 (some .int) 2)    (x1 : Int32)  : GT Z E 4 (finX5_booksIn M0 σ N) 0 [(0, .ref (zA Z 6 0)), (1, .int x1)] [] (sR M0 0 σ) N (fX5_booksIn σ x1) := by
  unfold fX5_booksIn
  refine r_iconst (v := 0) C dX5_booksIn_0 (by decide) ?_
  refine r_istore_n (lv' := [(2, .int 0), (0, .ref (zA Z 6 0)), (1, .int x1)]) C dX5_booksIn_1 2 rfl (by decide) rfl ?_
  refine r_iconst (v := 0) C dX5_booksIn_2 (by decide) ?_
  refine r_istore_n (lv' := [(3, .int 0), (2, .int 0), (0, .ref (zA Z 6 0)), (1, .int x1)]) C dX5_booksIn_3 3 rfl (by decide) rfl ?_
  refine r_lv [2, 3, 1, 0] (lv' := [(0, .ref (zA Z 6 0)), (1, .int x1), (2, .int 0), (3, .int 0)]) rfl ?_
  exact bX5_booksIn_4 C fu x1 0 0
theorem mX5_booksIn (l : Launch) {Z : Zt} (hZ : Zok 2 Z) (M0 : Mi) (N : Ml) (σ : Nat → Int32) (x1 : Int32) (b : Int32) (hb : fX5_booksIn σ x1 = some b) : Ct 2 Z l yX5_booksIn cX5_booksIn 4 (some .int) 2 [.ref (zA Z 6 0), .int x1] (sR M0 0 σ) N (some (Value.int b), sR M0 0 σ, N) :=
  metG (fin := (finX5_booksIn M0 σ N)) (by decide) (Nat.le_of_ble_eq_true rfl) (fun E _ C => bX5_booksIn C x1) hb
theorem dX5_cell_0 : decode cX5_cell 0 = .ok (.iload_n 1, 1) := by decide +kernel
theorem dX5_cell_1 : decode cX5_cell 1 = .ok (.invokestatic 62, 3) := by decide +kernel
theorem dX5_cell_4 : decode cX5_cell 4 = .ok (.ifCond .eq 15, 3) := by decide +kernel
theorem dX5_cell_7 : decode cX5_cell 7 = .ok (.iload_n 2, 1) := by decide +kernel
theorem dX5_cell_8 : decode cX5_cell 8 = .ok (.i2l, 1) := by decide +kernel
theorem dX5_cell_9 : decode cX5_cell 9 = .ok (.lconst 0, 1) := by decide +kernel
theorem dX5_cell_10 : decode cX5_cell 10 = .ok (.ldc2_w 76, 3) := by decide +kernel
theorem dX5_cell_13 : decode cX5_cell 13 = .ok (.invokestatic 44, 3) := by decide +kernel
theorem dX5_cell_16 : decode cX5_cell 16 = .ok (.ifCond .ne 10, 3) := by decide +kernel
theorem dX5_cell_19 : decode cX5_cell 19 = .ok (.aload_n 0, 1) := by decide +kernel
theorem dX5_cell_20 : decode cX5_cell 20 = .ok (.ldc 41, 2) := by decide +kernel
theorem dX5_cell_22 : decode cX5_cell 22 = .ok (.invokevirtual 65, 3) := by decide +kernel
theorem dX5_cell_25 : decode cX5_cell 25 = .ok (.ireturn, 1) := by decide +kernel
theorem dX5_cell_26 : decode cX5_cell 26 = .ok (.iload_n 2, 1) := by decide +kernel
theorem dX5_cell_27 : decode cX5_cell 27 = .ok (.ifCond .ne 19, 3) := by decide +kernel
theorem dX5_cell_30 : decode cX5_cell 30 = .ok (.aload_n 0, 1) := by decide +kernel
theorem dX5_cell_31 : decode cX5_cell 31 = .ok (.iload_n 1, 1) := by decide +kernel
theorem dX5_cell_32 : decode cX5_cell 32 = .ok (.invokevirtual 69, 3) := by decide +kernel
theorem dX5_cell_35 : decode cX5_cell 35 = .ok (.ifCond .eq 7, 3) := by decide +kernel
theorem dX5_cell_38 : decode cX5_cell 38 = .ok (.iconst 1, 1) := by decide +kernel
theorem dX5_cell_39 : decode cX5_cell 39 = .ok (.goto 25, 3) := by decide +kernel
theorem dX5_cell_42 : decode cX5_cell 42 = .ok (.iconst 0, 1) := by decide +kernel
theorem dX5_cell_43 : decode cX5_cell 43 = .ok (.goto 21, 3) := by decide +kernel
theorem dX5_cell_46 : decode cX5_cell 46 = .ok (.iload_n 2, 1) := by decide +kernel
theorem dX5_cell_47 : decode cX5_cell 47 = .ok (.iconst 1, 1) := by decide +kernel
theorem dX5_cell_48 : decode cX5_cell 48 = .ok (.if_icmp .ne 11, 3) := by decide +kernel
theorem dX5_cell_51 : decode cX5_cell 51 = .ok (.aload_n 0, 1) := by decide +kernel
theorem dX5_cell_52 : decode cX5_cell 52 = .ok (.iload_n 1, 1) := by decide +kernel
theorem dX5_cell_53 : decode cX5_cell 53 = .ok (.invokevirtual 86, 3) := by decide +kernel
theorem dX5_cell_56 : decode cX5_cell 56 = .ok (.goto 8, 3) := by decide +kernel
theorem dX5_cell_59 : decode cX5_cell 59 = .ok (.aload_n 0, 1) := by decide +kernel
theorem dX5_cell_60 : decode cX5_cell 60 = .ok (.iload_n 1, 1) := by decide +kernel
theorem dX5_cell_61 : decode cX5_cell 61 = .ok (.invokevirtual 89, 3) := by decide +kernel
theorem dX5_cell_64 : decode cX5_cell 64 = .ok (.ireturn, 1) := by decide +kernel
def finX5_cell (N : Ml) : Int32 × Mi → Option Value × Mi × Ml := fun b => (some (Value.int b.1), b.2, N)
noncomputable def fX5_cell_19   (M : Mi) : Option (Int32 × Mi) := (Option.bind (fX5_finds M (-1000000001)) (fun a2 => (some (a2.1, (a2.2)))))
theorem bX5_cell_19 {Z : Zt} {E : Ec} {N : Ml} (C : Ok 2 Z E cX5_cell 3 RX5 (some .int) 3)    (M : Mi)  : GT Z E 3 (finX5_cell N) 19 [(0, .ref (zA Z 6 0))] [] M N (fX5_cell_19 M) := by
  unfold fX5_cell_19
  refine r_aload_n C dX5_cell_19 0 0 rfl rfl ?_
  refine r_ldc (v := (-1000000001)) C dX5_cell_20 wd_859 ?_
  refine r_bind (fun a2 ha2 => ?_)
  refine r_callV (rest := []) (st2 := [.int a2.1]) C (mX5_finds (eL E) C.z M N (-1000000001) a2 ha2) lk_X5_65 (rvM C) (by decide) rfl rfl (Nat.le_of_ble_eq_true rfl) dX5_cell_22 rfl ?_
  exact r_iret C dX5_cell_25 rfl
noncomputable def fX5_cell   (M : Mi) (x1 : Int32) (x2 : Int32) : Option (Int32 × Mi) := (if (fX5_isCell x1) = 0 then (fX5_cell_19 M) else (if (fX5_in (Int32.toInt64 x2) 0 2) = 0 then (fX5_cell_19 M) else (if x2 = 0 then (if (fX5_isFenced (M 0) x1) = 0 then (some (0, M)) else (some (1, M))) else (if x2 = 1 then (Option.bind (fX5_those (M 0) x1) (fun a7 => (some (a7, M)))) else (Option.bind (fX5_booksIn (M 0) x1) (fun a6 => (some (a6, M))))))))
theorem bX5_cell {Z : Zt} {E : Ec} {N : Ml} (C : Ok 2 Z E cX5_cell 3 RX5 (some .int) 3)    (M : Mi) (x1 : Int32) (x2 : Int32)  : GT Z E 3 (finX5_cell N) 0 [(0, .ref (zA Z 6 0)), (1, .int x1), (2, .int x2)] [] M N (fX5_cell M x1 x2) := by
  unfold fX5_cell
  refine r_iload_n C dX5_cell_0 1 1 rfl rfl ?_
  refine r_callS (rest := []) (st2 := [.int (fX5_isCell x1)]) C (mX5_isCell (eL E) C.z _ _ x1) lk_X5_62 (by decide) rfl rfl (Nat.le_of_ble_eq_true rfl) dX5_cell_1 rfl ?_
  refine r_if_eq (tgt := 19) C dX5_cell_4 (by decide) (fun c1 => ?_) (fun c1 => ?_)
  · refine r_lv [0] (lv' := [(0, .ref (zA Z 6 0))]) rfl ?_
    exact bX5_cell_19 C M
  · refine r_iload_n C dX5_cell_7 2 2 rfl rfl ?_
    refine r_i2l C dX5_cell_8 ?_
    refine r_lconst (v := 0) C dX5_cell_9 (by decide) ?_
    refine r_ldc2 (v := 2) C dX5_cell_10 wd_876 ?_
    refine r_callS (rest := []) (st2 := [.int (fX5_in (Int32.toInt64 x2) 0 2)]) C (mX5_in (eL E) C.z _ _ (Int32.toInt64 x2) 0 2) lk_X5_44 (by decide) rfl rfl (Nat.le_of_ble_eq_true rfl) dX5_cell_13 rfl ?_
    refine r_if_ne (tgt := 26) C dX5_cell_16 (by decide) (fun c3 => ?_) (fun c3 => ?_)
    · refine r_iload_n C dX5_cell_26 2 2 rfl rfl ?_
      refine r_if_ne (tgt := 46) C dX5_cell_27 (by decide) (fun c4 => ?_) (fun c4 => ?_)
      · refine r_iload_n C dX5_cell_46 2 2 rfl rfl ?_
        refine r_iconst (v := 1) C dX5_cell_47 (by decide) ?_
        refine r_ic_ne (tgt := 59) C dX5_cell_48 (by decide) (fun c5 => ?_) (fun c5 => ?_)
        · refine r_aload_n C dX5_cell_59 0 0 rfl rfl ?_
          refine r_iload_n C dX5_cell_60 1 1 rfl rfl ?_
          refine r_bind (fun a6 ha6 => ?_)
          refine r_callV (rest := []) (st2 := [.int a6]) C (mX5_booksIn (eL E) C.z M _ (M 0) x1 a6 ha6).selfR lk_X5_89 (rvM C) (by decide) rfl rfl (Nat.le_of_ble_eq_true rfl) dX5_cell_61 rfl ?_
          exact r_iret C dX5_cell_64 rfl
        · refine r_aload_n C dX5_cell_51 0 0 rfl rfl ?_
          refine r_iload_n C dX5_cell_52 1 1 rfl rfl ?_
          refine r_bind (fun a7 ha7 => ?_)
          refine r_callV (rest := []) (st2 := [.int a7]) C (mX5_those (eL E) C.z M _ (M 0) x1 a7 ha7).selfR lk_X5_86 (rvM C) (by decide) rfl rfl (Nat.le_of_ble_eq_true rfl) dX5_cell_53 rfl ?_
          refine r_goto (tgt := 64) C dX5_cell_56 (by decide) ?_
          exact r_iret C dX5_cell_64 rfl
      · refine r_aload_n C dX5_cell_30 0 0 rfl rfl ?_
        refine r_iload_n C dX5_cell_31 1 1 rfl rfl ?_
        refine r_callV (rest := []) (st2 := [.int (fX5_isFenced (M 0) x1)]) C (mX5_isFenced (eL E) C.z M _ (M 0) x1).selfR lk_X5_69 (rvM C) (by decide) rfl rfl (Nat.le_of_ble_eq_true rfl) dX5_cell_32 rfl ?_
        refine r_if_eq (tgt := 42) C dX5_cell_35 (by decide) (fun c8 => ?_) (fun c8 => ?_)
        · refine r_iconst (v := 0) C dX5_cell_42 (by decide) ?_
          refine r_goto (tgt := 64) C dX5_cell_43 (by decide) ?_
          exact r_iret C dX5_cell_64 rfl
        · refine r_iconst (v := 1) C dX5_cell_38 (by decide) ?_
          refine r_goto (tgt := 64) C dX5_cell_39 (by decide) ?_
          exact r_iret C dX5_cell_64 rfl
    · refine r_lv [0] (lv' := [(0, .ref (zA Z 6 0))]) rfl ?_
      exact bX5_cell_19 C M
theorem mX5_cell (l : Launch) {Z : Zt} (hZ : Zok 2 Z) (M : Mi) (N : Ml) (x1 : Int32) (x2 : Int32) (b : Int32 × Mi) (hb : fX5_cell M x1 x2 = some b) : Ct 2 Z l yX5_cell cX5_cell 3 (some .int) 3 [.ref (zA Z 6 0), .int x1, .int x2] M N (some (Value.int b.1), b.2, N) :=
  metG (fin := (finX5_cell N)) (by decide) (Nat.le_of_ble_eq_true rfl) (fun E _ C => bX5_cell C M x1 x2) hb
theorem dX5_clock_0 : decode cX5_clock 0 = .ok (.aload_n 0, 1) := by decide +kernel
theorem dX5_clock_1 : decode cX5_clock 1 = .ok (.getfield 7, 3) := by decide +kernel
theorem dX5_clock_4 : decode cX5_clock 4 = .ok (.iconst 0, 1) := by decide +kernel
theorem dX5_clock_5 : decode cX5_clock 5 = .ok (.iaload, 1) := by decide +kernel
theorem dX5_clock_6 : decode cX5_clock 6 = .ok (.bipush 24, 2) := by decide +kernel
theorem dX5_clock_8 : decode cX5_clock 8 = .ok (.irem, 1) := by decide +kernel
theorem dX5_clock_9 : decode cX5_clock 9 = .ok (.ireturn, 1) := by decide +kernel
def finX5_clock (M0 : Mi) (σ : Nat → Int32) (N : Ml) : Int32 → Option Value × Mi × Ml := fun b => (some (Value.int b), sR M0 0 σ, N)
noncomputable def fX5_clock (σ : Nat → Int32)   : Int32 := ((σ 0) - (σ 0) / 24 * 24)
theorem bX5_clock {Z : Zt} {E : Ec} {M0 : Mi} {σ : Nat → Int32} {N : Ml} (C : Ok 2 Z E cX5_clock 1 RX5 (some .int) 0)      : GT Z E 1 (finX5_clock M0 σ N) 0 [(0, .ref (zA Z 6 0))] [] (sR M0 0 σ) N (some (fX5_clock σ )) := by
  unfold fX5_clock
  refine r_aload_n C dX5_clock_0 0 0 rfl rfl ?_
  refine gf_X5_7 C dX5_clock_1 ?_
  refine r_iconst (v := 0) C dX5_clock_4 (by decide) ?_
  refine ald_M (v := (σ 0)) C mI_0 (by decide) (sR_at _ _ _ _) dX5_clock_5 ?_
  refine r_bipush (v := 24) C dX5_clock_6 (by decide) ?_
  refine r_irem C dX5_clock_8 (by decide) ?_
  exact r_iret C dX5_clock_9 rfl
theorem mX5_clock (l : Launch) {Z : Zt} (hZ : Zok 2 Z) (M0 : Mi) (N : Ml) (σ : Nat → Int32) : Ct 2 Z l yX5_clock cX5_clock 1 (some .int) 0 [.ref (zA Z 6 0)] (sR M0 0 σ) N (some (Value.int (fX5_clock σ)), sR M0 0 σ, N) :=
  metG (fin := (finX5_clock M0 σ N)) (by decide) (Nat.le_of_ble_eq_true rfl) (fun E _ C => bX5_clock C) rfl
theorem dX5_rains_0 : decode cX5_rains 0 = .ok (.aload_n 0, 1) := by decide +kernel
theorem dX5_rains_1 : decode cX5_rains 1 = .ok (.getfield 7, 3) := by decide +kernel
theorem dX5_rains_4 : decode cX5_rains 4 = .ok (.bipush 6, 2) := by decide +kernel
theorem dX5_rains_6 : decode cX5_rains 6 = .ok (.iaload, 1) := by decide +kernel
theorem dX5_rains_7 : decode cX5_rains 7 = .ok (.aload_n 0, 1) := by decide +kernel
theorem dX5_rains_8 : decode cX5_rains 8 = .ok (.invokevirtual 92, 3) := by decide +kernel
theorem dX5_rains_11 : decode cX5_rains 11 = .ok (.ishr, 1) := by decide +kernel
theorem dX5_rains_12 : decode cX5_rains 12 = .ok (.iconst 1, 1) := by decide +kernel
theorem dX5_rains_13 : decode cX5_rains 13 = .ok (.iand, 1) := by decide +kernel
theorem dX5_rains_14 : decode cX5_rains 14 = .ok (.iconst 1, 1) := by decide +kernel
theorem dX5_rains_15 : decode cX5_rains 15 = .ok (.if_icmp .ne 7, 3) := by decide +kernel
theorem dX5_rains_18 : decode cX5_rains 18 = .ok (.iconst 1, 1) := by decide +kernel
theorem dX5_rains_19 : decode cX5_rains 19 = .ok (.goto 4, 3) := by decide +kernel
theorem dX5_rains_22 : decode cX5_rains 22 = .ok (.iconst 0, 1) := by decide +kernel
theorem dX5_rains_23 : decode cX5_rains 23 = .ok (.ireturn, 1) := by decide +kernel
def finX5_rains (M0 : Mi) (σ : Nat → Int32) (N : Ml) : Int32 → Option Value × Mi × Ml := fun b => (some (Value.int b), sR M0 0 σ, N)
noncomputable def fX5_rains (σ : Nat → Int32)   : Int32 := (if (((σ 6) >>> ((fX5_clock σ) &&& 31)) &&& 1) = 1 then 1 else 0)
theorem bX5_rains {Z : Zt} {E : Ec} {M0 : Mi} {σ : Nat → Int32} {N : Ml} (C : Ok 2 Z E cX5_rains 1 RX5 (some .boolean) 1)      : GT Z E 1 (finX5_rains M0 σ N) 0 [(0, .ref (zA Z 6 0))] [] (sR M0 0 σ) N (some (fX5_rains σ )) := by
  unfold fX5_rains
  refine r_aload_n C dX5_rains_0 0 0 rfl rfl ?_
  refine gf_X5_7 C dX5_rains_1 ?_
  refine r_bipush (v := 6) C dX5_rains_4 (by decide) ?_
  refine ald_M (v := (σ 6)) C mI_0 (by decide) (sR_at _ _ _ _) dX5_rains_6 ?_
  refine r_aload_n C dX5_rains_7 0 0 rfl rfl ?_
  refine r_callV (rest := [.int (σ 6)]) (st2 := [.int (fX5_clock σ), .int (σ 6)]) C (mX5_clock (eL E) C.z _ _ σ) lk_X5_92 (rvM C) (by decide) rfl rfl (Nat.le_of_ble_eq_true rfl) dX5_rains_8 rfl ?_
  refine r_ishr C dX5_rains_11 ?_
  refine r_iconst (v := 1) C dX5_rains_12 (by decide) ?_
  refine r_iand C dX5_rains_13 ?_
  refine r_iconst (v := 1) C dX5_rains_14 (by decide) ?_
  refine r_st ?_
  refine r_ic_ne (tgt := 22) C dX5_rains_15 (by decide) (fun c1 => ?_) (fun c1 => ?_)
  · refine r_iconst (v := 0) C dX5_rains_22 (by decide) ?_
    exact r_zret C dX5_rains_23 (Or.inl rfl) rfl
  · refine r_iconst (v := 1) C dX5_rains_18 (by decide) ?_
    refine r_goto (tgt := 23) C dX5_rains_19 (by decide) ?_
    exact r_zret C dX5_rains_23 (Or.inr rfl) rfl
theorem zbX5_rains (σ : Nat → Int32) : fX5_rains σ = 0 ∨ fX5_rains σ = 1 := by
  unfold fX5_rains; (repeat' split) <;> first | exact Or.inl rfl | exact Or.inr rfl
theorem mX5_rains (l : Launch) {Z : Zt} (hZ : Zok 2 Z) (M0 : Mi) (N : Ml) (σ : Nat → Int32) : Ct 2 Z l yX5_rains cX5_rains 1 (some .boolean) 1 [.ref (zA Z 6 0)] (sR M0 0 σ) N (some (Value.int (fX5_rains σ)), sR M0 0 σ, N) :=
  metG (fin := (finX5_rains M0 σ N)) (by decide) (Nat.le_of_ble_eq_true rfl) (fun E _ C => bX5_rains C) rfl
theorem dX5_lawful_0 : decode cX5_lawful 0 = .ok (.aload_n 0, 1) := by decide +kernel
theorem dX5_lawful_1 : decode cX5_lawful 1 = .ok (.invokevirtual 92, 3) := by decide +kernel
theorem dX5_lawful_4 : decode cX5_lawful 4 = .ok (.i2l, 1) := by decide +kernel
theorem dX5_lawful_5 : decode cX5_lawful 5 = .ok (.ldc2_w 96, 3) := by decide +kernel
theorem dX5_lawful_8 : decode cX5_lawful 8 = .ok (.ldc2_w 98, 3) := by decide +kernel
theorem dX5_lawful_11 : decode cX5_lawful 11 = .ok (.invokestatic 44, 3) := by decide +kernel
theorem dX5_lawful_14 : decode cX5_lawful 14 = .ok (.ifCond .eq 12, 3) := by decide +kernel
theorem dX5_lawful_17 : decode cX5_lawful 17 = .ok (.aload_n 0, 1) := by decide +kernel
theorem dX5_lawful_18 : decode cX5_lawful 18 = .ok (.getfield 7, 3) := by decide +kernel
theorem dX5_lawful_21 : decode cX5_lawful 21 = .ok (.iconst 4, 1) := by decide +kernel
theorem dX5_lawful_22 : decode cX5_lawful 22 = .ok (.iaload, 1) := by decide +kernel
theorem dX5_lawful_23 : decode cX5_lawful 23 = .ok (.goto 9, 3) := by decide +kernel
theorem dX5_lawful_26 : decode cX5_lawful 26 = .ok (.aload_n 0, 1) := by decide +kernel
theorem dX5_lawful_27 : decode cX5_lawful 27 = .ok (.getfield 7, 3) := by decide +kernel
theorem dX5_lawful_30 : decode cX5_lawful 30 = .ok (.iconst 3, 1) := by decide +kernel
theorem dX5_lawful_31 : decode cX5_lawful 31 = .ok (.iaload, 1) := by decide +kernel
theorem dX5_lawful_32 : decode cX5_lawful 32 = .ok (.ireturn, 1) := by decide +kernel
def finX5_lawful (M0 : Mi) (σ : Nat → Int32) (N : Ml) : Int32 → Option Value × Mi × Ml := fun b => (some (Value.int b), sR M0 0 σ, N)
noncomputable def fX5_lawful (σ : Nat → Int32)   : Int32 := (if (fX5_in (Int32.toInt64 (fX5_clock σ)) 10 15) = 0 then (σ 3) else (σ 4))
theorem bX5_lawful {Z : Zt} {E : Ec} {M0 : Mi} {σ : Nat → Int32} {N : Ml} (C : Ok 2 Z E cX5_lawful 1 RX5 (some .int) 1)      : GT Z E 1 (finX5_lawful M0 σ N) 0 [(0, .ref (zA Z 6 0))] [] (sR M0 0 σ) N (some (fX5_lawful σ )) := by
  unfold fX5_lawful
  refine r_aload_n C dX5_lawful_0 0 0 rfl rfl ?_
  refine r_callV (rest := []) (st2 := [.int (fX5_clock σ)]) C (mX5_clock (eL E) C.z _ _ σ) lk_X5_92 (rvM C) (by decide) rfl rfl (Nat.le_of_ble_eq_true rfl) dX5_lawful_1 rfl ?_
  refine r_i2l C dX5_lawful_4 ?_
  refine r_ldc2 (v := 10) C dX5_lawful_5 wd_942 ?_
  refine r_ldc2 (v := 15) C dX5_lawful_8 wd_943 ?_
  refine r_callS (rest := []) (st2 := [.int (fX5_in (Int32.toInt64 (fX5_clock σ)) 10 15)]) C (mX5_in (eL E) C.z _ _ (Int32.toInt64 (fX5_clock σ)) 10 15) lk_X5_44 (by decide) rfl rfl (Nat.le_of_ble_eq_true rfl) dX5_lawful_11 rfl ?_
  refine r_st ?_
  refine r_if_eq (tgt := 26) C dX5_lawful_14 (by decide) (fun c1 => ?_) (fun c1 => ?_)
  · refine r_aload_n C dX5_lawful_26 0 0 rfl rfl ?_
    refine gf_X5_7 C dX5_lawful_27 ?_
    refine r_iconst (v := 3) C dX5_lawful_30 (by decide) ?_
    refine ald_M (v := (σ 3)) C mI_0 (by decide) (sR_at _ _ _ _) dX5_lawful_31 ?_
    exact r_iret C dX5_lawful_32 rfl
  · refine r_aload_n C dX5_lawful_17 0 0 rfl rfl ?_
    refine gf_X5_7 C dX5_lawful_18 ?_
    refine r_iconst (v := 4) C dX5_lawful_21 (by decide) ?_
    refine ald_M (v := (σ 4)) C mI_0 (by decide) (sR_at _ _ _ _) dX5_lawful_22 ?_
    refine r_goto (tgt := 32) C dX5_lawful_23 (by decide) ?_
    exact r_iret C dX5_lawful_32 rfl
theorem mX5_lawful (l : Launch) {Z : Zt} (hZ : Zok 2 Z) (M0 : Mi) (N : Ml) (σ : Nat → Int32) : Ct 2 Z l yX5_lawful cX5_lawful 1 (some .int) 1 [.ref (zA Z 6 0)] (sR M0 0 σ) N (some (Value.int (fX5_lawful σ)), sR M0 0 σ, N) :=
  metG (fin := (finX5_lawful M0 σ N)) (by decide) (Nat.le_of_ble_eq_true rfl) (fun E _ C => bX5_lawful C) rfl
theorem dX5_aimOf_0 : decode cX5_aimOf 0 = .ok (.aload_n 0, 1) := by decide +kernel
theorem dX5_aimOf_1 : decode cX5_aimOf 1 = .ok (.iload_n 1, 1) := by decide +kernel
theorem dX5_aimOf_2 : decode cX5_aimOf 2 = .ok (.iconst 0, 1) := by decide +kernel
theorem dX5_aimOf_3 : decode cX5_aimOf 3 = .ok (.invokevirtual 83, 3) := by decide +kernel
theorem dX5_aimOf_6 : decode cX5_aimOf 6 = .ok (.tableswitch 104 2 5 #[30, 81, 56, 35], 30) := by decide +kernel
theorem dX5_aimOf_36 : decode cX5_aimOf 36 = .ok (.aload_n 0, 1) := by decide +kernel
theorem dX5_aimOf_37 : decode cX5_aimOf 37 = .ok (.invokevirtual 100, 3) := by decide +kernel
theorem dX5_aimOf_40 : decode cX5_aimOf 40 = .ok (.ireturn, 1) := by decide +kernel
theorem dX5_aimOf_41 : decode cX5_aimOf 41 = .ok (.aload_n 0, 1) := by decide +kernel
theorem dX5_aimOf_42 : decode cX5_aimOf 42 = .ok (.invokevirtual 103, 3) := by decide +kernel
theorem dX5_aimOf_45 : decode cX5_aimOf 45 = .ok (.ifCond .eq 12, 3) := by decide +kernel
theorem dX5_aimOf_48 : decode cX5_aimOf 48 = .ok (.aload_n 0, 1) := by decide +kernel
theorem dX5_aimOf_49 : decode cX5_aimOf 49 = .ok (.getfield 7, 3) := by decide +kernel
theorem dX5_aimOf_52 : decode cX5_aimOf 52 = .ok (.iconst 5, 1) := by decide +kernel
theorem dX5_aimOf_53 : decode cX5_aimOf 53 = .ok (.iaload, 1) := by decide +kernel
theorem dX5_aimOf_54 : decode cX5_aimOf 54 = .ok (.goto 7, 3) := by decide +kernel
theorem dX5_aimOf_57 : decode cX5_aimOf 57 = .ok (.aload_n 0, 1) := by decide +kernel
theorem dX5_aimOf_58 : decode cX5_aimOf 58 = .ok (.invokevirtual 100, 3) := by decide +kernel
theorem dX5_aimOf_61 : decode cX5_aimOf 61 = .ok (.ireturn, 1) := by decide +kernel
theorem dX5_aimOf_62 : decode cX5_aimOf 62 = .ok (.aload_n 0, 1) := by decide +kernel
theorem dX5_aimOf_63 : decode cX5_aimOf 63 = .ok (.invokevirtual 92, 3) := by decide +kernel
theorem dX5_aimOf_66 : decode cX5_aimOf 66 = .ok (.bipush 20, 2) := by decide +kernel
theorem dX5_aimOf_68 : decode cX5_aimOf 68 = .ok (.if_icmp .lt 12, 3) := by decide +kernel
theorem dX5_aimOf_71 : decode cX5_aimOf 71 = .ok (.aload_n 0, 1) := by decide +kernel
theorem dX5_aimOf_72 : decode cX5_aimOf 72 = .ok (.getfield 7, 3) := by decide +kernel
theorem dX5_aimOf_75 : decode cX5_aimOf 75 = .ok (.iconst 5, 1) := by decide +kernel
theorem dX5_aimOf_76 : decode cX5_aimOf 76 = .ok (.iaload, 1) := by decide +kernel
theorem dX5_aimOf_77 : decode cX5_aimOf 77 = .ok (.goto 9, 3) := by decide +kernel
theorem dX5_aimOf_80 : decode cX5_aimOf 80 = .ok (.aload_n 0, 1) := by decide +kernel
theorem dX5_aimOf_81 : decode cX5_aimOf 81 = .ok (.getfield 7, 3) := by decide +kernel
theorem dX5_aimOf_84 : decode cX5_aimOf 84 = .ok (.iconst 3, 1) := by decide +kernel
theorem dX5_aimOf_85 : decode cX5_aimOf 85 = .ok (.iaload, 1) := by decide +kernel
theorem dX5_aimOf_86 : decode cX5_aimOf 86 = .ok (.ireturn, 1) := by decide +kernel
theorem dX5_aimOf_87 : decode cX5_aimOf 87 = .ok (.aload_n 0, 1) := by decide +kernel
theorem dX5_aimOf_88 : decode cX5_aimOf 88 = .ok (.invokevirtual 103, 3) := by decide +kernel
theorem dX5_aimOf_91 : decode cX5_aimOf 91 = .ok (.ifCond .eq 12, 3) := by decide +kernel
theorem dX5_aimOf_94 : decode cX5_aimOf 94 = .ok (.aload_n 0, 1) := by decide +kernel
theorem dX5_aimOf_95 : decode cX5_aimOf 95 = .ok (.getfield 7, 3) := by decide +kernel
theorem dX5_aimOf_98 : decode cX5_aimOf 98 = .ok (.iconst 3, 1) := by decide +kernel
theorem dX5_aimOf_99 : decode cX5_aimOf 99 = .ok (.iaload, 1) := by decide +kernel
theorem dX5_aimOf_100 : decode cX5_aimOf 100 = .ok (.goto 9, 3) := by decide +kernel
theorem dX5_aimOf_103 : decode cX5_aimOf 103 = .ok (.aload_n 0, 1) := by decide +kernel
theorem dX5_aimOf_104 : decode cX5_aimOf 104 = .ok (.iload_n 1, 1) := by decide +kernel
theorem dX5_aimOf_105 : decode cX5_aimOf 105 = .ok (.iconst 1, 1) := by decide +kernel
theorem dX5_aimOf_106 : decode cX5_aimOf 106 = .ok (.invokevirtual 83, 3) := by decide +kernel
theorem dX5_aimOf_109 : decode cX5_aimOf 109 = .ok (.ireturn, 1) := by decide +kernel
theorem dX5_aimOf_110 : decode cX5_aimOf 110 = .ok (.aload_n 0, 1) := by decide +kernel
theorem dX5_aimOf_111 : decode cX5_aimOf 111 = .ok (.getfield 7, 3) := by decide +kernel
theorem dX5_aimOf_114 : decode cX5_aimOf 114 = .ok (.iconst 3, 1) := by decide +kernel
theorem dX5_aimOf_115 : decode cX5_aimOf 115 = .ok (.iaload, 1) := by decide +kernel
theorem dX5_aimOf_116 : decode cX5_aimOf 116 = .ok (.ireturn, 1) := by decide +kernel
def finX5_aimOf (M0 : Mi) (σ : Nat → Int32) (N : Ml) : Int32 → Option Value × Mi × Ml := fun b => (some (Value.int b), sR M0 0 σ, N)
noncomputable def fX5_aimOf (σ : Nat → Int32)  (x1 : Int32) : Option (Int32) := (Option.bind (fX5_its σ x1 0) (fun a1 => (if a1 = 2 then (some (fX5_lawful σ)) else (if a1 = 3 then (if (fX5_rains σ) = 0 then (Option.bind (fX5_its σ x1 1) (fun a5 => (some a5))) else (some (σ 3))) else (if a1 = 4 then (if (fX5_clock σ) < 20 then (some (σ 3)) else (some (σ 5))) else (if a1 = 5 then (if (fX5_rains σ) = 0 then (some (fX5_lawful σ)) else (some (σ 5))) else (some (σ 3))))))))
theorem bX5_aimOf {Z : Zt} {E : Ec} {M0 : Mi} {σ : Nat → Int32} {N : Ml} (C : Ok 2 Z E cX5_aimOf 2 RX5 (some .int) 2)    (x1 : Int32)  : GT Z E 2 (finX5_aimOf M0 σ N) 0 [(0, .ref (zA Z 6 0)), (1, .int x1)] [] (sR M0 0 σ) N (fX5_aimOf σ x1) := by
  unfold fX5_aimOf
  refine r_aload_n C dX5_aimOf_0 0 0 rfl rfl ?_
  refine r_iload_n C dX5_aimOf_1 1 1 rfl rfl ?_
  refine r_iconst (v := 0) C dX5_aimOf_2 (by decide) ?_
  refine r_bind (fun a1 ha1 => ?_)
  refine r_callV (rest := []) (st2 := [.int a1]) C (mX5_its (eL E) C.z _ _ σ x1 0 a1 ha1) lk_X5_83 (rvM C) (by decide) rfl rfl (Nat.le_of_ble_eq_true rfl) dX5_aimOf_3 rfl ?_
  refine r_tsw (k := 2) (tgt := 36) C dX5_aimOf_6 (by decide) (by decide) rfl (by decide) (fun c2 => ?_) (fun c2 => ?_)
  · refine r_aload_n C dX5_aimOf_36 0 0 rfl rfl ?_
    refine r_callV (rest := []) (st2 := [.int (fX5_lawful σ)]) C (mX5_lawful (eL E) C.z _ _ σ) lk_X5_100 (rvM C) (by decide) rfl rfl (Nat.le_of_ble_eq_true rfl) dX5_aimOf_37 rfl ?_
    exact r_iret C dX5_aimOf_40 rfl
  · skip
    refine r_tsw (k := 3) (tgt := 87) C dX5_aimOf_6 (by decide) (by decide) rfl (by decide) (fun c3 => ?_) (fun c3 => ?_)
    · refine r_aload_n C dX5_aimOf_87 0 0 rfl rfl ?_
      refine r_callV (rest := []) (st2 := [.int (fX5_rains σ)]) C (mX5_rains (eL E) C.z _ _ σ) lk_X5_103 (rvM C) (by decide) rfl rfl (Nat.le_of_ble_eq_true rfl) dX5_aimOf_88 rfl ?_
      refine r_if_eq (tgt := 103) C dX5_aimOf_91 (by decide) (fun c4 => ?_) (fun c4 => ?_)
      · refine r_aload_n C dX5_aimOf_103 0 0 rfl rfl ?_
        refine r_iload_n C dX5_aimOf_104 1 1 rfl rfl ?_
        refine r_iconst (v := 1) C dX5_aimOf_105 (by decide) ?_
        refine r_bind (fun a5 ha5 => ?_)
        refine r_callV (rest := []) (st2 := [.int a5]) C (mX5_its (eL E) C.z _ _ σ x1 1 a5 ha5) lk_X5_83 (rvM C) (by decide) rfl rfl (Nat.le_of_ble_eq_true rfl) dX5_aimOf_106 rfl ?_
        exact r_iret C dX5_aimOf_109 rfl
      · refine r_aload_n C dX5_aimOf_94 0 0 rfl rfl ?_
        refine gf_X5_7 C dX5_aimOf_95 ?_
        refine r_iconst (v := 3) C dX5_aimOf_98 (by decide) ?_
        refine ald_M (v := (σ 3)) C mI_0 (by decide) (sR_at _ _ _ _) dX5_aimOf_99 ?_
        refine r_goto (tgt := 109) C dX5_aimOf_100 (by decide) ?_
        exact r_iret C dX5_aimOf_109 rfl
    · skip
      refine r_tsw (k := 4) (tgt := 62) C dX5_aimOf_6 (by decide) (by decide) rfl (by decide) (fun c6 => ?_) (fun c6 => ?_)
      · refine r_aload_n C dX5_aimOf_62 0 0 rfl rfl ?_
        refine r_callV (rest := []) (st2 := [.int (fX5_clock σ)]) C (mX5_clock (eL E) C.z _ _ σ) lk_X5_92 (rvM C) (by decide) rfl rfl (Nat.le_of_ble_eq_true rfl) dX5_aimOf_63 rfl ?_
        refine r_bipush (v := 20) C dX5_aimOf_66 (by decide) ?_
        refine r_ic_lt (tgt := 80) C dX5_aimOf_68 (by decide) (fun c7 => ?_) (fun c7 => ?_)
        · refine r_aload_n C dX5_aimOf_80 0 0 rfl rfl ?_
          refine gf_X5_7 C dX5_aimOf_81 ?_
          refine r_iconst (v := 3) C dX5_aimOf_84 (by decide) ?_
          refine ald_M (v := (σ 3)) C mI_0 (by decide) (sR_at _ _ _ _) dX5_aimOf_85 ?_
          exact r_iret C dX5_aimOf_86 rfl
        · refine r_aload_n C dX5_aimOf_71 0 0 rfl rfl ?_
          refine gf_X5_7 C dX5_aimOf_72 ?_
          refine r_iconst (v := 5) C dX5_aimOf_75 (by decide) ?_
          refine ald_M (v := (σ 5)) C mI_0 (by decide) (sR_at _ _ _ _) dX5_aimOf_76 ?_
          refine r_goto (tgt := 86) C dX5_aimOf_77 (by decide) ?_
          exact r_iret C dX5_aimOf_86 rfl
      · skip
        refine r_tsw (k := 5) (tgt := 41) C dX5_aimOf_6 (by decide) (by decide) rfl (by decide) (fun c8 => ?_) (fun c8 => ?_)
        · refine r_aload_n C dX5_aimOf_41 0 0 rfl rfl ?_
          refine r_callV (rest := []) (st2 := [.int (fX5_rains σ)]) C (mX5_rains (eL E) C.z _ _ σ) lk_X5_103 (rvM C) (by decide) rfl rfl (Nat.le_of_ble_eq_true rfl) dX5_aimOf_42 rfl ?_
          refine r_if_eq (tgt := 57) C dX5_aimOf_45 (by decide) (fun c9 => ?_) (fun c9 => ?_)
          · refine r_aload_n C dX5_aimOf_57 0 0 rfl rfl ?_
            refine r_callV (rest := []) (st2 := [.int (fX5_lawful σ)]) C (mX5_lawful (eL E) C.z _ _ σ) lk_X5_100 (rvM C) (by decide) rfl rfl (Nat.le_of_ble_eq_true rfl) dX5_aimOf_58 rfl ?_
            exact r_iret C dX5_aimOf_61 rfl
          · refine r_aload_n C dX5_aimOf_48 0 0 rfl rfl ?_
            refine gf_X5_7 C dX5_aimOf_49 ?_
            refine r_iconst (v := 5) C dX5_aimOf_52 (by decide) ?_
            refine ald_M (v := (σ 5)) C mI_0 (by decide) (sR_at _ _ _ _) dX5_aimOf_53 ?_
            refine r_goto (tgt := 61) C dX5_aimOf_54 (by decide) ?_
            exact r_iret C dX5_aimOf_61 rfl
        · skip
          refine r_tswd (tgt := 110) C dX5_aimOf_6 (sw_out (lo := 2) (hi := 5) (n := 4) a1 [2, 3, 4, 5] (by decide) rfl (List.forall_mem_cons.mpr ⟨c2, List.forall_mem_cons.mpr ⟨c3, List.forall_mem_cons.mpr ⟨c6, List.forall_mem_cons.mpr ⟨c8, fun _ h => absurd h List.not_mem_nil⟩⟩⟩⟩)) (by decide) ?_
          refine r_aload_n C dX5_aimOf_110 0 0 rfl rfl ?_
          refine gf_X5_7 C dX5_aimOf_111 ?_
          refine r_iconst (v := 3) C dX5_aimOf_114 (by decide) ?_
          refine ald_M (v := (σ 3)) C mI_0 (by decide) (sR_at _ _ _ _) dX5_aimOf_115 ?_
          exact r_iret C dX5_aimOf_116 rfl
theorem mX5_aimOf (l : Launch) {Z : Zt} (hZ : Zok 2 Z) (M0 : Mi) (N : Ml) (σ : Nat → Int32) (x1 : Int32) (b : Int32) (hb : fX5_aimOf σ x1 = some b) : Ct 2 Z l yX5_aimOf cX5_aimOf 2 (some .int) 2 [.ref (zA Z 6 0), .int x1] (sR M0 0 σ) N (some (Value.int b), sR M0 0 σ, N) :=
  metG (fin := (finX5_aimOf M0 σ N)) (by decide) (Nat.le_of_ble_eq_true rfl) (fun E _ C => bX5_aimOf C x1) hb
theorem dX5_paceOf_0 : decode cX5_paceOf 0 = .ok (.aload_n 0, 1) := by decide +kernel
theorem dX5_paceOf_1 : decode cX5_paceOf 1 = .ok (.iload_n 1, 1) := by decide +kernel
theorem dX5_paceOf_2 : decode cX5_paceOf 2 = .ok (.iconst 0, 1) := by decide +kernel
theorem dX5_paceOf_3 : decode cX5_paceOf 3 = .ok (.invokevirtual 83, 3) := by decide +kernel
theorem dX5_paceOf_6 : decode cX5_paceOf 6 = .ok (.tableswitch 49 1 4 #[30, 49, 34, 32], 30) := by decide +kernel
theorem dX5_paceOf_36 : decode cX5_paceOf 36 = .ok (.iconst 2, 1) := by decide +kernel
theorem dX5_paceOf_37 : decode cX5_paceOf 37 = .ok (.ireturn, 1) := by decide +kernel
theorem dX5_paceOf_38 : decode cX5_paceOf 38 = .ok (.iconst 3, 1) := by decide +kernel
theorem dX5_paceOf_39 : decode cX5_paceOf 39 = .ok (.ireturn, 1) := by decide +kernel
theorem dX5_paceOf_40 : decode cX5_paceOf 40 = .ok (.aload_n 0, 1) := by decide +kernel
theorem dX5_paceOf_41 : decode cX5_paceOf 41 = .ok (.invokevirtual 92, 3) := by decide +kernel
theorem dX5_paceOf_44 : decode cX5_paceOf 44 = .ok (.iconst 2, 1) := by decide +kernel
theorem dX5_paceOf_45 : decode cX5_paceOf 45 = .ok (.irem, 1) := by decide +kernel
theorem dX5_paceOf_46 : decode cX5_paceOf 46 = .ok (.ifCond .ne 7, 3) := by decide +kernel
theorem dX5_paceOf_49 : decode cX5_paceOf 49 = .ok (.iconst 1, 1) := by decide +kernel
theorem dX5_paceOf_50 : decode cX5_paceOf 50 = .ok (.goto 4, 3) := by decide +kernel
theorem dX5_paceOf_53 : decode cX5_paceOf 53 = .ok (.iconst 0, 1) := by decide +kernel
theorem dX5_paceOf_54 : decode cX5_paceOf 54 = .ok (.ireturn, 1) := by decide +kernel
theorem dX5_paceOf_55 : decode cX5_paceOf 55 = .ok (.iconst 1, 1) := by decide +kernel
theorem dX5_paceOf_56 : decode cX5_paceOf 56 = .ok (.ireturn, 1) := by decide +kernel
def finX5_paceOf (M0 : Mi) (σ : Nat → Int32) (N : Ml) : Int32 → Option Value × Mi × Ml := fun b => (some (Value.int b), sR M0 0 σ, N)
noncomputable def fX5_paceOf (σ : Nat → Int32)  (x1 : Int32) : Option (Int32) := (Option.bind (fX5_its σ x1 0) (fun a1 => (if a1 = 1 then (some 2) else (if a1 = 2 then (some 1) else (if a1 = 3 then (if ((fX5_clock σ) - (fX5_clock σ) / 2 * 2) = 0 then (some 1) else (some 0)) else (if a1 = 4 then (some 3) else (some 1)))))))
theorem bX5_paceOf {Z : Zt} {E : Ec} {M0 : Mi} {σ : Nat → Int32} {N : Ml} (C : Ok 2 Z E cX5_paceOf 2 RX5 (some .int) 2)    (x1 : Int32)  : GT Z E 2 (finX5_paceOf M0 σ N) 0 [(0, .ref (zA Z 6 0)), (1, .int x1)] [] (sR M0 0 σ) N (fX5_paceOf σ x1) := by
  unfold fX5_paceOf
  refine r_aload_n C dX5_paceOf_0 0 0 rfl rfl ?_
  refine r_iload_n C dX5_paceOf_1 1 1 rfl rfl ?_
  refine r_iconst (v := 0) C dX5_paceOf_2 (by decide) ?_
  refine r_bind (fun a1 ha1 => ?_)
  refine r_callV (rest := []) (st2 := [.int a1]) C (mX5_its (eL E) C.z _ _ σ x1 0 a1 ha1) lk_X5_83 (rvM C) (by decide) rfl rfl (Nat.le_of_ble_eq_true rfl) dX5_paceOf_3 rfl ?_
  refine r_tsw (k := 1) (tgt := 36) C dX5_paceOf_6 (by decide) (by decide) rfl (by decide) (fun c2 => ?_) (fun c2 => ?_)
  · refine r_iconst (v := 2) C dX5_paceOf_36 (by decide) ?_
    exact r_iret C dX5_paceOf_37 rfl
  · skip
    refine r_tsw (k := 2) (tgt := 55) C dX5_paceOf_6 (by decide) (by decide) rfl (by decide) (fun c3 => ?_) (fun c3 => ?_)
    · refine r_iconst (v := 1) C dX5_paceOf_55 (by decide) ?_
      exact r_iret C dX5_paceOf_56 rfl
    · skip
      refine r_tsw (k := 3) (tgt := 40) C dX5_paceOf_6 (by decide) (by decide) rfl (by decide) (fun c4 => ?_) (fun c4 => ?_)
      · refine r_aload_n C dX5_paceOf_40 0 0 rfl rfl ?_
        refine r_callV (rest := []) (st2 := [.int (fX5_clock σ)]) C (mX5_clock (eL E) C.z _ _ σ) lk_X5_92 (rvM C) (by decide) rfl rfl (Nat.le_of_ble_eq_true rfl) dX5_paceOf_41 rfl ?_
        refine r_iconst (v := 2) C dX5_paceOf_44 (by decide) ?_
        refine r_irem C dX5_paceOf_45 (by decide) ?_
        refine r_if_ne (tgt := 53) C dX5_paceOf_46 (by decide) (fun c5 => ?_) (fun c5 => ?_)
        · refine r_iconst (v := 0) C dX5_paceOf_53 (by decide) ?_
          exact r_iret C dX5_paceOf_54 rfl
        · refine r_iconst (v := 1) C dX5_paceOf_49 (by decide) ?_
          refine r_goto (tgt := 54) C dX5_paceOf_50 (by decide) ?_
          exact r_iret C dX5_paceOf_54 rfl
      · skip
        refine r_tsw (k := 4) (tgt := 38) C dX5_paceOf_6 (by decide) (by decide) rfl (by decide) (fun c6 => ?_) (fun c6 => ?_)
        · refine r_iconst (v := 3) C dX5_paceOf_38 (by decide) ?_
          exact r_iret C dX5_paceOf_39 rfl
        · skip
          refine r_tswd (tgt := 55) C dX5_paceOf_6 (sw_out (lo := 1) (hi := 4) (n := 4) a1 [1, 2, 3, 4] (by decide) rfl (List.forall_mem_cons.mpr ⟨c2, List.forall_mem_cons.mpr ⟨c3, List.forall_mem_cons.mpr ⟨c4, List.forall_mem_cons.mpr ⟨c6, fun _ h => absurd h List.not_mem_nil⟩⟩⟩⟩)) (by decide) ?_
          refine r_iconst (v := 1) C dX5_paceOf_55 (by decide) ?_
          exact r_iret C dX5_paceOf_56 rfl
theorem mX5_paceOf (l : Launch) {Z : Zt} (hZ : Zok 2 Z) (M0 : Mi) (N : Ml) (σ : Nat → Int32) (x1 : Int32) (b : Int32) (hb : fX5_paceOf σ x1 = some b) : Ct 2 Z l yX5_paceOf cX5_paceOf 2 (some .int) 2 [.ref (zA Z 6 0), .int x1] (sR M0 0 σ) N (some (Value.int b), sR M0 0 σ, N) :=
  metG (fin := (finX5_paceOf M0 σ N)) (by decide) (Nat.le_of_ble_eq_true rfl) (fun E _ C => bX5_paceOf C x1) hb
theorem dX5_adds_0 : decode cX5_adds 0 = .ok (.aload_n 0, 1) := by decide +kernel
theorem dX5_adds_1 : decode cX5_adds 1 = .ok (.getfield 7, 3) := by decide +kernel
theorem dX5_adds_4 : decode cX5_adds 4 = .ok (.iconst 1, 1) := by decide +kernel
theorem dX5_adds_5 : decode cX5_adds 5 = .ok (.iaload, 1) := by decide +kernel
theorem dX5_adds_6 : decode cX5_adds 6 = .ok (.istore 4, 2) := by decide +kernel
theorem dX5_adds_8 : decode cX5_adds 8 = .ok (.aload_n 0, 1) := by decide +kernel
theorem dX5_adds_9 : decode cX5_adds 9 = .ok (.getfield 7, 3) := by decide +kernel
theorem dX5_adds_12 : decode cX5_adds 12 = .ok (.iload 4, 2) := by decide +kernel
theorem dX5_adds_14 : decode cX5_adds 14 = .ok (.iconst 0, 1) := by decide +kernel
theorem dX5_adds_15 : decode cX5_adds 15 = .ok (.invokestatic 58, 3) := by decide +kernel
theorem dX5_adds_18 : decode cX5_adds 18 = .ok (.iload_n 1, 1) := by decide +kernel
theorem dX5_adds_19 : decode cX5_adds 19 = .ok (.iastore, 1) := by decide +kernel
theorem dX5_adds_20 : decode cX5_adds 20 = .ok (.aload_n 0, 1) := by decide +kernel
theorem dX5_adds_21 : decode cX5_adds 21 = .ok (.getfield 7, 3) := by decide +kernel
theorem dX5_adds_24 : decode cX5_adds 24 = .ok (.iload 4, 2) := by decide +kernel
theorem dX5_adds_26 : decode cX5_adds 26 = .ok (.iconst 1, 1) := by decide +kernel
theorem dX5_adds_27 : decode cX5_adds 27 = .ok (.invokestatic 58, 3) := by decide +kernel
theorem dX5_adds_30 : decode cX5_adds 30 = .ok (.iload_n 2, 1) := by decide +kernel
theorem dX5_adds_31 : decode cX5_adds 31 = .ok (.iastore, 1) := by decide +kernel
theorem dX5_adds_32 : decode cX5_adds 32 = .ok (.aload_n 0, 1) := by decide +kernel
theorem dX5_adds_33 : decode cX5_adds 33 = .ok (.getfield 7, 3) := by decide +kernel
theorem dX5_adds_36 : decode cX5_adds 36 = .ok (.iload 4, 2) := by decide +kernel
theorem dX5_adds_38 : decode cX5_adds 38 = .ok (.iconst 2, 1) := by decide +kernel
theorem dX5_adds_39 : decode cX5_adds 39 = .ok (.invokestatic 58, 3) := by decide +kernel
theorem dX5_adds_42 : decode cX5_adds 42 = .ok (.iload_n 3, 1) := by decide +kernel
theorem dX5_adds_43 : decode cX5_adds 43 = .ok (.iastore, 1) := by decide +kernel
theorem dX5_adds_44 : decode cX5_adds 44 = .ok (.aload_n 0, 1) := by decide +kernel
theorem dX5_adds_45 : decode cX5_adds 45 = .ok (.getfield 7, 3) := by decide +kernel
theorem dX5_adds_48 : decode cX5_adds 48 = .ok (.iload 4, 2) := by decide +kernel
theorem dX5_adds_50 : decode cX5_adds 50 = .ok (.iconst 3, 1) := by decide +kernel
theorem dX5_adds_51 : decode cX5_adds 51 = .ok (.invokestatic 58, 3) := by decide +kernel
theorem dX5_adds_54 : decode cX5_adds 54 = .ok (.iconst 0, 1) := by decide +kernel
theorem dX5_adds_55 : decode cX5_adds 55 = .ok (.iastore, 1) := by decide +kernel
theorem dX5_adds_56 : decode cX5_adds 56 = .ok (.aload_n 0, 1) := by decide +kernel
theorem dX5_adds_57 : decode cX5_adds 57 = .ok (.getfield 7, 3) := by decide +kernel
theorem dX5_adds_60 : decode cX5_adds 60 = .ok (.iconst 1, 1) := by decide +kernel
theorem dX5_adds_61 : decode cX5_adds 61 = .ok (.dup2, 1) := by decide +kernel
theorem dX5_adds_62 : decode cX5_adds 62 = .ok (.iaload, 1) := by decide +kernel
theorem dX5_adds_63 : decode cX5_adds 63 = .ok (.iconst 1, 1) := by decide +kernel
theorem dX5_adds_64 : decode cX5_adds 64 = .ok (.iadd, 1) := by decide +kernel
theorem dX5_adds_65 : decode cX5_adds 65 = .ok (.iastore, 1) := by decide +kernel
theorem dX5_adds_66 : decode cX5_adds 66 = .ok (.iload 4, 2) := by decide +kernel
theorem dX5_adds_68 : decode cX5_adds 68 = .ok (.ireturn, 1) := by decide +kernel
def finX5_adds (M0 : Mi) (N : Ml) : Int32 × (Nat → Int32) → Option Value × Mi × Ml := fun b => (some (Value.int b.1), sR M0 0 (b.2), N)
noncomputable def fX5_adds   (σ : Nat → Int32) (x1 : Int32) (x2 : Int32) (x3 : Int32) : Option (Int32 × (Nat → Int32)) := (if inb (fX5_spotOf (σ 1) 0) 39 then (if inb (fX5_spotOf (σ 1) 1) 39 then (if inb (fX5_spotOf (σ 1) 2) 39 then (if inb (fX5_spotOf (σ 1) 3) 39 then (some ((σ 1), (upd (upd (upd (upd (upd σ (ix (fX5_spotOf (σ 1) 0)) x1) (ix (fX5_spotOf (σ 1) 1)) x2) (ix (fX5_spotOf (σ 1) 2)) x3) (ix (fX5_spotOf (σ 1) 3)) 0) 1 (((upd (upd (upd (upd σ (ix (fX5_spotOf (σ 1) 0)) x1) (ix (fX5_spotOf (σ 1) 1)) x2) (ix (fX5_spotOf (σ 1) 2)) x3) (ix (fX5_spotOf (σ 1) 3)) 0) 1) + 1)))) else none) else none) else none) else none)
theorem bX5_adds {Z : Zt} {E : Ec} {M0 : Mi} {N : Ml} (C : Ok 2 Z E cX5_adds 5 RX5 (some .int) 1)    (σ : Nat → Int32) (x1 : Int32) (x2 : Int32) (x3 : Int32)  : GT Z E 5 (finX5_adds M0 N) 0 [(0, .ref (zA Z 6 0)), (1, .int x1), (2, .int x2), (3, .int x3)] [] (sR M0 0 σ) N (fX5_adds σ x1 x2 x3) := by
  unfold fX5_adds
  refine r_aload_n C dX5_adds_0 0 0 rfl rfl ?_
  refine gf_X5_7 C dX5_adds_1 ?_
  refine r_iconst (v := 1) C dX5_adds_4 (by decide) ?_
  refine ald_M (v := (σ 1)) C mI_0 (by decide) (sR_at _ _ _ _) dX5_adds_5 ?_
  refine r_istore (lv' := [(4, .int (σ 1)), (0, .ref (zA Z 6 0)), (1, .int x1), (2, .int x2), (3, .int x3)]) C dX5_adds_6 (by decide) rfl ?_
  refine r_aload_n C dX5_adds_8 0 1 rfl rfl ?_
  refine gf_X5_7 C dX5_adds_9 ?_
  refine r_iload C dX5_adds_12 0 rfl ?_
  refine r_iconst (v := 0) C dX5_adds_14 (by decide) ?_
  refine r_callS (rest := [.ref (zA Z 0 0)]) (st2 := [.int (fX5_spotOf (σ 1) 0), .ref (zA Z 0 0)]) C (mX5_spotOf (eL E) C.z _ _ (σ 1) 0) lk_X5_58 (by decide) rfl rfl (Nat.le_of_ble_eq_true rfl) dX5_adds_15 rfl ?_
  refine r_iload_n C dX5_adds_18 1 2 rfl rfl ?_
  refine r_guard (fun h1 => ?_)
  refine ast_M (M' := (sR M0 0 (upd σ (ix (fX5_spotOf (σ 1) 0)) x1))) C mI_0 h1 (wM_sR _ _ _ _ _) dX5_adds_19 ?_
  refine r_aload_n C dX5_adds_20 0 1 rfl rfl ?_
  refine gf_X5_7 C dX5_adds_21 ?_
  refine r_iload C dX5_adds_24 0 rfl ?_
  refine r_iconst (v := 1) C dX5_adds_26 (by decide) ?_
  refine r_callS (rest := [.ref (zA Z 0 0)]) (st2 := [.int (fX5_spotOf (σ 1) 1), .ref (zA Z 0 0)]) C (mX5_spotOf (eL E) C.z _ _ (σ 1) 1) lk_X5_58 (by decide) rfl rfl (Nat.le_of_ble_eq_true rfl) dX5_adds_27 rfl ?_
  refine r_iload_n C dX5_adds_30 2 3 rfl rfl ?_
  refine r_guard (fun h2 => ?_)
  refine ast_M (M' := (sR M0 0 (upd (upd σ (ix (fX5_spotOf (σ 1) 0)) x1) (ix (fX5_spotOf (σ 1) 1)) x2))) C mI_0 h2 (wM_sR _ _ _ _ _) dX5_adds_31 ?_
  refine r_aload_n C dX5_adds_32 0 1 rfl rfl ?_
  refine gf_X5_7 C dX5_adds_33 ?_
  refine r_iload C dX5_adds_36 0 rfl ?_
  refine r_iconst (v := 2) C dX5_adds_38 (by decide) ?_
  refine r_callS (rest := [.ref (zA Z 0 0)]) (st2 := [.int (fX5_spotOf (σ 1) 2), .ref (zA Z 0 0)]) C (mX5_spotOf (eL E) C.z _ _ (σ 1) 2) lk_X5_58 (by decide) rfl rfl (Nat.le_of_ble_eq_true rfl) dX5_adds_39 rfl ?_
  refine r_iload_n C dX5_adds_42 3 4 rfl rfl ?_
  refine r_guard (fun h3 => ?_)
  refine ast_M (M' := (sR M0 0 (upd (upd (upd σ (ix (fX5_spotOf (σ 1) 0)) x1) (ix (fX5_spotOf (σ 1) 1)) x2) (ix (fX5_spotOf (σ 1) 2)) x3))) C mI_0 h3 (wM_sR _ _ _ _ _) dX5_adds_43 ?_
  refine r_aload_n C dX5_adds_44 0 1 rfl rfl ?_
  refine gf_X5_7 C dX5_adds_45 ?_
  refine r_iload C dX5_adds_48 0 rfl ?_
  refine r_iconst (v := 3) C dX5_adds_50 (by decide) ?_
  refine r_callS (rest := [.ref (zA Z 0 0)]) (st2 := [.int (fX5_spotOf (σ 1) 3), .ref (zA Z 0 0)]) C (mX5_spotOf (eL E) C.z _ _ (σ 1) 3) lk_X5_58 (by decide) rfl rfl (Nat.le_of_ble_eq_true rfl) dX5_adds_51 rfl ?_
  refine r_iconst (v := 0) C dX5_adds_54 (by decide) ?_
  refine r_guard (fun h4 => ?_)
  refine ast_M (M' := (sR M0 0 (upd (upd (upd (upd σ (ix (fX5_spotOf (σ 1) 0)) x1) (ix (fX5_spotOf (σ 1) 1)) x2) (ix (fX5_spotOf (σ 1) 2)) x3) (ix (fX5_spotOf (σ 1) 3)) 0))) C mI_0 h4 (wM_sR _ _ _ _ _) dX5_adds_55 ?_
  refine r_aload_n C dX5_adds_56 0 1 rfl rfl ?_
  refine gf_X5_7 C dX5_adds_57 ?_
  refine r_iconst (v := 1) C dX5_adds_60 (by decide) ?_
  refine r_dup2 C dX5_adds_61 rfl rfl ?_
  refine ald_M (v := ((upd (upd (upd (upd σ (ix (fX5_spotOf (σ 1) 0)) x1) (ix (fX5_spotOf (σ 1) 1)) x2) (ix (fX5_spotOf (σ 1) 2)) x3) (ix (fX5_spotOf (σ 1) 3)) 0) 1)) C mI_0 (by decide) (sR_at _ _ _ _) dX5_adds_62 ?_
  refine r_iconst (v := 1) C dX5_adds_63 (by decide) ?_
  refine r_iadd C dX5_adds_64 ?_
  refine ast_M (M' := (sR M0 0 (upd (upd (upd (upd (upd σ (ix (fX5_spotOf (σ 1) 0)) x1) (ix (fX5_spotOf (σ 1) 1)) x2) (ix (fX5_spotOf (σ 1) 2)) x3) (ix (fX5_spotOf (σ 1) 3)) 0) 1 (((upd (upd (upd (upd σ (ix (fX5_spotOf (σ 1) 0)) x1) (ix (fX5_spotOf (σ 1) 1)) x2) (ix (fX5_spotOf (σ 1) 2)) x3) (ix (fX5_spotOf (σ 1) 3)) 0) 1) + 1)))) C mI_0 (by decide) (wM_sR _ _ _ _ _) dX5_adds_65 ?_
  refine r_iload C dX5_adds_66 0 rfl ?_
  exact r_iret C dX5_adds_68 rfl
theorem mX5_adds (l : Launch) {Z : Zt} (hZ : Zok 2 Z) (M0 : Mi) (N : Ml) (σ : Nat → Int32) (x1 : Int32) (x2 : Int32) (x3 : Int32) (b : Int32 × (Nat → Int32)) (hb : fX5_adds σ x1 x2 x3 = some b) : Ct 2 Z l yX5_adds cX5_adds 5 (some .int) 1 [.ref (zA Z 6 0), .int x1, .int x2, .int x3] (sR M0 0 σ) N (some (Value.int b.1), sR M0 0 (b.2), N) :=
  metG (fin := (finX5_adds M0 N)) (by decide) (Nat.le_of_ble_eq_true rfl) (fun E _ C => bX5_adds C σ x1 x2 x3) hb
theorem dX5_tortoise_0 : decode cX5_tortoise 0 = .ok (.iload_n 1, 1) := by decide +kernel
theorem dX5_tortoise_1 : decode cX5_tortoise 1 = .ok (.invokestatic 107, 3) := by decide +kernel
theorem dX5_tortoise_4 : decode cX5_tortoise 4 = .ok (.ifCond .eq 18, 3) := by decide +kernel
theorem dX5_tortoise_7 : decode cX5_tortoise 7 = .ok (.iload_n 2, 1) := by decide +kernel
theorem dX5_tortoise_8 : decode cX5_tortoise 8 = .ok (.invokestatic 62, 3) := by decide +kernel
theorem dX5_tortoise_11 : decode cX5_tortoise 11 = .ok (.ifCond .eq 11, 3) := by decide +kernel
theorem dX5_tortoise_14 : decode cX5_tortoise 14 = .ok (.iload_n 3, 1) := by decide +kernel
theorem dX5_tortoise_15 : decode cX5_tortoise 15 = .ok (.i2l, 1) := by decide +kernel
theorem dX5_tortoise_16 : decode cX5_tortoise 16 = .ok (.invokestatic 110, 3) := by decide +kernel
theorem dX5_tortoise_19 : decode cX5_tortoise 19 = .ok (.ifCond .ne 10, 3) := by decide +kernel
theorem dX5_tortoise_22 : decode cX5_tortoise 22 = .ok (.aload_n 0, 1) := by decide +kernel
theorem dX5_tortoise_23 : decode cX5_tortoise 23 = .ok (.ldc 41, 2) := by decide +kernel
theorem dX5_tortoise_25 : decode cX5_tortoise 25 = .ok (.invokevirtual 65, 3) := by decide +kernel
theorem dX5_tortoise_28 : decode cX5_tortoise 28 = .ok (.ireturn, 1) := by decide +kernel
theorem dX5_tortoise_29 : decode cX5_tortoise 29 = .ok (.aload_n 0, 1) := by decide +kernel
theorem dX5_tortoise_30 : decode cX5_tortoise 30 = .ok (.getfield 7, 3) := by decide +kernel
theorem dX5_tortoise_33 : decode cX5_tortoise 33 = .ok (.iconst 1, 1) := by decide +kernel
theorem dX5_tortoise_34 : decode cX5_tortoise 34 = .ok (.iaload, 1) := by decide +kernel
theorem dX5_tortoise_35 : decode cX5_tortoise 35 = .ok (.bipush 8, 2) := by decide +kernel
theorem dX5_tortoise_37 : decode cX5_tortoise 37 = .ok (.if_icmp .ne 12, 3) := by decide +kernel
theorem dX5_tortoise_40 : decode cX5_tortoise 40 = .ok (.aload_n 0, 1) := by decide +kernel
theorem dX5_tortoise_41 : decode cX5_tortoise 41 = .ok (.ldc 114, 2) := by decide +kernel
theorem dX5_tortoise_43 : decode cX5_tortoise 43 = .ok (.invokevirtual 65, 3) := by decide +kernel
theorem dX5_tortoise_46 : decode cX5_tortoise 46 = .ok (.goto 10, 3) := by decide +kernel
theorem dX5_tortoise_49 : decode cX5_tortoise 49 = .ok (.aload_n 0, 1) := by decide +kernel
theorem dX5_tortoise_50 : decode cX5_tortoise 50 = .ok (.iload_n 1, 1) := by decide +kernel
theorem dX5_tortoise_51 : decode cX5_tortoise 51 = .ok (.iload_n 2, 1) := by decide +kernel
theorem dX5_tortoise_52 : decode cX5_tortoise 52 = .ok (.iload_n 3, 1) := by decide +kernel
theorem dX5_tortoise_53 : decode cX5_tortoise 53 = .ok (.invokevirtual 115, 3) := by decide +kernel
theorem dX5_tortoise_56 : decode cX5_tortoise 56 = .ok (.ireturn, 1) := by decide +kernel
def finX5_tortoise (N : Ml) : Int32 × Mi → Option Value × Mi × Ml := fun b => (some (Value.int b.1), b.2, N)
noncomputable def fX5_tortoise_22   (M : Mi) : Option (Int32 × Mi) := (Option.bind (fX5_finds M (-1000000001)) (fun a2 => (some (a2.1, (a2.2)))))
theorem bX5_tortoise_22 {Z : Zt} {E : Ec} {N : Ml} (C : Ok 2 Z E cX5_tortoise 4 RX5 (some .int) 2)    (M : Mi)  : GT Z E 4 (finX5_tortoise N) 22 [(0, .ref (zA Z 6 0))] [] M N (fX5_tortoise_22 M) := by
  unfold fX5_tortoise_22
  refine r_aload_n C dX5_tortoise_22 0 0 rfl rfl ?_
  refine r_ldc (v := (-1000000001)) C dX5_tortoise_23 wd_859 ?_
  refine r_bind (fun a2 ha2 => ?_)
  refine r_callV (rest := []) (st2 := [.int a2.1]) C (mX5_finds (eL E) C.z M N (-1000000001) a2 ha2) lk_X5_65 (rvM C) (by decide) rfl rfl (Nat.le_of_ble_eq_true rfl) dX5_tortoise_25 rfl ?_
  exact r_iret C dX5_tortoise_28 rfl
noncomputable def fX5_tortoise   (M : Mi) (x1 : Int32) (x2 : Int32) (x3 : Int32) : Option (Int32 × Mi) := (if (fX5_isKind x1) = 0 then (fX5_tortoise_22 M) else (if (fX5_isCell x2) = 0 then (fX5_tortoise_22 M) else (if (fX5_isSet (Int32.toInt64 x3)) = 0 then (fX5_tortoise_22 M) else (if (M 0 1) = 8 then (Option.bind (fX5_finds M (-1000000002)) (fun a7 => (some (a7.1, (a7.2))))) else (Option.bind (fX5_adds (M 0) x1 x2 x3) (fun a6 => (some (a6.1, (sR M 0 (a6.2))))))))))
theorem bX5_tortoise {Z : Zt} {E : Ec} {N : Ml} (C : Ok 2 Z E cX5_tortoise 4 RX5 (some .int) 2)    (M : Mi) (x1 : Int32) (x2 : Int32) (x3 : Int32)  : GT Z E 4 (finX5_tortoise N) 0 [(0, .ref (zA Z 6 0)), (1, .int x1), (2, .int x2), (3, .int x3)] [] M N (fX5_tortoise M x1 x2 x3) := by
  unfold fX5_tortoise
  refine r_iload_n C dX5_tortoise_0 1 1 rfl rfl ?_
  refine r_callS (rest := []) (st2 := [.int (fX5_isKind x1)]) C (mX5_isKind (eL E) C.z _ _ x1) lk_X5_107 (by decide) rfl rfl (Nat.le_of_ble_eq_true rfl) dX5_tortoise_1 rfl ?_
  refine r_if_eq (tgt := 22) C dX5_tortoise_4 (by decide) (fun c1 => ?_) (fun c1 => ?_)
  · refine r_lv [0] (lv' := [(0, .ref (zA Z 6 0))]) rfl ?_
    exact bX5_tortoise_22 C M
  · refine r_iload_n C dX5_tortoise_7 2 2 rfl rfl ?_
    refine r_callS (rest := []) (st2 := [.int (fX5_isCell x2)]) C (mX5_isCell (eL E) C.z _ _ x2) lk_X5_62 (by decide) rfl rfl (Nat.le_of_ble_eq_true rfl) dX5_tortoise_8 rfl ?_
    refine r_if_eq (tgt := 22) C dX5_tortoise_11 (by decide) (fun c3 => ?_) (fun c3 => ?_)
    · refine r_lv [0] (lv' := [(0, .ref (zA Z 6 0))]) rfl ?_
      exact bX5_tortoise_22 C M
    · refine r_iload_n C dX5_tortoise_14 3 3 rfl rfl ?_
      refine r_i2l C dX5_tortoise_15 ?_
      refine r_callS (rest := []) (st2 := [.int (fX5_isSet (Int32.toInt64 x3))]) C (mX5_isSet (eL E) C.z _ _ (Int32.toInt64 x3)) lk_X5_110 (by decide) rfl rfl (Nat.le_of_ble_eq_true rfl) dX5_tortoise_16 rfl ?_
      refine r_if_ne (tgt := 29) C dX5_tortoise_19 (by decide) (fun c4 => ?_) (fun c4 => ?_)
      · refine r_aload_n C dX5_tortoise_29 0 0 rfl rfl ?_
        refine gf_X5_7 C dX5_tortoise_30 ?_
        refine r_iconst (v := 1) C dX5_tortoise_33 (by decide) ?_
        refine ald_M (v := (M 0 1)) C mI_0 (by decide) rfl dX5_tortoise_34 ?_
        refine r_bipush (v := 8) C dX5_tortoise_35 (by decide) ?_
        refine r_ic_ne (tgt := 49) C dX5_tortoise_37 (by decide) (fun c5 => ?_) (fun c5 => ?_)
        · refine r_aload_n C dX5_tortoise_49 0 0 rfl rfl ?_
          refine r_iload_n C dX5_tortoise_50 1 1 rfl rfl ?_
          refine r_iload_n C dX5_tortoise_51 2 2 rfl rfl ?_
          refine r_iload_n C dX5_tortoise_52 3 3 rfl rfl ?_
          refine r_bind (fun a6 ha6 => ?_)
          refine r_callV (rest := []) (st2 := [.int a6.1]) C (mX5_adds (eL E) C.z M _ (M 0) x1 x2 x3 a6 ha6).selfW lk_X5_115 (rvM C) (by decide) rfl rfl (Nat.le_of_ble_eq_true rfl) dX5_tortoise_53 rfl ?_
          exact r_iret C dX5_tortoise_56 rfl
        · refine r_aload_n C dX5_tortoise_40 0 0 rfl rfl ?_
          refine r_ldc (v := (-1000000002)) C dX5_tortoise_41 wd_917 ?_
          refine r_bind (fun a7 ha7 => ?_)
          refine r_callV (rest := []) (st2 := [.int a7.1]) C (mX5_finds (eL E) C.z M N (-1000000002) a7 ha7) lk_X5_65 (rvM C) (by decide) rfl rfl (Nat.le_of_ble_eq_true rfl) dX5_tortoise_43 rfl ?_
          refine r_goto (tgt := 56) C dX5_tortoise_46 (by decide) ?_
          exact r_iret C dX5_tortoise_56 rfl
      · refine r_lv [0] (lv' := [(0, .ref (zA Z 6 0))]) rfl ?_
        exact bX5_tortoise_22 C M
theorem mX5_tortoise (l : Launch) {Z : Zt} (hZ : Zok 2 Z) (M : Mi) (N : Ml) (x1 : Int32) (x2 : Int32) (x3 : Int32) (b : Int32 × Mi) (hb : fX5_tortoise M x1 x2 x3 = some b) : Ct 2 Z l yX5_tortoise cX5_tortoise 4 (some .int) 2 [.ref (zA Z 6 0), .int x1, .int x2, .int x3] M N (some (Value.int b.1), b.2, N) :=
  metG (fin := (finX5_tortoise N)) (by decide) (Nat.le_of_ble_eq_true rfl) (fun E _ C => bX5_tortoise C M x1 x2 x3) hb
theorem dX5_of_0 : decode cX5_of 0 = .ok (.aload_n 0, 1) := by decide +kernel
theorem dX5_of_1 : decode cX5_of 1 = .ok (.iload_n 1, 1) := by decide +kernel
theorem dX5_of_2 : decode cX5_of 2 = .ok (.invokevirtual 54, 3) := by decide +kernel
theorem dX5_of_5 : decode cX5_of 5 = .ok (.ifCond .eq 15, 3) := by decide +kernel
theorem dX5_of_8 : decode cX5_of 8 = .ok (.iload_n 2, 1) := by decide +kernel
theorem dX5_of_9 : decode cX5_of 9 = .ok (.i2l, 1) := by decide +kernel
theorem dX5_of_10 : decode cX5_of 10 = .ok (.lconst 0, 1) := by decide +kernel
theorem dX5_of_11 : decode cX5_of 11 = .ok (.ldc2_w 48, 3) := by decide +kernel
theorem dX5_of_14 : decode cX5_of 14 = .ok (.invokestatic 44, 3) := by decide +kernel
theorem dX5_of_17 : decode cX5_of 17 = .ok (.ifCond .ne 10, 3) := by decide +kernel
theorem dX5_of_20 : decode cX5_of 20 = .ok (.aload_n 0, 1) := by decide +kernel
theorem dX5_of_21 : decode cX5_of 21 = .ok (.ldc 41, 2) := by decide +kernel
theorem dX5_of_23 : decode cX5_of 23 = .ok (.invokevirtual 65, 3) := by decide +kernel
theorem dX5_of_26 : decode cX5_of 26 = .ok (.ireturn, 1) := by decide +kernel
theorem dX5_of_27 : decode cX5_of 27 = .ok (.iload_n 2, 1) := by decide +kernel
theorem dX5_of_28 : decode cX5_of 28 = .ok (.iconst 4, 1) := by decide +kernel
theorem dX5_of_29 : decode cX5_of 29 = .ok (.if_icmp .ge 12, 3) := by decide +kernel
theorem dX5_of_32 : decode cX5_of 32 = .ok (.aload_n 0, 1) := by decide +kernel
theorem dX5_of_33 : decode cX5_of 33 = .ok (.iload_n 1, 1) := by decide +kernel
theorem dX5_of_34 : decode cX5_of 34 = .ok (.iload_n 2, 1) := by decide +kernel
theorem dX5_of_35 : decode cX5_of 35 = .ok (.invokevirtual 83, 3) := by decide +kernel
theorem dX5_of_38 : decode cX5_of 38 = .ok (.goto 21, 3) := by decide +kernel
theorem dX5_of_41 : decode cX5_of 41 = .ok (.iload_n 2, 1) := by decide +kernel
theorem dX5_of_42 : decode cX5_of 42 = .ok (.iconst 4, 1) := by decide +kernel
theorem dX5_of_43 : decode cX5_of 43 = .ok (.if_icmp .ne 11, 3) := by decide +kernel
theorem dX5_of_46 : decode cX5_of 46 = .ok (.aload_n 0, 1) := by decide +kernel
theorem dX5_of_47 : decode cX5_of 47 = .ok (.iload_n 1, 1) := by decide +kernel
theorem dX5_of_48 : decode cX5_of 48 = .ok (.invokevirtual 119, 3) := by decide +kernel
theorem dX5_of_51 : decode cX5_of 51 = .ok (.goto 8, 3) := by decide +kernel
theorem dX5_of_54 : decode cX5_of 54 = .ok (.aload_n 0, 1) := by decide +kernel
theorem dX5_of_55 : decode cX5_of 55 = .ok (.iload_n 1, 1) := by decide +kernel
theorem dX5_of_56 : decode cX5_of 56 = .ok (.invokevirtual 122, 3) := by decide +kernel
theorem dX5_of_59 : decode cX5_of 59 = .ok (.ireturn, 1) := by decide +kernel
def finX5_of (N : Ml) : Int32 × Mi → Option Value × Mi × Ml := fun b => (some (Value.int b.1), b.2, N)
noncomputable def fX5_of_20   (M : Mi) : Option (Int32 × Mi) := (Option.bind (fX5_finds M (-1000000001)) (fun a2 => (some (a2.1, (a2.2)))))
theorem bX5_of_20 {Z : Zt} {E : Ec} {N : Ml} (C : Ok 2 Z E cX5_of 3 RX5 (some .int) 3)    (M : Mi)  : GT Z E 3 (finX5_of N) 20 [(0, .ref (zA Z 6 0))] [] M N (fX5_of_20 M) := by
  unfold fX5_of_20
  refine r_aload_n C dX5_of_20 0 0 rfl rfl ?_
  refine r_ldc (v := (-1000000001)) C dX5_of_21 wd_859 ?_
  refine r_bind (fun a2 ha2 => ?_)
  refine r_callV (rest := []) (st2 := [.int a2.1]) C (mX5_finds (eL E) C.z M N (-1000000001) a2 ha2) lk_X5_65 (rvM C) (by decide) rfl rfl (Nat.le_of_ble_eq_true rfl) dX5_of_23 rfl ?_
  exact r_iret C dX5_of_26 rfl
noncomputable def fX5_of   (M : Mi) (x1 : Int32) (x2 : Int32) : Option (Int32 × Mi) := (if (fX5_isOne (M 0) x1) = 0 then (fX5_of_20 M) else (if (fX5_in (Int32.toInt64 x2) 0 5) = 0 then (fX5_of_20 M) else (if 4 ≤ x2 then (if x2 = 4 then (Option.bind (fX5_aimOf (M 0) x1) (fun a7 => (some (a7, M)))) else (Option.bind (fX5_paceOf (M 0) x1) (fun a6 => (some (a6, M))))) else (Option.bind (fX5_its (M 0) x1 x2) (fun a8 => (some (a8, M)))))))
theorem bX5_of {Z : Zt} {E : Ec} {N : Ml} (C : Ok 2 Z E cX5_of 3 RX5 (some .int) 3)    (M : Mi) (x1 : Int32) (x2 : Int32)  : GT Z E 3 (finX5_of N) 0 [(0, .ref (zA Z 6 0)), (1, .int x1), (2, .int x2)] [] M N (fX5_of M x1 x2) := by
  unfold fX5_of
  refine r_aload_n C dX5_of_0 0 0 rfl rfl ?_
  refine r_iload_n C dX5_of_1 1 1 rfl rfl ?_
  refine r_callV (rest := []) (st2 := [.int (fX5_isOne (M 0) x1)]) C (mX5_isOne (eL E) C.z M _ (M 0) x1).selfR lk_X5_54 (rvM C) (by decide) rfl rfl (Nat.le_of_ble_eq_true rfl) dX5_of_2 rfl ?_
  refine r_if_eq (tgt := 20) C dX5_of_5 (by decide) (fun c1 => ?_) (fun c1 => ?_)
  · refine r_lv [0] (lv' := [(0, .ref (zA Z 6 0))]) rfl ?_
    exact bX5_of_20 C M
  · refine r_iload_n C dX5_of_8 2 2 rfl rfl ?_
    refine r_i2l C dX5_of_9 ?_
    refine r_lconst (v := 0) C dX5_of_10 (by decide) ?_
    refine r_ldc2 (v := 5) C dX5_of_11 wd_912 ?_
    refine r_callS (rest := []) (st2 := [.int (fX5_in (Int32.toInt64 x2) 0 5)]) C (mX5_in (eL E) C.z _ _ (Int32.toInt64 x2) 0 5) lk_X5_44 (by decide) rfl rfl (Nat.le_of_ble_eq_true rfl) dX5_of_14 rfl ?_
    refine r_if_ne (tgt := 27) C dX5_of_17 (by decide) (fun c3 => ?_) (fun c3 => ?_)
    · refine r_iload_n C dX5_of_27 2 2 rfl rfl ?_
      refine r_iconst (v := 4) C dX5_of_28 (by decide) ?_
      refine r_ic_ge (tgt := 41) C dX5_of_29 (by decide) (fun c4 => ?_) (fun c4 => ?_)
      · refine r_iload_n C dX5_of_41 2 2 rfl rfl ?_
        refine r_iconst (v := 4) C dX5_of_42 (by decide) ?_
        refine r_ic_ne (tgt := 54) C dX5_of_43 (by decide) (fun c5 => ?_) (fun c5 => ?_)
        · refine r_aload_n C dX5_of_54 0 0 rfl rfl ?_
          refine r_iload_n C dX5_of_55 1 1 rfl rfl ?_
          refine r_bind (fun a6 ha6 => ?_)
          refine r_callV (rest := []) (st2 := [.int a6]) C (mX5_paceOf (eL E) C.z M _ (M 0) x1 a6 ha6).selfR lk_X5_122 (rvM C) (by decide) rfl rfl (Nat.le_of_ble_eq_true rfl) dX5_of_56 rfl ?_
          exact r_iret C dX5_of_59 rfl
        · refine r_aload_n C dX5_of_46 0 0 rfl rfl ?_
          refine r_iload_n C dX5_of_47 1 1 rfl rfl ?_
          refine r_bind (fun a7 ha7 => ?_)
          refine r_callV (rest := []) (st2 := [.int a7]) C (mX5_aimOf (eL E) C.z M _ (M 0) x1 a7 ha7).selfR lk_X5_119 (rvM C) (by decide) rfl rfl (Nat.le_of_ble_eq_true rfl) dX5_of_48 rfl ?_
          refine r_goto (tgt := 59) C dX5_of_51 (by decide) ?_
          exact r_iret C dX5_of_59 rfl
      · refine r_aload_n C dX5_of_32 0 0 rfl rfl ?_
        refine r_iload_n C dX5_of_33 1 1 rfl rfl ?_
        refine r_iload_n C dX5_of_34 2 2 rfl rfl ?_
        refine r_bind (fun a8 ha8 => ?_)
        refine r_callV (rest := []) (st2 := [.int a8]) C (mX5_its (eL E) C.z M _ (M 0) x1 x2 a8 ha8).selfR lk_X5_83 (rvM C) (by decide) rfl rfl (Nat.le_of_ble_eq_true rfl) dX5_of_35 rfl ?_
        refine r_goto (tgt := 59) C dX5_of_38 (by decide) ?_
        exact r_iret C dX5_of_59 rfl
    · refine r_lv [0] (lv' := [(0, .ref (zA Z 6 0))]) rfl ?_
      exact bX5_of_20 C M
theorem mX5_of (l : Launch) {Z : Zt} (hZ : Zok 2 Z) (M : Mi) (N : Ml) (x1 : Int32) (x2 : Int32) (b : Int32 × Mi) (hb : fX5_of M x1 x2 = some b) : Ct 2 Z l yX5_of cX5_of 3 (some .int) 3 [.ref (zA Z 6 0), .int x1, .int x2] M N (some (Value.int b.1), b.2, N) :=
  metG (fin := (finX5_of N)) (by decide) (Nat.le_of_ble_eq_true rfl) (fun E _ C => bX5_of C M x1 x2) hb
theorem dX5_set_0 : decode cX5_set 0 = .ok (.iload_n 2, 1) := by decide +kernel
theorem dX5_set_1 : decode cX5_set 1 = .ok (.iconst 1, 1) := by decide +kernel
theorem dX5_set_2 : decode cX5_set 2 = .ok (.if_icmp .ne 10, 3) := by decide +kernel
theorem dX5_set_5 : decode cX5_set 5 = .ok (.iload_n 3, 1) := by decide +kernel
theorem dX5_set_6 : decode cX5_set 6 = .ok (.invokestatic 62, 3) := by decide +kernel
theorem dX5_set_9 : decode cX5_set 9 = .ok (.goto 36, 3) := by decide +kernel
theorem dX5_set_12 : decode cX5_set 12 = .ok (.iload_n 2, 1) := by decide +kernel
theorem dX5_set_13 : decode cX5_set 13 = .ok (.iconst 2, 1) := by decide +kernel
theorem dX5_set_14 : decode cX5_set 14 = .ok (.if_icmp .ne 11, 3) := by decide +kernel
theorem dX5_set_17 : decode cX5_set 17 = .ok (.iload_n 3, 1) := by decide +kernel
theorem dX5_set_18 : decode cX5_set 18 = .ok (.i2l, 1) := by decide +kernel
theorem dX5_set_19 : decode cX5_set 19 = .ok (.invokestatic 110, 3) := by decide +kernel
theorem dX5_set_22 : decode cX5_set 22 = .ok (.goto 23, 3) := by decide +kernel
theorem dX5_set_25 : decode cX5_set 25 = .ok (.iload_n 2, 1) := by decide +kernel
theorem dX5_set_26 : decode cX5_set 26 = .ok (.iconst 3, 1) := by decide +kernel
theorem dX5_set_27 : decode cX5_set 27 = .ok (.if_icmp .ne 17, 3) := by decide +kernel
theorem dX5_set_30 : decode cX5_set 30 = .ok (.iload_n 3, 1) := by decide +kernel
theorem dX5_set_31 : decode cX5_set 31 = .ok (.i2l, 1) := by decide +kernel
theorem dX5_set_32 : decode cX5_set 32 = .ok (.lconst 0, 1) := by decide +kernel
theorem dX5_set_33 : decode cX5_set 33 = .ok (.lconst 1, 1) := by decide +kernel
theorem dX5_set_34 : decode cX5_set 34 = .ok (.invokestatic 44, 3) := by decide +kernel
theorem dX5_set_37 : decode cX5_set 37 = .ok (.ifCond .eq 7, 3) := by decide +kernel
theorem dX5_set_40 : decode cX5_set 40 = .ok (.iconst 1, 1) := by decide +kernel
theorem dX5_set_41 : decode cX5_set 41 = .ok (.goto 4, 3) := by decide +kernel
theorem dX5_set_44 : decode cX5_set 44 = .ok (.iconst 0, 1) := by decide +kernel
theorem dX5_set_45 : decode cX5_set 45 = .ok (.istore 4, 2) := by decide +kernel
theorem dX5_set_47 : decode cX5_set 47 = .ok (.aload_n 0, 1) := by decide +kernel
theorem dX5_set_48 : decode cX5_set 48 = .ok (.iload_n 1, 1) := by decide +kernel
theorem dX5_set_49 : decode cX5_set 49 = .ok (.invokevirtual 54, 3) := by decide +kernel
theorem dX5_set_52 : decode cX5_set 52 = .ok (.ifCond .eq 21, 3) := by decide +kernel
theorem dX5_set_55 : decode cX5_set 55 = .ok (.iload 4, 2) := by decide +kernel
theorem dX5_set_57 : decode cX5_set 57 = .ok (.ifCond .eq 16, 3) := by decide +kernel
theorem dX5_set_60 : decode cX5_set 60 = .ok (.aload_n 0, 1) := by decide +kernel
theorem dX5_set_61 : decode cX5_set 61 = .ok (.iload_n 1, 1) := by decide +kernel
theorem dX5_set_62 : decode cX5_set 62 = .ok (.iload_n 2, 1) := by decide +kernel
theorem dX5_set_63 : decode cX5_set 63 = .ok (.invokestatic 58, 3) := by decide +kernel
theorem dX5_set_66 : decode cX5_set 66 = .ok (.iload_n 3, 1) := by decide +kernel
theorem dX5_set_67 : decode cX5_set 67 = .ok (.invokevirtual 78, 3) := by decide +kernel
theorem dX5_set_70 : decode cX5_set 70 = .ok (.goto 9, 3) := by decide +kernel
theorem dX5_set_73 : decode cX5_set 73 = .ok (.aload_n 0, 1) := by decide +kernel
theorem dX5_set_74 : decode cX5_set 74 = .ok (.ldc 41, 2) := by decide +kernel
theorem dX5_set_76 : decode cX5_set 76 = .ok (.invokevirtual 65, 3) := by decide +kernel
theorem dX5_set_79 : decode cX5_set 79 = .ok (.ireturn, 1) := by decide +kernel
def finX5_set (N : Ml) : Int32 × Mi → Option Value × Mi × Ml := fun b => (some (Value.int b.1), b.2, N)
noncomputable def fX5_set_73   (M : Mi) : Option (Int32 × Mi) := (Option.bind (fX5_finds M (-1000000001)) (fun a5 => (some (a5.1, (a5.2)))))
theorem bX5_set_73 {Z : Zt} {E : Ec} {N : Ml} (C : Ok 2 Z E cX5_set 5 RX5 (some .int) 2)    (M : Mi)  : GT Z E 5 (finX5_set N) 73 [(0, .ref (zA Z 6 0))] [] M N (fX5_set_73 M) := by
  unfold fX5_set_73
  refine r_aload_n C dX5_set_73 0 0 rfl rfl ?_
  refine r_ldc (v := (-1000000001)) C dX5_set_74 wd_859 ?_
  refine r_bind (fun a5 ha5 => ?_)
  refine r_callV (rest := []) (st2 := [.int a5.1]) C (mX5_finds (eL E) C.z M N (-1000000001) a5 ha5) lk_X5_65 (rvM C) (by decide) rfl rfl (Nat.le_of_ble_eq_true rfl) dX5_set_76 rfl ?_
  exact r_iret C dX5_set_79 rfl
noncomputable def fX5_set_45   (M : Mi) (x1 : Int32) (x2 : Int32) (x3 : Int32) (s0 : Int32) : Option (Int32 × Mi) := (if (fX5_isOne (M 0) x1) = 0 then (fX5_set_73 M) else (if s0 = 0 then (fX5_set_73 M) else (Option.bind (fX5_becomes (M 0) (fX5_spotOf x1 x2) x3) (fun a7 => (some (a7.1, (sR M 0 (a7.2))))))))
theorem bX5_set_45 {Z : Zt} {E : Ec} {N : Ml} (C : Ok 2 Z E cX5_set 5 RX5 (some .int) 2)    (M : Mi) (x1 : Int32) (x2 : Int32) (x3 : Int32) (s0 : Int32)  : GT Z E 5 (finX5_set N) 45 [(0, .ref (zA Z 6 0)), (1, .int x1), (2, .int x2), (3, .int x3)] [.int s0] M N (fX5_set_45 M x1 x2 x3 s0) := by
  unfold fX5_set_45
  refine r_istore (lv' := [(4, .int s0), (0, .ref (zA Z 6 0)), (1, .int x1), (2, .int x2), (3, .int x3)]) C dX5_set_45 (by decide) rfl ?_
  refine r_aload_n C dX5_set_47 0 1 rfl rfl ?_
  refine r_iload_n C dX5_set_48 1 2 rfl rfl ?_
  refine r_callV (rest := []) (st2 := [.int (fX5_isOne (M 0) x1)]) C (mX5_isOne (eL E) C.z M _ (M 0) x1).selfR lk_X5_54 (rvM C) (by decide) rfl rfl (Nat.le_of_ble_eq_true rfl) dX5_set_49 rfl ?_
  refine r_if_eq (tgt := 73) C dX5_set_52 (by decide) (fun c4 => ?_) (fun c4 => ?_)
  · refine r_lv [1] (lv' := [(0, .ref (zA Z 6 0))]) rfl ?_
    exact bX5_set_73 C M
  · refine r_iload C dX5_set_55 0 rfl ?_
    refine r_if_eq (tgt := 73) C dX5_set_57 (by decide) (fun c6 => ?_) (fun c6 => ?_)
    · refine r_lv [1] (lv' := [(0, .ref (zA Z 6 0))]) rfl ?_
      exact bX5_set_73 C M
    · refine r_aload_n C dX5_set_60 0 1 rfl rfl ?_
      refine r_iload_n C dX5_set_61 1 2 rfl rfl ?_
      refine r_iload_n C dX5_set_62 2 3 rfl rfl ?_
      refine r_callS (rest := [.ref (zA Z 6 0)]) (st2 := [.int (fX5_spotOf x1 x2), .ref (zA Z 6 0)]) C (mX5_spotOf (eL E) C.z _ _ x1 x2) lk_X5_58 (by decide) rfl rfl (Nat.le_of_ble_eq_true rfl) dX5_set_63 rfl ?_
      refine r_iload_n C dX5_set_66 3 4 rfl rfl ?_
      refine r_bind (fun a7 ha7 => ?_)
      refine r_callV (rest := []) (st2 := [.int a7.1]) C (mX5_becomes (eL E) C.z M _ (M 0) (fX5_spotOf x1 x2) x3 a7 ha7).selfW lk_X5_78 (rvM C) (by decide) rfl rfl (Nat.le_of_ble_eq_true rfl) dX5_set_67 rfl ?_
      refine r_goto (tgt := 79) C dX5_set_70 (by decide) ?_
      exact r_iret C dX5_set_79 rfl
noncomputable def fX5_set_44   (M : Mi) (x1 : Int32) (x2 : Int32) (x3 : Int32) : Option (Int32 × Mi) := (fX5_set_45 M x1 x2 x3 0)
theorem bX5_set_44 {Z : Zt} {E : Ec} {N : Ml} (C : Ok 2 Z E cX5_set 5 RX5 (some .int) 2)    (M : Mi) (x1 : Int32) (x2 : Int32) (x3 : Int32)  : GT Z E 5 (finX5_set N) 44 [(0, .ref (zA Z 6 0)), (1, .int x1), (2, .int x2), (3, .int x3)] [] M N (fX5_set_44 M x1 x2 x3) := by
  unfold fX5_set_44
  refine r_iconst (v := 0) C dX5_set_44 (by decide) ?_
  exact bX5_set_45 C M x1 x2 x3 0
noncomputable def fX5_set   (M : Mi) (x1 : Int32) (x2 : Int32) (x3 : Int32) : Option (Int32 × Mi) := (if x2 = 1 then (fX5_set_45 M x1 x2 x3 (fX5_isCell x3)) else (if x2 = 2 then (fX5_set_45 M x1 x2 x3 (fX5_isSet (Int32.toInt64 x3))) else (if x2 = 3 then (if (fX5_in (Int32.toInt64 x3) 0 1) = 0 then (fX5_set_44 M x1 x2 x3) else (fX5_set_45 M x1 x2 x3 1)) else (fX5_set_44 M x1 x2 x3))))
theorem bX5_set {Z : Zt} {E : Ec} {N : Ml} (C : Ok 2 Z E cX5_set 5 RX5 (some .int) 2)    (M : Mi) (x1 : Int32) (x2 : Int32) (x3 : Int32)  : GT Z E 5 (finX5_set N) 0 [(0, .ref (zA Z 6 0)), (1, .int x1), (2, .int x2), (3, .int x3)] [] M N (fX5_set M x1 x2 x3) := by
  unfold fX5_set
  refine r_iload_n C dX5_set_0 2 2 rfl rfl ?_
  refine r_iconst (v := 1) C dX5_set_1 (by decide) ?_
  refine r_ic_ne (tgt := 12) C dX5_set_2 (by decide) (fun c1 => ?_) (fun c1 => ?_)
  · refine r_iload_n C dX5_set_12 2 2 rfl rfl ?_
    refine r_iconst (v := 2) C dX5_set_13 (by decide) ?_
    refine r_ic_ne (tgt := 25) C dX5_set_14 (by decide) (fun c2 => ?_) (fun c2 => ?_)
    · refine r_iload_n C dX5_set_25 2 2 rfl rfl ?_
      refine r_iconst (v := 3) C dX5_set_26 (by decide) ?_
      refine r_ic_ne (tgt := 44) C dX5_set_27 (by decide) (fun c3 => ?_) (fun c3 => ?_)
      · exact bX5_set_44 C M x1 x2 x3
      · refine r_iload_n C dX5_set_30 3 3 rfl rfl ?_
        refine r_i2l C dX5_set_31 ?_
        refine r_lconst (v := 0) C dX5_set_32 (by decide) ?_
        refine r_lconst (v := 1) C dX5_set_33 (by decide) ?_
        refine r_callS (rest := []) (st2 := [.int (fX5_in (Int32.toInt64 x3) 0 1)]) C (mX5_in (eL E) C.z _ _ (Int32.toInt64 x3) 0 1) lk_X5_44 (by decide) rfl rfl (Nat.le_of_ble_eq_true rfl) dX5_set_34 rfl ?_
        refine r_if_eq (tgt := 44) C dX5_set_37 (by decide) (fun c8 => ?_) (fun c8 => ?_)
        · exact bX5_set_44 C M x1 x2 x3
        · refine r_iconst (v := 1) C dX5_set_40 (by decide) ?_
          refine r_goto (tgt := 45) C dX5_set_41 (by decide) ?_
          exact bX5_set_45 C M x1 x2 x3 1
    · refine r_iload_n C dX5_set_17 3 3 rfl rfl ?_
      refine r_i2l C dX5_set_18 ?_
      refine r_callS (rest := []) (st2 := [.int (fX5_isSet (Int32.toInt64 x3))]) C (mX5_isSet (eL E) C.z _ _ (Int32.toInt64 x3)) lk_X5_110 (by decide) rfl rfl (Nat.le_of_ble_eq_true rfl) dX5_set_19 rfl ?_
      refine r_goto (tgt := 45) C dX5_set_22 (by decide) ?_
      exact bX5_set_45 C M x1 x2 x3 (fX5_isSet (Int32.toInt64 x3))
  · refine r_iload_n C dX5_set_5 3 3 rfl rfl ?_
    refine r_callS (rest := []) (st2 := [.int (fX5_isCell x3)]) C (mX5_isCell (eL E) C.z _ _ x3) lk_X5_62 (by decide) rfl rfl (Nat.le_of_ble_eq_true rfl) dX5_set_6 rfl ?_
    refine r_goto (tgt := 45) C dX5_set_9 (by decide) ?_
    exact bX5_set_45 C M x1 x2 x3 (fX5_isCell x3)
theorem mX5_set (l : Launch) {Z : Zt} (hZ : Zok 2 Z) (M : Mi) (N : Ml) (x1 : Int32) (x2 : Int32) (x3 : Int32) (b : Int32 × Mi) (hb : fX5_set M x1 x2 x3 = some b) : Ct 2 Z l yX5_set cX5_set 5 (some .int) 2 [.ref (zA Z 6 0), .int x1, .int x2, .int x3] M N (some (Value.int b.1), b.2, N) :=
  metG (fin := (finX5_set N)) (by decide) (Nat.le_of_ble_eq_true rfl) (fun E _ C => bX5_set C M x1 x2 x3) hb
theorem dX5_turn_0 : decode cX5_turn 0 = .ok (.aload_n 0, 1) := by decide +kernel
theorem dX5_turn_1 : decode cX5_turn 1 = .ok (.iload_n 1, 1) := by decide +kernel
theorem dX5_turn_2 : decode cX5_turn 2 = .ok (.invokevirtual 54, 3) := by decide +kernel
theorem dX5_turn_5 : decode cX5_turn 5 = .ok (.ifCond .eq 23, 3) := by decide +kernel
theorem dX5_turn_8 : decode cX5_turn 8 = .ok (.iload_n 2, 1) := by decide +kernel
theorem dX5_turn_9 : decode cX5_turn 9 = .ok (.invokestatic 107, 3) := by decide +kernel
theorem dX5_turn_12 : decode cX5_turn 12 = .ok (.ifCond .eq 16, 3) := by decide +kernel
theorem dX5_turn_15 : decode cX5_turn 15 = .ok (.aload_n 0, 1) := by decide +kernel
theorem dX5_turn_16 : decode cX5_turn 16 = .ok (.iload_n 1, 1) := by decide +kernel
theorem dX5_turn_17 : decode cX5_turn 17 = .ok (.iconst 0, 1) := by decide +kernel
theorem dX5_turn_18 : decode cX5_turn 18 = .ok (.invokestatic 58, 3) := by decide +kernel
theorem dX5_turn_21 : decode cX5_turn 21 = .ok (.iload_n 2, 1) := by decide +kernel
theorem dX5_turn_22 : decode cX5_turn 22 = .ok (.invokevirtual 78, 3) := by decide +kernel
theorem dX5_turn_25 : decode cX5_turn 25 = .ok (.goto 9, 3) := by decide +kernel
theorem dX5_turn_28 : decode cX5_turn 28 = .ok (.aload_n 0, 1) := by decide +kernel
theorem dX5_turn_29 : decode cX5_turn 29 = .ok (.ldc 41, 2) := by decide +kernel
theorem dX5_turn_31 : decode cX5_turn 31 = .ok (.invokevirtual 65, 3) := by decide +kernel
theorem dX5_turn_34 : decode cX5_turn 34 = .ok (.ireturn, 1) := by decide +kernel
def finX5_turn (N : Ml) : Int32 × Mi → Option Value × Mi × Ml := fun b => (some (Value.int b.1), b.2, N)
noncomputable def fX5_turn_28   (M : Mi) : Option (Int32 × Mi) := (Option.bind (fX5_finds M (-1000000001)) (fun a2 => (some (a2.1, (a2.2)))))
theorem bX5_turn_28 {Z : Zt} {E : Ec} {N : Ml} (C : Ok 2 Z E cX5_turn 3 RX5 (some .int) 2)    (M : Mi)  : GT Z E 3 (finX5_turn N) 28 [(0, .ref (zA Z 6 0))] [] M N (fX5_turn_28 M) := by
  unfold fX5_turn_28
  refine r_aload_n C dX5_turn_28 0 0 rfl rfl ?_
  refine r_ldc (v := (-1000000001)) C dX5_turn_29 wd_859 ?_
  refine r_bind (fun a2 ha2 => ?_)
  refine r_callV (rest := []) (st2 := [.int a2.1]) C (mX5_finds (eL E) C.z M N (-1000000001) a2 ha2) lk_X5_65 (rvM C) (by decide) rfl rfl (Nat.le_of_ble_eq_true rfl) dX5_turn_31 rfl ?_
  exact r_iret C dX5_turn_34 rfl
noncomputable def fX5_turn   (M : Mi) (x1 : Int32) (x2 : Int32) : Option (Int32 × Mi) := (if (fX5_isOne (M 0) x1) = 0 then (fX5_turn_28 M) else (if (fX5_isKind x2) = 0 then (fX5_turn_28 M) else (Option.bind (fX5_becomes (M 0) (fX5_spotOf x1 0) x2) (fun a4 => (some (a4.1, (sR M 0 (a4.2))))))))
theorem bX5_turn {Z : Zt} {E : Ec} {N : Ml} (C : Ok 2 Z E cX5_turn 3 RX5 (some .int) 2)    (M : Mi) (x1 : Int32) (x2 : Int32)  : GT Z E 3 (finX5_turn N) 0 [(0, .ref (zA Z 6 0)), (1, .int x1), (2, .int x2)] [] M N (fX5_turn M x1 x2) := by
  unfold fX5_turn
  refine r_aload_n C dX5_turn_0 0 0 rfl rfl ?_
  refine r_iload_n C dX5_turn_1 1 1 rfl rfl ?_
  refine r_callV (rest := []) (st2 := [.int (fX5_isOne (M 0) x1)]) C (mX5_isOne (eL E) C.z M _ (M 0) x1).selfR lk_X5_54 (rvM C) (by decide) rfl rfl (Nat.le_of_ble_eq_true rfl) dX5_turn_2 rfl ?_
  refine r_if_eq (tgt := 28) C dX5_turn_5 (by decide) (fun c1 => ?_) (fun c1 => ?_)
  · refine r_lv [0] (lv' := [(0, .ref (zA Z 6 0))]) rfl ?_
    exact bX5_turn_28 C M
  · refine r_iload_n C dX5_turn_8 2 2 rfl rfl ?_
    refine r_callS (rest := []) (st2 := [.int (fX5_isKind x2)]) C (mX5_isKind (eL E) C.z _ _ x2) lk_X5_107 (by decide) rfl rfl (Nat.le_of_ble_eq_true rfl) dX5_turn_9 rfl ?_
    refine r_if_eq (tgt := 28) C dX5_turn_12 (by decide) (fun c3 => ?_) (fun c3 => ?_)
    · refine r_lv [0] (lv' := [(0, .ref (zA Z 6 0))]) rfl ?_
      exact bX5_turn_28 C M
    · refine r_aload_n C dX5_turn_15 0 0 rfl rfl ?_
      refine r_iload_n C dX5_turn_16 1 1 rfl rfl ?_
      refine r_iconst (v := 0) C dX5_turn_17 (by decide) ?_
      refine r_callS (rest := [.ref (zA Z 6 0)]) (st2 := [.int (fX5_spotOf x1 0), .ref (zA Z 6 0)]) C (mX5_spotOf (eL E) C.z _ _ x1 0) lk_X5_58 (by decide) rfl rfl (Nat.le_of_ble_eq_true rfl) dX5_turn_18 rfl ?_
      refine r_iload_n C dX5_turn_21 2 2 rfl rfl ?_
      refine r_bind (fun a4 ha4 => ?_)
      refine r_callV (rest := []) (st2 := [.int a4.1]) C (mX5_becomes (eL E) C.z M _ (M 0) (fX5_spotOf x1 0) x2 a4 ha4).selfW lk_X5_78 (rvM C) (by decide) rfl rfl (Nat.le_of_ble_eq_true rfl) dX5_turn_22 rfl ?_
      refine r_goto (tgt := 34) C dX5_turn_25 (by decide) ?_
      exact r_iret C dX5_turn_34 rfl
theorem mX5_turn (l : Launch) {Z : Zt} (hZ : Zok 2 Z) (M : Mi) (N : Ml) (x1 : Int32) (x2 : Int32) (b : Int32 × Mi) (hb : fX5_turn M x1 x2 = some b) : Ct 2 Z l yX5_turn cX5_turn 3 (some .int) 2 [.ref (zA Z 6 0), .int x1, .int x2] M N (some (Value.int b.1), b.2, N) :=
  metG (fin := (finX5_turn N)) (by decide) (Nat.le_of_ble_eq_true rfl) (fun E _ C => bX5_turn C M x1 x2) hb
theorem dX5_above_0 : decode cX5_above 0 = .ok (.iload_n 0, 1) := by decide +kernel
theorem dX5_above_1 : decode cX5_above 1 = .ok (.iconst 4, 1) := by decide +kernel
theorem dX5_above_2 : decode cX5_above 2 = .ok (.if_icmp .ne 7, 3) := by decide +kernel
theorem dX5_above_5 : decode cX5_above 5 = .ok (.iconst 1, 1) := by decide +kernel
theorem dX5_above_6 : decode cX5_above 6 = .ok (.goto 13, 3) := by decide +kernel
theorem dX5_above_9 : decode cX5_above 9 = .ok (.iload_n 0, 1) := by decide +kernel
theorem dX5_above_10 : decode cX5_above 10 = .ok (.iconst 5, 1) := by decide +kernel
theorem dX5_above_11 : decode cX5_above 11 = .ok (.if_icmp .ne 7, 3) := by decide +kernel
theorem dX5_above_14 : decode cX5_above 14 = .ok (.iconst 2, 1) := by decide +kernel
theorem dX5_above_15 : decode cX5_above 15 = .ok (.goto 4, 3) := by decide +kernel
theorem dX5_above_18 : decode cX5_above 18 = .ok (.iconst 0, 1) := by decide +kernel
theorem dX5_above_19 : decode cX5_above 19 = .ok (.ireturn, 1) := by decide +kernel
def finX5_above (M : Mi) (N : Ml) : Int32 → Option Value × Mi × Ml := fun b => (some (Value.int b), M, N)
noncomputable def fX5_above   (x0 : Int32) : Int32 := (if x0 = 4 then 1 else (if x0 = 5 then 2 else 0))
theorem bX5_above {Z : Zt} {E : Ec} {M : Mi} {N : Ml} (C : Ok 2 Z E cX5_above 1 RX5 (some .int) 0)    (x0 : Int32)  : GT Z E 1 (finX5_above M N) 0 [(0, .int x0)] [] M N (some (fX5_above x0)) := by
  unfold fX5_above
  refine r_iload_n C dX5_above_0 0 0 rfl rfl ?_
  refine r_iconst (v := 4) C dX5_above_1 (by decide) ?_
  refine r_st ?_
  refine r_ic_ne (tgt := 9) C dX5_above_2 (by decide) (fun c1 => ?_) (fun c1 => ?_)
  · refine r_iload_n C dX5_above_9 0 0 rfl rfl ?_
    refine r_iconst (v := 5) C dX5_above_10 (by decide) ?_
    refine r_st ?_
    refine r_ic_ne (tgt := 18) C dX5_above_11 (by decide) (fun c2 => ?_) (fun c2 => ?_)
    · refine r_iconst (v := 0) C dX5_above_18 (by decide) ?_
      exact r_iret C dX5_above_19 rfl
    · refine r_iconst (v := 2) C dX5_above_14 (by decide) ?_
      refine r_goto (tgt := 19) C dX5_above_15 (by decide) ?_
      exact r_iret C dX5_above_19 rfl
  · refine r_iconst (v := 1) C dX5_above_5 (by decide) ?_
    refine r_goto (tgt := 19) C dX5_above_6 (by decide) ?_
    exact r_iret C dX5_above_19 rfl
theorem mX5_above (l : Launch) {Z : Zt} (hZ : Zok 2 Z) (M : Mi) (N : Ml) (x0 : Int32) : Ct 2 Z l yX5_above cX5_above 1 (some .int) 0 [.int x0] M N (some (Value.int (fX5_above x0)), M, N) :=
  metG (fin := (finX5_above M N)) (by decide) (Nat.le_of_ble_eq_true rfl) (fun E _ C => bX5_above C x0) rfl
theorem dX5_as_0 : decode cX5_as 0 = .ok (.aload_n 0, 1) := by decide +kernel
theorem dX5_as_1 : decode cX5_as 1 = .ok (.iload_n 1, 1) := by decide +kernel
theorem dX5_as_2 : decode cX5_as 2 = .ok (.invokevirtual 54, 3) := by decide +kernel
theorem dX5_as_5 : decode cX5_as 5 = .ok (.ifCond .eq 10, 3) := by decide +kernel
theorem dX5_as_8 : decode cX5_as 8 = .ok (.iload_n 2, 1) := by decide +kernel
theorem dX5_as_9 : decode cX5_as 9 = .ok (.invokestatic 107, 3) := by decide +kernel
theorem dX5_as_12 : decode cX5_as 12 = .ok (.ifCond .ne 10, 3) := by decide +kernel
theorem dX5_as_15 : decode cX5_as 15 = .ok (.aload_n 0, 1) := by decide +kernel
theorem dX5_as_16 : decode cX5_as 16 = .ok (.ldc 41, 2) := by decide +kernel
theorem dX5_as_18 : decode cX5_as 18 = .ok (.invokevirtual 65, 3) := by decide +kernel
theorem dX5_as_21 : decode cX5_as 21 = .ok (.ireturn, 1) := by decide +kernel
theorem dX5_as_22 : decode cX5_as 22 = .ok (.aload_n 0, 1) := by decide +kernel
theorem dX5_as_23 : decode cX5_as 23 = .ok (.iload_n 1, 1) := by decide +kernel
theorem dX5_as_24 : decode cX5_as 24 = .ok (.iconst 0, 1) := by decide +kernel
theorem dX5_as_25 : decode cX5_as 25 = .ok (.invokevirtual 83, 3) := by decide +kernel
theorem dX5_as_28 : decode cX5_as 28 = .ok (.istore_n 3, 1) := by decide +kernel
theorem dX5_as_29 : decode cX5_as 29 = .ok (.iload_n 3, 1) := by decide +kernel
theorem dX5_as_30 : decode cX5_as 30 = .ok (.iload_n 2, 1) := by decide +kernel
theorem dX5_as_31 : decode cX5_as 31 = .ok (.if_icmp .eq 15, 3) := by decide +kernel
theorem dX5_as_34 : decode cX5_as 34 = .ok (.iload_n 3, 1) := by decide +kernel
theorem dX5_as_35 : decode cX5_as 35 = .ok (.ifCond .eq 11, 3) := by decide +kernel
theorem dX5_as_38 : decode cX5_as 38 = .ok (.iload_n 3, 1) := by decide +kernel
theorem dX5_as_39 : decode cX5_as 39 = .ok (.invokestatic 125, 3) := by decide +kernel
theorem dX5_as_42 : decode cX5_as 42 = .ok (.istore_n 3, 1) := by decide +kernel
theorem dX5_as_43 : decode cX5_as 43 = .ok (.goto (-14), 3) := by decide +kernel
theorem dX5_as_46 : decode cX5_as 46 = .ok (.iload_n 3, 1) := by decide +kernel
theorem dX5_as_47 : decode cX5_as 47 = .ok (.iload_n 2, 1) := by decide +kernel
theorem dX5_as_48 : decode cX5_as 48 = .ok (.if_icmp .ne 12, 3) := by decide +kernel
theorem dX5_as_51 : decode cX5_as 51 = .ok (.aload_n 0, 1) := by decide +kernel
theorem dX5_as_52 : decode cX5_as 52 = .ok (.iload_n 1, 1) := by decide +kernel
theorem dX5_as_53 : decode cX5_as 53 = .ok (.iconst 2, 1) := by decide +kernel
theorem dX5_as_54 : decode cX5_as 54 = .ok (.invokevirtual 83, 3) := by decide +kernel
theorem dX5_as_57 : decode cX5_as 57 = .ok (.goto 9, 3) := by decide +kernel
theorem dX5_as_60 : decode cX5_as 60 = .ok (.aload_n 0, 1) := by decide +kernel
theorem dX5_as_61 : decode cX5_as 61 = .ok (.ldc 128, 2) := by decide +kernel
theorem dX5_as_63 : decode cX5_as 63 = .ok (.invokevirtual 65, 3) := by decide +kernel
theorem dX5_as_66 : decode cX5_as 66 = .ok (.ireturn, 1) := by decide +kernel
def finX5_as (N : Ml) : Int32 × Mi → Option Value × Mi × Ml := fun b => (some (Value.int b.1), b.2, N)
noncomputable def fX5_as_15   (M : Mi) : Option (Int32 × Mi) := (Option.bind (fX5_finds M (-1000000001)) (fun a2 => (some (a2.1, (a2.2)))))
theorem bX5_as_15 {Z : Zt} {E : Ec} {N : Ml} (C : Ok 2 Z E cX5_as 4 RX5 (some .int) 2)    (M : Mi)  : GT Z E 4 (finX5_as N) 15 [(0, .ref (zA Z 6 0))] [] M N (fX5_as_15 M) := by
  unfold fX5_as_15
  refine r_aload_n C dX5_as_15 0 0 rfl rfl ?_
  refine r_ldc (v := (-1000000001)) C dX5_as_16 wd_859 ?_
  refine r_bind (fun a2 ha2 => ?_)
  refine r_callV (rest := []) (st2 := [.int a2.1]) C (mX5_finds (eL E) C.z M N (-1000000001) a2 ha2) lk_X5_65 (rvM C) (by decide) rfl rfl (Nat.le_of_ble_eq_true rfl) dX5_as_18 rfl ?_
  exact r_iret C dX5_as_21 rfl
noncomputable def fX5_as_46   (M : Mi) (x1 : Int32) (x2 : Int32) (x3 : Int32) : Option (Int32 × Mi) := (if x3 = x2 then (Option.bind (fX5_its (M 0) x1 2) (fun a8 => (some (a8, M)))) else (Option.bind (fX5_finds M (-1000000003)) (fun a7 => (some (a7.1, (a7.2))))))
theorem bX5_as_46 {Z : Zt} {E : Ec} {N : Ml} (C : Ok 2 Z E cX5_as 4 RX5 (some .int) 2)    (M : Mi) (x1 : Int32) (x2 : Int32) (x3 : Int32)  : GT Z E 4 (finX5_as N) 46 [(0, .ref (zA Z 6 0)), (1, .int x1), (2, .int x2), (3, .int x3)] [] M N (fX5_as_46 M x1 x2 x3) := by
  unfold fX5_as_46
  refine r_iload_n C dX5_as_46 3 3 rfl rfl ?_
  refine r_iload_n C dX5_as_47 2 2 rfl rfl ?_
  refine r_ic_ne (tgt := 60) C dX5_as_48 (by decide) (fun c6 => ?_) (fun c6 => ?_)
  · refine r_aload_n C dX5_as_60 0 0 rfl rfl ?_
    refine r_ldc (v := (-1000000003)) C dX5_as_61 wd_967 ?_
    refine r_bind (fun a7 ha7 => ?_)
    refine r_callV (rest := []) (st2 := [.int a7.1]) C (mX5_finds (eL E) C.z M N (-1000000003) a7 ha7) lk_X5_65 (rvM C) (by decide) rfl rfl (Nat.le_of_ble_eq_true rfl) dX5_as_63 rfl ?_
    exact r_iret C dX5_as_66 rfl
  · refine r_aload_n C dX5_as_51 0 0 rfl rfl ?_
    refine r_iload_n C dX5_as_52 1 1 rfl rfl ?_
    refine r_iconst (v := 2) C dX5_as_53 (by decide) ?_
    refine r_bind (fun a8 ha8 => ?_)
    refine r_callV (rest := []) (st2 := [.int a8]) C (mX5_its (eL E) C.z M _ (M 0) x1 2 a8 ha8).selfR lk_X5_83 (rvM C) (by decide) rfl rfl (Nat.le_of_ble_eq_true rfl) dX5_as_54 rfl ?_
    refine r_goto (tgt := 66) C dX5_as_57 (by decide) ?_
    exact r_iret C dX5_as_66 rfl
noncomputable def fX5_as_29   : Nat → Mi → Int32 → Int32 → Int32 → Option (Int32 × Mi)
  | 0 => fun _ _ _ _ => none
  | n + 1 => fun M x1 x2 x3 => (if x3 = x2 then (fX5_as_46 M x1 x2 x3) else (if x3 = 0 then (fX5_as_46 M x1 x2 x3) else ((fX5_as_29 n) M x1 x2 (fX5_above x3))))
theorem bX5_as_29 {Z : Zt} {E : Ec} {N : Ml} (C : Ok 2 Z E cX5_as 4 RX5 (some .int) 2)    : ∀ (n : Nat) (M : Mi) (x1 : Int32) (x2 : Int32) (x3 : Int32), GT Z E 4 (finX5_as N) 29 [(0, .ref (zA Z 6 0)), (1, .int x1), (2, .int x2), (3, .int x3)] [] M N (fX5_as_29 n M x1 x2 x3) := by
  intro n
  induction n with
  | zero => intro M x1 x2 x3; exact r_none
  | succ n ih =>
    intro M x1 x2 x3
    rw [fX5_as_29]
    refine r_iload_n C dX5_as_29 3 3 rfl rfl ?_
    refine r_iload_n C dX5_as_30 2 2 rfl rfl ?_
    refine r_ic_eq (tgt := 46) C dX5_as_31 (by decide) (fun c5 => ?_) (fun c5 => ?_)
    · exact bX5_as_46 C M x1 x2 x3
    · refine r_iload_n C dX5_as_34 3 3 rfl rfl ?_
      refine r_if_eq (tgt := 46) C dX5_as_35 (by decide) (fun c9 => ?_) (fun c9 => ?_)
      · exact bX5_as_46 C M x1 x2 x3
      · refine r_iload_n C dX5_as_38 3 3 rfl rfl ?_
        refine r_callS (rest := []) (st2 := [.int (fX5_above x3)]) C (mX5_above (eL E) C.z _ _ x3) lk_X5_125 (by decide) rfl rfl (Nat.le_of_ble_eq_true rfl) dX5_as_39 rfl ?_
        refine r_istore_n (lv' := [(3, .int (fX5_above x3)), (0, .ref (zA Z 6 0)), (1, .int x1), (2, .int x2)]) C dX5_as_42 3 rfl (by decide) rfl ?_
        refine r_goto (tgt := 29) C dX5_as_43 (by decide) ?_
        refine r_lv [1, 2, 3, 0] (lv' := [(0, .ref (zA Z 6 0)), (1, .int x1), (2, .int x2), (3, .int (fX5_above x3))]) rfl ?_
        exact ih M x1 x2 (fX5_above x3)
noncomputable def fX5_as   (M : Mi) (x1 : Int32) (x2 : Int32) : Option (Int32 × Mi) := (if (fX5_isOne (M 0) x1) = 0 then (fX5_as_15 M) else (if (fX5_isKind x2) = 0 then (fX5_as_15 M) else (Option.bind (fX5_its (M 0) x1 0) (fun a4 => (fX5_as_29 fu M x1 x2 a4)))))
theorem bX5_as {Z : Zt} {E : Ec} {N : Ml} (C : Ok 2 Z E cX5_as 4 RX5 (some .int) 2)    (M : Mi) (x1 : Int32) (x2 : Int32)  : GT Z E 4 (finX5_as N) 0 [(0, .ref (zA Z 6 0)), (1, .int x1), (2, .int x2)] [] M N (fX5_as M x1 x2) := by
  unfold fX5_as
  refine r_aload_n C dX5_as_0 0 0 rfl rfl ?_
  refine r_iload_n C dX5_as_1 1 1 rfl rfl ?_
  refine r_callV (rest := []) (st2 := [.int (fX5_isOne (M 0) x1)]) C (mX5_isOne (eL E) C.z M _ (M 0) x1).selfR lk_X5_54 (rvM C) (by decide) rfl rfl (Nat.le_of_ble_eq_true rfl) dX5_as_2 rfl ?_
  refine r_if_eq (tgt := 15) C dX5_as_5 (by decide) (fun c1 => ?_) (fun c1 => ?_)
  · refine r_lv [0] (lv' := [(0, .ref (zA Z 6 0))]) rfl ?_
    exact bX5_as_15 C M
  · refine r_iload_n C dX5_as_8 2 2 rfl rfl ?_
    refine r_callS (rest := []) (st2 := [.int (fX5_isKind x2)]) C (mX5_isKind (eL E) C.z _ _ x2) lk_X5_107 (by decide) rfl rfl (Nat.le_of_ble_eq_true rfl) dX5_as_9 rfl ?_
    refine r_if_ne (tgt := 22) C dX5_as_12 (by decide) (fun c3 => ?_) (fun c3 => ?_)
    · refine r_aload_n C dX5_as_22 0 0 rfl rfl ?_
      refine r_iload_n C dX5_as_23 1 1 rfl rfl ?_
      refine r_iconst (v := 0) C dX5_as_24 (by decide) ?_
      refine r_bind (fun a4 ha4 => ?_)
      refine r_callV (rest := []) (st2 := [.int a4]) C (mX5_its (eL E) C.z M _ (M 0) x1 0 a4 ha4).selfR lk_X5_83 (rvM C) (by decide) rfl rfl (Nat.le_of_ble_eq_true rfl) dX5_as_25 rfl ?_
      refine r_istore_n (lv' := [(3, .int a4), (0, .ref (zA Z 6 0)), (1, .int x1), (2, .int x2)]) C dX5_as_28 3 rfl (by decide) rfl ?_
      refine r_lv [1, 2, 3, 0] (lv' := [(0, .ref (zA Z 6 0)), (1, .int x1), (2, .int x2), (3, .int a4)]) rfl ?_
      exact bX5_as_29 C fu M x1 x2 a4
    · refine r_lv [0] (lv' := [(0, .ref (zA Z 6 0))]) rfl ?_
      exact bX5_as_15 C M
theorem mX5_as (l : Launch) {Z : Zt} (hZ : Zok 2 Z) (M : Mi) (N : Ml) (x1 : Int32) (x2 : Int32) (b : Int32 × Mi) (hb : fX5_as M x1 x2 = some b) : Ct 2 Z l yX5_as cX5_as 4 (some .int) 2 [.ref (zA Z 6 0), .int x1, .int x2] M N (some (Value.int b.1), b.2, N) :=
  metG (fin := (finX5_as N)) (by decide) (Nat.le_of_ble_eq_true rfl) (fun E _ C => bX5_as C M x1 x2) hb
