theorem dX3_isWord_0 : decode cX3_isWord 0 = .ok (.aload_n 0, 1) := by decide +kernel
theorem dX3_isWord_1 : decode cX3_isWord 1 = .ok (.getfield 29, 3) := by decide +kernel
theorem dX3_isWord_4 : decode cX3_isWord 4 = .ok (.iconst 1, 1) := by decide +kernel
theorem dX3_isWord_5 : decode cX3_isWord 5 = .ok (.if_icmp .ne 19, 3) := by decide +kernel
theorem dX3_isWord_8 : decode cX3_isWord 8 = .ok (.aload_n 0, 1) := by decide +kernel
theorem dX3_isWord_9 : decode cX3_isWord 9 = .ok (.getfield 19, 3) := by decide +kernel
theorem dX3_isWord_12 : decode cX3_isWord 12 = .ok (.aload_n 0, 1) := by decide +kernel
theorem dX3_isWord_13 : decode cX3_isWord 13 = .ok (.getfield 32, 3) := by decide +kernel
theorem dX3_isWord_16 : decode cX3_isWord 16 = .ok (.isub, 1) := by decide +kernel
theorem dX3_isWord_17 : decode cX3_isWord 17 = .ok (.aload_n 1, 1) := by decide +kernel
theorem dX3_isWord_18 : decode cX3_isWord 18 = .ok (.invokevirtual 119, 3) := by decide +kernel
theorem dX3_isWord_21 : decode cX3_isWord 21 = .ok (.if_icmp .eq 5, 3) := by decide +kernel
theorem dX3_isWord_24 : decode cX3_isWord 24 = .ok (.iconst 0, 1) := by decide +kernel
theorem dX3_isWord_25 : decode cX3_isWord 25 = .ok (.ireturn, 1) := by decide +kernel
theorem dX3_isWord_26 : decode cX3_isWord 26 = .ok (.iconst 0, 1) := by decide +kernel
theorem dX3_isWord_27 : decode cX3_isWord 27 = .ok (.istore_n 2, 1) := by decide +kernel
theorem dX3_isWord_28 : decode cX3_isWord 28 = .ok (.iload_n 2, 1) := by decide +kernel
theorem dX3_isWord_29 : decode cX3_isWord 29 = .ok (.aload_n 1, 1) := by decide +kernel
theorem dX3_isWord_30 : decode cX3_isWord 30 = .ok (.invokevirtual 119, 3) := by decide +kernel
theorem dX3_isWord_33 : decode cX3_isWord 33 = .ok (.if_icmp .ge 30, 3) := by decide +kernel
theorem dX3_isWord_36 : decode cX3_isWord 36 = .ok (.aload_n 0, 1) := by decide +kernel
theorem dX3_isWord_37 : decode cX3_isWord 37 = .ok (.getfield 9, 3) := by decide +kernel
theorem dX3_isWord_40 : decode cX3_isWord 40 = .ok (.aload_n 0, 1) := by decide +kernel
theorem dX3_isWord_41 : decode cX3_isWord 41 = .ok (.getfield 32, 3) := by decide +kernel
theorem dX3_isWord_44 : decode cX3_isWord 44 = .ok (.iload_n 2, 1) := by decide +kernel
theorem dX3_isWord_45 : decode cX3_isWord 45 = .ok (.iadd, 1) := by decide +kernel
theorem dX3_isWord_46 : decode cX3_isWord 46 = .ok (.iaload, 1) := by decide +kernel
theorem dX3_isWord_47 : decode cX3_isWord 47 = .ok (.aload_n 1, 1) := by decide +kernel
theorem dX3_isWord_48 : decode cX3_isWord 48 = .ok (.iload_n 2, 1) := by decide +kernel
theorem dX3_isWord_49 : decode cX3_isWord 49 = .ok (.invokevirtual 123, 3) := by decide +kernel
theorem dX3_isWord_52 : decode cX3_isWord 52 = .ok (.if_icmp .eq 5, 3) := by decide +kernel
theorem dX3_isWord_55 : decode cX3_isWord 55 = .ok (.iconst 0, 1) := by decide +kernel
theorem dX3_isWord_56 : decode cX3_isWord 56 = .ok (.ireturn, 1) := by decide +kernel
theorem dX3_isWord_57 : decode cX3_isWord 57 = .ok (.iinc 2 1, 3) := by decide +kernel
theorem dX3_isWord_60 : decode cX3_isWord 60 = .ok (.goto (-32), 3) := by decide +kernel
theorem dX3_isWord_63 : decode cX3_isWord 63 = .ok (.iconst 1, 1) := by decide +kernel
theorem dX3_isWord_64 : decode cX3_isWord 64 = .ok (.ireturn, 1) := by decide +kernel
def finX3_isWord (M : Mi) (N : Ml) : Int32 → Option Value × Mi × Ml := fun b => (some (Value.int b), M, N)
noncomputable def fX3_isWord_28 (M : Mi) (w : Nat)  : Nat → Int32 → Option (Int32)
  | 0 => fun _ => none
  | n + 1 => fun x2 => (if (fJ0_length_8abf5 w) ≤ x2 then (some 1) else (if inb ((M 5 2) + x2) 120 then (Option.bind (fJ0_charAt_5068e w x2) (fun a5 => (if (M 5 (10 + ix ((M 5 2) + x2))) = a5 then ((fX3_isWord_28 M w n) (x2 + 1)) else (some 0)))) else none))
theorem bX3_isWord_28 {Z : Zt} {E : Ec} {M : Mi} {N : Ml} {w : Nat} (C : Ok 1 Z E cX3_isWord 3 RX3 (some .boolean) 4) (hw : w < 14)   : ∀ (n : Nat) (x2 : Int32), GT Z E 3 (finX3_isWord M N) 28 [(0, .ref (zA Z 5 0)), (1, .ref (zA Z 40 w)), (2, .int x2)] [] M N (fX3_isWord_28 M w n x2) := by
  intro n
  induction n with
  | zero => intro x2; exact r_none
  | succ n ih =>
    intro x2
    rw [fX3_isWord_28]
    refine r_iload_n C dX3_isWord_28 2 2 rfl rfl ?_
    refine r_aload_n C dX3_isWord_29 1 1 rfl rfl ?_
    refine r_callV (rest := [.int x2]) (st2 := [.int (fJ0_length_8abf5 w), .int x2]) C (mJ0_length_8abf5 (eL E) C.z hw _ _ w) lk_X3_119 (rvStr C hw) (by decide) rfl rfl (Nat.le_of_ble_eq_true rfl) dX3_isWord_30 rfl ?_
    refine r_ic_ge (tgt := 63) C dX3_isWord_33 (by decide) (fun c3 => ?_) (fun c3 => ?_)
    · refine r_iconst (v := 1) C dX3_isWord_63 (by decide) ?_
      exact r_zret C dX3_isWord_64 (Or.inr rfl) rfl
    · refine r_aload_n C dX3_isWord_36 0 0 rfl rfl ?_
      refine gf_X3_9 C dX3_isWord_37 ?_
      refine r_aload_n C dX3_isWord_40 0 0 rfl rfl ?_
      refine gf_X3_32 (v := (M 5 2)) C dX3_isWord_41 rfl ?_
      refine r_iload_n C dX3_isWord_44 2 2 rfl rfl ?_
      refine r_iadd C dX3_isWord_45 ?_
      refine r_guard (fun h4 => ?_)
      refine ald_B (v := (M 5 (10 + ix ((M 5 2) + x2)))) C h4 rfl dX3_isWord_46 ?_
      refine r_aload_n C dX3_isWord_47 1 1 rfl rfl ?_
      refine r_iload_n C dX3_isWord_48 2 2 rfl rfl ?_
      refine r_bind (fun a5 ha5 => ?_)
      refine r_callV (rest := [.int (M 5 (10 + ix ((M 5 2) + x2)))]) (st2 := [.int a5, .int (M 5 (10 + ix ((M 5 2) + x2)))]) C (mJ0_charAt_5068e (eL E) C.z hw _ _ w x2 a5 ha5) lk_X3_123 (rvStr C hw) (by decide) rfl rfl (Nat.le_of_ble_eq_true rfl) dX3_isWord_49 rfl ?_
      refine r_ic_eq (tgt := 57) C dX3_isWord_52 (by decide) (fun c6 => ?_) (fun c6 => ?_)
      · refine r_iinc (v := (x2 + 1)) (lv' := [(2, .int (x2 + 1)), (0, .ref (zA Z 5 0)), (1, .ref (zA Z 40 w))]) C dX3_isWord_57 2 rfl rfl (by decide) rfl ?_
        refine r_goto (tgt := 28) C dX3_isWord_60 (by decide) ?_
        refine r_lv [1, 2, 0] (lv' := [(0, .ref (zA Z 5 0)), (1, .ref (zA Z 40 w)), (2, .int (x2 + 1))]) rfl ?_
        exact ih (x2 + 1)
      · refine r_iconst (v := 0) C dX3_isWord_55 (by decide) ?_
        exact r_zret C dX3_isWord_56 (Or.inl rfl) rfl
noncomputable def fX3_isWord (M : Mi) (w : Nat)   : Option (Int32) := (if (M 5 1) = 1 then (if ((M 5 3) - (M 5 2)) = (fJ0_length_8abf5 w) then (fX3_isWord_28 M w fu 0) else (some 0)) else (some 0))
theorem bX3_isWord {Z : Zt} {E : Ec} {M : Mi} {N : Ml} {w : Nat} (C : Ok 1 Z E cX3_isWord 3 RX3 (some .boolean) 4) (hw : w < 14)     : GT Z E 3 (finX3_isWord M N) 0 [(0, .ref (zA Z 5 0)), (1, .ref (zA Z 40 w))] [] M N (fX3_isWord M w ) := by
  unfold fX3_isWord
  refine r_aload_n C dX3_isWord_0 0 0 rfl rfl ?_
  refine gf_X3_29 (v := (M 5 1)) C dX3_isWord_1 rfl ?_
  refine r_iconst (v := 1) C dX3_isWord_4 (by decide) ?_
  refine r_ic_ne (tgt := 24) C dX3_isWord_5 (by decide) (fun c1 => ?_) (fun c1 => ?_)
  · refine r_iconst (v := 0) C dX3_isWord_24 (by decide) ?_
    exact r_zret C dX3_isWord_25 (Or.inl rfl) rfl
  · refine r_aload_n C dX3_isWord_8 0 0 rfl rfl ?_
    refine gf_X3_19 (v := (M 5 3)) C dX3_isWord_9 rfl ?_
    refine r_aload_n C dX3_isWord_12 0 0 rfl rfl ?_
    refine gf_X3_32 (v := (M 5 2)) C dX3_isWord_13 rfl ?_
    refine r_isub C dX3_isWord_16 ?_
    refine r_aload_n C dX3_isWord_17 1 1 rfl rfl ?_
    refine r_callV (rest := [.int ((M 5 3) - (M 5 2))]) (st2 := [.int (fJ0_length_8abf5 w), .int ((M 5 3) - (M 5 2))]) C (mJ0_length_8abf5 (eL E) C.z hw _ _ w) lk_X3_119 (rvStr C hw) (by decide) rfl rfl (Nat.le_of_ble_eq_true rfl) dX3_isWord_18 rfl ?_
    refine r_ic_eq (tgt := 26) C dX3_isWord_21 (by decide) (fun c2 => ?_) (fun c2 => ?_)
    · refine r_iconst (v := 0) C dX3_isWord_26 (by decide) ?_
      refine r_istore_n (lv' := [(2, .int 0), (0, .ref (zA Z 5 0)), (1, .ref (zA Z 40 w))]) C dX3_isWord_27 2 rfl (by decide) rfl ?_
      refine r_lv [1, 2, 0] (lv' := [(0, .ref (zA Z 5 0)), (1, .ref (zA Z 40 w)), (2, .int 0)]) rfl ?_
      exact bX3_isWord_28 C hw fu 0
    · refine r_iconst (v := 0) C dX3_isWord_24 (by decide) ?_
      exact r_zret C dX3_isWord_25 (Or.inl rfl) rfl
theorem mX3_isWord (l : Launch) {Z : Zt} (hZ : Zok 1 Z) {w : Nat} (hw : w < 14) (M : Mi) (N : Ml) (_w : Nat) (b : Int32) (hb : fX3_isWord M w = some b) : Ct 1 Z l yX3_isWord cX3_isWord 3 (some .boolean) 4 [.ref (zA Z 5 0), .ref (zA Z 40 w)] M N (some (Value.int b), M, N) :=
  metG (fin := (finX3_isWord M N)) (by decide) (Nat.le_of_ble_eq_true rfl) (fun E _ C => bX3_isWord C hw) hb
theorem dX3_kindTold_0 : decode cX3_kindTold 0 = .ok (.iconst 0, 1) := by decide +kernel
theorem dX3_kindTold_1 : decode cX3_kindTold 1 = .ok (.istore_n 1, 1) := by decide +kernel
theorem dX3_kindTold_2 : decode cX3_kindTold 2 = .ok (.iload_n 1, 1) := by decide +kernel
theorem dX3_kindTold_3 : decode cX3_kindTold 3 = .ok (.bipush 6, 2) := by decide +kernel
theorem dX3_kindTold_5 : decode cX3_kindTold 5 = .ok (.if_icmp .ge 22, 3) := by decide +kernel
theorem dX3_kindTold_8 : decode cX3_kindTold 8 = .ok (.aload_n 0, 1) := by decide +kernel
theorem dX3_kindTold_9 : decode cX3_kindTold 9 = .ok (.iload_n 1, 1) := by decide +kernel
theorem dX3_kindTold_10 : decode cX3_kindTold 10 = .ok (.invokestatic 69, 3) := by decide +kernel
theorem dX3_kindTold_13 : decode cX3_kindTold 13 = .ok (.invokevirtual 45, 3) := by decide +kernel
theorem dX3_kindTold_16 : decode cX3_kindTold 16 = .ok (.ifCond .eq 5, 3) := by decide +kernel
theorem dX3_kindTold_19 : decode cX3_kindTold 19 = .ok (.iload_n 1, 1) := by decide +kernel
theorem dX3_kindTold_20 : decode cX3_kindTold 20 = .ok (.ireturn, 1) := by decide +kernel
theorem dX3_kindTold_21 : decode cX3_kindTold 21 = .ok (.iinc 1 1, 3) := by decide +kernel
theorem dX3_kindTold_24 : decode cX3_kindTold 24 = .ok (.goto (-22), 3) := by decide +kernel
theorem dX3_kindTold_27 : decode cX3_kindTold 27 = .ok (.iconst (-1), 1) := by decide +kernel
theorem dX3_kindTold_28 : decode cX3_kindTold 28 = .ok (.ireturn, 1) := by decide +kernel
def finX3_kindTold (M : Mi) (N : Ml) : Int32 → Option Value × Mi × Ml := fun b => (some (Value.int b), M, N)
noncomputable def fX3_kindTold_2 (M : Mi)  : Nat → Int32 → Option (Int32)
  | 0 => fun _ => none
  | n + 1 => fun x1 => (if 6 ≤ x1 then (some (-1)) else (Option.bind (fX3_isWord M (fX3_nameOf x1)) (fun a2 => (if a2 = 0 then ((fX3_kindTold_2 M n) (x1 + 1)) else (some x1)))))
theorem bX3_kindTold_2 {Z : Zt} {E : Ec} {M : Mi} {N : Ml} (C : Ok 1 Z E cX3_kindTold 2 RX3 (some .int) 5)    : ∀ (n : Nat) (x1 : Int32), GT Z E 2 (finX3_kindTold M N) 2 [(0, .ref (zA Z 5 0)), (1, .int x1)] [] M N (fX3_kindTold_2 M n x1) := by
  intro n
  induction n with
  | zero => intro x1; exact r_none
  | succ n ih =>
    intro x1
    rw [fX3_kindTold_2]
    refine r_iload_n C dX3_kindTold_2 1 1 rfl rfl ?_
    refine r_bipush (v := 6) C dX3_kindTold_3 (by decide) ?_
    refine r_ic_ge (tgt := 27) C dX3_kindTold_5 (by decide) (fun c1 => ?_) (fun c1 => ?_)
    · refine r_iconst (v := (-1)) C dX3_kindTold_27 (by decide) ?_
      exact r_iret C dX3_kindTold_28 rfl
    · refine r_aload_n C dX3_kindTold_8 0 0 rfl rfl ?_
      refine r_iload_n C dX3_kindTold_9 1 1 rfl rfl ?_
      refine r_callS (rest := [.ref (zA Z 5 0)]) (st2 := [.ref (zA Z 40 (fX3_nameOf x1)), .ref (zA Z 5 0)]) C (mX3_nameOf (eL E) C.z _ _ x1) lk_X3_69 (by decide) rfl rfl (Nat.le_of_ble_eq_true rfl) dX3_kindTold_10 rfl ?_
      refine r_bind (fun a2 ha2 => ?_)
      refine r_callV (rest := []) (st2 := [.int a2]) C (mX3_isWord (eL E) C.z (nm_lt _) M N (fX3_nameOf x1) a2 ha2) lk_X3_45 (rvT C) (by decide) rfl rfl (Nat.le_of_ble_eq_true rfl) dX3_kindTold_13 rfl ?_
      refine r_if_eq (tgt := 21) C dX3_kindTold_16 (by decide) (fun c3 => ?_) (fun c3 => ?_)
      · refine r_iinc (v := (x1 + 1)) (lv' := [(1, .int (x1 + 1)), (0, .ref (zA Z 5 0))]) C dX3_kindTold_21 1 rfl rfl (by decide) rfl ?_
        refine r_goto (tgt := 2) C dX3_kindTold_24 (by decide) ?_
        refine r_lv [1, 0] (lv' := [(0, .ref (zA Z 5 0)), (1, .int (x1 + 1))]) rfl ?_
        exact ih (x1 + 1)
      · refine r_iload_n C dX3_kindTold_19 1 1 rfl rfl ?_
        exact r_iret C dX3_kindTold_20 rfl
noncomputable def fX3_kindTold (M : Mi)   : Option (Int32) := (fX3_kindTold_2 M fu 0)
theorem bX3_kindTold {Z : Zt} {E : Ec} {M : Mi} {N : Ml} (C : Ok 1 Z E cX3_kindTold 2 RX3 (some .int) 5)      : GT Z E 2 (finX3_kindTold M N) 0 [(0, .ref (zA Z 5 0))] [] M N (fX3_kindTold M ) := by
  unfold fX3_kindTold
  refine r_iconst (v := 0) C dX3_kindTold_0 (by decide) ?_
  refine r_istore_n (lv' := [(1, .int 0), (0, .ref (zA Z 5 0))]) C dX3_kindTold_1 1 rfl (by decide) rfl ?_
  refine r_lv [1, 0] (lv' := [(0, .ref (zA Z 5 0)), (1, .int 0)]) rfl ?_
  exact bX3_kindTold_2 C fu 0
theorem mX3_kindTold (l : Launch) {Z : Zt} (hZ : Zok 1 Z) (M : Mi) (N : Ml) (b : Int32) (hb : fX3_kindTold M = some b) : Ct 1 Z l yX3_kindTold cX3_kindTold 2 (some .int) 5 [.ref (zA Z 5 0)] M N (some (Value.int b), M, N) :=
  metG (fin := (finX3_kindTold M N)) (by decide) (Nat.le_of_ble_eq_true rfl) (fun E _ C => bX3_kindTold C) hb
theorem dX3_takesNumber_0 : decode cX3_takesNumber 0 = .ok (.aload_n 0, 1) := by decide +kernel
theorem dX3_takesNumber_1 : decode cX3_takesNumber 1 = .ok (.getfield 29, 3) := by decide +kernel
theorem dX3_takesNumber_4 : decode cX3_takesNumber 4 = .ok (.iconst 2, 1) := by decide +kernel
theorem dX3_takesNumber_5 : decode cX3_takesNumber 5 = .ok (.if_icmp .ne 19, 3) := by decide +kernel
theorem dX3_takesNumber_8 : decode cX3_takesNumber 8 = .ok (.aload_n 0, 1) := by decide +kernel
theorem dX3_takesNumber_9 : decode cX3_takesNumber 9 = .ok (.getfield 116, 3) := by decide +kernel
theorem dX3_takesNumber_12 : decode cX3_takesNumber 12 = .ok (.iload_n 1, 1) := by decide +kernel
theorem dX3_takesNumber_13 : decode cX3_takesNumber 13 = .ok (.if_icmp .lt 11, 3) := by decide +kernel
theorem dX3_takesNumber_16 : decode cX3_takesNumber 16 = .ok (.aload_n 0, 1) := by decide +kernel
theorem dX3_takesNumber_17 : decode cX3_takesNumber 17 = .ok (.getfield 116, 3) := by decide +kernel
theorem dX3_takesNumber_20 : decode cX3_takesNumber 20 = .ok (.iload_n 2, 1) := by decide +kernel
theorem dX3_takesNumber_21 : decode cX3_takesNumber 21 = .ok (.if_icmp .le 5, 3) := by decide +kernel
theorem dX3_takesNumber_24 : decode cX3_takesNumber 24 = .ok (.iconst 0, 1) := by decide +kernel
theorem dX3_takesNumber_25 : decode cX3_takesNumber 25 = .ok (.ireturn, 1) := by decide +kernel
theorem dX3_takesNumber_26 : decode cX3_takesNumber 26 = .ok (.aload_n 0, 1) := by decide +kernel
theorem dX3_takesNumber_27 : decode cX3_takesNumber 27 = .ok (.aload_n 0, 1) := by decide +kernel
theorem dX3_takesNumber_28 : decode cX3_takesNumber 28 = .ok (.getfield 116, 3) := by decide +kernel
theorem dX3_takesNumber_31 : decode cX3_takesNumber 31 = .ok (.putfield 97, 3) := by decide +kernel
theorem dX3_takesNumber_34 : decode cX3_takesNumber 34 = .ok (.aload_n 0, 1) := by decide +kernel
theorem dX3_takesNumber_35 : decode cX3_takesNumber 35 = .ok (.invokevirtual 22, 3) := by decide +kernel
theorem dX3_takesNumber_38 : decode cX3_takesNumber 38 = .ok (.iconst 1, 1) := by decide +kernel
theorem dX3_takesNumber_39 : decode cX3_takesNumber 39 = .ok (.ireturn, 1) := by decide +kernel
def finX3_takesNumber (N : Ml) : Int32 × Mi → Option Value × Mi × Ml := fun b => (some (Value.int b.1), b.2, N)
noncomputable def fX3_takesNumber   (M : Mi) (x1 : Int32) (x2 : Int32) : Option (Int32 × Mi) := (if (M 5 1) = 2 then (if (M 5 4) < x1 then (some (0, M)) else (if (M 5 4) ≤ x2 then (Option.bind (fX3_nextToken (wM M 5 5 (M 5 4))) (fun a4 => (some (1, a4)))) else (some (0, M)))) else (some (0, M)))
theorem bX3_takesNumber {Z : Zt} {E : Ec} {N : Ml} (C : Ok 1 Z E cX3_takesNumber 3 RX3 (some .boolean) 2)    (M : Mi) (x1 : Int32) (x2 : Int32)  : GT Z E 3 (finX3_takesNumber N) 0 [(0, .ref (zA Z 5 0)), (1, .int x1), (2, .int x2)] [] M N (fX3_takesNumber M x1 x2) := by
  unfold fX3_takesNumber
  refine r_aload_n C dX3_takesNumber_0 0 0 rfl rfl ?_
  refine gf_X3_29 (v := (M 5 1)) C dX3_takesNumber_1 rfl ?_
  refine r_iconst (v := 2) C dX3_takesNumber_4 (by decide) ?_
  refine r_ic_ne (tgt := 24) C dX3_takesNumber_5 (by decide) (fun c1 => ?_) (fun c1 => ?_)
  · refine r_iconst (v := 0) C dX3_takesNumber_24 (by decide) ?_
    exact r_zret C dX3_takesNumber_25 (Or.inl rfl) rfl
  · refine r_aload_n C dX3_takesNumber_8 0 0 rfl rfl ?_
    refine gf_X3_116 (v := (M 5 4)) C dX3_takesNumber_9 rfl ?_
    refine r_iload_n C dX3_takesNumber_12 1 1 rfl rfl ?_
    refine r_ic_lt (tgt := 24) C dX3_takesNumber_13 (by decide) (fun c2 => ?_) (fun c2 => ?_)
    · refine r_iconst (v := 0) C dX3_takesNumber_24 (by decide) ?_
      exact r_zret C dX3_takesNumber_25 (Or.inl rfl) rfl
    · refine r_aload_n C dX3_takesNumber_16 0 0 rfl rfl ?_
      refine gf_X3_116 (v := (M 5 4)) C dX3_takesNumber_17 rfl ?_
      refine r_iload_n C dX3_takesNumber_20 2 2 rfl rfl ?_
      refine r_ic_le (tgt := 26) C dX3_takesNumber_21 (by decide) (fun c3 => ?_) (fun c3 => ?_)
      · refine r_aload_n C dX3_takesNumber_26 0 0 rfl rfl ?_
        refine r_aload_n C dX3_takesNumber_27 0 0 rfl rfl ?_
        refine gf_X3_116 (v := (M 5 4)) C dX3_takesNumber_28 rfl ?_
        refine pf_X3_97 (M' := (wM M 5 5 (M 5 4))) C dX3_takesNumber_31 rfl ?_
        refine r_aload_n C dX3_takesNumber_34 0 0 rfl rfl ?_
        refine r_bind (fun a4 ha4 => ?_)
        refine r_callV (rest := []) (st2 := []) C (mX3_nextToken (eL E) C.z (wM M 5 5 (M 5 4)) N a4 ha4) lk_X3_22 (rvT C) (by decide) rfl rfl (Nat.le_of_ble_eq_true rfl) dX3_takesNumber_35 rfl ?_
        refine r_iconst (v := 1) C dX3_takesNumber_38 (by decide) ?_
        exact r_zret C dX3_takesNumber_39 (Or.inr rfl) rfl
      · refine r_iconst (v := 0) C dX3_takesNumber_24 (by decide) ?_
        exact r_zret C dX3_takesNumber_25 (Or.inl rfl) rfl
theorem mX3_takesNumber (l : Launch) {Z : Zt} (hZ : Zok 1 Z) (M : Mi) (N : Ml) (x1 : Int32) (x2 : Int32) (b : Int32 × Mi) (hb : fX3_takesNumber M x1 x2 = some b) : Ct 1 Z l yX3_takesNumber cX3_takesNumber 3 (some .boolean) 2 [.ref (zA Z 5 0), .int x1, .int x2] M N (some (Value.int b.1), b.2, N) :=
  metG (fin := (finX3_takesNumber N)) (by decide) (Nat.le_of_ble_eq_true rfl) (fun E _ C => bX3_takesNumber C M x1 x2) hb
theorem dX3_tellsTortoise_0 : decode cX3_tellsTortoise 0 = .ok (.aload_n 1, 1) := by decide +kernel
theorem dX3_tellsTortoise_1 : decode cX3_tellsTortoise 1 = .ok (.invokevirtual 85, 3) := by decide +kernel
theorem dX3_tellsTortoise_4 : decode cX3_tellsTortoise 4 = .ok (.ifCond .eq 5, 3) := by decide +kernel
theorem dX3_tellsTortoise_7 : decode cX3_tellsTortoise 7 = .ok (.iconst 0, 1) := by decide +kernel
theorem dX3_tellsTortoise_8 : decode cX3_tellsTortoise 8 = .ok (.ireturn, 1) := by decide +kernel
theorem dX3_tellsTortoise_9 : decode cX3_tellsTortoise 9 = .ok (.aload_n 0, 1) := by decide +kernel
theorem dX3_tellsTortoise_10 : decode cX3_tellsTortoise 10 = .ok (.invokevirtual 22, 3) := by decide +kernel
theorem dX3_tellsTortoise_13 : decode cX3_tellsTortoise 13 = .ok (.aload_n 0, 1) := by decide +kernel
theorem dX3_tellsTortoise_14 : decode cX3_tellsTortoise 14 = .ok (.ldc 91, 2) := by decide +kernel
theorem dX3_tellsTortoise_16 : decode cX3_tellsTortoise 16 = .ok (.invokevirtual 45, 3) := by decide +kernel
theorem dX3_tellsTortoise_19 : decode cX3_tellsTortoise 19 = .ok (.ifCond .ne 5, 3) := by decide +kernel
theorem dX3_tellsTortoise_22 : decode cX3_tellsTortoise 22 = .ok (.iconst 0, 1) := by decide +kernel
theorem dX3_tellsTortoise_23 : decode cX3_tellsTortoise 23 = .ok (.ireturn, 1) := by decide +kernel
theorem dX3_tellsTortoise_24 : decode cX3_tellsTortoise 24 = .ok (.aload_n 0, 1) := by decide +kernel
theorem dX3_tellsTortoise_25 : decode cX3_tellsTortoise 25 = .ok (.invokevirtual 22, 3) := by decide +kernel
theorem dX3_tellsTortoise_28 : decode cX3_tellsTortoise 28 = .ok (.aload_n 0, 1) := by decide +kernel
theorem dX3_tellsTortoise_29 : decode cX3_tellsTortoise 29 = .ok (.iconst 0, 1) := by decide +kernel
theorem dX3_tellsTortoise_30 : decode cX3_tellsTortoise 30 = .ok (.bipush 29, 2) := by decide +kernel
theorem dX3_tellsTortoise_32 : decode cX3_tellsTortoise 32 = .ok (.invokevirtual 93, 3) := by decide +kernel
theorem dX3_tellsTortoise_35 : decode cX3_tellsTortoise 35 = .ok (.ifCond .ne 5, 3) := by decide +kernel
theorem dX3_tellsTortoise_38 : decode cX3_tellsTortoise 38 = .ok (.iconst 0, 1) := by decide +kernel
theorem dX3_tellsTortoise_39 : decode cX3_tellsTortoise 39 = .ok (.ireturn, 1) := by decide +kernel
theorem dX3_tellsTortoise_40 : decode cX3_tellsTortoise 40 = .ok (.aload_n 0, 1) := by decide +kernel
theorem dX3_tellsTortoise_41 : decode cX3_tellsTortoise 41 = .ok (.getfield 97, 3) := by decide +kernel
theorem dX3_tellsTortoise_44 : decode cX3_tellsTortoise 44 = .ok (.istore_n 3, 1) := by decide +kernel
theorem dX3_tellsTortoise_45 : decode cX3_tellsTortoise 45 = .ok (.iconst 0, 1) := by decide +kernel
theorem dX3_tellsTortoise_46 : decode cX3_tellsTortoise 46 = .ok (.istore 4, 2) := by decide +kernel
theorem dX3_tellsTortoise_48 : decode cX3_tellsTortoise 48 = .ok (.iconst 0, 1) := by decide +kernel
theorem dX3_tellsTortoise_49 : decode cX3_tellsTortoise 49 = .ok (.istore 5, 2) := by decide +kernel
theorem dX3_tellsTortoise_51 : decode cX3_tellsTortoise 51 = .ok (.iload 5, 2) := by decide +kernel
theorem dX3_tellsTortoise_53 : decode cX3_tellsTortoise 53 = .ok (.bipush 120, 2) := by decide +kernel
theorem dX3_tellsTortoise_55 : decode cX3_tellsTortoise 55 = .ok (.if_icmp .ge 40, 3) := by decide +kernel
theorem dX3_tellsTortoise_58 : decode cX3_tellsTortoise 58 = .ok (.aload_n 0, 1) := by decide +kernel
theorem dX3_tellsTortoise_59 : decode cX3_tellsTortoise 59 = .ok (.getfield 29, 3) := by decide +kernel
theorem dX3_tellsTortoise_62 : decode cX3_tellsTortoise 62 = .ok (.iconst 2, 1) := by decide +kernel
theorem dX3_tellsTortoise_63 : decode cX3_tellsTortoise 63 = .ok (.if_icmp .ne 32, 3) := by decide +kernel
theorem dX3_tellsTortoise_66 : decode cX3_tellsTortoise 66 = .ok (.aload_n 0, 1) := by decide +kernel
theorem dX3_tellsTortoise_67 : decode cX3_tellsTortoise 67 = .ok (.iconst 0, 1) := by decide +kernel
theorem dX3_tellsTortoise_68 : decode cX3_tellsTortoise 68 = .ok (.bipush 11, 2) := by decide +kernel
theorem dX3_tellsTortoise_70 : decode cX3_tellsTortoise 70 = .ok (.invokevirtual 93, 3) := by decide +kernel
theorem dX3_tellsTortoise_73 : decode cX3_tellsTortoise 73 = .ok (.ifCond .ne 5, 3) := by decide +kernel
theorem dX3_tellsTortoise_76 : decode cX3_tellsTortoise 76 = .ok (.iconst 0, 1) := by decide +kernel
theorem dX3_tellsTortoise_77 : decode cX3_tellsTortoise 77 = .ok (.ireturn, 1) := by decide +kernel
theorem dX3_tellsTortoise_78 : decode cX3_tellsTortoise 78 = .ok (.iload 4, 2) := by decide +kernel
theorem dX3_tellsTortoise_80 : decode cX3_tellsTortoise 80 = .ok (.iconst 1, 1) := by decide +kernel
theorem dX3_tellsTortoise_81 : decode cX3_tellsTortoise 81 = .ok (.aload_n 0, 1) := by decide +kernel
theorem dX3_tellsTortoise_82 : decode cX3_tellsTortoise 82 = .ok (.getfield 97, 3) := by decide +kernel
theorem dX3_tellsTortoise_85 : decode cX3_tellsTortoise 85 = .ok (.ishl, 1) := by decide +kernel
theorem dX3_tellsTortoise_86 : decode cX3_tellsTortoise 86 = .ok (.ior, 1) := by decide +kernel
theorem dX3_tellsTortoise_87 : decode cX3_tellsTortoise 87 = .ok (.istore 4, 2) := by decide +kernel
theorem dX3_tellsTortoise_89 : decode cX3_tellsTortoise 89 = .ok (.iinc 5 1, 3) := by decide +kernel
theorem dX3_tellsTortoise_92 : decode cX3_tellsTortoise 92 = .ok (.goto (-41), 3) := by decide +kernel
theorem dX3_tellsTortoise_95 : decode cX3_tellsTortoise 95 = .ok (.aload_n 1, 1) := by decide +kernel
theorem dX3_tellsTortoise_96 : decode cX3_tellsTortoise 96 = .ok (.iload_n 2, 1) := by decide +kernel
theorem dX3_tellsTortoise_97 : decode cX3_tellsTortoise 97 = .ok (.iload_n 3, 1) := by decide +kernel
theorem dX3_tellsTortoise_98 : decode cX3_tellsTortoise 98 = .ok (.iload 4, 2) := by decide +kernel
theorem dX3_tellsTortoise_100 : decode cX3_tellsTortoise 100 = .ok (.invokevirtual 100, 3) := by decide +kernel
theorem dX3_tellsTortoise_103 : decode cX3_tellsTortoise 103 = .ok (.pop, 1) := by decide +kernel
theorem dX3_tellsTortoise_104 : decode cX3_tellsTortoise 104 = .ok (.iconst 1, 1) := by decide +kernel
theorem dX3_tellsTortoise_105 : decode cX3_tellsTortoise 105 = .ok (.ireturn, 1) := by decide +kernel
def finX3_tellsTortoise (N : Ml) : Int32 × Mi → Option Value × Mi × Ml := fun b => (some (Value.int b.1), b.2, N)
noncomputable def fX3_tellsTortoise_95   (M : Mi) (x2 : Int32) (x3 : Int32) (x4 : Int32) : Option (Int32 × Mi) := (Option.bind (fX0_comes (M 1) x2 x3 x4) (fun a9 => (some (1, (sR M 1 (a9.2))))))
theorem bX3_tellsTortoise_95 {Z : Zt} {E : Ec} {N : Ml} (C : Ok 1 Z E cX3_tellsTortoise 6 RX3 (some .boolean) 5)    (M : Mi) (x2 : Int32) (x3 : Int32) (x4 : Int32)  : GT Z E 6 (finX3_tellsTortoise N) 95 [(1, .ref (zA Z 1 0)), (2, .int x2), (3, .int x3), (4, .int x4)] [] M N (fX3_tellsTortoise_95 M x2 x3 x4) := by
  unfold fX3_tellsTortoise_95
  refine r_aload_n C dX3_tellsTortoise_95 1 0 rfl rfl ?_
  refine r_iload_n C dX3_tellsTortoise_96 2 1 rfl rfl ?_
  refine r_iload_n C dX3_tellsTortoise_97 3 2 rfl rfl ?_
  refine r_iload C dX3_tellsTortoise_98 3 rfl ?_
  refine r_bind (fun a9 ha9 => ?_)
  refine r_callV (rest := []) (st2 := [.int a9.1]) C (mX0_comes (eL E) C.z (by decide) M _ (M 1) x2 x3 x4 a9 ha9).selfW lk_X3_100 (rvI C (by decide)) (by decide) rfl rfl (Nat.le_of_ble_eq_true rfl) dX3_tellsTortoise_100 rfl ?_
  refine r_pop C dX3_tellsTortoise_103 rfl ?_
  refine r_iconst (v := 1) C dX3_tellsTortoise_104 (by decide) ?_
  exact r_zret C dX3_tellsTortoise_105 (Or.inr rfl) rfl
noncomputable def fX3_tellsTortoise_51   : Nat → Mi → Int32 → Int32 → Int32 → Int32 → Option (Int32 × Mi)
  | 0 => fun _ _ _ _ _ => none
  | n + 1 => fun M x2 x3 x4 x5 => (if 120 ≤ x5 then (fX3_tellsTortoise_95 M x2 x3 x4) else (if (M 5 1) = 2 then (Option.bind (fX3_takesNumber M 0 11) (fun a11 => (if a11.1 = 0 then (some (0, (a11.2))) else ((fX3_tellsTortoise_51 n) (a11.2) x2 x3 (x4 ||| (1 <<< (((a11.2) 5 5) &&& 31))) (x5 + 1))))) else (fX3_tellsTortoise_95 M x2 x3 x4)))
theorem bX3_tellsTortoise_51 {Z : Zt} {E : Ec} {N : Ml} (C : Ok 1 Z E cX3_tellsTortoise 6 RX3 (some .boolean) 5)    : ∀ (n : Nat) (M : Mi) (x2 : Int32) (x3 : Int32) (x4 : Int32) (x5 : Int32), GT Z E 6 (finX3_tellsTortoise N) 51 [(0, .ref (zA Z 5 0)), (1, .ref (zA Z 1 0)), (2, .int x2), (3, .int x3), (4, .int x4), (5, .int x5)] [] M N (fX3_tellsTortoise_51 n M x2 x3 x4 x5) := by
  intro n
  induction n with
  | zero => intro M x2 x3 x4 x5; exact r_none
  | succ n ih =>
    intro M x2 x3 x4 x5
    rw [fX3_tellsTortoise_51]
    refine r_iload C dX3_tellsTortoise_51 5 rfl ?_
    refine r_bipush (v := 120) C dX3_tellsTortoise_53 (by decide) ?_
    refine r_ic_ge (tgt := 95) C dX3_tellsTortoise_55 (by decide) (fun c8 => ?_) (fun c8 => ?_)
    · refine r_lv [1, 2, 3, 4] (lv' := [(1, .ref (zA Z 1 0)), (2, .int x2), (3, .int x3), (4, .int x4)]) rfl ?_
      exact bX3_tellsTortoise_95 C M x2 x3 x4
    · refine r_aload_n C dX3_tellsTortoise_58 0 0 rfl rfl ?_
      refine gf_X3_29 (v := (M 5 1)) C dX3_tellsTortoise_59 rfl ?_
      refine r_iconst (v := 2) C dX3_tellsTortoise_62 (by decide) ?_
      refine r_ic_ne (tgt := 95) C dX3_tellsTortoise_63 (by decide) (fun c10 => ?_) (fun c10 => ?_)
      · refine r_lv [1, 2, 3, 4] (lv' := [(1, .ref (zA Z 1 0)), (2, .int x2), (3, .int x3), (4, .int x4)]) rfl ?_
        exact bX3_tellsTortoise_95 C M x2 x3 x4
      · refine r_aload_n C dX3_tellsTortoise_66 0 0 rfl rfl ?_
        refine r_iconst (v := 0) C dX3_tellsTortoise_67 (by decide) ?_
        refine r_bipush (v := 11) C dX3_tellsTortoise_68 (by decide) ?_
        refine r_bind (fun a11 ha11 => ?_)
        refine r_callV (rest := []) (st2 := [.int a11.1]) C (mX3_takesNumber (eL E) C.z M N 0 11 a11 ha11) lk_X3_93 (rvT C) (by decide) rfl rfl (Nat.le_of_ble_eq_true rfl) dX3_tellsTortoise_70 rfl ?_
        refine r_if_ne (tgt := 78) C dX3_tellsTortoise_73 (by decide) (fun c12 => ?_) (fun c12 => ?_)
        · refine r_iload C dX3_tellsTortoise_78 4 rfl ?_
          refine r_iconst (v := 1) C dX3_tellsTortoise_80 (by decide) ?_
          refine r_aload_n C dX3_tellsTortoise_81 0 0 rfl rfl ?_
          refine gf_X3_97 (v := ((a11.2) 5 5)) C dX3_tellsTortoise_82 rfl ?_
          refine r_ishl C dX3_tellsTortoise_85 ?_
          refine r_ior C dX3_tellsTortoise_86 ?_
          refine r_istore (lv' := [(4, .int (x4 ||| (1 <<< (((a11.2) 5 5) &&& 31)))), (0, .ref (zA Z 5 0)), (1, .ref (zA Z 1 0)), (2, .int x2), (3, .int x3), (5, .int x5)]) C dX3_tellsTortoise_87 (by decide) rfl ?_
          refine r_iinc (v := (x5 + 1)) (lv' := [(5, .int (x5 + 1)), (4, .int (x4 ||| (1 <<< (((a11.2) 5 5) &&& 31)))), (0, .ref (zA Z 5 0)), (1, .ref (zA Z 1 0)), (2, .int x2), (3, .int x3)]) C dX3_tellsTortoise_89 5 rfl rfl (by decide) rfl ?_
          refine r_goto (tgt := 51) C dX3_tellsTortoise_92 (by decide) ?_
          refine r_lv [2, 3, 4, 5, 1, 0] (lv' := [(0, .ref (zA Z 5 0)), (1, .ref (zA Z 1 0)), (2, .int x2), (3, .int x3), (4, .int (x4 ||| (1 <<< (((a11.2) 5 5) &&& 31)))), (5, .int (x5 + 1))]) rfl ?_
          exact ih (a11.2) x2 x3 (x4 ||| (1 <<< (((a11.2) 5 5) &&& 31))) (x5 + 1)
        · refine r_iconst (v := 0) C dX3_tellsTortoise_76 (by decide) ?_
          exact r_zret C dX3_tellsTortoise_77 (Or.inl rfl) rfl
noncomputable def fX3_tellsTortoise   (M : Mi) (x2 : Int32) : Option (Int32 × Mi) := (if (fX0_isFull (M 1)) = 0 then (Option.bind (fX3_nextToken M) (fun a2 => (Option.bind (fX3_isWord a2 6) (fun a3 => (if a3 = 0 then (some (0, a2)) else (Option.bind (fX3_nextToken a2) (fun a5 => (Option.bind (fX3_takesNumber a5 0 29) (fun a6 => (if a6.1 = 0 then (some (0, (a6.2))) else (fX3_tellsTortoise_51 fu (a6.2) x2 ((a6.2) 5 5) 0 0))))))))))) else (some (0, M)))
theorem bX3_tellsTortoise {Z : Zt} {E : Ec} {N : Ml} (C : Ok 1 Z E cX3_tellsTortoise 6 RX3 (some .boolean) 5)    (M : Mi) (x2 : Int32)  : GT Z E 6 (finX3_tellsTortoise N) 0 [(0, .ref (zA Z 5 0)), (1, .ref (zA Z 1 0)), (2, .int x2)] [] M N (fX3_tellsTortoise M x2) := by
  unfold fX3_tellsTortoise
  refine r_aload_n C dX3_tellsTortoise_0 1 1 rfl rfl ?_
  refine r_callV (rest := []) (st2 := [.int (fX0_isFull (M 1))]) C (mX0_isFull (eL E) C.z (by decide) M _ (M 1)).selfR lk_X3_85 (rvI C (by decide)) (by decide) rfl rfl (Nat.le_of_ble_eq_true rfl) dX3_tellsTortoise_1 rfl ?_
  refine r_if_eq (tgt := 9) C dX3_tellsTortoise_4 (by decide) (fun c1 => ?_) (fun c1 => ?_)
  · refine r_aload_n C dX3_tellsTortoise_9 0 0 rfl rfl ?_
    refine r_bind (fun a2 ha2 => ?_)
    refine r_callV (rest := []) (st2 := []) C (mX3_nextToken (eL E) C.z M N a2 ha2) lk_X3_22 (rvT C) (by decide) rfl rfl (Nat.le_of_ble_eq_true rfl) dX3_tellsTortoise_10 rfl ?_
    refine r_aload_n C dX3_tellsTortoise_13 0 0 rfl rfl ?_
    refine r_ldcS (k := 6) C dX3_tellsTortoise_14 rfl ?_
    refine r_bind (fun a3 ha3 => ?_)
    refine r_callV (rest := []) (st2 := [.int a3]) C (mX3_isWord (eL E) C.z (by decide) a2 N 6 a3 ha3) lk_X3_45 (rvT C) (by decide) rfl rfl (Nat.le_of_ble_eq_true rfl) dX3_tellsTortoise_16 rfl ?_
    refine r_if_ne (tgt := 24) C dX3_tellsTortoise_19 (by decide) (fun c4 => ?_) (fun c4 => ?_)
    · refine r_aload_n C dX3_tellsTortoise_24 0 0 rfl rfl ?_
      refine r_bind (fun a5 ha5 => ?_)
      refine r_callV (rest := []) (st2 := []) C (mX3_nextToken (eL E) C.z a2 N a5 ha5) lk_X3_22 (rvT C) (by decide) rfl rfl (Nat.le_of_ble_eq_true rfl) dX3_tellsTortoise_25 rfl ?_
      refine r_aload_n C dX3_tellsTortoise_28 0 0 rfl rfl ?_
      refine r_iconst (v := 0) C dX3_tellsTortoise_29 (by decide) ?_
      refine r_bipush (v := 29) C dX3_tellsTortoise_30 (by decide) ?_
      refine r_bind (fun a6 ha6 => ?_)
      refine r_callV (rest := []) (st2 := [.int a6.1]) C (mX3_takesNumber (eL E) C.z a5 N 0 29 a6 ha6) lk_X3_93 (rvT C) (by decide) rfl rfl (Nat.le_of_ble_eq_true rfl) dX3_tellsTortoise_32 rfl ?_
      refine r_if_ne (tgt := 40) C dX3_tellsTortoise_35 (by decide) (fun c7 => ?_) (fun c7 => ?_)
      · refine r_aload_n C dX3_tellsTortoise_40 0 0 rfl rfl ?_
        refine gf_X3_97 (v := ((a6.2) 5 5)) C dX3_tellsTortoise_41 rfl ?_
        refine r_istore_n (lv' := [(3, .int ((a6.2) 5 5)), (0, .ref (zA Z 5 0)), (1, .ref (zA Z 1 0)), (2, .int x2)]) C dX3_tellsTortoise_44 3 rfl (by decide) rfl ?_
        refine r_iconst (v := 0) C dX3_tellsTortoise_45 (by decide) ?_
        refine r_istore (lv' := [(4, .int 0), (3, .int ((a6.2) 5 5)), (0, .ref (zA Z 5 0)), (1, .ref (zA Z 1 0)), (2, .int x2)]) C dX3_tellsTortoise_46 (by decide) rfl ?_
        refine r_iconst (v := 0) C dX3_tellsTortoise_48 (by decide) ?_
        refine r_istore (lv' := [(5, .int 0), (4, .int 0), (3, .int ((a6.2) 5 5)), (0, .ref (zA Z 5 0)), (1, .ref (zA Z 1 0)), (2, .int x2)]) C dX3_tellsTortoise_49 (by decide) rfl ?_
        refine r_lv [3, 4, 5, 2, 1, 0] (lv' := [(0, .ref (zA Z 5 0)), (1, .ref (zA Z 1 0)), (2, .int x2), (3, .int ((a6.2) 5 5)), (4, .int 0), (5, .int 0)]) rfl ?_
        exact bX3_tellsTortoise_51 C fu (a6.2) x2 ((a6.2) 5 5) 0 0
      · refine r_iconst (v := 0) C dX3_tellsTortoise_38 (by decide) ?_
        exact r_zret C dX3_tellsTortoise_39 (Or.inl rfl) rfl
    · refine r_iconst (v := 0) C dX3_tellsTortoise_22 (by decide) ?_
      exact r_zret C dX3_tellsTortoise_23 (Or.inl rfl) rfl
  · refine r_iconst (v := 0) C dX3_tellsTortoise_7 (by decide) ?_
    exact r_zret C dX3_tellsTortoise_8 (Or.inl rfl) rfl
theorem mX3_tellsTortoise (l : Launch) {Z : Zt} (hZ : Zok 1 Z) (M : Mi) (N : Ml) (x2 : Int32) (b : Int32 × Mi) (hb : fX3_tellsTortoise M x2 = some b) : Ct 1 Z l yX3_tellsTortoise cX3_tellsTortoise 6 (some .boolean) 5 [.ref (zA Z 5 0), .ref (zA Z 1 0), .int x2] M N (some (Value.int b.1), b.2, N) :=
  metG (fin := (finX3_tellsTortoise N)) (by decide) (Nat.le_of_ble_eq_true rfl) (fun E _ C => bX3_tellsTortoise C M x2) hb
theorem dX3_tellsFence_0 : decode cX3_tellsFence 0 = .ok (.aload_n 0, 1) := by decide +kernel
theorem dX3_tellsFence_1 : decode cX3_tellsFence 1 = .ok (.invokevirtual 22, 3) := by decide +kernel
theorem dX3_tellsFence_4 : decode cX3_tellsFence 4 = .ok (.aload_n 0, 1) := by decide +kernel
theorem dX3_tellsFence_5 : decode cX3_tellsFence 5 = .ok (.iconst 0, 1) := by decide +kernel
theorem dX3_tellsFence_6 : decode cX3_tellsFence 6 = .ok (.bipush 29, 2) := by decide +kernel
theorem dX3_tellsFence_8 : decode cX3_tellsFence 8 = .ok (.invokevirtual 93, 3) := by decide +kernel
theorem dX3_tellsFence_11 : decode cX3_tellsFence 11 = .ok (.ifCond .ne 5, 3) := by decide +kernel
theorem dX3_tellsFence_14 : decode cX3_tellsFence 14 = .ok (.iconst 0, 1) := by decide +kernel
theorem dX3_tellsFence_15 : decode cX3_tellsFence 15 = .ok (.ireturn, 1) := by decide +kernel
theorem dX3_tellsFence_16 : decode cX3_tellsFence 16 = .ok (.aload_n 1, 1) := by decide +kernel
theorem dX3_tellsFence_17 : decode cX3_tellsFence 17 = .ok (.aload_n 0, 1) := by decide +kernel
theorem dX3_tellsFence_18 : decode cX3_tellsFence 18 = .ok (.getfield 97, 3) := by decide +kernel
theorem dX3_tellsFence_21 : decode cX3_tellsFence 21 = .ok (.iload_n 2, 1) := by decide +kernel
theorem dX3_tellsFence_22 : decode cX3_tellsFence 22 = .ok (.invokevirtual 104, 3) := by decide +kernel
theorem dX3_tellsFence_25 : decode cX3_tellsFence 25 = .ok (.iconst 1, 1) := by decide +kernel
theorem dX3_tellsFence_26 : decode cX3_tellsFence 26 = .ok (.ireturn, 1) := by decide +kernel
def finX3_tellsFence (N : Ml) : Int32 × Mi → Option Value × Mi × Ml := fun b => (some (Value.int b.1), b.2, N)
noncomputable def fX3_tellsFence   (M : Mi) (x2 : Int32) : Option (Int32 × Mi) := (Option.bind (fX3_nextToken M) (fun a1 => (Option.bind (fX3_takesNumber a1 0 29) (fun a2 => (if a2.1 = 0 then (some (0, (a2.2))) else (Option.bind (fX0_fences ((a2.2) 1) ((a2.2) 5 5) x2) (fun a4 => (some (1, (sR (a2.2) 1 a4))))))))))
theorem bX3_tellsFence {Z : Zt} {E : Ec} {N : Ml} (C : Ok 1 Z E cX3_tellsFence 3 RX3 (some .boolean) 3)    (M : Mi) (x2 : Int32)  : GT Z E 3 (finX3_tellsFence N) 0 [(0, .ref (zA Z 5 0)), (1, .ref (zA Z 1 0)), (2, .int x2)] [] M N (fX3_tellsFence M x2) := by
  unfold fX3_tellsFence
  refine r_aload_n C dX3_tellsFence_0 0 0 rfl rfl ?_
  refine r_bind (fun a1 ha1 => ?_)
  refine r_callV (rest := []) (st2 := []) C (mX3_nextToken (eL E) C.z M N a1 ha1) lk_X3_22 (rvT C) (by decide) rfl rfl (Nat.le_of_ble_eq_true rfl) dX3_tellsFence_1 rfl ?_
  refine r_aload_n C dX3_tellsFence_4 0 0 rfl rfl ?_
  refine r_iconst (v := 0) C dX3_tellsFence_5 (by decide) ?_
  refine r_bipush (v := 29) C dX3_tellsFence_6 (by decide) ?_
  refine r_bind (fun a2 ha2 => ?_)
  refine r_callV (rest := []) (st2 := [.int a2.1]) C (mX3_takesNumber (eL E) C.z a1 N 0 29 a2 ha2) lk_X3_93 (rvT C) (by decide) rfl rfl (Nat.le_of_ble_eq_true rfl) dX3_tellsFence_8 rfl ?_
  refine r_if_ne (tgt := 16) C dX3_tellsFence_11 (by decide) (fun c3 => ?_) (fun c3 => ?_)
  · refine r_aload_n C dX3_tellsFence_16 1 1 rfl rfl ?_
    refine r_aload_n C dX3_tellsFence_17 0 0 rfl rfl ?_
    refine gf_X3_97 (v := ((a2.2) 5 5)) C dX3_tellsFence_18 rfl ?_
    refine r_iload_n C dX3_tellsFence_21 2 2 rfl rfl ?_
    refine r_bind (fun a4 ha4 => ?_)
    refine r_callV (rest := []) (st2 := []) C (mX0_fences (eL E) C.z (by decide) (a2.2) _ ((a2.2) 1) ((a2.2) 5 5) x2 a4 ha4).selfW lk_X3_104 (rvI C (by decide)) (by decide) rfl rfl (Nat.le_of_ble_eq_true rfl) dX3_tellsFence_22 rfl ?_
    refine r_iconst (v := 1) C dX3_tellsFence_25 (by decide) ?_
    exact r_zret C dX3_tellsFence_26 (Or.inr rfl) rfl
  · refine r_iconst (v := 0) C dX3_tellsFence_14 (by decide) ?_
    exact r_zret C dX3_tellsFence_15 (Or.inl rfl) rfl
theorem mX3_tellsFence (l : Launch) {Z : Zt} (hZ : Zok 1 Z) (M : Mi) (N : Ml) (x2 : Int32) (b : Int32 × Mi) (hb : fX3_tellsFence M x2 = some b) : Ct 1 Z l yX3_tellsFence cX3_tellsFence 3 (some .boolean) 3 [.ref (zA Z 5 0), .ref (zA Z 1 0), .int x2] M N (some (Value.int b.1), b.2, N) :=
  metG (fin := (finX3_tellsFence N)) (by decide) (Nat.le_of_ble_eq_true rfl) (fun E _ C => bX3_tellsFence C M x2) hb
theorem dX3_tellsRain_0 : decode cX3_tellsRain 0 = .ok (.aload_n 0, 1) := by decide +kernel
theorem dX3_tellsRain_1 : decode cX3_tellsRain 1 = .ok (.invokevirtual 22, 3) := by decide +kernel
theorem dX3_tellsRain_4 : decode cX3_tellsRain 4 = .ok (.aload_n 0, 1) := by decide +kernel
theorem dX3_tellsRain_5 : decode cX3_tellsRain 5 = .ok (.iconst 0, 1) := by decide +kernel
theorem dX3_tellsRain_6 : decode cX3_tellsRain 6 = .ok (.bipush 23, 2) := by decide +kernel
theorem dX3_tellsRain_8 : decode cX3_tellsRain 8 = .ok (.invokevirtual 93, 3) := by decide +kernel
theorem dX3_tellsRain_11 : decode cX3_tellsRain 11 = .ok (.ifCond .ne 5, 3) := by decide +kernel
theorem dX3_tellsRain_14 : decode cX3_tellsRain 14 = .ok (.iconst 0, 1) := by decide +kernel
theorem dX3_tellsRain_15 : decode cX3_tellsRain 15 = .ok (.ireturn, 1) := by decide +kernel
theorem dX3_tellsRain_16 : decode cX3_tellsRain 16 = .ok (.aload_n 0, 1) := by decide +kernel
theorem dX3_tellsRain_17 : decode cX3_tellsRain 17 = .ok (.getfield 97, 3) := by decide +kernel
theorem dX3_tellsRain_20 : decode cX3_tellsRain 20 = .ok (.istore_n 2, 1) := by decide +kernel
theorem dX3_tellsRain_21 : decode cX3_tellsRain 21 = .ok (.aload_n 0, 1) := by decide +kernel
theorem dX3_tellsRain_22 : decode cX3_tellsRain 22 = .ok (.ldc 108, 2) := by decide +kernel
theorem dX3_tellsRain_24 : decode cX3_tellsRain 24 = .ok (.invokevirtual 45, 3) := by decide +kernel
theorem dX3_tellsRain_27 : decode cX3_tellsRain 27 = .ok (.ifCond .eq 19, 3) := by decide +kernel
theorem dX3_tellsRain_30 : decode cX3_tellsRain 30 = .ok (.aload_n 0, 1) := by decide +kernel
theorem dX3_tellsRain_31 : decode cX3_tellsRain 31 = .ok (.invokevirtual 22, 3) := by decide +kernel
theorem dX3_tellsRain_34 : decode cX3_tellsRain 34 = .ok (.aload_n 0, 1) := by decide +kernel
theorem dX3_tellsRain_35 : decode cX3_tellsRain 35 = .ok (.iload_n 2, 1) := by decide +kernel
theorem dX3_tellsRain_36 : decode cX3_tellsRain 36 = .ok (.bipush 23, 2) := by decide +kernel
theorem dX3_tellsRain_38 : decode cX3_tellsRain 38 = .ok (.invokevirtual 93, 3) := by decide +kernel
theorem dX3_tellsRain_41 : decode cX3_tellsRain 41 = .ok (.ifCond .ne 5, 3) := by decide +kernel
theorem dX3_tellsRain_44 : decode cX3_tellsRain 44 = .ok (.iconst 0, 1) := by decide +kernel
theorem dX3_tellsRain_45 : decode cX3_tellsRain 45 = .ok (.ireturn, 1) := by decide +kernel
theorem dX3_tellsRain_46 : decode cX3_tellsRain 46 = .ok (.iload_n 2, 1) := by decide +kernel
theorem dX3_tellsRain_47 : decode cX3_tellsRain 47 = .ok (.istore_n 3, 1) := by decide +kernel
theorem dX3_tellsRain_48 : decode cX3_tellsRain 48 = .ok (.iload_n 3, 1) := by decide +kernel
theorem dX3_tellsRain_49 : decode cX3_tellsRain 49 = .ok (.aload_n 0, 1) := by decide +kernel
theorem dX3_tellsRain_50 : decode cX3_tellsRain 50 = .ok (.getfield 97, 3) := by decide +kernel
theorem dX3_tellsRain_53 : decode cX3_tellsRain 53 = .ok (.if_icmp .gt 21, 3) := by decide +kernel
theorem dX3_tellsRain_56 : decode cX3_tellsRain 56 = .ok (.aload_n 1, 1) := by decide +kernel
theorem dX3_tellsRain_57 : decode cX3_tellsRain 57 = .ok (.dup, 1) := by decide +kernel
theorem dX3_tellsRain_58 : decode cX3_tellsRain 58 = .ok (.getfield 110, 3) := by decide +kernel
theorem dX3_tellsRain_61 : decode cX3_tellsRain 61 = .ok (.iconst 1, 1) := by decide +kernel
theorem dX3_tellsRain_62 : decode cX3_tellsRain 62 = .ok (.iload_n 3, 1) := by decide +kernel
theorem dX3_tellsRain_63 : decode cX3_tellsRain 63 = .ok (.ishl, 1) := by decide +kernel
theorem dX3_tellsRain_64 : decode cX3_tellsRain 64 = .ok (.ior, 1) := by decide +kernel
theorem dX3_tellsRain_65 : decode cX3_tellsRain 65 = .ok (.putfield 110, 3) := by decide +kernel
theorem dX3_tellsRain_68 : decode cX3_tellsRain 68 = .ok (.iinc 3 1, 3) := by decide +kernel
theorem dX3_tellsRain_71 : decode cX3_tellsRain 71 = .ok (.goto (-23), 3) := by decide +kernel
theorem dX3_tellsRain_74 : decode cX3_tellsRain 74 = .ok (.iconst 1, 1) := by decide +kernel
theorem dX3_tellsRain_75 : decode cX3_tellsRain 75 = .ok (.ireturn, 1) := by decide +kernel
def finX3_tellsRain (N : Ml) : Int32 × Mi → Option Value × Mi × Ml := fun b => (some (Value.int b.1), b.2, N)
noncomputable def fX3_tellsRain_48   : Nat → Mi → Int32 → Option (Int32 × Mi)
  | 0 => fun _ _ => none
  | n + 1 => fun M x3 => (if (M 5 5) < x3 then (some (1, M)) else ((fX3_tellsRain_48 n) (wM M 1 6 ((M 1 6) ||| (1 <<< (x3 &&& 31)))) (x3 + 1)))
theorem bX3_tellsRain_48 {Z : Zt} {E : Ec} {N : Ml} (C : Ok 1 Z E cX3_tellsRain 4 RX3 (some .boolean) 5)    : ∀ (n : Nat) (M : Mi) (x3 : Int32), GT Z E 4 (finX3_tellsRain N) 48 [(0, .ref (zA Z 5 0)), (1, .ref (zA Z 1 0)), (3, .int x3)] [] M N (fX3_tellsRain_48 n M x3) := by
  intro n
  induction n with
  | zero => intro M x3; exact r_none
  | succ n ih =>
    intro M x3
    rw [fX3_tellsRain_48]
    refine r_iload_n C dX3_tellsRain_48 3 2 rfl rfl ?_
    refine r_aload_n C dX3_tellsRain_49 0 0 rfl rfl ?_
    refine gf_X3_97 (v := (M 5 5)) C dX3_tellsRain_50 rfl ?_
    refine r_ic_gt (tgt := 74) C dX3_tellsRain_53 (by decide) (fun c6 => ?_) (fun c6 => ?_)
    · refine r_iconst (v := 1) C dX3_tellsRain_74 (by decide) ?_
      exact r_zret C dX3_tellsRain_75 (Or.inr rfl) rfl
    · refine r_aload_n C dX3_tellsRain_56 1 1 rfl rfl ?_
      refine r_dup C dX3_tellsRain_57 rfl ?_
      refine gf_X3_110 (v := (M 1 6)) C (by decide) dX3_tellsRain_58 rfl ?_
      refine r_iconst (v := 1) C dX3_tellsRain_61 (by decide) ?_
      refine r_iload_n C dX3_tellsRain_62 3 2 rfl rfl ?_
      refine r_ishl C dX3_tellsRain_63 ?_
      refine r_ior C dX3_tellsRain_64 ?_
      refine pf_X3_110 (M' := (wM M 1 6 ((M 1 6) ||| (1 <<< (x3 &&& 31))))) C (by decide) dX3_tellsRain_65 rfl ?_
      refine r_iinc (v := (x3 + 1)) (lv' := [(3, .int (x3 + 1)), (0, .ref (zA Z 5 0)), (1, .ref (zA Z 1 0))]) C dX3_tellsRain_68 2 rfl rfl (by decide) rfl ?_
      refine r_goto (tgt := 48) C dX3_tellsRain_71 (by decide) ?_
      refine r_lv [1, 2, 0] (lv' := [(0, .ref (zA Z 5 0)), (1, .ref (zA Z 1 0)), (3, .int (x3 + 1))]) rfl ?_
      exact ih (wM M 1 6 ((M 1 6) ||| (1 <<< (x3 &&& 31)))) (x3 + 1)
noncomputable def fX3_tellsRain   (M : Mi) : Option (Int32 × Mi) := (Option.bind (fX3_nextToken M) (fun a1 => (Option.bind (fX3_takesNumber a1 0 23) (fun a2 => (if a2.1 = 0 then (some (0, (a2.2))) else (Option.bind (fX3_isWord (a2.2) 10) (fun a4 => (if a4 = 0 then (fX3_tellsRain_48 fu (a2.2) ((a2.2) 5 5)) else (Option.bind (fX3_nextToken (a2.2)) (fun a7 => (Option.bind (fX3_takesNumber a7 ((a2.2) 5 5) 23) (fun a8 => (if a8.1 = 0 then (some (0, (a8.2))) else (fX3_tellsRain_48 fu (a8.2) ((a2.2) 5 5)))))))))))))))
theorem bX3_tellsRain {Z : Zt} {E : Ec} {N : Ml} (C : Ok 1 Z E cX3_tellsRain 4 RX3 (some .boolean) 5)    (M : Mi)  : GT Z E 4 (finX3_tellsRain N) 0 [(0, .ref (zA Z 5 0)), (1, .ref (zA Z 1 0))] [] M N (fX3_tellsRain M) := by
  unfold fX3_tellsRain
  refine r_aload_n C dX3_tellsRain_0 0 0 rfl rfl ?_
  refine r_bind (fun a1 ha1 => ?_)
  refine r_callV (rest := []) (st2 := []) C (mX3_nextToken (eL E) C.z M N a1 ha1) lk_X3_22 (rvT C) (by decide) rfl rfl (Nat.le_of_ble_eq_true rfl) dX3_tellsRain_1 rfl ?_
  refine r_aload_n C dX3_tellsRain_4 0 0 rfl rfl ?_
  refine r_iconst (v := 0) C dX3_tellsRain_5 (by decide) ?_
  refine r_bipush (v := 23) C dX3_tellsRain_6 (by decide) ?_
  refine r_bind (fun a2 ha2 => ?_)
  refine r_callV (rest := []) (st2 := [.int a2.1]) C (mX3_takesNumber (eL E) C.z a1 N 0 23 a2 ha2) lk_X3_93 (rvT C) (by decide) rfl rfl (Nat.le_of_ble_eq_true rfl) dX3_tellsRain_8 rfl ?_
  refine r_if_ne (tgt := 16) C dX3_tellsRain_11 (by decide) (fun c3 => ?_) (fun c3 => ?_)
  · refine r_aload_n C dX3_tellsRain_16 0 0 rfl rfl ?_
    refine gf_X3_97 (v := ((a2.2) 5 5)) C dX3_tellsRain_17 rfl ?_
    refine r_istore_n (lv' := [(2, .int ((a2.2) 5 5)), (0, .ref (zA Z 5 0)), (1, .ref (zA Z 1 0))]) C dX3_tellsRain_20 2 rfl (by decide) rfl ?_
    refine r_aload_n C dX3_tellsRain_21 0 1 rfl rfl ?_
    refine r_ldcS (k := 10) C dX3_tellsRain_22 rfl ?_
    refine r_bind (fun a4 ha4 => ?_)
    refine r_callV (rest := []) (st2 := [.int a4]) C (mX3_isWord (eL E) C.z (by decide) (a2.2) N 10 a4 ha4) lk_X3_45 (rvT C) (by decide) rfl rfl (Nat.le_of_ble_eq_true rfl) dX3_tellsRain_24 rfl ?_
    refine r_if_eq (tgt := 46) C dX3_tellsRain_27 (by decide) (fun c5 => ?_) (fun c5 => ?_)
    · refine r_iload_n C dX3_tellsRain_46 2 0 rfl rfl ?_
      refine r_istore_n (lv' := [(3, .int ((a2.2) 5 5)), (2, .int ((a2.2) 5 5)), (0, .ref (zA Z 5 0)), (1, .ref (zA Z 1 0))]) C dX3_tellsRain_47 3 rfl (by decide) rfl ?_
      refine r_lv [2, 3, 0] (lv' := [(0, .ref (zA Z 5 0)), (1, .ref (zA Z 1 0)), (3, .int ((a2.2) 5 5))]) rfl ?_
      exact bX3_tellsRain_48 C fu (a2.2) ((a2.2) 5 5)
    · refine r_aload_n C dX3_tellsRain_30 0 1 rfl rfl ?_
      refine r_bind (fun a7 ha7 => ?_)
      refine r_callV (rest := []) (st2 := []) C (mX3_nextToken (eL E) C.z (a2.2) N a7 ha7) lk_X3_22 (rvT C) (by decide) rfl rfl (Nat.le_of_ble_eq_true rfl) dX3_tellsRain_31 rfl ?_
      refine r_aload_n C dX3_tellsRain_34 0 1 rfl rfl ?_
      refine r_iload_n C dX3_tellsRain_35 2 0 rfl rfl ?_
      refine r_bipush (v := 23) C dX3_tellsRain_36 (by decide) ?_
      refine r_bind (fun a8 ha8 => ?_)
      refine r_callV (rest := []) (st2 := [.int a8.1]) C (mX3_takesNumber (eL E) C.z a7 N ((a2.2) 5 5) 23 a8 ha8) lk_X3_93 (rvT C) (by decide) rfl rfl (Nat.le_of_ble_eq_true rfl) dX3_tellsRain_38 rfl ?_
      refine r_if_ne (tgt := 46) C dX3_tellsRain_41 (by decide) (fun c9 => ?_) (fun c9 => ?_)
      · refine r_iload_n C dX3_tellsRain_46 2 0 rfl rfl ?_
        refine r_istore_n (lv' := [(3, .int ((a2.2) 5 5)), (2, .int ((a2.2) 5 5)), (0, .ref (zA Z 5 0)), (1, .ref (zA Z 1 0))]) C dX3_tellsRain_47 3 rfl (by decide) rfl ?_
        refine r_lv [2, 3, 0] (lv' := [(0, .ref (zA Z 5 0)), (1, .ref (zA Z 1 0)), (3, .int ((a2.2) 5 5))]) rfl ?_
        exact bX3_tellsRain_48 C fu (a8.2) ((a2.2) 5 5)
      · refine r_iconst (v := 0) C dX3_tellsRain_44 (by decide) ?_
        exact r_zret C dX3_tellsRain_45 (Or.inl rfl) rfl
  · refine r_iconst (v := 0) C dX3_tellsRain_14 (by decide) ?_
    exact r_zret C dX3_tellsRain_15 (Or.inl rfl) rfl
theorem mX3_tellsRain (l : Launch) {Z : Zt} (hZ : Zok 1 Z) (M : Mi) (N : Ml) (b : Int32 × Mi) (hb : fX3_tellsRain M = some b) : Ct 1 Z l yX3_tellsRain cX3_tellsRain 4 (some .boolean) 5 [.ref (zA Z 5 0), .ref (zA Z 1 0)] M N (some (Value.int b.1), b.2, N) :=
  metG (fin := (finX3_tellsRain N)) (by decide) (Nat.le_of_ble_eq_true rfl) (fun E _ C => bX3_tellsRain C M) hb
theorem dX3_tellsSpot_0 : decode cX3_tellsSpot 0 = .ok (.aload_n 0, 1) := by decide +kernel
theorem dX3_tellsSpot_1 : decode cX3_tellsSpot 1 = .ok (.invokevirtual 22, 3) := by decide +kernel
theorem dX3_tellsSpot_4 : decode cX3_tellsSpot 4 = .ok (.aload_n 0, 1) := by decide +kernel
theorem dX3_tellsSpot_5 : decode cX3_tellsSpot 5 = .ok (.iconst 0, 1) := by decide +kernel
theorem dX3_tellsSpot_6 : decode cX3_tellsSpot 6 = .ok (.bipush 29, 2) := by decide +kernel
theorem dX3_tellsSpot_8 : decode cX3_tellsSpot 8 = .ok (.invokevirtual 93, 3) := by decide +kernel
theorem dX3_tellsSpot_11 : decode cX3_tellsSpot 11 = .ok (.ifCond .ne 5, 3) := by decide +kernel
theorem dX3_tellsSpot_14 : decode cX3_tellsSpot 14 = .ok (.iconst 0, 1) := by decide +kernel
theorem dX3_tellsSpot_15 : decode cX3_tellsSpot 15 = .ok (.ireturn, 1) := by decide +kernel
theorem dX3_tellsSpot_16 : decode cX3_tellsSpot 16 = .ok (.aload_n 1, 1) := by decide +kernel
theorem dX3_tellsSpot_17 : decode cX3_tellsSpot 17 = .ok (.getfield 113, 3) := by decide +kernel
theorem dX3_tellsSpot_20 : decode cX3_tellsSpot 20 = .ok (.iload_n 2, 1) := by decide +kernel
theorem dX3_tellsSpot_21 : decode cX3_tellsSpot 21 = .ok (.aload_n 0, 1) := by decide +kernel
theorem dX3_tellsSpot_22 : decode cX3_tellsSpot 22 = .ok (.getfield 97, 3) := by decide +kernel
theorem dX3_tellsSpot_25 : decode cX3_tellsSpot 25 = .ok (.iastore, 1) := by decide +kernel
theorem dX3_tellsSpot_26 : decode cX3_tellsSpot 26 = .ok (.iconst 1, 1) := by decide +kernel
theorem dX3_tellsSpot_27 : decode cX3_tellsSpot 27 = .ok (.ireturn, 1) := by decide +kernel
def finX3_tellsSpot (N : Ml) : Int32 × Mi → Option Value × Mi × Ml := fun b => (some (Value.int b.1), b.2, N)
noncomputable def fX3_tellsSpot   (M : Mi) (x2 : Int32) : Option (Int32 × Mi) := (Option.bind (fX3_nextToken M) (fun a1 => (Option.bind (fX3_takesNumber a1 0 29) (fun a2 => (if a2.1 = 0 then (some (0, (a2.2))) else (if inb x2 3 then (some (1, (wM (a2.2) 1 (3 + ix x2) ((a2.2) 5 5)))) else none))))))
theorem bX3_tellsSpot {Z : Zt} {E : Ec} {N : Ml} (C : Ok 1 Z E cX3_tellsSpot 3 RX3 (some .boolean) 3)    (M : Mi) (x2 : Int32)  : GT Z E 3 (finX3_tellsSpot N) 0 [(0, .ref (zA Z 5 0)), (1, .ref (zA Z 1 0)), (2, .int x2)] [] M N (fX3_tellsSpot M x2) := by
  unfold fX3_tellsSpot
  refine r_aload_n C dX3_tellsSpot_0 0 0 rfl rfl ?_
  refine r_bind (fun a1 ha1 => ?_)
  refine r_callV (rest := []) (st2 := []) C (mX3_nextToken (eL E) C.z M N a1 ha1) lk_X3_22 (rvT C) (by decide) rfl rfl (Nat.le_of_ble_eq_true rfl) dX3_tellsSpot_1 rfl ?_
  refine r_aload_n C dX3_tellsSpot_4 0 0 rfl rfl ?_
  refine r_iconst (v := 0) C dX3_tellsSpot_5 (by decide) ?_
  refine r_bipush (v := 29) C dX3_tellsSpot_6 (by decide) ?_
  refine r_bind (fun a2 ha2 => ?_)
  refine r_callV (rest := []) (st2 := [.int a2.1]) C (mX3_takesNumber (eL E) C.z a1 N 0 29 a2 ha2) lk_X3_93 (rvT C) (by decide) rfl rfl (Nat.le_of_ble_eq_true rfl) dX3_tellsSpot_8 rfl ?_
  refine r_if_ne (tgt := 16) C dX3_tellsSpot_11 (by decide) (fun c3 => ?_) (fun c3 => ?_)
  · refine r_aload_n C dX3_tellsSpot_16 1 1 rfl rfl ?_
    refine gf_X3_113 C (by decide) dX3_tellsSpot_17 ?_
    refine r_iload_n C dX3_tellsSpot_20 2 2 rfl rfl ?_
    refine r_aload_n C dX3_tellsSpot_21 0 0 rfl rfl ?_
    refine gf_X3_97 (v := ((a2.2) 5 5)) C dX3_tellsSpot_22 rfl ?_
    refine r_guard (fun h4 => ?_)
    refine ast_I1 (M' := (wM (a2.2) 1 (3 + ix x2) ((a2.2) 5 5))) C (by decide) h4 rfl dX3_tellsSpot_25 ?_
    refine r_iconst (v := 1) C dX3_tellsSpot_26 (by decide) ?_
    exact r_zret C dX3_tellsSpot_27 (Or.inr rfl) rfl
  · refine r_iconst (v := 0) C dX3_tellsSpot_14 (by decide) ?_
    exact r_zret C dX3_tellsSpot_15 (Or.inl rfl) rfl
theorem mX3_tellsSpot (l : Launch) {Z : Zt} (hZ : Zok 1 Z) (M : Mi) (N : Ml) (x2 : Int32) (b : Int32 × Mi) (hb : fX3_tellsSpot M x2 = some b) : Ct 1 Z l yX3_tellsSpot cX3_tellsSpot 3 (some .boolean) 3 [.ref (zA Z 5 0), .ref (zA Z 1 0), .int x2] M N (some (Value.int b.1), b.2, N) :=
  metG (fin := (finX3_tellsSpot N)) (by decide) (Nat.le_of_ble_eq_true rfl) (fun E _ C => bX3_tellsSpot C M x2) hb
theorem dX3_tellsItem_0 : decode cX3_tellsItem 0 = .ok (.aload_n 0, 1) := by decide +kernel
theorem dX3_tellsItem_1 : decode cX3_tellsItem 1 = .ok (.getfield 29, 3) := by decide +kernel
theorem dX3_tellsItem_4 : decode cX3_tellsItem 4 = .ok (.iconst 1, 1) := by decide +kernel
theorem dX3_tellsItem_5 : decode cX3_tellsItem 5 = .ok (.if_icmp .eq 5, 3) := by decide +kernel
theorem dX3_tellsItem_8 : decode cX3_tellsItem 8 = .ok (.iconst 0, 1) := by decide +kernel
theorem dX3_tellsItem_9 : decode cX3_tellsItem 9 = .ok (.ireturn, 1) := by decide +kernel
theorem dX3_tellsItem_10 : decode cX3_tellsItem 10 = .ok (.aload_n 0, 1) := by decide +kernel
theorem dX3_tellsItem_11 : decode cX3_tellsItem 11 = .ok (.invokevirtual 35, 3) := by decide +kernel
theorem dX3_tellsItem_14 : decode cX3_tellsItem 14 = .ok (.istore_n 2, 1) := by decide +kernel
theorem dX3_tellsItem_15 : decode cX3_tellsItem 15 = .ok (.iload_n 2, 1) := by decide +kernel
theorem dX3_tellsItem_16 : decode cX3_tellsItem 16 = .ok (.iconst (-1), 1) := by decide +kernel
theorem dX3_tellsItem_17 : decode cX3_tellsItem 17 = .ok (.if_icmp .eq 10, 3) := by decide +kernel
theorem dX3_tellsItem_20 : decode cX3_tellsItem 20 = .ok (.aload_n 0, 1) := by decide +kernel
theorem dX3_tellsItem_21 : decode cX3_tellsItem 21 = .ok (.aload_n 1, 1) := by decide +kernel
theorem dX3_tellsItem_22 : decode cX3_tellsItem 22 = .ok (.iload_n 2, 1) := by decide +kernel
theorem dX3_tellsItem_23 : decode cX3_tellsItem 23 = .ok (.invokevirtual 39, 3) := by decide +kernel
theorem dX3_tellsItem_26 : decode cX3_tellsItem 26 = .ok (.ireturn, 1) := by decide +kernel
theorem dX3_tellsItem_27 : decode cX3_tellsItem 27 = .ok (.aload_n 0, 1) := by decide +kernel
theorem dX3_tellsItem_28 : decode cX3_tellsItem 28 = .ok (.ldc 43, 2) := by decide +kernel
theorem dX3_tellsItem_30 : decode cX3_tellsItem 30 = .ok (.invokevirtual 45, 3) := by decide +kernel
theorem dX3_tellsItem_33 : decode cX3_tellsItem 33 = .ok (.ifCond .eq 10, 3) := by decide +kernel
theorem dX3_tellsItem_36 : decode cX3_tellsItem 36 = .ok (.aload_n 0, 1) := by decide +kernel
theorem dX3_tellsItem_37 : decode cX3_tellsItem 37 = .ok (.aload_n 1, 1) := by decide +kernel
theorem dX3_tellsItem_38 : decode cX3_tellsItem 38 = .ok (.iconst 1, 1) := by decide +kernel
theorem dX3_tellsItem_39 : decode cX3_tellsItem 39 = .ok (.invokevirtual 49, 3) := by decide +kernel
theorem dX3_tellsItem_42 : decode cX3_tellsItem 42 = .ok (.ireturn, 1) := by decide +kernel
theorem dX3_tellsItem_43 : decode cX3_tellsItem 43 = .ok (.aload_n 0, 1) := by decide +kernel
theorem dX3_tellsItem_44 : decode cX3_tellsItem 44 = .ok (.ldc 53, 2) := by decide +kernel
theorem dX3_tellsItem_46 : decode cX3_tellsItem 46 = .ok (.invokevirtual 45, 3) := by decide +kernel
theorem dX3_tellsItem_49 : decode cX3_tellsItem 49 = .ok (.ifCond .eq 10, 3) := by decide +kernel
theorem dX3_tellsItem_52 : decode cX3_tellsItem 52 = .ok (.aload_n 0, 1) := by decide +kernel
theorem dX3_tellsItem_53 : decode cX3_tellsItem 53 = .ok (.aload_n 1, 1) := by decide +kernel
theorem dX3_tellsItem_54 : decode cX3_tellsItem 54 = .ok (.iconst 0, 1) := by decide +kernel
theorem dX3_tellsItem_55 : decode cX3_tellsItem 55 = .ok (.invokevirtual 49, 3) := by decide +kernel
theorem dX3_tellsItem_58 : decode cX3_tellsItem 58 = .ok (.ireturn, 1) := by decide +kernel
theorem dX3_tellsItem_59 : decode cX3_tellsItem 59 = .ok (.aload_n 0, 1) := by decide +kernel
theorem dX3_tellsItem_60 : decode cX3_tellsItem 60 = .ok (.ldc 55, 2) := by decide +kernel
theorem dX3_tellsItem_62 : decode cX3_tellsItem 62 = .ok (.invokevirtual 45, 3) := by decide +kernel
theorem dX3_tellsItem_65 : decode cX3_tellsItem 65 = .ok (.ifCond .eq 9, 3) := by decide +kernel
theorem dX3_tellsItem_68 : decode cX3_tellsItem 68 = .ok (.aload_n 0, 1) := by decide +kernel
theorem dX3_tellsItem_69 : decode cX3_tellsItem 69 = .ok (.aload_n 1, 1) := by decide +kernel
theorem dX3_tellsItem_70 : decode cX3_tellsItem 70 = .ok (.invokevirtual 57, 3) := by decide +kernel
theorem dX3_tellsItem_73 : decode cX3_tellsItem 73 = .ok (.ireturn, 1) := by decide +kernel
theorem dX3_tellsItem_74 : decode cX3_tellsItem 74 = .ok (.aload_n 0, 1) := by decide +kernel
theorem dX3_tellsItem_75 : decode cX3_tellsItem 75 = .ok (.ldc 60, 2) := by decide +kernel
theorem dX3_tellsItem_77 : decode cX3_tellsItem 77 = .ok (.invokevirtual 45, 3) := by decide +kernel
theorem dX3_tellsItem_80 : decode cX3_tellsItem 80 = .ok (.ifCond .eq 10, 3) := by decide +kernel
theorem dX3_tellsItem_83 : decode cX3_tellsItem 83 = .ok (.aload_n 0, 1) := by decide +kernel
theorem dX3_tellsItem_84 : decode cX3_tellsItem 84 = .ok (.aload_n 1, 1) := by decide +kernel
theorem dX3_tellsItem_85 : decode cX3_tellsItem 85 = .ok (.iconst 0, 1) := by decide +kernel
theorem dX3_tellsItem_86 : decode cX3_tellsItem 86 = .ok (.invokevirtual 62, 3) := by decide +kernel
theorem dX3_tellsItem_89 : decode cX3_tellsItem 89 = .ok (.ireturn, 1) := by decide +kernel
theorem dX3_tellsItem_90 : decode cX3_tellsItem 90 = .ok (.aload_n 0, 1) := by decide +kernel
theorem dX3_tellsItem_91 : decode cX3_tellsItem 91 = .ok (.ldc 65, 2) := by decide +kernel
theorem dX3_tellsItem_93 : decode cX3_tellsItem 93 = .ok (.invokevirtual 45, 3) := by decide +kernel
theorem dX3_tellsItem_96 : decode cX3_tellsItem 96 = .ok (.ifCond .eq 10, 3) := by decide +kernel
theorem dX3_tellsItem_99 : decode cX3_tellsItem 99 = .ok (.aload_n 0, 1) := by decide +kernel
theorem dX3_tellsItem_100 : decode cX3_tellsItem 100 = .ok (.aload_n 1, 1) := by decide +kernel
theorem dX3_tellsItem_101 : decode cX3_tellsItem 101 = .ok (.iconst 1, 1) := by decide +kernel
theorem dX3_tellsItem_102 : decode cX3_tellsItem 102 = .ok (.invokevirtual 62, 3) := by decide +kernel
theorem dX3_tellsItem_105 : decode cX3_tellsItem 105 = .ok (.ireturn, 1) := by decide +kernel
theorem dX3_tellsItem_106 : decode cX3_tellsItem 106 = .ok (.aload_n 0, 1) := by decide +kernel
theorem dX3_tellsItem_107 : decode cX3_tellsItem 107 = .ok (.ldc 67, 2) := by decide +kernel
theorem dX3_tellsItem_109 : decode cX3_tellsItem 109 = .ok (.invokevirtual 45, 3) := by decide +kernel
theorem dX3_tellsItem_112 : decode cX3_tellsItem 112 = .ok (.ifCond .eq 16, 3) := by decide +kernel
theorem dX3_tellsItem_115 : decode cX3_tellsItem 115 = .ok (.aload_n 0, 1) := by decide +kernel
theorem dX3_tellsItem_116 : decode cX3_tellsItem 116 = .ok (.aload_n 1, 1) := by decide +kernel
theorem dX3_tellsItem_117 : decode cX3_tellsItem 117 = .ok (.iconst 2, 1) := by decide +kernel
theorem dX3_tellsItem_118 : decode cX3_tellsItem 118 = .ok (.invokevirtual 62, 3) := by decide +kernel
theorem dX3_tellsItem_121 : decode cX3_tellsItem 121 = .ok (.ifCond .eq 7, 3) := by decide +kernel
theorem dX3_tellsItem_124 : decode cX3_tellsItem 124 = .ok (.iconst 1, 1) := by decide +kernel
theorem dX3_tellsItem_125 : decode cX3_tellsItem 125 = .ok (.goto 4, 3) := by decide +kernel
theorem dX3_tellsItem_128 : decode cX3_tellsItem 128 = .ok (.iconst 0, 1) := by decide +kernel
theorem dX3_tellsItem_129 : decode cX3_tellsItem 129 = .ok (.ireturn, 1) := by decide +kernel
def finX3_tellsItem (N : Ml) : Int32 × Mi → Option Value × Mi × Ml := fun b => (some (Value.int b.1), b.2, N)
noncomputable def fX3_tellsItem   (M : Mi) : Option (Int32 × Mi) := (if (M 5 1) = 1 then (Option.bind (fX3_kindTold M) (fun a2 => (if a2 = (-1) then (Option.bind (fX3_isWord M 7) (fun a4 => (if a4 = 0 then (Option.bind (fX3_isWord M 8) (fun a6 => (if a6 = 0 then (Option.bind (fX3_isWord M 9) (fun a8 => (if a8 = 0 then (Option.bind (fX3_isWord M 11) (fun a10 => (if a10 = 0 then (Option.bind (fX3_isWord M 12) (fun a12 => (if a12 = 0 then (Option.bind (fX3_isWord M 13) (fun a14 => (if a14 = 0 then (some (0, M)) else (Option.bind (fX3_tellsSpot M 2) (fun a16 => (if a16.1 = 0 then (some (0, (a16.2))) else (some (1, (a16.2))))))))) else (Option.bind (fX3_tellsSpot M 1) (fun a18 => (if a18.1 = 0 ∨ a18.1 = 1 then (some (a18.1, (a18.2))) else none)))))) else (Option.bind (fX3_tellsSpot M 0) (fun a20 => (if a20.1 = 0 ∨ a20.1 = 1 then (some (a20.1, (a20.2))) else none)))))) else (Option.bind (fX3_tellsRain M) (fun a22 => (if a22.1 = 0 ∨ a22.1 = 1 then (some (a22.1, (a22.2))) else none)))))) else (Option.bind (fX3_tellsFence M 0) (fun a24 => (if a24.1 = 0 ∨ a24.1 = 1 then (some (a24.1, (a24.2))) else none)))))) else (Option.bind (fX3_tellsFence M 1) (fun a26 => (if a26.1 = 0 ∨ a26.1 = 1 then (some (a26.1, (a26.2))) else none)))))) else (Option.bind (fX3_tellsTortoise M a2) (fun a28 => (if a28.1 = 0 ∨ a28.1 = 1 then (some (a28.1, (a28.2))) else none)))))) else (some (0, M)))
theorem bX3_tellsItem {Z : Zt} {E : Ec} {N : Ml} (C : Ok 1 Z E cX3_tellsItem 3 RX3 (some .boolean) 6)    (M : Mi)  : GT Z E 3 (finX3_tellsItem N) 0 [(0, .ref (zA Z 5 0)), (1, .ref (zA Z 1 0))] [] M N (fX3_tellsItem M) := by
  unfold fX3_tellsItem
  refine r_aload_n C dX3_tellsItem_0 0 0 rfl rfl ?_
  refine gf_X3_29 (v := (M 5 1)) C dX3_tellsItem_1 rfl ?_
  refine r_iconst (v := 1) C dX3_tellsItem_4 (by decide) ?_
  refine r_ic_eq (tgt := 10) C dX3_tellsItem_5 (by decide) (fun c1 => ?_) (fun c1 => ?_)
  · refine r_aload_n C dX3_tellsItem_10 0 0 rfl rfl ?_
    refine r_bind (fun a2 ha2 => ?_)
    refine r_callV (rest := []) (st2 := [.int a2]) C (mX3_kindTold (eL E) C.z M N a2 ha2) lk_X3_35 (rvT C) (by decide) rfl rfl (Nat.le_of_ble_eq_true rfl) dX3_tellsItem_11 rfl ?_
    refine r_istore_n (lv' := [(2, .int a2), (0, .ref (zA Z 5 0)), (1, .ref (zA Z 1 0))]) C dX3_tellsItem_14 2 rfl (by decide) rfl ?_
    refine r_iload_n C dX3_tellsItem_15 2 0 rfl rfl ?_
    refine r_iconst (v := (-1)) C dX3_tellsItem_16 (by decide) ?_
    refine r_ic_eq (tgt := 27) C dX3_tellsItem_17 (by decide) (fun c3 => ?_) (fun c3 => ?_)
    · refine r_aload_n C dX3_tellsItem_27 0 1 rfl rfl ?_
      refine r_ldcS (k := 7) C dX3_tellsItem_28 rfl ?_
      refine r_bind (fun a4 ha4 => ?_)
      refine r_callV (rest := []) (st2 := [.int a4]) C (mX3_isWord (eL E) C.z (by decide) M N 7 a4 ha4) lk_X3_45 (rvT C) (by decide) rfl rfl (Nat.le_of_ble_eq_true rfl) dX3_tellsItem_30 rfl ?_
      refine r_if_eq (tgt := 43) C dX3_tellsItem_33 (by decide) (fun c5 => ?_) (fun c5 => ?_)
      · refine r_aload_n C dX3_tellsItem_43 0 1 rfl rfl ?_
        refine r_ldcS (k := 8) C dX3_tellsItem_44 rfl ?_
        refine r_bind (fun a6 ha6 => ?_)
        refine r_callV (rest := []) (st2 := [.int a6]) C (mX3_isWord (eL E) C.z (by decide) M N 8 a6 ha6) lk_X3_45 (rvT C) (by decide) rfl rfl (Nat.le_of_ble_eq_true rfl) dX3_tellsItem_46 rfl ?_
        refine r_if_eq (tgt := 59) C dX3_tellsItem_49 (by decide) (fun c7 => ?_) (fun c7 => ?_)
        · refine r_aload_n C dX3_tellsItem_59 0 1 rfl rfl ?_
          refine r_ldcS (k := 9) C dX3_tellsItem_60 rfl ?_
          refine r_bind (fun a8 ha8 => ?_)
          refine r_callV (rest := []) (st2 := [.int a8]) C (mX3_isWord (eL E) C.z (by decide) M N 9 a8 ha8) lk_X3_45 (rvT C) (by decide) rfl rfl (Nat.le_of_ble_eq_true rfl) dX3_tellsItem_62 rfl ?_
          refine r_if_eq (tgt := 74) C dX3_tellsItem_65 (by decide) (fun c9 => ?_) (fun c9 => ?_)
          · refine r_aload_n C dX3_tellsItem_74 0 1 rfl rfl ?_
            refine r_ldcS (k := 11) C dX3_tellsItem_75 rfl ?_
            refine r_bind (fun a10 ha10 => ?_)
            refine r_callV (rest := []) (st2 := [.int a10]) C (mX3_isWord (eL E) C.z (by decide) M N 11 a10 ha10) lk_X3_45 (rvT C) (by decide) rfl rfl (Nat.le_of_ble_eq_true rfl) dX3_tellsItem_77 rfl ?_
            refine r_if_eq (tgt := 90) C dX3_tellsItem_80 (by decide) (fun c11 => ?_) (fun c11 => ?_)
            · refine r_aload_n C dX3_tellsItem_90 0 1 rfl rfl ?_
              refine r_ldcS (k := 12) C dX3_tellsItem_91 rfl ?_
              refine r_bind (fun a12 ha12 => ?_)
              refine r_callV (rest := []) (st2 := [.int a12]) C (mX3_isWord (eL E) C.z (by decide) M N 12 a12 ha12) lk_X3_45 (rvT C) (by decide) rfl rfl (Nat.le_of_ble_eq_true rfl) dX3_tellsItem_93 rfl ?_
              refine r_if_eq (tgt := 106) C dX3_tellsItem_96 (by decide) (fun c13 => ?_) (fun c13 => ?_)
              · refine r_aload_n C dX3_tellsItem_106 0 1 rfl rfl ?_
                refine r_ldcS (k := 13) C dX3_tellsItem_107 rfl ?_
                refine r_bind (fun a14 ha14 => ?_)
                refine r_callV (rest := []) (st2 := [.int a14]) C (mX3_isWord (eL E) C.z (by decide) M N 13 a14 ha14) lk_X3_45 (rvT C) (by decide) rfl rfl (Nat.le_of_ble_eq_true rfl) dX3_tellsItem_109 rfl ?_
                refine r_if_eq (tgt := 128) C dX3_tellsItem_112 (by decide) (fun c15 => ?_) (fun c15 => ?_)
                · refine r_iconst (v := 0) C dX3_tellsItem_128 (by decide) ?_
                  exact r_zret C dX3_tellsItem_129 (Or.inl rfl) rfl
                · refine r_aload_n C dX3_tellsItem_115 0 1 rfl rfl ?_
                  refine r_aload_n C dX3_tellsItem_116 1 2 rfl rfl ?_
                  refine r_iconst (v := 2) C dX3_tellsItem_117 (by decide) ?_
                  refine r_bind (fun a16 ha16 => ?_)
                  refine r_callV (rest := []) (st2 := [.int a16.1]) C (mX3_tellsSpot (eL E) C.z M N 2 a16 ha16) lk_X3_62 (rvT C) (by decide) rfl rfl (Nat.le_of_ble_eq_true rfl) dX3_tellsItem_118 rfl ?_
                  refine r_if_eq (tgt := 128) C dX3_tellsItem_121 (by decide) (fun c17 => ?_) (fun c17 => ?_)
                  · refine r_iconst (v := 0) C dX3_tellsItem_128 (by decide) ?_
                    exact r_zret C dX3_tellsItem_129 (Or.inl rfl) rfl
                  · refine r_iconst (v := 1) C dX3_tellsItem_124 (by decide) ?_
                    refine r_goto (tgt := 129) C dX3_tellsItem_125 (by decide) ?_
                    exact r_zret C dX3_tellsItem_129 (Or.inr rfl) rfl
              · refine r_aload_n C dX3_tellsItem_99 0 1 rfl rfl ?_
                refine r_aload_n C dX3_tellsItem_100 1 2 rfl rfl ?_
                refine r_iconst (v := 1) C dX3_tellsItem_101 (by decide) ?_
                refine r_bind (fun a18 ha18 => ?_)
                refine r_callV (rest := []) (st2 := [.int a18.1]) C (mX3_tellsSpot (eL E) C.z M N 1 a18 ha18) lk_X3_62 (rvT C) (by decide) rfl rfl (Nat.le_of_ble_eq_true rfl) dX3_tellsItem_102 rfl ?_
                refine r_guard (fun h19 => ?_)
                exact r_zret C dX3_tellsItem_105 h19 rfl
            · refine r_aload_n C dX3_tellsItem_83 0 1 rfl rfl ?_
              refine r_aload_n C dX3_tellsItem_84 1 2 rfl rfl ?_
              refine r_iconst (v := 0) C dX3_tellsItem_85 (by decide) ?_
              refine r_bind (fun a20 ha20 => ?_)
              refine r_callV (rest := []) (st2 := [.int a20.1]) C (mX3_tellsSpot (eL E) C.z M N 0 a20 ha20) lk_X3_62 (rvT C) (by decide) rfl rfl (Nat.le_of_ble_eq_true rfl) dX3_tellsItem_86 rfl ?_
              refine r_guard (fun h21 => ?_)
              exact r_zret C dX3_tellsItem_89 h21 rfl
          · refine r_aload_n C dX3_tellsItem_68 0 1 rfl rfl ?_
            refine r_aload_n C dX3_tellsItem_69 1 2 rfl rfl ?_
            refine r_bind (fun a22 ha22 => ?_)
            refine r_callV (rest := []) (st2 := [.int a22.1]) C (mX3_tellsRain (eL E) C.z M N a22 ha22) lk_X3_57 (rvT C) (by decide) rfl rfl (Nat.le_of_ble_eq_true rfl) dX3_tellsItem_70 rfl ?_
            refine r_guard (fun h23 => ?_)
            exact r_zret C dX3_tellsItem_73 h23 rfl
        · refine r_aload_n C dX3_tellsItem_52 0 1 rfl rfl ?_
          refine r_aload_n C dX3_tellsItem_53 1 2 rfl rfl ?_
          refine r_iconst (v := 0) C dX3_tellsItem_54 (by decide) ?_
          refine r_bind (fun a24 ha24 => ?_)
          refine r_callV (rest := []) (st2 := [.int a24.1]) C (mX3_tellsFence (eL E) C.z M N 0 a24 ha24) lk_X3_49 (rvT C) (by decide) rfl rfl (Nat.le_of_ble_eq_true rfl) dX3_tellsItem_55 rfl ?_
          refine r_guard (fun h25 => ?_)
          exact r_zret C dX3_tellsItem_58 h25 rfl
      · refine r_aload_n C dX3_tellsItem_36 0 1 rfl rfl ?_
        refine r_aload_n C dX3_tellsItem_37 1 2 rfl rfl ?_
        refine r_iconst (v := 1) C dX3_tellsItem_38 (by decide) ?_
        refine r_bind (fun a26 ha26 => ?_)
        refine r_callV (rest := []) (st2 := [.int a26.1]) C (mX3_tellsFence (eL E) C.z M N 1 a26 ha26) lk_X3_49 (rvT C) (by decide) rfl rfl (Nat.le_of_ble_eq_true rfl) dX3_tellsItem_39 rfl ?_
        refine r_guard (fun h27 => ?_)
        exact r_zret C dX3_tellsItem_42 h27 rfl
    · refine r_aload_n C dX3_tellsItem_20 0 1 rfl rfl ?_
      refine r_aload_n C dX3_tellsItem_21 1 2 rfl rfl ?_
      refine r_iload_n C dX3_tellsItem_22 2 0 rfl rfl ?_
      refine r_bind (fun a28 ha28 => ?_)
      refine r_callV (rest := []) (st2 := [.int a28.1]) C (mX3_tellsTortoise (eL E) C.z M N a2 a28 ha28) lk_X3_39 (rvT C) (by decide) rfl rfl (Nat.le_of_ble_eq_true rfl) dX3_tellsItem_23 rfl ?_
      refine r_guard (fun h29 => ?_)
      exact r_zret C dX3_tellsItem_26 h29 rfl
  · refine r_iconst (v := 0) C dX3_tellsItem_8 (by decide) ?_
    exact r_zret C dX3_tellsItem_9 (Or.inl rfl) rfl
theorem mX3_tellsItem (l : Launch) {Z : Zt} (hZ : Zok 1 Z) (M : Mi) (N : Ml) (b : Int32 × Mi) (hb : fX3_tellsItem M = some b) : Ct 1 Z l yX3_tellsItem cX3_tellsItem 3 (some .boolean) 6 [.ref (zA Z 5 0), .ref (zA Z 1 0)] M N (some (Value.int b.1), b.2, N) :=
  metG (fin := (finX3_tellsItem N)) (by decide) (Nat.le_of_ble_eq_true rfl) (fun E _ C => bX3_tellsItem C M) hb
theorem dX3_tellsTo_0 : decode cX3_tellsTo 0 = .ok (.aload_n 0, 1) := by decide +kernel
theorem dX3_tellsTo_1 : decode cX3_tellsTo 1 = .ok (.iconst 0, 1) := by decide +kernel
theorem dX3_tellsTo_2 : decode cX3_tellsTo 2 = .ok (.putfield 19, 3) := by decide +kernel
theorem dX3_tellsTo_5 : decode cX3_tellsTo 5 = .ok (.aload_n 0, 1) := by decide +kernel
theorem dX3_tellsTo_6 : decode cX3_tellsTo 6 = .ok (.invokevirtual 22, 3) := by decide +kernel
theorem dX3_tellsTo_9 : decode cX3_tellsTo 9 = .ok (.iconst 1, 1) := by decide +kernel
theorem dX3_tellsTo_10 : decode cX3_tellsTo 10 = .ok (.istore_n 2, 1) := by decide +kernel
theorem dX3_tellsTo_11 : decode cX3_tellsTo 11 = .ok (.iload_n 2, 1) := by decide +kernel
theorem dX3_tellsTo_12 : decode cX3_tellsTo 12 = .ok (.bipush 120, 2) := by decide +kernel
theorem dX3_tellsTo_14 : decode cX3_tellsTo 14 = .ok (.if_icmp .gt 44, 3) := by decide +kernel
theorem dX3_tellsTo_17 : decode cX3_tellsTo 17 = .ok (.aload_n 0, 1) := by decide +kernel
theorem dX3_tellsTo_18 : decode cX3_tellsTo 18 = .ok (.aload_n 1, 1) := by decide +kernel
theorem dX3_tellsTo_19 : decode cX3_tellsTo 19 = .ok (.invokevirtual 25, 3) := by decide +kernel
theorem dX3_tellsTo_22 : decode cX3_tellsTo 22 = .ok (.ifCond .ne 6, 3) := by decide +kernel
theorem dX3_tellsTo_25 : decode cX3_tellsTo 25 = .ok (.goto 33, 3) := by decide +kernel
theorem dX3_tellsTo_28 : decode cX3_tellsTo 28 = .ok (.aload_n 0, 1) := by decide +kernel
theorem dX3_tellsTo_29 : decode cX3_tellsTo 29 = .ok (.getfield 29, 3) := by decide +kernel
theorem dX3_tellsTo_32 : decode cX3_tellsTo 32 = .ok (.ifCond .ne 5, 3) := by decide +kernel
theorem dX3_tellsTo_35 : decode cX3_tellsTo 35 = .ok (.iload_n 2, 1) := by decide +kernel
theorem dX3_tellsTo_36 : decode cX3_tellsTo 36 = .ok (.ireturn, 1) := by decide +kernel
theorem dX3_tellsTo_37 : decode cX3_tellsTo 37 = .ok (.aload_n 0, 1) := by decide +kernel
theorem dX3_tellsTo_38 : decode cX3_tellsTo 38 = .ok (.getfield 29, 3) := by decide +kernel
theorem dX3_tellsTo_41 : decode cX3_tellsTo 41 = .ok (.iconst 3, 1) := by decide +kernel
theorem dX3_tellsTo_42 : decode cX3_tellsTo 42 = .ok (.if_icmp .eq 6, 3) := by decide +kernel
theorem dX3_tellsTo_45 : decode cX3_tellsTo 45 = .ok (.goto 13, 3) := by decide +kernel
theorem dX3_tellsTo_48 : decode cX3_tellsTo 48 = .ok (.aload_n 0, 1) := by decide +kernel
theorem dX3_tellsTo_49 : decode cX3_tellsTo 49 = .ok (.invokevirtual 22, 3) := by decide +kernel
theorem dX3_tellsTo_52 : decode cX3_tellsTo 52 = .ok (.iinc 2 1, 3) := by decide +kernel
theorem dX3_tellsTo_55 : decode cX3_tellsTo 55 = .ok (.goto (-44), 3) := by decide +kernel
theorem dX3_tellsTo_58 : decode cX3_tellsTo 58 = .ok (.iconst (-1), 1) := by decide +kernel
theorem dX3_tellsTo_59 : decode cX3_tellsTo 59 = .ok (.aload_n 0, 1) := by decide +kernel
theorem dX3_tellsTo_60 : decode cX3_tellsTo 60 = .ok (.getfield 32, 3) := by decide +kernel
theorem dX3_tellsTo_63 : decode cX3_tellsTo 63 = .ok (.isub, 1) := by decide +kernel
theorem dX3_tellsTo_64 : decode cX3_tellsTo 64 = .ok (.ireturn, 1) := by decide +kernel
def finX3_tellsTo (N : Ml) : Int32 × Mi → Option Value × Mi × Ml := fun b => (some (Value.int b.1), b.2, N)
noncomputable def fX3_tellsTo_11   : Nat → Mi → Int32 → Option (Int32 × Mi)
  | 0 => fun _ _ => none
  | n + 1 => fun M x2 => (if 120 < x2 then (some (((-1) - (M 5 2)), M)) else (Option.bind (fX3_tellsItem M) (fun a3 => (if a3.1 = 0 then (some (((-1) - ((a3.2) 5 2)), (a3.2))) else (if ((a3.2) 5 1) = 0 then (some (x2, (a3.2))) else (if ((a3.2) 5 1) = 3 then (Option.bind (fX3_nextToken (a3.2)) (fun a7 => ((fX3_tellsTo_11 n) a7 (x2 + 1)))) else (some (((-1) - ((a3.2) 5 2)), (a3.2)))))))))
theorem bX3_tellsTo_11 {Z : Zt} {E : Ec} {N : Ml} (C : Ok 1 Z E cX3_tellsTo 3 RX3 (some .int) 7)    : ∀ (n : Nat) (M : Mi) (x2 : Int32), GT Z E 3 (finX3_tellsTo N) 11 [(0, .ref (zA Z 5 0)), (1, .ref (zA Z 1 0)), (2, .int x2)] [] M N (fX3_tellsTo_11 n M x2) := by
  intro n
  induction n with
  | zero => intro M x2; exact r_none
  | succ n ih =>
    intro M x2
    rw [fX3_tellsTo_11]
    refine r_iload_n C dX3_tellsTo_11 2 2 rfl rfl ?_
    refine r_bipush (v := 120) C dX3_tellsTo_12 (by decide) ?_
    refine r_ic_gt (tgt := 58) C dX3_tellsTo_14 (by decide) (fun c2 => ?_) (fun c2 => ?_)
    · refine r_iconst (v := (-1)) C dX3_tellsTo_58 (by decide) ?_
      refine r_aload_n C dX3_tellsTo_59 0 0 rfl rfl ?_
      refine gf_X3_32 (v := (M 5 2)) C dX3_tellsTo_60 rfl ?_
      refine r_isub C dX3_tellsTo_63 ?_
      exact r_iret C dX3_tellsTo_64 rfl
    · refine r_aload_n C dX3_tellsTo_17 0 0 rfl rfl ?_
      refine r_aload_n C dX3_tellsTo_18 1 1 rfl rfl ?_
      refine r_bind (fun a3 ha3 => ?_)
      refine r_callV (rest := []) (st2 := [.int a3.1]) C (mX3_tellsItem (eL E) C.z M N a3 ha3) lk_X3_25 (rvT C) (by decide) rfl rfl (Nat.le_of_ble_eq_true rfl) dX3_tellsTo_19 rfl ?_
      refine r_if_ne (tgt := 28) C dX3_tellsTo_22 (by decide) (fun c4 => ?_) (fun c4 => ?_)
      · refine r_aload_n C dX3_tellsTo_28 0 0 rfl rfl ?_
        refine gf_X3_29 (v := ((a3.2) 5 1)) C dX3_tellsTo_29 rfl ?_
        refine r_if_ne (tgt := 37) C dX3_tellsTo_32 (by decide) (fun c5 => ?_) (fun c5 => ?_)
        · refine r_aload_n C dX3_tellsTo_37 0 0 rfl rfl ?_
          refine gf_X3_29 (v := ((a3.2) 5 1)) C dX3_tellsTo_38 rfl ?_
          refine r_iconst (v := 3) C dX3_tellsTo_41 (by decide) ?_
          refine r_ic_eq (tgt := 48) C dX3_tellsTo_42 (by decide) (fun c6 => ?_) (fun c6 => ?_)
          · refine r_aload_n C dX3_tellsTo_48 0 0 rfl rfl ?_
            refine r_bind (fun a7 ha7 => ?_)
            refine r_callV (rest := []) (st2 := []) C (mX3_nextToken (eL E) C.z (a3.2) N a7 ha7) lk_X3_22 (rvT C) (by decide) rfl rfl (Nat.le_of_ble_eq_true rfl) dX3_tellsTo_49 rfl ?_
            refine r_iinc (v := (x2 + 1)) (lv' := [(2, .int (x2 + 1)), (0, .ref (zA Z 5 0)), (1, .ref (zA Z 1 0))]) C dX3_tellsTo_52 2 rfl rfl (by decide) rfl ?_
            refine r_goto (tgt := 11) C dX3_tellsTo_55 (by decide) ?_
            refine r_lv [1, 2, 0] (lv' := [(0, .ref (zA Z 5 0)), (1, .ref (zA Z 1 0)), (2, .int (x2 + 1))]) rfl ?_
            exact ih a7 (x2 + 1)
          · refine r_goto (tgt := 58) C dX3_tellsTo_45 (by decide) ?_
            refine r_iconst (v := (-1)) C dX3_tellsTo_58 (by decide) ?_
            refine r_aload_n C dX3_tellsTo_59 0 0 rfl rfl ?_
            refine gf_X3_32 (v := ((a3.2) 5 2)) C dX3_tellsTo_60 rfl ?_
            refine r_isub C dX3_tellsTo_63 ?_
            exact r_iret C dX3_tellsTo_64 rfl
        · refine r_iload_n C dX3_tellsTo_35 2 2 rfl rfl ?_
          exact r_iret C dX3_tellsTo_36 rfl
      · refine r_goto (tgt := 58) C dX3_tellsTo_25 (by decide) ?_
        refine r_iconst (v := (-1)) C dX3_tellsTo_58 (by decide) ?_
        refine r_aload_n C dX3_tellsTo_59 0 0 rfl rfl ?_
        refine gf_X3_32 (v := ((a3.2) 5 2)) C dX3_tellsTo_60 rfl ?_
        refine r_isub C dX3_tellsTo_63 ?_
        exact r_iret C dX3_tellsTo_64 rfl
noncomputable def fX3_tellsTo   (M : Mi) : Option (Int32 × Mi) := (Option.bind (fX3_nextToken (wM M 5 3 0)) (fun a1 => (fX3_tellsTo_11 fu a1 1)))
theorem bX3_tellsTo {Z : Zt} {E : Ec} {N : Ml} (C : Ok 1 Z E cX3_tellsTo 3 RX3 (some .int) 7)    (M : Mi)  : GT Z E 3 (finX3_tellsTo N) 0 [(0, .ref (zA Z 5 0)), (1, .ref (zA Z 1 0))] [] M N (fX3_tellsTo M) := by
  unfold fX3_tellsTo
  refine r_aload_n C dX3_tellsTo_0 0 0 rfl rfl ?_
  refine r_iconst (v := 0) C dX3_tellsTo_1 (by decide) ?_
  refine pf_X3_19 (M' := (wM M 5 3 0)) C dX3_tellsTo_2 rfl ?_
  refine r_aload_n C dX3_tellsTo_5 0 0 rfl rfl ?_
  refine r_bind (fun a1 ha1 => ?_)
  refine r_callV (rest := []) (st2 := []) C (mX3_nextToken (eL E) C.z (wM M 5 3 0) N a1 ha1) lk_X3_22 (rvT C) (by decide) rfl rfl (Nat.le_of_ble_eq_true rfl) dX3_tellsTo_6 rfl ?_
  refine r_iconst (v := 1) C dX3_tellsTo_9 (by decide) ?_
  refine r_istore_n (lv' := [(2, .int 1), (0, .ref (zA Z 5 0)), (1, .ref (zA Z 1 0))]) C dX3_tellsTo_10 2 rfl (by decide) rfl ?_
  refine r_lv [1, 2, 0] (lv' := [(0, .ref (zA Z 5 0)), (1, .ref (zA Z 1 0)), (2, .int 1)]) rfl ?_
  exact bX3_tellsTo_11 C fu a1 1
theorem mX3_tellsTo (l : Launch) {Z : Zt} (hZ : Zok 1 Z) (M : Mi) (N : Ml) (b : Int32 × Mi) (hb : fX3_tellsTo M = some b) : Ct 1 Z l yX3_tellsTo cX3_tellsTo 3 (some .int) 7 [.ref (zA Z 5 0), .ref (zA Z 1 0)] M N (some (Value.int b.1), b.2, N) :=
  metG (fin := (finX3_tellsTo N)) (by decide) (Nat.le_of_ble_eq_true rfl) (fun E _ C => bX3_tellsTo C M) hb
theorem dX4_isCell_0 : decode cX4_isCell 0 = .ok (.iload_n 0, 1) := by decide +kernel
theorem dX4_isCell_1 : decode cX4_isCell 1 = .ok (.bipush 30, 2) := by decide +kernel
theorem dX4_isCell_3 : decode cX4_isCell 3 = .ok (.invokestatic 69, 3) := by decide +kernel
theorem dX4_isCell_6 : decode cX4_isCell 6 = .ok (.ireturn, 1) := by decide +kernel
def finX4_isCell (M : Mi) (N : Ml) : Int32 → Option Value × Mi × Ml := fun b => (some (Value.int b), M, N)
noncomputable def fX4_isCell   (x0 : Int32) : Int32 := (fX4_isBelow x0 30)
theorem bX4_isCell {Z : Zt} {E : Ec} {M : Mi} {N : Ml} (C : Ok 1 Z E cX4_isCell 1 RX4 (some .boolean) 1)    (x0 : Int32)  : GT Z E 1 (finX4_isCell M N) 0 [(0, .int x0)] [] M N (some (fX4_isCell x0)) := by
  unfold fX4_isCell
  refine r_iload_n C dX4_isCell_0 0 0 rfl rfl ?_
  refine r_bipush (v := 30) C dX4_isCell_1 (by decide) ?_
  refine r_callS (rest := []) (st2 := [.int (fX4_isBelow x0 30)]) C (mX4_isBelow (eL E) C.z _ _ x0 30) lk_X4_69 (by decide) rfl rfl (Nat.le_of_ble_eq_true rfl) dX4_isCell_3 rfl ?_
  exact r_zret C dX4_isCell_6 (zbX4_isBelow  x0 30) rfl
theorem zbX4_isCell (x0 : Int32) : fX4_isCell x0 = 0 ∨ fX4_isCell x0 = 1 := by
  unfold fX4_isCell; (repeat' split) <;> first | exact Or.inl rfl | exact Or.inr rfl | exact zbX4_isBelow _ _
theorem mX4_isCell (l : Launch) {Z : Zt} (hZ : Zok 1 Z) (M : Mi) (N : Ml) (x0 : Int32) : Ct 1 Z l yX4_isCell cX4_isCell 1 (some .boolean) 1 [.int x0] M N (some (Value.int (fX4_isCell x0)), M, N) :=
  metG (fin := (finX4_isCell M N)) (by decide) (Nat.le_of_ble_eq_true rfl) (fun E _ C => bX4_isCell C x0) rfl
theorem dX4_isFlag_0 : decode cX4_isFlag 0 = .ok (.iload_n 0, 1) := by decide +kernel
theorem dX4_isFlag_1 : decode cX4_isFlag 1 = .ok (.ifCond .eq 8, 3) := by decide +kernel
theorem dX4_isFlag_4 : decode cX4_isFlag 4 = .ok (.iload_n 0, 1) := by decide +kernel
theorem dX4_isFlag_5 : decode cX4_isFlag 5 = .ok (.iconst 1, 1) := by decide +kernel
theorem dX4_isFlag_6 : decode cX4_isFlag 6 = .ok (.if_icmp .ne 7, 3) := by decide +kernel
theorem dX4_isFlag_9 : decode cX4_isFlag 9 = .ok (.iconst 1, 1) := by decide +kernel
theorem dX4_isFlag_10 : decode cX4_isFlag 10 = .ok (.goto 4, 3) := by decide +kernel
theorem dX4_isFlag_13 : decode cX4_isFlag 13 = .ok (.iconst 0, 1) := by decide +kernel
theorem dX4_isFlag_14 : decode cX4_isFlag 14 = .ok (.ireturn, 1) := by decide +kernel
def finX4_isFlag (M : Mi) (N : Ml) : Int32 → Option Value × Mi × Ml := fun b => (some (Value.int b), M, N)
noncomputable def fX4_isFlag   (x0 : Int32) : Int32 := (if x0 = 0 then 1 else (if x0 = 1 then 1 else 0))
theorem bX4_isFlag {Z : Zt} {E : Ec} {M : Mi} {N : Ml} (C : Ok 1 Z E cX4_isFlag 1 RX4 (some .boolean) 0)    (x0 : Int32)  : GT Z E 1 (finX4_isFlag M N) 0 [(0, .int x0)] [] M N (some (fX4_isFlag x0)) := by
  unfold fX4_isFlag
  refine r_iload_n C dX4_isFlag_0 0 0 rfl rfl ?_
  refine r_st ?_
  refine r_if_eq (tgt := 9) C dX4_isFlag_1 (by decide) (fun c1 => ?_) (fun c1 => ?_)
  · refine r_iconst (v := 1) C dX4_isFlag_9 (by decide) ?_
    refine r_goto (tgt := 14) C dX4_isFlag_10 (by decide) ?_
    exact r_zret C dX4_isFlag_14 (Or.inr rfl) rfl
  · refine r_iload_n C dX4_isFlag_4 0 0 rfl rfl ?_
    refine r_iconst (v := 1) C dX4_isFlag_5 (by decide) ?_
    refine r_st ?_
    refine r_ic_ne (tgt := 13) C dX4_isFlag_6 (by decide) (fun c2 => ?_) (fun c2 => ?_)
    · refine r_iconst (v := 0) C dX4_isFlag_13 (by decide) ?_
      exact r_zret C dX4_isFlag_14 (Or.inl rfl) rfl
    · refine r_iconst (v := 1) C dX4_isFlag_9 (by decide) ?_
      refine r_goto (tgt := 14) C dX4_isFlag_10 (by decide) ?_
      exact r_zret C dX4_isFlag_14 (Or.inr rfl) rfl
theorem zbX4_isFlag (x0 : Int32) : fX4_isFlag x0 = 0 ∨ fX4_isFlag x0 = 1 := by
  unfold fX4_isFlag; (repeat' split) <;> first | exact Or.inl rfl | exact Or.inr rfl
theorem mX4_isFlag (l : Launch) {Z : Zt} (hZ : Zok 1 Z) (M : Mi) (N : Ml) (x0 : Int32) : Ct 1 Z l yX4_isFlag cX4_isFlag 1 (some .boolean) 0 [.int x0] M N (some (Value.int (fX4_isFlag x0)), M, N) :=
  metG (fin := (finX4_isFlag M N)) (by decide) (Nat.le_of_ble_eq_true rfl) (fun E _ C => bX4_isFlag C x0) rfl
theorem dX4_finding_0 : decode cX4_finding 0 = .ok (.aload_n 0, 1) := by decide +kernel
theorem dX4_finding_1 : decode cX4_finding 1 = .ok (.getfield 43, 3) := by decide +kernel
theorem dX4_finding_4 : decode cX4_finding 4 = .ok (.iload_n 1, 1) := by decide +kernel
theorem dX4_finding_5 : decode cX4_finding 5 = .ok (.dup2, 1) := by decide +kernel
theorem dX4_finding_6 : decode cX4_finding 6 = .ok (.iaload, 1) := by decide +kernel
theorem dX4_finding_7 : decode cX4_finding 7 = .ok (.iconst 1, 1) := by decide +kernel
theorem dX4_finding_8 : decode cX4_finding 8 = .ok (.iadd, 1) := by decide +kernel
theorem dX4_finding_9 : decode cX4_finding 9 = .ok (.iastore, 1) := by decide +kernel
theorem dX4_finding_10 : decode cX4_finding 10 = .ok (.ldc_w 278, 3) := by decide +kernel
theorem dX4_finding_13 : decode cX4_finding 13 = .ok (.iload_n 1, 1) := by decide +kernel
theorem dX4_finding_14 : decode cX4_finding 14 = .ok (.isub, 1) := by decide +kernel
theorem dX4_finding_15 : decode cX4_finding 15 = .ok (.ireturn, 1) := by decide +kernel
def finX4_finding (N : Ml) : Int32 × Mi → Option Value × Mi × Ml := fun b => (some (Value.int b.1), b.2, N)
noncomputable def fX4_finding   (M : Mi) (x1 : Int32) : Option (Int32 × Mi) := (if inb x1 7 then (some (((-1000000001) - x1), (wM M 7 (ix x1) ((M 7 (ix x1)) + 1)))) else none)
theorem bX4_finding {Z : Zt} {E : Ec} {N : Ml} (C : Ok 1 Z E cX4_finding 2 RX4 (some .int) 0)    (M : Mi) (x1 : Int32)  : GT Z E 2 (finX4_finding N) 0 [(0, .ref (zA Z 8 0)), (1, .int x1)] [] M N (fX4_finding M x1) := by
  unfold fX4_finding
  refine r_aload_n C dX4_finding_0 0 0 rfl rfl ?_
  refine gf_X4_43 C dX4_finding_1 ?_
  refine r_iload_n C dX4_finding_4 1 1 rfl rfl ?_
  refine r_dup2 C dX4_finding_5 rfl rfl ?_
  refine r_guard (fun h1 => ?_)
  refine ald_F (v := (M 7 (ix x1))) C h1 rfl dX4_finding_6 ?_
  refine r_iconst (v := 1) C dX4_finding_7 (by decide) ?_
  refine r_iadd C dX4_finding_8 ?_
  refine ast_F (M' := (wM M 7 (ix x1) ((M 7 (ix x1)) + 1))) C h1 rfl dX4_finding_9 ?_
  refine r_ldcw (v := (-1000000001)) C dX4_finding_10 wd_266 ?_
  refine r_iload_n C dX4_finding_13 1 1 rfl rfl ?_
  refine r_isub C dX4_finding_14 ?_
  exact r_iret C dX4_finding_15 rfl
theorem mX4_finding (l : Launch) {Z : Zt} (hZ : Zok 1 Z) (M : Mi) (N : Ml) (x1 : Int32) (b : Int32 × Mi) (hb : fX4_finding M x1 = some b) : Ct 1 Z l yX4_finding cX4_finding 2 (some .int) 0 [.ref (zA Z 8 0), .int x1] M N (some (Value.int b.1), b.2, N) :=
  metG (fin := (finX4_finding N)) (by decide) (Nat.le_of_ble_eq_true rfl) (fun E _ C => bX4_finding C M x1) hb
theorem dX4_fence_0 : decode cX4_fence 0 = .ok (.iload_n 1, 1) := by decide +kernel
theorem dX4_fence_1 : decode cX4_fence 1 = .ok (.invokestatic 51, 3) := by decide +kernel
theorem dX4_fence_4 : decode cX4_fence 4 = .ok (.ifCond .eq 10, 3) := by decide +kernel
theorem dX4_fence_7 : decode cX4_fence 7 = .ok (.iload_n 2, 1) := by decide +kernel
theorem dX4_fence_8 : decode cX4_fence 8 = .ok (.invokestatic 55, 3) := by decide +kernel
theorem dX4_fence_11 : decode cX4_fence 11 = .ok (.ifCond .ne 9, 3) := by decide +kernel
theorem dX4_fence_14 : decode cX4_fence 14 = .ok (.aload_n 0, 1) := by decide +kernel
theorem dX4_fence_15 : decode cX4_fence 15 = .ok (.iconst 0, 1) := by decide +kernel
theorem dX4_fence_16 : decode cX4_fence 16 = .ok (.invokevirtual 58, 3) := by decide +kernel
theorem dX4_fence_19 : decode cX4_fence 19 = .ok (.ireturn, 1) := by decide +kernel
theorem dX4_fence_20 : decode cX4_fence 20 = .ok (.aload_n 0, 1) := by decide +kernel
theorem dX4_fence_21 : decode cX4_fence 21 = .ok (.getfield 12, 3) := by decide +kernel
theorem dX4_fence_24 : decode cX4_fence 24 = .ok (.iload_n 1, 1) := by decide +kernel
theorem dX4_fence_25 : decode cX4_fence 25 = .ok (.invokevirtual 62, 3) := by decide +kernel
theorem dX4_fence_28 : decode cX4_fence 28 = .ok (.ifCond .eq 7, 3) := by decide +kernel
theorem dX4_fence_31 : decode cX4_fence 31 = .ok (.iconst 1, 1) := by decide +kernel
theorem dX4_fence_32 : decode cX4_fence 32 = .ok (.goto 4, 3) := by decide +kernel
theorem dX4_fence_35 : decode cX4_fence 35 = .ok (.iconst 0, 1) := by decide +kernel
theorem dX4_fence_36 : decode cX4_fence 36 = .ok (.istore_n 3, 1) := by decide +kernel
theorem dX4_fence_37 : decode cX4_fence 37 = .ok (.aload_n 0, 1) := by decide +kernel
theorem dX4_fence_38 : decode cX4_fence 38 = .ok (.getfield 12, 3) := by decide +kernel
theorem dX4_fence_41 : decode cX4_fence 41 = .ok (.iload_n 1, 1) := by decide +kernel
theorem dX4_fence_42 : decode cX4_fence 42 = .ok (.iload_n 2, 1) := by decide +kernel
theorem dX4_fence_43 : decode cX4_fence 43 = .ok (.iconst 1, 1) := by decide +kernel
theorem dX4_fence_44 : decode cX4_fence 44 = .ok (.if_icmp .ne 7, 3) := by decide +kernel
theorem dX4_fence_47 : decode cX4_fence 47 = .ok (.iconst 1, 1) := by decide +kernel
theorem dX4_fence_48 : decode cX4_fence 48 = .ok (.goto 4, 3) := by decide +kernel
theorem dX4_fence_51 : decode cX4_fence 51 = .ok (.iconst 0, 1) := by decide +kernel
theorem dX4_fence_52 : decode cX4_fence 52 = .ok (.invokevirtual 65, 3) := by decide +kernel
theorem dX4_fence_55 : decode cX4_fence 55 = .ok (.iload_n 3, 1) := by decide +kernel
theorem dX4_fence_56 : decode cX4_fence 56 = .ok (.ireturn, 1) := by decide +kernel
def finX4_fence (N : Ml) : Int32 × Mi → Option Value × Mi × Ml := fun b => (some (Value.int b.1), b.2, N)
noncomputable def fX4_fence_14   (M : Mi) : Option (Int32 × Mi) := (Option.bind (fX4_finding M 0) (fun a2 => (some (a2.1, (a2.2)))))
theorem bX4_fence_14 {Z : Zt} {E : Ec} {N : Ml} (C : Ok 1 Z E cX4_fence 4 RX4 (some .int) 2)    (M : Mi)  : GT Z E 4 (finX4_fence N) 14 [(0, .ref (zA Z 8 0))] [] M N (fX4_fence_14 M) := by
  unfold fX4_fence_14
  refine r_aload_n C dX4_fence_14 0 0 rfl rfl ?_
  refine r_iconst (v := 0) C dX4_fence_15 (by decide) ?_
  refine r_bind (fun a2 ha2 => ?_)
  refine r_callV (rest := []) (st2 := [.int a2.1]) C (mX4_finding (eL E) C.z M N 0 a2 ha2) lk_X4_58 (rvX C) (by decide) rfl rfl (Nat.le_of_ble_eq_true rfl) dX4_fence_16 rfl ?_
  exact r_iret C dX4_fence_19 rfl
noncomputable def fX4_fence_52   (M : Mi) (x3 : Int32) (s0 : Int32) (s1 : Int32) : Option (Int32 × Mi) := (Option.bind (fX0_fences (M 0) s1 s0) (fun a8 => (some (x3, (sR M 0 a8)))))
theorem bX4_fence_52 {Z : Zt} {E : Ec} {N : Ml} (C : Ok 1 Z E cX4_fence 4 RX4 (some .int) 2)    (M : Mi) (x3 : Int32) (s0 : Int32) (s1 : Int32)  : GT Z E 4 (finX4_fence N) 52 [(3, .int x3)] [.int s0, .int s1, .ref (zA Z 0 0)] M N (fX4_fence_52 M x3 s0 s1) := by
  unfold fX4_fence_52
  refine r_bind (fun a8 ha8 => ?_)
  refine r_callV (rest := []) (st2 := []) C (mX0_fences (eL E) C.z (by decide) M _ (M 0) s1 s0 a8 ha8).selfW lk_X4_65 (rvI C (by decide)) (by decide) rfl rfl (Nat.le_of_ble_eq_true rfl) dX4_fence_52 rfl ?_
  refine r_iload_n C dX4_fence_55 3 0 rfl rfl ?_
  exact r_iret C dX4_fence_56 rfl
noncomputable def fX4_fence_36   (M : Mi) (x1 : Int32) (x2 : Int32) (s0 : Int32) : Option (Int32 × Mi) := (fX4_fence_52 M s0 (if x2 = 1 then 1 else 0 : Int32) x1)
theorem bX4_fence_36 {Z : Zt} {E : Ec} {N : Ml} (C : Ok 1 Z E cX4_fence 4 RX4 (some .int) 2)    (M : Mi) (x1 : Int32) (x2 : Int32) (s0 : Int32)  : GT Z E 4 (finX4_fence N) 36 [(0, .ref (zA Z 8 0)), (1, .int x1), (2, .int x2)] [.int s0] M N (fX4_fence_36 M x1 x2 s0) := by
  unfold fX4_fence_36
  refine r_istore_n (lv' := [(3, .int s0), (0, .ref (zA Z 8 0)), (1, .int x1), (2, .int x2)]) C dX4_fence_36 3 rfl (by decide) rfl ?_
  refine r_aload_n C dX4_fence_37 0 1 rfl rfl ?_
  refine gf_X4_12 C dX4_fence_38 ?_
  refine r_iload_n C dX4_fence_41 1 2 rfl rfl ?_
  refine r_iload_n C dX4_fence_42 2 3 rfl rfl ?_
  refine r_iconst (v := 1) C dX4_fence_43 (by decide) ?_
  refine r_sel (tj := 52) (sj := [.int (if x2 = 1 then 1 else 0 : Int32), .int x1, .ref (zA Z 0 0)]) ?_ (fun k7 => ?_)
  · refine r_lv [0] (lv' := [(3, .int s0)]) rfl ?_
    exact bX4_fence_52 C M s0 (if x2 = 1 then 1 else 0 : Int32) x1
  · refine r_same (P := x2 = 1) ?_
    refine r_ic_ne (tgt := 51) C dX4_fence_44 (by decide) (fun c6 => ?_) (fun c6 => ?_)
    · refine r_iconst (v := 0) C dX4_fence_51 (by decide) ?_
      exact r_stk (if_neg c6) k7
    · refine r_iconst (v := 1) C dX4_fence_47 (by decide) ?_
      refine r_goto (tgt := 52) C dX4_fence_48 (by decide) ?_
      exact r_stk (if_pos c6) k7
noncomputable def fX4_fence   (M : Mi) (x1 : Int32) (x2 : Int32) : Option (Int32 × Mi) := (if (fX4_isCell x1) = 0 then (fX4_fence_14 M) else (if (fX4_isFlag x2) = 0 then (fX4_fence_14 M) else (fX4_fence_36 M x1 x2 (if (fX0_isFenced (M 0) x1) = 0 then 0 else 1 : Int32))))
theorem bX4_fence {Z : Zt} {E : Ec} {N : Ml} (C : Ok 1 Z E cX4_fence 4 RX4 (some .int) 2)    (M : Mi) (x1 : Int32) (x2 : Int32)  : GT Z E 4 (finX4_fence N) 0 [(0, .ref (zA Z 8 0)), (1, .int x1), (2, .int x2)] [] M N (fX4_fence M x1 x2) := by
  unfold fX4_fence
  refine r_iload_n C dX4_fence_0 1 1 rfl rfl ?_
  refine r_callS (rest := []) (st2 := [.int (fX4_isCell x1)]) C (mX4_isCell (eL E) C.z _ _ x1) lk_X4_51 (by decide) rfl rfl (Nat.le_of_ble_eq_true rfl) dX4_fence_1 rfl ?_
  refine r_if_eq (tgt := 14) C dX4_fence_4 (by decide) (fun c1 => ?_) (fun c1 => ?_)
  · refine r_lv [0] (lv' := [(0, .ref (zA Z 8 0))]) rfl ?_
    exact bX4_fence_14 C M
  · refine r_iload_n C dX4_fence_7 2 2 rfl rfl ?_
    refine r_callS (rest := []) (st2 := [.int (fX4_isFlag x2)]) C (mX4_isFlag (eL E) C.z _ _ x2) lk_X4_55 (by decide) rfl rfl (Nat.le_of_ble_eq_true rfl) dX4_fence_8 rfl ?_
    refine r_if_ne (tgt := 20) C dX4_fence_11 (by decide) (fun c3 => ?_) (fun c3 => ?_)
    · refine r_aload_n C dX4_fence_20 0 0 rfl rfl ?_
      refine gf_X4_12 C dX4_fence_21 ?_
      refine r_iload_n C dX4_fence_24 1 1 rfl rfl ?_
      refine r_callV (rest := []) (st2 := [.int (fX0_isFenced (M 0) x1)]) C (mX0_isFenced (eL E) C.z (by decide) M _ (M 0) x1).selfR lk_X4_62 (rvI C (by decide)) (by decide) rfl rfl (Nat.le_of_ble_eq_true rfl) dX4_fence_25 rfl ?_
      refine r_sel (tj := 36) (sj := [.int (if (fX0_isFenced (M 0) x1) = 0 then 0 else 1 : Int32)]) ?_ (fun k5 => ?_)
      · exact bX4_fence_36 C M x1 x2 (if (fX0_isFenced (M 0) x1) = 0 then 0 else 1 : Int32)
      · refine r_same (P := (fX0_isFenced (M 0) x1) = 0) ?_
        refine r_if_eq (tgt := 35) C dX4_fence_28 (by decide) (fun c4 => ?_) (fun c4 => ?_)
        · refine r_iconst (v := 0) C dX4_fence_35 (by decide) ?_
          exact r_stk (if_pos c4) k5
        · refine r_iconst (v := 1) C dX4_fence_31 (by decide) ?_
          refine r_goto (tgt := 36) C dX4_fence_32 (by decide) ?_
          exact r_stk (if_neg c4) k5
    · refine r_lv [0] (lv' := [(0, .ref (zA Z 8 0))]) rfl ?_
      exact bX4_fence_14 C M
theorem mX4_fence (l : Launch) {Z : Zt} (hZ : Zok 1 Z) (M : Mi) (N : Ml) (x1 : Int32) (x2 : Int32) (b : Int32 × Mi) (hb : fX4_fence M x1 x2 = some b) : Ct 1 Z l yX4_fence cX4_fence 4 (some .int) 2 [.ref (zA Z 8 0), .int x1, .int x2] M N (some (Value.int b.1), b.2, N) :=
  metG (fin := (finX4_fence N)) (by decide) (Nat.le_of_ble_eq_true rfl) (fun E _ C => bX4_fence C M x1 x2) hb
theorem dX4_spot_0 : decode cX4_spot 0 = .ok (.iload_n 1, 1) := by decide +kernel
theorem dX4_spot_1 : decode cX4_spot 1 = .ok (.iconst 3, 1) := by decide +kernel
theorem dX4_spot_2 : decode cX4_spot 2 = .ok (.invokestatic 69, 3) := by decide +kernel
theorem dX4_spot_5 : decode cX4_spot 5 = .ok (.ifCond .eq 10, 3) := by decide +kernel
theorem dX4_spot_8 : decode cX4_spot 8 = .ok (.iload_n 2, 1) := by decide +kernel
theorem dX4_spot_9 : decode cX4_spot 9 = .ok (.invokestatic 51, 3) := by decide +kernel
theorem dX4_spot_12 : decode cX4_spot 12 = .ok (.ifCond .ne 9, 3) := by decide +kernel
theorem dX4_spot_15 : decode cX4_spot 15 = .ok (.aload_n 0, 1) := by decide +kernel
theorem dX4_spot_16 : decode cX4_spot 16 = .ok (.iconst 0, 1) := by decide +kernel
theorem dX4_spot_17 : decode cX4_spot 17 = .ok (.invokevirtual 58, 3) := by decide +kernel
theorem dX4_spot_20 : decode cX4_spot 20 = .ok (.ireturn, 1) := by decide +kernel
theorem dX4_spot_21 : decode cX4_spot 21 = .ok (.aload_n 0, 1) := by decide +kernel
theorem dX4_spot_22 : decode cX4_spot 22 = .ok (.getfield 12, 3) := by decide +kernel
theorem dX4_spot_25 : decode cX4_spot 25 = .ok (.getfield 73, 3) := by decide +kernel
theorem dX4_spot_28 : decode cX4_spot 28 = .ok (.iload_n 1, 1) := by decide +kernel
theorem dX4_spot_29 : decode cX4_spot 29 = .ok (.iaload, 1) := by decide +kernel
theorem dX4_spot_30 : decode cX4_spot 30 = .ok (.istore_n 3, 1) := by decide +kernel
theorem dX4_spot_31 : decode cX4_spot 31 = .ok (.aload_n 0, 1) := by decide +kernel
theorem dX4_spot_32 : decode cX4_spot 32 = .ok (.getfield 12, 3) := by decide +kernel
theorem dX4_spot_35 : decode cX4_spot 35 = .ok (.getfield 73, 3) := by decide +kernel
theorem dX4_spot_38 : decode cX4_spot 38 = .ok (.iload_n 1, 1) := by decide +kernel
theorem dX4_spot_39 : decode cX4_spot 39 = .ok (.iload_n 2, 1) := by decide +kernel
theorem dX4_spot_40 : decode cX4_spot 40 = .ok (.iastore, 1) := by decide +kernel
theorem dX4_spot_41 : decode cX4_spot 41 = .ok (.iload_n 3, 1) := by decide +kernel
theorem dX4_spot_42 : decode cX4_spot 42 = .ok (.ireturn, 1) := by decide +kernel
def finX4_spot (N : Ml) : Int32 × Mi → Option Value × Mi × Ml := fun b => (some (Value.int b.1), b.2, N)
noncomputable def fX4_spot_15   (M : Mi) : Option (Int32 × Mi) := (Option.bind (fX4_finding M 0) (fun a2 => (some (a2.1, (a2.2)))))
theorem bX4_spot_15 {Z : Zt} {E : Ec} {N : Ml} (C : Ok 1 Z E cX4_spot 4 RX4 (some .int) 2)    (M : Mi)  : GT Z E 4 (finX4_spot N) 15 [(0, .ref (zA Z 8 0))] [] M N (fX4_spot_15 M) := by
  unfold fX4_spot_15
  refine r_aload_n C dX4_spot_15 0 0 rfl rfl ?_
  refine r_iconst (v := 0) C dX4_spot_16 (by decide) ?_
  refine r_bind (fun a2 ha2 => ?_)
  refine r_callV (rest := []) (st2 := [.int a2.1]) C (mX4_finding (eL E) C.z M N 0 a2 ha2) lk_X4_58 (rvX C) (by decide) rfl rfl (Nat.le_of_ble_eq_true rfl) dX4_spot_17 rfl ?_
  exact r_iret C dX4_spot_20 rfl
noncomputable def fX4_spot   (M : Mi) (x1 : Int32) (x2 : Int32) : Option (Int32 × Mi) := (if (fX4_isBelow x1 3) = 0 then (fX4_spot_15 M) else (if (fX4_isCell x2) = 0 then (fX4_spot_15 M) else (if inb x1 3 then (some ((M 0 (3 + ix x1)), (wM M 0 (3 + ix x1) x2))) else none)))
theorem bX4_spot {Z : Zt} {E : Ec} {N : Ml} (C : Ok 1 Z E cX4_spot 4 RX4 (some .int) 2)    (M : Mi) (x1 : Int32) (x2 : Int32)  : GT Z E 4 (finX4_spot N) 0 [(0, .ref (zA Z 8 0)), (1, .int x1), (2, .int x2)] [] M N (fX4_spot M x1 x2) := by
  unfold fX4_spot
  refine r_iload_n C dX4_spot_0 1 1 rfl rfl ?_
  refine r_iconst (v := 3) C dX4_spot_1 (by decide) ?_
  refine r_callS (rest := []) (st2 := [.int (fX4_isBelow x1 3)]) C (mX4_isBelow (eL E) C.z _ _ x1 3) lk_X4_69 (by decide) rfl rfl (Nat.le_of_ble_eq_true rfl) dX4_spot_2 rfl ?_
  refine r_if_eq (tgt := 15) C dX4_spot_5 (by decide) (fun c1 => ?_) (fun c1 => ?_)
  · refine r_lv [0] (lv' := [(0, .ref (zA Z 8 0))]) rfl ?_
    exact bX4_spot_15 C M
  · refine r_iload_n C dX4_spot_8 2 2 rfl rfl ?_
    refine r_callS (rest := []) (st2 := [.int (fX4_isCell x2)]) C (mX4_isCell (eL E) C.z _ _ x2) lk_X4_51 (by decide) rfl rfl (Nat.le_of_ble_eq_true rfl) dX4_spot_9 rfl ?_
    refine r_if_ne (tgt := 21) C dX4_spot_12 (by decide) (fun c3 => ?_) (fun c3 => ?_)
    · refine r_aload_n C dX4_spot_21 0 0 rfl rfl ?_
      refine gf_X4_12 C dX4_spot_22 ?_
      refine gf_X4_73 C (by decide) dX4_spot_25 ?_
      refine r_iload_n C dX4_spot_28 1 1 rfl rfl ?_
      refine r_guard (fun h4 => ?_)
      refine ald_I1 (v := (M 0 (3 + ix x1))) C (by decide) h4 rfl dX4_spot_29 ?_
      refine r_istore_n (lv' := [(3, .int (M 0 (3 + ix x1))), (0, .ref (zA Z 8 0)), (1, .int x1), (2, .int x2)]) C dX4_spot_30 3 rfl (by decide) rfl ?_
      refine r_aload_n C dX4_spot_31 0 1 rfl rfl ?_
      refine gf_X4_12 C dX4_spot_32 ?_
      refine gf_X4_73 C (by decide) dX4_spot_35 ?_
      refine r_iload_n C dX4_spot_38 1 2 rfl rfl ?_
      refine r_iload_n C dX4_spot_39 2 3 rfl rfl ?_
      refine ast_I1 (M' := (wM M 0 (3 + ix x1) x2)) C (by decide) h4 rfl dX4_spot_40 ?_
      refine r_iload_n C dX4_spot_41 3 0 rfl rfl ?_
      exact r_iret C dX4_spot_42 rfl
    · refine r_lv [0] (lv' := [(0, .ref (zA Z 8 0))]) rfl ?_
      exact bX4_spot_15 C M
theorem mX4_spot (l : Launch) {Z : Zt} (hZ : Zok 1 Z) (M : Mi) (N : Ml) (x1 : Int32) (x2 : Int32) (b : Int32 × Mi) (hb : fX4_spot M x1 x2 = some b) : Ct 1 Z l yX4_spot cX4_spot 4 (some .int) 2 [.ref (zA Z 8 0), .int x1, .int x2] M N (some (Value.int b.1), b.2, N) :=
  metG (fin := (finX4_spot N)) (by decide) (Nat.le_of_ble_eq_true rfl) (fun E _ C => bX4_spot C M x1 x2) hb
theorem dX4_isSetOf_0 : decode cX4_isSetOf 0 = .ok (.iload_n 0, 1) := by decide +kernel
theorem dX4_isSetOf_1 : decode cX4_isSetOf 1 = .ok (.iload_n 1, 1) := by decide +kernel
theorem dX4_isSetOf_2 : decode cX4_isSetOf 2 = .ok (.iconst (-1), 1) := by decide +kernel
theorem dX4_isSetOf_3 : decode cX4_isSetOf 3 = .ok (.ixor, 1) := by decide +kernel
theorem dX4_isSetOf_4 : decode cX4_isSetOf 4 = .ok (.iand, 1) := by decide +kernel
theorem dX4_isSetOf_5 : decode cX4_isSetOf 5 = .ok (.ifCond .ne 7, 3) := by decide +kernel
theorem dX4_isSetOf_8 : decode cX4_isSetOf 8 = .ok (.iconst 1, 1) := by decide +kernel
theorem dX4_isSetOf_9 : decode cX4_isSetOf 9 = .ok (.goto 4, 3) := by decide +kernel
theorem dX4_isSetOf_12 : decode cX4_isSetOf 12 = .ok (.iconst 0, 1) := by decide +kernel
theorem dX4_isSetOf_13 : decode cX4_isSetOf 13 = .ok (.ireturn, 1) := by decide +kernel
def finX4_isSetOf (M : Mi) (N : Ml) : Int32 → Option Value × Mi × Ml := fun b => (some (Value.int b), M, N)
noncomputable def fX4_isSetOf   (x0 : Int32) (x1 : Int32) : Int32 := (if (x0 &&& (x1 ^^^ (-1))) = 0 then 1 else 0)
theorem bX4_isSetOf {Z : Zt} {E : Ec} {M : Mi} {N : Ml} (C : Ok 1 Z E cX4_isSetOf 2 RX4 (some .boolean) 0)    (x0 : Int32) (x1 : Int32)  : GT Z E 2 (finX4_isSetOf M N) 0 [(0, .int x0), (1, .int x1)] [] M N (some (fX4_isSetOf x0 x1)) := by
  unfold fX4_isSetOf
  refine r_iload_n C dX4_isSetOf_0 0 0 rfl rfl ?_
  refine r_iload_n C dX4_isSetOf_1 1 1 rfl rfl ?_
  refine r_iconst (v := (-1)) C dX4_isSetOf_2 (by decide) ?_
  refine r_ixor C dX4_isSetOf_3 ?_
  refine r_iand C dX4_isSetOf_4 ?_
  refine r_st ?_
  refine r_if_ne (tgt := 12) C dX4_isSetOf_5 (by decide) (fun c1 => ?_) (fun c1 => ?_)
  · refine r_iconst (v := 0) C dX4_isSetOf_12 (by decide) ?_
    exact r_zret C dX4_isSetOf_13 (Or.inl rfl) rfl
  · refine r_iconst (v := 1) C dX4_isSetOf_8 (by decide) ?_
    refine r_goto (tgt := 13) C dX4_isSetOf_9 (by decide) ?_
    exact r_zret C dX4_isSetOf_13 (Or.inr rfl) rfl
theorem zbX4_isSetOf (x0 : Int32) (x1 : Int32) : fX4_isSetOf x0 x1 = 0 ∨ fX4_isSetOf x0 x1 = 1 := by
  unfold fX4_isSetOf; (repeat' split) <;> first | exact Or.inl rfl | exact Or.inr rfl
theorem mX4_isSetOf (l : Launch) {Z : Zt} (hZ : Zok 1 Z) (M : Mi) (N : Ml) (x0 : Int32) (x1 : Int32) : Ct 1 Z l yX4_isSetOf cX4_isSetOf 2 (some .boolean) 0 [.int x0, .int x1] M N (some (Value.int (fX4_isSetOf x0 x1)), M, N) :=
  metG (fin := (finX4_isSetOf M N)) (by decide) (Nat.le_of_ble_eq_true rfl) (fun E _ C => bX4_isSetOf C x0 x1) rfl
theorem dX4_rain_0 : decode cX4_rain 0 = .ok (.iload_n 1, 1) := by decide +kernel
theorem dX4_rain_1 : decode cX4_rain 1 = .ok (.ldc 76, 2) := by decide +kernel
theorem dX4_rain_3 : decode cX4_rain 3 = .ok (.invokestatic 77, 3) := by decide +kernel
theorem dX4_rain_6 : decode cX4_rain 6 = .ok (.ifCond .ne 9, 3) := by decide +kernel
theorem dX4_rain_9 : decode cX4_rain 9 = .ok (.aload_n 0, 1) := by decide +kernel
theorem dX4_rain_10 : decode cX4_rain 10 = .ok (.iconst 0, 1) := by decide +kernel
theorem dX4_rain_11 : decode cX4_rain 11 = .ok (.invokevirtual 58, 3) := by decide +kernel
theorem dX4_rain_14 : decode cX4_rain 14 = .ok (.ireturn, 1) := by decide +kernel
theorem dX4_rain_15 : decode cX4_rain 15 = .ok (.aload_n 0, 1) := by decide +kernel
theorem dX4_rain_16 : decode cX4_rain 16 = .ok (.getfield 12, 3) := by decide +kernel
theorem dX4_rain_19 : decode cX4_rain 19 = .ok (.getfield 80, 3) := by decide +kernel
theorem dX4_rain_22 : decode cX4_rain 22 = .ok (.istore_n 2, 1) := by decide +kernel
theorem dX4_rain_23 : decode cX4_rain 23 = .ok (.aload_n 0, 1) := by decide +kernel
theorem dX4_rain_24 : decode cX4_rain 24 = .ok (.getfield 12, 3) := by decide +kernel
theorem dX4_rain_27 : decode cX4_rain 27 = .ok (.iload_n 1, 1) := by decide +kernel
theorem dX4_rain_28 : decode cX4_rain 28 = .ok (.putfield 80, 3) := by decide +kernel
theorem dX4_rain_31 : decode cX4_rain 31 = .ok (.iload_n 2, 1) := by decide +kernel
theorem dX4_rain_32 : decode cX4_rain 32 = .ok (.ireturn, 1) := by decide +kernel
def finX4_rain (N : Ml) : Int32 × Mi → Option Value × Mi × Ml := fun b => (some (Value.int b.1), b.2, N)
noncomputable def fX4_rain   (M : Mi) (x1 : Int32) : Option (Int32 × Mi) := (if (fX4_isSetOf x1 16777215) = 0 then (Option.bind (fX4_finding M 0) (fun a2 => (some (a2.1, (a2.2))))) else (some ((M 0 6), (wM M 0 6 x1))))
theorem bX4_rain {Z : Zt} {E : Ec} {N : Ml} (C : Ok 1 Z E cX4_rain 3 RX4 (some .int) 1)    (M : Mi) (x1 : Int32)  : GT Z E 3 (finX4_rain N) 0 [(0, .ref (zA Z 8 0)), (1, .int x1)] [] M N (fX4_rain M x1) := by
  unfold fX4_rain
  refine r_iload_n C dX4_rain_0 1 1 rfl rfl ?_
  refine r_ldc (v := 16777215) C dX4_rain_1 wd_283 ?_
  refine r_callS (rest := []) (st2 := [.int (fX4_isSetOf x1 16777215)]) C (mX4_isSetOf (eL E) C.z _ _ x1 16777215) lk_X4_77 (by decide) rfl rfl (Nat.le_of_ble_eq_true rfl) dX4_rain_3 rfl ?_
  refine r_if_ne (tgt := 15) C dX4_rain_6 (by decide) (fun c1 => ?_) (fun c1 => ?_)
  · refine r_aload_n C dX4_rain_15 0 0 rfl rfl ?_
    refine gf_X4_12 C dX4_rain_16 ?_
    refine gf_X4_80 (v := (M 0 6)) C (by decide) dX4_rain_19 rfl ?_
    refine r_istore_n (lv' := [(2, .int (M 0 6)), (0, .ref (zA Z 8 0)), (1, .int x1)]) C dX4_rain_22 2 rfl (by decide) rfl ?_
    refine r_aload_n C dX4_rain_23 0 1 rfl rfl ?_
    refine gf_X4_12 C dX4_rain_24 ?_
    refine r_iload_n C dX4_rain_27 1 2 rfl rfl ?_
    refine pf_X4_80 (M' := (wM M 0 6 x1)) C (by decide) dX4_rain_28 rfl ?_
    refine r_iload_n C dX4_rain_31 2 0 rfl rfl ?_
    exact r_iret C dX4_rain_32 rfl
  · refine r_aload_n C dX4_rain_9 0 0 rfl rfl ?_
    refine r_iconst (v := 0) C dX4_rain_10 (by decide) ?_
    refine r_bind (fun a2 ha2 => ?_)
    refine r_callV (rest := []) (st2 := [.int a2.1]) C (mX4_finding (eL E) C.z M N 0 a2 ha2) lk_X4_58 (rvX C) (by decide) rfl rfl (Nat.le_of_ble_eq_true rfl) dX4_rain_11 rfl ?_
    exact r_iret C dX4_rain_14 rfl
theorem mX4_rain (l : Launch) {Z : Zt} (hZ : Zok 1 Z) (M : Mi) (N : Ml) (x1 : Int32) (b : Int32 × Mi) (hb : fX4_rain M x1 = some b) : Ct 1 Z l yX4_rain cX4_rain 3 (some .int) 1 [.ref (zA Z 8 0), .int x1] M N (some (Value.int b.1), b.2, N) :=
  metG (fin := (finX4_rain N)) (by decide) (Nat.le_of_ble_eq_true rfl) (fun E _ C => bX4_rain C M x1) hb
theorem dX4_cell_0 : decode cX4_cell 0 = .ok (.iload_n 1, 1) := by decide +kernel
theorem dX4_cell_1 : decode cX4_cell 1 = .ok (.invokestatic 51, 3) := by decide +kernel
theorem dX4_cell_4 : decode cX4_cell 4 = .ok (.ifCond .ne 9, 3) := by decide +kernel
theorem dX4_cell_7 : decode cX4_cell 7 = .ok (.aload_n 0, 1) := by decide +kernel
theorem dX4_cell_8 : decode cX4_cell 8 = .ok (.iconst 0, 1) := by decide +kernel
theorem dX4_cell_9 : decode cX4_cell 9 = .ok (.invokevirtual 58, 3) := by decide +kernel
theorem dX4_cell_12 : decode cX4_cell 12 = .ok (.ireturn, 1) := by decide +kernel
theorem dX4_cell_13 : decode cX4_cell 13 = .ok (.iload_n 2, 1) := by decide +kernel
theorem dX4_cell_14 : decode cX4_cell 14 = .ok (.tableswitch 63 0 2 #[26, 43, 52], 26) := by decide +kernel
theorem dX4_cell_40 : decode cX4_cell 40 = .ok (.aload_n 0, 1) := by decide +kernel
theorem dX4_cell_41 : decode cX4_cell 41 = .ok (.getfield 12, 3) := by decide +kernel
theorem dX4_cell_44 : decode cX4_cell 44 = .ok (.iload_n 1, 1) := by decide +kernel
theorem dX4_cell_45 : decode cX4_cell 45 = .ok (.invokevirtual 62, 3) := by decide +kernel
theorem dX4_cell_48 : decode cX4_cell 48 = .ok (.ifCond .eq 7, 3) := by decide +kernel
theorem dX4_cell_51 : decode cX4_cell 51 = .ok (.iconst 1, 1) := by decide +kernel
theorem dX4_cell_52 : decode cX4_cell 52 = .ok (.goto 4, 3) := by decide +kernel
theorem dX4_cell_55 : decode cX4_cell 55 = .ok (.iconst 0, 1) := by decide +kernel
theorem dX4_cell_56 : decode cX4_cell 56 = .ok (.ireturn, 1) := by decide +kernel
theorem dX4_cell_57 : decode cX4_cell 57 = .ok (.aload_n 0, 1) := by decide +kernel
theorem dX4_cell_58 : decode cX4_cell 58 = .ok (.getfield 12, 3) := by decide +kernel
theorem dX4_cell_61 : decode cX4_cell 61 = .ok (.iload_n 1, 1) := by decide +kernel
theorem dX4_cell_62 : decode cX4_cell 62 = .ok (.invokevirtual 84, 3) := by decide +kernel
theorem dX4_cell_65 : decode cX4_cell 65 = .ok (.ireturn, 1) := by decide +kernel
theorem dX4_cell_66 : decode cX4_cell 66 = .ok (.aload_n 0, 1) := by decide +kernel
theorem dX4_cell_67 : decode cX4_cell 67 = .ok (.getfield 12, 3) := by decide +kernel
theorem dX4_cell_70 : decode cX4_cell 70 = .ok (.iconst 1, 1) := by decide +kernel
theorem dX4_cell_71 : decode cX4_cell 71 = .ok (.iload_n 1, 1) := by decide +kernel
theorem dX4_cell_72 : decode cX4_cell 72 = .ok (.ishl, 1) := by decide +kernel
theorem dX4_cell_73 : decode cX4_cell 73 = .ok (.invokevirtual 87, 3) := by decide +kernel
theorem dX4_cell_76 : decode cX4_cell 76 = .ok (.ireturn, 1) := by decide +kernel
theorem dX4_cell_77 : decode cX4_cell 77 = .ok (.aload_n 0, 1) := by decide +kernel
theorem dX4_cell_78 : decode cX4_cell 78 = .ok (.iconst 0, 1) := by decide +kernel
theorem dX4_cell_79 : decode cX4_cell 79 = .ok (.invokevirtual 58, 3) := by decide +kernel
theorem dX4_cell_82 : decode cX4_cell 82 = .ok (.ireturn, 1) := by decide +kernel
def finX4_cell (N : Ml) : Int32 × Mi → Option Value × Mi × Ml := fun b => (some (Value.int b.1), b.2, N)
noncomputable def fX4_cell   (M : Mi) (x1 : Int32) (x2 : Int32) : Option (Int32 × Mi) := (if (fX4_isCell x1) = 0 then (Option.bind (fX4_finding M 0) (fun a9 => (some (a9.1, (a9.2))))) else (if x2 = 0 then (if (fX0_isFenced (M 0) x1) = 0 then (some (0, M)) else (some (1, M))) else (if x2 = 1 then (Option.bind (fX0_tortoisesIn (M 0) x1) (fun a5 => (some (a5, M)))) else (if x2 = 2 then (Option.bind (fX0_subjectsIn (M 0) (1 <<< (x1 &&& 31))) (fun a7 => (some (a7, M)))) else (Option.bind (fX4_finding M 0) (fun a8 => (some (a8.1, (a8.2)))))))))
theorem bX4_cell {Z : Zt} {E : Ec} {N : Ml} (C : Ok 1 Z E cX4_cell 3 RX4 (some .int) 2)    (M : Mi) (x1 : Int32) (x2 : Int32)  : GT Z E 3 (finX4_cell N) 0 [(0, .ref (zA Z 8 0)), (1, .int x1), (2, .int x2)] [] M N (fX4_cell M x1 x2) := by
  unfold fX4_cell
  refine r_iload_n C dX4_cell_0 1 1 rfl rfl ?_
  refine r_callS (rest := []) (st2 := [.int (fX4_isCell x1)]) C (mX4_isCell (eL E) C.z _ _ x1) lk_X4_51 (by decide) rfl rfl (Nat.le_of_ble_eq_true rfl) dX4_cell_1 rfl ?_
  refine r_if_ne (tgt := 13) C dX4_cell_4 (by decide) (fun c1 => ?_) (fun c1 => ?_)
  · refine r_iload_n C dX4_cell_13 2 2 rfl rfl ?_
    refine r_tsw (k := 0) (tgt := 40) C dX4_cell_14 (by decide) (by decide) rfl (by decide) (fun c2 => ?_) (fun c2 => ?_)
    · refine r_aload_n C dX4_cell_40 0 0 rfl rfl ?_
      refine gf_X4_12 C dX4_cell_41 ?_
      refine r_iload_n C dX4_cell_44 1 1 rfl rfl ?_
      refine r_callV (rest := []) (st2 := [.int (fX0_isFenced (M 0) x1)]) C (mX0_isFenced (eL E) C.z (by decide) M _ (M 0) x1).selfR lk_X4_62 (rvI C (by decide)) (by decide) rfl rfl (Nat.le_of_ble_eq_true rfl) dX4_cell_45 rfl ?_
      refine r_if_eq (tgt := 55) C dX4_cell_48 (by decide) (fun c3 => ?_) (fun c3 => ?_)
      · refine r_iconst (v := 0) C dX4_cell_55 (by decide) ?_
        exact r_iret C dX4_cell_56 rfl
      · refine r_iconst (v := 1) C dX4_cell_51 (by decide) ?_
        refine r_goto (tgt := 56) C dX4_cell_52 (by decide) ?_
        exact r_iret C dX4_cell_56 rfl
    · skip
      refine r_tsw (k := 1) (tgt := 57) C dX4_cell_14 (by decide) (by decide) rfl (by decide) (fun c4 => ?_) (fun c4 => ?_)
      · refine r_aload_n C dX4_cell_57 0 0 rfl rfl ?_
        refine gf_X4_12 C dX4_cell_58 ?_
        refine r_iload_n C dX4_cell_61 1 1 rfl rfl ?_
        refine r_bind (fun a5 ha5 => ?_)
        refine r_callV (rest := []) (st2 := [.int a5]) C (mX0_tortoisesIn (eL E) C.z (by decide) M _ (M 0) x1 a5 ha5).selfR lk_X4_84 (rvI C (by decide)) (by decide) rfl rfl (Nat.le_of_ble_eq_true rfl) dX4_cell_62 rfl ?_
        exact r_iret C dX4_cell_65 rfl
      · skip
        refine r_tsw (k := 2) (tgt := 66) C dX4_cell_14 (by decide) (by decide) rfl (by decide) (fun c6 => ?_) (fun c6 => ?_)
        · refine r_aload_n C dX4_cell_66 0 0 rfl rfl ?_
          refine gf_X4_12 C dX4_cell_67 ?_
          refine r_iconst (v := 1) C dX4_cell_70 (by decide) ?_
          refine r_iload_n C dX4_cell_71 1 1 rfl rfl ?_
          refine r_ishl C dX4_cell_72 ?_
          refine r_bind (fun a7 ha7 => ?_)
          refine r_callV (rest := []) (st2 := [.int a7]) C (mX0_subjectsIn (eL E) C.z (by decide) M _ (M 0) (1 <<< (x1 &&& 31)) a7 ha7).selfR lk_X4_87 (rvI C (by decide)) (by decide) rfl rfl (Nat.le_of_ble_eq_true rfl) dX4_cell_73 rfl ?_
          exact r_iret C dX4_cell_76 rfl
        · skip
          refine r_tswd (tgt := 77) C dX4_cell_14 (sw_out (lo := 0) (hi := 2) (n := 3) x2 [0, 1, 2] (by decide) rfl (List.forall_mem_cons.mpr ⟨c2, List.forall_mem_cons.mpr ⟨c4, List.forall_mem_cons.mpr ⟨c6, fun _ h => absurd h List.not_mem_nil⟩⟩⟩)) (by decide) ?_
          refine r_aload_n C dX4_cell_77 0 0 rfl rfl ?_
          refine r_iconst (v := 0) C dX4_cell_78 (by decide) ?_
          refine r_bind (fun a8 ha8 => ?_)
          refine r_callV (rest := []) (st2 := [.int a8.1]) C (mX4_finding (eL E) C.z M N 0 a8 ha8) lk_X4_58 (rvX C) (by decide) rfl rfl (Nat.le_of_ble_eq_true rfl) dX4_cell_79 rfl ?_
          exact r_iret C dX4_cell_82 rfl
  · refine r_aload_n C dX4_cell_7 0 0 rfl rfl ?_
    refine r_iconst (v := 0) C dX4_cell_8 (by decide) ?_
    refine r_bind (fun a9 ha9 => ?_)
    refine r_callV (rest := []) (st2 := [.int a9.1]) C (mX4_finding (eL E) C.z M N 0 a9 ha9) lk_X4_58 (rvX C) (by decide) rfl rfl (Nat.le_of_ble_eq_true rfl) dX4_cell_9 rfl ?_
    exact r_iret C dX4_cell_12 rfl
theorem mX4_cell (l : Launch) {Z : Zt} (hZ : Zok 1 Z) (M : Mi) (N : Ml) (x1 : Int32) (x2 : Int32) (b : Int32 × Mi) (hb : fX4_cell M x1 x2 = some b) : Ct 1 Z l yX4_cell cX4_cell 3 (some .int) 2 [.ref (zA Z 8 0), .int x1, .int x2] M N (some (Value.int b.1), b.2, N) :=
  metG (fin := (finX4_cell N)) (by decide) (Nat.le_of_ble_eq_true rfl) (fun E _ C => bX4_cell C M x1 x2) hb
theorem dX4_isKind_0 : decode cX4_isKind 0 = .ok (.iload_n 0, 1) := by decide +kernel
theorem dX4_isKind_1 : decode cX4_isKind 1 = .ok (.bipush 6, 2) := by decide +kernel
theorem dX4_isKind_3 : decode cX4_isKind 3 = .ok (.invokestatic 69, 3) := by decide +kernel
theorem dX4_isKind_6 : decode cX4_isKind 6 = .ok (.ireturn, 1) := by decide +kernel
def finX4_isKind (M : Mi) (N : Ml) : Int32 → Option Value × Mi × Ml := fun b => (some (Value.int b), M, N)
noncomputable def fX4_isKind   (x0 : Int32) : Int32 := (fX4_isBelow x0 6)
theorem bX4_isKind {Z : Zt} {E : Ec} {M : Mi} {N : Ml} (C : Ok 1 Z E cX4_isKind 1 RX4 (some .boolean) 1)    (x0 : Int32)  : GT Z E 1 (finX4_isKind M N) 0 [(0, .int x0)] [] M N (some (fX4_isKind x0)) := by
  unfold fX4_isKind
  refine r_iload_n C dX4_isKind_0 0 0 rfl rfl ?_
  refine r_bipush (v := 6) C dX4_isKind_1 (by decide) ?_
  refine r_callS (rest := []) (st2 := [.int (fX4_isBelow x0 6)]) C (mX4_isBelow (eL E) C.z _ _ x0 6) lk_X4_69 (by decide) rfl rfl (Nat.le_of_ble_eq_true rfl) dX4_isKind_3 rfl ?_
  exact r_zret C dX4_isKind_6 (zbX4_isBelow  x0 6) rfl
theorem zbX4_isKind (x0 : Int32) : fX4_isKind x0 = 0 ∨ fX4_isKind x0 = 1 := by
  unfold fX4_isKind; (repeat' split) <;> first | exact Or.inl rfl | exact Or.inr rfl | exact zbX4_isBelow _ _
theorem mX4_isKind (l : Launch) {Z : Zt} (hZ : Zok 1 Z) (M : Mi) (N : Ml) (x0 : Int32) : Ct 1 Z l yX4_isKind cX4_isKind 1 (some .boolean) 1 [.int x0] M N (some (Value.int (fX4_isKind x0)), M, N) :=
  metG (fin := (finX4_isKind M N)) (by decide) (Nat.le_of_ble_eq_true rfl) (fun E _ C => bX4_isKind C x0) rfl
theorem dX4_tortoise_0 : decode cX4_tortoise 0 = .ok (.iload_n 1, 1) := by decide +kernel
theorem dX4_tortoise_1 : decode cX4_tortoise 1 = .ok (.invokestatic 90, 3) := by decide +kernel
theorem dX4_tortoise_4 : decode cX4_tortoise 4 = .ok (.ifCond .eq 20, 3) := by decide +kernel
theorem dX4_tortoise_7 : decode cX4_tortoise 7 = .ok (.iload_n 2, 1) := by decide +kernel
theorem dX4_tortoise_8 : decode cX4_tortoise 8 = .ok (.invokestatic 51, 3) := by decide +kernel
theorem dX4_tortoise_11 : decode cX4_tortoise 11 = .ok (.ifCond .eq 13, 3) := by decide +kernel
theorem dX4_tortoise_14 : decode cX4_tortoise 14 = .ok (.iload_n 3, 1) := by decide +kernel
theorem dX4_tortoise_15 : decode cX4_tortoise 15 = .ok (.sipush 4095, 3) := by decide +kernel
theorem dX4_tortoise_18 : decode cX4_tortoise 18 = .ok (.invokestatic 77, 3) := by decide +kernel
theorem dX4_tortoise_21 : decode cX4_tortoise 21 = .ok (.ifCond .ne 9, 3) := by decide +kernel
theorem dX4_tortoise_24 : decode cX4_tortoise 24 = .ok (.aload_n 0, 1) := by decide +kernel
theorem dX4_tortoise_25 : decode cX4_tortoise 25 = .ok (.iconst 0, 1) := by decide +kernel
theorem dX4_tortoise_26 : decode cX4_tortoise 26 = .ok (.invokevirtual 58, 3) := by decide +kernel
theorem dX4_tortoise_29 : decode cX4_tortoise 29 = .ok (.ireturn, 1) := by decide +kernel
theorem dX4_tortoise_30 : decode cX4_tortoise 30 = .ok (.aload_n 0, 1) := by decide +kernel
theorem dX4_tortoise_31 : decode cX4_tortoise 31 = .ok (.getfield 12, 3) := by decide +kernel
theorem dX4_tortoise_34 : decode cX4_tortoise 34 = .ok (.invokevirtual 93, 3) := by decide +kernel
theorem dX4_tortoise_37 : decode cX4_tortoise 37 = .ok (.ifCond .eq 9, 3) := by decide +kernel
theorem dX4_tortoise_40 : decode cX4_tortoise 40 = .ok (.aload_n 0, 1) := by decide +kernel
theorem dX4_tortoise_41 : decode cX4_tortoise 41 = .ok (.iconst 1, 1) := by decide +kernel
theorem dX4_tortoise_42 : decode cX4_tortoise 42 = .ok (.invokevirtual 58, 3) := by decide +kernel
theorem dX4_tortoise_45 : decode cX4_tortoise 45 = .ok (.ireturn, 1) := by decide +kernel
theorem dX4_tortoise_46 : decode cX4_tortoise 46 = .ok (.aload_n 0, 1) := by decide +kernel
theorem dX4_tortoise_47 : decode cX4_tortoise 47 = .ok (.getfield 12, 3) := by decide +kernel
theorem dX4_tortoise_50 : decode cX4_tortoise 50 = .ok (.iload_n 1, 1) := by decide +kernel
theorem dX4_tortoise_51 : decode cX4_tortoise 51 = .ok (.iload_n 2, 1) := by decide +kernel
theorem dX4_tortoise_52 : decode cX4_tortoise 52 = .ok (.iload_n 3, 1) := by decide +kernel
theorem dX4_tortoise_53 : decode cX4_tortoise 53 = .ok (.invokevirtual 97, 3) := by decide +kernel
theorem dX4_tortoise_56 : decode cX4_tortoise 56 = .ok (.ireturn, 1) := by decide +kernel
def finX4_tortoise (N : Ml) : Int32 × Mi → Option Value × Mi × Ml := fun b => (some (Value.int b.1), b.2, N)
noncomputable def fX4_tortoise_24   (M : Mi) : Option (Int32 × Mi) := (Option.bind (fX4_finding M 0) (fun a2 => (some (a2.1, (a2.2)))))
theorem bX4_tortoise_24 {Z : Zt} {E : Ec} {N : Ml} (C : Ok 1 Z E cX4_tortoise 4 RX4 (some .int) 2)    (M : Mi)  : GT Z E 4 (finX4_tortoise N) 24 [(0, .ref (zA Z 8 0))] [] M N (fX4_tortoise_24 M) := by
  unfold fX4_tortoise_24
  refine r_aload_n C dX4_tortoise_24 0 0 rfl rfl ?_
  refine r_iconst (v := 0) C dX4_tortoise_25 (by decide) ?_
  refine r_bind (fun a2 ha2 => ?_)
  refine r_callV (rest := []) (st2 := [.int a2.1]) C (mX4_finding (eL E) C.z M N 0 a2 ha2) lk_X4_58 (rvX C) (by decide) rfl rfl (Nat.le_of_ble_eq_true rfl) dX4_tortoise_26 rfl ?_
  exact r_iret C dX4_tortoise_29 rfl
noncomputable def fX4_tortoise   (M : Mi) (x1 : Int32) (x2 : Int32) (x3 : Int32) : Option (Int32 × Mi) := (if (fX4_isKind x1) = 0 then (fX4_tortoise_24 M) else (if (fX4_isCell x2) = 0 then (fX4_tortoise_24 M) else (if (fX4_isSetOf x3 4095) = 0 then (fX4_tortoise_24 M) else (if (fX0_isFull (M 0)) = 0 then (Option.bind (fX0_comes (M 0) x1 x2 x3) (fun a6 => (some (a6.1, (sR M 0 (a6.2)))))) else (Option.bind (fX4_finding M 1) (fun a7 => (some (a7.1, (a7.2)))))))))
theorem bX4_tortoise {Z : Zt} {E : Ec} {N : Ml} (C : Ok 1 Z E cX4_tortoise 4 RX4 (some .int) 2)    (M : Mi) (x1 : Int32) (x2 : Int32) (x3 : Int32)  : GT Z E 4 (finX4_tortoise N) 0 [(0, .ref (zA Z 8 0)), (1, .int x1), (2, .int x2), (3, .int x3)] [] M N (fX4_tortoise M x1 x2 x3) := by
  unfold fX4_tortoise
  refine r_iload_n C dX4_tortoise_0 1 1 rfl rfl ?_
  refine r_callS (rest := []) (st2 := [.int (fX4_isKind x1)]) C (mX4_isKind (eL E) C.z _ _ x1) lk_X4_90 (by decide) rfl rfl (Nat.le_of_ble_eq_true rfl) dX4_tortoise_1 rfl ?_
  refine r_if_eq (tgt := 24) C dX4_tortoise_4 (by decide) (fun c1 => ?_) (fun c1 => ?_)
  · refine r_lv [0] (lv' := [(0, .ref (zA Z 8 0))]) rfl ?_
    exact bX4_tortoise_24 C M
  · refine r_iload_n C dX4_tortoise_7 2 2 rfl rfl ?_
    refine r_callS (rest := []) (st2 := [.int (fX4_isCell x2)]) C (mX4_isCell (eL E) C.z _ _ x2) lk_X4_51 (by decide) rfl rfl (Nat.le_of_ble_eq_true rfl) dX4_tortoise_8 rfl ?_
    refine r_if_eq (tgt := 24) C dX4_tortoise_11 (by decide) (fun c3 => ?_) (fun c3 => ?_)
    · refine r_lv [0] (lv' := [(0, .ref (zA Z 8 0))]) rfl ?_
      exact bX4_tortoise_24 C M
    · refine r_iload_n C dX4_tortoise_14 3 3 rfl rfl ?_
      refine r_sipush (v := 4095) C dX4_tortoise_15 (by decide) ?_
      refine r_callS (rest := []) (st2 := [.int (fX4_isSetOf x3 4095)]) C (mX4_isSetOf (eL E) C.z _ _ x3 4095) lk_X4_77 (by decide) rfl rfl (Nat.le_of_ble_eq_true rfl) dX4_tortoise_18 rfl ?_
      refine r_if_ne (tgt := 30) C dX4_tortoise_21 (by decide) (fun c4 => ?_) (fun c4 => ?_)
      · refine r_aload_n C dX4_tortoise_30 0 0 rfl rfl ?_
        refine gf_X4_12 C dX4_tortoise_31 ?_
        refine r_callV (rest := []) (st2 := [.int (fX0_isFull (M 0))]) C (mX0_isFull (eL E) C.z (by decide) M _ (M 0)).selfR lk_X4_93 (rvI C (by decide)) (by decide) rfl rfl (Nat.le_of_ble_eq_true rfl) dX4_tortoise_34 rfl ?_
        refine r_if_eq (tgt := 46) C dX4_tortoise_37 (by decide) (fun c5 => ?_) (fun c5 => ?_)
        · refine r_aload_n C dX4_tortoise_46 0 0 rfl rfl ?_
          refine gf_X4_12 C dX4_tortoise_47 ?_
          refine r_iload_n C dX4_tortoise_50 1 1 rfl rfl ?_
          refine r_iload_n C dX4_tortoise_51 2 2 rfl rfl ?_
          refine r_iload_n C dX4_tortoise_52 3 3 rfl rfl ?_
          refine r_bind (fun a6 ha6 => ?_)
          refine r_callV (rest := []) (st2 := [.int a6.1]) C (mX0_comes (eL E) C.z (by decide) M _ (M 0) x1 x2 x3 a6 ha6).selfW lk_X4_97 (rvI C (by decide)) (by decide) rfl rfl (Nat.le_of_ble_eq_true rfl) dX4_tortoise_53 rfl ?_
          exact r_iret C dX4_tortoise_56 rfl
        · refine r_aload_n C dX4_tortoise_40 0 0 rfl rfl ?_
          refine r_iconst (v := 1) C dX4_tortoise_41 (by decide) ?_
          refine r_bind (fun a7 ha7 => ?_)
          refine r_callV (rest := []) (st2 := [.int a7.1]) C (mX4_finding (eL E) C.z M N 1 a7 ha7) lk_X4_58 (rvX C) (by decide) rfl rfl (Nat.le_of_ble_eq_true rfl) dX4_tortoise_42 rfl ?_
          exact r_iret C dX4_tortoise_45 rfl
      · refine r_lv [0] (lv' := [(0, .ref (zA Z 8 0))]) rfl ?_
        exact bX4_tortoise_24 C M
theorem mX4_tortoise (l : Launch) {Z : Zt} (hZ : Zok 1 Z) (M : Mi) (N : Ml) (x1 : Int32) (x2 : Int32) (x3 : Int32) (b : Int32 × Mi) (hb : fX4_tortoise M x1 x2 x3 = some b) : Ct 1 Z l yX4_tortoise cX4_tortoise 4 (some .int) 2 [.ref (zA Z 8 0), .int x1, .int x2, .int x3] M N (some (Value.int b.1), b.2, N) :=
  metG (fin := (finX4_tortoise N)) (by decide) (Nat.le_of_ble_eq_true rfl) (fun E _ C => bX4_tortoise C M x1 x2 x3) hb
theorem dX4_of_0 : decode cX4_of 0 = .ok (.aload_n 0, 1) := by decide +kernel
theorem dX4_of_1 : decode cX4_of 1 = .ok (.getfield 12, 3) := by decide +kernel
theorem dX4_of_4 : decode cX4_of 4 = .ok (.iload_n 1, 1) := by decide +kernel
theorem dX4_of_5 : decode cX4_of 5 = .ok (.invokevirtual 101, 3) := by decide +kernel
theorem dX4_of_8 : decode cX4_of 8 = .ok (.ifCond .ne 9, 3) := by decide +kernel
theorem dX4_of_11 : decode cX4_of 11 = .ok (.aload_n 0, 1) := by decide +kernel
theorem dX4_of_12 : decode cX4_of 12 = .ok (.iconst 0, 1) := by decide +kernel
theorem dX4_of_13 : decode cX4_of 13 = .ok (.invokevirtual 58, 3) := by decide +kernel
theorem dX4_of_16 : decode cX4_of 16 = .ok (.ireturn, 1) := by decide +kernel
theorem dX4_of_17 : decode cX4_of 17 = .ok (.iload_n 2, 1) := by decide +kernel
theorem dX4_of_18 : decode cX4_of 18 = .ok (.tableswitch 104 0 5 #[38, 48, 58, 68, 86, 95], 38) := by decide +kernel
theorem dX4_of_56 : decode cX4_of 56 = .ok (.aload_n 0, 1) := by decide +kernel
theorem dX4_of_57 : decode cX4_of 57 = .ok (.getfield 12, 3) := by decide +kernel
theorem dX4_of_60 : decode cX4_of 60 = .ok (.getfield 104, 3) := by decide +kernel
theorem dX4_of_63 : decode cX4_of 63 = .ok (.iload_n 1, 1) := by decide +kernel
theorem dX4_of_64 : decode cX4_of 64 = .ok (.iaload, 1) := by decide +kernel
theorem dX4_of_65 : decode cX4_of 65 = .ok (.ireturn, 1) := by decide +kernel
theorem dX4_of_66 : decode cX4_of 66 = .ok (.aload_n 0, 1) := by decide +kernel
theorem dX4_of_67 : decode cX4_of 67 = .ok (.getfield 12, 3) := by decide +kernel
theorem dX4_of_70 : decode cX4_of 70 = .ok (.getfield 107, 3) := by decide +kernel
theorem dX4_of_73 : decode cX4_of 73 = .ok (.iload_n 1, 1) := by decide +kernel
theorem dX4_of_74 : decode cX4_of 74 = .ok (.iaload, 1) := by decide +kernel
theorem dX4_of_75 : decode cX4_of 75 = .ok (.ireturn, 1) := by decide +kernel
theorem dX4_of_76 : decode cX4_of 76 = .ok (.aload_n 0, 1) := by decide +kernel
theorem dX4_of_77 : decode cX4_of 77 = .ok (.getfield 12, 3) := by decide +kernel
theorem dX4_of_80 : decode cX4_of 80 = .ok (.getfield 110, 3) := by decide +kernel
theorem dX4_of_83 : decode cX4_of 83 = .ok (.iload_n 1, 1) := by decide +kernel
theorem dX4_of_84 : decode cX4_of 84 = .ok (.iaload, 1) := by decide +kernel
theorem dX4_of_85 : decode cX4_of 85 = .ok (.ireturn, 1) := by decide +kernel
theorem dX4_of_86 : decode cX4_of 86 = .ok (.aload_n 0, 1) := by decide +kernel
theorem dX4_of_87 : decode cX4_of 87 = .ok (.getfield 12, 3) := by decide +kernel
theorem dX4_of_90 : decode cX4_of 90 = .ok (.getfield 113, 3) := by decide +kernel
theorem dX4_of_93 : decode cX4_of 93 = .ok (.iload_n 1, 1) := by decide +kernel
theorem dX4_of_94 : decode cX4_of 94 = .ok (.baload, 1) := by decide +kernel
theorem dX4_of_95 : decode cX4_of 95 = .ok (.ifCond .eq 7, 3) := by decide +kernel
theorem dX4_of_98 : decode cX4_of 98 = .ok (.iconst 1, 1) := by decide +kernel
theorem dX4_of_99 : decode cX4_of 99 = .ok (.goto 4, 3) := by decide +kernel
theorem dX4_of_102 : decode cX4_of 102 = .ok (.iconst 0, 1) := by decide +kernel
theorem dX4_of_103 : decode cX4_of 103 = .ok (.ireturn, 1) := by decide +kernel
theorem dX4_of_104 : decode cX4_of 104 = .ok (.aload_n 0, 1) := by decide +kernel
theorem dX4_of_105 : decode cX4_of 105 = .ok (.getfield 12, 3) := by decide +kernel
theorem dX4_of_108 : decode cX4_of 108 = .ok (.iload_n 1, 1) := by decide +kernel
theorem dX4_of_109 : decode cX4_of 109 = .ok (.invokevirtual 117, 3) := by decide +kernel
theorem dX4_of_112 : decode cX4_of 112 = .ok (.ireturn, 1) := by decide +kernel
theorem dX4_of_113 : decode cX4_of 113 = .ok (.aload_n 0, 1) := by decide +kernel
theorem dX4_of_114 : decode cX4_of 114 = .ok (.getfield 12, 3) := by decide +kernel
theorem dX4_of_117 : decode cX4_of 117 = .ok (.iload_n 1, 1) := by decide +kernel
theorem dX4_of_118 : decode cX4_of 118 = .ok (.invokevirtual 120, 3) := by decide +kernel
theorem dX4_of_121 : decode cX4_of 121 = .ok (.ireturn, 1) := by decide +kernel
theorem dX4_of_122 : decode cX4_of 122 = .ok (.aload_n 0, 1) := by decide +kernel
theorem dX4_of_123 : decode cX4_of 123 = .ok (.iconst 0, 1) := by decide +kernel
theorem dX4_of_124 : decode cX4_of 124 = .ok (.invokevirtual 58, 3) := by decide +kernel
theorem dX4_of_127 : decode cX4_of 127 = .ok (.ireturn, 1) := by decide +kernel
def finX4_of (N : Ml) : Int32 × Mi → Option Value × Mi × Ml := fun b => (some (Value.int b.1), b.2, N)
noncomputable def fX4_of   (M : Mi) (x1 : Int32) (x2 : Int32) : Option (Int32 × Mi) := (if (fX0_has (M 0) x1) = 0 then (Option.bind (fX4_finding M 0) (fun a16 => (some (a16.1, (a16.2))))) else (if x2 = 0 then (if inb x1 8 then (some ((M 0 (7 + 4 * ix x1)), M)) else none) else (if x2 = 1 then (if inb x1 8 then (some ((M 0 (8 + 4 * ix x1)), M)) else none) else (if x2 = 2 then (if inb x1 8 then (some ((M 0 (9 + 4 * ix x1)), M)) else none) else (if x2 = 3 then (if inb x1 8 then (if (M 0 (10 + 4 * ix x1)) = 0 then (some (0, M)) else (some (1, M))) else none) else (if x2 = 4 then (Option.bind (fX0_aimOf (M 0) x1) (fun a12 => (some (a12, M)))) else (if x2 = 5 then (Option.bind (fX0_paceOf (M 0) x1) (fun a14 => (some (a14, M)))) else (Option.bind (fX4_finding M 0) (fun a15 => (some (a15.1, (a15.2))))))))))))
theorem bX4_of {Z : Zt} {E : Ec} {N : Ml} (C : Ok 1 Z E cX4_of 3 RX4 (some .int) 2)    (M : Mi) (x1 : Int32) (x2 : Int32)  : GT Z E 3 (finX4_of N) 0 [(0, .ref (zA Z 8 0)), (1, .int x1), (2, .int x2)] [] M N (fX4_of M x1 x2) := by
  unfold fX4_of
  refine r_aload_n C dX4_of_0 0 0 rfl rfl ?_
  refine gf_X4_12 C dX4_of_1 ?_
  refine r_iload_n C dX4_of_4 1 1 rfl rfl ?_
  refine r_callV (rest := []) (st2 := [.int (fX0_has (M 0) x1)]) C (mX0_has (eL E) C.z (by decide) M _ (M 0) x1).selfR lk_X4_101 (rvI C (by decide)) (by decide) rfl rfl (Nat.le_of_ble_eq_true rfl) dX4_of_5 rfl ?_
  refine r_if_ne (tgt := 17) C dX4_of_8 (by decide) (fun c1 => ?_) (fun c1 => ?_)
  · refine r_iload_n C dX4_of_17 2 2 rfl rfl ?_
    refine r_tsw (k := 0) (tgt := 56) C dX4_of_18 (by decide) (by decide) rfl (by decide) (fun c2 => ?_) (fun c2 => ?_)
    · refine r_aload_n C dX4_of_56 0 0 rfl rfl ?_
      refine gf_X4_12 C dX4_of_57 ?_
      refine gf_X4_104 C (by decide) dX4_of_60 ?_
      refine r_iload_n C dX4_of_63 1 1 rfl rfl ?_
      refine r_guard (fun h3 => ?_)
      refine ald_I2 (v := (M 0 (7 + 4 * ix x1))) C (by decide) h3 rfl dX4_of_64 ?_
      exact r_iret C dX4_of_65 rfl
    · skip
      refine r_tsw (k := 1) (tgt := 66) C dX4_of_18 (by decide) (by decide) rfl (by decide) (fun c4 => ?_) (fun c4 => ?_)
      · refine r_aload_n C dX4_of_66 0 0 rfl rfl ?_
        refine gf_X4_12 C dX4_of_67 ?_
        refine gf_X4_107 C (by decide) dX4_of_70 ?_
        refine r_iload_n C dX4_of_73 1 1 rfl rfl ?_
        refine r_guard (fun h5 => ?_)
        refine ald_I3 (v := (M 0 (8 + 4 * ix x1))) C (by decide) h5 rfl dX4_of_74 ?_
        exact r_iret C dX4_of_75 rfl
      · skip
        refine r_tsw (k := 2) (tgt := 76) C dX4_of_18 (by decide) (by decide) rfl (by decide) (fun c6 => ?_) (fun c6 => ?_)
        · refine r_aload_n C dX4_of_76 0 0 rfl rfl ?_
          refine gf_X4_12 C dX4_of_77 ?_
          refine gf_X4_110 C (by decide) dX4_of_80 ?_
          refine r_iload_n C dX4_of_83 1 1 rfl rfl ?_
          refine r_guard (fun h7 => ?_)
          refine ald_I4 (v := (M 0 (9 + 4 * ix x1))) C (by decide) h7 rfl dX4_of_84 ?_
          exact r_iret C dX4_of_85 rfl
        · skip
          refine r_tsw (k := 3) (tgt := 86) C dX4_of_18 (by decide) (by decide) rfl (by decide) (fun c8 => ?_) (fun c8 => ?_)
          · refine r_aload_n C dX4_of_86 0 0 rfl rfl ?_
            refine gf_X4_12 C dX4_of_87 ?_
            refine gf_X4_113 C (by decide) dX4_of_90 ?_
            refine r_iload_n C dX4_of_93 1 1 rfl rfl ?_
            refine r_guard (fun h9 => ?_)
            refine ald_I5 (v := (M 0 (10 + 4 * ix x1))) C (by decide) h9 rfl dX4_of_94 ?_
            refine r_if_eq (tgt := 102) C dX4_of_95 (by decide) (fun c10 => ?_) (fun c10 => ?_)
            · refine r_iconst (v := 0) C dX4_of_102 (by decide) ?_
              exact r_iret C dX4_of_103 rfl
            · refine r_iconst (v := 1) C dX4_of_98 (by decide) ?_
              refine r_goto (tgt := 103) C dX4_of_99 (by decide) ?_
              exact r_iret C dX4_of_103 rfl
          · skip
            refine r_tsw (k := 4) (tgt := 104) C dX4_of_18 (by decide) (by decide) rfl (by decide) (fun c11 => ?_) (fun c11 => ?_)
            · refine r_aload_n C dX4_of_104 0 0 rfl rfl ?_
              refine gf_X4_12 C dX4_of_105 ?_
              refine r_iload_n C dX4_of_108 1 1 rfl rfl ?_
              refine r_bind (fun a12 ha12 => ?_)
              refine r_callV (rest := []) (st2 := [.int a12]) C (mX0_aimOf (eL E) C.z (by decide) M _ (M 0) x1 a12 ha12).selfR lk_X4_117 (rvI C (by decide)) (by decide) rfl rfl (Nat.le_of_ble_eq_true rfl) dX4_of_109 rfl ?_
              exact r_iret C dX4_of_112 rfl
            · skip
              refine r_tsw (k := 5) (tgt := 113) C dX4_of_18 (by decide) (by decide) rfl (by decide) (fun c13 => ?_) (fun c13 => ?_)
              · refine r_aload_n C dX4_of_113 0 0 rfl rfl ?_
                refine gf_X4_12 C dX4_of_114 ?_
                refine r_iload_n C dX4_of_117 1 1 rfl rfl ?_
                refine r_bind (fun a14 ha14 => ?_)
                refine r_callV (rest := []) (st2 := [.int a14]) C (mX0_paceOf (eL E) C.z (by decide) M _ (M 0) x1 a14 ha14).selfR lk_X4_120 (rvI C (by decide)) (by decide) rfl rfl (Nat.le_of_ble_eq_true rfl) dX4_of_118 rfl ?_
                exact r_iret C dX4_of_121 rfl
              · skip
                refine r_tswd (tgt := 122) C dX4_of_18 (sw_out (lo := 0) (hi := 5) (n := 6) x2 [0, 1, 2, 3, 4, 5] (by decide) rfl (List.forall_mem_cons.mpr ⟨c2, List.forall_mem_cons.mpr ⟨c4, List.forall_mem_cons.mpr ⟨c6, List.forall_mem_cons.mpr ⟨c8, List.forall_mem_cons.mpr ⟨c11, List.forall_mem_cons.mpr ⟨c13, fun _ h => absurd h List.not_mem_nil⟩⟩⟩⟩⟩⟩)) (by decide) ?_
                refine r_aload_n C dX4_of_122 0 0 rfl rfl ?_
                refine r_iconst (v := 0) C dX4_of_123 (by decide) ?_
                refine r_bind (fun a15 ha15 => ?_)
                refine r_callV (rest := []) (st2 := [.int a15.1]) C (mX4_finding (eL E) C.z M N 0 a15 ha15) lk_X4_58 (rvX C) (by decide) rfl rfl (Nat.le_of_ble_eq_true rfl) dX4_of_124 rfl ?_
                exact r_iret C dX4_of_127 rfl
  · refine r_aload_n C dX4_of_11 0 0 rfl rfl ?_
    refine r_iconst (v := 0) C dX4_of_12 (by decide) ?_
    refine r_bind (fun a16 ha16 => ?_)
    refine r_callV (rest := []) (st2 := [.int a16.1]) C (mX4_finding (eL E) C.z M N 0 a16 ha16) lk_X4_58 (rvX C) (by decide) rfl rfl (Nat.le_of_ble_eq_true rfl) dX4_of_13 rfl ?_
    exact r_iret C dX4_of_16 rfl
theorem mX4_of (l : Launch) {Z : Zt} (hZ : Zok 1 Z) (M : Mi) (N : Ml) (x1 : Int32) (x2 : Int32) (b : Int32 × Mi) (hb : fX4_of M x1 x2 = some b) : Ct 1 Z l yX4_of cX4_of 3 (some .int) 2 [.ref (zA Z 8 0), .int x1, .int x2] M N (some (Value.int b.1), b.2, N) :=
  metG (fin := (finX4_of N)) (by decide) (Nat.le_of_ble_eq_true rfl) (fun E _ C => bX4_of C M x1 x2) hb
theorem dX4_set_0 : decode cX4_set 0 = .ok (.aload_n 0, 1) := by decide +kernel
theorem dX4_set_1 : decode cX4_set 1 = .ok (.getfield 12, 3) := by decide +kernel
theorem dX4_set_4 : decode cX4_set 4 = .ok (.iload_n 1, 1) := by decide +kernel
theorem dX4_set_5 : decode cX4_set 5 = .ok (.invokevirtual 101, 3) := by decide +kernel
theorem dX4_set_8 : decode cX4_set 8 = .ok (.ifCond .ne 9, 3) := by decide +kernel
theorem dX4_set_11 : decode cX4_set 11 = .ok (.aload_n 0, 1) := by decide +kernel
theorem dX4_set_12 : decode cX4_set 12 = .ok (.iconst 0, 1) := by decide +kernel
theorem dX4_set_13 : decode cX4_set 13 = .ok (.invokevirtual 58, 3) := by decide +kernel
theorem dX4_set_16 : decode cX4_set 16 = .ok (.ireturn, 1) := by decide +kernel
theorem dX4_set_17 : decode cX4_set 17 = .ok (.iload_n 2, 1) := by decide +kernel
theorem dX4_set_18 : decode cX4_set 18 = .ok (.iconst 1, 1) := by decide +kernel
theorem dX4_set_19 : decode cX4_set 19 = .ok (.if_icmp .ne 34, 3) := by decide +kernel
theorem dX4_set_22 : decode cX4_set 22 = .ok (.iload_n 3, 1) := by decide +kernel
theorem dX4_set_23 : decode cX4_set 23 = .ok (.invokestatic 51, 3) := by decide +kernel
theorem dX4_set_26 : decode cX4_set 26 = .ok (.ifCond .eq 27, 3) := by decide +kernel
theorem dX4_set_29 : decode cX4_set 29 = .ok (.aload_n 0, 1) := by decide +kernel
theorem dX4_set_30 : decode cX4_set 30 = .ok (.getfield 12, 3) := by decide +kernel
theorem dX4_set_33 : decode cX4_set 33 = .ok (.getfield 107, 3) := by decide +kernel
theorem dX4_set_36 : decode cX4_set 36 = .ok (.iload_n 1, 1) := by decide +kernel
theorem dX4_set_37 : decode cX4_set 37 = .ok (.iaload, 1) := by decide +kernel
theorem dX4_set_38 : decode cX4_set 38 = .ok (.istore 4, 2) := by decide +kernel
theorem dX4_set_40 : decode cX4_set 40 = .ok (.aload_n 0, 1) := by decide +kernel
theorem dX4_set_41 : decode cX4_set 41 = .ok (.getfield 12, 3) := by decide +kernel
theorem dX4_set_44 : decode cX4_set 44 = .ok (.getfield 107, 3) := by decide +kernel
theorem dX4_set_47 : decode cX4_set 47 = .ok (.iload_n 1, 1) := by decide +kernel
theorem dX4_set_48 : decode cX4_set 48 = .ok (.iload_n 3, 1) := by decide +kernel
theorem dX4_set_49 : decode cX4_set 49 = .ok (.iastore, 1) := by decide +kernel
theorem dX4_set_50 : decode cX4_set 50 = .ok (.iload 4, 2) := by decide +kernel
theorem dX4_set_52 : decode cX4_set 52 = .ok (.ireturn, 1) := by decide +kernel
theorem dX4_set_53 : decode cX4_set 53 = .ok (.iload_n 2, 1) := by decide +kernel
theorem dX4_set_54 : decode cX4_set 54 = .ok (.iconst 2, 1) := by decide +kernel
theorem dX4_set_55 : decode cX4_set 55 = .ok (.if_icmp .ne 37, 3) := by decide +kernel
theorem dX4_set_58 : decode cX4_set 58 = .ok (.iload_n 3, 1) := by decide +kernel
theorem dX4_set_59 : decode cX4_set 59 = .ok (.sipush 4095, 3) := by decide +kernel
theorem dX4_set_62 : decode cX4_set 62 = .ok (.invokestatic 77, 3) := by decide +kernel
theorem dX4_set_65 : decode cX4_set 65 = .ok (.ifCond .eq 27, 3) := by decide +kernel
theorem dX4_set_68 : decode cX4_set 68 = .ok (.aload_n 0, 1) := by decide +kernel
theorem dX4_set_69 : decode cX4_set 69 = .ok (.getfield 12, 3) := by decide +kernel
theorem dX4_set_72 : decode cX4_set 72 = .ok (.getfield 110, 3) := by decide +kernel
theorem dX4_set_75 : decode cX4_set 75 = .ok (.iload_n 1, 1) := by decide +kernel
theorem dX4_set_76 : decode cX4_set 76 = .ok (.iaload, 1) := by decide +kernel
theorem dX4_set_77 : decode cX4_set 77 = .ok (.istore 4, 2) := by decide +kernel
theorem dX4_set_79 : decode cX4_set 79 = .ok (.aload_n 0, 1) := by decide +kernel
theorem dX4_set_80 : decode cX4_set 80 = .ok (.getfield 12, 3) := by decide +kernel
theorem dX4_set_83 : decode cX4_set 83 = .ok (.getfield 110, 3) := by decide +kernel
theorem dX4_set_86 : decode cX4_set 86 = .ok (.iload_n 1, 1) := by decide +kernel
theorem dX4_set_87 : decode cX4_set 87 = .ok (.iload_n 3, 1) := by decide +kernel
theorem dX4_set_88 : decode cX4_set 88 = .ok (.iastore, 1) := by decide +kernel
theorem dX4_set_89 : decode cX4_set 89 = .ok (.iload 4, 2) := by decide +kernel
theorem dX4_set_91 : decode cX4_set 91 = .ok (.ireturn, 1) := by decide +kernel
theorem dX4_set_92 : decode cX4_set 92 = .ok (.iload_n 2, 1) := by decide +kernel
theorem dX4_set_93 : decode cX4_set 93 = .ok (.iconst 3, 1) := by decide +kernel
theorem dX4_set_94 : decode cX4_set 94 = .ok (.if_icmp .ne 51, 3) := by decide +kernel
theorem dX4_set_97 : decode cX4_set 97 = .ok (.iload_n 3, 1) := by decide +kernel
theorem dX4_set_98 : decode cX4_set 98 = .ok (.invokestatic 55, 3) := by decide +kernel
theorem dX4_set_101 : decode cX4_set 101 = .ok (.ifCond .eq 44, 3) := by decide +kernel
theorem dX4_set_104 : decode cX4_set 104 = .ok (.aload_n 0, 1) := by decide +kernel
theorem dX4_set_105 : decode cX4_set 105 = .ok (.getfield 12, 3) := by decide +kernel
theorem dX4_set_108 : decode cX4_set 108 = .ok (.getfield 113, 3) := by decide +kernel
theorem dX4_set_111 : decode cX4_set 111 = .ok (.iload_n 1, 1) := by decide +kernel
theorem dX4_set_112 : decode cX4_set 112 = .ok (.baload, 1) := by decide +kernel
theorem dX4_set_113 : decode cX4_set 113 = .ok (.ifCond .eq 7, 3) := by decide +kernel
theorem dX4_set_116 : decode cX4_set 116 = .ok (.iconst 1, 1) := by decide +kernel
theorem dX4_set_117 : decode cX4_set 117 = .ok (.goto 4, 3) := by decide +kernel
theorem dX4_set_120 : decode cX4_set 120 = .ok (.iconst 0, 1) := by decide +kernel
theorem dX4_set_121 : decode cX4_set 121 = .ok (.istore 4, 2) := by decide +kernel
theorem dX4_set_123 : decode cX4_set 123 = .ok (.aload_n 0, 1) := by decide +kernel
theorem dX4_set_124 : decode cX4_set 124 = .ok (.getfield 12, 3) := by decide +kernel
theorem dX4_set_127 : decode cX4_set 127 = .ok (.getfield 113, 3) := by decide +kernel
theorem dX4_set_130 : decode cX4_set 130 = .ok (.iload_n 1, 1) := by decide +kernel
theorem dX4_set_131 : decode cX4_set 131 = .ok (.iload_n 3, 1) := by decide +kernel
theorem dX4_set_132 : decode cX4_set 132 = .ok (.iconst 1, 1) := by decide +kernel
theorem dX4_set_133 : decode cX4_set 133 = .ok (.if_icmp .ne 7, 3) := by decide +kernel
theorem dX4_set_136 : decode cX4_set 136 = .ok (.iconst 1, 1) := by decide +kernel
theorem dX4_set_137 : decode cX4_set 137 = .ok (.goto 4, 3) := by decide +kernel
theorem dX4_set_140 : decode cX4_set 140 = .ok (.iconst 0, 1) := by decide +kernel
theorem dX4_set_141 : decode cX4_set 141 = .ok (.bastore, 1) := by decide +kernel
theorem dX4_set_142 : decode cX4_set 142 = .ok (.iload 4, 2) := by decide +kernel
theorem dX4_set_144 : decode cX4_set 144 = .ok (.ireturn, 1) := by decide +kernel
theorem dX4_set_145 : decode cX4_set 145 = .ok (.aload_n 0, 1) := by decide +kernel
theorem dX4_set_146 : decode cX4_set 146 = .ok (.iconst 0, 1) := by decide +kernel
theorem dX4_set_147 : decode cX4_set 147 = .ok (.invokevirtual 58, 3) := by decide +kernel
theorem dX4_set_150 : decode cX4_set 150 = .ok (.ireturn, 1) := by decide +kernel
def finX4_set (N : Ml) : Int32 × Mi → Option Value × Mi × Ml := fun b => (some (Value.int b.1), b.2, N)
noncomputable def fX4_set_145   (M : Mi) : Option (Int32 × Mi) := (Option.bind (fX4_finding M 0) (fun a5 => (some (a5.1, (a5.2)))))
theorem bX4_set_145 {Z : Zt} {E : Ec} {N : Ml} (C : Ok 1 Z E cX4_set 5 RX4 (some .int) 2)    (M : Mi)  : GT Z E 5 (finX4_set N) 145 [(0, .ref (zA Z 8 0))] [] M N (fX4_set_145 M) := by
  unfold fX4_set_145
  refine r_aload_n C dX4_set_145 0 0 rfl rfl ?_
  refine r_iconst (v := 0) C dX4_set_146 (by decide) ?_
  refine r_bind (fun a5 ha5 => ?_)
  refine r_callV (rest := []) (st2 := [.int a5.1]) C (mX4_finding (eL E) C.z M N 0 a5 ha5) lk_X4_58 (rvX C) (by decide) rfl rfl (Nat.le_of_ble_eq_true rfl) dX4_set_147 rfl ?_
  exact r_iret C dX4_set_150 rfl
noncomputable def fX4_set_121   (M : Mi) (x1 : Int32) (x3 : Int32) (s0 : Int32) : Option (Int32 × Mi) := (if inb x1 8 then (some (s0, (wM M 0 (10 + 4 * ix x1) (zn (if x3 = 1 then 1 else 0 : Int32))))) else none)
theorem bX4_set_121 {Z : Zt} {E : Ec} {N : Ml} (C : Ok 1 Z E cX4_set 5 RX4 (some .int) 2)    (M : Mi) (x1 : Int32) (x3 : Int32) (s0 : Int32)  : GT Z E 5 (finX4_set N) 121 [(0, .ref (zA Z 8 0)), (1, .int x1), (3, .int x3)] [.int s0] M N (fX4_set_121 M x1 x3 s0) := by
  unfold fX4_set_121
  refine r_istore (lv' := [(4, .int s0), (0, .ref (zA Z 8 0)), (1, .int x1), (3, .int x3)]) C dX4_set_121 (by decide) rfl ?_
  refine r_aload_n C dX4_set_123 0 1 rfl rfl ?_
  refine gf_X4_12 C dX4_set_124 ?_
  refine gf_X4_113 C (by decide) dX4_set_127 ?_
  refine r_iload_n C dX4_set_130 1 2 rfl rfl ?_
  refine r_iload_n C dX4_set_131 3 3 rfl rfl ?_
  refine r_iconst (v := 1) C dX4_set_132 (by decide) ?_
  refine r_sel (tj := 141) (sj := [.int (if x3 = 1 then 1 else 0 : Int32), .int x1, .ref (zA Z 0 5)]) ?_ (fun k11 => ?_)
  · refine r_guard (fun h12 => ?_)
    refine ast_I5 (M' := (wM M 0 (10 + 4 * ix x1) (zn (if x3 = 1 then 1 else 0 : Int32)))) C (by decide) h12 rfl dX4_set_141 ?_
    refine r_iload C dX4_set_142 0 rfl ?_
    exact r_iret C dX4_set_144 rfl
  · refine r_same (P := x3 = 1) ?_
    refine r_ic_ne (tgt := 140) C dX4_set_133 (by decide) (fun c10 => ?_) (fun c10 => ?_)
    · refine r_iconst (v := 0) C dX4_set_140 (by decide) ?_
      exact r_stk (if_neg c10) k11
    · refine r_iconst (v := 1) C dX4_set_136 (by decide) ?_
      refine r_goto (tgt := 141) C dX4_set_137 (by decide) ?_
      exact r_stk (if_pos c10) k11
noncomputable def fX4_set_92   (M : Mi) (x1 : Int32) (x2 : Int32) (x3 : Int32) : Option (Int32 × Mi) := (if x2 = 3 then (if (fX4_isFlag x3) = 0 then (fX4_set_145 M) else (if inb x1 8 then (fX4_set_121 M x1 x3 (if (M 0 (10 + 4 * ix x1)) = 0 then 0 else 1 : Int32)) else none)) else (fX4_set_145 M))
theorem bX4_set_92 {Z : Zt} {E : Ec} {N : Ml} (C : Ok 1 Z E cX4_set 5 RX4 (some .int) 2)    (M : Mi) (x1 : Int32) (x2 : Int32) (x3 : Int32)  : GT Z E 5 (finX4_set N) 92 [(0, .ref (zA Z 8 0)), (1, .int x1), (2, .int x2), (3, .int x3)] [] M N (fX4_set_92 M x1 x2 x3) := by
  unfold fX4_set_92
  refine r_iload_n C dX4_set_92 2 2 rfl rfl ?_
  refine r_iconst (v := 3) C dX4_set_93 (by decide) ?_
  refine r_ic_ne (tgt := 145) C dX4_set_94 (by decide) (fun c4 => ?_) (fun c4 => ?_)
  · refine r_lv [0] (lv' := [(0, .ref (zA Z 8 0))]) rfl ?_
    exact bX4_set_145 C M
  · refine r_iload_n C dX4_set_97 3 3 rfl rfl ?_
    refine r_callS (rest := []) (st2 := [.int (fX4_isFlag x3)]) C (mX4_isFlag (eL E) C.z _ _ x3) lk_X4_55 (by decide) rfl rfl (Nat.le_of_ble_eq_true rfl) dX4_set_98 rfl ?_
    refine r_if_eq (tgt := 145) C dX4_set_101 (by decide) (fun c6 => ?_) (fun c6 => ?_)
    · refine r_lv [0] (lv' := [(0, .ref (zA Z 8 0))]) rfl ?_
      exact bX4_set_145 C M
    · refine r_aload_n C dX4_set_104 0 0 rfl rfl ?_
      refine gf_X4_12 C dX4_set_105 ?_
      refine gf_X4_113 C (by decide) dX4_set_108 ?_
      refine r_iload_n C dX4_set_111 1 1 rfl rfl ?_
      refine r_guard (fun h7 => ?_)
      refine ald_I5 (v := (M 0 (10 + 4 * ix x1))) C (by decide) h7 rfl dX4_set_112 ?_
      refine r_sel (tj := 121) (sj := [.int (if (M 0 (10 + 4 * ix x1)) = 0 then 0 else 1 : Int32)]) ?_ (fun k9 => ?_)
      · refine r_lv [0, 1, 3] (lv' := [(0, .ref (zA Z 8 0)), (1, .int x1), (3, .int x3)]) rfl ?_
        exact bX4_set_121 C M x1 x3 (if (M 0 (10 + 4 * ix x1)) = 0 then 0 else 1 : Int32)
      · refine r_same (P := (M 0 (10 + 4 * ix x1)) = 0) ?_
        refine r_if_eq (tgt := 120) C dX4_set_113 (by decide) (fun c8 => ?_) (fun c8 => ?_)
        · refine r_iconst (v := 0) C dX4_set_120 (by decide) ?_
          exact r_stk (if_pos c8) k9
        · refine r_iconst (v := 1) C dX4_set_116 (by decide) ?_
          refine r_goto (tgt := 121) C dX4_set_117 (by decide) ?_
          exact r_stk (if_neg c8) k9
noncomputable def fX4_set_53   (M : Mi) (x1 : Int32) (x2 : Int32) (x3 : Int32) : Option (Int32 × Mi) := (if x2 = 2 then (if (fX4_isSetOf x3 4095) = 0 then (fX4_set_92 M x1 x2 x3) else (if inb x1 8 then (some ((M 0 (9 + 4 * ix x1)), (wM M 0 (9 + 4 * ix x1) x3))) else none)) else (fX4_set_92 M x1 x2 x3))
theorem bX4_set_53 {Z : Zt} {E : Ec} {N : Ml} (C : Ok 1 Z E cX4_set 5 RX4 (some .int) 2)    (M : Mi) (x1 : Int32) (x2 : Int32) (x3 : Int32)  : GT Z E 5 (finX4_set N) 53 [(0, .ref (zA Z 8 0)), (1, .int x1), (2, .int x2), (3, .int x3)] [] M N (fX4_set_53 M x1 x2 x3) := by
  unfold fX4_set_53
  refine r_iload_n C dX4_set_53 2 2 rfl rfl ?_
  refine r_iconst (v := 2) C dX4_set_54 (by decide) ?_
  refine r_ic_ne (tgt := 92) C dX4_set_55 (by decide) (fun c3 => ?_) (fun c3 => ?_)
  · exact bX4_set_92 C M x1 x2 x3
  · refine r_iload_n C dX4_set_58 3 3 rfl rfl ?_
    refine r_sipush (v := 4095) C dX4_set_59 (by decide) ?_
    refine r_callS (rest := []) (st2 := [.int (fX4_isSetOf x3 4095)]) C (mX4_isSetOf (eL E) C.z _ _ x3 4095) lk_X4_77 (by decide) rfl rfl (Nat.le_of_ble_eq_true rfl) dX4_set_62 rfl ?_
    refine r_if_eq (tgt := 92) C dX4_set_65 (by decide) (fun c13 => ?_) (fun c13 => ?_)
    · exact bX4_set_92 C M x1 x2 x3
    · refine r_aload_n C dX4_set_68 0 0 rfl rfl ?_
      refine gf_X4_12 C dX4_set_69 ?_
      refine gf_X4_110 C (by decide) dX4_set_72 ?_
      refine r_iload_n C dX4_set_75 1 1 rfl rfl ?_
      refine r_guard (fun h14 => ?_)
      refine ald_I4 (v := (M 0 (9 + 4 * ix x1))) C (by decide) h14 rfl dX4_set_76 ?_
      refine r_istore (lv' := [(4, .int (M 0 (9 + 4 * ix x1))), (0, .ref (zA Z 8 0)), (1, .int x1), (2, .int x2), (3, .int x3)]) C dX4_set_77 (by decide) rfl ?_
      refine r_aload_n C dX4_set_79 0 1 rfl rfl ?_
      refine gf_X4_12 C dX4_set_80 ?_
      refine gf_X4_110 C (by decide) dX4_set_83 ?_
      refine r_iload_n C dX4_set_86 1 2 rfl rfl ?_
      refine r_iload_n C dX4_set_87 3 4 rfl rfl ?_
      refine ast_I4 (M' := (wM M 0 (9 + 4 * ix x1) x3)) C (by decide) h14 rfl dX4_set_88 ?_
      refine r_iload C dX4_set_89 0 rfl ?_
      exact r_iret C dX4_set_91 rfl
noncomputable def fX4_set   (M : Mi) (x1 : Int32) (x2 : Int32) (x3 : Int32) : Option (Int32 × Mi) := (if (fX0_has (M 0) x1) = 0 then (Option.bind (fX4_finding M 0) (fun a17 => (some (a17.1, (a17.2))))) else (if x2 = 1 then (if (fX4_isCell x3) = 0 then (fX4_set_53 M x1 x2 x3) else (if inb x1 8 then (some ((M 0 (8 + 4 * ix x1)), (wM M 0 (8 + 4 * ix x1) x3))) else none)) else (fX4_set_53 M x1 x2 x3)))
theorem bX4_set {Z : Zt} {E : Ec} {N : Ml} (C : Ok 1 Z E cX4_set 5 RX4 (some .int) 2)    (M : Mi) (x1 : Int32) (x2 : Int32) (x3 : Int32)  : GT Z E 5 (finX4_set N) 0 [(0, .ref (zA Z 8 0)), (1, .int x1), (2, .int x2), (3, .int x3)] [] M N (fX4_set M x1 x2 x3) := by
  unfold fX4_set
  refine r_aload_n C dX4_set_0 0 0 rfl rfl ?_
  refine gf_X4_12 C dX4_set_1 ?_
  refine r_iload_n C dX4_set_4 1 1 rfl rfl ?_
  refine r_callV (rest := []) (st2 := [.int (fX0_has (M 0) x1)]) C (mX0_has (eL E) C.z (by decide) M _ (M 0) x1).selfR lk_X4_101 (rvI C (by decide)) (by decide) rfl rfl (Nat.le_of_ble_eq_true rfl) dX4_set_5 rfl ?_
  refine r_if_ne (tgt := 17) C dX4_set_8 (by decide) (fun c1 => ?_) (fun c1 => ?_)
  · refine r_iload_n C dX4_set_17 2 2 rfl rfl ?_
    refine r_iconst (v := 1) C dX4_set_18 (by decide) ?_
    refine r_ic_ne (tgt := 53) C dX4_set_19 (by decide) (fun c2 => ?_) (fun c2 => ?_)
    · exact bX4_set_53 C M x1 x2 x3
    · refine r_iload_n C dX4_set_22 3 3 rfl rfl ?_
      refine r_callS (rest := []) (st2 := [.int (fX4_isCell x3)]) C (mX4_isCell (eL E) C.z _ _ x3) lk_X4_51 (by decide) rfl rfl (Nat.le_of_ble_eq_true rfl) dX4_set_23 rfl ?_
      refine r_if_eq (tgt := 53) C dX4_set_26 (by decide) (fun c15 => ?_) (fun c15 => ?_)
      · exact bX4_set_53 C M x1 x2 x3
      · refine r_aload_n C dX4_set_29 0 0 rfl rfl ?_
        refine gf_X4_12 C dX4_set_30 ?_
        refine gf_X4_107 C (by decide) dX4_set_33 ?_
        refine r_iload_n C dX4_set_36 1 1 rfl rfl ?_
        refine r_guard (fun h16 => ?_)
        refine ald_I3 (v := (M 0 (8 + 4 * ix x1))) C (by decide) h16 rfl dX4_set_37 ?_
        refine r_istore (lv' := [(4, .int (M 0 (8 + 4 * ix x1))), (0, .ref (zA Z 8 0)), (1, .int x1), (2, .int x2), (3, .int x3)]) C dX4_set_38 (by decide) rfl ?_
        refine r_aload_n C dX4_set_40 0 1 rfl rfl ?_
        refine gf_X4_12 C dX4_set_41 ?_
        refine gf_X4_107 C (by decide) dX4_set_44 ?_
        refine r_iload_n C dX4_set_47 1 2 rfl rfl ?_
        refine r_iload_n C dX4_set_48 3 4 rfl rfl ?_
        refine ast_I3 (M' := (wM M 0 (8 + 4 * ix x1) x3)) C (by decide) h16 rfl dX4_set_49 ?_
        refine r_iload C dX4_set_50 0 rfl ?_
        exact r_iret C dX4_set_52 rfl
  · refine r_aload_n C dX4_set_11 0 0 rfl rfl ?_
    refine r_iconst (v := 0) C dX4_set_12 (by decide) ?_
    refine r_bind (fun a17 ha17 => ?_)
    refine r_callV (rest := []) (st2 := [.int a17.1]) C (mX4_finding (eL E) C.z M N 0 a17 ha17) lk_X4_58 (rvX C) (by decide) rfl rfl (Nat.le_of_ble_eq_true rfl) dX4_set_13 rfl ?_
    exact r_iret C dX4_set_16 rfl
theorem mX4_set (l : Launch) {Z : Zt} (hZ : Zok 1 Z) (M : Mi) (N : Ml) (x1 : Int32) (x2 : Int32) (x3 : Int32) (b : Int32 × Mi) (hb : fX4_set M x1 x2 x3 = some b) : Ct 1 Z l yX4_set cX4_set 5 (some .int) 2 [.ref (zA Z 8 0), .int x1, .int x2, .int x3] M N (some (Value.int b.1), b.2, N) :=
  metG (fin := (finX4_set N)) (by decide) (Nat.le_of_ble_eq_true rfl) (fun E _ C => bX4_set C M x1 x2 x3) hb
