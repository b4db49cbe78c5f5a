theorem dX4_turn_0 : decode cX4_turn 0 = .ok (.aload_n 0, 1) := by decide +kernel
theorem dX4_turn_1 : decode cX4_turn 1 = .ok (.getfield 12, 3) := by decide +kernel
theorem dX4_turn_4 : decode cX4_turn 4 = .ok (.iload_n 1, 1) := by decide +kernel
theorem dX4_turn_5 : decode cX4_turn 5 = .ok (.invokevirtual 101, 3) := by decide +kernel
theorem dX4_turn_8 : decode cX4_turn 8 = .ok (.ifCond .eq 10, 3) := by decide +kernel
theorem dX4_turn_11 : decode cX4_turn 11 = .ok (.iload_n 2, 1) := by decide +kernel
theorem dX4_turn_12 : decode cX4_turn 12 = .ok (.invokestatic 90, 3) := by decide +kernel
theorem dX4_turn_15 : decode cX4_turn 15 = .ok (.ifCond .ne 9, 3) := by decide +kernel
theorem dX4_turn_18 : decode cX4_turn 18 = .ok (.aload_n 0, 1) := by decide +kernel
theorem dX4_turn_19 : decode cX4_turn 19 = .ok (.iconst 0, 1) := by decide +kernel
theorem dX4_turn_20 : decode cX4_turn 20 = .ok (.invokevirtual 58, 3) := by decide +kernel
theorem dX4_turn_23 : decode cX4_turn 23 = .ok (.ireturn, 1) := by decide +kernel
theorem dX4_turn_24 : decode cX4_turn 24 = .ok (.aload_n 0, 1) := by decide +kernel
theorem dX4_turn_25 : decode cX4_turn 25 = .ok (.getfield 12, 3) := by decide +kernel
theorem dX4_turn_28 : decode cX4_turn 28 = .ok (.getfield 104, 3) := by decide +kernel
theorem dX4_turn_31 : decode cX4_turn 31 = .ok (.iload_n 1, 1) := by decide +kernel
theorem dX4_turn_32 : decode cX4_turn 32 = .ok (.iaload, 1) := by decide +kernel
theorem dX4_turn_33 : decode cX4_turn 33 = .ok (.istore_n 3, 1) := by decide +kernel
theorem dX4_turn_34 : decode cX4_turn 34 = .ok (.aload_n 0, 1) := by decide +kernel
theorem dX4_turn_35 : decode cX4_turn 35 = .ok (.getfield 12, 3) := by decide +kernel
theorem dX4_turn_38 : decode cX4_turn 38 = .ok (.getfield 104, 3) := by decide +kernel
theorem dX4_turn_41 : decode cX4_turn 41 = .ok (.iload_n 1, 1) := by decide +kernel
theorem dX4_turn_42 : decode cX4_turn 42 = .ok (.iload_n 2, 1) := by decide +kernel
theorem dX4_turn_43 : decode cX4_turn 43 = .ok (.iastore, 1) := by decide +kernel
theorem dX4_turn_44 : decode cX4_turn 44 = .ok (.iload_n 3, 1) := by decide +kernel
theorem dX4_turn_45 : decode cX4_turn 45 = .ok (.ireturn, 1) := by decide +kernel
def finX4_turn (N : Ml) : Int32 × Mi → Option Value × Mi × Ml := fun b => (some (Value.int b.1), b.2, N)
noncomputable def fX4_turn_18   (M : Mi) : Option (Int32 × Mi) := (Option.bind (fX4_finding M 0) (fun a2 => (some (a2.1, (a2.2)))))
theorem bX4_turn_18 {Z : Zt} {E : Ec} {N : Ml} (C : Ok 1 Z E cX4_turn 4 RX4 (some .int) 2)    (M : Mi)  : GT Z E 4 (finX4_turn N) 18 [(0, .ref (zA Z 8 0))] [] M N (fX4_turn_18 M) := by
  unfold fX4_turn_18
  refine r_aload_n C dX4_turn_18 0 0 rfl rfl ?_
  refine r_iconst (v := 0) C dX4_turn_19 (by decide) ?_
  refine r_bind (fun a2 ha2 => ?_)
  refine r_callV (rest := []) (st2 := [.int a2.1]) C (mX4_finding (eL E) C.z M N 0 a2 ha2) lk_X4_58 (rvX C) (by decide) rfl rfl (Nat.le_of_ble_eq_true rfl) dX4_turn_20 rfl ?_
  exact r_iret C dX4_turn_23 rfl
noncomputable def fX4_turn   (M : Mi) (x1 : Int32) (x2 : Int32) : Option (Int32 × Mi) := (if (fX0_has (M 0) x1) = 0 then (fX4_turn_18 M) else (if (fX4_isKind x2) = 0 then (fX4_turn_18 M) else (if inb x1 8 then (some ((M 0 (7 + 4 * ix x1)), (wM M 0 (7 + 4 * ix x1) x2))) else none)))
theorem bX4_turn {Z : Zt} {E : Ec} {N : Ml} (C : Ok 1 Z E cX4_turn 4 RX4 (some .int) 2)    (M : Mi) (x1 : Int32) (x2 : Int32)  : GT Z E 4 (finX4_turn N) 0 [(0, .ref (zA Z 8 0)), (1, .int x1), (2, .int x2)] [] M N (fX4_turn M x1 x2) := by
  unfold fX4_turn
  refine r_aload_n C dX4_turn_0 0 0 rfl rfl ?_
  refine gf_X4_12 C dX4_turn_1 ?_
  refine r_iload_n C dX4_turn_4 1 1 rfl rfl ?_
  refine r_callV (rest := []) (st2 := [.int (fX0_has (M 0) x1)]) C (mX0_has (eL E) C.z (by decide) M _ (M 0) x1).selfR lk_X4_101 (rvI C (by decide)) (by decide) rfl rfl (Nat.le_of_ble_eq_true rfl) dX4_turn_5 rfl ?_
  refine r_if_eq (tgt := 18) C dX4_turn_8 (by decide) (fun c1 => ?_) (fun c1 => ?_)
  · refine r_lv [0] (lv' := [(0, .ref (zA Z 8 0))]) rfl ?_
    exact bX4_turn_18 C M
  · refine r_iload_n C dX4_turn_11 2 2 rfl rfl ?_
    refine r_callS (rest := []) (st2 := [.int (fX4_isKind x2)]) C (mX4_isKind (eL E) C.z _ _ x2) lk_X4_90 (by decide) rfl rfl (Nat.le_of_ble_eq_true rfl) dX4_turn_12 rfl ?_
    refine r_if_ne (tgt := 24) C dX4_turn_15 (by decide) (fun c3 => ?_) (fun c3 => ?_)
    · refine r_aload_n C dX4_turn_24 0 0 rfl rfl ?_
      refine gf_X4_12 C dX4_turn_25 ?_
      refine gf_X4_104 C (by decide) dX4_turn_28 ?_
      refine r_iload_n C dX4_turn_31 1 1 rfl rfl ?_
      refine r_guard (fun h4 => ?_)
      refine ald_I2 (v := (M 0 (7 + 4 * ix x1))) C (by decide) h4 rfl dX4_turn_32 ?_
      refine r_istore_n (lv' := [(3, .int (M 0 (7 + 4 * ix x1))), (0, .ref (zA Z 8 0)), (1, .int x1), (2, .int x2)]) C dX4_turn_33 3 rfl (by decide) rfl ?_
      refine r_aload_n C dX4_turn_34 0 1 rfl rfl ?_
      refine gf_X4_12 C dX4_turn_35 ?_
      refine gf_X4_104 C (by decide) dX4_turn_38 ?_
      refine r_iload_n C dX4_turn_41 1 2 rfl rfl ?_
      refine r_iload_n C dX4_turn_42 2 3 rfl rfl ?_
      refine ast_I2 (M' := (wM M 0 (7 + 4 * ix x1) x2)) C (by decide) h4 rfl dX4_turn_43 ?_
      refine r_iload_n C dX4_turn_44 3 0 rfl rfl ?_
      exact r_iret C dX4_turn_45 rfl
    · refine r_lv [0] (lv' := [(0, .ref (zA Z 8 0))]) rfl ?_
      exact bX4_turn_18 C M
theorem mX4_turn (l : Launch) {Z : Zt} (hZ : Zok 1 Z) (M : Mi) (N : Ml) (x1 : Int32) (x2 : Int32) (b : Int32 × Mi) (hb : fX4_turn M x1 x2 = some b) : Ct 1 Z l yX4_turn cX4_turn 4 (some .int) 2 [.ref (zA Z 8 0), .int x1, .int x2] M N (some (Value.int b.1), b.2, N) :=
  metG (fin := (finX4_turn N)) (by decide) (Nat.le_of_ble_eq_true rfl) (fun E _ C => bX4_turn C M x1 x2) hb
theorem dX4_isUnder_0 : decode cX4_isUnder 0 = .ok (.iload_n 0, 1) := by decide +kernel
theorem dX4_isUnder_1 : decode cX4_isUnder 1 = .ok (.istore_n 2, 1) := by decide +kernel
theorem dX4_isUnder_2 : decode cX4_isUnder 2 = .ok (.iconst 0, 1) := by decide +kernel
theorem dX4_isUnder_3 : decode cX4_isUnder 3 = .ok (.istore_n 3, 1) := by decide +kernel
theorem dX4_isUnder_4 : decode cX4_isUnder 4 = .ok (.iload_n 3, 1) := by decide +kernel
theorem dX4_isUnder_5 : decode cX4_isUnder 5 = .ok (.bipush 6, 2) := by decide +kernel
theorem dX4_isUnder_7 : decode cX4_isUnder 7 = .ok (.if_icmp .ge 27, 3) := by decide +kernel
theorem dX4_isUnder_10 : decode cX4_isUnder 10 = .ok (.iload_n 2, 1) := by decide +kernel
theorem dX4_isUnder_11 : decode cX4_isUnder 11 = .ok (.iconst (-1), 1) := by decide +kernel
theorem dX4_isUnder_12 : decode cX4_isUnder 12 = .ok (.if_icmp .eq 22, 3) := by decide +kernel
theorem dX4_isUnder_15 : decode cX4_isUnder 15 = .ok (.iload_n 2, 1) := by decide +kernel
theorem dX4_isUnder_16 : decode cX4_isUnder 16 = .ok (.iload_n 1, 1) := by decide +kernel
theorem dX4_isUnder_17 : decode cX4_isUnder 17 = .ok (.if_icmp .ne 5, 3) := by decide +kernel
theorem dX4_isUnder_20 : decode cX4_isUnder 20 = .ok (.iconst 1, 1) := by decide +kernel
theorem dX4_isUnder_21 : decode cX4_isUnder 21 = .ok (.ireturn, 1) := by decide +kernel
theorem dX4_isUnder_22 : decode cX4_isUnder 22 = .ok (.getstatic 287, 3) := by decide +kernel
theorem dX4_isUnder_25 : decode cX4_isUnder 25 = .ok (.iload_n 2, 1) := by decide +kernel
theorem dX4_isUnder_26 : decode cX4_isUnder 26 = .ok (.iaload, 1) := by decide +kernel
theorem dX4_isUnder_27 : decode cX4_isUnder 27 = .ok (.istore_n 2, 1) := by decide +kernel
theorem dX4_isUnder_28 : decode cX4_isUnder 28 = .ok (.iinc 3 1, 3) := by decide +kernel
theorem dX4_isUnder_31 : decode cX4_isUnder 31 = .ok (.goto (-27), 3) := by decide +kernel
theorem dX4_isUnder_34 : decode cX4_isUnder 34 = .ok (.iconst 0, 1) := by decide +kernel
theorem dX4_isUnder_35 : decode cX4_isUnder 35 = .ok (.ireturn, 1) := by decide +kernel
def finX4_isUnder (M : Mi) (N : Ml) : Int32 → Option Value × Mi × Ml := fun b => (some (Value.int b), M, N)
noncomputable def fX4_isUnder_4 (M : Mi)  : Nat → Int32 → Int32 → Int32 → Option (Int32)
  | 0 => fun _ _ _ => none
  | n + 1 => fun x1 x2 x3 => (if 6 ≤ x3 then (some 0) else (if x2 = (-1) then (some 0) else (if x2 = x1 then (some 1) else (if inb x2 6 then ((fX4_isUnder_4 M n) x1 (kab (ix x2)) (x3 + 1)) else none))))
theorem bX4_isUnder_4 {Z : Zt} {E : Ec} {M : Mi} {N : Ml} (C : Ok 1 Z E cX4_isUnder 4 RX4 (some .boolean) 0)    : ∀ (n : Nat) (x1 : Int32) (x2 : Int32) (x3 : Int32), GT Z E 4 (finX4_isUnder M N) 4 [(1, .int x1), (2, .int x2), (3, .int x3)] [] M N (fX4_isUnder_4 M n x1 x2 x3) := by
  intro n
  induction n with
  | zero => intro x1 x2 x3; exact r_none
  | succ n ih =>
    intro x1 x2 x3
    rw [fX4_isUnder_4]
    refine r_iload_n C dX4_isUnder_4 3 2 rfl rfl ?_
    refine r_bipush (v := 6) C dX4_isUnder_5 (by decide) ?_
    refine r_ic_ge (tgt := 34) C dX4_isUnder_7 (by decide) (fun c1 => ?_) (fun c1 => ?_)
    · refine r_iconst (v := 0) C dX4_isUnder_34 (by decide) ?_
      exact r_zret C dX4_isUnder_35 (Or.inl rfl) rfl
    · refine r_iload_n C dX4_isUnder_10 2 1 rfl rfl ?_
      refine r_iconst (v := (-1)) C dX4_isUnder_11 (by decide) ?_
      refine r_ic_eq (tgt := 34) C dX4_isUnder_12 (by decide) (fun c2 => ?_) (fun c2 => ?_)
      · refine r_iconst (v := 0) C dX4_isUnder_34 (by decide) ?_
        exact r_zret C dX4_isUnder_35 (Or.inl rfl) rfl
      · refine r_iload_n C dX4_isUnder_15 2 1 rfl rfl ?_
        refine r_iload_n C dX4_isUnder_16 1 0 rfl rfl ?_
        refine r_ic_ne (tgt := 22) C dX4_isUnder_17 (by decide) (fun c3 => ?_) (fun c3 => ?_)
        · refine r_kab C dX4_isUnder_22 ?_
          refine r_iload_n C dX4_isUnder_25 2 1 rfl rfl ?_
          refine r_guard (fun h4 => ?_)
          refine ald_K (v := (kab (ix x2))) C h4 rfl dX4_isUnder_26 ?_
          refine r_istore_n (lv' := [(2, .int (kab (ix x2))), (1, .int x1), (3, .int x3)]) C dX4_isUnder_27 2 rfl (by decide) rfl ?_
          refine r_iinc (v := (x3 + 1)) (lv' := [(3, .int (x3 + 1)), (2, .int (kab (ix x2))), (1, .int x1)]) C dX4_isUnder_28 2 rfl rfl (by decide) rfl ?_
          refine r_goto (tgt := 4) C dX4_isUnder_31 (by decide) ?_
          refine r_lv [2, 1, 0] (lv' := [(1, .int x1), (2, .int (kab (ix x2))), (3, .int (x3 + 1))]) rfl ?_
          exact ih x1 (kab (ix x2)) (x3 + 1)
        · refine r_iconst (v := 1) C dX4_isUnder_20 (by decide) ?_
          exact r_zret C dX4_isUnder_21 (Or.inr rfl) rfl
noncomputable def fX4_isUnder (M : Mi)  (x0 : Int32) (x1 : Int32) : Option (Int32) := (fX4_isUnder_4 M fu x1 x0 0)
theorem bX4_isUnder {Z : Zt} {E : Ec} {M : Mi} {N : Ml} (C : Ok 1 Z E cX4_isUnder 4 RX4 (some .boolean) 0)    (x0 : Int32) (x1 : Int32)  : GT Z E 4 (finX4_isUnder M N) 0 [(0, .int x0), (1, .int x1)] [] M N (fX4_isUnder M x0 x1) := by
  unfold fX4_isUnder
  refine r_iload_n C dX4_isUnder_0 0 0 rfl rfl ?_
  refine r_istore_n (lv' := [(2, .int x0), (0, .int x0), (1, .int x1)]) C dX4_isUnder_1 2 rfl (by decide) rfl ?_
  refine r_iconst (v := 0) C dX4_isUnder_2 (by decide) ?_
  refine r_istore_n (lv' := [(3, .int 0), (2, .int x0), (0, .int x0), (1, .int x1)]) C dX4_isUnder_3 3 rfl (by decide) rfl ?_
  refine r_lv [3, 1, 0] (lv' := [(1, .int x1), (2, .int x0), (3, .int 0)]) rfl ?_
  exact bX4_isUnder_4 C fu x1 x0 0
theorem mX4_isUnder (l : Launch) {Z : Zt} (hZ : Zok 1 Z) (M : Mi) (N : Ml) (x0 : Int32) (x1 : Int32) (b : Int32) (hb : fX4_isUnder M x0 x1 = some b) : Ct 1 Z l yX4_isUnder cX4_isUnder 4 (some .boolean) 0 [.int x0, .int x1] M N (some (Value.int b), M, N) :=
  metG (fin := (finX4_isUnder M N)) (by decide) (Nat.le_of_ble_eq_true rfl) (fun E _ C => bX4_isUnder C x0 x1) hb
theorem dX4_as_0 : decode cX4_as 0 = .ok (.aload_n 0, 1) := by decide +kernel
theorem dX4_as_1 : decode cX4_as 1 = .ok (.getfield 12, 3) := by decide +kernel
theorem dX4_as_4 : decode cX4_as 4 = .ok (.iload_n 1, 1) := by decide +kernel
theorem dX4_as_5 : decode cX4_as 5 = .ok (.invokevirtual 101, 3) := by decide +kernel
theorem dX4_as_8 : decode cX4_as 8 = .ok (.ifCond .eq 10, 3) := by decide +kernel
theorem dX4_as_11 : decode cX4_as 11 = .ok (.iload_n 2, 1) := by decide +kernel
theorem dX4_as_12 : decode cX4_as 12 = .ok (.invokestatic 90, 3) := by decide +kernel
theorem dX4_as_15 : decode cX4_as 15 = .ok (.ifCond .ne 9, 3) := by decide +kernel
theorem dX4_as_18 : decode cX4_as 18 = .ok (.aload_n 0, 1) := by decide +kernel
theorem dX4_as_19 : decode cX4_as 19 = .ok (.iconst 0, 1) := by decide +kernel
theorem dX4_as_20 : decode cX4_as 20 = .ok (.invokevirtual 58, 3) := by decide +kernel
theorem dX4_as_23 : decode cX4_as 23 = .ok (.ireturn, 1) := by decide +kernel
theorem dX4_as_24 : decode cX4_as 24 = .ok (.aload_n 0, 1) := by decide +kernel
theorem dX4_as_25 : decode cX4_as 25 = .ok (.getfield 12, 3) := by decide +kernel
theorem dX4_as_28 : decode cX4_as 28 = .ok (.getfield 104, 3) := by decide +kernel
theorem dX4_as_31 : decode cX4_as 31 = .ok (.iload_n 1, 1) := by decide +kernel
theorem dX4_as_32 : decode cX4_as 32 = .ok (.iaload, 1) := by decide +kernel
theorem dX4_as_33 : decode cX4_as 33 = .ok (.iload_n 2, 1) := by decide +kernel
theorem dX4_as_34 : decode cX4_as 34 = .ok (.invokestatic 123, 3) := by decide +kernel
theorem dX4_as_37 : decode cX4_as 37 = .ok (.ifCond .ne 9, 3) := by decide +kernel
theorem dX4_as_40 : decode cX4_as 40 = .ok (.aload_n 0, 1) := by decide +kernel
theorem dX4_as_41 : decode cX4_as 41 = .ok (.iconst 2, 1) := by decide +kernel
theorem dX4_as_42 : decode cX4_as 42 = .ok (.invokevirtual 58, 3) := by decide +kernel
theorem dX4_as_45 : decode cX4_as 45 = .ok (.ireturn, 1) := by decide +kernel
theorem dX4_as_46 : decode cX4_as 46 = .ok (.aload_n 0, 1) := by decide +kernel
theorem dX4_as_47 : decode cX4_as 47 = .ok (.getfield 12, 3) := by decide +kernel
theorem dX4_as_50 : decode cX4_as 50 = .ok (.getfield 110, 3) := by decide +kernel
theorem dX4_as_53 : decode cX4_as 53 = .ok (.iload_n 1, 1) := by decide +kernel
theorem dX4_as_54 : decode cX4_as 54 = .ok (.iaload, 1) := by decide +kernel
theorem dX4_as_55 : decode cX4_as 55 = .ok (.ireturn, 1) := by decide +kernel
def finX4_as (N : Ml) : Int32 × Mi → Option Value × Mi × Ml := fun b => (some (Value.int b.1), b.2, N)
noncomputable def fX4_as_18   (M : Mi) : Option (Int32 × Mi) := (Option.bind (fX4_finding M 0) (fun a2 => (some (a2.1, (a2.2)))))
theorem bX4_as_18 {Z : Zt} {E : Ec} {N : Ml} (C : Ok 1 Z E cX4_as 3 RX4 (some .int) 2)    (M : Mi)  : GT Z E 3 (finX4_as N) 18 [(0, .ref (zA Z 8 0))] [] M N (fX4_as_18 M) := by
  unfold fX4_as_18
  refine r_aload_n C dX4_as_18 0 0 rfl rfl ?_
  refine r_iconst (v := 0) C dX4_as_19 (by decide) ?_
  refine r_bind (fun a2 ha2 => ?_)
  refine r_callV (rest := []) (st2 := [.int a2.1]) C (mX4_finding (eL E) C.z M N 0 a2 ha2) lk_X4_58 (rvX C) (by decide) rfl rfl (Nat.le_of_ble_eq_true rfl) dX4_as_20 rfl ?_
  exact r_iret C dX4_as_23 rfl
noncomputable def fX4_as   (M : Mi) (x1 : Int32) (x2 : Int32) : Option (Int32 × Mi) := (if (fX0_has (M 0) x1) = 0 then (fX4_as_18 M) else (if (fX4_isKind x2) = 0 then (fX4_as_18 M) else (if inb x1 8 then (Option.bind (fX4_isUnder M (M 0 (7 + 4 * ix x1)) x2) (fun a5 => (if a5 = 0 then (Option.bind (fX4_finding M 2) (fun a7 => (some (a7.1, (a7.2))))) else (some ((M 0 (9 + 4 * ix x1)), M))))) else none)))
theorem bX4_as {Z : Zt} {E : Ec} {N : Ml} (C : Ok 1 Z E cX4_as 3 RX4 (some .int) 2)    (M : Mi) (x1 : Int32) (x2 : Int32)  : GT Z E 3 (finX4_as N) 0 [(0, .ref (zA Z 8 0)), (1, .int x1), (2, .int x2)] [] M N (fX4_as M x1 x2) := by
  unfold fX4_as
  refine r_aload_n C dX4_as_0 0 0 rfl rfl ?_
  refine gf_X4_12 C dX4_as_1 ?_
  refine r_iload_n C dX4_as_4 1 1 rfl rfl ?_
  refine r_callV (rest := []) (st2 := [.int (fX0_has (M 0) x1)]) C (mX0_has (eL E) C.z (by decide) M _ (M 0) x1).selfR lk_X4_101 (rvI C (by decide)) (by decide) rfl rfl (Nat.le_of_ble_eq_true rfl) dX4_as_5 rfl ?_
  refine r_if_eq (tgt := 18) C dX4_as_8 (by decide) (fun c1 => ?_) (fun c1 => ?_)
  · refine r_lv [0] (lv' := [(0, .ref (zA Z 8 0))]) rfl ?_
    exact bX4_as_18 C M
  · refine r_iload_n C dX4_as_11 2 2 rfl rfl ?_
    refine r_callS (rest := []) (st2 := [.int (fX4_isKind x2)]) C (mX4_isKind (eL E) C.z _ _ x2) lk_X4_90 (by decide) rfl rfl (Nat.le_of_ble_eq_true rfl) dX4_as_12 rfl ?_
    refine r_if_ne (tgt := 24) C dX4_as_15 (by decide) (fun c3 => ?_) (fun c3 => ?_)
    · refine r_aload_n C dX4_as_24 0 0 rfl rfl ?_
      refine gf_X4_12 C dX4_as_25 ?_
      refine gf_X4_104 C (by decide) dX4_as_28 ?_
      refine r_iload_n C dX4_as_31 1 1 rfl rfl ?_
      refine r_guard (fun h4 => ?_)
      refine ald_I2 (v := (M 0 (7 + 4 * ix x1))) C (by decide) h4 rfl dX4_as_32 ?_
      refine r_iload_n C dX4_as_33 2 2 rfl rfl ?_
      refine r_bind (fun a5 ha5 => ?_)
      refine r_callS (rest := []) (st2 := [.int a5]) C (mX4_isUnder (eL E) C.z M N (M 0 (7 + 4 * ix x1)) x2 a5 ha5) lk_X4_123 (by decide) rfl rfl (Nat.le_of_ble_eq_true rfl) dX4_as_34 rfl ?_
      refine r_if_ne (tgt := 46) C dX4_as_37 (by decide) (fun c6 => ?_) (fun c6 => ?_)
      · refine r_aload_n C dX4_as_46 0 0 rfl rfl ?_
        refine gf_X4_12 C dX4_as_47 ?_
        refine gf_X4_110 C (by decide) dX4_as_50 ?_
        refine r_iload_n C dX4_as_53 1 1 rfl rfl ?_
        refine ald_I4 (v := (M 0 (9 + 4 * ix x1))) C (by decide) h4 rfl dX4_as_54 ?_
        exact r_iret C dX4_as_55 rfl
      · refine r_aload_n C dX4_as_40 0 0 rfl rfl ?_
        refine r_iconst (v := 2) C dX4_as_41 (by decide) ?_
        refine r_bind (fun a7 ha7 => ?_)
        refine r_callV (rest := []) (st2 := [.int a7.1]) C (mX4_finding (eL E) C.z M N 2 a7 ha7) lk_X4_58 (rvX C) (by decide) rfl rfl (Nat.le_of_ble_eq_true rfl) dX4_as_42 rfl ?_
        exact r_iret C dX4_as_45 rfl
    · refine r_lv [0] (lv' := [(0, .ref (zA Z 8 0))]) rfl ?_
      exact bX4_as_18 C M
theorem mX4_as (l : Launch) {Z : Zt} (hZ : Zok 1 Z) (M : Mi) (N : Ml) (x1 : Int32) (x2 : Int32) (b : Int32 × Mi) (hb : fX4_as M x1 x2 = some b) : Ct 1 Z l yX4_as cX4_as 3 (some .int) 2 [.ref (zA Z 8 0), .int x1, .int x2] M N (some (Value.int b.1), b.2, N) :=
  metG (fin := (finX4_as N)) (by decide) (Nat.le_of_ble_eq_true rfl) (fun E _ C => bX4_as C M x1 x2) hb
theorem dX4_areTwo_0 : decode cX4_areTwo 0 = .ok (.aload_n 0, 1) := by decide +kernel
theorem dX4_areTwo_1 : decode cX4_areTwo 1 = .ok (.getfield 12, 3) := by decide +kernel
theorem dX4_areTwo_4 : decode cX4_areTwo 4 = .ok (.iload_n 1, 1) := by decide +kernel
theorem dX4_areTwo_5 : decode cX4_areTwo 5 = .ok (.invokevirtual 101, 3) := by decide +kernel
theorem dX4_areTwo_8 : decode cX4_areTwo 8 = .ok (.ifCond .eq 23, 3) := by decide +kernel
theorem dX4_areTwo_11 : decode cX4_areTwo 11 = .ok (.aload_n 0, 1) := by decide +kernel
theorem dX4_areTwo_12 : decode cX4_areTwo 12 = .ok (.getfield 12, 3) := by decide +kernel
theorem dX4_areTwo_15 : decode cX4_areTwo 15 = .ok (.iload_n 2, 1) := by decide +kernel
theorem dX4_areTwo_16 : decode cX4_areTwo 16 = .ok (.invokevirtual 101, 3) := by decide +kernel
theorem dX4_areTwo_19 : decode cX4_areTwo 19 = .ok (.ifCond .eq 12, 3) := by decide +kernel
theorem dX4_areTwo_22 : decode cX4_areTwo 22 = .ok (.iload_n 1, 1) := by decide +kernel
theorem dX4_areTwo_23 : decode cX4_areTwo 23 = .ok (.iload_n 2, 1) := by decide +kernel
theorem dX4_areTwo_24 : decode cX4_areTwo 24 = .ok (.if_icmp .eq 7, 3) := by decide +kernel
theorem dX4_areTwo_27 : decode cX4_areTwo 27 = .ok (.iconst 1, 1) := by decide +kernel
theorem dX4_areTwo_28 : decode cX4_areTwo 28 = .ok (.goto 4, 3) := by decide +kernel
theorem dX4_areTwo_31 : decode cX4_areTwo 31 = .ok (.iconst 0, 1) := by decide +kernel
theorem dX4_areTwo_32 : decode cX4_areTwo 32 = .ok (.ireturn, 1) := by decide +kernel
def finX4_areTwo (M : Mi) (N : Ml) : Int32 → Option Value × Mi × Ml := fun b => (some (Value.int b), M, N)
noncomputable def fX4_areTwo (M : Mi)  (x1 : Int32) (x2 : Int32) : Int32 := (if (fX0_has (M 0) x1) = 0 then 0 else (if (fX0_has (M 0) x2) = 0 then 0 else (if x1 = x2 then 0 else 1)))
theorem bX4_areTwo {Z : Zt} {E : Ec} {M : Mi} {N : Ml} (C : Ok 1 Z E cX4_areTwo 3 RX4 (some .boolean) 2)    (x1 : Int32) (x2 : Int32)  : GT Z E 3 (finX4_areTwo M N) 0 [(0, .ref (zA Z 8 0)), (1, .int x1), (2, .int x2)] [] M N (some (fX4_areTwo M x1 x2)) := by
  unfold fX4_areTwo
  refine r_aload_n C dX4_areTwo_0 0 0 rfl rfl ?_
  refine gf_X4_12 C dX4_areTwo_1 ?_
  refine r_iload_n C dX4_areTwo_4 1 1 rfl rfl ?_
  refine r_callV (rest := []) (st2 := [.int (fX0_has (M 0) x1)]) C (mX0_has (eL E) C.z (by decide) M _ (M 0) x1).selfR lk_X4_101 (rvI C (by decide)) (by decide) rfl rfl (Nat.le_of_ble_eq_true rfl) dX4_areTwo_5 rfl ?_
  refine r_st ?_
  refine r_if_eq (tgt := 31) C dX4_areTwo_8 (by decide) (fun c1 => ?_) (fun c1 => ?_)
  · refine r_iconst (v := 0) C dX4_areTwo_31 (by decide) ?_
    exact r_zret C dX4_areTwo_32 (Or.inl rfl) rfl
  · refine r_aload_n C dX4_areTwo_11 0 0 rfl rfl ?_
    refine gf_X4_12 C dX4_areTwo_12 ?_
    refine r_iload_n C dX4_areTwo_15 2 2 rfl rfl ?_
    refine r_callV (rest := []) (st2 := [.int (fX0_has (M 0) x2)]) C (mX0_has (eL E) C.z (by decide) M _ (M 0) x2).selfR lk_X4_101 (rvI C (by decide)) (by decide) rfl rfl (Nat.le_of_ble_eq_true rfl) dX4_areTwo_16 rfl ?_
    refine r_st ?_
    refine r_if_eq (tgt := 31) C dX4_areTwo_19 (by decide) (fun c2 => ?_) (fun c2 => ?_)
    · refine r_iconst (v := 0) C dX4_areTwo_31 (by decide) ?_
      exact r_zret C dX4_areTwo_32 (Or.inl rfl) rfl
    · refine r_iload_n C dX4_areTwo_22 1 1 rfl rfl ?_
      refine r_iload_n C dX4_areTwo_23 2 2 rfl rfl ?_
      refine r_st ?_
      refine r_ic_eq (tgt := 31) C dX4_areTwo_24 (by decide) (fun c3 => ?_) (fun c3 => ?_)
      · refine r_iconst (v := 0) C dX4_areTwo_31 (by decide) ?_
        exact r_zret C dX4_areTwo_32 (Or.inl rfl) rfl
      · refine r_iconst (v := 1) C dX4_areTwo_27 (by decide) ?_
        refine r_goto (tgt := 32) C dX4_areTwo_28 (by decide) ?_
        exact r_zret C dX4_areTwo_32 (Or.inr rfl) rfl
theorem zbX4_areTwo (M : Mi) (x1 : Int32) (x2 : Int32) : fX4_areTwo M x1 x2 = 0 ∨ fX4_areTwo M x1 x2 = 1 := by
  unfold fX4_areTwo; (repeat' split) <;> first | exact Or.inl rfl | exact Or.inr rfl | exact zbX0_has _ _
theorem mX4_areTwo (l : Launch) {Z : Zt} (hZ : Zok 1 Z) (M : Mi) (N : Ml) (x1 : Int32) (x2 : Int32) : Ct 1 Z l yX4_areTwo cX4_areTwo 3 (some .boolean) 2 [.ref (zA Z 8 0), .int x1, .int x2] M N (some (Value.int (fX4_areTwo M x1 x2)), M, N) :=
  metG (fin := (finX4_areTwo M N)) (by decide) (Nat.le_of_ble_eq_true rfl) (fun E _ C => bX4_areTwo C x1 x2) rfl
theorem dX4_isSubject_0 : decode cX4_isSubject 0 = .ok (.iload_n 0, 1) := by decide +kernel
theorem dX4_isSubject_1 : decode cX4_isSubject 1 = .ok (.bipush 12, 2) := by decide +kernel
theorem dX4_isSubject_3 : decode cX4_isSubject 3 = .ok (.invokestatic 69, 3) := by decide +kernel
theorem dX4_isSubject_6 : decode cX4_isSubject 6 = .ok (.ireturn, 1) := by decide +kernel
def finX4_isSubject (M : Mi) (N : Ml) : Int32 → Option Value × Mi × Ml := fun b => (some (Value.int b), M, N)
noncomputable def fX4_isSubject   (x0 : Int32) : Int32 := (fX4_isBelow x0 12)
theorem bX4_isSubject {Z : Zt} {E : Ec} {M : Mi} {N : Ml} (C : Ok 1 Z E cX4_isSubject 1 RX4 (some .boolean) 1)    (x0 : Int32)  : GT Z E 1 (finX4_isSubject M N) 0 [(0, .int x0)] [] M N (some (fX4_isSubject x0)) := by
  unfold fX4_isSubject
  refine r_iload_n C dX4_isSubject_0 0 0 rfl rfl ?_
  refine r_bipush (v := 12) C dX4_isSubject_1 (by decide) ?_
  refine r_callS (rest := []) (st2 := [.int (fX4_isBelow x0 12)]) C (mX4_isBelow (eL E) C.z _ _ x0 12) lk_X4_69 (by decide) rfl rfl (Nat.le_of_ble_eq_true rfl) dX4_isSubject_3 rfl ?_
  exact r_zret C dX4_isSubject_6 (zbX4_isBelow  x0 12) rfl
theorem zbX4_isSubject (x0 : Int32) : fX4_isSubject x0 = 0 ∨ fX4_isSubject x0 = 1 := by
  unfold fX4_isSubject; (repeat' split) <;> first | exact Or.inl rfl | exact Or.inr rfl | exact zbX4_isBelow _ _
theorem mX4_isSubject (l : Launch) {Z : Zt} (hZ : Zok 1 Z) (M : Mi) (N : Ml) (x0 : Int32) : Ct 1 Z l yX4_isSubject cX4_isSubject 1 (some .boolean) 1 [.int x0] M N (some (Value.int (fX4_isSubject x0)), M, N) :=
  metG (fin := (finX4_isSubject M N)) (by decide) (Nat.le_of_ble_eq_true rfl) (fun E _ C => bX4_isSubject C x0) rfl
theorem dX4_lend_0 : decode cX4_lend 0 = .ok (.aload_n 0, 1) := by decide +kernel
theorem dX4_lend_1 : decode cX4_lend 1 = .ok (.iload_n 1, 1) := by decide +kernel
theorem dX4_lend_2 : decode cX4_lend 2 = .ok (.iload_n 2, 1) := by decide +kernel
theorem dX4_lend_3 : decode cX4_lend 3 = .ok (.invokevirtual 126, 3) := by decide +kernel
theorem dX4_lend_6 : decode cX4_lend 6 = .ok (.ifCond .eq 10, 3) := by decide +kernel
theorem dX4_lend_9 : decode cX4_lend 9 = .ok (.iload_n 3, 1) := by decide +kernel
theorem dX4_lend_10 : decode cX4_lend 10 = .ok (.invokestatic 129, 3) := by decide +kernel
theorem dX4_lend_13 : decode cX4_lend 13 = .ok (.ifCond .ne 9, 3) := by decide +kernel
theorem dX4_lend_16 : decode cX4_lend 16 = .ok (.aload_n 0, 1) := by decide +kernel
theorem dX4_lend_17 : decode cX4_lend 17 = .ok (.iconst 0, 1) := by decide +kernel
theorem dX4_lend_18 : decode cX4_lend 18 = .ok (.invokevirtual 58, 3) := by decide +kernel
theorem dX4_lend_21 : decode cX4_lend 21 = .ok (.ireturn, 1) := by decide +kernel
theorem dX4_lend_22 : decode cX4_lend 22 = .ok (.aload_n 0, 1) := by decide +kernel
theorem dX4_lend_23 : decode cX4_lend 23 = .ok (.getfield 12, 3) := by decide +kernel
theorem dX4_lend_26 : decode cX4_lend 26 = .ok (.getfield 107, 3) := by decide +kernel
theorem dX4_lend_29 : decode cX4_lend 29 = .ok (.iload_n 1, 1) := by decide +kernel
theorem dX4_lend_30 : decode cX4_lend 30 = .ok (.iaload, 1) := by decide +kernel
theorem dX4_lend_31 : decode cX4_lend 31 = .ok (.aload_n 0, 1) := by decide +kernel
theorem dX4_lend_32 : decode cX4_lend 32 = .ok (.getfield 12, 3) := by decide +kernel
theorem dX4_lend_35 : decode cX4_lend 35 = .ok (.getfield 107, 3) := by decide +kernel
theorem dX4_lend_38 : decode cX4_lend 38 = .ok (.iload_n 2, 1) := by decide +kernel
theorem dX4_lend_39 : decode cX4_lend 39 = .ok (.iaload, 1) := by decide +kernel
theorem dX4_lend_40 : decode cX4_lend 40 = .ok (.if_icmp .eq 9, 3) := by decide +kernel
theorem dX4_lend_43 : decode cX4_lend 43 = .ok (.aload_n 0, 1) := by decide +kernel
theorem dX4_lend_44 : decode cX4_lend 44 = .ok (.iconst 4, 1) := by decide +kernel
theorem dX4_lend_45 : decode cX4_lend 45 = .ok (.invokevirtual 58, 3) := by decide +kernel
theorem dX4_lend_48 : decode cX4_lend 48 = .ok (.ireturn, 1) := by decide +kernel
theorem dX4_lend_49 : decode cX4_lend 49 = .ok (.iconst 1, 1) := by decide +kernel
theorem dX4_lend_50 : decode cX4_lend 50 = .ok (.iload_n 3, 1) := by decide +kernel
theorem dX4_lend_51 : decode cX4_lend 51 = .ok (.ishl, 1) := by decide +kernel
theorem dX4_lend_52 : decode cX4_lend 52 = .ok (.istore 4, 2) := by decide +kernel
theorem dX4_lend_54 : decode cX4_lend 54 = .ok (.aload_n 0, 1) := by decide +kernel
theorem dX4_lend_55 : decode cX4_lend 55 = .ok (.getfield 12, 3) := by decide +kernel
theorem dX4_lend_58 : decode cX4_lend 58 = .ok (.getfield 110, 3) := by decide +kernel
theorem dX4_lend_61 : decode cX4_lend 61 = .ok (.iload_n 1, 1) := by decide +kernel
theorem dX4_lend_62 : decode cX4_lend 62 = .ok (.iaload, 1) := by decide +kernel
theorem dX4_lend_63 : decode cX4_lend 63 = .ok (.iload 4, 2) := by decide +kernel
theorem dX4_lend_65 : decode cX4_lend 65 = .ok (.iand, 1) := by decide +kernel
theorem dX4_lend_66 : decode cX4_lend 66 = .ok (.ifCond .eq 18, 3) := by decide +kernel
theorem dX4_lend_69 : decode cX4_lend 69 = .ok (.aload_n 0, 1) := by decide +kernel
theorem dX4_lend_70 : decode cX4_lend 70 = .ok (.getfield 12, 3) := by decide +kernel
theorem dX4_lend_73 : decode cX4_lend 73 = .ok (.getfield 110, 3) := by decide +kernel
theorem dX4_lend_76 : decode cX4_lend 76 = .ok (.iload_n 2, 1) := by decide +kernel
theorem dX4_lend_77 : decode cX4_lend 77 = .ok (.iaload, 1) := by decide +kernel
theorem dX4_lend_78 : decode cX4_lend 78 = .ok (.iload 4, 2) := by decide +kernel
theorem dX4_lend_80 : decode cX4_lend 80 = .ok (.iand, 1) := by decide +kernel
theorem dX4_lend_81 : decode cX4_lend 81 = .ok (.ifCond .eq 9, 3) := by decide +kernel
theorem dX4_lend_84 : decode cX4_lend 84 = .ok (.aload_n 0, 1) := by decide +kernel
theorem dX4_lend_85 : decode cX4_lend 85 = .ok (.iconst 3, 1) := by decide +kernel
theorem dX4_lend_86 : decode cX4_lend 86 = .ok (.invokevirtual 58, 3) := by decide +kernel
theorem dX4_lend_89 : decode cX4_lend 89 = .ok (.ireturn, 1) := by decide +kernel
theorem dX4_lend_90 : decode cX4_lend 90 = .ok (.aload_n 0, 1) := by decide +kernel
theorem dX4_lend_91 : decode cX4_lend 91 = .ok (.getfield 12, 3) := by decide +kernel
theorem dX4_lend_94 : decode cX4_lend 94 = .ok (.iload_n 1, 1) := by decide +kernel
theorem dX4_lend_95 : decode cX4_lend 95 = .ok (.iload_n 2, 1) := by decide +kernel
theorem dX4_lend_96 : decode cX4_lend 96 = .ok (.iload 4, 2) := by decide +kernel
theorem dX4_lend_98 : decode cX4_lend 98 = .ok (.invokevirtual 132, 3) := by decide +kernel
theorem dX4_lend_101 : decode cX4_lend 101 = .ok (.iconst 1, 1) := by decide +kernel
theorem dX4_lend_102 : decode cX4_lend 102 = .ok (.ireturn, 1) := by decide +kernel
def finX4_lend (N : Ml) : Int32 × Mi → Option Value × Mi × Ml := fun b => (some (Value.int b.1), b.2, N)
noncomputable def fX4_lend_16   (M : Mi) : Option (Int32 × Mi) := (Option.bind (fX4_finding M 0) (fun a2 => (some (a2.1, (a2.2)))))
theorem bX4_lend_16 {Z : Zt} {E : Ec} {N : Ml} (C : Ok 1 Z E cX4_lend 5 RX4 (some .int) 3)    (M : Mi)  : GT Z E 5 (finX4_lend N) 16 [(0, .ref (zA Z 8 0))] [] M N (fX4_lend_16 M) := by
  unfold fX4_lend_16
  refine r_aload_n C dX4_lend_16 0 0 rfl rfl ?_
  refine r_iconst (v := 0) C dX4_lend_17 (by decide) ?_
  refine r_bind (fun a2 ha2 => ?_)
  refine r_callV (rest := []) (st2 := [.int a2.1]) C (mX4_finding (eL E) C.z M N 0 a2 ha2) lk_X4_58 (rvX C) (by decide) rfl rfl (Nat.le_of_ble_eq_true rfl) dX4_lend_18 rfl ?_
  exact r_iret C dX4_lend_21 rfl
noncomputable def fX4_lend_84   (M : Mi) : Option (Int32 × Mi) := (Option.bind (fX4_finding M 3) (fun a8 => (some (a8.1, (a8.2)))))
theorem bX4_lend_84 {Z : Zt} {E : Ec} {N : Ml} (C : Ok 1 Z E cX4_lend 5 RX4 (some .int) 3)    (M : Mi)  : GT Z E 5 (finX4_lend N) 84 [(0, .ref (zA Z 8 0))] [] M N (fX4_lend_84 M) := by
  unfold fX4_lend_84
  refine r_aload_n C dX4_lend_84 0 0 rfl rfl ?_
  refine r_iconst (v := 3) C dX4_lend_85 (by decide) ?_
  refine r_bind (fun a8 ha8 => ?_)
  refine r_callV (rest := []) (st2 := [.int a8.1]) C (mX4_finding (eL E) C.z M N 3 a8 ha8) lk_X4_58 (rvX C) (by decide) rfl rfl (Nat.le_of_ble_eq_true rfl) dX4_lend_86 rfl ?_
  exact r_iret C dX4_lend_89 rfl
noncomputable def fX4_lend   (M : Mi) (x1 : Int32) (x2 : Int32) (x3 : Int32) : Option (Int32 × Mi) := (if (fX4_areTwo M x1 x2) = 0 then (fX4_lend_16 M) else (if (fX4_isSubject x3) = 0 then (fX4_lend_16 M) else (if inb x1 8 then (if inb x2 8 then (if (M 0 (8 + 4 * ix x1)) = (M 0 (8 + 4 * ix x2)) then (if ((M 0 (9 + 4 * ix x1)) &&& (1 <<< (x3 &&& 31))) = 0 then (fX4_lend_84 M) else (if ((M 0 (9 + 4 * ix x2)) &&& (1 <<< (x3 &&& 31))) = 0 then (Option.bind (fX0_handsOver (M 0) x1 x2 (1 <<< (x3 &&& 31))) (fun a10 => (some (1, (sR M 0 a10))))) else (fX4_lend_84 M))) else (Option.bind (fX4_finding M 4) (fun a11 => (some (a11.1, (a11.2)))))) else none) else none)))
theorem bX4_lend {Z : Zt} {E : Ec} {N : Ml} (C : Ok 1 Z E cX4_lend 5 RX4 (some .int) 3)    (M : Mi) (x1 : Int32) (x2 : Int32) (x3 : Int32)  : GT Z E 5 (finX4_lend N) 0 [(0, .ref (zA Z 8 0)), (1, .int x1), (2, .int x2), (3, .int x3)] [] M N (fX4_lend M x1 x2 x3) := by
  unfold fX4_lend
  refine r_aload_n C dX4_lend_0 0 0 rfl rfl ?_
  refine r_iload_n C dX4_lend_1 1 1 rfl rfl ?_
  refine r_iload_n C dX4_lend_2 2 2 rfl rfl ?_
  refine r_callV (rest := []) (st2 := [.int (fX4_areTwo M x1 x2)]) C (mX4_areTwo (eL E) C.z M N x1 x2) lk_X4_126 (rvX C) (by decide) rfl rfl (Nat.le_of_ble_eq_true rfl) dX4_lend_3 rfl ?_
  refine r_if_eq (tgt := 16) C dX4_lend_6 (by decide) (fun c1 => ?_) (fun c1 => ?_)
  · refine r_lv [0] (lv' := [(0, .ref (zA Z 8 0))]) rfl ?_
    exact bX4_lend_16 C M
  · refine r_iload_n C dX4_lend_9 3 3 rfl rfl ?_
    refine r_callS (rest := []) (st2 := [.int (fX4_isSubject x3)]) C (mX4_isSubject (eL E) C.z _ _ x3) lk_X4_129 (by decide) rfl rfl (Nat.le_of_ble_eq_true rfl) dX4_lend_10 rfl ?_
    refine r_if_ne (tgt := 22) C dX4_lend_13 (by decide) (fun c3 => ?_) (fun c3 => ?_)
    · refine r_aload_n C dX4_lend_22 0 0 rfl rfl ?_
      refine gf_X4_12 C dX4_lend_23 ?_
      refine gf_X4_107 C (by decide) dX4_lend_26 ?_
      refine r_iload_n C dX4_lend_29 1 1 rfl rfl ?_
      refine r_guard (fun h4 => ?_)
      refine ald_I3 (v := (M 0 (8 + 4 * ix x1))) C (by decide) h4 rfl dX4_lend_30 ?_
      refine r_aload_n C dX4_lend_31 0 0 rfl rfl ?_
      refine gf_X4_12 C dX4_lend_32 ?_
      refine gf_X4_107 C (by decide) dX4_lend_35 ?_
      refine r_iload_n C dX4_lend_38 2 2 rfl rfl ?_
      refine r_guard (fun h5 => ?_)
      refine ald_I3 (v := (M 0 (8 + 4 * ix x2))) C (by decide) h5 rfl dX4_lend_39 ?_
      refine r_ic_eq (tgt := 49) C dX4_lend_40 (by decide) (fun c6 => ?_) (fun c6 => ?_)
      · refine r_iconst (v := 1) C dX4_lend_49 (by decide) ?_
        refine r_iload_n C dX4_lend_50 3 3 rfl rfl ?_
        refine r_ishl C dX4_lend_51 ?_
        refine r_istore (lv' := [(4, .int (1 <<< (x3 &&& 31))), (0, .ref (zA Z 8 0)), (1, .int x1), (2, .int x2), (3, .int x3)]) C dX4_lend_52 (by decide) rfl ?_
        refine r_aload_n C dX4_lend_54 0 1 rfl rfl ?_
        refine gf_X4_12 C dX4_lend_55 ?_
        refine gf_X4_110 C (by decide) dX4_lend_58 ?_
        refine r_iload_n C dX4_lend_61 1 2 rfl rfl ?_
        refine ald_I4 (v := (M 0 (9 + 4 * ix x1))) C (by decide) h4 rfl dX4_lend_62 ?_
        refine r_iload C dX4_lend_63 0 rfl ?_
        refine r_iand C dX4_lend_65 ?_
        refine r_if_eq (tgt := 84) C dX4_lend_66 (by decide) (fun c7 => ?_) (fun c7 => ?_)
        · refine r_lv [1] (lv' := [(0, .ref (zA Z 8 0))]) rfl ?_
          exact bX4_lend_84 C M
        · refine r_aload_n C dX4_lend_69 0 1 rfl rfl ?_
          refine gf_X4_12 C dX4_lend_70 ?_
          refine gf_X4_110 C (by decide) dX4_lend_73 ?_
          refine r_iload_n C dX4_lend_76 2 3 rfl rfl ?_
          refine ald_I4 (v := (M 0 (9 + 4 * ix x2))) C (by decide) h5 rfl dX4_lend_77 ?_
          refine r_iload C dX4_lend_78 0 rfl ?_
          refine r_iand C dX4_lend_80 ?_
          refine r_if_eq (tgt := 90) C dX4_lend_81 (by decide) (fun c9 => ?_) (fun c9 => ?_)
          · refine r_aload_n C dX4_lend_90 0 1 rfl rfl ?_
            refine gf_X4_12 C dX4_lend_91 ?_
            refine r_iload_n C dX4_lend_94 1 2 rfl rfl ?_
            refine r_iload_n C dX4_lend_95 2 3 rfl rfl ?_
            refine r_iload C dX4_lend_96 0 rfl ?_
            refine r_bind (fun a10 ha10 => ?_)
            refine r_callV (rest := []) (st2 := []) C (mX0_handsOver (eL E) C.z (by decide) M _ (M 0) x1 x2 (1 <<< (x3 &&& 31)) a10 ha10).selfW lk_X4_132 (rvI C (by decide)) (by decide) rfl rfl (Nat.le_of_ble_eq_true rfl) dX4_lend_98 rfl ?_
            refine r_iconst (v := 1) C dX4_lend_101 (by decide) ?_
            exact r_iret C dX4_lend_102 rfl
          · refine r_lv [1] (lv' := [(0, .ref (zA Z 8 0))]) rfl ?_
            exact bX4_lend_84 C M
      · refine r_aload_n C dX4_lend_43 0 0 rfl rfl ?_
        refine r_iconst (v := 4) C dX4_lend_44 (by decide) ?_
        refine r_bind (fun a11 ha11 => ?_)
        refine r_callV (rest := []) (st2 := [.int a11.1]) C (mX4_finding (eL E) C.z M N 4 a11 ha11) lk_X4_58 (rvX C) (by decide) rfl rfl (Nat.le_of_ble_eq_true rfl) dX4_lend_45 rfl ?_
        exact r_iret C dX4_lend_48 rfl
    · refine r_lv [0] (lv' := [(0, .ref (zA Z 8 0))]) rfl ?_
      exact bX4_lend_16 C M
theorem mX4_lend (l : Launch) {Z : Zt} (hZ : Zok 1 Z) (M : Mi) (N : Ml) (x1 : Int32) (x2 : Int32) (x3 : Int32) (b : Int32 × Mi) (hb : fX4_lend M x1 x2 x3 = some b) : Ct 1 Z l yX4_lend cX4_lend 5 (some .int) 3 [.ref (zA Z 8 0), .int x1, .int x2, .int x3] M N (some (Value.int b.1), b.2, N) :=
  metG (fin := (finX4_lend N)) (by decide) (Nat.le_of_ble_eq_true rfl) (fun E _ C => bX4_lend C M x1 x2 x3) hb
theorem dX4_hours_0 : decode cX4_hours 0 = .ok (.iload_n 1, 1) := by decide +kernel
theorem dX4_hours_1 : decode cX4_hours 1 = .ok (.iconst 1, 1) := by decide +kernel
theorem dX4_hours_2 : decode cX4_hours 2 = .ok (.if_icmp .lt 9, 3) := by decide +kernel
theorem dX4_hours_5 : decode cX4_hours 5 = .ok (.iload_n 1, 1) := by decide +kernel
theorem dX4_hours_6 : decode cX4_hours 6 = .ok (.bipush 72, 2) := by decide +kernel
theorem dX4_hours_8 : decode cX4_hours 8 = .ok (.if_icmp .le 9, 3) := by decide +kernel
theorem dX4_hours_11 : decode cX4_hours 11 = .ok (.aload_n 0, 1) := by decide +kernel
theorem dX4_hours_12 : decode cX4_hours 12 = .ok (.iconst 0, 1) := by decide +kernel
theorem dX4_hours_13 : decode cX4_hours 13 = .ok (.invokevirtual 58, 3) := by decide +kernel
theorem dX4_hours_16 : decode cX4_hours 16 = .ok (.ireturn, 1) := by decide +kernel
theorem dX4_hours_17 : decode cX4_hours 17 = .ok (.aload_n 0, 1) := by decide +kernel
theorem dX4_hours_18 : decode cX4_hours 18 = .ok (.getfield 12, 3) := by decide +kernel
theorem dX4_hours_21 : decode cX4_hours 21 = .ok (.getfield 136, 3) := by decide +kernel
theorem dX4_hours_24 : decode cX4_hours 24 = .ok (.iload_n 1, 1) := by decide +kernel
theorem dX4_hours_25 : decode cX4_hours 25 = .ok (.iadd, 1) := by decide +kernel
theorem dX4_hours_26 : decode cX4_hours 26 = .ok (.sipush 9999, 3) := by decide +kernel
theorem dX4_hours_29 : decode cX4_hours 29 = .ok (.if_icmp .le 9, 3) := by decide +kernel
theorem dX4_hours_32 : decode cX4_hours 32 = .ok (.aload_n 0, 1) := by decide +kernel
theorem dX4_hours_33 : decode cX4_hours 33 = .ok (.iconst 4, 1) := by decide +kernel
theorem dX4_hours_34 : decode cX4_hours 34 = .ok (.invokevirtual 58, 3) := by decide +kernel
theorem dX4_hours_37 : decode cX4_hours 37 = .ok (.ireturn, 1) := by decide +kernel
theorem dX4_hours_38 : decode cX4_hours 38 = .ok (.aload_n 0, 1) := by decide +kernel
theorem dX4_hours_39 : decode cX4_hours 39 = .ok (.getfield 12, 3) := by decide +kernel
theorem dX4_hours_42 : decode cX4_hours 42 = .ok (.iload_n 1, 1) := by decide +kernel
theorem dX4_hours_43 : decode cX4_hours 43 = .ok (.invokevirtual 139, 3) := by decide +kernel
theorem dX4_hours_46 : decode cX4_hours 46 = .ok (.aload_n 0, 1) := by decide +kernel
theorem dX4_hours_47 : decode cX4_hours 47 = .ok (.getfield 12, 3) := by decide +kernel
theorem dX4_hours_50 : decode cX4_hours 50 = .ok (.invokevirtual 143, 3) := by decide +kernel
theorem dX4_hours_53 : decode cX4_hours 53 = .ok (.ireturn, 1) := by decide +kernel
def finX4_hours (N : Ml) : Int32 × Mi → Option Value × Mi × Ml := fun b => (some (Value.int b.1), b.2, N)
noncomputable def fX4_hours_11   (M : Mi) : Option (Int32 × Mi) := (Option.bind (fX4_finding M 0) (fun a2 => (some (a2.1, (a2.2)))))
theorem bX4_hours_11 {Z : Zt} {E : Ec} {N : Ml} (C : Ok 1 Z E cX4_hours 2 RX4 (some .int) 5)    (M : Mi)  : GT Z E 2 (finX4_hours N) 11 [(0, .ref (zA Z 8 0))] [] M N (fX4_hours_11 M) := by
  unfold fX4_hours_11
  refine r_aload_n C dX4_hours_11 0 0 rfl rfl ?_
  refine r_iconst (v := 0) C dX4_hours_12 (by decide) ?_
  refine r_bind (fun a2 ha2 => ?_)
  refine r_callV (rest := []) (st2 := [.int a2.1]) C (mX4_finding (eL E) C.z M N 0 a2 ha2) lk_X4_58 (rvX C) (by decide) rfl rfl (Nat.le_of_ble_eq_true rfl) dX4_hours_13 rfl ?_
  exact r_iret C dX4_hours_16 rfl
noncomputable def fX4_hours   (M : Mi) (x1 : Int32) : Option (Int32 × Mi) := (if x1 < 1 then (fX4_hours_11 M) else (if x1 ≤ 72 then (if ((M 0 0) + x1) ≤ 9999 then (Option.bind (fX0_goHours (M 0) x1) (fun a5 => (Option.bind (fX0_booksOfAll a5) (fun a6 => (some (a6, (sR M 0 a5))))))) else (Option.bind (fX4_finding M 4) (fun a7 => (some (a7.1, (a7.2)))))) else (fX4_hours_11 M)))
theorem bX4_hours {Z : Zt} {E : Ec} {N : Ml} (C : Ok 1 Z E cX4_hours 2 RX4 (some .int) 5)    (M : Mi) (x1 : Int32)  : GT Z E 2 (finX4_hours N) 0 [(0, .ref (zA Z 8 0)), (1, .int x1)] [] M N (fX4_hours M x1) := by
  unfold fX4_hours
  refine r_iload_n C dX4_hours_0 1 1 rfl rfl ?_
  refine r_iconst (v := 1) C dX4_hours_1 (by decide) ?_
  refine r_ic_lt (tgt := 11) C dX4_hours_2 (by decide) (fun c1 => ?_) (fun c1 => ?_)
  · refine r_lv [0] (lv' := [(0, .ref (zA Z 8 0))]) rfl ?_
    exact bX4_hours_11 C M
  · refine r_iload_n C dX4_hours_5 1 1 rfl rfl ?_
    refine r_bipush (v := 72) C dX4_hours_6 (by decide) ?_
    refine r_ic_le (tgt := 17) C dX4_hours_8 (by decide) (fun c3 => ?_) (fun c3 => ?_)
    · refine r_aload_n C dX4_hours_17 0 0 rfl rfl ?_
      refine gf_X4_12 C dX4_hours_18 ?_
      refine gf_X4_136 (v := (M 0 0)) C (by decide) dX4_hours_21 rfl ?_
      refine r_iload_n C dX4_hours_24 1 1 rfl rfl ?_
      refine r_iadd C dX4_hours_25 ?_
      refine r_sipush (v := 9999) C dX4_hours_26 (by decide) ?_
      refine r_ic_le (tgt := 38) C dX4_hours_29 (by decide) (fun c4 => ?_) (fun c4 => ?_)
      · refine r_aload_n C dX4_hours_38 0 0 rfl rfl ?_
        refine gf_X4_12 C dX4_hours_39 ?_
        refine r_iload_n C dX4_hours_42 1 1 rfl rfl ?_
        refine r_bind (fun a5 ha5 => ?_)
        refine r_callV (rest := []) (st2 := []) C (mX0_goHours (eL E) C.z (by decide) M _ (M 0) x1 a5 ha5).selfW lk_X4_139 (rvI C (by decide)) (by decide) rfl rfl (Nat.le_of_ble_eq_true rfl) dX4_hours_43 rfl ?_
        refine r_aload_n C dX4_hours_46 0 0 rfl rfl ?_
        refine gf_X4_12 C dX4_hours_47 ?_
        refine r_bind (fun a6 ha6 => ?_)
        refine r_callV (rest := []) (st2 := [.int a6]) C (mX0_booksOfAll (eL E) C.z (by decide) M _ a5 a6 ha6) lk_X4_143 (rvI C (by decide)) (by decide) rfl rfl (Nat.le_of_ble_eq_true rfl) dX4_hours_50 rfl ?_
        exact r_iret C dX4_hours_53 rfl
      · refine r_aload_n C dX4_hours_32 0 0 rfl rfl ?_
        refine r_iconst (v := 4) C dX4_hours_33 (by decide) ?_
        refine r_bind (fun a7 ha7 => ?_)
        refine r_callV (rest := []) (st2 := [.int a7.1]) C (mX4_finding (eL E) C.z M N 4 a7 ha7) lk_X4_58 (rvX C) (by decide) rfl rfl (Nat.le_of_ble_eq_true rfl) dX4_hours_34 rfl ?_
        exact r_iret C dX4_hours_37 rfl
    · refine r_lv [0] (lv' := [(0, .ref (zA Z 8 0))]) rfl ?_
      exact bX4_hours_11 C M
theorem mX4_hours (l : Launch) {Z : Zt} (hZ : Zok 1 Z) (M : Mi) (N : Ml) (x1 : Int32) (b : Int32 × Mi) (hb : fX4_hours M x1 = some b) : Ct 1 Z l yX4_hours cX4_hours 2 (some .int) 5 [.ref (zA Z 8 0), .int x1] M N (some (Value.int b.1), b.2, N) :=
  metG (fin := (finX4_hours N)) (by decide) (Nat.le_of_ble_eq_true rfl) (fun E _ C => bX4_hours C M x1) hb
theorem dX4_now_0 : decode cX4_now 0 = .ok (.iload_n 1, 1) := by decide +kernel
theorem dX4_now_1 : decode cX4_now 1 = .ok (.tableswitch 111 0 5 #[39, 47, 55, 78, 86, 96], 39) := by decide +kernel
theorem dX4_now_40 : decode cX4_now 40 = .ok (.aload_n 0, 1) := by decide +kernel
theorem dX4_now_41 : decode cX4_now 41 = .ok (.getfield 12, 3) := by decide +kernel
theorem dX4_now_44 : decode cX4_now 44 = .ok (.getfield 136, 3) := by decide +kernel
theorem dX4_now_47 : decode cX4_now 47 = .ok (.ireturn, 1) := by decide +kernel
theorem dX4_now_48 : decode cX4_now 48 = .ok (.aload_n 0, 1) := by decide +kernel
theorem dX4_now_49 : decode cX4_now 49 = .ok (.getfield 12, 3) := by decide +kernel
theorem dX4_now_52 : decode cX4_now 52 = .ok (.invokevirtual 147, 3) := by decide +kernel
theorem dX4_now_55 : decode cX4_now 55 = .ok (.ireturn, 1) := by decide +kernel
theorem dX4_now_56 : decode cX4_now 56 = .ok (.aload_n 0, 1) := by decide +kernel
theorem dX4_now_57 : decode cX4_now 57 = .ok (.getfield 12, 3) := by decide +kernel
theorem dX4_now_60 : decode cX4_now 60 = .ok (.aload_n 0, 1) := by decide +kernel
theorem dX4_now_61 : decode cX4_now 61 = .ok (.getfield 12, 3) := by decide +kernel
theorem dX4_now_64 : decode cX4_now 64 = .ok (.invokevirtual 147, 3) := by decide +kernel
theorem dX4_now_67 : decode cX4_now 67 = .ok (.invokevirtual 150, 3) := by decide +kernel
theorem dX4_now_70 : decode cX4_now 70 = .ok (.ifCond .eq 7, 3) := by decide +kernel
theorem dX4_now_73 : decode cX4_now 73 = .ok (.iconst 1, 1) := by decide +kernel
theorem dX4_now_74 : decode cX4_now 74 = .ok (.goto 4, 3) := by decide +kernel
theorem dX4_now_77 : decode cX4_now 77 = .ok (.iconst 0, 1) := by decide +kernel
theorem dX4_now_78 : decode cX4_now 78 = .ok (.ireturn, 1) := by decide +kernel
theorem dX4_now_79 : decode cX4_now 79 = .ok (.aload_n 0, 1) := by decide +kernel
theorem dX4_now_80 : decode cX4_now 80 = .ok (.getfield 12, 3) := by decide +kernel
theorem dX4_now_83 : decode cX4_now 83 = .ok (.invokevirtual 143, 3) := by decide +kernel
theorem dX4_now_86 : decode cX4_now 86 = .ok (.ireturn, 1) := by decide +kernel
theorem dX4_now_87 : decode cX4_now 87 = .ok (.aload_n 0, 1) := by decide +kernel
theorem dX4_now_88 : decode cX4_now 88 = .ok (.getfield 12, 3) := by decide +kernel
theorem dX4_now_91 : decode cX4_now 91 = .ok (.ldc 153, 2) := by decide +kernel
theorem dX4_now_93 : decode cX4_now 93 = .ok (.invokevirtual 87, 3) := by decide +kernel
theorem dX4_now_96 : decode cX4_now 96 = .ok (.ireturn, 1) := by decide +kernel
theorem dX4_now_97 : decode cX4_now 97 = .ok (.aload_n 0, 1) := by decide +kernel
theorem dX4_now_98 : decode cX4_now 98 = .ok (.getfield 12, 3) := by decide +kernel
theorem dX4_now_101 : decode cX4_now 101 = .ok (.aload_n 0, 1) := by decide +kernel
theorem dX4_now_102 : decode cX4_now 102 = .ok (.getfield 12, 3) := by decide +kernel
theorem dX4_now_105 : decode cX4_now 105 = .ok (.invokevirtual 154, 3) := by decide +kernel
theorem dX4_now_108 : decode cX4_now 108 = .ok (.invokevirtual 157, 3) := by decide +kernel
theorem dX4_now_111 : decode cX4_now 111 = .ok (.ireturn, 1) := by decide +kernel
theorem dX4_now_112 : decode cX4_now 112 = .ok (.aload_n 0, 1) := by decide +kernel
theorem dX4_now_113 : decode cX4_now 113 = .ok (.iconst 0, 1) := by decide +kernel
theorem dX4_now_114 : decode cX4_now 114 = .ok (.invokevirtual 58, 3) := by decide +kernel
theorem dX4_now_117 : decode cX4_now 117 = .ok (.ireturn, 1) := by decide +kernel
def finX4_now (N : Ml) : Int32 × Mi → Option Value × Mi × Ml := fun b => (some (Value.int b.1), b.2, N)
noncomputable def fX4_now   (M : Mi) (x1 : Int32) : Option (Int32 × Mi) := (if x1 = 0 then (some ((M 0 0), M)) else (if x1 = 1 then (some ((fX0_clock (M 0)), M)) else (if x1 = 2 then (if (fX0_rainsAt (M 0) (fX0_clock (M 0))) = 0 then (some (0, M)) else (some (1, M))) else (if x1 = 3 then (Option.bind (fX0_booksOfAll (M 0)) (fun a6 => (some (a6, M)))) else (if x1 = 4 then (Option.bind (fX0_subjectsIn (M 0) 1073741823) (fun a8 => (some (a8, M)))) else (if x1 = 5 then (Option.bind (fX0_cellsOf (M 0) (fX0_allTortoises (M 0))) (fun a10 => (some (a10, M)))) else (Option.bind (fX4_finding M 0) (fun a11 => (some (a11.1, (a11.2)))))))))))
theorem bX4_now {Z : Zt} {E : Ec} {N : Ml} (C : Ok 1 Z E cX4_now 2 RX4 (some .int) 2)    (M : Mi) (x1 : Int32)  : GT Z E 2 (finX4_now N) 0 [(0, .ref (zA Z 8 0)), (1, .int x1)] [] M N (fX4_now M x1) := by
  unfold fX4_now
  refine r_iload_n C dX4_now_0 1 1 rfl rfl ?_
  refine r_tsw (k := 0) (tgt := 40) C dX4_now_1 (by decide) (by decide) rfl (by decide) (fun c1 => ?_) (fun c1 => ?_)
  · refine r_aload_n C dX4_now_40 0 0 rfl rfl ?_
    refine gf_X4_12 C dX4_now_41 ?_
    refine gf_X4_136 (v := (M 0 0)) C (by decide) dX4_now_44 rfl ?_
    exact r_iret C dX4_now_47 rfl
  · skip
    refine r_tsw (k := 1) (tgt := 48) C dX4_now_1 (by decide) (by decide) rfl (by decide) (fun c2 => ?_) (fun c2 => ?_)
    · refine r_aload_n C dX4_now_48 0 0 rfl rfl ?_
      refine gf_X4_12 C dX4_now_49 ?_
      refine r_callV (rest := []) (st2 := [.int (fX0_clock (M 0))]) C (mX0_clock (eL E) C.z (by decide) M _ (M 0)).selfR lk_X4_147 (rvI C (by decide)) (by decide) rfl rfl (Nat.le_of_ble_eq_true rfl) dX4_now_52 rfl ?_
      exact r_iret C dX4_now_55 rfl
    · skip
      refine r_tsw (k := 2) (tgt := 56) C dX4_now_1 (by decide) (by decide) rfl (by decide) (fun c3 => ?_) (fun c3 => ?_)
      · refine r_aload_n C dX4_now_56 0 0 rfl rfl ?_
        refine gf_X4_12 C dX4_now_57 ?_
        refine r_aload_n C dX4_now_60 0 0 rfl rfl ?_
        refine gf_X4_12 C dX4_now_61 ?_
        refine r_callV (rest := [.ref (zA Z 0 0)]) (st2 := [.int (fX0_clock (M 0)), .ref (zA Z 0 0)]) C (mX0_clock (eL E) C.z (by decide) M _ (M 0)).selfR lk_X4_147 (rvI C (by decide)) (by decide) rfl rfl (Nat.le_of_ble_eq_true rfl) dX4_now_64 rfl ?_
        refine r_callV (rest := []) (st2 := [.int (fX0_rainsAt (M 0) (fX0_clock (M 0)))]) C (mX0_rainsAt (eL E) C.z (by decide) M _ (M 0) (fX0_clock (M 0))).selfR lk_X4_150 (rvI C (by decide)) (by decide) rfl rfl (Nat.le_of_ble_eq_true rfl) dX4_now_67 rfl ?_
        refine r_if_eq (tgt := 77) C dX4_now_70 (by decide) (fun c4 => ?_) (fun c4 => ?_)
        · refine r_iconst (v := 0) C dX4_now_77 (by decide) ?_
          exact r_iret C dX4_now_78 rfl
        · refine r_iconst (v := 1) C dX4_now_73 (by decide) ?_
          refine r_goto (tgt := 78) C dX4_now_74 (by decide) ?_
          exact r_iret C dX4_now_78 rfl
      · skip
        refine r_tsw (k := 3) (tgt := 79) C dX4_now_1 (by decide) (by decide) rfl (by decide) (fun c5 => ?_) (fun c5 => ?_)
        · refine r_aload_n C dX4_now_79 0 0 rfl rfl ?_
          refine gf_X4_12 C dX4_now_80 ?_
          refine r_bind (fun a6 ha6 => ?_)
          refine r_callV (rest := []) (st2 := [.int a6]) C (mX0_booksOfAll (eL E) C.z (by decide) M _ (M 0) a6 ha6).selfR lk_X4_143 (rvI C (by decide)) (by decide) rfl rfl (Nat.le_of_ble_eq_true rfl) dX4_now_83 rfl ?_
          exact r_iret C dX4_now_86 rfl
        · skip
          refine r_tsw (k := 4) (tgt := 87) C dX4_now_1 (by decide) (by decide) rfl (by decide) (fun c7 => ?_) (fun c7 => ?_)
          · refine r_aload_n C dX4_now_87 0 0 rfl rfl ?_
            refine gf_X4_12 C dX4_now_88 ?_
            refine r_ldc (v := 1073741823) C dX4_now_91 wd_423 ?_
            refine r_bind (fun a8 ha8 => ?_)
            refine r_callV (rest := []) (st2 := [.int a8]) C (mX0_subjectsIn (eL E) C.z (by decide) M _ (M 0) 1073741823 a8 ha8).selfR lk_X4_87 (rvI C (by decide)) (by decide) rfl rfl (Nat.le_of_ble_eq_true rfl) dX4_now_93 rfl ?_
            exact r_iret C dX4_now_96 rfl
          · skip
            refine r_tsw (k := 5) (tgt := 97) C dX4_now_1 (by decide) (by decide) rfl (by decide) (fun c9 => ?_) (fun c9 => ?_)
            · refine r_aload_n C dX4_now_97 0 0 rfl rfl ?_
              refine gf_X4_12 C dX4_now_98 ?_
              refine r_aload_n C dX4_now_101 0 0 rfl rfl ?_
              refine gf_X4_12 C dX4_now_102 ?_
              refine r_callV (rest := [.ref (zA Z 0 0)]) (st2 := [.int (fX0_allTortoises (M 0)), .ref (zA Z 0 0)]) C (mX0_allTortoises (eL E) C.z (by decide) M _ (M 0)).selfR lk_X4_154 (rvI C (by decide)) (by decide) rfl rfl (Nat.le_of_ble_eq_true rfl) dX4_now_105 rfl ?_
              refine r_bind (fun a10 ha10 => ?_)
              refine r_callV (rest := []) (st2 := [.int a10]) C (mX0_cellsOf (eL E) C.z (by decide) M _ (M 0) (fX0_allTortoises (M 0)) a10 ha10).selfR lk_X4_157 (rvI C (by decide)) (by decide) rfl rfl (Nat.le_of_ble_eq_true rfl) dX4_now_108 rfl ?_
              exact r_iret C dX4_now_111 rfl
            · skip
              refine r_tswd (tgt := 112) C dX4_now_1 (sw_out (lo := 0) (hi := 5) (n := 6) x1 [0, 1, 2, 3, 4, 5] (by decide) rfl (List.forall_mem_cons.mpr ⟨c1, List.forall_mem_cons.mpr ⟨c2, List.forall_mem_cons.mpr ⟨c3, List.forall_mem_cons.mpr ⟨c5, List.forall_mem_cons.mpr ⟨c7, List.forall_mem_cons.mpr ⟨c9, fun _ h => absurd h List.not_mem_nil⟩⟩⟩⟩⟩⟩)) (by decide) ?_
              refine r_aload_n C dX4_now_112 0 0 rfl rfl ?_
              refine r_iconst (v := 0) C dX4_now_113 (by decide) ?_
              refine r_bind (fun a11 ha11 => ?_)
              refine r_callV (rest := []) (st2 := [.int a11.1]) C (mX4_finding (eL E) C.z M N 0 a11 ha11) lk_X4_58 (rvX C) (by decide) rfl rfl (Nat.le_of_ble_eq_true rfl) dX4_now_114 rfl ?_
              exact r_iret C dX4_now_117 rfl
theorem mX4_now (l : Launch) {Z : Zt} (hZ : Zok 1 Z) (M : Mi) (N : Ml) (x1 : Int32) (b : Int32 × Mi) (hb : fX4_now M x1 = some b) : Ct 1 Z l yX4_now cX4_now 2 (some .int) 2 [.ref (zA Z 8 0), .int x1] M N (some (Value.int b.1), b.2, N) :=
  metG (fin := (finX4_now N)) (by decide) (Nat.le_of_ble_eq_true rfl) (fun E _ C => bX4_now C M x1) hb
theorem dX4_isForeseen_0 : decode cX4_isForeseen 0 = .ok (.iload_n 0, 1) := by decide +kernel
theorem dX4_isForeseen_1 : decode cX4_isForeseen 1 = .ok (.ifCond .lt 13, 3) := by decide +kernel
theorem dX4_isForeseen_4 : decode cX4_isForeseen 4 = .ok (.iload_n 0, 1) := by decide +kernel
theorem dX4_isForeseen_5 : decode cX4_isForeseen 5 = .ok (.bipush 72, 2) := by decide +kernel
theorem dX4_isForeseen_7 : decode cX4_isForeseen 7 = .ok (.if_icmp .gt 7, 3) := by decide +kernel
theorem dX4_isForeseen_10 : decode cX4_isForeseen 10 = .ok (.iconst 1, 1) := by decide +kernel
theorem dX4_isForeseen_11 : decode cX4_isForeseen 11 = .ok (.goto 4, 3) := by decide +kernel
theorem dX4_isForeseen_14 : decode cX4_isForeseen 14 = .ok (.iconst 0, 1) := by decide +kernel
theorem dX4_isForeseen_15 : decode cX4_isForeseen 15 = .ok (.ireturn, 1) := by decide +kernel
def finX4_isForeseen (M : Mi) (N : Ml) : Int32 → Option Value × Mi × Ml := fun b => (some (Value.int b), M, N)
noncomputable def fX4_isForeseen   (x0 : Int32) : Int32 := (if x0 < 0 then 0 else (if 72 < x0 then 0 else 1))
theorem bX4_isForeseen {Z : Zt} {E : Ec} {M : Mi} {N : Ml} (C : Ok 1 Z E cX4_isForeseen 1 RX4 (some .boolean) 0)    (x0 : Int32)  : GT Z E 1 (finX4_isForeseen M N) 0 [(0, .int x0)] [] M N (some (fX4_isForeseen x0)) := by
  unfold fX4_isForeseen
  refine r_iload_n C dX4_isForeseen_0 0 0 rfl rfl ?_
  refine r_st ?_
  refine r_if_lt (tgt := 14) C dX4_isForeseen_1 (by decide) (fun c1 => ?_) (fun c1 => ?_)
  · refine r_iconst (v := 0) C dX4_isForeseen_14 (by decide) ?_
    exact r_zret C dX4_isForeseen_15 (Or.inl rfl) rfl
  · refine r_iload_n C dX4_isForeseen_4 0 0 rfl rfl ?_
    refine r_bipush (v := 72) C dX4_isForeseen_5 (by decide) ?_
    refine r_st ?_
    refine r_ic_gt (tgt := 14) C dX4_isForeseen_7 (by decide) (fun c2 => ?_) (fun c2 => ?_)
    · refine r_iconst (v := 0) C dX4_isForeseen_14 (by decide) ?_
      exact r_zret C dX4_isForeseen_15 (Or.inl rfl) rfl
    · refine r_iconst (v := 1) C dX4_isForeseen_10 (by decide) ?_
      refine r_goto (tgt := 15) C dX4_isForeseen_11 (by decide) ?_
      exact r_zret C dX4_isForeseen_15 (Or.inr rfl) rfl
theorem zbX4_isForeseen (x0 : Int32) : fX4_isForeseen x0 = 0 ∨ fX4_isForeseen x0 = 1 := by
  unfold fX4_isForeseen; (repeat' split) <;> first | exact Or.inl rfl | exact Or.inr rfl
theorem mX4_isForeseen (l : Launch) {Z : Zt} (hZ : Zok 1 Z) (M : Mi) (N : Ml) (x0 : Int32) : Ct 1 Z l yX4_isForeseen cX4_isForeseen 1 (some .boolean) 0 [.int x0] M N (some (Value.int (fX4_isForeseen x0)), M, N) :=
  metG (fin := (finX4_isForeseen M N)) (by decide) (Nat.le_of_ble_eq_true rfl) (fun E _ C => bX4_isForeseen C x0) rfl
theorem dX4_on_0 : decode cX4_on 0 = .ok (.aload_n 0, 1) := by decide +kernel
theorem dX4_on_1 : decode cX4_on 1 = .ok (.getfield 12, 3) := by decide +kernel
theorem dX4_on_4 : decode cX4_on 4 = .ok (.iload_n 1, 1) := by decide +kernel
theorem dX4_on_5 : decode cX4_on 5 = .ok (.invokevirtual 101, 3) := by decide +kernel
theorem dX4_on_8 : decode cX4_on 8 = .ok (.ifCond .eq 17, 3) := by decide +kernel
theorem dX4_on_11 : decode cX4_on 11 = .ok (.iload_n 2, 1) := by decide +kernel
theorem dX4_on_12 : decode cX4_on 12 = .ok (.invokestatic 160, 3) := by decide +kernel
theorem dX4_on_15 : decode cX4_on 15 = .ok (.ifCond .eq 10, 3) := by decide +kernel
theorem dX4_on_18 : decode cX4_on 18 = .ok (.iload_n 3, 1) := by decide +kernel
theorem dX4_on_19 : decode cX4_on 19 = .ok (.invokestatic 55, 3) := by decide +kernel
theorem dX4_on_22 : decode cX4_on 22 = .ok (.ifCond .ne 9, 3) := by decide +kernel
theorem dX4_on_25 : decode cX4_on 25 = .ok (.aload_n 0, 1) := by decide +kernel
theorem dX4_on_26 : decode cX4_on 26 = .ok (.iconst 0, 1) := by decide +kernel
theorem dX4_on_27 : decode cX4_on 27 = .ok (.invokevirtual 58, 3) := by decide +kernel
theorem dX4_on_30 : decode cX4_on 30 = .ok (.ireturn, 1) := by decide +kernel
theorem dX4_on_31 : decode cX4_on 31 = .ok (.aload_n 0, 1) := by decide +kernel
theorem dX4_on_32 : decode cX4_on 32 = .ok (.getfield 16, 3) := by decide +kernel
theorem dX4_on_35 : decode cX4_on 35 = .ok (.aload_n 0, 1) := by decide +kernel
theorem dX4_on_36 : decode cX4_on 36 = .ok (.getfield 12, 3) := by decide +kernel
theorem dX4_on_39 : decode cX4_on 39 = .ok (.invokevirtual 163, 3) := by decide +kernel
theorem dX4_on_42 : decode cX4_on 42 = .ok (.aload_n 0, 1) := by decide +kernel
theorem dX4_on_43 : decode cX4_on 43 = .ok (.getfield 16, 3) := by decide +kernel
theorem dX4_on_46 : decode cX4_on 46 = .ok (.iload_n 2, 1) := by decide +kernel
theorem dX4_on_47 : decode cX4_on 47 = .ok (.invokevirtual 139, 3) := by decide +kernel
theorem dX4_on_50 : decode cX4_on 50 = .ok (.iload_n 3, 1) := by decide +kernel
theorem dX4_on_51 : decode cX4_on 51 = .ok (.ifCond .ne 15, 3) := by decide +kernel
theorem dX4_on_54 : decode cX4_on 54 = .ok (.aload_n 0, 1) := by decide +kernel
theorem dX4_on_55 : decode cX4_on 55 = .ok (.getfield 16, 3) := by decide +kernel
theorem dX4_on_58 : decode cX4_on 58 = .ok (.getfield 107, 3) := by decide +kernel
theorem dX4_on_61 : decode cX4_on 61 = .ok (.iload_n 1, 1) := by decide +kernel
theorem dX4_on_62 : decode cX4_on 62 = .ok (.iaload, 1) := by decide +kernel
theorem dX4_on_63 : decode cX4_on 63 = .ok (.goto 12, 3) := by decide +kernel
theorem dX4_on_66 : decode cX4_on 66 = .ok (.aload_n 0, 1) := by decide +kernel
theorem dX4_on_67 : decode cX4_on 67 = .ok (.getfield 16, 3) := by decide +kernel
theorem dX4_on_70 : decode cX4_on 70 = .ok (.getfield 110, 3) := by decide +kernel
theorem dX4_on_73 : decode cX4_on 73 = .ok (.iload_n 1, 1) := by decide +kernel
theorem dX4_on_74 : decode cX4_on 74 = .ok (.iaload, 1) := by decide +kernel
theorem dX4_on_75 : decode cX4_on 75 = .ok (.ireturn, 1) := by decide +kernel
def finX4_on (N : Ml) : Int32 × Mi → Option Value × Mi × Ml := fun b => (some (Value.int b.1), b.2, N)
noncomputable def fX4_on_25   (M : Mi) : Option (Int32 × Mi) := (Option.bind (fX4_finding M 0) (fun a2 => (some (a2.1, (a2.2)))))
theorem bX4_on_25 {Z : Zt} {E : Ec} {N : Ml} (C : Ok 1 Z E cX4_on 4 RX4 (some .int) 5)    (M : Mi)  : GT Z E 4 (finX4_on N) 25 [(0, .ref (zA Z 8 0))] [] M N (fX4_on_25 M) := by
  unfold fX4_on_25
  refine r_aload_n C dX4_on_25 0 0 rfl rfl ?_
  refine r_iconst (v := 0) C dX4_on_26 (by decide) ?_
  refine r_bind (fun a2 ha2 => ?_)
  refine r_callV (rest := []) (st2 := [.int a2.1]) C (mX4_finding (eL E) C.z M N 0 a2 ha2) lk_X4_58 (rvX C) (by decide) rfl rfl (Nat.le_of_ble_eq_true rfl) dX4_on_27 rfl ?_
  exact r_iret C dX4_on_30 rfl
noncomputable def fX4_on   (M : Mi) (x1 : Int32) (x2 : Int32) (x3 : Int32) : Option (Int32 × Mi) := (if (fX0_has (M 0) x1) = 0 then (fX4_on_25 M) else (if (fX4_isForeseen x2) = 0 then (fX4_on_25 M) else (if (fX4_isFlag x3) = 0 then (fX4_on_25 M) else (Option.bind (fX0_becomes (M 0) (M 1)) (fun a5 => (Option.bind (fX0_goHours a5 x2) (fun a6 => (if x3 = 0 then (if inb x1 8 then (some ((a6 (8 + 4 * ix x1)), (sR M 1 a6))) else none) else (if inb x1 8 then (some ((a6 (9 + 4 * ix x1)), (sR M 1 a6))) else none)))))))))
theorem bX4_on {Z : Zt} {E : Ec} {N : Ml} (C : Ok 1 Z E cX4_on 4 RX4 (some .int) 5)    (M : Mi) (x1 : Int32) (x2 : Int32) (x3 : Int32)  : GT Z E 4 (finX4_on N) 0 [(0, .ref (zA Z 8 0)), (1, .int x1), (2, .int x2), (3, .int x3)] [] M N (fX4_on M x1 x2 x3) := by
  unfold fX4_on
  refine r_aload_n C dX4_on_0 0 0 rfl rfl ?_
  refine gf_X4_12 C dX4_on_1 ?_
  refine r_iload_n C dX4_on_4 1 1 rfl rfl ?_
  refine r_callV (rest := []) (st2 := [.int (fX0_has (M 0) x1)]) C (mX0_has (eL E) C.z (by decide) M _ (M 0) x1).selfR lk_X4_101 (rvI C (by decide)) (by decide) rfl rfl (Nat.le_of_ble_eq_true rfl) dX4_on_5 rfl ?_
  refine r_if_eq (tgt := 25) C dX4_on_8 (by decide) (fun c1 => ?_) (fun c1 => ?_)
  · refine r_lv [0] (lv' := [(0, .ref (zA Z 8 0))]) rfl ?_
    exact bX4_on_25 C M
  · refine r_iload_n C dX4_on_11 2 2 rfl rfl ?_
    refine r_callS (rest := []) (st2 := [.int (fX4_isForeseen x2)]) C (mX4_isForeseen (eL E) C.z _ _ x2) lk_X4_160 (by decide) rfl rfl (Nat.le_of_ble_eq_true rfl) dX4_on_12 rfl ?_
    refine r_if_eq (tgt := 25) C dX4_on_15 (by decide) (fun c3 => ?_) (fun c3 => ?_)
    · refine r_lv [0] (lv' := [(0, .ref (zA Z 8 0))]) rfl ?_
      exact bX4_on_25 C M
    · refine r_iload_n C dX4_on_18 3 3 rfl rfl ?_
      refine r_callS (rest := []) (st2 := [.int (fX4_isFlag x3)]) C (mX4_isFlag (eL E) C.z _ _ x3) lk_X4_55 (by decide) rfl rfl (Nat.le_of_ble_eq_true rfl) dX4_on_19 rfl ?_
      refine r_if_ne (tgt := 31) C dX4_on_22 (by decide) (fun c4 => ?_) (fun c4 => ?_)
      · refine r_aload_n C dX4_on_31 0 0 rfl rfl ?_
        refine gf_X4_16 C dX4_on_32 ?_
        refine r_aload_n C dX4_on_35 0 0 rfl rfl ?_
        refine gf_X4_12 C dX4_on_36 ?_
        refine r_bind (fun a5 ha5 => ?_)
        refine r_callV (rest := []) (st2 := []) C (mX0_becomes (eL E) C.z (by decide) (by decide) (by decide) M _ (M 1) a5 ha5).selfW lk_X4_163 (rvI C (by decide)) (by decide) rfl rfl (Nat.le_of_ble_eq_true rfl) dX4_on_39 rfl ?_
        refine r_aload_n C dX4_on_42 0 0 rfl rfl ?_
        refine gf_X4_16 C dX4_on_43 ?_
        refine r_iload_n C dX4_on_46 2 2 rfl rfl ?_
        refine r_bind (fun a6 ha6 => ?_)
        refine r_callV (rest := []) (st2 := []) C (mX0_goHours (eL E) C.z (by decide) M _ a5 x2 a6 ha6) lk_X4_139 (rvI C (by decide)) (by decide) rfl rfl (Nat.le_of_ble_eq_true rfl) dX4_on_47 rfl ?_
        refine r_iload_n C dX4_on_50 3 3 rfl rfl ?_
        refine r_if_ne (tgt := 66) C dX4_on_51 (by decide) (fun c7 => ?_) (fun c7 => ?_)
        · refine r_aload_n C dX4_on_66 0 0 rfl rfl ?_
          refine gf_X4_16 C dX4_on_67 ?_
          refine gf_X4_110 C (by decide) dX4_on_70 ?_
          refine r_iload_n C dX4_on_73 1 1 rfl rfl ?_
          refine r_guard (fun h8 => ?_)
          refine ald_I4 (v := (a6 (9 + 4 * ix x1))) C (by decide) h8 rfl dX4_on_74 ?_
          exact r_iret C dX4_on_75 rfl
        · refine r_aload_n C dX4_on_54 0 0 rfl rfl ?_
          refine gf_X4_16 C dX4_on_55 ?_
          refine gf_X4_107 C (by decide) dX4_on_58 ?_
          refine r_iload_n C dX4_on_61 1 1 rfl rfl ?_
          refine r_guard (fun h9 => ?_)
          refine ald_I3 (v := (a6 (8 + 4 * ix x1))) C (by decide) h9 rfl dX4_on_62 ?_
          refine r_goto (tgt := 75) C dX4_on_63 (by decide) ?_
          exact r_iret C dX4_on_75 rfl
      · refine r_lv [0] (lv' := [(0, .ref (zA Z 8 0))]) rfl ?_
        exact bX4_on_25 C M
theorem mX4_on (l : Launch) {Z : Zt} (hZ : Zok 1 Z) (M : Mi) (N : Ml) (x1 : Int32) (x2 : Int32) (x3 : Int32) (b : Int32 × Mi) (hb : fX4_on M x1 x2 x3 = some b) : Ct 1 Z l yX4_on cX4_on 4 (some .int) 5 [.ref (zA Z 8 0), .int x1, .int x2, .int x3] M N (some (Value.int b.1), b.2, N) :=
  metG (fin := (finX4_on N)) (by decide) (Nat.le_of_ble_eq_true rfl) (fun E _ C => bX4_on C M x1 x2 x3) hb
theorem dX4_hoursOrNone_0 : decode cX4_hoursOrNone 0 = .ok (.iload_n 1, 1) := by decide +kernel
theorem dX4_hoursOrNone_1 : decode cX4_hoursOrNone 1 = .ok (.iconst (-1), 1) := by decide +kernel
theorem dX4_hoursOrNone_2 : decode cX4_hoursOrNone 2 = .ok (.if_icmp .ne 11, 3) := by decide +kernel
theorem dX4_hoursOrNone_5 : decode cX4_hoursOrNone 5 = .ok (.aload_n 0, 1) := by decide +kernel
theorem dX4_hoursOrNone_6 : decode cX4_hoursOrNone 6 = .ok (.iconst 3, 1) := by decide +kernel
theorem dX4_hoursOrNone_7 : decode cX4_hoursOrNone 7 = .ok (.invokevirtual 58, 3) := by decide +kernel
theorem dX4_hoursOrNone_10 : decode cX4_hoursOrNone 10 = .ok (.goto 4, 3) := by decide +kernel
theorem dX4_hoursOrNone_13 : decode cX4_hoursOrNone 13 = .ok (.iload_n 1, 1) := by decide +kernel
theorem dX4_hoursOrNone_14 : decode cX4_hoursOrNone 14 = .ok (.ireturn, 1) := by decide +kernel
def finX4_hoursOrNone (N : Ml) : Int32 × Mi → Option Value × Mi × Ml := fun b => (some (Value.int b.1), b.2, N)
noncomputable def fX4_hoursOrNone   (M : Mi) (x1 : Int32) : Option (Int32 × Mi) := (if x1 = (-1) then (Option.bind (fX4_finding M 3) (fun a2 => (some (a2.1, (a2.2))))) else (some (x1, M)))
theorem bX4_hoursOrNone {Z : Zt} {E : Ec} {N : Ml} (C : Ok 1 Z E cX4_hoursOrNone 2 RX4 (some .int) 1)    (M : Mi) (x1 : Int32)  : GT Z E 2 (finX4_hoursOrNone N) 0 [(0, .ref (zA Z 8 0)), (1, .int x1)] [] M N (fX4_hoursOrNone M x1) := by
  unfold fX4_hoursOrNone
  refine r_iload_n C dX4_hoursOrNone_0 1 1 rfl rfl ?_
  refine r_iconst (v := (-1)) C dX4_hoursOrNone_1 (by decide) ?_
  refine r_ic_ne (tgt := 13) C dX4_hoursOrNone_2 (by decide) (fun c1 => ?_) (fun c1 => ?_)
  · refine r_iload_n C dX4_hoursOrNone_13 1 1 rfl rfl ?_
    exact r_iret C dX4_hoursOrNone_14 rfl
  · refine r_aload_n C dX4_hoursOrNone_5 0 0 rfl rfl ?_
    refine r_iconst (v := 3) C dX4_hoursOrNone_6 (by decide) ?_
    refine r_bind (fun a2 ha2 => ?_)
    refine r_callV (rest := []) (st2 := [.int a2.1]) C (mX4_finding (eL E) C.z M N 3 a2 ha2) lk_X4_58 (rvX C) (by decide) rfl rfl (Nat.le_of_ble_eq_true rfl) dX4_hoursOrNone_7 rfl ?_
    refine r_goto (tgt := 14) C dX4_hoursOrNone_10 (by decide) ?_
    exact r_iret C dX4_hoursOrNone_14 rfl
theorem mX4_hoursOrNone (l : Launch) {Z : Zt} (hZ : Zok 1 Z) (M : Mi) (N : Ml) (x1 : Int32) (b : Int32 × Mi) (hb : fX4_hoursOrNone M x1 = some b) : Ct 1 Z l yX4_hoursOrNone cX4_hoursOrNone 2 (some .int) 1 [.ref (zA Z 8 0), .int x1] M N (some (Value.int b.1), b.2, N) :=
  metG (fin := (finX4_hoursOrNone N)) (by decide) (Nat.le_of_ble_eq_true rfl) (fun E _ C => bX4_hoursOrNone C M x1) hb
theorem dX4_when_0 : decode cX4_when 0 = .ok (.aload_n 0, 1) := by decide +kernel
theorem dX4_when_1 : decode cX4_when 1 = .ok (.getfield 12, 3) := by decide +kernel
theorem dX4_when_4 : decode cX4_when 4 = .ok (.iload_n 1, 1) := by decide +kernel
theorem dX4_when_5 : decode cX4_when 5 = .ok (.invokevirtual 101, 3) := by decide +kernel
theorem dX4_when_8 : decode cX4_when 8 = .ok (.ifCond .eq 10, 3) := by decide +kernel
theorem dX4_when_11 : decode cX4_when 11 = .ok (.iload_n 2, 1) := by decide +kernel
theorem dX4_when_12 : decode cX4_when 12 = .ok (.invokestatic 51, 3) := by decide +kernel
theorem dX4_when_15 : decode cX4_when 15 = .ok (.ifCond .ne 9, 3) := by decide +kernel
theorem dX4_when_18 : decode cX4_when 18 = .ok (.aload_n 0, 1) := by decide +kernel
theorem dX4_when_19 : decode cX4_when 19 = .ok (.iconst 0, 1) := by decide +kernel
theorem dX4_when_20 : decode cX4_when 20 = .ok (.invokevirtual 58, 3) := by decide +kernel
theorem dX4_when_23 : decode cX4_when 23 = .ok (.ireturn, 1) := by decide +kernel
theorem dX4_when_24 : decode cX4_when 24 = .ok (.aload_n 0, 1) := by decide +kernel
theorem dX4_when_25 : decode cX4_when 25 = .ok (.getfield 16, 3) := by decide +kernel
theorem dX4_when_28 : decode cX4_when 28 = .ok (.aload_n 0, 1) := by decide +kernel
theorem dX4_when_29 : decode cX4_when 29 = .ok (.getfield 12, 3) := by decide +kernel
theorem dX4_when_32 : decode cX4_when 32 = .ok (.invokevirtual 163, 3) := by decide +kernel
theorem dX4_when_35 : decode cX4_when 35 = .ok (.aload_n 0, 1) := by decide +kernel
theorem dX4_when_36 : decode cX4_when 36 = .ok (.aload_n 0, 1) := by decide +kernel
theorem dX4_when_37 : decode cX4_when 37 = .ok (.getfield 16, 3) := by decide +kernel
theorem dX4_when_40 : decode cX4_when 40 = .ok (.iload_n 1, 1) := by decide +kernel
theorem dX4_when_41 : decode cX4_when 41 = .ok (.iload_n 2, 1) := by decide +kernel
theorem dX4_when_42 : decode cX4_when 42 = .ok (.bipush 72, 2) := by decide +kernel
theorem dX4_when_44 : decode cX4_when 44 = .ok (.invokevirtual 167, 3) := by decide +kernel
theorem dX4_when_47 : decode cX4_when 47 = .ok (.invokevirtual 170, 3) := by decide +kernel
theorem dX4_when_50 : decode cX4_when 50 = .ok (.ireturn, 1) := by decide +kernel
def finX4_when (N : Ml) : Int32 × Mi → Option Value × Mi × Ml := fun b => (some (Value.int b.1), b.2, N)
noncomputable def fX4_when_18   (M : Mi) : Option (Int32 × Mi) := (Option.bind (fX4_finding M 0) (fun a2 => (some (a2.1, (a2.2)))))
theorem bX4_when_18 {Z : Zt} {E : Ec} {N : Ml} (C : Ok 1 Z E cX4_when 3 RX4 (some .int) 5)    (M : Mi)  : GT Z E 3 (finX4_when N) 18 [(0, .ref (zA Z 8 0))] [] M N (fX4_when_18 M) := by
  unfold fX4_when_18
  refine r_aload_n C dX4_when_18 0 0 rfl rfl ?_
  refine r_iconst (v := 0) C dX4_when_19 (by decide) ?_
  refine r_bind (fun a2 ha2 => ?_)
  refine r_callV (rest := []) (st2 := [.int a2.1]) C (mX4_finding (eL E) C.z M N 0 a2 ha2) lk_X4_58 (rvX C) (by decide) rfl rfl (Nat.le_of_ble_eq_true rfl) dX4_when_20 rfl ?_
  exact r_iret C dX4_when_23 rfl
noncomputable def fX4_when   (M : Mi) (x1 : Int32) (x2 : Int32) : Option (Int32 × Mi) := (if (fX0_has (M 0) x1) = 0 then (fX4_when_18 M) else (if (fX4_isCell x2) = 0 then (fX4_when_18 M) else (Option.bind (fX0_becomes (M 0) (M 1)) (fun a4 => (Option.bind (fX0_hoursTill a4 x1 x2 72) (fun a5 => (Option.bind (fX4_hoursOrNone (sR M 1 (a5.2)) a5.1) (fun a6 => (some (a6.1, (a6.2)))))))))))
theorem bX4_when {Z : Zt} {E : Ec} {N : Ml} (C : Ok 1 Z E cX4_when 3 RX4 (some .int) 5)    (M : Mi) (x1 : Int32) (x2 : Int32)  : GT Z E 3 (finX4_when N) 0 [(0, .ref (zA Z 8 0)), (1, .int x1), (2, .int x2)] [] M N (fX4_when M x1 x2) := by
  unfold fX4_when
  refine r_aload_n C dX4_when_0 0 0 rfl rfl ?_
  refine gf_X4_12 C dX4_when_1 ?_
  refine r_iload_n C dX4_when_4 1 1 rfl rfl ?_
  refine r_callV (rest := []) (st2 := [.int (fX0_has (M 0) x1)]) C (mX0_has (eL E) C.z (by decide) M _ (M 0) x1).selfR lk_X4_101 (rvI C (by decide)) (by decide) rfl rfl (Nat.le_of_ble_eq_true rfl) dX4_when_5 rfl ?_
  refine r_if_eq (tgt := 18) C dX4_when_8 (by decide) (fun c1 => ?_) (fun c1 => ?_)
  · refine r_lv [0] (lv' := [(0, .ref (zA Z 8 0))]) rfl ?_
    exact bX4_when_18 C M
  · refine r_iload_n C dX4_when_11 2 2 rfl rfl ?_
    refine r_callS (rest := []) (st2 := [.int (fX4_isCell x2)]) C (mX4_isCell (eL E) C.z _ _ x2) lk_X4_51 (by decide) rfl rfl (Nat.le_of_ble_eq_true rfl) dX4_when_12 rfl ?_
    refine r_if_ne (tgt := 24) C dX4_when_15 (by decide) (fun c3 => ?_) (fun c3 => ?_)
    · refine r_aload_n C dX4_when_24 0 0 rfl rfl ?_
      refine gf_X4_16 C dX4_when_25 ?_
      refine r_aload_n C dX4_when_28 0 0 rfl rfl ?_
      refine gf_X4_12 C dX4_when_29 ?_
      refine r_bind (fun a4 ha4 => ?_)
      refine r_callV (rest := []) (st2 := []) C (mX0_becomes (eL E) C.z (by decide) (by decide) (by decide) M _ (M 1) a4 ha4).selfW lk_X4_163 (rvI C (by decide)) (by decide) rfl rfl (Nat.le_of_ble_eq_true rfl) dX4_when_32 rfl ?_
      refine r_aload_n C dX4_when_35 0 0 rfl rfl ?_
      refine r_aload_n C dX4_when_36 0 0 rfl rfl ?_
      refine gf_X4_16 C dX4_when_37 ?_
      refine r_iload_n C dX4_when_40 1 1 rfl rfl ?_
      refine r_iload_n C dX4_when_41 2 2 rfl rfl ?_
      refine r_bipush (v := 72) C dX4_when_42 (by decide) ?_
      refine r_bind (fun a5 ha5 => ?_)
      refine r_callV (rest := [.ref (zA Z 8 0)]) (st2 := [.int a5.1, .ref (zA Z 8 0)]) C (mX0_hoursTill (eL E) C.z (by decide) M _ a4 x1 x2 72 a5 ha5) lk_X4_167 (rvI C (by decide)) (by decide) rfl rfl (Nat.le_of_ble_eq_true rfl) dX4_when_44 rfl ?_
      refine r_bind (fun a6 ha6 => ?_)
      refine r_callV (rest := []) (st2 := [.int a6.1]) C (mX4_hoursOrNone (eL E) C.z (sR M 1 (a5.2)) N a5.1 a6 ha6) lk_X4_170 (rvX C) (by decide) rfl rfl (Nat.le_of_ble_eq_true rfl) dX4_when_47 rfl ?_
      exact r_iret C dX4_when_50 rfl
    · refine r_lv [0] (lv' := [(0, .ref (zA Z 8 0))]) rfl ?_
      exact bX4_when_18 C M
theorem mX4_when (l : Launch) {Z : Zt} (hZ : Zok 1 Z) (M : Mi) (N : Ml) (x1 : Int32) (x2 : Int32) (b : Int32 × Mi) (hb : fX4_when M x1 x2 = some b) : Ct 1 Z l yX4_when cX4_when 3 (some .int) 5 [.ref (zA Z 8 0), .int x1, .int x2] M N (some (Value.int b.1), b.2, N) :=
  metG (fin := (finX4_when N)) (by decide) (Nat.le_of_ble_eq_true rfl) (fun E _ C => bX4_when C M x1 x2) hb
theorem dX4_meet_0 : decode cX4_meet 0 = .ok (.aload_n 0, 1) := by decide +kernel
theorem dX4_meet_1 : decode cX4_meet 1 = .ok (.iload_n 1, 1) := by decide +kernel
theorem dX4_meet_2 : decode cX4_meet 2 = .ok (.iload_n 2, 1) := by decide +kernel
theorem dX4_meet_3 : decode cX4_meet 3 = .ok (.invokevirtual 126, 3) := by decide +kernel
theorem dX4_meet_6 : decode cX4_meet 6 = .ok (.ifCond .ne 9, 3) := by decide +kernel
theorem dX4_meet_9 : decode cX4_meet 9 = .ok (.aload_n 0, 1) := by decide +kernel
theorem dX4_meet_10 : decode cX4_meet 10 = .ok (.iconst 0, 1) := by decide +kernel
theorem dX4_meet_11 : decode cX4_meet 11 = .ok (.invokevirtual 58, 3) := by decide +kernel
theorem dX4_meet_14 : decode cX4_meet 14 = .ok (.ireturn, 1) := by decide +kernel
theorem dX4_meet_15 : decode cX4_meet 15 = .ok (.aload_n 0, 1) := by decide +kernel
theorem dX4_meet_16 : decode cX4_meet 16 = .ok (.getfield 16, 3) := by decide +kernel
theorem dX4_meet_19 : decode cX4_meet 19 = .ok (.aload_n 0, 1) := by decide +kernel
theorem dX4_meet_20 : decode cX4_meet 20 = .ok (.getfield 12, 3) := by decide +kernel
theorem dX4_meet_23 : decode cX4_meet 23 = .ok (.invokevirtual 163, 3) := by decide +kernel
theorem dX4_meet_26 : decode cX4_meet 26 = .ok (.aload_n 0, 1) := by decide +kernel
theorem dX4_meet_27 : decode cX4_meet 27 = .ok (.aload_n 0, 1) := by decide +kernel
theorem dX4_meet_28 : decode cX4_meet 28 = .ok (.getfield 16, 3) := by decide +kernel
theorem dX4_meet_31 : decode cX4_meet 31 = .ok (.iload_n 1, 1) := by decide +kernel
theorem dX4_meet_32 : decode cX4_meet 32 = .ok (.iload_n 2, 1) := by decide +kernel
theorem dX4_meet_33 : decode cX4_meet 33 = .ok (.bipush 72, 2) := by decide +kernel
theorem dX4_meet_35 : decode cX4_meet 35 = .ok (.invokevirtual 173, 3) := by decide +kernel
theorem dX4_meet_38 : decode cX4_meet 38 = .ok (.invokevirtual 170, 3) := by decide +kernel
theorem dX4_meet_41 : decode cX4_meet 41 = .ok (.ireturn, 1) := by decide +kernel
def finX4_meet (N : Ml) : Int32 × Mi → Option Value × Mi × Ml := fun b => (some (Value.int b.1), b.2, N)
noncomputable def fX4_meet   (M : Mi) (x1 : Int32) (x2 : Int32) : Option (Int32 × Mi) := (if (fX4_areTwo M x1 x2) = 0 then (Option.bind (fX4_finding M 0) (fun a5 => (some (a5.1, (a5.2))))) else (Option.bind (fX0_becomes (M 0) (M 1)) (fun a2 => (Option.bind (fX0_hoursTillTogether a2 x1 x2 72) (fun a3 => (Option.bind (fX4_hoursOrNone (sR M 1 (a3.2)) a3.1) (fun a4 => (some (a4.1, (a4.2))))))))))
theorem bX4_meet {Z : Zt} {E : Ec} {N : Ml} (C : Ok 1 Z E cX4_meet 3 RX4 (some .int) 5)    (M : Mi) (x1 : Int32) (x2 : Int32)  : GT Z E 3 (finX4_meet N) 0 [(0, .ref (zA Z 8 0)), (1, .int x1), (2, .int x2)] [] M N (fX4_meet M x1 x2) := by
  unfold fX4_meet
  refine r_aload_n C dX4_meet_0 0 0 rfl rfl ?_
  refine r_iload_n C dX4_meet_1 1 1 rfl rfl ?_
  refine r_iload_n C dX4_meet_2 2 2 rfl rfl ?_
  refine r_callV (rest := []) (st2 := [.int (fX4_areTwo M x1 x2)]) C (mX4_areTwo (eL E) C.z M N x1 x2) lk_X4_126 (rvX C) (by decide) rfl rfl (Nat.le_of_ble_eq_true rfl) dX4_meet_3 rfl ?_
  refine r_if_ne (tgt := 15) C dX4_meet_6 (by decide) (fun c1 => ?_) (fun c1 => ?_)
  · refine r_aload_n C dX4_meet_15 0 0 rfl rfl ?_
    refine gf_X4_16 C dX4_meet_16 ?_
    refine r_aload_n C dX4_meet_19 0 0 rfl rfl ?_
    refine gf_X4_12 C dX4_meet_20 ?_
    refine r_bind (fun a2 ha2 => ?_)
    refine r_callV (rest := []) (st2 := []) C (mX0_becomes (eL E) C.z (by decide) (by decide) (by decide) M _ (M 1) a2 ha2).selfW lk_X4_163 (rvI C (by decide)) (by decide) rfl rfl (Nat.le_of_ble_eq_true rfl) dX4_meet_23 rfl ?_
    refine r_aload_n C dX4_meet_26 0 0 rfl rfl ?_
    refine r_aload_n C dX4_meet_27 0 0 rfl rfl ?_
    refine gf_X4_16 C dX4_meet_28 ?_
    refine r_iload_n C dX4_meet_31 1 1 rfl rfl ?_
    refine r_iload_n C dX4_meet_32 2 2 rfl rfl ?_
    refine r_bipush (v := 72) C dX4_meet_33 (by decide) ?_
    refine r_bind (fun a3 ha3 => ?_)
    refine r_callV (rest := [.ref (zA Z 8 0)]) (st2 := [.int a3.1, .ref (zA Z 8 0)]) C (mX0_hoursTillTogether (eL E) C.z (by decide) M _ a2 x1 x2 72 a3 ha3) lk_X4_173 (rvI C (by decide)) (by decide) rfl rfl (Nat.le_of_ble_eq_true rfl) dX4_meet_35 rfl ?_
    refine r_bind (fun a4 ha4 => ?_)
    refine r_callV (rest := []) (st2 := [.int a4.1]) C (mX4_hoursOrNone (eL E) C.z (sR M 1 (a3.2)) N a3.1 a4 ha4) lk_X4_170 (rvX C) (by decide) rfl rfl (Nat.le_of_ble_eq_true rfl) dX4_meet_38 rfl ?_
    exact r_iret C dX4_meet_41 rfl
  · refine r_aload_n C dX4_meet_9 0 0 rfl rfl ?_
    refine r_iconst (v := 0) C dX4_meet_10 (by decide) ?_
    refine r_bind (fun a5 ha5 => ?_)
    refine r_callV (rest := []) (st2 := [.int a5.1]) C (mX4_finding (eL E) C.z M N 0 a5 ha5) lk_X4_58 (rvX C) (by decide) rfl rfl (Nat.le_of_ble_eq_true rfl) dX4_meet_11 rfl ?_
    exact r_iret C dX4_meet_14 rfl
theorem mX4_meet (l : Launch) {Z : Zt} (hZ : Zok 1 Z) (M : Mi) (N : Ml) (x1 : Int32) (x2 : Int32) (b : Int32 × Mi) (hb : fX4_meet M x1 x2 = some b) : Ct 1 Z l yX4_meet cX4_meet 3 (some .int) 5 [.ref (zA Z 8 0), .int x1, .int x2] M N (some (Value.int b.1), b.2, N) :=
  metG (fin := (finX4_meet N)) (by decide) (Nat.le_of_ble_eq_true rfl) (fun E _ C => bX4_meet C M x1 x2) hb
theorem dX4_carries_0 : decode cX4_carries 0 = .ok (.iload_n 1, 1) := by decide +kernel
theorem dX4_carries_1 : decode cX4_carries 1 = .ok (.invokestatic 129, 3) := by decide +kernel
theorem dX4_carries_4 : decode cX4_carries 4 = .ok (.ifCond .eq 10, 3) := by decide +kernel
theorem dX4_carries_7 : decode cX4_carries 7 = .ok (.iload_n 2, 1) := by decide +kernel
theorem dX4_carries_8 : decode cX4_carries 8 = .ok (.invokestatic 160, 3) := by decide +kernel
theorem dX4_carries_11 : decode cX4_carries 11 = .ok (.ifCond .ne 9, 3) := by decide +kernel
theorem dX4_carries_14 : decode cX4_carries 14 = .ok (.aload_n 0, 1) := by decide +kernel
theorem dX4_carries_15 : decode cX4_carries 15 = .ok (.iconst 0, 1) := by decide +kernel
theorem dX4_carries_16 : decode cX4_carries 16 = .ok (.invokevirtual 58, 3) := by decide +kernel
theorem dX4_carries_19 : decode cX4_carries 19 = .ok (.ireturn, 1) := by decide +kernel
theorem dX4_carries_20 : decode cX4_carries 20 = .ok (.aload_n 0, 1) := by decide +kernel
theorem dX4_carries_21 : decode cX4_carries 21 = .ok (.getfield 16, 3) := by decide +kernel
theorem dX4_carries_24 : decode cX4_carries 24 = .ok (.aload_n 0, 1) := by decide +kernel
theorem dX4_carries_25 : decode cX4_carries 25 = .ok (.getfield 12, 3) := by decide +kernel
theorem dX4_carries_28 : decode cX4_carries 28 = .ok (.invokevirtual 163, 3) := by decide +kernel
theorem dX4_carries_31 : decode cX4_carries 31 = .ok (.aload_n 0, 1) := by decide +kernel
theorem dX4_carries_32 : decode cX4_carries 32 = .ok (.getfield 16, 3) := by decide +kernel
theorem dX4_carries_35 : decode cX4_carries 35 = .ok (.iload_n 2, 1) := by decide +kernel
theorem dX4_carries_36 : decode cX4_carries 36 = .ok (.invokevirtual 139, 3) := by decide +kernel
theorem dX4_carries_39 : decode cX4_carries 39 = .ok (.aload_n 0, 1) := by decide +kernel
theorem dX4_carries_40 : decode cX4_carries 40 = .ok (.getfield 16, 3) := by decide +kernel
theorem dX4_carries_43 : decode cX4_carries 43 = .ok (.iload_n 1, 1) := by decide +kernel
theorem dX4_carries_44 : decode cX4_carries 44 = .ok (.invokevirtual 176, 3) := by decide +kernel
theorem dX4_carries_47 : decode cX4_carries 47 = .ok (.ireturn, 1) := by decide +kernel
def finX4_carries (N : Ml) : Int32 × Mi → Option Value × Mi × Ml := fun b => (some (Value.int b.1), b.2, N)
noncomputable def fX4_carries_14   (M : Mi) : Option (Int32 × Mi) := (Option.bind (fX4_finding M 0) (fun a2 => (some (a2.1, (a2.2)))))
theorem bX4_carries_14 {Z : Zt} {E : Ec} {N : Ml} (C : Ok 1 Z E cX4_carries 3 RX4 (some .int) 5)    (M : Mi)  : GT Z E 3 (finX4_carries N) 14 [(0, .ref (zA Z 8 0))] [] M N (fX4_carries_14 M) := by
  unfold fX4_carries_14
  refine r_aload_n C dX4_carries_14 0 0 rfl rfl ?_
  refine r_iconst (v := 0) C dX4_carries_15 (by decide) ?_
  refine r_bind (fun a2 ha2 => ?_)
  refine r_callV (rest := []) (st2 := [.int a2.1]) C (mX4_finding (eL E) C.z M N 0 a2 ha2) lk_X4_58 (rvX C) (by decide) rfl rfl (Nat.le_of_ble_eq_true rfl) dX4_carries_16 rfl ?_
  exact r_iret C dX4_carries_19 rfl
noncomputable def fX4_carries   (M : Mi) (x1 : Int32) (x2 : Int32) : Option (Int32 × Mi) := (if (fX4_isSubject x1) = 0 then (fX4_carries_14 M) else (if (fX4_isForeseen x2) = 0 then (fX4_carries_14 M) else (Option.bind (fX0_becomes (M 0) (M 1)) (fun a4 => (Option.bind (fX0_goHours a4 x2) (fun a5 => (Option.bind (fX0_tortoisesWith a5 x1) (fun a6 => (some (a6, (sR M 1 a5)))))))))))
theorem bX4_carries {Z : Zt} {E : Ec} {N : Ml} (C : Ok 1 Z E cX4_carries 3 RX4 (some .int) 5)    (M : Mi) (x1 : Int32) (x2 : Int32)  : GT Z E 3 (finX4_carries N) 0 [(0, .ref (zA Z 8 0)), (1, .int x1), (2, .int x2)] [] M N (fX4_carries M x1 x2) := by
  unfold fX4_carries
  refine r_iload_n C dX4_carries_0 1 1 rfl rfl ?_
  refine r_callS (rest := []) (st2 := [.int (fX4_isSubject x1)]) C (mX4_isSubject (eL E) C.z _ _ x1) lk_X4_129 (by decide) rfl rfl (Nat.le_of_ble_eq_true rfl) dX4_carries_1 rfl ?_
  refine r_if_eq (tgt := 14) C dX4_carries_4 (by decide) (fun c1 => ?_) (fun c1 => ?_)
  · refine r_lv [0] (lv' := [(0, .ref (zA Z 8 0))]) rfl ?_
    exact bX4_carries_14 C M
  · refine r_iload_n C dX4_carries_7 2 2 rfl rfl ?_
    refine r_callS (rest := []) (st2 := [.int (fX4_isForeseen x2)]) C (mX4_isForeseen (eL E) C.z _ _ x2) lk_X4_160 (by decide) rfl rfl (Nat.le_of_ble_eq_true rfl) dX4_carries_8 rfl ?_
    refine r_if_ne (tgt := 20) C dX4_carries_11 (by decide) (fun c3 => ?_) (fun c3 => ?_)
    · refine r_aload_n C dX4_carries_20 0 0 rfl rfl ?_
      refine gf_X4_16 C dX4_carries_21 ?_
      refine r_aload_n C dX4_carries_24 0 0 rfl rfl ?_
      refine gf_X4_12 C dX4_carries_25 ?_
      refine r_bind (fun a4 ha4 => ?_)
      refine r_callV (rest := []) (st2 := []) C (mX0_becomes (eL E) C.z (by decide) (by decide) (by decide) M _ (M 1) a4 ha4).selfW lk_X4_163 (rvI C (by decide)) (by decide) rfl rfl (Nat.le_of_ble_eq_true rfl) dX4_carries_28 rfl ?_
      refine r_aload_n C dX4_carries_31 0 0 rfl rfl ?_
      refine gf_X4_16 C dX4_carries_32 ?_
      refine r_iload_n C dX4_carries_35 2 2 rfl rfl ?_
      refine r_bind (fun a5 ha5 => ?_)
      refine r_callV (rest := []) (st2 := []) C (mX0_goHours (eL E) C.z (by decide) M _ a4 x2 a5 ha5) lk_X4_139 (rvI C (by decide)) (by decide) rfl rfl (Nat.le_of_ble_eq_true rfl) dX4_carries_36 rfl ?_
      refine r_aload_n C dX4_carries_39 0 0 rfl rfl ?_
      refine gf_X4_16 C dX4_carries_40 ?_
      refine r_iload_n C dX4_carries_43 1 1 rfl rfl ?_
      refine r_bind (fun a6 ha6 => ?_)
      refine r_callV (rest := []) (st2 := [.int a6]) C (mX0_tortoisesWith (eL E) C.z (by decide) M _ a5 x1 a6 ha6) lk_X4_176 (rvI C (by decide)) (by decide) rfl rfl (Nat.le_of_ble_eq_true rfl) dX4_carries_44 rfl ?_
      exact r_iret C dX4_carries_47 rfl
    · refine r_lv [0] (lv' := [(0, .ref (zA Z 8 0))]) rfl ?_
      exact bX4_carries_14 C M
theorem mX4_carries (l : Launch) {Z : Zt} (hZ : Zok 1 Z) (M : Mi) (N : Ml) (x1 : Int32) (x2 : Int32) (b : Int32 × Mi) (hb : fX4_carries M x1 x2 = some b) : Ct 1 Z l yX4_carries cX4_carries 3 (some .int) 5 [.ref (zA Z 8 0), .int x1, .int x2] M N (some (Value.int b.1), b.2, N) :=
  metG (fin := (finX4_carries N)) (by decide) (Nat.le_of_ble_eq_true rfl) (fun E _ C => bX4_carries C M x1 x2) hb
theorem dX4_askOfReader_0 : decode cX4_askOfReader 0 = .ok (.iload_n 1, 1) := by decide +kernel
theorem dX4_askOfReader_1 : decode cX4_askOfReader 1 = .ok (.invokestatic 51, 3) := by decide +kernel
theorem dX4_askOfReader_4 : decode cX4_askOfReader 4 = .ok (.ifCond .eq 10, 3) := by decide +kernel
theorem dX4_askOfReader_7 : decode cX4_askOfReader 7 = .ok (.iload_n 2, 1) := by decide +kernel
theorem dX4_askOfReader_8 : decode cX4_askOfReader 8 = .ok (.invokestatic 129, 3) := by decide +kernel
theorem dX4_askOfReader_11 : decode cX4_askOfReader 11 = .ok (.ifCond .ne 9, 3) := by decide +kernel
theorem dX4_askOfReader_14 : decode cX4_askOfReader 14 = .ok (.aload_n 0, 1) := by decide +kernel
theorem dX4_askOfReader_15 : decode cX4_askOfReader 15 = .ok (.iconst 0, 1) := by decide +kernel
theorem dX4_askOfReader_16 : decode cX4_askOfReader 16 = .ok (.invokevirtual 58, 3) := by decide +kernel
theorem dX4_askOfReader_19 : decode cX4_askOfReader 19 = .ok (.ireturn, 1) := by decide +kernel
theorem dX4_askOfReader_20 : decode cX4_askOfReader 20 = .ok (.aload_n 0, 1) := by decide +kernel
theorem dX4_askOfReader_21 : decode cX4_askOfReader 21 = .ok (.getfield 12, 3) := by decide +kernel
theorem dX4_askOfReader_24 : decode cX4_askOfReader 24 = .ok (.iload_n 1, 1) := by decide +kernel
theorem dX4_askOfReader_25 : decode cX4_askOfReader 25 = .ok (.invokevirtual 62, 3) := by decide +kernel
theorem dX4_askOfReader_28 : decode cX4_askOfReader 28 = .ok (.ifCond .eq 11, 3) := by decide +kernel
theorem dX4_askOfReader_31 : decode cX4_askOfReader 31 = .ok (.aload_n 0, 1) := by decide +kernel
theorem dX4_askOfReader_32 : decode cX4_askOfReader 32 = .ok (.iconst 4, 1) := by decide +kernel
theorem dX4_askOfReader_33 : decode cX4_askOfReader 33 = .ok (.invokevirtual 58, 3) := by decide +kernel
theorem dX4_askOfReader_36 : decode cX4_askOfReader 36 = .ok (.goto 4, 3) := by decide +kernel
theorem dX4_askOfReader_39 : decode cX4_askOfReader 39 = .ok (.iconst 0, 1) := by decide +kernel
theorem dX4_askOfReader_40 : decode cX4_askOfReader 40 = .ok (.ireturn, 1) := by decide +kernel
def finX4_askOfReader (N : Ml) : Int32 × Mi → Option Value × Mi × Ml := fun b => (some (Value.int b.1), b.2, N)
noncomputable def fX4_askOfReader_14   (M : Mi) : Option (Int32 × Mi) := (Option.bind (fX4_finding M 0) (fun a2 => (some (a2.1, (a2.2)))))
theorem bX4_askOfReader_14 {Z : Zt} {E : Ec} {N : Ml} (C : Ok 1 Z E cX4_askOfReader 3 RX4 (some .int) 2)    (M : Mi)  : GT Z E 3 (finX4_askOfReader N) 14 [(0, .ref (zA Z 8 0))] [] M N (fX4_askOfReader_14 M) := by
  unfold fX4_askOfReader_14
  refine r_aload_n C dX4_askOfReader_14 0 0 rfl rfl ?_
  refine r_iconst (v := 0) C dX4_askOfReader_15 (by decide) ?_
  refine r_bind (fun a2 ha2 => ?_)
  refine r_callV (rest := []) (st2 := [.int a2.1]) C (mX4_finding (eL E) C.z M N 0 a2 ha2) lk_X4_58 (rvX C) (by decide) rfl rfl (Nat.le_of_ble_eq_true rfl) dX4_askOfReader_16 rfl ?_
  exact r_iret C dX4_askOfReader_19 rfl
noncomputable def fX4_askOfReader   (M : Mi) (x1 : Int32) (x2 : Int32) : Option (Int32 × Mi) := (if (fX4_isCell x1) = 0 then (fX4_askOfReader_14 M) else (if (fX4_isSubject x2) = 0 then (fX4_askOfReader_14 M) else (if (fX0_isFenced (M 0) x1) = 0 then (some (0, M)) else (Option.bind (fX4_finding M 4) (fun a5 => (some (a5.1, (a5.2))))))))
theorem bX4_askOfReader {Z : Zt} {E : Ec} {N : Ml} (C : Ok 1 Z E cX4_askOfReader 3 RX4 (some .int) 2)    (M : Mi) (x1 : Int32) (x2 : Int32)  : GT Z E 3 (finX4_askOfReader N) 0 [(0, .ref (zA Z 8 0)), (1, .int x1), (2, .int x2)] [] M N (fX4_askOfReader M x1 x2) := by
  unfold fX4_askOfReader
  refine r_iload_n C dX4_askOfReader_0 1 1 rfl rfl ?_
  refine r_callS (rest := []) (st2 := [.int (fX4_isCell x1)]) C (mX4_isCell (eL E) C.z _ _ x1) lk_X4_51 (by decide) rfl rfl (Nat.le_of_ble_eq_true rfl) dX4_askOfReader_1 rfl ?_
  refine r_if_eq (tgt := 14) C dX4_askOfReader_4 (by decide) (fun c1 => ?_) (fun c1 => ?_)
  · refine r_lv [0] (lv' := [(0, .ref (zA Z 8 0))]) rfl ?_
    exact bX4_askOfReader_14 C M
  · refine r_iload_n C dX4_askOfReader_7 2 2 rfl rfl ?_
    refine r_callS (rest := []) (st2 := [.int (fX4_isSubject x2)]) C (mX4_isSubject (eL E) C.z _ _ x2) lk_X4_129 (by decide) rfl rfl (Nat.le_of_ble_eq_true rfl) dX4_askOfReader_8 rfl ?_
    refine r_if_ne (tgt := 20) C dX4_askOfReader_11 (by decide) (fun c3 => ?_) (fun c3 => ?_)
    · refine r_aload_n C dX4_askOfReader_20 0 0 rfl rfl ?_
      refine gf_X4_12 C dX4_askOfReader_21 ?_
      refine r_iload_n C dX4_askOfReader_24 1 1 rfl rfl ?_
      refine r_callV (rest := []) (st2 := [.int (fX0_isFenced (M 0) x1)]) C (mX0_isFenced (eL E) C.z (by decide) M _ (M 0) x1).selfR lk_X4_62 (rvI C (by decide)) (by decide) rfl rfl (Nat.le_of_ble_eq_true rfl) dX4_askOfReader_25 rfl ?_
      refine r_if_eq (tgt := 39) C dX4_askOfReader_28 (by decide) (fun c4 => ?_) (fun c4 => ?_)
      · refine r_iconst (v := 0) C dX4_askOfReader_39 (by decide) ?_
        exact r_iret C dX4_askOfReader_40 rfl
      · refine r_aload_n C dX4_askOfReader_31 0 0 rfl rfl ?_
        refine r_iconst (v := 4) C dX4_askOfReader_32 (by decide) ?_
        refine r_bind (fun a5 ha5 => ?_)
        refine r_callV (rest := []) (st2 := [.int a5.1]) C (mX4_finding (eL E) C.z M N 4 a5 ha5) lk_X4_58 (rvX C) (by decide) rfl rfl (Nat.le_of_ble_eq_true rfl) dX4_askOfReader_33 rfl ?_
        refine r_goto (tgt := 40) C dX4_askOfReader_36 (by decide) ?_
        exact r_iret C dX4_askOfReader_40 rfl
    · refine r_lv [0] (lv' := [(0, .ref (zA Z 8 0))]) rfl ?_
      exact bX4_askOfReader_14 C M
theorem mX4_askOfReader (l : Launch) {Z : Zt} (hZ : Zok 1 Z) (M : Mi) (N : Ml) (x1 : Int32) (x2 : Int32) (b : Int32 × Mi) (hb : fX4_askOfReader M x1 x2 = some b) : Ct 1 Z l yX4_askOfReader cX4_askOfReader 3 (some .int) 2 [.ref (zA Z 8 0), .int x1, .int x2] M N (some (Value.int b.1), b.2, N) :=
  metG (fin := (finX4_askOfReader N)) (by decide) (Nat.le_of_ble_eq_true rfl) (fun E _ C => bX4_askOfReader C M x1 x2) hb
theorem dX4_soonest_0 : decode cX4_soonest 0 = .ok (.aload_n 0, 1) := by decide +kernel
theorem dX4_soonest_1 : decode cX4_soonest 1 = .ok (.iload_n 1, 1) := by decide +kernel
theorem dX4_soonest_2 : decode cX4_soonest 2 = .ok (.iload_n 2, 1) := by decide +kernel
theorem dX4_soonest_3 : decode cX4_soonest 3 = .ok (.invokevirtual 179, 3) := by decide +kernel
theorem dX4_soonest_6 : decode cX4_soonest 6 = .ok (.istore_n 3, 1) := by decide +kernel
theorem dX4_soonest_7 : decode cX4_soonest 7 = .ok (.iload_n 3, 1) := by decide +kernel
theorem dX4_soonest_8 : decode cX4_soonest 8 = .ok (.ifCond .eq 5, 3) := by decide +kernel
theorem dX4_soonest_11 : decode cX4_soonest 11 = .ok (.iload_n 3, 1) := by decide +kernel
theorem dX4_soonest_12 : decode cX4_soonest 12 = .ok (.ireturn, 1) := by decide +kernel
theorem dX4_soonest_13 : decode cX4_soonest 13 = .ok (.aload_n 0, 1) := by decide +kernel
theorem dX4_soonest_14 : decode cX4_soonest 14 = .ok (.getfield 25, 3) := by decide +kernel
theorem dX4_soonest_17 : decode cX4_soonest 17 = .ok (.iload_n 1, 1) := by decide +kernel
theorem dX4_soonest_18 : decode cX4_soonest 18 = .ok (.aload_n 0, 1) := by decide +kernel
theorem dX4_soonest_19 : decode cX4_soonest 19 = .ok (.getfield 12, 3) := by decide +kernel
theorem dX4_soonest_22 : decode cX4_soonest 22 = .ok (.invokevirtual 183, 3) := by decide +kernel
theorem dX4_soonest_25 : decode cX4_soonest 25 = .ok (.aload_n 0, 1) := by decide +kernel
theorem dX4_soonest_26 : decode cX4_soonest 26 = .ok (.aload_n 0, 1) := by decide +kernel
theorem dX4_soonest_27 : decode cX4_soonest 27 = .ok (.getfield 25, 3) := by decide +kernel
theorem dX4_soonest_30 : decode cX4_soonest 30 = .ok (.iload_n 2, 1) := by decide +kernel
theorem dX4_soonest_31 : decode cX4_soonest 31 = .ok (.bipush 48, 2) := by decide +kernel
theorem dX4_soonest_33 : decode cX4_soonest 33 = .ok (.invokevirtual 187, 3) := by decide +kernel
theorem dX4_soonest_36 : decode cX4_soonest 36 = .ok (.invokevirtual 170, 3) := by decide +kernel
theorem dX4_soonest_39 : decode cX4_soonest 39 = .ok (.ireturn, 1) := by decide +kernel
def finX4_soonest (N : Ml) : Int32 × Mi → Option Value × Mi × Ml := fun b => (some (Value.int b.1), b.2, N)
noncomputable def fX4_soonest   (M : Mi) (x1 : Int32) (x2 : Int32) : Option (Int32 × Mi) := (Option.bind (fX4_askOfReader M x1 x2) (fun a1 => (if a1.1 = 0 then (Option.bind (fX1_goesFrom (a1.2) x1) (fun a3 => (Option.bind (fX1_seek a3 x2 48) (fun a4 => (Option.bind (fX4_hoursOrNone (a4.2) a4.1) (fun a5 => (some (a5.1, (a5.2))))))))) else (some (a1.1, (a1.2))))))
theorem bX4_soonest {Z : Zt} {E : Ec} {N : Ml} (C : Ok 1 Z E cX4_soonest 4 RX4 (some .int) 5)    (M : Mi) (x1 : Int32) (x2 : Int32)  : GT Z E 4 (finX4_soonest N) 0 [(0, .ref (zA Z 8 0)), (1, .int x1), (2, .int x2)] [] M N (fX4_soonest M x1 x2) := by
  unfold fX4_soonest
  refine r_aload_n C dX4_soonest_0 0 0 rfl rfl ?_
  refine r_iload_n C dX4_soonest_1 1 1 rfl rfl ?_
  refine r_iload_n C dX4_soonest_2 2 2 rfl rfl ?_
  refine r_bind (fun a1 ha1 => ?_)
  refine r_callV (rest := []) (st2 := [.int a1.1]) C (mX4_askOfReader (eL E) C.z M N x1 x2 a1 ha1) lk_X4_179 (rvX C) (by decide) rfl rfl (Nat.le_of_ble_eq_true rfl) dX4_soonest_3 rfl ?_
  refine r_istore_n (lv' := [(3, .int a1.1), (0, .ref (zA Z 8 0)), (1, .int x1), (2, .int x2)]) C dX4_soonest_6 3 rfl (by decide) rfl ?_
  refine r_iload_n C dX4_soonest_7 3 0 rfl rfl ?_
  refine r_if_eq (tgt := 13) C dX4_soonest_8 (by decide) (fun c2 => ?_) (fun c2 => ?_)
  · refine r_aload_n C dX4_soonest_13 0 1 rfl rfl ?_
    refine gf_X4_25 C dX4_soonest_14 ?_
    refine r_iload_n C dX4_soonest_17 1 2 rfl rfl ?_
    refine r_aload_n C dX4_soonest_18 0 1 rfl rfl ?_
    refine gf_X4_12 C dX4_soonest_19 ?_
    refine r_bind (fun a3 ha3 => ?_)
    refine r_callV (rest := []) (st2 := []) C (mX1_goesFrom (eL E) C.z (a1.2) N x1 a3 ha3) lk_X4_183 (rvR C) (by decide) rfl rfl (Nat.le_of_ble_eq_true rfl) dX4_soonest_22 rfl ?_
    refine r_aload_n C dX4_soonest_25 0 1 rfl rfl ?_
    refine r_aload_n C dX4_soonest_26 0 1 rfl rfl ?_
    refine gf_X4_25 C dX4_soonest_27 ?_
    refine r_iload_n C dX4_soonest_30 2 3 rfl rfl ?_
    refine r_bipush (v := 48) C dX4_soonest_31 (by decide) ?_
    refine r_bind (fun a4 ha4 => ?_)
    refine r_callV (rest := [.ref (zA Z 8 0)]) (st2 := [.int a4.1, .ref (zA Z 8 0)]) C (mX1_seek (eL E) C.z a3 N x2 48 a4 ha4) lk_X4_187 (rvR C) (by decide) rfl rfl (Nat.le_of_ble_eq_true rfl) dX4_soonest_33 rfl ?_
    refine r_bind (fun a5 ha5 => ?_)
    refine r_callV (rest := []) (st2 := [.int a5.1]) C (mX4_hoursOrNone (eL E) C.z (a4.2) N a4.1 a5 ha5) lk_X4_170 (rvX C) (by decide) rfl rfl (Nat.le_of_ble_eq_true rfl) dX4_soonest_36 rfl ?_
    exact r_iret C dX4_soonest_39 rfl
  · refine r_iload_n C dX4_soonest_11 3 0 rfl rfl ?_
    exact r_iret C dX4_soonest_12 rfl
theorem mX4_soonest (l : Launch) {Z : Zt} (hZ : Zok 1 Z) (M : Mi) (N : Ml) (x1 : Int32) (x2 : Int32) (b : Int32 × Mi) (hb : fX4_soonest M x1 x2 = some b) : Ct 1 Z l yX4_soonest cX4_soonest 4 (some .int) 5 [.ref (zA Z 8 0), .int x1, .int x2] M N (some (Value.int b.1), b.2, N) :=
  metG (fin := (finX4_soonest N)) (by decide) (Nat.le_of_ble_eq_true rfl) (fun E _ C => bX4_soonest C M x1 x2) hb
theorem dX4_least_0 : decode cX4_least 0 = .ok (.iload_n 0, 1) := by decide +kernel
theorem dX4_least_1 : decode cX4_least 1 = .ok (.iload_n 0, 1) := by decide +kernel
theorem dX4_least_2 : decode cX4_least 2 = .ok (.ineg, 1) := by decide +kernel
theorem dX4_least_3 : decode cX4_least 3 = .ok (.iand, 1) := by decide +kernel
theorem dX4_least_4 : decode cX4_least 4 = .ok (.iconst 1, 1) := by decide +kernel
theorem dX4_least_5 : decode cX4_least 5 = .ok (.isub, 1) := by decide +kernel
theorem dX4_least_6 : decode cX4_least 6 = .ok (.invokestatic 202, 3) := by decide +kernel
theorem dX4_least_9 : decode cX4_least 9 = .ok (.ireturn, 1) := by decide +kernel
def finX4_least (M : Mi) (N : Ml) : Int32 → Option Value × Mi × Ml := fun b => (some (Value.int b), M, N)
noncomputable def fX4_least   (x0 : Int32) : Int32 := (fJ6_bitCount_0f7a4 ((x0 &&& (-x0)) - 1))
theorem bX4_least {Z : Zt} {E : Ec} {M : Mi} {N : Ml} (C : Ok 1 Z E cX4_least 1 RX4 (some .int) 1)    (x0 : Int32)  : GT Z E 1 (finX4_least M N) 0 [(0, .int x0)] [] M N (some (fX4_least x0)) := by
  unfold fX4_least
  refine r_iload_n C dX4_least_0 0 0 rfl rfl ?_
  refine r_iload_n C dX4_least_1 0 0 rfl rfl ?_
  refine r_ineg C dX4_least_2 ?_
  refine r_iand C dX4_least_3 ?_
  refine r_iconst (v := 1) C dX4_least_4 (by decide) ?_
  refine r_isub C dX4_least_5 ?_
  refine r_callS (rest := []) (st2 := [.int (fJ6_bitCount_0f7a4 ((x0 &&& (-x0)) - 1))]) C (mJ6_bitCount_0f7a4 (eL E) C.z _ _ ((x0 &&& (-x0)) - 1)) lk_X4_202 (by decide) rfl rfl (Nat.le_of_ble_eq_true rfl) dX4_least_6 rfl ?_
  exact r_iret C dX4_least_9 rfl
theorem mX4_least (l : Launch) {Z : Zt} (hZ : Zok 1 Z) (M : Mi) (N : Ml) (x0 : Int32) : Ct 1 Z l yX4_least cX4_least 1 (some .int) 1 [.int x0] M N (some (Value.int (fX4_least x0)), M, N) :=
  metG (fin := (finX4_least M N)) (by decide) (Nat.le_of_ble_eq_true rfl) (fun E _ C => bX4_least C x0) rfl
theorem dX4_placeOrNone_0 : decode cX4_placeOrNone 0 = .ok (.iload_n 1, 1) := by decide +kernel
theorem dX4_placeOrNone_1 : decode cX4_placeOrNone 1 = .ok (.iconst (-1), 1) := by decide +kernel
theorem dX4_placeOrNone_2 : decode cX4_placeOrNone 2 = .ok (.if_icmp .ne 11, 3) := by decide +kernel
theorem dX4_placeOrNone_5 : decode cX4_placeOrNone 5 = .ok (.aload_n 0, 1) := by decide +kernel
theorem dX4_placeOrNone_6 : decode cX4_placeOrNone 6 = .ok (.iconst 3, 1) := by decide +kernel
theorem dX4_placeOrNone_7 : decode cX4_placeOrNone 7 = .ok (.invokevirtual 58, 3) := by decide +kernel
theorem dX4_placeOrNone_10 : decode cX4_placeOrNone 10 = .ok (.goto 13, 3) := by decide +kernel
theorem dX4_placeOrNone_13 : decode cX4_placeOrNone 13 = .ok (.aload_n 0, 1) := by decide +kernel
theorem dX4_placeOrNone_14 : decode cX4_placeOrNone 14 = .ok (.getfield 25, 3) := by decide +kernel
theorem dX4_placeOrNone_17 : decode cX4_placeOrNone 17 = .ok (.getfield 279, 3) := by decide +kernel
theorem dX4_placeOrNone_20 : decode cX4_placeOrNone 20 = .ok (.invokestatic 282, 3) := by decide +kernel
theorem dX4_placeOrNone_23 : decode cX4_placeOrNone 23 = .ok (.ireturn, 1) := by decide +kernel
def finX4_placeOrNone (N : Ml) : Int32 × Mi → Option Value × Mi × Ml := fun b => (some (Value.int b.1), b.2, N)
noncomputable def fX4_placeOrNone   (M : Mi) (x1 : Int32) : Option (Int32 × Mi) := (if x1 = (-1) then (Option.bind (fX4_finding M 3) (fun a2 => (some (a2.1, (a2.2))))) else (some ((fX4_least (M 4 1)), M)))
theorem bX4_placeOrNone {Z : Zt} {E : Ec} {N : Ml} (C : Ok 1 Z E cX4_placeOrNone 2 RX4 (some .int) 2)    (M : Mi) (x1 : Int32)  : GT Z E 2 (finX4_placeOrNone N) 0 [(0, .ref (zA Z 8 0)), (1, .int x1)] [] M N (fX4_placeOrNone M x1) := by
  unfold fX4_placeOrNone
  refine r_iload_n C dX4_placeOrNone_0 1 1 rfl rfl ?_
  refine r_iconst (v := (-1)) C dX4_placeOrNone_1 (by decide) ?_
  refine r_ic_ne (tgt := 13) C dX4_placeOrNone_2 (by decide) (fun c1 => ?_) (fun c1 => ?_)
  · refine r_aload_n C dX4_placeOrNone_13 0 0 rfl rfl ?_
    refine gf_X4_25 C dX4_placeOrNone_14 ?_
    refine gf_X4_279 (v := (M 4 1)) C dX4_placeOrNone_17 rfl ?_
    refine r_callS (rest := []) (st2 := [.int (fX4_least (M 4 1))]) C (mX4_least (eL E) C.z _ _ (M 4 1)) lk_X4_282 (by decide) rfl rfl (Nat.le_of_ble_eq_true rfl) dX4_placeOrNone_20 rfl ?_
    exact r_iret C dX4_placeOrNone_23 rfl
  · refine r_aload_n C dX4_placeOrNone_5 0 0 rfl rfl ?_
    refine r_iconst (v := 3) C dX4_placeOrNone_6 (by decide) ?_
    refine r_bind (fun a2 ha2 => ?_)
    refine r_callV (rest := []) (st2 := [.int a2.1]) C (mX4_finding (eL E) C.z M N 3 a2 ha2) lk_X4_58 (rvX C) (by decide) rfl rfl (Nat.le_of_ble_eq_true rfl) dX4_placeOrNone_7 rfl ?_
    refine r_goto (tgt := 23) C dX4_placeOrNone_10 (by decide) ?_
    exact r_iret C dX4_placeOrNone_23 rfl
theorem mX4_placeOrNone (l : Launch) {Z : Zt} (hZ : Zok 1 Z) (M : Mi) (N : Ml) (x1 : Int32) (b : Int32 × Mi) (hb : fX4_placeOrNone M x1 = some b) : Ct 1 Z l yX4_placeOrNone cX4_placeOrNone 2 (some .int) 2 [.ref (zA Z 8 0), .int x1] M N (some (Value.int b.1), b.2, N) :=
  metG (fin := (finX4_placeOrNone N)) (by decide) (Nat.le_of_ble_eq_true rfl) (fun E _ C => bX4_placeOrNone C M x1) hb
theorem dX4_where_0 : decode cX4_where 0 = .ok (.aload_n 0, 1) := by decide +kernel
theorem dX4_where_1 : decode cX4_where 1 = .ok (.iload_n 1, 1) := by decide +kernel
theorem dX4_where_2 : decode cX4_where 2 = .ok (.iload_n 2, 1) := by decide +kernel
theorem dX4_where_3 : decode cX4_where 3 = .ok (.invokevirtual 179, 3) := by decide +kernel
theorem dX4_where_6 : decode cX4_where 6 = .ok (.istore_n 3, 1) := by decide +kernel
theorem dX4_where_7 : decode cX4_where 7 = .ok (.iload_n 3, 1) := by decide +kernel
theorem dX4_where_8 : decode cX4_where 8 = .ok (.ifCond .eq 5, 3) := by decide +kernel
theorem dX4_where_11 : decode cX4_where 11 = .ok (.iload_n 3, 1) := by decide +kernel
theorem dX4_where_12 : decode cX4_where 12 = .ok (.ireturn, 1) := by decide +kernel
theorem dX4_where_13 : decode cX4_where 13 = .ok (.aload_n 0, 1) := by decide +kernel
theorem dX4_where_14 : decode cX4_where 14 = .ok (.getfield 25, 3) := by decide +kernel
theorem dX4_where_17 : decode cX4_where 17 = .ok (.iload_n 1, 1) := by decide +kernel
theorem dX4_where_18 : decode cX4_where 18 = .ok (.aload_n 0, 1) := by decide +kernel
theorem dX4_where_19 : decode cX4_where 19 = .ok (.getfield 12, 3) := by decide +kernel
theorem dX4_where_22 : decode cX4_where 22 = .ok (.invokevirtual 183, 3) := by decide +kernel
theorem dX4_where_25 : decode cX4_where 25 = .ok (.aload_n 0, 1) := by decide +kernel
theorem dX4_where_26 : decode cX4_where 26 = .ok (.aload_n 0, 1) := by decide +kernel
theorem dX4_where_27 : decode cX4_where 27 = .ok (.getfield 25, 3) := by decide +kernel
theorem dX4_where_30 : decode cX4_where 30 = .ok (.iload_n 2, 1) := by decide +kernel
theorem dX4_where_31 : decode cX4_where 31 = .ok (.bipush 48, 2) := by decide +kernel
theorem dX4_where_33 : decode cX4_where 33 = .ok (.invokevirtual 187, 3) := by decide +kernel
theorem dX4_where_36 : decode cX4_where 36 = .ok (.invokevirtual 190, 3) := by decide +kernel
theorem dX4_where_39 : decode cX4_where 39 = .ok (.ireturn, 1) := by decide +kernel
def finX4_where (N : Ml) : Int32 × Mi → Option Value × Mi × Ml := fun b => (some (Value.int b.1), b.2, N)
noncomputable def fX4_where   (M : Mi) (x1 : Int32) (x2 : Int32) : Option (Int32 × Mi) := (Option.bind (fX4_askOfReader M x1 x2) (fun a1 => (if a1.1 = 0 then (Option.bind (fX1_goesFrom (a1.2) x1) (fun a3 => (Option.bind (fX1_seek a3 x2 48) (fun a4 => (Option.bind (fX4_placeOrNone (a4.2) a4.1) (fun a5 => (some (a5.1, (a5.2))))))))) else (some (a1.1, (a1.2))))))
theorem bX4_where {Z : Zt} {E : Ec} {N : Ml} (C : Ok 1 Z E cX4_where 4 RX4 (some .int) 5)    (M : Mi) (x1 : Int32) (x2 : Int32)  : GT Z E 4 (finX4_where N) 0 [(0, .ref (zA Z 8 0)), (1, .int x1), (2, .int x2)] [] M N (fX4_where M x1 x2) := by
  unfold fX4_where
  refine r_aload_n C dX4_where_0 0 0 rfl rfl ?_
  refine r_iload_n C dX4_where_1 1 1 rfl rfl ?_
  refine r_iload_n C dX4_where_2 2 2 rfl rfl ?_
  refine r_bind (fun a1 ha1 => ?_)
  refine r_callV (rest := []) (st2 := [.int a1.1]) C (mX4_askOfReader (eL E) C.z M N x1 x2 a1 ha1) lk_X4_179 (rvX C) (by decide) rfl rfl (Nat.le_of_ble_eq_true rfl) dX4_where_3 rfl ?_
  refine r_istore_n (lv' := [(3, .int a1.1), (0, .ref (zA Z 8 0)), (1, .int x1), (2, .int x2)]) C dX4_where_6 3 rfl (by decide) rfl ?_
  refine r_iload_n C dX4_where_7 3 0 rfl rfl ?_
  refine r_if_eq (tgt := 13) C dX4_where_8 (by decide) (fun c2 => ?_) (fun c2 => ?_)
  · refine r_aload_n C dX4_where_13 0 1 rfl rfl ?_
    refine gf_X4_25 C dX4_where_14 ?_
    refine r_iload_n C dX4_where_17 1 2 rfl rfl ?_
    refine r_aload_n C dX4_where_18 0 1 rfl rfl ?_
    refine gf_X4_12 C dX4_where_19 ?_
    refine r_bind (fun a3 ha3 => ?_)
    refine r_callV (rest := []) (st2 := []) C (mX1_goesFrom (eL E) C.z (a1.2) N x1 a3 ha3) lk_X4_183 (rvR C) (by decide) rfl rfl (Nat.le_of_ble_eq_true rfl) dX4_where_22 rfl ?_
    refine r_aload_n C dX4_where_25 0 1 rfl rfl ?_
    refine r_aload_n C dX4_where_26 0 1 rfl rfl ?_
    refine gf_X4_25 C dX4_where_27 ?_
    refine r_iload_n C dX4_where_30 2 3 rfl rfl ?_
    refine r_bipush (v := 48) C dX4_where_31 (by decide) ?_
    refine r_bind (fun a4 ha4 => ?_)
    refine r_callV (rest := [.ref (zA Z 8 0)]) (st2 := [.int a4.1, .ref (zA Z 8 0)]) C (mX1_seek (eL E) C.z a3 N x2 48 a4 ha4) lk_X4_187 (rvR C) (by decide) rfl rfl (Nat.le_of_ble_eq_true rfl) dX4_where_33 rfl ?_
    refine r_bind (fun a5 ha5 => ?_)
    refine r_callV (rest := []) (st2 := [.int a5.1]) C (mX4_placeOrNone (eL E) C.z (a4.2) N a4.1 a5 ha5) lk_X4_190 (rvX C) (by decide) rfl rfl (Nat.le_of_ble_eq_true rfl) dX4_where_36 rfl ?_
    exact r_iret C dX4_where_39 rfl
  · refine r_iload_n C dX4_where_11 3 0 rfl rfl ?_
    exact r_iret C dX4_where_12 rfl
theorem mX4_where (l : Launch) {Z : Zt} (hZ : Zok 1 Z) (M : Mi) (N : Ml) (x1 : Int32) (x2 : Int32) (b : Int32 × Mi) (hb : fX4_where M x1 x2 = some b) : Ct 1 Z l yX4_where cX4_where 4 (some .int) 5 [.ref (zA Z 8 0), .int x1, .int x2] M N (some (Value.int b.1), b.2, N) :=
  metG (fin := (finX4_where N)) (by decide) (Nat.le_of_ble_eq_true rfl) (fun E _ C => bX4_where C M x1 x2) hb
theorem dX4_waits_0 : decode cX4_waits 0 = .ok (.aload_n 0, 1) := by decide +kernel
theorem dX4_waits_1 : decode cX4_waits 1 = .ok (.iload_n 1, 1) := by decide +kernel
theorem dX4_waits_2 : decode cX4_waits 2 = .ok (.iload_n 2, 1) := by decide +kernel
theorem dX4_waits_3 : decode cX4_waits 3 = .ok (.invokevirtual 179, 3) := by decide +kernel
theorem dX4_waits_6 : decode cX4_waits 6 = .ok (.istore_n 3, 1) := by decide +kernel
theorem dX4_waits_7 : decode cX4_waits 7 = .ok (.iload_n 3, 1) := by decide +kernel
theorem dX4_waits_8 : decode cX4_waits 8 = .ok (.ifCond .eq 5, 3) := by decide +kernel
theorem dX4_waits_11 : decode cX4_waits 11 = .ok (.iload_n 3, 1) := by decide +kernel
theorem dX4_waits_12 : decode cX4_waits 12 = .ok (.ireturn, 1) := by decide +kernel
theorem dX4_waits_13 : decode cX4_waits 13 = .ok (.aload_n 0, 1) := by decide +kernel
theorem dX4_waits_14 : decode cX4_waits 14 = .ok (.getfield 25, 3) := by decide +kernel
theorem dX4_waits_17 : decode cX4_waits 17 = .ok (.iconst 1, 1) := by decide +kernel
theorem dX4_waits_18 : decode cX4_waits 18 = .ok (.iload_n 1, 1) := by decide +kernel
theorem dX4_waits_19 : decode cX4_waits 19 = .ok (.ishl, 1) := by decide +kernel
theorem dX4_waits_20 : decode cX4_waits 20 = .ok (.aload_n 0, 1) := by decide +kernel
theorem dX4_waits_21 : decode cX4_waits 21 = .ok (.getfield 12, 3) := by decide +kernel
theorem dX4_waits_24 : decode cX4_waits 24 = .ok (.invokevirtual 193, 3) := by decide +kernel
theorem dX4_waits_27 : decode cX4_waits 27 = .ok (.aload_n 0, 1) := by decide +kernel
theorem dX4_waits_28 : decode cX4_waits 28 = .ok (.aload_n 0, 1) := by decide +kernel
theorem dX4_waits_29 : decode cX4_waits 29 = .ok (.getfield 25, 3) := by decide +kernel
theorem dX4_waits_32 : decode cX4_waits 32 = .ok (.iload_n 2, 1) := by decide +kernel
theorem dX4_waits_33 : decode cX4_waits 33 = .ok (.bipush 48, 2) := by decide +kernel
theorem dX4_waits_35 : decode cX4_waits 35 = .ok (.invokevirtual 187, 3) := by decide +kernel
theorem dX4_waits_38 : decode cX4_waits 38 = .ok (.invokevirtual 170, 3) := by decide +kernel
theorem dX4_waits_41 : decode cX4_waits 41 = .ok (.ireturn, 1) := by decide +kernel
def finX4_waits (N : Ml) : Int32 × Mi → Option Value × Mi × Ml := fun b => (some (Value.int b.1), b.2, N)
noncomputable def fX4_waits   (M : Mi) (x1 : Int32) (x2 : Int32) : Option (Int32 × Mi) := (Option.bind (fX4_askOfReader M x1 x2) (fun a1 => (if a1.1 = 0 then (Option.bind (fX1_staysInOneOf (a1.2) (1 <<< (x1 &&& 31))) (fun a3 => (Option.bind (fX1_seek a3 x2 48) (fun a4 => (Option.bind (fX4_hoursOrNone (a4.2) a4.1) (fun a5 => (some (a5.1, (a5.2))))))))) else (some (a1.1, (a1.2))))))
theorem bX4_waits {Z : Zt} {E : Ec} {N : Ml} (C : Ok 1 Z E cX4_waits 4 RX4 (some .int) 5)    (M : Mi) (x1 : Int32) (x2 : Int32)  : GT Z E 4 (finX4_waits N) 0 [(0, .ref (zA Z 8 0)), (1, .int x1), (2, .int x2)] [] M N (fX4_waits M x1 x2) := by
  unfold fX4_waits
  refine r_aload_n C dX4_waits_0 0 0 rfl rfl ?_
  refine r_iload_n C dX4_waits_1 1 1 rfl rfl ?_
  refine r_iload_n C dX4_waits_2 2 2 rfl rfl ?_
  refine r_bind (fun a1 ha1 => ?_)
  refine r_callV (rest := []) (st2 := [.int a1.1]) C (mX4_askOfReader (eL E) C.z M N x1 x2 a1 ha1) lk_X4_179 (rvX C) (by decide) rfl rfl (Nat.le_of_ble_eq_true rfl) dX4_waits_3 rfl ?_
  refine r_istore_n (lv' := [(3, .int a1.1), (0, .ref (zA Z 8 0)), (1, .int x1), (2, .int x2)]) C dX4_waits_6 3 rfl (by decide) rfl ?_
  refine r_iload_n C dX4_waits_7 3 0 rfl rfl ?_
  refine r_if_eq (tgt := 13) C dX4_waits_8 (by decide) (fun c2 => ?_) (fun c2 => ?_)
  · refine r_aload_n C dX4_waits_13 0 1 rfl rfl ?_
    refine gf_X4_25 C dX4_waits_14 ?_
    refine r_iconst (v := 1) C dX4_waits_17 (by decide) ?_
    refine r_iload_n C dX4_waits_18 1 2 rfl rfl ?_
    refine r_ishl C dX4_waits_19 ?_
    refine r_aload_n C dX4_waits_20 0 1 rfl rfl ?_
    refine gf_X4_12 C dX4_waits_21 ?_
    refine r_bind (fun a3 ha3 => ?_)
    refine r_callV (rest := []) (st2 := []) C (mX1_staysInOneOf (eL E) C.z (a1.2) N (1 <<< (x1 &&& 31)) a3 ha3) lk_X4_193 (rvR C) (by decide) rfl rfl (Nat.le_of_ble_eq_true rfl) dX4_waits_24 rfl ?_
    refine r_aload_n C dX4_waits_27 0 1 rfl rfl ?_
    refine r_aload_n C dX4_waits_28 0 1 rfl rfl ?_
    refine gf_X4_25 C dX4_waits_29 ?_
    refine r_iload_n C dX4_waits_32 2 3 rfl rfl ?_
    refine r_bipush (v := 48) C dX4_waits_33 (by decide) ?_
    refine r_bind (fun a4 ha4 => ?_)
    refine r_callV (rest := [.ref (zA Z 8 0)]) (st2 := [.int a4.1, .ref (zA Z 8 0)]) C (mX1_seek (eL E) C.z a3 N x2 48 a4 ha4) lk_X4_187 (rvR C) (by decide) rfl rfl (Nat.le_of_ble_eq_true rfl) dX4_waits_35 rfl ?_
    refine r_bind (fun a5 ha5 => ?_)
    refine r_callV (rest := []) (st2 := [.int a5.1]) C (mX4_hoursOrNone (eL E) C.z (a4.2) N a4.1 a5 ha5) lk_X4_170 (rvX C) (by decide) rfl rfl (Nat.le_of_ble_eq_true rfl) dX4_waits_38 rfl ?_
    exact r_iret C dX4_waits_41 rfl
  · refine r_iload_n C dX4_waits_11 3 0 rfl rfl ?_
    exact r_iret C dX4_waits_12 rfl
theorem mX4_waits (l : Launch) {Z : Zt} (hZ : Zok 1 Z) (M : Mi) (N : Ml) (x1 : Int32) (x2 : Int32) (b : Int32 × Mi) (hb : fX4_waits M x1 x2 = some b) : Ct 1 Z l yX4_waits cX4_waits 4 (some .int) 5 [.ref (zA Z 8 0), .int x1, .int x2] M N (some (Value.int b.1), b.2, N) :=
  metG (fin := (finX4_waits N)) (by decide) (Nat.le_of_ble_eq_true rfl) (fun E _ C => bX4_waits C M x1 x2) hb
theorem dX4_waterhole_0 : decode cX4_waterhole 0 = .ok (.iload_n 1, 1) := by decide +kernel
theorem dX4_waterhole_1 : decode cX4_waterhole 1 = .ok (.invokestatic 129, 3) := by decide +kernel
theorem dX4_waterhole_4 : decode cX4_waterhole 4 = .ok (.ifCond .ne 9, 3) := by decide +kernel
theorem dX4_waterhole_7 : decode cX4_waterhole 7 = .ok (.aload_n 0, 1) := by decide +kernel
theorem dX4_waterhole_8 : decode cX4_waterhole 8 = .ok (.iconst 0, 1) := by decide +kernel
theorem dX4_waterhole_9 : decode cX4_waterhole 9 = .ok (.invokevirtual 58, 3) := by decide +kernel
theorem dX4_waterhole_12 : decode cX4_waterhole 12 = .ok (.ireturn, 1) := by decide +kernel
theorem dX4_waterhole_13 : decode cX4_waterhole 13 = .ok (.aload_n 0, 1) := by decide +kernel
theorem dX4_waterhole_14 : decode cX4_waterhole 14 = .ok (.getfield 25, 3) := by decide +kernel
theorem dX4_waterhole_17 : decode cX4_waterhole 17 = .ok (.ldc 153, 2) := by decide +kernel
theorem dX4_waterhole_19 : decode cX4_waterhole 19 = .ok (.aload_n 0, 1) := by decide +kernel
theorem dX4_waterhole_20 : decode cX4_waterhole 20 = .ok (.getfield 12, 3) := by decide +kernel
theorem dX4_waterhole_23 : decode cX4_waterhole 23 = .ok (.getfield 196, 3) := by decide +kernel
theorem dX4_waterhole_26 : decode cX4_waterhole 26 = .ok (.iconst (-1), 1) := by decide +kernel
theorem dX4_waterhole_27 : decode cX4_waterhole 27 = .ok (.ixor, 1) := by decide +kernel
theorem dX4_waterhole_28 : decode cX4_waterhole 28 = .ok (.iand, 1) := by decide +kernel
theorem dX4_waterhole_29 : decode cX4_waterhole 29 = .ok (.aload_n 0, 1) := by decide +kernel
theorem dX4_waterhole_30 : decode cX4_waterhole 30 = .ok (.getfield 12, 3) := by decide +kernel
theorem dX4_waterhole_33 : decode cX4_waterhole 33 = .ok (.invokevirtual 193, 3) := by decide +kernel
theorem dX4_waterhole_36 : decode cX4_waterhole 36 = .ok (.aload_n 0, 1) := by decide +kernel
theorem dX4_waterhole_37 : decode cX4_waterhole 37 = .ok (.aload_n 0, 1) := by decide +kernel
theorem dX4_waterhole_38 : decode cX4_waterhole 38 = .ok (.getfield 25, 3) := by decide +kernel
theorem dX4_waterhole_41 : decode cX4_waterhole 41 = .ok (.iload_n 1, 1) := by decide +kernel
theorem dX4_waterhole_42 : decode cX4_waterhole 42 = .ok (.bipush 48, 2) := by decide +kernel
theorem dX4_waterhole_44 : decode cX4_waterhole 44 = .ok (.invokevirtual 187, 3) := by decide +kernel
theorem dX4_waterhole_47 : decode cX4_waterhole 47 = .ok (.invokevirtual 190, 3) := by decide +kernel
theorem dX4_waterhole_50 : decode cX4_waterhole 50 = .ok (.ireturn, 1) := by decide +kernel
def finX4_waterhole (N : Ml) : Int32 × Mi → Option Value × Mi × Ml := fun b => (some (Value.int b.1), b.2, N)
noncomputable def fX4_waterhole   (M : Mi) (x1 : Int32) : Option (Int32 × Mi) := (if (fX4_isSubject x1) = 0 then (Option.bind (fX4_finding M 0) (fun a5 => (some (a5.1, (a5.2))))) else (Option.bind (fX1_staysInOneOf M (1073741823 &&& ((M 0 2) ^^^ (-1)))) (fun a2 => (Option.bind (fX1_seek a2 x1 48) (fun a3 => (Option.bind (fX4_placeOrNone (a3.2) a3.1) (fun a4 => (some (a4.1, (a4.2))))))))))
theorem bX4_waterhole {Z : Zt} {E : Ec} {N : Ml} (C : Ok 1 Z E cX4_waterhole 2 RX4 (some .int) 5)    (M : Mi) (x1 : Int32)  : GT Z E 2 (finX4_waterhole N) 0 [(0, .ref (zA Z 8 0)), (1, .int x1)] [] M N (fX4_waterhole M x1) := by
  unfold fX4_waterhole
  refine r_iload_n C dX4_waterhole_0 1 1 rfl rfl ?_
  refine r_callS (rest := []) (st2 := [.int (fX4_isSubject x1)]) C (mX4_isSubject (eL E) C.z _ _ x1) lk_X4_129 (by decide) rfl rfl (Nat.le_of_ble_eq_true rfl) dX4_waterhole_1 rfl ?_
  refine r_if_ne (tgt := 13) C dX4_waterhole_4 (by decide) (fun c1 => ?_) (fun c1 => ?_)
  · refine r_aload_n C dX4_waterhole_13 0 0 rfl rfl ?_
    refine gf_X4_25 C dX4_waterhole_14 ?_
    refine r_ldc (v := 1073741823) C dX4_waterhole_17 wd_423 ?_
    refine r_aload_n C dX4_waterhole_19 0 0 rfl rfl ?_
    refine gf_X4_12 C dX4_waterhole_20 ?_
    refine gf_X4_196 (v := (M 0 2)) C (by decide) dX4_waterhole_23 rfl ?_
    refine r_iconst (v := (-1)) C dX4_waterhole_26 (by decide) ?_
    refine r_ixor C dX4_waterhole_27 ?_
    refine r_iand C dX4_waterhole_28 ?_
    refine r_aload_n C dX4_waterhole_29 0 0 rfl rfl ?_
    refine gf_X4_12 C dX4_waterhole_30 ?_
    refine r_bind (fun a2 ha2 => ?_)
    refine r_callV (rest := []) (st2 := []) C (mX1_staysInOneOf (eL E) C.z M N (1073741823 &&& ((M 0 2) ^^^ (-1))) a2 ha2) lk_X4_193 (rvR C) (by decide) rfl rfl (Nat.le_of_ble_eq_true rfl) dX4_waterhole_33 rfl ?_
    refine r_aload_n C dX4_waterhole_36 0 0 rfl rfl ?_
    refine r_aload_n C dX4_waterhole_37 0 0 rfl rfl ?_
    refine gf_X4_25 C dX4_waterhole_38 ?_
    refine r_iload_n C dX4_waterhole_41 1 1 rfl rfl ?_
    refine r_bipush (v := 48) C dX4_waterhole_42 (by decide) ?_
    refine r_bind (fun a3 ha3 => ?_)
    refine r_callV (rest := [.ref (zA Z 8 0)]) (st2 := [.int a3.1, .ref (zA Z 8 0)]) C (mX1_seek (eL E) C.z a2 N x1 48 a3 ha3) lk_X4_187 (rvR C) (by decide) rfl rfl (Nat.le_of_ble_eq_true rfl) dX4_waterhole_44 rfl ?_
    refine r_bind (fun a4 ha4 => ?_)
    refine r_callV (rest := []) (st2 := [.int a4.1]) C (mX4_placeOrNone (eL E) C.z (a3.2) N a3.1 a4 ha4) lk_X4_190 (rvX C) (by decide) rfl rfl (Nat.le_of_ble_eq_true rfl) dX4_waterhole_47 rfl ?_
    exact r_iret C dX4_waterhole_50 rfl
  · refine r_aload_n C dX4_waterhole_7 0 0 rfl rfl ?_
    refine r_iconst (v := 0) C dX4_waterhole_8 (by decide) ?_
    refine r_bind (fun a5 ha5 => ?_)
    refine r_callV (rest := []) (st2 := [.int a5.1]) C (mX4_finding (eL E) C.z M N 0 a5 ha5) lk_X4_58 (rvX C) (by decide) rfl rfl (Nat.le_of_ble_eq_true rfl) dX4_waterhole_9 rfl ?_
    exact r_iret C dX4_waterhole_12 rfl
theorem mX4_waterhole (l : Launch) {Z : Zt} (hZ : Zok 1 Z) (M : Mi) (N : Ml) (x1 : Int32) (b : Int32 × Mi) (hb : fX4_waterhole M x1 = some b) : Ct 1 Z l yX4_waterhole cX4_waterhole 2 (some .int) 5 [.ref (zA Z 8 0), .int x1] M N (some (Value.int b.1), b.2, N) :=
  metG (fin := (finX4_waterhole N)) (by decide) (Nat.le_of_ble_eq_true rfl) (fun E _ C => bX4_waterhole C M x1) hb
theorem dX4_many_0 : decode cX4_many 0 = .ok (.iload_n 1, 1) := by decide +kernel
theorem dX4_many_1 : decode cX4_many 1 = .ok (.invokestatic 51, 3) := by decide +kernel
theorem dX4_many_4 : decode cX4_many 4 = .ok (.ifCond .eq 13, 3) := by decide +kernel
theorem dX4_many_7 : decode cX4_many 7 = .ok (.iload_n 2, 1) := by decide +kernel
theorem dX4_many_8 : decode cX4_many 8 = .ok (.ifCond .lt 9, 3) := by decide +kernel
theorem dX4_many_11 : decode cX4_many 11 = .ok (.iload_n 2, 1) := by decide +kernel
theorem dX4_many_12 : decode cX4_many 12 = .ok (.bipush 48, 2) := by decide +kernel
theorem dX4_many_14 : decode cX4_many 14 = .ok (.if_icmp .le 9, 3) := by decide +kernel
theorem dX4_many_17 : decode cX4_many 17 = .ok (.aload_n 0, 1) := by decide +kernel
theorem dX4_many_18 : decode cX4_many 18 = .ok (.iconst 0, 1) := by decide +kernel
theorem dX4_many_19 : decode cX4_many 19 = .ok (.invokevirtual 58, 3) := by decide +kernel
theorem dX4_many_22 : decode cX4_many 22 = .ok (.ireturn, 1) := by decide +kernel
theorem dX4_many_23 : decode cX4_many 23 = .ok (.aload_n 0, 1) := by decide +kernel
theorem dX4_many_24 : decode cX4_many 24 = .ok (.getfield 12, 3) := by decide +kernel
theorem dX4_many_27 : decode cX4_many 27 = .ok (.iload_n 1, 1) := by decide +kernel
theorem dX4_many_28 : decode cX4_many 28 = .ok (.invokevirtual 62, 3) := by decide +kernel
theorem dX4_many_31 : decode cX4_many 31 = .ok (.ifCond .eq 9, 3) := by decide +kernel
theorem dX4_many_34 : decode cX4_many 34 = .ok (.aload_n 0, 1) := by decide +kernel
theorem dX4_many_35 : decode cX4_many 35 = .ok (.iconst 4, 1) := by decide +kernel
theorem dX4_many_36 : decode cX4_many 36 = .ok (.invokevirtual 58, 3) := by decide +kernel
theorem dX4_many_39 : decode cX4_many 39 = .ok (.ireturn, 1) := by decide +kernel
theorem dX4_many_40 : decode cX4_many 40 = .ok (.aload_n 0, 1) := by decide +kernel
theorem dX4_many_41 : decode cX4_many 41 = .ok (.getfield 25, 3) := by decide +kernel
theorem dX4_many_44 : decode cX4_many 44 = .ok (.iload_n 1, 1) := by decide +kernel
theorem dX4_many_45 : decode cX4_many 45 = .ok (.aload_n 0, 1) := by decide +kernel
theorem dX4_many_46 : decode cX4_many 46 = .ok (.getfield 12, 3) := by decide +kernel
theorem dX4_many_49 : decode cX4_many 49 = .ok (.invokevirtual 183, 3) := by decide +kernel
theorem dX4_many_52 : decode cX4_many 52 = .ok (.aload_n 0, 1) := by decide +kernel
theorem dX4_many_53 : decode cX4_many 53 = .ok (.getfield 25, 3) := by decide +kernel
theorem dX4_many_56 : decode cX4_many 56 = .ok (.iload_n 2, 1) := by decide +kernel
theorem dX4_many_57 : decode cX4_many 57 = .ok (.invokevirtual 199, 3) := by decide +kernel
theorem dX4_many_60 : decode cX4_many 60 = .ok (.invokestatic 202, 3) := by decide +kernel
theorem dX4_many_63 : decode cX4_many 63 = .ok (.ireturn, 1) := by decide +kernel
def finX4_many (N : Ml) : Int32 × Mi → Option Value × Mi × Ml := fun b => (some (Value.int b.1), b.2, N)
noncomputable def fX4_many_17   (M : Mi) : Option (Int32 × Mi) := (Option.bind (fX4_finding M 0) (fun a2 => (some (a2.1, (a2.2)))))
theorem bX4_many_17 {Z : Zt} {E : Ec} {N : Ml} (C : Ok 1 Z E cX4_many 3 RX4 (some .int) 5)    (M : Mi)  : GT Z E 3 (finX4_many N) 17 [(0, .ref (zA Z 8 0))] [] M N (fX4_many_17 M) := by
  unfold fX4_many_17
  refine r_aload_n C dX4_many_17 0 0 rfl rfl ?_
  refine r_iconst (v := 0) C dX4_many_18 (by decide) ?_
  refine r_bind (fun a2 ha2 => ?_)
  refine r_callV (rest := []) (st2 := [.int a2.1]) C (mX4_finding (eL E) C.z M N 0 a2 ha2) lk_X4_58 (rvX C) (by decide) rfl rfl (Nat.le_of_ble_eq_true rfl) dX4_many_19 rfl ?_
  exact r_iret C dX4_many_22 rfl
noncomputable def fX4_many   (M : Mi) (x1 : Int32) (x2 : Int32) : Option (Int32 × Mi) := (if (fX4_isCell x1) = 0 then (fX4_many_17 M) else (if x2 < 0 then (fX4_many_17 M) else (if x2 ≤ 48 then (if (fX0_isFenced (M 0) x1) = 0 then (Option.bind (fX1_goesFrom M x1) (fun a6 => (Option.bind (fX1_subjectsWithin a6 x2) (fun a7 => (some ((fJ6_bitCount_0f7a4 a7.1), (a7.2))))))) else (Option.bind (fX4_finding M 4) (fun a8 => (some (a8.1, (a8.2)))))) else (fX4_many_17 M))))
theorem bX4_many {Z : Zt} {E : Ec} {N : Ml} (C : Ok 1 Z E cX4_many 3 RX4 (some .int) 5)    (M : Mi) (x1 : Int32) (x2 : Int32)  : GT Z E 3 (finX4_many N) 0 [(0, .ref (zA Z 8 0)), (1, .int x1), (2, .int x2)] [] M N (fX4_many M x1 x2) := by
  unfold fX4_many
  refine r_iload_n C dX4_many_0 1 1 rfl rfl ?_
  refine r_callS (rest := []) (st2 := [.int (fX4_isCell x1)]) C (mX4_isCell (eL E) C.z _ _ x1) lk_X4_51 (by decide) rfl rfl (Nat.le_of_ble_eq_true rfl) dX4_many_1 rfl ?_
  refine r_if_eq (tgt := 17) C dX4_many_4 (by decide) (fun c1 => ?_) (fun c1 => ?_)
  · refine r_lv [0] (lv' := [(0, .ref (zA Z 8 0))]) rfl ?_
    exact bX4_many_17 C M
  · refine r_iload_n C dX4_many_7 2 2 rfl rfl ?_
    refine r_if_lt (tgt := 17) C dX4_many_8 (by decide) (fun c3 => ?_) (fun c3 => ?_)
    · refine r_lv [0] (lv' := [(0, .ref (zA Z 8 0))]) rfl ?_
      exact bX4_many_17 C M
    · refine r_iload_n C dX4_many_11 2 2 rfl rfl ?_
      refine r_bipush (v := 48) C dX4_many_12 (by decide) ?_
      refine r_ic_le (tgt := 23) C dX4_many_14 (by decide) (fun c4 => ?_) (fun c4 => ?_)
      · refine r_aload_n C dX4_many_23 0 0 rfl rfl ?_
        refine gf_X4_12 C dX4_many_24 ?_
        refine r_iload_n C dX4_many_27 1 1 rfl rfl ?_
        refine r_callV (rest := []) (st2 := [.int (fX0_isFenced (M 0) x1)]) C (mX0_isFenced (eL E) C.z (by decide) M _ (M 0) x1).selfR lk_X4_62 (rvI C (by decide)) (by decide) rfl rfl (Nat.le_of_ble_eq_true rfl) dX4_many_28 rfl ?_
        refine r_if_eq (tgt := 40) C dX4_many_31 (by decide) (fun c5 => ?_) (fun c5 => ?_)
        · refine r_aload_n C dX4_many_40 0 0 rfl rfl ?_
          refine gf_X4_25 C dX4_many_41 ?_
          refine r_iload_n C dX4_many_44 1 1 rfl rfl ?_
          refine r_aload_n C dX4_many_45 0 0 rfl rfl ?_
          refine gf_X4_12 C dX4_many_46 ?_
          refine r_bind (fun a6 ha6 => ?_)
          refine r_callV (rest := []) (st2 := []) C (mX1_goesFrom (eL E) C.z M N x1 a6 ha6) lk_X4_183 (rvR C) (by decide) rfl rfl (Nat.le_of_ble_eq_true rfl) dX4_many_49 rfl ?_
          refine r_aload_n C dX4_many_52 0 0 rfl rfl ?_
          refine gf_X4_25 C dX4_many_53 ?_
          refine r_iload_n C dX4_many_56 2 2 rfl rfl ?_
          refine r_bind (fun a7 ha7 => ?_)
          refine r_callV (rest := []) (st2 := [.int a7.1]) C (mX1_subjectsWithin (eL E) C.z a6 N x2 a7 ha7) lk_X4_199 (rvR C) (by decide) rfl rfl (Nat.le_of_ble_eq_true rfl) dX4_many_57 rfl ?_
          refine r_callS (rest := []) (st2 := [.int (fJ6_bitCount_0f7a4 a7.1)]) C (mJ6_bitCount_0f7a4 (eL E) C.z _ _ a7.1) lk_X4_202 (by decide) rfl rfl (Nat.le_of_ble_eq_true rfl) dX4_many_60 rfl ?_
          exact r_iret C dX4_many_63 rfl
        · refine r_aload_n C dX4_many_34 0 0 rfl rfl ?_
          refine r_iconst (v := 4) C dX4_many_35 (by decide) ?_
          refine r_bind (fun a8 ha8 => ?_)
          refine r_callV (rest := []) (st2 := [.int a8.1]) C (mX4_finding (eL E) C.z M N 4 a8 ha8) lk_X4_58 (rvX C) (by decide) rfl rfl (Nat.le_of_ble_eq_true rfl) dX4_many_36 rfl ?_
          exact r_iret C dX4_many_39 rfl
      · refine r_lv [0] (lv' := [(0, .ref (zA Z 8 0))]) rfl ?_
        exact bX4_many_17 C M
theorem mX4_many (l : Launch) {Z : Zt} (hZ : Zok 1 Z) (M : Mi) (N : Ml) (x1 : Int32) (x2 : Int32) (b : Int32 × Mi) (hb : fX4_many M x1 x2 = some b) : Ct 1 Z l yX4_many cX4_many 3 (some .int) 5 [.ref (zA Z 8 0), .int x1, .int x2] M N (some (Value.int b.1), b.2, N) :=
  metG (fin := (finX4_many N)) (by decide) (Nat.le_of_ble_eq_true rfl) (fun E _ C => bX4_many C M x1 x2) hb
theorem dX4_both_0 : decode cX4_both 0 = .ok (.iload_n 3, 1) := by decide +kernel
theorem dX4_both_1 : decode cX4_both 1 = .ok (.invokestatic 129, 3) := by decide +kernel
theorem dX4_both_4 : decode cX4_both 4 = .ok (.ifCond .eq 8, 3) := by decide +kernel
theorem dX4_both_7 : decode cX4_both 7 = .ok (.iload_n 2, 1) := by decide +kernel
theorem dX4_both_8 : decode cX4_both 8 = .ok (.iload_n 3, 1) := by decide +kernel
theorem dX4_both_9 : decode cX4_both 9 = .ok (.if_icmp .ne 9, 3) := by decide +kernel
theorem dX4_both_12 : decode cX4_both 12 = .ok (.aload_n 0, 1) := by decide +kernel
theorem dX4_both_13 : decode cX4_both 13 = .ok (.iconst 0, 1) := by decide +kernel
theorem dX4_both_14 : decode cX4_both 14 = .ok (.invokevirtual 58, 3) := by decide +kernel
theorem dX4_both_17 : decode cX4_both 17 = .ok (.ireturn, 1) := by decide +kernel
theorem dX4_both_18 : decode cX4_both 18 = .ok (.aload_n 0, 1) := by decide +kernel
theorem dX4_both_19 : decode cX4_both 19 = .ok (.iload_n 1, 1) := by decide +kernel
theorem dX4_both_20 : decode cX4_both 20 = .ok (.iload_n 2, 1) := by decide +kernel
theorem dX4_both_21 : decode cX4_both 21 = .ok (.invokevirtual 179, 3) := by decide +kernel
theorem dX4_both_24 : decode cX4_both 24 = .ok (.istore 4, 2) := by decide +kernel
theorem dX4_both_26 : decode cX4_both 26 = .ok (.iload 4, 2) := by decide +kernel
theorem dX4_both_28 : decode cX4_both 28 = .ok (.ifCond .eq 6, 3) := by decide +kernel
theorem dX4_both_31 : decode cX4_both 31 = .ok (.iload 4, 2) := by decide +kernel
theorem dX4_both_33 : decode cX4_both 33 = .ok (.ireturn, 1) := by decide +kernel
theorem dX4_both_34 : decode cX4_both 34 = .ok (.aload_n 0, 1) := by decide +kernel
theorem dX4_both_35 : decode cX4_both 35 = .ok (.getfield 25, 3) := by decide +kernel
theorem dX4_both_38 : decode cX4_both 38 = .ok (.iload_n 1, 1) := by decide +kernel
theorem dX4_both_39 : decode cX4_both 39 = .ok (.aload_n 0, 1) := by decide +kernel
theorem dX4_both_40 : decode cX4_both 40 = .ok (.getfield 12, 3) := by decide +kernel
theorem dX4_both_43 : decode cX4_both 43 = .ok (.invokevirtual 183, 3) := by decide +kernel
theorem dX4_both_46 : decode cX4_both 46 = .ok (.aload_n 0, 1) := by decide +kernel
theorem dX4_both_47 : decode cX4_both 47 = .ok (.aload_n 0, 1) := by decide +kernel
theorem dX4_both_48 : decode cX4_both 48 = .ok (.getfield 25, 3) := by decide +kernel
theorem dX4_both_51 : decode cX4_both 51 = .ok (.iload_n 2, 1) := by decide +kernel
theorem dX4_both_52 : decode cX4_both 52 = .ok (.iload_n 3, 1) := by decide +kernel
theorem dX4_both_53 : decode cX4_both 53 = .ok (.bipush 48, 2) := by decide +kernel
theorem dX4_both_55 : decode cX4_both 55 = .ok (.invokevirtual 207, 3) := by decide +kernel
theorem dX4_both_58 : decode cX4_both 58 = .ok (.invokevirtual 170, 3) := by decide +kernel
theorem dX4_both_61 : decode cX4_both 61 = .ok (.ireturn, 1) := by decide +kernel
def finX4_both (N : Ml) : Int32 × Mi → Option Value × Mi × Ml := fun b => (some (Value.int b.1), b.2, N)
noncomputable def fX4_both_12   (M : Mi) : Option (Int32 × Mi) := (Option.bind (fX4_finding M 0) (fun a2 => (some (a2.1, (a2.2)))))
theorem bX4_both_12 {Z : Zt} {E : Ec} {N : Ml} (C : Ok 1 Z E cX4_both 5 RX4 (some .int) 5)    (M : Mi)  : GT Z E 5 (finX4_both N) 12 [(0, .ref (zA Z 8 0))] [] M N (fX4_both_12 M) := by
  unfold fX4_both_12
  refine r_aload_n C dX4_both_12 0 0 rfl rfl ?_
  refine r_iconst (v := 0) C dX4_both_13 (by decide) ?_
  refine r_bind (fun a2 ha2 => ?_)
  refine r_callV (rest := []) (st2 := [.int a2.1]) C (mX4_finding (eL E) C.z M N 0 a2 ha2) lk_X4_58 (rvX C) (by decide) rfl rfl (Nat.le_of_ble_eq_true rfl) dX4_both_14 rfl ?_
  exact r_iret C dX4_both_17 rfl
noncomputable def fX4_both   (M : Mi) (x1 : Int32) (x2 : Int32) (x3 : Int32) : Option (Int32 × Mi) := (if (fX4_isSubject x3) = 0 then (fX4_both_12 M) else (if x2 = x3 then (fX4_both_12 M) else (Option.bind (fX4_askOfReader M x1 x2) (fun a4 => (if a4.1 = 0 then (Option.bind (fX1_goesFrom (a4.2) x1) (fun a6 => (Option.bind (fX1_seekTwo a6 x2 x3 48) (fun a7 => (Option.bind (fX4_hoursOrNone (a7.2) a7.1) (fun a8 => (some (a8.1, (a8.2))))))))) else (some (a4.1, (a4.2))))))))
theorem bX4_both {Z : Zt} {E : Ec} {N : Ml} (C : Ok 1 Z E cX4_both 5 RX4 (some .int) 5)    (M : Mi) (x1 : Int32) (x2 : Int32) (x3 : Int32)  : GT Z E 5 (finX4_both N) 0 [(0, .ref (zA Z 8 0)), (1, .int x1), (2, .int x2), (3, .int x3)] [] M N (fX4_both M x1 x2 x3) := by
  unfold fX4_both
  refine r_iload_n C dX4_both_0 3 3 rfl rfl ?_
  refine r_callS (rest := []) (st2 := [.int (fX4_isSubject x3)]) C (mX4_isSubject (eL E) C.z _ _ x3) lk_X4_129 (by decide) rfl rfl (Nat.le_of_ble_eq_true rfl) dX4_both_1 rfl ?_
  refine r_if_eq (tgt := 12) C dX4_both_4 (by decide) (fun c1 => ?_) (fun c1 => ?_)
  · refine r_lv [0] (lv' := [(0, .ref (zA Z 8 0))]) rfl ?_
    exact bX4_both_12 C M
  · refine r_iload_n C dX4_both_7 2 2 rfl rfl ?_
    refine r_iload_n C dX4_both_8 3 3 rfl rfl ?_
    refine r_ic_ne (tgt := 18) C dX4_both_9 (by decide) (fun c3 => ?_) (fun c3 => ?_)
    · refine r_aload_n C dX4_both_18 0 0 rfl rfl ?_
      refine r_iload_n C dX4_both_19 1 1 rfl rfl ?_
      refine r_iload_n C dX4_both_20 2 2 rfl rfl ?_
      refine r_bind (fun a4 ha4 => ?_)
      refine r_callV (rest := []) (st2 := [.int a4.1]) C (mX4_askOfReader (eL E) C.z M N x1 x2 a4 ha4) lk_X4_179 (rvX C) (by decide) rfl rfl (Nat.le_of_ble_eq_true rfl) dX4_both_21 rfl ?_
      refine r_istore (lv' := [(4, .int a4.1), (0, .ref (zA Z 8 0)), (1, .int x1), (2, .int x2), (3, .int x3)]) C dX4_both_24 (by decide) rfl ?_
      refine r_iload C dX4_both_26 0 rfl ?_
      refine r_if_eq (tgt := 34) C dX4_both_28 (by decide) (fun c5 => ?_) (fun c5 => ?_)
      · refine r_aload_n C dX4_both_34 0 1 rfl rfl ?_
        refine gf_X4_25 C dX4_both_35 ?_
        refine r_iload_n C dX4_both_38 1 2 rfl rfl ?_
        refine r_aload_n C dX4_both_39 0 1 rfl rfl ?_
        refine gf_X4_12 C dX4_both_40 ?_
        refine r_bind (fun a6 ha6 => ?_)
        refine r_callV (rest := []) (st2 := []) C (mX1_goesFrom (eL E) C.z (a4.2) N x1 a6 ha6) lk_X4_183 (rvR C) (by decide) rfl rfl (Nat.le_of_ble_eq_true rfl) dX4_both_43 rfl ?_
        refine r_aload_n C dX4_both_46 0 1 rfl rfl ?_
        refine r_aload_n C dX4_both_47 0 1 rfl rfl ?_
        refine gf_X4_25 C dX4_both_48 ?_
        refine r_iload_n C dX4_both_51 2 3 rfl rfl ?_
        refine r_iload_n C dX4_both_52 3 4 rfl rfl ?_
        refine r_bipush (v := 48) C dX4_both_53 (by decide) ?_
        refine r_bind (fun a7 ha7 => ?_)
        refine r_callV (rest := [.ref (zA Z 8 0)]) (st2 := [.int a7.1, .ref (zA Z 8 0)]) C (mX1_seekTwo (eL E) C.z a6 N x2 x3 48 a7 ha7) lk_X4_207 (rvR C) (by decide) rfl rfl (Nat.le_of_ble_eq_true rfl) dX4_both_55 rfl ?_
        refine r_bind (fun a8 ha8 => ?_)
        refine r_callV (rest := []) (st2 := [.int a8.1]) C (mX4_hoursOrNone (eL E) C.z (a7.2) N a7.1 a8 ha8) lk_X4_170 (rvX C) (by decide) rfl rfl (Nat.le_of_ble_eq_true rfl) dX4_both_58 rfl ?_
        exact r_iret C dX4_both_61 rfl
      · refine r_iload C dX4_both_31 0 rfl ?_
        exact r_iret C dX4_both_33 rfl
    · refine r_lv [0] (lv' := [(0, .ref (zA Z 8 0))]) rfl ?_
      exact bX4_both_12 C M
theorem mX4_both (l : Launch) {Z : Zt} (hZ : Zok 1 Z) (M : Mi) (N : Ml) (x1 : Int32) (x2 : Int32) (x3 : Int32) (b : Int32 × Mi) (hb : fX4_both M x1 x2 x3 = some b) : Ct 1 Z l yX4_both cX4_both 5 (some .int) 5 [.ref (zA Z 8 0), .int x1, .int x2, .int x3] M N (some (Value.int b.1), b.2, N) :=
  metG (fin := (finX4_both N)) (by decide) (Nat.le_of_ble_eq_true rfl) (fun E _ C => bX4_both C M x1 x2 x3) hb
theorem dX4_censors_0 : decode cX4_censors 0 = .ok (.iload_n 3, 1) := by decide +kernel
theorem dX4_censors_1 : decode cX4_censors 1 = .ok (.invokestatic 51, 3) := by decide +kernel
theorem dX4_censors_4 : decode cX4_censors 4 = .ok (.ifCond .eq 8, 3) := by decide +kernel
theorem dX4_censors_7 : decode cX4_censors 7 = .ok (.iload_n 3, 1) := by decide +kernel
theorem dX4_censors_8 : decode cX4_censors 8 = .ok (.iload_n 1, 1) := by decide +kernel
theorem dX4_censors_9 : decode cX4_censors 9 = .ok (.if_icmp .ne 9, 3) := by decide +kernel
theorem dX4_censors_12 : decode cX4_censors 12 = .ok (.aload_n 0, 1) := by decide +kernel
theorem dX4_censors_13 : decode cX4_censors 13 = .ok (.iconst 0, 1) := by decide +kernel
theorem dX4_censors_14 : decode cX4_censors 14 = .ok (.invokevirtual 58, 3) := by decide +kernel
theorem dX4_censors_17 : decode cX4_censors 17 = .ok (.ireturn, 1) := by decide +kernel
theorem dX4_censors_18 : decode cX4_censors 18 = .ok (.aload_n 0, 1) := by decide +kernel
theorem dX4_censors_19 : decode cX4_censors 19 = .ok (.iload_n 1, 1) := by decide +kernel
theorem dX4_censors_20 : decode cX4_censors 20 = .ok (.iload_n 2, 1) := by decide +kernel
theorem dX4_censors_21 : decode cX4_censors 21 = .ok (.invokevirtual 179, 3) := by decide +kernel
theorem dX4_censors_24 : decode cX4_censors 24 = .ok (.istore 4, 2) := by decide +kernel
theorem dX4_censors_26 : decode cX4_censors 26 = .ok (.iload 4, 2) := by decide +kernel
theorem dX4_censors_28 : decode cX4_censors 28 = .ok (.ifCond .eq 6, 3) := by decide +kernel
theorem dX4_censors_31 : decode cX4_censors 31 = .ok (.iload 4, 2) := by decide +kernel
theorem dX4_censors_33 : decode cX4_censors 33 = .ok (.ireturn, 1) := by decide +kernel
theorem dX4_censors_34 : decode cX4_censors 34 = .ok (.aload_n 0, 1) := by decide +kernel
theorem dX4_censors_35 : decode cX4_censors 35 = .ok (.getfield 25, 3) := by decide +kernel
theorem dX4_censors_38 : decode cX4_censors 38 = .ok (.iload_n 1, 1) := by decide +kernel
theorem dX4_censors_39 : decode cX4_censors 39 = .ok (.aload_n 0, 1) := by decide +kernel
theorem dX4_censors_40 : decode cX4_censors 40 = .ok (.getfield 12, 3) := by decide +kernel
theorem dX4_censors_43 : decode cX4_censors 43 = .ok (.invokevirtual 183, 3) := by decide +kernel
theorem dX4_censors_46 : decode cX4_censors 46 = .ok (.aload_n 0, 1) := by decide +kernel
theorem dX4_censors_47 : decode cX4_censors 47 = .ok (.getfield 25, 3) := by decide +kernel
theorem dX4_censors_50 : decode cX4_censors 50 = .ok (.iload_n 2, 1) := by decide +kernel
theorem dX4_censors_51 : decode cX4_censors 51 = .ok (.bipush 48, 2) := by decide +kernel
theorem dX4_censors_53 : decode cX4_censors 53 = .ok (.invokevirtual 187, 3) := by decide +kernel
theorem dX4_censors_56 : decode cX4_censors 56 = .ok (.istore 5, 2) := by decide +kernel
theorem dX4_censors_58 : decode cX4_censors 58 = .ok (.iload 5, 2) := by decide +kernel
theorem dX4_censors_60 : decode cX4_censors 60 = .ok (.iconst (-1), 1) := by decide +kernel
theorem dX4_censors_61 : decode cX4_censors 61 = .ok (.if_icmp .ne 9, 3) := by decide +kernel
theorem dX4_censors_64 : decode cX4_censors 64 = .ok (.aload_n 0, 1) := by decide +kernel
theorem dX4_censors_65 : decode cX4_censors 65 = .ok (.iconst 3, 1) := by decide +kernel
theorem dX4_censors_66 : decode cX4_censors 66 = .ok (.invokevirtual 58, 3) := by decide +kernel
theorem dX4_censors_69 : decode cX4_censors 69 = .ok (.ireturn, 1) := by decide +kernel
theorem dX4_censors_70 : decode cX4_censors 70 = .ok (.aload_n 0, 1) := by decide +kernel
theorem dX4_censors_71 : decode cX4_censors 71 = .ok (.getfield 25, 3) := by decide +kernel
theorem dX4_censors_74 : decode cX4_censors 74 = .ok (.iload_n 1, 1) := by decide +kernel
theorem dX4_censors_75 : decode cX4_censors 75 = .ok (.aload_n 0, 1) := by decide +kernel
theorem dX4_censors_76 : decode cX4_censors 76 = .ok (.getfield 12, 3) := by decide +kernel
theorem dX4_censors_79 : decode cX4_censors 79 = .ok (.invokevirtual 183, 3) := by decide +kernel
theorem dX4_censors_82 : decode cX4_censors 82 = .ok (.aload_n 0, 1) := by decide +kernel
theorem dX4_censors_83 : decode cX4_censors 83 = .ok (.getfield 25, 3) := by decide +kernel
theorem dX4_censors_86 : decode cX4_censors 86 = .ok (.getfield 210, 3) := by decide +kernel
theorem dX4_censors_89 : decode cX4_censors 89 = .ok (.iload_n 3, 1) := by decide +kernel
theorem dX4_censors_90 : decode cX4_censors 90 = .ok (.iconst 1, 1) := by decide +kernel
theorem dX4_censors_91 : decode cX4_censors 91 = .ok (.invokevirtual 65, 3) := by decide +kernel
theorem dX4_censors_94 : decode cX4_censors 94 = .ok (.aload_n 0, 1) := by decide +kernel
theorem dX4_censors_95 : decode cX4_censors 95 = .ok (.getfield 25, 3) := by decide +kernel
theorem dX4_censors_98 : decode cX4_censors 98 = .ok (.iload_n 2, 1) := by decide +kernel
theorem dX4_censors_99 : decode cX4_censors 99 = .ok (.bipush 48, 2) := by decide +kernel
theorem dX4_censors_101 : decode cX4_censors 101 = .ok (.invokevirtual 187, 3) := by decide +kernel
theorem dX4_censors_104 : decode cX4_censors 104 = .ok (.istore 6, 2) := by decide +kernel
theorem dX4_censors_106 : decode cX4_censors 106 = .ok (.iload 6, 2) := by decide +kernel
theorem dX4_censors_108 : decode cX4_censors 108 = .ok (.iconst (-1), 1) := by decide +kernel
theorem dX4_censors_109 : decode cX4_censors 109 = .ok (.if_icmp .ne 8, 3) := by decide +kernel
theorem dX4_censors_112 : decode cX4_censors 112 = .ok (.bipush 99, 2) := by decide +kernel
theorem dX4_censors_114 : decode cX4_censors 114 = .ok (.goto 8, 3) := by decide +kernel
theorem dX4_censors_117 : decode cX4_censors 117 = .ok (.iload 6, 2) := by decide +kernel
theorem dX4_censors_119 : decode cX4_censors 119 = .ok (.iload 5, 2) := by decide +kernel
theorem dX4_censors_121 : decode cX4_censors 121 = .ok (.isub, 1) := by decide +kernel
theorem dX4_censors_122 : decode cX4_censors 122 = .ok (.ireturn, 1) := by decide +kernel
def finX4_censors (N : Ml) : Int32 × Mi → Option Value × Mi × Ml := fun b => (some (Value.int b.1), b.2, N)
noncomputable def fX4_censors_12   (M : Mi) : Option (Int32 × Mi) := (Option.bind (fX4_finding M 0) (fun a2 => (some (a2.1, (a2.2)))))
theorem bX4_censors_12 {Z : Zt} {E : Ec} {N : Ml} (C : Ok 1 Z E cX4_censors 7 RX4 (some .int) 5)    (M : Mi)  : GT Z E 7 (finX4_censors N) 12 [(0, .ref (zA Z 8 0))] [] M N (fX4_censors_12 M) := by
  unfold fX4_censors_12
  refine r_aload_n C dX4_censors_12 0 0 rfl rfl ?_
  refine r_iconst (v := 0) C dX4_censors_13 (by decide) ?_
  refine r_bind (fun a2 ha2 => ?_)
  refine r_callV (rest := []) (st2 := [.int a2.1]) C (mX4_finding (eL E) C.z M N 0 a2 ha2) lk_X4_58 (rvX C) (by decide) rfl rfl (Nat.le_of_ble_eq_true rfl) dX4_censors_14 rfl ?_
  exact r_iret C dX4_censors_17 rfl
noncomputable def fX4_censors   (M : Mi) (x1 : Int32) (x2 : Int32) (x3 : Int32) : Option (Int32 × Mi) := (if (fX4_isCell x3) = 0 then (fX4_censors_12 M) else (if x3 = x1 then (fX4_censors_12 M) else (Option.bind (fX4_askOfReader M x1 x2) (fun a4 => (if a4.1 = 0 then (Option.bind (fX1_goesFrom (a4.2) x1) (fun a6 => (Option.bind (fX1_seek a6 x2 48) (fun a7 => (if a7.1 = (-1) then (Option.bind (fX4_finding (a7.2) 3) (fun a13 => (some (a13.1, (a13.2))))) else (Option.bind (fX1_goesFrom (a7.2) x1) (fun a9 => (Option.bind (fX0_fences (a9 3) x3 1) (fun a10 => (Option.bind (fX1_seek (sR a9 3 a10) x2 48) (fun a11 => (if a11.1 = (-1) then (some (99, (a11.2))) else (some ((a11.1 - a7.1), (a11.2))))))))))))))) else (some (a4.1, (a4.2))))))))
theorem bX4_censors {Z : Zt} {E : Ec} {N : Ml} (C : Ok 1 Z E cX4_censors 7 RX4 (some .int) 5)    (M : Mi) (x1 : Int32) (x2 : Int32) (x3 : Int32)  : GT Z E 7 (finX4_censors N) 0 [(0, .ref (zA Z 8 0)), (1, .int x1), (2, .int x2), (3, .int x3)] [] M N (fX4_censors M x1 x2 x3) := by
  unfold fX4_censors
  refine r_iload_n C dX4_censors_0 3 3 rfl rfl ?_
  refine r_callS (rest := []) (st2 := [.int (fX4_isCell x3)]) C (mX4_isCell (eL E) C.z _ _ x3) lk_X4_51 (by decide) rfl rfl (Nat.le_of_ble_eq_true rfl) dX4_censors_1 rfl ?_
  refine r_if_eq (tgt := 12) C dX4_censors_4 (by decide) (fun c1 => ?_) (fun c1 => ?_)
  · refine r_lv [0] (lv' := [(0, .ref (zA Z 8 0))]) rfl ?_
    exact bX4_censors_12 C M
  · refine r_iload_n C dX4_censors_7 3 3 rfl rfl ?_
    refine r_iload_n C dX4_censors_8 1 1 rfl rfl ?_
    refine r_ic_ne (tgt := 18) C dX4_censors_9 (by decide) (fun c3 => ?_) (fun c3 => ?_)
    · refine r_aload_n C dX4_censors_18 0 0 rfl rfl ?_
      refine r_iload_n C dX4_censors_19 1 1 rfl rfl ?_
      refine r_iload_n C dX4_censors_20 2 2 rfl rfl ?_
      refine r_bind (fun a4 ha4 => ?_)
      refine r_callV (rest := []) (st2 := [.int a4.1]) C (mX4_askOfReader (eL E) C.z M N x1 x2 a4 ha4) lk_X4_179 (rvX C) (by decide) rfl rfl (Nat.le_of_ble_eq_true rfl) dX4_censors_21 rfl ?_
      refine r_istore (lv' := [(4, .int a4.1), (0, .ref (zA Z 8 0)), (1, .int x1), (2, .int x2), (3, .int x3)]) C dX4_censors_24 (by decide) rfl ?_
      refine r_iload C dX4_censors_26 0 rfl ?_
      refine r_if_eq (tgt := 34) C dX4_censors_28 (by decide) (fun c5 => ?_) (fun c5 => ?_)
      · refine r_aload_n C dX4_censors_34 0 1 rfl rfl ?_
        refine gf_X4_25 C dX4_censors_35 ?_
        refine r_iload_n C dX4_censors_38 1 2 rfl rfl ?_
        refine r_aload_n C dX4_censors_39 0 1 rfl rfl ?_
        refine gf_X4_12 C dX4_censors_40 ?_
        refine r_bind (fun a6 ha6 => ?_)
        refine r_callV (rest := []) (st2 := []) C (mX1_goesFrom (eL E) C.z (a4.2) N x1 a6 ha6) lk_X4_183 (rvR C) (by decide) rfl rfl (Nat.le_of_ble_eq_true rfl) dX4_censors_43 rfl ?_
        refine r_aload_n C dX4_censors_46 0 1 rfl rfl ?_
        refine gf_X4_25 C dX4_censors_47 ?_
        refine r_iload_n C dX4_censors_50 2 3 rfl rfl ?_
        refine r_bipush (v := 48) C dX4_censors_51 (by decide) ?_
        refine r_bind (fun a7 ha7 => ?_)
        refine r_callV (rest := []) (st2 := [.int a7.1]) C (mX1_seek (eL E) C.z a6 N x2 48 a7 ha7) lk_X4_187 (rvR C) (by decide) rfl rfl (Nat.le_of_ble_eq_true rfl) dX4_censors_53 rfl ?_
        refine r_istore (lv' := [(5, .int a7.1), (4, .int a4.1), (0, .ref (zA Z 8 0)), (1, .int x1), (2, .int x2), (3, .int x3)]) C dX4_censors_56 (by decide) rfl ?_
        refine r_iload C dX4_censors_58 0 rfl ?_
        refine r_iconst (v := (-1)) C dX4_censors_60 (by decide) ?_
        refine r_ic_ne (tgt := 70) C dX4_censors_61 (by decide) (fun c8 => ?_) (fun c8 => ?_)
        · refine r_aload_n C dX4_censors_70 0 2 rfl rfl ?_
          refine gf_X4_25 C dX4_censors_71 ?_
          refine r_iload_n C dX4_censors_74 1 3 rfl rfl ?_
          refine r_aload_n C dX4_censors_75 0 2 rfl rfl ?_
          refine gf_X4_12 C dX4_censors_76 ?_
          refine r_bind (fun a9 ha9 => ?_)
          refine r_callV (rest := []) (st2 := []) C (mX1_goesFrom (eL E) C.z (a7.2) N x1 a9 ha9) lk_X4_183 (rvR C) (by decide) rfl rfl (Nat.le_of_ble_eq_true rfl) dX4_censors_79 rfl ?_
          refine r_aload_n C dX4_censors_82 0 2 rfl rfl ?_
          refine gf_X4_25 C dX4_censors_83 ?_
          refine gf_X4_210 C dX4_censors_86 ?_
          refine r_iload_n C dX4_censors_89 3 5 rfl rfl ?_
          refine r_iconst (v := 1) C dX4_censors_90 (by decide) ?_
          refine r_bind (fun a10 ha10 => ?_)
          refine r_callV (rest := []) (st2 := []) C (mX0_fences (eL E) C.z (by decide) a9 _ (a9 3) x3 1 a10 ha10).selfW lk_X4_65 (rvI C (by decide)) (by decide) rfl rfl (Nat.le_of_ble_eq_true rfl) dX4_censors_91 rfl ?_
          refine r_aload_n C dX4_censors_94 0 2 rfl rfl ?_
          refine gf_X4_25 C dX4_censors_95 ?_
          refine r_iload_n C dX4_censors_98 2 4 rfl rfl ?_
          refine r_bipush (v := 48) C dX4_censors_99 (by decide) ?_
          refine r_bind (fun a11 ha11 => ?_)
          refine r_callV (rest := []) (st2 := [.int a11.1]) C (mX1_seek (eL E) C.z (sR a9 3 a10) N x2 48 a11 ha11) lk_X4_187 (rvR C) (by decide) rfl rfl (Nat.le_of_ble_eq_true rfl) dX4_censors_101 rfl ?_
          refine r_istore (lv' := [(6, .int a11.1), (5, .int a7.1), (4, .int a4.1), (0, .ref (zA Z 8 0)), (1, .int x1), (2, .int x2), (3, .int x3)]) C dX4_censors_104 (by decide) rfl ?_
          refine r_iload C dX4_censors_106 0 rfl ?_
          refine r_iconst (v := (-1)) C dX4_censors_108 (by decide) ?_
          refine r_ic_ne (tgt := 117) C dX4_censors_109 (by decide) (fun c12 => ?_) (fun c12 => ?_)
          · refine r_iload C dX4_censors_117 0 rfl ?_
            refine r_iload C dX4_censors_119 1 rfl ?_
            refine r_isub C dX4_censors_121 ?_
            exact r_iret C dX4_censors_122 rfl
          · refine r_bipush (v := 99) C dX4_censors_112 (by decide) ?_
            refine r_goto (tgt := 122) C dX4_censors_114 (by decide) ?_
            exact r_iret C dX4_censors_122 rfl
        · refine r_aload_n C dX4_censors_64 0 2 rfl rfl ?_
          refine r_iconst (v := 3) C dX4_censors_65 (by decide) ?_
          refine r_bind (fun a13 ha13 => ?_)
          refine r_callV (rest := []) (st2 := [.int a13.1]) C (mX4_finding (eL E) C.z (a7.2) N 3 a13 ha13) lk_X4_58 (rvX C) (by decide) rfl rfl (Nat.le_of_ble_eq_true rfl) dX4_censors_66 rfl ?_
          exact r_iret C dX4_censors_69 rfl
      · refine r_iload C dX4_censors_31 0 rfl ?_
        exact r_iret C dX4_censors_33 rfl
    · refine r_lv [0] (lv' := [(0, .ref (zA Z 8 0))]) rfl ?_
      exact bX4_censors_12 C M
theorem mX4_censors (l : Launch) {Z : Zt} (hZ : Zok 1 Z) (M : Mi) (N : Ml) (x1 : Int32) (x2 : Int32) (x3 : Int32) (b : Int32 × Mi) (hb : fX4_censors M x1 x2 x3 = some b) : Ct 1 Z l yX4_censors cX4_censors 7 (some .int) 5 [.ref (zA Z 8 0), .int x1, .int x2, .int x3] M N (some (Value.int b.1), b.2, N) :=
  metG (fin := (finX4_censors N)) (by decide) (Nat.le_of_ble_eq_true rfl) (fun E _ C => bX4_censors C M x1 x2 x3) hb
