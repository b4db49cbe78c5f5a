theorem dX5_lays_0 : decode cX5_lays 0 = .ok (.aload_n 0, 1) := by decide +kernel
theorem dX5_lays_1 : decode cX5_lays 1 = .ok (.iload_n 1, 1) := by decide +kernel
theorem dX5_lays_2 : decode cX5_lays 2 = .ok (.invokevirtual 328, 3) := by decide +kernel
theorem dX5_lays_5 : decode cX5_lays 5 = .ok (.istore_n 2, 1) := by decide +kernel
theorem dX5_lays_6 : decode cX5_lays 6 = .ok (.iload_n 2, 1) := by decide +kernel
theorem dX5_lays_7 : decode cX5_lays 7 = .ok (.ifCond .eq 9, 3) := by decide +kernel
theorem dX5_lays_10 : decode cX5_lays 10 = .ok (.aload_n 0, 1) := by decide +kernel
theorem dX5_lays_11 : decode cX5_lays 11 = .ok (.iload_n 2, 1) := by decide +kernel
theorem dX5_lays_12 : decode cX5_lays 12 = .ok (.invokevirtual 65, 3) := by decide +kernel
theorem dX5_lays_15 : decode cX5_lays 15 = .ok (.ireturn, 1) := by decide +kernel
theorem dX5_lays_16 : decode cX5_lays 16 = .ok (.iconst 0, 1) := by decide +kernel
theorem dX5_lays_17 : decode cX5_lays 17 = .ok (.istore_n 3, 1) := by decide +kernel
theorem dX5_lays_18 : decode cX5_lays 18 = .ok (.iconst 0, 1) := by decide +kernel
theorem dX5_lays_19 : decode cX5_lays 19 = .ok (.istore 4, 2) := by decide +kernel
theorem dX5_lays_21 : decode cX5_lays 21 = .ok (.iload 4, 2) := by decide +kernel
theorem dX5_lays_23 : decode cX5_lays 23 = .ok (.aload_n 0, 1) := by decide +kernel
theorem dX5_lays_24 : decode cX5_lays 24 = .ok (.getfield 31, 3) := by decide +kernel
theorem dX5_lays_27 : decode cX5_lays 27 = .ok (.iload_n 1, 1) := by decide +kernel
theorem dX5_lays_28 : decode cX5_lays 28 = .ok (.iaload, 1) := by decide +kernel
theorem dX5_lays_29 : decode cX5_lays 29 = .ok (.if_icmp .ge 59, 3) := by decide +kernel
theorem dX5_lays_32 : decode cX5_lays 32 = .ok (.iload 4, 2) := by decide +kernel
theorem dX5_lays_34 : decode cX5_lays 34 = .ok (.aload_n 0, 1) := by decide +kernel
theorem dX5_lays_35 : decode cX5_lays 35 = .ok (.getfield 7, 3) := by decide +kernel
theorem dX5_lays_38 : decode cX5_lays 38 = .ok (.iconst 1, 1) := by decide +kernel
theorem dX5_lays_39 : decode cX5_lays 39 = .ok (.iaload, 1) := by decide +kernel
theorem dX5_lays_40 : decode cX5_lays 40 = .ok (.if_icmp .ge 48, 3) := by decide +kernel
theorem dX5_lays_43 : decode cX5_lays 43 = .ok (.aload_n 0, 1) := by decide +kernel
theorem dX5_lays_44 : decode cX5_lays 44 = .ok (.getfield 34, 3) := by decide +kernel
theorem dX5_lays_47 : decode cX5_lays 47 = .ok (.bipush 40, 2) := by decide +kernel
theorem dX5_lays_49 : decode cX5_lays 49 = .ok (.iload_n 1, 1) := by decide +kernel
theorem dX5_lays_50 : decode cX5_lays 50 = .ok (.imul, 1) := by decide +kernel
theorem dX5_lays_51 : decode cX5_lays 51 = .ok (.iload 4, 2) := by decide +kernel
theorem dX5_lays_53 : decode cX5_lays 53 = .ok (.iadd, 1) := by decide +kernel
theorem dX5_lays_54 : decode cX5_lays 54 = .ok (.laload, 1) := by decide +kernel
theorem dX5_lays_55 : decode cX5_lays 55 = .ok (.lstore 5, 2) := by decide +kernel
theorem dX5_lays_57 : decode cX5_lays 57 = .ok (.lload 5, 2) := by decide +kernel
theorem dX5_lays_59 : decode cX5_lays 59 = .ok (.invokestatic 110, 3) := by decide +kernel
theorem dX5_lays_62 : decode cX5_lays 62 = .ok (.ifCond .eq 20, 3) := by decide +kernel
theorem dX5_lays_65 : decode cX5_lays 65 = .ok (.aload_n 0, 1) := by decide +kernel
theorem dX5_lays_66 : decode cX5_lays 66 = .ok (.getfield 7, 3) := by decide +kernel
theorem dX5_lays_69 : decode cX5_lays 69 = .ok (.iload 4, 2) := by decide +kernel
theorem dX5_lays_71 : decode cX5_lays 71 = .ok (.iconst 2, 1) := by decide +kernel
theorem dX5_lays_72 : decode cX5_lays 72 = .ok (.invokestatic 58, 3) := by decide +kernel
theorem dX5_lays_75 : decode cX5_lays 75 = .ok (.lload 5, 2) := by decide +kernel
theorem dX5_lays_77 : decode cX5_lays 77 = .ok (.l2i, 1) := by decide +kernel
theorem dX5_lays_78 : decode cX5_lays 78 = .ok (.iastore, 1) := by decide +kernel
theorem dX5_lays_79 : decode cX5_lays 79 = .ok (.iinc 3 1, 3) := by decide +kernel
theorem dX5_lays_82 : decode cX5_lays 82 = .ok (.iinc 4 1, 3) := by decide +kernel
theorem dX5_lays_85 : decode cX5_lays 85 = .ok (.goto (-64), 3) := by decide +kernel
theorem dX5_lays_88 : decode cX5_lays 88 = .ok (.iload_n 3, 1) := by decide +kernel
theorem dX5_lays_89 : decode cX5_lays 89 = .ok (.ireturn, 1) := by decide +kernel
def finX5_lays (N : Ml) : Int32 × Mi → Option Value × Mi × Ml := fun b => (some (Value.int b.1), b.2, N)
noncomputable def fX5_lays_21 (N : Ml)  : Nat → Mi → Int32 → Int32 → Int32 → Option (Int32 × Mi)
  | 0 => fun _ _ _ _ => none
  | n + 1 => fun M x1 x3 x4 => (if inb x1 4 then (if (M 8 (ix x1)) ≤ x4 then (some (x3, M)) else (if (M 0 1) ≤ x4 then (some (x3, M)) else (if inb ((40 * x1) + x4) 160 then (if (fX5_isSet (N 9 (ix ((40 * x1) + x4)))) = 0 then ((fX5_lays_21 N n) M x1 x3 (x4 + 1)) else (if inb (fX5_spotOf x4 2) 39 then ((fX5_lays_21 N n) (wM M 0 (ix (fX5_spotOf x4 2)) (Int64.toInt32 (N 9 (ix ((40 * x1) + x4))))) x1 (x3 + 1) (x4 + 1)) else none)) else none))) else none)
theorem bX5_lays_21 {Z : Zt} {E : Ec} {N : Ml} (C : Ok 2 Z E cX5_lays 7 RX5 (some .int) 3)    : ∀ (n : Nat) (M : Mi) (x1 : Int32) (x3 : Int32) (x4 : Int32), GT Z E 7 (finX5_lays N) 21 [(0, .ref (zA Z 6 0)), (1, .int x1), (3, .int x3), (4, .int x4)] [] M N (fX5_lays_21 N n M x1 x3 x4) := by
  intro n
  induction n with
  | zero => intro M x1 x3 x4; exact r_none
  | succ n ih =>
    intro M x1 x3 x4
    rw [fX5_lays_21]
    refine r_iload C dX5_lays_21 3 rfl ?_
    refine r_aload_n C dX5_lays_23 0 0 rfl rfl ?_
    refine gf_X5_31 C dX5_lays_24 ?_
    refine r_iload_n C dX5_lays_27 1 1 rfl rfl ?_
    refine r_guard (fun h3 => ?_)
    refine ald_M (v := (M 8 (ix x1))) C mI_8 h3 rfl dX5_lays_28 ?_
    refine r_ic_ge (tgt := 88) C dX5_lays_29 (by decide) (fun c4 => ?_) (fun c4 => ?_)
    · refine r_iload_n C dX5_lays_88 3 2 rfl rfl ?_
      exact r_iret C dX5_lays_89 rfl
    · refine r_iload C dX5_lays_32 3 rfl ?_
      refine r_aload_n C dX5_lays_34 0 0 rfl rfl ?_
      refine gf_X5_7 C dX5_lays_35 ?_
      refine r_iconst (v := 1) C dX5_lays_38 (by decide) ?_
      refine ald_M (v := (M 0 1)) C mI_0 (by decide) rfl dX5_lays_39 ?_
      refine r_ic_ge (tgt := 88) C dX5_lays_40 (by decide) (fun c5 => ?_) (fun c5 => ?_)
      · refine r_iload_n C dX5_lays_88 3 2 rfl rfl ?_
        exact r_iret C dX5_lays_89 rfl
      · refine r_aload_n C dX5_lays_43 0 0 rfl rfl ?_
        refine gf_X5_34 C dX5_lays_44 ?_
        refine r_bipush (v := 40) C dX5_lays_47 (by decide) ?_
        refine r_iload_n C dX5_lays_49 1 1 rfl rfl ?_
        refine r_imul C dX5_lays_50 ?_
        refine r_iload C dX5_lays_51 3 rfl ?_
        refine r_iadd C dX5_lays_53 ?_
        refine r_guard (fun h6 => ?_)
        refine ald_ML (v := (N 9 (ix ((40 * x1) + x4)))) C mL_9 h6 rfl dX5_lays_54 ?_
        refine r_lstore (lv' := [(5, .long (N 9 (ix ((40 * x1) + x4)))), (0, .ref (zA Z 6 0)), (1, .int x1), (3, .int x3), (4, .int x4)]) C dX5_lays_55 (by decide) rfl ?_
        refine r_lload C dX5_lays_57 0 rfl ?_
        refine r_callS (rest := []) (st2 := [.int (fX5_isSet (N 9 (ix ((40 * x1) + x4))))]) C (mX5_isSet (eL E) C.z _ _ (N 9 (ix ((40 * x1) + x4)))) lk_X5_110 (by decide) rfl rfl (Nat.le_of_ble_eq_true rfl) dX5_lays_59 rfl ?_
        refine r_if_eq (tgt := 82) C dX5_lays_62 (by decide) (fun c7 => ?_) (fun c7 => ?_)
        · refine r_iinc (v := (x4 + 1)) (lv' := [(4, .int (x4 + 1)), (5, .long (N 9 (ix ((40 * x1) + x4)))), (0, .ref (zA Z 6 0)), (1, .int x1), (3, .int x3)]) C dX5_lays_82 4 rfl rfl (by decide) rfl ?_
          refine r_goto (tgt := 21) C dX5_lays_85 (by decide) ?_
          refine r_lv [2, 3, 4, 0] (lv' := [(0, .ref (zA Z 6 0)), (1, .int x1), (3, .int x3), (4, .int (x4 + 1))]) rfl ?_
          exact ih M x1 x3 (x4 + 1)
        · refine r_aload_n C dX5_lays_65 0 1 rfl rfl ?_
          refine gf_X5_7 C dX5_lays_66 ?_
          refine r_iload C dX5_lays_69 4 rfl ?_
          refine r_iconst (v := 2) C dX5_lays_71 (by decide) ?_
          refine r_callS (rest := [.ref (zA Z 0 0)]) (st2 := [.int (fX5_spotOf x4 2), .ref (zA Z 0 0)]) C (mX5_spotOf (eL E) C.z _ _ x4 2) lk_X5_58 (by decide) rfl rfl (Nat.le_of_ble_eq_true rfl) dX5_lays_72 rfl ?_
          refine r_lload C dX5_lays_75 0 rfl ?_
          refine r_l2i C dX5_lays_77 ?_
          refine r_guard (fun h8 => ?_)
          refine ast_M (M' := (wM M 0 (ix (fX5_spotOf x4 2)) (Int64.toInt32 (N 9 (ix ((40 * x1) + x4)))))) C mI_0 h8 rfl dX5_lays_78 ?_
          refine r_iinc (v := (x3 + 1)) (lv' := [(3, .int (x3 + 1)), (5, .long (N 9 (ix ((40 * x1) + x4)))), (0, .ref (zA Z 6 0)), (1, .int x1), (4, .int x4)]) C dX5_lays_79 3 rfl rfl (by decide) rfl ?_
          refine r_iinc (v := (x4 + 1)) (lv' := [(4, .int (x4 + 1)), (3, .int (x3 + 1)), (5, .long (N 9 (ix ((40 * x1) + x4)))), (0, .ref (zA Z 6 0)), (1, .int x1)]) C dX5_lays_82 4 rfl rfl (by decide) rfl ?_
          refine r_goto (tgt := 21) C dX5_lays_85 (by decide) ?_
          refine r_lv [3, 4, 1, 0] (lv' := [(0, .ref (zA Z 6 0)), (1, .int x1), (3, .int (x3 + 1)), (4, .int (x4 + 1))]) rfl ?_
          exact ih (wM M 0 (ix (fX5_spotOf x4 2)) (Int64.toInt32 (N 9 (ix ((40 * x1) + x4))))) x1 (x3 + 1) (x4 + 1)
noncomputable def fX5_lays (N : Ml)  (M : Mi) (x1 : Int32) : Option (Int32 × Mi) := (Option.bind (fX5_wrong M x1) (fun a1 => (if a1 = 0 then (fX5_lays_21 N fu M x1 0 0) else (Option.bind (fX5_finds M a1) (fun a9 => (some (a9.1, (a9.2))))))))
theorem bX5_lays {Z : Zt} {E : Ec} {N : Ml} (C : Ok 2 Z E cX5_lays 7 RX5 (some .int) 3)    (M : Mi) (x1 : Int32)  : GT Z E 7 (finX5_lays N) 0 [(0, .ref (zA Z 6 0)), (1, .int x1)] [] M N (fX5_lays N M x1) := by
  unfold fX5_lays
  refine r_aload_n C dX5_lays_0 0 0 rfl rfl ?_
  refine r_iload_n C dX5_lays_1 1 1 rfl rfl ?_
  refine r_bind (fun a1 ha1 => ?_)
  refine r_callV (rest := []) (st2 := [.int a1]) C (mX5_wrong (eL E) C.z M N x1 a1 ha1) lk_X5_328 (rvM C) (by decide) rfl rfl (Nat.le_of_ble_eq_true rfl) dX5_lays_2 rfl ?_
  refine r_istore_n (lv' := [(2, .int a1), (0, .ref (zA Z 6 0)), (1, .int x1)]) C dX5_lays_5 2 rfl (by decide) rfl ?_
  refine r_iload_n C dX5_lays_6 2 0 rfl rfl ?_
  refine r_if_eq (tgt := 16) C dX5_lays_7 (by decide) (fun c2 => ?_) (fun c2 => ?_)
  · refine r_iconst (v := 0) C dX5_lays_16 (by decide) ?_
    refine r_istore_n (lv' := [(3, .int 0), (2, .int a1), (0, .ref (zA Z 6 0)), (1, .int x1)]) C dX5_lays_17 3 rfl (by decide) rfl ?_
    refine r_iconst (v := 0) C dX5_lays_18 (by decide) ?_
    refine r_istore (lv' := [(4, .int 0), (3, .int 0), (2, .int a1), (0, .ref (zA Z 6 0)), (1, .int x1)]) C dX5_lays_19 (by decide) rfl ?_
    refine r_lv [3, 4, 1, 0] (lv' := [(0, .ref (zA Z 6 0)), (1, .int x1), (3, .int 0), (4, .int 0)]) rfl ?_
    exact bX5_lays_21 C fu M x1 0 0
  · refine r_aload_n C dX5_lays_10 0 1 rfl rfl ?_
    refine r_iload_n C dX5_lays_11 2 0 rfl rfl ?_
    refine r_bind (fun a9 ha9 => ?_)
    refine r_callV (rest := []) (st2 := [.int a9.1]) C (mX5_finds (eL E) C.z M N a1 a9 ha9) lk_X5_65 (rvM C) (by decide) rfl rfl (Nat.le_of_ble_eq_true rfl) dX5_lays_12 rfl ?_
    exact r_iret C dX5_lays_15 rfl
theorem mX5_lays (l : Launch) {Z : Zt} (hZ : Zok 2 Z) (M : Mi) (N : Ml) (x1 : Int32) (b : Int32 × Mi) (hb : fX5_lays N M x1 = some b) : Ct 2 Z l yX5_lays cX5_lays 7 (some .int) 3 [.ref (zA Z 6 0), .int x1] M N (some (Value.int b.1), b.2, N) :=
  metG (fin := (finX5_lays N)) (by decide) (Nat.le_of_ble_eq_true rfl) (fun E _ C => bX5_lays C M x1) hb
theorem dX5_wrongBook_0 : decode cX5_wrongBook 0 = .ok (.aload_n 0, 1) := by decide +kernel
theorem dX5_wrongBook_1 : decode cX5_wrongBook 1 = .ok (.iload_n 1, 1) := by decide +kernel
theorem dX5_wrongBook_2 : decode cX5_wrongBook 2 = .ok (.invokevirtual 328, 3) := by decide +kernel
theorem dX5_wrongBook_5 : decode cX5_wrongBook 5 = .ok (.istore_n 3, 1) := by decide +kernel
theorem dX5_wrongBook_6 : decode cX5_wrongBook 6 = .ok (.iload_n 3, 1) := by decide +kernel
theorem dX5_wrongBook_7 : decode cX5_wrongBook 7 = .ok (.ifCond .eq 7, 3) := by decide +kernel
theorem dX5_wrongBook_10 : decode cX5_wrongBook 10 = .ok (.iload_n 3, 1) := by decide +kernel
theorem dX5_wrongBook_11 : decode cX5_wrongBook 11 = .ok (.goto 17, 3) := by decide +kernel
theorem dX5_wrongBook_14 : decode cX5_wrongBook 14 = .ok (.aload_n 0, 1) := by decide +kernel
theorem dX5_wrongBook_15 : decode cX5_wrongBook 15 = .ok (.iload_n 2, 1) := by decide +kernel
theorem dX5_wrongBook_16 : decode cX5_wrongBook 16 = .ok (.invokevirtual 54, 3) := by decide +kernel
theorem dX5_wrongBook_19 : decode cX5_wrongBook 19 = .ok (.ifCond .eq 7, 3) := by decide +kernel
theorem dX5_wrongBook_22 : decode cX5_wrongBook 22 = .ok (.iconst 0, 1) := by decide +kernel
theorem dX5_wrongBook_23 : decode cX5_wrongBook 23 = .ok (.goto 5, 3) := by decide +kernel
theorem dX5_wrongBook_26 : decode cX5_wrongBook 26 = .ok (.ldc 41, 2) := by decide +kernel
theorem dX5_wrongBook_28 : decode cX5_wrongBook 28 = .ok (.ireturn, 1) := by decide +kernel
def finX5_wrongBook (M : Mi) (N : Ml) : Int32 → Option Value × Mi × Ml := fun b => (some (Value.int b), M, N)
noncomputable def fX5_wrongBook (M : Mi)  (x1 : Int32) (x2 : Int32) : Option (Int32) := (Option.bind (fX5_wrong M x1) (fun a1 => (if a1 = 0 then (if (fX5_isOne (M 0) x2) = 0 then (some (-1000000001)) else (some 0)) else (some a1))))
theorem bX5_wrongBook {Z : Zt} {E : Ec} {M : Mi} {N : Ml} (C : Ok 2 Z E cX5_wrongBook 4 RX5 (some .int) 3)    (x1 : Int32) (x2 : Int32)  : GT Z E 4 (finX5_wrongBook M N) 0 [(0, .ref (zA Z 6 0)), (1, .int x1), (2, .int x2)] [] M N (fX5_wrongBook M x1 x2) := by
  unfold fX5_wrongBook
  refine r_aload_n C dX5_wrongBook_0 0 0 rfl rfl ?_
  refine r_iload_n C dX5_wrongBook_1 1 1 rfl rfl ?_
  refine r_bind (fun a1 ha1 => ?_)
  refine r_callV (rest := []) (st2 := [.int a1]) C (mX5_wrong (eL E) C.z M N x1 a1 ha1) lk_X5_328 (rvM C) (by decide) rfl rfl (Nat.le_of_ble_eq_true rfl) dX5_wrongBook_2 rfl ?_
  refine r_istore_n (lv' := [(3, .int a1), (0, .ref (zA Z 6 0)), (1, .int x1), (2, .int x2)]) C dX5_wrongBook_5 3 rfl (by decide) rfl ?_
  refine r_iload_n C dX5_wrongBook_6 3 0 rfl rfl ?_
  refine r_if_eq (tgt := 14) C dX5_wrongBook_7 (by decide) (fun c2 => ?_) (fun c2 => ?_)
  · refine r_aload_n C dX5_wrongBook_14 0 1 rfl rfl ?_
    refine r_iload_n C dX5_wrongBook_15 2 3 rfl rfl ?_
    refine r_callV (rest := []) (st2 := [.int (fX5_isOne (M 0) x2)]) C (mX5_isOne (eL E) C.z M _ (M 0) x2).selfR lk_X5_54 (rvM C) (by decide) rfl rfl (Nat.le_of_ble_eq_true rfl) dX5_wrongBook_16 rfl ?_
    refine r_if_eq (tgt := 26) C dX5_wrongBook_19 (by decide) (fun c3 => ?_) (fun c3 => ?_)
    · refine r_ldc (v := (-1000000001)) C dX5_wrongBook_26 wd_859 ?_
      exact r_iret C dX5_wrongBook_28 rfl
    · refine r_iconst (v := 0) C dX5_wrongBook_22 (by decide) ?_
      refine r_goto (tgt := 28) C dX5_wrongBook_23 (by decide) ?_
      exact r_iret C dX5_wrongBook_28 rfl
  · refine r_iload_n C dX5_wrongBook_10 3 0 rfl rfl ?_
    refine r_goto (tgt := 28) C dX5_wrongBook_11 (by decide) ?_
    exact r_iret C dX5_wrongBook_28 rfl
theorem mX5_wrongBook (l : Launch) {Z : Zt} (hZ : Zok 2 Z) (M : Mi) (N : Ml) (x1 : Int32) (x2 : Int32) (b : Int32) (hb : fX5_wrongBook M x1 x2 = some b) : Ct 2 Z l yX5_wrongBook cX5_wrongBook 4 (some .int) 3 [.ref (zA Z 6 0), .int x1, .int x2] M N (some (Value.int b), M, N) :=
  metG (fin := (finX5_wrongBook M N)) (by decide) (Nat.le_of_ble_eq_true rfl) (fun E _ C => bX5_wrongBook C x1 x2) hb
theorem dX5_book_0 : decode cX5_book 0 = .ok (.aload_n 0, 1) := by decide +kernel
theorem dX5_book_1 : decode cX5_book 1 = .ok (.iload_n 1, 1) := by decide +kernel
theorem dX5_book_2 : decode cX5_book 2 = .ok (.iload_n 2, 1) := by decide +kernel
theorem dX5_book_3 : decode cX5_book 3 = .ok (.invokevirtual 335, 3) := by decide +kernel
theorem dX5_book_6 : decode cX5_book 6 = .ok (.istore_n 3, 1) := by decide +kernel
theorem dX5_book_7 : decode cX5_book 7 = .ok (.iload_n 3, 1) := by decide +kernel
theorem dX5_book_8 : decode cX5_book 8 = .ok (.ifCond .eq 9, 3) := by decide +kernel
theorem dX5_book_11 : decode cX5_book 11 = .ok (.aload_n 0, 1) := by decide +kernel
theorem dX5_book_12 : decode cX5_book 12 = .ok (.iload_n 3, 1) := by decide +kernel
theorem dX5_book_13 : decode cX5_book 13 = .ok (.invokevirtual 65, 3) := by decide +kernel
theorem dX5_book_16 : decode cX5_book 16 = .ok (.ireturn, 1) := by decide +kernel
theorem dX5_book_17 : decode cX5_book 17 = .ok (.aload_n 0, 1) := by decide +kernel
theorem dX5_book_18 : decode cX5_book 18 = .ok (.invokevirtual 172, 3) := by decide +kernel
theorem dX5_book_21 : decode cX5_book 21 = .ok (.iconst 0, 1) := by decide +kernel
theorem dX5_book_22 : decode cX5_book 22 = .ok (.istore 4, 2) := by decide +kernel
theorem dX5_book_24 : decode cX5_book 24 = .ok (.iload 4, 2) := by decide +kernel
theorem dX5_book_26 : decode cX5_book 26 = .ok (.aload_n 0, 1) := by decide +kernel
theorem dX5_book_27 : decode cX5_book 27 = .ok (.getfield 31, 3) := by decide +kernel
theorem dX5_book_30 : decode cX5_book 30 = .ok (.iload_n 1, 1) := by decide +kernel
theorem dX5_book_31 : decode cX5_book 31 = .ok (.iaload, 1) := by decide +kernel
theorem dX5_book_32 : decode cX5_book 32 = .ok (.if_icmp .ge 32, 3) := by decide +kernel
theorem dX5_book_35 : decode cX5_book 35 = .ok (.aload_n 0, 1) := by decide +kernel
theorem dX5_book_36 : decode cX5_book 36 = .ok (.getfield 34, 3) := by decide +kernel
theorem dX5_book_39 : decode cX5_book 39 = .ok (.bipush 40, 2) := by decide +kernel
theorem dX5_book_41 : decode cX5_book 41 = .ok (.iload_n 1, 1) := by decide +kernel
theorem dX5_book_42 : decode cX5_book 42 = .ok (.imul, 1) := by decide +kernel
theorem dX5_book_43 : decode cX5_book 43 = .ok (.iload 4, 2) := by decide +kernel
theorem dX5_book_45 : decode cX5_book 45 = .ok (.iadd, 1) := by decide +kernel
theorem dX5_book_46 : decode cX5_book 46 = .ok (.aload_n 0, 1) := by decide +kernel
theorem dX5_book_47 : decode cX5_book 47 = .ok (.iload_n 2, 1) := by decide +kernel
theorem dX5_book_48 : decode cX5_book 48 = .ok (.iconst 1, 1) := by decide +kernel
theorem dX5_book_49 : decode cX5_book 49 = .ok (.invokevirtual 83, 3) := by decide +kernel
theorem dX5_book_52 : decode cX5_book 52 = .ok (.i2l, 1) := by decide +kernel
theorem dX5_book_53 : decode cX5_book 53 = .ok (.lastore, 1) := by decide +kernel
theorem dX5_book_54 : decode cX5_book 54 = .ok (.aload_n 0, 1) := by decide +kernel
theorem dX5_book_55 : decode cX5_book 55 = .ok (.invokevirtual 155, 3) := by decide +kernel
theorem dX5_book_58 : decode cX5_book 58 = .ok (.iinc 4 1, 3) := by decide +kernel
theorem dX5_book_61 : decode cX5_book 61 = .ok (.goto (-37), 3) := by decide +kernel
theorem dX5_book_64 : decode cX5_book 64 = .ok (.aload_n 0, 1) := by decide +kernel
theorem dX5_book_65 : decode cX5_book 65 = .ok (.aload_n 0, 1) := by decide +kernel
theorem dX5_book_66 : decode cX5_book 66 = .ok (.getfield 31, 3) := by decide +kernel
theorem dX5_book_69 : decode cX5_book 69 = .ok (.iload_n 1, 1) := by decide +kernel
theorem dX5_book_70 : decode cX5_book 70 = .ok (.iaload, 1) := by decide +kernel
theorem dX5_book_71 : decode cX5_book 71 = .ok (.invokevirtual 175, 3) := by decide +kernel
theorem dX5_book_74 : decode cX5_book 74 = .ok (.ireturn, 1) := by decide +kernel
def finX5_book  : Int32 × Mi × Ml → Option Value × Mi × Ml := fun b => (some (Value.int b.1), b.2.1, b.2.2)
noncomputable def fX5_book_24   : Nat → Mi → Ml → Int32 → Int32 → Int32 → Option (Int32 × Mi × Ml)
  | 0 => fun _ _ _ _ _ => none
  | n + 1 => fun M N x1 x2 x4 => (if inb x1 4 then (if (M 8 (ix x1)) ≤ x4 then (Option.bind (fX5_takesBack M (M 8 (ix x1))) (fun a6 => (some (a6.1, (a6.2), N)))) else (Option.bind (fX5_its (M 0) x2 1) (fun a7 => (if inb ((40 * x1) + x4) 160 then (Option.bind (fX5_hour (M 0)) (fun a9 => ((fX5_book_24 n) (sR M 0 a9) (wN N 9 (ix ((40 * x1) + x4)) (Int32.toInt64 a7)) x1 x2 (x4 + 1)))) else none)))) else none)
theorem bX5_book_24 {Z : Zt} {E : Ec}  (C : Ok 2 Z E cX5_book 5 RX5 (some .int) 5)    : ∀ (n : Nat) (M : Mi) (N : Ml) (x1 : Int32) (x2 : Int32) (x4 : Int32), GT Z E 5 finX5_book 24 [(0, .ref (zA Z 6 0)), (1, .int x1), (2, .int x2), (4, .int x4)] [] M N (fX5_book_24 n M N x1 x2 x4) := by
  intro n
  induction n with
  | zero => intro M N x1 x2 x4; exact r_none
  | succ n ih =>
    intro M N x1 x2 x4
    rw [fX5_book_24]
    refine r_iload C dX5_book_24 3 rfl ?_
    refine r_aload_n C dX5_book_26 0 0 rfl rfl ?_
    refine gf_X5_31 C dX5_book_27 ?_
    refine r_iload_n C dX5_book_30 1 1 rfl rfl ?_
    refine r_guard (fun h4 => ?_)
    refine ald_M (v := (M 8 (ix x1))) C mI_8 h4 rfl dX5_book_31 ?_
    refine r_ic_ge (tgt := 64) C dX5_book_32 (by decide) (fun c5 => ?_) (fun c5 => ?_)
    · refine r_aload_n C dX5_book_64 0 0 rfl rfl ?_
      refine r_aload_n C dX5_book_65 0 0 rfl rfl ?_
      refine gf_X5_31 C dX5_book_66 ?_
      refine r_iload_n C dX5_book_69 1 1 rfl rfl ?_
      refine ald_M (v := (M 8 (ix x1))) C mI_8 h4 rfl dX5_book_70 ?_
      refine r_bind (fun a6 ha6 => ?_)
      refine r_callV (rest := []) (st2 := [.int a6.1]) C (mX5_takesBack (eL E) C.z M N (M 8 (ix x1)) a6 ha6) lk_X5_175 (rvM C) (by decide) rfl rfl (Nat.le_of_ble_eq_true rfl) dX5_book_71 rfl ?_
      exact r_iret C dX5_book_74 rfl
    · refine r_aload_n C dX5_book_35 0 0 rfl rfl ?_
      refine gf_X5_34 C dX5_book_36 ?_
      refine r_bipush (v := 40) C dX5_book_39 (by decide) ?_
      refine r_iload_n C dX5_book_41 1 1 rfl rfl ?_
      refine r_imul C dX5_book_42 ?_
      refine r_iload C dX5_book_43 3 rfl ?_
      refine r_iadd C dX5_book_45 ?_
      refine r_aload_n C dX5_book_46 0 0 rfl rfl ?_
      refine r_iload_n C dX5_book_47 2 2 rfl rfl ?_
      refine r_iconst (v := 1) C dX5_book_48 (by decide) ?_
      refine r_bind (fun a7 ha7 => ?_)
      refine r_callV (rest := [.int ((40 * x1) + x4), .ref (zA Z 9 0)]) (st2 := [.int a7, .int ((40 * x1) + x4), .ref (zA Z 9 0)]) C (mX5_its (eL E) C.z M _ (M 0) x2 1 a7 ha7).selfR lk_X5_83 (rvM C) (by decide) rfl rfl (Nat.le_of_ble_eq_true rfl) dX5_book_49 rfl ?_
      refine r_i2l C dX5_book_52 ?_
      refine r_guard (fun h8 => ?_)
      refine ast_ML (N' := (wN N 9 (ix ((40 * x1) + x4)) (Int32.toInt64 a7))) C mL_9 h8 rfl dX5_book_53 ?_
      refine r_aload_n C dX5_book_54 0 0 rfl rfl ?_
      refine r_bind (fun a9 ha9 => ?_)
      refine r_callV (rest := []) (st2 := []) C (mX5_hour (eL E) C.z M _ (M 0) a9 ha9).selfW lk_X5_155 (rvM C) (by decide) rfl rfl (Nat.le_of_ble_eq_true rfl) dX5_book_55 rfl ?_
      refine r_iinc (v := (x4 + 1)) (lv' := [(4, .int (x4 + 1)), (0, .ref (zA Z 6 0)), (1, .int x1), (2, .int x2)]) C dX5_book_58 3 rfl rfl (by decide) rfl ?_
      refine r_goto (tgt := 24) C dX5_book_61 (by decide) ?_
      refine r_lv [1, 2, 3, 0] (lv' := [(0, .ref (zA Z 6 0)), (1, .int x1), (2, .int x2), (4, .int (x4 + 1))]) rfl ?_
      exact ih (sR M 0 a9) (wN N 9 (ix ((40 * x1) + x4)) (Int32.toInt64 a7)) x1 x2 (x4 + 1)
noncomputable def fX5_book   (M : Mi) (N : Ml) (x1 : Int32) (x2 : Int32) : Option (Int32 × Mi × Ml) := (Option.bind (fX5_wrongBook M x1 x2) (fun a1 => (if a1 = 0 then (Option.bind (fX5_laysAside M) (fun a3 => (fX5_book_24 fu a3 N x1 x2 0))) else (Option.bind (fX5_finds M a1) (fun a10 => (some (a10.1, (a10.2), N)))))))
theorem bX5_book {Z : Zt} {E : Ec}  (C : Ok 2 Z E cX5_book 5 RX5 (some .int) 5)    (M : Mi) (N : Ml) (x1 : Int32) (x2 : Int32)  : GT Z E 5 finX5_book 0 [(0, .ref (zA Z 6 0)), (1, .int x1), (2, .int x2)] [] M N (fX5_book M N x1 x2) := by
  unfold fX5_book
  refine r_aload_n C dX5_book_0 0 0 rfl rfl ?_
  refine r_iload_n C dX5_book_1 1 1 rfl rfl ?_
  refine r_iload_n C dX5_book_2 2 2 rfl rfl ?_
  refine r_bind (fun a1 ha1 => ?_)
  refine r_callV (rest := []) (st2 := [.int a1]) C (mX5_wrongBook (eL E) C.z M N x1 x2 a1 ha1) lk_X5_335 (rvM C) (by decide) rfl rfl (Nat.le_of_ble_eq_true rfl) dX5_book_3 rfl ?_
  refine r_istore_n (lv' := [(3, .int a1), (0, .ref (zA Z 6 0)), (1, .int x1), (2, .int x2)]) C dX5_book_6 3 rfl (by decide) rfl ?_
  refine r_iload_n C dX5_book_7 3 0 rfl rfl ?_
  refine r_if_eq (tgt := 17) C dX5_book_8 (by decide) (fun c2 => ?_) (fun c2 => ?_)
  · refine r_aload_n C dX5_book_17 0 1 rfl rfl ?_
    refine r_bind (fun a3 ha3 => ?_)
    refine r_callV (rest := []) (st2 := []) C (mX5_laysAside (eL E) C.z M N a3 ha3) lk_X5_172 (rvM C) (by decide) rfl rfl (Nat.le_of_ble_eq_true rfl) dX5_book_18 rfl ?_
    refine r_iconst (v := 0) C dX5_book_21 (by decide) ?_
    refine r_istore (lv' := [(4, .int 0), (3, .int a1), (0, .ref (zA Z 6 0)), (1, .int x1), (2, .int x2)]) C dX5_book_22 (by decide) rfl ?_
    refine r_lv [2, 3, 4, 0] (lv' := [(0, .ref (zA Z 6 0)), (1, .int x1), (2, .int x2), (4, .int 0)]) rfl ?_
    exact bX5_book_24 C fu a3 N x1 x2 0
  · refine r_aload_n C dX5_book_11 0 1 rfl rfl ?_
    refine r_iload_n C dX5_book_12 3 0 rfl rfl ?_
    refine r_bind (fun a10 ha10 => ?_)
    refine r_callV (rest := []) (st2 := [.int a10.1]) C (mX5_finds (eL E) C.z M N a1 a10 ha10) lk_X5_65 (rvM C) (by decide) rfl rfl (Nat.le_of_ble_eq_true rfl) dX5_book_13 rfl ?_
    exact r_iret C dX5_book_16 rfl
theorem mX5_book (l : Launch) {Z : Zt} (hZ : Zok 2 Z) (M : Mi) (N : Ml) (x1 : Int32) (x2 : Int32) (b : Int32 × Mi × Ml) (hb : fX5_book M N x1 x2 = some b) : Ct 2 Z l yX5_book cX5_book 5 (some .int) 5 [.ref (zA Z 6 0), .int x1, .int x2] M N (some (Value.int b.1), b.2.1, b.2.2) :=
  metG (fin := finX5_book) (by decide) (Nat.le_of_ble_eq_true rfl) (fun E _ C => bX5_book C M N x1 x2) hb
theorem dX5_isSo_0 : decode cX5_isSo 0 = .ok (.iconst 1, 1) := by decide +kernel
theorem dX5_isSo_1 : decode cX5_isSo 1 = .ok (.istore_n 3, 1) := by decide +kernel
theorem dX5_isSo_2 : decode cX5_isSo 2 = .ok (.iconst 0, 1) := by decide +kernel
theorem dX5_isSo_3 : decode cX5_isSo 3 = .ok (.istore 4, 2) := by decide +kernel
theorem dX5_isSo_5 : decode cX5_isSo 5 = .ok (.iload 4, 2) := by decide +kernel
theorem dX5_isSo_7 : decode cX5_isSo 7 = .ok (.aload_n 0, 1) := by decide +kernel
theorem dX5_isSo_8 : decode cX5_isSo 8 = .ok (.getfield 31, 3) := by decide +kernel
theorem dX5_isSo_11 : decode cX5_isSo 11 = .ok (.iload_n 1, 1) := by decide +kernel
theorem dX5_isSo_12 : decode cX5_isSo 12 = .ok (.iaload, 1) := by decide +kernel
theorem dX5_isSo_13 : decode cX5_isSo 13 = .ok (.if_icmp .ge 46, 3) := by decide +kernel
theorem dX5_isSo_16 : decode cX5_isSo 16 = .ok (.iload_n 3, 1) := by decide +kernel
theorem dX5_isSo_17 : decode cX5_isSo 17 = .ok (.ifCond .eq 42, 3) := by decide +kernel
theorem dX5_isSo_20 : decode cX5_isSo 20 = .ok (.aload_n 0, 1) := by decide +kernel
theorem dX5_isSo_21 : decode cX5_isSo 21 = .ok (.getfield 34, 3) := by decide +kernel
theorem dX5_isSo_24 : decode cX5_isSo 24 = .ok (.bipush 40, 2) := by decide +kernel
theorem dX5_isSo_26 : decode cX5_isSo 26 = .ok (.iload_n 1, 1) := by decide +kernel
theorem dX5_isSo_27 : decode cX5_isSo 27 = .ok (.imul, 1) := by decide +kernel
theorem dX5_isSo_28 : decode cX5_isSo 28 = .ok (.iload 4, 2) := by decide +kernel
theorem dX5_isSo_30 : decode cX5_isSo 30 = .ok (.iadd, 1) := by decide +kernel
theorem dX5_isSo_31 : decode cX5_isSo 31 = .ok (.laload, 1) := by decide +kernel
theorem dX5_isSo_32 : decode cX5_isSo 32 = .ok (.aload_n 0, 1) := by decide +kernel
theorem dX5_isSo_33 : decode cX5_isSo 33 = .ok (.iload_n 2, 1) := by decide +kernel
theorem dX5_isSo_34 : decode cX5_isSo 34 = .ok (.iconst 1, 1) := by decide +kernel
theorem dX5_isSo_35 : decode cX5_isSo 35 = .ok (.invokevirtual 83, 3) := by decide +kernel
theorem dX5_isSo_38 : decode cX5_isSo 38 = .ok (.i2l, 1) := by decide +kernel
theorem dX5_isSo_39 : decode cX5_isSo 39 = .ok (.lcmp, 1) := by decide +kernel
theorem dX5_isSo_40 : decode cX5_isSo 40 = .ok (.ifCond .ne 7, 3) := by decide +kernel
theorem dX5_isSo_43 : decode cX5_isSo 43 = .ok (.iconst 1, 1) := by decide +kernel
theorem dX5_isSo_44 : decode cX5_isSo 44 = .ok (.goto 4, 3) := by decide +kernel
theorem dX5_isSo_47 : decode cX5_isSo 47 = .ok (.iconst 0, 1) := by decide +kernel
theorem dX5_isSo_48 : decode cX5_isSo 48 = .ok (.istore_n 3, 1) := by decide +kernel
theorem dX5_isSo_49 : decode cX5_isSo 49 = .ok (.aload_n 0, 1) := by decide +kernel
theorem dX5_isSo_50 : decode cX5_isSo 50 = .ok (.invokevirtual 155, 3) := by decide +kernel
theorem dX5_isSo_53 : decode cX5_isSo 53 = .ok (.iinc 4 1, 3) := by decide +kernel
theorem dX5_isSo_56 : decode cX5_isSo 56 = .ok (.goto (-51), 3) := by decide +kernel
theorem dX5_isSo_59 : decode cX5_isSo 59 = .ok (.iload_n 3, 1) := by decide +kernel
theorem dX5_isSo_60 : decode cX5_isSo 60 = .ok (.ifCond .eq 7, 3) := by decide +kernel
theorem dX5_isSo_63 : decode cX5_isSo 63 = .ok (.iconst 1, 1) := by decide +kernel
theorem dX5_isSo_64 : decode cX5_isSo 64 = .ok (.goto 4, 3) := by decide +kernel
theorem dX5_isSo_67 : decode cX5_isSo 67 = .ok (.iconst 0, 1) := by decide +kernel
theorem dX5_isSo_68 : decode cX5_isSo 68 = .ok (.ireturn, 1) := by decide +kernel
def finX5_isSo (N : Ml) : Int32 × Mi → Option Value × Mi × Ml := fun b => (some (Value.int b.1), b.2, N)
noncomputable def fX5_isSo_59 (N : Ml)  (M : Mi) (x3 : Int32) : Option (Int32 × Mi) := (if x3 = 0 then (some (0, M)) else (some (1, M)))
theorem bX5_isSo_59 {Z : Zt} {E : Ec} {N : Ml} (C : Ok 2 Z E cX5_isSo 5 RX5 (some .int) 5)    (M : Mi) (x3 : Int32)  : GT Z E 5 (finX5_isSo N) 59 [(3, .int x3)] [] M N (fX5_isSo_59 N M x3) := by
  unfold fX5_isSo_59
  refine r_iload_n C dX5_isSo_59 3 0 rfl rfl ?_
  refine r_if_eq (tgt := 67) C dX5_isSo_60 (by decide) (fun c3 => ?_) (fun c3 => ?_)
  · refine r_iconst (v := 0) C dX5_isSo_67 (by decide) ?_
    exact r_iret C dX5_isSo_68 rfl
  · refine r_iconst (v := 1) C dX5_isSo_63 (by decide) ?_
    refine r_goto (tgt := 68) C dX5_isSo_64 (by decide) ?_
    exact r_iret C dX5_isSo_68 rfl
noncomputable def fX5_isSo_48 (N : Ml) (r5 : Mi → Int32 → Int32 → Int32 → Int32 → Option (Int32 × Mi)) (M : Mi) (x1 : Int32) (x2 : Int32) (x4 : Int32) (s0 : Int32) : Option (Int32 × Mi) := (Option.bind (fX5_hour (M 0)) (fun a8 => (r5 (sR M 0 a8) x1 x2 s0 (x4 + 1))))
theorem bX5_isSo_48 {Z : Zt} {E : Ec} {N : Ml} (C : Ok 2 Z E cX5_isSo 5 RX5 (some .int) 5)  (r5 : Mi → Int32 → Int32 → Int32 → Int32 → Option (Int32 × Mi)) (hr5 : ∀ (M : Mi) (x1 : Int32) (x2 : Int32) (x3 : Int32) (x4 : Int32), GT Z E 5 (finX5_isSo N) 5 [(0, .ref (zA Z 6 0)), (1, .int x1), (2, .int x2), (3, .int x3), (4, .int x4)] [] M N (r5 M x1 x2 x3 x4)) (M : Mi) (x1 : Int32) (x2 : Int32) (x4 : Int32) (s0 : Int32)  : GT Z E 5 (finX5_isSo N) 48 [(0, .ref (zA Z 6 0)), (1, .int x1), (2, .int x2), (4, .int x4)] [.int s0] M N (fX5_isSo_48 N r5 M x1 x2 x4 s0) := by
  unfold fX5_isSo_48
  refine r_istore_n (lv' := [(3, .int s0), (0, .ref (zA Z 6 0)), (1, .int x1), (2, .int x2), (4, .int x4)]) C dX5_isSo_48 3 rfl (by decide) rfl ?_
  refine r_aload_n C dX5_isSo_49 0 1 rfl rfl ?_
  refine r_bind (fun a8 ha8 => ?_)
  refine r_callV (rest := []) (st2 := []) C (mX5_hour (eL E) C.z M _ (M 0) a8 ha8).selfW lk_X5_155 (rvM C) (by decide) rfl rfl (Nat.le_of_ble_eq_true rfl) dX5_isSo_50 rfl ?_
  refine r_iinc (v := (x4 + 1)) (lv' := [(4, .int (x4 + 1)), (3, .int s0), (0, .ref (zA Z 6 0)), (1, .int x1), (2, .int x2)]) C dX5_isSo_53 4 rfl rfl (by decide) rfl ?_
  refine r_goto (tgt := 5) C dX5_isSo_56 (by decide) ?_
  refine r_lv [2, 3, 4, 1, 0] (lv' := [(0, .ref (zA Z 6 0)), (1, .int x1), (2, .int x2), (3, .int s0), (4, .int (x4 + 1))]) rfl ?_
  exact hr5 (sR M 0 a8) x1 x2 s0 (x4 + 1)
noncomputable def fX5_isSo_5 (N : Ml)  : Nat → Mi → Int32 → Int32 → Int32 → Int32 → Option (Int32 × Mi)
  | 0 => fun _ _ _ _ _ => none
  | n + 1 => fun M x1 x2 x3 x4 => (if inb x1 4 then (if (M 8 (ix x1)) ≤ x4 then (fX5_isSo_59 N M x3) else (if x3 = 0 then (fX5_isSo_59 N M x3) else (if inb ((40 * x1) + x4) 160 then (Option.bind (fX5_its (M 0) x2 1) (fun a6 => (if (N 9 (ix ((40 * x1) + x4))) = (Int32.toInt64 a6) then (fX5_isSo_48 N (fX5_isSo_5 N n) M x1 x2 x4 1) else (fX5_isSo_48 N (fX5_isSo_5 N n) M x1 x2 x4 0)))) else none))) else none)
theorem bX5_isSo_5 {Z : Zt} {E : Ec} {N : Ml} (C : Ok 2 Z E cX5_isSo 5 RX5 (some .int) 5)    : ∀ (n : Nat) (M : Mi) (x1 : Int32) (x2 : Int32) (x3 : Int32) (x4 : Int32), GT Z E 5 (finX5_isSo N) 5 [(0, .ref (zA Z 6 0)), (1, .int x1), (2, .int x2), (3, .int x3), (4, .int x4)] [] M N (fX5_isSo_5 N n M x1 x2 x3 x4) := by
  intro n
  induction n with
  | zero => intro M x1 x2 x3 x4; exact r_none
  | succ n ih =>
    intro M x1 x2 x3 x4
    rw [fX5_isSo_5]
    refine r_iload C dX5_isSo_5 4 rfl ?_
    refine r_aload_n C dX5_isSo_7 0 0 rfl rfl ?_
    refine gf_X5_31 C dX5_isSo_8 ?_
    refine r_iload_n C dX5_isSo_11 1 1 rfl rfl ?_
    refine r_guard (fun h1 => ?_)
    refine ald_M (v := (M 8 (ix x1))) C mI_8 h1 rfl dX5_isSo_12 ?_
    refine r_ic_ge (tgt := 59) C dX5_isSo_13 (by decide) (fun c2 => ?_) (fun c2 => ?_)
    · refine r_lv [3] (lv' := [(3, .int x3)]) rfl ?_
      exact bX5_isSo_59 C M x3
    · refine r_iload_n C dX5_isSo_16 3 3 rfl rfl ?_
      refine r_if_eq (tgt := 59) C dX5_isSo_17 (by decide) (fun c4 => ?_) (fun c4 => ?_)
      · refine r_lv [3] (lv' := [(3, .int x3)]) rfl ?_
        exact bX5_isSo_59 C M x3
      · refine r_aload_n C dX5_isSo_20 0 0 rfl rfl ?_
        refine gf_X5_34 C dX5_isSo_21 ?_
        refine r_bipush (v := 40) C dX5_isSo_24 (by decide) ?_
        refine r_iload_n C dX5_isSo_26 1 1 rfl rfl ?_
        refine r_imul C dX5_isSo_27 ?_
        refine r_iload C dX5_isSo_28 4 rfl ?_
        refine r_iadd C dX5_isSo_30 ?_
        refine r_guard (fun h5 => ?_)
        refine ald_ML (v := (N 9 (ix ((40 * x1) + x4)))) C mL_9 h5 rfl dX5_isSo_31 ?_
        refine r_aload_n C dX5_isSo_32 0 0 rfl rfl ?_
        refine r_iload_n C dX5_isSo_33 2 2 rfl rfl ?_
        refine r_iconst (v := 1) C dX5_isSo_34 (by decide) ?_
        refine r_bind (fun a6 ha6 => ?_)
        refine r_callV (rest := [.long (N 9 (ix ((40 * x1) + x4)))]) (st2 := [.int a6, .long (N 9 (ix ((40 * x1) + x4)))]) C (mX5_its (eL E) C.z M _ (M 0) x2 1 a6 ha6).selfR lk_X5_83 (rvM C) (by decide) rfl rfl (Nat.le_of_ble_eq_true rfl) dX5_isSo_35 rfl ?_
        refine r_i2l C dX5_isSo_38 ?_
        refine r_lc_ne (tgt := 47) C dX5_isSo_39 dX5_isSo_40 (by decide) (fun c7 => ?_) (fun c7 => ?_)
        · refine r_iconst (v := 0) C dX5_isSo_47 (by decide) ?_
          refine r_lv [0, 1, 2, 4] (lv' := [(0, .ref (zA Z 6 0)), (1, .int x1), (2, .int x2), (4, .int x4)]) rfl ?_
          exact bX5_isSo_48 C (fX5_isSo_5 N n) ih M x1 x2 x4 0
        · refine r_iconst (v := 1) C dX5_isSo_43 (by decide) ?_
          refine r_goto (tgt := 48) C dX5_isSo_44 (by decide) ?_
          refine r_lv [0, 1, 2, 4] (lv' := [(0, .ref (zA Z 6 0)), (1, .int x1), (2, .int x2), (4, .int x4)]) rfl ?_
          exact bX5_isSo_48 C (fX5_isSo_5 N n) ih M x1 x2 x4 1
noncomputable def fX5_isSo (N : Ml)  (M : Mi) (x1 : Int32) (x2 : Int32) : Option (Int32 × Mi) := (fX5_isSo_5 N fu M x1 x2 1 0)
theorem bX5_isSo {Z : Zt} {E : Ec} {N : Ml} (C : Ok 2 Z E cX5_isSo 5 RX5 (some .int) 5)    (M : Mi) (x1 : Int32) (x2 : Int32)  : GT Z E 5 (finX5_isSo N) 0 [(0, .ref (zA Z 6 0)), (1, .int x1), (2, .int x2)] [] M N (fX5_isSo N M x1 x2) := by
  unfold fX5_isSo
  refine r_iconst (v := 1) C dX5_isSo_0 (by decide) ?_
  refine r_istore_n (lv' := [(3, .int 1), (0, .ref (zA Z 6 0)), (1, .int x1), (2, .int x2)]) C dX5_isSo_1 3 rfl (by decide) rfl ?_
  refine r_iconst (v := 0) C dX5_isSo_2 (by decide) ?_
  refine r_istore (lv' := [(4, .int 0), (3, .int 1), (0, .ref (zA Z 6 0)), (1, .int x1), (2, .int x2)]) C dX5_isSo_3 (by decide) rfl ?_
  refine r_lv [2, 3, 4, 1, 0] (lv' := [(0, .ref (zA Z 6 0)), (1, .int x1), (2, .int x2), (3, .int 1), (4, .int 0)]) rfl ?_
  exact bX5_isSo_5 C fu M x1 x2 1 0
theorem mX5_isSo (l : Launch) {Z : Zt} (hZ : Zok 2 Z) (M : Mi) (N : Ml) (x1 : Int32) (x2 : Int32) (b : Int32 × Mi) (hb : fX5_isSo N M x1 x2 = some b) : Ct 2 Z l yX5_isSo cX5_isSo 5 (some .int) 5 [.ref (zA Z 6 0), .int x1, .int x2] M N (some (Value.int b.1), b.2, N) :=
  metG (fin := (finX5_isSo N)) (by decide) (Nat.le_of_ble_eq_true rfl) (fun E _ C => bX5_isSo C M x1 x2) hb
theorem dX5_read_0 : decode cX5_read 0 = .ok (.aload_n 0, 1) := by decide +kernel
theorem dX5_read_1 : decode cX5_read 1 = .ok (.iload_n 1, 1) := by decide +kernel
theorem dX5_read_2 : decode cX5_read 2 = .ok (.iload_n 2, 1) := by decide +kernel
theorem dX5_read_3 : decode cX5_read 3 = .ok (.invokevirtual 335, 3) := by decide +kernel
theorem dX5_read_6 : decode cX5_read 6 = .ok (.istore_n 3, 1) := by decide +kernel
theorem dX5_read_7 : decode cX5_read 7 = .ok (.iload_n 3, 1) := by decide +kernel
theorem dX5_read_8 : decode cX5_read 8 = .ok (.ifCond .eq 9, 3) := by decide +kernel
theorem dX5_read_11 : decode cX5_read 11 = .ok (.aload_n 0, 1) := by decide +kernel
theorem dX5_read_12 : decode cX5_read 12 = .ok (.iload_n 3, 1) := by decide +kernel
theorem dX5_read_13 : decode cX5_read 13 = .ok (.invokevirtual 65, 3) := by decide +kernel
theorem dX5_read_16 : decode cX5_read 16 = .ok (.ireturn, 1) := by decide +kernel
theorem dX5_read_17 : decode cX5_read 17 = .ok (.aload_n 0, 1) := by decide +kernel
theorem dX5_read_18 : decode cX5_read 18 = .ok (.invokevirtual 172, 3) := by decide +kernel
theorem dX5_read_21 : decode cX5_read 21 = .ok (.iconst 0, 1) := by decide +kernel
theorem dX5_read_22 : decode cX5_read 22 = .ok (.istore 4, 2) := by decide +kernel
theorem dX5_read_24 : decode cX5_read 24 = .ok (.iconst 0, 1) := by decide +kernel
theorem dX5_read_25 : decode cX5_read 25 = .ok (.istore 5, 2) := by decide +kernel
theorem dX5_read_27 : decode cX5_read 27 = .ok (.iload 5, 2) := by decide +kernel
theorem dX5_read_29 : decode cX5_read 29 = .ok (.iconst 5, 1) := by decide +kernel
theorem dX5_read_30 : decode cX5_read 30 = .ok (.if_icmp .gt 60, 3) := by decide +kernel
theorem dX5_read_33 : decode cX5_read 33 = .ok (.iconst 0, 1) := by decide +kernel
theorem dX5_read_34 : decode cX5_read 34 = .ok (.istore 6, 2) := by decide +kernel
theorem dX5_read_36 : decode cX5_read 36 = .ok (.iload 6, 2) := by decide +kernel
theorem dX5_read_38 : decode cX5_read 38 = .ok (.bipush 30, 2) := by decide +kernel
theorem dX5_read_40 : decode cX5_read 40 = .ok (.if_icmp .ge 44, 3) := by decide +kernel
theorem dX5_read_43 : decode cX5_read 43 = .ok (.aload_n 0, 1) := by decide +kernel
theorem dX5_read_44 : decode cX5_read 44 = .ok (.getfield 7, 3) := by decide +kernel
theorem dX5_read_47 : decode cX5_read 47 = .ok (.iload_n 2, 1) := by decide +kernel
theorem dX5_read_48 : decode cX5_read 48 = .ok (.iconst 0, 1) := by decide +kernel
theorem dX5_read_49 : decode cX5_read 49 = .ok (.invokestatic 58, 3) := by decide +kernel
theorem dX5_read_52 : decode cX5_read 52 = .ok (.iload 5, 2) := by decide +kernel
theorem dX5_read_54 : decode cX5_read 54 = .ok (.iastore, 1) := by decide +kernel
theorem dX5_read_55 : decode cX5_read 55 = .ok (.aload_n 0, 1) := by decide +kernel
theorem dX5_read_56 : decode cX5_read 56 = .ok (.getfield 7, 3) := by decide +kernel
theorem dX5_read_59 : decode cX5_read 59 = .ok (.iconst 3, 1) := by decide +kernel
theorem dX5_read_60 : decode cX5_read 60 = .ok (.iload 6, 2) := by decide +kernel
theorem dX5_read_62 : decode cX5_read 62 = .ok (.iastore, 1) := by decide +kernel
theorem dX5_read_63 : decode cX5_read 63 = .ok (.iload 4, 2) := by decide +kernel
theorem dX5_read_65 : decode cX5_read 65 = .ok (.aload_n 0, 1) := by decide +kernel
theorem dX5_read_66 : decode cX5_read 66 = .ok (.aload_n 0, 1) := by decide +kernel
theorem dX5_read_67 : decode cX5_read 67 = .ok (.iload_n 1, 1) := by decide +kernel
theorem dX5_read_68 : decode cX5_read 68 = .ok (.iload_n 2, 1) := by decide +kernel
theorem dX5_read_69 : decode cX5_read 69 = .ok (.invokevirtual 338, 3) := by decide +kernel
theorem dX5_read_72 : decode cX5_read 72 = .ok (.invokevirtual 175, 3) := by decide +kernel
theorem dX5_read_75 : decode cX5_read 75 = .ok (.iadd, 1) := by decide +kernel
theorem dX5_read_76 : decode cX5_read 76 = .ok (.istore 4, 2) := by decide +kernel
theorem dX5_read_78 : decode cX5_read 78 = .ok (.iinc 6 1, 3) := by decide +kernel
theorem dX5_read_81 : decode cX5_read 81 = .ok (.goto (-45), 3) := by decide +kernel
theorem dX5_read_84 : decode cX5_read 84 = .ok (.iinc 5 1, 3) := by decide +kernel
theorem dX5_read_87 : decode cX5_read 87 = .ok (.goto (-60), 3) := by decide +kernel
theorem dX5_read_90 : decode cX5_read 90 = .ok (.iload 4, 2) := by decide +kernel
theorem dX5_read_92 : decode cX5_read 92 = .ok (.ireturn, 1) := by decide +kernel
def finX5_read (N : Ml) : Int32 × Mi → Option Value × Mi × Ml := fun b => (some (Value.int b.1), b.2, N)
noncomputable def fX5_read_36 (N : Ml) (r84 : Mi → Int32 → Int32 → Int32 → Int32 → Option (Int32 × Mi)) : Nat → Mi → Int32 → Int32 → Int32 → Int32 → Int32 → Option (Int32 × Mi)
  | 0 => fun _ _ _ _ _ _ => none
  | n + 1 => fun M x1 x2 x4 x5 x6 => (if 30 ≤ x6 then (r84 M x1 x2 x4 x5) else (if inb (fX5_spotOf x2 0) 39 then (Option.bind (fX5_isSo N (wM (wM M 0 (ix (fX5_spotOf x2 0)) x5) 0 3 x6) x1 x2) (fun a7 => (Option.bind (fX5_takesBack (a7.2) a7.1) (fun a8 => ((fX5_read_36 N r84 n) (a8.2) x1 x2 (x4 + a8.1) x5 (x6 + 1)))))) else none))
theorem bX5_read_36 {Z : Zt} {E : Ec} {N : Ml} (C : Ok 2 Z E cX5_read 7 RX5 (some .int) 6)  (r84 : Mi → Int32 → Int32 → Int32 → Int32 → Option (Int32 × Mi)) (hr84 : ∀ (M : Mi) (x1 : Int32) (x2 : Int32) (x4 : Int32) (x5 : Int32), GT Z E 7 (finX5_read N) 84 [(0, .ref (zA Z 6 0)), (1, .int x1), (2, .int x2), (4, .int x4), (5, .int x5)] [] M N (r84 M x1 x2 x4 x5)) : ∀ (n : Nat) (M : Mi) (x1 : Int32) (x2 : Int32) (x4 : Int32) (x5 : Int32) (x6 : Int32), GT Z E 7 (finX5_read N) 36 [(0, .ref (zA Z 6 0)), (1, .int x1), (2, .int x2), (4, .int x4), (5, .int x5), (6, .int x6)] [] M N (fX5_read_36 N r84 n M x1 x2 x4 x5 x6) := by
  intro n
  induction n with
  | zero => intro M x1 x2 x4 x5 x6; exact r_none
  | succ n ih =>
    intro M x1 x2 x4 x5 x6
    rw [fX5_read_36]
    refine r_iload C dX5_read_36 5 rfl ?_
    refine r_bipush (v := 30) C dX5_read_38 (by decide) ?_
    refine r_ic_ge (tgt := 84) C dX5_read_40 (by decide) (fun c5 => ?_) (fun c5 => ?_)
    · refine r_lv [0, 1, 2, 3, 4] (lv' := [(0, .ref (zA Z 6 0)), (1, .int x1), (2, .int x2), (4, .int x4), (5, .int x5)]) rfl ?_
      exact hr84 M x1 x2 x4 x5
    · refine r_aload_n C dX5_read_43 0 0 rfl rfl ?_
      refine gf_X5_7 C dX5_read_44 ?_
      refine r_iload_n C dX5_read_47 2 2 rfl rfl ?_
      refine r_iconst (v := 0) C dX5_read_48 (by decide) ?_
      refine r_callS (rest := [.ref (zA Z 0 0)]) (st2 := [.int (fX5_spotOf x2 0), .ref (zA Z 0 0)]) C (mX5_spotOf (eL E) C.z _ _ x2 0) lk_X5_58 (by decide) rfl rfl (Nat.le_of_ble_eq_true rfl) dX5_read_49 rfl ?_
      refine r_iload C dX5_read_52 4 rfl ?_
      refine r_guard (fun h6 => ?_)
      refine ast_M (M' := (wM M 0 (ix (fX5_spotOf x2 0)) x5)) C mI_0 h6 rfl dX5_read_54 ?_
      refine r_aload_n C dX5_read_55 0 0 rfl rfl ?_
      refine gf_X5_7 C dX5_read_56 ?_
      refine r_iconst (v := 3) C dX5_read_59 (by decide) ?_
      refine r_iload C dX5_read_60 5 rfl ?_
      refine ast_M (M' := (wM (wM M 0 (ix (fX5_spotOf x2 0)) x5) 0 3 x6)) C mI_0 (by decide) rfl dX5_read_62 ?_
      refine r_iload C dX5_read_63 3 rfl ?_
      refine r_aload_n C dX5_read_65 0 0 rfl rfl ?_
      refine r_aload_n C dX5_read_66 0 0 rfl rfl ?_
      refine r_iload_n C dX5_read_67 1 1 rfl rfl ?_
      refine r_iload_n C dX5_read_68 2 2 rfl rfl ?_
      refine r_bind (fun a7 ha7 => ?_)
      refine r_callV (rest := [.ref (zA Z 6 0), .int x4]) (st2 := [.int a7.1, .ref (zA Z 6 0), .int x4]) C (mX5_isSo (eL E) C.z (wM (wM M 0 (ix (fX5_spotOf x2 0)) x5) 0 3 x6) N x1 x2 a7 ha7) lk_X5_338 (rvM C) (by decide) rfl rfl (Nat.le_of_ble_eq_true rfl) dX5_read_69 rfl ?_
      refine r_bind (fun a8 ha8 => ?_)
      refine r_callV (rest := [.int x4]) (st2 := [.int a8.1, .int x4]) C (mX5_takesBack (eL E) C.z (a7.2) N a7.1 a8 ha8) lk_X5_175 (rvM C) (by decide) rfl rfl (Nat.le_of_ble_eq_true rfl) dX5_read_72 rfl ?_
      refine r_iadd C dX5_read_75 ?_
      refine r_istore (lv' := [(4, .int (x4 + a8.1)), (0, .ref (zA Z 6 0)), (1, .int x1), (2, .int x2), (5, .int x5), (6, .int x6)]) C dX5_read_76 (by decide) rfl ?_
      refine r_iinc (v := (x6 + 1)) (lv' := [(6, .int (x6 + 1)), (4, .int (x4 + a8.1)), (0, .ref (zA Z 6 0)), (1, .int x1), (2, .int x2), (5, .int x5)]) C dX5_read_78 5 rfl rfl (by decide) rfl ?_
      refine r_goto (tgt := 36) C dX5_read_81 (by decide) ?_
      refine r_lv [2, 3, 4, 1, 5, 0] (lv' := [(0, .ref (zA Z 6 0)), (1, .int x1), (2, .int x2), (4, .int (x4 + a8.1)), (5, .int x5), (6, .int (x6 + 1))]) rfl ?_
      exact ih (a8.2) x1 x2 (x4 + a8.1) x5 (x6 + 1)
noncomputable def fX5_read_84 (N : Ml) (r27 : Mi → Int32 → Int32 → Int32 → Int32 → Option (Int32 × Mi)) (M : Mi) (x1 : Int32) (x2 : Int32) (x4 : Int32) (x5 : Int32) : Option (Int32 × Mi) := (r27 M x1 x2 x4 (x5 + 1))
theorem bX5_read_84 {Z : Zt} {E : Ec} {N : Ml} (C : Ok 2 Z E cX5_read 7 RX5 (some .int) 6)  (r27 : Mi → Int32 → Int32 → Int32 → Int32 → Option (Int32 × Mi)) (hr27 : ∀ (M : Mi) (x1 : Int32) (x2 : Int32) (x4 : Int32) (x5 : Int32), GT Z E 7 (finX5_read N) 27 [(0, .ref (zA Z 6 0)), (1, .int x1), (2, .int x2), (4, .int x4), (5, .int x5)] [] M N (r27 M x1 x2 x4 x5)) (M : Mi) (x1 : Int32) (x2 : Int32) (x4 : Int32) (x5 : Int32)  : GT Z E 7 (finX5_read N) 84 [(0, .ref (zA Z 6 0)), (1, .int x1), (2, .int x2), (4, .int x4), (5, .int x5)] [] M N (fX5_read_84 N r27 M x1 x2 x4 x5) := by
  unfold fX5_read_84
  refine r_iinc (v := (x5 + 1)) (lv' := [(5, .int (x5 + 1)), (0, .ref (zA Z 6 0)), (1, .int x1), (2, .int x2), (4, .int x4)]) C dX5_read_84 4 rfl rfl (by decide) rfl ?_
  refine r_goto (tgt := 27) C dX5_read_87 (by decide) ?_
  refine r_lv [1, 2, 3, 4, 0] (lv' := [(0, .ref (zA Z 6 0)), (1, .int x1), (2, .int x2), (4, .int x4), (5, .int (x5 + 1))]) rfl ?_
  exact hr27 M x1 x2 x4 (x5 + 1)
noncomputable def fX5_read_27 (N : Ml)  : Nat → Mi → Int32 → Int32 → Int32 → Int32 → Option (Int32 × Mi)
  | 0 => fun _ _ _ _ _ => none
  | n + 1 => fun M x1 x2 x4 x5 => (if 5 < x5 then (some (x4, M)) else (fX5_read_36 N (fX5_read_84 N (fX5_read_27 N n)) fu M x1 x2 x4 x5 0))
theorem bX5_read_27 {Z : Zt} {E : Ec} {N : Ml} (C : Ok 2 Z E cX5_read 7 RX5 (some .int) 6)    : ∀ (n : Nat) (M : Mi) (x1 : Int32) (x2 : Int32) (x4 : Int32) (x5 : Int32), GT Z E 7 (finX5_read N) 27 [(0, .ref (zA Z 6 0)), (1, .int x1), (2, .int x2), (4, .int x4), (5, .int x5)] [] M N (fX5_read_27 N n M x1 x2 x4 x5) := by
  intro n
  induction n with
  | zero => intro M x1 x2 x4 x5; exact r_none
  | succ n ih =>
    intro M x1 x2 x4 x5
    rw [fX5_read_27]
    refine r_iload C dX5_read_27 4 rfl ?_
    refine r_iconst (v := 5) C dX5_read_29 (by decide) ?_
    refine r_ic_gt (tgt := 90) C dX5_read_30 (by decide) (fun c4 => ?_) (fun c4 => ?_)
    · refine r_iload C dX5_read_90 3 rfl ?_
      exact r_iret C dX5_read_92 rfl
    · refine r_iconst (v := 0) C dX5_read_33 (by decide) ?_
      refine r_istore (lv' := [(6, .int 0), (0, .ref (zA Z 6 0)), (1, .int x1), (2, .int x2), (4, .int x4), (5, .int x5)]) C dX5_read_34 (by decide) rfl ?_
      refine r_lv [1, 2, 3, 4, 5, 0] (lv' := [(0, .ref (zA Z 6 0)), (1, .int x1), (2, .int x2), (4, .int x4), (5, .int x5), (6, .int 0)]) rfl ?_
      exact bX5_read_36 C (fX5_read_84 N (fX5_read_27 N n)) (bX5_read_84 C (fX5_read_27 N n) ih) fu M x1 x2 x4 x5 0
noncomputable def fX5_read (N : Ml)  (M : Mi) (x1 : Int32) (x2 : Int32) : Option (Int32 × Mi) := (Option.bind (fX5_wrongBook M x1 x2) (fun a1 => (if a1 = 0 then (Option.bind (fX5_laysAside M) (fun a3 => (fX5_read_27 N fu a3 x1 x2 0 0))) else (Option.bind (fX5_finds M a1) (fun a9 => (some (a9.1, (a9.2))))))))
theorem bX5_read {Z : Zt} {E : Ec} {N : Ml} (C : Ok 2 Z E cX5_read 7 RX5 (some .int) 6)    (M : Mi) (x1 : Int32) (x2 : Int32)  : GT Z E 7 (finX5_read N) 0 [(0, .ref (zA Z 6 0)), (1, .int x1), (2, .int x2)] [] M N (fX5_read N M x1 x2) := by
  unfold fX5_read
  refine r_aload_n C dX5_read_0 0 0 rfl rfl ?_
  refine r_iload_n C dX5_read_1 1 1 rfl rfl ?_
  refine r_iload_n C dX5_read_2 2 2 rfl rfl ?_
  refine r_bind (fun a1 ha1 => ?_)
  refine r_callV (rest := []) (st2 := [.int a1]) C (mX5_wrongBook (eL E) C.z M N x1 x2 a1 ha1) lk_X5_335 (rvM C) (by decide) rfl rfl (Nat.le_of_ble_eq_true rfl) dX5_read_3 rfl ?_
  refine r_istore_n (lv' := [(3, .int a1), (0, .ref (zA Z 6 0)), (1, .int x1), (2, .int x2)]) C dX5_read_6 3 rfl (by decide) rfl ?_
  refine r_iload_n C dX5_read_7 3 0 rfl rfl ?_
  refine r_if_eq (tgt := 17) C dX5_read_8 (by decide) (fun c2 => ?_) (fun c2 => ?_)
  · refine r_aload_n C dX5_read_17 0 1 rfl rfl ?_
    refine r_bind (fun a3 ha3 => ?_)
    refine r_callV (rest := []) (st2 := []) C (mX5_laysAside (eL E) C.z M N a3 ha3) lk_X5_172 (rvM C) (by decide) rfl rfl (Nat.le_of_ble_eq_true rfl) dX5_read_18 rfl ?_
    refine r_iconst (v := 0) C dX5_read_21 (by decide) ?_
    refine r_istore (lv' := [(4, .int 0), (3, .int a1), (0, .ref (zA Z 6 0)), (1, .int x1), (2, .int x2)]) C dX5_read_22 (by decide) rfl ?_
    refine r_iconst (v := 0) C dX5_read_24 (by decide) ?_
    refine r_istore (lv' := [(5, .int 0), (4, .int 0), (3, .int a1), (0, .ref (zA Z 6 0)), (1, .int x1), (2, .int x2)]) C dX5_read_25 (by decide) rfl ?_
    refine r_lv [3, 4, 5, 1, 0] (lv' := [(0, .ref (zA Z 6 0)), (1, .int x1), (2, .int x2), (4, .int 0), (5, .int 0)]) rfl ?_
    exact bX5_read_27 C fu a3 x1 x2 0 0
  · refine r_aload_n C dX5_read_11 0 1 rfl rfl ?_
    refine r_iload_n C dX5_read_12 3 0 rfl rfl ?_
    refine r_bind (fun a9 ha9 => ?_)
    refine r_callV (rest := []) (st2 := [.int a9.1]) C (mX5_finds (eL E) C.z M N a1 a9 ha9) lk_X5_65 (rvM C) (by decide) rfl rfl (Nat.le_of_ble_eq_true rfl) dX5_read_13 rfl ?_
    exact r_iret C dX5_read_16 rfl
theorem mX5_read (l : Launch) {Z : Zt} (hZ : Zok 2 Z) (M : Mi) (N : Ml) (x1 : Int32) (x2 : Int32) (b : Int32 × Mi) (hb : fX5_read N M x1 x2 = some b) : Ct 2 Z l yX5_read cX5_read 7 (some .int) 6 [.ref (zA Z 6 0), .int x1, .int x2] M N (some (Value.int b.1), b.2, N) :=
  metG (fin := (finX5_read N)) (by decide) (Nat.le_of_ble_eq_true rfl) (fun E _ C => bX5_read C M x1 x2) hb
theorem dX5_image_0 : decode cX5_image 0 = .ok (.iconst 0, 1) := by decide +kernel
theorem dX5_image_1 : decode cX5_image 1 = .ok (.istore_n 1, 1) := by decide +kernel
theorem dX5_image_2 : decode cX5_image 2 = .ok (.iload_n 1, 1) := by decide +kernel
theorem dX5_image_3 : decode cX5_image 3 = .ok (.bipush 39, 2) := by decide +kernel
theorem dX5_image_5 : decode cX5_image 5 = .ok (.if_icmp .ge 21, 3) := by decide +kernel
theorem dX5_image_8 : decode cX5_image 8 = .ok (.aload_n 0, 1) := by decide +kernel
theorem dX5_image_9 : decode cX5_image 9 = .ok (.getfield 13, 3) := by decide +kernel
theorem dX5_image_12 : decode cX5_image 12 = .ok (.iload_n 1, 1) := by decide +kernel
theorem dX5_image_13 : decode cX5_image 13 = .ok (.aload_n 0, 1) := by decide +kernel
theorem dX5_image_14 : decode cX5_image 14 = .ok (.getfield 7, 3) := by decide +kernel
theorem dX5_image_17 : decode cX5_image 17 = .ok (.iload_n 1, 1) := by decide +kernel
theorem dX5_image_18 : decode cX5_image 18 = .ok (.iaload, 1) := by decide +kernel
theorem dX5_image_19 : decode cX5_image 19 = .ok (.iastore, 1) := by decide +kernel
theorem dX5_image_20 : decode cX5_image 20 = .ok (.iinc 1 1, 3) := by decide +kernel
theorem dX5_image_23 : decode cX5_image 23 = .ok (.goto (-21), 3) := by decide +kernel
theorem dX5_image_26 : decode cX5_image 26 = .ok (.aload_n 0, 1) := by decide +kernel
theorem dX5_image_27 : decode cX5_image 27 = .ok (.iconst 1, 1) := by decide +kernel
theorem dX5_image_28 : decode cX5_image 28 = .ok (.putfield 341, 3) := by decide +kernel
theorem dX5_image_31 : decode cX5_image 31 = .ok (.iconst 1, 1) := by decide +kernel
theorem dX5_image_32 : decode cX5_image 32 = .ok (.ireturn, 1) := by decide +kernel
def finX5_image (N : Ml) : Int32 × Mi → Option Value × Mi × Ml := fun b => (some (Value.int b.1), b.2, N)
noncomputable def fX5_image_2   : Nat → Mi → Int32 → Option (Int32 × Mi)
  | 0 => fun _ _ => none
  | n + 1 => fun M x1 => (if 39 ≤ x1 then (some (1, (wM M 6 0 1))) else (if inb x1 39 then ((fX5_image_2 n) (wM M 1 (ix x1) (M 0 (ix x1))) (x1 + 1)) else none))
theorem bX5_image_2 {Z : Zt} {E : Ec} {N : Ml} (C : Ok 2 Z E cX5_image 2 RX5 (some .int) 0)    : ∀ (n : Nat) (M : Mi) (x1 : Int32), GT Z E 2 (finX5_image N) 2 [(0, .ref (zA Z 6 0)), (1, .int x1)] [] M N (fX5_image_2 n M x1) := by
  intro n
  induction n with
  | zero => intro M x1; exact r_none
  | succ n ih =>
    intro M x1
    rw [fX5_image_2]
    refine r_iload_n C dX5_image_2 1 1 rfl rfl ?_
    refine r_bipush (v := 39) C dX5_image_3 (by decide) ?_
    refine r_ic_ge (tgt := 26) C dX5_image_5 (by decide) (fun c1 => ?_) (fun c1 => ?_)
    · refine r_aload_n C dX5_image_26 0 0 rfl rfl ?_
      refine r_iconst (v := 1) C dX5_image_27 (by decide) ?_
      refine pf_X5_341 (M' := (wM M 6 0 1)) C dX5_image_28 (Or.inr rfl) rfl ?_
      refine r_iconst (v := 1) C dX5_image_31 (by decide) ?_
      exact r_iret C dX5_image_32 rfl
    · refine r_aload_n C dX5_image_8 0 0 rfl rfl ?_
      refine gf_X5_13 C dX5_image_9 ?_
      refine r_iload_n C dX5_image_12 1 1 rfl rfl ?_
      refine r_aload_n C dX5_image_13 0 0 rfl rfl ?_
      refine gf_X5_7 C dX5_image_14 ?_
      refine r_iload_n C dX5_image_17 1 1 rfl rfl ?_
      refine r_guard (fun h2 => ?_)
      refine ald_M (v := (M 0 (ix x1))) C mI_0 h2 rfl dX5_image_18 ?_
      refine ast_M (M' := (wM M 1 (ix x1) (M 0 (ix x1)))) C mI_1 h2 rfl dX5_image_19 ?_
      refine r_iinc (v := (x1 + 1)) (lv' := [(1, .int (x1 + 1)), (0, .ref (zA Z 6 0))]) C dX5_image_20 1 rfl rfl (by decide) rfl ?_
      refine r_goto (tgt := 2) C dX5_image_23 (by decide) ?_
      refine r_lv [1, 0] (lv' := [(0, .ref (zA Z 6 0)), (1, .int (x1 + 1))]) rfl ?_
      exact ih (wM M 1 (ix x1) (M 0 (ix x1))) (x1 + 1)
noncomputable def fX5_image   (M : Mi) : Option (Int32 × Mi) := (fX5_image_2 fu M 0)
theorem bX5_image {Z : Zt} {E : Ec} {N : Ml} (C : Ok 2 Z E cX5_image 2 RX5 (some .int) 0)    (M : Mi)  : GT Z E 2 (finX5_image N) 0 [(0, .ref (zA Z 6 0))] [] M N (fX5_image M) := by
  unfold fX5_image
  refine r_iconst (v := 0) C dX5_image_0 (by decide) ?_
  refine r_istore_n (lv' := [(1, .int 0), (0, .ref (zA Z 6 0))]) C dX5_image_1 1 rfl (by decide) rfl ?_
  refine r_lv [1, 0] (lv' := [(0, .ref (zA Z 6 0)), (1, .int 0)]) rfl ?_
  exact bX5_image_2 C fu M 0
theorem mX5_image (l : Launch) {Z : Zt} (hZ : Zok 2 Z) (M : Mi) (N : Ml) (b : Int32 × Mi) (hb : fX5_image M = some b) : Ct 2 Z l yX5_image cX5_image 2 (some .int) 0 [.ref (zA Z 6 0)] M N (some (Value.int b.1), b.2, N) :=
  metG (fin := (finX5_image N)) (by decide) (Nat.le_of_ble_eq_true rfl) (fun E _ C => bX5_image C M) hb
theorem dX5_undo_0 : decode cX5_undo 0 = .ok (.aload_n 0, 1) := by decide +kernel
theorem dX5_undo_1 : decode cX5_undo 1 = .ok (.getfield 341, 3) := by decide +kernel
theorem dX5_undo_4 : decode cX5_undo 4 = .ok (.ifCond .ne 10, 3) := by decide +kernel
theorem dX5_undo_7 : decode cX5_undo 7 = .ok (.aload_n 0, 1) := by decide +kernel
theorem dX5_undo_8 : decode cX5_undo 8 = .ok (.ldc 137, 2) := by decide +kernel
theorem dX5_undo_10 : decode cX5_undo 10 = .ok (.invokevirtual 65, 3) := by decide +kernel
theorem dX5_undo_13 : decode cX5_undo 13 = .ok (.ireturn, 1) := by decide +kernel
theorem dX5_undo_14 : decode cX5_undo 14 = .ok (.iconst 0, 1) := by decide +kernel
theorem dX5_undo_15 : decode cX5_undo 15 = .ok (.istore_n 1, 1) := by decide +kernel
theorem dX5_undo_16 : decode cX5_undo 16 = .ok (.iload_n 1, 1) := by decide +kernel
theorem dX5_undo_17 : decode cX5_undo 17 = .ok (.bipush 39, 2) := by decide +kernel
theorem dX5_undo_19 : decode cX5_undo 19 = .ok (.if_icmp .ge 21, 3) := by decide +kernel
theorem dX5_undo_22 : decode cX5_undo 22 = .ok (.aload_n 0, 1) := by decide +kernel
theorem dX5_undo_23 : decode cX5_undo 23 = .ok (.getfield 7, 3) := by decide +kernel
theorem dX5_undo_26 : decode cX5_undo 26 = .ok (.iload_n 1, 1) := by decide +kernel
theorem dX5_undo_27 : decode cX5_undo 27 = .ok (.aload_n 0, 1) := by decide +kernel
theorem dX5_undo_28 : decode cX5_undo 28 = .ok (.getfield 13, 3) := by decide +kernel
theorem dX5_undo_31 : decode cX5_undo 31 = .ok (.iload_n 1, 1) := by decide +kernel
theorem dX5_undo_32 : decode cX5_undo 32 = .ok (.iaload, 1) := by decide +kernel
theorem dX5_undo_33 : decode cX5_undo 33 = .ok (.iastore, 1) := by decide +kernel
theorem dX5_undo_34 : decode cX5_undo 34 = .ok (.iinc 1 1, 3) := by decide +kernel
theorem dX5_undo_37 : decode cX5_undo 37 = .ok (.goto (-21), 3) := by decide +kernel
theorem dX5_undo_40 : decode cX5_undo 40 = .ok (.aload_n 0, 1) := by decide +kernel
theorem dX5_undo_41 : decode cX5_undo 41 = .ok (.getfield 7, 3) := by decide +kernel
theorem dX5_undo_44 : decode cX5_undo 44 = .ok (.iconst 1, 1) := by decide +kernel
theorem dX5_undo_45 : decode cX5_undo 45 = .ok (.iaload, 1) := by decide +kernel
theorem dX5_undo_46 : decode cX5_undo 46 = .ok (.ireturn, 1) := by decide +kernel
def finX5_undo (N : Ml) : Int32 × Mi → Option Value × Mi × Ml := fun b => (some (Value.int b.1), b.2, N)
noncomputable def fX5_undo_16   : Nat → Mi → Int32 → Option (Int32 × Mi)
  | 0 => fun _ _ => none
  | n + 1 => fun M x1 => (if 39 ≤ x1 then (some ((M 0 1), M)) else (if inb x1 39 then ((fX5_undo_16 n) (wM M 0 (ix x1) (M 1 (ix x1))) (x1 + 1)) else none))
theorem bX5_undo_16 {Z : Zt} {E : Ec} {N : Ml} (C : Ok 2 Z E cX5_undo 2 RX5 (some .int) 1)    : ∀ (n : Nat) (M : Mi) (x1 : Int32), GT Z E 2 (finX5_undo N) 16 [(0, .ref (zA Z 6 0)), (1, .int x1)] [] M N (fX5_undo_16 n M x1) := by
  intro n
  induction n with
  | zero => intro M x1; exact r_none
  | succ n ih =>
    intro M x1
    rw [fX5_undo_16]
    refine r_iload_n C dX5_undo_16 1 1 rfl rfl ?_
    refine r_bipush (v := 39) C dX5_undo_17 (by decide) ?_
    refine r_ic_ge (tgt := 40) C dX5_undo_19 (by decide) (fun c2 => ?_) (fun c2 => ?_)
    · refine r_aload_n C dX5_undo_40 0 0 rfl rfl ?_
      refine gf_X5_7 C dX5_undo_41 ?_
      refine r_iconst (v := 1) C dX5_undo_44 (by decide) ?_
      refine ald_M (v := (M 0 1)) C mI_0 (by decide) rfl dX5_undo_45 ?_
      exact r_iret C dX5_undo_46 rfl
    · refine r_aload_n C dX5_undo_22 0 0 rfl rfl ?_
      refine gf_X5_7 C dX5_undo_23 ?_
      refine r_iload_n C dX5_undo_26 1 1 rfl rfl ?_
      refine r_aload_n C dX5_undo_27 0 0 rfl rfl ?_
      refine gf_X5_13 C dX5_undo_28 ?_
      refine r_iload_n C dX5_undo_31 1 1 rfl rfl ?_
      refine r_guard (fun h3 => ?_)
      refine ald_M (v := (M 1 (ix x1))) C mI_1 h3 rfl dX5_undo_32 ?_
      refine ast_M (M' := (wM M 0 (ix x1) (M 1 (ix x1)))) C mI_0 h3 rfl dX5_undo_33 ?_
      refine r_iinc (v := (x1 + 1)) (lv' := [(1, .int (x1 + 1)), (0, .ref (zA Z 6 0))]) C dX5_undo_34 1 rfl rfl (by decide) rfl ?_
      refine r_goto (tgt := 16) C dX5_undo_37 (by decide) ?_
      refine r_lv [1, 0] (lv' := [(0, .ref (zA Z 6 0)), (1, .int (x1 + 1))]) rfl ?_
      exact ih (wM M 0 (ix x1) (M 1 (ix x1))) (x1 + 1)
noncomputable def fX5_undo   (M : Mi) : Option (Int32 × Mi) := (if (M 6 0) = 0 then (Option.bind (fX5_finds M (-1000000004)) (fun a4 => (some (a4.1, (a4.2))))) else (fX5_undo_16 fu M 0))
theorem bX5_undo {Z : Zt} {E : Ec} {N : Ml} (C : Ok 2 Z E cX5_undo 2 RX5 (some .int) 1)    (M : Mi)  : GT Z E 2 (finX5_undo N) 0 [(0, .ref (zA Z 6 0))] [] M N (fX5_undo M) := by
  unfold fX5_undo
  refine r_aload_n C dX5_undo_0 0 0 rfl rfl ?_
  refine gf_X5_341 (v := (M 6 0)) C dX5_undo_1 rfl ?_
  refine r_if_ne (tgt := 14) C dX5_undo_4 (by decide) (fun c1 => ?_) (fun c1 => ?_)
  · refine r_iconst (v := 0) C dX5_undo_14 (by decide) ?_
    refine r_istore_n (lv' := [(1, .int 0), (0, .ref (zA Z 6 0))]) C dX5_undo_15 1 rfl (by decide) rfl ?_
    refine r_lv [1, 0] (lv' := [(0, .ref (zA Z 6 0)), (1, .int 0)]) rfl ?_
    exact bX5_undo_16 C fu M 0
  · refine r_aload_n C dX5_undo_7 0 0 rfl rfl ?_
    refine r_ldc (v := (-1000000004)) C dX5_undo_8 wd_981 ?_
    refine r_bind (fun a4 ha4 => ?_)
    refine r_callV (rest := []) (st2 := [.int a4.1]) C (mX5_finds (eL E) C.z M N (-1000000004) a4 ha4) lk_X5_65 (rvM C) (by decide) rfl rfl (Nat.le_of_ble_eq_true rfl) dX5_undo_10 rfl ?_
    exact r_iret C dX5_undo_13 rfl
theorem mX5_undo (l : Launch) {Z : Zt} (hZ : Zok 2 Z) (M : Mi) (N : Ml) (b : Int32 × Mi) (hb : fX5_undo M = some b) : Ct 2 Z l yX5_undo cX5_undo 2 (some .int) 1 [.ref (zA Z 6 0)] M N (some (Value.int b.1), b.2, N) :=
  metG (fin := (finX5_undo N)) (by decide) (Nat.le_of_ble_eq_true rfl) (fun E _ C => bX5_undo C M) hb
theorem dX5_tear_0 : decode cX5_tear 0 = .ok (.aload_n 0, 1) := by decide +kernel
theorem dX5_tear_1 : decode cX5_tear 1 = .ok (.getfield 341, 3) := by decide +kernel
theorem dX5_tear_4 : decode cX5_tear 4 = .ok (.ifCond .eq 7, 3) := by decide +kernel
theorem dX5_tear_7 : decode cX5_tear 7 = .ok (.iconst 1, 1) := by decide +kernel
theorem dX5_tear_8 : decode cX5_tear 8 = .ok (.goto 4, 3) := by decide +kernel
theorem dX5_tear_11 : decode cX5_tear 11 = .ok (.iconst 0, 1) := by decide +kernel
theorem dX5_tear_12 : decode cX5_tear 12 = .ok (.istore_n 1, 1) := by decide +kernel
theorem dX5_tear_13 : decode cX5_tear 13 = .ok (.aload_n 0, 1) := by decide +kernel
theorem dX5_tear_14 : decode cX5_tear 14 = .ok (.iconst 0, 1) := by decide +kernel
theorem dX5_tear_15 : decode cX5_tear 15 = .ok (.putfield 341, 3) := by decide +kernel
theorem dX5_tear_18 : decode cX5_tear 18 = .ok (.iload_n 1, 1) := by decide +kernel
theorem dX5_tear_19 : decode cX5_tear 19 = .ok (.ireturn, 1) := by decide +kernel
def finX5_tear (N : Ml) : Int32 × Mi → Option Value × Mi × Ml := fun b => (some (Value.int b.1), b.2, N)
noncomputable def fX5_tear   (M : Mi) : Option (Int32 × Mi) := (some ((if (M 6 0) = 0 then 0 else 1 : Int32), (wM M 6 0 0)))
theorem bX5_tear {Z : Zt} {E : Ec} {N : Ml} (C : Ok 2 Z E cX5_tear 2 RX5 (some .int) 0)    (M : Mi)  : GT Z E 2 (finX5_tear N) 0 [(0, .ref (zA Z 6 0))] [] M N (fX5_tear M) := by
  unfold fX5_tear
  refine r_aload_n C dX5_tear_0 0 0 rfl rfl ?_
  refine gf_X5_341 (v := (M 6 0)) C dX5_tear_1 rfl ?_
  refine r_sel (tj := 12) (sj := [.int (if (M 6 0) = 0 then 0 else 1 : Int32)]) ?_ (fun k2 => ?_)
  · refine r_istore_n (lv' := [(1, .int (if (M 6 0) = 0 then 0 else 1 : Int32)), (0, .ref (zA Z 6 0))]) C dX5_tear_12 1 rfl (by decide) rfl ?_
    refine r_aload_n C dX5_tear_13 0 1 rfl rfl ?_
    refine r_iconst (v := 0) C dX5_tear_14 (by decide) ?_
    refine pf_X5_341 (M' := (wM M 6 0 0)) C dX5_tear_15 (Or.inl rfl) rfl ?_
    refine r_iload_n C dX5_tear_18 1 0 rfl rfl ?_
    exact r_iret C dX5_tear_19 rfl
  · refine r_same (P := (M 6 0) = 0) ?_
    refine r_if_eq (tgt := 11) C dX5_tear_4 (by decide) (fun c1 => ?_) (fun c1 => ?_)
    · refine r_iconst (v := 0) C dX5_tear_11 (by decide) ?_
      exact r_stk (if_pos c1) k2
    · refine r_iconst (v := 1) C dX5_tear_7 (by decide) ?_
      refine r_goto (tgt := 12) C dX5_tear_8 (by decide) ?_
      exact r_stk (if_neg c1) k2
theorem mX5_tear (l : Launch) {Z : Zt} (hZ : Zok 2 Z) (M : Mi) (N : Ml) (b : Int32 × Mi) (hb : fX5_tear M = some b) : Ct 2 Z l yX5_tear cX5_tear 2 (some .int) 0 [.ref (zA Z 6 0)] M N (some (Value.int b.1), b.2, N) :=
  metG (fin := (finX5_tear N)) (by decide) (Nat.le_of_ble_eq_true rfl) (fun E _ C => bX5_tear C M) hb
theorem dX5_tipped_0 : decode cX5_tipped 0 = .ok (.iconst 0, 1) := by decide +kernel
theorem dX5_tipped_1 : decode cX5_tipped 1 = .ok (.istore_n 1, 1) := by decide +kernel
theorem dX5_tipped_2 : decode cX5_tipped 2 = .ok (.iconst 0, 1) := by decide +kernel
theorem dX5_tipped_3 : decode cX5_tipped 3 = .ok (.istore_n 2, 1) := by decide +kernel
theorem dX5_tipped_4 : decode cX5_tipped 4 = .ok (.iload_n 2, 1) := by decide +kernel
theorem dX5_tipped_5 : decode cX5_tipped 5 = .ok (.aload_n 0, 1) := by decide +kernel
theorem dX5_tipped_6 : decode cX5_tipped 6 = .ok (.getfield 7, 3) := by decide +kernel
theorem dX5_tipped_9 : decode cX5_tipped 9 = .ok (.iconst 1, 1) := by decide +kernel
theorem dX5_tipped_10 : decode cX5_tipped 10 = .ok (.iaload, 1) := by decide +kernel
theorem dX5_tipped_11 : decode cX5_tipped 11 = .ok (.if_icmp .ge 18, 3) := by decide +kernel
theorem dX5_tipped_14 : decode cX5_tipped 14 = .ok (.iload_n 1, 1) := by decide +kernel
theorem dX5_tipped_15 : decode cX5_tipped 15 = .ok (.aload_n 0, 1) := by decide +kernel
theorem dX5_tipped_16 : decode cX5_tipped 16 = .ok (.iload_n 2, 1) := by decide +kernel
theorem dX5_tipped_17 : decode cX5_tipped 17 = .ok (.iconst 3, 1) := by decide +kernel
theorem dX5_tipped_18 : decode cX5_tipped 18 = .ok (.invokevirtual 83, 3) := by decide +kernel
theorem dX5_tipped_21 : decode cX5_tipped 21 = .ok (.iadd, 1) := by decide +kernel
theorem dX5_tipped_22 : decode cX5_tipped 22 = .ok (.istore_n 1, 1) := by decide +kernel
theorem dX5_tipped_23 : decode cX5_tipped 23 = .ok (.iinc 2 1, 3) := by decide +kernel
theorem dX5_tipped_26 : decode cX5_tipped 26 = .ok (.goto (-22), 3) := by decide +kernel
theorem dX5_tipped_29 : decode cX5_tipped 29 = .ok (.iload_n 1, 1) := by decide +kernel
theorem dX5_tipped_30 : decode cX5_tipped 30 = .ok (.ireturn, 1) := by decide +kernel
def finX5_tipped (M0 : Mi) (σ : Nat → Int32) (N : Ml) : Int32 → Option Value × Mi × Ml := fun b => (some (Value.int b), sR M0 0 σ, N)
noncomputable def fX5_tipped_4 (σ : Nat → Int32)  : Nat → Int32 → Int32 → Option (Int32)
  | 0 => fun _ _ => none
  | n + 1 => fun x1 x2 => (if (σ 1) ≤ x2 then (some x1) else (Option.bind (fX5_its σ x2 3) (fun a2 => ((fX5_tipped_4 σ n) (x1 + a2) (x2 + 1)))))
theorem bX5_tipped_4 {Z : Zt} {E : Ec} {M0 : Mi} {σ : Nat → Int32} {N : Ml} (C : Ok 2 Z E cX5_tipped 3 RX5 (some .int) 2)    : ∀ (n : Nat) (x1 : Int32) (x2 : Int32), GT Z E 3 (finX5_tipped M0 σ N) 4 [(0, .ref (zA Z 6 0)), (1, .int x1), (2, .int x2)] [] (sR M0 0 σ) N (fX5_tipped_4 σ n x1 x2) := by
  intro n
  induction n with
  | zero => intro x1 x2; exact r_none
  | succ n ih =>
    intro x1 x2
    rw [fX5_tipped_4]
    refine r_iload_n C dX5_tipped_4 2 2 rfl rfl ?_
    refine r_aload_n C dX5_tipped_5 0 0 rfl rfl ?_
    refine gf_X5_7 C dX5_tipped_6 ?_
    refine r_iconst (v := 1) C dX5_tipped_9 (by decide) ?_
    refine ald_M (v := (σ 1)) C mI_0 (by decide) (sR_at _ _ _ _) dX5_tipped_10 ?_
    refine r_ic_ge (tgt := 29) C dX5_tipped_11 (by decide) (fun c1 => ?_) (fun c1 => ?_)
    · refine r_iload_n C dX5_tipped_29 1 1 rfl rfl ?_
      exact r_iret C dX5_tipped_30 rfl
    · refine r_iload_n C dX5_tipped_14 1 1 rfl rfl ?_
      refine r_aload_n C dX5_tipped_15 0 0 rfl rfl ?_
      refine r_iload_n C dX5_tipped_16 2 2 rfl rfl ?_
      refine r_iconst (v := 3) C dX5_tipped_17 (by decide) ?_
      refine r_bind (fun a2 ha2 => ?_)
      refine r_callV (rest := [.int x1]) (st2 := [.int a2, .int x1]) C (mX5_its (eL E) C.z _ _ σ x2 3 a2 ha2) lk_X5_83 (rvM C) (by decide) rfl rfl (Nat.le_of_ble_eq_true rfl) dX5_tipped_18 rfl ?_
      refine r_iadd C dX5_tipped_21 ?_
      refine r_istore_n (lv' := [(1, .int (x1 + a2)), (0, .ref (zA Z 6 0)), (2, .int x2)]) C dX5_tipped_22 1 rfl (by decide) rfl ?_
      refine r_iinc (v := (x2 + 1)) (lv' := [(2, .int (x2 + 1)), (1, .int (x1 + a2)), (0, .ref (zA Z 6 0))]) C dX5_tipped_23 2 rfl rfl (by decide) rfl ?_
      refine r_goto (tgt := 4) C dX5_tipped_26 (by decide) ?_
      refine r_lv [2, 1, 0] (lv' := [(0, .ref (zA Z 6 0)), (1, .int (x1 + a2)), (2, .int (x2 + 1))]) rfl ?_
      exact ih (x1 + a2) (x2 + 1)
noncomputable def fX5_tipped (σ : Nat → Int32)   : Option (Int32) := (fX5_tipped_4 σ fu 0 0)
theorem bX5_tipped {Z : Zt} {E : Ec} {M0 : Mi} {σ : Nat → Int32} {N : Ml} (C : Ok 2 Z E cX5_tipped 3 RX5 (some .int) 2)      : GT Z E 3 (finX5_tipped M0 σ N) 0 [(0, .ref (zA Z 6 0))] [] (sR M0 0 σ) N (fX5_tipped σ ) := by
  unfold fX5_tipped
  refine r_iconst (v := 0) C dX5_tipped_0 (by decide) ?_
  refine r_istore_n (lv' := [(1, .int 0), (0, .ref (zA Z 6 0))]) C dX5_tipped_1 1 rfl (by decide) rfl ?_
  refine r_iconst (v := 0) C dX5_tipped_2 (by decide) ?_
  refine r_istore_n (lv' := [(2, .int 0), (1, .int 0), (0, .ref (zA Z 6 0))]) C dX5_tipped_3 2 rfl (by decide) rfl ?_
  refine r_lv [2, 1, 0] (lv' := [(0, .ref (zA Z 6 0)), (1, .int 0), (2, .int 0)]) rfl ?_
  exact bX5_tipped_4 C fu 0 0
theorem mX5_tipped (l : Launch) {Z : Zt} (hZ : Zok 2 Z) (M0 : Mi) (N : Ml) (σ : Nat → Int32) (b : Int32) (hb : fX5_tipped σ = some b) : Ct 2 Z l yX5_tipped cX5_tipped 3 (some .int) 2 [.ref (zA Z 6 0)] (sR M0 0 σ) N (some (Value.int b), sR M0 0 σ, N) :=
  metG (fin := (finX5_tipped M0 σ N)) (by decide) (Nat.le_of_ble_eq_true rfl) (fun E _ C => bX5_tipped C) hb
theorem dX5_count_0 : decode cX5_count 0 = .ok (.iload_n 1, 1) := by decide +kernel
theorem dX5_count_1 : decode cX5_count 1 = .ok (.tableswitch 58 0 3 #[31, 38, 43, 53], 31) := by decide +kernel
theorem dX5_count_32 : decode cX5_count 32 = .ok (.aload_n 0, 1) := by decide +kernel
theorem dX5_count_33 : decode cX5_count 33 = .ok (.getfield 7, 3) := by decide +kernel
theorem dX5_count_36 : decode cX5_count 36 = .ok (.iconst 1, 1) := by decide +kernel
theorem dX5_count_37 : decode cX5_count 37 = .ok (.iaload, 1) := by decide +kernel
theorem dX5_count_38 : decode cX5_count 38 = .ok (.ireturn, 1) := by decide +kernel
theorem dX5_count_39 : decode cX5_count 39 = .ok (.aload_n 0, 1) := by decide +kernel
theorem dX5_count_40 : decode cX5_count 40 = .ok (.getfield 214, 3) := by decide +kernel
theorem dX5_count_43 : decode cX5_count 43 = .ok (.ireturn, 1) := by decide +kernel
theorem dX5_count_44 : decode cX5_count 44 = .ok (.aload_n 0, 1) := by decide +kernel
theorem dX5_count_45 : decode cX5_count 45 = .ok (.getfield 7, 3) := by decide +kernel
theorem dX5_count_48 : decode cX5_count 48 = .ok (.iconst 2, 1) := by decide +kernel
theorem dX5_count_49 : decode cX5_count 49 = .ok (.iaload, 1) := by decide +kernel
theorem dX5_count_50 : decode cX5_count 50 = .ok (.invokestatic 145, 3) := by decide +kernel
theorem dX5_count_53 : decode cX5_count 53 = .ok (.ireturn, 1) := by decide +kernel
theorem dX5_count_54 : decode cX5_count 54 = .ok (.aload_n 0, 1) := by decide +kernel
theorem dX5_count_55 : decode cX5_count 55 = .ok (.invokevirtual 344, 3) := by decide +kernel
theorem dX5_count_58 : decode cX5_count 58 = .ok (.ireturn, 1) := by decide +kernel
theorem dX5_count_59 : decode cX5_count 59 = .ok (.aload_n 0, 1) := by decide +kernel
theorem dX5_count_60 : decode cX5_count 60 = .ok (.ldc 41, 2) := by decide +kernel
theorem dX5_count_62 : decode cX5_count 62 = .ok (.invokevirtual 65, 3) := by decide +kernel
theorem dX5_count_65 : decode cX5_count 65 = .ok (.ireturn, 1) := by decide +kernel
def finX5_count (N : Ml) : Int32 × Mi → Option Value × Mi × Ml := fun b => (some (Value.int b.1), b.2, N)
noncomputable def fX5_count   (M : Mi) (x1 : Int32) : Option (Int32 × Mi) := (if x1 = 0 then (some ((M 0 1), M)) else (if x1 = 1 then (some ((M 6 2), M)) else (if x1 = 2 then (Option.bind (fX5_ones (M 0 2)) (fun a4 => (some (a4, M)))) else (if x1 = 3 then (Option.bind (fX5_tipped (M 0)) (fun a6 => (some (a6, M)))) else (Option.bind (fX5_finds M (-1000000001)) (fun a7 => (some (a7.1, (a7.2)))))))))
theorem bX5_count {Z : Zt} {E : Ec} {N : Ml} (C : Ok 2 Z E cX5_count 2 RX5 (some .int) 3)    (M : Mi) (x1 : Int32)  : GT Z E 2 (finX5_count N) 0 [(0, .ref (zA Z 6 0)), (1, .int x1)] [] M N (fX5_count M x1) := by
  unfold fX5_count
  refine r_iload_n C dX5_count_0 1 1 rfl rfl ?_
  refine r_tsw (k := 0) (tgt := 32) C dX5_count_1 (by decide) (by decide) rfl (by decide) (fun c1 => ?_) (fun c1 => ?_)
  · refine r_aload_n C dX5_count_32 0 0 rfl rfl ?_
    refine gf_X5_7 C dX5_count_33 ?_
    refine r_iconst (v := 1) C dX5_count_36 (by decide) ?_
    refine ald_M (v := (M 0 1)) C mI_0 (by decide) rfl dX5_count_37 ?_
    exact r_iret C dX5_count_38 rfl
  · skip
    refine r_tsw (k := 1) (tgt := 39) C dX5_count_1 (by decide) (by decide) rfl (by decide) (fun c2 => ?_) (fun c2 => ?_)
    · refine r_aload_n C dX5_count_39 0 0 rfl rfl ?_
      refine gf_X5_214 (v := (M 6 2)) C dX5_count_40 rfl ?_
      exact r_iret C dX5_count_43 rfl
    · skip
      refine r_tsw (k := 2) (tgt := 44) C dX5_count_1 (by decide) (by decide) rfl (by decide) (fun c3 => ?_) (fun c3 => ?_)
      · refine r_aload_n C dX5_count_44 0 0 rfl rfl ?_
        refine gf_X5_7 C dX5_count_45 ?_
        refine r_iconst (v := 2) C dX5_count_48 (by decide) ?_
        refine ald_M (v := (M 0 2)) C mI_0 (by decide) rfl dX5_count_49 ?_
        refine r_bind (fun a4 ha4 => ?_)
        refine r_callS (rest := []) (st2 := [.int a4]) C (mX5_ones (eL E) C.z _ _ (M 0 2) a4 ha4) lk_X5_145 (by decide) rfl rfl (Nat.le_of_ble_eq_true rfl) dX5_count_50 rfl ?_
        exact r_iret C dX5_count_53 rfl
      · skip
        refine r_tsw (k := 3) (tgt := 54) C dX5_count_1 (by decide) (by decide) rfl (by decide) (fun c5 => ?_) (fun c5 => ?_)
        · refine r_aload_n C dX5_count_54 0 0 rfl rfl ?_
          refine r_bind (fun a6 ha6 => ?_)
          refine r_callV (rest := []) (st2 := [.int a6]) C (mX5_tipped (eL E) C.z M _ (M 0) a6 ha6).selfR lk_X5_344 (rvM C) (by decide) rfl rfl (Nat.le_of_ble_eq_true rfl) dX5_count_55 rfl ?_
          exact r_iret C dX5_count_58 rfl
        · skip
          refine r_tswd (tgt := 59) C dX5_count_1 (sw_out (lo := 0) (hi := 3) (n := 4) x1 [0, 1, 2, 3] (by decide) rfl (List.forall_mem_cons.mpr ⟨c1, List.forall_mem_cons.mpr ⟨c2, List.forall_mem_cons.mpr ⟨c3, List.forall_mem_cons.mpr ⟨c5, fun _ h => absurd h List.not_mem_nil⟩⟩⟩⟩)) (by decide) ?_
          refine r_aload_n C dX5_count_59 0 0 rfl rfl ?_
          refine r_ldc (v := (-1000000001)) C dX5_count_60 wd_859 ?_
          refine r_bind (fun a7 ha7 => ?_)
          refine r_callV (rest := []) (st2 := [.int a7.1]) C (mX5_finds (eL E) C.z M N (-1000000001) a7 ha7) lk_X5_65 (rvM C) (by decide) rfl rfl (Nat.le_of_ble_eq_true rfl) dX5_count_62 rfl ?_
          exact r_iret C dX5_count_65 rfl
theorem mX5_count (l : Launch) {Z : Zt} (hZ : Zok 2 Z) (M : Mi) (N : Ml) (x1 : Int32) (b : Int32 × Mi) (hb : fX5_count M x1 = some b) : Ct 2 Z l yX5_count cX5_count 2 (some .int) 3 [.ref (zA Z 6 0), .int x1] M N (some (Value.int b.1), b.2, N) :=
  metG (fin := (finX5_count N)) (by decide) (Nat.le_of_ble_eq_true rfl) (fun E _ C => bX5_count C M x1) hb
theorem dX5_status_0 : decode cX5_status 0 = .ok (.iload_n 1, 1) := by decide +kernel
theorem dX5_status_1 : decode cX5_status 1 = .ok (.i2l, 1) := by decide +kernel
theorem dX5_status_2 : decode cX5_status 2 = .ok (.ldc2_w 347, 3) := by decide +kernel
theorem dX5_status_5 : decode cX5_status 5 = .ok (.ldc2_w 349, 3) := by decide +kernel
theorem dX5_status_8 : decode cX5_status 8 = .ok (.invokestatic 44, 3) := by decide +kernel
theorem dX5_status_11 : decode cX5_status 11 = .ok (.ifCond .ne 10, 3) := by decide +kernel
theorem dX5_status_14 : decode cX5_status 14 = .ok (.aload_n 0, 1) := by decide +kernel
theorem dX5_status_15 : decode cX5_status 15 = .ok (.ldc 41, 2) := by decide +kernel
theorem dX5_status_17 : decode cX5_status 17 = .ok (.invokevirtual 65, 3) := by decide +kernel
theorem dX5_status_20 : decode cX5_status 20 = .ok (.ireturn, 1) := by decide +kernel
theorem dX5_status_21 : decode cX5_status 21 = .ok (.iconst 0, 1) := by decide +kernel
theorem dX5_status_22 : decode cX5_status 22 = .ok (.istore_n 2, 1) := by decide +kernel
theorem dX5_status_23 : decode cX5_status 23 = .ok (.iconst 0, 1) := by decide +kernel
theorem dX5_status_24 : decode cX5_status 24 = .ok (.istore_n 3, 1) := by decide +kernel
theorem dX5_status_25 : decode cX5_status 25 = .ok (.iload_n 3, 1) := by decide +kernel
theorem dX5_status_26 : decode cX5_status 26 = .ok (.bipush 7, 2) := by decide +kernel
theorem dX5_status_28 : decode cX5_status 28 = .ok (.if_icmp .ge 31, 3) := by decide +kernel
theorem dX5_status_31 : decode cX5_status 31 = .ok (.iload_n 2, 1) := by decide +kernel
theorem dX5_status_32 : decode cX5_status 32 = .ok (.iload_n 1, 1) := by decide +kernel
theorem dX5_status_33 : decode cX5_status 33 = .ok (.ifCond .lt 8, 3) := by decide +kernel
theorem dX5_status_36 : decode cX5_status 36 = .ok (.iload_n 3, 1) := by decide +kernel
theorem dX5_status_37 : decode cX5_status 37 = .ok (.iload_n 1, 1) := by decide +kernel
theorem dX5_status_38 : decode cX5_status 38 = .ok (.if_icmp .ne 12, 3) := by decide +kernel
theorem dX5_status_41 : decode cX5_status 41 = .ok (.aload_n 0, 1) := by decide +kernel
theorem dX5_status_42 : decode cX5_status 42 = .ok (.getfield 22, 3) := by decide +kernel
theorem dX5_status_45 : decode cX5_status 45 = .ok (.iload_n 3, 1) := by decide +kernel
theorem dX5_status_46 : decode cX5_status 46 = .ok (.iaload, 1) := by decide +kernel
theorem dX5_status_47 : decode cX5_status 47 = .ok (.goto 4, 3) := by decide +kernel
theorem dX5_status_50 : decode cX5_status 50 = .ok (.iconst 0, 1) := by decide +kernel
theorem dX5_status_51 : decode cX5_status 51 = .ok (.iadd, 1) := by decide +kernel
theorem dX5_status_52 : decode cX5_status 52 = .ok (.istore_n 2, 1) := by decide +kernel
theorem dX5_status_53 : decode cX5_status 53 = .ok (.iinc 3 1, 3) := by decide +kernel
theorem dX5_status_56 : decode cX5_status 56 = .ok (.goto (-31), 3) := by decide +kernel
theorem dX5_status_59 : decode cX5_status 59 = .ok (.iload_n 2, 1) := by decide +kernel
theorem dX5_status_60 : decode cX5_status 60 = .ok (.ireturn, 1) := by decide +kernel
def finX5_status (N : Ml) : Int32 × Mi → Option Value × Mi × Ml := fun b => (some (Value.int b.1), b.2, N)
noncomputable def fX5_status_41  (r25 : Mi → Int32 → Int32 → Int32 → Option (Int32 × Mi)) (M : Mi) (x1 : Int32) (x3 : Int32) (s0 : Int32) : Option (Int32 × Mi) := (if inb x3 7 then (r25 M x1 (s0 + (M 4 (ix x3))) (x3 + 1)) else none)
theorem bX5_status_41 {Z : Zt} {E : Ec} {N : Ml} (C : Ok 2 Z E cX5_status 4 RX5 (some .int) 1)  (r25 : Mi → Int32 → Int32 → Int32 → Option (Int32 × Mi)) (hr25 : ∀ (M : Mi) (x1 : Int32) (x2 : Int32) (x3 : Int32), GT Z E 4 (finX5_status N) 25 [(0, .ref (zA Z 6 0)), (1, .int x1), (2, .int x2), (3, .int x3)] [] M N (r25 M x1 x2 x3)) (M : Mi) (x1 : Int32) (x3 : Int32) (s0 : Int32)  : GT Z E 4 (finX5_status N) 41 [(0, .ref (zA Z 6 0)), (1, .int x1), (3, .int x3)] [.int s0] M N (fX5_status_41 r25 M x1 x3 s0) := by
  unfold fX5_status_41
  refine r_aload_n C dX5_status_41 0 0 rfl rfl ?_
  refine gf_X5_22 C dX5_status_42 ?_
  refine r_iload_n C dX5_status_45 3 2 rfl rfl ?_
  refine r_guard (fun h4 => ?_)
  refine ald_M (v := (M 4 (ix x3))) C mI_4 h4 rfl dX5_status_46 ?_
  refine r_goto (tgt := 51) C dX5_status_47 (by decide) ?_
  refine r_iadd C dX5_status_51 ?_
  refine r_istore_n (lv' := [(2, .int (s0 + (M 4 (ix x3)))), (0, .ref (zA Z 6 0)), (1, .int x1), (3, .int x3)]) C dX5_status_52 2 rfl (by decide) rfl ?_
  refine r_iinc (v := (x3 + 1)) (lv' := [(3, .int (x3 + 1)), (2, .int (s0 + (M 4 (ix x3)))), (0, .ref (zA Z 6 0)), (1, .int x1)]) C dX5_status_53 3 rfl rfl (by decide) rfl ?_
  refine r_goto (tgt := 25) C dX5_status_56 (by decide) ?_
  refine r_lv [2, 3, 1, 0] (lv' := [(0, .ref (zA Z 6 0)), (1, .int x1), (2, .int (s0 + (M 4 (ix x3)))), (3, .int (x3 + 1))]) rfl ?_
  exact hr25 M x1 (s0 + (M 4 (ix x3))) (x3 + 1)
noncomputable def fX5_status_25   : Nat → Mi → Int32 → Int32 → Int32 → Option (Int32 × Mi)
  | 0 => fun _ _ _ _ => none
  | n + 1 => fun M x1 x2 x3 => (if 7 ≤ x3 then (some (x2, M)) else (if x1 < 0 then (fX5_status_41 (fX5_status_25 n) M x1 x3 x2) else (if x3 = x1 then (fX5_status_41 (fX5_status_25 n) M x1 x3 x2) else ((fX5_status_25 n) M x1 (x2 + 0) (x3 + 1)))))
theorem bX5_status_25 {Z : Zt} {E : Ec} {N : Ml} (C : Ok 2 Z E cX5_status 4 RX5 (some .int) 1)    : ∀ (n : Nat) (M : Mi) (x1 : Int32) (x2 : Int32) (x3 : Int32), GT Z E 4 (finX5_status N) 25 [(0, .ref (zA Z 6 0)), (1, .int x1), (2, .int x2), (3, .int x3)] [] M N (fX5_status_25 n M x1 x2 x3) := by
  intro n
  induction n with
  | zero => intro M x1 x2 x3; exact r_none
  | succ n ih =>
    intro M x1 x2 x3
    rw [fX5_status_25]
    refine r_iload_n C dX5_status_25 3 3 rfl rfl ?_
    refine r_bipush (v := 7) C dX5_status_26 (by decide) ?_
    refine r_ic_ge (tgt := 59) C dX5_status_28 (by decide) (fun c2 => ?_) (fun c2 => ?_)
    · refine r_iload_n C dX5_status_59 2 2 rfl rfl ?_
      exact r_iret C dX5_status_60 rfl
    · refine r_iload_n C dX5_status_31 2 2 rfl rfl ?_
      refine r_iload_n C dX5_status_32 1 1 rfl rfl ?_
      refine r_if_lt (tgt := 41) C dX5_status_33 (by decide) (fun c3 => ?_) (fun c3 => ?_)
      · refine r_lv [0, 1, 3] (lv' := [(0, .ref (zA Z 6 0)), (1, .int x1), (3, .int x3)]) rfl ?_
        exact bX5_status_41 C (fX5_status_25 n) ih M x1 x3 x2
      · refine r_iload_n C dX5_status_36 3 3 rfl rfl ?_
        refine r_iload_n C dX5_status_37 1 1 rfl rfl ?_
        refine r_ic_ne (tgt := 50) C dX5_status_38 (by decide) (fun c5 => ?_) (fun c5 => ?_)
        · refine r_iconst (v := 0) C dX5_status_50 (by decide) ?_
          refine r_iadd C dX5_status_51 ?_
          refine r_istore_n (lv' := [(2, .int (x2 + 0)), (0, .ref (zA Z 6 0)), (1, .int x1), (3, .int x3)]) C dX5_status_52 2 rfl (by decide) rfl ?_
          refine r_iinc (v := (x3 + 1)) (lv' := [(3, .int (x3 + 1)), (2, .int (x2 + 0)), (0, .ref (zA Z 6 0)), (1, .int x1)]) C dX5_status_53 3 rfl rfl (by decide) rfl ?_
          refine r_goto (tgt := 25) C dX5_status_56 (by decide) ?_
          refine r_lv [2, 3, 1, 0] (lv' := [(0, .ref (zA Z 6 0)), (1, .int x1), (2, .int (x2 + 0)), (3, .int (x3 + 1))]) rfl ?_
          exact ih M x1 (x2 + 0) (x3 + 1)
        · refine r_lv [0, 1, 3] (lv' := [(0, .ref (zA Z 6 0)), (1, .int x1), (3, .int x3)]) rfl ?_
          exact bX5_status_41 C (fX5_status_25 n) ih M x1 x3 x2
noncomputable def fX5_status   (M : Mi) (x1 : Int32) : Option (Int32 × Mi) := (if (fX5_in (Int32.toInt64 x1) (-1) 6) = 0 then (Option.bind (fX5_finds M (-1000000001)) (fun a6 => (some (a6.1, (a6.2))))) else (fX5_status_25 fu M x1 0 0))
theorem bX5_status {Z : Zt} {E : Ec} {N : Ml} (C : Ok 2 Z E cX5_status 4 RX5 (some .int) 1)    (M : Mi) (x1 : Int32)  : GT Z E 4 (finX5_status N) 0 [(0, .ref (zA Z 6 0)), (1, .int x1)] [] M N (fX5_status M x1) := by
  unfold fX5_status
  refine r_iload_n C dX5_status_0 1 1 rfl rfl ?_
  refine r_i2l C dX5_status_1 ?_
  refine r_ldc2 (v := (-1)) C dX5_status_2 wd_1298 ?_
  refine r_ldc2 (v := 6) C dX5_status_5 wd_1299 ?_
  refine r_callS (rest := []) (st2 := [.int (fX5_in (Int32.toInt64 x1) (-1) 6)]) C (mX5_in (eL E) C.z _ _ (Int32.toInt64 x1) (-1) 6) lk_X5_44 (by decide) rfl rfl (Nat.le_of_ble_eq_true rfl) dX5_status_8 rfl ?_
  refine r_if_ne (tgt := 21) C dX5_status_11 (by decide) (fun c1 => ?_) (fun c1 => ?_)
  · refine r_iconst (v := 0) C dX5_status_21 (by decide) ?_
    refine r_istore_n (lv' := [(2, .int 0), (0, .ref (zA Z 6 0)), (1, .int x1)]) C dX5_status_22 2 rfl (by decide) rfl ?_
    refine r_iconst (v := 0) C dX5_status_23 (by decide) ?_
    refine r_istore_n (lv' := [(3, .int 0), (2, .int 0), (0, .ref (zA Z 6 0)), (1, .int x1)]) C dX5_status_24 3 rfl (by decide) rfl ?_
    refine r_lv [2, 3, 1, 0] (lv' := [(0, .ref (zA Z 6 0)), (1, .int x1), (2, .int 0), (3, .int 0)]) rfl ?_
    exact bX5_status_25 C fu M x1 0 0
  · refine r_aload_n C dX5_status_14 0 0 rfl rfl ?_
    refine r_ldc (v := (-1000000001)) C dX5_status_15 wd_859 ?_
    refine r_bind (fun a6 ha6 => ?_)
    refine r_callV (rest := []) (st2 := [.int a6.1]) C (mX5_finds (eL E) C.z M N (-1000000001) a6 ha6) lk_X5_65 (rvM C) (by decide) rfl rfl (Nat.le_of_ble_eq_true rfl) dX5_status_17 rfl ?_
    exact r_iret C dX5_status_20 rfl
theorem mX5_status (l : Launch) {Z : Zt} (hZ : Zok 2 Z) (M : Mi) (N : Ml) (x1 : Int32) (b : Int32 × Mi) (hb : fX5_status M x1 = some b) : Ct 2 Z l yX5_status cX5_status 4 (some .int) 1 [.ref (zA Z 6 0), .int x1] M N (some (Value.int b.1), b.2, N) :=
  metG (fin := (finX5_status N)) (by decide) (Nat.le_of_ble_eq_true rfl) (fun E _ C => bX5_status C M x1) hb
