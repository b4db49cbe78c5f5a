theorem dX5_spring_0 : decode cX5_spring 0 = .ok (.aload_n 0, 1) := by decide +kernel
theorem dX5_spring_1 : decode cX5_spring 1 = .ok (.iload_n 1, 1) := by decide +kernel
theorem dX5_spring_2 : decode cX5_spring 2 = .ok (.iload_n 2, 1) := by decide +kernel
theorem dX5_spring_3 : decode cX5_spring 3 = .ok (.invokevirtual 201, 3) := by decide +kernel
theorem dX5_spring_6 : decode cX5_spring 6 = .ok (.istore_n 3, 1) := by decide +kernel
theorem dX5_spring_7 : decode cX5_spring 7 = .ok (.iload_n 3, 1) := by decide +kernel
theorem dX5_spring_8 : decode cX5_spring 8 = .ok (.ifCond .eq 9, 3) := by decide +kernel
theorem dX5_spring_11 : decode cX5_spring 11 = .ok (.aload_n 0, 1) := by decide +kernel
theorem dX5_spring_12 : decode cX5_spring 12 = .ok (.iload_n 3, 1) := by decide +kernel
theorem dX5_spring_13 : decode cX5_spring 13 = .ok (.invokevirtual 65, 3) := by decide +kernel
theorem dX5_spring_16 : decode cX5_spring 16 = .ok (.ireturn, 1) := by decide +kernel
theorem dX5_spring_17 : decode cX5_spring 17 = .ok (.aload_n 0, 1) := by decide +kernel
theorem dX5_spring_18 : decode cX5_spring 18 = .ok (.getfield 7, 3) := by decide +kernel
theorem dX5_spring_21 : decode cX5_spring 21 = .ok (.iconst 3, 1) := by decide +kernel
theorem dX5_spring_22 : decode cX5_spring 22 = .ok (.iaload, 1) := by decide +kernel
theorem dX5_spring_23 : decode cX5_spring 23 = .ok (.istore 4, 2) := by decide +kernel
theorem dX5_spring_25 : decode cX5_spring 25 = .ok (.iconst (-1), 1) := by decide +kernel
theorem dX5_spring_26 : decode cX5_spring 26 = .ok (.istore 5, 2) := by decide +kernel
theorem dX5_spring_28 : decode cX5_spring 28 = .ok (.iconst (-1), 1) := by decide +kernel
theorem dX5_spring_29 : decode cX5_spring 29 = .ok (.istore 6, 2) := by decide +kernel
theorem dX5_spring_31 : decode cX5_spring 31 = .ok (.iconst 0, 1) := by decide +kernel
theorem dX5_spring_32 : decode cX5_spring 32 = .ok (.istore 7, 2) := by decide +kernel
theorem dX5_spring_34 : decode cX5_spring 34 = .ok (.iload 7, 2) := by decide +kernel
theorem dX5_spring_36 : decode cX5_spring 36 = .ok (.bipush 30, 2) := by decide +kernel
theorem dX5_spring_38 : decode cX5_spring 38 = .ok (.if_icmp .ge 72, 3) := by decide +kernel
theorem dX5_spring_41 : decode cX5_spring 41 = .ok (.aload_n 0, 1) := by decide +kernel
theorem dX5_spring_42 : decode cX5_spring 42 = .ok (.iload 7, 2) := by decide +kernel
theorem dX5_spring_44 : decode cX5_spring 44 = .ok (.invokevirtual 69, 3) := by decide +kernel
theorem dX5_spring_47 : decode cX5_spring 47 = .ok (.ifCond .ne 57, 3) := by decide +kernel
theorem dX5_spring_50 : decode cX5_spring 50 = .ok (.aload_n 0, 1) := by decide +kernel
theorem dX5_spring_51 : decode cX5_spring 51 = .ok (.getfield 7, 3) := by decide +kernel
theorem dX5_spring_54 : decode cX5_spring 54 = .ok (.iconst 3, 1) := by decide +kernel
theorem dX5_spring_55 : decode cX5_spring 55 = .ok (.iload 7, 2) := by decide +kernel
theorem dX5_spring_57 : decode cX5_spring 57 = .ok (.iastore, 1) := by decide +kernel
theorem dX5_spring_58 : decode cX5_spring 58 = .ok (.aload_n 0, 1) := by decide +kernel
theorem dX5_spring_59 : decode cX5_spring 59 = .ok (.iload_n 1, 1) := by decide +kernel
theorem dX5_spring_60 : decode cX5_spring 60 = .ok (.iload_n 2, 1) := by decide +kernel
theorem dX5_spring_61 : decode cX5_spring 61 = .ok (.invokevirtual 204, 3) := by decide +kernel
theorem dX5_spring_64 : decode cX5_spring 64 = .ok (.istore 8, 2) := by decide +kernel
theorem dX5_spring_66 : decode cX5_spring 66 = .ok (.iload 8, 2) := by decide +kernel
theorem dX5_spring_68 : decode cX5_spring 68 = .ok (.iload 5, 2) := by decide +kernel
theorem dX5_spring_70 : decode cX5_spring 70 = .ok (.invokestatic 209, 3) := by decide +kernel
theorem dX5_spring_73 : decode cX5_spring 73 = .ok (.ifCond .eq 8, 3) := by decide +kernel
theorem dX5_spring_76 : decode cX5_spring 76 = .ok (.iload 7, 2) := by decide +kernel
theorem dX5_spring_78 : decode cX5_spring 78 = .ok (.goto 5, 3) := by decide +kernel
theorem dX5_spring_81 : decode cX5_spring 81 = .ok (.iload 6, 2) := by decide +kernel
theorem dX5_spring_83 : decode cX5_spring 83 = .ok (.istore 6, 2) := by decide +kernel
theorem dX5_spring_85 : decode cX5_spring 85 = .ok (.iload 8, 2) := by decide +kernel
theorem dX5_spring_87 : decode cX5_spring 87 = .ok (.iload 5, 2) := by decide +kernel
theorem dX5_spring_89 : decode cX5_spring 89 = .ok (.invokestatic 209, 3) := by decide +kernel
theorem dX5_spring_92 : decode cX5_spring 92 = .ok (.ifCond .eq 8, 3) := by decide +kernel
theorem dX5_spring_95 : decode cX5_spring 95 = .ok (.iload 8, 2) := by decide +kernel
theorem dX5_spring_97 : decode cX5_spring 97 = .ok (.goto 5, 3) := by decide +kernel
theorem dX5_spring_100 : decode cX5_spring 100 = .ok (.iload 5, 2) := by decide +kernel
theorem dX5_spring_102 : decode cX5_spring 102 = .ok (.istore 5, 2) := by decide +kernel
theorem dX5_spring_104 : decode cX5_spring 104 = .ok (.iinc 7 1, 3) := by decide +kernel
theorem dX5_spring_107 : decode cX5_spring 107 = .ok (.goto (-73), 3) := by decide +kernel
theorem dX5_spring_110 : decode cX5_spring 110 = .ok (.aload_n 0, 1) := by decide +kernel
theorem dX5_spring_111 : decode cX5_spring 111 = .ok (.getfield 7, 3) := by decide +kernel
theorem dX5_spring_114 : decode cX5_spring 114 = .ok (.iconst 3, 1) := by decide +kernel
theorem dX5_spring_115 : decode cX5_spring 115 = .ok (.iload 4, 2) := by decide +kernel
theorem dX5_spring_117 : decode cX5_spring 117 = .ok (.iastore, 1) := by decide +kernel
theorem dX5_spring_118 : decode cX5_spring 118 = .ok (.aload_n 0, 1) := by decide +kernel
theorem dX5_spring_119 : decode cX5_spring 119 = .ok (.iload 6, 2) := by decide +kernel
theorem dX5_spring_121 : decode cX5_spring 121 = .ok (.bipush 30, 2) := by decide +kernel
theorem dX5_spring_123 : decode cX5_spring 123 = .ok (.invokevirtual 181, 3) := by decide +kernel
theorem dX5_spring_126 : decode cX5_spring 126 = .ok (.ireturn, 1) := by decide +kernel
def finX5_spring (N : Ml) : Int32 × Mi → Option Value × Mi × Ml := fun b => (some (Value.int b.1), b.2, N)
noncomputable def fX5_spring_83  (r34 : Mi → Int32 → Int32 → Int32 → Int32 → Int32 → Int32 → Option (Int32 × Mi)) (M : Mi) (x1 : Int32) (x2 : Int32) (x4 : Int32) (x5 : Int32) (x7 : Int32) (x8 : Int32) (s0 : Int32) : Option (Int32 × Mi) := (r34 M x1 x2 x4 (if (fX5_isSooner x8 x5) = 0 then x5 else x8 : Int32) s0 (x7 + 1))
theorem bX5_spring_83 {Z : Zt} {E : Ec} {N : Ml} (C : Ok 2 Z E cX5_spring 9 RX5 (some .int) 6)  (r34 : Mi → Int32 → Int32 → Int32 → Int32 → Int32 → Int32 → Option (Int32 × Mi)) (hr34 : ∀ (M : Mi) (x1 : Int32) (x2 : Int32) (x4 : Int32) (x5 : Int32) (x6 : Int32) (x7 : Int32), GT Z E 9 (finX5_spring N) 34 [(0, .ref (zA Z 6 0)), (1, .int x1), (2, .int x2), (4, .int x4), (5, .int x5), (6, .int x6), (7, .int x7)] [] M N (r34 M x1 x2 x4 x5 x6 x7)) (M : Mi) (x1 : Int32) (x2 : Int32) (x4 : Int32) (x5 : Int32) (x7 : Int32) (x8 : Int32) (s0 : Int32)  : GT Z E 9 (finX5_spring N) 83 [(0, .ref (zA Z 6 0)), (1, .int x1), (2, .int x2), (4, .int x4), (5, .int x5), (7, .int x7), (8, .int x8)] [.int s0] M N (fX5_spring_83 r34 M x1 x2 x4 x5 x7 x8 s0) := by
  unfold fX5_spring_83
  refine r_istore (lv' := [(6, .int s0), (0, .ref (zA Z 6 0)), (1, .int x1), (2, .int x2), (4, .int x4), (5, .int x5), (7, .int x7), (8, .int x8)]) C dX5_spring_83 (by decide) rfl ?_
  refine r_iload C dX5_spring_85 7 rfl ?_
  refine r_iload C dX5_spring_87 5 rfl ?_
  refine r_callS (rest := []) (st2 := [.int (fX5_isSooner x8 x5)]) C (mX5_isSooner (eL E) C.z _ _ x8 x5) lk_X5_209 (by decide) rfl rfl (Nat.le_of_ble_eq_true rfl) dX5_spring_89 rfl ?_
  refine r_sel (tj := 102) (sj := [.int (if (fX5_isSooner x8 x5) = 0 then x5 else x8 : Int32)]) ?_ (fun k9 => ?_)
  · refine r_istore (lv' := [(5, .int (if (fX5_isSooner x8 x5) = 0 then x5 else x8 : Int32)), (6, .int s0), (0, .ref (zA Z 6 0)), (1, .int x1), (2, .int x2), (4, .int x4), (7, .int x7), (8, .int x8)]) C dX5_spring_102 (by decide) rfl ?_
    refine r_iinc (v := (x7 + 1)) (lv' := [(7, .int (x7 + 1)), (5, .int (if (fX5_isSooner x8 x5) = 0 then x5 else x8 : Int32)), (6, .int s0), (0, .ref (zA Z 6 0)), (1, .int x1), (2, .int x2), (4, .int x4), (8, .int x8)]) C dX5_spring_104 6 rfl rfl (by decide) rfl ?_
    refine r_goto (tgt := 34) C dX5_spring_107 (by decide) ?_
    refine r_lv [3, 4, 5, 6, 1, 2, 0] (lv' := [(0, .ref (zA Z 6 0)), (1, .int x1), (2, .int x2), (4, .int x4), (5, .int (if (fX5_isSooner x8 x5) = 0 then x5 else x8 : Int32)), (6, .int s0), (7, .int (x7 + 1))]) rfl ?_
    exact hr34 M x1 x2 x4 (if (fX5_isSooner x8 x5) = 0 then x5 else x8 : Int32) s0 (x7 + 1)
  · refine r_same (P := (fX5_isSooner x8 x5) = 0) ?_
    refine r_if_eq (tgt := 100) C dX5_spring_92 (by decide) (fun c8 => ?_) (fun c8 => ?_)
    · refine r_iload C dX5_spring_100 5 rfl ?_
      exact r_stk (if_pos c8) k9
    · refine r_iload C dX5_spring_95 7 rfl ?_
      refine r_goto (tgt := 102) C dX5_spring_97 (by decide) ?_
      exact r_stk (if_neg c8) k9
noncomputable def fX5_spring_34   : Nat → Mi → Int32 → Int32 → Int32 → Int32 → Int32 → Int32 → Option (Int32 × Mi)
  | 0 => fun _ _ _ _ _ _ _ => none
  | n + 1 => fun M x1 x2 x4 x5 x6 x7 => (if 30 ≤ x7 then (Option.bind (fX5_orNone (wM M 0 3 x4) x6 30) (fun a3 => (some (a3.1, (a3.2))))) else (if (fX5_isFenced (M 0) x7) = 0 then (Option.bind (fX5_soonestOf (wM M 0 3 x7) x1 x2) (fun a5 => (fX5_spring_83 (fX5_spring_34 n) (a5.2) x1 x2 x4 x5 x7 a5.1 (if (fX5_isSooner a5.1 x5) = 0 then x6 else x7 : Int32)))) else ((fX5_spring_34 n) M x1 x2 x4 x5 x6 (x7 + 1))))
theorem bX5_spring_34 {Z : Zt} {E : Ec} {N : Ml} (C : Ok 2 Z E cX5_spring 9 RX5 (some .int) 6)    : ∀ (n : Nat) (M : Mi) (x1 : Int32) (x2 : Int32) (x4 : Int32) (x5 : Int32) (x6 : Int32) (x7 : Int32), GT Z E 9 (finX5_spring N) 34 [(0, .ref (zA Z 6 0)), (1, .int x1), (2, .int x2), (4, .int x4), (5, .int x5), (6, .int x6), (7, .int x7)] [] M N (fX5_spring_34 n M x1 x2 x4 x5 x6 x7) := by
  intro n
  induction n with
  | zero => intro M x1 x2 x4 x5 x6 x7; exact r_none
  | succ n ih =>
    intro M x1 x2 x4 x5 x6 x7
    rw [fX5_spring_34]
    refine r_iload C dX5_spring_34 6 rfl ?_
    refine r_bipush (v := 30) C dX5_spring_36 (by decide) ?_
    refine r_ic_ge (tgt := 110) C dX5_spring_38 (by decide) (fun c2 => ?_) (fun c2 => ?_)
    · refine r_aload_n C dX5_spring_110 0 0 rfl rfl ?_
      refine gf_X5_7 C dX5_spring_111 ?_
      refine r_iconst (v := 3) C dX5_spring_114 (by decide) ?_
      refine r_iload C dX5_spring_115 3 rfl ?_
      refine ast_M (M' := (wM M 0 3 x4)) C mI_0 (by decide) rfl dX5_spring_117 ?_
      refine r_aload_n C dX5_spring_118 0 0 rfl rfl ?_
      refine r_iload C dX5_spring_119 5 rfl ?_
      refine r_bipush (v := 30) C dX5_spring_121 (by decide) ?_
      refine r_bind (fun a3 ha3 => ?_)
      refine r_callV (rest := []) (st2 := [.int a3.1]) C (mX5_orNone (eL E) C.z (wM M 0 3 x4) N x6 30 a3 ha3) lk_X5_181 (rvM C) (by decide) rfl rfl (Nat.le_of_ble_eq_true rfl) dX5_spring_123 rfl ?_
      exact r_iret C dX5_spring_126 rfl
    · refine r_aload_n C dX5_spring_41 0 0 rfl rfl ?_
      refine r_iload C dX5_spring_42 6 rfl ?_
      refine r_callV (rest := []) (st2 := [.int (fX5_isFenced (M 0) x7)]) C (mX5_isFenced (eL E) C.z M _ (M 0) x7).selfR lk_X5_69 (rvM C) (by decide) rfl rfl (Nat.le_of_ble_eq_true rfl) dX5_spring_44 rfl ?_
      refine r_if_ne (tgt := 104) C dX5_spring_47 (by decide) (fun c4 => ?_) (fun c4 => ?_)
      · refine r_iinc (v := (x7 + 1)) (lv' := [(7, .int (x7 + 1)), (0, .ref (zA Z 6 0)), (1, .int x1), (2, .int x2), (4, .int x4), (5, .int x5), (6, .int x6)]) C dX5_spring_104 6 rfl rfl (by decide) rfl ?_
        refine r_goto (tgt := 34) C dX5_spring_107 (by decide) ?_
        refine r_lv [1, 2, 3, 4, 5, 6, 0] (lv' := [(0, .ref (zA Z 6 0)), (1, .int x1), (2, .int x2), (4, .int x4), (5, .int x5), (6, .int x6), (7, .int (x7 + 1))]) rfl ?_
        exact ih M x1 x2 x4 x5 x6 (x7 + 1)
      · refine r_aload_n C dX5_spring_50 0 0 rfl rfl ?_
        refine gf_X5_7 C dX5_spring_51 ?_
        refine r_iconst (v := 3) C dX5_spring_54 (by decide) ?_
        refine r_iload C dX5_spring_55 6 rfl ?_
        refine ast_M (M' := (wM M 0 3 x7)) C mI_0 (by decide) rfl dX5_spring_57 ?_
        refine r_aload_n C dX5_spring_58 0 0 rfl rfl ?_
        refine r_iload_n C dX5_spring_59 1 1 rfl rfl ?_
        refine r_iload_n C dX5_spring_60 2 2 rfl rfl ?_
        refine r_bind (fun a5 ha5 => ?_)
        refine r_callV (rest := []) (st2 := [.int a5.1]) C (mX5_soonestOf (eL E) C.z (wM M 0 3 x7) N x1 x2 a5 ha5) lk_X5_204 (rvM C) (by decide) rfl rfl (Nat.le_of_ble_eq_true rfl) dX5_spring_61 rfl ?_
        refine r_istore (lv' := [(8, .int a5.1), (0, .ref (zA Z 6 0)), (1, .int x1), (2, .int x2), (4, .int x4), (5, .int x5), (6, .int x6), (7, .int x7)]) C dX5_spring_64 (by decide) rfl ?_
        refine r_iload C dX5_spring_66 0 rfl ?_
        refine r_iload C dX5_spring_68 5 rfl ?_
        refine r_callS (rest := []) (st2 := [.int (fX5_isSooner a5.1 x5)]) C (mX5_isSooner (eL E) C.z _ _ a5.1 x5) lk_X5_209 (by decide) rfl rfl (Nat.le_of_ble_eq_true rfl) dX5_spring_70 rfl ?_
        refine r_sel (tj := 83) (sj := [.int (if (fX5_isSooner a5.1 x5) = 0 then x6 else x7 : Int32)]) ?_ (fun k7 => ?_)
        · refine r_lv [1, 2, 3, 4, 5, 7, 0] (lv' := [(0, .ref (zA Z 6 0)), (1, .int x1), (2, .int x2), (4, .int x4), (5, .int x5), (7, .int x7), (8, .int a5.1)]) rfl ?_
          exact bX5_spring_83 C (fX5_spring_34 n) ih (a5.2) x1 x2 x4 x5 x7 a5.1 (if (fX5_isSooner a5.1 x5) = 0 then x6 else x7 : Int32)
        · refine r_same (P := (fX5_isSooner a5.1 x5) = 0) ?_
          refine r_if_eq (tgt := 81) C dX5_spring_73 (by decide) (fun c6 => ?_) (fun c6 => ?_)
          · refine r_iload C dX5_spring_81 6 rfl ?_
            exact r_stk (if_pos c6) k7
          · refine r_iload C dX5_spring_76 7 rfl ?_
            refine r_goto (tgt := 83) C dX5_spring_78 (by decide) ?_
            exact r_stk (if_neg c6) k7
noncomputable def fX5_spring   (M : Mi) (x1 : Int32) (x2 : Int32) : Option (Int32 × Mi) := (if (fX5_wrongReader (M 0) x1 x2) = 0 then (fX5_spring_34 fu M x1 x2 (M 0 3) (-1) (-1) 0) else (Option.bind (fX5_finds M (fX5_wrongReader (M 0) x1 x2)) (fun a10 => (some (a10.1, (a10.2))))))
theorem bX5_spring {Z : Zt} {E : Ec} {N : Ml} (C : Ok 2 Z E cX5_spring 9 RX5 (some .int) 6)    (M : Mi) (x1 : Int32) (x2 : Int32)  : GT Z E 9 (finX5_spring N) 0 [(0, .ref (zA Z 6 0)), (1, .int x1), (2, .int x2)] [] M N (fX5_spring M x1 x2) := by
  unfold fX5_spring
  refine r_aload_n C dX5_spring_0 0 0 rfl rfl ?_
  refine r_iload_n C dX5_spring_1 1 1 rfl rfl ?_
  refine r_iload_n C dX5_spring_2 2 2 rfl rfl ?_
  refine r_callV (rest := []) (st2 := [.int (fX5_wrongReader (M 0) x1 x2)]) C (mX5_wrongReader (eL E) C.z M _ (M 0) x1 x2).selfR lk_X5_201 (rvM C) (by decide) rfl rfl (Nat.le_of_ble_eq_true rfl) dX5_spring_3 rfl ?_
  refine r_istore_n (lv' := [(3, .int (fX5_wrongReader (M 0) x1 x2)), (0, .ref (zA Z 6 0)), (1, .int x1), (2, .int x2)]) C dX5_spring_6 3 rfl (by decide) rfl ?_
  refine r_iload_n C dX5_spring_7 3 0 rfl rfl ?_
  refine r_if_eq (tgt := 17) C dX5_spring_8 (by decide) (fun c1 => ?_) (fun c1 => ?_)
  · refine r_aload_n C dX5_spring_17 0 1 rfl rfl ?_
    refine gf_X5_7 C dX5_spring_18 ?_
    refine r_iconst (v := 3) C dX5_spring_21 (by decide) ?_
    refine ald_M (v := (M 0 3)) C mI_0 (by decide) rfl dX5_spring_22 ?_
    refine r_istore (lv' := [(4, .int (M 0 3)), (3, .int (fX5_wrongReader (M 0) x1 x2)), (0, .ref (zA Z 6 0)), (1, .int x1), (2, .int x2)]) C dX5_spring_23 (by decide) rfl ?_
    refine r_iconst (v := (-1)) C dX5_spring_25 (by decide) ?_
    refine r_istore (lv' := [(5, .int (-1)), (4, .int (M 0 3)), (3, .int (fX5_wrongReader (M 0) x1 x2)), (0, .ref (zA Z 6 0)), (1, .int x1), (2, .int x2)]) C dX5_spring_26 (by decide) rfl ?_
    refine r_iconst (v := (-1)) C dX5_spring_28 (by decide) ?_
    refine r_istore (lv' := [(6, .int (-1)), (5, .int (-1)), (4, .int (M 0 3)), (3, .int (fX5_wrongReader (M 0) x1 x2)), (0, .ref (zA Z 6 0)), (1, .int x1), (2, .int x2)]) C dX5_spring_29 (by decide) rfl ?_
    refine r_iconst (v := 0) C dX5_spring_31 (by decide) ?_
    refine r_istore (lv' := [(7, .int 0), (6, .int (-1)), (5, .int (-1)), (4, .int (M 0 3)), (3, .int (fX5_wrongReader (M 0) x1 x2)), (0, .ref (zA Z 6 0)), (1, .int x1), (2, .int x2)]) C dX5_spring_32 (by decide) rfl ?_
    refine r_lv [5, 6, 7, 3, 2, 1, 0] (lv' := [(0, .ref (zA Z 6 0)), (1, .int x1), (2, .int x2), (4, .int (M 0 3)), (5, .int (-1)), (6, .int (-1)), (7, .int 0)]) rfl ?_
    exact bX5_spring_34 C fu M x1 x2 (M 0 3) (-1) (-1) 0
  · refine r_aload_n C dX5_spring_11 0 1 rfl rfl ?_
    refine r_iload_n C dX5_spring_12 3 0 rfl rfl ?_
    refine r_bind (fun a10 ha10 => ?_)
    refine r_callV (rest := []) (st2 := [.int a10.1]) C (mX5_finds (eL E) C.z M N (fX5_wrongReader (M 0) x1 x2) a10 ha10) lk_X5_65 (rvM C) (by decide) rfl rfl (Nat.le_of_ble_eq_true rfl) dX5_spring_13 rfl ?_
    exact r_iret C dX5_spring_16 rfl
theorem mX5_spring (l : Launch) {Z : Zt} (hZ : Zok 2 Z) (M : Mi) (N : Ml) (x1 : Int32) (x2 : Int32) (b : Int32 × Mi) (hb : fX5_spring M x1 x2 = some b) : Ct 2 Z l yX5_spring cX5_spring 9 (some .int) 6 [.ref (zA Z 6 0), .int x1, .int x2] M N (some (Value.int b.1), b.2, N) :=
  metG (fin := (finX5_spring N)) (by decide) (Nat.le_of_ble_eq_true rfl) (fun E _ C => bX5_spring C M x1 x2) hb
theorem dX5_kind_0 : decode cX5_kind 0 = .ok (.aload_n 0, 1) := by decide +kernel
theorem dX5_kind_1 : decode cX5_kind 1 = .ok (.iload_n 1, 1) := by decide +kernel
theorem dX5_kind_2 : decode cX5_kind 2 = .ok (.invokevirtual 54, 3) := by decide +kernel
theorem dX5_kind_5 : decode cX5_kind 5 = .ok (.ifCond .eq 10, 3) := by decide +kernel
theorem dX5_kind_8 : decode cX5_kind 8 = .ok (.iload_n 2, 1) := by decide +kernel
theorem dX5_kind_9 : decode cX5_kind 9 = .ok (.invokestatic 62, 3) := by decide +kernel
theorem dX5_kind_12 : decode cX5_kind 12 = .ok (.ifCond .ne 10, 3) := by decide +kernel
theorem dX5_kind_15 : decode cX5_kind 15 = .ok (.aload_n 0, 1) := by decide +kernel
theorem dX5_kind_16 : decode cX5_kind 16 = .ok (.ldc 41, 2) := by decide +kernel
theorem dX5_kind_18 : decode cX5_kind 18 = .ok (.invokevirtual 65, 3) := by decide +kernel
theorem dX5_kind_21 : decode cX5_kind 21 = .ok (.ireturn, 1) := by decide +kernel
theorem dX5_kind_22 : decode cX5_kind 22 = .ok (.aload_n 0, 1) := by decide +kernel
theorem dX5_kind_23 : decode cX5_kind 23 = .ok (.iload_n 1, 1) := by decide +kernel
theorem dX5_kind_24 : decode cX5_kind 24 = .ok (.iconst 0, 1) := by decide +kernel
theorem dX5_kind_25 : decode cX5_kind 25 = .ok (.invokevirtual 83, 3) := by decide +kernel
theorem dX5_kind_28 : decode cX5_kind 28 = .ok (.istore_n 3, 1) := by decide +kernel
theorem dX5_kind_29 : decode cX5_kind 29 = .ok (.bipush 73, 2) := by decide +kernel
theorem dX5_kind_31 : decode cX5_kind 31 = .ok (.istore 4, 2) := by decide +kernel
theorem dX5_kind_33 : decode cX5_kind 33 = .ok (.iconst (-1), 1) := by decide +kernel
theorem dX5_kind_34 : decode cX5_kind 34 = .ok (.istore 5, 2) := by decide +kernel
theorem dX5_kind_36 : decode cX5_kind 36 = .ok (.iconst 0, 1) := by decide +kernel
theorem dX5_kind_37 : decode cX5_kind 37 = .ok (.istore 6, 2) := by decide +kernel
theorem dX5_kind_39 : decode cX5_kind 39 = .ok (.iload 6, 2) := by decide +kernel
theorem dX5_kind_41 : decode cX5_kind 41 = .ok (.iconst 5, 1) := by decide +kernel
theorem dX5_kind_42 : decode cX5_kind 42 = .ok (.if_icmp .gt 61, 3) := by decide +kernel
theorem dX5_kind_45 : decode cX5_kind 45 = .ok (.aload_n 0, 1) := by decide +kernel
theorem dX5_kind_46 : decode cX5_kind 46 = .ok (.getfield 7, 3) := by decide +kernel
theorem dX5_kind_49 : decode cX5_kind 49 = .ok (.iload_n 1, 1) := by decide +kernel
theorem dX5_kind_50 : decode cX5_kind 50 = .ok (.iconst 0, 1) := by decide +kernel
theorem dX5_kind_51 : decode cX5_kind 51 = .ok (.invokestatic 58, 3) := by decide +kernel
theorem dX5_kind_54 : decode cX5_kind 54 = .ok (.iload 6, 2) := by decide +kernel
theorem dX5_kind_56 : decode cX5_kind 56 = .ok (.iastore, 1) := by decide +kernel
theorem dX5_kind_57 : decode cX5_kind 57 = .ok (.aload_n 0, 1) := by decide +kernel
theorem dX5_kind_58 : decode cX5_kind 58 = .ok (.iload_n 1, 1) := by decide +kernel
theorem dX5_kind_59 : decode cX5_kind 59 = .ok (.iload_n 2, 1) := by decide +kernel
theorem dX5_kind_60 : decode cX5_kind 60 = .ok (.invokevirtual 178, 3) := by decide +kernel
theorem dX5_kind_63 : decode cX5_kind 63 = .ok (.istore 7, 2) := by decide +kernel
theorem dX5_kind_65 : decode cX5_kind 65 = .ok (.iload 7, 2) := by decide +kernel
theorem dX5_kind_67 : decode cX5_kind 67 = .ok (.iload 4, 2) := by decide +kernel
theorem dX5_kind_69 : decode cX5_kind 69 = .ok (.if_icmp .ge 8, 3) := by decide +kernel
theorem dX5_kind_72 : decode cX5_kind 72 = .ok (.iload 6, 2) := by decide +kernel
theorem dX5_kind_74 : decode cX5_kind 74 = .ok (.goto 5, 3) := by decide +kernel
theorem dX5_kind_77 : decode cX5_kind 77 = .ok (.iload 5, 2) := by decide +kernel
theorem dX5_kind_79 : decode cX5_kind 79 = .ok (.istore 5, 2) := by decide +kernel
theorem dX5_kind_81 : decode cX5_kind 81 = .ok (.iload 7, 2) := by decide +kernel
theorem dX5_kind_83 : decode cX5_kind 83 = .ok (.iload 4, 2) := by decide +kernel
theorem dX5_kind_85 : decode cX5_kind 85 = .ok (.if_icmp .ge 8, 3) := by decide +kernel
theorem dX5_kind_88 : decode cX5_kind 88 = .ok (.iload 7, 2) := by decide +kernel
theorem dX5_kind_90 : decode cX5_kind 90 = .ok (.goto 5, 3) := by decide +kernel
theorem dX5_kind_93 : decode cX5_kind 93 = .ok (.iload 4, 2) := by decide +kernel
theorem dX5_kind_95 : decode cX5_kind 95 = .ok (.istore 4, 2) := by decide +kernel
theorem dX5_kind_97 : decode cX5_kind 97 = .ok (.iinc 6 1, 3) := by decide +kernel
theorem dX5_kind_100 : decode cX5_kind 100 = .ok (.goto (-61), 3) := by decide +kernel
theorem dX5_kind_103 : decode cX5_kind 103 = .ok (.aload_n 0, 1) := by decide +kernel
theorem dX5_kind_104 : decode cX5_kind 104 = .ok (.getfield 7, 3) := by decide +kernel
theorem dX5_kind_107 : decode cX5_kind 107 = .ok (.iload_n 1, 1) := by decide +kernel
theorem dX5_kind_108 : decode cX5_kind 108 = .ok (.iconst 0, 1) := by decide +kernel
theorem dX5_kind_109 : decode cX5_kind 109 = .ok (.invokestatic 58, 3) := by decide +kernel
theorem dX5_kind_112 : decode cX5_kind 112 = .ok (.iload_n 3, 1) := by decide +kernel
theorem dX5_kind_113 : decode cX5_kind 113 = .ok (.iastore, 1) := by decide +kernel
theorem dX5_kind_114 : decode cX5_kind 114 = .ok (.aload_n 0, 1) := by decide +kernel
theorem dX5_kind_115 : decode cX5_kind 115 = .ok (.iload 5, 2) := by decide +kernel
theorem dX5_kind_117 : decode cX5_kind 117 = .ok (.iconst 5, 1) := by decide +kernel
theorem dX5_kind_118 : decode cX5_kind 118 = .ok (.invokevirtual 181, 3) := by decide +kernel
theorem dX5_kind_121 : decode cX5_kind 121 = .ok (.ireturn, 1) := by decide +kernel
def finX5_kind (N : Ml) : Int32 × Mi → Option Value × Mi × Ml := fun b => (some (Value.int b.1), b.2, N)
noncomputable def fX5_kind_15   (M : Mi) : Option (Int32 × Mi) := (Option.bind (fX5_finds M (-1000000001)) (fun a2 => (some (a2.1, (a2.2)))))
theorem bX5_kind_15 {Z : Zt} {E : Ec} {N : Ml} (C : Ok 2 Z E cX5_kind 8 RX5 (some .int) 6)    (M : Mi)  : GT Z E 8 (finX5_kind N) 15 [(0, .ref (zA Z 6 0))] [] M N (fX5_kind_15 M) := by
  unfold fX5_kind_15
  refine r_aload_n C dX5_kind_15 0 0 rfl rfl ?_
  refine r_ldc (v := (-1000000001)) C dX5_kind_16 wd_859 ?_
  refine r_bind (fun a2 ha2 => ?_)
  refine r_callV (rest := []) (st2 := [.int a2.1]) C (mX5_finds (eL E) C.z M N (-1000000001) a2 ha2) lk_X5_65 (rvM C) (by decide) rfl rfl (Nat.le_of_ble_eq_true rfl) dX5_kind_18 rfl ?_
  exact r_iret C dX5_kind_21 rfl
noncomputable def fX5_kind_79  (r39 : Mi → Int32 → Int32 → Int32 → Int32 → Int32 → Int32 → Option (Int32 × Mi)) (M : Mi) (x1 : Int32) (x2 : Int32) (x3 : Int32) (x4 : Int32) (x6 : Int32) (x7 : Int32) (s0 : Int32) : Option (Int32 × Mi) := (r39 M x1 x2 x3 (if x4 ≤ x7 then x4 else x7 : Int32) s0 (x6 + 1))
theorem bX5_kind_79 {Z : Zt} {E : Ec} {N : Ml} (C : Ok 2 Z E cX5_kind 8 RX5 (some .int) 6)  (r39 : Mi → Int32 → Int32 → Int32 → Int32 → Int32 → Int32 → Option (Int32 × Mi)) (hr39 : ∀ (M : Mi) (x1 : Int32) (x2 : Int32) (x3 : Int32) (x4 : Int32) (x5 : Int32) (x6 : Int32), GT Z E 8 (finX5_kind N) 39 [(0, .ref (zA Z 6 0)), (1, .int x1), (2, .int x2), (3, .int x3), (4, .int x4), (5, .int x5), (6, .int x6)] [] M N (r39 M x1 x2 x3 x4 x5 x6)) (M : Mi) (x1 : Int32) (x2 : Int32) (x3 : Int32) (x4 : Int32) (x6 : Int32) (x7 : Int32) (s0 : Int32)  : GT Z E 8 (finX5_kind N) 79 [(0, .ref (zA Z 6 0)), (1, .int x1), (2, .int x2), (3, .int x3), (4, .int x4), (6, .int x6), (7, .int x7)] [.int s0] M N (fX5_kind_79 r39 M x1 x2 x3 x4 x6 x7 s0) := by
  unfold fX5_kind_79
  refine r_istore (lv' := [(5, .int s0), (0, .ref (zA Z 6 0)), (1, .int x1), (2, .int x2), (3, .int x3), (4, .int x4), (6, .int x6), (7, .int x7)]) C dX5_kind_79 (by decide) rfl ?_
  refine r_iload C dX5_kind_81 7 rfl ?_
  refine r_iload C dX5_kind_83 5 rfl ?_
  refine r_sel (tj := 95) (sj := [.int (if x4 ≤ x7 then x4 else x7 : Int32)]) ?_ (fun k13 => ?_)
  · refine r_istore (lv' := [(4, .int (if x4 ≤ x7 then x4 else x7 : Int32)), (5, .int s0), (0, .ref (zA Z 6 0)), (1, .int x1), (2, .int x2), (3, .int x3), (6, .int x6), (7, .int x7)]) C dX5_kind_95 (by decide) rfl ?_
    refine r_iinc (v := (x6 + 1)) (lv' := [(6, .int (x6 + 1)), (4, .int (if x4 ≤ x7 then x4 else x7 : Int32)), (5, .int s0), (0, .ref (zA Z 6 0)), (1, .int x1), (2, .int x2), (3, .int x3), (7, .int x7)]) C dX5_kind_97 6 rfl rfl (by decide) rfl ?_
    refine r_goto (tgt := 39) C dX5_kind_100 (by decide) ?_
    refine r_lv [3, 4, 5, 6, 1, 2, 0] (lv' := [(0, .ref (zA Z 6 0)), (1, .int x1), (2, .int x2), (3, .int x3), (4, .int (if x4 ≤ x7 then x4 else x7 : Int32)), (5, .int s0), (6, .int (x6 + 1))]) rfl ?_
    exact hr39 M x1 x2 x3 (if x4 ≤ x7 then x4 else x7 : Int32) s0 (x6 + 1)
  · refine r_same (P := x4 ≤ x7) ?_
    refine r_ic_ge (tgt := 93) C dX5_kind_85 (by decide) (fun c12 => ?_) (fun c12 => ?_)
    · refine r_iload C dX5_kind_93 5 rfl ?_
      exact r_stk (if_pos c12) k13
    · refine r_iload C dX5_kind_88 7 rfl ?_
      refine r_goto (tgt := 95) C dX5_kind_90 (by decide) ?_
      exact r_stk (if_neg c12) k13
noncomputable def fX5_kind_39   : Nat → Mi → Int32 → Int32 → Int32 → Int32 → Int32 → Int32 → Option (Int32 × Mi)
  | 0 => fun _ _ _ _ _ _ _ => none
  | n + 1 => fun M x1 x2 x3 x4 x5 x6 => (if 5 < x6 then (if inb (fX5_spotOf x1 0) 39 then (Option.bind (fX5_orNone (wM M 0 (ix (fX5_spotOf x1 0)) x3) x5 5) (fun a7 => (some (a7.1, (a7.2))))) else none) else (if inb (fX5_spotOf x1 0) 39 then (Option.bind (fX5_whenOf (wM M 0 (ix (fX5_spotOf x1 0)) x6) x1 x2) (fun a9 => (fX5_kind_79 (fX5_kind_39 n) (a9.2) x1 x2 x3 x4 x6 a9.1 (if x4 ≤ a9.1 then x5 else x6 : Int32)))) else none))
theorem bX5_kind_39 {Z : Zt} {E : Ec} {N : Ml} (C : Ok 2 Z E cX5_kind 8 RX5 (some .int) 6)    : ∀ (n : Nat) (M : Mi) (x1 : Int32) (x2 : Int32) (x3 : Int32) (x4 : Int32) (x5 : Int32) (x6 : Int32), GT Z E 8 (finX5_kind N) 39 [(0, .ref (zA Z 6 0)), (1, .int x1), (2, .int x2), (3, .int x3), (4, .int x4), (5, .int x5), (6, .int x6)] [] M N (fX5_kind_39 n M x1 x2 x3 x4 x5 x6) := by
  intro n
  induction n with
  | zero => intro M x1 x2 x3 x4 x5 x6; exact r_none
  | succ n ih =>
    intro M x1 x2 x3 x4 x5 x6
    rw [fX5_kind_39]
    refine r_iload C dX5_kind_39 6 rfl ?_
    refine r_iconst (v := 5) C dX5_kind_41 (by decide) ?_
    refine r_ic_gt (tgt := 103) C dX5_kind_42 (by decide) (fun c5 => ?_) (fun c5 => ?_)
    · refine r_aload_n C dX5_kind_103 0 0 rfl rfl ?_
      refine gf_X5_7 C dX5_kind_104 ?_
      refine r_iload_n C dX5_kind_107 1 1 rfl rfl ?_
      refine r_iconst (v := 0) C dX5_kind_108 (by decide) ?_
      refine r_callS (rest := [.ref (zA Z 0 0)]) (st2 := [.int (fX5_spotOf x1 0), .ref (zA Z 0 0)]) C (mX5_spotOf (eL E) C.z _ _ x1 0) lk_X5_58 (by decide) rfl rfl (Nat.le_of_ble_eq_true rfl) dX5_kind_109 rfl ?_
      refine r_iload_n C dX5_kind_112 3 3 rfl rfl ?_
      refine r_guard (fun h6 => ?_)
      refine ast_M (M' := (wM M 0 (ix (fX5_spotOf x1 0)) x3)) C mI_0 h6 rfl dX5_kind_113 ?_
      refine r_aload_n C dX5_kind_114 0 0 rfl rfl ?_
      refine r_iload C dX5_kind_115 5 rfl ?_
      refine r_iconst (v := 5) C dX5_kind_117 (by decide) ?_
      refine r_bind (fun a7 ha7 => ?_)
      refine r_callV (rest := []) (st2 := [.int a7.1]) C (mX5_orNone (eL E) C.z (wM M 0 (ix (fX5_spotOf x1 0)) x3) N x5 5 a7 ha7) lk_X5_181 (rvM C) (by decide) rfl rfl (Nat.le_of_ble_eq_true rfl) dX5_kind_118 rfl ?_
      exact r_iret C dX5_kind_121 rfl
    · refine r_aload_n C dX5_kind_45 0 0 rfl rfl ?_
      refine gf_X5_7 C dX5_kind_46 ?_
      refine r_iload_n C dX5_kind_49 1 1 rfl rfl ?_
      refine r_iconst (v := 0) C dX5_kind_50 (by decide) ?_
      refine r_callS (rest := [.ref (zA Z 0 0)]) (st2 := [.int (fX5_spotOf x1 0), .ref (zA Z 0 0)]) C (mX5_spotOf (eL E) C.z _ _ x1 0) lk_X5_58 (by decide) rfl rfl (Nat.le_of_ble_eq_true rfl) dX5_kind_51 rfl ?_
      refine r_iload C dX5_kind_54 6 rfl ?_
      refine r_guard (fun h8 => ?_)
      refine ast_M (M' := (wM M 0 (ix (fX5_spotOf x1 0)) x6)) C mI_0 h8 rfl dX5_kind_56 ?_
      refine r_aload_n C dX5_kind_57 0 0 rfl rfl ?_
      refine r_iload_n C dX5_kind_58 1 1 rfl rfl ?_
      refine r_iload_n C dX5_kind_59 2 2 rfl rfl ?_
      refine r_bind (fun a9 ha9 => ?_)
      refine r_callV (rest := []) (st2 := [.int a9.1]) C (mX5_whenOf (eL E) C.z (wM M 0 (ix (fX5_spotOf x1 0)) x6) N x1 x2 a9 ha9) lk_X5_178 (rvM C) (by decide) rfl rfl (Nat.le_of_ble_eq_true rfl) dX5_kind_60 rfl ?_
      refine r_istore (lv' := [(7, .int a9.1), (0, .ref (zA Z 6 0)), (1, .int x1), (2, .int x2), (3, .int x3), (4, .int x4), (5, .int x5), (6, .int x6)]) C dX5_kind_63 (by decide) rfl ?_
      refine r_iload C dX5_kind_65 0 rfl ?_
      refine r_iload C dX5_kind_67 5 rfl ?_
      refine r_sel (tj := 79) (sj := [.int (if x4 ≤ a9.1 then x5 else x6 : Int32)]) ?_ (fun k11 => ?_)
      · refine r_lv [1, 2, 3, 4, 5, 7, 0] (lv' := [(0, .ref (zA Z 6 0)), (1, .int x1), (2, .int x2), (3, .int x3), (4, .int x4), (6, .int x6), (7, .int a9.1)]) rfl ?_
        exact bX5_kind_79 C (fX5_kind_39 n) ih (a9.2) x1 x2 x3 x4 x6 a9.1 (if x4 ≤ a9.1 then x5 else x6 : Int32)
      · refine r_same (P := x4 ≤ a9.1) ?_
        refine r_ic_ge (tgt := 77) C dX5_kind_69 (by decide) (fun c10 => ?_) (fun c10 => ?_)
        · refine r_iload C dX5_kind_77 6 rfl ?_
          exact r_stk (if_pos c10) k11
        · refine r_iload C dX5_kind_72 7 rfl ?_
          refine r_goto (tgt := 79) C dX5_kind_74 (by decide) ?_
          exact r_stk (if_neg c10) k11
noncomputable def fX5_kind   (M : Mi) (x1 : Int32) (x2 : Int32) : Option (Int32 × Mi) := (if (fX5_isOne (M 0) x1) = 0 then (fX5_kind_15 M) else (if (fX5_isCell x2) = 0 then (fX5_kind_15 M) else (Option.bind (fX5_its (M 0) x1 0) (fun a4 => (fX5_kind_39 fu M x1 x2 a4 73 (-1) 0)))))
theorem bX5_kind {Z : Zt} {E : Ec} {N : Ml} (C : Ok 2 Z E cX5_kind 8 RX5 (some .int) 6)    (M : Mi) (x1 : Int32) (x2 : Int32)  : GT Z E 8 (finX5_kind N) 0 [(0, .ref (zA Z 6 0)), (1, .int x1), (2, .int x2)] [] M N (fX5_kind M x1 x2) := by
  unfold fX5_kind
  refine r_aload_n C dX5_kind_0 0 0 rfl rfl ?_
  refine r_iload_n C dX5_kind_1 1 1 rfl rfl ?_
  refine r_callV (rest := []) (st2 := [.int (fX5_isOne (M 0) x1)]) C (mX5_isOne (eL E) C.z M _ (M 0) x1).selfR lk_X5_54 (rvM C) (by decide) rfl rfl (Nat.le_of_ble_eq_true rfl) dX5_kind_2 rfl ?_
  refine r_if_eq (tgt := 15) C dX5_kind_5 (by decide) (fun c1 => ?_) (fun c1 => ?_)
  · refine r_lv [0] (lv' := [(0, .ref (zA Z 6 0))]) rfl ?_
    exact bX5_kind_15 C M
  · refine r_iload_n C dX5_kind_8 2 2 rfl rfl ?_
    refine r_callS (rest := []) (st2 := [.int (fX5_isCell x2)]) C (mX5_isCell (eL E) C.z _ _ x2) lk_X5_62 (by decide) rfl rfl (Nat.le_of_ble_eq_true rfl) dX5_kind_9 rfl ?_
    refine r_if_ne (tgt := 22) C dX5_kind_12 (by decide) (fun c3 => ?_) (fun c3 => ?_)
    · refine r_aload_n C dX5_kind_22 0 0 rfl rfl ?_
      refine r_iload_n C dX5_kind_23 1 1 rfl rfl ?_
      refine r_iconst (v := 0) C dX5_kind_24 (by decide) ?_
      refine r_bind (fun a4 ha4 => ?_)
      refine r_callV (rest := []) (st2 := [.int a4]) C (mX5_its (eL E) C.z M _ (M 0) x1 0 a4 ha4).selfR lk_X5_83 (rvM C) (by decide) rfl rfl (Nat.le_of_ble_eq_true rfl) dX5_kind_25 rfl ?_
      refine r_istore_n (lv' := [(3, .int a4), (0, .ref (zA Z 6 0)), (1, .int x1), (2, .int x2)]) C dX5_kind_28 3 rfl (by decide) rfl ?_
      refine r_bipush (v := 73) C dX5_kind_29 (by decide) ?_
      refine r_istore (lv' := [(4, .int 73), (3, .int a4), (0, .ref (zA Z 6 0)), (1, .int x1), (2, .int x2)]) C dX5_kind_31 (by decide) rfl ?_
      refine r_iconst (v := (-1)) C dX5_kind_33 (by decide) ?_
      refine r_istore (lv' := [(5, .int (-1)), (4, .int 73), (3, .int a4), (0, .ref (zA Z 6 0)), (1, .int x1), (2, .int x2)]) C dX5_kind_34 (by decide) rfl ?_
      refine r_iconst (v := 0) C dX5_kind_36 (by decide) ?_
      refine r_istore (lv' := [(6, .int 0), (5, .int (-1)), (4, .int 73), (3, .int a4), (0, .ref (zA Z 6 0)), (1, .int x1), (2, .int x2)]) C dX5_kind_37 (by decide) rfl ?_
      refine r_lv [4, 5, 6, 3, 2, 1, 0] (lv' := [(0, .ref (zA Z 6 0)), (1, .int x1), (2, .int x2), (3, .int a4), (4, .int 73), (5, .int (-1)), (6, .int 0)]) rfl ?_
      exact bX5_kind_39 C fu M x1 x2 a4 73 (-1) 0
    · refine r_lv [0] (lv' := [(0, .ref (zA Z 6 0))]) rfl ?_
      exact bX5_kind_15 C M
theorem mX5_kind (l : Launch) {Z : Zt} (hZ : Zok 2 Z) (M : Mi) (N : Ml) (x1 : Int32) (x2 : Int32) (b : Int32 × Mi) (hb : fX5_kind M x1 x2 = some b) : Ct 2 Z l yX5_kind cX5_kind 8 (some .int) 6 [.ref (zA Z 6 0), .int x1, .int x2] M N (some (Value.int b.1), b.2, N) :=
  metG (fin := (finX5_kind N)) (by decide) (Nat.le_of_ble_eq_true rfl) (fun E _ C => bX5_kind C M x1 x2) hb
theorem dX5_feed_0 : decode cX5_feed 0 = .ok (.iload_n 2, 1) := by decide +kernel
theorem dX5_feed_1 : decode cX5_feed 1 = .ok (.i2l, 1) := by decide +kernel
theorem dX5_feed_2 : decode cX5_feed 2 = .ok (.lconst 1, 1) := by decide +kernel
theorem dX5_feed_3 : decode cX5_feed 3 = .ok (.ldc2_w 212, 3) := by decide +kernel
theorem dX5_feed_6 : decode cX5_feed 6 = .ok (.invokestatic 44, 3) := by decide +kernel
theorem dX5_feed_9 : decode cX5_feed 9 = .ok (.ifCond .ne 10, 3) := by decide +kernel
theorem dX5_feed_12 : decode cX5_feed 12 = .ok (.aload_n 0, 1) := by decide +kernel
theorem dX5_feed_13 : decode cX5_feed 13 = .ok (.ldc 41, 2) := by decide +kernel
theorem dX5_feed_15 : decode cX5_feed 15 = .ok (.invokevirtual 65, 3) := by decide +kernel
theorem dX5_feed_18 : decode cX5_feed 18 = .ok (.ireturn, 1) := by decide +kernel
theorem dX5_feed_19 : decode cX5_feed 19 = .ok (.aload_n 0, 1) := by decide +kernel
theorem dX5_feed_20 : decode cX5_feed 20 = .ok (.getfield 214, 3) := by decide +kernel
theorem dX5_feed_23 : decode cX5_feed 23 = .ok (.iload_n 2, 1) := by decide +kernel
theorem dX5_feed_24 : decode cX5_feed 24 = .ok (.iadd, 1) := by decide +kernel
theorem dX5_feed_25 : decode cX5_feed 25 = .ok (.bipush 120, 2) := by decide +kernel
theorem dX5_feed_27 : decode cX5_feed 27 = .ok (.if_icmp .le 10, 3) := by decide +kernel
theorem dX5_feed_30 : decode cX5_feed 30 = .ok (.aload_n 0, 1) := by decide +kernel
theorem dX5_feed_31 : decode cX5_feed 31 = .ok (.ldc 114, 2) := by decide +kernel
theorem dX5_feed_33 : decode cX5_feed 33 = .ok (.invokevirtual 65, 3) := by decide +kernel
theorem dX5_feed_36 : decode cX5_feed 36 = .ok (.ireturn, 1) := by decide +kernel
theorem dX5_feed_37 : decode cX5_feed 37 = .ok (.iload_n 2, 1) := by decide +kernel
theorem dX5_feed_38 : decode cX5_feed 38 = .ok (.iconst 1, 1) := by decide +kernel
theorem dX5_feed_39 : decode cX5_feed 39 = .ok (.isub, 1) := by decide +kernel
theorem dX5_feed_40 : decode cX5_feed 40 = .ok (.istore_n 3, 1) := by decide +kernel
theorem dX5_feed_41 : decode cX5_feed 41 = .ok (.iload_n 3, 1) := by decide +kernel
theorem dX5_feed_42 : decode cX5_feed 42 = .ok (.ifCond .lt 38, 3) := by decide +kernel
theorem dX5_feed_45 : decode cX5_feed 45 = .ok (.aload_n 0, 1) := by decide +kernel
theorem dX5_feed_46 : decode cX5_feed 46 = .ok (.getfield 25, 3) := by decide +kernel
theorem dX5_feed_49 : decode cX5_feed 49 = .ok (.aload_n 0, 1) := by decide +kernel
theorem dX5_feed_50 : decode cX5_feed 50 = .ok (.getfield 214, 3) := by decide +kernel
theorem dX5_feed_53 : decode cX5_feed 53 = .ok (.iload_n 1, 1) := by decide +kernel
theorem dX5_feed_54 : decode cX5_feed 54 = .ok (.bipush 8, 2) := by decide +kernel
theorem dX5_feed_56 : decode cX5_feed 56 = .ok (.iload_n 3, 1) := by decide +kernel
theorem dX5_feed_57 : decode cX5_feed 57 = .ok (.imul, 1) := by decide +kernel
theorem dX5_feed_58 : decode cX5_feed 58 = .ok (.ishr, 1) := by decide +kernel
theorem dX5_feed_59 : decode cX5_feed 59 = .ok (.sipush 255, 3) := by decide +kernel
theorem dX5_feed_62 : decode cX5_feed 62 = .ok (.iand, 1) := by decide +kernel
theorem dX5_feed_63 : decode cX5_feed 63 = .ok (.iastore, 1) := by decide +kernel
theorem dX5_feed_64 : decode cX5_feed 64 = .ok (.aload_n 0, 1) := by decide +kernel
theorem dX5_feed_65 : decode cX5_feed 65 = .ok (.dup, 1) := by decide +kernel
theorem dX5_feed_66 : decode cX5_feed 66 = .ok (.getfield 214, 3) := by decide +kernel
theorem dX5_feed_69 : decode cX5_feed 69 = .ok (.iconst 1, 1) := by decide +kernel
theorem dX5_feed_70 : decode cX5_feed 70 = .ok (.iadd, 1) := by decide +kernel
theorem dX5_feed_71 : decode cX5_feed 71 = .ok (.putfield 214, 3) := by decide +kernel
theorem dX5_feed_74 : decode cX5_feed 74 = .ok (.iinc 3 (-1), 3) := by decide +kernel
theorem dX5_feed_77 : decode cX5_feed 77 = .ok (.goto (-36), 3) := by decide +kernel
theorem dX5_feed_80 : decode cX5_feed 80 = .ok (.aload_n 0, 1) := by decide +kernel
theorem dX5_feed_81 : decode cX5_feed 81 = .ok (.getfield 214, 3) := by decide +kernel
theorem dX5_feed_84 : decode cX5_feed 84 = .ok (.ireturn, 1) := by decide +kernel
def finX5_feed (N : Ml) : Int32 × Mi → Option Value × Mi × Ml := fun b => (some (Value.int b.1), b.2, N)
noncomputable def fX5_feed_41   : Nat → Mi → Int32 → Int32 → Option (Int32 × Mi)
  | 0 => fun _ _ _ => none
  | n + 1 => fun M x1 x3 => (if x3 < 0 then (some ((M 6 2), M)) else (if inb (M 6 2) 120 then ((fX5_feed_41 n) (wM (wM M 5 (ix (M 6 2)) ((x1 >>> ((8 * x3) &&& 31)) &&& 255)) 6 2 ((M 6 2) + 1)) x1 (x3 + (-1))) else none))
theorem bX5_feed_41 {Z : Zt} {E : Ec} {N : Ml} (C : Ok 2 Z E cX5_feed 4 RX5 (some .int) 1)    : ∀ (n : Nat) (M : Mi) (x1 : Int32) (x3 : Int32), GT Z E 4 (finX5_feed N) 41 [(0, .ref (zA Z 6 0)), (1, .int x1), (3, .int x3)] [] M N (fX5_feed_41 n M x1 x3) := by
  intro n
  induction n with
  | zero => intro M x1 x3; exact r_none
  | succ n ih =>
    intro M x1 x3
    rw [fX5_feed_41]
    refine r_iload_n C dX5_feed_41 3 2 rfl rfl ?_
    refine r_if_lt (tgt := 80) C dX5_feed_42 (by decide) (fun c3 => ?_) (fun c3 => ?_)
    · refine r_aload_n C dX5_feed_80 0 0 rfl rfl ?_
      refine gf_X5_214 (v := (M 6 2)) C dX5_feed_81 rfl ?_
      exact r_iret C dX5_feed_84 rfl
    · refine r_aload_n C dX5_feed_45 0 0 rfl rfl ?_
      refine gf_X5_25 C dX5_feed_46 ?_
      refine r_aload_n C dX5_feed_49 0 0 rfl rfl ?_
      refine gf_X5_214 (v := (M 6 2)) C dX5_feed_50 rfl ?_
      refine r_iload_n C dX5_feed_53 1 1 rfl rfl ?_
      refine r_bipush (v := 8) C dX5_feed_54 (by decide) ?_
      refine r_iload_n C dX5_feed_56 3 2 rfl rfl ?_
      refine r_imul C dX5_feed_57 ?_
      refine r_ishr C dX5_feed_58 ?_
      refine r_sipush (v := 255) C dX5_feed_59 (by decide) ?_
      refine r_iand C dX5_feed_62 ?_
      refine r_guard (fun h4 => ?_)
      refine ast_M (M' := (wM M 5 (ix (M 6 2)) ((x1 >>> ((8 * x3) &&& 31)) &&& 255))) C mI_5 h4 rfl dX5_feed_63 ?_
      refine r_aload_n C dX5_feed_64 0 0 rfl rfl ?_
      refine r_dup C dX5_feed_65 rfl ?_
      refine gf_X5_214 (v := (M 6 2)) C dX5_feed_66 rfl ?_
      refine r_iconst (v := 1) C dX5_feed_69 (by decide) ?_
      refine r_iadd C dX5_feed_70 ?_
      refine pf_X5_214 (M' := (wM (wM M 5 (ix (M 6 2)) ((x1 >>> ((8 * x3) &&& 31)) &&& 255)) 6 2 ((M 6 2) + 1))) C dX5_feed_71 rfl ?_
      refine r_iinc (v := (x3 + (-1))) (lv' := [(3, .int (x3 + (-1))), (0, .ref (zA Z 6 0)), (1, .int x1)]) C dX5_feed_74 2 rfl rfl (by decide) rfl ?_
      refine r_goto (tgt := 41) C dX5_feed_77 (by decide) ?_
      refine r_lv [1, 2, 0] (lv' := [(0, .ref (zA Z 6 0)), (1, .int x1), (3, .int (x3 + (-1)))]) rfl ?_
      exact ih (wM (wM M 5 (ix (M 6 2)) ((x1 >>> ((8 * x3) &&& 31)) &&& 255)) 6 2 ((M 6 2) + 1)) x1 (x3 + (-1))
noncomputable def fX5_feed   (M : Mi) (x1 : Int32) (x2 : Int32) : Option (Int32 × Mi) := (if (fX5_in (Int32.toInt64 x2) 1 4) = 0 then (Option.bind (fX5_finds M (-1000000001)) (fun a6 => (some (a6.1, (a6.2))))) else (if ((M 6 2) + x2) ≤ 120 then (fX5_feed_41 fu M x1 (x2 - 1)) else (Option.bind (fX5_finds M (-1000000002)) (fun a5 => (some (a5.1, (a5.2)))))))
theorem bX5_feed {Z : Zt} {E : Ec} {N : Ml} (C : Ok 2 Z E cX5_feed 4 RX5 (some .int) 1)    (M : Mi) (x1 : Int32) (x2 : Int32)  : GT Z E 4 (finX5_feed N) 0 [(0, .ref (zA Z 6 0)), (1, .int x1), (2, .int x2)] [] M N (fX5_feed M x1 x2) := by
  unfold fX5_feed
  refine r_iload_n C dX5_feed_0 2 2 rfl rfl ?_
  refine r_i2l C dX5_feed_1 ?_
  refine r_lconst (v := 1) C dX5_feed_2 (by decide) ?_
  refine r_ldc2 (v := 4) C dX5_feed_3 wd_1135 ?_
  refine r_callS (rest := []) (st2 := [.int (fX5_in (Int32.toInt64 x2) 1 4)]) C (mX5_in (eL E) C.z _ _ (Int32.toInt64 x2) 1 4) lk_X5_44 (by decide) rfl rfl (Nat.le_of_ble_eq_true rfl) dX5_feed_6 rfl ?_
  refine r_if_ne (tgt := 19) C dX5_feed_9 (by decide) (fun c1 => ?_) (fun c1 => ?_)
  · refine r_aload_n C dX5_feed_19 0 0 rfl rfl ?_
    refine gf_X5_214 (v := (M 6 2)) C dX5_feed_20 rfl ?_
    refine r_iload_n C dX5_feed_23 2 2 rfl rfl ?_
    refine r_iadd C dX5_feed_24 ?_
    refine r_bipush (v := 120) C dX5_feed_25 (by decide) ?_
    refine r_ic_le (tgt := 37) C dX5_feed_27 (by decide) (fun c2 => ?_) (fun c2 => ?_)
    · refine r_iload_n C dX5_feed_37 2 2 rfl rfl ?_
      refine r_iconst (v := 1) C dX5_feed_38 (by decide) ?_
      refine r_isub C dX5_feed_39 ?_
      refine r_istore_n (lv' := [(3, .int (x2 - 1)), (0, .ref (zA Z 6 0)), (1, .int x1), (2, .int x2)]) C dX5_feed_40 3 rfl (by decide) rfl ?_
      refine r_lv [1, 2, 0] (lv' := [(0, .ref (zA Z 6 0)), (1, .int x1), (3, .int (x2 - 1))]) rfl ?_
      exact bX5_feed_41 C fu M x1 (x2 - 1)
    · refine r_aload_n C dX5_feed_30 0 0 rfl rfl ?_
      refine r_ldc (v := (-1000000002)) C dX5_feed_31 wd_917 ?_
      refine r_bind (fun a5 ha5 => ?_)
      refine r_callV (rest := []) (st2 := [.int a5.1]) C (mX5_finds (eL E) C.z M N (-1000000002) a5 ha5) lk_X5_65 (rvM C) (by decide) rfl rfl (Nat.le_of_ble_eq_true rfl) dX5_feed_33 rfl ?_
      exact r_iret C dX5_feed_36 rfl
  · refine r_aload_n C dX5_feed_12 0 0 rfl rfl ?_
    refine r_ldc (v := (-1000000001)) C dX5_feed_13 wd_859 ?_
    refine r_bind (fun a6 ha6 => ?_)
    refine r_callV (rest := []) (st2 := [.int a6.1]) C (mX5_finds (eL E) C.z M N (-1000000001) a6 ha6) lk_X5_65 (rvM C) (by decide) rfl rfl (Nat.le_of_ble_eq_true rfl) dX5_feed_15 rfl ?_
    exact r_iret C dX5_feed_18 rfl
theorem mX5_feed (l : Launch) {Z : Zt} (hZ : Zok 2 Z) (M : Mi) (N : Ml) (x1 : Int32) (x2 : Int32) (b : Int32 × Mi) (hb : fX5_feed M x1 x2 = some b) : Ct 2 Z l yX5_feed cX5_feed 4 (some .int) 1 [.ref (zA Z 6 0), .int x1, .int x2] M N (some (Value.int b.1), b.2, N) :=
  metG (fin := (finX5_feed N)) (by decide) (Nat.le_of_ble_eq_true rfl) (fun E _ C => bX5_feed C M x1 x2) hb
theorem dX5_wipe_0 : decode cX5_wipe 0 = .ok (.aload_n 0, 1) := by decide +kernel
theorem dX5_wipe_1 : decode cX5_wipe 1 = .ok (.getfield 214, 3) := by decide +kernel
theorem dX5_wipe_4 : decode cX5_wipe 4 = .ok (.istore_n 1, 1) := by decide +kernel
theorem dX5_wipe_5 : decode cX5_wipe 5 = .ok (.aload_n 0, 1) := by decide +kernel
theorem dX5_wipe_6 : decode cX5_wipe 6 = .ok (.iconst 0, 1) := by decide +kernel
theorem dX5_wipe_7 : decode cX5_wipe 7 = .ok (.putfield 214, 3) := by decide +kernel
theorem dX5_wipe_10 : decode cX5_wipe 10 = .ok (.iload_n 1, 1) := by decide +kernel
theorem dX5_wipe_11 : decode cX5_wipe 11 = .ok (.ireturn, 1) := by decide +kernel
def finX5_wipe (N : Ml) : Int32 × Mi → Option Value × Mi × Ml := fun b => (some (Value.int b.1), b.2, N)
noncomputable def fX5_wipe   (M : Mi) : Option (Int32 × Mi) := (some ((M 6 2), (wM M 6 2 0)))
theorem bX5_wipe {Z : Zt} {E : Ec} {N : Ml} (C : Ok 2 Z E cX5_wipe 2 RX5 (some .int) 0)    (M : Mi)  : GT Z E 2 (finX5_wipe N) 0 [(0, .ref (zA Z 6 0))] [] M N (fX5_wipe M) := by
  unfold fX5_wipe
  refine r_aload_n C dX5_wipe_0 0 0 rfl rfl ?_
  refine gf_X5_214 (v := (M 6 2)) C dX5_wipe_1 rfl ?_
  refine r_istore_n (lv' := [(1, .int (M 6 2)), (0, .ref (zA Z 6 0))]) C dX5_wipe_4 1 rfl (by decide) rfl ?_
  refine r_aload_n C dX5_wipe_5 0 1 rfl rfl ?_
  refine r_iconst (v := 0) C dX5_wipe_6 (by decide) ?_
  refine pf_X5_214 (M' := (wM M 6 2 0)) C dX5_wipe_7 rfl ?_
  refine r_iload_n C dX5_wipe_10 1 0 rfl rfl ?_
  exact r_iret C dX5_wipe_11 rfl
theorem mX5_wipe (l : Launch) {Z : Zt} (hZ : Zok 2 Z) (M : Mi) (N : Ml) (b : Int32 × Mi) (hb : fX5_wipe M = some b) : Ct 2 Z l yX5_wipe cX5_wipe 2 (some .int) 0 [.ref (zA Z 6 0)] M N (some (Value.int b.1), b.2, N) :=
  metG (fin := (finX5_wipe N)) (by decide) (Nat.le_of_ble_eq_true rfl) (fun E _ C => bX5_wipe C M) hb
theorem dX5_byteAt_0 : decode cX5_byteAt 0 = .ok (.iload_n 1, 1) := by decide +kernel
theorem dX5_byteAt_1 : decode cX5_byteAt 1 = .ok (.aload_n 0, 1) := by decide +kernel
theorem dX5_byteAt_2 : decode cX5_byteAt 2 = .ok (.getfield 214, 3) := by decide +kernel
theorem dX5_byteAt_5 : decode cX5_byteAt 5 = .ok (.if_icmp .ge 12, 3) := by decide +kernel
theorem dX5_byteAt_8 : decode cX5_byteAt 8 = .ok (.aload_n 0, 1) := by decide +kernel
theorem dX5_byteAt_9 : decode cX5_byteAt 9 = .ok (.getfield 25, 3) := by decide +kernel
theorem dX5_byteAt_12 : decode cX5_byteAt 12 = .ok (.iload_n 1, 1) := by decide +kernel
theorem dX5_byteAt_13 : decode cX5_byteAt 13 = .ok (.iaload, 1) := by decide +kernel
theorem dX5_byteAt_14 : decode cX5_byteAt 14 = .ok (.goto 4, 3) := by decide +kernel
theorem dX5_byteAt_17 : decode cX5_byteAt 17 = .ok (.iconst (-1), 1) := by decide +kernel
theorem dX5_byteAt_18 : decode cX5_byteAt 18 = .ok (.ireturn, 1) := by decide +kernel
def finX5_byteAt (M : Mi) (N : Ml) : Int32 → Option Value × Mi × Ml := fun b => (some (Value.int b), M, N)
noncomputable def fX5_byteAt (M : Mi)  (x1 : Int32) : Option (Int32) := (if (M 6 2) ≤ x1 then (some (-1)) else (if inb x1 120 then (some (M 5 (ix x1))) else none))
theorem bX5_byteAt {Z : Zt} {E : Ec} {M : Mi} {N : Ml} (C : Ok 2 Z E cX5_byteAt 2 RX5 (some .int) 0)    (x1 : Int32)  : GT Z E 2 (finX5_byteAt M N) 0 [(0, .ref (zA Z 6 0)), (1, .int x1)] [] M N (fX5_byteAt M x1) := by
  unfold fX5_byteAt
  refine r_iload_n C dX5_byteAt_0 1 1 rfl rfl ?_
  refine r_aload_n C dX5_byteAt_1 0 0 rfl rfl ?_
  refine gf_X5_214 (v := (M 6 2)) C dX5_byteAt_2 rfl ?_
  refine r_ic_ge (tgt := 17) C dX5_byteAt_5 (by decide) (fun c1 => ?_) (fun c1 => ?_)
  · refine r_iconst (v := (-1)) C dX5_byteAt_17 (by decide) ?_
    exact r_iret C dX5_byteAt_18 rfl
  · refine r_aload_n C dX5_byteAt_8 0 0 rfl rfl ?_
    refine gf_X5_25 C dX5_byteAt_9 ?_
    refine r_iload_n C dX5_byteAt_12 1 1 rfl rfl ?_
    refine r_guard (fun h2 => ?_)
    refine ald_M (v := (M 5 (ix x1))) C mI_5 h2 rfl dX5_byteAt_13 ?_
    refine r_goto (tgt := 18) C dX5_byteAt_14 (by decide) ?_
    exact r_iret C dX5_byteAt_18 rfl
theorem mX5_byteAt (l : Launch) {Z : Zt} (hZ : Zok 2 Z) (M : Mi) (N : Ml) (x1 : Int32) (b : Int32) (hb : fX5_byteAt M x1 = some b) : Ct 2 Z l yX5_byteAt cX5_byteAt 2 (some .int) 0 [.ref (zA Z 6 0), .int x1] M N (some (Value.int b), M, N) :=
  metG (fin := (finX5_byteAt M N)) (by decide) (Nat.le_of_ble_eq_true rfl) (fun E _ C => bX5_byteAt C x1) hb
theorem dX5_isLetter_0 : decode cX5_isLetter 0 = .ok (.iload_n 0, 1) := by decide +kernel
theorem dX5_isLetter_1 : decode cX5_isLetter 1 = .ok (.i2l, 1) := by decide +kernel
theorem dX5_isLetter_2 : decode cX5_isLetter 2 = .ok (.ldc2_w 217, 3) := by decide +kernel
theorem dX5_isLetter_5 : decode cX5_isLetter 5 = .ok (.ldc2_w 219, 3) := by decide +kernel
theorem dX5_isLetter_8 : decode cX5_isLetter 8 = .ok (.invokestatic 44, 3) := by decide +kernel
theorem dX5_isLetter_11 : decode cX5_isLetter 11 = .ok (.ireturn, 1) := by decide +kernel
def finX5_isLetter (M : Mi) (N : Ml) : Int32 → Option Value × Mi × Ml := fun b => (some (Value.int b), M, N)
noncomputable def fX5_isLetter   (x0 : Int32) : Int32 := (fX5_in (Int32.toInt64 x0) 97 122)
theorem bX5_isLetter {Z : Zt} {E : Ec} {M : Mi} {N : Ml} (C : Ok 2 Z E cX5_isLetter 1 RX5 (some .boolean) 1)    (x0 : Int32)  : GT Z E 1 (finX5_isLetter M N) 0 [(0, .int x0)] [] M N (some (fX5_isLetter x0)) := by
  unfold fX5_isLetter
  refine r_iload_n C dX5_isLetter_0 0 0 rfl rfl ?_
  refine r_i2l C dX5_isLetter_1 ?_
  refine r_ldc2 (v := 97) C dX5_isLetter_2 wd_1159 ?_
  refine r_ldc2 (v := 122) C dX5_isLetter_5 wd_1160 ?_
  refine r_callS (rest := []) (st2 := [.int (fX5_in (Int32.toInt64 x0) 97 122)]) C (mX5_in (eL E) C.z _ _ (Int32.toInt64 x0) 97 122) lk_X5_44 (by decide) rfl rfl (Nat.le_of_ble_eq_true rfl) dX5_isLetter_8 rfl ?_
  exact r_zret C dX5_isLetter_11 (zbX5_in  (Int32.toInt64 x0) 97 122) rfl
theorem zbX5_isLetter (x0 : Int32) : fX5_isLetter x0 = 0 ∨ fX5_isLetter x0 = 1 := by
  unfold fX5_isLetter; (repeat' split) <;> first | exact Or.inl rfl | exact Or.inr rfl | exact zbX5_in _ _ _
theorem mX5_isLetter (l : Launch) {Z : Zt} (hZ : Zok 2 Z) (M : Mi) (N : Ml) (x0 : Int32) : Ct 2 Z l yX5_isLetter cX5_isLetter 1 (some .boolean) 1 [.int x0] M N (some (Value.int (fX5_isLetter x0)), M, N) :=
  metG (fin := (finX5_isLetter M N)) (by decide) (Nat.le_of_ble_eq_true rfl) (fun E _ C => bX5_isLetter C x0) rfl
theorem dX5_isDigit_0 : decode cX5_isDigit 0 = .ok (.iload_n 0, 1) := by decide +kernel
theorem dX5_isDigit_1 : decode cX5_isDigit 1 = .ok (.i2l, 1) := by decide +kernel
theorem dX5_isDigit_2 : decode cX5_isDigit 2 = .ok (.ldc2_w 207, 3) := by decide +kernel
theorem dX5_isDigit_5 : decode cX5_isDigit 5 = .ok (.ldc2_w 221, 3) := by decide +kernel
theorem dX5_isDigit_8 : decode cX5_isDigit 8 = .ok (.invokestatic 44, 3) := by decide +kernel
theorem dX5_isDigit_11 : decode cX5_isDigit 11 = .ok (.ireturn, 1) := by decide +kernel
def finX5_isDigit (M : Mi) (N : Ml) : Int32 → Option Value × Mi × Ml := fun b => (some (Value.int b), M, N)
noncomputable def fX5_isDigit   (x0 : Int32) : Int32 := (fX5_in (Int32.toInt64 x0) 48 57)
theorem bX5_isDigit {Z : Zt} {E : Ec} {M : Mi} {N : Ml} (C : Ok 2 Z E cX5_isDigit 1 RX5 (some .boolean) 1)    (x0 : Int32)  : GT Z E 1 (finX5_isDigit M N) 0 [(0, .int x0)] [] M N (some (fX5_isDigit x0)) := by
  unfold fX5_isDigit
  refine r_iload_n C dX5_isDigit_0 0 0 rfl rfl ?_
  refine r_i2l C dX5_isDigit_1 ?_
  refine r_ldc2 (v := 48) C dX5_isDigit_2 wd_1107 ?_
  refine r_ldc2 (v := 57) C dX5_isDigit_5 wd_1164 ?_
  refine r_callS (rest := []) (st2 := [.int (fX5_in (Int32.toInt64 x0) 48 57)]) C (mX5_in (eL E) C.z _ _ (Int32.toInt64 x0) 48 57) lk_X5_44 (by decide) rfl rfl (Nat.le_of_ble_eq_true rfl) dX5_isDigit_8 rfl ?_
  exact r_zret C dX5_isDigit_11 (zbX5_in  (Int32.toInt64 x0) 48 57) rfl
theorem zbX5_isDigit (x0 : Int32) : fX5_isDigit x0 = 0 ∨ fX5_isDigit x0 = 1 := by
  unfold fX5_isDigit; (repeat' split) <;> first | exact Or.inl rfl | exact Or.inr rfl | exact zbX5_in _ _ _
theorem mX5_isDigit (l : Launch) {Z : Zt} (hZ : Zok 2 Z) (M : Mi) (N : Ml) (x0 : Int32) : Ct 2 Z l yX5_isDigit cX5_isDigit 1 (some .boolean) 1 [.int x0] M N (some (Value.int (fX5_isDigit x0)), M, N) :=
  metG (fin := (finX5_isDigit M N)) (by decide) (Nat.le_of_ble_eq_true rfl) (fun E _ C => bX5_isDigit C x0) rfl
theorem dX5_token_0 : decode cX5_token 0 = .ok (.aload_n 0, 1) := by decide +kernel
theorem dX5_token_1 : decode cX5_token 1 = .ok (.aload_n 0, 1) := by decide +kernel
theorem dX5_token_2 : decode cX5_token 2 = .ok (.getfield 223, 3) := by decide +kernel
theorem dX5_token_5 : decode cX5_token 5 = .ok (.putfield 226, 3) := by decide +kernel
theorem dX5_token_8 : decode cX5_token 8 = .ok (.aload_n 0, 1) := by decide +kernel
theorem dX5_token_9 : decode cX5_token 9 = .ok (.aload_n 0, 1) := by decide +kernel
theorem dX5_token_10 : decode cX5_token 10 = .ok (.getfield 226, 3) := by decide +kernel
theorem dX5_token_13 : decode cX5_token 13 = .ok (.invokevirtual 229, 3) := by decide +kernel
theorem dX5_token_16 : decode cX5_token 16 = .ok (.bipush 32, 2) := by decide +kernel
theorem dX5_token_18 : decode cX5_token 18 = .ok (.if_icmp .ne 16, 3) := by decide +kernel
theorem dX5_token_21 : decode cX5_token 21 = .ok (.aload_n 0, 1) := by decide +kernel
theorem dX5_token_22 : decode cX5_token 22 = .ok (.dup, 1) := by decide +kernel
theorem dX5_token_23 : decode cX5_token 23 = .ok (.getfield 226, 3) := by decide +kernel
theorem dX5_token_26 : decode cX5_token 26 = .ok (.iconst 1, 1) := by decide +kernel
theorem dX5_token_27 : decode cX5_token 27 = .ok (.iadd, 1) := by decide +kernel
theorem dX5_token_28 : decode cX5_token 28 = .ok (.putfield 226, 3) := by decide +kernel
theorem dX5_token_31 : decode cX5_token 31 = .ok (.goto (-23), 3) := by decide +kernel
theorem dX5_token_34 : decode cX5_token 34 = .ok (.aload_n 0, 1) := by decide +kernel
theorem dX5_token_35 : decode cX5_token 35 = .ok (.aload_n 0, 1) := by decide +kernel
theorem dX5_token_36 : decode cX5_token 36 = .ok (.getfield 226, 3) := by decide +kernel
theorem dX5_token_39 : decode cX5_token 39 = .ok (.invokevirtual 229, 3) := by decide +kernel
theorem dX5_token_42 : decode cX5_token 42 = .ok (.invokestatic 232, 3) := by decide +kernel
theorem dX5_token_45 : decode cX5_token 45 = .ok (.istore_n 1, 1) := by decide +kernel
theorem dX5_token_46 : decode cX5_token 46 = .ok (.aload_n 0, 1) := by decide +kernel
theorem dX5_token_47 : decode cX5_token 47 = .ok (.aload_n 0, 1) := by decide +kernel
theorem dX5_token_48 : decode cX5_token 48 = .ok (.getfield 226, 3) := by decide +kernel
theorem dX5_token_51 : decode cX5_token 51 = .ok (.invokevirtual 229, 3) := by decide +kernel
theorem dX5_token_54 : decode cX5_token 54 = .ok (.invokestatic 235, 3) := by decide +kernel
theorem dX5_token_57 : decode cX5_token 57 = .ok (.istore_n 2, 1) := by decide +kernel
theorem dX5_token_58 : decode cX5_token 58 = .ok (.aload_n 0, 1) := by decide +kernel
theorem dX5_token_59 : decode cX5_token 59 = .ok (.aload_n 0, 1) := by decide +kernel
theorem dX5_token_60 : decode cX5_token 60 = .ok (.getfield 226, 3) := by decide +kernel
theorem dX5_token_63 : decode cX5_token 63 = .ok (.aload_n 0, 1) := by decide +kernel
theorem dX5_token_64 : decode cX5_token 64 = .ok (.getfield 214, 3) := by decide +kernel
theorem dX5_token_67 : decode cX5_token 67 = .ok (.if_icmp .ge 12, 3) := by decide +kernel
theorem dX5_token_70 : decode cX5_token 70 = .ok (.aload_n 0, 1) := by decide +kernel
theorem dX5_token_71 : decode cX5_token 71 = .ok (.getfield 226, 3) := by decide +kernel
theorem dX5_token_74 : decode cX5_token 74 = .ok (.iconst 1, 1) := by decide +kernel
theorem dX5_token_75 : decode cX5_token 75 = .ok (.iadd, 1) := by decide +kernel
theorem dX5_token_76 : decode cX5_token 76 = .ok (.goto 7, 3) := by decide +kernel
theorem dX5_token_79 : decode cX5_token 79 = .ok (.aload_n 0, 1) := by decide +kernel
theorem dX5_token_80 : decode cX5_token 80 = .ok (.getfield 226, 3) := by decide +kernel
theorem dX5_token_83 : decode cX5_token 83 = .ok (.putfield 223, 3) := by decide +kernel
theorem dX5_token_86 : decode cX5_token 86 = .ok (.iload_n 1, 1) := by decide +kernel
theorem dX5_token_87 : decode cX5_token 87 = .ok (.ifCond .eq 17, 3) := by decide +kernel
theorem dX5_token_90 : decode cX5_token 90 = .ok (.aload_n 0, 1) := by decide +kernel
theorem dX5_token_91 : decode cX5_token 91 = .ok (.aload_n 0, 1) := by decide +kernel
theorem dX5_token_92 : decode cX5_token 92 = .ok (.getfield 223, 3) := by decide +kernel
theorem dX5_token_95 : decode cX5_token 95 = .ok (.invokevirtual 229, 3) := by decide +kernel
theorem dX5_token_98 : decode cX5_token 98 = .ok (.invokestatic 232, 3) := by decide +kernel
theorem dX5_token_101 : decode cX5_token 101 = .ok (.ifCond .ne 21, 3) := by decide +kernel
theorem dX5_token_104 : decode cX5_token 104 = .ok (.iload_n 2, 1) := by decide +kernel
theorem dX5_token_105 : decode cX5_token 105 = .ok (.ifCond .eq 30, 3) := by decide +kernel
theorem dX5_token_108 : decode cX5_token 108 = .ok (.aload_n 0, 1) := by decide +kernel
theorem dX5_token_109 : decode cX5_token 109 = .ok (.aload_n 0, 1) := by decide +kernel
theorem dX5_token_110 : decode cX5_token 110 = .ok (.getfield 223, 3) := by decide +kernel
theorem dX5_token_113 : decode cX5_token 113 = .ok (.invokevirtual 229, 3) := by decide +kernel
theorem dX5_token_116 : decode cX5_token 116 = .ok (.invokestatic 235, 3) := by decide +kernel
theorem dX5_token_119 : decode cX5_token 119 = .ok (.ifCond .eq 16, 3) := by decide +kernel
theorem dX5_token_122 : decode cX5_token 122 = .ok (.aload_n 0, 1) := by decide +kernel
theorem dX5_token_123 : decode cX5_token 123 = .ok (.dup, 1) := by decide +kernel
theorem dX5_token_124 : decode cX5_token 124 = .ok (.getfield 223, 3) := by decide +kernel
theorem dX5_token_127 : decode cX5_token 127 = .ok (.iconst 1, 1) := by decide +kernel
theorem dX5_token_128 : decode cX5_token 128 = .ok (.iadd, 1) := by decide +kernel
theorem dX5_token_129 : decode cX5_token 129 = .ok (.putfield 223, 3) := by decide +kernel
theorem dX5_token_132 : decode cX5_token 132 = .ok (.goto (-46), 3) := by decide +kernel
theorem dX5_token_135 : decode cX5_token 135 = .ok (.return_, 1) := by decide +kernel
def finX5_token (N : Ml) : Mi → Option Value × Mi × Ml := fun b => (none, b, N)
noncomputable def fX5_token_122  (r86 : Mi → Int32 → Int32 → Option (Mi)) (M : Mi) (x1 : Int32) (x2 : Int32) : Option (Mi) := (r86 (wM M 6 4 ((M 6 4) + 1)) x1 x2)
theorem bX5_token_122 {Z : Zt} {E : Ec} {N : Ml} (C : Ok 2 Z E cX5_token 3 RX5 none 2)  (r86 : Mi → Int32 → Int32 → Option (Mi)) (hr86 : ∀ (M : Mi) (x1 : Int32) (x2 : Int32), GT Z E 3 (finX5_token N) 86 [(0, .ref (zA Z 6 0)), (1, .int x1), (2, .int x2)] [] M N (r86 M x1 x2)) (M : Mi) (x1 : Int32) (x2 : Int32)  : GT Z E 3 (finX5_token N) 122 [(0, .ref (zA Z 6 0)), (1, .int x1), (2, .int x2)] [] M N (fX5_token_122 r86 M x1 x2) := by
  unfold fX5_token_122
  refine r_aload_n C dX5_token_122 0 0 rfl rfl ?_
  refine r_dup C dX5_token_123 rfl ?_
  refine gf_X5_223 (v := (M 6 4)) C dX5_token_124 rfl ?_
  refine r_iconst (v := 1) C dX5_token_127 (by decide) ?_
  refine r_iadd C dX5_token_128 ?_
  refine pf_X5_223 (M' := (wM M 6 4 ((M 6 4) + 1))) C dX5_token_129 rfl ?_
  refine r_goto (tgt := 86) C dX5_token_132 (by decide) ?_
  exact hr86 (wM M 6 4 ((M 6 4) + 1)) x1 x2
noncomputable def fX5_token_104  (r86 : Mi → Int32 → Int32 → Option (Mi)) (M : Mi) (x1 : Int32) (x2 : Int32) : Option (Mi) := (if x2 = 0 then (some M) else (Option.bind (fX5_byteAt M (M 6 4)) (fun a8 => (if (fX5_isDigit a8) = 0 then (some M) else (fX5_token_122 r86 M x1 x2)))))
theorem bX5_token_104 {Z : Zt} {E : Ec} {N : Ml} (C : Ok 2 Z E cX5_token 3 RX5 none 2)  (r86 : Mi → Int32 → Int32 → Option (Mi)) (hr86 : ∀ (M : Mi) (x1 : Int32) (x2 : Int32), GT Z E 3 (finX5_token N) 86 [(0, .ref (zA Z 6 0)), (1, .int x1), (2, .int x2)] [] M N (r86 M x1 x2)) (M : Mi) (x1 : Int32) (x2 : Int32)  : GT Z E 3 (finX5_token N) 104 [(0, .ref (zA Z 6 0)), (1, .int x1), (2, .int x2)] [] M N (fX5_token_104 r86 M x1 x2) := by
  unfold fX5_token_104
  refine r_iload_n C dX5_token_104 2 2 rfl rfl ?_
  refine r_if_eq (tgt := 135) C dX5_token_105 (by decide) (fun c7 => ?_) (fun c7 => ?_)
  · exact r_vret C dX5_token_135 rfl
  · refine r_aload_n C dX5_token_108 0 0 rfl rfl ?_
    refine r_aload_n C dX5_token_109 0 0 rfl rfl ?_
    refine gf_X5_223 (v := (M 6 4)) C dX5_token_110 rfl ?_
    refine r_bind (fun a8 ha8 => ?_)
    refine r_callV (rest := []) (st2 := [.int a8]) C (mX5_byteAt (eL E) C.z M N (M 6 4) a8 ha8) lk_X5_229 (rvM C) (by decide) rfl rfl (Nat.le_of_ble_eq_true rfl) dX5_token_113 rfl ?_
    refine r_callS (rest := []) (st2 := [.int (fX5_isDigit a8)]) C (mX5_isDigit (eL E) C.z _ _ a8) lk_X5_235 (by decide) rfl rfl (Nat.le_of_ble_eq_true rfl) dX5_token_116 rfl ?_
    refine r_if_eq (tgt := 135) C dX5_token_119 (by decide) (fun c9 => ?_) (fun c9 => ?_)
    · exact r_vret C dX5_token_135 rfl
    · exact bX5_token_122 C r86 hr86 M x1 x2
noncomputable def fX5_token_86   : Nat → Mi → Int32 → Int32 → Option (Mi)
  | 0 => fun _ _ _ => none
  | n + 1 => fun M x1 x2 => (if x1 = 0 then (fX5_token_104 (fX5_token_86 n) M x1 x2) else (Option.bind (fX5_byteAt M (M 6 4)) (fun a10 => (if (fX5_isLetter a10) = 0 then (fX5_token_104 (fX5_token_86 n) M x1 x2) else (fX5_token_122 (fX5_token_86 n) M x1 x2)))))
theorem bX5_token_86 {Z : Zt} {E : Ec} {N : Ml} (C : Ok 2 Z E cX5_token 3 RX5 none 2)    : ∀ (n : Nat) (M : Mi) (x1 : Int32) (x2 : Int32), GT Z E 3 (finX5_token N) 86 [(0, .ref (zA Z 6 0)), (1, .int x1), (2, .int x2)] [] M N (fX5_token_86 n M x1 x2) := by
  intro n
  induction n with
  | zero => intro M x1 x2; exact r_none
  | succ n ih =>
    intro M x1 x2
    rw [fX5_token_86]
    refine r_iload_n C dX5_token_86 1 1 rfl rfl ?_
    refine r_if_eq (tgt := 104) C dX5_token_87 (by decide) (fun c6 => ?_) (fun c6 => ?_)
    · exact bX5_token_104 C (fX5_token_86 n) ih M x1 x2
    · refine r_aload_n C dX5_token_90 0 0 rfl rfl ?_
      refine r_aload_n C dX5_token_91 0 0 rfl rfl ?_
      refine gf_X5_223 (v := (M 6 4)) C dX5_token_92 rfl ?_
      refine r_bind (fun a10 ha10 => ?_)
      refine r_callV (rest := []) (st2 := [.int a10]) C (mX5_byteAt (eL E) C.z M N (M 6 4) a10 ha10) lk_X5_229 (rvM C) (by decide) rfl rfl (Nat.le_of_ble_eq_true rfl) dX5_token_95 rfl ?_
      refine r_callS (rest := []) (st2 := [.int (fX5_isLetter a10)]) C (mX5_isLetter (eL E) C.z _ _ a10) lk_X5_232 (by decide) rfl rfl (Nat.le_of_ble_eq_true rfl) dX5_token_98 rfl ?_
      refine r_if_ne (tgt := 122) C dX5_token_101 (by decide) (fun c11 => ?_) (fun c11 => ?_)
      · exact bX5_token_122 C (fX5_token_86 n) ih M x1 x2
      · exact bX5_token_104 C (fX5_token_86 n) ih M x1 x2
noncomputable def fX5_token_8   : Nat → Mi → Option (Mi)
  | 0 => fun _ => none
  | n + 1 => fun M => (Option.bind (fX5_byteAt M (M 6 3)) (fun a1 => (if a1 = 32 then ((fX5_token_8 n) (wM M 6 3 ((M 6 3) + 1))) else (Option.bind (fX5_byteAt M (M 6 3)) (fun a3 => (Option.bind (fX5_byteAt M (M 6 3)) (fun a4 => (if (M 6 2) ≤ (M 6 3) then (fX5_token_86 fu (wM M 6 4 (M 6 3)) (fX5_isLetter a3) (fX5_isDigit a4)) else (fX5_token_86 fu (wM M 6 4 ((M 6 3) + 1)) (fX5_isLetter a3) (fX5_isDigit a4))))))))))
theorem bX5_token_8 {Z : Zt} {E : Ec} {N : Ml} (C : Ok 2 Z E cX5_token 3 RX5 none 2)    : ∀ (n : Nat) (M : Mi), GT Z E 3 (finX5_token N) 8 [(0, .ref (zA Z 6 0))] [] M N (fX5_token_8 n M) := by
  intro n
  induction n with
  | zero => intro M; exact r_none
  | succ n ih =>
    intro M
    rw [fX5_token_8]
    refine r_aload_n C dX5_token_8 0 0 rfl rfl ?_
    refine r_aload_n C dX5_token_9 0 0 rfl rfl ?_
    refine gf_X5_226 (v := (M 6 3)) C dX5_token_10 rfl ?_
    refine r_bind (fun a1 ha1 => ?_)
    refine r_callV (rest := []) (st2 := [.int a1]) C (mX5_byteAt (eL E) C.z M N (M 6 3) a1 ha1) lk_X5_229 (rvM C) (by decide) rfl rfl (Nat.le_of_ble_eq_true rfl) dX5_token_13 rfl ?_
    refine r_bipush (v := 32) C dX5_token_16 (by decide) ?_
    refine r_ic_ne (tgt := 34) C dX5_token_18 (by decide) (fun c2 => ?_) (fun c2 => ?_)
    · refine r_aload_n C dX5_token_34 0 0 rfl rfl ?_
      refine r_aload_n C dX5_token_35 0 0 rfl rfl ?_
      refine gf_X5_226 (v := (M 6 3)) C dX5_token_36 rfl ?_
      refine r_bind (fun a3 ha3 => ?_)
      refine r_callV (rest := []) (st2 := [.int a3]) C (mX5_byteAt (eL E) C.z M N (M 6 3) a3 ha3) lk_X5_229 (rvM C) (by decide) rfl rfl (Nat.le_of_ble_eq_true rfl) dX5_token_39 rfl ?_
      refine r_callS (rest := []) (st2 := [.int (fX5_isLetter a3)]) C (mX5_isLetter (eL E) C.z _ _ a3) lk_X5_232 (by decide) rfl rfl (Nat.le_of_ble_eq_true rfl) dX5_token_42 rfl ?_
      refine r_istore_n (lv' := [(1, .int (fX5_isLetter a3)), (0, .ref (zA Z 6 0))]) C dX5_token_45 1 rfl (by decide) rfl ?_
      refine r_aload_n C dX5_token_46 0 1 rfl rfl ?_
      refine r_aload_n C dX5_token_47 0 1 rfl rfl ?_
      refine gf_X5_226 (v := (M 6 3)) C dX5_token_48 rfl ?_
      refine r_bind (fun a4 ha4 => ?_)
      refine r_callV (rest := []) (st2 := [.int a4]) C (mX5_byteAt (eL E) C.z M N (M 6 3) a4 ha4) lk_X5_229 (rvM C) (by decide) rfl rfl (Nat.le_of_ble_eq_true rfl) dX5_token_51 rfl ?_
      refine r_callS (rest := []) (st2 := [.int (fX5_isDigit a4)]) C (mX5_isDigit (eL E) C.z _ _ a4) lk_X5_235 (by decide) rfl rfl (Nat.le_of_ble_eq_true rfl) dX5_token_54 rfl ?_
      refine r_istore_n (lv' := [(2, .int (fX5_isDigit a4)), (1, .int (fX5_isLetter a3)), (0, .ref (zA Z 6 0))]) C dX5_token_57 2 rfl (by decide) rfl ?_
      refine r_aload_n C dX5_token_58 0 2 rfl rfl ?_
      refine r_aload_n C dX5_token_59 0 2 rfl rfl ?_
      refine gf_X5_226 (v := (M 6 3)) C dX5_token_60 rfl ?_
      refine r_aload_n C dX5_token_63 0 2 rfl rfl ?_
      refine gf_X5_214 (v := (M 6 2)) C dX5_token_64 rfl ?_
      refine r_ic_ge (tgt := 79) C dX5_token_67 (by decide) (fun c5 => ?_) (fun c5 => ?_)
      · refine r_aload_n C dX5_token_79 0 2 rfl rfl ?_
        refine gf_X5_226 (v := (M 6 3)) C dX5_token_80 rfl ?_
        refine pf_X5_223 (M' := (wM M 6 4 (M 6 3))) C dX5_token_83 rfl ?_
        refine r_lv [2, 1, 0] (lv' := [(0, .ref (zA Z 6 0)), (1, .int (fX5_isLetter a3)), (2, .int (fX5_isDigit a4))]) rfl ?_
        exact bX5_token_86 C fu (wM M 6 4 (M 6 3)) (fX5_isLetter a3) (fX5_isDigit a4)
      · refine r_aload_n C dX5_token_70 0 2 rfl rfl ?_
        refine gf_X5_226 (v := (M 6 3)) C dX5_token_71 rfl ?_
        refine r_iconst (v := 1) C dX5_token_74 (by decide) ?_
        refine r_iadd C dX5_token_75 ?_
        refine r_goto (tgt := 83) C dX5_token_76 (by decide) ?_
        refine pf_X5_223 (M' := (wM M 6 4 ((M 6 3) + 1))) C dX5_token_83 rfl ?_
        refine r_lv [2, 1, 0] (lv' := [(0, .ref (zA Z 6 0)), (1, .int (fX5_isLetter a3)), (2, .int (fX5_isDigit a4))]) rfl ?_
        exact bX5_token_86 C fu (wM M 6 4 ((M 6 3) + 1)) (fX5_isLetter a3) (fX5_isDigit a4)
    · refine r_aload_n C dX5_token_21 0 0 rfl rfl ?_
      refine r_dup C dX5_token_22 rfl ?_
      refine gf_X5_226 (v := (M 6 3)) C dX5_token_23 rfl ?_
      refine r_iconst (v := 1) C dX5_token_26 (by decide) ?_
      refine r_iadd C dX5_token_27 ?_
      refine pf_X5_226 (M' := (wM M 6 3 ((M 6 3) + 1))) C dX5_token_28 rfl ?_
      refine r_goto (tgt := 8) C dX5_token_31 (by decide) ?_
      exact ih (wM M 6 3 ((M 6 3) + 1))
noncomputable def fX5_token   (M : Mi) : Option (Mi) := (fX5_token_8 fu (wM M 6 3 (M 6 4)))
theorem bX5_token {Z : Zt} {E : Ec} {N : Ml} (C : Ok 2 Z E cX5_token 3 RX5 none 2)    (M : Mi)  : GT Z E 3 (finX5_token N) 0 [(0, .ref (zA Z 6 0))] [] M N (fX5_token M) := by
  unfold fX5_token
  refine r_aload_n C dX5_token_0 0 0 rfl rfl ?_
  refine r_aload_n C dX5_token_1 0 0 rfl rfl ?_
  refine gf_X5_223 (v := (M 6 4)) C dX5_token_2 rfl ?_
  refine pf_X5_226 (M' := (wM M 6 3 (M 6 4))) C dX5_token_5 rfl ?_
  exact bX5_token_8 C fu (wM M 6 3 (M 6 4))
theorem mX5_token (l : Launch) {Z : Zt} (hZ : Zok 2 Z) (M : Mi) (N : Ml) (b : Mi) (hb : fX5_token M = some b) : Ct 2 Z l yX5_token cX5_token 3 none 2 [.ref (zA Z 6 0)] M N (none, b, N) :=
  metG (fin := (finX5_token N)) (by decide) (Nat.le_of_ble_eq_true rfl) (fun E _ C => bX5_token C M) hb
theorem dX5_wants_0 : decode cX5_wants 0 = .ok (.aload_n 0, 1) := by decide +kernel
theorem dX5_wants_1 : decode cX5_wants 1 = .ok (.aload_n 0, 1) := by decide +kernel
theorem dX5_wants_2 : decode cX5_wants 2 = .ok (.getfield 238, 3) := by decide +kernel
theorem dX5_wants_5 : decode cX5_wants 5 = .ok (.ifCond .ne 7, 3) := by decide +kernel
theorem dX5_wants_8 : decode cX5_wants 8 = .ok (.iload_n 1, 1) := by decide +kernel
theorem dX5_wants_9 : decode cX5_wants 9 = .ok (.ifCond .ne 7, 3) := by decide +kernel
theorem dX5_wants_12 : decode cX5_wants 12 = .ok (.iconst 1, 1) := by decide +kernel
theorem dX5_wants_13 : decode cX5_wants 13 = .ok (.goto 4, 3) := by decide +kernel
theorem dX5_wants_16 : decode cX5_wants 16 = .ok (.iconst 0, 1) := by decide +kernel
theorem dX5_wants_17 : decode cX5_wants 17 = .ok (.putfield 238, 3) := by decide +kernel
theorem dX5_wants_20 : decode cX5_wants 20 = .ok (.aload_n 0, 1) := by decide +kernel
theorem dX5_wants_21 : decode cX5_wants 21 = .ok (.getfield 238, 3) := by decide +kernel
theorem dX5_wants_24 : decode cX5_wants 24 = .ok (.ifCond .ne 7, 3) := by decide +kernel
theorem dX5_wants_27 : decode cX5_wants 27 = .ok (.aload_n 0, 1) := by decide +kernel
theorem dX5_wants_28 : decode cX5_wants 28 = .ok (.invokevirtual 242, 3) := by decide +kernel
theorem dX5_wants_31 : decode cX5_wants 31 = .ok (.return_, 1) := by decide +kernel
def finX5_wants (N : Ml) : Mi → Option Value × Mi × Ml := fun b => (none, b, N)
noncomputable def fX5_wants_17   (M : Mi) (s0 : Int32) : Option (Mi) := (if s0 = 0 ∨ s0 = 1 then (if s0 = 0 then (Option.bind (fX5_token (wM M 6 6 s0)) (fun a4 => (some a4))) else (some (wM M 6 6 s0))) else none)
theorem bX5_wants_17 {Z : Zt} {E : Ec} {N : Ml} (C : Ok 2 Z E cX5_wants 2 RX5 none 3)    (M : Mi) (s0 : Int32)  : GT Z E 2 (finX5_wants N) 17 [(0, .ref (zA Z 6 0))] [.int s0, .ref (zA Z 6 0)] M N (fX5_wants_17 M s0) := by
  unfold fX5_wants_17
  refine r_guard (fun h2 => ?_)
  refine pf_X5_238 (M' := (wM M 6 6 s0)) C dX5_wants_17 h2 rfl ?_
  refine r_aload_n C dX5_wants_20 0 0 rfl rfl ?_
  refine gf_X5_238 (v := s0) C dX5_wants_21 rfl ?_
  refine r_if_ne (tgt := 31) C dX5_wants_24 (by decide) (fun c3 => ?_) (fun c3 => ?_)
  · exact r_vret C dX5_wants_31 rfl
  · refine r_aload_n C dX5_wants_27 0 0 rfl rfl ?_
    refine r_bind (fun a4 ha4 => ?_)
    refine r_callV (rest := []) (st2 := []) C (mX5_token (eL E) C.z (wM M 6 6 s0) N a4 ha4) lk_X5_242 (rvM C) (by decide) rfl rfl (Nat.le_of_ble_eq_true rfl) dX5_wants_28 rfl ?_
    exact r_vret C dX5_wants_31 rfl
noncomputable def fX5_wants_12   (M : Mi) : Option (Mi) := (fX5_wants_17 M 1)
theorem bX5_wants_12 {Z : Zt} {E : Ec} {N : Ml} (C : Ok 2 Z E cX5_wants 2 RX5 none 3)    (M : Mi)  : GT Z E 2 (finX5_wants N) 12 [(0, .ref (zA Z 6 0))] [.ref (zA Z 6 0)] M N (fX5_wants_12 M) := by
  unfold fX5_wants_12
  refine r_iconst (v := 1) C dX5_wants_12 (by decide) ?_
  refine r_goto (tgt := 17) C dX5_wants_13 (by decide) ?_
  exact bX5_wants_17 C M 1
noncomputable def fX5_wants   (M : Mi) (x1 : Int32) : Option (Mi) := (if (M 6 6) = 0 then (if x1 = 0 then (fX5_wants_12 M) else (fX5_wants_17 M 0)) else (fX5_wants_12 M))
theorem bX5_wants {Z : Zt} {E : Ec} {N : Ml} (C : Ok 2 Z E cX5_wants 2 RX5 none 3)    (M : Mi) (x1 : Int32)  : GT Z E 2 (finX5_wants N) 0 [(0, .ref (zA Z 6 0)), (1, .int x1)] [] M N (fX5_wants M x1) := by
  unfold fX5_wants
  refine r_aload_n C dX5_wants_0 0 0 rfl rfl ?_
  refine r_aload_n C dX5_wants_1 0 0 rfl rfl ?_
  refine gf_X5_238 (v := (M 6 6)) C dX5_wants_2 rfl ?_
  refine r_if_ne (tgt := 12) C dX5_wants_5 (by decide) (fun c1 => ?_) (fun c1 => ?_)
  · refine r_lv [0] (lv' := [(0, .ref (zA Z 6 0))]) rfl ?_
    exact bX5_wants_12 C M
  · refine r_iload_n C dX5_wants_8 1 1 rfl rfl ?_
    refine r_if_ne (tgt := 16) C dX5_wants_9 (by decide) (fun c5 => ?_) (fun c5 => ?_)
    · refine r_iconst (v := 0) C dX5_wants_16 (by decide) ?_
      refine r_lv [0] (lv' := [(0, .ref (zA Z 6 0))]) rfl ?_
      exact bX5_wants_17 C M 0
    · refine r_lv [0] (lv' := [(0, .ref (zA Z 6 0))]) rfl ?_
      exact bX5_wants_12 C M
theorem mX5_wants (l : Launch) {Z : Zt} (hZ : Zok 2 Z) (M : Mi) (N : Ml) (x1 : Int32) (b : Mi) (hb : fX5_wants M x1 = some b) : Ct 2 Z l yX5_wants cX5_wants 2 none 3 [.ref (zA Z 6 0), .int x1] M N (none, b, N) :=
  metG (fin := (finX5_wants N)) (by decide) (Nat.le_of_ble_eq_true rfl) (fun E _ C => bX5_wants C M x1) hb
theorem dX5_word_0 : decode cX5_word 0 = .ok (.lconst 0, 1) := by decide +kernel
theorem dX5_word_1 : decode cX5_word 1 = .ok (.lstore_n 1, 1) := by decide +kernel
theorem dX5_word_2 : decode cX5_word 2 = .ok (.aload_n 0, 1) := by decide +kernel
theorem dX5_word_3 : decode cX5_word 3 = .ok (.getfield 226, 3) := by decide +kernel
theorem dX5_word_6 : decode cX5_word 6 = .ok (.istore_n 3, 1) := by decide +kernel
theorem dX5_word_7 : decode cX5_word 7 = .ok (.iload_n 3, 1) := by decide +kernel
theorem dX5_word_8 : decode cX5_word 8 = .ok (.aload_n 0, 1) := by decide +kernel
theorem dX5_word_9 : decode cX5_word 9 = .ok (.getfield 223, 3) := by decide +kernel
theorem dX5_word_12 : decode cX5_word 12 = .ok (.if_icmp .ge 38, 3) := by decide +kernel
theorem dX5_word_15 : decode cX5_word 15 = .ok (.lload_n 1, 1) := by decide +kernel
theorem dX5_word_16 : decode cX5_word 16 = .ok (.ldc2_w 245, 3) := by decide +kernel
theorem dX5_word_19 : decode cX5_word 19 = .ok (.lcmp, 1) := by decide +kernel
theorem dX5_word_20 : decode cX5_word 20 = .ok (.ifCond .le 7, 3) := by decide +kernel
theorem dX5_word_23 : decode cX5_word 23 = .ok (.lload_n 1, 1) := by decide +kernel
theorem dX5_word_24 : decode cX5_word 24 = .ok (.goto 19, 3) := by decide +kernel
theorem dX5_word_27 : decode cX5_word 27 = .ok (.ldc2_w 247, 3) := by decide +kernel
theorem dX5_word_30 : decode cX5_word 30 = .ok (.lload_n 1, 1) := by decide +kernel
theorem dX5_word_31 : decode cX5_word 31 = .ok (.lmul, 1) := by decide +kernel
theorem dX5_word_32 : decode cX5_word 32 = .ok (.aload_n 0, 1) := by decide +kernel
theorem dX5_word_33 : decode cX5_word 33 = .ok (.getfield 25, 3) := by decide +kernel
theorem dX5_word_36 : decode cX5_word 36 = .ok (.iload_n 3, 1) := by decide +kernel
theorem dX5_word_37 : decode cX5_word 37 = .ok (.iaload, 1) := by decide +kernel
theorem dX5_word_38 : decode cX5_word 38 = .ok (.bipush 96, 2) := by decide +kernel
theorem dX5_word_40 : decode cX5_word 40 = .ok (.isub, 1) := by decide +kernel
theorem dX5_word_41 : decode cX5_word 41 = .ok (.i2l, 1) := by decide +kernel
theorem dX5_word_42 : decode cX5_word 42 = .ok (.ladd, 1) := by decide +kernel
theorem dX5_word_43 : decode cX5_word 43 = .ok (.lstore_n 1, 1) := by decide +kernel
theorem dX5_word_44 : decode cX5_word 44 = .ok (.iinc 3 1, 3) := by decide +kernel
theorem dX5_word_47 : decode cX5_word 47 = .ok (.goto (-40), 3) := by decide +kernel
theorem dX5_word_50 : decode cX5_word 50 = .ok (.aload_n 0, 1) := by decide +kernel
theorem dX5_word_51 : decode cX5_word 51 = .ok (.getfield 238, 3) := by decide +kernel
theorem dX5_word_54 : decode cX5_word 54 = .ok (.ifCond .ne 17, 3) := by decide +kernel
theorem dX5_word_57 : decode cX5_word 57 = .ok (.aload_n 0, 1) := by decide +kernel
theorem dX5_word_58 : decode cX5_word 58 = .ok (.aload_n 0, 1) := by decide +kernel
theorem dX5_word_59 : decode cX5_word 59 = .ok (.getfield 226, 3) := by decide +kernel
theorem dX5_word_62 : decode cX5_word 62 = .ok (.invokevirtual 229, 3) := by decide +kernel
theorem dX5_word_65 : decode cX5_word 65 = .ok (.invokestatic 232, 3) := by decide +kernel
theorem dX5_word_68 : decode cX5_word 68 = .ok (.ifCond .ne 7, 3) := by decide +kernel
theorem dX5_word_71 : decode cX5_word 71 = .ok (.lconst 0, 1) := by decide +kernel
theorem dX5_word_72 : decode cX5_word 72 = .ok (.goto 4, 3) := by decide +kernel
theorem dX5_word_75 : decode cX5_word 75 = .ok (.lload_n 1, 1) := by decide +kernel
theorem dX5_word_76 : decode cX5_word 76 = .ok (.lreturn, 1) := by decide +kernel
def finX5_word (M : Mi) (N : Ml) : Int64 → Option Value × Mi × Ml := fun b => (some (Value.long b), M, N)
noncomputable def fX5_word_7 (M : Mi)  : Nat → Int64 → Int32 → Option (Int64)
  | 0 => fun _ _ => none
  | n + 1 => fun x1 x3 => (if (M 6 4) ≤ x3 then (if (M 6 6) = 0 then (Option.bind (fX5_byteAt M (M 6 3)) (fun a3 => (if (fX5_isLetter a3) = 0 then (some 0) else (some x1)))) else (some 0)) else (if x1 ≤ 36028797018963967 then (if inb x3 120 then ((fX5_word_7 M n) ((32 * x1) + (Int32.toInt64 ((M 5 (ix x3)) - 96))) (x3 + 1)) else none) else ((fX5_word_7 M n) x1 (x3 + 1))))
theorem bX5_word_7 {Z : Zt} {E : Ec} {M : Mi} {N : Ml} (C : Ok 2 Z E cX5_word 4 RX5 (some .long) 2)    : ∀ (n : Nat) (x1 : Int64) (x3 : Int32), GT Z E 4 (finX5_word M N) 7 [(0, .ref (zA Z 6 0)), (1, .long x1), (3, .int x3)] [] M N (fX5_word_7 M n x1 x3) := by
  intro n
  induction n with
  | zero => intro x1 x3; exact r_none
  | succ n ih =>
    intro x1 x3
    rw [fX5_word_7]
    refine r_iload_n C dX5_word_7 3 2 rfl rfl ?_
    refine r_aload_n C dX5_word_8 0 0 rfl rfl ?_
    refine gf_X5_223 (v := (M 6 4)) C dX5_word_9 rfl ?_
    refine r_ic_ge (tgt := 50) C dX5_word_12 (by decide) (fun c1 => ?_) (fun c1 => ?_)
    · refine r_aload_n C dX5_word_50 0 0 rfl rfl ?_
      refine gf_X5_238 (v := (M 6 6)) C dX5_word_51 rfl ?_
      refine r_if_ne (tgt := 71) C dX5_word_54 (by decide) (fun c2 => ?_) (fun c2 => ?_)
      · refine r_lconst (v := 0) C dX5_word_71 (by decide) ?_
        refine r_goto (tgt := 76) C dX5_word_72 (by decide) ?_
        exact r_lret C dX5_word_76 rfl
      · refine r_aload_n C dX5_word_57 0 0 rfl rfl ?_
        refine r_aload_n C dX5_word_58 0 0 rfl rfl ?_
        refine gf_X5_226 (v := (M 6 3)) C dX5_word_59 rfl ?_
        refine r_bind (fun a3 ha3 => ?_)
        refine r_callV (rest := []) (st2 := [.int a3]) C (mX5_byteAt (eL E) C.z M N (M 6 3) a3 ha3) lk_X5_229 (rvM C) (by decide) rfl rfl (Nat.le_of_ble_eq_true rfl) dX5_word_62 rfl ?_
        refine r_callS (rest := []) (st2 := [.int (fX5_isLetter a3)]) C (mX5_isLetter (eL E) C.z _ _ a3) lk_X5_232 (by decide) rfl rfl (Nat.le_of_ble_eq_true rfl) dX5_word_65 rfl ?_
        refine r_if_ne (tgt := 75) C dX5_word_68 (by decide) (fun c4 => ?_) (fun c4 => ?_)
        · refine r_lload_n C dX5_word_75 1 1 rfl rfl ?_
          exact r_lret C dX5_word_76 rfl
        · refine r_lconst (v := 0) C dX5_word_71 (by decide) ?_
          refine r_goto (tgt := 76) C dX5_word_72 (by decide) ?_
          exact r_lret C dX5_word_76 rfl
    · refine r_lload_n C dX5_word_15 1 1 rfl rfl ?_
      refine r_ldc2 (v := 36028797018963967) C dX5_word_16 wd_1177 ?_
      refine r_lc_le (tgt := 27) C dX5_word_19 dX5_word_20 (by decide) (fun c5 => ?_) (fun c5 => ?_)
      · refine r_ldc2 (v := 32) C dX5_word_27 wd_1178 ?_
        refine r_lload_n C dX5_word_30 1 1 rfl rfl ?_
        refine r_lmul C dX5_word_31 ?_
        refine r_aload_n C dX5_word_32 0 0 rfl rfl ?_
        refine gf_X5_25 C dX5_word_33 ?_
        refine r_iload_n C dX5_word_36 3 2 rfl rfl ?_
        refine r_guard (fun h6 => ?_)
        refine ald_M (v := (M 5 (ix x3))) C mI_5 h6 rfl dX5_word_37 ?_
        refine r_bipush (v := 96) C dX5_word_38 (by decide) ?_
        refine r_isub C dX5_word_40 ?_
        refine r_i2l C dX5_word_41 ?_
        refine r_ladd C dX5_word_42 ?_
        refine r_lstore_n (lv' := [(1, .long ((32 * x1) + (Int32.toInt64 ((M 5 (ix x3)) - 96)))), (0, .ref (zA Z 6 0)), (3, .int x3)]) C dX5_word_43 1 rfl (by decide) rfl ?_
        refine r_iinc (v := (x3 + 1)) (lv' := [(3, .int (x3 + 1)), (1, .long ((32 * x1) + (Int32.toInt64 ((M 5 (ix x3)) - 96)))), (0, .ref (zA Z 6 0))]) C dX5_word_44 2 rfl rfl (by decide) rfl ?_
        refine r_goto (tgt := 7) C dX5_word_47 (by decide) ?_
        refine r_lv [2, 1, 0] (lv' := [(0, .ref (zA Z 6 0)), (1, .long ((32 * x1) + (Int32.toInt64 ((M 5 (ix x3)) - 96)))), (3, .int (x3 + 1))]) rfl ?_
        exact ih ((32 * x1) + (Int32.toInt64 ((M 5 (ix x3)) - 96))) (x3 + 1)
      · refine r_lload_n C dX5_word_23 1 1 rfl rfl ?_
        refine r_goto (tgt := 43) C dX5_word_24 (by decide) ?_
        refine r_lstore_n (lv' := [(1, .long x1), (0, .ref (zA Z 6 0)), (3, .int x3)]) C dX5_word_43 1 rfl (by decide) rfl ?_
        refine r_iinc (v := (x3 + 1)) (lv' := [(3, .int (x3 + 1)), (1, .long x1), (0, .ref (zA Z 6 0))]) C dX5_word_44 2 rfl rfl (by decide) rfl ?_
        refine r_goto (tgt := 7) C dX5_word_47 (by decide) ?_
        refine r_lv [2, 1, 0] (lv' := [(0, .ref (zA Z 6 0)), (1, .long x1), (3, .int (x3 + 1))]) rfl ?_
        exact ih x1 (x3 + 1)
noncomputable def fX5_word (M : Mi)   : Option (Int64) := (fX5_word_7 M fu 0 (M 6 3))
theorem bX5_word {Z : Zt} {E : Ec} {M : Mi} {N : Ml} (C : Ok 2 Z E cX5_word 4 RX5 (some .long) 2)      : GT Z E 4 (finX5_word M N) 0 [(0, .ref (zA Z 6 0))] [] M N (fX5_word M ) := by
  unfold fX5_word
  refine r_lconst (v := 0) C dX5_word_0 (by decide) ?_
  refine r_lstore_n (lv' := [(1, .long 0), (0, .ref (zA Z 6 0))]) C dX5_word_1 1 rfl (by decide) rfl ?_
  refine r_aload_n C dX5_word_2 0 1 rfl rfl ?_
  refine gf_X5_226 (v := (M 6 3)) C dX5_word_3 rfl ?_
  refine r_istore_n (lv' := [(3, .int (M 6 3)), (1, .long 0), (0, .ref (zA Z 6 0))]) C dX5_word_6 3 rfl (by decide) rfl ?_
  refine r_lv [2, 1, 0] (lv' := [(0, .ref (zA Z 6 0)), (1, .long 0), (3, .int (M 6 3))]) rfl ?_
  exact bX5_word_7 C fu 0 (M 6 3)
theorem mX5_word (l : Launch) {Z : Zt} (hZ : Zok 2 Z) (M : Mi) (N : Ml) (b : Int64) (hb : fX5_word M = some b) : Ct 2 Z l yX5_word cX5_word 4 (some .long) 2 [.ref (zA Z 6 0)] M N (some (Value.long b), M, N) :=
  metG (fin := (finX5_word M N)) (by decide) (Nat.le_of_ble_eq_true rfl) (fun E _ C => bX5_word C) hb
theorem dX5_number_0 : decode cX5_number 0 = .ok (.aload_n 0, 1) := by decide +kernel
theorem dX5_number_1 : decode cX5_number 1 = .ok (.getfield 238, 3) := by decide +kernel
theorem dX5_number_4 : decode cX5_number 4 = .ok (.ifCond .eq 4, 3) := by decide +kernel
theorem dX5_number_7 : decode cX5_number 7 = .ok (.return_, 1) := by decide +kernel
theorem dX5_number_8 : decode cX5_number 8 = .ok (.aload_n 0, 1) := by decide +kernel
theorem dX5_number_9 : decode cX5_number 9 = .ok (.aload_n 0, 1) := by decide +kernel
theorem dX5_number_10 : decode cX5_number 10 = .ok (.getfield 226, 3) := by decide +kernel
theorem dX5_number_13 : decode cX5_number 13 = .ok (.invokevirtual 229, 3) := by decide +kernel
theorem dX5_number_16 : decode cX5_number 16 = .ok (.invokestatic 235, 3) := by decide +kernel
theorem dX5_number_19 : decode cX5_number 19 = .ok (.istore_n 3, 1) := by decide +kernel
theorem dX5_number_20 : decode cX5_number 20 = .ok (.iconst 0, 1) := by decide +kernel
theorem dX5_number_21 : decode cX5_number 21 = .ok (.istore 4, 2) := by decide +kernel
theorem dX5_number_23 : decode cX5_number 23 = .ok (.aload_n 0, 1) := by decide +kernel
theorem dX5_number_24 : decode cX5_number 24 = .ok (.getfield 226, 3) := by decide +kernel
theorem dX5_number_27 : decode cX5_number 27 = .ok (.istore 5, 2) := by decide +kernel
theorem dX5_number_29 : decode cX5_number 29 = .ok (.iload 5, 2) := by decide +kernel
theorem dX5_number_31 : decode cX5_number 31 = .ok (.aload_n 0, 1) := by decide +kernel
theorem dX5_number_32 : decode cX5_number 32 = .ok (.getfield 223, 3) := by decide +kernel
theorem dX5_number_35 : decode cX5_number 35 = .ok (.if_icmp .ge 44, 3) := by decide +kernel
theorem dX5_number_38 : decode cX5_number 38 = .ok (.iload_n 3, 1) := by decide +kernel
theorem dX5_number_39 : decode cX5_number 39 = .ok (.ifCond .eq 40, 3) := by decide +kernel
theorem dX5_number_42 : decode cX5_number 42 = .ok (.iload 4, 2) := by decide +kernel
theorem dX5_number_44 : decode cX5_number 44 = .ok (.sipush 999, 3) := by decide +kernel
theorem dX5_number_47 : decode cX5_number 47 = .ok (.if_icmp .le 8, 3) := by decide +kernel
theorem dX5_number_50 : decode cX5_number 50 = .ok (.iload 4, 2) := by decide +kernel
theorem dX5_number_52 : decode cX5_number 52 = .ok (.goto 19, 3) := by decide +kernel
theorem dX5_number_55 : decode cX5_number 55 = .ok (.bipush 10, 2) := by decide +kernel
theorem dX5_number_57 : decode cX5_number 57 = .ok (.iload 4, 2) := by decide +kernel
theorem dX5_number_59 : decode cX5_number 59 = .ok (.imul, 1) := by decide +kernel
theorem dX5_number_60 : decode cX5_number 60 = .ok (.aload_n 0, 1) := by decide +kernel
theorem dX5_number_61 : decode cX5_number 61 = .ok (.getfield 25, 3) := by decide +kernel
theorem dX5_number_64 : decode cX5_number 64 = .ok (.iload 5, 2) := by decide +kernel
theorem dX5_number_66 : decode cX5_number 66 = .ok (.iaload, 1) := by decide +kernel
theorem dX5_number_67 : decode cX5_number 67 = .ok (.iadd, 1) := by decide +kernel
theorem dX5_number_68 : decode cX5_number 68 = .ok (.bipush 48, 2) := by decide +kernel
theorem dX5_number_70 : decode cX5_number 70 = .ok (.isub, 1) := by decide +kernel
theorem dX5_number_71 : decode cX5_number 71 = .ok (.istore 4, 2) := by decide +kernel
theorem dX5_number_73 : decode cX5_number 73 = .ok (.iinc 5 1, 3) := by decide +kernel
theorem dX5_number_76 : decode cX5_number 76 = .ok (.goto (-47), 3) := by decide +kernel
theorem dX5_number_79 : decode cX5_number 79 = .ok (.aload_n 0, 1) := by decide +kernel
theorem dX5_number_80 : decode cX5_number 80 = .ok (.iload 4, 2) := by decide +kernel
theorem dX5_number_82 : decode cX5_number 82 = .ok (.putfield 249, 3) := by decide +kernel
theorem dX5_number_85 : decode cX5_number 85 = .ok (.aload_n 0, 1) := by decide +kernel
theorem dX5_number_86 : decode cX5_number 86 = .ok (.iload_n 3, 1) := by decide +kernel
theorem dX5_number_87 : decode cX5_number 87 = .ok (.ifCond .eq 20, 3) := by decide +kernel
theorem dX5_number_90 : decode cX5_number 90 = .ok (.iload 4, 2) := by decide +kernel
theorem dX5_number_92 : decode cX5_number 92 = .ok (.i2l, 1) := by decide +kernel
theorem dX5_number_93 : decode cX5_number 93 = .ok (.iload_n 1, 1) := by decide +kernel
theorem dX5_number_94 : decode cX5_number 94 = .ok (.i2l, 1) := by decide +kernel
theorem dX5_number_95 : decode cX5_number 95 = .ok (.iload_n 2, 1) := by decide +kernel
theorem dX5_number_96 : decode cX5_number 96 = .ok (.i2l, 1) := by decide +kernel
theorem dX5_number_97 : decode cX5_number 97 = .ok (.invokestatic 44, 3) := by decide +kernel
theorem dX5_number_100 : decode cX5_number 100 = .ok (.ifCond .eq 7, 3) := by decide +kernel
theorem dX5_number_103 : decode cX5_number 103 = .ok (.iconst 1, 1) := by decide +kernel
theorem dX5_number_104 : decode cX5_number 104 = .ok (.goto 4, 3) := by decide +kernel
theorem dX5_number_107 : decode cX5_number 107 = .ok (.iconst 0, 1) := by decide +kernel
theorem dX5_number_108 : decode cX5_number 108 = .ok (.invokevirtual 252, 3) := by decide +kernel
theorem dX5_number_111 : decode cX5_number 111 = .ok (.return_, 1) := by decide +kernel
def finX5_number (N : Ml) : Mi → Option Value × Mi × Ml := fun b => (none, b, N)
noncomputable def fX5_number_108   (M : Mi) (s0 : Int32) : Option (Mi) := (Option.bind (fX5_wants M s0) (fun a5 => (some a5)))
theorem bX5_number_108 {Z : Zt} {E : Ec} {N : Ml} (C : Ok 2 Z E cX5_number 6 RX5 none 4)    (M : Mi) (s0 : Int32)  : GT Z E 6 (finX5_number N) 108 [] [.int s0, .ref (zA Z 6 0)] M N (fX5_number_108 M s0) := by
  unfold fX5_number_108
  refine r_bind (fun a5 ha5 => ?_)
  refine r_callV (rest := []) (st2 := []) C (mX5_wants (eL E) C.z M N s0 a5 ha5) lk_X5_252 (rvM C) (by decide) rfl rfl (Nat.le_of_ble_eq_true rfl) dX5_number_108 rfl ?_
  exact r_vret C dX5_number_111 rfl
noncomputable def fX5_number_107   (M : Mi) : Option (Mi) := (fX5_number_108 M 0)
theorem bX5_number_107 {Z : Zt} {E : Ec} {N : Ml} (C : Ok 2 Z E cX5_number 6 RX5 none 4)    (M : Mi)  : GT Z E 6 (finX5_number N) 107 [] [.ref (zA Z 6 0)] M N (fX5_number_107 M) := by
  unfold fX5_number_107
  refine r_iconst (v := 0) C dX5_number_107 (by decide) ?_
  exact bX5_number_108 C M 0
noncomputable def fX5_number_79   (M : Mi) (x1 : Int32) (x2 : Int32) (x3 : Int32) (x4 : Int32) : Option (Mi) := (if x3 = 0 then (fX5_number_107 (wM M 6 5 x4)) else (if (fX5_in (Int32.toInt64 x4) (Int32.toInt64 x1) (Int32.toInt64 x2)) = 0 then (fX5_number_107 (wM M 6 5 x4)) else (fX5_number_108 (wM M 6 5 x4) 1)))
theorem bX5_number_79 {Z : Zt} {E : Ec} {N : Ml} (C : Ok 2 Z E cX5_number 6 RX5 none 4)    (M : Mi) (x1 : Int32) (x2 : Int32) (x3 : Int32) (x4 : Int32)  : GT Z E 6 (finX5_number N) 79 [(0, .ref (zA Z 6 0)), (1, .int x1), (2, .int x2), (3, .int x3), (4, .int x4)] [] M N (fX5_number_79 M x1 x2 x3 x4) := by
  unfold fX5_number_79
  refine r_aload_n C dX5_number_79 0 0 rfl rfl ?_
  refine r_iload C dX5_number_80 4 rfl ?_
  refine pf_X5_249 (M' := (wM M 6 5 x4)) C dX5_number_82 rfl ?_
  refine r_aload_n C dX5_number_85 0 0 rfl rfl ?_
  refine r_iload_n C dX5_number_86 3 3 rfl rfl ?_
  refine r_if_eq (tgt := 107) C dX5_number_87 (by decide) (fun c4 => ?_) (fun c4 => ?_)
  · refine r_lv [] (lv' := []) rfl ?_
    exact bX5_number_107 C (wM M 6 5 x4)
  · refine r_iload C dX5_number_90 4 rfl ?_
    refine r_i2l C dX5_number_92 ?_
    refine r_iload_n C dX5_number_93 1 1 rfl rfl ?_
    refine r_i2l C dX5_number_94 ?_
    refine r_iload_n C dX5_number_95 2 2 rfl rfl ?_
    refine r_i2l C dX5_number_96 ?_
    refine r_callS (rest := [.ref (zA Z 6 0)]) (st2 := [.int (fX5_in (Int32.toInt64 x4) (Int32.toInt64 x1) (Int32.toInt64 x2)), .ref (zA Z 6 0)]) C (mX5_in (eL E) C.z _ _ (Int32.toInt64 x4) (Int32.toInt64 x1) (Int32.toInt64 x2)) lk_X5_44 (by decide) rfl rfl (Nat.le_of_ble_eq_true rfl) dX5_number_97 rfl ?_
    refine r_if_eq (tgt := 107) C dX5_number_100 (by decide) (fun c6 => ?_) (fun c6 => ?_)
    · refine r_lv [] (lv' := []) rfl ?_
      exact bX5_number_107 C (wM M 6 5 x4)
    · refine r_iconst (v := 1) C dX5_number_103 (by decide) ?_
      refine r_goto (tgt := 108) C dX5_number_104 (by decide) ?_
      refine r_lv [] (lv' := []) rfl ?_
      exact bX5_number_108 C (wM M 6 5 x4) 1
noncomputable def fX5_number_29   : Nat → Mi → Int32 → Int32 → Int32 → Int32 → Int32 → Option (Mi)
  | 0 => fun _ _ _ _ _ _ => none
  | n + 1 => fun M x1 x2 x3 x4 x5 => (if (M 6 4) ≤ x5 then (fX5_number_79 M x1 x2 x3 x4) else (if x3 = 0 then (fX5_number_79 M x1 x2 x3 x4) else (if x4 ≤ 999 then (if inb x5 120 then ((fX5_number_29 n) M x1 x2 x3 (((10 * x4) + (M 5 (ix x5))) - 48) (x5 + 1)) else none) else ((fX5_number_29 n) M x1 x2 x3 x4 (x5 + 1)))))
theorem bX5_number_29 {Z : Zt} {E : Ec} {N : Ml} (C : Ok 2 Z E cX5_number 6 RX5 none 4)    : ∀ (n : Nat) (M : Mi) (x1 : Int32) (x2 : Int32) (x3 : Int32) (x4 : Int32) (x5 : Int32), GT Z E 6 (finX5_number N) 29 [(0, .ref (zA Z 6 0)), (1, .int x1), (2, .int x2), (3, .int x3), (4, .int x4), (5, .int x5)] [] M N (fX5_number_29 n M x1 x2 x3 x4 x5) := by
  intro n
  induction n with
  | zero => intro M x1 x2 x3 x4 x5; exact r_none
  | succ n ih =>
    intro M x1 x2 x3 x4 x5
    rw [fX5_number_29]
    refine r_iload C dX5_number_29 5 rfl ?_
    refine r_aload_n C dX5_number_31 0 0 rfl rfl ?_
    refine gf_X5_223 (v := (M 6 4)) C dX5_number_32 rfl ?_
    refine r_ic_ge (tgt := 79) C dX5_number_35 (by decide) (fun c3 => ?_) (fun c3 => ?_)
    · refine r_lv [0, 1, 2, 3, 4] (lv' := [(0, .ref (zA Z 6 0)), (1, .int x1), (2, .int x2), (3, .int x3), (4, .int x4)]) rfl ?_
      exact bX5_number_79 C M x1 x2 x3 x4
    · refine r_iload_n C dX5_number_38 3 3 rfl rfl ?_
      refine r_if_eq (tgt := 79) C dX5_number_39 (by decide) (fun c7 => ?_) (fun c7 => ?_)
      · refine r_lv [0, 1, 2, 3, 4] (lv' := [(0, .ref (zA Z 6 0)), (1, .int x1), (2, .int x2), (3, .int x3), (4, .int x4)]) rfl ?_
        exact bX5_number_79 C M x1 x2 x3 x4
      · refine r_iload C dX5_number_42 4 rfl ?_
        refine r_sipush (v := 999) C dX5_number_44 (by decide) ?_
        refine r_ic_le (tgt := 55) C dX5_number_47 (by decide) (fun c8 => ?_) (fun c8 => ?_)
        · refine r_bipush (v := 10) C dX5_number_55 (by decide) ?_
          refine r_iload C dX5_number_57 4 rfl ?_
          refine r_imul C dX5_number_59 ?_
          refine r_aload_n C dX5_number_60 0 0 rfl rfl ?_
          refine gf_X5_25 C dX5_number_61 ?_
          refine r_iload C dX5_number_64 5 rfl ?_
          refine r_guard (fun h9 => ?_)
          refine ald_M (v := (M 5 (ix x5))) C mI_5 h9 rfl dX5_number_66 ?_
          refine r_iadd C dX5_number_67 ?_
          refine r_bipush (v := 48) C dX5_number_68 (by decide) ?_
          refine r_isub C dX5_number_70 ?_
          refine r_istore (lv' := [(4, .int (((10 * x4) + (M 5 (ix x5))) - 48)), (0, .ref (zA Z 6 0)), (1, .int x1), (2, .int x2), (3, .int x3), (5, .int x5)]) C dX5_number_71 (by decide) rfl ?_
          refine r_iinc (v := (x5 + 1)) (lv' := [(5, .int (x5 + 1)), (4, .int (((10 * x4) + (M 5 (ix x5))) - 48)), (0, .ref (zA Z 6 0)), (1, .int x1), (2, .int x2), (3, .int x3)]) C dX5_number_73 5 rfl rfl (by decide) rfl ?_
          refine r_goto (tgt := 29) C dX5_number_76 (by decide) ?_
          refine r_lv [2, 3, 4, 5, 1, 0] (lv' := [(0, .ref (zA Z 6 0)), (1, .int x1), (2, .int x2), (3, .int x3), (4, .int (((10 * x4) + (M 5 (ix x5))) - 48)), (5, .int (x5 + 1))]) rfl ?_
          exact ih M x1 x2 x3 (((10 * x4) + (M 5 (ix x5))) - 48) (x5 + 1)
        · refine r_iload C dX5_number_50 4 rfl ?_
          refine r_goto (tgt := 71) C dX5_number_52 (by decide) ?_
          refine r_istore (lv' := [(4, .int x4), (0, .ref (zA Z 6 0)), (1, .int x1), (2, .int x2), (3, .int x3), (5, .int x5)]) C dX5_number_71 (by decide) rfl ?_
          refine r_iinc (v := (x5 + 1)) (lv' := [(5, .int (x5 + 1)), (4, .int x4), (0, .ref (zA Z 6 0)), (1, .int x1), (2, .int x2), (3, .int x3)]) C dX5_number_73 5 rfl rfl (by decide) rfl ?_
          refine r_goto (tgt := 29) C dX5_number_76 (by decide) ?_
          refine r_lv [2, 3, 4, 5, 1, 0] (lv' := [(0, .ref (zA Z 6 0)), (1, .int x1), (2, .int x2), (3, .int x3), (4, .int x4), (5, .int (x5 + 1))]) rfl ?_
          exact ih M x1 x2 x3 x4 (x5 + 1)
noncomputable def fX5_number   (M : Mi) (x1 : Int32) (x2 : Int32) : Option (Mi) := (if (M 6 6) = 0 then (Option.bind (fX5_byteAt M (M 6 3)) (fun a2 => (fX5_number_29 fu M x1 x2 (fX5_isDigit a2) 0 (M 6 3)))) else (some M))
theorem bX5_number {Z : Zt} {E : Ec} {N : Ml} (C : Ok 2 Z E cX5_number 6 RX5 none 4)    (M : Mi) (x1 : Int32) (x2 : Int32)  : GT Z E 6 (finX5_number N) 0 [(0, .ref (zA Z 6 0)), (1, .int x1), (2, .int x2)] [] M N (fX5_number M x1 x2) := by
  unfold fX5_number
  refine r_aload_n C dX5_number_0 0 0 rfl rfl ?_
  refine gf_X5_238 (v := (M 6 6)) C dX5_number_1 rfl ?_
  refine r_if_eq (tgt := 8) C dX5_number_4 (by decide) (fun c1 => ?_) (fun c1 => ?_)
  · refine r_aload_n C dX5_number_8 0 0 rfl rfl ?_
    refine r_aload_n C dX5_number_9 0 0 rfl rfl ?_
    refine gf_X5_226 (v := (M 6 3)) C dX5_number_10 rfl ?_
    refine r_bind (fun a2 ha2 => ?_)
    refine r_callV (rest := []) (st2 := [.int a2]) C (mX5_byteAt (eL E) C.z M N (M 6 3) a2 ha2) lk_X5_229 (rvM C) (by decide) rfl rfl (Nat.le_of_ble_eq_true rfl) dX5_number_13 rfl ?_
    refine r_callS (rest := []) (st2 := [.int (fX5_isDigit a2)]) C (mX5_isDigit (eL E) C.z _ _ a2) lk_X5_235 (by decide) rfl rfl (Nat.le_of_ble_eq_true rfl) dX5_number_16 rfl ?_
    refine r_istore_n (lv' := [(3, .int (fX5_isDigit a2)), (0, .ref (zA Z 6 0)), (1, .int x1), (2, .int x2)]) C dX5_number_19 3 rfl (by decide) rfl ?_
    refine r_iconst (v := 0) C dX5_number_20 (by decide) ?_
    refine r_istore (lv' := [(4, .int 0), (3, .int (fX5_isDigit a2)), (0, .ref (zA Z 6 0)), (1, .int x1), (2, .int x2)]) C dX5_number_21 (by decide) rfl ?_
    refine r_aload_n C dX5_number_23 0 2 rfl rfl ?_
    refine gf_X5_226 (v := (M 6 3)) C dX5_number_24 rfl ?_
    refine r_istore (lv' := [(5, .int (M 6 3)), (4, .int 0), (3, .int (fX5_isDigit a2)), (0, .ref (zA Z 6 0)), (1, .int x1), (2, .int x2)]) C dX5_number_27 (by decide) rfl ?_
    refine r_lv [3, 4, 5, 2, 1, 0] (lv' := [(0, .ref (zA Z 6 0)), (1, .int x1), (2, .int x2), (3, .int (fX5_isDigit a2)), (4, .int 0), (5, .int (M 6 3))]) rfl ?_
    exact bX5_number_29 C fu M x1 x2 (fX5_isDigit a2) 0 (M 6 3)
  · exact r_vret C dX5_number_7 rfl
theorem mX5_number (l : Launch) {Z : Zt} (hZ : Zok 2 Z) (M : Mi) (N : Ml) (x1 : Int32) (x2 : Int32) (b : Mi) (hb : fX5_number M x1 x2 = some b) : Ct 2 Z l yX5_number cX5_number 6 none 4 [.ref (zA Z 6 0), .int x1, .int x2] M N (none, b, N) :=
  metG (fin := (finX5_number N)) (by decide) (Nat.le_of_ble_eq_true rfl) (fun E _ C => bX5_number C M x1 x2) hb
theorem dX5_kindHere_0 : decode cX5_kindHere 0 = .ok (.aload_n 0, 1) := by decide +kernel
theorem dX5_kindHere_1 : decode cX5_kindHere 1 = .ok (.invokevirtual 256, 3) := by decide +kernel
theorem dX5_kindHere_4 : decode cX5_kindHere 4 = .ok (.lstore_n 1, 1) := by decide +kernel
theorem dX5_kindHere_5 : decode cX5_kindHere 5 = .ok (.lload_n 1, 1) := by decide +kernel
theorem dX5_kindHere_6 : decode cX5_kindHere 6 = .ok (.ldc2_w 260, 3) := by decide +kernel
theorem dX5_kindHere_9 : decode cX5_kindHere 9 = .ok (.lcmp, 1) := by decide +kernel
theorem dX5_kindHere_10 : decode cX5_kindHere 10 = .ok (.ifCond .ne 7, 3) := by decide +kernel
theorem dX5_kindHere_13 : decode cX5_kindHere 13 = .ok (.iconst 0, 1) := by decide +kernel
theorem dX5_kindHere_14 : decode cX5_kindHere 14 = .ok (.goto 64, 3) := by decide +kernel
theorem dX5_kindHere_17 : decode cX5_kindHere 17 = .ok (.lload_n 1, 1) := by decide +kernel
theorem dX5_kindHere_18 : decode cX5_kindHere 18 = .ok (.ldc2_w 262, 3) := by decide +kernel
theorem dX5_kindHere_21 : decode cX5_kindHere 21 = .ok (.lcmp, 1) := by decide +kernel
theorem dX5_kindHere_22 : decode cX5_kindHere 22 = .ok (.ifCond .ne 7, 3) := by decide +kernel
theorem dX5_kindHere_25 : decode cX5_kindHere 25 = .ok (.iconst 1, 1) := by decide +kernel
theorem dX5_kindHere_26 : decode cX5_kindHere 26 = .ok (.goto 52, 3) := by decide +kernel
theorem dX5_kindHere_29 : decode cX5_kindHere 29 = .ok (.lload_n 1, 1) := by decide +kernel
theorem dX5_kindHere_30 : decode cX5_kindHere 30 = .ok (.ldc2_w 264, 3) := by decide +kernel
theorem dX5_kindHere_33 : decode cX5_kindHere 33 = .ok (.lcmp, 1) := by decide +kernel
theorem dX5_kindHere_34 : decode cX5_kindHere 34 = .ok (.ifCond .ne 7, 3) := by decide +kernel
theorem dX5_kindHere_37 : decode cX5_kindHere 37 = .ok (.iconst 2, 1) := by decide +kernel
theorem dX5_kindHere_38 : decode cX5_kindHere 38 = .ok (.goto 40, 3) := by decide +kernel
theorem dX5_kindHere_41 : decode cX5_kindHere 41 = .ok (.lload_n 1, 1) := by decide +kernel
theorem dX5_kindHere_42 : decode cX5_kindHere 42 = .ok (.ldc2_w 266, 3) := by decide +kernel
theorem dX5_kindHere_45 : decode cX5_kindHere 45 = .ok (.lcmp, 1) := by decide +kernel
theorem dX5_kindHere_46 : decode cX5_kindHere 46 = .ok (.ifCond .ne 7, 3) := by decide +kernel
theorem dX5_kindHere_49 : decode cX5_kindHere 49 = .ok (.iconst 3, 1) := by decide +kernel
theorem dX5_kindHere_50 : decode cX5_kindHere 50 = .ok (.goto 28, 3) := by decide +kernel
theorem dX5_kindHere_53 : decode cX5_kindHere 53 = .ok (.lload_n 1, 1) := by decide +kernel
theorem dX5_kindHere_54 : decode cX5_kindHere 54 = .ok (.ldc2_w 268, 3) := by decide +kernel
theorem dX5_kindHere_57 : decode cX5_kindHere 57 = .ok (.lcmp, 1) := by decide +kernel
theorem dX5_kindHere_58 : decode cX5_kindHere 58 = .ok (.ifCond .ne 7, 3) := by decide +kernel
theorem dX5_kindHere_61 : decode cX5_kindHere 61 = .ok (.iconst 4, 1) := by decide +kernel
theorem dX5_kindHere_62 : decode cX5_kindHere 62 = .ok (.goto 16, 3) := by decide +kernel
theorem dX5_kindHere_65 : decode cX5_kindHere 65 = .ok (.lload_n 1, 1) := by decide +kernel
theorem dX5_kindHere_66 : decode cX5_kindHere 66 = .ok (.ldc2_w 270, 3) := by decide +kernel
theorem dX5_kindHere_69 : decode cX5_kindHere 69 = .ok (.lcmp, 1) := by decide +kernel
theorem dX5_kindHere_70 : decode cX5_kindHere 70 = .ok (.ifCond .ne 7, 3) := by decide +kernel
theorem dX5_kindHere_73 : decode cX5_kindHere 73 = .ok (.iconst 5, 1) := by decide +kernel
theorem dX5_kindHere_74 : decode cX5_kindHere 74 = .ok (.goto 4, 3) := by decide +kernel
theorem dX5_kindHere_77 : decode cX5_kindHere 77 = .ok (.iconst (-1), 1) := by decide +kernel
theorem dX5_kindHere_78 : decode cX5_kindHere 78 = .ok (.ireturn, 1) := by decide +kernel
def finX5_kindHere (M : Mi) (N : Ml) : Int32 → Option Value × Mi × Ml := fun b => (some (Value.int b), M, N)
noncomputable def fX5_kindHere (M : Mi)   : Option (Int32) := (Option.bind (fX5_word M) (fun a1 => (if a1 = 703926347365 then (some 0) else (if a1 = 26727879 then (some 1) else (if a1 = 12343 then (some 2) else (if a1 = 15748 then (some 3) else (if a1 = 551282815156 then (some 4) else (if a1 = 3193326 then (some 5) else (some (-1))))))))))
theorem bX5_kindHere {Z : Zt} {E : Ec} {M : Mi} {N : Ml} (C : Ok 2 Z E cX5_kindHere 3 RX5 (some .int) 3)      : GT Z E 3 (finX5_kindHere M N) 0 [(0, .ref (zA Z 6 0))] [] M N (fX5_kindHere M ) := by
  unfold fX5_kindHere
  refine r_aload_n C dX5_kindHere_0 0 0 rfl rfl ?_
  refine r_bind (fun a1 ha1 => ?_)
  refine r_callV (rest := []) (st2 := [.long a1]) C (mX5_word (eL E) C.z M N a1 ha1) lk_X5_256 (rvM C) (by decide) rfl rfl (Nat.le_of_ble_eq_true rfl) dX5_kindHere_1 rfl ?_
  refine r_lstore_n (lv' := [(1, .long a1), (0, .ref (zA Z 6 0))]) C dX5_kindHere_4 1 rfl (by decide) rfl ?_
  refine r_lload_n C dX5_kindHere_5 1 0 rfl rfl ?_
  refine r_ldc2 (v := 703926347365) C dX5_kindHere_6 wd_1179 ?_
  refine r_lc_ne (tgt := 17) C dX5_kindHere_9 dX5_kindHere_10 (by decide) (fun c2 => ?_) (fun c2 => ?_)
  · refine r_lload_n C dX5_kindHere_17 1 0 rfl rfl ?_
    refine r_ldc2 (v := 26727879) C dX5_kindHere_18 wd_1180 ?_
    refine r_lc_ne (tgt := 29) C dX5_kindHere_21 dX5_kindHere_22 (by decide) (fun c3 => ?_) (fun c3 => ?_)
    · refine r_lload_n C dX5_kindHere_29 1 0 rfl rfl ?_
      refine r_ldc2 (v := 12343) C dX5_kindHere_30 wd_1181 ?_
      refine r_lc_ne (tgt := 41) C dX5_kindHere_33 dX5_kindHere_34 (by decide) (fun c4 => ?_) (fun c4 => ?_)
      · refine r_lload_n C dX5_kindHere_41 1 0 rfl rfl ?_
        refine r_ldc2 (v := 15748) C dX5_kindHere_42 wd_1182 ?_
        refine r_lc_ne (tgt := 53) C dX5_kindHere_45 dX5_kindHere_46 (by decide) (fun c5 => ?_) (fun c5 => ?_)
        · refine r_lload_n C dX5_kindHere_53 1 0 rfl rfl ?_
          refine r_ldc2 (v := 551282815156) C dX5_kindHere_54 wd_1183 ?_
          refine r_lc_ne (tgt := 65) C dX5_kindHere_57 dX5_kindHere_58 (by decide) (fun c6 => ?_) (fun c6 => ?_)
          · refine r_lload_n C dX5_kindHere_65 1 0 rfl rfl ?_
            refine r_ldc2 (v := 3193326) C dX5_kindHere_66 wd_1184 ?_
            refine r_lc_ne (tgt := 77) C dX5_kindHere_69 dX5_kindHere_70 (by decide) (fun c7 => ?_) (fun c7 => ?_)
            · refine r_iconst (v := (-1)) C dX5_kindHere_77 (by decide) ?_
              exact r_iret C dX5_kindHere_78 rfl
            · refine r_iconst (v := 5) C dX5_kindHere_73 (by decide) ?_
              refine r_goto (tgt := 78) C dX5_kindHere_74 (by decide) ?_
              exact r_iret C dX5_kindHere_78 rfl
          · refine r_iconst (v := 4) C dX5_kindHere_61 (by decide) ?_
            refine r_goto (tgt := 78) C dX5_kindHere_62 (by decide) ?_
            exact r_iret C dX5_kindHere_78 rfl
        · refine r_iconst (v := 3) C dX5_kindHere_49 (by decide) ?_
          refine r_goto (tgt := 78) C dX5_kindHere_50 (by decide) ?_
          exact r_iret C dX5_kindHere_78 rfl
      · refine r_iconst (v := 2) C dX5_kindHere_37 (by decide) ?_
        refine r_goto (tgt := 78) C dX5_kindHere_38 (by decide) ?_
        exact r_iret C dX5_kindHere_78 rfl
    · refine r_iconst (v := 1) C dX5_kindHere_25 (by decide) ?_
      refine r_goto (tgt := 78) C dX5_kindHere_26 (by decide) ?_
      exact r_iret C dX5_kindHere_78 rfl
  · refine r_iconst (v := 0) C dX5_kindHere_13 (by decide) ?_
    refine r_goto (tgt := 78) C dX5_kindHere_14 (by decide) ?_
    exact r_iret C dX5_kindHere_78 rfl
theorem mX5_kindHere (l : Launch) {Z : Zt} (hZ : Zok 2 Z) (M : Mi) (N : Ml) (b : Int32) (hb : fX5_kindHere M = some b) : Ct 2 Z l yX5_kindHere cX5_kindHere 3 (some .int) 3 [.ref (zA Z 6 0)] M N (some (Value.int b), M, N) :=
  metG (fin := (finX5_kindHere M N)) (by decide) (Nat.le_of_ble_eq_true rfl) (fun E _ C => bX5_kindHere C) hb
theorem dX5_placeHere_0 : decode cX5_placeHere 0 = .ok (.aload_n 0, 1) := by decide +kernel
theorem dX5_placeHere_1 : decode cX5_placeHere 1 = .ok (.invokevirtual 256, 3) := by decide +kernel
theorem dX5_placeHere_4 : decode cX5_placeHere 4 = .ok (.lstore_n 1, 1) := by decide +kernel
theorem dX5_placeHere_5 : decode cX5_placeHere 5 = .ok (.lload_n 1, 1) := by decide +kernel
theorem dX5_placeHere_6 : decode cX5_placeHere 6 = .ok (.ldc2_w 272, 3) := by decide +kernel
theorem dX5_placeHere_9 : decode cX5_placeHere 9 = .ok (.lcmp, 1) := by decide +kernel
theorem dX5_placeHere_10 : decode cX5_placeHere 10 = .ok (.ifCond .ne 7, 3) := by decide +kernel
theorem dX5_placeHere_13 : decode cX5_placeHere 13 = .ok (.iconst 0, 1) := by decide +kernel
theorem dX5_placeHere_14 : decode cX5_placeHere 14 = .ok (.goto 28, 3) := by decide +kernel
theorem dX5_placeHere_17 : decode cX5_placeHere 17 = .ok (.lload_n 1, 1) := by decide +kernel
theorem dX5_placeHere_18 : decode cX5_placeHere 18 = .ok (.ldc2_w 274, 3) := by decide +kernel
theorem dX5_placeHere_21 : decode cX5_placeHere 21 = .ok (.lcmp, 1) := by decide +kernel
theorem dX5_placeHere_22 : decode cX5_placeHere 22 = .ok (.ifCond .ne 7, 3) := by decide +kernel
theorem dX5_placeHere_25 : decode cX5_placeHere 25 = .ok (.iconst 1, 1) := by decide +kernel
theorem dX5_placeHere_26 : decode cX5_placeHere 26 = .ok (.goto 16, 3) := by decide +kernel
theorem dX5_placeHere_29 : decode cX5_placeHere 29 = .ok (.lload_n 1, 1) := by decide +kernel
theorem dX5_placeHere_30 : decode cX5_placeHere 30 = .ok (.ldc2_w 276, 3) := by decide +kernel
theorem dX5_placeHere_33 : decode cX5_placeHere 33 = .ok (.lcmp, 1) := by decide +kernel
theorem dX5_placeHere_34 : decode cX5_placeHere 34 = .ok (.ifCond .ne 7, 3) := by decide +kernel
theorem dX5_placeHere_37 : decode cX5_placeHere 37 = .ok (.iconst 2, 1) := by decide +kernel
theorem dX5_placeHere_38 : decode cX5_placeHere 38 = .ok (.goto 4, 3) := by decide +kernel
theorem dX5_placeHere_41 : decode cX5_placeHere 41 = .ok (.iconst (-1), 1) := by decide +kernel
theorem dX5_placeHere_42 : decode cX5_placeHere 42 = .ok (.ireturn, 1) := by decide +kernel
def finX5_placeHere (M : Mi) (N : Ml) : Int32 → Option Value × Mi × Ml := fun b => (some (Value.int b), M, N)
noncomputable def fX5_placeHere (M : Mi)   : Option (Int32) := (Option.bind (fX5_word M) (fun a1 => (if a1 = 654910919 then (some 0) else (if a1 = 20186245 then (some 1) else (if a1 = 2262120 then (some 2) else (some (-1)))))))
theorem bX5_placeHere {Z : Zt} {E : Ec} {M : Mi} {N : Ml} (C : Ok 2 Z E cX5_placeHere 3 RX5 (some .int) 3)      : GT Z E 3 (finX5_placeHere M N) 0 [(0, .ref (zA Z 6 0))] [] M N (fX5_placeHere M ) := by
  unfold fX5_placeHere
  refine r_aload_n C dX5_placeHere_0 0 0 rfl rfl ?_
  refine r_bind (fun a1 ha1 => ?_)
  refine r_callV (rest := []) (st2 := [.long a1]) C (mX5_word (eL E) C.z M N a1 ha1) lk_X5_256 (rvM C) (by decide) rfl rfl (Nat.le_of_ble_eq_true rfl) dX5_placeHere_1 rfl ?_
  refine r_lstore_n (lv' := [(1, .long a1), (0, .ref (zA Z 6 0))]) C dX5_placeHere_4 1 rfl (by decide) rfl ?_
  refine r_lload_n C dX5_placeHere_5 1 0 rfl rfl ?_
  refine r_ldc2 (v := 654910919) C dX5_placeHere_6 wd_1218 ?_
  refine r_lc_ne (tgt := 17) C dX5_placeHere_9 dX5_placeHere_10 (by decide) (fun c2 => ?_) (fun c2 => ?_)
  · refine r_lload_n C dX5_placeHere_17 1 0 rfl rfl ?_
    refine r_ldc2 (v := 20186245) C dX5_placeHere_18 wd_1219 ?_
    refine r_lc_ne (tgt := 29) C dX5_placeHere_21 dX5_placeHere_22 (by decide) (fun c3 => ?_) (fun c3 => ?_)
    · refine r_lload_n C dX5_placeHere_29 1 0 rfl rfl ?_
      refine r_ldc2 (v := 2262120) C dX5_placeHere_30 wd_1220 ?_
      refine r_lc_ne (tgt := 41) C dX5_placeHere_33 dX5_placeHere_34 (by decide) (fun c4 => ?_) (fun c4 => ?_)
      · refine r_iconst (v := (-1)) C dX5_placeHere_41 (by decide) ?_
        exact r_iret C dX5_placeHere_42 rfl
      · refine r_iconst (v := 2) C dX5_placeHere_37 (by decide) ?_
        refine r_goto (tgt := 42) C dX5_placeHere_38 (by decide) ?_
        exact r_iret C dX5_placeHere_42 rfl
    · refine r_iconst (v := 1) C dX5_placeHere_25 (by decide) ?_
      refine r_goto (tgt := 42) C dX5_placeHere_26 (by decide) ?_
      exact r_iret C dX5_placeHere_42 rfl
  · refine r_iconst (v := 0) C dX5_placeHere_13 (by decide) ?_
    refine r_goto (tgt := 42) C dX5_placeHere_14 (by decide) ?_
    exact r_iret C dX5_placeHere_42 rfl
theorem mX5_placeHere (l : Launch) {Z : Zt} (hZ : Zok 2 Z) (M : Mi) (N : Ml) (b : Int32) (hb : fX5_placeHere M = some b) : Ct 2 Z l yX5_placeHere cX5_placeHere 3 (some .int) 3 [.ref (zA Z 6 0)] M N (some (Value.int b), M, N) :=
  metG (fin := (finX5_placeHere M N)) (by decide) (Nat.le_of_ble_eq_true rfl) (fun E _ C => bX5_placeHere C) hb
theorem dX5_cellHere_0 : decode cX5_cellHere 0 = .ok (.aload_n 0, 1) := by decide +kernel
theorem dX5_cellHere_1 : decode cX5_cellHere 1 = .ok (.iconst 0, 1) := by decide +kernel
theorem dX5_cellHere_2 : decode cX5_cellHere 2 = .ok (.bipush 29, 2) := by decide +kernel
theorem dX5_cellHere_4 : decode cX5_cellHere 4 = .ok (.invokevirtual 278, 3) := by decide +kernel
theorem dX5_cellHere_7 : decode cX5_cellHere 7 = .ok (.return_, 1) := by decide +kernel
def finX5_cellHere (N : Ml) : Mi → Option Value × Mi × Ml := fun b => (none, b, N)
noncomputable def fX5_cellHere   (M : Mi) : Option (Mi) := (Option.bind (fX5_number M 0 29) (fun a1 => (some a1)))
theorem bX5_cellHere {Z : Zt} {E : Ec} {N : Ml} (C : Ok 2 Z E cX5_cellHere 1 RX5 none 5)    (M : Mi)  : GT Z E 1 (finX5_cellHere N) 0 [(0, .ref (zA Z 6 0))] [] M N (fX5_cellHere M) := by
  unfold fX5_cellHere
  refine r_aload_n C dX5_cellHere_0 0 0 rfl rfl ?_
  refine r_iconst (v := 0) C dX5_cellHere_1 (by decide) ?_
  refine r_bipush (v := 29) C dX5_cellHere_2 (by decide) ?_
  refine r_bind (fun a1 ha1 => ?_)
  refine r_callV (rest := []) (st2 := []) C (mX5_number (eL E) C.z M N 0 29 a1 ha1) lk_X5_278 (rvM C) (by decide) rfl rfl (Nat.le_of_ble_eq_true rfl) dX5_cellHere_4 rfl ?_
  exact r_vret C dX5_cellHere_7 rfl
theorem mX5_cellHere (l : Launch) {Z : Zt} (hZ : Zok 2 Z) (M : Mi) (N : Ml) (b : Mi) (hb : fX5_cellHere M = some b) : Ct 2 Z l yX5_cellHere cX5_cellHere 1 none 5 [.ref (zA Z 6 0)] M N (none, b, N) :=
  metG (fin := (finX5_cellHere N)) (by decide) (Nat.le_of_ble_eq_true rfl) (fun E _ C => bX5_cellHere C M) hb
theorem dX5_tortoiseItem_0 : decode cX5_tortoiseItem 0 = .ok (.aload_n 0, 1) := by decide +kernel
theorem dX5_tortoiseItem_1 : decode cX5_tortoiseItem 1 = .ok (.aload_n 0, 1) := by decide +kernel
theorem dX5_tortoiseItem_2 : decode cX5_tortoiseItem 2 = .ok (.getfield 7, 3) := by decide +kernel
theorem dX5_tortoiseItem_5 : decode cX5_tortoiseItem 5 = .ok (.iconst 1, 1) := by decide +kernel
theorem dX5_tortoiseItem_6 : decode cX5_tortoiseItem 6 = .ok (.iaload, 1) := by decide +kernel
theorem dX5_tortoiseItem_7 : decode cX5_tortoiseItem 7 = .ok (.bipush 8, 2) := by decide +kernel
theorem dX5_tortoiseItem_9 : decode cX5_tortoiseItem 9 = .ok (.if_icmp .ge 7, 3) := by decide +kernel
theorem dX5_tortoiseItem_12 : decode cX5_tortoiseItem 12 = .ok (.iconst 1, 1) := by decide +kernel
theorem dX5_tortoiseItem_13 : decode cX5_tortoiseItem 13 = .ok (.goto 4, 3) := by decide +kernel
theorem dX5_tortoiseItem_16 : decode cX5_tortoiseItem 16 = .ok (.iconst 0, 1) := by decide +kernel
theorem dX5_tortoiseItem_17 : decode cX5_tortoiseItem 17 = .ok (.invokevirtual 252, 3) := by decide +kernel
theorem dX5_tortoiseItem_20 : decode cX5_tortoiseItem 20 = .ok (.aload_n 0, 1) := by decide +kernel
theorem dX5_tortoiseItem_21 : decode cX5_tortoiseItem 21 = .ok (.aload_n 0, 1) := by decide +kernel
theorem dX5_tortoiseItem_22 : decode cX5_tortoiseItem 22 = .ok (.invokevirtual 256, 3) := by decide +kernel
theorem dX5_tortoiseItem_25 : decode cX5_tortoiseItem 25 = .ok (.ldc2_w 281, 3) := by decide +kernel
theorem dX5_tortoiseItem_28 : decode cX5_tortoiseItem 28 = .ok (.lcmp, 1) := by decide +kernel
theorem dX5_tortoiseItem_29 : decode cX5_tortoiseItem 29 = .ok (.ifCond .ne 7, 3) := by decide +kernel
theorem dX5_tortoiseItem_32 : decode cX5_tortoiseItem 32 = .ok (.iconst 1, 1) := by decide +kernel
theorem dX5_tortoiseItem_33 : decode cX5_tortoiseItem 33 = .ok (.goto 4, 3) := by decide +kernel
theorem dX5_tortoiseItem_36 : decode cX5_tortoiseItem 36 = .ok (.iconst 0, 1) := by decide +kernel
theorem dX5_tortoiseItem_37 : decode cX5_tortoiseItem 37 = .ok (.invokevirtual 252, 3) := by decide +kernel
theorem dX5_tortoiseItem_40 : decode cX5_tortoiseItem 40 = .ok (.aload_n 0, 1) := by decide +kernel
theorem dX5_tortoiseItem_41 : decode cX5_tortoiseItem 41 = .ok (.invokevirtual 283, 3) := by decide +kernel
theorem dX5_tortoiseItem_44 : decode cX5_tortoiseItem 44 = .ok (.aload_n 0, 1) := by decide +kernel
theorem dX5_tortoiseItem_45 : decode cX5_tortoiseItem 45 = .ok (.getfield 249, 3) := by decide +kernel
theorem dX5_tortoiseItem_48 : decode cX5_tortoiseItem 48 = .ok (.istore_n 2, 1) := by decide +kernel
theorem dX5_tortoiseItem_49 : decode cX5_tortoiseItem 49 = .ok (.iconst 0, 1) := by decide +kernel
theorem dX5_tortoiseItem_50 : decode cX5_tortoiseItem 50 = .ok (.istore_n 3, 1) := by decide +kernel
theorem dX5_tortoiseItem_51 : decode cX5_tortoiseItem 51 = .ok (.aload_n 0, 1) := by decide +kernel
theorem dX5_tortoiseItem_52 : decode cX5_tortoiseItem 52 = .ok (.getfield 238, 3) := by decide +kernel
theorem dX5_tortoiseItem_55 : decode cX5_tortoiseItem 55 = .ok (.ifCond .ne 47, 3) := by decide +kernel
theorem dX5_tortoiseItem_58 : decode cX5_tortoiseItem 58 = .ok (.aload_n 0, 1) := by decide +kernel
theorem dX5_tortoiseItem_59 : decode cX5_tortoiseItem 59 = .ok (.aload_n 0, 1) := by decide +kernel
theorem dX5_tortoiseItem_60 : decode cX5_tortoiseItem 60 = .ok (.getfield 226, 3) := by decide +kernel
theorem dX5_tortoiseItem_63 : decode cX5_tortoiseItem 63 = .ok (.invokevirtual 229, 3) := by decide +kernel
theorem dX5_tortoiseItem_66 : decode cX5_tortoiseItem 66 = .ok (.invokestatic 235, 3) := by decide +kernel
theorem dX5_tortoiseItem_69 : decode cX5_tortoiseItem 69 = .ok (.ifCond .eq 33, 3) := by decide +kernel
theorem dX5_tortoiseItem_72 : decode cX5_tortoiseItem 72 = .ok (.aload_n 0, 1) := by decide +kernel
theorem dX5_tortoiseItem_73 : decode cX5_tortoiseItem 73 = .ok (.iconst 0, 1) := by decide +kernel
theorem dX5_tortoiseItem_74 : decode cX5_tortoiseItem 74 = .ok (.bipush 11, 2) := by decide +kernel
theorem dX5_tortoiseItem_76 : decode cX5_tortoiseItem 76 = .ok (.invokevirtual 278, 3) := by decide +kernel
theorem dX5_tortoiseItem_79 : decode cX5_tortoiseItem 79 = .ok (.iload_n 3, 1) := by decide +kernel
theorem dX5_tortoiseItem_80 : decode cX5_tortoiseItem 80 = .ok (.aload_n 0, 1) := by decide +kernel
theorem dX5_tortoiseItem_81 : decode cX5_tortoiseItem 81 = .ok (.getfield 238, 3) := by decide +kernel
theorem dX5_tortoiseItem_84 : decode cX5_tortoiseItem 84 = .ok (.ifCond .eq 7, 3) := by decide +kernel
theorem dX5_tortoiseItem_87 : decode cX5_tortoiseItem 87 = .ok (.iconst 0, 1) := by decide +kernel
theorem dX5_tortoiseItem_88 : decode cX5_tortoiseItem 88 = .ok (.goto 9, 3) := by decide +kernel
theorem dX5_tortoiseItem_91 : decode cX5_tortoiseItem 91 = .ok (.iconst 1, 1) := by decide +kernel
theorem dX5_tortoiseItem_92 : decode cX5_tortoiseItem 92 = .ok (.aload_n 0, 1) := by decide +kernel
theorem dX5_tortoiseItem_93 : decode cX5_tortoiseItem 93 = .ok (.getfield 249, 3) := by decide +kernel
theorem dX5_tortoiseItem_96 : decode cX5_tortoiseItem 96 = .ok (.ishl, 1) := by decide +kernel
theorem dX5_tortoiseItem_97 : decode cX5_tortoiseItem 97 = .ok (.ior, 1) := by decide +kernel
theorem dX5_tortoiseItem_98 : decode cX5_tortoiseItem 98 = .ok (.istore_n 3, 1) := by decide +kernel
theorem dX5_tortoiseItem_99 : decode cX5_tortoiseItem 99 = .ok (.goto (-48), 3) := by decide +kernel
theorem dX5_tortoiseItem_102 : decode cX5_tortoiseItem 102 = .ok (.aload_n 0, 1) := by decide +kernel
theorem dX5_tortoiseItem_103 : decode cX5_tortoiseItem 103 = .ok (.getfield 238, 3) := by decide +kernel
theorem dX5_tortoiseItem_106 : decode cX5_tortoiseItem 106 = .ok (.ifCond .ne 12, 3) := by decide +kernel
theorem dX5_tortoiseItem_109 : decode cX5_tortoiseItem 109 = .ok (.aload_n 0, 1) := by decide +kernel
theorem dX5_tortoiseItem_110 : decode cX5_tortoiseItem 110 = .ok (.iload_n 1, 1) := by decide +kernel
theorem dX5_tortoiseItem_111 : decode cX5_tortoiseItem 111 = .ok (.iload_n 2, 1) := by decide +kernel
theorem dX5_tortoiseItem_112 : decode cX5_tortoiseItem 112 = .ok (.iload_n 3, 1) := by decide +kernel
theorem dX5_tortoiseItem_113 : decode cX5_tortoiseItem 113 = .ok (.invokevirtual 115, 3) := by decide +kernel
theorem dX5_tortoiseItem_116 : decode cX5_tortoiseItem 116 = .ok (.istore 4, 2) := by decide +kernel
theorem dX5_tortoiseItem_118 : decode cX5_tortoiseItem 118 = .ok (.return_, 1) := by decide +kernel
def finX5_tortoiseItem (N : Ml) : Mi → Option Value × Mi × Ml := fun b => (none, b, N)
noncomputable def fX5_tortoiseItem_102   (M : Mi) (x1 : Int32) (x2 : Int32) (x3 : Int32) : Option (Mi) := (if (M 6 6) = 0 then (Option.bind (fX5_adds (M 0) x1 x2 x3) (fun a10 => (some (sR M 0 (a10.2))))) else (some M))
theorem bX5_tortoiseItem_102 {Z : Zt} {E : Ec} {N : Ml} (C : Ok 2 Z E cX5_tortoiseItem 5 RX5 none 6)    (M : Mi) (x1 : Int32) (x2 : Int32) (x3 : Int32)  : GT Z E 5 (finX5_tortoiseItem N) 102 [(0, .ref (zA Z 6 0)), (1, .int x1), (2, .int x2), (3, .int x3)] [] M N (fX5_tortoiseItem_102 M x1 x2 x3) := by
  unfold fX5_tortoiseItem_102
  refine r_aload_n C dX5_tortoiseItem_102 0 0 rfl rfl ?_
  refine gf_X5_238 (v := (M 6 6)) C dX5_tortoiseItem_103 rfl ?_
  refine r_if_ne (tgt := 118) C dX5_tortoiseItem_106 (by decide) (fun c9 => ?_) (fun c9 => ?_)
  · exact r_vret C dX5_tortoiseItem_118 rfl
  · refine r_aload_n C dX5_tortoiseItem_109 0 0 rfl rfl ?_
    refine r_iload_n C dX5_tortoiseItem_110 1 1 rfl rfl ?_
    refine r_iload_n C dX5_tortoiseItem_111 2 2 rfl rfl ?_
    refine r_iload_n C dX5_tortoiseItem_112 3 3 rfl rfl ?_
    refine r_bind (fun a10 ha10 => ?_)
    refine r_callV (rest := []) (st2 := [.int a10.1]) C (mX5_adds (eL E) C.z M _ (M 0) x1 x2 x3 a10 ha10).selfW lk_X5_115 (rvM C) (by decide) rfl rfl (Nat.le_of_ble_eq_true rfl) dX5_tortoiseItem_113 rfl ?_
    refine r_istore (lv' := [(4, .int a10.1), (0, .ref (zA Z 6 0)), (1, .int x1), (2, .int x2), (3, .int x3)]) C dX5_tortoiseItem_116 (by decide) rfl ?_
    exact r_vret C dX5_tortoiseItem_118 rfl
noncomputable def fX5_tortoiseItem_51   : Nat → Mi → Int32 → Int32 → Int32 → Option (Mi)
  | 0 => fun _ _ _ _ => none
  | n + 1 => fun M x1 x2 x3 => (if (M 6 6) = 0 then (Option.bind (fX5_byteAt M (M 6 3)) (fun a11 => (if (fX5_isDigit a11) = 0 then (fX5_tortoiseItem_102 M x1 x2 x3) else (Option.bind (fX5_number M 0 11) (fun a13 => (if (a13 6 6) = 0 then ((fX5_tortoiseItem_51 n) a13 x1 x2 (x3 ||| (1 <<< ((a13 6 5) &&& 31)))) else ((fX5_tortoiseItem_51 n) a13 x1 x2 (x3 ||| 0)))))))) else (fX5_tortoiseItem_102 M x1 x2 x3))
theorem bX5_tortoiseItem_51 {Z : Zt} {E : Ec} {N : Ml} (C : Ok 2 Z E cX5_tortoiseItem 5 RX5 none 6)    : ∀ (n : Nat) (M : Mi) (x1 : Int32) (x2 : Int32) (x3 : Int32), GT Z E 5 (finX5_tortoiseItem N) 51 [(0, .ref (zA Z 6 0)), (1, .int x1), (2, .int x2), (3, .int x3)] [] M N (fX5_tortoiseItem_51 n M x1 x2 x3) := by
  intro n
  induction n with
  | zero => intro M x1 x2 x3; exact r_none
  | succ n ih =>
    intro M x1 x2 x3
    rw [fX5_tortoiseItem_51]
    refine r_aload_n C dX5_tortoiseItem_51 0 0 rfl rfl ?_
    refine gf_X5_238 (v := (M 6 6)) C dX5_tortoiseItem_52 rfl ?_
    refine r_if_ne (tgt := 102) C dX5_tortoiseItem_55 (by decide) (fun c8 => ?_) (fun c8 => ?_)
    · exact bX5_tortoiseItem_102 C M x1 x2 x3
    · refine r_aload_n C dX5_tortoiseItem_58 0 0 rfl rfl ?_
      refine r_aload_n C dX5_tortoiseItem_59 0 0 rfl rfl ?_
      refine gf_X5_226 (v := (M 6 3)) C dX5_tortoiseItem_60 rfl ?_
      refine r_bind (fun a11 ha11 => ?_)
      refine r_callV (rest := []) (st2 := [.int a11]) C (mX5_byteAt (eL E) C.z M N (M 6 3) a11 ha11) lk_X5_229 (rvM C) (by decide) rfl rfl (Nat.le_of_ble_eq_true rfl) dX5_tortoiseItem_63 rfl ?_
      refine r_callS (rest := []) (st2 := [.int (fX5_isDigit a11)]) C (mX5_isDigit (eL E) C.z _ _ a11) lk_X5_235 (by decide) rfl rfl (Nat.le_of_ble_eq_true rfl) dX5_tortoiseItem_66 rfl ?_
      refine r_if_eq (tgt := 102) C dX5_tortoiseItem_69 (by decide) (fun c12 => ?_) (fun c12 => ?_)
      · exact bX5_tortoiseItem_102 C M x1 x2 x3
      · refine r_aload_n C dX5_tortoiseItem_72 0 0 rfl rfl ?_
        refine r_iconst (v := 0) C dX5_tortoiseItem_73 (by decide) ?_
        refine r_bipush (v := 11) C dX5_tortoiseItem_74 (by decide) ?_
        refine r_bind (fun a13 ha13 => ?_)
        refine r_callV (rest := []) (st2 := []) C (mX5_number (eL E) C.z M N 0 11 a13 ha13) lk_X5_278 (rvM C) (by decide) rfl rfl (Nat.le_of_ble_eq_true rfl) dX5_tortoiseItem_76 rfl ?_
        refine r_iload_n C dX5_tortoiseItem_79 3 3 rfl rfl ?_
        refine r_aload_n C dX5_tortoiseItem_80 0 0 rfl rfl ?_
        refine gf_X5_238 (v := (a13 6 6)) C dX5_tortoiseItem_81 rfl ?_
        refine r_if_eq (tgt := 91) C dX5_tortoiseItem_84 (by decide) (fun c14 => ?_) (fun c14 => ?_)
        · refine r_iconst (v := 1) C dX5_tortoiseItem_91 (by decide) ?_
          refine r_aload_n C dX5_tortoiseItem_92 0 0 rfl rfl ?_
          refine gf_X5_249 (v := (a13 6 5)) C dX5_tortoiseItem_93 rfl ?_
          refine r_ishl C dX5_tortoiseItem_96 ?_
          refine r_ior C dX5_tortoiseItem_97 ?_
          refine r_istore_n (lv' := [(3, .int (x3 ||| (1 <<< ((a13 6 5) &&& 31)))), (0, .ref (zA Z 6 0)), (1, .int x1), (2, .int x2)]) C dX5_tortoiseItem_98 3 rfl (by decide) rfl ?_
          refine r_goto (tgt := 51) C dX5_tortoiseItem_99 (by decide) ?_
          refine r_lv [1, 2, 3, 0] (lv' := [(0, .ref (zA Z 6 0)), (1, .int x1), (2, .int x2), (3, .int (x3 ||| (1 <<< ((a13 6 5) &&& 31))))]) rfl ?_
          exact ih a13 x1 x2 (x3 ||| (1 <<< ((a13 6 5) &&& 31)))
        · refine r_iconst (v := 0) C dX5_tortoiseItem_87 (by decide) ?_
          refine r_goto (tgt := 97) C dX5_tortoiseItem_88 (by decide) ?_
          refine r_ior C dX5_tortoiseItem_97 ?_
          refine r_istore_n (lv' := [(3, .int (x3 ||| 0)), (0, .ref (zA Z 6 0)), (1, .int x1), (2, .int x2)]) C dX5_tortoiseItem_98 3 rfl (by decide) rfl ?_
          refine r_goto (tgt := 51) C dX5_tortoiseItem_99 (by decide) ?_
          refine r_lv [1, 2, 3, 0] (lv' := [(0, .ref (zA Z 6 0)), (1, .int x1), (2, .int x2), (3, .int (x3 ||| 0))]) rfl ?_
          exact ih a13 x1 x2 (x3 ||| 0)
noncomputable def fX5_tortoiseItem_37   (M : Mi) (x1 : Int32) (s0 : Int32) : Option (Mi) := (Option.bind (fX5_wants M s0) (fun a6 => (Option.bind (fX5_cellHere a6) (fun a7 => (fX5_tortoiseItem_51 fu a7 x1 (a7 6 5) 0)))))
theorem bX5_tortoiseItem_37 {Z : Zt} {E : Ec} {N : Ml} (C : Ok 2 Z E cX5_tortoiseItem 5 RX5 none 6)    (M : Mi) (x1 : Int32) (s0 : Int32)  : GT Z E 5 (finX5_tortoiseItem N) 37 [(0, .ref (zA Z 6 0)), (1, .int x1)] [.int s0, .ref (zA Z 6 0)] M N (fX5_tortoiseItem_37 M x1 s0) := by
  unfold fX5_tortoiseItem_37
  refine r_bind (fun a6 ha6 => ?_)
  refine r_callV (rest := []) (st2 := []) C (mX5_wants (eL E) C.z M N s0 a6 ha6) lk_X5_252 (rvM C) (by decide) rfl rfl (Nat.le_of_ble_eq_true rfl) dX5_tortoiseItem_37 rfl ?_
  refine r_aload_n C dX5_tortoiseItem_40 0 0 rfl rfl ?_
  refine r_bind (fun a7 ha7 => ?_)
  refine r_callV (rest := []) (st2 := []) C (mX5_cellHere (eL E) C.z a6 N a7 ha7) lk_X5_283 (rvM C) (by decide) rfl rfl (Nat.le_of_ble_eq_true rfl) dX5_tortoiseItem_41 rfl ?_
  refine r_aload_n C dX5_tortoiseItem_44 0 0 rfl rfl ?_
  refine gf_X5_249 (v := (a7 6 5)) C dX5_tortoiseItem_45 rfl ?_
  refine r_istore_n (lv' := [(2, .int (a7 6 5)), (0, .ref (zA Z 6 0)), (1, .int x1)]) C dX5_tortoiseItem_48 2 rfl (by decide) rfl ?_
  refine r_iconst (v := 0) C dX5_tortoiseItem_49 (by decide) ?_
  refine r_istore_n (lv' := [(3, .int 0), (2, .int (a7 6 5)), (0, .ref (zA Z 6 0)), (1, .int x1)]) C dX5_tortoiseItem_50 3 rfl (by decide) rfl ?_
  refine r_lv [2, 3, 1, 0] (lv' := [(0, .ref (zA Z 6 0)), (1, .int x1), (2, .int (a7 6 5)), (3, .int 0)]) rfl ?_
  exact bX5_tortoiseItem_51 C fu a7 x1 (a7 6 5) 0
noncomputable def fX5_tortoiseItem_17   (M : Mi) (x1 : Int32) (s0 : Int32) : Option (Mi) := (Option.bind (fX5_wants M s0) (fun a3 => (Option.bind (fX5_word a3) (fun a4 => (if a4 = 52 then (fX5_tortoiseItem_37 a3 x1 1) else (fX5_tortoiseItem_37 a3 x1 0))))))
theorem bX5_tortoiseItem_17 {Z : Zt} {E : Ec} {N : Ml} (C : Ok 2 Z E cX5_tortoiseItem 5 RX5 none 6)    (M : Mi) (x1 : Int32) (s0 : Int32)  : GT Z E 5 (finX5_tortoiseItem N) 17 [(0, .ref (zA Z 6 0)), (1, .int x1)] [.int s0, .ref (zA Z 6 0)] M N (fX5_tortoiseItem_17 M x1 s0) := by
  unfold fX5_tortoiseItem_17
  refine r_bind (fun a3 ha3 => ?_)
  refine r_callV (rest := []) (st2 := []) C (mX5_wants (eL E) C.z M N s0 a3 ha3) lk_X5_252 (rvM C) (by decide) rfl rfl (Nat.le_of_ble_eq_true rfl) dX5_tortoiseItem_17 rfl ?_
  refine r_aload_n C dX5_tortoiseItem_20 0 0 rfl rfl ?_
  refine r_aload_n C dX5_tortoiseItem_21 0 0 rfl rfl ?_
  refine r_bind (fun a4 ha4 => ?_)
  refine r_callV (rest := [.ref (zA Z 6 0)]) (st2 := [.long a4, .ref (zA Z 6 0)]) C (mX5_word (eL E) C.z a3 N a4 ha4) lk_X5_256 (rvM C) (by decide) rfl rfl (Nat.le_of_ble_eq_true rfl) dX5_tortoiseItem_22 rfl ?_
  refine r_ldc2 (v := 52) C dX5_tortoiseItem_25 wd_1193 ?_
  refine r_lc_ne (tgt := 36) C dX5_tortoiseItem_28 dX5_tortoiseItem_29 (by decide) (fun c5 => ?_) (fun c5 => ?_)
  · refine r_iconst (v := 0) C dX5_tortoiseItem_36 (by decide) ?_
    exact bX5_tortoiseItem_37 C a3 x1 0
  · refine r_iconst (v := 1) C dX5_tortoiseItem_32 (by decide) ?_
    refine r_goto (tgt := 37) C dX5_tortoiseItem_33 (by decide) ?_
    exact bX5_tortoiseItem_37 C a3 x1 1
noncomputable def fX5_tortoiseItem   (M : Mi) (x1 : Int32) : Option (Mi) := (fX5_tortoiseItem_17 M x1 (if 8 ≤ (M 0 1) then 0 else 1 : Int32))
theorem bX5_tortoiseItem {Z : Zt} {E : Ec} {N : Ml} (C : Ok 2 Z E cX5_tortoiseItem 5 RX5 none 6)    (M : Mi) (x1 : Int32)  : GT Z E 5 (finX5_tortoiseItem N) 0 [(0, .ref (zA Z 6 0)), (1, .int x1)] [] M N (fX5_tortoiseItem M x1) := by
  unfold fX5_tortoiseItem
  refine r_aload_n C dX5_tortoiseItem_0 0 0 rfl rfl ?_
  refine r_aload_n C dX5_tortoiseItem_1 0 0 rfl rfl ?_
  refine gf_X5_7 C dX5_tortoiseItem_2 ?_
  refine r_iconst (v := 1) C dX5_tortoiseItem_5 (by decide) ?_
  refine ald_M (v := (M 0 1)) C mI_0 (by decide) rfl dX5_tortoiseItem_6 ?_
  refine r_bipush (v := 8) C dX5_tortoiseItem_7 (by decide) ?_
  refine r_sel (tj := 17) (sj := [.int (if 8 ≤ (M 0 1) then 0 else 1 : Int32), .ref (zA Z 6 0)]) ?_ (fun k2 => ?_)
  · exact bX5_tortoiseItem_17 C M x1 (if 8 ≤ (M 0 1) then 0 else 1 : Int32)
  · refine r_same (P := 8 ≤ (M 0 1)) ?_
    refine r_ic_ge (tgt := 16) C dX5_tortoiseItem_9 (by decide) (fun c1 => ?_) (fun c1 => ?_)
    · refine r_iconst (v := 0) C dX5_tortoiseItem_16 (by decide) ?_
      exact r_stk (if_pos c1) k2
    · refine r_iconst (v := 1) C dX5_tortoiseItem_12 (by decide) ?_
      refine r_goto (tgt := 17) C dX5_tortoiseItem_13 (by decide) ?_
      exact r_stk (if_neg c1) k2
theorem mX5_tortoiseItem (l : Launch) {Z : Zt} (hZ : Zok 2 Z) (M : Mi) (N : Ml) (x1 : Int32) (b : Mi) (hb : fX5_tortoiseItem M x1 = some b) : Ct 2 Z l yX5_tortoiseItem cX5_tortoiseItem 5 none 6 [.ref (zA Z 6 0), .int x1] M N (none, b, N) :=
  metG (fin := (finX5_tortoiseItem N)) (by decide) (Nat.le_of_ble_eq_true rfl) (fun E _ C => bX5_tortoiseItem C M x1) hb
theorem dX5_fenceItem_0 : decode cX5_fenceItem 0 = .ok (.aload_n 0, 1) := by decide +kernel
theorem dX5_fenceItem_1 : decode cX5_fenceItem 1 = .ok (.iconst 1, 1) := by decide +kernel
theorem dX5_fenceItem_2 : decode cX5_fenceItem 2 = .ok (.invokevirtual 252, 3) := by decide +kernel
theorem dX5_fenceItem_5 : decode cX5_fenceItem 5 = .ok (.aload_n 0, 1) := by decide +kernel
theorem dX5_fenceItem_6 : decode cX5_fenceItem 6 = .ok (.invokevirtual 283, 3) := by decide +kernel
theorem dX5_fenceItem_9 : decode cX5_fenceItem 9 = .ok (.aload_n 0, 1) := by decide +kernel
theorem dX5_fenceItem_10 : decode cX5_fenceItem 10 = .ok (.getfield 238, 3) := by decide +kernel
theorem dX5_fenceItem_13 : decode cX5_fenceItem 13 = .ok (.ifCond .ne 12, 3) := by decide +kernel
theorem dX5_fenceItem_16 : decode cX5_fenceItem 16 = .ok (.aload_n 0, 1) := by decide +kernel
theorem dX5_fenceItem_17 : decode cX5_fenceItem 17 = .ok (.aload_n 0, 1) := by decide +kernel
theorem dX5_fenceItem_18 : decode cX5_fenceItem 18 = .ok (.getfield 249, 3) := by decide +kernel
theorem dX5_fenceItem_21 : decode cX5_fenceItem 21 = .ok (.iload_n 1, 1) := by decide +kernel
theorem dX5_fenceItem_22 : decode cX5_fenceItem 22 = .ok (.invokevirtual 72, 3) := by decide +kernel
theorem dX5_fenceItem_25 : decode cX5_fenceItem 25 = .ok (.return_, 1) := by decide +kernel
def finX5_fenceItem (N : Ml) : Mi → Option Value × Mi × Ml := fun b => (none, b, N)
noncomputable def fX5_fenceItem   (M : Mi) (x1 : Int32) : Option (Mi) := (Option.bind (fX5_wants M 1) (fun a1 => (Option.bind (fX5_cellHere a1) (fun a2 => (if (a2 6 6) = 0 then (Option.bind (fX5_fences (a2 0) (a2 6 5) x1) (fun a4 => (some (sR a2 0 a4)))) else (some a2))))))
theorem bX5_fenceItem {Z : Zt} {E : Ec} {N : Ml} (C : Ok 2 Z E cX5_fenceItem 2 RX5 none 6)    (M : Mi) (x1 : Int32)  : GT Z E 2 (finX5_fenceItem N) 0 [(0, .ref (zA Z 6 0)), (1, .int x1)] [] M N (fX5_fenceItem M x1) := by
  unfold fX5_fenceItem
  refine r_aload_n C dX5_fenceItem_0 0 0 rfl rfl ?_
  refine r_iconst (v := 1) C dX5_fenceItem_1 (by decide) ?_
  refine r_bind (fun a1 ha1 => ?_)
  refine r_callV (rest := []) (st2 := []) C (mX5_wants (eL E) C.z M N 1 a1 ha1) lk_X5_252 (rvM C) (by decide) rfl rfl (Nat.le_of_ble_eq_true rfl) dX5_fenceItem_2 rfl ?_
  refine r_aload_n C dX5_fenceItem_5 0 0 rfl rfl ?_
  refine r_bind (fun a2 ha2 => ?_)
  refine r_callV (rest := []) (st2 := []) C (mX5_cellHere (eL E) C.z a1 N a2 ha2) lk_X5_283 (rvM C) (by decide) rfl rfl (Nat.le_of_ble_eq_true rfl) dX5_fenceItem_6 rfl ?_
  refine r_aload_n C dX5_fenceItem_9 0 0 rfl rfl ?_
  refine gf_X5_238 (v := (a2 6 6)) C dX5_fenceItem_10 rfl ?_
  refine r_if_ne (tgt := 25) C dX5_fenceItem_13 (by decide) (fun c3 => ?_) (fun c3 => ?_)
  · exact r_vret C dX5_fenceItem_25 rfl
  · refine r_aload_n C dX5_fenceItem_16 0 0 rfl rfl ?_
    refine r_aload_n C dX5_fenceItem_17 0 0 rfl rfl ?_
    refine gf_X5_249 (v := (a2 6 5)) C dX5_fenceItem_18 rfl ?_
    refine r_iload_n C dX5_fenceItem_21 1 1 rfl rfl ?_
    refine r_bind (fun a4 ha4 => ?_)
    refine r_callV (rest := []) (st2 := []) C (mX5_fences (eL E) C.z a2 _ (a2 0) (a2 6 5) x1 a4 ha4).selfW lk_X5_72 (rvM C) (by decide) rfl rfl (Nat.le_of_ble_eq_true rfl) dX5_fenceItem_22 rfl ?_
    exact r_vret C dX5_fenceItem_25 rfl
theorem mX5_fenceItem (l : Launch) {Z : Zt} (hZ : Zok 2 Z) (M : Mi) (N : Ml) (x1 : Int32) (b : Mi) (hb : fX5_fenceItem M x1 = some b) : Ct 2 Z l yX5_fenceItem cX5_fenceItem 2 none 6 [.ref (zA Z 6 0), .int x1] M N (none, b, N) :=
  metG (fin := (finX5_fenceItem N)) (by decide) (Nat.le_of_ble_eq_true rfl) (fun E _ C => bX5_fenceItem C M x1) hb
theorem dX5_rainItem_0 : decode cX5_rainItem 0 = .ok (.aload_n 0, 1) := by decide +kernel
theorem dX5_rainItem_1 : decode cX5_rainItem 1 = .ok (.iconst 1, 1) := by decide +kernel
theorem dX5_rainItem_2 : decode cX5_rainItem 2 = .ok (.invokevirtual 252, 3) := by decide +kernel
theorem dX5_rainItem_5 : decode cX5_rainItem 5 = .ok (.aload_n 0, 1) := by decide +kernel
theorem dX5_rainItem_6 : decode cX5_rainItem 6 = .ok (.iconst 0, 1) := by decide +kernel
theorem dX5_rainItem_7 : decode cX5_rainItem 7 = .ok (.bipush 23, 2) := by decide +kernel
theorem dX5_rainItem_9 : decode cX5_rainItem 9 = .ok (.invokevirtual 278, 3) := by decide +kernel
theorem dX5_rainItem_12 : decode cX5_rainItem 12 = .ok (.aload_n 0, 1) := by decide +kernel
theorem dX5_rainItem_13 : decode cX5_rainItem 13 = .ok (.getfield 249, 3) := by decide +kernel
theorem dX5_rainItem_16 : decode cX5_rainItem 16 = .ok (.istore_n 1, 1) := by decide +kernel
theorem dX5_rainItem_17 : decode cX5_rainItem 17 = .ok (.iload_n 1, 1) := by decide +kernel
theorem dX5_rainItem_18 : decode cX5_rainItem 18 = .ok (.istore_n 2, 1) := by decide +kernel
theorem dX5_rainItem_19 : decode cX5_rainItem 19 = .ok (.aload_n 0, 1) := by decide +kernel
theorem dX5_rainItem_20 : decode cX5_rainItem 20 = .ok (.invokevirtual 256, 3) := by decide +kernel
theorem dX5_rainItem_23 : decode cX5_rainItem 23 = .ok (.ldc2_w 286, 3) := by decide +kernel
theorem dX5_rainItem_26 : decode cX5_rainItem 26 = .ok (.lcmp, 1) := by decide +kernel
theorem dX5_rainItem_27 : decode cX5_rainItem 27 = .ok (.ifCond .ne 20, 3) := by decide +kernel
theorem dX5_rainItem_30 : decode cX5_rainItem 30 = .ok (.aload_n 0, 1) := by decide +kernel
theorem dX5_rainItem_31 : decode cX5_rainItem 31 = .ok (.iconst 1, 1) := by decide +kernel
theorem dX5_rainItem_32 : decode cX5_rainItem 32 = .ok (.invokevirtual 252, 3) := by decide +kernel
theorem dX5_rainItem_35 : decode cX5_rainItem 35 = .ok (.aload_n 0, 1) := by decide +kernel
theorem dX5_rainItem_36 : decode cX5_rainItem 36 = .ok (.iload_n 1, 1) := by decide +kernel
theorem dX5_rainItem_37 : decode cX5_rainItem 37 = .ok (.bipush 23, 2) := by decide +kernel
theorem dX5_rainItem_39 : decode cX5_rainItem 39 = .ok (.invokevirtual 278, 3) := by decide +kernel
theorem dX5_rainItem_42 : decode cX5_rainItem 42 = .ok (.aload_n 0, 1) := by decide +kernel
theorem dX5_rainItem_43 : decode cX5_rainItem 43 = .ok (.getfield 249, 3) := by decide +kernel
theorem dX5_rainItem_46 : decode cX5_rainItem 46 = .ok (.istore_n 2, 1) := by decide +kernel
theorem dX5_rainItem_47 : decode cX5_rainItem 47 = .ok (.iload_n 1, 1) := by decide +kernel
theorem dX5_rainItem_48 : decode cX5_rainItem 48 = .ok (.istore_n 3, 1) := by decide +kernel
theorem dX5_rainItem_49 : decode cX5_rainItem 49 = .ok (.iload_n 3, 1) := by decide +kernel
theorem dX5_rainItem_50 : decode cX5_rainItem 50 = .ok (.iload_n 2, 1) := by decide +kernel
theorem dX5_rainItem_51 : decode cX5_rainItem 51 = .ok (.if_icmp .gt 29, 3) := by decide +kernel
theorem dX5_rainItem_54 : decode cX5_rainItem 54 = .ok (.aload_n 0, 1) := by decide +kernel
theorem dX5_rainItem_55 : decode cX5_rainItem 55 = .ok (.getfield 238, 3) := by decide +kernel
theorem dX5_rainItem_58 : decode cX5_rainItem 58 = .ok (.ifCond .ne 22, 3) := by decide +kernel
theorem dX5_rainItem_61 : decode cX5_rainItem 61 = .ok (.aload_n 0, 1) := by decide +kernel
theorem dX5_rainItem_62 : decode cX5_rainItem 62 = .ok (.getfield 7, 3) := by decide +kernel
theorem dX5_rainItem_65 : decode cX5_rainItem 65 = .ok (.bipush 6, 2) := by decide +kernel
theorem dX5_rainItem_67 : decode cX5_rainItem 67 = .ok (.dup2, 1) := by decide +kernel
theorem dX5_rainItem_68 : decode cX5_rainItem 68 = .ok (.iaload, 1) := by decide +kernel
theorem dX5_rainItem_69 : decode cX5_rainItem 69 = .ok (.iconst 1, 1) := by decide +kernel
theorem dX5_rainItem_70 : decode cX5_rainItem 70 = .ok (.iload_n 3, 1) := by decide +kernel
theorem dX5_rainItem_71 : decode cX5_rainItem 71 = .ok (.ishl, 1) := by decide +kernel
theorem dX5_rainItem_72 : decode cX5_rainItem 72 = .ok (.ior, 1) := by decide +kernel
theorem dX5_rainItem_73 : decode cX5_rainItem 73 = .ok (.iastore, 1) := by decide +kernel
theorem dX5_rainItem_74 : decode cX5_rainItem 74 = .ok (.iinc 3 1, 3) := by decide +kernel
theorem dX5_rainItem_77 : decode cX5_rainItem 77 = .ok (.goto (-28), 3) := by decide +kernel
theorem dX5_rainItem_80 : decode cX5_rainItem 80 = .ok (.return_, 1) := by decide +kernel
def finX5_rainItem (N : Ml) : Mi → Option Value × Mi × Ml := fun b => (none, b, N)
noncomputable def fX5_rainItem_49   : Nat → Mi → Int32 → Int32 → Option (Mi)
  | 0 => fun _ _ _ => none
  | n + 1 => fun M x2 x3 => (if x2 < x3 then (some M) else (if (M 6 6) = 0 then ((fX5_rainItem_49 n) (wM M 0 6 ((M 0 6) ||| (1 <<< (x3 &&& 31)))) x2 (x3 + 1)) else (some M)))
theorem bX5_rainItem_49 {Z : Zt} {E : Ec} {N : Ml} (C : Ok 2 Z E cX5_rainItem 4 RX5 none 5)    : ∀ (n : Nat) (M : Mi) (x2 : Int32) (x3 : Int32), GT Z E 4 (finX5_rainItem N) 49 [(0, .ref (zA Z 6 0)), (2, .int x2), (3, .int x3)] [] M N (fX5_rainItem_49 n M x2 x3) := by
  intro n
  induction n with
  | zero => intro M x2 x3; exact r_none
  | succ n ih =>
    intro M x2 x3
    rw [fX5_rainItem_49]
    refine r_iload_n C dX5_rainItem_49 3 2 rfl rfl ?_
    refine r_iload_n C dX5_rainItem_50 2 1 rfl rfl ?_
    refine r_ic_gt (tgt := 80) C dX5_rainItem_51 (by decide) (fun c5 => ?_) (fun c5 => ?_)
    · exact r_vret C dX5_rainItem_80 rfl
    · refine r_aload_n C dX5_rainItem_54 0 0 rfl rfl ?_
      refine gf_X5_238 (v := (M 6 6)) C dX5_rainItem_55 rfl ?_
      refine r_if_ne (tgt := 80) C dX5_rainItem_58 (by decide) (fun c6 => ?_) (fun c6 => ?_)
      · exact r_vret C dX5_rainItem_80 rfl
      · refine r_aload_n C dX5_rainItem_61 0 0 rfl rfl ?_
        refine gf_X5_7 C dX5_rainItem_62 ?_
        refine r_bipush (v := 6) C dX5_rainItem_65 (by decide) ?_
        refine r_dup2 C dX5_rainItem_67 rfl rfl ?_
        refine ald_M (v := (M 0 6)) C mI_0 (by decide) rfl dX5_rainItem_68 ?_
        refine r_iconst (v := 1) C dX5_rainItem_69 (by decide) ?_
        refine r_iload_n C dX5_rainItem_70 3 2 rfl rfl ?_
        refine r_ishl C dX5_rainItem_71 ?_
        refine r_ior C dX5_rainItem_72 ?_
        refine ast_M (M' := (wM M 0 6 ((M 0 6) ||| (1 <<< (x3 &&& 31))))) C mI_0 (by decide) rfl dX5_rainItem_73 ?_
        refine r_iinc (v := (x3 + 1)) (lv' := [(3, .int (x3 + 1)), (0, .ref (zA Z 6 0)), (2, .int x2)]) C dX5_rainItem_74 2 rfl rfl (by decide) rfl ?_
        refine r_goto (tgt := 49) C dX5_rainItem_77 (by decide) ?_
        refine r_lv [1, 2, 0] (lv' := [(0, .ref (zA Z 6 0)), (2, .int x2), (3, .int (x3 + 1))]) rfl ?_
        exact ih (wM M 0 6 ((M 0 6) ||| (1 <<< (x3 &&& 31)))) x2 (x3 + 1)
noncomputable def fX5_rainItem   (M : Mi) : Option (Mi) := (Option.bind (fX5_wants M 1) (fun a1 => (Option.bind (fX5_number a1 0 23) (fun a2 => (Option.bind (fX5_word a2) (fun a3 => (if a3 = 655 then (Option.bind (fX5_wants a2 1) (fun a7 => (Option.bind (fX5_number a7 (a2 6 5) 23) (fun a8 => (fX5_rainItem_49 fu a8 (a8 6 5) (a2 6 5)))))) else (fX5_rainItem_49 fu a2 (a2 6 5) (a2 6 5)))))))))
theorem bX5_rainItem {Z : Zt} {E : Ec} {N : Ml} (C : Ok 2 Z E cX5_rainItem 4 RX5 none 5)    (M : Mi)  : GT Z E 4 (finX5_rainItem N) 0 [(0, .ref (zA Z 6 0))] [] M N (fX5_rainItem M) := by
  unfold fX5_rainItem
  refine r_aload_n C dX5_rainItem_0 0 0 rfl rfl ?_
  refine r_iconst (v := 1) C dX5_rainItem_1 (by decide) ?_
  refine r_bind (fun a1 ha1 => ?_)
  refine r_callV (rest := []) (st2 := []) C (mX5_wants (eL E) C.z M N 1 a1 ha1) lk_X5_252 (rvM C) (by decide) rfl rfl (Nat.le_of_ble_eq_true rfl) dX5_rainItem_2 rfl ?_
  refine r_aload_n C dX5_rainItem_5 0 0 rfl rfl ?_
  refine r_iconst (v := 0) C dX5_rainItem_6 (by decide) ?_
  refine r_bipush (v := 23) C dX5_rainItem_7 (by decide) ?_
  refine r_bind (fun a2 ha2 => ?_)
  refine r_callV (rest := []) (st2 := []) C (mX5_number (eL E) C.z a1 N 0 23 a2 ha2) lk_X5_278 (rvM C) (by decide) rfl rfl (Nat.le_of_ble_eq_true rfl) dX5_rainItem_9 rfl ?_
  refine r_aload_n C dX5_rainItem_12 0 0 rfl rfl ?_
  refine gf_X5_249 (v := (a2 6 5)) C dX5_rainItem_13 rfl ?_
  refine r_istore_n (lv' := [(1, .int (a2 6 5)), (0, .ref (zA Z 6 0))]) C dX5_rainItem_16 1 rfl (by decide) rfl ?_
  refine r_iload_n C dX5_rainItem_17 1 0 rfl rfl ?_
  refine r_istore_n (lv' := [(2, .int (a2 6 5)), (1, .int (a2 6 5)), (0, .ref (zA Z 6 0))]) C dX5_rainItem_18 2 rfl (by decide) rfl ?_
  refine r_aload_n C dX5_rainItem_19 0 2 rfl rfl ?_
  refine r_bind (fun a3 ha3 => ?_)
  refine r_callV (rest := []) (st2 := [.long a3]) C (mX5_word (eL E) C.z a2 N a3 ha3) lk_X5_256 (rvM C) (by decide) rfl rfl (Nat.le_of_ble_eq_true rfl) dX5_rainItem_20 rfl ?_
  refine r_ldc2 (v := 655) C dX5_rainItem_23 wd_1213 ?_
  refine r_lc_ne (tgt := 47) C dX5_rainItem_26 dX5_rainItem_27 (by decide) (fun c4 => ?_) (fun c4 => ?_)
  · refine r_iload_n C dX5_rainItem_47 1 1 rfl rfl ?_
    refine r_istore_n (lv' := [(3, .int (a2 6 5)), (2, .int (a2 6 5)), (1, .int (a2 6 5)), (0, .ref (zA Z 6 0))]) C dX5_rainItem_48 3 rfl (by decide) rfl ?_
    refine r_lv [3, 1, 0] (lv' := [(0, .ref (zA Z 6 0)), (2, .int (a2 6 5)), (3, .int (a2 6 5))]) rfl ?_
    exact bX5_rainItem_49 C fu a2 (a2 6 5) (a2 6 5)
  · refine r_aload_n C dX5_rainItem_30 0 2 rfl rfl ?_
    refine r_iconst (v := 1) C dX5_rainItem_31 (by decide) ?_
    refine r_bind (fun a7 ha7 => ?_)
    refine r_callV (rest := []) (st2 := []) C (mX5_wants (eL E) C.z a2 N 1 a7 ha7) lk_X5_252 (rvM C) (by decide) rfl rfl (Nat.le_of_ble_eq_true rfl) dX5_rainItem_32 rfl ?_
    refine r_aload_n C dX5_rainItem_35 0 2 rfl rfl ?_
    refine r_iload_n C dX5_rainItem_36 1 1 rfl rfl ?_
    refine r_bipush (v := 23) C dX5_rainItem_37 (by decide) ?_
    refine r_bind (fun a8 ha8 => ?_)
    refine r_callV (rest := []) (st2 := []) C (mX5_number (eL E) C.z a7 N (a2 6 5) 23 a8 ha8) lk_X5_278 (rvM C) (by decide) rfl rfl (Nat.le_of_ble_eq_true rfl) dX5_rainItem_39 rfl ?_
    refine r_aload_n C dX5_rainItem_42 0 2 rfl rfl ?_
    refine gf_X5_249 (v := (a8 6 5)) C dX5_rainItem_43 rfl ?_
    refine r_istore_n (lv' := [(2, .int (a8 6 5)), (1, .int (a2 6 5)), (0, .ref (zA Z 6 0))]) C dX5_rainItem_46 2 rfl (by decide) rfl ?_
    refine r_iload_n C dX5_rainItem_47 1 1 rfl rfl ?_
    refine r_istore_n (lv' := [(3, .int (a2 6 5)), (2, .int (a8 6 5)), (1, .int (a2 6 5)), (0, .ref (zA Z 6 0))]) C dX5_rainItem_48 3 rfl (by decide) rfl ?_
    refine r_lv [3, 1, 0] (lv' := [(0, .ref (zA Z 6 0)), (2, .int (a8 6 5)), (3, .int (a2 6 5))]) rfl ?_
    exact bX5_rainItem_49 C fu a8 (a8 6 5) (a2 6 5)
theorem mX5_rainItem (l : Launch) {Z : Zt} (hZ : Zok 2 Z) (M : Mi) (N : Ml) (b : Mi) (hb : fX5_rainItem M = some b) : Ct 2 Z l yX5_rainItem cX5_rainItem 4 none 5 [.ref (zA Z 6 0)] M N (none, b, N) :=
  metG (fin := (finX5_rainItem N)) (by decide) (Nat.le_of_ble_eq_true rfl) (fun E _ C => bX5_rainItem C M) hb
