theorem dX4_bestTipped_0 : decode cX4_bestTipped 0 = .ok (.aload_n 0, 1) := by decide +kernel
theorem dX4_bestTipped_1 : decode cX4_bestTipped 1 = .ok (.getfield 25, 3) := by decide +kernel
theorem dX4_bestTipped_4 : decode cX4_bestTipped 4 = .ok (.iload_n 1, 1) := by decide +kernel
theorem dX4_bestTipped_5 : decode cX4_bestTipped 5 = .ok (.aload_n 0, 1) := by decide +kernel
theorem dX4_bestTipped_6 : decode cX4_bestTipped 6 = .ok (.getfield 12, 3) := by decide +kernel
theorem dX4_bestTipped_9 : decode cX4_bestTipped 9 = .ok (.invokevirtual 183, 3) := by decide +kernel
theorem dX4_bestTipped_12 : decode cX4_bestTipped 12 = .ok (.aload_n 0, 1) := by decide +kernel
theorem dX4_bestTipped_13 : decode cX4_bestTipped 13 = .ok (.getfield 25, 3) := by decide +kernel
theorem dX4_bestTipped_16 : decode cX4_bestTipped 16 = .ok (.iload_n 2, 1) := by decide +kernel
theorem dX4_bestTipped_17 : decode cX4_bestTipped 17 = .ok (.bipush 48, 2) := by decide +kernel
theorem dX4_bestTipped_19 : decode cX4_bestTipped 19 = .ok (.invokevirtual 187, 3) := by decide +kernel
theorem dX4_bestTipped_22 : decode cX4_bestTipped 22 = .ok (.istore_n 3, 1) := by decide +kernel
theorem dX4_bestTipped_23 : decode cX4_bestTipped 23 = .ok (.iload_n 3, 1) := by decide +kernel
theorem dX4_bestTipped_24 : decode cX4_bestTipped 24 = .ok (.iconst (-1), 1) := by decide +kernel
theorem dX4_bestTipped_25 : decode cX4_bestTipped 25 = .ok (.if_icmp .ne 6, 3) := by decide +kernel
theorem dX4_bestTipped_28 : decode cX4_bestTipped 28 = .ok (.bipush 49, 2) := by decide +kernel
theorem dX4_bestTipped_30 : decode cX4_bestTipped 30 = .ok (.istore_n 3, 1) := by decide +kernel
theorem dX4_bestTipped_31 : decode cX4_bestTipped 31 = .ok (.iconst (-1), 1) := by decide +kernel
theorem dX4_bestTipped_32 : decode cX4_bestTipped 32 = .ok (.istore 4, 2) := by decide +kernel
theorem dX4_bestTipped_34 : decode cX4_bestTipped 34 = .ok (.iconst 0, 1) := by decide +kernel
theorem dX4_bestTipped_35 : decode cX4_bestTipped 35 = .ok (.istore 5, 2) := by decide +kernel
theorem dX4_bestTipped_37 : decode cX4_bestTipped 37 = .ok (.iload 5, 2) := by decide +kernel
theorem dX4_bestTipped_39 : decode cX4_bestTipped 39 = .ok (.aload_n 0, 1) := by decide +kernel
theorem dX4_bestTipped_40 : decode cX4_bestTipped 40 = .ok (.getfield 12, 3) := by decide +kernel
theorem dX4_bestTipped_43 : decode cX4_bestTipped 43 = .ok (.getfield 272, 3) := by decide +kernel
theorem dX4_bestTipped_46 : decode cX4_bestTipped 46 = .ok (.if_icmp .ge 77, 3) := by decide +kernel
theorem dX4_bestTipped_49 : decode cX4_bestTipped 49 = .ok (.aload_n 0, 1) := by decide +kernel
theorem dX4_bestTipped_50 : decode cX4_bestTipped 50 = .ok (.getfield 12, 3) := by decide +kernel
theorem dX4_bestTipped_53 : decode cX4_bestTipped 53 = .ok (.getfield 113, 3) := by decide +kernel
theorem dX4_bestTipped_56 : decode cX4_bestTipped 56 = .ok (.iload 5, 2) := by decide +kernel
theorem dX4_bestTipped_58 : decode cX4_bestTipped 58 = .ok (.baload, 1) := by decide +kernel
theorem dX4_bestTipped_59 : decode cX4_bestTipped 59 = .ok (.ifCond .eq 6, 3) := by decide +kernel
theorem dX4_bestTipped_62 : decode cX4_bestTipped 62 = .ok (.goto 55, 3) := by decide +kernel
theorem dX4_bestTipped_65 : decode cX4_bestTipped 65 = .ok (.aload_n 0, 1) := by decide +kernel
theorem dX4_bestTipped_66 : decode cX4_bestTipped 66 = .ok (.getfield 25, 3) := by decide +kernel
theorem dX4_bestTipped_69 : decode cX4_bestTipped 69 = .ok (.iload_n 1, 1) := by decide +kernel
theorem dX4_bestTipped_70 : decode cX4_bestTipped 70 = .ok (.aload_n 0, 1) := by decide +kernel
theorem dX4_bestTipped_71 : decode cX4_bestTipped 71 = .ok (.getfield 12, 3) := by decide +kernel
theorem dX4_bestTipped_74 : decode cX4_bestTipped 74 = .ok (.invokevirtual 183, 3) := by decide +kernel
theorem dX4_bestTipped_77 : decode cX4_bestTipped 77 = .ok (.aload_n 0, 1) := by decide +kernel
theorem dX4_bestTipped_78 : decode cX4_bestTipped 78 = .ok (.getfield 25, 3) := by decide +kernel
theorem dX4_bestTipped_81 : decode cX4_bestTipped 81 = .ok (.getfield 210, 3) := by decide +kernel
theorem dX4_bestTipped_84 : decode cX4_bestTipped 84 = .ok (.getfield 113, 3) := by decide +kernel
theorem dX4_bestTipped_87 : decode cX4_bestTipped 87 = .ok (.iload 5, 2) := by decide +kernel
theorem dX4_bestTipped_89 : decode cX4_bestTipped 89 = .ok (.iconst 1, 1) := by decide +kernel
theorem dX4_bestTipped_90 : decode cX4_bestTipped 90 = .ok (.bastore, 1) := by decide +kernel
theorem dX4_bestTipped_91 : decode cX4_bestTipped 91 = .ok (.aload_n 0, 1) := by decide +kernel
theorem dX4_bestTipped_92 : decode cX4_bestTipped 92 = .ok (.getfield 25, 3) := by decide +kernel
theorem dX4_bestTipped_95 : decode cX4_bestTipped 95 = .ok (.iload_n 2, 1) := by decide +kernel
theorem dX4_bestTipped_96 : decode cX4_bestTipped 96 = .ok (.iload_n 3, 1) := by decide +kernel
theorem dX4_bestTipped_97 : decode cX4_bestTipped 97 = .ok (.iconst 1, 1) := by decide +kernel
theorem dX4_bestTipped_98 : decode cX4_bestTipped 98 = .ok (.isub, 1) := by decide +kernel
theorem dX4_bestTipped_99 : decode cX4_bestTipped 99 = .ok (.invokevirtual 187, 3) := by decide +kernel
theorem dX4_bestTipped_102 : decode cX4_bestTipped 102 = .ok (.istore 6, 2) := by decide +kernel
theorem dX4_bestTipped_104 : decode cX4_bestTipped 104 = .ok (.iload 6, 2) := by decide +kernel
theorem dX4_bestTipped_106 : decode cX4_bestTipped 106 = .ok (.iconst (-1), 1) := by decide +kernel
theorem dX4_bestTipped_107 : decode cX4_bestTipped 107 = .ok (.if_icmp .eq 10, 3) := by decide +kernel
theorem dX4_bestTipped_110 : decode cX4_bestTipped 110 = .ok (.iload 6, 2) := by decide +kernel
theorem dX4_bestTipped_112 : decode cX4_bestTipped 112 = .ok (.istore_n 3, 1) := by decide +kernel
theorem dX4_bestTipped_113 : decode cX4_bestTipped 113 = .ok (.iload 5, 2) := by decide +kernel
theorem dX4_bestTipped_115 : decode cX4_bestTipped 115 = .ok (.istore 4, 2) := by decide +kernel
theorem dX4_bestTipped_117 : decode cX4_bestTipped 117 = .ok (.iinc 5 1, 3) := by decide +kernel
theorem dX4_bestTipped_120 : decode cX4_bestTipped 120 = .ok (.goto (-83), 3) := by decide +kernel
theorem dX4_bestTipped_123 : decode cX4_bestTipped 123 = .ok (.iload 4, 2) := by decide +kernel
theorem dX4_bestTipped_125 : decode cX4_bestTipped 125 = .ok (.ireturn, 1) := by decide +kernel
def finX4_bestTipped (N : Ml) : Int32 × Mi → Option Value × Mi × Ml := fun b => (some (Value.int b.1), b.2, N)
noncomputable def fX4_bestTipped_37   : Nat → Mi → Int32 → Int32 → Int32 → Int32 → Int32 → Option (Int32 × Mi)
  | 0 => fun _ _ _ _ _ _ => none
  | n + 1 => fun M x1 x2 x3 x4 x5 => (if (M 0 1) ≤ x5 then (some (x4, M)) else (if inb x5 8 then (if (M 0 (10 + 4 * ix x5)) = 0 then (Option.bind (fX1_goesFrom M x1) (fun a7 => (Option.bind (fX1_seek (wM a7 3 (10 + 4 * ix x5) (zn 1)) x2 (x3 - 1)) (fun a8 => (if a8.1 = (-1) then ((fX4_bestTipped_37 n) (a8.2) x1 x2 x3 x4 (x5 + 1)) else ((fX4_bestTipped_37 n) (a8.2) x1 x2 a8.1 x5 (x5 + 1))))))) else ((fX4_bestTipped_37 n) M x1 x2 x3 x4 (x5 + 1))) else none))
theorem bX4_bestTipped_37 {Z : Zt} {E : Ec} {N : Ml} (C : Ok 1 Z E cX4_bestTipped 7 RX4 (some .int) 5)    : ∀ (n : Nat) (M : Mi) (x1 : Int32) (x2 : Int32) (x3 : Int32) (x4 : Int32) (x5 : Int32), GT Z E 7 (finX4_bestTipped N) 37 [(0, .ref (zA Z 8 0)), (1, .int x1), (2, .int x2), (3, .int x3), (4, .int x4), (5, .int x5)] [] M N (fX4_bestTipped_37 n M x1 x2 x3 x4 x5) := by
  intro n
  induction n with
  | zero => intro M x1 x2 x3 x4 x5; exact r_none
  | succ n ih =>
    intro M x1 x2 x3 x4 x5
    rw [fX4_bestTipped_37]
    refine r_iload C dX4_bestTipped_37 5 rfl ?_
    refine r_aload_n C dX4_bestTipped_39 0 0 rfl rfl ?_
    refine gf_X4_12 C dX4_bestTipped_40 ?_
    refine gf_X4_272 (v := (M 0 1)) C (by decide) dX4_bestTipped_43 rfl ?_
    refine r_ic_ge (tgt := 123) C dX4_bestTipped_46 (by decide) (fun c4 => ?_) (fun c4 => ?_)
    · refine r_iload C dX4_bestTipped_123 4 rfl ?_
      exact r_iret C dX4_bestTipped_125 rfl
    · refine r_aload_n C dX4_bestTipped_49 0 0 rfl rfl ?_
      refine gf_X4_12 C dX4_bestTipped_50 ?_
      refine gf_X4_113 C (by decide) dX4_bestTipped_53 ?_
      refine r_iload C dX4_bestTipped_56 5 rfl ?_
      refine r_guard (fun h5 => ?_)
      refine ald_I5 (v := (M 0 (10 + 4 * ix x5))) C (by decide) h5 rfl dX4_bestTipped_58 ?_
      refine r_if_eq (tgt := 65) C dX4_bestTipped_59 (by decide) (fun c6 => ?_) (fun c6 => ?_)
      · refine r_aload_n C dX4_bestTipped_65 0 0 rfl rfl ?_
        refine gf_X4_25 C dX4_bestTipped_66 ?_
        refine r_iload_n C dX4_bestTipped_69 1 1 rfl rfl ?_
        refine r_aload_n C dX4_bestTipped_70 0 0 rfl rfl ?_
        refine gf_X4_12 C dX4_bestTipped_71 ?_
        refine r_bind (fun a7 ha7 => ?_)
        refine r_callV (rest := []) (st2 := []) C (mX1_goesFrom (eL E) C.z M N x1 a7 ha7) lk_X4_183 (rvR C) (by decide) rfl rfl (Nat.le_of_ble_eq_true rfl) dX4_bestTipped_74 rfl ?_
        refine r_aload_n C dX4_bestTipped_77 0 0 rfl rfl ?_
        refine gf_X4_25 C dX4_bestTipped_78 ?_
        refine gf_X4_210 C dX4_bestTipped_81 ?_
        refine gf_X4_113 C (by decide) dX4_bestTipped_84 ?_
        refine r_iload C dX4_bestTipped_87 5 rfl ?_
        refine r_iconst (v := 1) C dX4_bestTipped_89 (by decide) ?_
        refine ast_I5 (M' := (wM a7 3 (10 + 4 * ix x5) (zn 1))) C (by decide) h5 rfl dX4_bestTipped_90 ?_
        refine r_aload_n C dX4_bestTipped_91 0 0 rfl rfl ?_
        refine gf_X4_25 C dX4_bestTipped_92 ?_
        refine r_iload_n C dX4_bestTipped_95 2 2 rfl rfl ?_
        refine r_iload_n C dX4_bestTipped_96 3 3 rfl rfl ?_
        refine r_iconst (v := 1) C dX4_bestTipped_97 (by decide) ?_
        refine r_isub C dX4_bestTipped_98 ?_
        refine r_bind (fun a8 ha8 => ?_)
        refine r_callV (rest := []) (st2 := [.int a8.1]) C (mX1_seek (eL E) C.z (wM a7 3 (10 + 4 * ix x5) (zn 1)) N x2 (x3 - 1) a8 ha8) lk_X4_187 (rvR C) (by decide) rfl rfl (Nat.le_of_ble_eq_true rfl) dX4_bestTipped_99 rfl ?_
        refine r_istore (lv' := [(6, .int a8.1), (0, .ref (zA Z 8 0)), (1, .int x1), (2, .int x2), (3, .int x3), (4, .int x4), (5, .int x5)]) C dX4_bestTipped_102 (by decide) rfl ?_
        refine r_iload C dX4_bestTipped_104 0 rfl ?_
        refine r_iconst (v := (-1)) C dX4_bestTipped_106 (by decide) ?_
        refine r_ic_eq (tgt := 117) C dX4_bestTipped_107 (by decide) (fun c9 => ?_) (fun c9 => ?_)
        · refine r_iinc (v := (x5 + 1)) (lv' := [(5, .int (x5 + 1)), (6, .int a8.1), (0, .ref (zA Z 8 0)), (1, .int x1), (2, .int x2), (3, .int x3), (4, .int x4)]) C dX4_bestTipped_117 6 rfl rfl (by decide) rfl ?_
          refine r_goto (tgt := 37) C dX4_bestTipped_120 (by decide) ?_
          refine r_lv [2, 3, 4, 5, 6, 0] (lv' := [(0, .ref (zA Z 8 0)), (1, .int x1), (2, .int x2), (3, .int x3), (4, .int x4), (5, .int (x5 + 1))]) rfl ?_
          exact ih (a8.2) x1 x2 x3 x4 (x5 + 1)
        · refine r_iload C dX4_bestTipped_110 0 rfl ?_
          refine r_istore_n (lv' := [(3, .int a8.1), (6, .int a8.1), (0, .ref (zA Z 8 0)), (1, .int x1), (2, .int x2), (4, .int x4), (5, .int x5)]) C dX4_bestTipped_112 3 rfl (by decide) rfl ?_
          refine r_iload C dX4_bestTipped_113 6 rfl ?_
          refine r_istore (lv' := [(4, .int x5), (3, .int a8.1), (6, .int a8.1), (0, .ref (zA Z 8 0)), (1, .int x1), (2, .int x2), (5, .int x5)]) C dX4_bestTipped_115 (by decide) rfl ?_
          refine r_iinc (v := (x5 + 1)) (lv' := [(5, .int (x5 + 1)), (4, .int x5), (3, .int a8.1), (6, .int a8.1), (0, .ref (zA Z 8 0)), (1, .int x1), (2, .int x2)]) C dX4_bestTipped_117 6 rfl rfl (by decide) rfl ?_
          refine r_goto (tgt := 37) C dX4_bestTipped_120 (by decide) ?_
          refine r_lv [4, 5, 6, 2, 1, 0] (lv' := [(0, .ref (zA Z 8 0)), (1, .int x1), (2, .int x2), (3, .int a8.1), (4, .int x5), (5, .int (x5 + 1))]) rfl ?_
          exact ih (a8.2) x1 x2 a8.1 x5 (x5 + 1)
      · refine r_goto (tgt := 117) C dX4_bestTipped_62 (by decide) ?_
        refine r_iinc (v := (x5 + 1)) (lv' := [(5, .int (x5 + 1)), (0, .ref (zA Z 8 0)), (1, .int x1), (2, .int x2), (3, .int x3), (4, .int x4)]) C dX4_bestTipped_117 5 rfl rfl (by decide) rfl ?_
        refine r_goto (tgt := 37) C dX4_bestTipped_120 (by decide) ?_
        refine r_lv [1, 2, 3, 4, 5, 0] (lv' := [(0, .ref (zA Z 8 0)), (1, .int x1), (2, .int x2), (3, .int x3), (4, .int x4), (5, .int (x5 + 1))]) rfl ?_
        exact ih M x1 x2 x3 x4 (x5 + 1)
noncomputable def fX4_bestTipped   (M : Mi) (x1 : Int32) (x2 : Int32) : Option (Int32 × Mi) := (Option.bind (fX1_goesFrom M x1) (fun a1 => (Option.bind (fX1_seek a1 x2 48) (fun a2 => (if a2.1 = (-1) then (fX4_bestTipped_37 fu (a2.2) x1 x2 49 (-1) 0) else (fX4_bestTipped_37 fu (a2.2) x1 x2 a2.1 (-1) 0))))))
theorem bX4_bestTipped {Z : Zt} {E : Ec} {N : Ml} (C : Ok 1 Z E cX4_bestTipped 7 RX4 (some .int) 5)    (M : Mi) (x1 : Int32) (x2 : Int32)  : GT Z E 7 (finX4_bestTipped N) 0 [(0, .ref (zA Z 8 0)), (1, .int x1), (2, .int x2)] [] M N (fX4_bestTipped M x1 x2) := by
  unfold fX4_bestTipped
  refine r_aload_n C dX4_bestTipped_0 0 0 rfl rfl ?_
  refine gf_X4_25 C dX4_bestTipped_1 ?_
  refine r_iload_n C dX4_bestTipped_4 1 1 rfl rfl ?_
  refine r_aload_n C dX4_bestTipped_5 0 0 rfl rfl ?_
  refine gf_X4_12 C dX4_bestTipped_6 ?_
  refine r_bind (fun a1 ha1 => ?_)
  refine r_callV (rest := []) (st2 := []) C (mX1_goesFrom (eL E) C.z M N x1 a1 ha1) lk_X4_183 (rvR C) (by decide) rfl rfl (Nat.le_of_ble_eq_true rfl) dX4_bestTipped_9 rfl ?_
  refine r_aload_n C dX4_bestTipped_12 0 0 rfl rfl ?_
  refine gf_X4_25 C dX4_bestTipped_13 ?_
  refine r_iload_n C dX4_bestTipped_16 2 2 rfl rfl ?_
  refine r_bipush (v := 48) C dX4_bestTipped_17 (by decide) ?_
  refine r_bind (fun a2 ha2 => ?_)
  refine r_callV (rest := []) (st2 := [.int a2.1]) C (mX1_seek (eL E) C.z a1 N x2 48 a2 ha2) lk_X4_187 (rvR C) (by decide) rfl rfl (Nat.le_of_ble_eq_true rfl) dX4_bestTipped_19 rfl ?_
  refine r_istore_n (lv' := [(3, .int a2.1), (0, .ref (zA Z 8 0)), (1, .int x1), (2, .int x2)]) C dX4_bestTipped_22 3 rfl (by decide) rfl ?_
  refine r_iload_n C dX4_bestTipped_23 3 0 rfl rfl ?_
  refine r_iconst (v := (-1)) C dX4_bestTipped_24 (by decide) ?_
  refine r_ic_ne (tgt := 31) C dX4_bestTipped_25 (by decide) (fun c3 => ?_) (fun c3 => ?_)
  · refine r_iconst (v := (-1)) C dX4_bestTipped_31 (by decide) ?_
    refine r_istore (lv' := [(4, .int (-1)), (3, .int a2.1), (0, .ref (zA Z 8 0)), (1, .int x1), (2, .int x2)]) C dX4_bestTipped_32 (by decide) rfl ?_
    refine r_iconst (v := 0) C dX4_bestTipped_34 (by decide) ?_
    refine r_istore (lv' := [(5, .int 0), (4, .int (-1)), (3, .int a2.1), (0, .ref (zA Z 8 0)), (1, .int x1), (2, .int x2)]) C dX4_bestTipped_35 (by decide) rfl ?_
    refine r_lv [3, 4, 5, 2, 1, 0] (lv' := [(0, .ref (zA Z 8 0)), (1, .int x1), (2, .int x2), (3, .int a2.1), (4, .int (-1)), (5, .int 0)]) rfl ?_
    exact bX4_bestTipped_37 C fu (a2.2) x1 x2 a2.1 (-1) 0
  · refine r_bipush (v := 49) C dX4_bestTipped_28 (by decide) ?_
    refine r_istore_n (lv' := [(3, .int 49), (0, .ref (zA Z 8 0)), (1, .int x1), (2, .int x2)]) C dX4_bestTipped_30 3 rfl (by decide) rfl ?_
    refine r_iconst (v := (-1)) C dX4_bestTipped_31 (by decide) ?_
    refine r_istore (lv' := [(4, .int (-1)), (3, .int 49), (0, .ref (zA Z 8 0)), (1, .int x1), (2, .int x2)]) C dX4_bestTipped_32 (by decide) rfl ?_
    refine r_iconst (v := 0) C dX4_bestTipped_34 (by decide) ?_
    refine r_istore (lv' := [(5, .int 0), (4, .int (-1)), (3, .int 49), (0, .ref (zA Z 8 0)), (1, .int x1), (2, .int x2)]) C dX4_bestTipped_35 (by decide) rfl ?_
    refine r_lv [3, 4, 5, 2, 1, 0] (lv' := [(0, .ref (zA Z 8 0)), (1, .int x1), (2, .int x2), (3, .int 49), (4, .int (-1)), (5, .int 0)]) rfl ?_
    exact bX4_bestTipped_37 C fu (a2.2) x1 x2 49 (-1) 0
theorem mX4_bestTipped (l : Launch) {Z : Zt} (hZ : Zok 1 Z) (M : Mi) (N : Ml) (x1 : Int32) (x2 : Int32) (b : Int32 × Mi) (hb : fX4_bestTipped M x1 x2 = some b) : Ct 1 Z l yX4_bestTipped cX4_bestTipped 7 (some .int) 5 [.ref (zA Z 8 0), .int x1, .int x2] M N (some (Value.int b.1), b.2, N) :=
  metG (fin := (finX4_bestTipped N)) (by decide) (Nat.le_of_ble_eq_true rfl) (fun E _ C => bX4_bestTipped C M x1 x2) hb
theorem dX4_tips_0 : decode cX4_tips 0 = .ok (.aload_n 0, 1) := by decide +kernel
theorem dX4_tips_1 : decode cX4_tips 1 = .ok (.iload_n 1, 1) := by decide +kernel
theorem dX4_tips_2 : decode cX4_tips 2 = .ok (.iload_n 2, 1) := by decide +kernel
theorem dX4_tips_3 : decode cX4_tips 3 = .ok (.invokevirtual 179, 3) := by decide +kernel
theorem dX4_tips_6 : decode cX4_tips 6 = .ok (.istore_n 3, 1) := by decide +kernel
theorem dX4_tips_7 : decode cX4_tips 7 = .ok (.iload_n 3, 1) := by decide +kernel
theorem dX4_tips_8 : decode cX4_tips 8 = .ok (.ifCond .eq 5, 3) := by decide +kernel
theorem dX4_tips_11 : decode cX4_tips 11 = .ok (.iload_n 3, 1) := by decide +kernel
theorem dX4_tips_12 : decode cX4_tips 12 = .ok (.ireturn, 1) := by decide +kernel
theorem dX4_tips_13 : decode cX4_tips 13 = .ok (.aload_n 0, 1) := by decide +kernel
theorem dX4_tips_14 : decode cX4_tips 14 = .ok (.iload_n 1, 1) := by decide +kernel
theorem dX4_tips_15 : decode cX4_tips 15 = .ok (.iload_n 2, 1) := by decide +kernel
theorem dX4_tips_16 : decode cX4_tips 16 = .ok (.invokevirtual 211, 3) := by decide +kernel
theorem dX4_tips_19 : decode cX4_tips 19 = .ok (.istore 4, 2) := by decide +kernel
theorem dX4_tips_21 : decode cX4_tips 21 = .ok (.iload 4, 2) := by decide +kernel
theorem dX4_tips_23 : decode cX4_tips 23 = .ok (.iconst (-1), 1) := by decide +kernel
theorem dX4_tips_24 : decode cX4_tips 24 = .ok (.if_icmp .ne 11, 3) := by decide +kernel
theorem dX4_tips_27 : decode cX4_tips 27 = .ok (.aload_n 0, 1) := by decide +kernel
theorem dX4_tips_28 : decode cX4_tips 28 = .ok (.iconst 3, 1) := by decide +kernel
theorem dX4_tips_29 : decode cX4_tips 29 = .ok (.invokevirtual 58, 3) := by decide +kernel
theorem dX4_tips_32 : decode cX4_tips 32 = .ok (.goto 5, 3) := by decide +kernel
theorem dX4_tips_35 : decode cX4_tips 35 = .ok (.iload 4, 2) := by decide +kernel
theorem dX4_tips_37 : decode cX4_tips 37 = .ok (.ireturn, 1) := by decide +kernel
def finX4_tips (N : Ml) : Int32 × Mi → Option Value × Mi × Ml := fun b => (some (Value.int b.1), b.2, N)
noncomputable def fX4_tips   (M : Mi) (x1 : Int32) (x2 : Int32) : Option (Int32 × Mi) := (Option.bind (fX4_askOfReader M x1 x2) (fun a1 => (if a1.1 = 0 then (Option.bind (fX4_bestTipped (a1.2) x1 x2) (fun a3 => (if a3.1 = (-1) then (Option.bind (fX4_finding (a3.2) 3) (fun a5 => (some (a5.1, (a5.2))))) else (some (a3.1, (a3.2)))))) else (some (a1.1, (a1.2))))))
theorem bX4_tips {Z : Zt} {E : Ec} {N : Ml} (C : Ok 1 Z E cX4_tips 5 RX4 (some .int) 6)    (M : Mi) (x1 : Int32) (x2 : Int32)  : GT Z E 5 (finX4_tips N) 0 [(0, .ref (zA Z 8 0)), (1, .int x1), (2, .int x2)] [] M N (fX4_tips M x1 x2) := by
  unfold fX4_tips
  refine r_aload_n C dX4_tips_0 0 0 rfl rfl ?_
  refine r_iload_n C dX4_tips_1 1 1 rfl rfl ?_
  refine r_iload_n C dX4_tips_2 2 2 rfl rfl ?_
  refine r_bind (fun a1 ha1 => ?_)
  refine r_callV (rest := []) (st2 := [.int a1.1]) C (mX4_askOfReader (eL E) C.z M N x1 x2 a1 ha1) lk_X4_179 (rvX C) (by decide) rfl rfl (Nat.le_of_ble_eq_true rfl) dX4_tips_3 rfl ?_
  refine r_istore_n (lv' := [(3, .int a1.1), (0, .ref (zA Z 8 0)), (1, .int x1), (2, .int x2)]) C dX4_tips_6 3 rfl (by decide) rfl ?_
  refine r_iload_n C dX4_tips_7 3 0 rfl rfl ?_
  refine r_if_eq (tgt := 13) C dX4_tips_8 (by decide) (fun c2 => ?_) (fun c2 => ?_)
  · refine r_aload_n C dX4_tips_13 0 1 rfl rfl ?_
    refine r_iload_n C dX4_tips_14 1 2 rfl rfl ?_
    refine r_iload_n C dX4_tips_15 2 3 rfl rfl ?_
    refine r_bind (fun a3 ha3 => ?_)
    refine r_callV (rest := []) (st2 := [.int a3.1]) C (mX4_bestTipped (eL E) C.z (a1.2) N x1 x2 a3 ha3) lk_X4_211 (rvX C) (by decide) rfl rfl (Nat.le_of_ble_eq_true rfl) dX4_tips_16 rfl ?_
    refine r_istore (lv' := [(4, .int a3.1), (3, .int a1.1), (0, .ref (zA Z 8 0)), (1, .int x1), (2, .int x2)]) C dX4_tips_19 (by decide) rfl ?_
    refine r_iload C dX4_tips_21 0 rfl ?_
    refine r_iconst (v := (-1)) C dX4_tips_23 (by decide) ?_
    refine r_ic_ne (tgt := 35) C dX4_tips_24 (by decide) (fun c4 => ?_) (fun c4 => ?_)
    · refine r_iload C dX4_tips_35 0 rfl ?_
      exact r_iret C dX4_tips_37 rfl
    · refine r_aload_n C dX4_tips_27 0 2 rfl rfl ?_
      refine r_iconst (v := 3) C dX4_tips_28 (by decide) ?_
      refine r_bind (fun a5 ha5 => ?_)
      refine r_callV (rest := []) (st2 := [.int a5.1]) C (mX4_finding (eL E) C.z (a3.2) N 3 a5 ha5) lk_X4_58 (rvX C) (by decide) rfl rfl (Nat.le_of_ble_eq_true rfl) dX4_tips_29 rfl ?_
      refine r_goto (tgt := 37) C dX4_tips_32 (by decide) ?_
      exact r_iret C dX4_tips_37 rfl
  · refine r_iload_n C dX4_tips_11 3 0 rfl rfl ?_
    exact r_iret C dX4_tips_12 rfl
theorem mX4_tips (l : Launch) {Z : Zt} (hZ : Zok 1 Z) (M : Mi) (N : Ml) (x1 : Int32) (x2 : Int32) (b : Int32 × Mi) (hb : fX4_tips M x1 x2 = some b) : Ct 1 Z l yX4_tips cX4_tips 5 (some .int) 6 [.ref (zA Z 8 0), .int x1, .int x2] M N (some (Value.int b.1), b.2, N) :=
  metG (fin := (finX4_tips N)) (by decide) (Nat.le_of_ble_eq_true rfl) (fun E _ C => bX4_tips C M x1 x2) hb
theorem dX4_bestSpring_0 : decode cX4_bestSpring 0 = .ok (.bipush 49, 2) := by decide +kernel
theorem dX4_bestSpring_2 : decode cX4_bestSpring 2 = .ok (.istore_n 3, 1) := by decide +kernel
theorem dX4_bestSpring_3 : decode cX4_bestSpring 3 = .ok (.iconst (-1), 1) := by decide +kernel
theorem dX4_bestSpring_4 : decode cX4_bestSpring 4 = .ok (.istore 4, 2) := by decide +kernel
theorem dX4_bestSpring_6 : decode cX4_bestSpring 6 = .ok (.iconst 0, 1) := by decide +kernel
theorem dX4_bestSpring_7 : decode cX4_bestSpring 7 = .ok (.istore 5, 2) := by decide +kernel
theorem dX4_bestSpring_9 : decode cX4_bestSpring 9 = .ok (.iload 5, 2) := by decide +kernel
theorem dX4_bestSpring_11 : decode cX4_bestSpring 11 = .ok (.bipush 30, 2) := by decide +kernel
theorem dX4_bestSpring_13 : decode cX4_bestSpring 13 = .ok (.if_icmp .ge 76, 3) := by decide +kernel
theorem dX4_bestSpring_16 : decode cX4_bestSpring 16 = .ok (.aload_n 0, 1) := by decide +kernel
theorem dX4_bestSpring_17 : decode cX4_bestSpring 17 = .ok (.getfield 12, 3) := by decide +kernel
theorem dX4_bestSpring_20 : decode cX4_bestSpring 20 = .ok (.iload 5, 2) := by decide +kernel
theorem dX4_bestSpring_22 : decode cX4_bestSpring 22 = .ok (.invokevirtual 62, 3) := by decide +kernel
theorem dX4_bestSpring_25 : decode cX4_bestSpring 25 = .ok (.ifCond .eq 6, 3) := by decide +kernel
theorem dX4_bestSpring_28 : decode cX4_bestSpring 28 = .ok (.goto 55, 3) := by decide +kernel
theorem dX4_bestSpring_31 : decode cX4_bestSpring 31 = .ok (.aload_n 0, 1) := by decide +kernel
theorem dX4_bestSpring_32 : decode cX4_bestSpring 32 = .ok (.getfield 25, 3) := by decide +kernel
theorem dX4_bestSpring_35 : decode cX4_bestSpring 35 = .ok (.iload_n 1, 1) := by decide +kernel
theorem dX4_bestSpring_36 : decode cX4_bestSpring 36 = .ok (.aload_n 0, 1) := by decide +kernel
theorem dX4_bestSpring_37 : decode cX4_bestSpring 37 = .ok (.getfield 12, 3) := by decide +kernel
theorem dX4_bestSpring_40 : decode cX4_bestSpring 40 = .ok (.invokevirtual 183, 3) := by decide +kernel
theorem dX4_bestSpring_43 : decode cX4_bestSpring 43 = .ok (.aload_n 0, 1) := by decide +kernel
theorem dX4_bestSpring_44 : decode cX4_bestSpring 44 = .ok (.getfield 25, 3) := by decide +kernel
theorem dX4_bestSpring_47 : decode cX4_bestSpring 47 = .ok (.getfield 210, 3) := by decide +kernel
theorem dX4_bestSpring_50 : decode cX4_bestSpring 50 = .ok (.getfield 73, 3) := by decide +kernel
theorem dX4_bestSpring_53 : decode cX4_bestSpring 53 = .ok (.iconst 0, 1) := by decide +kernel
theorem dX4_bestSpring_54 : decode cX4_bestSpring 54 = .ok (.iload 5, 2) := by decide +kernel
theorem dX4_bestSpring_56 : decode cX4_bestSpring 56 = .ok (.iastore, 1) := by decide +kernel
theorem dX4_bestSpring_57 : decode cX4_bestSpring 57 = .ok (.aload_n 0, 1) := by decide +kernel
theorem dX4_bestSpring_58 : decode cX4_bestSpring 58 = .ok (.getfield 25, 3) := by decide +kernel
theorem dX4_bestSpring_61 : decode cX4_bestSpring 61 = .ok (.iload_n 2, 1) := by decide +kernel
theorem dX4_bestSpring_62 : decode cX4_bestSpring 62 = .ok (.iload_n 3, 1) := by decide +kernel
theorem dX4_bestSpring_63 : decode cX4_bestSpring 63 = .ok (.iconst 1, 1) := by decide +kernel
theorem dX4_bestSpring_64 : decode cX4_bestSpring 64 = .ok (.isub, 1) := by decide +kernel
theorem dX4_bestSpring_65 : decode cX4_bestSpring 65 = .ok (.invokevirtual 187, 3) := by decide +kernel
theorem dX4_bestSpring_68 : decode cX4_bestSpring 68 = .ok (.istore 6, 2) := by decide +kernel
theorem dX4_bestSpring_70 : decode cX4_bestSpring 70 = .ok (.iload 6, 2) := by decide +kernel
theorem dX4_bestSpring_72 : decode cX4_bestSpring 72 = .ok (.iconst (-1), 1) := by decide +kernel
theorem dX4_bestSpring_73 : decode cX4_bestSpring 73 = .ok (.if_icmp .eq 10, 3) := by decide +kernel
theorem dX4_bestSpring_76 : decode cX4_bestSpring 76 = .ok (.iload 6, 2) := by decide +kernel
theorem dX4_bestSpring_78 : decode cX4_bestSpring 78 = .ok (.istore_n 3, 1) := by decide +kernel
theorem dX4_bestSpring_79 : decode cX4_bestSpring 79 = .ok (.iload 5, 2) := by decide +kernel
theorem dX4_bestSpring_81 : decode cX4_bestSpring 81 = .ok (.istore 4, 2) := by decide +kernel
theorem dX4_bestSpring_83 : decode cX4_bestSpring 83 = .ok (.iinc 5 1, 3) := by decide +kernel
theorem dX4_bestSpring_86 : decode cX4_bestSpring 86 = .ok (.goto (-77), 3) := by decide +kernel
theorem dX4_bestSpring_89 : decode cX4_bestSpring 89 = .ok (.iload 4, 2) := by decide +kernel
theorem dX4_bestSpring_91 : decode cX4_bestSpring 91 = .ok (.ireturn, 1) := by decide +kernel
def finX4_bestSpring (N : Ml) : Int32 × Mi → Option Value × Mi × Ml := fun b => (some (Value.int b.1), b.2, N)
noncomputable def fX4_bestSpring_9   : Nat → Mi → Int32 → Int32 → Int32 → Int32 → Int32 → Option (Int32 × Mi)
  | 0 => fun _ _ _ _ _ _ => none
  | n + 1 => fun M x1 x2 x3 x4 x5 => (if 30 ≤ x5 then (some (x4, M)) else (if (fX0_isFenced (M 0) x5) = 0 then (Option.bind (fX1_goesFrom M x1) (fun a3 => (Option.bind (fX1_seek (wM a3 3 3 x5) x2 (x3 - 1)) (fun a4 => (if a4.1 = (-1) then ((fX4_bestSpring_9 n) (a4.2) x1 x2 x3 x4 (x5 + 1)) else ((fX4_bestSpring_9 n) (a4.2) x1 x2 a4.1 x5 (x5 + 1))))))) else ((fX4_bestSpring_9 n) M x1 x2 x3 x4 (x5 + 1))))
theorem bX4_bestSpring_9 {Z : Zt} {E : Ec} {N : Ml} (C : Ok 1 Z E cX4_bestSpring 7 RX4 (some .int) 5)    : ∀ (n : Nat) (M : Mi) (x1 : Int32) (x2 : Int32) (x3 : Int32) (x4 : Int32) (x5 : Int32), GT Z E 7 (finX4_bestSpring N) 9 [(0, .ref (zA Z 8 0)), (1, .int x1), (2, .int x2), (3, .int x3), (4, .int x4), (5, .int x5)] [] M N (fX4_bestSpring_9 n M x1 x2 x3 x4 x5) := by
  intro n
  induction n with
  | zero => intro M x1 x2 x3 x4 x5; exact r_none
  | succ n ih =>
    intro M x1 x2 x3 x4 x5
    rw [fX4_bestSpring_9]
    refine r_iload C dX4_bestSpring_9 5 rfl ?_
    refine r_bipush (v := 30) C dX4_bestSpring_11 (by decide) ?_
    refine r_ic_ge (tgt := 89) C dX4_bestSpring_13 (by decide) (fun c1 => ?_) (fun c1 => ?_)
    · refine r_iload C dX4_bestSpring_89 4 rfl ?_
      exact r_iret C dX4_bestSpring_91 rfl
    · refine r_aload_n C dX4_bestSpring_16 0 0 rfl rfl ?_
      refine gf_X4_12 C dX4_bestSpring_17 ?_
      refine r_iload C dX4_bestSpring_20 5 rfl ?_
      refine r_callV (rest := []) (st2 := [.int (fX0_isFenced (M 0) x5)]) C (mX0_isFenced (eL E) C.z (by decide) M _ (M 0) x5).selfR lk_X4_62 (rvI C (by decide)) (by decide) rfl rfl (Nat.le_of_ble_eq_true rfl) dX4_bestSpring_22 rfl ?_
      refine r_if_eq (tgt := 31) C dX4_bestSpring_25 (by decide) (fun c2 => ?_) (fun c2 => ?_)
      · refine r_aload_n C dX4_bestSpring_31 0 0 rfl rfl ?_
        refine gf_X4_25 C dX4_bestSpring_32 ?_
        refine r_iload_n C dX4_bestSpring_35 1 1 rfl rfl ?_
        refine r_aload_n C dX4_bestSpring_36 0 0 rfl rfl ?_
        refine gf_X4_12 C dX4_bestSpring_37 ?_
        refine r_bind (fun a3 ha3 => ?_)
        refine r_callV (rest := []) (st2 := []) C (mX1_goesFrom (eL E) C.z M N x1 a3 ha3) lk_X4_183 (rvR C) (by decide) rfl rfl (Nat.le_of_ble_eq_true rfl) dX4_bestSpring_40 rfl ?_
        refine r_aload_n C dX4_bestSpring_43 0 0 rfl rfl ?_
        refine gf_X4_25 C dX4_bestSpring_44 ?_
        refine gf_X4_210 C dX4_bestSpring_47 ?_
        refine gf_X4_73 C (by decide) dX4_bestSpring_50 ?_
        refine r_iconst (v := 0) C dX4_bestSpring_53 (by decide) ?_
        refine r_iload C dX4_bestSpring_54 5 rfl ?_
        refine ast_I1 (M' := (wM a3 3 3 x5)) C (by decide) (by decide) rfl dX4_bestSpring_56 ?_
        refine r_aload_n C dX4_bestSpring_57 0 0 rfl rfl ?_
        refine gf_X4_25 C dX4_bestSpring_58 ?_
        refine r_iload_n C dX4_bestSpring_61 2 2 rfl rfl ?_
        refine r_iload_n C dX4_bestSpring_62 3 3 rfl rfl ?_
        refine r_iconst (v := 1) C dX4_bestSpring_63 (by decide) ?_
        refine r_isub C dX4_bestSpring_64 ?_
        refine r_bind (fun a4 ha4 => ?_)
        refine r_callV (rest := []) (st2 := [.int a4.1]) C (mX1_seek (eL E) C.z (wM a3 3 3 x5) N x2 (x3 - 1) a4 ha4) lk_X4_187 (rvR C) (by decide) rfl rfl (Nat.le_of_ble_eq_true rfl) dX4_bestSpring_65 rfl ?_
        refine r_istore (lv' := [(6, .int a4.1), (0, .ref (zA Z 8 0)), (1, .int x1), (2, .int x2), (3, .int x3), (4, .int x4), (5, .int x5)]) C dX4_bestSpring_68 (by decide) rfl ?_
        refine r_iload C dX4_bestSpring_70 0 rfl ?_
        refine r_iconst (v := (-1)) C dX4_bestSpring_72 (by decide) ?_
        refine r_ic_eq (tgt := 83) C dX4_bestSpring_73 (by decide) (fun c5 => ?_) (fun c5 => ?_)
        · refine r_iinc (v := (x5 + 1)) (lv' := [(5, .int (x5 + 1)), (6, .int a4.1), (0, .ref (zA Z 8 0)), (1, .int x1), (2, .int x2), (3, .int x3), (4, .int x4)]) C dX4_bestSpring_83 6 rfl rfl (by decide) rfl ?_
          refine r_goto (tgt := 9) C dX4_bestSpring_86 (by decide) ?_
          refine r_lv [2, 3, 4, 5, 6, 0] (lv' := [(0, .ref (zA Z 8 0)), (1, .int x1), (2, .int x2), (3, .int x3), (4, .int x4), (5, .int (x5 + 1))]) rfl ?_
          exact ih (a4.2) x1 x2 x3 x4 (x5 + 1)
        · refine r_iload C dX4_bestSpring_76 0 rfl ?_
          refine r_istore_n (lv' := [(3, .int a4.1), (6, .int a4.1), (0, .ref (zA Z 8 0)), (1, .int x1), (2, .int x2), (4, .int x4), (5, .int x5)]) C dX4_bestSpring_78 3 rfl (by decide) rfl ?_
          refine r_iload C dX4_bestSpring_79 6 rfl ?_
          refine r_istore (lv' := [(4, .int x5), (3, .int a4.1), (6, .int a4.1), (0, .ref (zA Z 8 0)), (1, .int x1), (2, .int x2), (5, .int x5)]) C dX4_bestSpring_81 (by decide) rfl ?_
          refine r_iinc (v := (x5 + 1)) (lv' := [(5, .int (x5 + 1)), (4, .int x5), (3, .int a4.1), (6, .int a4.1), (0, .ref (zA Z 8 0)), (1, .int x1), (2, .int x2)]) C dX4_bestSpring_83 6 rfl rfl (by decide) rfl ?_
          refine r_goto (tgt := 9) C dX4_bestSpring_86 (by decide) ?_
          refine r_lv [4, 5, 6, 2, 1, 0] (lv' := [(0, .ref (zA Z 8 0)), (1, .int x1), (2, .int x2), (3, .int a4.1), (4, .int x5), (5, .int (x5 + 1))]) rfl ?_
          exact ih (a4.2) x1 x2 a4.1 x5 (x5 + 1)
      · refine r_goto (tgt := 83) C dX4_bestSpring_28 (by decide) ?_
        refine r_iinc (v := (x5 + 1)) (lv' := [(5, .int (x5 + 1)), (0, .ref (zA Z 8 0)), (1, .int x1), (2, .int x2), (3, .int x3), (4, .int x4)]) C dX4_bestSpring_83 5 rfl rfl (by decide) rfl ?_
        refine r_goto (tgt := 9) C dX4_bestSpring_86 (by decide) ?_
        refine r_lv [1, 2, 3, 4, 5, 0] (lv' := [(0, .ref (zA Z 8 0)), (1, .int x1), (2, .int x2), (3, .int x3), (4, .int x4), (5, .int (x5 + 1))]) rfl ?_
        exact ih M x1 x2 x3 x4 (x5 + 1)
noncomputable def fX4_bestSpring   (M : Mi) (x1 : Int32) (x2 : Int32) : Option (Int32 × Mi) := (fX4_bestSpring_9 fu M x1 x2 49 (-1) 0)
theorem bX4_bestSpring {Z : Zt} {E : Ec} {N : Ml} (C : Ok 1 Z E cX4_bestSpring 7 RX4 (some .int) 5)    (M : Mi) (x1 : Int32) (x2 : Int32)  : GT Z E 7 (finX4_bestSpring N) 0 [(0, .ref (zA Z 8 0)), (1, .int x1), (2, .int x2)] [] M N (fX4_bestSpring M x1 x2) := by
  unfold fX4_bestSpring
  refine r_bipush (v := 49) C dX4_bestSpring_0 (by decide) ?_
  refine r_istore_n (lv' := [(3, .int 49), (0, .ref (zA Z 8 0)), (1, .int x1), (2, .int x2)]) C dX4_bestSpring_2 3 rfl (by decide) rfl ?_
  refine r_iconst (v := (-1)) C dX4_bestSpring_3 (by decide) ?_
  refine r_istore (lv' := [(4, .int (-1)), (3, .int 49), (0, .ref (zA Z 8 0)), (1, .int x1), (2, .int x2)]) C dX4_bestSpring_4 (by decide) rfl ?_
  refine r_iconst (v := 0) C dX4_bestSpring_6 (by decide) ?_
  refine r_istore (lv' := [(5, .int 0), (4, .int (-1)), (3, .int 49), (0, .ref (zA Z 8 0)), (1, .int x1), (2, .int x2)]) C dX4_bestSpring_7 (by decide) rfl ?_
  refine r_lv [3, 4, 5, 2, 1, 0] (lv' := [(0, .ref (zA Z 8 0)), (1, .int x1), (2, .int x2), (3, .int 49), (4, .int (-1)), (5, .int 0)]) rfl ?_
  exact bX4_bestSpring_9 C fu M x1 x2 49 (-1) 0
theorem mX4_bestSpring (l : Launch) {Z : Zt} (hZ : Zok 1 Z) (M : Mi) (N : Ml) (x1 : Int32) (x2 : Int32) (b : Int32 × Mi) (hb : fX4_bestSpring M x1 x2 = some b) : Ct 1 Z l yX4_bestSpring cX4_bestSpring 7 (some .int) 5 [.ref (zA Z 8 0), .int x1, .int x2] M N (some (Value.int b.1), b.2, N) :=
  metG (fin := (finX4_bestSpring N)) (by decide) (Nat.le_of_ble_eq_true rfl) (fun E _ C => bX4_bestSpring C M x1 x2) hb
theorem dX4_spring_0 : decode cX4_spring 0 = .ok (.aload_n 0, 1) := by decide +kernel
theorem dX4_spring_1 : decode cX4_spring 1 = .ok (.iload_n 1, 1) := by decide +kernel
theorem dX4_spring_2 : decode cX4_spring 2 = .ok (.iload_n 2, 1) := by decide +kernel
theorem dX4_spring_3 : decode cX4_spring 3 = .ok (.invokevirtual 179, 3) := by decide +kernel
theorem dX4_spring_6 : decode cX4_spring 6 = .ok (.istore_n 3, 1) := by decide +kernel
theorem dX4_spring_7 : decode cX4_spring 7 = .ok (.iload_n 3, 1) := by decide +kernel
theorem dX4_spring_8 : decode cX4_spring 8 = .ok (.ifCond .eq 5, 3) := by decide +kernel
theorem dX4_spring_11 : decode cX4_spring 11 = .ok (.iload_n 3, 1) := by decide +kernel
theorem dX4_spring_12 : decode cX4_spring 12 = .ok (.ireturn, 1) := by decide +kernel
theorem dX4_spring_13 : decode cX4_spring 13 = .ok (.aload_n 0, 1) := by decide +kernel
theorem dX4_spring_14 : decode cX4_spring 14 = .ok (.iload_n 1, 1) := by decide +kernel
theorem dX4_spring_15 : decode cX4_spring 15 = .ok (.iload_n 2, 1) := by decide +kernel
theorem dX4_spring_16 : decode cX4_spring 16 = .ok (.invokevirtual 214, 3) := by decide +kernel
theorem dX4_spring_19 : decode cX4_spring 19 = .ok (.istore 4, 2) := by decide +kernel
theorem dX4_spring_21 : decode cX4_spring 21 = .ok (.iload 4, 2) := by decide +kernel
theorem dX4_spring_23 : decode cX4_spring 23 = .ok (.iconst (-1), 1) := by decide +kernel
theorem dX4_spring_24 : decode cX4_spring 24 = .ok (.if_icmp .ne 11, 3) := by decide +kernel
theorem dX4_spring_27 : decode cX4_spring 27 = .ok (.aload_n 0, 1) := by decide +kernel
theorem dX4_spring_28 : decode cX4_spring 28 = .ok (.iconst 3, 1) := by decide +kernel
theorem dX4_spring_29 : decode cX4_spring 29 = .ok (.invokevirtual 58, 3) := by decide +kernel
theorem dX4_spring_32 : decode cX4_spring 32 = .ok (.goto 5, 3) := by decide +kernel
theorem dX4_spring_35 : decode cX4_spring 35 = .ok (.iload 4, 2) := by decide +kernel
theorem dX4_spring_37 : decode cX4_spring 37 = .ok (.ireturn, 1) := by decide +kernel
def finX4_spring (N : Ml) : Int32 × Mi → Option Value × Mi × Ml := fun b => (some (Value.int b.1), b.2, N)
noncomputable def fX4_spring   (M : Mi) (x1 : Int32) (x2 : Int32) : Option (Int32 × Mi) := (Option.bind (fX4_askOfReader M x1 x2) (fun a1 => (if a1.1 = 0 then (Option.bind (fX4_bestSpring (a1.2) x1 x2) (fun a3 => (if a3.1 = (-1) then (Option.bind (fX4_finding (a3.2) 3) (fun a5 => (some (a5.1, (a5.2))))) else (some (a3.1, (a3.2)))))) else (some (a1.1, (a1.2))))))
theorem bX4_spring {Z : Zt} {E : Ec} {N : Ml} (C : Ok 1 Z E cX4_spring 5 RX4 (some .int) 6)    (M : Mi) (x1 : Int32) (x2 : Int32)  : GT Z E 5 (finX4_spring N) 0 [(0, .ref (zA Z 8 0)), (1, .int x1), (2, .int x2)] [] M N (fX4_spring M x1 x2) := by
  unfold fX4_spring
  refine r_aload_n C dX4_spring_0 0 0 rfl rfl ?_
  refine r_iload_n C dX4_spring_1 1 1 rfl rfl ?_
  refine r_iload_n C dX4_spring_2 2 2 rfl rfl ?_
  refine r_bind (fun a1 ha1 => ?_)
  refine r_callV (rest := []) (st2 := [.int a1.1]) C (mX4_askOfReader (eL E) C.z M N x1 x2 a1 ha1) lk_X4_179 (rvX C) (by decide) rfl rfl (Nat.le_of_ble_eq_true rfl) dX4_spring_3 rfl ?_
  refine r_istore_n (lv' := [(3, .int a1.1), (0, .ref (zA Z 8 0)), (1, .int x1), (2, .int x2)]) C dX4_spring_6 3 rfl (by decide) rfl ?_
  refine r_iload_n C dX4_spring_7 3 0 rfl rfl ?_
  refine r_if_eq (tgt := 13) C dX4_spring_8 (by decide) (fun c2 => ?_) (fun c2 => ?_)
  · refine r_aload_n C dX4_spring_13 0 1 rfl rfl ?_
    refine r_iload_n C dX4_spring_14 1 2 rfl rfl ?_
    refine r_iload_n C dX4_spring_15 2 3 rfl rfl ?_
    refine r_bind (fun a3 ha3 => ?_)
    refine r_callV (rest := []) (st2 := [.int a3.1]) C (mX4_bestSpring (eL E) C.z (a1.2) N x1 x2 a3 ha3) lk_X4_214 (rvX C) (by decide) rfl rfl (Nat.le_of_ble_eq_true rfl) dX4_spring_16 rfl ?_
    refine r_istore (lv' := [(4, .int a3.1), (3, .int a1.1), (0, .ref (zA Z 8 0)), (1, .int x1), (2, .int x2)]) C dX4_spring_19 (by decide) rfl ?_
    refine r_iload C dX4_spring_21 0 rfl ?_
    refine r_iconst (v := (-1)) C dX4_spring_23 (by decide) ?_
    refine r_ic_ne (tgt := 35) C dX4_spring_24 (by decide) (fun c4 => ?_) (fun c4 => ?_)
    · refine r_iload C dX4_spring_35 0 rfl ?_
      exact r_iret C dX4_spring_37 rfl
    · refine r_aload_n C dX4_spring_27 0 2 rfl rfl ?_
      refine r_iconst (v := 3) C dX4_spring_28 (by decide) ?_
      refine r_bind (fun a5 ha5 => ?_)
      refine r_callV (rest := []) (st2 := [.int a5.1]) C (mX4_finding (eL E) C.z (a3.2) N 3 a5 ha5) lk_X4_58 (rvX C) (by decide) rfl rfl (Nat.le_of_ble_eq_true rfl) dX4_spring_29 rfl ?_
      refine r_goto (tgt := 37) C dX4_spring_32 (by decide) ?_
      exact r_iret C dX4_spring_37 rfl
  · refine r_iload_n C dX4_spring_11 3 0 rfl rfl ?_
    exact r_iret C dX4_spring_12 rfl
theorem mX4_spring (l : Launch) {Z : Zt} (hZ : Zok 1 Z) (M : Mi) (N : Ml) (x1 : Int32) (x2 : Int32) (b : Int32 × Mi) (hb : fX4_spring M x1 x2 = some b) : Ct 1 Z l yX4_spring cX4_spring 5 (some .int) 6 [.ref (zA Z 8 0), .int x1, .int x2] M N (some (Value.int b.1), b.2, N) :=
  metG (fin := (finX4_spring N)) (by decide) (Nat.le_of_ble_eq_true rfl) (fun E _ C => bX4_spring C M x1 x2) hb
theorem dX4_bestKind_0 : decode cX4_bestKind 0 = .ok (.bipush 73, 2) := by decide +kernel
theorem dX4_bestKind_2 : decode cX4_bestKind 2 = .ok (.istore_n 3, 1) := by decide +kernel
theorem dX4_bestKind_3 : decode cX4_bestKind 3 = .ok (.iconst (-1), 1) := by decide +kernel
theorem dX4_bestKind_4 : decode cX4_bestKind 4 = .ok (.istore 4, 2) := by decide +kernel
theorem dX4_bestKind_6 : decode cX4_bestKind 6 = .ok (.iconst 0, 1) := by decide +kernel
theorem dX4_bestKind_7 : decode cX4_bestKind 7 = .ok (.istore 5, 2) := by decide +kernel
theorem dX4_bestKind_9 : decode cX4_bestKind 9 = .ok (.iload 5, 2) := by decide +kernel
theorem dX4_bestKind_11 : decode cX4_bestKind 11 = .ok (.bipush 6, 2) := by decide +kernel
theorem dX4_bestKind_13 : decode cX4_bestKind 13 = .ok (.if_icmp .ge 58, 3) := by decide +kernel
theorem dX4_bestKind_16 : decode cX4_bestKind 16 = .ok (.aload_n 0, 1) := by decide +kernel
theorem dX4_bestKind_17 : decode cX4_bestKind 17 = .ok (.getfield 16, 3) := by decide +kernel
theorem dX4_bestKind_20 : decode cX4_bestKind 20 = .ok (.aload_n 0, 1) := by decide +kernel
theorem dX4_bestKind_21 : decode cX4_bestKind 21 = .ok (.getfield 12, 3) := by decide +kernel
theorem dX4_bestKind_24 : decode cX4_bestKind 24 = .ok (.invokevirtual 163, 3) := by decide +kernel
theorem dX4_bestKind_27 : decode cX4_bestKind 27 = .ok (.aload_n 0, 1) := by decide +kernel
theorem dX4_bestKind_28 : decode cX4_bestKind 28 = .ok (.getfield 16, 3) := by decide +kernel
theorem dX4_bestKind_31 : decode cX4_bestKind 31 = .ok (.getfield 104, 3) := by decide +kernel
theorem dX4_bestKind_34 : decode cX4_bestKind 34 = .ok (.iload_n 1, 1) := by decide +kernel
theorem dX4_bestKind_35 : decode cX4_bestKind 35 = .ok (.iload 5, 2) := by decide +kernel
theorem dX4_bestKind_37 : decode cX4_bestKind 37 = .ok (.iastore, 1) := by decide +kernel
theorem dX4_bestKind_38 : decode cX4_bestKind 38 = .ok (.aload_n 0, 1) := by decide +kernel
theorem dX4_bestKind_39 : decode cX4_bestKind 39 = .ok (.getfield 16, 3) := by decide +kernel
theorem dX4_bestKind_42 : decode cX4_bestKind 42 = .ok (.iload_n 1, 1) := by decide +kernel
theorem dX4_bestKind_43 : decode cX4_bestKind 43 = .ok (.iload_n 2, 1) := by decide +kernel
theorem dX4_bestKind_44 : decode cX4_bestKind 44 = .ok (.iload_n 3, 1) := by decide +kernel
theorem dX4_bestKind_45 : decode cX4_bestKind 45 = .ok (.iconst 1, 1) := by decide +kernel
theorem dX4_bestKind_46 : decode cX4_bestKind 46 = .ok (.isub, 1) := by decide +kernel
theorem dX4_bestKind_47 : decode cX4_bestKind 47 = .ok (.invokevirtual 167, 3) := by decide +kernel
theorem dX4_bestKind_50 : decode cX4_bestKind 50 = .ok (.istore 6, 2) := by decide +kernel
theorem dX4_bestKind_52 : decode cX4_bestKind 52 = .ok (.iload 6, 2) := by decide +kernel
theorem dX4_bestKind_54 : decode cX4_bestKind 54 = .ok (.iconst (-1), 1) := by decide +kernel
theorem dX4_bestKind_55 : decode cX4_bestKind 55 = .ok (.if_icmp .eq 10, 3) := by decide +kernel
theorem dX4_bestKind_58 : decode cX4_bestKind 58 = .ok (.iload 6, 2) := by decide +kernel
theorem dX4_bestKind_60 : decode cX4_bestKind 60 = .ok (.istore_n 3, 1) := by decide +kernel
theorem dX4_bestKind_61 : decode cX4_bestKind 61 = .ok (.iload 5, 2) := by decide +kernel
theorem dX4_bestKind_63 : decode cX4_bestKind 63 = .ok (.istore 4, 2) := by decide +kernel
theorem dX4_bestKind_65 : decode cX4_bestKind 65 = .ok (.iinc 5 1, 3) := by decide +kernel
theorem dX4_bestKind_68 : decode cX4_bestKind 68 = .ok (.goto (-59), 3) := by decide +kernel
theorem dX4_bestKind_71 : decode cX4_bestKind 71 = .ok (.iload 4, 2) := by decide +kernel
theorem dX4_bestKind_73 : decode cX4_bestKind 73 = .ok (.ireturn, 1) := by decide +kernel
def finX4_bestKind (N : Ml) : Int32 × Mi → Option Value × Mi × Ml := fun b => (some (Value.int b.1), b.2, N)
noncomputable def fX4_bestKind_9   : Nat → Mi → Int32 → Int32 → Int32 → Int32 → Int32 → Option (Int32 × Mi)
  | 0 => fun _ _ _ _ _ _ => none
  | n + 1 => fun M x1 x2 x3 x4 x5 => (if 6 ≤ x5 then (some (x4, M)) else (Option.bind (fX0_becomes (M 0) (M 1)) (fun a2 => (if inb x1 8 then (Option.bind (fX0_hoursTill ((wM (sR M 1 a2) 1 (7 + 4 * ix x1) x5) 1) x1 x2 (x3 - 1)) (fun a4 => (if a4.1 = (-1) then ((fX4_bestKind_9 n) (sR (wM (sR M 1 a2) 1 (7 + 4 * ix x1) x5) 1 (a4.2)) x1 x2 x3 x4 (x5 + 1)) else ((fX4_bestKind_9 n) (sR (wM (sR M 1 a2) 1 (7 + 4 * ix x1) x5) 1 (a4.2)) x1 x2 a4.1 x5 (x5 + 1))))) else none))))
theorem bX4_bestKind_9 {Z : Zt} {E : Ec} {N : Ml} (C : Ok 1 Z E cX4_bestKind 7 RX4 (some .int) 5)    : ∀ (n : Nat) (M : Mi) (x1 : Int32) (x2 : Int32) (x3 : Int32) (x4 : Int32) (x5 : Int32), GT Z E 7 (finX4_bestKind N) 9 [(0, .ref (zA Z 8 0)), (1, .int x1), (2, .int x2), (3, .int x3), (4, .int x4), (5, .int x5)] [] M N (fX4_bestKind_9 n M x1 x2 x3 x4 x5) := by
  intro n
  induction n with
  | zero => intro M x1 x2 x3 x4 x5; exact r_none
  | succ n ih =>
    intro M x1 x2 x3 x4 x5
    rw [fX4_bestKind_9]
    refine r_iload C dX4_bestKind_9 5 rfl ?_
    refine r_bipush (v := 6) C dX4_bestKind_11 (by decide) ?_
    refine r_ic_ge (tgt := 71) C dX4_bestKind_13 (by decide) (fun c1 => ?_) (fun c1 => ?_)
    · refine r_iload C dX4_bestKind_71 4 rfl ?_
      exact r_iret C dX4_bestKind_73 rfl
    · refine r_aload_n C dX4_bestKind_16 0 0 rfl rfl ?_
      refine gf_X4_16 C dX4_bestKind_17 ?_
      refine r_aload_n C dX4_bestKind_20 0 0 rfl rfl ?_
      refine gf_X4_12 C dX4_bestKind_21 ?_
      refine r_bind (fun a2 ha2 => ?_)
      refine r_callV (rest := []) (st2 := []) C (mX0_becomes (eL E) C.z (by decide) (by decide) (by decide) M _ (M 1) a2 ha2).selfW lk_X4_163 (rvI C (by decide)) (by decide) rfl rfl (Nat.le_of_ble_eq_true rfl) dX4_bestKind_24 rfl ?_
      refine r_aload_n C dX4_bestKind_27 0 0 rfl rfl ?_
      refine gf_X4_16 C dX4_bestKind_28 ?_
      refine gf_X4_104 C (by decide) dX4_bestKind_31 ?_
      refine r_iload_n C dX4_bestKind_34 1 1 rfl rfl ?_
      refine r_iload C dX4_bestKind_35 5 rfl ?_
      refine r_guard (fun h3 => ?_)
      refine ast_I2 (M' := (wM (sR M 1 a2) 1 (7 + 4 * ix x1) x5)) C (by decide) h3 rfl dX4_bestKind_37 ?_
      refine r_aload_n C dX4_bestKind_38 0 0 rfl rfl ?_
      refine gf_X4_16 C dX4_bestKind_39 ?_
      refine r_iload_n C dX4_bestKind_42 1 1 rfl rfl ?_
      refine r_iload_n C dX4_bestKind_43 2 2 rfl rfl ?_
      refine r_iload_n C dX4_bestKind_44 3 3 rfl rfl ?_
      refine r_iconst (v := 1) C dX4_bestKind_45 (by decide) ?_
      refine r_isub C dX4_bestKind_46 ?_
      refine r_bind (fun a4 ha4 => ?_)
      refine r_callV (rest := []) (st2 := [.int a4.1]) C (mX0_hoursTill (eL E) C.z (by decide) (wM (sR M 1 a2) 1 (7 + 4 * ix x1) x5) _ ((wM (sR M 1 a2) 1 (7 + 4 * ix x1) x5) 1) x1 x2 (x3 - 1) a4 ha4).selfW lk_X4_167 (rvI C (by decide)) (by decide) rfl rfl (Nat.le_of_ble_eq_true rfl) dX4_bestKind_47 rfl ?_
      refine r_istore (lv' := [(6, .int a4.1), (0, .ref (zA Z 8 0)), (1, .int x1), (2, .int x2), (3, .int x3), (4, .int x4), (5, .int x5)]) C dX4_bestKind_50 (by decide) rfl ?_
      refine r_iload C dX4_bestKind_52 0 rfl ?_
      refine r_iconst (v := (-1)) C dX4_bestKind_54 (by decide) ?_
      refine r_ic_eq (tgt := 65) C dX4_bestKind_55 (by decide) (fun c5 => ?_) (fun c5 => ?_)
      · refine r_iinc (v := (x5 + 1)) (lv' := [(5, .int (x5 + 1)), (6, .int a4.1), (0, .ref (zA Z 8 0)), (1, .int x1), (2, .int x2), (3, .int x3), (4, .int x4)]) C dX4_bestKind_65 6 rfl rfl (by decide) rfl ?_
        refine r_goto (tgt := 9) C dX4_bestKind_68 (by decide) ?_
        refine r_lv [2, 3, 4, 5, 6, 0] (lv' := [(0, .ref (zA Z 8 0)), (1, .int x1), (2, .int x2), (3, .int x3), (4, .int x4), (5, .int (x5 + 1))]) rfl ?_
        exact ih (sR (wM (sR M 1 a2) 1 (7 + 4 * ix x1) x5) 1 (a4.2)) x1 x2 x3 x4 (x5 + 1)
      · refine r_iload C dX4_bestKind_58 0 rfl ?_
        refine r_istore_n (lv' := [(3, .int a4.1), (6, .int a4.1), (0, .ref (zA Z 8 0)), (1, .int x1), (2, .int x2), (4, .int x4), (5, .int x5)]) C dX4_bestKind_60 3 rfl (by decide) rfl ?_
        refine r_iload C dX4_bestKind_61 6 rfl ?_
        refine r_istore (lv' := [(4, .int x5), (3, .int a4.1), (6, .int a4.1), (0, .ref (zA Z 8 0)), (1, .int x1), (2, .int x2), (5, .int x5)]) C dX4_bestKind_63 (by decide) rfl ?_
        refine r_iinc (v := (x5 + 1)) (lv' := [(5, .int (x5 + 1)), (4, .int x5), (3, .int a4.1), (6, .int a4.1), (0, .ref (zA Z 8 0)), (1, .int x1), (2, .int x2)]) C dX4_bestKind_65 6 rfl rfl (by decide) rfl ?_
        refine r_goto (tgt := 9) C dX4_bestKind_68 (by decide) ?_
        refine r_lv [4, 5, 6, 2, 1, 0] (lv' := [(0, .ref (zA Z 8 0)), (1, .int x1), (2, .int x2), (3, .int a4.1), (4, .int x5), (5, .int (x5 + 1))]) rfl ?_
        exact ih (sR (wM (sR M 1 a2) 1 (7 + 4 * ix x1) x5) 1 (a4.2)) x1 x2 a4.1 x5 (x5 + 1)
noncomputable def fX4_bestKind   (M : Mi) (x1 : Int32) (x2 : Int32) : Option (Int32 × Mi) := (fX4_bestKind_9 fu M x1 x2 73 (-1) 0)
theorem bX4_bestKind {Z : Zt} {E : Ec} {N : Ml} (C : Ok 1 Z E cX4_bestKind 7 RX4 (some .int) 5)    (M : Mi) (x1 : Int32) (x2 : Int32)  : GT Z E 7 (finX4_bestKind N) 0 [(0, .ref (zA Z 8 0)), (1, .int x1), (2, .int x2)] [] M N (fX4_bestKind M x1 x2) := by
  unfold fX4_bestKind
  refine r_bipush (v := 73) C dX4_bestKind_0 (by decide) ?_
  refine r_istore_n (lv' := [(3, .int 73), (0, .ref (zA Z 8 0)), (1, .int x1), (2, .int x2)]) C dX4_bestKind_2 3 rfl (by decide) rfl ?_
  refine r_iconst (v := (-1)) C dX4_bestKind_3 (by decide) ?_
  refine r_istore (lv' := [(4, .int (-1)), (3, .int 73), (0, .ref (zA Z 8 0)), (1, .int x1), (2, .int x2)]) C dX4_bestKind_4 (by decide) rfl ?_
  refine r_iconst (v := 0) C dX4_bestKind_6 (by decide) ?_
  refine r_istore (lv' := [(5, .int 0), (4, .int (-1)), (3, .int 73), (0, .ref (zA Z 8 0)), (1, .int x1), (2, .int x2)]) C dX4_bestKind_7 (by decide) rfl ?_
  refine r_lv [3, 4, 5, 2, 1, 0] (lv' := [(0, .ref (zA Z 8 0)), (1, .int x1), (2, .int x2), (3, .int 73), (4, .int (-1)), (5, .int 0)]) rfl ?_
  exact bX4_bestKind_9 C fu M x1 x2 73 (-1) 0
theorem mX4_bestKind (l : Launch) {Z : Zt} (hZ : Zok 1 Z) (M : Mi) (N : Ml) (x1 : Int32) (x2 : Int32) (b : Int32 × Mi) (hb : fX4_bestKind M x1 x2 = some b) : Ct 1 Z l yX4_bestKind cX4_bestKind 7 (some .int) 5 [.ref (zA Z 8 0), .int x1, .int x2] M N (some (Value.int b.1), b.2, N) :=
  metG (fin := (finX4_bestKind N)) (by decide) (Nat.le_of_ble_eq_true rfl) (fun E _ C => bX4_bestKind C M x1 x2) hb
theorem dX4_kind_0 : decode cX4_kind 0 = .ok (.aload_n 0, 1) := by decide +kernel
theorem dX4_kind_1 : decode cX4_kind 1 = .ok (.getfield 12, 3) := by decide +kernel
theorem dX4_kind_4 : decode cX4_kind 4 = .ok (.iload_n 1, 1) := by decide +kernel
theorem dX4_kind_5 : decode cX4_kind 5 = .ok (.invokevirtual 101, 3) := by decide +kernel
theorem dX4_kind_8 : decode cX4_kind 8 = .ok (.ifCond .eq 10, 3) := by decide +kernel
theorem dX4_kind_11 : decode cX4_kind 11 = .ok (.iload_n 2, 1) := by decide +kernel
theorem dX4_kind_12 : decode cX4_kind 12 = .ok (.invokestatic 51, 3) := by decide +kernel
theorem dX4_kind_15 : decode cX4_kind 15 = .ok (.ifCond .ne 9, 3) := by decide +kernel
theorem dX4_kind_18 : decode cX4_kind 18 = .ok (.aload_n 0, 1) := by decide +kernel
theorem dX4_kind_19 : decode cX4_kind 19 = .ok (.iconst 0, 1) := by decide +kernel
theorem dX4_kind_20 : decode cX4_kind 20 = .ok (.invokevirtual 58, 3) := by decide +kernel
theorem dX4_kind_23 : decode cX4_kind 23 = .ok (.ireturn, 1) := by decide +kernel
theorem dX4_kind_24 : decode cX4_kind 24 = .ok (.aload_n 0, 1) := by decide +kernel
theorem dX4_kind_25 : decode cX4_kind 25 = .ok (.iload_n 1, 1) := by decide +kernel
theorem dX4_kind_26 : decode cX4_kind 26 = .ok (.iload_n 2, 1) := by decide +kernel
theorem dX4_kind_27 : decode cX4_kind 27 = .ok (.invokevirtual 217, 3) := by decide +kernel
theorem dX4_kind_30 : decode cX4_kind 30 = .ok (.istore_n 3, 1) := by decide +kernel
theorem dX4_kind_31 : decode cX4_kind 31 = .ok (.iload_n 3, 1) := by decide +kernel
theorem dX4_kind_32 : decode cX4_kind 32 = .ok (.iconst (-1), 1) := by decide +kernel
theorem dX4_kind_33 : decode cX4_kind 33 = .ok (.if_icmp .ne 11, 3) := by decide +kernel
theorem dX4_kind_36 : decode cX4_kind 36 = .ok (.aload_n 0, 1) := by decide +kernel
theorem dX4_kind_37 : decode cX4_kind 37 = .ok (.iconst 3, 1) := by decide +kernel
theorem dX4_kind_38 : decode cX4_kind 38 = .ok (.invokevirtual 58, 3) := by decide +kernel
theorem dX4_kind_41 : decode cX4_kind 41 = .ok (.goto 4, 3) := by decide +kernel
theorem dX4_kind_44 : decode cX4_kind 44 = .ok (.iload_n 3, 1) := by decide +kernel
theorem dX4_kind_45 : decode cX4_kind 45 = .ok (.ireturn, 1) := by decide +kernel
def finX4_kind (N : Ml) : Int32 × Mi → Option Value × Mi × Ml := fun b => (some (Value.int b.1), b.2, N)
noncomputable def fX4_kind_18   (M : Mi) : Option (Int32 × Mi) := (Option.bind (fX4_finding M 0) (fun a2 => (some (a2.1, (a2.2)))))
theorem bX4_kind_18 {Z : Zt} {E : Ec} {N : Ml} (C : Ok 1 Z E cX4_kind 4 RX4 (some .int) 6)    (M : Mi)  : GT Z E 4 (finX4_kind N) 18 [(0, .ref (zA Z 8 0))] [] M N (fX4_kind_18 M) := by
  unfold fX4_kind_18
  refine r_aload_n C dX4_kind_18 0 0 rfl rfl ?_
  refine r_iconst (v := 0) C dX4_kind_19 (by decide) ?_
  refine r_bind (fun a2 ha2 => ?_)
  refine r_callV (rest := []) (st2 := [.int a2.1]) C (mX4_finding (eL E) C.z M N 0 a2 ha2) lk_X4_58 (rvX C) (by decide) rfl rfl (Nat.le_of_ble_eq_true rfl) dX4_kind_20 rfl ?_
  exact r_iret C dX4_kind_23 rfl
noncomputable def fX4_kind   (M : Mi) (x1 : Int32) (x2 : Int32) : Option (Int32 × Mi) := (if (fX0_has (M 0) x1) = 0 then (fX4_kind_18 M) else (if (fX4_isCell x2) = 0 then (fX4_kind_18 M) else (Option.bind (fX4_bestKind M x1 x2) (fun a4 => (if a4.1 = (-1) then (Option.bind (fX4_finding (a4.2) 3) (fun a6 => (some (a6.1, (a6.2))))) else (some (a4.1, (a4.2))))))))
theorem bX4_kind {Z : Zt} {E : Ec} {N : Ml} (C : Ok 1 Z E cX4_kind 4 RX4 (some .int) 6)    (M : Mi) (x1 : Int32) (x2 : Int32)  : GT Z E 4 (finX4_kind N) 0 [(0, .ref (zA Z 8 0)), (1, .int x1), (2, .int x2)] [] M N (fX4_kind M x1 x2) := by
  unfold fX4_kind
  refine r_aload_n C dX4_kind_0 0 0 rfl rfl ?_
  refine gf_X4_12 C dX4_kind_1 ?_
  refine r_iload_n C dX4_kind_4 1 1 rfl rfl ?_
  refine r_callV (rest := []) (st2 := [.int (fX0_has (M 0) x1)]) C (mX0_has (eL E) C.z (by decide) M _ (M 0) x1).selfR lk_X4_101 (rvI C (by decide)) (by decide) rfl rfl (Nat.le_of_ble_eq_true rfl) dX4_kind_5 rfl ?_
  refine r_if_eq (tgt := 18) C dX4_kind_8 (by decide) (fun c1 => ?_) (fun c1 => ?_)
  · refine r_lv [0] (lv' := [(0, .ref (zA Z 8 0))]) rfl ?_
    exact bX4_kind_18 C M
  · refine r_iload_n C dX4_kind_11 2 2 rfl rfl ?_
    refine r_callS (rest := []) (st2 := [.int (fX4_isCell x2)]) C (mX4_isCell (eL E) C.z _ _ x2) lk_X4_51 (by decide) rfl rfl (Nat.le_of_ble_eq_true rfl) dX4_kind_12 rfl ?_
    refine r_if_ne (tgt := 24) C dX4_kind_15 (by decide) (fun c3 => ?_) (fun c3 => ?_)
    · refine r_aload_n C dX4_kind_24 0 0 rfl rfl ?_
      refine r_iload_n C dX4_kind_25 1 1 rfl rfl ?_
      refine r_iload_n C dX4_kind_26 2 2 rfl rfl ?_
      refine r_bind (fun a4 ha4 => ?_)
      refine r_callV (rest := []) (st2 := [.int a4.1]) C (mX4_bestKind (eL E) C.z M N x1 x2 a4 ha4) lk_X4_217 (rvX C) (by decide) rfl rfl (Nat.le_of_ble_eq_true rfl) dX4_kind_27 rfl ?_
      refine r_istore_n (lv' := [(3, .int a4.1), (0, .ref (zA Z 8 0)), (1, .int x1), (2, .int x2)]) C dX4_kind_30 3 rfl (by decide) rfl ?_
      refine r_iload_n C dX4_kind_31 3 0 rfl rfl ?_
      refine r_iconst (v := (-1)) C dX4_kind_32 (by decide) ?_
      refine r_ic_ne (tgt := 44) C dX4_kind_33 (by decide) (fun c5 => ?_) (fun c5 => ?_)
      · refine r_iload_n C dX4_kind_44 3 0 rfl rfl ?_
        exact r_iret C dX4_kind_45 rfl
      · refine r_aload_n C dX4_kind_36 0 1 rfl rfl ?_
        refine r_iconst (v := 3) C dX4_kind_37 (by decide) ?_
        refine r_bind (fun a6 ha6 => ?_)
        refine r_callV (rest := []) (st2 := [.int a6.1]) C (mX4_finding (eL E) C.z (a4.2) N 3 a6 ha6) lk_X4_58 (rvX C) (by decide) rfl rfl (Nat.le_of_ble_eq_true rfl) dX4_kind_38 rfl ?_
        refine r_goto (tgt := 45) C dX4_kind_41 (by decide) ?_
        exact r_iret C dX4_kind_45 rfl
    · refine r_lv [0] (lv' := [(0, .ref (zA Z 8 0))]) rfl ?_
      exact bX4_kind_18 C M
theorem mX4_kind (l : Launch) {Z : Zt} (hZ : Zok 1 Z) (M : Mi) (N : Ml) (x1 : Int32) (x2 : Int32) (b : Int32 × Mi) (hb : fX4_kind M x1 x2 = some b) : Ct 1 Z l yX4_kind cX4_kind 4 (some .int) 6 [.ref (zA Z 8 0), .int x1, .int x2] M N (some (Value.int b.1), b.2, N) :=
  metG (fin := (finX4_kind N)) (by decide) (Nat.le_of_ble_eq_true rfl) (fun E _ C => bX4_kind C M x1 x2) hb
theorem dX4_feed_0 : decode cX4_feed 0 = .ok (.iload_n 2, 1) := by decide +kernel
theorem dX4_feed_1 : decode cX4_feed 1 = .ok (.iconst 1, 1) := by decide +kernel
theorem dX4_feed_2 : decode cX4_feed 2 = .ok (.if_icmp .lt 8, 3) := by decide +kernel
theorem dX4_feed_5 : decode cX4_feed 5 = .ok (.iload_n 2, 1) := by decide +kernel
theorem dX4_feed_6 : decode cX4_feed 6 = .ok (.iconst 4, 1) := by decide +kernel
theorem dX4_feed_7 : decode cX4_feed 7 = .ok (.if_icmp .le 9, 3) := by decide +kernel
theorem dX4_feed_10 : decode cX4_feed 10 = .ok (.aload_n 0, 1) := by decide +kernel
theorem dX4_feed_11 : decode cX4_feed 11 = .ok (.iconst 0, 1) := by decide +kernel
theorem dX4_feed_12 : decode cX4_feed 12 = .ok (.invokevirtual 58, 3) := by decide +kernel
theorem dX4_feed_15 : decode cX4_feed 15 = .ok (.ireturn, 1) := by decide +kernel
theorem dX4_feed_16 : decode cX4_feed 16 = .ok (.aload_n 0, 1) := by decide +kernel
theorem dX4_feed_17 : decode cX4_feed 17 = .ok (.getfield 32, 3) := by decide +kernel
theorem dX4_feed_20 : decode cX4_feed 20 = .ok (.getfield 220, 3) := by decide +kernel
theorem dX4_feed_23 : decode cX4_feed 23 = .ok (.iload_n 2, 1) := by decide +kernel
theorem dX4_feed_24 : decode cX4_feed 24 = .ok (.iadd, 1) := by decide +kernel
theorem dX4_feed_25 : decode cX4_feed 25 = .ok (.bipush 120, 2) := by decide +kernel
theorem dX4_feed_27 : decode cX4_feed 27 = .ok (.if_icmp .le 9, 3) := by decide +kernel
theorem dX4_feed_30 : decode cX4_feed 30 = .ok (.aload_n 0, 1) := by decide +kernel
theorem dX4_feed_31 : decode cX4_feed 31 = .ok (.iconst 1, 1) := by decide +kernel
theorem dX4_feed_32 : decode cX4_feed 32 = .ok (.invokevirtual 58, 3) := by decide +kernel
theorem dX4_feed_35 : decode cX4_feed 35 = .ok (.ireturn, 1) := by decide +kernel
theorem dX4_feed_36 : decode cX4_feed 36 = .ok (.aload_n 0, 1) := by decide +kernel
theorem dX4_feed_37 : decode cX4_feed 37 = .ok (.getfield 32, 3) := by decide +kernel
theorem dX4_feed_40 : decode cX4_feed 40 = .ok (.iload_n 1, 1) := by decide +kernel
theorem dX4_feed_41 : decode cX4_feed 41 = .ok (.iload_n 2, 1) := by decide +kernel
theorem dX4_feed_42 : decode cX4_feed 42 = .ok (.invokevirtual 223, 3) := by decide +kernel
theorem dX4_feed_45 : decode cX4_feed 45 = .ok (.aload_n 0, 1) := by decide +kernel
theorem dX4_feed_46 : decode cX4_feed 46 = .ok (.getfield 32, 3) := by decide +kernel
theorem dX4_feed_49 : decode cX4_feed 49 = .ok (.getfield 220, 3) := by decide +kernel
theorem dX4_feed_52 : decode cX4_feed 52 = .ok (.ireturn, 1) := by decide +kernel
def finX4_feed (N : Ml) : Int32 × Mi → Option Value × Mi × Ml := fun b => (some (Value.int b.1), b.2, N)
noncomputable def fX4_feed_10   (M : Mi) : Option (Int32 × Mi) := (Option.bind (fX4_finding M 0) (fun a2 => (some (a2.1, (a2.2)))))
theorem bX4_feed_10 {Z : Zt} {E : Ec} {N : Ml} (C : Ok 1 Z E cX4_feed 3 RX4 (some .int) 1)    (M : Mi)  : GT Z E 3 (finX4_feed N) 10 [(0, .ref (zA Z 8 0))] [] M N (fX4_feed_10 M) := by
  unfold fX4_feed_10
  refine r_aload_n C dX4_feed_10 0 0 rfl rfl ?_
  refine r_iconst (v := 0) C dX4_feed_11 (by decide) ?_
  refine r_bind (fun a2 ha2 => ?_)
  refine r_callV (rest := []) (st2 := [.int a2.1]) C (mX4_finding (eL E) C.z M N 0 a2 ha2) lk_X4_58 (rvX C) (by decide) rfl rfl (Nat.le_of_ble_eq_true rfl) dX4_feed_12 rfl ?_
  exact r_iret C dX4_feed_15 rfl
noncomputable def fX4_feed   (M : Mi) (x1 : Int32) (x2 : Int32) : Option (Int32 × Mi) := (if x2 < 1 then (fX4_feed_10 M) else (if x2 ≤ 4 then (if ((M 5 0) + x2) ≤ 120 then (Option.bind (fX3_takes M x1 x2) (fun a5 => (some ((a5 5 0), a5)))) else (Option.bind (fX4_finding M 1) (fun a6 => (some (a6.1, (a6.2)))))) else (fX4_feed_10 M)))
theorem bX4_feed {Z : Zt} {E : Ec} {N : Ml} (C : Ok 1 Z E cX4_feed 3 RX4 (some .int) 1)    (M : Mi) (x1 : Int32) (x2 : Int32)  : GT Z E 3 (finX4_feed N) 0 [(0, .ref (zA Z 8 0)), (1, .int x1), (2, .int x2)] [] M N (fX4_feed M x1 x2) := by
  unfold fX4_feed
  refine r_iload_n C dX4_feed_0 2 2 rfl rfl ?_
  refine r_iconst (v := 1) C dX4_feed_1 (by decide) ?_
  refine r_ic_lt (tgt := 10) C dX4_feed_2 (by decide) (fun c1 => ?_) (fun c1 => ?_)
  · refine r_lv [0] (lv' := [(0, .ref (zA Z 8 0))]) rfl ?_
    exact bX4_feed_10 C M
  · refine r_iload_n C dX4_feed_5 2 2 rfl rfl ?_
    refine r_iconst (v := 4) C dX4_feed_6 (by decide) ?_
    refine r_ic_le (tgt := 16) C dX4_feed_7 (by decide) (fun c3 => ?_) (fun c3 => ?_)
    · refine r_aload_n C dX4_feed_16 0 0 rfl rfl ?_
      refine gf_X4_32 C dX4_feed_17 ?_
      refine gf_X4_220 (v := (M 5 0)) C dX4_feed_20 rfl ?_
      refine r_iload_n C dX4_feed_23 2 2 rfl rfl ?_
      refine r_iadd C dX4_feed_24 ?_
      refine r_bipush (v := 120) C dX4_feed_25 (by decide) ?_
      refine r_ic_le (tgt := 36) C dX4_feed_27 (by decide) (fun c4 => ?_) (fun c4 => ?_)
      · refine r_aload_n C dX4_feed_36 0 0 rfl rfl ?_
        refine gf_X4_32 C dX4_feed_37 ?_
        refine r_iload_n C dX4_feed_40 1 1 rfl rfl ?_
        refine r_iload_n C dX4_feed_41 2 2 rfl rfl ?_
        refine r_bind (fun a5 ha5 => ?_)
        refine r_callV (rest := []) (st2 := []) C (mX3_takes (eL E) C.z M N x1 x2 a5 ha5) lk_X4_223 (rvT C) (by decide) rfl rfl (Nat.le_of_ble_eq_true rfl) dX4_feed_42 rfl ?_
        refine r_aload_n C dX4_feed_45 0 0 rfl rfl ?_
        refine gf_X4_32 C dX4_feed_46 ?_
        refine gf_X4_220 (v := (a5 5 0)) C dX4_feed_49 rfl ?_
        exact r_iret C dX4_feed_52 rfl
      · refine r_aload_n C dX4_feed_30 0 0 rfl rfl ?_
        refine r_iconst (v := 1) C dX4_feed_31 (by decide) ?_
        refine r_bind (fun a6 ha6 => ?_)
        refine r_callV (rest := []) (st2 := [.int a6.1]) C (mX4_finding (eL E) C.z M N 1 a6 ha6) lk_X4_58 (rvX C) (by decide) rfl rfl (Nat.le_of_ble_eq_true rfl) dX4_feed_32 rfl ?_
        exact r_iret C dX4_feed_35 rfl
    · refine r_lv [0] (lv' := [(0, .ref (zA Z 8 0))]) rfl ?_
      exact bX4_feed_10 C M
theorem mX4_feed (l : Launch) {Z : Zt} (hZ : Zok 1 Z) (M : Mi) (N : Ml) (x1 : Int32) (x2 : Int32) (b : Int32 × Mi) (hb : fX4_feed M x1 x2 = some b) : Ct 1 Z l yX4_feed cX4_feed 3 (some .int) 1 [.ref (zA Z 8 0), .int x1, .int x2] M N (some (Value.int b.1), b.2, N) :=
  metG (fin := (finX4_feed N)) (by decide) (Nat.le_of_ble_eq_true rfl) (fun E _ C => bX4_feed C M x1 x2) hb
theorem dX4_wipe_0 : decode cX4_wipe 0 = .ok (.aload_n 0, 1) := by decide +kernel
theorem dX4_wipe_1 : decode cX4_wipe 1 = .ok (.getfield 32, 3) := by decide +kernel
theorem dX4_wipe_4 : decode cX4_wipe 4 = .ok (.getfield 220, 3) := by decide +kernel
theorem dX4_wipe_7 : decode cX4_wipe 7 = .ok (.istore_n 1, 1) := by decide +kernel
theorem dX4_wipe_8 : decode cX4_wipe 8 = .ok (.aload_n 0, 1) := by decide +kernel
theorem dX4_wipe_9 : decode cX4_wipe 9 = .ok (.getfield 32, 3) := by decide +kernel
theorem dX4_wipe_12 : decode cX4_wipe 12 = .ok (.iconst 0, 1) := by decide +kernel
theorem dX4_wipe_13 : decode cX4_wipe 13 = .ok (.putfield 220, 3) := by decide +kernel
theorem dX4_wipe_16 : decode cX4_wipe 16 = .ok (.iload_n 1, 1) := by decide +kernel
theorem dX4_wipe_17 : decode cX4_wipe 17 = .ok (.ireturn, 1) := by decide +kernel
def finX4_wipe (N : Ml) : Int32 × Mi → Option Value × Mi × Ml := fun b => (some (Value.int b.1), b.2, N)
noncomputable def fX4_wipe   (M : Mi) : Option (Int32 × Mi) := (some ((M 5 0), (wM M 5 0 0)))
theorem bX4_wipe {Z : Zt} {E : Ec} {N : Ml} (C : Ok 1 Z E cX4_wipe 2 RX4 (some .int) 0)    (M : Mi)  : GT Z E 2 (finX4_wipe N) 0 [(0, .ref (zA Z 8 0))] [] M N (fX4_wipe M) := by
  unfold fX4_wipe
  refine r_aload_n C dX4_wipe_0 0 0 rfl rfl ?_
  refine gf_X4_32 C dX4_wipe_1 ?_
  refine gf_X4_220 (v := (M 5 0)) C dX4_wipe_4 rfl ?_
  refine r_istore_n (lv' := [(1, .int (M 5 0)), (0, .ref (zA Z 8 0))]) C dX4_wipe_7 1 rfl (by decide) rfl ?_
  refine r_aload_n C dX4_wipe_8 0 1 rfl rfl ?_
  refine gf_X4_32 C dX4_wipe_9 ?_
  refine r_iconst (v := 0) C dX4_wipe_12 (by decide) ?_
  refine pf_X4_220 (M' := (wM M 5 0 0)) C dX4_wipe_13 rfl ?_
  refine r_iload_n C dX4_wipe_16 1 0 rfl rfl ?_
  exact r_iret C dX4_wipe_17 rfl
theorem mX4_wipe (l : Launch) {Z : Zt} (hZ : Zok 1 Z) (M : Mi) (N : Ml) (b : Int32 × Mi) (hb : fX4_wipe M = some b) : Ct 1 Z l yX4_wipe cX4_wipe 2 (some .int) 0 [.ref (zA Z 8 0)] M N (some (Value.int b.1), b.2, N) :=
  metG (fin := (finX4_wipe N)) (by decide) (Nat.le_of_ble_eq_true rfl) (fun E _ C => bX4_wipe C M) hb
theorem dX4_island_0 : decode cX4_island 0 = .ok (.aload_n 0, 1) := by decide +kernel
theorem dX4_island_1 : decode cX4_island 1 = .ok (.getfield 16, 3) := by decide +kernel
theorem dX4_island_4 : decode cX4_island 4 = .ok (.aload_n 0, 1) := by decide +kernel
theorem dX4_island_5 : decode cX4_island 5 = .ok (.getfield 12, 3) := by decide +kernel
theorem dX4_island_8 : decode cX4_island 8 = .ok (.invokevirtual 163, 3) := by decide +kernel
theorem dX4_island_11 : decode cX4_island 11 = .ok (.aload_n 0, 1) := by decide +kernel
theorem dX4_island_12 : decode cX4_island 12 = .ok (.getfield 32, 3) := by decide +kernel
theorem dX4_island_15 : decode cX4_island 15 = .ok (.aload_n 0, 1) := by decide +kernel
theorem dX4_island_16 : decode cX4_island 16 = .ok (.getfield 16, 3) := by decide +kernel
theorem dX4_island_19 : decode cX4_island 19 = .ok (.invokevirtual 227, 3) := by decide +kernel
theorem dX4_island_22 : decode cX4_island 22 = .ok (.istore_n 1, 1) := by decide +kernel
theorem dX4_island_23 : decode cX4_island 23 = .ok (.aload_n 0, 1) := by decide +kernel
theorem dX4_island_24 : decode cX4_island 24 = .ok (.getfield 32, 3) := by decide +kernel
theorem dX4_island_27 : decode cX4_island 27 = .ok (.iconst 0, 1) := by decide +kernel
theorem dX4_island_28 : decode cX4_island 28 = .ok (.putfield 220, 3) := by decide +kernel
theorem dX4_island_31 : decode cX4_island 31 = .ok (.iload_n 1, 1) := by decide +kernel
theorem dX4_island_32 : decode cX4_island 32 = .ok (.ifCond .le 14, 3) := by decide +kernel
theorem dX4_island_35 : decode cX4_island 35 = .ok (.aload_n 0, 1) := by decide +kernel
theorem dX4_island_36 : decode cX4_island 36 = .ok (.getfield 12, 3) := by decide +kernel
theorem dX4_island_39 : decode cX4_island 39 = .ok (.aload_n 0, 1) := by decide +kernel
theorem dX4_island_40 : decode cX4_island 40 = .ok (.getfield 16, 3) := by decide +kernel
theorem dX4_island_43 : decode cX4_island 43 = .ok (.invokevirtual 163, 3) := by decide +kernel
theorem dX4_island_46 : decode cX4_island 46 = .ok (.iload_n 1, 1) := by decide +kernel
theorem dX4_island_47 : decode cX4_island 47 = .ok (.ireturn, 1) := by decide +kernel
def finX4_island (N : Ml) : Int32 × Mi → Option Value × Mi × Ml := fun b => (some (Value.int b.1), b.2, N)
noncomputable def fX4_island   (M : Mi) : Option (Int32 × Mi) := (Option.bind (fX0_becomes (M 0) (M 1)) (fun a1 => (Option.bind (fX3_tellsTo (sR M 1 a1)) (fun a2 => (if a2.1 ≤ 0 then (some (a2.1, (wM (a2.2) 5 0 0))) else (Option.bind (fX0_becomes ((wM (a2.2) 5 0 0) 1) ((wM (a2.2) 5 0 0) 0)) (fun a4 => (some (a2.1, (sR (wM (a2.2) 5 0 0) 0 a4))))))))))
theorem bX4_island {Z : Zt} {E : Ec} {N : Ml} (C : Ok 1 Z E cX4_island 2 RX4 (some .int) 8)    (M : Mi)  : GT Z E 2 (finX4_island N) 0 [(0, .ref (zA Z 8 0))] [] M N (fX4_island M) := by
  unfold fX4_island
  refine r_aload_n C dX4_island_0 0 0 rfl rfl ?_
  refine gf_X4_16 C dX4_island_1 ?_
  refine r_aload_n C dX4_island_4 0 0 rfl rfl ?_
  refine gf_X4_12 C dX4_island_5 ?_
  refine r_bind (fun a1 ha1 => ?_)
  refine r_callV (rest := []) (st2 := []) C (mX0_becomes (eL E) C.z (by decide) (by decide) (by decide) M _ (M 1) a1 ha1).selfW lk_X4_163 (rvI C (by decide)) (by decide) rfl rfl (Nat.le_of_ble_eq_true rfl) dX4_island_8 rfl ?_
  refine r_aload_n C dX4_island_11 0 0 rfl rfl ?_
  refine gf_X4_32 C dX4_island_12 ?_
  refine r_aload_n C dX4_island_15 0 0 rfl rfl ?_
  refine gf_X4_16 C dX4_island_16 ?_
  refine r_bind (fun a2 ha2 => ?_)
  refine r_callV (rest := []) (st2 := [.int a2.1]) C (mX3_tellsTo (eL E) C.z (sR M 1 a1) N a2 ha2) lk_X4_227 (rvT C) (by decide) rfl rfl (Nat.le_of_ble_eq_true rfl) dX4_island_19 rfl ?_
  refine r_istore_n (lv' := [(1, .int a2.1), (0, .ref (zA Z 8 0))]) C dX4_island_22 1 rfl (by decide) rfl ?_
  refine r_aload_n C dX4_island_23 0 1 rfl rfl ?_
  refine gf_X4_32 C dX4_island_24 ?_
  refine r_iconst (v := 0) C dX4_island_27 (by decide) ?_
  refine pf_X4_220 (M' := (wM (a2.2) 5 0 0)) C dX4_island_28 rfl ?_
  refine r_iload_n C dX4_island_31 1 0 rfl rfl ?_
  refine r_if_le (tgt := 46) C dX4_island_32 (by decide) (fun c3 => ?_) (fun c3 => ?_)
  · refine r_iload_n C dX4_island_46 1 0 rfl rfl ?_
    exact r_iret C dX4_island_47 rfl
  · refine r_aload_n C dX4_island_35 0 1 rfl rfl ?_
    refine gf_X4_12 C dX4_island_36 ?_
    refine r_aload_n C dX4_island_39 0 1 rfl rfl ?_
    refine gf_X4_16 C dX4_island_40 ?_
    refine r_bind (fun a4 ha4 => ?_)
    refine r_callV (rest := []) (st2 := []) C (mX0_becomes (eL E) C.z (by decide) (by decide) (by decide) (wM (a2.2) 5 0 0) _ ((wM (a2.2) 5 0 0) 0) a4 ha4).selfW lk_X4_163 (rvI C (by decide)) (by decide) rfl rfl (Nat.le_of_ble_eq_true rfl) dX4_island_43 rfl ?_
    refine r_iload_n C dX4_island_46 1 0 rfl rfl ?_
    exact r_iret C dX4_island_47 rfl
theorem mX4_island (l : Launch) {Z : Zt} (hZ : Zok 1 Z) (M : Mi) (N : Ml) (b : Int32 × Mi) (hb : fX4_island M = some b) : Ct 1 Z l yX4_island cX4_island 2 (some .int) 8 [.ref (zA Z 8 0)] M N (some (Value.int b.1), b.2, N) :=
  metG (fin := (finX4_island N)) (by decide) (Nat.le_of_ble_eq_true rfl) (fun E _ C => bX4_island C M) hb
theorem dX4_sheet_0 : decode cX4_sheet 0 = .ok (.iload_n 1, 1) := by decide +kernel
theorem dX4_sheet_1 : decode cX4_sheet 1 = .ok (.iconst 4, 1) := by decide +kernel
theorem dX4_sheet_2 : decode cX4_sheet 2 = .ok (.invokestatic 69, 3) := by decide +kernel
theorem dX4_sheet_5 : decode cX4_sheet 5 = .ok (.ifCond .eq 25, 3) := by decide +kernel
theorem dX4_sheet_8 : decode cX4_sheet 8 = .ok (.iload_n 2, 1) := by decide +kernel
theorem dX4_sheet_9 : decode cX4_sheet 9 = .ok (.ifCond .eq 27, 3) := by decide +kernel
theorem dX4_sheet_12 : decode cX4_sheet 12 = .ok (.iload_n 2, 1) := by decide +kernel
theorem dX4_sheet_13 : decode cX4_sheet 13 = .ok (.bipush 8, 2) := by decide +kernel
theorem dX4_sheet_15 : decode cX4_sheet 15 = .ok (.if_icmp .eq 21, 3) := by decide +kernel
theorem dX4_sheet_18 : decode cX4_sheet 18 = .ok (.iload_n 2, 1) := by decide +kernel
theorem dX4_sheet_19 : decode cX4_sheet 19 = .ok (.bipush 16, 2) := by decide +kernel
theorem dX4_sheet_21 : decode cX4_sheet 21 = .ok (.if_icmp .eq 15, 3) := by decide +kernel
theorem dX4_sheet_24 : decode cX4_sheet 24 = .ok (.iload_n 2, 1) := by decide +kernel
theorem dX4_sheet_25 : decode cX4_sheet 25 = .ok (.bipush 64, 2) := by decide +kernel
theorem dX4_sheet_27 : decode cX4_sheet 27 = .ok (.if_icmp .eq 9, 3) := by decide +kernel
theorem dX4_sheet_30 : decode cX4_sheet 30 = .ok (.aload_n 0, 1) := by decide +kernel
theorem dX4_sheet_31 : decode cX4_sheet 31 = .ok (.iconst 0, 1) := by decide +kernel
theorem dX4_sheet_32 : decode cX4_sheet 32 = .ok (.invokevirtual 58, 3) := by decide +kernel
theorem dX4_sheet_35 : decode cX4_sheet 35 = .ok (.ireturn, 1) := by decide +kernel
theorem dX4_sheet_36 : decode cX4_sheet 36 = .ok (.iload_n 3, 1) := by decide +kernel
theorem dX4_sheet_37 : decode cX4_sheet 37 = .ok (.ifCond .ge 10, 3) := by decide +kernel
theorem dX4_sheet_40 : decode cX4_sheet 40 = .ok (.aload_n 0, 1) := by decide +kernel
theorem dX4_sheet_41 : decode cX4_sheet 41 = .ok (.bipush 6, 2) := by decide +kernel
theorem dX4_sheet_43 : decode cX4_sheet 43 = .ok (.invokevirtual 58, 3) := by decide +kernel
theorem dX4_sheet_46 : decode cX4_sheet 46 = .ok (.ireturn, 1) := by decide +kernel
theorem dX4_sheet_47 : decode cX4_sheet 47 = .ok (.iload_n 3, 1) := by decide +kernel
theorem dX4_sheet_48 : decode cX4_sheet 48 = .ok (.bipush 40, 2) := by decide +kernel
theorem dX4_sheet_50 : decode cX4_sheet 50 = .ok (.if_icmp .le 9, 3) := by decide +kernel
theorem dX4_sheet_53 : decode cX4_sheet 53 = .ok (.aload_n 0, 1) := by decide +kernel
theorem dX4_sheet_54 : decode cX4_sheet 54 = .ok (.iconst 0, 1) := by decide +kernel
theorem dX4_sheet_55 : decode cX4_sheet 55 = .ok (.invokevirtual 58, 3) := by decide +kernel
theorem dX4_sheet_58 : decode cX4_sheet 58 = .ok (.ireturn, 1) := by decide +kernel
theorem dX4_sheet_59 : decode cX4_sheet 59 = .ok (.aload_n 0, 1) := by decide +kernel
theorem dX4_sheet_60 : decode cX4_sheet 60 = .ok (.getfield 38, 3) := by decide +kernel
theorem dX4_sheet_63 : decode cX4_sheet 63 = .ok (.iload_n 1, 1) := by decide +kernel
theorem dX4_sheet_64 : decode cX4_sheet 64 = .ok (.aaload, 1) := by decide +kernel
theorem dX4_sheet_65 : decode cX4_sheet 65 = .ok (.iload_n 2, 1) := by decide +kernel
theorem dX4_sheet_66 : decode cX4_sheet 66 = .ok (.iload_n 2, 1) := by decide +kernel
theorem dX4_sheet_67 : decode cX4_sheet 67 = .ok (.ifCond .ne 7, 3) := by decide +kernel
theorem dX4_sheet_70 : decode cX4_sheet 70 = .ok (.iconst 0, 1) := by decide +kernel
theorem dX4_sheet_71 : decode cX4_sheet 71 = .ok (.goto 4, 3) := by decide +kernel
theorem dX4_sheet_74 : decode cX4_sheet 74 = .ok (.iload_n 3, 1) := by decide +kernel
theorem dX4_sheet_75 : decode cX4_sheet 75 = .ok (.invokevirtual 231, 3) := by decide +kernel
theorem dX4_sheet_78 : decode cX4_sheet 78 = .ok (.aload_n 0, 1) := by decide +kernel
theorem dX4_sheet_79 : decode cX4_sheet 79 = .ok (.getfield 38, 3) := by decide +kernel
theorem dX4_sheet_82 : decode cX4_sheet 82 = .ok (.iload_n 1, 1) := by decide +kernel
theorem dX4_sheet_83 : decode cX4_sheet 83 = .ok (.aaload, 1) := by decide +kernel
theorem dX4_sheet_84 : decode cX4_sheet 84 = .ok (.getfield 234, 3) := by decide +kernel
theorem dX4_sheet_87 : decode cX4_sheet 87 = .ok (.ireturn, 1) := by decide +kernel
def finX4_sheet  : Int32 × Mi × Ml → Option Value × Mi × Ml := fun b => (some (Value.int b.1), b.2.1, b.2.2)
noncomputable def fX4_sheet_30   (M : Mi) (N : Ml) : Option (Int32 × Mi × Ml) := (Option.bind (fX4_finding M 0) (fun a2 => (some (a2.1, (a2.2), N))))
theorem bX4_sheet_30 {Z : Zt} {E : Ec}  (C : Ok 1 Z E cX4_sheet 4 RX4 (some .int) 1)    (M : Mi) (N : Ml)  : GT Z E 4 finX4_sheet 30 [(0, .ref (zA Z 8 0))] [] M N (fX4_sheet_30 M N) := by
  unfold fX4_sheet_30
  refine r_aload_n C dX4_sheet_30 0 0 rfl rfl ?_
  refine r_iconst (v := 0) C dX4_sheet_31 (by decide) ?_
  refine r_bind (fun a2 ha2 => ?_)
  refine r_callV (rest := []) (st2 := [.int a2.1]) C (mX4_finding (eL E) C.z M N 0 a2 ha2) lk_X4_58 (rvX C) (by decide) rfl rfl (Nat.le_of_ble_eq_true rfl) dX4_sheet_32 rfl ?_
  exact r_iret C dX4_sheet_35 rfl
noncomputable def fX4_sheet_75   (M : Mi) (N : Ml) (x1 : Int32) (s0 : Int32) (s1 : Int32) (q2 : Nat) : Option (Int32 × Mi × Ml) := (Option.bind (fX2_becomesBlank q2 M N s1 s0) (fun a9 => (if inb x1 4 then (some (((a9.1) (20 + ix x1) 1), (a9.1), (a9.2))) else none)))
theorem bX4_sheet_75 {Z : Zt} {E : Ec}  (C : Ok 1 Z E cX4_sheet 4 RX4 (some .int) 1)    (M : Mi) (N : Ml) (x1 : Int32) (s0 : Int32) (s1 : Int32) (q2 : Nat) (hq2 : 20 ≤ q2 ∧ q2 < 24) : GT Z E 4 finX4_sheet 75 [(0, .ref (zA Z 8 0)), (1, .int x1)] [.int s0, .int s1, .ref (zA Z q2 0)] M N (fX4_sheet_75 M N x1 s0 s1 q2) := by
  unfold fX4_sheet_75
  refine r_bind (fun a9 ha9 => ?_)
  refine r_callV (rest := []) (st2 := []) C (mX2_becomesBlank (eL E) C.z hq2 M N q2 s1 s0 a9 ha9) lk_X4_231 (rvS C hq2) (by decide) rfl rfl (Nat.le_of_ble_eq_true rfl) dX4_sheet_75 rfl ?_
  refine r_aload_n C dX4_sheet_78 0 0 rfl rfl ?_
  refine gf_X4_38 C dX4_sheet_79 ?_
  refine r_iload_n C dX4_sheet_82 1 1 rfl rfl ?_
  refine r_guard (fun h10 => ?_)
  refine ald_T C h10 dX4_sheet_83 ?_
  refine gf_X4_234 (v := ((a9.1) (20 + ix x1) 1)) C (gS h10) dX4_sheet_84 rfl ?_
  exact r_iret C dX4_sheet_87 rfl
noncomputable def fX4_sheet_36   (M : Mi) (N : Ml) (x1 : Int32) (x2 : Int32) (x3 : Int32) : Option (Int32 × Mi × Ml) := (if 0 ≤ x3 then (if x3 ≤ 40 then (if inb x1 4 then (fX4_sheet_75 M N x1 (if x2 = 0 then 0 else x3 : Int32) x2 (20 + ix x1)) else none) else (Option.bind (fX4_finding M 0) (fun a11 => (some (a11.1, (a11.2), N))))) else (Option.bind (fX4_finding M 6) (fun a12 => (some (a12.1, (a12.2), N)))))
theorem bX4_sheet_36 {Z : Zt} {E : Ec}  (C : Ok 1 Z E cX4_sheet 4 RX4 (some .int) 1)    (M : Mi) (N : Ml) (x1 : Int32) (x2 : Int32) (x3 : Int32)  : GT Z E 4 finX4_sheet 36 [(0, .ref (zA Z 8 0)), (1, .int x1), (2, .int x2), (3, .int x3)] [] M N (fX4_sheet_36 M N x1 x2 x3) := by
  unfold fX4_sheet_36
  refine r_iload_n C dX4_sheet_36 3 3 rfl rfl ?_
  refine r_if_ge (tgt := 47) C dX4_sheet_37 (by decide) (fun c4 => ?_) (fun c4 => ?_)
  · refine r_iload_n C dX4_sheet_47 3 3 rfl rfl ?_
    refine r_bipush (v := 40) C dX4_sheet_48 (by decide) ?_
    refine r_ic_le (tgt := 59) C dX4_sheet_50 (by decide) (fun c5 => ?_) (fun c5 => ?_)
    · refine r_aload_n C dX4_sheet_59 0 0 rfl rfl ?_
      refine gf_X4_38 C dX4_sheet_60 ?_
      refine r_iload_n C dX4_sheet_63 1 1 rfl rfl ?_
      refine r_guard (fun h6 => ?_)
      refine ald_T C h6 dX4_sheet_64 ?_
      refine r_iload_n C dX4_sheet_65 2 2 rfl rfl ?_
      refine r_iload_n C dX4_sheet_66 2 2 rfl rfl ?_
      refine r_sel (tj := 75) (sj := [.int (if x2 = 0 then 0 else x3 : Int32), .int x2, .ref (zA Z (20 + ix x1) 0)]) ?_ (fun k8 => ?_)
      · refine r_lv [0, 1] (lv' := [(0, .ref (zA Z 8 0)), (1, .int x1)]) rfl ?_
        exact bX4_sheet_75 C M N x1 (if x2 = 0 then 0 else x3 : Int32) x2 (20 + ix x1) (gS h6)
      · refine r_same (P := x2 = 0) ?_
        refine r_if_ne (tgt := 74) C dX4_sheet_67 (by decide) (fun c7 => ?_) (fun c7 => ?_)
        · refine r_iload_n C dX4_sheet_74 3 3 rfl rfl ?_
          exact r_stk (if_neg c7) k8
        · refine r_iconst (v := 0) C dX4_sheet_70 (by decide) ?_
          refine r_goto (tgt := 75) C dX4_sheet_71 (by decide) ?_
          exact r_stk (if_pos c7) k8
    · refine r_aload_n C dX4_sheet_53 0 0 rfl rfl ?_
      refine r_iconst (v := 0) C dX4_sheet_54 (by decide) ?_
      refine r_bind (fun a11 ha11 => ?_)
      refine r_callV (rest := []) (st2 := [.int a11.1]) C (mX4_finding (eL E) C.z M N 0 a11 ha11) lk_X4_58 (rvX C) (by decide) rfl rfl (Nat.le_of_ble_eq_true rfl) dX4_sheet_55 rfl ?_
      exact r_iret C dX4_sheet_58 rfl
  · refine r_aload_n C dX4_sheet_40 0 0 rfl rfl ?_
    refine r_bipush (v := 6) C dX4_sheet_41 (by decide) ?_
    refine r_bind (fun a12 ha12 => ?_)
    refine r_callV (rest := []) (st2 := [.int a12.1]) C (mX4_finding (eL E) C.z M N 6 a12 ha12) lk_X4_58 (rvX C) (by decide) rfl rfl (Nat.le_of_ble_eq_true rfl) dX4_sheet_43 rfl ?_
    exact r_iret C dX4_sheet_46 rfl
noncomputable def fX4_sheet   (M : Mi) (N : Ml) (x1 : Int32) (x2 : Int32) (x3 : Int32) : Option (Int32 × Mi × Ml) := (if (fX4_isBelow x1 4) = 0 then (fX4_sheet_30 M N) else (if x2 = 0 then (fX4_sheet_36 M N x1 x2 x3) else (if x2 = 8 then (fX4_sheet_36 M N x1 x2 x3) else (if x2 = 16 then (fX4_sheet_36 M N x1 x2 x3) else (if x2 = 64 then (fX4_sheet_36 M N x1 x2 x3) else (fX4_sheet_30 M N))))))
theorem bX4_sheet {Z : Zt} {E : Ec}  (C : Ok 1 Z E cX4_sheet 4 RX4 (some .int) 1)    (M : Mi) (N : Ml) (x1 : Int32) (x2 : Int32) (x3 : Int32)  : GT Z E 4 finX4_sheet 0 [(0, .ref (zA Z 8 0)), (1, .int x1), (2, .int x2), (3, .int x3)] [] M N (fX4_sheet M N x1 x2 x3) := by
  unfold fX4_sheet
  refine r_iload_n C dX4_sheet_0 1 1 rfl rfl ?_
  refine r_iconst (v := 4) C dX4_sheet_1 (by decide) ?_
  refine r_callS (rest := []) (st2 := [.int (fX4_isBelow x1 4)]) C (mX4_isBelow (eL E) C.z _ _ x1 4) lk_X4_69 (by decide) rfl rfl (Nat.le_of_ble_eq_true rfl) dX4_sheet_2 rfl ?_
  refine r_if_eq (tgt := 30) C dX4_sheet_5 (by decide) (fun c1 => ?_) (fun c1 => ?_)
  · refine r_lv [0] (lv' := [(0, .ref (zA Z 8 0))]) rfl ?_
    exact bX4_sheet_30 C M N
  · refine r_iload_n C dX4_sheet_8 2 2 rfl rfl ?_
    refine r_if_eq (tgt := 36) C dX4_sheet_9 (by decide) (fun c3 => ?_) (fun c3 => ?_)
    · exact bX4_sheet_36 C M N x1 x2 x3
    · refine r_iload_n C dX4_sheet_12 2 2 rfl rfl ?_
      refine r_bipush (v := 8) C dX4_sheet_13 (by decide) ?_
      refine r_ic_eq (tgt := 36) C dX4_sheet_15 (by decide) (fun c13 => ?_) (fun c13 => ?_)
      · exact bX4_sheet_36 C M N x1 x2 x3
      · refine r_iload_n C dX4_sheet_18 2 2 rfl rfl ?_
        refine r_bipush (v := 16) C dX4_sheet_19 (by decide) ?_
        refine r_ic_eq (tgt := 36) C dX4_sheet_21 (by decide) (fun c14 => ?_) (fun c14 => ?_)
        · exact bX4_sheet_36 C M N x1 x2 x3
        · refine r_iload_n C dX4_sheet_24 2 2 rfl rfl ?_
          refine r_bipush (v := 64) C dX4_sheet_25 (by decide) ?_
          refine r_ic_eq (tgt := 36) C dX4_sheet_27 (by decide) (fun c15 => ?_) (fun c15 => ?_)
          · exact bX4_sheet_36 C M N x1 x2 x3
          · refine r_lv [0] (lv' := [(0, .ref (zA Z 8 0))]) rfl ?_
            exact bX4_sheet_30 C M N
theorem mX4_sheet (l : Launch) {Z : Zt} (hZ : Zok 1 Z) (M : Mi) (N : Ml) (x1 : Int32) (x2 : Int32) (x3 : Int32) (b : Int32 × Mi × Ml) (hb : fX4_sheet M N x1 x2 x3 = some b) : Ct 1 Z l yX4_sheet cX4_sheet 4 (some .int) 1 [.ref (zA Z 8 0), .int x1, .int x2, .int x3] M N (some (Value.int b.1), b.2.1, b.2.2) :=
  metG (fin := finX4_sheet) (by decide) (Nat.le_of_ble_eq_true rfl) (fun E _ C => bX4_sheet C M N x1 x2 x3) hb
theorem dX4_askOfSheet_0 : decode cX4_askOfSheet 0 = .ok (.iload_n 1, 1) := by decide +kernel
theorem dX4_askOfSheet_1 : decode cX4_askOfSheet 1 = .ok (.iconst 4, 1) := by decide +kernel
theorem dX4_askOfSheet_2 : decode cX4_askOfSheet 2 = .ok (.invokestatic 69, 3) := by decide +kernel
theorem dX4_askOfSheet_5 : decode cX4_askOfSheet 5 = .ok (.ifCond .ne 9, 3) := by decide +kernel
theorem dX4_askOfSheet_8 : decode cX4_askOfSheet 8 = .ok (.aload_n 0, 1) := by decide +kernel
theorem dX4_askOfSheet_9 : decode cX4_askOfSheet 9 = .ok (.iconst 0, 1) := by decide +kernel
theorem dX4_askOfSheet_10 : decode cX4_askOfSheet 10 = .ok (.invokevirtual 58, 3) := by decide +kernel
theorem dX4_askOfSheet_13 : decode cX4_askOfSheet 13 = .ok (.ireturn, 1) := by decide +kernel
theorem dX4_askOfSheet_14 : decode cX4_askOfSheet 14 = .ok (.aload_n 0, 1) := by decide +kernel
theorem dX4_askOfSheet_15 : decode cX4_askOfSheet 15 = .ok (.getfield 38, 3) := by decide +kernel
theorem dX4_askOfSheet_18 : decode cX4_askOfSheet 18 = .ok (.iload_n 1, 1) := by decide +kernel
theorem dX4_askOfSheet_19 : decode cX4_askOfSheet 19 = .ok (.aaload, 1) := by decide +kernel
theorem dX4_askOfSheet_20 : decode cX4_askOfSheet 20 = .ok (.invokevirtual 246, 3) := by decide +kernel
theorem dX4_askOfSheet_23 : decode cX4_askOfSheet 23 = .ok (.ifCond .eq 11, 3) := by decide +kernel
theorem dX4_askOfSheet_26 : decode cX4_askOfSheet 26 = .ok (.aload_n 0, 1) := by decide +kernel
theorem dX4_askOfSheet_27 : decode cX4_askOfSheet 27 = .ok (.iconst 5, 1) := by decide +kernel
theorem dX4_askOfSheet_28 : decode cX4_askOfSheet 28 = .ok (.invokevirtual 58, 3) := by decide +kernel
theorem dX4_askOfSheet_31 : decode cX4_askOfSheet 31 = .ok (.goto 4, 3) := by decide +kernel
theorem dX4_askOfSheet_34 : decode cX4_askOfSheet 34 = .ok (.iconst 0, 1) := by decide +kernel
theorem dX4_askOfSheet_35 : decode cX4_askOfSheet 35 = .ok (.ireturn, 1) := by decide +kernel
def finX4_askOfSheet (N : Ml) : Int32 × Mi → Option Value × Mi × Ml := fun b => (some (Value.int b.1), b.2, N)
noncomputable def fX4_askOfSheet   (M : Mi) (x1 : Int32) : Option (Int32 × Mi) := (if (fX4_isBelow x1 4) = 0 then (Option.bind (fX4_finding M 0) (fun a5 => (some (a5.1, (a5.2))))) else (if inb x1 4 then (if (fX2_isMissing M (20 + ix x1)) = 0 then (some (0, M)) else (Option.bind (fX4_finding M 5) (fun a4 => (some (a4.1, (a4.2)))))) else none))
theorem bX4_askOfSheet {Z : Zt} {E : Ec} {N : Ml} (C : Ok 1 Z E cX4_askOfSheet 2 RX4 (some .int) 1)    (M : Mi) (x1 : Int32)  : GT Z E 2 (finX4_askOfSheet N) 0 [(0, .ref (zA Z 8 0)), (1, .int x1)] [] M N (fX4_askOfSheet M x1) := by
  unfold fX4_askOfSheet
  refine r_iload_n C dX4_askOfSheet_0 1 1 rfl rfl ?_
  refine r_iconst (v := 4) C dX4_askOfSheet_1 (by decide) ?_
  refine r_callS (rest := []) (st2 := [.int (fX4_isBelow x1 4)]) C (mX4_isBelow (eL E) C.z _ _ x1 4) lk_X4_69 (by decide) rfl rfl (Nat.le_of_ble_eq_true rfl) dX4_askOfSheet_2 rfl ?_
  refine r_if_ne (tgt := 14) C dX4_askOfSheet_5 (by decide) (fun c1 => ?_) (fun c1 => ?_)
  · refine r_aload_n C dX4_askOfSheet_14 0 0 rfl rfl ?_
    refine gf_X4_38 C dX4_askOfSheet_15 ?_
    refine r_iload_n C dX4_askOfSheet_18 1 1 rfl rfl ?_
    refine r_guard (fun h2 => ?_)
    refine ald_T C h2 dX4_askOfSheet_19 ?_
    refine r_callV (rest := []) (st2 := [.int (fX2_isMissing M (20 + ix x1))]) C (mX2_isMissing (eL E) C.z (gS h2) M N (20 + ix x1)) lk_X4_246 (rvS C (gS h2)) (by decide) rfl rfl (Nat.le_of_ble_eq_true rfl) dX4_askOfSheet_20 rfl ?_
    refine r_if_eq (tgt := 34) C dX4_askOfSheet_23 (by decide) (fun c3 => ?_) (fun c3 => ?_)
    · refine r_iconst (v := 0) C dX4_askOfSheet_34 (by decide) ?_
      exact r_iret C dX4_askOfSheet_35 rfl
    · refine r_aload_n C dX4_askOfSheet_26 0 0 rfl rfl ?_
      refine r_iconst (v := 5) C dX4_askOfSheet_27 (by decide) ?_
      refine r_bind (fun a4 ha4 => ?_)
      refine r_callV (rest := []) (st2 := [.int a4.1]) C (mX4_finding (eL E) C.z M N 5 a4 ha4) lk_X4_58 (rvX C) (by decide) rfl rfl (Nat.le_of_ble_eq_true rfl) dX4_askOfSheet_28 rfl ?_
      refine r_goto (tgt := 35) C dX4_askOfSheet_31 (by decide) ?_
      exact r_iret C dX4_askOfSheet_35 rfl
  · refine r_aload_n C dX4_askOfSheet_8 0 0 rfl rfl ?_
    refine r_iconst (v := 0) C dX4_askOfSheet_9 (by decide) ?_
    refine r_bind (fun a5 ha5 => ?_)
    refine r_callV (rest := []) (st2 := [.int a5.1]) C (mX4_finding (eL E) C.z M N 0 a5 ha5) lk_X4_58 (rvX C) (by decide) rfl rfl (Nat.le_of_ble_eq_true rfl) dX4_askOfSheet_10 rfl ?_
    exact r_iret C dX4_askOfSheet_13 rfl
theorem mX4_askOfSheet (l : Launch) {Z : Zt} (hZ : Zok 1 Z) (M : Mi) (N : Ml) (x1 : Int32) (b : Int32 × Mi) (hb : fX4_askOfSheet M x1 = some b) : Ct 1 Z l yX4_askOfSheet cX4_askOfSheet 2 (some .int) 1 [.ref (zA Z 8 0), .int x1] M N (some (Value.int b.1), b.2, N) :=
  metG (fin := (finX4_askOfSheet N)) (by decide) (Nat.le_of_ble_eq_true rfl) (fun E _ C => bX4_askOfSheet C M x1) hb
theorem dX4_write_0 : decode cX4_write 0 = .ok (.aload_n 0, 1) := by decide +kernel
theorem dX4_write_1 : decode cX4_write 1 = .ok (.iload_n 1, 1) := by decide +kernel
theorem dX4_write_2 : decode cX4_write 2 = .ok (.invokevirtual 235, 3) := by decide +kernel
theorem dX4_write_5 : decode cX4_write 5 = .ok (.istore 5, 2) := by decide +kernel
theorem dX4_write_7 : decode cX4_write 7 = .ok (.iload 5, 2) := by decide +kernel
theorem dX4_write_9 : decode cX4_write 9 = .ok (.ifCond .eq 7, 3) := by decide +kernel
theorem dX4_write_12 : decode cX4_write 12 = .ok (.iload 5, 2) := by decide +kernel
theorem dX4_write_14 : decode cX4_write 14 = .ok (.i2l, 1) := by decide +kernel
theorem dX4_write_15 : decode cX4_write 15 = .ok (.lreturn, 1) := by decide +kernel
theorem dX4_write_16 : decode cX4_write 16 = .ok (.aload_n 0, 1) := by decide +kernel
theorem dX4_write_17 : decode cX4_write 17 = .ok (.getfield 38, 3) := by decide +kernel
theorem dX4_write_20 : decode cX4_write 20 = .ok (.iload_n 1, 1) := by decide +kernel
theorem dX4_write_21 : decode cX4_write 21 = .ok (.aaload, 1) := by decide +kernel
theorem dX4_write_22 : decode cX4_write 22 = .ok (.astore 6, 2) := by decide +kernel
theorem dX4_write_24 : decode cX4_write 24 = .ok (.iload_n 2, 1) := by decide +kernel
theorem dX4_write_25 : decode cX4_write 25 = .ok (.aload 6, 2) := by decide +kernel
theorem dX4_write_27 : decode cX4_write 27 = .ok (.getfield 234, 3) := by decide +kernel
theorem dX4_write_30 : decode cX4_write 30 = .ok (.invokestatic 69, 3) := by decide +kernel
theorem dX4_write_33 : decode cX4_write 33 = .ok (.ifCond .ne 10, 3) := by decide +kernel
theorem dX4_write_36 : decode cX4_write 36 = .ok (.aload_n 0, 1) := by decide +kernel
theorem dX4_write_37 : decode cX4_write 37 = .ok (.iconst 0, 1) := by decide +kernel
theorem dX4_write_38 : decode cX4_write 38 = .ok (.invokevirtual 58, 3) := by decide +kernel
theorem dX4_write_41 : decode cX4_write 41 = .ok (.i2l, 1) := by decide +kernel
theorem dX4_write_42 : decode cX4_write 42 = .ok (.lreturn, 1) := by decide +kernel
theorem dX4_write_43 : decode cX4_write 43 = .ok (.aload 6, 2) := by decide +kernel
theorem dX4_write_45 : decode cX4_write 45 = .ok (.getfield 238, 3) := by decide +kernel
theorem dX4_write_48 : decode cX4_write 48 = .ok (.iload_n 2, 1) := by decide +kernel
theorem dX4_write_49 : decode cX4_write 49 = .ok (.laload, 1) := by decide +kernel
theorem dX4_write_50 : decode cX4_write 50 = .ok (.lstore 7, 2) := by decide +kernel
theorem dX4_write_52 : decode cX4_write 52 = .ok (.aload 6, 2) := by decide +kernel
theorem dX4_write_54 : decode cX4_write 54 = .ok (.getfield 238, 3) := by decide +kernel
theorem dX4_write_57 : decode cX4_write 57 = .ok (.iload_n 2, 1) := by decide +kernel
theorem dX4_write_58 : decode cX4_write 58 = .ok (.aload 6, 2) := by decide +kernel
theorem dX4_write_60 : decode cX4_write 60 = .ok (.lload_n 3, 1) := by decide +kernel
theorem dX4_write_61 : decode cX4_write 61 = .ok (.invokevirtual 242, 3) := by decide +kernel
theorem dX4_write_64 : decode cX4_write 64 = .ok (.lastore, 1) := by decide +kernel
theorem dX4_write_65 : decode cX4_write 65 = .ok (.lload 7, 2) := by decide +kernel
theorem dX4_write_67 : decode cX4_write 67 = .ok (.lreturn, 1) := by decide +kernel
def finX4_write  : Int64 × Mi × Ml → Option Value × Mi × Ml := fun b => (some (Value.long b.1), b.2.1, b.2.2)
noncomputable def fX4_write   (M : Mi) (N : Ml) (x1 : Int32) (x2 : Int32) (x3 : Int64) : Option (Int64 × Mi × Ml) := (Option.bind (fX4_askOfSheet M x1) (fun a1 => (if a1.1 = 0 then (if inb x1 4 then (if (fX4_isBelow x2 ((a1.2) (20 + ix x1) 1)) = 0 then (Option.bind (fX4_finding (a1.2) 0) (fun a6 => (some ((Int32.toInt64 a6.1), (a6.2), N)))) else (if inb x2 40 then (some ((N (20 + ix x1) (ix x2)), (a1.2), (wN N (20 + ix x1) (ix x2) (fX2_lowestBits (a1.2) (20 + ix x1) x3)))) else none)) else none) else (some ((Int32.toInt64 a1.1), (a1.2), N)))))
theorem bX4_write {Z : Zt} {E : Ec}  (C : Ok 1 Z E cX4_write 9 RX4 (some .long) 2)    (M : Mi) (N : Ml) (x1 : Int32) (x2 : Int32) (x3 : Int64)  : GT Z E 9 finX4_write 0 [(0, .ref (zA Z 8 0)), (1, .int x1), (2, .int x2), (3, .long x3)] [] M N (fX4_write M N x1 x2 x3) := by
  unfold fX4_write
  refine r_aload_n C dX4_write_0 0 0 rfl rfl ?_
  refine r_iload_n C dX4_write_1 1 1 rfl rfl ?_
  refine r_bind (fun a1 ha1 => ?_)
  refine r_callV (rest := []) (st2 := [.int a1.1]) C (mX4_askOfSheet (eL E) C.z M N x1 a1 ha1) lk_X4_235 (rvX C) (by decide) rfl rfl (Nat.le_of_ble_eq_true rfl) dX4_write_2 rfl ?_
  refine r_istore (lv' := [(5, .int a1.1), (0, .ref (zA Z 8 0)), (1, .int x1), (2, .int x2), (3, .long x3)]) C dX4_write_5 (by decide) rfl ?_
  refine r_iload C dX4_write_7 0 rfl ?_
  refine r_if_eq (tgt := 16) C dX4_write_9 (by decide) (fun c2 => ?_) (fun c2 => ?_)
  · refine r_aload_n C dX4_write_16 0 1 rfl rfl ?_
    refine gf_X4_38 C dX4_write_17 ?_
    refine r_iload_n C dX4_write_20 1 2 rfl rfl ?_
    refine r_guard (fun h3 => ?_)
    refine ald_T C h3 dX4_write_21 ?_
    refine r_astore (lv' := [(6, .ref (zA Z (20 + ix x1) 0)), (5, .int a1.1), (0, .ref (zA Z 8 0)), (1, .int x1), (2, .int x2), (3, .long x3)]) C dX4_write_22 (by decide) rfl ?_
    refine r_iload_n C dX4_write_24 2 4 rfl rfl ?_
    refine r_aload C dX4_write_25 0 rfl ?_
    refine gf_X4_234 (v := ((a1.2) (20 + ix x1) 1)) C (gS h3) dX4_write_27 rfl ?_
    refine r_callS (rest := []) (st2 := [.int (fX4_isBelow x2 ((a1.2) (20 + ix x1) 1))]) C (mX4_isBelow (eL E) C.z _ _ x2 ((a1.2) (20 + ix x1) 1)) lk_X4_69 (by decide) rfl rfl (Nat.le_of_ble_eq_true rfl) dX4_write_30 rfl ?_
    refine r_if_ne (tgt := 43) C dX4_write_33 (by decide) (fun c4 => ?_) (fun c4 => ?_)
    · refine r_aload C dX4_write_43 0 rfl ?_
      refine gf_X4_238 C (gS h3) dX4_write_45 ?_
      refine r_iload_n C dX4_write_48 2 4 rfl rfl ?_
      refine r_guard (fun h5 => ?_)
      refine ald_S (v := (N (20 + ix x1) (ix x2))) C (gS h3) h5 rfl dX4_write_49 ?_
      refine r_lstore (lv' := [(7, .long (N (20 + ix x1) (ix x2))), (6, .ref (zA Z (20 + ix x1) 0)), (5, .int a1.1), (0, .ref (zA Z 8 0)), (1, .int x1), (2, .int x2), (3, .long x3)]) C dX4_write_50 (by decide) rfl ?_
      refine r_aload C dX4_write_52 1 rfl ?_
      refine gf_X4_238 C (gS h3) dX4_write_54 ?_
      refine r_iload_n C dX4_write_57 2 5 rfl rfl ?_
      refine r_aload C dX4_write_58 1 rfl ?_
      refine r_lload_n C dX4_write_60 3 6 rfl rfl ?_
      refine r_callV (rest := [.int x2, .ref (zA Z (20 + ix x1) 1)]) (st2 := [.long (fX2_lowestBits (a1.2) (20 + ix x1) x3), .int x2, .ref (zA Z (20 + ix x1) 1)]) C (mX2_lowestBits (eL E) C.z (gS h3) (a1.2) N (20 + ix x1) x3) lk_X4_242 (rvS C (gS h3)) (by decide) rfl rfl (Nat.le_of_ble_eq_true rfl) dX4_write_61 rfl ?_
      refine ast_S (N' := (wN N (20 + ix x1) (ix x2) (fX2_lowestBits (a1.2) (20 + ix x1) x3))) C (gS h3) h5 rfl dX4_write_64 ?_
      refine r_lload C dX4_write_65 0 rfl ?_
      exact r_lret C dX4_write_67 rfl
    · refine r_aload_n C dX4_write_36 0 2 rfl rfl ?_
      refine r_iconst (v := 0) C dX4_write_37 (by decide) ?_
      refine r_bind (fun a6 ha6 => ?_)
      refine r_callV (rest := []) (st2 := [.int a6.1]) C (mX4_finding (eL E) C.z (a1.2) N 0 a6 ha6) lk_X4_58 (rvX C) (by decide) rfl rfl (Nat.le_of_ble_eq_true rfl) dX4_write_38 rfl ?_
      refine r_i2l C dX4_write_41 ?_
      exact r_lret C dX4_write_42 rfl
  · refine r_iload C dX4_write_12 0 rfl ?_
    refine r_i2l C dX4_write_14 ?_
    exact r_lret C dX4_write_15 rfl
theorem mX4_write (l : Launch) {Z : Zt} (hZ : Zok 1 Z) (M : Mi) (N : Ml) (x1 : Int32) (x2 : Int32) (x3 : Int64) (b : Int64 × Mi × Ml) (hb : fX4_write M N x1 x2 x3 = some b) : Ct 1 Z l yX4_write cX4_write 9 (some .long) 2 [.ref (zA Z 8 0), .int x1, .int x2, .long x3] M N (some (Value.long b.1), b.2.1, b.2.2) :=
  metG (fin := finX4_write) (by decide) (Nat.le_of_ble_eq_true rfl) (fun E _ C => bX4_write C M N x1 x2 x3) hb
theorem dX4_copy_0 : decode cX4_copy 0 = .ok (.iload_n 1, 1) := by decide +kernel
theorem dX4_copy_1 : decode cX4_copy 1 = .ok (.iconst 4, 1) := by decide +kernel
theorem dX4_copy_2 : decode cX4_copy 2 = .ok (.invokestatic 69, 3) := by decide +kernel
theorem dX4_copy_5 : decode cX4_copy 5 = .ok (.ifCond .eq 11, 3) := by decide +kernel
theorem dX4_copy_8 : decode cX4_copy 8 = .ok (.iload_n 3, 1) := by decide +kernel
theorem dX4_copy_9 : decode cX4_copy 9 = .ok (.iconst 4, 1) := by decide +kernel
theorem dX4_copy_10 : decode cX4_copy 10 = .ok (.invokestatic 69, 3) := by decide +kernel
theorem dX4_copy_13 : decode cX4_copy 13 = .ok (.ifCond .ne 9, 3) := by decide +kernel
theorem dX4_copy_16 : decode cX4_copy 16 = .ok (.aload_n 0, 1) := by decide +kernel
theorem dX4_copy_17 : decode cX4_copy 17 = .ok (.iconst 0, 1) := by decide +kernel
theorem dX4_copy_18 : decode cX4_copy 18 = .ok (.invokevirtual 58, 3) := by decide +kernel
theorem dX4_copy_21 : decode cX4_copy 21 = .ok (.ireturn, 1) := by decide +kernel
theorem dX4_copy_22 : decode cX4_copy 22 = .ok (.aload_n 0, 1) := by decide +kernel
theorem dX4_copy_23 : decode cX4_copy 23 = .ok (.getfield 38, 3) := by decide +kernel
theorem dX4_copy_26 : decode cX4_copy 26 = .ok (.iload_n 1, 1) := by decide +kernel
theorem dX4_copy_27 : decode cX4_copy 27 = .ok (.aaload, 1) := by decide +kernel
theorem dX4_copy_28 : decode cX4_copy 28 = .ok (.astore 6, 2) := by decide +kernel
theorem dX4_copy_30 : decode cX4_copy 30 = .ok (.aload_n 0, 1) := by decide +kernel
theorem dX4_copy_31 : decode cX4_copy 31 = .ok (.getfield 38, 3) := by decide +kernel
theorem dX4_copy_34 : decode cX4_copy 34 = .ok (.iload_n 3, 1) := by decide +kernel
theorem dX4_copy_35 : decode cX4_copy 35 = .ok (.aaload, 1) := by decide +kernel
theorem dX4_copy_36 : decode cX4_copy 36 = .ok (.astore 7, 2) := by decide +kernel
theorem dX4_copy_38 : decode cX4_copy 38 = .ok (.aload 6, 2) := by decide +kernel
theorem dX4_copy_40 : decode cX4_copy 40 = .ok (.invokevirtual 246, 3) := by decide +kernel
theorem dX4_copy_43 : decode cX4_copy 43 = .ok (.ifCond .ne 11, 3) := by decide +kernel
theorem dX4_copy_46 : decode cX4_copy 46 = .ok (.aload 7, 2) := by decide +kernel
theorem dX4_copy_48 : decode cX4_copy 48 = .ok (.invokevirtual 246, 3) := by decide +kernel
theorem dX4_copy_51 : decode cX4_copy 51 = .ok (.ifCond .eq 9, 3) := by decide +kernel
theorem dX4_copy_54 : decode cX4_copy 54 = .ok (.aload_n 0, 1) := by decide +kernel
theorem dX4_copy_55 : decode cX4_copy 55 = .ok (.iconst 5, 1) := by decide +kernel
theorem dX4_copy_56 : decode cX4_copy 56 = .ok (.invokevirtual 58, 3) := by decide +kernel
theorem dX4_copy_59 : decode cX4_copy 59 = .ok (.ireturn, 1) := by decide +kernel
theorem dX4_copy_60 : decode cX4_copy 60 = .ok (.aload 6, 2) := by decide +kernel
theorem dX4_copy_62 : decode cX4_copy 62 = .ok (.getfield 249, 3) := by decide +kernel
theorem dX4_copy_65 : decode cX4_copy 65 = .ok (.aload 7, 2) := by decide +kernel
theorem dX4_copy_67 : decode cX4_copy 67 = .ok (.getfield 249, 3) := by decide +kernel
theorem dX4_copy_70 : decode cX4_copy 70 = .ok (.if_icmp .eq 9, 3) := by decide +kernel
theorem dX4_copy_73 : decode cX4_copy 73 = .ok (.aload_n 0, 1) := by decide +kernel
theorem dX4_copy_74 : decode cX4_copy 74 = .ok (.iconst 2, 1) := by decide +kernel
theorem dX4_copy_75 : decode cX4_copy 75 = .ok (.invokevirtual 58, 3) := by decide +kernel
theorem dX4_copy_78 : decode cX4_copy 78 = .ok (.ireturn, 1) := by decide +kernel
theorem dX4_copy_79 : decode cX4_copy 79 = .ok (.aload 6, 2) := by decide +kernel
theorem dX4_copy_81 : decode cX4_copy 81 = .ok (.iload_n 2, 1) := by decide +kernel
theorem dX4_copy_82 : decode cX4_copy 82 = .ok (.iload 5, 2) := by decide +kernel
theorem dX4_copy_84 : decode cX4_copy 84 = .ok (.invokevirtual 252, 3) := by decide +kernel
theorem dX4_copy_87 : decode cX4_copy 87 = .ok (.ifCond .eq 15, 3) := by decide +kernel
theorem dX4_copy_90 : decode cX4_copy 90 = .ok (.aload 7, 2) := by decide +kernel
theorem dX4_copy_92 : decode cX4_copy 92 = .ok (.iload 4, 2) := by decide +kernel
theorem dX4_copy_94 : decode cX4_copy 94 = .ok (.iload 5, 2) := by decide +kernel
theorem dX4_copy_96 : decode cX4_copy 96 = .ok (.invokevirtual 252, 3) := by decide +kernel
theorem dX4_copy_99 : decode cX4_copy 99 = .ok (.ifCond .ne 9, 3) := by decide +kernel
theorem dX4_copy_102 : decode cX4_copy 102 = .ok (.aload_n 0, 1) := by decide +kernel
theorem dX4_copy_103 : decode cX4_copy 103 = .ok (.iconst 0, 1) := by decide +kernel
theorem dX4_copy_104 : decode cX4_copy 104 = .ok (.invokevirtual 58, 3) := by decide +kernel
theorem dX4_copy_107 : decode cX4_copy 107 = .ok (.ireturn, 1) := by decide +kernel
theorem dX4_copy_108 : decode cX4_copy 108 = .ok (.aload 6, 2) := by decide +kernel
theorem dX4_copy_110 : decode cX4_copy 110 = .ok (.getfield 238, 3) := by decide +kernel
theorem dX4_copy_113 : decode cX4_copy 113 = .ok (.iload_n 2, 1) := by decide +kernel
theorem dX4_copy_114 : decode cX4_copy 114 = .ok (.aload 7, 2) := by decide +kernel
theorem dX4_copy_116 : decode cX4_copy 116 = .ok (.getfield 238, 3) := by decide +kernel
theorem dX4_copy_119 : decode cX4_copy 119 = .ok (.iload 4, 2) := by decide +kernel
theorem dX4_copy_121 : decode cX4_copy 121 = .ok (.iload 5, 2) := by decide +kernel
theorem dX4_copy_123 : decode cX4_copy 123 = .ok (.invokestatic 255, 3) := by decide +kernel
theorem dX4_copy_126 : decode cX4_copy 126 = .ok (.iload 5, 2) := by decide +kernel
theorem dX4_copy_128 : decode cX4_copy 128 = .ok (.ireturn, 1) := by decide +kernel
def finX4_copy  : Int32 × Mi × Ml → Option Value × Mi × Ml := fun b => (some (Value.int b.1), b.2.1, b.2.2)
noncomputable def fX4_copy_16   (M : Mi) (N : Ml) : Option (Int32 × Mi × Ml) := (Option.bind (fX4_finding M 0) (fun a2 => (some (a2.1, (a2.2), N))))
theorem bX4_copy_16 {Z : Zt} {E : Ec}  (C : Ok 1 Z E cX4_copy 8 RX4 (some .int) 1)    (M : Mi) (N : Ml)  : GT Z E 8 finX4_copy 16 [(0, .ref (zA Z 8 0))] [] M N (fX4_copy_16 M N) := by
  unfold fX4_copy_16
  refine r_aload_n C dX4_copy_16 0 0 rfl rfl ?_
  refine r_iconst (v := 0) C dX4_copy_17 (by decide) ?_
  refine r_bind (fun a2 ha2 => ?_)
  refine r_callV (rest := []) (st2 := [.int a2.1]) C (mX4_finding (eL E) C.z M N 0 a2 ha2) lk_X4_58 (rvX C) (by decide) rfl rfl (Nat.le_of_ble_eq_true rfl) dX4_copy_18 rfl ?_
  exact r_iret C dX4_copy_21 rfl
noncomputable def fX4_copy_54   (M : Mi) (N : Ml) : Option (Int32 × Mi × Ml) := (Option.bind (fX4_finding M 5) (fun a7 => (some (a7.1, (a7.2), N))))
theorem bX4_copy_54 {Z : Zt} {E : Ec}  (C : Ok 1 Z E cX4_copy 8 RX4 (some .int) 1)    (M : Mi) (N : Ml)  : GT Z E 8 finX4_copy 54 [(0, .ref (zA Z 8 0))] [] M N (fX4_copy_54 M N) := by
  unfold fX4_copy_54
  refine r_aload_n C dX4_copy_54 0 0 rfl rfl ?_
  refine r_iconst (v := 5) C dX4_copy_55 (by decide) ?_
  refine r_bind (fun a7 ha7 => ?_)
  refine r_callV (rest := []) (st2 := [.int a7.1]) C (mX4_finding (eL E) C.z M N 5 a7 ha7) lk_X4_58 (rvX C) (by decide) rfl rfl (Nat.le_of_ble_eq_true rfl) dX4_copy_56 rfl ?_
  exact r_iret C dX4_copy_59 rfl
noncomputable def fX4_copy_102   (M : Mi) (N : Ml) : Option (Int32 × Mi × Ml) := (Option.bind (fX4_finding M 0) (fun a11 => (some (a11.1, (a11.2), N))))
theorem bX4_copy_102 {Z : Zt} {E : Ec}  (C : Ok 1 Z E cX4_copy 8 RX4 (some .int) 1)    (M : Mi) (N : Ml)  : GT Z E 8 finX4_copy 102 [(0, .ref (zA Z 8 0))] [] M N (fX4_copy_102 M N) := by
  unfold fX4_copy_102
  refine r_aload_n C dX4_copy_102 0 0 rfl rfl ?_
  refine r_iconst (v := 0) C dX4_copy_103 (by decide) ?_
  refine r_bind (fun a11 ha11 => ?_)
  refine r_callV (rest := []) (st2 := [.int a11.1]) C (mX4_finding (eL E) C.z M N 0 a11 ha11) lk_X4_58 (rvX C) (by decide) rfl rfl (Nat.le_of_ble_eq_true rfl) dX4_copy_104 rfl ?_
  exact r_iret C dX4_copy_107 rfl
noncomputable def fX4_copy   (M : Mi) (N : Ml) (x1 : Int32) (x2 : Int32) (x3 : Int32) (x4 : Int32) (x5 : Int32) : Option (Int32 × Mi × Ml) := (if (fX4_isBelow x1 4) = 0 then (fX4_copy_16 M N) else (if (fX4_isBelow x3 4) = 0 then (fX4_copy_16 M N) else (if inb x1 4 then (if inb x3 4 then (if (fX2_isMissing M (20 + ix x1)) = 0 then (if (fX2_isMissing M (20 + ix x3)) = 0 then (if (M (20 + ix x1) 0) = (M (20 + ix x3) 0) then (if (fX2_hasFrom M (20 + ix x1) x2 x5) = 0 then (fX4_copy_102 M N) else (if (fX2_hasFrom M (20 + ix x3) x4 x5) = 0 then (fX4_copy_102 M N) else (if cpOk x2 x4 x5 then (some (x5, M, (sR N (20 + ix x3) (va_cpy (N (20 + ix x1)) (N (20 + ix x3)) (ix x2) (ix x4) (ix x5))))) else none))) else (Option.bind (fX4_finding M 2) (fun a14 => (some (a14.1, (a14.2), N))))) else (fX4_copy_54 M N)) else (fX4_copy_54 M N)) else none) else none)))
theorem bX4_copy {Z : Zt} {E : Ec}  (C : Ok 1 Z E cX4_copy 8 RX4 (some .int) 1)    (M : Mi) (N : Ml) (x1 : Int32) (x2 : Int32) (x3 : Int32) (x4 : Int32) (x5 : Int32)  : GT Z E 8 finX4_copy 0 [(0, .ref (zA Z 8 0)), (1, .int x1), (2, .int x2), (3, .int x3), (4, .int x4), (5, .int x5)] [] M N (fX4_copy M N x1 x2 x3 x4 x5) := by
  unfold fX4_copy
  refine r_iload_n C dX4_copy_0 1 1 rfl rfl ?_
  refine r_iconst (v := 4) C dX4_copy_1 (by decide) ?_
  refine r_callS (rest := []) (st2 := [.int (fX4_isBelow x1 4)]) C (mX4_isBelow (eL E) C.z _ _ x1 4) lk_X4_69 (by decide) rfl rfl (Nat.le_of_ble_eq_true rfl) dX4_copy_2 rfl ?_
  refine r_if_eq (tgt := 16) C dX4_copy_5 (by decide) (fun c1 => ?_) (fun c1 => ?_)
  · refine r_lv [0] (lv' := [(0, .ref (zA Z 8 0))]) rfl ?_
    exact bX4_copy_16 C M N
  · refine r_iload_n C dX4_copy_8 3 3 rfl rfl ?_
    refine r_iconst (v := 4) C dX4_copy_9 (by decide) ?_
    refine r_callS (rest := []) (st2 := [.int (fX4_isBelow x3 4)]) C (mX4_isBelow (eL E) C.z _ _ x3 4) lk_X4_69 (by decide) rfl rfl (Nat.le_of_ble_eq_true rfl) dX4_copy_10 rfl ?_
    refine r_if_ne (tgt := 22) C dX4_copy_13 (by decide) (fun c3 => ?_) (fun c3 => ?_)
    · refine r_aload_n C dX4_copy_22 0 0 rfl rfl ?_
      refine gf_X4_38 C dX4_copy_23 ?_
      refine r_iload_n C dX4_copy_26 1 1 rfl rfl ?_
      refine r_guard (fun h4 => ?_)
      refine ald_T C h4 dX4_copy_27 ?_
      refine r_astore (lv' := [(6, .ref (zA Z (20 + ix x1) 0)), (0, .ref (zA Z 8 0)), (1, .int x1), (2, .int x2), (3, .int x3), (4, .int x4), (5, .int x5)]) C dX4_copy_28 (by decide) rfl ?_
      refine r_aload_n C dX4_copy_30 0 1 rfl rfl ?_
      refine gf_X4_38 C dX4_copy_31 ?_
      refine r_iload_n C dX4_copy_34 3 4 rfl rfl ?_
      refine r_guard (fun h5 => ?_)
      refine ald_T C h5 dX4_copy_35 ?_
      refine r_astore (lv' := [(7, .ref (zA Z (20 + ix x3) 0)), (6, .ref (zA Z (20 + ix x1) 0)), (0, .ref (zA Z 8 0)), (1, .int x1), (2, .int x2), (3, .int x3), (4, .int x4), (5, .int x5)]) C dX4_copy_36 (by decide) rfl ?_
      refine r_aload C dX4_copy_38 1 rfl ?_
      refine r_callV (rest := []) (st2 := [.int (fX2_isMissing M (20 + ix x1))]) C (mX2_isMissing (eL E) C.z (gS h4) M N (20 + ix x1)) lk_X4_246 (rvS C (gS h4)) (by decide) rfl rfl (Nat.le_of_ble_eq_true rfl) dX4_copy_40 rfl ?_
      refine r_if_ne (tgt := 54) C dX4_copy_43 (by decide) (fun c6 => ?_) (fun c6 => ?_)
      · refine r_lv [2] (lv' := [(0, .ref (zA Z 8 0))]) rfl ?_
        exact bX4_copy_54 C M N
      · refine r_aload C dX4_copy_46 0 rfl ?_
        refine r_callV (rest := []) (st2 := [.int (fX2_isMissing M (20 + ix x3))]) C (mX2_isMissing (eL E) C.z (gS h5) M N (20 + ix x3)) lk_X4_246 (rvS C (gS h5)) (by decide) rfl rfl (Nat.le_of_ble_eq_true rfl) dX4_copy_48 rfl ?_
        refine r_if_eq (tgt := 60) C dX4_copy_51 (by decide) (fun c8 => ?_) (fun c8 => ?_)
        · refine r_aload C dX4_copy_60 1 rfl ?_
          refine gf_X4_249 (v := (M (20 + ix x1) 0)) C (gS h4) dX4_copy_62 rfl ?_
          refine r_aload C dX4_copy_65 0 rfl ?_
          refine gf_X4_249 (v := (M (20 + ix x3) 0)) C (gS h5) dX4_copy_67 rfl ?_
          refine r_ic_eq (tgt := 79) C dX4_copy_70 (by decide) (fun c9 => ?_) (fun c9 => ?_)
          · refine r_aload C dX4_copy_79 1 rfl ?_
            refine r_iload_n C dX4_copy_81 2 4 rfl rfl ?_
            refine r_iload C dX4_copy_82 7 rfl ?_
            refine r_callV (rest := []) (st2 := [.int (fX2_hasFrom M (20 + ix x1) x2 x5)]) C (mX2_hasFrom (eL E) C.z (gS h4) M N (20 + ix x1) x2 x5) lk_X4_252 (rvS C (gS h4)) (by decide) rfl rfl (Nat.le_of_ble_eq_true rfl) dX4_copy_84 rfl ?_
            refine r_if_eq (tgt := 102) C dX4_copy_87 (by decide) (fun c10 => ?_) (fun c10 => ?_)
            · refine r_lv [2] (lv' := [(0, .ref (zA Z 8 0))]) rfl ?_
              exact bX4_copy_102 C M N
            · refine r_aload C dX4_copy_90 0 rfl ?_
              refine r_iload C dX4_copy_92 6 rfl ?_
              refine r_iload C dX4_copy_94 7 rfl ?_
              refine r_callV (rest := []) (st2 := [.int (fX2_hasFrom M (20 + ix x3) x4 x5)]) C (mX2_hasFrom (eL E) C.z (gS h5) M N (20 + ix x3) x4 x5) lk_X4_252 (rvS C (gS h5)) (by decide) rfl rfl (Nat.le_of_ble_eq_true rfl) dX4_copy_96 rfl ?_
              refine r_if_ne (tgt := 108) C dX4_copy_99 (by decide) (fun c12 => ?_) (fun c12 => ?_)
              · refine r_aload C dX4_copy_108 1 rfl ?_
                refine gf_X4_238 C (gS h4) dX4_copy_110 ?_
                refine r_iload_n C dX4_copy_113 2 4 rfl rfl ?_
                refine r_aload C dX4_copy_114 0 rfl ?_
                refine gf_X4_238 C (gS h5) dX4_copy_116 ?_
                refine r_iload C dX4_copy_119 6 rfl ?_
                refine r_iload C dX4_copy_121 7 rfl ?_
                refine r_guard (fun h13 => ?_)
                refine r_copy (N' := (sR N (20 + ix x3) (va_cpy (N (20 + ix x1)) (N (20 + ix x3)) (ix x2) (ix x4) (ix x5)))) C (by decide) (gS h4) (gS h5) h13 rfl dX4_copy_123 ?_
                refine r_iload C dX4_copy_126 7 rfl ?_
                exact r_iret C dX4_copy_128 rfl
              · refine r_lv [2] (lv' := [(0, .ref (zA Z 8 0))]) rfl ?_
                exact bX4_copy_102 C M N
          · refine r_aload_n C dX4_copy_73 0 2 rfl rfl ?_
            refine r_iconst (v := 2) C dX4_copy_74 (by decide) ?_
            refine r_bind (fun a14 ha14 => ?_)
            refine r_callV (rest := []) (st2 := [.int a14.1]) C (mX4_finding (eL E) C.z M N 2 a14 ha14) lk_X4_58 (rvX C) (by decide) rfl rfl (Nat.le_of_ble_eq_true rfl) dX4_copy_75 rfl ?_
            exact r_iret C dX4_copy_78 rfl
        · refine r_lv [2] (lv' := [(0, .ref (zA Z 8 0))]) rfl ?_
          exact bX4_copy_54 C M N
    · refine r_lv [0] (lv' := [(0, .ref (zA Z 8 0))]) rfl ?_
      exact bX4_copy_16 C M N
theorem mX4_copy (l : Launch) {Z : Zt} (hZ : Zok 1 Z) (M : Mi) (N : Ml) (x1 : Int32) (x2 : Int32) (x3 : Int32) (x4 : Int32) (x5 : Int32) (b : Int32 × Mi × Ml) (hb : fX4_copy M N x1 x2 x3 x4 x5 = some b) : Ct 1 Z l yX4_copy cX4_copy 8 (some .int) 1 [.ref (zA Z 8 0), .int x1, .int x2, .int x3, .int x4, .int x5] M N (some (Value.int b.1), b.2.1, b.2.2) :=
  metG (fin := finX4_copy) (by decide) (Nat.le_of_ble_eq_true rfl) (fun E _ C => bX4_copy C M N x1 x2 x3 x4 x5) hb
theorem dX4_laysBooks_0 : decode cX4_laysBooks 0 = .ok (.iconst 0, 1) := by decide +kernel
theorem dX4_laysBooks_1 : decode cX4_laysBooks 1 = .ok (.istore_n 2, 1) := by decide +kernel
theorem dX4_laysBooks_2 : decode cX4_laysBooks 2 = .ok (.iconst 0, 1) := by decide +kernel
theorem dX4_laysBooks_3 : decode cX4_laysBooks 3 = .ok (.istore_n 3, 1) := by decide +kernel
theorem dX4_laysBooks_4 : decode cX4_laysBooks 4 = .ok (.iload_n 3, 1) := by decide +kernel
theorem dX4_laysBooks_5 : decode cX4_laysBooks 5 = .ok (.aload_n 1, 1) := by decide +kernel
theorem dX4_laysBooks_6 : decode cX4_laysBooks 6 = .ok (.getfield 234, 3) := by decide +kernel
theorem dX4_laysBooks_9 : decode cX4_laysBooks 9 = .ok (.if_icmp .ge 59, 3) := by decide +kernel
theorem dX4_laysBooks_12 : decode cX4_laysBooks 12 = .ok (.iload_n 3, 1) := by decide +kernel
theorem dX4_laysBooks_13 : decode cX4_laysBooks 13 = .ok (.aload_n 0, 1) := by decide +kernel
theorem dX4_laysBooks_14 : decode cX4_laysBooks 14 = .ok (.getfield 12, 3) := by decide +kernel
theorem dX4_laysBooks_17 : decode cX4_laysBooks 17 = .ok (.getfield 272, 3) := by decide +kernel
theorem dX4_laysBooks_20 : decode cX4_laysBooks 20 = .ok (.if_icmp .ge 48, 3) := by decide +kernel
theorem dX4_laysBooks_23 : decode cX4_laysBooks 23 = .ok (.aload_n 1, 1) := by decide +kernel
theorem dX4_laysBooks_24 : decode cX4_laysBooks 24 = .ok (.getfield 238, 3) := by decide +kernel
theorem dX4_laysBooks_27 : decode cX4_laysBooks 27 = .ok (.iload_n 3, 1) := by decide +kernel
theorem dX4_laysBooks_28 : decode cX4_laysBooks 28 = .ok (.laload, 1) := by decide +kernel
theorem dX4_laysBooks_29 : decode cX4_laysBooks 29 = .ok (.lstore 4, 2) := by decide +kernel
theorem dX4_laysBooks_31 : decode cX4_laysBooks 31 = .ok (.lload 4, 2) := by decide +kernel
theorem dX4_laysBooks_33 : decode cX4_laysBooks 33 = .ok (.lconst 0, 1) := by decide +kernel
theorem dX4_laysBooks_34 : decode cX4_laysBooks 34 = .ok (.lcmp, 1) := by decide +kernel
theorem dX4_laysBooks_35 : decode cX4_laysBooks 35 = .ok (.ifCond .lt 27, 3) := by decide +kernel
theorem dX4_laysBooks_38 : decode cX4_laysBooks 38 = .ok (.lload 4, 2) := by decide +kernel
theorem dX4_laysBooks_40 : decode cX4_laysBooks 40 = .ok (.ldc2_w 285, 3) := by decide +kernel
theorem dX4_laysBooks_43 : decode cX4_laysBooks 43 = .ok (.lcmp, 1) := by decide +kernel
theorem dX4_laysBooks_44 : decode cX4_laysBooks 44 = .ok (.ifCond .gt 18, 3) := by decide +kernel
theorem dX4_laysBooks_47 : decode cX4_laysBooks 47 = .ok (.aload_n 0, 1) := by decide +kernel
theorem dX4_laysBooks_48 : decode cX4_laysBooks 48 = .ok (.getfield 12, 3) := by decide +kernel
theorem dX4_laysBooks_51 : decode cX4_laysBooks 51 = .ok (.getfield 110, 3) := by decide +kernel
theorem dX4_laysBooks_54 : decode cX4_laysBooks 54 = .ok (.iload_n 3, 1) := by decide +kernel
theorem dX4_laysBooks_55 : decode cX4_laysBooks 55 = .ok (.lload 4, 2) := by decide +kernel
theorem dX4_laysBooks_57 : decode cX4_laysBooks 57 = .ok (.l2i, 1) := by decide +kernel
theorem dX4_laysBooks_58 : decode cX4_laysBooks 58 = .ok (.iastore, 1) := by decide +kernel
theorem dX4_laysBooks_59 : decode cX4_laysBooks 59 = .ok (.iinc 2 1, 3) := by decide +kernel
theorem dX4_laysBooks_62 : decode cX4_laysBooks 62 = .ok (.iinc 3 1, 3) := by decide +kernel
theorem dX4_laysBooks_65 : decode cX4_laysBooks 65 = .ok (.goto (-61), 3) := by decide +kernel
theorem dX4_laysBooks_68 : decode cX4_laysBooks 68 = .ok (.iload_n 2, 1) := by decide +kernel
theorem dX4_laysBooks_69 : decode cX4_laysBooks 69 = .ok (.ireturn, 1) := by decide +kernel
def finX4_laysBooks (N : Ml) : Int32 × Mi → Option Value × Mi × Ml := fun b => (some (Value.int b.1), b.2, N)
noncomputable def fX4_laysBooks_4 (N : Ml) (g : Nat)  : Nat → Mi → Int32 → Int32 → Option (Int32 × Mi)
  | 0 => fun _ _ _ => none
  | n + 1 => fun M x2 x3 => (if (M g 1) ≤ x3 then (some (x2, M)) else (if (M 0 1) ≤ x3 then (some (x2, M)) else (if inb x3 40 then (if (N g (ix x3)) < 0 then ((fX4_laysBooks_4 N g n) M x2 (x3 + 1)) else (if 4095 < (N g (ix x3)) then ((fX4_laysBooks_4 N g n) M x2 (x3 + 1)) else (if inb x3 8 then ((fX4_laysBooks_4 N g n) (wM M 0 (9 + 4 * ix x3) (Int64.toInt32 (N g (ix x3)))) (x2 + 1) (x3 + 1)) else none))) else none)))
theorem bX4_laysBooks_4 {Z : Zt} {E : Ec} {N : Ml} {g : Nat} (C : Ok 1 Z E cX4_laysBooks 6 RX4 (some .int) 0) (hg : 20 ≤ g ∧ g < 24)   : ∀ (n : Nat) (M : Mi) (x2 : Int32) (x3 : Int32), GT Z E 6 (finX4_laysBooks N) 4 [(0, .ref (zA Z 8 0)), (1, .ref (zA Z g 0)), (2, .int x2), (3, .int x3)] [] M N (fX4_laysBooks_4 N g n M x2 x3) := by
  intro n
  induction n with
  | zero => intro M x2 x3; exact r_none
  | succ n ih =>
    intro M x2 x3
    rw [fX4_laysBooks_4]
    refine r_iload_n C dX4_laysBooks_4 3 3 rfl rfl ?_
    refine r_aload_n C dX4_laysBooks_5 1 1 rfl rfl ?_
    refine gf_X4_234 (v := (M g 1)) C hg dX4_laysBooks_6 rfl ?_
    refine r_ic_ge (tgt := 68) C dX4_laysBooks_9 (by decide) (fun c1 => ?_) (fun c1 => ?_)
    · refine r_iload_n C dX4_laysBooks_68 2 2 rfl rfl ?_
      exact r_iret C dX4_laysBooks_69 rfl
    · refine r_iload_n C dX4_laysBooks_12 3 3 rfl rfl ?_
      refine r_aload_n C dX4_laysBooks_13 0 0 rfl rfl ?_
      refine gf_X4_12 C dX4_laysBooks_14 ?_
      refine gf_X4_272 (v := (M 0 1)) C (by decide) dX4_laysBooks_17 rfl ?_
      refine r_ic_ge (tgt := 68) C dX4_laysBooks_20 (by decide) (fun c2 => ?_) (fun c2 => ?_)
      · refine r_iload_n C dX4_laysBooks_68 2 2 rfl rfl ?_
        exact r_iret C dX4_laysBooks_69 rfl
      · refine r_aload_n C dX4_laysBooks_23 1 1 rfl rfl ?_
        refine gf_X4_238 C hg dX4_laysBooks_24 ?_
        refine r_iload_n C dX4_laysBooks_27 3 3 rfl rfl ?_
        refine r_guard (fun h3 => ?_)
        refine ald_S (v := (N g (ix x3))) C hg h3 rfl dX4_laysBooks_28 ?_
        refine r_lstore (lv' := [(4, .long (N g (ix x3))), (0, .ref (zA Z 8 0)), (1, .ref (zA Z g 0)), (2, .int x2), (3, .int x3)]) C dX4_laysBooks_29 (by decide) rfl ?_
        refine r_lload C dX4_laysBooks_31 0 rfl ?_
        refine r_lconst (v := 0) C dX4_laysBooks_33 (by decide) ?_
        refine r_lc_lt (tgt := 62) C dX4_laysBooks_34 dX4_laysBooks_35 (by decide) (fun c4 => ?_) (fun c4 => ?_)
        · refine r_iinc (v := (x3 + 1)) (lv' := [(3, .int (x3 + 1)), (4, .long (N g (ix x3))), (0, .ref (zA Z 8 0)), (1, .ref (zA Z g 0)), (2, .int x2)]) C dX4_laysBooks_62 4 rfl rfl (by decide) rfl ?_
          refine r_goto (tgt := 4) C dX4_laysBooks_65 (by decide) ?_
          refine r_lv [2, 3, 4, 0] (lv' := [(0, .ref (zA Z 8 0)), (1, .ref (zA Z g 0)), (2, .int x2), (3, .int (x3 + 1))]) rfl ?_
          exact ih M x2 (x3 + 1)
        · refine r_lload C dX4_laysBooks_38 0 rfl ?_
          refine r_ldc2 (v := 4095) C dX4_laysBooks_40 wd_752 ?_
          refine r_lc_gt (tgt := 62) C dX4_laysBooks_43 dX4_laysBooks_44 (by decide) (fun c5 => ?_) (fun c5 => ?_)
          · refine r_iinc (v := (x3 + 1)) (lv' := [(3, .int (x3 + 1)), (4, .long (N g (ix x3))), (0, .ref (zA Z 8 0)), (1, .ref (zA Z g 0)), (2, .int x2)]) C dX4_laysBooks_62 4 rfl rfl (by decide) rfl ?_
            refine r_goto (tgt := 4) C dX4_laysBooks_65 (by decide) ?_
            refine r_lv [2, 3, 4, 0] (lv' := [(0, .ref (zA Z 8 0)), (1, .ref (zA Z g 0)), (2, .int x2), (3, .int (x3 + 1))]) rfl ?_
            exact ih M x2 (x3 + 1)
          · refine r_aload_n C dX4_laysBooks_47 0 1 rfl rfl ?_
            refine gf_X4_12 C dX4_laysBooks_48 ?_
            refine gf_X4_110 C (by decide) dX4_laysBooks_51 ?_
            refine r_iload_n C dX4_laysBooks_54 3 4 rfl rfl ?_
            refine r_lload C dX4_laysBooks_55 0 rfl ?_
            refine r_l2i C dX4_laysBooks_57 ?_
            refine r_guard (fun h6 => ?_)
            refine ast_I4 (M' := (wM M 0 (9 + 4 * ix x3) (Int64.toInt32 (N g (ix x3))))) C (by decide) h6 rfl dX4_laysBooks_58 ?_
            refine r_iinc (v := (x2 + 1)) (lv' := [(2, .int (x2 + 1)), (4, .long (N g (ix x3))), (0, .ref (zA Z 8 0)), (1, .ref (zA Z g 0)), (3, .int x3)]) C dX4_laysBooks_59 3 rfl rfl (by decide) rfl ?_
            refine r_iinc (v := (x3 + 1)) (lv' := [(3, .int (x3 + 1)), (2, .int (x2 + 1)), (4, .long (N g (ix x3))), (0, .ref (zA Z 8 0)), (1, .ref (zA Z g 0))]) C dX4_laysBooks_62 4 rfl rfl (by decide) rfl ?_
            refine r_goto (tgt := 4) C dX4_laysBooks_65 (by decide) ?_
            refine r_lv [3, 4, 1, 0] (lv' := [(0, .ref (zA Z 8 0)), (1, .ref (zA Z g 0)), (2, .int (x2 + 1)), (3, .int (x3 + 1))]) rfl ?_
            exact ih (wM M 0 (9 + 4 * ix x3) (Int64.toInt32 (N g (ix x3)))) (x2 + 1) (x3 + 1)
noncomputable def fX4_laysBooks (N : Ml) (g : Nat)  (M : Mi) : Option (Int32 × Mi) := (fX4_laysBooks_4 N g fu M 0 0)
theorem bX4_laysBooks {Z : Zt} {E : Ec} {N : Ml} {g : Nat} (C : Ok 1 Z E cX4_laysBooks 6 RX4 (some .int) 0) (hg : 20 ≤ g ∧ g < 24)   (M : Mi)  : GT Z E 6 (finX4_laysBooks N) 0 [(0, .ref (zA Z 8 0)), (1, .ref (zA Z g 0))] [] M N (fX4_laysBooks N g M) := by
  unfold fX4_laysBooks
  refine r_iconst (v := 0) C dX4_laysBooks_0 (by decide) ?_
  refine r_istore_n (lv' := [(2, .int 0), (0, .ref (zA Z 8 0)), (1, .ref (zA Z g 0))]) C dX4_laysBooks_1 2 rfl (by decide) rfl ?_
  refine r_iconst (v := 0) C dX4_laysBooks_2 (by decide) ?_
  refine r_istore_n (lv' := [(3, .int 0), (2, .int 0), (0, .ref (zA Z 8 0)), (1, .ref (zA Z g 0))]) C dX4_laysBooks_3 3 rfl (by decide) rfl ?_
  refine r_lv [2, 3, 1, 0] (lv' := [(0, .ref (zA Z 8 0)), (1, .ref (zA Z g 0)), (2, .int 0), (3, .int 0)]) rfl ?_
  exact bX4_laysBooks_4 C hg fu M 0 0
theorem mX4_laysBooks (l : Launch) {Z : Zt} (hZ : Zok 1 Z) {g : Nat} (hg : 20 ≤ g ∧ g < 24) (M : Mi) (N : Ml) (_g : Nat) (b : Int32 × Mi) (hb : fX4_laysBooks N g M = some b) : Ct 1 Z l yX4_laysBooks cX4_laysBooks 6 (some .int) 0 [.ref (zA Z 8 0), .ref (zA Z g 0)] M N (some (Value.int b.1), b.2, N) :=
  metG (fin := (finX4_laysBooks N)) (by decide) (Nat.le_of_ble_eq_true rfl) (fun E _ C => bX4_laysBooks C hg M) hb
theorem dX4_lays_0 : decode cX4_lays 0 = .ok (.aload_n 0, 1) := by decide +kernel
theorem dX4_lays_1 : decode cX4_lays 1 = .ok (.iload_n 1, 1) := by decide +kernel
theorem dX4_lays_2 : decode cX4_lays 2 = .ok (.invokevirtual 235, 3) := by decide +kernel
theorem dX4_lays_5 : decode cX4_lays 5 = .ok (.istore_n 2, 1) := by decide +kernel
theorem dX4_lays_6 : decode cX4_lays 6 = .ok (.iload_n 2, 1) := by decide +kernel
theorem dX4_lays_7 : decode cX4_lays 7 = .ok (.ifCond .eq 5, 3) := by decide +kernel
theorem dX4_lays_10 : decode cX4_lays 10 = .ok (.iload_n 2, 1) := by decide +kernel
theorem dX4_lays_11 : decode cX4_lays 11 = .ok (.ireturn, 1) := by decide +kernel
theorem dX4_lays_12 : decode cX4_lays 12 = .ok (.aload_n 0, 1) := by decide +kernel
theorem dX4_lays_13 : decode cX4_lays 13 = .ok (.aload_n 0, 1) := by decide +kernel
theorem dX4_lays_14 : decode cX4_lays 14 = .ok (.getfield 38, 3) := by decide +kernel
theorem dX4_lays_17 : decode cX4_lays 17 = .ok (.iload_n 1, 1) := by decide +kernel
theorem dX4_lays_18 : decode cX4_lays 18 = .ok (.aaload, 1) := by decide +kernel
theorem dX4_lays_19 : decode cX4_lays 19 = .ok (.invokevirtual 261, 3) := by decide +kernel
theorem dX4_lays_22 : decode cX4_lays 22 = .ok (.ireturn, 1) := by decide +kernel
def finX4_lays (N : Ml) : Int32 × Mi → Option Value × Mi × Ml := fun b => (some (Value.int b.1), b.2, N)
noncomputable def fX4_lays (N : Ml)  (M : Mi) (x1 : Int32) : Option (Int32 × Mi) := (Option.bind (fX4_askOfSheet M x1) (fun a1 => (if a1.1 = 0 then (if inb x1 4 then (Option.bind (fX4_laysBooks N (20 + ix x1) (a1.2)) (fun a4 => (some (a4.1, (a4.2))))) else none) else (some (a1.1, (a1.2))))))
theorem bX4_lays {Z : Zt} {E : Ec} {N : Ml} (C : Ok 1 Z E cX4_lays 3 RX4 (some .int) 2)    (M : Mi) (x1 : Int32)  : GT Z E 3 (finX4_lays N) 0 [(0, .ref (zA Z 8 0)), (1, .int x1)] [] M N (fX4_lays N M x1) := by
  unfold fX4_lays
  refine r_aload_n C dX4_lays_0 0 0 rfl rfl ?_
  refine r_iload_n C dX4_lays_1 1 1 rfl rfl ?_
  refine r_bind (fun a1 ha1 => ?_)
  refine r_callV (rest := []) (st2 := [.int a1.1]) C (mX4_askOfSheet (eL E) C.z M N x1 a1 ha1) lk_X4_235 (rvX C) (by decide) rfl rfl (Nat.le_of_ble_eq_true rfl) dX4_lays_2 rfl ?_
  refine r_istore_n (lv' := [(2, .int a1.1), (0, .ref (zA Z 8 0)), (1, .int x1)]) C dX4_lays_5 2 rfl (by decide) rfl ?_
  refine r_iload_n C dX4_lays_6 2 0 rfl rfl ?_
  refine r_if_eq (tgt := 12) C dX4_lays_7 (by decide) (fun c2 => ?_) (fun c2 => ?_)
  · refine r_aload_n C dX4_lays_12 0 1 rfl rfl ?_
    refine r_aload_n C dX4_lays_13 0 1 rfl rfl ?_
    refine gf_X4_38 C dX4_lays_14 ?_
    refine r_iload_n C dX4_lays_17 1 2 rfl rfl ?_
    refine r_guard (fun h3 => ?_)
    refine ald_T C h3 dX4_lays_18 ?_
    refine r_bind (fun a4 ha4 => ?_)
    refine r_callV (rest := []) (st2 := [.int a4.1]) C (mX4_laysBooks (eL E) C.z (gS h3) (a1.2) N (20 + ix x1) a4 ha4) lk_X4_261 (rvX C) (by decide) rfl rfl (Nat.le_of_ble_eq_true rfl) dX4_lays_19 rfl ?_
    exact r_iret C dX4_lays_22 rfl
  · refine r_iload_n C dX4_lays_10 2 0 rfl rfl ?_
    exact r_iret C dX4_lays_11 rfl
theorem mX4_lays (l : Launch) {Z : Zt} (hZ : Zok 1 Z) (M : Mi) (N : Ml) (x1 : Int32) (b : Int32 × Mi) (hb : fX4_lays N M x1 = some b) : Ct 1 Z l yX4_lays cX4_lays 3 (some .int) 2 [.ref (zA Z 8 0), .int x1] M N (some (Value.int b.1), b.2, N) :=
  metG (fin := (finX4_lays N)) (by decide) (Nat.le_of_ble_eq_true rfl) (fun E _ C => bX4_lays C M x1) hb
theorem dX4_book_0 : decode cX4_book 0 = .ok (.aload_n 0, 1) := by decide +kernel
theorem dX4_book_1 : decode cX4_book 1 = .ok (.iload_n 1, 1) := by decide +kernel
theorem dX4_book_2 : decode cX4_book 2 = .ok (.invokevirtual 235, 3) := by decide +kernel
theorem dX4_book_5 : decode cX4_book 5 = .ok (.istore_n 3, 1) := by decide +kernel
theorem dX4_book_6 : decode cX4_book 6 = .ok (.iload_n 3, 1) := by decide +kernel
theorem dX4_book_7 : decode cX4_book 7 = .ok (.ifCond .eq 5, 3) := by decide +kernel
theorem dX4_book_10 : decode cX4_book 10 = .ok (.iload_n 3, 1) := by decide +kernel
theorem dX4_book_11 : decode cX4_book 11 = .ok (.ireturn, 1) := by decide +kernel
theorem dX4_book_12 : decode cX4_book 12 = .ok (.aload_n 0, 1) := by decide +kernel
theorem dX4_book_13 : decode cX4_book 13 = .ok (.getfield 38, 3) := by decide +kernel
theorem dX4_book_16 : decode cX4_book 16 = .ok (.iload_n 1, 1) := by decide +kernel
theorem dX4_book_17 : decode cX4_book 17 = .ok (.aaload, 1) := by decide +kernel
theorem dX4_book_18 : decode cX4_book 18 = .ok (.astore 4, 2) := by decide +kernel
theorem dX4_book_20 : decode cX4_book 20 = .ok (.aload_n 0, 1) := by decide +kernel
theorem dX4_book_21 : decode cX4_book 21 = .ok (.getfield 12, 3) := by decide +kernel
theorem dX4_book_24 : decode cX4_book 24 = .ok (.iload_n 2, 1) := by decide +kernel
theorem dX4_book_25 : decode cX4_book 25 = .ok (.invokevirtual 101, 3) := by decide +kernel
theorem dX4_book_28 : decode cX4_book 28 = .ok (.ifCond .ne 9, 3) := by decide +kernel
theorem dX4_book_31 : decode cX4_book 31 = .ok (.aload_n 0, 1) := by decide +kernel
theorem dX4_book_32 : decode cX4_book 32 = .ok (.iconst 0, 1) := by decide +kernel
theorem dX4_book_33 : decode cX4_book 33 = .ok (.invokevirtual 58, 3) := by decide +kernel
theorem dX4_book_36 : decode cX4_book 36 = .ok (.ireturn, 1) := by decide +kernel
theorem dX4_book_37 : decode cX4_book 37 = .ok (.aload_n 0, 1) := by decide +kernel
theorem dX4_book_38 : decode cX4_book 38 = .ok (.getfield 16, 3) := by decide +kernel
theorem dX4_book_41 : decode cX4_book 41 = .ok (.aload_n 0, 1) := by decide +kernel
theorem dX4_book_42 : decode cX4_book 42 = .ok (.getfield 12, 3) := by decide +kernel
theorem dX4_book_45 : decode cX4_book 45 = .ok (.invokevirtual 163, 3) := by decide +kernel
theorem dX4_book_48 : decode cX4_book 48 = .ok (.iconst 0, 1) := by decide +kernel
theorem dX4_book_49 : decode cX4_book 49 = .ok (.istore 5, 2) := by decide +kernel
theorem dX4_book_51 : decode cX4_book 51 = .ok (.iload 5, 2) := by decide +kernel
theorem dX4_book_53 : decode cX4_book 53 = .ok (.aload 4, 2) := by decide +kernel
theorem dX4_book_55 : decode cX4_book 55 = .ok (.getfield 234, 3) := by decide +kernel
theorem dX4_book_58 : decode cX4_book 58 = .ok (.if_icmp .ge 35, 3) := by decide +kernel
theorem dX4_book_61 : decode cX4_book 61 = .ok (.aload 4, 2) := by decide +kernel
theorem dX4_book_63 : decode cX4_book 63 = .ok (.getfield 238, 3) := by decide +kernel
theorem dX4_book_66 : decode cX4_book 66 = .ok (.iload 5, 2) := by decide +kernel
theorem dX4_book_68 : decode cX4_book 68 = .ok (.aload_n 0, 1) := by decide +kernel
theorem dX4_book_69 : decode cX4_book 69 = .ok (.getfield 16, 3) := by decide +kernel
theorem dX4_book_72 : decode cX4_book 72 = .ok (.getfield 107, 3) := by decide +kernel
theorem dX4_book_75 : decode cX4_book 75 = .ok (.iload_n 2, 1) := by decide +kernel
theorem dX4_book_76 : decode cX4_book 76 = .ok (.iaload, 1) := by decide +kernel
theorem dX4_book_77 : decode cX4_book 77 = .ok (.i2l, 1) := by decide +kernel
theorem dX4_book_78 : decode cX4_book 78 = .ok (.lastore, 1) := by decide +kernel
theorem dX4_book_79 : decode cX4_book 79 = .ok (.aload_n 0, 1) := by decide +kernel
theorem dX4_book_80 : decode cX4_book 80 = .ok (.getfield 16, 3) := by decide +kernel
theorem dX4_book_83 : decode cX4_book 83 = .ok (.iload_n 2, 1) := by decide +kernel
theorem dX4_book_84 : decode cX4_book 84 = .ok (.invokevirtual 265, 3) := by decide +kernel
theorem dX4_book_87 : decode cX4_book 87 = .ok (.iinc 5 1, 3) := by decide +kernel
theorem dX4_book_90 : decode cX4_book 90 = .ok (.goto (-39), 3) := by decide +kernel
theorem dX4_book_93 : decode cX4_book 93 = .ok (.aload 4, 2) := by decide +kernel
theorem dX4_book_95 : decode cX4_book 95 = .ok (.getfield 234, 3) := by decide +kernel
theorem dX4_book_98 : decode cX4_book 98 = .ok (.ireturn, 1) := by decide +kernel
def finX4_book  : Int32 × Mi × Ml → Option Value × Mi × Ml := fun b => (some (Value.int b.1), b.2.1, b.2.2)
noncomputable def fX4_book_51   : Nat → Mi → Ml → Int32 → Nat → Int32 → Option (Int32 × Mi × Ml)
  | 0 => fun _ _ _ _ _ => none
  | n + 1 => fun M N x2 g4 x5 => (if (M g4 1) ≤ x5 then (some ((M g4 1), M, N)) else (if inb x2 8 then (if inb x5 40 then (Option.bind (fX0_goAlone (M 1) x2) (fun a9 => ((fX4_book_51 n) (sR M 1 a9) (wN N g4 (ix x5) (Int32.toInt64 (M 1 (8 + 4 * ix x2)))) x2 g4 (x5 + 1)))) else none) else none))
theorem bX4_book_51 {Z : Zt} {E : Ec}  (C : Ok 1 Z E cX4_book 6 RX4 (some .int) 4)    : ∀ (n : Nat) (M : Mi) (N : Ml) (x2 : Int32) (g4 : Nat) (x5 : Int32) (hg4 : 20 ≤ g4 ∧ g4 < 24), GT Z E 6 finX4_book 51 [(0, .ref (zA Z 8 0)), (2, .int x2), (4, .ref (zA Z g4 0)), (5, .int x5)] [] M N (fX4_book_51 n M N x2 g4 x5) := by
  intro n
  induction n with
  | zero => intro M N x2 g4 x5 hg4; exact r_none
  | succ n ih =>
    intro M N x2 g4 x5 hg4
    rw [fX4_book_51]
    refine r_iload C dX4_book_51 3 rfl ?_
    refine r_aload C dX4_book_53 2 rfl ?_
    refine gf_X4_234 (v := (M g4 1)) C hg4 dX4_book_55 rfl ?_
    refine r_ic_ge (tgt := 93) C dX4_book_58 (by decide) (fun c6 => ?_) (fun c6 => ?_)
    · refine r_aload C dX4_book_93 2 rfl ?_
      refine gf_X4_234 (v := (M g4 1)) C hg4 dX4_book_95 rfl ?_
      exact r_iret C dX4_book_98 rfl
    · refine r_aload C dX4_book_61 2 rfl ?_
      refine gf_X4_238 C hg4 dX4_book_63 ?_
      refine r_iload C dX4_book_66 3 rfl ?_
      refine r_aload_n C dX4_book_68 0 0 rfl rfl ?_
      refine gf_X4_16 C dX4_book_69 ?_
      refine gf_X4_107 C (by decide) dX4_book_72 ?_
      refine r_iload_n C dX4_book_75 2 1 rfl rfl ?_
      refine r_guard (fun h7 => ?_)
      refine ald_I3 (v := (M 1 (8 + 4 * ix x2))) C (by decide) h7 rfl dX4_book_76 ?_
      refine r_i2l C dX4_book_77 ?_
      refine r_guard (fun h8 => ?_)
      refine ast_S (N' := (wN N g4 (ix x5) (Int32.toInt64 (M 1 (8 + 4 * ix x2))))) C hg4 h8 rfl dX4_book_78 ?_
      refine r_aload_n C dX4_book_79 0 0 rfl rfl ?_
      refine gf_X4_16 C dX4_book_80 ?_
      refine r_iload_n C dX4_book_83 2 1 rfl rfl ?_
      refine r_bind (fun a9 ha9 => ?_)
      refine r_callV (rest := []) (st2 := []) C (mX0_goAlone (eL E) C.z (by decide) M _ (M 1) x2 a9 ha9).selfW lk_X4_265 (rvI C (by decide)) (by decide) rfl rfl (Nat.le_of_ble_eq_true rfl) dX4_book_84 rfl ?_
      refine r_iinc (v := (x5 + 1)) (lv' := [(5, .int (x5 + 1)), (0, .ref (zA Z 8 0)), (2, .int x2), (4, .ref (zA Z g4 0))]) C dX4_book_87 3 rfl rfl (by decide) rfl ?_
      refine r_goto (tgt := 51) C dX4_book_90 (by decide) ?_
      refine r_lv [1, 2, 3, 0] (lv' := [(0, .ref (zA Z 8 0)), (2, .int x2), (4, .ref (zA Z g4 0)), (5, .int (x5 + 1))]) rfl ?_
      exact ih (sR M 1 a9) (wN N g4 (ix x5) (Int32.toInt64 (M 1 (8 + 4 * ix x2)))) x2 g4 (x5 + 1) hg4
noncomputable def fX4_book   (M : Mi) (N : Ml) (x1 : Int32) (x2 : Int32) : Option (Int32 × Mi × Ml) := (Option.bind (fX4_askOfSheet M x1) (fun a1 => (if a1.1 = 0 then (if inb x1 4 then (if (fX0_has ((a1.2) 0) x2) = 0 then (Option.bind (fX4_finding (a1.2) 0) (fun a10 => (some (a10.1, (a10.2), N)))) else (Option.bind (fX0_becomes ((a1.2) 0) ((a1.2) 1)) (fun a5 => (fX4_book_51 fu (sR (a1.2) 1 a5) N x2 (20 + ix x1) 0)))) else none) else (some (a1.1, (a1.2), N)))))
theorem bX4_book {Z : Zt} {E : Ec}  (C : Ok 1 Z E cX4_book 6 RX4 (some .int) 4)    (M : Mi) (N : Ml) (x1 : Int32) (x2 : Int32)  : GT Z E 6 finX4_book 0 [(0, .ref (zA Z 8 0)), (1, .int x1), (2, .int x2)] [] M N (fX4_book M N x1 x2) := by
  unfold fX4_book
  refine r_aload_n C dX4_book_0 0 0 rfl rfl ?_
  refine r_iload_n C dX4_book_1 1 1 rfl rfl ?_
  refine r_bind (fun a1 ha1 => ?_)
  refine r_callV (rest := []) (st2 := [.int a1.1]) C (mX4_askOfSheet (eL E) C.z M N x1 a1 ha1) lk_X4_235 (rvX C) (by decide) rfl rfl (Nat.le_of_ble_eq_true rfl) dX4_book_2 rfl ?_
  refine r_istore_n (lv' := [(3, .int a1.1), (0, .ref (zA Z 8 0)), (1, .int x1), (2, .int x2)]) C dX4_book_5 3 rfl (by decide) rfl ?_
  refine r_iload_n C dX4_book_6 3 0 rfl rfl ?_
  refine r_if_eq (tgt := 12) C dX4_book_7 (by decide) (fun c2 => ?_) (fun c2 => ?_)
  · refine r_aload_n C dX4_book_12 0 1 rfl rfl ?_
    refine gf_X4_38 C dX4_book_13 ?_
    refine r_iload_n C dX4_book_16 1 2 rfl rfl ?_
    refine r_guard (fun h3 => ?_)
    refine ald_T C h3 dX4_book_17 ?_
    refine r_astore (lv' := [(4, .ref (zA Z (20 + ix x1) 0)), (3, .int a1.1), (0, .ref (zA Z 8 0)), (1, .int x1), (2, .int x2)]) C dX4_book_18 (by decide) rfl ?_
    refine r_aload_n C dX4_book_20 0 2 rfl rfl ?_
    refine gf_X4_12 C dX4_book_21 ?_
    refine r_iload_n C dX4_book_24 2 4 rfl rfl ?_
    refine r_callV (rest := []) (st2 := [.int (fX0_has ((a1.2) 0) x2)]) C (mX0_has (eL E) C.z (by decide) (a1.2) _ ((a1.2) 0) x2).selfR lk_X4_101 (rvI C (by decide)) (by decide) rfl rfl (Nat.le_of_ble_eq_true rfl) dX4_book_25 rfl ?_
    refine r_if_ne (tgt := 37) C dX4_book_28 (by decide) (fun c4 => ?_) (fun c4 => ?_)
    · refine r_aload_n C dX4_book_37 0 2 rfl rfl ?_
      refine gf_X4_16 C dX4_book_38 ?_
      refine r_aload_n C dX4_book_41 0 2 rfl rfl ?_
      refine gf_X4_12 C dX4_book_42 ?_
      refine r_bind (fun a5 ha5 => ?_)
      refine r_callV (rest := []) (st2 := []) C (mX0_becomes (eL E) C.z (by decide) (by decide) (by decide) (a1.2) _ ((a1.2) 1) a5 ha5).selfW lk_X4_163 (rvI C (by decide)) (by decide) rfl rfl (Nat.le_of_ble_eq_true rfl) dX4_book_45 rfl ?_
      refine r_iconst (v := 0) C dX4_book_48 (by decide) ?_
      refine r_istore (lv' := [(5, .int 0), (4, .ref (zA Z (20 + ix x1) 0)), (3, .int a1.1), (0, .ref (zA Z 8 0)), (1, .int x1), (2, .int x2)]) C dX4_book_49 (by decide) rfl ?_
      refine r_lv [3, 5, 1, 0] (lv' := [(0, .ref (zA Z 8 0)), (2, .int x2), (4, .ref (zA Z (20 + ix x1) 0)), (5, .int 0)]) rfl ?_
      exact bX4_book_51 C fu (sR (a1.2) 1 a5) N x2 (20 + ix x1) 0 (gS h3)
    · refine r_aload_n C dX4_book_31 0 2 rfl rfl ?_
      refine r_iconst (v := 0) C dX4_book_32 (by decide) ?_
      refine r_bind (fun a10 ha10 => ?_)
      refine r_callV (rest := []) (st2 := [.int a10.1]) C (mX4_finding (eL E) C.z (a1.2) N 0 a10 ha10) lk_X4_58 (rvX C) (by decide) rfl rfl (Nat.le_of_ble_eq_true rfl) dX4_book_33 rfl ?_
      exact r_iret C dX4_book_36 rfl
  · refine r_iload_n C dX4_book_10 3 0 rfl rfl ?_
    exact r_iret C dX4_book_11 rfl
theorem mX4_book (l : Launch) {Z : Zt} (hZ : Zok 1 Z) (M : Mi) (N : Ml) (x1 : Int32) (x2 : Int32) (b : Int32 × Mi × Ml) (hb : fX4_book M N x1 x2 = some b) : Ct 1 Z l yX4_book cX4_book 6 (some .int) 4 [.ref (zA Z 8 0), .int x1, .int x2] M N (some (Value.int b.1), b.2.1, b.2.2) :=
  metG (fin := finX4_book) (by decide) (Nat.le_of_ble_eq_true rfl) (fun E _ C => bX4_book C M N x1 x2) hb
theorem dX4_read_0 : decode cX4_read 0 = .ok (.aload_n 0, 1) := by decide +kernel
theorem dX4_read_1 : decode cX4_read 1 = .ok (.iload_n 1, 1) := by decide +kernel
theorem dX4_read_2 : decode cX4_read 2 = .ok (.invokevirtual 235, 3) := by decide +kernel
theorem dX4_read_5 : decode cX4_read 5 = .ok (.istore_n 3, 1) := by decide +kernel
theorem dX4_read_6 : decode cX4_read 6 = .ok (.iload_n 3, 1) := by decide +kernel
theorem dX4_read_7 : decode cX4_read 7 = .ok (.ifCond .eq 5, 3) := by decide +kernel
theorem dX4_read_10 : decode cX4_read 10 = .ok (.iload_n 3, 1) := by decide +kernel
theorem dX4_read_11 : decode cX4_read 11 = .ok (.ireturn, 1) := by decide +kernel
theorem dX4_read_12 : decode cX4_read 12 = .ok (.aload_n 0, 1) := by decide +kernel
theorem dX4_read_13 : decode cX4_read 13 = .ok (.getfield 12, 3) := by decide +kernel
theorem dX4_read_16 : decode cX4_read 16 = .ok (.iload_n 2, 1) := by decide +kernel
theorem dX4_read_17 : decode cX4_read 17 = .ok (.invokevirtual 101, 3) := by decide +kernel
theorem dX4_read_20 : decode cX4_read 20 = .ok (.ifCond .ne 9, 3) := by decide +kernel
theorem dX4_read_23 : decode cX4_read 23 = .ok (.aload_n 0, 1) := by decide +kernel
theorem dX4_read_24 : decode cX4_read 24 = .ok (.iconst 0, 1) := by decide +kernel
theorem dX4_read_25 : decode cX4_read 25 = .ok (.invokevirtual 58, 3) := by decide +kernel
theorem dX4_read_28 : decode cX4_read 28 = .ok (.ireturn, 1) := by decide +kernel
theorem dX4_read_29 : decode cX4_read 29 = .ok (.iconst 0, 1) := by decide +kernel
theorem dX4_read_30 : decode cX4_read 30 = .ok (.istore 4, 2) := by decide +kernel
theorem dX4_read_32 : decode cX4_read 32 = .ok (.iconst 0, 1) := by decide +kernel
theorem dX4_read_33 : decode cX4_read 33 = .ok (.istore 5, 2) := by decide +kernel
theorem dX4_read_35 : decode cX4_read 35 = .ok (.iload 5, 2) := by decide +kernel
theorem dX4_read_37 : decode cX4_read 37 = .ok (.bipush 6, 2) := by decide +kernel
theorem dX4_read_39 : decode cX4_read 39 = .ok (.if_icmp .ge 85, 3) := by decide +kernel
theorem dX4_read_42 : decode cX4_read 42 = .ok (.iconst 0, 1) := by decide +kernel
theorem dX4_read_43 : decode cX4_read 43 = .ok (.istore 6, 2) := by decide +kernel
theorem dX4_read_45 : decode cX4_read 45 = .ok (.iload 6, 2) := by decide +kernel
theorem dX4_read_47 : decode cX4_read 47 = .ok (.bipush 30, 2) := by decide +kernel
theorem dX4_read_49 : decode cX4_read 49 = .ok (.if_icmp .ge 69, 3) := by decide +kernel
theorem dX4_read_52 : decode cX4_read 52 = .ok (.aload_n 0, 1) := by decide +kernel
theorem dX4_read_53 : decode cX4_read 53 = .ok (.getfield 16, 3) := by decide +kernel
theorem dX4_read_56 : decode cX4_read 56 = .ok (.aload_n 0, 1) := by decide +kernel
theorem dX4_read_57 : decode cX4_read 57 = .ok (.getfield 12, 3) := by decide +kernel
theorem dX4_read_60 : decode cX4_read 60 = .ok (.invokevirtual 163, 3) := by decide +kernel
theorem dX4_read_63 : decode cX4_read 63 = .ok (.aload_n 0, 1) := by decide +kernel
theorem dX4_read_64 : decode cX4_read 64 = .ok (.getfield 16, 3) := by decide +kernel
theorem dX4_read_67 : decode cX4_read 67 = .ok (.getfield 104, 3) := by decide +kernel
theorem dX4_read_70 : decode cX4_read 70 = .ok (.iload_n 2, 1) := by decide +kernel
theorem dX4_read_71 : decode cX4_read 71 = .ok (.iload 5, 2) := by decide +kernel
theorem dX4_read_73 : decode cX4_read 73 = .ok (.iastore, 1) := by decide +kernel
theorem dX4_read_74 : decode cX4_read 74 = .ok (.aload_n 0, 1) := by decide +kernel
theorem dX4_read_75 : decode cX4_read 75 = .ok (.getfield 16, 3) := by decide +kernel
theorem dX4_read_78 : decode cX4_read 78 = .ok (.getfield 73, 3) := by decide +kernel
theorem dX4_read_81 : decode cX4_read 81 = .ok (.iconst 0, 1) := by decide +kernel
theorem dX4_read_82 : decode cX4_read 82 = .ok (.iload 6, 2) := by decide +kernel
theorem dX4_read_84 : decode cX4_read 84 = .ok (.iastore, 1) := by decide +kernel
theorem dX4_read_85 : decode cX4_read 85 = .ok (.iload 4, 2) := by decide +kernel
theorem dX4_read_87 : decode cX4_read 87 = .ok (.aload_n 0, 1) := by decide +kernel
theorem dX4_read_88 : decode cX4_read 88 = .ok (.getfield 16, 3) := by decide +kernel
theorem dX4_read_91 : decode cX4_read 91 = .ok (.aload_n 0, 1) := by decide +kernel
theorem dX4_read_92 : decode cX4_read 92 = .ok (.getfield 38, 3) := by decide +kernel
theorem dX4_read_95 : decode cX4_read 95 = .ok (.iload_n 1, 1) := by decide +kernel
theorem dX4_read_96 : decode cX4_read 96 = .ok (.aaload, 1) := by decide +kernel
theorem dX4_read_97 : decode cX4_read 97 = .ok (.iload_n 2, 1) := by decide +kernel
theorem dX4_read_98 : decode cX4_read 98 = .ok (.invokevirtual 268, 3) := by decide +kernel
theorem dX4_read_101 : decode cX4_read 101 = .ok (.ifCond .eq 7, 3) := by decide +kernel
theorem dX4_read_104 : decode cX4_read 104 = .ok (.iconst 1, 1) := by decide +kernel
theorem dX4_read_105 : decode cX4_read 105 = .ok (.goto 4, 3) := by decide +kernel
theorem dX4_read_108 : decode cX4_read 108 = .ok (.iconst 0, 1) := by decide +kernel
theorem dX4_read_109 : decode cX4_read 109 = .ok (.iadd, 1) := by decide +kernel
theorem dX4_read_110 : decode cX4_read 110 = .ok (.istore 4, 2) := by decide +kernel
theorem dX4_read_112 : decode cX4_read 112 = .ok (.iinc 6 1, 3) := by decide +kernel
theorem dX4_read_115 : decode cX4_read 115 = .ok (.goto (-70), 3) := by decide +kernel
theorem dX4_read_118 : decode cX4_read 118 = .ok (.iinc 5 1, 3) := by decide +kernel
theorem dX4_read_121 : decode cX4_read 121 = .ok (.goto (-86), 3) := by decide +kernel
theorem dX4_read_124 : decode cX4_read 124 = .ok (.iload 4, 2) := by decide +kernel
theorem dX4_read_126 : decode cX4_read 126 = .ok (.ireturn, 1) := by decide +kernel
def finX4_read (N : Ml) : Int32 × Mi → Option Value × Mi × Ml := fun b => (some (Value.int b.1), b.2, N)
noncomputable def fX4_read_45 (N : Ml) (r118 : Mi → Int32 → Int32 → Int32 → Int32 → Option (Int32 × Mi)) : Nat → Mi → Int32 → Int32 → Int32 → Int32 → Int32 → Option (Int32 × Mi)
  | 0 => fun _ _ _ _ _ _ => none
  | n + 1 => fun M x1 x2 x4 x5 x6 => (if 30 ≤ x6 then (r118 M x1 x2 x4 x5) else (Option.bind (fX0_becomes (M 0) (M 1)) (fun a6 => (if inb x2 8 then (if inb x1 4 then (Option.bind (fX0_goesAsIn ((wM (wM (sR M 1 a6) 1 (7 + 4 * ix x2) x5) 1 3 x6) (20 + ix x1) 1) (N (20 + ix x1)) ((wM (wM (sR M 1 a6) 1 (7 + 4 * ix x2) x5) 1 3 x6) 1) x2) (fun a9 => ((fX4_read_45 N r118 n) (sR (wM (wM (sR M 1 a6) 1 (7 + 4 * ix x2) x5) 1 3 x6) 1 (a9.2)) x1 x2 (x4 + (if a9.1 = 0 then 0 else 1 : Int32)) x5 (x6 + 1)))) else none) else none))))
theorem bX4_read_45 {Z : Zt} {E : Ec} {N : Ml} (C : Ok 1 Z E cX4_read 7 RX4 (some .int) 5)  (r118 : Mi → Int32 → Int32 → Int32 → Int32 → Option (Int32 × Mi)) (hr118 : ∀ (M : Mi) (x1 : Int32) (x2 : Int32) (x4 : Int32) (x5 : Int32), GT Z E 7 (finX4_read N) 118 [(0, .ref (zA Z 8 0)), (1, .int x1), (2, .int x2), (4, .int x4), (5, .int x5)] [] M N (r118 M x1 x2 x4 x5)) : ∀ (n : Nat) (M : Mi) (x1 : Int32) (x2 : Int32) (x4 : Int32) (x5 : Int32) (x6 : Int32), GT Z E 7 (finX4_read N) 45 [(0, .ref (zA Z 8 0)), (1, .int x1), (2, .int x2), (4, .int x4), (5, .int x5), (6, .int x6)] [] M N (fX4_read_45 N r118 n M x1 x2 x4 x5 x6) := by
  intro n
  induction n with
  | zero => intro M x1 x2 x4 x5 x6; exact r_none
  | succ n ih =>
    intro M x1 x2 x4 x5 x6
    rw [fX4_read_45]
    refine r_iload C dX4_read_45 5 rfl ?_
    refine r_bipush (v := 30) C dX4_read_47 (by decide) ?_
    refine r_ic_ge (tgt := 118) C dX4_read_49 (by decide) (fun c5 => ?_) (fun c5 => ?_)
    · refine r_lv [0, 1, 2, 3, 4] (lv' := [(0, .ref (zA Z 8 0)), (1, .int x1), (2, .int x2), (4, .int x4), (5, .int x5)]) rfl ?_
      exact hr118 M x1 x2 x4 x5
    · refine r_aload_n C dX4_read_52 0 0 rfl rfl ?_
      refine gf_X4_16 C dX4_read_53 ?_
      refine r_aload_n C dX4_read_56 0 0 rfl rfl ?_
      refine gf_X4_12 C dX4_read_57 ?_
      refine r_bind (fun a6 ha6 => ?_)
      refine r_callV (rest := []) (st2 := []) C (mX0_becomes (eL E) C.z (by decide) (by decide) (by decide) M _ (M 1) a6 ha6).selfW lk_X4_163 (rvI C (by decide)) (by decide) rfl rfl (Nat.le_of_ble_eq_true rfl) dX4_read_60 rfl ?_
      refine r_aload_n C dX4_read_63 0 0 rfl rfl ?_
      refine gf_X4_16 C dX4_read_64 ?_
      refine gf_X4_104 C (by decide) dX4_read_67 ?_
      refine r_iload_n C dX4_read_70 2 2 rfl rfl ?_
      refine r_iload C dX4_read_71 4 rfl ?_
      refine r_guard (fun h7 => ?_)
      refine ast_I2 (M' := (wM (sR M 1 a6) 1 (7 + 4 * ix x2) x5)) C (by decide) h7 rfl dX4_read_73 ?_
      refine r_aload_n C dX4_read_74 0 0 rfl rfl ?_
      refine gf_X4_16 C dX4_read_75 ?_
      refine gf_X4_73 C (by decide) dX4_read_78 ?_
      refine r_iconst (v := 0) C dX4_read_81 (by decide) ?_
      refine r_iload C dX4_read_82 5 rfl ?_
      refine ast_I1 (M' := (wM (wM (sR M 1 a6) 1 (7 + 4 * ix x2) x5) 1 3 x6)) C (by decide) (by decide) rfl dX4_read_84 ?_
      refine r_iload C dX4_read_85 3 rfl ?_
      refine r_aload_n C dX4_read_87 0 0 rfl rfl ?_
      refine gf_X4_16 C dX4_read_88 ?_
      refine r_aload_n C dX4_read_91 0 0 rfl rfl ?_
      refine gf_X4_38 C dX4_read_92 ?_
      refine r_iload_n C dX4_read_95 1 1 rfl rfl ?_
      refine r_guard (fun h8 => ?_)
      refine ald_T C h8 dX4_read_96 ?_
      refine r_iload_n C dX4_read_97 2 2 rfl rfl ?_
      refine r_bind (fun a9 ha9 => ?_)
      refine r_callV (rest := [.int x4]) (st2 := [.int a9.1, .int x4]) C (mX0_goesAsIn (eL E) C.z (by decide) (gS h8) (wM (wM (sR M 1 a6) 1 (7 + 4 * ix x2) x5) 1 3 x6) _ ((wM (wM (sR M 1 a6) 1 (7 + 4 * ix x2) x5) 1 3 x6) 1) x2 a9 ha9).selfW lk_X4_268 (rvI C (by decide)) (by decide) rfl rfl (Nat.le_of_ble_eq_true rfl) dX4_read_98 rfl ?_
      refine r_sel (tj := 109) (sj := [.int (if a9.1 = 0 then 0 else 1 : Int32), .int x4]) ?_ (fun k11 => ?_)
      · refine r_iadd C dX4_read_109 ?_
        refine r_istore (lv' := [(4, .int (x4 + (if a9.1 = 0 then 0 else 1 : Int32))), (0, .ref (zA Z 8 0)), (1, .int x1), (2, .int x2), (5, .int x5), (6, .int x6)]) C dX4_read_110 (by decide) rfl ?_
        refine r_iinc (v := (x6 + 1)) (lv' := [(6, .int (x6 + 1)), (4, .int (x4 + (if a9.1 = 0 then 0 else 1 : Int32))), (0, .ref (zA Z 8 0)), (1, .int x1), (2, .int x2), (5, .int x5)]) C dX4_read_112 5 rfl rfl (by decide) rfl ?_
        refine r_goto (tgt := 45) C dX4_read_115 (by decide) ?_
        refine r_lv [2, 3, 4, 1, 5, 0] (lv' := [(0, .ref (zA Z 8 0)), (1, .int x1), (2, .int x2), (4, .int (x4 + (if a9.1 = 0 then 0 else 1 : Int32))), (5, .int x5), (6, .int (x6 + 1))]) rfl ?_
        exact ih (sR (wM (wM (sR M 1 a6) 1 (7 + 4 * ix x2) x5) 1 3 x6) 1 (a9.2)) x1 x2 (x4 + (if a9.1 = 0 then 0 else 1 : Int32)) x5 (x6 + 1)
      · refine r_same (P := a9.1 = 0) ?_
        refine r_if_eq (tgt := 108) C dX4_read_101 (by decide) (fun c10 => ?_) (fun c10 => ?_)
        · refine r_iconst (v := 0) C dX4_read_108 (by decide) ?_
          exact r_stk (if_pos c10) k11
        · refine r_iconst (v := 1) C dX4_read_104 (by decide) ?_
          refine r_goto (tgt := 109) C dX4_read_105 (by decide) ?_
          exact r_stk (if_neg c10) k11
noncomputable def fX4_read_118 (N : Ml) (r35 : Mi → Int32 → Int32 → Int32 → Int32 → Option (Int32 × Mi)) (M : Mi) (x1 : Int32) (x2 : Int32) (x4 : Int32) (x5 : Int32) : Option (Int32 × Mi) := (r35 M x1 x2 x4 (x5 + 1))
theorem bX4_read_118 {Z : Zt} {E : Ec} {N : Ml} (C : Ok 1 Z E cX4_read 7 RX4 (some .int) 5)  (r35 : Mi → Int32 → Int32 → Int32 → Int32 → Option (Int32 × Mi)) (hr35 : ∀ (M : Mi) (x1 : Int32) (x2 : Int32) (x4 : Int32) (x5 : Int32), GT Z E 7 (finX4_read N) 35 [(0, .ref (zA Z 8 0)), (1, .int x1), (2, .int x2), (4, .int x4), (5, .int x5)] [] M N (r35 M x1 x2 x4 x5)) (M : Mi) (x1 : Int32) (x2 : Int32) (x4 : Int32) (x5 : Int32)  : GT Z E 7 (finX4_read N) 118 [(0, .ref (zA Z 8 0)), (1, .int x1), (2, .int x2), (4, .int x4), (5, .int x5)] [] M N (fX4_read_118 N r35 M x1 x2 x4 x5) := by
  unfold fX4_read_118
  refine r_iinc (v := (x5 + 1)) (lv' := [(5, .int (x5 + 1)), (0, .ref (zA Z 8 0)), (1, .int x1), (2, .int x2), (4, .int x4)]) C dX4_read_118 4 rfl rfl (by decide) rfl ?_
  refine r_goto (tgt := 35) C dX4_read_121 (by decide) ?_
  refine r_lv [1, 2, 3, 4, 0] (lv' := [(0, .ref (zA Z 8 0)), (1, .int x1), (2, .int x2), (4, .int x4), (5, .int (x5 + 1))]) rfl ?_
  exact hr35 M x1 x2 x4 (x5 + 1)
noncomputable def fX4_read_35 (N : Ml)  : Nat → Mi → Int32 → Int32 → Int32 → Int32 → Option (Int32 × Mi)
  | 0 => fun _ _ _ _ _ => none
  | n + 1 => fun M x1 x2 x4 x5 => (if 6 ≤ x5 then (some (x4, M)) else (fX4_read_45 N (fX4_read_118 N (fX4_read_35 N n)) fu M x1 x2 x4 x5 0))
theorem bX4_read_35 {Z : Zt} {E : Ec} {N : Ml} (C : Ok 1 Z E cX4_read 7 RX4 (some .int) 5)    : ∀ (n : Nat) (M : Mi) (x1 : Int32) (x2 : Int32) (x4 : Int32) (x5 : Int32), GT Z E 7 (finX4_read N) 35 [(0, .ref (zA Z 8 0)), (1, .int x1), (2, .int x2), (4, .int x4), (5, .int x5)] [] M N (fX4_read_35 N n M x1 x2 x4 x5) := by
  intro n
  induction n with
  | zero => intro M x1 x2 x4 x5; exact r_none
  | succ n ih =>
    intro M x1 x2 x4 x5
    rw [fX4_read_35]
    refine r_iload C dX4_read_35 4 rfl ?_
    refine r_bipush (v := 6) C dX4_read_37 (by decide) ?_
    refine r_ic_ge (tgt := 124) C dX4_read_39 (by decide) (fun c4 => ?_) (fun c4 => ?_)
    · refine r_iload C dX4_read_124 3 rfl ?_
      exact r_iret C dX4_read_126 rfl
    · refine r_iconst (v := 0) C dX4_read_42 (by decide) ?_
      refine r_istore (lv' := [(6, .int 0), (0, .ref (zA Z 8 0)), (1, .int x1), (2, .int x2), (4, .int x4), (5, .int x5)]) C dX4_read_43 (by decide) rfl ?_
      refine r_lv [1, 2, 3, 4, 5, 0] (lv' := [(0, .ref (zA Z 8 0)), (1, .int x1), (2, .int x2), (4, .int x4), (5, .int x5), (6, .int 0)]) rfl ?_
      exact bX4_read_45 C (fX4_read_118 N (fX4_read_35 N n)) (bX4_read_118 C (fX4_read_35 N n) ih) fu M x1 x2 x4 x5 0
noncomputable def fX4_read (N : Ml)  (M : Mi) (x1 : Int32) (x2 : Int32) : Option (Int32 × Mi) := (Option.bind (fX4_askOfSheet M x1) (fun a1 => (if a1.1 = 0 then (if (fX0_has ((a1.2) 0) x2) = 0 then (Option.bind (fX4_finding (a1.2) 0) (fun a12 => (some (a12.1, (a12.2))))) else (fX4_read_35 N fu (a1.2) x1 x2 0 0)) else (some (a1.1, (a1.2))))))
theorem bX4_read {Z : Zt} {E : Ec} {N : Ml} (C : Ok 1 Z E cX4_read 7 RX4 (some .int) 5)    (M : Mi) (x1 : Int32) (x2 : Int32)  : GT Z E 7 (finX4_read N) 0 [(0, .ref (zA Z 8 0)), (1, .int x1), (2, .int x2)] [] M N (fX4_read N M x1 x2) := by
  unfold fX4_read
  refine r_aload_n C dX4_read_0 0 0 rfl rfl ?_
  refine r_iload_n C dX4_read_1 1 1 rfl rfl ?_
  refine r_bind (fun a1 ha1 => ?_)
  refine r_callV (rest := []) (st2 := [.int a1.1]) C (mX4_askOfSheet (eL E) C.z M N x1 a1 ha1) lk_X4_235 (rvX C) (by decide) rfl rfl (Nat.le_of_ble_eq_true rfl) dX4_read_2 rfl ?_
  refine r_istore_n (lv' := [(3, .int a1.1), (0, .ref (zA Z 8 0)), (1, .int x1), (2, .int x2)]) C dX4_read_5 3 rfl (by decide) rfl ?_
  refine r_iload_n C dX4_read_6 3 0 rfl rfl ?_
  refine r_if_eq (tgt := 12) C dX4_read_7 (by decide) (fun c2 => ?_) (fun c2 => ?_)
  · refine r_aload_n C dX4_read_12 0 1 rfl rfl ?_
    refine gf_X4_12 C dX4_read_13 ?_
    refine r_iload_n C dX4_read_16 2 3 rfl rfl ?_
    refine r_callV (rest := []) (st2 := [.int (fX0_has ((a1.2) 0) x2)]) C (mX0_has (eL E) C.z (by decide) (a1.2) _ ((a1.2) 0) x2).selfR lk_X4_101 (rvI C (by decide)) (by decide) rfl rfl (Nat.le_of_ble_eq_true rfl) dX4_read_17 rfl ?_
    refine r_if_ne (tgt := 29) C dX4_read_20 (by decide) (fun c3 => ?_) (fun c3 => ?_)
    · refine r_iconst (v := 0) C dX4_read_29 (by decide) ?_
      refine r_istore (lv' := [(4, .int 0), (3, .int a1.1), (0, .ref (zA Z 8 0)), (1, .int x1), (2, .int x2)]) C dX4_read_30 (by decide) rfl ?_
      refine r_iconst (v := 0) C dX4_read_32 (by decide) ?_
      refine r_istore (lv' := [(5, .int 0), (4, .int 0), (3, .int a1.1), (0, .ref (zA Z 8 0)), (1, .int x1), (2, .int x2)]) C dX4_read_33 (by decide) rfl ?_
      refine r_lv [3, 4, 5, 1, 0] (lv' := [(0, .ref (zA Z 8 0)), (1, .int x1), (2, .int x2), (4, .int 0), (5, .int 0)]) rfl ?_
      exact bX4_read_35 C fu (a1.2) x1 x2 0 0
    · refine r_aload_n C dX4_read_23 0 1 rfl rfl ?_
      refine r_iconst (v := 0) C dX4_read_24 (by decide) ?_
      refine r_bind (fun a12 ha12 => ?_)
      refine r_callV (rest := []) (st2 := [.int a12.1]) C (mX4_finding (eL E) C.z (a1.2) N 0 a12 ha12) lk_X4_58 (rvX C) (by decide) rfl rfl (Nat.le_of_ble_eq_true rfl) dX4_read_25 rfl ?_
      exact r_iret C dX4_read_28 rfl
  · refine r_iload_n C dX4_read_10 3 0 rfl rfl ?_
    exact r_iret C dX4_read_11 rfl
theorem mX4_read (l : Launch) {Z : Zt} (hZ : Zok 1 Z) (M : Mi) (N : Ml) (x1 : Int32) (x2 : Int32) (b : Int32 × Mi) (hb : fX4_read N M x1 x2 = some b) : Ct 1 Z l yX4_read cX4_read 7 (some .int) 5 [.ref (zA Z 8 0), .int x1, .int x2] M N (some (Value.int b.1), b.2, N) :=
  metG (fin := (finX4_read N)) (by decide) (Nat.le_of_ble_eq_true rfl) (fun E _ C => bX4_read C M x1 x2) hb
