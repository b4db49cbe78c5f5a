theorem dX5_both_0 : decode cX5_both 0 = .ok (.aload_n 0, 1) := by decide +kernel
theorem dX5_both_1 : decode cX5_both 1 = .ok (.iload_n 1, 1) := by decide +kernel
theorem dX5_both_2 : decode cX5_both 2 = .ok (.iload_n 2, 1) := by decide +kernel
theorem dX5_both_3 : decode cX5_both 3 = .ok (.invokevirtual 201, 3) := by decide +kernel
theorem dX5_both_6 : decode cX5_both 6 = .ok (.istore 4, 2) := by decide +kernel
theorem dX5_both_8 : decode cX5_both 8 = .ok (.iload 4, 2) := by decide +kernel
theorem dX5_both_10 : decode cX5_both 10 = .ok (.ldc 41, 2) := by decide +kernel
theorem dX5_both_12 : decode cX5_both 12 = .ok (.if_icmp .eq 15, 3) := by decide +kernel
theorem dX5_both_15 : decode cX5_both 15 = .ok (.iload_n 3, 1) := by decide +kernel
theorem dX5_both_16 : decode cX5_both 16 = .ok (.invokestatic 133, 3) := by decide +kernel
theorem dX5_both_19 : decode cX5_both 19 = .ok (.ifCond .eq 8, 3) := by decide +kernel
theorem dX5_both_22 : decode cX5_both 22 = .ok (.iload_n 2, 1) := by decide +kernel
theorem dX5_both_23 : decode cX5_both 23 = .ok (.iload_n 3, 1) := by decide +kernel
theorem dX5_both_24 : decode cX5_both 24 = .ok (.if_icmp .ne 10, 3) := by decide +kernel
theorem dX5_both_27 : decode cX5_both 27 = .ok (.aload_n 0, 1) := by decide +kernel
theorem dX5_both_28 : decode cX5_both 28 = .ok (.ldc 41, 2) := by decide +kernel
theorem dX5_both_30 : decode cX5_both 30 = .ok (.invokevirtual 65, 3) := by decide +kernel
theorem dX5_both_33 : decode cX5_both 33 = .ok (.ireturn, 1) := by decide +kernel
theorem dX5_both_34 : decode cX5_both 34 = .ok (.iload 4, 2) := by decide +kernel
theorem dX5_both_36 : decode cX5_both 36 = .ok (.ifCond .eq 10, 3) := by decide +kernel
theorem dX5_both_39 : decode cX5_both 39 = .ok (.aload_n 0, 1) := by decide +kernel
theorem dX5_both_40 : decode cX5_both 40 = .ok (.iload 4, 2) := by decide +kernel
theorem dX5_both_42 : decode cX5_both 42 = .ok (.invokevirtual 65, 3) := by decide +kernel
theorem dX5_both_45 : decode cX5_both 45 = .ok (.ireturn, 1) := by decide +kernel
theorem dX5_both_46 : decode cX5_both 46 = .ok (.aload_n 0, 1) := by decide +kernel
theorem dX5_both_47 : decode cX5_both 47 = .ok (.invokevirtual 172, 3) := by decide +kernel
theorem dX5_both_50 : decode cX5_both 50 = .ok (.iconst 1, 1) := by decide +kernel
theorem dX5_both_51 : decode cX5_both 51 = .ok (.iload_n 1, 1) := by decide +kernel
theorem dX5_both_52 : decode cX5_both 52 = .ok (.ishl, 1) := by decide +kernel
theorem dX5_both_53 : decode cX5_both 53 = .ok (.istore 5, 2) := by decide +kernel
theorem dX5_both_55 : decode cX5_both 55 = .ok (.iconst 0, 1) := by decide +kernel
theorem dX5_both_56 : decode cX5_both 56 = .ok (.istore 6, 2) := by decide +kernel
theorem dX5_both_58 : decode cX5_both 58 = .ok (.iconst 0, 1) := by decide +kernel
theorem dX5_both_59 : decode cX5_both 59 = .ok (.istore 7, 2) := by decide +kernel
theorem dX5_both_61 : decode cX5_both 61 = .ok (.iconst (-1), 1) := by decide +kernel
theorem dX5_both_62 : decode cX5_both 62 = .ok (.istore 8, 2) := by decide +kernel
theorem dX5_both_64 : decode cX5_both 64 = .ok (.iconst 0, 1) := by decide +kernel
theorem dX5_both_65 : decode cX5_both 65 = .ok (.istore 9, 2) := by decide +kernel
theorem dX5_both_67 : decode cX5_both 67 = .ok (.iload 9, 2) := by decide +kernel
theorem dX5_both_69 : decode cX5_both 69 = .ok (.bipush 48, 2) := by decide +kernel
theorem dX5_both_71 : decode cX5_both 71 = .ok (.if_icmp .gt 96, 3) := by decide +kernel
theorem dX5_both_74 : decode cX5_both 74 = .ok (.iload 8, 2) := by decide +kernel
theorem dX5_both_76 : decode cX5_both 76 = .ok (.ifCond .ge 91, 3) := by decide +kernel
theorem dX5_both_79 : decode cX5_both 79 = .ok (.iload 6, 2) := by decide +kernel
theorem dX5_both_81 : decode cX5_both 81 = .ok (.iload 5, 2) := by decide +kernel
theorem dX5_both_83 : decode cX5_both 83 = .ok (.aload_n 0, 1) := by decide +kernel
theorem dX5_both_84 : decode cX5_both 84 = .ok (.iload_n 2, 1) := by decide +kernel
theorem dX5_both_85 : decode cX5_both 85 = .ok (.invokevirtual 191, 3) := by decide +kernel
theorem dX5_both_88 : decode cX5_both 88 = .ok (.iand, 1) := by decide +kernel
theorem dX5_both_89 : decode cX5_both 89 = .ok (.ior, 1) := by decide +kernel
theorem dX5_both_90 : decode cX5_both 90 = .ok (.istore 6, 2) := by decide +kernel
theorem dX5_both_92 : decode cX5_both 92 = .ok (.iload 7, 2) := by decide +kernel
theorem dX5_both_94 : decode cX5_both 94 = .ok (.iload 5, 2) := by decide +kernel
theorem dX5_both_96 : decode cX5_both 96 = .ok (.aload_n 0, 1) := by decide +kernel
theorem dX5_both_97 : decode cX5_both 97 = .ok (.iload_n 3, 1) := by decide +kernel
theorem dX5_both_98 : decode cX5_both 98 = .ok (.invokevirtual 191, 3) := by decide +kernel
theorem dX5_both_101 : decode cX5_both 101 = .ok (.iand, 1) := by decide +kernel
theorem dX5_both_102 : decode cX5_both 102 = .ok (.ior, 1) := by decide +kernel
theorem dX5_both_103 : decode cX5_both 103 = .ok (.istore 7, 2) := by decide +kernel
theorem dX5_both_105 : decode cX5_both 105 = .ok (.iload 6, 2) := by decide +kernel
theorem dX5_both_107 : decode cX5_both 107 = .ok (.aload_n 0, 1) := by decide +kernel
theorem dX5_both_108 : decode cX5_both 108 = .ok (.iload_n 3, 1) := by decide +kernel
theorem dX5_both_109 : decode cX5_both 109 = .ok (.invokevirtual 191, 3) := by decide +kernel
theorem dX5_both_112 : decode cX5_both 112 = .ok (.iand, 1) := by decide +kernel
theorem dX5_both_113 : decode cX5_both 113 = .ok (.iload 7, 2) := by decide +kernel
theorem dX5_both_115 : decode cX5_both 115 = .ok (.aload_n 0, 1) := by decide +kernel
theorem dX5_both_116 : decode cX5_both 116 = .ok (.iload_n 2, 1) := by decide +kernel
theorem dX5_both_117 : decode cX5_both 117 = .ok (.invokevirtual 191, 3) := by decide +kernel
theorem dX5_both_120 : decode cX5_both 120 = .ok (.iand, 1) := by decide +kernel
theorem dX5_both_121 : decode cX5_both 121 = .ok (.ior, 1) := by decide +kernel
theorem dX5_both_122 : decode cX5_both 122 = .ok (.ifCond .eq 8, 3) := by decide +kernel
theorem dX5_both_125 : decode cX5_both 125 = .ok (.iload 9, 2) := by decide +kernel
theorem dX5_both_127 : decode cX5_both 127 = .ok (.goto 4, 3) := by decide +kernel
theorem dX5_both_130 : decode cX5_both 130 = .ok (.iconst (-1), 1) := by decide +kernel
theorem dX5_both_131 : decode cX5_both 131 = .ok (.istore 8, 2) := by decide +kernel
theorem dX5_both_133 : decode cX5_both 133 = .ok (.aload_n 0, 1) := by decide +kernel
theorem dX5_both_134 : decode cX5_both 134 = .ok (.iload 5, 2) := by decide +kernel
theorem dX5_both_136 : decode cX5_both 136 = .ok (.invokevirtual 198, 3) := by decide +kernel
theorem dX5_both_139 : decode cX5_both 139 = .ok (.istore 5, 2) := by decide +kernel
theorem dX5_both_141 : decode cX5_both 141 = .ok (.aload_n 0, 1) := by decide +kernel
theorem dX5_both_142 : decode cX5_both 142 = .ok (.iload 6, 2) := by decide +kernel
theorem dX5_both_144 : decode cX5_both 144 = .ok (.invokevirtual 198, 3) := by decide +kernel
theorem dX5_both_147 : decode cX5_both 147 = .ok (.istore 6, 2) := by decide +kernel
theorem dX5_both_149 : decode cX5_both 149 = .ok (.aload_n 0, 1) := by decide +kernel
theorem dX5_both_150 : decode cX5_both 150 = .ok (.iload 7, 2) := by decide +kernel
theorem dX5_both_152 : decode cX5_both 152 = .ok (.invokevirtual 198, 3) := by decide +kernel
theorem dX5_both_155 : decode cX5_both 155 = .ok (.istore 7, 2) := by decide +kernel
theorem dX5_both_157 : decode cX5_both 157 = .ok (.aload_n 0, 1) := by decide +kernel
theorem dX5_both_158 : decode cX5_both 158 = .ok (.invokevirtual 155, 3) := by decide +kernel
theorem dX5_both_161 : decode cX5_both 161 = .ok (.iinc 9 1, 3) := by decide +kernel
theorem dX5_both_164 : decode cX5_both 164 = .ok (.goto (-97), 3) := by decide +kernel
theorem dX5_both_167 : decode cX5_both 167 = .ok (.aload_n 0, 1) := by decide +kernel
theorem dX5_both_168 : decode cX5_both 168 = .ok (.aload_n 0, 1) := by decide +kernel
theorem dX5_both_169 : decode cX5_both 169 = .ok (.iload 8, 2) := by decide +kernel
theorem dX5_both_171 : decode cX5_both 171 = .ok (.invokevirtual 175, 3) := by decide +kernel
theorem dX5_both_174 : decode cX5_both 174 = .ok (.bipush 48, 2) := by decide +kernel
theorem dX5_both_176 : decode cX5_both 176 = .ok (.invokevirtual 181, 3) := by decide +kernel
theorem dX5_both_179 : decode cX5_both 179 = .ok (.ireturn, 1) := by decide +kernel
def finX5_both (N : Ml) : Int32 × Mi → Option Value × Mi × Ml := fun b => (some (Value.int b.1), b.2, N)
noncomputable def fX5_both_27   (M : Mi) : Option (Int32 × Mi) := (Option.bind (fX5_finds M (-1000000001)) (fun a2 => (some (a2.1, (a2.2)))))
theorem bX5_both_27 {Z : Zt} {E : Ec} {N : Ml} (C : Ok 2 Z E cX5_both 10 RX5 (some .int) 5)    (M : Mi)  : GT Z E 10 (finX5_both N) 27 [(0, .ref (zA Z 6 0))] [] M N (fX5_both_27 M) := by
  unfold fX5_both_27
  refine r_aload_n C dX5_both_27 0 0 rfl rfl ?_
  refine r_ldc (v := (-1000000001)) C dX5_both_28 wd_859 ?_
  refine r_bind (fun a2 ha2 => ?_)
  refine r_callV (rest := []) (st2 := [.int a2.1]) C (mX5_finds (eL E) C.z M N (-1000000001) a2 ha2) lk_X5_65 (rvM C) (by decide) rfl rfl (Nat.le_of_ble_eq_true rfl) dX5_both_30 rfl ?_
  exact r_iret C dX5_both_33 rfl
noncomputable def fX5_both_167   (M : Mi) (x8 : Int32) : Option (Int32 × Mi) := (Option.bind (fX5_takesBack M x8) (fun a8 => (Option.bind (fX5_orNone (a8.2) a8.1 48) (fun a9 => (some (a9.1, (a9.2)))))))
theorem bX5_both_167 {Z : Zt} {E : Ec} {N : Ml} (C : Ok 2 Z E cX5_both 10 RX5 (some .int) 5)    (M : Mi) (x8 : Int32)  : GT Z E 10 (finX5_both N) 167 [(0, .ref (zA Z 6 0)), (8, .int x8)] [] M N (fX5_both_167 M x8) := by
  unfold fX5_both_167
  refine r_aload_n C dX5_both_167 0 0 rfl rfl ?_
  refine r_aload_n C dX5_both_168 0 0 rfl rfl ?_
  refine r_iload C dX5_both_169 1 rfl ?_
  refine r_bind (fun a8 ha8 => ?_)
  refine r_callV (rest := [.ref (zA Z 6 0)]) (st2 := [.int a8.1, .ref (zA Z 6 0)]) C (mX5_takesBack (eL E) C.z M N x8 a8 ha8) lk_X5_175 (rvM C) (by decide) rfl rfl (Nat.le_of_ble_eq_true rfl) dX5_both_171 rfl ?_
  refine r_bipush (v := 48) C dX5_both_174 (by decide) ?_
  refine r_bind (fun a9 ha9 => ?_)
  refine r_callV (rest := []) (st2 := [.int a9.1]) C (mX5_orNone (eL E) C.z (a8.2) N a8.1 48 a9 ha9) lk_X5_181 (rvM C) (by decide) rfl rfl (Nat.le_of_ble_eq_true rfl) dX5_both_176 rfl ?_
  exact r_iret C dX5_both_179 rfl
noncomputable def fX5_both_131  (r67 : Mi → Int32 → Int32 → Int32 → Int32 → Int32 → Int32 → Int32 → Option (Int32 × Mi)) (M : Mi) (x2 : Int32) (x3 : Int32) (x5 : Int32) (x6 : Int32) (x7 : Int32) (x9 : Int32) (s0 : Int32) : Option (Int32 × Mi) := (Option.bind (fX5_spread (M 0) x5) (fun a17 => (Option.bind (fX5_spread (M 0) x6) (fun a18 => (Option.bind (fX5_spread (M 0) x7) (fun a19 => (Option.bind (fX5_hour (M 0)) (fun a20 => (r67 (sR M 0 a20) x2 x3 a17 a18 a19 s0 (x9 + 1))))))))))
theorem bX5_both_131 {Z : Zt} {E : Ec} {N : Ml} (C : Ok 2 Z E cX5_both 10 RX5 (some .int) 5)  (r67 : Mi → Int32 → Int32 → Int32 → Int32 → Int32 → Int32 → Int32 → Option (Int32 × Mi)) (hr67 : ∀ (M : Mi) (x2 : Int32) (x3 : Int32) (x5 : Int32) (x6 : Int32) (x7 : Int32) (x8 : Int32) (x9 : Int32), GT Z E 10 (finX5_both N) 67 [(0, .ref (zA Z 6 0)), (2, .int x2), (3, .int x3), (5, .int x5), (6, .int x6), (7, .int x7), (8, .int x8), (9, .int x9)] [] M N (r67 M x2 x3 x5 x6 x7 x8 x9)) (M : Mi) (x2 : Int32) (x3 : Int32) (x5 : Int32) (x6 : Int32) (x7 : Int32) (x9 : Int32) (s0 : Int32)  : GT Z E 10 (finX5_both N) 131 [(0, .ref (zA Z 6 0)), (2, .int x2), (3, .int x3), (5, .int x5), (6, .int x6), (7, .int x7), (9, .int x9)] [.int s0] M N (fX5_both_131 r67 M x2 x3 x5 x6 x7 x9 s0) := by
  unfold fX5_both_131
  refine r_istore (lv' := [(8, .int s0), (0, .ref (zA Z 6 0)), (2, .int x2), (3, .int x3), (5, .int x5), (6, .int x6), (7, .int x7), (9, .int x9)]) C dX5_both_131 (by decide) rfl ?_
  refine r_aload_n C dX5_both_133 0 1 rfl rfl ?_
  refine r_iload C dX5_both_134 4 rfl ?_
  refine r_bind (fun a17 ha17 => ?_)
  refine r_callV (rest := []) (st2 := [.int a17]) C (mX5_spread (eL E) C.z M _ (M 0) x5 a17 ha17).selfR lk_X5_198 (rvM C) (by decide) rfl rfl (Nat.le_of_ble_eq_true rfl) dX5_both_136 rfl ?_
  refine r_istore (lv' := [(5, .int a17), (8, .int s0), (0, .ref (zA Z 6 0)), (2, .int x2), (3, .int x3), (6, .int x6), (7, .int x7), (9, .int x9)]) C dX5_both_139 (by decide) rfl ?_
  refine r_aload_n C dX5_both_141 0 2 rfl rfl ?_
  refine r_iload C dX5_both_142 5 rfl ?_
  refine r_bind (fun a18 ha18 => ?_)
  refine r_callV (rest := []) (st2 := [.int a18]) C (mX5_spread (eL E) C.z M _ (M 0) x6 a18 ha18).selfR lk_X5_198 (rvM C) (by decide) rfl rfl (Nat.le_of_ble_eq_true rfl) dX5_both_144 rfl ?_
  refine r_istore (lv' := [(6, .int a18), (5, .int a17), (8, .int s0), (0, .ref (zA Z 6 0)), (2, .int x2), (3, .int x3), (7, .int x7), (9, .int x9)]) C dX5_both_147 (by decide) rfl ?_
  refine r_aload_n C dX5_both_149 0 3 rfl rfl ?_
  refine r_iload C dX5_both_150 6 rfl ?_
  refine r_bind (fun a19 ha19 => ?_)
  refine r_callV (rest := []) (st2 := [.int a19]) C (mX5_spread (eL E) C.z M _ (M 0) x7 a19 ha19).selfR lk_X5_198 (rvM C) (by decide) rfl rfl (Nat.le_of_ble_eq_true rfl) dX5_both_152 rfl ?_
  refine r_istore (lv' := [(7, .int a19), (6, .int a18), (5, .int a17), (8, .int s0), (0, .ref (zA Z 6 0)), (2, .int x2), (3, .int x3), (9, .int x9)]) C dX5_both_155 (by decide) rfl ?_
  refine r_aload_n C dX5_both_157 0 4 rfl rfl ?_
  refine r_bind (fun a20 ha20 => ?_)
  refine r_callV (rest := []) (st2 := []) C (mX5_hour (eL E) C.z M _ (M 0) a20 ha20).selfW lk_X5_155 (rvM C) (by decide) rfl rfl (Nat.le_of_ble_eq_true rfl) dX5_both_158 rfl ?_
  refine r_iinc (v := (x9 + 1)) (lv' := [(9, .int (x9 + 1)), (7, .int a19), (6, .int a18), (5, .int a17), (8, .int s0), (0, .ref (zA Z 6 0)), (2, .int x2), (3, .int x3)]) C dX5_both_161 7 rfl rfl (by decide) rfl ?_
  refine r_goto (tgt := 67) C dX5_both_164 (by decide) ?_
  refine r_lv [5, 6, 7, 3, 2, 1, 4, 0] (lv' := [(0, .ref (zA Z 6 0)), (2, .int x2), (3, .int x3), (5, .int a17), (6, .int a18), (7, .int a19), (8, .int s0), (9, .int (x9 + 1))]) rfl ?_
  exact hr67 (sR M 0 a20) x2 x3 a17 a18 a19 s0 (x9 + 1)
noncomputable def fX5_both_67   : Nat → Mi → Int32 → Int32 → Int32 → Int32 → Int32 → Int32 → Int32 → Option (Int32 × Mi)
  | 0 => fun _ _ _ _ _ _ _ _ => none
  | n + 1 => fun M x2 x3 x5 x6 x7 x8 x9 => (if 48 < x9 then (fX5_both_167 M x8) else (if 0 ≤ x8 then (fX5_both_167 M x8) else (Option.bind (fX5_places (M 0) x2) (fun a11 => (Option.bind (fX5_places (M 0) x3) (fun a12 => (Option.bind (fX5_places (M 0) x3) (fun a13 => (Option.bind (fX5_places (M 0) x2) (fun a14 => (fX5_both_131 (fX5_both_67 n) M x2 x3 x5 (x6 ||| (x5 &&& a11)) (x7 ||| (x5 &&& a12)) x9 (if (((x6 ||| (x5 &&& a11)) &&& a13) ||| ((x7 ||| (x5 &&& a12)) &&& a14)) = 0 then (-1) else x9 : Int32))))))))))))
theorem bX5_both_67 {Z : Zt} {E : Ec} {N : Ml} (C : Ok 2 Z E cX5_both 10 RX5 (some .int) 5)    : ∀ (n : Nat) (M : Mi) (x2 : Int32) (x3 : Int32) (x5 : Int32) (x6 : Int32) (x7 : Int32) (x8 : Int32) (x9 : Int32), GT Z E 10 (finX5_both N) 67 [(0, .ref (zA Z 6 0)), (2, .int x2), (3, .int x3), (5, .int x5), (6, .int x6), (7, .int x7), (8, .int x8), (9, .int x9)] [] M N (fX5_both_67 n M x2 x3 x5 x6 x7 x8 x9) := by
  intro n
  induction n with
  | zero => intro M x2 x3 x5 x6 x7 x8 x9; exact r_none
  | succ n ih =>
    intro M x2 x3 x5 x6 x7 x8 x9
    rw [fX5_both_67]
    refine r_iload C dX5_both_67 7 rfl ?_
    refine r_bipush (v := 48) C dX5_both_69 (by decide) ?_
    refine r_ic_gt (tgt := 167) C dX5_both_71 (by decide) (fun c7 => ?_) (fun c7 => ?_)
    · refine r_lv [0, 6] (lv' := [(0, .ref (zA Z 6 0)), (8, .int x8)]) rfl ?_
      exact bX5_both_167 C M x8
    · refine r_iload C dX5_both_74 6 rfl ?_
      refine r_if_ge (tgt := 167) C dX5_both_76 (by decide) (fun c10 => ?_) (fun c10 => ?_)
      · refine r_lv [0, 6] (lv' := [(0, .ref (zA Z 6 0)), (8, .int x8)]) rfl ?_
        exact bX5_both_167 C M x8
      · refine r_iload C dX5_both_79 4 rfl ?_
        refine r_iload C dX5_both_81 3 rfl ?_
        refine r_aload_n C dX5_both_83 0 0 rfl rfl ?_
        refine r_iload_n C dX5_both_84 2 1 rfl rfl ?_
        refine r_bind (fun a11 ha11 => ?_)
        refine r_callV (rest := [.int x5, .int x6]) (st2 := [.int a11, .int x5, .int x6]) C (mX5_places (eL E) C.z M _ (M 0) x2 a11 ha11).selfR lk_X5_191 (rvM C) (by decide) rfl rfl (Nat.le_of_ble_eq_true rfl) dX5_both_85 rfl ?_
        refine r_iand C dX5_both_88 ?_
        refine r_ior C dX5_both_89 ?_
        refine r_istore (lv' := [(6, .int (x6 ||| (x5 &&& a11))), (0, .ref (zA Z 6 0)), (2, .int x2), (3, .int x3), (5, .int x5), (7, .int x7), (8, .int x8), (9, .int x9)]) C dX5_both_90 (by decide) rfl ?_
        refine r_iload C dX5_both_92 5 rfl ?_
        refine r_iload C dX5_both_94 4 rfl ?_
        refine r_aload_n C dX5_both_96 0 1 rfl rfl ?_
        refine r_iload_n C dX5_both_97 3 3 rfl rfl ?_
        refine r_bind (fun a12 ha12 => ?_)
        refine r_callV (rest := [.int x5, .int x7]) (st2 := [.int a12, .int x5, .int x7]) C (mX5_places (eL E) C.z M _ (M 0) x3 a12 ha12).selfR lk_X5_191 (rvM C) (by decide) rfl rfl (Nat.le_of_ble_eq_true rfl) dX5_both_98 rfl ?_
        refine r_iand C dX5_both_101 ?_
        refine r_ior C dX5_both_102 ?_
        refine r_istore (lv' := [(7, .int (x7 ||| (x5 &&& a12))), (6, .int (x6 ||| (x5 &&& a11))), (0, .ref (zA Z 6 0)), (2, .int x2), (3, .int x3), (5, .int x5), (8, .int x8), (9, .int x9)]) C dX5_both_103 (by decide) rfl ?_
        refine r_iload C dX5_both_105 1 rfl ?_
        refine r_aload_n C dX5_both_107 0 2 rfl rfl ?_
        refine r_iload_n C dX5_both_108 3 4 rfl rfl ?_
        refine r_bind (fun a13 ha13 => ?_)
        refine r_callV (rest := [.int (x6 ||| (x5 &&& a11))]) (st2 := [.int a13, .int (x6 ||| (x5 &&& a11))]) C (mX5_places (eL E) C.z M _ (M 0) x3 a13 ha13).selfR lk_X5_191 (rvM C) (by decide) rfl rfl (Nat.le_of_ble_eq_true rfl) dX5_both_109 rfl ?_
        refine r_iand C dX5_both_112 ?_
        refine r_iload C dX5_both_113 0 rfl ?_
        refine r_aload_n C dX5_both_115 0 2 rfl rfl ?_
        refine r_iload_n C dX5_both_116 2 3 rfl rfl ?_
        refine r_bind (fun a14 ha14 => ?_)
        refine r_callV (rest := [.int (x7 ||| (x5 &&& a12)), .int ((x6 ||| (x5 &&& a11)) &&& a13)]) (st2 := [.int a14, .int (x7 ||| (x5 &&& a12)), .int ((x6 ||| (x5 &&& a11)) &&& a13)]) C (mX5_places (eL E) C.z M _ (M 0) x2 a14 ha14).selfR lk_X5_191 (rvM C) (by decide) rfl rfl (Nat.le_of_ble_eq_true rfl) dX5_both_117 rfl ?_
        refine r_iand C dX5_both_120 ?_
        refine r_ior C dX5_both_121 ?_
        refine r_sel (tj := 131) (sj := [.int (if (((x6 ||| (x5 &&& a11)) &&& a13) ||| ((x7 ||| (x5 &&& a12)) &&& a14)) = 0 then (-1) else x9 : Int32)]) ?_ (fun k16 => ?_)
        · refine r_lv [2, 3, 4, 5, 1, 0, 7] (lv' := [(0, .ref (zA Z 6 0)), (2, .int x2), (3, .int x3), (5, .int x5), (6, .int (x6 ||| (x5 &&& a11))), (7, .int (x7 ||| (x5 &&& a12))), (9, .int x9)]) rfl ?_
          exact bX5_both_131 C (fX5_both_67 n) ih M x2 x3 x5 (x6 ||| (x5 &&& a11)) (x7 ||| (x5 &&& a12)) x9 (if (((x6 ||| (x5 &&& a11)) &&& a13) ||| ((x7 ||| (x5 &&& a12)) &&& a14)) = 0 then (-1) else x9 : Int32)
        · refine r_same (P := (((x6 ||| (x5 &&& a11)) &&& a13) ||| ((x7 ||| (x5 &&& a12)) &&& a14)) = 0) ?_
          refine r_if_eq (tgt := 130) C dX5_both_122 (by decide) (fun c15 => ?_) (fun c15 => ?_)
          · refine r_iconst (v := (-1)) C dX5_both_130 (by decide) ?_
            exact r_stk (if_pos c15) k16
          · refine r_iload C dX5_both_125 7 rfl ?_
            refine r_goto (tgt := 131) C dX5_both_127 (by decide) ?_
            exact r_stk (if_neg c15) k16
noncomputable def fX5_both   (M : Mi) (x1 : Int32) (x2 : Int32) (x3 : Int32) : Option (Int32 × Mi) := (if (fX5_wrongReader (M 0) x1 x2) = (-1000000001) then (fX5_both_27 M) else (if (fX5_isSubject x3) = 0 then (fX5_both_27 M) else (if x2 = x3 then (fX5_both_27 M) else (if (fX5_wrongReader (M 0) x1 x2) = 0 then (Option.bind (fX5_laysAside M) (fun a6 => (fX5_both_67 fu a6 x2 x3 (1 <<< (x1 &&& 31)) 0 0 (-1) 0))) else (Option.bind (fX5_finds M (fX5_wrongReader (M 0) x1 x2)) (fun a21 => (some (a21.1, (a21.2)))))))))
theorem bX5_both {Z : Zt} {E : Ec} {N : Ml} (C : Ok 2 Z E cX5_both 10 RX5 (some .int) 5)    (M : Mi) (x1 : Int32) (x2 : Int32) (x3 : Int32)  : GT Z E 10 (finX5_both N) 0 [(0, .ref (zA Z 6 0)), (1, .int x1), (2, .int x2), (3, .int x3)] [] M N (fX5_both M x1 x2 x3) := by
  unfold fX5_both
  refine r_aload_n C dX5_both_0 0 0 rfl rfl ?_
  refine r_iload_n C dX5_both_1 1 1 rfl rfl ?_
  refine r_iload_n C dX5_both_2 2 2 rfl rfl ?_
  refine r_callV (rest := []) (st2 := [.int (fX5_wrongReader (M 0) x1 x2)]) C (mX5_wrongReader (eL E) C.z M _ (M 0) x1 x2).selfR lk_X5_201 (rvM C) (by decide) rfl rfl (Nat.le_of_ble_eq_true rfl) dX5_both_3 rfl ?_
  refine r_istore (lv' := [(4, .int (fX5_wrongReader (M 0) x1 x2)), (0, .ref (zA Z 6 0)), (1, .int x1), (2, .int x2), (3, .int x3)]) C dX5_both_6 (by decide) rfl ?_
  refine r_iload C dX5_both_8 0 rfl ?_
  refine r_ldc (v := (-1000000001)) C dX5_both_10 wd_859 ?_
  refine r_ic_eq (tgt := 27) C dX5_both_12 (by decide) (fun c1 => ?_) (fun c1 => ?_)
  · refine r_lv [1] (lv' := [(0, .ref (zA Z 6 0))]) rfl ?_
    exact bX5_both_27 C M
  · refine r_iload_n C dX5_both_15 3 4 rfl rfl ?_
    refine r_callS (rest := []) (st2 := [.int (fX5_isSubject x3)]) C (mX5_isSubject (eL E) C.z _ _ x3) lk_X5_133 (by decide) rfl rfl (Nat.le_of_ble_eq_true rfl) dX5_both_16 rfl ?_
    refine r_if_eq (tgt := 27) C dX5_both_19 (by decide) (fun c3 => ?_) (fun c3 => ?_)
    · refine r_lv [1] (lv' := [(0, .ref (zA Z 6 0))]) rfl ?_
      exact bX5_both_27 C M
    · refine r_iload_n C dX5_both_22 2 3 rfl rfl ?_
      refine r_iload_n C dX5_both_23 3 4 rfl rfl ?_
      refine r_ic_ne (tgt := 34) C dX5_both_24 (by decide) (fun c4 => ?_) (fun c4 => ?_)
      · refine r_iload C dX5_both_34 0 rfl ?_
        refine r_if_eq (tgt := 46) C dX5_both_36 (by decide) (fun c5 => ?_) (fun c5 => ?_)
        · refine r_aload_n C dX5_both_46 0 1 rfl rfl ?_
          refine r_bind (fun a6 ha6 => ?_)
          refine r_callV (rest := []) (st2 := []) C (mX5_laysAside (eL E) C.z M N a6 ha6) lk_X5_172 (rvM C) (by decide) rfl rfl (Nat.le_of_ble_eq_true rfl) dX5_both_47 rfl ?_
          refine r_iconst (v := 1) C dX5_both_50 (by decide) ?_
          refine r_iload_n C dX5_both_51 1 2 rfl rfl ?_
          refine r_ishl C dX5_both_52 ?_
          refine r_istore (lv' := [(5, .int (1 <<< (x1 &&& 31))), (4, .int (fX5_wrongReader (M 0) x1 x2)), (0, .ref (zA Z 6 0)), (1, .int x1), (2, .int x2), (3, .int x3)]) C dX5_both_53 (by decide) rfl ?_
          refine r_iconst (v := 0) C dX5_both_55 (by decide) ?_
          refine r_istore (lv' := [(6, .int 0), (5, .int (1 <<< (x1 &&& 31))), (4, .int (fX5_wrongReader (M 0) x1 x2)), (0, .ref (zA Z 6 0)), (1, .int x1), (2, .int x2), (3, .int x3)]) C dX5_both_56 (by decide) rfl ?_
          refine r_iconst (v := 0) C dX5_both_58 (by decide) ?_
          refine r_istore (lv' := [(7, .int 0), (6, .int 0), (5, .int (1 <<< (x1 &&& 31))), (4, .int (fX5_wrongReader (M 0) x1 x2)), (0, .ref (zA Z 6 0)), (1, .int x1), (2, .int x2), (3, .int x3)]) C dX5_both_59 (by decide) rfl ?_
          refine r_iconst (v := (-1)) C dX5_both_61 (by decide) ?_
          refine r_istore (lv' := [(8, .int (-1)), (7, .int 0), (6, .int 0), (5, .int (1 <<< (x1 &&& 31))), (4, .int (fX5_wrongReader (M 0) x1 x2)), (0, .ref (zA Z 6 0)), (1, .int x1), (2, .int x2), (3, .int x3)]) C dX5_both_62 (by decide) rfl ?_
          refine r_iconst (v := 0) C dX5_both_64 (by decide) ?_
          refine r_istore (lv' := [(9, .int 0), (8, .int (-1)), (7, .int 0), (6, .int 0), (5, .int (1 <<< (x1 &&& 31))), (4, .int (fX5_wrongReader (M 0) x1 x2)), (0, .ref (zA Z 6 0)), (1, .int x1), (2, .int x2), (3, .int x3)]) C dX5_both_65 (by decide) rfl ?_
          refine r_lv [6, 8, 9, 4, 3, 2, 1, 0] (lv' := [(0, .ref (zA Z 6 0)), (2, .int x2), (3, .int x3), (5, .int (1 <<< (x1 &&& 31))), (6, .int 0), (7, .int 0), (8, .int (-1)), (9, .int 0)]) rfl ?_
          exact bX5_both_67 C fu a6 x2 x3 (1 <<< (x1 &&& 31)) 0 0 (-1) 0
        · refine r_aload_n C dX5_both_39 0 1 rfl rfl ?_
          refine r_iload C dX5_both_40 0 rfl ?_
          refine r_bind (fun a21 ha21 => ?_)
          refine r_callV (rest := []) (st2 := [.int a21.1]) C (mX5_finds (eL E) C.z M N (fX5_wrongReader (M 0) x1 x2) a21 ha21) lk_X5_65 (rvM C) (by decide) rfl rfl (Nat.le_of_ble_eq_true rfl) dX5_both_42 rfl ?_
          exact r_iret C dX5_both_45 rfl
      · refine r_lv [1] (lv' := [(0, .ref (zA Z 6 0))]) rfl ?_
        exact bX5_both_27 C M
theorem mX5_both (l : Launch) {Z : Zt} (hZ : Zok 2 Z) (M : Mi) (N : Ml) (x1 : Int32) (x2 : Int32) (x3 : Int32) (b : Int32 × Mi) (hb : fX5_both M x1 x2 x3 = some b) : Ct 2 Z l yX5_both cX5_both 10 (some .int) 5 [.ref (zA Z 6 0), .int x1, .int x2, .int x3] M N (some (Value.int b.1), b.2, N) :=
  metG (fin := (finX5_both N)) (by decide) (Nat.le_of_ble_eq_true rfl) (fun E _ C => bX5_both C M x1 x2 x3) hb
theorem dX5_censors_0 : decode cX5_censors 0 = .ok (.aload_n 0, 1) := by decide +kernel
theorem dX5_censors_1 : decode cX5_censors 1 = .ok (.iload_n 1, 1) := by decide +kernel
theorem dX5_censors_2 : decode cX5_censors 2 = .ok (.iload_n 2, 1) := by decide +kernel
theorem dX5_censors_3 : decode cX5_censors 3 = .ok (.invokevirtual 201, 3) := by decide +kernel
theorem dX5_censors_6 : decode cX5_censors 6 = .ok (.istore 4, 2) := by decide +kernel
theorem dX5_censors_8 : decode cX5_censors 8 = .ok (.iload 4, 2) := by decide +kernel
theorem dX5_censors_10 : decode cX5_censors 10 = .ok (.ldc 41, 2) := by decide +kernel
theorem dX5_censors_12 : decode cX5_censors 12 = .ok (.if_icmp .eq 15, 3) := by decide +kernel
theorem dX5_censors_15 : decode cX5_censors 15 = .ok (.iload_n 3, 1) := by decide +kernel
theorem dX5_censors_16 : decode cX5_censors 16 = .ok (.invokestatic 62, 3) := by decide +kernel
theorem dX5_censors_19 : decode cX5_censors 19 = .ok (.ifCond .eq 8, 3) := by decide +kernel
theorem dX5_censors_22 : decode cX5_censors 22 = .ok (.iload_n 3, 1) := by decide +kernel
theorem dX5_censors_23 : decode cX5_censors 23 = .ok (.iload_n 1, 1) := by decide +kernel
theorem dX5_censors_24 : decode cX5_censors 24 = .ok (.if_icmp .ne 10, 3) := by decide +kernel
theorem dX5_censors_27 : decode cX5_censors 27 = .ok (.aload_n 0, 1) := by decide +kernel
theorem dX5_censors_28 : decode cX5_censors 28 = .ok (.ldc 41, 2) := by decide +kernel
theorem dX5_censors_30 : decode cX5_censors 30 = .ok (.invokevirtual 65, 3) := by decide +kernel
theorem dX5_censors_33 : decode cX5_censors 33 = .ok (.ireturn, 1) := by decide +kernel
theorem dX5_censors_34 : decode cX5_censors 34 = .ok (.iload 4, 2) := by decide +kernel
theorem dX5_censors_36 : decode cX5_censors 36 = .ok (.ifCond .eq 10, 3) := by decide +kernel
theorem dX5_censors_39 : decode cX5_censors 39 = .ok (.aload_n 0, 1) := by decide +kernel
theorem dX5_censors_40 : decode cX5_censors 40 = .ok (.iload 4, 2) := by decide +kernel
theorem dX5_censors_42 : decode cX5_censors 42 = .ok (.invokevirtual 65, 3) := by decide +kernel
theorem dX5_censors_45 : decode cX5_censors 45 = .ok (.ireturn, 1) := by decide +kernel
theorem dX5_censors_46 : decode cX5_censors 46 = .ok (.aload_n 0, 1) := by decide +kernel
theorem dX5_censors_47 : decode cX5_censors 47 = .ok (.iload_n 1, 1) := by decide +kernel
theorem dX5_censors_48 : decode cX5_censors 48 = .ok (.iload_n 2, 1) := by decide +kernel
theorem dX5_censors_49 : decode cX5_censors 49 = .ok (.invokevirtual 204, 3) := by decide +kernel
theorem dX5_censors_52 : decode cX5_censors 52 = .ok (.istore 5, 2) := by decide +kernel
theorem dX5_censors_54 : decode cX5_censors 54 = .ok (.iload 5, 2) := by decide +kernel
theorem dX5_censors_56 : decode cX5_censors 56 = .ok (.ifCond .ge 10, 3) := by decide +kernel
theorem dX5_censors_59 : decode cX5_censors 59 = .ok (.aload_n 0, 1) := by decide +kernel
theorem dX5_censors_60 : decode cX5_censors 60 = .ok (.ldc 137, 2) := by decide +kernel
theorem dX5_censors_62 : decode cX5_censors 62 = .ok (.invokevirtual 65, 3) := by decide +kernel
theorem dX5_censors_65 : decode cX5_censors 65 = .ok (.ireturn, 1) := by decide +kernel
theorem dX5_censors_66 : decode cX5_censors 66 = .ok (.aload_n 0, 1) := by decide +kernel
theorem dX5_censors_67 : decode cX5_censors 67 = .ok (.getfield 7, 3) := by decide +kernel
theorem dX5_censors_70 : decode cX5_censors 70 = .ok (.iconst 2, 1) := by decide +kernel
theorem dX5_censors_71 : decode cX5_censors 71 = .ok (.iaload, 1) := by decide +kernel
theorem dX5_censors_72 : decode cX5_censors 72 = .ok (.istore 6, 2) := by decide +kernel
theorem dX5_censors_74 : decode cX5_censors 74 = .ok (.aload_n 0, 1) := by decide +kernel
theorem dX5_censors_75 : decode cX5_censors 75 = .ok (.iload_n 3, 1) := by decide +kernel
theorem dX5_censors_76 : decode cX5_censors 76 = .ok (.iconst 1, 1) := by decide +kernel
theorem dX5_censors_77 : decode cX5_censors 77 = .ok (.invokevirtual 72, 3) := by decide +kernel
theorem dX5_censors_80 : decode cX5_censors 80 = .ok (.aload_n 0, 1) := by decide +kernel
theorem dX5_censors_81 : decode cX5_censors 81 = .ok (.iload_n 1, 1) := by decide +kernel
theorem dX5_censors_82 : decode cX5_censors 82 = .ok (.iload_n 2, 1) := by decide +kernel
theorem dX5_censors_83 : decode cX5_censors 83 = .ok (.invokevirtual 204, 3) := by decide +kernel
theorem dX5_censors_86 : decode cX5_censors 86 = .ok (.istore 7, 2) := by decide +kernel
theorem dX5_censors_88 : decode cX5_censors 88 = .ok (.aload_n 0, 1) := by decide +kernel
theorem dX5_censors_89 : decode cX5_censors 89 = .ok (.getfield 7, 3) := by decide +kernel
theorem dX5_censors_92 : decode cX5_censors 92 = .ok (.iconst 2, 1) := by decide +kernel
theorem dX5_censors_93 : decode cX5_censors 93 = .ok (.iload 6, 2) := by decide +kernel
theorem dX5_censors_95 : decode cX5_censors 95 = .ok (.iastore, 1) := by decide +kernel
theorem dX5_censors_96 : decode cX5_censors 96 = .ok (.iload 7, 2) := by decide +kernel
theorem dX5_censors_98 : decode cX5_censors 98 = .ok (.ifCond .ge 8, 3) := by decide +kernel
theorem dX5_censors_101 : decode cX5_censors 101 = .ok (.bipush 99, 2) := by decide +kernel
theorem dX5_censors_103 : decode cX5_censors 103 = .ok (.goto 8, 3) := by decide +kernel
theorem dX5_censors_106 : decode cX5_censors 106 = .ok (.iload 7, 2) := by decide +kernel
theorem dX5_censors_108 : decode cX5_censors 108 = .ok (.iload 5, 2) := by decide +kernel
theorem dX5_censors_110 : decode cX5_censors 110 = .ok (.isub, 1) := by decide +kernel
theorem dX5_censors_111 : decode cX5_censors 111 = .ok (.ireturn, 1) := by decide +kernel
def finX5_censors (N : Ml) : Int32 × Mi → Option Value × Mi × Ml := fun b => (some (Value.int b.1), b.2, N)
noncomputable def fX5_censors_27   (M : Mi) : Option (Int32 × Mi) := (Option.bind (fX5_finds M (-1000000001)) (fun a2 => (some (a2.1, (a2.2)))))
theorem bX5_censors_27 {Z : Zt} {E : Ec} {N : Ml} (C : Ok 2 Z E cX5_censors 8 RX5 (some .int) 6)    (M : Mi)  : GT Z E 8 (finX5_censors N) 27 [(0, .ref (zA Z 6 0))] [] M N (fX5_censors_27 M) := by
  unfold fX5_censors_27
  refine r_aload_n C dX5_censors_27 0 0 rfl rfl ?_
  refine r_ldc (v := (-1000000001)) C dX5_censors_28 wd_859 ?_
  refine r_bind (fun a2 ha2 => ?_)
  refine r_callV (rest := []) (st2 := [.int a2.1]) C (mX5_finds (eL E) C.z M N (-1000000001) a2 ha2) lk_X5_65 (rvM C) (by decide) rfl rfl (Nat.le_of_ble_eq_true rfl) dX5_censors_30 rfl ?_
  exact r_iret C dX5_censors_33 rfl
noncomputable def fX5_censors   (M : Mi) (x1 : Int32) (x2 : Int32) (x3 : Int32) : Option (Int32 × Mi) := (if (fX5_wrongReader (M 0) x1 x2) = (-1000000001) then (fX5_censors_27 M) else (if (fX5_isCell x3) = 0 then (fX5_censors_27 M) else (if x3 = x1 then (fX5_censors_27 M) else (if (fX5_wrongReader (M 0) x1 x2) = 0 then (Option.bind (fX5_soonestOf M x1 x2) (fun a6 => (if 0 ≤ a6.1 then (Option.bind (fX5_fences ((a6.2) 0) x3 1) (fun a8 => (Option.bind (fX5_soonestOf (sR (a6.2) 0 a8) x1 x2) (fun a9 => (if 0 ≤ a9.1 then (some ((a9.1 - a6.1), (wM (a9.2) 0 2 ((a6.2) 0 2)))) else (some (99, (wM (a9.2) 0 2 ((a6.2) 0 2))))))))) else (Option.bind (fX5_finds (a6.2) (-1000000004)) (fun a11 => (some (a11.1, (a11.2)))))))) else (Option.bind (fX5_finds M (fX5_wrongReader (M 0) x1 x2)) (fun a12 => (some (a12.1, (a12.2)))))))))
theorem bX5_censors {Z : Zt} {E : Ec} {N : Ml} (C : Ok 2 Z E cX5_censors 8 RX5 (some .int) 6)    (M : Mi) (x1 : Int32) (x2 : Int32) (x3 : Int32)  : GT Z E 8 (finX5_censors N) 0 [(0, .ref (zA Z 6 0)), (1, .int x1), (2, .int x2), (3, .int x3)] [] M N (fX5_censors M x1 x2 x3) := by
  unfold fX5_censors
  refine r_aload_n C dX5_censors_0 0 0 rfl rfl ?_
  refine r_iload_n C dX5_censors_1 1 1 rfl rfl ?_
  refine r_iload_n C dX5_censors_2 2 2 rfl rfl ?_
  refine r_callV (rest := []) (st2 := [.int (fX5_wrongReader (M 0) x1 x2)]) C (mX5_wrongReader (eL E) C.z M _ (M 0) x1 x2).selfR lk_X5_201 (rvM C) (by decide) rfl rfl (Nat.le_of_ble_eq_true rfl) dX5_censors_3 rfl ?_
  refine r_istore (lv' := [(4, .int (fX5_wrongReader (M 0) x1 x2)), (0, .ref (zA Z 6 0)), (1, .int x1), (2, .int x2), (3, .int x3)]) C dX5_censors_6 (by decide) rfl ?_
  refine r_iload C dX5_censors_8 0 rfl ?_
  refine r_ldc (v := (-1000000001)) C dX5_censors_10 wd_859 ?_
  refine r_ic_eq (tgt := 27) C dX5_censors_12 (by decide) (fun c1 => ?_) (fun c1 => ?_)
  · refine r_lv [1] (lv' := [(0, .ref (zA Z 6 0))]) rfl ?_
    exact bX5_censors_27 C M
  · refine r_iload_n C dX5_censors_15 3 4 rfl rfl ?_
    refine r_callS (rest := []) (st2 := [.int (fX5_isCell x3)]) C (mX5_isCell (eL E) C.z _ _ x3) lk_X5_62 (by decide) rfl rfl (Nat.le_of_ble_eq_true rfl) dX5_censors_16 rfl ?_
    refine r_if_eq (tgt := 27) C dX5_censors_19 (by decide) (fun c3 => ?_) (fun c3 => ?_)
    · refine r_lv [1] (lv' := [(0, .ref (zA Z 6 0))]) rfl ?_
      exact bX5_censors_27 C M
    · refine r_iload_n C dX5_censors_22 3 4 rfl rfl ?_
      refine r_iload_n C dX5_censors_23 1 2 rfl rfl ?_
      refine r_ic_ne (tgt := 34) C dX5_censors_24 (by decide) (fun c4 => ?_) (fun c4 => ?_)
      · refine r_iload C dX5_censors_34 0 rfl ?_
        refine r_if_eq (tgt := 46) C dX5_censors_36 (by decide) (fun c5 => ?_) (fun c5 => ?_)
        · refine r_aload_n C dX5_censors_46 0 1 rfl rfl ?_
          refine r_iload_n C dX5_censors_47 1 2 rfl rfl ?_
          refine r_iload_n C dX5_censors_48 2 3 rfl rfl ?_
          refine r_bind (fun a6 ha6 => ?_)
          refine r_callV (rest := []) (st2 := [.int a6.1]) C (mX5_soonestOf (eL E) C.z M N x1 x2 a6 ha6) lk_X5_204 (rvM C) (by decide) rfl rfl (Nat.le_of_ble_eq_true rfl) dX5_censors_49 rfl ?_
          refine r_istore (lv' := [(5, .int a6.1), (4, .int (fX5_wrongReader (M 0) x1 x2)), (0, .ref (zA Z 6 0)), (1, .int x1), (2, .int x2), (3, .int x3)]) C dX5_censors_52 (by decide) rfl ?_
          refine r_iload C dX5_censors_54 0 rfl ?_
          refine r_if_ge (tgt := 66) C dX5_censors_56 (by decide) (fun c7 => ?_) (fun c7 => ?_)
          · refine r_aload_n C dX5_censors_66 0 2 rfl rfl ?_
            refine gf_X5_7 C dX5_censors_67 ?_
            refine r_iconst (v := 2) C dX5_censors_70 (by decide) ?_
            refine ald_M (v := ((a6.2) 0 2)) C mI_0 (by decide) rfl dX5_censors_71 ?_
            refine r_istore (lv' := [(6, .int ((a6.2) 0 2)), (5, .int a6.1), (4, .int (fX5_wrongReader (M 0) x1 x2)), (0, .ref (zA Z 6 0)), (1, .int x1), (2, .int x2), (3, .int x3)]) C dX5_censors_72 (by decide) rfl ?_
            refine r_aload_n C dX5_censors_74 0 3 rfl rfl ?_
            refine r_iload_n C dX5_censors_75 3 6 rfl rfl ?_
            refine r_iconst (v := 1) C dX5_censors_76 (by decide) ?_
            refine r_bind (fun a8 ha8 => ?_)
            refine r_callV (rest := []) (st2 := []) C (mX5_fences (eL E) C.z (a6.2) _ ((a6.2) 0) x3 1 a8 ha8).selfW lk_X5_72 (rvM C) (by decide) rfl rfl (Nat.le_of_ble_eq_true rfl) dX5_censors_77 rfl ?_
            refine r_aload_n C dX5_censors_80 0 3 rfl rfl ?_
            refine r_iload_n C dX5_censors_81 1 4 rfl rfl ?_
            refine r_iload_n C dX5_censors_82 2 5 rfl rfl ?_
            refine r_bind (fun a9 ha9 => ?_)
            refine r_callV (rest := []) (st2 := [.int a9.1]) C (mX5_soonestOf (eL E) C.z (sR (a6.2) 0 a8) N x1 x2 a9 ha9) lk_X5_204 (rvM C) (by decide) rfl rfl (Nat.le_of_ble_eq_true rfl) dX5_censors_83 rfl ?_
            refine r_istore (lv' := [(7, .int a9.1), (6, .int ((a6.2) 0 2)), (5, .int a6.1), (4, .int (fX5_wrongReader (M 0) x1 x2)), (0, .ref (zA Z 6 0)), (1, .int x1), (2, .int x2), (3, .int x3)]) C dX5_censors_86 (by decide) rfl ?_
            refine r_aload_n C dX5_censors_88 0 4 rfl rfl ?_
            refine gf_X5_7 C dX5_censors_89 ?_
            refine r_iconst (v := 2) C dX5_censors_92 (by decide) ?_
            refine r_iload C dX5_censors_93 1 rfl ?_
            refine ast_M (M' := (wM (a9.2) 0 2 ((a6.2) 0 2))) C mI_0 (by decide) rfl dX5_censors_95 ?_
            refine r_iload C dX5_censors_96 0 rfl ?_
            refine r_if_ge (tgt := 106) C dX5_censors_98 (by decide) (fun c10 => ?_) (fun c10 => ?_)
            · refine r_iload C dX5_censors_106 0 rfl ?_
              refine r_iload C dX5_censors_108 2 rfl ?_
              refine r_isub C dX5_censors_110 ?_
              exact r_iret C dX5_censors_111 rfl
            · refine r_bipush (v := 99) C dX5_censors_101 (by decide) ?_
              refine r_goto (tgt := 111) C dX5_censors_103 (by decide) ?_
              exact r_iret C dX5_censors_111 rfl
          · refine r_aload_n C dX5_censors_59 0 2 rfl rfl ?_
            refine r_ldc (v := (-1000000004)) C dX5_censors_60 wd_981 ?_
            refine r_bind (fun a11 ha11 => ?_)
            refine r_callV (rest := []) (st2 := [.int a11.1]) C (mX5_finds (eL E) C.z (a6.2) N (-1000000004) a11 ha11) lk_X5_65 (rvM C) (by decide) rfl rfl (Nat.le_of_ble_eq_true rfl) dX5_censors_62 rfl ?_
            exact r_iret C dX5_censors_65 rfl
        · refine r_aload_n C dX5_censors_39 0 1 rfl rfl ?_
          refine r_iload C dX5_censors_40 0 rfl ?_
          refine r_bind (fun a12 ha12 => ?_)
          refine r_callV (rest := []) (st2 := [.int a12.1]) C (mX5_finds (eL E) C.z M N (fX5_wrongReader (M 0) x1 x2) a12 ha12) lk_X5_65 (rvM C) (by decide) rfl rfl (Nat.le_of_ble_eq_true rfl) dX5_censors_42 rfl ?_
          exact r_iret C dX5_censors_45 rfl
      · refine r_lv [1] (lv' := [(0, .ref (zA Z 6 0))]) rfl ?_
        exact bX5_censors_27 C M
theorem mX5_censors (l : Launch) {Z : Zt} (hZ : Zok 2 Z) (M : Mi) (N : Ml) (x1 : Int32) (x2 : Int32) (x3 : Int32) (b : Int32 × Mi) (hb : fX5_censors M x1 x2 x3 = some b) : Ct 2 Z l yX5_censors cX5_censors 8 (some .int) 6 [.ref (zA Z 6 0), .int x1, .int x2, .int x3] M N (some (Value.int b.1), b.2, N) :=
  metG (fin := (finX5_censors N)) (by decide) (Nat.le_of_ble_eq_true rfl) (fun E _ C => bX5_censors C M x1 x2 x3) hb
theorem dX5_isSooner_0 : decode cX5_isSooner 0 = .ok (.iload_n 0, 1) := by decide +kernel
theorem dX5_isSooner_1 : decode cX5_isSooner 1 = .ok (.ifCond .lt 16, 3) := by decide +kernel
theorem dX5_isSooner_4 : decode cX5_isSooner 4 = .ok (.iload_n 1, 1) := by decide +kernel
theorem dX5_isSooner_5 : decode cX5_isSooner 5 = .ok (.ifCond .lt 8, 3) := by decide +kernel
theorem dX5_isSooner_8 : decode cX5_isSooner 8 = .ok (.iload_n 0, 1) := by decide +kernel
theorem dX5_isSooner_9 : decode cX5_isSooner 9 = .ok (.iload_n 1, 1) := by decide +kernel
theorem dX5_isSooner_10 : decode cX5_isSooner 10 = .ok (.if_icmp .ge 7, 3) := by decide +kernel
theorem dX5_isSooner_13 : decode cX5_isSooner 13 = .ok (.iconst 1, 1) := by decide +kernel
theorem dX5_isSooner_14 : decode cX5_isSooner 14 = .ok (.goto 4, 3) := by decide +kernel
theorem dX5_isSooner_17 : decode cX5_isSooner 17 = .ok (.iconst 0, 1) := by decide +kernel
theorem dX5_isSooner_18 : decode cX5_isSooner 18 = .ok (.ireturn, 1) := by decide +kernel
def finX5_isSooner (M : Mi) (N : Ml) : Int32 → Option Value × Mi × Ml := fun b => (some (Value.int b), M, N)
noncomputable def fX5_isSooner   (x0 : Int32) (x1 : Int32) : Int32 := (if x0 < 0 then 0 else (if x1 < 0 then 1 else (if x1 ≤ x0 then 0 else 1)))
theorem bX5_isSooner {Z : Zt} {E : Ec} {M : Mi} {N : Ml} (C : Ok 2 Z E cX5_isSooner 2 RX5 (some .boolean) 0)    (x0 : Int32) (x1 : Int32)  : GT Z E 2 (finX5_isSooner M N) 0 [(0, .int x0), (1, .int x1)] [] M N (some (fX5_isSooner x0 x1)) := by
  unfold fX5_isSooner
  refine r_iload_n C dX5_isSooner_0 0 0 rfl rfl ?_
  refine r_st ?_
  refine r_if_lt (tgt := 17) C dX5_isSooner_1 (by decide) (fun c1 => ?_) (fun c1 => ?_)
  · refine r_iconst (v := 0) C dX5_isSooner_17 (by decide) ?_
    exact r_zret C dX5_isSooner_18 (Or.inl rfl) rfl
  · refine r_iload_n C dX5_isSooner_4 1 1 rfl rfl ?_
    refine r_st ?_
    refine r_if_lt (tgt := 13) C dX5_isSooner_5 (by decide) (fun c2 => ?_) (fun c2 => ?_)
    · refine r_iconst (v := 1) C dX5_isSooner_13 (by decide) ?_
      refine r_goto (tgt := 18) C dX5_isSooner_14 (by decide) ?_
      exact r_zret C dX5_isSooner_18 (Or.inr rfl) rfl
    · refine r_iload_n C dX5_isSooner_8 0 0 rfl rfl ?_
      refine r_iload_n C dX5_isSooner_9 1 1 rfl rfl ?_
      refine r_st ?_
      refine r_ic_ge (tgt := 17) C dX5_isSooner_10 (by decide) (fun c3 => ?_) (fun c3 => ?_)
      · refine r_iconst (v := 0) C dX5_isSooner_17 (by decide) ?_
        exact r_zret C dX5_isSooner_18 (Or.inl rfl) rfl
      · refine r_iconst (v := 1) C dX5_isSooner_13 (by decide) ?_
        refine r_goto (tgt := 18) C dX5_isSooner_14 (by decide) ?_
        exact r_zret C dX5_isSooner_18 (Or.inr rfl) rfl
theorem zbX5_isSooner (x0 : Int32) (x1 : Int32) : fX5_isSooner x0 x1 = 0 ∨ fX5_isSooner x0 x1 = 1 := by
  unfold fX5_isSooner; (repeat' split) <;> first | exact Or.inl rfl | exact Or.inr rfl
theorem mX5_isSooner (l : Launch) {Z : Zt} (hZ : Zok 2 Z) (M : Mi) (N : Ml) (x0 : Int32) (x1 : Int32) : Ct 2 Z l yX5_isSooner cX5_isSooner 2 (some .boolean) 0 [.int x0, .int x1] M N (some (Value.int (fX5_isSooner x0 x1)), M, N) :=
  metG (fin := (finX5_isSooner M N)) (by decide) (Nat.le_of_ble_eq_true rfl) (fun E _ C => bX5_isSooner C x0 x1) rfl
theorem dX5_tips_0 : decode cX5_tips 0 = .ok (.aload_n 0, 1) := by decide +kernel
theorem dX5_tips_1 : decode cX5_tips 1 = .ok (.iload_n 1, 1) := by decide +kernel
theorem dX5_tips_2 : decode cX5_tips 2 = .ok (.iload_n 2, 1) := by decide +kernel
theorem dX5_tips_3 : decode cX5_tips 3 = .ok (.invokevirtual 201, 3) := by decide +kernel
theorem dX5_tips_6 : decode cX5_tips 6 = .ok (.istore_n 3, 1) := by decide +kernel
theorem dX5_tips_7 : decode cX5_tips 7 = .ok (.iload_n 3, 1) := by decide +kernel
theorem dX5_tips_8 : decode cX5_tips 8 = .ok (.ifCond .eq 9, 3) := by decide +kernel
theorem dX5_tips_11 : decode cX5_tips 11 = .ok (.aload_n 0, 1) := by decide +kernel
theorem dX5_tips_12 : decode cX5_tips 12 = .ok (.iload_n 3, 1) := by decide +kernel
theorem dX5_tips_13 : decode cX5_tips 13 = .ok (.invokevirtual 65, 3) := by decide +kernel
theorem dX5_tips_16 : decode cX5_tips 16 = .ok (.ireturn, 1) := by decide +kernel
theorem dX5_tips_17 : decode cX5_tips 17 = .ok (.aload_n 0, 1) := by decide +kernel
theorem dX5_tips_18 : decode cX5_tips 18 = .ok (.iload_n 1, 1) := by decide +kernel
theorem dX5_tips_19 : decode cX5_tips 19 = .ok (.iload_n 2, 1) := by decide +kernel
theorem dX5_tips_20 : decode cX5_tips 20 = .ok (.invokevirtual 204, 3) := by decide +kernel
theorem dX5_tips_23 : decode cX5_tips 23 = .ok (.istore 4, 2) := by decide +kernel
theorem dX5_tips_25 : decode cX5_tips 25 = .ok (.iconst (-1), 1) := by decide +kernel
theorem dX5_tips_26 : decode cX5_tips 26 = .ok (.istore 5, 2) := by decide +kernel
theorem dX5_tips_28 : decode cX5_tips 28 = .ok (.iconst 0, 1) := by decide +kernel
theorem dX5_tips_29 : decode cX5_tips 29 = .ok (.istore 6, 2) := by decide +kernel
theorem dX5_tips_31 : decode cX5_tips 31 = .ok (.iload 6, 2) := by decide +kernel
theorem dX5_tips_33 : decode cX5_tips 33 = .ok (.aload_n 0, 1) := by decide +kernel
theorem dX5_tips_34 : decode cX5_tips 34 = .ok (.getfield 7, 3) := by decide +kernel
theorem dX5_tips_37 : decode cX5_tips 37 = .ok (.iconst 1, 1) := by decide +kernel
theorem dX5_tips_38 : decode cX5_tips 38 = .ok (.iaload, 1) := by decide +kernel
theorem dX5_tips_39 : decode cX5_tips 39 = .ok (.if_icmp .ge 89, 3) := by decide +kernel
theorem dX5_tips_42 : decode cX5_tips 42 = .ok (.aload_n 0, 1) := by decide +kernel
theorem dX5_tips_43 : decode cX5_tips 43 = .ok (.iload 6, 2) := by decide +kernel
theorem dX5_tips_45 : decode cX5_tips 45 = .ok (.iconst 3, 1) := by decide +kernel
theorem dX5_tips_46 : decode cX5_tips 46 = .ok (.invokevirtual 83, 3) := by decide +kernel
theorem dX5_tips_49 : decode cX5_tips 49 = .ok (.ifCond .ne 73, 3) := by decide +kernel
theorem dX5_tips_52 : decode cX5_tips 52 = .ok (.aload_n 0, 1) := by decide +kernel
theorem dX5_tips_53 : decode cX5_tips 53 = .ok (.getfield 7, 3) := by decide +kernel
theorem dX5_tips_56 : decode cX5_tips 56 = .ok (.iload 6, 2) := by decide +kernel
theorem dX5_tips_58 : decode cX5_tips 58 = .ok (.iconst 3, 1) := by decide +kernel
theorem dX5_tips_59 : decode cX5_tips 59 = .ok (.invokestatic 58, 3) := by decide +kernel
theorem dX5_tips_62 : decode cX5_tips 62 = .ok (.iconst 1, 1) := by decide +kernel
theorem dX5_tips_63 : decode cX5_tips 63 = .ok (.iastore, 1) := by decide +kernel
theorem dX5_tips_64 : decode cX5_tips 64 = .ok (.aload_n 0, 1) := by decide +kernel
theorem dX5_tips_65 : decode cX5_tips 65 = .ok (.iload_n 1, 1) := by decide +kernel
theorem dX5_tips_66 : decode cX5_tips 66 = .ok (.iload_n 2, 1) := by decide +kernel
theorem dX5_tips_67 : decode cX5_tips 67 = .ok (.invokevirtual 204, 3) := by decide +kernel
theorem dX5_tips_70 : decode cX5_tips 70 = .ok (.istore 7, 2) := by decide +kernel
theorem dX5_tips_72 : decode cX5_tips 72 = .ok (.aload_n 0, 1) := by decide +kernel
theorem dX5_tips_73 : decode cX5_tips 73 = .ok (.getfield 7, 3) := by decide +kernel
theorem dX5_tips_76 : decode cX5_tips 76 = .ok (.iload 6, 2) := by decide +kernel
theorem dX5_tips_78 : decode cX5_tips 78 = .ok (.iconst 3, 1) := by decide +kernel
theorem dX5_tips_79 : decode cX5_tips 79 = .ok (.invokestatic 58, 3) := by decide +kernel
theorem dX5_tips_82 : decode cX5_tips 82 = .ok (.iconst 0, 1) := by decide +kernel
theorem dX5_tips_83 : decode cX5_tips 83 = .ok (.iastore, 1) := by decide +kernel
theorem dX5_tips_84 : decode cX5_tips 84 = .ok (.iload 7, 2) := by decide +kernel
theorem dX5_tips_86 : decode cX5_tips 86 = .ok (.iload 4, 2) := by decide +kernel
theorem dX5_tips_88 : decode cX5_tips 88 = .ok (.invokestatic 209, 3) := by decide +kernel
theorem dX5_tips_91 : decode cX5_tips 91 = .ok (.ifCond .eq 8, 3) := by decide +kernel
theorem dX5_tips_94 : decode cX5_tips 94 = .ok (.iload 6, 2) := by decide +kernel
theorem dX5_tips_96 : decode cX5_tips 96 = .ok (.goto 5, 3) := by decide +kernel
theorem dX5_tips_99 : decode cX5_tips 99 = .ok (.iload 5, 2) := by decide +kernel
theorem dX5_tips_101 : decode cX5_tips 101 = .ok (.istore 5, 2) := by decide +kernel
theorem dX5_tips_103 : decode cX5_tips 103 = .ok (.iload 7, 2) := by decide +kernel
theorem dX5_tips_105 : decode cX5_tips 105 = .ok (.iload 4, 2) := by decide +kernel
theorem dX5_tips_107 : decode cX5_tips 107 = .ok (.invokestatic 209, 3) := by decide +kernel
theorem dX5_tips_110 : decode cX5_tips 110 = .ok (.ifCond .eq 8, 3) := by decide +kernel
theorem dX5_tips_113 : decode cX5_tips 113 = .ok (.iload 7, 2) := by decide +kernel
theorem dX5_tips_115 : decode cX5_tips 115 = .ok (.goto 5, 3) := by decide +kernel
theorem dX5_tips_118 : decode cX5_tips 118 = .ok (.iload 4, 2) := by decide +kernel
theorem dX5_tips_120 : decode cX5_tips 120 = .ok (.istore 4, 2) := by decide +kernel
theorem dX5_tips_122 : decode cX5_tips 122 = .ok (.iinc 6 1, 3) := by decide +kernel
theorem dX5_tips_125 : decode cX5_tips 125 = .ok (.goto (-94), 3) := by decide +kernel
theorem dX5_tips_128 : decode cX5_tips 128 = .ok (.aload_n 0, 1) := by decide +kernel
theorem dX5_tips_129 : decode cX5_tips 129 = .ok (.iload 5, 2) := by decide +kernel
theorem dX5_tips_131 : decode cX5_tips 131 = .ok (.bipush 8, 2) := by decide +kernel
theorem dX5_tips_133 : decode cX5_tips 133 = .ok (.invokevirtual 181, 3) := by decide +kernel
theorem dX5_tips_136 : decode cX5_tips 136 = .ok (.ireturn, 1) := by decide +kernel
def finX5_tips (N : Ml) : Int32 × Mi → Option Value × Mi × Ml := fun b => (some (Value.int b.1), b.2, N)
noncomputable def fX5_tips_101  (r31 : Mi → Int32 → Int32 → Int32 → Int32 → Int32 → Option (Int32 × Mi)) (M : Mi) (x1 : Int32) (x2 : Int32) (x4 : Int32) (x6 : Int32) (x7 : Int32) (s0 : Int32) : Option (Int32 × Mi) := (r31 M x1 x2 (if (fX5_isSooner x7 x4) = 0 then x4 else x7 : Int32) s0 (x6 + 1))
theorem bX5_tips_101 {Z : Zt} {E : Ec} {N : Ml} (C : Ok 2 Z E cX5_tips 8 RX5 (some .int) 6)  (r31 : Mi → Int32 → Int32 → Int32 → Int32 → Int32 → Option (Int32 × Mi)) (hr31 : ∀ (M : Mi) (x1 : Int32) (x2 : Int32) (x4 : Int32) (x5 : Int32) (x6 : Int32), GT Z E 8 (finX5_tips N) 31 [(0, .ref (zA Z 6 0)), (1, .int x1), (2, .int x2), (4, .int x4), (5, .int x5), (6, .int x6)] [] M N (r31 M x1 x2 x4 x5 x6)) (M : Mi) (x1 : Int32) (x2 : Int32) (x4 : Int32) (x6 : Int32) (x7 : Int32) (s0 : Int32)  : GT Z E 8 (finX5_tips N) 101 [(0, .ref (zA Z 6 0)), (1, .int x1), (2, .int x2), (4, .int x4), (6, .int x6), (7, .int x7)] [.int s0] M N (fX5_tips_101 r31 M x1 x2 x4 x6 x7 s0) := by
  unfold fX5_tips_101
  refine r_istore (lv' := [(5, .int s0), (0, .ref (zA Z 6 0)), (1, .int x1), (2, .int x2), (4, .int x4), (6, .int x6), (7, .int x7)]) C dX5_tips_101 (by decide) rfl ?_
  refine r_iload C dX5_tips_103 6 rfl ?_
  refine r_iload C dX5_tips_105 4 rfl ?_
  refine r_callS (rest := []) (st2 := [.int (fX5_isSooner x7 x4)]) C (mX5_isSooner (eL E) C.z _ _ x7 x4) lk_X5_209 (by decide) rfl rfl (Nat.le_of_ble_eq_true rfl) dX5_tips_107 rfl ?_
  refine r_sel (tj := 120) (sj := [.int (if (fX5_isSooner x7 x4) = 0 then x4 else x7 : Int32)]) ?_ (fun k12 => ?_)
  · refine r_istore (lv' := [(4, .int (if (fX5_isSooner x7 x4) = 0 then x4 else x7 : Int32)), (5, .int s0), (0, .ref (zA Z 6 0)), (1, .int x1), (2, .int x2), (6, .int x6), (7, .int x7)]) C dX5_tips_120 (by decide) rfl ?_
    refine r_iinc (v := (x6 + 1)) (lv' := [(6, .int (x6 + 1)), (4, .int (if (fX5_isSooner x7 x4) = 0 then x4 else x7 : Int32)), (5, .int s0), (0, .ref (zA Z 6 0)), (1, .int x1), (2, .int x2), (7, .int x7)]) C dX5_tips_122 5 rfl rfl (by decide) rfl ?_
    refine r_goto (tgt := 31) C dX5_tips_125 (by decide) ?_
    refine r_lv [3, 4, 5, 1, 2, 0] (lv' := [(0, .ref (zA Z 6 0)), (1, .int x1), (2, .int x2), (4, .int (if (fX5_isSooner x7 x4) = 0 then x4 else x7 : Int32)), (5, .int s0), (6, .int (x6 + 1))]) rfl ?_
    exact hr31 M x1 x2 (if (fX5_isSooner x7 x4) = 0 then x4 else x7 : Int32) s0 (x6 + 1)
  · refine r_same (P := (fX5_isSooner x7 x4) = 0) ?_
    refine r_if_eq (tgt := 118) C dX5_tips_110 (by decide) (fun c11 => ?_) (fun c11 => ?_)
    · refine r_iload C dX5_tips_118 4 rfl ?_
      exact r_stk (if_pos c11) k12
    · refine r_iload C dX5_tips_113 6 rfl ?_
      refine r_goto (tgt := 120) C dX5_tips_115 (by decide) ?_
      exact r_stk (if_neg c11) k12
noncomputable def fX5_tips_31   : Nat → Mi → Int32 → Int32 → Int32 → Int32 → Int32 → Option (Int32 × Mi)
  | 0 => fun _ _ _ _ _ _ => none
  | n + 1 => fun M x1 x2 x4 x5 x6 => (if (M 0 1) ≤ x6 then (Option.bind (fX5_orNone M x5 8) (fun a4 => (some (a4.1, (a4.2))))) else (Option.bind (fX5_its (M 0) x6 3) (fun a5 => (if a5 = 0 then (if inb (fX5_spotOf x6 3) 39 then (Option.bind (fX5_soonestOf (wM M 0 (ix (fX5_spotOf x6 3)) 1) x1 x2) (fun a8 => (fX5_tips_101 (fX5_tips_31 n) (wM (a8.2) 0 (ix (fX5_spotOf x6 3)) 0) x1 x2 x4 x6 a8.1 (if (fX5_isSooner a8.1 x4) = 0 then x5 else x6 : Int32)))) else none) else ((fX5_tips_31 n) M x1 x2 x4 x5 (x6 + 1))))))
theorem bX5_tips_31 {Z : Zt} {E : Ec} {N : Ml} (C : Ok 2 Z E cX5_tips 8 RX5 (some .int) 6)    : ∀ (n : Nat) (M : Mi) (x1 : Int32) (x2 : Int32) (x4 : Int32) (x5 : Int32) (x6 : Int32), GT Z E 8 (finX5_tips N) 31 [(0, .ref (zA Z 6 0)), (1, .int x1), (2, .int x2), (4, .int x4), (5, .int x5), (6, .int x6)] [] M N (fX5_tips_31 n M x1 x2 x4 x5 x6) := by
  intro n
  induction n with
  | zero => intro M x1 x2 x4 x5 x6; exact r_none
  | succ n ih =>
    intro M x1 x2 x4 x5 x6
    rw [fX5_tips_31]
    refine r_iload C dX5_tips_31 5 rfl ?_
    refine r_aload_n C dX5_tips_33 0 0 rfl rfl ?_
    refine gf_X5_7 C dX5_tips_34 ?_
    refine r_iconst (v := 1) C dX5_tips_37 (by decide) ?_
    refine ald_M (v := (M 0 1)) C mI_0 (by decide) rfl dX5_tips_38 ?_
    refine r_ic_ge (tgt := 128) C dX5_tips_39 (by decide) (fun c3 => ?_) (fun c3 => ?_)
    · refine r_aload_n C dX5_tips_128 0 0 rfl rfl ?_
      refine r_iload C dX5_tips_129 4 rfl ?_
      refine r_bipush (v := 8) C dX5_tips_131 (by decide) ?_
      refine r_bind (fun a4 ha4 => ?_)
      refine r_callV (rest := []) (st2 := [.int a4.1]) C (mX5_orNone (eL E) C.z M N x5 8 a4 ha4) lk_X5_181 (rvM C) (by decide) rfl rfl (Nat.le_of_ble_eq_true rfl) dX5_tips_133 rfl ?_
      exact r_iret C dX5_tips_136 rfl
    · refine r_aload_n C dX5_tips_42 0 0 rfl rfl ?_
      refine r_iload C dX5_tips_43 5 rfl ?_
      refine r_iconst (v := 3) C dX5_tips_45 (by decide) ?_
      refine r_bind (fun a5 ha5 => ?_)
      refine r_callV (rest := []) (st2 := [.int a5]) C (mX5_its (eL E) C.z M _ (M 0) x6 3 a5 ha5).selfR lk_X5_83 (rvM C) (by decide) rfl rfl (Nat.le_of_ble_eq_true rfl) dX5_tips_46 rfl ?_
      refine r_if_ne (tgt := 122) C dX5_tips_49 (by decide) (fun c6 => ?_) (fun c6 => ?_)
      · refine r_iinc (v := (x6 + 1)) (lv' := [(6, .int (x6 + 1)), (0, .ref (zA Z 6 0)), (1, .int x1), (2, .int x2), (4, .int x4), (5, .int x5)]) C dX5_tips_122 5 rfl rfl (by decide) rfl ?_
        refine r_goto (tgt := 31) C dX5_tips_125 (by decide) ?_
        refine r_lv [1, 2, 3, 4, 5, 0] (lv' := [(0, .ref (zA Z 6 0)), (1, .int x1), (2, .int x2), (4, .int x4), (5, .int x5), (6, .int (x6 + 1))]) rfl ?_
        exact ih M x1 x2 x4 x5 (x6 + 1)
      · refine r_aload_n C dX5_tips_52 0 0 rfl rfl ?_
        refine gf_X5_7 C dX5_tips_53 ?_
        refine r_iload C dX5_tips_56 5 rfl ?_
        refine r_iconst (v := 3) C dX5_tips_58 (by decide) ?_
        refine r_callS (rest := [.ref (zA Z 0 0)]) (st2 := [.int (fX5_spotOf x6 3), .ref (zA Z 0 0)]) C (mX5_spotOf (eL E) C.z _ _ x6 3) lk_X5_58 (by decide) rfl rfl (Nat.le_of_ble_eq_true rfl) dX5_tips_59 rfl ?_
        refine r_iconst (v := 1) C dX5_tips_62 (by decide) ?_
        refine r_guard (fun h7 => ?_)
        refine ast_M (M' := (wM M 0 (ix (fX5_spotOf x6 3)) 1)) C mI_0 h7 rfl dX5_tips_63 ?_
        refine r_aload_n C dX5_tips_64 0 0 rfl rfl ?_
        refine r_iload_n C dX5_tips_65 1 1 rfl rfl ?_
        refine r_iload_n C dX5_tips_66 2 2 rfl rfl ?_
        refine r_bind (fun a8 ha8 => ?_)
        refine r_callV (rest := []) (st2 := [.int a8.1]) C (mX5_soonestOf (eL E) C.z (wM M 0 (ix (fX5_spotOf x6 3)) 1) N x1 x2 a8 ha8) lk_X5_204 (rvM C) (by decide) rfl rfl (Nat.le_of_ble_eq_true rfl) dX5_tips_67 rfl ?_
        refine r_istore (lv' := [(7, .int a8.1), (0, .ref (zA Z 6 0)), (1, .int x1), (2, .int x2), (4, .int x4), (5, .int x5), (6, .int x6)]) C dX5_tips_70 (by decide) rfl ?_
        refine r_aload_n C dX5_tips_72 0 1 rfl rfl ?_
        refine gf_X5_7 C dX5_tips_73 ?_
        refine r_iload C dX5_tips_76 6 rfl ?_
        refine r_iconst (v := 3) C dX5_tips_78 (by decide) ?_
        refine r_callS (rest := [.ref (zA Z 0 0)]) (st2 := [.int (fX5_spotOf x6 3), .ref (zA Z 0 0)]) C (mX5_spotOf (eL E) C.z _ _ x6 3) lk_X5_58 (by decide) rfl rfl (Nat.le_of_ble_eq_true rfl) dX5_tips_79 rfl ?_
        refine r_iconst (v := 0) C dX5_tips_82 (by decide) ?_
        refine ast_M (M' := (wM (a8.2) 0 (ix (fX5_spotOf x6 3)) 0)) C mI_0 h7 rfl dX5_tips_83 ?_
        refine r_iload C dX5_tips_84 0 rfl ?_
        refine r_iload C dX5_tips_86 4 rfl ?_
        refine r_callS (rest := []) (st2 := [.int (fX5_isSooner a8.1 x4)]) C (mX5_isSooner (eL E) C.z _ _ a8.1 x4) lk_X5_209 (by decide) rfl rfl (Nat.le_of_ble_eq_true rfl) dX5_tips_88 rfl ?_
        refine r_sel (tj := 101) (sj := [.int (if (fX5_isSooner a8.1 x4) = 0 then x5 else x6 : Int32)]) ?_ (fun k10 => ?_)
        · refine r_lv [1, 2, 3, 4, 6, 0] (lv' := [(0, .ref (zA Z 6 0)), (1, .int x1), (2, .int x2), (4, .int x4), (6, .int x6), (7, .int a8.1)]) rfl ?_
          exact bX5_tips_101 C (fX5_tips_31 n) ih (wM (a8.2) 0 (ix (fX5_spotOf x6 3)) 0) x1 x2 x4 x6 a8.1 (if (fX5_isSooner a8.1 x4) = 0 then x5 else x6 : Int32)
        · refine r_same (P := (fX5_isSooner a8.1 x4) = 0) ?_
          refine r_if_eq (tgt := 99) C dX5_tips_91 (by decide) (fun c9 => ?_) (fun c9 => ?_)
          · refine r_iload C dX5_tips_99 5 rfl ?_
            exact r_stk (if_pos c9) k10
          · refine r_iload C dX5_tips_94 6 rfl ?_
            refine r_goto (tgt := 101) C dX5_tips_96 (by decide) ?_
            exact r_stk (if_neg c9) k10
noncomputable def fX5_tips   (M : Mi) (x1 : Int32) (x2 : Int32) : Option (Int32 × Mi) := (if (fX5_wrongReader (M 0) x1 x2) = 0 then (Option.bind (fX5_soonestOf M x1 x2) (fun a2 => (fX5_tips_31 fu (a2.2) x1 x2 a2.1 (-1) 0))) else (Option.bind (fX5_finds M (fX5_wrongReader (M 0) x1 x2)) (fun a13 => (some (a13.1, (a13.2))))))
theorem bX5_tips {Z : Zt} {E : Ec} {N : Ml} (C : Ok 2 Z E cX5_tips 8 RX5 (some .int) 6)    (M : Mi) (x1 : Int32) (x2 : Int32)  : GT Z E 8 (finX5_tips N) 0 [(0, .ref (zA Z 6 0)), (1, .int x1), (2, .int x2)] [] M N (fX5_tips M x1 x2) := by
  unfold fX5_tips
  refine r_aload_n C dX5_tips_0 0 0 rfl rfl ?_
  refine r_iload_n C dX5_tips_1 1 1 rfl rfl ?_
  refine r_iload_n C dX5_tips_2 2 2 rfl rfl ?_
  refine r_callV (rest := []) (st2 := [.int (fX5_wrongReader (M 0) x1 x2)]) C (mX5_wrongReader (eL E) C.z M _ (M 0) x1 x2).selfR lk_X5_201 (rvM C) (by decide) rfl rfl (Nat.le_of_ble_eq_true rfl) dX5_tips_3 rfl ?_
  refine r_istore_n (lv' := [(3, .int (fX5_wrongReader (M 0) x1 x2)), (0, .ref (zA Z 6 0)), (1, .int x1), (2, .int x2)]) C dX5_tips_6 3 rfl (by decide) rfl ?_
  refine r_iload_n C dX5_tips_7 3 0 rfl rfl ?_
  refine r_if_eq (tgt := 17) C dX5_tips_8 (by decide) (fun c1 => ?_) (fun c1 => ?_)
  · refine r_aload_n C dX5_tips_17 0 1 rfl rfl ?_
    refine r_iload_n C dX5_tips_18 1 2 rfl rfl ?_
    refine r_iload_n C dX5_tips_19 2 3 rfl rfl ?_
    refine r_bind (fun a2 ha2 => ?_)
    refine r_callV (rest := []) (st2 := [.int a2.1]) C (mX5_soonestOf (eL E) C.z M N x1 x2 a2 ha2) lk_X5_204 (rvM C) (by decide) rfl rfl (Nat.le_of_ble_eq_true rfl) dX5_tips_20 rfl ?_
    refine r_istore (lv' := [(4, .int a2.1), (3, .int (fX5_wrongReader (M 0) x1 x2)), (0, .ref (zA Z 6 0)), (1, .int x1), (2, .int x2)]) C dX5_tips_23 (by decide) rfl ?_
    refine r_iconst (v := (-1)) C dX5_tips_25 (by decide) ?_
    refine r_istore (lv' := [(5, .int (-1)), (4, .int a2.1), (3, .int (fX5_wrongReader (M 0) x1 x2)), (0, .ref (zA Z 6 0)), (1, .int x1), (2, .int x2)]) C dX5_tips_26 (by decide) rfl ?_
    refine r_iconst (v := 0) C dX5_tips_28 (by decide) ?_
    refine r_istore (lv' := [(6, .int 0), (5, .int (-1)), (4, .int a2.1), (3, .int (fX5_wrongReader (M 0) x1 x2)), (0, .ref (zA Z 6 0)), (1, .int x1), (2, .int x2)]) C dX5_tips_29 (by decide) rfl ?_
    refine r_lv [4, 5, 6, 2, 1, 0] (lv' := [(0, .ref (zA Z 6 0)), (1, .int x1), (2, .int x2), (4, .int a2.1), (5, .int (-1)), (6, .int 0)]) rfl ?_
    exact bX5_tips_31 C fu (a2.2) x1 x2 a2.1 (-1) 0
  · refine r_aload_n C dX5_tips_11 0 1 rfl rfl ?_
    refine r_iload_n C dX5_tips_12 3 0 rfl rfl ?_
    refine r_bind (fun a13 ha13 => ?_)
    refine r_callV (rest := []) (st2 := [.int a13.1]) C (mX5_finds (eL E) C.z M N (fX5_wrongReader (M 0) x1 x2) a13 ha13) lk_X5_65 (rvM C) (by decide) rfl rfl (Nat.le_of_ble_eq_true rfl) dX5_tips_13 rfl ?_
    exact r_iret C dX5_tips_16 rfl
theorem mX5_tips (l : Launch) {Z : Zt} (hZ : Zok 2 Z) (M : Mi) (N : Ml) (x1 : Int32) (x2 : Int32) (b : Int32 × Mi) (hb : fX5_tips M x1 x2 = some b) : Ct 2 Z l yX5_tips cX5_tips 8 (some .int) 6 [.ref (zA Z 6 0), .int x1, .int x2] M N (some (Value.int b.1), b.2, N) :=
  metG (fin := (finX5_tips N)) (by decide) (Nat.le_of_ble_eq_true rfl) (fun E _ C => bX5_tips C M x1 x2) hb
theorem dX5_spring_0 : decode cX5_spring 0 = .ok (.aload_n 0, 1) := by decide +kernel
theorem dX5_spring_1 : decode cX5_spring 1 = .ok (.iload_n 1, 1) := by decide +kernel
theorem dX5_spring_2 : decode cX5_spring 2 = .ok (.iload_n 2, 1) := by decide +kernel
theorem dX5_spring_3 : decode cX5_spring 3 = .ok (.invokevirtual 201, 3) := by decide +kernel
theorem dX5_spring_6 : decode cX5_spring 6 = .ok (.istore_n 3, 1) := by decide +kernel
theorem dX5_spring_7 : decode cX5_spring 7 = .ok (.iload_n 3, 1) := by decide +kernel
theorem dX5_spring_8 : decode cX5_spring 8 = .ok (.ifCond .eq 9, 3) := by decide +kernel
theorem dX5_spring_11 : decode cX5_spring 11 = .ok (.aload_n 0, 1) := by decide +kernel
theorem dX5_spring_12 : decode cX5_spring 12 = .ok (.iload_n 3, 1) := by decide +kernel
theorem dX5_spring_13 : decode cX5_spring 13 = .ok (.invokevirtual 65, 3) := by decide +kernel
theorem dX5_spring_16 : decode cX5_spring 16 = .ok (.ireturn, 1) := by decide +kernel
theorem dX5_spring_17 : decode cX5_spring 17 = .ok (.aload_n 0, 1) := by decide +kernel
theorem dX5_spring_18 : decode cX5_spring 18 = .ok (.getfield 7, 3) := by decide +kernel
theorem dX5_spring_21 : decode cX5_spring 21 = .ok (.iconst 3, 1) := by decide +kernel
theorem dX5_spring_22 : decode cX5_spring 22 = .ok (.iaload, 1) := by decide +kernel
theorem dX5_spring_23 : decode cX5_spring 23 = .ok (.istore 4, 2) := by decide +kernel
theorem dX5_spring_25 : decode cX5_spring 25 = .ok (.iconst (-1), 1) := by decide +kernel
theorem dX5_spring_26 : decode cX5_spring 26 = .ok (.istore 5, 2) := by decide +kernel
theorem dX5_spring_28 : decode cX5_spring 28 = .ok (.iconst (-1), 1) := by decide +kernel
theorem dX5_spring_29 : decode cX5_spring 29 = .ok (.istore 6, 2) := by decide +kernel
theorem dX5_spring_31 : decode cX5_spring 31 = .ok (.iconst 0, 1) := by decide +kernel
theorem dX5_spring_32 : decode cX5_spring 32 = .ok (.istore 7, 2) := by decide +kernel
theorem dX5_spring_34 : decode cX5_spring 34 = .ok (.iload 7, 2) := by decide +kernel
theorem dX5_spring_36 : decode cX5_spring 36 = .ok (.bipush 30, 2) := by decide +kernel
theorem dX5_spring_38 : decode cX5_spring 38 = .ok (.if_icmp .ge 72, 3) := by decide +kernel
theorem dX5_spring_41 : decode cX5_spring 41 = .ok (.aload_n 0, 1) := by decide +kernel
theorem dX5_spring_42 : decode cX5_spring 42 = .ok (.iload 7, 2) := by decide +kernel
theorem dX5_spring_44 : decode cX5_spring 44 = .ok (.invokevirtual 69, 3) := by decide +kernel
theorem dX5_spring_47 : decode cX5_spring 47 = .ok (.ifCond .ne 57, 3) := by decide +kernel
theorem dX5_spring_50 : decode cX5_spring 50 = .ok (.aload_n 0, 1) := by decide +kernel
theorem dX5_spring_51 : decode cX5_spring 51 = .ok (.getfield 7, 3) := by decide +kernel
theorem dX5_spring_54 : decode cX5_spring 54 = .ok (.iconst 3, 1) := by decide +kernel
theorem dX5_spring_55 : decode cX5_spring 55 = .ok (.iload 7, 2) := by decide +kernel
theorem dX5_spring_57 : decode cX5_spring 57 = .ok (.iastore, 1) := by decide +kernel
theorem dX5_spring_58 : decode cX5_spring 58 = .ok (.aload_n 0, 1) := by decide +kernel
theorem dX5_spring_59 : decode cX5_spring 59 = .ok (.iload_n 1, 1) := by decide +kernel
theorem dX5_spring_60 : decode cX5_spring 60 = .ok (.iload_n 2, 1) := by decide +kernel
theorem dX5_spring_61 : decode cX5_spring 61 = .ok (.invokevirtual 204, 3) := by decide +kernel
theorem dX5_spring_64 : decode cX5_spring 64 = .ok (.istore 8, 2) := by decide +kernel
theorem dX5_spring_66 : decode cX5_spring 66 = .ok (.iload 8, 2) := by decide +kernel
theorem dX5_spring_68 : decode cX5_spring 68 = .ok (.iload 5, 2) := by decide +kernel
theorem dX5_spring_70 : decode cX5_spring 70 = .ok (.invokestatic 209, 3) := by decide +kernel
theorem dX5_spring_73 : decode cX5_spring 73 = .ok (.ifCond .eq 8, 3) := by decide +kernel
theorem dX5_spring_76 : decode cX5_spring 76 = .ok (.iload 7, 2) := by decide +kernel
theorem dX5_spring_78 : decode cX5_spring 78 = .ok (.goto 5, 3) := by decide +kernel
theorem dX5_spring_81 : decode cX5_spring 81 = .ok (.iload 6, 2) := by decide +kernel
theorem dX5_spring_83 : decode cX5_spring 83 = .ok (.istore 6, 2) := by decide +kernel
theorem dX5_spring_85 : decode cX5_spring 85 = .ok (.iload 8, 2) := by decide +kernel
theorem dX5_spring_87 : decode cX5_spring 87 = .ok (.iload 5, 2) := by decide +kernel
theorem dX5_spring_89 : decode cX5_spring 89 = .ok (.invokestatic 209, 3) := by decide +kernel
theorem dX5_spring_92 : decode cX5_spring 92 = .ok (.ifCond .eq 8, 3) := by decide +kernel
theorem dX5_spring_95 : decode cX5_spring 95 = .ok (.iload 8, 2) := by decide +kernel
theorem dX5_spring_97 : decode cX5_spring 97 = .ok (.goto 5, 3) := by decide +kernel
theorem dX5_spring_100 : decode cX5_spring 100 = .ok (.iload 5, 2) := by decide +kernel
theorem dX5_spring_102 : decode cX5_spring 102 = .ok (.istore 5, 2) := by decide +kernel
theorem dX5_spring_104 : decode cX5_spring 104 = .ok (.iinc 7 1, 3) := by decide +kernel
theorem dX5_spring_107 : decode cX5_spring 107 = .ok (.goto (-73), 3) := by decide +kernel
theorem dX5_spring_110 : decode cX5_spring 110 = .ok (.aload_n 0, 1) := by decide +kernel
theorem dX5_spring_111 : decode cX5_spring 111 = .ok (.getfield 7, 3) := by decide +kernel
theorem dX5_spring_114 : decode cX5_spring 114 = .ok (.iconst 3, 1) := by decide +kernel
theorem dX5_spring_115 : decode cX5_spring 115 = .ok (.iload 4, 2) := by decide +kernel
theorem dX5_spring_117 : decode cX5_spring 117 = .ok (.iastore, 1) := by decide +kernel
theorem dX5_spring_118 : decode cX5_spring 118 = .ok (.aload_n 0, 1) := by decide +kernel
theorem dX5_spring_119 : decode cX5_spring 119 = .ok (.iload 6, 2) := by decide +kernel
theorem dX5_spring_121 : decode cX5_spring 121 = .ok (.bipush 30, 2) := by decide +kernel
theorem dX5_spring_123 : decode cX5_spring 123 = .ok (.invokevirtual 181, 3) := by decide +kernel
theorem dX5_spring_126 : decode cX5_spring 126 = .ok (.ireturn, 1) := by decide +kernel
def finX5_spring (N : Ml) : Int32 × Mi → Option Value × Mi × Ml := fun b => (some (Value.int b.1), b.2, N)
noncomputable def fX5_spring_83  (r34 : Mi → Int32 → Int32 → Int32 → Int32 → Int32 → Int32 → Option (Int32 × Mi)) (M : Mi) (x1 : Int32) (x2 : Int32) (x4 : Int32) (x5 : Int32) (x7 : Int32) (x8 : Int32) (s0 : Int32) : Option (Int32 × Mi) := (r34 M x1 x2 x4 (if (fX5_isSooner x8 x5) = 0 then x5 else x8 : Int32) s0 (x7 + 1))
theorem bX5_spring_83 {Z : Zt} {E : Ec} {N : Ml} (C : Ok 2 Z E cX5_spring 9 RX5 (some .int) 6)  (r34 : Mi → Int32 → Int32 → Int32 → Int32 → Int32 → Int32 → Option (Int32 × Mi)) (hr34 : ∀ (M : Mi) (x1 : Int32) (x2 : Int32) (x4 : Int32) (x5 : Int32) (x6 : Int32) (x7 : Int32), GT Z E 9 (finX5_spring N) 34 [(0, .ref (zA Z 6 0)), (1, .int x1), (2, .int x2), (4, .int x4), (5, .int x5), (6, .int x6), (7, .int x7)] [] M N (r34 M x1 x2 x4 x5 x6 x7)) (M : Mi) (x1 : Int32) (x2 : Int32) (x4 : Int32) (x5 : Int32) (x7 : Int32) (x8 : Int32) (s0 : Int32)  : GT Z E 9 (finX5_spring N) 83 [(0, .ref (zA Z 6 0)), (1, .int x1), (2, .int x2), (4, .int x4), (5, .int x5), (7, .int x7), (8, .int x8)] [.int s0] M N (fX5_spring_83 r34 M x1 x2 x4 x5 x7 x8 s0) := by
  unfold fX5_spring_83
  refine r_istore (lv' := [(6, .int s0), (0, .ref (zA Z 6 0)), (1, .int x1), (2, .int x2), (4, .int x4), (5, .int x5), (7, .int x7), (8, .int x8)]) C dX5_spring_83 (by decide) rfl ?_
  refine r_iload C dX5_spring_85 7 rfl ?_
  refine r_iload C dX5_spring_87 5 rfl ?_
  refine r_callS (rest := []) (st2 := [.int (fX5_isSooner x8 x5)]) C (mX5_isSooner (eL E) C.z _ _ x8 x5) lk_X5_209 (by decide) rfl rfl (Nat.le_of_ble_eq_true rfl) dX5_spring_89 rfl ?_
  refine r_sel (tj := 102) (sj := [.int (if (fX5_isSooner x8 x5) = 0 then x5 else x8 : Int32)]) ?_ (fun k9 => ?_)
  · refine r_istore (lv' := [(5, .int (if (fX5_isSooner x8 x5) = 0 then x5 else x8 : Int32)), (6, .int s0), (0, .ref (zA Z 6 0)), (1, .int x1), (2, .int x2), (4, .int x4), (7, .int x7), (8, .int x8)]) C dX5_spring_102 (by decide) rfl ?_
    refine r_iinc (v := (x7 + 1)) (lv' := [(7, .int (x7 + 1)), (5, .int (if (fX5_isSooner x8 x5) = 0 then x5 else x8 : Int32)), (6, .int s0), (0, .ref (zA Z 6 0)), (1, .int x1), (2, .int x2), (4, .int x4), (8, .int x8)]) C dX5_spring_104 6 rfl rfl (by decide) rfl ?_
    refine r_goto (tgt := 34) C dX5_spring_107 (by decide) ?_
    refine r_lv [3, 4, 5, 6, 1, 2, 0] (lv' := [(0, .ref (zA Z 6 0)), (1, .int x1), (2, .int x2), (4, .int x4), (5, .int (if (fX5_isSooner x8 x5) = 0 then x5 else x8 : Int32)), (6, .int s0), (7, .int (x7 + 1))]) rfl ?_
    exact hr34 M x1 x2 x4 (if (fX5_isSooner x8 x5) = 0 then x5 else x8 : Int32) s0 (x7 + 1)
  · refine r_same (P := (fX5_isSooner x8 x5) = 0) ?_
    refine r_if_eq (tgt := 100) C dX5_spring_92 (by decide) (fun c8 => ?_) (fun c8 => ?_)
    · refine r_iload C dX5_spring_100 5 rfl ?_
      exact r_stk (if_pos c8) k9
    · refine r_iload C dX5_spring_95 7 rfl ?_
      refine r_goto (tgt := 102) C dX5_spring_97 (by decide) ?_
      exact r_stk (if_neg c8) k9
noncomputable def fX5_spring_34   : Nat → Mi → Int32 → Int32 → Int32 → Int32 → Int32 → Int32 → Option (Int32 × Mi)
  | 0 => fun _ _ _ _ _ _ _ => none
  | n + 1 => fun M x1 x2 x4 x5 x6 x7 => (if 30 ≤ x7 then (Option.bind (fX5_orNone (wM M 0 3 x4) x6 30) (fun a3 => (some (a3.1, (a3.2))))) else (if (fX5_isFenced (M 0) x7) = 0 then (Option.bind (fX5_soonestOf (wM M 0 3 x7) x1 x2) (fun a5 => (fX5_spring_83 (fX5_spring_34 n) (a5.2) x1 x2 x4 x5 x7 a5.1 (if (fX5_isSooner a5.1 x5) = 0 then x6 else x7 : Int32)))) else ((fX5_spring_34 n) M x1 x2 x4 x5 x6 (x7 + 1))))
theorem bX5_spring_34 {Z : Zt} {E : Ec} {N : Ml} (C : Ok 2 Z E cX5_spring 9 RX5 (some .int) 6)    : ∀ (n : Nat) (M : Mi) (x1 : Int32) (x2 : Int32) (x4 : Int32) (x5 : Int32) (x6 : Int32) (x7 : Int32), GT Z E 9 (finX5_spring N) 34 [(0, .ref (zA Z 6 0)), (1, .int x1), (2, .int x2), (4, .int x4), (5, .int x5), (6, .int x6), (7, .int x7)] [] M N (fX5_spring_34 n M x1 x2 x4 x5 x6 x7) := by
  intro n
  induction n with
  | zero => intro M x1 x2 x4 x5 x6 x7; exact r_none
  | succ n ih =>
    intro M x1 x2 x4 x5 x6 x7
    rw [fX5_spring_34]
    refine r_iload C dX5_spring_34 6 rfl ?_
    refine r_bipush (v := 30) C dX5_spring_36 (by decide) ?_
    refine r_ic_ge (tgt := 110) C dX5_spring_38 (by decide) (fun c2 => ?_) (fun c2 => ?_)
    · refine r_aload_n C dX5_spring_110 0 0 rfl rfl ?_
      refine gf_X5_7 C dX5_spring_111 ?_
      refine r_iconst (v := 3) C dX5_spring_114 (by decide) ?_
      refine r_iload C dX5_spring_115 3 rfl ?_
      refine ast_M (M' := (wM M 0 3 x4)) C mI_0 (by decide) rfl dX5_spring_117 ?_
      refine r_aload_n C dX5_spring_118 0 0 rfl rfl ?_
      refine r_iload C dX5_spring_119 5 rfl ?_
      refine r_bipush (v := 30) C dX5_spring_121 (by decide) ?_
      refine r_bind (fun a3 ha3 => ?_)
      refine r_callV (rest := []) (st2 := [.int a3.1]) C (mX5_orNone (eL E) C.z (wM M 0 3 x4) N x6 30 a3 ha3) lk_X5_181 (rvM C) (by decide) rfl rfl (Nat.le_of_ble_eq_true rfl) dX5_spring_123 rfl ?_
      exact r_iret C dX5_spring_126 rfl
    · refine r_aload_n C dX5_spring_41 0 0 rfl rfl ?_
      refine r_iload C dX5_spring_42 6 rfl ?_
      refine r_callV (rest := []) (st2 := [.int (fX5_isFenced (M 0) x7)]) C (mX5_isFenced (eL E) C.z M _ (M 0) x7).selfR lk_X5_69 (rvM C) (by decide) rfl rfl (Nat.le_of_ble_eq_true rfl) dX5_spring_44 rfl ?_
      refine r_if_ne (tgt := 104) C dX5_spring_47 (by decide) (fun c4 => ?_) (fun c4 => ?_)
      · refine r_iinc (v := (x7 + 1)) (lv' := [(7, .int (x7 + 1)), (0, .ref (zA Z 6 0)), (1, .int x1), (2, .int x2), (4, .int x4), (5, .int x5), (6, .int x6)]) C dX5_spring_104 6 rfl rfl (by decide) rfl ?_
        refine r_goto (tgt := 34) C dX5_spring_107 (by decide) ?_
        refine r_lv [1, 2, 3, 4, 5, 6, 0] (lv' := [(0, .ref (zA Z 6 0)), (1, .int x1), (2, .int x2), (4, .int x4), (5, .int x5), (6, .int x6), (7, .int (x7 + 1))]) rfl ?_
        exact ih M x1 x2 x4 x5 x6 (x7 + 1)
      · refine r_aload_n C dX5_spring_50 0 0 rfl rfl ?_
        refine gf_X5_7 C dX5_spring_51 ?_
        refine r_iconst (v := 3) C dX5_spring_54 (by decide) ?_
        refine r_iload C dX5_spring_55 6 rfl ?_
        refine ast_M (M' := (wM M 0 3 x7)) C mI_0 (by decide) rfl dX5_spring_57 ?_
        refine r_aload_n C dX5_spring_58 0 0 rfl rfl ?_
        refine r_iload_n C dX5_spring_59 1 1 rfl rfl ?_
        refine r_iload_n C dX5_spring_60 2 2 rfl rfl ?_
        refine r_bind (fun a5 ha5 => ?_)
        refine r_callV (rest := []) (st2 := [.int a5.1]) C (mX5_soonestOf (eL E) C.z (wM M 0 3 x7) N x1 x2 a5 ha5) lk_X5_204 (rvM C) (by decide) rfl rfl (Nat.le_of_ble_eq_true rfl) dX5_spring_61 rfl ?_
        refine r_istore (lv' := [(8, .int a5.1), (0, .ref (zA Z 6 0)), (1, .int x1), (2, .int x2), (4, .int x4), (5, .int x5), (6, .int x6), (7, .int x7)]) C dX5_spring_64 (by decide) rfl ?_
        refine r_iload C dX5_spring_66 0 rfl ?_
        refine r_iload C dX5_spring_68 5 rfl ?_
        refine r_callS (rest := []) (st2 := [.int (fX5_isSooner a5.1 x5)]) C (mX5_isSooner (eL E) C.z _ _ a5.1 x5) lk_X5_209 (by decide) rfl rfl (Nat.le_of_ble_eq_true rfl) dX5_spring_70 rfl ?_
        refine r_sel (tj := 83) (sj := [.int (if (fX5_isSooner a5.1 x5) = 0 then x6 else x7 : Int32)]) ?_ (fun k7 => ?_)
        · refine r_lv [1, 2, 3, 4, 5, 7, 0] (lv' := [(0, .ref (zA Z 6 0)), (1, .int x1), (2, .int x2), (4, .int x4), (5, .int x5), (7, .int x7), (8, .int a5.1)]) rfl ?_
          exact bX5_spring_83 C (fX5_spring_34 n) ih (a5.2) x1 x2 x4 x5 x7 a5.1 (if (fX5_isSooner a5.1 x5) = 0 then x6 else x7 : Int32)
        · refine r_same (P := (fX5_isSooner a5.1 x5) = 0) ?_
          refine r_if_eq (tgt := 81) C dX5_spring_73 (by decide) (fun c6 => ?_) (fun c6 => ?_)
          · refine r_iload C dX5_spring_81 6 rfl ?_
            exact r_stk (if_pos c6) k7
          · refine r_iload C dX5_spring_76 7 rfl ?_
            refine r_goto (tgt := 83) C dX5_spring_78 (by decide) ?_
            exact r_stk (if_neg c6) k7
noncomputable def fX5_spring   (M : Mi) (x1 : Int32) (x2 : Int32) : Option (Int32 × Mi) := (if (fX5_wrongReader (M 0) x1 x2) = 0 then (fX5_spring_34 fu M x1 x2 (M 0 3) (-1) (-1) 0) else (Option.bind (fX5_finds M (fX5_wrongReader (M 0) x1 x2)) (fun a10 => (some (a10.1, (a10.2))))))
theorem bX5_spring {Z : Zt} {E : Ec} {N : Ml} (C : Ok 2 Z E cX5_spring 9 RX5 (some .int) 6)    (M : Mi) (x1 : Int32) (x2 : Int32)  : GT Z E 9 (finX5_spring N) 0 [(0, .ref (zA Z 6 0)), (1, .int x1), (2, .int x2)] [] M N (fX5_spring M x1 x2) := by
  unfold fX5_spring
  refine r_aload_n C dX5_spring_0 0 0 rfl rfl ?_
  refine r_iload_n C dX5_spring_1 1 1 rfl rfl ?_
  refine r_iload_n C dX5_spring_2 2 2 rfl rfl ?_
  refine r_callV (rest := []) (st2 := [.int (fX5_wrongReader (M 0) x1 x2)]) C (mX5_wrongReader (eL E) C.z M _ (M 0) x1 x2).selfR lk_X5_201 (rvM C) (by decide) rfl rfl (Nat.le_of_ble_eq_true rfl) dX5_spring_3 rfl ?_
  refine r_istore_n (lv' := [(3, .int (fX5_wrongReader (M 0) x1 x2)), (0, .ref (zA Z 6 0)), (1, .int x1), (2, .int x2)]) C dX5_spring_6 3 rfl (by decide) rfl ?_
  refine r_iload_n C dX5_spring_7 3 0 rfl rfl ?_
  refine r_if_eq (tgt := 17) C dX5_spring_8 (by decide) (fun c1 => ?_) (fun c1 => ?_)
  · refine r_aload_n C dX5_spring_17 0 1 rfl rfl ?_
    refine gf_X5_7 C dX5_spring_18 ?_
    refine r_iconst (v := 3) C dX5_spring_21 (by decide) ?_
    refine ald_M (v := (M 0 3)) C mI_0 (by decide) rfl dX5_spring_22 ?_
    refine r_istore (lv' := [(4, .int (M 0 3)), (3, .int (fX5_wrongReader (M 0) x1 x2)), (0, .ref (zA Z 6 0)), (1, .int x1), (2, .int x2)]) C dX5_spring_23 (by decide) rfl ?_
    refine r_iconst (v := (-1)) C dX5_spring_25 (by decide) ?_
    refine r_istore (lv' := [(5, .int (-1)), (4, .int (M 0 3)), (3, .int (fX5_wrongReader (M 0) x1 x2)), (0, .ref (zA Z 6 0)), (1, .int x1), (2, .int x2)]) C dX5_spring_26 (by decide) rfl ?_
    refine r_iconst (v := (-1)) C dX5_spring_28 (by decide) ?_
    refine r_istore (lv' := [(6, .int (-1)), (5, .int (-1)), (4, .int (M 0 3)), (3, .int (fX5_wrongReader (M 0) x1 x2)), (0, .ref (zA Z 6 0)), (1, .int x1), (2, .int x2)]) C dX5_spring_29 (by decide) rfl ?_
    refine r_iconst (v := 0) C dX5_spring_31 (by decide) ?_
    refine r_istore (lv' := [(7, .int 0), (6, .int (-1)), (5, .int (-1)), (4, .int (M 0 3)), (3, .int (fX5_wrongReader (M 0) x1 x2)), (0, .ref (zA Z 6 0)), (1, .int x1), (2, .int x2)]) C dX5_spring_32 (by decide) rfl ?_
    refine r_lv [5, 6, 7, 3, 2, 1, 0] (lv' := [(0, .ref (zA Z 6 0)), (1, .int x1), (2, .int x2), (4, .int (M 0 3)), (5, .int (-1)), (6, .int (-1)), (7, .int 0)]) rfl ?_
    exact bX5_spring_34 C fu M x1 x2 (M 0 3) (-1) (-1) 0
  · refine r_aload_n C dX5_spring_11 0 1 rfl rfl ?_
    refine r_iload_n C dX5_spring_12 3 0 rfl rfl ?_
    refine r_bind (fun a10 ha10 => ?_)
    refine r_callV (rest := []) (st2 := [.int a10.1]) C (mX5_finds (eL E) C.z M N (fX5_wrongReader (M 0) x1 x2) a10 ha10) lk_X5_65 (rvM C) (by decide) rfl rfl (Nat.le_of_ble_eq_true rfl) dX5_spring_13 rfl ?_
    exact r_iret C dX5_spring_16 rfl
theorem mX5_spring (l : Launch) {Z : Zt} (hZ : Zok 2 Z) (M : Mi) (N : Ml) (x1 : Int32) (x2 : Int32) (b : Int32 × Mi) (hb : fX5_spring M x1 x2 = some b) : Ct 2 Z l yX5_spring cX5_spring 9 (some .int) 6 [.ref (zA Z 6 0), .int x1, .int x2] M N (some (Value.int b.1), b.2, N) :=
  metG (fin := (finX5_spring N)) (by decide) (Nat.le_of_ble_eq_true rfl) (fun E _ C => bX5_spring C M x1 x2) hb
theorem dX5_kind_0 : decode cX5_kind 0 = .ok (.aload_n 0, 1) := by decide +kernel
theorem dX5_kind_1 : decode cX5_kind 1 = .ok (.iload_n 1, 1) := by decide +kernel
theorem dX5_kind_2 : decode cX5_kind 2 = .ok (.invokevirtual 54, 3) := by decide +kernel
theorem dX5_kind_5 : decode cX5_kind 5 = .ok (.ifCond .eq 10, 3) := by decide +kernel
theorem dX5_kind_8 : decode cX5_kind 8 = .ok (.iload_n 2, 1) := by decide +kernel
theorem dX5_kind_9 : decode cX5_kind 9 = .ok (.invokestatic 62, 3) := by decide +kernel
theorem dX5_kind_12 : decode cX5_kind 12 = .ok (.ifCond .ne 10, 3) := by decide +kernel
theorem dX5_kind_15 : decode cX5_kind 15 = .ok (.aload_n 0, 1) := by decide +kernel
theorem dX5_kind_16 : decode cX5_kind 16 = .ok (.ldc 41, 2) := by decide +kernel
theorem dX5_kind_18 : decode cX5_kind 18 = .ok (.invokevirtual 65, 3) := by decide +kernel
theorem dX5_kind_21 : decode cX5_kind 21 = .ok (.ireturn, 1) := by decide +kernel
theorem dX5_kind_22 : decode cX5_kind 22 = .ok (.aload_n 0, 1) := by decide +kernel
theorem dX5_kind_23 : decode cX5_kind 23 = .ok (.iload_n 1, 1) := by decide +kernel
theorem dX5_kind_24 : decode cX5_kind 24 = .ok (.iconst 0, 1) := by decide +kernel
theorem dX5_kind_25 : decode cX5_kind 25 = .ok (.invokevirtual 83, 3) := by decide +kernel
theorem dX5_kind_28 : decode cX5_kind 28 = .ok (.istore_n 3, 1) := by decide +kernel
theorem dX5_kind_29 : decode cX5_kind 29 = .ok (.bipush 73, 2) := by decide +kernel
theorem dX5_kind_31 : decode cX5_kind 31 = .ok (.istore 4, 2) := by decide +kernel
theorem dX5_kind_33 : decode cX5_kind 33 = .ok (.iconst (-1), 1) := by decide +kernel
theorem dX5_kind_34 : decode cX5_kind 34 = .ok (.istore 5, 2) := by decide +kernel
theorem dX5_kind_36 : decode cX5_kind 36 = .ok (.iconst 0, 1) := by decide +kernel
theorem dX5_kind_37 : decode cX5_kind 37 = .ok (.istore 6, 2) := by decide +kernel
theorem dX5_kind_39 : decode cX5_kind 39 = .ok (.iload 6, 2) := by decide +kernel
theorem dX5_kind_41 : decode cX5_kind 41 = .ok (.iconst 5, 1) := by decide +kernel
theorem dX5_kind_42 : decode cX5_kind 42 = .ok (.if_icmp .gt 61, 3) := by decide +kernel
theorem dX5_kind_45 : decode cX5_kind 45 = .ok (.aload_n 0, 1) := by decide +kernel
theorem dX5_kind_46 : decode cX5_kind 46 = .ok (.getfield 7, 3) := by decide +kernel
theorem dX5_kind_49 : decode cX5_kind 49 = .ok (.iload_n 1, 1) := by decide +kernel
theorem dX5_kind_50 : decode cX5_kind 50 = .ok (.iconst 0, 1) := by decide +kernel
theorem dX5_kind_51 : decode cX5_kind 51 = .ok (.invokestatic 58, 3) := by decide +kernel
theorem dX5_kind_54 : decode cX5_kind 54 = .ok (.iload 6, 2) := by decide +kernel
theorem dX5_kind_56 : decode cX5_kind 56 = .ok (.iastore, 1) := by decide +kernel
theorem dX5_kind_57 : decode cX5_kind 57 = .ok (.aload_n 0, 1) := by decide +kernel
theorem dX5_kind_58 : decode cX5_kind 58 = .ok (.iload_n 1, 1) := by decide +kernel
theorem dX5_kind_59 : decode cX5_kind 59 = .ok (.iload_n 2, 1) := by decide +kernel
theorem dX5_kind_60 : decode cX5_kind 60 = .ok (.invokevirtual 178, 3) := by decide +kernel
theorem dX5_kind_63 : decode cX5_kind 63 = .ok (.istore 7, 2) := by decide +kernel
theorem dX5_kind_65 : decode cX5_kind 65 = .ok (.iload 7, 2) := by decide +kernel
theorem dX5_kind_67 : decode cX5_kind 67 = .ok (.iload 4, 2) := by decide +kernel
theorem dX5_kind_69 : decode cX5_kind 69 = .ok (.if_icmp .ge 8, 3) := by decide +kernel
theorem dX5_kind_72 : decode cX5_kind 72 = .ok (.iload 6, 2) := by decide +kernel
theorem dX5_kind_74 : decode cX5_kind 74 = .ok (.goto 5, 3) := by decide +kernel
theorem dX5_kind_77 : decode cX5_kind 77 = .ok (.iload 5, 2) := by decide +kernel
theorem dX5_kind_79 : decode cX5_kind 79 = .ok (.istore 5, 2) := by decide +kernel
theorem dX5_kind_81 : decode cX5_kind 81 = .ok (.iload 7, 2) := by decide +kernel
theorem dX5_kind_83 : decode cX5_kind 83 = .ok (.iload 4, 2) := by decide +kernel
theorem dX5_kind_85 : decode cX5_kind 85 = .ok (.if_icmp .ge 8, 3) := by decide +kernel
theorem dX5_kind_88 : decode cX5_kind 88 = .ok (.iload 7, 2) := by decide +kernel
theorem dX5_kind_90 : decode cX5_kind 90 = .ok (.goto 5, 3) := by decide +kernel
theorem dX5_kind_93 : decode cX5_kind 93 = .ok (.iload 4, 2) := by decide +kernel
theorem dX5_kind_95 : decode cX5_kind 95 = .ok (.istore 4, 2) := by decide +kernel
theorem dX5_kind_97 : decode cX5_kind 97 = .ok (.iinc 6 1, 3) := by decide +kernel
theorem dX5_kind_100 : decode cX5_kind 100 = .ok (.goto (-61), 3) := by decide +kernel
theorem dX5_kind_103 : decode cX5_kind 103 = .ok (.aload_n 0, 1) := by decide +kernel
theorem dX5_kind_104 : decode cX5_kind 104 = .ok (.getfield 7, 3) := by decide +kernel
theorem dX5_kind_107 : decode cX5_kind 107 = .ok (.iload_n 1, 1) := by decide +kernel
theorem dX5_kind_108 : decode cX5_kind 108 = .ok (.iconst 0, 1) := by decide +kernel
theorem dX5_kind_109 : decode cX5_kind 109 = .ok (.invokestatic 58, 3) := by decide +kernel
theorem dX5_kind_112 : decode cX5_kind 112 = .ok (.iload_n 3, 1) := by decide +kernel
theorem dX5_kind_113 : decode cX5_kind 113 = .ok (.iastore, 1) := by decide +kernel
theorem dX5_kind_114 : decode cX5_kind 114 = .ok (.aload_n 0, 1) := by decide +kernel
theorem dX5_kind_115 : decode cX5_kind 115 = .ok (.iload 5, 2) := by decide +kernel
theorem dX5_kind_117 : decode cX5_kind 117 = .ok (.iconst 5, 1) := by decide +kernel
theorem dX5_kind_118 : decode cX5_kind 118 = .ok (.invokevirtual 181, 3) := by decide +kernel
theorem dX5_kind_121 : decode cX5_kind 121 = .ok (.ireturn, 1) := by decide +kernel
def finX5_kind (N : Ml) : Int32 × Mi → Option Value × Mi × Ml := fun b => (some (Value.int b.1), b.2, N)
noncomputable def fX5_kind_15   (M : Mi) : Option (Int32 × Mi) := (Option.bind (fX5_finds M (-1000000001)) (fun a2 => (some (a2.1, (a2.2)))))
theorem bX5_kind_15 {Z : Zt} {E : Ec} {N : Ml} (C : Ok 2 Z E cX5_kind 8 RX5 (some .int) 6)    (M : Mi)  : GT Z E 8 (finX5_kind N) 15 [(0, .ref (zA Z 6 0))] [] M N (fX5_kind_15 M) := by
  unfold fX5_kind_15
  refine r_aload_n C dX5_kind_15 0 0 rfl rfl ?_
  refine r_ldc (v := (-1000000001)) C dX5_kind_16 wd_859 ?_
  refine r_bind (fun a2 ha2 => ?_)
  refine r_callV (rest := []) (st2 := [.int a2.1]) C (mX5_finds (eL E) C.z M N (-1000000001) a2 ha2) lk_X5_65 (rvM C) (by decide) rfl rfl (Nat.le_of_ble_eq_true rfl) dX5_kind_18 rfl ?_
  exact r_iret C dX5_kind_21 rfl
noncomputable def fX5_kind_79  (r39 : Mi → Int32 → Int32 → Int32 → Int32 → Int32 → Int32 → Option (Int32 × Mi)) (M : Mi) (x1 : Int32) (x2 : Int32) (x3 : Int32) (x4 : Int32) (x6 : Int32) (x7 : Int32) (s0 : Int32) : Option (Int32 × Mi) := (r39 M x1 x2 x3 (if x4 ≤ x7 then x4 else x7 : Int32) s0 (x6 + 1))
theorem bX5_kind_79 {Z : Zt} {E : Ec} {N : Ml} (C : Ok 2 Z E cX5_kind 8 RX5 (some .int) 6)  (r39 : Mi → Int32 → Int32 → Int32 → Int32 → Int32 → Int32 → Option (Int32 × Mi)) (hr39 : ∀ (M : Mi) (x1 : Int32) (x2 : Int32) (x3 : Int32) (x4 : Int32) (x5 : Int32) (x6 : Int32), GT Z E 8 (finX5_kind N) 39 [(0, .ref (zA Z 6 0)), (1, .int x1), (2, .int x2), (3, .int x3), (4, .int x4), (5, .int x5), (6, .int x6)] [] M N (r39 M x1 x2 x3 x4 x5 x6)) (M : Mi) (x1 : Int32) (x2 : Int32) (x3 : Int32) (x4 : Int32) (x6 : Int32) (x7 : Int32) (s0 : Int32)  : GT Z E 8 (finX5_kind N) 79 [(0, .ref (zA Z 6 0)), (1, .int x1), (2, .int x2), (3, .int x3), (4, .int x4), (6, .int x6), (7, .int x7)] [.int s0] M N (fX5_kind_79 r39 M x1 x2 x3 x4 x6 x7 s0) := by
  unfold fX5_kind_79
  refine r_istore (lv' := [(5, .int s0), (0, .ref (zA Z 6 0)), (1, .int x1), (2, .int x2), (3, .int x3), (4, .int x4), (6, .int x6), (7, .int x7)]) C dX5_kind_79 (by decide) rfl ?_
  refine r_iload C dX5_kind_81 7 rfl ?_
  refine r_iload C dX5_kind_83 5 rfl ?_
  refine r_sel (tj := 95) (sj := [.int (if x4 ≤ x7 then x4 else x7 : Int32)]) ?_ (fun k13 => ?_)
  · refine r_istore (lv' := [(4, .int (if x4 ≤ x7 then x4 else x7 : Int32)), (5, .int s0), (0, .ref (zA Z 6 0)), (1, .int x1), (2, .int x2), (3, .int x3), (6, .int x6), (7, .int x7)]) C dX5_kind_95 (by decide) rfl ?_
    refine r_iinc (v := (x6 + 1)) (lv' := [(6, .int (x6 + 1)), (4, .int (if x4 ≤ x7 then x4 else x7 : Int32)), (5, .int s0), (0, .ref (zA Z 6 0)), (1, .int x1), (2, .int x2), (3, .int x3), (7, .int x7)]) C dX5_kind_97 6 rfl rfl (by decide) rfl ?_
    refine r_goto (tgt := 39) C dX5_kind_100 (by decide) ?_
    refine r_lv [3, 4, 5, 6, 1, 2, 0] (lv' := [(0, .ref (zA Z 6 0)), (1, .int x1), (2, .int x2), (3, .int x3), (4, .int (if x4 ≤ x7 then x4 else x7 : Int32)), (5, .int s0), (6, .int (x6 + 1))]) rfl ?_
    exact hr39 M x1 x2 x3 (if x4 ≤ x7 then x4 else x7 : Int32) s0 (x6 + 1)
  · refine r_same (P := x4 ≤ x7) ?_
    refine r_ic_ge (tgt := 93) C dX5_kind_85 (by decide) (fun c12 => ?_) (fun c12 => ?_)
    · refine r_iload C dX5_kind_93 5 rfl ?_
      exact r_stk (if_pos c12) k13
    · refine r_iload C dX5_kind_88 7 rfl ?_
      refine r_goto (tgt := 95) C dX5_kind_90 (by decide) ?_
      exact r_stk (if_neg c12) k13
noncomputable def fX5_kind_39   : Nat → Mi → Int32 → Int32 → Int32 → Int32 → Int32 → Int32 → Option (Int32 × Mi)
  | 0 => fun _ _ _ _ _ _ _ => none
  | n + 1 => fun M x1 x2 x3 x4 x5 x6 => (if 5 < x6 then (if inb (fX5_spotOf x1 0) 39 then (Option.bind (fX5_orNone (wM M 0 (ix (fX5_spotOf x1 0)) x3) x5 5) (fun a7 => (some (a7.1, (a7.2))))) else none) else (if inb (fX5_spotOf x1 0) 39 then (Option.bind (fX5_whenOf (wM M 0 (ix (fX5_spotOf x1 0)) x6) x1 x2) (fun a9 => (fX5_kind_79 (fX5_kind_39 n) (a9.2) x1 x2 x3 x4 x6 a9.1 (if x4 ≤ a9.1 then x5 else x6 : Int32)))) else none))
theorem bX5_kind_39 {Z : Zt} {E : Ec} {N : Ml} (C : Ok 2 Z E cX5_kind 8 RX5 (some .int) 6)    : ∀ (n : Nat) (M : Mi) (x1 : Int32) (x2 : Int32) (x3 : Int32) (x4 : Int32) (x5 : Int32) (x6 : Int32), GT Z E 8 (finX5_kind N) 39 [(0, .ref (zA Z 6 0)), (1, .int x1), (2, .int x2), (3, .int x3), (4, .int x4), (5, .int x5), (6, .int x6)] [] M N (fX5_kind_39 n M x1 x2 x3 x4 x5 x6) := by
  intro n
  induction n with
  | zero => intro M x1 x2 x3 x4 x5 x6; exact r_none
  | succ n ih =>
    intro M x1 x2 x3 x4 x5 x6
    rw [fX5_kind_39]
    refine r_iload C dX5_kind_39 6 rfl ?_
    refine r_iconst (v := 5) C dX5_kind_41 (by decide) ?_
    refine r_ic_gt (tgt := 103) C dX5_kind_42 (by decide) (fun c5 => ?_) (fun c5 => ?_)
    · refine r_aload_n C dX5_kind_103 0 0 rfl rfl ?_
      refine gf_X5_7 C dX5_kind_104 ?_
      refine r_iload_n C dX5_kind_107 1 1 rfl rfl ?_
      refine r_iconst (v := 0) C dX5_kind_108 (by decide) ?_
      refine r_callS (rest := [.ref (zA Z 0 0)]) (st2 := [.int (fX5_spotOf x1 0), .ref (zA Z 0 0)]) C (mX5_spotOf (eL E) C.z _ _ x1 0) lk_X5_58 (by decide) rfl rfl (Nat.le_of_ble_eq_true rfl) dX5_kind_109 rfl ?_
      refine r_iload_n C dX5_kind_112 3 3 rfl rfl ?_
      refine r_guard (fun h6 => ?_)
      refine ast_M (M' := (wM M 0 (ix (fX5_spotOf x1 0)) x3)) C mI_0 h6 rfl dX5_kind_113 ?_
      refine r_aload_n C dX5_kind_114 0 0 rfl rfl ?_
      refine r_iload C dX5_kind_115 5 rfl ?_
      refine r_iconst (v := 5) C dX5_kind_117 (by decide) ?_
      refine r_bind (fun a7 ha7 => ?_)
      refine r_callV (rest := []) (st2 := [.int a7.1]) C (mX5_orNone (eL E) C.z (wM M 0 (ix (fX5_spotOf x1 0)) x3) N x5 5 a7 ha7) lk_X5_181 (rvM C) (by decide) rfl rfl (Nat.le_of_ble_eq_true rfl) dX5_kind_118 rfl ?_
      exact r_iret C dX5_kind_121 rfl
    · refine r_aload_n C dX5_kind_45 0 0 rfl rfl ?_
      refine gf_X5_7 C dX5_kind_46 ?_
      refine r_iload_n C dX5_kind_49 1 1 rfl rfl ?_
      refine r_iconst (v := 0) C dX5_kind_50 (by decide) ?_
      refine r_callS (rest := [.ref (zA Z 0 0)]) (st2 := [.int (fX5_spotOf x1 0), .ref (zA Z 0 0)]) C (mX5_spotOf (eL E) C.z _ _ x1 0) lk_X5_58 (by decide) rfl rfl (Nat.le_of_ble_eq_true rfl) dX5_kind_51 rfl ?_
      refine r_iload C dX5_kind_54 6 rfl ?_
      refine r_guard (fun h8 => ?_)
      refine ast_M (M' := (wM M 0 (ix (fX5_spotOf x1 0)) x6)) C mI_0 h8 rfl dX5_kind_56 ?_
      refine r_aload_n C dX5_kind_57 0 0 rfl rfl ?_
      refine r_iload_n C dX5_kind_58 1 1 rfl rfl ?_
      refine r_iload_n C dX5_kind_59 2 2 rfl rfl ?_
      refine r_bind (fun a9 ha9 => ?_)
      refine r_callV (rest := []) (st2 := [.int a9.1]) C (mX5_whenOf (eL E) C.z (wM M 0 (ix (fX5_spotOf x1 0)) x6) N x1 x2 a9 ha9) lk_X5_178 (rvM C) (by decide) rfl rfl (Nat.le_of_ble_eq_true rfl) dX5_kind_60 rfl ?_
      refine r_istore (lv' := [(7, .int a9.1), (0, .ref (zA Z 6 0)), (1, .int x1), (2, .int x2), (3, .int x3), (4, .int x4), (5, .int x5), (6, .int x6)]) C dX5_kind_63 (by decide) rfl ?_
      refine r_iload C dX5_kind_65 0 rfl ?_
      refine r_iload C dX5_kind_67 5 rfl ?_
      refine r_sel (tj := 79) (sj := [.int (if x4 ≤ a9.1 then x5 else x6 : Int32)]) ?_ (fun k11 => ?_)
      · refine r_lv [1, 2, 3, 4, 5, 7, 0] (lv' := [(0, .ref (zA Z 6 0)), (1, .int x1), (2, .int x2), (3, .int x3), (4, .int x4), (6, .int x6), (7, .int a9.1)]) rfl ?_
        exact bX5_kind_79 C (fX5_kind_39 n) ih (a9.2) x1 x2 x3 x4 x6 a9.1 (if x4 ≤ a9.1 then x5 else x6 : Int32)
      · refine r_same (P := x4 ≤ a9.1) ?_
        refine r_ic_ge (tgt := 77) C dX5_kind_69 (by decide) (fun c10 => ?_) (fun c10 => ?_)
        · refine r_iload C dX5_kind_77 6 rfl ?_
          exact r_stk (if_pos c10) k11
        · refine r_iload C dX5_kind_72 7 rfl ?_
          refine r_goto (tgt := 79) C dX5_kind_74 (by decide) ?_
          exact r_stk (if_neg c10) k11
noncomputable def fX5_kind   (M : Mi) (x1 : Int32) (x2 : Int32) : Option (Int32 × Mi) := (if (fX5_isOne (M 0) x1) = 0 then (fX5_kind_15 M) else (if (fX5_isCell x2) = 0 then (fX5_kind_15 M) else (Option.bind (fX5_its (M 0) x1 0) (fun a4 => (fX5_kind_39 fu M x1 x2 a4 73 (-1) 0)))))
theorem bX5_kind {Z : Zt} {E : Ec} {N : Ml} (C : Ok 2 Z E cX5_kind 8 RX5 (some .int) 6)    (M : Mi) (x1 : Int32) (x2 : Int32)  : GT Z E 8 (finX5_kind N) 0 [(0, .ref (zA Z 6 0)), (1, .int x1), (2, .int x2)] [] M N (fX5_kind M x1 x2) := by
  unfold fX5_kind
  refine r_aload_n C dX5_kind_0 0 0 rfl rfl ?_
  refine r_iload_n C dX5_kind_1 1 1 rfl rfl ?_
  refine r_callV (rest := []) (st2 := [.int (fX5_isOne (M 0) x1)]) C (mX5_isOne (eL E) C.z M _ (M 0) x1).selfR lk_X5_54 (rvM C) (by decide) rfl rfl (Nat.le_of_ble_eq_true rfl) dX5_kind_2 rfl ?_
  refine r_if_eq (tgt := 15) C dX5_kind_5 (by decide) (fun c1 => ?_) (fun c1 => ?_)
  · refine r_lv [0] (lv' := [(0, .ref (zA Z 6 0))]) rfl ?_
    exact bX5_kind_15 C M
  · refine r_iload_n C dX5_kind_8 2 2 rfl rfl ?_
    refine r_callS (rest := []) (st2 := [.int (fX5_isCell x2)]) C (mX5_isCell (eL E) C.z _ _ x2) lk_X5_62 (by decide) rfl rfl (Nat.le_of_ble_eq_true rfl) dX5_kind_9 rfl ?_
    refine r_if_ne (tgt := 22) C dX5_kind_12 (by decide) (fun c3 => ?_) (fun c3 => ?_)
    · refine r_aload_n C dX5_kind_22 0 0 rfl rfl ?_
      refine r_iload_n C dX5_kind_23 1 1 rfl rfl ?_
      refine r_iconst (v := 0) C dX5_kind_24 (by decide) ?_
      refine r_bind (fun a4 ha4 => ?_)
      refine r_callV (rest := []) (st2 := [.int a4]) C (mX5_its (eL E) C.z M _ (M 0) x1 0 a4 ha4).selfR lk_X5_83 (rvM C) (by decide) rfl rfl (Nat.le_of_ble_eq_true rfl) dX5_kind_25 rfl ?_
      refine r_istore_n (lv' := [(3, .int a4), (0, .ref (zA Z 6 0)), (1, .int x1), (2, .int x2)]) C dX5_kind_28 3 rfl (by decide) rfl ?_
      refine r_bipush (v := 73) C dX5_kind_29 (by decide) ?_
      refine r_istore (lv' := [(4, .int 73), (3, .int a4), (0, .ref (zA Z 6 0)), (1, .int x1), (2, .int x2)]) C dX5_kind_31 (by decide) rfl ?_
      refine r_iconst (v := (-1)) C dX5_kind_33 (by decide) ?_
      refine r_istore (lv' := [(5, .int (-1)), (4, .int 73), (3, .int a4), (0, .ref (zA Z 6 0)), (1, .int x1), (2, .int x2)]) C dX5_kind_34 (by decide) rfl ?_
      refine r_iconst (v := 0) C dX5_kind_36 (by decide) ?_
      refine r_istore (lv' := [(6, .int 0), (5, .int (-1)), (4, .int 73), (3, .int a4), (0, .ref (zA Z 6 0)), (1, .int x1), (2, .int x2)]) C dX5_kind_37 (by decide) rfl ?_
      refine r_lv [4, 5, 6, 3, 2, 1, 0] (lv' := [(0, .ref (zA Z 6 0)), (1, .int x1), (2, .int x2), (3, .int a4), (4, .int 73), (5, .int (-1)), (6, .int 0)]) rfl ?_
      exact bX5_kind_39 C fu M x1 x2 a4 73 (-1) 0
    · refine r_lv [0] (lv' := [(0, .ref (zA Z 6 0))]) rfl ?_
      exact bX5_kind_15 C M
theorem mX5_kind (l : Launch) {Z : Zt} (hZ : Zok 2 Z) (M : Mi) (N : Ml) (x1 : Int32) (x2 : Int32) (b : Int32 × Mi) (hb : fX5_kind M x1 x2 = some b) : Ct 2 Z l yX5_kind cX5_kind 8 (some .int) 6 [.ref (zA Z 6 0), .int x1, .int x2] M N (some (Value.int b.1), b.2, N) :=
  metG (fin := (finX5_kind N)) (by decide) (Nat.le_of_ble_eq_true rfl) (fun E _ C => bX5_kind C M x1 x2) hb
theorem dX5_feed_0 : decode cX5_feed 0 = .ok (.iload_n 2, 1) := by decide +kernel
theorem dX5_feed_1 : decode cX5_feed 1 = .ok (.i2l, 1) := by decide +kernel
theorem dX5_feed_2 : decode cX5_feed 2 = .ok (.lconst 1, 1) := by decide +kernel
theorem dX5_feed_3 : decode cX5_feed 3 = .ok (.ldc2_w 212, 3) := by decide +kernel
theorem dX5_feed_6 : decode cX5_feed 6 = .ok (.invokestatic 44, 3) := by decide +kernel
theorem dX5_feed_9 : decode cX5_feed 9 = .ok (.ifCond .ne 10, 3) := by decide +kernel
theorem dX5_feed_12 : decode cX5_feed 12 = .ok (.aload_n 0, 1) := by decide +kernel
theorem dX5_feed_13 : decode cX5_feed 13 = .ok (.ldc 41, 2) := by decide +kernel
theorem dX5_feed_15 : decode cX5_feed 15 = .ok (.invokevirtual 65, 3) := by decide +kernel
theorem dX5_feed_18 : decode cX5_feed 18 = .ok (.ireturn, 1) := by decide +kernel
theorem dX5_feed_19 : decode cX5_feed 19 = .ok (.aload_n 0, 1) := by decide +kernel
theorem dX5_feed_20 : decode cX5_feed 20 = .ok (.getfield 214, 3) := by decide +kernel
theorem dX5_feed_23 : decode cX5_feed 23 = .ok (.iload_n 2, 1) := by decide +kernel
theorem dX5_feed_24 : decode cX5_feed 24 = .ok (.iadd, 1) := by decide +kernel
theorem dX5_feed_25 : decode cX5_feed 25 = .ok (.bipush 120, 2) := by decide +kernel
theorem dX5_feed_27 : decode cX5_feed 27 = .ok (.if_icmp .le 10, 3) := by decide +kernel
theorem dX5_feed_30 : decode cX5_feed 30 = .ok (.aload_n 0, 1) := by decide +kernel
theorem dX5_feed_31 : decode cX5_feed 31 = .ok (.ldc 114, 2) := by decide +kernel
theorem dX5_feed_33 : decode cX5_feed 33 = .ok (.invokevirtual 65, 3) := by decide +kernel
theorem dX5_feed_36 : decode cX5_feed 36 = .ok (.ireturn, 1) := by decide +kernel
theorem dX5_feed_37 : decode cX5_feed 37 = .ok (.iload_n 2, 1) := by decide +kernel
theorem dX5_feed_38 : decode cX5_feed 38 = .ok (.iconst 1, 1) := by decide +kernel
theorem dX5_feed_39 : decode cX5_feed 39 = .ok (.isub, 1) := by decide +kernel
theorem dX5_feed_40 : decode cX5_feed 40 = .ok (.istore_n 3, 1) := by decide +kernel
theorem dX5_feed_41 : decode cX5_feed 41 = .ok (.iload_n 3, 1) := by decide +kernel
theorem dX5_feed_42 : decode cX5_feed 42 = .ok (.ifCond .lt 38, 3) := by decide +kernel
theorem dX5_feed_45 : decode cX5_feed 45 = .ok (.aload_n 0, 1) := by decide +kernel
theorem dX5_feed_46 : decode cX5_feed 46 = .ok (.getfield 25, 3) := by decide +kernel
theorem dX5_feed_49 : decode cX5_feed 49 = .ok (.aload_n 0, 1) := by decide +kernel
theorem dX5_feed_50 : decode cX5_feed 50 = .ok (.getfield 214, 3) := by decide +kernel
theorem dX5_feed_53 : decode cX5_feed 53 = .ok (.iload_n 1, 1) := by decide +kernel
theorem dX5_feed_54 : decode cX5_feed 54 = .ok (.bipush 8, 2) := by decide +kernel
theorem dX5_feed_56 : decode cX5_feed 56 = .ok (.iload_n 3, 1) := by decide +kernel
theorem dX5_feed_57 : decode cX5_feed 57 = .ok (.imul, 1) := by decide +kernel
theorem dX5_feed_58 : decode cX5_feed 58 = .ok (.ishr, 1) := by decide +kernel
theorem dX5_feed_59 : decode cX5_feed 59 = .ok (.sipush 255, 3) := by decide +kernel
theorem dX5_feed_62 : decode cX5_feed 62 = .ok (.iand, 1) := by decide +kernel
theorem dX5_feed_63 : decode cX5_feed 63 = .ok (.iastore, 1) := by decide +kernel
theorem dX5_feed_64 : decode cX5_feed 64 = .ok (.aload_n 0, 1) := by decide +kernel
theorem dX5_feed_65 : decode cX5_feed 65 = .ok (.dup, 1) := by decide +kernel
theorem dX5_feed_66 : decode cX5_feed 66 = .ok (.getfield 214, 3) := by decide +kernel
theorem dX5_feed_69 : decode cX5_feed 69 = .ok (.iconst 1, 1) := by decide +kernel
theorem dX5_feed_70 : decode cX5_feed 70 = .ok (.iadd, 1) := by decide +kernel
theorem dX5_feed_71 : decode cX5_feed 71 = .ok (.putfield 214, 3) := by decide +kernel
theorem dX5_feed_74 : decode cX5_feed 74 = .ok (.iinc 3 (-1), 3) := by decide +kernel
theorem dX5_feed_77 : decode cX5_feed 77 = .ok (.goto (-36), 3) := by decide +kernel
theorem dX5_feed_80 : decode cX5_feed 80 = .ok (.aload_n 0, 1) := by decide +kernel
theorem dX5_feed_81 : decode cX5_feed 81 = .ok (.getfield 214, 3) := by decide +kernel
theorem dX5_feed_84 : decode cX5_feed 84 = .ok (.ireturn, 1) := by decide +kernel
def finX5_feed (N : Ml) : Int32 × Mi → Option Value × Mi × Ml := fun b => (some (Value.int b.1), b.2, N)
noncomputable def fX5_feed_41   : Nat → Mi → Int32 → Int32 → Option (Int32 × Mi)
  | 0 => fun _ _ _ => none
  | n + 1 => fun M x1 x3 => (if x3 < 0 then (some ((M 6 2), M)) else (if inb (M 6 2) 120 then ((fX5_feed_41 n) (wM (wM M 5 (ix (M 6 2)) ((x1 >>> ((8 * x3) &&& 31)) &&& 255)) 6 2 ((M 6 2) + 1)) x1 (x3 + (-1))) else none))
theorem bX5_feed_41 {Z : Zt} {E : Ec} {N : Ml} (C : Ok 2 Z E cX5_feed 4 RX5 (some .int) 1)    : ∀ (n : Nat) (M : Mi) (x1 : Int32) (x3 : Int32), GT Z E 4 (finX5_feed N) 41 [(0, .ref (zA Z 6 0)), (1, .int x1), (3, .int x3)] [] M N (fX5_feed_41 n M x1 x3) := by
  intro n
  induction n with
  | zero => intro M x1 x3; exact r_none
  | succ n ih =>
    intro M x1 x3
    rw [fX5_feed_41]
    refine r_iload_n C dX5_feed_41 3 2 rfl rfl ?_
    refine r_if_lt (tgt := 80) C dX5_feed_42 (by decide) (fun c3 => ?_) (fun c3 => ?_)
    · refine r_aload_n C dX5_feed_80 0 0 rfl rfl ?_
      refine gf_X5_214 (v := (M 6 2)) C dX5_feed_81 rfl ?_
      exact r_iret C dX5_feed_84 rfl
    · refine r_aload_n C dX5_feed_45 0 0 rfl rfl ?_
      refine gf_X5_25 C dX5_feed_46 ?_
      refine r_aload_n C dX5_feed_49 0 0 rfl rfl ?_
      refine gf_X5_214 (v := (M 6 2)) C dX5_feed_50 rfl ?_
      refine r_iload_n C dX5_feed_53 1 1 rfl rfl ?_
      refine r_bipush (v := 8) C dX5_feed_54 (by decide) ?_
      refine r_iload_n C dX5_feed_56 3 2 rfl rfl ?_
      refine r_imul C dX5_feed_57 ?_
      refine r_ishr C dX5_feed_58 ?_
      refine r_sipush (v := 255) C dX5_feed_59 (by decide) ?_
      refine r_iand C dX5_feed_62 ?_
      refine r_guard (fun h4 => ?_)
      refine ast_M (M' := (wM M 5 (ix (M 6 2)) ((x1 >>> ((8 * x3) &&& 31)) &&& 255))) C mI_5 h4 rfl dX5_feed_63 ?_
      refine r_aload_n C dX5_feed_64 0 0 rfl rfl ?_
      refine r_dup C dX5_feed_65 rfl ?_
      refine gf_X5_214 (v := (M 6 2)) C dX5_feed_66 rfl ?_
      refine r_iconst (v := 1) C dX5_feed_69 (by decide) ?_
      refine r_iadd C dX5_feed_70 ?_
      refine pf_X5_214 (M' := (wM (wM M 5 (ix (M 6 2)) ((x1 >>> ((8 * x3) &&& 31)) &&& 255)) 6 2 ((M 6 2) + 1))) C dX5_feed_71 rfl ?_
      refine r_iinc (v := (x3 + (-1))) (lv' := [(3, .int (x3 + (-1))), (0, .ref (zA Z 6 0)), (1, .int x1)]) C dX5_feed_74 2 rfl rfl (by decide) rfl ?_
      refine r_goto (tgt := 41) C dX5_feed_77 (by decide) ?_
      refine r_lv [1, 2, 0] (lv' := [(0, .ref (zA Z 6 0)), (1, .int x1), (3, .int (x3 + (-1)))]) rfl ?_
      exact ih (wM (wM M 5 (ix (M 6 2)) ((x1 >>> ((8 * x3) &&& 31)) &&& 255)) 6 2 ((M 6 2) + 1)) x1 (x3 + (-1))
noncomputable def fX5_feed   (M : Mi) (x1 : Int32) (x2 : Int32) : Option (Int32 × Mi) := (if (fX5_in (Int32.toInt64 x2) 1 4) = 0 then (Option.bind (fX5_finds M (-1000000001)) (fun a6 => (some (a6.1, (a6.2))))) else (if ((M 6 2) + x2) ≤ 120 then (fX5_feed_41 fu M x1 (x2 - 1)) else (Option.bind (fX5_finds M (-1000000002)) (fun a5 => (some (a5.1, (a5.2)))))))
theorem bX5_feed {Z : Zt} {E : Ec} {N : Ml} (C : Ok 2 Z E cX5_feed 4 RX5 (some .int) 1)    (M : Mi) (x1 : Int32) (x2 : Int32)  : GT Z E 4 (finX5_feed N) 0 [(0, .ref (zA Z 6 0)), (1, .int x1), (2, .int x2)] [] M N (fX5_feed M x1 x2) := by
  unfold fX5_feed
  refine r_iload_n C dX5_feed_0 2 2 rfl rfl ?_
  refine r_i2l C dX5_feed_1 ?_
  refine r_lconst (v := 1) C dX5_feed_2 (by decide) ?_
  refine r_ldc2 (v := 4) C dX5_feed_3 wd_1135 ?_
  refine r_callS (rest := []) (st2 := [.int (fX5_in (Int32.toInt64 x2) 1 4)]) C (mX5_in (eL E) C.z _ _ (Int32.toInt64 x2) 1 4) lk_X5_44 (by decide) rfl rfl (Nat.le_of_ble_eq_true rfl) dX5_feed_6 rfl ?_
  refine r_if_ne (tgt := 19) C dX5_feed_9 (by decide) (fun c1 => ?_) (fun c1 => ?_)
  · refine r_aload_n C dX5_feed_19 0 0 rfl rfl ?_
    refine gf_X5_214 (v := (M 6 2)) C dX5_feed_20 rfl ?_
    refine r_iload_n C dX5_feed_23 2 2 rfl rfl ?_
    refine r_iadd C dX5_feed_24 ?_
    refine r_bipush (v := 120) C dX5_feed_25 (by decide) ?_
    refine r_ic_le (tgt := 37) C dX5_feed_27 (by decide) (fun c2 => ?_) (fun c2 => ?_)
    · refine r_iload_n C dX5_feed_37 2 2 rfl rfl ?_
      refine r_iconst (v := 1) C dX5_feed_38 (by decide) ?_
      refine r_isub C dX5_feed_39 ?_
      refine r_istore_n (lv' := [(3, .int (x2 - 1)), (0, .ref (zA Z 6 0)), (1, .int x1), (2, .int x2)]) C dX5_feed_40 3 rfl (by decide) rfl ?_
      refine r_lv [1, 2, 0] (lv' := [(0, .ref (zA Z 6 0)), (1, .int x1), (3, .int (x2 - 1))]) rfl ?_
      exact bX5_feed_41 C fu M x1 (x2 - 1)
    · refine r_aload_n C dX5_feed_30 0 0 rfl rfl ?_
      refine r_ldc (v := (-1000000002)) C dX5_feed_31 wd_917 ?_
      refine r_bind (fun a5 ha5 => ?_)
      refine r_callV (rest := []) (st2 := [.int a5.1]) C (mX5_finds (eL E) C.z M N (-1000000002) a5 ha5) lk_X5_65 (rvM C) (by decide) rfl rfl (Nat.le_of_ble_eq_true rfl) dX5_feed_33 rfl ?_
      exact r_iret C dX5_feed_36 rfl
  · refine r_aload_n C dX5_feed_12 0 0 rfl rfl ?_
    refine r_ldc (v := (-1000000001)) C dX5_feed_13 wd_859 ?_
    refine r_bind (fun a6 ha6 => ?_)
    refine r_callV (rest := []) (st2 := [.int a6.1]) C (mX5_finds (eL E) C.z M N (-1000000001) a6 ha6) lk_X5_65 (rvM C) (by decide) rfl rfl (Nat.le_of_ble_eq_true rfl) dX5_feed_15 rfl ?_
    exact r_iret C dX5_feed_18 rfl
theorem mX5_feed (l : Launch) {Z : Zt} (hZ : Zok 2 Z) (M : Mi) (N : Ml) (x1 : Int32) (x2 : Int32) (b : Int32 × Mi) (hb : fX5_feed M x1 x2 = some b) : Ct 2 Z l yX5_feed cX5_feed 4 (some .int) 1 [.ref (zA Z 6 0), .int x1, .int x2] M N (some (Value.int b.1), b.2, N) :=
  metG (fin := (finX5_feed N)) (by decide) (Nat.le_of_ble_eq_true rfl) (fun E _ C => bX5_feed C M x1 x2) hb
theorem dX5_wipe_0 : decode cX5_wipe 0 = .ok (.aload_n 0, 1) := by decide +kernel
theorem dX5_wipe_1 : decode cX5_wipe 1 = .ok (.getfield 214, 3) := by decide +kernel
theorem dX5_wipe_4 : decode cX5_wipe 4 = .ok (.istore_n 1, 1) := by decide +kernel
theorem dX5_wipe_5 : decode cX5_wipe 5 = .ok (.aload_n 0, 1) := by decide +kernel
theorem dX5_wipe_6 : decode cX5_wipe 6 = .ok (.iconst 0, 1) := by decide +kernel
theorem dX5_wipe_7 : decode cX5_wipe 7 = .ok (.putfield 214, 3) := by decide +kernel
theorem dX5_wipe_10 : decode cX5_wipe 10 = .ok (.iload_n 1, 1) := by decide +kernel
theorem dX5_wipe_11 : decode cX5_wipe 11 = .ok (.ireturn, 1) := by decide +kernel
def finX5_wipe (N : Ml) : Int32 × Mi → Option Value × Mi × Ml := fun b => (some (Value.int b.1), b.2, N)
noncomputable def fX5_wipe   (M : Mi) : Option (Int32 × Mi) := (some ((M 6 2), (wM M 6 2 0)))
theorem bX5_wipe {Z : Zt} {E : Ec} {N : Ml} (C : Ok 2 Z E cX5_wipe 2 RX5 (some .int) 0)    (M : Mi)  : GT Z E 2 (finX5_wipe N) 0 [(0, .ref (zA Z 6 0))] [] M N (fX5_wipe M) := by
  unfold fX5_wipe
  refine r_aload_n C dX5_wipe_0 0 0 rfl rfl ?_
  refine gf_X5_214 (v := (M 6 2)) C dX5_wipe_1 rfl ?_
  refine r_istore_n (lv' := [(1, .int (M 6 2)), (0, .ref (zA Z 6 0))]) C dX5_wipe_4 1 rfl (by decide) rfl ?_
  refine r_aload_n C dX5_wipe_5 0 1 rfl rfl ?_
  refine r_iconst (v := 0) C dX5_wipe_6 (by decide) ?_
  refine pf_X5_214 (M' := (wM M 6 2 0)) C dX5_wipe_7 rfl ?_
  refine r_iload_n C dX5_wipe_10 1 0 rfl rfl ?_
  exact r_iret C dX5_wipe_11 rfl
theorem mX5_wipe (l : Launch) {Z : Zt} (hZ : Zok 2 Z) (M : Mi) (N : Ml) (b : Int32 × Mi) (hb : fX5_wipe M = some b) : Ct 2 Z l yX5_wipe cX5_wipe 2 (some .int) 0 [.ref (zA Z 6 0)] M N (some (Value.int b.1), b.2, N) :=
  metG (fin := (finX5_wipe N)) (by decide) (Nat.le_of_ble_eq_true rfl) (fun E _ C => bX5_wipe C M) hb
theorem dX5_byteAt_0 : decode cX5_byteAt 0 = .ok (.iload_n 1, 1) := by decide +kernel
theorem dX5_byteAt_1 : decode cX5_byteAt 1 = .ok (.aload_n 0, 1) := by decide +kernel
theorem dX5_byteAt_2 : decode cX5_byteAt 2 = .ok (.getfield 214, 3) := by decide +kernel
theorem dX5_byteAt_5 : decode cX5_byteAt 5 = .ok (.if_icmp .ge 12, 3) := by decide +kernel
theorem dX5_byteAt_8 : decode cX5_byteAt 8 = .ok (.aload_n 0, 1) := by decide +kernel
theorem dX5_byteAt_9 : decode cX5_byteAt 9 = .ok (.getfield 25, 3) := by decide +kernel
theorem dX5_byteAt_12 : decode cX5_byteAt 12 = .ok (.iload_n 1, 1) := by decide +kernel
theorem dX5_byteAt_13 : decode cX5_byteAt 13 = .ok (.iaload, 1) := by decide +kernel
theorem dX5_byteAt_14 : decode cX5_byteAt 14 = .ok (.goto 4, 3) := by decide +kernel
theorem dX5_byteAt_17 : decode cX5_byteAt 17 = .ok (.iconst (-1), 1) := by decide +kernel
theorem dX5_byteAt_18 : decode cX5_byteAt 18 = .ok (.ireturn, 1) := by decide +kernel
def finX5_byteAt (M : Mi) (N : Ml) : Int32 → Option Value × Mi × Ml := fun b => (some (Value.int b), M, N)
noncomputable def fX5_byteAt (M : Mi)  (x1 : Int32) : Option (Int32) := (if (M 6 2) ≤ x1 then (some (-1)) else (if inb x1 120 then (some (M 5 (ix x1))) else none))
theorem bX5_byteAt {Z : Zt} {E : Ec} {M : Mi} {N : Ml} (C : Ok 2 Z E cX5_byteAt 2 RX5 (some .int) 0)    (x1 : Int32)  : GT Z E 2 (finX5_byteAt M N) 0 [(0, .ref (zA Z 6 0)), (1, .int x1)] [] M N (fX5_byteAt M x1) := by
  unfold fX5_byteAt
  refine r_iload_n C dX5_byteAt_0 1 1 rfl rfl ?_
  refine r_aload_n C dX5_byteAt_1 0 0 rfl rfl ?_
  refine gf_X5_214 (v := (M 6 2)) C dX5_byteAt_2 rfl ?_
  refine r_ic_ge (tgt := 17) C dX5_byteAt_5 (by decide) (fun c1 => ?_) (fun c1 => ?_)
  · refine r_iconst (v := (-1)) C dX5_byteAt_17 (by decide) ?_
    exact r_iret C dX5_byteAt_18 rfl
  · refine r_aload_n C dX5_byteAt_8 0 0 rfl rfl ?_
    refine gf_X5_25 C dX5_byteAt_9 ?_
    refine r_iload_n C dX5_byteAt_12 1 1 rfl rfl ?_
    refine r_guard (fun h2 => ?_)
    refine ald_M (v := (M 5 (ix x1))) C mI_5 h2 rfl dX5_byteAt_13 ?_
    refine r_goto (tgt := 18) C dX5_byteAt_14 (by decide) ?_
    exact r_iret C dX5_byteAt_18 rfl
theorem mX5_byteAt (l : Launch) {Z : Zt} (hZ : Zok 2 Z) (M : Mi) (N : Ml) (x1 : Int32) (b : Int32) (hb : fX5_byteAt M x1 = some b) : Ct 2 Z l yX5_byteAt cX5_byteAt 2 (some .int) 0 [.ref (zA Z 6 0), .int x1] M N (some (Value.int b), M, N) :=
  metG (fin := (finX5_byteAt M N)) (by decide) (Nat.le_of_ble_eq_true rfl) (fun E _ C => bX5_byteAt C x1) hb
theorem dX5_isLetter_0 : decode cX5_isLetter 0 = .ok (.iload_n 0, 1) := by decide +kernel
theorem dX5_isLetter_1 : decode cX5_isLetter 1 = .ok (.i2l, 1) := by decide +kernel
theorem dX5_isLetter_2 : decode cX5_isLetter 2 = .ok (.ldc2_w 217, 3) := by decide +kernel
theorem dX5_isLetter_5 : decode cX5_isLetter 5 = .ok (.ldc2_w 219, 3) := by decide +kernel
theorem dX5_isLetter_8 : decode cX5_isLetter 8 = .ok (.invokestatic 44, 3) := by decide +kernel
theorem dX5_isLetter_11 : decode cX5_isLetter 11 = .ok (.ireturn, 1) := by decide +kernel
def finX5_isLetter (M : Mi) (N : Ml) : Int32 → Option Value × Mi × Ml := fun b => (some (Value.int b), M, N)
noncomputable def fX5_isLetter   (x0 : Int32) : Int32 := (fX5_in (Int32.toInt64 x0) 97 122)
theorem bX5_isLetter {Z : Zt} {E : Ec} {M : Mi} {N : Ml} (C : Ok 2 Z E cX5_isLetter 1 RX5 (some .boolean) 1)    (x0 : Int32)  : GT Z E 1 (finX5_isLetter M N) 0 [(0, .int x0)] [] M N (some (fX5_isLetter x0)) := by
  unfold fX5_isLetter
  refine r_iload_n C dX5_isLetter_0 0 0 rfl rfl ?_
  refine r_i2l C dX5_isLetter_1 ?_
  refine r_ldc2 (v := 97) C dX5_isLetter_2 wd_1159 ?_
  refine r_ldc2 (v := 122) C dX5_isLetter_5 wd_1160 ?_
  refine r_callS (rest := []) (st2 := [.int (fX5_in (Int32.toInt64 x0) 97 122)]) C (mX5_in (eL E) C.z _ _ (Int32.toInt64 x0) 97 122) lk_X5_44 (by decide) rfl rfl (Nat.le_of_ble_eq_true rfl) dX5_isLetter_8 rfl ?_
  exact r_zret C dX5_isLetter_11 (zbX5_in  (Int32.toInt64 x0) 97 122) rfl
theorem zbX5_isLetter (x0 : Int32) : fX5_isLetter x0 = 0 ∨ fX5_isLetter x0 = 1 := by
  unfold fX5_isLetter; (repeat' split) <;> first | exact Or.inl rfl | exact Or.inr rfl | exact zbX5_in _ _ _
theorem mX5_isLetter (l : Launch) {Z : Zt} (hZ : Zok 2 Z) (M : Mi) (N : Ml) (x0 : Int32) : Ct 2 Z l yX5_isLetter cX5_isLetter 1 (some .boolean) 1 [.int x0] M N (some (Value.int (fX5_isLetter x0)), M, N) :=
  metG (fin := (finX5_isLetter M N)) (by decide) (Nat.le_of_ble_eq_true rfl) (fun E _ C => bX5_isLetter C x0) rfl
theorem dX5_isDigit_0 : decode cX5_isDigit 0 = .ok (.iload_n 0, 1) := by decide +kernel
theorem dX5_isDigit_1 : decode cX5_isDigit 1 = .ok (.i2l, 1) := by decide +kernel
theorem dX5_isDigit_2 : decode cX5_isDigit 2 = .ok (.ldc2_w 207, 3) := by decide +kernel
theorem dX5_isDigit_5 : decode cX5_isDigit 5 = .ok (.ldc2_w 221, 3) := by decide +kernel
theorem dX5_isDigit_8 : decode cX5_isDigit 8 = .ok (.invokestatic 44, 3) := by decide +kernel
theorem dX5_isDigit_11 : decode cX5_isDigit 11 = .ok (.ireturn, 1) := by decide +kernel
def finX5_isDigit (M : Mi) (N : Ml) : Int32 → Option Value × Mi × Ml := fun b => (some (Value.int b), M, N)
noncomputable def fX5_isDigit   (x0 : Int32) : Int32 := (fX5_in (Int32.toInt64 x0) 48 57)
theorem bX5_isDigit {Z : Zt} {E : Ec} {M : Mi} {N : Ml} (C : Ok 2 Z E cX5_isDigit 1 RX5 (some .boolean) 1)    (x0 : Int32)  : GT Z E 1 (finX5_isDigit M N) 0 [(0, .int x0)] [] M N (some (fX5_isDigit x0)) := by
  unfold fX5_isDigit
  refine r_iload_n C dX5_isDigit_0 0 0 rfl rfl ?_
  refine r_i2l C dX5_isDigit_1 ?_
  refine r_ldc2 (v := 48) C dX5_isDigit_2 wd_1107 ?_
  refine r_ldc2 (v := 57) C dX5_isDigit_5 wd_1164 ?_
  refine r_callS (rest := []) (st2 := [.int (fX5_in (Int32.toInt64 x0) 48 57)]) C (mX5_in (eL E) C.z _ _ (Int32.toInt64 x0) 48 57) lk_X5_44 (by decide) rfl rfl (Nat.le_of_ble_eq_true rfl) dX5_isDigit_8 rfl ?_
  exact r_zret C dX5_isDigit_11 (zbX5_in  (Int32.toInt64 x0) 48 57) rfl
theorem zbX5_isDigit (x0 : Int32) : fX5_isDigit x0 = 0 ∨ fX5_isDigit x0 = 1 := by
  unfold fX5_isDigit; (repeat' split) <;> first | exact Or.inl rfl | exact Or.inr rfl | exact zbX5_in _ _ _
theorem mX5_isDigit (l : Launch) {Z : Zt} (hZ : Zok 2 Z) (M : Mi) (N : Ml) (x0 : Int32) : Ct 2 Z l yX5_isDigit cX5_isDigit 1 (some .boolean) 1 [.int x0] M N (some (Value.int (fX5_isDigit x0)), M, N) :=
  metG (fin := (finX5_isDigit M N)) (by decide) (Nat.le_of_ble_eq_true rfl) (fun E _ C => bX5_isDigit C x0) rfl
theorem dX5_token_0 : decode cX5_token 0 = .ok (.aload_n 0, 1) := by decide +kernel
theorem dX5_token_1 : decode cX5_token 1 = .ok (.aload_n 0, 1) := by decide +kernel
theorem dX5_token_2 : decode cX5_token 2 = .ok (.getfield 223, 3) := by decide +kernel
theorem dX5_token_5 : decode cX5_token 5 = .ok (.putfield 226, 3) := by decide +kernel
theorem dX5_token_8 : decode cX5_token 8 = .ok (.aload_n 0, 1) := by decide +kernel
theorem dX5_token_9 : decode cX5_token 9 = .ok (.aload_n 0, 1) := by decide +kernel
theorem dX5_token_10 : decode cX5_token 10 = .ok (.getfield 226, 3) := by decide +kernel
theorem dX5_token_13 : decode cX5_token 13 = .ok (.invokevirtual 229, 3) := by decide +kernel
theorem dX5_token_16 : decode cX5_token 16 = .ok (.bipush 32, 2) := by decide +kernel
theorem dX5_token_18 : decode cX5_token 18 = .ok (.if_icmp .ne 16, 3) := by decide +kernel
theorem dX5_token_21 : decode cX5_token 21 = .ok (.aload_n 0, 1) := by decide +kernel
theorem dX5_token_22 : decode cX5_token 22 = .ok (.dup, 1) := by decide +kernel
theorem dX5_token_23 : decode cX5_token 23 = .ok (.getfield 226, 3) := by decide +kernel
theorem dX5_token_26 : decode cX5_token 26 = .ok (.iconst 1, 1) := by decide +kernel
theorem dX5_token_27 : decode cX5_token 27 = .ok (.iadd, 1) := by decide +kernel
theorem dX5_token_28 : decode cX5_token 28 = .ok (.putfield 226, 3) := by decide +kernel
theorem dX5_token_31 : decode cX5_token 31 = .ok (.goto (-23), 3) := by decide +kernel
theorem dX5_token_34 : decode cX5_token 34 = .ok (.aload_n 0, 1) := by decide +kernel
theorem dX5_token_35 : decode cX5_token 35 = .ok (.aload_n 0, 1) := by decide +kernel
theorem dX5_token_36 : decode cX5_token 36 = .ok (.getfield 226, 3) := by decide +kernel
theorem dX5_token_39 : decode cX5_token 39 = .ok (.invokevirtual 229, 3) := by decide +kernel
theorem dX5_token_42 : decode cX5_token 42 = .ok (.invokestatic 232, 3) := by decide +kernel
theorem dX5_token_45 : decode cX5_token 45 = .ok (.istore_n 1, 1) := by decide +kernel
theorem dX5_token_46 : decode cX5_token 46 = .ok (.aload_n 0, 1) := by decide +kernel
theorem dX5_token_47 : decode cX5_token 47 = .ok (.aload_n 0, 1) := by decide +kernel
theorem dX5_token_48 : decode cX5_token 48 = .ok (.getfield 226, 3) := by decide +kernel
theorem dX5_token_51 : decode cX5_token 51 = .ok (.invokevirtual 229, 3) := by decide +kernel
theorem dX5_token_54 : decode cX5_token 54 = .ok (.invokestatic 235, 3) := by decide +kernel
theorem dX5_token_57 : decode cX5_token 57 = .ok (.istore_n 2, 1) := by decide +kernel
theorem dX5_token_58 : decode cX5_token 58 = .ok (.aload_n 0, 1) := by decide +kernel
theorem dX5_token_59 : decode cX5_token 59 = .ok (.aload_n 0, 1) := by decide +kernel
theorem dX5_token_60 : decode cX5_token 60 = .ok (.getfield 226, 3) := by decide +kernel
theorem dX5_token_63 : decode cX5_token 63 = .ok (.aload_n 0, 1) := by decide +kernel
theorem dX5_token_64 : decode cX5_token 64 = .ok (.getfield 214, 3) := by decide +kernel
theorem dX5_token_67 : decode cX5_token 67 = .ok (.if_icmp .ge 12, 3) := by decide +kernel
theorem dX5_token_70 : decode cX5_token 70 = .ok (.aload_n 0, 1) := by decide +kernel
theorem dX5_token_71 : decode cX5_token 71 = .ok (.getfield 226, 3) := by decide +kernel
theorem dX5_token_74 : decode cX5_token 74 = .ok (.iconst 1, 1) := by decide +kernel
theorem dX5_token_75 : decode cX5_token 75 = .ok (.iadd, 1) := by decide +kernel
theorem dX5_token_76 : decode cX5_token 76 = .ok (.goto 7, 3) := by decide +kernel
theorem dX5_token_79 : decode cX5_token 79 = .ok (.aload_n 0, 1) := by decide +kernel
theorem dX5_token_80 : decode cX5_token 80 = .ok (.getfield 226, 3) := by decide +kernel
theorem dX5_token_83 : decode cX5_token 83 = .ok (.putfield 223, 3) := by decide +kernel
theorem dX5_token_86 : decode cX5_token 86 = .ok (.iload_n 1, 1) := by decide +kernel
theorem dX5_token_87 : decode cX5_token 87 = .ok (.ifCond .eq 17, 3) := by decide +kernel
theorem dX5_token_90 : decode cX5_token 90 = .ok (.aload_n 0, 1) := by decide +kernel
theorem dX5_token_91 : decode cX5_token 91 = .ok (.aload_n 0, 1) := by decide +kernel
theorem dX5_token_92 : decode cX5_token 92 = .ok (.getfield 223, 3) := by decide +kernel
theorem dX5_token_95 : decode cX5_token 95 = .ok (.invokevirtual 229, 3) := by decide +kernel
theorem dX5_token_98 : decode cX5_token 98 = .ok (.invokestatic 232, 3) := by decide +kernel
theorem dX5_token_101 : decode cX5_token 101 = .ok (.ifCond .ne 21, 3) := by decide +kernel
theorem dX5_token_104 : decode cX5_token 104 = .ok (.iload_n 2, 1) := by decide +kernel
theorem dX5_token_105 : decode cX5_token 105 = .ok (.ifCond .eq 30, 3) := by decide +kernel
theorem dX5_token_108 : decode cX5_token 108 = .ok (.aload_n 0, 1) := by decide +kernel
theorem dX5_token_109 : decode cX5_token 109 = .ok (.aload_n 0, 1) := by decide +kernel
theorem dX5_token_110 : decode cX5_token 110 = .ok (.getfield 223, 3) := by decide +kernel
theorem dX5_token_113 : decode cX5_token 113 = .ok (.invokevirtual 229, 3) := by decide +kernel
theorem dX5_token_116 : decode cX5_token 116 = .ok (.invokestatic 235, 3) := by decide +kernel
theorem dX5_token_119 : decode cX5_token 119 = .ok (.ifCond .eq 16, 3) := by decide +kernel
theorem dX5_token_122 : decode cX5_token 122 = .ok (.aload_n 0, 1) := by decide +kernel
theorem dX5_token_123 : decode cX5_token 123 = .ok (.dup, 1) := by decide +kernel
theorem dX5_token_124 : decode cX5_token 124 = .ok (.getfield 223, 3) := by decide +kernel
theorem dX5_token_127 : decode cX5_token 127 = .ok (.iconst 1, 1) := by decide +kernel
theorem dX5_token_128 : decode cX5_token 128 = .ok (.iadd, 1) := by decide +kernel
theorem dX5_token_129 : decode cX5_token 129 = .ok (.putfield 223, 3) := by decide +kernel
theorem dX5_token_132 : decode cX5_token 132 = .ok (.goto (-46), 3) := by decide +kernel
theorem dX5_token_135 : decode cX5_token 135 = .ok (.return_, 1) := by decide +kernel
def finX5_token (N : Ml) : Mi → Option Value × Mi × Ml := fun b => (none, b, N)
noncomputable def fX5_token_122  (r86 : Mi → Int32 → Int32 → Option (Mi)) (M : Mi) (x1 : Int32) (x2 : Int32) : Option (Mi) := (r86 (wM M 6 4 ((M 6 4) + 1)) x1 x2)
theorem bX5_token_122 {Z : Zt} {E : Ec} {N : Ml} (C : Ok 2 Z E cX5_token 3 RX5 none 2)  (r86 : Mi → Int32 → Int32 → Option (Mi)) (hr86 : ∀ (M : Mi) (x1 : Int32) (x2 : Int32), GT Z E 3 (finX5_token N) 86 [(0, .ref (zA Z 6 0)), (1, .int x1), (2, .int x2)] [] M N (r86 M x1 x2)) (M : Mi) (x1 : Int32) (x2 : Int32)  : GT Z E 3 (finX5_token N) 122 [(0, .ref (zA Z 6 0)), (1, .int x1), (2, .int x2)] [] M N (fX5_token_122 r86 M x1 x2) := by
  unfold fX5_token_122
  refine r_aload_n C dX5_token_122 0 0 rfl rfl ?_
  refine r_dup C dX5_token_123 rfl ?_
  refine gf_X5_223 (v := (M 6 4)) C dX5_token_124 rfl ?_
  refine r_iconst (v := 1) C dX5_token_127 (by decide) ?_
  refine r_iadd C dX5_token_128 ?_
  refine pf_X5_223 (M' := (wM M 6 4 ((M 6 4) + 1))) C dX5_token_129 rfl ?_
  refine r_goto (tgt := 86) C dX5_token_132 (by decide) ?_
  exact hr86 (wM M 6 4 ((M 6 4) + 1)) x1 x2
noncomputable def fX5_token_104  (r86 : Mi → Int32 → Int32 → Option (Mi)) (M : Mi) (x1 : Int32) (x2 : Int32) : Option (Mi) := (if x2 = 0 then (some M) else (Option.bind (fX5_byteAt M (M 6 4)) (fun a8 => (if (fX5_isDigit a8) = 0 then (some M) else (fX5_token_122 r86 M x1 x2)))))
theorem bX5_token_104 {Z : Zt} {E : Ec} {N : Ml} (C : Ok 2 Z E cX5_token 3 RX5 none 2)  (r86 : Mi → Int32 → Int32 → Option (Mi)) (hr86 : ∀ (M : Mi) (x1 : Int32) (x2 : Int32), GT Z E 3 (finX5_token N) 86 [(0, .ref (zA Z 6 0)), (1, .int x1), (2, .int x2)] [] M N (r86 M x1 x2)) (M : Mi) (x1 : Int32) (x2 : Int32)  : GT Z E 3 (finX5_token N) 104 [(0, .ref (zA Z 6 0)), (1, .int x1), (2, .int x2)] [] M N (fX5_token_104 r86 M x1 x2) := by
  unfold fX5_token_104
  refine r_iload_n C dX5_token_104 2 2 rfl rfl ?_
  refine r_if_eq (tgt := 135) C dX5_token_105 (by decide) (fun c7 => ?_) (fun c7 => ?_)
  · exact r_vret C dX5_token_135 rfl
  · refine r_aload_n C dX5_token_108 0 0 rfl rfl ?_
    refine r_aload_n C dX5_token_109 0 0 rfl rfl ?_
    refine gf_X5_223 (v := (M 6 4)) C dX5_token_110 rfl ?_
    refine r_bind (fun a8 ha8 => ?_)
    refine r_callV (rest := []) (st2 := [.int a8]) C (mX5_byteAt (eL E) C.z M N (M 6 4) a8 ha8) lk_X5_229 (rvM C) (by decide) rfl rfl (Nat.le_of_ble_eq_true rfl) dX5_token_113 rfl ?_
    refine r_callS (rest := []) (st2 := [.int (fX5_isDigit a8)]) C (mX5_isDigit (eL E) C.z _ _ a8) lk_X5_235 (by decide) rfl rfl (Nat.le_of_ble_eq_true rfl) dX5_token_116 rfl ?_
    refine r_if_eq (tgt := 135) C dX5_token_119 (by decide) (fun c9 => ?_) (fun c9 => ?_)
    · exact r_vret C dX5_token_135 rfl
    · exact bX5_token_122 C r86 hr86 M x1 x2
noncomputable def fX5_token_86   : Nat → Mi → Int32 → Int32 → Option (Mi)
  | 0 => fun _ _ _ => none
  | n + 1 => fun M x1 x2 => (if x1 = 0 then (fX5_token_104 (fX5_token_86 n) M x1 x2) else (Option.bind (fX5_byteAt M (M 6 4)) (fun a10 => (if (fX5_isLetter a10) = 0 then (fX5_token_104 (fX5_token_86 n) M x1 x2) else (fX5_token_122 (fX5_token_86 n) M x1 x2)))))
theorem bX5_token_86 {Z : Zt} {E : Ec} {N : Ml} (C : Ok 2 Z E cX5_token 3 RX5 none 2)    : ∀ (n : Nat) (M : Mi) (x1 : Int32) (x2 : Int32), GT Z E 3 (finX5_token N) 86 [(0, .ref (zA Z 6 0)), (1, .int x1), (2, .int x2)] [] M N (fX5_token_86 n M x1 x2) := by
  intro n
  induction n with
  | zero => intro M x1 x2; exact r_none
  | succ n ih =>
    intro M x1 x2
    rw [fX5_token_86]
    refine r_iload_n C dX5_token_86 1 1 rfl rfl ?_
    refine r_if_eq (tgt := 104) C dX5_token_87 (by decide) (fun c6 => ?_) (fun c6 => ?_)
    · exact bX5_token_104 C (fX5_token_86 n) ih M x1 x2
    · refine r_aload_n C dX5_token_90 0 0 rfl rfl ?_
      refine r_aload_n C dX5_token_91 0 0 rfl rfl ?_
      refine gf_X5_223 (v := (M 6 4)) C dX5_token_92 rfl ?_
      refine r_bind (fun a10 ha10 => ?_)
      refine r_callV (rest := []) (st2 := [.int a10]) C (mX5_byteAt (eL E) C.z M N (M 6 4) a10 ha10) lk_X5_229 (rvM C) (by decide) rfl rfl (Nat.le_of_ble_eq_true rfl) dX5_token_95 rfl ?_
      refine r_callS (rest := []) (st2 := [.int (fX5_isLetter a10)]) C (mX5_isLetter (eL E) C.z _ _ a10) lk_X5_232 (by decide) rfl rfl (Nat.le_of_ble_eq_true rfl) dX5_token_98 rfl ?_
      refine r_if_ne (tgt := 122) C dX5_token_101 (by decide) (fun c11 => ?_) (fun c11 => ?_)
      · exact bX5_token_122 C (fX5_token_86 n) ih M x1 x2
      · exact bX5_token_104 C (fX5_token_86 n) ih M x1 x2
noncomputable def fX5_token_8   : Nat → Mi → Option (Mi)
  | 0 => fun _ => none
  | n + 1 => fun M => (Option.bind (fX5_byteAt M (M 6 3)) (fun a1 => (if a1 = 32 then ((fX5_token_8 n) (wM M 6 3 ((M 6 3) + 1))) else (Option.bind (fX5_byteAt M (M 6 3)) (fun a3 => (Option.bind (fX5_byteAt M (M 6 3)) (fun a4 => (if (M 6 2) ≤ (M 6 3) then (fX5_token_86 fu (wM M 6 4 (M 6 3)) (fX5_isLetter a3) (fX5_isDigit a4)) else (fX5_token_86 fu (wM M 6 4 ((M 6 3) + 1)) (fX5_isLetter a3) (fX5_isDigit a4))))))))))
theorem bX5_token_8 {Z : Zt} {E : Ec} {N : Ml} (C : Ok 2 Z E cX5_token 3 RX5 none 2)    : ∀ (n : Nat) (M : Mi), GT Z E 3 (finX5_token N) 8 [(0, .ref (zA Z 6 0))] [] M N (fX5_token_8 n M) := by
  intro n
  induction n with
  | zero => intro M; exact r_none
  | succ n ih =>
    intro M
    rw [fX5_token_8]
    refine r_aload_n C dX5_token_8 0 0 rfl rfl ?_
    refine r_aload_n C dX5_token_9 0 0 rfl rfl ?_
    refine gf_X5_226 (v := (M 6 3)) C dX5_token_10 rfl ?_
    refine r_bind (fun a1 ha1 => ?_)
    refine r_callV (rest := []) (st2 := [.int a1]) C (mX5_byteAt (eL E) C.z M N (M 6 3) a1 ha1) lk_X5_229 (rvM C) (by decide) rfl rfl (Nat.le_of_ble_eq_true rfl) dX5_token_13 rfl ?_
    refine r_bipush (v := 32) C dX5_token_16 (by decide) ?_
    refine r_ic_ne (tgt := 34) C dX5_token_18 (by decide) (fun c2 => ?_) (fun c2 => ?_)
    · refine r_aload_n C dX5_token_34 0 0 rfl rfl ?_
      refine r_aload_n C dX5_token_35 0 0 rfl rfl ?_
      refine gf_X5_226 (v := (M 6 3)) C dX5_token_36 rfl ?_
      refine r_bind (fun a3 ha3 => ?_)
      refine r_callV (rest := []) (st2 := [.int a3]) C (mX5_byteAt (eL E) C.z M N (M 6 3) a3 ha3) lk_X5_229 (rvM C) (by decide) rfl rfl (Nat.le_of_ble_eq_true rfl) dX5_token_39 rfl ?_
      refine r_callS (rest := []) (st2 := [.int (fX5_isLetter a3)]) C (mX5_isLetter (eL E) C.z _ _ a3) lk_X5_232 (by decide) rfl rfl (Nat.le_of_ble_eq_true rfl) dX5_token_42 rfl ?_
      refine r_istore_n (lv' := [(1, .int (fX5_isLetter a3)), (0, .ref (zA Z 6 0))]) C dX5_token_45 1 rfl (by decide) rfl ?_
      refine r_aload_n C dX5_token_46 0 1 rfl rfl ?_
      refine r_aload_n C dX5_token_47 0 1 rfl rfl ?_
      refine gf_X5_226 (v := (M 6 3)) C dX5_token_48 rfl ?_
      refine r_bind (fun a4 ha4 => ?_)
      refine r_callV (rest := []) (st2 := [.int a4]) C (mX5_byteAt (eL E) C.z M N (M 6 3) a4 ha4) lk_X5_229 (rvM C) (by decide) rfl rfl (Nat.le_of_ble_eq_true rfl) dX5_token_51 rfl ?_
      refine r_callS (rest := []) (st2 := [.int (fX5_isDigit a4)]) C (mX5_isDigit (eL E) C.z _ _ a4) lk_X5_235 (by decide) rfl rfl (Nat.le_of_ble_eq_true rfl) dX5_token_54 rfl ?_
      refine r_istore_n (lv' := [(2, .int (fX5_isDigit a4)), (1, .int (fX5_isLetter a3)), (0, .ref (zA Z 6 0))]) C dX5_token_57 2 rfl (by decide) rfl ?_
      refine r_aload_n C dX5_token_58 0 2 rfl rfl ?_
      refine r_aload_n C dX5_token_59 0 2 rfl rfl ?_
      refine gf_X5_226 (v := (M 6 3)) C dX5_token_60 rfl ?_
      refine r_aload_n C dX5_token_63 0 2 rfl rfl ?_
      refine gf_X5_214 (v := (M 6 2)) C dX5_token_64 rfl ?_
      refine r_ic_ge (tgt := 79) C dX5_token_67 (by decide) (fun c5 => ?_) (fun c5 => ?_)
      · refine r_aload_n C dX5_token_79 0 2 rfl rfl ?_
        refine gf_X5_226 (v := (M 6 3)) C dX5_token_80 rfl ?_
        refine pf_X5_223 (M' := (wM M 6 4 (M 6 3))) C dX5_token_83 rfl ?_
        refine r_lv [2, 1, 0] (lv' := [(0, .ref (zA Z 6 0)), (1, .int (fX5_isLetter a3)), (2, .int (fX5_isDigit a4))]) rfl ?_
        exact bX5_token_86 C fu (wM M 6 4 (M 6 3)) (fX5_isLetter a3) (fX5_isDigit a4)
      · refine r_aload_n C dX5_token_70 0 2 rfl rfl ?_
        refine gf_X5_226 (v := (M 6 3)) C dX5_token_71 rfl ?_
        refine r_iconst (v := 1) C dX5_token_74 (by decide) ?_
        refine r_iadd C dX5_token_75 ?_
        refine r_goto (tgt := 83) C dX5_token_76 (by decide) ?_
        refine pf_X5_223 (M' := (wM M 6 4 ((M 6 3) + 1))) C dX5_token_83 rfl ?_
        refine r_lv [2, 1, 0] (lv' := [(0, .ref (zA Z 6 0)), (1, .int (fX5_isLetter a3)), (2, .int (fX5_isDigit a4))]) rfl ?_
        exact bX5_token_86 C fu (wM M 6 4 ((M 6 3) + 1)) (fX5_isLetter a3) (fX5_isDigit a4)
    · refine r_aload_n C dX5_token_21 0 0 rfl rfl ?_
      refine r_dup C dX5_token_22 rfl ?_
      refine gf_X5_226 (v := (M 6 3)) C dX5_token_23 rfl ?_
      refine r_iconst (v := 1) C dX5_token_26 (by decide) ?_
      refine r_iadd C dX5_token_27 ?_
      refine pf_X5_226 (M' := (wM M 6 3 ((M 6 3) + 1))) C dX5_token_28 rfl ?_
      refine r_goto (tgt := 8) C dX5_token_31 (by decide) ?_
      exact ih (wM M 6 3 ((M 6 3) + 1))
noncomputable def fX5_token   (M : Mi) : Option (Mi) := (fX5_token_8 fu (wM M 6 3 (M 6 4)))
theorem bX5_token {Z : Zt} {E : Ec} {N : Ml} (C : Ok 2 Z E cX5_token 3 RX5 none 2)    (M : Mi)  : GT Z E 3 (finX5_token N) 0 [(0, .ref (zA Z 6 0))] [] M N (fX5_token M) := by
  unfold fX5_token
  refine r_aload_n C dX5_token_0 0 0 rfl rfl ?_
  refine r_aload_n C dX5_token_1 0 0 rfl rfl ?_
  refine gf_X5_223 (v := (M 6 4)) C dX5_token_2 rfl ?_
  refine pf_X5_226 (M' := (wM M 6 3 (M 6 4))) C dX5_token_5 rfl ?_
  exact bX5_token_8 C fu (wM M 6 3 (M 6 4))
theorem mX5_token (l : Launch) {Z : Zt} (hZ : Zok 2 Z) (M : Mi) (N : Ml) (b : Mi) (hb : fX5_token M = some b) : Ct 2 Z l yX5_token cX5_token 3 none 2 [.ref (zA Z 6 0)] M N (none, b, N) :=
  metG (fin := (finX5_token N)) (by decide) (Nat.le_of_ble_eq_true rfl) (fun E _ C => bX5_token C M) hb
theorem dX5_wants_0 : decode cX5_wants 0 = .ok (.aload_n 0, 1) := by decide +kernel
theorem dX5_wants_1 : decode cX5_wants 1 = .ok (.aload_n 0, 1) := by decide +kernel
theorem dX5_wants_2 : decode cX5_wants 2 = .ok (.getfield 238, 3) := by decide +kernel
theorem dX5_wants_5 : decode cX5_wants 5 = .ok (.ifCond .ne 7, 3) := by decide +kernel
theorem dX5_wants_8 : decode cX5_wants 8 = .ok (.iload_n 1, 1) := by decide +kernel
theorem dX5_wants_9 : decode cX5_wants 9 = .ok (.ifCond .ne 7, 3) := by decide +kernel
theorem dX5_wants_12 : decode cX5_wants 12 = .ok (.iconst 1, 1) := by decide +kernel
theorem dX5_wants_13 : decode cX5_wants 13 = .ok (.goto 4, 3) := by decide +kernel
theorem dX5_wants_16 : decode cX5_wants 16 = .ok (.iconst 0, 1) := by decide +kernel
theorem dX5_wants_17 : decode cX5_wants 17 = .ok (.putfield 238, 3) := by decide +kernel
theorem dX5_wants_20 : decode cX5_wants 20 = .ok (.aload_n 0, 1) := by decide +kernel
theorem dX5_wants_21 : decode cX5_wants 21 = .ok (.getfield 238, 3) := by decide +kernel
theorem dX5_wants_24 : decode cX5_wants 24 = .ok (.ifCond .ne 7, 3) := by decide +kernel
theorem dX5_wants_27 : decode cX5_wants 27 = .ok (.aload_n 0, 1) := by decide +kernel
theorem dX5_wants_28 : decode cX5_wants 28 = .ok (.invokevirtual 242, 3) := by decide +kernel
theorem dX5_wants_31 : decode cX5_wants 31 = .ok (.return_, 1) := by decide +kernel
def finX5_wants (N : Ml) : Mi → Option Value × Mi × Ml := fun b => (none, b, N)
noncomputable def fX5_wants_17   (M : Mi) (s0 : Int32) : Option (Mi) := (if s0 = 0 ∨ s0 = 1 then (if s0 = 0 then (Option.bind (fX5_token (wM M 6 6 s0)) (fun a4 => (some a4))) else (some (wM M 6 6 s0))) else none)
theorem bX5_wants_17 {Z : Zt} {E : Ec} {N : Ml} (C : Ok 2 Z E cX5_wants 2 RX5 none 3)    (M : Mi) (s0 : Int32)  : GT Z E 2 (finX5_wants N) 17 [(0, .ref (zA Z 6 0))] [.int s0, .ref (zA Z 6 0)] M N (fX5_wants_17 M s0) := by
  unfold fX5_wants_17
  refine r_guard (fun h2 => ?_)
  refine pf_X5_238 (M' := (wM M 6 6 s0)) C dX5_wants_17 h2 rfl ?_
  refine r_aload_n C dX5_wants_20 0 0 rfl rfl ?_
  refine gf_X5_238 (v := s0) C dX5_wants_21 rfl ?_
  refine r_if_ne (tgt := 31) C dX5_wants_24 (by decide) (fun c3 => ?_) (fun c3 => ?_)
  · exact r_vret C dX5_wants_31 rfl
  · refine r_aload_n C dX5_wants_27 0 0 rfl rfl ?_
    refine r_bind (fun a4 ha4 => ?_)
    refine r_callV (rest := []) (st2 := []) C (mX5_token (eL E) C.z (wM M 6 6 s0) N a4 ha4) lk_X5_242 (rvM C) (by decide) rfl rfl (Nat.le_of_ble_eq_true rfl) dX5_wants_28 rfl ?_
    exact r_vret C dX5_wants_31 rfl
noncomputable def fX5_wants_12   (M : Mi) : Option (Mi) := (fX5_wants_17 M 1)
theorem bX5_wants_12 {Z : Zt} {E : Ec} {N : Ml} (C : Ok 2 Z E cX5_wants 2 RX5 none 3)    (M : Mi)  : GT Z E 2 (finX5_wants N) 12 [(0, .ref (zA Z 6 0))] [.ref (zA Z 6 0)] M N (fX5_wants_12 M) := by
  unfold fX5_wants_12
  refine r_iconst (v := 1) C dX5_wants_12 (by decide) ?_
  refine r_goto (tgt := 17) C dX5_wants_13 (by decide) ?_
  exact bX5_wants_17 C M 1
noncomputable def fX5_wants   (M : Mi) (x1 : Int32) : Option (Mi) := (if (M 6 6) = 0 then (if x1 = 0 then (fX5_wants_12 M) else (fX5_wants_17 M 0)) else (fX5_wants_12 M))
theorem bX5_wants {Z : Zt} {E : Ec} {N : Ml} (C : Ok 2 Z E cX5_wants 2 RX5 none 3)    (M : Mi) (x1 : Int32)  : GT Z E 2 (finX5_wants N) 0 [(0, .ref (zA Z 6 0)), (1, .int x1)] [] M N (fX5_wants M x1) := by
  unfold fX5_wants
  refine r_aload_n C dX5_wants_0 0 0 rfl rfl ?_
  refine r_aload_n C dX5_wants_1 0 0 rfl rfl ?_
  refine gf_X5_238 (v := (M 6 6)) C dX5_wants_2 rfl ?_
  refine r_if_ne (tgt := 12) C dX5_wants_5 (by decide) (fun c1 => ?_) (fun c1 => ?_)
  · refine r_lv [0] (lv' := [(0, .ref (zA Z 6 0))]) rfl ?_
    exact bX5_wants_12 C M
  · refine r_iload_n C dX5_wants_8 1 1 rfl rfl ?_
    refine r_if_ne (tgt := 16) C dX5_wants_9 (by decide) (fun c5 => ?_) (fun c5 => ?_)
    · refine r_iconst (v := 0) C dX5_wants_16 (by decide) ?_
      refine r_lv [0] (lv' := [(0, .ref (zA Z 6 0))]) rfl ?_
      exact bX5_wants_17 C M 0
    · refine r_lv [0] (lv' := [(0, .ref (zA Z 6 0))]) rfl ?_
      exact bX5_wants_12 C M
theorem mX5_wants (l : Launch) {Z : Zt} (hZ : Zok 2 Z) (M : Mi) (N : Ml) (x1 : Int32) (b : Mi) (hb : fX5_wants M x1 = some b) : Ct 2 Z l yX5_wants cX5_wants 2 none 3 [.ref (zA Z 6 0), .int x1] M N (none, b, N) :=
  metG (fin := (finX5_wants N)) (by decide) (Nat.le_of_ble_eq_true rfl) (fun E _ C => bX5_wants C M x1) hb
theorem dX5_word_0 : decode cX5_word 0 = .ok (.lconst 0, 1) := by decide +kernel
theorem dX5_word_1 : decode cX5_word 1 = .ok (.lstore_n 1, 1) := by decide +kernel
theorem dX5_word_2 : decode cX5_word 2 = .ok (.aload_n 0, 1) := by decide +kernel
theorem dX5_word_3 : decode cX5_word 3 = .ok (.getfield 226, 3) := by decide +kernel
theorem dX5_word_6 : decode cX5_word 6 = .ok (.istore_n 3, 1) := by decide +kernel
theorem dX5_word_7 : decode cX5_word 7 = .ok (.iload_n 3, 1) := by decide +kernel
theorem dX5_word_8 : decode cX5_word 8 = .ok (.aload_n 0, 1) := by decide +kernel
theorem dX5_word_9 : decode cX5_word 9 = .ok (.getfield 223, 3) := by decide +kernel
theorem dX5_word_12 : decode cX5_word 12 = .ok (.if_icmp .ge 38, 3) := by decide +kernel
theorem dX5_word_15 : decode cX5_word 15 = .ok (.lload_n 1, 1) := by decide +kernel
theorem dX5_word_16 : decode cX5_word 16 = .ok (.ldc2_w 245, 3) := by decide +kernel
theorem dX5_word_19 : decode cX5_word 19 = .ok (.lcmp, 1) := by decide +kernel
theorem dX5_word_20 : decode cX5_word 20 = .ok (.ifCond .le 7, 3) := by decide +kernel
theorem dX5_word_23 : decode cX5_word 23 = .ok (.lload_n 1, 1) := by decide +kernel
theorem dX5_word_24 : decode cX5_word 24 = .ok (.goto 19, 3) := by decide +kernel
theorem dX5_word_27 : decode cX5_word 27 = .ok (.ldc2_w 247, 3) := by decide +kernel
theorem dX5_word_30 : decode cX5_word 30 = .ok (.lload_n 1, 1) := by decide +kernel
theorem dX5_word_31 : decode cX5_word 31 = .ok (.lmul, 1) := by decide +kernel
theorem dX5_word_32 : decode cX5_word 32 = .ok (.aload_n 0, 1) := by decide +kernel
theorem dX5_word_33 : decode cX5_word 33 = .ok (.getfield 25, 3) := by decide +kernel
theorem dX5_word_36 : decode cX5_word 36 = .ok (.iload_n 3, 1) := by decide +kernel
theorem dX5_word_37 : decode cX5_word 37 = .ok (.iaload, 1) := by decide +kernel
theorem dX5_word_38 : decode cX5_word 38 = .ok (.bipush 96, 2) := by decide +kernel
theorem dX5_word_40 : decode cX5_word 40 = .ok (.isub, 1) := by decide +kernel
theorem dX5_word_41 : decode cX5_word 41 = .ok (.i2l, 1) := by decide +kernel
theorem dX5_word_42 : decode cX5_word 42 = .ok (.ladd, 1) := by decide +kernel
theorem dX5_word_43 : decode cX5_word 43 = .ok (.lstore_n 1, 1) := by decide +kernel
theorem dX5_word_44 : decode cX5_word 44 = .ok (.iinc 3 1, 3) := by decide +kernel
theorem dX5_word_47 : decode cX5_word 47 = .ok (.goto (-40), 3) := by decide +kernel
theorem dX5_word_50 : decode cX5_word 50 = .ok (.aload_n 0, 1) := by decide +kernel
theorem dX5_word_51 : decode cX5_word 51 = .ok (.getfield 238, 3) := by decide +kernel
theorem dX5_word_54 : decode cX5_word 54 = .ok (.ifCond .ne 17, 3) := by decide +kernel
theorem dX5_word_57 : decode cX5_word 57 = .ok (.aload_n 0, 1) := by decide +kernel
theorem dX5_word_58 : decode cX5_word 58 = .ok (.aload_n 0, 1) := by decide +kernel
theorem dX5_word_59 : decode cX5_word 59 = .ok (.getfield 226, 3) := by decide +kernel
theorem dX5_word_62 : decode cX5_word 62 = .ok (.invokevirtual 229, 3) := by decide +kernel
theorem dX5_word_65 : decode cX5_word 65 = .ok (.invokestatic 232, 3) := by decide +kernel
theorem dX5_word_68 : decode cX5_word 68 = .ok (.ifCond .ne 7, 3) := by decide +kernel
theorem dX5_word_71 : decode cX5_word 71 = .ok (.lconst 0, 1) := by decide +kernel
theorem dX5_word_72 : decode cX5_word 72 = .ok (.goto 4, 3) := by decide +kernel
theorem dX5_word_75 : decode cX5_word 75 = .ok (.lload_n 1, 1) := by decide +kernel
theorem dX5_word_76 : decode cX5_word 76 = .ok (.lreturn, 1) := by decide +kernel
def finX5_word (M : Mi) (N : Ml) : Int64 → Option Value × Mi × Ml := fun b => (some (Value.long b), M, N)
noncomputable def fX5_word_7 (M : Mi)  : Nat → Int64 → Int32 → Option (Int64)
  | 0 => fun _ _ => none
  | n + 1 => fun x1 x3 => (if (M 6 4) ≤ x3 then (if (M 6 6) = 0 then (Option.bind (fX5_byteAt M (M 6 3)) (fun a3 => (if (fX5_isLetter a3) = 0 then (some 0) else (some x1)))) else (some 0)) else (if x1 ≤ 36028797018963967 then (if inb x3 120 then ((fX5_word_7 M n) ((32 * x1) + (Int32.toInt64 ((M 5 (ix x3)) - 96))) (x3 + 1)) else none) else ((fX5_word_7 M n) x1 (x3 + 1))))
theorem bX5_word_7 {Z : Zt} {E : Ec} {M : Mi} {N : Ml} (C : Ok 2 Z E cX5_word 4 RX5 (some .long) 2)    : ∀ (n : Nat) (x1 : Int64) (x3 : Int32), GT Z E 4 (finX5_word M N) 7 [(0, .ref (zA Z 6 0)), (1, .long x1), (3, .int x3)] [] M N (fX5_word_7 M n x1 x3) := by
  intro n
  induction n with
  | zero => intro x1 x3; exact r_none
  | succ n ih =>
    intro x1 x3
    rw [fX5_word_7]
    refine r_iload_n C dX5_word_7 3 2 rfl rfl ?_
    refine r_aload_n C dX5_word_8 0 0 rfl rfl ?_
    refine gf_X5_223 (v := (M 6 4)) C dX5_word_9 rfl ?_
    refine r_ic_ge (tgt := 50) C dX5_word_12 (by decide) (fun c1 => ?_) (fun c1 => ?_)
    · refine r_aload_n C dX5_word_50 0 0 rfl rfl ?_
      refine gf_X5_238 (v := (M 6 6)) C dX5_word_51 rfl ?_
      refine r_if_ne (tgt := 71) C dX5_word_54 (by decide) (fun c2 => ?_) (fun c2 => ?_)
      · refine r_lconst (v := 0) C dX5_word_71 (by decide) ?_
        refine r_goto (tgt := 76) C dX5_word_72 (by decide) ?_
        exact r_lret C dX5_word_76 rfl
      · refine r_aload_n C dX5_word_57 0 0 rfl rfl ?_
        refine r_aload_n C dX5_word_58 0 0 rfl rfl ?_
        refine gf_X5_226 (v := (M 6 3)) C dX5_word_59 rfl ?_
        refine r_bind (fun a3 ha3 => ?_)
        refine r_callV (rest := []) (st2 := [.int a3]) C (mX5_byteAt (eL E) C.z M N (M 6 3) a3 ha3) lk_X5_229 (rvM C) (by decide) rfl rfl (Nat.le_of_ble_eq_true rfl) dX5_word_62 rfl ?_
        refine r_callS (rest := []) (st2 := [.int (fX5_isLetter a3)]) C (mX5_isLetter (eL E) C.z _ _ a3) lk_X5_232 (by decide) rfl rfl (Nat.le_of_ble_eq_true rfl) dX5_word_65 rfl ?_
        refine r_if_ne (tgt := 75) C dX5_word_68 (by decide) (fun c4 => ?_) (fun c4 => ?_)
        · refine r_lload_n C dX5_word_75 1 1 rfl rfl ?_
          exact r_lret C dX5_word_76 rfl
        · refine r_lconst (v := 0) C dX5_word_71 (by decide) ?_
          refine r_goto (tgt := 76) C dX5_word_72 (by decide) ?_
          exact r_lret C dX5_word_76 rfl
    · refine r_lload_n C dX5_word_15 1 1 rfl rfl ?_
      refine r_ldc2 (v := 36028797018963967) C dX5_word_16 wd_1177 ?_
      refine r_lc_le (tgt := 27) C dX5_word_19 dX5_word_20 (by decide) (fun c5 => ?_) (fun c5 => ?_)
      · refine r_ldc2 (v := 32) C dX5_word_27 wd_1178 ?_
        refine r_lload_n C dX5_word_30 1 1 rfl rfl ?_
        refine r_lmul C dX5_word_31 ?_
        refine r_aload_n C dX5_word_32 0 0 rfl rfl ?_
        refine gf_X5_25 C dX5_word_33 ?_
        refine r_iload_n C dX5_word_36 3 2 rfl rfl ?_
        refine r_guard (fun h6 => ?_)
        refine ald_M (v := (M 5 (ix x3))) C mI_5 h6 rfl dX5_word_37 ?_
        refine r_bipush (v := 96) C dX5_word_38 (by decide) ?_
        refine r_isub C dX5_word_40 ?_
        refine r_i2l C dX5_word_41 ?_
        refine r_ladd C dX5_word_42 ?_
        refine r_lstore_n (lv' := [(1, .long ((32 * x1) + (Int32.toInt64 ((M 5 (ix x3)) - 96)))), (0, .ref (zA Z 6 0)), (3, .int x3)]) C dX5_word_43 1 rfl (by decide) rfl ?_
        refine r_iinc (v := (x3 + 1)) (lv' := [(3, .int (x3 + 1)), (1, .long ((32 * x1) + (Int32.toInt64 ((M 5 (ix x3)) - 96)))), (0, .ref (zA Z 6 0))]) C dX5_word_44 2 rfl rfl (by decide) rfl ?_
        refine r_goto (tgt := 7) C dX5_word_47 (by decide) ?_
        refine r_lv [2, 1, 0] (lv' := [(0, .ref (zA Z 6 0)), (1, .long ((32 * x1) + (Int32.toInt64 ((M 5 (ix x3)) - 96)))), (3, .int (x3 + 1))]) rfl ?_
        exact ih ((32 * x1) + (Int32.toInt64 ((M 5 (ix x3)) - 96))) (x3 + 1)
      · refine r_lload_n C dX5_word_23 1 1 rfl rfl ?_
        refine r_goto (tgt := 43) C dX5_word_24 (by decide) ?_
        refine r_lstore_n (lv' := [(1, .long x1), (0, .ref (zA Z 6 0)), (3, .int x3)]) C dX5_word_43 1 rfl (by decide) rfl ?_
        refine r_iinc (v := (x3 + 1)) (lv' := [(3, .int (x3 + 1)), (1, .long x1), (0, .ref (zA Z 6 0))]) C dX5_word_44 2 rfl rfl (by decide) rfl ?_
        refine r_goto (tgt := 7) C dX5_word_47 (by decide) ?_
        refine r_lv [2, 1, 0] (lv' := [(0, .ref (zA Z 6 0)), (1, .long x1), (3, .int (x3 + 1))]) rfl ?_
        exact ih x1 (x3 + 1)
noncomputable def fX5_word (M : Mi)   : Option (Int64) := (fX5_word_7 M fu 0 (M 6 3))
theorem bX5_word {Z : Zt} {E : Ec} {M : Mi} {N : Ml} (C : Ok 2 Z E cX5_word 4 RX5 (some .long) 2)      : GT Z E 4 (finX5_word M N) 0 [(0, .ref (zA Z 6 0))] [] M N (fX5_word M ) := by
  unfold fX5_word
  refine r_lconst (v := 0) C dX5_word_0 (by decide) ?_
  refine r_lstore_n (lv' := [(1, .long 0), (0, .ref (zA Z 6 0))]) C dX5_word_1 1 rfl (by decide) rfl ?_
  refine r_aload_n C dX5_word_2 0 1 rfl rfl ?_
  refine gf_X5_226 (v := (M 6 3)) C dX5_word_3 rfl ?_
  refine r_istore_n (lv' := [(3, .int (M 6 3)), (1, .long 0), (0, .ref (zA Z 6 0))]) C dX5_word_6 3 rfl (by decide) rfl ?_
  refine r_lv [2, 1, 0] (lv' := [(0, .ref (zA Z 6 0)), (1, .long 0), (3, .int (M 6 3))]) rfl ?_
  exact bX5_word_7 C fu 0 (M 6 3)
theorem mX5_word (l : Launch) {Z : Zt} (hZ : Zok 2 Z) (M : Mi) (N : Ml) (b : Int64) (hb : fX5_word M = some b) : Ct 2 Z l yX5_word cX5_word 4 (some .long) 2 [.ref (zA Z 6 0)] M N (some (Value.long b), M, N) :=
  metG (fin := (finX5_word M N)) (by decide) (Nat.le_of_ble_eq_true rfl) (fun E _ C => bX5_word C) hb
