theorem dX5_number_0 : decode cX5_number 0 = .ok (.aload_n 0, 1) := by decide +kernel
theorem dX5_number_1 : decode cX5_number 1 = .ok (.getfield 238, 3) := by decide +kernel
theorem dX5_number_4 : decode cX5_number 4 = .ok (.ifCond .eq 4, 3) := by decide +kernel
theorem dX5_number_7 : decode cX5_number 7 = .ok (.return_, 1) := by decide +kernel
theorem dX5_number_8 : decode cX5_number 8 = .ok (.aload_n 0, 1) := by decide +kernel
theorem dX5_number_9 : decode cX5_number 9 = .ok (.aload_n 0, 1) := by decide +kernel
theorem dX5_number_10 : decode cX5_number 10 = .ok (.getfield 226, 3) := by decide +kernel
theorem dX5_number_13 : decode cX5_number 13 = .ok (.invokevirtual 229, 3) := by decide +kernel
theorem dX5_number_16 : decode cX5_number 16 = .ok (.invokestatic 235, 3) := by decide +kernel
theorem dX5_number_19 : decode cX5_number 19 = .ok (.istore_n 3, 1) := by decide +kernel
theorem dX5_number_20 : decode cX5_number 20 = .ok (.iconst 0, 1) := by decide +kernel
theorem dX5_number_21 : decode cX5_number 21 = .ok (.istore 4, 2) := by decide +kernel
theorem dX5_number_23 : decode cX5_number 23 = .ok (.aload_n 0, 1) := by decide +kernel
theorem dX5_number_24 : decode cX5_number 24 = .ok (.getfield 226, 3) := by decide +kernel
theorem dX5_number_27 : decode cX5_number 27 = .ok (.istore 5, 2) := by decide +kernel
theorem dX5_number_29 : decode cX5_number 29 = .ok (.iload 5, 2) := by decide +kernel
theorem dX5_number_31 : decode cX5_number 31 = .ok (.aload_n 0, 1) := by decide +kernel
theorem dX5_number_32 : decode cX5_number 32 = .ok (.getfield 223, 3) := by decide +kernel
theorem dX5_number_35 : decode cX5_number 35 = .ok (.if_icmp .ge 44, 3) := by decide +kernel
theorem dX5_number_38 : decode cX5_number 38 = .ok (.iload_n 3, 1) := by decide +kernel
theorem dX5_number_39 : decode cX5_number 39 = .ok (.ifCond .eq 40, 3) := by decide +kernel
theorem dX5_number_42 : decode cX5_number 42 = .ok (.iload 4, 2) := by decide +kernel
theorem dX5_number_44 : decode cX5_number 44 = .ok (.sipush 999, 3) := by decide +kernel
theorem dX5_number_47 : decode cX5_number 47 = .ok (.if_icmp .le 8, 3) := by decide +kernel
theorem dX5_number_50 : decode cX5_number 50 = .ok (.iload 4, 2) := by decide +kernel
theorem dX5_number_52 : decode cX5_number 52 = .ok (.goto 19, 3) := by decide +kernel
theorem dX5_number_55 : decode cX5_number 55 = .ok (.bipush 10, 2) := by decide +kernel
theorem dX5_number_57 : decode cX5_number 57 = .ok (.iload 4, 2) := by decide +kernel
theorem dX5_number_59 : decode cX5_number 59 = .ok (.imul, 1) := by decide +kernel
theorem dX5_number_60 : decode cX5_number 60 = .ok (.aload_n 0, 1) := by decide +kernel
theorem dX5_number_61 : decode cX5_number 61 = .ok (.getfield 25, 3) := by decide +kernel
theorem dX5_number_64 : decode cX5_number 64 = .ok (.iload 5, 2) := by decide +kernel
theorem dX5_number_66 : decode cX5_number 66 = .ok (.iaload, 1) := by decide +kernel
theorem dX5_number_67 : decode cX5_number 67 = .ok (.iadd, 1) := by decide +kernel
theorem dX5_number_68 : decode cX5_number 68 = .ok (.bipush 48, 2) := by decide +kernel
theorem dX5_number_70 : decode cX5_number 70 = .ok (.isub, 1) := by decide +kernel
theorem dX5_number_71 : decode cX5_number 71 = .ok (.istore 4, 2) := by decide +kernel
theorem dX5_number_73 : decode cX5_number 73 = .ok (.iinc 5 1, 3) := by decide +kernel
theorem dX5_number_76 : decode cX5_number 76 = .ok (.goto (-47), 3) := by decide +kernel
theorem dX5_number_79 : decode cX5_number 79 = .ok (.aload_n 0, 1) := by decide +kernel
theorem dX5_number_80 : decode cX5_number 80 = .ok (.iload 4, 2) := by decide +kernel
theorem dX5_number_82 : decode cX5_number 82 = .ok (.putfield 249, 3) := by decide +kernel
theorem dX5_number_85 : decode cX5_number 85 = .ok (.aload_n 0, 1) := by decide +kernel
theorem dX5_number_86 : decode cX5_number 86 = .ok (.iload_n 3, 1) := by decide +kernel
theorem dX5_number_87 : decode cX5_number 87 = .ok (.ifCond .eq 20, 3) := by decide +kernel
theorem dX5_number_90 : decode cX5_number 90 = .ok (.iload 4, 2) := by decide +kernel
theorem dX5_number_92 : decode cX5_number 92 = .ok (.i2l, 1) := by decide +kernel
theorem dX5_number_93 : decode cX5_number 93 = .ok (.iload_n 1, 1) := by decide +kernel
theorem dX5_number_94 : decode cX5_number 94 = .ok (.i2l, 1) := by decide +kernel
theorem dX5_number_95 : decode cX5_number 95 = .ok (.iload_n 2, 1) := by decide +kernel
theorem dX5_number_96 : decode cX5_number 96 = .ok (.i2l, 1) := by decide +kernel
theorem dX5_number_97 : decode cX5_number 97 = .ok (.invokestatic 44, 3) := by decide +kernel
theorem dX5_number_100 : decode cX5_number 100 = .ok (.ifCond .eq 7, 3) := by decide +kernel
theorem dX5_number_103 : decode cX5_number 103 = .ok (.iconst 1, 1) := by decide +kernel
theorem dX5_number_104 : decode cX5_number 104 = .ok (.goto 4, 3) := by decide +kernel
theorem dX5_number_107 : decode cX5_number 107 = .ok (.iconst 0, 1) := by decide +kernel
theorem dX5_number_108 : decode cX5_number 108 = .ok (.invokevirtual 252, 3) := by decide +kernel
theorem dX5_number_111 : decode cX5_number 111 = .ok (.return_, 1) := by decide +kernel
def finX5_number (N : Ml) : Mi → Option Value × Mi × Ml := fun b => (none, b, N)
noncomputable def fX5_number_108   (M : Mi) (s0 : Int32) : Option (Mi) := (Option.bind (fX5_wants M s0) (fun a5 => (some a5)))
theorem bX5_number_108 {Z : Zt} {E : Ec} {N : Ml} (C : Ok 2 Z E cX5_number 6 RX5 none 4)    (M : Mi) (s0 : Int32)  : GT Z E 6 (finX5_number N) 108 [] [.int s0, .ref (zA Z 6 0)] M N (fX5_number_108 M s0) := by
  unfold fX5_number_108
  refine r_bind (fun a5 ha5 => ?_)
  refine r_callV (rest := []) (st2 := []) C (mX5_wants (eL E) C.z M N s0 a5 ha5) lk_X5_252 (rvM C) (by decide) rfl rfl (Nat.le_of_ble_eq_true rfl) dX5_number_108 rfl ?_
  exact r_vret C dX5_number_111 rfl
noncomputable def fX5_number_107   (M : Mi) : Option (Mi) := (fX5_number_108 M 0)
theorem bX5_number_107 {Z : Zt} {E : Ec} {N : Ml} (C : Ok 2 Z E cX5_number 6 RX5 none 4)    (M : Mi)  : GT Z E 6 (finX5_number N) 107 [] [.ref (zA Z 6 0)] M N (fX5_number_107 M) := by
  unfold fX5_number_107
  refine r_iconst (v := 0) C dX5_number_107 (by decide) ?_
  exact bX5_number_108 C M 0
noncomputable def fX5_number_79   (M : Mi) (x1 : Int32) (x2 : Int32) (x3 : Int32) (x4 : Int32) : Option (Mi) := (if x3 = 0 then (fX5_number_107 (wM M 6 5 x4)) else (if (fX5_in (Int32.toInt64 x4) (Int32.toInt64 x1) (Int32.toInt64 x2)) = 0 then (fX5_number_107 (wM M 6 5 x4)) else (fX5_number_108 (wM M 6 5 x4) 1)))
theorem bX5_number_79 {Z : Zt} {E : Ec} {N : Ml} (C : Ok 2 Z E cX5_number 6 RX5 none 4)    (M : Mi) (x1 : Int32) (x2 : Int32) (x3 : Int32) (x4 : Int32)  : GT Z E 6 (finX5_number N) 79 [(0, .ref (zA Z 6 0)), (1, .int x1), (2, .int x2), (3, .int x3), (4, .int x4)] [] M N (fX5_number_79 M x1 x2 x3 x4) := by
  unfold fX5_number_79
  refine r_aload_n C dX5_number_79 0 0 rfl rfl ?_
  refine r_iload C dX5_number_80 4 rfl ?_
  refine pf_X5_249 (M' := (wM M 6 5 x4)) C dX5_number_82 rfl ?_
  refine r_aload_n C dX5_number_85 0 0 rfl rfl ?_
  refine r_iload_n C dX5_number_86 3 3 rfl rfl ?_
  refine r_if_eq (tgt := 107) C dX5_number_87 (by decide) (fun c4 => ?_) (fun c4 => ?_)
  · refine r_lv [] (lv' := []) rfl ?_
    exact bX5_number_107 C (wM M 6 5 x4)
  · refine r_iload C dX5_number_90 4 rfl ?_
    refine r_i2l C dX5_number_92 ?_
    refine r_iload_n C dX5_number_93 1 1 rfl rfl ?_
    refine r_i2l C dX5_number_94 ?_
    refine r_iload_n C dX5_number_95 2 2 rfl rfl ?_
    refine r_i2l C dX5_number_96 ?_
    refine r_callS (rest := [.ref (zA Z 6 0)]) (st2 := [.int (fX5_in (Int32.toInt64 x4) (Int32.toInt64 x1) (Int32.toInt64 x2)), .ref (zA Z 6 0)]) C (mX5_in (eL E) C.z _ _ (Int32.toInt64 x4) (Int32.toInt64 x1) (Int32.toInt64 x2)) lk_X5_44 (by decide) rfl rfl (Nat.le_of_ble_eq_true rfl) dX5_number_97 rfl ?_
    refine r_if_eq (tgt := 107) C dX5_number_100 (by decide) (fun c6 => ?_) (fun c6 => ?_)
    · refine r_lv [] (lv' := []) rfl ?_
      exact bX5_number_107 C (wM M 6 5 x4)
    · refine r_iconst (v := 1) C dX5_number_103 (by decide) ?_
      refine r_goto (tgt := 108) C dX5_number_104 (by decide) ?_
      refine r_lv [] (lv' := []) rfl ?_
      exact bX5_number_108 C (wM M 6 5 x4) 1
noncomputable def fX5_number_29   : Nat → Mi → Int32 → Int32 → Int32 → Int32 → Int32 → Option (Mi)
  | 0 => fun _ _ _ _ _ _ => none
  | n + 1 => fun M x1 x2 x3 x4 x5 => (if (M 6 4) ≤ x5 then (fX5_number_79 M x1 x2 x3 x4) else (if x3 = 0 then (fX5_number_79 M x1 x2 x3 x4) else (if x4 ≤ 999 then (if inb x5 120 then ((fX5_number_29 n) M x1 x2 x3 (((10 * x4) + (M 5 (ix x5))) - 48) (x5 + 1)) else none) else ((fX5_number_29 n) M x1 x2 x3 x4 (x5 + 1)))))
theorem bX5_number_29 {Z : Zt} {E : Ec} {N : Ml} (C : Ok 2 Z E cX5_number 6 RX5 none 4)    : ∀ (n : Nat) (M : Mi) (x1 : Int32) (x2 : Int32) (x3 : Int32) (x4 : Int32) (x5 : Int32), GT Z E 6 (finX5_number N) 29 [(0, .ref (zA Z 6 0)), (1, .int x1), (2, .int x2), (3, .int x3), (4, .int x4), (5, .int x5)] [] M N (fX5_number_29 n M x1 x2 x3 x4 x5) := by
  intro n
  induction n with
  | zero => intro M x1 x2 x3 x4 x5; exact r_none
  | succ n ih =>
    intro M x1 x2 x3 x4 x5
    rw [fX5_number_29]
    refine r_iload C dX5_number_29 5 rfl ?_
    refine r_aload_n C dX5_number_31 0 0 rfl rfl ?_
    refine gf_X5_223 (v := (M 6 4)) C dX5_number_32 rfl ?_
    refine r_ic_ge (tgt := 79) C dX5_number_35 (by decide) (fun c3 => ?_) (fun c3 => ?_)
    · refine r_lv [0, 1, 2, 3, 4] (lv' := [(0, .ref (zA Z 6 0)), (1, .int x1), (2, .int x2), (3, .int x3), (4, .int x4)]) rfl ?_
      exact bX5_number_79 C M x1 x2 x3 x4
    · refine r_iload_n C dX5_number_38 3 3 rfl rfl ?_
      refine r_if_eq (tgt := 79) C dX5_number_39 (by decide) (fun c7 => ?_) (fun c7 => ?_)
      · refine r_lv [0, 1, 2, 3, 4] (lv' := [(0, .ref (zA Z 6 0)), (1, .int x1), (2, .int x2), (3, .int x3), (4, .int x4)]) rfl ?_
        exact bX5_number_79 C M x1 x2 x3 x4
      · refine r_iload C dX5_number_42 4 rfl ?_
        refine r_sipush (v := 999) C dX5_number_44 (by decide) ?_
        refine r_ic_le (tgt := 55) C dX5_number_47 (by decide) (fun c8 => ?_) (fun c8 => ?_)
        · refine r_bipush (v := 10) C dX5_number_55 (by decide) ?_
          refine r_iload C dX5_number_57 4 rfl ?_
          refine r_imul C dX5_number_59 ?_
          refine r_aload_n C dX5_number_60 0 0 rfl rfl ?_
          refine gf_X5_25 C dX5_number_61 ?_
          refine r_iload C dX5_number_64 5 rfl ?_
          refine r_guard (fun h9 => ?_)
          refine ald_M (v := (M 5 (ix x5))) C mI_5 h9 rfl dX5_number_66 ?_
          refine r_iadd C dX5_number_67 ?_
          refine r_bipush (v := 48) C dX5_number_68 (by decide) ?_
          refine r_isub C dX5_number_70 ?_
          refine r_istore (lv' := [(4, .int (((10 * x4) + (M 5 (ix x5))) - 48)), (0, .ref (zA Z 6 0)), (1, .int x1), (2, .int x2), (3, .int x3), (5, .int x5)]) C dX5_number_71 (by decide) rfl ?_
          refine r_iinc (v := (x5 + 1)) (lv' := [(5, .int (x5 + 1)), (4, .int (((10 * x4) + (M 5 (ix x5))) - 48)), (0, .ref (zA Z 6 0)), (1, .int x1), (2, .int x2), (3, .int x3)]) C dX5_number_73 5 rfl rfl (by decide) rfl ?_
          refine r_goto (tgt := 29) C dX5_number_76 (by decide) ?_
          refine r_lv [2, 3, 4, 5, 1, 0] (lv' := [(0, .ref (zA Z 6 0)), (1, .int x1), (2, .int x2), (3, .int x3), (4, .int (((10 * x4) + (M 5 (ix x5))) - 48)), (5, .int (x5 + 1))]) rfl ?_
          exact ih M x1 x2 x3 (((10 * x4) + (M 5 (ix x5))) - 48) (x5 + 1)
        · refine r_iload C dX5_number_50 4 rfl ?_
          refine r_goto (tgt := 71) C dX5_number_52 (by decide) ?_
          refine r_istore (lv' := [(4, .int x4), (0, .ref (zA Z 6 0)), (1, .int x1), (2, .int x2), (3, .int x3), (5, .int x5)]) C dX5_number_71 (by decide) rfl ?_
          refine r_iinc (v := (x5 + 1)) (lv' := [(5, .int (x5 + 1)), (4, .int x4), (0, .ref (zA Z 6 0)), (1, .int x1), (2, .int x2), (3, .int x3)]) C dX5_number_73 5 rfl rfl (by decide) rfl ?_
          refine r_goto (tgt := 29) C dX5_number_76 (by decide) ?_
          refine r_lv [2, 3, 4, 5, 1, 0] (lv' := [(0, .ref (zA Z 6 0)), (1, .int x1), (2, .int x2), (3, .int x3), (4, .int x4), (5, .int (x5 + 1))]) rfl ?_
          exact ih M x1 x2 x3 x4 (x5 + 1)
noncomputable def fX5_number   (M : Mi) (x1 : Int32) (x2 : Int32) : Option (Mi) := (if (M 6 6) = 0 then (Option.bind (fX5_byteAt M (M 6 3)) (fun a2 => (fX5_number_29 fu M x1 x2 (fX5_isDigit a2) 0 (M 6 3)))) else (some M))
theorem bX5_number {Z : Zt} {E : Ec} {N : Ml} (C : Ok 2 Z E cX5_number 6 RX5 none 4)    (M : Mi) (x1 : Int32) (x2 : Int32)  : GT Z E 6 (finX5_number N) 0 [(0, .ref (zA Z 6 0)), (1, .int x1), (2, .int x2)] [] M N (fX5_number M x1 x2) := by
  unfold fX5_number
  refine r_aload_n C dX5_number_0 0 0 rfl rfl ?_
  refine gf_X5_238 (v := (M 6 6)) C dX5_number_1 rfl ?_
  refine r_if_eq (tgt := 8) C dX5_number_4 (by decide) (fun c1 => ?_) (fun c1 => ?_)
  · refine r_aload_n C dX5_number_8 0 0 rfl rfl ?_
    refine r_aload_n C dX5_number_9 0 0 rfl rfl ?_
    refine gf_X5_226 (v := (M 6 3)) C dX5_number_10 rfl ?_
    refine r_bind (fun a2 ha2 => ?_)
    refine r_callV (rest := []) (st2 := [.int a2]) C (mX5_byteAt (eL E) C.z M N (M 6 3) a2 ha2) lk_X5_229 (rvM C) (by decide) rfl rfl (Nat.le_of_ble_eq_true rfl) dX5_number_13 rfl ?_
    refine r_callS (rest := []) (st2 := [.int (fX5_isDigit a2)]) C (mX5_isDigit (eL E) C.z _ _ a2) lk_X5_235 (by decide) rfl rfl (Nat.le_of_ble_eq_true rfl) dX5_number_16 rfl ?_
    refine r_istore_n (lv' := [(3, .int (fX5_isDigit a2)), (0, .ref (zA Z 6 0)), (1, .int x1), (2, .int x2)]) C dX5_number_19 3 rfl (by decide) rfl ?_
    refine r_iconst (v := 0) C dX5_number_20 (by decide) ?_
    refine r_istore (lv' := [(4, .int 0), (3, .int (fX5_isDigit a2)), (0, .ref (zA Z 6 0)), (1, .int x1), (2, .int x2)]) C dX5_number_21 (by decide) rfl ?_
    refine r_aload_n C dX5_number_23 0 2 rfl rfl ?_
    refine gf_X5_226 (v := (M 6 3)) C dX5_number_24 rfl ?_
    refine r_istore (lv' := [(5, .int (M 6 3)), (4, .int 0), (3, .int (fX5_isDigit a2)), (0, .ref (zA Z 6 0)), (1, .int x1), (2, .int x2)]) C dX5_number_27 (by decide) rfl ?_
    refine r_lv [3, 4, 5, 2, 1, 0] (lv' := [(0, .ref (zA Z 6 0)), (1, .int x1), (2, .int x2), (3, .int (fX5_isDigit a2)), (4, .int 0), (5, .int (M 6 3))]) rfl ?_
    exact bX5_number_29 C fu M x1 x2 (fX5_isDigit a2) 0 (M 6 3)
  · exact r_vret C dX5_number_7 rfl
theorem mX5_number (l : Launch) {Z : Zt} (hZ : Zok 2 Z) (M : Mi) (N : Ml) (x1 : Int32) (x2 : Int32) (b : Mi) (hb : fX5_number M x1 x2 = some b) : Ct 2 Z l yX5_number cX5_number 6 none 4 [.ref (zA Z 6 0), .int x1, .int x2] M N (none, b, N) :=
  metG (fin := (finX5_number N)) (by decide) (Nat.le_of_ble_eq_true rfl) (fun E _ C => bX5_number C M x1 x2) hb
theorem dX5_kindHere_0 : decode cX5_kindHere 0 = .ok (.aload_n 0, 1) := by decide +kernel
theorem dX5_kindHere_1 : decode cX5_kindHere 1 = .ok (.invokevirtual 256, 3) := by decide +kernel
theorem dX5_kindHere_4 : decode cX5_kindHere 4 = .ok (.lstore_n 1, 1) := by decide +kernel
theorem dX5_kindHere_5 : decode cX5_kindHere 5 = .ok (.lload_n 1, 1) := by decide +kernel
theorem dX5_kindHere_6 : decode cX5_kindHere 6 = .ok (.ldc2_w 260, 3) := by decide +kernel
theorem dX5_kindHere_9 : decode cX5_kindHere 9 = .ok (.lcmp, 1) := by decide +kernel
theorem dX5_kindHere_10 : decode cX5_kindHere 10 = .ok (.ifCond .ne 7, 3) := by decide +kernel
theorem dX5_kindHere_13 : decode cX5_kindHere 13 = .ok (.iconst 0, 1) := by decide +kernel
theorem dX5_kindHere_14 : decode cX5_kindHere 14 = .ok (.goto 64, 3) := by decide +kernel
theorem dX5_kindHere_17 : decode cX5_kindHere 17 = .ok (.lload_n 1, 1) := by decide +kernel
theorem dX5_kindHere_18 : decode cX5_kindHere 18 = .ok (.ldc2_w 262, 3) := by decide +kernel
theorem dX5_kindHere_21 : decode cX5_kindHere 21 = .ok (.lcmp, 1) := by decide +kernel
theorem dX5_kindHere_22 : decode cX5_kindHere 22 = .ok (.ifCond .ne 7, 3) := by decide +kernel
theorem dX5_kindHere_25 : decode cX5_kindHere 25 = .ok (.iconst 1, 1) := by decide +kernel
theorem dX5_kindHere_26 : decode cX5_kindHere 26 = .ok (.goto 52, 3) := by decide +kernel
theorem dX5_kindHere_29 : decode cX5_kindHere 29 = .ok (.lload_n 1, 1) := by decide +kernel
theorem dX5_kindHere_30 : decode cX5_kindHere 30 = .ok (.ldc2_w 264, 3) := by decide +kernel
theorem dX5_kindHere_33 : decode cX5_kindHere 33 = .ok (.lcmp, 1) := by decide +kernel
theorem dX5_kindHere_34 : decode cX5_kindHere 34 = .ok (.ifCond .ne 7, 3) := by decide +kernel
theorem dX5_kindHere_37 : decode cX5_kindHere 37 = .ok (.iconst 2, 1) := by decide +kernel
theorem dX5_kindHere_38 : decode cX5_kindHere 38 = .ok (.goto 40, 3) := by decide +kernel
theorem dX5_kindHere_41 : decode cX5_kindHere 41 = .ok (.lload_n 1, 1) := by decide +kernel
theorem dX5_kindHere_42 : decode cX5_kindHere 42 = .ok (.ldc2_w 266, 3) := by decide +kernel
theorem dX5_kindHere_45 : decode cX5_kindHere 45 = .ok (.lcmp, 1) := by decide +kernel
theorem dX5_kindHere_46 : decode cX5_kindHere 46 = .ok (.ifCond .ne 7, 3) := by decide +kernel
theorem dX5_kindHere_49 : decode cX5_kindHere 49 = .ok (.iconst 3, 1) := by decide +kernel
theorem dX5_kindHere_50 : decode cX5_kindHere 50 = .ok (.goto 28, 3) := by decide +kernel
theorem dX5_kindHere_53 : decode cX5_kindHere 53 = .ok (.lload_n 1, 1) := by decide +kernel
theorem dX5_kindHere_54 : decode cX5_kindHere 54 = .ok (.ldc2_w 268, 3) := by decide +kernel
theorem dX5_kindHere_57 : decode cX5_kindHere 57 = .ok (.lcmp, 1) := by decide +kernel
theorem dX5_kindHere_58 : decode cX5_kindHere 58 = .ok (.ifCond .ne 7, 3) := by decide +kernel
theorem dX5_kindHere_61 : decode cX5_kindHere 61 = .ok (.iconst 4, 1) := by decide +kernel
theorem dX5_kindHere_62 : decode cX5_kindHere 62 = .ok (.goto 16, 3) := by decide +kernel
theorem dX5_kindHere_65 : decode cX5_kindHere 65 = .ok (.lload_n 1, 1) := by decide +kernel
theorem dX5_kindHere_66 : decode cX5_kindHere 66 = .ok (.ldc2_w 270, 3) := by decide +kernel
theorem dX5_kindHere_69 : decode cX5_kindHere 69 = .ok (.lcmp, 1) := by decide +kernel
theorem dX5_kindHere_70 : decode cX5_kindHere 70 = .ok (.ifCond .ne 7, 3) := by decide +kernel
theorem dX5_kindHere_73 : decode cX5_kindHere 73 = .ok (.iconst 5, 1) := by decide +kernel
theorem dX5_kindHere_74 : decode cX5_kindHere 74 = .ok (.goto 4, 3) := by decide +kernel
theorem dX5_kindHere_77 : decode cX5_kindHere 77 = .ok (.iconst (-1), 1) := by decide +kernel
theorem dX5_kindHere_78 : decode cX5_kindHere 78 = .ok (.ireturn, 1) := by decide +kernel
def finX5_kindHere (M : Mi) (N : Ml) : Int32 → Option Value × Mi × Ml := fun b => (some (Value.int b), M, N)
noncomputable def fX5_kindHere (M : Mi)   : Option (Int32) := (Option.bind (fX5_word M) (fun a1 => (if a1 = 703926347365 then (some 0) else (if a1 = 26727879 then (some 1) else (if a1 = 12343 then (some 2) else (if a1 = 15748 then (some 3) else (if a1 = 551282815156 then (some 4) else (if a1 = 3193326 then (some 5) else (some (-1))))))))))
theorem bX5_kindHere {Z : Zt} {E : Ec} {M : Mi} {N : Ml} (C : Ok 2 Z E cX5_kindHere 3 RX5 (some .int) 3)      : GT Z E 3 (finX5_kindHere M N) 0 [(0, .ref (zA Z 6 0))] [] M N (fX5_kindHere M ) := by
  unfold fX5_kindHere
  refine r_aload_n C dX5_kindHere_0 0 0 rfl rfl ?_
  refine r_bind (fun a1 ha1 => ?_)
  refine r_callV (rest := []) (st2 := [.long a1]) C (mX5_word (eL E) C.z M N a1 ha1) lk_X5_256 (rvM C) (by decide) rfl rfl (Nat.le_of_ble_eq_true rfl) dX5_kindHere_1 rfl ?_
  refine r_lstore_n (lv' := [(1, .long a1), (0, .ref (zA Z 6 0))]) C dX5_kindHere_4 1 rfl (by decide) rfl ?_
  refine r_lload_n C dX5_kindHere_5 1 0 rfl rfl ?_
  refine r_ldc2 (v := 703926347365) C dX5_kindHere_6 wd_1179 ?_
  refine r_lc_ne (tgt := 17) C dX5_kindHere_9 dX5_kindHere_10 (by decide) (fun c2 => ?_) (fun c2 => ?_)
  · refine r_lload_n C dX5_kindHere_17 1 0 rfl rfl ?_
    refine r_ldc2 (v := 26727879) C dX5_kindHere_18 wd_1180 ?_
    refine r_lc_ne (tgt := 29) C dX5_kindHere_21 dX5_kindHere_22 (by decide) (fun c3 => ?_) (fun c3 => ?_)
    · refine r_lload_n C dX5_kindHere_29 1 0 rfl rfl ?_
      refine r_ldc2 (v := 12343) C dX5_kindHere_30 wd_1181 ?_
      refine r_lc_ne (tgt := 41) C dX5_kindHere_33 dX5_kindHere_34 (by decide) (fun c4 => ?_) (fun c4 => ?_)
      · refine r_lload_n C dX5_kindHere_41 1 0 rfl rfl ?_
        refine r_ldc2 (v := 15748) C dX5_kindHere_42 wd_1182 ?_
        refine r_lc_ne (tgt := 53) C dX5_kindHere_45 dX5_kindHere_46 (by decide) (fun c5 => ?_) (fun c5 => ?_)
        · refine r_lload_n C dX5_kindHere_53 1 0 rfl rfl ?_
          refine r_ldc2 (v := 551282815156) C dX5_kindHere_54 wd_1183 ?_
          refine r_lc_ne (tgt := 65) C dX5_kindHere_57 dX5_kindHere_58 (by decide) (fun c6 => ?_) (fun c6 => ?_)
          · refine r_lload_n C dX5_kindHere_65 1 0 rfl rfl ?_
            refine r_ldc2 (v := 3193326) C dX5_kindHere_66 wd_1184 ?_
            refine r_lc_ne (tgt := 77) C dX5_kindHere_69 dX5_kindHere_70 (by decide) (fun c7 => ?_) (fun c7 => ?_)
            · refine r_iconst (v := (-1)) C dX5_kindHere_77 (by decide) ?_
              exact r_iret C dX5_kindHere_78 rfl
            · refine r_iconst (v := 5) C dX5_kindHere_73 (by decide) ?_
              refine r_goto (tgt := 78) C dX5_kindHere_74 (by decide) ?_
              exact r_iret C dX5_kindHere_78 rfl
          · refine r_iconst (v := 4) C dX5_kindHere_61 (by decide) ?_
            refine r_goto (tgt := 78) C dX5_kindHere_62 (by decide) ?_
            exact r_iret C dX5_kindHere_78 rfl
        · refine r_iconst (v := 3) C dX5_kindHere_49 (by decide) ?_
          refine r_goto (tgt := 78) C dX5_kindHere_50 (by decide) ?_
          exact r_iret C dX5_kindHere_78 rfl
      · refine r_iconst (v := 2) C dX5_kindHere_37 (by decide) ?_
        refine r_goto (tgt := 78) C dX5_kindHere_38 (by decide) ?_
        exact r_iret C dX5_kindHere_78 rfl
    · refine r_iconst (v := 1) C dX5_kindHere_25 (by decide) ?_
      refine r_goto (tgt := 78) C dX5_kindHere_26 (by decide) ?_
      exact r_iret C dX5_kindHere_78 rfl
  · refine r_iconst (v := 0) C dX5_kindHere_13 (by decide) ?_
    refine r_goto (tgt := 78) C dX5_kindHere_14 (by decide) ?_
    exact r_iret C dX5_kindHere_78 rfl
theorem mX5_kindHere (l : Launch) {Z : Zt} (hZ : Zok 2 Z) (M : Mi) (N : Ml) (b : Int32) (hb : fX5_kindHere M = some b) : Ct 2 Z l yX5_kindHere cX5_kindHere 3 (some .int) 3 [.ref (zA Z 6 0)] M N (some (Value.int b), M, N) :=
  metG (fin := (finX5_kindHere M N)) (by decide) (Nat.le_of_ble_eq_true rfl) (fun E _ C => bX5_kindHere C) hb
theorem dX5_placeHere_0 : decode cX5_placeHere 0 = .ok (.aload_n 0, 1) := by decide +kernel
theorem dX5_placeHere_1 : decode cX5_placeHere 1 = .ok (.invokevirtual 256, 3) := by decide +kernel
theorem dX5_placeHere_4 : decode cX5_placeHere 4 = .ok (.lstore_n 1, 1) := by decide +kernel
theorem dX5_placeHere_5 : decode cX5_placeHere 5 = .ok (.lload_n 1, 1) := by decide +kernel
theorem dX5_placeHere_6 : decode cX5_placeHere 6 = .ok (.ldc2_w 272, 3) := by decide +kernel
theorem dX5_placeHere_9 : decode cX5_placeHere 9 = .ok (.lcmp, 1) := by decide +kernel
theorem dX5_placeHere_10 : decode cX5_placeHere 10 = .ok (.ifCond .ne 7, 3) := by decide +kernel
theorem dX5_placeHere_13 : decode cX5_placeHere 13 = .ok (.iconst 0, 1) := by decide +kernel
theorem dX5_placeHere_14 : decode cX5_placeHere 14 = .ok (.goto 28, 3) := by decide +kernel
theorem dX5_placeHere_17 : decode cX5_placeHere 17 = .ok (.lload_n 1, 1) := by decide +kernel
theorem dX5_placeHere_18 : decode cX5_placeHere 18 = .ok (.ldc2_w 274, 3) := by decide +kernel
theorem dX5_placeHere_21 : decode cX5_placeHere 21 = .ok (.lcmp, 1) := by decide +kernel
theorem dX5_placeHere_22 : decode cX5_placeHere 22 = .ok (.ifCond .ne 7, 3) := by decide +kernel
theorem dX5_placeHere_25 : decode cX5_placeHere 25 = .ok (.iconst 1, 1) := by decide +kernel
theorem dX5_placeHere_26 : decode cX5_placeHere 26 = .ok (.goto 16, 3) := by decide +kernel
theorem dX5_placeHere_29 : decode cX5_placeHere 29 = .ok (.lload_n 1, 1) := by decide +kernel
theorem dX5_placeHere_30 : decode cX5_placeHere 30 = .ok (.ldc2_w 276, 3) := by decide +kernel
theorem dX5_placeHere_33 : decode cX5_placeHere 33 = .ok (.lcmp, 1) := by decide +kernel
theorem dX5_placeHere_34 : decode cX5_placeHere 34 = .ok (.ifCond .ne 7, 3) := by decide +kernel
theorem dX5_placeHere_37 : decode cX5_placeHere 37 = .ok (.iconst 2, 1) := by decide +kernel
theorem dX5_placeHere_38 : decode cX5_placeHere 38 = .ok (.goto 4, 3) := by decide +kernel
theorem dX5_placeHere_41 : decode cX5_placeHere 41 = .ok (.iconst (-1), 1) := by decide +kernel
theorem dX5_placeHere_42 : decode cX5_placeHere 42 = .ok (.ireturn, 1) := by decide +kernel
def finX5_placeHere (M : Mi) (N : Ml) : Int32 → Option Value × Mi × Ml := fun b => (some (Value.int b), M, N)
noncomputable def fX5_placeHere (M : Mi)   : Option (Int32) := (Option.bind (fX5_word M) (fun a1 => (if a1 = 654910919 then (some 0) else (if a1 = 20186245 then (some 1) else (if a1 = 2262120 then (some 2) else (some (-1)))))))
theorem bX5_placeHere {Z : Zt} {E : Ec} {M : Mi} {N : Ml} (C : Ok 2 Z E cX5_placeHere 3 RX5 (some .int) 3)      : GT Z E 3 (finX5_placeHere M N) 0 [(0, .ref (zA Z 6 0))] [] M N (fX5_placeHere M ) := by
  unfold fX5_placeHere
  refine r_aload_n C dX5_placeHere_0 0 0 rfl rfl ?_
  refine r_bind (fun a1 ha1 => ?_)
  refine r_callV (rest := []) (st2 := [.long a1]) C (mX5_word (eL E) C.z M N a1 ha1) lk_X5_256 (rvM C) (by decide) rfl rfl (Nat.le_of_ble_eq_true rfl) dX5_placeHere_1 rfl ?_
  refine r_lstore_n (lv' := [(1, .long a1), (0, .ref (zA Z 6 0))]) C dX5_placeHere_4 1 rfl (by decide) rfl ?_
  refine r_lload_n C dX5_placeHere_5 1 0 rfl rfl ?_
  refine r_ldc2 (v := 654910919) C dX5_placeHere_6 wd_1218 ?_
  refine r_lc_ne (tgt := 17) C dX5_placeHere_9 dX5_placeHere_10 (by decide) (fun c2 => ?_) (fun c2 => ?_)
  · refine r_lload_n C dX5_placeHere_17 1 0 rfl rfl ?_
    refine r_ldc2 (v := 20186245) C dX5_placeHere_18 wd_1219 ?_
    refine r_lc_ne (tgt := 29) C dX5_placeHere_21 dX5_placeHere_22 (by decide) (fun c3 => ?_) (fun c3 => ?_)
    · refine r_lload_n C dX5_placeHere_29 1 0 rfl rfl ?_
      refine r_ldc2 (v := 2262120) C dX5_placeHere_30 wd_1220 ?_
      refine r_lc_ne (tgt := 41) C dX5_placeHere_33 dX5_placeHere_34 (by decide) (fun c4 => ?_) (fun c4 => ?_)
      · refine r_iconst (v := (-1)) C dX5_placeHere_41 (by decide) ?_
        exact r_iret C dX5_placeHere_42 rfl
      · refine r_iconst (v := 2) C dX5_placeHere_37 (by decide) ?_
        refine r_goto (tgt := 42) C dX5_placeHere_38 (by decide) ?_
        exact r_iret C dX5_placeHere_42 rfl
    · refine r_iconst (v := 1) C dX5_placeHere_25 (by decide) ?_
      refine r_goto (tgt := 42) C dX5_placeHere_26 (by decide) ?_
      exact r_iret C dX5_placeHere_42 rfl
  · refine r_iconst (v := 0) C dX5_placeHere_13 (by decide) ?_
    refine r_goto (tgt := 42) C dX5_placeHere_14 (by decide) ?_
    exact r_iret C dX5_placeHere_42 rfl
theorem mX5_placeHere (l : Launch) {Z : Zt} (hZ : Zok 2 Z) (M : Mi) (N : Ml) (b : Int32) (hb : fX5_placeHere M = some b) : Ct 2 Z l yX5_placeHere cX5_placeHere 3 (some .int) 3 [.ref (zA Z 6 0)] M N (some (Value.int b), M, N) :=
  metG (fin := (finX5_placeHere M N)) (by decide) (Nat.le_of_ble_eq_true rfl) (fun E _ C => bX5_placeHere C) hb
theorem dX5_cellHere_0 : decode cX5_cellHere 0 = .ok (.aload_n 0, 1) := by decide +kernel
theorem dX5_cellHere_1 : decode cX5_cellHere 1 = .ok (.iconst 0, 1) := by decide +kernel
theorem dX5_cellHere_2 : decode cX5_cellHere 2 = .ok (.bipush 29, 2) := by decide +kernel
theorem dX5_cellHere_4 : decode cX5_cellHere 4 = .ok (.invokevirtual 278, 3) := by decide +kernel
theorem dX5_cellHere_7 : decode cX5_cellHere 7 = .ok (.return_, 1) := by decide +kernel
def finX5_cellHere (N : Ml) : Mi → Option Value × Mi × Ml := fun b => (none, b, N)
noncomputable def fX5_cellHere   (M : Mi) : Option (Mi) := (Option.bind (fX5_number M 0 29) (fun a1 => (some a1)))
theorem bX5_cellHere {Z : Zt} {E : Ec} {N : Ml} (C : Ok 2 Z E cX5_cellHere 1 RX5 none 5)    (M : Mi)  : GT Z E 1 (finX5_cellHere N) 0 [(0, .ref (zA Z 6 0))] [] M N (fX5_cellHere M) := by
  unfold fX5_cellHere
  refine r_aload_n C dX5_cellHere_0 0 0 rfl rfl ?_
  refine r_iconst (v := 0) C dX5_cellHere_1 (by decide) ?_
  refine r_bipush (v := 29) C dX5_cellHere_2 (by decide) ?_
  refine r_bind (fun a1 ha1 => ?_)
  refine r_callV (rest := []) (st2 := []) C (mX5_number (eL E) C.z M N 0 29 a1 ha1) lk_X5_278 (rvM C) (by decide) rfl rfl (Nat.le_of_ble_eq_true rfl) dX5_cellHere_4 rfl ?_
  exact r_vret C dX5_cellHere_7 rfl
theorem mX5_cellHere (l : Launch) {Z : Zt} (hZ : Zok 2 Z) (M : Mi) (N : Ml) (b : Mi) (hb : fX5_cellHere M = some b) : Ct 2 Z l yX5_cellHere cX5_cellHere 1 none 5 [.ref (zA Z 6 0)] M N (none, b, N) :=
  metG (fin := (finX5_cellHere N)) (by decide) (Nat.le_of_ble_eq_true rfl) (fun E _ C => bX5_cellHere C M) hb
theorem dX5_tortoiseItem_0 : decode cX5_tortoiseItem 0 = .ok (.aload_n 0, 1) := by decide +kernel
theorem dX5_tortoiseItem_1 : decode cX5_tortoiseItem 1 = .ok (.aload_n 0, 1) := by decide +kernel
theorem dX5_tortoiseItem_2 : decode cX5_tortoiseItem 2 = .ok (.getfield 7, 3) := by decide +kernel
theorem dX5_tortoiseItem_5 : decode cX5_tortoiseItem 5 = .ok (.iconst 1, 1) := by decide +kernel
theorem dX5_tortoiseItem_6 : decode cX5_tortoiseItem 6 = .ok (.iaload, 1) := by decide +kernel
theorem dX5_tortoiseItem_7 : decode cX5_tortoiseItem 7 = .ok (.bipush 8, 2) := by decide +kernel
theorem dX5_tortoiseItem_9 : decode cX5_tortoiseItem 9 = .ok (.if_icmp .ge 7, 3) := by decide +kernel
theorem dX5_tortoiseItem_12 : decode cX5_tortoiseItem 12 = .ok (.iconst 1, 1) := by decide +kernel
theorem dX5_tortoiseItem_13 : decode cX5_tortoiseItem 13 = .ok (.goto 4, 3) := by decide +kernel
theorem dX5_tortoiseItem_16 : decode cX5_tortoiseItem 16 = .ok (.iconst 0, 1) := by decide +kernel
theorem dX5_tortoiseItem_17 : decode cX5_tortoiseItem 17 = .ok (.invokevirtual 252, 3) := by decide +kernel
theorem dX5_tortoiseItem_20 : decode cX5_tortoiseItem 20 = .ok (.aload_n 0, 1) := by decide +kernel
theorem dX5_tortoiseItem_21 : decode cX5_tortoiseItem 21 = .ok (.aload_n 0, 1) := by decide +kernel
theorem dX5_tortoiseItem_22 : decode cX5_tortoiseItem 22 = .ok (.invokevirtual 256, 3) := by decide +kernel
theorem dX5_tortoiseItem_25 : decode cX5_tortoiseItem 25 = .ok (.ldc2_w 281, 3) := by decide +kernel
theorem dX5_tortoiseItem_28 : decode cX5_tortoiseItem 28 = .ok (.lcmp, 1) := by decide +kernel
theorem dX5_tortoiseItem_29 : decode cX5_tortoiseItem 29 = .ok (.ifCond .ne 7, 3) := by decide +kernel
theorem dX5_tortoiseItem_32 : decode cX5_tortoiseItem 32 = .ok (.iconst 1, 1) := by decide +kernel
theorem dX5_tortoiseItem_33 : decode cX5_tortoiseItem 33 = .ok (.goto 4, 3) := by decide +kernel
theorem dX5_tortoiseItem_36 : decode cX5_tortoiseItem 36 = .ok (.iconst 0, 1) := by decide +kernel
theorem dX5_tortoiseItem_37 : decode cX5_tortoiseItem 37 = .ok (.invokevirtual 252, 3) := by decide +kernel
theorem dX5_tortoiseItem_40 : decode cX5_tortoiseItem 40 = .ok (.aload_n 0, 1) := by decide +kernel
theorem dX5_tortoiseItem_41 : decode cX5_tortoiseItem 41 = .ok (.invokevirtual 283, 3) := by decide +kernel
theorem dX5_tortoiseItem_44 : decode cX5_tortoiseItem 44 = .ok (.aload_n 0, 1) := by decide +kernel
theorem dX5_tortoiseItem_45 : decode cX5_tortoiseItem 45 = .ok (.getfield 249, 3) := by decide +kernel
theorem dX5_tortoiseItem_48 : decode cX5_tortoiseItem 48 = .ok (.istore_n 2, 1) := by decide +kernel
theorem dX5_tortoiseItem_49 : decode cX5_tortoiseItem 49 = .ok (.iconst 0, 1) := by decide +kernel
theorem dX5_tortoiseItem_50 : decode cX5_tortoiseItem 50 = .ok (.istore_n 3, 1) := by decide +kernel
theorem dX5_tortoiseItem_51 : decode cX5_tortoiseItem 51 = .ok (.aload_n 0, 1) := by decide +kernel
theorem dX5_tortoiseItem_52 : decode cX5_tortoiseItem 52 = .ok (.getfield 238, 3) := by decide +kernel
theorem dX5_tortoiseItem_55 : decode cX5_tortoiseItem 55 = .ok (.ifCond .ne 47, 3) := by decide +kernel
theorem dX5_tortoiseItem_58 : decode cX5_tortoiseItem 58 = .ok (.aload_n 0, 1) := by decide +kernel
theorem dX5_tortoiseItem_59 : decode cX5_tortoiseItem 59 = .ok (.aload_n 0, 1) := by decide +kernel
theorem dX5_tortoiseItem_60 : decode cX5_tortoiseItem 60 = .ok (.getfield 226, 3) := by decide +kernel
theorem dX5_tortoiseItem_63 : decode cX5_tortoiseItem 63 = .ok (.invokevirtual 229, 3) := by decide +kernel
theorem dX5_tortoiseItem_66 : decode cX5_tortoiseItem 66 = .ok (.invokestatic 235, 3) := by decide +kernel
theorem dX5_tortoiseItem_69 : decode cX5_tortoiseItem 69 = .ok (.ifCond .eq 33, 3) := by decide +kernel
theorem dX5_tortoiseItem_72 : decode cX5_tortoiseItem 72 = .ok (.aload_n 0, 1) := by decide +kernel
theorem dX5_tortoiseItem_73 : decode cX5_tortoiseItem 73 = .ok (.iconst 0, 1) := by decide +kernel
theorem dX5_tortoiseItem_74 : decode cX5_tortoiseItem 74 = .ok (.bipush 11, 2) := by decide +kernel
theorem dX5_tortoiseItem_76 : decode cX5_tortoiseItem 76 = .ok (.invokevirtual 278, 3) := by decide +kernel
theorem dX5_tortoiseItem_79 : decode cX5_tortoiseItem 79 = .ok (.iload_n 3, 1) := by decide +kernel
theorem dX5_tortoiseItem_80 : decode cX5_tortoiseItem 80 = .ok (.aload_n 0, 1) := by decide +kernel
theorem dX5_tortoiseItem_81 : decode cX5_tortoiseItem 81 = .ok (.getfield 238, 3) := by decide +kernel
theorem dX5_tortoiseItem_84 : decode cX5_tortoiseItem 84 = .ok (.ifCond .eq 7, 3) := by decide +kernel
theorem dX5_tortoiseItem_87 : decode cX5_tortoiseItem 87 = .ok (.iconst 0, 1) := by decide +kernel
theorem dX5_tortoiseItem_88 : decode cX5_tortoiseItem 88 = .ok (.goto 9, 3) := by decide +kernel
theorem dX5_tortoiseItem_91 : decode cX5_tortoiseItem 91 = .ok (.iconst 1, 1) := by decide +kernel
theorem dX5_tortoiseItem_92 : decode cX5_tortoiseItem 92 = .ok (.aload_n 0, 1) := by decide +kernel
theorem dX5_tortoiseItem_93 : decode cX5_tortoiseItem 93 = .ok (.getfield 249, 3) := by decide +kernel
theorem dX5_tortoiseItem_96 : decode cX5_tortoiseItem 96 = .ok (.ishl, 1) := by decide +kernel
theorem dX5_tortoiseItem_97 : decode cX5_tortoiseItem 97 = .ok (.ior, 1) := by decide +kernel
theorem dX5_tortoiseItem_98 : decode cX5_tortoiseItem 98 = .ok (.istore_n 3, 1) := by decide +kernel
theorem dX5_tortoiseItem_99 : decode cX5_tortoiseItem 99 = .ok (.goto (-48), 3) := by decide +kernel
theorem dX5_tortoiseItem_102 : decode cX5_tortoiseItem 102 = .ok (.aload_n 0, 1) := by decide +kernel
theorem dX5_tortoiseItem_103 : decode cX5_tortoiseItem 103 = .ok (.getfield 238, 3) := by decide +kernel
theorem dX5_tortoiseItem_106 : decode cX5_tortoiseItem 106 = .ok (.ifCond .ne 12, 3) := by decide +kernel
theorem dX5_tortoiseItem_109 : decode cX5_tortoiseItem 109 = .ok (.aload_n 0, 1) := by decide +kernel
theorem dX5_tortoiseItem_110 : decode cX5_tortoiseItem 110 = .ok (.iload_n 1, 1) := by decide +kernel
theorem dX5_tortoiseItem_111 : decode cX5_tortoiseItem 111 = .ok (.iload_n 2, 1) := by decide +kernel
theorem dX5_tortoiseItem_112 : decode cX5_tortoiseItem 112 = .ok (.iload_n 3, 1) := by decide +kernel
theorem dX5_tortoiseItem_113 : decode cX5_tortoiseItem 113 = .ok (.invokevirtual 115, 3) := by decide +kernel
theorem dX5_tortoiseItem_116 : decode cX5_tortoiseItem 116 = .ok (.istore 4, 2) := by decide +kernel
theorem dX5_tortoiseItem_118 : decode cX5_tortoiseItem 118 = .ok (.return_, 1) := by decide +kernel
def finX5_tortoiseItem (N : Ml) : Mi → Option Value × Mi × Ml := fun b => (none, b, N)
noncomputable def fX5_tortoiseItem_102   (M : Mi) (x1 : Int32) (x2 : Int32) (x3 : Int32) : Option (Mi) := (if (M 6 6) = 0 then (Option.bind (fX5_adds (M 0) x1 x2 x3) (fun a10 => (some (sR M 0 (a10.2))))) else (some M))
theorem bX5_tortoiseItem_102 {Z : Zt} {E : Ec} {N : Ml} (C : Ok 2 Z E cX5_tortoiseItem 5 RX5 none 6)    (M : Mi) (x1 : Int32) (x2 : Int32) (x3 : Int32)  : GT Z E 5 (finX5_tortoiseItem N) 102 [(0, .ref (zA Z 6 0)), (1, .int x1), (2, .int x2), (3, .int x3)] [] M N (fX5_tortoiseItem_102 M x1 x2 x3) := by
  unfold fX5_tortoiseItem_102
  refine r_aload_n C dX5_tortoiseItem_102 0 0 rfl rfl ?_
  refine gf_X5_238 (v := (M 6 6)) C dX5_tortoiseItem_103 rfl ?_
  refine r_if_ne (tgt := 118) C dX5_tortoiseItem_106 (by decide) (fun c9 => ?_) (fun c9 => ?_)
  · exact r_vret C dX5_tortoiseItem_118 rfl
  · refine r_aload_n C dX5_tortoiseItem_109 0 0 rfl rfl ?_
    refine r_iload_n C dX5_tortoiseItem_110 1 1 rfl rfl ?_
    refine r_iload_n C dX5_tortoiseItem_111 2 2 rfl rfl ?_
    refine r_iload_n C dX5_tortoiseItem_112 3 3 rfl rfl ?_
    refine r_bind (fun a10 ha10 => ?_)
    refine r_callV (rest := []) (st2 := [.int a10.1]) C (mX5_adds (eL E) C.z M _ (M 0) x1 x2 x3 a10 ha10).selfW lk_X5_115 (rvM C) (by decide) rfl rfl (Nat.le_of_ble_eq_true rfl) dX5_tortoiseItem_113 rfl ?_
    refine r_istore (lv' := [(4, .int a10.1), (0, .ref (zA Z 6 0)), (1, .int x1), (2, .int x2), (3, .int x3)]) C dX5_tortoiseItem_116 (by decide) rfl ?_
    exact r_vret C dX5_tortoiseItem_118 rfl
noncomputable def fX5_tortoiseItem_51   : Nat → Mi → Int32 → Int32 → Int32 → Option (Mi)
  | 0 => fun _ _ _ _ => none
  | n + 1 => fun M x1 x2 x3 => (if (M 6 6) = 0 then (Option.bind (fX5_byteAt M (M 6 3)) (fun a11 => (if (fX5_isDigit a11) = 0 then (fX5_tortoiseItem_102 M x1 x2 x3) else (Option.bind (fX5_number M 0 11) (fun a13 => (if (a13 6 6) = 0 then ((fX5_tortoiseItem_51 n) a13 x1 x2 (x3 ||| (1 <<< ((a13 6 5) &&& 31)))) else ((fX5_tortoiseItem_51 n) a13 x1 x2 (x3 ||| 0)))))))) else (fX5_tortoiseItem_102 M x1 x2 x3))
theorem bX5_tortoiseItem_51 {Z : Zt} {E : Ec} {N : Ml} (C : Ok 2 Z E cX5_tortoiseItem 5 RX5 none 6)    : ∀ (n : Nat) (M : Mi) (x1 : Int32) (x2 : Int32) (x3 : Int32), GT Z E 5 (finX5_tortoiseItem N) 51 [(0, .ref (zA Z 6 0)), (1, .int x1), (2, .int x2), (3, .int x3)] [] M N (fX5_tortoiseItem_51 n M x1 x2 x3) := by
  intro n
  induction n with
  | zero => intro M x1 x2 x3; exact r_none
  | succ n ih =>
    intro M x1 x2 x3
    rw [fX5_tortoiseItem_51]
    refine r_aload_n C dX5_tortoiseItem_51 0 0 rfl rfl ?_
    refine gf_X5_238 (v := (M 6 6)) C dX5_tortoiseItem_52 rfl ?_
    refine r_if_ne (tgt := 102) C dX5_tortoiseItem_55 (by decide) (fun c8 => ?_) (fun c8 => ?_)
    · exact bX5_tortoiseItem_102 C M x1 x2 x3
    · refine r_aload_n C dX5_tortoiseItem_58 0 0 rfl rfl ?_
      refine r_aload_n C dX5_tortoiseItem_59 0 0 rfl rfl ?_
      refine gf_X5_226 (v := (M 6 3)) C dX5_tortoiseItem_60 rfl ?_
      refine r_bind (fun a11 ha11 => ?_)
      refine r_callV (rest := []) (st2 := [.int a11]) C (mX5_byteAt (eL E) C.z M N (M 6 3) a11 ha11) lk_X5_229 (rvM C) (by decide) rfl rfl (Nat.le_of_ble_eq_true rfl) dX5_tortoiseItem_63 rfl ?_
      refine r_callS (rest := []) (st2 := [.int (fX5_isDigit a11)]) C (mX5_isDigit (eL E) C.z _ _ a11) lk_X5_235 (by decide) rfl rfl (Nat.le_of_ble_eq_true rfl) dX5_tortoiseItem_66 rfl ?_
      refine r_if_eq (tgt := 102) C dX5_tortoiseItem_69 (by decide) (fun c12 => ?_) (fun c12 => ?_)
      · exact bX5_tortoiseItem_102 C M x1 x2 x3
      · refine r_aload_n C dX5_tortoiseItem_72 0 0 rfl rfl ?_
        refine r_iconst (v := 0) C dX5_tortoiseItem_73 (by decide) ?_
        refine r_bipush (v := 11) C dX5_tortoiseItem_74 (by decide) ?_
        refine r_bind (fun a13 ha13 => ?_)
        refine r_callV (rest := []) (st2 := []) C (mX5_number (eL E) C.z M N 0 11 a13 ha13) lk_X5_278 (rvM C) (by decide) rfl rfl (Nat.le_of_ble_eq_true rfl) dX5_tortoiseItem_76 rfl ?_
        refine r_iload_n C dX5_tortoiseItem_79 3 3 rfl rfl ?_
        refine r_aload_n C dX5_tortoiseItem_80 0 0 rfl rfl ?_
        refine gf_X5_238 (v := (a13 6 6)) C dX5_tortoiseItem_81 rfl ?_
        refine r_if_eq (tgt := 91) C dX5_tortoiseItem_84 (by decide) (fun c14 => ?_) (fun c14 => ?_)
        · refine r_iconst (v := 1) C dX5_tortoiseItem_91 (by decide) ?_
          refine r_aload_n C dX5_tortoiseItem_92 0 0 rfl rfl ?_
          refine gf_X5_249 (v := (a13 6 5)) C dX5_tortoiseItem_93 rfl ?_
          refine r_ishl C dX5_tortoiseItem_96 ?_
          refine r_ior C dX5_tortoiseItem_97 ?_
          refine r_istore_n (lv' := [(3, .int (x3 ||| (1 <<< ((a13 6 5) &&& 31)))), (0, .ref (zA Z 6 0)), (1, .int x1), (2, .int x2)]) C dX5_tortoiseItem_98 3 rfl (by decide) rfl ?_
          refine r_goto (tgt := 51) C dX5_tortoiseItem_99 (by decide) ?_
          refine r_lv [1, 2, 3, 0] (lv' := [(0, .ref (zA Z 6 0)), (1, .int x1), (2, .int x2), (3, .int (x3 ||| (1 <<< ((a13 6 5) &&& 31))))]) rfl ?_
          exact ih a13 x1 x2 (x3 ||| (1 <<< ((a13 6 5) &&& 31)))
        · refine r_iconst (v := 0) C dX5_tortoiseItem_87 (by decide) ?_
          refine r_goto (tgt := 97) C dX5_tortoiseItem_88 (by decide) ?_
          refine r_ior C dX5_tortoiseItem_97 ?_
          refine r_istore_n (lv' := [(3, .int (x3 ||| 0)), (0, .ref (zA Z 6 0)), (1, .int x1), (2, .int x2)]) C dX5_tortoiseItem_98 3 rfl (by decide) rfl ?_
          refine r_goto (tgt := 51) C dX5_tortoiseItem_99 (by decide) ?_
          refine r_lv [1, 2, 3, 0] (lv' := [(0, .ref (zA Z 6 0)), (1, .int x1), (2, .int x2), (3, .int (x3 ||| 0))]) rfl ?_
          exact ih a13 x1 x2 (x3 ||| 0)
noncomputable def fX5_tortoiseItem_37   (M : Mi) (x1 : Int32) (s0 : Int32) : Option (Mi) := (Option.bind (fX5_wants M s0) (fun a6 => (Option.bind (fX5_cellHere a6) (fun a7 => (fX5_tortoiseItem_51 fu a7 x1 (a7 6 5) 0)))))
theorem bX5_tortoiseItem_37 {Z : Zt} {E : Ec} {N : Ml} (C : Ok 2 Z E cX5_tortoiseItem 5 RX5 none 6)    (M : Mi) (x1 : Int32) (s0 : Int32)  : GT Z E 5 (finX5_tortoiseItem N) 37 [(0, .ref (zA Z 6 0)), (1, .int x1)] [.int s0, .ref (zA Z 6 0)] M N (fX5_tortoiseItem_37 M x1 s0) := by
  unfold fX5_tortoiseItem_37
  refine r_bind (fun a6 ha6 => ?_)
  refine r_callV (rest := []) (st2 := []) C (mX5_wants (eL E) C.z M N s0 a6 ha6) lk_X5_252 (rvM C) (by decide) rfl rfl (Nat.le_of_ble_eq_true rfl) dX5_tortoiseItem_37 rfl ?_
  refine r_aload_n C dX5_tortoiseItem_40 0 0 rfl rfl ?_
  refine r_bind (fun a7 ha7 => ?_)
  refine r_callV (rest := []) (st2 := []) C (mX5_cellHere (eL E) C.z a6 N a7 ha7) lk_X5_283 (rvM C) (by decide) rfl rfl (Nat.le_of_ble_eq_true rfl) dX5_tortoiseItem_41 rfl ?_
  refine r_aload_n C dX5_tortoiseItem_44 0 0 rfl rfl ?_
  refine gf_X5_249 (v := (a7 6 5)) C dX5_tortoiseItem_45 rfl ?_
  refine r_istore_n (lv' := [(2, .int (a7 6 5)), (0, .ref (zA Z 6 0)), (1, .int x1)]) C dX5_tortoiseItem_48 2 rfl (by decide) rfl ?_
  refine r_iconst (v := 0) C dX5_tortoiseItem_49 (by decide) ?_
  refine r_istore_n (lv' := [(3, .int 0), (2, .int (a7 6 5)), (0, .ref (zA Z 6 0)), (1, .int x1)]) C dX5_tortoiseItem_50 3 rfl (by decide) rfl ?_
  refine r_lv [2, 3, 1, 0] (lv' := [(0, .ref (zA Z 6 0)), (1, .int x1), (2, .int (a7 6 5)), (3, .int 0)]) rfl ?_
  exact bX5_tortoiseItem_51 C fu a7 x1 (a7 6 5) 0
noncomputable def fX5_tortoiseItem_17   (M : Mi) (x1 : Int32) (s0 : Int32) : Option (Mi) := (Option.bind (fX5_wants M s0) (fun a3 => (Option.bind (fX5_word a3) (fun a4 => (if a4 = 52 then (fX5_tortoiseItem_37 a3 x1 1) else (fX5_tortoiseItem_37 a3 x1 0))))))
theorem bX5_tortoiseItem_17 {Z : Zt} {E : Ec} {N : Ml} (C : Ok 2 Z E cX5_tortoiseItem 5 RX5 none 6)    (M : Mi) (x1 : Int32) (s0 : Int32)  : GT Z E 5 (finX5_tortoiseItem N) 17 [(0, .ref (zA Z 6 0)), (1, .int x1)] [.int s0, .ref (zA Z 6 0)] M N (fX5_tortoiseItem_17 M x1 s0) := by
  unfold fX5_tortoiseItem_17
  refine r_bind (fun a3 ha3 => ?_)
  refine r_callV (rest := []) (st2 := []) C (mX5_wants (eL E) C.z M N s0 a3 ha3) lk_X5_252 (rvM C) (by decide) rfl rfl (Nat.le_of_ble_eq_true rfl) dX5_tortoiseItem_17 rfl ?_
  refine r_aload_n C dX5_tortoiseItem_20 0 0 rfl rfl ?_
  refine r_aload_n C dX5_tortoiseItem_21 0 0 rfl rfl ?_
  refine r_bind (fun a4 ha4 => ?_)
  refine r_callV (rest := [.ref (zA Z 6 0)]) (st2 := [.long a4, .ref (zA Z 6 0)]) C (mX5_word (eL E) C.z a3 N a4 ha4) lk_X5_256 (rvM C) (by decide) rfl rfl (Nat.le_of_ble_eq_true rfl) dX5_tortoiseItem_22 rfl ?_
  refine r_ldc2 (v := 52) C dX5_tortoiseItem_25 wd_1193 ?_
  refine r_lc_ne (tgt := 36) C dX5_tortoiseItem_28 dX5_tortoiseItem_29 (by decide) (fun c5 => ?_) (fun c5 => ?_)
  · refine r_iconst (v := 0) C dX5_tortoiseItem_36 (by decide) ?_
    exact bX5_tortoiseItem_37 C a3 x1 0
  · refine r_iconst (v := 1) C dX5_tortoiseItem_32 (by decide) ?_
    refine r_goto (tgt := 37) C dX5_tortoiseItem_33 (by decide) ?_
    exact bX5_tortoiseItem_37 C a3 x1 1
noncomputable def fX5_tortoiseItem   (M : Mi) (x1 : Int32) : Option (Mi) := (fX5_tortoiseItem_17 M x1 (if 8 ≤ (M 0 1) then 0 else 1 : Int32))
theorem bX5_tortoiseItem {Z : Zt} {E : Ec} {N : Ml} (C : Ok 2 Z E cX5_tortoiseItem 5 RX5 none 6)    (M : Mi) (x1 : Int32)  : GT Z E 5 (finX5_tortoiseItem N) 0 [(0, .ref (zA Z 6 0)), (1, .int x1)] [] M N (fX5_tortoiseItem M x1) := by
  unfold fX5_tortoiseItem
  refine r_aload_n C dX5_tortoiseItem_0 0 0 rfl rfl ?_
  refine r_aload_n C dX5_tortoiseItem_1 0 0 rfl rfl ?_
  refine gf_X5_7 C dX5_tortoiseItem_2 ?_
  refine r_iconst (v := 1) C dX5_tortoiseItem_5 (by decide) ?_
  refine ald_M (v := (M 0 1)) C mI_0 (by decide) rfl dX5_tortoiseItem_6 ?_
  refine r_bipush (v := 8) C dX5_tortoiseItem_7 (by decide) ?_
  refine r_sel (tj := 17) (sj := [.int (if 8 ≤ (M 0 1) then 0 else 1 : Int32), .ref (zA Z 6 0)]) ?_ (fun k2 => ?_)
  · exact bX5_tortoiseItem_17 C M x1 (if 8 ≤ (M 0 1) then 0 else 1 : Int32)
  · refine r_same (P := 8 ≤ (M 0 1)) ?_
    refine r_ic_ge (tgt := 16) C dX5_tortoiseItem_9 (by decide) (fun c1 => ?_) (fun c1 => ?_)
    · refine r_iconst (v := 0) C dX5_tortoiseItem_16 (by decide) ?_
      exact r_stk (if_pos c1) k2
    · refine r_iconst (v := 1) C dX5_tortoiseItem_12 (by decide) ?_
      refine r_goto (tgt := 17) C dX5_tortoiseItem_13 (by decide) ?_
      exact r_stk (if_neg c1) k2
theorem mX5_tortoiseItem (l : Launch) {Z : Zt} (hZ : Zok 2 Z) (M : Mi) (N : Ml) (x1 : Int32) (b : Mi) (hb : fX5_tortoiseItem M x1 = some b) : Ct 2 Z l yX5_tortoiseItem cX5_tortoiseItem 5 none 6 [.ref (zA Z 6 0), .int x1] M N (none, b, N) :=
  metG (fin := (finX5_tortoiseItem N)) (by decide) (Nat.le_of_ble_eq_true rfl) (fun E _ C => bX5_tortoiseItem C M x1) hb
theorem dX5_fenceItem_0 : decode cX5_fenceItem 0 = .ok (.aload_n 0, 1) := by decide +kernel
theorem dX5_fenceItem_1 : decode cX5_fenceItem 1 = .ok (.iconst 1, 1) := by decide +kernel
theorem dX5_fenceItem_2 : decode cX5_fenceItem 2 = .ok (.invokevirtual 252, 3) := by decide +kernel
theorem dX5_fenceItem_5 : decode cX5_fenceItem 5 = .ok (.aload_n 0, 1) := by decide +kernel
theorem dX5_fenceItem_6 : decode cX5_fenceItem 6 = .ok (.invokevirtual 283, 3) := by decide +kernel
theorem dX5_fenceItem_9 : decode cX5_fenceItem 9 = .ok (.aload_n 0, 1) := by decide +kernel
theorem dX5_fenceItem_10 : decode cX5_fenceItem 10 = .ok (.getfield 238, 3) := by decide +kernel
theorem dX5_fenceItem_13 : decode cX5_fenceItem 13 = .ok (.ifCond .ne 12, 3) := by decide +kernel
theorem dX5_fenceItem_16 : decode cX5_fenceItem 16 = .ok (.aload_n 0, 1) := by decide +kernel
theorem dX5_fenceItem_17 : decode cX5_fenceItem 17 = .ok (.aload_n 0, 1) := by decide +kernel
theorem dX5_fenceItem_18 : decode cX5_fenceItem 18 = .ok (.getfield 249, 3) := by decide +kernel
theorem dX5_fenceItem_21 : decode cX5_fenceItem 21 = .ok (.iload_n 1, 1) := by decide +kernel
theorem dX5_fenceItem_22 : decode cX5_fenceItem 22 = .ok (.invokevirtual 72, 3) := by decide +kernel
theorem dX5_fenceItem_25 : decode cX5_fenceItem 25 = .ok (.return_, 1) := by decide +kernel
def finX5_fenceItem (N : Ml) : Mi → Option Value × Mi × Ml := fun b => (none, b, N)
noncomputable def fX5_fenceItem   (M : Mi) (x1 : Int32) : Option (Mi) := (Option.bind (fX5_wants M 1) (fun a1 => (Option.bind (fX5_cellHere a1) (fun a2 => (if (a2 6 6) = 0 then (Option.bind (fX5_fences (a2 0) (a2 6 5) x1) (fun a4 => (some (sR a2 0 a4)))) else (some a2))))))
theorem bX5_fenceItem {Z : Zt} {E : Ec} {N : Ml} (C : Ok 2 Z E cX5_fenceItem 2 RX5 none 6)    (M : Mi) (x1 : Int32)  : GT Z E 2 (finX5_fenceItem N) 0 [(0, .ref (zA Z 6 0)), (1, .int x1)] [] M N (fX5_fenceItem M x1) := by
  unfold fX5_fenceItem
  refine r_aload_n C dX5_fenceItem_0 0 0 rfl rfl ?_
  refine r_iconst (v := 1) C dX5_fenceItem_1 (by decide) ?_
  refine r_bind (fun a1 ha1 => ?_)
  refine r_callV (rest := []) (st2 := []) C (mX5_wants (eL E) C.z M N 1 a1 ha1) lk_X5_252 (rvM C) (by decide) rfl rfl (Nat.le_of_ble_eq_true rfl) dX5_fenceItem_2 rfl ?_
  refine r_aload_n C dX5_fenceItem_5 0 0 rfl rfl ?_
  refine r_bind (fun a2 ha2 => ?_)
  refine r_callV (rest := []) (st2 := []) C (mX5_cellHere (eL E) C.z a1 N a2 ha2) lk_X5_283 (rvM C) (by decide) rfl rfl (Nat.le_of_ble_eq_true rfl) dX5_fenceItem_6 rfl ?_
  refine r_aload_n C dX5_fenceItem_9 0 0 rfl rfl ?_
  refine gf_X5_238 (v := (a2 6 6)) C dX5_fenceItem_10 rfl ?_
  refine r_if_ne (tgt := 25) C dX5_fenceItem_13 (by decide) (fun c3 => ?_) (fun c3 => ?_)
  · exact r_vret C dX5_fenceItem_25 rfl
  · refine r_aload_n C dX5_fenceItem_16 0 0 rfl rfl ?_
    refine r_aload_n C dX5_fenceItem_17 0 0 rfl rfl ?_
    refine gf_X5_249 (v := (a2 6 5)) C dX5_fenceItem_18 rfl ?_
    refine r_iload_n C dX5_fenceItem_21 1 1 rfl rfl ?_
    refine r_bind (fun a4 ha4 => ?_)
    refine r_callV (rest := []) (st2 := []) C (mX5_fences (eL E) C.z a2 _ (a2 0) (a2 6 5) x1 a4 ha4).selfW lk_X5_72 (rvM C) (by decide) rfl rfl (Nat.le_of_ble_eq_true rfl) dX5_fenceItem_22 rfl ?_
    exact r_vret C dX5_fenceItem_25 rfl
theorem mX5_fenceItem (l : Launch) {Z : Zt} (hZ : Zok 2 Z) (M : Mi) (N : Ml) (x1 : Int32) (b : Mi) (hb : fX5_fenceItem M x1 = some b) : Ct 2 Z l yX5_fenceItem cX5_fenceItem 2 none 6 [.ref (zA Z 6 0), .int x1] M N (none, b, N) :=
  metG (fin := (finX5_fenceItem N)) (by decide) (Nat.le_of_ble_eq_true rfl) (fun E _ C => bX5_fenceItem C M x1) hb
theorem dX5_rainItem_0 : decode cX5_rainItem 0 = .ok (.aload_n 0, 1) := by decide +kernel
theorem dX5_rainItem_1 : decode cX5_rainItem 1 = .ok (.iconst 1, 1) := by decide +kernel
theorem dX5_rainItem_2 : decode cX5_rainItem 2 = .ok (.invokevirtual 252, 3) := by decide +kernel
theorem dX5_rainItem_5 : decode cX5_rainItem 5 = .ok (.aload_n 0, 1) := by decide +kernel
theorem dX5_rainItem_6 : decode cX5_rainItem 6 = .ok (.iconst 0, 1) := by decide +kernel
theorem dX5_rainItem_7 : decode cX5_rainItem 7 = .ok (.bipush 23, 2) := by decide +kernel
theorem dX5_rainItem_9 : decode cX5_rainItem 9 = .ok (.invokevirtual 278, 3) := by decide +kernel
theorem dX5_rainItem_12 : decode cX5_rainItem 12 = .ok (.aload_n 0, 1) := by decide +kernel
theorem dX5_rainItem_13 : decode cX5_rainItem 13 = .ok (.getfield 249, 3) := by decide +kernel
theorem dX5_rainItem_16 : decode cX5_rainItem 16 = .ok (.istore_n 1, 1) := by decide +kernel
theorem dX5_rainItem_17 : decode cX5_rainItem 17 = .ok (.iload_n 1, 1) := by decide +kernel
theorem dX5_rainItem_18 : decode cX5_rainItem 18 = .ok (.istore_n 2, 1) := by decide +kernel
theorem dX5_rainItem_19 : decode cX5_rainItem 19 = .ok (.aload_n 0, 1) := by decide +kernel
theorem dX5_rainItem_20 : decode cX5_rainItem 20 = .ok (.invokevirtual 256, 3) := by decide +kernel
theorem dX5_rainItem_23 : decode cX5_rainItem 23 = .ok (.ldc2_w 286, 3) := by decide +kernel
theorem dX5_rainItem_26 : decode cX5_rainItem 26 = .ok (.lcmp, 1) := by decide +kernel
theorem dX5_rainItem_27 : decode cX5_rainItem 27 = .ok (.ifCond .ne 20, 3) := by decide +kernel
theorem dX5_rainItem_30 : decode cX5_rainItem 30 = .ok (.aload_n 0, 1) := by decide +kernel
theorem dX5_rainItem_31 : decode cX5_rainItem 31 = .ok (.iconst 1, 1) := by decide +kernel
theorem dX5_rainItem_32 : decode cX5_rainItem 32 = .ok (.invokevirtual 252, 3) := by decide +kernel
theorem dX5_rainItem_35 : decode cX5_rainItem 35 = .ok (.aload_n 0, 1) := by decide +kernel
theorem dX5_rainItem_36 : decode cX5_rainItem 36 = .ok (.iload_n 1, 1) := by decide +kernel
theorem dX5_rainItem_37 : decode cX5_rainItem 37 = .ok (.bipush 23, 2) := by decide +kernel
theorem dX5_rainItem_39 : decode cX5_rainItem 39 = .ok (.invokevirtual 278, 3) := by decide +kernel
theorem dX5_rainItem_42 : decode cX5_rainItem 42 = .ok (.aload_n 0, 1) := by decide +kernel
theorem dX5_rainItem_43 : decode cX5_rainItem 43 = .ok (.getfield 249, 3) := by decide +kernel
theorem dX5_rainItem_46 : decode cX5_rainItem 46 = .ok (.istore_n 2, 1) := by decide +kernel
theorem dX5_rainItem_47 : decode cX5_rainItem 47 = .ok (.iload_n 1, 1) := by decide +kernel
theorem dX5_rainItem_48 : decode cX5_rainItem 48 = .ok (.istore_n 3, 1) := by decide +kernel
theorem dX5_rainItem_49 : decode cX5_rainItem 49 = .ok (.iload_n 3, 1) := by decide +kernel
theorem dX5_rainItem_50 : decode cX5_rainItem 50 = .ok (.iload_n 2, 1) := by decide +kernel
theorem dX5_rainItem_51 : decode cX5_rainItem 51 = .ok (.if_icmp .gt 29, 3) := by decide +kernel
theorem dX5_rainItem_54 : decode cX5_rainItem 54 = .ok (.aload_n 0, 1) := by decide +kernel
theorem dX5_rainItem_55 : decode cX5_rainItem 55 = .ok (.getfield 238, 3) := by decide +kernel
theorem dX5_rainItem_58 : decode cX5_rainItem 58 = .ok (.ifCond .ne 22, 3) := by decide +kernel
theorem dX5_rainItem_61 : decode cX5_rainItem 61 = .ok (.aload_n 0, 1) := by decide +kernel
theorem dX5_rainItem_62 : decode cX5_rainItem 62 = .ok (.getfield 7, 3) := by decide +kernel
theorem dX5_rainItem_65 : decode cX5_rainItem 65 = .ok (.bipush 6, 2) := by decide +kernel
theorem dX5_rainItem_67 : decode cX5_rainItem 67 = .ok (.dup2, 1) := by decide +kernel
theorem dX5_rainItem_68 : decode cX5_rainItem 68 = .ok (.iaload, 1) := by decide +kernel
theorem dX5_rainItem_69 : decode cX5_rainItem 69 = .ok (.iconst 1, 1) := by decide +kernel
theorem dX5_rainItem_70 : decode cX5_rainItem 70 = .ok (.iload_n 3, 1) := by decide +kernel
theorem dX5_rainItem_71 : decode cX5_rainItem 71 = .ok (.ishl, 1) := by decide +kernel
theorem dX5_rainItem_72 : decode cX5_rainItem 72 = .ok (.ior, 1) := by decide +kernel
theorem dX5_rainItem_73 : decode cX5_rainItem 73 = .ok (.iastore, 1) := by decide +kernel
theorem dX5_rainItem_74 : decode cX5_rainItem 74 = .ok (.iinc 3 1, 3) := by decide +kernel
theorem dX5_rainItem_77 : decode cX5_rainItem 77 = .ok (.goto (-28), 3) := by decide +kernel
theorem dX5_rainItem_80 : decode cX5_rainItem 80 = .ok (.return_, 1) := by decide +kernel
def finX5_rainItem (N : Ml) : Mi → Option Value × Mi × Ml := fun b => (none, b, N)
noncomputable def fX5_rainItem_49   : Nat → Mi → Int32 → Int32 → Option (Mi)
  | 0 => fun _ _ _ => none
  | n + 1 => fun M x2 x3 => (if x2 < x3 then (some M) else (if (M 6 6) = 0 then ((fX5_rainItem_49 n) (wM M 0 6 ((M 0 6) ||| (1 <<< (x3 &&& 31)))) x2 (x3 + 1)) else (some M)))
theorem bX5_rainItem_49 {Z : Zt} {E : Ec} {N : Ml} (C : Ok 2 Z E cX5_rainItem 4 RX5 none 5)    : ∀ (n : Nat) (M : Mi) (x2 : Int32) (x3 : Int32), GT Z E 4 (finX5_rainItem N) 49 [(0, .ref (zA Z 6 0)), (2, .int x2), (3, .int x3)] [] M N (fX5_rainItem_49 n M x2 x3) := by
  intro n
  induction n with
  | zero => intro M x2 x3; exact r_none
  | succ n ih =>
    intro M x2 x3
    rw [fX5_rainItem_49]
    refine r_iload_n C dX5_rainItem_49 3 2 rfl rfl ?_
    refine r_iload_n C dX5_rainItem_50 2 1 rfl rfl ?_
    refine r_ic_gt (tgt := 80) C dX5_rainItem_51 (by decide) (fun c5 => ?_) (fun c5 => ?_)
    · exact r_vret C dX5_rainItem_80 rfl
    · refine r_aload_n C dX5_rainItem_54 0 0 rfl rfl ?_
      refine gf_X5_238 (v := (M 6 6)) C dX5_rainItem_55 rfl ?_
      refine r_if_ne (tgt := 80) C dX5_rainItem_58 (by decide) (fun c6 => ?_) (fun c6 => ?_)
      · exact r_vret C dX5_rainItem_80 rfl
      · refine r_aload_n C dX5_rainItem_61 0 0 rfl rfl ?_
        refine gf_X5_7 C dX5_rainItem_62 ?_
        refine r_bipush (v := 6) C dX5_rainItem_65 (by decide) ?_
        refine r_dup2 C dX5_rainItem_67 rfl rfl ?_
        refine ald_M (v := (M 0 6)) C mI_0 (by decide) rfl dX5_rainItem_68 ?_
        refine r_iconst (v := 1) C dX5_rainItem_69 (by decide) ?_
        refine r_iload_n C dX5_rainItem_70 3 2 rfl rfl ?_
        refine r_ishl C dX5_rainItem_71 ?_
        refine r_ior C dX5_rainItem_72 ?_
        refine ast_M (M' := (wM M 0 6 ((M 0 6) ||| (1 <<< (x3 &&& 31))))) C mI_0 (by decide) rfl dX5_rainItem_73 ?_
        refine r_iinc (v := (x3 + 1)) (lv' := [(3, .int (x3 + 1)), (0, .ref (zA Z 6 0)), (2, .int x2)]) C dX5_rainItem_74 2 rfl rfl (by decide) rfl ?_
        refine r_goto (tgt := 49) C dX5_rainItem_77 (by decide) ?_
        refine r_lv [1, 2, 0] (lv' := [(0, .ref (zA Z 6 0)), (2, .int x2), (3, .int (x3 + 1))]) rfl ?_
        exact ih (wM M 0 6 ((M 0 6) ||| (1 <<< (x3 &&& 31)))) x2 (x3 + 1)
noncomputable def fX5_rainItem   (M : Mi) : Option (Mi) := (Option.bind (fX5_wants M 1) (fun a1 => (Option.bind (fX5_number a1 0 23) (fun a2 => (Option.bind (fX5_word a2) (fun a3 => (if a3 = 655 then (Option.bind (fX5_wants a2 1) (fun a7 => (Option.bind (fX5_number a7 (a2 6 5) 23) (fun a8 => (fX5_rainItem_49 fu a8 (a8 6 5) (a2 6 5)))))) else (fX5_rainItem_49 fu a2 (a2 6 5) (a2 6 5)))))))))
theorem bX5_rainItem {Z : Zt} {E : Ec} {N : Ml} (C : Ok 2 Z E cX5_rainItem 4 RX5 none 5)    (M : Mi)  : GT Z E 4 (finX5_rainItem N) 0 [(0, .ref (zA Z 6 0))] [] M N (fX5_rainItem M) := by
  unfold fX5_rainItem
  refine r_aload_n C dX5_rainItem_0 0 0 rfl rfl ?_
  refine r_iconst (v := 1) C dX5_rainItem_1 (by decide) ?_
  refine r_bind (fun a1 ha1 => ?_)
  refine r_callV (rest := []) (st2 := []) C (mX5_wants (eL E) C.z M N 1 a1 ha1) lk_X5_252 (rvM C) (by decide) rfl rfl (Nat.le_of_ble_eq_true rfl) dX5_rainItem_2 rfl ?_
  refine r_aload_n C dX5_rainItem_5 0 0 rfl rfl ?_
  refine r_iconst (v := 0) C dX5_rainItem_6 (by decide) ?_
  refine r_bipush (v := 23) C dX5_rainItem_7 (by decide) ?_
  refine r_bind (fun a2 ha2 => ?_)
  refine r_callV (rest := []) (st2 := []) C (mX5_number (eL E) C.z a1 N 0 23 a2 ha2) lk_X5_278 (rvM C) (by decide) rfl rfl (Nat.le_of_ble_eq_true rfl) dX5_rainItem_9 rfl ?_
  refine r_aload_n C dX5_rainItem_12 0 0 rfl rfl ?_
  refine gf_X5_249 (v := (a2 6 5)) C dX5_rainItem_13 rfl ?_
  refine r_istore_n (lv' := [(1, .int (a2 6 5)), (0, .ref (zA Z 6 0))]) C dX5_rainItem_16 1 rfl (by decide) rfl ?_
  refine r_iload_n C dX5_rainItem_17 1 0 rfl rfl ?_
  refine r_istore_n (lv' := [(2, .int (a2 6 5)), (1, .int (a2 6 5)), (0, .ref (zA Z 6 0))]) C dX5_rainItem_18 2 rfl (by decide) rfl ?_
  refine r_aload_n C dX5_rainItem_19 0 2 rfl rfl ?_
  refine r_bind (fun a3 ha3 => ?_)
  refine r_callV (rest := []) (st2 := [.long a3]) C (mX5_word (eL E) C.z a2 N a3 ha3) lk_X5_256 (rvM C) (by decide) rfl rfl (Nat.le_of_ble_eq_true rfl) dX5_rainItem_20 rfl ?_
  refine r_ldc2 (v := 655) C dX5_rainItem_23 wd_1213 ?_
  refine r_lc_ne (tgt := 47) C dX5_rainItem_26 dX5_rainItem_27 (by decide) (fun c4 => ?_) (fun c4 => ?_)
  · refine r_iload_n C dX5_rainItem_47 1 1 rfl rfl ?_
    refine r_istore_n (lv' := [(3, .int (a2 6 5)), (2, .int (a2 6 5)), (1, .int (a2 6 5)), (0, .ref (zA Z 6 0))]) C dX5_rainItem_48 3 rfl (by decide) rfl ?_
    refine r_lv [3, 1, 0] (lv' := [(0, .ref (zA Z 6 0)), (2, .int (a2 6 5)), (3, .int (a2 6 5))]) rfl ?_
    exact bX5_rainItem_49 C fu a2 (a2 6 5) (a2 6 5)
  · refine r_aload_n C dX5_rainItem_30 0 2 rfl rfl ?_
    refine r_iconst (v := 1) C dX5_rainItem_31 (by decide) ?_
    refine r_bind (fun a7 ha7 => ?_)
    refine r_callV (rest := []) (st2 := []) C (mX5_wants (eL E) C.z a2 N 1 a7 ha7) lk_X5_252 (rvM C) (by decide) rfl rfl (Nat.le_of_ble_eq_true rfl) dX5_rainItem_32 rfl ?_
    refine r_aload_n C dX5_rainItem_35 0 2 rfl rfl ?_
    refine r_iload_n C dX5_rainItem_36 1 1 rfl rfl ?_
    refine r_bipush (v := 23) C dX5_rainItem_37 (by decide) ?_
    refine r_bind (fun a8 ha8 => ?_)
    refine r_callV (rest := []) (st2 := []) C (mX5_number (eL E) C.z a7 N (a2 6 5) 23 a8 ha8) lk_X5_278 (rvM C) (by decide) rfl rfl (Nat.le_of_ble_eq_true rfl) dX5_rainItem_39 rfl ?_
    refine r_aload_n C dX5_rainItem_42 0 2 rfl rfl ?_
    refine gf_X5_249 (v := (a8 6 5)) C dX5_rainItem_43 rfl ?_
    refine r_istore_n (lv' := [(2, .int (a8 6 5)), (1, .int (a2 6 5)), (0, .ref (zA Z 6 0))]) C dX5_rainItem_46 2 rfl (by decide) rfl ?_
    refine r_iload_n C dX5_rainItem_47 1 1 rfl rfl ?_
    refine r_istore_n (lv' := [(3, .int (a2 6 5)), (2, .int (a8 6 5)), (1, .int (a2 6 5)), (0, .ref (zA Z 6 0))]) C dX5_rainItem_48 3 rfl (by decide) rfl ?_
    refine r_lv [3, 1, 0] (lv' := [(0, .ref (zA Z 6 0)), (2, .int (a8 6 5)), (3, .int (a2 6 5))]) rfl ?_
    exact bX5_rainItem_49 C fu a8 (a8 6 5) (a2 6 5)
theorem mX5_rainItem (l : Launch) {Z : Zt} (hZ : Zok 2 Z) (M : Mi) (N : Ml) (b : Mi) (hb : fX5_rainItem M = some b) : Ct 2 Z l yX5_rainItem cX5_rainItem 4 none 5 [.ref (zA Z 6 0)] M N (none, b, N) :=
  metG (fin := (finX5_rainItem N)) (by decide) (Nat.le_of_ble_eq_true rfl) (fun E _ C => bX5_rainItem C M) hb
theorem dX5_placeItem_0 : decode cX5_placeItem 0 = .ok (.aload_n 0, 1) := by decide +kernel
theorem dX5_placeItem_1 : decode cX5_placeItem 1 = .ok (.iload_n 1, 1) := by decide +kernel
theorem dX5_placeItem_2 : decode cX5_placeItem 2 = .ok (.ifCond .lt 7, 3) := by decide +kernel
theorem dX5_placeItem_5 : decode cX5_placeItem 5 = .ok (.iconst 1, 1) := by decide +kernel
theorem dX5_placeItem_6 : decode cX5_placeItem 6 = .ok (.goto 4, 3) := by decide +kernel
theorem dX5_placeItem_9 : decode cX5_placeItem 9 = .ok (.iconst 0, 1) := by decide +kernel
theorem dX5_placeItem_10 : decode cX5_placeItem 10 = .ok (.invokevirtual 252, 3) := by decide +kernel
theorem dX5_placeItem_13 : decode cX5_placeItem 13 = .ok (.aload_n 0, 1) := by decide +kernel
theorem dX5_placeItem_14 : decode cX5_placeItem 14 = .ok (.invokevirtual 283, 3) := by decide +kernel
theorem dX5_placeItem_17 : decode cX5_placeItem 17 = .ok (.aload_n 0, 1) := by decide +kernel
theorem dX5_placeItem_18 : decode cX5_placeItem 18 = .ok (.getfield 238, 3) := by decide +kernel
theorem dX5_placeItem_21 : decode cX5_placeItem 21 = .ok (.ifCond .ne 15, 3) := by decide +kernel
theorem dX5_placeItem_24 : decode cX5_placeItem 24 = .ok (.aload_n 0, 1) := by decide +kernel
theorem dX5_placeItem_25 : decode cX5_placeItem 25 = .ok (.getfield 7, 3) := by decide +kernel
theorem dX5_placeItem_28 : decode cX5_placeItem 28 = .ok (.iconst 3, 1) := by decide +kernel
theorem dX5_placeItem_29 : decode cX5_placeItem 29 = .ok (.iload_n 1, 1) := by decide +kernel
theorem dX5_placeItem_30 : decode cX5_placeItem 30 = .ok (.iadd, 1) := by decide +kernel
theorem dX5_placeItem_31 : decode cX5_placeItem 31 = .ok (.aload_n 0, 1) := by decide +kernel
theorem dX5_placeItem_32 : decode cX5_placeItem 32 = .ok (.getfield 249, 3) := by decide +kernel
theorem dX5_placeItem_35 : decode cX5_placeItem 35 = .ok (.iastore, 1) := by decide +kernel
theorem dX5_placeItem_36 : decode cX5_placeItem 36 = .ok (.return_, 1) := by decide +kernel
def finX5_placeItem (N : Ml) : Mi → Option Value × Mi × Ml := fun b => (none, b, N)
noncomputable def fX5_placeItem_10   (M : Mi) (x1 : Int32) (s0 : Int32) : Option (Mi) := (Option.bind (fX5_wants M s0) (fun a3 => (Option.bind (fX5_cellHere a3) (fun a4 => (if (a4 6 6) = 0 then (if inb (3 + x1) 39 then (some (wM a4 0 (ix (3 + x1)) (a4 6 5))) else none) else (some a4))))))
theorem bX5_placeItem_10 {Z : Zt} {E : Ec} {N : Ml} (C : Ok 2 Z E cX5_placeItem 2 RX5 none 6)    (M : Mi) (x1 : Int32) (s0 : Int32)  : GT Z E 2 (finX5_placeItem N) 10 [(0, .ref (zA Z 6 0)), (1, .int x1)] [.int s0, .ref (zA Z 6 0)] M N (fX5_placeItem_10 M x1 s0) := by
  unfold fX5_placeItem_10
  refine r_bind (fun a3 ha3 => ?_)
  refine r_callV (rest := []) (st2 := []) C (mX5_wants (eL E) C.z M N s0 a3 ha3) lk_X5_252 (rvM C) (by decide) rfl rfl (Nat.le_of_ble_eq_true rfl) dX5_placeItem_10 rfl ?_
  refine r_aload_n C dX5_placeItem_13 0 0 rfl rfl ?_
  refine r_bind (fun a4 ha4 => ?_)
  refine r_callV (rest := []) (st2 := []) C (mX5_cellHere (eL E) C.z a3 N a4 ha4) lk_X5_283 (rvM C) (by decide) rfl rfl (Nat.le_of_ble_eq_true rfl) dX5_placeItem_14 rfl ?_
  refine r_aload_n C dX5_placeItem_17 0 0 rfl rfl ?_
  refine gf_X5_238 (v := (a4 6 6)) C dX5_placeItem_18 rfl ?_
  refine r_if_ne (tgt := 36) C dX5_placeItem_21 (by decide) (fun c5 => ?_) (fun c5 => ?_)
  · exact r_vret C dX5_placeItem_36 rfl
  · refine r_aload_n C dX5_placeItem_24 0 0 rfl rfl ?_
    refine gf_X5_7 C dX5_placeItem_25 ?_
    refine r_iconst (v := 3) C dX5_placeItem_28 (by decide) ?_
    refine r_iload_n C dX5_placeItem_29 1 1 rfl rfl ?_
    refine r_iadd C dX5_placeItem_30 ?_
    refine r_aload_n C dX5_placeItem_31 0 0 rfl rfl ?_
    refine gf_X5_249 (v := (a4 6 5)) C dX5_placeItem_32 rfl ?_
    refine r_guard (fun h6 => ?_)
    refine ast_M (M' := (wM a4 0 (ix (3 + x1)) (a4 6 5))) C mI_0 h6 rfl dX5_placeItem_35 ?_
    exact r_vret C dX5_placeItem_36 rfl
noncomputable def fX5_placeItem   (M : Mi) (x1 : Int32) : Option (Mi) := (fX5_placeItem_10 M x1 (if x1 < 0 then 0 else 1 : Int32))
theorem bX5_placeItem {Z : Zt} {E : Ec} {N : Ml} (C : Ok 2 Z E cX5_placeItem 2 RX5 none 6)    (M : Mi) (x1 : Int32)  : GT Z E 2 (finX5_placeItem N) 0 [(0, .ref (zA Z 6 0)), (1, .int x1)] [] M N (fX5_placeItem M x1) := by
  unfold fX5_placeItem
  refine r_aload_n C dX5_placeItem_0 0 0 rfl rfl ?_
  refine r_iload_n C dX5_placeItem_1 1 1 rfl rfl ?_
  refine r_sel (tj := 10) (sj := [.int (if x1 < 0 then 0 else 1 : Int32), .ref (zA Z 6 0)]) ?_ (fun k2 => ?_)
  · exact bX5_placeItem_10 C M x1 (if x1 < 0 then 0 else 1 : Int32)
  · refine r_same (P := x1 < 0) ?_
    refine r_if_lt (tgt := 9) C dX5_placeItem_2 (by decide) (fun c1 => ?_) (fun c1 => ?_)
    · refine r_iconst (v := 0) C dX5_placeItem_9 (by decide) ?_
      exact r_stk (if_pos c1) k2
    · refine r_iconst (v := 1) C dX5_placeItem_5 (by decide) ?_
      refine r_goto (tgt := 10) C dX5_placeItem_6 (by decide) ?_
      exact r_stk (if_neg c1) k2
theorem mX5_placeItem (l : Launch) {Z : Zt} (hZ : Zok 2 Z) (M : Mi) (N : Ml) (x1 : Int32) (b : Mi) (hb : fX5_placeItem M x1 = some b) : Ct 2 Z l yX5_placeItem cX5_placeItem 2 none 6 [.ref (zA Z 6 0), .int x1] M N (none, b, N) :=
  metG (fin := (finX5_placeItem N)) (by decide) (Nat.le_of_ble_eq_true rfl) (fun E _ C => bX5_placeItem C M x1) hb
theorem dX5_item_0 : decode cX5_item 0 = .ok (.aload_n 0, 1) := by decide +kernel
theorem dX5_item_1 : decode cX5_item 1 = .ok (.invokevirtual 288, 3) := by decide +kernel
theorem dX5_item_4 : decode cX5_item 4 = .ok (.istore_n 1, 1) := by decide +kernel
theorem dX5_item_5 : decode cX5_item 5 = .ok (.aload_n 0, 1) := by decide +kernel
theorem dX5_item_6 : decode cX5_item 6 = .ok (.invokevirtual 256, 3) := by decide +kernel
theorem dX5_item_9 : decode cX5_item 9 = .ok (.lstore_n 2, 1) := by decide +kernel
theorem dX5_item_10 : decode cX5_item 10 = .ok (.iload_n 1, 1) := by decide +kernel
theorem dX5_item_11 : decode cX5_item 11 = .ok (.ifCond .lt 11, 3) := by decide +kernel
theorem dX5_item_14 : decode cX5_item 14 = .ok (.aload_n 0, 1) := by decide +kernel
theorem dX5_item_15 : decode cX5_item 15 = .ok (.iload_n 1, 1) := by decide +kernel
theorem dX5_item_16 : decode cX5_item 16 = .ok (.invokevirtual 291, 3) := by decide +kernel
theorem dX5_item_19 : decode cX5_item 19 = .ok (.goto 62, 3) := by decide +kernel
theorem dX5_item_22 : decode cX5_item 22 = .ok (.lload_n 2, 1) := by decide +kernel
theorem dX5_item_23 : decode cX5_item 23 = .ok (.ldc2_w 294, 3) := by decide +kernel
theorem dX5_item_26 : decode cX5_item 26 = .ok (.lcmp, 1) := by decide +kernel
theorem dX5_item_27 : decode cX5_item 27 = .ok (.ifCond .eq 11, 3) := by decide +kernel
theorem dX5_item_30 : decode cX5_item 30 = .ok (.lload_n 2, 1) := by decide +kernel
theorem dX5_item_31 : decode cX5_item 31 = .ok (.ldc2_w 296, 3) := by decide +kernel
theorem dX5_item_34 : decode cX5_item 34 = .ok (.lcmp, 1) := by decide +kernel
theorem dX5_item_35 : decode cX5_item 35 = .ok (.ifCond .ne 23, 3) := by decide +kernel
theorem dX5_item_38 : decode cX5_item 38 = .ok (.aload_n 0, 1) := by decide +kernel
theorem dX5_item_39 : decode cX5_item 39 = .ok (.lload_n 2, 1) := by decide +kernel
theorem dX5_item_40 : decode cX5_item 40 = .ok (.ldc2_w 294, 3) := by decide +kernel
theorem dX5_item_43 : decode cX5_item 43 = .ok (.lcmp, 1) := by decide +kernel
theorem dX5_item_44 : decode cX5_item 44 = .ok (.ifCond .ne 7, 3) := by decide +kernel
theorem dX5_item_47 : decode cX5_item 47 = .ok (.iconst 1, 1) := by decide +kernel
theorem dX5_item_48 : decode cX5_item 48 = .ok (.goto 4, 3) := by decide +kernel
theorem dX5_item_51 : decode cX5_item 51 = .ok (.iconst 0, 1) := by decide +kernel
theorem dX5_item_52 : decode cX5_item 52 = .ok (.invokevirtual 298, 3) := by decide +kernel
theorem dX5_item_55 : decode cX5_item 55 = .ok (.goto 26, 3) := by decide +kernel
theorem dX5_item_58 : decode cX5_item 58 = .ok (.lload_n 2, 1) := by decide +kernel
theorem dX5_item_59 : decode cX5_item 59 = .ok (.ldc2_w 301, 3) := by decide +kernel
theorem dX5_item_62 : decode cX5_item 62 = .ok (.lcmp, 1) := by decide +kernel
theorem dX5_item_63 : decode cX5_item 63 = .ok (.ifCond .ne 10, 3) := by decide +kernel
theorem dX5_item_66 : decode cX5_item 66 = .ok (.aload_n 0, 1) := by decide +kernel
theorem dX5_item_67 : decode cX5_item 67 = .ok (.invokevirtual 303, 3) := by decide +kernel
theorem dX5_item_70 : decode cX5_item 70 = .ok (.goto 11, 3) := by decide +kernel
theorem dX5_item_73 : decode cX5_item 73 = .ok (.aload_n 0, 1) := by decide +kernel
theorem dX5_item_74 : decode cX5_item 74 = .ok (.aload_n 0, 1) := by decide +kernel
theorem dX5_item_75 : decode cX5_item 75 = .ok (.invokevirtual 306, 3) := by decide +kernel
theorem dX5_item_78 : decode cX5_item 78 = .ok (.invokevirtual 309, 3) := by decide +kernel
theorem dX5_item_81 : decode cX5_item 81 = .ok (.return_, 1) := by decide +kernel
def finX5_item (N : Ml) : Mi → Option Value × Mi × Ml := fun b => (none, b, N)
noncomputable def fX5_item_52   (M : Mi) (s0 : Int32) : Option (Mi) := (Option.bind (fX5_fenceItem M s0) (fun a6 => (some a6)))
theorem bX5_item_52 {Z : Zt} {E : Ec} {N : Ml} (C : Ok 2 Z E cX5_item 4 RX5 none 7)    (M : Mi) (s0 : Int32)  : GT Z E 4 (finX5_item N) 52 [] [.int s0, .ref (zA Z 6 0)] M N (fX5_item_52 M s0) := by
  unfold fX5_item_52
  refine r_bind (fun a6 ha6 => ?_)
  refine r_callV (rest := []) (st2 := []) C (mX5_fenceItem (eL E) C.z M N s0 a6 ha6) lk_X5_298 (rvM C) (by decide) rfl rfl (Nat.le_of_ble_eq_true rfl) dX5_item_52 rfl ?_
  refine r_goto (tgt := 81) C dX5_item_55 (by decide) ?_
  exact r_vret C dX5_item_81 rfl
noncomputable def fX5_item_38   (M : Mi) (x2 : Int64) : Option (Mi) := (if x2 = 6469733 then (fX5_item_52 M 1) else (fX5_item_52 M 0))
theorem bX5_item_38 {Z : Zt} {E : Ec} {N : Ml} (C : Ok 2 Z E cX5_item 4 RX5 none 7)    (M : Mi) (x2 : Int64)  : GT Z E 4 (finX5_item N) 38 [(0, .ref (zA Z 6 0)), (2, .long x2)] [] M N (fX5_item_38 M x2) := by
  unfold fX5_item_38
  refine r_aload_n C dX5_item_38 0 0 rfl rfl ?_
  refine r_lload_n C dX5_item_39 2 1 rfl rfl ?_
  refine r_ldc2 (v := 6469733) C dX5_item_40 wd_1202 ?_
  refine r_lc_ne (tgt := 51) C dX5_item_43 dX5_item_44 (by decide) (fun c5 => ?_) (fun c5 => ?_)
  · refine r_iconst (v := 0) C dX5_item_51 (by decide) ?_
    refine r_lv [] (lv' := []) rfl ?_
    exact bX5_item_52 C M 0
  · refine r_iconst (v := 1) C dX5_item_47 (by decide) ?_
    refine r_goto (tgt := 52) C dX5_item_48 (by decide) ?_
    refine r_lv [] (lv' := []) rfl ?_
    exact bX5_item_52 C M 1
noncomputable def fX5_item   (M : Mi) : Option (Mi) := (Option.bind (fX5_kindHere M) (fun a1 => (Option.bind (fX5_word M) (fun a2 => (if a1 < 0 then (if a2 = 6469733 then (fX5_item_38 M a2) else (if a2 = 215205 then (fX5_item_38 M a2) else (if a2 = 591150 then (Option.bind (fX5_rainItem M) (fun a11 => (some a11))) else (Option.bind (fX5_placeHere M) (fun a9 => (Option.bind (fX5_placeItem M a9) (fun a10 => (some a10)))))))) else (Option.bind (fX5_tortoiseItem M a1) (fun a12 => (some a12))))))))
theorem bX5_item {Z : Zt} {E : Ec} {N : Ml} (C : Ok 2 Z E cX5_item 4 RX5 none 7)    (M : Mi)  : GT Z E 4 (finX5_item N) 0 [(0, .ref (zA Z 6 0))] [] M N (fX5_item M) := by
  unfold fX5_item
  refine r_aload_n C dX5_item_0 0 0 rfl rfl ?_
  refine r_bind (fun a1 ha1 => ?_)
  refine r_callV (rest := []) (st2 := [.int a1]) C (mX5_kindHere (eL E) C.z M N a1 ha1) lk_X5_288 (rvM C) (by decide) rfl rfl (Nat.le_of_ble_eq_true rfl) dX5_item_1 rfl ?_
  refine r_istore_n (lv' := [(1, .int a1), (0, .ref (zA Z 6 0))]) C dX5_item_4 1 rfl (by decide) rfl ?_
  refine r_aload_n C dX5_item_5 0 1 rfl rfl ?_
  refine r_bind (fun a2 ha2 => ?_)
  refine r_callV (rest := []) (st2 := [.long a2]) C (mX5_word (eL E) C.z M N a2 ha2) lk_X5_256 (rvM C) (by decide) rfl rfl (Nat.le_of_ble_eq_true rfl) dX5_item_6 rfl ?_
  refine r_lstore_n (lv' := [(2, .long a2), (1, .int a1), (0, .ref (zA Z 6 0))]) C dX5_item_9 2 rfl (by decide) rfl ?_
  refine r_iload_n C dX5_item_10 1 1 rfl rfl ?_
  refine r_if_lt (tgt := 22) C dX5_item_11 (by decide) (fun c3 => ?_) (fun c3 => ?_)
  · refine r_lload_n C dX5_item_22 2 0 rfl rfl ?_
    refine r_ldc2 (v := 6469733) C dX5_item_23 wd_1202 ?_
    refine r_lc_eq (tgt := 38) C dX5_item_26 dX5_item_27 (by decide) (fun c4 => ?_) (fun c4 => ?_)
    · refine r_lv [2, 0] (lv' := [(0, .ref (zA Z 6 0)), (2, .long a2)]) rfl ?_
      exact bX5_item_38 C M a2
    · refine r_lload_n C dX5_item_30 2 0 rfl rfl ?_
      refine r_ldc2 (v := 215205) C dX5_item_31 wd_1203 ?_
      refine r_lc_ne (tgt := 58) C dX5_item_34 dX5_item_35 (by decide) (fun c7 => ?_) (fun c7 => ?_)
      · refine r_lload_n C dX5_item_58 2 0 rfl rfl ?_
        refine r_ldc2 (v := 591150) C dX5_item_59 wd_1208 ?_
        refine r_lc_ne (tgt := 73) C dX5_item_62 dX5_item_63 (by decide) (fun c8 => ?_) (fun c8 => ?_)
        · refine r_aload_n C dX5_item_73 0 2 rfl rfl ?_
          refine r_aload_n C dX5_item_74 0 2 rfl rfl ?_
          refine r_bind (fun a9 ha9 => ?_)
          refine r_callV (rest := [.ref (zA Z 6 0)]) (st2 := [.int a9, .ref (zA Z 6 0)]) C (mX5_placeHere (eL E) C.z M N a9 ha9) lk_X5_306 (rvM C) (by decide) rfl rfl (Nat.le_of_ble_eq_true rfl) dX5_item_75 rfl ?_
          refine r_bind (fun a10 ha10 => ?_)
          refine r_callV (rest := []) (st2 := []) C (mX5_placeItem (eL E) C.z M N a9 a10 ha10) lk_X5_309 (rvM C) (by decide) rfl rfl (Nat.le_of_ble_eq_true rfl) dX5_item_78 rfl ?_
          exact r_vret C dX5_item_81 rfl
        · refine r_aload_n C dX5_item_66 0 2 rfl rfl ?_
          refine r_bind (fun a11 ha11 => ?_)
          refine r_callV (rest := []) (st2 := []) C (mX5_rainItem (eL E) C.z M N a11 ha11) lk_X5_303 (rvM C) (by decide) rfl rfl (Nat.le_of_ble_eq_true rfl) dX5_item_67 rfl ?_
          refine r_goto (tgt := 81) C dX5_item_70 (by decide) ?_
          exact r_vret C dX5_item_81 rfl
      · refine r_lv [2, 0] (lv' := [(0, .ref (zA Z 6 0)), (2, .long a2)]) rfl ?_
        exact bX5_item_38 C M a2
  · refine r_aload_n C dX5_item_14 0 2 rfl rfl ?_
    refine r_iload_n C dX5_item_15 1 1 rfl rfl ?_
    refine r_bind (fun a12 ha12 => ?_)
    refine r_callV (rest := []) (st2 := []) C (mX5_tortoiseItem (eL E) C.z M N a1 a12 ha12) lk_X5_291 (rvM C) (by decide) rfl rfl (Nat.le_of_ble_eq_true rfl) dX5_item_16 rfl ?_
    refine r_goto (tgt := 81) C dX5_item_19 (by decide) ?_
    exact r_vret C dX5_item_81 rfl
theorem mX5_item (l : Launch) {Z : Zt} (hZ : Zok 2 Z) (M : Mi) (N : Ml) (b : Mi) (hb : fX5_item M = some b) : Ct 2 Z l yX5_item cX5_item 4 none 7 [.ref (zA Z 6 0)] M N (none, b, N) :=
  metG (fin := (finX5_item N)) (by decide) (Nat.le_of_ble_eq_true rfl) (fun E _ C => bX5_item C M) hb
theorem dX5_island_0 : decode cX5_island 0 = .ok (.aload_n 0, 1) := by decide +kernel
theorem dX5_island_1 : decode cX5_island 1 = .ok (.invokevirtual 312, 3) := by decide +kernel
theorem dX5_island_4 : decode cX5_island 4 = .ok (.aload_n 0, 1) := by decide +kernel
theorem dX5_island_5 : decode cX5_island 5 = .ok (.iconst 0, 1) := by decide +kernel
theorem dX5_island_6 : decode cX5_island 6 = .ok (.putfield 238, 3) := by decide +kernel
theorem dX5_island_9 : decode cX5_island 9 = .ok (.aload_n 0, 1) := by decide +kernel
theorem dX5_island_10 : decode cX5_island 10 = .ok (.iconst 0, 1) := by decide +kernel
theorem dX5_island_11 : decode cX5_island 11 = .ok (.putfield 223, 3) := by decide +kernel
theorem dX5_island_14 : decode cX5_island 14 = .ok (.aload_n 0, 1) := by decide +kernel
theorem dX5_island_15 : decode cX5_island 15 = .ok (.invokevirtual 242, 3) := by decide +kernel
theorem dX5_island_18 : decode cX5_island 18 = .ok (.iconst 1, 1) := by decide +kernel
theorem dX5_island_19 : decode cX5_island 19 = .ok (.istore_n 1, 1) := by decide +kernel
theorem dX5_island_20 : decode cX5_island 20 = .ok (.aload_n 0, 1) := by decide +kernel
theorem dX5_island_21 : decode cX5_island 21 = .ok (.invokevirtual 315, 3) := by decide +kernel
theorem dX5_island_24 : decode cX5_island 24 = .ok (.aload_n 0, 1) := by decide +kernel
theorem dX5_island_25 : decode cX5_island 25 = .ok (.getfield 238, 3) := by decide +kernel
theorem dX5_island_28 : decode cX5_island 28 = .ok (.ifCond .ne 31, 3) := by decide +kernel
theorem dX5_island_31 : decode cX5_island 31 = .ok (.aload_n 0, 1) := by decide +kernel
theorem dX5_island_32 : decode cX5_island 32 = .ok (.aload_n 0, 1) := by decide +kernel
theorem dX5_island_33 : decode cX5_island 33 = .ok (.getfield 226, 3) := by decide +kernel
theorem dX5_island_36 : decode cX5_island 36 = .ok (.invokevirtual 229, 3) := by decide +kernel
theorem dX5_island_39 : decode cX5_island 39 = .ok (.bipush 59, 2) := by decide +kernel
theorem dX5_island_41 : decode cX5_island 41 = .ok (.if_icmp .ne 18, 3) := by decide +kernel
theorem dX5_island_44 : decode cX5_island 44 = .ok (.aload_n 0, 1) := by decide +kernel
theorem dX5_island_45 : decode cX5_island 45 = .ok (.iconst 1, 1) := by decide +kernel
theorem dX5_island_46 : decode cX5_island 46 = .ok (.invokevirtual 252, 3) := by decide +kernel
theorem dX5_island_49 : decode cX5_island 49 = .ok (.aload_n 0, 1) := by decide +kernel
theorem dX5_island_50 : decode cX5_island 50 = .ok (.invokevirtual 315, 3) := by decide +kernel
theorem dX5_island_53 : decode cX5_island 53 = .ok (.iinc 1 1, 3) := by decide +kernel
theorem dX5_island_56 : decode cX5_island 56 = .ok (.goto (-32), 3) := by decide +kernel
theorem dX5_island_59 : decode cX5_island 59 = .ok (.aload_n 0, 1) := by decide +kernel
theorem dX5_island_60 : decode cX5_island 60 = .ok (.aload_n 0, 1) := by decide +kernel
theorem dX5_island_61 : decode cX5_island 61 = .ok (.getfield 238, 3) := by decide +kernel
theorem dX5_island_64 : decode cX5_island 64 = .ok (.ifCond .ne 14, 3) := by decide +kernel
theorem dX5_island_67 : decode cX5_island 67 = .ok (.aload_n 0, 1) := by decide +kernel
theorem dX5_island_68 : decode cX5_island 68 = .ok (.getfield 226, 3) := by decide +kernel
theorem dX5_island_71 : decode cX5_island 71 = .ok (.aload_n 0, 1) := by decide +kernel
theorem dX5_island_72 : decode cX5_island 72 = .ok (.getfield 214, 3) := by decide +kernel
theorem dX5_island_75 : decode cX5_island 75 = .ok (.if_icmp .ge 7, 3) := by decide +kernel
theorem dX5_island_78 : decode cX5_island 78 = .ok (.iconst 1, 1) := by decide +kernel
theorem dX5_island_79 : decode cX5_island 79 = .ok (.goto 4, 3) := by decide +kernel
theorem dX5_island_82 : decode cX5_island 82 = .ok (.iconst 0, 1) := by decide +kernel
theorem dX5_island_83 : decode cX5_island 83 = .ok (.putfield 238, 3) := by decide +kernel
theorem dX5_island_86 : decode cX5_island 86 = .ok (.aload_n 0, 1) := by decide +kernel
theorem dX5_island_87 : decode cX5_island 87 = .ok (.getfield 238, 3) := by decide +kernel
theorem dX5_island_90 : decode cX5_island 90 = .ok (.ifCond .eq 7, 3) := by decide +kernel
theorem dX5_island_93 : decode cX5_island 93 = .ok (.aload_n 0, 1) := by decide +kernel
theorem dX5_island_94 : decode cX5_island 94 = .ok (.invokevirtual 318, 3) := by decide +kernel
theorem dX5_island_97 : decode cX5_island 97 = .ok (.aload_n 0, 1) := by decide +kernel
theorem dX5_island_98 : decode cX5_island 98 = .ok (.iconst 0, 1) := by decide +kernel
theorem dX5_island_99 : decode cX5_island 99 = .ok (.putfield 214, 3) := by decide +kernel
theorem dX5_island_102 : decode cX5_island 102 = .ok (.aload_n 0, 1) := by decide +kernel
theorem dX5_island_103 : decode cX5_island 103 = .ok (.getfield 238, 3) := by decide +kernel
theorem dX5_island_106 : decode cX5_island 106 = .ok (.ifCond .eq 12, 3) := by decide +kernel
theorem dX5_island_109 : decode cX5_island 109 = .ok (.iconst (-1), 1) := by decide +kernel
theorem dX5_island_110 : decode cX5_island 110 = .ok (.aload_n 0, 1) := by decide +kernel
theorem dX5_island_111 : decode cX5_island 111 = .ok (.getfield 226, 3) := by decide +kernel
theorem dX5_island_114 : decode cX5_island 114 = .ok (.isub, 1) := by decide +kernel
theorem dX5_island_115 : decode cX5_island 115 = .ok (.goto 4, 3) := by decide +kernel
theorem dX5_island_118 : decode cX5_island 118 = .ok (.iload_n 1, 1) := by decide +kernel
theorem dX5_island_119 : decode cX5_island 119 = .ok (.ireturn, 1) := by decide +kernel
def finX5_island (N : Ml) : Int32 × Mi → Option Value × Mi × Ml := fun b => (some (Value.int b.1), b.2, N)
noncomputable def fX5_island_97   (M : Mi) (x1 : Int32) : Option (Int32 × Mi) := (if (M 6 6) = 0 then (some (x1, (wM M 6 2 0))) else (some (((-1) - (M 6 3)), (wM M 6 2 0))))
theorem bX5_island_97 {Z : Zt} {E : Ec} {N : Ml} (C : Ok 2 Z E cX5_island 2 RX5 (some .int) 8)    (M : Mi) (x1 : Int32)  : GT Z E 2 (finX5_island N) 97 [(0, .ref (zA Z 6 0)), (1, .int x1)] [] M N (fX5_island_97 M x1) := by
  unfold fX5_island_97
  refine r_aload_n C dX5_island_97 0 0 rfl rfl ?_
  refine r_iconst (v := 0) C dX5_island_98 (by decide) ?_
  refine pf_X5_214 (M' := (wM M 6 2 0)) C dX5_island_99 rfl ?_
  refine r_aload_n C dX5_island_102 0 0 rfl rfl ?_
  refine gf_X5_238 (v := (M 6 6)) C dX5_island_103 rfl ?_
  refine r_if_eq (tgt := 118) C dX5_island_106 (by decide) (fun c8 => ?_) (fun c8 => ?_)
  · refine r_iload_n C dX5_island_118 1 1 rfl rfl ?_
    exact r_iret C dX5_island_119 rfl
  · refine r_iconst (v := (-1)) C dX5_island_109 (by decide) ?_
    refine r_aload_n C dX5_island_110 0 0 rfl rfl ?_
    refine gf_X5_226 (v := (M 6 3)) C dX5_island_111 rfl ?_
    refine r_isub C dX5_island_114 ?_
    refine r_goto (tgt := 119) C dX5_island_115 (by decide) ?_
    exact r_iret C dX5_island_119 rfl
noncomputable def fX5_island_83   (M : Mi) (x1 : Int32) (s0 : Int32) : Option (Int32 × Mi) := (if s0 = 0 ∨ s0 = 1 then (if s0 = 0 then (fX5_island_97 (wM M 6 6 s0) x1) else (Option.bind (fX5_putsBack (wM M 6 6 s0)) (fun a9 => (fX5_island_97 a9 x1)))) else none)
theorem bX5_island_83 {Z : Zt} {E : Ec} {N : Ml} (C : Ok 2 Z E cX5_island 2 RX5 (some .int) 8)    (M : Mi) (x1 : Int32) (s0 : Int32)  : GT Z E 2 (finX5_island N) 83 [(0, .ref (zA Z 6 0)), (1, .int x1)] [.int s0, .ref (zA Z 6 0)] M N (fX5_island_83 M x1 s0) := by
  unfold fX5_island_83
  refine r_guard (fun h6 => ?_)
  refine pf_X5_238 (M' := (wM M 6 6 s0)) C dX5_island_83 h6 rfl ?_
  refine r_aload_n C dX5_island_86 0 0 rfl rfl ?_
  refine gf_X5_238 (v := s0) C dX5_island_87 rfl ?_
  refine r_if_eq (tgt := 97) C dX5_island_90 (by decide) (fun c7 => ?_) (fun c7 => ?_)
  · exact bX5_island_97 C (wM M 6 6 s0) x1
  · refine r_aload_n C dX5_island_93 0 0 rfl rfl ?_
    refine r_bind (fun a9 ha9 => ?_)
    refine r_callV (rest := []) (st2 := []) C (mX5_putsBack (eL E) C.z (wM M 6 6 s0) N a9 ha9) lk_X5_318 (rvM C) (by decide) rfl rfl (Nat.le_of_ble_eq_true rfl) dX5_island_94 rfl ?_
    exact bX5_island_97 C a9 x1
noncomputable def fX5_island_78   (M : Mi) (x1 : Int32) : Option (Int32 × Mi) := (fX5_island_83 M x1 1)
theorem bX5_island_78 {Z : Zt} {E : Ec} {N : Ml} (C : Ok 2 Z E cX5_island 2 RX5 (some .int) 8)    (M : Mi) (x1 : Int32)  : GT Z E 2 (finX5_island N) 78 [(0, .ref (zA Z 6 0)), (1, .int x1)] [.ref (zA Z 6 0)] M N (fX5_island_78 M x1) := by
  unfold fX5_island_78
  refine r_iconst (v := 1) C dX5_island_78 (by decide) ?_
  refine r_goto (tgt := 83) C dX5_island_79 (by decide) ?_
  exact bX5_island_83 C M x1 1
noncomputable def fX5_island_59   (M : Mi) (x1 : Int32) : Option (Int32 × Mi) := (if (M 6 6) = 0 then (if (M 6 2) ≤ (M 6 3) then (fX5_island_83 M x1 0) else (fX5_island_78 M x1)) else (fX5_island_78 M x1))
theorem bX5_island_59 {Z : Zt} {E : Ec} {N : Ml} (C : Ok 2 Z E cX5_island 2 RX5 (some .int) 8)    (M : Mi) (x1 : Int32)  : GT Z E 2 (finX5_island N) 59 [(0, .ref (zA Z 6 0)), (1, .int x1)] [] M N (fX5_island_59 M x1) := by
  unfold fX5_island_59
  refine r_aload_n C dX5_island_59 0 0 rfl rfl ?_
  refine r_aload_n C dX5_island_60 0 0 rfl rfl ?_
  refine gf_X5_238 (v := (M 6 6)) C dX5_island_61 rfl ?_
  refine r_if_ne (tgt := 78) C dX5_island_64 (by decide) (fun c5 => ?_) (fun c5 => ?_)
  · exact bX5_island_78 C M x1
  · refine r_aload_n C dX5_island_67 0 0 rfl rfl ?_
    refine gf_X5_226 (v := (M 6 3)) C dX5_island_68 rfl ?_
    refine r_aload_n C dX5_island_71 0 0 rfl rfl ?_
    refine gf_X5_214 (v := (M 6 2)) C dX5_island_72 rfl ?_
    refine r_ic_ge (tgt := 82) C dX5_island_75 (by decide) (fun c10 => ?_) (fun c10 => ?_)
    · refine r_iconst (v := 0) C dX5_island_82 (by decide) ?_
      exact bX5_island_83 C M x1 0
    · exact bX5_island_78 C M x1
noncomputable def fX5_island_24   : Nat → Mi → Int32 → Option (Int32 × Mi)
  | 0 => fun _ _ => none
  | n + 1 => fun M x1 => (if (M 6 6) = 0 then (Option.bind (fX5_byteAt M (M 6 3)) (fun a11 => (if a11 = 59 then (Option.bind (fX5_wants M 1) (fun a13 => (Option.bind (fX5_item a13) (fun a14 => ((fX5_island_24 n) a14 (x1 + 1)))))) else (fX5_island_59 M x1)))) else (fX5_island_59 M x1))
theorem bX5_island_24 {Z : Zt} {E : Ec} {N : Ml} (C : Ok 2 Z E cX5_island 2 RX5 (some .int) 8)    : ∀ (n : Nat) (M : Mi) (x1 : Int32), GT Z E 2 (finX5_island N) 24 [(0, .ref (zA Z 6 0)), (1, .int x1)] [] M N (fX5_island_24 n M x1) := by
  intro n
  induction n with
  | zero => intro M x1; exact r_none
  | succ n ih =>
    intro M x1
    rw [fX5_island_24]
    refine r_aload_n C dX5_island_24 0 0 rfl rfl ?_
    refine gf_X5_238 (v := (M 6 6)) C dX5_island_25 rfl ?_
    refine r_if_ne (tgt := 59) C dX5_island_28 (by decide) (fun c4 => ?_) (fun c4 => ?_)
    · exact bX5_island_59 C M x1
    · refine r_aload_n C dX5_island_31 0 0 rfl rfl ?_
      refine r_aload_n C dX5_island_32 0 0 rfl rfl ?_
      refine gf_X5_226 (v := (M 6 3)) C dX5_island_33 rfl ?_
      refine r_bind (fun a11 ha11 => ?_)
      refine r_callV (rest := []) (st2 := [.int a11]) C (mX5_byteAt (eL E) C.z M N (M 6 3) a11 ha11) lk_X5_229 (rvM C) (by decide) rfl rfl (Nat.le_of_ble_eq_true rfl) dX5_island_36 rfl ?_
      refine r_bipush (v := 59) C dX5_island_39 (by decide) ?_
      refine r_ic_ne (tgt := 59) C dX5_island_41 (by decide) (fun c12 => ?_) (fun c12 => ?_)
      · exact bX5_island_59 C M x1
      · refine r_aload_n C dX5_island_44 0 0 rfl rfl ?_
        refine r_iconst (v := 1) C dX5_island_45 (by decide) ?_
        refine r_bind (fun a13 ha13 => ?_)
        refine r_callV (rest := []) (st2 := []) C (mX5_wants (eL E) C.z M N 1 a13 ha13) lk_X5_252 (rvM C) (by decide) rfl rfl (Nat.le_of_ble_eq_true rfl) dX5_island_46 rfl ?_
        refine r_aload_n C dX5_island_49 0 0 rfl rfl ?_
        refine r_bind (fun a14 ha14 => ?_)
        refine r_callV (rest := []) (st2 := []) C (mX5_item (eL E) C.z a13 N a14 ha14) lk_X5_315 (rvM C) (by decide) rfl rfl (Nat.le_of_ble_eq_true rfl) dX5_island_50 rfl ?_
        refine r_iinc (v := (x1 + 1)) (lv' := [(1, .int (x1 + 1)), (0, .ref (zA Z 6 0))]) C dX5_island_53 1 rfl rfl (by decide) rfl ?_
        refine r_goto (tgt := 24) C dX5_island_56 (by decide) ?_
        refine r_lv [1, 0] (lv' := [(0, .ref (zA Z 6 0)), (1, .int (x1 + 1))]) rfl ?_
        exact ih a14 (x1 + 1)
noncomputable def fX5_island   (M : Mi) : Option (Int32 × Mi) := (Option.bind (fX5_saves M) (fun a1 => (Option.bind (fX5_token (wM (wM a1 6 6 0) 6 4 0)) (fun a2 => (Option.bind (fX5_item a2) (fun a3 => (fX5_island_24 fu a3 1)))))))
theorem bX5_island {Z : Zt} {E : Ec} {N : Ml} (C : Ok 2 Z E cX5_island 2 RX5 (some .int) 8)    (M : Mi)  : GT Z E 2 (finX5_island N) 0 [(0, .ref (zA Z 6 0))] [] M N (fX5_island M) := by
  unfold fX5_island
  refine r_aload_n C dX5_island_0 0 0 rfl rfl ?_
  refine r_bind (fun a1 ha1 => ?_)
  refine r_callV (rest := []) (st2 := []) C (mX5_saves (eL E) C.z M N a1 ha1) lk_X5_312 (rvM C) (by decide) rfl rfl (Nat.le_of_ble_eq_true rfl) dX5_island_1 rfl ?_
  refine r_aload_n C dX5_island_4 0 0 rfl rfl ?_
  refine r_iconst (v := 0) C dX5_island_5 (by decide) ?_
  refine pf_X5_238 (M' := (wM a1 6 6 0)) C dX5_island_6 (Or.inl rfl) rfl ?_
  refine r_aload_n C dX5_island_9 0 0 rfl rfl ?_
  refine r_iconst (v := 0) C dX5_island_10 (by decide) ?_
  refine pf_X5_223 (M' := (wM (wM a1 6 6 0) 6 4 0)) C dX5_island_11 rfl ?_
  refine r_aload_n C dX5_island_14 0 0 rfl rfl ?_
  refine r_bind (fun a2 ha2 => ?_)
  refine r_callV (rest := []) (st2 := []) C (mX5_token (eL E) C.z (wM (wM a1 6 6 0) 6 4 0) N a2 ha2) lk_X5_242 (rvM C) (by decide) rfl rfl (Nat.le_of_ble_eq_true rfl) dX5_island_15 rfl ?_
  refine r_iconst (v := 1) C dX5_island_18 (by decide) ?_
  refine r_istore_n (lv' := [(1, .int 1), (0, .ref (zA Z 6 0))]) C dX5_island_19 1 rfl (by decide) rfl ?_
  refine r_aload_n C dX5_island_20 0 1 rfl rfl ?_
  refine r_bind (fun a3 ha3 => ?_)
  refine r_callV (rest := []) (st2 := []) C (mX5_item (eL E) C.z a2 N a3 ha3) lk_X5_315 (rvM C) (by decide) rfl rfl (Nat.le_of_ble_eq_true rfl) dX5_island_21 rfl ?_
  refine r_lv [1, 0] (lv' := [(0, .ref (zA Z 6 0)), (1, .int 1)]) rfl ?_
  exact bX5_island_24 C fu a3 1
theorem mX5_island (l : Launch) {Z : Zt} (hZ : Zok 2 Z) (M : Mi) (N : Ml) (b : Int32 × Mi) (hb : fX5_island M = some b) : Ct 2 Z l yX5_island cX5_island 2 (some .int) 8 [.ref (zA Z 6 0)] M N (some (Value.int b.1), b.2, N) :=
  metG (fin := (finX5_island N)) (by decide) (Nat.le_of_ble_eq_true rfl) (fun E _ C => bX5_island C M) hb
theorem dX5_isRow_0 : decode cX5_isRow 0 = .ok (.iload_n 0, 1) := by decide +kernel
theorem dX5_isRow_1 : decode cX5_isRow 1 = .ok (.i2l, 1) := by decide +kernel
theorem dX5_isRow_2 : decode cX5_isRow 2 = .ok (.lconst 0, 1) := by decide +kernel
theorem dX5_isRow_3 : decode cX5_isRow 3 = .ok (.ldc2_w 321, 3) := by decide +kernel
theorem dX5_isRow_6 : decode cX5_isRow 6 = .ok (.invokestatic 44, 3) := by decide +kernel
theorem dX5_isRow_9 : decode cX5_isRow 9 = .ok (.ireturn, 1) := by decide +kernel
def finX5_isRow (M : Mi) (N : Ml) : Int32 → Option Value × Mi × Ml := fun b => (some (Value.int b), M, N)
noncomputable def fX5_isRow   (x0 : Int32) : Int32 := (fX5_in (Int32.toInt64 x0) 0 3)
theorem bX5_isRow {Z : Zt} {E : Ec} {M : Mi} {N : Ml} (C : Ok 2 Z E cX5_isRow 1 RX5 (some .boolean) 1)    (x0 : Int32)  : GT Z E 1 (finX5_isRow M N) 0 [(0, .int x0)] [] M N (some (fX5_isRow x0)) := by
  unfold fX5_isRow
  refine r_iload_n C dX5_isRow_0 0 0 rfl rfl ?_
  refine r_i2l C dX5_isRow_1 ?_
  refine r_lconst (v := 0) C dX5_isRow_2 (by decide) ?_
  refine r_ldc2 (v := 3) C dX5_isRow_3 wd_1236 ?_
  refine r_callS (rest := []) (st2 := [.int (fX5_in (Int32.toInt64 x0) 0 3)]) C (mX5_in (eL E) C.z _ _ (Int32.toInt64 x0) 0 3) lk_X5_44 (by decide) rfl rfl (Nat.le_of_ble_eq_true rfl) dX5_isRow_6 rfl ?_
  exact r_zret C dX5_isRow_9 (zbX5_in  (Int32.toInt64 x0) 0 3) rfl
theorem zbX5_isRow (x0 : Int32) : fX5_isRow x0 = 0 ∨ fX5_isRow x0 = 1 := by
  unfold fX5_isRow; (repeat' split) <;> first | exact Or.inl rfl | exact Or.inr rfl | exact zbX5_in _ _ _
theorem mX5_isRow (l : Launch) {Z : Zt} (hZ : Zok 2 Z) (M : Mi) (N : Ml) (x0 : Int32) : Ct 2 Z l yX5_isRow cX5_isRow 1 (some .boolean) 1 [.int x0] M N (some (Value.int (fX5_isRow x0)), M, N) :=
  metG (fin := (finX5_isRow M N)) (by decide) (Nat.le_of_ble_eq_true rfl) (fun E _ C => bX5_isRow C x0) rfl
theorem dX5_sheet_0 : decode cX5_sheet 0 = .ok (.iload_n 1, 1) := by decide +kernel
theorem dX5_sheet_1 : decode cX5_sheet 1 = .ok (.invokestatic 323, 3) := by decide +kernel
theorem dX5_sheet_4 : decode cX5_sheet 4 = .ok (.ifCond .eq 25, 3) := by decide +kernel
theorem dX5_sheet_7 : decode cX5_sheet 7 = .ok (.iload_n 2, 1) := by decide +kernel
theorem dX5_sheet_8 : decode cX5_sheet 8 = .ok (.ifCond .eq 28, 3) := by decide +kernel
theorem dX5_sheet_11 : decode cX5_sheet 11 = .ok (.iload_n 2, 1) := by decide +kernel
theorem dX5_sheet_12 : decode cX5_sheet 12 = .ok (.bipush 8, 2) := by decide +kernel
theorem dX5_sheet_14 : decode cX5_sheet 14 = .ok (.if_icmp .eq 22, 3) := by decide +kernel
theorem dX5_sheet_17 : decode cX5_sheet 17 = .ok (.iload_n 2, 1) := by decide +kernel
theorem dX5_sheet_18 : decode cX5_sheet 18 = .ok (.bipush 16, 2) := by decide +kernel
theorem dX5_sheet_20 : decode cX5_sheet 20 = .ok (.if_icmp .eq 16, 3) := by decide +kernel
theorem dX5_sheet_23 : decode cX5_sheet 23 = .ok (.iload_n 2, 1) := by decide +kernel
theorem dX5_sheet_24 : decode cX5_sheet 24 = .ok (.bipush 64, 2) := by decide +kernel
theorem dX5_sheet_26 : decode cX5_sheet 26 = .ok (.if_icmp .eq 10, 3) := by decide +kernel
theorem dX5_sheet_29 : decode cX5_sheet 29 = .ok (.aload_n 0, 1) := by decide +kernel
theorem dX5_sheet_30 : decode cX5_sheet 30 = .ok (.ldc 41, 2) := by decide +kernel
theorem dX5_sheet_32 : decode cX5_sheet 32 = .ok (.invokevirtual 65, 3) := by decide +kernel
theorem dX5_sheet_35 : decode cX5_sheet 35 = .ok (.ireturn, 1) := by decide +kernel
theorem dX5_sheet_36 : decode cX5_sheet 36 = .ok (.iload_n 3, 1) := by decide +kernel
theorem dX5_sheet_37 : decode cX5_sheet 37 = .ok (.ifCond .ge 11, 3) := by decide +kernel
theorem dX5_sheet_40 : decode cX5_sheet 40 = .ok (.aload_n 0, 1) := by decide +kernel
theorem dX5_sheet_41 : decode cX5_sheet 41 = .ok (.ldc_w 326, 3) := by decide +kernel
theorem dX5_sheet_44 : decode cX5_sheet 44 = .ok (.invokevirtual 65, 3) := by decide +kernel
theorem dX5_sheet_47 : decode cX5_sheet 47 = .ok (.ireturn, 1) := by decide +kernel
theorem dX5_sheet_48 : decode cX5_sheet 48 = .ok (.iload_n 3, 1) := by decide +kernel
theorem dX5_sheet_49 : decode cX5_sheet 49 = .ok (.bipush 40, 2) := by decide +kernel
theorem dX5_sheet_51 : decode cX5_sheet 51 = .ok (.if_icmp .le 10, 3) := by decide +kernel
theorem dX5_sheet_54 : decode cX5_sheet 54 = .ok (.aload_n 0, 1) := by decide +kernel
theorem dX5_sheet_55 : decode cX5_sheet 55 = .ok (.ldc 41, 2) := by decide +kernel
theorem dX5_sheet_57 : decode cX5_sheet 57 = .ok (.invokevirtual 65, 3) := by decide +kernel
theorem dX5_sheet_60 : decode cX5_sheet 60 = .ok (.ireturn, 1) := by decide +kernel
theorem dX5_sheet_61 : decode cX5_sheet 61 = .ok (.aload_n 0, 1) := by decide +kernel
theorem dX5_sheet_62 : decode cX5_sheet 62 = .ok (.getfield 28, 3) := by decide +kernel
theorem dX5_sheet_65 : decode cX5_sheet 65 = .ok (.iload_n 1, 1) := by decide +kernel
theorem dX5_sheet_66 : decode cX5_sheet 66 = .ok (.iload_n 2, 1) := by decide +kernel
theorem dX5_sheet_67 : decode cX5_sheet 67 = .ok (.iastore, 1) := by decide +kernel
theorem dX5_sheet_68 : decode cX5_sheet 68 = .ok (.aload_n 0, 1) := by decide +kernel
theorem dX5_sheet_69 : decode cX5_sheet 69 = .ok (.getfield 31, 3) := by decide +kernel
theorem dX5_sheet_72 : decode cX5_sheet 72 = .ok (.iload_n 1, 1) := by decide +kernel
theorem dX5_sheet_73 : decode cX5_sheet 73 = .ok (.iload_n 2, 1) := by decide +kernel
theorem dX5_sheet_74 : decode cX5_sheet 74 = .ok (.ifCond .ne 7, 3) := by decide +kernel
theorem dX5_sheet_77 : decode cX5_sheet 77 = .ok (.iconst 0, 1) := by decide +kernel
theorem dX5_sheet_78 : decode cX5_sheet 78 = .ok (.goto 4, 3) := by decide +kernel
theorem dX5_sheet_81 : decode cX5_sheet 81 = .ok (.iload_n 3, 1) := by decide +kernel
theorem dX5_sheet_82 : decode cX5_sheet 82 = .ok (.iastore, 1) := by decide +kernel
theorem dX5_sheet_83 : decode cX5_sheet 83 = .ok (.iconst 0, 1) := by decide +kernel
theorem dX5_sheet_84 : decode cX5_sheet 84 = .ok (.istore 4, 2) := by decide +kernel
theorem dX5_sheet_86 : decode cX5_sheet 86 = .ok (.iload 4, 2) := by decide +kernel
theorem dX5_sheet_88 : decode cX5_sheet 88 = .ok (.bipush 40, 2) := by decide +kernel
theorem dX5_sheet_90 : decode cX5_sheet 90 = .ok (.if_icmp .ge 22, 3) := by decide +kernel
theorem dX5_sheet_93 : decode cX5_sheet 93 = .ok (.aload_n 0, 1) := by decide +kernel
theorem dX5_sheet_94 : decode cX5_sheet 94 = .ok (.getfield 34, 3) := by decide +kernel
theorem dX5_sheet_97 : decode cX5_sheet 97 = .ok (.bipush 40, 2) := by decide +kernel
theorem dX5_sheet_99 : decode cX5_sheet 99 = .ok (.iload_n 1, 1) := by decide +kernel
theorem dX5_sheet_100 : decode cX5_sheet 100 = .ok (.imul, 1) := by decide +kernel
theorem dX5_sheet_101 : decode cX5_sheet 101 = .ok (.iload 4, 2) := by decide +kernel
theorem dX5_sheet_103 : decode cX5_sheet 103 = .ok (.iadd, 1) := by decide +kernel
theorem dX5_sheet_104 : decode cX5_sheet 104 = .ok (.lconst 0, 1) := by decide +kernel
theorem dX5_sheet_105 : decode cX5_sheet 105 = .ok (.lastore, 1) := by decide +kernel
theorem dX5_sheet_106 : decode cX5_sheet 106 = .ok (.iinc 4 1, 3) := by decide +kernel
theorem dX5_sheet_109 : decode cX5_sheet 109 = .ok (.goto (-23), 3) := by decide +kernel
theorem dX5_sheet_112 : decode cX5_sheet 112 = .ok (.aload_n 0, 1) := by decide +kernel
theorem dX5_sheet_113 : decode cX5_sheet 113 = .ok (.getfield 31, 3) := by decide +kernel
theorem dX5_sheet_116 : decode cX5_sheet 116 = .ok (.iload_n 1, 1) := by decide +kernel
theorem dX5_sheet_117 : decode cX5_sheet 117 = .ok (.iaload, 1) := by decide +kernel
theorem dX5_sheet_118 : decode cX5_sheet 118 = .ok (.ireturn, 1) := by decide +kernel
def finX5_sheet  : Int32 × Mi × Ml → Option Value × Mi × Ml := fun b => (some (Value.int b.1), b.2.1, b.2.2)
noncomputable def fX5_sheet_29   (M : Mi) (N : Ml) : Option (Int32 × Mi × Ml) := (Option.bind (fX5_finds M (-1000000001)) (fun a2 => (some (a2.1, (a2.2), N))))
theorem bX5_sheet_29 {Z : Zt} {E : Ec}  (C : Ok 2 Z E cX5_sheet 5 RX5 (some .int) 2)    (M : Mi) (N : Ml)  : GT Z E 5 finX5_sheet 29 [(0, .ref (zA Z 6 0))] [] M N (fX5_sheet_29 M N) := by
  unfold fX5_sheet_29
  refine r_aload_n C dX5_sheet_29 0 0 rfl rfl ?_
  refine r_ldc (v := (-1000000001)) C dX5_sheet_30 wd_859 ?_
  refine r_bind (fun a2 ha2 => ?_)
  refine r_callV (rest := []) (st2 := [.int a2.1]) C (mX5_finds (eL E) C.z M N (-1000000001) a2 ha2) lk_X5_65 (rvM C) (by decide) rfl rfl (Nat.le_of_ble_eq_true rfl) dX5_sheet_32 rfl ?_
  exact r_iret C dX5_sheet_35 rfl
noncomputable def fX5_sheet_86   : Nat → Mi → Ml → Int32 → Int32 → Option (Int32 × Mi × Ml)
  | 0 => fun _ _ _ _ => none
  | n + 1 => fun M N x1 x4 => (if 40 ≤ x4 then (if inb x1 4 then (some ((M 8 (ix x1)), M, N)) else none) else (if inb ((40 * x1) + x4) 160 then ((fX5_sheet_86 n) M (wN N 9 (ix ((40 * x1) + x4)) 0) x1 (x4 + 1)) else none))
theorem bX5_sheet_86 {Z : Zt} {E : Ec}  (C : Ok 2 Z E cX5_sheet 5 RX5 (some .int) 2)    : ∀ (n : Nat) (M : Mi) (N : Ml) (x1 : Int32) (x4 : Int32), GT Z E 5 finX5_sheet 86 [(0, .ref (zA Z 6 0)), (1, .int x1), (4, .int x4)] [] M N (fX5_sheet_86 n M N x1 x4) := by
  intro n
  induction n with
  | zero => intro M N x1 x4; exact r_none
  | succ n ih =>
    intro M N x1 x4
    rw [fX5_sheet_86]
    refine r_iload C dX5_sheet_86 2 rfl ?_
    refine r_bipush (v := 40) C dX5_sheet_88 (by decide) ?_
    refine r_ic_ge (tgt := 112) C dX5_sheet_90 (by decide) (fun c9 => ?_) (fun c9 => ?_)
    · refine r_aload_n C dX5_sheet_112 0 0 rfl rfl ?_
      refine gf_X5_31 C dX5_sheet_113 ?_
      refine r_iload_n C dX5_sheet_116 1 1 rfl rfl ?_
      refine r_guard (fun h10 => ?_)
      refine ald_M (v := (M 8 (ix x1))) C mI_8 h10 rfl dX5_sheet_117 ?_
      exact r_iret C dX5_sheet_118 rfl
    · refine r_aload_n C dX5_sheet_93 0 0 rfl rfl ?_
      refine gf_X5_34 C dX5_sheet_94 ?_
      refine r_bipush (v := 40) C dX5_sheet_97 (by decide) ?_
      refine r_iload_n C dX5_sheet_99 1 1 rfl rfl ?_
      refine r_imul C dX5_sheet_100 ?_
      refine r_iload C dX5_sheet_101 2 rfl ?_
      refine r_iadd C dX5_sheet_103 ?_
      refine r_lconst (v := 0) C dX5_sheet_104 (by decide) ?_
      refine r_guard (fun h11 => ?_)
      refine ast_ML (N' := (wN N 9 (ix ((40 * x1) + x4)) 0)) C mL_9 h11 rfl dX5_sheet_105 ?_
      refine r_iinc (v := (x4 + 1)) (lv' := [(4, .int (x4 + 1)), (0, .ref (zA Z 6 0)), (1, .int x1)]) C dX5_sheet_106 2 rfl rfl (by decide) rfl ?_
      refine r_goto (tgt := 86) C dX5_sheet_109 (by decide) ?_
      refine r_lv [1, 2, 0] (lv' := [(0, .ref (zA Z 6 0)), (1, .int x1), (4, .int (x4 + 1))]) rfl ?_
      exact ih M (wN N 9 (ix ((40 * x1) + x4)) 0) x1 (x4 + 1)
noncomputable def fX5_sheet_36   (M : Mi) (N : Ml) (x1 : Int32) (x2 : Int32) (x3 : Int32) : Option (Int32 × Mi × Ml) := (if 0 ≤ x3 then (if x3 ≤ 40 then (if inb x1 4 then (fX5_sheet_86 fu (wM (wM M 7 (ix x1) x2) 8 (ix x1) (if x2 = 0 then 0 else x3 : Int32)) N x1 0) else none) else (Option.bind (fX5_finds M (-1000000001)) (fun a12 => (some (a12.1, (a12.2), N))))) else (Option.bind (fX5_finds M (-1000000007)) (fun a13 => (some (a13.1, (a13.2), N)))))
theorem bX5_sheet_36 {Z : Zt} {E : Ec}  (C : Ok 2 Z E cX5_sheet 5 RX5 (some .int) 2)    (M : Mi) (N : Ml) (x1 : Int32) (x2 : Int32) (x3 : Int32)  : GT Z E 5 finX5_sheet 36 [(0, .ref (zA Z 6 0)), (1, .int x1), (2, .int x2), (3, .int x3)] [] M N (fX5_sheet_36 M N x1 x2 x3) := by
  unfold fX5_sheet_36
  refine r_iload_n C dX5_sheet_36 3 3 rfl rfl ?_
  refine r_if_ge (tgt := 48) C dX5_sheet_37 (by decide) (fun c4 => ?_) (fun c4 => ?_)
  · refine r_iload_n C dX5_sheet_48 3 3 rfl rfl ?_
    refine r_bipush (v := 40) C dX5_sheet_49 (by decide) ?_
    refine r_ic_le (tgt := 61) C dX5_sheet_51 (by decide) (fun c5 => ?_) (fun c5 => ?_)
    · refine r_aload_n C dX5_sheet_61 0 0 rfl rfl ?_
      refine gf_X5_28 C dX5_sheet_62 ?_
      refine r_iload_n C dX5_sheet_65 1 1 rfl rfl ?_
      refine r_iload_n C dX5_sheet_66 2 2 rfl rfl ?_
      refine r_guard (fun h6 => ?_)
      refine ast_M (M' := (wM M 7 (ix x1) x2)) C mI_7 h6 rfl dX5_sheet_67 ?_
      refine r_aload_n C dX5_sheet_68 0 0 rfl rfl ?_
      refine gf_X5_31 C dX5_sheet_69 ?_
      refine r_iload_n C dX5_sheet_72 1 1 rfl rfl ?_
      refine r_iload_n C dX5_sheet_73 2 2 rfl rfl ?_
      refine r_sel (tj := 82) (sj := [.int (if x2 = 0 then 0 else x3 : Int32), .int x1, .ref (zA Z 8 0)]) ?_ (fun k8 => ?_)
      · refine ast_M (M' := (wM (wM M 7 (ix x1) x2) 8 (ix x1) (if x2 = 0 then 0 else x3 : Int32))) C mI_8 h6 rfl dX5_sheet_82 ?_
        refine r_iconst (v := 0) C dX5_sheet_83 (by decide) ?_
        refine r_istore (lv' := [(4, .int 0), (0, .ref (zA Z 6 0)), (1, .int x1), (2, .int x2), (3, .int x3)]) C dX5_sheet_84 (by decide) rfl ?_
        refine r_lv [1, 2, 0] (lv' := [(0, .ref (zA Z 6 0)), (1, .int x1), (4, .int 0)]) rfl ?_
        exact bX5_sheet_86 C fu (wM (wM M 7 (ix x1) x2) 8 (ix x1) (if x2 = 0 then 0 else x3 : Int32)) N x1 0
      · refine r_same (P := x2 = 0) ?_
        refine r_if_ne (tgt := 81) C dX5_sheet_74 (by decide) (fun c7 => ?_) (fun c7 => ?_)
        · refine r_iload_n C dX5_sheet_81 3 3 rfl rfl ?_
          exact r_stk (if_neg c7) k8
        · refine r_iconst (v := 0) C dX5_sheet_77 (by decide) ?_
          refine r_goto (tgt := 82) C dX5_sheet_78 (by decide) ?_
          exact r_stk (if_pos c7) k8
    · refine r_aload_n C dX5_sheet_54 0 0 rfl rfl ?_
      refine r_ldc (v := (-1000000001)) C dX5_sheet_55 wd_859 ?_
      refine r_bind (fun a12 ha12 => ?_)
      refine r_callV (rest := []) (st2 := [.int a12.1]) C (mX5_finds (eL E) C.z M N (-1000000001) a12 ha12) lk_X5_65 (rvM C) (by decide) rfl rfl (Nat.le_of_ble_eq_true rfl) dX5_sheet_57 rfl ?_
      exact r_iret C dX5_sheet_60 rfl
  · refine r_aload_n C dX5_sheet_40 0 0 rfl rfl ?_
    refine r_ldcw (v := (-1000000007)) C dX5_sheet_41 wd_1237 ?_
    refine r_bind (fun a13 ha13 => ?_)
    refine r_callV (rest := []) (st2 := [.int a13.1]) C (mX5_finds (eL E) C.z M N (-1000000007) a13 ha13) lk_X5_65 (rvM C) (by decide) rfl rfl (Nat.le_of_ble_eq_true rfl) dX5_sheet_44 rfl ?_
    exact r_iret C dX5_sheet_47 rfl
noncomputable def fX5_sheet   (M : Mi) (N : Ml) (x1 : Int32) (x2 : Int32) (x3 : Int32) : Option (Int32 × Mi × Ml) := (if (fX5_isRow x1) = 0 then (fX5_sheet_29 M N) else (if x2 = 0 then (fX5_sheet_36 M N x1 x2 x3) else (if x2 = 8 then (fX5_sheet_36 M N x1 x2 x3) else (if x2 = 16 then (fX5_sheet_36 M N x1 x2 x3) else (if x2 = 64 then (fX5_sheet_36 M N x1 x2 x3) else (fX5_sheet_29 M N))))))
theorem bX5_sheet {Z : Zt} {E : Ec}  (C : Ok 2 Z E cX5_sheet 5 RX5 (some .int) 2)    (M : Mi) (N : Ml) (x1 : Int32) (x2 : Int32) (x3 : Int32)  : GT Z E 5 finX5_sheet 0 [(0, .ref (zA Z 6 0)), (1, .int x1), (2, .int x2), (3, .int x3)] [] M N (fX5_sheet M N x1 x2 x3) := by
  unfold fX5_sheet
  refine r_iload_n C dX5_sheet_0 1 1 rfl rfl ?_
  refine r_callS (rest := []) (st2 := [.int (fX5_isRow x1)]) C (mX5_isRow (eL E) C.z _ _ x1) lk_X5_323 (by decide) rfl rfl (Nat.le_of_ble_eq_true rfl) dX5_sheet_1 rfl ?_
  refine r_if_eq (tgt := 29) C dX5_sheet_4 (by decide) (fun c1 => ?_) (fun c1 => ?_)
  · refine r_lv [0] (lv' := [(0, .ref (zA Z 6 0))]) rfl ?_
    exact bX5_sheet_29 C M N
  · refine r_iload_n C dX5_sheet_7 2 2 rfl rfl ?_
    refine r_if_eq (tgt := 36) C dX5_sheet_8 (by decide) (fun c3 => ?_) (fun c3 => ?_)
    · exact bX5_sheet_36 C M N x1 x2 x3
    · refine r_iload_n C dX5_sheet_11 2 2 rfl rfl ?_
      refine r_bipush (v := 8) C dX5_sheet_12 (by decide) ?_
      refine r_ic_eq (tgt := 36) C dX5_sheet_14 (by decide) (fun c14 => ?_) (fun c14 => ?_)
      · exact bX5_sheet_36 C M N x1 x2 x3
      · refine r_iload_n C dX5_sheet_17 2 2 rfl rfl ?_
        refine r_bipush (v := 16) C dX5_sheet_18 (by decide) ?_
        refine r_ic_eq (tgt := 36) C dX5_sheet_20 (by decide) (fun c15 => ?_) (fun c15 => ?_)
        · exact bX5_sheet_36 C M N x1 x2 x3
        · refine r_iload_n C dX5_sheet_23 2 2 rfl rfl ?_
          refine r_bipush (v := 64) C dX5_sheet_24 (by decide) ?_
          refine r_ic_eq (tgt := 36) C dX5_sheet_26 (by decide) (fun c16 => ?_) (fun c16 => ?_)
          · exact bX5_sheet_36 C M N x1 x2 x3
          · refine r_lv [0] (lv' := [(0, .ref (zA Z 6 0))]) rfl ?_
            exact bX5_sheet_29 C M N
theorem mX5_sheet (l : Launch) {Z : Zt} (hZ : Zok 2 Z) (M : Mi) (N : Ml) (x1 : Int32) (x2 : Int32) (x3 : Int32) (b : Int32 × Mi × Ml) (hb : fX5_sheet M N x1 x2 x3 = some b) : Ct 2 Z l yX5_sheet cX5_sheet 5 (some .int) 2 [.ref (zA Z 6 0), .int x1, .int x2, .int x3] M N (some (Value.int b.1), b.2.1, b.2.2) :=
  metG (fin := finX5_sheet) (by decide) (Nat.le_of_ble_eq_true rfl) (fun E _ C => bX5_sheet C M N x1 x2 x3) hb
theorem dX5_narrowed_0 : decode cX5_narrowed 0 = .ok (.iload_n 0, 1) := by decide +kernel
theorem dX5_narrowed_1 : decode cX5_narrowed 1 = .ok (.bipush 8, 2) := by decide +kernel
theorem dX5_narrowed_3 : decode cX5_narrowed 3 = .ok (.if_icmp .ne 10, 3) := by decide +kernel
theorem dX5_narrowed_6 : decode cX5_narrowed 6 = .ok (.lload_n 1, 1) := by decide +kernel
theorem dX5_narrowed_7 : decode cX5_narrowed 7 = .ok (.l2i, 1) := by decide +kernel
theorem dX5_narrowed_8 : decode cX5_narrowed 8 = .ok (.i2b, 1) := by decide +kernel
theorem dX5_narrowed_9 : decode cX5_narrowed 9 = .ok (.i2l, 1) := by decide +kernel
theorem dX5_narrowed_10 : decode cX5_narrowed 10 = .ok (.goto 17, 3) := by decide +kernel
theorem dX5_narrowed_13 : decode cX5_narrowed 13 = .ok (.iload_n 0, 1) := by decide +kernel
theorem dX5_narrowed_14 : decode cX5_narrowed 14 = .ok (.bipush 16, 2) := by decide +kernel
theorem dX5_narrowed_16 : decode cX5_narrowed 16 = .ok (.if_icmp .ne 10, 3) := by decide +kernel
theorem dX5_narrowed_19 : decode cX5_narrowed 19 = .ok (.lload_n 1, 1) := by decide +kernel
theorem dX5_narrowed_20 : decode cX5_narrowed 20 = .ok (.l2i, 1) := by decide +kernel
theorem dX5_narrowed_21 : decode cX5_narrowed 21 = .ok (.i2s, 1) := by decide +kernel
theorem dX5_narrowed_22 : decode cX5_narrowed 22 = .ok (.i2l, 1) := by decide +kernel
theorem dX5_narrowed_23 : decode cX5_narrowed 23 = .ok (.goto 4, 3) := by decide +kernel
theorem dX5_narrowed_26 : decode cX5_narrowed 26 = .ok (.lload_n 1, 1) := by decide +kernel
theorem dX5_narrowed_27 : decode cX5_narrowed 27 = .ok (.lreturn, 1) := by decide +kernel
def finX5_narrowed (M : Mi) (N : Ml) : Int64 → Option Value × Mi × Ml := fun b => (some (Value.long b), M, N)
noncomputable def fX5_narrowed   (x0 : Int32) (x1 : Int64) : Int64 := (if x0 = 8 then (Int32.toInt64 (Int8.toInt32 (Int32.toInt8 (Int64.toInt32 x1)))) else (if x0 = 16 then (Int32.toInt64 (Int16.toInt32 (Int32.toInt16 (Int64.toInt32 x1)))) else x1))
theorem bX5_narrowed {Z : Zt} {E : Ec} {M : Mi} {N : Ml} (C : Ok 2 Z E cX5_narrowed 3 RX5 (some .long) 0)    (x0 : Int32) (x1 : Int64)  : GT Z E 3 (finX5_narrowed M N) 0 [(0, .int x0), (1, .long x1)] [] M N (some (fX5_narrowed x0 x1)) := by
  unfold fX5_narrowed
  refine r_iload_n C dX5_narrowed_0 0 0 rfl rfl ?_
  refine r_bipush (v := 8) C dX5_narrowed_1 (by decide) ?_
  refine r_st ?_
  refine r_ic_ne (tgt := 13) C dX5_narrowed_3 (by decide) (fun c1 => ?_) (fun c1 => ?_)
  · refine r_iload_n C dX5_narrowed_13 0 0 rfl rfl ?_
    refine r_bipush (v := 16) C dX5_narrowed_14 (by decide) ?_
    refine r_st ?_
    refine r_ic_ne (tgt := 26) C dX5_narrowed_16 (by decide) (fun c2 => ?_) (fun c2 => ?_)
    · refine r_lload_n C dX5_narrowed_26 1 1 rfl rfl ?_
      exact r_lret C dX5_narrowed_27 rfl
    · refine r_lload_n C dX5_narrowed_19 1 1 rfl rfl ?_
      refine r_l2i C dX5_narrowed_20 ?_
      refine r_i2s C dX5_narrowed_21 ?_
      refine r_i2l C dX5_narrowed_22 ?_
      refine r_goto (tgt := 27) C dX5_narrowed_23 (by decide) ?_
      exact r_lret C dX5_narrowed_27 rfl
  · refine r_lload_n C dX5_narrowed_6 1 1 rfl rfl ?_
    refine r_l2i C dX5_narrowed_7 ?_
    refine r_i2b C dX5_narrowed_8 ?_
    refine r_i2l C dX5_narrowed_9 ?_
    refine r_goto (tgt := 27) C dX5_narrowed_10 (by decide) ?_
    exact r_lret C dX5_narrowed_27 rfl
theorem mX5_narrowed (l : Launch) {Z : Zt} (hZ : Zok 2 Z) (M : Mi) (N : Ml) (x0 : Int32) (x1 : Int64) : Ct 2 Z l yX5_narrowed cX5_narrowed 3 (some .long) 0 [.int x0, .long x1] M N (some (Value.long (fX5_narrowed x0 x1)), M, N) :=
  metG (fin := (finX5_narrowed M N)) (by decide) (Nat.le_of_ble_eq_true rfl) (fun E _ C => bX5_narrowed C x0 x1) rfl
theorem dX5_wrong_0 : decode cX5_wrong 0 = .ok (.iload_n 1, 1) := by decide +kernel
theorem dX5_wrong_1 : decode cX5_wrong 1 = .ok (.invokestatic 323, 3) := by decide +kernel
theorem dX5_wrong_4 : decode cX5_wrong 4 = .ok (.ifCond .ne 8, 3) := by decide +kernel
theorem dX5_wrong_7 : decode cX5_wrong 7 = .ok (.ldc 41, 2) := by decide +kernel
theorem dX5_wrong_9 : decode cX5_wrong 9 = .ok (.goto 19, 3) := by decide +kernel
theorem dX5_wrong_12 : decode cX5_wrong 12 = .ok (.aload_n 0, 1) := by decide +kernel
theorem dX5_wrong_13 : decode cX5_wrong 13 = .ok (.getfield 28, 3) := by decide +kernel
theorem dX5_wrong_16 : decode cX5_wrong 16 = .ok (.iload_n 1, 1) := by decide +kernel
theorem dX5_wrong_17 : decode cX5_wrong 17 = .ok (.iaload, 1) := by decide +kernel
theorem dX5_wrong_18 : decode cX5_wrong 18 = .ok (.ifCond .ne 9, 3) := by decide +kernel
theorem dX5_wrong_21 : decode cX5_wrong 21 = .ok (.ldc_w 327, 3) := by decide +kernel
theorem dX5_wrong_24 : decode cX5_wrong 24 = .ok (.goto 4, 3) := by decide +kernel
theorem dX5_wrong_27 : decode cX5_wrong 27 = .ok (.iconst 0, 1) := by decide +kernel
theorem dX5_wrong_28 : decode cX5_wrong 28 = .ok (.ireturn, 1) := by decide +kernel
def finX5_wrong (M : Mi) (N : Ml) : Int32 → Option Value × Mi × Ml := fun b => (some (Value.int b), M, N)
noncomputable def fX5_wrong (M : Mi)  (x1 : Int32) : Option (Int32) := (if (fX5_isRow x1) = 0 then (some (-1000000001)) else (if inb x1 4 then (if (M 7 (ix x1)) = 0 then (some (-1000000006)) else (some 0)) else none))
theorem bX5_wrong {Z : Zt} {E : Ec} {M : Mi} {N : Ml} (C : Ok 2 Z E cX5_wrong 2 RX5 (some .int) 2)    (x1 : Int32)  : GT Z E 2 (finX5_wrong M N) 0 [(0, .ref (zA Z 6 0)), (1, .int x1)] [] M N (fX5_wrong M x1) := by
  unfold fX5_wrong
  refine r_iload_n C dX5_wrong_0 1 1 rfl rfl ?_
  refine r_callS (rest := []) (st2 := [.int (fX5_isRow x1)]) C (mX5_isRow (eL E) C.z _ _ x1) lk_X5_323 (by decide) rfl rfl (Nat.le_of_ble_eq_true rfl) dX5_wrong_1 rfl ?_
  refine r_if_ne (tgt := 12) C dX5_wrong_4 (by decide) (fun c1 => ?_) (fun c1 => ?_)
  · refine r_aload_n C dX5_wrong_12 0 0 rfl rfl ?_
    refine gf_X5_28 C dX5_wrong_13 ?_
    refine r_iload_n C dX5_wrong_16 1 1 rfl rfl ?_
    refine r_guard (fun h2 => ?_)
    refine ald_M (v := (M 7 (ix x1))) C mI_7 h2 rfl dX5_wrong_17 ?_
    refine r_if_ne (tgt := 27) C dX5_wrong_18 (by decide) (fun c3 => ?_) (fun c3 => ?_)
    · refine r_iconst (v := 0) C dX5_wrong_27 (by decide) ?_
      exact r_iret C dX5_wrong_28 rfl
    · refine r_ldcw (v := (-1000000006)) C dX5_wrong_21 wd_1246 ?_
      refine r_goto (tgt := 28) C dX5_wrong_24 (by decide) ?_
      exact r_iret C dX5_wrong_28 rfl
  · refine r_ldc (v := (-1000000001)) C dX5_wrong_7 wd_859 ?_
    refine r_goto (tgt := 28) C dX5_wrong_9 (by decide) ?_
    exact r_iret C dX5_wrong_28 rfl
theorem mX5_wrong (l : Launch) {Z : Zt} (hZ : Zok 2 Z) (M : Mi) (N : Ml) (x1 : Int32) (b : Int32) (hb : fX5_wrong M x1 = some b) : Ct 2 Z l yX5_wrong cX5_wrong 2 (some .int) 2 [.ref (zA Z 6 0), .int x1] M N (some (Value.int b), M, N) :=
  metG (fin := (finX5_wrong M N)) (by decide) (Nat.le_of_ble_eq_true rfl) (fun E _ C => bX5_wrong C x1) hb
theorem dX5_write_0 : decode cX5_write 0 = .ok (.aload_n 0, 1) := by decide +kernel
theorem dX5_write_1 : decode cX5_write 1 = .ok (.iload_n 1, 1) := by decide +kernel
theorem dX5_write_2 : decode cX5_write 2 = .ok (.invokevirtual 328, 3) := by decide +kernel
theorem dX5_write_5 : decode cX5_write 5 = .ok (.istore 5, 2) := by decide +kernel
theorem dX5_write_7 : decode cX5_write 7 = .ok (.iload 5, 2) := by decide +kernel
theorem dX5_write_9 : decode cX5_write 9 = .ok (.ifCond .eq 11, 3) := by decide +kernel
theorem dX5_write_12 : decode cX5_write 12 = .ok (.aload_n 0, 1) := by decide +kernel
theorem dX5_write_13 : decode cX5_write 13 = .ok (.iload 5, 2) := by decide +kernel
theorem dX5_write_15 : decode cX5_write 15 = .ok (.invokevirtual 65, 3) := by decide +kernel
theorem dX5_write_18 : decode cX5_write 18 = .ok (.i2l, 1) := by decide +kernel
theorem dX5_write_19 : decode cX5_write 19 = .ok (.lreturn, 1) := by decide +kernel
theorem dX5_write_20 : decode cX5_write 20 = .ok (.iload_n 2, 1) := by decide +kernel
theorem dX5_write_21 : decode cX5_write 21 = .ok (.i2l, 1) := by decide +kernel
theorem dX5_write_22 : decode cX5_write 22 = .ok (.lconst 0, 1) := by decide +kernel
theorem dX5_write_23 : decode cX5_write 23 = .ok (.aload_n 0, 1) := by decide +kernel
theorem dX5_write_24 : decode cX5_write 24 = .ok (.getfield 31, 3) := by decide +kernel
theorem dX5_write_27 : decode cX5_write 27 = .ok (.iload_n 1, 1) := by decide +kernel
theorem dX5_write_28 : decode cX5_write 28 = .ok (.iaload, 1) := by decide +kernel
theorem dX5_write_29 : decode cX5_write 29 = .ok (.iconst 1, 1) := by decide +kernel
theorem dX5_write_30 : decode cX5_write 30 = .ok (.isub, 1) := by decide +kernel
theorem dX5_write_31 : decode cX5_write 31 = .ok (.i2l, 1) := by decide +kernel
theorem dX5_write_32 : decode cX5_write 32 = .ok (.invokestatic 44, 3) := by decide +kernel
theorem dX5_write_35 : decode cX5_write 35 = .ok (.ifCond .ne 11, 3) := by decide +kernel
theorem dX5_write_38 : decode cX5_write 38 = .ok (.aload_n 0, 1) := by decide +kernel
theorem dX5_write_39 : decode cX5_write 39 = .ok (.ldc 41, 2) := by decide +kernel
theorem dX5_write_41 : decode cX5_write 41 = .ok (.invokevirtual 65, 3) := by decide +kernel
theorem dX5_write_44 : decode cX5_write 44 = .ok (.i2l, 1) := by decide +kernel
theorem dX5_write_45 : decode cX5_write 45 = .ok (.lreturn, 1) := by decide +kernel
theorem dX5_write_46 : decode cX5_write 46 = .ok (.aload_n 0, 1) := by decide +kernel
theorem dX5_write_47 : decode cX5_write 47 = .ok (.getfield 34, 3) := by decide +kernel
theorem dX5_write_50 : decode cX5_write 50 = .ok (.bipush 40, 2) := by decide +kernel
theorem dX5_write_52 : decode cX5_write 52 = .ok (.iload_n 1, 1) := by decide +kernel
theorem dX5_write_53 : decode cX5_write 53 = .ok (.imul, 1) := by decide +kernel
theorem dX5_write_54 : decode cX5_write 54 = .ok (.iload_n 2, 1) := by decide +kernel
theorem dX5_write_55 : decode cX5_write 55 = .ok (.iadd, 1) := by decide +kernel
theorem dX5_write_56 : decode cX5_write 56 = .ok (.laload, 1) := by decide +kernel
theorem dX5_write_57 : decode cX5_write 57 = .ok (.lstore 6, 2) := by decide +kernel
theorem dX5_write_59 : decode cX5_write 59 = .ok (.aload_n 0, 1) := by decide +kernel
theorem dX5_write_60 : decode cX5_write 60 = .ok (.getfield 34, 3) := by decide +kernel
theorem dX5_write_63 : decode cX5_write 63 = .ok (.bipush 40, 2) := by decide +kernel
theorem dX5_write_65 : decode cX5_write 65 = .ok (.iload_n 1, 1) := by decide +kernel
theorem dX5_write_66 : decode cX5_write 66 = .ok (.imul, 1) := by decide +kernel
theorem dX5_write_67 : decode cX5_write 67 = .ok (.iload_n 2, 1) := by decide +kernel
theorem dX5_write_68 : decode cX5_write 68 = .ok (.iadd, 1) := by decide +kernel
theorem dX5_write_69 : decode cX5_write 69 = .ok (.aload_n 0, 1) := by decide +kernel
theorem dX5_write_70 : decode cX5_write 70 = .ok (.getfield 28, 3) := by decide +kernel
theorem dX5_write_73 : decode cX5_write 73 = .ok (.iload_n 1, 1) := by decide +kernel
theorem dX5_write_74 : decode cX5_write 74 = .ok (.iaload, 1) := by decide +kernel
theorem dX5_write_75 : decode cX5_write 75 = .ok (.lload_n 3, 1) := by decide +kernel
theorem dX5_write_76 : decode cX5_write 76 = .ok (.invokestatic 331, 3) := by decide +kernel
theorem dX5_write_79 : decode cX5_write 79 = .ok (.lastore, 1) := by decide +kernel
theorem dX5_write_80 : decode cX5_write 80 = .ok (.lload 6, 2) := by decide +kernel
theorem dX5_write_82 : decode cX5_write 82 = .ok (.lreturn, 1) := by decide +kernel
def finX5_write  : Int64 × Mi × Ml → Option Value × Mi × Ml := fun b => (some (Value.long b.1), b.2.1, b.2.2)
noncomputable def fX5_write   (M : Mi) (N : Ml) (x1 : Int32) (x2 : Int32) (x3 : Int64) : Option (Int64 × Mi × Ml) := (Option.bind (fX5_wrong M x1) (fun a1 => (if a1 = 0 then (if inb x1 4 then (if (fX5_in (Int32.toInt64 x2) 0 (Int32.toInt64 ((M 8 (ix x1)) - 1))) = 0 then (Option.bind (fX5_finds M (-1000000001)) (fun a6 => (some ((Int32.toInt64 a6.1), (a6.2), N)))) else (if inb ((40 * x1) + x2) 160 then (some ((N 9 (ix ((40 * x1) + x2))), M, (wN N 9 (ix ((40 * x1) + x2)) (fX5_narrowed (M 7 (ix x1)) x3)))) else none)) else none) else (Option.bind (fX5_finds M a1) (fun a7 => (some ((Int32.toInt64 a7.1), (a7.2), N)))))))
theorem bX5_write {Z : Zt} {E : Ec}  (C : Ok 2 Z E cX5_write 8 RX5 (some .long) 3)    (M : Mi) (N : Ml) (x1 : Int32) (x2 : Int32) (x3 : Int64)  : GT Z E 8 finX5_write 0 [(0, .ref (zA Z 6 0)), (1, .int x1), (2, .int x2), (3, .long x3)] [] M N (fX5_write M N x1 x2 x3) := by
  unfold fX5_write
  refine r_aload_n C dX5_write_0 0 0 rfl rfl ?_
  refine r_iload_n C dX5_write_1 1 1 rfl rfl ?_
  refine r_bind (fun a1 ha1 => ?_)
  refine r_callV (rest := []) (st2 := [.int a1]) C (mX5_wrong (eL E) C.z M N x1 a1 ha1) lk_X5_328 (rvM C) (by decide) rfl rfl (Nat.le_of_ble_eq_true rfl) dX5_write_2 rfl ?_
  refine r_istore (lv' := [(5, .int a1), (0, .ref (zA Z 6 0)), (1, .int x1), (2, .int x2), (3, .long x3)]) C dX5_write_5 (by decide) rfl ?_
  refine r_iload C dX5_write_7 0 rfl ?_
  refine r_if_eq (tgt := 20) C dX5_write_9 (by decide) (fun c2 => ?_) (fun c2 => ?_)
  · refine r_iload_n C dX5_write_20 2 3 rfl rfl ?_
    refine r_i2l C dX5_write_21 ?_
    refine r_lconst (v := 0) C dX5_write_22 (by decide) ?_
    refine r_aload_n C dX5_write_23 0 1 rfl rfl ?_
    refine gf_X5_31 C dX5_write_24 ?_
    refine r_iload_n C dX5_write_27 1 2 rfl rfl ?_
    refine r_guard (fun h3 => ?_)
    refine ald_M (v := (M 8 (ix x1))) C mI_8 h3 rfl dX5_write_28 ?_
    refine r_iconst (v := 1) C dX5_write_29 (by decide) ?_
    refine r_isub C dX5_write_30 ?_
    refine r_i2l C dX5_write_31 ?_
    refine r_callS (rest := []) (st2 := [.int (fX5_in (Int32.toInt64 x2) 0 (Int32.toInt64 ((M 8 (ix x1)) - 1)))]) C (mX5_in (eL E) C.z _ _ (Int32.toInt64 x2) 0 (Int32.toInt64 ((M 8 (ix x1)) - 1))) lk_X5_44 (by decide) rfl rfl (Nat.le_of_ble_eq_true rfl) dX5_write_32 rfl ?_
    refine r_if_ne (tgt := 46) C dX5_write_35 (by decide) (fun c4 => ?_) (fun c4 => ?_)
    · refine r_aload_n C dX5_write_46 0 1 rfl rfl ?_
      refine gf_X5_34 C dX5_write_47 ?_
      refine r_bipush (v := 40) C dX5_write_50 (by decide) ?_
      refine r_iload_n C dX5_write_52 1 2 rfl rfl ?_
      refine r_imul C dX5_write_53 ?_
      refine r_iload_n C dX5_write_54 2 3 rfl rfl ?_
      refine r_iadd C dX5_write_55 ?_
      refine r_guard (fun h5 => ?_)
      refine ald_ML (v := (N 9 (ix ((40 * x1) + x2)))) C mL_9 h5 rfl dX5_write_56 ?_
      refine r_lstore (lv' := [(6, .long (N 9 (ix ((40 * x1) + x2)))), (5, .int a1), (0, .ref (zA Z 6 0)), (1, .int x1), (2, .int x2), (3, .long x3)]) C dX5_write_57 (by decide) rfl ?_
      refine r_aload_n C dX5_write_59 0 2 rfl rfl ?_
      refine gf_X5_34 C dX5_write_60 ?_
      refine r_bipush (v := 40) C dX5_write_63 (by decide) ?_
      refine r_iload_n C dX5_write_65 1 3 rfl rfl ?_
      refine r_imul C dX5_write_66 ?_
      refine r_iload_n C dX5_write_67 2 4 rfl rfl ?_
      refine r_iadd C dX5_write_68 ?_
      refine r_aload_n C dX5_write_69 0 2 rfl rfl ?_
      refine gf_X5_28 C dX5_write_70 ?_
      refine r_iload_n C dX5_write_73 1 3 rfl rfl ?_
      refine ald_M (v := (M 7 (ix x1))) C mI_7 h3 rfl dX5_write_74 ?_
      refine r_lload_n C dX5_write_75 3 5 rfl rfl ?_
      refine r_callS (rest := [.int ((40 * x1) + x2), .ref (zA Z 9 0)]) (st2 := [.long (fX5_narrowed (M 7 (ix x1)) x3), .int ((40 * x1) + x2), .ref (zA Z 9 0)]) C (mX5_narrowed (eL E) C.z _ _ (M 7 (ix x1)) x3) lk_X5_331 (by decide) rfl rfl (Nat.le_of_ble_eq_true rfl) dX5_write_76 rfl ?_
      refine ast_ML (N' := (wN N 9 (ix ((40 * x1) + x2)) (fX5_narrowed (M 7 (ix x1)) x3))) C mL_9 h5 rfl dX5_write_79 ?_
      refine r_lload C dX5_write_80 0 rfl ?_
      exact r_lret C dX5_write_82 rfl
    · refine r_aload_n C dX5_write_38 0 1 rfl rfl ?_
      refine r_ldc (v := (-1000000001)) C dX5_write_39 wd_859 ?_
      refine r_bind (fun a6 ha6 => ?_)
      refine r_callV (rest := []) (st2 := [.int a6.1]) C (mX5_finds (eL E) C.z M N (-1000000001) a6 ha6) lk_X5_65 (rvM C) (by decide) rfl rfl (Nat.le_of_ble_eq_true rfl) dX5_write_41 rfl ?_
      refine r_i2l C dX5_write_44 ?_
      exact r_lret C dX5_write_45 rfl
  · refine r_aload_n C dX5_write_12 0 1 rfl rfl ?_
    refine r_iload C dX5_write_13 0 rfl ?_
    refine r_bind (fun a7 ha7 => ?_)
    refine r_callV (rest := []) (st2 := [.int a7.1]) C (mX5_finds (eL E) C.z M N a1 a7 ha7) lk_X5_65 (rvM C) (by decide) rfl rfl (Nat.le_of_ble_eq_true rfl) dX5_write_15 rfl ?_
    refine r_i2l C dX5_write_18 ?_
    exact r_lret C dX5_write_19 rfl
theorem mX5_write (l : Launch) {Z : Zt} (hZ : Zok 2 Z) (M : Mi) (N : Ml) (x1 : Int32) (x2 : Int32) (x3 : Int64) (b : Int64 × Mi × Ml) (hb : fX5_write M N x1 x2 x3 = some b) : Ct 2 Z l yX5_write cX5_write 8 (some .long) 3 [.ref (zA Z 6 0), .int x1, .int x2, .long x3] M N (some (Value.long b.1), b.2.1, b.2.2) :=
  metG (fin := finX5_write) (by decide) (Nat.le_of_ble_eq_true rfl) (fun E _ C => bX5_write C M N x1 x2 x3) hb
theorem dX5_copy_0 : decode cX5_copy 0 = .ok (.iload_n 1, 1) := by decide +kernel
theorem dX5_copy_1 : decode cX5_copy 1 = .ok (.invokestatic 323, 3) := by decide +kernel
theorem dX5_copy_4 : decode cX5_copy 4 = .ok (.ifCond .eq 10, 3) := by decide +kernel
theorem dX5_copy_7 : decode cX5_copy 7 = .ok (.iload_n 3, 1) := by decide +kernel
theorem dX5_copy_8 : decode cX5_copy 8 = .ok (.invokestatic 323, 3) := by decide +kernel
theorem dX5_copy_11 : decode cX5_copy 11 = .ok (.ifCond .ne 10, 3) := by decide +kernel
theorem dX5_copy_14 : decode cX5_copy 14 = .ok (.aload_n 0, 1) := by decide +kernel
theorem dX5_copy_15 : decode cX5_copy 15 = .ok (.ldc 41, 2) := by decide +kernel
theorem dX5_copy_17 : decode cX5_copy 17 = .ok (.invokevirtual 65, 3) := by decide +kernel
theorem dX5_copy_20 : decode cX5_copy 20 = .ok (.ireturn, 1) := by decide +kernel
theorem dX5_copy_21 : decode cX5_copy 21 = .ok (.aload_n 0, 1) := by decide +kernel
theorem dX5_copy_22 : decode cX5_copy 22 = .ok (.getfield 28, 3) := by decide +kernel
theorem dX5_copy_25 : decode cX5_copy 25 = .ok (.iload_n 1, 1) := by decide +kernel
theorem dX5_copy_26 : decode cX5_copy 26 = .ok (.iaload, 1) := by decide +kernel
theorem dX5_copy_27 : decode cX5_copy 27 = .ok (.ifCond .eq 12, 3) := by decide +kernel
theorem dX5_copy_30 : decode cX5_copy 30 = .ok (.aload_n 0, 1) := by decide +kernel
theorem dX5_copy_31 : decode cX5_copy 31 = .ok (.getfield 28, 3) := by decide +kernel
theorem dX5_copy_34 : decode cX5_copy 34 = .ok (.iload_n 3, 1) := by decide +kernel
theorem dX5_copy_35 : decode cX5_copy 35 = .ok (.iaload, 1) := by decide +kernel
theorem dX5_copy_36 : decode cX5_copy 36 = .ok (.ifCond .ne 11, 3) := by decide +kernel
theorem dX5_copy_39 : decode cX5_copy 39 = .ok (.aload_n 0, 1) := by decide +kernel
theorem dX5_copy_40 : decode cX5_copy 40 = .ok (.ldc_w 327, 3) := by decide +kernel
theorem dX5_copy_43 : decode cX5_copy 43 = .ok (.invokevirtual 65, 3) := by decide +kernel
theorem dX5_copy_46 : decode cX5_copy 46 = .ok (.ireturn, 1) := by decide +kernel
theorem dX5_copy_47 : decode cX5_copy 47 = .ok (.aload_n 0, 1) := by decide +kernel
theorem dX5_copy_48 : decode cX5_copy 48 = .ok (.getfield 28, 3) := by decide +kernel
theorem dX5_copy_51 : decode cX5_copy 51 = .ok (.iload_n 1, 1) := by decide +kernel
theorem dX5_copy_52 : decode cX5_copy 52 = .ok (.iaload, 1) := by decide +kernel
theorem dX5_copy_53 : decode cX5_copy 53 = .ok (.aload_n 0, 1) := by decide +kernel
theorem dX5_copy_54 : decode cX5_copy 54 = .ok (.getfield 28, 3) := by decide +kernel
theorem dX5_copy_57 : decode cX5_copy 57 = .ok (.iload_n 3, 1) := by decide +kernel
theorem dX5_copy_58 : decode cX5_copy 58 = .ok (.iaload, 1) := by decide +kernel
theorem dX5_copy_59 : decode cX5_copy 59 = .ok (.if_icmp .eq 10, 3) := by decide +kernel
theorem dX5_copy_62 : decode cX5_copy 62 = .ok (.aload_n 0, 1) := by decide +kernel
theorem dX5_copy_63 : decode cX5_copy 63 = .ok (.ldc 128, 2) := by decide +kernel
theorem dX5_copy_65 : decode cX5_copy 65 = .ok (.invokevirtual 65, 3) := by decide +kernel
theorem dX5_copy_68 : decode cX5_copy 68 = .ok (.ireturn, 1) := by decide +kernel
theorem dX5_copy_69 : decode cX5_copy 69 = .ok (.iload_n 2, 1) := by decide +kernel
theorem dX5_copy_70 : decode cX5_copy 70 = .ok (.ifCond .lt 40, 3) := by decide +kernel
theorem dX5_copy_73 : decode cX5_copy 73 = .ok (.iload 4, 2) := by decide +kernel
theorem dX5_copy_75 : decode cX5_copy 75 = .ok (.ifCond .lt 35, 3) := by decide +kernel
theorem dX5_copy_78 : decode cX5_copy 78 = .ok (.iload 5, 2) := by decide +kernel
theorem dX5_copy_80 : decode cX5_copy 80 = .ok (.ifCond .lt 30, 3) := by decide +kernel
theorem dX5_copy_83 : decode cX5_copy 83 = .ok (.iload 5, 2) := by decide +kernel
theorem dX5_copy_85 : decode cX5_copy 85 = .ok (.aload_n 0, 1) := by decide +kernel
theorem dX5_copy_86 : decode cX5_copy 86 = .ok (.getfield 31, 3) := by decide +kernel
theorem dX5_copy_89 : decode cX5_copy 89 = .ok (.iload_n 1, 1) := by decide +kernel
theorem dX5_copy_90 : decode cX5_copy 90 = .ok (.iaload, 1) := by decide +kernel
theorem dX5_copy_91 : decode cX5_copy 91 = .ok (.iload_n 2, 1) := by decide +kernel
theorem dX5_copy_92 : decode cX5_copy 92 = .ok (.isub, 1) := by decide +kernel
theorem dX5_copy_93 : decode cX5_copy 93 = .ok (.if_icmp .gt 17, 3) := by decide +kernel
theorem dX5_copy_96 : decode cX5_copy 96 = .ok (.iload 5, 2) := by decide +kernel
theorem dX5_copy_98 : decode cX5_copy 98 = .ok (.aload_n 0, 1) := by decide +kernel
theorem dX5_copy_99 : decode cX5_copy 99 = .ok (.getfield 31, 3) := by decide +kernel
theorem dX5_copy_102 : decode cX5_copy 102 = .ok (.iload_n 3, 1) := by decide +kernel
theorem dX5_copy_103 : decode cX5_copy 103 = .ok (.iaload, 1) := by decide +kernel
theorem dX5_copy_104 : decode cX5_copy 104 = .ok (.iload 4, 2) := by decide +kernel
theorem dX5_copy_106 : decode cX5_copy 106 = .ok (.isub, 1) := by decide +kernel
theorem dX5_copy_107 : decode cX5_copy 107 = .ok (.if_icmp .le 10, 3) := by decide +kernel
theorem dX5_copy_110 : decode cX5_copy 110 = .ok (.aload_n 0, 1) := by decide +kernel
theorem dX5_copy_111 : decode cX5_copy 111 = .ok (.ldc 41, 2) := by decide +kernel
theorem dX5_copy_113 : decode cX5_copy 113 = .ok (.invokevirtual 65, 3) := by decide +kernel
theorem dX5_copy_116 : decode cX5_copy 116 = .ok (.ireturn, 1) := by decide +kernel
theorem dX5_copy_117 : decode cX5_copy 117 = .ok (.iconst 0, 1) := by decide +kernel
theorem dX5_copy_118 : decode cX5_copy 118 = .ok (.istore 6, 2) := by decide +kernel
theorem dX5_copy_120 : decode cX5_copy 120 = .ok (.iload 6, 2) := by decide +kernel
theorem dX5_copy_122 : decode cX5_copy 122 = .ok (.iload 5, 2) := by decide +kernel
theorem dX5_copy_124 : decode cX5_copy 124 = .ok (.if_icmp .ge 30, 3) := by decide +kernel
theorem dX5_copy_127 : decode cX5_copy 127 = .ok (.aload_n 0, 1) := by decide +kernel
theorem dX5_copy_128 : decode cX5_copy 128 = .ok (.getfield 38, 3) := by decide +kernel
theorem dX5_copy_131 : decode cX5_copy 131 = .ok (.iload 6, 2) := by decide +kernel
theorem dX5_copy_133 : decode cX5_copy 133 = .ok (.aload_n 0, 1) := by decide +kernel
theorem dX5_copy_134 : decode cX5_copy 134 = .ok (.getfield 34, 3) := by decide +kernel
theorem dX5_copy_137 : decode cX5_copy 137 = .ok (.bipush 40, 2) := by decide +kernel
theorem dX5_copy_139 : decode cX5_copy 139 = .ok (.iload_n 1, 1) := by decide +kernel
theorem dX5_copy_140 : decode cX5_copy 140 = .ok (.imul, 1) := by decide +kernel
theorem dX5_copy_141 : decode cX5_copy 141 = .ok (.iload_n 2, 1) := by decide +kernel
theorem dX5_copy_142 : decode cX5_copy 142 = .ok (.iadd, 1) := by decide +kernel
theorem dX5_copy_143 : decode cX5_copy 143 = .ok (.iload 6, 2) := by decide +kernel
theorem dX5_copy_145 : decode cX5_copy 145 = .ok (.iadd, 1) := by decide +kernel
theorem dX5_copy_146 : decode cX5_copy 146 = .ok (.laload, 1) := by decide +kernel
theorem dX5_copy_147 : decode cX5_copy 147 = .ok (.lastore, 1) := by decide +kernel
theorem dX5_copy_148 : decode cX5_copy 148 = .ok (.iinc 6 1, 3) := by decide +kernel
theorem dX5_copy_151 : decode cX5_copy 151 = .ok (.goto (-31), 3) := by decide +kernel
theorem dX5_copy_154 : decode cX5_copy 154 = .ok (.iconst 0, 1) := by decide +kernel
theorem dX5_copy_155 : decode cX5_copy 155 = .ok (.istore 6, 2) := by decide +kernel
theorem dX5_copy_157 : decode cX5_copy 157 = .ok (.iload 6, 2) := by decide +kernel
theorem dX5_copy_159 : decode cX5_copy 159 = .ok (.iload 5, 2) := by decide +kernel
theorem dX5_copy_161 : decode cX5_copy 161 = .ok (.if_icmp .ge 31, 3) := by decide +kernel
theorem dX5_copy_164 : decode cX5_copy 164 = .ok (.aload_n 0, 1) := by decide +kernel
theorem dX5_copy_165 : decode cX5_copy 165 = .ok (.getfield 34, 3) := by decide +kernel
theorem dX5_copy_168 : decode cX5_copy 168 = .ok (.bipush 40, 2) := by decide +kernel
theorem dX5_copy_170 : decode cX5_copy 170 = .ok (.iload_n 3, 1) := by decide +kernel
theorem dX5_copy_171 : decode cX5_copy 171 = .ok (.imul, 1) := by decide +kernel
theorem dX5_copy_172 : decode cX5_copy 172 = .ok (.iload 4, 2) := by decide +kernel
theorem dX5_copy_174 : decode cX5_copy 174 = .ok (.iadd, 1) := by decide +kernel
theorem dX5_copy_175 : decode cX5_copy 175 = .ok (.iload 6, 2) := by decide +kernel
theorem dX5_copy_177 : decode cX5_copy 177 = .ok (.iadd, 1) := by decide +kernel
theorem dX5_copy_178 : decode cX5_copy 178 = .ok (.aload_n 0, 1) := by decide +kernel
theorem dX5_copy_179 : decode cX5_copy 179 = .ok (.getfield 38, 3) := by decide +kernel
theorem dX5_copy_182 : decode cX5_copy 182 = .ok (.iload 6, 2) := by decide +kernel
theorem dX5_copy_184 : decode cX5_copy 184 = .ok (.laload, 1) := by decide +kernel
theorem dX5_copy_185 : decode cX5_copy 185 = .ok (.lastore, 1) := by decide +kernel
theorem dX5_copy_186 : decode cX5_copy 186 = .ok (.iinc 6 1, 3) := by decide +kernel
theorem dX5_copy_189 : decode cX5_copy 189 = .ok (.goto (-32), 3) := by decide +kernel
theorem dX5_copy_192 : decode cX5_copy 192 = .ok (.iload 5, 2) := by decide +kernel
theorem dX5_copy_194 : decode cX5_copy 194 = .ok (.ireturn, 1) := by decide +kernel
def finX5_copy  : Int32 × Mi × Ml → Option Value × Mi × Ml := fun b => (some (Value.int b.1), b.2.1, b.2.2)
noncomputable def fX5_copy_14   (M : Mi) (N : Ml) : Option (Int32 × Mi × Ml) := (Option.bind (fX5_finds M (-1000000001)) (fun a2 => (some (a2.1, (a2.2), N))))
theorem bX5_copy_14 {Z : Zt} {E : Ec}  (C : Ok 2 Z E cX5_copy 7 RX5 (some .int) 2)    (M : Mi) (N : Ml)  : GT Z E 7 finX5_copy 14 [(0, .ref (zA Z 6 0))] [] M N (fX5_copy_14 M N) := by
  unfold fX5_copy_14
  refine r_aload_n C dX5_copy_14 0 0 rfl rfl ?_
  refine r_ldc (v := (-1000000001)) C dX5_copy_15 wd_859 ?_
  refine r_bind (fun a2 ha2 => ?_)
  refine r_callV (rest := []) (st2 := [.int a2.1]) C (mX5_finds (eL E) C.z M N (-1000000001) a2 ha2) lk_X5_65 (rvM C) (by decide) rfl rfl (Nat.le_of_ble_eq_true rfl) dX5_copy_17 rfl ?_
  exact r_iret C dX5_copy_20 rfl
noncomputable def fX5_copy_39   (M : Mi) (N : Ml) : Option (Int32 × Mi × Ml) := (Option.bind (fX5_finds M (-1000000006)) (fun a6 => (some (a6.1, (a6.2), N))))
theorem bX5_copy_39 {Z : Zt} {E : Ec}  (C : Ok 2 Z E cX5_copy 7 RX5 (some .int) 2)    (M : Mi) (N : Ml)  : GT Z E 7 finX5_copy 39 [(0, .ref (zA Z 6 0))] [] M N (fX5_copy_39 M N) := by
  unfold fX5_copy_39
  refine r_aload_n C dX5_copy_39 0 0 rfl rfl ?_
  refine r_ldcw (v := (-1000000006)) C dX5_copy_40 wd_1246 ?_
  refine r_bind (fun a6 ha6 => ?_)
  refine r_callV (rest := []) (st2 := [.int a6.1]) C (mX5_finds (eL E) C.z M N (-1000000006) a6 ha6) lk_X5_65 (rvM C) (by decide) rfl rfl (Nat.le_of_ble_eq_true rfl) dX5_copy_43 rfl ?_
  exact r_iret C dX5_copy_46 rfl
noncomputable def fX5_copy_110   (M : Mi) (N : Ml) : Option (Int32 × Mi × Ml) := (Option.bind (fX5_finds M (-1000000001)) (fun a11 => (some (a11.1, (a11.2), N))))
theorem bX5_copy_110 {Z : Zt} {E : Ec}  (C : Ok 2 Z E cX5_copy 7 RX5 (some .int) 2)    (M : Mi) (N : Ml)  : GT Z E 7 finX5_copy 110 [(0, .ref (zA Z 6 0))] [] M N (fX5_copy_110 M N) := by
  unfold fX5_copy_110
  refine r_aload_n C dX5_copy_110 0 0 rfl rfl ?_
  refine r_ldc (v := (-1000000001)) C dX5_copy_111 wd_859 ?_
  refine r_bind (fun a11 ha11 => ?_)
  refine r_callV (rest := []) (st2 := [.int a11.1]) C (mX5_finds (eL E) C.z M N (-1000000001) a11 ha11) lk_X5_65 (rvM C) (by decide) rfl rfl (Nat.le_of_ble_eq_true rfl) dX5_copy_113 rfl ?_
  exact r_iret C dX5_copy_116 rfl
noncomputable def fX5_copy_157   : Nat → Mi → Ml → Int32 → Int32 → Int32 → Int32 → Option (Int32 × Mi × Ml)
  | 0 => fun _ _ _ _ _ _ => none
  | n + 1 => fun M N x3 x4 x5 x6 => (if x5 ≤ x6 then (some (x5, M, N)) else (if inb x6 40 then (if inb (((40 * x3) + x4) + x6) 160 then ((fX5_copy_157 n) M (wN N 9 (ix (((40 * x3) + x4) + x6)) (N 10 (ix x6))) x3 x4 x5 (x6 + 1)) else none) else none))
theorem bX5_copy_157 {Z : Zt} {E : Ec}  (C : Ok 2 Z E cX5_copy 7 RX5 (some .int) 2)    : ∀ (n : Nat) (M : Mi) (N : Ml) (x3 : Int32) (x4 : Int32) (x5 : Int32) (x6 : Int32), GT Z E 7 finX5_copy 157 [(0, .ref (zA Z 6 0)), (3, .int x3), (4, .int x4), (5, .int x5), (6, .int x6)] [] M N (fX5_copy_157 n M N x3 x4 x5 x6) := by
  intro n
  induction n with
  | zero => intro M N x3 x4 x5 x6; exact r_none
  | succ n ih =>
    intro M N x3 x4 x5 x6
    rw [fX5_copy_157]
    refine r_iload C dX5_copy_157 4 rfl ?_
    refine r_iload C dX5_copy_159 3 rfl ?_
    refine r_ic_ge (tgt := 192) C dX5_copy_161 (by decide) (fun c17 => ?_) (fun c17 => ?_)
    · refine r_iload C dX5_copy_192 3 rfl ?_
      exact r_iret C dX5_copy_194 rfl
    · refine r_aload_n C dX5_copy_164 0 0 rfl rfl ?_
      refine gf_X5_34 C dX5_copy_165 ?_
      refine r_bipush (v := 40) C dX5_copy_168 (by decide) ?_
      refine r_iload_n C dX5_copy_170 3 1 rfl rfl ?_
      refine r_imul C dX5_copy_171 ?_
      refine r_iload C dX5_copy_172 2 rfl ?_
      refine r_iadd C dX5_copy_174 ?_
      refine r_iload C dX5_copy_175 4 rfl ?_
      refine r_iadd C dX5_copy_177 ?_
      refine r_aload_n C dX5_copy_178 0 0 rfl rfl ?_
      refine gf_X5_38 C dX5_copy_179 ?_
      refine r_iload C dX5_copy_182 4 rfl ?_
      refine r_guard (fun h18 => ?_)
      refine ald_ML (v := (N 10 (ix x6))) C mL_10 h18 rfl dX5_copy_184 ?_
      refine r_guard (fun h19 => ?_)
      refine ast_ML (N' := (wN N 9 (ix (((40 * x3) + x4) + x6)) (N 10 (ix x6)))) C mL_9 h19 rfl dX5_copy_185 ?_
      refine r_iinc (v := (x6 + 1)) (lv' := [(6, .int (x6 + 1)), (0, .ref (zA Z 6 0)), (3, .int x3), (4, .int x4), (5, .int x5)]) C dX5_copy_186 4 rfl rfl (by decide) rfl ?_
      refine r_goto (tgt := 157) C dX5_copy_189 (by decide) ?_
      refine r_lv [1, 2, 3, 4, 0] (lv' := [(0, .ref (zA Z 6 0)), (3, .int x3), (4, .int x4), (5, .int x5), (6, .int (x6 + 1))]) rfl ?_
      exact ih M (wN N 9 (ix (((40 * x3) + x4) + x6)) (N 10 (ix x6))) x3 x4 x5 (x6 + 1)
noncomputable def fX5_copy_120   : Nat → Mi → Ml → Int32 → Int32 → Int32 → Int32 → Int32 → Int32 → Option (Int32 × Mi × Ml)
  | 0 => fun _ _ _ _ _ _ _ _ => none
  | n + 1 => fun M N x1 x2 x3 x4 x5 x6 => (if x5 ≤ x6 then (fX5_copy_157 fu M N x3 x4 x5 0) else (if inb (((40 * x1) + x2) + x6) 160 then (if inb x6 40 then ((fX5_copy_120 n) M (wN N 10 (ix x6) (N 9 (ix (((40 * x1) + x2) + x6)))) x1 x2 x3 x4 x5 (x6 + 1)) else none) else none))
theorem bX5_copy_120 {Z : Zt} {E : Ec}  (C : Ok 2 Z E cX5_copy 7 RX5 (some .int) 2)    : ∀ (n : Nat) (M : Mi) (N : Ml) (x1 : Int32) (x2 : Int32) (x3 : Int32) (x4 : Int32) (x5 : Int32) (x6 : Int32), GT Z E 7 finX5_copy 120 [(0, .ref (zA Z 6 0)), (1, .int x1), (2, .int x2), (3, .int x3), (4, .int x4), (5, .int x5), (6, .int x6)] [] M N (fX5_copy_120 n M N x1 x2 x3 x4 x5 x6) := by
  intro n
  induction n with
  | zero => intro M N x1 x2 x3 x4 x5 x6; exact r_none
  | succ n ih =>
    intro M N x1 x2 x3 x4 x5 x6
    rw [fX5_copy_120]
    refine r_iload C dX5_copy_120 6 rfl ?_
    refine r_iload C dX5_copy_122 5 rfl ?_
    refine r_ic_ge (tgt := 154) C dX5_copy_124 (by decide) (fun c16 => ?_) (fun c16 => ?_)
    · refine r_iconst (v := 0) C dX5_copy_154 (by decide) ?_
      refine r_istore (lv' := [(6, .int 0), (0, .ref (zA Z 6 0)), (1, .int x1), (2, .int x2), (3, .int x3), (4, .int x4), (5, .int x5)]) C dX5_copy_155 (by decide) rfl ?_
      refine r_lv [1, 4, 5, 6, 0] (lv' := [(0, .ref (zA Z 6 0)), (3, .int x3), (4, .int x4), (5, .int x5), (6, .int 0)]) rfl ?_
      exact bX5_copy_157 C fu M N x3 x4 x5 0
    · refine r_aload_n C dX5_copy_127 0 0 rfl rfl ?_
      refine gf_X5_38 C dX5_copy_128 ?_
      refine r_iload C dX5_copy_131 6 rfl ?_
      refine r_aload_n C dX5_copy_133 0 0 rfl rfl ?_
      refine gf_X5_34 C dX5_copy_134 ?_
      refine r_bipush (v := 40) C dX5_copy_137 (by decide) ?_
      refine r_iload_n C dX5_copy_139 1 1 rfl rfl ?_
      refine r_imul C dX5_copy_140 ?_
      refine r_iload_n C dX5_copy_141 2 2 rfl rfl ?_
      refine r_iadd C dX5_copy_142 ?_
      refine r_iload C dX5_copy_143 6 rfl ?_
      refine r_iadd C dX5_copy_145 ?_
      refine r_guard (fun h20 => ?_)
      refine ald_ML (v := (N 9 (ix (((40 * x1) + x2) + x6)))) C mL_9 h20 rfl dX5_copy_146 ?_
      refine r_guard (fun h21 => ?_)
      refine ast_ML (N' := (wN N 10 (ix x6) (N 9 (ix (((40 * x1) + x2) + x6))))) C mL_10 h21 rfl dX5_copy_147 ?_
      refine r_iinc (v := (x6 + 1)) (lv' := [(6, .int (x6 + 1)), (0, .ref (zA Z 6 0)), (1, .int x1), (2, .int x2), (3, .int x3), (4, .int x4), (5, .int x5)]) C dX5_copy_148 6 rfl rfl (by decide) rfl ?_
      refine r_goto (tgt := 120) C dX5_copy_151 (by decide) ?_
      refine r_lv [1, 2, 3, 4, 5, 6, 0] (lv' := [(0, .ref (zA Z 6 0)), (1, .int x1), (2, .int x2), (3, .int x3), (4, .int x4), (5, .int x5), (6, .int (x6 + 1))]) rfl ?_
      exact ih M (wN N 10 (ix x6) (N 9 (ix (((40 * x1) + x2) + x6)))) x1 x2 x3 x4 x5 (x6 + 1)
noncomputable def fX5_copy   (M : Mi) (N : Ml) (x1 : Int32) (x2 : Int32) (x3 : Int32) (x4 : Int32) (x5 : Int32) : Option (Int32 × Mi × Ml) := (if (fX5_isRow x1) = 0 then (fX5_copy_14 M N) else (if (fX5_isRow x3) = 0 then (fX5_copy_14 M N) else (if inb x1 4 then (if (M 7 (ix x1)) = 0 then (fX5_copy_39 M N) else (if inb x3 4 then (if (M 7 (ix x3)) = 0 then (fX5_copy_39 M N) else (if (M 7 (ix x1)) = (M 7 (ix x3)) then (if x2 < 0 then (fX5_copy_110 M N) else (if x4 < 0 then (fX5_copy_110 M N) else (if x5 < 0 then (fX5_copy_110 M N) else (if ((M 8 (ix x1)) - x2) < x5 then (fX5_copy_110 M N) else (if x5 ≤ ((M 8 (ix x3)) - x4) then (fX5_copy_120 fu M N x1 x2 x3 x4 x5 0) else (fX5_copy_110 M N)))))) else (Option.bind (fX5_finds M (-1000000003)) (fun a22 => (some (a22.1, (a22.2), N)))))) else none)) else none)))
theorem bX5_copy {Z : Zt} {E : Ec}  (C : Ok 2 Z E cX5_copy 7 RX5 (some .int) 2)    (M : Mi) (N : Ml) (x1 : Int32) (x2 : Int32) (x3 : Int32) (x4 : Int32) (x5 : Int32)  : GT Z E 7 finX5_copy 0 [(0, .ref (zA Z 6 0)), (1, .int x1), (2, .int x2), (3, .int x3), (4, .int x4), (5, .int x5)] [] M N (fX5_copy M N x1 x2 x3 x4 x5) := by
  unfold fX5_copy
  refine r_iload_n C dX5_copy_0 1 1 rfl rfl ?_
  refine r_callS (rest := []) (st2 := [.int (fX5_isRow x1)]) C (mX5_isRow (eL E) C.z _ _ x1) lk_X5_323 (by decide) rfl rfl (Nat.le_of_ble_eq_true rfl) dX5_copy_1 rfl ?_
  refine r_if_eq (tgt := 14) C dX5_copy_4 (by decide) (fun c1 => ?_) (fun c1 => ?_)
  · refine r_lv [0] (lv' := [(0, .ref (zA Z 6 0))]) rfl ?_
    exact bX5_copy_14 C M N
  · refine r_iload_n C dX5_copy_7 3 3 rfl rfl ?_
    refine r_callS (rest := []) (st2 := [.int (fX5_isRow x3)]) C (mX5_isRow (eL E) C.z _ _ x3) lk_X5_323 (by decide) rfl rfl (Nat.le_of_ble_eq_true rfl) dX5_copy_8 rfl ?_
    refine r_if_ne (tgt := 21) C dX5_copy_11 (by decide) (fun c3 => ?_) (fun c3 => ?_)
    · refine r_aload_n C dX5_copy_21 0 0 rfl rfl ?_
      refine gf_X5_28 C dX5_copy_22 ?_
      refine r_iload_n C dX5_copy_25 1 1 rfl rfl ?_
      refine r_guard (fun h4 => ?_)
      refine ald_M (v := (M 7 (ix x1))) C mI_7 h4 rfl dX5_copy_26 ?_
      refine r_if_eq (tgt := 39) C dX5_copy_27 (by decide) (fun c5 => ?_) (fun c5 => ?_)
      · refine r_lv [0] (lv' := [(0, .ref (zA Z 6 0))]) rfl ?_
        exact bX5_copy_39 C M N
      · refine r_aload_n C dX5_copy_30 0 0 rfl rfl ?_
        refine gf_X5_28 C dX5_copy_31 ?_
        refine r_iload_n C dX5_copy_34 3 3 rfl rfl ?_
        refine r_guard (fun h7 => ?_)
        refine ald_M (v := (M 7 (ix x3))) C mI_7 h7 rfl dX5_copy_35 ?_
        refine r_if_ne (tgt := 47) C dX5_copy_36 (by decide) (fun c8 => ?_) (fun c8 => ?_)
        · refine r_aload_n C dX5_copy_47 0 0 rfl rfl ?_
          refine gf_X5_28 C dX5_copy_48 ?_
          refine r_iload_n C dX5_copy_51 1 1 rfl rfl ?_
          refine ald_M (v := (M 7 (ix x1))) C mI_7 h4 rfl dX5_copy_52 ?_
          refine r_aload_n C dX5_copy_53 0 0 rfl rfl ?_
          refine gf_X5_28 C dX5_copy_54 ?_
          refine r_iload_n C dX5_copy_57 3 3 rfl rfl ?_
          refine ald_M (v := (M 7 (ix x3))) C mI_7 h7 rfl dX5_copy_58 ?_
          refine r_ic_eq (tgt := 69) C dX5_copy_59 (by decide) (fun c9 => ?_) (fun c9 => ?_)
          · refine r_iload_n C dX5_copy_69 2 2 rfl rfl ?_
            refine r_if_lt (tgt := 110) C dX5_copy_70 (by decide) (fun c10 => ?_) (fun c10 => ?_)
            · refine r_lv [0] (lv' := [(0, .ref (zA Z 6 0))]) rfl ?_
              exact bX5_copy_110 C M N
            · refine r_iload C dX5_copy_73 4 rfl ?_
              refine r_if_lt (tgt := 110) C dX5_copy_75 (by decide) (fun c12 => ?_) (fun c12 => ?_)
              · refine r_lv [0] (lv' := [(0, .ref (zA Z 6 0))]) rfl ?_
                exact bX5_copy_110 C M N
              · refine r_iload C dX5_copy_78 5 rfl ?_
                refine r_if_lt (tgt := 110) C dX5_copy_80 (by decide) (fun c13 => ?_) (fun c13 => ?_)
                · refine r_lv [0] (lv' := [(0, .ref (zA Z 6 0))]) rfl ?_
                  exact bX5_copy_110 C M N
                · refine r_iload C dX5_copy_83 5 rfl ?_
                  refine r_aload_n C dX5_copy_85 0 0 rfl rfl ?_
                  refine gf_X5_31 C dX5_copy_86 ?_
                  refine r_iload_n C dX5_copy_89 1 1 rfl rfl ?_
                  refine ald_M (v := (M 8 (ix x1))) C mI_8 h4 rfl dX5_copy_90 ?_
                  refine r_iload_n C dX5_copy_91 2 2 rfl rfl ?_
                  refine r_isub C dX5_copy_92 ?_
                  refine r_ic_gt (tgt := 110) C dX5_copy_93 (by decide) (fun c14 => ?_) (fun c14 => ?_)
                  · refine r_lv [0] (lv' := [(0, .ref (zA Z 6 0))]) rfl ?_
                    exact bX5_copy_110 C M N
                  · refine r_iload C dX5_copy_96 5 rfl ?_
                    refine r_aload_n C dX5_copy_98 0 0 rfl rfl ?_
                    refine gf_X5_31 C dX5_copy_99 ?_
                    refine r_iload_n C dX5_copy_102 3 3 rfl rfl ?_
                    refine ald_M (v := (M 8 (ix x3))) C mI_8 h7 rfl dX5_copy_103 ?_
                    refine r_iload C dX5_copy_104 4 rfl ?_
                    refine r_isub C dX5_copy_106 ?_
                    refine r_ic_le (tgt := 117) C dX5_copy_107 (by decide) (fun c15 => ?_) (fun c15 => ?_)
                    · refine r_iconst (v := 0) C dX5_copy_117 (by decide) ?_
                      refine r_istore (lv' := [(6, .int 0), (0, .ref (zA Z 6 0)), (1, .int x1), (2, .int x2), (3, .int x3), (4, .int x4), (5, .int x5)]) C dX5_copy_118 (by decide) rfl ?_
                      refine r_lv [1, 2, 3, 4, 5, 6, 0] (lv' := [(0, .ref (zA Z 6 0)), (1, .int x1), (2, .int x2), (3, .int x3), (4, .int x4), (5, .int x5), (6, .int 0)]) rfl ?_
                      exact bX5_copy_120 C fu M N x1 x2 x3 x4 x5 0
                    · refine r_lv [0] (lv' := [(0, .ref (zA Z 6 0))]) rfl ?_
                      exact bX5_copy_110 C M N
          · refine r_aload_n C dX5_copy_62 0 0 rfl rfl ?_
            refine r_ldc (v := (-1000000003)) C dX5_copy_63 wd_967 ?_
            refine r_bind (fun a22 ha22 => ?_)
            refine r_callV (rest := []) (st2 := [.int a22.1]) C (mX5_finds (eL E) C.z M N (-1000000003) a22 ha22) lk_X5_65 (rvM C) (by decide) rfl rfl (Nat.le_of_ble_eq_true rfl) dX5_copy_65 rfl ?_
            exact r_iret C dX5_copy_68 rfl
        · refine r_lv [0] (lv' := [(0, .ref (zA Z 6 0))]) rfl ?_
          exact bX5_copy_39 C M N
    · refine r_lv [0] (lv' := [(0, .ref (zA Z 6 0))]) rfl ?_
      exact bX5_copy_14 C M N
theorem mX5_copy (l : Launch) {Z : Zt} (hZ : Zok 2 Z) (M : Mi) (N : Ml) (x1 : Int32) (x2 : Int32) (x3 : Int32) (x4 : Int32) (x5 : Int32) (b : Int32 × Mi × Ml) (hb : fX5_copy M N x1 x2 x3 x4 x5 = some b) : Ct 2 Z l yX5_copy cX5_copy 7 (some .int) 2 [.ref (zA Z 6 0), .int x1, .int x2, .int x3, .int x4, .int x5] M N (some (Value.int b.1), b.2.1, b.2.2) :=
  metG (fin := finX5_copy) (by decide) (Nat.le_of_ble_eq_true rfl) (fun E _ C => bX5_copy C M N x1 x2 x3 x4 x5) hb
