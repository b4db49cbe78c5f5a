theorem dX5_now_0 : decode cX5_now 0 = .ok (.iload_n 1, 1) := by decide +kernel
theorem dX5_now_1 : decode cX5_now 1 = .ok (.tableswitch 79 0 5 #[39, 46, 51, 64, 69, 74], 39) := by decide +kernel
theorem dX5_now_40 : decode cX5_now 40 = .ok (.aload_n 0, 1) := by decide +kernel
theorem dX5_now_41 : decode cX5_now 41 = .ok (.getfield 7, 3) := by decide +kernel
theorem dX5_now_44 : decode cX5_now 44 = .ok (.iconst 0, 1) := by decide +kernel
theorem dX5_now_45 : decode cX5_now 45 = .ok (.iaload, 1) := by decide +kernel
theorem dX5_now_46 : decode cX5_now 46 = .ok (.ireturn, 1) := by decide +kernel
theorem dX5_now_47 : decode cX5_now 47 = .ok (.aload_n 0, 1) := by decide +kernel
theorem dX5_now_48 : decode cX5_now 48 = .ok (.invokevirtual 92, 3) := by decide +kernel
theorem dX5_now_51 : decode cX5_now 51 = .ok (.ireturn, 1) := by decide +kernel
theorem dX5_now_52 : decode cX5_now 52 = .ok (.aload_n 0, 1) := by decide +kernel
theorem dX5_now_53 : decode cX5_now 53 = .ok (.invokevirtual 103, 3) := by decide +kernel
theorem dX5_now_56 : decode cX5_now 56 = .ok (.ifCond .eq 7, 3) := by decide +kernel
theorem dX5_now_59 : decode cX5_now 59 = .ok (.iconst 1, 1) := by decide +kernel
theorem dX5_now_60 : decode cX5_now 60 = .ok (.goto 4, 3) := by decide +kernel
theorem dX5_now_63 : decode cX5_now 63 = .ok (.iconst 0, 1) := by decide +kernel
theorem dX5_now_64 : decode cX5_now 64 = .ok (.ireturn, 1) := by decide +kernel
theorem dX5_now_65 : decode cX5_now 65 = .ok (.aload_n 0, 1) := by decide +kernel
theorem dX5_now_66 : decode cX5_now 66 = .ok (.invokevirtual 163, 3) := by decide +kernel
theorem dX5_now_69 : decode cX5_now 69 = .ok (.ireturn, 1) := by decide +kernel
theorem dX5_now_70 : decode cX5_now 70 = .ok (.aload_n 0, 1) := by decide +kernel
theorem dX5_now_71 : decode cX5_now 71 = .ok (.invokevirtual 166, 3) := by decide +kernel
theorem dX5_now_74 : decode cX5_now 74 = .ok (.ireturn, 1) := by decide +kernel
theorem dX5_now_75 : decode cX5_now 75 = .ok (.aload_n 0, 1) := by decide +kernel
theorem dX5_now_76 : decode cX5_now 76 = .ok (.invokevirtual 169, 3) := by decide +kernel
theorem dX5_now_79 : decode cX5_now 79 = .ok (.ireturn, 1) := by decide +kernel
theorem dX5_now_80 : decode cX5_now 80 = .ok (.aload_n 0, 1) := by decide +kernel
theorem dX5_now_81 : decode cX5_now 81 = .ok (.ldc 41, 2) := by decide +kernel
theorem dX5_now_83 : decode cX5_now 83 = .ok (.invokevirtual 65, 3) := by decide +kernel
theorem dX5_now_86 : decode cX5_now 86 = .ok (.ireturn, 1) := by decide +kernel
def finX5_now (N : Ml) : Int32 × Mi → Option Value × Mi × Ml := fun b => (some (Value.int b.1), b.2, N)
noncomputable def fX5_now   (M : Mi) (x1 : Int32) : Option (Int32 × Mi) := (if x1 = 0 then (some ((M 0 0), M)) else (if x1 = 1 then (some ((fX5_clock (M 0)), M)) else (if x1 = 2 then (if (fX5_rains (M 0)) = 0 then (some (0, M)) else (some (1, M))) else (if x1 = 3 then (Option.bind (fX5_allBooks (M 0)) (fun a6 => (some (a6, M)))) else (if x1 = 4 then (Option.bind (fX5_allSubjects (M 0)) (fun a8 => (some (a8, M)))) else (if x1 = 5 then (Option.bind (fX5_allCells (M 0)) (fun a10 => (some (a10, M)))) else (Option.bind (fX5_finds M (-1000000001)) (fun a11 => (some (a11.1, (a11.2)))))))))))
theorem bX5_now {Z : Zt} {E : Ec} {N : Ml} (C : Ok 2 Z E cX5_now 2 RX5 (some .int) 3)    (M : Mi) (x1 : Int32)  : GT Z E 2 (finX5_now N) 0 [(0, .ref (zA Z 6 0)), (1, .int x1)] [] M N (fX5_now M x1) := by
  unfold fX5_now
  refine r_iload_n C dX5_now_0 1 1 rfl rfl ?_
  refine r_tsw (k := 0) (tgt := 40) C dX5_now_1 (by decide) (by decide) rfl (by decide) (fun c1 => ?_) (fun c1 => ?_)
  · refine r_aload_n C dX5_now_40 0 0 rfl rfl ?_
    refine gf_X5_7 C dX5_now_41 ?_
    refine r_iconst (v := 0) C dX5_now_44 (by decide) ?_
    refine ald_M (v := (M 0 0)) C mI_0 (by decide) rfl dX5_now_45 ?_
    exact r_iret C dX5_now_46 rfl
  · skip
    refine r_tsw (k := 1) (tgt := 47) C dX5_now_1 (by decide) (by decide) rfl (by decide) (fun c2 => ?_) (fun c2 => ?_)
    · refine r_aload_n C dX5_now_47 0 0 rfl rfl ?_
      refine r_callV (rest := []) (st2 := [.int (fX5_clock (M 0))]) C (mX5_clock (eL E) C.z M _ (M 0)).selfR lk_X5_92 (rvM C) (by decide) rfl rfl (Nat.le_of_ble_eq_true rfl) dX5_now_48 rfl ?_
      exact r_iret C dX5_now_51 rfl
    · skip
      refine r_tsw (k := 2) (tgt := 52) C dX5_now_1 (by decide) (by decide) rfl (by decide) (fun c3 => ?_) (fun c3 => ?_)
      · refine r_aload_n C dX5_now_52 0 0 rfl rfl ?_
        refine r_callV (rest := []) (st2 := [.int (fX5_rains (M 0))]) C (mX5_rains (eL E) C.z M _ (M 0)).selfR lk_X5_103 (rvM C) (by decide) rfl rfl (Nat.le_of_ble_eq_true rfl) dX5_now_53 rfl ?_
        refine r_if_eq (tgt := 63) C dX5_now_56 (by decide) (fun c4 => ?_) (fun c4 => ?_)
        · refine r_iconst (v := 0) C dX5_now_63 (by decide) ?_
          exact r_iret C dX5_now_64 rfl
        · refine r_iconst (v := 1) C dX5_now_59 (by decide) ?_
          refine r_goto (tgt := 64) C dX5_now_60 (by decide) ?_
          exact r_iret C dX5_now_64 rfl
      · skip
        refine r_tsw (k := 3) (tgt := 65) C dX5_now_1 (by decide) (by decide) rfl (by decide) (fun c5 => ?_) (fun c5 => ?_)
        · refine r_aload_n C dX5_now_65 0 0 rfl rfl ?_
          refine r_bind (fun a6 ha6 => ?_)
          refine r_callV (rest := []) (st2 := [.int a6]) C (mX5_allBooks (eL E) C.z M _ (M 0) a6 ha6).selfR lk_X5_163 (rvM C) (by decide) rfl rfl (Nat.le_of_ble_eq_true rfl) dX5_now_66 rfl ?_
          exact r_iret C dX5_now_69 rfl
        · skip
          refine r_tsw (k := 4) (tgt := 70) C dX5_now_1 (by decide) (by decide) rfl (by decide) (fun c7 => ?_) (fun c7 => ?_)
          · refine r_aload_n C dX5_now_70 0 0 rfl rfl ?_
            refine r_bind (fun a8 ha8 => ?_)
            refine r_callV (rest := []) (st2 := [.int a8]) C (mX5_allSubjects (eL E) C.z M _ (M 0) a8 ha8).selfR lk_X5_166 (rvM C) (by decide) rfl rfl (Nat.le_of_ble_eq_true rfl) dX5_now_71 rfl ?_
            exact r_iret C dX5_now_74 rfl
          · skip
            refine r_tsw (k := 5) (tgt := 75) C dX5_now_1 (by decide) (by decide) rfl (by decide) (fun c9 => ?_) (fun c9 => ?_)
            · refine r_aload_n C dX5_now_75 0 0 rfl rfl ?_
              refine r_bind (fun a10 ha10 => ?_)
              refine r_callV (rest := []) (st2 := [.int a10]) C (mX5_allCells (eL E) C.z M _ (M 0) a10 ha10).selfR lk_X5_169 (rvM C) (by decide) rfl rfl (Nat.le_of_ble_eq_true rfl) dX5_now_76 rfl ?_
              exact r_iret C dX5_now_79 rfl
            · skip
              refine r_tswd (tgt := 80) C dX5_now_1 (sw_out (lo := 0) (hi := 5) (n := 6) x1 [0, 1, 2, 3, 4, 5] (by decide) rfl (List.forall_mem_cons.mpr ⟨c1, List.forall_mem_cons.mpr ⟨c2, List.forall_mem_cons.mpr ⟨c3, List.forall_mem_cons.mpr ⟨c5, List.forall_mem_cons.mpr ⟨c7, List.forall_mem_cons.mpr ⟨c9, fun _ h => absurd h List.not_mem_nil⟩⟩⟩⟩⟩⟩)) (by decide) ?_
              refine r_aload_n C dX5_now_80 0 0 rfl rfl ?_
              refine r_ldc (v := (-1000000001)) C dX5_now_81 wd_859 ?_
              refine r_bind (fun a11 ha11 => ?_)
              refine r_callV (rest := []) (st2 := [.int a11.1]) C (mX5_finds (eL E) C.z M N (-1000000001) a11 ha11) lk_X5_65 (rvM C) (by decide) rfl rfl (Nat.le_of_ble_eq_true rfl) dX5_now_83 rfl ?_
              exact r_iret C dX5_now_86 rfl
theorem mX5_now (l : Launch) {Z : Zt} (hZ : Zok 2 Z) (M : Mi) (N : Ml) (x1 : Int32) (b : Int32 × Mi) (hb : fX5_now M x1 = some b) : Ct 2 Z l yX5_now cX5_now 2 (some .int) 3 [.ref (zA Z 6 0), .int x1] M N (some (Value.int b.1), b.2, N) :=
  metG (fin := (finX5_now N)) (by decide) (Nat.le_of_ble_eq_true rfl) (fun E _ C => bX5_now C M x1) hb
theorem dX5_on_0 : decode cX5_on 0 = .ok (.aload_n 0, 1) := by decide +kernel
theorem dX5_on_1 : decode cX5_on 1 = .ok (.iload_n 1, 1) := by decide +kernel
theorem dX5_on_2 : decode cX5_on 2 = .ok (.invokevirtual 54, 3) := by decide +kernel
theorem dX5_on_5 : decode cX5_on 5 = .ok (.ifCond .eq 25, 3) := by decide +kernel
theorem dX5_on_8 : decode cX5_on 8 = .ok (.iload_n 2, 1) := by decide +kernel
theorem dX5_on_9 : decode cX5_on 9 = .ok (.i2l, 1) := by decide +kernel
theorem dX5_on_10 : decode cX5_on 10 = .ok (.lconst 0, 1) := by decide +kernel
theorem dX5_on_11 : decode cX5_on 11 = .ok (.ldc2_w 158, 3) := by decide +kernel
theorem dX5_on_14 : decode cX5_on 14 = .ok (.invokestatic 44, 3) := by decide +kernel
theorem dX5_on_17 : decode cX5_on 17 = .ok (.ifCond .eq 13, 3) := by decide +kernel
theorem dX5_on_20 : decode cX5_on 20 = .ok (.iload_n 3, 1) := by decide +kernel
theorem dX5_on_21 : decode cX5_on 21 = .ok (.i2l, 1) := by decide +kernel
theorem dX5_on_22 : decode cX5_on 22 = .ok (.lconst 0, 1) := by decide +kernel
theorem dX5_on_23 : decode cX5_on 23 = .ok (.lconst 1, 1) := by decide +kernel
theorem dX5_on_24 : decode cX5_on 24 = .ok (.invokestatic 44, 3) := by decide +kernel
theorem dX5_on_27 : decode cX5_on 27 = .ok (.ifCond .ne 10, 3) := by decide +kernel
theorem dX5_on_30 : decode cX5_on 30 = .ok (.aload_n 0, 1) := by decide +kernel
theorem dX5_on_31 : decode cX5_on 31 = .ok (.ldc 41, 2) := by decide +kernel
theorem dX5_on_33 : decode cX5_on 33 = .ok (.invokevirtual 65, 3) := by decide +kernel
theorem dX5_on_36 : decode cX5_on 36 = .ok (.ireturn, 1) := by decide +kernel
theorem dX5_on_37 : decode cX5_on 37 = .ok (.aload_n 0, 1) := by decide +kernel
theorem dX5_on_38 : decode cX5_on 38 = .ok (.invokevirtual 172, 3) := by decide +kernel
theorem dX5_on_41 : decode cX5_on 41 = .ok (.aload_n 0, 1) := by decide +kernel
theorem dX5_on_42 : decode cX5_on 42 = .ok (.iload_n 2, 1) := by decide +kernel
theorem dX5_on_43 : decode cX5_on 43 = .ok (.invokevirtual 160, 3) := by decide +kernel
theorem dX5_on_46 : decode cX5_on 46 = .ok (.aload_n 0, 1) := by decide +kernel
theorem dX5_on_47 : decode cX5_on 47 = .ok (.aload_n 0, 1) := by decide +kernel
theorem dX5_on_48 : decode cX5_on 48 = .ok (.iload_n 1, 1) := by decide +kernel
theorem dX5_on_49 : decode cX5_on 49 = .ok (.iload_n 3, 1) := by decide +kernel
theorem dX5_on_50 : decode cX5_on 50 = .ok (.ifCond .ne 7, 3) := by decide +kernel
theorem dX5_on_53 : decode cX5_on 53 = .ok (.iconst 1, 1) := by decide +kernel
theorem dX5_on_54 : decode cX5_on 54 = .ok (.goto 4, 3) := by decide +kernel
theorem dX5_on_57 : decode cX5_on 57 = .ok (.iconst 2, 1) := by decide +kernel
theorem dX5_on_58 : decode cX5_on 58 = .ok (.invokevirtual 83, 3) := by decide +kernel
theorem dX5_on_61 : decode cX5_on 61 = .ok (.invokevirtual 175, 3) := by decide +kernel
theorem dX5_on_64 : decode cX5_on 64 = .ok (.ireturn, 1) := by decide +kernel
def finX5_on (N : Ml) : Int32 × Mi → Option Value × Mi × Ml := fun b => (some (Value.int b.1), b.2, N)
noncomputable def fX5_on_30   (M : Mi) : Option (Int32 × Mi) := (Option.bind (fX5_finds M (-1000000001)) (fun a2 => (some (a2.1, (a2.2)))))
theorem bX5_on_30 {Z : Zt} {E : Ec} {N : Ml} (C : Ok 2 Z E cX5_on 4 RX5 (some .int) 6)    (M : Mi)  : GT Z E 4 (finX5_on N) 30 [(0, .ref (zA Z 6 0))] [] M N (fX5_on_30 M) := by
  unfold fX5_on_30
  refine r_aload_n C dX5_on_30 0 0 rfl rfl ?_
  refine r_ldc (v := (-1000000001)) C dX5_on_31 wd_859 ?_
  refine r_bind (fun a2 ha2 => ?_)
  refine r_callV (rest := []) (st2 := [.int a2.1]) C (mX5_finds (eL E) C.z M N (-1000000001) a2 ha2) lk_X5_65 (rvM C) (by decide) rfl rfl (Nat.le_of_ble_eq_true rfl) dX5_on_33 rfl ?_
  exact r_iret C dX5_on_36 rfl
noncomputable def fX5_on_58   (M : Mi) (s0 : Int32) (s1 : Int32) : Option (Int32 × Mi) := (Option.bind (fX5_its (M 0) s1 s0) (fun a9 => (Option.bind (fX5_takesBack M a9) (fun a10 => (some (a10.1, (a10.2)))))))
theorem bX5_on_58 {Z : Zt} {E : Ec} {N : Ml} (C : Ok 2 Z E cX5_on 4 RX5 (some .int) 6)    (M : Mi) (s0 : Int32) (s1 : Int32)  : GT Z E 4 (finX5_on N) 58 [] [.int s0, .int s1, .ref (zA Z 6 0), .ref (zA Z 6 0)] M N (fX5_on_58 M s0 s1) := by
  unfold fX5_on_58
  refine r_bind (fun a9 ha9 => ?_)
  refine r_callV (rest := [.ref (zA Z 6 0)]) (st2 := [.int a9, .ref (zA Z 6 0)]) C (mX5_its (eL E) C.z M _ (M 0) s1 s0 a9 ha9).selfR lk_X5_83 (rvM C) (by decide) rfl rfl (Nat.le_of_ble_eq_true rfl) dX5_on_58 rfl ?_
  refine r_bind (fun a10 ha10 => ?_)
  refine r_callV (rest := []) (st2 := [.int a10.1]) C (mX5_takesBack (eL E) C.z M N a9 a10 ha10) lk_X5_175 (rvM C) (by decide) rfl rfl (Nat.le_of_ble_eq_true rfl) dX5_on_61 rfl ?_
  exact r_iret C dX5_on_64 rfl
noncomputable def fX5_on   (M : Mi) (x1 : Int32) (x2 : Int32) (x3 : Int32) : Option (Int32 × Mi) := (if (fX5_isOne (M 0) x1) = 0 then (fX5_on_30 M) else (if (fX5_in (Int32.toInt64 x2) 0 72) = 0 then (fX5_on_30 M) else (if (fX5_in (Int32.toInt64 x3) 0 1) = 0 then (fX5_on_30 M) else (Option.bind (fX5_laysAside M) (fun a5 => (Option.bind (fX5_go (a5 0) x2) (fun a6 => (fX5_on_58 (sR a5 0 a6) (if x3 = 0 then 1 else 2 : Int32) x1))))))))
theorem bX5_on {Z : Zt} {E : Ec} {N : Ml} (C : Ok 2 Z E cX5_on 4 RX5 (some .int) 6)    (M : Mi) (x1 : Int32) (x2 : Int32) (x3 : Int32)  : GT Z E 4 (finX5_on N) 0 [(0, .ref (zA Z 6 0)), (1, .int x1), (2, .int x2), (3, .int x3)] [] M N (fX5_on M x1 x2 x3) := by
  unfold fX5_on
  refine r_aload_n C dX5_on_0 0 0 rfl rfl ?_
  refine r_iload_n C dX5_on_1 1 1 rfl rfl ?_
  refine r_callV (rest := []) (st2 := [.int (fX5_isOne (M 0) x1)]) C (mX5_isOne (eL E) C.z M _ (M 0) x1).selfR lk_X5_54 (rvM C) (by decide) rfl rfl (Nat.le_of_ble_eq_true rfl) dX5_on_2 rfl ?_
  refine r_if_eq (tgt := 30) C dX5_on_5 (by decide) (fun c1 => ?_) (fun c1 => ?_)
  · refine r_lv [0] (lv' := [(0, .ref (zA Z 6 0))]) rfl ?_
    exact bX5_on_30 C M
  · refine r_iload_n C dX5_on_8 2 2 rfl rfl ?_
    refine r_i2l C dX5_on_9 ?_
    refine r_lconst (v := 0) C dX5_on_10 (by decide) ?_
    refine r_ldc2 (v := 72) C dX5_on_11 wd_990 ?_
    refine r_callS (rest := []) (st2 := [.int (fX5_in (Int32.toInt64 x2) 0 72)]) C (mX5_in (eL E) C.z _ _ (Int32.toInt64 x2) 0 72) lk_X5_44 (by decide) rfl rfl (Nat.le_of_ble_eq_true rfl) dX5_on_14 rfl ?_
    refine r_if_eq (tgt := 30) C dX5_on_17 (by decide) (fun c3 => ?_) (fun c3 => ?_)
    · refine r_lv [0] (lv' := [(0, .ref (zA Z 6 0))]) rfl ?_
      exact bX5_on_30 C M
    · refine r_iload_n C dX5_on_20 3 3 rfl rfl ?_
      refine r_i2l C dX5_on_21 ?_
      refine r_lconst (v := 0) C dX5_on_22 (by decide) ?_
      refine r_lconst (v := 1) C dX5_on_23 (by decide) ?_
      refine r_callS (rest := []) (st2 := [.int (fX5_in (Int32.toInt64 x3) 0 1)]) C (mX5_in (eL E) C.z _ _ (Int32.toInt64 x3) 0 1) lk_X5_44 (by decide) rfl rfl (Nat.le_of_ble_eq_true rfl) dX5_on_24 rfl ?_
      refine r_if_ne (tgt := 37) C dX5_on_27 (by decide) (fun c4 => ?_) (fun c4 => ?_)
      · refine r_aload_n C dX5_on_37 0 0 rfl rfl ?_
        refine r_bind (fun a5 ha5 => ?_)
        refine r_callV (rest := []) (st2 := []) C (mX5_laysAside (eL E) C.z M N a5 ha5) lk_X5_172 (rvM C) (by decide) rfl rfl (Nat.le_of_ble_eq_true rfl) dX5_on_38 rfl ?_
        refine r_aload_n C dX5_on_41 0 0 rfl rfl ?_
        refine r_iload_n C dX5_on_42 2 2 rfl rfl ?_
        refine r_bind (fun a6 ha6 => ?_)
        refine r_callV (rest := []) (st2 := []) C (mX5_go (eL E) C.z a5 _ (a5 0) x2 a6 ha6).selfW lk_X5_160 (rvM C) (by decide) rfl rfl (Nat.le_of_ble_eq_true rfl) dX5_on_43 rfl ?_
        refine r_aload_n C dX5_on_46 0 0 rfl rfl ?_
        refine r_aload_n C dX5_on_47 0 0 rfl rfl ?_
        refine r_iload_n C dX5_on_48 1 1 rfl rfl ?_
        refine r_iload_n C dX5_on_49 3 3 rfl rfl ?_
        refine r_sel (tj := 58) (sj := [.int (if x3 = 0 then 1 else 2 : Int32), .int x1, .ref (zA Z 6 0), .ref (zA Z 6 0)]) ?_ (fun k8 => ?_)
        · refine r_lv [] (lv' := []) rfl ?_
          exact bX5_on_58 C (sR a5 0 a6) (if x3 = 0 then 1 else 2 : Int32) x1
        · refine r_same (P := x3 = 0) ?_
          refine r_if_ne (tgt := 57) C dX5_on_50 (by decide) (fun c7 => ?_) (fun c7 => ?_)
          · refine r_iconst (v := 2) C dX5_on_57 (by decide) ?_
            exact r_stk (if_neg c7) k8
          · refine r_iconst (v := 1) C dX5_on_53 (by decide) ?_
            refine r_goto (tgt := 58) C dX5_on_54 (by decide) ?_
            exact r_stk (if_pos c7) k8
      · refine r_lv [0] (lv' := [(0, .ref (zA Z 6 0))]) rfl ?_
        exact bX5_on_30 C M
theorem mX5_on (l : Launch) {Z : Zt} (hZ : Zok 2 Z) (M : Mi) (N : Ml) (x1 : Int32) (x2 : Int32) (x3 : Int32) (b : Int32 × Mi) (hb : fX5_on M x1 x2 x3 = some b) : Ct 2 Z l yX5_on cX5_on 4 (some .int) 6 [.ref (zA Z 6 0), .int x1, .int x2, .int x3] M N (some (Value.int b.1), b.2, N) :=
  metG (fin := (finX5_on N)) (by decide) (Nat.le_of_ble_eq_true rfl) (fun E _ C => bX5_on C M x1 x2 x3) hb
theorem dX5_whenOf_0 : decode cX5_whenOf 0 = .ok (.aload_n 0, 1) := by decide +kernel
theorem dX5_whenOf_1 : decode cX5_whenOf 1 = .ok (.invokevirtual 172, 3) := by decide +kernel
theorem dX5_whenOf_4 : decode cX5_whenOf 4 = .ok (.iconst 0, 1) := by decide +kernel
theorem dX5_whenOf_5 : decode cX5_whenOf 5 = .ok (.istore_n 3, 1) := by decide +kernel
theorem dX5_whenOf_6 : decode cX5_whenOf 6 = .ok (.iload_n 3, 1) := by decide +kernel
theorem dX5_whenOf_7 : decode cX5_whenOf 7 = .ok (.bipush 72, 2) := by decide +kernel
theorem dX5_whenOf_9 : decode cX5_whenOf 9 = .ok (.if_icmp .gt 23, 3) := by decide +kernel
theorem dX5_whenOf_12 : decode cX5_whenOf 12 = .ok (.aload_n 0, 1) := by decide +kernel
theorem dX5_whenOf_13 : decode cX5_whenOf 13 = .ok (.iload_n 1, 1) := by decide +kernel
theorem dX5_whenOf_14 : decode cX5_whenOf 14 = .ok (.iconst 1, 1) := by decide +kernel
theorem dX5_whenOf_15 : decode cX5_whenOf 15 = .ok (.invokevirtual 83, 3) := by decide +kernel
theorem dX5_whenOf_18 : decode cX5_whenOf 18 = .ok (.iload_n 2, 1) := by decide +kernel
theorem dX5_whenOf_19 : decode cX5_whenOf 19 = .ok (.if_icmp .eq 13, 3) := by decide +kernel
theorem dX5_whenOf_22 : decode cX5_whenOf 22 = .ok (.aload_n 0, 1) := by decide +kernel
theorem dX5_whenOf_23 : decode cX5_whenOf 23 = .ok (.invokevirtual 155, 3) := by decide +kernel
theorem dX5_whenOf_26 : decode cX5_whenOf 26 = .ok (.iinc 3 1, 3) := by decide +kernel
theorem dX5_whenOf_29 : decode cX5_whenOf 29 = .ok (.goto (-23), 3) := by decide +kernel
theorem dX5_whenOf_32 : decode cX5_whenOf 32 = .ok (.aload_n 0, 1) := by decide +kernel
theorem dX5_whenOf_33 : decode cX5_whenOf 33 = .ok (.iload_n 3, 1) := by decide +kernel
theorem dX5_whenOf_34 : decode cX5_whenOf 34 = .ok (.invokevirtual 175, 3) := by decide +kernel
theorem dX5_whenOf_37 : decode cX5_whenOf 37 = .ok (.ireturn, 1) := by decide +kernel
def finX5_whenOf (N : Ml) : Int32 × Mi → Option Value × Mi × Ml := fun b => (some (Value.int b.1), b.2, N)
noncomputable def fX5_whenOf_32   (M : Mi) (x3 : Int32) : Option (Int32 × Mi) := (Option.bind (fX5_takesBack M x3) (fun a3 => (some (a3.1, (a3.2)))))
theorem bX5_whenOf_32 {Z : Zt} {E : Ec} {N : Ml} (C : Ok 2 Z E cX5_whenOf 4 RX5 (some .int) 5)    (M : Mi) (x3 : Int32)  : GT Z E 4 (finX5_whenOf N) 32 [(0, .ref (zA Z 6 0)), (3, .int x3)] [] M N (fX5_whenOf_32 M x3) := by
  unfold fX5_whenOf_32
  refine r_aload_n C dX5_whenOf_32 0 0 rfl rfl ?_
  refine r_iload_n C dX5_whenOf_33 3 1 rfl rfl ?_
  refine r_bind (fun a3 ha3 => ?_)
  refine r_callV (rest := []) (st2 := [.int a3.1]) C (mX5_takesBack (eL E) C.z M N x3 a3 ha3) lk_X5_175 (rvM C) (by decide) rfl rfl (Nat.le_of_ble_eq_true rfl) dX5_whenOf_34 rfl ?_
  exact r_iret C dX5_whenOf_37 rfl
noncomputable def fX5_whenOf_6   : Nat → Mi → Int32 → Int32 → Int32 → Option (Int32 × Mi)
  | 0 => fun _ _ _ _ => none
  | n + 1 => fun M x1 x2 x3 => (if 72 < x3 then (fX5_whenOf_32 M x3) else (Option.bind (fX5_its (M 0) x1 1) (fun a4 => (if a4 = x2 then (fX5_whenOf_32 M x3) else (Option.bind (fX5_hour (M 0)) (fun a6 => ((fX5_whenOf_6 n) (sR M 0 a6) x1 x2 (x3 + 1))))))))
theorem bX5_whenOf_6 {Z : Zt} {E : Ec} {N : Ml} (C : Ok 2 Z E cX5_whenOf 4 RX5 (some .int) 5)    : ∀ (n : Nat) (M : Mi) (x1 : Int32) (x2 : Int32) (x3 : Int32), GT Z E 4 (finX5_whenOf N) 6 [(0, .ref (zA Z 6 0)), (1, .int x1), (2, .int x2), (3, .int x3)] [] M N (fX5_whenOf_6 n M x1 x2 x3) := by
  intro n
  induction n with
  | zero => intro M x1 x2 x3; exact r_none
  | succ n ih =>
    intro M x1 x2 x3
    rw [fX5_whenOf_6]
    refine r_iload_n C dX5_whenOf_6 3 3 rfl rfl ?_
    refine r_bipush (v := 72) C dX5_whenOf_7 (by decide) ?_
    refine r_ic_gt (tgt := 32) C dX5_whenOf_9 (by decide) (fun c2 => ?_) (fun c2 => ?_)
    · refine r_lv [0, 3] (lv' := [(0, .ref (zA Z 6 0)), (3, .int x3)]) rfl ?_
      exact bX5_whenOf_32 C M x3
    · refine r_aload_n C dX5_whenOf_12 0 0 rfl rfl ?_
      refine r_iload_n C dX5_whenOf_13 1 1 rfl rfl ?_
      refine r_iconst (v := 1) C dX5_whenOf_14 (by decide) ?_
      refine r_bind (fun a4 ha4 => ?_)
      refine r_callV (rest := []) (st2 := [.int a4]) C (mX5_its (eL E) C.z M _ (M 0) x1 1 a4 ha4).selfR lk_X5_83 (rvM C) (by decide) rfl rfl (Nat.le_of_ble_eq_true rfl) dX5_whenOf_15 rfl ?_
      refine r_iload_n C dX5_whenOf_18 2 2 rfl rfl ?_
      refine r_ic_eq (tgt := 32) C dX5_whenOf_19 (by decide) (fun c5 => ?_) (fun c5 => ?_)
      · refine r_lv [0, 3] (lv' := [(0, .ref (zA Z 6 0)), (3, .int x3)]) rfl ?_
        exact bX5_whenOf_32 C M x3
      · refine r_aload_n C dX5_whenOf_22 0 0 rfl rfl ?_
        refine r_bind (fun a6 ha6 => ?_)
        refine r_callV (rest := []) (st2 := []) C (mX5_hour (eL E) C.z M _ (M 0) a6 ha6).selfW lk_X5_155 (rvM C) (by decide) rfl rfl (Nat.le_of_ble_eq_true rfl) dX5_whenOf_23 rfl ?_
        refine r_iinc (v := (x3 + 1)) (lv' := [(3, .int (x3 + 1)), (0, .ref (zA Z 6 0)), (1, .int x1), (2, .int x2)]) C dX5_whenOf_26 3 rfl rfl (by decide) rfl ?_
        refine r_goto (tgt := 6) C dX5_whenOf_29 (by decide) ?_
        refine r_lv [1, 2, 3, 0] (lv' := [(0, .ref (zA Z 6 0)), (1, .int x1), (2, .int x2), (3, .int (x3 + 1))]) rfl ?_
        exact ih (sR M 0 a6) x1 x2 (x3 + 1)
noncomputable def fX5_whenOf   (M : Mi) (x1 : Int32) (x2 : Int32) : Option (Int32 × Mi) := (Option.bind (fX5_laysAside M) (fun a1 => (fX5_whenOf_6 fu a1 x1 x2 0)))
theorem bX5_whenOf {Z : Zt} {E : Ec} {N : Ml} (C : Ok 2 Z E cX5_whenOf 4 RX5 (some .int) 5)    (M : Mi) (x1 : Int32) (x2 : Int32)  : GT Z E 4 (finX5_whenOf N) 0 [(0, .ref (zA Z 6 0)), (1, .int x1), (2, .int x2)] [] M N (fX5_whenOf M x1 x2) := by
  unfold fX5_whenOf
  refine r_aload_n C dX5_whenOf_0 0 0 rfl rfl ?_
  refine r_bind (fun a1 ha1 => ?_)
  refine r_callV (rest := []) (st2 := []) C (mX5_laysAside (eL E) C.z M N a1 ha1) lk_X5_172 (rvM C) (by decide) rfl rfl (Nat.le_of_ble_eq_true rfl) dX5_whenOf_1 rfl ?_
  refine r_iconst (v := 0) C dX5_whenOf_4 (by decide) ?_
  refine r_istore_n (lv' := [(3, .int 0), (0, .ref (zA Z 6 0)), (1, .int x1), (2, .int x2)]) C dX5_whenOf_5 3 rfl (by decide) rfl ?_
  refine r_lv [1, 2, 3, 0] (lv' := [(0, .ref (zA Z 6 0)), (1, .int x1), (2, .int x2), (3, .int 0)]) rfl ?_
  exact bX5_whenOf_6 C fu a1 x1 x2 0
theorem mX5_whenOf (l : Launch) {Z : Zt} (hZ : Zok 2 Z) (M : Mi) (N : Ml) (x1 : Int32) (x2 : Int32) (b : Int32 × Mi) (hb : fX5_whenOf M x1 x2 = some b) : Ct 2 Z l yX5_whenOf cX5_whenOf 4 (some .int) 5 [.ref (zA Z 6 0), .int x1, .int x2] M N (some (Value.int b.1), b.2, N) :=
  metG (fin := (finX5_whenOf N)) (by decide) (Nat.le_of_ble_eq_true rfl) (fun E _ C => bX5_whenOf C M x1 x2) hb
theorem dX5_orNone_0 : decode cX5_orNone 0 = .ok (.iload_n 1, 1) := by decide +kernel
theorem dX5_orNone_1 : decode cX5_orNone 1 = .ok (.i2l, 1) := by decide +kernel
theorem dX5_orNone_2 : decode cX5_orNone 2 = .ok (.lconst 0, 1) := by decide +kernel
theorem dX5_orNone_3 : decode cX5_orNone 3 = .ok (.iload_n 2, 1) := by decide +kernel
theorem dX5_orNone_4 : decode cX5_orNone 4 = .ok (.i2l, 1) := by decide +kernel
theorem dX5_orNone_5 : decode cX5_orNone 5 = .ok (.invokestatic 44, 3) := by decide +kernel
theorem dX5_orNone_8 : decode cX5_orNone 8 = .ok (.ifCond .eq 7, 3) := by decide +kernel
theorem dX5_orNone_11 : decode cX5_orNone 11 = .ok (.iload_n 1, 1) := by decide +kernel
theorem dX5_orNone_12 : decode cX5_orNone 12 = .ok (.goto 9, 3) := by decide +kernel
theorem dX5_orNone_15 : decode cX5_orNone 15 = .ok (.aload_n 0, 1) := by decide +kernel
theorem dX5_orNone_16 : decode cX5_orNone 16 = .ok (.ldc 137, 2) := by decide +kernel
theorem dX5_orNone_18 : decode cX5_orNone 18 = .ok (.invokevirtual 65, 3) := by decide +kernel
theorem dX5_orNone_21 : decode cX5_orNone 21 = .ok (.ireturn, 1) := by decide +kernel
def finX5_orNone (N : Ml) : Int32 × Mi → Option Value × Mi × Ml := fun b => (some (Value.int b.1), b.2, N)
noncomputable def fX5_orNone   (M : Mi) (x1 : Int32) (x2 : Int32) : Option (Int32 × Mi) := (if (fX5_in (Int32.toInt64 x1) 0 (Int32.toInt64 x2)) = 0 then (Option.bind (fX5_finds M (-1000000004)) (fun a2 => (some (a2.1, (a2.2))))) else (some (x1, M)))
theorem bX5_orNone {Z : Zt} {E : Ec} {N : Ml} (C : Ok 2 Z E cX5_orNone 3 RX5 (some .int) 1)    (M : Mi) (x1 : Int32) (x2 : Int32)  : GT Z E 3 (finX5_orNone N) 0 [(0, .ref (zA Z 6 0)), (1, .int x1), (2, .int x2)] [] M N (fX5_orNone M x1 x2) := by
  unfold fX5_orNone
  refine r_iload_n C dX5_orNone_0 1 1 rfl rfl ?_
  refine r_i2l C dX5_orNone_1 ?_
  refine r_lconst (v := 0) C dX5_orNone_2 (by decide) ?_
  refine r_iload_n C dX5_orNone_3 2 2 rfl rfl ?_
  refine r_i2l C dX5_orNone_4 ?_
  refine r_callS (rest := []) (st2 := [.int (fX5_in (Int32.toInt64 x1) 0 (Int32.toInt64 x2))]) C (mX5_in (eL E) C.z _ _ (Int32.toInt64 x1) 0 (Int32.toInt64 x2)) lk_X5_44 (by decide) rfl rfl (Nat.le_of_ble_eq_true rfl) dX5_orNone_5 rfl ?_
  refine r_if_eq (tgt := 15) C dX5_orNone_8 (by decide) (fun c1 => ?_) (fun c1 => ?_)
  · refine r_aload_n C dX5_orNone_15 0 0 rfl rfl ?_
    refine r_ldc (v := (-1000000004)) C dX5_orNone_16 wd_981 ?_
    refine r_bind (fun a2 ha2 => ?_)
    refine r_callV (rest := []) (st2 := [.int a2.1]) C (mX5_finds (eL E) C.z M N (-1000000004) a2 ha2) lk_X5_65 (rvM C) (by decide) rfl rfl (Nat.le_of_ble_eq_true rfl) dX5_orNone_18 rfl ?_
    exact r_iret C dX5_orNone_21 rfl
  · refine r_iload_n C dX5_orNone_11 1 1 rfl rfl ?_
    refine r_goto (tgt := 21) C dX5_orNone_12 (by decide) ?_
    exact r_iret C dX5_orNone_21 rfl
theorem mX5_orNone (l : Launch) {Z : Zt} (hZ : Zok 2 Z) (M : Mi) (N : Ml) (x1 : Int32) (x2 : Int32) (b : Int32 × Mi) (hb : fX5_orNone M x1 x2 = some b) : Ct 2 Z l yX5_orNone cX5_orNone 3 (some .int) 1 [.ref (zA Z 6 0), .int x1, .int x2] M N (some (Value.int b.1), b.2, N) :=
  metG (fin := (finX5_orNone N)) (by decide) (Nat.le_of_ble_eq_true rfl) (fun E _ C => bX5_orNone C M x1 x2) hb
theorem dX5_when_0 : decode cX5_when 0 = .ok (.aload_n 0, 1) := by decide +kernel
theorem dX5_when_1 : decode cX5_when 1 = .ok (.iload_n 1, 1) := by decide +kernel
theorem dX5_when_2 : decode cX5_when 2 = .ok (.invokevirtual 54, 3) := by decide +kernel
theorem dX5_when_5 : decode cX5_when 5 = .ok (.ifCond .eq 25, 3) := by decide +kernel
theorem dX5_when_8 : decode cX5_when 8 = .ok (.iload_n 2, 1) := by decide +kernel
theorem dX5_when_9 : decode cX5_when 9 = .ok (.invokestatic 62, 3) := by decide +kernel
theorem dX5_when_12 : decode cX5_when 12 = .ok (.ifCond .eq 18, 3) := by decide +kernel
theorem dX5_when_15 : decode cX5_when 15 = .ok (.aload_n 0, 1) := by decide +kernel
theorem dX5_when_16 : decode cX5_when 16 = .ok (.aload_n 0, 1) := by decide +kernel
theorem dX5_when_17 : decode cX5_when 17 = .ok (.iload_n 1, 1) := by decide +kernel
theorem dX5_when_18 : decode cX5_when 18 = .ok (.iload_n 2, 1) := by decide +kernel
theorem dX5_when_19 : decode cX5_when 19 = .ok (.invokevirtual 178, 3) := by decide +kernel
theorem dX5_when_22 : decode cX5_when 22 = .ok (.bipush 72, 2) := by decide +kernel
theorem dX5_when_24 : decode cX5_when 24 = .ok (.invokevirtual 181, 3) := by decide +kernel
theorem dX5_when_27 : decode cX5_when 27 = .ok (.goto 9, 3) := by decide +kernel
theorem dX5_when_30 : decode cX5_when 30 = .ok (.aload_n 0, 1) := by decide +kernel
theorem dX5_when_31 : decode cX5_when 31 = .ok (.ldc 41, 2) := by decide +kernel
theorem dX5_when_33 : decode cX5_when 33 = .ok (.invokevirtual 65, 3) := by decide +kernel
theorem dX5_when_36 : decode cX5_when 36 = .ok (.ireturn, 1) := by decide +kernel
def finX5_when (N : Ml) : Int32 × Mi → Option Value × Mi × Ml := fun b => (some (Value.int b.1), b.2, N)
noncomputable def fX5_when_30   (M : Mi) : Option (Int32 × Mi) := (Option.bind (fX5_finds M (-1000000001)) (fun a2 => (some (a2.1, (a2.2)))))
theorem bX5_when_30 {Z : Zt} {E : Ec} {N : Ml} (C : Ok 2 Z E cX5_when 3 RX5 (some .int) 6)    (M : Mi)  : GT Z E 3 (finX5_when N) 30 [(0, .ref (zA Z 6 0))] [] M N (fX5_when_30 M) := by
  unfold fX5_when_30
  refine r_aload_n C dX5_when_30 0 0 rfl rfl ?_
  refine r_ldc (v := (-1000000001)) C dX5_when_31 wd_859 ?_
  refine r_bind (fun a2 ha2 => ?_)
  refine r_callV (rest := []) (st2 := [.int a2.1]) C (mX5_finds (eL E) C.z M N (-1000000001) a2 ha2) lk_X5_65 (rvM C) (by decide) rfl rfl (Nat.le_of_ble_eq_true rfl) dX5_when_33 rfl ?_
  exact r_iret C dX5_when_36 rfl
noncomputable def fX5_when   (M : Mi) (x1 : Int32) (x2 : Int32) : Option (Int32 × Mi) := (if (fX5_isOne (M 0) x1) = 0 then (fX5_when_30 M) else (if (fX5_isCell x2) = 0 then (fX5_when_30 M) else (Option.bind (fX5_whenOf M x1 x2) (fun a4 => (Option.bind (fX5_orNone (a4.2) a4.1 72) (fun a5 => (some (a5.1, (a5.2)))))))))
theorem bX5_when {Z : Zt} {E : Ec} {N : Ml} (C : Ok 2 Z E cX5_when 3 RX5 (some .int) 6)    (M : Mi) (x1 : Int32) (x2 : Int32)  : GT Z E 3 (finX5_when N) 0 [(0, .ref (zA Z 6 0)), (1, .int x1), (2, .int x2)] [] M N (fX5_when M x1 x2) := by
  unfold fX5_when
  refine r_aload_n C dX5_when_0 0 0 rfl rfl ?_
  refine r_iload_n C dX5_when_1 1 1 rfl rfl ?_
  refine r_callV (rest := []) (st2 := [.int (fX5_isOne (M 0) x1)]) C (mX5_isOne (eL E) C.z M _ (M 0) x1).selfR lk_X5_54 (rvM C) (by decide) rfl rfl (Nat.le_of_ble_eq_true rfl) dX5_when_2 rfl ?_
  refine r_if_eq (tgt := 30) C dX5_when_5 (by decide) (fun c1 => ?_) (fun c1 => ?_)
  · refine r_lv [0] (lv' := [(0, .ref (zA Z 6 0))]) rfl ?_
    exact bX5_when_30 C M
  · refine r_iload_n C dX5_when_8 2 2 rfl rfl ?_
    refine r_callS (rest := []) (st2 := [.int (fX5_isCell x2)]) C (mX5_isCell (eL E) C.z _ _ x2) lk_X5_62 (by decide) rfl rfl (Nat.le_of_ble_eq_true rfl) dX5_when_9 rfl ?_
    refine r_if_eq (tgt := 30) C dX5_when_12 (by decide) (fun c3 => ?_) (fun c3 => ?_)
    · refine r_lv [0] (lv' := [(0, .ref (zA Z 6 0))]) rfl ?_
      exact bX5_when_30 C M
    · refine r_aload_n C dX5_when_15 0 0 rfl rfl ?_
      refine r_aload_n C dX5_when_16 0 0 rfl rfl ?_
      refine r_iload_n C dX5_when_17 1 1 rfl rfl ?_
      refine r_iload_n C dX5_when_18 2 2 rfl rfl ?_
      refine r_bind (fun a4 ha4 => ?_)
      refine r_callV (rest := [.ref (zA Z 6 0)]) (st2 := [.int a4.1, .ref (zA Z 6 0)]) C (mX5_whenOf (eL E) C.z M N x1 x2 a4 ha4) lk_X5_178 (rvM C) (by decide) rfl rfl (Nat.le_of_ble_eq_true rfl) dX5_when_19 rfl ?_
      refine r_bipush (v := 72) C dX5_when_22 (by decide) ?_
      refine r_bind (fun a5 ha5 => ?_)
      refine r_callV (rest := []) (st2 := [.int a5.1]) C (mX5_orNone (eL E) C.z (a4.2) N a4.1 72 a5 ha5) lk_X5_181 (rvM C) (by decide) rfl rfl (Nat.le_of_ble_eq_true rfl) dX5_when_24 rfl ?_
      refine r_goto (tgt := 36) C dX5_when_27 (by decide) ?_
      exact r_iret C dX5_when_36 rfl
theorem mX5_when (l : Launch) {Z : Zt} (hZ : Zok 2 Z) (M : Mi) (N : Ml) (x1 : Int32) (x2 : Int32) (b : Int32 × Mi) (hb : fX5_when M x1 x2 = some b) : Ct 2 Z l yX5_when cX5_when 3 (some .int) 6 [.ref (zA Z 6 0), .int x1, .int x2] M N (some (Value.int b.1), b.2, N) :=
  metG (fin := (finX5_when N)) (by decide) (Nat.le_of_ble_eq_true rfl) (fun E _ C => bX5_when C M x1 x2) hb
theorem dX5_meet_0 : decode cX5_meet 0 = .ok (.aload_n 0, 1) := by decide +kernel
theorem dX5_meet_1 : decode cX5_meet 1 = .ok (.iload_n 1, 1) := by decide +kernel
theorem dX5_meet_2 : decode cX5_meet 2 = .ok (.iload_n 2, 1) := by decide +kernel
theorem dX5_meet_3 : decode cX5_meet 3 = .ok (.invokevirtual 129, 3) := by decide +kernel
theorem dX5_meet_6 : decode cX5_meet 6 = .ok (.ifCond .ne 10, 3) := by decide +kernel
theorem dX5_meet_9 : decode cX5_meet 9 = .ok (.aload_n 0, 1) := by decide +kernel
theorem dX5_meet_10 : decode cX5_meet 10 = .ok (.ldc 41, 2) := by decide +kernel
theorem dX5_meet_12 : decode cX5_meet 12 = .ok (.invokevirtual 65, 3) := by decide +kernel
theorem dX5_meet_15 : decode cX5_meet 15 = .ok (.ireturn, 1) := by decide +kernel
theorem dX5_meet_16 : decode cX5_meet 16 = .ok (.aload_n 0, 1) := by decide +kernel
theorem dX5_meet_17 : decode cX5_meet 17 = .ok (.invokevirtual 172, 3) := by decide +kernel
theorem dX5_meet_20 : decode cX5_meet 20 = .ok (.iconst 0, 1) := by decide +kernel
theorem dX5_meet_21 : decode cX5_meet 21 = .ok (.istore_n 3, 1) := by decide +kernel
theorem dX5_meet_22 : decode cX5_meet 22 = .ok (.iload_n 3, 1) := by decide +kernel
theorem dX5_meet_23 : decode cX5_meet 23 = .ok (.bipush 72, 2) := by decide +kernel
theorem dX5_meet_25 : decode cX5_meet 25 = .ok (.if_icmp .gt 28, 3) := by decide +kernel
theorem dX5_meet_28 : decode cX5_meet 28 = .ok (.aload_n 0, 1) := by decide +kernel
theorem dX5_meet_29 : decode cX5_meet 29 = .ok (.iload_n 1, 1) := by decide +kernel
theorem dX5_meet_30 : decode cX5_meet 30 = .ok (.iconst 1, 1) := by decide +kernel
theorem dX5_meet_31 : decode cX5_meet 31 = .ok (.invokevirtual 83, 3) := by decide +kernel
theorem dX5_meet_34 : decode cX5_meet 34 = .ok (.aload_n 0, 1) := by decide +kernel
theorem dX5_meet_35 : decode cX5_meet 35 = .ok (.iload_n 2, 1) := by decide +kernel
theorem dX5_meet_36 : decode cX5_meet 36 = .ok (.iconst 1, 1) := by decide +kernel
theorem dX5_meet_37 : decode cX5_meet 37 = .ok (.invokevirtual 83, 3) := by decide +kernel
theorem dX5_meet_40 : decode cX5_meet 40 = .ok (.if_icmp .eq 13, 3) := by decide +kernel
theorem dX5_meet_43 : decode cX5_meet 43 = .ok (.aload_n 0, 1) := by decide +kernel
theorem dX5_meet_44 : decode cX5_meet 44 = .ok (.invokevirtual 155, 3) := by decide +kernel
theorem dX5_meet_47 : decode cX5_meet 47 = .ok (.iinc 3 1, 3) := by decide +kernel
theorem dX5_meet_50 : decode cX5_meet 50 = .ok (.goto (-28), 3) := by decide +kernel
theorem dX5_meet_53 : decode cX5_meet 53 = .ok (.aload_n 0, 1) := by decide +kernel
theorem dX5_meet_54 : decode cX5_meet 54 = .ok (.aload_n 0, 1) := by decide +kernel
theorem dX5_meet_55 : decode cX5_meet 55 = .ok (.iload_n 3, 1) := by decide +kernel
theorem dX5_meet_56 : decode cX5_meet 56 = .ok (.invokevirtual 175, 3) := by decide +kernel
theorem dX5_meet_59 : decode cX5_meet 59 = .ok (.bipush 72, 2) := by decide +kernel
theorem dX5_meet_61 : decode cX5_meet 61 = .ok (.invokevirtual 181, 3) := by decide +kernel
theorem dX5_meet_64 : decode cX5_meet 64 = .ok (.ireturn, 1) := by decide +kernel
def finX5_meet (N : Ml) : Int32 × Mi → Option Value × Mi × Ml := fun b => (some (Value.int b.1), b.2, N)
noncomputable def fX5_meet_53   (M : Mi) (x3 : Int32) : Option (Int32 × Mi) := (Option.bind (fX5_takesBack M x3) (fun a4 => (Option.bind (fX5_orNone (a4.2) a4.1 72) (fun a5 => (some (a5.1, (a5.2)))))))
theorem bX5_meet_53 {Z : Zt} {E : Ec} {N : Ml} (C : Ok 2 Z E cX5_meet 4 RX5 (some .int) 5)    (M : Mi) (x3 : Int32)  : GT Z E 4 (finX5_meet N) 53 [(0, .ref (zA Z 6 0)), (3, .int x3)] [] M N (fX5_meet_53 M x3) := by
  unfold fX5_meet_53
  refine r_aload_n C dX5_meet_53 0 0 rfl rfl ?_
  refine r_aload_n C dX5_meet_54 0 0 rfl rfl ?_
  refine r_iload_n C dX5_meet_55 3 1 rfl rfl ?_
  refine r_bind (fun a4 ha4 => ?_)
  refine r_callV (rest := [.ref (zA Z 6 0)]) (st2 := [.int a4.1, .ref (zA Z 6 0)]) C (mX5_takesBack (eL E) C.z M N x3 a4 ha4) lk_X5_175 (rvM C) (by decide) rfl rfl (Nat.le_of_ble_eq_true rfl) dX5_meet_56 rfl ?_
  refine r_bipush (v := 72) C dX5_meet_59 (by decide) ?_
  refine r_bind (fun a5 ha5 => ?_)
  refine r_callV (rest := []) (st2 := [.int a5.1]) C (mX5_orNone (eL E) C.z (a4.2) N a4.1 72 a5 ha5) lk_X5_181 (rvM C) (by decide) rfl rfl (Nat.le_of_ble_eq_true rfl) dX5_meet_61 rfl ?_
  exact r_iret C dX5_meet_64 rfl
noncomputable def fX5_meet_22   : Nat → Mi → Int32 → Int32 → Int32 → Option (Int32 × Mi)
  | 0 => fun _ _ _ _ => none
  | n + 1 => fun M x1 x2 x3 => (if 72 < x3 then (fX5_meet_53 M x3) else (Option.bind (fX5_its (M 0) x1 1) (fun a6 => (Option.bind (fX5_its (M 0) x2 1) (fun a7 => (if a6 = a7 then (fX5_meet_53 M x3) else (Option.bind (fX5_hour (M 0)) (fun a9 => ((fX5_meet_22 n) (sR M 0 a9) x1 x2 (x3 + 1))))))))))
theorem bX5_meet_22 {Z : Zt} {E : Ec} {N : Ml} (C : Ok 2 Z E cX5_meet 4 RX5 (some .int) 5)    : ∀ (n : Nat) (M : Mi) (x1 : Int32) (x2 : Int32) (x3 : Int32), GT Z E 4 (finX5_meet N) 22 [(0, .ref (zA Z 6 0)), (1, .int x1), (2, .int x2), (3, .int x3)] [] M N (fX5_meet_22 n M x1 x2 x3) := by
  intro n
  induction n with
  | zero => intro M x1 x2 x3; exact r_none
  | succ n ih =>
    intro M x1 x2 x3
    rw [fX5_meet_22]
    refine r_iload_n C dX5_meet_22 3 3 rfl rfl ?_
    refine r_bipush (v := 72) C dX5_meet_23 (by decide) ?_
    refine r_ic_gt (tgt := 53) C dX5_meet_25 (by decide) (fun c3 => ?_) (fun c3 => ?_)
    · refine r_lv [0, 3] (lv' := [(0, .ref (zA Z 6 0)), (3, .int x3)]) rfl ?_
      exact bX5_meet_53 C M x3
    · refine r_aload_n C dX5_meet_28 0 0 rfl rfl ?_
      refine r_iload_n C dX5_meet_29 1 1 rfl rfl ?_
      refine r_iconst (v := 1) C dX5_meet_30 (by decide) ?_
      refine r_bind (fun a6 ha6 => ?_)
      refine r_callV (rest := []) (st2 := [.int a6]) C (mX5_its (eL E) C.z M _ (M 0) x1 1 a6 ha6).selfR lk_X5_83 (rvM C) (by decide) rfl rfl (Nat.le_of_ble_eq_true rfl) dX5_meet_31 rfl ?_
      refine r_aload_n C dX5_meet_34 0 0 rfl rfl ?_
      refine r_iload_n C dX5_meet_35 2 2 rfl rfl ?_
      refine r_iconst (v := 1) C dX5_meet_36 (by decide) ?_
      refine r_bind (fun a7 ha7 => ?_)
      refine r_callV (rest := [.int a6]) (st2 := [.int a7, .int a6]) C (mX5_its (eL E) C.z M _ (M 0) x2 1 a7 ha7).selfR lk_X5_83 (rvM C) (by decide) rfl rfl (Nat.le_of_ble_eq_true rfl) dX5_meet_37 rfl ?_
      refine r_ic_eq (tgt := 53) C dX5_meet_40 (by decide) (fun c8 => ?_) (fun c8 => ?_)
      · refine r_lv [0, 3] (lv' := [(0, .ref (zA Z 6 0)), (3, .int x3)]) rfl ?_
        exact bX5_meet_53 C M x3
      · refine r_aload_n C dX5_meet_43 0 0 rfl rfl ?_
        refine r_bind (fun a9 ha9 => ?_)
        refine r_callV (rest := []) (st2 := []) C (mX5_hour (eL E) C.z M _ (M 0) a9 ha9).selfW lk_X5_155 (rvM C) (by decide) rfl rfl (Nat.le_of_ble_eq_true rfl) dX5_meet_44 rfl ?_
        refine r_iinc (v := (x3 + 1)) (lv' := [(3, .int (x3 + 1)), (0, .ref (zA Z 6 0)), (1, .int x1), (2, .int x2)]) C dX5_meet_47 3 rfl rfl (by decide) rfl ?_
        refine r_goto (tgt := 22) C dX5_meet_50 (by decide) ?_
        refine r_lv [1, 2, 3, 0] (lv' := [(0, .ref (zA Z 6 0)), (1, .int x1), (2, .int x2), (3, .int (x3 + 1))]) rfl ?_
        exact ih (sR M 0 a9) x1 x2 (x3 + 1)
noncomputable def fX5_meet   (M : Mi) (x1 : Int32) (x2 : Int32) : Option (Int32 × Mi) := (if (fX5_areTwo (M 0) x1 x2) = 0 then (Option.bind (fX5_finds M (-1000000001)) (fun a10 => (some (a10.1, (a10.2))))) else (Option.bind (fX5_laysAside M) (fun a2 => (fX5_meet_22 fu a2 x1 x2 0))))
theorem bX5_meet {Z : Zt} {E : Ec} {N : Ml} (C : Ok 2 Z E cX5_meet 4 RX5 (some .int) 5)    (M : Mi) (x1 : Int32) (x2 : Int32)  : GT Z E 4 (finX5_meet N) 0 [(0, .ref (zA Z 6 0)), (1, .int x1), (2, .int x2)] [] M N (fX5_meet M x1 x2) := by
  unfold fX5_meet
  refine r_aload_n C dX5_meet_0 0 0 rfl rfl ?_
  refine r_iload_n C dX5_meet_1 1 1 rfl rfl ?_
  refine r_iload_n C dX5_meet_2 2 2 rfl rfl ?_
  refine r_callV (rest := []) (st2 := [.int (fX5_areTwo (M 0) x1 x2)]) C (mX5_areTwo (eL E) C.z M _ (M 0) x1 x2).selfR lk_X5_129 (rvM C) (by decide) rfl rfl (Nat.le_of_ble_eq_true rfl) dX5_meet_3 rfl ?_
  refine r_if_ne (tgt := 16) C dX5_meet_6 (by decide) (fun c1 => ?_) (fun c1 => ?_)
  · refine r_aload_n C dX5_meet_16 0 0 rfl rfl ?_
    refine r_bind (fun a2 ha2 => ?_)
    refine r_callV (rest := []) (st2 := []) C (mX5_laysAside (eL E) C.z M N a2 ha2) lk_X5_172 (rvM C) (by decide) rfl rfl (Nat.le_of_ble_eq_true rfl) dX5_meet_17 rfl ?_
    refine r_iconst (v := 0) C dX5_meet_20 (by decide) ?_
    refine r_istore_n (lv' := [(3, .int 0), (0, .ref (zA Z 6 0)), (1, .int x1), (2, .int x2)]) C dX5_meet_21 3 rfl (by decide) rfl ?_
    refine r_lv [1, 2, 3, 0] (lv' := [(0, .ref (zA Z 6 0)), (1, .int x1), (2, .int x2), (3, .int 0)]) rfl ?_
    exact bX5_meet_22 C fu a2 x1 x2 0
  · refine r_aload_n C dX5_meet_9 0 0 rfl rfl ?_
    refine r_ldc (v := (-1000000001)) C dX5_meet_10 wd_859 ?_
    refine r_bind (fun a10 ha10 => ?_)
    refine r_callV (rest := []) (st2 := [.int a10.1]) C (mX5_finds (eL E) C.z M N (-1000000001) a10 ha10) lk_X5_65 (rvM C) (by decide) rfl rfl (Nat.le_of_ble_eq_true rfl) dX5_meet_12 rfl ?_
    exact r_iret C dX5_meet_15 rfl
theorem mX5_meet (l : Launch) {Z : Zt} (hZ : Zok 2 Z) (M : Mi) (N : Ml) (x1 : Int32) (x2 : Int32) (b : Int32 × Mi) (hb : fX5_meet M x1 x2 = some b) : Ct 2 Z l yX5_meet cX5_meet 4 (some .int) 5 [.ref (zA Z 6 0), .int x1, .int x2] M N (some (Value.int b.1), b.2, N) :=
  metG (fin := (finX5_meet N)) (by decide) (Nat.le_of_ble_eq_true rfl) (fun E _ C => bX5_meet C M x1 x2) hb
theorem dX5_carriers_0 : decode cX5_carriers 0 = .ok (.iconst 0, 1) := by decide +kernel
theorem dX5_carriers_1 : decode cX5_carriers 1 = .ok (.istore_n 2, 1) := by decide +kernel
theorem dX5_carriers_2 : decode cX5_carriers 2 = .ok (.iconst 0, 1) := by decide +kernel
theorem dX5_carriers_3 : decode cX5_carriers 3 = .ok (.istore_n 3, 1) := by decide +kernel
theorem dX5_carriers_4 : decode cX5_carriers 4 = .ok (.iload_n 3, 1) := by decide +kernel
theorem dX5_carriers_5 : decode cX5_carriers 5 = .ok (.aload_n 0, 1) := by decide +kernel
theorem dX5_carriers_6 : decode cX5_carriers 6 = .ok (.getfield 7, 3) := by decide +kernel
theorem dX5_carriers_9 : decode cX5_carriers 9 = .ok (.iconst 1, 1) := by decide +kernel
theorem dX5_carriers_10 : decode cX5_carriers 10 = .ok (.iaload, 1) := by decide +kernel
theorem dX5_carriers_11 : decode cX5_carriers 11 = .ok (.if_icmp .ge 24, 3) := by decide +kernel
theorem dX5_carriers_14 : decode cX5_carriers 14 = .ok (.iload_n 2, 1) := by decide +kernel
theorem dX5_carriers_15 : decode cX5_carriers 15 = .ok (.aload_n 0, 1) := by decide +kernel
theorem dX5_carriers_16 : decode cX5_carriers 16 = .ok (.iload_n 3, 1) := by decide +kernel
theorem dX5_carriers_17 : decode cX5_carriers 17 = .ok (.iconst 2, 1) := by decide +kernel
theorem dX5_carriers_18 : decode cX5_carriers 18 = .ok (.invokevirtual 83, 3) := by decide +kernel
theorem dX5_carriers_21 : decode cX5_carriers 21 = .ok (.iload_n 1, 1) := by decide +kernel
theorem dX5_carriers_22 : decode cX5_carriers 22 = .ok (.ishr, 1) := by decide +kernel
theorem dX5_carriers_23 : decode cX5_carriers 23 = .ok (.iconst 1, 1) := by decide +kernel
theorem dX5_carriers_24 : decode cX5_carriers 24 = .ok (.iand, 1) := by decide +kernel
theorem dX5_carriers_25 : decode cX5_carriers 25 = .ok (.iload_n 3, 1) := by decide +kernel
theorem dX5_carriers_26 : decode cX5_carriers 26 = .ok (.ishl, 1) := by decide +kernel
theorem dX5_carriers_27 : decode cX5_carriers 27 = .ok (.ior, 1) := by decide +kernel
theorem dX5_carriers_28 : decode cX5_carriers 28 = .ok (.istore_n 2, 1) := by decide +kernel
theorem dX5_carriers_29 : decode cX5_carriers 29 = .ok (.iinc 3 1, 3) := by decide +kernel
theorem dX5_carriers_32 : decode cX5_carriers 32 = .ok (.goto (-28), 3) := by decide +kernel
theorem dX5_carriers_35 : decode cX5_carriers 35 = .ok (.iload_n 2, 1) := by decide +kernel
theorem dX5_carriers_36 : decode cX5_carriers 36 = .ok (.ireturn, 1) := by decide +kernel
def finX5_carriers (M0 : Mi) (σ : Nat → Int32) (N : Ml) : Int32 → Option Value × Mi × Ml := fun b => (some (Value.int b), sR M0 0 σ, N)
noncomputable def fX5_carriers_4 (σ : Nat → Int32)  : Nat → Int32 → Int32 → Int32 → Option (Int32)
  | 0 => fun _ _ _ => none
  | n + 1 => fun x1 x2 x3 => (if (σ 1) ≤ x3 then (some x2) else (Option.bind (fX5_its σ x3 2) (fun a2 => ((fX5_carriers_4 σ n) x1 (x2 ||| (((a2 >>> (x1 &&& 31)) &&& 1) <<< (x3 &&& 31))) (x3 + 1)))))
theorem bX5_carriers_4 {Z : Zt} {E : Ec} {M0 : Mi} {σ : Nat → Int32} {N : Ml} (C : Ok 2 Z E cX5_carriers 4 RX5 (some .int) 2)    : ∀ (n : Nat) (x1 : Int32) (x2 : Int32) (x3 : Int32), GT Z E 4 (finX5_carriers M0 σ N) 4 [(0, .ref (zA Z 6 0)), (1, .int x1), (2, .int x2), (3, .int x3)] [] (sR M0 0 σ) N (fX5_carriers_4 σ n x1 x2 x3) := by
  intro n
  induction n with
  | zero => intro x1 x2 x3; exact r_none
  | succ n ih =>
    intro x1 x2 x3
    rw [fX5_carriers_4]
    refine r_iload_n C dX5_carriers_4 3 3 rfl rfl ?_
    refine r_aload_n C dX5_carriers_5 0 0 rfl rfl ?_
    refine gf_X5_7 C dX5_carriers_6 ?_
    refine r_iconst (v := 1) C dX5_carriers_9 (by decide) ?_
    refine ald_M (v := (σ 1)) C mI_0 (by decide) (sR_at _ _ _ _) dX5_carriers_10 ?_
    refine r_ic_ge (tgt := 35) C dX5_carriers_11 (by decide) (fun c1 => ?_) (fun c1 => ?_)
    · refine r_iload_n C dX5_carriers_35 2 2 rfl rfl ?_
      exact r_iret C dX5_carriers_36 rfl
    · refine r_iload_n C dX5_carriers_14 2 2 rfl rfl ?_
      refine r_aload_n C dX5_carriers_15 0 0 rfl rfl ?_
      refine r_iload_n C dX5_carriers_16 3 3 rfl rfl ?_
      refine r_iconst (v := 2) C dX5_carriers_17 (by decide) ?_
      refine r_bind (fun a2 ha2 => ?_)
      refine r_callV (rest := [.int x2]) (st2 := [.int a2, .int x2]) C (mX5_its (eL E) C.z _ _ σ x3 2 a2 ha2) lk_X5_83 (rvM C) (by decide) rfl rfl (Nat.le_of_ble_eq_true rfl) dX5_carriers_18 rfl ?_
      refine r_iload_n C dX5_carriers_21 1 1 rfl rfl ?_
      refine r_ishr C dX5_carriers_22 ?_
      refine r_iconst (v := 1) C dX5_carriers_23 (by decide) ?_
      refine r_iand C dX5_carriers_24 ?_
      refine r_iload_n C dX5_carriers_25 3 3 rfl rfl ?_
      refine r_ishl C dX5_carriers_26 ?_
      refine r_ior C dX5_carriers_27 ?_
      refine r_istore_n (lv' := [(2, .int (x2 ||| (((a2 >>> (x1 &&& 31)) &&& 1) <<< (x3 &&& 31)))), (0, .ref (zA Z 6 0)), (1, .int x1), (3, .int x3)]) C dX5_carriers_28 2 rfl (by decide) rfl ?_
      refine r_iinc (v := (x3 + 1)) (lv' := [(3, .int (x3 + 1)), (2, .int (x2 ||| (((a2 >>> (x1 &&& 31)) &&& 1) <<< (x3 &&& 31)))), (0, .ref (zA Z 6 0)), (1, .int x1)]) C dX5_carriers_29 3 rfl rfl (by decide) rfl ?_
      refine r_goto (tgt := 4) C dX5_carriers_32 (by decide) ?_
      refine r_lv [2, 3, 1, 0] (lv' := [(0, .ref (zA Z 6 0)), (1, .int x1), (2, .int (x2 ||| (((a2 >>> (x1 &&& 31)) &&& 1) <<< (x3 &&& 31)))), (3, .int (x3 + 1))]) rfl ?_
      exact ih x1 (x2 ||| (((a2 >>> (x1 &&& 31)) &&& 1) <<< (x3 &&& 31))) (x3 + 1)
noncomputable def fX5_carriers (σ : Nat → Int32)  (x1 : Int32) : Option (Int32) := (fX5_carriers_4 σ fu x1 0 0)
theorem bX5_carriers {Z : Zt} {E : Ec} {M0 : Mi} {σ : Nat → Int32} {N : Ml} (C : Ok 2 Z E cX5_carriers 4 RX5 (some .int) 2)    (x1 : Int32)  : GT Z E 4 (finX5_carriers M0 σ N) 0 [(0, .ref (zA Z 6 0)), (1, .int x1)] [] (sR M0 0 σ) N (fX5_carriers σ x1) := by
  unfold fX5_carriers
  refine r_iconst (v := 0) C dX5_carriers_0 (by decide) ?_
  refine r_istore_n (lv' := [(2, .int 0), (0, .ref (zA Z 6 0)), (1, .int x1)]) C dX5_carriers_1 2 rfl (by decide) rfl ?_
  refine r_iconst (v := 0) C dX5_carriers_2 (by decide) ?_
  refine r_istore_n (lv' := [(3, .int 0), (2, .int 0), (0, .ref (zA Z 6 0)), (1, .int x1)]) C dX5_carriers_3 3 rfl (by decide) rfl ?_
  refine r_lv [2, 3, 1, 0] (lv' := [(0, .ref (zA Z 6 0)), (1, .int x1), (2, .int 0), (3, .int 0)]) rfl ?_
  exact bX5_carriers_4 C fu x1 0 0
theorem mX5_carriers (l : Launch) {Z : Zt} (hZ : Zok 2 Z) (M0 : Mi) (N : Ml) (σ : Nat → Int32) (x1 : Int32) (b : Int32) (hb : fX5_carriers σ x1 = some b) : Ct 2 Z l yX5_carriers cX5_carriers 4 (some .int) 2 [.ref (zA Z 6 0), .int x1] (sR M0 0 σ) N (some (Value.int b), sR M0 0 σ, N) :=
  metG (fin := (finX5_carriers M0 σ N)) (by decide) (Nat.le_of_ble_eq_true rfl) (fun E _ C => bX5_carriers C x1) hb
theorem dX5_carries_0 : decode cX5_carries 0 = .ok (.iload_n 1, 1) := by decide +kernel
theorem dX5_carries_1 : decode cX5_carries 1 = .ok (.invokestatic 133, 3) := by decide +kernel
theorem dX5_carries_4 : decode cX5_carries 4 = .ok (.ifCond .eq 15, 3) := by decide +kernel
theorem dX5_carries_7 : decode cX5_carries 7 = .ok (.iload_n 2, 1) := by decide +kernel
theorem dX5_carries_8 : decode cX5_carries 8 = .ok (.i2l, 1) := by decide +kernel
theorem dX5_carries_9 : decode cX5_carries 9 = .ok (.lconst 0, 1) := by decide +kernel
theorem dX5_carries_10 : decode cX5_carries 10 = .ok (.ldc2_w 158, 3) := by decide +kernel
theorem dX5_carries_13 : decode cX5_carries 13 = .ok (.invokestatic 44, 3) := by decide +kernel
theorem dX5_carries_16 : decode cX5_carries 16 = .ok (.ifCond .ne 10, 3) := by decide +kernel
theorem dX5_carries_19 : decode cX5_carries 19 = .ok (.aload_n 0, 1) := by decide +kernel
theorem dX5_carries_20 : decode cX5_carries 20 = .ok (.ldc 41, 2) := by decide +kernel
theorem dX5_carries_22 : decode cX5_carries 22 = .ok (.invokevirtual 65, 3) := by decide +kernel
theorem dX5_carries_25 : decode cX5_carries 25 = .ok (.ireturn, 1) := by decide +kernel
theorem dX5_carries_26 : decode cX5_carries 26 = .ok (.aload_n 0, 1) := by decide +kernel
theorem dX5_carries_27 : decode cX5_carries 27 = .ok (.invokevirtual 172, 3) := by decide +kernel
theorem dX5_carries_30 : decode cX5_carries 30 = .ok (.aload_n 0, 1) := by decide +kernel
theorem dX5_carries_31 : decode cX5_carries 31 = .ok (.iload_n 2, 1) := by decide +kernel
theorem dX5_carries_32 : decode cX5_carries 32 = .ok (.invokevirtual 160, 3) := by decide +kernel
theorem dX5_carries_35 : decode cX5_carries 35 = .ok (.aload_n 0, 1) := by decide +kernel
theorem dX5_carries_36 : decode cX5_carries 36 = .ok (.aload_n 0, 1) := by decide +kernel
theorem dX5_carries_37 : decode cX5_carries 37 = .ok (.iload_n 1, 1) := by decide +kernel
theorem dX5_carries_38 : decode cX5_carries 38 = .ok (.invokevirtual 184, 3) := by decide +kernel
theorem dX5_carries_41 : decode cX5_carries 41 = .ok (.invokevirtual 175, 3) := by decide +kernel
theorem dX5_carries_44 : decode cX5_carries 44 = .ok (.ireturn, 1) := by decide +kernel
def finX5_carries (N : Ml) : Int32 × Mi → Option Value × Mi × Ml := fun b => (some (Value.int b.1), b.2, N)
noncomputable def fX5_carries_19   (M : Mi) : Option (Int32 × Mi) := (Option.bind (fX5_finds M (-1000000001)) (fun a2 => (some (a2.1, (a2.2)))))
theorem bX5_carries_19 {Z : Zt} {E : Ec} {N : Ml} (C : Ok 2 Z E cX5_carries 3 RX5 (some .int) 6)    (M : Mi)  : GT Z E 3 (finX5_carries N) 19 [(0, .ref (zA Z 6 0))] [] M N (fX5_carries_19 M) := by
  unfold fX5_carries_19
  refine r_aload_n C dX5_carries_19 0 0 rfl rfl ?_
  refine r_ldc (v := (-1000000001)) C dX5_carries_20 wd_859 ?_
  refine r_bind (fun a2 ha2 => ?_)
  refine r_callV (rest := []) (st2 := [.int a2.1]) C (mX5_finds (eL E) C.z M N (-1000000001) a2 ha2) lk_X5_65 (rvM C) (by decide) rfl rfl (Nat.le_of_ble_eq_true rfl) dX5_carries_22 rfl ?_
  exact r_iret C dX5_carries_25 rfl
noncomputable def fX5_carries   (M : Mi) (x1 : Int32) (x2 : Int32) : Option (Int32 × Mi) := (if (fX5_isSubject x1) = 0 then (fX5_carries_19 M) else (if (fX5_in (Int32.toInt64 x2) 0 72) = 0 then (fX5_carries_19 M) else (Option.bind (fX5_laysAside M) (fun a4 => (Option.bind (fX5_go (a4 0) x2) (fun a5 => (Option.bind (fX5_carriers a5 x1) (fun a6 => (Option.bind (fX5_takesBack (sR a4 0 a5) a6) (fun a7 => (some (a7.1, (a7.2)))))))))))))
theorem bX5_carries {Z : Zt} {E : Ec} {N : Ml} (C : Ok 2 Z E cX5_carries 3 RX5 (some .int) 6)    (M : Mi) (x1 : Int32) (x2 : Int32)  : GT Z E 3 (finX5_carries N) 0 [(0, .ref (zA Z 6 0)), (1, .int x1), (2, .int x2)] [] M N (fX5_carries M x1 x2) := by
  unfold fX5_carries
  refine r_iload_n C dX5_carries_0 1 1 rfl rfl ?_
  refine r_callS (rest := []) (st2 := [.int (fX5_isSubject x1)]) C (mX5_isSubject (eL E) C.z _ _ x1) lk_X5_133 (by decide) rfl rfl (Nat.le_of_ble_eq_true rfl) dX5_carries_1 rfl ?_
  refine r_if_eq (tgt := 19) C dX5_carries_4 (by decide) (fun c1 => ?_) (fun c1 => ?_)
  · refine r_lv [0] (lv' := [(0, .ref (zA Z 6 0))]) rfl ?_
    exact bX5_carries_19 C M
  · refine r_iload_n C dX5_carries_7 2 2 rfl rfl ?_
    refine r_i2l C dX5_carries_8 ?_
    refine r_lconst (v := 0) C dX5_carries_9 (by decide) ?_
    refine r_ldc2 (v := 72) C dX5_carries_10 wd_990 ?_
    refine r_callS (rest := []) (st2 := [.int (fX5_in (Int32.toInt64 x2) 0 72)]) C (mX5_in (eL E) C.z _ _ (Int32.toInt64 x2) 0 72) lk_X5_44 (by decide) rfl rfl (Nat.le_of_ble_eq_true rfl) dX5_carries_13 rfl ?_
    refine r_if_ne (tgt := 26) C dX5_carries_16 (by decide) (fun c3 => ?_) (fun c3 => ?_)
    · refine r_aload_n C dX5_carries_26 0 0 rfl rfl ?_
      refine r_bind (fun a4 ha4 => ?_)
      refine r_callV (rest := []) (st2 := []) C (mX5_laysAside (eL E) C.z M N a4 ha4) lk_X5_172 (rvM C) (by decide) rfl rfl (Nat.le_of_ble_eq_true rfl) dX5_carries_27 rfl ?_
      refine r_aload_n C dX5_carries_30 0 0 rfl rfl ?_
      refine r_iload_n C dX5_carries_31 2 2 rfl rfl ?_
      refine r_bind (fun a5 ha5 => ?_)
      refine r_callV (rest := []) (st2 := []) C (mX5_go (eL E) C.z a4 _ (a4 0) x2 a5 ha5).selfW lk_X5_160 (rvM C) (by decide) rfl rfl (Nat.le_of_ble_eq_true rfl) dX5_carries_32 rfl ?_
      refine r_aload_n C dX5_carries_35 0 0 rfl rfl ?_
      refine r_aload_n C dX5_carries_36 0 0 rfl rfl ?_
      refine r_iload_n C dX5_carries_37 1 1 rfl rfl ?_
      refine r_bind (fun a6 ha6 => ?_)
      refine r_callV (rest := [.ref (zA Z 6 0)]) (st2 := [.int a6, .ref (zA Z 6 0)]) C (mX5_carriers (eL E) C.z a4 _ a5 x1 a6 ha6) lk_X5_184 (rvM C) (by decide) rfl rfl (Nat.le_of_ble_eq_true rfl) dX5_carries_38 rfl ?_
      refine r_bind (fun a7 ha7 => ?_)
      refine r_callV (rest := []) (st2 := [.int a7.1]) C (mX5_takesBack (eL E) C.z (sR a4 0 a5) N a6 a7 ha7) lk_X5_175 (rvM C) (by decide) rfl rfl (Nat.le_of_ble_eq_true rfl) dX5_carries_41 rfl ?_
      exact r_iret C dX5_carries_44 rfl
    · refine r_lv [0] (lv' := [(0, .ref (zA Z 6 0))]) rfl ?_
      exact bX5_carries_19 C M
theorem mX5_carries (l : Launch) {Z : Zt} (hZ : Zok 2 Z) (M : Mi) (N : Ml) (x1 : Int32) (x2 : Int32) (b : Int32 × Mi) (hb : fX5_carries M x1 x2 = some b) : Ct 2 Z l yX5_carries cX5_carries 3 (some .int) 6 [.ref (zA Z 6 0), .int x1, .int x2] M N (some (Value.int b.1), b.2, N) :=
  metG (fin := (finX5_carries N)) (by decide) (Nat.le_of_ble_eq_true rfl) (fun E _ C => bX5_carries C M x1 x2) hb
theorem dX5_open_0 : decode cX5_open 0 = .ok (.ldc 187, 2) := by decide +kernel
theorem dX5_open_2 : decode cX5_open 2 = .ok (.aload_n 0, 1) := by decide +kernel
theorem dX5_open_3 : decode cX5_open 3 = .ok (.getfield 7, 3) := by decide +kernel
theorem dX5_open_6 : decode cX5_open 6 = .ok (.iconst 2, 1) := by decide +kernel
theorem dX5_open_7 : decode cX5_open 7 = .ok (.iaload, 1) := by decide +kernel
theorem dX5_open_8 : decode cX5_open 8 = .ok (.iconst (-1), 1) := by decide +kernel
theorem dX5_open_9 : decode cX5_open 9 = .ok (.ixor, 1) := by decide +kernel
theorem dX5_open_10 : decode cX5_open 10 = .ok (.iand, 1) := by decide +kernel
theorem dX5_open_11 : decode cX5_open 11 = .ok (.ireturn, 1) := by decide +kernel
def finX5_open (M0 : Mi) (σ : Nat → Int32) (N : Ml) : Int32 → Option Value × Mi × Ml := fun b => (some (Value.int b), sR M0 0 σ, N)
noncomputable def fX5_open (σ : Nat → Int32)   : Int32 := (1073741823 &&& ((σ 2) ^^^ (-1)))
theorem bX5_open {Z : Zt} {E : Ec} {M0 : Mi} {σ : Nat → Int32} {N : Ml} (C : Ok 2 Z E cX5_open 1 RX5 (some .int) 0)      : GT Z E 1 (finX5_open M0 σ N) 0 [(0, .ref (zA Z 6 0))] [] (sR M0 0 σ) N (some (fX5_open σ )) := by
  unfold fX5_open
  refine r_ldc (v := 1073741823) C dX5_open_0 wd_1090 ?_
  refine r_aload_n C dX5_open_2 0 0 rfl rfl ?_
  refine gf_X5_7 C dX5_open_3 ?_
  refine r_iconst (v := 2) C dX5_open_6 (by decide) ?_
  refine ald_M (v := (σ 2)) C mI_0 (by decide) (sR_at _ _ _ _) dX5_open_7 ?_
  refine r_iconst (v := (-1)) C dX5_open_8 (by decide) ?_
  refine r_ixor C dX5_open_9 ?_
  refine r_iand C dX5_open_10 ?_
  exact r_iret C dX5_open_11 rfl
theorem mX5_open (l : Launch) {Z : Zt} (hZ : Zok 2 Z) (M0 : Mi) (N : Ml) (σ : Nat → Int32) : Ct 2 Z l yX5_open cX5_open 1 (some .int) 0 [.ref (zA Z 6 0)] (sR M0 0 σ) N (some (Value.int (fX5_open σ)), sR M0 0 σ, N) :=
  metG (fin := (finX5_open M0 σ N)) (by decide) (Nat.le_of_ble_eq_true rfl) (fun E _ C => bX5_open C) rfl
theorem dX5_spread_0 : decode cX5_spread 0 = .ok (.iload_n 1, 1) := by decide +kernel
theorem dX5_spread_1 : decode cX5_spread 1 = .ok (.istore_n 2, 1) := by decide +kernel
theorem dX5_spread_2 : decode cX5_spread 2 = .ok (.iconst 0, 1) := by decide +kernel
theorem dX5_spread_3 : decode cX5_spread 3 = .ok (.istore_n 3, 1) := by decide +kernel
theorem dX5_spread_4 : decode cX5_spread 4 = .ok (.iload_n 3, 1) := by decide +kernel
theorem dX5_spread_5 : decode cX5_spread 5 = .ok (.bipush 30, 2) := by decide +kernel
theorem dX5_spread_7 : decode cX5_spread 7 = .ok (.if_icmp .ge 95, 3) := by decide +kernel
theorem dX5_spread_10 : decode cX5_spread 10 = .ok (.iload_n 1, 1) := by decide +kernel
theorem dX5_spread_11 : decode cX5_spread 11 = .ok (.iload_n 3, 1) := by decide +kernel
theorem dX5_spread_12 : decode cX5_spread 12 = .ok (.ishr, 1) := by decide +kernel
theorem dX5_spread_13 : decode cX5_spread 13 = .ok (.iconst 1, 1) := by decide +kernel
theorem dX5_spread_14 : decode cX5_spread 14 = .ok (.iand, 1) := by decide +kernel
theorem dX5_spread_15 : decode cX5_spread 15 = .ok (.iconst 1, 1) := by decide +kernel
theorem dX5_spread_16 : decode cX5_spread 16 = .ok (.if_icmp .ne 80, 3) := by decide +kernel
theorem dX5_spread_19 : decode cX5_spread 19 = .ok (.iload_n 2, 1) := by decide +kernel
theorem dX5_spread_20 : decode cX5_spread 20 = .ok (.iload_n 3, 1) := by decide +kernel
theorem dX5_spread_21 : decode cX5_spread 21 = .ok (.bipush 6, 2) := by decide +kernel
theorem dX5_spread_23 : decode cX5_spread 23 = .ok (.irem, 1) := by decide +kernel
theorem dX5_spread_24 : decode cX5_spread 24 = .ok (.ifCond .le 11, 3) := by decide +kernel
theorem dX5_spread_27 : decode cX5_spread 27 = .ok (.iconst 1, 1) := by decide +kernel
theorem dX5_spread_28 : decode cX5_spread 28 = .ok (.iload_n 3, 1) := by decide +kernel
theorem dX5_spread_29 : decode cX5_spread 29 = .ok (.iconst 1, 1) := by decide +kernel
theorem dX5_spread_30 : decode cX5_spread 30 = .ok (.isub, 1) := by decide +kernel
theorem dX5_spread_31 : decode cX5_spread 31 = .ok (.ishl, 1) := by decide +kernel
theorem dX5_spread_32 : decode cX5_spread 32 = .ok (.goto 4, 3) := by decide +kernel
theorem dX5_spread_35 : decode cX5_spread 35 = .ok (.iconst 0, 1) := by decide +kernel
theorem dX5_spread_36 : decode cX5_spread 36 = .ok (.ior, 1) := by decide +kernel
theorem dX5_spread_37 : decode cX5_spread 37 = .ok (.istore_n 2, 1) := by decide +kernel
theorem dX5_spread_38 : decode cX5_spread 38 = .ok (.iload_n 2, 1) := by decide +kernel
theorem dX5_spread_39 : decode cX5_spread 39 = .ok (.iload_n 3, 1) := by decide +kernel
theorem dX5_spread_40 : decode cX5_spread 40 = .ok (.bipush 6, 2) := by decide +kernel
theorem dX5_spread_42 : decode cX5_spread 42 = .ok (.irem, 1) := by decide +kernel
theorem dX5_spread_43 : decode cX5_spread 43 = .ok (.iconst 5, 1) := by decide +kernel
theorem dX5_spread_44 : decode cX5_spread 44 = .ok (.if_icmp .ge 11, 3) := by decide +kernel
theorem dX5_spread_47 : decode cX5_spread 47 = .ok (.iconst 1, 1) := by decide +kernel
theorem dX5_spread_48 : decode cX5_spread 48 = .ok (.iload_n 3, 1) := by decide +kernel
theorem dX5_spread_49 : decode cX5_spread 49 = .ok (.iconst 1, 1) := by decide +kernel
theorem dX5_spread_50 : decode cX5_spread 50 = .ok (.iadd, 1) := by decide +kernel
theorem dX5_spread_51 : decode cX5_spread 51 = .ok (.ishl, 1) := by decide +kernel
theorem dX5_spread_52 : decode cX5_spread 52 = .ok (.goto 4, 3) := by decide +kernel
theorem dX5_spread_55 : decode cX5_spread 55 = .ok (.iconst 0, 1) := by decide +kernel
theorem dX5_spread_56 : decode cX5_spread 56 = .ok (.ior, 1) := by decide +kernel
theorem dX5_spread_57 : decode cX5_spread 57 = .ok (.istore_n 2, 1) := by decide +kernel
theorem dX5_spread_58 : decode cX5_spread 58 = .ok (.iload_n 2, 1) := by decide +kernel
theorem dX5_spread_59 : decode cX5_spread 59 = .ok (.iload_n 3, 1) := by decide +kernel
theorem dX5_spread_60 : decode cX5_spread 60 = .ok (.bipush 6, 2) := by decide +kernel
theorem dX5_spread_62 : decode cX5_spread 62 = .ok (.if_icmp .lt 12, 3) := by decide +kernel
theorem dX5_spread_65 : decode cX5_spread 65 = .ok (.iconst 1, 1) := by decide +kernel
theorem dX5_spread_66 : decode cX5_spread 66 = .ok (.iload_n 3, 1) := by decide +kernel
theorem dX5_spread_67 : decode cX5_spread 67 = .ok (.bipush 6, 2) := by decide +kernel
theorem dX5_spread_69 : decode cX5_spread 69 = .ok (.isub, 1) := by decide +kernel
theorem dX5_spread_70 : decode cX5_spread 70 = .ok (.ishl, 1) := by decide +kernel
theorem dX5_spread_71 : decode cX5_spread 71 = .ok (.goto 4, 3) := by decide +kernel
theorem dX5_spread_74 : decode cX5_spread 74 = .ok (.iconst 0, 1) := by decide +kernel
theorem dX5_spread_75 : decode cX5_spread 75 = .ok (.ior, 1) := by decide +kernel
theorem dX5_spread_76 : decode cX5_spread 76 = .ok (.istore_n 2, 1) := by decide +kernel
theorem dX5_spread_77 : decode cX5_spread 77 = .ok (.iload_n 2, 1) := by decide +kernel
theorem dX5_spread_78 : decode cX5_spread 78 = .ok (.iload_n 3, 1) := by decide +kernel
theorem dX5_spread_79 : decode cX5_spread 79 = .ok (.bipush 24, 2) := by decide +kernel
theorem dX5_spread_81 : decode cX5_spread 81 = .ok (.if_icmp .ge 12, 3) := by decide +kernel
theorem dX5_spread_84 : decode cX5_spread 84 = .ok (.iconst 1, 1) := by decide +kernel
theorem dX5_spread_85 : decode cX5_spread 85 = .ok (.iload_n 3, 1) := by decide +kernel
theorem dX5_spread_86 : decode cX5_spread 86 = .ok (.bipush 6, 2) := by decide +kernel
theorem dX5_spread_88 : decode cX5_spread 88 = .ok (.iadd, 1) := by decide +kernel
theorem dX5_spread_89 : decode cX5_spread 89 = .ok (.ishl, 1) := by decide +kernel
theorem dX5_spread_90 : decode cX5_spread 90 = .ok (.goto 4, 3) := by decide +kernel
theorem dX5_spread_93 : decode cX5_spread 93 = .ok (.iconst 0, 1) := by decide +kernel
theorem dX5_spread_94 : decode cX5_spread 94 = .ok (.ior, 1) := by decide +kernel
theorem dX5_spread_95 : decode cX5_spread 95 = .ok (.istore_n 2, 1) := by decide +kernel
theorem dX5_spread_96 : decode cX5_spread 96 = .ok (.iinc 3 1, 3) := by decide +kernel
theorem dX5_spread_99 : decode cX5_spread 99 = .ok (.goto (-95), 3) := by decide +kernel
theorem dX5_spread_102 : decode cX5_spread 102 = .ok (.iload_n 2, 1) := by decide +kernel
theorem dX5_spread_103 : decode cX5_spread 103 = .ok (.aload_n 0, 1) := by decide +kernel
theorem dX5_spread_104 : decode cX5_spread 104 = .ok (.invokevirtual 188, 3) := by decide +kernel
theorem dX5_spread_107 : decode cX5_spread 107 = .ok (.iand, 1) := by decide +kernel
theorem dX5_spread_108 : decode cX5_spread 108 = .ok (.ireturn, 1) := by decide +kernel
def finX5_spread (M0 : Mi) (σ : Nat → Int32) (N : Ml) : Int32 → Option Value × Mi × Ml := fun b => (some (Value.int b), sR M0 0 σ, N)
noncomputable def fX5_spread_75 (σ : Nat → Int32) (r4 : Int32 → Int32 → Int32 → Option (Int32)) (x1 : Int32) (x3 : Int32) (s0 : Int32) (s1 : Int32) : Option (Int32) := (r4 x1 ((s1 ||| s0) ||| (if 24 ≤ x3 then 0 else (1 <<< ((x3 + 6) &&& 31)) : Int32)) (x3 + 1))
theorem bX5_spread_75 {Z : Zt} {E : Ec} {M0 : Mi} {σ : Nat → Int32} {N : Ml} (C : Ok 2 Z E cX5_spread 4 RX5 (some .int) 1)  (r4 : Int32 → Int32 → Int32 → Option (Int32)) (hr4 : ∀ (x1 : Int32) (x2 : Int32) (x3 : Int32), GT Z E 4 (finX5_spread M0 σ N) 4 [(0, .ref (zA Z 6 0)), (1, .int x1), (2, .int x2), (3, .int x3)] [] (sR M0 0 σ) N (r4 x1 x2 x3)) (x1 : Int32) (x3 : Int32) (s0 : Int32) (s1 : Int32)  : GT Z E 4 (finX5_spread M0 σ N) 75 [(0, .ref (zA Z 6 0)), (1, .int x1), (3, .int x3)] [.int s0, .int s1] (sR M0 0 σ) N (fX5_spread_75 σ r4 x1 x3 s0 s1) := by
  unfold fX5_spread_75
  refine r_ior C dX5_spread_75 ?_
  refine r_istore_n (lv' := [(2, .int (s1 ||| s0)), (0, .ref (zA Z 6 0)), (1, .int x1), (3, .int x3)]) C dX5_spread_76 2 rfl (by decide) rfl ?_
  refine r_iload_n C dX5_spread_77 2 0 rfl rfl ?_
  refine r_iload_n C dX5_spread_78 3 3 rfl rfl ?_
  refine r_bipush (v := 24) C dX5_spread_79 (by decide) ?_
  refine r_sel (tj := 94) (sj := [.int (if 24 ≤ x3 then 0 else (1 <<< ((x3 + 6) &&& 31)) : Int32), .int (s1 ||| s0)]) ?_ (fun k10 => ?_)
  · refine r_ior C dX5_spread_94 ?_
    refine r_istore_n (lv' := [(2, .int ((s1 ||| s0) ||| (if 24 ≤ x3 then 0 else (1 <<< ((x3 + 6) &&& 31)) : Int32))), (0, .ref (zA Z 6 0)), (1, .int x1), (3, .int x3)]) C dX5_spread_95 2 rfl (by decide) rfl ?_
    refine r_iinc (v := (x3 + 1)) (lv' := [(3, .int (x3 + 1)), (2, .int ((s1 ||| s0) ||| (if 24 ≤ x3 then 0 else (1 <<< ((x3 + 6) &&& 31)) : Int32))), (0, .ref (zA Z 6 0)), (1, .int x1)]) C dX5_spread_96 3 rfl rfl (by decide) rfl ?_
    refine r_goto (tgt := 4) C dX5_spread_99 (by decide) ?_
    refine r_lv [2, 3, 1, 0] (lv' := [(0, .ref (zA Z 6 0)), (1, .int x1), (2, .int ((s1 ||| s0) ||| (if 24 ≤ x3 then 0 else (1 <<< ((x3 + 6) &&& 31)) : Int32))), (3, .int (x3 + 1))]) rfl ?_
    exact hr4 x1 ((s1 ||| s0) ||| (if 24 ≤ x3 then 0 else (1 <<< ((x3 + 6) &&& 31)) : Int32)) (x3 + 1)
  · refine r_same (P := 24 ≤ x3) ?_
    refine r_ic_ge (tgt := 93) C dX5_spread_81 (by decide) (fun c9 => ?_) (fun c9 => ?_)
    · refine r_iconst (v := 0) C dX5_spread_93 (by decide) ?_
      exact r_stk (if_pos c9) k10
    · refine r_iconst (v := 1) C dX5_spread_84 (by decide) ?_
      refine r_iload_n C dX5_spread_85 3 3 rfl rfl ?_
      refine r_bipush (v := 6) C dX5_spread_86 (by decide) ?_
      refine r_iadd C dX5_spread_88 ?_
      refine r_ishl C dX5_spread_89 ?_
      refine r_goto (tgt := 94) C dX5_spread_90 (by decide) ?_
      exact r_stk (if_neg c9) k10
noncomputable def fX5_spread_56 (σ : Nat → Int32) (r4 : Int32 → Int32 → Int32 → Option (Int32)) (x1 : Int32) (x3 : Int32) (s0 : Int32) (s1 : Int32) : Option (Int32) := (fX5_spread_75 σ r4 x1 x3 (if x3 < 6 then 0 else (1 <<< ((x3 - 6) &&& 31)) : Int32) (s1 ||| s0))
theorem bX5_spread_56 {Z : Zt} {E : Ec} {M0 : Mi} {σ : Nat → Int32} {N : Ml} (C : Ok 2 Z E cX5_spread 4 RX5 (some .int) 1)  (r4 : Int32 → Int32 → Int32 → Option (Int32)) (hr4 : ∀ (x1 : Int32) (x2 : Int32) (x3 : Int32), GT Z E 4 (finX5_spread M0 σ N) 4 [(0, .ref (zA Z 6 0)), (1, .int x1), (2, .int x2), (3, .int x3)] [] (sR M0 0 σ) N (r4 x1 x2 x3)) (x1 : Int32) (x3 : Int32) (s0 : Int32) (s1 : Int32)  : GT Z E 4 (finX5_spread M0 σ N) 56 [(0, .ref (zA Z 6 0)), (1, .int x1), (3, .int x3)] [.int s0, .int s1] (sR M0 0 σ) N (fX5_spread_56 σ r4 x1 x3 s0 s1) := by
  unfold fX5_spread_56
  refine r_ior C dX5_spread_56 ?_
  refine r_istore_n (lv' := [(2, .int (s1 ||| s0)), (0, .ref (zA Z 6 0)), (1, .int x1), (3, .int x3)]) C dX5_spread_57 2 rfl (by decide) rfl ?_
  refine r_iload_n C dX5_spread_58 2 0 rfl rfl ?_
  refine r_iload_n C dX5_spread_59 3 3 rfl rfl ?_
  refine r_bipush (v := 6) C dX5_spread_60 (by decide) ?_
  refine r_sel (tj := 75) (sj := [.int (if x3 < 6 then 0 else (1 <<< ((x3 - 6) &&& 31)) : Int32), .int (s1 ||| s0)]) ?_ (fun k8 => ?_)
  · refine r_lv [1, 2, 3] (lv' := [(0, .ref (zA Z 6 0)), (1, .int x1), (3, .int x3)]) rfl ?_
    exact bX5_spread_75 C r4 hr4 x1 x3 (if x3 < 6 then 0 else (1 <<< ((x3 - 6) &&& 31)) : Int32) (s1 ||| s0)
  · refine r_same (P := x3 < 6) ?_
    refine r_ic_lt (tgt := 74) C dX5_spread_62 (by decide) (fun c7 => ?_) (fun c7 => ?_)
    · refine r_iconst (v := 0) C dX5_spread_74 (by decide) ?_
      exact r_stk (if_pos c7) k8
    · refine r_iconst (v := 1) C dX5_spread_65 (by decide) ?_
      refine r_iload_n C dX5_spread_66 3 3 rfl rfl ?_
      refine r_bipush (v := 6) C dX5_spread_67 (by decide) ?_
      refine r_isub C dX5_spread_69 ?_
      refine r_ishl C dX5_spread_70 ?_
      refine r_goto (tgt := 75) C dX5_spread_71 (by decide) ?_
      exact r_stk (if_neg c7) k8
noncomputable def fX5_spread_36 (σ : Nat → Int32) (r4 : Int32 → Int32 → Int32 → Option (Int32)) (x1 : Int32) (x3 : Int32) (s0 : Int32) (s1 : Int32) : Option (Int32) := (fX5_spread_56 σ r4 x1 x3 (if 5 ≤ (x3 - x3 / 6 * 6) then 0 else (1 <<< ((x3 + 1) &&& 31)) : Int32) (s1 ||| s0))
theorem bX5_spread_36 {Z : Zt} {E : Ec} {M0 : Mi} {σ : Nat → Int32} {N : Ml} (C : Ok 2 Z E cX5_spread 4 RX5 (some .int) 1)  (r4 : Int32 → Int32 → Int32 → Option (Int32)) (hr4 : ∀ (x1 : Int32) (x2 : Int32) (x3 : Int32), GT Z E 4 (finX5_spread M0 σ N) 4 [(0, .ref (zA Z 6 0)), (1, .int x1), (2, .int x2), (3, .int x3)] [] (sR M0 0 σ) N (r4 x1 x2 x3)) (x1 : Int32) (x3 : Int32) (s0 : Int32) (s1 : Int32)  : GT Z E 4 (finX5_spread M0 σ N) 36 [(0, .ref (zA Z 6 0)), (1, .int x1), (3, .int x3)] [.int s0, .int s1] (sR M0 0 σ) N (fX5_spread_36 σ r4 x1 x3 s0 s1) := by
  unfold fX5_spread_36
  refine r_ior C dX5_spread_36 ?_
  refine r_istore_n (lv' := [(2, .int (s1 ||| s0)), (0, .ref (zA Z 6 0)), (1, .int x1), (3, .int x3)]) C dX5_spread_37 2 rfl (by decide) rfl ?_
  refine r_iload_n C dX5_spread_38 2 0 rfl rfl ?_
  refine r_iload_n C dX5_spread_39 3 3 rfl rfl ?_
  refine r_bipush (v := 6) C dX5_spread_40 (by decide) ?_
  refine r_irem C dX5_spread_42 (by decide) ?_
  refine r_iconst (v := 5) C dX5_spread_43 (by decide) ?_
  refine r_sel (tj := 56) (sj := [.int (if 5 ≤ (x3 - x3 / 6 * 6) then 0 else (1 <<< ((x3 + 1) &&& 31)) : Int32), .int (s1 ||| s0)]) ?_ (fun k6 => ?_)
  · refine r_lv [1, 2, 3] (lv' := [(0, .ref (zA Z 6 0)), (1, .int x1), (3, .int x3)]) rfl ?_
    exact bX5_spread_56 C r4 hr4 x1 x3 (if 5 ≤ (x3 - x3 / 6 * 6) then 0 else (1 <<< ((x3 + 1) &&& 31)) : Int32) (s1 ||| s0)
  · refine r_same (P := 5 ≤ (x3 - x3 / 6 * 6)) ?_
    refine r_ic_ge (tgt := 55) C dX5_spread_44 (by decide) (fun c5 => ?_) (fun c5 => ?_)
    · refine r_iconst (v := 0) C dX5_spread_55 (by decide) ?_
      exact r_stk (if_pos c5) k6
    · refine r_iconst (v := 1) C dX5_spread_47 (by decide) ?_
      refine r_iload_n C dX5_spread_48 3 3 rfl rfl ?_
      refine r_iconst (v := 1) C dX5_spread_49 (by decide) ?_
      refine r_iadd C dX5_spread_50 ?_
      refine r_ishl C dX5_spread_51 ?_
      refine r_goto (tgt := 56) C dX5_spread_52 (by decide) ?_
      exact r_stk (if_neg c5) k6
noncomputable def fX5_spread_4 (σ : Nat → Int32)  : Nat → Int32 → Int32 → Int32 → Option (Int32)
  | 0 => fun _ _ _ => none
  | n + 1 => fun x1 x2 x3 => (if 30 ≤ x3 then (some (x2 &&& (fX5_open σ))) else (if ((x1 >>> (x3 &&& 31)) &&& 1) = 1 then (fX5_spread_36 σ (fX5_spread_4 σ n) x1 x3 (if (x3 - x3 / 6 * 6) ≤ 0 then 0 else (1 <<< ((x3 - 1) &&& 31)) : Int32) x2) else ((fX5_spread_4 σ n) x1 x2 (x3 + 1))))
theorem bX5_spread_4 {Z : Zt} {E : Ec} {M0 : Mi} {σ : Nat → Int32} {N : Ml} (C : Ok 2 Z E cX5_spread 4 RX5 (some .int) 1)    : ∀ (n : Nat) (x1 : Int32) (x2 : Int32) (x3 : Int32), GT Z E 4 (finX5_spread M0 σ N) 4 [(0, .ref (zA Z 6 0)), (1, .int x1), (2, .int x2), (3, .int x3)] [] (sR M0 0 σ) N (fX5_spread_4 σ n x1 x2 x3) := by
  intro n
  induction n with
  | zero => intro x1 x2 x3; exact r_none
  | succ n ih =>
    intro x1 x2 x3
    rw [fX5_spread_4]
    refine r_iload_n C dX5_spread_4 3 3 rfl rfl ?_
    refine r_bipush (v := 30) C dX5_spread_5 (by decide) ?_
    refine r_ic_ge (tgt := 102) C dX5_spread_7 (by decide) (fun c1 => ?_) (fun c1 => ?_)
    · refine r_iload_n C dX5_spread_102 2 2 rfl rfl ?_
      refine r_aload_n C dX5_spread_103 0 0 rfl rfl ?_
      refine r_callV (rest := [.int x2]) (st2 := [.int (fX5_open σ), .int x2]) C (mX5_open (eL E) C.z _ _ σ) lk_X5_188 (rvM C) (by decide) rfl rfl (Nat.le_of_ble_eq_true rfl) dX5_spread_104 rfl ?_
      refine r_iand C dX5_spread_107 ?_
      exact r_iret C dX5_spread_108 rfl
    · refine r_iload_n C dX5_spread_10 1 1 rfl rfl ?_
      refine r_iload_n C dX5_spread_11 3 3 rfl rfl ?_
      refine r_ishr C dX5_spread_12 ?_
      refine r_iconst (v := 1) C dX5_spread_13 (by decide) ?_
      refine r_iand C dX5_spread_14 ?_
      refine r_iconst (v := 1) C dX5_spread_15 (by decide) ?_
      refine r_ic_ne (tgt := 96) C dX5_spread_16 (by decide) (fun c2 => ?_) (fun c2 => ?_)
      · refine r_iinc (v := (x3 + 1)) (lv' := [(3, .int (x3 + 1)), (0, .ref (zA Z 6 0)), (1, .int x1), (2, .int x2)]) C dX5_spread_96 3 rfl rfl (by decide) rfl ?_
        refine r_goto (tgt := 4) C dX5_spread_99 (by decide) ?_
        refine r_lv [1, 2, 3, 0] (lv' := [(0, .ref (zA Z 6 0)), (1, .int x1), (2, .int x2), (3, .int (x3 + 1))]) rfl ?_
        exact ih x1 x2 (x3 + 1)
      · refine r_iload_n C dX5_spread_19 2 2 rfl rfl ?_
        refine r_iload_n C dX5_spread_20 3 3 rfl rfl ?_
        refine r_bipush (v := 6) C dX5_spread_21 (by decide) ?_
        refine r_irem C dX5_spread_23 (by decide) ?_
        refine r_sel (tj := 36) (sj := [.int (if (x3 - x3 / 6 * 6) ≤ 0 then 0 else (1 <<< ((x3 - 1) &&& 31)) : Int32), .int x2]) ?_ (fun k4 => ?_)
        · refine r_lv [0, 1, 3] (lv' := [(0, .ref (zA Z 6 0)), (1, .int x1), (3, .int x3)]) rfl ?_
          exact bX5_spread_36 C (fX5_spread_4 σ n) ih x1 x3 (if (x3 - x3 / 6 * 6) ≤ 0 then 0 else (1 <<< ((x3 - 1) &&& 31)) : Int32) x2
        · refine r_same (P := (x3 - x3 / 6 * 6) ≤ 0) ?_
          refine r_if_le (tgt := 35) C dX5_spread_24 (by decide) (fun c3 => ?_) (fun c3 => ?_)
          · refine r_iconst (v := 0) C dX5_spread_35 (by decide) ?_
            exact r_stk (if_pos c3) k4
          · refine r_iconst (v := 1) C dX5_spread_27 (by decide) ?_
            refine r_iload_n C dX5_spread_28 3 3 rfl rfl ?_
            refine r_iconst (v := 1) C dX5_spread_29 (by decide) ?_
            refine r_isub C dX5_spread_30 ?_
            refine r_ishl C dX5_spread_31 ?_
            refine r_goto (tgt := 36) C dX5_spread_32 (by decide) ?_
            exact r_stk (if_neg c3) k4
noncomputable def fX5_spread (σ : Nat → Int32)  (x1 : Int32) : Option (Int32) := (fX5_spread_4 σ fu x1 x1 0)
theorem bX5_spread {Z : Zt} {E : Ec} {M0 : Mi} {σ : Nat → Int32} {N : Ml} (C : Ok 2 Z E cX5_spread 4 RX5 (some .int) 1)    (x1 : Int32)  : GT Z E 4 (finX5_spread M0 σ N) 0 [(0, .ref (zA Z 6 0)), (1, .int x1)] [] (sR M0 0 σ) N (fX5_spread σ x1) := by
  unfold fX5_spread
  refine r_iload_n C dX5_spread_0 1 1 rfl rfl ?_
  refine r_istore_n (lv' := [(2, .int x1), (0, .ref (zA Z 6 0)), (1, .int x1)]) C dX5_spread_1 2 rfl (by decide) rfl ?_
  refine r_iconst (v := 0) C dX5_spread_2 (by decide) ?_
  refine r_istore_n (lv' := [(3, .int 0), (2, .int x1), (0, .ref (zA Z 6 0)), (1, .int x1)]) C dX5_spread_3 3 rfl (by decide) rfl ?_
  refine r_lv [2, 3, 1, 0] (lv' := [(0, .ref (zA Z 6 0)), (1, .int x1), (2, .int x1), (3, .int 0)]) rfl ?_
  exact bX5_spread_4 C fu x1 x1 0
theorem mX5_spread (l : Launch) {Z : Zt} (hZ : Zok 2 Z) (M0 : Mi) (N : Ml) (σ : Nat → Int32) (x1 : Int32) (b : Int32) (hb : fX5_spread σ x1 = some b) : Ct 2 Z l yX5_spread cX5_spread 4 (some .int) 1 [.ref (zA Z 6 0), .int x1] (sR M0 0 σ) N (some (Value.int b), sR M0 0 σ, N) :=
  metG (fin := (finX5_spread M0 σ N)) (by decide) (Nat.le_of_ble_eq_true rfl) (fun E _ C => bX5_spread C x1) hb
theorem dX5_places_0 : decode cX5_places 0 = .ok (.iconst 0, 1) := by decide +kernel
theorem dX5_places_1 : decode cX5_places 1 = .ok (.istore_n 2, 1) := by decide +kernel
theorem dX5_places_2 : decode cX5_places 2 = .ok (.iconst 0, 1) := by decide +kernel
theorem dX5_places_3 : decode cX5_places 3 = .ok (.istore_n 3, 1) := by decide +kernel
theorem dX5_places_4 : decode cX5_places 4 = .ok (.iload_n 3, 1) := by decide +kernel
theorem dX5_places_5 : decode cX5_places 5 = .ok (.aload_n 0, 1) := by decide +kernel
theorem dX5_places_6 : decode cX5_places 6 = .ok (.getfield 7, 3) := by decide +kernel
theorem dX5_places_9 : decode cX5_places 9 = .ok (.iconst 1, 1) := by decide +kernel
theorem dX5_places_10 : decode cX5_places 10 = .ok (.iaload, 1) := by decide +kernel
theorem dX5_places_11 : decode cX5_places 11 = .ok (.if_icmp .ge 29, 3) := by decide +kernel
theorem dX5_places_14 : decode cX5_places 14 = .ok (.iload_n 2, 1) := by decide +kernel
theorem dX5_places_15 : decode cX5_places 15 = .ok (.aload_n 0, 1) := by decide +kernel
theorem dX5_places_16 : decode cX5_places 16 = .ok (.iload_n 3, 1) := by decide +kernel
theorem dX5_places_17 : decode cX5_places 17 = .ok (.iconst 2, 1) := by decide +kernel
theorem dX5_places_18 : decode cX5_places 18 = .ok (.invokevirtual 83, 3) := by decide +kernel
theorem dX5_places_21 : decode cX5_places 21 = .ok (.iload_n 1, 1) := by decide +kernel
theorem dX5_places_22 : decode cX5_places 22 = .ok (.ishr, 1) := by decide +kernel
theorem dX5_places_23 : decode cX5_places 23 = .ok (.iconst 1, 1) := by decide +kernel
theorem dX5_places_24 : decode cX5_places 24 = .ok (.iand, 1) := by decide +kernel
theorem dX5_places_25 : decode cX5_places 25 = .ok (.aload_n 0, 1) := by decide +kernel
theorem dX5_places_26 : decode cX5_places 26 = .ok (.iload_n 3, 1) := by decide +kernel
theorem dX5_places_27 : decode cX5_places 27 = .ok (.iconst 1, 1) := by decide +kernel
theorem dX5_places_28 : decode cX5_places 28 = .ok (.invokevirtual 83, 3) := by decide +kernel
theorem dX5_places_31 : decode cX5_places 31 = .ok (.ishl, 1) := by decide +kernel
theorem dX5_places_32 : decode cX5_places 32 = .ok (.ior, 1) := by decide +kernel
theorem dX5_places_33 : decode cX5_places 33 = .ok (.istore_n 2, 1) := by decide +kernel
theorem dX5_places_34 : decode cX5_places 34 = .ok (.iinc 3 1, 3) := by decide +kernel
theorem dX5_places_37 : decode cX5_places 37 = .ok (.goto (-33), 3) := by decide +kernel
theorem dX5_places_40 : decode cX5_places 40 = .ok (.iload_n 2, 1) := by decide +kernel
theorem dX5_places_41 : decode cX5_places 41 = .ok (.ireturn, 1) := by decide +kernel
def finX5_places (M0 : Mi) (σ : Nat → Int32) (N : Ml) : Int32 → Option Value × Mi × Ml := fun b => (some (Value.int b), sR M0 0 σ, N)
noncomputable def fX5_places_4 (σ : Nat → Int32)  : Nat → Int32 → Int32 → Int32 → Option (Int32)
  | 0 => fun _ _ _ => none
  | n + 1 => fun x1 x2 x3 => (if (σ 1) ≤ x3 then (some x2) else (Option.bind (fX5_its σ x3 2) (fun a2 => (Option.bind (fX5_its σ x3 1) (fun a3 => ((fX5_places_4 σ n) x1 (x2 ||| (((a2 >>> (x1 &&& 31)) &&& 1) <<< (a3 &&& 31))) (x3 + 1)))))))
theorem bX5_places_4 {Z : Zt} {E : Ec} {M0 : Mi} {σ : Nat → Int32} {N : Ml} (C : Ok 2 Z E cX5_places 4 RX5 (some .int) 2)    : ∀ (n : Nat) (x1 : Int32) (x2 : Int32) (x3 : Int32), GT Z E 4 (finX5_places M0 σ N) 4 [(0, .ref (zA Z 6 0)), (1, .int x1), (2, .int x2), (3, .int x3)] [] (sR M0 0 σ) N (fX5_places_4 σ n x1 x2 x3) := by
  intro n
  induction n with
  | zero => intro x1 x2 x3; exact r_none
  | succ n ih =>
    intro x1 x2 x3
    rw [fX5_places_4]
    refine r_iload_n C dX5_places_4 3 3 rfl rfl ?_
    refine r_aload_n C dX5_places_5 0 0 rfl rfl ?_
    refine gf_X5_7 C dX5_places_6 ?_
    refine r_iconst (v := 1) C dX5_places_9 (by decide) ?_
    refine ald_M (v := (σ 1)) C mI_0 (by decide) (sR_at _ _ _ _) dX5_places_10 ?_
    refine r_ic_ge (tgt := 40) C dX5_places_11 (by decide) (fun c1 => ?_) (fun c1 => ?_)
    · refine r_iload_n C dX5_places_40 2 2 rfl rfl ?_
      exact r_iret C dX5_places_41 rfl
    · refine r_iload_n C dX5_places_14 2 2 rfl rfl ?_
      refine r_aload_n C dX5_places_15 0 0 rfl rfl ?_
      refine r_iload_n C dX5_places_16 3 3 rfl rfl ?_
      refine r_iconst (v := 2) C dX5_places_17 (by decide) ?_
      refine r_bind (fun a2 ha2 => ?_)
      refine r_callV (rest := [.int x2]) (st2 := [.int a2, .int x2]) C (mX5_its (eL E) C.z _ _ σ x3 2 a2 ha2) lk_X5_83 (rvM C) (by decide) rfl rfl (Nat.le_of_ble_eq_true rfl) dX5_places_18 rfl ?_
      refine r_iload_n C dX5_places_21 1 1 rfl rfl ?_
      refine r_ishr C dX5_places_22 ?_
      refine r_iconst (v := 1) C dX5_places_23 (by decide) ?_
      refine r_iand C dX5_places_24 ?_
      refine r_aload_n C dX5_places_25 0 0 rfl rfl ?_
      refine r_iload_n C dX5_places_26 3 3 rfl rfl ?_
      refine r_iconst (v := 1) C dX5_places_27 (by decide) ?_
      refine r_bind (fun a3 ha3 => ?_)
      refine r_callV (rest := [.int ((a2 >>> (x1 &&& 31)) &&& 1), .int x2]) (st2 := [.int a3, .int ((a2 >>> (x1 &&& 31)) &&& 1), .int x2]) C (mX5_its (eL E) C.z _ _ σ x3 1 a3 ha3) lk_X5_83 (rvM C) (by decide) rfl rfl (Nat.le_of_ble_eq_true rfl) dX5_places_28 rfl ?_
      refine r_ishl C dX5_places_31 ?_
      refine r_ior C dX5_places_32 ?_
      refine r_istore_n (lv' := [(2, .int (x2 ||| (((a2 >>> (x1 &&& 31)) &&& 1) <<< (a3 &&& 31)))), (0, .ref (zA Z 6 0)), (1, .int x1), (3, .int x3)]) C dX5_places_33 2 rfl (by decide) rfl ?_
      refine r_iinc (v := (x3 + 1)) (lv' := [(3, .int (x3 + 1)), (2, .int (x2 ||| (((a2 >>> (x1 &&& 31)) &&& 1) <<< (a3 &&& 31)))), (0, .ref (zA Z 6 0)), (1, .int x1)]) C dX5_places_34 3 rfl rfl (by decide) rfl ?_
      refine r_goto (tgt := 4) C dX5_places_37 (by decide) ?_
      refine r_lv [2, 3, 1, 0] (lv' := [(0, .ref (zA Z 6 0)), (1, .int x1), (2, .int (x2 ||| (((a2 >>> (x1 &&& 31)) &&& 1) <<< (a3 &&& 31)))), (3, .int (x3 + 1))]) rfl ?_
      exact ih x1 (x2 ||| (((a2 >>> (x1 &&& 31)) &&& 1) <<< (a3 &&& 31))) (x3 + 1)
noncomputable def fX5_places (σ : Nat → Int32)  (x1 : Int32) : Option (Int32) := (fX5_places_4 σ fu x1 0 0)
theorem bX5_places {Z : Zt} {E : Ec} {M0 : Mi} {σ : Nat → Int32} {N : Ml} (C : Ok 2 Z E cX5_places 4 RX5 (some .int) 2)    (x1 : Int32)  : GT Z E 4 (finX5_places M0 σ N) 0 [(0, .ref (zA Z 6 0)), (1, .int x1)] [] (sR M0 0 σ) N (fX5_places σ x1) := by
  unfold fX5_places
  refine r_iconst (v := 0) C dX5_places_0 (by decide) ?_
  refine r_istore_n (lv' := [(2, .int 0), (0, .ref (zA Z 6 0)), (1, .int x1)]) C dX5_places_1 2 rfl (by decide) rfl ?_
  refine r_iconst (v := 0) C dX5_places_2 (by decide) ?_
  refine r_istore_n (lv' := [(3, .int 0), (2, .int 0), (0, .ref (zA Z 6 0)), (1, .int x1)]) C dX5_places_3 3 rfl (by decide) rfl ?_
  refine r_lv [2, 3, 1, 0] (lv' := [(0, .ref (zA Z 6 0)), (1, .int x1), (2, .int 0), (3, .int 0)]) rfl ?_
  exact bX5_places_4 C fu x1 0 0
theorem mX5_places (l : Launch) {Z : Zt} (hZ : Zok 2 Z) (M0 : Mi) (N : Ml) (σ : Nat → Int32) (x1 : Int32) (b : Int32) (hb : fX5_places σ x1 = some b) : Ct 2 Z l yX5_places cX5_places 4 (some .int) 2 [.ref (zA Z 6 0), .int x1] (sR M0 0 σ) N (some (Value.int b), sR M0 0 σ, N) :=
  metG (fin := (finX5_places M0 σ N)) (by decide) (Nat.le_of_ble_eq_true rfl) (fun E _ C => bX5_places C x1) hb
theorem dX5_soonestOf_0 : decode cX5_soonestOf 0 = .ok (.aload_n 0, 1) := by decide +kernel
theorem dX5_soonestOf_1 : decode cX5_soonestOf 1 = .ok (.invokevirtual 172, 3) := by decide +kernel
theorem dX5_soonestOf_4 : decode cX5_soonestOf 4 = .ok (.iconst 1, 1) := by decide +kernel
theorem dX5_soonestOf_5 : decode cX5_soonestOf 5 = .ok (.iload_n 1, 1) := by decide +kernel
theorem dX5_soonestOf_6 : decode cX5_soonestOf 6 = .ok (.ishl, 1) := by decide +kernel
theorem dX5_soonestOf_7 : decode cX5_soonestOf 7 = .ok (.istore_n 3, 1) := by decide +kernel
theorem dX5_soonestOf_8 : decode cX5_soonestOf 8 = .ok (.iconst (-1), 1) := by decide +kernel
theorem dX5_soonestOf_9 : decode cX5_soonestOf 9 = .ok (.istore 4, 2) := by decide +kernel
theorem dX5_soonestOf_11 : decode cX5_soonestOf 11 = .ok (.iconst 0, 1) := by decide +kernel
theorem dX5_soonestOf_12 : decode cX5_soonestOf 12 = .ok (.istore 5, 2) := by decide +kernel
theorem dX5_soonestOf_14 : decode cX5_soonestOf 14 = .ok (.iload 5, 2) := by decide +kernel
theorem dX5_soonestOf_16 : decode cX5_soonestOf 16 = .ok (.bipush 48, 2) := by decide +kernel
theorem dX5_soonestOf_18 : decode cX5_soonestOf 18 = .ok (.if_icmp .gt 50, 3) := by decide +kernel
theorem dX5_soonestOf_21 : decode cX5_soonestOf 21 = .ok (.iload 4, 2) := by decide +kernel
theorem dX5_soonestOf_23 : decode cX5_soonestOf 23 = .ok (.ifCond .ge 45, 3) := by decide +kernel
theorem dX5_soonestOf_26 : decode cX5_soonestOf 26 = .ok (.aload_n 0, 1) := by decide +kernel
theorem dX5_soonestOf_27 : decode cX5_soonestOf 27 = .ok (.iload_n 3, 1) := by decide +kernel
theorem dX5_soonestOf_28 : decode cX5_soonestOf 28 = .ok (.aload_n 0, 1) := by decide +kernel
theorem dX5_soonestOf_29 : decode cX5_soonestOf 29 = .ok (.iload_n 2, 1) := by decide +kernel
theorem dX5_soonestOf_30 : decode cX5_soonestOf 30 = .ok (.invokevirtual 191, 3) := by decide +kernel
theorem dX5_soonestOf_33 : decode cX5_soonestOf 33 = .ok (.iand, 1) := by decide +kernel
theorem dX5_soonestOf_34 : decode cX5_soonestOf 34 = .ok (.putfield 194, 3) := by decide +kernel
theorem dX5_soonestOf_37 : decode cX5_soonestOf 37 = .ok (.aload_n 0, 1) := by decide +kernel
theorem dX5_soonestOf_38 : decode cX5_soonestOf 38 = .ok (.getfield 194, 3) := by decide +kernel
theorem dX5_soonestOf_41 : decode cX5_soonestOf 41 = .ok (.ifCond .eq 8, 3) := by decide +kernel
theorem dX5_soonestOf_44 : decode cX5_soonestOf 44 = .ok (.iload 5, 2) := by decide +kernel
theorem dX5_soonestOf_46 : decode cX5_soonestOf 46 = .ok (.goto 4, 3) := by decide +kernel
theorem dX5_soonestOf_49 : decode cX5_soonestOf 49 = .ok (.iconst (-1), 1) := by decide +kernel
theorem dX5_soonestOf_50 : decode cX5_soonestOf 50 = .ok (.istore 4, 2) := by decide +kernel
theorem dX5_soonestOf_52 : decode cX5_soonestOf 52 = .ok (.aload_n 0, 1) := by decide +kernel
theorem dX5_soonestOf_53 : decode cX5_soonestOf 53 = .ok (.iload_n 3, 1) := by decide +kernel
theorem dX5_soonestOf_54 : decode cX5_soonestOf 54 = .ok (.invokevirtual 198, 3) := by decide +kernel
theorem dX5_soonestOf_57 : decode cX5_soonestOf 57 = .ok (.istore_n 3, 1) := by decide +kernel
theorem dX5_soonestOf_58 : decode cX5_soonestOf 58 = .ok (.aload_n 0, 1) := by decide +kernel
theorem dX5_soonestOf_59 : decode cX5_soonestOf 59 = .ok (.invokevirtual 155, 3) := by decide +kernel
theorem dX5_soonestOf_62 : decode cX5_soonestOf 62 = .ok (.iinc 5 1, 3) := by decide +kernel
theorem dX5_soonestOf_65 : decode cX5_soonestOf 65 = .ok (.goto (-51), 3) := by decide +kernel
theorem dX5_soonestOf_68 : decode cX5_soonestOf 68 = .ok (.aload_n 0, 1) := by decide +kernel
theorem dX5_soonestOf_69 : decode cX5_soonestOf 69 = .ok (.iload 4, 2) := by decide +kernel
theorem dX5_soonestOf_71 : decode cX5_soonestOf 71 = .ok (.invokevirtual 175, 3) := by decide +kernel
theorem dX5_soonestOf_74 : decode cX5_soonestOf 74 = .ok (.ireturn, 1) := by decide +kernel
def finX5_soonestOf (N : Ml) : Int32 × Mi → Option Value × Mi × Ml := fun b => (some (Value.int b.1), b.2, N)
noncomputable def fX5_soonestOf_68   (M : Mi) (x4 : Int32) : Option (Int32 × Mi) := (Option.bind (fX5_takesBack M x4) (fun a3 => (some (a3.1, (a3.2)))))
theorem bX5_soonestOf_68 {Z : Zt} {E : Ec} {N : Ml} (C : Ok 2 Z E cX5_soonestOf 6 RX5 (some .int) 5)    (M : Mi) (x4 : Int32)  : GT Z E 6 (finX5_soonestOf N) 68 [(0, .ref (zA Z 6 0)), (4, .int x4)] [] M N (fX5_soonestOf_68 M x4) := by
  unfold fX5_soonestOf_68
  refine r_aload_n C dX5_soonestOf_68 0 0 rfl rfl ?_
  refine r_iload C dX5_soonestOf_69 1 rfl ?_
  refine r_bind (fun a3 ha3 => ?_)
  refine r_callV (rest := []) (st2 := [.int a3.1]) C (mX5_takesBack (eL E) C.z M N x4 a3 ha3) lk_X5_175 (rvM C) (by decide) rfl rfl (Nat.le_of_ble_eq_true rfl) dX5_soonestOf_71 rfl ?_
  exact r_iret C dX5_soonestOf_74 rfl
noncomputable def fX5_soonestOf_50  (r14 : Mi → Int32 → Int32 → Int32 → Int32 → Option (Int32 × Mi)) (M : Mi) (x2 : Int32) (x3 : Int32) (x5 : Int32) (s0 : Int32) : Option (Int32 × Mi) := (Option.bind (fX5_spread (M 0) x3) (fun a8 => (Option.bind (fX5_hour (M 0)) (fun a9 => (r14 (sR M 0 a9) x2 a8 s0 (x5 + 1))))))
theorem bX5_soonestOf_50 {Z : Zt} {E : Ec} {N : Ml} (C : Ok 2 Z E cX5_soonestOf 6 RX5 (some .int) 5)  (r14 : Mi → Int32 → Int32 → Int32 → Int32 → Option (Int32 × Mi)) (hr14 : ∀ (M : Mi) (x2 : Int32) (x3 : Int32) (x4 : Int32) (x5 : Int32), GT Z E 6 (finX5_soonestOf N) 14 [(0, .ref (zA Z 6 0)), (2, .int x2), (3, .int x3), (4, .int x4), (5, .int x5)] [] M N (r14 M x2 x3 x4 x5)) (M : Mi) (x2 : Int32) (x3 : Int32) (x5 : Int32) (s0 : Int32)  : GT Z E 6 (finX5_soonestOf N) 50 [(0, .ref (zA Z 6 0)), (2, .int x2), (3, .int x3), (5, .int x5)] [.int s0] M N (fX5_soonestOf_50 r14 M x2 x3 x5 s0) := by
  unfold fX5_soonestOf_50
  refine r_istore (lv' := [(4, .int s0), (0, .ref (zA Z 6 0)), (2, .int x2), (3, .int x3), (5, .int x5)]) C dX5_soonestOf_50 (by decide) rfl ?_
  refine r_aload_n C dX5_soonestOf_52 0 1 rfl rfl ?_
  refine r_iload_n C dX5_soonestOf_53 3 3 rfl rfl ?_
  refine r_bind (fun a8 ha8 => ?_)
  refine r_callV (rest := []) (st2 := [.int a8]) C (mX5_spread (eL E) C.z M _ (M 0) x3 a8 ha8).selfR lk_X5_198 (rvM C) (by decide) rfl rfl (Nat.le_of_ble_eq_true rfl) dX5_soonestOf_54 rfl ?_
  refine r_istore_n (lv' := [(3, .int a8), (4, .int s0), (0, .ref (zA Z 6 0)), (2, .int x2), (5, .int x5)]) C dX5_soonestOf_57 3 rfl (by decide) rfl ?_
  refine r_aload_n C dX5_soonestOf_58 0 2 rfl rfl ?_
  refine r_bind (fun a9 ha9 => ?_)
  refine r_callV (rest := []) (st2 := []) C (mX5_hour (eL E) C.z M _ (M 0) a9 ha9).selfW lk_X5_155 (rvM C) (by decide) rfl rfl (Nat.le_of_ble_eq_true rfl) dX5_soonestOf_59 rfl ?_
  refine r_iinc (v := (x5 + 1)) (lv' := [(5, .int (x5 + 1)), (3, .int a8), (4, .int s0), (0, .ref (zA Z 6 0)), (2, .int x2)]) C dX5_soonestOf_62 4 rfl rfl (by decide) rfl ?_
  refine r_goto (tgt := 14) C dX5_soonestOf_65 (by decide) ?_
  refine r_lv [3, 4, 1, 2, 0] (lv' := [(0, .ref (zA Z 6 0)), (2, .int x2), (3, .int a8), (4, .int s0), (5, .int (x5 + 1))]) rfl ?_
  exact hr14 (sR M 0 a9) x2 a8 s0 (x5 + 1)
noncomputable def fX5_soonestOf_14   : Nat → Mi → Int32 → Int32 → Int32 → Int32 → Option (Int32 × Mi)
  | 0 => fun _ _ _ _ _ => none
  | n + 1 => fun M x2 x3 x4 x5 => (if 48 < x5 then (fX5_soonestOf_68 M x4) else (if 0 ≤ x4 then (fX5_soonestOf_68 M x4) else (Option.bind (fX5_places (M 0) x2) (fun a5 => (fX5_soonestOf_50 (fX5_soonestOf_14 n) (wM M 6 1 (x3 &&& a5)) x2 x3 x5 (if (x3 &&& a5) = 0 then (-1) else x5 : Int32))))))
theorem bX5_soonestOf_14 {Z : Zt} {E : Ec} {N : Ml} (C : Ok 2 Z E cX5_soonestOf 6 RX5 (some .int) 5)    : ∀ (n : Nat) (M : Mi) (x2 : Int32) (x3 : Int32) (x4 : Int32) (x5 : Int32), GT Z E 6 (finX5_soonestOf N) 14 [(0, .ref (zA Z 6 0)), (2, .int x2), (3, .int x3), (4, .int x4), (5, .int x5)] [] M N (fX5_soonestOf_14 n M x2 x3 x4 x5) := by
  intro n
  induction n with
  | zero => intro M x2 x3 x4 x5; exact r_none
  | succ n ih =>
    intro M x2 x3 x4 x5
    rw [fX5_soonestOf_14]
    refine r_iload C dX5_soonestOf_14 4 rfl ?_
    refine r_bipush (v := 48) C dX5_soonestOf_16 (by decide) ?_
    refine r_ic_gt (tgt := 68) C dX5_soonestOf_18 (by decide) (fun c2 => ?_) (fun c2 => ?_)
    · refine r_lv [0, 3] (lv' := [(0, .ref (zA Z 6 0)), (4, .int x4)]) rfl ?_
      exact bX5_soonestOf_68 C M x4
    · refine r_iload C dX5_soonestOf_21 3 rfl ?_
      refine r_if_ge (tgt := 68) C dX5_soonestOf_23 (by decide) (fun c4 => ?_) (fun c4 => ?_)
      · refine r_lv [0, 3] (lv' := [(0, .ref (zA Z 6 0)), (4, .int x4)]) rfl ?_
        exact bX5_soonestOf_68 C M x4
      · refine r_aload_n C dX5_soonestOf_26 0 0 rfl rfl ?_
        refine r_iload_n C dX5_soonestOf_27 3 2 rfl rfl ?_
        refine r_aload_n C dX5_soonestOf_28 0 0 rfl rfl ?_
        refine r_iload_n C dX5_soonestOf_29 2 1 rfl rfl ?_
        refine r_bind (fun a5 ha5 => ?_)
        refine r_callV (rest := [.int x3, .ref (zA Z 6 0)]) (st2 := [.int a5, .int x3, .ref (zA Z 6 0)]) C (mX5_places (eL E) C.z M _ (M 0) x2 a5 ha5).selfR lk_X5_191 (rvM C) (by decide) rfl rfl (Nat.le_of_ble_eq_true rfl) dX5_soonestOf_30 rfl ?_
        refine r_iand C dX5_soonestOf_33 ?_
        refine pf_X5_194 (M' := (wM M 6 1 (x3 &&& a5))) C dX5_soonestOf_34 rfl ?_
        refine r_aload_n C dX5_soonestOf_37 0 0 rfl rfl ?_
        refine gf_X5_194 (v := (x3 &&& a5)) C dX5_soonestOf_38 rfl ?_
        refine r_sel (tj := 50) (sj := [.int (if (x3 &&& a5) = 0 then (-1) else x5 : Int32)]) ?_ (fun k7 => ?_)
        · refine r_lv [0, 1, 2, 4] (lv' := [(0, .ref (zA Z 6 0)), (2, .int x2), (3, .int x3), (5, .int x5)]) rfl ?_
          exact bX5_soonestOf_50 C (fX5_soonestOf_14 n) ih (wM M 6 1 (x3 &&& a5)) x2 x3 x5 (if (x3 &&& a5) = 0 then (-1) else x5 : Int32)
        · refine r_same (P := (x3 &&& a5) = 0) ?_
          refine r_if_eq (tgt := 49) C dX5_soonestOf_41 (by decide) (fun c6 => ?_) (fun c6 => ?_)
          · refine r_iconst (v := (-1)) C dX5_soonestOf_49 (by decide) ?_
            exact r_stk (if_pos c6) k7
          · refine r_iload C dX5_soonestOf_44 4 rfl ?_
            refine r_goto (tgt := 50) C dX5_soonestOf_46 (by decide) ?_
            exact r_stk (if_neg c6) k7
noncomputable def fX5_soonestOf   (M : Mi) (x1 : Int32) (x2 : Int32) : Option (Int32 × Mi) := (Option.bind (fX5_laysAside M) (fun a1 => (fX5_soonestOf_14 fu a1 x2 (1 <<< (x1 &&& 31)) (-1) 0)))
theorem bX5_soonestOf {Z : Zt} {E : Ec} {N : Ml} (C : Ok 2 Z E cX5_soonestOf 6 RX5 (some .int) 5)    (M : Mi) (x1 : Int32) (x2 : Int32)  : GT Z E 6 (finX5_soonestOf N) 0 [(0, .ref (zA Z 6 0)), (1, .int x1), (2, .int x2)] [] M N (fX5_soonestOf M x1 x2) := by
  unfold fX5_soonestOf
  refine r_aload_n C dX5_soonestOf_0 0 0 rfl rfl ?_
  refine r_bind (fun a1 ha1 => ?_)
  refine r_callV (rest := []) (st2 := []) C (mX5_laysAside (eL E) C.z M N a1 ha1) lk_X5_172 (rvM C) (by decide) rfl rfl (Nat.le_of_ble_eq_true rfl) dX5_soonestOf_1 rfl ?_
  refine r_iconst (v := 1) C dX5_soonestOf_4 (by decide) ?_
  refine r_iload_n C dX5_soonestOf_5 1 1 rfl rfl ?_
  refine r_ishl C dX5_soonestOf_6 ?_
  refine r_istore_n (lv' := [(3, .int (1 <<< (x1 &&& 31))), (0, .ref (zA Z 6 0)), (1, .int x1), (2, .int x2)]) C dX5_soonestOf_7 3 rfl (by decide) rfl ?_
  refine r_iconst (v := (-1)) C dX5_soonestOf_8 (by decide) ?_
  refine r_istore (lv' := [(4, .int (-1)), (3, .int (1 <<< (x1 &&& 31))), (0, .ref (zA Z 6 0)), (1, .int x1), (2, .int x2)]) C dX5_soonestOf_9 (by decide) rfl ?_
  refine r_iconst (v := 0) C dX5_soonestOf_11 (by decide) ?_
  refine r_istore (lv' := [(5, .int 0), (4, .int (-1)), (3, .int (1 <<< (x1 &&& 31))), (0, .ref (zA Z 6 0)), (1, .int x1), (2, .int x2)]) C dX5_soonestOf_12 (by decide) rfl ?_
  refine r_lv [3, 5, 2, 1, 0] (lv' := [(0, .ref (zA Z 6 0)), (2, .int x2), (3, .int (1 <<< (x1 &&& 31))), (4, .int (-1)), (5, .int 0)]) rfl ?_
  exact bX5_soonestOf_14 C fu a1 x2 (1 <<< (x1 &&& 31)) (-1) 0
theorem mX5_soonestOf (l : Launch) {Z : Zt} (hZ : Zok 2 Z) (M : Mi) (N : Ml) (x1 : Int32) (x2 : Int32) (b : Int32 × Mi) (hb : fX5_soonestOf M x1 x2 = some b) : Ct 2 Z l yX5_soonestOf cX5_soonestOf 6 (some .int) 5 [.ref (zA Z 6 0), .int x1, .int x2] M N (some (Value.int b.1), b.2, N) :=
  metG (fin := (finX5_soonestOf N)) (by decide) (Nat.le_of_ble_eq_true rfl) (fun E _ C => bX5_soonestOf C M x1 x2) hb
theorem dX5_wrongReader_0 : decode cX5_wrongReader 0 = .ok (.iload_n 1, 1) := by decide +kernel
theorem dX5_wrongReader_1 : decode cX5_wrongReader 1 = .ok (.invokestatic 62, 3) := by decide +kernel
theorem dX5_wrongReader_4 : decode cX5_wrongReader 4 = .ok (.ifCond .eq 10, 3) := by decide +kernel
theorem dX5_wrongReader_7 : decode cX5_wrongReader 7 = .ok (.iload_n 2, 1) := by decide +kernel
theorem dX5_wrongReader_8 : decode cX5_wrongReader 8 = .ok (.invokestatic 133, 3) := by decide +kernel
theorem dX5_wrongReader_11 : decode cX5_wrongReader 11 = .ok (.ifCond .ne 8, 3) := by decide +kernel
theorem dX5_wrongReader_14 : decode cX5_wrongReader 14 = .ok (.ldc 41, 2) := by decide +kernel
theorem dX5_wrongReader_16 : decode cX5_wrongReader 16 = .ok (.goto 17, 3) := by decide +kernel
theorem dX5_wrongReader_19 : decode cX5_wrongReader 19 = .ok (.aload_n 0, 1) := by decide +kernel
theorem dX5_wrongReader_20 : decode cX5_wrongReader 20 = .ok (.iload_n 1, 1) := by decide +kernel
theorem dX5_wrongReader_21 : decode cX5_wrongReader 21 = .ok (.invokevirtual 69, 3) := by decide +kernel
theorem dX5_wrongReader_24 : decode cX5_wrongReader 24 = .ok (.ifCond .eq 8, 3) := by decide +kernel
theorem dX5_wrongReader_27 : decode cX5_wrongReader 27 = .ok (.ldc 136, 2) := by decide +kernel
theorem dX5_wrongReader_29 : decode cX5_wrongReader 29 = .ok (.goto 4, 3) := by decide +kernel
theorem dX5_wrongReader_32 : decode cX5_wrongReader 32 = .ok (.iconst 0, 1) := by decide +kernel
theorem dX5_wrongReader_33 : decode cX5_wrongReader 33 = .ok (.ireturn, 1) := by decide +kernel
def finX5_wrongReader (M0 : Mi) (σ : Nat → Int32) (N : Ml) : Int32 → Option Value × Mi × Ml := fun b => (some (Value.int b), sR M0 0 σ, N)
noncomputable def fX5_wrongReader (σ : Nat → Int32)  (x1 : Int32) (x2 : Int32) : Int32 := (if (fX5_isCell x1) = 0 then (-1000000001) else (if (fX5_isSubject x2) = 0 then (-1000000001) else (if (fX5_isFenced σ x1) = 0 then 0 else (-1000000005))))
theorem bX5_wrongReader {Z : Zt} {E : Ec} {M0 : Mi} {σ : Nat → Int32} {N : Ml} (C : Ok 2 Z E cX5_wrongReader 3 RX5 (some .int) 2)    (x1 : Int32) (x2 : Int32)  : GT Z E 3 (finX5_wrongReader M0 σ N) 0 [(0, .ref (zA Z 6 0)), (1, .int x1), (2, .int x2)] [] (sR M0 0 σ) N (some (fX5_wrongReader σ x1 x2)) := by
  unfold fX5_wrongReader
  refine r_iload_n C dX5_wrongReader_0 1 1 rfl rfl ?_
  refine r_callS (rest := []) (st2 := [.int (fX5_isCell x1)]) C (mX5_isCell (eL E) C.z _ _ x1) lk_X5_62 (by decide) rfl rfl (Nat.le_of_ble_eq_true rfl) dX5_wrongReader_1 rfl ?_
  refine r_st ?_
  refine r_if_eq (tgt := 14) C dX5_wrongReader_4 (by decide) (fun c1 => ?_) (fun c1 => ?_)
  · refine r_ldc (v := (-1000000001)) C dX5_wrongReader_14 wd_859 ?_
    refine r_goto (tgt := 33) C dX5_wrongReader_16 (by decide) ?_
    exact r_iret C dX5_wrongReader_33 rfl
  · refine r_iload_n C dX5_wrongReader_7 2 2 rfl rfl ?_
    refine r_callS (rest := []) (st2 := [.int (fX5_isSubject x2)]) C (mX5_isSubject (eL E) C.z _ _ x2) lk_X5_133 (by decide) rfl rfl (Nat.le_of_ble_eq_true rfl) dX5_wrongReader_8 rfl ?_
    refine r_st ?_
    refine r_if_ne (tgt := 19) C dX5_wrongReader_11 (by decide) (fun c2 => ?_) (fun c2 => ?_)
    · refine r_aload_n C dX5_wrongReader_19 0 0 rfl rfl ?_
      refine r_iload_n C dX5_wrongReader_20 1 1 rfl rfl ?_
      refine r_callV (rest := []) (st2 := [.int (fX5_isFenced σ x1)]) C (mX5_isFenced (eL E) C.z _ _ σ x1) lk_X5_69 (rvM C) (by decide) rfl rfl (Nat.le_of_ble_eq_true rfl) dX5_wrongReader_21 rfl ?_
      refine r_st ?_
      refine r_if_eq (tgt := 32) C dX5_wrongReader_24 (by decide) (fun c3 => ?_) (fun c3 => ?_)
      · refine r_iconst (v := 0) C dX5_wrongReader_32 (by decide) ?_
        exact r_iret C dX5_wrongReader_33 rfl
      · refine r_ldc (v := (-1000000005)) C dX5_wrongReader_27 wd_980 ?_
        refine r_goto (tgt := 33) C dX5_wrongReader_29 (by decide) ?_
        exact r_iret C dX5_wrongReader_33 rfl
    · refine r_ldc (v := (-1000000001)) C dX5_wrongReader_14 wd_859 ?_
      refine r_goto (tgt := 33) C dX5_wrongReader_16 (by decide) ?_
      exact r_iret C dX5_wrongReader_33 rfl
theorem mX5_wrongReader (l : Launch) {Z : Zt} (hZ : Zok 2 Z) (M0 : Mi) (N : Ml) (σ : Nat → Int32) (x1 : Int32) (x2 : Int32) : Ct 2 Z l yX5_wrongReader cX5_wrongReader 3 (some .int) 2 [.ref (zA Z 6 0), .int x1, .int x2] (sR M0 0 σ) N (some (Value.int (fX5_wrongReader σ x1 x2)), sR M0 0 σ, N) :=
  metG (fin := (finX5_wrongReader M0 σ N)) (by decide) (Nat.le_of_ble_eq_true rfl) (fun E _ C => bX5_wrongReader C x1 x2) rfl
theorem dX5_soonest_0 : decode cX5_soonest 0 = .ok (.aload_n 0, 1) := by decide +kernel
theorem dX5_soonest_1 : decode cX5_soonest 1 = .ok (.iload_n 1, 1) := by decide +kernel
theorem dX5_soonest_2 : decode cX5_soonest 2 = .ok (.iload_n 2, 1) := by decide +kernel
theorem dX5_soonest_3 : decode cX5_soonest 3 = .ok (.invokevirtual 201, 3) := by decide +kernel
theorem dX5_soonest_6 : decode cX5_soonest 6 = .ok (.istore_n 3, 1) := by decide +kernel
theorem dX5_soonest_7 : decode cX5_soonest 7 = .ok (.iload_n 3, 1) := by decide +kernel
theorem dX5_soonest_8 : decode cX5_soonest 8 = .ok (.ifCond .eq 11, 3) := by decide +kernel
theorem dX5_soonest_11 : decode cX5_soonest 11 = .ok (.aload_n 0, 1) := by decide +kernel
theorem dX5_soonest_12 : decode cX5_soonest 12 = .ok (.iload_n 3, 1) := by decide +kernel
theorem dX5_soonest_13 : decode cX5_soonest 13 = .ok (.invokevirtual 65, 3) := by decide +kernel
theorem dX5_soonest_16 : decode cX5_soonest 16 = .ok (.goto 15, 3) := by decide +kernel
theorem dX5_soonest_19 : decode cX5_soonest 19 = .ok (.aload_n 0, 1) := by decide +kernel
theorem dX5_soonest_20 : decode cX5_soonest 20 = .ok (.aload_n 0, 1) := by decide +kernel
theorem dX5_soonest_21 : decode cX5_soonest 21 = .ok (.iload_n 1, 1) := by decide +kernel
theorem dX5_soonest_22 : decode cX5_soonest 22 = .ok (.iload_n 2, 1) := by decide +kernel
theorem dX5_soonest_23 : decode cX5_soonest 23 = .ok (.invokevirtual 204, 3) := by decide +kernel
theorem dX5_soonest_26 : decode cX5_soonest 26 = .ok (.bipush 48, 2) := by decide +kernel
theorem dX5_soonest_28 : decode cX5_soonest 28 = .ok (.invokevirtual 181, 3) := by decide +kernel
theorem dX5_soonest_31 : decode cX5_soonest 31 = .ok (.ireturn, 1) := by decide +kernel
def finX5_soonest (N : Ml) : Int32 × Mi → Option Value × Mi × Ml := fun b => (some (Value.int b.1), b.2, N)
noncomputable def fX5_soonest   (M : Mi) (x1 : Int32) (x2 : Int32) : Option (Int32 × Mi) := (if (fX5_wrongReader (M 0) x1 x2) = 0 then (Option.bind (fX5_soonestOf M x1 x2) (fun a2 => (Option.bind (fX5_orNone (a2.2) a2.1 48) (fun a3 => (some (a3.1, (a3.2))))))) else (Option.bind (fX5_finds M (fX5_wrongReader (M 0) x1 x2)) (fun a4 => (some (a4.1, (a4.2))))))
theorem bX5_soonest {Z : Zt} {E : Ec} {N : Ml} (C : Ok 2 Z E cX5_soonest 4 RX5 (some .int) 6)    (M : Mi) (x1 : Int32) (x2 : Int32)  : GT Z E 4 (finX5_soonest N) 0 [(0, .ref (zA Z 6 0)), (1, .int x1), (2, .int x2)] [] M N (fX5_soonest M x1 x2) := by
  unfold fX5_soonest
  refine r_aload_n C dX5_soonest_0 0 0 rfl rfl ?_
  refine r_iload_n C dX5_soonest_1 1 1 rfl rfl ?_
  refine r_iload_n C dX5_soonest_2 2 2 rfl rfl ?_
  refine r_callV (rest := []) (st2 := [.int (fX5_wrongReader (M 0) x1 x2)]) C (mX5_wrongReader (eL E) C.z M _ (M 0) x1 x2).selfR lk_X5_201 (rvM C) (by decide) rfl rfl (Nat.le_of_ble_eq_true rfl) dX5_soonest_3 rfl ?_
  refine r_istore_n (lv' := [(3, .int (fX5_wrongReader (M 0) x1 x2)), (0, .ref (zA Z 6 0)), (1, .int x1), (2, .int x2)]) C dX5_soonest_6 3 rfl (by decide) rfl ?_
  refine r_iload_n C dX5_soonest_7 3 0 rfl rfl ?_
  refine r_if_eq (tgt := 19) C dX5_soonest_8 (by decide) (fun c1 => ?_) (fun c1 => ?_)
  · refine r_aload_n C dX5_soonest_19 0 1 rfl rfl ?_
    refine r_aload_n C dX5_soonest_20 0 1 rfl rfl ?_
    refine r_iload_n C dX5_soonest_21 1 2 rfl rfl ?_
    refine r_iload_n C dX5_soonest_22 2 3 rfl rfl ?_
    refine r_bind (fun a2 ha2 => ?_)
    refine r_callV (rest := [.ref (zA Z 6 0)]) (st2 := [.int a2.1, .ref (zA Z 6 0)]) C (mX5_soonestOf (eL E) C.z M N x1 x2 a2 ha2) lk_X5_204 (rvM C) (by decide) rfl rfl (Nat.le_of_ble_eq_true rfl) dX5_soonest_23 rfl ?_
    refine r_bipush (v := 48) C dX5_soonest_26 (by decide) ?_
    refine r_bind (fun a3 ha3 => ?_)
    refine r_callV (rest := []) (st2 := [.int a3.1]) C (mX5_orNone (eL E) C.z (a2.2) N a2.1 48 a3 ha3) lk_X5_181 (rvM C) (by decide) rfl rfl (Nat.le_of_ble_eq_true rfl) dX5_soonest_28 rfl ?_
    exact r_iret C dX5_soonest_31 rfl
  · refine r_aload_n C dX5_soonest_11 0 1 rfl rfl ?_
    refine r_iload_n C dX5_soonest_12 3 0 rfl rfl ?_
    refine r_bind (fun a4 ha4 => ?_)
    refine r_callV (rest := []) (st2 := [.int a4.1]) C (mX5_finds (eL E) C.z M N (fX5_wrongReader (M 0) x1 x2) a4 ha4) lk_X5_65 (rvM C) (by decide) rfl rfl (Nat.le_of_ble_eq_true rfl) dX5_soonest_13 rfl ?_
    refine r_goto (tgt := 31) C dX5_soonest_16 (by decide) ?_
    exact r_iret C dX5_soonest_31 rfl
theorem mX5_soonest (l : Launch) {Z : Zt} (hZ : Zok 2 Z) (M : Mi) (N : Ml) (x1 : Int32) (x2 : Int32) (b : Int32 × Mi) (hb : fX5_soonest M x1 x2 = some b) : Ct 2 Z l yX5_soonest cX5_soonest 4 (some .int) 6 [.ref (zA Z 6 0), .int x1, .int x2] M N (some (Value.int b.1), b.2, N) :=
  metG (fin := (finX5_soonest N)) (by decide) (Nat.le_of_ble_eq_true rfl) (fun E _ C => bX5_soonest C M x1 x2) hb
theorem dX5_where_0 : decode cX5_where 0 = .ok (.aload_n 0, 1) := by decide +kernel
theorem dX5_where_1 : decode cX5_where 1 = .ok (.iload_n 1, 1) := by decide +kernel
theorem dX5_where_2 : decode cX5_where 2 = .ok (.iload_n 2, 1) := by decide +kernel
theorem dX5_where_3 : decode cX5_where 3 = .ok (.invokevirtual 201, 3) := by decide +kernel
theorem dX5_where_6 : decode cX5_where 6 = .ok (.istore_n 3, 1) := by decide +kernel
theorem dX5_where_7 : decode cX5_where 7 = .ok (.iload_n 3, 1) := by decide +kernel
theorem dX5_where_8 : decode cX5_where 8 = .ok (.ifCond .eq 9, 3) := by decide +kernel
theorem dX5_where_11 : decode cX5_where 11 = .ok (.aload_n 0, 1) := by decide +kernel
theorem dX5_where_12 : decode cX5_where 12 = .ok (.iload_n 3, 1) := by decide +kernel
theorem dX5_where_13 : decode cX5_where 13 = .ok (.invokevirtual 65, 3) := by decide +kernel
theorem dX5_where_16 : decode cX5_where 16 = .ok (.ireturn, 1) := by decide +kernel
theorem dX5_where_17 : decode cX5_where 17 = .ok (.aload_n 0, 1) := by decide +kernel
theorem dX5_where_18 : decode cX5_where 18 = .ok (.iload_n 1, 1) := by decide +kernel
theorem dX5_where_19 : decode cX5_where 19 = .ok (.iload_n 2, 1) := by decide +kernel
theorem dX5_where_20 : decode cX5_where 20 = .ok (.invokevirtual 204, 3) := by decide +kernel
theorem dX5_where_23 : decode cX5_where 23 = .ok (.ifCond .ge 10, 3) := by decide +kernel
theorem dX5_where_26 : decode cX5_where 26 = .ok (.aload_n 0, 1) := by decide +kernel
theorem dX5_where_27 : decode cX5_where 27 = .ok (.ldc 137, 2) := by decide +kernel
theorem dX5_where_29 : decode cX5_where 29 = .ok (.invokevirtual 65, 3) := by decide +kernel
theorem dX5_where_32 : decode cX5_where 32 = .ok (.ireturn, 1) := by decide +kernel
theorem dX5_where_33 : decode cX5_where 33 = .ok (.iconst 0, 1) := by decide +kernel
theorem dX5_where_34 : decode cX5_where 34 = .ok (.istore 4, 2) := by decide +kernel
theorem dX5_where_36 : decode cX5_where 36 = .ok (.aload_n 0, 1) := by decide +kernel
theorem dX5_where_37 : decode cX5_where 37 = .ok (.getfield 194, 3) := by decide +kernel
theorem dX5_where_40 : decode cX5_where 40 = .ok (.iload 4, 2) := by decide +kernel
theorem dX5_where_42 : decode cX5_where 42 = .ok (.ishr, 1) := by decide +kernel
theorem dX5_where_43 : decode cX5_where 43 = .ok (.iconst 1, 1) := by decide +kernel
theorem dX5_where_44 : decode cX5_where 44 = .ok (.iand, 1) := by decide +kernel
theorem dX5_where_45 : decode cX5_where 45 = .ok (.ifCond .ne 9, 3) := by decide +kernel
theorem dX5_where_48 : decode cX5_where 48 = .ok (.iinc 4 1, 3) := by decide +kernel
theorem dX5_where_51 : decode cX5_where 51 = .ok (.goto (-15), 3) := by decide +kernel
theorem dX5_where_54 : decode cX5_where 54 = .ok (.iload 4, 2) := by decide +kernel
theorem dX5_where_56 : decode cX5_where 56 = .ok (.ireturn, 1) := by decide +kernel
def finX5_where (N : Ml) : Int32 × Mi → Option Value × Mi × Ml := fun b => (some (Value.int b.1), b.2, N)
noncomputable def fX5_where_36   : Nat → Mi → Int32 → Option (Int32 × Mi)
  | 0 => fun _ _ => none
  | n + 1 => fun M x4 => (if (((M 6 1) >>> (x4 &&& 31)) &&& 1) = 0 then ((fX5_where_36 n) M (x4 + 1)) else (some (x4, M)))
theorem bX5_where_36 {Z : Zt} {E : Ec} {N : Ml} (C : Ok 2 Z E cX5_where 5 RX5 (some .int) 6)    : ∀ (n : Nat) (M : Mi) (x4 : Int32), GT Z E 5 (finX5_where N) 36 [(0, .ref (zA Z 6 0)), (4, .int x4)] [] M N (fX5_where_36 n M x4) := by
  intro n
  induction n with
  | zero => intro M x4; exact r_none
  | succ n ih =>
    intro M x4
    rw [fX5_where_36]
    refine r_aload_n C dX5_where_36 0 0 rfl rfl ?_
    refine gf_X5_194 (v := (M 6 1)) C dX5_where_37 rfl ?_
    refine r_iload C dX5_where_40 1 rfl ?_
    refine r_ishr C dX5_where_42 ?_
    refine r_iconst (v := 1) C dX5_where_43 (by decide) ?_
    refine r_iand C dX5_where_44 ?_
    refine r_if_ne (tgt := 54) C dX5_where_45 (by decide) (fun c4 => ?_) (fun c4 => ?_)
    · refine r_iload C dX5_where_54 1 rfl ?_
      exact r_iret C dX5_where_56 rfl
    · refine r_iinc (v := (x4 + 1)) (lv' := [(4, .int (x4 + 1)), (0, .ref (zA Z 6 0))]) C dX5_where_48 1 rfl rfl (by decide) rfl ?_
      refine r_goto (tgt := 36) C dX5_where_51 (by decide) ?_
      refine r_lv [1, 0] (lv' := [(0, .ref (zA Z 6 0)), (4, .int (x4 + 1))]) rfl ?_
      exact ih M (x4 + 1)
noncomputable def fX5_where   (M : Mi) (x1 : Int32) (x2 : Int32) : Option (Int32 × Mi) := (if (fX5_wrongReader (M 0) x1 x2) = 0 then (Option.bind (fX5_soonestOf M x1 x2) (fun a2 => (if 0 ≤ a2.1 then (fX5_where_36 fu (a2.2) 0) else (Option.bind (fX5_finds (a2.2) (-1000000004)) (fun a5 => (some (a5.1, (a5.2)))))))) else (Option.bind (fX5_finds M (fX5_wrongReader (M 0) x1 x2)) (fun a6 => (some (a6.1, (a6.2))))))
theorem bX5_where {Z : Zt} {E : Ec} {N : Ml} (C : Ok 2 Z E cX5_where 5 RX5 (some .int) 6)    (M : Mi) (x1 : Int32) (x2 : Int32)  : GT Z E 5 (finX5_where N) 0 [(0, .ref (zA Z 6 0)), (1, .int x1), (2, .int x2)] [] M N (fX5_where M x1 x2) := by
  unfold fX5_where
  refine r_aload_n C dX5_where_0 0 0 rfl rfl ?_
  refine r_iload_n C dX5_where_1 1 1 rfl rfl ?_
  refine r_iload_n C dX5_where_2 2 2 rfl rfl ?_
  refine r_callV (rest := []) (st2 := [.int (fX5_wrongReader (M 0) x1 x2)]) C (mX5_wrongReader (eL E) C.z M _ (M 0) x1 x2).selfR lk_X5_201 (rvM C) (by decide) rfl rfl (Nat.le_of_ble_eq_true rfl) dX5_where_3 rfl ?_
  refine r_istore_n (lv' := [(3, .int (fX5_wrongReader (M 0) x1 x2)), (0, .ref (zA Z 6 0)), (1, .int x1), (2, .int x2)]) C dX5_where_6 3 rfl (by decide) rfl ?_
  refine r_iload_n C dX5_where_7 3 0 rfl rfl ?_
  refine r_if_eq (tgt := 17) C dX5_where_8 (by decide) (fun c1 => ?_) (fun c1 => ?_)
  · refine r_aload_n C dX5_where_17 0 1 rfl rfl ?_
    refine r_iload_n C dX5_where_18 1 2 rfl rfl ?_
    refine r_iload_n C dX5_where_19 2 3 rfl rfl ?_
    refine r_bind (fun a2 ha2 => ?_)
    refine r_callV (rest := []) (st2 := [.int a2.1]) C (mX5_soonestOf (eL E) C.z M N x1 x2 a2 ha2) lk_X5_204 (rvM C) (by decide) rfl rfl (Nat.le_of_ble_eq_true rfl) dX5_where_20 rfl ?_
    refine r_if_ge (tgt := 33) C dX5_where_23 (by decide) (fun c3 => ?_) (fun c3 => ?_)
    · refine r_iconst (v := 0) C dX5_where_33 (by decide) ?_
      refine r_istore (lv' := [(4, .int 0), (3, .int (fX5_wrongReader (M 0) x1 x2)), (0, .ref (zA Z 6 0)), (1, .int x1), (2, .int x2)]) C dX5_where_34 (by decide) rfl ?_
      refine r_lv [2, 0] (lv' := [(0, .ref (zA Z 6 0)), (4, .int 0)]) rfl ?_
      exact bX5_where_36 C fu (a2.2) 0
    · refine r_aload_n C dX5_where_26 0 1 rfl rfl ?_
      refine r_ldc (v := (-1000000004)) C dX5_where_27 wd_981 ?_
      refine r_bind (fun a5 ha5 => ?_)
      refine r_callV (rest := []) (st2 := [.int a5.1]) C (mX5_finds (eL E) C.z (a2.2) N (-1000000004) a5 ha5) lk_X5_65 (rvM C) (by decide) rfl rfl (Nat.le_of_ble_eq_true rfl) dX5_where_29 rfl ?_
      exact r_iret C dX5_where_32 rfl
  · refine r_aload_n C dX5_where_11 0 1 rfl rfl ?_
    refine r_iload_n C dX5_where_12 3 0 rfl rfl ?_
    refine r_bind (fun a6 ha6 => ?_)
    refine r_callV (rest := []) (st2 := [.int a6.1]) C (mX5_finds (eL E) C.z M N (fX5_wrongReader (M 0) x1 x2) a6 ha6) lk_X5_65 (rvM C) (by decide) rfl rfl (Nat.le_of_ble_eq_true rfl) dX5_where_13 rfl ?_
    exact r_iret C dX5_where_16 rfl
theorem mX5_where (l : Launch) {Z : Zt} (hZ : Zok 2 Z) (M : Mi) (N : Ml) (x1 : Int32) (x2 : Int32) (b : Int32 × Mi) (hb : fX5_where M x1 x2 = some b) : Ct 2 Z l yX5_where cX5_where 5 (some .int) 6 [.ref (zA Z 6 0), .int x1, .int x2] M N (some (Value.int b.1), b.2, N) :=
  metG (fin := (finX5_where N)) (by decide) (Nat.le_of_ble_eq_true rfl) (fun E _ C => bX5_where C M x1 x2) hb
theorem dX5_waits_0 : decode cX5_waits 0 = .ok (.aload_n 0, 1) := by decide +kernel
theorem dX5_waits_1 : decode cX5_waits 1 = .ok (.iload_n 1, 1) := by decide +kernel
theorem dX5_waits_2 : decode cX5_waits 2 = .ok (.iload_n 2, 1) := by decide +kernel
theorem dX5_waits_3 : decode cX5_waits 3 = .ok (.invokevirtual 201, 3) := by decide +kernel
theorem dX5_waits_6 : decode cX5_waits 6 = .ok (.istore_n 3, 1) := by decide +kernel
theorem dX5_waits_7 : decode cX5_waits 7 = .ok (.iload_n 3, 1) := by decide +kernel
theorem dX5_waits_8 : decode cX5_waits 8 = .ok (.ifCond .eq 9, 3) := by decide +kernel
theorem dX5_waits_11 : decode cX5_waits 11 = .ok (.aload_n 0, 1) := by decide +kernel
theorem dX5_waits_12 : decode cX5_waits 12 = .ok (.iload_n 3, 1) := by decide +kernel
theorem dX5_waits_13 : decode cX5_waits 13 = .ok (.invokevirtual 65, 3) := by decide +kernel
theorem dX5_waits_16 : decode cX5_waits 16 = .ok (.ireturn, 1) := by decide +kernel
theorem dX5_waits_17 : decode cX5_waits 17 = .ok (.aload_n 0, 1) := by decide +kernel
theorem dX5_waits_18 : decode cX5_waits 18 = .ok (.invokevirtual 172, 3) := by decide +kernel
theorem dX5_waits_21 : decode cX5_waits 21 = .ok (.iconst 0, 1) := by decide +kernel
theorem dX5_waits_22 : decode cX5_waits 22 = .ok (.istore 4, 2) := by decide +kernel
theorem dX5_waits_24 : decode cX5_waits 24 = .ok (.iload 4, 2) := by decide +kernel
theorem dX5_waits_26 : decode cX5_waits 26 = .ok (.bipush 48, 2) := by decide +kernel
theorem dX5_waits_28 : decode cX5_waits 28 = .ok (.if_icmp .gt 25, 3) := by decide +kernel
theorem dX5_waits_31 : decode cX5_waits 31 = .ok (.aload_n 0, 1) := by decide +kernel
theorem dX5_waits_32 : decode cX5_waits 32 = .ok (.iload_n 2, 1) := by decide +kernel
theorem dX5_waits_33 : decode cX5_waits 33 = .ok (.invokevirtual 191, 3) := by decide +kernel
theorem dX5_waits_36 : decode cX5_waits 36 = .ok (.iload_n 1, 1) := by decide +kernel
theorem dX5_waits_37 : decode cX5_waits 37 = .ok (.ishr, 1) := by decide +kernel
theorem dX5_waits_38 : decode cX5_waits 38 = .ok (.iconst 1, 1) := by decide +kernel
theorem dX5_waits_39 : decode cX5_waits 39 = .ok (.iand, 1) := by decide +kernel
theorem dX5_waits_40 : decode cX5_waits 40 = .ok (.ifCond .ne 13, 3) := by decide +kernel
theorem dX5_waits_43 : decode cX5_waits 43 = .ok (.aload_n 0, 1) := by decide +kernel
theorem dX5_waits_44 : decode cX5_waits 44 = .ok (.invokevirtual 155, 3) := by decide +kernel
theorem dX5_waits_47 : decode cX5_waits 47 = .ok (.iinc 4 1, 3) := by decide +kernel
theorem dX5_waits_50 : decode cX5_waits 50 = .ok (.goto (-26), 3) := by decide +kernel
theorem dX5_waits_53 : decode cX5_waits 53 = .ok (.aload_n 0, 1) := by decide +kernel
theorem dX5_waits_54 : decode cX5_waits 54 = .ok (.aload_n 0, 1) := by decide +kernel
theorem dX5_waits_55 : decode cX5_waits 55 = .ok (.iload 4, 2) := by decide +kernel
theorem dX5_waits_57 : decode cX5_waits 57 = .ok (.invokevirtual 175, 3) := by decide +kernel
theorem dX5_waits_60 : decode cX5_waits 60 = .ok (.bipush 48, 2) := by decide +kernel
theorem dX5_waits_62 : decode cX5_waits 62 = .ok (.invokevirtual 181, 3) := by decide +kernel
theorem dX5_waits_65 : decode cX5_waits 65 = .ok (.ireturn, 1) := by decide +kernel
def finX5_waits (N : Ml) : Int32 × Mi → Option Value × Mi × Ml := fun b => (some (Value.int b.1), b.2, N)
noncomputable def fX5_waits_53   (M : Mi) (x4 : Int32) : Option (Int32 × Mi) := (Option.bind (fX5_takesBack M x4) (fun a4 => (Option.bind (fX5_orNone (a4.2) a4.1 48) (fun a5 => (some (a5.1, (a5.2)))))))
theorem bX5_waits_53 {Z : Zt} {E : Ec} {N : Ml} (C : Ok 2 Z E cX5_waits 5 RX5 (some .int) 5)    (M : Mi) (x4 : Int32)  : GT Z E 5 (finX5_waits N) 53 [(0, .ref (zA Z 6 0)), (4, .int x4)] [] M N (fX5_waits_53 M x4) := by
  unfold fX5_waits_53
  refine r_aload_n C dX5_waits_53 0 0 rfl rfl ?_
  refine r_aload_n C dX5_waits_54 0 0 rfl rfl ?_
  refine r_iload C dX5_waits_55 1 rfl ?_
  refine r_bind (fun a4 ha4 => ?_)
  refine r_callV (rest := [.ref (zA Z 6 0)]) (st2 := [.int a4.1, .ref (zA Z 6 0)]) C (mX5_takesBack (eL E) C.z M N x4 a4 ha4) lk_X5_175 (rvM C) (by decide) rfl rfl (Nat.le_of_ble_eq_true rfl) dX5_waits_57 rfl ?_
  refine r_bipush (v := 48) C dX5_waits_60 (by decide) ?_
  refine r_bind (fun a5 ha5 => ?_)
  refine r_callV (rest := []) (st2 := [.int a5.1]) C (mX5_orNone (eL E) C.z (a4.2) N a4.1 48 a5 ha5) lk_X5_181 (rvM C) (by decide) rfl rfl (Nat.le_of_ble_eq_true rfl) dX5_waits_62 rfl ?_
  exact r_iret C dX5_waits_65 rfl
noncomputable def fX5_waits_24   : Nat → Mi → Int32 → Int32 → Int32 → Option (Int32 × Mi)
  | 0 => fun _ _ _ _ => none
  | n + 1 => fun M x1 x2 x4 => (if 48 < x4 then (fX5_waits_53 M x4) else (Option.bind (fX5_places (M 0) x2) (fun a6 => (if ((a6 >>> (x1 &&& 31)) &&& 1) = 0 then (Option.bind (fX5_hour (M 0)) (fun a8 => ((fX5_waits_24 n) (sR M 0 a8) x1 x2 (x4 + 1)))) else (fX5_waits_53 M x4)))))
theorem bX5_waits_24 {Z : Zt} {E : Ec} {N : Ml} (C : Ok 2 Z E cX5_waits 5 RX5 (some .int) 5)    : ∀ (n : Nat) (M : Mi) (x1 : Int32) (x2 : Int32) (x4 : Int32), GT Z E 5 (finX5_waits N) 24 [(0, .ref (zA Z 6 0)), (1, .int x1), (2, .int x2), (4, .int x4)] [] M N (fX5_waits_24 n M x1 x2 x4) := by
  intro n
  induction n with
  | zero => intro M x1 x2 x4; exact r_none
  | succ n ih =>
    intro M x1 x2 x4
    rw [fX5_waits_24]
    refine r_iload C dX5_waits_24 3 rfl ?_
    refine r_bipush (v := 48) C dX5_waits_26 (by decide) ?_
    refine r_ic_gt (tgt := 53) C dX5_waits_28 (by decide) (fun c3 => ?_) (fun c3 => ?_)
    · refine r_lv [0, 3] (lv' := [(0, .ref (zA Z 6 0)), (4, .int x4)]) rfl ?_
      exact bX5_waits_53 C M x4
    · refine r_aload_n C dX5_waits_31 0 0 rfl rfl ?_
      refine r_iload_n C dX5_waits_32 2 2 rfl rfl ?_
      refine r_bind (fun a6 ha6 => ?_)
      refine r_callV (rest := []) (st2 := [.int a6]) C (mX5_places (eL E) C.z M _ (M 0) x2 a6 ha6).selfR lk_X5_191 (rvM C) (by decide) rfl rfl (Nat.le_of_ble_eq_true rfl) dX5_waits_33 rfl ?_
      refine r_iload_n C dX5_waits_36 1 1 rfl rfl ?_
      refine r_ishr C dX5_waits_37 ?_
      refine r_iconst (v := 1) C dX5_waits_38 (by decide) ?_
      refine r_iand C dX5_waits_39 ?_
      refine r_if_ne (tgt := 53) C dX5_waits_40 (by decide) (fun c7 => ?_) (fun c7 => ?_)
      · refine r_lv [0, 3] (lv' := [(0, .ref (zA Z 6 0)), (4, .int x4)]) rfl ?_
        exact bX5_waits_53 C M x4
      · refine r_aload_n C dX5_waits_43 0 0 rfl rfl ?_
        refine r_bind (fun a8 ha8 => ?_)
        refine r_callV (rest := []) (st2 := []) C (mX5_hour (eL E) C.z M _ (M 0) a8 ha8).selfW lk_X5_155 (rvM C) (by decide) rfl rfl (Nat.le_of_ble_eq_true rfl) dX5_waits_44 rfl ?_
        refine r_iinc (v := (x4 + 1)) (lv' := [(4, .int (x4 + 1)), (0, .ref (zA Z 6 0)), (1, .int x1), (2, .int x2)]) C dX5_waits_47 3 rfl rfl (by decide) rfl ?_
        refine r_goto (tgt := 24) C dX5_waits_50 (by decide) ?_
        refine r_lv [1, 2, 3, 0] (lv' := [(0, .ref (zA Z 6 0)), (1, .int x1), (2, .int x2), (4, .int (x4 + 1))]) rfl ?_
        exact ih (sR M 0 a8) x1 x2 (x4 + 1)
noncomputable def fX5_waits   (M : Mi) (x1 : Int32) (x2 : Int32) : Option (Int32 × Mi) := (if (fX5_wrongReader (M 0) x1 x2) = 0 then (Option.bind (fX5_laysAside M) (fun a2 => (fX5_waits_24 fu a2 x1 x2 0))) else (Option.bind (fX5_finds M (fX5_wrongReader (M 0) x1 x2)) (fun a9 => (some (a9.1, (a9.2))))))
theorem bX5_waits {Z : Zt} {E : Ec} {N : Ml} (C : Ok 2 Z E cX5_waits 5 RX5 (some .int) 5)    (M : Mi) (x1 : Int32) (x2 : Int32)  : GT Z E 5 (finX5_waits N) 0 [(0, .ref (zA Z 6 0)), (1, .int x1), (2, .int x2)] [] M N (fX5_waits M x1 x2) := by
  unfold fX5_waits
  refine r_aload_n C dX5_waits_0 0 0 rfl rfl ?_
  refine r_iload_n C dX5_waits_1 1 1 rfl rfl ?_
  refine r_iload_n C dX5_waits_2 2 2 rfl rfl ?_
  refine r_callV (rest := []) (st2 := [.int (fX5_wrongReader (M 0) x1 x2)]) C (mX5_wrongReader (eL E) C.z M _ (M 0) x1 x2).selfR lk_X5_201 (rvM C) (by decide) rfl rfl (Nat.le_of_ble_eq_true rfl) dX5_waits_3 rfl ?_
  refine r_istore_n (lv' := [(3, .int (fX5_wrongReader (M 0) x1 x2)), (0, .ref (zA Z 6 0)), (1, .int x1), (2, .int x2)]) C dX5_waits_6 3 rfl (by decide) rfl ?_
  refine r_iload_n C dX5_waits_7 3 0 rfl rfl ?_
  refine r_if_eq (tgt := 17) C dX5_waits_8 (by decide) (fun c1 => ?_) (fun c1 => ?_)
  · refine r_aload_n C dX5_waits_17 0 1 rfl rfl ?_
    refine r_bind (fun a2 ha2 => ?_)
    refine r_callV (rest := []) (st2 := []) C (mX5_laysAside (eL E) C.z M N a2 ha2) lk_X5_172 (rvM C) (by decide) rfl rfl (Nat.le_of_ble_eq_true rfl) dX5_waits_18 rfl ?_
    refine r_iconst (v := 0) C dX5_waits_21 (by decide) ?_
    refine r_istore (lv' := [(4, .int 0), (3, .int (fX5_wrongReader (M 0) x1 x2)), (0, .ref (zA Z 6 0)), (1, .int x1), (2, .int x2)]) C dX5_waits_22 (by decide) rfl ?_
    refine r_lv [2, 3, 4, 0] (lv' := [(0, .ref (zA Z 6 0)), (1, .int x1), (2, .int x2), (4, .int 0)]) rfl ?_
    exact bX5_waits_24 C fu a2 x1 x2 0
  · refine r_aload_n C dX5_waits_11 0 1 rfl rfl ?_
    refine r_iload_n C dX5_waits_12 3 0 rfl rfl ?_
    refine r_bind (fun a9 ha9 => ?_)
    refine r_callV (rest := []) (st2 := [.int a9.1]) C (mX5_finds (eL E) C.z M N (fX5_wrongReader (M 0) x1 x2) a9 ha9) lk_X5_65 (rvM C) (by decide) rfl rfl (Nat.le_of_ble_eq_true rfl) dX5_waits_13 rfl ?_
    exact r_iret C dX5_waits_16 rfl
theorem mX5_waits (l : Launch) {Z : Zt} (hZ : Zok 2 Z) (M : Mi) (N : Ml) (x1 : Int32) (x2 : Int32) (b : Int32 × Mi) (hb : fX5_waits M x1 x2 = some b) : Ct 2 Z l yX5_waits cX5_waits 5 (some .int) 5 [.ref (zA Z 6 0), .int x1, .int x2] M N (some (Value.int b.1), b.2, N) :=
  metG (fin := (finX5_waits N)) (by decide) (Nat.le_of_ble_eq_true rfl) (fun E _ C => bX5_waits C M x1 x2) hb
theorem dX5_waterhole_0 : decode cX5_waterhole 0 = .ok (.iload_n 1, 1) := by decide +kernel
theorem dX5_waterhole_1 : decode cX5_waterhole 1 = .ok (.invokestatic 133, 3) := by decide +kernel
theorem dX5_waterhole_4 : decode cX5_waterhole 4 = .ok (.ifCond .ne 10, 3) := by decide +kernel
theorem dX5_waterhole_7 : decode cX5_waterhole 7 = .ok (.aload_n 0, 1) := by decide +kernel
theorem dX5_waterhole_8 : decode cX5_waterhole 8 = .ok (.ldc 41, 2) := by decide +kernel
theorem dX5_waterhole_10 : decode cX5_waterhole 10 = .ok (.invokevirtual 65, 3) := by decide +kernel
theorem dX5_waterhole_13 : decode cX5_waterhole 13 = .ok (.ireturn, 1) := by decide +kernel
theorem dX5_waterhole_14 : decode cX5_waterhole 14 = .ok (.aload_n 0, 1) := by decide +kernel
theorem dX5_waterhole_15 : decode cX5_waterhole 15 = .ok (.invokevirtual 172, 3) := by decide +kernel
theorem dX5_waterhole_18 : decode cX5_waterhole 18 = .ok (.iconst (-1), 1) := by decide +kernel
theorem dX5_waterhole_19 : decode cX5_waterhole 19 = .ok (.istore_n 2, 1) := by decide +kernel
theorem dX5_waterhole_20 : decode cX5_waterhole 20 = .ok (.iconst 0, 1) := by decide +kernel
theorem dX5_waterhole_21 : decode cX5_waterhole 21 = .ok (.istore_n 3, 1) := by decide +kernel
theorem dX5_waterhole_22 : decode cX5_waterhole 22 = .ok (.iload_n 3, 1) := by decide +kernel
theorem dX5_waterhole_23 : decode cX5_waterhole 23 = .ok (.bipush 48, 2) := by decide +kernel
theorem dX5_waterhole_25 : decode cX5_waterhole 25 = .ok (.if_icmp .gt 62, 3) := by decide +kernel
theorem dX5_waterhole_28 : decode cX5_waterhole 28 = .ok (.iload_n 2, 1) := by decide +kernel
theorem dX5_waterhole_29 : decode cX5_waterhole 29 = .ok (.ifCond .ge 58, 3) := by decide +kernel
theorem dX5_waterhole_32 : decode cX5_waterhole 32 = .ok (.aload_n 0, 1) := by decide +kernel
theorem dX5_waterhole_33 : decode cX5_waterhole 33 = .ok (.iload_n 1, 1) := by decide +kernel
theorem dX5_waterhole_34 : decode cX5_waterhole 34 = .ok (.invokevirtual 191, 3) := by decide +kernel
theorem dX5_waterhole_37 : decode cX5_waterhole 37 = .ok (.aload_n 0, 1) := by decide +kernel
theorem dX5_waterhole_38 : decode cX5_waterhole 38 = .ok (.invokevirtual 188, 3) := by decide +kernel
theorem dX5_waterhole_41 : decode cX5_waterhole 41 = .ok (.iand, 1) := by decide +kernel
theorem dX5_waterhole_42 : decode cX5_waterhole 42 = .ok (.istore 4, 2) := by decide +kernel
theorem dX5_waterhole_44 : decode cX5_waterhole 44 = .ok (.bipush 29, 2) := by decide +kernel
theorem dX5_waterhole_46 : decode cX5_waterhole 46 = .ok (.istore 5, 2) := by decide +kernel
theorem dX5_waterhole_48 : decode cX5_waterhole 48 = .ok (.iload 5, 2) := by decide +kernel
theorem dX5_waterhole_50 : decode cX5_waterhole 50 = .ok (.ifCond .lt 27, 3) := by decide +kernel
theorem dX5_waterhole_53 : decode cX5_waterhole 53 = .ok (.iload 4, 2) := by decide +kernel
theorem dX5_waterhole_55 : decode cX5_waterhole 55 = .ok (.iload 5, 2) := by decide +kernel
theorem dX5_waterhole_57 : decode cX5_waterhole 57 = .ok (.ishr, 1) := by decide +kernel
theorem dX5_waterhole_58 : decode cX5_waterhole 58 = .ok (.iconst 1, 1) := by decide +kernel
theorem dX5_waterhole_59 : decode cX5_waterhole 59 = .ok (.iand, 1) := by decide +kernel
theorem dX5_waterhole_60 : decode cX5_waterhole 60 = .ok (.iconst 1, 1) := by decide +kernel
theorem dX5_waterhole_61 : decode cX5_waterhole 61 = .ok (.if_icmp .ne 8, 3) := by decide +kernel
theorem dX5_waterhole_64 : decode cX5_waterhole 64 = .ok (.iload 5, 2) := by decide +kernel
theorem dX5_waterhole_66 : decode cX5_waterhole 66 = .ok (.goto 4, 3) := by decide +kernel
theorem dX5_waterhole_69 : decode cX5_waterhole 69 = .ok (.iload_n 2, 1) := by decide +kernel
theorem dX5_waterhole_70 : decode cX5_waterhole 70 = .ok (.istore_n 2, 1) := by decide +kernel
theorem dX5_waterhole_71 : decode cX5_waterhole 71 = .ok (.iinc 5 (-1), 3) := by decide +kernel
theorem dX5_waterhole_74 : decode cX5_waterhole 74 = .ok (.goto (-26), 3) := by decide +kernel
theorem dX5_waterhole_77 : decode cX5_waterhole 77 = .ok (.aload_n 0, 1) := by decide +kernel
theorem dX5_waterhole_78 : decode cX5_waterhole 78 = .ok (.invokevirtual 155, 3) := by decide +kernel
theorem dX5_waterhole_81 : decode cX5_waterhole 81 = .ok (.iinc 3 1, 3) := by decide +kernel
theorem dX5_waterhole_84 : decode cX5_waterhole 84 = .ok (.goto (-62), 3) := by decide +kernel
theorem dX5_waterhole_87 : decode cX5_waterhole 87 = .ok (.aload_n 0, 1) := by decide +kernel
theorem dX5_waterhole_88 : decode cX5_waterhole 88 = .ok (.aload_n 0, 1) := by decide +kernel
theorem dX5_waterhole_89 : decode cX5_waterhole 89 = .ok (.iload_n 2, 1) := by decide +kernel
theorem dX5_waterhole_90 : decode cX5_waterhole 90 = .ok (.invokevirtual 175, 3) := by decide +kernel
theorem dX5_waterhole_93 : decode cX5_waterhole 93 = .ok (.bipush 30, 2) := by decide +kernel
theorem dX5_waterhole_95 : decode cX5_waterhole 95 = .ok (.invokevirtual 181, 3) := by decide +kernel
theorem dX5_waterhole_98 : decode cX5_waterhole 98 = .ok (.ireturn, 1) := by decide +kernel
def finX5_waterhole (N : Ml) : Int32 × Mi → Option Value × Mi × Ml := fun b => (some (Value.int b.1), b.2, N)
noncomputable def fX5_waterhole_87   (M : Mi) (x2 : Int32) : Option (Int32 × Mi) := (Option.bind (fX5_takesBack M x2) (fun a4 => (Option.bind (fX5_orNone (a4.2) a4.1 30) (fun a5 => (some (a5.1, (a5.2)))))))
theorem bX5_waterhole_87 {Z : Zt} {E : Ec} {N : Ml} (C : Ok 2 Z E cX5_waterhole 6 RX5 (some .int) 5)    (M : Mi) (x2 : Int32)  : GT Z E 6 (finX5_waterhole N) 87 [(0, .ref (zA Z 6 0)), (2, .int x2)] [] M N (fX5_waterhole_87 M x2) := by
  unfold fX5_waterhole_87
  refine r_aload_n C dX5_waterhole_87 0 0 rfl rfl ?_
  refine r_aload_n C dX5_waterhole_88 0 0 rfl rfl ?_
  refine r_iload_n C dX5_waterhole_89 2 1 rfl rfl ?_
  refine r_bind (fun a4 ha4 => ?_)
  refine r_callV (rest := [.ref (zA Z 6 0)]) (st2 := [.int a4.1, .ref (zA Z 6 0)]) C (mX5_takesBack (eL E) C.z M N x2 a4 ha4) lk_X5_175 (rvM C) (by decide) rfl rfl (Nat.le_of_ble_eq_true rfl) dX5_waterhole_90 rfl ?_
  refine r_bipush (v := 30) C dX5_waterhole_93 (by decide) ?_
  refine r_bind (fun a5 ha5 => ?_)
  refine r_callV (rest := []) (st2 := [.int a5.1]) C (mX5_orNone (eL E) C.z (a4.2) N a4.1 30 a5 ha5) lk_X5_181 (rvM C) (by decide) rfl rfl (Nat.le_of_ble_eq_true rfl) dX5_waterhole_95 rfl ?_
  exact r_iret C dX5_waterhole_98 rfl
noncomputable def fX5_waterhole_48  (r77 : Mi → Int32 → Int32 → Int32 → Option (Int32 × Mi)) : Nat → Mi → Int32 → Int32 → Int32 → Int32 → Int32 → Option (Int32 × Mi)
  | 0 => fun _ _ _ _ _ _ => none
  | n + 1 => fun M x1 x2 x3 x4 x5 => (if x5 < 0 then (r77 M x1 x2 x3) else ((fX5_waterhole_48 r77 n) M x1 (if ((x4 >>> (x5 &&& 31)) &&& 1) = 1 then x5 else x2 : Int32) x3 x4 (x5 + (-1))))
theorem bX5_waterhole_48 {Z : Zt} {E : Ec} {N : Ml} (C : Ok 2 Z E cX5_waterhole 6 RX5 (some .int) 5)  (r77 : Mi → Int32 → Int32 → Int32 → Option (Int32 × Mi)) (hr77 : ∀ (M : Mi) (x1 : Int32) (x2 : Int32) (x3 : Int32), GT Z E 6 (finX5_waterhole N) 77 [(0, .ref (zA Z 6 0)), (1, .int x1), (2, .int x2), (3, .int x3)] [] M N (r77 M x1 x2 x3)) : ∀ (n : Nat) (M : Mi) (x1 : Int32) (x2 : Int32) (x3 : Int32) (x4 : Int32) (x5 : Int32), GT Z E 6 (finX5_waterhole N) 48 [(0, .ref (zA Z 6 0)), (1, .int x1), (2, .int x2), (3, .int x3), (4, .int x4), (5, .int x5)] [] M N (fX5_waterhole_48 r77 n M x1 x2 x3 x4 x5) := by
  intro n
  induction n with
  | zero => intro M x1 x2 x3 x4 x5; exact r_none
  | succ n ih =>
    intro M x1 x2 x3 x4 x5
    rw [fX5_waterhole_48]
    refine r_iload C dX5_waterhole_48 5 rfl ?_
    refine r_if_lt (tgt := 77) C dX5_waterhole_50 (by decide) (fun c8 => ?_) (fun c8 => ?_)
    · refine r_lv [0, 1, 2, 3] (lv' := [(0, .ref (zA Z 6 0)), (1, .int x1), (2, .int x2), (3, .int x3)]) rfl ?_
      exact hr77 M x1 x2 x3
    · refine r_iload C dX5_waterhole_53 4 rfl ?_
      refine r_iload C dX5_waterhole_55 5 rfl ?_
      refine r_ishr C dX5_waterhole_57 ?_
      refine r_iconst (v := 1) C dX5_waterhole_58 (by decide) ?_
      refine r_iand C dX5_waterhole_59 ?_
      refine r_iconst (v := 1) C dX5_waterhole_60 (by decide) ?_
      refine r_sel (tj := 70) (sj := [.int (if ((x4 >>> (x5 &&& 31)) &&& 1) = 1 then x5 else x2 : Int32)]) ?_ (fun k10 => ?_)
      · refine r_istore_n (lv' := [(2, .int (if ((x4 >>> (x5 &&& 31)) &&& 1) = 1 then x5 else x2 : Int32)), (0, .ref (zA Z 6 0)), (1, .int x1), (3, .int x3), (4, .int x4), (5, .int x5)]) C dX5_waterhole_70 2 rfl (by decide) rfl ?_
        refine r_iinc (v := (x5 + (-1))) (lv' := [(5, .int (x5 + (-1))), (2, .int (if ((x4 >>> (x5 &&& 31)) &&& 1) = 1 then x5 else x2 : Int32)), (0, .ref (zA Z 6 0)), (1, .int x1), (3, .int x3), (4, .int x4)]) C dX5_waterhole_71 5 rfl rfl (by decide) rfl ?_
        refine r_goto (tgt := 48) C dX5_waterhole_74 (by decide) ?_
        refine r_lv [2, 3, 1, 4, 5, 0] (lv' := [(0, .ref (zA Z 6 0)), (1, .int x1), (2, .int (if ((x4 >>> (x5 &&& 31)) &&& 1) = 1 then x5 else x2 : Int32)), (3, .int x3), (4, .int x4), (5, .int (x5 + (-1)))]) rfl ?_
        exact ih M x1 (if ((x4 >>> (x5 &&& 31)) &&& 1) = 1 then x5 else x2 : Int32) x3 x4 (x5 + (-1))
      · refine r_same (P := ((x4 >>> (x5 &&& 31)) &&& 1) = 1) ?_
        refine r_ic_ne (tgt := 69) C dX5_waterhole_61 (by decide) (fun c9 => ?_) (fun c9 => ?_)
        · refine r_iload_n C dX5_waterhole_69 2 2 rfl rfl ?_
          exact r_stk (if_neg c9) k10
        · refine r_iload C dX5_waterhole_64 5 rfl ?_
          refine r_goto (tgt := 70) C dX5_waterhole_66 (by decide) ?_
          exact r_stk (if_pos c9) k10
noncomputable def fX5_waterhole_77  (r22 : Mi → Int32 → Int32 → Int32 → Option (Int32 × Mi)) (M : Mi) (x1 : Int32) (x2 : Int32) (x3 : Int32) : Option (Int32 × Mi) := (Option.bind (fX5_hour (M 0)) (fun a11 => (r22 (sR M 0 a11) x1 x2 (x3 + 1))))
theorem bX5_waterhole_77 {Z : Zt} {E : Ec} {N : Ml} (C : Ok 2 Z E cX5_waterhole 6 RX5 (some .int) 5)  (r22 : Mi → Int32 → Int32 → Int32 → Option (Int32 × Mi)) (hr22 : ∀ (M : Mi) (x1 : Int32) (x2 : Int32) (x3 : Int32), GT Z E 6 (finX5_waterhole N) 22 [(0, .ref (zA Z 6 0)), (1, .int x1), (2, .int x2), (3, .int x3)] [] M N (r22 M x1 x2 x3)) (M : Mi) (x1 : Int32) (x2 : Int32) (x3 : Int32)  : GT Z E 6 (finX5_waterhole N) 77 [(0, .ref (zA Z 6 0)), (1, .int x1), (2, .int x2), (3, .int x3)] [] M N (fX5_waterhole_77 r22 M x1 x2 x3) := by
  unfold fX5_waterhole_77
  refine r_aload_n C dX5_waterhole_77 0 0 rfl rfl ?_
  refine r_bind (fun a11 ha11 => ?_)
  refine r_callV (rest := []) (st2 := []) C (mX5_hour (eL E) C.z M _ (M 0) a11 ha11).selfW lk_X5_155 (rvM C) (by decide) rfl rfl (Nat.le_of_ble_eq_true rfl) dX5_waterhole_78 rfl ?_
  refine r_iinc (v := (x3 + 1)) (lv' := [(3, .int (x3 + 1)), (0, .ref (zA Z 6 0)), (1, .int x1), (2, .int x2)]) C dX5_waterhole_81 3 rfl rfl (by decide) rfl ?_
  refine r_goto (tgt := 22) C dX5_waterhole_84 (by decide) ?_
  refine r_lv [1, 2, 3, 0] (lv' := [(0, .ref (zA Z 6 0)), (1, .int x1), (2, .int x2), (3, .int (x3 + 1))]) rfl ?_
  exact hr22 (sR M 0 a11) x1 x2 (x3 + 1)
noncomputable def fX5_waterhole_22   : Nat → Mi → Int32 → Int32 → Int32 → Option (Int32 × Mi)
  | 0 => fun _ _ _ _ => none
  | n + 1 => fun M x1 x2 x3 => (if 48 < x3 then (fX5_waterhole_87 M x2) else (if 0 ≤ x2 then (fX5_waterhole_87 M x2) else (Option.bind (fX5_places (M 0) x1) (fun a7 => (fX5_waterhole_48 (fX5_waterhole_77 (fX5_waterhole_22 n)) fu M x1 x2 x3 (a7 &&& (fX5_open (M 0))) 29)))))
theorem bX5_waterhole_22 {Z : Zt} {E : Ec} {N : Ml} (C : Ok 2 Z E cX5_waterhole 6 RX5 (some .int) 5)    : ∀ (n : Nat) (M : Mi) (x1 : Int32) (x2 : Int32) (x3 : Int32), GT Z E 6 (finX5_waterhole N) 22 [(0, .ref (zA Z 6 0)), (1, .int x1), (2, .int x2), (3, .int x3)] [] M N (fX5_waterhole_22 n M x1 x2 x3) := by
  intro n
  induction n with
  | zero => intro M x1 x2 x3; exact r_none
  | succ n ih =>
    intro M x1 x2 x3
    rw [fX5_waterhole_22]
    refine r_iload_n C dX5_waterhole_22 3 3 rfl rfl ?_
    refine r_bipush (v := 48) C dX5_waterhole_23 (by decide) ?_
    refine r_ic_gt (tgt := 87) C dX5_waterhole_25 (by decide) (fun c3 => ?_) (fun c3 => ?_)
    · refine r_lv [0, 2] (lv' := [(0, .ref (zA Z 6 0)), (2, .int x2)]) rfl ?_
      exact bX5_waterhole_87 C M x2
    · refine r_iload_n C dX5_waterhole_28 2 2 rfl rfl ?_
      refine r_if_ge (tgt := 87) C dX5_waterhole_29 (by decide) (fun c6 => ?_) (fun c6 => ?_)
      · refine r_lv [0, 2] (lv' := [(0, .ref (zA Z 6 0)), (2, .int x2)]) rfl ?_
        exact bX5_waterhole_87 C M x2
      · refine r_aload_n C dX5_waterhole_32 0 0 rfl rfl ?_
        refine r_iload_n C dX5_waterhole_33 1 1 rfl rfl ?_
        refine r_bind (fun a7 ha7 => ?_)
        refine r_callV (rest := []) (st2 := [.int a7]) C (mX5_places (eL E) C.z M _ (M 0) x1 a7 ha7).selfR lk_X5_191 (rvM C) (by decide) rfl rfl (Nat.le_of_ble_eq_true rfl) dX5_waterhole_34 rfl ?_
        refine r_aload_n C dX5_waterhole_37 0 0 rfl rfl ?_
        refine r_callV (rest := [.int a7]) (st2 := [.int (fX5_open (M 0)), .int a7]) C (mX5_open (eL E) C.z M _ (M 0)).selfR lk_X5_188 (rvM C) (by decide) rfl rfl (Nat.le_of_ble_eq_true rfl) dX5_waterhole_38 rfl ?_
        refine r_iand C dX5_waterhole_41 ?_
        refine r_istore (lv' := [(4, .int (a7 &&& (fX5_open (M 0)))), (0, .ref (zA Z 6 0)), (1, .int x1), (2, .int x2), (3, .int x3)]) C dX5_waterhole_42 (by decide) rfl ?_
        refine r_bipush (v := 29) C dX5_waterhole_44 (by decide) ?_
        refine r_istore (lv' := [(5, .int 29), (4, .int (a7 &&& (fX5_open (M 0)))), (0, .ref (zA Z 6 0)), (1, .int x1), (2, .int x2), (3, .int x3)]) C dX5_waterhole_46 (by decide) rfl ?_
        refine r_lv [2, 3, 4, 5, 1, 0] (lv' := [(0, .ref (zA Z 6 0)), (1, .int x1), (2, .int x2), (3, .int x3), (4, .int (a7 &&& (fX5_open (M 0)))), (5, .int 29)]) rfl ?_
        exact bX5_waterhole_48 C (fX5_waterhole_77 (fX5_waterhole_22 n)) (bX5_waterhole_77 C (fX5_waterhole_22 n) ih) fu M x1 x2 x3 (a7 &&& (fX5_open (M 0))) 29
noncomputable def fX5_waterhole   (M : Mi) (x1 : Int32) : Option (Int32 × Mi) := (if (fX5_isSubject x1) = 0 then (Option.bind (fX5_finds M (-1000000001)) (fun a12 => (some (a12.1, (a12.2))))) else (Option.bind (fX5_laysAside M) (fun a2 => (fX5_waterhole_22 fu a2 x1 (-1) 0))))
theorem bX5_waterhole {Z : Zt} {E : Ec} {N : Ml} (C : Ok 2 Z E cX5_waterhole 6 RX5 (some .int) 5)    (M : Mi) (x1 : Int32)  : GT Z E 6 (finX5_waterhole N) 0 [(0, .ref (zA Z 6 0)), (1, .int x1)] [] M N (fX5_waterhole M x1) := by
  unfold fX5_waterhole
  refine r_iload_n C dX5_waterhole_0 1 1 rfl rfl ?_
  refine r_callS (rest := []) (st2 := [.int (fX5_isSubject x1)]) C (mX5_isSubject (eL E) C.z _ _ x1) lk_X5_133 (by decide) rfl rfl (Nat.le_of_ble_eq_true rfl) dX5_waterhole_1 rfl ?_
  refine r_if_ne (tgt := 14) C dX5_waterhole_4 (by decide) (fun c1 => ?_) (fun c1 => ?_)
  · refine r_aload_n C dX5_waterhole_14 0 0 rfl rfl ?_
    refine r_bind (fun a2 ha2 => ?_)
    refine r_callV (rest := []) (st2 := []) C (mX5_laysAside (eL E) C.z M N a2 ha2) lk_X5_172 (rvM C) (by decide) rfl rfl (Nat.le_of_ble_eq_true rfl) dX5_waterhole_15 rfl ?_
    refine r_iconst (v := (-1)) C dX5_waterhole_18 (by decide) ?_
    refine r_istore_n (lv' := [(2, .int (-1)), (0, .ref (zA Z 6 0)), (1, .int x1)]) C dX5_waterhole_19 2 rfl (by decide) rfl ?_
    refine r_iconst (v := 0) C dX5_waterhole_20 (by decide) ?_
    refine r_istore_n (lv' := [(3, .int 0), (2, .int (-1)), (0, .ref (zA Z 6 0)), (1, .int x1)]) C dX5_waterhole_21 3 rfl (by decide) rfl ?_
    refine r_lv [2, 3, 1, 0] (lv' := [(0, .ref (zA Z 6 0)), (1, .int x1), (2, .int (-1)), (3, .int 0)]) rfl ?_
    exact bX5_waterhole_22 C fu a2 x1 (-1) 0
  · refine r_aload_n C dX5_waterhole_7 0 0 rfl rfl ?_
    refine r_ldc (v := (-1000000001)) C dX5_waterhole_8 wd_859 ?_
    refine r_bind (fun a12 ha12 => ?_)
    refine r_callV (rest := []) (st2 := [.int a12.1]) C (mX5_finds (eL E) C.z M N (-1000000001) a12 ha12) lk_X5_65 (rvM C) (by decide) rfl rfl (Nat.le_of_ble_eq_true rfl) dX5_waterhole_10 rfl ?_
    exact r_iret C dX5_waterhole_13 rfl
theorem mX5_waterhole (l : Launch) {Z : Zt} (hZ : Zok 2 Z) (M : Mi) (N : Ml) (x1 : Int32) (b : Int32 × Mi) (hb : fX5_waterhole M x1 = some b) : Ct 2 Z l yX5_waterhole cX5_waterhole 6 (some .int) 5 [.ref (zA Z 6 0), .int x1] M N (some (Value.int b.1), b.2, N) :=
  metG (fin := (finX5_waterhole N)) (by decide) (Nat.le_of_ble_eq_true rfl) (fun E _ C => bX5_waterhole C M x1) hb
theorem dX5_many_0 : decode cX5_many 0 = .ok (.iload_n 1, 1) := by decide +kernel
theorem dX5_many_1 : decode cX5_many 1 = .ok (.invokestatic 62, 3) := by decide +kernel
theorem dX5_many_4 : decode cX5_many 4 = .ok (.ifCond .eq 15, 3) := by decide +kernel
theorem dX5_many_7 : decode cX5_many 7 = .ok (.iload_n 2, 1) := by decide +kernel
theorem dX5_many_8 : decode cX5_many 8 = .ok (.i2l, 1) := by decide +kernel
theorem dX5_many_9 : decode cX5_many 9 = .ok (.lconst 0, 1) := by decide +kernel
theorem dX5_many_10 : decode cX5_many 10 = .ok (.ldc2_w 207, 3) := by decide +kernel
theorem dX5_many_13 : decode cX5_many 13 = .ok (.invokestatic 44, 3) := by decide +kernel
theorem dX5_many_16 : decode cX5_many 16 = .ok (.ifCond .ne 10, 3) := by decide +kernel
theorem dX5_many_19 : decode cX5_many 19 = .ok (.aload_n 0, 1) := by decide +kernel
theorem dX5_many_20 : decode cX5_many 20 = .ok (.ldc 41, 2) := by decide +kernel
theorem dX5_many_22 : decode cX5_many 22 = .ok (.invokevirtual 65, 3) := by decide +kernel
theorem dX5_many_25 : decode cX5_many 25 = .ok (.ireturn, 1) := by decide +kernel
theorem dX5_many_26 : decode cX5_many 26 = .ok (.aload_n 0, 1) := by decide +kernel
theorem dX5_many_27 : decode cX5_many 27 = .ok (.iload_n 1, 1) := by decide +kernel
theorem dX5_many_28 : decode cX5_many 28 = .ok (.invokevirtual 69, 3) := by decide +kernel
theorem dX5_many_31 : decode cX5_many 31 = .ok (.ifCond .eq 10, 3) := by decide +kernel
theorem dX5_many_34 : decode cX5_many 34 = .ok (.aload_n 0, 1) := by decide +kernel
theorem dX5_many_35 : decode cX5_many 35 = .ok (.ldc 136, 2) := by decide +kernel
theorem dX5_many_37 : decode cX5_many 37 = .ok (.invokevirtual 65, 3) := by decide +kernel
theorem dX5_many_40 : decode cX5_many 40 = .ok (.ireturn, 1) := by decide +kernel
theorem dX5_many_41 : decode cX5_many 41 = .ok (.iconst 0, 1) := by decide +kernel
theorem dX5_many_42 : decode cX5_many 42 = .ok (.istore_n 3, 1) := by decide +kernel
theorem dX5_many_43 : decode cX5_many 43 = .ok (.iconst 0, 1) := by decide +kernel
theorem dX5_many_44 : decode cX5_many 44 = .ok (.istore 4, 2) := by decide +kernel
theorem dX5_many_46 : decode cX5_many 46 = .ok (.iload 4, 2) := by decide +kernel
theorem dX5_many_48 : decode cX5_many 48 = .ok (.bipush 12, 2) := by decide +kernel
theorem dX5_many_50 : decode cX5_many 50 = .ok (.if_icmp .ge 34, 3) := by decide +kernel
theorem dX5_many_53 : decode cX5_many 53 = .ok (.iload_n 3, 1) := by decide +kernel
theorem dX5_many_54 : decode cX5_many 54 = .ok (.aload_n 0, 1) := by decide +kernel
theorem dX5_many_55 : decode cX5_many 55 = .ok (.iload_n 1, 1) := by decide +kernel
theorem dX5_many_56 : decode cX5_many 56 = .ok (.iload 4, 2) := by decide +kernel
theorem dX5_many_58 : decode cX5_many 58 = .ok (.invokevirtual 204, 3) := by decide +kernel
theorem dX5_many_61 : decode cX5_many 61 = .ok (.i2l, 1) := by decide +kernel
theorem dX5_many_62 : decode cX5_many 62 = .ok (.lconst 0, 1) := by decide +kernel
theorem dX5_many_63 : decode cX5_many 63 = .ok (.iload_n 2, 1) := by decide +kernel
theorem dX5_many_64 : decode cX5_many 64 = .ok (.i2l, 1) := by decide +kernel
theorem dX5_many_65 : decode cX5_many 65 = .ok (.invokestatic 44, 3) := by decide +kernel
theorem dX5_many_68 : decode cX5_many 68 = .ok (.ifCond .eq 7, 3) := by decide +kernel
theorem dX5_many_71 : decode cX5_many 71 = .ok (.iconst 1, 1) := by decide +kernel
theorem dX5_many_72 : decode cX5_many 72 = .ok (.goto 4, 3) := by decide +kernel
theorem dX5_many_75 : decode cX5_many 75 = .ok (.iconst 0, 1) := by decide +kernel
theorem dX5_many_76 : decode cX5_many 76 = .ok (.iadd, 1) := by decide +kernel
theorem dX5_many_77 : decode cX5_many 77 = .ok (.istore_n 3, 1) := by decide +kernel
theorem dX5_many_78 : decode cX5_many 78 = .ok (.iinc 4 1, 3) := by decide +kernel
theorem dX5_many_81 : decode cX5_many 81 = .ok (.goto (-35), 3) := by decide +kernel
theorem dX5_many_84 : decode cX5_many 84 = .ok (.iload_n 3, 1) := by decide +kernel
theorem dX5_many_85 : decode cX5_many 85 = .ok (.ireturn, 1) := by decide +kernel
def finX5_many (N : Ml) : Int32 × Mi → Option Value × Mi × Ml := fun b => (some (Value.int b.1), b.2, N)
noncomputable def fX5_many_19   (M : Mi) : Option (Int32 × Mi) := (Option.bind (fX5_finds M (-1000000001)) (fun a2 => (some (a2.1, (a2.2)))))
theorem bX5_many_19 {Z : Zt} {E : Ec} {N : Ml} (C : Ok 2 Z E cX5_many 5 RX5 (some .int) 6)    (M : Mi)  : GT Z E 5 (finX5_many N) 19 [(0, .ref (zA Z 6 0))] [] M N (fX5_many_19 M) := by
  unfold fX5_many_19
  refine r_aload_n C dX5_many_19 0 0 rfl rfl ?_
  refine r_ldc (v := (-1000000001)) C dX5_many_20 wd_859 ?_
  refine r_bind (fun a2 ha2 => ?_)
  refine r_callV (rest := []) (st2 := [.int a2.1]) C (mX5_finds (eL E) C.z M N (-1000000001) a2 ha2) lk_X5_65 (rvM C) (by decide) rfl rfl (Nat.le_of_ble_eq_true rfl) dX5_many_22 rfl ?_
  exact r_iret C dX5_many_25 rfl
noncomputable def fX5_many_46   : Nat → Mi → Int32 → Int32 → Int32 → Int32 → Option (Int32 × Mi)
  | 0 => fun _ _ _ _ _ => none
  | n + 1 => fun M x1 x2 x3 x4 => (if 12 ≤ x4 then (some (x3, M)) else (Option.bind (fX5_soonestOf M x1 x4) (fun a6 => ((fX5_many_46 n) (a6.2) x1 x2 (x3 + (if (fX5_in (Int32.toInt64 a6.1) 0 (Int32.toInt64 x2)) = 0 then 0 else 1 : Int32)) (x4 + 1)))))
theorem bX5_many_46 {Z : Zt} {E : Ec} {N : Ml} (C : Ok 2 Z E cX5_many 5 RX5 (some .int) 6)    : ∀ (n : Nat) (M : Mi) (x1 : Int32) (x2 : Int32) (x3 : Int32) (x4 : Int32), GT Z E 5 (finX5_many N) 46 [(0, .ref (zA Z 6 0)), (1, .int x1), (2, .int x2), (3, .int x3), (4, .int x4)] [] M N (fX5_many_46 n M x1 x2 x3 x4) := by
  intro n
  induction n with
  | zero => intro M x1 x2 x3 x4; exact r_none
  | succ n ih =>
    intro M x1 x2 x3 x4
    rw [fX5_many_46]
    refine r_iload C dX5_many_46 4 rfl ?_
    refine r_bipush (v := 12) C dX5_many_48 (by decide) ?_
    refine r_ic_ge (tgt := 84) C dX5_many_50 (by decide) (fun c5 => ?_) (fun c5 => ?_)
    · refine r_iload_n C dX5_many_84 3 3 rfl rfl ?_
      exact r_iret C dX5_many_85 rfl
    · refine r_iload_n C dX5_many_53 3 3 rfl rfl ?_
      refine r_aload_n C dX5_many_54 0 0 rfl rfl ?_
      refine r_iload_n C dX5_many_55 1 1 rfl rfl ?_
      refine r_iload C dX5_many_56 4 rfl ?_
      refine r_bind (fun a6 ha6 => ?_)
      refine r_callV (rest := [.int x3]) (st2 := [.int a6.1, .int x3]) C (mX5_soonestOf (eL E) C.z M N x1 x4 a6 ha6) lk_X5_204 (rvM C) (by decide) rfl rfl (Nat.le_of_ble_eq_true rfl) dX5_many_58 rfl ?_
      refine r_i2l C dX5_many_61 ?_
      refine r_lconst (v := 0) C dX5_many_62 (by decide) ?_
      refine r_iload_n C dX5_many_63 2 2 rfl rfl ?_
      refine r_i2l C dX5_many_64 ?_
      refine r_callS (rest := [.int x3]) (st2 := [.int (fX5_in (Int32.toInt64 a6.1) 0 (Int32.toInt64 x2)), .int x3]) C (mX5_in (eL E) C.z _ _ (Int32.toInt64 a6.1) 0 (Int32.toInt64 x2)) lk_X5_44 (by decide) rfl rfl (Nat.le_of_ble_eq_true rfl) dX5_many_65 rfl ?_
      refine r_sel (tj := 76) (sj := [.int (if (fX5_in (Int32.toInt64 a6.1) 0 (Int32.toInt64 x2)) = 0 then 0 else 1 : Int32), .int x3]) ?_ (fun k8 => ?_)
      · refine r_iadd C dX5_many_76 ?_
        refine r_istore_n (lv' := [(3, .int (x3 + (if (fX5_in (Int32.toInt64 a6.1) 0 (Int32.toInt64 x2)) = 0 then 0 else 1 : Int32))), (0, .ref (zA Z 6 0)), (1, .int x1), (2, .int x2), (4, .int x4)]) C dX5_many_77 3 rfl (by decide) rfl ?_
        refine r_iinc (v := (x4 + 1)) (lv' := [(4, .int (x4 + 1)), (3, .int (x3 + (if (fX5_in (Int32.toInt64 a6.1) 0 (Int32.toInt64 x2)) = 0 then 0 else 1 : Int32))), (0, .ref (zA Z 6 0)), (1, .int x1), (2, .int x2)]) C dX5_many_78 4 rfl rfl (by decide) rfl ?_
        refine r_goto (tgt := 46) C dX5_many_81 (by decide) ?_
        refine r_lv [2, 3, 4, 1, 0] (lv' := [(0, .ref (zA Z 6 0)), (1, .int x1), (2, .int x2), (3, .int (x3 + (if (fX5_in (Int32.toInt64 a6.1) 0 (Int32.toInt64 x2)) = 0 then 0 else 1 : Int32))), (4, .int (x4 + 1))]) rfl ?_
        exact ih (a6.2) x1 x2 (x3 + (if (fX5_in (Int32.toInt64 a6.1) 0 (Int32.toInt64 x2)) = 0 then 0 else 1 : Int32)) (x4 + 1)
      · refine r_same (P := (fX5_in (Int32.toInt64 a6.1) 0 (Int32.toInt64 x2)) = 0) ?_
        refine r_if_eq (tgt := 75) C dX5_many_68 (by decide) (fun c7 => ?_) (fun c7 => ?_)
        · refine r_iconst (v := 0) C dX5_many_75 (by decide) ?_
          exact r_stk (if_pos c7) k8
        · refine r_iconst (v := 1) C dX5_many_71 (by decide) ?_
          refine r_goto (tgt := 76) C dX5_many_72 (by decide) ?_
          exact r_stk (if_neg c7) k8
noncomputable def fX5_many   (M : Mi) (x1 : Int32) (x2 : Int32) : Option (Int32 × Mi) := (if (fX5_isCell x1) = 0 then (fX5_many_19 M) else (if (fX5_in (Int32.toInt64 x2) 0 48) = 0 then (fX5_many_19 M) else (if (fX5_isFenced (M 0) x1) = 0 then (fX5_many_46 fu M x1 x2 0 0) else (Option.bind (fX5_finds M (-1000000005)) (fun a9 => (some (a9.1, (a9.2))))))))
theorem bX5_many {Z : Zt} {E : Ec} {N : Ml} (C : Ok 2 Z E cX5_many 5 RX5 (some .int) 6)    (M : Mi) (x1 : Int32) (x2 : Int32)  : GT Z E 5 (finX5_many N) 0 [(0, .ref (zA Z 6 0)), (1, .int x1), (2, .int x2)] [] M N (fX5_many M x1 x2) := by
  unfold fX5_many
  refine r_iload_n C dX5_many_0 1 1 rfl rfl ?_
  refine r_callS (rest := []) (st2 := [.int (fX5_isCell x1)]) C (mX5_isCell (eL E) C.z _ _ x1) lk_X5_62 (by decide) rfl rfl (Nat.le_of_ble_eq_true rfl) dX5_many_1 rfl ?_
  refine r_if_eq (tgt := 19) C dX5_many_4 (by decide) (fun c1 => ?_) (fun c1 => ?_)
  · refine r_lv [0] (lv' := [(0, .ref (zA Z 6 0))]) rfl ?_
    exact bX5_many_19 C M
  · refine r_iload_n C dX5_many_7 2 2 rfl rfl ?_
    refine r_i2l C dX5_many_8 ?_
    refine r_lconst (v := 0) C dX5_many_9 (by decide) ?_
    refine r_ldc2 (v := 48) C dX5_many_10 wd_1107 ?_
    refine r_callS (rest := []) (st2 := [.int (fX5_in (Int32.toInt64 x2) 0 48)]) C (mX5_in (eL E) C.z _ _ (Int32.toInt64 x2) 0 48) lk_X5_44 (by decide) rfl rfl (Nat.le_of_ble_eq_true rfl) dX5_many_13 rfl ?_
    refine r_if_ne (tgt := 26) C dX5_many_16 (by decide) (fun c3 => ?_) (fun c3 => ?_)
    · refine r_aload_n C dX5_many_26 0 0 rfl rfl ?_
      refine r_iload_n C dX5_many_27 1 1 rfl rfl ?_
      refine r_callV (rest := []) (st2 := [.int (fX5_isFenced (M 0) x1)]) C (mX5_isFenced (eL E) C.z M _ (M 0) x1).selfR lk_X5_69 (rvM C) (by decide) rfl rfl (Nat.le_of_ble_eq_true rfl) dX5_many_28 rfl ?_
      refine r_if_eq (tgt := 41) C dX5_many_31 (by decide) (fun c4 => ?_) (fun c4 => ?_)
      · refine r_iconst (v := 0) C dX5_many_41 (by decide) ?_
        refine r_istore_n (lv' := [(3, .int 0), (0, .ref (zA Z 6 0)), (1, .int x1), (2, .int x2)]) C dX5_many_42 3 rfl (by decide) rfl ?_
        refine r_iconst (v := 0) C dX5_many_43 (by decide) ?_
        refine r_istore (lv' := [(4, .int 0), (3, .int 0), (0, .ref (zA Z 6 0)), (1, .int x1), (2, .int x2)]) C dX5_many_44 (by decide) rfl ?_
        refine r_lv [2, 3, 4, 1, 0] (lv' := [(0, .ref (zA Z 6 0)), (1, .int x1), (2, .int x2), (3, .int 0), (4, .int 0)]) rfl ?_
        exact bX5_many_46 C fu M x1 x2 0 0
      · refine r_aload_n C dX5_many_34 0 0 rfl rfl ?_
        refine r_ldc (v := (-1000000005)) C dX5_many_35 wd_980 ?_
        refine r_bind (fun a9 ha9 => ?_)
        refine r_callV (rest := []) (st2 := [.int a9.1]) C (mX5_finds (eL E) C.z M N (-1000000005) a9 ha9) lk_X5_65 (rvM C) (by decide) rfl rfl (Nat.le_of_ble_eq_true rfl) dX5_many_37 rfl ?_
        exact r_iret C dX5_many_40 rfl
    · refine r_lv [0] (lv' := [(0, .ref (zA Z 6 0))]) rfl ?_
      exact bX5_many_19 C M
theorem mX5_many (l : Launch) {Z : Zt} (hZ : Zok 2 Z) (M : Mi) (N : Ml) (x1 : Int32) (x2 : Int32) (b : Int32 × Mi) (hb : fX5_many M x1 x2 = some b) : Ct 2 Z l yX5_many cX5_many 5 (some .int) 6 [.ref (zA Z 6 0), .int x1, .int x2] M N (some (Value.int b.1), b.2, N) :=
  metG (fin := (finX5_many N)) (by decide) (Nat.le_of_ble_eq_true rfl) (fun E _ C => bX5_many C M x1 x2) hb
